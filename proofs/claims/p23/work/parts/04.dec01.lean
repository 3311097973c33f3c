theorem dX8_costs_2 : decode cX8_costs 2 = .ok (.invokevirtual 188, 3) := by decide +kernel
theorem dX8_costs_5 : decode cX8_costs 5 = .ok (.astore 4, 2) := by decide +kernel
theorem dX8_costs_7 : decode cX8_costs 7 = .ok (.aload_n 0, 1) := by decide +kernel
theorem dX8_costs_8 : decode cX8_costs 8 = .ok (.iload_n 2, 1) := by decide +kernel
theorem dX8_costs_9 : decode cX8_costs 9 = .ok (.invokevirtual 214, 3) := by decide +kernel
theorem dX8_costs_12 : decode cX8_costs 12 = .ok (.astore 5, 2) := by decide +kernel
theorem dX8_costs_14 : decode cX8_costs 14 = .ok (.aload 4, 2) := by decide +kernel
theorem dX8_costs_16 : decode cX8_costs 16 = .ok (.ifnull 20, 3) := by decide +kernel
theorem dX8_costs_19 : decode cX8_costs 19 = .ok (.aload 5, 2) := by decide +kernel
theorem dX8_costs_21 : decode cX8_costs 21 = .ok (.ifnull 15, 3) := by decide +kernel
theorem dX8_costs_24 : decode cX8_costs 24 = .ok (.iload_n 3, 1) := by decide +kernel
theorem dX8_costs_25 : decode cX8_costs 25 = .ok (.aload_n 0, 1) := by decide +kernel
theorem dX8_costs_26 : decode cX8_costs 26 = .ok (.getfield 43, 3) := by decide +kernel
theorem dX8_costs_29 : decode cX8_costs 29 = .ok (.arraylength, 1) := by decide +kernel
theorem dX8_costs_30 : decode cX8_costs 30 = .ok (.invokestatic 104, 3) := by decide +kernel
theorem dX8_costs_33 : decode cX8_costs 33 = .ok (.ifCond .ne 13, 3) := by decide +kernel
theorem dX8_costs_36 : decode cX8_costs 36 = .ok (.new 99, 3) := by decide +kernel
theorem dX8_costs_39 : decode cX8_costs 39 = .ok (.dup, 1) := by decide +kernel
theorem dX8_costs_40 : decode cX8_costs 40 = .ok (.ldc 231, 2) := by decide +kernel
theorem dX8_costs_42 : decode cX8_costs 42 = .ok (.invokespecial 103, 3) := by decide +kernel
theorem dX8_costs_45 : decode cX8_costs 45 = .ok (.athrow, 1) := by decide +kernel
theorem dX8_costs_46 : decode cX8_costs 46 = .ok (.aload_n 0, 1) := by decide +kernel
theorem dX8_costs_47 : decode cX8_costs 47 = .ok (.aload 4, 2) := by decide +kernel
theorem dX8_costs_49 : decode cX8_costs 49 = .ok (.aload 5, 2) := by decide +kernel
theorem dX8_costs_51 : decode cX8_costs 51 = .ok (.iload_n 3, 1) := by decide +kernel
theorem dX8_costs_52 : decode cX8_costs 52 = .ok (.invokevirtual 248, 3) := by decide +kernel
theorem dX8_costs_55 : decode cX8_costs 55 = .ok (.aload_n 0, 1) := by decide +kernel
theorem dX8_costs_56 : decode cX8_costs 56 = .ok (.getfield 50, 3) := by decide +kernel
theorem dX8_costs_59 : decode cX8_costs 59 = .ok (.invokevirtual 265, 3) := by decide +kernel
theorem dX8_costs_62 : decode cX8_costs 62 = .ok (.aload_n 0, 1) := by decide +kernel
theorem dX8_costs_63 : decode cX8_costs 63 = .ok (.getfield 43, 3) := by decide +kernel
theorem dX8_costs_66 : decode cX8_costs 66 = .ok (.iload_n 3, 1) := by decide +kernel
theorem dX8_costs_67 : decode cX8_costs 67 = .ok (.iaload, 1) := by decide +kernel
theorem dX8_costs_68 : decode cX8_costs 68 = .ok (.imul, 1) := by decide +kernel
theorem dX8_costs_69 : decode cX8_costs 69 = .ok (.ireturn, 1) := by decide +kernel
theorem dX8_sample_0 : decode cX8_sample 0 = .ok (.aload_n 0, 1) := by decide +kernel
theorem dX8_sample_1 : decode cX8_sample 1 = .ok (.iload_n 1, 1) := by decide +kernel
theorem dX8_sample_2 : decode cX8_sample 2 = .ok (.invokevirtual 188, 3) := by decide +kernel
theorem dX8_sample_5 : decode cX8_sample 5 = .ok (.astore_n 3, 1) := by decide +kernel
theorem dX8_sample_6 : decode cX8_sample 6 = .ok (.aload_n 3, 1) := by decide +kernel
theorem dX8_sample_7 : decode cX8_sample 7 = .ok (.ifnull 7, 3) := by decide +kernel
theorem dX8_sample_10 : decode cX8_sample 10 = .ok (.iload_n 2, 1) := by decide +kernel
theorem dX8_sample_11 : decode cX8_sample 11 = .ok (.ifCond .ge 14, 3) := by decide +kernel
theorem dX8_sample_14 : decode cX8_sample 14 = .ok (.new 99, 3) := by decide +kernel
theorem dX8_sample_17 : decode cX8_sample 17 = .ok (.dup, 1) := by decide +kernel
theorem dX8_sample_18 : decode cX8_sample 18 = .ok (.ldc_w 268, 3) := by decide +kernel
theorem dX8_sample_21 : decode cX8_sample 21 = .ok (.invokespecial 103, 3) := by decide +kernel
theorem dX8_sample_24 : decode cX8_sample 24 = .ok (.athrow, 1) := by decide +kernel
theorem dX8_sample_25 : decode cX8_sample 25 = .ok (.iconst 0, 1) := by decide +kernel
theorem dX8_sample_26 : decode cX8_sample 26 = .ok (.istore 4, 2) := by decide +kernel
theorem dX8_sample_28 : decode cX8_sample 28 = .ok (.iconst 0, 1) := by decide +kernel
theorem dX8_sample_29 : decode cX8_sample 29 = .ok (.istore 5, 2) := by decide +kernel
theorem dX8_sample_31 : decode cX8_sample 31 = .ok (.iload 5, 2) := by decide +kernel
theorem dX8_sample_33 : decode cX8_sample 33 = .ok (.aload_n 0, 1) := by decide +kernel
theorem dX8_sample_34 : decode cX8_sample 34 = .ok (.getfield 206, 3) := by decide +kernel
theorem dX8_sample_37 : decode cX8_sample 37 = .ok (.if_icmp .ge 49, 3) := by decide +kernel
theorem dX8_sample_40 : decode cX8_sample 40 = .ok (.aload_n 0, 1) := by decide +kernel
theorem dX8_sample_41 : decode cX8_sample 41 = .ok (.aload_n 3, 1) := by decide +kernel
theorem dX8_sample_42 : decode cX8_sample 42 = .ok (.iload 4, 2) := by decide +kernel
theorem dX8_sample_44 : decode cX8_sample 44 = .ok (.invokevirtual 270, 3) := by decide +kernel
theorem dX8_sample_47 : decode cX8_sample 47 = .ok (.istore 6, 2) := by decide +kernel
theorem dX8_sample_49 : decode cX8_sample 49 = .ok (.iload 6, 2) := by decide +kernel
theorem dX8_sample_51 : decode cX8_sample 51 = .ok (.iconst (-1), 1) := by decide +kernel
theorem dX8_sample_52 : decode cX8_sample 52 = .ok (.if_icmp .eq 9, 3) := by decide +kernel
theorem dX8_sample_55 : decode cX8_sample 55 = .ok (.iload 5, 2) := by decide +kernel
theorem dX8_sample_57 : decode cX8_sample 57 = .ok (.iload_n 2, 1) := by decide +kernel
theorem dX8_sample_58 : decode cX8_sample 58 = .ok (.if_icmp .ne 6, 3) := by decide +kernel
theorem dX8_sample_61 : decode cX8_sample 61 = .ok (.iload 6, 2) := by decide +kernel
theorem dX8_sample_63 : decode cX8_sample 63 = .ok (.ireturn, 1) := by decide +kernel
theorem dX8_sample_64 : decode cX8_sample 64 = .ok (.iload 4, 2) := by decide +kernel
theorem dX8_sample_66 : decode cX8_sample 66 = .ok (.aload_n 0, 1) := by decide +kernel
theorem dX8_sample_67 : decode cX8_sample 67 = .ok (.aload_n 3, 1) := by decide +kernel
theorem dX8_sample_68 : decode cX8_sample 68 = .ok (.aload_n 0, 1) := by decide +kernel
theorem dX8_sample_69 : decode cX8_sample 69 = .ok (.iload 6, 2) := by decide +kernel
theorem dX8_sample_71 : decode cX8_sample 71 = .ok (.invokevirtual 214, 3) := by decide +kernel
theorem dX8_sample_74 : decode cX8_sample 74 = .ok (.invokevirtual 274, 3) := by decide +kernel
theorem dX8_sample_77 : decode cX8_sample 77 = .ok (.ior, 1) := by decide +kernel
theorem dX8_sample_78 : decode cX8_sample 78 = .ok (.istore 4, 2) := by decide +kernel
theorem dX8_sample_80 : decode cX8_sample 80 = .ok (.iinc 5 1, 3) := by decide +kernel
theorem dX8_sample_83 : decode cX8_sample 83 = .ok (.goto (-52), 3) := by decide +kernel
theorem dX8_sample_86 : decode cX8_sample 86 = .ok (.iconst (-1), 1) := by decide +kernel
theorem dX8_sample_87 : decode cX8_sample 87 = .ok (.ireturn, 1) := by decide +kernel
theorem dX8_isBelow_0 : decode cX8_isBelow 0 = .ok (.iload_n 0, 1) := by decide +kernel
theorem dX8_isBelow_1 : decode cX8_isBelow 1 = .ok (.ifCond .lt 12, 3) := by decide +kernel
theorem dX8_isBelow_4 : decode cX8_isBelow 4 = .ok (.iload_n 0, 1) := by decide +kernel
theorem dX8_isBelow_5 : decode cX8_isBelow 5 = .ok (.iload_n 1, 1) := by decide +kernel
theorem dX8_isBelow_6 : decode cX8_isBelow 6 = .ok (.if_icmp .ge 7, 3) := by decide +kernel
theorem dX8_isBelow_9 : decode cX8_isBelow 9 = .ok (.iconst 1, 1) := by decide +kernel
theorem dX8_isBelow_10 : decode cX8_isBelow 10 = .ok (.goto 4, 3) := by decide +kernel
theorem dX8_isBelow_13 : decode cX8_isBelow 13 = .ok (.iconst 0, 1) := by decide +kernel
theorem dX8_isBelow_14 : decode cX8_isBelow 14 = .ok (.ireturn, 1) := by decide +kernel
theorem dX8_isLanguage_0 : decode cX8_isLanguage 0 = .ok (.iload_n 0, 1) := by decide +kernel
theorem dX8_isLanguage_1 : decode cX8_isLanguage 1 = .ok (.iconst 3, 1) := by decide +kernel
theorem dX8_isLanguage_2 : decode cX8_isLanguage 2 = .ok (.invokestatic 104, 3) := by decide +kernel
theorem dX8_isLanguage_5 : decode cX8_isLanguage 5 = .ok (.ireturn, 1) := by decide +kernel
theorem dX8_isWord_0 : decode cX8_isWord 0 = .ok (.iload_n 1, 1) := by decide +kernel
theorem dX8_isWord_1 : decode cX8_isWord 1 = .ok (.aload_n 0, 1) := by decide +kernel
theorem dX8_isWord_2 : decode cX8_isWord 2 = .ok (.getfield 21, 3) := by decide +kernel
theorem dX8_isWord_5 : decode cX8_isWord 5 = .ok (.invokevirtual 83, 3) := by decide +kernel
theorem dX8_isWord_8 : decode cX8_isWord 8 = .ok (.invokestatic 104, 3) := by decide +kernel
theorem dX8_isWord_11 : decode cX8_isWord 11 = .ok (.ireturn, 1) := by decide +kernel
theorem dX8_clauseAt_0 : decode cX8_clauseAt 0 = .ok (.iload_n 1, 1) := by decide +kernel
theorem dX8_clauseAt_1 : decode cX8_clauseAt 1 = .ok (.aload_n 0, 1) := by decide +kernel
theorem dX8_clauseAt_2 : decode cX8_clauseAt 2 = .ok (.getfield 124, 3) := by decide +kernel
theorem dX8_clauseAt_5 : decode cX8_clauseAt 5 = .ok (.invokestatic 104, 3) := by decide +kernel
theorem dX8_clauseAt_8 : decode cX8_clauseAt 8 = .ok (.ifCond .eq 21, 3) := by decide +kernel
theorem dX8_clauseAt_11 : decode cX8_clauseAt 11 = .ok (.iload_n 1, 1) := by decide +kernel
theorem dX8_clauseAt_12 : decode cX8_clauseAt 12 = .ok (.aload_n 0, 1) := by decide +kernel
theorem dX8_clauseAt_13 : decode cX8_clauseAt 13 = .ok (.getfield 27, 3) := by decide +kernel
theorem dX8_clauseAt_16 : decode cX8_clauseAt 16 = .ok (.arraylength, 1) := by decide +kernel
theorem dX8_clauseAt_17 : decode cX8_clauseAt 17 = .ok (.if_icmp .ge 12, 3) := by decide +kernel
theorem dX8_clauseAt_20 : decode cX8_clauseAt 20 = .ok (.aload_n 0, 1) := by decide +kernel
theorem dX8_clauseAt_21 : decode cX8_clauseAt 21 = .ok (.getfield 27, 3) := by decide +kernel
theorem dX8_clauseAt_24 : decode cX8_clauseAt 24 = .ok (.iload_n 1, 1) := by decide +kernel
theorem dX8_clauseAt_25 : decode cX8_clauseAt 25 = .ok (.aaload, 1) := by decide +kernel
theorem dX8_clauseAt_26 : decode cX8_clauseAt 26 = .ok (.goto 4, 3) := by decide +kernel
theorem dX8_clauseAt_29 : decode cX8_clauseAt 29 = .ok (.aconst_null, 1) := by decide +kernel
theorem dX8_clauseAt_30 : decode cX8_clauseAt 30 = .ok (.areturn, 1) := by decide +kernel
theorem dX8_letterAt_0 : decode cX8_letterAt 0 = .ok (.iload_n 1, 1) := by decide +kernel
theorem dX8_letterAt_1 : decode cX8_letterAt 1 = .ok (.aload_n 0, 1) := by decide +kernel
theorem dX8_letterAt_2 : decode cX8_letterAt 2 = .ok (.getfield 182, 3) := by decide +kernel
theorem dX8_letterAt_5 : decode cX8_letterAt 5 = .ok (.invokestatic 104, 3) := by decide +kernel
theorem dX8_letterAt_8 : decode cX8_letterAt 8 = .ok (.ifCond .eq 21, 3) := by decide +kernel
theorem dX8_letterAt_11 : decode cX8_letterAt 11 = .ok (.iload_n 1, 1) := by decide +kernel
theorem dX8_letterAt_12 : decode cX8_letterAt 12 = .ok (.aload_n 0, 1) := by decide +kernel
theorem dX8_letterAt_13 : decode cX8_letterAt 13 = .ok (.getfield 33, 3) := by decide +kernel
theorem dX8_letterAt_16 : decode cX8_letterAt 16 = .ok (.arraylength, 1) := by decide +kernel
theorem dX8_letterAt_17 : decode cX8_letterAt 17 = .ok (.if_icmp .ge 12, 3) := by decide +kernel
theorem dX8_letterAt_20 : decode cX8_letterAt 20 = .ok (.aload_n 0, 1) := by decide +kernel
theorem dX8_letterAt_21 : decode cX8_letterAt 21 = .ok (.getfield 33, 3) := by decide +kernel
theorem dX8_letterAt_24 : decode cX8_letterAt 24 = .ok (.iload_n 1, 1) := by decide +kernel
theorem dX8_letterAt_25 : decode cX8_letterAt 25 = .ok (.aaload, 1) := by decide +kernel
theorem dX8_letterAt_26 : decode cX8_letterAt 26 = .ok (.goto 4, 3) := by decide +kernel
theorem dX8_letterAt_29 : decode cX8_letterAt 29 = .ok (.aconst_null, 1) := by decide +kernel
theorem dX8_letterAt_30 : decode cX8_letterAt 30 = .ok (.areturn, 1) := by decide +kernel
theorem dX8_dataAt_0 : decode cX8_dataAt 0 = .ok (.iload_n 1, 1) := by decide +kernel
theorem dX8_dataAt_1 : decode cX8_dataAt 1 = .ok (.aload_n 0, 1) := by decide +kernel
theorem dX8_dataAt_2 : decode cX8_dataAt 2 = .ok (.getfield 206, 3) := by decide +kernel
theorem dX8_dataAt_5 : decode cX8_dataAt 5 = .ok (.invokestatic 104, 3) := by decide +kernel
theorem dX8_dataAt_8 : decode cX8_dataAt 8 = .ok (.ifCond .eq 21, 3) := by decide +kernel
theorem dX8_dataAt_11 : decode cX8_dataAt 11 = .ok (.iload_n 1, 1) := by decide +kernel
theorem dX8_dataAt_12 : decode cX8_dataAt 12 = .ok (.aload_n 0, 1) := by decide +kernel
theorem dX8_dataAt_13 : decode cX8_dataAt 13 = .ok (.getfield 39, 3) := by decide +kernel
theorem dX8_dataAt_16 : decode cX8_dataAt 16 = .ok (.arraylength, 1) := by decide +kernel
theorem dX8_dataAt_17 : decode cX8_dataAt 17 = .ok (.if_icmp .ge 12, 3) := by decide +kernel
theorem dX8_dataAt_20 : decode cX8_dataAt 20 = .ok (.aload_n 0, 1) := by decide +kernel
theorem dX8_dataAt_21 : decode cX8_dataAt 21 = .ok (.getfield 39, 3) := by decide +kernel
theorem dX8_dataAt_24 : decode cX8_dataAt 24 = .ok (.iload_n 1, 1) := by decide +kernel
theorem dX8_dataAt_25 : decode cX8_dataAt 25 = .ok (.aaload, 1) := by decide +kernel
theorem dX8_dataAt_26 : decode cX8_dataAt 26 = .ok (.goto 4, 3) := by decide +kernel
theorem dX8_dataAt_29 : decode cX8_dataAt 29 = .ok (.aconst_null, 1) := by decide +kernel
theorem dX8_dataAt_30 : decode cX8_dataAt 30 = .ok (.areturn, 1) := by decide +kernel
theorem dX8_templateAt_0 : decode cX8_templateAt 0 = .ok (.aload_n 0, 1) := by decide +kernel
theorem dX8_templateAt_1 : decode cX8_templateAt 1 = .ok (.iload_n 1, 1) := by decide +kernel
theorem dX8_templateAt_2 : decode cX8_templateAt 2 = .ok (.invokevirtual 163, 3) := by decide +kernel
theorem dX8_templateAt_5 : decode cX8_templateAt 5 = .ok (.astore_n 3, 1) := by decide +kernel
theorem dX8_templateAt_6 : decode cX8_templateAt 6 = .ok (.aload_n 3, 1) := by decide +kernel
theorem dX8_templateAt_7 : decode cX8_templateAt 7 = .ok (.ifnonnull 7, 3) := by decide +kernel
theorem dX8_templateAt_10 : decode cX8_templateAt 10 = .ok (.aconst_null, 1) := by decide +kernel
theorem dX8_templateAt_11 : decode cX8_templateAt 11 = .ok (.goto 8, 3) := by decide +kernel
theorem dX8_templateAt_14 : decode cX8_templateAt 14 = .ok (.aload_n 3, 1) := by decide +kernel
theorem dX8_templateAt_15 : decode cX8_templateAt 15 = .ok (.iload_n 2, 1) := by decide +kernel
theorem dX8_templateAt_16 : decode cX8_templateAt 16 = .ok (.invokevirtual 278, 3) := by decide +kernel
theorem dX8_templateAt_19 : decode cX8_templateAt 19 = .ok (.areturn, 1) := by decide +kernel
theorem dX8_isSmall_0 : decode cX8_isSmall 0 = .ok (.iload_n 0, 1) := by decide +kernel
theorem dX8_isSmall_1 : decode cX8_isSmall 1 = .ok (.bipush 97, 2) := by decide +kernel
theorem dX8_isSmall_3 : decode cX8_isSmall 3 = .ok (.if_icmp .lt 13, 3) := by decide +kernel
theorem dX8_isSmall_6 : decode cX8_isSmall 6 = .ok (.iload_n 0, 1) := by decide +kernel
theorem dX8_isSmall_7 : decode cX8_isSmall 7 = .ok (.bipush 122, 2) := by decide +kernel
theorem dX8_isSmall_9 : decode cX8_isSmall 9 = .ok (.if_icmp .gt 7, 3) := by decide +kernel
theorem dX8_isSmall_12 : decode cX8_isSmall 12 = .ok (.iconst 1, 1) := by decide +kernel
theorem dX8_isSmall_13 : decode cX8_isSmall 13 = .ok (.goto 4, 3) := by decide +kernel
theorem dX8_isSmall_16 : decode cX8_isSmall 16 = .ok (.iconst 0, 1) := by decide +kernel
theorem dX8_isSmall_17 : decode cX8_isSmall 17 = .ok (.ireturn, 1) := by decide +kernel
theorem dX8_isVowel_0 : decode cX8_isVowel 0 = .ok (.iload_n 0, 1) := by decide +kernel
theorem dX8_isVowel_1 : decode cX8_isVowel 1 = .ok (.bipush 97, 2) := by decide +kernel
theorem dX8_isVowel_3 : decode cX8_isVowel 3 = .ok (.if_icmp .eq 27, 3) := by decide +kernel
theorem dX8_isVowel_6 : decode cX8_isVowel 6 = .ok (.iload_n 0, 1) := by decide +kernel
theorem dX8_isVowel_7 : decode cX8_isVowel 7 = .ok (.bipush 101, 2) := by decide +kernel
theorem dX8_isVowel_9 : decode cX8_isVowel 9 = .ok (.if_icmp .eq 21, 3) := by decide +kernel
theorem dX8_isVowel_12 : decode cX8_isVowel 12 = .ok (.iload_n 0, 1) := by decide +kernel
theorem dX8_isVowel_13 : decode cX8_isVowel 13 = .ok (.bipush 105, 2) := by decide +kernel
theorem dX8_isVowel_15 : decode cX8_isVowel 15 = .ok (.if_icmp .eq 15, 3) := by decide +kernel
theorem dX8_isVowel_18 : decode cX8_isVowel 18 = .ok (.iload_n 0, 1) := by decide +kernel
theorem dX8_isVowel_19 : decode cX8_isVowel 19 = .ok (.bipush 111, 2) := by decide +kernel
theorem dX8_isVowel_21 : decode cX8_isVowel 21 = .ok (.if_icmp .eq 9, 3) := by decide +kernel
theorem dX8_isVowel_24 : decode cX8_isVowel 24 = .ok (.iload_n 0, 1) := by decide +kernel
theorem dX8_isVowel_25 : decode cX8_isVowel 25 = .ok (.bipush 117, 2) := by decide +kernel
theorem dX8_isVowel_27 : decode cX8_isVowel 27 = .ok (.if_icmp .ne 7, 3) := by decide +kernel
theorem dX8_isVowel_30 : decode cX8_isVowel 30 = .ok (.iconst 1, 1) := by decide +kernel
theorem dX8_isVowel_31 : decode cX8_isVowel 31 = .ok (.goto 4, 3) := by decide +kernel
theorem dX8_isVowel_34 : decode cX8_isVowel 34 = .ok (.iconst 0, 1) := by decide +kernel
theorem dX8_isVowel_35 : decode cX8_isVowel 35 = .ok (.ireturn, 1) := by decide +kernel
theorem dX8_capital_0 : decode cX8_capital 0 = .ok (.iload_n 0, 1) := by decide +kernel
theorem dX8_capital_1 : decode cX8_capital 1 = .ok (.invokestatic 282, 3) := by decide +kernel
theorem dX8_capital_4 : decode cX8_capital 4 = .ok (.ifCond .eq 14, 3) := by decide +kernel
theorem dX8_capital_7 : decode cX8_capital 7 = .ok (.iload_n 0, 1) := by decide +kernel
theorem dX8_capital_8 : decode cX8_capital 8 = .ok (.bipush 97, 2) := by decide +kernel
theorem dX8_capital_10 : decode cX8_capital 10 = .ok (.isub, 1) := by decide +kernel
theorem dX8_capital_11 : decode cX8_capital 11 = .ok (.bipush 65, 2) := by decide +kernel
theorem dX8_capital_13 : decode cX8_capital 13 = .ok (.iadd, 1) := by decide +kernel
theorem dX8_capital_14 : decode cX8_capital 14 = .ok (.i2c, 1) := by decide +kernel
theorem dX8_capital_15 : decode cX8_capital 15 = .ok (.goto 4, 3) := by decide +kernel
theorem dX8_capital_18 : decode cX8_capital 18 = .ok (.iload_n 0, 1) := by decide +kernel
theorem dX8_capital_19 : decode cX8_capital 19 = .ok (.ireturn, 1) := by decide +kernel
theorem dX8_isOpenBehind_0 : decode cX8_isOpenBehind 0 = .ok (.iload_n 0, 1) := by decide +kernel
theorem dX8_isOpenBehind_1 : decode cX8_isOpenBehind 1 = .ok (.bipush 46, 2) := by decide +kernel
theorem dX8_isOpenBehind_3 : decode cX8_isOpenBehind 3 = .ok (.if_icmp .eq 14, 3) := by decide +kernel
theorem dX8_isOpenBehind_6 : decode cX8_isOpenBehind 6 = .ok (.iload_n 1, 1) := by decide +kernel
theorem dX8_isOpenBehind_7 : decode cX8_isOpenBehind 7 = .ok (.ifCond .eq 14, 3) := by decide +kernel
theorem dX8_isOpenBehind_10 : decode cX8_isOpenBehind 10 = .ok (.iload_n 0, 1) := by decide +kernel
theorem dX8_isOpenBehind_11 : decode cX8_isOpenBehind 11 = .ok (.invokestatic 282, 3) := by decide +kernel
theorem dX8_isOpenBehind_14 : decode cX8_isOpenBehind 14 = .ok (.ifCond .ne 7, 3) := by decide +kernel
theorem dX8_isOpenBehind_17 : decode cX8_isOpenBehind 17 = .ok (.iconst 1, 1) := by decide +kernel
theorem dX8_isOpenBehind_18 : decode cX8_isOpenBehind 18 = .ok (.goto 4, 3) := by decide +kernel
theorem dX8_isOpenBehind_21 : decode cX8_isOpenBehind 21 = .ok (.iconst 0, 1) := by decide +kernel
theorem dX8_isOpenBehind_22 : decode cX8_isOpenBehind 22 = .ok (.ireturn, 1) := by decide +kernel
theorem dX8_caseOf_0 : decode cX8_caseOf 0 = .ok (.iload_n 0, 1) := by decide +kernel
theorem dX8_caseOf_1 : decode cX8_caseOf 1 = .ok (.bipush 110, 2) := by decide +kernel
theorem dX8_caseOf_3 : decode cX8_caseOf 3 = .ok (.if_icmp .ne 7, 3) := by decide +kernel
theorem dX8_caseOf_6 : decode cX8_caseOf 6 = .ok (.iconst 0, 1) := by decide +kernel
theorem dX8_caseOf_7 : decode cX8_caseOf 7 = .ok (.goto 34, 3) := by decide +kernel
theorem dX8_caseOf_10 : decode cX8_caseOf 10 = .ok (.iload_n 0, 1) := by decide +kernel
theorem dX8_caseOf_11 : decode cX8_caseOf 11 = .ok (.bipush 103, 2) := by decide +kernel
theorem dX8_caseOf_13 : decode cX8_caseOf 13 = .ok (.if_icmp .ne 7, 3) := by decide +kernel
theorem dX8_caseOf_16 : decode cX8_caseOf 16 = .ok (.iconst 1, 1) := by decide +kernel
theorem dX8_caseOf_17 : decode cX8_caseOf 17 = .ok (.goto 24, 3) := by decide +kernel
theorem dX8_caseOf_20 : decode cX8_caseOf 20 = .ok (.iload_n 0, 1) := by decide +kernel
theorem dX8_caseOf_21 : decode cX8_caseOf 21 = .ok (.bipush 100, 2) := by decide +kernel
theorem dX8_caseOf_23 : decode cX8_caseOf 23 = .ok (.if_icmp .ne 7, 3) := by decide +kernel
theorem dX8_caseOf_26 : decode cX8_caseOf 26 = .ok (.iconst 2, 1) := by decide +kernel
theorem dX8_caseOf_27 : decode cX8_caseOf 27 = .ok (.goto 14, 3) := by decide +kernel
theorem dX8_caseOf_30 : decode cX8_caseOf 30 = .ok (.iload_n 0, 1) := by decide +kernel
theorem dX8_caseOf_31 : decode cX8_caseOf 31 = .ok (.bipush 97, 2) := by decide +kernel
theorem dX8_caseOf_33 : decode cX8_caseOf 33 = .ok (.if_icmp .ne 7, 3) := by decide +kernel
theorem dX8_caseOf_36 : decode cX8_caseOf 36 = .ok (.iconst 3, 1) := by decide +kernel
theorem dX8_caseOf_37 : decode cX8_caseOf 37 = .ok (.goto 4, 3) := by decide +kernel
theorem dX8_caseOf_40 : decode cX8_caseOf 40 = .ok (.iconst (-1), 1) := by decide +kernel
theorem dX8_caseOf_41 : decode cX8_caseOf 41 = .ok (.ireturn, 1) := by decide +kernel
theorem dX8_numberOf_0 : decode cX8_numberOf 0 = .ok (.iload_n 0, 1) := by decide +kernel
theorem dX8_numberOf_1 : decode cX8_numberOf 1 = .ok (.bipush 115, 2) := by decide +kernel
theorem dX8_numberOf_3 : decode cX8_numberOf 3 = .ok (.if_icmp .ne 7, 3) := by decide +kernel
theorem dX8_numberOf_6 : decode cX8_numberOf 6 = .ok (.iconst 0, 1) := by decide +kernel
theorem dX8_numberOf_7 : decode cX8_numberOf 7 = .ok (.goto 14, 3) := by decide +kernel
theorem dX8_numberOf_10 : decode cX8_numberOf 10 = .ok (.iload_n 0, 1) := by decide +kernel
theorem dX8_numberOf_11 : decode cX8_numberOf 11 = .ok (.bipush 112, 2) := by decide +kernel
theorem dX8_numberOf_13 : decode cX8_numberOf 13 = .ok (.if_icmp .ne 7, 3) := by decide +kernel
theorem dX8_numberOf_16 : decode cX8_numberOf 16 = .ok (.iconst 1, 1) := by decide +kernel
theorem dX8_numberOf_17 : decode cX8_numberOf 17 = .ok (.goto 4, 3) := by decide +kernel
theorem dX8_numberOf_20 : decode cX8_numberOf 20 = .ok (.iconst (-1), 1) := by decide +kernel
theorem dX8_numberOf_21 : decode cX8_numberOf 21 = .ok (.ireturn, 1) := by decide +kernel
theorem dX8_slotOf_0 : decode cX8_slotOf 0 = .ok (.iload_n 0, 1) := by decide +kernel
theorem dX8_slotOf_1 : decode cX8_slotOf 1 = .ok (.bipush 48, 2) := by decide +kernel
theorem dX8_slotOf_3 : decode cX8_slotOf 3 = .ok (.if_icmp .lt 16, 3) := by decide +kernel
theorem dX8_slotOf_6 : decode cX8_slotOf 6 = .ok (.iload_n 0, 1) := by decide +kernel
theorem dX8_slotOf_7 : decode cX8_slotOf 7 = .ok (.bipush 53, 2) := by decide +kernel
theorem dX8_slotOf_9 : decode cX8_slotOf 9 = .ok (.if_icmp .ge 10, 3) := by decide +kernel
theorem dX8_slotOf_12 : decode cX8_slotOf 12 = .ok (.iload_n 0, 1) := by decide +kernel
theorem dX8_slotOf_13 : decode cX8_slotOf 13 = .ok (.bipush 48, 2) := by decide +kernel
theorem dX8_slotOf_15 : decode cX8_slotOf 15 = .ok (.isub, 1) := by decide +kernel
theorem dX8_slotOf_16 : decode cX8_slotOf 16 = .ok (.goto 4, 3) := by decide +kernel
theorem dX8_slotOf_19 : decode cX8_slotOf 19 = .ok (.iconst (-1), 1) := by decide +kernel
theorem dX8_slotOf_20 : decode cX8_slotOf 20 = .ok (.ireturn, 1) := by decide +kernel
theorem dX8_firstFault_0 : decode cX8_firstFault 0 = .ok (.iconst 0, 1) := by decide +kernel
theorem dX8_firstFault_1 : decode cX8_firstFault 1 = .ok (.istore_n 1, 1) := by decide +kernel
theorem dX8_firstFault_2 : decode cX8_firstFault 2 = .ok (.iconst 0, 1) := by decide +kernel
theorem dX8_firstFault_3 : decode cX8_firstFault 3 = .ok (.istore_n 2, 1) := by decide +kernel
theorem dX8_firstFault_4 : decode cX8_firstFault 4 = .ok (.iload_n 2, 1) := by decide +kernel
theorem dX8_firstFault_5 : decode cX8_firstFault 5 = .ok (.aload_n 0, 1) := by decide +kernel
theorem dX8_firstFault_6 : decode cX8_firstFault 6 = .ok (.invokevirtual 72, 3) := by decide +kernel
theorem dX8_firstFault_9 : decode cX8_firstFault 9 = .ok (.if_icmp .ge 60, 3) := by decide +kernel
theorem dX8_firstFault_12 : decode cX8_firstFault 12 = .ok (.aload_n 0, 1) := by decide +kernel
theorem dX8_firstFault_13 : decode cX8_firstFault 13 = .ok (.iload_n 2, 1) := by decide +kernel
theorem dX8_firstFault_14 : decode cX8_firstFault 14 = .ok (.invokevirtual 285, 3) := by decide +kernel
theorem dX8_firstFault_17 : decode cX8_firstFault 17 = .ok (.iload_n 1, 1) := by decide +kernel
theorem dX8_firstFault_18 : decode cX8_firstFault 18 = .ok (.invokestatic 286, 3) := by decide +kernel
theorem dX8_firstFault_21 : decode cX8_firstFault 21 = .ok (.ifCond .ne 5, 3) := by decide +kernel
theorem dX8_firstFault_24 : decode cX8_firstFault 24 = .ok (.iload_n 2, 1) := by decide +kernel
theorem dX8_firstFault_25 : decode cX8_firstFault 25 = .ok (.ireturn, 1) := by decide +kernel
theorem dX8_firstFault_26 : decode cX8_firstFault 26 = .ok (.iload_n 1, 1) := by decide +kernel
theorem dX8_firstFault_27 : decode cX8_firstFault 27 = .ok (.ifCond .gt 13, 3) := by decide +kernel
theorem dX8_firstFault_30 : decode cX8_firstFault 30 = .ok (.aload_n 0, 1) := by decide +kernel
theorem dX8_firstFault_31 : decode cX8_firstFault 31 = .ok (.iload_n 2, 1) := by decide +kernel
theorem dX8_firstFault_32 : decode cX8_firstFault 32 = .ok (.invokevirtual 285, 3) := by decide +kernel
theorem dX8_firstFault_35 : decode cX8_firstFault 35 = .ok (.bipush 91, 2) := by decide +kernel
theorem dX8_firstFault_37 : decode cX8_firstFault 37 = .ok (.if_icmp .ne 7, 3) := by decide +kernel
theorem dX8_firstFault_40 : decode cX8_firstFault 40 = .ok (.iconst 1, 1) := by decide +kernel
theorem dX8_firstFault_41 : decode cX8_firstFault 41 = .ok (.goto 4, 3) := by decide +kernel
theorem dX8_firstFault_44 : decode cX8_firstFault 44 = .ok (.iconst 0, 1) := by decide +kernel
theorem dX8_firstFault_45 : decode cX8_firstFault 45 = .ok (.istore_n 3, 1) := by decide +kernel
theorem dX8_firstFault_46 : decode cX8_firstFault 46 = .ok (.iload_n 3, 1) := by decide +kernel
theorem dX8_firstFault_47 : decode cX8_firstFault 47 = .ok (.ifCond .eq 14, 3) := by decide +kernel
theorem dX8_firstFault_50 : decode cX8_firstFault 50 = .ok (.iload_n 1, 1) := by decide +kernel
theorem dX8_firstFault_51 : decode cX8_firstFault 51 = .ok (.iconst 4, 1) := by decide +kernel
theorem dX8_firstFault_52 : decode cX8_firstFault 52 = .ok (.if_icmp .ge 9, 3) := by decide +kernel
theorem dX8_firstFault_55 : decode cX8_firstFault 55 = .ok (.iload_n 1, 1) := by decide +kernel
theorem dX8_firstFault_56 : decode cX8_firstFault 56 = .ok (.iconst 1, 1) := by decide +kernel
theorem dX8_firstFault_57 : decode cX8_firstFault 57 = .ok (.iadd, 1) := by decide +kernel
theorem dX8_firstFault_58 : decode cX8_firstFault 58 = .ok (.goto 4, 3) := by decide +kernel
theorem dX8_firstFault_61 : decode cX8_firstFault 61 = .ok (.iconst 0, 1) := by decide +kernel
theorem dX8_firstFault_62 : decode cX8_firstFault 62 = .ok (.istore_n 1, 1) := by decide +kernel
theorem dX8_firstFault_63 : decode cX8_firstFault 63 = .ok (.iinc 2 1, 3) := by decide +kernel
theorem dX8_firstFault_66 : decode cX8_firstFault 66 = .ok (.goto (-62), 3) := by decide +kernel
theorem dX8_firstFault_69 : decode cX8_firstFault 69 = .ok (.aload_n 0, 1) := by decide +kernel
theorem dX8_firstFault_70 : decode cX8_firstFault 70 = .ok (.invokevirtual 72, 3) := by decide +kernel
theorem dX8_firstFault_73 : decode cX8_firstFault 73 = .ok (.ifCond .eq 7, 3) := by decide +kernel
theorem dX8_firstFault_76 : decode cX8_firstFault 76 = .ok (.iload_n 1, 1) := by decide +kernel
theorem dX8_firstFault_77 : decode cX8_firstFault 77 = .ok (.ifCond .eq 10, 3) := by decide +kernel
theorem dX8_firstFault_80 : decode cX8_firstFault 80 = .ok (.aload_n 0, 1) := by decide +kernel
theorem dX8_firstFault_81 : decode cX8_firstFault 81 = .ok (.invokevirtual 72, 3) := by decide +kernel
theorem dX8_firstFault_84 : decode cX8_firstFault 84 = .ok (.goto 4, 3) := by decide +kernel
theorem dX8_firstFault_87 : decode cX8_firstFault 87 = .ok (.iconst (-1), 1) := by decide +kernel
theorem dX8_firstFault_88 : decode cX8_firstFault 88 = .ok (.ireturn, 1) := by decide +kernel
theorem dX8_canStand_0 : decode cX8_canStand 0 = .ok (.iload_n 1, 1) := by decide +kernel
theorem dX8_canStand_1 : decode cX8_canStand 1 = .ok (.tableswitch 104 0 3 #[31, 62, 76, 90], 31) := by decide +kernel
theorem dX8_canStand_32 : decode cX8_canStand 32 = .ok (.iload_n 0, 1) := by decide +kernel
theorem dX8_canStand_33 : decode cX8_canStand 33 = .ok (.invokestatic 282, 3) := by decide +kernel
theorem dX8_canStand_36 : decode cX8_canStand 36 = .ok (.ifCond .ne 21, 3) := by decide +kernel
theorem dX8_canStand_39 : decode cX8_canStand 39 = .ok (.iload_n 0, 1) := by decide +kernel
theorem dX8_canStand_40 : decode cX8_canStand 40 = .ok (.bipush 32, 2) := by decide +kernel
theorem dX8_canStand_42 : decode cX8_canStand 42 = .ok (.if_icmp .eq 15, 3) := by decide +kernel
theorem dX8_canStand_45 : decode cX8_canStand 45 = .ok (.iload_n 0, 1) := by decide +kernel
theorem dX8_canStand_46 : decode cX8_canStand 46 = .ok (.bipush 46, 2) := by decide +kernel
theorem dX8_canStand_48 : decode cX8_canStand 48 = .ok (.if_icmp .eq 9, 3) := by decide +kernel
theorem dX8_canStand_51 : decode cX8_canStand 51 = .ok (.iload_n 0, 1) := by decide +kernel
theorem dX8_canStand_52 : decode cX8_canStand 52 = .ok (.bipush 91, 2) := by decide +kernel
theorem dX8_canStand_54 : decode cX8_canStand 54 = .ok (.if_icmp .ne 7, 3) := by decide +kernel
theorem dX8_canStand_57 : decode cX8_canStand 57 = .ok (.iconst 1, 1) := by decide +kernel
theorem dX8_canStand_58 : decode cX8_canStand 58 = .ok (.goto 4, 3) := by decide +kernel
theorem dX8_canStand_61 : decode cX8_canStand 61 = .ok (.iconst 0, 1) := by decide +kernel
theorem dX8_canStand_62 : decode cX8_canStand 62 = .ok (.ireturn, 1) := by decide +kernel
theorem dX8_canStand_63 : decode cX8_canStand 63 = .ok (.iload_n 0, 1) := by decide +kernel
theorem dX8_canStand_64 : decode cX8_canStand 64 = .ok (.invokestatic 290, 3) := by decide +kernel
theorem dX8_canStand_67 : decode cX8_canStand 67 = .ok (.iconst (-1), 1) := by decide +kernel
theorem dX8_canStand_68 : decode cX8_canStand 68 = .ok (.if_icmp .eq 7, 3) := by decide +kernel
theorem dX8_canStand_71 : decode cX8_canStand 71 = .ok (.iconst 1, 1) := by decide +kernel
theorem dX8_canStand_72 : decode cX8_canStand 72 = .ok (.goto 4, 3) := by decide +kernel
theorem dX8_canStand_75 : decode cX8_canStand 75 = .ok (.iconst 0, 1) := by decide +kernel
theorem dX8_canStand_76 : decode cX8_canStand 76 = .ok (.ireturn, 1) := by decide +kernel
theorem dX8_canStand_77 : decode cX8_canStand 77 = .ok (.iload_n 0, 1) := by decide +kernel
theorem dX8_canStand_78 : decode cX8_canStand 78 = .ok (.invokestatic 294, 3) := by decide +kernel
theorem dX8_canStand_81 : decode cX8_canStand 81 = .ok (.iconst (-1), 1) := by decide +kernel
theorem dX8_canStand_82 : decode cX8_canStand 82 = .ok (.if_icmp .eq 7, 3) := by decide +kernel
theorem dX8_canStand_85 : decode cX8_canStand 85 = .ok (.iconst 1, 1) := by decide +kernel
theorem dX8_canStand_86 : decode cX8_canStand 86 = .ok (.goto 4, 3) := by decide +kernel
theorem dX8_canStand_89 : decode cX8_canStand 89 = .ok (.iconst 0, 1) := by decide +kernel
theorem dX8_canStand_90 : decode cX8_canStand 90 = .ok (.ireturn, 1) := by decide +kernel
theorem dX8_canStand_91 : decode cX8_canStand 91 = .ok (.iload_n 0, 1) := by decide +kernel
theorem dX8_canStand_92 : decode cX8_canStand 92 = .ok (.invokestatic 297, 3) := by decide +kernel
theorem dX8_canStand_95 : decode cX8_canStand 95 = .ok (.iconst (-1), 1) := by decide +kernel
theorem dX8_canStand_96 : decode cX8_canStand 96 = .ok (.if_icmp .eq 7, 3) := by decide +kernel
theorem dX8_canStand_99 : decode cX8_canStand 99 = .ok (.iconst 1, 1) := by decide +kernel
theorem dX8_canStand_100 : decode cX8_canStand 100 = .ok (.goto 4, 3) := by decide +kernel
theorem dX8_canStand_103 : decode cX8_canStand 103 = .ok (.iconst 0, 1) := by decide +kernel
theorem dX8_canStand_104 : decode cX8_canStand 104 = .ok (.ireturn, 1) := by decide +kernel
theorem dX8_canStand_105 : decode cX8_canStand 105 = .ok (.iload_n 0, 1) := by decide +kernel
theorem dX8_canStand_106 : decode cX8_canStand 106 = .ok (.bipush 93, 2) := by decide +kernel
theorem dX8_canStand_108 : decode cX8_canStand 108 = .ok (.if_icmp .ne 7, 3) := by decide +kernel
theorem dX8_canStand_111 : decode cX8_canStand 111 = .ok (.iconst 1, 1) := by decide +kernel
theorem dX8_canStand_112 : decode cX8_canStand 112 = .ok (.goto 4, 3) := by decide +kernel
theorem dX8_canStand_115 : decode cX8_canStand 115 = .ok (.iconst 0, 1) := by decide +kernel
theorem dX8_canStand_116 : decode cX8_canStand 116 = .ok (.ireturn, 1) := by decide +kernel
theorem dX8_isIn_0 : decode cX8_isIn 0 = .ok (.aload_n 0, 1) := by decide +kernel
theorem dX8_isIn_1 : decode cX8_isIn 1 = .ok (.iload_n 3, 1) := by decide +kernel
theorem dX8_isIn_2 : decode cX8_isIn 2 = .ok (.invokevirtual 163, 3) := by decide +kernel
theorem dX8_isIn_5 : decode cX8_isIn 5 = .ok (.astore 4, 2) := by decide +kernel
theorem dX8_isIn_7 : decode cX8_isIn 7 = .ok (.aload 4, 2) := by decide +kernel
theorem dX8_isIn_9 : decode cX8_isIn 9 = .ok (.ifnull 27, 3) := by decide +kernel
theorem dX8_isIn_12 : decode cX8_isIn 12 = .ok (.aload_n 1, 1) := by decide +kernel
theorem dX8_isIn_13 : decode cX8_isIn 13 = .ok (.iload_n 3, 1) := by decide +kernel
theorem dX8_isIn_14 : decode cX8_isIn 14 = .ok (.invokevirtual 194, 3) := by decide +kernel
theorem dX8_isIn_17 : decode cX8_isIn 17 = .ok (.ifCond .eq 19, 3) := by decide +kernel
theorem dX8_isIn_20 : decode cX8_isIn 20 = .ok (.aload_n 2, 1) := by decide +kernel
theorem dX8_isIn_21 : decode cX8_isIn 21 = .ok (.aload 4, 2) := by decide +kernel
theorem dX8_isIn_23 : decode cX8_isIn 23 = .ok (.invokevirtual 300, 3) := by decide +kernel
theorem dX8_isIn_26 : decode cX8_isIn 26 = .ok (.invokevirtual 303, 3) := by decide +kernel
theorem dX8_isIn_29 : decode cX8_isIn 29 = .ok (.ifCond .eq 7, 3) := by decide +kernel
theorem dX8_isIn_32 : decode cX8_isIn 32 = .ok (.iconst 1, 1) := by decide +kernel
theorem dX8_isIn_33 : decode cX8_isIn 33 = .ok (.goto 4, 3) := by decide +kernel
theorem dX8_isIn_36 : decode cX8_isIn 36 = .ok (.iconst 0, 1) := by decide +kernel
theorem dX8_isIn_37 : decode cX8_isIn 37 = .ok (.ireturn, 1) := by decide +kernel
theorem dX8_faultAt_0 : decode cX8_faultAt 0 = .ok (.aload_n 0, 1) := by decide +kernel
theorem dX8_faultAt_1 : decode cX8_faultAt 1 = .ok (.iload_n 3, 1) := by decide +kernel
theorem dX8_faultAt_2 : decode cX8_faultAt 2 = .ok (.iload 4, 2) := by decide +kernel
theorem dX8_faultAt_4 : decode cX8_faultAt 4 = .ok (.invokevirtual 131, 3) := by decide +kernel
theorem dX8_faultAt_7 : decode cX8_faultAt 7 = .ok (.astore 6, 2) := by decide +kernel
theorem dX8_faultAt_9 : decode cX8_faultAt 9 = .ok (.aload 6, 2) := by decide +kernel
theorem dX8_faultAt_11 : decode cX8_faultAt 11 = .ok (.ifnull 11, 3) := by decide +kernel
theorem dX8_faultAt_14 : decode cX8_faultAt 14 = .ok (.aload 6, 2) := by decide +kernel
theorem dX8_faultAt_16 : decode cX8_faultAt 16 = .ok (.invokevirtual 151, 3) := by decide +kernel
theorem dX8_faultAt_19 : decode cX8_faultAt 19 = .ok (.ifCond .ne 5, 3) := by decide +kernel
theorem dX8_faultAt_22 : decode cX8_faultAt 22 = .ok (.iconst 1, 1) := by decide +kernel
theorem dX8_faultAt_23 : decode cX8_faultAt 23 = .ok (.ireturn, 1) := by decide +kernel
theorem dX8_faultAt_24 : decode cX8_faultAt 24 = .ok (.aload 6, 2) := by decide +kernel
theorem dX8_faultAt_26 : decode cX8_faultAt 26 = .ok (.invokevirtual 157, 3) := by decide +kernel
theorem dX8_faultAt_29 : decode cX8_faultAt 29 = .ok (.ifCond .ne 5, 3) := by decide +kernel
theorem dX8_faultAt_32 : decode cX8_faultAt 32 = .ok (.iconst 2, 1) := by decide +kernel
theorem dX8_faultAt_33 : decode cX8_faultAt 33 = .ok (.ireturn, 1) := by decide +kernel
theorem dX8_faultAt_34 : decode cX8_faultAt 34 = .ok (.aload_n 0, 1) := by decide +kernel
theorem dX8_faultAt_35 : decode cX8_faultAt 35 = .ok (.aload_n 1, 1) := by decide +kernel
theorem dX8_faultAt_36 : decode cX8_faultAt 36 = .ok (.aload_n 2, 1) := by decide +kernel
theorem dX8_faultAt_37 : decode cX8_faultAt 37 = .ok (.iload_n 3, 1) := by decide +kernel
theorem dX8_faultAt_38 : decode cX8_faultAt 38 = .ok (.iload 5, 2) := by decide +kernel
theorem dX8_faultAt_40 : decode cX8_faultAt 40 = .ok (.iconst 1, 1) := by decide +kernel
theorem dX8_faultAt_41 : decode cX8_faultAt 41 = .ok (.invokevirtual 306, 3) := by decide +kernel
theorem dX8_faultAt_44 : decode cX8_faultAt 44 = .ok (.ifCond .eq 5, 3) := by decide +kernel
theorem dX8_faultAt_47 : decode cX8_faultAt 47 = .ok (.iconst 3, 1) := by decide +kernel
theorem dX8_faultAt_48 : decode cX8_faultAt 48 = .ok (.ireturn, 1) := by decide +kernel
theorem dX8_faultAt_49 : decode cX8_faultAt 49 = .ok (.aload_n 0, 1) := by decide +kernel
theorem dX8_faultAt_50 : decode cX8_faultAt 50 = .ok (.aload_n 1, 1) := by decide +kernel
theorem dX8_faultAt_51 : decode cX8_faultAt 51 = .ok (.aload_n 2, 1) := by decide +kernel
theorem dX8_faultAt_52 : decode cX8_faultAt 52 = .ok (.iload_n 3, 1) := by decide +kernel
theorem dX8_faultAt_53 : decode cX8_faultAt 53 = .ok (.iload 5, 2) := by decide +kernel
theorem dX8_faultAt_55 : decode cX8_faultAt 55 = .ok (.iconst 2, 1) := by decide +kernel
theorem dX8_faultAt_56 : decode cX8_faultAt 56 = .ok (.invokevirtual 306, 3) := by decide +kernel
theorem dX8_faultAt_59 : decode cX8_faultAt 59 = .ok (.ifCond .eq 7, 3) := by decide +kernel
theorem dX8_faultAt_62 : decode cX8_faultAt 62 = .ok (.iconst 4, 1) := by decide +kernel
theorem dX8_faultAt_63 : decode cX8_faultAt 63 = .ok (.goto 4, 3) := by decide +kernel
theorem dX8_faultAt_66 : decode cX8_faultAt 66 = .ok (.iconst 0, 1) := by decide +kernel
theorem dX8_faultAt_67 : decode cX8_faultAt 67 = .ok (.ireturn, 1) := by decide +kernel
theorem dX8_isRelated_0 : decode cX8_isRelated 0 = .ok (.aload_n 0, 1) := by decide +kernel
theorem dX8_isRelated_1 : decode cX8_isRelated 1 = .ok (.iload_n 3, 1) := by decide +kernel
theorem dX8_isRelated_2 : decode cX8_isRelated 2 = .ok (.invokevirtual 163, 3) := by decide +kernel
theorem dX8_isRelated_5 : decode cX8_isRelated 5 = .ok (.astore 6, 2) := by decide +kernel
theorem dX8_isRelated_7 : decode cX8_isRelated 7 = .ok (.iconst 0, 1) := by decide +kernel
theorem dX8_isRelated_8 : decode cX8_isRelated 8 = .ok (.istore 7, 2) := by decide +kernel
theorem dX8_isRelated_10 : decode cX8_isRelated 10 = .ok (.aload 6, 2) := by decide +kernel
theorem dX8_isRelated_12 : decode cX8_isRelated 12 = .ok (.ifnull 56, 3) := by decide +kernel
theorem dX8_isRelated_15 : decode cX8_isRelated 15 = .ok (.iload 7, 2) := by decide +kernel
theorem dX8_isRelated_17 : decode cX8_isRelated 17 = .ok (.aload_n 0, 1) := by decide +kernel
theorem dX8_isRelated_18 : decode cX8_isRelated 18 = .ok (.getfield 124, 3) := by decide +kernel
theorem dX8_isRelated_21 : decode cX8_isRelated 21 = .ok (.if_icmp .ge 47, 3) := by decide +kernel
theorem dX8_isRelated_24 : decode cX8_isRelated 24 = .ok (.aload 6, 2) := by decide +kernel
theorem dX8_isRelated_26 : decode cX8_isRelated 26 = .ok (.iload 7, 2) := by decide +kernel
theorem dX8_isRelated_28 : decode cX8_isRelated 28 = .ok (.iload 4, 2) := by decide +kernel
theorem dX8_isRelated_30 : decode cX8_isRelated 30 = .ok (.invokevirtual 171, 3) := by decide +kernel
theorem dX8_isRelated_33 : decode cX8_isRelated 33 = .ok (.iload 5, 2) := by decide +kernel
theorem dX8_isRelated_35 : decode cX8_isRelated 35 = .ok (.if_icmp .ne 27, 3) := by decide +kernel
theorem dX8_isRelated_38 : decode cX8_isRelated 38 = .ok (.aload_n 0, 1) := by decide +kernel
theorem dX8_isRelated_39 : decode cX8_isRelated 39 = .ok (.aload_n 1, 1) := by decide +kernel
theorem dX8_isRelated_40 : decode cX8_isRelated 40 = .ok (.aload_n 2, 1) := by decide +kernel
theorem dX8_isRelated_41 : decode cX8_isRelated 41 = .ok (.iload 7, 2) := by decide +kernel
theorem dX8_isRelated_43 : decode cX8_isRelated 43 = .ok (.invokevirtual 238, 3) := by decide +kernel
theorem dX8_isRelated_46 : decode cX8_isRelated 46 = .ok (.iload 5, 2) := by decide +kernel
theorem dX8_isRelated_48 : decode cX8_isRelated 48 = .ok (.iconst 2, 1) := by decide +kernel
theorem dX8_isRelated_49 : decode cX8_isRelated 49 = .ok (.if_icmp .ne 7, 3) := by decide +kernel
theorem dX8_isRelated_52 : decode cX8_isRelated 52 = .ok (.iconst 1, 1) := by decide +kernel
theorem dX8_isRelated_53 : decode cX8_isRelated 53 = .ok (.goto 4, 3) := by decide +kernel
theorem dX8_isRelated_56 : decode cX8_isRelated 56 = .ok (.iconst 0, 1) := by decide +kernel
theorem dX8_isRelated_57 : decode cX8_isRelated 57 = .ok (.if_icmp .ne 5, 3) := by decide +kernel
theorem dX8_isRelated_60 : decode cX8_isRelated 60 = .ok (.iconst 1, 1) := by decide +kernel
theorem dX8_isRelated_61 : decode cX8_isRelated 61 = .ok (.ireturn, 1) := by decide +kernel
theorem dX8_isRelated_62 : decode cX8_isRelated 62 = .ok (.iinc 7 1, 3) := by decide +kernel
theorem dX8_isRelated_65 : decode cX8_isRelated 65 = .ok (.goto (-55), 3) := by decide +kernel
theorem dX8_isRelated_68 : decode cX8_isRelated 68 = .ok (.iconst 0, 1) := by decide +kernel
theorem dX8_isRelated_69 : decode cX8_isRelated 69 = .ok (.ireturn, 1) := by decide +kernel
theorem dX8_laidAt_0 : decode cX8_laidAt 0 = .ok (.aload_n 0, 1) := by decide +kernel
theorem dX8_laidAt_1 : decode cX8_laidAt 1 = .ok (.aload_n 1, 1) := by decide +kernel
theorem dX8_laidAt_2 : decode cX8_laidAt 2 = .ok (.iload_n 2, 1) := by decide +kernel
theorem dX8_laidAt_3 : decode cX8_laidAt 3 = .ok (.invokevirtual 235, 3) := by decide +kernel
theorem dX8_laidAt_6 : decode cX8_laidAt 6 = .ok (.invokevirtual 163, 3) := by decide +kernel
theorem dX8_laidAt_9 : decode cX8_laidAt 9 = .ok (.astore 5, 2) := by decide +kernel
theorem dX8_laidAt_11 : decode cX8_laidAt 11 = .ok (.aload 5, 2) := by decide +kernel
theorem dX8_laidAt_13 : decode cX8_laidAt 13 = .ok (.ifnull 15, 3) := by decide +kernel
theorem dX8_laidAt_16 : decode cX8_laidAt 16 = .ok (.aload_n 3, 1) := by decide +kernel
theorem dX8_laidAt_17 : decode cX8_laidAt 17 = .ok (.aload 5, 2) := by decide +kernel
theorem dX8_laidAt_19 : decode cX8_laidAt 19 = .ok (.invokevirtual 300, 3) := by decide +kernel
theorem dX8_laidAt_22 : decode cX8_laidAt 22 = .ok (.invokevirtual 303, 3) := by decide +kernel
theorem dX8_laidAt_25 : decode cX8_laidAt 25 = .ok (.ifCond .ne 5, 3) := by decide +kernel
theorem dX8_laidAt_28 : decode cX8_laidAt 28 = .ok (.aconst_null, 1) := by decide +kernel
theorem dX8_laidAt_29 : decode cX8_laidAt 29 = .ok (.areturn, 1) := by decide +kernel
theorem dX8_laidAt_30 : decode cX8_laidAt 30 = .ok (.aload 5, 2) := by decide +kernel
theorem dX8_laidAt_32 : decode cX8_laidAt 32 = .ok (.iload 4, 2) := by decide +kernel
theorem dX8_laidAt_34 : decode cX8_laidAt 34 = .ok (.invokevirtual 278, 3) := by decide +kernel
theorem dX8_laidAt_37 : decode cX8_laidAt 37 = .ok (.astore 6, 2) := by decide +kernel
theorem dX8_laidAt_39 : decode cX8_laidAt 39 = .ok (.aload 6, 2) := by decide +kernel
theorem dX8_laidAt_41 : decode cX8_laidAt 41 = .ok (.ifnull 16, 3) := by decide +kernel
theorem dX8_laidAt_44 : decode cX8_laidAt 44 = .ok (.aload 6, 2) := by decide +kernel
theorem dX8_laidAt_46 : decode cX8_laidAt 46 = .ok (.invokevirtual 151, 3) := by decide +kernel
theorem dX8_laidAt_49 : decode cX8_laidAt 49 = .ok (.ifCond .eq 8, 3) := by decide +kernel
theorem dX8_laidAt_52 : decode cX8_laidAt 52 = .ok (.aload 6, 2) := by decide +kernel
theorem dX8_laidAt_54 : decode cX8_laidAt 54 = .ok (.goto 4, 3) := by decide +kernel
theorem dX8_laidAt_57 : decode cX8_laidAt 57 = .ok (.aconst_null, 1) := by decide +kernel
theorem dX8_laidAt_58 : decode cX8_laidAt 58 = .ok (.areturn, 1) := by decide +kernel
theorem dX8_build_0 : decode cX8_build 0 = .ok (.aload_n 0, 1) := by decide +kernel
theorem dX8_build_1 : decode cX8_build 1 = .ok (.getfield 50, 3) := by decide +kernel
theorem dX8_build_4 : decode cX8_build 4 = .ok (.invokevirtual 310, 3) := by decide +kernel
theorem dX8_build_7 : decode cX8_build 7 = .ok (.iconst 0, 1) := by decide +kernel
theorem dX8_build_8 : decode cX8_build 8 = .ok (.istore 4, 2) := by decide +kernel
theorem dX8_build_10 : decode cX8_build 10 = .ok (.iload 4, 2) := by decide +kernel
theorem dX8_build_12 : decode cX8_build 12 = .ok (.aload_n 1, 1) := by decide +kernel
theorem dX8_build_13 : decode cX8_build 13 = .ok (.invokevirtual 201, 3) := by decide +kernel
theorem dX8_build_16 : decode cX8_build 16 = .ok (.if_icmp .ge 52, 3) := by decide +kernel
theorem dX8_build_19 : decode cX8_build 19 = .ok (.aload_n 0, 1) := by decide +kernel
theorem dX8_build_20 : decode cX8_build 20 = .ok (.aload_n 1, 1) := by decide +kernel
theorem dX8_build_21 : decode cX8_build 21 = .ok (.iload 4, 2) := by decide +kernel
theorem dX8_build_23 : decode cX8_build 23 = .ok (.aload_n 2, 1) := by decide +kernel
theorem dX8_build_24 : decode cX8_build 24 = .ok (.iload_n 3, 1) := by decide +kernel
theorem dX8_build_25 : decode cX8_build 25 = .ok (.invokevirtual 312, 3) := by decide +kernel
theorem dX8_build_28 : decode cX8_build 28 = .ok (.astore 5, 2) := by decide +kernel
theorem dX8_build_30 : decode cX8_build 30 = .ok (.aload 5, 2) := by decide +kernel
theorem dX8_build_32 : decode cX8_build 32 = .ok (.ifnull 30, 3) := by decide +kernel
theorem dX8_build_35 : decode cX8_build 35 = .ok (.aload_n 0, 1) := by decide +kernel
theorem dX8_build_36 : decode cX8_build 36 = .ok (.getfield 50, 3) := by decide +kernel
theorem dX8_build_39 : decode cX8_build 39 = .ok (.invokevirtual 316, 3) := by decide +kernel
theorem dX8_build_42 : decode cX8_build 42 = .ok (.ifCond .le 12, 3) := by decide +kernel
theorem dX8_build_45 : decode cX8_build 45 = .ok (.aload_n 0, 1) := by decide +kernel
theorem dX8_build_46 : decode cX8_build 46 = .ok (.getfield 50, 3) := by decide +kernel
theorem dX8_build_49 : decode cX8_build 49 = .ok (.bipush 32, 2) := by decide +kernel
theorem dX8_build_51 : decode cX8_build 51 = .ok (.invokevirtual 317, 3) := by decide +kernel
theorem dX8_build_54 : decode cX8_build 54 = .ok (.aload_n 0, 1) := by decide +kernel
theorem dX8_build_55 : decode cX8_build 55 = .ok (.aload 5, 2) := by decide +kernel
theorem dX8_build_57 : decode cX8_build 57 = .ok (.aload_n 2, 1) := by decide +kernel
theorem dX8_build_58 : decode cX8_build 58 = .ok (.iload_n 3, 1) := by decide +kernel
theorem dX8_build_59 : decode cX8_build 59 = .ok (.invokevirtual 321, 3) := by decide +kernel
theorem dX8_build_62 : decode cX8_build 62 = .ok (.iinc 4 1, 3) := by decide +kernel
theorem dX8_build_65 : decode cX8_build 65 = .ok (.goto (-55), 3) := by decide +kernel
theorem dX8_build_68 : decode cX8_build 68 = .ok (.return_, 1) := by decide +kernel
theorem dX8_layTemplate_0 : decode cX8_layTemplate 0 = .ok (.iconst 0, 1) := by decide +kernel
theorem dX8_layTemplate_1 : decode cX8_layTemplate 1 = .ok (.istore 4, 2) := by decide +kernel
theorem dX8_layTemplate_3 : decode cX8_layTemplate 3 = .ok (.iload 4, 2) := by decide +kernel
theorem dX8_layTemplate_5 : decode cX8_layTemplate 5 = .ok (.aload_n 1, 1) := by decide +kernel
theorem dX8_layTemplate_6 : decode cX8_layTemplate 6 = .ok (.invokevirtual 325, 3) := by decide +kernel
theorem dX8_layTemplate_9 : decode cX8_layTemplate 9 = .ok (.if_icmp .ge 58, 3) := by decide +kernel
theorem dX8_layTemplate_12 : decode cX8_layTemplate 12 = .ok (.aload_n 1, 1) := by decide +kernel
theorem dX8_layTemplate_13 : decode cX8_layTemplate 13 = .ok (.iload 4, 2) := by decide +kernel
theorem dX8_layTemplate_15 : decode cX8_layTemplate 15 = .ok (.invokevirtual 326, 3) := by decide +kernel
theorem dX8_layTemplate_18 : decode cX8_layTemplate 18 = .ok (.ifCond .eq 30, 3) := by decide +kernel
theorem dX8_layTemplate_21 : decode cX8_layTemplate 21 = .ok (.aload_n 0, 1) := by decide +kernel
theorem dX8_layTemplate_22 : decode cX8_layTemplate 22 = .ok (.iload_n 3, 1) := by decide +kernel
theorem dX8_layTemplate_23 : decode cX8_layTemplate 23 = .ok (.aload_n 2, 1) := by decide +kernel
theorem dX8_layTemplate_24 : decode cX8_layTemplate 24 = .ok (.aload_n 1, 1) := by decide +kernel
theorem dX8_layTemplate_25 : decode cX8_layTemplate 25 = .ok (.iload 4, 2) := by decide +kernel
theorem dX8_layTemplate_27 : decode cX8_layTemplate 27 = .ok (.invokevirtual 329, 3) := by decide +kernel
theorem dX8_layTemplate_30 : decode cX8_layTemplate 30 = .ok (.invokevirtual 220, 3) := by decide +kernel
theorem dX8_layTemplate_33 : decode cX8_layTemplate 33 = .ok (.aload_n 1, 1) := by decide +kernel
theorem dX8_layTemplate_34 : decode cX8_layTemplate 34 = .ok (.iload 4, 2) := by decide +kernel
theorem dX8_layTemplate_36 : decode cX8_layTemplate 36 = .ok (.invokevirtual 332, 3) := by decide +kernel
theorem dX8_layTemplate_39 : decode cX8_layTemplate 39 = .ok (.invokevirtual 335, 3) := by decide +kernel
theorem dX8_layTemplate_42 : decode cX8_layTemplate 42 = .ok (.iinc 4 4, 3) := by decide +kernel
theorem dX8_layTemplate_45 : decode cX8_layTemplate 45 = .ok (.goto 16, 3) := by decide +kernel
theorem dX8_layTemplate_48 : decode cX8_layTemplate 48 = .ok (.aload_n 0, 1) := by decide +kernel
theorem dX8_layTemplate_49 : decode cX8_layTemplate 49 = .ok (.getfield 50, 3) := by decide +kernel
theorem dX8_layTemplate_52 : decode cX8_layTemplate 52 = .ok (.aload_n 1, 1) := by decide +kernel
theorem dX8_layTemplate_53 : decode cX8_layTemplate 53 = .ok (.iload 4, 2) := by decide +kernel
theorem dX8_layTemplate_55 : decode cX8_layTemplate 55 = .ok (.invokevirtual 338, 3) := by decide +kernel
theorem dX8_layTemplate_58 : decode cX8_layTemplate 58 = .ok (.invokevirtual 317, 3) := by decide +kernel
theorem dX8_layTemplate_61 : decode cX8_layTemplate 61 = .ok (.iinc 4 1, 3) := by decide +kernel
theorem dX8_layTemplate_64 : decode cX8_layTemplate 64 = .ok (.goto (-61), 3) := by decide +kernel
theorem dX8_layTemplate_67 : decode cX8_layTemplate 67 = .ok (.return_, 1) := by decide +kernel
theorem dX8_layForm_0 : decode cX8_layForm 0 = .ok (.aload_n 0, 1) := by decide +kernel
theorem dX8_layForm_1 : decode cX8_layForm 1 = .ok (.getfield 21, 3) := by decide +kernel
theorem dX8_layForm_4 : decode cX8_layForm 4 = .ok (.iload_n 1, 1) := by decide +kernel
theorem dX8_layForm_5 : decode cX8_layForm 5 = .ok (.iload_n 2, 1) := by decide +kernel
theorem dX8_layForm_6 : decode cX8_layForm 6 = .ok (.iload_n 3, 1) := by decide +kernel
theorem dX8_layForm_7 : decode cX8_layForm 7 = .ok (.invokevirtual 339, 3) := by decide +kernel
theorem dX8_layForm_10 : decode cX8_layForm 10 = .ok (.istore 4, 2) := by decide +kernel
theorem dX8_layForm_12 : decode cX8_layForm 12 = .ok (.iconst 0, 1) := by decide +kernel
theorem dX8_layForm_13 : decode cX8_layForm 13 = .ok (.istore 5, 2) := by decide +kernel
theorem dX8_layForm_15 : decode cX8_layForm 15 = .ok (.iload 5, 2) := by decide +kernel
theorem dX8_layForm_17 : decode cX8_layForm 17 = .ok (.iload 4, 2) := by decide +kernel
theorem dX8_layForm_19 : decode cX8_layForm 19 = .ok (.if_icmp .ge 28, 3) := by decide +kernel
theorem dX8_layForm_22 : decode cX8_layForm 22 = .ok (.aload_n 0, 1) := by decide +kernel
theorem dX8_layForm_23 : decode cX8_layForm 23 = .ok (.getfield 50, 3) := by decide +kernel
theorem dX8_layForm_26 : decode cX8_layForm 26 = .ok (.aload_n 0, 1) := by decide +kernel
theorem dX8_layForm_27 : decode cX8_layForm 27 = .ok (.getfield 21, 3) := by decide +kernel
theorem dX8_layForm_30 : decode cX8_layForm 30 = .ok (.iload_n 1, 1) := by decide +kernel
theorem dX8_layForm_31 : decode cX8_layForm 31 = .ok (.iload_n 2, 1) := by decide +kernel
theorem dX8_layForm_32 : decode cX8_layForm 32 = .ok (.iload_n 3, 1) := by decide +kernel
theorem dX8_layForm_33 : decode cX8_layForm 33 = .ok (.iload 5, 2) := by decide +kernel
theorem dX8_layForm_35 : decode cX8_layForm 35 = .ok (.invokevirtual 343, 3) := by decide +kernel
theorem dX8_layForm_38 : decode cX8_layForm 38 = .ok (.invokevirtual 317, 3) := by decide +kernel
theorem dX8_layForm_41 : decode cX8_layForm 41 = .ok (.iinc 5 1, 3) := by decide +kernel
theorem dX8_layForm_44 : decode cX8_layForm 44 = .ok (.goto (-29), 3) := by decide +kernel
theorem dX8_layForm_47 : decode cX8_layForm 47 = .ok (.return_, 1) := by decide +kernel
theorem dX8_seek_0 : decode cX8_seek 0 = .ok (.iconst 0, 1) := by decide +kernel
theorem dX8_seek_1 : decode cX8_seek 1 = .ok (.istore 4, 2) := by decide +kernel
theorem dX8_seek_3 : decode cX8_seek 3 = .ok (.iconst 0, 1) := by decide +kernel
theorem dX8_seek_4 : decode cX8_seek 4 = .ok (.istore 5, 2) := by decide +kernel
theorem dX8_seek_6 : decode cX8_seek 6 = .ok (.iload 5, 2) := by decide +kernel
theorem dX8_seek_8 : decode cX8_seek 8 = .ok (.aload_n 1, 1) := by decide +kernel
theorem dX8_seek_9 : decode cX8_seek 9 = .ok (.invokevirtual 201, 3) := by decide +kernel
theorem dX8_seek_12 : decode cX8_seek 12 = .ok (.if_icmp .ge 60, 3) := by decide +kernel
theorem dX8_seek_15 : decode cX8_seek 15 = .ok (.aload_n 0, 1) := by decide +kernel
theorem dX8_seek_16 : decode cX8_seek 16 = .ok (.getfield 57, 3) := by decide +kernel
theorem dX8_seek_19 : decode cX8_seek 19 = .ok (.invokevirtual 347, 3) := by decide +kernel
theorem dX8_seek_22 : decode cX8_seek 22 = .ok (.ifCond .ne 50, 3) := by decide +kernel
theorem dX8_seek_25 : decode cX8_seek 25 = .ok (.aload_n 0, 1) := by decide +kernel
theorem dX8_seek_26 : decode cX8_seek 26 = .ok (.aload_n 1, 1) := by decide +kernel
theorem dX8_seek_27 : decode cX8_seek 27 = .ok (.iload 5, 2) := by decide +kernel
theorem dX8_seek_29 : decode cX8_seek 29 = .ok (.aload_n 2, 1) := by decide +kernel
theorem dX8_seek_30 : decode cX8_seek 30 = .ok (.iload_n 3, 1) := by decide +kernel
theorem dX8_seek_31 : decode cX8_seek 31 = .ok (.invokevirtual 312, 3) := by decide +kernel
theorem dX8_seek_34 : decode cX8_seek 34 = .ok (.astore 6, 2) := by decide +kernel
theorem dX8_seek_36 : decode cX8_seek 36 = .ok (.aload 6, 2) := by decide +kernel
theorem dX8_seek_38 : decode cX8_seek 38 = .ok (.ifnull 28, 3) := by decide +kernel
theorem dX8_seek_41 : decode cX8_seek 41 = .ok (.iload 4, 2) := by decide +kernel
theorem dX8_seek_43 : decode cX8_seek 43 = .ok (.ifCond .eq 12, 3) := by decide +kernel
theorem dX8_seek_46 : decode cX8_seek 46 = .ok (.aload_n 0, 1) := by decide +kernel
theorem dX8_seek_47 : decode cX8_seek 47 = .ok (.getfield 57, 3) := by decide +kernel
theorem dX8_seek_50 : decode cX8_seek 50 = .ok (.bipush 32, 2) := by decide +kernel
theorem dX8_seek_52 : decode cX8_seek 52 = .ok (.invokevirtual 350, 3) := by decide +kernel
theorem dX8_seek_55 : decode cX8_seek 55 = .ok (.aload_n 0, 1) := by decide +kernel
theorem dX8_seek_56 : decode cX8_seek 56 = .ok (.aload 6, 2) := by decide +kernel
theorem dX8_seek_58 : decode cX8_seek 58 = .ok (.aload_n 2, 1) := by decide +kernel
theorem dX8_seek_59 : decode cX8_seek 59 = .ok (.iload_n 3, 1) := by decide +kernel
theorem dX8_seek_60 : decode cX8_seek 60 = .ok (.invokevirtual 353, 3) := by decide +kernel
theorem dX8_seek_63 : decode cX8_seek 63 = .ok (.iconst 1, 1) := by decide +kernel
theorem dX8_seek_64 : decode cX8_seek 64 = .ok (.istore 4, 2) := by decide +kernel
theorem dX8_seek_66 : decode cX8_seek 66 = .ok (.iinc 5 1, 3) := by decide +kernel
theorem dX8_seek_69 : decode cX8_seek 69 = .ok (.goto (-63), 3) := by decide +kernel
theorem dX8_seek_72 : decode cX8_seek 72 = .ok (.return_, 1) := by decide +kernel
theorem dX8_seekTemplate_0 : decode cX8_seekTemplate 0 = .ok (.iconst 0, 1) := by decide +kernel
theorem dX8_seekTemplate_1 : decode cX8_seekTemplate 1 = .ok (.istore 4, 2) := by decide +kernel
theorem dX8_seekTemplate_3 : decode cX8_seekTemplate 3 = .ok (.iload 4, 2) := by decide +kernel
theorem dX8_seekTemplate_5 : decode cX8_seekTemplate 5 = .ok (.aload_n 1, 1) := by decide +kernel
theorem dX8_seekTemplate_6 : decode cX8_seekTemplate 6 = .ok (.invokevirtual 325, 3) := by decide +kernel
theorem dX8_seekTemplate_9 : decode cX8_seekTemplate 9 = .ok (.if_icmp .ge 109, 3) := by decide +kernel
theorem dX8_seekTemplate_12 : decode cX8_seekTemplate 12 = .ok (.aload_n 0, 1) := by decide +kernel
theorem dX8_seekTemplate_13 : decode cX8_seekTemplate 13 = .ok (.getfield 57, 3) := by decide +kernel
theorem dX8_seekTemplate_16 : decode cX8_seekTemplate 16 = .ok (.invokevirtual 347, 3) := by decide +kernel
theorem dX8_seekTemplate_19 : decode cX8_seekTemplate 19 = .ok (.ifCond .ne 99, 3) := by decide +kernel
theorem dX8_seekTemplate_22 : decode cX8_seekTemplate 22 = .ok (.aload_n 1, 1) := by decide +kernel
theorem dX8_seekTemplate_23 : decode cX8_seekTemplate 23 = .ok (.iload 4, 2) := by decide +kernel
theorem dX8_seekTemplate_25 : decode cX8_seekTemplate 25 = .ok (.invokevirtual 326, 3) := by decide +kernel
theorem dX8_seekTemplate_28 : decode cX8_seekTemplate 28 = .ok (.ifCond .eq 71, 3) := by decide +kernel
theorem dX8_seekTemplate_31 : decode cX8_seekTemplate 31 = .ok (.aload_n 2, 1) := by decide +kernel
theorem dX8_seekTemplate_32 : decode cX8_seekTemplate 32 = .ok (.aload_n 1, 1) := by decide +kernel
theorem dX8_seekTemplate_33 : decode cX8_seekTemplate 33 = .ok (.iload 4, 2) := by decide +kernel
theorem dX8_seekTemplate_35 : decode cX8_seekTemplate 35 = .ok (.invokevirtual 329, 3) := by decide +kernel
theorem dX8_seekTemplate_38 : decode cX8_seekTemplate 38 = .ok (.invokevirtual 220, 3) := by decide +kernel
theorem dX8_seekTemplate_41 : decode cX8_seekTemplate 41 = .ok (.istore 5, 2) := by decide +kernel
theorem dX8_seekTemplate_43 : decode cX8_seekTemplate 43 = .ok (.aload_n 1, 1) := by decide +kernel
theorem dX8_seekTemplate_44 : decode cX8_seekTemplate 44 = .ok (.iload 4, 2) := by decide +kernel
theorem dX8_seekTemplate_46 : decode cX8_seekTemplate 46 = .ok (.invokevirtual 332, 3) := by decide +kernel
theorem dX8_seekTemplate_49 : decode cX8_seekTemplate 49 = .ok (.istore 6, 2) := by decide +kernel
theorem dX8_seekTemplate_51 : decode cX8_seekTemplate 51 = .ok (.aload_n 0, 1) := by decide +kernel
theorem dX8_seekTemplate_52 : decode cX8_seekTemplate 52 = .ok (.getfield 21, 3) := by decide +kernel
theorem dX8_seekTemplate_55 : decode cX8_seekTemplate 55 = .ok (.iload_n 3, 1) := by decide +kernel
theorem dX8_seekTemplate_56 : decode cX8_seekTemplate 56 = .ok (.iload 5, 2) := by decide +kernel
theorem dX8_seekTemplate_58 : decode cX8_seekTemplate 58 = .ok (.iload 6, 2) := by decide +kernel
theorem dX8_seekTemplate_60 : decode cX8_seekTemplate 60 = .ok (.aload_n 0, 1) := by decide +kernel
theorem dX8_seekTemplate_61 : decode cX8_seekTemplate 61 = .ok (.getfield 57, 3) := by decide +kernel
theorem dX8_seekTemplate_64 : decode cX8_seekTemplate 64 = .ok (.invokevirtual 356, 3) := by decide +kernel
theorem dX8_seekTemplate_67 : decode cX8_seekTemplate 67 = .ok (.invokevirtual 343, 3) := by decide +kernel
theorem dX8_seekTemplate_70 : decode cX8_seekTemplate 70 = .ok (.istore 7, 2) := by decide +kernel
theorem dX8_seekTemplate_72 : decode cX8_seekTemplate 72 = .ok (.aload_n 0, 1) := by decide +kernel
theorem dX8_seekTemplate_73 : decode cX8_seekTemplate 73 = .ok (.getfield 57, 3) := by decide +kernel
theorem dX8_seekTemplate_76 : decode cX8_seekTemplate 76 = .ok (.aload_n 0, 1) := by decide +kernel
theorem dX8_seekTemplate_77 : decode cX8_seekTemplate 77 = .ok (.getfield 21, 3) := by decide +kernel
theorem dX8_seekTemplate_80 : decode cX8_seekTemplate 80 = .ok (.iload_n 3, 1) := by decide +kernel
theorem dX8_seekTemplate_81 : decode cX8_seekTemplate 81 = .ok (.iload 5, 2) := by decide +kernel
theorem dX8_seekTemplate_83 : decode cX8_seekTemplate 83 = .ok (.iload 6, 2) := by decide +kernel
theorem dX8_seekTemplate_85 : decode cX8_seekTemplate 85 = .ok (.invokevirtual 339, 3) := by decide +kernel
theorem dX8_seekTemplate_88 : decode cX8_seekTemplate 88 = .ok (.iload 7, 2) := by decide +kernel
theorem dX8_seekTemplate_90 : decode cX8_seekTemplate 90 = .ok (.invokevirtual 359, 3) := by decide +kernel
theorem dX8_seekTemplate_93 : decode cX8_seekTemplate 93 = .ok (.iinc 4 4, 3) := by decide +kernel
theorem dX8_seekTemplate_96 : decode cX8_seekTemplate 96 = .ok (.goto 16, 3) := by decide +kernel
theorem dX8_seekTemplate_99 : decode cX8_seekTemplate 99 = .ok (.aload_n 0, 1) := by decide +kernel
theorem dX8_seekTemplate_100 : decode cX8_seekTemplate 100 = .ok (.getfield 57, 3) := by decide +kernel
theorem dX8_seekTemplate_103 : decode cX8_seekTemplate 103 = .ok (.aload_n 1, 1) := by decide +kernel
theorem dX8_seekTemplate_104 : decode cX8_seekTemplate 104 = .ok (.iload 4, 2) := by decide +kernel
theorem dX8_seekTemplate_106 : decode cX8_seekTemplate 106 = .ok (.invokevirtual 338, 3) := by decide +kernel
theorem dX8_seekTemplate_109 : decode cX8_seekTemplate 109 = .ok (.invokevirtual 350, 3) := by decide +kernel
theorem dX8_seekTemplate_112 : decode cX8_seekTemplate 112 = .ok (.iinc 4 1, 3) := by decide +kernel
theorem dX8_seekTemplate_115 : decode cX8_seekTemplate 115 = .ok (.goto (-112), 3) := by decide +kernel
theorem dX8_seekTemplate_118 : decode cX8_seekTemplate 118 = .ok (.return_, 1) := by decide +kernel
theorem dX8_mostBranches_0 : decode cX8_mostBranches 0 = .ok (.iconst (-1), 1) := by decide +kernel
theorem dX8_mostBranches_1 : decode cX8_mostBranches 1 = .ok (.istore_n 3, 1) := by decide +kernel
theorem dX8_mostBranches_2 : decode cX8_mostBranches 2 = .ok (.iconst 0, 1) := by decide +kernel
theorem dX8_mostBranches_3 : decode cX8_mostBranches 3 = .ok (.istore 4, 2) := by decide +kernel
theorem dX8_mostBranches_5 : decode cX8_mostBranches 5 = .ok (.iconst 0, 1) := by decide +kernel
theorem dX8_mostBranches_6 : decode cX8_mostBranches 6 = .ok (.istore 5, 2) := by decide +kernel
theorem dX8_mostBranches_8 : decode cX8_mostBranches 8 = .ok (.iload 5, 2) := by decide +kernel
theorem dX8_mostBranches_10 : decode cX8_mostBranches 10 = .ok (.aload_n 0, 1) := by decide +kernel
theorem dX8_mostBranches_11 : decode cX8_mostBranches 11 = .ok (.getfield 206, 3) := by decide +kernel
theorem dX8_mostBranches_14 : decode cX8_mostBranches 14 = .ok (.if_icmp .ge 43, 3) := by decide +kernel
theorem dX8_mostBranches_17 : decode cX8_mostBranches 17 = .ok (.aload_n 0, 1) := by decide +kernel
theorem dX8_mostBranches_18 : decode cX8_mostBranches 18 = .ok (.aload_n 1, 1) := by decide +kernel
theorem dX8_mostBranches_19 : decode cX8_mostBranches 19 = .ok (.aload_n 0, 1) := by decide +kernel
theorem dX8_mostBranches_20 : decode cX8_mostBranches 20 = .ok (.iload 5, 2) := by decide +kernel
theorem dX8_mostBranches_22 : decode cX8_mostBranches 22 = .ok (.invokevirtual 214, 3) := by decide +kernel
theorem dX8_mostBranches_25 : decode cX8_mostBranches 25 = .ok (.invokevirtual 274, 3) := by decide +kernel
theorem dX8_mostBranches_28 : decode cX8_mostBranches 28 = .ok (.iload_n 2, 1) := by decide +kernel
theorem dX8_mostBranches_29 : decode cX8_mostBranches 29 = .ok (.iconst (-1), 1) := by decide +kernel
theorem dX8_mostBranches_30 : decode cX8_mostBranches 30 = .ok (.ixor, 1) := by decide +kernel
theorem dX8_mostBranches_31 : decode cX8_mostBranches 31 = .ok (.iand, 1) := by decide +kernel
theorem dX8_mostBranches_32 : decode cX8_mostBranches 32 = .ok (.invokestatic 363, 3) := by decide +kernel
theorem dX8_mostBranches_35 : decode cX8_mostBranches 35 = .ok (.istore 6, 2) := by decide +kernel
theorem dX8_mostBranches_37 : decode cX8_mostBranches 37 = .ok (.iload 6, 2) := by decide +kernel
theorem dX8_mostBranches_39 : decode cX8_mostBranches 39 = .ok (.iload 4, 2) := by decide +kernel
theorem dX8_mostBranches_41 : decode cX8_mostBranches 41 = .ok (.if_icmp .le 10, 3) := by decide +kernel
theorem dX8_mostBranches_44 : decode cX8_mostBranches 44 = .ok (.iload 5, 2) := by decide +kernel
theorem dX8_mostBranches_46 : decode cX8_mostBranches 46 = .ok (.istore_n 3, 1) := by decide +kernel
theorem dX8_mostBranches_47 : decode cX8_mostBranches 47 = .ok (.iload 6, 2) := by decide +kernel
theorem dX8_mostBranches_49 : decode cX8_mostBranches 49 = .ok (.istore 4, 2) := by decide +kernel
theorem dX8_mostBranches_51 : decode cX8_mostBranches 51 = .ok (.iinc 5 1, 3) := by decide +kernel
theorem dX8_mostBranches_54 : decode cX8_mostBranches 54 = .ok (.goto (-46), 3) := by decide +kernel
theorem dX8_mostBranches_57 : decode cX8_mostBranches 57 = .ok (.iload_n 3, 1) := by decide +kernel
theorem dX8_mostBranches_58 : decode cX8_mostBranches 58 = .ok (.ireturn, 1) := by decide +kernel
theorem dX8_branches_0 : decode cX8_branches 0 = .ok (.iconst 0, 1) := by decide +kernel
theorem dX8_branches_1 : decode cX8_branches 1 = .ok (.istore_n 3, 1) := by decide +kernel
theorem dX8_branches_2 : decode cX8_branches 2 = .ok (.iconst 0, 1) := by decide +kernel
theorem dX8_branches_3 : decode cX8_branches 3 = .ok (.istore 4, 2) := by decide +kernel
theorem dX8_branches_5 : decode cX8_branches 5 = .ok (.aload_n 2, 1) := by decide +kernel
theorem dX8_branches_6 : decode cX8_branches 6 = .ok (.ifnull 71, 3) := by decide +kernel
theorem dX8_branches_9 : decode cX8_branches 9 = .ok (.iload 4, 2) := by decide +kernel
theorem dX8_branches_11 : decode cX8_branches 11 = .ok (.aload_n 1, 1) := by decide +kernel
theorem dX8_branches_12 : decode cX8_branches 12 = .ok (.invokevirtual 201, 3) := by decide +kernel
theorem dX8_branches_15 : decode cX8_branches 15 = .ok (.if_icmp .ge 62, 3) := by decide +kernel
theorem dX8_branches_18 : decode cX8_branches 18 = .ok (.aload_n 0, 1) := by decide +kernel
theorem dX8_branches_19 : decode cX8_branches 19 = .ok (.aload_n 1, 1) := by decide +kernel
theorem dX8_branches_20 : decode cX8_branches 20 = .ok (.iload 4, 2) := by decide +kernel
theorem dX8_branches_22 : decode cX8_branches 22 = .ok (.invokevirtual 235, 3) := by decide +kernel
theorem dX8_branches_25 : decode cX8_branches 25 = .ok (.invokevirtual 163, 3) := by decide +kernel
theorem dX8_branches_28 : decode cX8_branches 28 = .ok (.astore 5, 2) := by decide +kernel
theorem dX8_branches_30 : decode cX8_branches 30 = .ok (.aload 5, 2) := by decide +kernel
theorem dX8_branches_32 : decode cX8_branches 32 = .ok (.ifnull 39, 3) := by decide +kernel
theorem dX8_branches_35 : decode cX8_branches 35 = .ok (.aload 5, 2) := by decide +kernel
theorem dX8_branches_37 : decode cX8_branches 37 = .ok (.invokevirtual 300, 3) := by decide +kernel
theorem dX8_branches_40 : decode cX8_branches 40 = .ok (.iconst (-1), 1) := by decide +kernel
theorem dX8_branches_41 : decode cX8_branches 41 = .ok (.if_icmp .eq 30, 3) := by decide +kernel
theorem dX8_branches_44 : decode cX8_branches 44 = .ok (.iload_n 3, 1) := by decide +kernel
theorem dX8_branches_45 : decode cX8_branches 45 = .ok (.iconst 1, 1) := by decide +kernel
theorem dX8_branches_46 : decode cX8_branches 46 = .ok (.iconst 2, 1) := by decide +kernel
theorem dX8_branches_47 : decode cX8_branches 47 = .ok (.iload 4, 2) := by decide +kernel
theorem dX8_branches_49 : decode cX8_branches 49 = .ok (.imul, 1) := by decide +kernel
theorem dX8_branches_50 : decode cX8_branches 50 = .ok (.aload_n 2, 1) := by decide +kernel
theorem dX8_branches_51 : decode cX8_branches 51 = .ok (.aload 5, 2) := by decide +kernel
theorem dX8_branches_53 : decode cX8_branches 53 = .ok (.invokevirtual 300, 3) := by decide +kernel
theorem dX8_branches_56 : decode cX8_branches 56 = .ok (.invokevirtual 303, 3) := by decide +kernel
theorem dX8_branches_59 : decode cX8_branches 59 = .ok (.ifCond .eq 7, 3) := by decide +kernel
theorem dX8_branches_62 : decode cX8_branches 62 = .ok (.iconst 1, 1) := by decide +kernel
theorem dX8_branches_63 : decode cX8_branches 63 = .ok (.goto 4, 3) := by decide +kernel
theorem dX8_branches_66 : decode cX8_branches 66 = .ok (.iconst 0, 1) := by decide +kernel
theorem dX8_branches_67 : decode cX8_branches 67 = .ok (.iadd, 1) := by decide +kernel
theorem dX8_branches_68 : decode cX8_branches 68 = .ok (.ishl, 1) := by decide +kernel
theorem dX8_branches_69 : decode cX8_branches 69 = .ok (.ior, 1) := by decide +kernel
theorem dX8_branches_70 : decode cX8_branches 70 = .ok (.istore_n 3, 1) := by decide +kernel
theorem dX8_branches_71 : decode cX8_branches 71 = .ok (.iinc 4 1, 3) := by decide +kernel
theorem dX8_branches_74 : decode cX8_branches 74 = .ok (.goto (-69), 3) := by decide +kernel
theorem dX8_branches_77 : decode cX8_branches 77 = .ok (.iload_n 3, 1) := by decide +kernel
theorem dX8_branches_78 : decode cX8_branches 78 = .ok (.ireturn, 1) := by decide +kernel
theorem dL_dice_0 : decode cL_dice 0 = .ok (.iload_n 1, 1) := by decide +kernel
theorem dL_dice_1 : decode cL_dice 1 = .ok (.aload_n 0, 1) := by decide +kernel
theorem dL_dice_2 : decode cL_dice 2 = .ok (.arraylength, 1) := by decide +kernel
theorem dL_dice_3 : decode cL_dice 3 = .ok (.if_icmp .ge 9, 3) := by decide +kernel
theorem dL_dice_6 : decode cL_dice 6 = .ok (.aload_n 0, 1) := by decide +kernel
theorem dL_dice_7 : decode cL_dice 7 = .ok (.iload_n 1, 1) := by decide +kernel
theorem dL_dice_8 : decode cL_dice 8 = .ok (.iaload, 1) := by decide +kernel
theorem dL_dice_9 : decode cL_dice 9 = .ok (.goto 23, 3) := by decide +kernel
theorem dL_dice_12 : decode cL_dice 12 = .ok (.ldc 7, 2) := by decide +kernel
theorem dL_dice_14 : decode cL_dice 14 = .ok (.iload_n 1, 1) := by decide +kernel
theorem dL_dice_15 : decode cL_dice 15 = .ok (.sipush 613, 3) := by decide +kernel
theorem dL_dice_18 : decode cL_dice 18 = .ok (.iadd, 1) := by decide +kernel
theorem dL_dice_19 : decode cL_dice 19 = .ok (.imul, 1) := by decide +kernel
theorem dL_dice_20 : decode cL_dice 20 = .ok (.sipush 953, 3) := by decide +kernel
theorem dL_dice_23 : decode cL_dice 23 = .ok (.iload_n 1, 1) := by decide +kernel
theorem dL_dice_24 : decode cL_dice 24 = .ok (.imul, 1) := by decide +kernel
theorem dL_dice_25 : decode cL_dice 25 = .ok (.iload_n 1, 1) := by decide +kernel
theorem dL_dice_26 : decode cL_dice 26 = .ok (.imul, 1) := by decide +kernel
theorem dL_dice_27 : decode cL_dice 27 = .ok (.iadd, 1) := by decide +kernel
theorem dL_dice_28 : decode cL_dice 28 = .ok (.sipush 467, 3) := by decide +kernel
theorem dL_dice_31 : decode cL_dice 31 = .ok (.iadd, 1) := by decide +kernel
theorem dL_dice_32 : decode cL_dice 32 = .ok (.ldc 8, 2) := by decide +kernel
theorem dL_dice_34 : decode cL_dice 34 = .ok (.iand, 1) := by decide +kernel
theorem dL_dice_35 : decode cL_dice 35 = .ok (.ireturn, 1) := by decide +kernel
theorem dL_act_0 : decode cL_act 0 = .ok (.iload_n 1, 1) := by decide +kernel
theorem dL_act_1 : decode cL_act 1 = .ok (.ifCond .ne 12, 3) := by decide +kernel
theorem dL_act_4 : decode cL_act 4 = .ok (.aload_n 0, 1) := by decide +kernel
theorem dL_act_5 : decode cL_act 5 = .ok (.iload_n 2, 1) := by decide +kernel
theorem dL_act_6 : decode cL_act 6 = .ok (.i2c, 1) := by decide +kernel
theorem dL_act_7 : decode cL_act 7 = .ok (.invokevirtual 9, 3) := by decide +kernel
theorem dL_act_10 : decode cL_act 10 = .ok (.goto 276, 3) := by decide +kernel
theorem dL_act_13 : decode cL_act 13 = .ok (.iload_n 1, 1) := by decide +kernel
theorem dL_act_14 : decode cL_act 14 = .ok (.iconst 1, 1) := by decide +kernel
theorem dL_act_15 : decode cL_act 15 = .ok (.if_icmp .ne 10, 3) := by decide +kernel
theorem dL_act_18 : decode cL_act 18 = .ok (.aload_n 0, 1) := by decide +kernel
theorem dL_act_19 : decode cL_act 19 = .ok (.invokevirtual 15, 3) := by decide +kernel
theorem dL_act_22 : decode cL_act 22 = .ok (.goto 264, 3) := by decide +kernel
theorem dL_act_25 : decode cL_act 25 = .ok (.iload_n 1, 1) := by decide +kernel
theorem dL_act_26 : decode cL_act 26 = .ok (.iconst 2, 1) := by decide +kernel
theorem dL_act_27 : decode cL_act 27 = .ok (.if_icmp .ne 14, 3) := by decide +kernel
theorem dL_act_30 : decode cL_act 30 = .ok (.aload_n 0, 1) := by decide +kernel
theorem dL_act_31 : decode cL_act 31 = .ok (.iload_n 2, 1) := by decide +kernel
theorem dL_act_32 : decode cL_act 32 = .ok (.iload_n 3, 1) := by decide +kernel
theorem dL_act_33 : decode cL_act 33 = .ok (.iload 4, 2) := by decide +kernel
theorem dL_act_35 : decode cL_act 35 = .ok (.invokevirtual 19, 3) := by decide +kernel
theorem dL_act_38 : decode cL_act 38 = .ok (.goto 248, 3) := by decide +kernel
theorem dL_act_41 : decode cL_act 41 = .ok (.iload_n 1, 1) := by decide +kernel
theorem dL_act_42 : decode cL_act 42 = .ok (.iconst 3, 1) := by decide +kernel
theorem dL_act_43 : decode cL_act 43 = .ok (.if_icmp .ne 11, 3) := by decide +kernel
theorem dL_act_46 : decode cL_act 46 = .ok (.aload_n 0, 1) := by decide +kernel
theorem dL_act_47 : decode cL_act 47 = .ok (.iload_n 2, 1) := by decide +kernel
theorem dL_act_48 : decode cL_act 48 = .ok (.invokevirtual 23, 3) := by decide +kernel
theorem dL_act_51 : decode cL_act 51 = .ok (.goto 235, 3) := by decide +kernel
theorem dL_act_54 : decode cL_act 54 = .ok (.iload_n 1, 1) := by decide +kernel
theorem dL_act_55 : decode cL_act 55 = .ok (.iconst 4, 1) := by decide +kernel
theorem dL_act_56 : decode cL_act 56 = .ok (.if_icmp .ne 12, 3) := by decide +kernel
theorem dL_act_59 : decode cL_act 59 = .ok (.aload_n 0, 1) := by decide +kernel
theorem dL_act_60 : decode cL_act 60 = .ok (.iload_n 2, 1) := by decide +kernel
theorem dL_act_61 : decode cL_act 61 = .ok (.iload_n 3, 1) := by decide +kernel
theorem dL_act_62 : decode cL_act 62 = .ok (.invokevirtual 27, 3) := by decide +kernel
theorem dL_act_65 : decode cL_act 65 = .ok (.goto 221, 3) := by decide +kernel
theorem dL_act_68 : decode cL_act 68 = .ok (.iload_n 1, 1) := by decide +kernel
theorem dL_act_69 : decode cL_act 69 = .ok (.iconst 5, 1) := by decide +kernel
theorem dL_act_70 : decode cL_act 70 = .ok (.if_icmp .ne 20, 3) := by decide +kernel
theorem dL_act_73 : decode cL_act 73 = .ok (.aload_n 0, 1) := by decide +kernel
theorem dL_act_74 : decode cL_act 74 = .ok (.iload_n 2, 1) := by decide +kernel
theorem dL_act_75 : decode cL_act 75 = .ok (.iload_n 3, 1) := by decide +kernel
theorem dL_act_76 : decode cL_act 76 = .ok (.invokevirtual 31, 3) := by decide +kernel
theorem dL_act_79 : decode cL_act 79 = .ok (.ifCond .eq 7, 3) := by decide +kernel
theorem dL_act_82 : decode cL_act 82 = .ok (.iconst 1, 1) := by decide +kernel
theorem dL_act_83 : decode cL_act 83 = .ok (.goto 203, 3) := by decide +kernel
theorem dL_act_86 : decode cL_act 86 = .ok (.iconst 0, 1) := by decide +kernel
theorem dL_act_87 : decode cL_act 87 = .ok (.goto 199, 3) := by decide +kernel
theorem dL_act_90 : decode cL_act 90 = .ok (.iload_n 1, 1) := by decide +kernel
theorem dL_act_91 : decode cL_act 91 = .ok (.bipush 6, 2) := by decide +kernel
theorem dL_act_93 : decode cL_act 93 = .ok (.if_icmp .ne 16, 3) := by decide +kernel
theorem dL_act_96 : decode cL_act 96 = .ok (.aload_n 0, 1) := by decide +kernel
theorem dL_act_97 : decode cL_act 97 = .ok (.iload_n 2, 1) := by decide +kernel
theorem dL_act_98 : decode cL_act 98 = .ok (.iload_n 3, 1) := by decide +kernel
theorem dL_act_99 : decode cL_act 99 = .ok (.iload 4, 2) := by decide +kernel
theorem dL_act_101 : decode cL_act 101 = .ok (.iload 5, 2) := by decide +kernel
theorem dL_act_103 : decode cL_act 103 = .ok (.invokevirtual 35, 3) := by decide +kernel
theorem dL_act_106 : decode cL_act 106 = .ok (.goto 180, 3) := by decide +kernel
theorem dL_act_109 : decode cL_act 109 = .ok (.iload_n 1, 1) := by decide +kernel
theorem dL_act_110 : decode cL_act 110 = .ok (.bipush 7, 2) := by decide +kernel
theorem dL_act_112 : decode cL_act 112 = .ok (.if_icmp .ne 19, 3) := by decide +kernel
theorem dL_act_115 : decode cL_act 115 = .ok (.aload_n 0, 1) := by decide +kernel
theorem dL_act_116 : decode cL_act 116 = .ok (.iload_n 2, 1) := by decide +kernel
theorem dL_act_117 : decode cL_act 117 = .ok (.invokevirtual 39, 3) := by decide +kernel
theorem dL_act_120 : decode cL_act 120 = .ok (.ifCond .eq 7, 3) := by decide +kernel
theorem dL_act_123 : decode cL_act 123 = .ok (.iconst 1, 1) := by decide +kernel
theorem dL_act_124 : decode cL_act 124 = .ok (.goto 162, 3) := by decide +kernel
theorem dL_act_127 : decode cL_act 127 = .ok (.iconst 0, 1) := by decide +kernel
theorem dL_act_128 : decode cL_act 128 = .ok (.goto 158, 3) := by decide +kernel
theorem dL_act_131 : decode cL_act 131 = .ok (.iload_n 1, 1) := by decide +kernel
theorem dL_act_132 : decode cL_act 132 = .ok (.bipush 8, 2) := by decide +kernel
theorem dL_act_134 : decode cL_act 134 = .ok (.if_icmp .ne 10, 3) := by decide +kernel
theorem dL_act_137 : decode cL_act 137 = .ok (.aload_n 0, 1) := by decide +kernel
theorem dL_act_138 : decode cL_act 138 = .ok (.invokevirtual 43, 3) := by decide +kernel
theorem dL_act_141 : decode cL_act 141 = .ok (.goto 145, 3) := by decide +kernel
theorem dL_act_144 : decode cL_act 144 = .ok (.iload_n 1, 1) := by decide +kernel
theorem dL_act_145 : decode cL_act 145 = .ok (.bipush 9, 2) := by decide +kernel
theorem dL_act_147 : decode cL_act 147 = .ok (.if_icmp .ne 12, 3) := by decide +kernel
theorem dL_act_150 : decode cL_act 150 = .ok (.aload_n 0, 1) := by decide +kernel
theorem dL_act_151 : decode cL_act 151 = .ok (.iload_n 2, 1) := by decide +kernel
theorem dL_act_152 : decode cL_act 152 = .ok (.iload_n 3, 1) := by decide +kernel
theorem dL_act_153 : decode cL_act 153 = .ok (.invokevirtual 46, 3) := by decide +kernel
theorem dL_act_156 : decode cL_act 156 = .ok (.goto 130, 3) := by decide +kernel
theorem dL_act_159 : decode cL_act 159 = .ok (.iload_n 1, 1) := by decide +kernel
theorem dL_act_160 : decode cL_act 160 = .ok (.bipush 10, 2) := by decide +kernel
theorem dL_act_162 : decode cL_act 162 = .ok (.if_icmp .ne 12, 3) := by decide +kernel
theorem dL_act_165 : decode cL_act 165 = .ok (.aload_n 0, 1) := by decide +kernel
theorem dL_act_166 : decode cL_act 166 = .ok (.iload_n 2, 1) := by decide +kernel
theorem dL_act_167 : decode cL_act 167 = .ok (.iload_n 3, 1) := by decide +kernel
theorem dL_act_168 : decode cL_act 168 = .ok (.invokevirtual 49, 3) := by decide +kernel
theorem dL_act_171 : decode cL_act 171 = .ok (.goto 115, 3) := by decide +kernel
theorem dL_act_174 : decode cL_act 174 = .ok (.iload_n 1, 1) := by decide +kernel
theorem dL_act_175 : decode cL_act 175 = .ok (.bipush 11, 2) := by decide +kernel
theorem dL_act_177 : decode cL_act 177 = .ok (.if_icmp .ne 14, 3) := by decide +kernel
theorem dL_act_180 : decode cL_act 180 = .ok (.aload_n 0, 1) := by decide +kernel
theorem dL_act_181 : decode cL_act 181 = .ok (.iload_n 2, 1) := by decide +kernel
theorem dL_act_182 : decode cL_act 182 = .ok (.iload_n 3, 1) := by decide +kernel
theorem dL_act_183 : decode cL_act 183 = .ok (.iload 4, 2) := by decide +kernel
theorem dL_act_185 : decode cL_act 185 = .ok (.invokevirtual 52, 3) := by decide +kernel
theorem dL_act_188 : decode cL_act 188 = .ok (.goto 98, 3) := by decide +kernel
theorem dL_act_191 : decode cL_act 191 = .ok (.iload_n 1, 1) := by decide +kernel
theorem dL_act_192 : decode cL_act 192 = .ok (.bipush 12, 2) := by decide +kernel
theorem dL_act_194 : decode cL_act 194 = .ok (.if_icmp .ne 12, 3) := by decide +kernel
theorem dL_act_197 : decode cL_act 197 = .ok (.aload_n 0, 1) := by decide +kernel
theorem dL_act_198 : decode cL_act 198 = .ok (.iload_n 2, 1) := by decide +kernel
theorem dL_act_199 : decode cL_act 199 = .ok (.iload_n 3, 1) := by decide +kernel
theorem dL_act_200 : decode cL_act 200 = .ok (.invokevirtual 55, 3) := by decide +kernel
theorem dL_act_203 : decode cL_act 203 = .ok (.goto 83, 3) := by decide +kernel
theorem dL_act_206 : decode cL_act 206 = .ok (.iload_n 1, 1) := by decide +kernel
theorem dL_act_207 : decode cL_act 207 = .ok (.bipush 13, 2) := by decide +kernel
theorem dL_act_209 : decode cL_act 209 = .ok (.if_icmp .ne 16, 3) := by decide +kernel
theorem dL_act_212 : decode cL_act 212 = .ok (.aload_n 0, 1) := by decide +kernel
theorem dL_act_213 : decode cL_act 213 = .ok (.iload_n 2, 1) := by decide +kernel
theorem dL_act_214 : decode cL_act 214 = .ok (.iload_n 3, 1) := by decide +kernel
theorem dL_act_215 : decode cL_act 215 = .ok (.iload 4, 2) := by decide +kernel
theorem dL_act_217 : decode cL_act 217 = .ok (.iload 5, 2) := by decide +kernel
theorem dL_act_219 : decode cL_act 219 = .ok (.invokevirtual 58, 3) := by decide +kernel
theorem dL_act_222 : decode cL_act 222 = .ok (.goto 64, 3) := by decide +kernel
theorem dL_act_225 : decode cL_act 225 = .ok (.iload_n 1, 1) := by decide +kernel
theorem dL_act_226 : decode cL_act 226 = .ok (.bipush 14, 2) := by decide +kernel
theorem dL_act_228 : decode cL_act 228 = .ok (.if_icmp .ne 16, 3) := by decide +kernel
theorem dL_act_231 : decode cL_act 231 = .ok (.aload_n 0, 1) := by decide +kernel
theorem dL_act_232 : decode cL_act 232 = .ok (.iload_n 2, 1) := by decide +kernel
theorem dL_act_233 : decode cL_act 233 = .ok (.iload_n 3, 1) := by decide +kernel
theorem dL_act_234 : decode cL_act 234 = .ok (.iload 4, 2) := by decide +kernel
theorem dL_act_236 : decode cL_act 236 = .ok (.iload 5, 2) := by decide +kernel
theorem dL_act_238 : decode cL_act 238 = .ok (.invokevirtual 61, 3) := by decide +kernel
theorem dL_act_241 : decode cL_act 241 = .ok (.goto 45, 3) := by decide +kernel
theorem dL_act_244 : decode cL_act 244 = .ok (.iload_n 1, 1) := by decide +kernel
theorem dL_act_245 : decode cL_act 245 = .ok (.bipush 15, 2) := by decide +kernel
theorem dL_act_247 : decode cL_act 247 = .ok (.if_icmp .ne 16, 3) := by decide +kernel
theorem dL_act_250 : decode cL_act 250 = .ok (.aload_n 0, 1) := by decide +kernel
theorem dL_act_251 : decode cL_act 251 = .ok (.iload_n 2, 1) := by decide +kernel
theorem dL_act_252 : decode cL_act 252 = .ok (.iload_n 3, 1) := by decide +kernel
theorem dL_act_253 : decode cL_act 253 = .ok (.iload 4, 2) := by decide +kernel
theorem dL_act_255 : decode cL_act 255 = .ok (.iload 5, 2) := by decide +kernel
theorem dL_act_257 : decode cL_act 257 = .ok (.invokevirtual 65, 3) := by decide +kernel
theorem dL_act_260 : decode cL_act 260 = .ok (.goto 26, 3) := by decide +kernel
theorem dL_act_263 : decode cL_act 263 = .ok (.iload_n 1, 1) := by decide +kernel
theorem dL_act_264 : decode cL_act 264 = .ok (.bipush 16, 2) := by decide +kernel
theorem dL_act_266 : decode cL_act 266 = .ok (.if_icmp .ne 14, 3) := by decide +kernel
theorem dL_act_269 : decode cL_act 269 = .ok (.aload_n 0, 1) := by decide +kernel
theorem dL_act_270 : decode cL_act 270 = .ok (.iload_n 2, 1) := by decide +kernel
theorem dL_act_271 : decode cL_act 271 = .ok (.iload_n 3, 1) := by decide +kernel
theorem dL_act_272 : decode cL_act 272 = .ok (.iload 4, 2) := by decide +kernel
theorem dL_act_274 : decode cL_act 274 = .ok (.invokevirtual 68, 3) := by decide +kernel
theorem dL_act_277 : decode cL_act 277 = .ok (.goto 9, 3) := by decide +kernel
theorem dL_act_280 : decode cL_act 280 = .ok (.aload_n 0, 1) := by decide +kernel
theorem dL_act_281 : decode cL_act 281 = .ok (.iload_n 2, 1) := by decide +kernel
theorem dL_act_282 : decode cL_act 282 = .ok (.iload_n 3, 1) := by decide +kernel
theorem dL_act_283 : decode cL_act 283 = .ok (.invokevirtual 71, 3) := by decide +kernel
theorem dL_act_286 : decode cL_act 286 = .ok (.ireturn, 1) := by decide +kernel
theorem dL_act_287 : decode cL_act 287 = .ok (.astore 6, 2) := by decide +kernel
theorem dL_act_289 : decode cL_act 289 = .ok (.ldc 76, 2) := by decide +kernel
theorem dL_act_291 : decode cL_act 291 = .ok (.ireturn, 1) := by decide +kernel
theorem dL_act_292 : decode cL_act 292 = .ok (.astore 6, 2) := by decide +kernel
theorem dL_act_294 : decode cL_act 294 = .ok (.ldc 79, 2) := by decide +kernel
theorem dL_act_296 : decode cL_act 296 = .ok (.ireturn, 1) := by decide +kernel
theorem dL_act_297 : decode cL_act 297 = .ok (.astore 6, 2) := by decide +kernel
theorem dL_act_299 : decode cL_act 299 = .ok (.ldc 82, 2) := by decide +kernel
theorem dL_act_301 : decode cL_act 301 = .ok (.ireturn, 1) := by decide +kernel
theorem dL_all_0 : decode cL_all 0 = .ok (.aload_n 0, 1) := by decide +kernel
theorem dL_all_1 : decode cL_all 1 = .ok (.invokevirtual 83, 3) := by decide +kernel
theorem dL_all_4 : decode cL_all 4 = .ok (.i2l, 1) := by decide +kernel
theorem dL_all_5 : decode cL_all 5 = .ok (.lstore_n 2, 1) := by decide +kernel
theorem dL_all_6 : decode cL_all 6 = .ok (.iconst 0, 1) := by decide +kernel
theorem dL_all_7 : decode cL_all 7 = .ok (.istore 4, 2) := by decide +kernel
theorem dL_all_9 : decode cL_all 9 = .ok (.iload 4, 2) := by decide +kernel
theorem dL_all_11 : decode cL_all 11 = .ok (.aload_n 1, 1) := by decide +kernel
theorem dL_all_12 : decode cL_all 12 = .ok (.iconst 1, 1) := by decide +kernel
theorem dL_all_13 : decode cL_all 13 = .ok (.iaload, 1) := by decide +kernel
theorem dL_all_14 : decode cL_all 14 = .ok (.if_icmp .ge 28, 3) := by decide +kernel
theorem dL_all_17 : decode cL_all 17 = .ok (.ldc2_w 86, 3) := by decide +kernel
theorem dL_all_20 : decode cL_all 20 = .ok (.lload_n 2, 1) := by decide +kernel
theorem dL_all_21 : decode cL_all 21 = .ok (.lmul, 1) := by decide +kernel
theorem dL_all_22 : decode cL_all 22 = .ok (.aload_n 0, 1) := by decide +kernel
theorem dL_all_23 : decode cL_all 23 = .ok (.bipush 7, 2) := by decide +kernel
theorem dL_all_25 : decode cL_all 25 = .ok (.iload 4, 2) := by decide +kernel
theorem dL_all_27 : decode cL_all 27 = .ok (.iconst 0, 1) := by decide +kernel
theorem dL_all_28 : decode cL_all 28 = .ok (.iconst 0, 1) := by decide +kernel
theorem dL_all_29 : decode cL_all 29 = .ok (.iconst 0, 1) := by decide +kernel
theorem dL_all_30 : decode cL_all 30 = .ok (.invokestatic 88, 3) := by decide +kernel
theorem dL_all_33 : decode cL_all 33 = .ok (.i2l, 1) := by decide +kernel
theorem dL_all_34 : decode cL_all 34 = .ok (.ladd, 1) := by decide +kernel
theorem dL_all_35 : decode cL_all 35 = .ok (.lstore_n 2, 1) := by decide +kernel
theorem dL_all_36 : decode cL_all 36 = .ok (.iinc 4 1, 3) := by decide +kernel
theorem dL_all_39 : decode cL_all 39 = .ok (.goto (-30), 3) := by decide +kernel
theorem dL_all_42 : decode cL_all 42 = .ok (.iconst 0, 1) := by decide +kernel
theorem dL_all_43 : decode cL_all 43 = .ok (.istore 4, 2) := by decide +kernel
theorem dL_all_45 : decode cL_all 45 = .ok (.iload 4, 2) := by decide +kernel
theorem dL_all_47 : decode cL_all 47 = .ok (.aload_n 1, 1) := by decide +kernel
theorem dL_all_48 : decode cL_all 48 = .ok (.iconst 2, 1) := by decide +kernel
theorem dL_all_49 : decode cL_all 49 = .ok (.iaload, 1) := by decide +kernel
theorem dL_all_50 : decode cL_all 50 = .ok (.aload_n 1, 1) := by decide +kernel
theorem dL_all_51 : decode cL_all 51 = .ok (.iconst 3, 1) := by decide +kernel
theorem dL_all_52 : decode cL_all 52 = .ok (.iaload, 1) := by decide +kernel
theorem dL_all_53 : decode cL_all 53 = .ok (.imul, 1) := by decide +kernel
theorem dL_all_54 : decode cL_all 54 = .ok (.if_icmp .ge 79, 3) := by decide +kernel
theorem dL_all_57 : decode cL_all 57 = .ok (.ldc2_w 86, 3) := by decide +kernel
theorem dL_all_60 : decode cL_all 60 = .ok (.lload_n 2, 1) := by decide +kernel
theorem dL_all_61 : decode cL_all 61 = .ok (.lmul, 1) := by decide +kernel
theorem dL_all_62 : decode cL_all 62 = .ok (.aload_n 0, 1) := by decide +kernel
theorem dL_all_63 : decode cL_all 63 = .ok (.iload 4, 2) := by decide +kernel
theorem dL_all_65 : decode cL_all 65 = .ok (.aload_n 1, 1) := by decide +kernel
theorem dL_all_66 : decode cL_all 66 = .ok (.iconst 3, 1) := by decide +kernel
theorem dL_all_67 : decode cL_all 67 = .ok (.iaload, 1) := by decide +kernel
theorem dL_all_68 : decode cL_all 68 = .ok (.idiv, 1) := by decide +kernel
theorem dL_all_69 : decode cL_all 69 = .ok (.iload 4, 2) := by decide +kernel
theorem dL_all_71 : decode cL_all 71 = .ok (.aload_n 1, 1) := by decide +kernel
theorem dL_all_72 : decode cL_all 72 = .ok (.iconst 3, 1) := by decide +kernel
theorem dL_all_73 : decode cL_all 73 = .ok (.iaload, 1) := by decide +kernel
theorem dL_all_74 : decode cL_all 74 = .ok (.irem, 1) := by decide +kernel
theorem dL_all_75 : decode cL_all 75 = .ok (.iload 4, 2) := by decide +kernel
theorem dL_all_77 : decode cL_all 77 = .ok (.iconst 3, 1) := by decide +kernel
theorem dL_all_78 : decode cL_all 78 = .ok (.irem, 1) := by decide +kernel
theorem dL_all_79 : decode cL_all 79 = .ok (.iload 4, 2) := by decide +kernel
theorem dL_all_81 : decode cL_all 81 = .ok (.iconst 4, 1) := by decide +kernel
theorem dL_all_82 : decode cL_all 82 = .ok (.irem, 1) := by decide +kernel
theorem dL_all_83 : decode cL_all 83 = .ok (.invokevirtual 58, 3) := by decide +kernel
theorem dL_all_86 : decode cL_all 86 = .ok (.i2l, 1) := by decide +kernel
theorem dL_all_87 : decode cL_all 87 = .ok (.ladd, 1) := by decide +kernel
theorem dL_all_88 : decode cL_all 88 = .ok (.iload 4, 2) := by decide +kernel
theorem dL_all_90 : decode cL_all 90 = .ok (.bipush 8, 2) := by decide +kernel
theorem dL_all_92 : decode cL_all 92 = .ok (.irem, 1) := by decide +kernel
theorem dL_all_93 : decode cL_all 93 = .ok (.ifCond .le 7, 3) := by decide +kernel
theorem dL_all_96 : decode cL_all 96 = .ok (.lconst 0, 1) := by decide +kernel
theorem dL_all_97 : decode cL_all 97 = .ok (.goto 28, 3) := by decide +kernel
theorem dL_all_100 : decode cL_all 100 = .ok (.ldc2_w 94, 3) := by decide +kernel
theorem dL_all_103 : decode cL_all 103 = .ok (.aload_n 0, 1) := by decide +kernel
theorem dL_all_104 : decode cL_all 104 = .ok (.iload 4, 2) := by decide +kernel
theorem dL_all_106 : decode cL_all 106 = .ok (.aload_n 1, 1) := by decide +kernel
theorem dL_all_107 : decode cL_all 107 = .ok (.iconst 3, 1) := by decide +kernel
theorem dL_all_108 : decode cL_all 108 = .ok (.iaload, 1) := by decide +kernel
theorem dL_all_109 : decode cL_all 109 = .ok (.idiv, 1) := by decide +kernel
theorem dL_all_110 : decode cL_all 110 = .ok (.iload 4, 2) := by decide +kernel
theorem dL_all_112 : decode cL_all 112 = .ok (.aload_n 1, 1) := by decide +kernel
theorem dL_all_113 : decode cL_all 113 = .ok (.iconst 3, 1) := by decide +kernel
theorem dL_all_114 : decode cL_all 114 = .ok (.iaload, 1) := by decide +kernel
theorem dL_all_115 : decode cL_all 115 = .ok (.irem, 1) := by decide +kernel
theorem dL_all_116 : decode cL_all 116 = .ok (.iload 4, 2) := by decide +kernel
theorem dL_all_118 : decode cL_all 118 = .ok (.iconst 3, 1) := by decide +kernel
theorem dL_all_119 : decode cL_all 119 = .ok (.irem, 1) := by decide +kernel
theorem dL_all_120 : decode cL_all 120 = .ok (.invokevirtual 68, 3) := by decide +kernel
theorem dL_all_123 : decode cL_all 123 = .ok (.i2l, 1) := by decide +kernel
theorem dL_all_124 : decode cL_all 124 = .ok (.lmul, 1) := by decide +kernel
theorem dL_all_125 : decode cL_all 125 = .ok (.ladd, 1) := by decide +kernel
theorem dL_all_126 : decode cL_all 126 = .ok (.lstore_n 2, 1) := by decide +kernel
theorem dL_all_127 : decode cL_all 127 = .ok (.iinc 4 1, 3) := by decide +kernel
theorem dL_all_130 : decode cL_all 130 = .ok (.goto (-85), 3) := by decide +kernel
theorem dL_all_133 : decode cL_all 133 = .ok (.lload_n 2, 1) := by decide +kernel
theorem dL_all_134 : decode cL_all 134 = .ok (.lreturn, 1) := by decide +kernel
theorem dL_isRefused_0 : decode cL_isRefused 0 = .ok (.iload 4, 2) := by decide +kernel
theorem dL_isRefused_2 : decode cL_isRefused 2 = .ok (.iconst 2, 1) := by decide +kernel
theorem dL_isRefused_3 : decode cL_isRefused 3 = .ok (.irem, 1) := by decide +kernel
theorem dL_isRefused_4 : decode cL_isRefused 4 = .ok (.ifCond .ne 7, 3) := by decide +kernel
theorem dL_isRefused_7 : decode cL_isRefused 7 = .ok (.iconst 1, 1) := by decide +kernel
theorem dL_isRefused_8 : decode cL_isRefused 8 = .ok (.goto 4, 3) := by decide +kernel
theorem dL_isRefused_11 : decode cL_isRefused 11 = .ok (.iconst 0, 1) := by decide +kernel
theorem dL_isRefused_12 : decode cL_isRefused 12 = .ok (.istore 5, 2) := by decide +kernel
theorem dL_isRefused_14 : decode cL_isRefused 14 = .ok (.iload 5, 2) := by decide +kernel
theorem dL_isRefused_16 : decode cL_isRefused 16 = .ok (.ifCond .eq 13, 3) := by decide +kernel
theorem dL_isRefused_19 : decode cL_isRefused 19 = .ok (.iconst (-1), 1) := by decide +kernel
theorem dL_isRefused_20 : decode cL_isRefused 20 = .ok (.iload 4, 2) := by decide +kernel
theorem dL_isRefused_22 : decode cL_isRefused 22 = .ok (.bipush 30, 2) := by decide +kernel
theorem dL_isRefused_24 : decode cL_isRefused 24 = .ok (.irem, 1) := by decide +kernel
theorem dL_isRefused_25 : decode cL_isRefused 25 = .ok (.isub, 1) := by decide +kernel
theorem dL_isRefused_26 : decode cL_isRefused 26 = .ok (.goto 10, 3) := by decide +kernel
theorem dL_isRefused_29 : decode cL_isRefused 29 = .ok (.iconst 3, 1) := by decide +kernel
theorem dL_isRefused_30 : decode cL_isRefused 30 = .ok (.iload 4, 2) := by decide +kernel
theorem dL_isRefused_32 : decode cL_isRefused 32 = .ok (.bipush 30, 2) := by decide +kernel
theorem dL_isRefused_34 : decode cL_isRefused 34 = .ok (.irem, 1) := by decide +kernel
theorem dL_isRefused_35 : decode cL_isRefused 35 = .ok (.iadd, 1) := by decide +kernel
theorem dL_isRefused_36 : decode cL_isRefused 36 = .ok (.istore 6, 2) := by decide +kernel
theorem dL_isRefused_38 : decode cL_isRefused 38 = .ok (.iload 5, 2) := by decide +kernel
theorem dL_isRefused_40 : decode cL_isRefused 40 = .ok (.ifCond .eq 13, 3) := by decide +kernel
theorem dL_isRefused_43 : decode cL_isRefused 43 = .ok (.iconst (-1), 1) := by decide +kernel
theorem dL_isRefused_44 : decode cL_isRefused 44 = .ok (.iload 4, 2) := by decide +kernel
theorem dL_isRefused_46 : decode cL_isRefused 46 = .ok (.bipush 30, 2) := by decide +kernel
theorem dL_isRefused_48 : decode cL_isRefused 48 = .ok (.irem, 1) := by decide +kernel
theorem dL_isRefused_49 : decode cL_isRefused 49 = .ok (.isub, 1) := by decide +kernel
theorem dL_isRefused_50 : decode cL_isRefused 50 = .ok (.goto 12, 3) := by decide +kernel
theorem dL_isRefused_53 : decode cL_isRefused 53 = .ok (.aload_n 1, 1) := by decide +kernel
theorem dL_isRefused_54 : decode cL_isRefused 54 = .ok (.iconst 0, 1) := by decide +kernel
theorem dL_isRefused_55 : decode cL_isRefused 55 = .ok (.iaload, 1) := by decide +kernel
theorem dL_isRefused_56 : decode cL_isRefused 56 = .ok (.iload 4, 2) := by decide +kernel
theorem dL_isRefused_58 : decode cL_isRefused 58 = .ok (.bipush 30, 2) := by decide +kernel
theorem dL_isRefused_60 : decode cL_isRefused 60 = .ok (.irem, 1) := by decide +kernel
theorem dL_isRefused_61 : decode cL_isRefused 61 = .ok (.iadd, 1) := by decide +kernel
theorem dL_isRefused_62 : decode cL_isRefused 62 = .ok (.istore 7, 2) := by decide +kernel
theorem dL_isRefused_64 : decode cL_isRefused 64 = .ok (.iload 5, 2) := by decide +kernel
theorem dL_isRefused_66 : decode cL_isRefused 66 = .ok (.ifCond .eq 13, 3) := by decide +kernel
theorem dL_isRefused_69 : decode cL_isRefused 69 = .ok (.iconst (-1), 1) := by decide +kernel
theorem dL_isRefused_70 : decode cL_isRefused 70 = .ok (.iload 4, 2) := by decide +kernel
theorem dL_isRefused_72 : decode cL_isRefused 72 = .ok (.bipush 30, 2) := by decide +kernel
theorem dL_isRefused_74 : decode cL_isRefused 74 = .ok (.irem, 1) := by decide +kernel
theorem dL_isRefused_75 : decode cL_isRefused 75 = .ok (.isub, 1) := by decide +kernel
theorem dL_isRefused_76 : decode cL_isRefused 76 = .ok (.goto 12, 3) := by decide +kernel
theorem dL_isRefused_79 : decode cL_isRefused 79 = .ok (.aload_n 1, 1) := by decide +kernel
theorem dL_isRefused_80 : decode cL_isRefused 80 = .ok (.iconst 1, 1) := by decide +kernel
theorem dL_isRefused_81 : decode cL_isRefused 81 = .ok (.iaload, 1) := by decide +kernel
theorem dL_isRefused_82 : decode cL_isRefused 82 = .ok (.iload 4, 2) := by decide +kernel
theorem dL_isRefused_84 : decode cL_isRefused 84 = .ok (.bipush 30, 2) := by decide +kernel
theorem dL_isRefused_86 : decode cL_isRefused 86 = .ok (.irem, 1) := by decide +kernel
theorem dL_isRefused_87 : decode cL_isRefused 87 = .ok (.iadd, 1) := by decide +kernel
theorem dL_isRefused_88 : decode cL_isRefused 88 = .ok (.istore 8, 2) := by decide +kernel
theorem dL_isRefused_90 : decode cL_isRefused 90 = .ok (.iload 5, 2) := by decide +kernel
theorem dL_isRefused_92 : decode cL_isRefused 92 = .ok (.ifCond .eq 13, 3) := by decide +kernel
theorem dL_isRefused_95 : decode cL_isRefused 95 = .ok (.iconst (-1), 1) := by decide +kernel
theorem dL_isRefused_96 : decode cL_isRefused 96 = .ok (.iload 4, 2) := by decide +kernel
theorem dL_isRefused_98 : decode cL_isRefused 98 = .ok (.bipush 30, 2) := by decide +kernel
theorem dL_isRefused_100 : decode cL_isRefused 100 = .ok (.irem, 1) := by decide +kernel
theorem dL_isRefused_101 : decode cL_isRefused 101 = .ok (.isub, 1) := by decide +kernel
theorem dL_isRefused_102 : decode cL_isRefused 102 = .ok (.goto 12, 3) := by decide +kernel
theorem dL_isRefused_105 : decode cL_isRefused 105 = .ok (.aload_n 1, 1) := by decide +kernel
theorem dL_isRefused_106 : decode cL_isRefused 106 = .ok (.iconst 2, 1) := by decide +kernel
theorem dL_isRefused_107 : decode cL_isRefused 107 = .ok (.iaload, 1) := by decide +kernel
theorem dL_isRefused_108 : decode cL_isRefused 108 = .ok (.iload 4, 2) := by decide +kernel
theorem dL_isRefused_110 : decode cL_isRefused 110 = .ok (.bipush 30, 2) := by decide +kernel
theorem dL_isRefused_112 : decode cL_isRefused 112 = .ok (.irem, 1) := by decide +kernel
theorem dL_isRefused_113 : decode cL_isRefused 113 = .ok (.iadd, 1) := by decide +kernel
theorem dL_isRefused_114 : decode cL_isRefused 114 = .ok (.istore 9, 2) := by decide +kernel
theorem dL_isRefused_116 : decode cL_isRefused 116 = .ok (.iload 5, 2) := by decide +kernel
theorem dL_isRefused_118 : decode cL_isRefused 118 = .ok (.ifCond .eq 13, 3) := by decide +kernel
theorem dL_isRefused_121 : decode cL_isRefused 121 = .ok (.iconst (-1), 1) := by decide +kernel
theorem dL_isRefused_122 : decode cL_isRefused 122 = .ok (.iload 4, 2) := by decide +kernel
theorem dL_isRefused_124 : decode cL_isRefused 124 = .ok (.bipush 30, 2) := by decide +kernel
theorem dL_isRefused_126 : decode cL_isRefused 126 = .ok (.irem, 1) := by decide +kernel
theorem dL_isRefused_127 : decode cL_isRefused 127 = .ok (.isub, 1) := by decide +kernel
theorem dL_isRefused_128 : decode cL_isRefused 128 = .ok (.goto 12, 3) := by decide +kernel
theorem dL_isRefused_131 : decode cL_isRefused 131 = .ok (.aload_n 1, 1) := by decide +kernel
theorem dL_isRefused_132 : decode cL_isRefused 132 = .ok (.iconst 3, 1) := by decide +kernel
theorem dL_isRefused_133 : decode cL_isRefused 133 = .ok (.iaload, 1) := by decide +kernel
theorem dL_isRefused_134 : decode cL_isRefused 134 = .ok (.iload 4, 2) := by decide +kernel
theorem dL_isRefused_136 : decode cL_isRefused 136 = .ok (.bipush 30, 2) := by decide +kernel
theorem dL_isRefused_138 : decode cL_isRefused 138 = .ok (.irem, 1) := by decide +kernel
theorem dL_isRefused_139 : decode cL_isRefused 139 = .ok (.iadd, 1) := by decide +kernel
theorem dL_isRefused_140 : decode cL_isRefused 140 = .ok (.istore 10, 2) := by decide +kernel
theorem dL_isRefused_142 : decode cL_isRefused 142 = .ok (.aload_n 0, 1) := by decide +kernel
theorem dL_isRefused_143 : decode cL_isRefused 143 = .ok (.aload_n 1, 1) := by decide +kernel
theorem dL_isRefused_144 : decode cL_isRefused 144 = .ok (.invokestatic 96, 3) := by decide +kernel
theorem dL_isRefused_147 : decode cL_isRefused 147 = .ok (.lstore 11, 2) := by decide +kernel
theorem dL_isRefused_149 : decode cL_isRefused 149 = .ok (.aload_n 0, 1) := by decide +kernel
theorem dL_isRefused_150 : decode cL_isRefused 150 = .ok (.iconst 2, 1) := by decide +kernel
theorem dL_isRefused_151 : decode cL_isRefused 151 = .ok (.iload 6, 2) := by decide +kernel
theorem dL_isRefused_153 : decode cL_isRefused 153 = .ok (.iconst (-1), 1) := by decide +kernel
theorem dL_isRefused_154 : decode cL_isRefused 154 = .ok (.bipush 9, 2) := by decide +kernel
theorem dL_isRefused_156 : decode cL_isRefused 156 = .ok (.iconst 0, 1) := by decide +kernel
theorem dL_isRefused_157 : decode cL_isRefused 157 = .ok (.invokestatic 88, 3) := by decide +kernel
theorem dL_isRefused_160 : decode cL_isRefused 160 = .ok (.ldc 76, 2) := by decide +kernel
theorem dL_isRefused_162 : decode cL_isRefused 162 = .ok (.if_icmp .ne 418, 3) := by decide +kernel
theorem dL_isRefused_165 : decode cL_isRefused 165 = .ok (.aload_n 0, 1) := by decide +kernel
theorem dL_isRefused_166 : decode cL_isRefused 166 = .ok (.iconst 2, 1) := by decide +kernel
theorem dL_isRefused_167 : decode cL_isRefused 167 = .ok (.iconst 0, 1) := by decide +kernel
theorem dL_isRefused_168 : decode cL_isRefused 168 = .ok (.iload 5, 2) := by decide +kernel
theorem dL_isRefused_170 : decode cL_isRefused 170 = .ok (.ifCond .eq 14, 3) := by decide +kernel
theorem dL_isRefused_173 : decode cL_isRefused 173 = .ok (.bipush (-2), 2) := by decide +kernel
theorem dL_isRefused_175 : decode cL_isRefused 175 = .ok (.iload 4, 2) := by decide +kernel
theorem dL_isRefused_177 : decode cL_isRefused 177 = .ok (.bipush 30, 2) := by decide +kernel
theorem dL_isRefused_179 : decode cL_isRefused 179 = .ok (.irem, 1) := by decide +kernel
theorem dL_isRefused_180 : decode cL_isRefused 180 = .ok (.isub, 1) := by decide +kernel
theorem dL_isRefused_181 : decode cL_isRefused 181 = .ok (.goto 12, 3) := by decide +kernel
theorem dL_isRefused_184 : decode cL_isRefused 184 = .ok (.aload_n 1, 1) := by decide +kernel
theorem dL_isRefused_185 : decode cL_isRefused 185 = .ok (.iconst 0, 1) := by decide +kernel
theorem dL_isRefused_186 : decode cL_isRefused 186 = .ok (.iaload, 1) := by decide +kernel
theorem dL_isRefused_187 : decode cL_isRefused 187 = .ok (.iload 4, 2) := by decide +kernel
theorem dL_isRefused_189 : decode cL_isRefused 189 = .ok (.bipush 30, 2) := by decide +kernel
theorem dL_isRefused_191 : decode cL_isRefused 191 = .ok (.irem, 1) := by decide +kernel
theorem dL_isRefused_192 : decode cL_isRefused 192 = .ok (.iadd, 1) := by decide +kernel
theorem dL_isRefused_193 : decode cL_isRefused 193 = .ok (.bipush 9, 2) := by decide +kernel
theorem dL_isRefused_195 : decode cL_isRefused 195 = .ok (.iconst 0, 1) := by decide +kernel
theorem dL_isRefused_196 : decode cL_isRefused 196 = .ok (.invokestatic 88, 3) := by decide +kernel
theorem dL_isRefused_199 : decode cL_isRefused 199 = .ok (.ldc 76, 2) := by decide +kernel
theorem dL_isRefused_201 : decode cL_isRefused 201 = .ok (.if_icmp .ne 379, 3) := by decide +kernel
theorem dL_isRefused_204 : decode cL_isRefused 204 = .ok (.aload_n 0, 1) := by decide +kernel
theorem dL_isRefused_205 : decode cL_isRefused 205 = .ok (.iconst 2, 1) := by decide +kernel
theorem dL_isRefused_206 : decode cL_isRefused 206 = .ok (.iload 4, 2) := by decide +kernel
theorem dL_isRefused_208 : decode cL_isRefused 208 = .ok (.iconst 3, 1) := by decide +kernel
theorem dL_isRefused_209 : decode cL_isRefused 209 = .ok (.irem, 1) := by decide +kernel
theorem dL_isRefused_210 : decode cL_isRefused 210 = .ok (.iconst (-1), 1) := by decide +kernel
theorem dL_isRefused_211 : decode cL_isRefused 211 = .ok (.iload 5, 2) := by decide +kernel
theorem dL_isRefused_213 : decode cL_isRefused 213 = .ok (.ifCond .eq 13, 3) := by decide +kernel
theorem dL_isRefused_216 : decode cL_isRefused 216 = .ok (.iconst (-1), 1) := by decide +kernel
theorem dL_isRefused_217 : decode cL_isRefused 217 = .ok (.iload 4, 2) := by decide +kernel
theorem dL_isRefused_219 : decode cL_isRefused 219 = .ok (.bipush 30, 2) := by decide +kernel
theorem dL_isRefused_221 : decode cL_isRefused 221 = .ok (.irem, 1) := by decide +kernel
theorem dL_isRefused_222 : decode cL_isRefused 222 = .ok (.isub, 1) := by decide +kernel
theorem dL_isRefused_223 : decode cL_isRefused 223 = .ok (.goto 5, 3) := by decide +kernel
theorem dL_isRefused_226 : decode cL_isRefused 226 = .ok (.bipush 8, 2) := by decide +kernel
theorem dL_isRefused_228 : decode cL_isRefused 228 = .ok (.iconst 0, 1) := by decide +kernel
theorem dL_isRefused_229 : decode cL_isRefused 229 = .ok (.invokestatic 88, 3) := by decide +kernel
theorem dL_isRefused_232 : decode cL_isRefused 232 = .ok (.ldc 79, 2) := by decide +kernel
theorem dL_isRefused_234 : decode cL_isRefused 234 = .ok (.if_icmp .ne 346, 3) := by decide +kernel
theorem dL_isRefused_237 : decode cL_isRefused 237 = .ok (.aload_n 0, 1) := by decide +kernel
theorem dL_isRefused_238 : decode cL_isRefused 238 = .ok (.iconst 3, 1) := by decide +kernel
theorem dL_isRefused_239 : decode cL_isRefused 239 = .ok (.iload 5, 2) := by decide +kernel
theorem dL_isRefused_241 : decode cL_isRefused 241 = .ok (.ifCond .eq 14, 3) := by decide +kernel
theorem dL_isRefused_244 : decode cL_isRefused 244 = .ok (.bipush (-2), 2) := by decide +kernel
theorem dL_isRefused_246 : decode cL_isRefused 246 = .ok (.iload 4, 2) := by decide +kernel
theorem dL_isRefused_248 : decode cL_isRefused 248 = .ok (.bipush 30, 2) := by decide +kernel
theorem dL_isRefused_250 : decode cL_isRefused 250 = .ok (.irem, 1) := by decide +kernel
theorem dL_isRefused_251 : decode cL_isRefused 251 = .ok (.isub, 1) := by decide +kernel
theorem dL_isRefused_252 : decode cL_isRefused 252 = .ok (.goto 5, 3) := by decide +kernel
theorem dL_isRefused_255 : decode cL_isRefused 255 = .ok (.bipush 8, 2) := by decide +kernel
theorem dL_isRefused_257 : decode cL_isRefused 257 = .ok (.iconst 0, 1) := by decide +kernel
theorem dL_isRefused_258 : decode cL_isRefused 258 = .ok (.iconst 0, 1) := by decide +kernel
theorem dL_isRefused_259 : decode cL_isRefused 259 = .ok (.iconst 0, 1) := by decide +kernel
theorem dL_isRefused_260 : decode cL_isRefused 260 = .ok (.invokestatic 88, 3) := by decide +kernel
theorem dL_isRefused_263 : decode cL_isRefused 263 = .ok (.ldc 79, 2) := by decide +kernel
theorem dL_isRefused_265 : decode cL_isRefused 265 = .ok (.if_icmp .ne 315, 3) := by decide +kernel
theorem dL_isRefused_268 : decode cL_isRefused 268 = .ok (.aload_n 0, 1) := by decide +kernel
theorem dL_isRefused_269 : decode cL_isRefused 269 = .ok (.iconst 4, 1) := by decide +kernel
theorem dL_isRefused_270 : decode cL_isRefused 270 = .ok (.iload 8, 2) := by decide +kernel
theorem dL_isRefused_272 : decode cL_isRefused 272 = .ok (.iconst 0, 1) := by decide +kernel
theorem dL_isRefused_273 : decode cL_isRefused 273 = .ok (.iconst 0, 1) := by decide +kernel
theorem dL_isRefused_274 : decode cL_isRefused 274 = .ok (.iconst 0, 1) := by decide +kernel
theorem dL_isRefused_275 : decode cL_isRefused 275 = .ok (.invokestatic 88, 3) := by decide +kernel
theorem dL_isRefused_278 : decode cL_isRefused 278 = .ok (.ldc 76, 2) := by decide +kernel
theorem dL_isRefused_280 : decode cL_isRefused 280 = .ok (.if_icmp .ne 300, 3) := by decide +kernel
theorem dL_isRefused_283 : decode cL_isRefused 283 = .ok (.aload_n 0, 1) := by decide +kernel
theorem dL_isRefused_284 : decode cL_isRefused 284 = .ok (.iconst 5, 1) := by decide +kernel
theorem dL_isRefused_285 : decode cL_isRefused 285 = .ok (.iload 8, 2) := by decide +kernel
theorem dL_isRefused_287 : decode cL_isRefused 287 = .ok (.iconst 0, 1) := by decide +kernel
theorem dL_isRefused_288 : decode cL_isRefused 288 = .ok (.iconst 0, 1) := by decide +kernel
theorem dL_isRefused_289 : decode cL_isRefused 289 = .ok (.iconst 0, 1) := by decide +kernel
theorem dL_isRefused_290 : decode cL_isRefused 290 = .ok (.invokestatic 88, 3) := by decide +kernel
theorem dL_isRefused_293 : decode cL_isRefused 293 = .ok (.ldc 76, 2) := by decide +kernel
theorem dL_isRefused_295 : decode cL_isRefused 295 = .ok (.if_icmp .ne 285, 3) := by decide +kernel
theorem dL_isRefused_298 : decode cL_isRefused 298 = .ok (.aload_n 0, 1) := by decide +kernel
theorem dL_isRefused_299 : decode cL_isRefused 299 = .ok (.bipush 6, 2) := by decide +kernel
theorem dL_isRefused_301 : decode cL_isRefused 301 = .ok (.iload 8, 2) := by decide +kernel
theorem dL_isRefused_303 : decode cL_isRefused 303 = .ok (.iload 8, 2) := by decide +kernel
theorem dL_isRefused_305 : decode cL_isRefused 305 = .ok (.bipush 9, 2) := by decide +kernel
theorem dL_isRefused_307 : decode cL_isRefused 307 = .ok (.bipush 9, 2) := by decide +kernel
theorem dL_isRefused_309 : decode cL_isRefused 309 = .ok (.invokestatic 88, 3) := by decide +kernel
theorem dL_isRefused_312 : decode cL_isRefused 312 = .ok (.ldc 76, 2) := by decide +kernel
theorem dL_isRefused_314 : decode cL_isRefused 314 = .ok (.if_icmp .ne 266, 3) := by decide +kernel
theorem dL_isRefused_317 : decode cL_isRefused 317 = .ok (.aload_n 0, 1) := by decide +kernel
theorem dL_isRefused_318 : decode cL_isRefused 318 = .ok (.bipush 7, 2) := by decide +kernel
theorem dL_isRefused_320 : decode cL_isRefused 320 = .ok (.iload 8, 2) := by decide +kernel
theorem dL_isRefused_322 : decode cL_isRefused 322 = .ok (.iconst 0, 1) := by decide +kernel
theorem dL_isRefused_323 : decode cL_isRefused 323 = .ok (.iconst 0, 1) := by decide +kernel
theorem dL_isRefused_324 : decode cL_isRefused 324 = .ok (.iconst 0, 1) := by decide +kernel
theorem dL_isRefused_325 : decode cL_isRefused 325 = .ok (.invokestatic 88, 3) := by decide +kernel
theorem dL_isRefused_328 : decode cL_isRefused 328 = .ok (.ldc 76, 2) := by decide +kernel
theorem dL_isRefused_330 : decode cL_isRefused 330 = .ok (.if_icmp .ne 250, 3) := by decide +kernel
theorem dL_isRefused_333 : decode cL_isRefused 333 = .ok (.aload_n 0, 1) := by decide +kernel
theorem dL_isRefused_334 : decode cL_isRefused 334 = .ok (.bipush 9, 2) := by decide +kernel
theorem dL_isRefused_336 : decode cL_isRefused 336 = .ok (.iload 9, 2) := by decide +kernel
theorem dL_isRefused_338 : decode cL_isRefused 338 = .ok (.iconst 0, 1) := by decide +kernel
theorem dL_isRefused_339 : decode cL_isRefused 339 = .ok (.iconst 0, 1) := by decide +kernel
theorem dL_isRefused_340 : decode cL_isRefused 340 = .ok (.iconst 0, 1) := by decide +kernel
theorem dL_isRefused_341 : decode cL_isRefused 341 = .ok (.invokestatic 88, 3) := by decide +kernel
theorem dL_isRefused_344 : decode cL_isRefused 344 = .ok (.ldc 76, 2) := by decide +kernel
theorem dL_isRefused_346 : decode cL_isRefused 346 = .ok (.if_icmp .ne 234, 3) := by decide +kernel
theorem dL_isRefused_349 : decode cL_isRefused 349 = .ok (.aload_n 0, 1) := by decide +kernel
theorem dL_isRefused_350 : decode cL_isRefused 350 = .ok (.bipush 10, 2) := by decide +kernel
theorem dL_isRefused_352 : decode cL_isRefused 352 = .ok (.iload 7, 2) := by decide +kernel
theorem dL_isRefused_354 : decode cL_isRefused 354 = .ok (.sipush 999, 3) := by decide +kernel
theorem dL_isRefused_357 : decode cL_isRefused 357 = .ok (.iconst 0, 1) := by decide +kernel
theorem dL_isRefused_358 : decode cL_isRefused 358 = .ok (.iconst 0, 1) := by decide +kernel
theorem dL_isRefused_359 : decode cL_isRefused 359 = .ok (.invokestatic 88, 3) := by decide +kernel
theorem dL_isRefused_362 : decode cL_isRefused 362 = .ok (.ldc 76, 2) := by decide +kernel
theorem dL_isRefused_364 : decode cL_isRefused 364 = .ok (.if_icmp .ne 216, 3) := by decide +kernel
theorem dL_isRefused_367 : decode cL_isRefused 367 = .ok (.aload_n 0, 1) := by decide +kernel
theorem dL_isRefused_368 : decode cL_isRefused 368 = .ok (.bipush 11, 2) := by decide +kernel
theorem dL_isRefused_370 : decode cL_isRefused 370 = .ok (.iload 10, 2) := by decide +kernel
theorem dL_isRefused_372 : decode cL_isRefused 372 = .ok (.iconst 0, 1) := by decide +kernel
theorem dL_isRefused_373 : decode cL_isRefused 373 = .ok (.iconst 0, 1) := by decide +kernel
theorem dL_isRefused_374 : decode cL_isRefused 374 = .ok (.iconst 0, 1) := by decide +kernel
theorem dL_isRefused_375 : decode cL_isRefused 375 = .ok (.invokestatic 88, 3) := by decide +kernel
theorem dL_isRefused_378 : decode cL_isRefused 378 = .ok (.ldc 76, 2) := by decide +kernel
theorem dL_isRefused_380 : decode cL_isRefused 380 = .ok (.if_icmp .ne 200, 3) := by decide +kernel
theorem dL_isRefused_383 : decode cL_isRefused 383 = .ok (.aload_n 0, 1) := by decide +kernel
theorem dL_isRefused_384 : decode cL_isRefused 384 = .ok (.bipush 12, 2) := by decide +kernel
theorem dL_isRefused_386 : decode cL_isRefused 386 = .ok (.iload 6, 2) := by decide +kernel
theorem dL_isRefused_388 : decode cL_isRefused 388 = .ok (.sipush 9999, 3) := by decide +kernel
theorem dL_isRefused_391 : decode cL_isRefused 391 = .ok (.iconst 0, 1) := by decide +kernel
theorem dL_isRefused_392 : decode cL_isRefused 392 = .ok (.iconst 0, 1) := by decide +kernel
theorem dL_isRefused_393 : decode cL_isRefused 393 = .ok (.invokestatic 88, 3) := by decide +kernel
theorem dL_isRefused_396 : decode cL_isRefused 396 = .ok (.ldc 76, 2) := by decide +kernel
theorem dL_isRefused_398 : decode cL_isRefused 398 = .ok (.if_icmp .ne 182, 3) := by decide +kernel
theorem dL_isRefused_401 : decode cL_isRefused 401 = .ok (.aload_n 0, 1) := by decide +kernel
theorem dL_isRefused_402 : decode cL_isRefused 402 = .ok (.bipush 12, 2) := by decide +kernel
theorem dL_isRefused_404 : decode cL_isRefused 404 = .ok (.iload 4, 2) := by decide +kernel
theorem dL_isRefused_406 : decode cL_isRefused 406 = .ok (.iconst 3, 1) := by decide +kernel
theorem dL_isRefused_407 : decode cL_isRefused 407 = .ok (.irem, 1) := by decide +kernel
theorem dL_isRefused_408 : decode cL_isRefused 408 = .ok (.iload 5, 2) := by decide +kernel
theorem dL_isRefused_410 : decode cL_isRefused 410 = .ok (.ifCond .eq 13, 3) := by decide +kernel
theorem dL_isRefused_413 : decode cL_isRefused 413 = .ok (.iconst (-1), 1) := by decide +kernel
theorem dL_isRefused_414 : decode cL_isRefused 414 = .ok (.iload 4, 2) := by decide +kernel
theorem dL_isRefused_416 : decode cL_isRefused 416 = .ok (.bipush 30, 2) := by decide +kernel
theorem dL_isRefused_418 : decode cL_isRefused 418 = .ok (.irem, 1) := by decide +kernel
theorem dL_isRefused_419 : decode cL_isRefused 419 = .ok (.isub, 1) := by decide +kernel
theorem dL_isRefused_420 : decode cL_isRefused 420 = .ok (.goto 6, 3) := by decide +kernel
theorem dL_isRefused_423 : decode cL_isRefused 423 = .ok (.sipush 1001, 3) := by decide +kernel
theorem dL_isRefused_426 : decode cL_isRefused 426 = .ok (.iconst 0, 1) := by decide +kernel
theorem dL_isRefused_427 : decode cL_isRefused 427 = .ok (.iconst 0, 1) := by decide +kernel
theorem dL_isRefused_428 : decode cL_isRefused 428 = .ok (.invokestatic 88, 3) := by decide +kernel
theorem dL_isRefused_431 : decode cL_isRefused 431 = .ok (.ldc 79, 2) := by decide +kernel
theorem dL_isRefused_433 : decode cL_isRefused 433 = .ok (.if_icmp .ne 147, 3) := by decide +kernel
theorem dL_isRefused_436 : decode cL_isRefused 436 = .ok (.aload_n 0, 1) := by decide +kernel
theorem dL_isRefused_437 : decode cL_isRefused 437 = .ok (.bipush 13, 2) := by decide +kernel
theorem dL_isRefused_439 : decode cL_isRefused 439 = .ok (.iload 9, 2) := by decide +kernel
theorem dL_isRefused_441 : decode cL_isRefused 441 = .ok (.iconst 0, 1) := by decide +kernel
theorem dL_isRefused_442 : decode cL_isRefused 442 = .ok (.iconst 0, 1) := by decide +kernel
theorem dL_isRefused_443 : decode cL_isRefused 443 = .ok (.bipush 9, 2) := by decide +kernel
theorem dL_isRefused_445 : decode cL_isRefused 445 = .ok (.invokestatic 88, 3) := by decide +kernel
theorem dL_isRefused_448 : decode cL_isRefused 448 = .ok (.ldc 76, 2) := by decide +kernel
theorem dL_isRefused_450 : decode cL_isRefused 450 = .ok (.if_icmp .ne 130, 3) := by decide +kernel
theorem dL_isRefused_453 : decode cL_isRefused 453 = .ok (.aload_n 0, 1) := by decide +kernel
theorem dL_isRefused_454 : decode cL_isRefused 454 = .ok (.bipush 14, 2) := by decide +kernel
theorem dL_isRefused_456 : decode cL_isRefused 456 = .ok (.iload 9, 2) := by decide +kernel
theorem dL_isRefused_458 : decode cL_isRefused 458 = .ok (.iconst 0, 1) := by decide +kernel
theorem dL_isRefused_459 : decode cL_isRefused 459 = .ok (.iconst 0, 1) := by decide +kernel
theorem dL_isRefused_460 : decode cL_isRefused 460 = .ok (.iconst 0, 1) := by decide +kernel
theorem dL_isRefused_461 : decode cL_isRefused 461 = .ok (.invokestatic 88, 3) := by decide +kernel
theorem dL_isRefused_464 : decode cL_isRefused 464 = .ok (.ldc 76, 2) := by decide +kernel
theorem dL_isRefused_466 : decode cL_isRefused 466 = .ok (.if_icmp .ne 114, 3) := by decide +kernel
theorem dL_isRefused_469 : decode cL_isRefused 469 = .ok (.aload_n 0, 1) := by decide +kernel
theorem dL_isRefused_470 : decode cL_isRefused 470 = .ok (.bipush 15, 2) := by decide +kernel
theorem dL_isRefused_472 : decode cL_isRefused 472 = .ok (.iload 9, 2) := by decide +kernel
theorem dL_isRefused_474 : decode cL_isRefused 474 = .ok (.iconst 0, 1) := by decide +kernel
theorem dL_isRefused_475 : decode cL_isRefused 475 = .ok (.iconst 0, 1) := by decide +kernel
theorem dL_isRefused_476 : decode cL_isRefused 476 = .ok (.iconst 0, 1) := by decide +kernel
theorem dL_isRefused_477 : decode cL_isRefused 477 = .ok (.invokestatic 88, 3) := by decide +kernel
theorem dL_isRefused_480 : decode cL_isRefused 480 = .ok (.ldc 76, 2) := by decide +kernel
theorem dL_isRefused_482 : decode cL_isRefused 482 = .ok (.if_icmp .ne 98, 3) := by decide +kernel
theorem dL_isRefused_485 : decode cL_isRefused 485 = .ok (.aload_n 0, 1) := by decide +kernel
theorem dL_isRefused_486 : decode cL_isRefused 486 = .ok (.bipush 16, 2) := by decide +kernel
theorem dL_isRefused_488 : decode cL_isRefused 488 = .ok (.iload 9, 2) := by decide +kernel
theorem dL_isRefused_490 : decode cL_isRefused 490 = .ok (.iconst 0, 1) := by decide +kernel
theorem dL_isRefused_491 : decode cL_isRefused 491 = .ok (.iconst 0, 1) := by decide +kernel
theorem dL_isRefused_492 : decode cL_isRefused 492 = .ok (.iconst 0, 1) := by decide +kernel
theorem dL_isRefused_493 : decode cL_isRefused 493 = .ok (.invokestatic 88, 3) := by decide +kernel
theorem dL_isRefused_496 : decode cL_isRefused 496 = .ok (.ldc 76, 2) := by decide +kernel
theorem dL_isRefused_498 : decode cL_isRefused 498 = .ok (.if_icmp .ne 82, 3) := by decide +kernel
theorem dL_isRefused_501 : decode cL_isRefused 501 = .ok (.aload_n 0, 1) := by decide +kernel
theorem dL_isRefused_502 : decode cL_isRefused 502 = .ok (.bipush 17, 2) := by decide +kernel
theorem dL_isRefused_504 : decode cL_isRefused 504 = .ok (.iload 9, 2) := by decide +kernel
theorem dL_isRefused_506 : decode cL_isRefused 506 = .ok (.iconst 0, 1) := by decide +kernel
theorem dL_isRefused_507 : decode cL_isRefused 507 = .ok (.iconst 0, 1) := by decide +kernel
theorem dL_isRefused_508 : decode cL_isRefused 508 = .ok (.iconst 0, 1) := by decide +kernel
theorem dL_isRefused_509 : decode cL_isRefused 509 = .ok (.invokestatic 88, 3) := by decide +kernel
theorem dL_isRefused_512 : decode cL_isRefused 512 = .ok (.ldc 76, 2) := by decide +kernel
theorem dL_isRefused_514 : decode cL_isRefused 514 = .ok (.if_icmp .ne 66, 3) := by decide +kernel
theorem dL_isRefused_517 : decode cL_isRefused 517 = .ok (.aload_n 1, 1) := by decide +kernel
theorem dL_isRefused_518 : decode cL_isRefused 518 = .ok (.iconst 4, 1) := by decide +kernel
theorem dL_isRefused_519 : decode cL_isRefused 519 = .ok (.iaload, 1) := by decide +kernel
theorem dL_isRefused_520 : decode cL_isRefused 520 = .ok (.bipush 60, 2) := by decide +kernel
theorem dL_isRefused_522 : decode cL_isRefused 522 = .ok (.if_icmp .lt 18, 3) := by decide +kernel
theorem dL_isRefused_525 : decode cL_isRefused 525 = .ok (.aload_n 0, 1) := by decide +kernel
theorem dL_isRefused_526 : decode cL_isRefused 526 = .ok (.iconst 0, 1) := by decide +kernel
theorem dL_isRefused_527 : decode cL_isRefused 527 = .ok (.bipush 97, 2) := by decide +kernel
theorem dL_isRefused_529 : decode cL_isRefused 529 = .ok (.iconst 0, 1) := by decide +kernel
theorem dL_isRefused_530 : decode cL_isRefused 530 = .ok (.iconst 0, 1) := by decide +kernel
theorem dL_isRefused_531 : decode cL_isRefused 531 = .ok (.iconst 0, 1) := by decide +kernel
theorem dL_isRefused_532 : decode cL_isRefused 532 = .ok (.invokestatic 88, 3) := by decide +kernel
theorem dL_isRefused_535 : decode cL_isRefused 535 = .ok (.ldc 82, 2) := by decide +kernel
theorem dL_isRefused_537 : decode cL_isRefused 537 = .ok (.if_icmp .ne 43, 3) := by decide +kernel
theorem dL_isRefused_540 : decode cL_isRefused 540 = .ok (.aload_n 1, 1) := by decide +kernel
theorem dL_isRefused_541 : decode cL_isRefused 541 = .ok (.iconst 4, 1) := by decide +kernel
theorem dL_isRefused_542 : decode cL_isRefused 542 = .ok (.iaload, 1) := by decide +kernel
theorem dL_isRefused_543 : decode cL_isRefused 543 = .ok (.ifCond .le 19, 3) := by decide +kernel
theorem dL_isRefused_546 : decode cL_isRefused 546 = .ok (.aload_n 1, 1) := by decide +kernel
theorem dL_isRefused_547 : decode cL_isRefused 547 = .ok (.iconst 4, 1) := by decide +kernel
theorem dL_isRefused_548 : decode cL_isRefused 548 = .ok (.iaload, 1) := by decide +kernel
theorem dL_isRefused_549 : decode cL_isRefused 549 = .ok (.bipush 11, 2) := by decide +kernel
theorem dL_isRefused_551 : decode cL_isRefused 551 = .ok (.if_icmp .ge 11, 3) := by decide +kernel
theorem dL_isRefused_554 : decode cL_isRefused 554 = .ok (.aload_n 1, 1) := by decide +kernel
theorem dL_isRefused_555 : decode cL_isRefused 555 = .ok (.iconst 0, 1) := by decide +kernel
theorem dL_isRefused_556 : decode cL_isRefused 556 = .ok (.iaload, 1) := by decide +kernel
theorem dL_isRefused_557 : decode cL_isRefused 557 = .ok (.bipush 12, 2) := by decide +kernel
theorem dL_isRefused_559 : decode cL_isRefused 559 = .ok (.if_icmp .lt 17, 3) := by decide +kernel
theorem dL_isRefused_562 : decode cL_isRefused 562 = .ok (.aload_n 0, 1) := by decide +kernel
theorem dL_isRefused_563 : decode cL_isRefused 563 = .ok (.iconst 1, 1) := by decide +kernel
theorem dL_isRefused_564 : decode cL_isRefused 564 = .ok (.iconst 0, 1) := by decide +kernel
theorem dL_isRefused_565 : decode cL_isRefused 565 = .ok (.iconst 0, 1) := by decide +kernel
theorem dL_isRefused_566 : decode cL_isRefused 566 = .ok (.iconst 0, 1) := by decide +kernel
theorem dL_isRefused_567 : decode cL_isRefused 567 = .ok (.iconst 0, 1) := by decide +kernel
theorem dL_isRefused_568 : decode cL_isRefused 568 = .ok (.invokestatic 88, 3) := by decide +kernel
theorem dL_isRefused_571 : decode cL_isRefused 571 = .ok (.ldc 82, 2) := by decide +kernel
theorem dL_isRefused_573 : decode cL_isRefused 573 = .ok (.if_icmp .ne 7, 3) := by decide +kernel
theorem dL_isRefused_576 : decode cL_isRefused 576 = .ok (.iconst 1, 1) := by decide +kernel
theorem dL_isRefused_577 : decode cL_isRefused 577 = .ok (.goto 4, 3) := by decide +kernel
theorem dL_isRefused_580 : decode cL_isRefused 580 = .ok (.iconst 0, 1) := by decide +kernel
theorem dL_isRefused_581 : decode cL_isRefused 581 = .ok (.istore 13, 2) := by decide +kernel
theorem dL_isRefused_583 : decode cL_isRefused 583 = .ok (.iconst 0, 1) := by decide +kernel
theorem dL_isRefused_584 : decode cL_isRefused 584 = .ok (.istore 14, 2) := by decide +kernel
theorem dL_isRefused_586 : decode cL_isRefused 586 = .ok (.iload 14, 2) := by decide +kernel
theorem dL_isRefused_588 : decode cL_isRefused 588 = .ok (.aload_n 1, 1) := by decide +kernel
theorem dL_isRefused_589 : decode cL_isRefused 589 = .ok (.iconst 1, 1) := by decide +kernel
theorem dL_isRefused_590 : decode cL_isRefused 590 = .ok (.iaload, 1) := by decide +kernel
theorem dL_isRefused_591 : decode cL_isRefused 591 = .ok (.if_icmp .ge 222, 3) := by decide +kernel
theorem dL_isRefused_594 : decode cL_isRefused 594 = .ok (.iload 13, 2) := by decide +kernel
theorem dL_isRefused_596 : decode cL_isRefused 596 = .ok (.ifCond .eq 217, 3) := by decide +kernel
theorem dL_isRefused_599 : decode cL_isRefused 599 = .ok (.aload_n 0, 1) := by decide +kernel
theorem dL_isRefused_600 : decode cL_isRefused 600 = .ok (.iconst 4, 1) := by decide +kernel
theorem dL_isRefused_601 : decode cL_isRefused 601 = .ok (.iload 14, 2) := by decide +kernel
theorem dL_isRefused_603 : decode cL_isRefused 603 = .ok (.iload 6, 2) := by decide +kernel
theorem dL_isRefused_605 : decode cL_isRefused 605 = .ok (.iconst 0, 1) := by decide +kernel
theorem dL_isRefused_606 : decode cL_isRefused 606 = .ok (.iconst 0, 1) := by decide +kernel
theorem dL_isRefused_607 : decode cL_isRefused 607 = .ok (.invokestatic 88, 3) := by decide +kernel
theorem dL_isRefused_610 : decode cL_isRefused 610 = .ok (.ldc 76, 2) := by decide +kernel
theorem dL_isRefused_612 : decode cL_isRefused 612 = .ok (.if_icmp .ne 192, 3) := by decide +kernel
theorem dL_isRefused_615 : decode cL_isRefused 615 = .ok (.aload_n 0, 1) := by decide +kernel
theorem dL_isRefused_616 : decode cL_isRefused 616 = .ok (.iconst 5, 1) := by decide +kernel
theorem dL_isRefused_617 : decode cL_isRefused 617 = .ok (.iload 14, 2) := by decide +kernel
theorem dL_isRefused_619 : decode cL_isRefused 619 = .ok (.iload 6, 2) := by decide +kernel
theorem dL_isRefused_621 : decode cL_isRefused 621 = .ok (.iconst 0, 1) := by decide +kernel
theorem dL_isRefused_622 : decode cL_isRefused 622 = .ok (.iconst 0, 1) := by decide +kernel
theorem dL_isRefused_623 : decode cL_isRefused 623 = .ok (.invokestatic 88, 3) := by decide +kernel
theorem dL_isRefused_626 : decode cL_isRefused 626 = .ok (.ldc 76, 2) := by decide +kernel
theorem dL_isRefused_628 : decode cL_isRefused 628 = .ok (.if_icmp .ne 176, 3) := by decide +kernel
theorem dL_isRefused_631 : decode cL_isRefused 631 = .ok (.aload_n 0, 1) := by decide +kernel
theorem dL_isRefused_632 : decode cL_isRefused 632 = .ok (.bipush 6, 2) := by decide +kernel
theorem dL_isRefused_634 : decode cL_isRefused 634 = .ok (.iload 14, 2) := by decide +kernel
theorem dL_isRefused_636 : decode cL_isRefused 636 = .ok (.iload 8, 2) := by decide +kernel
theorem dL_isRefused_638 : decode cL_isRefused 638 = .ok (.bipush 9, 2) := by decide +kernel
theorem dL_isRefused_640 : decode cL_isRefused 640 = .ok (.bipush 9, 2) := by decide +kernel
theorem dL_isRefused_642 : decode cL_isRefused 642 = .ok (.invokestatic 88, 3) := by decide +kernel
theorem dL_isRefused_645 : decode cL_isRefused 645 = .ok (.ldc 76, 2) := by decide +kernel
theorem dL_isRefused_647 : decode cL_isRefused 647 = .ok (.if_icmp .ne 157, 3) := by decide +kernel
theorem dL_isRefused_650 : decode cL_isRefused 650 = .ok (.aload_n 0, 1) := by decide +kernel
theorem dL_isRefused_651 : decode cL_isRefused 651 = .ok (.bipush 6, 2) := by decide +kernel
theorem dL_isRefused_653 : decode cL_isRefused 653 = .ok (.iload 14, 2) := by decide +kernel
theorem dL_isRefused_655 : decode cL_isRefused 655 = .ok (.iload 14, 2) := by decide +kernel
theorem dL_isRefused_657 : decode cL_isRefused 657 = .ok (.iload 4, 2) := by decide +kernel
theorem dL_isRefused_659 : decode cL_isRefused 659 = .ok (.iconst 4, 1) := by decide +kernel
theorem dL_isRefused_660 : decode cL_isRefused 660 = .ok (.irem, 1) := by decide +kernel
theorem dL_isRefused_661 : decode cL_isRefused 661 = .ok (.iconst 1, 1) := by decide +kernel
theorem dL_isRefused_662 : decode cL_isRefused 662 = .ok (.invokestatic 88, 3) := by decide +kernel
theorem dL_isRefused_665 : decode cL_isRefused 665 = .ok (.ldc 79, 2) := by decide +kernel
theorem dL_isRefused_667 : decode cL_isRefused 667 = .ok (.if_icmp .ne 137, 3) := by decide +kernel
theorem dL_isRefused_670 : decode cL_isRefused 670 = .ok (.aload_n 1, 1) := by decide +kernel
theorem dL_isRefused_671 : decode cL_isRefused 671 = .ok (.iconst 1, 1) := by decide +kernel
theorem dL_isRefused_672 : decode cL_isRefused 672 = .ok (.iaload, 1) := by decide +kernel
theorem dL_isRefused_673 : decode cL_isRefused 673 = .ok (.iconst 2, 1) := by decide +kernel
theorem dL_isRefused_674 : decode cL_isRefused 674 = .ok (.if_icmp .lt 65, 3) := by decide +kernel
theorem dL_isRefused_677 : decode cL_isRefused 677 = .ok (.aload_n 0, 1) := by decide +kernel
theorem dL_isRefused_678 : decode cL_isRefused 678 = .ok (.bipush 6, 2) := by decide +kernel
theorem dL_isRefused_680 : decode cL_isRefused 680 = .ok (.iload 14, 2) := by decide +kernel
theorem dL_isRefused_682 : decode cL_isRefused 682 = .ok (.iload 14, 2) := by decide +kernel
theorem dL_isRefused_684 : decode cL_isRefused 684 = .ok (.iconst 1, 1) := by decide +kernel
theorem dL_isRefused_685 : decode cL_isRefused 685 = .ok (.iadd, 1) := by decide +kernel
theorem dL_isRefused_686 : decode cL_isRefused 686 = .ok (.aload_n 1, 1) := by decide +kernel
theorem dL_isRefused_687 : decode cL_isRefused 687 = .ok (.iconst 1, 1) := by decide +kernel
theorem dL_isRefused_688 : decode cL_isRefused 688 = .ok (.iaload, 1) := by decide +kernel
theorem dL_isRefused_689 : decode cL_isRefused 689 = .ok (.irem, 1) := by decide +kernel
theorem dL_isRefused_690 : decode cL_isRefused 690 = .ok (.iload 5, 2) := by decide +kernel
theorem dL_isRefused_692 : decode cL_isRefused 692 = .ok (.ifCond .eq 7, 3) := by decide +kernel
theorem dL_isRefused_695 : decode cL_isRefused 695 = .ok (.iconst (-1), 1) := by decide +kernel
theorem dL_isRefused_696 : decode cL_isRefused 696 = .ok (.goto 10, 3) := by decide +kernel
theorem dL_isRefused_699 : decode cL_isRefused 699 = .ok (.iconst 4, 1) := by decide +kernel
theorem dL_isRefused_700 : decode cL_isRefused 700 = .ok (.iload 4, 2) := by decide +kernel
theorem dL_isRefused_702 : decode cL_isRefused 702 = .ok (.bipush 30, 2) := by decide +kernel
theorem dL_isRefused_704 : decode cL_isRefused 704 = .ok (.irem, 1) := by decide +kernel
theorem dL_isRefused_705 : decode cL_isRefused 705 = .ok (.iadd, 1) := by decide +kernel
theorem dL_isRefused_706 : decode cL_isRefused 706 = .ok (.iconst 1, 1) := by decide +kernel
theorem dL_isRefused_707 : decode cL_isRefused 707 = .ok (.invokestatic 88, 3) := by decide +kernel
theorem dL_isRefused_710 : decode cL_isRefused 710 = .ok (.ldc 79, 2) := by decide +kernel
theorem dL_isRefused_712 : decode cL_isRefused 712 = .ok (.if_icmp .ne 92, 3) := by decide +kernel
theorem dL_isRefused_715 : decode cL_isRefused 715 = .ok (.aload_n 0, 1) := by decide +kernel
theorem dL_isRefused_716 : decode cL_isRefused 716 = .ok (.bipush 6, 2) := by decide +kernel
theorem dL_isRefused_718 : decode cL_isRefused 718 = .ok (.iload 14, 2) := by decide +kernel
theorem dL_isRefused_720 : decode cL_isRefused 720 = .ok (.iload 14, 2) := by decide +kernel
theorem dL_isRefused_722 : decode cL_isRefused 722 = .ok (.iconst 1, 1) := by decide +kernel
theorem dL_isRefused_723 : decode cL_isRefused 723 = .ok (.iadd, 1) := by decide +kernel
theorem dL_isRefused_724 : decode cL_isRefused 724 = .ok (.aload_n 1, 1) := by decide +kernel
theorem dL_isRefused_725 : decode cL_isRefused 725 = .ok (.iconst 1, 1) := by decide +kernel
theorem dL_isRefused_726 : decode cL_isRefused 726 = .ok (.iaload, 1) := by decide +kernel
theorem dL_isRefused_727 : decode cL_isRefused 727 = .ok (.irem, 1) := by decide +kernel
theorem dL_isRefused_728 : decode cL_isRefused 728 = .ok (.iconst 0, 1) := by decide +kernel
theorem dL_isRefused_729 : decode cL_isRefused 729 = .ok (.iload 6, 2) := by decide +kernel
theorem dL_isRefused_731 : decode cL_isRefused 731 = .ok (.invokestatic 88, 3) := by decide +kernel
theorem dL_isRefused_734 : decode cL_isRefused 734 = .ok (.ldc 79, 2) := by decide +kernel
theorem dL_isRefused_736 : decode cL_isRefused 736 = .ok (.if_icmp .ne 68, 3) := by decide +kernel
theorem dL_isRefused_739 : decode cL_isRefused 739 = .ok (.aload_n 0, 1) := by decide +kernel
theorem dL_isRefused_740 : decode cL_isRefused 740 = .ok (.invokevirtual 83, 3) := by decide +kernel
theorem dL_isRefused_743 : decode cL_isRefused 743 = .ok (.iconst (-1), 1) := by decide +kernel
theorem dL_isRefused_744 : decode cL_isRefused 744 = .ok (.if_icmp .eq 21, 3) := by decide +kernel
theorem dL_isRefused_747 : decode cL_isRefused 747 = .ok (.aload_n 0, 1) := by decide +kernel
theorem dL_isRefused_748 : decode cL_isRefused 748 = .ok (.iconst 4, 1) := by decide +kernel
theorem dL_isRefused_749 : decode cL_isRefused 749 = .ok (.iload 14, 2) := by decide +kernel
theorem dL_isRefused_751 : decode cL_isRefused 751 = .ok (.iload 4, 2) := by decide +kernel
theorem dL_isRefused_753 : decode cL_isRefused 753 = .ok (.iconst 3, 1) := by decide +kernel
theorem dL_isRefused_754 : decode cL_isRefused 754 = .ok (.irem, 1) := by decide +kernel
theorem dL_isRefused_755 : decode cL_isRefused 755 = .ok (.iconst 0, 1) := by decide +kernel
theorem dL_isRefused_756 : decode cL_isRefused 756 = .ok (.iconst 0, 1) := by decide +kernel
theorem dL_isRefused_757 : decode cL_isRefused 757 = .ok (.invokestatic 88, 3) := by decide +kernel
theorem dL_isRefused_760 : decode cL_isRefused 760 = .ok (.ldc 82, 2) := by decide +kernel
theorem dL_isRefused_762 : decode cL_isRefused 762 = .ok (.if_icmp .ne 42, 3) := by decide +kernel
theorem dL_isRefused_765 : decode cL_isRefused 765 = .ok (.aload_n 2, 1) := by decide +kernel
theorem dL_isRefused_766 : decode cL_isRefused 766 = .ok (.bipush 7, 2) := by decide +kernel
theorem dL_isRefused_768 : decode cL_isRefused 768 = .ok (.iload 14, 2) := by decide +kernel
theorem dL_isRefused_770 : decode cL_isRefused 770 = .ok (.imul, 1) := by decide +kernel
theorem dL_isRefused_771 : decode cL_isRefused 771 = .ok (.iconst 1, 1) := by decide +kernel
theorem dL_isRefused_772 : decode cL_isRefused 772 = .ok (.iadd, 1) := by decide +kernel
theorem dL_isRefused_773 : decode cL_isRefused 773 = .ok (.iload 4, 2) := by decide +kernel
theorem dL_isRefused_775 : decode cL_isRefused 775 = .ok (.iconst 3, 1) := by decide +kernel
theorem dL_isRefused_776 : decode cL_isRefused 776 = .ok (.irem, 1) := by decide +kernel
theorem dL_isRefused_777 : decode cL_isRefused 777 = .ok (.iadd, 1) := by decide +kernel
theorem dL_isRefused_778 : decode cL_isRefused 778 = .ok (.iaload, 1) := by decide +kernel
theorem dL_isRefused_779 : decode cL_isRefused 779 = .ok (.ifCond .gt 21, 3) := by decide +kernel
theorem dL_isRefused_782 : decode cL_isRefused 782 = .ok (.aload_n 0, 1) := by decide +kernel
theorem dL_isRefused_783 : decode cL_isRefused 783 = .ok (.iconst 5, 1) := by decide +kernel
theorem dL_isRefused_784 : decode cL_isRefused 784 = .ok (.iload 14, 2) := by decide +kernel
theorem dL_isRefused_786 : decode cL_isRefused 786 = .ok (.iload 4, 2) := by decide +kernel
theorem dL_isRefused_788 : decode cL_isRefused 788 = .ok (.iconst 3, 1) := by decide +kernel
theorem dL_isRefused_789 : decode cL_isRefused 789 = .ok (.irem, 1) := by decide +kernel
theorem dL_isRefused_790 : decode cL_isRefused 790 = .ok (.iconst 0, 1) := by decide +kernel
theorem dL_isRefused_791 : decode cL_isRefused 791 = .ok (.iconst 0, 1) := by decide +kernel
theorem dL_isRefused_792 : decode cL_isRefused 792 = .ok (.invokestatic 88, 3) := by decide +kernel
theorem dL_isRefused_795 : decode cL_isRefused 795 = .ok (.ldc 82, 2) := by decide +kernel
theorem dL_isRefused_797 : decode cL_isRefused 797 = .ok (.if_icmp .ne 7, 3) := by decide +kernel
theorem dL_isRefused_800 : decode cL_isRefused 800 = .ok (.iconst 1, 1) := by decide +kernel
theorem dL_isRefused_801 : decode cL_isRefused 801 = .ok (.goto 4, 3) := by decide +kernel
theorem dL_isRefused_804 : decode cL_isRefused 804 = .ok (.iconst 0, 1) := by decide +kernel
theorem dL_isRefused_805 : decode cL_isRefused 805 = .ok (.istore 13, 2) := by decide +kernel
theorem dL_isRefused_807 : decode cL_isRefused 807 = .ok (.iinc 14 1, 3) := by decide +kernel
theorem dL_isRefused_810 : decode cL_isRefused 810 = .ok (.goto (-224), 3) := by decide +kernel
theorem dL_isRefused_813 : decode cL_isRefused 813 = .ok (.iconst 0, 1) := by decide +kernel
theorem dL_isRefused_814 : decode cL_isRefused 814 = .ok (.istore 14, 2) := by decide +kernel
theorem dL_isRefused_816 : decode cL_isRefused 816 = .ok (.iload 14, 2) := by decide +kernel
theorem dL_isRefused_818 : decode cL_isRefused 818 = .ok (.aload_n 1, 1) := by decide +kernel
theorem dL_isRefused_819 : decode cL_isRefused 819 = .ok (.iconst 2, 1) := by decide +kernel
theorem dL_isRefused_820 : decode cL_isRefused 820 = .ok (.iaload, 1) := by decide +kernel
theorem dL_isRefused_821 : decode cL_isRefused 821 = .ok (.if_icmp .ge 239, 3) := by decide +kernel
theorem dL_isRefused_824 : decode cL_isRefused 824 = .ok (.iload 13, 2) := by decide +kernel
theorem dL_isRefused_826 : decode cL_isRefused 826 = .ok (.ifCond .eq 234, 3) := by decide +kernel
theorem dL_isRefused_829 : decode cL_isRefused 829 = .ok (.aload_n 0, 1) := by decide +kernel
theorem dL_isRefused_830 : decode cL_isRefused 830 = .ok (.bipush 9, 2) := by decide +kernel
theorem dL_isRefused_832 : decode cL_isRefused 832 = .ok (.iload 14, 2) := by decide +kernel
theorem dL_isRefused_834 : decode cL_isRefused 834 = .ok (.iload 8, 2) := by decide +kernel
theorem dL_isRefused_836 : decode cL_isRefused 836 = .ok (.iconst 0, 1) := by decide +kernel
theorem dL_isRefused_837 : decode cL_isRefused 837 = .ok (.iconst 0, 1) := by decide +kernel
theorem dL_isRefused_838 : decode cL_isRefused 838 = .ok (.invokestatic 88, 3) := by decide +kernel
theorem dL_isRefused_841 : decode cL_isRefused 841 = .ok (.ldc 76, 2) := by decide +kernel
theorem dL_isRefused_843 : decode cL_isRefused 843 = .ok (.if_icmp .ne 208, 3) := by decide +kernel
theorem dL_isRefused_846 : decode cL_isRefused 846 = .ok (.aload_n 0, 1) := by decide +kernel
theorem dL_isRefused_847 : decode cL_isRefused 847 = .ok (.bipush 17, 2) := by decide +kernel
theorem dL_isRefused_849 : decode cL_isRefused 849 = .ok (.iload 14, 2) := by decide +kernel
theorem dL_isRefused_851 : decode cL_isRefused 851 = .ok (.iconst (-1), 1) := by decide +kernel
theorem dL_isRefused_852 : decode cL_isRefused 852 = .ok (.iload 4, 2) := by decide +kernel
theorem dL_isRefused_854 : decode cL_isRefused 854 = .ok (.bipush 30, 2) := by decide +kernel
theorem dL_isRefused_856 : decode cL_isRefused 856 = .ok (.irem, 1) := by decide +kernel
theorem dL_isRefused_857 : decode cL_isRefused 857 = .ok (.isub, 1) := by decide +kernel
theorem dL_isRefused_858 : decode cL_isRefused 858 = .ok (.iconst 0, 1) := by decide +kernel
theorem dL_isRefused_859 : decode cL_isRefused 859 = .ok (.iconst 0, 1) := by decide +kernel
theorem dL_isRefused_860 : decode cL_isRefused 860 = .ok (.invokestatic 88, 3) := by decide +kernel
theorem dL_isRefused_863 : decode cL_isRefused 863 = .ok (.ldc 76, 2) := by decide +kernel
theorem dL_isRefused_865 : decode cL_isRefused 865 = .ok (.if_icmp .ne 186, 3) := by decide +kernel
theorem dL_isRefused_868 : decode cL_isRefused 868 = .ok (.aload_n 0, 1) := by decide +kernel
theorem dL_isRefused_869 : decode cL_isRefused 869 = .ok (.bipush 13, 2) := by decide +kernel
theorem dL_isRefused_871 : decode cL_isRefused 871 = .ok (.iload 14, 2) := by decide +kernel
theorem dL_isRefused_873 : decode cL_isRefused 873 = .ok (.iload 10, 2) := by decide +kernel
theorem dL_isRefused_875 : decode cL_isRefused 875 = .ok (.iconst 0, 1) := by decide +kernel
theorem dL_isRefused_876 : decode cL_isRefused 876 = .ok (.bipush 9, 2) := by decide +kernel
theorem dL_isRefused_878 : decode cL_isRefused 878 = .ok (.invokestatic 88, 3) := by decide +kernel
theorem dL_isRefused_881 : decode cL_isRefused 881 = .ok (.ldc 76, 2) := by decide +kernel
theorem dL_isRefused_883 : decode cL_isRefused 883 = .ok (.if_icmp .ne 168, 3) := by decide +kernel
theorem dL_isRefused_886 : decode cL_isRefused 886 = .ok (.aload_n 1, 1) := by decide +kernel
theorem dL_isRefused_887 : decode cL_isRefused 887 = .ok (.iconst 3, 1) := by decide +kernel
theorem dL_isRefused_888 : decode cL_isRefused 888 = .ok (.iaload, 1) := by decide +kernel
theorem dL_isRefused_889 : decode cL_isRefused 889 = .ok (.ifCond .eq 91, 3) := by decide +kernel
theorem dL_isRefused_892 : decode cL_isRefused 892 = .ok (.aload_n 0, 1) := by decide +kernel
theorem dL_isRefused_893 : decode cL_isRefused 893 = .ok (.bipush 13, 2) := by decide +kernel
theorem dL_isRefused_895 : decode cL_isRefused 895 = .ok (.iload 14, 2) := by decide +kernel
theorem dL_isRefused_897 : decode cL_isRefused 897 = .ok (.iconst 0, 1) := by decide +kernel
theorem dL_isRefused_898 : decode cL_isRefused 898 = .ok (.iload 6, 2) := by decide +kernel
theorem dL_isRefused_900 : decode cL_isRefused 900 = .ok (.bipush 9, 2) := by decide +kernel
theorem dL_isRefused_902 : decode cL_isRefused 902 = .ok (.invokestatic 88, 3) := by decide +kernel
theorem dL_isRefused_905 : decode cL_isRefused 905 = .ok (.ldc 76, 2) := by decide +kernel
theorem dL_isRefused_907 : decode cL_isRefused 907 = .ok (.if_icmp .ne 144, 3) := by decide +kernel
theorem dL_isRefused_910 : decode cL_isRefused 910 = .ok (.aload_n 0, 1) := by decide +kernel
theorem dL_isRefused_911 : decode cL_isRefused 911 = .ok (.bipush 13, 2) := by decide +kernel
theorem dL_isRefused_913 : decode cL_isRefused 913 = .ok (.iload 14, 2) := by decide +kernel
theorem dL_isRefused_915 : decode cL_isRefused 915 = .ok (.iconst 0, 1) := by decide +kernel
theorem dL_isRefused_916 : decode cL_isRefused 916 = .ok (.iconst 0, 1) := by decide +kernel
theorem dL_isRefused_917 : decode cL_isRefused 917 = .ok (.iload 5, 2) := by decide +kernel
theorem dL_isRefused_919 : decode cL_isRefused 919 = .ok (.ifCond .eq 7, 3) := by decide +kernel
theorem dL_isRefused_922 : decode cL_isRefused 922 = .ok (.iconst (-1), 1) := by decide +kernel
theorem dL_isRefused_923 : decode cL_isRefused 923 = .ok (.goto 10, 3) := by decide +kernel
theorem dL_isRefused_926 : decode cL_isRefused 926 = .ok (.iconst 4, 1) := by decide +kernel
theorem dL_isRefused_927 : decode cL_isRefused 927 = .ok (.iload 4, 2) := by decide +kernel
theorem dL_isRefused_929 : decode cL_isRefused 929 = .ok (.bipush 30, 2) := by decide +kernel
theorem dL_isRefused_931 : decode cL_isRefused 931 = .ok (.irem, 1) := by decide +kernel
theorem dL_isRefused_932 : decode cL_isRefused 932 = .ok (.iadd, 1) := by decide +kernel
theorem dL_isRefused_933 : decode cL_isRefused 933 = .ok (.invokestatic 88, 3) := by decide +kernel
theorem dL_isRefused_936 : decode cL_isRefused 936 = .ok (.ldc 79, 2) := by decide +kernel
theorem dL_isRefused_938 : decode cL_isRefused 938 = .ok (.if_icmp .ne 113, 3) := by decide +kernel
theorem dL_isRefused_941 : decode cL_isRefused 941 = .ok (.aload_n 0, 1) := by decide +kernel
theorem dL_isRefused_942 : decode cL_isRefused 942 = .ok (.bipush 14, 2) := by decide +kernel
theorem dL_isRefused_944 : decode cL_isRefused 944 = .ok (.iload 14, 2) := by decide +kernel
theorem dL_isRefused_946 : decode cL_isRefused 946 = .ok (.iconst 0, 1) := by decide +kernel
theorem dL_isRefused_947 : decode cL_isRefused 947 = .ok (.iconst 0, 1) := by decide +kernel
theorem dL_isRefused_948 : decode cL_isRefused 948 = .ok (.iconst (-1), 1) := by decide +kernel
theorem dL_isRefused_949 : decode cL_isRefused 949 = .ok (.iload 4, 2) := by decide +kernel
theorem dL_isRefused_951 : decode cL_isRefused 951 = .ok (.bipush 30, 2) := by decide +kernel
theorem dL_isRefused_953 : decode cL_isRefused 953 = .ok (.irem, 1) := by decide +kernel
theorem dL_isRefused_954 : decode cL_isRefused 954 = .ok (.isub, 1) := by decide +kernel
theorem dL_isRefused_955 : decode cL_isRefused 955 = .ok (.invokestatic 88, 3) := by decide +kernel
theorem dL_isRefused_958 : decode cL_isRefused 958 = .ok (.ldc 76, 2) := by decide +kernel
theorem dL_isRefused_960 : decode cL_isRefused 960 = .ok (.if_icmp .ne 91, 3) := by decide +kernel
theorem dL_isRefused_963 : decode cL_isRefused 963 = .ok (.aload_n 0, 1) := by decide +kernel
theorem dL_isRefused_964 : decode cL_isRefused 964 = .ok (.bipush 16, 2) := by decide +kernel
theorem dL_isRefused_966 : decode cL_isRefused 966 = .ok (.iload 14, 2) := by decide +kernel
theorem dL_isRefused_968 : decode cL_isRefused 968 = .ok (.iconst 0, 1) := by decide +kernel
theorem dL_isRefused_969 : decode cL_isRefused 969 = .ok (.iload 6, 2) := by decide +kernel
theorem dL_isRefused_971 : decode cL_isRefused 971 = .ok (.iconst 0, 1) := by decide +kernel
theorem dL_isRefused_972 : decode cL_isRefused 972 = .ok (.invokestatic 88, 3) := by decide +kernel
theorem dL_isRefused_975 : decode cL_isRefused 975 = .ok (.ldc 76, 2) := by decide +kernel
theorem dL_isRefused_977 : decode cL_isRefused 977 = .ok (.if_icmp .ne 74, 3) := by decide +kernel
theorem dL_isRefused_980 : decode cL_isRefused 980 = .ok (.aload_n 3, 1) := by decide +kernel
theorem dL_isRefused_981 : decode cL_isRefused 981 = .ok (.bipush 7, 2) := by decide +kernel
theorem dL_isRefused_983 : decode cL_isRefused 983 = .ok (.iload 14, 2) := by decide +kernel
theorem dL_isRefused_985 : decode cL_isRefused 985 = .ok (.imul, 1) := by decide +kernel
theorem dL_isRefused_986 : decode cL_isRefused 986 = .ok (.iaload, 1) := by decide +kernel
theorem dL_isRefused_987 : decode cL_isRefused 987 = .ok (.ifCond .eq 27, 3) := by decide +kernel
theorem dL_isRefused_990 : decode cL_isRefused 990 = .ok (.aload_n 0, 1) := by decide +kernel
theorem dL_isRefused_991 : decode cL_isRefused 991 = .ok (.bipush 9, 2) := by decide +kernel
theorem dL_isRefused_993 : decode cL_isRefused 993 = .ok (.iload 14, 2) := by decide +kernel
theorem dL_isRefused_995 : decode cL_isRefused 995 = .ok (.aload_n 3, 1) := by decide +kernel
theorem dL_isRefused_996 : decode cL_isRefused 996 = .ok (.bipush 7, 2) := by decide +kernel
theorem dL_isRefused_998 : decode cL_isRefused 998 = .ok (.iload 14, 2) := by decide +kernel
theorem dL_isRefused_1000 : decode cL_isRefused 1000 = .ok (.imul, 1) := by decide +kernel
theorem dL_isRefused_1001 : decode cL_isRefused 1001 = .ok (.iconst 1, 1) := by decide +kernel
theorem dL_isRefused_1002 : decode cL_isRefused 1002 = .ok (.iadd, 1) := by decide +kernel
theorem dL_isRefused_1003 : decode cL_isRefused 1003 = .ok (.iaload, 1) := by decide +kernel
theorem dL_isRefused_1004 : decode cL_isRefused 1004 = .ok (.iconst 0, 1) := by decide +kernel
theorem dL_isRefused_1005 : decode cL_isRefused 1005 = .ok (.iconst 0, 1) := by decide +kernel
theorem dL_isRefused_1006 : decode cL_isRefused 1006 = .ok (.invokestatic 88, 3) := by decide +kernel
theorem dL_isRefused_1009 : decode cL_isRefused 1009 = .ok (.ldc 82, 2) := by decide +kernel
