theorem dX8_costs_2 : decode cX8_costs 2 = .ok (.invokevirtual 188, 3) := by decide +kernel
theorem dX8_costs_5 : decode cX8_costs 5 = .ok (.astore 4, 2) := by decide +kernel
theorem dX8_costs_7 : decode cX8_costs 7 = .ok (.aload_n 0, 1) := by decide +kernel
theorem dX8_costs_8 : decode cX8_costs 8 = .ok (.iload_n 2, 1) := by decide +kernel
theorem dX8_costs_9 : decode cX8_costs 9 = .ok (.invokevirtual 214, 3) := by decide +kernel
theorem dX8_costs_12 : decode cX8_costs 12 = .ok (.astore 5, 2) := by decide +kernel
theorem dX8_costs_14 : decode cX8_costs 14 = .ok (.aload 4, 2) := by decide +kernel
theorem dX8_costs_16 : decode cX8_costs 16 = .ok (.ifnull 20, 3) := by decide +kernel
theorem dX8_costs_19 : decode cX8_costs 19 = .ok (.aload 5, 2) := by decide +kernel
theorem dX8_costs_21 : decode cX8_costs 21 = .ok (.ifnull 15, 3) := by decide +kernel
theorem dX8_costs_24 : decode cX8_costs 24 = .ok (.iload_n 3, 1) := by decide +kernel
theorem dX8_costs_25 : decode cX8_costs 25 = .ok (.aload_n 0, 1) := by decide +kernel
theorem dX8_costs_26 : decode cX8_costs 26 = .ok (.getfield 43, 3) := by decide +kernel
theorem dX8_costs_29 : decode cX8_costs 29 = .ok (.arraylength, 1) := by decide +kernel
theorem dX8_costs_30 : decode cX8_costs 30 = .ok (.invokestatic 104, 3) := by decide +kernel
theorem dX8_costs_33 : decode cX8_costs 33 = .ok (.ifCond .ne 13, 3) := by decide +kernel
theorem dX8_costs_36 : decode cX8_costs 36 = .ok (.new 99, 3) := by decide +kernel
theorem dX8_costs_39 : decode cX8_costs 39 = .ok (.dup, 1) := by decide +kernel
theorem dX8_costs_40 : decode cX8_costs 40 = .ok (.ldc 231, 2) := by decide +kernel
theorem dX8_costs_42 : decode cX8_costs 42 = .ok (.invokespecial 103, 3) := by decide +kernel
theorem dX8_costs_45 : decode cX8_costs 45 = .ok (.athrow, 1) := by decide +kernel
theorem dX8_costs_46 : decode cX8_costs 46 = .ok (.aload_n 0, 1) := by decide +kernel
theorem dX8_costs_47 : decode cX8_costs 47 = .ok (.aload 4, 2) := by decide +kernel
theorem dX8_costs_49 : decode cX8_costs 49 = .ok (.aload 5, 2) := by decide +kernel
theorem dX8_costs_51 : decode cX8_costs 51 = .ok (.iload_n 3, 1) := by decide +kernel
theorem dX8_costs_52 : decode cX8_costs 52 = .ok (.invokevirtual 248, 3) := by decide +kernel
theorem dX8_costs_55 : decode cX8_costs 55 = .ok (.aload_n 0, 1) := by decide +kernel
theorem dX8_costs_56 : decode cX8_costs 56 = .ok (.getfield 50, 3) := by decide +kernel
theorem dX8_costs_59 : decode cX8_costs 59 = .ok (.invokevirtual 265, 3) := by decide +kernel
theorem dX8_costs_62 : decode cX8_costs 62 = .ok (.aload_n 0, 1) := by decide +kernel
theorem dX8_costs_63 : decode cX8_costs 63 = .ok (.getfield 43, 3) := by decide +kernel
theorem dX8_costs_66 : decode cX8_costs 66 = .ok (.iload_n 3, 1) := by decide +kernel
theorem dX8_costs_67 : decode cX8_costs 67 = .ok (.iaload, 1) := by decide +kernel
theorem dX8_costs_68 : decode cX8_costs 68 = .ok (.imul, 1) := by decide +kernel
theorem dX8_costs_69 : decode cX8_costs 69 = .ok (.ireturn, 1) := by decide +kernel
theorem dX8_sample_0 : decode cX8_sample 0 = .ok (.aload_n 0, 1) := by decide +kernel
theorem dX8_sample_1 : decode cX8_sample 1 = .ok (.iload_n 1, 1) := by decide +kernel
theorem dX8_sample_2 : decode cX8_sample 2 = .ok (.invokevirtual 188, 3) := by decide +kernel
theorem dX8_sample_5 : decode cX8_sample 5 = .ok (.astore_n 3, 1) := by decide +kernel
theorem dX8_sample_6 : decode cX8_sample 6 = .ok (.aload_n 3, 1) := by decide +kernel
theorem dX8_sample_7 : decode cX8_sample 7 = .ok (.ifnull 7, 3) := by decide +kernel
theorem dX8_sample_10 : decode cX8_sample 10 = .ok (.iload_n 2, 1) := by decide +kernel
theorem dX8_sample_11 : decode cX8_sample 11 = .ok (.ifCond .ge 14, 3) := by decide +kernel
theorem dX8_sample_14 : decode cX8_sample 14 = .ok (.new 99, 3) := by decide +kernel
theorem dX8_sample_17 : decode cX8_sample 17 = .ok (.dup, 1) := by decide +kernel
theorem dX8_sample_18 : decode cX8_sample 18 = .ok (.ldc_w 268, 3) := by decide +kernel
theorem dX8_sample_21 : decode cX8_sample 21 = .ok (.invokespecial 103, 3) := by decide +kernel
theorem dX8_sample_24 : decode cX8_sample 24 = .ok (.athrow, 1) := by decide +kernel
theorem dX8_sample_25 : decode cX8_sample 25 = .ok (.iconst 0, 1) := by decide +kernel
theorem dX8_sample_26 : decode cX8_sample 26 = .ok (.istore 4, 2) := by decide +kernel
theorem dX8_sample_28 : decode cX8_sample 28 = .ok (.iconst 0, 1) := by decide +kernel
theorem dX8_sample_29 : decode cX8_sample 29 = .ok (.istore 5, 2) := by decide +kernel
theorem dX8_sample_31 : decode cX8_sample 31 = .ok (.iload 5, 2) := by decide +kernel
theorem dX8_sample_33 : decode cX8_sample 33 = .ok (.aload_n 0, 1) := by decide +kernel
theorem dX8_sample_34 : decode cX8_sample 34 = .ok (.getfield 206, 3) := by decide +kernel
theorem dX8_sample_37 : decode cX8_sample 37 = .ok (.if_icmp .ge 49, 3) := by decide +kernel
theorem dX8_sample_40 : decode cX8_sample 40 = .ok (.aload_n 0, 1) := by decide +kernel
theorem dX8_sample_41 : decode cX8_sample 41 = .ok (.aload_n 3, 1) := by decide +kernel
theorem dX8_sample_42 : decode cX8_sample 42 = .ok (.iload 4, 2) := by decide +kernel
theorem dX8_sample_44 : decode cX8_sample 44 = .ok (.invokevirtual 270, 3) := by decide +kernel
theorem dX8_sample_47 : decode cX8_sample 47 = .ok (.istore 6, 2) := by decide +kernel
theorem dX8_sample_49 : decode cX8_sample 49 = .ok (.iload 6, 2) := by decide +kernel
theorem dX8_sample_51 : decode cX8_sample 51 = .ok (.iconst (-1), 1) := by decide +kernel
theorem dX8_sample_52 : decode cX8_sample 52 = .ok (.if_icmp .eq 9, 3) := by decide +kernel
theorem dX8_sample_55 : decode cX8_sample 55 = .ok (.iload 5, 2) := by decide +kernel
theorem dX8_sample_57 : decode cX8_sample 57 = .ok (.iload_n 2, 1) := by decide +kernel
theorem dX8_sample_58 : decode cX8_sample 58 = .ok (.if_icmp .ne 6, 3) := by decide +kernel
theorem dX8_sample_61 : decode cX8_sample 61 = .ok (.iload 6, 2) := by decide +kernel
theorem dX8_sample_63 : decode cX8_sample 63 = .ok (.ireturn, 1) := by decide +kernel
theorem dX8_sample_64 : decode cX8_sample 64 = .ok (.iload 4, 2) := by decide +kernel
theorem dX8_sample_66 : decode cX8_sample 66 = .ok (.aload_n 0, 1) := by decide +kernel
theorem dX8_sample_67 : decode cX8_sample 67 = .ok (.aload_n 3, 1) := by decide +kernel
theorem dX8_sample_68 : decode cX8_sample 68 = .ok (.aload_n 0, 1) := by decide +kernel
theorem dX8_sample_69 : decode cX8_sample 69 = .ok (.iload 6, 2) := by decide +kernel
theorem dX8_sample_71 : decode cX8_sample 71 = .ok (.invokevirtual 214, 3) := by decide +kernel
theorem dX8_sample_74 : decode cX8_sample 74 = .ok (.invokevirtual 274, 3) := by decide +kernel
theorem dX8_sample_77 : decode cX8_sample 77 = .ok (.ior, 1) := by decide +kernel
theorem dX8_sample_78 : decode cX8_sample 78 = .ok (.istore 4, 2) := by decide +kernel
theorem dX8_sample_80 : decode cX8_sample 80 = .ok (.iinc 5 1, 3) := by decide +kernel
theorem dX8_sample_83 : decode cX8_sample 83 = .ok (.goto (-52), 3) := by decide +kernel
theorem dX8_sample_86 : decode cX8_sample 86 = .ok (.iconst (-1), 1) := by decide +kernel
theorem dX8_sample_87 : decode cX8_sample 87 = .ok (.ireturn, 1) := by decide +kernel
theorem dX8_isBelow_0 : decode cX8_isBelow 0 = .ok (.iload_n 0, 1) := by decide +kernel
theorem dX8_isBelow_1 : decode cX8_isBelow 1 = .ok (.ifCond .lt 12, 3) := by decide +kernel
theorem dX8_isBelow_4 : decode cX8_isBelow 4 = .ok (.iload_n 0, 1) := by decide +kernel
theorem dX8_isBelow_5 : decode cX8_isBelow 5 = .ok (.iload_n 1, 1) := by decide +kernel
theorem dX8_isBelow_6 : decode cX8_isBelow 6 = .ok (.if_icmp .ge 7, 3) := by decide +kernel
theorem dX8_isBelow_9 : decode cX8_isBelow 9 = .ok (.iconst 1, 1) := by decide +kernel
theorem dX8_isBelow_10 : decode cX8_isBelow 10 = .ok (.goto 4, 3) := by decide +kernel
theorem dX8_isBelow_13 : decode cX8_isBelow 13 = .ok (.iconst 0, 1) := by decide +kernel
theorem dX8_isBelow_14 : decode cX8_isBelow 14 = .ok (.ireturn, 1) := by decide +kernel
theorem dX8_isLanguage_0 : decode cX8_isLanguage 0 = .ok (.iload_n 0, 1) := by decide +kernel
theorem dX8_isLanguage_1 : decode cX8_isLanguage 1 = .ok (.iconst 3, 1) := by decide +kernel
theorem dX8_isLanguage_2 : decode cX8_isLanguage 2 = .ok (.invokestatic 104, 3) := by decide +kernel
theorem dX8_isLanguage_5 : decode cX8_isLanguage 5 = .ok (.ireturn, 1) := by decide +kernel
theorem dX8_isWord_0 : decode cX8_isWord 0 = .ok (.iload_n 1, 1) := by decide +kernel
theorem dX8_isWord_1 : decode cX8_isWord 1 = .ok (.aload_n 0, 1) := by decide +kernel
theorem dX8_isWord_2 : decode cX8_isWord 2 = .ok (.getfield 21, 3) := by decide +kernel
theorem dX8_isWord_5 : decode cX8_isWord 5 = .ok (.invokevirtual 83, 3) := by decide +kernel
theorem dX8_isWord_8 : decode cX8_isWord 8 = .ok (.invokestatic 104, 3) := by decide +kernel
theorem dX8_isWord_11 : decode cX8_isWord 11 = .ok (.ireturn, 1) := by decide +kernel
theorem dX8_clauseAt_0 : decode cX8_clauseAt 0 = .ok (.iload_n 1, 1) := by decide +kernel
theorem dX8_clauseAt_1 : decode cX8_clauseAt 1 = .ok (.aload_n 0, 1) := by decide +kernel
theorem dX8_clauseAt_2 : decode cX8_clauseAt 2 = .ok (.getfield 124, 3) := by decide +kernel
theorem dX8_clauseAt_5 : decode cX8_clauseAt 5 = .ok (.invokestatic 104, 3) := by decide +kernel
theorem dX8_clauseAt_8 : decode cX8_clauseAt 8 = .ok (.ifCond .eq 21, 3) := by decide +kernel
theorem dX8_clauseAt_11 : decode cX8_clauseAt 11 = .ok (.iload_n 1, 1) := by decide +kernel
theorem dX8_clauseAt_12 : decode cX8_clauseAt 12 = .ok (.aload_n 0, 1) := by decide +kernel
theorem dX8_clauseAt_13 : decode cX8_clauseAt 13 = .ok (.getfield 27, 3) := by decide +kernel
theorem dX8_clauseAt_16 : decode cX8_clauseAt 16 = .ok (.arraylength, 1) := by decide +kernel
theorem dX8_clauseAt_17 : decode cX8_clauseAt 17 = .ok (.if_icmp .ge 12, 3) := by decide +kernel
theorem dX8_clauseAt_20 : decode cX8_clauseAt 20 = .ok (.aload_n 0, 1) := by decide +kernel
theorem dX8_clauseAt_21 : decode cX8_clauseAt 21 = .ok (.getfield 27, 3) := by decide +kernel
theorem dX8_clauseAt_24 : decode cX8_clauseAt 24 = .ok (.iload_n 1, 1) := by decide +kernel
theorem dX8_clauseAt_25 : decode cX8_clauseAt 25 = .ok (.aaload, 1) := by decide +kernel
theorem dX8_clauseAt_26 : decode cX8_clauseAt 26 = .ok (.goto 4, 3) := by decide +kernel
theorem dX8_clauseAt_29 : decode cX8_clauseAt 29 = .ok (.aconst_null, 1) := by decide +kernel
theorem dX8_clauseAt_30 : decode cX8_clauseAt 30 = .ok (.areturn, 1) := by decide +kernel
theorem dX8_letterAt_0 : decode cX8_letterAt 0 = .ok (.iload_n 1, 1) := by decide +kernel
theorem dX8_letterAt_1 : decode cX8_letterAt 1 = .ok (.aload_n 0, 1) := by decide +kernel
theorem dX8_letterAt_2 : decode cX8_letterAt 2 = .ok (.getfield 182, 3) := by decide +kernel
theorem dX8_letterAt_5 : decode cX8_letterAt 5 = .ok (.invokestatic 104, 3) := by decide +kernel
theorem dX8_letterAt_8 : decode cX8_letterAt 8 = .ok (.ifCond .eq 21, 3) := by decide +kernel
theorem dX8_letterAt_11 : decode cX8_letterAt 11 = .ok (.iload_n 1, 1) := by decide +kernel
theorem dX8_letterAt_12 : decode cX8_letterAt 12 = .ok (.aload_n 0, 1) := by decide +kernel
theorem dX8_letterAt_13 : decode cX8_letterAt 13 = .ok (.getfield 33, 3) := by decide +kernel
theorem dX8_letterAt_16 : decode cX8_letterAt 16 = .ok (.arraylength, 1) := by decide +kernel
theorem dX8_letterAt_17 : decode cX8_letterAt 17 = .ok (.if_icmp .ge 12, 3) := by decide +kernel
theorem dX8_letterAt_20 : decode cX8_letterAt 20 = .ok (.aload_n 0, 1) := by decide +kernel
theorem dX8_letterAt_21 : decode cX8_letterAt 21 = .ok (.getfield 33, 3) := by decide +kernel
theorem dX8_letterAt_24 : decode cX8_letterAt 24 = .ok (.iload_n 1, 1) := by decide +kernel
theorem dX8_letterAt_25 : decode cX8_letterAt 25 = .ok (.aaload, 1) := by decide +kernel
theorem dX8_letterAt_26 : decode cX8_letterAt 26 = .ok (.goto 4, 3) := by decide +kernel
theorem dX8_letterAt_29 : decode cX8_letterAt 29 = .ok (.aconst_null, 1) := by decide +kernel
theorem dX8_letterAt_30 : decode cX8_letterAt 30 = .ok (.areturn, 1) := by decide +kernel
theorem dX8_dataAt_0 : decode cX8_dataAt 0 = .ok (.iload_n 1, 1) := by decide +kernel
theorem dX8_dataAt_1 : decode cX8_dataAt 1 = .ok (.aload_n 0, 1) := by decide +kernel
theorem dX8_dataAt_2 : decode cX8_dataAt 2 = .ok (.getfield 206, 3) := by decide +kernel
theorem dX8_dataAt_5 : decode cX8_dataAt 5 = .ok (.invokestatic 104, 3) := by decide +kernel
theorem dX8_dataAt_8 : decode cX8_dataAt 8 = .ok (.ifCond .eq 21, 3) := by decide +kernel
theorem dX8_dataAt_11 : decode cX8_dataAt 11 = .ok (.iload_n 1, 1) := by decide +kernel
theorem dX8_dataAt_12 : decode cX8_dataAt 12 = .ok (.aload_n 0, 1) := by decide +kernel
theorem dX8_dataAt_13 : decode cX8_dataAt 13 = .ok (.getfield 39, 3) := by decide +kernel
theorem dX8_dataAt_16 : decode cX8_dataAt 16 = .ok (.arraylength, 1) := by decide +kernel
theorem dX8_dataAt_17 : decode cX8_dataAt 17 = .ok (.if_icmp .ge 12, 3) := by decide +kernel
theorem dX8_dataAt_20 : decode cX8_dataAt 20 = .ok (.aload_n 0, 1) := by decide +kernel
theorem dX8_dataAt_21 : decode cX8_dataAt 21 = .ok (.getfield 39, 3) := by decide +kernel
theorem dX8_dataAt_24 : decode cX8_dataAt 24 = .ok (.iload_n 1, 1) := by decide +kernel
theorem dX8_dataAt_25 : decode cX8_dataAt 25 = .ok (.aaload, 1) := by decide +kernel
theorem dX8_dataAt_26 : decode cX8_dataAt 26 = .ok (.goto 4, 3) := by decide +kernel
theorem dX8_dataAt_29 : decode cX8_dataAt 29 = .ok (.aconst_null, 1) := by decide +kernel
theorem dX8_dataAt_30 : decode cX8_dataAt 30 = .ok (.areturn, 1) := by decide +kernel
theorem dX8_templateAt_0 : decode cX8_templateAt 0 = .ok (.aload_n 0, 1) := by decide +kernel
theorem dX8_templateAt_1 : decode cX8_templateAt 1 = .ok (.iload_n 1, 1) := by decide +kernel
theorem dX8_templateAt_2 : decode cX8_templateAt 2 = .ok (.invokevirtual 163, 3) := by decide +kernel
theorem dX8_templateAt_5 : decode cX8_templateAt 5 = .ok (.astore_n 3, 1) := by decide +kernel
theorem dX8_templateAt_6 : decode cX8_templateAt 6 = .ok (.aload_n 3, 1) := by decide +kernel
theorem dX8_templateAt_7 : decode cX8_templateAt 7 = .ok (.ifnonnull 7, 3) := by decide +kernel
theorem dX8_templateAt_10 : decode cX8_templateAt 10 = .ok (.aconst_null, 1) := by decide +kernel
theorem dX8_templateAt_11 : decode cX8_templateAt 11 = .ok (.goto 8, 3) := by decide +kernel
theorem dX8_templateAt_14 : decode cX8_templateAt 14 = .ok (.aload_n 3, 1) := by decide +kernel
theorem dX8_templateAt_15 : decode cX8_templateAt 15 = .ok (.iload_n 2, 1) := by decide +kernel
theorem dX8_templateAt_16 : decode cX8_templateAt 16 = .ok (.invokevirtual 278, 3) := by decide +kernel
theorem dX8_templateAt_19 : decode cX8_templateAt 19 = .ok (.areturn, 1) := by decide +kernel
theorem dX8_isSmall_0 : decode cX8_isSmall 0 = .ok (.iload_n 0, 1) := by decide +kernel
theorem dX8_isSmall_1 : decode cX8_isSmall 1 = .ok (.bipush 97, 2) := by decide +kernel
theorem dX8_isSmall_3 : decode cX8_isSmall 3 = .ok (.if_icmp .lt 13, 3) := by decide +kernel
theorem dX8_isSmall_6 : decode cX8_isSmall 6 = .ok (.iload_n 0, 1) := by decide +kernel
theorem dX8_isSmall_7 : decode cX8_isSmall 7 = .ok (.bipush 122, 2) := by decide +kernel
theorem dX8_isSmall_9 : decode cX8_isSmall 9 = .ok (.if_icmp .gt 7, 3) := by decide +kernel
theorem dX8_isSmall_12 : decode cX8_isSmall 12 = .ok (.iconst 1, 1) := by decide +kernel
theorem dX8_isSmall_13 : decode cX8_isSmall 13 = .ok (.goto 4, 3) := by decide +kernel
theorem dX8_isSmall_16 : decode cX8_isSmall 16 = .ok (.iconst 0, 1) := by decide +kernel
theorem dX8_isSmall_17 : decode cX8_isSmall 17 = .ok (.ireturn, 1) := by decide +kernel
theorem dX8_isVowel_0 : decode cX8_isVowel 0 = .ok (.iload_n 0, 1) := by decide +kernel
theorem dX8_isVowel_1 : decode cX8_isVowel 1 = .ok (.bipush 97, 2) := by decide +kernel
theorem dX8_isVowel_3 : decode cX8_isVowel 3 = .ok (.if_icmp .eq 27, 3) := by decide +kernel
theorem dX8_isVowel_6 : decode cX8_isVowel 6 = .ok (.iload_n 0, 1) := by decide +kernel
theorem dX8_isVowel_7 : decode cX8_isVowel 7 = .ok (.bipush 101, 2) := by decide +kernel
theorem dX8_isVowel_9 : decode cX8_isVowel 9 = .ok (.if_icmp .eq 21, 3) := by decide +kernel
theorem dX8_isVowel_12 : decode cX8_isVowel 12 = .ok (.iload_n 0, 1) := by decide +kernel
theorem dX8_isVowel_13 : decode cX8_isVowel 13 = .ok (.bipush 105, 2) := by decide +kernel
theorem dX8_isVowel_15 : decode cX8_isVowel 15 = .ok (.if_icmp .eq 15, 3) := by decide +kernel
theorem dX8_isVowel_18 : decode cX8_isVowel 18 = .ok (.iload_n 0, 1) := by decide +kernel
theorem dX8_isVowel_19 : decode cX8_isVowel 19 = .ok (.bipush 111, 2) := by decide +kernel
theorem dX8_isVowel_21 : decode cX8_isVowel 21 = .ok (.if_icmp .eq 9, 3) := by decide +kernel
theorem dX8_isVowel_24 : decode cX8_isVowel 24 = .ok (.iload_n 0, 1) := by decide +kernel
theorem dX8_isVowel_25 : decode cX8_isVowel 25 = .ok (.bipush 117, 2) := by decide +kernel
theorem dX8_isVowel_27 : decode cX8_isVowel 27 = .ok (.if_icmp .ne 7, 3) := by decide +kernel
theorem dX8_isVowel_30 : decode cX8_isVowel 30 = .ok (.iconst 1, 1) := by decide +kernel
theorem dX8_isVowel_31 : decode cX8_isVowel 31 = .ok (.goto 4, 3) := by decide +kernel
theorem dX8_isVowel_34 : decode cX8_isVowel 34 = .ok (.iconst 0, 1) := by decide +kernel
theorem dX8_isVowel_35 : decode cX8_isVowel 35 = .ok (.ireturn, 1) := by decide +kernel
theorem dX8_capital_0 : decode cX8_capital 0 = .ok (.iload_n 0, 1) := by decide +kernel
theorem dX8_capital_1 : decode cX8_capital 1 = .ok (.invokestatic 282, 3) := by decide +kernel
theorem dX8_capital_4 : decode cX8_capital 4 = .ok (.ifCond .eq 14, 3) := by decide +kernel
theorem dX8_capital_7 : decode cX8_capital 7 = .ok (.iload_n 0, 1) := by decide +kernel
theorem dX8_capital_8 : decode cX8_capital 8 = .ok (.bipush 97, 2) := by decide +kernel
theorem dX8_capital_10 : decode cX8_capital 10 = .ok (.isub, 1) := by decide +kernel
theorem dX8_capital_11 : decode cX8_capital 11 = .ok (.bipush 65, 2) := by decide +kernel
theorem dX8_capital_13 : decode cX8_capital 13 = .ok (.iadd, 1) := by decide +kernel
theorem dX8_capital_14 : decode cX8_capital 14 = .ok (.i2c, 1) := by decide +kernel
theorem dX8_capital_15 : decode cX8_capital 15 = .ok (.goto 4, 3) := by decide +kernel
theorem dX8_capital_18 : decode cX8_capital 18 = .ok (.iload_n 0, 1) := by decide +kernel
theorem dX8_capital_19 : decode cX8_capital 19 = .ok (.ireturn, 1) := by decide +kernel
theorem dX8_isOpenBehind_0 : decode cX8_isOpenBehind 0 = .ok (.iload_n 0, 1) := by decide +kernel
theorem dX8_isOpenBehind_1 : decode cX8_isOpenBehind 1 = .ok (.bipush 46, 2) := by decide +kernel
theorem dX8_isOpenBehind_3 : decode cX8_isOpenBehind 3 = .ok (.if_icmp .eq 14, 3) := by decide +kernel
theorem dX8_isOpenBehind_6 : decode cX8_isOpenBehind 6 = .ok (.iload_n 1, 1) := by decide +kernel
theorem dX8_isOpenBehind_7 : decode cX8_isOpenBehind 7 = .ok (.ifCond .eq 14, 3) := by decide +kernel
theorem dX8_isOpenBehind_10 : decode cX8_isOpenBehind 10 = .ok (.iload_n 0, 1) := by decide +kernel
theorem dX8_isOpenBehind_11 : decode cX8_isOpenBehind 11 = .ok (.invokestatic 282, 3) := by decide +kernel
theorem dX8_isOpenBehind_14 : decode cX8_isOpenBehind 14 = .ok (.ifCond .ne 7, 3) := by decide +kernel
theorem dX8_isOpenBehind_17 : decode cX8_isOpenBehind 17 = .ok (.iconst 1, 1) := by decide +kernel
theorem dX8_isOpenBehind_18 : decode cX8_isOpenBehind 18 = .ok (.goto 4, 3) := by decide +kernel
theorem dX8_isOpenBehind_21 : decode cX8_isOpenBehind 21 = .ok (.iconst 0, 1) := by decide +kernel
theorem dX8_isOpenBehind_22 : decode cX8_isOpenBehind 22 = .ok (.ireturn, 1) := by decide +kernel
theorem dX8_caseOf_0 : decode cX8_caseOf 0 = .ok (.iload_n 0, 1) := by decide +kernel
theorem dX8_caseOf_1 : decode cX8_caseOf 1 = .ok (.bipush 110, 2) := by decide +kernel
theorem dX8_caseOf_3 : decode cX8_caseOf 3 = .ok (.if_icmp .ne 7, 3) := by decide +kernel
theorem dX8_caseOf_6 : decode cX8_caseOf 6 = .ok (.iconst 0, 1) := by decide +kernel
theorem dX8_caseOf_7 : decode cX8_caseOf 7 = .ok (.goto 34, 3) := by decide +kernel
theorem dX8_caseOf_10 : decode cX8_caseOf 10 = .ok (.iload_n 0, 1) := by decide +kernel
theorem dX8_caseOf_11 : decode cX8_caseOf 11 = .ok (.bipush 103, 2) := by decide +kernel
theorem dX8_caseOf_13 : decode cX8_caseOf 13 = .ok (.if_icmp .ne 7, 3) := by decide +kernel
theorem dX8_caseOf_16 : decode cX8_caseOf 16 = .ok (.iconst 1, 1) := by decide +kernel
theorem dX8_caseOf_17 : decode cX8_caseOf 17 = .ok (.goto 24, 3) := by decide +kernel
theorem dX8_caseOf_20 : decode cX8_caseOf 20 = .ok (.iload_n 0, 1) := by decide +kernel
theorem dX8_caseOf_21 : decode cX8_caseOf 21 = .ok (.bipush 100, 2) := by decide +kernel
theorem dX8_caseOf_23 : decode cX8_caseOf 23 = .ok (.if_icmp .ne 7, 3) := by decide +kernel
theorem dX8_caseOf_26 : decode cX8_caseOf 26 = .ok (.iconst 2, 1) := by decide +kernel
theorem dX8_caseOf_27 : decode cX8_caseOf 27 = .ok (.goto 14, 3) := by decide +kernel
theorem dX8_caseOf_30 : decode cX8_caseOf 30 = .ok (.iload_n 0, 1) := by decide +kernel
theorem dX8_caseOf_31 : decode cX8_caseOf 31 = .ok (.bipush 97, 2) := by decide +kernel
theorem dX8_caseOf_33 : decode cX8_caseOf 33 = .ok (.if_icmp .ne 7, 3) := by decide +kernel
theorem dX8_caseOf_36 : decode cX8_caseOf 36 = .ok (.iconst 3, 1) := by decide +kernel
theorem dX8_caseOf_37 : decode cX8_caseOf 37 = .ok (.goto 4, 3) := by decide +kernel
theorem dX8_caseOf_40 : decode cX8_caseOf 40 = .ok (.iconst (-1), 1) := by decide +kernel
theorem dX8_caseOf_41 : decode cX8_caseOf 41 = .ok (.ireturn, 1) := by decide +kernel
theorem dX8_numberOf_0 : decode cX8_numberOf 0 = .ok (.iload_n 0, 1) := by decide +kernel
theorem dX8_numberOf_1 : decode cX8_numberOf 1 = .ok (.bipush 115, 2) := by decide +kernel
theorem dX8_numberOf_3 : decode cX8_numberOf 3 = .ok (.if_icmp .ne 7, 3) := by decide +kernel
theorem dX8_numberOf_6 : decode cX8_numberOf 6 = .ok (.iconst 0, 1) := by decide +kernel
theorem dX8_numberOf_7 : decode cX8_numberOf 7 = .ok (.goto 14, 3) := by decide +kernel
theorem dX8_numberOf_10 : decode cX8_numberOf 10 = .ok (.iload_n 0, 1) := by decide +kernel
theorem dX8_numberOf_11 : decode cX8_numberOf 11 = .ok (.bipush 112, 2) := by decide +kernel
theorem dX8_numberOf_13 : decode cX8_numberOf 13 = .ok (.if_icmp .ne 7, 3) := by decide +kernel
theorem dX8_numberOf_16 : decode cX8_numberOf 16 = .ok (.iconst 1, 1) := by decide +kernel
theorem dX8_numberOf_17 : decode cX8_numberOf 17 = .ok (.goto 4, 3) := by decide +kernel
theorem dX8_numberOf_20 : decode cX8_numberOf 20 = .ok (.iconst (-1), 1) := by decide +kernel
theorem dX8_numberOf_21 : decode cX8_numberOf 21 = .ok (.ireturn, 1) := by decide +kernel
theorem dX8_slotOf_0 : decode cX8_slotOf 0 = .ok (.iload_n 0, 1) := by decide +kernel
theorem dX8_slotOf_1 : decode cX8_slotOf 1 = .ok (.bipush 48, 2) := by decide +kernel
theorem dX8_slotOf_3 : decode cX8_slotOf 3 = .ok (.if_icmp .lt 16, 3) := by decide +kernel
theorem dX8_slotOf_6 : decode cX8_slotOf 6 = .ok (.iload_n 0, 1) := by decide +kernel
theorem dX8_slotOf_7 : decode cX8_slotOf 7 = .ok (.bipush 53, 2) := by decide +kernel
theorem dX8_slotOf_9 : decode cX8_slotOf 9 = .ok (.if_icmp .ge 10, 3) := by decide +kernel
theorem dX8_slotOf_12 : decode cX8_slotOf 12 = .ok (.iload_n 0, 1) := by decide +kernel
theorem dX8_slotOf_13 : decode cX8_slotOf 13 = .ok (.bipush 48, 2) := by decide +kernel
theorem dX8_slotOf_15 : decode cX8_slotOf 15 = .ok (.isub, 1) := by decide +kernel
theorem dX8_slotOf_16 : decode cX8_slotOf 16 = .ok (.goto 4, 3) := by decide +kernel
theorem dX8_slotOf_19 : decode cX8_slotOf 19 = .ok (.iconst (-1), 1) := by decide +kernel
theorem dX8_slotOf_20 : decode cX8_slotOf 20 = .ok (.ireturn, 1) := by decide +kernel
theorem dX8_firstFault_0 : decode cX8_firstFault 0 = .ok (.iconst 0, 1) := by decide +kernel
theorem dX8_firstFault_1 : decode cX8_firstFault 1 = .ok (.istore_n 1, 1) := by decide +kernel
theorem dX8_firstFault_2 : decode cX8_firstFault 2 = .ok (.iconst 0, 1) := by decide +kernel
theorem dX8_firstFault_3 : decode cX8_firstFault 3 = .ok (.istore_n 2, 1) := by decide +kernel
theorem dX8_firstFault_4 : decode cX8_firstFault 4 = .ok (.iload_n 2, 1) := by decide +kernel
theorem dX8_firstFault_5 : decode cX8_firstFault 5 = .ok (.aload_n 0, 1) := by decide +kernel
theorem dX8_firstFault_6 : decode cX8_firstFault 6 = .ok (.invokevirtual 72, 3) := by decide +kernel
theorem dX8_firstFault_9 : decode cX8_firstFault 9 = .ok (.if_icmp .ge 60, 3) := by decide +kernel
theorem dX8_firstFault_12 : decode cX8_firstFault 12 = .ok (.aload_n 0, 1) := by decide +kernel
theorem dX8_firstFault_13 : decode cX8_firstFault 13 = .ok (.iload_n 2, 1) := by decide +kernel
theorem dX8_firstFault_14 : decode cX8_firstFault 14 = .ok (.invokevirtual 285, 3) := by decide +kernel
theorem dX8_firstFault_17 : decode cX8_firstFault 17 = .ok (.iload_n 1, 1) := by decide +kernel
theorem dX8_firstFault_18 : decode cX8_firstFault 18 = .ok (.invokestatic 286, 3) := by decide +kernel
theorem dX8_firstFault_21 : decode cX8_firstFault 21 = .ok (.ifCond .ne 5, 3) := by decide +kernel
theorem dX8_firstFault_24 : decode cX8_firstFault 24 = .ok (.iload_n 2, 1) := by decide +kernel
theorem dX8_firstFault_25 : decode cX8_firstFault 25 = .ok (.ireturn, 1) := by decide +kernel
theorem dX8_firstFault_26 : decode cX8_firstFault 26 = .ok (.iload_n 1, 1) := by decide +kernel
theorem dX8_firstFault_27 : decode cX8_firstFault 27 = .ok (.ifCond .gt 13, 3) := by decide +kernel
theorem dX8_firstFault_30 : decode cX8_firstFault 30 = .ok (.aload_n 0, 1) := by decide +kernel
theorem dX8_firstFault_31 : decode cX8_firstFault 31 = .ok (.iload_n 2, 1) := by decide +kernel
theorem dX8_firstFault_32 : decode cX8_firstFault 32 = .ok (.invokevirtual 285, 3) := by decide +kernel
theorem dX8_firstFault_35 : decode cX8_firstFault 35 = .ok (.bipush 91, 2) := by decide +kernel
theorem dX8_firstFault_37 : decode cX8_firstFault 37 = .ok (.if_icmp .ne 7, 3) := by decide +kernel
theorem dX8_firstFault_40 : decode cX8_firstFault 40 = .ok (.iconst 1, 1) := by decide +kernel
theorem dX8_firstFault_41 : decode cX8_firstFault 41 = .ok (.goto 4, 3) := by decide +kernel
theorem dX8_firstFault_44 : decode cX8_firstFault 44 = .ok (.iconst 0, 1) := by decide +kernel
theorem dX8_firstFault_45 : decode cX8_firstFault 45 = .ok (.istore_n 3, 1) := by decide +kernel
theorem dX8_firstFault_46 : decode cX8_firstFault 46 = .ok (.iload_n 3, 1) := by decide +kernel
theorem dX8_firstFault_47 : decode cX8_firstFault 47 = .ok (.ifCond .eq 14, 3) := by decide +kernel
theorem dX8_firstFault_50 : decode cX8_firstFault 50 = .ok (.iload_n 1, 1) := by decide +kernel
theorem dX8_firstFault_51 : decode cX8_firstFault 51 = .ok (.iconst 4, 1) := by decide +kernel
theorem dX8_firstFault_52 : decode cX8_firstFault 52 = .ok (.if_icmp .ge 9, 3) := by decide +kernel
theorem dX8_firstFault_55 : decode cX8_firstFault 55 = .ok (.iload_n 1, 1) := by decide +kernel
theorem dX8_firstFault_56 : decode cX8_firstFault 56 = .ok (.iconst 1, 1) := by decide +kernel
theorem dX8_firstFault_57 : decode cX8_firstFault 57 = .ok (.iadd, 1) := by decide +kernel
theorem dX8_firstFault_58 : decode cX8_firstFault 58 = .ok (.goto 4, 3) := by decide +kernel
theorem dX8_firstFault_61 : decode cX8_firstFault 61 = .ok (.iconst 0, 1) := by decide +kernel
theorem dX8_firstFault_62 : decode cX8_firstFault 62 = .ok (.istore_n 1, 1) := by decide +kernel
theorem dX8_firstFault_63 : decode cX8_firstFault 63 = .ok (.iinc 2 1, 3) := by decide +kernel
theorem dX8_firstFault_66 : decode cX8_firstFault 66 = .ok (.goto (-62), 3) := by decide +kernel
theorem dX8_firstFault_69 : decode cX8_firstFault 69 = .ok (.aload_n 0, 1) := by decide +kernel
theorem dX8_firstFault_70 : decode cX8_firstFault 70 = .ok (.invokevirtual 72, 3) := by decide +kernel
theorem dX8_firstFault_73 : decode cX8_firstFault 73 = .ok (.ifCond .eq 7, 3) := by decide +kernel
theorem dX8_firstFault_76 : decode cX8_firstFault 76 = .ok (.iload_n 1, 1) := by decide +kernel
theorem dX8_firstFault_77 : decode cX8_firstFault 77 = .ok (.ifCond .eq 10, 3) := by decide +kernel
theorem dX8_firstFault_80 : decode cX8_firstFault 80 = .ok (.aload_n 0, 1) := by decide +kernel
theorem dX8_firstFault_81 : decode cX8_firstFault 81 = .ok (.invokevirtual 72, 3) := by decide +kernel
theorem dX8_firstFault_84 : decode cX8_firstFault 84 = .ok (.goto 4, 3) := by decide +kernel
theorem dX8_firstFault_87 : decode cX8_firstFault 87 = .ok (.iconst (-1), 1) := by decide +kernel
theorem dX8_firstFault_88 : decode cX8_firstFault 88 = .ok (.ireturn, 1) := by decide +kernel
theorem dX8_canStand_0 : decode cX8_canStand 0 = .ok (.iload_n 1, 1) := by decide +kernel
theorem dX8_canStand_1 : decode cX8_canStand 1 = .ok (.tableswitch 104 0 3 #[31, 62, 76, 90], 31) := by decide +kernel
theorem dX8_canStand_32 : decode cX8_canStand 32 = .ok (.iload_n 0, 1) := by decide +kernel
theorem dX8_canStand_33 : decode cX8_canStand 33 = .ok (.invokestatic 282, 3) := by decide +kernel
theorem dX8_canStand_36 : decode cX8_canStand 36 = .ok (.ifCond .ne 21, 3) := by decide +kernel
theorem dX8_canStand_39 : decode cX8_canStand 39 = .ok (.iload_n 0, 1) := by decide +kernel
theorem dX8_canStand_40 : decode cX8_canStand 40 = .ok (.bipush 32, 2) := by decide +kernel
theorem dX8_canStand_42 : decode cX8_canStand 42 = .ok (.if_icmp .eq 15, 3) := by decide +kernel
theorem dX8_canStand_45 : decode cX8_canStand 45 = .ok (.iload_n 0, 1) := by decide +kernel
theorem dX8_canStand_46 : decode cX8_canStand 46 = .ok (.bipush 46, 2) := by decide +kernel
theorem dX8_canStand_48 : decode cX8_canStand 48 = .ok (.if_icmp .eq 9, 3) := by decide +kernel
theorem dX8_canStand_51 : decode cX8_canStand 51 = .ok (.iload_n 0, 1) := by decide +kernel
theorem dX8_canStand_52 : decode cX8_canStand 52 = .ok (.bipush 91, 2) := by decide +kernel
theorem dX8_canStand_54 : decode cX8_canStand 54 = .ok (.if_icmp .ne 7, 3) := by decide +kernel
theorem dX8_canStand_57 : decode cX8_canStand 57 = .ok (.iconst 1, 1) := by decide +kernel
theorem dX8_canStand_58 : decode cX8_canStand 58 = .ok (.goto 4, 3) := by decide +kernel
theorem dX8_canStand_61 : decode cX8_canStand 61 = .ok (.iconst 0, 1) := by decide +kernel
theorem dX8_canStand_62 : decode cX8_canStand 62 = .ok (.ireturn, 1) := by decide +kernel
theorem dX8_canStand_63 : decode cX8_canStand 63 = .ok (.iload_n 0, 1) := by decide +kernel
theorem dX8_canStand_64 : decode cX8_canStand 64 = .ok (.invokestatic 290, 3) := by decide +kernel
theorem dX8_canStand_67 : decode cX8_canStand 67 = .ok (.iconst (-1), 1) := by decide +kernel
theorem dX8_canStand_68 : decode cX8_canStand 68 = .ok (.if_icmp .eq 7, 3) := by decide +kernel
theorem dX8_canStand_71 : decode cX8_canStand 71 = .ok (.iconst 1, 1) := by decide +kernel
theorem dX8_canStand_72 : decode cX8_canStand 72 = .ok (.goto 4, 3) := by decide +kernel
theorem dX8_canStand_75 : decode cX8_canStand 75 = .ok (.iconst 0, 1) := by decide +kernel
theorem dX8_canStand_76 : decode cX8_canStand 76 = .ok (.ireturn, 1) := by decide +kernel
theorem dX8_canStand_77 : decode cX8_canStand 77 = .ok (.iload_n 0, 1) := by decide +kernel
theorem dX8_canStand_78 : decode cX8_canStand 78 = .ok (.invokestatic 294, 3) := by decide +kernel
theorem dX8_canStand_81 : decode cX8_canStand 81 = .ok (.iconst (-1), 1) := by decide +kernel
theorem dX8_canStand_82 : decode cX8_canStand 82 = .ok (.if_icmp .eq 7, 3) := by decide +kernel
theorem dX8_canStand_85 : decode cX8_canStand 85 = .ok (.iconst 1, 1) := by decide +kernel
theorem dX8_canStand_86 : decode cX8_canStand 86 = .ok (.goto 4, 3) := by decide +kernel
theorem dX8_canStand_89 : decode cX8_canStand 89 = .ok (.iconst 0, 1) := by decide +kernel
theorem dX8_canStand_90 : decode cX8_canStand 90 = .ok (.ireturn, 1) := by decide +kernel
theorem dX8_canStand_91 : decode cX8_canStand 91 = .ok (.iload_n 0, 1) := by decide +kernel
theorem dX8_canStand_92 : decode cX8_canStand 92 = .ok (.invokestatic 297, 3) := by decide +kernel
theorem dX8_canStand_95 : decode cX8_canStand 95 = .ok (.iconst (-1), 1) := by decide +kernel
theorem dX8_canStand_96 : decode cX8_canStand 96 = .ok (.if_icmp .eq 7, 3) := by decide +kernel
theorem dX8_canStand_99 : decode cX8_canStand 99 = .ok (.iconst 1, 1) := by decide +kernel
theorem dX8_canStand_100 : decode cX8_canStand 100 = .ok (.goto 4, 3) := by decide +kernel
theorem dX8_canStand_103 : decode cX8_canStand 103 = .ok (.iconst 0, 1) := by decide +kernel
theorem dX8_canStand_104 : decode cX8_canStand 104 = .ok (.ireturn, 1) := by decide +kernel
theorem dX8_canStand_105 : decode cX8_canStand 105 = .ok (.iload_n 0, 1) := by decide +kernel
theorem dX8_canStand_106 : decode cX8_canStand 106 = .ok (.bipush 93, 2) := by decide +kernel
theorem dX8_canStand_108 : decode cX8_canStand 108 = .ok (.if_icmp .ne 7, 3) := by decide +kernel
theorem dX8_canStand_111 : decode cX8_canStand 111 = .ok (.iconst 1, 1) := by decide +kernel
theorem dX8_canStand_112 : decode cX8_canStand 112 = .ok (.goto 4, 3) := by decide +kernel
theorem dX8_canStand_115 : decode cX8_canStand 115 = .ok (.iconst 0, 1) := by decide +kernel
theorem dX8_canStand_116 : decode cX8_canStand 116 = .ok (.ireturn, 1) := by decide +kernel
theorem dX8_isIn_0 : decode cX8_isIn 0 = .ok (.aload_n 0, 1) := by decide +kernel
theorem dX8_isIn_1 : decode cX8_isIn 1 = .ok (.iload_n 3, 1) := by decide +kernel
theorem dX8_isIn_2 : decode cX8_isIn 2 = .ok (.invokevirtual 163, 3) := by decide +kernel
theorem dX8_isIn_5 : decode cX8_isIn 5 = .ok (.astore 4, 2) := by decide +kernel
theorem dX8_isIn_7 : decode cX8_isIn 7 = .ok (.aload 4, 2) := by decide +kernel
theorem dX8_isIn_9 : decode cX8_isIn 9 = .ok (.ifnull 27, 3) := by decide +kernel
theorem dX8_isIn_12 : decode cX8_isIn 12 = .ok (.aload_n 1, 1) := by decide +kernel
theorem dX8_isIn_13 : decode cX8_isIn 13 = .ok (.iload_n 3, 1) := by decide +kernel
theorem dX8_isIn_14 : decode cX8_isIn 14 = .ok (.invokevirtual 194, 3) := by decide +kernel
theorem dX8_isIn_17 : decode cX8_isIn 17 = .ok (.ifCond .eq 19, 3) := by decide +kernel
theorem dX8_isIn_20 : decode cX8_isIn 20 = .ok (.aload_n 2, 1) := by decide +kernel
theorem dX8_isIn_21 : decode cX8_isIn 21 = .ok (.aload 4, 2) := by decide +kernel
theorem dX8_isIn_23 : decode cX8_isIn 23 = .ok (.invokevirtual 300, 3) := by decide +kernel
theorem dX8_isIn_26 : decode cX8_isIn 26 = .ok (.invokevirtual 303, 3) := by decide +kernel
theorem dX8_isIn_29 : decode cX8_isIn 29 = .ok (.ifCond .eq 7, 3) := by decide +kernel
theorem dX8_isIn_32 : decode cX8_isIn 32 = .ok (.iconst 1, 1) := by decide +kernel
theorem dX8_isIn_33 : decode cX8_isIn 33 = .ok (.goto 4, 3) := by decide +kernel
theorem dX8_isIn_36 : decode cX8_isIn 36 = .ok (.iconst 0, 1) := by decide +kernel
theorem dX8_isIn_37 : decode cX8_isIn 37 = .ok (.ireturn, 1) := by decide +kernel
theorem dX8_faultAt_0 : decode cX8_faultAt 0 = .ok (.aload_n 0, 1) := by decide +kernel
theorem dX8_faultAt_1 : decode cX8_faultAt 1 = .ok (.iload_n 3, 1) := by decide +kernel
theorem dX8_faultAt_2 : decode cX8_faultAt 2 = .ok (.iload 4, 2) := by decide +kernel
theorem dX8_faultAt_4 : decode cX8_faultAt 4 = .ok (.invokevirtual 131, 3) := by decide +kernel
theorem dX8_faultAt_7 : decode cX8_faultAt 7 = .ok (.astore 6, 2) := by decide +kernel
theorem dX8_faultAt_9 : decode cX8_faultAt 9 = .ok (.aload 6, 2) := by decide +kernel
theorem dX8_faultAt_11 : decode cX8_faultAt 11 = .ok (.ifnull 11, 3) := by decide +kernel
theorem dX8_faultAt_14 : decode cX8_faultAt 14 = .ok (.aload 6, 2) := by decide +kernel
theorem dX8_faultAt_16 : decode cX8_faultAt 16 = .ok (.invokevirtual 151, 3) := by decide +kernel
theorem dX8_faultAt_19 : decode cX8_faultAt 19 = .ok (.ifCond .ne 5, 3) := by decide +kernel
theorem dX8_faultAt_22 : decode cX8_faultAt 22 = .ok (.iconst 1, 1) := by decide +kernel
theorem dX8_faultAt_23 : decode cX8_faultAt 23 = .ok (.ireturn, 1) := by decide +kernel
theorem dX8_faultAt_24 : decode cX8_faultAt 24 = .ok (.aload 6, 2) := by decide +kernel
theorem dX8_faultAt_26 : decode cX8_faultAt 26 = .ok (.invokevirtual 157, 3) := by decide +kernel
theorem dX8_faultAt_29 : decode cX8_faultAt 29 = .ok (.ifCond .ne 5, 3) := by decide +kernel
theorem dX8_faultAt_32 : decode cX8_faultAt 32 = .ok (.iconst 2, 1) := by decide +kernel
theorem dX8_faultAt_33 : decode cX8_faultAt 33 = .ok (.ireturn, 1) := by decide +kernel
theorem dX8_faultAt_34 : decode cX8_faultAt 34 = .ok (.aload_n 0, 1) := by decide +kernel
theorem dX8_faultAt_35 : decode cX8_faultAt 35 = .ok (.aload_n 1, 1) := by decide +kernel
theorem dX8_faultAt_36 : decode cX8_faultAt 36 = .ok (.aload_n 2, 1) := by decide +kernel
theorem dX8_faultAt_37 : decode cX8_faultAt 37 = .ok (.iload_n 3, 1) := by decide +kernel
theorem dX8_faultAt_38 : decode cX8_faultAt 38 = .ok (.iload 5, 2) := by decide +kernel
theorem dX8_faultAt_40 : decode cX8_faultAt 40 = .ok (.iconst 1, 1) := by decide +kernel
theorem dX8_faultAt_41 : decode cX8_faultAt 41 = .ok (.invokevirtual 306, 3) := by decide +kernel
theorem dX8_faultAt_44 : decode cX8_faultAt 44 = .ok (.ifCond .eq 5, 3) := by decide +kernel
theorem dX8_faultAt_47 : decode cX8_faultAt 47 = .ok (.iconst 3, 1) := by decide +kernel
theorem dX8_faultAt_48 : decode cX8_faultAt 48 = .ok (.ireturn, 1) := by decide +kernel
theorem dX8_faultAt_49 : decode cX8_faultAt 49 = .ok (.aload_n 0, 1) := by decide +kernel
theorem dX8_faultAt_50 : decode cX8_faultAt 50 = .ok (.aload_n 1, 1) := by decide +kernel
theorem dX8_faultAt_51 : decode cX8_faultAt 51 = .ok (.aload_n 2, 1) := by decide +kernel
theorem dX8_faultAt_52 : decode cX8_faultAt 52 = .ok (.iload_n 3, 1) := by decide +kernel
theorem dX8_faultAt_53 : decode cX8_faultAt 53 = .ok (.iload 5, 2) := by decide +kernel
theorem dX8_faultAt_55 : decode cX8_faultAt 55 = .ok (.iconst 2, 1) := by decide +kernel
theorem dX8_faultAt_56 : decode cX8_faultAt 56 = .ok (.invokevirtual 306, 3) := by decide +kernel
theorem dX8_faultAt_59 : decode cX8_faultAt 59 = .ok (.ifCond .eq 7, 3) := by decide +kernel
theorem dX8_faultAt_62 : decode cX8_faultAt 62 = .ok (.iconst 4, 1) := by decide +kernel
theorem dX8_faultAt_63 : decode cX8_faultAt 63 = .ok (.goto 4, 3) := by decide +kernel
theorem dX8_faultAt_66 : decode cX8_faultAt 66 = .ok (.iconst 0, 1) := by decide +kernel
theorem dX8_faultAt_67 : decode cX8_faultAt 67 = .ok (.ireturn, 1) := by decide +kernel
theorem dX8_isRelated_0 : decode cX8_isRelated 0 = .ok (.aload_n 0, 1) := by decide +kernel
theorem dX8_isRelated_1 : decode cX8_isRelated 1 = .ok (.iload_n 3, 1) := by decide +kernel
theorem dX8_isRelated_2 : decode cX8_isRelated 2 = .ok (.invokevirtual 163, 3) := by decide +kernel
theorem dX8_isRelated_5 : decode cX8_isRelated 5 = .ok (.astore 6, 2) := by decide +kernel
theorem dX8_isRelated_7 : decode cX8_isRelated 7 = .ok (.iconst 0, 1) := by decide +kernel
theorem dX8_isRelated_8 : decode cX8_isRelated 8 = .ok (.istore 7, 2) := by decide +kernel
theorem dX8_isRelated_10 : decode cX8_isRelated 10 = .ok (.aload 6, 2) := by decide +kernel
theorem dX8_isRelated_12 : decode cX8_isRelated 12 = .ok (.ifnull 56, 3) := by decide +kernel
theorem dX8_isRelated_15 : decode cX8_isRelated 15 = .ok (.iload 7, 2) := by decide +kernel
theorem dX8_isRelated_17 : decode cX8_isRelated 17 = .ok (.aload_n 0, 1) := by decide +kernel
theorem dX8_isRelated_18 : decode cX8_isRelated 18 = .ok (.getfield 124, 3) := by decide +kernel
theorem dX8_isRelated_21 : decode cX8_isRelated 21 = .ok (.if_icmp .ge 47, 3) := by decide +kernel
theorem dX8_isRelated_24 : decode cX8_isRelated 24 = .ok (.aload 6, 2) := by decide +kernel
theorem dX8_isRelated_26 : decode cX8_isRelated 26 = .ok (.iload 7, 2) := by decide +kernel
theorem dX8_isRelated_28 : decode cX8_isRelated 28 = .ok (.iload 4, 2) := by decide +kernel
theorem dX8_isRelated_30 : decode cX8_isRelated 30 = .ok (.invokevirtual 171, 3) := by decide +kernel
theorem dX8_isRelated_33 : decode cX8_isRelated 33 = .ok (.iload 5, 2) := by decide +kernel
theorem dX8_isRelated_35 : decode cX8_isRelated 35 = .ok (.if_icmp .ne 27, 3) := by decide +kernel
theorem dX8_isRelated_38 : decode cX8_isRelated 38 = .ok (.aload_n 0, 1) := by decide +kernel
theorem dX8_isRelated_39 : decode cX8_isRelated 39 = .ok (.aload_n 1, 1) := by decide +kernel
theorem dX8_isRelated_40 : decode cX8_isRelated 40 = .ok (.aload_n 2, 1) := by decide +kernel
theorem dX8_isRelated_41 : decode cX8_isRelated 41 = .ok (.iload 7, 2) := by decide +kernel
theorem dX8_isRelated_43 : decode cX8_isRelated 43 = .ok (.invokevirtual 238, 3) := by decide +kernel
theorem dX8_isRelated_46 : decode cX8_isRelated 46 = .ok (.iload 5, 2) := by decide +kernel
theorem dX8_isRelated_48 : decode cX8_isRelated 48 = .ok (.iconst 2, 1) := by decide +kernel
theorem dX8_isRelated_49 : decode cX8_isRelated 49 = .ok (.if_icmp .ne 7, 3) := by decide +kernel
theorem dX8_isRelated_52 : decode cX8_isRelated 52 = .ok (.iconst 1, 1) := by decide +kernel
theorem dX8_isRelated_53 : decode cX8_isRelated 53 = .ok (.goto 4, 3) := by decide +kernel
theorem dX8_isRelated_56 : decode cX8_isRelated 56 = .ok (.iconst 0, 1) := by decide +kernel
theorem dX8_isRelated_57 : decode cX8_isRelated 57 = .ok (.if_icmp .ne 5, 3) := by decide +kernel
theorem dX8_isRelated_60 : decode cX8_isRelated 60 = .ok (.iconst 1, 1) := by decide +kernel
theorem dX8_isRelated_61 : decode cX8_isRelated 61 = .ok (.ireturn, 1) := by decide +kernel
theorem dX8_isRelated_62 : decode cX8_isRelated 62 = .ok (.iinc 7 1, 3) := by decide +kernel
theorem dX8_isRelated_65 : decode cX8_isRelated 65 = .ok (.goto (-55), 3) := by decide +kernel
theorem dX8_isRelated_68 : decode cX8_isRelated 68 = .ok (.iconst 0, 1) := by decide +kernel
theorem dX8_isRelated_69 : decode cX8_isRelated 69 = .ok (.ireturn, 1) := by decide +kernel
theorem dX8_laidAt_0 : decode cX8_laidAt 0 = .ok (.aload_n 0, 1) := by decide +kernel
theorem dX8_laidAt_1 : decode cX8_laidAt 1 = .ok (.aload_n 1, 1) := by decide +kernel
theorem dX8_laidAt_2 : decode cX8_laidAt 2 = .ok (.iload_n 2, 1) := by decide +kernel
theorem dX8_laidAt_3 : decode cX8_laidAt 3 = .ok (.invokevirtual 235, 3) := by decide +kernel
theorem dX8_laidAt_6 : decode cX8_laidAt 6 = .ok (.invokevirtual 163, 3) := by decide +kernel
theorem dX8_laidAt_9 : decode cX8_laidAt 9 = .ok (.astore 5, 2) := by decide +kernel
theorem dX8_laidAt_11 : decode cX8_laidAt 11 = .ok (.aload 5, 2) := by decide +kernel
theorem dX8_laidAt_13 : decode cX8_laidAt 13 = .ok (.ifnull 15, 3) := by decide +kernel
theorem dX8_laidAt_16 : decode cX8_laidAt 16 = .ok (.aload_n 3, 1) := by decide +kernel
theorem dX8_laidAt_17 : decode cX8_laidAt 17 = .ok (.aload 5, 2) := by decide +kernel
theorem dX8_laidAt_19 : decode cX8_laidAt 19 = .ok (.invokevirtual 300, 3) := by decide +kernel
theorem dX8_laidAt_22 : decode cX8_laidAt 22 = .ok (.invokevirtual 303, 3) := by decide +kernel
theorem dX8_laidAt_25 : decode cX8_laidAt 25 = .ok (.ifCond .ne 5, 3) := by decide +kernel
theorem dX8_laidAt_28 : decode cX8_laidAt 28 = .ok (.aconst_null, 1) := by decide +kernel
theorem dX8_laidAt_29 : decode cX8_laidAt 29 = .ok (.areturn, 1) := by decide +kernel
theorem dX8_laidAt_30 : decode cX8_laidAt 30 = .ok (.aload 5, 2) := by decide +kernel
theorem dX8_laidAt_32 : decode cX8_laidAt 32 = .ok (.iload 4, 2) := by decide +kernel
theorem dX8_laidAt_34 : decode cX8_laidAt 34 = .ok (.invokevirtual 278, 3) := by decide +kernel
theorem dX8_laidAt_37 : decode cX8_laidAt 37 = .ok (.astore 6, 2) := by decide +kernel
theorem dX8_laidAt_39 : decode cX8_laidAt 39 = .ok (.aload 6, 2) := by decide +kernel
theorem dX8_laidAt_41 : decode cX8_laidAt 41 = .ok (.ifnull 16, 3) := by decide +kernel
theorem dX8_laidAt_44 : decode cX8_laidAt 44 = .ok (.aload 6, 2) := by decide +kernel
theorem dX8_laidAt_46 : decode cX8_laidAt 46 = .ok (.invokevirtual 151, 3) := by decide +kernel
theorem dX8_laidAt_49 : decode cX8_laidAt 49 = .ok (.ifCond .eq 8, 3) := by decide +kernel
theorem dX8_laidAt_52 : decode cX8_laidAt 52 = .ok (.aload 6, 2) := by decide +kernel
theorem dX8_laidAt_54 : decode cX8_laidAt 54 = .ok (.goto 4, 3) := by decide +kernel
theorem dX8_laidAt_57 : decode cX8_laidAt 57 = .ok (.aconst_null, 1) := by decide +kernel
theorem dX8_laidAt_58 : decode cX8_laidAt 58 = .ok (.areturn, 1) := by decide +kernel
theorem dX8_build_0 : decode cX8_build 0 = .ok (.aload_n 0, 1) := by decide +kernel
theorem dX8_build_1 : decode cX8_build 1 = .ok (.getfield 50, 3) := by decide +kernel
theorem dX8_build_4 : decode cX8_build 4 = .ok (.invokevirtual 310, 3) := by decide +kernel
theorem dX8_build_7 : decode cX8_build 7 = .ok (.iconst 0, 1) := by decide +kernel
theorem dX8_build_8 : decode cX8_build 8 = .ok (.istore 4, 2) := by decide +kernel
theorem dX8_build_10 : decode cX8_build 10 = .ok (.iload 4, 2) := by decide +kernel
theorem dX8_build_12 : decode cX8_build 12 = .ok (.aload_n 1, 1) := by decide +kernel
theorem dX8_build_13 : decode cX8_build 13 = .ok (.invokevirtual 201, 3) := by decide +kernel
theorem dX8_build_16 : decode cX8_build 16 = .ok (.if_icmp .ge 52, 3) := by decide +kernel
theorem dX8_build_19 : decode cX8_build 19 = .ok (.aload_n 0, 1) := by decide +kernel
theorem dX8_build_20 : decode cX8_build 20 = .ok (.aload_n 1, 1) := by decide +kernel
theorem dX8_build_21 : decode cX8_build 21 = .ok (.iload 4, 2) := by decide +kernel
theorem dX8_build_23 : decode cX8_build 23 = .ok (.aload_n 2, 1) := by decide +kernel
theorem dX8_build_24 : decode cX8_build 24 = .ok (.iload_n 3, 1) := by decide +kernel
theorem dX8_build_25 : decode cX8_build 25 = .ok (.invokevirtual 312, 3) := by decide +kernel
theorem dX8_build_28 : decode cX8_build 28 = .ok (.astore 5, 2) := by decide +kernel
theorem dX8_build_30 : decode cX8_build 30 = .ok (.aload 5, 2) := by decide +kernel
theorem dX8_build_32 : decode cX8_build 32 = .ok (.ifnull 30, 3) := by decide +kernel
theorem dX8_build_35 : decode cX8_build 35 = .ok (.aload_n 0, 1) := by decide +kernel
theorem dX8_build_36 : decode cX8_build 36 = .ok (.getfield 50, 3) := by decide +kernel
theorem dX8_build_39 : decode cX8_build 39 = .ok (.invokevirtual 316, 3) := by decide +kernel
theorem dX8_build_42 : decode cX8_build 42 = .ok (.ifCond .le 12, 3) := by decide +kernel
theorem dX8_build_45 : decode cX8_build 45 = .ok (.aload_n 0, 1) := by decide +kernel
theorem dX8_build_46 : decode cX8_build 46 = .ok (.getfield 50, 3) := by decide +kernel
theorem dX8_build_49 : decode cX8_build 49 = .ok (.bipush 32, 2) := by decide +kernel
theorem dX8_build_51 : decode cX8_build 51 = .ok (.invokevirtual 317, 3) := by decide +kernel
theorem dX8_build_54 : decode cX8_build 54 = .ok (.aload_n 0, 1) := by decide +kernel
theorem dX8_build_55 : decode cX8_build 55 = .ok (.aload 5, 2) := by decide +kernel
theorem dX8_build_57 : decode cX8_build 57 = .ok (.aload_n 2, 1) := by decide +kernel
theorem dX8_build_58 : decode cX8_build 58 = .ok (.iload_n 3, 1) := by decide +kernel
theorem dX8_build_59 : decode cX8_build 59 = .ok (.invokevirtual 321, 3) := by decide +kernel
theorem dX8_build_62 : decode cX8_build 62 = .ok (.iinc 4 1, 3) := by decide +kernel
theorem dX8_build_65 : decode cX8_build 65 = .ok (.goto (-55), 3) := by decide +kernel
theorem dX8_build_68 : decode cX8_build 68 = .ok (.return_, 1) := by decide +kernel
theorem dX8_layTemplate_0 : decode cX8_layTemplate 0 = .ok (.iconst 0, 1) := by decide +kernel
theorem dX8_layTemplate_1 : decode cX8_layTemplate 1 = .ok (.istore 4, 2) := by decide +kernel
theorem dX8_layTemplate_3 : decode cX8_layTemplate 3 = .ok (.iload 4, 2) := by decide +kernel
theorem dX8_layTemplate_5 : decode cX8_layTemplate 5 = .ok (.aload_n 1, 1) := by decide +kernel
theorem dX8_layTemplate_6 : decode cX8_layTemplate 6 = .ok (.invokevirtual 325, 3) := by decide +kernel
theorem dX8_layTemplate_9 : decode cX8_layTemplate 9 = .ok (.if_icmp .ge 58, 3) := by decide +kernel
theorem dX8_layTemplate_12 : decode cX8_layTemplate 12 = .ok (.aload_n 1, 1) := by decide +kernel
theorem dX8_layTemplate_13 : decode cX8_layTemplate 13 = .ok (.iload 4, 2) := by decide +kernel
theorem dX8_layTemplate_15 : decode cX8_layTemplate 15 = .ok (.invokevirtual 326, 3) := by decide +kernel
theorem dX8_layTemplate_18 : decode cX8_layTemplate 18 = .ok (.ifCond .eq 30, 3) := by decide +kernel
theorem dX8_layTemplate_21 : decode cX8_layTemplate 21 = .ok (.aload_n 0, 1) := by decide +kernel
theorem dX8_layTemplate_22 : decode cX8_layTemplate 22 = .ok (.iload_n 3, 1) := by decide +kernel
theorem dX8_layTemplate_23 : decode cX8_layTemplate 23 = .ok (.aload_n 2, 1) := by decide +kernel
theorem dX8_layTemplate_24 : decode cX8_layTemplate 24 = .ok (.aload_n 1, 1) := by decide +kernel
theorem dX8_layTemplate_25 : decode cX8_layTemplate 25 = .ok (.iload 4, 2) := by decide +kernel
theorem dX8_layTemplate_27 : decode cX8_layTemplate 27 = .ok (.invokevirtual 329, 3) := by decide +kernel
theorem dX8_layTemplate_30 : decode cX8_layTemplate 30 = .ok (.invokevirtual 220, 3) := by decide +kernel
theorem dX8_layTemplate_33 : decode cX8_layTemplate 33 = .ok (.aload_n 1, 1) := by decide +kernel
theorem dX8_layTemplate_34 : decode cX8_layTemplate 34 = .ok (.iload 4, 2) := by decide +kernel
theorem dX8_layTemplate_36 : decode cX8_layTemplate 36 = .ok (.invokevirtual 332, 3) := by decide +kernel
theorem dX8_layTemplate_39 : decode cX8_layTemplate 39 = .ok (.invokevirtual 335, 3) := by decide +kernel
theorem dX8_layTemplate_42 : decode cX8_layTemplate 42 = .ok (.iinc 4 4, 3) := by decide +kernel
theorem dX8_layTemplate_45 : decode cX8_layTemplate 45 = .ok (.goto 16, 3) := by decide +kernel
theorem dX8_layTemplate_48 : decode cX8_layTemplate 48 = .ok (.aload_n 0, 1) := by decide +kernel
theorem dX8_layTemplate_49 : decode cX8_layTemplate 49 = .ok (.getfield 50, 3) := by decide +kernel
theorem dX8_layTemplate_52 : decode cX8_layTemplate 52 = .ok (.aload_n 1, 1) := by decide +kernel
theorem dX8_layTemplate_53 : decode cX8_layTemplate 53 = .ok (.iload 4, 2) := by decide +kernel
theorem dX8_layTemplate_55 : decode cX8_layTemplate 55 = .ok (.invokevirtual 338, 3) := by decide +kernel
theorem dX8_layTemplate_58 : decode cX8_layTemplate 58 = .ok (.invokevirtual 317, 3) := by decide +kernel
theorem dX8_layTemplate_61 : decode cX8_layTemplate 61 = .ok (.iinc 4 1, 3) := by decide +kernel
theorem dX8_layTemplate_64 : decode cX8_layTemplate 64 = .ok (.goto (-61), 3) := by decide +kernel
theorem dX8_layTemplate_67 : decode cX8_layTemplate 67 = .ok (.return_, 1) := by decide +kernel
theorem dX8_layForm_0 : decode cX8_layForm 0 = .ok (.aload_n 0, 1) := by decide +kernel
theorem dX8_layForm_1 : decode cX8_layForm 1 = .ok (.getfield 21, 3) := by decide +kernel
theorem dX8_layForm_4 : decode cX8_layForm 4 = .ok (.iload_n 1, 1) := by decide +kernel
theorem dX8_layForm_5 : decode cX8_layForm 5 = .ok (.iload_n 2, 1) := by decide +kernel
theorem dX8_layForm_6 : decode cX8_layForm 6 = .ok (.iload_n 3, 1) := by decide +kernel
theorem dX8_layForm_7 : decode cX8_layForm 7 = .ok (.invokevirtual 339, 3) := by decide +kernel
theorem dX8_layForm_10 : decode cX8_layForm 10 = .ok (.istore 4, 2) := by decide +kernel
theorem dX8_layForm_12 : decode cX8_layForm 12 = .ok (.iconst 0, 1) := by decide +kernel
theorem dX8_layForm_13 : decode cX8_layForm 13 = .ok (.istore 5, 2) := by decide +kernel
theorem dX8_layForm_15 : decode cX8_layForm 15 = .ok (.iload 5, 2) := by decide +kernel
theorem dX8_layForm_17 : decode cX8_layForm 17 = .ok (.iload 4, 2) := by decide +kernel
theorem dX8_layForm_19 : decode cX8_layForm 19 = .ok (.if_icmp .ge 28, 3) := by decide +kernel
theorem dX8_layForm_22 : decode cX8_layForm 22 = .ok (.aload_n 0, 1) := by decide +kernel
theorem dX8_layForm_23 : decode cX8_layForm 23 = .ok (.getfield 50, 3) := by decide +kernel
theorem dX8_layForm_26 : decode cX8_layForm 26 = .ok (.aload_n 0, 1) := by decide +kernel
theorem dX8_layForm_27 : decode cX8_layForm 27 = .ok (.getfield 21, 3) := by decide +kernel
theorem dX8_layForm_30 : decode cX8_layForm 30 = .ok (.iload_n 1, 1) := by decide +kernel
theorem dX8_layForm_31 : decode cX8_layForm 31 = .ok (.iload_n 2, 1) := by decide +kernel
theorem dX8_layForm_32 : decode cX8_layForm 32 = .ok (.iload_n 3, 1) := by decide +kernel
theorem dX8_layForm_33 : decode cX8_layForm 33 = .ok (.iload 5, 2) := by decide +kernel
theorem dX8_layForm_35 : decode cX8_layForm 35 = .ok (.invokevirtual 343, 3) := by decide +kernel
theorem dX8_layForm_38 : decode cX8_layForm 38 = .ok (.invokevirtual 317, 3) := by decide +kernel
theorem dX8_layForm_41 : decode cX8_layForm 41 = .ok (.iinc 5 1, 3) := by decide +kernel
theorem dX8_layForm_44 : decode cX8_layForm 44 = .ok (.goto (-29), 3) := by decide +kernel
theorem dX8_layForm_47 : decode cX8_layForm 47 = .ok (.return_, 1) := by decide +kernel
theorem dX8_seek_0 : decode cX8_seek 0 = .ok (.iconst 0, 1) := by decide +kernel
theorem dX8_seek_1 : decode cX8_seek 1 = .ok (.istore 4, 2) := by decide +kernel
theorem dX8_seek_3 : decode cX8_seek 3 = .ok (.iconst 0, 1) := by decide +kernel
theorem dX8_seek_4 : decode cX8_seek 4 = .ok (.istore 5, 2) := by decide +kernel
theorem dX8_seek_6 : decode cX8_seek 6 = .ok (.iload 5, 2) := by decide +kernel
theorem dX8_seek_8 : decode cX8_seek 8 = .ok (.aload_n 1, 1) := by decide +kernel
theorem dX8_seek_9 : decode cX8_seek 9 = .ok (.invokevirtual 201, 3) := by decide +kernel
theorem dX8_seek_12 : decode cX8_seek 12 = .ok (.if_icmp .ge 60, 3) := by decide +kernel
theorem dX8_seek_15 : decode cX8_seek 15 = .ok (.aload_n 0, 1) := by decide +kernel
theorem dX8_seek_16 : decode cX8_seek 16 = .ok (.getfield 57, 3) := by decide +kernel
theorem dX8_seek_19 : decode cX8_seek 19 = .ok (.invokevirtual 347, 3) := by decide +kernel
theorem dX8_seek_22 : decode cX8_seek 22 = .ok (.ifCond .ne 50, 3) := by decide +kernel
theorem dX8_seek_25 : decode cX8_seek 25 = .ok (.aload_n 0, 1) := by decide +kernel
theorem dX8_seek_26 : decode cX8_seek 26 = .ok (.aload_n 1, 1) := by decide +kernel
theorem dX8_seek_27 : decode cX8_seek 27 = .ok (.iload 5, 2) := by decide +kernel
theorem dX8_seek_29 : decode cX8_seek 29 = .ok (.aload_n 2, 1) := by decide +kernel
theorem dX8_seek_30 : decode cX8_seek 30 = .ok (.iload_n 3, 1) := by decide +kernel
theorem dX8_seek_31 : decode cX8_seek 31 = .ok (.invokevirtual 312, 3) := by decide +kernel
theorem dX8_seek_34 : decode cX8_seek 34 = .ok (.astore 6, 2) := by decide +kernel
theorem dX8_seek_36 : decode cX8_seek 36 = .ok (.aload 6, 2) := by decide +kernel
theorem dX8_seek_38 : decode cX8_seek 38 = .ok (.ifnull 28, 3) := by decide +kernel
theorem dX8_seek_41 : decode cX8_seek 41 = .ok (.iload 4, 2) := by decide +kernel
theorem dX8_seek_43 : decode cX8_seek 43 = .ok (.ifCond .eq 12, 3) := by decide +kernel
theorem dX8_seek_46 : decode cX8_seek 46 = .ok (.aload_n 0, 1) := by decide +kernel
theorem dX8_seek_47 : decode cX8_seek 47 = .ok (.getfield 57, 3) := by decide +kernel
theorem dX8_seek_50 : decode cX8_seek 50 = .ok (.bipush 32, 2) := by decide +kernel
theorem dX8_seek_52 : decode cX8_seek 52 = .ok (.invokevirtual 350, 3) := by decide +kernel
theorem dX8_seek_55 : decode cX8_seek 55 = .ok (.aload_n 0, 1) := by decide +kernel
theorem dX8_seek_56 : decode cX8_seek 56 = .ok (.aload 6, 2) := by decide +kernel
theorem dX8_seek_58 : decode cX8_seek 58 = .ok (.aload_n 2, 1) := by decide +kernel
theorem dX8_seek_59 : decode cX8_seek 59 = .ok (.iload_n 3, 1) := by decide +kernel
theorem dX8_seek_60 : decode cX8_seek 60 = .ok (.invokevirtual 353, 3) := by decide +kernel
theorem dX8_seek_63 : decode cX8_seek 63 = .ok (.iconst 1, 1) := by decide +kernel
theorem dX8_seek_64 : decode cX8_seek 64 = .ok (.istore 4, 2) := by decide +kernel
theorem dX8_seek_66 : decode cX8_seek 66 = .ok (.iinc 5 1, 3) := by decide +kernel
theorem dX8_seek_69 : decode cX8_seek 69 = .ok (.goto (-63), 3) := by decide +kernel
theorem dX8_seek_72 : decode cX8_seek 72 = .ok (.return_, 1) := by decide +kernel
theorem dX8_seekTemplate_0 : decode cX8_seekTemplate 0 = .ok (.iconst 0, 1) := by decide +kernel
theorem dX8_seekTemplate_1 : decode cX8_seekTemplate 1 = .ok (.istore 4, 2) := by decide +kernel
theorem dX8_seekTemplate_3 : decode cX8_seekTemplate 3 = .ok (.iload 4, 2) := by decide +kernel
theorem dX8_seekTemplate_5 : decode cX8_seekTemplate 5 = .ok (.aload_n 1, 1) := by decide +kernel
theorem dX8_seekTemplate_6 : decode cX8_seekTemplate 6 = .ok (.invokevirtual 325, 3) := by decide +kernel
theorem dX8_seekTemplate_9 : decode cX8_seekTemplate 9 = .ok (.if_icmp .ge 109, 3) := by decide +kernel
theorem dX8_seekTemplate_12 : decode cX8_seekTemplate 12 = .ok (.aload_n 0, 1) := by decide +kernel
theorem dX8_seekTemplate_13 : decode cX8_seekTemplate 13 = .ok (.getfield 57, 3) := by decide +kernel
theorem dX8_seekTemplate_16 : decode cX8_seekTemplate 16 = .ok (.invokevirtual 347, 3) := by decide +kernel
theorem dX8_seekTemplate_19 : decode cX8_seekTemplate 19 = .ok (.ifCond .ne 99, 3) := by decide +kernel
theorem dX8_seekTemplate_22 : decode cX8_seekTemplate 22 = .ok (.aload_n 1, 1) := by decide +kernel
theorem dX8_seekTemplate_23 : decode cX8_seekTemplate 23 = .ok (.iload 4, 2) := by decide +kernel
theorem dX8_seekTemplate_25 : decode cX8_seekTemplate 25 = .ok (.invokevirtual 326, 3) := by decide +kernel
theorem dX8_seekTemplate_28 : decode cX8_seekTemplate 28 = .ok (.ifCond .eq 71, 3) := by decide +kernel
theorem dX8_seekTemplate_31 : decode cX8_seekTemplate 31 = .ok (.aload_n 2, 1) := by decide +kernel
theorem dX8_seekTemplate_32 : decode cX8_seekTemplate 32 = .ok (.aload_n 1, 1) := by decide +kernel
theorem dX8_seekTemplate_33 : decode cX8_seekTemplate 33 = .ok (.iload 4, 2) := by decide +kernel
theorem dX8_seekTemplate_35 : decode cX8_seekTemplate 35 = .ok (.invokevirtual 329, 3) := by decide +kernel
theorem dX8_seekTemplate_38 : decode cX8_seekTemplate 38 = .ok (.invokevirtual 220, 3) := by decide +kernel
theorem dX8_seekTemplate_41 : decode cX8_seekTemplate 41 = .ok (.istore 5, 2) := by decide +kernel
theorem dX8_seekTemplate_43 : decode cX8_seekTemplate 43 = .ok (.aload_n 1, 1) := by decide +kernel
theorem dX8_seekTemplate_44 : decode cX8_seekTemplate 44 = .ok (.iload 4, 2) := by decide +kernel
theorem dX8_seekTemplate_46 : decode cX8_seekTemplate 46 = .ok (.invokevirtual 332, 3) := by decide +kernel
theorem dX8_seekTemplate_49 : decode cX8_seekTemplate 49 = .ok (.istore 6, 2) := by decide +kernel
theorem dX8_seekTemplate_51 : decode cX8_seekTemplate 51 = .ok (.aload_n 0, 1) := by decide +kernel
theorem dX8_seekTemplate_52 : decode cX8_seekTemplate 52 = .ok (.getfield 21, 3) := by decide +kernel
theorem dX8_seekTemplate_55 : decode cX8_seekTemplate 55 = .ok (.iload_n 3, 1) := by decide +kernel
theorem dX8_seekTemplate_56 : decode cX8_seekTemplate 56 = .ok (.iload 5, 2) := by decide +kernel
theorem dX8_seekTemplate_58 : decode cX8_seekTemplate 58 = .ok (.iload 6, 2) := by decide +kernel
theorem dX8_seekTemplate_60 : decode cX8_seekTemplate 60 = .ok (.aload_n 0, 1) := by decide +kernel
theorem dX8_seekTemplate_61 : decode cX8_seekTemplate 61 = .ok (.getfield 57, 3) := by decide +kernel
theorem dX8_seekTemplate_64 : decode cX8_seekTemplate 64 = .ok (.invokevirtual 356, 3) := by decide +kernel
theorem dX8_seekTemplate_67 : decode cX8_seekTemplate 67 = .ok (.invokevirtual 343, 3) := by decide +kernel
theorem dX8_seekTemplate_70 : decode cX8_seekTemplate 70 = .ok (.istore 7, 2) := by decide +kernel
theorem dX8_seekTemplate_72 : decode cX8_seekTemplate 72 = .ok (.aload_n 0, 1) := by decide +kernel
theorem dX8_seekTemplate_73 : decode cX8_seekTemplate 73 = .ok (.getfield 57, 3) := by decide +kernel
theorem dX8_seekTemplate_76 : decode cX8_seekTemplate 76 = .ok (.aload_n 0, 1) := by decide +kernel
theorem dX8_seekTemplate_77 : decode cX8_seekTemplate 77 = .ok (.getfield 21, 3) := by decide +kernel
theorem dX8_seekTemplate_80 : decode cX8_seekTemplate 80 = .ok (.iload_n 3, 1) := by decide +kernel
theorem dX8_seekTemplate_81 : decode cX8_seekTemplate 81 = .ok (.iload 5, 2) := by decide +kernel
theorem dX8_seekTemplate_83 : decode cX8_seekTemplate 83 = .ok (.iload 6, 2) := by decide +kernel
theorem dX8_seekTemplate_85 : decode cX8_seekTemplate 85 = .ok (.invokevirtual 339, 3) := by decide +kernel
theorem dX8_seekTemplate_88 : decode cX8_seekTemplate 88 = .ok (.iload 7, 2) := by decide +kernel
theorem dX8_seekTemplate_90 : decode cX8_seekTemplate 90 = .ok (.invokevirtual 359, 3) := by decide +kernel
theorem dX8_seekTemplate_93 : decode cX8_seekTemplate 93 = .ok (.iinc 4 4, 3) := by decide +kernel
theorem dX8_seekTemplate_96 : decode cX8_seekTemplate 96 = .ok (.goto 16, 3) := by decide +kernel
theorem dX8_seekTemplate_99 : decode cX8_seekTemplate 99 = .ok (.aload_n 0, 1) := by decide +kernel
theorem dX8_seekTemplate_100 : decode cX8_seekTemplate 100 = .ok (.getfield 57, 3) := by decide +kernel
theorem dX8_seekTemplate_103 : decode cX8_seekTemplate 103 = .ok (.aload_n 1, 1) := by decide +kernel
theorem dX8_seekTemplate_104 : decode cX8_seekTemplate 104 = .ok (.iload 4, 2) := by decide +kernel
theorem dX8_seekTemplate_106 : decode cX8_seekTemplate 106 = .ok (.invokevirtual 338, 3) := by decide +kernel
theorem dX8_seekTemplate_109 : decode cX8_seekTemplate 109 = .ok (.invokevirtual 350, 3) := by decide +kernel
theorem dX8_seekTemplate_112 : decode cX8_seekTemplate 112 = .ok (.iinc 4 1, 3) := by decide +kernel
theorem dX8_seekTemplate_115 : decode cX8_seekTemplate 115 = .ok (.goto (-112), 3) := by decide +kernel
theorem dX8_seekTemplate_118 : decode cX8_seekTemplate 118 = .ok (.return_, 1) := by decide +kernel
theorem dX8_mostBranches_0 : decode cX8_mostBranches 0 = .ok (.iconst (-1), 1) := by decide +kernel
theorem dX8_mostBranches_1 : decode cX8_mostBranches 1 = .ok (.istore_n 3, 1) := by decide +kernel
theorem dX8_mostBranches_2 : decode cX8_mostBranches 2 = .ok (.iconst 0, 1) := by decide +kernel
theorem dX8_mostBranches_3 : decode cX8_mostBranches 3 = .ok (.istore 4, 2) := by decide +kernel
theorem dX8_mostBranches_5 : decode cX8_mostBranches 5 = .ok (.iconst 0, 1) := by decide +kernel
theorem dX8_mostBranches_6 : decode cX8_mostBranches 6 = .ok (.istore 5, 2) := by decide +kernel
theorem dX8_mostBranches_8 : decode cX8_mostBranches 8 = .ok (.iload 5, 2) := by decide +kernel
theorem dX8_mostBranches_10 : decode cX8_mostBranches 10 = .ok (.aload_n 0, 1) := by decide +kernel
theorem dX8_mostBranches_11 : decode cX8_mostBranches 11 = .ok (.getfield 206, 3) := by decide +kernel
theorem dX8_mostBranches_14 : decode cX8_mostBranches 14 = .ok (.if_icmp .ge 43, 3) := by decide +kernel
theorem dX8_mostBranches_17 : decode cX8_mostBranches 17 = .ok (.aload_n 0, 1) := by decide +kernel
theorem dX8_mostBranches_18 : decode cX8_mostBranches 18 = .ok (.aload_n 1, 1) := by decide +kernel
theorem dX8_mostBranches_19 : decode cX8_mostBranches 19 = .ok (.aload_n 0, 1) := by decide +kernel
theorem dX8_mostBranches_20 : decode cX8_mostBranches 20 = .ok (.iload 5, 2) := by decide +kernel
theorem dX8_mostBranches_22 : decode cX8_mostBranches 22 = .ok (.invokevirtual 214, 3) := by decide +kernel
theorem dX8_mostBranches_25 : decode cX8_mostBranches 25 = .ok (.invokevirtual 274, 3) := by decide +kernel
theorem dX8_mostBranches_28 : decode cX8_mostBranches 28 = .ok (.iload_n 2, 1) := by decide +kernel
theorem dX8_mostBranches_29 : decode cX8_mostBranches 29 = .ok (.iconst (-1), 1) := by decide +kernel
theorem dX8_mostBranches_30 : decode cX8_mostBranches 30 = .ok (.ixor, 1) := by decide +kernel
theorem dX8_mostBranches_31 : decode cX8_mostBranches 31 = .ok (.iand, 1) := by decide +kernel
theorem dX8_mostBranches_32 : decode cX8_mostBranches 32 = .ok (.invokestatic 363, 3) := by decide +kernel
theorem dX8_mostBranches_35 : decode cX8_mostBranches 35 = .ok (.istore 6, 2) := by decide +kernel
theorem dX8_mostBranches_37 : decode cX8_mostBranches 37 = .ok (.iload 6, 2) := by decide +kernel
theorem dX8_mostBranches_39 : decode cX8_mostBranches 39 = .ok (.iload 4, 2) := by decide +kernel
theorem dX8_mostBranches_41 : decode cX8_mostBranches 41 = .ok (.if_icmp .le 10, 3) := by decide +kernel
theorem dX8_mostBranches_44 : decode cX8_mostBranches 44 = .ok (.iload 5, 2) := by decide +kernel
theorem dX8_mostBranches_46 : decode cX8_mostBranches 46 = .ok (.istore_n 3, 1) := by decide +kernel
theorem dX8_mostBranches_47 : decode cX8_mostBranches 47 = .ok (.iload 6, 2) := by decide +kernel
theorem dX8_mostBranches_49 : decode cX8_mostBranches 49 = .ok (.istore 4, 2) := by decide +kernel
theorem dX8_mostBranches_51 : decode cX8_mostBranches 51 = .ok (.iinc 5 1, 3) := by decide +kernel
theorem dX8_mostBranches_54 : decode cX8_mostBranches 54 = .ok (.goto (-46), 3) := by decide +kernel
theorem dX8_mostBranches_57 : decode cX8_mostBranches 57 = .ok (.iload_n 3, 1) := by decide +kernel
theorem dX8_mostBranches_58 : decode cX8_mostBranches 58 = .ok (.ireturn, 1) := by decide +kernel
theorem dX8_branches_0 : decode cX8_branches 0 = .ok (.iconst 0, 1) := by decide +kernel
theorem dX8_branches_1 : decode cX8_branches 1 = .ok (.istore_n 3, 1) := by decide +kernel
theorem dX8_branches_2 : decode cX8_branches 2 = .ok (.iconst 0, 1) := by decide +kernel
theorem dX8_branches_3 : decode cX8_branches 3 = .ok (.istore 4, 2) := by decide +kernel
theorem dX8_branches_5 : decode cX8_branches 5 = .ok (.aload_n 2, 1) := by decide +kernel
theorem dX8_branches_6 : decode cX8_branches 6 = .ok (.ifnull 71, 3) := by decide +kernel
theorem dX8_branches_9 : decode cX8_branches 9 = .ok (.iload 4, 2) := by decide +kernel
theorem dX8_branches_11 : decode cX8_branches 11 = .ok (.aload_n 1, 1) := by decide +kernel
theorem dX8_branches_12 : decode cX8_branches 12 = .ok (.invokevirtual 201, 3) := by decide +kernel
theorem dX8_branches_15 : decode cX8_branches 15 = .ok (.if_icmp .ge 62, 3) := by decide +kernel
theorem dX8_branches_18 : decode cX8_branches 18 = .ok (.aload_n 0, 1) := by decide +kernel
theorem dX8_branches_19 : decode cX8_branches 19 = .ok (.aload_n 1, 1) := by decide +kernel
theorem dX8_branches_20 : decode cX8_branches 20 = .ok (.iload 4, 2) := by decide +kernel
theorem dX8_branches_22 : decode cX8_branches 22 = .ok (.invokevirtual 235, 3) := by decide +kernel
theorem dX8_branches_25 : decode cX8_branches 25 = .ok (.invokevirtual 163, 3) := by decide +kernel
theorem dX8_branches_28 : decode cX8_branches 28 = .ok (.astore 5, 2) := by decide +kernel
theorem dX8_branches_30 : decode cX8_branches 30 = .ok (.aload 5, 2) := by decide +kernel
theorem dX8_branches_32 : decode cX8_branches 32 = .ok (.ifnull 39, 3) := by decide +kernel
theorem dX8_branches_35 : decode cX8_branches 35 = .ok (.aload 5, 2) := by decide +kernel
theorem dX8_branches_37 : decode cX8_branches 37 = .ok (.invokevirtual 300, 3) := by decide +kernel
theorem dX8_branches_40 : decode cX8_branches 40 = .ok (.iconst (-1), 1) := by decide +kernel
theorem dX8_branches_41 : decode cX8_branches 41 = .ok (.if_icmp .eq 30, 3) := by decide +kernel
theorem dX8_branches_44 : decode cX8_branches 44 = .ok (.iload_n 3, 1) := by decide +kernel
theorem dX8_branches_45 : decode cX8_branches 45 = .ok (.iconst 1, 1) := by decide +kernel
theorem dX8_branches_46 : decode cX8_branches 46 = .ok (.iconst 2, 1) := by decide +kernel
theorem dX8_branches_47 : decode cX8_branches 47 = .ok (.iload 4, 2) := by decide +kernel
theorem dX8_branches_49 : decode cX8_branches 49 = .ok (.imul, 1) := by decide +kernel
theorem dX8_branches_50 : decode cX8_branches 50 = .ok (.aload_n 2, 1) := by decide +kernel
theorem dX8_branches_51 : decode cX8_branches 51 = .ok (.aload 5, 2) := by decide +kernel
theorem dX8_branches_53 : decode cX8_branches 53 = .ok (.invokevirtual 300, 3) := by decide +kernel
theorem dX8_branches_56 : decode cX8_branches 56 = .ok (.invokevirtual 303, 3) := by decide +kernel
theorem dX8_branches_59 : decode cX8_branches 59 = .ok (.ifCond .eq 7, 3) := by decide +kernel
theorem dX8_branches_62 : decode cX8_branches 62 = .ok (.iconst 1, 1) := by decide +kernel
theorem dX8_branches_63 : decode cX8_branches 63 = .ok (.goto 4, 3) := by decide +kernel
theorem dX8_branches_66 : decode cX8_branches 66 = .ok (.iconst 0, 1) := by decide +kernel
theorem dX8_branches_67 : decode cX8_branches 67 = .ok (.iadd, 1) := by decide +kernel
theorem dX8_branches_68 : decode cX8_branches 68 = .ok (.ishl, 1) := by decide +kernel
theorem dX8_branches_69 : decode cX8_branches 69 = .ok (.ior, 1) := by decide +kernel
theorem dX8_branches_70 : decode cX8_branches 70 = .ok (.istore_n 3, 1) := by decide +kernel
theorem dX8_branches_71 : decode cX8_branches 71 = .ok (.iinc 4 1, 3) := by decide +kernel
theorem dX8_branches_74 : decode cX8_branches 74 = .ok (.goto (-69), 3) := by decide +kernel
theorem dX8_branches_77 : decode cX8_branches 77 = .ok (.iload_n 3, 1) := by decide +kernel
theorem dX8_branches_78 : decode cX8_branches 78 = .ok (.ireturn, 1) := by decide +kernel
theorem dX9_init_0 : decode cX9_init 0 = .ok (.aload_n 0, 1) := by decide +kernel
theorem dX9_init_1 : decode cX9_init 1 = .ok (.invokespecial 1, 3) := by decide +kernel
theorem dX9_init_4 : decode cX9_init 4 = .ok (.aload_n 0, 1) := by decide +kernel
theorem dX9_init_5 : decode cX9_init 5 = .ok (.bipush 60, 2) := by decide +kernel
theorem dX9_init_7 : decode cX9_init 7 = .ok (.newarray .char, 2) := by decide +kernel
theorem dX9_init_9 : decode cX9_init 9 = .ok (.putfield 7, 3) := by decide +kernel
theorem dX9_init_12 : decode cX9_init 12 = .ok (.aload_n 0, 1) := by decide +kernel
theorem dX9_init_13 : decode cX9_init 13 = .ok (.bipush 120, 2) := by decide +kernel
theorem dX9_init_15 : decode cX9_init 15 = .ok (.newarray .char, 2) := by decide +kernel
theorem dX9_init_17 : decode cX9_init 17 = .ok (.putfield 13, 3) := by decide +kernel
theorem dX9_init_20 : decode cX9_init 20 = .ok (.aload_n 0, 1) := by decide +kernel
theorem dX9_init_21 : decode cX9_init 21 = .ok (.bipush 12, 2) := by decide +kernel
theorem dX9_init_23 : decode cX9_init 23 = .ok (.newarray .int, 2) := by decide +kernel
theorem dX9_init_25 : decode cX9_init 25 = .ok (.putfield 16, 3) := by decide +kernel
theorem dX9_init_28 : decode cX9_init 28 = .ok (.aload_n 0, 1) := by decide +kernel
theorem dX9_init_29 : decode cX9_init 29 = .ok (.bipush 96, 2) := by decide +kernel
theorem dX9_init_31 : decode cX9_init 31 = .ok (.newarray .char, 2) := by decide +kernel
theorem dX9_init_33 : decode cX9_init 33 = .ok (.putfield 20, 3) := by decide +kernel
theorem dX9_init_36 : decode cX9_init 36 = .ok (.aload_n 0, 1) := by decide +kernel
theorem dX9_init_37 : decode cX9_init 37 = .ok (.bipush 24, 2) := by decide +kernel
theorem dX9_init_39 : decode cX9_init 39 = .ok (.newarray .int, 2) := by decide +kernel
theorem dX9_init_41 : decode cX9_init 41 = .ok (.putfield 23, 3) := by decide +kernel
theorem dX9_init_44 : decode cX9_init 44 = .ok (.aload_n 0, 1) := by decide +kernel
theorem dX9_init_45 : decode cX9_init 45 = .ok (.sipush 2880, 3) := by decide +kernel
theorem dX9_init_48 : decode cX9_init 48 = .ok (.newarray .char, 2) := by decide +kernel
theorem dX9_init_50 : decode cX9_init 50 = .ok (.putfield 26, 3) := by decide +kernel
theorem dX9_init_53 : decode cX9_init 53 = .ok (.aload_n 0, 1) := by decide +kernel
theorem dX9_init_54 : decode cX9_init 54 = .ok (.sipush 288, 3) := by decide +kernel
theorem dX9_init_57 : decode cX9_init 57 = .ok (.newarray .int, 2) := by decide +kernel
theorem dX9_init_59 : decode cX9_init 59 = .ok (.putfield 29, 3) := by decide +kernel
theorem dX9_init_62 : decode cX9_init 62 = .ok (.aload_n 0, 1) := by decide +kernel
theorem dX9_init_63 : decode cX9_init 63 = .ok (.bipush 10, 2) := by decide +kernel
theorem dX9_init_65 : decode cX9_init 65 = .ok (.newarray .int, 2) := by decide +kernel
theorem dX9_init_67 : decode cX9_init 67 = .ok (.putfield 32, 3) := by decide +kernel
theorem dX9_init_70 : decode cX9_init 70 = .ok (.aload_n 0, 1) := by decide +kernel
theorem dX9_init_71 : decode cX9_init 71 = .ok (.sipush 1800, 3) := by decide +kernel
theorem dX9_init_74 : decode cX9_init 74 = .ok (.newarray .char, 2) := by decide +kernel
theorem dX9_init_76 : decode cX9_init 76 = .ok (.putfield 35, 3) := by decide +kernel
theorem dX9_init_79 : decode cX9_init 79 = .ok (.aload_n 0, 1) := by decide +kernel
theorem dX9_init_80 : decode cX9_init 80 = .ok (.bipush 30, 2) := by decide +kernel
theorem dX9_init_82 : decode cX9_init 82 = .ok (.newarray .int, 2) := by decide +kernel
theorem dX9_init_84 : decode cX9_init 84 = .ok (.putfield 38, 3) := by decide +kernel
theorem dX9_init_87 : decode cX9_init 87 = .ok (.aload_n 0, 1) := by decide +kernel
theorem dX9_init_88 : decode cX9_init 88 = .ok (.bipush 30, 2) := by decide +kernel
theorem dX9_init_90 : decode cX9_init 90 = .ok (.newarray .boolean, 2) := by decide +kernel
theorem dX9_init_92 : decode cX9_init 92 = .ok (.putfield 41, 3) := by decide +kernel
theorem dX9_init_95 : decode cX9_init 95 = .ok (.aload_n 0, 1) := by decide +kernel
theorem dX9_init_96 : decode cX9_init 96 = .ok (.sipush 400, 3) := by decide +kernel
theorem dX9_init_99 : decode cX9_init 99 = .ok (.newarray .int, 2) := by decide +kernel
theorem dX9_init_101 : decode cX9_init 101 = .ok (.putfield 45, 3) := by decide +kernel
theorem dX9_init_104 : decode cX9_init 104 = .ok (.aload_n 0, 1) := by decide +kernel
theorem dX9_init_105 : decode cX9_init 105 = .ok (.bipush 36, 2) := by decide +kernel
theorem dX9_init_107 : decode cX9_init 107 = .ok (.newarray .int, 2) := by decide +kernel
theorem dX9_init_109 : decode cX9_init 109 = .ok (.putfield 48, 3) := by decide +kernel
theorem dX9_init_112 : decode cX9_init 112 = .ok (.aload_n 0, 1) := by decide +kernel
theorem dX9_init_113 : decode cX9_init 113 = .ok (.bipush 6, 2) := by decide +kernel
theorem dX9_init_115 : decode cX9_init 115 = .ok (.newarray .int, 2) := by decide +kernel
theorem dX9_init_117 : decode cX9_init 117 = .ok (.putfield 51, 3) := by decide +kernel
theorem dX9_init_120 : decode cX9_init 120 = .ok (.aload_n 0, 1) := by decide +kernel
theorem dX9_init_121 : decode cX9_init 121 = .ok (.bipush 40, 2) := by decide +kernel
theorem dX9_init_123 : decode cX9_init 123 = .ok (.newarray .int, 2) := by decide +kernel
theorem dX9_init_125 : decode cX9_init 125 = .ok (.putfield 54, 3) := by decide +kernel
theorem dX9_init_128 : decode cX9_init 128 = .ok (.aload_n 0, 1) := by decide +kernel
theorem dX9_init_129 : decode cX9_init 129 = .ok (.bipush 8, 2) := by decide +kernel
theorem dX9_init_131 : decode cX9_init 131 = .ok (.newarray .int, 2) := by decide +kernel
theorem dX9_init_133 : decode cX9_init 133 = .ok (.putfield 57, 3) := by decide +kernel
theorem dX9_init_136 : decode cX9_init 136 = .ok (.aload_n 0, 1) := by decide +kernel
theorem dX9_init_137 : decode cX9_init 137 = .ok (.iconst 3, 1) := by decide +kernel
theorem dX9_init_138 : decode cX9_init 138 = .ok (.newarray .int, 2) := by decide +kernel
theorem dX9_init_140 : decode cX9_init 140 = .ok (.putfield 60, 3) := by decide +kernel
theorem dX9_init_143 : decode cX9_init 143 = .ok (.aload_n 0, 1) := by decide +kernel
theorem dX9_init_144 : decode cX9_init 144 = .ok (.sipush 1100, 3) := by decide +kernel
theorem dX9_init_147 : decode cX9_init 147 = .ok (.newarray .char, 2) := by decide +kernel
theorem dX9_init_149 : decode cX9_init 149 = .ok (.putfield 63, 3) := by decide +kernel
theorem dX9_init_152 : decode cX9_init 152 = .ok (.aload_n 0, 1) := by decide +kernel
theorem dX9_init_153 : decode cX9_init 153 = .ok (.bipush 20, 2) := by decide +kernel
theorem dX9_init_155 : decode cX9_init 155 = .ok (.newarray .boolean, 2) := by decide +kernel
theorem dX9_init_157 : decode cX9_init 157 = .ok (.putfield 66, 3) := by decide +kernel
theorem dX9_init_160 : decode cX9_init 160 = .ok (.iconst 0, 1) := by decide +kernel
theorem dX9_init_161 : decode cX9_init 161 = .ok (.istore_n 1, 1) := by decide +kernel
theorem dX9_init_162 : decode cX9_init 162 = .ok (.iload_n 1, 1) := by decide +kernel
theorem dX9_init_163 : decode cX9_init 163 = .ok (.iconst 3, 1) := by decide +kernel
theorem dX9_init_164 : decode cX9_init 164 = .ok (.if_icmp .ge 16, 3) := by decide +kernel
theorem dX9_init_167 : decode cX9_init 167 = .ok (.aload_n 0, 1) := by decide +kernel
theorem dX9_init_168 : decode cX9_init 168 = .ok (.getfield 60, 3) := by decide +kernel
theorem dX9_init_171 : decode cX9_init 171 = .ok (.iload_n 1, 1) := by decide +kernel
theorem dX9_init_172 : decode cX9_init 172 = .ok (.iconst 1, 1) := by decide +kernel
theorem dX9_init_173 : decode cX9_init 173 = .ok (.iastore, 1) := by decide +kernel
theorem dX9_init_174 : decode cX9_init 174 = .ok (.iinc 1 1, 3) := by decide +kernel
theorem dX9_init_177 : decode cX9_init 177 = .ok (.goto (-15), 3) := by decide +kernel
theorem dX9_init_180 : decode cX9_init 180 = .ok (.return_, 1) := by decide +kernel
theorem dX9_thrown_0 : decode cX9_thrown 0 = .ok (.aload_n 0, 1) := by decide +kernel
theorem dX9_thrown_1 : decode cX9_thrown 1 = .ok (.getfield 69, 3) := by decide +kernel
theorem dX9_thrown_4 : decode cX9_thrown 4 = .ok (.ireturn, 1) := by decide +kernel
theorem dX9_goes_0 : decode cX9_goes 0 = .ok (.aload_n 0, 1) := by decide +kernel
theorem dX9_goes_1 : decode cX9_goes 1 = .ok (.iload_n 1, 1) := by decide +kernel
theorem dX9_goes_2 : decode cX9_goes 2 = .ok (.putfield 69, 3) := by decide +kernel
theorem dX9_goes_5 : decode cX9_goes 5 = .ok (.iload_n 1, 1) := by decide +kernel
theorem dX9_goes_6 : decode cX9_goes 6 = .ok (.ifCond .ne 7, 3) := by decide +kernel
theorem dX9_goes_9 : decode cX9_goes 9 = .ok (.iconst 1, 1) := by decide +kernel
theorem dX9_goes_10 : decode cX9_goes 10 = .ok (.goto 4, 3) := by decide +kernel
theorem dX9_goes_13 : decode cX9_goes 13 = .ok (.iconst 0, 1) := by decide +kernel
theorem dX9_goes_14 : decode cX9_goes 14 = .ok (.ireturn, 1) := by decide +kernel
theorem dX9_isIn_0 : decode cX9_isIn 0 = .ok (.iload_n 0, 1) := by decide +kernel
theorem dX9_isIn_1 : decode cX9_isIn 1 = .ok (.iload_n 1, 1) := by decide +kernel
theorem dX9_isIn_2 : decode cX9_isIn 2 = .ok (.if_icmp .lt 12, 3) := by decide +kernel
theorem dX9_isIn_5 : decode cX9_isIn 5 = .ok (.iload_n 0, 1) := by decide +kernel
theorem dX9_isIn_6 : decode cX9_isIn 6 = .ok (.iload_n 2, 1) := by decide +kernel
theorem dX9_isIn_7 : decode cX9_isIn 7 = .ok (.if_icmp .gt 7, 3) := by decide +kernel
theorem dX9_isIn_10 : decode cX9_isIn 10 = .ok (.iconst 1, 1) := by decide +kernel
theorem dX9_isIn_11 : decode cX9_isIn 11 = .ok (.goto 4, 3) := by decide +kernel
theorem dX9_isIn_14 : decode cX9_isIn 14 = .ok (.iconst 0, 1) := by decide +kernel
theorem dX9_isIn_15 : decode cX9_isIn 15 = .ok (.ireturn, 1) := by decide +kernel
theorem dX9_isLanguage_0 : decode cX9_isLanguage 0 = .ok (.iload_n 0, 1) := by decide +kernel
theorem dX9_isLanguage_1 : decode cX9_isLanguage 1 = .ok (.iconst 0, 1) := by decide +kernel
theorem dX9_isLanguage_2 : decode cX9_isLanguage 2 = .ok (.iconst 2, 1) := by decide +kernel
theorem dX9_isLanguage_3 : decode cX9_isLanguage 3 = .ok (.invokestatic 73, 3) := by decide +kernel
theorem dX9_isLanguage_6 : decode cX9_isLanguage 6 = .ok (.ireturn, 1) := by decide +kernel
theorem dX9_isWord_0 : decode cX9_isWord 0 = .ok (.iload_n 1, 1) := by decide +kernel
theorem dX9_isWord_1 : decode cX9_isWord 1 = .ok (.iconst 0, 1) := by decide +kernel
theorem dX9_isWord_2 : decode cX9_isWord 2 = .ok (.aload_n 0, 1) := by decide +kernel
theorem dX9_isWord_3 : decode cX9_isWord 3 = .ok (.getfield 77, 3) := by decide +kernel
theorem dX9_isWord_6 : decode cX9_isWord 6 = .ok (.iconst 1, 1) := by decide +kernel
theorem dX9_isWord_7 : decode cX9_isWord 7 = .ok (.isub, 1) := by decide +kernel
theorem dX9_isWord_8 : decode cX9_isWord 8 = .ok (.invokestatic 73, 3) := by decide +kernel
theorem dX9_isWord_11 : decode cX9_isWord 11 = .ok (.ireturn, 1) := by decide +kernel
theorem dX9_isClause_0 : decode cX9_isClause 0 = .ok (.iload_n 1, 1) := by decide +kernel
theorem dX9_isClause_1 : decode cX9_isClause 1 = .ok (.iconst 0, 1) := by decide +kernel
theorem dX9_isClause_2 : decode cX9_isClause 2 = .ok (.aload_n 0, 1) := by decide +kernel
theorem dX9_isClause_3 : decode cX9_isClause 3 = .ok (.getfield 80, 3) := by decide +kernel
theorem dX9_isClause_6 : decode cX9_isClause 6 = .ok (.iconst 1, 1) := by decide +kernel
theorem dX9_isClause_7 : decode cX9_isClause 7 = .ok (.isub, 1) := by decide +kernel
theorem dX9_isClause_8 : decode cX9_isClause 8 = .ok (.invokestatic 73, 3) := by decide +kernel
theorem dX9_isClause_11 : decode cX9_isClause 11 = .ok (.ireturn, 1) := by decide +kernel
theorem dX9_isLetter_0 : decode cX9_isLetter 0 = .ok (.iload_n 1, 1) := by decide +kernel
theorem dX9_isLetter_1 : decode cX9_isLetter 1 = .ok (.iconst 0, 1) := by decide +kernel
theorem dX9_isLetter_2 : decode cX9_isLetter 2 = .ok (.aload_n 0, 1) := by decide +kernel
theorem dX9_isLetter_3 : decode cX9_isLetter 3 = .ok (.getfield 83, 3) := by decide +kernel
theorem dX9_isLetter_6 : decode cX9_isLetter 6 = .ok (.iconst 1, 1) := by decide +kernel
theorem dX9_isLetter_7 : decode cX9_isLetter 7 = .ok (.isub, 1) := by decide +kernel
theorem dX9_isLetter_8 : decode cX9_isLetter 8 = .ok (.invokestatic 73, 3) := by decide +kernel
theorem dX9_isLetter_11 : decode cX9_isLetter 11 = .ok (.ireturn, 1) := by decide +kernel
theorem dX9_isData_0 : decode cX9_isData 0 = .ok (.iload_n 1, 1) := by decide +kernel
theorem dX9_isData_1 : decode cX9_isData 1 = .ok (.iconst 0, 1) := by decide +kernel
theorem dX9_isData_2 : decode cX9_isData 2 = .ok (.aload_n 0, 1) := by decide +kernel
theorem dX9_isData_3 : decode cX9_isData 3 = .ok (.getfield 86, 3) := by decide +kernel
theorem dX9_isData_6 : decode cX9_isData 6 = .ok (.iconst 1, 1) := by decide +kernel
theorem dX9_isData_7 : decode cX9_isData 7 = .ok (.isub, 1) := by decide +kernel
theorem dX9_isData_8 : decode cX9_isData 8 = .ok (.invokestatic 73, 3) := by decide +kernel
theorem dX9_isData_11 : decode cX9_isData 11 = .ok (.ireturn, 1) := by decide +kernel
theorem dX9_isSmall_0 : decode cX9_isSmall 0 = .ok (.iload_n 0, 1) := by decide +kernel
theorem dX9_isSmall_1 : decode cX9_isSmall 1 = .ok (.bipush 97, 2) := by decide +kernel
theorem dX9_isSmall_3 : decode cX9_isSmall 3 = .ok (.if_icmp .lt 13, 3) := by decide +kernel
theorem dX9_isSmall_6 : decode cX9_isSmall 6 = .ok (.iload_n 0, 1) := by decide +kernel
theorem dX9_isSmall_7 : decode cX9_isSmall 7 = .ok (.bipush 122, 2) := by decide +kernel
theorem dX9_isSmall_9 : decode cX9_isSmall 9 = .ok (.if_icmp .gt 7, 3) := by decide +kernel
theorem dX9_isSmall_12 : decode cX9_isSmall 12 = .ok (.iconst 1, 1) := by decide +kernel
theorem dX9_isSmall_13 : decode cX9_isSmall 13 = .ok (.goto 4, 3) := by decide +kernel
theorem dX9_isSmall_16 : decode cX9_isSmall 16 = .ok (.iconst 0, 1) := by decide +kernel
theorem dX9_isSmall_17 : decode cX9_isSmall 17 = .ok (.ireturn, 1) := by decide +kernel
theorem dX9_type_0 : decode cX9_type 0 = .ok (.aload_n 0, 1) := by decide +kernel
theorem dX9_type_1 : decode cX9_type 1 = .ok (.aload_n 0, 1) := by decide +kernel
theorem dX9_type_2 : decode cX9_type 2 = .ok (.getfield 89, 3) := by decide +kernel
theorem dX9_type_5 : decode cX9_type 5 = .ok (.bipush 60, 2) := by decide +kernel
theorem dX9_type_7 : decode cX9_type 7 = .ok (.if_icmp .ne 7, 3) := by decide +kernel
theorem dX9_type_10 : decode cX9_type 10 = .ok (.iconst 1, 1) := by decide +kernel
theorem dX9_type_11 : decode cX9_type 11 = .ok (.goto 4, 3) := by decide +kernel
theorem dX9_type_14 : decode cX9_type 14 = .ok (.iconst 0, 1) := by decide +kernel
theorem dX9_type_15 : decode cX9_type 15 = .ok (.invokevirtual 92, 3) := by decide +kernel
theorem dX9_type_18 : decode cX9_type 18 = .ok (.ifCond .ne 5, 3) := by decide +kernel
theorem dX9_type_21 : decode cX9_type 21 = .ok (.iconst 0, 1) := by decide +kernel
theorem dX9_type_22 : decode cX9_type 22 = .ok (.ireturn, 1) := by decide +kernel
theorem dX9_type_23 : decode cX9_type 23 = .ok (.aload_n 0, 1) := by decide +kernel
theorem dX9_type_24 : decode cX9_type 24 = .ok (.getfield 7, 3) := by decide +kernel
theorem dX9_type_27 : decode cX9_type 27 = .ok (.aload_n 0, 1) := by decide +kernel
theorem dX9_type_28 : decode cX9_type 28 = .ok (.getfield 89, 3) := by decide +kernel
theorem dX9_type_31 : decode cX9_type 31 = .ok (.iload_n 1, 1) := by decide +kernel
theorem dX9_type_32 : decode cX9_type 32 = .ok (.castore, 1) := by decide +kernel
theorem dX9_type_33 : decode cX9_type 33 = .ok (.aload_n 0, 1) := by decide +kernel
theorem dX9_type_34 : decode cX9_type 34 = .ok (.dup, 1) := by decide +kernel
theorem dX9_type_35 : decode cX9_type 35 = .ok (.getfield 89, 3) := by decide +kernel
theorem dX9_type_38 : decode cX9_type 38 = .ok (.iconst 1, 1) := by decide +kernel
theorem dX9_type_39 : decode cX9_type 39 = .ok (.iadd, 1) := by decide +kernel
theorem dX9_type_40 : decode cX9_type 40 = .ok (.putfield 89, 3) := by decide +kernel
theorem dX9_type_43 : decode cX9_type 43 = .ok (.aload_n 0, 1) := by decide +kernel
theorem dX9_type_44 : decode cX9_type 44 = .ok (.getfield 89, 3) := by decide +kernel
theorem dX9_type_47 : decode cX9_type 47 = .ok (.ireturn, 1) := by decide +kernel
theorem dX9_clear_0 : decode cX9_clear 0 = .ok (.aload_n 0, 1) := by decide +kernel
theorem dX9_clear_1 : decode cX9_clear 1 = .ok (.iconst 0, 1) := by decide +kernel
theorem dX9_clear_2 : decode cX9_clear 2 = .ok (.putfield 69, 3) := by decide +kernel
theorem dX9_clear_5 : decode cX9_clear 5 = .ok (.aload_n 0, 1) := by decide +kernel
theorem dX9_clear_6 : decode cX9_clear 6 = .ok (.getfield 89, 3) := by decide +kernel
theorem dX9_clear_9 : decode cX9_clear 9 = .ok (.istore_n 1, 1) := by decide +kernel
theorem dX9_clear_10 : decode cX9_clear 10 = .ok (.aload_n 0, 1) := by decide +kernel
theorem dX9_clear_11 : decode cX9_clear 11 = .ok (.iconst 0, 1) := by decide +kernel
theorem dX9_clear_12 : decode cX9_clear 12 = .ok (.putfield 89, 3) := by decide +kernel
theorem dX9_clear_15 : decode cX9_clear 15 = .ok (.iload_n 1, 1) := by decide +kernel
theorem dX9_clear_16 : decode cX9_clear 16 = .ok (.ireturn, 1) := by decide +kernel
theorem dX9_isAll_0 : decode cX9_isAll 0 = .ok (.aload_n 0, 1) := by decide +kernel
theorem dX9_isAll_1 : decode cX9_isAll 1 = .ok (.getfield 89, 3) := by decide +kernel
theorem dX9_isAll_4 : decode cX9_isAll 4 = .ok (.iload_n 1, 1) := by decide +kernel
theorem dX9_isAll_5 : decode cX9_isAll 5 = .ok (.if_icmp .lt 15, 3) := by decide +kernel
theorem dX9_isAll_8 : decode cX9_isAll 8 = .ok (.aload_n 0, 1) := by decide +kernel
theorem dX9_isAll_9 : decode cX9_isAll 9 = .ok (.getfield 89, 3) := by decide +kernel
theorem dX9_isAll_12 : decode cX9_isAll 12 = .ok (.iload_n 2, 1) := by decide +kernel
theorem dX9_isAll_13 : decode cX9_isAll 13 = .ok (.if_icmp .gt 7, 3) := by decide +kernel
theorem dX9_isAll_16 : decode cX9_isAll 16 = .ok (.iconst 1, 1) := by decide +kernel
theorem dX9_isAll_17 : decode cX9_isAll 17 = .ok (.goto 4, 3) := by decide +kernel
theorem dX9_isAll_20 : decode cX9_isAll 20 = .ok (.iconst 0, 1) := by decide +kernel
theorem dX9_isAll_21 : decode cX9_isAll 21 = .ok (.istore_n 3, 1) := by decide +kernel
theorem dX9_isAll_22 : decode cX9_isAll 22 = .ok (.iconst 0, 1) := by decide +kernel
theorem dX9_isAll_23 : decode cX9_isAll 23 = .ok (.istore 4, 2) := by decide +kernel
theorem dX9_isAll_25 : decode cX9_isAll 25 = .ok (.iload 4, 2) := by decide +kernel
theorem dX9_isAll_27 : decode cX9_isAll 27 = .ok (.aload_n 0, 1) := by decide +kernel
theorem dX9_isAll_28 : decode cX9_isAll 28 = .ok (.getfield 89, 3) := by decide +kernel
theorem dX9_isAll_31 : decode cX9_isAll 31 = .ok (.if_icmp .ge 32, 3) := by decide +kernel
theorem dX9_isAll_34 : decode cX9_isAll 34 = .ok (.iload_n 3, 1) := by decide +kernel
theorem dX9_isAll_35 : decode cX9_isAll 35 = .ok (.ifCond .eq 20, 3) := by decide +kernel
theorem dX9_isAll_38 : decode cX9_isAll 38 = .ok (.aload_n 0, 1) := by decide +kernel
theorem dX9_isAll_39 : decode cX9_isAll 39 = .ok (.getfield 7, 3) := by decide +kernel
theorem dX9_isAll_42 : decode cX9_isAll 42 = .ok (.iload 4, 2) := by decide +kernel
theorem dX9_isAll_44 : decode cX9_isAll 44 = .ok (.caload, 1) := by decide +kernel
theorem dX9_isAll_45 : decode cX9_isAll 45 = .ok (.invokestatic 96, 3) := by decide +kernel
theorem dX9_isAll_48 : decode cX9_isAll 48 = .ok (.ifCond .eq 7, 3) := by decide +kernel
theorem dX9_isAll_51 : decode cX9_isAll 51 = .ok (.iconst 1, 1) := by decide +kernel
theorem dX9_isAll_52 : decode cX9_isAll 52 = .ok (.goto 4, 3) := by decide +kernel
theorem dX9_isAll_55 : decode cX9_isAll 55 = .ok (.iconst 0, 1) := by decide +kernel
theorem dX9_isAll_56 : decode cX9_isAll 56 = .ok (.istore_n 3, 1) := by decide +kernel
theorem dX9_isAll_57 : decode cX9_isAll 57 = .ok (.iinc 4 1, 3) := by decide +kernel
theorem dX9_isAll_60 : decode cX9_isAll 60 = .ok (.goto (-35), 3) := by decide +kernel
theorem dX9_isAll_63 : decode cX9_isAll 63 = .ok (.iload_n 3, 1) := by decide +kernel
theorem dX9_isAll_64 : decode cX9_isAll 64 = .ok (.ireturn, 1) := by decide +kernel
theorem dX9_takes_0 : decode cX9_takes 0 = .ok (.iconst 0, 1) := by decide +kernel
theorem dX9_takes_1 : decode cX9_takes 1 = .ok (.istore_n 3, 1) := by decide +kernel
theorem dX9_takes_2 : decode cX9_takes 2 = .ok (.iload_n 3, 1) := by decide +kernel
theorem dX9_takes_3 : decode cX9_takes 3 = .ok (.aload_n 0, 1) := by decide +kernel
theorem dX9_takes_4 : decode cX9_takes 4 = .ok (.getfield 89, 3) := by decide +kernel
theorem dX9_takes_7 : decode cX9_takes 7 = .ok (.if_icmp .ge 20, 3) := by decide +kernel
theorem dX9_takes_10 : decode cX9_takes 10 = .ok (.aload_n 1, 1) := by decide +kernel
theorem dX9_takes_11 : decode cX9_takes 11 = .ok (.iload_n 2, 1) := by decide +kernel
theorem dX9_takes_12 : decode cX9_takes 12 = .ok (.iload_n 3, 1) := by decide +kernel
theorem dX9_takes_13 : decode cX9_takes 13 = .ok (.iadd, 1) := by decide +kernel
theorem dX9_takes_14 : decode cX9_takes 14 = .ok (.aload_n 0, 1) := by decide +kernel
theorem dX9_takes_15 : decode cX9_takes 15 = .ok (.getfield 7, 3) := by decide +kernel
theorem dX9_takes_18 : decode cX9_takes 18 = .ok (.iload_n 3, 1) := by decide +kernel
theorem dX9_takes_19 : decode cX9_takes 19 = .ok (.caload, 1) := by decide +kernel
theorem dX9_takes_20 : decode cX9_takes 20 = .ok (.castore, 1) := by decide +kernel
theorem dX9_takes_21 : decode cX9_takes 21 = .ok (.iinc 3 1, 3) := by decide +kernel
theorem dX9_takes_24 : decode cX9_takes 24 = .ok (.goto (-22), 3) := by decide +kernel
theorem dX9_takes_27 : decode cX9_takes 27 = .ok (.aload_n 0, 1) := by decide +kernel
theorem dX9_takes_28 : decode cX9_takes 28 = .ok (.getfield 89, 3) := by decide +kernel
theorem dX9_takes_31 : decode cX9_takes 31 = .ok (.istore_n 3, 1) := by decide +kernel
theorem dX9_takes_32 : decode cX9_takes 32 = .ok (.aload_n 0, 1) := by decide +kernel
theorem dX9_takes_33 : decode cX9_takes 33 = .ok (.iconst 0, 1) := by decide +kernel
theorem dX9_takes_34 : decode cX9_takes 34 = .ok (.putfield 89, 3) := by decide +kernel
theorem dX9_takes_37 : decode cX9_takes 37 = .ok (.iload_n 3, 1) := by decide +kernel
theorem dX9_takes_38 : decode cX9_takes 38 = .ok (.ireturn, 1) := by decide +kernel
theorem dX9_word_0 : decode cX9_word 0 = .ok (.aload_n 0, 1) := by decide +kernel
theorem dX9_word_1 : decode cX9_word 1 = .ok (.aload_n 0, 1) := by decide +kernel
theorem dX9_word_2 : decode cX9_word 2 = .ok (.iconst 1, 1) := by decide +kernel
theorem dX9_word_3 : decode cX9_word 3 = .ok (.bipush 10, 2) := by decide +kernel
theorem dX9_word_5 : decode cX9_word 5 = .ok (.invokevirtual 100, 3) := by decide +kernel
theorem dX9_word_8 : decode cX9_word 8 = .ok (.ifCond .eq 16, 3) := by decide +kernel
theorem dX9_word_11 : decode cX9_word 11 = .ok (.aload_n 0, 1) := by decide +kernel
theorem dX9_word_12 : decode cX9_word 12 = .ok (.getfield 77, 3) := by decide +kernel
theorem dX9_word_15 : decode cX9_word 15 = .ok (.bipush 12, 2) := by decide +kernel
theorem dX9_word_17 : decode cX9_word 17 = .ok (.if_icmp .ge 7, 3) := by decide +kernel
theorem dX9_word_20 : decode cX9_word 20 = .ok (.iconst 0, 1) := by decide +kernel
theorem dX9_word_21 : decode cX9_word 21 = .ok (.goto 4, 3) := by decide +kernel
theorem dX9_word_24 : decode cX9_word 24 = .ok (.iconst 1, 1) := by decide +kernel
theorem dX9_word_25 : decode cX9_word 25 = .ok (.invokevirtual 92, 3) := by decide +kernel
theorem dX9_word_28 : decode cX9_word 28 = .ok (.ifCond .ne 5, 3) := by decide +kernel
theorem dX9_word_31 : decode cX9_word 31 = .ok (.iconst 0, 1) := by decide +kernel
theorem dX9_word_32 : decode cX9_word 32 = .ok (.ireturn, 1) := by decide +kernel
theorem dX9_word_33 : decode cX9_word 33 = .ok (.aload_n 0, 1) := by decide +kernel
theorem dX9_word_34 : decode cX9_word 34 = .ok (.getfield 16, 3) := by decide +kernel
theorem dX9_word_37 : decode cX9_word 37 = .ok (.aload_n 0, 1) := by decide +kernel
theorem dX9_word_38 : decode cX9_word 38 = .ok (.getfield 77, 3) := by decide +kernel
theorem dX9_word_41 : decode cX9_word 41 = .ok (.aload_n 0, 1) := by decide +kernel
theorem dX9_word_42 : decode cX9_word 42 = .ok (.aload_n 0, 1) := by decide +kernel
theorem dX9_word_43 : decode cX9_word 43 = .ok (.getfield 13, 3) := by decide +kernel
theorem dX9_word_46 : decode cX9_word 46 = .ok (.bipush 10, 2) := by decide +kernel
theorem dX9_word_48 : decode cX9_word 48 = .ok (.aload_n 0, 1) := by decide +kernel
theorem dX9_word_49 : decode cX9_word 49 = .ok (.getfield 77, 3) := by decide +kernel
theorem dX9_word_52 : decode cX9_word 52 = .ok (.imul, 1) := by decide +kernel
theorem dX9_word_53 : decode cX9_word 53 = .ok (.invokevirtual 104, 3) := by decide +kernel
theorem dX9_word_56 : decode cX9_word 56 = .ok (.iastore, 1) := by decide +kernel
theorem dX9_word_57 : decode cX9_word 57 = .ok (.aload_n 0, 1) := by decide +kernel
theorem dX9_word_58 : decode cX9_word 58 = .ok (.dup, 1) := by decide +kernel
theorem dX9_word_59 : decode cX9_word 59 = .ok (.getfield 77, 3) := by decide +kernel
theorem dX9_word_62 : decode cX9_word 62 = .ok (.iconst 1, 1) := by decide +kernel
theorem dX9_word_63 : decode cX9_word 63 = .ok (.iadd, 1) := by decide +kernel
theorem dX9_word_64 : decode cX9_word 64 = .ok (.putfield 77, 3) := by decide +kernel
theorem dX9_word_67 : decode cX9_word 67 = .ok (.aload_n 0, 1) := by decide +kernel
theorem dX9_word_68 : decode cX9_word 68 = .ok (.getfield 77, 3) := by decide +kernel
theorem dX9_word_71 : decode cX9_word 71 = .ok (.iconst 1, 1) := by decide +kernel
theorem dX9_word_72 : decode cX9_word 72 = .ok (.isub, 1) := by decide +kernel
theorem dX9_word_73 : decode cX9_word 73 = .ok (.ireturn, 1) := by decide +kernel
theorem dX9_form_0 : decode cX9_form 0 = .ok (.iload_n 1, 1) := by decide +kernel
theorem dX9_form_1 : decode cX9_form 1 = .ok (.invokestatic 108, 3) := by decide +kernel
theorem dX9_form_4 : decode cX9_form 4 = .ok (.ifCond .eq 20, 3) := by decide +kernel
theorem dX9_form_7 : decode cX9_form 7 = .ok (.iload_n 2, 1) := by decide +kernel
theorem dX9_form_8 : decode cX9_form 8 = .ok (.iconst (-1), 1) := by decide +kernel
theorem dX9_form_9 : decode cX9_form 9 = .ok (.if_icmp .eq 11, 3) := by decide +kernel
theorem dX9_form_12 : decode cX9_form 12 = .ok (.aload_n 0, 1) := by decide +kernel
theorem dX9_form_13 : decode cX9_form 13 = .ok (.iload_n 2, 1) := by decide +kernel
theorem dX9_form_14 : decode cX9_form 14 = .ok (.invokevirtual 111, 3) := by decide +kernel
theorem dX9_form_17 : decode cX9_form 17 = .ok (.ifCond .eq 7, 3) := by decide +kernel
theorem dX9_form_20 : decode cX9_form 20 = .ok (.iconst 1, 1) := by decide +kernel
theorem dX9_form_21 : decode cX9_form 21 = .ok (.goto 4, 3) := by decide +kernel
theorem dX9_form_24 : decode cX9_form 24 = .ok (.iconst 0, 1) := by decide +kernel
theorem dX9_form_25 : decode cX9_form 25 = .ok (.istore 4, 2) := by decide +kernel
theorem dX9_form_27 : decode cX9_form 27 = .ok (.iload_n 2, 1) := by decide +kernel
theorem dX9_form_28 : decode cX9_form 28 = .ok (.iconst (-1), 1) := by decide +kernel
theorem dX9_form_29 : decode cX9_form 29 = .ok (.if_icmp .ne 12, 3) := by decide +kernel
theorem dX9_form_32 : decode cX9_form 32 = .ok (.aload_n 0, 1) := by decide +kernel
theorem dX9_form_33 : decode cX9_form 33 = .ok (.iconst 0, 1) := by decide +kernel
theorem dX9_form_34 : decode cX9_form 34 = .ok (.iconst 4, 1) := by decide +kernel
theorem dX9_form_35 : decode cX9_form 35 = .ok (.invokevirtual 100, 3) := by decide +kernel
theorem dX9_form_38 : decode cX9_form 38 = .ok (.goto 10, 3) := by decide +kernel
theorem dX9_form_41 : decode cX9_form 41 = .ok (.aload_n 0, 1) := by decide +kernel
theorem dX9_form_42 : decode cX9_form 42 = .ok (.iconst 1, 1) := by decide +kernel
theorem dX9_form_43 : decode cX9_form 43 = .ok (.bipush 10, 2) := by decide +kernel
theorem dX9_form_45 : decode cX9_form 45 = .ok (.invokevirtual 100, 3) := by decide +kernel
theorem dX9_form_48 : decode cX9_form 48 = .ok (.istore 5, 2) := by decide +kernel
theorem dX9_form_50 : decode cX9_form 50 = .ok (.aload_n 0, 1) := by decide +kernel
theorem dX9_form_51 : decode cX9_form 51 = .ok (.iload 4, 2) := by decide +kernel
theorem dX9_form_53 : decode cX9_form 53 = .ok (.ifCond .ne 7, 3) := by decide +kernel
theorem dX9_form_56 : decode cX9_form 56 = .ok (.iconst 1, 1) := by decide +kernel
theorem dX9_form_57 : decode cX9_form 57 = .ok (.goto 27, 3) := by decide +kernel
theorem dX9_form_60 : decode cX9_form 60 = .ok (.iload_n 3, 1) := by decide +kernel
theorem dX9_form_61 : decode cX9_form 61 = .ok (.iconst 0, 1) := by decide +kernel
theorem dX9_form_62 : decode cX9_form 62 = .ok (.bipush 7, 2) := by decide +kernel
theorem dX9_form_64 : decode cX9_form 64 = .ok (.invokestatic 73, 3) := by decide +kernel
theorem dX9_form_67 : decode cX9_form 67 = .ok (.ifCond .ne 7, 3) := by decide +kernel
theorem dX9_form_70 : decode cX9_form 70 = .ok (.iconst 2, 1) := by decide +kernel
theorem dX9_form_71 : decode cX9_form 71 = .ok (.goto 13, 3) := by decide +kernel
theorem dX9_form_74 : decode cX9_form 74 = .ok (.iload 5, 2) := by decide +kernel
theorem dX9_form_76 : decode cX9_form 76 = .ok (.ifCond .eq 7, 3) := by decide +kernel
theorem dX9_form_79 : decode cX9_form 79 = .ok (.iconst 0, 1) := by decide +kernel
theorem dX9_form_80 : decode cX9_form 80 = .ok (.goto 4, 3) := by decide +kernel
theorem dX9_form_83 : decode cX9_form 83 = .ok (.iconst 3, 1) := by decide +kernel
theorem dX9_form_84 : decode cX9_form 84 = .ok (.invokevirtual 92, 3) := by decide +kernel
theorem dX9_form_87 : decode cX9_form 87 = .ok (.ifCond .ne 5, 3) := by decide +kernel
theorem dX9_form_90 : decode cX9_form 90 = .ok (.iconst 0, 1) := by decide +kernel
theorem dX9_form_91 : decode cX9_form 91 = .ok (.ireturn, 1) := by decide +kernel
theorem dX9_form_92 : decode cX9_form 92 = .ok (.bipush 8, 2) := by decide +kernel
theorem dX9_form_94 : decode cX9_form 94 = .ok (.iload_n 1, 1) := by decide +kernel
theorem dX9_form_95 : decode cX9_form 95 = .ok (.imul, 1) := by decide +kernel
theorem dX9_form_96 : decode cX9_form 96 = .ok (.iload_n 3, 1) := by decide +kernel
theorem dX9_form_97 : decode cX9_form 97 = .ok (.iadd, 1) := by decide +kernel
theorem dX9_form_98 : decode cX9_form 98 = .ok (.istore 6, 2) := by decide +kernel
theorem dX9_form_100 : decode cX9_form 100 = .ok (.iload_n 2, 1) := by decide +kernel
theorem dX9_form_101 : decode cX9_form 101 = .ok (.iconst (-1), 1) := by decide +kernel
theorem dX9_form_102 : decode cX9_form 102 = .ok (.if_icmp .ne 30, 3) := by decide +kernel
theorem dX9_form_105 : decode cX9_form 105 = .ok (.aload_n 0, 1) := by decide +kernel
theorem dX9_form_106 : decode cX9_form 106 = .ok (.getfield 23, 3) := by decide +kernel
theorem dX9_form_109 : decode cX9_form 109 = .ok (.iload 6, 2) := by decide +kernel
theorem dX9_form_111 : decode cX9_form 111 = .ok (.aload_n 0, 1) := by decide +kernel
theorem dX9_form_112 : decode cX9_form 112 = .ok (.aload_n 0, 1) := by decide +kernel
theorem dX9_form_113 : decode cX9_form 113 = .ok (.getfield 20, 3) := by decide +kernel
theorem dX9_form_116 : decode cX9_form 116 = .ok (.iconst 4, 1) := by decide +kernel
theorem dX9_form_117 : decode cX9_form 117 = .ok (.iload 6, 2) := by decide +kernel
theorem dX9_form_119 : decode cX9_form 119 = .ok (.imul, 1) := by decide +kernel
theorem dX9_form_120 : decode cX9_form 120 = .ok (.invokevirtual 104, 3) := by decide +kernel
theorem dX9_form_123 : decode cX9_form 123 = .ok (.iastore, 1) := by decide +kernel
theorem dX9_form_124 : decode cX9_form 124 = .ok (.aload_n 0, 1) := by decide +kernel
theorem dX9_form_125 : decode cX9_form 125 = .ok (.getfield 23, 3) := by decide +kernel
theorem dX9_form_128 : decode cX9_form 128 = .ok (.iload 6, 2) := by decide +kernel
theorem dX9_form_130 : decode cX9_form 130 = .ok (.iaload, 1) := by decide +kernel
theorem dX9_form_131 : decode cX9_form 131 = .ok (.ireturn, 1) := by decide +kernel
theorem dX9_form_132 : decode cX9_form 132 = .ok (.bipush 24, 2) := by decide +kernel
theorem dX9_form_134 : decode cX9_form 134 = .ok (.iload_n 2, 1) := by decide +kernel
theorem dX9_form_135 : decode cX9_form 135 = .ok (.imul, 1) := by decide +kernel
theorem dX9_form_136 : decode cX9_form 136 = .ok (.iload 6, 2) := by decide +kernel
theorem dX9_form_138 : decode cX9_form 138 = .ok (.iadd, 1) := by decide +kernel
theorem dX9_form_139 : decode cX9_form 139 = .ok (.istore 7, 2) := by decide +kernel
theorem dX9_form_141 : decode cX9_form 141 = .ok (.aload_n 0, 1) := by decide +kernel
theorem dX9_form_142 : decode cX9_form 142 = .ok (.getfield 29, 3) := by decide +kernel
theorem dX9_form_145 : decode cX9_form 145 = .ok (.iload 7, 2) := by decide +kernel
theorem dX9_form_147 : decode cX9_form 147 = .ok (.aload_n 0, 1) := by decide +kernel
theorem dX9_form_148 : decode cX9_form 148 = .ok (.aload_n 0, 1) := by decide +kernel
theorem dX9_form_149 : decode cX9_form 149 = .ok (.getfield 26, 3) := by decide +kernel
theorem dX9_form_152 : decode cX9_form 152 = .ok (.bipush 10, 2) := by decide +kernel
theorem dX9_form_154 : decode cX9_form 154 = .ok (.iload 7, 2) := by decide +kernel
theorem dX9_form_156 : decode cX9_form 156 = .ok (.imul, 1) := by decide +kernel
theorem dX9_form_157 : decode cX9_form 157 = .ok (.invokevirtual 104, 3) := by decide +kernel
theorem dX9_form_160 : decode cX9_form 160 = .ok (.iastore, 1) := by decide +kernel
theorem dX9_form_161 : decode cX9_form 161 = .ok (.aload_n 0, 1) := by decide +kernel
theorem dX9_form_162 : decode cX9_form 162 = .ok (.getfield 29, 3) := by decide +kernel
theorem dX9_form_165 : decode cX9_form 165 = .ok (.iload 7, 2) := by decide +kernel
theorem dX9_form_167 : decode cX9_form 167 = .ok (.iaload, 1) := by decide +kernel
theorem dX9_form_168 : decode cX9_form 168 = .ok (.ireturn, 1) := by decide +kernel
theorem dX9_isVowel_0 : decode cX9_isVowel 0 = .ok (.iload_n 0, 1) := by decide +kernel
theorem dX9_isVowel_1 : decode cX9_isVowel 1 = .ok (.bipush 97, 2) := by decide +kernel
theorem dX9_isVowel_3 : decode cX9_isVowel 3 = .ok (.if_icmp .eq 27, 3) := by decide +kernel
theorem dX9_isVowel_6 : decode cX9_isVowel 6 = .ok (.iload_n 0, 1) := by decide +kernel
theorem dX9_isVowel_7 : decode cX9_isVowel 7 = .ok (.bipush 101, 2) := by decide +kernel
theorem dX9_isVowel_9 : decode cX9_isVowel 9 = .ok (.if_icmp .eq 21, 3) := by decide +kernel
theorem dX9_isVowel_12 : decode cX9_isVowel 12 = .ok (.iload_n 0, 1) := by decide +kernel
theorem dX9_isVowel_13 : decode cX9_isVowel 13 = .ok (.bipush 105, 2) := by decide +kernel
theorem dX9_isVowel_15 : decode cX9_isVowel 15 = .ok (.if_icmp .eq 15, 3) := by decide +kernel
theorem dX9_isVowel_18 : decode cX9_isVowel 18 = .ok (.iload_n 0, 1) := by decide +kernel
theorem dX9_isVowel_19 : decode cX9_isVowel 19 = .ok (.bipush 111, 2) := by decide +kernel
theorem dX9_isVowel_21 : decode cX9_isVowel 21 = .ok (.if_icmp .eq 9, 3) := by decide +kernel
theorem dX9_isVowel_24 : decode cX9_isVowel 24 = .ok (.iload_n 0, 1) := by decide +kernel
theorem dX9_isVowel_25 : decode cX9_isVowel 25 = .ok (.bipush 117, 2) := by decide +kernel
theorem dX9_isVowel_27 : decode cX9_isVowel 27 = .ok (.if_icmp .ne 7, 3) := by decide +kernel
theorem dX9_isVowel_30 : decode cX9_isVowel 30 = .ok (.iconst 1, 1) := by decide +kernel
theorem dX9_isVowel_31 : decode cX9_isVowel 31 = .ok (.goto 4, 3) := by decide +kernel
theorem dX9_isVowel_34 : decode cX9_isVowel 34 = .ok (.iconst 0, 1) := by decide +kernel
theorem dX9_isVowel_35 : decode cX9_isVowel 35 = .ok (.ireturn, 1) := by decide +kernel
theorem dX9_clause_0 : decode cX9_clause 0 = .ok (.aload_n 0, 1) := by decide +kernel
theorem dX9_clause_1 : decode cX9_clause 1 = .ok (.iload_n 1, 1) := by decide +kernel
theorem dX9_clause_2 : decode cX9_clause 2 = .ok (.iconst (-1), 1) := by decide +kernel
theorem dX9_clause_3 : decode cX9_clause 3 = .ok (.bipush 7, 2) := by decide +kernel
theorem dX9_clause_5 : decode cX9_clause 5 = .ok (.invokestatic 73, 3) := by decide +kernel
theorem dX9_clause_8 : decode cX9_clause 8 = .ok (.ifCond .ne 7, 3) := by decide +kernel
theorem dX9_clause_11 : decode cX9_clause 11 = .ok (.iconst 1, 1) := by decide +kernel
theorem dX9_clause_12 : decode cX9_clause 12 = .ok (.goto 17, 3) := by decide +kernel
theorem dX9_clause_15 : decode cX9_clause 15 = .ok (.aload_n 0, 1) := by decide +kernel
theorem dX9_clause_16 : decode cX9_clause 16 = .ok (.getfield 80, 3) := by decide +kernel
theorem dX9_clause_19 : decode cX9_clause 19 = .ok (.bipush 10, 2) := by decide +kernel
theorem dX9_clause_21 : decode cX9_clause 21 = .ok (.if_icmp .ne 7, 3) := by decide +kernel
theorem dX9_clause_24 : decode cX9_clause 24 = .ok (.iconst 2, 1) := by decide +kernel
theorem dX9_clause_25 : decode cX9_clause 25 = .ok (.goto 4, 3) := by decide +kernel
theorem dX9_clause_28 : decode cX9_clause 28 = .ok (.iconst 0, 1) := by decide +kernel
theorem dX9_clause_29 : decode cX9_clause 29 = .ok (.invokevirtual 92, 3) := by decide +kernel
theorem dX9_clause_32 : decode cX9_clause 32 = .ok (.ifCond .ne 5, 3) := by decide +kernel
theorem dX9_clause_35 : decode cX9_clause 35 = .ok (.iconst 0, 1) := by decide +kernel
theorem dX9_clause_36 : decode cX9_clause 36 = .ok (.ireturn, 1) := by decide +kernel
theorem dX9_clause_37 : decode cX9_clause 37 = .ok (.aload_n 0, 1) := by decide +kernel
theorem dX9_clause_38 : decode cX9_clause 38 = .ok (.getfield 32, 3) := by decide +kernel
theorem dX9_clause_41 : decode cX9_clause 41 = .ok (.aload_n 0, 1) := by decide +kernel
theorem dX9_clause_42 : decode cX9_clause 42 = .ok (.getfield 80, 3) := by decide +kernel
theorem dX9_clause_45 : decode cX9_clause 45 = .ok (.iload_n 1, 1) := by decide +kernel
theorem dX9_clause_46 : decode cX9_clause 46 = .ok (.iastore, 1) := by decide +kernel
theorem dX9_clause_47 : decode cX9_clause 47 = .ok (.aload_n 0, 1) := by decide +kernel
theorem dX9_clause_48 : decode cX9_clause 48 = .ok (.dup, 1) := by decide +kernel
theorem dX9_clause_49 : decode cX9_clause 49 = .ok (.getfield 80, 3) := by decide +kernel
theorem dX9_clause_52 : decode cX9_clause 52 = .ok (.iconst 1, 1) := by decide +kernel
theorem dX9_clause_53 : decode cX9_clause 53 = .ok (.iadd, 1) := by decide +kernel
theorem dX9_clause_54 : decode cX9_clause 54 = .ok (.putfield 80, 3) := by decide +kernel
theorem dX9_clause_57 : decode cX9_clause 57 = .ok (.aload_n 0, 1) := by decide +kernel
theorem dX9_clause_58 : decode cX9_clause 58 = .ok (.getfield 80, 3) := by decide +kernel
theorem dX9_clause_61 : decode cX9_clause 61 = .ok (.iconst 1, 1) := by decide +kernel
theorem dX9_clause_62 : decode cX9_clause 62 = .ok (.isub, 1) := by decide +kernel
theorem dX9_clause_63 : decode cX9_clause 63 = .ok (.ireturn, 1) := by decide +kernel
theorem dX9_isCase_0 : decode cX9_isCase 0 = .ok (.iload_n 0, 1) := by decide +kernel
theorem dX9_isCase_1 : decode cX9_isCase 1 = .ok (.bipush 110, 2) := by decide +kernel
theorem dX9_isCase_3 : decode cX9_isCase 3 = .ok (.if_icmp .eq 21, 3) := by decide +kernel
theorem dX9_isCase_6 : decode cX9_isCase 6 = .ok (.iload_n 0, 1) := by decide +kernel
theorem dX9_isCase_7 : decode cX9_isCase 7 = .ok (.bipush 103, 2) := by decide +kernel
theorem dX9_isCase_9 : decode cX9_isCase 9 = .ok (.if_icmp .eq 15, 3) := by decide +kernel
theorem dX9_isCase_12 : decode cX9_isCase 12 = .ok (.iload_n 0, 1) := by decide +kernel
theorem dX9_isCase_13 : decode cX9_isCase 13 = .ok (.bipush 100, 2) := by decide +kernel
theorem dX9_isCase_15 : decode cX9_isCase 15 = .ok (.if_icmp .eq 9, 3) := by decide +kernel
theorem dX9_isCase_18 : decode cX9_isCase 18 = .ok (.iload_n 0, 1) := by decide +kernel
theorem dX9_isCase_19 : decode cX9_isCase 19 = .ok (.bipush 97, 2) := by decide +kernel
theorem dX9_isCase_21 : decode cX9_isCase 21 = .ok (.if_icmp .ne 7, 3) := by decide +kernel
theorem dX9_isCase_24 : decode cX9_isCase 24 = .ok (.iconst 1, 1) := by decide +kernel
theorem dX9_isCase_25 : decode cX9_isCase 25 = .ok (.goto 4, 3) := by decide +kernel
theorem dX9_isCase_28 : decode cX9_isCase 28 = .ok (.iconst 0, 1) := by decide +kernel
theorem dX9_isCase_29 : decode cX9_isCase 29 = .ok (.ireturn, 1) := by decide +kernel
theorem dX9_behind_0 : decode cX9_behind 0 = .ok (.iload_n 0, 1) := by decide +kernel
theorem dX9_behind_1 : decode cX9_behind 1 = .ok (.ifCond .ne 36, 3) := by decide +kernel
theorem dX9_behind_4 : decode cX9_behind 4 = .ok (.iload_n 1, 1) := by decide +kernel
theorem dX9_behind_5 : decode cX9_behind 5 = .ok (.invokestatic 96, 3) := by decide +kernel
theorem dX9_behind_8 : decode cX9_behind 8 = .ok (.ifCond .ne 21, 3) := by decide +kernel
theorem dX9_behind_11 : decode cX9_behind 11 = .ok (.iload_n 1, 1) := by decide +kernel
theorem dX9_behind_12 : decode cX9_behind 12 = .ok (.bipush 32, 2) := by decide +kernel
theorem dX9_behind_14 : decode cX9_behind 14 = .ok (.if_icmp .eq 15, 3) := by decide +kernel
theorem dX9_behind_17 : decode cX9_behind 17 = .ok (.iload_n 1, 1) := by decide +kernel
theorem dX9_behind_18 : decode cX9_behind 18 = .ok (.bipush 46, 2) := by decide +kernel
theorem dX9_behind_20 : decode cX9_behind 20 = .ok (.if_icmp .eq 9, 3) := by decide +kernel
theorem dX9_behind_23 : decode cX9_behind 23 = .ok (.iload_n 1, 1) := by decide +kernel
theorem dX9_behind_24 : decode cX9_behind 24 = .ok (.bipush 91, 2) := by decide +kernel
theorem dX9_behind_26 : decode cX9_behind 26 = .ok (.if_icmp .ne 7, 3) := by decide +kernel
theorem dX9_behind_29 : decode cX9_behind 29 = .ok (.iconst 1, 1) := by decide +kernel
theorem dX9_behind_30 : decode cX9_behind 30 = .ok (.goto 80, 3) := by decide +kernel
theorem dX9_behind_33 : decode cX9_behind 33 = .ok (.iconst 0, 1) := by decide +kernel
theorem dX9_behind_34 : decode cX9_behind 34 = .ok (.goto 76, 3) := by decide +kernel
theorem dX9_behind_37 : decode cX9_behind 37 = .ok (.iload_n 0, 1) := by decide +kernel
theorem dX9_behind_38 : decode cX9_behind 38 = .ok (.iconst 1, 1) := by decide +kernel
theorem dX9_behind_39 : decode cX9_behind 39 = .ok (.if_icmp .ne 23, 3) := by decide +kernel
theorem dX9_behind_42 : decode cX9_behind 42 = .ok (.iload_n 1, 1) := by decide +kernel
theorem dX9_behind_43 : decode cX9_behind 43 = .ok (.bipush 48, 2) := by decide +kernel
theorem dX9_behind_45 : decode cX9_behind 45 = .ok (.if_icmp .lt 13, 3) := by decide +kernel
theorem dX9_behind_48 : decode cX9_behind 48 = .ok (.iload_n 1, 1) := by decide +kernel
theorem dX9_behind_49 : decode cX9_behind 49 = .ok (.bipush 53, 2) := by decide +kernel
theorem dX9_behind_51 : decode cX9_behind 51 = .ok (.if_icmp .ge 7, 3) := by decide +kernel
theorem dX9_behind_54 : decode cX9_behind 54 = .ok (.iconst 1, 1) := by decide +kernel
theorem dX9_behind_55 : decode cX9_behind 55 = .ok (.goto 55, 3) := by decide +kernel
theorem dX9_behind_58 : decode cX9_behind 58 = .ok (.iconst 0, 1) := by decide +kernel
theorem dX9_behind_59 : decode cX9_behind 59 = .ok (.goto 51, 3) := by decide +kernel
theorem dX9_behind_62 : decode cX9_behind 62 = .ok (.iload_n 0, 1) := by decide +kernel
theorem dX9_behind_63 : decode cX9_behind 63 = .ok (.iconst 2, 1) := by decide +kernel
theorem dX9_behind_64 : decode cX9_behind 64 = .ok (.if_icmp .ne 10, 3) := by decide +kernel
theorem dX9_behind_67 : decode cX9_behind 67 = .ok (.iload_n 1, 1) := by decide +kernel
theorem dX9_behind_68 : decode cX9_behind 68 = .ok (.invokestatic 114, 3) := by decide +kernel
theorem dX9_behind_71 : decode cX9_behind 71 = .ok (.goto 39, 3) := by decide +kernel
theorem dX9_behind_74 : decode cX9_behind 74 = .ok (.iload_n 0, 1) := by decide +kernel
theorem dX9_behind_75 : decode cX9_behind 75 = .ok (.iconst 3, 1) := by decide +kernel
theorem dX9_behind_76 : decode cX9_behind 76 = .ok (.if_icmp .ne 23, 3) := by decide +kernel
theorem dX9_behind_79 : decode cX9_behind 79 = .ok (.iload_n 1, 1) := by decide +kernel
theorem dX9_behind_80 : decode cX9_behind 80 = .ok (.bipush 115, 2) := by decide +kernel
theorem dX9_behind_82 : decode cX9_behind 82 = .ok (.if_icmp .eq 9, 3) := by decide +kernel
theorem dX9_behind_85 : decode cX9_behind 85 = .ok (.iload_n 1, 1) := by decide +kernel
theorem dX9_behind_86 : decode cX9_behind 86 = .ok (.bipush 112, 2) := by decide +kernel
theorem dX9_behind_88 : decode cX9_behind 88 = .ok (.if_icmp .ne 7, 3) := by decide +kernel
theorem dX9_behind_91 : decode cX9_behind 91 = .ok (.iconst 1, 1) := by decide +kernel
theorem dX9_behind_92 : decode cX9_behind 92 = .ok (.goto 18, 3) := by decide +kernel
theorem dX9_behind_95 : decode cX9_behind 95 = .ok (.iconst 0, 1) := by decide +kernel
theorem dX9_behind_96 : decode cX9_behind 96 = .ok (.goto 14, 3) := by decide +kernel
theorem dX9_behind_99 : decode cX9_behind 99 = .ok (.iload_n 1, 1) := by decide +kernel
theorem dX9_behind_100 : decode cX9_behind 100 = .ok (.bipush 93, 2) := by decide +kernel
theorem dX9_behind_102 : decode cX9_behind 102 = .ok (.if_icmp .ne 7, 3) := by decide +kernel
theorem dX9_behind_105 : decode cX9_behind 105 = .ok (.iconst 1, 1) := by decide +kernel
theorem dX9_behind_106 : decode cX9_behind 106 = .ok (.goto 4, 3) := by decide +kernel
theorem dX9_behind_109 : decode cX9_behind 109 = .ok (.iconst 0, 1) := by decide +kernel
theorem dX9_behind_110 : decode cX9_behind 110 = .ok (.istore_n 2, 1) := by decide +kernel
theorem dX9_behind_111 : decode cX9_behind 111 = .ok (.iload_n 2, 1) := by decide +kernel
theorem dX9_behind_112 : decode cX9_behind 112 = .ok (.ifCond .ne 7, 3) := by decide +kernel
theorem dX9_behind_115 : decode cX9_behind 115 = .ok (.iconst (-1), 1) := by decide +kernel
theorem dX9_behind_116 : decode cX9_behind 116 = .ok (.goto 26, 3) := by decide +kernel
theorem dX9_behind_119 : decode cX9_behind 119 = .ok (.iload_n 0, 1) := by decide +kernel
theorem dX9_behind_120 : decode cX9_behind 120 = .ok (.ifCond .ne 17, 3) := by decide +kernel
theorem dX9_behind_123 : decode cX9_behind 123 = .ok (.iload_n 1, 1) := by decide +kernel
theorem dX9_behind_124 : decode cX9_behind 124 = .ok (.bipush 91, 2) := by decide +kernel
theorem dX9_behind_126 : decode cX9_behind 126 = .ok (.if_icmp .ne 7, 3) := by decide +kernel
theorem dX9_behind_129 : decode cX9_behind 129 = .ok (.iconst 1, 1) := by decide +kernel
theorem dX9_behind_130 : decode cX9_behind 130 = .ok (.goto 12, 3) := by decide +kernel
theorem dX9_behind_133 : decode cX9_behind 133 = .ok (.iconst 0, 1) := by decide +kernel
theorem dX9_behind_134 : decode cX9_behind 134 = .ok (.goto 8, 3) := by decide +kernel
theorem dX9_behind_137 : decode cX9_behind 137 = .ok (.iload_n 0, 1) := by decide +kernel
theorem dX9_behind_138 : decode cX9_behind 138 = .ok (.iconst 1, 1) := by decide +kernel
theorem dX9_behind_139 : decode cX9_behind 139 = .ok (.iadd, 1) := by decide +kernel
theorem dX9_behind_140 : decode cX9_behind 140 = .ok (.iconst 5, 1) := by decide +kernel
theorem dX9_behind_141 : decode cX9_behind 141 = .ok (.irem, 1) := by decide +kernel
theorem dX9_behind_142 : decode cX9_behind 142 = .ok (.ireturn, 1) := by decide +kernel
theorem dX9_faultOfBuffer_0 : decode cX9_faultOfBuffer 0 = .ok (.iconst 0, 1) := by decide +kernel
theorem dX9_faultOfBuffer_1 : decode cX9_faultOfBuffer 1 = .ok (.istore_n 1, 1) := by decide +kernel
theorem dX9_faultOfBuffer_2 : decode cX9_faultOfBuffer 2 = .ok (.iconst 0, 1) := by decide +kernel
theorem dX9_faultOfBuffer_3 : decode cX9_faultOfBuffer 3 = .ok (.istore_n 2, 1) := by decide +kernel
theorem dX9_faultOfBuffer_4 : decode cX9_faultOfBuffer 4 = .ok (.iload_n 2, 1) := by decide +kernel
theorem dX9_faultOfBuffer_5 : decode cX9_faultOfBuffer 5 = .ok (.aload_n 0, 1) := by decide +kernel
theorem dX9_faultOfBuffer_6 : decode cX9_faultOfBuffer 6 = .ok (.getfield 89, 3) := by decide +kernel
theorem dX9_faultOfBuffer_9 : decode cX9_faultOfBuffer 9 = .ok (.if_icmp .ge 27, 3) := by decide +kernel
theorem dX9_faultOfBuffer_12 : decode cX9_faultOfBuffer 12 = .ok (.iload_n 1, 1) := by decide +kernel
theorem dX9_faultOfBuffer_13 : decode cX9_faultOfBuffer 13 = .ok (.aload_n 0, 1) := by decide +kernel
theorem dX9_faultOfBuffer_14 : decode cX9_faultOfBuffer 14 = .ok (.getfield 7, 3) := by decide +kernel
theorem dX9_faultOfBuffer_17 : decode cX9_faultOfBuffer 17 = .ok (.iload_n 2, 1) := by decide +kernel
theorem dX9_faultOfBuffer_18 : decode cX9_faultOfBuffer 18 = .ok (.caload, 1) := by decide +kernel
theorem dX9_faultOfBuffer_19 : decode cX9_faultOfBuffer 19 = .ok (.invokestatic 117, 3) := by decide +kernel
theorem dX9_faultOfBuffer_22 : decode cX9_faultOfBuffer 22 = .ok (.istore_n 1, 1) := by decide +kernel
theorem dX9_faultOfBuffer_23 : decode cX9_faultOfBuffer 23 = .ok (.iload_n 1, 1) := by decide +kernel
theorem dX9_faultOfBuffer_24 : decode cX9_faultOfBuffer 24 = .ok (.iconst (-1), 1) := by decide +kernel
theorem dX9_faultOfBuffer_25 : decode cX9_faultOfBuffer 25 = .ok (.if_icmp .ne 5, 3) := by decide +kernel
theorem dX9_faultOfBuffer_28 : decode cX9_faultOfBuffer 28 = .ok (.iload_n 2, 1) := by decide +kernel
theorem dX9_faultOfBuffer_29 : decode cX9_faultOfBuffer 29 = .ok (.ireturn, 1) := by decide +kernel
theorem dX9_faultOfBuffer_30 : decode cX9_faultOfBuffer 30 = .ok (.iinc 2 1, 3) := by decide +kernel
theorem dX9_faultOfBuffer_33 : decode cX9_faultOfBuffer 33 = .ok (.goto (-29), 3) := by decide +kernel
theorem dX9_faultOfBuffer_36 : decode cX9_faultOfBuffer 36 = .ok (.aload_n 0, 1) := by decide +kernel
theorem dX9_faultOfBuffer_37 : decode cX9_faultOfBuffer 37 = .ok (.getfield 89, 3) := by decide +kernel
theorem dX9_faultOfBuffer_40 : decode cX9_faultOfBuffer 40 = .ok (.ifCond .ne 7, 3) := by decide +kernel
theorem dX9_faultOfBuffer_43 : decode cX9_faultOfBuffer 43 = .ok (.iconst 0, 1) := by decide +kernel
theorem dX9_faultOfBuffer_44 : decode cX9_faultOfBuffer 44 = .ok (.goto 15, 3) := by decide +kernel
theorem dX9_faultOfBuffer_47 : decode cX9_faultOfBuffer 47 = .ok (.iload_n 1, 1) := by decide +kernel
theorem dX9_faultOfBuffer_48 : decode cX9_faultOfBuffer 48 = .ok (.ifCond .ne 7, 3) := by decide +kernel
theorem dX9_faultOfBuffer_51 : decode cX9_faultOfBuffer 51 = .ok (.iconst (-1), 1) := by decide +kernel
theorem dX9_faultOfBuffer_52 : decode cX9_faultOfBuffer 52 = .ok (.goto 7, 3) := by decide +kernel
theorem dX9_faultOfBuffer_55 : decode cX9_faultOfBuffer 55 = .ok (.aload_n 0, 1) := by decide +kernel
theorem dX9_faultOfBuffer_56 : decode cX9_faultOfBuffer 56 = .ok (.getfield 89, 3) := by decide +kernel
theorem dX9_faultOfBuffer_59 : decode cX9_faultOfBuffer 59 = .ok (.ireturn, 1) := by decide +kernel
theorem dX9_fault_0 : decode cX9_fault 0 = .ok (.aload_n 0, 1) := by decide +kernel
theorem dX9_fault_1 : decode cX9_fault 1 = .ok (.iconst 0, 1) := by decide +kernel
theorem dX9_fault_2 : decode cX9_fault 2 = .ok (.putfield 69, 3) := by decide +kernel
theorem dX9_fault_5 : decode cX9_fault 5 = .ok (.aload_n 0, 1) := by decide +kernel
theorem dX9_fault_6 : decode cX9_fault 6 = .ok (.invokevirtual 121, 3) := by decide +kernel
theorem dX9_fault_9 : decode cX9_fault 9 = .ok (.ireturn, 1) := by decide +kernel
theorem dX9_at_0 : decode cX9_at 0 = .ok (.iconst 3, 1) := by decide +kernel
theorem dX9_at_1 : decode cX9_at 1 = .ok (.iload_n 0, 1) := by decide +kernel
theorem dX9_at_2 : decode cX9_at 2 = .ok (.imul, 1) := by decide +kernel
theorem dX9_at_3 : decode cX9_at 3 = .ok (.iload_n 1, 1) := by decide +kernel
theorem dX9_at_4 : decode cX9_at 4 = .ok (.iadd, 1) := by decide +kernel
theorem dX9_at_5 : decode cX9_at 5 = .ok (.ireturn, 1) := by decide +kernel
theorem dX9_text_0 : decode cX9_text 0 = .ok (.aload_n 0, 1) := by decide +kernel
theorem dX9_text_1 : decode cX9_text 1 = .ok (.iload_n 1, 1) := by decide +kernel
theorem dX9_text_2 : decode cX9_text 2 = .ok (.invokevirtual 125, 3) := by decide +kernel
theorem dX9_text_5 : decode cX9_text 5 = .ok (.ifCond .eq 14, 3) := by decide +kernel
theorem dX9_text_8 : decode cX9_text 8 = .ok (.iload_n 2, 1) := by decide +kernel
theorem dX9_text_9 : decode cX9_text 9 = .ok (.invokestatic 108, 3) := by decide +kernel
theorem dX9_text_12 : decode cX9_text 12 = .ok (.ifCond .eq 7, 3) := by decide +kernel
theorem dX9_text_15 : decode cX9_text 15 = .ok (.iconst 1, 1) := by decide +kernel
theorem dX9_text_16 : decode cX9_text 16 = .ok (.goto 4, 3) := by decide +kernel
theorem dX9_text_19 : decode cX9_text 19 = .ok (.iconst 0, 1) := by decide +kernel
theorem dX9_text_20 : decode cX9_text 20 = .ok (.istore_n 3, 1) := by decide +kernel
theorem dX9_text_21 : decode cX9_text 21 = .ok (.aload_n 0, 1) := by decide +kernel
theorem dX9_text_22 : decode cX9_text 22 = .ok (.iload_n 3, 1) := by decide +kernel
theorem dX9_text_23 : decode cX9_text 23 = .ok (.ifCond .ne 7, 3) := by decide +kernel
theorem dX9_text_26 : decode cX9_text 26 = .ok (.iconst 1, 1) := by decide +kernel
theorem dX9_text_27 : decode cX9_text 27 = .ok (.goto 16, 3) := by decide +kernel
theorem dX9_text_30 : decode cX9_text 30 = .ok (.aload_n 0, 1) := by decide +kernel
theorem dX9_text_31 : decode cX9_text 31 = .ok (.invokevirtual 121, 3) := by decide +kernel
theorem dX9_text_34 : decode cX9_text 34 = .ok (.iconst (-1), 1) := by decide +kernel
theorem dX9_text_35 : decode cX9_text 35 = .ok (.if_icmp .eq 7, 3) := by decide +kernel
theorem dX9_text_38 : decode cX9_text 38 = .ok (.iconst 2, 1) := by decide +kernel
theorem dX9_text_39 : decode cX9_text 39 = .ok (.goto 4, 3) := by decide +kernel
theorem dX9_text_42 : decode cX9_text 42 = .ok (.iconst 0, 1) := by decide +kernel
theorem dX9_text_43 : decode cX9_text 43 = .ok (.invokevirtual 92, 3) := by decide +kernel
theorem dX9_text_46 : decode cX9_text 46 = .ok (.ifCond .ne 5, 3) := by decide +kernel
theorem dX9_text_49 : decode cX9_text 49 = .ok (.iconst 0, 1) := by decide +kernel
theorem dX9_text_50 : decode cX9_text 50 = .ok (.ireturn, 1) := by decide +kernel
theorem dX9_text_51 : decode cX9_text 51 = .ok (.iconst 0, 1) := by decide +kernel
theorem dX9_text_52 : decode cX9_text 52 = .ok (.istore 4, 2) := by decide +kernel
theorem dX9_text_54 : decode cX9_text 54 = .ok (.iconst 0, 1) := by decide +kernel
theorem dX9_text_55 : decode cX9_text 55 = .ok (.istore 5, 2) := by decide +kernel
theorem dX9_text_57 : decode cX9_text 57 = .ok (.iload 5, 2) := by decide +kernel
theorem dX9_text_59 : decode cX9_text 59 = .ok (.aload_n 0, 1) := by decide +kernel
theorem dX9_text_60 : decode cX9_text 60 = .ok (.getfield 89, 3) := by decide +kernel
theorem dX9_text_63 : decode cX9_text 63 = .ok (.if_icmp .ge 31, 3) := by decide +kernel
theorem dX9_text_66 : decode cX9_text 66 = .ok (.iload 4, 2) := by decide +kernel
theorem dX9_text_68 : decode cX9_text 68 = .ok (.aload_n 0, 1) := by decide +kernel
theorem dX9_text_69 : decode cX9_text 69 = .ok (.getfield 7, 3) := by decide +kernel
theorem dX9_text_72 : decode cX9_text 72 = .ok (.iload 5, 2) := by decide +kernel
theorem dX9_text_74 : decode cX9_text 74 = .ok (.caload, 1) := by decide +kernel
theorem dX9_text_75 : decode cX9_text 75 = .ok (.bipush 91, 2) := by decide +kernel
theorem dX9_text_77 : decode cX9_text 77 = .ok (.if_icmp .ne 7, 3) := by decide +kernel
theorem dX9_text_80 : decode cX9_text 80 = .ok (.iconst 1, 1) := by decide +kernel
theorem dX9_text_81 : decode cX9_text 81 = .ok (.goto 4, 3) := by decide +kernel
theorem dX9_text_84 : decode cX9_text 84 = .ok (.iconst 0, 1) := by decide +kernel
theorem dX9_text_85 : decode cX9_text 85 = .ok (.iadd, 1) := by decide +kernel
theorem dX9_text_86 : decode cX9_text 86 = .ok (.istore 4, 2) := by decide +kernel
theorem dX9_text_88 : decode cX9_text 88 = .ok (.iinc 5 1, 3) := by decide +kernel
theorem dX9_text_91 : decode cX9_text 91 = .ok (.goto (-34), 3) := by decide +kernel
theorem dX9_text_94 : decode cX9_text 94 = .ok (.iload_n 1, 1) := by decide +kernel
theorem dX9_text_95 : decode cX9_text 95 = .ok (.iload_n 2, 1) := by decide +kernel
theorem dX9_text_96 : decode cX9_text 96 = .ok (.invokestatic 128, 3) := by decide +kernel
theorem dX9_text_99 : decode cX9_text 99 = .ok (.istore 5, 2) := by decide +kernel
theorem dX9_text_101 : decode cX9_text 101 = .ok (.aload_n 0, 1) := by decide +kernel
theorem dX9_text_102 : decode cX9_text 102 = .ok (.getfield 38, 3) := by decide +kernel
theorem dX9_text_105 : decode cX9_text 105 = .ok (.iload 5, 2) := by decide +kernel
theorem dX9_text_107 : decode cX9_text 107 = .ok (.aload_n 0, 1) := by decide +kernel
theorem dX9_text_108 : decode cX9_text 108 = .ok (.aload_n 0, 1) := by decide +kernel
theorem dX9_text_109 : decode cX9_text 109 = .ok (.getfield 35, 3) := by decide +kernel
theorem dX9_text_112 : decode cX9_text 112 = .ok (.bipush 60, 2) := by decide +kernel
theorem dX9_text_114 : decode cX9_text 114 = .ok (.iload 5, 2) := by decide +kernel
theorem dX9_text_116 : decode cX9_text 116 = .ok (.imul, 1) := by decide +kernel
theorem dX9_text_117 : decode cX9_text 117 = .ok (.invokevirtual 104, 3) := by decide +kernel
theorem dX9_text_120 : decode cX9_text 120 = .ok (.iastore, 1) := by decide +kernel
theorem dX9_text_121 : decode cX9_text 121 = .ok (.aload_n 0, 1) := by decide +kernel
theorem dX9_text_122 : decode cX9_text 122 = .ok (.getfield 41, 3) := by decide +kernel
theorem dX9_text_125 : decode cX9_text 125 = .ok (.iload 5, 2) := by decide +kernel
theorem dX9_text_127 : decode cX9_text 127 = .ok (.iconst 0, 1) := by decide +kernel
theorem dX9_text_128 : decode cX9_text 128 = .ok (.bastore, 1) := by decide +kernel
theorem dX9_text_129 : decode cX9_text 129 = .ok (.iload 4, 2) := by decide +kernel
theorem dX9_text_131 : decode cX9_text 131 = .ok (.ireturn, 1) := by decide +kernel
theorem dX9_approve_0 : decode cX9_approve 0 = .ok (.aload_n 0, 1) := by decide +kernel
theorem dX9_approve_1 : decode cX9_approve 1 = .ok (.iload_n 1, 1) := by decide +kernel
theorem dX9_approve_2 : decode cX9_approve 2 = .ok (.invokevirtual 125, 3) := by decide +kernel
theorem dX9_approve_5 : decode cX9_approve 5 = .ok (.ifCond .eq 14, 3) := by decide +kernel
theorem dX9_approve_8 : decode cX9_approve 8 = .ok (.iload_n 2, 1) := by decide +kernel
theorem dX9_approve_9 : decode cX9_approve 9 = .ok (.invokestatic 108, 3) := by decide +kernel
theorem dX9_approve_12 : decode cX9_approve 12 = .ok (.ifCond .eq 7, 3) := by decide +kernel
theorem dX9_approve_15 : decode cX9_approve 15 = .ok (.iconst 1, 1) := by decide +kernel
theorem dX9_approve_16 : decode cX9_approve 16 = .ok (.goto 4, 3) := by decide +kernel
theorem dX9_approve_19 : decode cX9_approve 19 = .ok (.iconst 0, 1) := by decide +kernel
theorem dX9_approve_20 : decode cX9_approve 20 = .ok (.istore_n 3, 1) := by decide +kernel
theorem dX9_approve_21 : decode cX9_approve 21 = .ok (.aload_n 0, 1) := by decide +kernel
theorem dX9_approve_22 : decode cX9_approve 22 = .ok (.iload_n 3, 1) := by decide +kernel
theorem dX9_approve_23 : decode cX9_approve 23 = .ok (.ifCond .ne 7, 3) := by decide +kernel
theorem dX9_approve_26 : decode cX9_approve 26 = .ok (.iconst 1, 1) := by decide +kernel
theorem dX9_approve_27 : decode cX9_approve 27 = .ok (.goto 21, 3) := by decide +kernel
theorem dX9_approve_30 : decode cX9_approve 30 = .ok (.aload_n 0, 1) := by decide +kernel
theorem dX9_approve_31 : decode cX9_approve 31 = .ok (.getfield 38, 3) := by decide +kernel
theorem dX9_approve_34 : decode cX9_approve 34 = .ok (.iload_n 1, 1) := by decide +kernel
theorem dX9_approve_35 : decode cX9_approve 35 = .ok (.iload_n 2, 1) := by decide +kernel
theorem dX9_approve_36 : decode cX9_approve 36 = .ok (.invokestatic 128, 3) := by decide +kernel
theorem dX9_approve_39 : decode cX9_approve 39 = .ok (.iaload, 1) := by decide +kernel
theorem dX9_approve_40 : decode cX9_approve 40 = .ok (.ifCond .ne 7, 3) := by decide +kernel
theorem dX9_approve_43 : decode cX9_approve 43 = .ok (.iconst 2, 1) := by decide +kernel
theorem dX9_approve_44 : decode cX9_approve 44 = .ok (.goto 4, 3) := by decide +kernel
theorem dX9_approve_47 : decode cX9_approve 47 = .ok (.iconst 0, 1) := by decide +kernel
theorem dX9_approve_48 : decode cX9_approve 48 = .ok (.invokevirtual 92, 3) := by decide +kernel
theorem dX9_approve_51 : decode cX9_approve 51 = .ok (.ifCond .ne 5, 3) := by decide +kernel
theorem dX9_approve_54 : decode cX9_approve 54 = .ok (.iconst 0, 1) := by decide +kernel
theorem dX9_approve_55 : decode cX9_approve 55 = .ok (.ireturn, 1) := by decide +kernel
theorem dX9_approve_56 : decode cX9_approve 56 = .ok (.aload_n 0, 1) := by decide +kernel
theorem dX9_approve_57 : decode cX9_approve 57 = .ok (.getfield 41, 3) := by decide +kernel
theorem dX9_approve_60 : decode cX9_approve 60 = .ok (.iload_n 1, 1) := by decide +kernel
theorem dX9_approve_61 : decode cX9_approve 61 = .ok (.iload_n 2, 1) := by decide +kernel
theorem dX9_approve_62 : decode cX9_approve 62 = .ok (.invokestatic 128, 3) := by decide +kernel
theorem dX9_approve_65 : decode cX9_approve 65 = .ok (.baload, 1) := by decide +kernel
theorem dX9_approve_66 : decode cX9_approve 66 = .ok (.istore 4, 2) := by decide +kernel
theorem dX9_approve_68 : decode cX9_approve 68 = .ok (.aload_n 0, 1) := by decide +kernel
theorem dX9_approve_69 : decode cX9_approve 69 = .ok (.getfield 41, 3) := by decide +kernel
theorem dX9_approve_72 : decode cX9_approve 72 = .ok (.iload_n 1, 1) := by decide +kernel
theorem dX9_approve_73 : decode cX9_approve 73 = .ok (.iload_n 2, 1) := by decide +kernel
theorem dX9_approve_74 : decode cX9_approve 74 = .ok (.invokestatic 128, 3) := by decide +kernel
theorem dX9_approve_77 : decode cX9_approve 77 = .ok (.iconst 1, 1) := by decide +kernel
theorem dX9_approve_78 : decode cX9_approve 78 = .ok (.bastore, 1) := by decide +kernel
theorem dX9_approve_79 : decode cX9_approve 79 = .ok (.iload 4, 2) := by decide +kernel
theorem dX9_approve_81 : decode cX9_approve 81 = .ok (.ifCond .ne 7, 3) := by decide +kernel
theorem dX9_approve_84 : decode cX9_approve 84 = .ok (.iconst 1, 1) := by decide +kernel
theorem dX9_approve_85 : decode cX9_approve 85 = .ok (.goto 4, 3) := by decide +kernel
theorem dX9_approve_88 : decode cX9_approve 88 = .ok (.iconst 0, 1) := by decide +kernel
theorem dX9_approve_89 : decode cX9_approve 89 = .ok (.ireturn, 1) := by decide +kernel
theorem dX9_relate_0 : decode cX9_relate 0 = .ok (.aload_n 0, 1) := by decide +kernel
theorem dX9_relate_1 : decode cX9_relate 1 = .ok (.iload_n 1, 1) := by decide +kernel
theorem dX9_relate_2 : decode cX9_relate 2 = .ok (.invokevirtual 125, 3) := by decide +kernel
theorem dX9_relate_5 : decode cX9_relate 5 = .ok (.ifCond .eq 15, 3) := by decide +kernel
theorem dX9_relate_8 : decode cX9_relate 8 = .ok (.aload_n 0, 1) := by decide +kernel
theorem dX9_relate_9 : decode cX9_relate 9 = .ok (.iload_n 2, 1) := by decide +kernel
theorem dX9_relate_10 : decode cX9_relate 10 = .ok (.invokevirtual 125, 3) := by decide +kernel
theorem dX9_relate_13 : decode cX9_relate 13 = .ok (.ifCond .eq 7, 3) := by decide +kernel
theorem dX9_relate_16 : decode cX9_relate 16 = .ok (.iconst 1, 1) := by decide +kernel
theorem dX9_relate_17 : decode cX9_relate 17 = .ok (.goto 4, 3) := by decide +kernel
theorem dX9_relate_20 : decode cX9_relate 20 = .ok (.iconst 0, 1) := by decide +kernel
theorem dX9_relate_21 : decode cX9_relate 21 = .ok (.istore 5, 2) := by decide +kernel
theorem dX9_relate_23 : decode cX9_relate 23 = .ok (.iload_n 1, 1) := by decide +kernel
theorem dX9_relate_24 : decode cX9_relate 24 = .ok (.iload_n 2, 1) := by decide +kernel
theorem dX9_relate_25 : decode cX9_relate 25 = .ok (.if_icmp .eq 26, 3) := by decide +kernel
theorem dX9_relate_28 : decode cX9_relate 28 = .ok (.iload_n 3, 1) := by decide +kernel
theorem dX9_relate_29 : decode cX9_relate 29 = .ok (.iconst 0, 1) := by decide +kernel
theorem dX9_relate_30 : decode cX9_relate 30 = .ok (.iconst 3, 1) := by decide +kernel
theorem dX9_relate_31 : decode cX9_relate 31 = .ok (.invokestatic 73, 3) := by decide +kernel
theorem dX9_relate_34 : decode cX9_relate 34 = .ok (.ifCond .eq 17, 3) := by decide +kernel
theorem dX9_relate_37 : decode cX9_relate 37 = .ok (.iload 4, 2) := by decide +kernel
theorem dX9_relate_39 : decode cX9_relate 39 = .ok (.iconst 0, 1) := by decide +kernel
theorem dX9_relate_40 : decode cX9_relate 40 = .ok (.iconst 2, 1) := by decide +kernel
theorem dX9_relate_41 : decode cX9_relate 41 = .ok (.invokestatic 73, 3) := by decide +kernel
theorem dX9_relate_44 : decode cX9_relate 44 = .ok (.ifCond .eq 7, 3) := by decide +kernel
theorem dX9_relate_47 : decode cX9_relate 47 = .ok (.iconst 1, 1) := by decide +kernel
theorem dX9_relate_48 : decode cX9_relate 48 = .ok (.goto 4, 3) := by decide +kernel
theorem dX9_relate_51 : decode cX9_relate 51 = .ok (.iconst 0, 1) := by decide +kernel
theorem dX9_relate_52 : decode cX9_relate 52 = .ok (.istore 6, 2) := by decide +kernel
theorem dX9_relate_54 : decode cX9_relate 54 = .ok (.aload_n 0, 1) := by decide +kernel
theorem dX9_relate_55 : decode cX9_relate 55 = .ok (.iload 5, 2) := by decide +kernel
theorem dX9_relate_57 : decode cX9_relate 57 = .ok (.ifCond .ne 7, 3) := by decide +kernel
theorem dX9_relate_60 : decode cX9_relate 60 = .ok (.iconst 1, 1) := by decide +kernel
theorem dX9_relate_61 : decode cX9_relate 61 = .ok (.goto 13, 3) := by decide +kernel
theorem dX9_relate_64 : decode cX9_relate 64 = .ok (.iload 6, 2) := by decide +kernel
theorem dX9_relate_66 : decode cX9_relate 66 = .ok (.ifCond .eq 7, 3) := by decide +kernel
theorem dX9_relate_69 : decode cX9_relate 69 = .ok (.iconst 0, 1) := by decide +kernel
theorem dX9_relate_70 : decode cX9_relate 70 = .ok (.goto 4, 3) := by decide +kernel
theorem dX9_relate_73 : decode cX9_relate 73 = .ok (.iconst 2, 1) := by decide +kernel
theorem dX9_relate_74 : decode cX9_relate 74 = .ok (.invokevirtual 92, 3) := by decide +kernel
theorem dX9_relate_77 : decode cX9_relate 77 = .ok (.ifCond .ne 5, 3) := by decide +kernel
theorem dX9_relate_80 : decode cX9_relate 80 = .ok (.iconst 0, 1) := by decide +kernel
theorem dX9_relate_81 : decode cX9_relate 81 = .ok (.ireturn, 1) := by decide +kernel
theorem dX9_relate_82 : decode cX9_relate 82 = .ok (.bipush 10, 2) := by decide +kernel
theorem dX9_relate_84 : decode cX9_relate 84 = .ok (.bipush 10, 2) := by decide +kernel
theorem dX9_relate_86 : decode cX9_relate 86 = .ok (.iload_n 3, 1) := by decide +kernel
theorem dX9_relate_87 : decode cX9_relate 87 = .ok (.imul, 1) := by decide +kernel
theorem dX9_relate_88 : decode cX9_relate 88 = .ok (.iload_n 1, 1) := by decide +kernel
theorem dX9_relate_89 : decode cX9_relate 89 = .ok (.iadd, 1) := by decide +kernel
theorem dX9_relate_90 : decode cX9_relate 90 = .ok (.imul, 1) := by decide +kernel
theorem dX9_relate_91 : decode cX9_relate 91 = .ok (.iload_n 2, 1) := by decide +kernel
theorem dX9_relate_92 : decode cX9_relate 92 = .ok (.iadd, 1) := by decide +kernel
theorem dX9_relate_93 : decode cX9_relate 93 = .ok (.istore 7, 2) := by decide +kernel
theorem dX9_relate_95 : decode cX9_relate 95 = .ok (.aload_n 0, 1) := by decide +kernel
theorem dX9_relate_96 : decode cX9_relate 96 = .ok (.getfield 45, 3) := by decide +kernel
theorem dX9_relate_99 : decode cX9_relate 99 = .ok (.iload 7, 2) := by decide +kernel
theorem dX9_relate_101 : decode cX9_relate 101 = .ok (.iaload, 1) := by decide +kernel
theorem dX9_relate_102 : decode cX9_relate 102 = .ok (.istore 8, 2) := by decide +kernel
theorem dX9_relate_104 : decode cX9_relate 104 = .ok (.aload_n 0, 1) := by decide +kernel
theorem dX9_relate_105 : decode cX9_relate 105 = .ok (.getfield 45, 3) := by decide +kernel
theorem dX9_relate_108 : decode cX9_relate 108 = .ok (.iload 7, 2) := by decide +kernel
theorem dX9_relate_110 : decode cX9_relate 110 = .ok (.iload 4, 2) := by decide +kernel
theorem dX9_relate_112 : decode cX9_relate 112 = .ok (.iastore, 1) := by decide +kernel
theorem dX9_relate_113 : decode cX9_relate 113 = .ok (.iload 8, 2) := by decide +kernel
theorem dX9_relate_115 : decode cX9_relate 115 = .ok (.ireturn, 1) := by decide +kernel
theorem dX9_often_0 : decode cX9_often 0 = .ok (.iconst 0, 1) := by decide +kernel
theorem dX9_often_1 : decode cX9_often 1 = .ok (.istore_n 3, 1) := by decide +kernel
theorem dX9_often_2 : decode cX9_often 2 = .ok (.iconst 0, 1) := by decide +kernel
theorem dX9_often_3 : decode cX9_often 3 = .ok (.istore 4, 2) := by decide +kernel
theorem dX9_often_5 : decode cX9_often 5 = .ok (.iload 4, 2) := by decide +kernel
theorem dX9_often_7 : decode cX9_often 7 = .ok (.iconst 1, 1) := by decide +kernel
theorem dX9_often_8 : decode cX9_often 8 = .ok (.iadd, 1) := by decide +kernel
theorem dX9_often_9 : decode cX9_often 9 = .ok (.aload_n 0, 1) := by decide +kernel
theorem dX9_often_10 : decode cX9_often 10 = .ok (.getfield 38, 3) := by decide +kernel
theorem dX9_often_13 : decode cX9_often 13 = .ok (.iload_n 1, 1) := by decide +kernel
theorem dX9_often_14 : decode cX9_often 14 = .ok (.iaload, 1) := by decide +kernel
theorem dX9_often_15 : decode cX9_often 15 = .ok (.if_icmp .ge 55, 3) := by decide +kernel
theorem dX9_often_18 : decode cX9_often 18 = .ok (.iload_n 3, 1) := by decide +kernel
theorem dX9_often_19 : decode cX9_often 19 = .ok (.aload_n 0, 1) := by decide +kernel
theorem dX9_often_20 : decode cX9_often 20 = .ok (.getfield 35, 3) := by decide +kernel
theorem dX9_often_23 : decode cX9_often 23 = .ok (.bipush 60, 2) := by decide +kernel
theorem dX9_often_25 : decode cX9_often 25 = .ok (.iload_n 1, 1) := by decide +kernel
theorem dX9_often_26 : decode cX9_often 26 = .ok (.imul, 1) := by decide +kernel
theorem dX9_often_27 : decode cX9_often 27 = .ok (.iload 4, 2) := by decide +kernel
theorem dX9_often_29 : decode cX9_often 29 = .ok (.iadd, 1) := by decide +kernel
theorem dX9_often_30 : decode cX9_often 30 = .ok (.caload, 1) := by decide +kernel
theorem dX9_often_31 : decode cX9_often 31 = .ok (.bipush 91, 2) := by decide +kernel
theorem dX9_often_33 : decode cX9_often 33 = .ok (.if_icmp .ne 28, 3) := by decide +kernel
theorem dX9_often_36 : decode cX9_often 36 = .ok (.aload_n 0, 1) := by decide +kernel
theorem dX9_often_37 : decode cX9_often 37 = .ok (.getfield 35, 3) := by decide +kernel
theorem dX9_often_40 : decode cX9_often 40 = .ok (.bipush 60, 2) := by decide +kernel
theorem dX9_often_42 : decode cX9_often 42 = .ok (.iload_n 1, 1) := by decide +kernel
theorem dX9_often_43 : decode cX9_often 43 = .ok (.imul, 1) := by decide +kernel
theorem dX9_often_44 : decode cX9_often 44 = .ok (.iload 4, 2) := by decide +kernel
theorem dX9_often_46 : decode cX9_often 46 = .ok (.iadd, 1) := by decide +kernel
theorem dX9_often_47 : decode cX9_often 47 = .ok (.iconst 1, 1) := by decide +kernel
theorem dX9_often_48 : decode cX9_often 48 = .ok (.iadd, 1) := by decide +kernel
theorem dX9_often_49 : decode cX9_often 49 = .ok (.caload, 1) := by decide +kernel
theorem dX9_often_50 : decode cX9_often 50 = .ok (.bipush 48, 2) := by decide +kernel
theorem dX9_often_52 : decode cX9_often 52 = .ok (.iload_n 2, 1) := by decide +kernel
theorem dX9_often_53 : decode cX9_often 53 = .ok (.iadd, 1) := by decide +kernel
theorem dX9_often_54 : decode cX9_often 54 = .ok (.if_icmp .ne 7, 3) := by decide +kernel
theorem dX9_often_57 : decode cX9_often 57 = .ok (.iconst 1, 1) := by decide +kernel
theorem dX9_often_58 : decode cX9_often 58 = .ok (.goto 4, 3) := by decide +kernel
theorem dX9_often_61 : decode cX9_often 61 = .ok (.iconst 0, 1) := by decide +kernel
theorem dX9_often_62 : decode cX9_often 62 = .ok (.iadd, 1) := by decide +kernel
theorem dX9_often_63 : decode cX9_often 63 = .ok (.istore_n 3, 1) := by decide +kernel
theorem dX9_often_64 : decode cX9_often 64 = .ok (.iinc 4 1, 3) := by decide +kernel
theorem dX9_often_67 : decode cX9_often 67 = .ok (.goto (-62), 3) := by decide +kernel
theorem dX9_often_70 : decode cX9_often 70 = .ok (.iload_n 3, 1) := by decide +kernel
theorem dX9_often_71 : decode cX9_often 71 = .ok (.ireturn, 1) := by decide +kernel
theorem dX9_isLinked_0 : decode cX9_isLinked 0 = .ok (.aload_n 0, 1) := by decide +kernel
theorem dX9_isLinked_1 : decode cX9_isLinked 1 = .ok (.aload_n 0, 1) := by decide +kernel
theorem dX9_isLinked_2 : decode cX9_isLinked 2 = .ok (.iload_n 1, 1) := by decide +kernel
theorem dX9_isLinked_3 : decode cX9_isLinked 3 = .ok (.invokevirtual 125, 3) := by decide +kernel
theorem dX9_isLinked_6 : decode cX9_isLinked 6 = .ok (.ifCond .eq 7, 3) := by decide +kernel
theorem dX9_isLinked_9 : decode cX9_isLinked 9 = .ok (.iconst 0, 1) := by decide +kernel
theorem dX9_isLinked_10 : decode cX9_isLinked 10 = .ok (.goto 4, 3) := by decide +kernel
theorem dX9_isLinked_13 : decode cX9_isLinked 13 = .ok (.iconst 1, 1) := by decide +kernel
theorem dX9_isLinked_14 : decode cX9_isLinked 14 = .ok (.invokevirtual 92, 3) := by decide +kernel
theorem dX9_isLinked_17 : decode cX9_isLinked 17 = .ok (.ifCond .ne 5, 3) := by decide +kernel
theorem dX9_isLinked_20 : decode cX9_isLinked 20 = .ok (.iconst 0, 1) := by decide +kernel
theorem dX9_isLinked_21 : decode cX9_isLinked 21 = .ok (.ireturn, 1) := by decide +kernel
theorem dX9_isLinked_22 : decode cX9_isLinked 22 = .ok (.iconst 1, 1) := by decide +kernel
theorem dX9_isLinked_23 : decode cX9_isLinked 23 = .ok (.istore_n 2, 1) := by decide +kernel
theorem dX9_isLinked_24 : decode cX9_isLinked 24 = .ok (.iconst 0, 1) := by decide +kernel
theorem dX9_isLinked_25 : decode cX9_isLinked 25 = .ok (.istore_n 3, 1) := by decide +kernel
theorem dX9_isLinked_26 : decode cX9_isLinked 26 = .ok (.iload_n 3, 1) := by decide +kernel
theorem dX9_isLinked_27 : decode cX9_isLinked 27 = .ok (.bipush 45, 2) := by decide +kernel
theorem dX9_isLinked_29 : decode cX9_isLinked 29 = .ok (.if_icmp .ge 94, 3) := by decide +kernel
theorem dX9_isLinked_32 : decode cX9_isLinked 32 = .ok (.iload_n 1, 1) := by decide +kernel
theorem dX9_isLinked_33 : decode cX9_isLinked 33 = .ok (.iload_n 3, 1) := by decide +kernel
theorem dX9_isLinked_34 : decode cX9_isLinked 34 = .ok (.iconst 5, 1) := by decide +kernel
theorem dX9_isLinked_35 : decode cX9_isLinked 35 = .ok (.idiv, 1) := by decide +kernel
theorem dX9_isLinked_36 : decode cX9_isLinked 36 = .ok (.iconst 3, 1) := by decide +kernel
theorem dX9_isLinked_37 : decode cX9_isLinked 37 = .ok (.irem, 1) := by decide +kernel
theorem dX9_isLinked_38 : decode cX9_isLinked 38 = .ok (.invokestatic 128, 3) := by decide +kernel
theorem dX9_isLinked_41 : decode cX9_isLinked 41 = .ok (.istore 4, 2) := by decide +kernel
theorem dX9_isLinked_43 : decode cX9_isLinked 43 = .ok (.iload_n 1, 1) := by decide +kernel
theorem dX9_isLinked_44 : decode cX9_isLinked 44 = .ok (.iload_n 3, 1) := by decide +kernel
theorem dX9_isLinked_45 : decode cX9_isLinked 45 = .ok (.iconst 5, 1) := by decide +kernel
theorem dX9_isLinked_46 : decode cX9_isLinked 46 = .ok (.idiv, 1) := by decide +kernel
theorem dX9_isLinked_47 : decode cX9_isLinked 47 = .ok (.iconst 3, 1) := by decide +kernel
theorem dX9_isLinked_48 : decode cX9_isLinked 48 = .ok (.idiv, 1) := by decide +kernel
theorem dX9_isLinked_49 : decode cX9_isLinked 49 = .ok (.invokestatic 128, 3) := by decide +kernel
theorem dX9_isLinked_52 : decode cX9_isLinked 52 = .ok (.istore 5, 2) := by decide +kernel
theorem dX9_isLinked_54 : decode cX9_isLinked 54 = .ok (.aload_n 0, 1) := by decide +kernel
theorem dX9_isLinked_55 : decode cX9_isLinked 55 = .ok (.getfield 38, 3) := by decide +kernel
theorem dX9_isLinked_58 : decode cX9_isLinked 58 = .ok (.iload 4, 2) := by decide +kernel
theorem dX9_isLinked_60 : decode cX9_isLinked 60 = .ok (.iaload, 1) := by decide +kernel
