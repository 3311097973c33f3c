theorem dX9_isLinked_61 : decode cX9_isLinked 61 = .ok (.ifCond .le 17, 3) := by decide +kernel
theorem dX9_isLinked_64 : decode cX9_isLinked 64 = .ok (.aload_n 0, 1) := by decide +kernel
theorem dX9_isLinked_65 : decode cX9_isLinked 65 = .ok (.getfield 38, 3) := by decide +kernel
theorem dX9_isLinked_68 : decode cX9_isLinked 68 = .ok (.iload 5, 2) := by decide +kernel
theorem dX9_isLinked_70 : decode cX9_isLinked 70 = .ok (.iaload, 1) := by decide +kernel
theorem dX9_isLinked_71 : decode cX9_isLinked 71 = .ok (.ifCond .le 7, 3) := by decide +kernel
theorem dX9_isLinked_74 : decode cX9_isLinked 74 = .ok (.iconst 1, 1) := by decide +kernel
theorem dX9_isLinked_75 : decode cX9_isLinked 75 = .ok (.goto 4, 3) := by decide +kernel
theorem dX9_isLinked_78 : decode cX9_isLinked 78 = .ok (.iconst 0, 1) := by decide +kernel
theorem dX9_isLinked_79 : decode cX9_isLinked 79 = .ok (.istore 6, 2) := by decide +kernel
theorem dX9_isLinked_81 : decode cX9_isLinked 81 = .ok (.iload_n 2, 1) := by decide +kernel
theorem dX9_isLinked_82 : decode cX9_isLinked 82 = .ok (.ifCond .eq 33, 3) := by decide +kernel
theorem dX9_isLinked_85 : decode cX9_isLinked 85 = .ok (.iload 6, 2) := by decide +kernel
theorem dX9_isLinked_87 : decode cX9_isLinked 87 = .ok (.ifCond .eq 24, 3) := by decide +kernel
theorem dX9_isLinked_90 : decode cX9_isLinked 90 = .ok (.aload_n 0, 1) := by decide +kernel
theorem dX9_isLinked_91 : decode cX9_isLinked 91 = .ok (.iload 4, 2) := by decide +kernel
theorem dX9_isLinked_93 : decode cX9_isLinked 93 = .ok (.iload_n 3, 1) := by decide +kernel
theorem dX9_isLinked_94 : decode cX9_isLinked 94 = .ok (.iconst 5, 1) := by decide +kernel
theorem dX9_isLinked_95 : decode cX9_isLinked 95 = .ok (.irem, 1) := by decide +kernel
theorem dX9_isLinked_96 : decode cX9_isLinked 96 = .ok (.invokevirtual 132, 3) := by decide +kernel
theorem dX9_isLinked_99 : decode cX9_isLinked 99 = .ok (.aload_n 0, 1) := by decide +kernel
theorem dX9_isLinked_100 : decode cX9_isLinked 100 = .ok (.iload 5, 2) := by decide +kernel
theorem dX9_isLinked_102 : decode cX9_isLinked 102 = .ok (.iload_n 3, 1) := by decide +kernel
theorem dX9_isLinked_103 : decode cX9_isLinked 103 = .ok (.iconst 5, 1) := by decide +kernel
theorem dX9_isLinked_104 : decode cX9_isLinked 104 = .ok (.irem, 1) := by decide +kernel
theorem dX9_isLinked_105 : decode cX9_isLinked 105 = .ok (.invokevirtual 132, 3) := by decide +kernel
theorem dX9_isLinked_108 : decode cX9_isLinked 108 = .ok (.if_icmp .ne 7, 3) := by decide +kernel
theorem dX9_isLinked_111 : decode cX9_isLinked 111 = .ok (.iconst 1, 1) := by decide +kernel
theorem dX9_isLinked_112 : decode cX9_isLinked 112 = .ok (.goto 4, 3) := by decide +kernel
theorem dX9_isLinked_115 : decode cX9_isLinked 115 = .ok (.iconst 0, 1) := by decide +kernel
theorem dX9_isLinked_116 : decode cX9_isLinked 116 = .ok (.istore_n 2, 1) := by decide +kernel
theorem dX9_isLinked_117 : decode cX9_isLinked 117 = .ok (.iinc 3 1, 3) := by decide +kernel
theorem dX9_isLinked_120 : decode cX9_isLinked 120 = .ok (.goto (-94), 3) := by decide +kernel
theorem dX9_isLinked_123 : decode cX9_isLinked 123 = .ok (.iload_n 2, 1) := by decide +kernel
theorem dX9_isLinked_124 : decode cX9_isLinked 124 = .ok (.ireturn, 1) := by decide +kernel
theorem dX9_letter_0 : decode cX9_letter 0 = .ok (.aload_n 0, 1) := by decide +kernel
theorem dX9_letter_1 : decode cX9_letter 1 = .ok (.aload_n 0, 1) := by decide +kernel
theorem dX9_letter_2 : decode cX9_letter 2 = .ok (.getfield 83, 3) := by decide +kernel
theorem dX9_letter_5 : decode cX9_letter 5 = .ok (.bipush 6, 2) := by decide +kernel
theorem dX9_letter_7 : decode cX9_letter 7 = .ok (.if_icmp .ne 7, 3) := by decide +kernel
theorem dX9_letter_10 : decode cX9_letter 10 = .ok (.iconst 1, 1) := by decide +kernel
theorem dX9_letter_11 : decode cX9_letter 11 = .ok (.goto 4, 3) := by decide +kernel
theorem dX9_letter_14 : decode cX9_letter 14 = .ok (.iconst 0, 1) := by decide +kernel
theorem dX9_letter_15 : decode cX9_letter 15 = .ok (.invokevirtual 92, 3) := by decide +kernel
theorem dX9_letter_18 : decode cX9_letter 18 = .ok (.ifCond .ne 5, 3) := by decide +kernel
theorem dX9_letter_21 : decode cX9_letter 21 = .ok (.iconst 0, 1) := by decide +kernel
theorem dX9_letter_22 : decode cX9_letter 22 = .ok (.ireturn, 1) := by decide +kernel
theorem dX9_letter_23 : decode cX9_letter 23 = .ok (.aload_n 0, 1) := by decide +kernel
theorem dX9_letter_24 : decode cX9_letter 24 = .ok (.dup, 1) := by decide +kernel
theorem dX9_letter_25 : decode cX9_letter 25 = .ok (.getfield 83, 3) := by decide +kernel
theorem dX9_letter_28 : decode cX9_letter 28 = .ok (.iconst 1, 1) := by decide +kernel
theorem dX9_letter_29 : decode cX9_letter 29 = .ok (.iadd, 1) := by decide +kernel
theorem dX9_letter_30 : decode cX9_letter 30 = .ok (.putfield 83, 3) := by decide +kernel
theorem dX9_letter_33 : decode cX9_letter 33 = .ok (.aload_n 0, 1) := by decide +kernel
theorem dX9_letter_34 : decode cX9_letter 34 = .ok (.getfield 83, 3) := by decide +kernel
theorem dX9_letter_37 : decode cX9_letter 37 = .ok (.iconst 1, 1) := by decide +kernel
theorem dX9_letter_38 : decode cX9_letter 38 = .ok (.isub, 1) := by decide +kernel
theorem dX9_letter_39 : decode cX9_letter 39 = .ok (.ireturn, 1) := by decide +kernel
theorem dX9_has_0 : decode cX9_has 0 = .ok (.iconst 0, 1) := by decide +kernel
theorem dX9_has_1 : decode cX9_has 1 = .ok (.istore_n 3, 1) := by decide +kernel
theorem dX9_has_2 : decode cX9_has 2 = .ok (.iconst 0, 1) := by decide +kernel
theorem dX9_has_3 : decode cX9_has 3 = .ok (.istore 4, 2) := by decide +kernel
theorem dX9_has_5 : decode cX9_has 5 = .ok (.iload 4, 2) := by decide +kernel
theorem dX9_has_7 : decode cX9_has 7 = .ok (.aload_n 0, 1) := by decide +kernel
theorem dX9_has_8 : decode cX9_has 8 = .ok (.getfield 51, 3) := by decide +kernel
theorem dX9_has_11 : decode cX9_has 11 = .ok (.iload_n 1, 1) := by decide +kernel
theorem dX9_has_12 : decode cX9_has 12 = .ok (.iaload, 1) := by decide +kernel
theorem dX9_has_13 : decode cX9_has 13 = .ok (.if_icmp .ge 35, 3) := by decide +kernel
theorem dX9_has_16 : decode cX9_has 16 = .ok (.iload_n 3, 1) := by decide +kernel
theorem dX9_has_17 : decode cX9_has 17 = .ok (.ifCond .ne 19, 3) := by decide +kernel
theorem dX9_has_20 : decode cX9_has 20 = .ok (.aload_n 0, 1) := by decide +kernel
theorem dX9_has_21 : decode cX9_has 21 = .ok (.getfield 48, 3) := by decide +kernel
theorem dX9_has_24 : decode cX9_has 24 = .ok (.bipush 6, 2) := by decide +kernel
theorem dX9_has_26 : decode cX9_has 26 = .ok (.iload_n 1, 1) := by decide +kernel
theorem dX9_has_27 : decode cX9_has 27 = .ok (.imul, 1) := by decide +kernel
theorem dX9_has_28 : decode cX9_has 28 = .ok (.iload 4, 2) := by decide +kernel
theorem dX9_has_30 : decode cX9_has 30 = .ok (.iadd, 1) := by decide +kernel
theorem dX9_has_31 : decode cX9_has 31 = .ok (.iaload, 1) := by decide +kernel
theorem dX9_has_32 : decode cX9_has 32 = .ok (.iload_n 2, 1) := by decide +kernel
theorem dX9_has_33 : decode cX9_has 33 = .ok (.if_icmp .ne 7, 3) := by decide +kernel
theorem dX9_has_36 : decode cX9_has 36 = .ok (.iconst 1, 1) := by decide +kernel
theorem dX9_has_37 : decode cX9_has 37 = .ok (.goto 4, 3) := by decide +kernel
theorem dX9_has_40 : decode cX9_has 40 = .ok (.iconst 0, 1) := by decide +kernel
theorem dX9_has_41 : decode cX9_has 41 = .ok (.istore_n 3, 1) := by decide +kernel
theorem dX9_has_42 : decode cX9_has 42 = .ok (.iinc 4 1, 3) := by decide +kernel
theorem dX9_has_45 : decode cX9_has 45 = .ok (.goto (-40), 3) := by decide +kernel
theorem dX9_has_48 : decode cX9_has 48 = .ok (.iload_n 3, 1) := by decide +kernel
theorem dX9_has_49 : decode cX9_has 49 = .ok (.ireturn, 1) := by decide +kernel
theorem dX9_put_0 : decode cX9_put 0 = .ok (.aload_n 0, 1) := by decide +kernel
theorem dX9_put_1 : decode cX9_put 1 = .ok (.iload_n 1, 1) := by decide +kernel
theorem dX9_put_2 : decode cX9_put 2 = .ok (.invokevirtual 135, 3) := by decide +kernel
theorem dX9_put_5 : decode cX9_put 5 = .ok (.ifCond .eq 15, 3) := by decide +kernel
theorem dX9_put_8 : decode cX9_put 8 = .ok (.aload_n 0, 1) := by decide +kernel
theorem dX9_put_9 : decode cX9_put 9 = .ok (.iload_n 2, 1) := by decide +kernel
theorem dX9_put_10 : decode cX9_put 10 = .ok (.invokevirtual 125, 3) := by decide +kernel
theorem dX9_put_13 : decode cX9_put 13 = .ok (.ifCond .eq 7, 3) := by decide +kernel
theorem dX9_put_16 : decode cX9_put 16 = .ok (.iconst 1, 1) := by decide +kernel
theorem dX9_put_17 : decode cX9_put 17 = .ok (.goto 4, 3) := by decide +kernel
theorem dX9_put_20 : decode cX9_put 20 = .ok (.iconst 0, 1) := by decide +kernel
theorem dX9_put_21 : decode cX9_put 21 = .ok (.istore_n 3, 1) := by decide +kernel
theorem dX9_put_22 : decode cX9_put 22 = .ok (.aload_n 0, 1) := by decide +kernel
theorem dX9_put_23 : decode cX9_put 23 = .ok (.iload_n 3, 1) := by decide +kernel
theorem dX9_put_24 : decode cX9_put 24 = .ok (.ifCond .ne 7, 3) := by decide +kernel
theorem dX9_put_27 : decode cX9_put 27 = .ok (.iconst 1, 1) := by decide +kernel
theorem dX9_put_28 : decode cX9_put 28 = .ok (.goto 28, 3) := by decide +kernel
theorem dX9_put_31 : decode cX9_put 31 = .ok (.aload_n 0, 1) := by decide +kernel
theorem dX9_put_32 : decode cX9_put 32 = .ok (.iload_n 1, 1) := by decide +kernel
theorem dX9_put_33 : decode cX9_put 33 = .ok (.iload_n 2, 1) := by decide +kernel
theorem dX9_put_34 : decode cX9_put 34 = .ok (.invokevirtual 138, 3) := by decide +kernel
theorem dX9_put_37 : decode cX9_put 37 = .ok (.ifCond .ne 14, 3) := by decide +kernel
theorem dX9_put_40 : decode cX9_put 40 = .ok (.aload_n 0, 1) := by decide +kernel
theorem dX9_put_41 : decode cX9_put 41 = .ok (.getfield 51, 3) := by decide +kernel
theorem dX9_put_44 : decode cX9_put 44 = .ok (.iload_n 1, 1) := by decide +kernel
theorem dX9_put_45 : decode cX9_put 45 = .ok (.iaload, 1) := by decide +kernel
theorem dX9_put_46 : decode cX9_put 46 = .ok (.bipush 6, 2) := by decide +kernel
theorem dX9_put_48 : decode cX9_put 48 = .ok (.if_icmp .ne 7, 3) := by decide +kernel
theorem dX9_put_51 : decode cX9_put 51 = .ok (.iconst 2, 1) := by decide +kernel
theorem dX9_put_52 : decode cX9_put 52 = .ok (.goto 4, 3) := by decide +kernel
theorem dX9_put_55 : decode cX9_put 55 = .ok (.iconst 0, 1) := by decide +kernel
theorem dX9_put_56 : decode cX9_put 56 = .ok (.invokevirtual 92, 3) := by decide +kernel
theorem dX9_put_59 : decode cX9_put 59 = .ok (.ifCond .ne 5, 3) := by decide +kernel
theorem dX9_put_62 : decode cX9_put 62 = .ok (.iconst 0, 1) := by decide +kernel
theorem dX9_put_63 : decode cX9_put 63 = .ok (.ireturn, 1) := by decide +kernel
theorem dX9_put_64 : decode cX9_put 64 = .ok (.aload_n 0, 1) := by decide +kernel
theorem dX9_put_65 : decode cX9_put 65 = .ok (.getfield 48, 3) := by decide +kernel
theorem dX9_put_68 : decode cX9_put 68 = .ok (.bipush 6, 2) := by decide +kernel
theorem dX9_put_70 : decode cX9_put 70 = .ok (.iload_n 1, 1) := by decide +kernel
theorem dX9_put_71 : decode cX9_put 71 = .ok (.imul, 1) := by decide +kernel
theorem dX9_put_72 : decode cX9_put 72 = .ok (.aload_n 0, 1) := by decide +kernel
theorem dX9_put_73 : decode cX9_put 73 = .ok (.getfield 51, 3) := by decide +kernel
theorem dX9_put_76 : decode cX9_put 76 = .ok (.iload_n 1, 1) := by decide +kernel
theorem dX9_put_77 : decode cX9_put 77 = .ok (.iaload, 1) := by decide +kernel
theorem dX9_put_78 : decode cX9_put 78 = .ok (.iadd, 1) := by decide +kernel
theorem dX9_put_79 : decode cX9_put 79 = .ok (.iload_n 2, 1) := by decide +kernel
theorem dX9_put_80 : decode cX9_put 80 = .ok (.iastore, 1) := by decide +kernel
theorem dX9_put_81 : decode cX9_put 81 = .ok (.aload_n 0, 1) := by decide +kernel
theorem dX9_put_82 : decode cX9_put 82 = .ok (.getfield 51, 3) := by decide +kernel
theorem dX9_put_85 : decode cX9_put 85 = .ok (.iload_n 1, 1) := by decide +kernel
theorem dX9_put_86 : decode cX9_put 86 = .ok (.dup2, 1) := by decide +kernel
theorem dX9_put_87 : decode cX9_put 87 = .ok (.iaload, 1) := by decide +kernel
theorem dX9_put_88 : decode cX9_put 88 = .ok (.iconst 1, 1) := by decide +kernel
theorem dX9_put_89 : decode cX9_put 89 = .ok (.iadd, 1) := by decide +kernel
theorem dX9_put_90 : decode cX9_put 90 = .ok (.iastore, 1) := by decide +kernel
theorem dX9_put_91 : decode cX9_put 91 = .ok (.aload_n 0, 1) := by decide +kernel
theorem dX9_put_92 : decode cX9_put 92 = .ok (.getfield 51, 3) := by decide +kernel
theorem dX9_put_95 : decode cX9_put 95 = .ok (.iload_n 1, 1) := by decide +kernel
theorem dX9_put_96 : decode cX9_put 96 = .ok (.iaload, 1) := by decide +kernel
theorem dX9_put_97 : decode cX9_put 97 = .ok (.ireturn, 1) := by decide +kernel
theorem dX9_data_0 : decode cX9_data 0 = .ok (.aload_n 0, 1) := by decide +kernel
theorem dX9_data_1 : decode cX9_data 1 = .ok (.aload_n 0, 1) := by decide +kernel
theorem dX9_data_2 : decode cX9_data 2 = .ok (.iload_n 1, 1) := by decide +kernel
theorem dX9_data_3 : decode cX9_data 3 = .ok (.invokevirtual 111, 3) := by decide +kernel
theorem dX9_data_6 : decode cX9_data 6 = .ok (.ifCond .ne 7, 3) := by decide +kernel
theorem dX9_data_9 : decode cX9_data 9 = .ok (.iconst 1, 1) := by decide +kernel
theorem dX9_data_10 : decode cX9_data 10 = .ok (.goto 32, 3) := by decide +kernel
theorem dX9_data_13 : decode cX9_data 13 = .ok (.iload_n 2, 1) := by decide +kernel
theorem dX9_data_14 : decode cX9_data 14 = .ok (.iconst 0, 1) := by decide +kernel
theorem dX9_data_15 : decode cX9_data 15 = .ok (.sipush 255, 3) := by decide +kernel
theorem dX9_data_18 : decode cX9_data 18 = .ok (.invokestatic 73, 3) := by decide +kernel
theorem dX9_data_21 : decode cX9_data 21 = .ok (.ifCond .ne 7, 3) := by decide +kernel
theorem dX9_data_24 : decode cX9_data 24 = .ok (.iconst 2, 1) := by decide +kernel
theorem dX9_data_25 : decode cX9_data 25 = .ok (.goto 17, 3) := by decide +kernel
theorem dX9_data_28 : decode cX9_data 28 = .ok (.aload_n 0, 1) := by decide +kernel
theorem dX9_data_29 : decode cX9_data 29 = .ok (.getfield 86, 3) := by decide +kernel
theorem dX9_data_32 : decode cX9_data 32 = .ok (.bipush 8, 2) := by decide +kernel
theorem dX9_data_34 : decode cX9_data 34 = .ok (.if_icmp .ne 7, 3) := by decide +kernel
theorem dX9_data_37 : decode cX9_data 37 = .ok (.iconst 3, 1) := by decide +kernel
theorem dX9_data_38 : decode cX9_data 38 = .ok (.goto 4, 3) := by decide +kernel
theorem dX9_data_41 : decode cX9_data 41 = .ok (.iconst 0, 1) := by decide +kernel
theorem dX9_data_42 : decode cX9_data 42 = .ok (.invokevirtual 92, 3) := by decide +kernel
theorem dX9_data_45 : decode cX9_data 45 = .ok (.ifCond .ne 5, 3) := by decide +kernel
theorem dX9_data_48 : decode cX9_data 48 = .ok (.iconst 0, 1) := by decide +kernel
theorem dX9_data_49 : decode cX9_data 49 = .ok (.ireturn, 1) := by decide +kernel
theorem dX9_data_50 : decode cX9_data 50 = .ok (.iconst 0, 1) := by decide +kernel
theorem dX9_data_51 : decode cX9_data 51 = .ok (.istore_n 3, 1) := by decide +kernel
theorem dX9_data_52 : decode cX9_data 52 = .ok (.iload_n 3, 1) := by decide +kernel
theorem dX9_data_53 : decode cX9_data 53 = .ok (.iconst 5, 1) := by decide +kernel
theorem dX9_data_54 : decode cX9_data 54 = .ok (.if_icmp .ge 23, 3) := by decide +kernel
theorem dX9_data_57 : decode cX9_data 57 = .ok (.aload_n 0, 1) := by decide +kernel
theorem dX9_data_58 : decode cX9_data 58 = .ok (.getfield 54, 3) := by decide +kernel
theorem dX9_data_61 : decode cX9_data 61 = .ok (.iconst 5, 1) := by decide +kernel
theorem dX9_data_62 : decode cX9_data 62 = .ok (.aload_n 0, 1) := by decide +kernel
theorem dX9_data_63 : decode cX9_data 63 = .ok (.getfield 86, 3) := by decide +kernel
theorem dX9_data_66 : decode cX9_data 66 = .ok (.imul, 1) := by decide +kernel
theorem dX9_data_67 : decode cX9_data 67 = .ok (.iload_n 3, 1) := by decide +kernel
theorem dX9_data_68 : decode cX9_data 68 = .ok (.iadd, 1) := by decide +kernel
theorem dX9_data_69 : decode cX9_data 69 = .ok (.iload_n 1, 1) := by decide +kernel
theorem dX9_data_70 : decode cX9_data 70 = .ok (.iastore, 1) := by decide +kernel
theorem dX9_data_71 : decode cX9_data 71 = .ok (.iinc 3 1, 3) := by decide +kernel
theorem dX9_data_74 : decode cX9_data 74 = .ok (.goto (-22), 3) := by decide +kernel
theorem dX9_data_77 : decode cX9_data 77 = .ok (.aload_n 0, 1) := by decide +kernel
theorem dX9_data_78 : decode cX9_data 78 = .ok (.getfield 57, 3) := by decide +kernel
theorem dX9_data_81 : decode cX9_data 81 = .ok (.aload_n 0, 1) := by decide +kernel
theorem dX9_data_82 : decode cX9_data 82 = .ok (.getfield 86, 3) := by decide +kernel
theorem dX9_data_85 : decode cX9_data 85 = .ok (.iload_n 2, 1) := by decide +kernel
theorem dX9_data_86 : decode cX9_data 86 = .ok (.iastore, 1) := by decide +kernel
theorem dX9_data_87 : decode cX9_data 87 = .ok (.aload_n 0, 1) := by decide +kernel
theorem dX9_data_88 : decode cX9_data 88 = .ok (.dup, 1) := by decide +kernel
theorem dX9_data_89 : decode cX9_data 89 = .ok (.getfield 86, 3) := by decide +kernel
theorem dX9_data_92 : decode cX9_data 92 = .ok (.iconst 1, 1) := by decide +kernel
theorem dX9_data_93 : decode cX9_data 93 = .ok (.iadd, 1) := by decide +kernel
theorem dX9_data_94 : decode cX9_data 94 = .ok (.putfield 86, 3) := by decide +kernel
theorem dX9_data_97 : decode cX9_data 97 = .ok (.aload_n 0, 1) := by decide +kernel
theorem dX9_data_98 : decode cX9_data 98 = .ok (.getfield 86, 3) := by decide +kernel
theorem dX9_data_101 : decode cX9_data 101 = .ok (.iconst 1, 1) := by decide +kernel
theorem dX9_data_102 : decode cX9_data 102 = .ok (.isub, 1) := by decide +kernel
theorem dX9_data_103 : decode cX9_data 103 = .ok (.ireturn, 1) := by decide +kernel
theorem dX9_fill_0 : decode cX9_fill 0 = .ok (.aload_n 0, 1) := by decide +kernel
theorem dX9_fill_1 : decode cX9_fill 1 = .ok (.iload_n 1, 1) := by decide +kernel
theorem dX9_fill_2 : decode cX9_fill 2 = .ok (.invokevirtual 141, 3) := by decide +kernel
theorem dX9_fill_5 : decode cX9_fill 5 = .ok (.ifCond .eq 24, 3) := by decide +kernel
theorem dX9_fill_8 : decode cX9_fill 8 = .ok (.iload_n 2, 1) := by decide +kernel
theorem dX9_fill_9 : decode cX9_fill 9 = .ok (.iconst 0, 1) := by decide +kernel
theorem dX9_fill_10 : decode cX9_fill 10 = .ok (.iconst 4, 1) := by decide +kernel
theorem dX9_fill_11 : decode cX9_fill 11 = .ok (.invokestatic 73, 3) := by decide +kernel
theorem dX9_fill_14 : decode cX9_fill 14 = .ok (.ifCond .eq 15, 3) := by decide +kernel
theorem dX9_fill_17 : decode cX9_fill 17 = .ok (.aload_n 0, 1) := by decide +kernel
theorem dX9_fill_18 : decode cX9_fill 18 = .ok (.iload_n 3, 1) := by decide +kernel
theorem dX9_fill_19 : decode cX9_fill 19 = .ok (.invokevirtual 111, 3) := by decide +kernel
theorem dX9_fill_22 : decode cX9_fill 22 = .ok (.ifCond .eq 7, 3) := by decide +kernel
theorem dX9_fill_25 : decode cX9_fill 25 = .ok (.iconst 1, 1) := by decide +kernel
theorem dX9_fill_26 : decode cX9_fill 26 = .ok (.goto 4, 3) := by decide +kernel
theorem dX9_fill_29 : decode cX9_fill 29 = .ok (.iconst 0, 1) := by decide +kernel
theorem dX9_fill_30 : decode cX9_fill 30 = .ok (.istore 4, 2) := by decide +kernel
theorem dX9_fill_32 : decode cX9_fill 32 = .ok (.aload_n 0, 1) := by decide +kernel
theorem dX9_fill_33 : decode cX9_fill 33 = .ok (.iload 4, 2) := by decide +kernel
theorem dX9_fill_35 : decode cX9_fill 35 = .ok (.ifCond .eq 7, 3) := by decide +kernel
theorem dX9_fill_38 : decode cX9_fill 38 = .ok (.iconst 0, 1) := by decide +kernel
theorem dX9_fill_39 : decode cX9_fill 39 = .ok (.goto 4, 3) := by decide +kernel
theorem dX9_fill_42 : decode cX9_fill 42 = .ok (.iconst 1, 1) := by decide +kernel
theorem dX9_fill_43 : decode cX9_fill 43 = .ok (.invokevirtual 92, 3) := by decide +kernel
theorem dX9_fill_46 : decode cX9_fill 46 = .ok (.ifCond .ne 5, 3) := by decide +kernel
theorem dX9_fill_49 : decode cX9_fill 49 = .ok (.iconst 0, 1) := by decide +kernel
theorem dX9_fill_50 : decode cX9_fill 50 = .ok (.ireturn, 1) := by decide +kernel
theorem dX9_fill_51 : decode cX9_fill 51 = .ok (.aload_n 0, 1) := by decide +kernel
theorem dX9_fill_52 : decode cX9_fill 52 = .ok (.getfield 54, 3) := by decide +kernel
theorem dX9_fill_55 : decode cX9_fill 55 = .ok (.iconst 5, 1) := by decide +kernel
theorem dX9_fill_56 : decode cX9_fill 56 = .ok (.iload_n 1, 1) := by decide +kernel
theorem dX9_fill_57 : decode cX9_fill 57 = .ok (.imul, 1) := by decide +kernel
theorem dX9_fill_58 : decode cX9_fill 58 = .ok (.iload_n 2, 1) := by decide +kernel
theorem dX9_fill_59 : decode cX9_fill 59 = .ok (.iadd, 1) := by decide +kernel
theorem dX9_fill_60 : decode cX9_fill 60 = .ok (.iaload, 1) := by decide +kernel
theorem dX9_fill_61 : decode cX9_fill 61 = .ok (.istore 5, 2) := by decide +kernel
theorem dX9_fill_63 : decode cX9_fill 63 = .ok (.aload_n 0, 1) := by decide +kernel
theorem dX9_fill_64 : decode cX9_fill 64 = .ok (.getfield 54, 3) := by decide +kernel
theorem dX9_fill_67 : decode cX9_fill 67 = .ok (.iconst 5, 1) := by decide +kernel
theorem dX9_fill_68 : decode cX9_fill 68 = .ok (.iload_n 1, 1) := by decide +kernel
theorem dX9_fill_69 : decode cX9_fill 69 = .ok (.imul, 1) := by decide +kernel
theorem dX9_fill_70 : decode cX9_fill 70 = .ok (.iload_n 2, 1) := by decide +kernel
theorem dX9_fill_71 : decode cX9_fill 71 = .ok (.iadd, 1) := by decide +kernel
theorem dX9_fill_72 : decode cX9_fill 72 = .ok (.iload_n 3, 1) := by decide +kernel
theorem dX9_fill_73 : decode cX9_fill 73 = .ok (.iastore, 1) := by decide +kernel
theorem dX9_fill_74 : decode cX9_fill 74 = .ok (.iload 5, 2) := by decide +kernel
theorem dX9_fill_76 : decode cX9_fill 76 = .ok (.ireturn, 1) := by decide +kernel
theorem dX9_price_0 : decode cX9_price 0 = .ok (.aload_n 0, 1) := by decide +kernel
theorem dX9_price_1 : decode cX9_price 1 = .ok (.iload_n 1, 1) := by decide +kernel
theorem dX9_price_2 : decode cX9_price 2 = .ok (.invokestatic 108, 3) := by decide +kernel
theorem dX9_price_5 : decode cX9_price 5 = .ok (.ifCond .ne 7, 3) := by decide +kernel
theorem dX9_price_8 : decode cX9_price 8 = .ok (.iconst 1, 1) := by decide +kernel
theorem dX9_price_9 : decode cX9_price 9 = .ok (.goto 19, 3) := by decide +kernel
theorem dX9_price_12 : decode cX9_price 12 = .ok (.iload_n 2, 1) := by decide +kernel
theorem dX9_price_13 : decode cX9_price 13 = .ok (.iconst 0, 1) := by decide +kernel
theorem dX9_price_14 : decode cX9_price 14 = .ok (.sipush 1000, 3) := by decide +kernel
theorem dX9_price_17 : decode cX9_price 17 = .ok (.invokestatic 73, 3) := by decide +kernel
theorem dX9_price_20 : decode cX9_price 20 = .ok (.ifCond .eq 7, 3) := by decide +kernel
theorem dX9_price_23 : decode cX9_price 23 = .ok (.iconst 0, 1) := by decide +kernel
theorem dX9_price_24 : decode cX9_price 24 = .ok (.goto 4, 3) := by decide +kernel
theorem dX9_price_27 : decode cX9_price 27 = .ok (.iconst 2, 1) := by decide +kernel
theorem dX9_price_28 : decode cX9_price 28 = .ok (.invokevirtual 92, 3) := by decide +kernel
theorem dX9_price_31 : decode cX9_price 31 = .ok (.ifCond .ne 5, 3) := by decide +kernel
theorem dX9_price_34 : decode cX9_price 34 = .ok (.iconst 0, 1) := by decide +kernel
theorem dX9_price_35 : decode cX9_price 35 = .ok (.ireturn, 1) := by decide +kernel
theorem dX9_price_36 : decode cX9_price 36 = .ok (.aload_n 0, 1) := by decide +kernel
theorem dX9_price_37 : decode cX9_price 37 = .ok (.getfield 60, 3) := by decide +kernel
theorem dX9_price_40 : decode cX9_price 40 = .ok (.iload_n 1, 1) := by decide +kernel
theorem dX9_price_41 : decode cX9_price 41 = .ok (.iaload, 1) := by decide +kernel
theorem dX9_price_42 : decode cX9_price 42 = .ok (.istore_n 3, 1) := by decide +kernel
theorem dX9_price_43 : decode cX9_price 43 = .ok (.aload_n 0, 1) := by decide +kernel
theorem dX9_price_44 : decode cX9_price 44 = .ok (.getfield 60, 3) := by decide +kernel
theorem dX9_price_47 : decode cX9_price 47 = .ok (.iload_n 1, 1) := by decide +kernel
theorem dX9_price_48 : decode cX9_price 48 = .ok (.iload_n 2, 1) := by decide +kernel
theorem dX9_price_49 : decode cX9_price 49 = .ok (.iastore, 1) := by decide +kernel
theorem dX9_price_50 : decode cX9_price 50 = .ok (.iload_n 3, 1) := by decide +kernel
theorem dX9_price_51 : decode cX9_price 51 = .ok (.ireturn, 1) := by decide +kernel
theorem dX9_meets_0 : decode cX9_meets 0 = .ok (.aload_n 0, 1) := by decide +kernel
theorem dX9_meets_1 : decode cX9_meets 1 = .ok (.getfield 32, 3) := by decide +kernel
theorem dX9_meets_4 : decode cX9_meets 4 = .ok (.iload_n 2, 1) := by decide +kernel
theorem dX9_meets_5 : decode cX9_meets 5 = .ok (.iaload, 1) := by decide +kernel
theorem dX9_meets_6 : decode cX9_meets 6 = .ok (.iconst (-1), 1) := by decide +kernel
theorem dX9_meets_7 : decode cX9_meets 7 = .ok (.if_icmp .eq 22, 3) := by decide +kernel
theorem dX9_meets_10 : decode cX9_meets 10 = .ok (.aload_n 0, 1) := by decide +kernel
theorem dX9_meets_11 : decode cX9_meets 11 = .ok (.getfield 57, 3) := by decide +kernel
theorem dX9_meets_14 : decode cX9_meets 14 = .ok (.iload_n 1, 1) := by decide +kernel
theorem dX9_meets_15 : decode cX9_meets 15 = .ok (.iaload, 1) := by decide +kernel
theorem dX9_meets_16 : decode cX9_meets 16 = .ok (.aload_n 0, 1) := by decide +kernel
theorem dX9_meets_17 : decode cX9_meets 17 = .ok (.getfield 32, 3) := by decide +kernel
theorem dX9_meets_20 : decode cX9_meets 20 = .ok (.iload_n 2, 1) := by decide +kernel
theorem dX9_meets_21 : decode cX9_meets 21 = .ok (.iaload, 1) := by decide +kernel
theorem dX9_meets_22 : decode cX9_meets 22 = .ok (.ishr, 1) := by decide +kernel
theorem dX9_meets_23 : decode cX9_meets 23 = .ok (.iconst 1, 1) := by decide +kernel
theorem dX9_meets_24 : decode cX9_meets 24 = .ok (.iand, 1) := by decide +kernel
theorem dX9_meets_25 : decode cX9_meets 25 = .ok (.iconst 1, 1) := by decide +kernel
theorem dX9_meets_26 : decode cX9_meets 26 = .ok (.if_icmp .ne 7, 3) := by decide +kernel
theorem dX9_meets_29 : decode cX9_meets 29 = .ok (.iconst 1, 1) := by decide +kernel
theorem dX9_meets_30 : decode cX9_meets 30 = .ok (.goto 4, 3) := by decide +kernel
theorem dX9_meets_33 : decode cX9_meets 33 = .ok (.iconst 0, 1) := by decide +kernel
theorem dX9_meets_34 : decode cX9_meets 34 = .ok (.ireturn, 1) := by decide +kernel
theorem dX9_isBroken_0 : decode cX9_isBroken 0 = .ok (.iconst 0, 1) := by decide +kernel
theorem dX9_isBroken_1 : decode cX9_isBroken 1 = .ok (.istore 6, 2) := by decide +kernel
theorem dX9_isBroken_3 : decode cX9_isBroken 3 = .ok (.iconst 0, 1) := by decide +kernel
theorem dX9_isBroken_4 : decode cX9_isBroken 4 = .ok (.istore 7, 2) := by decide +kernel
theorem dX9_isBroken_6 : decode cX9_isBroken 6 = .ok (.iload 7, 2) := by decide +kernel
theorem dX9_isBroken_8 : decode cX9_isBroken 8 = .ok (.aload_n 0, 1) := by decide +kernel
theorem dX9_isBroken_9 : decode cX9_isBroken 9 = .ok (.getfield 80, 3) := by decide +kernel
theorem dX9_isBroken_12 : decode cX9_isBroken 12 = .ok (.if_icmp .ge 99, 3) := by decide +kernel
theorem dX9_isBroken_15 : decode cX9_isBroken 15 = .ok (.aload_n 0, 1) := by decide +kernel
theorem dX9_isBroken_16 : decode cX9_isBroken 16 = .ok (.iload_n 1, 1) := by decide +kernel
theorem dX9_isBroken_17 : decode cX9_isBroken 17 = .ok (.iload 7, 2) := by decide +kernel
theorem dX9_isBroken_19 : decode cX9_isBroken 19 = .ok (.invokevirtual 138, 3) := by decide +kernel
theorem dX9_isBroken_22 : decode cX9_isBroken 22 = .ok (.ifCond .eq 17, 3) := by decide +kernel
theorem dX9_isBroken_25 : decode cX9_isBroken 25 = .ok (.aload_n 0, 1) := by decide +kernel
theorem dX9_isBroken_26 : decode cX9_isBroken 26 = .ok (.iload_n 2, 1) := by decide +kernel
theorem dX9_isBroken_27 : decode cX9_isBroken 27 = .ok (.iload 7, 2) := by decide +kernel
theorem dX9_isBroken_29 : decode cX9_isBroken 29 = .ok (.invokevirtual 144, 3) := by decide +kernel
theorem dX9_isBroken_32 : decode cX9_isBroken 32 = .ok (.ifCond .eq 7, 3) := by decide +kernel
theorem dX9_isBroken_35 : decode cX9_isBroken 35 = .ok (.iconst 1, 1) := by decide +kernel
theorem dX9_isBroken_36 : decode cX9_isBroken 36 = .ok (.goto 4, 3) := by decide +kernel
theorem dX9_isBroken_39 : decode cX9_isBroken 39 = .ok (.iconst 0, 1) := by decide +kernel
theorem dX9_isBroken_40 : decode cX9_isBroken 40 = .ok (.istore 8, 2) := by decide +kernel
theorem dX9_isBroken_42 : decode cX9_isBroken 42 = .ok (.aload_n 0, 1) := by decide +kernel
theorem dX9_isBroken_43 : decode cX9_isBroken 43 = .ok (.getfield 45, 3) := by decide +kernel
theorem dX9_isBroken_46 : decode cX9_isBroken 46 = .ok (.bipush 10, 2) := by decide +kernel
theorem dX9_isBroken_48 : decode cX9_isBroken 48 = .ok (.bipush 10, 2) := by decide +kernel
theorem dX9_isBroken_50 : decode cX9_isBroken 50 = .ok (.iload 4, 2) := by decide +kernel
theorem dX9_isBroken_52 : decode cX9_isBroken 52 = .ok (.imul, 1) := by decide +kernel
theorem dX9_isBroken_53 : decode cX9_isBroken 53 = .ok (.iload_n 3, 1) := by decide +kernel
theorem dX9_isBroken_54 : decode cX9_isBroken 54 = .ok (.iadd, 1) := by decide +kernel
theorem dX9_isBroken_55 : decode cX9_isBroken 55 = .ok (.imul, 1) := by decide +kernel
theorem dX9_isBroken_56 : decode cX9_isBroken 56 = .ok (.iload 7, 2) := by decide +kernel
theorem dX9_isBroken_58 : decode cX9_isBroken 58 = .ok (.iadd, 1) := by decide +kernel
theorem dX9_isBroken_59 : decode cX9_isBroken 59 = .ok (.iaload, 1) := by decide +kernel
theorem dX9_isBroken_60 : decode cX9_isBroken 60 = .ok (.iload 5, 2) := by decide +kernel
theorem dX9_isBroken_62 : decode cX9_isBroken 62 = .ok (.if_icmp .ne 7, 3) := by decide +kernel
theorem dX9_isBroken_65 : decode cX9_isBroken 65 = .ok (.iconst 1, 1) := by decide +kernel
theorem dX9_isBroken_66 : decode cX9_isBroken 66 = .ok (.goto 4, 3) := by decide +kernel
theorem dX9_isBroken_69 : decode cX9_isBroken 69 = .ok (.iconst 0, 1) := by decide +kernel
theorem dX9_isBroken_70 : decode cX9_isBroken 70 = .ok (.istore 9, 2) := by decide +kernel
theorem dX9_isBroken_72 : decode cX9_isBroken 72 = .ok (.iload 6, 2) := by decide +kernel
theorem dX9_isBroken_74 : decode cX9_isBroken 74 = .ok (.ifCond .ne 24, 3) := by decide +kernel
theorem dX9_isBroken_77 : decode cX9_isBroken 77 = .ok (.iload 9, 2) := by decide +kernel
theorem dX9_isBroken_79 : decode cX9_isBroken 79 = .ok (.ifCond .eq 23, 3) := by decide +kernel
theorem dX9_isBroken_82 : decode cX9_isBroken 82 = .ok (.iload 8, 2) := by decide +kernel
theorem dX9_isBroken_84 : decode cX9_isBroken 84 = .ok (.iload 5, 2) := by decide +kernel
theorem dX9_isBroken_86 : decode cX9_isBroken 86 = .ok (.iconst 2, 1) := by decide +kernel
theorem dX9_isBroken_87 : decode cX9_isBroken 87 = .ok (.if_icmp .ne 7, 3) := by decide +kernel
theorem dX9_isBroken_90 : decode cX9_isBroken 90 = .ok (.iconst 1, 1) := by decide +kernel
theorem dX9_isBroken_91 : decode cX9_isBroken 91 = .ok (.goto 4, 3) := by decide +kernel
theorem dX9_isBroken_94 : decode cX9_isBroken 94 = .ok (.iconst 0, 1) := by decide +kernel
theorem dX9_isBroken_95 : decode cX9_isBroken 95 = .ok (.if_icmp .ne 7, 3) := by decide +kernel
theorem dX9_isBroken_98 : decode cX9_isBroken 98 = .ok (.iconst 1, 1) := by decide +kernel
theorem dX9_isBroken_99 : decode cX9_isBroken 99 = .ok (.goto 4, 3) := by decide +kernel
theorem dX9_isBroken_102 : decode cX9_isBroken 102 = .ok (.iconst 0, 1) := by decide +kernel
theorem dX9_isBroken_103 : decode cX9_isBroken 103 = .ok (.istore 6, 2) := by decide +kernel
theorem dX9_isBroken_105 : decode cX9_isBroken 105 = .ok (.iinc 7 1, 3) := by decide +kernel
theorem dX9_isBroken_108 : decode cX9_isBroken 108 = .ok (.goto (-102), 3) := by decide +kernel
theorem dX9_isBroken_111 : decode cX9_isBroken 111 = .ok (.iload 6, 2) := by decide +kernel
theorem dX9_isBroken_113 : decode cX9_isBroken 113 = .ok (.ireturn, 1) := by decide +kernel
theorem dX9_faultOf_0 : decode cX9_faultOf 0 = .ok (.aload_n 0, 1) := by decide +kernel
theorem dX9_faultOf_1 : decode cX9_faultOf 1 = .ok (.iload_n 1, 1) := by decide +kernel
theorem dX9_faultOf_2 : decode cX9_faultOf 2 = .ok (.invokevirtual 135, 3) := by decide +kernel
theorem dX9_faultOf_5 : decode cX9_faultOf 5 = .ok (.ifCond .eq 22, 3) := by decide +kernel
theorem dX9_faultOf_8 : decode cX9_faultOf 8 = .ok (.aload_n 0, 1) := by decide +kernel
theorem dX9_faultOf_9 : decode cX9_faultOf 9 = .ok (.iload_n 2, 1) := by decide +kernel
theorem dX9_faultOf_10 : decode cX9_faultOf 10 = .ok (.invokevirtual 141, 3) := by decide +kernel
theorem dX9_faultOf_13 : decode cX9_faultOf 13 = .ok (.ifCond .eq 14, 3) := by decide +kernel
theorem dX9_faultOf_16 : decode cX9_faultOf 16 = .ok (.iload_n 3, 1) := by decide +kernel
theorem dX9_faultOf_17 : decode cX9_faultOf 17 = .ok (.invokestatic 108, 3) := by decide +kernel
theorem dX9_faultOf_20 : decode cX9_faultOf 20 = .ok (.ifCond .eq 7, 3) := by decide +kernel
theorem dX9_faultOf_23 : decode cX9_faultOf 23 = .ok (.iconst 1, 1) := by decide +kernel
theorem dX9_faultOf_24 : decode cX9_faultOf 24 = .ok (.goto 4, 3) := by decide +kernel
theorem dX9_faultOf_27 : decode cX9_faultOf 27 = .ok (.iconst 0, 1) := by decide +kernel
theorem dX9_faultOf_28 : decode cX9_faultOf 28 = .ok (.istore 5, 2) := by decide +kernel
theorem dX9_faultOf_30 : decode cX9_faultOf 30 = .ok (.aload_n 0, 1) := by decide +kernel
theorem dX9_faultOf_31 : decode cX9_faultOf 31 = .ok (.iload 5, 2) := by decide +kernel
theorem dX9_faultOf_33 : decode cX9_faultOf 33 = .ok (.ifCond .ne 7, 3) := by decide +kernel
theorem dX9_faultOf_36 : decode cX9_faultOf 36 = .ok (.iconst 1, 1) := by decide +kernel
theorem dX9_faultOf_37 : decode cX9_faultOf 37 = .ok (.goto 18, 3) := by decide +kernel
theorem dX9_faultOf_40 : decode cX9_faultOf 40 = .ok (.iload 4, 2) := by decide +kernel
theorem dX9_faultOf_42 : decode cX9_faultOf 42 = .ok (.iconst 0, 1) := by decide +kernel
theorem dX9_faultOf_43 : decode cX9_faultOf 43 = .ok (.iconst 3, 1) := by decide +kernel
theorem dX9_faultOf_44 : decode cX9_faultOf 44 = .ok (.invokestatic 73, 3) := by decide +kernel
theorem dX9_faultOf_47 : decode cX9_faultOf 47 = .ok (.ifCond .eq 7, 3) := by decide +kernel
theorem dX9_faultOf_50 : decode cX9_faultOf 50 = .ok (.iconst 0, 1) := by decide +kernel
theorem dX9_faultOf_51 : decode cX9_faultOf 51 = .ok (.goto 4, 3) := by decide +kernel
theorem dX9_faultOf_54 : decode cX9_faultOf 54 = .ok (.iconst 2, 1) := by decide +kernel
theorem dX9_faultOf_55 : decode cX9_faultOf 55 = .ok (.invokevirtual 92, 3) := by decide +kernel
theorem dX9_faultOf_58 : decode cX9_faultOf 58 = .ok (.ifCond .ne 5, 3) := by decide +kernel
theorem dX9_faultOf_61 : decode cX9_faultOf 61 = .ok (.iconst 0, 1) := by decide +kernel
theorem dX9_faultOf_62 : decode cX9_faultOf 62 = .ok (.ireturn, 1) := by decide +kernel
theorem dX9_faultOf_63 : decode cX9_faultOf 63 = .ok (.iconst 0, 1) := by decide +kernel
theorem dX9_faultOf_64 : decode cX9_faultOf 64 = .ok (.istore 6, 2) := by decide +kernel
theorem dX9_faultOf_66 : decode cX9_faultOf 66 = .ok (.iload 6, 2) := by decide +kernel
theorem dX9_faultOf_68 : decode cX9_faultOf 68 = .ok (.aload_n 0, 1) := by decide +kernel
theorem dX9_faultOf_69 : decode cX9_faultOf 69 = .ok (.getfield 51, 3) := by decide +kernel
theorem dX9_faultOf_72 : decode cX9_faultOf 72 = .ok (.iload_n 1, 1) := by decide +kernel
theorem dX9_faultOf_73 : decode cX9_faultOf 73 = .ok (.iaload, 1) := by decide +kernel
theorem dX9_faultOf_74 : decode cX9_faultOf 74 = .ok (.if_icmp .ge 126, 3) := by decide +kernel
theorem dX9_faultOf_77 : decode cX9_faultOf 77 = .ok (.aload_n 0, 1) := by decide +kernel
theorem dX9_faultOf_78 : decode cX9_faultOf 78 = .ok (.getfield 48, 3) := by decide +kernel
theorem dX9_faultOf_81 : decode cX9_faultOf 81 = .ok (.bipush 6, 2) := by decide +kernel
theorem dX9_faultOf_83 : decode cX9_faultOf 83 = .ok (.iload_n 1, 1) := by decide +kernel
theorem dX9_faultOf_84 : decode cX9_faultOf 84 = .ok (.imul, 1) := by decide +kernel
theorem dX9_faultOf_85 : decode cX9_faultOf 85 = .ok (.iload 6, 2) := by decide +kernel
theorem dX9_faultOf_87 : decode cX9_faultOf 87 = .ok (.iadd, 1) := by decide +kernel
theorem dX9_faultOf_88 : decode cX9_faultOf 88 = .ok (.iaload, 1) := by decide +kernel
theorem dX9_faultOf_89 : decode cX9_faultOf 89 = .ok (.istore 7, 2) := by decide +kernel
theorem dX9_faultOf_91 : decode cX9_faultOf 91 = .ok (.iload 7, 2) := by decide +kernel
theorem dX9_faultOf_93 : decode cX9_faultOf 93 = .ok (.iload_n 3, 1) := by decide +kernel
theorem dX9_faultOf_94 : decode cX9_faultOf 94 = .ok (.invokestatic 128, 3) := by decide +kernel
theorem dX9_faultOf_97 : decode cX9_faultOf 97 = .ok (.istore 8, 2) := by decide +kernel
theorem dX9_faultOf_99 : decode cX9_faultOf 99 = .ok (.aload_n 0, 1) := by decide +kernel
theorem dX9_faultOf_100 : decode cX9_faultOf 100 = .ok (.iload_n 2, 1) := by decide +kernel
theorem dX9_faultOf_101 : decode cX9_faultOf 101 = .ok (.iload 7, 2) := by decide +kernel
theorem dX9_faultOf_103 : decode cX9_faultOf 103 = .ok (.invokevirtual 144, 3) := by decide +kernel
theorem dX9_faultOf_106 : decode cX9_faultOf 106 = .ok (.ifCond .ne 7, 3) := by decide +kernel
theorem dX9_faultOf_109 : decode cX9_faultOf 109 = .ok (.iconst 0, 1) := by decide +kernel
theorem dX9_faultOf_110 : decode cX9_faultOf 110 = .ok (.goto 68, 3) := by decide +kernel
theorem dX9_faultOf_113 : decode cX9_faultOf 113 = .ok (.aload_n 0, 1) := by decide +kernel
theorem dX9_faultOf_114 : decode cX9_faultOf 114 = .ok (.getfield 38, 3) := by decide +kernel
theorem dX9_faultOf_117 : decode cX9_faultOf 117 = .ok (.iload 8, 2) := by decide +kernel
theorem dX9_faultOf_119 : decode cX9_faultOf 119 = .ok (.iaload, 1) := by decide +kernel
theorem dX9_faultOf_120 : decode cX9_faultOf 120 = .ok (.ifCond .ne 7, 3) := by decide +kernel
theorem dX9_faultOf_123 : decode cX9_faultOf 123 = .ok (.iconst 1, 1) := by decide +kernel
theorem dX9_faultOf_124 : decode cX9_faultOf 124 = .ok (.goto 54, 3) := by decide +kernel
theorem dX9_faultOf_127 : decode cX9_faultOf 127 = .ok (.aload_n 0, 1) := by decide +kernel
theorem dX9_faultOf_128 : decode cX9_faultOf 128 = .ok (.getfield 41, 3) := by decide +kernel
theorem dX9_faultOf_131 : decode cX9_faultOf 131 = .ok (.iload 8, 2) := by decide +kernel
theorem dX9_faultOf_133 : decode cX9_faultOf 133 = .ok (.baload, 1) := by decide +kernel
theorem dX9_faultOf_134 : decode cX9_faultOf 134 = .ok (.ifCond .ne 7, 3) := by decide +kernel
theorem dX9_faultOf_137 : decode cX9_faultOf 137 = .ok (.iconst 2, 1) := by decide +kernel
theorem dX9_faultOf_138 : decode cX9_faultOf 138 = .ok (.goto 40, 3) := by decide +kernel
theorem dX9_faultOf_141 : decode cX9_faultOf 141 = .ok (.aload_n 0, 1) := by decide +kernel
theorem dX9_faultOf_142 : decode cX9_faultOf 142 = .ok (.iload_n 1, 1) := by decide +kernel
theorem dX9_faultOf_143 : decode cX9_faultOf 143 = .ok (.iload_n 2, 1) := by decide +kernel
theorem dX9_faultOf_144 : decode cX9_faultOf 144 = .ok (.iload 7, 2) := by decide +kernel
theorem dX9_faultOf_146 : decode cX9_faultOf 146 = .ok (.iload 4, 2) := by decide +kernel
theorem dX9_faultOf_148 : decode cX9_faultOf 148 = .ok (.iconst 1, 1) := by decide +kernel
theorem dX9_faultOf_149 : decode cX9_faultOf 149 = .ok (.invokevirtual 147, 3) := by decide +kernel
theorem dX9_faultOf_152 : decode cX9_faultOf 152 = .ok (.ifCond .eq 7, 3) := by decide +kernel
theorem dX9_faultOf_155 : decode cX9_faultOf 155 = .ok (.iconst 3, 1) := by decide +kernel
theorem dX9_faultOf_156 : decode cX9_faultOf 156 = .ok (.goto 22, 3) := by decide +kernel
theorem dX9_faultOf_159 : decode cX9_faultOf 159 = .ok (.aload_n 0, 1) := by decide +kernel
theorem dX9_faultOf_160 : decode cX9_faultOf 160 = .ok (.iload_n 1, 1) := by decide +kernel
theorem dX9_faultOf_161 : decode cX9_faultOf 161 = .ok (.iload_n 2, 1) := by decide +kernel
theorem dX9_faultOf_162 : decode cX9_faultOf 162 = .ok (.iload 7, 2) := by decide +kernel
theorem dX9_faultOf_164 : decode cX9_faultOf 164 = .ok (.iload 4, 2) := by decide +kernel
theorem dX9_faultOf_166 : decode cX9_faultOf 166 = .ok (.iconst 2, 1) := by decide +kernel
theorem dX9_faultOf_167 : decode cX9_faultOf 167 = .ok (.invokevirtual 147, 3) := by decide +kernel
theorem dX9_faultOf_170 : decode cX9_faultOf 170 = .ok (.ifCond .eq 7, 3) := by decide +kernel
theorem dX9_faultOf_173 : decode cX9_faultOf 173 = .ok (.iconst 4, 1) := by decide +kernel
theorem dX9_faultOf_174 : decode cX9_faultOf 174 = .ok (.goto 4, 3) := by decide +kernel
theorem dX9_faultOf_177 : decode cX9_faultOf 177 = .ok (.iconst 0, 1) := by decide +kernel
theorem dX9_faultOf_178 : decode cX9_faultOf 178 = .ok (.istore 9, 2) := by decide +kernel
theorem dX9_faultOf_180 : decode cX9_faultOf 180 = .ok (.iload 9, 2) := by decide +kernel
theorem dX9_faultOf_182 : decode cX9_faultOf 182 = .ok (.ifCond .le 12, 3) := by decide +kernel
theorem dX9_faultOf_185 : decode cX9_faultOf 185 = .ok (.bipush 10, 2) := by decide +kernel
theorem dX9_faultOf_187 : decode cX9_faultOf 187 = .ok (.iload 6, 2) := by decide +kernel
theorem dX9_faultOf_189 : decode cX9_faultOf 189 = .ok (.imul, 1) := by decide +kernel
theorem dX9_faultOf_190 : decode cX9_faultOf 190 = .ok (.iload 9, 2) := by decide +kernel
theorem dX9_faultOf_192 : decode cX9_faultOf 192 = .ok (.iadd, 1) := by decide +kernel
theorem dX9_faultOf_193 : decode cX9_faultOf 193 = .ok (.ireturn, 1) := by decide +kernel
theorem dX9_faultOf_194 : decode cX9_faultOf 194 = .ok (.iinc 6 1, 3) := by decide +kernel
theorem dX9_faultOf_197 : decode cX9_faultOf 197 = .ok (.goto (-131), 3) := by decide +kernel
theorem dX9_faultOf_200 : decode cX9_faultOf 200 = .ok (.iconst 0, 1) := by decide +kernel
theorem dX9_faultOf_201 : decode cX9_faultOf 201 = .ok (.ireturn, 1) := by decide +kernel
theorem dX9_lays_0 : decode cX9_lays 0 = .ok (.aload_n 0, 1) := by decide +kernel
theorem dX9_lays_1 : decode cX9_lays 1 = .ok (.getfield 63, 3) := by decide +kernel
theorem dX9_lays_4 : decode cX9_lays 4 = .ok (.aload_n 0, 1) := by decide +kernel
theorem dX9_lays_5 : decode cX9_lays 5 = .ok (.getfield 151, 3) := by decide +kernel
theorem dX9_lays_8 : decode cX9_lays 8 = .ok (.aload_n 0, 1) := by decide +kernel
theorem dX9_lays_9 : decode cX9_lays 9 = .ok (.getfield 154, 3) := by decide +kernel
theorem dX9_lays_12 : decode cX9_lays 12 = .ok (.ifCond .eq 21, 3) := by decide +kernel
theorem dX9_lays_15 : decode cX9_lays 15 = .ok (.iload_n 1, 1) := by decide +kernel
theorem dX9_lays_16 : decode cX9_lays 16 = .ok (.invokestatic 96, 3) := by decide +kernel
theorem dX9_lays_19 : decode cX9_lays 19 = .ok (.ifCond .eq 14, 3) := by decide +kernel
theorem dX9_lays_22 : decode cX9_lays 22 = .ok (.iload_n 1, 1) := by decide +kernel
theorem dX9_lays_23 : decode cX9_lays 23 = .ok (.bipush 97, 2) := by decide +kernel
theorem dX9_lays_25 : decode cX9_lays 25 = .ok (.isub, 1) := by decide +kernel
theorem dX9_lays_26 : decode cX9_lays 26 = .ok (.bipush 65, 2) := by decide +kernel
theorem dX9_lays_28 : decode cX9_lays 28 = .ok (.iadd, 1) := by decide +kernel
theorem dX9_lays_29 : decode cX9_lays 29 = .ok (.i2c, 1) := by decide +kernel
theorem dX9_lays_30 : decode cX9_lays 30 = .ok (.goto 4, 3) := by decide +kernel
theorem dX9_lays_33 : decode cX9_lays 33 = .ok (.iload_n 1, 1) := by decide +kernel
theorem dX9_lays_34 : decode cX9_lays 34 = .ok (.castore, 1) := by decide +kernel
theorem dX9_lays_35 : decode cX9_lays 35 = .ok (.aload_n 0, 1) := by decide +kernel
theorem dX9_lays_36 : decode cX9_lays 36 = .ok (.iload_n 1, 1) := by decide +kernel
theorem dX9_lays_37 : decode cX9_lays 37 = .ok (.bipush 46, 2) := by decide +kernel
theorem dX9_lays_39 : decode cX9_lays 39 = .ok (.if_icmp .eq 17, 3) := by decide +kernel
theorem dX9_lays_42 : decode cX9_lays 42 = .ok (.aload_n 0, 1) := by decide +kernel
theorem dX9_lays_43 : decode cX9_lays 43 = .ok (.getfield 154, 3) := by decide +kernel
theorem dX9_lays_46 : decode cX9_lays 46 = .ok (.ifCond .eq 14, 3) := by decide +kernel
theorem dX9_lays_49 : decode cX9_lays 49 = .ok (.iload_n 1, 1) := by decide +kernel
theorem dX9_lays_50 : decode cX9_lays 50 = .ok (.invokestatic 96, 3) := by decide +kernel
theorem dX9_lays_53 : decode cX9_lays 53 = .ok (.ifCond .ne 7, 3) := by decide +kernel
theorem dX9_lays_56 : decode cX9_lays 56 = .ok (.iconst 1, 1) := by decide +kernel
theorem dX9_lays_57 : decode cX9_lays 57 = .ok (.goto 4, 3) := by decide +kernel
theorem dX9_lays_60 : decode cX9_lays 60 = .ok (.iconst 0, 1) := by decide +kernel
theorem dX9_lays_61 : decode cX9_lays 61 = .ok (.putfield 154, 3) := by decide +kernel
theorem dX9_lays_64 : decode cX9_lays 64 = .ok (.aload_n 0, 1) := by decide +kernel
theorem dX9_lays_65 : decode cX9_lays 65 = .ok (.dup, 1) := by decide +kernel
theorem dX9_lays_66 : decode cX9_lays 66 = .ok (.getfield 151, 3) := by decide +kernel
theorem dX9_lays_69 : decode cX9_lays 69 = .ok (.iconst 1, 1) := by decide +kernel
theorem dX9_lays_70 : decode cX9_lays 70 = .ok (.iadd, 1) := by decide +kernel
theorem dX9_lays_71 : decode cX9_lays 71 = .ok (.putfield 151, 3) := by decide +kernel
theorem dX9_lays_74 : decode cX9_lays 74 = .ok (.return_, 1) := by decide +kernel
theorem dX9_laysForm_0 : decode cX9_laysForm 0 = .ok (.bipush 8, 2) := by decide +kernel
theorem dX9_laysForm_2 : decode cX9_laysForm 2 = .ok (.iload_n 2, 1) := by decide +kernel
theorem dX9_laysForm_3 : decode cX9_laysForm 3 = .ok (.imul, 1) := by decide +kernel
theorem dX9_laysForm_4 : decode cX9_laysForm 4 = .ok (.iload_n 3, 1) := by decide +kernel
theorem dX9_laysForm_5 : decode cX9_laysForm 5 = .ok (.iadd, 1) := by decide +kernel
theorem dX9_laysForm_6 : decode cX9_laysForm 6 = .ok (.istore 4, 2) := by decide +kernel
theorem dX9_laysForm_8 : decode cX9_laysForm 8 = .ok (.bipush 24, 2) := by decide +kernel
theorem dX9_laysForm_10 : decode cX9_laysForm 10 = .ok (.iload_n 1, 1) := by decide +kernel
theorem dX9_laysForm_11 : decode cX9_laysForm 11 = .ok (.imul, 1) := by decide +kernel
theorem dX9_laysForm_12 : decode cX9_laysForm 12 = .ok (.iload 4, 2) := by decide +kernel
theorem dX9_laysForm_14 : decode cX9_laysForm 14 = .ok (.iadd, 1) := by decide +kernel
theorem dX9_laysForm_15 : decode cX9_laysForm 15 = .ok (.istore 5, 2) := by decide +kernel
theorem dX9_laysForm_17 : decode cX9_laysForm 17 = .ok (.aload_n 0, 1) := by decide +kernel
theorem dX9_laysForm_18 : decode cX9_laysForm 18 = .ok (.getfield 29, 3) := by decide +kernel
theorem dX9_laysForm_21 : decode cX9_laysForm 21 = .ok (.iload 5, 2) := by decide +kernel
theorem dX9_laysForm_23 : decode cX9_laysForm 23 = .ok (.iaload, 1) := by decide +kernel
theorem dX9_laysForm_24 : decode cX9_laysForm 24 = .ok (.ifCond .le 42, 3) := by decide +kernel
theorem dX9_laysForm_27 : decode cX9_laysForm 27 = .ok (.iconst 0, 1) := by decide +kernel
theorem dX9_laysForm_28 : decode cX9_laysForm 28 = .ok (.istore 6, 2) := by decide +kernel
theorem dX9_laysForm_30 : decode cX9_laysForm 30 = .ok (.iload 6, 2) := by decide +kernel
theorem dX9_laysForm_32 : decode cX9_laysForm 32 = .ok (.aload_n 0, 1) := by decide +kernel
theorem dX9_laysForm_33 : decode cX9_laysForm 33 = .ok (.getfield 29, 3) := by decide +kernel
theorem dX9_laysForm_36 : decode cX9_laysForm 36 = .ok (.iload 5, 2) := by decide +kernel
theorem dX9_laysForm_38 : decode cX9_laysForm 38 = .ok (.iaload, 1) := by decide +kernel
theorem dX9_laysForm_39 : decode cX9_laysForm 39 = .ok (.if_icmp .ge 26, 3) := by decide +kernel
theorem dX9_laysForm_42 : decode cX9_laysForm 42 = .ok (.aload_n 0, 1) := by decide +kernel
theorem dX9_laysForm_43 : decode cX9_laysForm 43 = .ok (.aload_n 0, 1) := by decide +kernel
theorem dX9_laysForm_44 : decode cX9_laysForm 44 = .ok (.getfield 26, 3) := by decide +kernel
theorem dX9_laysForm_47 : decode cX9_laysForm 47 = .ok (.bipush 10, 2) := by decide +kernel
theorem dX9_laysForm_49 : decode cX9_laysForm 49 = .ok (.iload 5, 2) := by decide +kernel
theorem dX9_laysForm_51 : decode cX9_laysForm 51 = .ok (.imul, 1) := by decide +kernel
theorem dX9_laysForm_52 : decode cX9_laysForm 52 = .ok (.iload 6, 2) := by decide +kernel
theorem dX9_laysForm_54 : decode cX9_laysForm 54 = .ok (.iadd, 1) := by decide +kernel
theorem dX9_laysForm_55 : decode cX9_laysForm 55 = .ok (.caload, 1) := by decide +kernel
theorem dX9_laysForm_56 : decode cX9_laysForm 56 = .ok (.invokevirtual 158, 3) := by decide +kernel
theorem dX9_laysForm_59 : decode cX9_laysForm 59 = .ok (.iinc 6 1, 3) := by decide +kernel
theorem dX9_laysForm_62 : decode cX9_laysForm 62 = .ok (.goto (-32), 3) := by decide +kernel
theorem dX9_laysForm_65 : decode cX9_laysForm 65 = .ok (.return_, 1) := by decide +kernel
theorem dX9_laysForm_66 : decode cX9_laysForm 66 = .ok (.aload_n 0, 1) := by decide +kernel
theorem dX9_laysForm_67 : decode cX9_laysForm 67 = .ok (.getfield 13, 3) := by decide +kernel
theorem dX9_laysForm_70 : decode cX9_laysForm 70 = .ok (.bipush 10, 2) := by decide +kernel
theorem dX9_laysForm_72 : decode cX9_laysForm 72 = .ok (.iload_n 1, 1) := by decide +kernel
theorem dX9_laysForm_73 : decode cX9_laysForm 73 = .ok (.imul, 1) := by decide +kernel
theorem dX9_laysForm_74 : decode cX9_laysForm 74 = .ok (.aload_n 0, 1) := by decide +kernel
theorem dX9_laysForm_75 : decode cX9_laysForm 75 = .ok (.getfield 16, 3) := by decide +kernel
theorem dX9_laysForm_78 : decode cX9_laysForm 78 = .ok (.iload_n 1, 1) := by decide +kernel
theorem dX9_laysForm_79 : decode cX9_laysForm 79 = .ok (.iaload, 1) := by decide +kernel
theorem dX9_laysForm_80 : decode cX9_laysForm 80 = .ok (.iadd, 1) := by decide +kernel
theorem dX9_laysForm_81 : decode cX9_laysForm 81 = .ok (.iconst 1, 1) := by decide +kernel
theorem dX9_laysForm_82 : decode cX9_laysForm 82 = .ok (.isub, 1) := by decide +kernel
theorem dX9_laysForm_83 : decode cX9_laysForm 83 = .ok (.caload, 1) := by decide +kernel
theorem dX9_laysForm_84 : decode cX9_laysForm 84 = .ok (.istore 6, 2) := by decide +kernel
theorem dX9_laysForm_86 : decode cX9_laysForm 86 = .ok (.aload_n 0, 1) := by decide +kernel
theorem dX9_laysForm_87 : decode cX9_laysForm 87 = .ok (.getfield 23, 3) := by decide +kernel
theorem dX9_laysForm_90 : decode cX9_laysForm 90 = .ok (.iload 4, 2) := by decide +kernel
theorem dX9_laysForm_92 : decode cX9_laysForm 92 = .ok (.iaload, 1) := by decide +kernel
theorem dX9_laysForm_93 : decode cX9_laysForm 93 = .ok (.ifCond .le 30, 3) := by decide +kernel
theorem dX9_laysForm_96 : decode cX9_laysForm 96 = .ok (.iload 6, 2) := by decide +kernel
theorem dX9_laysForm_98 : decode cX9_laysForm 98 = .ok (.invokestatic 162, 3) := by decide +kernel
theorem dX9_laysForm_101 : decode cX9_laysForm 101 = .ok (.ifCond .eq 22, 3) := by decide +kernel
theorem dX9_laysForm_104 : decode cX9_laysForm 104 = .ok (.aload_n 0, 1) := by decide +kernel
theorem dX9_laysForm_105 : decode cX9_laysForm 105 = .ok (.getfield 20, 3) := by decide +kernel
theorem dX9_laysForm_108 : decode cX9_laysForm 108 = .ok (.iconst 4, 1) := by decide +kernel
theorem dX9_laysForm_109 : decode cX9_laysForm 109 = .ok (.iload 4, 2) := by decide +kernel
theorem dX9_laysForm_111 : decode cX9_laysForm 111 = .ok (.imul, 1) := by decide +kernel
theorem dX9_laysForm_112 : decode cX9_laysForm 112 = .ok (.caload, 1) := by decide +kernel
theorem dX9_laysForm_113 : decode cX9_laysForm 113 = .ok (.invokestatic 162, 3) := by decide +kernel
theorem dX9_laysForm_116 : decode cX9_laysForm 116 = .ok (.ifCond .eq 7, 3) := by decide +kernel
theorem dX9_laysForm_119 : decode cX9_laysForm 119 = .ok (.iconst 1, 1) := by decide +kernel
theorem dX9_laysForm_120 : decode cX9_laysForm 120 = .ok (.goto 4, 3) := by decide +kernel
theorem dX9_laysForm_123 : decode cX9_laysForm 123 = .ok (.iconst 0, 1) := by decide +kernel
theorem dX9_laysForm_124 : decode cX9_laysForm 124 = .ok (.istore 7, 2) := by decide +kernel
theorem dX9_laysForm_126 : decode cX9_laysForm 126 = .ok (.iconst 0, 1) := by decide +kernel
theorem dX9_laysForm_127 : decode cX9_laysForm 127 = .ok (.istore 8, 2) := by decide +kernel
theorem dX9_laysForm_129 : decode cX9_laysForm 129 = .ok (.iload 8, 2) := by decide +kernel
theorem dX9_laysForm_131 : decode cX9_laysForm 131 = .ok (.aload_n 0, 1) := by decide +kernel
theorem dX9_laysForm_132 : decode cX9_laysForm 132 = .ok (.getfield 16, 3) := by decide +kernel
theorem dX9_laysForm_135 : decode cX9_laysForm 135 = .ok (.iload_n 1, 1) := by decide +kernel
theorem dX9_laysForm_136 : decode cX9_laysForm 136 = .ok (.iaload, 1) := by decide +kernel
theorem dX9_laysForm_137 : decode cX9_laysForm 137 = .ok (.iload 7, 2) := by decide +kernel
theorem dX9_laysForm_139 : decode cX9_laysForm 139 = .ok (.ifCond .eq 7, 3) := by decide +kernel
theorem dX9_laysForm_142 : decode cX9_laysForm 142 = .ok (.iconst 1, 1) := by decide +kernel
theorem dX9_laysForm_143 : decode cX9_laysForm 143 = .ok (.goto 4, 3) := by decide +kernel
theorem dX9_laysForm_146 : decode cX9_laysForm 146 = .ok (.iconst 0, 1) := by decide +kernel
theorem dX9_laysForm_147 : decode cX9_laysForm 147 = .ok (.isub, 1) := by decide +kernel
theorem dX9_laysForm_148 : decode cX9_laysForm 148 = .ok (.if_icmp .ge 25, 3) := by decide +kernel
theorem dX9_laysForm_151 : decode cX9_laysForm 151 = .ok (.aload_n 0, 1) := by decide +kernel
theorem dX9_laysForm_152 : decode cX9_laysForm 152 = .ok (.aload_n 0, 1) := by decide +kernel
theorem dX9_laysForm_153 : decode cX9_laysForm 153 = .ok (.getfield 13, 3) := by decide +kernel
theorem dX9_laysForm_156 : decode cX9_laysForm 156 = .ok (.bipush 10, 2) := by decide +kernel
theorem dX9_laysForm_158 : decode cX9_laysForm 158 = .ok (.iload_n 1, 1) := by decide +kernel
theorem dX9_laysForm_159 : decode cX9_laysForm 159 = .ok (.imul, 1) := by decide +kernel
theorem dX9_laysForm_160 : decode cX9_laysForm 160 = .ok (.iload 8, 2) := by decide +kernel
theorem dX9_laysForm_162 : decode cX9_laysForm 162 = .ok (.iadd, 1) := by decide +kernel
theorem dX9_laysForm_163 : decode cX9_laysForm 163 = .ok (.caload, 1) := by decide +kernel
theorem dX9_laysForm_164 : decode cX9_laysForm 164 = .ok (.invokevirtual 158, 3) := by decide +kernel
theorem dX9_laysForm_167 : decode cX9_laysForm 167 = .ok (.iinc 8 1, 3) := by decide +kernel
theorem dX9_laysForm_170 : decode cX9_laysForm 170 = .ok (.goto (-41), 3) := by decide +kernel
theorem dX9_laysForm_173 : decode cX9_laysForm 173 = .ok (.iconst 0, 1) := by decide +kernel
theorem dX9_laysForm_174 : decode cX9_laysForm 174 = .ok (.istore 8, 2) := by decide +kernel
theorem dX9_laysForm_176 : decode cX9_laysForm 176 = .ok (.iload 8, 2) := by decide +kernel
theorem dX9_laysForm_178 : decode cX9_laysForm 178 = .ok (.aload_n 0, 1) := by decide +kernel
theorem dX9_laysForm_179 : decode cX9_laysForm 179 = .ok (.getfield 23, 3) := by decide +kernel
theorem dX9_laysForm_182 : decode cX9_laysForm 182 = .ok (.iload 4, 2) := by decide +kernel
theorem dX9_laysForm_184 : decode cX9_laysForm 184 = .ok (.iaload, 1) := by decide +kernel
theorem dX9_laysForm_185 : decode cX9_laysForm 185 = .ok (.if_icmp .ge 25, 3) := by decide +kernel
theorem dX9_laysForm_188 : decode cX9_laysForm 188 = .ok (.aload_n 0, 1) := by decide +kernel
theorem dX9_laysForm_189 : decode cX9_laysForm 189 = .ok (.aload_n 0, 1) := by decide +kernel
theorem dX9_laysForm_190 : decode cX9_laysForm 190 = .ok (.getfield 20, 3) := by decide +kernel
theorem dX9_laysForm_193 : decode cX9_laysForm 193 = .ok (.iconst 4, 1) := by decide +kernel
theorem dX9_laysForm_194 : decode cX9_laysForm 194 = .ok (.iload 4, 2) := by decide +kernel
theorem dX9_laysForm_196 : decode cX9_laysForm 196 = .ok (.imul, 1) := by decide +kernel
theorem dX9_laysForm_197 : decode cX9_laysForm 197 = .ok (.iload 8, 2) := by decide +kernel
theorem dX9_laysForm_199 : decode cX9_laysForm 199 = .ok (.iadd, 1) := by decide +kernel
theorem dX9_laysForm_200 : decode cX9_laysForm 200 = .ok (.caload, 1) := by decide +kernel
theorem dX9_laysForm_201 : decode cX9_laysForm 201 = .ok (.invokevirtual 158, 3) := by decide +kernel
theorem dX9_laysForm_204 : decode cX9_laysForm 204 = .ok (.iinc 8 1, 3) := by decide +kernel
theorem dX9_laysForm_207 : decode cX9_laysForm 207 = .ok (.goto (-31), 3) := by decide +kernel
theorem dX9_laysForm_210 : decode cX9_laysForm 210 = .ok (.return_, 1) := by decide +kernel
theorem dX9_grammar_0 : decode cX9_grammar 0 = .ok (.iconst 2, 1) := by decide +kernel
theorem dX9_grammar_1 : decode cX9_grammar 1 = .ok (.iload_n 0, 1) := by decide +kernel
theorem dX9_grammar_2 : decode cX9_grammar 2 = .ok (.bipush 110, 2) := by decide +kernel
theorem dX9_grammar_4 : decode cX9_grammar 4 = .ok (.if_icmp .ne 7, 3) := by decide +kernel
theorem dX9_grammar_7 : decode cX9_grammar 7 = .ok (.iconst 0, 1) := by decide +kernel
theorem dX9_grammar_8 : decode cX9_grammar 8 = .ok (.goto 24, 3) := by decide +kernel
theorem dX9_grammar_11 : decode cX9_grammar 11 = .ok (.iload_n 0, 1) := by decide +kernel
theorem dX9_grammar_12 : decode cX9_grammar 12 = .ok (.bipush 103, 2) := by decide +kernel
theorem dX9_grammar_14 : decode cX9_grammar 14 = .ok (.if_icmp .ne 7, 3) := by decide +kernel
theorem dX9_grammar_17 : decode cX9_grammar 17 = .ok (.iconst 1, 1) := by decide +kernel
theorem dX9_grammar_18 : decode cX9_grammar 18 = .ok (.goto 14, 3) := by decide +kernel
theorem dX9_grammar_21 : decode cX9_grammar 21 = .ok (.iload_n 0, 1) := by decide +kernel
theorem dX9_grammar_22 : decode cX9_grammar 22 = .ok (.bipush 100, 2) := by decide +kernel
theorem dX9_grammar_24 : decode cX9_grammar 24 = .ok (.if_icmp .ne 7, 3) := by decide +kernel
theorem dX9_grammar_27 : decode cX9_grammar 27 = .ok (.iconst 2, 1) := by decide +kernel
theorem dX9_grammar_28 : decode cX9_grammar 28 = .ok (.goto 4, 3) := by decide +kernel
theorem dX9_grammar_31 : decode cX9_grammar 31 = .ok (.iconst 3, 1) := by decide +kernel
theorem dX9_grammar_32 : decode cX9_grammar 32 = .ok (.imul, 1) := by decide +kernel
theorem dX9_grammar_33 : decode cX9_grammar 33 = .ok (.iload_n 1, 1) := by decide +kernel
theorem dX9_grammar_34 : decode cX9_grammar 34 = .ok (.bipush 112, 2) := by decide +kernel
theorem dX9_grammar_36 : decode cX9_grammar 36 = .ok (.if_icmp .ne 7, 3) := by decide +kernel
theorem dX9_grammar_39 : decode cX9_grammar 39 = .ok (.iconst 1, 1) := by decide +kernel
theorem dX9_grammar_40 : decode cX9_grammar 40 = .ok (.goto 4, 3) := by decide +kernel
theorem dX9_grammar_43 : decode cX9_grammar 43 = .ok (.iconst 0, 1) := by decide +kernel
theorem dX9_grammar_44 : decode cX9_grammar 44 = .ok (.iadd, 1) := by decide +kernel
theorem dX9_grammar_45 : decode cX9_grammar 45 = .ok (.ireturn, 1) := by decide +kernel
theorem dX9_laysText_0 : decode cX9_laysText 0 = .ok (.bipush 60, 2) := by decide +kernel
theorem dX9_laysText_2 : decode cX9_laysText 2 = .ok (.iload_n 1, 1) := by decide +kernel
theorem dX9_laysText_3 : decode cX9_laysText 3 = .ok (.imul, 1) := by decide +kernel
theorem dX9_laysText_4 : decode cX9_laysText 4 = .ok (.istore 4, 2) := by decide +kernel
theorem dX9_laysText_6 : decode cX9_laysText 6 = .ok (.iload 4, 2) := by decide +kernel
theorem dX9_laysText_8 : decode cX9_laysText 8 = .ok (.aload_n 0, 1) := by decide +kernel
theorem dX9_laysText_9 : decode cX9_laysText 9 = .ok (.getfield 38, 3) := by decide +kernel
theorem dX9_laysText_12 : decode cX9_laysText 12 = .ok (.iload_n 1, 1) := by decide +kernel
theorem dX9_laysText_13 : decode cX9_laysText 13 = .ok (.iaload, 1) := by decide +kernel
theorem dX9_laysText_14 : decode cX9_laysText 14 = .ok (.iadd, 1) := by decide +kernel
theorem dX9_laysText_15 : decode cX9_laysText 15 = .ok (.istore 5, 2) := by decide +kernel
theorem dX9_laysText_17 : decode cX9_laysText 17 = .ok (.iload 4, 2) := by decide +kernel
theorem dX9_laysText_19 : decode cX9_laysText 19 = .ok (.iload 5, 2) := by decide +kernel
theorem dX9_laysText_21 : decode cX9_laysText 21 = .ok (.if_icmp .ge 85, 3) := by decide +kernel
theorem dX9_laysText_24 : decode cX9_laysText 24 = .ok (.aload_n 0, 1) := by decide +kernel
theorem dX9_laysText_25 : decode cX9_laysText 25 = .ok (.getfield 35, 3) := by decide +kernel
theorem dX9_laysText_28 : decode cX9_laysText 28 = .ok (.iload 4, 2) := by decide +kernel
theorem dX9_laysText_30 : decode cX9_laysText 30 = .ok (.caload, 1) := by decide +kernel
theorem dX9_laysText_31 : decode cX9_laysText 31 = .ok (.bipush 91, 2) := by decide +kernel
theorem dX9_laysText_33 : decode cX9_laysText 33 = .ok (.if_icmp .ne 56, 3) := by decide +kernel
theorem dX9_laysText_36 : decode cX9_laysText 36 = .ok (.aload_n 0, 1) := by decide +kernel
theorem dX9_laysText_37 : decode cX9_laysText 37 = .ok (.aload_n 0, 1) := by decide +kernel
theorem dX9_laysText_38 : decode cX9_laysText 38 = .ok (.getfield 54, 3) := by decide +kernel
theorem dX9_laysText_41 : decode cX9_laysText 41 = .ok (.iconst 5, 1) := by decide +kernel
theorem dX9_laysText_42 : decode cX9_laysText 42 = .ok (.iload_n 2, 1) := by decide +kernel
theorem dX9_laysText_43 : decode cX9_laysText 43 = .ok (.imul, 1) := by decide +kernel
theorem dX9_laysText_44 : decode cX9_laysText 44 = .ok (.aload_n 0, 1) := by decide +kernel
theorem dX9_laysText_45 : decode cX9_laysText 45 = .ok (.getfield 35, 3) := by decide +kernel
theorem dX9_laysText_48 : decode cX9_laysText 48 = .ok (.iload 4, 2) := by decide +kernel
theorem dX9_laysText_50 : decode cX9_laysText 50 = .ok (.iconst 1, 1) := by decide +kernel
theorem dX9_laysText_51 : decode cX9_laysText 51 = .ok (.iadd, 1) := by decide +kernel
theorem dX9_laysText_52 : decode cX9_laysText 52 = .ok (.caload, 1) := by decide +kernel
theorem dX9_laysText_53 : decode cX9_laysText 53 = .ok (.iadd, 1) := by decide +kernel
theorem dX9_laysText_54 : decode cX9_laysText 54 = .ok (.bipush 48, 2) := by decide +kernel
theorem dX9_laysText_56 : decode cX9_laysText 56 = .ok (.isub, 1) := by decide +kernel
theorem dX9_laysText_57 : decode cX9_laysText 57 = .ok (.iaload, 1) := by decide +kernel
theorem dX9_laysText_58 : decode cX9_laysText 58 = .ok (.iload_n 3, 1) := by decide +kernel
theorem dX9_laysText_59 : decode cX9_laysText 59 = .ok (.aload_n 0, 1) := by decide +kernel
theorem dX9_laysText_60 : decode cX9_laysText 60 = .ok (.getfield 35, 3) := by decide +kernel
theorem dX9_laysText_63 : decode cX9_laysText 63 = .ok (.iload 4, 2) := by decide +kernel
theorem dX9_laysText_65 : decode cX9_laysText 65 = .ok (.iconst 2, 1) := by decide +kernel
theorem dX9_laysText_66 : decode cX9_laysText 66 = .ok (.iadd, 1) := by decide +kernel
theorem dX9_laysText_67 : decode cX9_laysText 67 = .ok (.caload, 1) := by decide +kernel
theorem dX9_laysText_68 : decode cX9_laysText 68 = .ok (.aload_n 0, 1) := by decide +kernel
theorem dX9_laysText_69 : decode cX9_laysText 69 = .ok (.getfield 35, 3) := by decide +kernel
theorem dX9_laysText_72 : decode cX9_laysText 72 = .ok (.iload 4, 2) := by decide +kernel
theorem dX9_laysText_74 : decode cX9_laysText 74 = .ok (.iconst 3, 1) := by decide +kernel
theorem dX9_laysText_75 : decode cX9_laysText 75 = .ok (.iadd, 1) := by decide +kernel
theorem dX9_laysText_76 : decode cX9_laysText 76 = .ok (.caload, 1) := by decide +kernel
theorem dX9_laysText_77 : decode cX9_laysText 77 = .ok (.invokestatic 165, 3) := by decide +kernel
theorem dX9_laysText_80 : decode cX9_laysText 80 = .ok (.invokevirtual 169, 3) := by decide +kernel
theorem dX9_laysText_83 : decode cX9_laysText 83 = .ok (.iinc 4 5, 3) := by decide +kernel
theorem dX9_laysText_86 : decode cX9_laysText 86 = .ok (.goto (-69), 3) := by decide +kernel
theorem dX9_laysText_89 : decode cX9_laysText 89 = .ok (.aload_n 0, 1) := by decide +kernel
theorem dX9_laysText_90 : decode cX9_laysText 90 = .ok (.aload_n 0, 1) := by decide +kernel
theorem dX9_laysText_91 : decode cX9_laysText 91 = .ok (.getfield 35, 3) := by decide +kernel
theorem dX9_laysText_94 : decode cX9_laysText 94 = .ok (.iload 4, 2) := by decide +kernel
theorem dX9_laysText_96 : decode cX9_laysText 96 = .ok (.caload, 1) := by decide +kernel
theorem dX9_laysText_97 : decode cX9_laysText 97 = .ok (.invokevirtual 158, 3) := by decide +kernel
theorem dX9_laysText_100 : decode cX9_laysText 100 = .ok (.iinc 4 1, 3) := by decide +kernel
theorem dX9_laysText_103 : decode cX9_laysText 103 = .ok (.goto (-86), 3) := by decide +kernel
theorem dX9_laysText_106 : decode cX9_laysText 106 = .ok (.return_, 1) := by decide +kernel
theorem dX9_builds_0 : decode cX9_builds 0 = .ok (.aload_n 0, 1) := by decide +kernel
theorem dX9_builds_1 : decode cX9_builds 1 = .ok (.iconst 0, 1) := by decide +kernel
theorem dX9_builds_2 : decode cX9_builds 2 = .ok (.putfield 151, 3) := by decide +kernel
theorem dX9_builds_5 : decode cX9_builds 5 = .ok (.aload_n 0, 1) := by decide +kernel
theorem dX9_builds_6 : decode cX9_builds 6 = .ok (.iconst 1, 1) := by decide +kernel
theorem dX9_builds_7 : decode cX9_builds 7 = .ok (.putfield 154, 3) := by decide +kernel
theorem dX9_builds_10 : decode cX9_builds 10 = .ok (.iconst 1, 1) := by decide +kernel
theorem dX9_builds_11 : decode cX9_builds 11 = .ok (.istore 4, 2) := by decide +kernel
theorem dX9_builds_13 : decode cX9_builds 13 = .ok (.iconst 0, 1) := by decide +kernel
theorem dX9_builds_14 : decode cX9_builds 14 = .ok (.istore 5, 2) := by decide +kernel
theorem dX9_builds_16 : decode cX9_builds 16 = .ok (.iload 5, 2) := by decide +kernel
theorem dX9_builds_18 : decode cX9_builds 18 = .ok (.aload_n 0, 1) := by decide +kernel
theorem dX9_builds_19 : decode cX9_builds 19 = .ok (.getfield 51, 3) := by decide +kernel
theorem dX9_builds_22 : decode cX9_builds 22 = .ok (.iload_n 1, 1) := by decide +kernel
theorem dX9_builds_23 : decode cX9_builds 23 = .ok (.iaload, 1) := by decide +kernel
theorem dX9_builds_24 : decode cX9_builds 24 = .ok (.if_icmp .ge 73, 3) := by decide +kernel
theorem dX9_builds_27 : decode cX9_builds 27 = .ok (.aload_n 0, 1) := by decide +kernel
theorem dX9_builds_28 : decode cX9_builds 28 = .ok (.getfield 48, 3) := by decide +kernel
theorem dX9_builds_31 : decode cX9_builds 31 = .ok (.bipush 6, 2) := by decide +kernel
theorem dX9_builds_33 : decode cX9_builds 33 = .ok (.iload_n 1, 1) := by decide +kernel
theorem dX9_builds_34 : decode cX9_builds 34 = .ok (.imul, 1) := by decide +kernel
theorem dX9_builds_35 : decode cX9_builds 35 = .ok (.iload 5, 2) := by decide +kernel
theorem dX9_builds_37 : decode cX9_builds 37 = .ok (.iadd, 1) := by decide +kernel
theorem dX9_builds_38 : decode cX9_builds 38 = .ok (.iaload, 1) := by decide +kernel
theorem dX9_builds_39 : decode cX9_builds 39 = .ok (.istore 6, 2) := by decide +kernel
theorem dX9_builds_41 : decode cX9_builds 41 = .ok (.iload 6, 2) := by decide +kernel
theorem dX9_builds_43 : decode cX9_builds 43 = .ok (.iload_n 3, 1) := by decide +kernel
theorem dX9_builds_44 : decode cX9_builds 44 = .ok (.invokestatic 128, 3) := by decide +kernel
theorem dX9_builds_47 : decode cX9_builds 47 = .ok (.istore 7, 2) := by decide +kernel
theorem dX9_builds_49 : decode cX9_builds 49 = .ok (.aload_n 0, 1) := by decide +kernel
theorem dX9_builds_50 : decode cX9_builds 50 = .ok (.iload_n 2, 1) := by decide +kernel
theorem dX9_builds_51 : decode cX9_builds 51 = .ok (.iload 6, 2) := by decide +kernel
theorem dX9_builds_53 : decode cX9_builds 53 = .ok (.invokevirtual 144, 3) := by decide +kernel
theorem dX9_builds_56 : decode cX9_builds 56 = .ok (.ifCond .eq 35, 3) := by decide +kernel
theorem dX9_builds_59 : decode cX9_builds 59 = .ok (.aload_n 0, 1) := by decide +kernel
theorem dX9_builds_60 : decode cX9_builds 60 = .ok (.getfield 38, 3) := by decide +kernel
theorem dX9_builds_63 : decode cX9_builds 63 = .ok (.iload 7, 2) := by decide +kernel
theorem dX9_builds_65 : decode cX9_builds 65 = .ok (.iaload, 1) := by decide +kernel
theorem dX9_builds_66 : decode cX9_builds 66 = .ok (.ifCond .le 25, 3) := by decide +kernel
theorem dX9_builds_69 : decode cX9_builds 69 = .ok (.iload 4, 2) := by decide +kernel
theorem dX9_builds_71 : decode cX9_builds 71 = .ok (.ifCond .ne 9, 3) := by decide +kernel
theorem dX9_builds_74 : decode cX9_builds 74 = .ok (.aload_n 0, 1) := by decide +kernel
theorem dX9_builds_75 : decode cX9_builds 75 = .ok (.bipush 32, 2) := by decide +kernel
theorem dX9_builds_77 : decode cX9_builds 77 = .ok (.invokevirtual 158, 3) := by decide +kernel
theorem dX9_builds_80 : decode cX9_builds 80 = .ok (.iconst 0, 1) := by decide +kernel
theorem dX9_builds_81 : decode cX9_builds 81 = .ok (.istore 4, 2) := by decide +kernel
theorem dX9_builds_83 : decode cX9_builds 83 = .ok (.aload_n 0, 1) := by decide +kernel
theorem dX9_builds_84 : decode cX9_builds 84 = .ok (.iload 7, 2) := by decide +kernel
theorem dX9_builds_86 : decode cX9_builds 86 = .ok (.iload_n 2, 1) := by decide +kernel
theorem dX9_builds_87 : decode cX9_builds 87 = .ok (.iload_n 3, 1) := by decide +kernel
theorem dX9_builds_88 : decode cX9_builds 88 = .ok (.invokevirtual 173, 3) := by decide +kernel
theorem dX9_builds_91 : decode cX9_builds 91 = .ok (.iinc 5 1, 3) := by decide +kernel
theorem dX9_builds_94 : decode cX9_builds 94 = .ok (.goto (-78), 3) := by decide +kernel
theorem dX9_builds_97 : decode cX9_builds 97 = .ok (.return_, 1) := by decide +kernel
theorem dX9_signOf_0 : decode cX9_signOf 0 = .ok (.aload_n 0, 1) := by decide +kernel
theorem dX9_signOf_1 : decode cX9_signOf 1 = .ok (.iload_n 1, 1) := by decide +kernel
theorem dX9_signOf_2 : decode cX9_signOf 2 = .ok (.invokevirtual 135, 3) := by decide +kernel
theorem dX9_signOf_5 : decode cX9_signOf 5 = .ok (.ifCond .eq 27, 3) := by decide +kernel
theorem dX9_signOf_8 : decode cX9_signOf 8 = .ok (.aload_n 0, 1) := by decide +kernel
theorem dX9_signOf_9 : decode cX9_signOf 9 = .ok (.iload_n 2, 1) := by decide +kernel
theorem dX9_signOf_10 : decode cX9_signOf 10 = .ok (.invokevirtual 141, 3) := by decide +kernel
theorem dX9_signOf_13 : decode cX9_signOf 13 = .ok (.ifCond .eq 19, 3) := by decide +kernel
theorem dX9_signOf_16 : decode cX9_signOf 16 = .ok (.iload_n 3, 1) := by decide +kernel
theorem dX9_signOf_17 : decode cX9_signOf 17 = .ok (.invokestatic 108, 3) := by decide +kernel
theorem dX9_signOf_20 : decode cX9_signOf 20 = .ok (.ifCond .eq 12, 3) := by decide +kernel
theorem dX9_signOf_23 : decode cX9_signOf 23 = .ok (.iload 4, 2) := by decide +kernel
theorem dX9_signOf_25 : decode cX9_signOf 25 = .ok (.ifCond .lt 7, 3) := by decide +kernel
theorem dX9_signOf_28 : decode cX9_signOf 28 = .ok (.iconst 1, 1) := by decide +kernel
theorem dX9_signOf_29 : decode cX9_signOf 29 = .ok (.goto 4, 3) := by decide +kernel
theorem dX9_signOf_32 : decode cX9_signOf 32 = .ok (.iconst 0, 1) := by decide +kernel
theorem dX9_signOf_33 : decode cX9_signOf 33 = .ok (.istore 5, 2) := by decide +kernel
theorem dX9_signOf_35 : decode cX9_signOf 35 = .ok (.aload_n 0, 1) := by decide +kernel
theorem dX9_signOf_36 : decode cX9_signOf 36 = .ok (.iload 5, 2) := by decide +kernel
theorem dX9_signOf_38 : decode cX9_signOf 38 = .ok (.ifCond .eq 7, 3) := by decide +kernel
theorem dX9_signOf_41 : decode cX9_signOf 41 = .ok (.iconst 0, 1) := by decide +kernel
theorem dX9_signOf_42 : decode cX9_signOf 42 = .ok (.goto 4, 3) := by decide +kernel
theorem dX9_signOf_45 : decode cX9_signOf 45 = .ok (.iconst 1, 1) := by decide +kernel
theorem dX9_signOf_46 : decode cX9_signOf 46 = .ok (.invokevirtual 92, 3) := by decide +kernel
theorem dX9_signOf_49 : decode cX9_signOf 49 = .ok (.ifCond .ne 5, 3) := by decide +kernel
theorem dX9_signOf_52 : decode cX9_signOf 52 = .ok (.iconst 0, 1) := by decide +kernel
theorem dX9_signOf_53 : decode cX9_signOf 53 = .ok (.ireturn, 1) := by decide +kernel
theorem dX9_signOf_54 : decode cX9_signOf 54 = .ok (.aload_n 0, 1) := by decide +kernel
theorem dX9_signOf_55 : decode cX9_signOf 55 = .ok (.iload_n 1, 1) := by decide +kernel
theorem dX9_signOf_56 : decode cX9_signOf 56 = .ok (.iload_n 2, 1) := by decide +kernel
theorem dX9_signOf_57 : decode cX9_signOf 57 = .ok (.iload_n 3, 1) := by decide +kernel
theorem dX9_signOf_58 : decode cX9_signOf 58 = .ok (.invokevirtual 176, 3) := by decide +kernel
theorem dX9_signOf_61 : decode cX9_signOf 61 = .ok (.iload 4, 2) := by decide +kernel
theorem dX9_signOf_63 : decode cX9_signOf 63 = .ok (.aload_n 0, 1) := by decide +kernel
theorem dX9_signOf_64 : decode cX9_signOf 64 = .ok (.getfield 151, 3) := by decide +kernel
theorem dX9_signOf_67 : decode cX9_signOf 67 = .ok (.if_icmp .ge 13, 3) := by decide +kernel
theorem dX9_signOf_70 : decode cX9_signOf 70 = .ok (.aload_n 0, 1) := by decide +kernel
theorem dX9_signOf_71 : decode cX9_signOf 71 = .ok (.getfield 63, 3) := by decide +kernel
theorem dX9_signOf_74 : decode cX9_signOf 74 = .ok (.iload 4, 2) := by decide +kernel
theorem dX9_signOf_76 : decode cX9_signOf 76 = .ok (.caload, 1) := by decide +kernel
theorem dX9_signOf_77 : decode cX9_signOf 77 = .ok (.goto 4, 3) := by decide +kernel
theorem dX9_signOf_80 : decode cX9_signOf 80 = .ok (.iconst 0, 1) := by decide +kernel
theorem dX9_signOf_81 : decode cX9_signOf 81 = .ok (.ireturn, 1) := by decide +kernel
theorem dX9_sign_0 : decode cX9_sign 0 = .ok (.aload_n 0, 1) := by decide +kernel
theorem dX9_sign_1 : decode cX9_sign 1 = .ok (.iload_n 1, 1) := by decide +kernel
theorem dX9_sign_2 : decode cX9_sign 2 = .ok (.iload_n 2, 1) := by decide +kernel
theorem dX9_sign_3 : decode cX9_sign 3 = .ok (.iload_n 3, 1) := by decide +kernel
theorem dX9_sign_4 : decode cX9_sign 4 = .ok (.iload 4, 2) := by decide +kernel
theorem dX9_sign_6 : decode cX9_sign 6 = .ok (.invokevirtual 179, 3) := by decide +kernel
theorem dX9_sign_9 : decode cX9_sign 9 = .ok (.ireturn, 1) := by decide +kernel
theorem dX9_signAnew_0 : decode cX9_signAnew 0 = .ok (.aload_n 0, 1) := by decide +kernel
theorem dX9_signAnew_1 : decode cX9_signAnew 1 = .ok (.iload_n 1, 1) := by decide +kernel
theorem dX9_signAnew_2 : decode cX9_signAnew 2 = .ok (.iload_n 2, 1) := by decide +kernel
theorem dX9_signAnew_3 : decode cX9_signAnew 3 = .ok (.iload_n 3, 1) := by decide +kernel
theorem dX9_signAnew_4 : decode cX9_signAnew 4 = .ok (.iload 4, 2) := by decide +kernel
theorem dX9_signAnew_6 : decode cX9_signAnew 6 = .ok (.invokevirtual 179, 3) := by decide +kernel
theorem dX9_signAnew_9 : decode cX9_signAnew 9 = .ok (.ireturn, 1) := by decide +kernel
theorem dX9_costs_0 : decode cX9_costs 0 = .ok (.aload_n 0, 1) := by decide +kernel
theorem dX9_costs_1 : decode cX9_costs 1 = .ok (.iload_n 1, 1) := by decide +kernel
theorem dX9_costs_2 : decode cX9_costs 2 = .ok (.invokevirtual 135, 3) := by decide +kernel
theorem dX9_costs_5 : decode cX9_costs 5 = .ok (.ifCond .eq 22, 3) := by decide +kernel
theorem dX9_costs_8 : decode cX9_costs 8 = .ok (.aload_n 0, 1) := by decide +kernel
theorem dX9_costs_9 : decode cX9_costs 9 = .ok (.iload_n 2, 1) := by decide +kernel
theorem dX9_costs_10 : decode cX9_costs 10 = .ok (.invokevirtual 141, 3) := by decide +kernel
theorem dX9_costs_13 : decode cX9_costs 13 = .ok (.ifCond .eq 14, 3) := by decide +kernel
theorem dX9_costs_16 : decode cX9_costs 16 = .ok (.iload_n 3, 1) := by decide +kernel
theorem dX9_costs_17 : decode cX9_costs 17 = .ok (.invokestatic 108, 3) := by decide +kernel
theorem dX9_costs_20 : decode cX9_costs 20 = .ok (.ifCond .eq 7, 3) := by decide +kernel
theorem dX9_costs_23 : decode cX9_costs 23 = .ok (.iconst 1, 1) := by decide +kernel
theorem dX9_costs_24 : decode cX9_costs 24 = .ok (.goto 4, 3) := by decide +kernel
theorem dX9_costs_27 : decode cX9_costs 27 = .ok (.iconst 0, 1) := by decide +kernel
theorem dX9_costs_28 : decode cX9_costs 28 = .ok (.istore 4, 2) := by decide +kernel
theorem dX9_costs_30 : decode cX9_costs 30 = .ok (.aload_n 0, 1) := by decide +kernel
theorem dX9_costs_31 : decode cX9_costs 31 = .ok (.iload 4, 2) := by decide +kernel
theorem dX9_costs_33 : decode cX9_costs 33 = .ok (.ifCond .eq 7, 3) := by decide +kernel
theorem dX9_costs_36 : decode cX9_costs 36 = .ok (.iconst 0, 1) := by decide +kernel
theorem dX9_costs_37 : decode cX9_costs 37 = .ok (.goto 4, 3) := by decide +kernel
theorem dX9_costs_40 : decode cX9_costs 40 = .ok (.iconst 1, 1) := by decide +kernel
theorem dX9_costs_41 : decode cX9_costs 41 = .ok (.invokevirtual 92, 3) := by decide +kernel
theorem dX9_costs_44 : decode cX9_costs 44 = .ok (.ifCond .ne 5, 3) := by decide +kernel
theorem dX9_costs_47 : decode cX9_costs 47 = .ok (.iconst 0, 1) := by decide +kernel
theorem dX9_costs_48 : decode cX9_costs 48 = .ok (.ireturn, 1) := by decide +kernel
theorem dX9_costs_49 : decode cX9_costs 49 = .ok (.aload_n 0, 1) := by decide +kernel
theorem dX9_costs_50 : decode cX9_costs 50 = .ok (.iload_n 1, 1) := by decide +kernel
theorem dX9_costs_51 : decode cX9_costs 51 = .ok (.iload_n 2, 1) := by decide +kernel
theorem dX9_costs_52 : decode cX9_costs 52 = .ok (.iload_n 3, 1) := by decide +kernel
theorem dX9_costs_53 : decode cX9_costs 53 = .ok (.invokevirtual 176, 3) := by decide +kernel
theorem dX9_costs_56 : decode cX9_costs 56 = .ok (.iconst 0, 1) := by decide +kernel
theorem dX9_costs_57 : decode cX9_costs 57 = .ok (.istore 5, 2) := by decide +kernel
theorem dX9_costs_59 : decode cX9_costs 59 = .ok (.iconst 0, 1) := by decide +kernel
theorem dX9_costs_60 : decode cX9_costs 60 = .ok (.istore 6, 2) := by decide +kernel
theorem dX9_costs_62 : decode cX9_costs 62 = .ok (.iconst 0, 1) := by decide +kernel
theorem dX9_costs_63 : decode cX9_costs 63 = .ok (.istore 7, 2) := by decide +kernel
theorem dX9_costs_65 : decode cX9_costs 65 = .ok (.iload 7, 2) := by decide +kernel
theorem dX9_costs_67 : decode cX9_costs 67 = .ok (.aload_n 0, 1) := by decide +kernel
theorem dX9_costs_68 : decode cX9_costs 68 = .ok (.getfield 151, 3) := by decide +kernel
theorem dX9_costs_71 : decode cX9_costs 71 = .ok (.if_icmp .ge 77, 3) := by decide +kernel
theorem dX9_costs_74 : decode cX9_costs 74 = .ok (.aload_n 0, 1) := by decide +kernel
theorem dX9_costs_75 : decode cX9_costs 75 = .ok (.getfield 63, 3) := by decide +kernel
theorem dX9_costs_78 : decode cX9_costs 78 = .ok (.iload 7, 2) := by decide +kernel
theorem dX9_costs_80 : decode cX9_costs 80 = .ok (.caload, 1) := by decide +kernel
theorem dX9_costs_81 : decode cX9_costs 81 = .ok (.invokestatic 96, 3) := by decide +kernel
theorem dX9_costs_84 : decode cX9_costs 84 = .ok (.ifCond .ne 27, 3) := by decide +kernel
theorem dX9_costs_87 : decode cX9_costs 87 = .ok (.aload_n 0, 1) := by decide +kernel
theorem dX9_costs_88 : decode cX9_costs 88 = .ok (.getfield 63, 3) := by decide +kernel
theorem dX9_costs_91 : decode cX9_costs 91 = .ok (.iload 7, 2) := by decide +kernel
theorem dX9_costs_93 : decode cX9_costs 93 = .ok (.caload, 1) := by decide +kernel
theorem dX9_costs_94 : decode cX9_costs 94 = .ok (.bipush 65, 2) := by decide +kernel
theorem dX9_costs_96 : decode cX9_costs 96 = .ok (.if_icmp .lt 19, 3) := by decide +kernel
theorem dX9_costs_99 : decode cX9_costs 99 = .ok (.aload_n 0, 1) := by decide +kernel
theorem dX9_costs_100 : decode cX9_costs 100 = .ok (.getfield 63, 3) := by decide +kernel
theorem dX9_costs_103 : decode cX9_costs 103 = .ok (.iload 7, 2) := by decide +kernel
theorem dX9_costs_105 : decode cX9_costs 105 = .ok (.caload, 1) := by decide +kernel
theorem dX9_costs_106 : decode cX9_costs 106 = .ok (.bipush 90, 2) := by decide +kernel
theorem dX9_costs_108 : decode cX9_costs 108 = .ok (.if_icmp .gt 7, 3) := by decide +kernel
theorem dX9_costs_111 : decode cX9_costs 111 = .ok (.iconst 1, 1) := by decide +kernel
theorem dX9_costs_112 : decode cX9_costs 112 = .ok (.goto 4, 3) := by decide +kernel
theorem dX9_costs_115 : decode cX9_costs 115 = .ok (.iconst 0, 1) := by decide +kernel
theorem dX9_costs_116 : decode cX9_costs 116 = .ok (.istore 8, 2) := by decide +kernel
theorem dX9_costs_118 : decode cX9_costs 118 = .ok (.iload 5, 2) := by decide +kernel
theorem dX9_costs_120 : decode cX9_costs 120 = .ok (.iload 8, 2) := by decide +kernel
theorem dX9_costs_122 : decode cX9_costs 122 = .ok (.ifCond .eq 12, 3) := by decide +kernel
theorem dX9_costs_125 : decode cX9_costs 125 = .ok (.iload 6, 2) := by decide +kernel
theorem dX9_costs_127 : decode cX9_costs 127 = .ok (.ifCond .ne 7, 3) := by decide +kernel
theorem dX9_costs_130 : decode cX9_costs 130 = .ok (.iconst 1, 1) := by decide +kernel
theorem dX9_costs_131 : decode cX9_costs 131 = .ok (.goto 4, 3) := by decide +kernel
theorem dX9_costs_134 : decode cX9_costs 134 = .ok (.iconst 0, 1) := by decide +kernel
theorem dX9_costs_135 : decode cX9_costs 135 = .ok (.iadd, 1) := by decide +kernel
theorem dX9_costs_136 : decode cX9_costs 136 = .ok (.istore 5, 2) := by decide +kernel
theorem dX9_costs_138 : decode cX9_costs 138 = .ok (.iload 8, 2) := by decide +kernel
theorem dX9_costs_140 : decode cX9_costs 140 = .ok (.istore 6, 2) := by decide +kernel
theorem dX9_costs_142 : decode cX9_costs 142 = .ok (.iinc 7 1, 3) := by decide +kernel
theorem dX9_costs_145 : decode cX9_costs 145 = .ok (.goto (-80), 3) := by decide +kernel
theorem dX9_costs_148 : decode cX9_costs 148 = .ok (.iload 5, 2) := by decide +kernel
theorem dX9_costs_150 : decode cX9_costs 150 = .ok (.aload_n 0, 1) := by decide +kernel
theorem dX9_costs_151 : decode cX9_costs 151 = .ok (.getfield 60, 3) := by decide +kernel
theorem dX9_costs_154 : decode cX9_costs 154 = .ok (.iload_n 3, 1) := by decide +kernel
theorem dX9_costs_155 : decode cX9_costs 155 = .ok (.iaload, 1) := by decide +kernel
theorem dX9_costs_156 : decode cX9_costs 156 = .ok (.imul, 1) := by decide +kernel
theorem dX9_costs_157 : decode cX9_costs 157 = .ok (.ireturn, 1) := by decide +kernel
theorem dX9_branches_0 : decode cX9_branches 0 = .ok (.iconst 0, 1) := by decide +kernel
theorem dX9_branches_1 : decode cX9_branches 1 = .ok (.istore_n 3, 1) := by decide +kernel
theorem dX9_branches_2 : decode cX9_branches 2 = .ok (.iconst 0, 1) := by decide +kernel
theorem dX9_branches_3 : decode cX9_branches 3 = .ok (.istore 4, 2) := by decide +kernel
theorem dX9_branches_5 : decode cX9_branches 5 = .ok (.iload 4, 2) := by decide +kernel
theorem dX9_branches_7 : decode cX9_branches 7 = .ok (.aload_n 0, 1) := by decide +kernel
theorem dX9_branches_8 : decode cX9_branches 8 = .ok (.getfield 51, 3) := by decide +kernel
theorem dX9_branches_11 : decode cX9_branches 11 = .ok (.iload_n 1, 1) := by decide +kernel
theorem dX9_branches_12 : decode cX9_branches 12 = .ok (.iaload, 1) := by decide +kernel
theorem dX9_branches_13 : decode cX9_branches 13 = .ok (.if_icmp .ge 70, 3) := by decide +kernel
theorem dX9_branches_16 : decode cX9_branches 16 = .ok (.aload_n 0, 1) := by decide +kernel
theorem dX9_branches_17 : decode cX9_branches 17 = .ok (.getfield 48, 3) := by decide +kernel
theorem dX9_branches_20 : decode cX9_branches 20 = .ok (.bipush 6, 2) := by decide +kernel
theorem dX9_branches_22 : decode cX9_branches 22 = .ok (.iload_n 1, 1) := by decide +kernel
theorem dX9_branches_23 : decode cX9_branches 23 = .ok (.imul, 1) := by decide +kernel
theorem dX9_branches_24 : decode cX9_branches 24 = .ok (.iload 4, 2) := by decide +kernel
theorem dX9_branches_26 : decode cX9_branches 26 = .ok (.iadd, 1) := by decide +kernel
theorem dX9_branches_27 : decode cX9_branches 27 = .ok (.iaload, 1) := by decide +kernel
theorem dX9_branches_28 : decode cX9_branches 28 = .ok (.istore 5, 2) := by decide +kernel
theorem dX9_branches_30 : decode cX9_branches 30 = .ok (.iload_n 3, 1) := by decide +kernel
theorem dX9_branches_31 : decode cX9_branches 31 = .ok (.aload_n 0, 1) := by decide +kernel
theorem dX9_branches_32 : decode cX9_branches 32 = .ok (.getfield 32, 3) := by decide +kernel
theorem dX9_branches_35 : decode cX9_branches 35 = .ok (.iload 5, 2) := by decide +kernel
theorem dX9_branches_37 : decode cX9_branches 37 = .ok (.iaload, 1) := by decide +kernel
theorem dX9_branches_38 : decode cX9_branches 38 = .ok (.iconst (-1), 1) := by decide +kernel
theorem dX9_branches_39 : decode cX9_branches 39 = .ok (.if_icmp .eq 35, 3) := by decide +kernel
theorem dX9_branches_42 : decode cX9_branches 42 = .ok (.aload_n 0, 1) := by decide +kernel
theorem dX9_branches_43 : decode cX9_branches 43 = .ok (.getfield 66, 3) := by decide +kernel
theorem dX9_branches_46 : decode cX9_branches 46 = .ok (.iconst 2, 1) := by decide +kernel
theorem dX9_branches_47 : decode cX9_branches 47 = .ok (.iload 5, 2) := by decide +kernel
theorem dX9_branches_49 : decode cX9_branches 49 = .ok (.imul, 1) := by decide +kernel
theorem dX9_branches_50 : decode cX9_branches 50 = .ok (.aload_n 0, 1) := by decide +kernel
theorem dX9_branches_51 : decode cX9_branches 51 = .ok (.iload_n 2, 1) := by decide +kernel
theorem dX9_branches_52 : decode cX9_branches 52 = .ok (.iload 5, 2) := by decide +kernel
theorem dX9_branches_54 : decode cX9_branches 54 = .ok (.invokevirtual 144, 3) := by decide +kernel
theorem dX9_branches_57 : decode cX9_branches 57 = .ok (.ifCond .eq 7, 3) := by decide +kernel
theorem dX9_branches_60 : decode cX9_branches 60 = .ok (.iconst 1, 1) := by decide +kernel
theorem dX9_branches_61 : decode cX9_branches 61 = .ok (.goto 4, 3) := by decide +kernel
theorem dX9_branches_64 : decode cX9_branches 64 = .ok (.iconst 0, 1) := by decide +kernel
theorem dX9_branches_65 : decode cX9_branches 65 = .ok (.iadd, 1) := by decide +kernel
theorem dX9_branches_66 : decode cX9_branches 66 = .ok (.baload, 1) := by decide +kernel
theorem dX9_branches_67 : decode cX9_branches 67 = .ok (.ifCond .ne 7, 3) := by decide +kernel
theorem dX9_branches_70 : decode cX9_branches 70 = .ok (.iconst 1, 1) := by decide +kernel
theorem dX9_branches_71 : decode cX9_branches 71 = .ok (.goto 4, 3) := by decide +kernel
theorem dX9_branches_74 : decode cX9_branches 74 = .ok (.iconst 0, 1) := by decide +kernel
theorem dX9_branches_75 : decode cX9_branches 75 = .ok (.iadd, 1) := by decide +kernel
theorem dX9_branches_76 : decode cX9_branches 76 = .ok (.istore_n 3, 1) := by decide +kernel
theorem dX9_branches_77 : decode cX9_branches 77 = .ok (.iinc 4 1, 3) := by decide +kernel
theorem dX9_branches_80 : decode cX9_branches 80 = .ok (.goto (-75), 3) := by decide +kernel
theorem dX9_branches_83 : decode cX9_branches 83 = .ok (.iload_n 3, 1) := by decide +kernel
theorem dX9_branches_84 : decode cX9_branches 84 = .ok (.ireturn, 1) := by decide +kernel
theorem dX9_sample_0 : decode cX9_sample 0 = .ok (.aload_n 0, 1) := by decide +kernel
theorem dX9_sample_1 : decode cX9_sample 1 = .ok (.iload_n 1, 1) := by decide +kernel
theorem dX9_sample_2 : decode cX9_sample 2 = .ok (.invokevirtual 135, 3) := by decide +kernel
theorem dX9_sample_5 : decode cX9_sample 5 = .ok (.ifCond .eq 11, 3) := by decide +kernel
theorem dX9_sample_8 : decode cX9_sample 8 = .ok (.iload_n 2, 1) := by decide +kernel
theorem dX9_sample_9 : decode cX9_sample 9 = .ok (.ifCond .lt 7, 3) := by decide +kernel
theorem dX9_sample_12 : decode cX9_sample 12 = .ok (.iconst 1, 1) := by decide +kernel
theorem dX9_sample_13 : decode cX9_sample 13 = .ok (.goto 4, 3) := by decide +kernel
theorem dX9_sample_16 : decode cX9_sample 16 = .ok (.iconst 0, 1) := by decide +kernel
theorem dX9_sample_17 : decode cX9_sample 17 = .ok (.istore_n 3, 1) := by decide +kernel
theorem dX9_sample_18 : decode cX9_sample 18 = .ok (.aload_n 0, 1) := by decide +kernel
theorem dX9_sample_19 : decode cX9_sample 19 = .ok (.iload_n 3, 1) := by decide +kernel
theorem dX9_sample_20 : decode cX9_sample 20 = .ok (.ifCond .eq 7, 3) := by decide +kernel
theorem dX9_sample_23 : decode cX9_sample 23 = .ok (.iconst 0, 1) := by decide +kernel
theorem dX9_sample_24 : decode cX9_sample 24 = .ok (.goto 4, 3) := by decide +kernel
theorem dX9_sample_27 : decode cX9_sample 27 = .ok (.iconst 1, 1) := by decide +kernel
theorem dX9_sample_28 : decode cX9_sample 28 = .ok (.invokevirtual 92, 3) := by decide +kernel
theorem dX9_sample_31 : decode cX9_sample 31 = .ok (.ifCond .ne 5, 3) := by decide +kernel
theorem dX9_sample_34 : decode cX9_sample 34 = .ok (.iconst 0, 1) := by decide +kernel
theorem dX9_sample_35 : decode cX9_sample 35 = .ok (.ireturn, 1) := by decide +kernel
theorem dX9_sample_36 : decode cX9_sample 36 = .ok (.iconst 0, 1) := by decide +kernel
theorem dX9_sample_37 : decode cX9_sample 37 = .ok (.istore 4, 2) := by decide +kernel
theorem dX9_sample_39 : decode cX9_sample 39 = .ok (.iload 4, 2) := by decide +kernel
theorem dX9_sample_41 : decode cX9_sample 41 = .ok (.bipush 20, 2) := by decide +kernel
theorem dX9_sample_43 : decode cX9_sample 43 = .ok (.if_icmp .ge 17, 3) := by decide +kernel
theorem dX9_sample_46 : decode cX9_sample 46 = .ok (.aload_n 0, 1) := by decide +kernel
theorem dX9_sample_47 : decode cX9_sample 47 = .ok (.getfield 66, 3) := by decide +kernel
theorem dX9_sample_50 : decode cX9_sample 50 = .ok (.iload 4, 2) := by decide +kernel
theorem dX9_sample_52 : decode cX9_sample 52 = .ok (.iconst 0, 1) := by decide +kernel
theorem dX9_sample_53 : decode cX9_sample 53 = .ok (.bastore, 1) := by decide +kernel
theorem dX9_sample_54 : decode cX9_sample 54 = .ok (.iinc 4 1, 3) := by decide +kernel
theorem dX9_sample_57 : decode cX9_sample 57 = .ok (.goto (-18), 3) := by decide +kernel
theorem dX9_sample_60 : decode cX9_sample 60 = .ok (.iload_n 2, 1) := by decide +kernel
theorem dX9_sample_61 : decode cX9_sample 61 = .ok (.istore 4, 2) := by decide +kernel
theorem dX9_sample_63 : decode cX9_sample 63 = .ok (.iload 4, 2) := by decide +kernel
theorem dX9_sample_65 : decode cX9_sample 65 = .ok (.ifCond .lt 141, 3) := by decide +kernel
theorem dX9_sample_68 : decode cX9_sample 68 = .ok (.iconst (-1), 1) := by decide +kernel
theorem dX9_sample_69 : decode cX9_sample 69 = .ok (.istore 5, 2) := by decide +kernel
theorem dX9_sample_71 : decode cX9_sample 71 = .ok (.iconst 0, 1) := by decide +kernel
theorem dX9_sample_72 : decode cX9_sample 72 = .ok (.istore 6, 2) := by decide +kernel
theorem dX9_sample_74 : decode cX9_sample 74 = .ok (.iload 6, 2) := by decide +kernel
theorem dX9_sample_76 : decode cX9_sample 76 = .ok (.aload_n 0, 1) := by decide +kernel
theorem dX9_sample_77 : decode cX9_sample 77 = .ok (.getfield 86, 3) := by decide +kernel
theorem dX9_sample_80 : decode cX9_sample 80 = .ok (.if_icmp .ge 45, 3) := by decide +kernel
theorem dX9_sample_83 : decode cX9_sample 83 = .ok (.aload_n 0, 1) := by decide +kernel
theorem dX9_sample_84 : decode cX9_sample 84 = .ok (.iload_n 1, 1) := by decide +kernel
theorem dX9_sample_85 : decode cX9_sample 85 = .ok (.iload 6, 2) := by decide +kernel
theorem dX9_sample_87 : decode cX9_sample 87 = .ok (.invokevirtual 183, 3) := by decide +kernel
theorem dX9_sample_90 : decode cX9_sample 90 = .ok (.iload 5, 2) := by decide +kernel
theorem dX9_sample_92 : decode cX9_sample 92 = .ok (.iconst (-1), 1) := by decide +kernel
theorem dX9_sample_93 : decode cX9_sample 93 = .ok (.if_icmp .ne 7, 3) := by decide +kernel
theorem dX9_sample_96 : decode cX9_sample 96 = .ok (.iconst 0, 1) := by decide +kernel
theorem dX9_sample_97 : decode cX9_sample 97 = .ok (.goto 10, 3) := by decide +kernel
theorem dX9_sample_100 : decode cX9_sample 100 = .ok (.aload_n 0, 1) := by decide +kernel
theorem dX9_sample_101 : decode cX9_sample 101 = .ok (.iload_n 1, 1) := by decide +kernel
theorem dX9_sample_102 : decode cX9_sample 102 = .ok (.iload 5, 2) := by decide +kernel
theorem dX9_sample_104 : decode cX9_sample 104 = .ok (.invokevirtual 183, 3) := by decide +kernel
theorem dX9_sample_107 : decode cX9_sample 107 = .ok (.if_icmp .le 8, 3) := by decide +kernel
theorem dX9_sample_110 : decode cX9_sample 110 = .ok (.iload 6, 2) := by decide +kernel
theorem dX9_sample_112 : decode cX9_sample 112 = .ok (.goto 5, 3) := by decide +kernel
theorem dX9_sample_115 : decode cX9_sample 115 = .ok (.iload 5, 2) := by decide +kernel
theorem dX9_sample_117 : decode cX9_sample 117 = .ok (.istore 5, 2) := by decide +kernel
theorem dX9_sample_119 : decode cX9_sample 119 = .ok (.iinc 6 1, 3) := by decide +kernel
theorem dX9_sample_122 : decode cX9_sample 122 = .ok (.goto (-48), 3) := by decide +kernel
theorem dX9_sample_125 : decode cX9_sample 125 = .ok (.iload 5, 2) := by decide +kernel
theorem dX9_sample_127 : decode cX9_sample 127 = .ok (.iconst (-1), 1) := by decide +kernel
theorem dX9_sample_128 : decode cX9_sample 128 = .ok (.if_icmp .eq 8, 3) := by decide +kernel
theorem dX9_sample_131 : decode cX9_sample 131 = .ok (.iload 4, 2) := by decide +kernel
theorem dX9_sample_133 : decode cX9_sample 133 = .ok (.ifCond .ne 6, 3) := by decide +kernel
theorem dX9_sample_136 : decode cX9_sample 136 = .ok (.iload 5, 2) := by decide +kernel
theorem dX9_sample_138 : decode cX9_sample 138 = .ok (.ireturn, 1) := by decide +kernel
theorem dX9_sample_139 : decode cX9_sample 139 = .ok (.iconst 0, 1) := by decide +kernel
theorem dX9_sample_140 : decode cX9_sample 140 = .ok (.istore 6, 2) := by decide +kernel
theorem dX9_sample_142 : decode cX9_sample 142 = .ok (.iload 6, 2) := by decide +kernel
theorem dX9_sample_144 : decode cX9_sample 144 = .ok (.aload_n 0, 1) := by decide +kernel
theorem dX9_sample_145 : decode cX9_sample 145 = .ok (.getfield 51, 3) := by decide +kernel
theorem dX9_sample_148 : decode cX9_sample 148 = .ok (.iload_n 1, 1) := by decide +kernel
theorem dX9_sample_149 : decode cX9_sample 149 = .ok (.iaload, 1) := by decide +kernel
theorem dX9_sample_150 : decode cX9_sample 150 = .ok (.if_icmp .ge 50, 3) := by decide +kernel
theorem dX9_sample_153 : decode cX9_sample 153 = .ok (.aload_n 0, 1) := by decide +kernel
theorem dX9_sample_154 : decode cX9_sample 154 = .ok (.getfield 48, 3) := by decide +kernel
theorem dX9_sample_157 : decode cX9_sample 157 = .ok (.bipush 6, 2) := by decide +kernel
theorem dX9_sample_159 : decode cX9_sample 159 = .ok (.iload_n 1, 1) := by decide +kernel
theorem dX9_sample_160 : decode cX9_sample 160 = .ok (.imul, 1) := by decide +kernel
theorem dX9_sample_161 : decode cX9_sample 161 = .ok (.iload 6, 2) := by decide +kernel
theorem dX9_sample_163 : decode cX9_sample 163 = .ok (.iadd, 1) := by decide +kernel
theorem dX9_sample_164 : decode cX9_sample 164 = .ok (.iaload, 1) := by decide +kernel
theorem dX9_sample_165 : decode cX9_sample 165 = .ok (.istore 7, 2) := by decide +kernel
theorem dX9_sample_167 : decode cX9_sample 167 = .ok (.aload_n 0, 1) := by decide +kernel
theorem dX9_sample_168 : decode cX9_sample 168 = .ok (.getfield 66, 3) := by decide +kernel
theorem dX9_sample_171 : decode cX9_sample 171 = .ok (.iconst 2, 1) := by decide +kernel
theorem dX9_sample_172 : decode cX9_sample 172 = .ok (.iload 7, 2) := by decide +kernel
theorem dX9_sample_174 : decode cX9_sample 174 = .ok (.imul, 1) := by decide +kernel
theorem dX9_sample_175 : decode cX9_sample 175 = .ok (.aload_n 0, 1) := by decide +kernel
theorem dX9_sample_176 : decode cX9_sample 176 = .ok (.iload 5, 2) := by decide +kernel
theorem dX9_sample_178 : decode cX9_sample 178 = .ok (.iload 7, 2) := by decide +kernel
theorem dX9_sample_180 : decode cX9_sample 180 = .ok (.invokevirtual 144, 3) := by decide +kernel
theorem dX9_sample_183 : decode cX9_sample 183 = .ok (.ifCond .eq 7, 3) := by decide +kernel
theorem dX9_sample_186 : decode cX9_sample 186 = .ok (.iconst 1, 1) := by decide +kernel
theorem dX9_sample_187 : decode cX9_sample 187 = .ok (.goto 4, 3) := by decide +kernel
theorem dX9_sample_190 : decode cX9_sample 190 = .ok (.iconst 0, 1) := by decide +kernel
theorem dX9_sample_191 : decode cX9_sample 191 = .ok (.iadd, 1) := by decide +kernel
theorem dX9_sample_192 : decode cX9_sample 192 = .ok (.iconst 1, 1) := by decide +kernel
theorem dX9_sample_193 : decode cX9_sample 193 = .ok (.bastore, 1) := by decide +kernel
theorem dX9_sample_194 : decode cX9_sample 194 = .ok (.iinc 6 1, 3) := by decide +kernel
theorem dX9_sample_197 : decode cX9_sample 197 = .ok (.goto (-55), 3) := by decide +kernel
theorem dX9_sample_200 : decode cX9_sample 200 = .ok (.iinc 4 (-1), 3) := by decide +kernel
theorem dX9_sample_203 : decode cX9_sample 203 = .ok (.goto (-140), 3) := by decide +kernel
theorem dX9_sample_206 : decode cX9_sample 206 = .ok (.iconst (-1), 1) := by decide +kernel
theorem dX9_sample_207 : decode cX9_sample 207 = .ok (.ireturn, 1) := by decide +kernel
theorem dL_type_0 : decode cL_type 0 = .ok (.aload_n 2, 1) := by decide +kernel
theorem dL_type_1 : decode cL_type 1 = .ok (.iconst 0, 1) := by decide +kernel
theorem dL_type_2 : decode cL_type 2 = .ok (.aload_n 0, 1) := by decide +kernel
theorem dL_type_3 : decode cL_type 3 = .ok (.iload_n 1, 1) := by decide +kernel
theorem dL_type_4 : decode cL_type 4 = .ok (.invokevirtual 7, 3) := by decide +kernel
theorem dL_type_7 : decode cL_type 7 = .ok (.i2l, 1) := by decide +kernel
theorem dL_type_8 : decode cL_type 8 = .ok (.lastore, 1) := by decide +kernel
theorem dL_type_9 : decode cL_type 9 = .ok (.goto 6, 3) := by decide +kernel
theorem dL_type_12 : decode cL_type 12 = .ok (.astore_n 3, 1) := by decide +kernel
theorem dL_type_13 : decode cL_type 13 = .ok (.iconst 1, 1) := by decide +kernel
theorem dL_type_14 : decode cL_type 14 = .ok (.ireturn, 1) := by decide +kernel
theorem dL_type_15 : decode cL_type 15 = .ok (.iconst 0, 1) := by decide +kernel
theorem dL_type_16 : decode cL_type 16 = .ok (.ireturn, 1) := by decide +kernel
theorem dL_word_0 : decode cL_word 0 = .ok (.aload_n 1, 1) := by decide +kernel
theorem dL_word_1 : decode cL_word 1 = .ok (.iconst 0, 1) := by decide +kernel
theorem dL_word_2 : decode cL_word 2 = .ok (.aload_n 0, 1) := by decide +kernel
theorem dL_word_3 : decode cL_word 3 = .ok (.invokevirtual 15, 3) := by decide +kernel
theorem dL_word_6 : decode cL_word 6 = .ok (.i2l, 1) := by decide +kernel
theorem dL_word_7 : decode cL_word 7 = .ok (.lastore, 1) := by decide +kernel
theorem dL_word_8 : decode cL_word 8 = .ok (.goto 6, 3) := by decide +kernel
theorem dL_word_11 : decode cL_word 11 = .ok (.astore_n 2, 1) := by decide +kernel
theorem dL_word_12 : decode cL_word 12 = .ok (.iconst 1, 1) := by decide +kernel
theorem dL_word_13 : decode cL_word 13 = .ok (.ireturn, 1) := by decide +kernel
theorem dL_word_14 : decode cL_word 14 = .ok (.iconst 0, 1) := by decide +kernel
theorem dL_word_15 : decode cL_word 15 = .ok (.ireturn, 1) := by decide +kernel
theorem dL_form_0 : decode cL_form 0 = .ok (.aload 4, 2) := by decide +kernel
theorem dL_form_2 : decode cL_form 2 = .ok (.iconst 0, 1) := by decide +kernel
theorem dL_form_3 : decode cL_form 3 = .ok (.aload_n 0, 1) := by decide +kernel
theorem dL_form_4 : decode cL_form 4 = .ok (.iload_n 1, 1) := by decide +kernel
theorem dL_form_5 : decode cL_form 5 = .ok (.iload_n 2, 1) := by decide +kernel
theorem dL_form_6 : decode cL_form 6 = .ok (.iload_n 3, 1) := by decide +kernel
theorem dL_form_7 : decode cL_form 7 = .ok (.invokevirtual 19, 3) := by decide +kernel
theorem dL_form_10 : decode cL_form 10 = .ok (.i2l, 1) := by decide +kernel
theorem dL_form_11 : decode cL_form 11 = .ok (.lastore, 1) := by decide +kernel
theorem dL_form_12 : decode cL_form 12 = .ok (.goto 15, 3) := by decide +kernel
theorem dL_form_15 : decode cL_form 15 = .ok (.astore 5, 2) := by decide +kernel
theorem dL_form_17 : decode cL_form 17 = .ok (.iconst 1, 1) := by decide +kernel
theorem dL_form_18 : decode cL_form 18 = .ok (.ireturn, 1) := by decide +kernel
theorem dL_form_19 : decode cL_form 19 = .ok (.astore 5, 2) := by decide +kernel
theorem dL_form_21 : decode cL_form 21 = .ok (.iconst 2, 1) := by decide +kernel
theorem dL_form_22 : decode cL_form 22 = .ok (.ireturn, 1) := by decide +kernel
theorem dL_form_23 : decode cL_form 23 = .ok (.astore 5, 2) := by decide +kernel
theorem dL_form_25 : decode cL_form 25 = .ok (.iconst 3, 1) := by decide +kernel
theorem dL_form_26 : decode cL_form 26 = .ok (.ireturn, 1) := by decide +kernel
theorem dL_form_27 : decode cL_form 27 = .ok (.iconst 0, 1) := by decide +kernel
theorem dL_form_28 : decode cL_form 28 = .ok (.ireturn, 1) := by decide +kernel
theorem dL_clause_0 : decode cL_clause 0 = .ok (.aload_n 2, 1) := by decide +kernel
theorem dL_clause_1 : decode cL_clause 1 = .ok (.iconst 0, 1) := by decide +kernel
theorem dL_clause_2 : decode cL_clause 2 = .ok (.aload_n 0, 1) := by decide +kernel
theorem dL_clause_3 : decode cL_clause 3 = .ok (.iload_n 1, 1) := by decide +kernel
theorem dL_clause_4 : decode cL_clause 4 = .ok (.invokevirtual 27, 3) := by decide +kernel
theorem dL_clause_7 : decode cL_clause 7 = .ok (.i2l, 1) := by decide +kernel
theorem dL_clause_8 : decode cL_clause 8 = .ok (.lastore, 1) := by decide +kernel
theorem dL_clause_9 : decode cL_clause 9 = .ok (.goto 9, 3) := by decide +kernel
theorem dL_clause_12 : decode cL_clause 12 = .ok (.astore_n 3, 1) := by decide +kernel
theorem dL_clause_13 : decode cL_clause 13 = .ok (.iconst 1, 1) := by decide +kernel
theorem dL_clause_14 : decode cL_clause 14 = .ok (.ireturn, 1) := by decide +kernel
theorem dL_clause_15 : decode cL_clause 15 = .ok (.astore_n 3, 1) := by decide +kernel
theorem dL_clause_16 : decode cL_clause 16 = .ok (.iconst 2, 1) := by decide +kernel
theorem dL_clause_17 : decode cL_clause 17 = .ok (.ireturn, 1) := by decide +kernel
theorem dL_clause_18 : decode cL_clause 18 = .ok (.iconst 0, 1) := by decide +kernel
theorem dL_clause_19 : decode cL_clause 19 = .ok (.ireturn, 1) := by decide +kernel
theorem dL_text_0 : decode cL_text 0 = .ok (.aload_n 3, 1) := by decide +kernel
theorem dL_text_1 : decode cL_text 1 = .ok (.iconst 0, 1) := by decide +kernel
theorem dL_text_2 : decode cL_text 2 = .ok (.aload_n 0, 1) := by decide +kernel
theorem dL_text_3 : decode cL_text 3 = .ok (.iload_n 1, 1) := by decide +kernel
theorem dL_text_4 : decode cL_text 4 = .ok (.iload_n 2, 1) := by decide +kernel
theorem dL_text_5 : decode cL_text 5 = .ok (.invokevirtual 31, 3) := by decide +kernel
theorem dL_text_8 : decode cL_text 8 = .ok (.i2l, 1) := by decide +kernel
theorem dL_text_9 : decode cL_text 9 = .ok (.lastore, 1) := by decide +kernel
theorem dL_text_10 : decode cL_text 10 = .ok (.goto 11, 3) := by decide +kernel
theorem dL_text_13 : decode cL_text 13 = .ok (.astore 4, 2) := by decide +kernel
theorem dL_text_15 : decode cL_text 15 = .ok (.iconst 1, 1) := by decide +kernel
theorem dL_text_16 : decode cL_text 16 = .ok (.ireturn, 1) := by decide +kernel
theorem dL_text_17 : decode cL_text 17 = .ok (.astore 4, 2) := by decide +kernel
theorem dL_text_19 : decode cL_text 19 = .ok (.iconst 2, 1) := by decide +kernel
theorem dL_text_20 : decode cL_text 20 = .ok (.ireturn, 1) := by decide +kernel
theorem dL_text_21 : decode cL_text 21 = .ok (.iconst 0, 1) := by decide +kernel
theorem dL_text_22 : decode cL_text 22 = .ok (.ireturn, 1) := by decide +kernel
theorem dL_approve_0 : decode cL_approve 0 = .ok (.aload_n 3, 1) := by decide +kernel
theorem dL_approve_1 : decode cL_approve 1 = .ok (.iconst 0, 1) := by decide +kernel
theorem dL_approve_2 : decode cL_approve 2 = .ok (.aload_n 0, 1) := by decide +kernel
theorem dL_approve_3 : decode cL_approve 3 = .ok (.iload_n 1, 1) := by decide +kernel
theorem dL_approve_4 : decode cL_approve 4 = .ok (.iload_n 2, 1) := by decide +kernel
theorem dL_approve_5 : decode cL_approve 5 = .ok (.invokevirtual 35, 3) := by decide +kernel
theorem dL_approve_8 : decode cL_approve 8 = .ok (.ifCond .eq 7, 3) := by decide +kernel
theorem dL_approve_11 : decode cL_approve 11 = .ok (.lconst 1, 1) := by decide +kernel
theorem dL_approve_12 : decode cL_approve 12 = .ok (.goto 4, 3) := by decide +kernel
theorem dL_approve_15 : decode cL_approve 15 = .ok (.lconst 0, 1) := by decide +kernel
theorem dL_approve_16 : decode cL_approve 16 = .ok (.lastore, 1) := by decide +kernel
theorem dL_approve_17 : decode cL_approve 17 = .ok (.goto 11, 3) := by decide +kernel
theorem dL_approve_20 : decode cL_approve 20 = .ok (.astore 4, 2) := by decide +kernel
theorem dL_approve_22 : decode cL_approve 22 = .ok (.iconst 1, 1) := by decide +kernel
theorem dL_approve_23 : decode cL_approve 23 = .ok (.ireturn, 1) := by decide +kernel
theorem dL_approve_24 : decode cL_approve 24 = .ok (.astore 4, 2) := by decide +kernel
theorem dL_approve_26 : decode cL_approve 26 = .ok (.iconst 2, 1) := by decide +kernel
theorem dL_approve_27 : decode cL_approve 27 = .ok (.ireturn, 1) := by decide +kernel
theorem dL_approve_28 : decode cL_approve 28 = .ok (.iconst 0, 1) := by decide +kernel
theorem dL_approve_29 : decode cL_approve 29 = .ok (.ireturn, 1) := by decide +kernel
theorem dL_relate_0 : decode cL_relate 0 = .ok (.aload 5, 2) := by decide +kernel
theorem dL_relate_2 : decode cL_relate 2 = .ok (.iconst 0, 1) := by decide +kernel
theorem dL_relate_3 : decode cL_relate 3 = .ok (.aload_n 0, 1) := by decide +kernel
theorem dL_relate_4 : decode cL_relate 4 = .ok (.iload_n 1, 1) := by decide +kernel
theorem dL_relate_5 : decode cL_relate 5 = .ok (.iload_n 2, 1) := by decide +kernel
theorem dL_relate_6 : decode cL_relate 6 = .ok (.iload_n 3, 1) := by decide +kernel
theorem dL_relate_7 : decode cL_relate 7 = .ok (.iload 4, 2) := by decide +kernel
theorem dL_relate_9 : decode cL_relate 9 = .ok (.invokevirtual 39, 3) := by decide +kernel
theorem dL_relate_12 : decode cL_relate 12 = .ok (.i2l, 1) := by decide +kernel
theorem dL_relate_13 : decode cL_relate 13 = .ok (.lastore, 1) := by decide +kernel
theorem dL_relate_14 : decode cL_relate 14 = .ok (.goto 11, 3) := by decide +kernel
theorem dL_relate_17 : decode cL_relate 17 = .ok (.astore 6, 2) := by decide +kernel
theorem dL_relate_19 : decode cL_relate 19 = .ok (.iconst 1, 1) := by decide +kernel
theorem dL_relate_20 : decode cL_relate 20 = .ok (.ireturn, 1) := by decide +kernel
theorem dL_relate_21 : decode cL_relate 21 = .ok (.astore 6, 2) := by decide +kernel
theorem dL_relate_23 : decode cL_relate 23 = .ok (.iconst 2, 1) := by decide +kernel
theorem dL_relate_24 : decode cL_relate 24 = .ok (.ireturn, 1) := by decide +kernel
theorem dL_relate_25 : decode cL_relate 25 = .ok (.iconst 0, 1) := by decide +kernel
theorem dL_relate_26 : decode cL_relate 26 = .ok (.ireturn, 1) := by decide +kernel
theorem dL_isLinked_0 : decode cL_isLinked 0 = .ok (.aload_n 2, 1) := by decide +kernel
theorem dL_isLinked_1 : decode cL_isLinked 1 = .ok (.iconst 0, 1) := by decide +kernel
theorem dL_isLinked_2 : decode cL_isLinked 2 = .ok (.aload_n 0, 1) := by decide +kernel
theorem dL_isLinked_3 : decode cL_isLinked 3 = .ok (.iload_n 1, 1) := by decide +kernel
theorem dL_isLinked_4 : decode cL_isLinked 4 = .ok (.invokevirtual 43, 3) := by decide +kernel
theorem dL_isLinked_7 : decode cL_isLinked 7 = .ok (.ifCond .eq 7, 3) := by decide +kernel
theorem dL_isLinked_10 : decode cL_isLinked 10 = .ok (.lconst 1, 1) := by decide +kernel
theorem dL_isLinked_11 : decode cL_isLinked 11 = .ok (.goto 4, 3) := by decide +kernel
theorem dL_isLinked_14 : decode cL_isLinked 14 = .ok (.lconst 0, 1) := by decide +kernel
theorem dL_isLinked_15 : decode cL_isLinked 15 = .ok (.lastore, 1) := by decide +kernel
theorem dL_isLinked_16 : decode cL_isLinked 16 = .ok (.goto 6, 3) := by decide +kernel
theorem dL_isLinked_19 : decode cL_isLinked 19 = .ok (.astore_n 3, 1) := by decide +kernel
theorem dL_isLinked_20 : decode cL_isLinked 20 = .ok (.iconst 1, 1) := by decide +kernel
theorem dL_isLinked_21 : decode cL_isLinked 21 = .ok (.ireturn, 1) := by decide +kernel
theorem dL_isLinked_22 : decode cL_isLinked 22 = .ok (.iconst 0, 1) := by decide +kernel
theorem dL_isLinked_23 : decode cL_isLinked 23 = .ok (.ireturn, 1) := by decide +kernel
theorem dL_letter_0 : decode cL_letter 0 = .ok (.aload_n 1, 1) := by decide +kernel
theorem dL_letter_1 : decode cL_letter 1 = .ok (.iconst 0, 1) := by decide +kernel
theorem dL_letter_2 : decode cL_letter 2 = .ok (.aload_n 0, 1) := by decide +kernel
theorem dL_letter_3 : decode cL_letter 3 = .ok (.invokevirtual 47, 3) := by decide +kernel
theorem dL_letter_6 : decode cL_letter 6 = .ok (.i2l, 1) := by decide +kernel
theorem dL_letter_7 : decode cL_letter 7 = .ok (.lastore, 1) := by decide +kernel
theorem dL_letter_8 : decode cL_letter 8 = .ok (.goto 6, 3) := by decide +kernel
theorem dL_letter_11 : decode cL_letter 11 = .ok (.astore_n 2, 1) := by decide +kernel
theorem dL_letter_12 : decode cL_letter 12 = .ok (.iconst 1, 1) := by decide +kernel
theorem dL_letter_13 : decode cL_letter 13 = .ok (.ireturn, 1) := by decide +kernel
theorem dL_letter_14 : decode cL_letter 14 = .ok (.iconst 0, 1) := by decide +kernel
theorem dL_letter_15 : decode cL_letter 15 = .ok (.ireturn, 1) := by decide +kernel
theorem dL_put_0 : decode cL_put 0 = .ok (.aload_n 3, 1) := by decide +kernel
theorem dL_put_1 : decode cL_put 1 = .ok (.iconst 0, 1) := by decide +kernel
theorem dL_put_2 : decode cL_put 2 = .ok (.aload_n 0, 1) := by decide +kernel
theorem dL_put_3 : decode cL_put 3 = .ok (.iload_n 1, 1) := by decide +kernel
theorem dL_put_4 : decode cL_put 4 = .ok (.iload_n 2, 1) := by decide +kernel
theorem dL_put_5 : decode cL_put 5 = .ok (.invokevirtual 50, 3) := by decide +kernel
theorem dL_put_8 : decode cL_put 8 = .ok (.i2l, 1) := by decide +kernel
theorem dL_put_9 : decode cL_put 9 = .ok (.lastore, 1) := by decide +kernel
theorem dL_put_10 : decode cL_put 10 = .ok (.goto 11, 3) := by decide +kernel
theorem dL_put_13 : decode cL_put 13 = .ok (.astore 4, 2) := by decide +kernel
theorem dL_put_15 : decode cL_put 15 = .ok (.iconst 1, 1) := by decide +kernel
theorem dL_put_16 : decode cL_put 16 = .ok (.ireturn, 1) := by decide +kernel
theorem dL_put_17 : decode cL_put 17 = .ok (.astore 4, 2) := by decide +kernel
theorem dL_put_19 : decode cL_put 19 = .ok (.iconst 2, 1) := by decide +kernel
theorem dL_put_20 : decode cL_put 20 = .ok (.ireturn, 1) := by decide +kernel
theorem dL_put_21 : decode cL_put 21 = .ok (.iconst 0, 1) := by decide +kernel
theorem dL_put_22 : decode cL_put 22 = .ok (.ireturn, 1) := by decide +kernel
theorem dL_data_0 : decode cL_data 0 = .ok (.aload_n 3, 1) := by decide +kernel
theorem dL_data_1 : decode cL_data 1 = .ok (.iconst 0, 1) := by decide +kernel
theorem dL_data_2 : decode cL_data 2 = .ok (.aload_n 0, 1) := by decide +kernel
theorem dL_data_3 : decode cL_data 3 = .ok (.iload_n 1, 1) := by decide +kernel
theorem dL_data_4 : decode cL_data 4 = .ok (.iload_n 2, 1) := by decide +kernel
theorem dL_data_5 : decode cL_data 5 = .ok (.invokevirtual 53, 3) := by decide +kernel
theorem dL_data_8 : decode cL_data 8 = .ok (.i2l, 1) := by decide +kernel
theorem dL_data_9 : decode cL_data 9 = .ok (.lastore, 1) := by decide +kernel
theorem dL_data_10 : decode cL_data 10 = .ok (.goto 15, 3) := by decide +kernel
theorem dL_data_13 : decode cL_data 13 = .ok (.astore 4, 2) := by decide +kernel
theorem dL_data_15 : decode cL_data 15 = .ok (.iconst 1, 1) := by decide +kernel
theorem dL_data_16 : decode cL_data 16 = .ok (.ireturn, 1) := by decide +kernel
theorem dL_data_17 : decode cL_data 17 = .ok (.astore 4, 2) := by decide +kernel
theorem dL_data_19 : decode cL_data 19 = .ok (.iconst 2, 1) := by decide +kernel
theorem dL_data_20 : decode cL_data 20 = .ok (.ireturn, 1) := by decide +kernel
theorem dL_data_21 : decode cL_data 21 = .ok (.astore 4, 2) := by decide +kernel
theorem dL_data_23 : decode cL_data 23 = .ok (.iconst 3, 1) := by decide +kernel
theorem dL_data_24 : decode cL_data 24 = .ok (.ireturn, 1) := by decide +kernel
theorem dL_data_25 : decode cL_data 25 = .ok (.iconst 0, 1) := by decide +kernel
theorem dL_data_26 : decode cL_data 26 = .ok (.ireturn, 1) := by decide +kernel
theorem dL_fill_0 : decode cL_fill 0 = .ok (.aload 4, 2) := by decide +kernel
theorem dL_fill_2 : decode cL_fill 2 = .ok (.iconst 0, 1) := by decide +kernel
theorem dL_fill_3 : decode cL_fill 3 = .ok (.aload_n 0, 1) := by decide +kernel
theorem dL_fill_4 : decode cL_fill 4 = .ok (.iload_n 1, 1) := by decide +kernel
theorem dL_fill_5 : decode cL_fill 5 = .ok (.iload_n 2, 1) := by decide +kernel
theorem dL_fill_6 : decode cL_fill 6 = .ok (.iload_n 3, 1) := by decide +kernel
theorem dL_fill_7 : decode cL_fill 7 = .ok (.invokevirtual 56, 3) := by decide +kernel
theorem dL_fill_10 : decode cL_fill 10 = .ok (.i2l, 1) := by decide +kernel
theorem dL_fill_11 : decode cL_fill 11 = .ok (.lastore, 1) := by decide +kernel
theorem dL_fill_12 : decode cL_fill 12 = .ok (.goto 7, 3) := by decide +kernel
theorem dL_fill_15 : decode cL_fill 15 = .ok (.astore 5, 2) := by decide +kernel
theorem dL_fill_17 : decode cL_fill 17 = .ok (.iconst 1, 1) := by decide +kernel
theorem dL_fill_18 : decode cL_fill 18 = .ok (.ireturn, 1) := by decide +kernel
theorem dL_fill_19 : decode cL_fill 19 = .ok (.iconst 0, 1) := by decide +kernel
theorem dL_fill_20 : decode cL_fill 20 = .ok (.ireturn, 1) := by decide +kernel
theorem dL_price_0 : decode cL_price 0 = .ok (.aload_n 3, 1) := by decide +kernel
theorem dL_price_1 : decode cL_price 1 = .ok (.iconst 0, 1) := by decide +kernel
theorem dL_price_2 : decode cL_price 2 = .ok (.aload_n 0, 1) := by decide +kernel
theorem dL_price_3 : decode cL_price 3 = .ok (.iload_n 1, 1) := by decide +kernel
theorem dL_price_4 : decode cL_price 4 = .ok (.iload_n 2, 1) := by decide +kernel
theorem dL_price_5 : decode cL_price 5 = .ok (.invokevirtual 59, 3) := by decide +kernel
theorem dL_price_8 : decode cL_price 8 = .ok (.i2l, 1) := by decide +kernel
theorem dL_price_9 : decode cL_price 9 = .ok (.lastore, 1) := by decide +kernel
theorem dL_price_10 : decode cL_price 10 = .ok (.goto 11, 3) := by decide +kernel
theorem dL_price_13 : decode cL_price 13 = .ok (.astore 4, 2) := by decide +kernel
theorem dL_price_15 : decode cL_price 15 = .ok (.iconst 1, 1) := by decide +kernel
theorem dL_price_16 : decode cL_price 16 = .ok (.ireturn, 1) := by decide +kernel
theorem dL_price_17 : decode cL_price 17 = .ok (.astore 4, 2) := by decide +kernel
theorem dL_price_19 : decode cL_price 19 = .ok (.iconst 2, 1) := by decide +kernel
theorem dL_price_20 : decode cL_price 20 = .ok (.ireturn, 1) := by decide +kernel
theorem dL_price_21 : decode cL_price 21 = .ok (.iconst 0, 1) := by decide +kernel
theorem dL_price_22 : decode cL_price 22 = .ok (.ireturn, 1) := by decide +kernel
theorem dL_faultOf_0 : decode cL_faultOf 0 = .ok (.aload 5, 2) := by decide +kernel
theorem dL_faultOf_2 : decode cL_faultOf 2 = .ok (.iconst 0, 1) := by decide +kernel
theorem dL_faultOf_3 : decode cL_faultOf 3 = .ok (.aload_n 0, 1) := by decide +kernel
theorem dL_faultOf_4 : decode cL_faultOf 4 = .ok (.iload_n 1, 1) := by decide +kernel
theorem dL_faultOf_5 : decode cL_faultOf 5 = .ok (.iload_n 2, 1) := by decide +kernel
theorem dL_faultOf_6 : decode cL_faultOf 6 = .ok (.iload_n 3, 1) := by decide +kernel
theorem dL_faultOf_7 : decode cL_faultOf 7 = .ok (.iload 4, 2) := by decide +kernel
theorem dL_faultOf_9 : decode cL_faultOf 9 = .ok (.invokevirtual 62, 3) := by decide +kernel
theorem dL_faultOf_12 : decode cL_faultOf 12 = .ok (.i2l, 1) := by decide +kernel
theorem dL_faultOf_13 : decode cL_faultOf 13 = .ok (.lastore, 1) := by decide +kernel
theorem dL_faultOf_14 : decode cL_faultOf 14 = .ok (.goto 11, 3) := by decide +kernel
theorem dL_faultOf_17 : decode cL_faultOf 17 = .ok (.astore 6, 2) := by decide +kernel
theorem dL_faultOf_19 : decode cL_faultOf 19 = .ok (.iconst 1, 1) := by decide +kernel
theorem dL_faultOf_20 : decode cL_faultOf 20 = .ok (.ireturn, 1) := by decide +kernel
theorem dL_faultOf_21 : decode cL_faultOf 21 = .ok (.astore 6, 2) := by decide +kernel
theorem dL_faultOf_23 : decode cL_faultOf 23 = .ok (.iconst 2, 1) := by decide +kernel
theorem dL_faultOf_24 : decode cL_faultOf 24 = .ok (.ireturn, 1) := by decide +kernel
theorem dL_faultOf_25 : decode cL_faultOf 25 = .ok (.iconst 0, 1) := by decide +kernel
theorem dL_faultOf_26 : decode cL_faultOf 26 = .ok (.ireturn, 1) := by decide +kernel
theorem dL_sign_0 : decode cL_sign 0 = .ok (.aload 5, 2) := by decide +kernel
theorem dL_sign_2 : decode cL_sign 2 = .ok (.iconst 0, 1) := by decide +kernel
theorem dL_sign_3 : decode cL_sign 3 = .ok (.aload_n 0, 1) := by decide +kernel
theorem dL_sign_4 : decode cL_sign 4 = .ok (.iload_n 1, 1) := by decide +kernel
theorem dL_sign_5 : decode cL_sign 5 = .ok (.iload_n 2, 1) := by decide +kernel
theorem dL_sign_6 : decode cL_sign 6 = .ok (.iload_n 3, 1) := by decide +kernel
theorem dL_sign_7 : decode cL_sign 7 = .ok (.iload 4, 2) := by decide +kernel
theorem dL_sign_9 : decode cL_sign 9 = .ok (.invokevirtual 65, 3) := by decide +kernel
theorem dL_sign_12 : decode cL_sign 12 = .ok (.i2l, 1) := by decide +kernel
theorem dL_sign_13 : decode cL_sign 13 = .ok (.lastore, 1) := by decide +kernel
theorem dL_sign_14 : decode cL_sign 14 = .ok (.goto 7, 3) := by decide +kernel
theorem dL_sign_17 : decode cL_sign 17 = .ok (.astore 6, 2) := by decide +kernel
theorem dL_sign_19 : decode cL_sign 19 = .ok (.iconst 1, 1) := by decide +kernel
theorem dL_sign_20 : decode cL_sign 20 = .ok (.ireturn, 1) := by decide +kernel
theorem dL_sign_21 : decode cL_sign 21 = .ok (.iconst 0, 1) := by decide +kernel
theorem dL_sign_22 : decode cL_sign 22 = .ok (.ireturn, 1) := by decide +kernel
theorem dL_signAnew_0 : decode cL_signAnew 0 = .ok (.aload 5, 2) := by decide +kernel
theorem dL_signAnew_2 : decode cL_signAnew 2 = .ok (.iconst 0, 1) := by decide +kernel
theorem dL_signAnew_3 : decode cL_signAnew 3 = .ok (.aload_n 0, 1) := by decide +kernel
theorem dL_signAnew_4 : decode cL_signAnew 4 = .ok (.iload_n 1, 1) := by decide +kernel
theorem dL_signAnew_5 : decode cL_signAnew 5 = .ok (.iload_n 2, 1) := by decide +kernel
theorem dL_signAnew_6 : decode cL_signAnew 6 = .ok (.iload_n 3, 1) := by decide +kernel
theorem dL_signAnew_7 : decode cL_signAnew 7 = .ok (.iload 4, 2) := by decide +kernel
theorem dL_signAnew_9 : decode cL_signAnew 9 = .ok (.invokevirtual 69, 3) := by decide +kernel
theorem dL_signAnew_12 : decode cL_signAnew 12 = .ok (.i2l, 1) := by decide +kernel
theorem dL_signAnew_13 : decode cL_signAnew 13 = .ok (.lastore, 1) := by decide +kernel
theorem dL_signAnew_14 : decode cL_signAnew 14 = .ok (.goto 7, 3) := by decide +kernel
theorem dL_signAnew_17 : decode cL_signAnew 17 = .ok (.astore 6, 2) := by decide +kernel
theorem dL_signAnew_19 : decode cL_signAnew 19 = .ok (.iconst 1, 1) := by decide +kernel
theorem dL_signAnew_20 : decode cL_signAnew 20 = .ok (.ireturn, 1) := by decide +kernel
theorem dL_signAnew_21 : decode cL_signAnew 21 = .ok (.iconst 0, 1) := by decide +kernel
theorem dL_signAnew_22 : decode cL_signAnew 22 = .ok (.ireturn, 1) := by decide +kernel
theorem dL_costs_0 : decode cL_costs 0 = .ok (.aload 4, 2) := by decide +kernel
theorem dL_costs_2 : decode cL_costs 2 = .ok (.iconst 0, 1) := by decide +kernel
theorem dL_costs_3 : decode cL_costs 3 = .ok (.aload_n 0, 1) := by decide +kernel
theorem dL_costs_4 : decode cL_costs 4 = .ok (.iload_n 1, 1) := by decide +kernel
theorem dL_costs_5 : decode cL_costs 5 = .ok (.iload_n 2, 1) := by decide +kernel
theorem dL_costs_6 : decode cL_costs 6 = .ok (.iload_n 3, 1) := by decide +kernel
theorem dL_costs_7 : decode cL_costs 7 = .ok (.invokevirtual 72, 3) := by decide +kernel
theorem dL_costs_10 : decode cL_costs 10 = .ok (.i2l, 1) := by decide +kernel
theorem dL_costs_11 : decode cL_costs 11 = .ok (.lastore, 1) := by decide +kernel
theorem dL_costs_12 : decode cL_costs 12 = .ok (.goto 7, 3) := by decide +kernel
theorem dL_costs_15 : decode cL_costs 15 = .ok (.astore 5, 2) := by decide +kernel
theorem dL_costs_17 : decode cL_costs 17 = .ok (.iconst 1, 1) := by decide +kernel
theorem dL_costs_18 : decode cL_costs 18 = .ok (.ireturn, 1) := by decide +kernel
theorem dL_costs_19 : decode cL_costs 19 = .ok (.iconst 0, 1) := by decide +kernel
theorem dL_costs_20 : decode cL_costs 20 = .ok (.ireturn, 1) := by decide +kernel
theorem dL_sample_0 : decode cL_sample 0 = .ok (.aload_n 3, 1) := by decide +kernel
theorem dL_sample_1 : decode cL_sample 1 = .ok (.iconst 0, 1) := by decide +kernel
theorem dL_sample_2 : decode cL_sample 2 = .ok (.aload_n 0, 1) := by decide +kernel
theorem dL_sample_3 : decode cL_sample 3 = .ok (.iload_n 1, 1) := by decide +kernel
theorem dL_sample_4 : decode cL_sample 4 = .ok (.iload_n 2, 1) := by decide +kernel
theorem dL_sample_5 : decode cL_sample 5 = .ok (.invokevirtual 75, 3) := by decide +kernel
theorem dL_sample_8 : decode cL_sample 8 = .ok (.i2l, 1) := by decide +kernel
theorem dL_sample_9 : decode cL_sample 9 = .ok (.lastore, 1) := by decide +kernel
theorem dL_sample_10 : decode cL_sample 10 = .ok (.goto 7, 3) := by decide +kernel
theorem dL_sample_13 : decode cL_sample 13 = .ok (.astore 4, 2) := by decide +kernel
theorem dL_sample_15 : decode cL_sample 15 = .ok (.iconst 1, 1) := by decide +kernel
theorem dL_sample_16 : decode cL_sample 16 = .ok (.ireturn, 1) := by decide +kernel
theorem dL_sample_17 : decode cL_sample 17 = .ok (.iconst 0, 1) := by decide +kernel
theorem dL_sample_18 : decode cL_sample 18 = .ok (.ireturn, 1) := by decide +kernel
