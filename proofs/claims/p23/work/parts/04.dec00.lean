theorem dX0_init_0 : decode cX0_init 0 = .ok (.aload_n 0, 1) := by decide +kernel
theorem dX0_init_1 : decode cX0_init 1 = .ok (.invokespecial 3, 3) := by decide +kernel
theorem dX0_init_4 : decode cX0_init 4 = .ok (.aload_n 0, 1) := by decide +kernel
theorem dX0_init_5 : decode cX0_init 5 = .ok (.iconst 3, 1) := by decide +kernel
theorem dX0_init_6 : decode cX0_init 6 = .ok (.anewarray 9, 3) := by decide +kernel
theorem dX0_init_9 : decode cX0_init 9 = .ok (.putfield 11, 3) := by decide +kernel
theorem dX0_init_12 : decode cX0_init 12 = .ok (.aload_n 0, 1) := by decide +kernel
theorem dX0_init_13 : decode cX0_init 13 = .ok (.bipush 40, 2) := by decide +kernel
theorem dX0_init_15 : decode cX0_init 15 = .ok (.newarray .int, 2) := by decide +kernel
theorem dX0_init_17 : decode cX0_init 17 = .ok (.putfield 17, 3) := by decide +kernel
theorem dX0_init_20 : decode cX0_init 20 = .ok (.aload_n 0, 1) := by decide +kernel
theorem dX0_init_21 : decode cX0_init 21 = .ok (.iload_n 1, 1) := by decide +kernel
theorem dX0_init_22 : decode cX0_init 22 = .ok (.putfield 21, 3) := by decide +kernel
theorem dX0_init_25 : decode cX0_init 25 = .ok (.iconst 0, 1) := by decide +kernel
theorem dX0_init_26 : decode cX0_init 26 = .ok (.istore_n 2, 1) := by decide +kernel
theorem dX0_init_27 : decode cX0_init 27 = .ok (.iload_n 2, 1) := by decide +kernel
theorem dX0_init_28 : decode cX0_init 28 = .ok (.aload_n 0, 1) := by decide +kernel
theorem dX0_init_29 : decode cX0_init 29 = .ok (.getfield 11, 3) := by decide +kernel
theorem dX0_init_32 : decode cX0_init 32 = .ok (.arraylength, 1) := by decide +kernel
theorem dX0_init_33 : decode cX0_init 33 = .ok (.if_icmp .ge 22, 3) := by decide +kernel
theorem dX0_init_36 : decode cX0_init 36 = .ok (.aload_n 0, 1) := by decide +kernel
theorem dX0_init_37 : decode cX0_init 37 = .ok (.getfield 11, 3) := by decide +kernel
theorem dX0_init_40 : decode cX0_init 40 = .ok (.iload_n 2, 1) := by decide +kernel
theorem dX0_init_41 : decode cX0_init 41 = .ok (.new 9, 3) := by decide +kernel
theorem dX0_init_44 : decode cX0_init 44 = .ok (.dup, 1) := by decide +kernel
theorem dX0_init_45 : decode cX0_init 45 = .ok (.invokespecial 25, 3) := by decide +kernel
theorem dX0_init_48 : decode cX0_init 48 = .ok (.aastore, 1) := by decide +kernel
theorem dX0_init_49 : decode cX0_init 49 = .ok (.iinc 2 1, 3) := by decide +kernel
theorem dX0_init_52 : decode cX0_init 52 = .ok (.goto (-25), 3) := by decide +kernel
theorem dX0_init_55 : decode cX0_init 55 = .ok (.return_, 1) := by decide +kernel
theorem dX0_condition_0 : decode cX0_condition 0 = .ok (.aload_n 0, 1) := by decide +kernel
theorem dX0_condition_1 : decode cX0_condition 1 = .ok (.getfield 21, 3) := by decide +kernel
theorem dX0_condition_4 : decode cX0_condition 4 = .ok (.ireturn, 1) := by decide +kernel
theorem dX0_templateIn_0 : decode cX0_templateIn 0 = .ok (.iload_n 1, 1) := by decide +kernel
theorem dX0_templateIn_1 : decode cX0_templateIn 1 = .ok (.aload_n 0, 1) := by decide +kernel
theorem dX0_templateIn_2 : decode cX0_templateIn 2 = .ok (.getfield 11, 3) := by decide +kernel
theorem dX0_templateIn_5 : decode cX0_templateIn 5 = .ok (.arraylength, 1) := by decide +kernel
theorem dX0_templateIn_6 : decode cX0_templateIn 6 = .ok (.invokestatic 26, 3) := by decide +kernel
theorem dX0_templateIn_9 : decode cX0_templateIn 9 = .ok (.ifCond .eq 12, 3) := by decide +kernel
theorem dX0_templateIn_12 : decode cX0_templateIn 12 = .ok (.aload_n 0, 1) := by decide +kernel
theorem dX0_templateIn_13 : decode cX0_templateIn 13 = .ok (.getfield 11, 3) := by decide +kernel
theorem dX0_templateIn_16 : decode cX0_templateIn 16 = .ok (.iload_n 1, 1) := by decide +kernel
theorem dX0_templateIn_17 : decode cX0_templateIn 17 = .ok (.aaload, 1) := by decide +kernel
theorem dX0_templateIn_18 : decode cX0_templateIn 18 = .ok (.goto 4, 3) := by decide +kernel
theorem dX0_templateIn_21 : decode cX0_templateIn 21 = .ok (.aconst_null, 1) := by decide +kernel
theorem dX0_templateIn_22 : decode cX0_templateIn 22 = .ok (.areturn, 1) := by decide +kernel
theorem dX0_how_0 : decode cX0_how 0 = .ok (.aload_n 0, 1) := by decide +kernel
theorem dX0_how_1 : decode cX0_how 1 = .ok (.iload_n 1, 1) := by decide +kernel
theorem dX0_how_2 : decode cX0_how 2 = .ok (.iload_n 2, 1) := by decide +kernel
theorem dX0_how_3 : decode cX0_how 3 = .ok (.invokevirtual 30, 3) := by decide +kernel
theorem dX0_how_6 : decode cX0_how 6 = .ok (.istore_n 3, 1) := by decide +kernel
theorem dX0_how_7 : decode cX0_how 7 = .ok (.iload_n 3, 1) := by decide +kernel
theorem dX0_how_8 : decode cX0_how 8 = .ok (.aload_n 0, 1) := by decide +kernel
theorem dX0_how_9 : decode cX0_how 9 = .ok (.getfield 17, 3) := by decide +kernel
theorem dX0_how_12 : decode cX0_how 12 = .ok (.arraylength, 1) := by decide +kernel
theorem dX0_how_13 : decode cX0_how 13 = .ok (.invokestatic 26, 3) := by decide +kernel
theorem dX0_how_16 : decode cX0_how 16 = .ok (.ifCond .eq 12, 3) := by decide +kernel
theorem dX0_how_19 : decode cX0_how 19 = .ok (.aload_n 0, 1) := by decide +kernel
theorem dX0_how_20 : decode cX0_how 20 = .ok (.getfield 17, 3) := by decide +kernel
theorem dX0_how_23 : decode cX0_how 23 = .ok (.iload_n 3, 1) := by decide +kernel
theorem dX0_how_24 : decode cX0_how 24 = .ok (.iaload, 1) := by decide +kernel
theorem dX0_how_25 : decode cX0_how 25 = .ok (.goto 4, 3) := by decide +kernel
theorem dX0_how_28 : decode cX0_how 28 = .ok (.iconst 0, 1) := by decide +kernel
theorem dX0_how_29 : decode cX0_how 29 = .ok (.ireturn, 1) := by decide +kernel
theorem dX0_setHow_0 : decode cX0_setHow 0 = .ok (.aload_n 0, 1) := by decide +kernel
theorem dX0_setHow_1 : decode cX0_setHow 1 = .ok (.iload_n 1, 1) := by decide +kernel
theorem dX0_setHow_2 : decode cX0_setHow 2 = .ok (.iload_n 2, 1) := by decide +kernel
theorem dX0_setHow_3 : decode cX0_setHow 3 = .ok (.invokevirtual 30, 3) := by decide +kernel
theorem dX0_setHow_6 : decode cX0_setHow 6 = .ok (.istore 4, 2) := by decide +kernel
theorem dX0_setHow_8 : decode cX0_setHow 8 = .ok (.iload 4, 2) := by decide +kernel
theorem dX0_setHow_10 : decode cX0_setHow 10 = .ok (.aload_n 0, 1) := by decide +kernel
theorem dX0_setHow_11 : decode cX0_setHow 11 = .ok (.getfield 17, 3) := by decide +kernel
theorem dX0_setHow_14 : decode cX0_setHow 14 = .ok (.arraylength, 1) := by decide +kernel
theorem dX0_setHow_15 : decode cX0_setHow 15 = .ok (.invokestatic 26, 3) := by decide +kernel
theorem dX0_setHow_18 : decode cX0_setHow 18 = .ok (.ifCond .eq 11, 3) := by decide +kernel
theorem dX0_setHow_21 : decode cX0_setHow 21 = .ok (.aload_n 0, 1) := by decide +kernel
theorem dX0_setHow_22 : decode cX0_setHow 22 = .ok (.getfield 17, 3) := by decide +kernel
theorem dX0_setHow_25 : decode cX0_setHow 25 = .ok (.iload 4, 2) := by decide +kernel
theorem dX0_setHow_27 : decode cX0_setHow 27 = .ok (.iload_n 3, 1) := by decide +kernel
theorem dX0_setHow_28 : decode cX0_setHow 28 = .ok (.iastore, 1) := by decide +kernel
theorem dX0_setHow_29 : decode cX0_setHow 29 = .ok (.return_, 1) := by decide +kernel
theorem dX0_howIndex_0 : decode cX0_howIndex 0 = .ok (.iload_n 1, 1) := by decide +kernel
theorem dX0_howIndex_1 : decode cX0_howIndex 1 = .ok (.bipush 10, 2) := by decide +kernel
theorem dX0_howIndex_3 : decode cX0_howIndex 3 = .ok (.invokestatic 26, 3) := by decide +kernel
theorem dX0_howIndex_6 : decode cX0_howIndex 6 = .ok (.ifCond .eq 15, 3) := by decide +kernel
theorem dX0_howIndex_9 : decode cX0_howIndex 9 = .ok (.iload_n 2, 1) := by decide +kernel
theorem dX0_howIndex_10 : decode cX0_howIndex 10 = .ok (.iconst 4, 1) := by decide +kernel
theorem dX0_howIndex_11 : decode cX0_howIndex 11 = .ok (.invokestatic 26, 3) := by decide +kernel
theorem dX0_howIndex_14 : decode cX0_howIndex 14 = .ok (.ifCond .eq 7, 3) := by decide +kernel
theorem dX0_howIndex_17 : decode cX0_howIndex 17 = .ok (.iconst 1, 1) := by decide +kernel
theorem dX0_howIndex_18 : decode cX0_howIndex 18 = .ok (.goto 4, 3) := by decide +kernel
theorem dX0_howIndex_21 : decode cX0_howIndex 21 = .ok (.iconst 0, 1) := by decide +kernel
theorem dX0_howIndex_22 : decode cX0_howIndex 22 = .ok (.istore_n 3, 1) := by decide +kernel
theorem dX0_howIndex_23 : decode cX0_howIndex 23 = .ok (.iload_n 3, 1) := by decide +kernel
theorem dX0_howIndex_24 : decode cX0_howIndex 24 = .ok (.ifCond .eq 11, 3) := by decide +kernel
theorem dX0_howIndex_27 : decode cX0_howIndex 27 = .ok (.iload_n 1, 1) := by decide +kernel
theorem dX0_howIndex_28 : decode cX0_howIndex 28 = .ok (.iconst 4, 1) := by decide +kernel
theorem dX0_howIndex_29 : decode cX0_howIndex 29 = .ok (.imul, 1) := by decide +kernel
theorem dX0_howIndex_30 : decode cX0_howIndex 30 = .ok (.iload_n 2, 1) := by decide +kernel
theorem dX0_howIndex_31 : decode cX0_howIndex 31 = .ok (.iadd, 1) := by decide +kernel
theorem dX0_howIndex_32 : decode cX0_howIndex 32 = .ok (.goto 4, 3) := by decide +kernel
theorem dX0_howIndex_35 : decode cX0_howIndex 35 = .ok (.iconst (-1), 1) := by decide +kernel
theorem dX0_howIndex_36 : decode cX0_howIndex 36 = .ok (.ireturn, 1) := by decide +kernel
theorem dX0_hasSameSlots_0 : decode cX0_hasSameSlots 0 = .ok (.iconst 0, 1) := by decide +kernel
theorem dX0_hasSameSlots_1 : decode cX0_hasSameSlots 1 = .ok (.istore_n 1, 1) := by decide +kernel
theorem dX0_hasSameSlots_2 : decode cX0_hasSameSlots 2 = .ok (.iload_n 1, 1) := by decide +kernel
theorem dX0_hasSameSlots_3 : decode cX0_hasSameSlots 3 = .ok (.iconst 5, 1) := by decide +kernel
theorem dX0_hasSameSlots_4 : decode cX0_hasSameSlots 4 = .ok (.if_icmp .ge 19, 3) := by decide +kernel
theorem dX0_hasSameSlots_7 : decode cX0_hasSameSlots 7 = .ok (.aload_n 0, 1) := by decide +kernel
theorem dX0_hasSameSlots_8 : decode cX0_hasSameSlots 8 = .ok (.iload_n 1, 1) := by decide +kernel
theorem dX0_hasSameSlots_9 : decode cX0_hasSameSlots 9 = .ok (.invokevirtual 34, 3) := by decide +kernel
theorem dX0_hasSameSlots_12 : decode cX0_hasSameSlots 12 = .ok (.ifCond .ne 5, 3) := by decide +kernel
theorem dX0_hasSameSlots_15 : decode cX0_hasSameSlots 15 = .ok (.iconst 0, 1) := by decide +kernel
theorem dX0_hasSameSlots_16 : decode cX0_hasSameSlots 16 = .ok (.ireturn, 1) := by decide +kernel
theorem dX0_hasSameSlots_17 : decode cX0_hasSameSlots 17 = .ok (.iinc 1 1, 3) := by decide +kernel
theorem dX0_hasSameSlots_20 : decode cX0_hasSameSlots 20 = .ok (.goto (-18), 3) := by decide +kernel
theorem dX0_hasSameSlots_23 : decode cX0_hasSameSlots 23 = .ok (.iconst 1, 1) := by decide +kernel
theorem dX0_hasSameSlots_24 : decode cX0_hasSameSlots 24 = .ok (.ireturn, 1) := by decide +kernel
theorem dX0_isSameCount_0 : decode cX0_isSameCount 0 = .ok (.iconst (-1), 1) := by decide +kernel
theorem dX0_isSameCount_1 : decode cX0_isSameCount 1 = .ok (.istore_n 2, 1) := by decide +kernel
theorem dX0_isSameCount_2 : decode cX0_isSameCount 2 = .ok (.iconst 0, 1) := by decide +kernel
theorem dX0_isSameCount_3 : decode cX0_isSameCount 3 = .ok (.istore_n 3, 1) := by decide +kernel
theorem dX0_isSameCount_4 : decode cX0_isSameCount 4 = .ok (.iload_n 3, 1) := by decide +kernel
theorem dX0_isSameCount_5 : decode cX0_isSameCount 5 = .ok (.iconst 3, 1) := by decide +kernel
theorem dX0_isSameCount_6 : decode cX0_isSameCount 6 = .ok (.if_icmp .ge 53, 3) := by decide +kernel
theorem dX0_isSameCount_9 : decode cX0_isSameCount 9 = .ok (.aload_n 0, 1) := by decide +kernel
theorem dX0_isSameCount_10 : decode cX0_isSameCount 10 = .ok (.iload_n 3, 1) := by decide +kernel
theorem dX0_isSameCount_11 : decode cX0_isSameCount 11 = .ok (.invokevirtual 38, 3) := by decide +kernel
theorem dX0_isSameCount_14 : decode cX0_isSameCount 14 = .ok (.astore 4, 2) := by decide +kernel
theorem dX0_isSameCount_16 : decode cX0_isSameCount 16 = .ok (.aload 4, 2) := by decide +kernel
theorem dX0_isSameCount_18 : decode cX0_isSameCount 18 = .ok (.ifnull 35, 3) := by decide +kernel
theorem dX0_isSameCount_21 : decode cX0_isSameCount 21 = .ok (.aload 4, 2) := by decide +kernel
theorem dX0_isSameCount_23 : decode cX0_isSameCount 23 = .ok (.invokevirtual 42, 3) := by decide +kernel
theorem dX0_isSameCount_26 : decode cX0_isSameCount 26 = .ok (.ifCond .eq 27, 3) := by decide +kernel
theorem dX0_isSameCount_29 : decode cX0_isSameCount 29 = .ok (.aload 4, 2) := by decide +kernel
theorem dX0_isSameCount_31 : decode cX0_isSameCount 31 = .ok (.iload_n 1, 1) := by decide +kernel
theorem dX0_isSameCount_32 : decode cX0_isSameCount 32 = .ok (.invokevirtual 46, 3) := by decide +kernel
theorem dX0_isSameCount_35 : decode cX0_isSameCount 35 = .ok (.istore 5, 2) := by decide +kernel
theorem dX0_isSameCount_37 : decode cX0_isSameCount 37 = .ok (.iload_n 2, 1) := by decide +kernel
theorem dX0_isSameCount_38 : decode cX0_isSameCount 38 = .ok (.iconst (-1), 1) := by decide +kernel
theorem dX0_isSameCount_39 : decode cX0_isSameCount 39 = .ok (.if_icmp .eq 11, 3) := by decide +kernel
theorem dX0_isSameCount_42 : decode cX0_isSameCount 42 = .ok (.iload_n 2, 1) := by decide +kernel
theorem dX0_isSameCount_43 : decode cX0_isSameCount 43 = .ok (.iload 5, 2) := by decide +kernel
theorem dX0_isSameCount_45 : decode cX0_isSameCount 45 = .ok (.if_icmp .eq 5, 3) := by decide +kernel
theorem dX0_isSameCount_48 : decode cX0_isSameCount 48 = .ok (.iconst 0, 1) := by decide +kernel
theorem dX0_isSameCount_49 : decode cX0_isSameCount 49 = .ok (.ireturn, 1) := by decide +kernel
theorem dX0_isSameCount_50 : decode cX0_isSameCount 50 = .ok (.iload 5, 2) := by decide +kernel
theorem dX0_isSameCount_52 : decode cX0_isSameCount 52 = .ok (.istore_n 2, 1) := by decide +kernel
theorem dX0_isSameCount_53 : decode cX0_isSameCount 53 = .ok (.iinc 3 1, 3) := by decide +kernel
theorem dX0_isSameCount_56 : decode cX0_isSameCount 56 = .ok (.goto (-52), 3) := by decide +kernel
theorem dX0_isSameCount_59 : decode cX0_isSameCount 59 = .ok (.iconst 1, 1) := by decide +kernel
theorem dX0_isSameCount_60 : decode cX0_isSameCount 60 = .ok (.ireturn, 1) := by decide +kernel
theorem dX1_init_0 : decode cX1_init 0 = .ok (.aload_n 0, 1) := by decide +kernel
theorem dX1_init_1 : decode cX1_init 1 = .ok (.invokespecial 3, 3) := by decide +kernel
theorem dX1_init_4 : decode cX1_init 4 = .ok (.aload_n 0, 1) := by decide +kernel
theorem dX1_init_5 : decode cX1_init 5 = .ok (.iconst 5, 1) := by decide +kernel
theorem dX1_init_6 : decode cX1_init 6 = .ok (.newarray .int, 2) := by decide +kernel
theorem dX1_init_8 : decode cX1_init 8 = .ok (.putfield 9, 3) := by decide +kernel
theorem dX1_init_11 : decode cX1_init 11 = .ok (.aload_n 0, 1) := by decide +kernel
theorem dX1_init_12 : decode cX1_init 12 = .ok (.iload_n 2, 1) := by decide +kernel
theorem dX1_init_13 : decode cX1_init 13 = .ok (.putfield 15, 3) := by decide +kernel
theorem dX1_init_16 : decode cX1_init 16 = .ok (.iconst 0, 1) := by decide +kernel
theorem dX1_init_17 : decode cX1_init 17 = .ok (.istore_n 3, 1) := by decide +kernel
theorem dX1_init_18 : decode cX1_init 18 = .ok (.iload_n 3, 1) := by decide +kernel
theorem dX1_init_19 : decode cX1_init 19 = .ok (.aload_n 0, 1) := by decide +kernel
theorem dX1_init_20 : decode cX1_init 20 = .ok (.getfield 9, 3) := by decide +kernel
theorem dX1_init_23 : decode cX1_init 23 = .ok (.arraylength, 1) := by decide +kernel
theorem dX1_init_24 : decode cX1_init 24 = .ok (.if_icmp .ge 16, 3) := by decide +kernel
theorem dX1_init_27 : decode cX1_init 27 = .ok (.aload_n 0, 1) := by decide +kernel
theorem dX1_init_28 : decode cX1_init 28 = .ok (.getfield 9, 3) := by decide +kernel
theorem dX1_init_31 : decode cX1_init 31 = .ok (.iload_n 3, 1) := by decide +kernel
theorem dX1_init_32 : decode cX1_init 32 = .ok (.iload_n 1, 1) := by decide +kernel
theorem dX1_init_33 : decode cX1_init 33 = .ok (.iastore, 1) := by decide +kernel
theorem dX1_init_34 : decode cX1_init 34 = .ok (.iinc 3 1, 3) := by decide +kernel
theorem dX1_init_37 : decode cX1_init 37 = .ok (.goto (-19), 3) := by decide +kernel
theorem dX1_init_40 : decode cX1_init 40 = .ok (.return_, 1) := by decide +kernel
theorem dX1_wordOf_0 : decode cX1_wordOf 0 = .ok (.iload_n 1, 1) := by decide +kernel
theorem dX1_wordOf_1 : decode cX1_wordOf 1 = .ok (.aload_n 0, 1) := by decide +kernel
theorem dX1_wordOf_2 : decode cX1_wordOf 2 = .ok (.getfield 9, 3) := by decide +kernel
theorem dX1_wordOf_5 : decode cX1_wordOf 5 = .ok (.arraylength, 1) := by decide +kernel
theorem dX1_wordOf_6 : decode cX1_wordOf 6 = .ok (.invokestatic 19, 3) := by decide +kernel
theorem dX1_wordOf_9 : decode cX1_wordOf 9 = .ok (.ifCond .eq 12, 3) := by decide +kernel
theorem dX1_wordOf_12 : decode cX1_wordOf 12 = .ok (.aload_n 0, 1) := by decide +kernel
theorem dX1_wordOf_13 : decode cX1_wordOf 13 = .ok (.getfield 9, 3) := by decide +kernel
theorem dX1_wordOf_16 : decode cX1_wordOf 16 = .ok (.iload_n 1, 1) := by decide +kernel
theorem dX1_wordOf_17 : decode cX1_wordOf 17 = .ok (.iaload, 1) := by decide +kernel
theorem dX1_wordOf_18 : decode cX1_wordOf 18 = .ok (.goto 4, 3) := by decide +kernel
theorem dX1_wordOf_21 : decode cX1_wordOf 21 = .ok (.iconst (-1), 1) := by decide +kernel
theorem dX1_wordOf_22 : decode cX1_wordOf 22 = .ok (.ireturn, 1) := by decide +kernel
theorem dX1_setWord_0 : decode cX1_setWord 0 = .ok (.iload_n 1, 1) := by decide +kernel
theorem dX1_setWord_1 : decode cX1_setWord 1 = .ok (.aload_n 0, 1) := by decide +kernel
theorem dX1_setWord_2 : decode cX1_setWord 2 = .ok (.getfield 9, 3) := by decide +kernel
theorem dX1_setWord_5 : decode cX1_setWord 5 = .ok (.arraylength, 1) := by decide +kernel
theorem dX1_setWord_6 : decode cX1_setWord 6 = .ok (.invokestatic 19, 3) := by decide +kernel
theorem dX1_setWord_9 : decode cX1_setWord 9 = .ok (.ifCond .eq 10, 3) := by decide +kernel
theorem dX1_setWord_12 : decode cX1_setWord 12 = .ok (.aload_n 0, 1) := by decide +kernel
theorem dX1_setWord_13 : decode cX1_setWord 13 = .ok (.getfield 9, 3) := by decide +kernel
theorem dX1_setWord_16 : decode cX1_setWord 16 = .ok (.iload_n 1, 1) := by decide +kernel
theorem dX1_setWord_17 : decode cX1_setWord 17 = .ok (.iload_n 2, 1) := by decide +kernel
theorem dX1_setWord_18 : decode cX1_setWord 18 = .ok (.iastore, 1) := by decide +kernel
theorem dX1_setWord_19 : decode cX1_setWord 19 = .ok (.return_, 1) := by decide +kernel
theorem dX1_meets_0 : decode cX1_meets 0 = .ok (.iload_n 1, 1) := by decide +kernel
theorem dX1_meets_1 : decode cX1_meets 1 = .ok (.iconst (-1), 1) := by decide +kernel
theorem dX1_meets_2 : decode cX1_meets 2 = .ok (.if_icmp .eq 15, 3) := by decide +kernel
theorem dX1_meets_5 : decode cX1_meets 5 = .ok (.aload_n 0, 1) := by decide +kernel
theorem dX1_meets_6 : decode cX1_meets 6 = .ok (.getfield 15, 3) := by decide +kernel
theorem dX1_meets_9 : decode cX1_meets 9 = .ok (.iload_n 1, 1) := by decide +kernel
theorem dX1_meets_10 : decode cX1_meets 10 = .ok (.ishr, 1) := by decide +kernel
theorem dX1_meets_11 : decode cX1_meets 11 = .ok (.iconst 1, 1) := by decide +kernel
theorem dX1_meets_12 : decode cX1_meets 12 = .ok (.iand, 1) := by decide +kernel
theorem dX1_meets_13 : decode cX1_meets 13 = .ok (.iconst 1, 1) := by decide +kernel
theorem dX1_meets_14 : decode cX1_meets 14 = .ok (.if_icmp .ne 7, 3) := by decide +kernel
theorem dX1_meets_17 : decode cX1_meets 17 = .ok (.iconst 1, 1) := by decide +kernel
theorem dX1_meets_18 : decode cX1_meets 18 = .ok (.goto 4, 3) := by decide +kernel
theorem dX1_meets_21 : decode cX1_meets 21 = .ok (.iconst 0, 1) := by decide +kernel
theorem dX1_meets_22 : decode cX1_meets 22 = .ok (.ireturn, 1) := by decide +kernel
theorem dX2_init_0 : decode cX2_init 0 = .ok (.aload_n 0, 1) := by decide +kernel
theorem dX2_init_1 : decode cX2_init 1 = .ok (.invokespecial 3, 3) := by decide +kernel
theorem dX2_init_4 : decode cX2_init 4 = .ok (.aload_n 0, 1) := by decide +kernel
theorem dX2_init_5 : decode cX2_init 5 = .ok (.bipush 6, 2) := by decide +kernel
theorem dX2_init_7 : decode cX2_init 7 = .ok (.newarray .int, 2) := by decide +kernel
theorem dX2_init_9 : decode cX2_init 9 = .ok (.putfield 9, 3) := by decide +kernel
theorem dX2_init_12 : decode cX2_init 12 = .ok (.return_, 1) := by decide +kernel
theorem dX2_count_0 : decode cX2_count 0 = .ok (.aload_n 0, 1) := by decide +kernel
theorem dX2_count_1 : decode cX2_count 1 = .ok (.getfield 15, 3) := by decide +kernel
theorem dX2_count_4 : decode cX2_count 4 = .ok (.ireturn, 1) := by decide +kernel
theorem dX2_at_0 : decode cX2_at 0 = .ok (.iload_n 1, 1) := by decide +kernel
theorem dX2_at_1 : decode cX2_at 1 = .ok (.aload_n 0, 1) := by decide +kernel
theorem dX2_at_2 : decode cX2_at 2 = .ok (.getfield 15, 3) := by decide +kernel
theorem dX2_at_5 : decode cX2_at 5 = .ok (.invokestatic 19, 3) := by decide +kernel
theorem dX2_at_8 : decode cX2_at 8 = .ok (.ifCond .eq 21, 3) := by decide +kernel
theorem dX2_at_11 : decode cX2_at 11 = .ok (.iload_n 1, 1) := by decide +kernel
theorem dX2_at_12 : decode cX2_at 12 = .ok (.aload_n 0, 1) := by decide +kernel
theorem dX2_at_13 : decode cX2_at 13 = .ok (.getfield 9, 3) := by decide +kernel
theorem dX2_at_16 : decode cX2_at 16 = .ok (.arraylength, 1) := by decide +kernel
theorem dX2_at_17 : decode cX2_at 17 = .ok (.if_icmp .ge 12, 3) := by decide +kernel
theorem dX2_at_20 : decode cX2_at 20 = .ok (.aload_n 0, 1) := by decide +kernel
theorem dX2_at_21 : decode cX2_at 21 = .ok (.getfield 9, 3) := by decide +kernel
theorem dX2_at_24 : decode cX2_at 24 = .ok (.iload_n 1, 1) := by decide +kernel
theorem dX2_at_25 : decode cX2_at 25 = .ok (.iaload, 1) := by decide +kernel
theorem dX2_at_26 : decode cX2_at 26 = .ok (.goto 4, 3) := by decide +kernel
theorem dX2_at_29 : decode cX2_at 29 = .ok (.iconst (-1), 1) := by decide +kernel
theorem dX2_at_30 : decode cX2_at 30 = .ok (.ireturn, 1) := by decide +kernel
theorem dX2_has_0 : decode cX2_has 0 = .ok (.iconst 0, 1) := by decide +kernel
theorem dX2_has_1 : decode cX2_has 1 = .ok (.istore_n 2, 1) := by decide +kernel
theorem dX2_has_2 : decode cX2_has 2 = .ok (.iload_n 2, 1) := by decide +kernel
theorem dX2_has_3 : decode cX2_has 3 = .ok (.aload_n 0, 1) := by decide +kernel
theorem dX2_has_4 : decode cX2_has 4 = .ok (.getfield 15, 3) := by decide +kernel
theorem dX2_has_7 : decode cX2_has 7 = .ok (.if_icmp .ge 20, 3) := by decide +kernel
theorem dX2_has_10 : decode cX2_has 10 = .ok (.aload_n 0, 1) := by decide +kernel
theorem dX2_has_11 : decode cX2_has 11 = .ok (.iload_n 2, 1) := by decide +kernel
theorem dX2_has_12 : decode cX2_has 12 = .ok (.invokevirtual 23, 3) := by decide +kernel
theorem dX2_has_15 : decode cX2_has 15 = .ok (.iload_n 1, 1) := by decide +kernel
theorem dX2_has_16 : decode cX2_has 16 = .ok (.if_icmp .ne 5, 3) := by decide +kernel
theorem dX2_has_19 : decode cX2_has 19 = .ok (.iconst 1, 1) := by decide +kernel
theorem dX2_has_20 : decode cX2_has 20 = .ok (.ireturn, 1) := by decide +kernel
theorem dX2_has_21 : decode cX2_has 21 = .ok (.iinc 2 1, 3) := by decide +kernel
theorem dX2_has_24 : decode cX2_has 24 = .ok (.goto (-22), 3) := by decide +kernel
theorem dX2_has_27 : decode cX2_has 27 = .ok (.iconst 0, 1) := by decide +kernel
theorem dX2_has_28 : decode cX2_has 28 = .ok (.ireturn, 1) := by decide +kernel
theorem dX2_append_0 : decode cX2_append 0 = .ok (.aload_n 0, 1) := by decide +kernel
theorem dX2_append_1 : decode cX2_append 1 = .ok (.getfield 15, 3) := by decide +kernel
theorem dX2_append_4 : decode cX2_append 4 = .ok (.aload_n 0, 1) := by decide +kernel
theorem dX2_append_5 : decode cX2_append 5 = .ok (.getfield 9, 3) := by decide +kernel
theorem dX2_append_8 : decode cX2_append 8 = .ok (.arraylength, 1) := by decide +kernel
theorem dX2_append_9 : decode cX2_append 9 = .ok (.invokestatic 19, 3) := by decide +kernel
theorem dX2_append_12 : decode cX2_append 12 = .ok (.ifCond .ne 5, 3) := by decide +kernel
theorem dX2_append_15 : decode cX2_append 15 = .ok (.iconst 0, 1) := by decide +kernel
theorem dX2_append_16 : decode cX2_append 16 = .ok (.ireturn, 1) := by decide +kernel
theorem dX2_append_17 : decode cX2_append 17 = .ok (.aload_n 0, 1) := by decide +kernel
theorem dX2_append_18 : decode cX2_append 18 = .ok (.getfield 9, 3) := by decide +kernel
theorem dX2_append_21 : decode cX2_append 21 = .ok (.aload_n 0, 1) := by decide +kernel
theorem dX2_append_22 : decode cX2_append 22 = .ok (.getfield 15, 3) := by decide +kernel
theorem dX2_append_25 : decode cX2_append 25 = .ok (.iload_n 1, 1) := by decide +kernel
theorem dX2_append_26 : decode cX2_append 26 = .ok (.iastore, 1) := by decide +kernel
theorem dX2_append_27 : decode cX2_append 27 = .ok (.aload_n 0, 1) := by decide +kernel
theorem dX2_append_28 : decode cX2_append 28 = .ok (.dup, 1) := by decide +kernel
theorem dX2_append_29 : decode cX2_append 29 = .ok (.getfield 15, 3) := by decide +kernel
theorem dX2_append_32 : decode cX2_append 32 = .ok (.iconst 1, 1) := by decide +kernel
theorem dX2_append_33 : decode cX2_append 33 = .ok (.iadd, 1) := by decide +kernel
theorem dX2_append_34 : decode cX2_append 34 = .ok (.putfield 15, 3) := by decide +kernel
theorem dX2_append_37 : decode cX2_append 37 = .ok (.iconst 1, 1) := by decide +kernel
theorem dX2_append_38 : decode cX2_append 38 = .ok (.ireturn, 1) := by decide +kernel
theorem dX3_init_0 : decode cX3_init 0 = .ok (.aload_n 0, 1) := by decide +kernel
theorem dX3_init_1 : decode cX3_init 1 = .ok (.invokespecial 3, 3) := by decide +kernel
theorem dX3_init_4 : decode cX3_init 4 = .ok (.aload_n 0, 1) := by decide +kernel
theorem dX3_init_5 : decode cX3_init 5 = .ok (.new 9, 3) := by decide +kernel
theorem dX3_init_8 : decode cX3_init 8 = .ok (.dup, 1) := by decide +kernel
theorem dX3_init_9 : decode cX3_init 9 = .ok (.sipush 1014, 3) := by decide +kernel
theorem dX3_init_12 : decode cX3_init 12 = .ok (.invokespecial 11, 3) := by decide +kernel
theorem dX3_init_15 : decode cX3_init 15 = .ok (.putfield 14, 3) := by decide +kernel
theorem dX3_init_18 : decode cX3_init 18 = .ok (.aload_n 0, 1) := by decide +kernel
theorem dX3_init_19 : decode cX3_init 19 = .ok (.iconst 1, 1) := by decide +kernel
theorem dX3_init_20 : decode cX3_init 20 = .ok (.putfield 20, 3) := by decide +kernel
theorem dX3_init_23 : decode cX3_init 23 = .ok (.return_, 1) := by decide +kernel
theorem dX3_start_0 : decode cX3_start 0 = .ok (.aload_n 0, 1) := by decide +kernel
theorem dX3_start_1 : decode cX3_start 1 = .ok (.getfield 14, 3) := by decide +kernel
theorem dX3_start_4 : decode cX3_start 4 = .ok (.invokevirtual 24, 3) := by decide +kernel
theorem dX3_start_7 : decode cX3_start 7 = .ok (.aload_n 0, 1) := by decide +kernel
theorem dX3_start_8 : decode cX3_start 8 = .ok (.iconst 1, 1) := by decide +kernel
theorem dX3_start_9 : decode cX3_start 9 = .ok (.putfield 20, 3) := by decide +kernel
theorem dX3_start_12 : decode cX3_start 12 = .ok (.return_, 1) := by decide +kernel
theorem dX3_lay_0 : decode cX3_lay 0 = .ok (.aload_n 0, 1) := by decide +kernel
theorem dX3_lay_1 : decode cX3_lay 1 = .ok (.getfield 14, 3) := by decide +kernel
theorem dX3_lay_4 : decode cX3_lay 4 = .ok (.aload_n 0, 1) := by decide +kernel
theorem dX3_lay_5 : decode cX3_lay 5 = .ok (.getfield 20, 3) := by decide +kernel
theorem dX3_lay_8 : decode cX3_lay 8 = .ok (.ifCond .eq 10, 3) := by decide +kernel
theorem dX3_lay_11 : decode cX3_lay 11 = .ok (.iload_n 1, 1) := by decide +kernel
theorem dX3_lay_12 : decode cX3_lay 12 = .ok (.invokestatic 27, 3) := by decide +kernel
theorem dX3_lay_15 : decode cX3_lay 15 = .ok (.goto 4, 3) := by decide +kernel
theorem dX3_lay_18 : decode cX3_lay 18 = .ok (.iload_n 1, 1) := by decide +kernel
theorem dX3_lay_19 : decode cX3_lay 19 = .ok (.invokevirtual 31, 3) := by decide +kernel
theorem dX3_lay_22 : decode cX3_lay 22 = .ok (.pop, 1) := by decide +kernel
theorem dX3_lay_23 : decode cX3_lay 23 = .ok (.aload_n 0, 1) := by decide +kernel
theorem dX3_lay_24 : decode cX3_lay 24 = .ok (.iload_n 1, 1) := by decide +kernel
theorem dX3_lay_25 : decode cX3_lay 25 = .ok (.aload_n 0, 1) := by decide +kernel
theorem dX3_lay_26 : decode cX3_lay 26 = .ok (.getfield 20, 3) := by decide +kernel
theorem dX3_lay_29 : decode cX3_lay 29 = .ok (.invokestatic 35, 3) := by decide +kernel
theorem dX3_lay_32 : decode cX3_lay 32 = .ok (.putfield 20, 3) := by decide +kernel
theorem dX3_lay_35 : decode cX3_lay 35 = .ok (.return_, 1) := by decide +kernel
theorem dX3_length_0 : decode cX3_length 0 = .ok (.aload_n 0, 1) := by decide +kernel
theorem dX3_length_1 : decode cX3_length 1 = .ok (.getfield 14, 3) := by decide +kernel
theorem dX3_length_4 : decode cX3_length 4 = .ok (.invokevirtual 39, 3) := by decide +kernel
theorem dX3_length_7 : decode cX3_length 7 = .ok (.ireturn, 1) := by decide +kernel
theorem dX3_at_0 : decode cX3_at 0 = .ok (.aload_n 0, 1) := by decide +kernel
theorem dX3_at_1 : decode cX3_at 1 = .ok (.getfield 14, 3) := by decide +kernel
theorem dX3_at_4 : decode cX3_at 4 = .ok (.iload_n 1, 1) := by decide +kernel
theorem dX3_at_5 : decode cX3_at 5 = .ok (.invokevirtual 43, 3) := by decide +kernel
theorem dX3_at_8 : decode cX3_at 8 = .ok (.ireturn, 1) := by decide +kernel
theorem dX3_countWords_0 : decode cX3_countWords 0 = .ok (.iconst 0, 1) := by decide +kernel
theorem dX3_countWords_1 : decode cX3_countWords 1 = .ok (.istore_n 1, 1) := by decide +kernel
theorem dX3_countWords_2 : decode cX3_countWords 2 = .ok (.iconst 0, 1) := by decide +kernel
theorem dX3_countWords_3 : decode cX3_countWords 3 = .ok (.istore_n 2, 1) := by decide +kernel
theorem dX3_countWords_4 : decode cX3_countWords 4 = .ok (.iconst 0, 1) := by decide +kernel
theorem dX3_countWords_5 : decode cX3_countWords 5 = .ok (.istore_n 3, 1) := by decide +kernel
theorem dX3_countWords_6 : decode cX3_countWords 6 = .ok (.iload_n 3, 1) := by decide +kernel
theorem dX3_countWords_7 : decode cX3_countWords 7 = .ok (.aload_n 0, 1) := by decide +kernel
theorem dX3_countWords_8 : decode cX3_countWords 8 = .ok (.getfield 14, 3) := by decide +kernel
theorem dX3_countWords_11 : decode cX3_countWords 11 = .ok (.invokevirtual 39, 3) := by decide +kernel
theorem dX3_countWords_14 : decode cX3_countWords 14 = .ok (.if_icmp .ge 55, 3) := by decide +kernel
theorem dX3_countWords_17 : decode cX3_countWords 17 = .ok (.aload_n 0, 1) := by decide +kernel
theorem dX3_countWords_18 : decode cX3_countWords 18 = .ok (.getfield 14, 3) := by decide +kernel
theorem dX3_countWords_21 : decode cX3_countWords 21 = .ok (.iload_n 3, 1) := by decide +kernel
theorem dX3_countWords_22 : decode cX3_countWords 22 = .ok (.invokevirtual 43, 3) := by decide +kernel
theorem dX3_countWords_25 : decode cX3_countWords 25 = .ok (.istore 4, 2) := by decide +kernel
theorem dX3_countWords_27 : decode cX3_countWords 27 = .ok (.iload 4, 2) := by decide +kernel
theorem dX3_countWords_29 : decode cX3_countWords 29 = .ok (.bipush 32, 2) := by decide +kernel
theorem dX3_countWords_31 : decode cX3_countWords 31 = .ok (.if_icmp .eq 14, 3) := by decide +kernel
theorem dX3_countWords_34 : decode cX3_countWords 34 = .ok (.iload 4, 2) := by decide +kernel
theorem dX3_countWords_36 : decode cX3_countWords 36 = .ok (.bipush 46, 2) := by decide +kernel
theorem dX3_countWords_38 : decode cX3_countWords 38 = .ok (.if_icmp .eq 7, 3) := by decide +kernel
theorem dX3_countWords_41 : decode cX3_countWords 41 = .ok (.iconst 1, 1) := by decide +kernel
theorem dX3_countWords_42 : decode cX3_countWords 42 = .ok (.goto 4, 3) := by decide +kernel
theorem dX3_countWords_45 : decode cX3_countWords 45 = .ok (.iconst 0, 1) := by decide +kernel
theorem dX3_countWords_46 : decode cX3_countWords 46 = .ok (.istore 5, 2) := by decide +kernel
theorem dX3_countWords_48 : decode cX3_countWords 48 = .ok (.iload 5, 2) := by decide +kernel
theorem dX3_countWords_50 : decode cX3_countWords 50 = .ok (.ifCond .eq 10, 3) := by decide +kernel
theorem dX3_countWords_53 : decode cX3_countWords 53 = .ok (.iload_n 2, 1) := by decide +kernel
theorem dX3_countWords_54 : decode cX3_countWords 54 = .ok (.ifCond .ne 6, 3) := by decide +kernel
theorem dX3_countWords_57 : decode cX3_countWords 57 = .ok (.iinc 1 1, 3) := by decide +kernel
theorem dX3_countWords_60 : decode cX3_countWords 60 = .ok (.iload 5, 2) := by decide +kernel
theorem dX3_countWords_62 : decode cX3_countWords 62 = .ok (.istore_n 2, 1) := by decide +kernel
theorem dX3_countWords_63 : decode cX3_countWords 63 = .ok (.iinc 3 1, 3) := by decide +kernel
theorem dX3_countWords_66 : decode cX3_countWords 66 = .ok (.goto (-60), 3) := by decide +kernel
theorem dX3_countWords_69 : decode cX3_countWords 69 = .ok (.iload_n 1, 1) := by decide +kernel
theorem dX3_countWords_70 : decode cX3_countWords 70 = .ok (.ireturn, 1) := by decide +kernel
theorem dX4_init_0 : decode cX4_init 0 = .ok (.aload_n 0, 1) := by decide +kernel
theorem dX4_init_1 : decode cX4_init 1 = .ok (.invokespecial 1, 3) := by decide +kernel
theorem dX4_init_4 : decode cX4_init 4 = .ok (.return_, 1) := by decide +kernel
theorem dX4_start_0 : decode cX4_start 0 = .ok (.aload_n 0, 1) := by decide +kernel
theorem dX4_start_1 : decode cX4_start 1 = .ok (.iload_n 1, 1) := by decide +kernel
theorem dX4_start_2 : decode cX4_start 2 = .ok (.putfield 7, 3) := by decide +kernel
theorem dX4_start_5 : decode cX4_start 5 = .ok (.aload_n 0, 1) := by decide +kernel
theorem dX4_start_6 : decode cX4_start 6 = .ok (.iconst 1, 1) := by decide +kernel
theorem dX4_start_7 : decode cX4_start 7 = .ok (.putfield 13, 3) := by decide +kernel
theorem dX4_start_10 : decode cX4_start 10 = .ok (.aload_n 0, 1) := by decide +kernel
theorem dX4_start_11 : decode cX4_start 11 = .ok (.iconst 0, 1) := by decide +kernel
theorem dX4_start_12 : decode cX4_start 12 = .ok (.putfield 17, 3) := by decide +kernel
theorem dX4_start_15 : decode cX4_start 15 = .ok (.return_, 1) := by decide +kernel
theorem dX4_isDone_0 : decode cX4_isDone 0 = .ok (.aload_n 0, 1) := by decide +kernel
theorem dX4_isDone_1 : decode cX4_isDone 1 = .ok (.getfield 7, 3) := by decide +kernel
theorem dX4_isDone_4 : decode cX4_isDone 4 = .ok (.ifCond .ge 7, 3) := by decide +kernel
theorem dX4_isDone_7 : decode cX4_isDone 7 = .ok (.iconst 1, 1) := by decide +kernel
theorem dX4_isDone_8 : decode cX4_isDone 8 = .ok (.goto 4, 3) := by decide +kernel
theorem dX4_isDone_11 : decode cX4_isDone 11 = .ok (.iconst 0, 1) := by decide +kernel
theorem dX4_isDone_12 : decode cX4_isDone 12 = .ok (.ireturn, 1) := by decide +kernel
theorem dX4_left_0 : decode cX4_left 0 = .ok (.aload_n 0, 1) := by decide +kernel
theorem dX4_left_1 : decode cX4_left 1 = .ok (.getfield 7, 3) := by decide +kernel
theorem dX4_left_4 : decode cX4_left 4 = .ok (.ireturn, 1) := by decide +kernel
theorem dX4_found_0 : decode cX4_found 0 = .ok (.aload_n 0, 1) := by decide +kernel
theorem dX4_found_1 : decode cX4_found 1 = .ok (.getfield 17, 3) := by decide +kernel
theorem dX4_found_4 : decode cX4_found 4 = .ok (.ireturn, 1) := by decide +kernel
theorem dX4_pass_0 : decode cX4_pass 0 = .ok (.aload_n 0, 1) := by decide +kernel
theorem dX4_pass_1 : decode cX4_pass 1 = .ok (.getfield 7, 3) := by decide +kernel
theorem dX4_pass_4 : decode cX4_pass 4 = .ok (.ifCond .ne 22, 3) := by decide +kernel
theorem dX4_pass_7 : decode cX4_pass 7 = .ok (.aload_n 0, 1) := by decide +kernel
theorem dX4_pass_8 : decode cX4_pass 8 = .ok (.aload_n 0, 1) := by decide +kernel
theorem dX4_pass_9 : decode cX4_pass 9 = .ok (.getfield 13, 3) := by decide +kernel
theorem dX4_pass_12 : decode cX4_pass 12 = .ok (.ifCond .eq 10, 3) := by decide +kernel
theorem dX4_pass_15 : decode cX4_pass 15 = .ok (.iload_n 1, 1) := by decide +kernel
theorem dX4_pass_16 : decode cX4_pass 16 = .ok (.invokestatic 21, 3) := by decide +kernel
theorem dX4_pass_19 : decode cX4_pass 19 = .ok (.goto 4, 3) := by decide +kernel
theorem dX4_pass_22 : decode cX4_pass 22 = .ok (.iload_n 1, 1) := by decide +kernel
theorem dX4_pass_23 : decode cX4_pass 23 = .ok (.putfield 17, 3) := by decide +kernel
theorem dX4_pass_26 : decode cX4_pass 26 = .ok (.aload_n 0, 1) := by decide +kernel
theorem dX4_pass_27 : decode cX4_pass 27 = .ok (.iload_n 1, 1) := by decide +kernel
theorem dX4_pass_28 : decode cX4_pass 28 = .ok (.aload_n 0, 1) := by decide +kernel
theorem dX4_pass_29 : decode cX4_pass 29 = .ok (.getfield 13, 3) := by decide +kernel
theorem dX4_pass_32 : decode cX4_pass 32 = .ok (.invokestatic 27, 3) := by decide +kernel
theorem dX4_pass_35 : decode cX4_pass 35 = .ok (.putfield 13, 3) := by decide +kernel
theorem dX4_pass_38 : decode cX4_pass 38 = .ok (.aload_n 0, 1) := by decide +kernel
theorem dX4_pass_39 : decode cX4_pass 39 = .ok (.dup, 1) := by decide +kernel
theorem dX4_pass_40 : decode cX4_pass 40 = .ok (.getfield 7, 3) := by decide +kernel
theorem dX4_pass_43 : decode cX4_pass 43 = .ok (.iconst 1, 1) := by decide +kernel
theorem dX4_pass_44 : decode cX4_pass 44 = .ok (.isub, 1) := by decide +kernel
theorem dX4_pass_45 : decode cX4_pass 45 = .ok (.putfield 7, 3) := by decide +kernel
theorem dX4_pass_48 : decode cX4_pass 48 = .ok (.return_, 1) := by decide +kernel
theorem dX4_passForm_0 : decode cX4_passForm 0 = .ok (.aload_n 0, 1) := by decide +kernel
theorem dX4_passForm_1 : decode cX4_passForm 1 = .ok (.getfield 7, 3) := by decide +kernel
theorem dX4_passForm_4 : decode cX4_passForm 4 = .ok (.iload_n 1, 1) := by decide +kernel
theorem dX4_passForm_5 : decode cX4_passForm 5 = .ok (.if_icmp .ge 29, 3) := by decide +kernel
theorem dX4_passForm_8 : decode cX4_passForm 8 = .ok (.aload_n 0, 1) := by decide +kernel
theorem dX4_passForm_9 : decode cX4_passForm 9 = .ok (.aload_n 0, 1) := by decide +kernel
theorem dX4_passForm_10 : decode cX4_passForm 10 = .ok (.getfield 13, 3) := by decide +kernel
theorem dX4_passForm_13 : decode cX4_passForm 13 = .ok (.ifCond .eq 17, 3) := by decide +kernel
theorem dX4_passForm_16 : decode cX4_passForm 16 = .ok (.aload_n 0, 1) := by decide +kernel
theorem dX4_passForm_17 : decode cX4_passForm 17 = .ok (.getfield 7, 3) := by decide +kernel
theorem dX4_passForm_20 : decode cX4_passForm 20 = .ok (.ifCond .ne 10, 3) := by decide +kernel
theorem dX4_passForm_23 : decode cX4_passForm 23 = .ok (.iload_n 2, 1) := by decide +kernel
theorem dX4_passForm_24 : decode cX4_passForm 24 = .ok (.invokestatic 21, 3) := by decide +kernel
theorem dX4_passForm_27 : decode cX4_passForm 27 = .ok (.goto 4, 3) := by decide +kernel
theorem dX4_passForm_30 : decode cX4_passForm 30 = .ok (.iload_n 2, 1) := by decide +kernel
theorem dX4_passForm_31 : decode cX4_passForm 31 = .ok (.putfield 17, 3) := by decide +kernel
theorem dX4_passForm_34 : decode cX4_passForm 34 = .ok (.aload_n 0, 1) := by decide +kernel
theorem dX4_passForm_35 : decode cX4_passForm 35 = .ok (.iconst 0, 1) := by decide +kernel
theorem dX4_passForm_36 : decode cX4_passForm 36 = .ok (.putfield 13, 3) := by decide +kernel
theorem dX4_passForm_39 : decode cX4_passForm 39 = .ok (.aload_n 0, 1) := by decide +kernel
theorem dX4_passForm_40 : decode cX4_passForm 40 = .ok (.dup, 1) := by decide +kernel
theorem dX4_passForm_41 : decode cX4_passForm 41 = .ok (.getfield 7, 3) := by decide +kernel
theorem dX4_passForm_44 : decode cX4_passForm 44 = .ok (.iload_n 1, 1) := by decide +kernel
theorem dX4_passForm_45 : decode cX4_passForm 45 = .ok (.isub, 1) := by decide +kernel
theorem dX4_passForm_46 : decode cX4_passForm 46 = .ok (.putfield 7, 3) := by decide +kernel
theorem dX4_passForm_49 : decode cX4_passForm 49 = .ok (.return_, 1) := by decide +kernel
theorem dX5_init_0 : decode cX5_init 0 = .ok (.aload_n 0, 1) := by decide +kernel
theorem dX5_init_1 : decode cX5_init 1 = .ok (.invokespecial 1, 3) := by decide +kernel
theorem dX5_init_4 : decode cX5_init 4 = .ok (.aload_n 0, 1) := by decide +kernel
theorem dX5_init_5 : decode cX5_init 5 = .ok (.iload_n 1, 1) := by decide +kernel
theorem dX5_init_6 : decode cX5_init 6 = .ok (.ifCond .le 7, 3) := by decide +kernel
theorem dX5_init_9 : decode cX5_init 9 = .ok (.iload_n 1, 1) := by decide +kernel
theorem dX5_init_10 : decode cX5_init 10 = .ok (.goto 4, 3) := by decide +kernel
theorem dX5_init_13 : decode cX5_init 13 = .ok (.iconst 0, 1) := by decide +kernel
theorem dX5_init_14 : decode cX5_init 14 = .ok (.newarray .char, 2) := by decide +kernel
theorem dX5_init_16 : decode cX5_init 16 = .ok (.putfield 7, 3) := by decide +kernel
theorem dX5_init_19 : decode cX5_init 19 = .ok (.return_, 1) := by decide +kernel
theorem dX5_length_0 : decode cX5_length 0 = .ok (.aload_n 0, 1) := by decide +kernel
theorem dX5_length_1 : decode cX5_length 1 = .ok (.getfield 13, 3) := by decide +kernel
theorem dX5_length_4 : decode cX5_length 4 = .ok (.ireturn, 1) := by decide +kernel
theorem dX5_at_0 : decode cX5_at 0 = .ok (.iload_n 1, 1) := by decide +kernel
theorem dX5_at_1 : decode cX5_at 1 = .ok (.ifCond .lt 29, 3) := by decide +kernel
theorem dX5_at_4 : decode cX5_at 4 = .ok (.iload_n 1, 1) := by decide +kernel
theorem dX5_at_5 : decode cX5_at 5 = .ok (.aload_n 0, 1) := by decide +kernel
theorem dX5_at_6 : decode cX5_at 6 = .ok (.getfield 13, 3) := by decide +kernel
theorem dX5_at_9 : decode cX5_at 9 = .ok (.if_icmp .ge 21, 3) := by decide +kernel
theorem dX5_at_12 : decode cX5_at 12 = .ok (.iload_n 1, 1) := by decide +kernel
theorem dX5_at_13 : decode cX5_at 13 = .ok (.aload_n 0, 1) := by decide +kernel
theorem dX5_at_14 : decode cX5_at 14 = .ok (.getfield 7, 3) := by decide +kernel
theorem dX5_at_17 : decode cX5_at 17 = .ok (.arraylength, 1) := by decide +kernel
theorem dX5_at_18 : decode cX5_at 18 = .ok (.if_icmp .ge 12, 3) := by decide +kernel
theorem dX5_at_21 : decode cX5_at 21 = .ok (.aload_n 0, 1) := by decide +kernel
theorem dX5_at_22 : decode cX5_at 22 = .ok (.getfield 7, 3) := by decide +kernel
theorem dX5_at_25 : decode cX5_at 25 = .ok (.iload_n 1, 1) := by decide +kernel
theorem dX5_at_26 : decode cX5_at 26 = .ok (.caload, 1) := by decide +kernel
theorem dX5_at_27 : decode cX5_at 27 = .ok (.goto 4, 3) := by decide +kernel
theorem dX5_at_30 : decode cX5_at 30 = .ok (.iconst 0, 1) := by decide +kernel
theorem dX5_at_31 : decode cX5_at 31 = .ok (.ireturn, 1) := by decide +kernel
theorem dX5_append_0 : decode cX5_append 0 = .ok (.aload_n 0, 1) := by decide +kernel
theorem dX5_append_1 : decode cX5_append 1 = .ok (.getfield 13, 3) := by decide +kernel
theorem dX5_append_4 : decode cX5_append 4 = .ok (.ifCond .lt 15, 3) := by decide +kernel
theorem dX5_append_7 : decode cX5_append 7 = .ok (.aload_n 0, 1) := by decide +kernel
theorem dX5_append_8 : decode cX5_append 8 = .ok (.getfield 13, 3) := by decide +kernel
theorem dX5_append_11 : decode cX5_append 11 = .ok (.aload_n 0, 1) := by decide +kernel
theorem dX5_append_12 : decode cX5_append 12 = .ok (.getfield 7, 3) := by decide +kernel
theorem dX5_append_15 : decode cX5_append 15 = .ok (.arraylength, 1) := by decide +kernel
theorem dX5_append_16 : decode cX5_append 16 = .ok (.if_icmp .lt 5, 3) := by decide +kernel
theorem dX5_append_19 : decode cX5_append 19 = .ok (.iconst 0, 1) := by decide +kernel
theorem dX5_append_20 : decode cX5_append 20 = .ok (.ireturn, 1) := by decide +kernel
theorem dX5_append_21 : decode cX5_append 21 = .ok (.aload_n 0, 1) := by decide +kernel
theorem dX5_append_22 : decode cX5_append 22 = .ok (.getfield 7, 3) := by decide +kernel
theorem dX5_append_25 : decode cX5_append 25 = .ok (.aload_n 0, 1) := by decide +kernel
theorem dX5_append_26 : decode cX5_append 26 = .ok (.getfield 13, 3) := by decide +kernel
theorem dX5_append_29 : decode cX5_append 29 = .ok (.iload_n 1, 1) := by decide +kernel
theorem dX5_append_30 : decode cX5_append 30 = .ok (.castore, 1) := by decide +kernel
theorem dX5_append_31 : decode cX5_append 31 = .ok (.aload_n 0, 1) := by decide +kernel
theorem dX5_append_32 : decode cX5_append 32 = .ok (.dup, 1) := by decide +kernel
theorem dX5_append_33 : decode cX5_append 33 = .ok (.getfield 13, 3) := by decide +kernel
theorem dX5_append_36 : decode cX5_append 36 = .ok (.iconst 1, 1) := by decide +kernel
theorem dX5_append_37 : decode cX5_append 37 = .ok (.iadd, 1) := by decide +kernel
theorem dX5_append_38 : decode cX5_append 38 = .ok (.putfield 13, 3) := by decide +kernel
theorem dX5_append_41 : decode cX5_append 41 = .ok (.iconst 1, 1) := by decide +kernel
theorem dX5_append_42 : decode cX5_append 42 = .ok (.ireturn, 1) := by decide +kernel
theorem dX5_empty_0 : decode cX5_empty 0 = .ok (.aload_n 0, 1) := by decide +kernel
theorem dX5_empty_1 : decode cX5_empty 1 = .ok (.iconst 0, 1) := by decide +kernel
theorem dX5_empty_2 : decode cX5_empty 2 = .ok (.putfield 13, 3) := by decide +kernel
theorem dX5_empty_5 : decode cX5_empty 5 = .ok (.return_, 1) := by decide +kernel
theorem dX5_take_0 : decode cX5_take 0 = .ok (.aload_n 0, 1) := by decide +kernel
theorem dX5_take_1 : decode cX5_take 1 = .ok (.invokevirtual 17, 3) := by decide +kernel
theorem dX5_take_4 : decode cX5_take 4 = .ok (.iconst 0, 1) := by decide +kernel
theorem dX5_take_5 : decode cX5_take 5 = .ok (.istore_n 2, 1) := by decide +kernel
theorem dX5_take_6 : decode cX5_take 6 = .ok (.iload_n 2, 1) := by decide +kernel
theorem dX5_take_7 : decode cX5_take 7 = .ok (.aload_n 1, 1) := by decide +kernel
theorem dX5_take_8 : decode cX5_take 8 = .ok (.invokevirtual 20, 3) := by decide +kernel
theorem dX5_take_11 : decode cX5_take 11 = .ok (.if_icmp .ge 19, 3) := by decide +kernel
theorem dX5_take_14 : decode cX5_take 14 = .ok (.aload_n 0, 1) := by decide +kernel
theorem dX5_take_15 : decode cX5_take 15 = .ok (.aload_n 1, 1) := by decide +kernel
theorem dX5_take_16 : decode cX5_take 16 = .ok (.iload_n 2, 1) := by decide +kernel
theorem dX5_take_17 : decode cX5_take 17 = .ok (.invokevirtual 23, 3) := by decide +kernel
theorem dX5_take_20 : decode cX5_take 20 = .ok (.invokevirtual 27, 3) := by decide +kernel
theorem dX5_take_23 : decode cX5_take 23 = .ok (.pop, 1) := by decide +kernel
theorem dX5_take_24 : decode cX5_take 24 = .ok (.iinc 2 1, 3) := by decide +kernel
theorem dX5_take_27 : decode cX5_take 27 = .ok (.goto (-21), 3) := by decide +kernel
theorem dX5_take_30 : decode cX5_take 30 = .ok (.return_, 1) := by decide +kernel
theorem dX5_isLetters_0 : decode cX5_isLetters 0 = .ok (.iconst 0, 1) := by decide +kernel
theorem dX5_isLetters_1 : decode cX5_isLetters 1 = .ok (.istore_n 3, 1) := by decide +kernel
theorem dX5_isLetters_2 : decode cX5_isLetters 2 = .ok (.iload_n 3, 1) := by decide +kernel
theorem dX5_isLetters_3 : decode cX5_isLetters 3 = .ok (.aload_n 0, 1) := by decide +kernel
theorem dX5_isLetters_4 : decode cX5_isLetters 4 = .ok (.getfield 13, 3) := by decide +kernel
theorem dX5_isLetters_7 : decode cX5_isLetters 7 = .ok (.if_icmp .ge 22, 3) := by decide +kernel
theorem dX5_isLetters_10 : decode cX5_isLetters 10 = .ok (.aload_n 0, 1) := by decide +kernel
theorem dX5_isLetters_11 : decode cX5_isLetters 11 = .ok (.iload_n 3, 1) := by decide +kernel
theorem dX5_isLetters_12 : decode cX5_isLetters 12 = .ok (.invokevirtual 23, 3) := by decide +kernel
theorem dX5_isLetters_15 : decode cX5_isLetters 15 = .ok (.invokestatic 31, 3) := by decide +kernel
theorem dX5_isLetters_18 : decode cX5_isLetters 18 = .ok (.ifCond .ne 5, 3) := by decide +kernel
theorem dX5_isLetters_21 : decode cX5_isLetters 21 = .ok (.iconst 0, 1) := by decide +kernel
theorem dX5_isLetters_22 : decode cX5_isLetters 22 = .ok (.ireturn, 1) := by decide +kernel
theorem dX5_isLetters_23 : decode cX5_isLetters 23 = .ok (.iinc 3 1, 3) := by decide +kernel
theorem dX5_isLetters_26 : decode cX5_isLetters 26 = .ok (.goto (-24), 3) := by decide +kernel
theorem dX5_isLetters_29 : decode cX5_isLetters 29 = .ok (.aload_n 0, 1) := by decide +kernel
theorem dX5_isLetters_30 : decode cX5_isLetters 30 = .ok (.getfield 13, 3) := by decide +kernel
theorem dX5_isLetters_33 : decode cX5_isLetters 33 = .ok (.iload_n 1, 1) := by decide +kernel
theorem dX5_isLetters_34 : decode cX5_isLetters 34 = .ok (.if_icmp .lt 15, 3) := by decide +kernel
theorem dX5_isLetters_37 : decode cX5_isLetters 37 = .ok (.aload_n 0, 1) := by decide +kernel
theorem dX5_isLetters_38 : decode cX5_isLetters 38 = .ok (.getfield 13, 3) := by decide +kernel
theorem dX5_isLetters_41 : decode cX5_isLetters 41 = .ok (.iload_n 2, 1) := by decide +kernel
theorem dX5_isLetters_42 : decode cX5_isLetters 42 = .ok (.if_icmp .gt 7, 3) := by decide +kernel
theorem dX5_isLetters_45 : decode cX5_isLetters 45 = .ok (.iconst 1, 1) := by decide +kernel
theorem dX5_isLetters_46 : decode cX5_isLetters 46 = .ok (.goto 4, 3) := by decide +kernel
theorem dX5_isLetters_49 : decode cX5_isLetters 49 = .ok (.iconst 0, 1) := by decide +kernel
theorem dX5_isLetters_50 : decode cX5_isLetters 50 = .ok (.ireturn, 1) := by decide +kernel
theorem dX6_init_0 : decode cX6_init 0 = .ok (.aload_n 0, 1) := by decide +kernel
theorem dX6_init_1 : decode cX6_init 1 = .ok (.invokespecial 3, 3) := by decide +kernel
theorem dX6_init_4 : decode cX6_init 4 = .ok (.aload_n 0, 1) := by decide +kernel
theorem dX6_init_5 : decode cX6_init 5 = .ok (.new 9, 3) := by decide +kernel
theorem dX6_init_8 : decode cX6_init 8 = .ok (.dup, 1) := by decide +kernel
theorem dX6_init_9 : decode cX6_init 9 = .ok (.bipush 60, 2) := by decide +kernel
theorem dX6_init_11 : decode cX6_init 11 = .ok (.invokespecial 11, 3) := by decide +kernel
theorem dX6_init_14 : decode cX6_init 14 = .ok (.putfield 14, 3) := by decide +kernel
theorem dX6_init_17 : decode cX6_init 17 = .ok (.return_, 1) := by decide +kernel
theorem dX6_isThere_0 : decode cX6_isThere 0 = .ok (.aload_n 0, 1) := by decide +kernel
theorem dX6_isThere_1 : decode cX6_isThere 1 = .ok (.getfield 14, 3) := by decide +kernel
theorem dX6_isThere_4 : decode cX6_isThere 4 = .ok (.invokevirtual 20, 3) := by decide +kernel
theorem dX6_isThere_7 : decode cX6_isThere 7 = .ok (.ifCond .le 7, 3) := by decide +kernel
theorem dX6_isThere_10 : decode cX6_isThere 10 = .ok (.iconst 1, 1) := by decide +kernel
theorem dX6_isThere_11 : decode cX6_isThere 11 = .ok (.goto 4, 3) := by decide +kernel
theorem dX6_isThere_14 : decode cX6_isThere 14 = .ok (.iconst 0, 1) := by decide +kernel
theorem dX6_isThere_15 : decode cX6_isThere 15 = .ok (.ireturn, 1) := by decide +kernel
theorem dX6_isApproved_0 : decode cX6_isApproved 0 = .ok (.aload_n 0, 1) := by decide +kernel
theorem dX6_isApproved_1 : decode cX6_isApproved 1 = .ok (.getfield 24, 3) := by decide +kernel
theorem dX6_isApproved_4 : decode cX6_isApproved 4 = .ok (.ireturn, 1) := by decide +kernel
theorem dX6_setApproved_0 : decode cX6_setApproved 0 = .ok (.aload_n 0, 1) := by decide +kernel
theorem dX6_setApproved_1 : decode cX6_setApproved 1 = .ok (.iconst 1, 1) := by decide +kernel
theorem dX6_setApproved_2 : decode cX6_setApproved 2 = .ok (.putfield 24, 3) := by decide +kernel
theorem dX6_setApproved_5 : decode cX6_setApproved 5 = .ok (.return_, 1) := by decide +kernel
theorem dX6_take_0 : decode cX6_take 0 = .ok (.aload_n 0, 1) := by decide +kernel
theorem dX6_take_1 : decode cX6_take 1 = .ok (.getfield 14, 3) := by decide +kernel
theorem dX6_take_4 : decode cX6_take 4 = .ok (.aload_n 1, 1) := by decide +kernel
theorem dX6_take_5 : decode cX6_take 5 = .ok (.invokevirtual 28, 3) := by decide +kernel
theorem dX6_take_8 : decode cX6_take 8 = .ok (.aload_n 0, 1) := by decide +kernel
theorem dX6_take_9 : decode cX6_take 9 = .ok (.iconst 0, 1) := by decide +kernel
theorem dX6_take_10 : decode cX6_take 10 = .ok (.putfield 24, 3) := by decide +kernel
theorem dX6_take_13 : decode cX6_take 13 = .ok (.return_, 1) := by decide +kernel
theorem dX6_length_0 : decode cX6_length 0 = .ok (.aload_n 0, 1) := by decide +kernel
theorem dX6_length_1 : decode cX6_length 1 = .ok (.getfield 14, 3) := by decide +kernel
theorem dX6_length_4 : decode cX6_length 4 = .ok (.invokevirtual 20, 3) := by decide +kernel
theorem dX6_length_7 : decode cX6_length 7 = .ok (.ireturn, 1) := by decide +kernel
theorem dX6_at_0 : decode cX6_at 0 = .ok (.aload_n 0, 1) := by decide +kernel
theorem dX6_at_1 : decode cX6_at 1 = .ok (.getfield 14, 3) := by decide +kernel
theorem dX6_at_4 : decode cX6_at 4 = .ok (.iload_n 1, 1) := by decide +kernel
theorem dX6_at_5 : decode cX6_at 5 = .ok (.invokevirtual 32, 3) := by decide +kernel
theorem dX6_at_8 : decode cX6_at 8 = .ok (.ireturn, 1) := by decide +kernel
theorem dX6_isSlot_0 : decode cX6_isSlot 0 = .ok (.aload_n 0, 1) := by decide +kernel
theorem dX6_isSlot_1 : decode cX6_isSlot 1 = .ok (.getfield 14, 3) := by decide +kernel
theorem dX6_isSlot_4 : decode cX6_isSlot 4 = .ok (.iload_n 1, 1) := by decide +kernel
theorem dX6_isSlot_5 : decode cX6_isSlot 5 = .ok (.invokevirtual 32, 3) := by decide +kernel
theorem dX6_isSlot_8 : decode cX6_isSlot 8 = .ok (.bipush 91, 2) := by decide +kernel
theorem dX6_isSlot_10 : decode cX6_isSlot 10 = .ok (.if_icmp .ne 7, 3) := by decide +kernel
theorem dX6_isSlot_13 : decode cX6_isSlot 13 = .ok (.iconst 1, 1) := by decide +kernel
theorem dX6_isSlot_14 : decode cX6_isSlot 14 = .ok (.goto 4, 3) := by decide +kernel
theorem dX6_isSlot_17 : decode cX6_isSlot 17 = .ok (.iconst 0, 1) := by decide +kernel
theorem dX6_isSlot_18 : decode cX6_isSlot 18 = .ok (.ireturn, 1) := by decide +kernel
theorem dX6_slotAt_0 : decode cX6_slotAt 0 = .ok (.aload_n 0, 1) := by decide +kernel
theorem dX6_slotAt_1 : decode cX6_slotAt 1 = .ok (.getfield 14, 3) := by decide +kernel
theorem dX6_slotAt_4 : decode cX6_slotAt 4 = .ok (.iload_n 1, 1) := by decide +kernel
theorem dX6_slotAt_5 : decode cX6_slotAt 5 = .ok (.iconst 1, 1) := by decide +kernel
theorem dX6_slotAt_6 : decode cX6_slotAt 6 = .ok (.iadd, 1) := by decide +kernel
theorem dX6_slotAt_7 : decode cX6_slotAt 7 = .ok (.invokevirtual 32, 3) := by decide +kernel
theorem dX6_slotAt_10 : decode cX6_slotAt 10 = .ok (.invokestatic 36, 3) := by decide +kernel
theorem dX6_slotAt_13 : decode cX6_slotAt 13 = .ok (.ireturn, 1) := by decide +kernel
theorem dX6_grammarAt_0 : decode cX6_grammarAt 0 = .ok (.iconst 2, 1) := by decide +kernel
theorem dX6_grammarAt_1 : decode cX6_grammarAt 1 = .ok (.aload_n 0, 1) := by decide +kernel
theorem dX6_grammarAt_2 : decode cX6_grammarAt 2 = .ok (.getfield 14, 3) := by decide +kernel
theorem dX6_grammarAt_5 : decode cX6_grammarAt 5 = .ok (.iload_n 1, 1) := by decide +kernel
theorem dX6_grammarAt_6 : decode cX6_grammarAt 6 = .ok (.iconst 2, 1) := by decide +kernel
theorem dX6_grammarAt_7 : decode cX6_grammarAt 7 = .ok (.iadd, 1) := by decide +kernel
theorem dX6_grammarAt_8 : decode cX6_grammarAt 8 = .ok (.invokevirtual 32, 3) := by decide +kernel
theorem dX6_grammarAt_11 : decode cX6_grammarAt 11 = .ok (.invokestatic 40, 3) := by decide +kernel
theorem dX6_grammarAt_14 : decode cX6_grammarAt 14 = .ok (.imul, 1) := by decide +kernel
theorem dX6_grammarAt_15 : decode cX6_grammarAt 15 = .ok (.aload_n 0, 1) := by decide +kernel
theorem dX6_grammarAt_16 : decode cX6_grammarAt 16 = .ok (.getfield 14, 3) := by decide +kernel
theorem dX6_grammarAt_19 : decode cX6_grammarAt 19 = .ok (.iload_n 1, 1) := by decide +kernel
theorem dX6_grammarAt_20 : decode cX6_grammarAt 20 = .ok (.iconst 3, 1) := by decide +kernel
theorem dX6_grammarAt_21 : decode cX6_grammarAt 21 = .ok (.iadd, 1) := by decide +kernel
theorem dX6_grammarAt_22 : decode cX6_grammarAt 22 = .ok (.invokevirtual 32, 3) := by decide +kernel
theorem dX6_grammarAt_25 : decode cX6_grammarAt 25 = .ok (.invokestatic 43, 3) := by decide +kernel
theorem dX6_grammarAt_28 : decode cX6_grammarAt 28 = .ok (.iadd, 1) := by decide +kernel
theorem dX6_grammarAt_29 : decode cX6_grammarAt 29 = .ok (.ireturn, 1) := by decide +kernel
theorem dX6_slotCount_0 : decode cX6_slotCount 0 = .ok (.iconst 0, 1) := by decide +kernel
theorem dX6_slotCount_1 : decode cX6_slotCount 1 = .ok (.istore_n 1, 1) := by decide +kernel
theorem dX6_slotCount_2 : decode cX6_slotCount 2 = .ok (.iconst 0, 1) := by decide +kernel
theorem dX6_slotCount_3 : decode cX6_slotCount 3 = .ok (.istore_n 2, 1) := by decide +kernel
theorem dX6_slotCount_4 : decode cX6_slotCount 4 = .ok (.iload_n 2, 1) := by decide +kernel
theorem dX6_slotCount_5 : decode cX6_slotCount 5 = .ok (.aload_n 0, 1) := by decide +kernel
theorem dX6_slotCount_6 : decode cX6_slotCount 6 = .ok (.getfield 14, 3) := by decide +kernel
theorem dX6_slotCount_9 : decode cX6_slotCount 9 = .ok (.invokevirtual 20, 3) := by decide +kernel
theorem dX6_slotCount_12 : decode cX6_slotCount 12 = .ok (.if_icmp .ge 20, 3) := by decide +kernel
theorem dX6_slotCount_15 : decode cX6_slotCount 15 = .ok (.aload_n 0, 1) := by decide +kernel
theorem dX6_slotCount_16 : decode cX6_slotCount 16 = .ok (.iload_n 2, 1) := by decide +kernel
theorem dX6_slotCount_17 : decode cX6_slotCount 17 = .ok (.invokevirtual 46, 3) := by decide +kernel
theorem dX6_slotCount_20 : decode cX6_slotCount 20 = .ok (.ifCond .eq 6, 3) := by decide +kernel
theorem dX6_slotCount_23 : decode cX6_slotCount 23 = .ok (.iinc 1 1, 3) := by decide +kernel
theorem dX6_slotCount_26 : decode cX6_slotCount 26 = .ok (.iinc 2 1, 3) := by decide +kernel
theorem dX6_slotCount_29 : decode cX6_slotCount 29 = .ok (.goto (-25), 3) := by decide +kernel
theorem dX6_slotCount_32 : decode cX6_slotCount 32 = .ok (.iload_n 1, 1) := by decide +kernel
theorem dX6_slotCount_33 : decode cX6_slotCount 33 = .ok (.ireturn, 1) := by decide +kernel
theorem dX6_countOfSlot_0 : decode cX6_countOfSlot 0 = .ok (.iconst 0, 1) := by decide +kernel
theorem dX6_countOfSlot_1 : decode cX6_countOfSlot 1 = .ok (.istore_n 2, 1) := by decide +kernel
theorem dX6_countOfSlot_2 : decode cX6_countOfSlot 2 = .ok (.iconst 0, 1) := by decide +kernel
theorem dX6_countOfSlot_3 : decode cX6_countOfSlot 3 = .ok (.istore_n 3, 1) := by decide +kernel
theorem dX6_countOfSlot_4 : decode cX6_countOfSlot 4 = .ok (.iload_n 3, 1) := by decide +kernel
theorem dX6_countOfSlot_5 : decode cX6_countOfSlot 5 = .ok (.aload_n 0, 1) := by decide +kernel
theorem dX6_countOfSlot_6 : decode cX6_countOfSlot 6 = .ok (.getfield 14, 3) := by decide +kernel
theorem dX6_countOfSlot_9 : decode cX6_countOfSlot 9 = .ok (.invokevirtual 20, 3) := by decide +kernel
theorem dX6_countOfSlot_12 : decode cX6_countOfSlot 12 = .ok (.if_icmp .ge 29, 3) := by decide +kernel
theorem dX6_countOfSlot_15 : decode cX6_countOfSlot 15 = .ok (.aload_n 0, 1) := by decide +kernel
theorem dX6_countOfSlot_16 : decode cX6_countOfSlot 16 = .ok (.iload_n 3, 1) := by decide +kernel
theorem dX6_countOfSlot_17 : decode cX6_countOfSlot 17 = .ok (.invokevirtual 46, 3) := by decide +kernel
theorem dX6_countOfSlot_20 : decode cX6_countOfSlot 20 = .ok (.ifCond .eq 15, 3) := by decide +kernel
theorem dX6_countOfSlot_23 : decode cX6_countOfSlot 23 = .ok (.aload_n 0, 1) := by decide +kernel
theorem dX6_countOfSlot_24 : decode cX6_countOfSlot 24 = .ok (.iload_n 3, 1) := by decide +kernel
theorem dX6_countOfSlot_25 : decode cX6_countOfSlot 25 = .ok (.invokevirtual 50, 3) := by decide +kernel
theorem dX6_countOfSlot_28 : decode cX6_countOfSlot 28 = .ok (.iload_n 1, 1) := by decide +kernel
theorem dX6_countOfSlot_29 : decode cX6_countOfSlot 29 = .ok (.if_icmp .ne 6, 3) := by decide +kernel
theorem dX6_countOfSlot_32 : decode cX6_countOfSlot 32 = .ok (.iinc 2 1, 3) := by decide +kernel
theorem dX6_countOfSlot_35 : decode cX6_countOfSlot 35 = .ok (.iinc 3 1, 3) := by decide +kernel
theorem dX6_countOfSlot_38 : decode cX6_countOfSlot 38 = .ok (.goto (-34), 3) := by decide +kernel
theorem dX6_countOfSlot_41 : decode cX6_countOfSlot 41 = .ok (.iload_n 2, 1) := by decide +kernel
theorem dX6_countOfSlot_42 : decode cX6_countOfSlot 42 = .ok (.ireturn, 1) := by decide +kernel
theorem dX7_init_0 : decode cX7_init 0 = .ok (.aload_n 0, 1) := by decide +kernel
theorem dX7_init_1 : decode cX7_init 1 = .ok (.invokespecial 3, 3) := by decide +kernel
theorem dX7_init_4 : decode cX7_init 4 = .ok (.aload_n 0, 1) := by decide +kernel
theorem dX7_init_5 : decode cX7_init 5 = .ok (.bipush 12, 2) := by decide +kernel
theorem dX7_init_7 : decode cX7_init 7 = .ok (.anewarray 9, 3) := by decide +kernel
theorem dX7_init_10 : decode cX7_init 10 = .ok (.putfield 11, 3) := by decide +kernel
theorem dX7_init_13 : decode cX7_init 13 = .ok (.aload_n 0, 1) := by decide +kernel
theorem dX7_init_14 : decode cX7_init 14 = .ok (.bipush 24, 2) := by decide +kernel
theorem dX7_init_16 : decode cX7_init 16 = .ok (.anewarray 9, 3) := by decide +kernel
theorem dX7_init_19 : decode cX7_init 19 = .ok (.putfield 17, 3) := by decide +kernel
theorem dX7_init_22 : decode cX7_init 22 = .ok (.aload_n 0, 1) := by decide +kernel
theorem dX7_init_23 : decode cX7_init 23 = .ok (.sipush 288, 3) := by decide +kernel
theorem dX7_init_26 : decode cX7_init 26 = .ok (.anewarray 9, 3) := by decide +kernel
theorem dX7_init_29 : decode cX7_init 29 = .ok (.putfield 20, 3) := by decide +kernel
theorem dX7_init_32 : decode cX7_init 32 = .ok (.iconst 0, 1) := by decide +kernel
theorem dX7_init_33 : decode cX7_init 33 = .ok (.istore_n 1, 1) := by decide +kernel
theorem dX7_init_34 : decode cX7_init 34 = .ok (.iload_n 1, 1) := by decide +kernel
theorem dX7_init_35 : decode cX7_init 35 = .ok (.aload_n 0, 1) := by decide +kernel
theorem dX7_init_36 : decode cX7_init 36 = .ok (.getfield 17, 3) := by decide +kernel
theorem dX7_init_39 : decode cX7_init 39 = .ok (.arraylength, 1) := by decide +kernel
theorem dX7_init_40 : decode cX7_init 40 = .ok (.if_icmp .ge 23, 3) := by decide +kernel
theorem dX7_init_43 : decode cX7_init 43 = .ok (.aload_n 0, 1) := by decide +kernel
theorem dX7_init_44 : decode cX7_init 44 = .ok (.getfield 17, 3) := by decide +kernel
theorem dX7_init_47 : decode cX7_init 47 = .ok (.iload_n 1, 1) := by decide +kernel
theorem dX7_init_48 : decode cX7_init 48 = .ok (.new 9, 3) := by decide +kernel
theorem dX7_init_51 : decode cX7_init 51 = .ok (.dup, 1) := by decide +kernel
theorem dX7_init_52 : decode cX7_init 52 = .ok (.iconst 4, 1) := by decide +kernel
theorem dX7_init_53 : decode cX7_init 53 = .ok (.invokespecial 23, 3) := by decide +kernel
theorem dX7_init_56 : decode cX7_init 56 = .ok (.aastore, 1) := by decide +kernel
theorem dX7_init_57 : decode cX7_init 57 = .ok (.iinc 1 1, 3) := by decide +kernel
theorem dX7_init_60 : decode cX7_init 60 = .ok (.goto (-26), 3) := by decide +kernel
theorem dX7_init_63 : decode cX7_init 63 = .ok (.return_, 1) := by decide +kernel
theorem dX7_count_0 : decode cX7_count 0 = .ok (.aload_n 0, 1) := by decide +kernel
theorem dX7_count_1 : decode cX7_count 1 = .ok (.getfield 26, 3) := by decide +kernel
theorem dX7_count_4 : decode cX7_count 4 = .ok (.ireturn, 1) := by decide +kernel
theorem dX7_addStem_0 : decode cX7_addStem 0 = .ok (.aload_n 0, 1) := by decide +kernel
theorem dX7_addStem_1 : decode cX7_addStem 1 = .ok (.getfield 26, 3) := by decide +kernel
theorem dX7_addStem_4 : decode cX7_addStem 4 = .ok (.aload_n 0, 1) := by decide +kernel
theorem dX7_addStem_5 : decode cX7_addStem 5 = .ok (.getfield 11, 3) := by decide +kernel
theorem dX7_addStem_8 : decode cX7_addStem 8 = .ok (.arraylength, 1) := by decide +kernel
theorem dX7_addStem_9 : decode cX7_addStem 9 = .ok (.invokestatic 30, 3) := by decide +kernel
theorem dX7_addStem_12 : decode cX7_addStem 12 = .ok (.ifCond .ne 5, 3) := by decide +kernel
theorem dX7_addStem_15 : decode cX7_addStem 15 = .ok (.iconst (-1), 1) := by decide +kernel
theorem dX7_addStem_16 : decode cX7_addStem 16 = .ok (.ireturn, 1) := by decide +kernel
theorem dX7_addStem_17 : decode cX7_addStem 17 = .ok (.new 9, 3) := by decide +kernel
theorem dX7_addStem_20 : decode cX7_addStem 20 = .ok (.dup, 1) := by decide +kernel
theorem dX7_addStem_21 : decode cX7_addStem 21 = .ok (.bipush 10, 2) := by decide +kernel
theorem dX7_addStem_23 : decode cX7_addStem 23 = .ok (.invokespecial 23, 3) := by decide +kernel
theorem dX7_addStem_26 : decode cX7_addStem 26 = .ok (.astore_n 2, 1) := by decide +kernel
theorem dX7_addStem_27 : decode cX7_addStem 27 = .ok (.aload_n 2, 1) := by decide +kernel
theorem dX7_addStem_28 : decode cX7_addStem 28 = .ok (.aload_n 1, 1) := by decide +kernel
theorem dX7_addStem_29 : decode cX7_addStem 29 = .ok (.invokevirtual 34, 3) := by decide +kernel
theorem dX7_addStem_32 : decode cX7_addStem 32 = .ok (.aload_n 0, 1) := by decide +kernel
theorem dX7_addStem_33 : decode cX7_addStem 33 = .ok (.getfield 11, 3) := by decide +kernel
theorem dX7_addStem_36 : decode cX7_addStem 36 = .ok (.aload_n 0, 1) := by decide +kernel
theorem dX7_addStem_37 : decode cX7_addStem 37 = .ok (.getfield 26, 3) := by decide +kernel
theorem dX7_addStem_40 : decode cX7_addStem 40 = .ok (.aload_n 2, 1) := by decide +kernel
theorem dX7_addStem_41 : decode cX7_addStem 41 = .ok (.aastore, 1) := by decide +kernel
theorem dX7_addStem_42 : decode cX7_addStem 42 = .ok (.aload_n 0, 1) := by decide +kernel
theorem dX7_addStem_43 : decode cX7_addStem 43 = .ok (.dup, 1) := by decide +kernel
theorem dX7_addStem_44 : decode cX7_addStem 44 = .ok (.getfield 26, 3) := by decide +kernel
theorem dX7_addStem_47 : decode cX7_addStem 47 = .ok (.iconst 1, 1) := by decide +kernel
theorem dX7_addStem_48 : decode cX7_addStem 48 = .ok (.iadd, 1) := by decide +kernel
theorem dX7_addStem_49 : decode cX7_addStem 49 = .ok (.putfield 26, 3) := by decide +kernel
theorem dX7_addStem_52 : decode cX7_addStem 52 = .ok (.aload_n 0, 1) := by decide +kernel
theorem dX7_addStem_53 : decode cX7_addStem 53 = .ok (.getfield 26, 3) := by decide +kernel
theorem dX7_addStem_56 : decode cX7_addStem 56 = .ok (.iconst 1, 1) := by decide +kernel
theorem dX7_addStem_57 : decode cX7_addStem 57 = .ok (.isub, 1) := by decide +kernel
theorem dX7_addStem_58 : decode cX7_addStem 58 = .ok (.ireturn, 1) := by decide +kernel
theorem dX7_setEnding_0 : decode cX7_setEnding 0 = .ok (.aload_n 0, 1) := by decide +kernel
theorem dX7_setEnding_1 : decode cX7_setEnding 1 = .ok (.iload_n 1, 1) := by decide +kernel
theorem dX7_setEnding_2 : decode cX7_setEnding 2 = .ok (.iload_n 2, 1) := by decide +kernel
theorem dX7_setEnding_3 : decode cX7_setEnding 3 = .ok (.invokevirtual 38, 3) := by decide +kernel
theorem dX7_setEnding_6 : decode cX7_setEnding 6 = .ok (.astore 4, 2) := by decide +kernel
theorem dX7_setEnding_8 : decode cX7_setEnding 8 = .ok (.aload 4, 2) := by decide +kernel
theorem dX7_setEnding_10 : decode cX7_setEnding 10 = .ok (.ifnull 9, 3) := by decide +kernel
theorem dX7_setEnding_13 : decode cX7_setEnding 13 = .ok (.aload 4, 2) := by decide +kernel
theorem dX7_setEnding_15 : decode cX7_setEnding 15 = .ok (.aload_n 3, 1) := by decide +kernel
theorem dX7_setEnding_16 : decode cX7_setEnding 16 = .ok (.invokevirtual 34, 3) := by decide +kernel
theorem dX7_setEnding_19 : decode cX7_setEnding 19 = .ok (.return_, 1) := by decide +kernel
theorem dX7_setOwn_0 : decode cX7_setOwn 0 = .ok (.iload_n 1, 1) := by decide +kernel
theorem dX7_setOwn_1 : decode cX7_setOwn 1 = .ok (.iload_n 2, 1) := by decide +kernel
theorem dX7_setOwn_2 : decode cX7_setOwn 2 = .ok (.iload_n 3, 1) := by decide +kernel
theorem dX7_setOwn_3 : decode cX7_setOwn 3 = .ok (.invokestatic 42, 3) := by decide +kernel
theorem dX7_setOwn_6 : decode cX7_setOwn 6 = .ok (.istore 5, 2) := by decide +kernel
theorem dX7_setOwn_8 : decode cX7_setOwn 8 = .ok (.iload 5, 2) := by decide +kernel
theorem dX7_setOwn_10 : decode cX7_setOwn 10 = .ok (.aload_n 0, 1) := by decide +kernel
theorem dX7_setOwn_11 : decode cX7_setOwn 11 = .ok (.getfield 20, 3) := by decide +kernel
theorem dX7_setOwn_14 : decode cX7_setOwn 14 = .ok (.arraylength, 1) := by decide +kernel
theorem dX7_setOwn_15 : decode cX7_setOwn 15 = .ok (.invokestatic 30, 3) := by decide +kernel
theorem dX7_setOwn_18 : decode cX7_setOwn 18 = .ok (.ifCond .ne 4, 3) := by decide +kernel
theorem dX7_setOwn_21 : decode cX7_setOwn 21 = .ok (.return_, 1) := by decide +kernel
theorem dX7_setOwn_22 : decode cX7_setOwn 22 = .ok (.aload_n 0, 1) := by decide +kernel
theorem dX7_setOwn_23 : decode cX7_setOwn 23 = .ok (.getfield 20, 3) := by decide +kernel
theorem dX7_setOwn_26 : decode cX7_setOwn 26 = .ok (.iload 5, 2) := by decide +kernel
theorem dX7_setOwn_28 : decode cX7_setOwn 28 = .ok (.aaload, 1) := by decide +kernel
theorem dX7_setOwn_29 : decode cX7_setOwn 29 = .ok (.astore 6, 2) := by decide +kernel
theorem dX7_setOwn_31 : decode cX7_setOwn 31 = .ok (.aload 6, 2) := by decide +kernel
theorem dX7_setOwn_33 : decode cX7_setOwn 33 = .ok (.ifnonnull 23, 3) := by decide +kernel
theorem dX7_setOwn_36 : decode cX7_setOwn 36 = .ok (.new 9, 3) := by decide +kernel
theorem dX7_setOwn_39 : decode cX7_setOwn 39 = .ok (.dup, 1) := by decide +kernel
theorem dX7_setOwn_40 : decode cX7_setOwn 40 = .ok (.bipush 10, 2) := by decide +kernel
theorem dX7_setOwn_42 : decode cX7_setOwn 42 = .ok (.invokespecial 23, 3) := by decide +kernel
theorem dX7_setOwn_45 : decode cX7_setOwn 45 = .ok (.astore 6, 2) := by decide +kernel
theorem dX7_setOwn_47 : decode cX7_setOwn 47 = .ok (.aload_n 0, 1) := by decide +kernel
theorem dX7_setOwn_48 : decode cX7_setOwn 48 = .ok (.getfield 20, 3) := by decide +kernel
theorem dX7_setOwn_51 : decode cX7_setOwn 51 = .ok (.iload 5, 2) := by decide +kernel
theorem dX7_setOwn_53 : decode cX7_setOwn 53 = .ok (.aload 6, 2) := by decide +kernel
theorem dX7_setOwn_55 : decode cX7_setOwn 55 = .ok (.aastore, 1) := by decide +kernel
theorem dX7_setOwn_56 : decode cX7_setOwn 56 = .ok (.aload 6, 2) := by decide +kernel
theorem dX7_setOwn_58 : decode cX7_setOwn 58 = .ok (.aload 4, 2) := by decide +kernel
theorem dX7_setOwn_60 : decode cX7_setOwn 60 = .ok (.invokevirtual 34, 3) := by decide +kernel
theorem dX7_setOwn_63 : decode cX7_setOwn 63 = .ok (.return_, 1) := by decide +kernel
theorem dX7_formLength_0 : decode cX7_formLength 0 = .ok (.aload_n 0, 1) := by decide +kernel
theorem dX7_formLength_1 : decode cX7_formLength 1 = .ok (.iload_n 1, 1) := by decide +kernel
theorem dX7_formLength_2 : decode cX7_formLength 2 = .ok (.iload_n 2, 1) := by decide +kernel
theorem dX7_formLength_3 : decode cX7_formLength 3 = .ok (.iload_n 3, 1) := by decide +kernel
theorem dX7_formLength_4 : decode cX7_formLength 4 = .ok (.invokevirtual 46, 3) := by decide +kernel
theorem dX7_formLength_7 : decode cX7_formLength 7 = .ok (.astore 4, 2) := by decide +kernel
theorem dX7_formLength_9 : decode cX7_formLength 9 = .ok (.aload 4, 2) := by decide +kernel
theorem dX7_formLength_11 : decode cX7_formLength 11 = .ok (.ifnull 9, 3) := by decide +kernel
theorem dX7_formLength_14 : decode cX7_formLength 14 = .ok (.aload 4, 2) := by decide +kernel
theorem dX7_formLength_16 : decode cX7_formLength 16 = .ok (.invokevirtual 50, 3) := by decide +kernel
theorem dX7_formLength_19 : decode cX7_formLength 19 = .ok (.ireturn, 1) := by decide +kernel
theorem dX7_formLength_20 : decode cX7_formLength 20 = .ok (.aload_n 0, 1) := by decide +kernel
theorem dX7_formLength_21 : decode cX7_formLength 21 = .ok (.iload_n 1, 1) := by decide +kernel
theorem dX7_formLength_22 : decode cX7_formLength 22 = .ok (.iload_n 3, 1) := by decide +kernel
theorem dX7_formLength_23 : decode cX7_formLength 23 = .ok (.invokevirtual 38, 3) := by decide +kernel
theorem dX7_formLength_26 : decode cX7_formLength 26 = .ok (.astore 5, 2) := by decide +kernel
theorem dX7_formLength_28 : decode cX7_formLength 28 = .ok (.aload_n 0, 1) := by decide +kernel
theorem dX7_formLength_29 : decode cX7_formLength 29 = .ok (.iload_n 2, 1) := by decide +kernel
theorem dX7_formLength_30 : decode cX7_formLength 30 = .ok (.invokevirtual 54, 3) := by decide +kernel
theorem dX7_formLength_33 : decode cX7_formLength 33 = .ok (.aload 5, 2) := by decide +kernel
theorem dX7_formLength_35 : decode cX7_formLength 35 = .ok (.invokestatic 58, 3) := by decide +kernel
theorem dX7_formLength_38 : decode cX7_formLength 38 = .ok (.aload 5, 2) := by decide +kernel
theorem dX7_formLength_40 : decode cX7_formLength 40 = .ok (.ifnonnull 7, 3) := by decide +kernel
theorem dX7_formLength_43 : decode cX7_formLength 43 = .ok (.iconst 0, 1) := by decide +kernel
theorem dX7_formLength_44 : decode cX7_formLength 44 = .ok (.goto 8, 3) := by decide +kernel
theorem dX7_formLength_47 : decode cX7_formLength 47 = .ok (.aload 5, 2) := by decide +kernel
theorem dX7_formLength_49 : decode cX7_formLength 49 = .ok (.invokevirtual 50, 3) := by decide +kernel
theorem dX7_formLength_52 : decode cX7_formLength 52 = .ok (.iadd, 1) := by decide +kernel
theorem dX7_formLength_53 : decode cX7_formLength 53 = .ok (.ireturn, 1) := by decide +kernel
theorem dX7_formSign_0 : decode cX7_formSign 0 = .ok (.aload_n 0, 1) := by decide +kernel
theorem dX7_formSign_1 : decode cX7_formSign 1 = .ok (.iload_n 1, 1) := by decide +kernel
theorem dX7_formSign_2 : decode cX7_formSign 2 = .ok (.iload_n 2, 1) := by decide +kernel
theorem dX7_formSign_3 : decode cX7_formSign 3 = .ok (.iload_n 3, 1) := by decide +kernel
theorem dX7_formSign_4 : decode cX7_formSign 4 = .ok (.invokevirtual 46, 3) := by decide +kernel
theorem dX7_formSign_7 : decode cX7_formSign 7 = .ok (.astore 5, 2) := by decide +kernel
theorem dX7_formSign_9 : decode cX7_formSign 9 = .ok (.aload 5, 2) := by decide +kernel
theorem dX7_formSign_11 : decode cX7_formSign 11 = .ok (.ifnull 11, 3) := by decide +kernel
theorem dX7_formSign_14 : decode cX7_formSign 14 = .ok (.aload 5, 2) := by decide +kernel
theorem dX7_formSign_16 : decode cX7_formSign 16 = .ok (.iload 4, 2) := by decide +kernel
theorem dX7_formSign_18 : decode cX7_formSign 18 = .ok (.invokevirtual 62, 3) := by decide +kernel
theorem dX7_formSign_21 : decode cX7_formSign 21 = .ok (.ireturn, 1) := by decide +kernel
theorem dX7_formSign_22 : decode cX7_formSign 22 = .ok (.aload_n 0, 1) := by decide +kernel
theorem dX7_formSign_23 : decode cX7_formSign 23 = .ok (.iload_n 2, 1) := by decide +kernel
theorem dX7_formSign_24 : decode cX7_formSign 24 = .ok (.invokevirtual 54, 3) := by decide +kernel
theorem dX7_formSign_27 : decode cX7_formSign 27 = .ok (.astore 6, 2) := by decide +kernel
theorem dX7_formSign_29 : decode cX7_formSign 29 = .ok (.aload_n 0, 1) := by decide +kernel
theorem dX7_formSign_30 : decode cX7_formSign 30 = .ok (.iload_n 1, 1) := by decide +kernel
theorem dX7_formSign_31 : decode cX7_formSign 31 = .ok (.iload_n 3, 1) := by decide +kernel
theorem dX7_formSign_32 : decode cX7_formSign 32 = .ok (.invokevirtual 38, 3) := by decide +kernel
theorem dX7_formSign_35 : decode cX7_formSign 35 = .ok (.astore 7, 2) := by decide +kernel
theorem dX7_formSign_37 : decode cX7_formSign 37 = .ok (.aload 6, 2) := by decide +kernel
theorem dX7_formSign_39 : decode cX7_formSign 39 = .ok (.ifnull 8, 3) := by decide +kernel
theorem dX7_formSign_42 : decode cX7_formSign 42 = .ok (.aload 7, 2) := by decide +kernel
theorem dX7_formSign_44 : decode cX7_formSign 44 = .ok (.ifnonnull 5, 3) := by decide +kernel
theorem dX7_formSign_47 : decode cX7_formSign 47 = .ok (.iconst 0, 1) := by decide +kernel
theorem dX7_formSign_48 : decode cX7_formSign 48 = .ok (.ireturn, 1) := by decide +kernel
theorem dX7_formSign_49 : decode cX7_formSign 49 = .ok (.aload 6, 2) := by decide +kernel
theorem dX7_formSign_51 : decode cX7_formSign 51 = .ok (.aload 7, 2) := by decide +kernel
theorem dX7_formSign_53 : decode cX7_formSign 53 = .ok (.invokestatic 58, 3) := by decide +kernel
theorem dX7_formSign_56 : decode cX7_formSign 56 = .ok (.istore 8, 2) := by decide +kernel
theorem dX7_formSign_58 : decode cX7_formSign 58 = .ok (.iload 4, 2) := by decide +kernel
theorem dX7_formSign_60 : decode cX7_formSign 60 = .ok (.iload 8, 2) := by decide +kernel
theorem dX7_formSign_62 : decode cX7_formSign 62 = .ok (.if_icmp .ge 13, 3) := by decide +kernel
theorem dX7_formSign_65 : decode cX7_formSign 65 = .ok (.aload 6, 2) := by decide +kernel
theorem dX7_formSign_67 : decode cX7_formSign 67 = .ok (.iload 4, 2) := by decide +kernel
theorem dX7_formSign_69 : decode cX7_formSign 69 = .ok (.invokevirtual 62, 3) := by decide +kernel
theorem dX7_formSign_72 : decode cX7_formSign 72 = .ok (.goto 13, 3) := by decide +kernel
theorem dX7_formSign_75 : decode cX7_formSign 75 = .ok (.aload 7, 2) := by decide +kernel
theorem dX7_formSign_77 : decode cX7_formSign 77 = .ok (.iload 4, 2) := by decide +kernel
theorem dX7_formSign_79 : decode cX7_formSign 79 = .ok (.iload 8, 2) := by decide +kernel
theorem dX7_formSign_81 : decode cX7_formSign 81 = .ok (.isub, 1) := by decide +kernel
theorem dX7_formSign_82 : decode cX7_formSign 82 = .ok (.invokevirtual 62, 3) := by decide +kernel
theorem dX7_formSign_85 : decode cX7_formSign 85 = .ok (.ireturn, 1) := by decide +kernel
theorem dX7_keptOfStem_0 : decode cX7_keptOfStem 0 = .ok (.aload_n 0, 1) := by decide +kernel
theorem dX7_keptOfStem_1 : decode cX7_keptOfStem 1 = .ok (.ifnull 7, 3) := by decide +kernel
theorem dX7_keptOfStem_4 : decode cX7_keptOfStem 4 = .ok (.aload_n 1, 1) := by decide +kernel
theorem dX7_keptOfStem_5 : decode cX7_keptOfStem 5 = .ok (.ifnonnull 5, 3) := by decide +kernel
theorem dX7_keptOfStem_8 : decode cX7_keptOfStem 8 = .ok (.iconst 0, 1) := by decide +kernel
theorem dX7_keptOfStem_9 : decode cX7_keptOfStem 9 = .ok (.ireturn, 1) := by decide +kernel
theorem dX7_keptOfStem_10 : decode cX7_keptOfStem 10 = .ok (.aload_n 0, 1) := by decide +kernel
theorem dX7_keptOfStem_11 : decode cX7_keptOfStem 11 = .ok (.invokevirtual 50, 3) := by decide +kernel
theorem dX7_keptOfStem_14 : decode cX7_keptOfStem 14 = .ok (.istore_n 2, 1) := by decide +kernel
theorem dX7_keptOfStem_15 : decode cX7_keptOfStem 15 = .ok (.aload_n 0, 1) := by decide +kernel
theorem dX7_keptOfStem_16 : decode cX7_keptOfStem 16 = .ok (.iload_n 2, 1) := by decide +kernel
theorem dX7_keptOfStem_17 : decode cX7_keptOfStem 17 = .ok (.iconst 1, 1) := by decide +kernel
theorem dX7_keptOfStem_18 : decode cX7_keptOfStem 18 = .ok (.isub, 1) := by decide +kernel
theorem dX7_keptOfStem_19 : decode cX7_keptOfStem 19 = .ok (.invokevirtual 62, 3) := by decide +kernel
theorem dX7_keptOfStem_22 : decode cX7_keptOfStem 22 = .ok (.invokestatic 66, 3) := by decide +kernel
theorem dX7_keptOfStem_25 : decode cX7_keptOfStem 25 = .ok (.ifCond .eq 20, 3) := by decide +kernel
theorem dX7_keptOfStem_28 : decode cX7_keptOfStem 28 = .ok (.aload_n 1, 1) := by decide +kernel
theorem dX7_keptOfStem_29 : decode cX7_keptOfStem 29 = .ok (.iconst 0, 1) := by decide +kernel
theorem dX7_keptOfStem_30 : decode cX7_keptOfStem 30 = .ok (.invokevirtual 62, 3) := by decide +kernel
theorem dX7_keptOfStem_33 : decode cX7_keptOfStem 33 = .ok (.invokestatic 66, 3) := by decide +kernel
theorem dX7_keptOfStem_36 : decode cX7_keptOfStem 36 = .ok (.ifCond .eq 9, 3) := by decide +kernel
theorem dX7_keptOfStem_39 : decode cX7_keptOfStem 39 = .ok (.iload_n 2, 1) := by decide +kernel
theorem dX7_keptOfStem_40 : decode cX7_keptOfStem 40 = .ok (.iconst 1, 1) := by decide +kernel
theorem dX7_keptOfStem_41 : decode cX7_keptOfStem 41 = .ok (.isub, 1) := by decide +kernel
theorem dX7_keptOfStem_42 : decode cX7_keptOfStem 42 = .ok (.goto 4, 3) := by decide +kernel
theorem dX7_keptOfStem_45 : decode cX7_keptOfStem 45 = .ok (.iload_n 2, 1) := by decide +kernel
theorem dX7_keptOfStem_46 : decode cX7_keptOfStem 46 = .ok (.ireturn, 1) := by decide +kernel
theorem dX7_stemAt_0 : decode cX7_stemAt 0 = .ok (.iload_n 1, 1) := by decide +kernel
theorem dX7_stemAt_1 : decode cX7_stemAt 1 = .ok (.aload_n 0, 1) := by decide +kernel
theorem dX7_stemAt_2 : decode cX7_stemAt 2 = .ok (.getfield 26, 3) := by decide +kernel
theorem dX7_stemAt_5 : decode cX7_stemAt 5 = .ok (.invokestatic 30, 3) := by decide +kernel
theorem dX7_stemAt_8 : decode cX7_stemAt 8 = .ok (.ifCond .eq 21, 3) := by decide +kernel
theorem dX7_stemAt_11 : decode cX7_stemAt 11 = .ok (.iload_n 1, 1) := by decide +kernel
theorem dX7_stemAt_12 : decode cX7_stemAt 12 = .ok (.aload_n 0, 1) := by decide +kernel
theorem dX7_stemAt_13 : decode cX7_stemAt 13 = .ok (.getfield 11, 3) := by decide +kernel
theorem dX7_stemAt_16 : decode cX7_stemAt 16 = .ok (.arraylength, 1) := by decide +kernel
theorem dX7_stemAt_17 : decode cX7_stemAt 17 = .ok (.if_icmp .ge 12, 3) := by decide +kernel
theorem dX7_stemAt_20 : decode cX7_stemAt 20 = .ok (.aload_n 0, 1) := by decide +kernel
theorem dX7_stemAt_21 : decode cX7_stemAt 21 = .ok (.getfield 11, 3) := by decide +kernel
theorem dX7_stemAt_24 : decode cX7_stemAt 24 = .ok (.iload_n 1, 1) := by decide +kernel
theorem dX7_stemAt_25 : decode cX7_stemAt 25 = .ok (.aaload, 1) := by decide +kernel
theorem dX7_stemAt_26 : decode cX7_stemAt 26 = .ok (.goto 4, 3) := by decide +kernel
theorem dX7_stemAt_29 : decode cX7_stemAt 29 = .ok (.aconst_null, 1) := by decide +kernel
theorem dX7_stemAt_30 : decode cX7_stemAt 30 = .ok (.areturn, 1) := by decide +kernel
theorem dX7_endingAt_0 : decode cX7_endingAt 0 = .ok (.iload_n 1, 1) := by decide +kernel
theorem dX7_endingAt_1 : decode cX7_endingAt 1 = .ok (.bipush 8, 2) := by decide +kernel
theorem dX7_endingAt_3 : decode cX7_endingAt 3 = .ok (.imul, 1) := by decide +kernel
theorem dX7_endingAt_4 : decode cX7_endingAt 4 = .ok (.iload_n 2, 1) := by decide +kernel
theorem dX7_endingAt_5 : decode cX7_endingAt 5 = .ok (.iadd, 1) := by decide +kernel
theorem dX7_endingAt_6 : decode cX7_endingAt 6 = .ok (.istore_n 3, 1) := by decide +kernel
theorem dX7_endingAt_7 : decode cX7_endingAt 7 = .ok (.iload_n 3, 1) := by decide +kernel
theorem dX7_endingAt_8 : decode cX7_endingAt 8 = .ok (.aload_n 0, 1) := by decide +kernel
theorem dX7_endingAt_9 : decode cX7_endingAt 9 = .ok (.getfield 17, 3) := by decide +kernel
theorem dX7_endingAt_12 : decode cX7_endingAt 12 = .ok (.arraylength, 1) := by decide +kernel
theorem dX7_endingAt_13 : decode cX7_endingAt 13 = .ok (.invokestatic 30, 3) := by decide +kernel
theorem dX7_endingAt_16 : decode cX7_endingAt 16 = .ok (.ifCond .eq 12, 3) := by decide +kernel
theorem dX7_endingAt_19 : decode cX7_endingAt 19 = .ok (.aload_n 0, 1) := by decide +kernel
theorem dX7_endingAt_20 : decode cX7_endingAt 20 = .ok (.getfield 17, 3) := by decide +kernel
theorem dX7_endingAt_23 : decode cX7_endingAt 23 = .ok (.iload_n 3, 1) := by decide +kernel
theorem dX7_endingAt_24 : decode cX7_endingAt 24 = .ok (.aaload, 1) := by decide +kernel
theorem dX7_endingAt_25 : decode cX7_endingAt 25 = .ok (.goto 4, 3) := by decide +kernel
theorem dX7_endingAt_28 : decode cX7_endingAt 28 = .ok (.aconst_null, 1) := by decide +kernel
theorem dX7_endingAt_29 : decode cX7_endingAt 29 = .ok (.areturn, 1) := by decide +kernel
theorem dX7_ownAt_0 : decode cX7_ownAt 0 = .ok (.iload_n 1, 1) := by decide +kernel
theorem dX7_ownAt_1 : decode cX7_ownAt 1 = .ok (.iload_n 2, 1) := by decide +kernel
theorem dX7_ownAt_2 : decode cX7_ownAt 2 = .ok (.iload_n 3, 1) := by decide +kernel
theorem dX7_ownAt_3 : decode cX7_ownAt 3 = .ok (.invokestatic 42, 3) := by decide +kernel
theorem dX7_ownAt_6 : decode cX7_ownAt 6 = .ok (.istore 4, 2) := by decide +kernel
theorem dX7_ownAt_8 : decode cX7_ownAt 8 = .ok (.iload 4, 2) := by decide +kernel
theorem dX7_ownAt_10 : decode cX7_ownAt 10 = .ok (.aload_n 0, 1) := by decide +kernel
theorem dX7_ownAt_11 : decode cX7_ownAt 11 = .ok (.getfield 20, 3) := by decide +kernel
theorem dX7_ownAt_14 : decode cX7_ownAt 14 = .ok (.arraylength, 1) := by decide +kernel
theorem dX7_ownAt_15 : decode cX7_ownAt 15 = .ok (.invokestatic 30, 3) := by decide +kernel
theorem dX7_ownAt_18 : decode cX7_ownAt 18 = .ok (.ifCond .eq 13, 3) := by decide +kernel
theorem dX7_ownAt_21 : decode cX7_ownAt 21 = .ok (.aload_n 0, 1) := by decide +kernel
theorem dX7_ownAt_22 : decode cX7_ownAt 22 = .ok (.getfield 20, 3) := by decide +kernel
theorem dX7_ownAt_25 : decode cX7_ownAt 25 = .ok (.iload 4, 2) := by decide +kernel
theorem dX7_ownAt_27 : decode cX7_ownAt 27 = .ok (.aaload, 1) := by decide +kernel
theorem dX7_ownAt_28 : decode cX7_ownAt 28 = .ok (.goto 4, 3) := by decide +kernel
theorem dX7_ownAt_31 : decode cX7_ownAt 31 = .ok (.aconst_null, 1) := by decide +kernel
theorem dX7_ownAt_32 : decode cX7_ownAt 32 = .ok (.areturn, 1) := by decide +kernel
theorem dX7_ownIndex_0 : decode cX7_ownIndex 0 = .ok (.iload_n 1, 1) := by decide +kernel
theorem dX7_ownIndex_1 : decode cX7_ownIndex 1 = .ok (.iconst 3, 1) := by decide +kernel
theorem dX7_ownIndex_2 : decode cX7_ownIndex 2 = .ok (.imul, 1) := by decide +kernel
theorem dX7_ownIndex_3 : decode cX7_ownIndex 3 = .ok (.iload_n 0, 1) := by decide +kernel
theorem dX7_ownIndex_4 : decode cX7_ownIndex 4 = .ok (.iadd, 1) := by decide +kernel
theorem dX7_ownIndex_5 : decode cX7_ownIndex 5 = .ok (.bipush 8, 2) := by decide +kernel
theorem dX7_ownIndex_7 : decode cX7_ownIndex 7 = .ok (.imul, 1) := by decide +kernel
theorem dX7_ownIndex_8 : decode cX7_ownIndex 8 = .ok (.iload_n 2, 1) := by decide +kernel
theorem dX7_ownIndex_9 : decode cX7_ownIndex 9 = .ok (.iadd, 1) := by decide +kernel
theorem dX7_ownIndex_10 : decode cX7_ownIndex 10 = .ok (.ireturn, 1) := by decide +kernel
theorem dX8_init_0 : decode cX8_init 0 = .ok (.aload_n 0, 1) := by decide +kernel
theorem dX8_init_1 : decode cX8_init 1 = .ok (.invokespecial 3, 3) := by decide +kernel
theorem dX8_init_4 : decode cX8_init 4 = .ok (.aload_n 0, 1) := by decide +kernel
theorem dX8_init_5 : decode cX8_init 5 = .ok (.new 9, 3) := by decide +kernel
theorem dX8_init_8 : decode cX8_init 8 = .ok (.dup, 1) := by decide +kernel
theorem dX8_init_9 : decode cX8_init 9 = .ok (.bipush 60, 2) := by decide +kernel
theorem dX8_init_11 : decode cX8_init 11 = .ok (.invokespecial 11, 3) := by decide +kernel
theorem dX8_init_14 : decode cX8_init 14 = .ok (.putfield 14, 3) := by decide +kernel
theorem dX8_init_17 : decode cX8_init 17 = .ok (.aload_n 0, 1) := by decide +kernel
theorem dX8_init_18 : decode cX8_init 18 = .ok (.new 18, 3) := by decide +kernel
theorem dX8_init_21 : decode cX8_init 21 = .ok (.dup, 1) := by decide +kernel
theorem dX8_init_22 : decode cX8_init 22 = .ok (.invokespecial 20, 3) := by decide +kernel
theorem dX8_init_25 : decode cX8_init 25 = .ok (.putfield 21, 3) := by decide +kernel
theorem dX8_init_28 : decode cX8_init 28 = .ok (.aload_n 0, 1) := by decide +kernel
theorem dX8_init_29 : decode cX8_init 29 = .ok (.bipush 10, 2) := by decide +kernel
theorem dX8_init_31 : decode cX8_init 31 = .ok (.anewarray 25, 3) := by decide +kernel
theorem dX8_init_34 : decode cX8_init 34 = .ok (.putfield 27, 3) := by decide +kernel
theorem dX8_init_37 : decode cX8_init 37 = .ok (.aload_n 0, 1) := by decide +kernel
theorem dX8_init_38 : decode cX8_init 38 = .ok (.bipush 6, 2) := by decide +kernel
theorem dX8_init_40 : decode cX8_init 40 = .ok (.anewarray 31, 3) := by decide +kernel
theorem dX8_init_43 : decode cX8_init 43 = .ok (.putfield 33, 3) := by decide +kernel
theorem dX8_init_46 : decode cX8_init 46 = .ok (.aload_n 0, 1) := by decide +kernel
theorem dX8_init_47 : decode cX8_init 47 = .ok (.bipush 8, 2) := by decide +kernel
theorem dX8_init_49 : decode cX8_init 49 = .ok (.anewarray 37, 3) := by decide +kernel
theorem dX8_init_52 : decode cX8_init 52 = .ok (.putfield 39, 3) := by decide +kernel
theorem dX8_init_55 : decode cX8_init 55 = .ok (.aload_n 0, 1) := by decide +kernel
theorem dX8_init_56 : decode cX8_init 56 = .ok (.iconst 3, 1) := by decide +kernel
theorem dX8_init_57 : decode cX8_init 57 = .ok (.newarray .int, 2) := by decide +kernel
theorem dX8_init_59 : decode cX8_init 59 = .ok (.dup, 1) := by decide +kernel
theorem dX8_init_60 : decode cX8_init 60 = .ok (.iconst 0, 1) := by decide +kernel
theorem dX8_init_61 : decode cX8_init 61 = .ok (.iconst 1, 1) := by decide +kernel
theorem dX8_init_62 : decode cX8_init 62 = .ok (.iastore, 1) := by decide +kernel
theorem dX8_init_63 : decode cX8_init 63 = .ok (.dup, 1) := by decide +kernel
theorem dX8_init_64 : decode cX8_init 64 = .ok (.iconst 1, 1) := by decide +kernel
theorem dX8_init_65 : decode cX8_init 65 = .ok (.iconst 1, 1) := by decide +kernel
theorem dX8_init_66 : decode cX8_init 66 = .ok (.iastore, 1) := by decide +kernel
theorem dX8_init_67 : decode cX8_init 67 = .ok (.dup, 1) := by decide +kernel
theorem dX8_init_68 : decode cX8_init 68 = .ok (.iconst 2, 1) := by decide +kernel
theorem dX8_init_69 : decode cX8_init 69 = .ok (.iconst 1, 1) := by decide +kernel
theorem dX8_init_70 : decode cX8_init 70 = .ok (.iastore, 1) := by decide +kernel
theorem dX8_init_71 : decode cX8_init 71 = .ok (.putfield 43, 3) := by decide +kernel
theorem dX8_init_74 : decode cX8_init 74 = .ok (.aload_n 0, 1) := by decide +kernel
theorem dX8_init_75 : decode cX8_init 75 = .ok (.new 47, 3) := by decide +kernel
theorem dX8_init_78 : decode cX8_init 78 = .ok (.dup, 1) := by decide +kernel
theorem dX8_init_79 : decode cX8_init 79 = .ok (.invokespecial 49, 3) := by decide +kernel
theorem dX8_init_82 : decode cX8_init 82 = .ok (.putfield 50, 3) := by decide +kernel
theorem dX8_init_85 : decode cX8_init 85 = .ok (.aload_n 0, 1) := by decide +kernel
theorem dX8_init_86 : decode cX8_init 86 = .ok (.new 54, 3) := by decide +kernel
theorem dX8_init_89 : decode cX8_init 89 = .ok (.dup, 1) := by decide +kernel
theorem dX8_init_90 : decode cX8_init 90 = .ok (.invokespecial 56, 3) := by decide +kernel
theorem dX8_init_93 : decode cX8_init 93 = .ok (.putfield 57, 3) := by decide +kernel
theorem dX8_init_96 : decode cX8_init 96 = .ok (.return_, 1) := by decide +kernel
theorem dX8_type_0 : decode cX8_type 0 = .ok (.aload_n 0, 1) := by decide +kernel
theorem dX8_type_1 : decode cX8_type 1 = .ok (.getfield 14, 3) := by decide +kernel
theorem dX8_type_4 : decode cX8_type 4 = .ok (.iload_n 1, 1) := by decide +kernel
theorem dX8_type_5 : decode cX8_type 5 = .ok (.invokevirtual 61, 3) := by decide +kernel
theorem dX8_type_8 : decode cX8_type 8 = .ok (.ifCond .ne 13, 3) := by decide +kernel
theorem dX8_type_11 : decode cX8_type 11 = .ok (.new 65, 3) := by decide +kernel
theorem dX8_type_14 : decode cX8_type 14 = .ok (.dup, 1) := by decide +kernel
theorem dX8_type_15 : decode cX8_type 15 = .ok (.ldc 67, 2) := by decide +kernel
theorem dX8_type_17 : decode cX8_type 17 = .ok (.invokespecial 69, 3) := by decide +kernel
theorem dX8_type_20 : decode cX8_type 20 = .ok (.athrow, 1) := by decide +kernel
theorem dX8_type_21 : decode cX8_type 21 = .ok (.aload_n 0, 1) := by decide +kernel
theorem dX8_type_22 : decode cX8_type 22 = .ok (.getfield 14, 3) := by decide +kernel
theorem dX8_type_25 : decode cX8_type 25 = .ok (.invokevirtual 72, 3) := by decide +kernel
theorem dX8_type_28 : decode cX8_type 28 = .ok (.ireturn, 1) := by decide +kernel
theorem dX8_clear_0 : decode cX8_clear 0 = .ok (.aload_n 0, 1) := by decide +kernel
theorem dX8_clear_1 : decode cX8_clear 1 = .ok (.getfield 14, 3) := by decide +kernel
theorem dX8_clear_4 : decode cX8_clear 4 = .ok (.invokevirtual 72, 3) := by decide +kernel
theorem dX8_clear_7 : decode cX8_clear 7 = .ok (.istore_n 1, 1) := by decide +kernel
theorem dX8_clear_8 : decode cX8_clear 8 = .ok (.aload_n 0, 1) := by decide +kernel
theorem dX8_clear_9 : decode cX8_clear 9 = .ok (.getfield 14, 3) := by decide +kernel
theorem dX8_clear_12 : decode cX8_clear 12 = .ok (.invokevirtual 76, 3) := by decide +kernel
theorem dX8_clear_15 : decode cX8_clear 15 = .ok (.iload_n 1, 1) := by decide +kernel
theorem dX8_clear_16 : decode cX8_clear 16 = .ok (.ireturn, 1) := by decide +kernel
theorem dX8_word_0 : decode cX8_word 0 = .ok (.aload_n 0, 1) := by decide +kernel
theorem dX8_word_1 : decode cX8_word 1 = .ok (.getfield 14, 3) := by decide +kernel
theorem dX8_word_4 : decode cX8_word 4 = .ok (.iconst 1, 1) := by decide +kernel
theorem dX8_word_5 : decode cX8_word 5 = .ok (.bipush 10, 2) := by decide +kernel
theorem dX8_word_7 : decode cX8_word 7 = .ok (.invokevirtual 79, 3) := by decide +kernel
theorem dX8_word_10 : decode cX8_word 10 = .ok (.ifCond .eq 15, 3) := by decide +kernel
theorem dX8_word_13 : decode cX8_word 13 = .ok (.aload_n 0, 1) := by decide +kernel
theorem dX8_word_14 : decode cX8_word 14 = .ok (.getfield 21, 3) := by decide +kernel
theorem dX8_word_17 : decode cX8_word 17 = .ok (.invokevirtual 83, 3) := by decide +kernel
theorem dX8_word_20 : decode cX8_word 20 = .ok (.bipush 12, 2) := by decide +kernel
theorem dX8_word_22 : decode cX8_word 22 = .ok (.if_icmp .lt 13, 3) := by decide +kernel
theorem dX8_word_25 : decode cX8_word 25 = .ok (.new 65, 3) := by decide +kernel
theorem dX8_word_28 : decode cX8_word 28 = .ok (.dup, 1) := by decide +kernel
theorem dX8_word_29 : decode cX8_word 29 = .ok (.ldc 86, 2) := by decide +kernel
theorem dX8_word_31 : decode cX8_word 31 = .ok (.invokespecial 69, 3) := by decide +kernel
theorem dX8_word_34 : decode cX8_word 34 = .ok (.athrow, 1) := by decide +kernel
theorem dX8_word_35 : decode cX8_word 35 = .ok (.aload_n 0, 1) := by decide +kernel
theorem dX8_word_36 : decode cX8_word 36 = .ok (.getfield 21, 3) := by decide +kernel
theorem dX8_word_39 : decode cX8_word 39 = .ok (.aload_n 0, 1) := by decide +kernel
theorem dX8_word_40 : decode cX8_word 40 = .ok (.getfield 14, 3) := by decide +kernel
theorem dX8_word_43 : decode cX8_word 43 = .ok (.invokevirtual 88, 3) := by decide +kernel
theorem dX8_word_46 : decode cX8_word 46 = .ok (.istore_n 1, 1) := by decide +kernel
theorem dX8_word_47 : decode cX8_word 47 = .ok (.aload_n 0, 1) := by decide +kernel
theorem dX8_word_48 : decode cX8_word 48 = .ok (.getfield 14, 3) := by decide +kernel
theorem dX8_word_51 : decode cX8_word 51 = .ok (.invokevirtual 76, 3) := by decide +kernel
theorem dX8_word_54 : decode cX8_word 54 = .ok (.iload_n 1, 1) := by decide +kernel
theorem dX8_word_55 : decode cX8_word 55 = .ok (.ireturn, 1) := by decide +kernel
theorem dX8_form_0 : decode cX8_form 0 = .ok (.iload_n 1, 1) := by decide +kernel
theorem dX8_form_1 : decode cX8_form 1 = .ok (.invokestatic 92, 3) := by decide +kernel
theorem dX8_form_4 : decode cX8_form 4 = .ok (.ifCond .eq 16, 3) := by decide +kernel
theorem dX8_form_7 : decode cX8_form 7 = .ok (.iload_n 2, 1) := by decide +kernel
theorem dX8_form_8 : decode cX8_form 8 = .ok (.iconst (-1), 1) := by decide +kernel
theorem dX8_form_9 : decode cX8_form 9 = .ok (.if_icmp .eq 21, 3) := by decide +kernel
theorem dX8_form_12 : decode cX8_form 12 = .ok (.aload_n 0, 1) := by decide +kernel
theorem dX8_form_13 : decode cX8_form 13 = .ok (.iload_n 2, 1) := by decide +kernel
theorem dX8_form_14 : decode cX8_form 14 = .ok (.invokevirtual 96, 3) := by decide +kernel
theorem dX8_form_17 : decode cX8_form 17 = .ok (.ifCond .ne 13, 3) := by decide +kernel
theorem dX8_form_20 : decode cX8_form 20 = .ok (.new 99, 3) := by decide +kernel
theorem dX8_form_23 : decode cX8_form 23 = .ok (.dup, 1) := by decide +kernel
theorem dX8_form_24 : decode cX8_form 24 = .ok (.ldc 101, 2) := by decide +kernel
theorem dX8_form_26 : decode cX8_form 26 = .ok (.invokespecial 103, 3) := by decide +kernel
theorem dX8_form_29 : decode cX8_form 29 = .ok (.athrow, 1) := by decide +kernel
theorem dX8_form_30 : decode cX8_form 30 = .ok (.iload_n 3, 1) := by decide +kernel
theorem dX8_form_31 : decode cX8_form 31 = .ok (.bipush 8, 2) := by decide +kernel
theorem dX8_form_33 : decode cX8_form 33 = .ok (.invokestatic 104, 3) := by decide +kernel
theorem dX8_form_36 : decode cX8_form 36 = .ok (.ifCond .ne 13, 3) := by decide +kernel
theorem dX8_form_39 : decode cX8_form 39 = .ok (.new 107, 3) := by decide +kernel
theorem dX8_form_42 : decode cX8_form 42 = .ok (.dup, 1) := by decide +kernel
theorem dX8_form_43 : decode cX8_form 43 = .ok (.ldc 109, 2) := by decide +kernel
theorem dX8_form_45 : decode cX8_form 45 = .ok (.invokespecial 111, 3) := by decide +kernel
theorem dX8_form_48 : decode cX8_form 48 = .ok (.athrow, 1) := by decide +kernel
theorem dX8_form_49 : decode cX8_form 49 = .ok (.iload_n 2, 1) := by decide +kernel
theorem dX8_form_50 : decode cX8_form 50 = .ok (.iconst (-1), 1) := by decide +kernel
theorem dX8_form_51 : decode cX8_form 51 = .ok (.if_icmp .ne 15, 3) := by decide +kernel
theorem dX8_form_54 : decode cX8_form 54 = .ok (.aload_n 0, 1) := by decide +kernel
theorem dX8_form_55 : decode cX8_form 55 = .ok (.getfield 14, 3) := by decide +kernel
theorem dX8_form_58 : decode cX8_form 58 = .ok (.iconst 0, 1) := by decide +kernel
theorem dX8_form_59 : decode cX8_form 59 = .ok (.iconst 4, 1) := by decide +kernel
theorem dX8_form_60 : decode cX8_form 60 = .ok (.invokevirtual 79, 3) := by decide +kernel
theorem dX8_form_63 : decode cX8_form 63 = .ok (.goto 13, 3) := by decide +kernel
theorem dX8_form_66 : decode cX8_form 66 = .ok (.aload_n 0, 1) := by decide +kernel
theorem dX8_form_67 : decode cX8_form 67 = .ok (.getfield 14, 3) := by decide +kernel
theorem dX8_form_70 : decode cX8_form 70 = .ok (.iconst 1, 1) := by decide +kernel
theorem dX8_form_71 : decode cX8_form 71 = .ok (.bipush 10, 2) := by decide +kernel
theorem dX8_form_73 : decode cX8_form 73 = .ok (.invokevirtual 79, 3) := by decide +kernel
theorem dX8_form_76 : decode cX8_form 76 = .ok (.istore 4, 2) := by decide +kernel
theorem dX8_form_78 : decode cX8_form 78 = .ok (.iload 4, 2) := by decide +kernel
theorem dX8_form_80 : decode cX8_form 80 = .ok (.ifCond .ne 13, 3) := by decide +kernel
theorem dX8_form_83 : decode cX8_form 83 = .ok (.new 65, 3) := by decide +kernel
theorem dX8_form_86 : decode cX8_form 86 = .ok (.dup, 1) := by decide +kernel
theorem dX8_form_87 : decode cX8_form 87 = .ok (.ldc 112, 2) := by decide +kernel
theorem dX8_form_89 : decode cX8_form 89 = .ok (.invokespecial 69, 3) := by decide +kernel
theorem dX8_form_92 : decode cX8_form 92 = .ok (.athrow, 1) := by decide +kernel
theorem dX8_form_93 : decode cX8_form 93 = .ok (.iload_n 2, 1) := by decide +kernel
theorem dX8_form_94 : decode cX8_form 94 = .ok (.iconst (-1), 1) := by decide +kernel
theorem dX8_form_95 : decode cX8_form 95 = .ok (.if_icmp .ne 19, 3) := by decide +kernel
theorem dX8_form_98 : decode cX8_form 98 = .ok (.aload_n 0, 1) := by decide +kernel
theorem dX8_form_99 : decode cX8_form 99 = .ok (.getfield 21, 3) := by decide +kernel
theorem dX8_form_102 : decode cX8_form 102 = .ok (.iload_n 1, 1) := by decide +kernel
theorem dX8_form_103 : decode cX8_form 103 = .ok (.iload_n 3, 1) := by decide +kernel
theorem dX8_form_104 : decode cX8_form 104 = .ok (.aload_n 0, 1) := by decide +kernel
theorem dX8_form_105 : decode cX8_form 105 = .ok (.getfield 14, 3) := by decide +kernel
theorem dX8_form_108 : decode cX8_form 108 = .ok (.invokevirtual 114, 3) := by decide +kernel
theorem dX8_form_111 : decode cX8_form 111 = .ok (.goto 17, 3) := by decide +kernel
theorem dX8_form_114 : decode cX8_form 114 = .ok (.aload_n 0, 1) := by decide +kernel
theorem dX8_form_115 : decode cX8_form 115 = .ok (.getfield 21, 3) := by decide +kernel
theorem dX8_form_118 : decode cX8_form 118 = .ok (.iload_n 1, 1) := by decide +kernel
theorem dX8_form_119 : decode cX8_form 119 = .ok (.iload_n 2, 1) := by decide +kernel
theorem dX8_form_120 : decode cX8_form 120 = .ok (.iload_n 3, 1) := by decide +kernel
theorem dX8_form_121 : decode cX8_form 121 = .ok (.aload_n 0, 1) := by decide +kernel
theorem dX8_form_122 : decode cX8_form 122 = .ok (.getfield 14, 3) := by decide +kernel
theorem dX8_form_125 : decode cX8_form 125 = .ok (.invokevirtual 118, 3) := by decide +kernel
theorem dX8_form_128 : decode cX8_form 128 = .ok (.aload_n 0, 1) := by decide +kernel
theorem dX8_form_129 : decode cX8_form 129 = .ok (.getfield 14, 3) := by decide +kernel
theorem dX8_form_132 : decode cX8_form 132 = .ok (.invokevirtual 72, 3) := by decide +kernel
theorem dX8_form_135 : decode cX8_form 135 = .ok (.istore 5, 2) := by decide +kernel
theorem dX8_form_137 : decode cX8_form 137 = .ok (.aload_n 0, 1) := by decide +kernel
theorem dX8_form_138 : decode cX8_form 138 = .ok (.getfield 14, 3) := by decide +kernel
theorem dX8_form_141 : decode cX8_form 141 = .ok (.invokevirtual 76, 3) := by decide +kernel
theorem dX8_form_144 : decode cX8_form 144 = .ok (.iload 5, 2) := by decide +kernel
theorem dX8_form_146 : decode cX8_form 146 = .ok (.ireturn, 1) := by decide +kernel
theorem dX8_clause_0 : decode cX8_clause 0 = .ok (.iload_n 1, 1) := by decide +kernel
theorem dX8_clause_1 : decode cX8_clause 1 = .ok (.iconst (-1), 1) := by decide +kernel
theorem dX8_clause_2 : decode cX8_clause 2 = .ok (.if_icmp .eq 22, 3) := by decide +kernel
theorem dX8_clause_5 : decode cX8_clause 5 = .ok (.iload_n 1, 1) := by decide +kernel
theorem dX8_clause_6 : decode cX8_clause 6 = .ok (.bipush 8, 2) := by decide +kernel
theorem dX8_clause_8 : decode cX8_clause 8 = .ok (.invokestatic 104, 3) := by decide +kernel
theorem dX8_clause_11 : decode cX8_clause 11 = .ok (.ifCond .ne 13, 3) := by decide +kernel
theorem dX8_clause_14 : decode cX8_clause 14 = .ok (.new 107, 3) := by decide +kernel
theorem dX8_clause_17 : decode cX8_clause 17 = .ok (.dup, 1) := by decide +kernel
theorem dX8_clause_18 : decode cX8_clause 18 = .ok (.ldc 122, 2) := by decide +kernel
theorem dX8_clause_20 : decode cX8_clause 20 = .ok (.invokespecial 111, 3) := by decide +kernel
theorem dX8_clause_23 : decode cX8_clause 23 = .ok (.athrow, 1) := by decide +kernel
theorem dX8_clause_24 : decode cX8_clause 24 = .ok (.aload_n 0, 1) := by decide +kernel
theorem dX8_clause_25 : decode cX8_clause 25 = .ok (.getfield 124, 3) := by decide +kernel
theorem dX8_clause_28 : decode cX8_clause 28 = .ok (.aload_n 0, 1) := by decide +kernel
theorem dX8_clause_29 : decode cX8_clause 29 = .ok (.getfield 27, 3) := by decide +kernel
theorem dX8_clause_32 : decode cX8_clause 32 = .ok (.arraylength, 1) := by decide +kernel
theorem dX8_clause_33 : decode cX8_clause 33 = .ok (.invokestatic 104, 3) := by decide +kernel
theorem dX8_clause_36 : decode cX8_clause 36 = .ok (.ifCond .ne 13, 3) := by decide +kernel
theorem dX8_clause_39 : decode cX8_clause 39 = .ok (.new 65, 3) := by decide +kernel
theorem dX8_clause_42 : decode cX8_clause 42 = .ok (.dup, 1) := by decide +kernel
theorem dX8_clause_43 : decode cX8_clause 43 = .ok (.ldc 128, 2) := by decide +kernel
theorem dX8_clause_45 : decode cX8_clause 45 = .ok (.invokespecial 69, 3) := by decide +kernel
theorem dX8_clause_48 : decode cX8_clause 48 = .ok (.athrow, 1) := by decide +kernel
theorem dX8_clause_49 : decode cX8_clause 49 = .ok (.aload_n 0, 1) := by decide +kernel
theorem dX8_clause_50 : decode cX8_clause 50 = .ok (.getfield 27, 3) := by decide +kernel
theorem dX8_clause_53 : decode cX8_clause 53 = .ok (.aload_n 0, 1) := by decide +kernel
theorem dX8_clause_54 : decode cX8_clause 54 = .ok (.getfield 124, 3) := by decide +kernel
theorem dX8_clause_57 : decode cX8_clause 57 = .ok (.new 25, 3) := by decide +kernel
theorem dX8_clause_60 : decode cX8_clause 60 = .ok (.dup, 1) := by decide +kernel
theorem dX8_clause_61 : decode cX8_clause 61 = .ok (.iload_n 1, 1) := by decide +kernel
theorem dX8_clause_62 : decode cX8_clause 62 = .ok (.invokespecial 130, 3) := by decide +kernel
theorem dX8_clause_65 : decode cX8_clause 65 = .ok (.aastore, 1) := by decide +kernel
theorem dX8_clause_66 : decode cX8_clause 66 = .ok (.aload_n 0, 1) := by decide +kernel
theorem dX8_clause_67 : decode cX8_clause 67 = .ok (.dup, 1) := by decide +kernel
theorem dX8_clause_68 : decode cX8_clause 68 = .ok (.getfield 124, 3) := by decide +kernel
theorem dX8_clause_71 : decode cX8_clause 71 = .ok (.iconst 1, 1) := by decide +kernel
theorem dX8_clause_72 : decode cX8_clause 72 = .ok (.iadd, 1) := by decide +kernel
theorem dX8_clause_73 : decode cX8_clause 73 = .ok (.putfield 124, 3) := by decide +kernel
theorem dX8_clause_76 : decode cX8_clause 76 = .ok (.aload_n 0, 1) := by decide +kernel
theorem dX8_clause_77 : decode cX8_clause 77 = .ok (.getfield 124, 3) := by decide +kernel
theorem dX8_clause_80 : decode cX8_clause 80 = .ok (.iconst 1, 1) := by decide +kernel
theorem dX8_clause_81 : decode cX8_clause 81 = .ok (.isub, 1) := by decide +kernel
theorem dX8_clause_82 : decode cX8_clause 82 = .ok (.ireturn, 1) := by decide +kernel
theorem dX8_text_0 : decode cX8_text 0 = .ok (.aload_n 0, 1) := by decide +kernel
theorem dX8_text_1 : decode cX8_text 1 = .ok (.iload_n 1, 1) := by decide +kernel
theorem dX8_text_2 : decode cX8_text 2 = .ok (.iload_n 2, 1) := by decide +kernel
theorem dX8_text_3 : decode cX8_text 3 = .ok (.invokevirtual 131, 3) := by decide +kernel
theorem dX8_text_6 : decode cX8_text 6 = .ok (.astore_n 3, 1) := by decide +kernel
theorem dX8_text_7 : decode cX8_text 7 = .ok (.aload_n 3, 1) := by decide +kernel
theorem dX8_text_8 : decode cX8_text 8 = .ok (.ifnonnull 13, 3) := by decide +kernel
theorem dX8_text_11 : decode cX8_text 11 = .ok (.new 99, 3) := by decide +kernel
theorem dX8_text_14 : decode cX8_text 14 = .ok (.dup, 1) := by decide +kernel
theorem dX8_text_15 : decode cX8_text 15 = .ok (.ldc 135, 2) := by decide +kernel
theorem dX8_text_17 : decode cX8_text 17 = .ok (.invokespecial 103, 3) := by decide +kernel
theorem dX8_text_20 : decode cX8_text 20 = .ok (.athrow, 1) := by decide +kernel
theorem dX8_text_21 : decode cX8_text 21 = .ok (.aload_n 0, 1) := by decide +kernel
theorem dX8_text_22 : decode cX8_text 22 = .ok (.getfield 14, 3) := by decide +kernel
theorem dX8_text_25 : decode cX8_text 25 = .ok (.invokestatic 137, 3) := by decide +kernel
theorem dX8_text_28 : decode cX8_text 28 = .ok (.iconst (-1), 1) := by decide +kernel
theorem dX8_text_29 : decode cX8_text 29 = .ok (.if_icmp .eq 13, 3) := by decide +kernel
theorem dX8_text_32 : decode cX8_text 32 = .ok (.new 65, 3) := by decide +kernel
theorem dX8_text_35 : decode cX8_text 35 = .ok (.dup, 1) := by decide +kernel
theorem dX8_text_36 : decode cX8_text 36 = .ok (.ldc 140, 2) := by decide +kernel
theorem dX8_text_38 : decode cX8_text 38 = .ok (.invokespecial 69, 3) := by decide +kernel
theorem dX8_text_41 : decode cX8_text 41 = .ok (.athrow, 1) := by decide +kernel
theorem dX8_text_42 : decode cX8_text 42 = .ok (.aload_n 3, 1) := by decide +kernel
theorem dX8_text_43 : decode cX8_text 43 = .ok (.aload_n 0, 1) := by decide +kernel
theorem dX8_text_44 : decode cX8_text 44 = .ok (.getfield 14, 3) := by decide +kernel
theorem dX8_text_47 : decode cX8_text 47 = .ok (.invokevirtual 142, 3) := by decide +kernel
theorem dX8_text_50 : decode cX8_text 50 = .ok (.aload_n 0, 1) := by decide +kernel
theorem dX8_text_51 : decode cX8_text 51 = .ok (.getfield 14, 3) := by decide +kernel
theorem dX8_text_54 : decode cX8_text 54 = .ok (.invokevirtual 76, 3) := by decide +kernel
theorem dX8_text_57 : decode cX8_text 57 = .ok (.aload_n 3, 1) := by decide +kernel
theorem dX8_text_58 : decode cX8_text 58 = .ok (.invokevirtual 148, 3) := by decide +kernel
theorem dX8_text_61 : decode cX8_text 61 = .ok (.ireturn, 1) := by decide +kernel
theorem dX8_fault_0 : decode cX8_fault 0 = .ok (.aload_n 0, 1) := by decide +kernel
theorem dX8_fault_1 : decode cX8_fault 1 = .ok (.getfield 14, 3) := by decide +kernel
theorem dX8_fault_4 : decode cX8_fault 4 = .ok (.invokestatic 137, 3) := by decide +kernel
theorem dX8_fault_7 : decode cX8_fault 7 = .ok (.ireturn, 1) := by decide +kernel
theorem dX8_approve_0 : decode cX8_approve 0 = .ok (.aload_n 0, 1) := by decide +kernel
theorem dX8_approve_1 : decode cX8_approve 1 = .ok (.iload_n 1, 1) := by decide +kernel
theorem dX8_approve_2 : decode cX8_approve 2 = .ok (.iload_n 2, 1) := by decide +kernel
theorem dX8_approve_3 : decode cX8_approve 3 = .ok (.invokevirtual 131, 3) := by decide +kernel
theorem dX8_approve_6 : decode cX8_approve 6 = .ok (.astore_n 3, 1) := by decide +kernel
theorem dX8_approve_7 : decode cX8_approve 7 = .ok (.aload_n 3, 1) := by decide +kernel
theorem dX8_approve_8 : decode cX8_approve 8 = .ok (.ifnonnull 13, 3) := by decide +kernel
theorem dX8_approve_11 : decode cX8_approve 11 = .ok (.new 99, 3) := by decide +kernel
theorem dX8_approve_14 : decode cX8_approve 14 = .ok (.dup, 1) := by decide +kernel
theorem dX8_approve_15 : decode cX8_approve 15 = .ok (.ldc 135, 2) := by decide +kernel
theorem dX8_approve_17 : decode cX8_approve 17 = .ok (.invokespecial 103, 3) := by decide +kernel
theorem dX8_approve_20 : decode cX8_approve 20 = .ok (.athrow, 1) := by decide +kernel
theorem dX8_approve_21 : decode cX8_approve 21 = .ok (.aload_n 3, 1) := by decide +kernel
theorem dX8_approve_22 : decode cX8_approve 22 = .ok (.invokevirtual 151, 3) := by decide +kernel
theorem dX8_approve_25 : decode cX8_approve 25 = .ok (.ifCond .ne 13, 3) := by decide +kernel
theorem dX8_approve_28 : decode cX8_approve 28 = .ok (.new 65, 3) := by decide +kernel
theorem dX8_approve_31 : decode cX8_approve 31 = .ok (.dup, 1) := by decide +kernel
theorem dX8_approve_32 : decode cX8_approve 32 = .ok (.ldc 155, 2) := by decide +kernel
theorem dX8_approve_34 : decode cX8_approve 34 = .ok (.invokespecial 69, 3) := by decide +kernel
theorem dX8_approve_37 : decode cX8_approve 37 = .ok (.athrow, 1) := by decide +kernel
theorem dX8_approve_38 : decode cX8_approve 38 = .ok (.aload_n 3, 1) := by decide +kernel
theorem dX8_approve_39 : decode cX8_approve 39 = .ok (.invokevirtual 157, 3) := by decide +kernel
theorem dX8_approve_42 : decode cX8_approve 42 = .ok (.ifCond .ne 7, 3) := by decide +kernel
theorem dX8_approve_45 : decode cX8_approve 45 = .ok (.iconst 1, 1) := by decide +kernel
theorem dX8_approve_46 : decode cX8_approve 46 = .ok (.goto 4, 3) := by decide +kernel
theorem dX8_approve_49 : decode cX8_approve 49 = .ok (.iconst 0, 1) := by decide +kernel
theorem dX8_approve_50 : decode cX8_approve 50 = .ok (.istore 4, 2) := by decide +kernel
theorem dX8_approve_52 : decode cX8_approve 52 = .ok (.aload_n 3, 1) := by decide +kernel
theorem dX8_approve_53 : decode cX8_approve 53 = .ok (.invokevirtual 160, 3) := by decide +kernel
theorem dX8_approve_56 : decode cX8_approve 56 = .ok (.iload 4, 2) := by decide +kernel
theorem dX8_approve_58 : decode cX8_approve 58 = .ok (.ireturn, 1) := by decide +kernel
theorem dX8_relate_0 : decode cX8_relate 0 = .ok (.aload_n 0, 1) := by decide +kernel
theorem dX8_relate_1 : decode cX8_relate 1 = .ok (.iload_n 1, 1) := by decide +kernel
theorem dX8_relate_2 : decode cX8_relate 2 = .ok (.invokevirtual 163, 3) := by decide +kernel
theorem dX8_relate_5 : decode cX8_relate 5 = .ok (.astore 5, 2) := by decide +kernel
theorem dX8_relate_7 : decode cX8_relate 7 = .ok (.aload 5, 2) := by decide +kernel
theorem dX8_relate_9 : decode cX8_relate 9 = .ok (.ifnull 11, 3) := by decide +kernel
theorem dX8_relate_12 : decode cX8_relate 12 = .ok (.aload_n 0, 1) := by decide +kernel
theorem dX8_relate_13 : decode cX8_relate 13 = .ok (.iload_n 2, 1) := by decide +kernel
theorem dX8_relate_14 : decode cX8_relate 14 = .ok (.invokevirtual 163, 3) := by decide +kernel
theorem dX8_relate_17 : decode cX8_relate 17 = .ok (.ifnonnull 13, 3) := by decide +kernel
theorem dX8_relate_20 : decode cX8_relate 20 = .ok (.new 99, 3) := by decide +kernel
theorem dX8_relate_23 : decode cX8_relate 23 = .ok (.dup, 1) := by decide +kernel
theorem dX8_relate_24 : decode cX8_relate 24 = .ok (.ldc 167, 2) := by decide +kernel
theorem dX8_relate_26 : decode cX8_relate 26 = .ok (.invokespecial 103, 3) := by decide +kernel
theorem dX8_relate_29 : decode cX8_relate 29 = .ok (.athrow, 1) := by decide +kernel
theorem dX8_relate_30 : decode cX8_relate 30 = .ok (.iload_n 1, 1) := by decide +kernel
theorem dX8_relate_31 : decode cX8_relate 31 = .ok (.iload_n 2, 1) := by decide +kernel
theorem dX8_relate_32 : decode cX8_relate 32 = .ok (.if_icmp .eq 22, 3) := by decide +kernel
theorem dX8_relate_35 : decode cX8_relate 35 = .ok (.iload_n 3, 1) := by decide +kernel
theorem dX8_relate_36 : decode cX8_relate 36 = .ok (.iconst 4, 1) := by decide +kernel
theorem dX8_relate_37 : decode cX8_relate 37 = .ok (.invokestatic 104, 3) := by decide +kernel
theorem dX8_relate_40 : decode cX8_relate 40 = .ok (.ifCond .eq 14, 3) := by decide +kernel
theorem dX8_relate_43 : decode cX8_relate 43 = .ok (.iload 4, 2) := by decide +kernel
theorem dX8_relate_45 : decode cX8_relate 45 = .ok (.ifCond .lt 9, 3) := by decide +kernel
theorem dX8_relate_48 : decode cX8_relate 48 = .ok (.iload 4, 2) := by decide +kernel
theorem dX8_relate_50 : decode cX8_relate 50 = .ok (.iconst 2, 1) := by decide +kernel
theorem dX8_relate_51 : decode cX8_relate 51 = .ok (.if_icmp .le 13, 3) := by decide +kernel
theorem dX8_relate_54 : decode cX8_relate 54 = .ok (.new 107, 3) := by decide +kernel
theorem dX8_relate_57 : decode cX8_relate 57 = .ok (.dup, 1) := by decide +kernel
theorem dX8_relate_58 : decode cX8_relate 58 = .ok (.ldc 169, 2) := by decide +kernel
theorem dX8_relate_60 : decode cX8_relate 60 = .ok (.invokespecial 111, 3) := by decide +kernel
theorem dX8_relate_63 : decode cX8_relate 63 = .ok (.athrow, 1) := by decide +kernel
theorem dX8_relate_64 : decode cX8_relate 64 = .ok (.aload 5, 2) := by decide +kernel
theorem dX8_relate_66 : decode cX8_relate 66 = .ok (.iload_n 2, 1) := by decide +kernel
theorem dX8_relate_67 : decode cX8_relate 67 = .ok (.iload_n 3, 1) := by decide +kernel
theorem dX8_relate_68 : decode cX8_relate 68 = .ok (.invokevirtual 171, 3) := by decide +kernel
theorem dX8_relate_71 : decode cX8_relate 71 = .ok (.istore 6, 2) := by decide +kernel
theorem dX8_relate_73 : decode cX8_relate 73 = .ok (.aload 5, 2) := by decide +kernel
theorem dX8_relate_75 : decode cX8_relate 75 = .ok (.iload_n 2, 1) := by decide +kernel
theorem dX8_relate_76 : decode cX8_relate 76 = .ok (.iload_n 3, 1) := by decide +kernel
theorem dX8_relate_77 : decode cX8_relate 77 = .ok (.iload 4, 2) := by decide +kernel
theorem dX8_relate_79 : decode cX8_relate 79 = .ok (.invokevirtual 175, 3) := by decide +kernel
theorem dX8_relate_82 : decode cX8_relate 82 = .ok (.iload 6, 2) := by decide +kernel
theorem dX8_relate_84 : decode cX8_relate 84 = .ok (.ireturn, 1) := by decide +kernel
theorem dX8_isLinked_0 : decode cX8_isLinked 0 = .ok (.aload_n 0, 1) := by decide +kernel
theorem dX8_isLinked_1 : decode cX8_isLinked 1 = .ok (.iload_n 1, 1) := by decide +kernel
theorem dX8_isLinked_2 : decode cX8_isLinked 2 = .ok (.invokevirtual 163, 3) := by decide +kernel
theorem dX8_isLinked_5 : decode cX8_isLinked 5 = .ok (.astore_n 2, 1) := by decide +kernel
theorem dX8_isLinked_6 : decode cX8_isLinked 6 = .ok (.aload_n 2, 1) := by decide +kernel
theorem dX8_isLinked_7 : decode cX8_isLinked 7 = .ok (.ifnonnull 13, 3) := by decide +kernel
theorem dX8_isLinked_10 : decode cX8_isLinked 10 = .ok (.new 99, 3) := by decide +kernel
theorem dX8_isLinked_13 : decode cX8_isLinked 13 = .ok (.dup, 1) := by decide +kernel
theorem dX8_isLinked_14 : decode cX8_isLinked 14 = .ok (.ldc 167, 2) := by decide +kernel
theorem dX8_isLinked_16 : decode cX8_isLinked 16 = .ok (.invokespecial 103, 3) := by decide +kernel
theorem dX8_isLinked_19 : decode cX8_isLinked 19 = .ok (.athrow, 1) := by decide +kernel
theorem dX8_isLinked_20 : decode cX8_isLinked 20 = .ok (.aload_n 2, 1) := by decide +kernel
theorem dX8_isLinked_21 : decode cX8_isLinked 21 = .ok (.invokevirtual 179, 3) := by decide +kernel
theorem dX8_isLinked_24 : decode cX8_isLinked 24 = .ok (.ireturn, 1) := by decide +kernel
theorem dX8_letter_0 : decode cX8_letter 0 = .ok (.aload_n 0, 1) := by decide +kernel
theorem dX8_letter_1 : decode cX8_letter 1 = .ok (.getfield 182, 3) := by decide +kernel
theorem dX8_letter_4 : decode cX8_letter 4 = .ok (.aload_n 0, 1) := by decide +kernel
theorem dX8_letter_5 : decode cX8_letter 5 = .ok (.getfield 33, 3) := by decide +kernel
theorem dX8_letter_8 : decode cX8_letter 8 = .ok (.arraylength, 1) := by decide +kernel
theorem dX8_letter_9 : decode cX8_letter 9 = .ok (.invokestatic 104, 3) := by decide +kernel
theorem dX8_letter_12 : decode cX8_letter 12 = .ok (.ifCond .ne 13, 3) := by decide +kernel
theorem dX8_letter_15 : decode cX8_letter 15 = .ok (.new 65, 3) := by decide +kernel
theorem dX8_letter_18 : decode cX8_letter 18 = .ok (.dup, 1) := by decide +kernel
theorem dX8_letter_19 : decode cX8_letter 19 = .ok (.ldc 185, 2) := by decide +kernel
theorem dX8_letter_21 : decode cX8_letter 21 = .ok (.invokespecial 69, 3) := by decide +kernel
theorem dX8_letter_24 : decode cX8_letter 24 = .ok (.athrow, 1) := by decide +kernel
theorem dX8_letter_25 : decode cX8_letter 25 = .ok (.aload_n 0, 1) := by decide +kernel
theorem dX8_letter_26 : decode cX8_letter 26 = .ok (.getfield 33, 3) := by decide +kernel
theorem dX8_letter_29 : decode cX8_letter 29 = .ok (.aload_n 0, 1) := by decide +kernel
theorem dX8_letter_30 : decode cX8_letter 30 = .ok (.getfield 182, 3) := by decide +kernel
theorem dX8_letter_33 : decode cX8_letter 33 = .ok (.new 31, 3) := by decide +kernel
theorem dX8_letter_36 : decode cX8_letter 36 = .ok (.dup, 1) := by decide +kernel
theorem dX8_letter_37 : decode cX8_letter 37 = .ok (.invokespecial 187, 3) := by decide +kernel
theorem dX8_letter_40 : decode cX8_letter 40 = .ok (.aastore, 1) := by decide +kernel
theorem dX8_letter_41 : decode cX8_letter 41 = .ok (.aload_n 0, 1) := by decide +kernel
theorem dX8_letter_42 : decode cX8_letter 42 = .ok (.dup, 1) := by decide +kernel
theorem dX8_letter_43 : decode cX8_letter 43 = .ok (.getfield 182, 3) := by decide +kernel
theorem dX8_letter_46 : decode cX8_letter 46 = .ok (.iconst 1, 1) := by decide +kernel
theorem dX8_letter_47 : decode cX8_letter 47 = .ok (.iadd, 1) := by decide +kernel
theorem dX8_letter_48 : decode cX8_letter 48 = .ok (.putfield 182, 3) := by decide +kernel
theorem dX8_letter_51 : decode cX8_letter 51 = .ok (.aload_n 0, 1) := by decide +kernel
theorem dX8_letter_52 : decode cX8_letter 52 = .ok (.getfield 182, 3) := by decide +kernel
theorem dX8_letter_55 : decode cX8_letter 55 = .ok (.iconst 1, 1) := by decide +kernel
theorem dX8_letter_56 : decode cX8_letter 56 = .ok (.isub, 1) := by decide +kernel
theorem dX8_letter_57 : decode cX8_letter 57 = .ok (.ireturn, 1) := by decide +kernel
theorem dX8_put_0 : decode cX8_put 0 = .ok (.aload_n 0, 1) := by decide +kernel
theorem dX8_put_1 : decode cX8_put 1 = .ok (.iload_n 1, 1) := by decide +kernel
theorem dX8_put_2 : decode cX8_put 2 = .ok (.invokevirtual 188, 3) := by decide +kernel
theorem dX8_put_5 : decode cX8_put 5 = .ok (.astore_n 3, 1) := by decide +kernel
theorem dX8_put_6 : decode cX8_put 6 = .ok (.aload_n 3, 1) := by decide +kernel
theorem dX8_put_7 : decode cX8_put 7 = .ok (.ifnull 11, 3) := by decide +kernel
theorem dX8_put_10 : decode cX8_put 10 = .ok (.aload_n 0, 1) := by decide +kernel
theorem dX8_put_11 : decode cX8_put 11 = .ok (.iload_n 2, 1) := by decide +kernel
theorem dX8_put_12 : decode cX8_put 12 = .ok (.invokevirtual 163, 3) := by decide +kernel
theorem dX8_put_15 : decode cX8_put 15 = .ok (.ifnonnull 13, 3) := by decide +kernel
theorem dX8_put_18 : decode cX8_put 18 = .ok (.new 99, 3) := by decide +kernel
theorem dX8_put_21 : decode cX8_put 21 = .ok (.dup, 1) := by decide +kernel
theorem dX8_put_22 : decode cX8_put 22 = .ok (.ldc 192, 2) := by decide +kernel
theorem dX8_put_24 : decode cX8_put 24 = .ok (.invokespecial 103, 3) := by decide +kernel
theorem dX8_put_27 : decode cX8_put 27 = .ok (.athrow, 1) := by decide +kernel
theorem dX8_put_28 : decode cX8_put 28 = .ok (.aload_n 3, 1) := by decide +kernel
theorem dX8_put_29 : decode cX8_put 29 = .ok (.iload_n 2, 1) := by decide +kernel
theorem dX8_put_30 : decode cX8_put 30 = .ok (.invokevirtual 194, 3) := by decide +kernel
theorem dX8_put_33 : decode cX8_put 33 = .ok (.ifCond .ne 11, 3) := by decide +kernel
theorem dX8_put_36 : decode cX8_put 36 = .ok (.aload_n 3, 1) := by decide +kernel
theorem dX8_put_37 : decode cX8_put 37 = .ok (.iload_n 2, 1) := by decide +kernel
theorem dX8_put_38 : decode cX8_put 38 = .ok (.invokevirtual 197, 3) := by decide +kernel
theorem dX8_put_41 : decode cX8_put 41 = .ok (.ifCond .ne 13, 3) := by decide +kernel
theorem dX8_put_44 : decode cX8_put 44 = .ok (.new 65, 3) := by decide +kernel
theorem dX8_put_47 : decode cX8_put 47 = .ok (.dup, 1) := by decide +kernel
theorem dX8_put_48 : decode cX8_put 48 = .ok (.ldc 199, 2) := by decide +kernel
theorem dX8_put_50 : decode cX8_put 50 = .ok (.invokespecial 69, 3) := by decide +kernel
theorem dX8_put_53 : decode cX8_put 53 = .ok (.athrow, 1) := by decide +kernel
theorem dX8_put_54 : decode cX8_put 54 = .ok (.aload_n 3, 1) := by decide +kernel
theorem dX8_put_55 : decode cX8_put 55 = .ok (.invokevirtual 201, 3) := by decide +kernel
theorem dX8_put_58 : decode cX8_put 58 = .ok (.ireturn, 1) := by decide +kernel
theorem dX8_data_0 : decode cX8_data 0 = .ok (.aload_n 0, 1) := by decide +kernel
theorem dX8_data_1 : decode cX8_data 1 = .ok (.iload_n 1, 1) := by decide +kernel
theorem dX8_data_2 : decode cX8_data 2 = .ok (.invokevirtual 96, 3) := by decide +kernel
theorem dX8_data_5 : decode cX8_data 5 = .ok (.ifCond .ne 13, 3) := by decide +kernel
theorem dX8_data_8 : decode cX8_data 8 = .ok (.new 99, 3) := by decide +kernel
theorem dX8_data_11 : decode cX8_data 11 = .ok (.dup, 1) := by decide +kernel
theorem dX8_data_12 : decode cX8_data 12 = .ok (.ldc 202, 2) := by decide +kernel
theorem dX8_data_14 : decode cX8_data 14 = .ok (.invokespecial 103, 3) := by decide +kernel
theorem dX8_data_17 : decode cX8_data 17 = .ok (.athrow, 1) := by decide +kernel
theorem dX8_data_18 : decode cX8_data 18 = .ok (.iload_n 2, 1) := by decide +kernel
theorem dX8_data_19 : decode cX8_data 19 = .ok (.ifCond .lt 10, 3) := by decide +kernel
theorem dX8_data_22 : decode cX8_data 22 = .ok (.iload_n 2, 1) := by decide +kernel
theorem dX8_data_23 : decode cX8_data 23 = .ok (.sipush 255, 3) := by decide +kernel
theorem dX8_data_26 : decode cX8_data 26 = .ok (.if_icmp .le 13, 3) := by decide +kernel
theorem dX8_data_29 : decode cX8_data 29 = .ok (.new 107, 3) := by decide +kernel
theorem dX8_data_32 : decode cX8_data 32 = .ok (.dup, 1) := by decide +kernel
theorem dX8_data_33 : decode cX8_data 33 = .ok (.ldc 204, 2) := by decide +kernel
theorem dX8_data_35 : decode cX8_data 35 = .ok (.invokespecial 111, 3) := by decide +kernel
theorem dX8_data_38 : decode cX8_data 38 = .ok (.athrow, 1) := by decide +kernel
theorem dX8_data_39 : decode cX8_data 39 = .ok (.aload_n 0, 1) := by decide +kernel
theorem dX8_data_40 : decode cX8_data 40 = .ok (.getfield 206, 3) := by decide +kernel
theorem dX8_data_43 : decode cX8_data 43 = .ok (.aload_n 0, 1) := by decide +kernel
theorem dX8_data_44 : decode cX8_data 44 = .ok (.getfield 39, 3) := by decide +kernel
theorem dX8_data_47 : decode cX8_data 47 = .ok (.arraylength, 1) := by decide +kernel
theorem dX8_data_48 : decode cX8_data 48 = .ok (.invokestatic 104, 3) := by decide +kernel
theorem dX8_data_51 : decode cX8_data 51 = .ok (.ifCond .ne 13, 3) := by decide +kernel
theorem dX8_data_54 : decode cX8_data 54 = .ok (.new 65, 3) := by decide +kernel
theorem dX8_data_57 : decode cX8_data 57 = .ok (.dup, 1) := by decide +kernel
theorem dX8_data_58 : decode cX8_data 58 = .ok (.ldc 209, 2) := by decide +kernel
theorem dX8_data_60 : decode cX8_data 60 = .ok (.invokespecial 69, 3) := by decide +kernel
theorem dX8_data_63 : decode cX8_data 63 = .ok (.athrow, 1) := by decide +kernel
theorem dX8_data_64 : decode cX8_data 64 = .ok (.aload_n 0, 1) := by decide +kernel
theorem dX8_data_65 : decode cX8_data 65 = .ok (.getfield 39, 3) := by decide +kernel
theorem dX8_data_68 : decode cX8_data 68 = .ok (.aload_n 0, 1) := by decide +kernel
theorem dX8_data_69 : decode cX8_data 69 = .ok (.getfield 206, 3) := by decide +kernel
theorem dX8_data_72 : decode cX8_data 72 = .ok (.new 37, 3) := by decide +kernel
theorem dX8_data_75 : decode cX8_data 75 = .ok (.dup, 1) := by decide +kernel
theorem dX8_data_76 : decode cX8_data 76 = .ok (.iload_n 1, 1) := by decide +kernel
theorem dX8_data_77 : decode cX8_data 77 = .ok (.iload_n 2, 1) := by decide +kernel
theorem dX8_data_78 : decode cX8_data 78 = .ok (.invokespecial 211, 3) := by decide +kernel
theorem dX8_data_81 : decode cX8_data 81 = .ok (.aastore, 1) := by decide +kernel
theorem dX8_data_82 : decode cX8_data 82 = .ok (.aload_n 0, 1) := by decide +kernel
theorem dX8_data_83 : decode cX8_data 83 = .ok (.dup, 1) := by decide +kernel
theorem dX8_data_84 : decode cX8_data 84 = .ok (.getfield 206, 3) := by decide +kernel
theorem dX8_data_87 : decode cX8_data 87 = .ok (.iconst 1, 1) := by decide +kernel
theorem dX8_data_88 : decode cX8_data 88 = .ok (.iadd, 1) := by decide +kernel
theorem dX8_data_89 : decode cX8_data 89 = .ok (.putfield 206, 3) := by decide +kernel
theorem dX8_data_92 : decode cX8_data 92 = .ok (.aload_n 0, 1) := by decide +kernel
theorem dX8_data_93 : decode cX8_data 93 = .ok (.getfield 206, 3) := by decide +kernel
theorem dX8_data_96 : decode cX8_data 96 = .ok (.iconst 1, 1) := by decide +kernel
theorem dX8_data_97 : decode cX8_data 97 = .ok (.isub, 1) := by decide +kernel
theorem dX8_data_98 : decode cX8_data 98 = .ok (.ireturn, 1) := by decide +kernel
theorem dX8_fill_0 : decode cX8_fill 0 = .ok (.aload_n 0, 1) := by decide +kernel
theorem dX8_fill_1 : decode cX8_fill 1 = .ok (.iload_n 1, 1) := by decide +kernel
theorem dX8_fill_2 : decode cX8_fill 2 = .ok (.invokevirtual 214, 3) := by decide +kernel
theorem dX8_fill_5 : decode cX8_fill 5 = .ok (.astore 4, 2) := by decide +kernel
theorem dX8_fill_7 : decode cX8_fill 7 = .ok (.aload 4, 2) := by decide +kernel
theorem dX8_fill_9 : decode cX8_fill 9 = .ok (.ifnull 19, 3) := by decide +kernel
theorem dX8_fill_12 : decode cX8_fill 12 = .ok (.iload_n 2, 1) := by decide +kernel
theorem dX8_fill_13 : decode cX8_fill 13 = .ok (.iconst 5, 1) := by decide +kernel
theorem dX8_fill_14 : decode cX8_fill 14 = .ok (.invokestatic 104, 3) := by decide +kernel
theorem dX8_fill_17 : decode cX8_fill 17 = .ok (.ifCond .eq 11, 3) := by decide +kernel
theorem dX8_fill_20 : decode cX8_fill 20 = .ok (.aload_n 0, 1) := by decide +kernel
theorem dX8_fill_21 : decode cX8_fill 21 = .ok (.iload_n 3, 1) := by decide +kernel
theorem dX8_fill_22 : decode cX8_fill 22 = .ok (.invokevirtual 96, 3) := by decide +kernel
theorem dX8_fill_25 : decode cX8_fill 25 = .ok (.ifCond .ne 13, 3) := by decide +kernel
theorem dX8_fill_28 : decode cX8_fill 28 = .ok (.new 99, 3) := by decide +kernel
theorem dX8_fill_31 : decode cX8_fill 31 = .ok (.dup, 1) := by decide +kernel
theorem dX8_fill_32 : decode cX8_fill 32 = .ok (.ldc 218, 2) := by decide +kernel
theorem dX8_fill_34 : decode cX8_fill 34 = .ok (.invokespecial 103, 3) := by decide +kernel
theorem dX8_fill_37 : decode cX8_fill 37 = .ok (.athrow, 1) := by decide +kernel
theorem dX8_fill_38 : decode cX8_fill 38 = .ok (.aload 4, 2) := by decide +kernel
theorem dX8_fill_40 : decode cX8_fill 40 = .ok (.iload_n 2, 1) := by decide +kernel
theorem dX8_fill_41 : decode cX8_fill 41 = .ok (.invokevirtual 220, 3) := by decide +kernel
theorem dX8_fill_44 : decode cX8_fill 44 = .ok (.istore 5, 2) := by decide +kernel
theorem dX8_fill_46 : decode cX8_fill 46 = .ok (.aload 4, 2) := by decide +kernel
theorem dX8_fill_48 : decode cX8_fill 48 = .ok (.iload_n 2, 1) := by decide +kernel
theorem dX8_fill_49 : decode cX8_fill 49 = .ok (.iload_n 3, 1) := by decide +kernel
theorem dX8_fill_50 : decode cX8_fill 50 = .ok (.invokevirtual 224, 3) := by decide +kernel
theorem dX8_fill_53 : decode cX8_fill 53 = .ok (.iload 5, 2) := by decide +kernel
theorem dX8_fill_55 : decode cX8_fill 55 = .ok (.ireturn, 1) := by decide +kernel
theorem dX8_price_0 : decode cX8_price 0 = .ok (.iload_n 1, 1) := by decide +kernel
theorem dX8_price_1 : decode cX8_price 1 = .ok (.aload_n 0, 1) := by decide +kernel
theorem dX8_price_2 : decode cX8_price 2 = .ok (.getfield 43, 3) := by decide +kernel
theorem dX8_price_5 : decode cX8_price 5 = .ok (.arraylength, 1) := by decide +kernel
theorem dX8_price_6 : decode cX8_price 6 = .ok (.invokestatic 104, 3) := by decide +kernel
theorem dX8_price_9 : decode cX8_price 9 = .ok (.ifCond .ne 13, 3) := by decide +kernel
theorem dX8_price_12 : decode cX8_price 12 = .ok (.new 99, 3) := by decide +kernel
theorem dX8_price_15 : decode cX8_price 15 = .ok (.dup, 1) := by decide +kernel
theorem dX8_price_16 : decode cX8_price 16 = .ok (.ldc 227, 2) := by decide +kernel
theorem dX8_price_18 : decode cX8_price 18 = .ok (.invokespecial 103, 3) := by decide +kernel
theorem dX8_price_21 : decode cX8_price 21 = .ok (.athrow, 1) := by decide +kernel
theorem dX8_price_22 : decode cX8_price 22 = .ok (.iload_n 2, 1) := by decide +kernel
theorem dX8_price_23 : decode cX8_price 23 = .ok (.ifCond .lt 10, 3) := by decide +kernel
theorem dX8_price_26 : decode cX8_price 26 = .ok (.iload_n 2, 1) := by decide +kernel
theorem dX8_price_27 : decode cX8_price 27 = .ok (.sipush 1000, 3) := by decide +kernel
theorem dX8_price_30 : decode cX8_price 30 = .ok (.if_icmp .le 13, 3) := by decide +kernel
theorem dX8_price_33 : decode cX8_price 33 = .ok (.new 107, 3) := by decide +kernel
theorem dX8_price_36 : decode cX8_price 36 = .ok (.dup, 1) := by decide +kernel
theorem dX8_price_37 : decode cX8_price 37 = .ok (.ldc 229, 2) := by decide +kernel
theorem dX8_price_39 : decode cX8_price 39 = .ok (.invokespecial 111, 3) := by decide +kernel
theorem dX8_price_42 : decode cX8_price 42 = .ok (.athrow, 1) := by decide +kernel
theorem dX8_price_43 : decode cX8_price 43 = .ok (.aload_n 0, 1) := by decide +kernel
theorem dX8_price_44 : decode cX8_price 44 = .ok (.getfield 43, 3) := by decide +kernel
theorem dX8_price_47 : decode cX8_price 47 = .ok (.iload_n 1, 1) := by decide +kernel
theorem dX8_price_48 : decode cX8_price 48 = .ok (.iaload, 1) := by decide +kernel
theorem dX8_price_49 : decode cX8_price 49 = .ok (.istore_n 3, 1) := by decide +kernel
theorem dX8_price_50 : decode cX8_price 50 = .ok (.aload_n 0, 1) := by decide +kernel
theorem dX8_price_51 : decode cX8_price 51 = .ok (.getfield 43, 3) := by decide +kernel
theorem dX8_price_54 : decode cX8_price 54 = .ok (.iload_n 1, 1) := by decide +kernel
theorem dX8_price_55 : decode cX8_price 55 = .ok (.iload_n 2, 1) := by decide +kernel
theorem dX8_price_56 : decode cX8_price 56 = .ok (.iastore, 1) := by decide +kernel
theorem dX8_price_57 : decode cX8_price 57 = .ok (.iload_n 3, 1) := by decide +kernel
theorem dX8_price_58 : decode cX8_price 58 = .ok (.ireturn, 1) := by decide +kernel
theorem dX8_faultOf_0 : decode cX8_faultOf 0 = .ok (.aload_n 0, 1) := by decide +kernel
theorem dX8_faultOf_1 : decode cX8_faultOf 1 = .ok (.iload_n 1, 1) := by decide +kernel
theorem dX8_faultOf_2 : decode cX8_faultOf 2 = .ok (.invokevirtual 188, 3) := by decide +kernel
theorem dX8_faultOf_5 : decode cX8_faultOf 5 = .ok (.astore 5, 2) := by decide +kernel
theorem dX8_faultOf_7 : decode cX8_faultOf 7 = .ok (.aload_n 0, 1) := by decide +kernel
theorem dX8_faultOf_8 : decode cX8_faultOf 8 = .ok (.iload_n 2, 1) := by decide +kernel
theorem dX8_faultOf_9 : decode cX8_faultOf 9 = .ok (.invokevirtual 214, 3) := by decide +kernel
theorem dX8_faultOf_12 : decode cX8_faultOf 12 = .ok (.astore 6, 2) := by decide +kernel
theorem dX8_faultOf_14 : decode cX8_faultOf 14 = .ok (.aload 5, 2) := by decide +kernel
theorem dX8_faultOf_16 : decode cX8_faultOf 16 = .ok (.ifnull 15, 3) := by decide +kernel
theorem dX8_faultOf_19 : decode cX8_faultOf 19 = .ok (.aload 6, 2) := by decide +kernel
theorem dX8_faultOf_21 : decode cX8_faultOf 21 = .ok (.ifnull 10, 3) := by decide +kernel
theorem dX8_faultOf_24 : decode cX8_faultOf 24 = .ok (.iload_n 3, 1) := by decide +kernel
theorem dX8_faultOf_25 : decode cX8_faultOf 25 = .ok (.invokestatic 92, 3) := by decide +kernel
theorem dX8_faultOf_28 : decode cX8_faultOf 28 = .ok (.ifCond .ne 13, 3) := by decide +kernel
theorem dX8_faultOf_31 : decode cX8_faultOf 31 = .ok (.new 99, 3) := by decide +kernel
theorem dX8_faultOf_34 : decode cX8_faultOf 34 = .ok (.dup, 1) := by decide +kernel
theorem dX8_faultOf_35 : decode cX8_faultOf 35 = .ok (.ldc 231, 2) := by decide +kernel
theorem dX8_faultOf_37 : decode cX8_faultOf 37 = .ok (.invokespecial 103, 3) := by decide +kernel
theorem dX8_faultOf_40 : decode cX8_faultOf 40 = .ok (.athrow, 1) := by decide +kernel
theorem dX8_faultOf_41 : decode cX8_faultOf 41 = .ok (.iload 4, 2) := by decide +kernel
theorem dX8_faultOf_43 : decode cX8_faultOf 43 = .ok (.iconst 4, 1) := by decide +kernel
theorem dX8_faultOf_44 : decode cX8_faultOf 44 = .ok (.invokestatic 104, 3) := by decide +kernel
theorem dX8_faultOf_47 : decode cX8_faultOf 47 = .ok (.ifCond .ne 13, 3) := by decide +kernel
theorem dX8_faultOf_50 : decode cX8_faultOf 50 = .ok (.new 107, 3) := by decide +kernel
theorem dX8_faultOf_53 : decode cX8_faultOf 53 = .ok (.dup, 1) := by decide +kernel
theorem dX8_faultOf_54 : decode cX8_faultOf 54 = .ok (.ldc 233, 2) := by decide +kernel
theorem dX8_faultOf_56 : decode cX8_faultOf 56 = .ok (.invokespecial 111, 3) := by decide +kernel
theorem dX8_faultOf_59 : decode cX8_faultOf 59 = .ok (.athrow, 1) := by decide +kernel
theorem dX8_faultOf_60 : decode cX8_faultOf 60 = .ok (.iconst 0, 1) := by decide +kernel
theorem dX8_faultOf_61 : decode cX8_faultOf 61 = .ok (.istore 7, 2) := by decide +kernel
theorem dX8_faultOf_63 : decode cX8_faultOf 63 = .ok (.iload 7, 2) := by decide +kernel
theorem dX8_faultOf_65 : decode cX8_faultOf 65 = .ok (.aload 5, 2) := by decide +kernel
theorem dX8_faultOf_67 : decode cX8_faultOf 67 = .ok (.invokevirtual 201, 3) := by decide +kernel
theorem dX8_faultOf_70 : decode cX8_faultOf 70 = .ok (.if_icmp .ge 64, 3) := by decide +kernel
theorem dX8_faultOf_73 : decode cX8_faultOf 73 = .ok (.aload 5, 2) := by decide +kernel
theorem dX8_faultOf_75 : decode cX8_faultOf 75 = .ok (.iload 7, 2) := by decide +kernel
theorem dX8_faultOf_77 : decode cX8_faultOf 77 = .ok (.invokevirtual 235, 3) := by decide +kernel
theorem dX8_faultOf_80 : decode cX8_faultOf 80 = .ok (.istore 8, 2) := by decide +kernel
theorem dX8_faultOf_82 : decode cX8_faultOf 82 = .ok (.aload_n 0, 1) := by decide +kernel
theorem dX8_faultOf_83 : decode cX8_faultOf 83 = .ok (.aload 5, 2) := by decide +kernel
theorem dX8_faultOf_85 : decode cX8_faultOf 85 = .ok (.aload 6, 2) := by decide +kernel
theorem dX8_faultOf_87 : decode cX8_faultOf 87 = .ok (.iload 8, 2) := by decide +kernel
theorem dX8_faultOf_89 : decode cX8_faultOf 89 = .ok (.invokevirtual 238, 3) := by decide +kernel
theorem dX8_faultOf_92 : decode cX8_faultOf 92 = .ok (.ifCond .eq 19, 3) := by decide +kernel
theorem dX8_faultOf_95 : decode cX8_faultOf 95 = .ok (.aload_n 0, 1) := by decide +kernel
theorem dX8_faultOf_96 : decode cX8_faultOf 96 = .ok (.aload 5, 2) := by decide +kernel
theorem dX8_faultOf_98 : decode cX8_faultOf 98 = .ok (.aload 6, 2) := by decide +kernel
theorem dX8_faultOf_100 : decode cX8_faultOf 100 = .ok (.iload 8, 2) := by decide +kernel
theorem dX8_faultOf_102 : decode cX8_faultOf 102 = .ok (.iload_n 3, 1) := by decide +kernel
theorem dX8_faultOf_103 : decode cX8_faultOf 103 = .ok (.iload 4, 2) := by decide +kernel
theorem dX8_faultOf_105 : decode cX8_faultOf 105 = .ok (.invokevirtual 242, 3) := by decide +kernel
theorem dX8_faultOf_108 : decode cX8_faultOf 108 = .ok (.goto 4, 3) := by decide +kernel
theorem dX8_faultOf_111 : decode cX8_faultOf 111 = .ok (.iconst 0, 1) := by decide +kernel
theorem dX8_faultOf_112 : decode cX8_faultOf 112 = .ok (.istore 9, 2) := by decide +kernel
theorem dX8_faultOf_114 : decode cX8_faultOf 114 = .ok (.iload 9, 2) := by decide +kernel
theorem dX8_faultOf_116 : decode cX8_faultOf 116 = .ok (.ifCond .eq 12, 3) := by decide +kernel
theorem dX8_faultOf_119 : decode cX8_faultOf 119 = .ok (.bipush 10, 2) := by decide +kernel
theorem dX8_faultOf_121 : decode cX8_faultOf 121 = .ok (.iload 7, 2) := by decide +kernel
theorem dX8_faultOf_123 : decode cX8_faultOf 123 = .ok (.imul, 1) := by decide +kernel
theorem dX8_faultOf_124 : decode cX8_faultOf 124 = .ok (.iload 9, 2) := by decide +kernel
theorem dX8_faultOf_126 : decode cX8_faultOf 126 = .ok (.iadd, 1) := by decide +kernel
theorem dX8_faultOf_127 : decode cX8_faultOf 127 = .ok (.ireturn, 1) := by decide +kernel
theorem dX8_faultOf_128 : decode cX8_faultOf 128 = .ok (.iinc 7 1, 3) := by decide +kernel
theorem dX8_faultOf_131 : decode cX8_faultOf 131 = .ok (.goto (-68), 3) := by decide +kernel
theorem dX8_faultOf_134 : decode cX8_faultOf 134 = .ok (.iconst 0, 1) := by decide +kernel
theorem dX8_faultOf_135 : decode cX8_faultOf 135 = .ok (.ireturn, 1) := by decide +kernel
theorem dX8_sign_0 : decode cX8_sign 0 = .ok (.aload_n 0, 1) := by decide +kernel
theorem dX8_sign_1 : decode cX8_sign 1 = .ok (.iload_n 1, 1) := by decide +kernel
theorem dX8_sign_2 : decode cX8_sign 2 = .ok (.invokevirtual 188, 3) := by decide +kernel
theorem dX8_sign_5 : decode cX8_sign 5 = .ok (.astore 5, 2) := by decide +kernel
theorem dX8_sign_7 : decode cX8_sign 7 = .ok (.aload_n 0, 1) := by decide +kernel
theorem dX8_sign_8 : decode cX8_sign 8 = .ok (.iload_n 2, 1) := by decide +kernel
theorem dX8_sign_9 : decode cX8_sign 9 = .ok (.invokevirtual 214, 3) := by decide +kernel
theorem dX8_sign_12 : decode cX8_sign 12 = .ok (.astore 6, 2) := by decide +kernel
theorem dX8_sign_14 : decode cX8_sign 14 = .ok (.aload 5, 2) := by decide +kernel
theorem dX8_sign_16 : decode cX8_sign 16 = .ok (.ifnull 20, 3) := by decide +kernel
theorem dX8_sign_19 : decode cX8_sign 19 = .ok (.aload 6, 2) := by decide +kernel
theorem dX8_sign_21 : decode cX8_sign 21 = .ok (.ifnull 15, 3) := by decide +kernel
theorem dX8_sign_24 : decode cX8_sign 24 = .ok (.iload_n 3, 1) := by decide +kernel
theorem dX8_sign_25 : decode cX8_sign 25 = .ok (.invokestatic 92, 3) := by decide +kernel
theorem dX8_sign_28 : decode cX8_sign 28 = .ok (.ifCond .eq 8, 3) := by decide +kernel
theorem dX8_sign_31 : decode cX8_sign 31 = .ok (.iload 4, 2) := by decide +kernel
theorem dX8_sign_33 : decode cX8_sign 33 = .ok (.ifCond .ge 13, 3) := by decide +kernel
theorem dX8_sign_36 : decode cX8_sign 36 = .ok (.new 99, 3) := by decide +kernel
theorem dX8_sign_39 : decode cX8_sign 39 = .ok (.dup, 1) := by decide +kernel
theorem dX8_sign_40 : decode cX8_sign 40 = .ok (.ldc 246, 2) := by decide +kernel
theorem dX8_sign_42 : decode cX8_sign 42 = .ok (.invokespecial 103, 3) := by decide +kernel
theorem dX8_sign_45 : decode cX8_sign 45 = .ok (.athrow, 1) := by decide +kernel
theorem dX8_sign_46 : decode cX8_sign 46 = .ok (.aload_n 0, 1) := by decide +kernel
theorem dX8_sign_47 : decode cX8_sign 47 = .ok (.aload 5, 2) := by decide +kernel
theorem dX8_sign_49 : decode cX8_sign 49 = .ok (.aload 6, 2) := by decide +kernel
theorem dX8_sign_51 : decode cX8_sign 51 = .ok (.iload_n 3, 1) := by decide +kernel
theorem dX8_sign_52 : decode cX8_sign 52 = .ok (.invokevirtual 248, 3) := by decide +kernel
theorem dX8_sign_55 : decode cX8_sign 55 = .ok (.aload_n 0, 1) := by decide +kernel
theorem dX8_sign_56 : decode cX8_sign 56 = .ok (.getfield 50, 3) := by decide +kernel
theorem dX8_sign_59 : decode cX8_sign 59 = .ok (.iload 4, 2) := by decide +kernel
theorem dX8_sign_61 : decode cX8_sign 61 = .ok (.invokevirtual 252, 3) := by decide +kernel
theorem dX8_sign_64 : decode cX8_sign 64 = .ok (.ireturn, 1) := by decide +kernel
theorem dX8_signAnew_0 : decode cX8_signAnew 0 = .ok (.aload_n 0, 1) := by decide +kernel
theorem dX8_signAnew_1 : decode cX8_signAnew 1 = .ok (.iload_n 1, 1) := by decide +kernel
theorem dX8_signAnew_2 : decode cX8_signAnew 2 = .ok (.invokevirtual 188, 3) := by decide +kernel
theorem dX8_signAnew_5 : decode cX8_signAnew 5 = .ok (.astore 5, 2) := by decide +kernel
theorem dX8_signAnew_7 : decode cX8_signAnew 7 = .ok (.aload_n 0, 1) := by decide +kernel
theorem dX8_signAnew_8 : decode cX8_signAnew 8 = .ok (.iload_n 2, 1) := by decide +kernel
theorem dX8_signAnew_9 : decode cX8_signAnew 9 = .ok (.invokevirtual 214, 3) := by decide +kernel
theorem dX8_signAnew_12 : decode cX8_signAnew 12 = .ok (.astore 6, 2) := by decide +kernel
theorem dX8_signAnew_14 : decode cX8_signAnew 14 = .ok (.aload 5, 2) := by decide +kernel
theorem dX8_signAnew_16 : decode cX8_signAnew 16 = .ok (.ifnull 20, 3) := by decide +kernel
theorem dX8_signAnew_19 : decode cX8_signAnew 19 = .ok (.aload 6, 2) := by decide +kernel
theorem dX8_signAnew_21 : decode cX8_signAnew 21 = .ok (.ifnull 15, 3) := by decide +kernel
theorem dX8_signAnew_24 : decode cX8_signAnew 24 = .ok (.iload_n 3, 1) := by decide +kernel
theorem dX8_signAnew_25 : decode cX8_signAnew 25 = .ok (.invokestatic 92, 3) := by decide +kernel
theorem dX8_signAnew_28 : decode cX8_signAnew 28 = .ok (.ifCond .eq 8, 3) := by decide +kernel
theorem dX8_signAnew_31 : decode cX8_signAnew 31 = .ok (.iload 4, 2) := by decide +kernel
theorem dX8_signAnew_33 : decode cX8_signAnew 33 = .ok (.ifCond .ge 13, 3) := by decide +kernel
theorem dX8_signAnew_36 : decode cX8_signAnew 36 = .ok (.new 99, 3) := by decide +kernel
theorem dX8_signAnew_39 : decode cX8_signAnew 39 = .ok (.dup, 1) := by decide +kernel
theorem dX8_signAnew_40 : decode cX8_signAnew 40 = .ok (.ldc 246, 2) := by decide +kernel
theorem dX8_signAnew_42 : decode cX8_signAnew 42 = .ok (.invokespecial 103, 3) := by decide +kernel
theorem dX8_signAnew_45 : decode cX8_signAnew 45 = .ok (.athrow, 1) := by decide +kernel
theorem dX8_signAnew_46 : decode cX8_signAnew 46 = .ok (.aload_n 0, 1) := by decide +kernel
theorem dX8_signAnew_47 : decode cX8_signAnew 47 = .ok (.getfield 57, 3) := by decide +kernel
theorem dX8_signAnew_50 : decode cX8_signAnew 50 = .ok (.iload 4, 2) := by decide +kernel
theorem dX8_signAnew_52 : decode cX8_signAnew 52 = .ok (.invokevirtual 255, 3) := by decide +kernel
theorem dX8_signAnew_55 : decode cX8_signAnew 55 = .ok (.aload_n 0, 1) := by decide +kernel
theorem dX8_signAnew_56 : decode cX8_signAnew 56 = .ok (.aload 5, 2) := by decide +kernel
theorem dX8_signAnew_58 : decode cX8_signAnew 58 = .ok (.aload 6, 2) := by decide +kernel
theorem dX8_signAnew_60 : decode cX8_signAnew 60 = .ok (.iload_n 3, 1) := by decide +kernel
theorem dX8_signAnew_61 : decode cX8_signAnew 61 = .ok (.invokevirtual 258, 3) := by decide +kernel
theorem dX8_signAnew_64 : decode cX8_signAnew 64 = .ok (.aload_n 0, 1) := by decide +kernel
theorem dX8_signAnew_65 : decode cX8_signAnew 65 = .ok (.getfield 57, 3) := by decide +kernel
theorem dX8_signAnew_68 : decode cX8_signAnew 68 = .ok (.invokevirtual 261, 3) := by decide +kernel
theorem dX8_signAnew_71 : decode cX8_signAnew 71 = .ok (.ireturn, 1) := by decide +kernel
theorem dX8_costs_0 : decode cX8_costs 0 = .ok (.aload_n 0, 1) := by decide +kernel
theorem dX8_costs_1 : decode cX8_costs 1 = .ok (.iload_n 1, 1) := by decide +kernel
