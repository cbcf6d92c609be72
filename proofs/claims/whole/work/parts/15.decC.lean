theorem dX0_init_0 : decode cX0_init 0 = .ok (.aload_n 0, 1) := by decide +kernel
theorem dX0_init_1 : decode cX0_init 1 = .ok (.invokespecial 1, 3) := by decide +kernel
theorem dX0_init_4 : decode cX0_init 4 = .ok (.aload_n 0, 1) := by decide +kernel
theorem dX0_init_5 : decode cX0_init 5 = .ok (.iconst 0, 1) := by decide +kernel
theorem dX0_init_6 : decode cX0_init 6 = .ok (.putfield 9, 3) := by decide +kernel
theorem dX0_init_9 : decode cX0_init 9 = .ok (.aload_n 0, 1) := by decide +kernel
theorem dX0_init_10 : decode cX0_init 10 = .ok (.iconst (-1), 1) := by decide +kernel
theorem dX0_init_11 : decode cX0_init 11 = .ok (.putfield 13, 3) := by decide +kernel
theorem dX0_init_14 : decode cX0_init 14 = .ok (.aload_n 0, 1) := by decide +kernel
theorem dX0_init_15 : decode cX0_init 15 = .ok (.new 16, 3) := by decide +kernel
theorem dX0_init_18 : decode cX0_init 18 = .ok (.dup, 1) := by decide +kernel
theorem dX0_init_19 : decode cX0_init 19 = .ok (.invokespecial 18, 3) := by decide +kernel
theorem dX0_init_22 : decode cX0_init 22 = .ok (.putfield 19, 3) := by decide +kernel
theorem dX0_init_25 : decode cX0_init 25 = .ok (.return_, 1) := by decide +kernel
theorem dX0_isPossible_0 : decode cX0_isPossible 0 = .ok (.aload_n 0, 1) := by decide +kernel
theorem dX0_isPossible_1 : decode cX0_isPossible 1 = .ok (.getfield 9, 3) := by decide +kernel
theorem dX0_isPossible_4 : decode cX0_isPossible 4 = .ok (.lookupswitch 58 #[(1, 28), (2, 43)], 28) := by decide +kernel
theorem dX0_isPossible_32 : decode cX0_isPossible 32 = .ok (.aload_n 0, 1) := by decide +kernel
theorem dX0_isPossible_33 : decode cX0_isPossible 33 = .ok (.getfield 23, 3) := by decide +kernel
theorem dX0_isPossible_36 : decode cX0_isPossible 36 = .ok (.bipush 99, 2) := by decide +kernel
theorem dX0_isPossible_38 : decode cX0_isPossible 38 = .ok (.if_icmp .gt 7, 3) := by decide +kernel
theorem dX0_isPossible_41 : decode cX0_isPossible 41 = .ok (.iconst 1, 1) := by decide +kernel
theorem dX0_isPossible_42 : decode cX0_isPossible 42 = .ok (.goto 4, 3) := by decide +kernel
theorem dX0_isPossible_45 : decode cX0_isPossible 45 = .ok (.iconst 0, 1) := by decide +kernel
theorem dX0_isPossible_46 : decode cX0_isPossible 46 = .ok (.ireturn, 1) := by decide +kernel
theorem dX0_isPossible_47 : decode cX0_isPossible 47 = .ok (.aload_n 0, 1) := by decide +kernel
theorem dX0_isPossible_48 : decode cX0_isPossible 48 = .ok (.getfield 23, 3) := by decide +kernel
theorem dX0_isPossible_51 : decode cX0_isPossible 51 = .ok (.bipush 50, 2) := by decide +kernel
theorem dX0_isPossible_53 : decode cX0_isPossible 53 = .ok (.if_icmp .gt 7, 3) := by decide +kernel
theorem dX0_isPossible_56 : decode cX0_isPossible 56 = .ok (.iconst 1, 1) := by decide +kernel
theorem dX0_isPossible_57 : decode cX0_isPossible 57 = .ok (.goto 4, 3) := by decide +kernel
theorem dX0_isPossible_60 : decode cX0_isPossible 60 = .ok (.iconst 0, 1) := by decide +kernel
theorem dX0_isPossible_61 : decode cX0_isPossible 61 = .ok (.ireturn, 1) := by decide +kernel
theorem dX0_isPossible_62 : decode cX0_isPossible 62 = .ok (.iconst 1, 1) := by decide +kernel
theorem dX0_isPossible_63 : decode cX0_isPossible 63 = .ok (.ireturn, 1) := by decide +kernel
theorem dX0_addTest_0 : decode cX0_addTest 0 = .ok (.aload_n 0, 1) := by decide +kernel
theorem dX0_addTest_1 : decode cX0_addTest 1 = .ok (.getfield 19, 3) := by decide +kernel
theorem dX0_addTest_4 : decode cX0_addTest 4 = .ok (.aload_n 1, 1) := by decide +kernel
theorem dX0_addTest_5 : decode cX0_addTest 5 = .ok (.invokevirtual 26, 3) := by decide +kernel
theorem dX0_addTest_8 : decode cX0_addTest 8 = .ok (.pop, 1) := by decide +kernel
theorem dX0_addTest_9 : decode cX0_addTest 9 = .ok (.aload_n 1, 1) := by decide +kernel
theorem dX0_addTest_10 : decode cX0_addTest 10 = .ok (.getfield 30, 3) := by decide +kernel
theorem dX0_addTest_13 : decode cX0_addTest 13 = .ok (.ifCond .eq 13, 3) := by decide +kernel
theorem dX0_addTest_16 : decode cX0_addTest 16 = .ok (.aload_n 0, 1) := by decide +kernel
theorem dX0_addTest_17 : decode cX0_addTest 17 = .ok (.dup, 1) := by decide +kernel
theorem dX0_addTest_18 : decode cX0_addTest 18 = .ok (.getfield 36, 3) := by decide +kernel
theorem dX0_addTest_21 : decode cX0_addTest 21 = .ok (.iconst 1, 1) := by decide +kernel
theorem dX0_addTest_22 : decode cX0_addTest 22 = .ok (.iadd, 1) := by decide +kernel
theorem dX0_addTest_23 : decode cX0_addTest 23 = .ok (.putfield 36, 3) := by decide +kernel
theorem dX0_addTest_26 : decode cX0_addTest 26 = .ok (.return_, 1) := by decide +kernel
theorem dX0_applies_0 : decode cX0_applies 0 = .ok (.aload_n 0, 1) := by decide +kernel
theorem dX0_applies_1 : decode cX0_applies 1 = .ok (.getfield 19, 3) := by decide +kernel
theorem dX0_applies_4 : decode cX0_applies 4 = .ok (.invokevirtual 39, 3) := by decide +kernel
theorem dX0_applies_7 : decode cX0_applies 7 = .ok (.istore_n 2, 1) := by decide +kernel
theorem dX0_applies_8 : decode cX0_applies 8 = .ok (.iconst 0, 1) := by decide +kernel
theorem dX0_applies_9 : decode cX0_applies 9 = .ok (.istore_n 3, 1) := by decide +kernel
theorem dX0_applies_10 : decode cX0_applies 10 = .ok (.iload_n 3, 1) := by decide +kernel
theorem dX0_applies_11 : decode cX0_applies 11 = .ok (.aload_n 0, 1) := by decide +kernel
theorem dX0_applies_12 : decode cX0_applies 12 = .ok (.getfield 19, 3) := by decide +kernel
theorem dX0_applies_15 : decode cX0_applies 15 = .ok (.invokevirtual 43, 3) := by decide +kernel
theorem dX0_applies_18 : decode cX0_applies 18 = .ok (.if_icmp .ge 57, 3) := by decide +kernel
theorem dX0_applies_21 : decode cX0_applies 21 = .ok (.aload_n 0, 1) := by decide +kernel
theorem dX0_applies_22 : decode cX0_applies 22 = .ok (.getfield 19, 3) := by decide +kernel
theorem dX0_applies_25 : decode cX0_applies 25 = .ok (.iload_n 3, 1) := by decide +kernel
theorem dX0_applies_26 : decode cX0_applies 26 = .ok (.invokevirtual 47, 3) := by decide +kernel
theorem dX0_applies_29 : decode cX0_applies 29 = .ok (.checkcast 31, 3) := by decide +kernel
theorem dX0_applies_32 : decode cX0_applies 32 = .ok (.astore 4, 2) := by decide +kernel
theorem dX0_applies_34 : decode cX0_applies 34 = .ok (.aload 4, 2) := by decide +kernel
theorem dX0_applies_36 : decode cX0_applies 36 = .ok (.getfield 30, 3) := by decide +kernel
theorem dX0_applies_39 : decode cX0_applies 39 = .ok (.ifCond .eq 11, 3) := by decide +kernel
theorem dX0_applies_42 : decode cX0_applies 42 = .ok (.iload_n 2, 1) := by decide +kernel
theorem dX0_applies_43 : decode cX0_applies 43 = .ok (.ifCond .eq 5, 3) := by decide +kernel
theorem dX0_applies_46 : decode cX0_applies 46 = .ok (.iconst 1, 1) := by decide +kernel
theorem dX0_applies_47 : decode cX0_applies 47 = .ok (.ireturn, 1) := by decide +kernel
theorem dX0_applies_48 : decode cX0_applies 48 = .ok (.iconst 1, 1) := by decide +kernel
theorem dX0_applies_49 : decode cX0_applies 49 = .ok (.istore_n 2, 1) := by decide +kernel
theorem dX0_applies_50 : decode cX0_applies 50 = .ok (.iload_n 2, 1) := by decide +kernel
theorem dX0_applies_51 : decode cX0_applies 51 = .ok (.ifCond .eq 16, 3) := by decide +kernel
theorem dX0_applies_54 : decode cX0_applies 54 = .ok (.aload 4, 2) := by decide +kernel
theorem dX0_applies_56 : decode cX0_applies 56 = .ok (.aload_n 1, 1) := by decide +kernel
theorem dX0_applies_57 : decode cX0_applies 57 = .ok (.invokevirtual 51, 3) := by decide +kernel
theorem dX0_applies_60 : decode cX0_applies 60 = .ok (.ifCond .eq 7, 3) := by decide +kernel
theorem dX0_applies_63 : decode cX0_applies 63 = .ok (.iconst 1, 1) := by decide +kernel
theorem dX0_applies_64 : decode cX0_applies 64 = .ok (.goto 4, 3) := by decide +kernel
theorem dX0_applies_67 : decode cX0_applies 67 = .ok (.iconst 0, 1) := by decide +kernel
theorem dX0_applies_68 : decode cX0_applies 68 = .ok (.istore_n 2, 1) := by decide +kernel
theorem dX0_applies_69 : decode cX0_applies 69 = .ok (.iinc 3 1, 3) := by decide +kernel
theorem dX0_applies_72 : decode cX0_applies 72 = .ok (.goto (-62), 3) := by decide +kernel
theorem dX0_applies_75 : decode cX0_applies 75 = .ok (.iload_n 2, 1) := by decide +kernel
theorem dX0_applies_76 : decode cX0_applies 76 = .ok (.ireturn, 1) := by decide +kernel
theorem dX0_amountFor_0 : decode cX0_amountFor 0 = .ok (.aload_n 0, 1) := by decide +kernel
theorem dX0_amountFor_1 : decode cX0_amountFor 1 = .ok (.getfield 9, 3) := by decide +kernel
theorem dX0_amountFor_4 : decode cX0_amountFor 4 = .ok (.lookupswitch 44 #[(1, 28), (2, 35)], 28) := by decide +kernel
theorem dX0_amountFor_32 : decode cX0_amountFor 32 = .ok (.aload_n 0, 1) := by decide +kernel
theorem dX0_amountFor_33 : decode cX0_amountFor 33 = .ok (.getfield 23, 3) := by decide +kernel
theorem dX0_amountFor_36 : decode cX0_amountFor 36 = .ok (.iload_n 2, 1) := by decide +kernel
theorem dX0_amountFor_37 : decode cX0_amountFor 37 = .ok (.imul, 1) := by decide +kernel
theorem dX0_amountFor_38 : decode cX0_amountFor 38 = .ok (.ireturn, 1) := by decide +kernel
theorem dX0_amountFor_39 : decode cX0_amountFor 39 = .ok (.iload_n 1, 1) := by decide +kernel
theorem dX0_amountFor_40 : decode cX0_amountFor 40 = .ok (.aload_n 0, 1) := by decide +kernel
theorem dX0_amountFor_41 : decode cX0_amountFor 41 = .ok (.getfield 23, 3) := by decide +kernel
theorem dX0_amountFor_44 : decode cX0_amountFor 44 = .ok (.invokestatic 55, 3) := by decide +kernel
theorem dX0_amountFor_47 : decode cX0_amountFor 47 = .ok (.ireturn, 1) := by decide +kernel
theorem dX0_amountFor_48 : decode cX0_amountFor 48 = .ok (.aload_n 0, 1) := by decide +kernel
theorem dX0_amountFor_49 : decode cX0_amountFor 49 = .ok (.getfield 23, 3) := by decide +kernel
theorem dX0_amountFor_52 : decode cX0_amountFor 52 = .ok (.ireturn, 1) := by decide +kernel
theorem dX0_appendTo_0 : decode cX0_appendTo 0 = .ok (.aload_n 1, 1) := by decide +kernel
theorem dX0_appendTo_1 : decode cX0_appendTo 1 = .ok (.aload_n 0, 1) := by decide +kernel
theorem dX0_appendTo_2 : decode cX0_appendTo 2 = .ok (.getfield 23, 3) := by decide +kernel
theorem dX0_appendTo_5 : decode cX0_appendTo 5 = .ok (.invokevirtual 61, 3) := by decide +kernel
theorem dX0_appendTo_8 : decode cX0_appendTo 8 = .ok (.pop, 1) := by decide +kernel
theorem dX0_appendTo_9 : decode cX0_appendTo 9 = .ok (.aload_n 0, 1) := by decide +kernel
theorem dX0_appendTo_10 : decode cX0_appendTo 10 = .ok (.getfield 9, 3) := by decide +kernel
theorem dX0_appendTo_13 : decode cX0_appendTo 13 = .ok (.iconst 2, 1) := by decide +kernel
theorem dX0_appendTo_14 : decode cX0_appendTo 14 = .ok (.if_icmp .ne 13, 3) := by decide +kernel
theorem dX0_appendTo_17 : decode cX0_appendTo 17 = .ok (.aload_n 1, 1) := by decide +kernel
theorem dX0_appendTo_18 : decode cX0_appendTo 18 = .ok (.bipush 37, 2) := by decide +kernel
theorem dX0_appendTo_20 : decode cX0_appendTo 20 = .ok (.invokevirtual 67, 3) := by decide +kernel
theorem dX0_appendTo_23 : decode cX0_appendTo 23 = .ok (.pop, 1) := by decide +kernel
theorem dX0_appendTo_24 : decode cX0_appendTo 24 = .ok (.goto 18, 3) := by decide +kernel
theorem dX0_appendTo_27 : decode cX0_appendTo 27 = .ok (.aload_n 0, 1) := by decide +kernel
theorem dX0_appendTo_28 : decode cX0_appendTo 28 = .ok (.getfield 9, 3) := by decide +kernel
theorem dX0_appendTo_31 : decode cX0_appendTo 31 = .ok (.iconst 1, 1) := by decide +kernel
theorem dX0_appendTo_32 : decode cX0_appendTo 32 = .ok (.if_icmp .ne 10, 3) := by decide +kernel
theorem dX0_appendTo_35 : decode cX0_appendTo 35 = .ok (.aload_n 1, 1) := by decide +kernel
theorem dX0_appendTo_36 : decode cX0_appendTo 36 = .ok (.bipush 42, 2) := by decide +kernel
theorem dX0_appendTo_38 : decode cX0_appendTo 38 = .ok (.invokevirtual 67, 3) := by decide +kernel
theorem dX0_appendTo_41 : decode cX0_appendTo 41 = .ok (.pop, 1) := by decide +kernel
theorem dX0_appendTo_42 : decode cX0_appendTo 42 = .ok (.iconst 0, 1) := by decide +kernel
theorem dX0_appendTo_43 : decode cX0_appendTo 43 = .ok (.istore_n 2, 1) := by decide +kernel
theorem dX0_appendTo_44 : decode cX0_appendTo 44 = .ok (.iload_n 2, 1) := by decide +kernel
theorem dX0_appendTo_45 : decode cX0_appendTo 45 = .ok (.aload_n 0, 1) := by decide +kernel
theorem dX0_appendTo_46 : decode cX0_appendTo 46 = .ok (.getfield 19, 3) := by decide +kernel
theorem dX0_appendTo_49 : decode cX0_appendTo 49 = .ok (.invokevirtual 43, 3) := by decide +kernel
theorem dX0_appendTo_52 : decode cX0_appendTo 52 = .ok (.if_icmp .ge 54, 3) := by decide +kernel
theorem dX0_appendTo_55 : decode cX0_appendTo 55 = .ok (.aload_n 0, 1) := by decide +kernel
theorem dX0_appendTo_56 : decode cX0_appendTo 56 = .ok (.getfield 19, 3) := by decide +kernel
theorem dX0_appendTo_59 : decode cX0_appendTo 59 = .ok (.iload_n 2, 1) := by decide +kernel
theorem dX0_appendTo_60 : decode cX0_appendTo 60 = .ok (.invokevirtual 47, 3) := by decide +kernel
theorem dX0_appendTo_63 : decode cX0_appendTo 63 = .ok (.checkcast 31, 3) := by decide +kernel
theorem dX0_appendTo_66 : decode cX0_appendTo 66 = .ok (.astore_n 3, 1) := by decide +kernel
theorem dX0_appendTo_67 : decode cX0_appendTo 67 = .ok (.aload_n 1, 1) := by decide +kernel
theorem dX0_appendTo_68 : decode cX0_appendTo 68 = .ok (.iload_n 2, 1) := by decide +kernel
theorem dX0_appendTo_69 : decode cX0_appendTo 69 = .ok (.ifCond .ne 8, 3) := by decide +kernel
theorem dX0_appendTo_72 : decode cX0_appendTo 72 = .ok (.bipush 63, 2) := by decide +kernel
theorem dX0_appendTo_74 : decode cX0_appendTo 74 = .ok (.goto 17, 3) := by decide +kernel
theorem dX0_appendTo_77 : decode cX0_appendTo 77 = .ok (.aload_n 3, 1) := by decide +kernel
theorem dX0_appendTo_78 : decode cX0_appendTo 78 = .ok (.getfield 30, 3) := by decide +kernel
theorem dX0_appendTo_81 : decode cX0_appendTo 81 = .ok (.ifCond .eq 8, 3) := by decide +kernel
theorem dX0_appendTo_84 : decode cX0_appendTo 84 = .ok (.bipush 124, 2) := by decide +kernel
theorem dX0_appendTo_86 : decode cX0_appendTo 86 = .ok (.goto 5, 3) := by decide +kernel
theorem dX0_appendTo_89 : decode cX0_appendTo 89 = .ok (.bipush 38, 2) := by decide +kernel
theorem dX0_appendTo_91 : decode cX0_appendTo 91 = .ok (.invokevirtual 67, 3) := by decide +kernel
theorem dX0_appendTo_94 : decode cX0_appendTo 94 = .ok (.pop, 1) := by decide +kernel
theorem dX0_appendTo_95 : decode cX0_appendTo 95 = .ok (.aload_n 3, 1) := by decide +kernel
theorem dX0_appendTo_96 : decode cX0_appendTo 96 = .ok (.aload_n 1, 1) := by decide +kernel
theorem dX0_appendTo_97 : decode cX0_appendTo 97 = .ok (.invokevirtual 70, 3) := by decide +kernel
theorem dX0_appendTo_100 : decode cX0_appendTo 100 = .ok (.iinc 2 1, 3) := by decide +kernel
theorem dX0_appendTo_103 : decode cX0_appendTo 103 = .ok (.goto (-59), 3) := by decide +kernel
theorem dX0_appendTo_106 : decode cX0_appendTo 106 = .ok (.aload_n 0, 1) := by decide +kernel
theorem dX0_appendTo_107 : decode cX0_appendTo 107 = .ok (.getfield 13, 3) := by decide +kernel
theorem dX0_appendTo_110 : decode cX0_appendTo 110 = .ok (.ifCond .lt 17, 3) := by decide +kernel
theorem dX0_appendTo_113 : decode cX0_appendTo 113 = .ok (.aload_n 1, 1) := by decide +kernel
theorem dX0_appendTo_114 : decode cX0_appendTo 114 = .ok (.bipush 33, 2) := by decide +kernel
theorem dX0_appendTo_116 : decode cX0_appendTo 116 = .ok (.invokevirtual 67, 3) := by decide +kernel
theorem dX0_appendTo_119 : decode cX0_appendTo 119 = .ok (.aload_n 0, 1) := by decide +kernel
theorem dX0_appendTo_120 : decode cX0_appendTo 120 = .ok (.getfield 13, 3) := by decide +kernel
theorem dX0_appendTo_123 : decode cX0_appendTo 123 = .ok (.invokevirtual 61, 3) := by decide +kernel
theorem dX0_appendTo_126 : decode cX0_appendTo 126 = .ok (.pop, 1) := by decide +kernel
theorem dX0_appendTo_127 : decode cX0_appendTo 127 = .ok (.return_, 1) := by decide +kernel
theorem dX1_init_0 : decode cX1_init 0 = .ok (.aload_n 0, 1) := by decide +kernel
theorem dX1_init_1 : decode cX1_init 1 = .ok (.invokespecial 3, 3) := by decide +kernel
theorem dX1_init_4 : decode cX1_init 4 = .ok (.aload_n 0, 1) := by decide +kernel
theorem dX1_init_5 : decode cX1_init 5 = .ok (.sipush 256, 3) := by decide +kernel
theorem dX1_init_8 : decode cX1_init 8 = .ok (.newarray .int, 2) := by decide +kernel
theorem dX1_init_10 : decode cX1_init 10 = .ok (.putfield 11, 3) := by decide +kernel
theorem dX1_init_13 : decode cX1_init 13 = .ok (.aload_n 0, 1) := by decide +kernel
theorem dX1_init_14 : decode cX1_init 14 = .ok (.sipush 256, 3) := by decide +kernel
theorem dX1_init_17 : decode cX1_init 17 = .ok (.newarray .int, 2) := by decide +kernel
theorem dX1_init_19 : decode cX1_init 19 = .ok (.putfield 15, 3) := by decide +kernel
theorem dX1_init_22 : decode cX1_init 22 = .ok (.aload_n 0, 1) := by decide +kernel
theorem dX1_init_23 : decode cX1_init 23 = .ok (.sipush 256, 3) := by decide +kernel
theorem dX1_init_26 : decode cX1_init 26 = .ok (.newarray .int, 2) := by decide +kernel
theorem dX1_init_28 : decode cX1_init 28 = .ok (.putfield 18, 3) := by decide +kernel
theorem dX1_init_31 : decode cX1_init 31 = .ok (.aload_n 0, 1) := by decide +kernel
theorem dX1_init_32 : decode cX1_init 32 = .ok (.sipush 256, 3) := by decide +kernel
theorem dX1_init_35 : decode cX1_init 35 = .ok (.newarray .int, 2) := by decide +kernel
theorem dX1_init_37 : decode cX1_init 37 = .ok (.putfield 21, 3) := by decide +kernel
theorem dX1_init_40 : decode cX1_init 40 = .ok (.aload_n 0, 1) := by decide +kernel
theorem dX1_init_41 : decode cX1_init 41 = .ok (.sipush 256, 3) := by decide +kernel
theorem dX1_init_44 : decode cX1_init 44 = .ok (.newarray .int, 2) := by decide +kernel
theorem dX1_init_46 : decode cX1_init 46 = .ok (.putfield 24, 3) := by decide +kernel
theorem dX1_init_49 : decode cX1_init 49 = .ok (.aload_n 0, 1) := by decide +kernel
theorem dX1_init_50 : decode cX1_init 50 = .ok (.bipush 8, 2) := by decide +kernel
theorem dX1_init_52 : decode cX1_init 52 = .ok (.newarray .int, 2) := by decide +kernel
theorem dX1_init_54 : decode cX1_init 54 = .ok (.putfield 27, 3) := by decide +kernel
theorem dX1_init_57 : decode cX1_init 57 = .ok (.return_, 1) := by decide +kernel
theorem dX1_prepare_0 : decode cX1_prepare 0 = .ok (.aload_n 0, 1) := by decide +kernel
theorem dX1_prepare_1 : decode cX1_prepare 1 = .ok (.iconst 0, 1) := by decide +kernel
theorem dX1_prepare_2 : decode cX1_prepare 2 = .ok (.putfield 30, 3) := by decide +kernel
theorem dX1_prepare_5 : decode cX1_prepare 5 = .ok (.iconst 0, 1) := by decide +kernel
theorem dX1_prepare_6 : decode cX1_prepare 6 = .ok (.istore 4, 2) := by decide +kernel
theorem dX1_prepare_8 : decode cX1_prepare 8 = .ok (.iload 4, 2) := by decide +kernel
theorem dX1_prepare_10 : decode cX1_prepare 10 = .ok (.bipush 10, 2) := by decide +kernel
theorem dX1_prepare_12 : decode cX1_prepare 12 = .ok (.if_icmp .ge 33, 3) := by decide +kernel
theorem dX1_prepare_15 : decode cX1_prepare 15 = .ok (.aload_n 0, 1) := by decide +kernel
theorem dX1_prepare_16 : decode cX1_prepare 16 = .ok (.getfield 30, 3) := by decide +kernel
theorem dX1_prepare_19 : decode cX1_prepare 19 = .ok (.bipush 8, 2) := by decide +kernel
theorem dX1_prepare_21 : decode cX1_prepare 21 = .ok (.if_icmp .ge 24, 3) := by decide +kernel
theorem dX1_prepare_24 : decode cX1_prepare 24 = .ok (.iload_n 2, 1) := by decide +kernel
theorem dX1_prepare_25 : decode cX1_prepare 25 = .ok (.iload 4, 2) := by decide +kernel
theorem dX1_prepare_27 : decode cX1_prepare 27 = .ok (.invokestatic 36, 3) := by decide +kernel
theorem dX1_prepare_30 : decode cX1_prepare 30 = .ok (.ifCond .eq 9, 3) := by decide +kernel
theorem dX1_prepare_33 : decode cX1_prepare 33 = .ok (.aload_n 0, 1) := by decide +kernel
theorem dX1_prepare_34 : decode cX1_prepare 34 = .ok (.iload 4, 2) := by decide +kernel
theorem dX1_prepare_36 : decode cX1_prepare 36 = .ok (.invokevirtual 40, 3) := by decide +kernel
theorem dX1_prepare_39 : decode cX1_prepare 39 = .ok (.iinc 4 1, 3) := by decide +kernel
theorem dX1_prepare_42 : decode cX1_prepare 42 = .ok (.goto (-34), 3) := by decide +kernel
theorem dX1_prepare_45 : decode cX1_prepare 45 = .ok (.iconst 1, 1) := by decide +kernel
theorem dX1_prepare_46 : decode cX1_prepare 46 = .ok (.istore 4, 2) := by decide +kernel
theorem dX1_prepare_48 : decode cX1_prepare 48 = .ok (.iload 4, 2) := by decide +kernel
theorem dX1_prepare_50 : decode cX1_prepare 50 = .ok (.iconst 1, 1) := by decide +kernel
theorem dX1_prepare_51 : decode cX1_prepare 51 = .ok (.aload_n 0, 1) := by decide +kernel
theorem dX1_prepare_52 : decode cX1_prepare 52 = .ok (.getfield 30, 3) := by decide +kernel
theorem dX1_prepare_55 : decode cX1_prepare 55 = .ok (.ishl, 1) := by decide +kernel
theorem dX1_prepare_56 : decode cX1_prepare 56 = .ok (.if_icmp .ge 43, 3) := by decide +kernel
theorem dX1_prepare_59 : decode cX1_prepare 59 = .ok (.aload_n 3, 1) := by decide +kernel
theorem dX1_prepare_60 : decode cX1_prepare 60 = .ok (.aload_n 1, 1) := by decide +kernel
theorem dX1_prepare_61 : decode cX1_prepare 61 = .ok (.aload_n 0, 1) := by decide +kernel
theorem dX1_prepare_62 : decode cX1_prepare 62 = .ok (.getfield 11, 3) := by decide +kernel
theorem dX1_prepare_65 : decode cX1_prepare 65 = .ok (.iload 4, 2) := by decide +kernel
theorem dX1_prepare_67 : decode cX1_prepare 67 = .ok (.iaload, 1) := by decide +kernel
theorem dX1_prepare_68 : decode cX1_prepare 68 = .ok (.invokevirtual 44, 3) := by decide +kernel
theorem dX1_prepare_71 : decode cX1_prepare 71 = .ok (.aload_n 0, 1) := by decide +kernel
theorem dX1_prepare_72 : decode cX1_prepare 72 = .ok (.getfield 15, 3) := by decide +kernel
theorem dX1_prepare_75 : decode cX1_prepare 75 = .ok (.iload 4, 2) := by decide +kernel
theorem dX1_prepare_77 : decode cX1_prepare 77 = .ok (.aload_n 3, 1) := by decide +kernel
theorem dX1_prepare_78 : decode cX1_prepare 78 = .ok (.getfield 50, 3) := by decide +kernel
theorem dX1_prepare_81 : decode cX1_prepare 81 = .ok (.ifCond .ne 10, 3) := by decide +kernel
theorem dX1_prepare_84 : decode cX1_prepare 84 = .ok (.aload_n 3, 1) := by decide +kernel
theorem dX1_prepare_85 : decode cX1_prepare 85 = .ok (.invokevirtual 53, 3) := by decide +kernel
theorem dX1_prepare_88 : decode cX1_prepare 88 = .ok (.goto 4, 3) := by decide +kernel
theorem dX1_prepare_91 : decode cX1_prepare 91 = .ok (.iconst (-1), 1) := by decide +kernel
theorem dX1_prepare_92 : decode cX1_prepare 92 = .ok (.iastore, 1) := by decide +kernel
theorem dX1_prepare_93 : decode cX1_prepare 93 = .ok (.iinc 4 1, 3) := by decide +kernel
theorem dX1_prepare_96 : decode cX1_prepare 96 = .ok (.goto (-48), 3) := by decide +kernel
theorem dX1_prepare_99 : decode cX1_prepare 99 = .ok (.return_, 1) := by decide +kernel
theorem dX1_addMember_0 : decode cX1_addMember 0 = .ok (.iconst 1, 1) := by decide +kernel
theorem dX1_addMember_1 : decode cX1_addMember 1 = .ok (.aload_n 0, 1) := by decide +kernel
theorem dX1_addMember_2 : decode cX1_addMember 2 = .ok (.getfield 30, 3) := by decide +kernel
theorem dX1_addMember_5 : decode cX1_addMember 5 = .ok (.ishl, 1) := by decide +kernel
theorem dX1_addMember_6 : decode cX1_addMember 6 = .ok (.istore_n 2, 1) := by decide +kernel
theorem dX1_addMember_7 : decode cX1_addMember 7 = .ok (.iconst 0, 1) := by decide +kernel
theorem dX1_addMember_8 : decode cX1_addMember 8 = .ok (.istore_n 3, 1) := by decide +kernel
theorem dX1_addMember_9 : decode cX1_addMember 9 = .ok (.iload_n 3, 1) := by decide +kernel
theorem dX1_addMember_10 : decode cX1_addMember 10 = .ok (.iload_n 2, 1) := by decide +kernel
theorem dX1_addMember_11 : decode cX1_addMember 11 = .ok (.if_icmp .ge 27, 3) := by decide +kernel
theorem dX1_addMember_14 : decode cX1_addMember 14 = .ok (.aload_n 0, 1) := by decide +kernel
theorem dX1_addMember_15 : decode cX1_addMember 15 = .ok (.getfield 11, 3) := by decide +kernel
theorem dX1_addMember_18 : decode cX1_addMember 18 = .ok (.iload_n 2, 1) := by decide +kernel
theorem dX1_addMember_19 : decode cX1_addMember 19 = .ok (.iload_n 3, 1) := by decide +kernel
theorem dX1_addMember_20 : decode cX1_addMember 20 = .ok (.iadd, 1) := by decide +kernel
theorem dX1_addMember_21 : decode cX1_addMember 21 = .ok (.aload_n 0, 1) := by decide +kernel
theorem dX1_addMember_22 : decode cX1_addMember 22 = .ok (.getfield 11, 3) := by decide +kernel
theorem dX1_addMember_25 : decode cX1_addMember 25 = .ok (.iload_n 3, 1) := by decide +kernel
theorem dX1_addMember_26 : decode cX1_addMember 26 = .ok (.iaload, 1) := by decide +kernel
theorem dX1_addMember_27 : decode cX1_addMember 27 = .ok (.iconst 1, 1) := by decide +kernel
theorem dX1_addMember_28 : decode cX1_addMember 28 = .ok (.iload_n 1, 1) := by decide +kernel
theorem dX1_addMember_29 : decode cX1_addMember 29 = .ok (.ishl, 1) := by decide +kernel
theorem dX1_addMember_30 : decode cX1_addMember 30 = .ok (.ior, 1) := by decide +kernel
theorem dX1_addMember_31 : decode cX1_addMember 31 = .ok (.iastore, 1) := by decide +kernel
theorem dX1_addMember_32 : decode cX1_addMember 32 = .ok (.iinc 3 1, 3) := by decide +kernel
theorem dX1_addMember_35 : decode cX1_addMember 35 = .ok (.goto (-26), 3) := by decide +kernel
theorem dX1_addMember_38 : decode cX1_addMember 38 = .ok (.aload_n 0, 1) := by decide +kernel
theorem dX1_addMember_39 : decode cX1_addMember 39 = .ok (.dup, 1) := by decide +kernel
theorem dX1_addMember_40 : decode cX1_addMember 40 = .ok (.getfield 30, 3) := by decide +kernel
theorem dX1_addMember_43 : decode cX1_addMember 43 = .ok (.iconst 1, 1) := by decide +kernel
theorem dX1_addMember_44 : decode cX1_addMember 44 = .ok (.iadd, 1) := by decide +kernel
theorem dX1_addMember_45 : decode cX1_addMember 45 = .ok (.putfield 30, 3) := by decide +kernel
theorem dX1_addMember_48 : decode cX1_addMember 48 = .ok (.return_, 1) := by decide +kernel
theorem dX1_total_0 : decode cX1_total 0 = .ok (.iconst 0, 1) := by decide +kernel
theorem dX1_total_1 : decode cX1_total 1 = .ok (.istore_n 1, 1) := by decide +kernel
theorem dX1_total_2 : decode cX1_total 2 = .ok (.iconst 0, 1) := by decide +kernel
theorem dX1_total_3 : decode cX1_total 3 = .ok (.istore_n 2, 1) := by decide +kernel
theorem dX1_total_4 : decode cX1_total 4 = .ok (.iload_n 2, 1) := by decide +kernel
theorem dX1_total_5 : decode cX1_total 5 = .ok (.aload_n 0, 1) := by decide +kernel
theorem dX1_total_6 : decode cX1_total 6 = .ok (.getfield 57, 3) := by decide +kernel
theorem dX1_total_9 : decode cX1_total 9 = .ok (.if_icmp .ge 23, 3) := by decide +kernel
theorem dX1_total_12 : decode cX1_total 12 = .ok (.iload_n 1, 1) := by decide +kernel
theorem dX1_total_13 : decode cX1_total 13 = .ok (.aload_n 0, 1) := by decide +kernel
theorem dX1_total_14 : decode cX1_total 14 = .ok (.getfield 15, 3) := by decide +kernel
theorem dX1_total_17 : decode cX1_total 17 = .ok (.aload_n 0, 1) := by decide +kernel
theorem dX1_total_18 : decode cX1_total 18 = .ok (.getfield 27, 3) := by decide +kernel
theorem dX1_total_21 : decode cX1_total 21 = .ok (.iload_n 2, 1) := by decide +kernel
theorem dX1_total_22 : decode cX1_total 22 = .ok (.iaload, 1) := by decide +kernel
theorem dX1_total_23 : decode cX1_total 23 = .ok (.iaload, 1) := by decide +kernel
theorem dX1_total_24 : decode cX1_total 24 = .ok (.iadd, 1) := by decide +kernel
theorem dX1_total_25 : decode cX1_total 25 = .ok (.istore_n 1, 1) := by decide +kernel
theorem dX1_total_26 : decode cX1_total 26 = .ok (.iinc 2 1, 3) := by decide +kernel
theorem dX1_total_29 : decode cX1_total 29 = .ok (.goto (-25), 3) := by decide +kernel
theorem dX1_total_32 : decode cX1_total 32 = .ok (.iload_n 1, 1) := by decide +kernel
theorem dX1_total_33 : decode cX1_total 33 = .ok (.ireturn, 1) := by decide +kernel
theorem dX1_lowestGroup_0 : decode cX1_lowestGroup 0 = .ok (.iconst 0, 1) := by decide +kernel
theorem dX1_lowestGroup_1 : decode cX1_lowestGroup 1 = .ok (.istore_n 1, 1) := by decide +kernel
theorem dX1_lowestGroup_2 : decode cX1_lowestGroup 2 = .ok (.iload_n 1, 1) := by decide +kernel
theorem dX1_lowestGroup_3 : decode cX1_lowestGroup 3 = .ok (.aload_n 0, 1) := by decide +kernel
theorem dX1_lowestGroup_4 : decode cX1_lowestGroup 4 = .ok (.getfield 57, 3) := by decide +kernel
theorem dX1_lowestGroup_7 : decode cX1_lowestGroup 7 = .ok (.if_icmp .ge 34, 3) := by decide +kernel
theorem dX1_lowestGroup_10 : decode cX1_lowestGroup 10 = .ok (.aload_n 0, 1) := by decide +kernel
theorem dX1_lowestGroup_11 : decode cX1_lowestGroup 11 = .ok (.getfield 27, 3) := by decide +kernel
theorem dX1_lowestGroup_14 : decode cX1_lowestGroup 14 = .ok (.iload_n 1, 1) := by decide +kernel
theorem dX1_lowestGroup_15 : decode cX1_lowestGroup 15 = .ok (.iaload, 1) := by decide +kernel
theorem dX1_lowestGroup_16 : decode cX1_lowestGroup 16 = .ok (.iconst 0, 1) := by decide +kernel
theorem dX1_lowestGroup_17 : decode cX1_lowestGroup 17 = .ok (.invokestatic 36, 3) := by decide +kernel
theorem dX1_lowestGroup_20 : decode cX1_lowestGroup 20 = .ok (.ifCond .eq 15, 3) := by decide +kernel
theorem dX1_lowestGroup_23 : decode cX1_lowestGroup 23 = .ok (.aload_n 0, 1) := by decide +kernel
theorem dX1_lowestGroup_24 : decode cX1_lowestGroup 24 = .ok (.getfield 11, 3) := by decide +kernel
theorem dX1_lowestGroup_27 : decode cX1_lowestGroup 27 = .ok (.aload_n 0, 1) := by decide +kernel
theorem dX1_lowestGroup_28 : decode cX1_lowestGroup 28 = .ok (.getfield 27, 3) := by decide +kernel
theorem dX1_lowestGroup_31 : decode cX1_lowestGroup 31 = .ok (.iload_n 1, 1) := by decide +kernel
theorem dX1_lowestGroup_32 : decode cX1_lowestGroup 32 = .ok (.iaload, 1) := by decide +kernel
theorem dX1_lowestGroup_33 : decode cX1_lowestGroup 33 = .ok (.iaload, 1) := by decide +kernel
theorem dX1_lowestGroup_34 : decode cX1_lowestGroup 34 = .ok (.ireturn, 1) := by decide +kernel
theorem dX1_lowestGroup_35 : decode cX1_lowestGroup 35 = .ok (.iinc 1 1, 3) := by decide +kernel
theorem dX1_lowestGroup_38 : decode cX1_lowestGroup 38 = .ok (.goto (-36), 3) := by decide +kernel
theorem dX1_lowestGroup_41 : decode cX1_lowestGroup 41 = .ok (.iconst 0, 1) := by decide +kernel
theorem dX1_lowestGroup_42 : decode cX1_lowestGroup 42 = .ok (.ireturn, 1) := by decide +kernel
theorem dX1_findBest_0 : decode cX1_findBest 0 = .ok (.iconst 1, 1) := by decide +kernel
theorem dX1_findBest_1 : decode cX1_findBest 1 = .ok (.aload_n 0, 1) := by decide +kernel
theorem dX1_findBest_2 : decode cX1_findBest 2 = .ok (.getfield 30, 3) := by decide +kernel
theorem dX1_findBest_5 : decode cX1_findBest 5 = .ok (.ishl, 1) := by decide +kernel
theorem dX1_findBest_6 : decode cX1_findBest 6 = .ok (.iconst 1, 1) := by decide +kernel
theorem dX1_findBest_7 : decode cX1_findBest 7 = .ok (.isub, 1) := by decide +kernel
theorem dX1_findBest_8 : decode cX1_findBest 8 = .ok (.istore_n 1, 1) := by decide +kernel
theorem dX1_findBest_9 : decode cX1_findBest 9 = .ok (.iconst 1, 1) := by decide +kernel
theorem dX1_findBest_10 : decode cX1_findBest 10 = .ok (.istore_n 2, 1) := by decide +kernel
theorem dX1_findBest_11 : decode cX1_findBest 11 = .ok (.iload_n 2, 1) := by decide +kernel
theorem dX1_findBest_12 : decode cX1_findBest 12 = .ok (.iload_n 1, 1) := by decide +kernel
theorem dX1_findBest_13 : decode cX1_findBest 13 = .ok (.if_icmp .gt 14, 3) := by decide +kernel
theorem dX1_findBest_16 : decode cX1_findBest 16 = .ok (.aload_n 0, 1) := by decide +kernel
theorem dX1_findBest_17 : decode cX1_findBest 17 = .ok (.iload_n 2, 1) := by decide +kernel
theorem dX1_findBest_18 : decode cX1_findBest 18 = .ok (.invokevirtual 60, 3) := by decide +kernel
theorem dX1_findBest_21 : decode cX1_findBest 21 = .ok (.iinc 2 1, 3) := by decide +kernel
theorem dX1_findBest_24 : decode cX1_findBest 24 = .ok (.goto (-13), 3) := by decide +kernel
theorem dX1_findBest_27 : decode cX1_findBest 27 = .ok (.aload_n 0, 1) := by decide +kernel
theorem dX1_findBest_28 : decode cX1_findBest 28 = .ok (.aload_n 0, 1) := by decide +kernel
theorem dX1_findBest_29 : decode cX1_findBest 29 = .ok (.getfield 21, 3) := by decide +kernel
theorem dX1_findBest_32 : decode cX1_findBest 32 = .ok (.iload_n 1, 1) := by decide +kernel
theorem dX1_findBest_33 : decode cX1_findBest 33 = .ok (.iaload, 1) := by decide +kernel
theorem dX1_findBest_34 : decode cX1_findBest 34 = .ok (.putfield 57, 3) := by decide +kernel
theorem dX1_findBest_37 : decode cX1_findBest 37 = .ok (.iload_n 1, 1) := by decide +kernel
theorem dX1_findBest_38 : decode cX1_findBest 38 = .ok (.istore_n 2, 1) := by decide +kernel
theorem dX1_findBest_39 : decode cX1_findBest 39 = .ok (.iconst 0, 1) := by decide +kernel
theorem dX1_findBest_40 : decode cX1_findBest 40 = .ok (.istore_n 3, 1) := by decide +kernel
theorem dX1_findBest_41 : decode cX1_findBest 41 = .ok (.iload_n 3, 1) := by decide +kernel
theorem dX1_findBest_42 : decode cX1_findBest 42 = .ok (.aload_n 0, 1) := by decide +kernel
theorem dX1_findBest_43 : decode cX1_findBest 43 = .ok (.getfield 57, 3) := by decide +kernel
theorem dX1_findBest_46 : decode cX1_findBest 46 = .ok (.if_icmp .ge 30, 3) := by decide +kernel
theorem dX1_findBest_49 : decode cX1_findBest 49 = .ok (.aload_n 0, 1) := by decide +kernel
theorem dX1_findBest_50 : decode cX1_findBest 50 = .ok (.getfield 27, 3) := by decide +kernel
theorem dX1_findBest_53 : decode cX1_findBest 53 = .ok (.iload_n 3, 1) := by decide +kernel
theorem dX1_findBest_54 : decode cX1_findBest 54 = .ok (.aload_n 0, 1) := by decide +kernel
theorem dX1_findBest_55 : decode cX1_findBest 55 = .ok (.getfield 24, 3) := by decide +kernel
theorem dX1_findBest_58 : decode cX1_findBest 58 = .ok (.iload_n 2, 1) := by decide +kernel
theorem dX1_findBest_59 : decode cX1_findBest 59 = .ok (.iaload, 1) := by decide +kernel
theorem dX1_findBest_60 : decode cX1_findBest 60 = .ok (.iastore, 1) := by decide +kernel
theorem dX1_findBest_61 : decode cX1_findBest 61 = .ok (.iload_n 2, 1) := by decide +kernel
theorem dX1_findBest_62 : decode cX1_findBest 62 = .ok (.aload_n 0, 1) := by decide +kernel
theorem dX1_findBest_63 : decode cX1_findBest 63 = .ok (.getfield 27, 3) := by decide +kernel
theorem dX1_findBest_66 : decode cX1_findBest 66 = .ok (.iload_n 3, 1) := by decide +kernel
theorem dX1_findBest_67 : decode cX1_findBest 67 = .ok (.iaload, 1) := by decide +kernel
theorem dX1_findBest_68 : decode cX1_findBest 68 = .ok (.isub, 1) := by decide +kernel
theorem dX1_findBest_69 : decode cX1_findBest 69 = .ok (.istore_n 2, 1) := by decide +kernel
theorem dX1_findBest_70 : decode cX1_findBest 70 = .ok (.iinc 3 1, 3) := by decide +kernel
theorem dX1_findBest_73 : decode cX1_findBest 73 = .ok (.goto (-32), 3) := by decide +kernel
theorem dX1_findBest_76 : decode cX1_findBest 76 = .ok (.return_, 1) := by decide +kernel
theorem dX1_findFirst_0 : decode cX1_findFirst 0 = .ok (.iload_n 1, 1) := by decide +kernel
theorem dX1_findFirst_1 : decode cX1_findFirst 1 = .ok (.iload_n 1, 1) := by decide +kernel
theorem dX1_findFirst_2 : decode cX1_findFirst 2 = .ok (.ineg, 1) := by decide +kernel
theorem dX1_findFirst_3 : decode cX1_findFirst 3 = .ok (.iand, 1) := by decide +kernel
theorem dX1_findFirst_4 : decode cX1_findFirst 4 = .ok (.istore_n 2, 1) := by decide +kernel
theorem dX1_findFirst_5 : decode cX1_findFirst 5 = .ok (.iload_n 1, 1) := by decide +kernel
theorem dX1_findFirst_6 : decode cX1_findFirst 6 = .ok (.iload_n 2, 1) := by decide +kernel
theorem dX1_findFirst_7 : decode cX1_findFirst 7 = .ok (.isub, 1) := by decide +kernel
theorem dX1_findFirst_8 : decode cX1_findFirst 8 = .ok (.istore_n 3, 1) := by decide +kernel
theorem dX1_findFirst_9 : decode cX1_findFirst 9 = .ok (.iconst 0, 1) := by decide +kernel
theorem dX1_findFirst_10 : decode cX1_findFirst 10 = .ok (.istore 4, 2) := by decide +kernel
theorem dX1_findFirst_12 : decode cX1_findFirst 12 = .ok (.aload_n 0, 1) := by decide +kernel
theorem dX1_findFirst_13 : decode cX1_findFirst 13 = .ok (.getfield 24, 3) := by decide +kernel
theorem dX1_findFirst_16 : decode cX1_findFirst 16 = .ok (.iload_n 1, 1) := by decide +kernel
theorem dX1_findFirst_17 : decode cX1_findFirst 17 = .ok (.iconst 0, 1) := by decide +kernel
theorem dX1_findFirst_18 : decode cX1_findFirst 18 = .ok (.iastore, 1) := by decide +kernel
theorem dX1_findFirst_19 : decode cX1_findFirst 19 = .ok (.iconst 0, 1) := by decide +kernel
theorem dX1_findFirst_20 : decode cX1_findFirst 20 = .ok (.istore 5, 2) := by decide +kernel
theorem dX1_findFirst_22 : decode cX1_findFirst 22 = .ok (.iload 5, 2) := by decide +kernel
theorem dX1_findFirst_24 : decode cX1_findFirst 24 = .ok (.iconst 1, 1) := by decide +kernel
theorem dX1_findFirst_25 : decode cX1_findFirst 25 = .ok (.iload_n 3, 1) := by decide +kernel
theorem dX1_findFirst_26 : decode cX1_findFirst 26 = .ok (.invokestatic 63, 3) := by decide +kernel
theorem dX1_findFirst_29 : decode cX1_findFirst 29 = .ok (.ishl, 1) := by decide +kernel
theorem dX1_findFirst_30 : decode cX1_findFirst 30 = .ok (.if_icmp .ge 116, 3) := by decide +kernel
theorem dX1_findFirst_33 : decode cX1_findFirst 33 = .ok (.iload_n 2, 1) := by decide +kernel
theorem dX1_findFirst_34 : decode cX1_findFirst 34 = .ok (.iload 4, 2) := by decide +kernel
theorem dX1_findFirst_36 : decode cX1_findFirst 36 = .ok (.ior, 1) := by decide +kernel
theorem dX1_findFirst_37 : decode cX1_findFirst 37 = .ok (.istore 6, 2) := by decide +kernel
theorem dX1_findFirst_39 : decode cX1_findFirst 39 = .ok (.iload_n 1, 1) := by decide +kernel
theorem dX1_findFirst_40 : decode cX1_findFirst 40 = .ok (.iload 6, 2) := by decide +kernel
theorem dX1_findFirst_42 : decode cX1_findFirst 42 = .ok (.isub, 1) := by decide +kernel
theorem dX1_findFirst_43 : decode cX1_findFirst 43 = .ok (.istore 7, 2) := by decide +kernel
theorem dX1_findFirst_45 : decode cX1_findFirst 45 = .ok (.aload_n 0, 1) := by decide +kernel
theorem dX1_findFirst_46 : decode cX1_findFirst 46 = .ok (.getfield 15, 3) := by decide +kernel
theorem dX1_findFirst_49 : decode cX1_findFirst 49 = .ok (.iload 6, 2) := by decide +kernel
theorem dX1_findFirst_51 : decode cX1_findFirst 51 = .ok (.iaload, 1) := by decide +kernel
theorem dX1_findFirst_52 : decode cX1_findFirst 52 = .ok (.iconst (-1), 1) := by decide +kernel
theorem dX1_findFirst_53 : decode cX1_findFirst 53 = .ok (.if_icmp .eq 79, 3) := by decide +kernel
theorem dX1_findFirst_56 : decode cX1_findFirst 56 = .ok (.aload_n 0, 1) := by decide +kernel
theorem dX1_findFirst_57 : decode cX1_findFirst 57 = .ok (.iload_n 1, 1) := by decide +kernel
theorem dX1_findFirst_58 : decode cX1_findFirst 58 = .ok (.aload_n 0, 1) := by decide +kernel
theorem dX1_findFirst_59 : decode cX1_findFirst 59 = .ok (.getfield 15, 3) := by decide +kernel
theorem dX1_findFirst_62 : decode cX1_findFirst 62 = .ok (.iload 6, 2) := by decide +kernel
theorem dX1_findFirst_64 : decode cX1_findFirst 64 = .ok (.iaload, 1) := by decide +kernel
theorem dX1_findFirst_65 : decode cX1_findFirst 65 = .ok (.aload_n 0, 1) := by decide +kernel
theorem dX1_findFirst_66 : decode cX1_findFirst 66 = .ok (.getfield 18, 3) := by decide +kernel
theorem dX1_findFirst_69 : decode cX1_findFirst 69 = .ok (.iload 7, 2) := by decide +kernel
theorem dX1_findFirst_71 : decode cX1_findFirst 71 = .ok (.iaload, 1) := by decide +kernel
theorem dX1_findFirst_72 : decode cX1_findFirst 72 = .ok (.iadd, 1) := by decide +kernel
theorem dX1_findFirst_73 : decode cX1_findFirst 73 = .ok (.aload_n 0, 1) := by decide +kernel
theorem dX1_findFirst_74 : decode cX1_findFirst 74 = .ok (.getfield 21, 3) := by decide +kernel
theorem dX1_findFirst_77 : decode cX1_findFirst 77 = .ok (.iload 7, 2) := by decide +kernel
theorem dX1_findFirst_79 : decode cX1_findFirst 79 = .ok (.iaload, 1) := by decide +kernel
theorem dX1_findFirst_80 : decode cX1_findFirst 80 = .ok (.iconst 1, 1) := by decide +kernel
theorem dX1_findFirst_81 : decode cX1_findFirst 81 = .ok (.iadd, 1) := by decide +kernel
theorem dX1_findFirst_82 : decode cX1_findFirst 82 = .ok (.invokevirtual 69, 3) := by decide +kernel
theorem dX1_findFirst_85 : decode cX1_findFirst 85 = .ok (.ifCond .eq 47, 3) := by decide +kernel
theorem dX1_findFirst_88 : decode cX1_findFirst 88 = .ok (.aload_n 0, 1) := by decide +kernel
theorem dX1_findFirst_89 : decode cX1_findFirst 89 = .ok (.getfield 24, 3) := by decide +kernel
theorem dX1_findFirst_92 : decode cX1_findFirst 92 = .ok (.iload_n 1, 1) := by decide +kernel
theorem dX1_findFirst_93 : decode cX1_findFirst 93 = .ok (.iload 6, 2) := by decide +kernel
theorem dX1_findFirst_95 : decode cX1_findFirst 95 = .ok (.iastore, 1) := by decide +kernel
theorem dX1_findFirst_96 : decode cX1_findFirst 96 = .ok (.aload_n 0, 1) := by decide +kernel
theorem dX1_findFirst_97 : decode cX1_findFirst 97 = .ok (.getfield 18, 3) := by decide +kernel
theorem dX1_findFirst_100 : decode cX1_findFirst 100 = .ok (.iload_n 1, 1) := by decide +kernel
theorem dX1_findFirst_101 : decode cX1_findFirst 101 = .ok (.aload_n 0, 1) := by decide +kernel
theorem dX1_findFirst_102 : decode cX1_findFirst 102 = .ok (.getfield 15, 3) := by decide +kernel
theorem dX1_findFirst_105 : decode cX1_findFirst 105 = .ok (.iload 6, 2) := by decide +kernel
theorem dX1_findFirst_107 : decode cX1_findFirst 107 = .ok (.iaload, 1) := by decide +kernel
theorem dX1_findFirst_108 : decode cX1_findFirst 108 = .ok (.aload_n 0, 1) := by decide +kernel
theorem dX1_findFirst_109 : decode cX1_findFirst 109 = .ok (.getfield 18, 3) := by decide +kernel
theorem dX1_findFirst_112 : decode cX1_findFirst 112 = .ok (.iload 7, 2) := by decide +kernel
theorem dX1_findFirst_114 : decode cX1_findFirst 114 = .ok (.iaload, 1) := by decide +kernel
theorem dX1_findFirst_115 : decode cX1_findFirst 115 = .ok (.iadd, 1) := by decide +kernel
theorem dX1_findFirst_116 : decode cX1_findFirst 116 = .ok (.iastore, 1) := by decide +kernel
theorem dX1_findFirst_117 : decode cX1_findFirst 117 = .ok (.aload_n 0, 1) := by decide +kernel
theorem dX1_findFirst_118 : decode cX1_findFirst 118 = .ok (.getfield 21, 3) := by decide +kernel
theorem dX1_findFirst_121 : decode cX1_findFirst 121 = .ok (.iload_n 1, 1) := by decide +kernel
theorem dX1_findFirst_122 : decode cX1_findFirst 122 = .ok (.aload_n 0, 1) := by decide +kernel
theorem dX1_findFirst_123 : decode cX1_findFirst 123 = .ok (.getfield 21, 3) := by decide +kernel
theorem dX1_findFirst_126 : decode cX1_findFirst 126 = .ok (.iload 7, 2) := by decide +kernel
theorem dX1_findFirst_128 : decode cX1_findFirst 128 = .ok (.iaload, 1) := by decide +kernel
theorem dX1_findFirst_129 : decode cX1_findFirst 129 = .ok (.iconst 1, 1) := by decide +kernel
theorem dX1_findFirst_130 : decode cX1_findFirst 130 = .ok (.iadd, 1) := by decide +kernel
theorem dX1_findFirst_131 : decode cX1_findFirst 131 = .ok (.iastore, 1) := by decide +kernel
theorem dX1_findFirst_132 : decode cX1_findFirst 132 = .ok (.iload 4, 2) := by decide +kernel
theorem dX1_findFirst_134 : decode cX1_findFirst 134 = .ok (.iload_n 3, 1) := by decide +kernel
theorem dX1_findFirst_135 : decode cX1_findFirst 135 = .ok (.isub, 1) := by decide +kernel
theorem dX1_findFirst_136 : decode cX1_findFirst 136 = .ok (.iload_n 3, 1) := by decide +kernel
theorem dX1_findFirst_137 : decode cX1_findFirst 137 = .ok (.iand, 1) := by decide +kernel
theorem dX1_findFirst_138 : decode cX1_findFirst 138 = .ok (.istore 4, 2) := by decide +kernel
theorem dX1_findFirst_140 : decode cX1_findFirst 140 = .ok (.iinc 5 1, 3) := by decide +kernel
theorem dX1_findFirst_143 : decode cX1_findFirst 143 = .ok (.goto (-121), 3) := by decide +kernel
theorem dX1_findFirst_146 : decode cX1_findFirst 146 = .ok (.return_, 1) := by decide +kernel
theorem dX1_isBetter_0 : decode cX1_isBetter 0 = .ok (.aload_n 0, 1) := by decide +kernel
theorem dX1_isBetter_1 : decode cX1_isBetter 1 = .ok (.getfield 24, 3) := by decide +kernel
theorem dX1_isBetter_4 : decode cX1_isBetter 4 = .ok (.iload_n 1, 1) := by decide +kernel
theorem dX1_isBetter_5 : decode cX1_isBetter 5 = .ok (.iaload, 1) := by decide +kernel
theorem dX1_isBetter_6 : decode cX1_isBetter 6 = .ok (.ifCond .ne 5, 3) := by decide +kernel
theorem dX1_isBetter_9 : decode cX1_isBetter 9 = .ok (.iconst 1, 1) := by decide +kernel
theorem dX1_isBetter_10 : decode cX1_isBetter 10 = .ok (.ireturn, 1) := by decide +kernel
theorem dX1_isBetter_11 : decode cX1_isBetter 11 = .ok (.iload_n 2, 1) := by decide +kernel
theorem dX1_isBetter_12 : decode cX1_isBetter 12 = .ok (.aload_n 0, 1) := by decide +kernel
theorem dX1_isBetter_13 : decode cX1_isBetter 13 = .ok (.getfield 18, 3) := by decide +kernel
theorem dX1_isBetter_16 : decode cX1_isBetter 16 = .ok (.iload_n 1, 1) := by decide +kernel
theorem dX1_isBetter_17 : decode cX1_isBetter 17 = .ok (.iaload, 1) := by decide +kernel
theorem dX1_isBetter_18 : decode cX1_isBetter 18 = .ok (.if_icmp .lt 23, 3) := by decide +kernel
theorem dX1_isBetter_21 : decode cX1_isBetter 21 = .ok (.iload_n 2, 1) := by decide +kernel
theorem dX1_isBetter_22 : decode cX1_isBetter 22 = .ok (.aload_n 0, 1) := by decide +kernel
theorem dX1_isBetter_23 : decode cX1_isBetter 23 = .ok (.getfield 18, 3) := by decide +kernel
theorem dX1_isBetter_26 : decode cX1_isBetter 26 = .ok (.iload_n 1, 1) := by decide +kernel
theorem dX1_isBetter_27 : decode cX1_isBetter 27 = .ok (.iaload, 1) := by decide +kernel
theorem dX1_isBetter_28 : decode cX1_isBetter 28 = .ok (.if_icmp .ne 17, 3) := by decide +kernel
theorem dX1_isBetter_31 : decode cX1_isBetter 31 = .ok (.iload_n 3, 1) := by decide +kernel
theorem dX1_isBetter_32 : decode cX1_isBetter 32 = .ok (.aload_n 0, 1) := by decide +kernel
theorem dX1_isBetter_33 : decode cX1_isBetter 33 = .ok (.getfield 21, 3) := by decide +kernel
theorem dX1_isBetter_36 : decode cX1_isBetter 36 = .ok (.iload_n 1, 1) := by decide +kernel
theorem dX1_isBetter_37 : decode cX1_isBetter 37 = .ok (.iaload, 1) := by decide +kernel
theorem dX1_isBetter_38 : decode cX1_isBetter 38 = .ok (.if_icmp .ge 7, 3) := by decide +kernel
theorem dX1_isBetter_41 : decode cX1_isBetter 41 = .ok (.iconst 1, 1) := by decide +kernel
theorem dX1_isBetter_42 : decode cX1_isBetter 42 = .ok (.goto 4, 3) := by decide +kernel
theorem dX1_isBetter_45 : decode cX1_isBetter 45 = .ok (.iconst 0, 1) := by decide +kernel
theorem dX1_isBetter_46 : decode cX1_isBetter 46 = .ok (.ireturn, 1) := by decide +kernel
theorem dX1_search_0 : decode cX1_search 0 = .ok (.aload_n 0, 1) := by decide +kernel
theorem dX1_search_1 : decode cX1_search 1 = .ok (.iconst 0, 1) := by decide +kernel
theorem dX1_search_2 : decode cX1_search 2 = .ok (.putfield 57, 3) := by decide +kernel
theorem dX1_search_5 : decode cX1_search 5 = .ok (.aload_n 0, 1) := by decide +kernel
theorem dX1_search_6 : decode cX1_search 6 = .ok (.iconst 0, 1) := by decide +kernel
theorem dX1_search_7 : decode cX1_search 7 = .ok (.invokestatic 73, 3) := by decide +kernel
theorem dX1_search_10 : decode cX1_search 10 = .ok (.ireturn, 1) := by decide +kernel
theorem dX1_tryFrom_0 : decode cX1_tryFrom 0 = .ok (.iload_n 1, 1) := by decide +kernel
theorem dX1_tryFrom_1 : decode cX1_tryFrom 1 = .ok (.aload_n 0, 1) := by decide +kernel
theorem dX1_tryFrom_2 : decode cX1_tryFrom 2 = .ok (.getfield 30, 3) := by decide +kernel
theorem dX1_tryFrom_5 : decode cX1_tryFrom 5 = .ok (.if_icmp .ge 9, 3) := by decide +kernel
theorem dX1_tryFrom_8 : decode cX1_tryFrom 8 = .ok (.iload_n 1, 1) := by decide +kernel
theorem dX1_tryFrom_9 : decode cX1_tryFrom 9 = .ok (.bipush 6, 2) := by decide +kernel
theorem dX1_tryFrom_11 : decode cX1_tryFrom 11 = .ok (.if_icmp .lt 8, 3) := by decide +kernel
theorem dX1_tryFrom_14 : decode cX1_tryFrom 14 = .ok (.aload_n 0, 1) := by decide +kernel
theorem dX1_tryFrom_15 : decode cX1_tryFrom 15 = .ok (.invokevirtual 77, 3) := by decide +kernel
theorem dX1_tryFrom_18 : decode cX1_tryFrom 18 = .ok (.ireturn, 1) := by decide +kernel
theorem dX1_tryFrom_19 : decode cX1_tryFrom 19 = .ok (.iconst (-1), 1) := by decide +kernel
theorem dX1_tryFrom_20 : decode cX1_tryFrom 20 = .ok (.istore_n 2, 1) := by decide +kernel
theorem dX1_tryFrom_21 : decode cX1_tryFrom 21 = .ok (.aload_n 0, 1) := by decide +kernel
theorem dX1_tryFrom_22 : decode cX1_tryFrom 22 = .ok (.getfield 57, 3) := by decide +kernel
theorem dX1_tryFrom_25 : decode cX1_tryFrom 25 = .ok (.istore_n 3, 1) := by decide +kernel
theorem dX1_tryFrom_26 : decode cX1_tryFrom 26 = .ok (.iconst 0, 1) := by decide +kernel
theorem dX1_tryFrom_27 : decode cX1_tryFrom 27 = .ok (.istore 4, 2) := by decide +kernel
theorem dX1_tryFrom_29 : decode cX1_tryFrom 29 = .ok (.iload 4, 2) := by decide +kernel
theorem dX1_tryFrom_31 : decode cX1_tryFrom 31 = .ok (.iload_n 3, 1) := by decide +kernel
theorem dX1_tryFrom_32 : decode cX1_tryFrom 32 = .ok (.if_icmp .gt 85, 3) := by decide +kernel
theorem dX1_tryFrom_35 : decode cX1_tryFrom 35 = .ok (.iload 4, 2) := by decide +kernel
theorem dX1_tryFrom_37 : decode cX1_tryFrom 37 = .ok (.iload_n 3, 1) := by decide +kernel
theorem dX1_tryFrom_38 : decode cX1_tryFrom 38 = .ok (.if_icmp .ne 18, 3) := by decide +kernel
theorem dX1_tryFrom_41 : decode cX1_tryFrom 41 = .ok (.aload_n 0, 1) := by decide +kernel
theorem dX1_tryFrom_42 : decode cX1_tryFrom 42 = .ok (.getfield 27, 3) := by decide +kernel
theorem dX1_tryFrom_45 : decode cX1_tryFrom 45 = .ok (.iload 4, 2) := by decide +kernel
theorem dX1_tryFrom_47 : decode cX1_tryFrom 47 = .ok (.iconst 0, 1) := by decide +kernel
theorem dX1_tryFrom_48 : decode cX1_tryFrom 48 = .ok (.iastore, 1) := by decide +kernel
theorem dX1_tryFrom_49 : decode cX1_tryFrom 49 = .ok (.aload_n 0, 1) := by decide +kernel
theorem dX1_tryFrom_50 : decode cX1_tryFrom 50 = .ok (.iload_n 3, 1) := by decide +kernel
theorem dX1_tryFrom_51 : decode cX1_tryFrom 51 = .ok (.iconst 1, 1) := by decide +kernel
theorem dX1_tryFrom_52 : decode cX1_tryFrom 52 = .ok (.iadd, 1) := by decide +kernel
theorem dX1_tryFrom_53 : decode cX1_tryFrom 53 = .ok (.putfield 57, 3) := by decide +kernel
theorem dX1_tryFrom_56 : decode cX1_tryFrom 56 = .ok (.aload_n 0, 1) := by decide +kernel
theorem dX1_tryFrom_57 : decode cX1_tryFrom 57 = .ok (.getfield 27, 3) := by decide +kernel
theorem dX1_tryFrom_60 : decode cX1_tryFrom 60 = .ok (.iload 4, 2) := by decide +kernel
theorem dX1_tryFrom_62 : decode cX1_tryFrom 62 = .ok (.dup2, 1) := by decide +kernel
theorem dX1_tryFrom_63 : decode cX1_tryFrom 63 = .ok (.iaload, 1) := by decide +kernel
theorem dX1_tryFrom_64 : decode cX1_tryFrom 64 = .ok (.iconst 1, 1) := by decide +kernel
theorem dX1_tryFrom_65 : decode cX1_tryFrom 65 = .ok (.iload_n 1, 1) := by decide +kernel
theorem dX1_tryFrom_66 : decode cX1_tryFrom 66 = .ok (.ishl, 1) := by decide +kernel
theorem dX1_tryFrom_67 : decode cX1_tryFrom 67 = .ok (.ior, 1) := by decide +kernel
theorem dX1_tryFrom_68 : decode cX1_tryFrom 68 = .ok (.iastore, 1) := by decide +kernel
theorem dX1_tryFrom_69 : decode cX1_tryFrom 69 = .ok (.aload_n 0, 1) := by decide +kernel
theorem dX1_tryFrom_70 : decode cX1_tryFrom 70 = .ok (.iload_n 1, 1) := by decide +kernel
theorem dX1_tryFrom_71 : decode cX1_tryFrom 71 = .ok (.iconst 1, 1) := by decide +kernel
theorem dX1_tryFrom_72 : decode cX1_tryFrom 72 = .ok (.iadd, 1) := by decide +kernel
theorem dX1_tryFrom_73 : decode cX1_tryFrom 73 = .ok (.invokestatic 73, 3) := by decide +kernel
theorem dX1_tryFrom_76 : decode cX1_tryFrom 76 = .ok (.istore 5, 2) := by decide +kernel
theorem dX1_tryFrom_78 : decode cX1_tryFrom 78 = .ok (.aload_n 0, 1) := by decide +kernel
theorem dX1_tryFrom_79 : decode cX1_tryFrom 79 = .ok (.getfield 27, 3) := by decide +kernel
theorem dX1_tryFrom_82 : decode cX1_tryFrom 82 = .ok (.iload 4, 2) := by decide +kernel
theorem dX1_tryFrom_84 : decode cX1_tryFrom 84 = .ok (.dup2, 1) := by decide +kernel
theorem dX1_tryFrom_85 : decode cX1_tryFrom 85 = .ok (.iaload, 1) := by decide +kernel
theorem dX1_tryFrom_86 : decode cX1_tryFrom 86 = .ok (.iconst 1, 1) := by decide +kernel
theorem dX1_tryFrom_87 : decode cX1_tryFrom 87 = .ok (.iload_n 1, 1) := by decide +kernel
theorem dX1_tryFrom_88 : decode cX1_tryFrom 88 = .ok (.ishl, 1) := by decide +kernel
theorem dX1_tryFrom_89 : decode cX1_tryFrom 89 = .ok (.isub, 1) := by decide +kernel
theorem dX1_tryFrom_90 : decode cX1_tryFrom 90 = .ok (.iastore, 1) := by decide +kernel
theorem dX1_tryFrom_91 : decode cX1_tryFrom 91 = .ok (.iload 5, 2) := by decide +kernel
theorem dX1_tryFrom_93 : decode cX1_tryFrom 93 = .ok (.iconst (-1), 1) := by decide +kernel
theorem dX1_tryFrom_94 : decode cX1_tryFrom 94 = .ok (.if_icmp .eq 17, 3) := by decide +kernel
theorem dX1_tryFrom_97 : decode cX1_tryFrom 97 = .ok (.iload_n 2, 1) := by decide +kernel
theorem dX1_tryFrom_98 : decode cX1_tryFrom 98 = .ok (.iconst (-1), 1) := by decide +kernel
theorem dX1_tryFrom_99 : decode cX1_tryFrom 99 = .ok (.if_icmp .eq 9, 3) := by decide +kernel
theorem dX1_tryFrom_102 : decode cX1_tryFrom 102 = .ok (.iload 5, 2) := by decide +kernel
theorem dX1_tryFrom_104 : decode cX1_tryFrom 104 = .ok (.iload_n 2, 1) := by decide +kernel
theorem dX1_tryFrom_105 : decode cX1_tryFrom 105 = .ok (.if_icmp .ge 6, 3) := by decide +kernel
theorem dX1_tryFrom_108 : decode cX1_tryFrom 108 = .ok (.iload 5, 2) := by decide +kernel
theorem dX1_tryFrom_110 : decode cX1_tryFrom 110 = .ok (.istore_n 2, 1) := by decide +kernel
theorem dX1_tryFrom_111 : decode cX1_tryFrom 111 = .ok (.iinc 4 1, 3) := by decide +kernel
theorem dX1_tryFrom_114 : decode cX1_tryFrom 114 = .ok (.goto (-85), 3) := by decide +kernel
theorem dX1_tryFrom_117 : decode cX1_tryFrom 117 = .ok (.aload_n 0, 1) := by decide +kernel
theorem dX1_tryFrom_118 : decode cX1_tryFrom 118 = .ok (.iload_n 3, 1) := by decide +kernel
theorem dX1_tryFrom_119 : decode cX1_tryFrom 119 = .ok (.putfield 57, 3) := by decide +kernel
theorem dX1_tryFrom_122 : decode cX1_tryFrom 122 = .ok (.iload_n 2, 1) := by decide +kernel
theorem dX1_tryFrom_123 : decode cX1_tryFrom 123 = .ok (.ireturn, 1) := by decide +kernel
theorem dX1_totalIfRated_0 : decode cX1_totalIfRated 0 = .ok (.iconst 0, 1) := by decide +kernel
theorem dX1_totalIfRated_1 : decode cX1_totalIfRated 1 = .ok (.istore_n 1, 1) := by decide +kernel
theorem dX1_totalIfRated_2 : decode cX1_totalIfRated 2 = .ok (.iload_n 1, 1) := by decide +kernel
theorem dX1_totalIfRated_3 : decode cX1_totalIfRated 3 = .ok (.aload_n 0, 1) := by decide +kernel
theorem dX1_totalIfRated_4 : decode cX1_totalIfRated 4 = .ok (.getfield 57, 3) := by decide +kernel
theorem dX1_totalIfRated_7 : decode cX1_totalIfRated 7 = .ok (.if_icmp .ge 26, 3) := by decide +kernel
theorem dX1_totalIfRated_10 : decode cX1_totalIfRated 10 = .ok (.aload_n 0, 1) := by decide +kernel
theorem dX1_totalIfRated_11 : decode cX1_totalIfRated 11 = .ok (.getfield 15, 3) := by decide +kernel
theorem dX1_totalIfRated_14 : decode cX1_totalIfRated 14 = .ok (.aload_n 0, 1) := by decide +kernel
theorem dX1_totalIfRated_15 : decode cX1_totalIfRated 15 = .ok (.getfield 27, 3) := by decide +kernel
theorem dX1_totalIfRated_18 : decode cX1_totalIfRated 18 = .ok (.iload_n 1, 1) := by decide +kernel
theorem dX1_totalIfRated_19 : decode cX1_totalIfRated 19 = .ok (.iaload, 1) := by decide +kernel
theorem dX1_totalIfRated_20 : decode cX1_totalIfRated 20 = .ok (.iaload, 1) := by decide +kernel
theorem dX1_totalIfRated_21 : decode cX1_totalIfRated 21 = .ok (.iconst (-1), 1) := by decide +kernel
theorem dX1_totalIfRated_22 : decode cX1_totalIfRated 22 = .ok (.if_icmp .ne 5, 3) := by decide +kernel
theorem dX1_totalIfRated_25 : decode cX1_totalIfRated 25 = .ok (.iconst (-1), 1) := by decide +kernel
theorem dX1_totalIfRated_26 : decode cX1_totalIfRated 26 = .ok (.ireturn, 1) := by decide +kernel
theorem dX1_totalIfRated_27 : decode cX1_totalIfRated 27 = .ok (.iinc 1 1, 3) := by decide +kernel
theorem dX1_totalIfRated_30 : decode cX1_totalIfRated 30 = .ok (.goto (-28), 3) := by decide +kernel
theorem dX1_totalIfRated_33 : decode cX1_totalIfRated 33 = .ok (.aload_n 0, 1) := by decide +kernel
theorem dX1_totalIfRated_34 : decode cX1_totalIfRated 34 = .ok (.invokevirtual 80, 3) := by decide +kernel
theorem dX1_totalIfRated_37 : decode cX1_totalIfRated 37 = .ok (.ireturn, 1) := by decide +kernel
theorem dX1_merge_0 : decode cX1_merge 0 = .ok (.aload_n 0, 1) := by decide +kernel
theorem dX1_merge_1 : decode cX1_merge 1 = .ok (.aload_n 0, 1) := by decide +kernel
theorem dX1_merge_2 : decode cX1_merge 2 = .ok (.getfield 30, 3) := by decide +kernel
theorem dX1_merge_5 : decode cX1_merge 5 = .ok (.putfield 57, 3) := by decide +kernel
theorem dX1_merge_8 : decode cX1_merge 8 = .ok (.iconst 0, 1) := by decide +kernel
theorem dX1_merge_9 : decode cX1_merge 9 = .ok (.istore_n 1, 1) := by decide +kernel
theorem dX1_merge_10 : decode cX1_merge 10 = .ok (.iload_n 1, 1) := by decide +kernel
theorem dX1_merge_11 : decode cX1_merge 11 = .ok (.aload_n 0, 1) := by decide +kernel
theorem dX1_merge_12 : decode cX1_merge 12 = .ok (.getfield 30, 3) := by decide +kernel
theorem dX1_merge_15 : decode cX1_merge 15 = .ok (.if_icmp .ge 18, 3) := by decide +kernel
theorem dX1_merge_18 : decode cX1_merge 18 = .ok (.aload_n 0, 1) := by decide +kernel
theorem dX1_merge_19 : decode cX1_merge 19 = .ok (.getfield 27, 3) := by decide +kernel
theorem dX1_merge_22 : decode cX1_merge 22 = .ok (.iload_n 1, 1) := by decide +kernel
theorem dX1_merge_23 : decode cX1_merge 23 = .ok (.iconst 1, 1) := by decide +kernel
theorem dX1_merge_24 : decode cX1_merge 24 = .ok (.iload_n 1, 1) := by decide +kernel
theorem dX1_merge_25 : decode cX1_merge 25 = .ok (.ishl, 1) := by decide +kernel
theorem dX1_merge_26 : decode cX1_merge 26 = .ok (.iastore, 1) := by decide +kernel
theorem dX1_merge_27 : decode cX1_merge 27 = .ok (.iinc 1 1, 3) := by decide +kernel
theorem dX1_merge_30 : decode cX1_merge 30 = .ok (.goto (-20), 3) := by decide +kernel
theorem dX1_merge_33 : decode cX1_merge 33 = .ok (.iconst 1, 1) := by decide +kernel
theorem dX1_merge_34 : decode cX1_merge 34 = .ok (.istore_n 1, 1) := by decide +kernel
theorem dX1_merge_35 : decode cX1_merge 35 = .ok (.iload_n 1, 1) := by decide +kernel
theorem dX1_merge_36 : decode cX1_merge 36 = .ok (.aload_n 0, 1) := by decide +kernel
theorem dX1_merge_37 : decode cX1_merge 37 = .ok (.getfield 30, 3) := by decide +kernel
theorem dX1_merge_40 : decode cX1_merge 40 = .ok (.if_icmp .ge 19, 3) := by decide +kernel
theorem dX1_merge_43 : decode cX1_merge 43 = .ok (.aload_n 0, 1) := by decide +kernel
theorem dX1_merge_44 : decode cX1_merge 44 = .ok (.invokevirtual 81, 3) := by decide +kernel
theorem dX1_merge_47 : decode cX1_merge 47 = .ok (.ifCond .ne 6, 3) := by decide +kernel
theorem dX1_merge_50 : decode cX1_merge 50 = .ok (.goto 9, 3) := by decide +kernel
theorem dX1_merge_53 : decode cX1_merge 53 = .ok (.iinc 1 1, 3) := by decide +kernel
theorem dX1_merge_56 : decode cX1_merge 56 = .ok (.goto (-21), 3) := by decide +kernel
theorem dX1_merge_59 : decode cX1_merge 59 = .ok (.return_, 1) := by decide +kernel
theorem dX1_mergePair_0 : decode cX1_mergePair 0 = .ok (.iconst 0, 1) := by decide +kernel
theorem dX1_mergePair_1 : decode cX1_mergePair 1 = .ok (.istore_n 1, 1) := by decide +kernel
theorem dX1_mergePair_2 : decode cX1_mergePair 2 = .ok (.iconst 0, 1) := by decide +kernel
theorem dX1_mergePair_3 : decode cX1_mergePair 3 = .ok (.istore_n 2, 1) := by decide +kernel
theorem dX1_mergePair_4 : decode cX1_mergePair 4 = .ok (.iconst 0, 1) := by decide +kernel
theorem dX1_mergePair_5 : decode cX1_mergePair 5 = .ok (.istore_n 3, 1) := by decide +kernel
theorem dX1_mergePair_6 : decode cX1_mergePair 6 = .ok (.iconst 0, 1) := by decide +kernel
theorem dX1_mergePair_7 : decode cX1_mergePair 7 = .ok (.istore 4, 2) := by decide +kernel
theorem dX1_mergePair_9 : decode cX1_mergePair 9 = .ok (.iload 4, 2) := by decide +kernel
theorem dX1_mergePair_11 : decode cX1_mergePair 11 = .ok (.aload_n 0, 1) := by decide +kernel
theorem dX1_mergePair_12 : decode cX1_mergePair 12 = .ok (.getfield 57, 3) := by decide +kernel
theorem dX1_mergePair_15 : decode cX1_mergePair 15 = .ok (.if_icmp .ge 107, 3) := by decide +kernel
theorem dX1_mergePair_18 : decode cX1_mergePair 18 = .ok (.iconst 0, 1) := by decide +kernel
theorem dX1_mergePair_19 : decode cX1_mergePair 19 = .ok (.istore 5, 2) := by decide +kernel
theorem dX1_mergePair_21 : decode cX1_mergePair 21 = .ok (.iload 5, 2) := by decide +kernel
theorem dX1_mergePair_23 : decode cX1_mergePair 23 = .ok (.aload_n 0, 1) := by decide +kernel
theorem dX1_mergePair_24 : decode cX1_mergePair 24 = .ok (.getfield 57, 3) := by decide +kernel
theorem dX1_mergePair_27 : decode cX1_mergePair 27 = .ok (.if_icmp .ge 89, 3) := by decide +kernel
theorem dX1_mergePair_30 : decode cX1_mergePair 30 = .ok (.aload_n 0, 1) := by decide +kernel
theorem dX1_mergePair_31 : decode cX1_mergePair 31 = .ok (.getfield 27, 3) := by decide +kernel
theorem dX1_mergePair_34 : decode cX1_mergePair 34 = .ok (.iload 4, 2) := by decide +kernel
theorem dX1_mergePair_36 : decode cX1_mergePair 36 = .ok (.iaload, 1) := by decide +kernel
theorem dX1_mergePair_37 : decode cX1_mergePair 37 = .ok (.aload_n 0, 1) := by decide +kernel
theorem dX1_mergePair_38 : decode cX1_mergePair 38 = .ok (.getfield 27, 3) := by decide +kernel
theorem dX1_mergePair_41 : decode cX1_mergePair 41 = .ok (.iload 5, 2) := by decide +kernel
theorem dX1_mergePair_43 : decode cX1_mergePair 43 = .ok (.iaload, 1) := by decide +kernel
theorem dX1_mergePair_44 : decode cX1_mergePair 44 = .ok (.if_icmp .ge 24, 3) := by decide +kernel
theorem dX1_mergePair_47 : decode cX1_mergePair 47 = .ok (.aload_n 0, 1) := by decide +kernel
theorem dX1_mergePair_48 : decode cX1_mergePair 48 = .ok (.aload_n 0, 1) := by decide +kernel
theorem dX1_mergePair_49 : decode cX1_mergePair 49 = .ok (.getfield 27, 3) := by decide +kernel
theorem dX1_mergePair_52 : decode cX1_mergePair 52 = .ok (.iload 4, 2) := by decide +kernel
theorem dX1_mergePair_54 : decode cX1_mergePair 54 = .ok (.iaload, 1) := by decide +kernel
theorem dX1_mergePair_55 : decode cX1_mergePair 55 = .ok (.aload_n 0, 1) := by decide +kernel
theorem dX1_mergePair_56 : decode cX1_mergePair 56 = .ok (.getfield 27, 3) := by decide +kernel
theorem dX1_mergePair_59 : decode cX1_mergePair 59 = .ok (.iload 5, 2) := by decide +kernel
theorem dX1_mergePair_61 : decode cX1_mergePair 61 = .ok (.iaload, 1) := by decide +kernel
theorem dX1_mergePair_62 : decode cX1_mergePair 62 = .ok (.invokevirtual 85, 3) := by decide +kernel
theorem dX1_mergePair_65 : decode cX1_mergePair 65 = .ok (.goto 4, 3) := by decide +kernel
theorem dX1_mergePair_68 : decode cX1_mergePair 68 = .ok (.iconst 0, 1) := by decide +kernel
theorem dX1_mergePair_69 : decode cX1_mergePair 69 = .ok (.istore 6, 2) := by decide +kernel
theorem dX1_mergePair_71 : decode cX1_mergePair 71 = .ok (.iload 6, 2) := by decide +kernel
theorem dX1_mergePair_73 : decode cX1_mergePair 73 = .ok (.iload_n 1, 1) := by decide +kernel
theorem dX1_mergePair_74 : decode cX1_mergePair 74 = .ok (.if_icmp .gt 27, 3) := by decide +kernel
theorem dX1_mergePair_77 : decode cX1_mergePair 77 = .ok (.iload 6, 2) := by decide +kernel
theorem dX1_mergePair_79 : decode cX1_mergePair 79 = .ok (.ifCond .le 31, 3) := by decide +kernel
theorem dX1_mergePair_82 : decode cX1_mergePair 82 = .ok (.iload 6, 2) := by decide +kernel
theorem dX1_mergePair_84 : decode cX1_mergePair 84 = .ok (.iload_n 1, 1) := by decide +kernel
theorem dX1_mergePair_85 : decode cX1_mergePair 85 = .ok (.if_icmp .ne 25, 3) := by decide +kernel
theorem dX1_mergePair_88 : decode cX1_mergePair 88 = .ok (.aload_n 0, 1) := by decide +kernel
theorem dX1_mergePair_89 : decode cX1_mergePair 89 = .ok (.iload 4, 2) := by decide +kernel
theorem dX1_mergePair_91 : decode cX1_mergePair 91 = .ok (.iload 5, 2) := by decide +kernel
theorem dX1_mergePair_93 : decode cX1_mergePair 93 = .ok (.iload_n 2, 1) := by decide +kernel
theorem dX1_mergePair_94 : decode cX1_mergePair 94 = .ok (.iload_n 3, 1) := by decide +kernel
theorem dX1_mergePair_95 : decode cX1_mergePair 95 = .ok (.invokevirtual 89, 3) := by decide +kernel
theorem dX1_mergePair_98 : decode cX1_mergePair 98 = .ok (.ifCond .eq 12, 3) := by decide +kernel
theorem dX1_mergePair_101 : decode cX1_mergePair 101 = .ok (.iload 6, 2) := by decide +kernel
theorem dX1_mergePair_103 : decode cX1_mergePair 103 = .ok (.istore_n 1, 1) := by decide +kernel
theorem dX1_mergePair_104 : decode cX1_mergePair 104 = .ok (.iload 4, 2) := by decide +kernel
theorem dX1_mergePair_106 : decode cX1_mergePair 106 = .ok (.istore_n 2, 1) := by decide +kernel
theorem dX1_mergePair_107 : decode cX1_mergePair 107 = .ok (.iload 5, 2) := by decide +kernel
theorem dX1_mergePair_109 : decode cX1_mergePair 109 = .ok (.istore_n 3, 1) := by decide +kernel
theorem dX1_mergePair_110 : decode cX1_mergePair 110 = .ok (.iinc 5 1, 3) := by decide +kernel
theorem dX1_mergePair_113 : decode cX1_mergePair 113 = .ok (.goto (-92), 3) := by decide +kernel
theorem dX1_mergePair_116 : decode cX1_mergePair 116 = .ok (.iinc 4 1, 3) := by decide +kernel
theorem dX1_mergePair_119 : decode cX1_mergePair 119 = .ok (.goto (-110), 3) := by decide +kernel
theorem dX1_mergePair_122 : decode cX1_mergePair 122 = .ok (.iload_n 1, 1) := by decide +kernel
theorem dX1_mergePair_123 : decode cX1_mergePair 123 = .ok (.ifCond .ne 5, 3) := by decide +kernel
theorem dX1_mergePair_126 : decode cX1_mergePair 126 = .ok (.iconst 0, 1) := by decide +kernel
theorem dX1_mergePair_127 : decode cX1_mergePair 127 = .ok (.ireturn, 1) := by decide +kernel
theorem dX1_mergePair_128 : decode cX1_mergePair 128 = .ok (.aload_n 0, 1) := by decide +kernel
theorem dX1_mergePair_129 : decode cX1_mergePair 129 = .ok (.getfield 27, 3) := by decide +kernel
theorem dX1_mergePair_132 : decode cX1_mergePair 132 = .ok (.iload_n 2, 1) := by decide +kernel
theorem dX1_mergePair_133 : decode cX1_mergePair 133 = .ok (.dup2, 1) := by decide +kernel
theorem dX1_mergePair_134 : decode cX1_mergePair 134 = .ok (.iaload, 1) := by decide +kernel
theorem dX1_mergePair_135 : decode cX1_mergePair 135 = .ok (.aload_n 0, 1) := by decide +kernel
theorem dX1_mergePair_136 : decode cX1_mergePair 136 = .ok (.getfield 27, 3) := by decide +kernel
theorem dX1_mergePair_139 : decode cX1_mergePair 139 = .ok (.iload_n 3, 1) := by decide +kernel
theorem dX1_mergePair_140 : decode cX1_mergePair 140 = .ok (.iaload, 1) := by decide +kernel
theorem dX1_mergePair_141 : decode cX1_mergePair 141 = .ok (.ior, 1) := by decide +kernel
theorem dX1_mergePair_142 : decode cX1_mergePair 142 = .ok (.iastore, 1) := by decide +kernel
theorem dX1_mergePair_143 : decode cX1_mergePair 143 = .ok (.aload_n 0, 1) := by decide +kernel
theorem dX1_mergePair_144 : decode cX1_mergePair 144 = .ok (.dup, 1) := by decide +kernel
theorem dX1_mergePair_145 : decode cX1_mergePair 145 = .ok (.getfield 57, 3) := by decide +kernel
theorem dX1_mergePair_148 : decode cX1_mergePair 148 = .ok (.iconst 1, 1) := by decide +kernel
theorem dX1_mergePair_149 : decode cX1_mergePair 149 = .ok (.isub, 1) := by decide +kernel
theorem dX1_mergePair_150 : decode cX1_mergePair 150 = .ok (.putfield 57, 3) := by decide +kernel
theorem dX1_mergePair_153 : decode cX1_mergePair 153 = .ok (.aload_n 0, 1) := by decide +kernel
theorem dX1_mergePair_154 : decode cX1_mergePair 154 = .ok (.getfield 27, 3) := by decide +kernel
theorem dX1_mergePair_157 : decode cX1_mergePair 157 = .ok (.iload_n 3, 1) := by decide +kernel
theorem dX1_mergePair_158 : decode cX1_mergePair 158 = .ok (.aload_n 0, 1) := by decide +kernel
theorem dX1_mergePair_159 : decode cX1_mergePair 159 = .ok (.getfield 27, 3) := by decide +kernel
theorem dX1_mergePair_162 : decode cX1_mergePair 162 = .ok (.aload_n 0, 1) := by decide +kernel
theorem dX1_mergePair_163 : decode cX1_mergePair 163 = .ok (.getfield 57, 3) := by decide +kernel
theorem dX1_mergePair_166 : decode cX1_mergePair 166 = .ok (.iaload, 1) := by decide +kernel
theorem dX1_mergePair_167 : decode cX1_mergePair 167 = .ok (.iastore, 1) := by decide +kernel
theorem dX1_mergePair_168 : decode cX1_mergePair 168 = .ok (.iconst 1, 1) := by decide +kernel
theorem dX1_mergePair_169 : decode cX1_mergePair 169 = .ok (.ireturn, 1) := by decide +kernel
theorem dX1_savingOf_0 : decode cX1_savingOf 0 = .ok (.aload_n 0, 1) := by decide +kernel
theorem dX1_savingOf_1 : decode cX1_savingOf 1 = .ok (.getfield 15, 3) := by decide +kernel
theorem dX1_savingOf_4 : decode cX1_savingOf 4 = .ok (.iload_n 1, 1) := by decide +kernel
theorem dX1_savingOf_5 : decode cX1_savingOf 5 = .ok (.iload_n 2, 1) := by decide +kernel
theorem dX1_savingOf_6 : decode cX1_savingOf 6 = .ok (.ior, 1) := by decide +kernel
theorem dX1_savingOf_7 : decode cX1_savingOf 7 = .ok (.iaload, 1) := by decide +kernel
theorem dX1_savingOf_8 : decode cX1_savingOf 8 = .ok (.istore_n 3, 1) := by decide +kernel
theorem dX1_savingOf_9 : decode cX1_savingOf 9 = .ok (.iload_n 3, 1) := by decide +kernel
theorem dX1_savingOf_10 : decode cX1_savingOf 10 = .ok (.iconst (-1), 1) := by decide +kernel
theorem dX1_savingOf_11 : decode cX1_savingOf 11 = .ok (.if_icmp .ne 7, 3) := by decide +kernel
theorem dX1_savingOf_14 : decode cX1_savingOf 14 = .ok (.iconst 0, 1) := by decide +kernel
theorem dX1_savingOf_15 : decode cX1_savingOf 15 = .ok (.goto 18, 3) := by decide +kernel
theorem dX1_savingOf_18 : decode cX1_savingOf 18 = .ok (.aload_n 0, 1) := by decide +kernel
theorem dX1_savingOf_19 : decode cX1_savingOf 19 = .ok (.getfield 15, 3) := by decide +kernel
theorem dX1_savingOf_22 : decode cX1_savingOf 22 = .ok (.iload_n 1, 1) := by decide +kernel
theorem dX1_savingOf_23 : decode cX1_savingOf 23 = .ok (.iaload, 1) := by decide +kernel
theorem dX1_savingOf_24 : decode cX1_savingOf 24 = .ok (.aload_n 0, 1) := by decide +kernel
theorem dX1_savingOf_25 : decode cX1_savingOf 25 = .ok (.getfield 15, 3) := by decide +kernel
theorem dX1_savingOf_28 : decode cX1_savingOf 28 = .ok (.iload_n 2, 1) := by decide +kernel
theorem dX1_savingOf_29 : decode cX1_savingOf 29 = .ok (.iaload, 1) := by decide +kernel
theorem dX1_savingOf_30 : decode cX1_savingOf 30 = .ok (.iadd, 1) := by decide +kernel
theorem dX1_savingOf_31 : decode cX1_savingOf 31 = .ok (.iload_n 3, 1) := by decide +kernel
theorem dX1_savingOf_32 : decode cX1_savingOf 32 = .ok (.isub, 1) := by decide +kernel
theorem dX1_savingOf_33 : decode cX1_savingOf 33 = .ok (.ireturn, 1) := by decide +kernel
theorem dX1_comesBefore_0 : decode cX1_comesBefore 0 = .ok (.aload_n 0, 1) := by decide +kernel
theorem dX1_comesBefore_1 : decode cX1_comesBefore 1 = .ok (.getfield 27, 3) := by decide +kernel
theorem dX1_comesBefore_4 : decode cX1_comesBefore 4 = .ok (.iload_n 1, 1) := by decide +kernel
theorem dX1_comesBefore_5 : decode cX1_comesBefore 5 = .ok (.iaload, 1) := by decide +kernel
theorem dX1_comesBefore_6 : decode cX1_comesBefore 6 = .ok (.aload_n 0, 1) := by decide +kernel
theorem dX1_comesBefore_7 : decode cX1_comesBefore 7 = .ok (.getfield 27, 3) := by decide +kernel
theorem dX1_comesBefore_10 : decode cX1_comesBefore 10 = .ok (.iload_n 3, 1) := by decide +kernel
theorem dX1_comesBefore_11 : decode cX1_comesBefore 11 = .ok (.iaload, 1) := by decide +kernel
theorem dX1_comesBefore_12 : decode cX1_comesBefore 12 = .ok (.if_icmp .eq 24, 3) := by decide +kernel
theorem dX1_comesBefore_15 : decode cX1_comesBefore 15 = .ok (.aload_n 0, 1) := by decide +kernel
theorem dX1_comesBefore_16 : decode cX1_comesBefore 16 = .ok (.getfield 27, 3) := by decide +kernel
theorem dX1_comesBefore_19 : decode cX1_comesBefore 19 = .ok (.iload_n 1, 1) := by decide +kernel
theorem dX1_comesBefore_20 : decode cX1_comesBefore 20 = .ok (.iaload, 1) := by decide +kernel
theorem dX1_comesBefore_21 : decode cX1_comesBefore 21 = .ok (.aload_n 0, 1) := by decide +kernel
theorem dX1_comesBefore_22 : decode cX1_comesBefore 22 = .ok (.getfield 27, 3) := by decide +kernel
theorem dX1_comesBefore_25 : decode cX1_comesBefore 25 = .ok (.iload_n 3, 1) := by decide +kernel
theorem dX1_comesBefore_26 : decode cX1_comesBefore 26 = .ok (.iaload, 1) := by decide +kernel
theorem dX1_comesBefore_27 : decode cX1_comesBefore 27 = .ok (.if_icmp .ge 7, 3) := by decide +kernel
theorem dX1_comesBefore_30 : decode cX1_comesBefore 30 = .ok (.iconst 1, 1) := by decide +kernel
theorem dX1_comesBefore_31 : decode cX1_comesBefore 31 = .ok (.goto 4, 3) := by decide +kernel
theorem dX1_comesBefore_34 : decode cX1_comesBefore 34 = .ok (.iconst 0, 1) := by decide +kernel
theorem dX1_comesBefore_35 : decode cX1_comesBefore 35 = .ok (.ireturn, 1) := by decide +kernel
theorem dX1_comesBefore_36 : decode cX1_comesBefore 36 = .ok (.aload_n 0, 1) := by decide +kernel
theorem dX1_comesBefore_37 : decode cX1_comesBefore 37 = .ok (.getfield 27, 3) := by decide +kernel
theorem dX1_comesBefore_40 : decode cX1_comesBefore 40 = .ok (.iload_n 2, 1) := by decide +kernel
theorem dX1_comesBefore_41 : decode cX1_comesBefore 41 = .ok (.iaload, 1) := by decide +kernel
theorem dX1_comesBefore_42 : decode cX1_comesBefore 42 = .ok (.aload_n 0, 1) := by decide +kernel
theorem dX1_comesBefore_43 : decode cX1_comesBefore 43 = .ok (.getfield 27, 3) := by decide +kernel
theorem dX1_comesBefore_46 : decode cX1_comesBefore 46 = .ok (.iload 4, 2) := by decide +kernel
theorem dX1_comesBefore_48 : decode cX1_comesBefore 48 = .ok (.iaload, 1) := by decide +kernel
theorem dX1_comesBefore_49 : decode cX1_comesBefore 49 = .ok (.if_icmp .ge 7, 3) := by decide +kernel
theorem dX1_comesBefore_52 : decode cX1_comesBefore 52 = .ok (.iconst 1, 1) := by decide +kernel
theorem dX1_comesBefore_53 : decode cX1_comesBefore 53 = .ok (.goto 4, 3) := by decide +kernel
theorem dX1_comesBefore_56 : decode cX1_comesBefore 56 = .ok (.iconst 0, 1) := by decide +kernel
theorem dX1_comesBefore_57 : decode cX1_comesBefore 57 = .ok (.ireturn, 1) := by decide +kernel
theorem dX2_init_0 : decode cX2_init 0 = .ok (.aload_n 0, 1) := by decide +kernel
theorem dX2_init_1 : decode cX2_init 1 = .ok (.invokespecial 1, 3) := by decide +kernel
theorem dX2_init_4 : decode cX2_init 4 = .ok (.aload_n 0, 1) := by decide +kernel
theorem dX2_init_5 : decode cX2_init 5 = .ok (.bipush 10, 2) := by decide +kernel
theorem dX2_init_7 : decode cX2_init 7 = .ok (.anewarray 9, 3) := by decide +kernel
theorem dX2_init_10 : decode cX2_init 10 = .ok (.putfield 11, 3) := by decide +kernel
theorem dX2_init_13 : decode cX2_init 13 = .ok (.aload_n 0, 1) := by decide +kernel
theorem dX2_init_14 : decode cX2_init 14 = .ok (.bipush 10, 2) := by decide +kernel
theorem dX2_init_16 : decode cX2_init 16 = .ok (.newarray .int, 2) := by decide +kernel
theorem dX2_init_18 : decode cX2_init 18 = .ok (.putfield 17, 3) := by decide +kernel
theorem dX2_init_21 : decode cX2_init 21 = .ok (.return_, 1) := by decide +kernel
theorem dX2_total_0 : decode cX2_total 0 = .ok (.aload_n 0, 1) := by decide +kernel
theorem dX2_total_1 : decode cX2_total 1 = .ok (.getfield 21, 3) := by decide +kernel
theorem dX2_total_4 : decode cX2_total 4 = .ok (.aload_n 0, 1) := by decide +kernel
theorem dX2_total_5 : decode cX2_total 5 = .ok (.getfield 25, 3) := by decide +kernel
theorem dX2_total_8 : decode cX2_total 8 = .ok (.iadd, 1) := by decide +kernel
theorem dX2_total_9 : decode cX2_total 9 = .ok (.aload_n 0, 1) := by decide +kernel
theorem dX2_total_10 : decode cX2_total 10 = .ok (.getfield 28, 3) := by decide +kernel
theorem dX2_total_13 : decode cX2_total 13 = .ok (.iadd, 1) := by decide +kernel
theorem dX2_total_14 : decode cX2_total 14 = .ok (.aload_n 0, 1) := by decide +kernel
theorem dX2_total_15 : decode cX2_total 15 = .ok (.getfield 31, 3) := by decide +kernel
theorem dX2_total_18 : decode cX2_total 18 = .ok (.iadd, 1) := by decide +kernel
theorem dX2_total_19 : decode cX2_total 19 = .ok (.ireturn, 1) := by decide +kernel
theorem dX2_work_0 : decode cX2_work 0 = .ok (.aload_n 0, 1) := by decide +kernel
theorem dX2_work_1 : decode cX2_work 1 = .ok (.aload_n 1, 1) := by decide +kernel
theorem dX2_work_2 : decode cX2_work 2 = .ok (.iload_n 2, 1) := by decide +kernel
theorem dX2_work_3 : decode cX2_work 3 = .ok (.invokevirtual 34, 3) := by decide +kernel
theorem dX2_work_6 : decode cX2_work 6 = .ok (.aload_n 0, 1) := by decide +kernel
theorem dX2_work_7 : decode cX2_work 7 = .ok (.iconst 0, 1) := by decide +kernel
theorem dX2_work_8 : decode cX2_work 8 = .ok (.putfield 38, 3) := by decide +kernel
theorem dX2_work_11 : decode cX2_work 11 = .ok (.aload_n 0, 1) := by decide +kernel
theorem dX2_work_12 : decode cX2_work 12 = .ok (.iconst 0, 1) := by decide +kernel
theorem dX2_work_13 : decode cX2_work 13 = .ok (.putfield 41, 3) := by decide +kernel
theorem dX2_work_16 : decode cX2_work 16 = .ok (.aload_n 0, 1) := by decide +kernel
theorem dX2_work_17 : decode cX2_work 17 = .ok (.getfield 44, 3) := by decide +kernel
theorem dX2_work_20 : decode cX2_work 20 = .ok (.ifCond .eq 18, 3) := by decide +kernel
theorem dX2_work_23 : decode cX2_work 23 = .ok (.aload_n 0, 1) := by decide +kernel
theorem dX2_work_24 : decode cX2_work 24 = .ok (.invokevirtual 47, 3) := by decide +kernel
theorem dX2_work_27 : decode cX2_work 27 = .ok (.ifCond .ne 11, 3) := by decide +kernel
theorem dX2_work_30 : decode cX2_work 30 = .ok (.aload_n 0, 1) := by decide +kernel
theorem dX2_work_31 : decode cX2_work 31 = .ok (.aload_n 1, 1) := by decide +kernel
theorem dX2_work_32 : decode cX2_work 32 = .ok (.invokevirtual 51, 3) := by decide +kernel
theorem dX2_work_35 : decode cX2_work 35 = .ok (.ifCond .eq 4, 3) := by decide +kernel
theorem dX2_work_38 : decode cX2_work 38 = .ok (.return_, 1) := by decide +kernel
theorem dX2_work_39 : decode cX2_work 39 = .ok (.aload_n 1, 1) := by decide +kernel
theorem dX2_work_40 : decode cX2_work 40 = .ok (.aload_n 0, 1) := by decide +kernel
theorem dX2_work_41 : decode cX2_work 41 = .ok (.getfield 55, 3) := by decide +kernel
theorem dX2_work_44 : decode cX2_work 44 = .ok (.invokevirtual 58, 3) := by decide +kernel
theorem dX2_work_47 : decode cX2_work 47 = .ok (.astore_n 3, 1) := by decide +kernel
theorem dX2_work_48 : decode cX2_work 48 = .ok (.aload_n 3, 1) := by decide +kernel
theorem dX2_work_49 : decode cX2_work 49 = .ok (.ifnull 11, 3) := by decide +kernel
theorem dX2_work_52 : decode cX2_work 52 = .ok (.aload_n 0, 1) := by decide +kernel
theorem dX2_work_53 : decode cX2_work 53 = .ok (.aload_n 3, 1) := by decide +kernel
theorem dX2_work_54 : decode cX2_work 54 = .ok (.invokevirtual 62, 3) := by decide +kernel
theorem dX2_work_57 : decode cX2_work 57 = .ok (.ifCond .eq 4, 3) := by decide +kernel
theorem dX2_work_60 : decode cX2_work 60 = .ok (.return_, 1) := by decide +kernel
theorem dX2_work_61 : decode cX2_work 61 = .ok (.aload_n 0, 1) := by decide +kernel
theorem dX2_work_62 : decode cX2_work 62 = .ok (.aload_n 3, 1) := by decide +kernel
theorem dX2_work_63 : decode cX2_work 63 = .ok (.invokevirtual 66, 3) := by decide +kernel
theorem dX2_work_66 : decode cX2_work 66 = .ok (.aload_n 3, 1) := by decide +kernel
theorem dX2_work_67 : decode cX2_work 67 = .ok (.aload_n 0, 1) := by decide +kernel
theorem dX2_work_68 : decode cX2_work 68 = .ok (.getfield 70, 3) := by decide +kernel
theorem dX2_work_71 : decode cX2_work 71 = .ok (.invokevirtual 73, 3) := by decide +kernel
theorem dX2_work_74 : decode cX2_work 74 = .ok (.astore 4, 2) := by decide +kernel
theorem dX2_work_76 : decode cX2_work 76 = .ok (.aload 4, 2) := by decide +kernel
theorem dX2_work_78 : decode cX2_work 78 = .ok (.ifnull 20, 3) := by decide +kernel
theorem dX2_work_81 : decode cX2_work 81 = .ok (.aload_n 0, 1) := by decide +kernel
theorem dX2_work_82 : decode cX2_work 82 = .ok (.aload_n 3, 1) := by decide +kernel
theorem dX2_work_83 : decode cX2_work 83 = .ok (.aload 4, 2) := by decide +kernel
theorem dX2_work_85 : decode cX2_work 85 = .ok (.invokevirtual 79, 3) := by decide +kernel
theorem dX2_work_88 : decode cX2_work 88 = .ok (.ifCond .ne 10, 3) := by decide +kernel
theorem dX2_work_91 : decode cX2_work 91 = .ok (.aload_n 0, 1) := by decide +kernel
theorem dX2_work_92 : decode cX2_work 92 = .ok (.invokevirtual 83, 3) := by decide +kernel
theorem dX2_work_95 : decode cX2_work 95 = .ok (.ifCond .eq 4, 3) := by decide +kernel
theorem dX2_work_98 : decode cX2_work 98 = .ok (.return_, 1) := by decide +kernel
theorem dX2_work_99 : decode cX2_work 99 = .ok (.aload_n 0, 1) := by decide +kernel
theorem dX2_work_100 : decode cX2_work 100 = .ok (.aload 4, 2) := by decide +kernel
theorem dX2_work_102 : decode cX2_work 102 = .ok (.invokevirtual 86, 3) := by decide +kernel
theorem dX2_work_105 : decode cX2_work 105 = .ok (.aload_n 0, 1) := by decide +kernel
theorem dX2_work_106 : decode cX2_work 106 = .ok (.aload_n 3, 1) := by decide +kernel
theorem dX2_work_107 : decode cX2_work 107 = .ok (.invokevirtual 90, 3) := by decide +kernel
theorem dX2_work_110 : decode cX2_work 110 = .ok (.aload_n 0, 1) := by decide +kernel
theorem dX2_work_111 : decode cX2_work 111 = .ok (.aload_n 3, 1) := by decide +kernel
theorem dX2_work_112 : decode cX2_work 112 = .ok (.getfield 93, 3) := by decide +kernel
theorem dX2_work_115 : decode cX2_work 115 = .ok (.aload_n 0, 1) := by decide +kernel
theorem dX2_work_116 : decode cX2_work 116 = .ok (.getfield 44, 3) := by decide +kernel
theorem dX2_work_119 : decode cX2_work 119 = .ok (.iconst 1, 1) := by decide +kernel
theorem dX2_work_120 : decode cX2_work 120 = .ok (.isub, 1) := by decide +kernel
theorem dX2_work_121 : decode cX2_work 121 = .ok (.imul, 1) := by decide +kernel
theorem dX2_work_122 : decode cX2_work 122 = .ok (.putfield 28, 3) := by decide +kernel
theorem dX2_work_125 : decode cX2_work 125 = .ok (.aload_n 0, 1) := by decide +kernel
theorem dX2_work_126 : decode cX2_work 126 = .ok (.aload_n 0, 1) := by decide +kernel
theorem dX2_work_127 : decode cX2_work 127 = .ok (.getfield 21, 3) := by decide +kernel
theorem dX2_work_130 : decode cX2_work 130 = .ok (.aload_n 0, 1) := by decide +kernel
theorem dX2_work_131 : decode cX2_work 131 = .ok (.getfield 25, 3) := by decide +kernel
theorem dX2_work_134 : decode cX2_work 134 = .ok (.iadd, 1) := by decide +kernel
theorem dX2_work_135 : decode cX2_work 135 = .ok (.aload_n 0, 1) := by decide +kernel
theorem dX2_work_136 : decode cX2_work 136 = .ok (.getfield 28, 3) := by decide +kernel
theorem dX2_work_139 : decode cX2_work 139 = .ok (.iadd, 1) := by decide +kernel
theorem dX2_work_140 : decode cX2_work 140 = .ok (.aload_n 3, 1) := by decide +kernel
theorem dX2_work_141 : decode cX2_work 141 = .ok (.getfield 96, 3) := by decide +kernel
theorem dX2_work_144 : decode cX2_work 144 = .ok (.invokestatic 97, 3) := by decide +kernel
theorem dX2_work_147 : decode cX2_work 147 = .ok (.putfield 31, 3) := by decide +kernel
theorem dX2_work_150 : decode cX2_work 150 = .ok (.return_, 1) := by decide +kernel
theorem dX2_gather_0 : decode cX2_gather 0 = .ok (.aload_n 0, 1) := by decide +kernel
theorem dX2_gather_1 : decode cX2_gather 1 = .ok (.iconst 0, 1) := by decide +kernel
theorem dX2_gather_2 : decode cX2_gather 2 = .ok (.putfield 44, 3) := by decide +kernel
theorem dX2_gather_5 : decode cX2_gather 5 = .ok (.iconst 0, 1) := by decide +kernel
theorem dX2_gather_6 : decode cX2_gather 6 = .ok (.istore_n 3, 1) := by decide +kernel
theorem dX2_gather_7 : decode cX2_gather 7 = .ok (.iload_n 3, 1) := by decide +kernel
theorem dX2_gather_8 : decode cX2_gather 8 = .ok (.aload_n 1, 1) := by decide +kernel
theorem dX2_gather_9 : decode cX2_gather 9 = .ok (.getfield 103, 3) := by decide +kernel
theorem dX2_gather_12 : decode cX2_gather 12 = .ok (.if_icmp .ge 52, 3) := by decide +kernel
theorem dX2_gather_15 : decode cX2_gather 15 = .ok (.iload_n 2, 1) := by decide +kernel
theorem dX2_gather_16 : decode cX2_gather 16 = .ok (.iload_n 3, 1) := by decide +kernel
theorem dX2_gather_17 : decode cX2_gather 17 = .ok (.invokestatic 106, 3) := by decide +kernel
theorem dX2_gather_20 : decode cX2_gather 20 = .ok (.ifCond .eq 38, 3) := by decide +kernel
theorem dX2_gather_23 : decode cX2_gather 23 = .ok (.aload_n 0, 1) := by decide +kernel
theorem dX2_gather_24 : decode cX2_gather 24 = .ok (.getfield 11, 3) := by decide +kernel
theorem dX2_gather_27 : decode cX2_gather 27 = .ok (.aload_n 0, 1) := by decide +kernel
theorem dX2_gather_28 : decode cX2_gather 28 = .ok (.getfield 44, 3) := by decide +kernel
theorem dX2_gather_31 : decode cX2_gather 31 = .ok (.aload_n 1, 1) := by decide +kernel
theorem dX2_gather_32 : decode cX2_gather 32 = .ok (.getfield 110, 3) := by decide +kernel
theorem dX2_gather_35 : decode cX2_gather 35 = .ok (.iload_n 3, 1) := by decide +kernel
theorem dX2_gather_36 : decode cX2_gather 36 = .ok (.aaload, 1) := by decide +kernel
theorem dX2_gather_37 : decode cX2_gather 37 = .ok (.aastore, 1) := by decide +kernel
theorem dX2_gather_38 : decode cX2_gather 38 = .ok (.aload_n 0, 1) := by decide +kernel
theorem dX2_gather_39 : decode cX2_gather 39 = .ok (.getfield 17, 3) := by decide +kernel
theorem dX2_gather_42 : decode cX2_gather 42 = .ok (.aload_n 0, 1) := by decide +kernel
theorem dX2_gather_43 : decode cX2_gather 43 = .ok (.getfield 44, 3) := by decide +kernel
theorem dX2_gather_46 : decode cX2_gather 46 = .ok (.iload_n 3, 1) := by decide +kernel
theorem dX2_gather_47 : decode cX2_gather 47 = .ok (.iastore, 1) := by decide +kernel
theorem dX2_gather_48 : decode cX2_gather 48 = .ok (.aload_n 0, 1) := by decide +kernel
theorem dX2_gather_49 : decode cX2_gather 49 = .ok (.dup, 1) := by decide +kernel
theorem dX2_gather_50 : decode cX2_gather 50 = .ok (.getfield 44, 3) := by decide +kernel
theorem dX2_gather_53 : decode cX2_gather 53 = .ok (.iconst 1, 1) := by decide +kernel
theorem dX2_gather_54 : decode cX2_gather 54 = .ok (.iadd, 1) := by decide +kernel
theorem dX2_gather_55 : decode cX2_gather 55 = .ok (.putfield 44, 3) := by decide +kernel
theorem dX2_gather_58 : decode cX2_gather 58 = .ok (.iinc 3 1, 3) := by decide +kernel
theorem dX2_gather_61 : decode cX2_gather 61 = .ok (.goto (-54), 3) := by decide +kernel
theorem dX2_gather_64 : decode cX2_gather 64 = .ok (.return_, 1) := by decide +kernel
theorem dX2_refuse_0 : decode cX2_refuse 0 = .ok (.aload_n 0, 1) := by decide +kernel
theorem dX2_refuse_1 : decode cX2_refuse 1 = .ok (.iload_n 1, 1) := by decide +kernel
theorem dX2_refuse_2 : decode cX2_refuse 2 = .ok (.putfield 38, 3) := by decide +kernel
theorem dX2_refuse_5 : decode cX2_refuse 5 = .ok (.aload_n 0, 1) := by decide +kernel
theorem dX2_refuse_6 : decode cX2_refuse 6 = .ok (.iload_n 2, 1) := by decide +kernel
theorem dX2_refuse_7 : decode cX2_refuse 7 = .ok (.putfield 41, 3) := by decide +kernel
theorem dX2_refuse_10 : decode cX2_refuse 10 = .ok (.iconst 1, 1) := by decide +kernel
theorem dX2_refuse_11 : decode cX2_refuse 11 = .ok (.ireturn, 1) := by decide +kernel
theorem dX2_isRefusedForDays_0 : decode cX2_isRefusedForDays 0 = .ok (.iconst 0, 1) := by decide +kernel
theorem dX2_isRefusedForDays_1 : decode cX2_isRefusedForDays 1 = .ok (.istore_n 1, 1) := by decide +kernel
theorem dX2_isRefusedForDays_2 : decode cX2_isRefusedForDays 2 = .ok (.iload_n 1, 1) := by decide +kernel
theorem dX2_isRefusedForDays_3 : decode cX2_isRefusedForDays 3 = .ok (.aload_n 0, 1) := by decide +kernel
theorem dX2_isRefusedForDays_4 : decode cX2_isRefusedForDays 4 = .ok (.getfield 44, 3) := by decide +kernel
theorem dX2_isRefusedForDays_7 : decode cX2_isRefusedForDays 7 = .ok (.if_icmp .ge 33, 3) := by decide +kernel
theorem dX2_isRefusedForDays_10 : decode cX2_isRefusedForDays 10 = .ok (.aload_n 0, 1) := by decide +kernel
theorem dX2_isRefusedForDays_11 : decode cX2_isRefusedForDays 11 = .ok (.getfield 11, 3) := by decide +kernel
theorem dX2_isRefusedForDays_14 : decode cX2_isRefusedForDays 14 = .ok (.iload_n 1, 1) := by decide +kernel
theorem dX2_isRefusedForDays_15 : decode cX2_isRefusedForDays 15 = .ok (.aaload, 1) := by decide +kernel
theorem dX2_isRefusedForDays_16 : decode cX2_isRefusedForDays 16 = .ok (.getfield 113, 3) := by decide +kernel
theorem dX2_isRefusedForDays_19 : decode cX2_isRefusedForDays 19 = .ok (.ifCond .ne 15, 3) := by decide +kernel
theorem dX2_isRefusedForDays_22 : decode cX2_isRefusedForDays 22 = .ok (.aload_n 0, 1) := by decide +kernel
theorem dX2_isRefusedForDays_23 : decode cX2_isRefusedForDays 23 = .ok (.iconst 1, 1) := by decide +kernel
theorem dX2_isRefusedForDays_24 : decode cX2_isRefusedForDays 24 = .ok (.aload_n 0, 1) := by decide +kernel
theorem dX2_isRefusedForDays_25 : decode cX2_isRefusedForDays 25 = .ok (.getfield 17, 3) := by decide +kernel
theorem dX2_isRefusedForDays_28 : decode cX2_isRefusedForDays 28 = .ok (.iload_n 1, 1) := by decide +kernel
theorem dX2_isRefusedForDays_29 : decode cX2_isRefusedForDays 29 = .ok (.iaload, 1) := by decide +kernel
theorem dX2_isRefusedForDays_30 : decode cX2_isRefusedForDays 30 = .ok (.invokevirtual 116, 3) := by decide +kernel
theorem dX2_isRefusedForDays_33 : decode cX2_isRefusedForDays 33 = .ok (.ireturn, 1) := by decide +kernel
theorem dX2_isRefusedForDays_34 : decode cX2_isRefusedForDays 34 = .ok (.iinc 1 1, 3) := by decide +kernel
theorem dX2_isRefusedForDays_37 : decode cX2_isRefusedForDays 37 = .ok (.goto (-35), 3) := by decide +kernel
theorem dX2_isRefusedForDays_40 : decode cX2_isRefusedForDays 40 = .ok (.iconst 1, 1) := by decide +kernel
theorem dX2_isRefusedForDays_41 : decode cX2_isRefusedForDays 41 = .ok (.istore_n 1, 1) := by decide +kernel
theorem dX2_isRefusedForDays_42 : decode cX2_isRefusedForDays 42 = .ok (.iload_n 1, 1) := by decide +kernel
theorem dX2_isRefusedForDays_43 : decode cX2_isRefusedForDays 43 = .ok (.aload_n 0, 1) := by decide +kernel
theorem dX2_isRefusedForDays_44 : decode cX2_isRefusedForDays 44 = .ok (.getfield 44, 3) := by decide +kernel
theorem dX2_isRefusedForDays_47 : decode cX2_isRefusedForDays 47 = .ok (.if_icmp .ge 42, 3) := by decide +kernel
theorem dX2_isRefusedForDays_50 : decode cX2_isRefusedForDays 50 = .ok (.aload_n 0, 1) := by decide +kernel
theorem dX2_isRefusedForDays_51 : decode cX2_isRefusedForDays 51 = .ok (.getfield 11, 3) := by decide +kernel
theorem dX2_isRefusedForDays_54 : decode cX2_isRefusedForDays 54 = .ok (.iload_n 1, 1) := by decide +kernel
theorem dX2_isRefusedForDays_55 : decode cX2_isRefusedForDays 55 = .ok (.aaload, 1) := by decide +kernel
theorem dX2_isRefusedForDays_56 : decode cX2_isRefusedForDays 56 = .ok (.getfield 119, 3) := by decide +kernel
theorem dX2_isRefusedForDays_59 : decode cX2_isRefusedForDays 59 = .ok (.aload_n 0, 1) := by decide +kernel
theorem dX2_isRefusedForDays_60 : decode cX2_isRefusedForDays 60 = .ok (.getfield 11, 3) := by decide +kernel
theorem dX2_isRefusedForDays_63 : decode cX2_isRefusedForDays 63 = .ok (.iconst 0, 1) := by decide +kernel
theorem dX2_isRefusedForDays_64 : decode cX2_isRefusedForDays 64 = .ok (.aaload, 1) := by decide +kernel
theorem dX2_isRefusedForDays_65 : decode cX2_isRefusedForDays 65 = .ok (.getfield 119, 3) := by decide +kernel
theorem dX2_isRefusedForDays_68 : decode cX2_isRefusedForDays 68 = .ok (.if_icmp .eq 15, 3) := by decide +kernel
theorem dX2_isRefusedForDays_71 : decode cX2_isRefusedForDays 71 = .ok (.aload_n 0, 1) := by decide +kernel
theorem dX2_isRefusedForDays_72 : decode cX2_isRefusedForDays 72 = .ok (.iconst 2, 1) := by decide +kernel
theorem dX2_isRefusedForDays_73 : decode cX2_isRefusedForDays 73 = .ok (.aload_n 0, 1) := by decide +kernel
theorem dX2_isRefusedForDays_74 : decode cX2_isRefusedForDays 74 = .ok (.getfield 17, 3) := by decide +kernel
theorem dX2_isRefusedForDays_77 : decode cX2_isRefusedForDays 77 = .ok (.iload_n 1, 1) := by decide +kernel
theorem dX2_isRefusedForDays_78 : decode cX2_isRefusedForDays 78 = .ok (.iaload, 1) := by decide +kernel
theorem dX2_isRefusedForDays_79 : decode cX2_isRefusedForDays 79 = .ok (.invokevirtual 116, 3) := by decide +kernel
theorem dX2_isRefusedForDays_82 : decode cX2_isRefusedForDays 82 = .ok (.ireturn, 1) := by decide +kernel
theorem dX2_isRefusedForDays_83 : decode cX2_isRefusedForDays 83 = .ok (.iinc 1 1, 3) := by decide +kernel
theorem dX2_isRefusedForDays_86 : decode cX2_isRefusedForDays 86 = .ok (.goto (-44), 3) := by decide +kernel
theorem dX2_isRefusedForDays_89 : decode cX2_isRefusedForDays 89 = .ok (.iconst 0, 1) := by decide +kernel
theorem dX2_isRefusedForDays_90 : decode cX2_isRefusedForDays 90 = .ok (.ireturn, 1) := by decide +kernel
theorem dX2_isRefusedForVersion_0 : decode cX2_isRefusedForVersion 0 = .ok (.aload_n 0, 1) := by decide +kernel
theorem dX2_isRefusedForVersion_1 : decode cX2_isRefusedForVersion 1 = .ok (.getfield 11, 3) := by decide +kernel
theorem dX2_isRefusedForVersion_4 : decode cX2_isRefusedForVersion 4 = .ok (.iconst 0, 1) := by decide +kernel
theorem dX2_isRefusedForVersion_5 : decode cX2_isRefusedForVersion 5 = .ok (.aaload, 1) := by decide +kernel
theorem dX2_isRefusedForVersion_6 : decode cX2_isRefusedForVersion 6 = .ok (.getfield 119, 3) := by decide +kernel
theorem dX2_isRefusedForVersion_9 : decode cX2_isRefusedForVersion 9 = .ok (.istore_n 2, 1) := by decide +kernel
theorem dX2_isRefusedForVersion_10 : decode cX2_isRefusedForVersion 10 = .ok (.aload_n 0, 1) := by decide +kernel
theorem dX2_isRefusedForVersion_11 : decode cX2_isRefusedForVersion 11 = .ok (.aload_n 1, 1) := by decide +kernel
theorem dX2_isRefusedForVersion_12 : decode cX2_isRefusedForVersion 12 = .ok (.iload_n 2, 1) := by decide +kernel
theorem dX2_isRefusedForVersion_13 : decode cX2_isRefusedForVersion 13 = .ok (.invokevirtual 122, 3) := by decide +kernel
theorem dX2_isRefusedForVersion_16 : decode cX2_isRefusedForVersion 16 = .ok (.putfield 55, 3) := by decide +kernel
theorem dX2_isRefusedForVersion_19 : decode cX2_isRefusedForVersion 19 = .ok (.aload_n 0, 1) := by decide +kernel
theorem dX2_isRefusedForVersion_20 : decode cX2_isRefusedForVersion 20 = .ok (.getfield 55, 3) := by decide +kernel
theorem dX2_isRefusedForVersion_23 : decode cX2_isRefusedForVersion 23 = .ok (.ifCond .ge 16, 3) := by decide +kernel
theorem dX2_isRefusedForVersion_26 : decode cX2_isRefusedForVersion 26 = .ok (.aload_n 0, 1) := by decide +kernel
theorem dX2_isRefusedForVersion_27 : decode cX2_isRefusedForVersion 27 = .ok (.iconst 3, 1) := by decide +kernel
theorem dX2_isRefusedForVersion_28 : decode cX2_isRefusedForVersion 28 = .ok (.iload_n 2, 1) := by decide +kernel
theorem dX2_isRefusedForVersion_29 : decode cX2_isRefusedForVersion 29 = .ok (.invokevirtual 116, 3) := by decide +kernel
theorem dX2_isRefusedForVersion_32 : decode cX2_isRefusedForVersion 32 = .ok (.ifCond .eq 7, 3) := by decide +kernel
theorem dX2_isRefusedForVersion_35 : decode cX2_isRefusedForVersion 35 = .ok (.iconst 1, 1) := by decide +kernel
theorem dX2_isRefusedForVersion_36 : decode cX2_isRefusedForVersion 36 = .ok (.goto 4, 3) := by decide +kernel
theorem dX2_isRefusedForVersion_39 : decode cX2_isRefusedForVersion 39 = .ok (.iconst 0, 1) := by decide +kernel
theorem dX2_isRefusedForVersion_40 : decode cX2_isRefusedForVersion 40 = .ok (.ireturn, 1) := by decide +kernel
theorem dX2_isRefusedForZones_0 : decode cX2_isRefusedForZones 0 = .ok (.iconst (-1), 1) := by decide +kernel
theorem dX2_isRefusedForZones_1 : decode cX2_isRefusedForZones 1 = .ok (.istore_n 2, 1) := by decide +kernel
theorem dX2_isRefusedForZones_2 : decode cX2_isRefusedForZones 2 = .ok (.iconst 0, 1) := by decide +kernel
theorem dX2_isRefusedForZones_3 : decode cX2_isRefusedForZones 3 = .ok (.istore_n 3, 1) := by decide +kernel
theorem dX2_isRefusedForZones_4 : decode cX2_isRefusedForZones 4 = .ok (.iload_n 3, 1) := by decide +kernel
theorem dX2_isRefusedForZones_5 : decode cX2_isRefusedForZones 5 = .ok (.aload_n 0, 1) := by decide +kernel
theorem dX2_isRefusedForZones_6 : decode cX2_isRefusedForZones 6 = .ok (.getfield 44, 3) := by decide +kernel
theorem dX2_isRefusedForZones_9 : decode cX2_isRefusedForZones 9 = .ok (.if_icmp .ge 74, 3) := by decide +kernel
theorem dX2_isRefusedForZones_12 : decode cX2_isRefusedForZones 12 = .ok (.aload_n 1, 1) := by decide +kernel
theorem dX2_isRefusedForZones_13 : decode cX2_isRefusedForZones 13 = .ok (.aload_n 0, 1) := by decide +kernel
theorem dX2_isRefusedForZones_14 : decode cX2_isRefusedForZones 14 = .ok (.getfield 11, 3) := by decide +kernel
theorem dX2_isRefusedForZones_17 : decode cX2_isRefusedForZones 17 = .ok (.iload_n 3, 1) := by decide +kernel
theorem dX2_isRefusedForZones_18 : decode cX2_isRefusedForZones 18 = .ok (.aaload, 1) := by decide +kernel
theorem dX2_isRefusedForZones_19 : decode cX2_isRefusedForZones 19 = .ok (.getfield 126, 3) := by decide +kernel
theorem dX2_isRefusedForZones_22 : decode cX2_isRefusedForZones 22 = .ok (.invokevirtual 129, 3) := by decide +kernel
theorem dX2_isRefusedForZones_25 : decode cX2_isRefusedForZones 25 = .ok (.istore 4, 2) := by decide +kernel
theorem dX2_isRefusedForZones_27 : decode cX2_isRefusedForZones 27 = .ok (.iload 4, 2) := by decide +kernel
theorem dX2_isRefusedForZones_29 : decode cX2_isRefusedForZones 29 = .ok (.ifCond .ne 15, 3) := by decide +kernel
theorem dX2_isRefusedForZones_32 : decode cX2_isRefusedForZones 32 = .ok (.aload_n 0, 1) := by decide +kernel
theorem dX2_isRefusedForZones_33 : decode cX2_isRefusedForZones 33 = .ok (.iconst 4, 1) := by decide +kernel
theorem dX2_isRefusedForZones_34 : decode cX2_isRefusedForZones 34 = .ok (.aload_n 0, 1) := by decide +kernel
theorem dX2_isRefusedForZones_35 : decode cX2_isRefusedForZones 35 = .ok (.getfield 17, 3) := by decide +kernel
theorem dX2_isRefusedForZones_38 : decode cX2_isRefusedForZones 38 = .ok (.iload_n 3, 1) := by decide +kernel
theorem dX2_isRefusedForZones_39 : decode cX2_isRefusedForZones 39 = .ok (.iaload, 1) := by decide +kernel
theorem dX2_isRefusedForZones_40 : decode cX2_isRefusedForZones 40 = .ok (.invokevirtual 116, 3) := by decide +kernel
theorem dX2_isRefusedForZones_43 : decode cX2_isRefusedForZones 43 = .ok (.ireturn, 1) := by decide +kernel
theorem dX2_isRefusedForZones_44 : decode cX2_isRefusedForZones 44 = .ok (.iload_n 3, 1) := by decide +kernel
theorem dX2_isRefusedForZones_45 : decode cX2_isRefusedForZones 45 = .ok (.ifCond .ne 12, 3) := by decide +kernel
theorem dX2_isRefusedForZones_48 : decode cX2_isRefusedForZones 48 = .ok (.aload_n 0, 1) := by decide +kernel
theorem dX2_isRefusedForZones_49 : decode cX2_isRefusedForZones 49 = .ok (.iload 4, 2) := by decide +kernel
theorem dX2_isRefusedForZones_51 : decode cX2_isRefusedForZones 51 = .ok (.putfield 70, 3) := by decide +kernel
theorem dX2_isRefusedForZones_54 : decode cX2_isRefusedForZones 54 = .ok (.goto 23, 3) := by decide +kernel
theorem dX2_isRefusedForZones_57 : decode cX2_isRefusedForZones 57 = .ok (.iload 4, 2) := by decide +kernel
theorem dX2_isRefusedForZones_59 : decode cX2_isRefusedForZones 59 = .ok (.aload_n 0, 1) := by decide +kernel
theorem dX2_isRefusedForZones_60 : decode cX2_isRefusedForZones 60 = .ok (.getfield 70, 3) := by decide +kernel
theorem dX2_isRefusedForZones_63 : decode cX2_isRefusedForZones 63 = .ok (.if_icmp .eq 14, 3) := by decide +kernel
theorem dX2_isRefusedForZones_66 : decode cX2_isRefusedForZones 66 = .ok (.iload_n 2, 1) := by decide +kernel
theorem dX2_isRefusedForZones_67 : decode cX2_isRefusedForZones 67 = .ok (.ifCond .ge 10, 3) := by decide +kernel
theorem dX2_isRefusedForZones_70 : decode cX2_isRefusedForZones 70 = .ok (.aload_n 0, 1) := by decide +kernel
theorem dX2_isRefusedForZones_71 : decode cX2_isRefusedForZones 71 = .ok (.getfield 17, 3) := by decide +kernel
theorem dX2_isRefusedForZones_74 : decode cX2_isRefusedForZones 74 = .ok (.iload_n 3, 1) := by decide +kernel
theorem dX2_isRefusedForZones_75 : decode cX2_isRefusedForZones 75 = .ok (.iaload, 1) := by decide +kernel
theorem dX2_isRefusedForZones_76 : decode cX2_isRefusedForZones 76 = .ok (.istore_n 2, 1) := by decide +kernel
theorem dX2_isRefusedForZones_77 : decode cX2_isRefusedForZones 77 = .ok (.iinc 3 1, 3) := by decide +kernel
theorem dX2_isRefusedForZones_80 : decode cX2_isRefusedForZones 80 = .ok (.goto (-76), 3) := by decide +kernel
theorem dX2_isRefusedForZones_83 : decode cX2_isRefusedForZones 83 = .ok (.iload_n 2, 1) := by decide +kernel
theorem dX2_isRefusedForZones_84 : decode cX2_isRefusedForZones 84 = .ok (.ifCond .lt 16, 3) := by decide +kernel
theorem dX2_isRefusedForZones_87 : decode cX2_isRefusedForZones 87 = .ok (.aload_n 0, 1) := by decide +kernel
theorem dX2_isRefusedForZones_88 : decode cX2_isRefusedForZones 88 = .ok (.iconst 5, 1) := by decide +kernel
theorem dX2_isRefusedForZones_89 : decode cX2_isRefusedForZones 89 = .ok (.iload_n 2, 1) := by decide +kernel
theorem dX2_isRefusedForZones_90 : decode cX2_isRefusedForZones 90 = .ok (.invokevirtual 116, 3) := by decide +kernel
theorem dX2_isRefusedForZones_93 : decode cX2_isRefusedForZones 93 = .ok (.ifCond .eq 7, 3) := by decide +kernel
theorem dX2_isRefusedForZones_96 : decode cX2_isRefusedForZones 96 = .ok (.iconst 1, 1) := by decide +kernel
theorem dX2_isRefusedForZones_97 : decode cX2_isRefusedForZones 97 = .ok (.goto 4, 3) := by decide +kernel
theorem dX2_isRefusedForZones_100 : decode cX2_isRefusedForZones 100 = .ok (.iconst 0, 1) := by decide +kernel
theorem dX2_isRefusedForZones_101 : decode cX2_isRefusedForZones 101 = .ok (.ireturn, 1) := by decide +kernel
theorem dX2_isRefusedForCharges_0 : decode cX2_isRefusedForCharges 0 = .ok (.aload_n 2, 1) := by decide +kernel
theorem dX2_isRefusedForCharges_1 : decode cX2_isRefusedForCharges 1 = .ok (.getfield 132, 3) := by decide +kernel
theorem dX2_isRefusedForCharges_4 : decode cX2_isRefusedForCharges 4 = .ok (.ifCond .ne 14, 3) := by decide +kernel
theorem dX2_isRefusedForCharges_7 : decode cX2_isRefusedForCharges 7 = .ok (.aload_n 0, 1) := by decide +kernel
theorem dX2_isRefusedForCharges_8 : decode cX2_isRefusedForCharges 8 = .ok (.bipush 6, 2) := by decide +kernel
theorem dX2_isRefusedForCharges_10 : decode cX2_isRefusedForCharges 10 = .ok (.aload_n 0, 1) := by decide +kernel
theorem dX2_isRefusedForCharges_11 : decode cX2_isRefusedForCharges 11 = .ok (.getfield 70, 3) := by decide +kernel
theorem dX2_isRefusedForCharges_14 : decode cX2_isRefusedForCharges 14 = .ok (.invokevirtual 116, 3) := by decide +kernel
theorem dX2_isRefusedForCharges_17 : decode cX2_isRefusedForCharges 17 = .ok (.ireturn, 1) := by decide +kernel
theorem dX2_isRefusedForCharges_18 : decode cX2_isRefusedForCharges 18 = .ok (.aload_n 0, 1) := by decide +kernel
theorem dX2_isRefusedForCharges_19 : decode cX2_isRefusedForCharges 19 = .ok (.getfield 44, 3) := by decide +kernel
theorem dX2_isRefusedForCharges_22 : decode cX2_isRefusedForCharges 22 = .ok (.iconst 1, 1) := by decide +kernel
theorem dX2_isRefusedForCharges_23 : decode cX2_isRefusedForCharges 23 = .ok (.if_icmp .le 31, 3) := by decide +kernel
theorem dX2_isRefusedForCharges_26 : decode cX2_isRefusedForCharges 26 = .ok (.aload_n 0, 1) := by decide +kernel
theorem dX2_isRefusedForCharges_27 : decode cX2_isRefusedForCharges 27 = .ok (.getfield 135, 3) := by decide +kernel
theorem dX2_isRefusedForCharges_30 : decode cX2_isRefusedForCharges 30 = .ok (.aload_n 1, 1) := by decide +kernel
theorem dX2_isRefusedForCharges_31 : decode cX2_isRefusedForCharges 31 = .ok (.getfield 138, 3) := by decide +kernel
theorem dX2_isRefusedForCharges_34 : decode cX2_isRefusedForCharges 34 = .ok (.if_icmp .le 20, 3) := by decide +kernel
theorem dX2_isRefusedForCharges_37 : decode cX2_isRefusedForCharges 37 = .ok (.aload_n 0, 1) := by decide +kernel
theorem dX2_isRefusedForCharges_38 : decode cX2_isRefusedForCharges 38 = .ok (.bipush 7, 2) := by decide +kernel
theorem dX2_isRefusedForCharges_40 : decode cX2_isRefusedForCharges 40 = .ok (.aload_n 0, 1) := by decide +kernel
theorem dX2_isRefusedForCharges_41 : decode cX2_isRefusedForCharges 41 = .ok (.getfield 135, 3) := by decide +kernel
theorem dX2_isRefusedForCharges_44 : decode cX2_isRefusedForCharges 44 = .ok (.invokevirtual 116, 3) := by decide +kernel
theorem dX2_isRefusedForCharges_47 : decode cX2_isRefusedForCharges 47 = .ok (.ifCond .eq 7, 3) := by decide +kernel
theorem dX2_isRefusedForCharges_50 : decode cX2_isRefusedForCharges 50 = .ok (.iconst 1, 1) := by decide +kernel
theorem dX2_isRefusedForCharges_51 : decode cX2_isRefusedForCharges 51 = .ok (.goto 4, 3) := by decide +kernel
theorem dX2_isRefusedForCharges_54 : decode cX2_isRefusedForCharges 54 = .ok (.iconst 0, 1) := by decide +kernel
theorem dX2_isRefusedForCharges_55 : decode cX2_isRefusedForCharges 55 = .ok (.ireturn, 1) := by decide +kernel
theorem dX2_isRefusedForHandlings_0 : decode cX2_isRefusedForHandlings 0 = .ok (.iconst 0, 1) := by decide +kernel
theorem dX2_isRefusedForHandlings_1 : decode cX2_isRefusedForHandlings 1 = .ok (.istore_n 1, 1) := by decide +kernel
theorem dX2_isRefusedForHandlings_2 : decode cX2_isRefusedForHandlings 2 = .ok (.iload_n 1, 1) := by decide +kernel
theorem dX2_isRefusedForHandlings_3 : decode cX2_isRefusedForHandlings 3 = .ok (.aload_n 0, 1) := by decide +kernel
theorem dX2_isRefusedForHandlings_4 : decode cX2_isRefusedForHandlings 4 = .ok (.getfield 44, 3) := by decide +kernel
theorem dX2_isRefusedForHandlings_7 : decode cX2_isRefusedForHandlings 7 = .ok (.if_icmp .ge 99, 3) := by decide +kernel
theorem dX2_isRefusedForHandlings_10 : decode cX2_isRefusedForHandlings 10 = .ok (.iconst 0, 1) := by decide +kernel
theorem dX2_isRefusedForHandlings_11 : decode cX2_isRefusedForHandlings 11 = .ok (.istore_n 2, 1) := by decide +kernel
theorem dX2_isRefusedForHandlings_12 : decode cX2_isRefusedForHandlings 12 = .ok (.iconst 0, 1) := by decide +kernel
theorem dX2_isRefusedForHandlings_13 : decode cX2_isRefusedForHandlings 13 = .ok (.istore_n 3, 1) := by decide +kernel
theorem dX2_isRefusedForHandlings_14 : decode cX2_isRefusedForHandlings 14 = .ok (.iload_n 3, 1) := by decide +kernel
theorem dX2_isRefusedForHandlings_15 : decode cX2_isRefusedForHandlings 15 = .ok (.aload_n 0, 1) := by decide +kernel
theorem dX2_isRefusedForHandlings_16 : decode cX2_isRefusedForHandlings 16 = .ok (.getfield 44, 3) := by decide +kernel
theorem dX2_isRefusedForHandlings_19 : decode cX2_isRefusedForHandlings 19 = .ok (.if_icmp .ge 26, 3) := by decide +kernel
theorem dX2_isRefusedForHandlings_22 : decode cX2_isRefusedForHandlings 22 = .ok (.iload_n 3, 1) := by decide +kernel
theorem dX2_isRefusedForHandlings_23 : decode cX2_isRefusedForHandlings 23 = .ok (.iload_n 1, 1) := by decide +kernel
theorem dX2_isRefusedForHandlings_24 : decode cX2_isRefusedForHandlings 24 = .ok (.if_icmp .eq 15, 3) := by decide +kernel
theorem dX2_isRefusedForHandlings_27 : decode cX2_isRefusedForHandlings 27 = .ok (.iload_n 2, 1) := by decide +kernel
theorem dX2_isRefusedForHandlings_28 : decode cX2_isRefusedForHandlings 28 = .ok (.aload_n 0, 1) := by decide +kernel
theorem dX2_isRefusedForHandlings_29 : decode cX2_isRefusedForHandlings 29 = .ok (.getfield 11, 3) := by decide +kernel
theorem dX2_isRefusedForHandlings_32 : decode cX2_isRefusedForHandlings 32 = .ok (.iload_n 3, 1) := by decide +kernel
theorem dX2_isRefusedForHandlings_33 : decode cX2_isRefusedForHandlings 33 = .ok (.aaload, 1) := by decide +kernel
theorem dX2_isRefusedForHandlings_34 : decode cX2_isRefusedForHandlings 34 = .ok (.getfield 141, 3) := by decide +kernel
theorem dX2_isRefusedForHandlings_37 : decode cX2_isRefusedForHandlings 37 = .ok (.ior, 1) := by decide +kernel
theorem dX2_isRefusedForHandlings_38 : decode cX2_isRefusedForHandlings 38 = .ok (.istore_n 2, 1) := by decide +kernel
theorem dX2_isRefusedForHandlings_39 : decode cX2_isRefusedForHandlings 39 = .ok (.iinc 3 1, 3) := by decide +kernel
theorem dX2_isRefusedForHandlings_42 : decode cX2_isRefusedForHandlings 42 = .ok (.goto (-28), 3) := by decide +kernel
theorem dX2_isRefusedForHandlings_45 : decode cX2_isRefusedForHandlings 45 = .ok (.aload_n 0, 1) := by decide +kernel
theorem dX2_isRefusedForHandlings_46 : decode cX2_isRefusedForHandlings 46 = .ok (.getfield 11, 3) := by decide +kernel
theorem dX2_isRefusedForHandlings_49 : decode cX2_isRefusedForHandlings 49 = .ok (.iload_n 1, 1) := by decide +kernel
theorem dX2_isRefusedForHandlings_50 : decode cX2_isRefusedForHandlings 50 = .ok (.aaload, 1) := by decide +kernel
theorem dX2_isRefusedForHandlings_51 : decode cX2_isRefusedForHandlings 51 = .ok (.getfield 141, 3) := by decide +kernel
theorem dX2_isRefusedForHandlings_54 : decode cX2_isRefusedForHandlings 54 = .ok (.istore_n 3, 1) := by decide +kernel
theorem dX2_isRefusedForHandlings_55 : decode cX2_isRefusedForHandlings 55 = .ok (.iload_n 3, 1) := by decide +kernel
theorem dX2_isRefusedForHandlings_56 : decode cX2_isRefusedForHandlings 56 = .ok (.iconst 0, 1) := by decide +kernel
theorem dX2_isRefusedForHandlings_57 : decode cX2_isRefusedForHandlings 57 = .ok (.invokestatic 106, 3) := by decide +kernel
theorem dX2_isRefusedForHandlings_60 : decode cX2_isRefusedForHandlings 60 = .ok (.ifCond .eq 11, 3) := by decide +kernel
theorem dX2_isRefusedForHandlings_63 : decode cX2_isRefusedForHandlings 63 = .ok (.iload_n 2, 1) := by decide +kernel
theorem dX2_isRefusedForHandlings_64 : decode cX2_isRefusedForHandlings 64 = .ok (.iconst 1, 1) := by decide +kernel
theorem dX2_isRefusedForHandlings_65 : decode cX2_isRefusedForHandlings 65 = .ok (.invokestatic 106, 3) := by decide +kernel
theorem dX2_isRefusedForHandlings_68 : decode cX2_isRefusedForHandlings 68 = .ok (.ifCond .ne 19, 3) := by decide +kernel
theorem dX2_isRefusedForHandlings_71 : decode cX2_isRefusedForHandlings 71 = .ok (.iload_n 3, 1) := by decide +kernel
theorem dX2_isRefusedForHandlings_72 : decode cX2_isRefusedForHandlings 72 = .ok (.iconst 1, 1) := by decide +kernel
theorem dX2_isRefusedForHandlings_73 : decode cX2_isRefusedForHandlings 73 = .ok (.invokestatic 106, 3) := by decide +kernel
theorem dX2_isRefusedForHandlings_76 : decode cX2_isRefusedForHandlings 76 = .ok (.ifCond .eq 24, 3) := by decide +kernel
theorem dX2_isRefusedForHandlings_79 : decode cX2_isRefusedForHandlings 79 = .ok (.iload_n 2, 1) := by decide +kernel
theorem dX2_isRefusedForHandlings_80 : decode cX2_isRefusedForHandlings 80 = .ok (.iconst 0, 1) := by decide +kernel
theorem dX2_isRefusedForHandlings_81 : decode cX2_isRefusedForHandlings 81 = .ok (.invokestatic 106, 3) := by decide +kernel
theorem dX2_isRefusedForHandlings_84 : decode cX2_isRefusedForHandlings 84 = .ok (.ifCond .eq 16, 3) := by decide +kernel
theorem dX2_isRefusedForHandlings_87 : decode cX2_isRefusedForHandlings 87 = .ok (.aload_n 0, 1) := by decide +kernel
theorem dX2_isRefusedForHandlings_88 : decode cX2_isRefusedForHandlings 88 = .ok (.bipush 8, 2) := by decide +kernel
theorem dX2_isRefusedForHandlings_90 : decode cX2_isRefusedForHandlings 90 = .ok (.aload_n 0, 1) := by decide +kernel
theorem dX2_isRefusedForHandlings_91 : decode cX2_isRefusedForHandlings 91 = .ok (.getfield 17, 3) := by decide +kernel
theorem dX2_isRefusedForHandlings_94 : decode cX2_isRefusedForHandlings 94 = .ok (.iload_n 1, 1) := by decide +kernel
theorem dX2_isRefusedForHandlings_95 : decode cX2_isRefusedForHandlings 95 = .ok (.iaload, 1) := by decide +kernel
theorem dX2_isRefusedForHandlings_96 : decode cX2_isRefusedForHandlings 96 = .ok (.invokevirtual 116, 3) := by decide +kernel
theorem dX2_isRefusedForHandlings_99 : decode cX2_isRefusedForHandlings 99 = .ok (.ireturn, 1) := by decide +kernel
theorem dX2_isRefusedForHandlings_100 : decode cX2_isRefusedForHandlings 100 = .ok (.iinc 1 1, 3) := by decide +kernel
theorem dX2_isRefusedForHandlings_103 : decode cX2_isRefusedForHandlings 103 = .ok (.goto (-101), 3) := by decide +kernel
theorem dX2_isRefusedForHandlings_106 : decode cX2_isRefusedForHandlings 106 = .ok (.iconst 0, 1) := by decide +kernel
theorem dX2_isRefusedForHandlings_107 : decode cX2_isRefusedForHandlings 107 = .ok (.ireturn, 1) := by decide +kernel
theorem dX2_addUp_0 : decode cX2_addUp 0 = .ok (.iconst 0, 1) := by decide +kernel
theorem dX2_addUp_1 : decode cX2_addUp 1 = .ok (.istore_n 2, 1) := by decide +kernel
theorem dX2_addUp_2 : decode cX2_addUp 2 = .ok (.iconst 0, 1) := by decide +kernel
theorem dX2_addUp_3 : decode cX2_addUp 3 = .ok (.istore_n 3, 1) := by decide +kernel
theorem dX2_addUp_4 : decode cX2_addUp 4 = .ok (.aload_n 0, 1) := by decide +kernel
theorem dX2_addUp_5 : decode cX2_addUp 5 = .ok (.iconst 0, 1) := by decide +kernel
theorem dX2_addUp_6 : decode cX2_addUp 6 = .ok (.putfield 144, 3) := by decide +kernel
theorem dX2_addUp_9 : decode cX2_addUp 9 = .ok (.aload_n 0, 1) := by decide +kernel
theorem dX2_addUp_10 : decode cX2_addUp 10 = .ok (.iconst 0, 1) := by decide +kernel
theorem dX2_addUp_11 : decode cX2_addUp 11 = .ok (.putfield 145, 3) := by decide +kernel
theorem dX2_addUp_14 : decode cX2_addUp 14 = .ok (.aload_n 0, 1) := by decide +kernel
theorem dX2_addUp_15 : decode cX2_addUp 15 = .ok (.iconst 0, 1) := by decide +kernel
theorem dX2_addUp_16 : decode cX2_addUp 16 = .ok (.putfield 146, 3) := by decide +kernel
theorem dX2_addUp_19 : decode cX2_addUp 19 = .ok (.iconst 0, 1) := by decide +kernel
theorem dX2_addUp_20 : decode cX2_addUp 20 = .ok (.istore 4, 2) := by decide +kernel
theorem dX2_addUp_22 : decode cX2_addUp 22 = .ok (.iload 4, 2) := by decide +kernel
theorem dX2_addUp_24 : decode cX2_addUp 24 = .ok (.aload_n 0, 1) := by decide +kernel
theorem dX2_addUp_25 : decode cX2_addUp 25 = .ok (.getfield 44, 3) := by decide +kernel
theorem dX2_addUp_28 : decode cX2_addUp 28 = .ok (.if_icmp .ge 82, 3) := by decide +kernel
theorem dX2_addUp_31 : decode cX2_addUp 31 = .ok (.aload_n 0, 1) := by decide +kernel
theorem dX2_addUp_32 : decode cX2_addUp 32 = .ok (.getfield 11, 3) := by decide +kernel
theorem dX2_addUp_35 : decode cX2_addUp 35 = .ok (.iload 4, 2) := by decide +kernel
theorem dX2_addUp_37 : decode cX2_addUp 37 = .ok (.aaload, 1) := by decide +kernel
theorem dX2_addUp_38 : decode cX2_addUp 38 = .ok (.astore 5, 2) := by decide +kernel
theorem dX2_addUp_40 : decode cX2_addUp 40 = .ok (.iload_n 2, 1) := by decide +kernel
theorem dX2_addUp_41 : decode cX2_addUp 41 = .ok (.aload 5, 2) := by decide +kernel
theorem dX2_addUp_43 : decode cX2_addUp 43 = .ok (.getfield 149, 3) := by decide +kernel
theorem dX2_addUp_46 : decode cX2_addUp 46 = .ok (.iadd, 1) := by decide +kernel
theorem dX2_addUp_47 : decode cX2_addUp 47 = .ok (.istore_n 2, 1) := by decide +kernel
theorem dX2_addUp_48 : decode cX2_addUp 48 = .ok (.iload_n 3, 1) := by decide +kernel
theorem dX2_addUp_49 : decode cX2_addUp 49 = .ok (.aload 5, 2) := by decide +kernel
theorem dX2_addUp_51 : decode cX2_addUp 51 = .ok (.aload_n 1, 1) := by decide +kernel
theorem dX2_addUp_52 : decode cX2_addUp 52 = .ok (.getfield 152, 3) := by decide +kernel
theorem dX2_addUp_55 : decode cX2_addUp 55 = .ok (.invokevirtual 155, 3) := by decide +kernel
theorem dX2_addUp_58 : decode cX2_addUp 58 = .ok (.iadd, 1) := by decide +kernel
theorem dX2_addUp_59 : decode cX2_addUp 59 = .ok (.istore_n 3, 1) := by decide +kernel
theorem dX2_addUp_60 : decode cX2_addUp 60 = .ok (.aload_n 0, 1) := by decide +kernel
theorem dX2_addUp_61 : decode cX2_addUp 61 = .ok (.dup, 1) := by decide +kernel
theorem dX2_addUp_62 : decode cX2_addUp 62 = .ok (.getfield 144, 3) := by decide +kernel
theorem dX2_addUp_65 : decode cX2_addUp 65 = .ok (.aload 5, 2) := by decide +kernel
theorem dX2_addUp_67 : decode cX2_addUp 67 = .ok (.getfield 141, 3) := by decide +kernel
theorem dX2_addUp_70 : decode cX2_addUp 70 = .ok (.ior, 1) := by decide +kernel
theorem dX2_addUp_71 : decode cX2_addUp 71 = .ok (.putfield 144, 3) := by decide +kernel
theorem dX2_addUp_74 : decode cX2_addUp 74 = .ok (.aload_n 0, 1) := by decide +kernel
theorem dX2_addUp_75 : decode cX2_addUp 75 = .ok (.dup, 1) := by decide +kernel
theorem dX2_addUp_76 : decode cX2_addUp 76 = .ok (.getfield 145, 3) := by decide +kernel
theorem dX2_addUp_79 : decode cX2_addUp 79 = .ok (.aload 5, 2) := by decide +kernel
theorem dX2_addUp_81 : decode cX2_addUp 81 = .ok (.getfield 113, 3) := by decide +kernel
theorem dX2_addUp_84 : decode cX2_addUp 84 = .ok (.iadd, 1) := by decide +kernel
theorem dX2_addUp_85 : decode cX2_addUp 85 = .ok (.putfield 145, 3) := by decide +kernel
theorem dX2_addUp_88 : decode cX2_addUp 88 = .ok (.aload_n 0, 1) := by decide +kernel
theorem dX2_addUp_89 : decode cX2_addUp 89 = .ok (.aload_n 0, 1) := by decide +kernel
theorem dX2_addUp_90 : decode cX2_addUp 90 = .ok (.getfield 146, 3) := by decide +kernel
theorem dX2_addUp_93 : decode cX2_addUp 93 = .ok (.aload 5, 2) := by decide +kernel
theorem dX2_addUp_95 : decode cX2_addUp 95 = .ok (.getfield 158, 3) := by decide +kernel
theorem dX2_addUp_98 : decode cX2_addUp 98 = .ok (.invokestatic 159, 3) := by decide +kernel
theorem dX2_addUp_101 : decode cX2_addUp 101 = .ok (.putfield 146, 3) := by decide +kernel
theorem dX2_addUp_104 : decode cX2_addUp 104 = .ok (.iinc 4 1, 3) := by decide +kernel
theorem dX2_addUp_107 : decode cX2_addUp 107 = .ok (.goto (-85), 3) := by decide +kernel
theorem dX2_addUp_110 : decode cX2_addUp 110 = .ok (.aload_n 0, 1) := by decide +kernel
theorem dX2_addUp_111 : decode cX2_addUp 111 = .ok (.iload_n 2, 1) := by decide +kernel
theorem dX2_addUp_112 : decode cX2_addUp 112 = .ok (.iload_n 3, 1) := by decide +kernel
theorem dX2_addUp_113 : decode cX2_addUp 113 = .ok (.invokestatic 159, 3) := by decide +kernel
theorem dX2_addUp_116 : decode cX2_addUp 116 = .ok (.putfield 135, 3) := by decide +kernel
theorem dX2_addUp_119 : decode cX2_addUp 119 = .ok (.return_, 1) := by decide +kernel
theorem dX2_chargeBase_0 : decode cX2_chargeBase 0 = .ok (.aload_n 1, 1) := by decide +kernel
theorem dX2_chargeBase_1 : decode cX2_chargeBase 1 = .ok (.aload_n 0, 1) := by decide +kernel
theorem dX2_chargeBase_2 : decode cX2_chargeBase 2 = .ok (.getfield 135, 3) := by decide +kernel
theorem dX2_chargeBase_5 : decode cX2_chargeBase 5 = .ok (.invokevirtual 164, 3) := by decide +kernel
theorem dX2_chargeBase_8 : decode cX2_chargeBase 8 = .ok (.istore_n 2, 1) := by decide +kernel
theorem dX2_chargeBase_9 : decode cX2_chargeBase 9 = .ok (.iload_n 2, 1) := by decide +kernel
theorem dX2_chargeBase_10 : decode cX2_chargeBase 10 = .ok (.ifCond .ge 4, 3) := by decide +kernel
theorem dX2_chargeBase_13 : decode cX2_chargeBase 13 = .ok (.return_, 1) := by decide +kernel
theorem dX2_chargeBase_14 : decode cX2_chargeBase 14 = .ok (.aload_n 0, 1) := by decide +kernel
theorem dX2_chargeBase_15 : decode cX2_chargeBase 15 = .ok (.aload_n 1, 1) := by decide +kernel
theorem dX2_chargeBase_16 : decode cX2_chargeBase 16 = .ok (.getfield 167, 3) := by decide +kernel
theorem dX2_chargeBase_19 : decode cX2_chargeBase 19 = .ok (.iload_n 2, 1) := by decide +kernel
theorem dX2_chargeBase_20 : decode cX2_chargeBase 20 = .ok (.iaload, 1) := by decide +kernel
theorem dX2_chargeBase_21 : decode cX2_chargeBase 21 = .ok (.putfield 170, 3) := by decide +kernel
theorem dX2_chargeBase_24 : decode cX2_chargeBase 24 = .ok (.aload_n 0, 1) := by decide +kernel
theorem dX2_chargeBase_25 : decode cX2_chargeBase 25 = .ok (.aload_n 0, 1) := by decide +kernel
theorem dX2_chargeBase_26 : decode cX2_chargeBase 26 = .ok (.getfield 135, 3) := by decide +kernel
theorem dX2_chargeBase_29 : decode cX2_chargeBase 29 = .ok (.aload_n 0, 1) := by decide +kernel
theorem dX2_chargeBase_30 : decode cX2_chargeBase 30 = .ok (.getfield 170, 3) := by decide +kernel
theorem dX2_chargeBase_33 : decode cX2_chargeBase 33 = .ok (.invokestatic 159, 3) := by decide +kernel
theorem dX2_chargeBase_36 : decode cX2_chargeBase 36 = .ok (.putfield 173, 3) := by decide +kernel
theorem dX2_chargeBase_39 : decode cX2_chargeBase 39 = .ok (.aload_n 0, 1) := by decide +kernel
theorem dX2_chargeBase_40 : decode cX2_chargeBase 40 = .ok (.aload_n 1, 1) := by decide +kernel
theorem dX2_chargeBase_41 : decode cX2_chargeBase 41 = .ok (.iload_n 2, 1) := by decide +kernel
theorem dX2_chargeBase_42 : decode cX2_chargeBase 42 = .ok (.aload_n 0, 1) := by decide +kernel
theorem dX2_chargeBase_43 : decode cX2_chargeBase 43 = .ok (.getfield 135, 3) := by decide +kernel
theorem dX2_chargeBase_46 : decode cX2_chargeBase 46 = .ok (.invokevirtual 176, 3) := by decide +kernel
theorem dX2_chargeBase_49 : decode cX2_chargeBase 49 = .ok (.putfield 21, 3) := by decide +kernel
theorem dX2_chargeBase_52 : decode cX2_chargeBase 52 = .ok (.return_, 1) := by decide +kernel
theorem dX2_addExtras_0 : decode cX2_addExtras 0 = .ok (.aload_n 0, 1) := by decide +kernel
theorem dX2_addExtras_1 : decode cX2_addExtras 1 = .ok (.iconst 0, 1) := by decide +kernel
theorem dX2_addExtras_2 : decode cX2_addExtras 2 = .ok (.putfield 25, 3) := by decide +kernel
theorem dX2_addExtras_5 : decode cX2_addExtras 5 = .ok (.aload_n 0, 1) := by decide +kernel
theorem dX2_addExtras_6 : decode cX2_addExtras 6 = .ok (.iconst 0, 1) := by decide +kernel
theorem dX2_addExtras_7 : decode cX2_addExtras 7 = .ok (.putfield 179, 3) := by decide +kernel
theorem dX2_addExtras_10 : decode cX2_addExtras 10 = .ok (.iconst 0, 1) := by decide +kernel
theorem dX2_addExtras_11 : decode cX2_addExtras 11 = .ok (.istore_n 2, 1) := by decide +kernel
theorem dX2_addExtras_12 : decode cX2_addExtras 12 = .ok (.iconst 0, 1) := by decide +kernel
theorem dX2_addExtras_13 : decode cX2_addExtras 13 = .ok (.istore_n 3, 1) := by decide +kernel
theorem dX2_addExtras_14 : decode cX2_addExtras 14 = .ok (.iload_n 3, 1) := by decide +kernel
theorem dX2_addExtras_15 : decode cX2_addExtras 15 = .ok (.bipush 10, 2) := by decide +kernel
theorem dX2_addExtras_17 : decode cX2_addExtras 17 = .ok (.if_icmp .ge 94, 3) := by decide +kernel
theorem dX2_addExtras_20 : decode cX2_addExtras 20 = .ok (.aload_n 1, 1) := by decide +kernel
theorem dX2_addExtras_21 : decode cX2_addExtras 21 = .ok (.getfield 182, 3) := by decide +kernel
theorem dX2_addExtras_24 : decode cX2_addExtras 24 = .ok (.iload_n 3, 1) := by decide +kernel
theorem dX2_addExtras_25 : decode cX2_addExtras 25 = .ok (.aaload, 1) := by decide +kernel
theorem dX2_addExtras_26 : decode cX2_addExtras 26 = .ok (.astore 4, 2) := by decide +kernel
theorem dX2_addExtras_28 : decode cX2_addExtras 28 = .ok (.aload 4, 2) := by decide +kernel
theorem dX2_addExtras_30 : decode cX2_addExtras 30 = .ok (.ifnull 75, 3) := by decide +kernel
theorem dX2_addExtras_33 : decode cX2_addExtras 33 = .ok (.iload_n 2, 1) := by decide +kernel
theorem dX2_addExtras_34 : decode cX2_addExtras 34 = .ok (.iload_n 3, 1) := by decide +kernel
theorem dX2_addExtras_35 : decode cX2_addExtras 35 = .ok (.invokestatic 106, 3) := by decide +kernel
theorem dX2_addExtras_38 : decode cX2_addExtras 38 = .ok (.ifCond .ne 67, 3) := by decide +kernel
theorem dX2_addExtras_41 : decode cX2_addExtras 41 = .ok (.aload 4, 2) := by decide +kernel
theorem dX2_addExtras_43 : decode cX2_addExtras 43 = .ok (.aload_n 0, 1) := by decide +kernel
theorem dX2_addExtras_44 : decode cX2_addExtras 44 = .ok (.invokevirtual 186, 3) := by decide +kernel
theorem dX2_addExtras_47 : decode cX2_addExtras 47 = .ok (.ifCond .ne 6, 3) := by decide +kernel
theorem dX2_addExtras_50 : decode cX2_addExtras 50 = .ok (.goto 55, 3) := by decide +kernel
theorem dX2_addExtras_53 : decode cX2_addExtras 53 = .ok (.aload_n 0, 1) := by decide +kernel
theorem dX2_addExtras_54 : decode cX2_addExtras 54 = .ok (.dup, 1) := by decide +kernel
theorem dX2_addExtras_55 : decode cX2_addExtras 55 = .ok (.getfield 25, 3) := by decide +kernel
theorem dX2_addExtras_58 : decode cX2_addExtras 58 = .ok (.aload 4, 2) := by decide +kernel
theorem dX2_addExtras_60 : decode cX2_addExtras 60 = .ok (.aload_n 0, 1) := by decide +kernel
theorem dX2_addExtras_61 : decode cX2_addExtras 61 = .ok (.getfield 21, 3) := by decide +kernel
theorem dX2_addExtras_64 : decode cX2_addExtras 64 = .ok (.aload_n 0, 1) := by decide +kernel
theorem dX2_addExtras_65 : decode cX2_addExtras 65 = .ok (.getfield 135, 3) := by decide +kernel
theorem dX2_addExtras_68 : decode cX2_addExtras 68 = .ok (.invokevirtual 192, 3) := by decide +kernel
theorem dX2_addExtras_71 : decode cX2_addExtras 71 = .ok (.iadd, 1) := by decide +kernel
theorem dX2_addExtras_72 : decode cX2_addExtras 72 = .ok (.putfield 25, 3) := by decide +kernel
theorem dX2_addExtras_75 : decode cX2_addExtras 75 = .ok (.aload_n 0, 1) := by decide +kernel
theorem dX2_addExtras_76 : decode cX2_addExtras 76 = .ok (.dup, 1) := by decide +kernel
theorem dX2_addExtras_77 : decode cX2_addExtras 77 = .ok (.getfield 179, 3) := by decide +kernel
theorem dX2_addExtras_80 : decode cX2_addExtras 80 = .ok (.iconst 1, 1) := by decide +kernel
theorem dX2_addExtras_81 : decode cX2_addExtras 81 = .ok (.iload_n 3, 1) := by decide +kernel
theorem dX2_addExtras_82 : decode cX2_addExtras 82 = .ok (.ishl, 1) := by decide +kernel
theorem dX2_addExtras_83 : decode cX2_addExtras 83 = .ok (.ior, 1) := by decide +kernel
theorem dX2_addExtras_84 : decode cX2_addExtras 84 = .ok (.putfield 179, 3) := by decide +kernel
theorem dX2_addExtras_87 : decode cX2_addExtras 87 = .ok (.aload 4, 2) := by decide +kernel
theorem dX2_addExtras_89 : decode cX2_addExtras 89 = .ok (.getfield 195, 3) := by decide +kernel
theorem dX2_addExtras_92 : decode cX2_addExtras 92 = .ok (.ifCond .lt 13, 3) := by decide +kernel
theorem dX2_addExtras_95 : decode cX2_addExtras 95 = .ok (.iload_n 2, 1) := by decide +kernel
theorem dX2_addExtras_96 : decode cX2_addExtras 96 = .ok (.iconst 1, 1) := by decide +kernel
theorem dX2_addExtras_97 : decode cX2_addExtras 97 = .ok (.aload 4, 2) := by decide +kernel
theorem dX2_addExtras_99 : decode cX2_addExtras 99 = .ok (.getfield 195, 3) := by decide +kernel
theorem dX2_addExtras_102 : decode cX2_addExtras 102 = .ok (.ishl, 1) := by decide +kernel
theorem dX2_addExtras_103 : decode cX2_addExtras 103 = .ok (.ior, 1) := by decide +kernel
theorem dX2_addExtras_104 : decode cX2_addExtras 104 = .ok (.istore_n 2, 1) := by decide +kernel
theorem dX2_addExtras_105 : decode cX2_addExtras 105 = .ok (.iinc 3 1, 3) := by decide +kernel
theorem dX2_addExtras_108 : decode cX2_addExtras 108 = .ok (.goto (-94), 3) := by decide +kernel
theorem dX2_addExtras_111 : decode cX2_addExtras 111 = .ok (.return_, 1) := by decide +kernel
theorem dX3_init_0 : decode cX3_init 0 = .ok (.aload_n 0, 1) := by decide +kernel
theorem dX3_init_1 : decode cX3_init 1 = .ok (.invokespecial 1, 3) := by decide +kernel
theorem dX3_init_4 : decode cX3_init 4 = .ok (.aload_n 0, 1) := by decide +kernel
theorem dX3_init_5 : decode cX3_init 5 = .ok (.aload_n 1, 1) := by decide +kernel
theorem dX3_init_6 : decode cX3_init 6 = .ok (.putfield 7, 3) := by decide +kernel
theorem dX3_init_9 : decode cX3_init 9 = .ok (.aload_n 0, 1) := by decide +kernel
theorem dX3_init_10 : decode cX3_init 10 = .ok (.iload_n 2, 1) := by decide +kernel
theorem dX3_init_11 : decode cX3_init 11 = .ok (.aload_n 1, 1) := by decide +kernel
theorem dX3_init_12 : decode cX3_init 12 = .ok (.arraylength, 1) := by decide +kernel
theorem dX3_init_13 : decode cX3_init 13 = .ok (.invokestatic 13, 3) := by decide +kernel
theorem dX3_init_16 : decode cX3_init 16 = .ok (.putfield 19, 3) := by decide +kernel
theorem dX3_init_19 : decode cX3_init 19 = .ok (.return_, 1) := by decide +kernel
theorem dX3_hasFault_0 : decode cX3_hasFault 0 = .ok (.aload_n 0, 1) := by decide +kernel
theorem dX3_hasFault_1 : decode cX3_hasFault 1 = .ok (.getfield 23, 3) := by decide +kernel
theorem dX3_hasFault_4 : decode cX3_hasFault 4 = .ok (.ifCond .ne 14, 3) := by decide +kernel
theorem dX3_hasFault_7 : decode cX3_hasFault 7 = .ok (.aload_n 0, 1) := by decide +kernel
theorem dX3_hasFault_8 : decode cX3_hasFault 8 = .ok (.getfield 27, 3) := by decide +kernel
theorem dX3_hasFault_11 : decode cX3_hasFault 11 = .ok (.aload_n 0, 1) := by decide +kernel
theorem dX3_hasFault_12 : decode cX3_hasFault 12 = .ok (.getfield 19, 3) := by decide +kernel
theorem dX3_hasFault_15 : decode cX3_hasFault 15 = .ok (.if_icmp .ge 7, 3) := by decide +kernel
theorem dX3_hasFault_18 : decode cX3_hasFault 18 = .ok (.iconst 1, 1) := by decide +kernel
theorem dX3_hasFault_19 : decode cX3_hasFault 19 = .ok (.goto 4, 3) := by decide +kernel
theorem dX3_hasFault_22 : decode cX3_hasFault 22 = .ok (.iconst 0, 1) := by decide +kernel
theorem dX3_hasFault_23 : decode cX3_hasFault 23 = .ok (.ireturn, 1) := by decide +kernel
theorem dX3_readText_0 : decode cX3_readText 0 = .ok (.new 30, 3) := by decide +kernel
theorem dX3_readText_3 : decode cX3_readText 3 = .ok (.dup, 1) := by decide +kernel
theorem dX3_readText_4 : decode cX3_readText 4 = .ok (.invokespecial 32, 3) := by decide +kernel
theorem dX3_readText_7 : decode cX3_readText 7 = .ok (.astore_n 1, 1) := by decide +kernel
theorem dX3_readText_8 : decode cX3_readText 8 = .ok (.iconst 0, 1) := by decide +kernel
theorem dX3_readText_9 : decode cX3_readText 9 = .ok (.istore_n 2, 1) := by decide +kernel
theorem dX3_readText_10 : decode cX3_readText 10 = .ok (.iload_n 2, 1) := by decide +kernel
theorem dX3_readText_11 : decode cX3_readText 11 = .ok (.aload_n 0, 1) := by decide +kernel
theorem dX3_readText_12 : decode cX3_readText 12 = .ok (.getfield 19, 3) := by decide +kernel
theorem dX3_readText_15 : decode cX3_readText 15 = .ok (.if_icmp .gt 30, 3) := by decide +kernel
theorem dX3_readText_18 : decode cX3_readText 18 = .ok (.aload_n 1, 1) := by decide +kernel
theorem dX3_readText_19 : decode cX3_readText 19 = .ok (.aload_n 0, 1) := by decide +kernel
theorem dX3_readText_20 : decode cX3_readText 20 = .ok (.invokevirtual 33, 3) := by decide +kernel
theorem dX3_readText_23 : decode cX3_readText 23 = .ok (.invokevirtual 37, 3) := by decide +kernel
theorem dX3_readText_26 : decode cX3_readText 26 = .ok (.pop, 1) := by decide +kernel
theorem dX3_readText_27 : decode cX3_readText 27 = .ok (.aload_n 0, 1) := by decide +kernel
theorem dX3_readText_28 : decode cX3_readText 28 = .ok (.bipush 59, 2) := by decide +kernel
theorem dX3_readText_30 : decode cX3_readText 30 = .ok (.invokevirtual 41, 3) := by decide +kernel
theorem dX3_readText_33 : decode cX3_readText 33 = .ok (.ifCond .ne 6, 3) := by decide +kernel
theorem dX3_readText_36 : decode cX3_readText 36 = .ok (.goto 9, 3) := by decide +kernel
theorem dX3_readText_39 : decode cX3_readText 39 = .ok (.iinc 2 1, 3) := by decide +kernel
theorem dX3_readText_42 : decode cX3_readText 42 = .ok (.goto (-32), 3) := by decide +kernel
theorem dX3_readText_45 : decode cX3_readText 45 = .ok (.aload_n 1, 1) := by decide +kernel
theorem dX3_readText_46 : decode cX3_readText 46 = .ok (.areturn, 1) := by decide +kernel
theorem dX3_readStatement_0 : decode cX3_readStatement 0 = .ok (.new 45, 3) := by decide +kernel
theorem dX3_readStatement_3 : decode cX3_readStatement 3 = .ok (.dup, 1) := by decide +kernel
theorem dX3_readStatement_4 : decode cX3_readStatement 4 = .ok (.aload_n 0, 1) := by decide +kernel
theorem dX3_readStatement_5 : decode cX3_readStatement 5 = .ok (.ldc 47, 2) := by decide +kernel
theorem dX3_readStatement_7 : decode cX3_readStatement 7 = .ok (.invokevirtual 49, 3) := by decide +kernel
theorem dX3_readStatement_10 : decode cX3_readStatement 10 = .ok (.invokespecial 53, 3) := by decide +kernel
theorem dX3_readStatement_13 : decode cX3_readStatement 13 = .ok (.astore_n 1, 1) := by decide +kernel
theorem dX3_readStatement_14 : decode cX3_readStatement 14 = .ok (.aload_n 1, 1) := by decide +kernel
theorem dX3_readStatement_15 : decode cX3_readStatement 15 = .ok (.getfield 56, 3) := by decide +kernel
theorem dX3_readStatement_18 : decode cX3_readStatement 18 = .ok (.lookupswitch 146 #[(97, 102), (98, 72), (109, 94), (114, 131), (122, 50)], 50) := by decide +kernel
theorem dX3_readStatement_68 : decode cX3_readStatement 68 = .ok (.aload_n 0, 1) := by decide +kernel
theorem dX3_readStatement_69 : decode cX3_readStatement 69 = .ok (.aload_n 1, 1) := by decide +kernel
theorem dX3_readStatement_70 : decode cX3_readStatement 70 = .ok (.invokevirtual 59, 3) := by decide +kernel
theorem dX3_readStatement_73 : decode cX3_readStatement 73 = .ok (.aload_n 0, 1) := by decide +kernel
theorem dX3_readStatement_74 : decode cX3_readStatement 74 = .ok (.bipush 45, 2) := by decide +kernel
theorem dX3_readStatement_76 : decode cX3_readStatement 76 = .ok (.invokevirtual 63, 3) := by decide +kernel
theorem dX3_readStatement_79 : decode cX3_readStatement 79 = .ok (.aload_n 1, 1) := by decide +kernel
theorem dX3_readStatement_80 : decode cX3_readStatement 80 = .ok (.aload_n 0, 1) := by decide +kernel
theorem dX3_readStatement_81 : decode cX3_readStatement 81 = .ok (.invokevirtual 67, 3) := by decide +kernel
theorem dX3_readStatement_84 : decode cX3_readStatement 84 = .ok (.putfield 71, 3) := by decide +kernel
theorem dX3_readStatement_87 : decode cX3_readStatement 87 = .ok (.goto 85, 3) := by decide +kernel
theorem dX3_readStatement_90 : decode cX3_readStatement 90 = .ok (.aload_n 0, 1) := by decide +kernel
theorem dX3_readStatement_91 : decode cX3_readStatement 91 = .ok (.aload_n 1, 1) := by decide +kernel
theorem dX3_readStatement_92 : decode cX3_readStatement 92 = .ok (.invokevirtual 59, 3) := by decide +kernel
theorem dX3_readStatement_95 : decode cX3_readStatement 95 = .ok (.aload_n 0, 1) := by decide +kernel
theorem dX3_readStatement_96 : decode cX3_readStatement 96 = .ok (.bipush 42, 2) := by decide +kernel
theorem dX3_readStatement_98 : decode cX3_readStatement 98 = .ok (.invokevirtual 63, 3) := by decide +kernel
theorem dX3_readStatement_101 : decode cX3_readStatement 101 = .ok (.aload_n 1, 1) := by decide +kernel
theorem dX3_readStatement_102 : decode cX3_readStatement 102 = .ok (.aload_n 0, 1) := by decide +kernel
theorem dX3_readStatement_103 : decode cX3_readStatement 103 = .ok (.invokevirtual 67, 3) := by decide +kernel
theorem dX3_readStatement_106 : decode cX3_readStatement 106 = .ok (.putfield 71, 3) := by decide +kernel
theorem dX3_readStatement_109 : decode cX3_readStatement 109 = .ok (.goto 63, 3) := by decide +kernel
theorem dX3_readStatement_112 : decode cX3_readStatement 112 = .ok (.aload_n 0, 1) := by decide +kernel
theorem dX3_readStatement_113 : decode cX3_readStatement 113 = .ok (.aload_n 1, 1) := by decide +kernel
theorem dX3_readStatement_114 : decode cX3_readStatement 114 = .ok (.invokevirtual 59, 3) := by decide +kernel
theorem dX3_readStatement_117 : decode cX3_readStatement 117 = .ok (.goto 55, 3) := by decide +kernel
theorem dX3_readStatement_120 : decode cX3_readStatement 120 = .ok (.aload_n 1, 1) := by decide +kernel
theorem dX3_readStatement_121 : decode cX3_readStatement 121 = .ok (.aload_n 0, 1) := by decide +kernel
theorem dX3_readStatement_122 : decode cX3_readStatement 122 = .ok (.bipush 48, 2) := by decide +kernel
theorem dX3_readStatement_124 : decode cX3_readStatement 124 = .ok (.bipush 57, 2) := by decide +kernel
theorem dX3_readStatement_126 : decode cX3_readStatement 126 = .ok (.invokevirtual 74, 3) := by decide +kernel
theorem dX3_readStatement_129 : decode cX3_readStatement 129 = .ok (.putfield 78, 3) := by decide +kernel
theorem dX3_readStatement_132 : decode cX3_readStatement 132 = .ok (.aload_n 0, 1) := by decide +kernel
theorem dX3_readStatement_133 : decode cX3_readStatement 133 = .ok (.bipush 58, 2) := by decide +kernel
theorem dX3_readStatement_135 : decode cX3_readStatement 135 = .ok (.invokevirtual 63, 3) := by decide +kernel
theorem dX3_readStatement_138 : decode cX3_readStatement 138 = .ok (.aload_n 1, 1) := by decide +kernel
theorem dX3_readStatement_139 : decode cX3_readStatement 139 = .ok (.aload_n 0, 1) := by decide +kernel
theorem dX3_readStatement_140 : decode cX3_readStatement 140 = .ok (.invokevirtual 81, 3) := by decide +kernel
theorem dX3_readStatement_143 : decode cX3_readStatement 143 = .ok (.putfield 85, 3) := by decide +kernel
theorem dX3_readStatement_146 : decode cX3_readStatement 146 = .ok (.goto 26, 3) := by decide +kernel
theorem dX3_readStatement_149 : decode cX3_readStatement 149 = .ok (.aload_n 1, 1) := by decide +kernel
theorem dX3_readStatement_150 : decode cX3_readStatement 150 = .ok (.aload_n 0, 1) := by decide +kernel
theorem dX3_readStatement_151 : decode cX3_readStatement 151 = .ok (.bipush 48, 2) := by decide +kernel
theorem dX3_readStatement_153 : decode cX3_readStatement 153 = .ok (.bipush 57, 2) := by decide +kernel
theorem dX3_readStatement_155 : decode cX3_readStatement 155 = .ok (.invokevirtual 74, 3) := by decide +kernel
theorem dX3_readStatement_158 : decode cX3_readStatement 158 = .ok (.putfield 78, 3) := by decide +kernel
theorem dX3_readStatement_161 : decode cX3_readStatement 161 = .ok (.goto 11, 3) := by decide +kernel
theorem dX3_readStatement_164 : decode cX3_readStatement 164 = .ok (.aload_n 1, 1) := by decide +kernel
theorem dX3_readStatement_165 : decode cX3_readStatement 165 = .ok (.aload_n 0, 1) := by decide +kernel
theorem dX3_readStatement_166 : decode cX3_readStatement 166 = .ok (.invokevirtual 67, 3) := by decide +kernel
theorem dX3_readStatement_169 : decode cX3_readStatement 169 = .ok (.putfield 89, 3) := by decide +kernel
theorem dX3_readStatement_172 : decode cX3_readStatement 172 = .ok (.aload_n 1, 1) := by decide +kernel
theorem dX3_readStatement_173 : decode cX3_readStatement 173 = .ok (.areturn, 1) := by decide +kernel
theorem dX3_readZone_0 : decode cX3_readZone 0 = .ok (.aload_n 1, 1) := by decide +kernel
theorem dX3_readZone_1 : decode cX3_readZone 1 = .ok (.aload_n 0, 1) := by decide +kernel
theorem dX3_readZone_2 : decode cX3_readZone 2 = .ok (.bipush 49, 2) := by decide +kernel
theorem dX3_readZone_4 : decode cX3_readZone 4 = .ok (.bipush 57, 2) := by decide +kernel
theorem dX3_readZone_6 : decode cX3_readZone 6 = .ok (.invokevirtual 74, 3) := by decide +kernel
theorem dX3_readZone_9 : decode cX3_readZone 9 = .ok (.putfield 78, 3) := by decide +kernel
theorem dX3_readZone_12 : decode cX3_readZone 12 = .ok (.aload_n 0, 1) := by decide +kernel
theorem dX3_readZone_13 : decode cX3_readZone 13 = .ok (.bipush 58, 2) := by decide +kernel
theorem dX3_readZone_15 : decode cX3_readZone 15 = .ok (.invokevirtual 63, 3) := by decide +kernel
theorem dX3_readZone_18 : decode cX3_readZone 18 = .ok (.aload_n 1, 1) := by decide +kernel
theorem dX3_readZone_19 : decode cX3_readZone 19 = .ok (.aload_n 0, 1) := by decide +kernel
theorem dX3_readZone_20 : decode cX3_readZone 20 = .ok (.invokevirtual 67, 3) := by decide +kernel
theorem dX3_readZone_23 : decode cX3_readZone 23 = .ok (.putfield 89, 3) := by decide +kernel
theorem dX3_readZone_26 : decode cX3_readZone 26 = .ok (.return_, 1) := by decide +kernel
theorem dX3_readAccessorial_0 : decode cX3_readAccessorial 0 = .ok (.new 92, 3) := by decide +kernel
theorem dX3_readAccessorial_3 : decode cX3_readAccessorial 3 = .ok (.dup, 1) := by decide +kernel
theorem dX3_readAccessorial_4 : decode cX3_readAccessorial 4 = .ok (.invokespecial 94, 3) := by decide +kernel
theorem dX3_readAccessorial_7 : decode cX3_readAccessorial 7 = .ok (.astore_n 1, 1) := by decide +kernel
theorem dX3_readAccessorial_8 : decode cX3_readAccessorial 8 = .ok (.aload_n 1, 1) := by decide +kernel
theorem dX3_readAccessorial_9 : decode cX3_readAccessorial 9 = .ok (.aload_n 0, 1) := by decide +kernel
theorem dX3_readAccessorial_10 : decode cX3_readAccessorial 10 = .ok (.invokevirtual 67, 3) := by decide +kernel
theorem dX3_readAccessorial_13 : decode cX3_readAccessorial 13 = .ok (.putfield 95, 3) := by decide +kernel
theorem dX3_readAccessorial_16 : decode cX3_readAccessorial 16 = .ok (.aload_n 0, 1) := by decide +kernel
theorem dX3_readAccessorial_17 : decode cX3_readAccessorial 17 = .ok (.bipush 37, 2) := by decide +kernel
theorem dX3_readAccessorial_19 : decode cX3_readAccessorial 19 = .ok (.invokevirtual 41, 3) := by decide +kernel
theorem dX3_readAccessorial_22 : decode cX3_readAccessorial 22 = .ok (.ifCond .eq 11, 3) := by decide +kernel
theorem dX3_readAccessorial_25 : decode cX3_readAccessorial 25 = .ok (.aload_n 1, 1) := by decide +kernel
theorem dX3_readAccessorial_26 : decode cX3_readAccessorial 26 = .ok (.iconst 2, 1) := by decide +kernel
theorem dX3_readAccessorial_27 : decode cX3_readAccessorial 27 = .ok (.putfield 98, 3) := by decide +kernel
theorem dX3_readAccessorial_30 : decode cX3_readAccessorial 30 = .ok (.goto 17, 3) := by decide +kernel
theorem dX3_readAccessorial_33 : decode cX3_readAccessorial 33 = .ok (.aload_n 0, 1) := by decide +kernel
theorem dX3_readAccessorial_34 : decode cX3_readAccessorial 34 = .ok (.bipush 42, 2) := by decide +kernel
theorem dX3_readAccessorial_36 : decode cX3_readAccessorial 36 = .ok (.invokevirtual 41, 3) := by decide +kernel
theorem dX3_readAccessorial_39 : decode cX3_readAccessorial 39 = .ok (.ifCond .eq 8, 3) := by decide +kernel
theorem dX3_readAccessorial_42 : decode cX3_readAccessorial 42 = .ok (.aload_n 1, 1) := by decide +kernel
theorem dX3_readAccessorial_43 : decode cX3_readAccessorial 43 = .ok (.iconst 1, 1) := by decide +kernel
theorem dX3_readAccessorial_44 : decode cX3_readAccessorial 44 = .ok (.putfield 98, 3) := by decide +kernel
theorem dX3_readAccessorial_47 : decode cX3_readAccessorial 47 = .ok (.aload_n 0, 1) := by decide +kernel
theorem dX3_readAccessorial_48 : decode cX3_readAccessorial 48 = .ok (.bipush 63, 2) := by decide +kernel
theorem dX3_readAccessorial_50 : decode cX3_readAccessorial 50 = .ok (.invokevirtual 41, 3) := by decide +kernel
theorem dX3_readAccessorial_53 : decode cX3_readAccessorial 53 = .ok (.ifCond .eq 8, 3) := by decide +kernel
theorem dX3_readAccessorial_56 : decode cX3_readAccessorial 56 = .ok (.aload_n 0, 1) := by decide +kernel
theorem dX3_readAccessorial_57 : decode cX3_readAccessorial 57 = .ok (.aload_n 1, 1) := by decide +kernel
theorem dX3_readAccessorial_58 : decode cX3_readAccessorial 58 = .ok (.invokevirtual 101, 3) := by decide +kernel
theorem dX3_readAccessorial_61 : decode cX3_readAccessorial 61 = .ok (.aload_n 0, 1) := by decide +kernel
theorem dX3_readAccessorial_62 : decode cX3_readAccessorial 62 = .ok (.bipush 33, 2) := by decide +kernel
theorem dX3_readAccessorial_64 : decode cX3_readAccessorial 64 = .ok (.invokevirtual 41, 3) := by decide +kernel
theorem dX3_readAccessorial_67 : decode cX3_readAccessorial 67 = .ok (.ifCond .eq 15, 3) := by decide +kernel
theorem dX3_readAccessorial_70 : decode cX3_readAccessorial 70 = .ok (.aload_n 1, 1) := by decide +kernel
theorem dX3_readAccessorial_71 : decode cX3_readAccessorial 71 = .ok (.aload_n 0, 1) := by decide +kernel
theorem dX3_readAccessorial_72 : decode cX3_readAccessorial 72 = .ok (.bipush 48, 2) := by decide +kernel
theorem dX3_readAccessorial_74 : decode cX3_readAccessorial 74 = .ok (.bipush 57, 2) := by decide +kernel
theorem dX3_readAccessorial_76 : decode cX3_readAccessorial 76 = .ok (.invokevirtual 74, 3) := by decide +kernel
theorem dX3_readAccessorial_79 : decode cX3_readAccessorial 79 = .ok (.putfield 105, 3) := by decide +kernel
theorem dX3_readAccessorial_82 : decode cX3_readAccessorial 82 = .ok (.aload_n 1, 1) := by decide +kernel
theorem dX3_readAccessorial_83 : decode cX3_readAccessorial 83 = .ok (.areturn, 1) := by decide +kernel
theorem dX3_readCondition_0 : decode cX3_readCondition 0 = .ok (.iconst 1, 1) := by decide +kernel
theorem dX3_readCondition_1 : decode cX3_readCondition 1 = .ok (.istore_n 2, 1) := by decide +kernel
theorem dX3_readCondition_2 : decode cX3_readCondition 2 = .ok (.iconst 0, 1) := by decide +kernel
theorem dX3_readCondition_3 : decode cX3_readCondition 3 = .ok (.istore_n 3, 1) := by decide +kernel
theorem dX3_readCondition_4 : decode cX3_readCondition 4 = .ok (.iload_n 3, 1) := by decide +kernel
theorem dX3_readCondition_5 : decode cX3_readCondition 5 = .ok (.aload_n 0, 1) := by decide +kernel
theorem dX3_readCondition_6 : decode cX3_readCondition 6 = .ok (.getfield 19, 3) := by decide +kernel
theorem dX3_readCondition_9 : decode cX3_readCondition 9 = .ok (.if_icmp .gt 41, 3) := by decide +kernel
theorem dX3_readCondition_12 : decode cX3_readCondition 12 = .ok (.aload_n 1, 1) := by decide +kernel
theorem dX3_readCondition_13 : decode cX3_readCondition 13 = .ok (.aload_n 0, 1) := by decide +kernel
theorem dX3_readCondition_14 : decode cX3_readCondition 14 = .ok (.iload_n 2, 1) := by decide +kernel
theorem dX3_readCondition_15 : decode cX3_readCondition 15 = .ok (.invokevirtual 108, 3) := by decide +kernel
theorem dX3_readCondition_18 : decode cX3_readCondition 18 = .ok (.invokevirtual 112, 3) := by decide +kernel
theorem dX3_readCondition_21 : decode cX3_readCondition 21 = .ok (.aload_n 0, 1) := by decide +kernel
theorem dX3_readCondition_22 : decode cX3_readCondition 22 = .ok (.bipush 124, 2) := by decide +kernel
theorem dX3_readCondition_24 : decode cX3_readCondition 24 = .ok (.invokevirtual 41, 3) := by decide +kernel
theorem dX3_readCondition_27 : decode cX3_readCondition 27 = .ok (.istore_n 2, 1) := by decide +kernel
theorem dX3_readCondition_28 : decode cX3_readCondition 28 = .ok (.iload_n 2, 1) := by decide +kernel
theorem dX3_readCondition_29 : decode cX3_readCondition 29 = .ok (.ifCond .ne 15, 3) := by decide +kernel
theorem dX3_readCondition_32 : decode cX3_readCondition 32 = .ok (.aload_n 0, 1) := by decide +kernel
theorem dX3_readCondition_33 : decode cX3_readCondition 33 = .ok (.bipush 38, 2) := by decide +kernel
theorem dX3_readCondition_35 : decode cX3_readCondition 35 = .ok (.invokevirtual 41, 3) := by decide +kernel
theorem dX3_readCondition_38 : decode cX3_readCondition 38 = .ok (.ifCond .ne 6, 3) := by decide +kernel
theorem dX3_readCondition_41 : decode cX3_readCondition 41 = .ok (.goto 9, 3) := by decide +kernel
theorem dX3_readCondition_44 : decode cX3_readCondition 44 = .ok (.iinc 3 1, 3) := by decide +kernel
theorem dX3_readCondition_47 : decode cX3_readCondition 47 = .ok (.goto (-43), 3) := by decide +kernel
theorem dX3_readCondition_50 : decode cX3_readCondition 50 = .ok (.return_, 1) := by decide +kernel
theorem dX3_readTest_0 : decode cX3_readTest 0 = .ok (.new 116, 3) := by decide +kernel
theorem dX3_readTest_3 : decode cX3_readTest 3 = .ok (.dup, 1) := by decide +kernel
theorem dX3_readTest_4 : decode cX3_readTest 4 = .ok (.iload_n 1, 1) := by decide +kernel
theorem dX3_readTest_5 : decode cX3_readTest 5 = .ok (.invokespecial 118, 3) := by decide +kernel
theorem dX3_readTest_8 : decode cX3_readTest 8 = .ok (.astore_n 2, 1) := by decide +kernel
theorem dX3_readTest_9 : decode cX3_readTest 9 = .ok (.aload_n 2, 1) := by decide +kernel
theorem dX3_readTest_10 : decode cX3_readTest 10 = .ok (.aload_n 0, 1) := by decide +kernel
theorem dX3_readTest_11 : decode cX3_readTest 11 = .ok (.bipush 45, 2) := by decide +kernel
theorem dX3_readTest_13 : decode cX3_readTest 13 = .ok (.invokevirtual 41, 3) := by decide +kernel
theorem dX3_readTest_16 : decode cX3_readTest 16 = .ok (.putfield 121, 3) := by decide +kernel
theorem dX3_readTest_19 : decode cX3_readTest 19 = .ok (.aload_n 2, 1) := by decide +kernel
theorem dX3_readTest_20 : decode cX3_readTest 20 = .ok (.aload_n 0, 1) := by decide +kernel
theorem dX3_readTest_21 : decode cX3_readTest 21 = .ok (.ldc 124, 2) := by decide +kernel
theorem dX3_readTest_23 : decode cX3_readTest 23 = .ok (.invokevirtual 49, 3) := by decide +kernel
theorem dX3_readTest_26 : decode cX3_readTest 26 = .ok (.putfield 126, 3) := by decide +kernel
theorem dX3_readTest_29 : decode cX3_readTest 29 = .ok (.aload_n 2, 1) := by decide +kernel
theorem dX3_readTest_30 : decode cX3_readTest 30 = .ok (.getfield 126, 3) := by decide +kernel
theorem dX3_readTest_33 : decode cX3_readTest 33 = .ok (.bipush 104, 2) := by decide +kernel
theorem dX3_readTest_35 : decode cX3_readTest 35 = .ok (.if_icmp .ne 18, 3) := by decide +kernel
theorem dX3_readTest_38 : decode cX3_readTest 38 = .ok (.aload_n 2, 1) := by decide +kernel
theorem dX3_readTest_39 : decode cX3_readTest 39 = .ok (.aload_n 0, 1) := by decide +kernel
theorem dX3_readTest_40 : decode cX3_readTest 40 = .ok (.bipush 48, 2) := by decide +kernel
theorem dX3_readTest_42 : decode cX3_readTest 42 = .ok (.bipush 55, 2) := by decide +kernel
theorem dX3_readTest_44 : decode cX3_readTest 44 = .ok (.invokevirtual 74, 3) := by decide +kernel
theorem dX3_readTest_47 : decode cX3_readTest 47 = .ok (.putfield 130, 3) := by decide +kernel
theorem dX3_readTest_50 : decode cX3_readTest 50 = .ok (.goto 21, 3) := by decide +kernel
theorem dX3_readTest_53 : decode cX3_readTest 53 = .ok (.aload_n 2, 1) := by decide +kernel
theorem dX3_readTest_54 : decode cX3_readTest 54 = .ok (.aload_n 0, 1) := by decide +kernel
theorem dX3_readTest_55 : decode cX3_readTest 55 = .ok (.ldc 131, 2) := by decide +kernel
theorem dX3_readTest_57 : decode cX3_readTest 57 = .ok (.invokevirtual 49, 3) := by decide +kernel
theorem dX3_readTest_60 : decode cX3_readTest 60 = .ok (.putfield 133, 3) := by decide +kernel
theorem dX3_readTest_63 : decode cX3_readTest 63 = .ok (.aload_n 2, 1) := by decide +kernel
theorem dX3_readTest_64 : decode cX3_readTest 64 = .ok (.aload_n 0, 1) := by decide +kernel
theorem dX3_readTest_65 : decode cX3_readTest 65 = .ok (.invokevirtual 67, 3) := by decide +kernel
theorem dX3_readTest_68 : decode cX3_readTest 68 = .ok (.putfield 130, 3) := by decide +kernel
theorem dX3_readTest_71 : decode cX3_readTest 71 = .ok (.aload_n 2, 1) := by decide +kernel
theorem dX3_readTest_72 : decode cX3_readTest 72 = .ok (.areturn, 1) := by decide +kernel
theorem dX3_take_0 : decode cX3_take 0 = .ok (.aload_n 0, 1) := by decide +kernel
theorem dX3_take_1 : decode cX3_take 1 = .ok (.getfield 23, 3) := by decide +kernel
theorem dX3_take_4 : decode cX3_take 4 = .ok (.ifCond .ne 27, 3) := by decide +kernel
theorem dX3_take_7 : decode cX3_take 7 = .ok (.aload_n 0, 1) := by decide +kernel
theorem dX3_take_8 : decode cX3_take 8 = .ok (.getfield 27, 3) := by decide +kernel
theorem dX3_take_11 : decode cX3_take 11 = .ok (.aload_n 0, 1) := by decide +kernel
theorem dX3_take_12 : decode cX3_take 12 = .ok (.getfield 19, 3) := by decide +kernel
theorem dX3_take_15 : decode cX3_take 15 = .ok (.if_icmp .ge 16, 3) := by decide +kernel
theorem dX3_take_18 : decode cX3_take 18 = .ok (.aload_n 0, 1) := by decide +kernel
theorem dX3_take_19 : decode cX3_take 19 = .ok (.getfield 7, 3) := by decide +kernel
theorem dX3_take_22 : decode cX3_take 22 = .ok (.aload_n 0, 1) := by decide +kernel
theorem dX3_take_23 : decode cX3_take 23 = .ok (.getfield 27, 3) := by decide +kernel
theorem dX3_take_26 : decode cX3_take 26 = .ok (.caload, 1) := by decide +kernel
theorem dX3_take_27 : decode cX3_take 27 = .ok (.iload_n 1, 1) := by decide +kernel
theorem dX3_take_28 : decode cX3_take 28 = .ok (.if_icmp .eq 5, 3) := by decide +kernel
theorem dX3_take_31 : decode cX3_take 31 = .ok (.iconst 0, 1) := by decide +kernel
theorem dX3_take_32 : decode cX3_take 32 = .ok (.ireturn, 1) := by decide +kernel
theorem dX3_take_33 : decode cX3_take 33 = .ok (.aload_n 0, 1) := by decide +kernel
theorem dX3_take_34 : decode cX3_take 34 = .ok (.dup, 1) := by decide +kernel
theorem dX3_take_35 : decode cX3_take 35 = .ok (.getfield 27, 3) := by decide +kernel
theorem dX3_take_38 : decode cX3_take 38 = .ok (.iconst 1, 1) := by decide +kernel
theorem dX3_take_39 : decode cX3_take 39 = .ok (.iadd, 1) := by decide +kernel
theorem dX3_take_40 : decode cX3_take 40 = .ok (.putfield 27, 3) := by decide +kernel
theorem dX3_take_43 : decode cX3_take 43 = .ok (.iconst 1, 1) := by decide +kernel
theorem dX3_take_44 : decode cX3_take 44 = .ok (.ireturn, 1) := by decide +kernel
theorem dX3_expect_0 : decode cX3_expect 0 = .ok (.aload_n 0, 1) := by decide +kernel
theorem dX3_expect_1 : decode cX3_expect 1 = .ok (.iload_n 1, 1) := by decide +kernel
theorem dX3_expect_2 : decode cX3_expect 2 = .ok (.invokevirtual 41, 3) := by decide +kernel
theorem dX3_expect_5 : decode cX3_expect 5 = .ok (.ifCond .ne 8, 3) := by decide +kernel
theorem dX3_expect_8 : decode cX3_expect 8 = .ok (.aload_n 0, 1) := by decide +kernel
theorem dX3_expect_9 : decode cX3_expect 9 = .ok (.iconst 1, 1) := by decide +kernel
theorem dX3_expect_10 : decode cX3_expect 10 = .ok (.putfield 23, 3) := by decide +kernel
theorem dX3_expect_13 : decode cX3_expect 13 = .ok (.return_, 1) := by decide +kernel
theorem dX3_takeOneOf_0 : decode cX3_takeOneOf 0 = .ok (.aload_n 0, 1) := by decide +kernel
theorem dX3_takeOneOf_1 : decode cX3_takeOneOf 1 = .ok (.getfield 23, 3) := by decide +kernel
theorem dX3_takeOneOf_4 : decode cX3_takeOneOf 4 = .ok (.ifCond .ne 30, 3) := by decide +kernel
theorem dX3_takeOneOf_7 : decode cX3_takeOneOf 7 = .ok (.aload_n 0, 1) := by decide +kernel
theorem dX3_takeOneOf_8 : decode cX3_takeOneOf 8 = .ok (.getfield 27, 3) := by decide +kernel
theorem dX3_takeOneOf_11 : decode cX3_takeOneOf 11 = .ok (.aload_n 0, 1) := by decide +kernel
theorem dX3_takeOneOf_12 : decode cX3_takeOneOf 12 = .ok (.getfield 19, 3) := by decide +kernel
theorem dX3_takeOneOf_15 : decode cX3_takeOneOf 15 = .ok (.if_icmp .ge 19, 3) := by decide +kernel
theorem dX3_takeOneOf_18 : decode cX3_takeOneOf 18 = .ok (.aload_n 1, 1) := by decide +kernel
theorem dX3_takeOneOf_19 : decode cX3_takeOneOf 19 = .ok (.aload_n 0, 1) := by decide +kernel
theorem dX3_takeOneOf_20 : decode cX3_takeOneOf 20 = .ok (.getfield 7, 3) := by decide +kernel
theorem dX3_takeOneOf_23 : decode cX3_takeOneOf 23 = .ok (.aload_n 0, 1) := by decide +kernel
theorem dX3_takeOneOf_24 : decode cX3_takeOneOf 24 = .ok (.getfield 27, 3) := by decide +kernel
theorem dX3_takeOneOf_27 : decode cX3_takeOneOf 27 = .ok (.caload, 1) := by decide +kernel
theorem dX3_takeOneOf_28 : decode cX3_takeOneOf 28 = .ok (.invokevirtual 136, 3) := by decide +kernel
theorem dX3_takeOneOf_31 : decode cX3_takeOneOf 31 = .ok (.ifCond .ge 10, 3) := by decide +kernel
theorem dX3_takeOneOf_34 : decode cX3_takeOneOf 34 = .ok (.aload_n 0, 1) := by decide +kernel
theorem dX3_takeOneOf_35 : decode cX3_takeOneOf 35 = .ok (.iconst 1, 1) := by decide +kernel
theorem dX3_takeOneOf_36 : decode cX3_takeOneOf 36 = .ok (.putfield 23, 3) := by decide +kernel
theorem dX3_takeOneOf_39 : decode cX3_takeOneOf 39 = .ok (.iconst 0, 1) := by decide +kernel
theorem dX3_takeOneOf_40 : decode cX3_takeOneOf 40 = .ok (.ireturn, 1) := by decide +kernel
theorem dX3_takeOneOf_41 : decode cX3_takeOneOf 41 = .ok (.aload_n 0, 1) := by decide +kernel
theorem dX3_takeOneOf_42 : decode cX3_takeOneOf 42 = .ok (.dup, 1) := by decide +kernel
theorem dX3_takeOneOf_43 : decode cX3_takeOneOf 43 = .ok (.getfield 27, 3) := by decide +kernel
theorem dX3_takeOneOf_46 : decode cX3_takeOneOf 46 = .ok (.iconst 1, 1) := by decide +kernel
theorem dX3_takeOneOf_47 : decode cX3_takeOneOf 47 = .ok (.iadd, 1) := by decide +kernel
theorem dX3_takeOneOf_48 : decode cX3_takeOneOf 48 = .ok (.putfield 27, 3) := by decide +kernel
theorem dX3_takeOneOf_51 : decode cX3_takeOneOf 51 = .ok (.aload_n 0, 1) := by decide +kernel
theorem dX3_takeOneOf_52 : decode cX3_takeOneOf 52 = .ok (.getfield 7, 3) := by decide +kernel
theorem dX3_takeOneOf_55 : decode cX3_takeOneOf 55 = .ok (.aload_n 0, 1) := by decide +kernel
theorem dX3_takeOneOf_56 : decode cX3_takeOneOf 56 = .ok (.getfield 27, 3) := by decide +kernel
theorem dX3_takeOneOf_59 : decode cX3_takeOneOf 59 = .ok (.iconst 1, 1) := by decide +kernel
theorem dX3_takeOneOf_60 : decode cX3_takeOneOf 60 = .ok (.isub, 1) := by decide +kernel
theorem dX3_takeOneOf_61 : decode cX3_takeOneOf 61 = .ok (.caload, 1) := by decide +kernel
theorem dX3_takeOneOf_62 : decode cX3_takeOneOf 62 = .ok (.ireturn, 1) := by decide +kernel
theorem dX3_readDigit_0 : decode cX3_readDigit 0 = .ok (.aload_n 0, 1) := by decide +kernel
theorem dX3_readDigit_1 : decode cX3_readDigit 1 = .ok (.getfield 23, 3) := by decide +kernel
theorem dX3_readDigit_4 : decode cX3_readDigit 4 = .ok (.ifCond .ne 40, 3) := by decide +kernel
theorem dX3_readDigit_7 : decode cX3_readDigit 7 = .ok (.aload_n 0, 1) := by decide +kernel
theorem dX3_readDigit_8 : decode cX3_readDigit 8 = .ok (.getfield 27, 3) := by decide +kernel
theorem dX3_readDigit_11 : decode cX3_readDigit 11 = .ok (.aload_n 0, 1) := by decide +kernel
theorem dX3_readDigit_12 : decode cX3_readDigit 12 = .ok (.getfield 19, 3) := by decide +kernel
theorem dX3_readDigit_15 : decode cX3_readDigit 15 = .ok (.if_icmp .ge 29, 3) := by decide +kernel
theorem dX3_readDigit_18 : decode cX3_readDigit 18 = .ok (.aload_n 0, 1) := by decide +kernel
theorem dX3_readDigit_19 : decode cX3_readDigit 19 = .ok (.getfield 7, 3) := by decide +kernel
theorem dX3_readDigit_22 : decode cX3_readDigit 22 = .ok (.aload_n 0, 1) := by decide +kernel
theorem dX3_readDigit_23 : decode cX3_readDigit 23 = .ok (.getfield 27, 3) := by decide +kernel
theorem dX3_readDigit_26 : decode cX3_readDigit 26 = .ok (.caload, 1) := by decide +kernel
theorem dX3_readDigit_27 : decode cX3_readDigit 27 = .ok (.iload_n 1, 1) := by decide +kernel
theorem dX3_readDigit_28 : decode cX3_readDigit 28 = .ok (.if_icmp .lt 16, 3) := by decide +kernel
theorem dX3_readDigit_31 : decode cX3_readDigit 31 = .ok (.aload_n 0, 1) := by decide +kernel
theorem dX3_readDigit_32 : decode cX3_readDigit 32 = .ok (.getfield 7, 3) := by decide +kernel
theorem dX3_readDigit_35 : decode cX3_readDigit 35 = .ok (.aload_n 0, 1) := by decide +kernel
theorem dX3_readDigit_36 : decode cX3_readDigit 36 = .ok (.getfield 27, 3) := by decide +kernel
theorem dX3_readDigit_39 : decode cX3_readDigit 39 = .ok (.caload, 1) := by decide +kernel
theorem dX3_readDigit_40 : decode cX3_readDigit 40 = .ok (.iload_n 2, 1) := by decide +kernel
theorem dX3_readDigit_41 : decode cX3_readDigit 41 = .ok (.if_icmp .le 10, 3) := by decide +kernel
theorem dX3_readDigit_44 : decode cX3_readDigit 44 = .ok (.aload_n 0, 1) := by decide +kernel
theorem dX3_readDigit_45 : decode cX3_readDigit 45 = .ok (.iconst 1, 1) := by decide +kernel
theorem dX3_readDigit_46 : decode cX3_readDigit 46 = .ok (.putfield 23, 3) := by decide +kernel
theorem dX3_readDigit_49 : decode cX3_readDigit 49 = .ok (.iconst 0, 1) := by decide +kernel
theorem dX3_readDigit_50 : decode cX3_readDigit 50 = .ok (.ireturn, 1) := by decide +kernel
theorem dX3_readDigit_51 : decode cX3_readDigit 51 = .ok (.aload_n 0, 1) := by decide +kernel
theorem dX3_readDigit_52 : decode cX3_readDigit 52 = .ok (.dup, 1) := by decide +kernel
theorem dX3_readDigit_53 : decode cX3_readDigit 53 = .ok (.getfield 27, 3) := by decide +kernel
theorem dX3_readDigit_56 : decode cX3_readDigit 56 = .ok (.iconst 1, 1) := by decide +kernel
theorem dX3_readDigit_57 : decode cX3_readDigit 57 = .ok (.iadd, 1) := by decide +kernel
theorem dX3_readDigit_58 : decode cX3_readDigit 58 = .ok (.putfield 27, 3) := by decide +kernel
theorem dX3_readDigit_61 : decode cX3_readDigit 61 = .ok (.aload_n 0, 1) := by decide +kernel
theorem dX3_readDigit_62 : decode cX3_readDigit 62 = .ok (.getfield 7, 3) := by decide +kernel
theorem dX3_readDigit_65 : decode cX3_readDigit 65 = .ok (.aload_n 0, 1) := by decide +kernel
theorem dX3_readDigit_66 : decode cX3_readDigit 66 = .ok (.getfield 27, 3) := by decide +kernel
theorem dX3_readDigit_69 : decode cX3_readDigit 69 = .ok (.iconst 1, 1) := by decide +kernel
theorem dX3_readDigit_70 : decode cX3_readDigit 70 = .ok (.isub, 1) := by decide +kernel
theorem dX3_readDigit_71 : decode cX3_readDigit 71 = .ok (.caload, 1) := by decide +kernel
theorem dX3_readDigit_72 : decode cX3_readDigit 72 = .ok (.bipush 48, 2) := by decide +kernel
theorem dX3_readDigit_74 : decode cX3_readDigit 74 = .ok (.isub, 1) := by decide +kernel
theorem dX3_readDigit_75 : decode cX3_readDigit 75 = .ok (.ireturn, 1) := by decide +kernel
theorem dX3_readNumber_0 : decode cX3_readNumber 0 = .ok (.iconst 0, 1) := by decide +kernel
theorem dX3_readNumber_1 : decode cX3_readNumber 1 = .ok (.istore_n 1, 1) := by decide +kernel
theorem dX3_readNumber_2 : decode cX3_readNumber 2 = .ok (.iconst 0, 1) := by decide +kernel
theorem dX3_readNumber_3 : decode cX3_readNumber 3 = .ok (.istore_n 2, 1) := by decide +kernel
theorem dX3_readNumber_4 : decode cX3_readNumber 4 = .ok (.iload_n 2, 1) := by decide +kernel
theorem dX3_readNumber_5 : decode cX3_readNumber 5 = .ok (.iconst 4, 1) := by decide +kernel
theorem dX3_readNumber_6 : decode cX3_readNumber 6 = .ok (.if_icmp .ge 83, 3) := by decide +kernel
theorem dX3_readNumber_9 : decode cX3_readNumber 9 = .ok (.aload_n 0, 1) := by decide +kernel
theorem dX3_readNumber_10 : decode cX3_readNumber 10 = .ok (.getfield 23, 3) := by decide +kernel
theorem dX3_readNumber_13 : decode cX3_readNumber 13 = .ok (.ifCond .ne 76, 3) := by decide +kernel
theorem dX3_readNumber_16 : decode cX3_readNumber 16 = .ok (.aload_n 0, 1) := by decide +kernel
theorem dX3_readNumber_17 : decode cX3_readNumber 17 = .ok (.getfield 27, 3) := by decide +kernel
theorem dX3_readNumber_20 : decode cX3_readNumber 20 = .ok (.aload_n 0, 1) := by decide +kernel
theorem dX3_readNumber_21 : decode cX3_readNumber 21 = .ok (.getfield 19, 3) := by decide +kernel
theorem dX3_readNumber_24 : decode cX3_readNumber 24 = .ok (.if_icmp .ge 65, 3) := by decide +kernel
theorem dX3_readNumber_27 : decode cX3_readNumber 27 = .ok (.aload_n 0, 1) := by decide +kernel
theorem dX3_readNumber_28 : decode cX3_readNumber 28 = .ok (.getfield 7, 3) := by decide +kernel
theorem dX3_readNumber_31 : decode cX3_readNumber 31 = .ok (.aload_n 0, 1) := by decide +kernel
theorem dX3_readNumber_32 : decode cX3_readNumber 32 = .ok (.getfield 27, 3) := by decide +kernel
theorem dX3_readNumber_35 : decode cX3_readNumber 35 = .ok (.caload, 1) := by decide +kernel
theorem dX3_readNumber_36 : decode cX3_readNumber 36 = .ok (.bipush 48, 2) := by decide +kernel
theorem dX3_readNumber_38 : decode cX3_readNumber 38 = .ok (.if_icmp .lt 51, 3) := by decide +kernel
theorem dX3_readNumber_41 : decode cX3_readNumber 41 = .ok (.aload_n 0, 1) := by decide +kernel
theorem dX3_readNumber_42 : decode cX3_readNumber 42 = .ok (.getfield 7, 3) := by decide +kernel
theorem dX3_readNumber_45 : decode cX3_readNumber 45 = .ok (.aload_n 0, 1) := by decide +kernel
theorem dX3_readNumber_46 : decode cX3_readNumber 46 = .ok (.getfield 27, 3) := by decide +kernel
theorem dX3_readNumber_49 : decode cX3_readNumber 49 = .ok (.caload, 1) := by decide +kernel
theorem dX3_readNumber_50 : decode cX3_readNumber 50 = .ok (.bipush 57, 2) := by decide +kernel
theorem dX3_readNumber_52 : decode cX3_readNumber 52 = .ok (.if_icmp .gt 37, 3) := by decide +kernel
theorem dX3_readNumber_55 : decode cX3_readNumber 55 = .ok (.iload_n 1, 1) := by decide +kernel
theorem dX3_readNumber_56 : decode cX3_readNumber 56 = .ok (.bipush 10, 2) := by decide +kernel
theorem dX3_readNumber_58 : decode cX3_readNumber 58 = .ok (.imul, 1) := by decide +kernel
theorem dX3_readNumber_59 : decode cX3_readNumber 59 = .ok (.aload_n 0, 1) := by decide +kernel
theorem dX3_readNumber_60 : decode cX3_readNumber 60 = .ok (.getfield 7, 3) := by decide +kernel
theorem dX3_readNumber_63 : decode cX3_readNumber 63 = .ok (.aload_n 0, 1) := by decide +kernel
theorem dX3_readNumber_64 : decode cX3_readNumber 64 = .ok (.getfield 27, 3) := by decide +kernel
theorem dX3_readNumber_67 : decode cX3_readNumber 67 = .ok (.caload, 1) := by decide +kernel
theorem dX3_readNumber_68 : decode cX3_readNumber 68 = .ok (.iadd, 1) := by decide +kernel
theorem dX3_readNumber_69 : decode cX3_readNumber 69 = .ok (.bipush 48, 2) := by decide +kernel
theorem dX3_readNumber_71 : decode cX3_readNumber 71 = .ok (.isub, 1) := by decide +kernel
theorem dX3_readNumber_72 : decode cX3_readNumber 72 = .ok (.istore_n 1, 1) := by decide +kernel
theorem dX3_readNumber_73 : decode cX3_readNumber 73 = .ok (.aload_n 0, 1) := by decide +kernel
theorem dX3_readNumber_74 : decode cX3_readNumber 74 = .ok (.dup, 1) := by decide +kernel
theorem dX3_readNumber_75 : decode cX3_readNumber 75 = .ok (.getfield 27, 3) := by decide +kernel
theorem dX3_readNumber_78 : decode cX3_readNumber 78 = .ok (.iconst 1, 1) := by decide +kernel
theorem dX3_readNumber_79 : decode cX3_readNumber 79 = .ok (.iadd, 1) := by decide +kernel
theorem dX3_readNumber_80 : decode cX3_readNumber 80 = .ok (.putfield 27, 3) := by decide +kernel
theorem dX3_readNumber_83 : decode cX3_readNumber 83 = .ok (.iinc 2 1, 3) := by decide +kernel
theorem dX3_readNumber_86 : decode cX3_readNumber 86 = .ok (.goto (-82), 3) := by decide +kernel
theorem dX3_readNumber_89 : decode cX3_readNumber 89 = .ok (.aload_n 0, 1) := by decide +kernel
theorem dX3_readNumber_90 : decode cX3_readNumber 90 = .ok (.aload_n 0, 1) := by decide +kernel
theorem dX3_readNumber_91 : decode cX3_readNumber 91 = .ok (.getfield 23, 3) := by decide +kernel
theorem dX3_readNumber_94 : decode cX3_readNumber 94 = .ok (.ifCond .ne 7, 3) := by decide +kernel
theorem dX3_readNumber_97 : decode cX3_readNumber 97 = .ok (.iload_n 2, 1) := by decide +kernel
theorem dX3_readNumber_98 : decode cX3_readNumber 98 = .ok (.ifCond .ne 7, 3) := by decide +kernel
theorem dX3_readNumber_101 : decode cX3_readNumber 101 = .ok (.iconst 1, 1) := by decide +kernel
theorem dX3_readNumber_102 : decode cX3_readNumber 102 = .ok (.goto 4, 3) := by decide +kernel
theorem dX3_readNumber_105 : decode cX3_readNumber 105 = .ok (.iconst 0, 1) := by decide +kernel
theorem dX3_readNumber_106 : decode cX3_readNumber 106 = .ok (.putfield 23, 3) := by decide +kernel
theorem dX3_readNumber_109 : decode cX3_readNumber 109 = .ok (.iload_n 1, 1) := by decide +kernel
theorem dX3_readNumber_110 : decode cX3_readNumber 110 = .ok (.ireturn, 1) := by decide +kernel
theorem dX4_init_0 : decode cX4_init 0 = .ok (.aload_n 0, 1) := by decide +kernel
theorem dX4_init_1 : decode cX4_init 1 = .ok (.invokespecial 1, 3) := by decide +kernel
theorem dX4_init_4 : decode cX4_init 4 = .ok (.aload_n 0, 1) := by decide +kernel
theorem dX4_init_5 : decode cX4_init 5 = .ok (.iconst 5, 1) := by decide +kernel
theorem dX4_init_6 : decode cX4_init 6 = .ok (.newarray .int, 2) := by decide +kernel
theorem dX4_init_8 : decode cX4_init 8 = .ok (.putfield 9, 3) := by decide +kernel
theorem dX4_init_11 : decode cX4_init 11 = .ok (.aload_n 0, 1) := by decide +kernel
theorem dX4_init_12 : decode cX4_init 12 = .ok (.iconst 5, 1) := by decide +kernel
theorem dX4_init_13 : decode cX4_init 13 = .ok (.newarray .int, 2) := by decide +kernel
theorem dX4_init_15 : decode cX4_init 15 = .ok (.putfield 13, 3) := by decide +kernel
theorem dX4_init_18 : decode cX4_init 18 = .ok (.return_, 1) := by decide +kernel
theorem dX4_init__0 : decode cX4_init_ 0 = .ok (.aload_n 0, 1) := by decide +kernel
theorem dX4_init__1 : decode cX4_init_ 1 = .ok (.invokespecial 1, 3) := by decide +kernel
theorem dX4_init__4 : decode cX4_init_ 4 = .ok (.aload_n 0, 1) := by decide +kernel
theorem dX4_init__5 : decode cX4_init_ 5 = .ok (.aload_n 1, 1) := by decide +kernel
theorem dX4_init__6 : decode cX4_init_ 6 = .ok (.getfield 16, 3) := by decide +kernel
theorem dX4_init__9 : decode cX4_init_ 9 = .ok (.putfield 16, 3) := by decide +kernel
theorem dX4_init__12 : decode cX4_init_ 12 = .ok (.aload_n 0, 1) := by decide +kernel
theorem dX4_init__13 : decode cX4_init_ 13 = .ok (.aload_n 1, 1) := by decide +kernel
theorem dX4_init__14 : decode cX4_init_ 14 = .ok (.getfield 9, 3) := by decide +kernel
theorem dX4_init__17 : decode cX4_init_ 17 = .ok (.invokevirtual 20, 3) := by decide +kernel
theorem dX4_init__20 : decode cX4_init_ 20 = .ok (.checkcast 21, 3) := by decide +kernel
theorem dX4_init__23 : decode cX4_init_ 23 = .ok (.putfield 9, 3) := by decide +kernel
theorem dX4_init__26 : decode cX4_init_ 26 = .ok (.aload_n 0, 1) := by decide +kernel
theorem dX4_init__27 : decode cX4_init_ 27 = .ok (.aload_n 1, 1) := by decide +kernel
theorem dX4_init__28 : decode cX4_init_ 28 = .ok (.getfield 13, 3) := by decide +kernel
theorem dX4_init__31 : decode cX4_init_ 31 = .ok (.invokevirtual 20, 3) := by decide +kernel
theorem dX4_init__34 : decode cX4_init_ 34 = .ok (.checkcast 21, 3) := by decide +kernel
theorem dX4_init__37 : decode cX4_init_ 37 = .ok (.putfield 13, 3) := by decide +kernel
theorem dX4_init__40 : decode cX4_init_ 40 = .ok (.aload_n 0, 1) := by decide +kernel
theorem dX4_init__41 : decode cX4_init_ 41 = .ok (.aload_n 1, 1) := by decide +kernel
theorem dX4_init__42 : decode cX4_init_ 42 = .ok (.getfield 25, 3) := by decide +kernel
theorem dX4_init__45 : decode cX4_init_ 45 = .ok (.putfield 25, 3) := by decide +kernel
theorem dX4_init__48 : decode cX4_init_ 48 = .ok (.return_, 1) := by decide +kernel
theorem dX4_putBreak_0 : decode cX4_putBreak 0 = .ok (.iconst 0, 1) := by decide +kernel
theorem dX4_putBreak_1 : decode cX4_putBreak 1 = .ok (.istore_n 3, 1) := by decide +kernel
theorem dX4_putBreak_2 : decode cX4_putBreak 2 = .ok (.iload_n 3, 1) := by decide +kernel
theorem dX4_putBreak_3 : decode cX4_putBreak 3 = .ok (.aload_n 0, 1) := by decide +kernel
theorem dX4_putBreak_4 : decode cX4_putBreak 4 = .ok (.getfield 16, 3) := by decide +kernel
theorem dX4_putBreak_7 : decode cX4_putBreak 7 = .ok (.if_icmp .ge 19, 3) := by decide +kernel
theorem dX4_putBreak_10 : decode cX4_putBreak 10 = .ok (.aload_n 0, 1) := by decide +kernel
theorem dX4_putBreak_11 : decode cX4_putBreak 11 = .ok (.getfield 9, 3) := by decide +kernel
theorem dX4_putBreak_14 : decode cX4_putBreak 14 = .ok (.iload_n 3, 1) := by decide +kernel
theorem dX4_putBreak_15 : decode cX4_putBreak 15 = .ok (.iaload, 1) := by decide +kernel
theorem dX4_putBreak_16 : decode cX4_putBreak 16 = .ok (.iload_n 1, 1) := by decide +kernel
theorem dX4_putBreak_17 : decode cX4_putBreak 17 = .ok (.if_icmp .ge 9, 3) := by decide +kernel
theorem dX4_putBreak_20 : decode cX4_putBreak 20 = .ok (.iinc 3 1, 3) := by decide +kernel
theorem dX4_putBreak_23 : decode cX4_putBreak 23 = .ok (.goto (-21), 3) := by decide +kernel
theorem dX4_putBreak_26 : decode cX4_putBreak 26 = .ok (.iload_n 3, 1) := by decide +kernel
theorem dX4_putBreak_27 : decode cX4_putBreak 27 = .ok (.aload_n 0, 1) := by decide +kernel
theorem dX4_putBreak_28 : decode cX4_putBreak 28 = .ok (.getfield 16, 3) := by decide +kernel
theorem dX4_putBreak_31 : decode cX4_putBreak 31 = .ok (.if_icmp .ge 17, 3) := by decide +kernel
theorem dX4_putBreak_34 : decode cX4_putBreak 34 = .ok (.aload_n 0, 1) := by decide +kernel
theorem dX4_putBreak_35 : decode cX4_putBreak 35 = .ok (.getfield 9, 3) := by decide +kernel
theorem dX4_putBreak_38 : decode cX4_putBreak 38 = .ok (.iload_n 3, 1) := by decide +kernel
theorem dX4_putBreak_39 : decode cX4_putBreak 39 = .ok (.iaload, 1) := by decide +kernel
theorem dX4_putBreak_40 : decode cX4_putBreak 40 = .ok (.iload_n 1, 1) := by decide +kernel
theorem dX4_putBreak_41 : decode cX4_putBreak 41 = .ok (.if_icmp .ne 7, 3) := by decide +kernel
theorem dX4_putBreak_44 : decode cX4_putBreak 44 = .ok (.iconst 1, 1) := by decide +kernel
theorem dX4_putBreak_45 : decode cX4_putBreak 45 = .ok (.goto 4, 3) := by decide +kernel
theorem dX4_putBreak_48 : decode cX4_putBreak 48 = .ok (.iconst 0, 1) := by decide +kernel
theorem dX4_putBreak_49 : decode cX4_putBreak 49 = .ok (.istore 4, 2) := by decide +kernel
theorem dX4_putBreak_51 : decode cX4_putBreak 51 = .ok (.iload_n 2, 1) := by decide +kernel
theorem dX4_putBreak_52 : decode cX4_putBreak 52 = .ok (.bipush 99, 2) := by decide +kernel
theorem dX4_putBreak_54 : decode cX4_putBreak 54 = .ok (.if_icmp .le 5, 3) := by decide +kernel
theorem dX4_putBreak_57 : decode cX4_putBreak 57 = .ok (.iconst 0, 1) := by decide +kernel
theorem dX4_putBreak_58 : decode cX4_putBreak 58 = .ok (.ireturn, 1) := by decide +kernel
theorem dX4_putBreak_59 : decode cX4_putBreak 59 = .ok (.iload_n 2, 1) := by decide +kernel
theorem dX4_putBreak_60 : decode cX4_putBreak 60 = .ok (.ifCond .ne 22, 3) := by decide +kernel
theorem dX4_putBreak_63 : decode cX4_putBreak 63 = .ok (.iload 4, 2) := by decide +kernel
theorem dX4_putBreak_65 : decode cX4_putBreak 65 = .ok (.ifCond .eq 15, 3) := by decide +kernel
theorem dX4_putBreak_68 : decode cX4_putBreak 68 = .ok (.aload_n 0, 1) := by decide +kernel
theorem dX4_putBreak_69 : decode cX4_putBreak 69 = .ok (.iload_n 3, 1) := by decide +kernel
theorem dX4_putBreak_70 : decode cX4_putBreak 70 = .ok (.invokevirtual 28, 3) := by decide +kernel
theorem dX4_putBreak_73 : decode cX4_putBreak 73 = .ok (.ifCond .eq 7, 3) := by decide +kernel
theorem dX4_putBreak_76 : decode cX4_putBreak 76 = .ok (.iconst 1, 1) := by decide +kernel
theorem dX4_putBreak_77 : decode cX4_putBreak 77 = .ok (.goto 4, 3) := by decide +kernel
theorem dX4_putBreak_80 : decode cX4_putBreak 80 = .ok (.iconst 0, 1) := by decide +kernel
theorem dX4_putBreak_81 : decode cX4_putBreak 81 = .ok (.ireturn, 1) := by decide +kernel
theorem dX4_putBreak_82 : decode cX4_putBreak 82 = .ok (.iload 4, 2) := by decide +kernel
theorem dX4_putBreak_84 : decode cX4_putBreak 84 = .ok (.ifCond .ne 13, 3) := by decide +kernel
theorem dX4_putBreak_87 : decode cX4_putBreak 87 = .ok (.aload_n 0, 1) := by decide +kernel
theorem dX4_putBreak_88 : decode cX4_putBreak 88 = .ok (.iload_n 3, 1) := by decide +kernel
theorem dX4_putBreak_89 : decode cX4_putBreak 89 = .ok (.invokevirtual 32, 3) := by decide +kernel
theorem dX4_putBreak_92 : decode cX4_putBreak 92 = .ok (.ifCond .ne 5, 3) := by decide +kernel
theorem dX4_putBreak_95 : decode cX4_putBreak 95 = .ok (.iconst 0, 1) := by decide +kernel
theorem dX4_putBreak_96 : decode cX4_putBreak 96 = .ok (.ireturn, 1) := by decide +kernel
theorem dX4_putBreak_97 : decode cX4_putBreak 97 = .ok (.aload_n 0, 1) := by decide +kernel
theorem dX4_putBreak_98 : decode cX4_putBreak 98 = .ok (.getfield 9, 3) := by decide +kernel
theorem dX4_putBreak_101 : decode cX4_putBreak 101 = .ok (.iload_n 3, 1) := by decide +kernel
theorem dX4_putBreak_102 : decode cX4_putBreak 102 = .ok (.iload_n 1, 1) := by decide +kernel
theorem dX4_putBreak_103 : decode cX4_putBreak 103 = .ok (.iastore, 1) := by decide +kernel
theorem dX4_putBreak_104 : decode cX4_putBreak 104 = .ok (.aload_n 0, 1) := by decide +kernel
theorem dX4_putBreak_105 : decode cX4_putBreak 105 = .ok (.getfield 13, 3) := by decide +kernel
theorem dX4_putBreak_108 : decode cX4_putBreak 108 = .ok (.iload_n 3, 1) := by decide +kernel
theorem dX4_putBreak_109 : decode cX4_putBreak 109 = .ok (.iload_n 2, 1) := by decide +kernel
theorem dX4_putBreak_110 : decode cX4_putBreak 110 = .ok (.iastore, 1) := by decide +kernel
theorem dX4_putBreak_111 : decode cX4_putBreak 111 = .ok (.iconst 1, 1) := by decide +kernel
theorem dX4_putBreak_112 : decode cX4_putBreak 112 = .ok (.ireturn, 1) := by decide +kernel
theorem dX4_removeBreak_0 : decode cX4_removeBreak 0 = .ok (.aload_n 0, 1) := by decide +kernel
theorem dX4_removeBreak_1 : decode cX4_removeBreak 1 = .ok (.dup, 1) := by decide +kernel
theorem dX4_removeBreak_2 : decode cX4_removeBreak 2 = .ok (.getfield 16, 3) := by decide +kernel
theorem dX4_removeBreak_5 : decode cX4_removeBreak 5 = .ok (.iconst 1, 1) := by decide +kernel
theorem dX4_removeBreak_6 : decode cX4_removeBreak 6 = .ok (.isub, 1) := by decide +kernel
theorem dX4_removeBreak_7 : decode cX4_removeBreak 7 = .ok (.putfield 16, 3) := by decide +kernel
theorem dX4_removeBreak_10 : decode cX4_removeBreak 10 = .ok (.iload_n 1, 1) := by decide +kernel
theorem dX4_removeBreak_11 : decode cX4_removeBreak 11 = .ok (.istore_n 2, 1) := by decide +kernel
theorem dX4_removeBreak_12 : decode cX4_removeBreak 12 = .ok (.iload_n 2, 1) := by decide +kernel
theorem dX4_removeBreak_13 : decode cX4_removeBreak 13 = .ok (.aload_n 0, 1) := by decide +kernel
theorem dX4_removeBreak_14 : decode cX4_removeBreak 14 = .ok (.getfield 16, 3) := by decide +kernel
theorem dX4_removeBreak_17 : decode cX4_removeBreak 17 = .ok (.if_icmp .ge 37, 3) := by decide +kernel
theorem dX4_removeBreak_20 : decode cX4_removeBreak 20 = .ok (.aload_n 0, 1) := by decide +kernel
theorem dX4_removeBreak_21 : decode cX4_removeBreak 21 = .ok (.getfield 9, 3) := by decide +kernel
theorem dX4_removeBreak_24 : decode cX4_removeBreak 24 = .ok (.iload_n 2, 1) := by decide +kernel
theorem dX4_removeBreak_25 : decode cX4_removeBreak 25 = .ok (.aload_n 0, 1) := by decide +kernel
theorem dX4_removeBreak_26 : decode cX4_removeBreak 26 = .ok (.getfield 9, 3) := by decide +kernel
theorem dX4_removeBreak_29 : decode cX4_removeBreak 29 = .ok (.iload_n 2, 1) := by decide +kernel
theorem dX4_removeBreak_30 : decode cX4_removeBreak 30 = .ok (.iconst 1, 1) := by decide +kernel
theorem dX4_removeBreak_31 : decode cX4_removeBreak 31 = .ok (.iadd, 1) := by decide +kernel
theorem dX4_removeBreak_32 : decode cX4_removeBreak 32 = .ok (.iaload, 1) := by decide +kernel
theorem dX4_removeBreak_33 : decode cX4_removeBreak 33 = .ok (.iastore, 1) := by decide +kernel
theorem dX4_removeBreak_34 : decode cX4_removeBreak 34 = .ok (.aload_n 0, 1) := by decide +kernel
theorem dX4_removeBreak_35 : decode cX4_removeBreak 35 = .ok (.getfield 13, 3) := by decide +kernel
theorem dX4_removeBreak_38 : decode cX4_removeBreak 38 = .ok (.iload_n 2, 1) := by decide +kernel
theorem dX4_removeBreak_39 : decode cX4_removeBreak 39 = .ok (.aload_n 0, 1) := by decide +kernel
theorem dX4_removeBreak_40 : decode cX4_removeBreak 40 = .ok (.getfield 13, 3) := by decide +kernel
theorem dX4_removeBreak_43 : decode cX4_removeBreak 43 = .ok (.iload_n 2, 1) := by decide +kernel
theorem dX4_removeBreak_44 : decode cX4_removeBreak 44 = .ok (.iconst 1, 1) := by decide +kernel
theorem dX4_removeBreak_45 : decode cX4_removeBreak 45 = .ok (.iadd, 1) := by decide +kernel
theorem dX4_removeBreak_46 : decode cX4_removeBreak 46 = .ok (.iaload, 1) := by decide +kernel
theorem dX4_removeBreak_47 : decode cX4_removeBreak 47 = .ok (.iastore, 1) := by decide +kernel
theorem dX4_removeBreak_48 : decode cX4_removeBreak 48 = .ok (.iinc 2 1, 3) := by decide +kernel
theorem dX4_removeBreak_51 : decode cX4_removeBreak 51 = .ok (.goto (-39), 3) := by decide +kernel
theorem dX4_removeBreak_54 : decode cX4_removeBreak 54 = .ok (.iconst 1, 1) := by decide +kernel
theorem dX4_removeBreak_55 : decode cX4_removeBreak 55 = .ok (.ireturn, 1) := by decide +kernel
theorem dX4_openGap_0 : decode cX4_openGap 0 = .ok (.aload_n 0, 1) := by decide +kernel
theorem dX4_openGap_1 : decode cX4_openGap 1 = .ok (.getfield 16, 3) := by decide +kernel
theorem dX4_openGap_4 : decode cX4_openGap 4 = .ok (.iconst 5, 1) := by decide +kernel
theorem dX4_openGap_5 : decode cX4_openGap 5 = .ok (.if_icmp .lt 5, 3) := by decide +kernel
theorem dX4_openGap_8 : decode cX4_openGap 8 = .ok (.iconst 0, 1) := by decide +kernel
theorem dX4_openGap_9 : decode cX4_openGap 9 = .ok (.ireturn, 1) := by decide +kernel
theorem dX4_openGap_10 : decode cX4_openGap 10 = .ok (.aload_n 0, 1) := by decide +kernel
theorem dX4_openGap_11 : decode cX4_openGap 11 = .ok (.getfield 16, 3) := by decide +kernel
theorem dX4_openGap_14 : decode cX4_openGap 14 = .ok (.istore_n 2, 1) := by decide +kernel
theorem dX4_openGap_15 : decode cX4_openGap 15 = .ok (.iload_n 2, 1) := by decide +kernel
theorem dX4_openGap_16 : decode cX4_openGap 16 = .ok (.iload_n 1, 1) := by decide +kernel
theorem dX4_openGap_17 : decode cX4_openGap 17 = .ok (.if_icmp .le 37, 3) := by decide +kernel
theorem dX4_openGap_20 : decode cX4_openGap 20 = .ok (.aload_n 0, 1) := by decide +kernel
theorem dX4_openGap_21 : decode cX4_openGap 21 = .ok (.getfield 9, 3) := by decide +kernel
theorem dX4_openGap_24 : decode cX4_openGap 24 = .ok (.iload_n 2, 1) := by decide +kernel
theorem dX4_openGap_25 : decode cX4_openGap 25 = .ok (.aload_n 0, 1) := by decide +kernel
theorem dX4_openGap_26 : decode cX4_openGap 26 = .ok (.getfield 9, 3) := by decide +kernel
theorem dX4_openGap_29 : decode cX4_openGap 29 = .ok (.iload_n 2, 1) := by decide +kernel
theorem dX4_openGap_30 : decode cX4_openGap 30 = .ok (.iconst 1, 1) := by decide +kernel
theorem dX4_openGap_31 : decode cX4_openGap 31 = .ok (.isub, 1) := by decide +kernel
theorem dX4_openGap_32 : decode cX4_openGap 32 = .ok (.iaload, 1) := by decide +kernel
theorem dX4_openGap_33 : decode cX4_openGap 33 = .ok (.iastore, 1) := by decide +kernel
theorem dX4_openGap_34 : decode cX4_openGap 34 = .ok (.aload_n 0, 1) := by decide +kernel
theorem dX4_openGap_35 : decode cX4_openGap 35 = .ok (.getfield 13, 3) := by decide +kernel
theorem dX4_openGap_38 : decode cX4_openGap 38 = .ok (.iload_n 2, 1) := by decide +kernel
theorem dX4_openGap_39 : decode cX4_openGap 39 = .ok (.aload_n 0, 1) := by decide +kernel
theorem dX4_openGap_40 : decode cX4_openGap 40 = .ok (.getfield 13, 3) := by decide +kernel
theorem dX4_openGap_43 : decode cX4_openGap 43 = .ok (.iload_n 2, 1) := by decide +kernel
theorem dX4_openGap_44 : decode cX4_openGap 44 = .ok (.iconst 1, 1) := by decide +kernel
theorem dX4_openGap_45 : decode cX4_openGap 45 = .ok (.isub, 1) := by decide +kernel
theorem dX4_openGap_46 : decode cX4_openGap 46 = .ok (.iaload, 1) := by decide +kernel
theorem dX4_openGap_47 : decode cX4_openGap 47 = .ok (.iastore, 1) := by decide +kernel
theorem dX4_openGap_48 : decode cX4_openGap 48 = .ok (.iinc 2 (-1), 3) := by decide +kernel
theorem dX4_openGap_51 : decode cX4_openGap 51 = .ok (.goto (-36), 3) := by decide +kernel
theorem dX4_openGap_54 : decode cX4_openGap 54 = .ok (.aload_n 0, 1) := by decide +kernel
theorem dX4_openGap_55 : decode cX4_openGap 55 = .ok (.dup, 1) := by decide +kernel
theorem dX4_openGap_56 : decode cX4_openGap 56 = .ok (.getfield 16, 3) := by decide +kernel
theorem dX4_openGap_59 : decode cX4_openGap 59 = .ok (.iconst 1, 1) := by decide +kernel
theorem dX4_openGap_60 : decode cX4_openGap 60 = .ok (.iadd, 1) := by decide +kernel
theorem dX4_openGap_61 : decode cX4_openGap 61 = .ok (.putfield 16, 3) := by decide +kernel
theorem dX4_openGap_64 : decode cX4_openGap 64 = .ok (.iconst 1, 1) := by decide +kernel
theorem dX4_openGap_65 : decode cX4_openGap 65 = .ok (.ireturn, 1) := by decide +kernel
theorem dX4_findCheapest_0 : decode cX4_findCheapest 0 = .ok (.iconst (-1), 1) := by decide +kernel
theorem dX4_findCheapest_1 : decode cX4_findCheapest 1 = .ok (.istore_n 2, 1) := by decide +kernel
theorem dX4_findCheapest_2 : decode cX4_findCheapest 2 = .ok (.iconst 0, 1) := by decide +kernel
theorem dX4_findCheapest_3 : decode cX4_findCheapest 3 = .ok (.istore_n 3, 1) := by decide +kernel
theorem dX4_findCheapest_4 : decode cX4_findCheapest 4 = .ok (.iload_n 3, 1) := by decide +kernel
theorem dX4_findCheapest_5 : decode cX4_findCheapest 5 = .ok (.aload_n 0, 1) := by decide +kernel
theorem dX4_findCheapest_6 : decode cX4_findCheapest 6 = .ok (.getfield 16, 3) := by decide +kernel
theorem dX4_findCheapest_9 : decode cX4_findCheapest 9 = .ok (.if_icmp .ge 30, 3) := by decide +kernel
theorem dX4_findCheapest_12 : decode cX4_findCheapest 12 = .ok (.iload_n 2, 1) := by decide +kernel
theorem dX4_findCheapest_13 : decode cX4_findCheapest 13 = .ok (.ifCond .lt 18, 3) := by decide +kernel
theorem dX4_findCheapest_16 : decode cX4_findCheapest 16 = .ok (.aload_n 0, 1) := by decide +kernel
theorem dX4_findCheapest_17 : decode cX4_findCheapest 17 = .ok (.iload_n 3, 1) := by decide +kernel
theorem dX4_findCheapest_18 : decode cX4_findCheapest 18 = .ok (.iload_n 1, 1) := by decide +kernel
theorem dX4_findCheapest_19 : decode cX4_findCheapest 19 = .ok (.invokevirtual 35, 3) := by decide +kernel
theorem dX4_findCheapest_22 : decode cX4_findCheapest 22 = .ok (.aload_n 0, 1) := by decide +kernel
theorem dX4_findCheapest_23 : decode cX4_findCheapest 23 = .ok (.iload_n 2, 1) := by decide +kernel
theorem dX4_findCheapest_24 : decode cX4_findCheapest 24 = .ok (.iload_n 1, 1) := by decide +kernel
theorem dX4_findCheapest_25 : decode cX4_findCheapest 25 = .ok (.invokevirtual 35, 3) := by decide +kernel
theorem dX4_findCheapest_28 : decode cX4_findCheapest 28 = .ok (.if_icmp .ge 5, 3) := by decide +kernel
theorem dX4_findCheapest_31 : decode cX4_findCheapest 31 = .ok (.iload_n 3, 1) := by decide +kernel
theorem dX4_findCheapest_32 : decode cX4_findCheapest 32 = .ok (.istore_n 2, 1) := by decide +kernel
theorem dX4_findCheapest_33 : decode cX4_findCheapest 33 = .ok (.iinc 3 1, 3) := by decide +kernel
theorem dX4_findCheapest_36 : decode cX4_findCheapest 36 = .ok (.goto (-32), 3) := by decide +kernel
theorem dX4_findCheapest_39 : decode cX4_findCheapest 39 = .ok (.iload_n 2, 1) := by decide +kernel
theorem dX4_findCheapest_40 : decode cX4_findCheapest 40 = .ok (.ireturn, 1) := by decide +kernel
theorem dX4_chargeFor_0 : decode cX4_chargeFor 0 = .ok (.aload_n 0, 1) := by decide +kernel
theorem dX4_chargeFor_1 : decode cX4_chargeFor 1 = .ok (.iload_n 1, 1) := by decide +kernel
theorem dX4_chargeFor_2 : decode cX4_chargeFor 2 = .ok (.iload_n 2, 1) := by decide +kernel
theorem dX4_chargeFor_3 : decode cX4_chargeFor 3 = .ok (.invokevirtual 35, 3) := by decide +kernel
theorem dX4_chargeFor_6 : decode cX4_chargeFor 6 = .ok (.aload_n 0, 1) := by decide +kernel
theorem dX4_chargeFor_7 : decode cX4_chargeFor 7 = .ok (.getfield 25, 3) := by decide +kernel
theorem dX4_chargeFor_10 : decode cX4_chargeFor 10 = .ok (.invokestatic 39, 3) := by decide +kernel
theorem dX4_chargeFor_13 : decode cX4_chargeFor 13 = .ok (.ireturn, 1) := by decide +kernel
theorem dX4_amountBy_0 : decode cX4_amountBy 0 = .ok (.iload_n 2, 1) := by decide +kernel
theorem dX4_amountBy_1 : decode cX4_amountBy 1 = .ok (.aload_n 0, 1) := by decide +kernel
theorem dX4_amountBy_2 : decode cX4_amountBy 2 = .ok (.getfield 9, 3) := by decide +kernel
theorem dX4_amountBy_5 : decode cX4_amountBy 5 = .ok (.iload_n 1, 1) := by decide +kernel
theorem dX4_amountBy_6 : decode cX4_amountBy 6 = .ok (.iaload, 1) := by decide +kernel
theorem dX4_amountBy_7 : decode cX4_amountBy 7 = .ok (.invokestatic 39, 3) := by decide +kernel
theorem dX4_amountBy_10 : decode cX4_amountBy 10 = .ok (.aload_n 0, 1) := by decide +kernel
theorem dX4_amountBy_11 : decode cX4_amountBy 11 = .ok (.getfield 13, 3) := by decide +kernel
theorem dX4_amountBy_14 : decode cX4_amountBy 14 = .ok (.iload_n 1, 1) := by decide +kernel
theorem dX4_amountBy_15 : decode cX4_amountBy 15 = .ok (.iaload, 1) := by decide +kernel
theorem dX4_amountBy_16 : decode cX4_amountBy 16 = .ok (.imul, 1) := by decide +kernel
theorem dX4_amountBy_17 : decode cX4_amountBy 17 = .ok (.ireturn, 1) := by decide +kernel
theorem dX5_init_0 : decode cX5_init 0 = .ok (.aload_n 0, 1) := by decide +kernel
theorem dX5_init_1 : decode cX5_init 1 = .ok (.invokespecial 1, 3) := by decide +kernel
theorem dX5_init_4 : decode cX5_init 4 = .ok (.aload_n 0, 1) := by decide +kernel
theorem dX5_init_5 : decode cX5_init 5 = .ok (.iconst (-1), 1) := by decide +kernel
theorem dX5_init_6 : decode cX5_init 6 = .ok (.putfield 9, 3) := by decide +kernel
theorem dX5_init_9 : decode cX5_init 9 = .ok (.aload_n 0, 1) := by decide +kernel
theorem dX5_init_10 : decode cX5_init 10 = .ok (.iload_n 1, 1) := by decide +kernel
theorem dX5_init_11 : decode cX5_init 11 = .ok (.putfield 13, 3) := by decide +kernel
theorem dX5_init_14 : decode cX5_init 14 = .ok (.aload_n 0, 1) := by decide +kernel
theorem dX5_init_15 : decode cX5_init 15 = .ok (.iload_n 2, 1) := by decide +kernel
theorem dX5_init_16 : decode cX5_init 16 = .ok (.putfield 16, 3) := by decide +kernel
theorem dX5_init_19 : decode cX5_init 19 = .ok (.aload_n 0, 1) := by decide +kernel
theorem dX5_init_20 : decode cX5_init 20 = .ok (.iload_n 3, 1) := by decide +kernel
theorem dX5_init_21 : decode cX5_init 21 = .ok (.putfield 19, 3) := by decide +kernel
theorem dX5_init_24 : decode cX5_init 24 = .ok (.aload_n 0, 1) := by decide +kernel
theorem dX5_init_25 : decode cX5_init 25 = .ok (.iload 4, 2) := by decide +kernel
theorem dX5_init_27 : decode cX5_init 27 = .ok (.putfield 22, 3) := by decide +kernel
theorem dX5_init_30 : decode cX5_init 30 = .ok (.aload_n 0, 1) := by decide +kernel
theorem dX5_init_31 : decode cX5_init 31 = .ok (.iconst 5, 1) := by decide +kernel
theorem dX5_init_32 : decode cX5_init 32 = .ok (.newarray .int, 2) := by decide +kernel
theorem dX5_init_34 : decode cX5_init 34 = .ok (.putfield 25, 3) := by decide +kernel
theorem dX5_init_37 : decode cX5_init 37 = .ok (.return_, 1) := by decide +kernel
theorem dX5_init__0 : decode cX5_init_ 0 = .ok (.aload_n 0, 1) := by decide +kernel
theorem dX5_init__1 : decode cX5_init_ 1 = .ok (.invokespecial 1, 3) := by decide +kernel
theorem dX5_init__4 : decode cX5_init_ 4 = .ok (.aload_n 0, 1) := by decide +kernel
theorem dX5_init__5 : decode cX5_init_ 5 = .ok (.iconst (-1), 1) := by decide +kernel
theorem dX5_init__6 : decode cX5_init_ 6 = .ok (.putfield 9, 3) := by decide +kernel
theorem dX5_init__9 : decode cX5_init_ 9 = .ok (.aload_n 0, 1) := by decide +kernel
theorem dX5_init__10 : decode cX5_init_ 10 = .ok (.aload_n 1, 1) := by decide +kernel
theorem dX5_init__11 : decode cX5_init_ 11 = .ok (.getfield 13, 3) := by decide +kernel
theorem dX5_init__14 : decode cX5_init_ 14 = .ok (.putfield 13, 3) := by decide +kernel
theorem dX5_init__17 : decode cX5_init_ 17 = .ok (.aload_n 0, 1) := by decide +kernel
theorem dX5_init__18 : decode cX5_init_ 18 = .ok (.aload_n 1, 1) := by decide +kernel
theorem dX5_init__19 : decode cX5_init_ 19 = .ok (.getfield 16, 3) := by decide +kernel
theorem dX5_init__22 : decode cX5_init_ 22 = .ok (.putfield 16, 3) := by decide +kernel
theorem dX5_init__25 : decode cX5_init_ 25 = .ok (.aload_n 0, 1) := by decide +kernel
theorem dX5_init__26 : decode cX5_init_ 26 = .ok (.aload_n 1, 1) := by decide +kernel
theorem dX5_init__27 : decode cX5_init_ 27 = .ok (.getfield 19, 3) := by decide +kernel
theorem dX5_init__30 : decode cX5_init_ 30 = .ok (.putfield 19, 3) := by decide +kernel
theorem dX5_init__33 : decode cX5_init_ 33 = .ok (.aload_n 0, 1) := by decide +kernel
theorem dX5_init__34 : decode cX5_init_ 34 = .ok (.aload_n 1, 1) := by decide +kernel
theorem dX5_init__35 : decode cX5_init_ 35 = .ok (.getfield 22, 3) := by decide +kernel
theorem dX5_init__38 : decode cX5_init_ 38 = .ok (.putfield 22, 3) := by decide +kernel
theorem dX5_init__41 : decode cX5_init_ 41 = .ok (.aload_n 0, 1) := by decide +kernel
theorem dX5_init__42 : decode cX5_init_ 42 = .ok (.aload_n 1, 1) := by decide +kernel
theorem dX5_init__43 : decode cX5_init_ 43 = .ok (.getfield 29, 3) := by decide +kernel
theorem dX5_init__46 : decode cX5_init_ 46 = .ok (.putfield 29, 3) := by decide +kernel
theorem dX5_init__49 : decode cX5_init_ 49 = .ok (.aload_n 0, 1) := by decide +kernel
theorem dX5_init__50 : decode cX5_init_ 50 = .ok (.aload_n 1, 1) := by decide +kernel
theorem dX5_init__51 : decode cX5_init_ 51 = .ok (.getfield 25, 3) := by decide +kernel
theorem dX5_init__54 : decode cX5_init_ 54 = .ok (.invokevirtual 32, 3) := by decide +kernel
theorem dX5_init__57 : decode cX5_init_ 57 = .ok (.checkcast 33, 3) := by decide +kernel
theorem dX5_init__60 : decode cX5_init_ 60 = .ok (.putfield 25, 3) := by decide +kernel
theorem dX5_init__63 : decode cX5_init_ 63 = .ok (.aload_n 0, 1) := by decide +kernel
theorem dX5_init__64 : decode cX5_init_ 64 = .ok (.aload_n 1, 1) := by decide +kernel
theorem dX5_init__65 : decode cX5_init_ 65 = .ok (.getfield 37, 3) := by decide +kernel
theorem dX5_init__68 : decode cX5_init_ 68 = .ok (.putfield 37, 3) := by decide +kernel
theorem dX5_init__71 : decode cX5_init_ 71 = .ok (.aload_n 0, 1) := by decide +kernel
theorem dX5_init__72 : decode cX5_init_ 72 = .ok (.aload_n 1, 1) := by decide +kernel
theorem dX5_init__73 : decode cX5_init_ 73 = .ok (.getfield 40, 3) := by decide +kernel
theorem dX5_init__76 : decode cX5_init_ 76 = .ok (.putfield 40, 3) := by decide +kernel
theorem dX5_init__79 : decode cX5_init_ 79 = .ok (.aload_n 0, 1) := by decide +kernel
theorem dX5_init__80 : decode cX5_init_ 80 = .ok (.aload_n 1, 1) := by decide +kernel
theorem dX5_init__81 : decode cX5_init_ 81 = .ok (.getfield 9, 3) := by decide +kernel
theorem dX5_init__84 : decode cX5_init_ 84 = .ok (.putfield 9, 3) := by decide +kernel
theorem dX5_init__87 : decode cX5_init_ 87 = .ok (.return_, 1) := by decide +kernel
theorem dX5_isPosted_0 : decode cX5_isPosted 0 = .ok (.aload_n 0, 1) := by decide +kernel
theorem dX5_isPosted_1 : decode cX5_isPosted 1 = .ok (.getfield 9, 3) := by decide +kernel
theorem dX5_isPosted_4 : decode cX5_isPosted 4 = .ok (.iconst (-1), 1) := by decide +kernel
theorem dX5_isPosted_5 : decode cX5_isPosted 5 = .ok (.if_icmp .eq 7, 3) := by decide +kernel
theorem dX5_isPosted_8 : decode cX5_isPosted 8 = .ok (.iconst 1, 1) := by decide +kernel
theorem dX5_isPosted_9 : decode cX5_isPosted 9 = .ok (.goto 4, 3) := by decide +kernel
theorem dX5_isPosted_12 : decode cX5_isPosted 12 = .ok (.iconst 0, 1) := by decide +kernel
theorem dX5_isPosted_13 : decode cX5_isPosted 13 = .ok (.ireturn, 1) := by decide +kernel
theorem dX5_addPiece_0 : decode cX5_addPiece 0 = .ok (.aload_n 0, 1) := by decide +kernel
theorem dX5_addPiece_1 : decode cX5_addPiece 1 = .ok (.getfield 29, 3) := by decide +kernel
theorem dX5_addPiece_4 : decode cX5_addPiece 4 = .ok (.iconst 5, 1) := by decide +kernel
theorem dX5_addPiece_5 : decode cX5_addPiece 5 = .ok (.if_icmp .lt 4, 3) := by decide +kernel
theorem dX5_addPiece_8 : decode cX5_addPiece 8 = .ok (.return_, 1) := by decide +kernel
theorem dX5_addPiece_9 : decode cX5_addPiece 9 = .ok (.aload_n 0, 1) := by decide +kernel
theorem dX5_addPiece_10 : decode cX5_addPiece 10 = .ok (.getfield 25, 3) := by decide +kernel
theorem dX5_addPiece_13 : decode cX5_addPiece 13 = .ok (.aload_n 0, 1) := by decide +kernel
theorem dX5_addPiece_14 : decode cX5_addPiece 14 = .ok (.getfield 29, 3) := by decide +kernel
theorem dX5_addPiece_17 : decode cX5_addPiece 17 = .ok (.iload_n 1, 1) := by decide +kernel
theorem dX5_addPiece_18 : decode cX5_addPiece 18 = .ok (.iload_n 2, 1) := by decide +kernel
theorem dX5_addPiece_19 : decode cX5_addPiece 19 = .ok (.imul, 1) := by decide +kernel
theorem dX5_addPiece_20 : decode cX5_addPiece 20 = .ok (.iload_n 3, 1) := by decide +kernel
theorem dX5_addPiece_21 : decode cX5_addPiece 21 = .ok (.imul, 1) := by decide +kernel
theorem dX5_addPiece_22 : decode cX5_addPiece 22 = .ok (.iastore, 1) := by decide +kernel
theorem dX5_addPiece_23 : decode cX5_addPiece 23 = .ok (.aload_n 0, 1) := by decide +kernel
theorem dX5_addPiece_24 : decode cX5_addPiece 24 = .ok (.dup, 1) := by decide +kernel
theorem dX5_addPiece_25 : decode cX5_addPiece 25 = .ok (.getfield 29, 3) := by decide +kernel
theorem dX5_addPiece_28 : decode cX5_addPiece 28 = .ok (.iconst 1, 1) := by decide +kernel
theorem dX5_addPiece_29 : decode cX5_addPiece 29 = .ok (.iadd, 1) := by decide +kernel
theorem dX5_addPiece_30 : decode cX5_addPiece 30 = .ok (.putfield 29, 3) := by decide +kernel
theorem dX5_addPiece_33 : decode cX5_addPiece 33 = .ok (.aload_n 0, 1) := by decide +kernel
theorem dX5_addPiece_34 : decode cX5_addPiece 34 = .ok (.dup, 1) := by decide +kernel
theorem dX5_addPiece_35 : decode cX5_addPiece 35 = .ok (.getfield 37, 3) := by decide +kernel
theorem dX5_addPiece_38 : decode cX5_addPiece 38 = .ok (.iload 4, 2) := by decide +kernel
theorem dX5_addPiece_40 : decode cX5_addPiece 40 = .ok (.iadd, 1) := by decide +kernel
theorem dX5_addPiece_41 : decode cX5_addPiece 41 = .ok (.putfield 37, 3) := by decide +kernel
theorem dX5_addPiece_44 : decode cX5_addPiece 44 = .ok (.aload_n 0, 1) := by decide +kernel
theorem dX5_addPiece_45 : decode cX5_addPiece 45 = .ok (.aload_n 0, 1) := by decide +kernel
theorem dX5_addPiece_46 : decode cX5_addPiece 46 = .ok (.getfield 40, 3) := by decide +kernel
theorem dX5_addPiece_49 : decode cX5_addPiece 49 = .ok (.iload_n 1, 1) := by decide +kernel
theorem dX5_addPiece_50 : decode cX5_addPiece 50 = .ok (.iload_n 2, 1) := by decide +kernel
theorem dX5_addPiece_51 : decode cX5_addPiece 51 = .ok (.iload_n 3, 1) := by decide +kernel
theorem dX5_addPiece_52 : decode cX5_addPiece 52 = .ok (.invokestatic 43, 3) := by decide +kernel
theorem dX5_addPiece_55 : decode cX5_addPiece 55 = .ok (.invokestatic 43, 3) := by decide +kernel
theorem dX5_addPiece_58 : decode cX5_addPiece 58 = .ok (.invokestatic 43, 3) := by decide +kernel
theorem dX5_addPiece_61 : decode cX5_addPiece 61 = .ok (.putfield 40, 3) := by decide +kernel
theorem dX5_addPiece_64 : decode cX5_addPiece 64 = .ok (.return_, 1) := by decide +kernel
theorem dX5_volume_0 : decode cX5_volume 0 = .ok (.iconst 0, 1) := by decide +kernel
theorem dX5_volume_1 : decode cX5_volume 1 = .ok (.istore_n 1, 1) := by decide +kernel
theorem dX5_volume_2 : decode cX5_volume 2 = .ok (.iconst 0, 1) := by decide +kernel
theorem dX5_volume_3 : decode cX5_volume 3 = .ok (.istore_n 2, 1) := by decide +kernel
theorem dX5_volume_4 : decode cX5_volume 4 = .ok (.iload_n 2, 1) := by decide +kernel
theorem dX5_volume_5 : decode cX5_volume 5 = .ok (.aload_n 0, 1) := by decide +kernel
theorem dX5_volume_6 : decode cX5_volume 6 = .ok (.getfield 29, 3) := by decide +kernel
theorem dX5_volume_9 : decode cX5_volume 9 = .ok (.if_icmp .ge 18, 3) := by decide +kernel
theorem dX5_volume_12 : decode cX5_volume 12 = .ok (.iload_n 1, 1) := by decide +kernel
theorem dX5_volume_13 : decode cX5_volume 13 = .ok (.aload_n 0, 1) := by decide +kernel
theorem dX5_volume_14 : decode cX5_volume 14 = .ok (.getfield 25, 3) := by decide +kernel
theorem dX5_volume_17 : decode cX5_volume 17 = .ok (.iload_n 2, 1) := by decide +kernel
theorem dX5_volume_18 : decode cX5_volume 18 = .ok (.iaload, 1) := by decide +kernel
theorem dX5_volume_19 : decode cX5_volume 19 = .ok (.iadd, 1) := by decide +kernel
theorem dX5_volume_20 : decode cX5_volume 20 = .ok (.istore_n 1, 1) := by decide +kernel
theorem dX5_volume_21 : decode cX5_volume 21 = .ok (.iinc 2 1, 3) := by decide +kernel
theorem dX5_volume_24 : decode cX5_volume 24 = .ok (.goto (-20), 3) := by decide +kernel
theorem dX5_volume_27 : decode cX5_volume 27 = .ok (.iload_n 1, 1) := by decide +kernel
theorem dX5_volume_28 : decode cX5_volume 28 = .ok (.ireturn, 1) := by decide +kernel
theorem dX5_dimensionalWeight_0 : decode cX5_dimensionalWeight 0 = .ok (.iload_n 1, 1) := by decide +kernel
theorem dX5_dimensionalWeight_1 : decode cX5_dimensionalWeight 1 = .ok (.iconst 1, 1) := by decide +kernel
theorem dX5_dimensionalWeight_2 : decode cX5_dimensionalWeight 2 = .ok (.if_icmp .ge 5, 3) := by decide +kernel
theorem dX5_dimensionalWeight_5 : decode cX5_dimensionalWeight 5 = .ok (.iconst 0, 1) := by decide +kernel
theorem dX5_dimensionalWeight_6 : decode cX5_dimensionalWeight 6 = .ok (.ireturn, 1) := by decide +kernel
theorem dX5_dimensionalWeight_7 : decode cX5_dimensionalWeight 7 = .ok (.iconst 0, 1) := by decide +kernel
theorem dX5_dimensionalWeight_8 : decode cX5_dimensionalWeight 8 = .ok (.istore_n 2, 1) := by decide +kernel
theorem dX5_dimensionalWeight_9 : decode cX5_dimensionalWeight 9 = .ok (.iconst 0, 1) := by decide +kernel
theorem dX5_dimensionalWeight_10 : decode cX5_dimensionalWeight 10 = .ok (.istore_n 3, 1) := by decide +kernel
theorem dX5_dimensionalWeight_11 : decode cX5_dimensionalWeight 11 = .ok (.iload_n 3, 1) := by decide +kernel
theorem dX5_dimensionalWeight_12 : decode cX5_dimensionalWeight 12 = .ok (.aload_n 0, 1) := by decide +kernel
theorem dX5_dimensionalWeight_13 : decode cX5_dimensionalWeight 13 = .ok (.getfield 29, 3) := by decide +kernel
theorem dX5_dimensionalWeight_16 : decode cX5_dimensionalWeight 16 = .ok (.if_icmp .ge 24, 3) := by decide +kernel
theorem dX5_dimensionalWeight_19 : decode cX5_dimensionalWeight 19 = .ok (.iload_n 2, 1) := by decide +kernel
theorem dX5_dimensionalWeight_20 : decode cX5_dimensionalWeight 20 = .ok (.aload_n 0, 1) := by decide +kernel
theorem dX5_dimensionalWeight_21 : decode cX5_dimensionalWeight 21 = .ok (.getfield 25, 3) := by decide +kernel
theorem dX5_dimensionalWeight_24 : decode cX5_dimensionalWeight 24 = .ok (.iload_n 3, 1) := by decide +kernel
theorem dX5_dimensionalWeight_25 : decode cX5_dimensionalWeight 25 = .ok (.iaload, 1) := by decide +kernel
theorem dX5_dimensionalWeight_26 : decode cX5_dimensionalWeight 26 = .ok (.iload_n 1, 1) := by decide +kernel
theorem dX5_dimensionalWeight_27 : decode cX5_dimensionalWeight 27 = .ok (.iadd, 1) := by decide +kernel
theorem dX5_dimensionalWeight_28 : decode cX5_dimensionalWeight 28 = .ok (.iconst 1, 1) := by decide +kernel
theorem dX5_dimensionalWeight_29 : decode cX5_dimensionalWeight 29 = .ok (.isub, 1) := by decide +kernel
theorem dX5_dimensionalWeight_30 : decode cX5_dimensionalWeight 30 = .ok (.iload_n 1, 1) := by decide +kernel
theorem dX5_dimensionalWeight_31 : decode cX5_dimensionalWeight 31 = .ok (.idiv, 1) := by decide +kernel
theorem dX5_dimensionalWeight_32 : decode cX5_dimensionalWeight 32 = .ok (.iadd, 1) := by decide +kernel
theorem dX5_dimensionalWeight_33 : decode cX5_dimensionalWeight 33 = .ok (.istore_n 2, 1) := by decide +kernel
theorem dX5_dimensionalWeight_34 : decode cX5_dimensionalWeight 34 = .ok (.iinc 3 1, 3) := by decide +kernel
theorem dX5_dimensionalWeight_37 : decode cX5_dimensionalWeight 37 = .ok (.goto (-26), 3) := by decide +kernel
theorem dX5_dimensionalWeight_40 : decode cX5_dimensionalWeight 40 = .ok (.iload_n 2, 1) := by decide +kernel
theorem dX5_dimensionalWeight_41 : decode cX5_dimensionalWeight 41 = .ok (.ireturn, 1) := by decide +kernel
theorem dX6_init_0 : decode cX6_init 0 = .ok (.aload_n 0, 1) := by decide +kernel
theorem dX6_init_1 : decode cX6_init 1 = .ok (.invokespecial 3, 3) := by decide +kernel
theorem dX6_init_4 : decode cX6_init 4 = .ok (.aload_n 0, 1) := by decide +kernel
theorem dX6_init_5 : decode cX6_init 5 = .ok (.bipush 6, 2) := by decide +kernel
theorem dX6_init_7 : decode cX6_init 7 = .ok (.anewarray 11, 3) := by decide +kernel
theorem dX6_init_10 : decode cX6_init 10 = .ok (.putfield 13, 3) := by decide +kernel
theorem dX6_init_13 : decode cX6_init 13 = .ok (.aload_n 0, 1) := by decide +kernel
theorem dX6_init_14 : decode cX6_init 14 = .ok (.bipush 10, 2) := by decide +kernel
theorem dX6_init_16 : decode cX6_init 16 = .ok (.anewarray 17, 3) := by decide +kernel
theorem dX6_init_19 : decode cX6_init 19 = .ok (.putfield 19, 3) := by decide +kernel
theorem dX6_init_22 : decode cX6_init 22 = .ok (.aload_n 0, 1) := by decide +kernel
theorem dX6_init_23 : decode cX6_init 23 = .ok (.iconst 5, 1) := by decide +kernel
theorem dX6_init_24 : decode cX6_init 24 = .ok (.newarray .int, 2) := by decide +kernel
theorem dX6_init_26 : decode cX6_init 26 = .ok (.putfield 23, 3) := by decide +kernel
theorem dX6_init_29 : decode cX6_init 29 = .ok (.aload_n 0, 1) := by decide +kernel
theorem dX6_init_30 : decode cX6_init 30 = .ok (.iconst 5, 1) := by decide +kernel
theorem dX6_init_31 : decode cX6_init 31 = .ok (.newarray .int, 2) := by decide +kernel
theorem dX6_init_33 : decode cX6_init 33 = .ok (.putfield 27, 3) := by decide +kernel
theorem dX6_init_36 : decode cX6_init 36 = .ok (.return_, 1) := by decide +kernel
theorem dX6_copyFrom_0 : decode cX6_copyFrom 0 = .ok (.iconst 0, 1) := by decide +kernel
theorem dX6_copyFrom_1 : decode cX6_copyFrom 1 = .ok (.istore_n 2, 1) := by decide +kernel
theorem dX6_copyFrom_2 : decode cX6_copyFrom 2 = .ok (.iload_n 2, 1) := by decide +kernel
theorem dX6_copyFrom_3 : decode cX6_copyFrom 3 = .ok (.bipush 6, 2) := by decide +kernel
theorem dX6_copyFrom_5 : decode cX6_copyFrom 5 = .ok (.if_icmp .ge 21, 3) := by decide +kernel
theorem dX6_copyFrom_8 : decode cX6_copyFrom 8 = .ok (.aload_n 0, 1) := by decide +kernel
theorem dX6_copyFrom_9 : decode cX6_copyFrom 9 = .ok (.getfield 13, 3) := by decide +kernel
theorem dX6_copyFrom_12 : decode cX6_copyFrom 12 = .ok (.iload_n 2, 1) := by decide +kernel
theorem dX6_copyFrom_13 : decode cX6_copyFrom 13 = .ok (.aload_n 1, 1) := by decide +kernel
theorem dX6_copyFrom_14 : decode cX6_copyFrom 14 = .ok (.getfield 13, 3) := by decide +kernel
theorem dX6_copyFrom_17 : decode cX6_copyFrom 17 = .ok (.iload_n 2, 1) := by decide +kernel
theorem dX6_copyFrom_18 : decode cX6_copyFrom 18 = .ok (.aaload, 1) := by decide +kernel
theorem dX6_copyFrom_19 : decode cX6_copyFrom 19 = .ok (.aastore, 1) := by decide +kernel
theorem dX6_copyFrom_20 : decode cX6_copyFrom 20 = .ok (.iinc 2 1, 3) := by decide +kernel
theorem dX6_copyFrom_23 : decode cX6_copyFrom 23 = .ok (.goto (-21), 3) := by decide +kernel
theorem dX6_copyFrom_26 : decode cX6_copyFrom 26 = .ok (.iconst 0, 1) := by decide +kernel
theorem dX6_copyFrom_27 : decode cX6_copyFrom 27 = .ok (.istore_n 2, 1) := by decide +kernel
theorem dX6_copyFrom_28 : decode cX6_copyFrom 28 = .ok (.iload_n 2, 1) := by decide +kernel
theorem dX6_copyFrom_29 : decode cX6_copyFrom 29 = .ok (.bipush 10, 2) := by decide +kernel
theorem dX6_copyFrom_31 : decode cX6_copyFrom 31 = .ok (.if_icmp .ge 21, 3) := by decide +kernel
theorem dX6_copyFrom_34 : decode cX6_copyFrom 34 = .ok (.aload_n 0, 1) := by decide +kernel
theorem dX6_copyFrom_35 : decode cX6_copyFrom 35 = .ok (.getfield 19, 3) := by decide +kernel
theorem dX6_copyFrom_38 : decode cX6_copyFrom 38 = .ok (.iload_n 2, 1) := by decide +kernel
theorem dX6_copyFrom_39 : decode cX6_copyFrom 39 = .ok (.aload_n 1, 1) := by decide +kernel
theorem dX6_copyFrom_40 : decode cX6_copyFrom 40 = .ok (.getfield 19, 3) := by decide +kernel
theorem dX6_copyFrom_43 : decode cX6_copyFrom 43 = .ok (.iload_n 2, 1) := by decide +kernel
theorem dX6_copyFrom_44 : decode cX6_copyFrom 44 = .ok (.aaload, 1) := by decide +kernel
theorem dX6_copyFrom_45 : decode cX6_copyFrom 45 = .ok (.aastore, 1) := by decide +kernel
theorem dX6_copyFrom_46 : decode cX6_copyFrom 46 = .ok (.iinc 2 1, 3) := by decide +kernel
theorem dX6_copyFrom_49 : decode cX6_copyFrom 49 = .ok (.goto (-21), 3) := by decide +kernel
theorem dX6_copyFrom_52 : decode cX6_copyFrom 52 = .ok (.iconst 0, 1) := by decide +kernel
theorem dX6_copyFrom_53 : decode cX6_copyFrom 53 = .ok (.istore_n 2, 1) := by decide +kernel
theorem dX6_copyFrom_54 : decode cX6_copyFrom 54 = .ok (.iload_n 2, 1) := by decide +kernel
theorem dX6_copyFrom_55 : decode cX6_copyFrom 55 = .ok (.iconst 5, 1) := by decide +kernel
theorem dX6_copyFrom_56 : decode cX6_copyFrom 56 = .ok (.if_icmp .ge 33, 3) := by decide +kernel
theorem dX6_copyFrom_59 : decode cX6_copyFrom 59 = .ok (.aload_n 0, 1) := by decide +kernel
theorem dX6_copyFrom_60 : decode cX6_copyFrom 60 = .ok (.getfield 23, 3) := by decide +kernel
theorem dX6_copyFrom_63 : decode cX6_copyFrom 63 = .ok (.iload_n 2, 1) := by decide +kernel
theorem dX6_copyFrom_64 : decode cX6_copyFrom 64 = .ok (.aload_n 1, 1) := by decide +kernel
theorem dX6_copyFrom_65 : decode cX6_copyFrom 65 = .ok (.getfield 23, 3) := by decide +kernel
theorem dX6_copyFrom_68 : decode cX6_copyFrom 68 = .ok (.iload_n 2, 1) := by decide +kernel
theorem dX6_copyFrom_69 : decode cX6_copyFrom 69 = .ok (.iaload, 1) := by decide +kernel
theorem dX6_copyFrom_70 : decode cX6_copyFrom 70 = .ok (.iastore, 1) := by decide +kernel
theorem dX6_copyFrom_71 : decode cX6_copyFrom 71 = .ok (.aload_n 0, 1) := by decide +kernel
theorem dX6_copyFrom_72 : decode cX6_copyFrom 72 = .ok (.getfield 27, 3) := by decide +kernel
theorem dX6_copyFrom_75 : decode cX6_copyFrom 75 = .ok (.iload_n 2, 1) := by decide +kernel
theorem dX6_copyFrom_76 : decode cX6_copyFrom 76 = .ok (.aload_n 1, 1) := by decide +kernel
theorem dX6_copyFrom_77 : decode cX6_copyFrom 77 = .ok (.getfield 27, 3) := by decide +kernel
theorem dX6_copyFrom_80 : decode cX6_copyFrom 80 = .ok (.iload_n 2, 1) := by decide +kernel
theorem dX6_copyFrom_81 : decode cX6_copyFrom 81 = .ok (.iaload, 1) := by decide +kernel
theorem dX6_copyFrom_82 : decode cX6_copyFrom 82 = .ok (.iastore, 1) := by decide +kernel
theorem dX6_copyFrom_83 : decode cX6_copyFrom 83 = .ok (.iinc 2 1, 3) := by decide +kernel
theorem dX6_copyFrom_86 : decode cX6_copyFrom 86 = .ok (.goto (-32), 3) := by decide +kernel
theorem dX6_copyFrom_89 : decode cX6_copyFrom 89 = .ok (.aload_n 0, 1) := by decide +kernel
theorem dX6_copyFrom_90 : decode cX6_copyFrom 90 = .ok (.aload_n 1, 1) := by decide +kernel
theorem dX6_copyFrom_91 : decode cX6_copyFrom 91 = .ok (.getfield 30, 3) := by decide +kernel
theorem dX6_copyFrom_94 : decode cX6_copyFrom 94 = .ok (.putfield 30, 3) := by decide +kernel
theorem dX6_copyFrom_97 : decode cX6_copyFrom 97 = .ok (.aload_n 0, 1) := by decide +kernel
theorem dX6_copyFrom_98 : decode cX6_copyFrom 98 = .ok (.aload_n 1, 1) := by decide +kernel
theorem dX6_copyFrom_99 : decode cX6_copyFrom 99 = .ok (.getfield 34, 3) := by decide +kernel
theorem dX6_copyFrom_102 : decode cX6_copyFrom 102 = .ok (.putfield 34, 3) := by decide +kernel
theorem dX6_copyFrom_105 : decode cX6_copyFrom 105 = .ok (.aload_n 0, 1) := by decide +kernel
theorem dX6_copyFrom_106 : decode cX6_copyFrom 106 = .ok (.aload_n 1, 1) := by decide +kernel
theorem dX6_copyFrom_107 : decode cX6_copyFrom 107 = .ok (.getfield 37, 3) := by decide +kernel
theorem dX6_copyFrom_110 : decode cX6_copyFrom 110 = .ok (.putfield 37, 3) := by decide +kernel
theorem dX6_copyFrom_113 : decode cX6_copyFrom 113 = .ok (.aload_n 0, 1) := by decide +kernel
theorem dX6_copyFrom_114 : decode cX6_copyFrom 114 = .ok (.aload_n 1, 1) := by decide +kernel
theorem dX6_copyFrom_115 : decode cX6_copyFrom 115 = .ok (.getfield 40, 3) := by decide +kernel
theorem dX6_copyFrom_118 : decode cX6_copyFrom 118 = .ok (.putfield 40, 3) := by decide +kernel
theorem dX6_copyFrom_121 : decode cX6_copyFrom 121 = .ok (.return_, 1) := by decide +kernel
theorem dX6_versionAt_0 : decode cX6_versionAt 0 = .ok (.iload_n 1, 1) := by decide +kernel
theorem dX6_versionAt_1 : decode cX6_versionAt 1 = .ok (.iconst 0, 1) := by decide +kernel
theorem dX6_versionAt_2 : decode cX6_versionAt 2 = .ok (.aload_n 0, 1) := by decide +kernel
theorem dX6_versionAt_3 : decode cX6_versionAt 3 = .ok (.getfield 30, 3) := by decide +kernel
theorem dX6_versionAt_6 : decode cX6_versionAt 6 = .ok (.iconst 1, 1) := by decide +kernel
theorem dX6_versionAt_7 : decode cX6_versionAt 7 = .ok (.isub, 1) := by decide +kernel
theorem dX6_versionAt_8 : decode cX6_versionAt 8 = .ok (.invokestatic 43, 3) := by decide +kernel
theorem dX6_versionAt_11 : decode cX6_versionAt 11 = .ok (.ifCond .eq 12, 3) := by decide +kernel
theorem dX6_versionAt_14 : decode cX6_versionAt 14 = .ok (.aload_n 0, 1) := by decide +kernel
theorem dX6_versionAt_15 : decode cX6_versionAt 15 = .ok (.getfield 13, 3) := by decide +kernel
theorem dX6_versionAt_18 : decode cX6_versionAt 18 = .ok (.iload_n 1, 1) := by decide +kernel
theorem dX6_versionAt_19 : decode cX6_versionAt 19 = .ok (.aaload, 1) := by decide +kernel
theorem dX6_versionAt_20 : decode cX6_versionAt 20 = .ok (.goto 4, 3) := by decide +kernel
theorem dX6_versionAt_23 : decode cX6_versionAt 23 = .ok (.aconst_null, 1) := by decide +kernel
theorem dX6_versionAt_24 : decode cX6_versionAt 24 = .ok (.areturn, 1) := by decide +kernel
theorem dX6_shipmentAt_0 : decode cX6_shipmentAt 0 = .ok (.iload_n 1, 1) := by decide +kernel
theorem dX6_shipmentAt_1 : decode cX6_shipmentAt 1 = .ok (.iconst 0, 1) := by decide +kernel
theorem dX6_shipmentAt_2 : decode cX6_shipmentAt 2 = .ok (.aload_n 0, 1) := by decide +kernel
theorem dX6_shipmentAt_3 : decode cX6_shipmentAt 3 = .ok (.getfield 34, 3) := by decide +kernel
theorem dX6_shipmentAt_6 : decode cX6_shipmentAt 6 = .ok (.iconst 1, 1) := by decide +kernel
theorem dX6_shipmentAt_7 : decode cX6_shipmentAt 7 = .ok (.isub, 1) := by decide +kernel
theorem dX6_shipmentAt_8 : decode cX6_shipmentAt 8 = .ok (.invokestatic 43, 3) := by decide +kernel
theorem dX6_shipmentAt_11 : decode cX6_shipmentAt 11 = .ok (.ifCond .eq 12, 3) := by decide +kernel
theorem dX6_shipmentAt_14 : decode cX6_shipmentAt 14 = .ok (.aload_n 0, 1) := by decide +kernel
theorem dX6_shipmentAt_15 : decode cX6_shipmentAt 15 = .ok (.getfield 19, 3) := by decide +kernel
theorem dX6_shipmentAt_18 : decode cX6_shipmentAt 18 = .ok (.iload_n 1, 1) := by decide +kernel
theorem dX6_shipmentAt_19 : decode cX6_shipmentAt 19 = .ok (.aaload, 1) := by decide +kernel
theorem dX6_shipmentAt_20 : decode cX6_shipmentAt 20 = .ok (.goto 4, 3) := by decide +kernel
theorem dX6_shipmentAt_23 : decode cX6_shipmentAt 23 = .ok (.aconst_null, 1) := by decide +kernel
theorem dX6_shipmentAt_24 : decode cX6_shipmentAt 24 = .ok (.areturn, 1) := by decide +kernel
theorem dX6_addVersion_0 : decode cX6_addVersion 0 = .ok (.aload_n 0, 1) := by decide +kernel
theorem dX6_addVersion_1 : decode cX6_addVersion 1 = .ok (.getfield 13, 3) := by decide +kernel
theorem dX6_addVersion_4 : decode cX6_addVersion 4 = .ok (.aload_n 0, 1) := by decide +kernel
theorem dX6_addVersion_5 : decode cX6_addVersion 5 = .ok (.getfield 30, 3) := by decide +kernel
theorem dX6_addVersion_8 : decode cX6_addVersion 8 = .ok (.aload_n 1, 1) := by decide +kernel
theorem dX6_addVersion_9 : decode cX6_addVersion 9 = .ok (.aastore, 1) := by decide +kernel
theorem dX6_addVersion_10 : decode cX6_addVersion 10 = .ok (.aload_n 0, 1) := by decide +kernel
theorem dX6_addVersion_11 : decode cX6_addVersion 11 = .ok (.dup, 1) := by decide +kernel
theorem dX6_addVersion_12 : decode cX6_addVersion 12 = .ok (.getfield 30, 3) := by decide +kernel
theorem dX6_addVersion_15 : decode cX6_addVersion 15 = .ok (.iconst 1, 1) := by decide +kernel
theorem dX6_addVersion_16 : decode cX6_addVersion 16 = .ok (.iadd, 1) := by decide +kernel
theorem dX6_addVersion_17 : decode cX6_addVersion 17 = .ok (.putfield 30, 3) := by decide +kernel
theorem dX6_addVersion_20 : decode cX6_addVersion 20 = .ok (.aload_n 0, 1) := by decide +kernel
theorem dX6_addVersion_21 : decode cX6_addVersion 21 = .ok (.getfield 30, 3) := by decide +kernel
theorem dX6_addVersion_24 : decode cX6_addVersion 24 = .ok (.iconst 1, 1) := by decide +kernel
theorem dX6_addVersion_25 : decode cX6_addVersion 25 = .ok (.isub, 1) := by decide +kernel
theorem dX6_addVersion_26 : decode cX6_addVersion 26 = .ok (.ireturn, 1) := by decide +kernel
theorem dX6_addShipment_0 : decode cX6_addShipment 0 = .ok (.aload_n 0, 1) := by decide +kernel
theorem dX6_addShipment_1 : decode cX6_addShipment 1 = .ok (.getfield 19, 3) := by decide +kernel
theorem dX6_addShipment_4 : decode cX6_addShipment 4 = .ok (.aload_n 0, 1) := by decide +kernel
theorem dX6_addShipment_5 : decode cX6_addShipment 5 = .ok (.getfield 34, 3) := by decide +kernel
theorem dX6_addShipment_8 : decode cX6_addShipment 8 = .ok (.aload_n 1, 1) := by decide +kernel
theorem dX6_addShipment_9 : decode cX6_addShipment 9 = .ok (.aastore, 1) := by decide +kernel
theorem dX6_addShipment_10 : decode cX6_addShipment 10 = .ok (.aload_n 0, 1) := by decide +kernel
theorem dX6_addShipment_11 : decode cX6_addShipment 11 = .ok (.dup, 1) := by decide +kernel
theorem dX6_addShipment_12 : decode cX6_addShipment 12 = .ok (.getfield 34, 3) := by decide +kernel
theorem dX6_addShipment_15 : decode cX6_addShipment 15 = .ok (.iconst 1, 1) := by decide +kernel
theorem dX6_addShipment_16 : decode cX6_addShipment 16 = .ok (.iadd, 1) := by decide +kernel
theorem dX6_addShipment_17 : decode cX6_addShipment 17 = .ok (.putfield 34, 3) := by decide +kernel
theorem dX6_addShipment_20 : decode cX6_addShipment 20 = .ok (.aload_n 0, 1) := by decide +kernel
theorem dX6_addShipment_21 : decode cX6_addShipment 21 = .ok (.getfield 34, 3) := by decide +kernel
theorem dX6_addShipment_24 : decode cX6_addShipment 24 = .ok (.iconst 1, 1) := by decide +kernel
theorem dX6_addShipment_25 : decode cX6_addShipment 25 = .ok (.isub, 1) := by decide +kernel
theorem dX6_addShipment_26 : decode cX6_addShipment 26 = .ok (.ireturn, 1) := by decide +kernel
theorem dX6_hasFirstDay_0 : decode cX6_hasFirstDay 0 = .ok (.iconst 0, 1) := by decide +kernel
theorem dX6_hasFirstDay_1 : decode cX6_hasFirstDay 1 = .ok (.istore_n 2, 1) := by decide +kernel
theorem dX6_hasFirstDay_2 : decode cX6_hasFirstDay 2 = .ok (.iload_n 2, 1) := by decide +kernel
theorem dX6_hasFirstDay_3 : decode cX6_hasFirstDay 3 = .ok (.aload_n 0, 1) := by decide +kernel
theorem dX6_hasFirstDay_4 : decode cX6_hasFirstDay 4 = .ok (.getfield 30, 3) := by decide +kernel
theorem dX6_hasFirstDay_7 : decode cX6_hasFirstDay 7 = .ok (.if_icmp .ge 24, 3) := by decide +kernel
theorem dX6_hasFirstDay_10 : decode cX6_hasFirstDay 10 = .ok (.aload_n 0, 1) := by decide +kernel
theorem dX6_hasFirstDay_11 : decode cX6_hasFirstDay 11 = .ok (.getfield 13, 3) := by decide +kernel
theorem dX6_hasFirstDay_14 : decode cX6_hasFirstDay 14 = .ok (.iload_n 2, 1) := by decide +kernel
theorem dX6_hasFirstDay_15 : decode cX6_hasFirstDay 15 = .ok (.aaload, 1) := by decide +kernel
theorem dX6_hasFirstDay_16 : decode cX6_hasFirstDay 16 = .ok (.getfield 47, 3) := by decide +kernel
theorem dX6_hasFirstDay_19 : decode cX6_hasFirstDay 19 = .ok (.iload_n 1, 1) := by decide +kernel
theorem dX6_hasFirstDay_20 : decode cX6_hasFirstDay 20 = .ok (.if_icmp .ne 5, 3) := by decide +kernel
theorem dX6_hasFirstDay_23 : decode cX6_hasFirstDay 23 = .ok (.iconst 1, 1) := by decide +kernel
theorem dX6_hasFirstDay_24 : decode cX6_hasFirstDay 24 = .ok (.ireturn, 1) := by decide +kernel
theorem dX6_hasFirstDay_25 : decode cX6_hasFirstDay 25 = .ok (.iinc 2 1, 3) := by decide +kernel
theorem dX6_hasFirstDay_28 : decode cX6_hasFirstDay 28 = .ok (.goto (-26), 3) := by decide +kernel
theorem dX6_hasFirstDay_31 : decode cX6_hasFirstDay 31 = .ok (.iconst 0, 1) := by decide +kernel
theorem dX6_hasFirstDay_32 : decode cX6_hasFirstDay 32 = .ok (.ireturn, 1) := by decide +kernel
theorem dX6_versionFor_0 : decode cX6_versionFor 0 = .ok (.iconst (-1), 1) := by decide +kernel
theorem dX6_versionFor_1 : decode cX6_versionFor 1 = .ok (.istore_n 2, 1) := by decide +kernel
theorem dX6_versionFor_2 : decode cX6_versionFor 2 = .ok (.iconst 0, 1) := by decide +kernel
theorem dX6_versionFor_3 : decode cX6_versionFor 3 = .ok (.istore_n 3, 1) := by decide +kernel
theorem dX6_versionFor_4 : decode cX6_versionFor 4 = .ok (.iload_n 3, 1) := by decide +kernel
theorem dX6_versionFor_5 : decode cX6_versionFor 5 = .ok (.aload_n 0, 1) := by decide +kernel
theorem dX6_versionFor_6 : decode cX6_versionFor 6 = .ok (.getfield 30, 3) := by decide +kernel
theorem dX6_versionFor_9 : decode cX6_versionFor 9 = .ok (.if_icmp .ge 46, 3) := by decide +kernel
theorem dX6_versionFor_12 : decode cX6_versionFor 12 = .ok (.aload_n 0, 1) := by decide +kernel
theorem dX6_versionFor_13 : decode cX6_versionFor 13 = .ok (.getfield 13, 3) := by decide +kernel
theorem dX6_versionFor_16 : decode cX6_versionFor 16 = .ok (.iload_n 3, 1) := by decide +kernel
theorem dX6_versionFor_17 : decode cX6_versionFor 17 = .ok (.aaload, 1) := by decide +kernel
theorem dX6_versionFor_18 : decode cX6_versionFor 18 = .ok (.getfield 47, 3) := by decide +kernel
theorem dX6_versionFor_21 : decode cX6_versionFor 21 = .ok (.istore 4, 2) := by decide +kernel
theorem dX6_versionFor_23 : decode cX6_versionFor 23 = .ok (.iload 4, 2) := by decide +kernel
theorem dX6_versionFor_25 : decode cX6_versionFor 25 = .ok (.iload_n 1, 1) := by decide +kernel
theorem dX6_versionFor_26 : decode cX6_versionFor 26 = .ok (.if_icmp .gt 23, 3) := by decide +kernel
theorem dX6_versionFor_29 : decode cX6_versionFor 29 = .ok (.iload_n 2, 1) := by decide +kernel
theorem dX6_versionFor_30 : decode cX6_versionFor 30 = .ok (.ifCond .lt 17, 3) := by decide +kernel
theorem dX6_versionFor_33 : decode cX6_versionFor 33 = .ok (.iload 4, 2) := by decide +kernel
theorem dX6_versionFor_35 : decode cX6_versionFor 35 = .ok (.aload_n 0, 1) := by decide +kernel
theorem dX6_versionFor_36 : decode cX6_versionFor 36 = .ok (.getfield 13, 3) := by decide +kernel
theorem dX6_versionFor_39 : decode cX6_versionFor 39 = .ok (.iload_n 2, 1) := by decide +kernel
theorem dX6_versionFor_40 : decode cX6_versionFor 40 = .ok (.aaload, 1) := by decide +kernel
theorem dX6_versionFor_41 : decode cX6_versionFor 41 = .ok (.getfield 47, 3) := by decide +kernel
theorem dX6_versionFor_44 : decode cX6_versionFor 44 = .ok (.if_icmp .le 5, 3) := by decide +kernel
theorem dX6_versionFor_47 : decode cX6_versionFor 47 = .ok (.iload_n 3, 1) := by decide +kernel
theorem dX6_versionFor_48 : decode cX6_versionFor 48 = .ok (.istore_n 2, 1) := by decide +kernel
theorem dX6_versionFor_49 : decode cX6_versionFor 49 = .ok (.iinc 3 1, 3) := by decide +kernel
theorem dX6_versionFor_52 : decode cX6_versionFor 52 = .ok (.goto (-48), 3) := by decide +kernel
theorem dX6_versionFor_55 : decode cX6_versionFor 55 = .ok (.iload_n 2, 1) := by decide +kernel
theorem dX6_versionFor_56 : decode cX6_versionFor 56 = .ok (.ireturn, 1) := by decide +kernel
theorem dX6_postedSet_0 : decode cX6_postedSet 0 = .ok (.iconst 0, 1) := by decide +kernel
theorem dX6_postedSet_1 : decode cX6_postedSet 1 = .ok (.istore_n 1, 1) := by decide +kernel
theorem dX6_postedSet_2 : decode cX6_postedSet 2 = .ok (.iconst 0, 1) := by decide +kernel
theorem dX6_postedSet_3 : decode cX6_postedSet 3 = .ok (.istore_n 2, 1) := by decide +kernel
theorem dX6_postedSet_4 : decode cX6_postedSet 4 = .ok (.iload_n 2, 1) := by decide +kernel
theorem dX6_postedSet_5 : decode cX6_postedSet 5 = .ok (.aload_n 0, 1) := by decide +kernel
theorem dX6_postedSet_6 : decode cX6_postedSet 6 = .ok (.getfield 34, 3) := by decide +kernel
theorem dX6_postedSet_9 : decode cX6_postedSet 9 = .ok (.if_icmp .ge 27, 3) := by decide +kernel
theorem dX6_postedSet_12 : decode cX6_postedSet 12 = .ok (.aload_n 0, 1) := by decide +kernel
theorem dX6_postedSet_13 : decode cX6_postedSet 13 = .ok (.getfield 19, 3) := by decide +kernel
theorem dX6_postedSet_16 : decode cX6_postedSet 16 = .ok (.iload_n 2, 1) := by decide +kernel
theorem dX6_postedSet_17 : decode cX6_postedSet 17 = .ok (.aaload, 1) := by decide +kernel
theorem dX6_postedSet_18 : decode cX6_postedSet 18 = .ok (.invokevirtual 50, 3) := by decide +kernel
theorem dX6_postedSet_21 : decode cX6_postedSet 21 = .ok (.ifCond .eq 9, 3) := by decide +kernel
theorem dX6_postedSet_24 : decode cX6_postedSet 24 = .ok (.iload_n 1, 1) := by decide +kernel
theorem dX6_postedSet_25 : decode cX6_postedSet 25 = .ok (.iconst 1, 1) := by decide +kernel
theorem dX6_postedSet_26 : decode cX6_postedSet 26 = .ok (.iload_n 2, 1) := by decide +kernel
theorem dX6_postedSet_27 : decode cX6_postedSet 27 = .ok (.ishl, 1) := by decide +kernel
theorem dX6_postedSet_28 : decode cX6_postedSet 28 = .ok (.ior, 1) := by decide +kernel
theorem dX6_postedSet_29 : decode cX6_postedSet 29 = .ok (.istore_n 1, 1) := by decide +kernel
theorem dX6_postedSet_30 : decode cX6_postedSet 30 = .ok (.iinc 2 1, 3) := by decide +kernel
theorem dX6_postedSet_33 : decode cX6_postedSet 33 = .ok (.goto (-29), 3) := by decide +kernel
theorem dX6_postedSet_36 : decode cX6_postedSet 36 = .ok (.iload_n 1, 1) := by decide +kernel
theorem dX6_postedSet_37 : decode cX6_postedSet 37 = .ok (.ireturn, 1) := by decide +kernel
theorem dX6_accountOf_0 : decode cX6_accountOf 0 = .ok (.iconst 0, 1) := by decide +kernel
theorem dX6_accountOf_1 : decode cX6_accountOf 1 = .ok (.istore_n 2, 1) := by decide +kernel
theorem dX6_accountOf_2 : decode cX6_accountOf 2 = .ok (.iconst 0, 1) := by decide +kernel
theorem dX6_accountOf_3 : decode cX6_accountOf 3 = .ok (.istore_n 3, 1) := by decide +kernel
theorem dX6_accountOf_4 : decode cX6_accountOf 4 = .ok (.iload_n 3, 1) := by decide +kernel
theorem dX6_accountOf_5 : decode cX6_accountOf 5 = .ok (.aload_n 0, 1) := by decide +kernel
theorem dX6_accountOf_6 : decode cX6_accountOf 6 = .ok (.getfield 34, 3) := by decide +kernel
theorem dX6_accountOf_9 : decode cX6_accountOf 9 = .ok (.if_icmp .ge 46, 3) := by decide +kernel
theorem dX6_accountOf_12 : decode cX6_accountOf 12 = .ok (.aload_n 0, 1) := by decide +kernel
theorem dX6_accountOf_13 : decode cX6_accountOf 13 = .ok (.getfield 19, 3) := by decide +kernel
theorem dX6_accountOf_16 : decode cX6_accountOf 16 = .ok (.iload_n 3, 1) := by decide +kernel
theorem dX6_accountOf_17 : decode cX6_accountOf 17 = .ok (.aaload, 1) := by decide +kernel
theorem dX6_accountOf_18 : decode cX6_accountOf 18 = .ok (.getfield 54, 3) := by decide +kernel
theorem dX6_accountOf_21 : decode cX6_accountOf 21 = .ok (.iload_n 1, 1) := by decide +kernel
theorem dX6_accountOf_22 : decode cX6_accountOf 22 = .ok (.if_icmp .ne 27, 3) := by decide +kernel
theorem dX6_accountOf_25 : decode cX6_accountOf 25 = .ok (.aload_n 0, 1) := by decide +kernel
theorem dX6_accountOf_26 : decode cX6_accountOf 26 = .ok (.getfield 19, 3) := by decide +kernel
theorem dX6_accountOf_29 : decode cX6_accountOf 29 = .ok (.iload_n 3, 1) := by decide +kernel
theorem dX6_accountOf_30 : decode cX6_accountOf 30 = .ok (.aaload, 1) := by decide +kernel
theorem dX6_accountOf_31 : decode cX6_accountOf 31 = .ok (.invokevirtual 50, 3) := by decide +kernel
theorem dX6_accountOf_34 : decode cX6_accountOf 34 = .ok (.ifCond .eq 15, 3) := by decide +kernel
theorem dX6_accountOf_37 : decode cX6_accountOf 37 = .ok (.iload_n 2, 1) := by decide +kernel
theorem dX6_accountOf_38 : decode cX6_accountOf 38 = .ok (.aload_n 0, 1) := by decide +kernel
theorem dX6_accountOf_39 : decode cX6_accountOf 39 = .ok (.getfield 19, 3) := by decide +kernel
theorem dX6_accountOf_42 : decode cX6_accountOf 42 = .ok (.iload_n 3, 1) := by decide +kernel
theorem dX6_accountOf_43 : decode cX6_accountOf 43 = .ok (.aaload, 1) := by decide +kernel
theorem dX6_accountOf_44 : decode cX6_accountOf 44 = .ok (.getfield 57, 3) := by decide +kernel
theorem dX6_accountOf_47 : decode cX6_accountOf 47 = .ok (.iadd, 1) := by decide +kernel
theorem dX6_accountOf_48 : decode cX6_accountOf 48 = .ok (.istore_n 2, 1) := by decide +kernel
theorem dX6_accountOf_49 : decode cX6_accountOf 49 = .ok (.iinc 3 1, 3) := by decide +kernel
theorem dX6_accountOf_52 : decode cX6_accountOf 52 = .ok (.goto (-48), 3) := by decide +kernel
theorem dX6_accountOf_55 : decode cX6_accountOf 55 = .ok (.iload_n 2, 1) := by decide +kernel
theorem dX6_accountOf_56 : decode cX6_accountOf 56 = .ok (.ireturn, 1) := by decide +kernel
theorem dX6_sumOfAccounts_0 : decode cX6_sumOfAccounts 0 = .ok (.iconst 0, 1) := by decide +kernel
theorem dX6_sumOfAccounts_1 : decode cX6_sumOfAccounts 1 = .ok (.istore_n 1, 1) := by decide +kernel
theorem dX6_sumOfAccounts_2 : decode cX6_sumOfAccounts 2 = .ok (.iconst 0, 1) := by decide +kernel
theorem dX6_sumOfAccounts_3 : decode cX6_sumOfAccounts 3 = .ok (.istore_n 2, 1) := by decide +kernel
theorem dX6_sumOfAccounts_4 : decode cX6_sumOfAccounts 4 = .ok (.iload_n 2, 1) := by decide +kernel
theorem dX6_sumOfAccounts_5 : decode cX6_sumOfAccounts 5 = .ok (.iconst 3, 1) := by decide +kernel
theorem dX6_sumOfAccounts_6 : decode cX6_sumOfAccounts 6 = .ok (.if_icmp .gt 17, 3) := by decide +kernel
theorem dX6_sumOfAccounts_9 : decode cX6_sumOfAccounts 9 = .ok (.iload_n 1, 1) := by decide +kernel
theorem dX6_sumOfAccounts_10 : decode cX6_sumOfAccounts 10 = .ok (.aload_n 0, 1) := by decide +kernel
theorem dX6_sumOfAccounts_11 : decode cX6_sumOfAccounts 11 = .ok (.iload_n 2, 1) := by decide +kernel
theorem dX6_sumOfAccounts_12 : decode cX6_sumOfAccounts 12 = .ok (.invokevirtual 60, 3) := by decide +kernel
theorem dX6_sumOfAccounts_15 : decode cX6_sumOfAccounts 15 = .ok (.iadd, 1) := by decide +kernel
theorem dX6_sumOfAccounts_16 : decode cX6_sumOfAccounts 16 = .ok (.istore_n 1, 1) := by decide +kernel
theorem dX6_sumOfAccounts_17 : decode cX6_sumOfAccounts 17 = .ok (.iinc 2 1, 3) := by decide +kernel
theorem dX6_sumOfAccounts_20 : decode cX6_sumOfAccounts 20 = .ok (.goto (-16), 3) := by decide +kernel
theorem dX6_sumOfAccounts_23 : decode cX6_sumOfAccounts 23 = .ok (.iload_n 1, 1) := by decide +kernel
theorem dX6_sumOfAccounts_24 : decode cX6_sumOfAccounts 24 = .ok (.ireturn, 1) := by decide +kernel
theorem dX6_findStep_0 : decode cX6_findStep 0 = .ok (.iconst 0, 1) := by decide +kernel
theorem dX6_findStep_1 : decode cX6_findStep 1 = .ok (.istore_n 2, 1) := by decide +kernel
theorem dX6_findStep_2 : decode cX6_findStep 2 = .ok (.iload_n 2, 1) := by decide +kernel
theorem dX6_findStep_3 : decode cX6_findStep 3 = .ok (.aload_n 0, 1) := by decide +kernel
theorem dX6_findStep_4 : decode cX6_findStep 4 = .ok (.getfield 37, 3) := by decide +kernel
theorem dX6_findStep_7 : decode cX6_findStep 7 = .ok (.if_icmp .ge 21, 3) := by decide +kernel
theorem dX6_findStep_10 : decode cX6_findStep 10 = .ok (.aload_n 0, 1) := by decide +kernel
theorem dX6_findStep_11 : decode cX6_findStep 11 = .ok (.getfield 23, 3) := by decide +kernel
theorem dX6_findStep_14 : decode cX6_findStep 14 = .ok (.iload_n 2, 1) := by decide +kernel
theorem dX6_findStep_15 : decode cX6_findStep 15 = .ok (.iaload, 1) := by decide +kernel
theorem dX6_findStep_16 : decode cX6_findStep 16 = .ok (.iload_n 1, 1) := by decide +kernel
theorem dX6_findStep_17 : decode cX6_findStep 17 = .ok (.if_icmp .ne 5, 3) := by decide +kernel
theorem dX6_findStep_20 : decode cX6_findStep 20 = .ok (.iload_n 2, 1) := by decide +kernel
theorem dX6_findStep_21 : decode cX6_findStep 21 = .ok (.ireturn, 1) := by decide +kernel
theorem dX6_findStep_22 : decode cX6_findStep 22 = .ok (.iinc 2 1, 3) := by decide +kernel
theorem dX6_findStep_25 : decode cX6_findStep 25 = .ok (.goto (-23), 3) := by decide +kernel
theorem dX6_findStep_28 : decode cX6_findStep 28 = .ok (.iconst (-1), 1) := by decide +kernel
theorem dX6_findStep_29 : decode cX6_findStep 29 = .ok (.ireturn, 1) := by decide +kernel
theorem dX6_putStep_0 : decode cX6_putStep 0 = .ok (.aload_n 0, 1) := by decide +kernel
theorem dX6_putStep_1 : decode cX6_putStep 1 = .ok (.iload_n 1, 1) := by decide +kernel
theorem dX6_putStep_2 : decode cX6_putStep 2 = .ok (.invokevirtual 64, 3) := by decide +kernel
theorem dX6_putStep_5 : decode cX6_putStep 5 = .ok (.istore_n 3, 1) := by decide +kernel
theorem dX6_putStep_6 : decode cX6_putStep 6 = .ok (.iload_n 3, 1) := by decide +kernel
theorem dX6_putStep_7 : decode cX6_putStep 7 = .ok (.ifCond .ge 27, 3) := by decide +kernel
theorem dX6_putStep_10 : decode cX6_putStep 10 = .ok (.aload_n 0, 1) := by decide +kernel
theorem dX6_putStep_11 : decode cX6_putStep 11 = .ok (.getfield 37, 3) := by decide +kernel
theorem dX6_putStep_14 : decode cX6_putStep 14 = .ok (.iconst 5, 1) := by decide +kernel
theorem dX6_putStep_15 : decode cX6_putStep 15 = .ok (.if_icmp .lt 4, 3) := by decide +kernel
theorem dX6_putStep_18 : decode cX6_putStep 18 = .ok (.return_, 1) := by decide +kernel
theorem dX6_putStep_19 : decode cX6_putStep 19 = .ok (.aload_n 0, 1) := by decide +kernel
theorem dX6_putStep_20 : decode cX6_putStep 20 = .ok (.getfield 37, 3) := by decide +kernel
theorem dX6_putStep_23 : decode cX6_putStep 23 = .ok (.istore_n 3, 1) := by decide +kernel
theorem dX6_putStep_24 : decode cX6_putStep 24 = .ok (.aload_n 0, 1) := by decide +kernel
theorem dX6_putStep_25 : decode cX6_putStep 25 = .ok (.dup, 1) := by decide +kernel
theorem dX6_putStep_26 : decode cX6_putStep 26 = .ok (.getfield 37, 3) := by decide +kernel
theorem dX6_putStep_29 : decode cX6_putStep 29 = .ok (.iconst 1, 1) := by decide +kernel
theorem dX6_putStep_30 : decode cX6_putStep 30 = .ok (.iadd, 1) := by decide +kernel
theorem dX6_putStep_31 : decode cX6_putStep 31 = .ok (.putfield 37, 3) := by decide +kernel
theorem dX6_putStep_34 : decode cX6_putStep 34 = .ok (.aload_n 0, 1) := by decide +kernel
theorem dX6_putStep_35 : decode cX6_putStep 35 = .ok (.getfield 23, 3) := by decide +kernel
theorem dX6_putStep_38 : decode cX6_putStep 38 = .ok (.iload_n 3, 1) := by decide +kernel
theorem dX6_putStep_39 : decode cX6_putStep 39 = .ok (.iload_n 1, 1) := by decide +kernel
theorem dX6_putStep_40 : decode cX6_putStep 40 = .ok (.iastore, 1) := by decide +kernel
theorem dX6_putStep_41 : decode cX6_putStep 41 = .ok (.aload_n 0, 1) := by decide +kernel
theorem dX6_putStep_42 : decode cX6_putStep 42 = .ok (.getfield 27, 3) := by decide +kernel
theorem dX6_putStep_45 : decode cX6_putStep 45 = .ok (.iload_n 3, 1) := by decide +kernel
theorem dX6_putStep_46 : decode cX6_putStep 46 = .ok (.iload_n 2, 1) := by decide +kernel
theorem dX6_putStep_47 : decode cX6_putStep 47 = .ok (.iastore, 1) := by decide +kernel
theorem dX6_putStep_48 : decode cX6_putStep 48 = .ok (.return_, 1) := by decide +kernel
theorem dX6_removeStep_0 : decode cX6_removeStep 0 = .ok (.iload_n 1, 1) := by decide +kernel
theorem dX6_removeStep_1 : decode cX6_removeStep 1 = .ok (.iconst 0, 1) := by decide +kernel
theorem dX6_removeStep_2 : decode cX6_removeStep 2 = .ok (.aload_n 0, 1) := by decide +kernel
theorem dX6_removeStep_3 : decode cX6_removeStep 3 = .ok (.getfield 37, 3) := by decide +kernel
theorem dX6_removeStep_6 : decode cX6_removeStep 6 = .ok (.iconst 1, 1) := by decide +kernel
theorem dX6_removeStep_7 : decode cX6_removeStep 7 = .ok (.isub, 1) := by decide +kernel
theorem dX6_removeStep_8 : decode cX6_removeStep 8 = .ok (.invokestatic 43, 3) := by decide +kernel
theorem dX6_removeStep_11 : decode cX6_removeStep 11 = .ok (.ifCond .ne 4, 3) := by decide +kernel
theorem dX6_removeStep_14 : decode cX6_removeStep 14 = .ok (.return_, 1) := by decide +kernel
theorem dX6_removeStep_15 : decode cX6_removeStep 15 = .ok (.aload_n 0, 1) := by decide +kernel
theorem dX6_removeStep_16 : decode cX6_removeStep 16 = .ok (.dup, 1) := by decide +kernel
theorem dX6_removeStep_17 : decode cX6_removeStep 17 = .ok (.getfield 37, 3) := by decide +kernel
theorem dX6_removeStep_20 : decode cX6_removeStep 20 = .ok (.iconst 1, 1) := by decide +kernel
theorem dX6_removeStep_21 : decode cX6_removeStep 21 = .ok (.isub, 1) := by decide +kernel
theorem dX6_removeStep_22 : decode cX6_removeStep 22 = .ok (.putfield 37, 3) := by decide +kernel
theorem dX6_removeStep_25 : decode cX6_removeStep 25 = .ok (.aload_n 0, 1) := by decide +kernel
theorem dX6_removeStep_26 : decode cX6_removeStep 26 = .ok (.getfield 23, 3) := by decide +kernel
theorem dX6_removeStep_29 : decode cX6_removeStep 29 = .ok (.iload_n 1, 1) := by decide +kernel
theorem dX6_removeStep_30 : decode cX6_removeStep 30 = .ok (.aload_n 0, 1) := by decide +kernel
theorem dX6_removeStep_31 : decode cX6_removeStep 31 = .ok (.getfield 23, 3) := by decide +kernel
theorem dX6_removeStep_34 : decode cX6_removeStep 34 = .ok (.aload_n 0, 1) := by decide +kernel
theorem dX6_removeStep_35 : decode cX6_removeStep 35 = .ok (.getfield 37, 3) := by decide +kernel
theorem dX6_removeStep_38 : decode cX6_removeStep 38 = .ok (.iaload, 1) := by decide +kernel
theorem dX6_removeStep_39 : decode cX6_removeStep 39 = .ok (.iastore, 1) := by decide +kernel
theorem dX6_removeStep_40 : decode cX6_removeStep 40 = .ok (.aload_n 0, 1) := by decide +kernel
theorem dX6_removeStep_41 : decode cX6_removeStep 41 = .ok (.getfield 27, 3) := by decide +kernel
theorem dX6_removeStep_44 : decode cX6_removeStep 44 = .ok (.iload_n 1, 1) := by decide +kernel
theorem dX6_removeStep_45 : decode cX6_removeStep 45 = .ok (.aload_n 0, 1) := by decide +kernel
theorem dX6_removeStep_46 : decode cX6_removeStep 46 = .ok (.getfield 27, 3) := by decide +kernel
theorem dX6_removeStep_49 : decode cX6_removeStep 49 = .ok (.aload_n 0, 1) := by decide +kernel
theorem dX6_removeStep_50 : decode cX6_removeStep 50 = .ok (.getfield 37, 3) := by decide +kernel
theorem dX6_removeStep_53 : decode cX6_removeStep 53 = .ok (.iaload, 1) := by decide +kernel
theorem dX6_removeStep_54 : decode cX6_removeStep 54 = .ok (.iastore, 1) := by decide +kernel
theorem dX6_removeStep_55 : decode cX6_removeStep 55 = .ok (.return_, 1) := by decide +kernel
theorem dX6_rebatePercentage_0 : decode cX6_rebatePercentage 0 = .ok (.iconst (-1), 1) := by decide +kernel
theorem dX6_rebatePercentage_1 : decode cX6_rebatePercentage 1 = .ok (.istore_n 2, 1) := by decide +kernel
theorem dX6_rebatePercentage_2 : decode cX6_rebatePercentage 2 = .ok (.iconst 0, 1) := by decide +kernel
theorem dX6_rebatePercentage_3 : decode cX6_rebatePercentage 3 = .ok (.istore_n 3, 1) := by decide +kernel
theorem dX6_rebatePercentage_4 : decode cX6_rebatePercentage 4 = .ok (.iload_n 3, 1) := by decide +kernel
theorem dX6_rebatePercentage_5 : decode cX6_rebatePercentage 5 = .ok (.aload_n 0, 1) := by decide +kernel
theorem dX6_rebatePercentage_6 : decode cX6_rebatePercentage 6 = .ok (.getfield 37, 3) := by decide +kernel
theorem dX6_rebatePercentage_9 : decode cX6_rebatePercentage 9 = .ok (.if_icmp .ge 40, 3) := by decide +kernel
theorem dX6_rebatePercentage_12 : decode cX6_rebatePercentage 12 = .ok (.aload_n 0, 1) := by decide +kernel
theorem dX6_rebatePercentage_13 : decode cX6_rebatePercentage 13 = .ok (.getfield 23, 3) := by decide +kernel
theorem dX6_rebatePercentage_16 : decode cX6_rebatePercentage 16 = .ok (.iload_n 3, 1) := by decide +kernel
theorem dX6_rebatePercentage_17 : decode cX6_rebatePercentage 17 = .ok (.iaload, 1) := by decide +kernel
theorem dX6_rebatePercentage_18 : decode cX6_rebatePercentage 18 = .ok (.iload_n 1, 1) := by decide +kernel
theorem dX6_rebatePercentage_19 : decode cX6_rebatePercentage 19 = .ok (.if_icmp .gt 24, 3) := by decide +kernel
theorem dX6_rebatePercentage_22 : decode cX6_rebatePercentage 22 = .ok (.iload_n 2, 1) := by decide +kernel
theorem dX6_rebatePercentage_23 : decode cX6_rebatePercentage 23 = .ok (.ifCond .lt 18, 3) := by decide +kernel
theorem dX6_rebatePercentage_26 : decode cX6_rebatePercentage 26 = .ok (.aload_n 0, 1) := by decide +kernel
theorem dX6_rebatePercentage_27 : decode cX6_rebatePercentage 27 = .ok (.getfield 23, 3) := by decide +kernel
theorem dX6_rebatePercentage_30 : decode cX6_rebatePercentage 30 = .ok (.iload_n 3, 1) := by decide +kernel
theorem dX6_rebatePercentage_31 : decode cX6_rebatePercentage 31 = .ok (.iaload, 1) := by decide +kernel
theorem dX6_rebatePercentage_32 : decode cX6_rebatePercentage 32 = .ok (.aload_n 0, 1) := by decide +kernel
theorem dX6_rebatePercentage_33 : decode cX6_rebatePercentage 33 = .ok (.getfield 23, 3) := by decide +kernel
theorem dX6_rebatePercentage_36 : decode cX6_rebatePercentage 36 = .ok (.iload_n 2, 1) := by decide +kernel
theorem dX6_rebatePercentage_37 : decode cX6_rebatePercentage 37 = .ok (.iaload, 1) := by decide +kernel
theorem dX6_rebatePercentage_38 : decode cX6_rebatePercentage 38 = .ok (.if_icmp .le 5, 3) := by decide +kernel
theorem dX6_rebatePercentage_41 : decode cX6_rebatePercentage 41 = .ok (.iload_n 3, 1) := by decide +kernel
theorem dX6_rebatePercentage_42 : decode cX6_rebatePercentage 42 = .ok (.istore_n 2, 1) := by decide +kernel
theorem dX6_rebatePercentage_43 : decode cX6_rebatePercentage 43 = .ok (.iinc 3 1, 3) := by decide +kernel
theorem dX6_rebatePercentage_46 : decode cX6_rebatePercentage 46 = .ok (.goto (-42), 3) := by decide +kernel
theorem dX6_rebatePercentage_49 : decode cX6_rebatePercentage 49 = .ok (.iload_n 2, 1) := by decide +kernel
theorem dX6_rebatePercentage_50 : decode cX6_rebatePercentage 50 = .ok (.ifCond .ge 7, 3) := by decide +kernel
theorem dX6_rebatePercentage_53 : decode cX6_rebatePercentage 53 = .ok (.iconst 0, 1) := by decide +kernel
theorem dX6_rebatePercentage_54 : decode cX6_rebatePercentage 54 = .ok (.goto 9, 3) := by decide +kernel
theorem dX6_rebatePercentage_57 : decode cX6_rebatePercentage 57 = .ok (.aload_n 0, 1) := by decide +kernel
theorem dX6_rebatePercentage_58 : decode cX6_rebatePercentage 58 = .ok (.getfield 27, 3) := by decide +kernel
theorem dX6_rebatePercentage_61 : decode cX6_rebatePercentage 61 = .ok (.iload_n 2, 1) := by decide +kernel
theorem dX6_rebatePercentage_62 : decode cX6_rebatePercentage 62 = .ok (.iaload, 1) := by decide +kernel
theorem dX6_rebatePercentage_63 : decode cX6_rebatePercentage 63 = .ok (.ireturn, 1) := by decide +kernel
theorem dX7_init_0 : decode cX7_init 0 = .ok (.aload_n 0, 1) := by decide +kernel
theorem dX7_init_1 : decode cX7_init 1 = .ok (.invokespecial 1, 3) := by decide +kernel
theorem dX7_init_4 : decode cX7_init 4 = .ok (.aload_n 0, 1) := by decide +kernel
theorem dX7_init_5 : decode cX7_init 5 = .ok (.iload_n 1, 1) := by decide +kernel
theorem dX7_init_6 : decode cX7_init 6 = .ok (.putfield 7, 3) := by decide +kernel
theorem dX7_init_9 : decode cX7_init 9 = .ok (.return_, 1) := by decide +kernel
theorem dX8_init_0 : decode cX8_init 0 = .ok (.aload_n 0, 1) := by decide +kernel
theorem dX8_init_1 : decode cX8_init 1 = .ok (.invokespecial 1, 3) := by decide +kernel
theorem dX8_init_4 : decode cX8_init 4 = .ok (.aload_n 0, 1) := by decide +kernel
theorem dX8_init_5 : decode cX8_init 5 = .ok (.iload_n 1, 1) := by decide +kernel
theorem dX8_init_6 : decode cX8_init 6 = .ok (.putfield 7, 3) := by decide +kernel
theorem dX8_init_9 : decode cX8_init 9 = .ok (.return_, 1) := by decide +kernel
theorem dX8_holds_0 : decode cX8_holds 0 = .ok (.aload_n 0, 1) := by decide +kernel
theorem dX8_holds_1 : decode cX8_holds 1 = .ok (.getfield 13, 3) := by decide +kernel
theorem dX8_holds_4 : decode cX8_holds 4 = .ok (.bipush 104, 2) := by decide +kernel
theorem dX8_holds_6 : decode cX8_holds 6 = .ok (.if_icmp .ne 27, 3) := by decide +kernel
theorem dX8_holds_9 : decode cX8_holds 9 = .ok (.aload_n 1, 1) := by decide +kernel
theorem dX8_holds_10 : decode cX8_holds 10 = .ok (.getfield 17, 3) := by decide +kernel
theorem dX8_holds_13 : decode cX8_holds 13 = .ok (.aload_n 0, 1) := by decide +kernel
theorem dX8_holds_14 : decode cX8_holds 14 = .ok (.getfield 23, 3) := by decide +kernel
theorem dX8_holds_17 : decode cX8_holds 17 = .ok (.invokestatic 26, 3) := by decide +kernel
theorem dX8_holds_20 : decode cX8_holds 20 = .ok (.aload_n 0, 1) := by decide +kernel
theorem dX8_holds_21 : decode cX8_holds 21 = .ok (.getfield 32, 3) := by decide +kernel
theorem dX8_holds_24 : decode cX8_holds 24 = .ok (.if_icmp .eq 7, 3) := by decide +kernel
theorem dX8_holds_27 : decode cX8_holds 27 = .ok (.iconst 1, 1) := by decide +kernel
theorem dX8_holds_28 : decode cX8_holds 28 = .ok (.goto 4, 3) := by decide +kernel
theorem dX8_holds_31 : decode cX8_holds 31 = .ok (.iconst 0, 1) := by decide +kernel
theorem dX8_holds_32 : decode cX8_holds 32 = .ok (.ireturn, 1) := by decide +kernel
theorem dX8_holds_33 : decode cX8_holds 33 = .ok (.aload_n 0, 1) := by decide +kernel
theorem dX8_holds_34 : decode cX8_holds 34 = .ok (.aload_n 1, 1) := by decide +kernel
theorem dX8_holds_35 : decode cX8_holds 35 = .ok (.invokevirtual 35, 3) := by decide +kernel
theorem dX8_holds_38 : decode cX8_holds 38 = .ok (.istore_n 2, 1) := by decide +kernel
theorem dX8_holds_39 : decode cX8_holds 39 = .ok (.aload_n 0, 1) := by decide +kernel
theorem dX8_holds_40 : decode cX8_holds 40 = .ok (.getfield 39, 3) := by decide +kernel
theorem dX8_holds_43 : decode cX8_holds 43 = .ok (.bipush 60, 2) := by decide +kernel
theorem dX8_holds_45 : decode cX8_holds 45 = .ok (.if_icmp .ne 19, 3) := by decide +kernel
theorem dX8_holds_48 : decode cX8_holds 48 = .ok (.iload_n 2, 1) := by decide +kernel
theorem dX8_holds_49 : decode cX8_holds 49 = .ok (.aload_n 0, 1) := by decide +kernel
theorem dX8_holds_50 : decode cX8_holds 50 = .ok (.getfield 23, 3) := by decide +kernel
theorem dX8_holds_53 : decode cX8_holds 53 = .ok (.if_icmp .ge 7, 3) := by decide +kernel
theorem dX8_holds_56 : decode cX8_holds 56 = .ok (.iconst 1, 1) := by decide +kernel
theorem dX8_holds_57 : decode cX8_holds 57 = .ok (.goto 45, 3) := by decide +kernel
theorem dX8_holds_60 : decode cX8_holds 60 = .ok (.iconst 0, 1) := by decide +kernel
theorem dX8_holds_61 : decode cX8_holds 61 = .ok (.goto 41, 3) := by decide +kernel
theorem dX8_holds_64 : decode cX8_holds 64 = .ok (.aload_n 0, 1) := by decide +kernel
theorem dX8_holds_65 : decode cX8_holds 65 = .ok (.getfield 39, 3) := by decide +kernel
theorem dX8_holds_68 : decode cX8_holds 68 = .ok (.bipush 62, 2) := by decide +kernel
theorem dX8_holds_70 : decode cX8_holds 70 = .ok (.if_icmp .ne 19, 3) := by decide +kernel
theorem dX8_holds_73 : decode cX8_holds 73 = .ok (.iload_n 2, 1) := by decide +kernel
theorem dX8_holds_74 : decode cX8_holds 74 = .ok (.aload_n 0, 1) := by decide +kernel
theorem dX8_holds_75 : decode cX8_holds 75 = .ok (.getfield 23, 3) := by decide +kernel
theorem dX8_holds_78 : decode cX8_holds 78 = .ok (.if_icmp .le 7, 3) := by decide +kernel
theorem dX8_holds_81 : decode cX8_holds 81 = .ok (.iconst 1, 1) := by decide +kernel
theorem dX8_holds_82 : decode cX8_holds 82 = .ok (.goto 20, 3) := by decide +kernel
theorem dX8_holds_85 : decode cX8_holds 85 = .ok (.iconst 0, 1) := by decide +kernel
theorem dX8_holds_86 : decode cX8_holds 86 = .ok (.goto 16, 3) := by decide +kernel
theorem dX8_holds_89 : decode cX8_holds 89 = .ok (.iload_n 2, 1) := by decide +kernel
theorem dX8_holds_90 : decode cX8_holds 90 = .ok (.aload_n 0, 1) := by decide +kernel
theorem dX8_holds_91 : decode cX8_holds 91 = .ok (.getfield 23, 3) := by decide +kernel
theorem dX8_holds_94 : decode cX8_holds 94 = .ok (.if_icmp .ne 7, 3) := by decide +kernel
theorem dX8_holds_97 : decode cX8_holds 97 = .ok (.iconst 1, 1) := by decide +kernel
theorem dX8_holds_98 : decode cX8_holds 98 = .ok (.goto 4, 3) := by decide +kernel
theorem dX8_holds_101 : decode cX8_holds 101 = .ok (.iconst 0, 1) := by decide +kernel
theorem dX8_holds_102 : decode cX8_holds 102 = .ok (.istore_n 3, 1) := by decide +kernel
theorem dX8_holds_103 : decode cX8_holds 103 = .ok (.iload_n 3, 1) := by decide +kernel
theorem dX8_holds_104 : decode cX8_holds 104 = .ok (.aload_n 0, 1) := by decide +kernel
theorem dX8_holds_105 : decode cX8_holds 105 = .ok (.getfield 32, 3) := by decide +kernel
theorem dX8_holds_108 : decode cX8_holds 108 = .ok (.if_icmp .eq 7, 3) := by decide +kernel
theorem dX8_holds_111 : decode cX8_holds 111 = .ok (.iconst 1, 1) := by decide +kernel
theorem dX8_holds_112 : decode cX8_holds 112 = .ok (.goto 4, 3) := by decide +kernel
theorem dX8_holds_115 : decode cX8_holds 115 = .ok (.iconst 0, 1) := by decide +kernel
theorem dX8_holds_116 : decode cX8_holds 116 = .ok (.ireturn, 1) := by decide +kernel
theorem dX8_valueOf_0 : decode cX8_valueOf 0 = .ok (.aload_n 0, 1) := by decide +kernel
theorem dX8_valueOf_1 : decode cX8_valueOf 1 = .ok (.getfield 13, 3) := by decide +kernel
theorem dX8_valueOf_4 : decode cX8_valueOf 4 = .ok (.bipush 119, 2) := by decide +kernel
theorem dX8_valueOf_6 : decode cX8_valueOf 6 = .ok (.if_icmp .ne 8, 3) := by decide +kernel
theorem dX8_valueOf_9 : decode cX8_valueOf 9 = .ok (.aload_n 1, 1) := by decide +kernel
theorem dX8_valueOf_10 : decode cX8_valueOf 10 = .ok (.getfield 42, 3) := by decide +kernel
theorem dX8_valueOf_13 : decode cX8_valueOf 13 = .ok (.ireturn, 1) := by decide +kernel
theorem dX8_valueOf_14 : decode cX8_valueOf 14 = .ok (.aload_n 0, 1) := by decide +kernel
theorem dX8_valueOf_15 : decode cX8_valueOf 15 = .ok (.getfield 13, 3) := by decide +kernel
theorem dX8_valueOf_18 : decode cX8_valueOf 18 = .ok (.bipush 110, 2) := by decide +kernel
theorem dX8_valueOf_20 : decode cX8_valueOf 20 = .ok (.if_icmp .ne 8, 3) := by decide +kernel
theorem dX8_valueOf_23 : decode cX8_valueOf 23 = .ok (.aload_n 1, 1) := by decide +kernel
theorem dX8_valueOf_24 : decode cX8_valueOf 24 = .ok (.getfield 45, 3) := by decide +kernel
theorem dX8_valueOf_27 : decode cX8_valueOf 27 = .ok (.ireturn, 1) := by decide +kernel
theorem dX8_valueOf_28 : decode cX8_valueOf 28 = .ok (.aload_n 0, 1) := by decide +kernel
theorem dX8_valueOf_29 : decode cX8_valueOf 29 = .ok (.getfield 13, 3) := by decide +kernel
theorem dX8_valueOf_32 : decode cX8_valueOf 32 = .ok (.bipush 108, 2) := by decide +kernel
theorem dX8_valueOf_34 : decode cX8_valueOf 34 = .ok (.if_icmp .ne 10, 3) := by decide +kernel
theorem dX8_valueOf_37 : decode cX8_valueOf 37 = .ok (.aload_n 1, 1) := by decide +kernel
theorem dX8_valueOf_38 : decode cX8_valueOf 38 = .ok (.getfield 48, 3) := by decide +kernel
theorem dX8_valueOf_41 : decode cX8_valueOf 41 = .ok (.goto 7, 3) := by decide +kernel
theorem dX8_valueOf_44 : decode cX8_valueOf 44 = .ok (.aload_n 1, 1) := by decide +kernel
theorem dX8_valueOf_45 : decode cX8_valueOf 45 = .ok (.getfield 51, 3) := by decide +kernel
theorem dX8_valueOf_48 : decode cX8_valueOf 48 = .ok (.ireturn, 1) := by decide +kernel
theorem dX8_appendTo_0 : decode cX8_appendTo 0 = .ok (.aload_n 0, 1) := by decide +kernel
theorem dX8_appendTo_1 : decode cX8_appendTo 1 = .ok (.getfield 32, 3) := by decide +kernel
theorem dX8_appendTo_4 : decode cX8_appendTo 4 = .ok (.ifCond .eq 10, 3) := by decide +kernel
theorem dX8_appendTo_7 : decode cX8_appendTo 7 = .ok (.aload_n 1, 1) := by decide +kernel
theorem dX8_appendTo_8 : decode cX8_appendTo 8 = .ok (.bipush 45, 2) := by decide +kernel
theorem dX8_appendTo_10 : decode cX8_appendTo 10 = .ok (.invokevirtual 54, 3) := by decide +kernel
theorem dX8_appendTo_13 : decode cX8_appendTo 13 = .ok (.pop, 1) := by decide +kernel
theorem dX8_appendTo_14 : decode cX8_appendTo 14 = .ok (.aload_n 1, 1) := by decide +kernel
theorem dX8_appendTo_15 : decode cX8_appendTo 15 = .ok (.aload_n 0, 1) := by decide +kernel
theorem dX8_appendTo_16 : decode cX8_appendTo 16 = .ok (.getfield 13, 3) := by decide +kernel
theorem dX8_appendTo_19 : decode cX8_appendTo 19 = .ok (.invokevirtual 54, 3) := by decide +kernel
theorem dX8_appendTo_22 : decode cX8_appendTo 22 = .ok (.pop, 1) := by decide +kernel
theorem dX8_appendTo_23 : decode cX8_appendTo 23 = .ok (.aload_n 0, 1) := by decide +kernel
theorem dX8_appendTo_24 : decode cX8_appendTo 24 = .ok (.getfield 13, 3) := by decide +kernel
theorem dX8_appendTo_27 : decode cX8_appendTo 27 = .ok (.bipush 104, 2) := by decide +kernel
theorem dX8_appendTo_29 : decode cX8_appendTo 29 = .ok (.if_icmp .eq 12, 3) := by decide +kernel
theorem dX8_appendTo_32 : decode cX8_appendTo 32 = .ok (.aload_n 1, 1) := by decide +kernel
theorem dX8_appendTo_33 : decode cX8_appendTo 33 = .ok (.aload_n 0, 1) := by decide +kernel
theorem dX8_appendTo_34 : decode cX8_appendTo 34 = .ok (.getfield 39, 3) := by decide +kernel
theorem dX8_appendTo_37 : decode cX8_appendTo 37 = .ok (.invokevirtual 54, 3) := by decide +kernel
theorem dX8_appendTo_40 : decode cX8_appendTo 40 = .ok (.pop, 1) := by decide +kernel
theorem dX8_appendTo_41 : decode cX8_appendTo 41 = .ok (.aload_n 1, 1) := by decide +kernel
theorem dX8_appendTo_42 : decode cX8_appendTo 42 = .ok (.aload_n 0, 1) := by decide +kernel
theorem dX8_appendTo_43 : decode cX8_appendTo 43 = .ok (.getfield 23, 3) := by decide +kernel
theorem dX8_appendTo_46 : decode cX8_appendTo 46 = .ok (.invokevirtual 60, 3) := by decide +kernel
theorem dX8_appendTo_49 : decode cX8_appendTo 49 = .ok (.pop, 1) := by decide +kernel
theorem dX8_appendTo_50 : decode cX8_appendTo 50 = .ok (.return_, 1) := by decide +kernel
theorem dX9_init_0 : decode cX9_init 0 = .ok (.aload_n 0, 1) := by decide +kernel
theorem dX9_init_1 : decode cX9_init 1 = .ok (.invokespecial 3, 3) := by decide +kernel
theorem dX9_init_4 : decode cX9_init 4 = .ok (.aload_n 0, 1) := by decide +kernel
theorem dX9_init_5 : decode cX9_init 5 = .ok (.bipush 9, 2) := by decide +kernel
theorem dX9_init_7 : decode cX9_init 7 = .ok (.anewarray 11, 3) := by decide +kernel
theorem dX9_init_10 : decode cX9_init 10 = .ok (.putfield 13, 3) := by decide +kernel
theorem dX9_init_13 : decode cX9_init 13 = .ok (.aload_n 0, 1) := by decide +kernel
theorem dX9_init_14 : decode cX9_init 14 = .ok (.sipush 5000, 3) := by decide +kernel
theorem dX9_init_17 : decode cX9_init 17 = .ok (.putfield 17, 3) := by decide +kernel
theorem dX9_init_20 : decode cX9_init 20 = .ok (.aload_n 0, 1) := by decide +kernel
theorem dX9_init_21 : decode cX9_init 21 = .ok (.sipush 999, 3) := by decide +kernel
theorem dX9_init_24 : decode cX9_init 24 = .ok (.putfield 21, 3) := by decide +kernel
theorem dX9_init_27 : decode cX9_init 27 = .ok (.aload_n 0, 1) := by decide +kernel
theorem dX9_init_28 : decode cX9_init 28 = .ok (.bipush 10, 2) := by decide +kernel
theorem dX9_init_30 : decode cX9_init 30 = .ok (.anewarray 24, 3) := by decide +kernel
theorem dX9_init_33 : decode cX9_init 33 = .ok (.putfield 26, 3) := by decide +kernel
theorem dX9_init_36 : decode cX9_init 36 = .ok (.aload_n 0, 1) := by decide +kernel
theorem dX9_init_37 : decode cX9_init 37 = .ok (.bipush 12, 2) := by decide +kernel
theorem dX9_init_39 : decode cX9_init 39 = .ok (.newarray .int, 2) := by decide +kernel
theorem dX9_init_41 : decode cX9_init 41 = .ok (.putfield 30, 3) := by decide +kernel
theorem dX9_init_44 : decode cX9_init 44 = .ok (.aload_n 0, 1) := by decide +kernel
theorem dX9_init_45 : decode cX9_init 45 = .ok (.bipush 12, 2) := by decide +kernel
theorem dX9_init_47 : decode cX9_init 47 = .ok (.newarray .int, 2) := by decide +kernel
theorem dX9_init_49 : decode cX9_init 49 = .ok (.putfield 34, 3) := by decide +kernel
theorem dX9_init_52 : decode cX9_init 52 = .ok (.aload_n 0, 1) := by decide +kernel
theorem dX9_init_53 : decode cX9_init 53 = .ok (.bipush 12, 2) := by decide +kernel
theorem dX9_init_55 : decode cX9_init 55 = .ok (.newarray .int, 2) := by decide +kernel
theorem dX9_init_57 : decode cX9_init 57 = .ok (.putfield 37, 3) := by decide +kernel
theorem dX9_init_60 : decode cX9_init 60 = .ok (.iconst 0, 1) := by decide +kernel
theorem dX9_init_61 : decode cX9_init 61 = .ok (.istore_n 1, 1) := by decide +kernel
theorem dX9_init_62 : decode cX9_init 62 = .ok (.iload_n 1, 1) := by decide +kernel
theorem dX9_init_63 : decode cX9_init 63 = .ok (.bipush 9, 2) := by decide +kernel
theorem dX9_init_65 : decode cX9_init 65 = .ok (.if_icmp .ge 22, 3) := by decide +kernel
theorem dX9_init_68 : decode cX9_init 68 = .ok (.aload_n 0, 1) := by decide +kernel
theorem dX9_init_69 : decode cX9_init 69 = .ok (.getfield 13, 3) := by decide +kernel
theorem dX9_init_72 : decode cX9_init 72 = .ok (.iload_n 1, 1) := by decide +kernel
theorem dX9_init_73 : decode cX9_init 73 = .ok (.new 11, 3) := by decide +kernel
theorem dX9_init_76 : decode cX9_init 76 = .ok (.dup, 1) := by decide +kernel
theorem dX9_init_77 : decode cX9_init 77 = .ok (.invokespecial 40, 3) := by decide +kernel
theorem dX9_init_80 : decode cX9_init 80 = .ok (.aastore, 1) := by decide +kernel
theorem dX9_init_81 : decode cX9_init 81 = .ok (.iinc 1 1, 3) := by decide +kernel
theorem dX9_init_84 : decode cX9_init 84 = .ok (.goto (-22), 3) := by decide +kernel
theorem dX9_init_87 : decode cX9_init 87 = .ok (.return_, 1) := by decide +kernel
theorem dX9_init__0 : decode cX9_init_ 0 = .ok (.aload_n 0, 1) := by decide +kernel
theorem dX9_init__1 : decode cX9_init_ 1 = .ok (.invokespecial 3, 3) := by decide +kernel
theorem dX9_init__4 : decode cX9_init_ 4 = .ok (.aload_n 0, 1) := by decide +kernel
theorem dX9_init__5 : decode cX9_init_ 5 = .ok (.bipush 9, 2) := by decide +kernel
theorem dX9_init__7 : decode cX9_init_ 7 = .ok (.anewarray 11, 3) := by decide +kernel
theorem dX9_init__10 : decode cX9_init_ 10 = .ok (.putfield 13, 3) := by decide +kernel
theorem dX9_init__13 : decode cX9_init_ 13 = .ok (.aload_n 0, 1) := by decide +kernel
theorem dX9_init__14 : decode cX9_init_ 14 = .ok (.sipush 5000, 3) := by decide +kernel
theorem dX9_init__17 : decode cX9_init_ 17 = .ok (.putfield 17, 3) := by decide +kernel
theorem dX9_init__20 : decode cX9_init_ 20 = .ok (.aload_n 0, 1) := by decide +kernel
theorem dX9_init__21 : decode cX9_init_ 21 = .ok (.sipush 999, 3) := by decide +kernel
theorem dX9_init__24 : decode cX9_init_ 24 = .ok (.putfield 21, 3) := by decide +kernel
theorem dX9_init__27 : decode cX9_init_ 27 = .ok (.aload_n 0, 1) := by decide +kernel
theorem dX9_init__28 : decode cX9_init_ 28 = .ok (.bipush 10, 2) := by decide +kernel
theorem dX9_init__30 : decode cX9_init_ 30 = .ok (.anewarray 24, 3) := by decide +kernel
theorem dX9_init__33 : decode cX9_init_ 33 = .ok (.putfield 26, 3) := by decide +kernel
theorem dX9_init__36 : decode cX9_init_ 36 = .ok (.aload_n 0, 1) := by decide +kernel
theorem dX9_init__37 : decode cX9_init_ 37 = .ok (.aload_n 1, 1) := by decide +kernel
theorem dX9_init__38 : decode cX9_init_ 38 = .ok (.getfield 41, 3) := by decide +kernel
theorem dX9_init__41 : decode cX9_init_ 41 = .ok (.putfield 41, 3) := by decide +kernel
theorem dX9_init__44 : decode cX9_init_ 44 = .ok (.aload_n 0, 1) := by decide +kernel
theorem dX9_init__45 : decode cX9_init_ 45 = .ok (.aload_n 1, 1) := by decide +kernel
theorem dX9_init__46 : decode cX9_init_ 46 = .ok (.getfield 44, 3) := by decide +kernel
theorem dX9_init__49 : decode cX9_init_ 49 = .ok (.putfield 44, 3) := by decide +kernel
theorem dX9_init__52 : decode cX9_init_ 52 = .ok (.aload_n 0, 1) := by decide +kernel
theorem dX9_init__53 : decode cX9_init_ 53 = .ok (.aload_n 1, 1) := by decide +kernel
theorem dX9_init__54 : decode cX9_init_ 54 = .ok (.getfield 30, 3) := by decide +kernel
theorem dX9_init__57 : decode cX9_init_ 57 = .ok (.invokevirtual 47, 3) := by decide +kernel
theorem dX9_init__60 : decode cX9_init_ 60 = .ok (.checkcast 48, 3) := by decide +kernel
theorem dX9_init__63 : decode cX9_init_ 63 = .ok (.putfield 30, 3) := by decide +kernel
theorem dX9_init__66 : decode cX9_init_ 66 = .ok (.aload_n 0, 1) := by decide +kernel
theorem dX9_init__67 : decode cX9_init_ 67 = .ok (.aload_n 1, 1) := by decide +kernel
theorem dX9_init__68 : decode cX9_init_ 68 = .ok (.getfield 34, 3) := by decide +kernel
theorem dX9_init__71 : decode cX9_init_ 71 = .ok (.invokevirtual 47, 3) := by decide +kernel
theorem dX9_init__74 : decode cX9_init_ 74 = .ok (.checkcast 48, 3) := by decide +kernel
theorem dX9_init__77 : decode cX9_init_ 77 = .ok (.putfield 34, 3) := by decide +kernel
theorem dX9_init__80 : decode cX9_init_ 80 = .ok (.aload_n 0, 1) := by decide +kernel
theorem dX9_init__81 : decode cX9_init_ 81 = .ok (.aload_n 1, 1) := by decide +kernel
theorem dX9_init__82 : decode cX9_init_ 82 = .ok (.getfield 37, 3) := by decide +kernel
theorem dX9_init__85 : decode cX9_init_ 85 = .ok (.invokevirtual 47, 3) := by decide +kernel
theorem dX9_init__88 : decode cX9_init_ 88 = .ok (.checkcast 48, 3) := by decide +kernel
theorem dX9_init__91 : decode cX9_init_ 91 = .ok (.putfield 37, 3) := by decide +kernel
theorem dX9_init__94 : decode cX9_init_ 94 = .ok (.iconst 0, 1) := by decide +kernel
theorem dX9_init__95 : decode cX9_init_ 95 = .ok (.istore_n 2, 1) := by decide +kernel
theorem dX9_init__96 : decode cX9_init_ 96 = .ok (.iload_n 2, 1) := by decide +kernel
theorem dX9_init__97 : decode cX9_init_ 97 = .ok (.bipush 9, 2) := by decide +kernel
theorem dX9_init__99 : decode cX9_init_ 99 = .ok (.if_icmp .ge 28, 3) := by decide +kernel
theorem dX9_init__102 : decode cX9_init_ 102 = .ok (.aload_n 0, 1) := by decide +kernel
theorem dX9_init__103 : decode cX9_init_ 103 = .ok (.getfield 13, 3) := by decide +kernel
theorem dX9_init__106 : decode cX9_init_ 106 = .ok (.iload_n 2, 1) := by decide +kernel
theorem dX9_init__107 : decode cX9_init_ 107 = .ok (.new 11, 3) := by decide +kernel
theorem dX9_init__110 : decode cX9_init_ 110 = .ok (.dup, 1) := by decide +kernel
theorem dX9_init__111 : decode cX9_init_ 111 = .ok (.aload_n 1, 1) := by decide +kernel
theorem dX9_init__112 : decode cX9_init_ 112 = .ok (.getfield 13, 3) := by decide +kernel
theorem dX9_init__115 : decode cX9_init_ 115 = .ok (.iload_n 2, 1) := by decide +kernel
theorem dX9_init__116 : decode cX9_init_ 116 = .ok (.aaload, 1) := by decide +kernel
theorem dX9_init__117 : decode cX9_init_ 117 = .ok (.invokespecial 52, 3) := by decide +kernel
theorem dX9_init__120 : decode cX9_init_ 120 = .ok (.aastore, 1) := by decide +kernel
theorem dX9_init__121 : decode cX9_init_ 121 = .ok (.iinc 2 1, 3) := by decide +kernel
theorem dX9_init__124 : decode cX9_init_ 124 = .ok (.goto (-28), 3) := by decide +kernel
theorem dX9_init__127 : decode cX9_init_ 127 = .ok (.aload_n 0, 1) := by decide +kernel
theorem dX9_init__128 : decode cX9_init_ 128 = .ok (.aload_n 1, 1) := by decide +kernel
theorem dX9_init__129 : decode cX9_init_ 129 = .ok (.getfield 17, 3) := by decide +kernel
theorem dX9_init__132 : decode cX9_init_ 132 = .ok (.putfield 17, 3) := by decide +kernel
theorem dX9_init__135 : decode cX9_init_ 135 = .ok (.aload_n 0, 1) := by decide +kernel
theorem dX9_init__136 : decode cX9_init_ 136 = .ok (.aload_n 1, 1) := by decide +kernel
theorem dX9_init__137 : decode cX9_init_ 137 = .ok (.getfield 55, 3) := by decide +kernel
theorem dX9_init__140 : decode cX9_init_ 140 = .ok (.putfield 55, 3) := by decide +kernel
theorem dX9_init__143 : decode cX9_init_ 143 = .ok (.aload_n 0, 1) := by decide +kernel
theorem dX9_init__144 : decode cX9_init_ 144 = .ok (.aload_n 1, 1) := by decide +kernel
theorem dX9_init__145 : decode cX9_init_ 145 = .ok (.getfield 58, 3) := by decide +kernel
theorem dX9_init__148 : decode cX9_init_ 148 = .ok (.putfield 58, 3) := by decide +kernel
theorem dX9_init__151 : decode cX9_init_ 151 = .ok (.aload_n 0, 1) := by decide +kernel
theorem dX9_init__152 : decode cX9_init_ 152 = .ok (.aload_n 1, 1) := by decide +kernel
theorem dX9_init__153 : decode cX9_init_ 153 = .ok (.getfield 21, 3) := by decide +kernel
theorem dX9_init__156 : decode cX9_init_ 156 = .ok (.putfield 21, 3) := by decide +kernel
theorem dX9_init__159 : decode cX9_init_ 159 = .ok (.iconst 0, 1) := by decide +kernel
theorem dX9_init__160 : decode cX9_init_ 160 = .ok (.istore_n 2, 1) := by decide +kernel
theorem dX9_init__161 : decode cX9_init_ 161 = .ok (.iload_n 2, 1) := by decide +kernel
theorem dX9_init__162 : decode cX9_init_ 162 = .ok (.bipush 10, 2) := by decide +kernel
theorem dX9_init__164 : decode cX9_init_ 164 = .ok (.if_icmp .ge 21, 3) := by decide +kernel
theorem dX9_init__167 : decode cX9_init_ 167 = .ok (.aload_n 0, 1) := by decide +kernel
theorem dX9_init__168 : decode cX9_init_ 168 = .ok (.getfield 26, 3) := by decide +kernel
theorem dX9_init__171 : decode cX9_init_ 171 = .ok (.iload_n 2, 1) := by decide +kernel
theorem dX9_init__172 : decode cX9_init_ 172 = .ok (.aload_n 1, 1) := by decide +kernel
theorem dX9_init__173 : decode cX9_init_ 173 = .ok (.getfield 26, 3) := by decide +kernel
theorem dX9_init__176 : decode cX9_init_ 176 = .ok (.iload_n 2, 1) := by decide +kernel
theorem dX9_init__177 : decode cX9_init_ 177 = .ok (.aaload, 1) := by decide +kernel
theorem dX9_init__178 : decode cX9_init_ 178 = .ok (.aastore, 1) := by decide +kernel
theorem dX9_init__179 : decode cX9_init_ 179 = .ok (.iinc 2 1, 3) := by decide +kernel
theorem dX9_init__182 : decode cX9_init_ 182 = .ok (.goto (-21), 3) := by decide +kernel
theorem dX9_init__185 : decode cX9_init_ 185 = .ok (.return_, 1) := by decide +kernel
theorem dX9_scaleOf_0 : decode cX9_scaleOf 0 = .ok (.iload_n 1, 1) := by decide +kernel
theorem dX9_scaleOf_1 : decode cX9_scaleOf 1 = .ok (.iconst 1, 1) := by decide +kernel
theorem dX9_scaleOf_2 : decode cX9_scaleOf 2 = .ok (.bipush 9, 2) := by decide +kernel
theorem dX9_scaleOf_4 : decode cX9_scaleOf 4 = .ok (.invokestatic 61, 3) := by decide +kernel
theorem dX9_scaleOf_7 : decode cX9_scaleOf 7 = .ok (.ifCond .eq 14, 3) := by decide +kernel
theorem dX9_scaleOf_10 : decode cX9_scaleOf 10 = .ok (.aload_n 0, 1) := by decide +kernel
theorem dX9_scaleOf_11 : decode cX9_scaleOf 11 = .ok (.getfield 13, 3) := by decide +kernel
theorem dX9_scaleOf_14 : decode cX9_scaleOf 14 = .ok (.iload_n 1, 1) := by decide +kernel
theorem dX9_scaleOf_15 : decode cX9_scaleOf 15 = .ok (.iconst 1, 1) := by decide +kernel
theorem dX9_scaleOf_16 : decode cX9_scaleOf 16 = .ok (.isub, 1) := by decide +kernel
theorem dX9_scaleOf_17 : decode cX9_scaleOf 17 = .ok (.aaload, 1) := by decide +kernel
theorem dX9_scaleOf_18 : decode cX9_scaleOf 18 = .ok (.goto 4, 3) := by decide +kernel
theorem dX9_scaleOf_21 : decode cX9_scaleOf 21 = .ok (.aconst_null, 1) := by decide +kernel
theorem dX9_scaleOf_22 : decode cX9_scaleOf 22 = .ok (.areturn, 1) := by decide +kernel
theorem dX9_accessorialAt_0 : decode cX9_accessorialAt 0 = .ok (.iload_n 1, 1) := by decide +kernel
theorem dX9_accessorialAt_1 : decode cX9_accessorialAt 1 = .ok (.iconst 0, 1) := by decide +kernel
theorem dX9_accessorialAt_2 : decode cX9_accessorialAt 2 = .ok (.bipush 9, 2) := by decide +kernel
theorem dX9_accessorialAt_4 : decode cX9_accessorialAt 4 = .ok (.invokestatic 61, 3) := by decide +kernel
theorem dX9_accessorialAt_7 : decode cX9_accessorialAt 7 = .ok (.ifCond .eq 12, 3) := by decide +kernel
theorem dX9_accessorialAt_10 : decode cX9_accessorialAt 10 = .ok (.aload_n 0, 1) := by decide +kernel
theorem dX9_accessorialAt_11 : decode cX9_accessorialAt 11 = .ok (.getfield 26, 3) := by decide +kernel
theorem dX9_accessorialAt_14 : decode cX9_accessorialAt 14 = .ok (.iload_n 1, 1) := by decide +kernel
theorem dX9_accessorialAt_15 : decode cX9_accessorialAt 15 = .ok (.aaload, 1) := by decide +kernel
theorem dX9_accessorialAt_16 : decode cX9_accessorialAt 16 = .ok (.goto 4, 3) := by decide +kernel
theorem dX9_accessorialAt_19 : decode cX9_accessorialAt 19 = .ok (.aconst_null, 1) := by decide +kernel
theorem dX9_accessorialAt_20 : decode cX9_accessorialAt 20 = .ok (.areturn, 1) := by decide +kernel
theorem dX9_accessorialSet_0 : decode cX9_accessorialSet 0 = .ok (.iconst 0, 1) := by decide +kernel
theorem dX9_accessorialSet_1 : decode cX9_accessorialSet 1 = .ok (.istore_n 1, 1) := by decide +kernel
theorem dX9_accessorialSet_2 : decode cX9_accessorialSet 2 = .ok (.iconst 0, 1) := by decide +kernel
theorem dX9_accessorialSet_3 : decode cX9_accessorialSet 3 = .ok (.istore_n 2, 1) := by decide +kernel
theorem dX9_accessorialSet_4 : decode cX9_accessorialSet 4 = .ok (.iload_n 2, 1) := by decide +kernel
theorem dX9_accessorialSet_5 : decode cX9_accessorialSet 5 = .ok (.bipush 10, 2) := by decide +kernel
theorem dX9_accessorialSet_7 : decode cX9_accessorialSet 7 = .ok (.if_icmp .ge 24, 3) := by decide +kernel
theorem dX9_accessorialSet_10 : decode cX9_accessorialSet 10 = .ok (.aload_n 0, 1) := by decide +kernel
theorem dX9_accessorialSet_11 : decode cX9_accessorialSet 11 = .ok (.getfield 26, 3) := by decide +kernel
theorem dX9_accessorialSet_14 : decode cX9_accessorialSet 14 = .ok (.iload_n 2, 1) := by decide +kernel
theorem dX9_accessorialSet_15 : decode cX9_accessorialSet 15 = .ok (.aaload, 1) := by decide +kernel
theorem dX9_accessorialSet_16 : decode cX9_accessorialSet 16 = .ok (.ifnull 9, 3) := by decide +kernel
theorem dX9_accessorialSet_19 : decode cX9_accessorialSet 19 = .ok (.iload_n 1, 1) := by decide +kernel
theorem dX9_accessorialSet_20 : decode cX9_accessorialSet 20 = .ok (.iconst 1, 1) := by decide +kernel
theorem dX9_accessorialSet_21 : decode cX9_accessorialSet 21 = .ok (.iload_n 2, 1) := by decide +kernel
theorem dX9_accessorialSet_22 : decode cX9_accessorialSet 22 = .ok (.ishl, 1) := by decide +kernel
theorem dX9_accessorialSet_23 : decode cX9_accessorialSet 23 = .ok (.ior, 1) := by decide +kernel
theorem dX9_accessorialSet_24 : decode cX9_accessorialSet 24 = .ok (.istore_n 1, 1) := by decide +kernel
theorem dX9_accessorialSet_25 : decode cX9_accessorialSet 25 = .ok (.iinc 2 1, 3) := by decide +kernel
theorem dX9_accessorialSet_28 : decode cX9_accessorialSet 28 = .ok (.goto (-24), 3) := by decide +kernel
theorem dX9_accessorialSet_31 : decode cX9_accessorialSet 31 = .ok (.iload_n 1, 1) := by decide +kernel
theorem dX9_accessorialSet_32 : decode cX9_accessorialSet 32 = .ok (.ireturn, 1) := by decide +kernel
theorem dX9_countBreaks_0 : decode cX9_countBreaks 0 = .ok (.iconst 0, 1) := by decide +kernel
theorem dX9_countBreaks_1 : decode cX9_countBreaks 1 = .ok (.istore_n 1, 1) := by decide +kernel
theorem dX9_countBreaks_2 : decode cX9_countBreaks 2 = .ok (.iconst 0, 1) := by decide +kernel
theorem dX9_countBreaks_3 : decode cX9_countBreaks 3 = .ok (.istore_n 2, 1) := by decide +kernel
theorem dX9_countBreaks_4 : decode cX9_countBreaks 4 = .ok (.iload_n 2, 1) := by decide +kernel
theorem dX9_countBreaks_5 : decode cX9_countBreaks 5 = .ok (.bipush 9, 2) := by decide +kernel
theorem dX9_countBreaks_7 : decode cX9_countBreaks 7 = .ok (.if_icmp .ge 21, 3) := by decide +kernel
theorem dX9_countBreaks_10 : decode cX9_countBreaks 10 = .ok (.iload_n 1, 1) := by decide +kernel
theorem dX9_countBreaks_11 : decode cX9_countBreaks 11 = .ok (.aload_n 0, 1) := by decide +kernel
theorem dX9_countBreaks_12 : decode cX9_countBreaks 12 = .ok (.getfield 13, 3) := by decide +kernel
theorem dX9_countBreaks_15 : decode cX9_countBreaks 15 = .ok (.iload_n 2, 1) := by decide +kernel
theorem dX9_countBreaks_16 : decode cX9_countBreaks 16 = .ok (.aaload, 1) := by decide +kernel
theorem dX9_countBreaks_17 : decode cX9_countBreaks 17 = .ok (.getfield 65, 3) := by decide +kernel
theorem dX9_countBreaks_20 : decode cX9_countBreaks 20 = .ok (.iadd, 1) := by decide +kernel
theorem dX9_countBreaks_21 : decode cX9_countBreaks 21 = .ok (.istore_n 1, 1) := by decide +kernel
theorem dX9_countBreaks_22 : decode cX9_countBreaks 22 = .ok (.iinc 2 1, 3) := by decide +kernel
theorem dX9_countBreaks_25 : decode cX9_countBreaks 25 = .ok (.goto (-21), 3) := by decide +kernel
theorem dX9_countBreaks_28 : decode cX9_countBreaks 28 = .ok (.iload_n 1, 1) := by decide +kernel
theorem dX9_countBreaks_29 : decode cX9_countBreaks 29 = .ok (.ireturn, 1) := by decide +kernel
theorem dX9_findZone_0 : decode cX9_findZone 0 = .ok (.aload_n 0, 1) := by decide +kernel
theorem dX9_findZone_1 : decode cX9_findZone 1 = .ok (.getfield 44, 3) := by decide +kernel
theorem dX9_findZone_4 : decode cX9_findZone 4 = .ok (.iconst 1, 1) := by decide +kernel
theorem dX9_findZone_5 : decode cX9_findZone 5 = .ok (.isub, 1) := by decide +kernel
theorem dX9_findZone_6 : decode cX9_findZone 6 = .ok (.istore_n 2, 1) := by decide +kernel
theorem dX9_findZone_7 : decode cX9_findZone 7 = .ok (.iload_n 2, 1) := by decide +kernel
theorem dX9_findZone_8 : decode cX9_findZone 8 = .ok (.ifCond .lt 35, 3) := by decide +kernel
theorem dX9_findZone_11 : decode cX9_findZone 11 = .ok (.iload_n 1, 1) := by decide +kernel
theorem dX9_findZone_12 : decode cX9_findZone 12 = .ok (.aload_n 0, 1) := by decide +kernel
theorem dX9_findZone_13 : decode cX9_findZone 13 = .ok (.getfield 30, 3) := by decide +kernel
theorem dX9_findZone_16 : decode cX9_findZone 16 = .ok (.iload_n 2, 1) := by decide +kernel
theorem dX9_findZone_17 : decode cX9_findZone 17 = .ok (.iaload, 1) := by decide +kernel
theorem dX9_findZone_18 : decode cX9_findZone 18 = .ok (.aload_n 0, 1) := by decide +kernel
theorem dX9_findZone_19 : decode cX9_findZone 19 = .ok (.getfield 34, 3) := by decide +kernel
theorem dX9_findZone_22 : decode cX9_findZone 22 = .ok (.iload_n 2, 1) := by decide +kernel
theorem dX9_findZone_23 : decode cX9_findZone 23 = .ok (.iaload, 1) := by decide +kernel
theorem dX9_findZone_24 : decode cX9_findZone 24 = .ok (.invokestatic 61, 3) := by decide +kernel
theorem dX9_findZone_27 : decode cX9_findZone 27 = .ok (.ifCond .eq 10, 3) := by decide +kernel
theorem dX9_findZone_30 : decode cX9_findZone 30 = .ok (.aload_n 0, 1) := by decide +kernel
theorem dX9_findZone_31 : decode cX9_findZone 31 = .ok (.getfield 37, 3) := by decide +kernel
theorem dX9_findZone_34 : decode cX9_findZone 34 = .ok (.iload_n 2, 1) := by decide +kernel
theorem dX9_findZone_35 : decode cX9_findZone 35 = .ok (.iaload, 1) := by decide +kernel
theorem dX9_findZone_36 : decode cX9_findZone 36 = .ok (.ireturn, 1) := by decide +kernel
theorem dX9_findZone_37 : decode cX9_findZone 37 = .ok (.iinc 2 (-1), 3) := by decide +kernel
theorem dX9_findZone_40 : decode cX9_findZone 40 = .ok (.goto (-33), 3) := by decide +kernel
theorem dX9_findZone_43 : decode cX9_findZone 43 = .ok (.iconst 0, 1) := by decide +kernel
theorem dX9_findZone_44 : decode cX9_findZone 44 = .ok (.ireturn, 1) := by decide +kernel
theorem dX9_carryOut_0 : decode cX9_carryOut 0 = .ok (.aload_n 1, 1) := by decide +kernel
theorem dX9_carryOut_1 : decode cX9_carryOut 1 = .ok (.getfield 68, 3) := by decide +kernel
theorem dX9_carryOut_4 : decode cX9_carryOut 4 = .ok (.istore_n 2, 1) := by decide +kernel
theorem dX9_carryOut_5 : decode cX9_carryOut 5 = .ok (.aload_n 1, 1) := by decide +kernel
theorem dX9_carryOut_6 : decode cX9_carryOut 6 = .ok (.getfield 73, 3) := by decide +kernel
theorem dX9_carryOut_9 : decode cX9_carryOut 9 = .ok (.tableswitch 228 97 122 #[206, 133, 199, 157, 228, 175, 228, 228, 228, 228, 228, 228, 147, 228, 228, 228, 228, 219, 192, 228, 228, 228, 228, 228, 228, 119], 119) := by decide +kernel
theorem dX9_carryOut_128 : decode cX9_carryOut 128 = .ok (.aload_n 0, 1) := by decide +kernel
theorem dX9_carryOut_129 : decode cX9_carryOut 129 = .ok (.aload_n 1, 1) := by decide +kernel
theorem dX9_carryOut_130 : decode cX9_carryOut 130 = .ok (.getfield 76, 3) := by decide +kernel
theorem dX9_carryOut_133 : decode cX9_carryOut 133 = .ok (.iload_n 2, 1) := by decide +kernel
theorem dX9_carryOut_134 : decode cX9_carryOut 134 = .ok (.aload_n 1, 1) := by decide +kernel
theorem dX9_carryOut_135 : decode cX9_carryOut 135 = .ok (.getfield 79, 3) := by decide +kernel
theorem dX9_carryOut_138 : decode cX9_carryOut 138 = .ok (.invokevirtual 82, 3) := by decide +kernel
theorem dX9_carryOut_141 : decode cX9_carryOut 141 = .ok (.ireturn, 1) := by decide +kernel
theorem dX9_carryOut_142 : decode cX9_carryOut 142 = .ok (.aload_n 0, 1) := by decide +kernel
theorem dX9_carryOut_143 : decode cX9_carryOut 143 = .ok (.aload_n 1, 1) := by decide +kernel
theorem dX9_carryOut_144 : decode cX9_carryOut 144 = .ok (.getfield 76, 3) := by decide +kernel
theorem dX9_carryOut_147 : decode cX9_carryOut 147 = .ok (.iload_n 2, 1) := by decide +kernel
theorem dX9_carryOut_148 : decode cX9_carryOut 148 = .ok (.aload_n 1, 1) := by decide +kernel
theorem dX9_carryOut_149 : decode cX9_carryOut 149 = .ok (.getfield 79, 3) := by decide +kernel
theorem dX9_carryOut_152 : decode cX9_carryOut 152 = .ok (.invokevirtual 85, 3) := by decide +kernel
theorem dX9_carryOut_155 : decode cX9_carryOut 155 = .ok (.ireturn, 1) := by decide +kernel
theorem dX9_carryOut_156 : decode cX9_carryOut 156 = .ok (.aload_n 0, 1) := by decide +kernel
theorem dX9_carryOut_157 : decode cX9_carryOut 157 = .ok (.aload_n 1, 1) := by decide +kernel
theorem dX9_carryOut_158 : decode cX9_carryOut 158 = .ok (.getfield 76, 3) := by decide +kernel
theorem dX9_carryOut_161 : decode cX9_carryOut 161 = .ok (.iload_n 2, 1) := by decide +kernel
theorem dX9_carryOut_162 : decode cX9_carryOut 162 = .ok (.invokevirtual 88, 3) := by decide +kernel
theorem dX9_carryOut_165 : decode cX9_carryOut 165 = .ok (.ireturn, 1) := by decide +kernel
theorem dX9_carryOut_166 : decode cX9_carryOut 166 = .ok (.aload_n 0, 1) := by decide +kernel
theorem dX9_carryOut_167 : decode cX9_carryOut 167 = .ok (.iload_n 2, 1) := by decide +kernel
theorem dX9_carryOut_168 : decode cX9_carryOut 168 = .ok (.putfield 17, 3) := by decide +kernel
theorem dX9_carryOut_171 : decode cX9_carryOut 171 = .ok (.iload_n 2, 1) := by decide +kernel
theorem dX9_carryOut_172 : decode cX9_carryOut 172 = .ok (.sipush 1000, 3) := by decide +kernel
theorem dX9_carryOut_175 : decode cX9_carryOut 175 = .ok (.if_icmp .lt 7, 3) := by decide +kernel
theorem dX9_carryOut_178 : decode cX9_carryOut 178 = .ok (.iconst 1, 1) := by decide +kernel
theorem dX9_carryOut_179 : decode cX9_carryOut 179 = .ok (.goto 4, 3) := by decide +kernel
theorem dX9_carryOut_182 : decode cX9_carryOut 182 = .ok (.iconst 0, 1) := by decide +kernel
theorem dX9_carryOut_183 : decode cX9_carryOut 183 = .ok (.ireturn, 1) := by decide +kernel
theorem dX9_carryOut_184 : decode cX9_carryOut 184 = .ok (.aload_n 0, 1) := by decide +kernel
theorem dX9_carryOut_185 : decode cX9_carryOut 185 = .ok (.iload_n 2, 1) := by decide +kernel
theorem dX9_carryOut_186 : decode cX9_carryOut 186 = .ok (.putfield 55, 3) := by decide +kernel
theorem dX9_carryOut_189 : decode cX9_carryOut 189 = .ok (.iload_n 2, 1) := by decide +kernel
theorem dX9_carryOut_190 : decode cX9_carryOut 190 = .ok (.bipush 99, 2) := by decide +kernel
theorem dX9_carryOut_192 : decode cX9_carryOut 192 = .ok (.if_icmp .gt 7, 3) := by decide +kernel
theorem dX9_carryOut_195 : decode cX9_carryOut 195 = .ok (.iconst 1, 1) := by decide +kernel
theorem dX9_carryOut_196 : decode cX9_carryOut 196 = .ok (.goto 4, 3) := by decide +kernel
theorem dX9_carryOut_199 : decode cX9_carryOut 199 = .ok (.iconst 0, 1) := by decide +kernel
theorem dX9_carryOut_200 : decode cX9_carryOut 200 = .ok (.ireturn, 1) := by decide +kernel
theorem dX9_carryOut_201 : decode cX9_carryOut 201 = .ok (.aload_n 0, 1) := by decide +kernel
theorem dX9_carryOut_202 : decode cX9_carryOut 202 = .ok (.iload_n 2, 1) := by decide +kernel
theorem dX9_carryOut_203 : decode cX9_carryOut 203 = .ok (.putfield 58, 3) := by decide +kernel
theorem dX9_carryOut_206 : decode cX9_carryOut 206 = .ok (.iconst 1, 1) := by decide +kernel
theorem dX9_carryOut_207 : decode cX9_carryOut 207 = .ok (.ireturn, 1) := by decide +kernel
theorem dX9_carryOut_208 : decode cX9_carryOut 208 = .ok (.aload_n 0, 1) := by decide +kernel
theorem dX9_carryOut_209 : decode cX9_carryOut 209 = .ok (.iload_n 2, 1) := by decide +kernel
theorem dX9_carryOut_210 : decode cX9_carryOut 210 = .ok (.putfield 21, 3) := by decide +kernel
theorem dX9_carryOut_213 : decode cX9_carryOut 213 = .ok (.iconst 1, 1) := by decide +kernel
theorem dX9_carryOut_214 : decode cX9_carryOut 214 = .ok (.ireturn, 1) := by decide +kernel
theorem dX9_carryOut_215 : decode cX9_carryOut 215 = .ok (.aload_n 0, 1) := by decide +kernel
theorem dX9_carryOut_216 : decode cX9_carryOut 216 = .ok (.aload_n 1, 1) := by decide +kernel
theorem dX9_carryOut_217 : decode cX9_carryOut 217 = .ok (.getfield 76, 3) := by decide +kernel
theorem dX9_carryOut_220 : decode cX9_carryOut 220 = .ok (.aload_n 1, 1) := by decide +kernel
theorem dX9_carryOut_221 : decode cX9_carryOut 221 = .ok (.getfield 92, 3) := by decide +kernel
theorem dX9_carryOut_224 : decode cX9_carryOut 224 = .ok (.invokevirtual 96, 3) := by decide +kernel
theorem dX9_carryOut_227 : decode cX9_carryOut 227 = .ok (.ireturn, 1) := by decide +kernel
theorem dX9_carryOut_228 : decode cX9_carryOut 228 = .ok (.aload_n 0, 1) := by decide +kernel
theorem dX9_carryOut_229 : decode cX9_carryOut 229 = .ok (.aload_n 1, 1) := by decide +kernel
theorem dX9_carryOut_230 : decode cX9_carryOut 230 = .ok (.getfield 76, 3) := by decide +kernel
theorem dX9_carryOut_233 : decode cX9_carryOut 233 = .ok (.invokevirtual 100, 3) := by decide +kernel
theorem dX9_carryOut_236 : decode cX9_carryOut 236 = .ok (.ireturn, 1) := by decide +kernel
theorem dX9_carryOut_237 : decode cX9_carryOut 237 = .ok (.iconst 0, 1) := by decide +kernel
theorem dX9_carryOut_238 : decode cX9_carryOut 238 = .ok (.ireturn, 1) := by decide +kernel
theorem dX9_addRange_0 : decode cX9_addRange 0 = .ok (.iload_n 2, 1) := by decide +kernel
theorem dX9_addRange_1 : decode cX9_addRange 1 = .ok (.iload_n 3, 1) := by decide +kernel
theorem dX9_addRange_2 : decode cX9_addRange 2 = .ok (.if_icmp .gt 19, 3) := by decide +kernel
theorem dX9_addRange_5 : decode cX9_addRange 5 = .ok (.iload_n 3, 1) := by decide +kernel
theorem dX9_addRange_6 : decode cX9_addRange 6 = .ok (.sipush 999, 3) := by decide +kernel
theorem dX9_addRange_9 : decode cX9_addRange 9 = .ok (.if_icmp .gt 12, 3) := by decide +kernel
theorem dX9_addRange_12 : decode cX9_addRange 12 = .ok (.aload_n 0, 1) := by decide +kernel
theorem dX9_addRange_13 : decode cX9_addRange 13 = .ok (.getfield 44, 3) := by decide +kernel
theorem dX9_addRange_16 : decode cX9_addRange 16 = .ok (.bipush 12, 2) := by decide +kernel
theorem dX9_addRange_18 : decode cX9_addRange 18 = .ok (.if_icmp .lt 5, 3) := by decide +kernel
theorem dX9_addRange_21 : decode cX9_addRange 21 = .ok (.iconst 0, 1) := by decide +kernel
theorem dX9_addRange_22 : decode cX9_addRange 22 = .ok (.ireturn, 1) := by decide +kernel
theorem dX9_addRange_23 : decode cX9_addRange 23 = .ok (.aload_n 0, 1) := by decide +kernel
theorem dX9_addRange_24 : decode cX9_addRange 24 = .ok (.getfield 30, 3) := by decide +kernel
theorem dX9_addRange_27 : decode cX9_addRange 27 = .ok (.aload_n 0, 1) := by decide +kernel
theorem dX9_addRange_28 : decode cX9_addRange 28 = .ok (.getfield 44, 3) := by decide +kernel
theorem dX9_addRange_31 : decode cX9_addRange 31 = .ok (.iload_n 2, 1) := by decide +kernel
theorem dX9_addRange_32 : decode cX9_addRange 32 = .ok (.iastore, 1) := by decide +kernel
theorem dX9_addRange_33 : decode cX9_addRange 33 = .ok (.aload_n 0, 1) := by decide +kernel
theorem dX9_addRange_34 : decode cX9_addRange 34 = .ok (.getfield 34, 3) := by decide +kernel
theorem dX9_addRange_37 : decode cX9_addRange 37 = .ok (.aload_n 0, 1) := by decide +kernel
theorem dX9_addRange_38 : decode cX9_addRange 38 = .ok (.getfield 44, 3) := by decide +kernel
theorem dX9_addRange_41 : decode cX9_addRange 41 = .ok (.iload_n 3, 1) := by decide +kernel
theorem dX9_addRange_42 : decode cX9_addRange 42 = .ok (.iastore, 1) := by decide +kernel
theorem dX9_addRange_43 : decode cX9_addRange 43 = .ok (.aload_n 0, 1) := by decide +kernel
theorem dX9_addRange_44 : decode cX9_addRange 44 = .ok (.getfield 37, 3) := by decide +kernel
theorem dX9_addRange_47 : decode cX9_addRange 47 = .ok (.aload_n 0, 1) := by decide +kernel
theorem dX9_addRange_48 : decode cX9_addRange 48 = .ok (.getfield 44, 3) := by decide +kernel
theorem dX9_addRange_51 : decode cX9_addRange 51 = .ok (.iload_n 1, 1) := by decide +kernel
theorem dX9_addRange_52 : decode cX9_addRange 52 = .ok (.iastore, 1) := by decide +kernel
theorem dX9_addRange_53 : decode cX9_addRange 53 = .ok (.aload_n 0, 1) := by decide +kernel
theorem dX9_addRange_54 : decode cX9_addRange 54 = .ok (.dup, 1) := by decide +kernel
theorem dX9_addRange_55 : decode cX9_addRange 55 = .ok (.getfield 44, 3) := by decide +kernel
theorem dX9_addRange_58 : decode cX9_addRange 58 = .ok (.iconst 1, 1) := by decide +kernel
theorem dX9_addRange_59 : decode cX9_addRange 59 = .ok (.iadd, 1) := by decide +kernel
theorem dX9_addRange_60 : decode cX9_addRange 60 = .ok (.putfield 44, 3) := by decide +kernel
theorem dX9_addRange_63 : decode cX9_addRange 63 = .ok (.iconst 1, 1) := by decide +kernel
theorem dX9_addRange_64 : decode cX9_addRange 64 = .ok (.ireturn, 1) := by decide +kernel
theorem dX9_putBreak_0 : decode cX9_putBreak 0 = .ok (.aload_n 0, 1) := by decide +kernel
theorem dX9_putBreak_1 : decode cX9_putBreak 1 = .ok (.iload_n 1, 1) := by decide +kernel
theorem dX9_putBreak_2 : decode cX9_putBreak 2 = .ok (.invokevirtual 104, 3) := by decide +kernel
theorem dX9_putBreak_5 : decode cX9_putBreak 5 = .ok (.astore 4, 2) := by decide +kernel
theorem dX9_putBreak_7 : decode cX9_putBreak 7 = .ok (.aload 4, 2) := by decide +kernel
theorem dX9_putBreak_9 : decode cX9_putBreak 9 = .ok (.ifnull 17, 3) := by decide +kernel
theorem dX9_putBreak_12 : decode cX9_putBreak 12 = .ok (.aload 4, 2) := by decide +kernel
theorem dX9_putBreak_14 : decode cX9_putBreak 14 = .ok (.iload_n 2, 1) := by decide +kernel
theorem dX9_putBreak_15 : decode cX9_putBreak 15 = .ok (.iload_n 3, 1) := by decide +kernel
theorem dX9_putBreak_16 : decode cX9_putBreak 16 = .ok (.invokevirtual 108, 3) := by decide +kernel
theorem dX9_putBreak_19 : decode cX9_putBreak 19 = .ok (.ifCond .eq 7, 3) := by decide +kernel
theorem dX9_putBreak_22 : decode cX9_putBreak 22 = .ok (.iconst 1, 1) := by decide +kernel
theorem dX9_putBreak_23 : decode cX9_putBreak 23 = .ok (.goto 4, 3) := by decide +kernel
theorem dX9_putBreak_26 : decode cX9_putBreak 26 = .ok (.iconst 0, 1) := by decide +kernel
theorem dX9_putBreak_27 : decode cX9_putBreak 27 = .ok (.ireturn, 1) := by decide +kernel
theorem dX9_setMinimum_0 : decode cX9_setMinimum 0 = .ok (.aload_n 0, 1) := by decide +kernel
theorem dX9_setMinimum_1 : decode cX9_setMinimum 1 = .ok (.iload_n 1, 1) := by decide +kernel
theorem dX9_setMinimum_2 : decode cX9_setMinimum 2 = .ok (.invokevirtual 104, 3) := by decide +kernel
theorem dX9_setMinimum_5 : decode cX9_setMinimum 5 = .ok (.astore_n 3, 1) := by decide +kernel
theorem dX9_setMinimum_6 : decode cX9_setMinimum 6 = .ok (.aload_n 3, 1) := by decide +kernel
theorem dX9_setMinimum_7 : decode cX9_setMinimum 7 = .ok (.ifnonnull 5, 3) := by decide +kernel
theorem dX9_setMinimum_10 : decode cX9_setMinimum 10 = .ok (.iconst 0, 1) := by decide +kernel
theorem dX9_setMinimum_11 : decode cX9_setMinimum 11 = .ok (.ireturn, 1) := by decide +kernel
theorem dX9_setMinimum_12 : decode cX9_setMinimum 12 = .ok (.aload_n 3, 1) := by decide +kernel
theorem dX9_setMinimum_13 : decode cX9_setMinimum 13 = .ok (.iload_n 2, 1) := by decide +kernel
theorem dX9_setMinimum_14 : decode cX9_setMinimum 14 = .ok (.putfield 110, 3) := by decide +kernel
theorem dX9_setMinimum_17 : decode cX9_setMinimum 17 = .ok (.iconst 1, 1) := by decide +kernel
theorem dX9_setMinimum_18 : decode cX9_setMinimum 18 = .ok (.ireturn, 1) := by decide +kernel
theorem dX9_putAccessorial_0 : decode cX9_putAccessorial 0 = .ok (.iload_n 1, 1) := by decide +kernel
theorem dX9_putAccessorial_1 : decode cX9_putAccessorial 1 = .ok (.iconst 0, 1) := by decide +kernel
theorem dX9_putAccessorial_2 : decode cX9_putAccessorial 2 = .ok (.bipush 9, 2) := by decide +kernel
theorem dX9_putAccessorial_4 : decode cX9_putAccessorial 4 = .ok (.invokestatic 61, 3) := by decide +kernel
theorem dX9_putAccessorial_7 : decode cX9_putAccessorial 7 = .ok (.ifCond .eq 14, 3) := by decide +kernel
theorem dX9_putAccessorial_10 : decode cX9_putAccessorial 10 = .ok (.aload_n 2, 1) := by decide +kernel
theorem dX9_putAccessorial_11 : decode cX9_putAccessorial 11 = .ok (.ifnull 10, 3) := by decide +kernel
theorem dX9_putAccessorial_14 : decode cX9_putAccessorial 14 = .ok (.aload_n 2, 1) := by decide +kernel
theorem dX9_putAccessorial_15 : decode cX9_putAccessorial 15 = .ok (.invokevirtual 113, 3) := by decide +kernel
theorem dX9_putAccessorial_18 : decode cX9_putAccessorial 18 = .ok (.ifCond .ne 5, 3) := by decide +kernel
theorem dX9_putAccessorial_21 : decode cX9_putAccessorial 21 = .ok (.iconst 0, 1) := by decide +kernel
theorem dX9_putAccessorial_22 : decode cX9_putAccessorial 22 = .ok (.ireturn, 1) := by decide +kernel
theorem dX9_putAccessorial_23 : decode cX9_putAccessorial 23 = .ok (.aload_n 0, 1) := by decide +kernel
theorem dX9_putAccessorial_24 : decode cX9_putAccessorial 24 = .ok (.getfield 26, 3) := by decide +kernel
theorem dX9_putAccessorial_27 : decode cX9_putAccessorial 27 = .ok (.iload_n 1, 1) := by decide +kernel
theorem dX9_putAccessorial_28 : decode cX9_putAccessorial 28 = .ok (.aload_n 2, 1) := by decide +kernel
theorem dX9_putAccessorial_29 : decode cX9_putAccessorial 29 = .ok (.aastore, 1) := by decide +kernel
theorem dX9_putAccessorial_30 : decode cX9_putAccessorial 30 = .ok (.iconst 1, 1) := by decide +kernel
theorem dX9_putAccessorial_31 : decode cX9_putAccessorial 31 = .ok (.ireturn, 1) := by decide +kernel
theorem dX9_removeAccessorial_0 : decode cX9_removeAccessorial 0 = .ok (.aload_n 0, 1) := by decide +kernel
theorem dX9_removeAccessorial_1 : decode cX9_removeAccessorial 1 = .ok (.iload_n 1, 1) := by decide +kernel
theorem dX9_removeAccessorial_2 : decode cX9_removeAccessorial 2 = .ok (.invokevirtual 117, 3) := by decide +kernel
theorem dX9_removeAccessorial_5 : decode cX9_removeAccessorial 5 = .ok (.ifnonnull 5, 3) := by decide +kernel
theorem dX9_removeAccessorial_8 : decode cX9_removeAccessorial 8 = .ok (.iconst 0, 1) := by decide +kernel
theorem dX9_removeAccessorial_9 : decode cX9_removeAccessorial 9 = .ok (.ireturn, 1) := by decide +kernel
theorem dX9_removeAccessorial_10 : decode cX9_removeAccessorial 10 = .ok (.aload_n 0, 1) := by decide +kernel
theorem dX9_removeAccessorial_11 : decode cX9_removeAccessorial 11 = .ok (.getfield 26, 3) := by decide +kernel
theorem dX9_removeAccessorial_14 : decode cX9_removeAccessorial 14 = .ok (.iload_n 1, 1) := by decide +kernel
theorem dX9_removeAccessorial_15 : decode cX9_removeAccessorial 15 = .ok (.aconst_null, 1) := by decide +kernel
theorem dX9_removeAccessorial_16 : decode cX9_removeAccessorial 16 = .ok (.aastore, 1) := by decide +kernel
theorem dX9_removeAccessorial_17 : decode cX9_removeAccessorial 17 = .ok (.iconst 1, 1) := by decide +kernel
theorem dX9_removeAccessorial_18 : decode cX9_removeAccessorial 18 = .ok (.ireturn, 1) := by decide +kernel
theorem dX10_init_0 : decode cX10_init 0 = .ok (.aload_n 0, 1) := by decide +kernel
theorem dX10_init_1 : decode cX10_init 1 = .ok (.invokespecial 1, 3) := by decide +kernel
theorem dX10_init_4 : decode cX10_init 4 = .ok (.aload_n 0, 1) := by decide +kernel
theorem dX10_init_5 : decode cX10_init 5 = .ok (.new 7, 3) := by decide +kernel
theorem dX10_init_8 : decode cX10_init 8 = .ok (.dup, 1) := by decide +kernel
theorem dX10_init_9 : decode cX10_init 9 = .ok (.invokespecial 9, 3) := by decide +kernel
theorem dX10_init_12 : decode cX10_init 12 = .ok (.putfield 10, 3) := by decide +kernel
theorem dX10_init_15 : decode cX10_init 15 = .ok (.aload_n 0, 1) := by decide +kernel
theorem dX10_init_16 : decode cX10_init 16 = .ok (.new 7, 3) := by decide +kernel
theorem dX10_init_19 : decode cX10_init 19 = .ok (.dup, 1) := by decide +kernel
theorem dX10_init_20 : decode cX10_init 20 = .ok (.invokespecial 9, 3) := by decide +kernel
theorem dX10_init_23 : decode cX10_init 23 = .ok (.putfield 16, 3) := by decide +kernel
theorem dX10_init_26 : decode cX10_init 26 = .ok (.aload_n 0, 1) := by decide +kernel
theorem dX10_init_27 : decode cX10_init 27 = .ok (.bipush 8, 2) := by decide +kernel
theorem dX10_init_29 : decode cX10_init 29 = .ok (.anewarray 7, 3) := by decide +kernel
theorem dX10_init_32 : decode cX10_init 32 = .ok (.putfield 19, 3) := by decide +kernel
theorem dX10_init_35 : decode cX10_init 35 = .ok (.aload_n 0, 1) := by decide +kernel
theorem dX10_init_36 : decode cX10_init 36 = .ok (.bipush 80, 2) := by decide +kernel
theorem dX10_init_38 : decode cX10_init 38 = .ok (.newarray .char, 2) := by decide +kernel
theorem dX10_init_40 : decode cX10_init 40 = .ok (.putfield 23, 3) := by decide +kernel
theorem dX10_init_43 : decode cX10_init 43 = .ok (.aload_n 0, 1) := by decide +kernel
theorem dX10_init_44 : decode cX10_init 44 = .ok (.new 27, 3) := by decide +kernel
theorem dX10_init_47 : decode cX10_init 47 = .ok (.dup, 1) := by decide +kernel
theorem dX10_init_48 : decode cX10_init 48 = .ok (.invokespecial 29, 3) := by decide +kernel
theorem dX10_init_51 : decode cX10_init 51 = .ok (.putfield 30, 3) := by decide +kernel
theorem dX10_init_54 : decode cX10_init 54 = .ok (.aload_n 0, 1) := by decide +kernel
theorem dX10_init_55 : decode cX10_init 55 = .ok (.iconst (-1), 1) := by decide +kernel
theorem dX10_init_56 : decode cX10_init 56 = .ok (.putfield 34, 3) := by decide +kernel
theorem dX10_init_59 : decode cX10_init 59 = .ok (.aload_n 0, 1) := by decide +kernel
theorem dX10_init_60 : decode cX10_init 60 = .ok (.new 38, 3) := by decide +kernel
theorem dX10_init_63 : decode cX10_init 63 = .ok (.dup, 1) := by decide +kernel
theorem dX10_init_64 : decode cX10_init 64 = .ok (.invokespecial 40, 3) := by decide +kernel
theorem dX10_init_67 : decode cX10_init 67 = .ok (.putfield 41, 3) := by decide +kernel
theorem dX10_init_70 : decode cX10_init 70 = .ok (.aload_n 0, 1) := by decide +kernel
theorem dX10_init_71 : decode cX10_init 71 = .ok (.new 45, 3) := by decide +kernel
theorem dX10_init_74 : decode cX10_init 74 = .ok (.dup, 1) := by decide +kernel
theorem dX10_init_75 : decode cX10_init 75 = .ok (.invokespecial 47, 3) := by decide +kernel
theorem dX10_init_78 : decode cX10_init 78 = .ok (.putfield 48, 3) := by decide +kernel
theorem dX10_init_81 : decode cX10_init 81 = .ok (.iconst 0, 1) := by decide +kernel
theorem dX10_init_82 : decode cX10_init 82 = .ok (.istore_n 1, 1) := by decide +kernel
theorem dX10_init_83 : decode cX10_init 83 = .ok (.iload_n 1, 1) := by decide +kernel
theorem dX10_init_84 : decode cX10_init 84 = .ok (.aload_n 0, 1) := by decide +kernel
theorem dX10_init_85 : decode cX10_init 85 = .ok (.getfield 19, 3) := by decide +kernel
theorem dX10_init_88 : decode cX10_init 88 = .ok (.arraylength, 1) := by decide +kernel
theorem dX10_init_89 : decode cX10_init 89 = .ok (.if_icmp .ge 22, 3) := by decide +kernel
theorem dX10_init_92 : decode cX10_init 92 = .ok (.aload_n 0, 1) := by decide +kernel
theorem dX10_init_93 : decode cX10_init 93 = .ok (.getfield 19, 3) := by decide +kernel
theorem dX10_init_96 : decode cX10_init 96 = .ok (.iload_n 1, 1) := by decide +kernel
theorem dX10_init_97 : decode cX10_init 97 = .ok (.new 7, 3) := by decide +kernel
theorem dX10_init_100 : decode cX10_init 100 = .ok (.dup, 1) := by decide +kernel
theorem dX10_init_101 : decode cX10_init 101 = .ok (.invokespecial 9, 3) := by decide +kernel
theorem dX10_init_104 : decode cX10_init 104 = .ok (.aastore, 1) := by decide +kernel
theorem dX10_init_105 : decode cX10_init 105 = .ok (.iinc 1 1, 3) := by decide +kernel
theorem dX10_init_108 : decode cX10_init 108 = .ok (.goto (-25), 3) := by decide +kernel
theorem dX10_init_111 : decode cX10_init 111 = .ok (.return_, 1) := by decide +kernel
theorem dX10_makeVersion_0 : decode cX10_makeVersion 0 = .ok (.iload_n 1, 1) := by decide +kernel
theorem dX10_makeVersion_1 : decode cX10_makeVersion 1 = .ok (.iconst 0, 1) := by decide +kernel
theorem dX10_makeVersion_2 : decode cX10_makeVersion 2 = .ok (.sipush 999, 3) := by decide +kernel
theorem dX10_makeVersion_5 : decode cX10_makeVersion 5 = .ok (.invokestatic 52, 3) := by decide +kernel
theorem dX10_makeVersion_8 : decode cX10_makeVersion 8 = .ok (.ifCond .eq 14, 3) := by decide +kernel
theorem dX10_makeVersion_11 : decode cX10_makeVersion 11 = .ok (.aload_n 0, 1) := by decide +kernel
theorem dX10_makeVersion_12 : decode cX10_makeVersion 12 = .ok (.getfield 10, 3) := by decide +kernel
theorem dX10_makeVersion_15 : decode cX10_makeVersion 15 = .ok (.iload_n 1, 1) := by decide +kernel
theorem dX10_makeVersion_16 : decode cX10_makeVersion 16 = .ok (.invokevirtual 56, 3) := by decide +kernel
theorem dX10_makeVersion_19 : decode cX10_makeVersion 19 = .ok (.ifCond .eq 11, 3) := by decide +kernel
theorem dX10_makeVersion_22 : decode cX10_makeVersion 22 = .ok (.new 60, 3) := by decide +kernel
theorem dX10_makeVersion_25 : decode cX10_makeVersion 25 = .ok (.dup, 1) := by decide +kernel
theorem dX10_makeVersion_26 : decode cX10_makeVersion 26 = .ok (.invokespecial 62, 3) := by decide +kernel
theorem dX10_makeVersion_29 : decode cX10_makeVersion 29 = .ok (.athrow, 1) := by decide +kernel
theorem dX10_makeVersion_30 : decode cX10_makeVersion 30 = .ok (.iload_n 2, 1) := by decide +kernel
theorem dX10_makeVersion_31 : decode cX10_makeVersion 31 = .ok (.iconst (-1), 1) := by decide +kernel
theorem dX10_makeVersion_32 : decode cX10_makeVersion 32 = .ok (.if_icmp .ne 13, 3) := by decide +kernel
theorem dX10_makeVersion_35 : decode cX10_makeVersion 35 = .ok (.new 63, 3) := by decide +kernel
theorem dX10_makeVersion_38 : decode cX10_makeVersion 38 = .ok (.dup, 1) := by decide +kernel
theorem dX10_makeVersion_39 : decode cX10_makeVersion 39 = .ok (.invokespecial 65, 3) := by decide +kernel
theorem dX10_makeVersion_42 : decode cX10_makeVersion 42 = .ok (.goto 11, 3) := by decide +kernel
theorem dX10_makeVersion_45 : decode cX10_makeVersion 45 = .ok (.aload_n 0, 1) := by decide +kernel
theorem dX10_makeVersion_46 : decode cX10_makeVersion 46 = .ok (.getfield 10, 3) := by decide +kernel
theorem dX10_makeVersion_49 : decode cX10_makeVersion 49 = .ok (.iload_n 2, 1) := by decide +kernel
theorem dX10_makeVersion_50 : decode cX10_makeVersion 50 = .ok (.invokevirtual 66, 3) := by decide +kernel
theorem dX10_makeVersion_53 : decode cX10_makeVersion 53 = .ok (.astore_n 3, 1) := by decide +kernel
theorem dX10_makeVersion_54 : decode cX10_makeVersion 54 = .ok (.aload_n 3, 1) := by decide +kernel
theorem dX10_makeVersion_55 : decode cX10_makeVersion 55 = .ok (.ifnonnull 11, 3) := by decide +kernel
theorem dX10_makeVersion_58 : decode cX10_makeVersion 58 = .ok (.new 70, 3) := by decide +kernel
theorem dX10_makeVersion_61 : decode cX10_makeVersion 61 = .ok (.dup, 1) := by decide +kernel
theorem dX10_makeVersion_62 : decode cX10_makeVersion 62 = .ok (.invokespecial 72, 3) := by decide +kernel
theorem dX10_makeVersion_65 : decode cX10_makeVersion 65 = .ok (.athrow, 1) := by decide +kernel
theorem dX10_makeVersion_66 : decode cX10_makeVersion 66 = .ok (.aload_n 0, 1) := by decide +kernel
theorem dX10_makeVersion_67 : decode cX10_makeVersion 67 = .ok (.getfield 10, 3) := by decide +kernel
theorem dX10_makeVersion_70 : decode cX10_makeVersion 70 = .ok (.getfield 73, 3) := by decide +kernel
theorem dX10_makeVersion_73 : decode cX10_makeVersion 73 = .ok (.bipush 6, 2) := by decide +kernel
theorem dX10_makeVersion_75 : decode cX10_makeVersion 75 = .ok (.if_icmp .lt 11, 3) := by decide +kernel
theorem dX10_makeVersion_78 : decode cX10_makeVersion 78 = .ok (.new 76, 3) := by decide +kernel
theorem dX10_makeVersion_81 : decode cX10_makeVersion 81 = .ok (.dup, 1) := by decide +kernel
theorem dX10_makeVersion_82 : decode cX10_makeVersion 82 = .ok (.invokespecial 78, 3) := by decide +kernel
theorem dX10_makeVersion_85 : decode cX10_makeVersion 85 = .ok (.athrow, 1) := by decide +kernel
theorem dX10_makeVersion_86 : decode cX10_makeVersion 86 = .ok (.aload_n 0, 1) := by decide +kernel
theorem dX10_makeVersion_87 : decode cX10_makeVersion 87 = .ok (.invokevirtual 79, 3) := by decide +kernel
theorem dX10_makeVersion_90 : decode cX10_makeVersion 90 = .ok (.new 63, 3) := by decide +kernel
theorem dX10_makeVersion_93 : decode cX10_makeVersion 93 = .ok (.dup, 1) := by decide +kernel
theorem dX10_makeVersion_94 : decode cX10_makeVersion 94 = .ok (.aload_n 3, 1) := by decide +kernel
theorem dX10_makeVersion_95 : decode cX10_makeVersion 95 = .ok (.invokespecial 82, 3) := by decide +kernel
theorem dX10_makeVersion_98 : decode cX10_makeVersion 98 = .ok (.astore 4, 2) := by decide +kernel
theorem dX10_makeVersion_100 : decode cX10_makeVersion 100 = .ok (.aload 4, 2) := by decide +kernel
theorem dX10_makeVersion_102 : decode cX10_makeVersion 102 = .ok (.iload_n 1, 1) := by decide +kernel
theorem dX10_makeVersion_103 : decode cX10_makeVersion 103 = .ok (.putfield 85, 3) := by decide +kernel
theorem dX10_makeVersion_106 : decode cX10_makeVersion 106 = .ok (.aload_n 0, 1) := by decide +kernel
theorem dX10_makeVersion_107 : decode cX10_makeVersion 107 = .ok (.getfield 10, 3) := by decide +kernel
theorem dX10_makeVersion_110 : decode cX10_makeVersion 110 = .ok (.aload 4, 2) := by decide +kernel
theorem dX10_makeVersion_112 : decode cX10_makeVersion 112 = .ok (.invokevirtual 88, 3) := by decide +kernel
theorem dX10_makeVersion_115 : decode cX10_makeVersion 115 = .ok (.ireturn, 1) := by decide +kernel
theorem dX10_feed_0 : decode cX10_feed 0 = .ok (.aload_n 0, 1) := by decide +kernel
theorem dX10_feed_1 : decode cX10_feed 1 = .ok (.getfield 92, 3) := by decide +kernel
theorem dX10_feed_4 : decode cX10_feed 4 = .ok (.bipush 80, 2) := by decide +kernel
theorem dX10_feed_6 : decode cX10_feed 6 = .ok (.if_icmp .lt 11, 3) := by decide +kernel
theorem dX10_feed_9 : decode cX10_feed 9 = .ok (.new 76, 3) := by decide +kernel
theorem dX10_feed_12 : decode cX10_feed 12 = .ok (.dup, 1) := by decide +kernel
theorem dX10_feed_13 : decode cX10_feed 13 = .ok (.invokespecial 78, 3) := by decide +kernel
theorem dX10_feed_16 : decode cX10_feed 16 = .ok (.athrow, 1) := by decide +kernel
theorem dX10_feed_17 : decode cX10_feed 17 = .ok (.aload_n 0, 1) := by decide +kernel
theorem dX10_feed_18 : decode cX10_feed 18 = .ok (.getfield 23, 3) := by decide +kernel
theorem dX10_feed_21 : decode cX10_feed 21 = .ok (.aload_n 0, 1) := by decide +kernel
theorem dX10_feed_22 : decode cX10_feed 22 = .ok (.getfield 92, 3) := by decide +kernel
theorem dX10_feed_25 : decode cX10_feed 25 = .ok (.iload_n 1, 1) := by decide +kernel
theorem dX10_feed_26 : decode cX10_feed 26 = .ok (.castore, 1) := by decide +kernel
theorem dX10_feed_27 : decode cX10_feed 27 = .ok (.aload_n 0, 1) := by decide +kernel
theorem dX10_feed_28 : decode cX10_feed 28 = .ok (.dup, 1) := by decide +kernel
theorem dX10_feed_29 : decode cX10_feed 29 = .ok (.getfield 92, 3) := by decide +kernel
theorem dX10_feed_32 : decode cX10_feed 32 = .ok (.iconst 1, 1) := by decide +kernel
theorem dX10_feed_33 : decode cX10_feed 33 = .ok (.iadd, 1) := by decide +kernel
theorem dX10_feed_34 : decode cX10_feed 34 = .ok (.putfield 92, 3) := by decide +kernel
theorem dX10_feed_37 : decode cX10_feed 37 = .ok (.aload_n 0, 1) := by decide +kernel
theorem dX10_feed_38 : decode cX10_feed 38 = .ok (.getfield 92, 3) := by decide +kernel
theorem dX10_feed_41 : decode cX10_feed 41 = .ok (.ireturn, 1) := by decide +kernel
theorem dX10_amend_0 : decode cX10_amend 0 = .ok (.aload_n 0, 1) := by decide +kernel
theorem dX10_amend_1 : decode cX10_amend 1 = .ok (.getfield 92, 3) := by decide +kernel
theorem dX10_amend_4 : decode cX10_amend 4 = .ok (.istore_n 2, 1) := by decide +kernel
theorem dX10_amend_5 : decode cX10_amend 5 = .ok (.aload_n 0, 1) := by decide +kernel
theorem dX10_amend_6 : decode cX10_amend 6 = .ok (.iconst 0, 1) := by decide +kernel
theorem dX10_amend_7 : decode cX10_amend 7 = .ok (.putfield 92, 3) := by decide +kernel
theorem dX10_amend_10 : decode cX10_amend 10 = .ok (.aload_n 0, 1) := by decide +kernel
theorem dX10_amend_11 : decode cX10_amend 11 = .ok (.getfield 10, 3) := by decide +kernel
theorem dX10_amend_14 : decode cX10_amend 14 = .ok (.iload_n 1, 1) := by decide +kernel
theorem dX10_amend_15 : decode cX10_amend 15 = .ok (.invokevirtual 66, 3) := by decide +kernel
theorem dX10_amend_18 : decode cX10_amend 18 = .ok (.astore_n 3, 1) := by decide +kernel
theorem dX10_amend_19 : decode cX10_amend 19 = .ok (.aload_n 3, 1) := by decide +kernel
theorem dX10_amend_20 : decode cX10_amend 20 = .ok (.ifnonnull 11, 3) := by decide +kernel
theorem dX10_amend_23 : decode cX10_amend 23 = .ok (.new 70, 3) := by decide +kernel
theorem dX10_amend_26 : decode cX10_amend 26 = .ok (.dup, 1) := by decide +kernel
theorem dX10_amend_27 : decode cX10_amend 27 = .ok (.invokespecial 72, 3) := by decide +kernel
theorem dX10_amend_30 : decode cX10_amend 30 = .ok (.athrow, 1) := by decide +kernel
theorem dX10_amend_31 : decode cX10_amend 31 = .ok (.new 95, 3) := by decide +kernel
theorem dX10_amend_34 : decode cX10_amend 34 = .ok (.dup, 1) := by decide +kernel
theorem dX10_amend_35 : decode cX10_amend 35 = .ok (.aload_n 0, 1) := by decide +kernel
theorem dX10_amend_36 : decode cX10_amend 36 = .ok (.getfield 23, 3) := by decide +kernel
theorem dX10_amend_39 : decode cX10_amend 39 = .ok (.iload_n 2, 1) := by decide +kernel
theorem dX10_amend_40 : decode cX10_amend 40 = .ok (.invokespecial 97, 3) := by decide +kernel
theorem dX10_amend_43 : decode cX10_amend 43 = .ok (.astore 4, 2) := by decide +kernel
theorem dX10_amend_45 : decode cX10_amend 45 = .ok (.aload 4, 2) := by decide +kernel
theorem dX10_amend_47 : decode cX10_amend 47 = .ok (.invokevirtual 100, 3) := by decide +kernel
theorem dX10_amend_50 : decode cX10_amend 50 = .ok (.astore 5, 2) := by decide +kernel
theorem dX10_amend_52 : decode cX10_amend 52 = .ok (.aload 4, 2) := by decide +kernel
theorem dX10_amend_54 : decode cX10_amend 54 = .ok (.invokevirtual 104, 3) := by decide +kernel
theorem dX10_amend_57 : decode cX10_amend 57 = .ok (.ifCond .eq 12, 3) := by decide +kernel
theorem dX10_amend_60 : decode cX10_amend 60 = .ok (.bipush (-100), 2) := by decide +kernel
theorem dX10_amend_62 : decode cX10_amend 62 = .ok (.aload 4, 2) := by decide +kernel
theorem dX10_amend_64 : decode cX10_amend 64 = .ok (.getfield 108, 3) := by decide +kernel
theorem dX10_amend_67 : decode cX10_amend 67 = .ok (.isub, 1) := by decide +kernel
theorem dX10_amend_68 : decode cX10_amend 68 = .ok (.ireturn, 1) := by decide +kernel
theorem dX10_amend_69 : decode cX10_amend 69 = .ok (.new 63, 3) := by decide +kernel
theorem dX10_amend_72 : decode cX10_amend 72 = .ok (.dup, 1) := by decide +kernel
theorem dX10_amend_73 : decode cX10_amend 73 = .ok (.aload_n 3, 1) := by decide +kernel
theorem dX10_amend_74 : decode cX10_amend 74 = .ok (.invokespecial 82, 3) := by decide +kernel
theorem dX10_amend_77 : decode cX10_amend 77 = .ok (.astore 6, 2) := by decide +kernel
theorem dX10_amend_79 : decode cX10_amend 79 = .ok (.iconst 0, 1) := by decide +kernel
theorem dX10_amend_80 : decode cX10_amend 80 = .ok (.istore 7, 2) := by decide +kernel
theorem dX10_amend_82 : decode cX10_amend 82 = .ok (.iload 7, 2) := by decide +kernel
theorem dX10_amend_84 : decode cX10_amend 84 = .ok (.aload 5, 2) := by decide +kernel
theorem dX10_amend_86 : decode cX10_amend 86 = .ok (.invokevirtual 111, 3) := by decide +kernel
theorem dX10_amend_89 : decode cX10_amend 89 = .ok (.if_icmp .ge 41, 3) := by decide +kernel
theorem dX10_amend_92 : decode cX10_amend 92 = .ok (.aload 6, 2) := by decide +kernel
theorem dX10_amend_94 : decode cX10_amend 94 = .ok (.aload 5, 2) := by decide +kernel
theorem dX10_amend_96 : decode cX10_amend 96 = .ok (.iload 7, 2) := by decide +kernel
theorem dX10_amend_98 : decode cX10_amend 98 = .ok (.invokevirtual 117, 3) := by decide +kernel
theorem dX10_amend_101 : decode cX10_amend 101 = .ok (.checkcast 121, 3) := by decide +kernel
theorem dX10_amend_104 : decode cX10_amend 104 = .ok (.invokevirtual 123, 3) := by decide +kernel
theorem dX10_amend_107 : decode cX10_amend 107 = .ok (.ifCond .ne 17, 3) := by decide +kernel
theorem dX10_amend_110 : decode cX10_amend 110 = .ok (.aload_n 0, 1) := by decide +kernel
theorem dX10_amend_111 : decode cX10_amend 111 = .ok (.iload 7, 2) := by decide +kernel
theorem dX10_amend_113 : decode cX10_amend 113 = .ok (.putfield 34, 3) := by decide +kernel
theorem dX10_amend_116 : decode cX10_amend 116 = .ok (.new 127, 3) := by decide +kernel
theorem dX10_amend_119 : decode cX10_amend 119 = .ok (.dup, 1) := by decide +kernel
theorem dX10_amend_120 : decode cX10_amend 120 = .ok (.invokespecial 129, 3) := by decide +kernel
theorem dX10_amend_123 : decode cX10_amend 123 = .ok (.athrow, 1) := by decide +kernel
theorem dX10_amend_124 : decode cX10_amend 124 = .ok (.iinc 7 1, 3) := by decide +kernel
theorem dX10_amend_127 : decode cX10_amend 127 = .ok (.goto (-45), 3) := by decide +kernel
theorem dX10_amend_130 : decode cX10_amend 130 = .ok (.aload_n 0, 1) := by decide +kernel
theorem dX10_amend_131 : decode cX10_amend 131 = .ok (.invokevirtual 79, 3) := by decide +kernel
theorem dX10_amend_134 : decode cX10_amend 134 = .ok (.aload_n 0, 1) := by decide +kernel
theorem dX10_amend_135 : decode cX10_amend 135 = .ok (.getfield 10, 3) := by decide +kernel
theorem dX10_amend_138 : decode cX10_amend 138 = .ok (.getfield 130, 3) := by decide +kernel
theorem dX10_amend_141 : decode cX10_amend 141 = .ok (.iload_n 1, 1) := by decide +kernel
theorem dX10_amend_142 : decode cX10_amend 142 = .ok (.aload 6, 2) := by decide +kernel
theorem dX10_amend_144 : decode cX10_amend 144 = .ok (.aastore, 1) := by decide +kernel
theorem dX10_amend_145 : decode cX10_amend 145 = .ok (.aload 5, 2) := by decide +kernel
theorem dX10_amend_147 : decode cX10_amend 147 = .ok (.invokevirtual 111, 3) := by decide +kernel
theorem dX10_amend_150 : decode cX10_amend 150 = .ok (.ireturn, 1) := by decide +kernel
theorem dX10_impossible_0 : decode cX10_impossible 0 = .ok (.aload_n 0, 1) := by decide +kernel
theorem dX10_impossible_1 : decode cX10_impossible 1 = .ok (.getfield 34, 3) := by decide +kernel
theorem dX10_impossible_4 : decode cX10_impossible 4 = .ok (.ifCond .ge 11, 3) := by decide +kernel
theorem dX10_impossible_7 : decode cX10_impossible 7 = .ok (.new 134, 3) := by decide +kernel
theorem dX10_impossible_10 : decode cX10_impossible 10 = .ok (.dup, 1) := by decide +kernel
theorem dX10_impossible_11 : decode cX10_impossible 11 = .ok (.invokespecial 136, 3) := by decide +kernel
theorem dX10_impossible_14 : decode cX10_impossible 14 = .ok (.athrow, 1) := by decide +kernel
theorem dX10_impossible_15 : decode cX10_impossible 15 = .ok (.aload_n 0, 1) := by decide +kernel
theorem dX10_impossible_16 : decode cX10_impossible 16 = .ok (.getfield 34, 3) := by decide +kernel
theorem dX10_impossible_19 : decode cX10_impossible 19 = .ok (.ireturn, 1) := by decide +kernel
theorem dX10_versionOn_0 : decode cX10_versionOn 0 = .ok (.iload_n 1, 1) := by decide +kernel
theorem dX10_versionOn_1 : decode cX10_versionOn 1 = .ok (.iconst 0, 1) := by decide +kernel
theorem dX10_versionOn_2 : decode cX10_versionOn 2 = .ok (.sipush 999, 3) := by decide +kernel
theorem dX10_versionOn_5 : decode cX10_versionOn 5 = .ok (.invokestatic 52, 3) := by decide +kernel
theorem dX10_versionOn_8 : decode cX10_versionOn 8 = .ok (.ifCond .ne 11, 3) := by decide +kernel
theorem dX10_versionOn_11 : decode cX10_versionOn 11 = .ok (.new 60, 3) := by decide +kernel
theorem dX10_versionOn_14 : decode cX10_versionOn 14 = .ok (.dup, 1) := by decide +kernel
theorem dX10_versionOn_15 : decode cX10_versionOn 15 = .ok (.invokespecial 62, 3) := by decide +kernel
theorem dX10_versionOn_18 : decode cX10_versionOn 18 = .ok (.athrow, 1) := by decide +kernel
theorem dX10_versionOn_19 : decode cX10_versionOn 19 = .ok (.aload_n 0, 1) := by decide +kernel
theorem dX10_versionOn_20 : decode cX10_versionOn 20 = .ok (.getfield 10, 3) := by decide +kernel
theorem dX10_versionOn_23 : decode cX10_versionOn 23 = .ok (.iload_n 1, 1) := by decide +kernel
theorem dX10_versionOn_24 : decode cX10_versionOn 24 = .ok (.invokevirtual 137, 3) := by decide +kernel
theorem dX10_versionOn_27 : decode cX10_versionOn 27 = .ok (.istore_n 2, 1) := by decide +kernel
theorem dX10_versionOn_28 : decode cX10_versionOn 28 = .ok (.iload_n 2, 1) := by decide +kernel
theorem dX10_versionOn_29 : decode cX10_versionOn 29 = .ok (.ifCond .ge 11, 3) := by decide +kernel
theorem dX10_versionOn_32 : decode cX10_versionOn 32 = .ok (.new 134, 3) := by decide +kernel
theorem dX10_versionOn_35 : decode cX10_versionOn 35 = .ok (.dup, 1) := by decide +kernel
theorem dX10_versionOn_36 : decode cX10_versionOn 36 = .ok (.invokespecial 136, 3) := by decide +kernel
theorem dX10_versionOn_39 : decode cX10_versionOn 39 = .ok (.athrow, 1) := by decide +kernel
theorem dX10_versionOn_40 : decode cX10_versionOn 40 = .ok (.iload_n 2, 1) := by decide +kernel
theorem dX10_versionOn_41 : decode cX10_versionOn 41 = .ok (.ireturn, 1) := by decide +kernel
theorem dX10_version_0 : decode cX10_version 0 = .ok (.aload_n 0, 1) := by decide +kernel
theorem dX10_version_1 : decode cX10_version 1 = .ok (.getfield 10, 3) := by decide +kernel
theorem dX10_version_4 : decode cX10_version 4 = .ok (.iload_n 1, 1) := by decide +kernel
theorem dX10_version_5 : decode cX10_version 5 = .ok (.invokevirtual 66, 3) := by decide +kernel
theorem dX10_version_8 : decode cX10_version 8 = .ok (.astore_n 3, 1) := by decide +kernel
theorem dX10_version_9 : decode cX10_version 9 = .ok (.aload_n 3, 1) := by decide +kernel
theorem dX10_version_10 : decode cX10_version 10 = .ok (.ifnonnull 11, 3) := by decide +kernel
theorem dX10_version_13 : decode cX10_version 13 = .ok (.new 70, 3) := by decide +kernel
theorem dX10_version_16 : decode cX10_version 16 = .ok (.dup, 1) := by decide +kernel
theorem dX10_version_17 : decode cX10_version 17 = .ok (.invokespecial 72, 3) := by decide +kernel
theorem dX10_version_20 : decode cX10_version 20 = .ok (.athrow, 1) := by decide +kernel
theorem dX10_version_21 : decode cX10_version 21 = .ok (.iload_n 2, 1) := by decide +kernel
theorem dX10_version_22 : decode cX10_version 22 = .ok (.tableswitch 86 0 7 #[46, 51, 56, 61, 66, 71, 76, 81], 46) := by decide +kernel
theorem dX10_version_68 : decode cX10_version 68 = .ok (.aload_n 3, 1) := by decide +kernel
theorem dX10_version_69 : decode cX10_version 69 = .ok (.getfield 85, 3) := by decide +kernel
theorem dX10_version_72 : decode cX10_version 72 = .ok (.ireturn, 1) := by decide +kernel
theorem dX10_version_73 : decode cX10_version 73 = .ok (.aload_n 3, 1) := by decide +kernel
theorem dX10_version_74 : decode cX10_version 74 = .ok (.getfield 141, 3) := by decide +kernel
theorem dX10_version_77 : decode cX10_version 77 = .ok (.ireturn, 1) := by decide +kernel
theorem dX10_version_78 : decode cX10_version 78 = .ok (.aload_n 3, 1) := by decide +kernel
theorem dX10_version_79 : decode cX10_version 79 = .ok (.getfield 144, 3) := by decide +kernel
theorem dX10_version_82 : decode cX10_version 82 = .ok (.ireturn, 1) := by decide +kernel
theorem dX10_version_83 : decode cX10_version 83 = .ok (.aload_n 3, 1) := by decide +kernel
theorem dX10_version_84 : decode cX10_version 84 = .ok (.getfield 147, 3) := by decide +kernel
theorem dX10_version_87 : decode cX10_version 87 = .ok (.ireturn, 1) := by decide +kernel
theorem dX10_version_88 : decode cX10_version 88 = .ok (.aload_n 3, 1) := by decide +kernel
theorem dX10_version_89 : decode cX10_version 89 = .ok (.getfield 150, 3) := by decide +kernel
theorem dX10_version_92 : decode cX10_version 92 = .ok (.ireturn, 1) := by decide +kernel
theorem dX10_version_93 : decode cX10_version 93 = .ok (.aload_n 3, 1) := by decide +kernel
theorem dX10_version_94 : decode cX10_version 94 = .ok (.getfield 153, 3) := by decide +kernel
theorem dX10_version_97 : decode cX10_version 97 = .ok (.ireturn, 1) := by decide +kernel
theorem dX10_version_98 : decode cX10_version 98 = .ok (.aload_n 3, 1) := by decide +kernel
theorem dX10_version_99 : decode cX10_version 99 = .ok (.invokevirtual 156, 3) := by decide +kernel
theorem dX10_version_102 : decode cX10_version 102 = .ok (.ireturn, 1) := by decide +kernel
theorem dX10_version_103 : decode cX10_version 103 = .ok (.aload_n 3, 1) := by decide +kernel
theorem dX10_version_104 : decode cX10_version 104 = .ok (.invokevirtual 159, 3) := by decide +kernel
theorem dX10_version_107 : decode cX10_version 107 = .ok (.ireturn, 1) := by decide +kernel
theorem dX10_version_108 : decode cX10_version 108 = .ok (.new 60, 3) := by decide +kernel
theorem dX10_version_111 : decode cX10_version 111 = .ok (.dup, 1) := by decide +kernel
theorem dX10_version_112 : decode cX10_version 112 = .ok (.invokespecial 62, 3) := by decide +kernel
theorem dX10_version_115 : decode cX10_version 115 = .ok (.athrow, 1) := by decide +kernel
theorem dX10_zoneOf_0 : decode cX10_zoneOf 0 = .ok (.aload_n 0, 1) := by decide +kernel
theorem dX10_zoneOf_1 : decode cX10_zoneOf 1 = .ok (.getfield 10, 3) := by decide +kernel
theorem dX10_zoneOf_4 : decode cX10_zoneOf 4 = .ok (.iload_n 1, 1) := by decide +kernel
theorem dX10_zoneOf_5 : decode cX10_zoneOf 5 = .ok (.invokevirtual 66, 3) := by decide +kernel
theorem dX10_zoneOf_8 : decode cX10_zoneOf 8 = .ok (.astore_n 3, 1) := by decide +kernel
theorem dX10_zoneOf_9 : decode cX10_zoneOf 9 = .ok (.aload_n 3, 1) := by decide +kernel
theorem dX10_zoneOf_10 : decode cX10_zoneOf 10 = .ok (.ifnull 14, 3) := by decide +kernel
theorem dX10_zoneOf_13 : decode cX10_zoneOf 13 = .ok (.iload_n 2, 1) := by decide +kernel
theorem dX10_zoneOf_14 : decode cX10_zoneOf 14 = .ok (.iconst 0, 1) := by decide +kernel
theorem dX10_zoneOf_15 : decode cX10_zoneOf 15 = .ok (.sipush 999, 3) := by decide +kernel
theorem dX10_zoneOf_18 : decode cX10_zoneOf 18 = .ok (.invokestatic 52, 3) := by decide +kernel
theorem dX10_zoneOf_21 : decode cX10_zoneOf 21 = .ok (.ifCond .ne 11, 3) := by decide +kernel
theorem dX10_zoneOf_24 : decode cX10_zoneOf 24 = .ok (.new 70, 3) := by decide +kernel
theorem dX10_zoneOf_27 : decode cX10_zoneOf 27 = .ok (.dup, 1) := by decide +kernel
theorem dX10_zoneOf_28 : decode cX10_zoneOf 28 = .ok (.invokespecial 72, 3) := by decide +kernel
theorem dX10_zoneOf_31 : decode cX10_zoneOf 31 = .ok (.athrow, 1) := by decide +kernel
theorem dX10_zoneOf_32 : decode cX10_zoneOf 32 = .ok (.aload_n 3, 1) := by decide +kernel
theorem dX10_zoneOf_33 : decode cX10_zoneOf 33 = .ok (.iload_n 2, 1) := by decide +kernel
theorem dX10_zoneOf_34 : decode cX10_zoneOf 34 = .ok (.invokevirtual 162, 3) := by decide +kernel
theorem dX10_zoneOf_37 : decode cX10_zoneOf 37 = .ok (.istore 4, 2) := by decide +kernel
theorem dX10_zoneOf_39 : decode cX10_zoneOf 39 = .ok (.iload 4, 2) := by decide +kernel
theorem dX10_zoneOf_41 : decode cX10_zoneOf 41 = .ok (.ifCond .ne 11, 3) := by decide +kernel
theorem dX10_zoneOf_44 : decode cX10_zoneOf 44 = .ok (.new 134, 3) := by decide +kernel
theorem dX10_zoneOf_47 : decode cX10_zoneOf 47 = .ok (.dup, 1) := by decide +kernel
theorem dX10_zoneOf_48 : decode cX10_zoneOf 48 = .ok (.invokespecial 136, 3) := by decide +kernel
theorem dX10_zoneOf_51 : decode cX10_zoneOf 51 = .ok (.athrow, 1) := by decide +kernel
theorem dX10_zoneOf_52 : decode cX10_zoneOf 52 = .ok (.iload 4, 2) := by decide +kernel
theorem dX10_zoneOf_54 : decode cX10_zoneOf 54 = .ok (.ireturn, 1) := by decide +kernel
theorem dX10_breakOf_0 : decode cX10_breakOf 0 = .ok (.aload_n 0, 1) := by decide +kernel
theorem dX10_breakOf_1 : decode cX10_breakOf 1 = .ok (.iload_n 1, 1) := by decide +kernel
theorem dX10_breakOf_2 : decode cX10_breakOf 2 = .ok (.iload_n 2, 1) := by decide +kernel
theorem dX10_breakOf_3 : decode cX10_breakOf 3 = .ok (.invokevirtual 165, 3) := by decide +kernel
theorem dX10_breakOf_6 : decode cX10_breakOf 6 = .ok (.astore 5, 2) := by decide +kernel
theorem dX10_breakOf_8 : decode cX10_breakOf 8 = .ok (.aload 5, 2) := by decide +kernel
theorem dX10_breakOf_10 : decode cX10_breakOf 10 = .ok (.ifnull 18, 3) := by decide +kernel
theorem dX10_breakOf_13 : decode cX10_breakOf 13 = .ok (.iload_n 3, 1) := by decide +kernel
theorem dX10_breakOf_14 : decode cX10_breakOf 14 = .ok (.iconst (-1), 1) := by decide +kernel
theorem dX10_breakOf_15 : decode cX10_breakOf 15 = .ok (.aload 5, 2) := by decide +kernel
theorem dX10_breakOf_17 : decode cX10_breakOf 17 = .ok (.getfield 169, 3) := by decide +kernel
theorem dX10_breakOf_20 : decode cX10_breakOf 20 = .ok (.iconst 1, 1) := by decide +kernel
theorem dX10_breakOf_21 : decode cX10_breakOf 21 = .ok (.isub, 1) := by decide +kernel
theorem dX10_breakOf_22 : decode cX10_breakOf 22 = .ok (.invokestatic 52, 3) := by decide +kernel
theorem dX10_breakOf_25 : decode cX10_breakOf 25 = .ok (.ifCond .ne 11, 3) := by decide +kernel
theorem dX10_breakOf_28 : decode cX10_breakOf 28 = .ok (.new 70, 3) := by decide +kernel
theorem dX10_breakOf_31 : decode cX10_breakOf 31 = .ok (.dup, 1) := by decide +kernel
theorem dX10_breakOf_32 : decode cX10_breakOf 32 = .ok (.invokespecial 72, 3) := by decide +kernel
theorem dX10_breakOf_35 : decode cX10_breakOf 35 = .ok (.athrow, 1) := by decide +kernel
theorem dX10_breakOf_36 : decode cX10_breakOf 36 = .ok (.iload_n 3, 1) := by decide +kernel
theorem dX10_breakOf_37 : decode cX10_breakOf 37 = .ok (.iconst (-1), 1) := by decide +kernel
theorem dX10_breakOf_38 : decode cX10_breakOf 38 = .ok (.if_icmp .ne 22, 3) := by decide +kernel
theorem dX10_breakOf_41 : decode cX10_breakOf 41 = .ok (.iload 4, 2) := by decide +kernel
theorem dX10_breakOf_43 : decode cX10_breakOf 43 = .ok (.ifCond .eq 11, 3) := by decide +kernel
theorem dX10_breakOf_46 : decode cX10_breakOf 46 = .ok (.aload 5, 2) := by decide +kernel
theorem dX10_breakOf_48 : decode cX10_breakOf 48 = .ok (.getfield 174, 3) := by decide +kernel
theorem dX10_breakOf_51 : decode cX10_breakOf 51 = .ok (.goto 8, 3) := by decide +kernel
theorem dX10_breakOf_54 : decode cX10_breakOf 54 = .ok (.aload 5, 2) := by decide +kernel
theorem dX10_breakOf_56 : decode cX10_breakOf 56 = .ok (.getfield 169, 3) := by decide +kernel
theorem dX10_breakOf_59 : decode cX10_breakOf 59 = .ok (.ireturn, 1) := by decide +kernel
theorem dX10_breakOf_60 : decode cX10_breakOf 60 = .ok (.iload 4, 2) := by decide +kernel
theorem dX10_breakOf_62 : decode cX10_breakOf 62 = .ok (.ifCond .eq 13, 3) := by decide +kernel
theorem dX10_breakOf_65 : decode cX10_breakOf 65 = .ok (.aload 5, 2) := by decide +kernel
theorem dX10_breakOf_67 : decode cX10_breakOf 67 = .ok (.getfield 177, 3) := by decide +kernel
theorem dX10_breakOf_70 : decode cX10_breakOf 70 = .ok (.iload_n 3, 1) := by decide +kernel
theorem dX10_breakOf_71 : decode cX10_breakOf 71 = .ok (.iaload, 1) := by decide +kernel
theorem dX10_breakOf_72 : decode cX10_breakOf 72 = .ok (.goto 10, 3) := by decide +kernel
theorem dX10_breakOf_75 : decode cX10_breakOf 75 = .ok (.aload 5, 2) := by decide +kernel
theorem dX10_breakOf_77 : decode cX10_breakOf 77 = .ok (.getfield 181, 3) := by decide +kernel
theorem dX10_breakOf_80 : decode cX10_breakOf 80 = .ok (.iload_n 3, 1) := by decide +kernel
theorem dX10_breakOf_81 : decode cX10_breakOf 81 = .ok (.iaload, 1) := by decide +kernel
theorem dX10_breakOf_82 : decode cX10_breakOf 82 = .ok (.ireturn, 1) := by decide +kernel
theorem dX10_accessorial_0 : decode cX10_accessorial 0 = .ok (.aload_n 0, 1) := by decide +kernel
theorem dX10_accessorial_1 : decode cX10_accessorial 1 = .ok (.iload_n 1, 1) := by decide +kernel
theorem dX10_accessorial_2 : decode cX10_accessorial 2 = .ok (.iload_n 2, 1) := by decide +kernel
theorem dX10_accessorial_3 : decode cX10_accessorial 3 = .ok (.invokevirtual 184, 3) := by decide +kernel
theorem dX10_accessorial_6 : decode cX10_accessorial 6 = .ok (.astore 4, 2) := by decide +kernel
theorem dX10_accessorial_8 : decode cX10_accessorial 8 = .ok (.iload_n 3, 1) := by decide +kernel
theorem dX10_accessorial_9 : decode cX10_accessorial 9 = .ok (.tableswitch 68 0 4 #[35, 41, 47, 53, 62], 35) := by decide +kernel
theorem dX10_accessorial_44 : decode cX10_accessorial 44 = .ok (.aload 4, 2) := by decide +kernel
theorem dX10_accessorial_46 : decode cX10_accessorial 46 = .ok (.getfield 188, 3) := by decide +kernel
theorem dX10_accessorial_49 : decode cX10_accessorial 49 = .ok (.ireturn, 1) := by decide +kernel
theorem dX10_accessorial_50 : decode cX10_accessorial 50 = .ok (.aload 4, 2) := by decide +kernel
theorem dX10_accessorial_52 : decode cX10_accessorial 52 = .ok (.getfield 193, 3) := by decide +kernel
theorem dX10_accessorial_55 : decode cX10_accessorial 55 = .ok (.ireturn, 1) := by decide +kernel
theorem dX10_accessorial_56 : decode cX10_accessorial 56 = .ok (.aload 4, 2) := by decide +kernel
theorem dX10_accessorial_58 : decode cX10_accessorial 58 = .ok (.getfield 196, 3) := by decide +kernel
theorem dX10_accessorial_61 : decode cX10_accessorial 61 = .ok (.ireturn, 1) := by decide +kernel
theorem dX10_accessorial_62 : decode cX10_accessorial 62 = .ok (.aload 4, 2) := by decide +kernel
theorem dX10_accessorial_64 : decode cX10_accessorial 64 = .ok (.getfield 199, 3) := by decide +kernel
theorem dX10_accessorial_67 : decode cX10_accessorial 67 = .ok (.invokevirtual 111, 3) := by decide +kernel
theorem dX10_accessorial_70 : decode cX10_accessorial 70 = .ok (.ireturn, 1) := by decide +kernel
theorem dX10_accessorial_71 : decode cX10_accessorial 71 = .ok (.aload 4, 2) := by decide +kernel
theorem dX10_accessorial_73 : decode cX10_accessorial 73 = .ok (.getfield 203, 3) := by decide +kernel
theorem dX10_accessorial_76 : decode cX10_accessorial 76 = .ok (.ireturn, 1) := by decide +kernel
theorem dX10_accessorial_77 : decode cX10_accessorial 77 = .ok (.new 60, 3) := by decide +kernel
theorem dX10_accessorial_80 : decode cX10_accessorial 80 = .ok (.dup, 1) := by decide +kernel
theorem dX10_accessorial_81 : decode cX10_accessorial 81 = .ok (.invokespecial 62, 3) := by decide +kernel
theorem dX10_accessorial_84 : decode cX10_accessorial 84 = .ok (.athrow, 1) := by decide +kernel
theorem dX10_base_0 : decode cX10_base 0 = .ok (.aload_n 0, 1) := by decide +kernel
theorem dX10_base_1 : decode cX10_base 1 = .ok (.iload_n 1, 1) := by decide +kernel
theorem dX10_base_2 : decode cX10_base 2 = .ok (.iload_n 2, 1) := by decide +kernel
theorem dX10_base_3 : decode cX10_base 3 = .ok (.invokevirtual 165, 3) := by decide +kernel
theorem dX10_base_6 : decode cX10_base 6 = .ok (.astore 4, 2) := by decide +kernel
theorem dX10_base_8 : decode cX10_base 8 = .ok (.aload 4, 2) := by decide +kernel
theorem dX10_base_10 : decode cX10_base 10 = .ok (.ifnonnull 11, 3) := by decide +kernel
theorem dX10_base_13 : decode cX10_base 13 = .ok (.new 70, 3) := by decide +kernel
theorem dX10_base_16 : decode cX10_base 16 = .ok (.dup, 1) := by decide +kernel
theorem dX10_base_17 : decode cX10_base 17 = .ok (.invokespecial 72, 3) := by decide +kernel
theorem dX10_base_20 : decode cX10_base 20 = .ok (.athrow, 1) := by decide +kernel
theorem dX10_base_21 : decode cX10_base 21 = .ok (.iload_n 3, 1) := by decide +kernel
theorem dX10_base_22 : decode cX10_base 22 = .ok (.iconst 0, 1) := by decide +kernel
theorem dX10_base_23 : decode cX10_base 23 = .ok (.ldc 206, 2) := by decide +kernel
theorem dX10_base_25 : decode cX10_base 25 = .ok (.invokestatic 52, 3) := by decide +kernel
theorem dX10_base_28 : decode cX10_base 28 = .ok (.ifCond .ne 11, 3) := by decide +kernel
theorem dX10_base_31 : decode cX10_base 31 = .ok (.new 60, 3) := by decide +kernel
theorem dX10_base_34 : decode cX10_base 34 = .ok (.dup, 1) := by decide +kernel
theorem dX10_base_35 : decode cX10_base 35 = .ok (.invokespecial 62, 3) := by decide +kernel
theorem dX10_base_38 : decode cX10_base 38 = .ok (.athrow, 1) := by decide +kernel
theorem dX10_base_39 : decode cX10_base 39 = .ok (.aload 4, 2) := by decide +kernel
theorem dX10_base_41 : decode cX10_base 41 = .ok (.iload_n 3, 1) := by decide +kernel
theorem dX10_base_42 : decode cX10_base 42 = .ok (.invokevirtual 207, 3) := by decide +kernel
theorem dX10_base_45 : decode cX10_base 45 = .ok (.istore 5, 2) := by decide +kernel
theorem dX10_base_47 : decode cX10_base 47 = .ok (.iload 5, 2) := by decide +kernel
theorem dX10_base_49 : decode cX10_base 49 = .ok (.ifCond .ge 11, 3) := by decide +kernel
theorem dX10_base_52 : decode cX10_base 52 = .ok (.new 134, 3) := by decide +kernel
theorem dX10_base_55 : decode cX10_base 55 = .ok (.dup, 1) := by decide +kernel
theorem dX10_base_56 : decode cX10_base 56 = .ok (.invokespecial 136, 3) := by decide +kernel
theorem dX10_base_59 : decode cX10_base 59 = .ok (.athrow, 1) := by decide +kernel
theorem dX10_base_60 : decode cX10_base 60 = .ok (.aload 4, 2) := by decide +kernel
theorem dX10_base_62 : decode cX10_base 62 = .ok (.iload 5, 2) := by decide +kernel
theorem dX10_base_64 : decode cX10_base 64 = .ok (.iload_n 3, 1) := by decide +kernel
theorem dX10_base_65 : decode cX10_base 65 = .ok (.invokevirtual 210, 3) := by decide +kernel
theorem dX10_base_68 : decode cX10_base 68 = .ok (.ireturn, 1) := by decide +kernel
theorem dX10_ship_0 : decode cX10_ship 0 = .ok (.iload_n 1, 1) := by decide +kernel
theorem dX10_ship_1 : decode cX10_ship 1 = .ok (.iload_n 2, 1) := by decide +kernel
theorem dX10_ship_2 : decode cX10_ship 2 = .ok (.invokestatic 214, 3) := by decide +kernel
theorem dX10_ship_5 : decode cX10_ship 5 = .ok (.ifCond .eq 24, 3) := by decide +kernel
theorem dX10_ship_8 : decode cX10_ship 8 = .ok (.iload_n 3, 1) := by decide +kernel
theorem dX10_ship_9 : decode cX10_ship 9 = .ok (.iconst 0, 1) := by decide +kernel
theorem dX10_ship_10 : decode cX10_ship 10 = .ok (.sipush 255, 3) := by decide +kernel
theorem dX10_ship_13 : decode cX10_ship 13 = .ok (.invokestatic 52, 3) := by decide +kernel
theorem dX10_ship_16 : decode cX10_ship 16 = .ok (.ifCond .eq 13, 3) := by decide +kernel
theorem dX10_ship_19 : decode cX10_ship 19 = .ok (.iload 4, 2) := by decide +kernel
theorem dX10_ship_21 : decode cX10_ship 21 = .ok (.iconst 0, 1) := by decide +kernel
theorem dX10_ship_22 : decode cX10_ship 22 = .ok (.iconst 3, 1) := by decide +kernel
theorem dX10_ship_23 : decode cX10_ship 23 = .ok (.invokestatic 52, 3) := by decide +kernel
theorem dX10_ship_26 : decode cX10_ship 26 = .ok (.ifCond .ne 11, 3) := by decide +kernel
theorem dX10_ship_29 : decode cX10_ship 29 = .ok (.new 60, 3) := by decide +kernel
theorem dX10_ship_32 : decode cX10_ship 32 = .ok (.dup, 1) := by decide +kernel
theorem dX10_ship_33 : decode cX10_ship 33 = .ok (.invokespecial 62, 3) := by decide +kernel
theorem dX10_ship_36 : decode cX10_ship 36 = .ok (.athrow, 1) := by decide +kernel
theorem dX10_ship_37 : decode cX10_ship 37 = .ok (.aload_n 0, 1) := by decide +kernel
theorem dX10_ship_38 : decode cX10_ship 38 = .ok (.getfield 10, 3) := by decide +kernel
theorem dX10_ship_41 : decode cX10_ship 41 = .ok (.getfield 218, 3) := by decide +kernel
theorem dX10_ship_44 : decode cX10_ship 44 = .ok (.bipush 10, 2) := by decide +kernel
theorem dX10_ship_46 : decode cX10_ship 46 = .ok (.if_icmp .lt 11, 3) := by decide +kernel
theorem dX10_ship_49 : decode cX10_ship 49 = .ok (.new 76, 3) := by decide +kernel
theorem dX10_ship_52 : decode cX10_ship 52 = .ok (.dup, 1) := by decide +kernel
theorem dX10_ship_53 : decode cX10_ship 53 = .ok (.invokespecial 78, 3) := by decide +kernel
theorem dX10_ship_56 : decode cX10_ship 56 = .ok (.athrow, 1) := by decide +kernel
theorem dX10_ship_57 : decode cX10_ship 57 = .ok (.aload_n 0, 1) := by decide +kernel
theorem dX10_ship_58 : decode cX10_ship 58 = .ok (.invokevirtual 79, 3) := by decide +kernel
theorem dX10_ship_61 : decode cX10_ship 61 = .ok (.aload_n 0, 1) := by decide +kernel
theorem dX10_ship_62 : decode cX10_ship 62 = .ok (.getfield 10, 3) := by decide +kernel
theorem dX10_ship_65 : decode cX10_ship 65 = .ok (.new 221, 3) := by decide +kernel
theorem dX10_ship_68 : decode cX10_ship 68 = .ok (.dup, 1) := by decide +kernel
theorem dX10_ship_69 : decode cX10_ship 69 = .ok (.iload_n 1, 1) := by decide +kernel
theorem dX10_ship_70 : decode cX10_ship 70 = .ok (.iload_n 2, 1) := by decide +kernel
theorem dX10_ship_71 : decode cX10_ship 71 = .ok (.iload_n 3, 1) := by decide +kernel
theorem dX10_ship_72 : decode cX10_ship 72 = .ok (.iload 4, 2) := by decide +kernel
theorem dX10_ship_74 : decode cX10_ship 74 = .ok (.invokespecial 223, 3) := by decide +kernel
theorem dX10_ship_77 : decode cX10_ship 77 = .ok (.invokevirtual 226, 3) := by decide +kernel
theorem dX10_ship_80 : decode cX10_ship 80 = .ok (.ireturn, 1) := by decide +kernel
theorem dX10_pack_0 : decode cX10_pack 0 = .ok (.aload_n 0, 1) := by decide +kernel
theorem dX10_pack_1 : decode cX10_pack 1 = .ok (.iload_n 1, 1) := by decide +kernel
theorem dX10_pack_2 : decode cX10_pack 2 = .ok (.invokevirtual 230, 3) := by decide +kernel
theorem dX10_pack_5 : decode cX10_pack 5 = .ok (.astore 6, 2) := by decide +kernel
theorem dX10_pack_7 : decode cX10_pack 7 = .ok (.iload_n 2, 1) := by decide +kernel
theorem dX10_pack_8 : decode cX10_pack 8 = .ok (.invokestatic 234, 3) := by decide +kernel
theorem dX10_pack_11 : decode cX10_pack 11 = .ok (.ifCond .eq 30, 3) := by decide +kernel
theorem dX10_pack_14 : decode cX10_pack 14 = .ok (.iload_n 3, 1) := by decide +kernel
theorem dX10_pack_15 : decode cX10_pack 15 = .ok (.invokestatic 234, 3) := by decide +kernel
theorem dX10_pack_18 : decode cX10_pack 18 = .ok (.ifCond .eq 23, 3) := by decide +kernel
theorem dX10_pack_21 : decode cX10_pack 21 = .ok (.iload 4, 2) := by decide +kernel
theorem dX10_pack_23 : decode cX10_pack 23 = .ok (.invokestatic 234, 3) := by decide +kernel
theorem dX10_pack_26 : decode cX10_pack 26 = .ok (.ifCond .eq 15, 3) := by decide +kernel
theorem dX10_pack_29 : decode cX10_pack 29 = .ok (.iload 5, 2) := by decide +kernel
theorem dX10_pack_31 : decode cX10_pack 31 = .ok (.iconst 1, 1) := by decide +kernel
theorem dX10_pack_32 : decode cX10_pack 32 = .ok (.sipush 999, 3) := by decide +kernel
theorem dX10_pack_35 : decode cX10_pack 35 = .ok (.invokestatic 52, 3) := by decide +kernel
theorem dX10_pack_38 : decode cX10_pack 38 = .ok (.ifCond .ne 11, 3) := by decide +kernel
theorem dX10_pack_41 : decode cX10_pack 41 = .ok (.new 60, 3) := by decide +kernel
theorem dX10_pack_44 : decode cX10_pack 44 = .ok (.dup, 1) := by decide +kernel
theorem dX10_pack_45 : decode cX10_pack 45 = .ok (.invokespecial 62, 3) := by decide +kernel
theorem dX10_pack_48 : decode cX10_pack 48 = .ok (.athrow, 1) := by decide +kernel
theorem dX10_pack_49 : decode cX10_pack 49 = .ok (.aload 6, 2) := by decide +kernel
theorem dX10_pack_51 : decode cX10_pack 51 = .ok (.invokevirtual 237, 3) := by decide +kernel
theorem dX10_pack_54 : decode cX10_pack 54 = .ok (.ifCond .ne 12, 3) := by decide +kernel
theorem dX10_pack_57 : decode cX10_pack 57 = .ok (.aload 6, 2) := by decide +kernel
theorem dX10_pack_59 : decode cX10_pack 59 = .ok (.getfield 240, 3) := by decide +kernel
theorem dX10_pack_62 : decode cX10_pack 62 = .ok (.iconst 5, 1) := by decide +kernel
theorem dX10_pack_63 : decode cX10_pack 63 = .ok (.if_icmp .lt 11, 3) := by decide +kernel
theorem dX10_pack_66 : decode cX10_pack 66 = .ok (.new 76, 3) := by decide +kernel
theorem dX10_pack_69 : decode cX10_pack 69 = .ok (.dup, 1) := by decide +kernel
theorem dX10_pack_70 : decode cX10_pack 70 = .ok (.invokespecial 78, 3) := by decide +kernel
theorem dX10_pack_73 : decode cX10_pack 73 = .ok (.athrow, 1) := by decide +kernel
theorem dX10_pack_74 : decode cX10_pack 74 = .ok (.aload_n 0, 1) := by decide +kernel
theorem dX10_pack_75 : decode cX10_pack 75 = .ok (.invokevirtual 79, 3) := by decide +kernel
theorem dX10_pack_78 : decode cX10_pack 78 = .ok (.new 221, 3) := by decide +kernel
theorem dX10_pack_81 : decode cX10_pack 81 = .ok (.dup, 1) := by decide +kernel
theorem dX10_pack_82 : decode cX10_pack 82 = .ok (.aload 6, 2) := by decide +kernel
theorem dX10_pack_84 : decode cX10_pack 84 = .ok (.invokespecial 243, 3) := by decide +kernel
theorem dX10_pack_87 : decode cX10_pack 87 = .ok (.astore 7, 2) := by decide +kernel
theorem dX10_pack_89 : decode cX10_pack 89 = .ok (.aload 7, 2) := by decide +kernel
theorem dX10_pack_91 : decode cX10_pack 91 = .ok (.iload_n 2, 1) := by decide +kernel
theorem dX10_pack_92 : decode cX10_pack 92 = .ok (.iload_n 3, 1) := by decide +kernel
theorem dX10_pack_93 : decode cX10_pack 93 = .ok (.iload 4, 2) := by decide +kernel
theorem dX10_pack_95 : decode cX10_pack 95 = .ok (.iload 5, 2) := by decide +kernel
theorem dX10_pack_97 : decode cX10_pack 97 = .ok (.invokevirtual 246, 3) := by decide +kernel
theorem dX10_pack_100 : decode cX10_pack 100 = .ok (.aload_n 0, 1) := by decide +kernel
theorem dX10_pack_101 : decode cX10_pack 101 = .ok (.getfield 10, 3) := by decide +kernel
theorem dX10_pack_104 : decode cX10_pack 104 = .ok (.getfield 249, 3) := by decide +kernel
theorem dX10_pack_107 : decode cX10_pack 107 = .ok (.iload_n 1, 1) := by decide +kernel
theorem dX10_pack_108 : decode cX10_pack 108 = .ok (.aload 7, 2) := by decide +kernel
theorem dX10_pack_110 : decode cX10_pack 110 = .ok (.aastore, 1) := by decide +kernel
theorem dX10_pack_111 : decode cX10_pack 111 = .ok (.aload 7, 2) := by decide +kernel
theorem dX10_pack_113 : decode cX10_pack 113 = .ok (.getfield 240, 3) := by decide +kernel
theorem dX10_pack_116 : decode cX10_pack 116 = .ok (.ireturn, 1) := by decide +kernel
theorem dX10_route_0 : decode cX10_route 0 = .ok (.aload_n 0, 1) := by decide +kernel
theorem dX10_route_1 : decode cX10_route 1 = .ok (.iload_n 1, 1) := by decide +kernel
theorem dX10_route_2 : decode cX10_route 2 = .ok (.invokevirtual 230, 3) := by decide +kernel
theorem dX10_route_5 : decode cX10_route 5 = .ok (.astore 4, 2) := by decide +kernel
theorem dX10_route_7 : decode cX10_route 7 = .ok (.iload_n 2, 1) := by decide +kernel
theorem dX10_route_8 : decode cX10_route 8 = .ok (.iload_n 3, 1) := by decide +kernel
theorem dX10_route_9 : decode cX10_route 9 = .ok (.invokestatic 214, 3) := by decide +kernel
theorem dX10_route_12 : decode cX10_route 12 = .ok (.ifCond .ne 11, 3) := by decide +kernel
theorem dX10_route_15 : decode cX10_route 15 = .ok (.new 60, 3) := by decide +kernel
theorem dX10_route_18 : decode cX10_route 18 = .ok (.dup, 1) := by decide +kernel
theorem dX10_route_19 : decode cX10_route 19 = .ok (.invokespecial 62, 3) := by decide +kernel
theorem dX10_route_22 : decode cX10_route 22 = .ok (.athrow, 1) := by decide +kernel
theorem dX10_route_23 : decode cX10_route 23 = .ok (.aload 4, 2) := by decide +kernel
theorem dX10_route_25 : decode cX10_route 25 = .ok (.invokevirtual 237, 3) := by decide +kernel
theorem dX10_route_28 : decode cX10_route 28 = .ok (.ifCond .eq 11, 3) := by decide +kernel
theorem dX10_route_31 : decode cX10_route 31 = .ok (.new 76, 3) := by decide +kernel
theorem dX10_route_34 : decode cX10_route 34 = .ok (.dup, 1) := by decide +kernel
theorem dX10_route_35 : decode cX10_route 35 = .ok (.invokespecial 78, 3) := by decide +kernel
theorem dX10_route_38 : decode cX10_route 38 = .ok (.athrow, 1) := by decide +kernel
theorem dX10_route_39 : decode cX10_route 39 = .ok (.aload_n 0, 1) := by decide +kernel
theorem dX10_route_40 : decode cX10_route 40 = .ok (.invokevirtual 79, 3) := by decide +kernel
theorem dX10_route_43 : decode cX10_route 43 = .ok (.new 221, 3) := by decide +kernel
theorem dX10_route_46 : decode cX10_route 46 = .ok (.dup, 1) := by decide +kernel
theorem dX10_route_47 : decode cX10_route 47 = .ok (.aload 4, 2) := by decide +kernel
theorem dX10_route_49 : decode cX10_route 49 = .ok (.invokespecial 243, 3) := by decide +kernel
theorem dX10_route_52 : decode cX10_route 52 = .ok (.astore 5, 2) := by decide +kernel
theorem dX10_route_54 : decode cX10_route 54 = .ok (.aload 5, 2) := by decide +kernel
theorem dX10_route_56 : decode cX10_route 56 = .ok (.iload_n 2, 1) := by decide +kernel
theorem dX10_route_57 : decode cX10_route 57 = .ok (.putfield 253, 3) := by decide +kernel
theorem dX10_route_60 : decode cX10_route 60 = .ok (.aload 5, 2) := by decide +kernel
theorem dX10_route_62 : decode cX10_route 62 = .ok (.iload_n 3, 1) := by decide +kernel
theorem dX10_route_63 : decode cX10_route 63 = .ok (.putfield 256, 3) := by decide +kernel
theorem dX10_route_66 : decode cX10_route 66 = .ok (.aload_n 0, 1) := by decide +kernel
theorem dX10_route_67 : decode cX10_route 67 = .ok (.getfield 10, 3) := by decide +kernel
theorem dX10_route_70 : decode cX10_route 70 = .ok (.getfield 249, 3) := by decide +kernel
theorem dX10_route_73 : decode cX10_route 73 = .ok (.iload_n 1, 1) := by decide +kernel
theorem dX10_route_74 : decode cX10_route 74 = .ok (.aload 5, 2) := by decide +kernel
theorem dX10_route_76 : decode cX10_route 76 = .ok (.aastore, 1) := by decide +kernel
theorem dX10_route_77 : decode cX10_route 77 = .ok (.aload 4, 2) := by decide +kernel
theorem dX10_route_79 : decode cX10_route 79 = .ok (.getfield 253, 3) := by decide +kernel
theorem dX10_route_82 : decode cX10_route 82 = .ok (.ireturn, 1) := by decide +kernel
theorem dX10_handle_0 : decode cX10_handle 0 = .ok (.aload_n 0, 1) := by decide +kernel
theorem dX10_handle_1 : decode cX10_handle 1 = .ok (.iload_n 1, 1) := by decide +kernel
theorem dX10_handle_2 : decode cX10_handle 2 = .ok (.invokevirtual 230, 3) := by decide +kernel
theorem dX10_handle_5 : decode cX10_handle 5 = .ok (.astore_n 3, 1) := by decide +kernel
theorem dX10_handle_6 : decode cX10_handle 6 = .ok (.iload_n 2, 1) := by decide +kernel
theorem dX10_handle_7 : decode cX10_handle 7 = .ok (.iconst 0, 1) := by decide +kernel
theorem dX10_handle_8 : decode cX10_handle 8 = .ok (.sipush 255, 3) := by decide +kernel
theorem dX10_handle_11 : decode cX10_handle 11 = .ok (.invokestatic 52, 3) := by decide +kernel
theorem dX10_handle_14 : decode cX10_handle 14 = .ok (.ifCond .ne 11, 3) := by decide +kernel
theorem dX10_handle_17 : decode cX10_handle 17 = .ok (.new 60, 3) := by decide +kernel
theorem dX10_handle_20 : decode cX10_handle 20 = .ok (.dup, 1) := by decide +kernel
theorem dX10_handle_21 : decode cX10_handle 21 = .ok (.invokespecial 62, 3) := by decide +kernel
theorem dX10_handle_24 : decode cX10_handle 24 = .ok (.athrow, 1) := by decide +kernel
theorem dX10_handle_25 : decode cX10_handle 25 = .ok (.aload_n 3, 1) := by decide +kernel
theorem dX10_handle_26 : decode cX10_handle 26 = .ok (.invokevirtual 237, 3) := by decide +kernel
theorem dX10_handle_29 : decode cX10_handle 29 = .ok (.ifCond .eq 11, 3) := by decide +kernel
theorem dX10_handle_32 : decode cX10_handle 32 = .ok (.new 76, 3) := by decide +kernel
theorem dX10_handle_35 : decode cX10_handle 35 = .ok (.dup, 1) := by decide +kernel
theorem dX10_handle_36 : decode cX10_handle 36 = .ok (.invokespecial 78, 3) := by decide +kernel
theorem dX10_handle_39 : decode cX10_handle 39 = .ok (.athrow, 1) := by decide +kernel
theorem dX10_handle_40 : decode cX10_handle 40 = .ok (.aload_n 0, 1) := by decide +kernel
theorem dX10_handle_41 : decode cX10_handle 41 = .ok (.invokevirtual 79, 3) := by decide +kernel
theorem dX10_handle_44 : decode cX10_handle 44 = .ok (.new 221, 3) := by decide +kernel
theorem dX10_handle_47 : decode cX10_handle 47 = .ok (.dup, 1) := by decide +kernel
theorem dX10_handle_48 : decode cX10_handle 48 = .ok (.aload_n 3, 1) := by decide +kernel
theorem dX10_handle_49 : decode cX10_handle 49 = .ok (.invokespecial 243, 3) := by decide +kernel
theorem dX10_handle_52 : decode cX10_handle 52 = .ok (.astore 4, 2) := by decide +kernel
theorem dX10_handle_54 : decode cX10_handle 54 = .ok (.aload 4, 2) := by decide +kernel
theorem dX10_handle_56 : decode cX10_handle 56 = .ok (.iload_n 2, 1) := by decide +kernel
theorem dX10_handle_57 : decode cX10_handle 57 = .ok (.putfield 259, 3) := by decide +kernel
theorem dX10_handle_60 : decode cX10_handle 60 = .ok (.aload_n 0, 1) := by decide +kernel
theorem dX10_handle_61 : decode cX10_handle 61 = .ok (.getfield 10, 3) := by decide +kernel
theorem dX10_handle_64 : decode cX10_handle 64 = .ok (.getfield 249, 3) := by decide +kernel
theorem dX10_handle_67 : decode cX10_handle 67 = .ok (.iload_n 1, 1) := by decide +kernel
theorem dX10_handle_68 : decode cX10_handle 68 = .ok (.aload 4, 2) := by decide +kernel
theorem dX10_handle_70 : decode cX10_handle 70 = .ok (.aastore, 1) := by decide +kernel
theorem dX10_handle_71 : decode cX10_handle 71 = .ok (.aload_n 3, 1) := by decide +kernel
theorem dX10_handle_72 : decode cX10_handle 72 = .ok (.getfield 259, 3) := by decide +kernel
theorem dX10_handle_75 : decode cX10_handle 75 = .ok (.ireturn, 1) := by decide +kernel
theorem dX10_shipment_0 : decode cX10_shipment 0 = .ok (.aload_n 0, 1) := by decide +kernel
theorem dX10_shipment_1 : decode cX10_shipment 1 = .ok (.iload_n 1, 1) := by decide +kernel
theorem dX10_shipment_2 : decode cX10_shipment 2 = .ok (.invokevirtual 230, 3) := by decide +kernel
theorem dX10_shipment_5 : decode cX10_shipment 5 = .ok (.astore_n 3, 1) := by decide +kernel
theorem dX10_shipment_6 : decode cX10_shipment 6 = .ok (.iload_n 2, 1) := by decide +kernel
theorem dX10_shipment_7 : decode cX10_shipment 7 = .ok (.tableswitch 94 0 8 #[49, 54, 59, 64, 69, 74, 79, 84, 89], 49) := by decide +kernel
theorem dX10_shipment_56 : decode cX10_shipment 56 = .ok (.aload_n 3, 1) := by decide +kernel
theorem dX10_shipment_57 : decode cX10_shipment 57 = .ok (.getfield 253, 3) := by decide +kernel
theorem dX10_shipment_60 : decode cX10_shipment 60 = .ok (.ireturn, 1) := by decide +kernel
theorem dX10_shipment_61 : decode cX10_shipment 61 = .ok (.aload_n 3, 1) := by decide +kernel
theorem dX10_shipment_62 : decode cX10_shipment 62 = .ok (.getfield 256, 3) := by decide +kernel
theorem dX10_shipment_65 : decode cX10_shipment 65 = .ok (.ireturn, 1) := by decide +kernel
theorem dX10_shipment_66 : decode cX10_shipment 66 = .ok (.aload_n 3, 1) := by decide +kernel
theorem dX10_shipment_67 : decode cX10_shipment 67 = .ok (.getfield 259, 3) := by decide +kernel
theorem dX10_shipment_70 : decode cX10_shipment 70 = .ok (.ireturn, 1) := by decide +kernel
theorem dX10_shipment_71 : decode cX10_shipment 71 = .ok (.aload_n 3, 1) := by decide +kernel
theorem dX10_shipment_72 : decode cX10_shipment 72 = .ok (.getfield 262, 3) := by decide +kernel
theorem dX10_shipment_75 : decode cX10_shipment 75 = .ok (.ireturn, 1) := by decide +kernel
theorem dX10_shipment_76 : decode cX10_shipment 76 = .ok (.aload_n 3, 1) := by decide +kernel
theorem dX10_shipment_77 : decode cX10_shipment 77 = .ok (.getfield 240, 3) := by decide +kernel
theorem dX10_shipment_80 : decode cX10_shipment 80 = .ok (.ireturn, 1) := by decide +kernel
theorem dX10_shipment_81 : decode cX10_shipment 81 = .ok (.aload_n 3, 1) := by decide +kernel
theorem dX10_shipment_82 : decode cX10_shipment 82 = .ok (.getfield 265, 3) := by decide +kernel
theorem dX10_shipment_85 : decode cX10_shipment 85 = .ok (.ireturn, 1) := by decide +kernel
theorem dX10_shipment_86 : decode cX10_shipment 86 = .ok (.aload_n 3, 1) := by decide +kernel
theorem dX10_shipment_87 : decode cX10_shipment 87 = .ok (.invokevirtual 268, 3) := by decide +kernel
theorem dX10_shipment_90 : decode cX10_shipment 90 = .ok (.ireturn, 1) := by decide +kernel
theorem dX10_shipment_91 : decode cX10_shipment 91 = .ok (.aload_n 3, 1) := by decide +kernel
theorem dX10_shipment_92 : decode cX10_shipment 92 = .ok (.getfield 271, 3) := by decide +kernel
theorem dX10_shipment_95 : decode cX10_shipment 95 = .ok (.ireturn, 1) := by decide +kernel
theorem dX10_shipment_96 : decode cX10_shipment 96 = .ok (.aload_n 3, 1) := by decide +kernel
theorem dX10_shipment_97 : decode cX10_shipment 97 = .ok (.getfield 274, 3) := by decide +kernel
theorem dX10_shipment_100 : decode cX10_shipment 100 = .ok (.ireturn, 1) := by decide +kernel
theorem dX10_shipment_101 : decode cX10_shipment 101 = .ok (.new 60, 3) := by decide +kernel
theorem dX10_shipment_104 : decode cX10_shipment 104 = .ok (.dup, 1) := by decide +kernel
theorem dX10_shipment_105 : decode cX10_shipment 105 = .ok (.invokespecial 62, 3) := by decide +kernel
theorem dX10_shipment_108 : decode cX10_shipment 108 = .ok (.athrow, 1) := by decide +kernel
theorem dX10_rate_0 : decode cX10_rate 0 = .ok (.aload_n 0, 1) := by decide +kernel
theorem dX10_rate_1 : decode cX10_rate 1 = .ok (.iload_n 1, 1) := by decide +kernel
theorem dX10_rate_2 : decode cX10_rate 2 = .ok (.invokevirtual 277, 3) := by decide +kernel
theorem dX10_rate_5 : decode cX10_rate 5 = .ok (.aload_n 0, 1) := by decide +kernel
theorem dX10_rate_6 : decode cX10_rate 6 = .ok (.getfield 41, 3) := by decide +kernel
theorem dX10_rate_9 : decode cX10_rate 9 = .ok (.aload_n 0, 1) := by decide +kernel
theorem dX10_rate_10 : decode cX10_rate 10 = .ok (.getfield 10, 3) := by decide +kernel
theorem dX10_rate_13 : decode cX10_rate 13 = .ok (.iload_n 1, 1) := by decide +kernel
theorem dX10_rate_14 : decode cX10_rate 14 = .ok (.invokevirtual 281, 3) := by decide +kernel
theorem dX10_rate_17 : decode cX10_rate 17 = .ok (.aload_n 0, 1) := by decide +kernel
theorem dX10_rate_18 : decode cX10_rate 18 = .ok (.getfield 41, 3) := by decide +kernel
theorem dX10_rate_21 : decode cX10_rate 21 = .ok (.getfield 285, 3) := by decide +kernel
theorem dX10_rate_24 : decode cX10_rate 24 = .ok (.ifCond .eq 15, 3) := by decide +kernel
theorem dX10_rate_27 : decode cX10_rate 27 = .ok (.aload_n 0, 1) := by decide +kernel
theorem dX10_rate_28 : decode cX10_rate 28 = .ok (.invokevirtual 288, 3) := by decide +kernel
theorem dX10_rate_31 : decode cX10_rate 31 = .ok (.new 76, 3) := by decide +kernel
theorem dX10_rate_34 : decode cX10_rate 34 = .ok (.dup, 1) := by decide +kernel
theorem dX10_rate_35 : decode cX10_rate 35 = .ok (.invokespecial 78, 3) := by decide +kernel
theorem dX10_rate_38 : decode cX10_rate 38 = .ok (.athrow, 1) := by decide +kernel
theorem dX10_rate_39 : decode cX10_rate 39 = .ok (.aload_n 0, 1) := by decide +kernel
theorem dX10_rate_40 : decode cX10_rate 40 = .ok (.getfield 41, 3) := by decide +kernel
theorem dX10_rate_43 : decode cX10_rate 43 = .ok (.invokevirtual 291, 3) := by decide +kernel
theorem dX10_rate_46 : decode cX10_rate 46 = .ok (.ireturn, 1) := by decide +kernel
theorem dX10_rating_0 : decode cX10_rating 0 = .ok (.aload_n 0, 1) := by decide +kernel
theorem dX10_rating_1 : decode cX10_rating 1 = .ok (.iload_n 1, 1) := by decide +kernel
theorem dX10_rating_2 : decode cX10_rating 2 = .ok (.invokevirtual 277, 3) := by decide +kernel
theorem dX10_rating_5 : decode cX10_rating 5 = .ok (.iload_n 2, 1) := by decide +kernel
theorem dX10_rating_6 : decode cX10_rating 6 = .ok (.iconst 0, 1) := by decide +kernel
theorem dX10_rating_7 : decode cX10_rating 7 = .ok (.bipush 9, 2) := by decide +kernel
theorem dX10_rating_9 : decode cX10_rating 9 = .ok (.invokestatic 52, 3) := by decide +kernel
theorem dX10_rating_12 : decode cX10_rating 12 = .ok (.ifCond .ne 11, 3) := by decide +kernel
theorem dX10_rating_15 : decode cX10_rating 15 = .ok (.new 60, 3) := by decide +kernel
theorem dX10_rating_18 : decode cX10_rating 18 = .ok (.dup, 1) := by decide +kernel
theorem dX10_rating_19 : decode cX10_rating 19 = .ok (.invokespecial 62, 3) := by decide +kernel
theorem dX10_rating_22 : decode cX10_rating 22 = .ok (.athrow, 1) := by decide +kernel
theorem dX10_rating_23 : decode cX10_rating 23 = .ok (.aload_n 0, 1) := by decide +kernel
theorem dX10_rating_24 : decode cX10_rating 24 = .ok (.iload_n 1, 1) := by decide +kernel
theorem dX10_rating_25 : decode cX10_rating 25 = .ok (.invokevirtual 294, 3) := by decide +kernel
theorem dX10_rating_28 : decode cX10_rating 28 = .ok (.iload_n 2, 1) := by decide +kernel
theorem dX10_rating_29 : decode cX10_rating 29 = .ok (.tableswitch 123 0 8 #[51, 59, 67, 75, 83, 91, 99, 107, 115], 51) := by decide +kernel
theorem dX10_rating_80 : decode cX10_rating 80 = .ok (.aload_n 0, 1) := by decide +kernel
theorem dX10_rating_81 : decode cX10_rating 81 = .ok (.getfield 41, 3) := by decide +kernel
theorem dX10_rating_84 : decode cX10_rating 84 = .ok (.getfield 297, 3) := by decide +kernel
theorem dX10_rating_87 : decode cX10_rating 87 = .ok (.ireturn, 1) := by decide +kernel
theorem dX10_rating_88 : decode cX10_rating 88 = .ok (.aload_n 0, 1) := by decide +kernel
theorem dX10_rating_89 : decode cX10_rating 89 = .ok (.getfield 41, 3) := by decide +kernel
theorem dX10_rating_92 : decode cX10_rating 92 = .ok (.getfield 300, 3) := by decide +kernel
theorem dX10_rating_95 : decode cX10_rating 95 = .ok (.ireturn, 1) := by decide +kernel
theorem dX10_rating_96 : decode cX10_rating 96 = .ok (.aload_n 0, 1) := by decide +kernel
theorem dX10_rating_97 : decode cX10_rating 97 = .ok (.getfield 41, 3) := by decide +kernel
theorem dX10_rating_100 : decode cX10_rating 100 = .ok (.getfield 303, 3) := by decide +kernel
theorem dX10_rating_103 : decode cX10_rating 103 = .ok (.ireturn, 1) := by decide +kernel
theorem dX10_rating_104 : decode cX10_rating 104 = .ok (.aload_n 0, 1) := by decide +kernel
theorem dX10_rating_105 : decode cX10_rating 105 = .ok (.getfield 41, 3) := by decide +kernel
theorem dX10_rating_108 : decode cX10_rating 108 = .ok (.getfield 306, 3) := by decide +kernel
theorem dX10_rating_111 : decode cX10_rating 111 = .ok (.ireturn, 1) := by decide +kernel
theorem dX10_rating_112 : decode cX10_rating 112 = .ok (.aload_n 0, 1) := by decide +kernel
theorem dX10_rating_113 : decode cX10_rating 113 = .ok (.getfield 41, 3) := by decide +kernel
theorem dX10_rating_116 : decode cX10_rating 116 = .ok (.getfield 307, 3) := by decide +kernel
theorem dX10_rating_119 : decode cX10_rating 119 = .ok (.ireturn, 1) := by decide +kernel
theorem dX10_rating_120 : decode cX10_rating 120 = .ok (.aload_n 0, 1) := by decide +kernel
theorem dX10_rating_121 : decode cX10_rating 121 = .ok (.getfield 41, 3) := by decide +kernel
theorem dX10_rating_124 : decode cX10_rating 124 = .ok (.getfield 310, 3) := by decide +kernel
theorem dX10_rating_127 : decode cX10_rating 127 = .ok (.ireturn, 1) := by decide +kernel
theorem dX10_rating_128 : decode cX10_rating 128 = .ok (.aload_n 0, 1) := by decide +kernel
theorem dX10_rating_129 : decode cX10_rating 129 = .ok (.getfield 41, 3) := by decide +kernel
theorem dX10_rating_132 : decode cX10_rating 132 = .ok (.getfield 313, 3) := by decide +kernel
theorem dX10_rating_135 : decode cX10_rating 135 = .ok (.ireturn, 1) := by decide +kernel
theorem dX10_rating_136 : decode cX10_rating 136 = .ok (.aload_n 0, 1) := by decide +kernel
theorem dX10_rating_137 : decode cX10_rating 137 = .ok (.getfield 41, 3) := by decide +kernel
theorem dX10_rating_140 : decode cX10_rating 140 = .ok (.getfield 316, 3) := by decide +kernel
theorem dX10_rating_143 : decode cX10_rating 143 = .ok (.ireturn, 1) := by decide +kernel
theorem dX10_rating_144 : decode cX10_rating 144 = .ok (.aload_n 0, 1) := by decide +kernel
theorem dX10_rating_145 : decode cX10_rating 145 = .ok (.getfield 41, 3) := by decide +kernel
theorem dX10_rating_148 : decode cX10_rating 148 = .ok (.getfield 319, 3) := by decide +kernel
theorem dX10_rating_151 : decode cX10_rating 151 = .ok (.ireturn, 1) := by decide +kernel
theorem dX10_rating_152 : decode cX10_rating 152 = .ok (.aload_n 0, 1) := by decide +kernel
theorem dX10_rating_153 : decode cX10_rating 153 = .ok (.getfield 41, 3) := by decide +kernel
theorem dX10_rating_156 : decode cX10_rating 156 = .ok (.getfield 322, 3) := by decide +kernel
theorem dX10_rating_159 : decode cX10_rating 159 = .ok (.ireturn, 1) := by decide +kernel
theorem dX10_refuses_0 : decode cX10_refuses 0 = .ok (.aload_n 0, 1) := by decide +kernel
theorem dX10_refuses_1 : decode cX10_refuses 1 = .ok (.iload_n 1, 1) := by decide +kernel
theorem dX10_refuses_2 : decode cX10_refuses 2 = .ok (.invokevirtual 277, 3) := by decide +kernel
theorem dX10_refuses_5 : decode cX10_refuses 5 = .ok (.aload_n 0, 1) := by decide +kernel
theorem dX10_refuses_6 : decode cX10_refuses 6 = .ok (.getfield 41, 3) := by decide +kernel
theorem dX10_refuses_9 : decode cX10_refuses 9 = .ok (.aload_n 0, 1) := by decide +kernel
theorem dX10_refuses_10 : decode cX10_refuses 10 = .ok (.getfield 10, 3) := by decide +kernel
theorem dX10_refuses_13 : decode cX10_refuses 13 = .ok (.iload_n 1, 1) := by decide +kernel
theorem dX10_refuses_14 : decode cX10_refuses 14 = .ok (.invokevirtual 281, 3) := by decide +kernel
theorem dX10_refuses_17 : decode cX10_refuses 17 = .ok (.aload_n 0, 1) := by decide +kernel
theorem dX10_refuses_18 : decode cX10_refuses 18 = .ok (.getfield 41, 3) := by decide +kernel
theorem dX10_refuses_21 : decode cX10_refuses 21 = .ok (.getfield 285, 3) := by decide +kernel
theorem dX10_refuses_24 : decode cX10_refuses 24 = .ok (.ireturn, 1) := by decide +kernel
theorem dX10_refusal_0 : decode cX10_refusal 0 = .ok (.aload_n 0, 1) := by decide +kernel
theorem dX10_refusal_1 : decode cX10_refusal 1 = .ok (.getfield 325, 3) := by decide +kernel
theorem dX10_refusal_4 : decode cX10_refusal 4 = .ok (.ifCond .ne 11, 3) := by decide +kernel
theorem dX10_refusal_7 : decode cX10_refusal 7 = .ok (.new 134, 3) := by decide +kernel
theorem dX10_refusal_10 : decode cX10_refusal 10 = .ok (.dup, 1) := by decide +kernel
theorem dX10_refusal_11 : decode cX10_refusal 11 = .ok (.invokespecial 136, 3) := by decide +kernel
theorem dX10_refusal_14 : decode cX10_refusal 14 = .ok (.athrow, 1) := by decide +kernel
theorem dX10_refusal_15 : decode cX10_refusal 15 = .ok (.iload_n 1, 1) := by decide +kernel
theorem dX10_refusal_16 : decode cX10_refusal 16 = .ok (.ifCond .eq 10, 3) := by decide +kernel
theorem dX10_refusal_19 : decode cX10_refusal 19 = .ok (.aload_n 0, 1) := by decide +kernel
theorem dX10_refusal_20 : decode cX10_refusal 20 = .ok (.getfield 328, 3) := by decide +kernel
theorem dX10_refusal_23 : decode cX10_refusal 23 = .ok (.goto 7, 3) := by decide +kernel
theorem dX10_refusal_26 : decode cX10_refusal 26 = .ok (.aload_n 0, 1) := by decide +kernel
theorem dX10_refusal_27 : decode cX10_refusal 27 = .ok (.getfield 325, 3) := by decide +kernel
theorem dX10_refusal_30 : decode cX10_refusal 30 = .ok (.ireturn, 1) := by decide +kernel
theorem dX10_meanPrice_0 : decode cX10_meanPrice 0 = .ok (.aload_n 0, 1) := by decide +kernel
theorem dX10_meanPrice_1 : decode cX10_meanPrice 1 = .ok (.iload_n 1, 1) := by decide +kernel
theorem dX10_meanPrice_2 : decode cX10_meanPrice 2 = .ok (.invokevirtual 277, 3) := by decide +kernel
theorem dX10_meanPrice_5 : decode cX10_meanPrice 5 = .ok (.aload_n 0, 1) := by decide +kernel
theorem dX10_meanPrice_6 : decode cX10_meanPrice 6 = .ok (.iload_n 1, 1) := by decide +kernel
theorem dX10_meanPrice_7 : decode cX10_meanPrice 7 = .ok (.invokevirtual 294, 3) := by decide +kernel
theorem dX10_meanPrice_10 : decode cX10_meanPrice 10 = .ok (.aload_n 0, 1) := by decide +kernel
theorem dX10_meanPrice_11 : decode cX10_meanPrice 11 = .ok (.getfield 41, 3) := by decide +kernel
theorem dX10_meanPrice_14 : decode cX10_meanPrice 14 = .ok (.getfield 307, 3) := by decide +kernel
theorem dX10_meanPrice_17 : decode cX10_meanPrice 17 = .ok (.iconst 1, 1) := by decide +kernel
theorem dX10_meanPrice_18 : decode cX10_meanPrice 18 = .ok (.if_icmp .ge 5, 3) := by decide +kernel
theorem dX10_meanPrice_21 : decode cX10_meanPrice 21 = .ok (.dconst 0, 1) := by decide +kernel
theorem dX10_meanPrice_22 : decode cX10_meanPrice 22 = .ok (.dreturn, 1) := by decide +kernel
theorem dX10_meanPrice_23 : decode cX10_meanPrice 23 = .ok (.aload_n 0, 1) := by decide +kernel
theorem dX10_meanPrice_24 : decode cX10_meanPrice 24 = .ok (.getfield 41, 3) := by decide +kernel
theorem dX10_meanPrice_27 : decode cX10_meanPrice 27 = .ok (.invokevirtual 291, 3) := by decide +kernel
theorem dX10_meanPrice_30 : decode cX10_meanPrice 30 = .ok (.i2d, 1) := by decide +kernel
theorem dX10_meanPrice_31 : decode cX10_meanPrice 31 = .ok (.aload_n 0, 1) := by decide +kernel
theorem dX10_meanPrice_32 : decode cX10_meanPrice 32 = .ok (.getfield 41, 3) := by decide +kernel
theorem dX10_meanPrice_35 : decode cX10_meanPrice 35 = .ok (.getfield 307, 3) := by decide +kernel
theorem dX10_meanPrice_38 : decode cX10_meanPrice 38 = .ok (.i2d, 1) := by decide +kernel
theorem dX10_meanPrice_39 : decode cX10_meanPrice 39 = .ok (.ddiv, 1) := by decide +kernel
theorem dX10_meanPrice_40 : decode cX10_meanPrice 40 = .ok (.dreturn, 1) := by decide +kernel
theorem dX10_consolidate_0 : decode cX10_consolidate 0 = .ok (.aload_n 0, 1) := by decide +kernel
theorem dX10_consolidate_1 : decode cX10_consolidate 1 = .ok (.iload_n 1, 1) := by decide +kernel
theorem dX10_consolidate_2 : decode cX10_consolidate 2 = .ok (.invokevirtual 331, 3) := by decide +kernel
theorem dX10_consolidate_5 : decode cX10_consolidate 5 = .ok (.aload_n 0, 1) := by decide +kernel
theorem dX10_consolidate_6 : decode cX10_consolidate 6 = .ok (.iload_n 1, 1) := by decide +kernel
theorem dX10_consolidate_7 : decode cX10_consolidate 7 = .ok (.iconst 1, 1) := by decide +kernel
theorem dX10_consolidate_8 : decode cX10_consolidate 8 = .ok (.invokevirtual 334, 3) := by decide +kernel
theorem dX10_consolidate_11 : decode cX10_consolidate 11 = .ok (.aload_n 0, 1) := by decide +kernel
theorem dX10_consolidate_12 : decode cX10_consolidate 12 = .ok (.getfield 48, 3) := by decide +kernel
theorem dX10_consolidate_15 : decode cX10_consolidate 15 = .ok (.aload_n 0, 1) := by decide +kernel
theorem dX10_consolidate_16 : decode cX10_consolidate 16 = .ok (.getfield 10, 3) := by decide +kernel
theorem dX10_consolidate_19 : decode cX10_consolidate 19 = .ok (.iload_n 1, 1) := by decide +kernel
theorem dX10_consolidate_20 : decode cX10_consolidate 20 = .ok (.aload_n 0, 1) := by decide +kernel
theorem dX10_consolidate_21 : decode cX10_consolidate 21 = .ok (.getfield 41, 3) := by decide +kernel
theorem dX10_consolidate_24 : decode cX10_consolidate 24 = .ok (.invokevirtual 338, 3) := by decide +kernel
theorem dX10_consolidate_27 : decode cX10_consolidate 27 = .ok (.aload_n 0, 1) := by decide +kernel
theorem dX10_consolidate_28 : decode cX10_consolidate 28 = .ok (.getfield 48, 3) := by decide +kernel
theorem dX10_consolidate_31 : decode cX10_consolidate 31 = .ok (.invokevirtual 342, 3) := by decide +kernel
theorem dX10_consolidate_34 : decode cX10_consolidate 34 = .ok (.aload_n 0, 1) := by decide +kernel
theorem dX10_consolidate_35 : decode cX10_consolidate 35 = .ok (.getfield 48, 3) := by decide +kernel
theorem dX10_consolidate_38 : decode cX10_consolidate 38 = .ok (.invokevirtual 345, 3) := by decide +kernel
theorem dX10_consolidate_41 : decode cX10_consolidate 41 = .ok (.ireturn, 1) := by decide +kernel
theorem dX10_group_0 : decode cX10_group 0 = .ok (.aload_n 0, 1) := by decide +kernel
theorem dX10_group_1 : decode cX10_group 1 = .ok (.iload_n 1, 1) := by decide +kernel
theorem dX10_group_2 : decode cX10_group 2 = .ok (.invokevirtual 331, 3) := by decide +kernel
theorem dX10_group_5 : decode cX10_group 5 = .ok (.aload_n 0, 1) := by decide +kernel
theorem dX10_group_6 : decode cX10_group 6 = .ok (.iload_n 1, 1) := by decide +kernel
theorem dX10_group_7 : decode cX10_group 7 = .ok (.iconst 0, 1) := by decide +kernel
theorem dX10_group_8 : decode cX10_group 8 = .ok (.invokevirtual 334, 3) := by decide +kernel
theorem dX10_group_11 : decode cX10_group 11 = .ok (.aload_n 0, 1) := by decide +kernel
theorem dX10_group_12 : decode cX10_group 12 = .ok (.getfield 48, 3) := by decide +kernel
theorem dX10_group_15 : decode cX10_group 15 = .ok (.aload_n 0, 1) := by decide +kernel
theorem dX10_group_16 : decode cX10_group 16 = .ok (.getfield 10, 3) := by decide +kernel
theorem dX10_group_19 : decode cX10_group 19 = .ok (.iload_n 1, 1) := by decide +kernel
theorem dX10_group_20 : decode cX10_group 20 = .ok (.aload_n 0, 1) := by decide +kernel
theorem dX10_group_21 : decode cX10_group 21 = .ok (.getfield 41, 3) := by decide +kernel
theorem dX10_group_24 : decode cX10_group 24 = .ok (.invokevirtual 338, 3) := by decide +kernel
theorem dX10_group_27 : decode cX10_group 27 = .ok (.aload_n 0, 1) := by decide +kernel
theorem dX10_group_28 : decode cX10_group 28 = .ok (.getfield 48, 3) := by decide +kernel
theorem dX10_group_31 : decode cX10_group 31 = .ok (.invokevirtual 342, 3) := by decide +kernel
theorem dX10_group_34 : decode cX10_group 34 = .ok (.iload_n 2, 1) := by decide +kernel
theorem dX10_group_35 : decode cX10_group 35 = .ok (.iconst (-1), 1) := by decide +kernel
theorem dX10_group_36 : decode cX10_group 36 = .ok (.aload_n 0, 1) := by decide +kernel
theorem dX10_group_37 : decode cX10_group 37 = .ok (.getfield 48, 3) := by decide +kernel
theorem dX10_group_40 : decode cX10_group 40 = .ok (.getfield 346, 3) := by decide +kernel
theorem dX10_group_43 : decode cX10_group 43 = .ok (.iconst 1, 1) := by decide +kernel
theorem dX10_group_44 : decode cX10_group 44 = .ok (.isub, 1) := by decide +kernel
theorem dX10_group_45 : decode cX10_group 45 = .ok (.invokestatic 52, 3) := by decide +kernel
theorem dX10_group_48 : decode cX10_group 48 = .ok (.ifCond .ne 11, 3) := by decide +kernel
theorem dX10_group_51 : decode cX10_group 51 = .ok (.new 134, 3) := by decide +kernel
theorem dX10_group_54 : decode cX10_group 54 = .ok (.dup, 1) := by decide +kernel
theorem dX10_group_55 : decode cX10_group 55 = .ok (.invokespecial 136, 3) := by decide +kernel
theorem dX10_group_58 : decode cX10_group 58 = .ok (.athrow, 1) := by decide +kernel
theorem dX10_group_59 : decode cX10_group 59 = .ok (.iload_n 2, 1) := by decide +kernel
theorem dX10_group_60 : decode cX10_group 60 = .ok (.iconst (-1), 1) := by decide +kernel
theorem dX10_group_61 : decode cX10_group 61 = .ok (.if_icmp .ne 13, 3) := by decide +kernel
theorem dX10_group_64 : decode cX10_group 64 = .ok (.aload_n 0, 1) := by decide +kernel
theorem dX10_group_65 : decode cX10_group 65 = .ok (.getfield 48, 3) := by decide +kernel
theorem dX10_group_68 : decode cX10_group 68 = .ok (.getfield 346, 3) := by decide +kernel
theorem dX10_group_71 : decode cX10_group 71 = .ok (.goto 20, 3) := by decide +kernel
theorem dX10_group_74 : decode cX10_group 74 = .ok (.aload_n 0, 1) := by decide +kernel
theorem dX10_group_75 : decode cX10_group 75 = .ok (.getfield 48, 3) := by decide +kernel
theorem dX10_group_78 : decode cX10_group 78 = .ok (.getfield 349, 3) := by decide +kernel
theorem dX10_group_81 : decode cX10_group 81 = .ok (.aload_n 0, 1) := by decide +kernel
theorem dX10_group_82 : decode cX10_group 82 = .ok (.getfield 48, 3) := by decide +kernel
theorem dX10_group_85 : decode cX10_group 85 = .ok (.getfield 352, 3) := by decide +kernel
theorem dX10_group_88 : decode cX10_group 88 = .ok (.iload_n 2, 1) := by decide +kernel
theorem dX10_group_89 : decode cX10_group 89 = .ok (.iaload, 1) := by decide +kernel
theorem dX10_group_90 : decode cX10_group 90 = .ok (.iaload, 1) := by decide +kernel
theorem dX10_group_91 : decode cX10_group 91 = .ok (.ireturn, 1) := by decide +kernel
theorem dX10_searched_0 : decode cX10_searched 0 = .ok (.aload_n 0, 1) := by decide +kernel
theorem dX10_searched_1 : decode cX10_searched 1 = .ok (.iload_n 1, 1) := by decide +kernel
theorem dX10_searched_2 : decode cX10_searched 2 = .ok (.invokevirtual 331, 3) := by decide +kernel
theorem dX10_searched_5 : decode cX10_searched 5 = .ok (.iload_n 1, 1) := by decide +kernel
theorem dX10_searched_6 : decode cX10_searched 6 = .ok (.invokestatic 355, 3) := by decide +kernel
theorem dX10_searched_9 : decode cX10_searched 9 = .ok (.bipush 6, 2) := by decide +kernel
theorem dX10_searched_11 : decode cX10_searched 11 = .ok (.if_icmp .le 11, 3) := by decide +kernel
theorem dX10_searched_14 : decode cX10_searched 14 = .ok (.new 60, 3) := by decide +kernel
theorem dX10_searched_17 : decode cX10_searched 17 = .ok (.dup, 1) := by decide +kernel
theorem dX10_searched_18 : decode cX10_searched 18 = .ok (.invokespecial 62, 3) := by decide +kernel
theorem dX10_searched_21 : decode cX10_searched 21 = .ok (.athrow, 1) := by decide +kernel
theorem dX10_searched_22 : decode cX10_searched 22 = .ok (.aload_n 0, 1) := by decide +kernel
theorem dX10_searched_23 : decode cX10_searched 23 = .ok (.iload_n 1, 1) := by decide +kernel
theorem dX10_searched_24 : decode cX10_searched 24 = .ok (.iconst 0, 1) := by decide +kernel
theorem dX10_searched_25 : decode cX10_searched 25 = .ok (.invokevirtual 334, 3) := by decide +kernel
theorem dX10_searched_28 : decode cX10_searched 28 = .ok (.aload_n 0, 1) := by decide +kernel
theorem dX10_searched_29 : decode cX10_searched 29 = .ok (.getfield 48, 3) := by decide +kernel
theorem dX10_searched_32 : decode cX10_searched 32 = .ok (.aload_n 0, 1) := by decide +kernel
theorem dX10_searched_33 : decode cX10_searched 33 = .ok (.getfield 10, 3) := by decide +kernel
theorem dX10_searched_36 : decode cX10_searched 36 = .ok (.iload_n 1, 1) := by decide +kernel
theorem dX10_searched_37 : decode cX10_searched 37 = .ok (.aload_n 0, 1) := by decide +kernel
theorem dX10_searched_38 : decode cX10_searched 38 = .ok (.getfield 41, 3) := by decide +kernel
theorem dX10_searched_41 : decode cX10_searched 41 = .ok (.invokevirtual 338, 3) := by decide +kernel
theorem dX10_searched_44 : decode cX10_searched 44 = .ok (.aload_n 0, 1) := by decide +kernel
theorem dX10_searched_45 : decode cX10_searched 45 = .ok (.getfield 48, 3) := by decide +kernel
theorem dX10_searched_48 : decode cX10_searched 48 = .ok (.invokevirtual 360, 3) := by decide +kernel
theorem dX10_searched_51 : decode cX10_searched 51 = .ok (.ireturn, 1) := by decide +kernel
theorem dX10_merged_0 : decode cX10_merged 0 = .ok (.aload_n 0, 1) := by decide +kernel
theorem dX10_merged_1 : decode cX10_merged 1 = .ok (.iload_n 1, 1) := by decide +kernel
theorem dX10_merged_2 : decode cX10_merged 2 = .ok (.invokevirtual 331, 3) := by decide +kernel
theorem dX10_merged_5 : decode cX10_merged 5 = .ok (.iload_n 2, 1) := by decide +kernel
theorem dX10_merged_6 : decode cX10_merged 6 = .ok (.iconst 0, 1) := by decide +kernel
theorem dX10_merged_7 : decode cX10_merged 7 = .ok (.iconst 2, 1) := by decide +kernel
theorem dX10_merged_8 : decode cX10_merged 8 = .ok (.invokestatic 52, 3) := by decide +kernel
theorem dX10_merged_11 : decode cX10_merged 11 = .ok (.ifCond .ne 11, 3) := by decide +kernel
theorem dX10_merged_14 : decode cX10_merged 14 = .ok (.new 60, 3) := by decide +kernel
theorem dX10_merged_17 : decode cX10_merged 17 = .ok (.dup, 1) := by decide +kernel
theorem dX10_merged_18 : decode cX10_merged 18 = .ok (.invokespecial 62, 3) := by decide +kernel
theorem dX10_merged_21 : decode cX10_merged 21 = .ok (.athrow, 1) := by decide +kernel
theorem dX10_merged_22 : decode cX10_merged 22 = .ok (.aload_n 0, 1) := by decide +kernel
theorem dX10_merged_23 : decode cX10_merged 23 = .ok (.iload_n 1, 1) := by decide +kernel
theorem dX10_merged_24 : decode cX10_merged 24 = .ok (.iconst 0, 1) := by decide +kernel
theorem dX10_merged_25 : decode cX10_merged 25 = .ok (.invokevirtual 334, 3) := by decide +kernel
theorem dX10_merged_28 : decode cX10_merged 28 = .ok (.aload_n 0, 1) := by decide +kernel
theorem dX10_merged_29 : decode cX10_merged 29 = .ok (.getfield 48, 3) := by decide +kernel
theorem dX10_merged_32 : decode cX10_merged 32 = .ok (.aload_n 0, 1) := by decide +kernel
theorem dX10_merged_33 : decode cX10_merged 33 = .ok (.getfield 10, 3) := by decide +kernel
theorem dX10_merged_36 : decode cX10_merged 36 = .ok (.iload_n 1, 1) := by decide +kernel
theorem dX10_merged_37 : decode cX10_merged 37 = .ok (.aload_n 0, 1) := by decide +kernel
theorem dX10_merged_38 : decode cX10_merged 38 = .ok (.getfield 41, 3) := by decide +kernel
theorem dX10_merged_41 : decode cX10_merged 41 = .ok (.invokevirtual 338, 3) := by decide +kernel
theorem dX10_merged_44 : decode cX10_merged 44 = .ok (.aload_n 0, 1) := by decide +kernel
theorem dX10_merged_45 : decode cX10_merged 45 = .ok (.getfield 48, 3) := by decide +kernel
theorem dX10_merged_48 : decode cX10_merged 48 = .ok (.invokevirtual 363, 3) := by decide +kernel
theorem dX10_merged_51 : decode cX10_merged 51 = .ok (.iload_n 2, 1) := by decide +kernel
theorem dX10_merged_52 : decode cX10_merged 52 = .ok (.lookupswitch 44 #[(0, 28), (1, 36)], 28) := by decide +kernel
theorem dX10_merged_80 : decode cX10_merged 80 = .ok (.aload_n 0, 1) := by decide +kernel
theorem dX10_merged_81 : decode cX10_merged 81 = .ok (.getfield 48, 3) := by decide +kernel
theorem dX10_merged_84 : decode cX10_merged 84 = .ok (.invokevirtual 345, 3) := by decide +kernel
theorem dX10_merged_87 : decode cX10_merged 87 = .ok (.ireturn, 1) := by decide +kernel
theorem dX10_merged_88 : decode cX10_merged 88 = .ok (.aload_n 0, 1) := by decide +kernel
theorem dX10_merged_89 : decode cX10_merged 89 = .ok (.getfield 48, 3) := by decide +kernel
theorem dX10_merged_92 : decode cX10_merged 92 = .ok (.getfield 346, 3) := by decide +kernel
theorem dX10_merged_95 : decode cX10_merged 95 = .ok (.ireturn, 1) := by decide +kernel
theorem dX10_merged_96 : decode cX10_merged 96 = .ok (.aload_n 0, 1) := by decide +kernel
theorem dX10_merged_97 : decode cX10_merged 97 = .ok (.getfield 48, 3) := by decide +kernel
theorem dX10_merged_100 : decode cX10_merged 100 = .ok (.invokevirtual 366, 3) := by decide +kernel
theorem dX10_merged_103 : decode cX10_merged 103 = .ok (.ireturn, 1) := by decide +kernel
theorem dX10_post_0 : decode cX10_post 0 = .ok (.aload_n 0, 1) := by decide +kernel
theorem dX10_post_1 : decode cX10_post 1 = .ok (.iload_n 1, 1) := by decide +kernel
theorem dX10_post_2 : decode cX10_post 2 = .ok (.invokevirtual 331, 3) := by decide +kernel
theorem dX10_post_5 : decode cX10_post 5 = .ok (.iload_n 1, 1) := by decide +kernel
theorem dX10_post_6 : decode cX10_post 6 = .ok (.aload_n 0, 1) := by decide +kernel
theorem dX10_post_7 : decode cX10_post 7 = .ok (.getfield 10, 3) := by decide +kernel
theorem dX10_post_10 : decode cX10_post 10 = .ok (.invokevirtual 369, 3) := by decide +kernel
theorem dX10_post_13 : decode cX10_post 13 = .ok (.iand, 1) := by decide +kernel
theorem dX10_post_14 : decode cX10_post 14 = .ok (.ifCond .eq 11, 3) := by decide +kernel
theorem dX10_post_17 : decode cX10_post 17 = .ok (.new 127, 3) := by decide +kernel
theorem dX10_post_20 : decode cX10_post 20 = .ok (.dup, 1) := by decide +kernel
theorem dX10_post_21 : decode cX10_post 21 = .ok (.invokespecial 129, 3) := by decide +kernel
theorem dX10_post_24 : decode cX10_post 24 = .ok (.athrow, 1) := by decide +kernel
theorem dX10_post_25 : decode cX10_post 25 = .ok (.aload_n 0, 1) := by decide +kernel
theorem dX10_post_26 : decode cX10_post 26 = .ok (.iload_n 1, 1) := by decide +kernel
theorem dX10_post_27 : decode cX10_post 27 = .ok (.iconst 1, 1) := by decide +kernel
theorem dX10_post_28 : decode cX10_post 28 = .ok (.invokevirtual 334, 3) := by decide +kernel
theorem dX10_post_31 : decode cX10_post 31 = .ok (.aload_n 0, 1) := by decide +kernel
theorem dX10_post_32 : decode cX10_post 32 = .ok (.getfield 48, 3) := by decide +kernel
theorem dX10_post_35 : decode cX10_post 35 = .ok (.aload_n 0, 1) := by decide +kernel
theorem dX10_post_36 : decode cX10_post 36 = .ok (.getfield 10, 3) := by decide +kernel
theorem dX10_post_39 : decode cX10_post 39 = .ok (.iload_n 1, 1) := by decide +kernel
theorem dX10_post_40 : decode cX10_post 40 = .ok (.aload_n 0, 1) := by decide +kernel
theorem dX10_post_41 : decode cX10_post 41 = .ok (.getfield 41, 3) := by decide +kernel
theorem dX10_post_44 : decode cX10_post 44 = .ok (.invokevirtual 338, 3) := by decide +kernel
theorem dX10_post_47 : decode cX10_post 47 = .ok (.aload_n 0, 1) := by decide +kernel
theorem dX10_post_48 : decode cX10_post 48 = .ok (.getfield 48, 3) := by decide +kernel
theorem dX10_post_51 : decode cX10_post 51 = .ok (.invokevirtual 342, 3) := by decide +kernel
theorem dX10_post_54 : decode cX10_post 54 = .ok (.aload_n 0, 1) := by decide +kernel
theorem dX10_post_55 : decode cX10_post 55 = .ok (.invokevirtual 79, 3) := by decide +kernel
theorem dX10_post_58 : decode cX10_post 58 = .ok (.iconst 0, 1) := by decide +kernel
theorem dX10_post_59 : decode cX10_post 59 = .ok (.istore_n 2, 1) := by decide +kernel
theorem dX10_post_60 : decode cX10_post 60 = .ok (.iload_n 2, 1) := by decide +kernel
theorem dX10_post_61 : decode cX10_post 61 = .ok (.aload_n 0, 1) := by decide +kernel
theorem dX10_post_62 : decode cX10_post 62 = .ok (.getfield 48, 3) := by decide +kernel
theorem dX10_post_65 : decode cX10_post 65 = .ok (.getfield 346, 3) := by decide +kernel
theorem dX10_post_68 : decode cX10_post 68 = .ok (.if_icmp .ge 41, 3) := by decide +kernel
theorem dX10_post_71 : decode cX10_post 71 = .ok (.aload_n 0, 1) := by decide +kernel
theorem dX10_post_72 : decode cX10_post 72 = .ok (.getfield 48, 3) := by decide +kernel
theorem dX10_post_75 : decode cX10_post 75 = .ok (.getfield 352, 3) := by decide +kernel
theorem dX10_post_78 : decode cX10_post 78 = .ok (.iload_n 2, 1) := by decide +kernel
theorem dX10_post_79 : decode cX10_post 79 = .ok (.iaload, 1) := by decide +kernel
theorem dX10_post_80 : decode cX10_post 80 = .ok (.istore_n 3, 1) := by decide +kernel
theorem dX10_post_81 : decode cX10_post 81 = .ok (.aload_n 0, 1) := by decide +kernel
theorem dX10_post_82 : decode cX10_post 82 = .ok (.aload_n 0, 1) := by decide +kernel
theorem dX10_post_83 : decode cX10_post 83 = .ok (.getfield 48, 3) := by decide +kernel
theorem dX10_post_86 : decode cX10_post 86 = .ok (.getfield 349, 3) := by decide +kernel
theorem dX10_post_89 : decode cX10_post 89 = .ok (.iload_n 3, 1) := by decide +kernel
theorem dX10_post_90 : decode cX10_post 90 = .ok (.iaload, 1) := by decide +kernel
theorem dX10_post_91 : decode cX10_post 91 = .ok (.aload_n 0, 1) := by decide +kernel
theorem dX10_post_92 : decode cX10_post 92 = .ok (.getfield 48, 3) := by decide +kernel
theorem dX10_post_95 : decode cX10_post 95 = .ok (.getfield 372, 3) := by decide +kernel
theorem dX10_post_98 : decode cX10_post 98 = .ok (.iload_n 3, 1) := by decide +kernel
theorem dX10_post_99 : decode cX10_post 99 = .ok (.iaload, 1) := by decide +kernel
theorem dX10_post_100 : decode cX10_post 100 = .ok (.invokevirtual 375, 3) := by decide +kernel
theorem dX10_post_103 : decode cX10_post 103 = .ok (.iinc 2 1, 3) := by decide +kernel
theorem dX10_post_106 : decode cX10_post 106 = .ok (.goto (-46), 3) := by decide +kernel
theorem dX10_post_109 : decode cX10_post 109 = .ok (.aload_n 0, 1) := by decide +kernel
theorem dX10_post_110 : decode cX10_post 110 = .ok (.getfield 10, 3) := by decide +kernel
theorem dX10_post_113 : decode cX10_post 113 = .ok (.dup, 1) := by decide +kernel
theorem dX10_post_114 : decode cX10_post 114 = .ok (.getfield 379, 3) := by decide +kernel
theorem dX10_post_117 : decode cX10_post 117 = .ok (.aload_n 0, 1) := by decide +kernel
theorem dX10_post_118 : decode cX10_post 118 = .ok (.getfield 48, 3) := by decide +kernel
theorem dX10_post_121 : decode cX10_post 121 = .ok (.getfield 346, 3) := by decide +kernel
theorem dX10_post_124 : decode cX10_post 124 = .ok (.iadd, 1) := by decide +kernel
theorem dX10_post_125 : decode cX10_post 125 = .ok (.putfield 379, 3) := by decide +kernel
theorem dX10_post_128 : decode cX10_post 128 = .ok (.aload_n 0, 1) := by decide +kernel
theorem dX10_post_129 : decode cX10_post 129 = .ok (.getfield 48, 3) := by decide +kernel
theorem dX10_post_132 : decode cX10_post 132 = .ok (.invokevirtual 345, 3) := by decide +kernel
theorem dX10_post_135 : decode cX10_post 135 = .ok (.ireturn, 1) := by decide +kernel
theorem dX10_account_0 : decode cX10_account 0 = .ok (.iload_n 1, 1) := by decide +kernel
theorem dX10_account_1 : decode cX10_account 1 = .ok (.iconst 0, 1) := by decide +kernel
theorem dX10_account_2 : decode cX10_account 2 = .ok (.bipush 6, 2) := by decide +kernel
theorem dX10_account_4 : decode cX10_account 4 = .ok (.invokestatic 52, 3) := by decide +kernel
theorem dX10_account_7 : decode cX10_account 7 = .ok (.ifCond .ne 11, 3) := by decide +kernel
theorem dX10_account_10 : decode cX10_account 10 = .ok (.new 60, 3) := by decide +kernel
theorem dX10_account_13 : decode cX10_account 13 = .ok (.dup, 1) := by decide +kernel
theorem dX10_account_14 : decode cX10_account 14 = .ok (.invokespecial 62, 3) := by decide +kernel
theorem dX10_account_17 : decode cX10_account 17 = .ok (.athrow, 1) := by decide +kernel
theorem dX10_account_18 : decode cX10_account 18 = .ok (.iload_n 1, 1) := by decide +kernel
theorem dX10_account_19 : decode cX10_account 19 = .ok (.tableswitch 49 4 6 #[25, 33, 41], 25) := by decide +kernel
theorem dX10_account_44 : decode cX10_account 44 = .ok (.aload_n 0, 1) := by decide +kernel
theorem dX10_account_45 : decode cX10_account 45 = .ok (.getfield 10, 3) := by decide +kernel
theorem dX10_account_48 : decode cX10_account 48 = .ok (.invokevirtual 382, 3) := by decide +kernel
theorem dX10_account_51 : decode cX10_account 51 = .ok (.ireturn, 1) := by decide +kernel
theorem dX10_account_52 : decode cX10_account 52 = .ok (.aload_n 0, 1) := by decide +kernel
theorem dX10_account_53 : decode cX10_account 53 = .ok (.getfield 10, 3) := by decide +kernel
theorem dX10_account_56 : decode cX10_account 56 = .ok (.getfield 379, 3) := by decide +kernel
theorem dX10_account_59 : decode cX10_account 59 = .ok (.ireturn, 1) := by decide +kernel
theorem dX10_account_60 : decode cX10_account 60 = .ok (.aload_n 0, 1) := by decide +kernel
theorem dX10_account_61 : decode cX10_account 61 = .ok (.getfield 10, 3) := by decide +kernel
theorem dX10_account_64 : decode cX10_account 64 = .ok (.invokevirtual 369, 3) := by decide +kernel
theorem dX10_account_67 : decode cX10_account 67 = .ok (.ireturn, 1) := by decide +kernel
theorem dX10_account_68 : decode cX10_account 68 = .ok (.aload_n 0, 1) := by decide +kernel
theorem dX10_account_69 : decode cX10_account 69 = .ok (.getfield 10, 3) := by decide +kernel
theorem dX10_account_72 : decode cX10_account 72 = .ok (.iload_n 1, 1) := by decide +kernel
theorem dX10_account_73 : decode cX10_account 73 = .ok (.invokevirtual 385, 3) := by decide +kernel
theorem dX10_account_76 : decode cX10_account 76 = .ok (.ireturn, 1) := by decide +kernel
theorem dX10_setRebate_0 : decode cX10_setRebate 0 = .ok (.iload_n 1, 1) := by decide +kernel
theorem dX10_setRebate_1 : decode cX10_setRebate 1 = .ok (.ifCond .lt 13, 3) := by decide +kernel
theorem dX10_setRebate_4 : decode cX10_setRebate 4 = .ok (.iload_n 2, 1) := by decide +kernel
theorem dX10_setRebate_5 : decode cX10_setRebate 5 = .ok (.iconst 0, 1) := by decide +kernel
theorem dX10_setRebate_6 : decode cX10_setRebate 6 = .ok (.bipush 50, 2) := by decide +kernel
theorem dX10_setRebate_8 : decode cX10_setRebate 8 = .ok (.invokestatic 52, 3) := by decide +kernel
theorem dX10_setRebate_11 : decode cX10_setRebate 11 = .ok (.ifCond .ne 11, 3) := by decide +kernel
theorem dX10_setRebate_14 : decode cX10_setRebate 14 = .ok (.new 60, 3) := by decide +kernel
theorem dX10_setRebate_17 : decode cX10_setRebate 17 = .ok (.dup, 1) := by decide +kernel
theorem dX10_setRebate_18 : decode cX10_setRebate 18 = .ok (.invokespecial 62, 3) := by decide +kernel
theorem dX10_setRebate_21 : decode cX10_setRebate 21 = .ok (.athrow, 1) := by decide +kernel
theorem dX10_setRebate_22 : decode cX10_setRebate 22 = .ok (.aload_n 0, 1) := by decide +kernel
theorem dX10_setRebate_23 : decode cX10_setRebate 23 = .ok (.getfield 10, 3) := by decide +kernel
theorem dX10_setRebate_26 : decode cX10_setRebate 26 = .ok (.iload_n 1, 1) := by decide +kernel
theorem dX10_setRebate_27 : decode cX10_setRebate 27 = .ok (.invokevirtual 388, 3) := by decide +kernel
theorem dX10_setRebate_30 : decode cX10_setRebate 30 = .ok (.istore_n 3, 1) := by decide +kernel
theorem dX10_setRebate_31 : decode cX10_setRebate 31 = .ok (.iload_n 3, 1) := by decide +kernel
theorem dX10_setRebate_32 : decode cX10_setRebate 32 = .ok (.ifCond .ge 15, 3) := by decide +kernel
theorem dX10_setRebate_35 : decode cX10_setRebate 35 = .ok (.iload_n 2, 1) := by decide +kernel
theorem dX10_setRebate_36 : decode cX10_setRebate 36 = .ok (.ifCond .ne 11, 3) := by decide +kernel
theorem dX10_setRebate_39 : decode cX10_setRebate 39 = .ok (.new 134, 3) := by decide +kernel
theorem dX10_setRebate_42 : decode cX10_setRebate 42 = .ok (.dup, 1) := by decide +kernel
theorem dX10_setRebate_43 : decode cX10_setRebate 43 = .ok (.invokespecial 136, 3) := by decide +kernel
theorem dX10_setRebate_46 : decode cX10_setRebate 46 = .ok (.athrow, 1) := by decide +kernel
theorem dX10_setRebate_47 : decode cX10_setRebate 47 = .ok (.iload_n 3, 1) := by decide +kernel
theorem dX10_setRebate_48 : decode cX10_setRebate 48 = .ok (.ifCond .ge 22, 3) := by decide +kernel
theorem dX10_setRebate_51 : decode cX10_setRebate 51 = .ok (.aload_n 0, 1) := by decide +kernel
theorem dX10_setRebate_52 : decode cX10_setRebate 52 = .ok (.getfield 10, 3) := by decide +kernel
theorem dX10_setRebate_55 : decode cX10_setRebate 55 = .ok (.getfield 391, 3) := by decide +kernel
theorem dX10_setRebate_58 : decode cX10_setRebate 58 = .ok (.iconst 5, 1) := by decide +kernel
theorem dX10_setRebate_59 : decode cX10_setRebate 59 = .ok (.if_icmp .lt 11, 3) := by decide +kernel
theorem dX10_setRebate_62 : decode cX10_setRebate 62 = .ok (.new 76, 3) := by decide +kernel
theorem dX10_setRebate_65 : decode cX10_setRebate 65 = .ok (.dup, 1) := by decide +kernel
theorem dX10_setRebate_66 : decode cX10_setRebate 66 = .ok (.invokespecial 78, 3) := by decide +kernel
theorem dX10_setRebate_69 : decode cX10_setRebate 69 = .ok (.athrow, 1) := by decide +kernel
theorem dX10_setRebate_70 : decode cX10_setRebate 70 = .ok (.aload_n 0, 1) := by decide +kernel
theorem dX10_setRebate_71 : decode cX10_setRebate 71 = .ok (.invokevirtual 79, 3) := by decide +kernel
theorem dX10_setRebate_74 : decode cX10_setRebate 74 = .ok (.iload_n 2, 1) := by decide +kernel
theorem dX10_setRebate_75 : decode cX10_setRebate 75 = .ok (.ifCond .ne 14, 3) := by decide +kernel
theorem dX10_setRebate_78 : decode cX10_setRebate 78 = .ok (.aload_n 0, 1) := by decide +kernel
theorem dX10_setRebate_79 : decode cX10_setRebate 79 = .ok (.getfield 10, 3) := by decide +kernel
theorem dX10_setRebate_82 : decode cX10_setRebate 82 = .ok (.iload_n 3, 1) := by decide +kernel
theorem dX10_setRebate_83 : decode cX10_setRebate 83 = .ok (.invokevirtual 394, 3) := by decide +kernel
theorem dX10_setRebate_86 : decode cX10_setRebate 86 = .ok (.goto 12, 3) := by decide +kernel
theorem dX10_setRebate_89 : decode cX10_setRebate 89 = .ok (.aload_n 0, 1) := by decide +kernel
theorem dX10_setRebate_90 : decode cX10_setRebate 90 = .ok (.getfield 10, 3) := by decide +kernel
theorem dX10_setRebate_93 : decode cX10_setRebate 93 = .ok (.iload_n 1, 1) := by decide +kernel
theorem dX10_setRebate_94 : decode cX10_setRebate 94 = .ok (.iload_n 2, 1) := by decide +kernel
theorem dX10_setRebate_95 : decode cX10_setRebate 95 = .ok (.invokevirtual 397, 3) := by decide +kernel
theorem dX10_setRebate_98 : decode cX10_setRebate 98 = .ok (.aload_n 0, 1) := by decide +kernel
theorem dX10_setRebate_99 : decode cX10_setRebate 99 = .ok (.getfield 10, 3) := by decide +kernel
theorem dX10_setRebate_102 : decode cX10_setRebate 102 = .ok (.getfield 391, 3) := by decide +kernel
theorem dX10_setRebate_105 : decode cX10_setRebate 105 = .ok (.ireturn, 1) := by decide +kernel
theorem dX10_rebate_0 : decode cX10_rebate 0 = .ok (.iload_n 1, 1) := by decide +kernel
theorem dX10_rebate_1 : decode cX10_rebate 1 = .ok (.iconst 0, 1) := by decide +kernel
theorem dX10_rebate_2 : decode cX10_rebate 2 = .ok (.iconst 3, 1) := by decide +kernel
theorem dX10_rebate_3 : decode cX10_rebate 3 = .ok (.invokestatic 52, 3) := by decide +kernel
theorem dX10_rebate_6 : decode cX10_rebate 6 = .ok (.ifCond .ne 11, 3) := by decide +kernel
theorem dX10_rebate_9 : decode cX10_rebate 9 = .ok (.new 60, 3) := by decide +kernel
theorem dX10_rebate_12 : decode cX10_rebate 12 = .ok (.dup, 1) := by decide +kernel
theorem dX10_rebate_13 : decode cX10_rebate 13 = .ok (.invokespecial 62, 3) := by decide +kernel
theorem dX10_rebate_16 : decode cX10_rebate 16 = .ok (.athrow, 1) := by decide +kernel
theorem dX10_rebate_17 : decode cX10_rebate 17 = .ok (.aload_n 0, 1) := by decide +kernel
theorem dX10_rebate_18 : decode cX10_rebate 18 = .ok (.getfield 10, 3) := by decide +kernel
theorem dX10_rebate_21 : decode cX10_rebate 21 = .ok (.iload_n 1, 1) := by decide +kernel
theorem dX10_rebate_22 : decode cX10_rebate 22 = .ok (.invokevirtual 385, 3) := by decide +kernel
theorem dX10_rebate_25 : decode cX10_rebate 25 = .ok (.istore_n 2, 1) := by decide +kernel
theorem dX10_rebate_26 : decode cX10_rebate 26 = .ok (.iload_n 2, 1) := by decide +kernel
theorem dX10_rebate_27 : decode cX10_rebate 27 = .ok (.aload_n 0, 1) := by decide +kernel
theorem dX10_rebate_28 : decode cX10_rebate 28 = .ok (.getfield 10, 3) := by decide +kernel
theorem dX10_rebate_31 : decode cX10_rebate 31 = .ok (.iload_n 2, 1) := by decide +kernel
theorem dX10_rebate_32 : decode cX10_rebate 32 = .ok (.invokevirtual 400, 3) := by decide +kernel
theorem dX10_rebate_35 : decode cX10_rebate 35 = .ok (.invokestatic 403, 3) := by decide +kernel
theorem dX10_rebate_38 : decode cX10_rebate 38 = .ok (.ireturn, 1) := by decide +kernel
theorem dX10_undo_0 : decode cX10_undo 0 = .ok (.aload_n 0, 1) := by decide +kernel
theorem dX10_undo_1 : decode cX10_undo 1 = .ok (.getfield 406, 3) := by decide +kernel
theorem dX10_undo_4 : decode cX10_undo 4 = .ok (.ifCond .ne 11, 3) := by decide +kernel
theorem dX10_undo_7 : decode cX10_undo 7 = .ok (.new 76, 3) := by decide +kernel
theorem dX10_undo_10 : decode cX10_undo 10 = .ok (.dup, 1) := by decide +kernel
theorem dX10_undo_11 : decode cX10_undo 11 = .ok (.invokespecial 78, 3) := by decide +kernel
theorem dX10_undo_14 : decode cX10_undo 14 = .ok (.athrow, 1) := by decide +kernel
theorem dX10_undo_15 : decode cX10_undo 15 = .ok (.aload_n 0, 1) := by decide +kernel
theorem dX10_undo_16 : decode cX10_undo 16 = .ok (.dup, 1) := by decide +kernel
theorem dX10_undo_17 : decode cX10_undo 17 = .ok (.getfield 406, 3) := by decide +kernel
theorem dX10_undo_20 : decode cX10_undo 20 = .ok (.iconst 1, 1) := by decide +kernel
theorem dX10_undo_21 : decode cX10_undo 21 = .ok (.isub, 1) := by decide +kernel
theorem dX10_undo_22 : decode cX10_undo 22 = .ok (.putfield 406, 3) := by decide +kernel
theorem dX10_undo_25 : decode cX10_undo 25 = .ok (.aload_n 0, 1) := by decide +kernel
theorem dX10_undo_26 : decode cX10_undo 26 = .ok (.aload_n 0, 1) := by decide +kernel
theorem dX10_undo_27 : decode cX10_undo 27 = .ok (.getfield 409, 3) := by decide +kernel
theorem dX10_undo_30 : decode cX10_undo 30 = .ok (.bipush 8, 2) := by decide +kernel
theorem dX10_undo_32 : decode cX10_undo 32 = .ok (.iadd, 1) := by decide +kernel
theorem dX10_undo_33 : decode cX10_undo 33 = .ok (.iconst 1, 1) := by decide +kernel
theorem dX10_undo_34 : decode cX10_undo 34 = .ok (.isub, 1) := by decide +kernel
theorem dX10_undo_35 : decode cX10_undo 35 = .ok (.bipush 8, 2) := by decide +kernel
theorem dX10_undo_37 : decode cX10_undo 37 = .ok (.irem, 1) := by decide +kernel
theorem dX10_undo_38 : decode cX10_undo 38 = .ok (.putfield 409, 3) := by decide +kernel
theorem dX10_undo_41 : decode cX10_undo 41 = .ok (.aload_n 0, 1) := by decide +kernel
theorem dX10_undo_42 : decode cX10_undo 42 = .ok (.getfield 10, 3) := by decide +kernel
theorem dX10_undo_45 : decode cX10_undo 45 = .ok (.aload_n 0, 1) := by decide +kernel
theorem dX10_undo_46 : decode cX10_undo 46 = .ok (.getfield 19, 3) := by decide +kernel
theorem dX10_undo_49 : decode cX10_undo 49 = .ok (.aload_n 0, 1) := by decide +kernel
theorem dX10_undo_50 : decode cX10_undo 50 = .ok (.getfield 409, 3) := by decide +kernel
theorem dX10_undo_53 : decode cX10_undo 53 = .ok (.aaload, 1) := by decide +kernel
theorem dX10_undo_54 : decode cX10_undo 54 = .ok (.invokevirtual 412, 3) := by decide +kernel
theorem dX10_undo_57 : decode cX10_undo 57 = .ok (.aload_n 0, 1) := by decide +kernel
theorem dX10_undo_58 : decode cX10_undo 58 = .ok (.getfield 406, 3) := by decide +kernel
theorem dX10_undo_61 : decode cX10_undo 61 = .ok (.ireturn, 1) := by decide +kernel
theorem dX10_saveSnapshot_0 : decode cX10_saveSnapshot 0 = .ok (.aload_n 0, 1) := by decide +kernel
theorem dX10_saveSnapshot_1 : decode cX10_saveSnapshot 1 = .ok (.getfield 16, 3) := by decide +kernel
theorem dX10_saveSnapshot_4 : decode cX10_saveSnapshot 4 = .ok (.aload_n 0, 1) := by decide +kernel
theorem dX10_saveSnapshot_5 : decode cX10_saveSnapshot 5 = .ok (.getfield 10, 3) := by decide +kernel
theorem dX10_saveSnapshot_8 : decode cX10_saveSnapshot 8 = .ok (.invokevirtual 412, 3) := by decide +kernel
theorem dX10_saveSnapshot_11 : decode cX10_saveSnapshot 11 = .ok (.aload_n 0, 1) := by decide +kernel
theorem dX10_saveSnapshot_12 : decode cX10_saveSnapshot 12 = .ok (.iconst 1, 1) := by decide +kernel
theorem dX10_saveSnapshot_13 : decode cX10_saveSnapshot 13 = .ok (.putfield 416, 3) := by decide +kernel
theorem dX10_saveSnapshot_16 : decode cX10_saveSnapshot 16 = .ok (.aload_n 0, 1) := by decide +kernel
theorem dX10_saveSnapshot_17 : decode cX10_saveSnapshot 17 = .ok (.getfield 10, 3) := by decide +kernel
theorem dX10_saveSnapshot_20 : decode cX10_saveSnapshot 20 = .ok (.getfield 218, 3) := by decide +kernel
theorem dX10_saveSnapshot_23 : decode cX10_saveSnapshot 23 = .ok (.ireturn, 1) := by decide +kernel
theorem dX10_restoreSnapshot_0 : decode cX10_restoreSnapshot 0 = .ok (.aload_n 0, 1) := by decide +kernel
theorem dX10_restoreSnapshot_1 : decode cX10_restoreSnapshot 1 = .ok (.getfield 416, 3) := by decide +kernel
theorem dX10_restoreSnapshot_4 : decode cX10_restoreSnapshot 4 = .ok (.ifCond .ne 11, 3) := by decide +kernel
theorem dX10_restoreSnapshot_7 : decode cX10_restoreSnapshot 7 = .ok (.new 76, 3) := by decide +kernel
theorem dX10_restoreSnapshot_10 : decode cX10_restoreSnapshot 10 = .ok (.dup, 1) := by decide +kernel
theorem dX10_restoreSnapshot_11 : decode cX10_restoreSnapshot 11 = .ok (.invokespecial 78, 3) := by decide +kernel
theorem dX10_restoreSnapshot_14 : decode cX10_restoreSnapshot 14 = .ok (.athrow, 1) := by decide +kernel
theorem dX10_restoreSnapshot_15 : decode cX10_restoreSnapshot 15 = .ok (.aload_n 0, 1) := by decide +kernel
theorem dX10_restoreSnapshot_16 : decode cX10_restoreSnapshot 16 = .ok (.getfield 10, 3) := by decide +kernel
theorem dX10_restoreSnapshot_19 : decode cX10_restoreSnapshot 19 = .ok (.aload_n 0, 1) := by decide +kernel
theorem dX10_restoreSnapshot_20 : decode cX10_restoreSnapshot 20 = .ok (.getfield 16, 3) := by decide +kernel
theorem dX10_restoreSnapshot_23 : decode cX10_restoreSnapshot 23 = .ok (.invokevirtual 412, 3) := by decide +kernel
theorem dX10_restoreSnapshot_26 : decode cX10_restoreSnapshot 26 = .ok (.aload_n 0, 1) := by decide +kernel
theorem dX10_restoreSnapshot_27 : decode cX10_restoreSnapshot 27 = .ok (.iconst 0, 1) := by decide +kernel
theorem dX10_restoreSnapshot_28 : decode cX10_restoreSnapshot 28 = .ok (.putfield 406, 3) := by decide +kernel
theorem dX10_restoreSnapshot_31 : decode cX10_restoreSnapshot 31 = .ok (.aload_n 0, 1) := by decide +kernel
theorem dX10_restoreSnapshot_32 : decode cX10_restoreSnapshot 32 = .ok (.getfield 10, 3) := by decide +kernel
theorem dX10_restoreSnapshot_35 : decode cX10_restoreSnapshot 35 = .ok (.getfield 218, 3) := by decide +kernel
theorem dX10_restoreSnapshot_38 : decode cX10_restoreSnapshot 38 = .ok (.ireturn, 1) := by decide +kernel
theorem dX10_write_0 : decode cX10_write 0 = .ok (.aload_n 0, 1) := by decide +kernel
theorem dX10_write_1 : decode cX10_write 1 = .ok (.iload_n 1, 1) := by decide +kernel
theorem dX10_write_2 : decode cX10_write 2 = .ok (.iload_n 2, 1) := by decide +kernel
theorem dX10_write_3 : decode cX10_write 3 = .ok (.invokevirtual 184, 3) := by decide +kernel
theorem dX10_write_6 : decode cX10_write 6 = .ok (.astore_n 3, 1) := by decide +kernel
theorem dX10_write_7 : decode cX10_write 7 = .ok (.aload_n 0, 1) := by decide +kernel
theorem dX10_write_8 : decode cX10_write 8 = .ok (.getfield 30, 3) := by decide +kernel
theorem dX10_write_11 : decode cX10_write 11 = .ok (.iconst 0, 1) := by decide +kernel
theorem dX10_write_12 : decode cX10_write 12 = .ok (.invokevirtual 420, 3) := by decide +kernel
theorem dX10_write_15 : decode cX10_write 15 = .ok (.aload_n 0, 1) := by decide +kernel
theorem dX10_write_16 : decode cX10_write 16 = .ok (.getfield 30, 3) := by decide +kernel
theorem dX10_write_19 : decode cX10_write 19 = .ok (.bipush 97, 2) := by decide +kernel
theorem dX10_write_21 : decode cX10_write 21 = .ok (.invokevirtual 423, 3) := by decide +kernel
theorem dX10_write_24 : decode cX10_write 24 = .ok (.iload_n 2, 1) := by decide +kernel
theorem dX10_write_25 : decode cX10_write 25 = .ok (.invokevirtual 427, 3) := by decide +kernel
theorem dX10_write_28 : decode cX10_write 28 = .ok (.bipush 58, 2) := by decide +kernel
theorem dX10_write_30 : decode cX10_write 30 = .ok (.invokevirtual 423, 3) := by decide +kernel
theorem dX10_write_33 : decode cX10_write 33 = .ok (.pop, 1) := by decide +kernel
theorem dX10_write_34 : decode cX10_write 34 = .ok (.aload_n 3, 1) := by decide +kernel
theorem dX10_write_35 : decode cX10_write 35 = .ok (.aload_n 0, 1) := by decide +kernel
theorem dX10_write_36 : decode cX10_write 36 = .ok (.getfield 30, 3) := by decide +kernel
theorem dX10_write_39 : decode cX10_write 39 = .ok (.invokevirtual 430, 3) := by decide +kernel
theorem dX10_write_42 : decode cX10_write 42 = .ok (.aload_n 0, 1) := by decide +kernel
theorem dX10_write_43 : decode cX10_write 43 = .ok (.getfield 30, 3) := by decide +kernel
theorem dX10_write_46 : decode cX10_write 46 = .ok (.invokevirtual 434, 3) := by decide +kernel
theorem dX10_write_49 : decode cX10_write 49 = .ok (.ireturn, 1) := by decide +kernel
theorem dX10_paper_0 : decode cX10_paper 0 = .ok (.iload_n 1, 1) := by decide +kernel
theorem dX10_paper_1 : decode cX10_paper 1 = .ok (.iconst 0, 1) := by decide +kernel
theorem dX10_paper_2 : decode cX10_paper 2 = .ok (.aload_n 0, 1) := by decide +kernel
theorem dX10_paper_3 : decode cX10_paper 3 = .ok (.getfield 30, 3) := by decide +kernel
theorem dX10_paper_6 : decode cX10_paper 6 = .ok (.invokevirtual 434, 3) := by decide +kernel
theorem dX10_paper_9 : decode cX10_paper 9 = .ok (.iconst 1, 1) := by decide +kernel
theorem dX10_paper_10 : decode cX10_paper 10 = .ok (.isub, 1) := by decide +kernel
theorem dX10_paper_11 : decode cX10_paper 11 = .ok (.invokestatic 52, 3) := by decide +kernel
theorem dX10_paper_14 : decode cX10_paper 14 = .ok (.ifCond .ne 11, 3) := by decide +kernel
theorem dX10_paper_17 : decode cX10_paper 17 = .ok (.new 70, 3) := by decide +kernel
theorem dX10_paper_20 : decode cX10_paper 20 = .ok (.dup, 1) := by decide +kernel
theorem dX10_paper_21 : decode cX10_paper 21 = .ok (.invokespecial 72, 3) := by decide +kernel
theorem dX10_paper_24 : decode cX10_paper 24 = .ok (.athrow, 1) := by decide +kernel
theorem dX10_paper_25 : decode cX10_paper 25 = .ok (.aload_n 0, 1) := by decide +kernel
theorem dX10_paper_26 : decode cX10_paper 26 = .ok (.getfield 30, 3) := by decide +kernel
theorem dX10_paper_29 : decode cX10_paper 29 = .ok (.iload_n 1, 1) := by decide +kernel
theorem dX10_paper_30 : decode cX10_paper 30 = .ok (.invokevirtual 437, 3) := by decide +kernel
theorem dX10_paper_33 : decode cX10_paper 33 = .ok (.ireturn, 1) := by decide +kernel
theorem dX10_isBetween_0 : decode cX10_isBetween 0 = .ok (.iload_n 0, 1) := by decide +kernel
theorem dX10_isBetween_1 : decode cX10_isBetween 1 = .ok (.iload_n 1, 1) := by decide +kernel
theorem dX10_isBetween_2 : decode cX10_isBetween 2 = .ok (.if_icmp .lt 12, 3) := by decide +kernel
theorem dX10_isBetween_5 : decode cX10_isBetween 5 = .ok (.iload_n 0, 1) := by decide +kernel
theorem dX10_isBetween_6 : decode cX10_isBetween 6 = .ok (.iload_n 2, 1) := by decide +kernel
theorem dX10_isBetween_7 : decode cX10_isBetween 7 = .ok (.if_icmp .gt 7, 3) := by decide +kernel
theorem dX10_isBetween_10 : decode cX10_isBetween 10 = .ok (.iconst 1, 1) := by decide +kernel
theorem dX10_isBetween_11 : decode cX10_isBetween 11 = .ok (.goto 4, 3) := by decide +kernel
theorem dX10_isBetween_14 : decode cX10_isBetween 14 = .ok (.iconst 0, 1) := by decide +kernel
theorem dX10_isBetween_15 : decode cX10_isBetween 15 = .ok (.ireturn, 1) := by decide +kernel
theorem dX10_isRoute_0 : decode cX10_isRoute 0 = .ok (.iload_n 0, 1) := by decide +kernel
theorem dX10_isRoute_1 : decode cX10_isRoute 1 = .ok (.iconst 0, 1) := by decide +kernel
theorem dX10_isRoute_2 : decode cX10_isRoute 2 = .ok (.sipush 999, 3) := by decide +kernel
theorem dX10_isRoute_5 : decode cX10_isRoute 5 = .ok (.invokestatic 52, 3) := by decide +kernel
theorem dX10_isRoute_8 : decode cX10_isRoute 8 = .ok (.ifCond .eq 18, 3) := by decide +kernel
theorem dX10_isRoute_11 : decode cX10_isRoute 11 = .ok (.iload_n 1, 1) := by decide +kernel
theorem dX10_isRoute_12 : decode cX10_isRoute 12 = .ok (.iconst 0, 1) := by decide +kernel
theorem dX10_isRoute_13 : decode cX10_isRoute 13 = .ok (.sipush 999, 3) := by decide +kernel
theorem dX10_isRoute_16 : decode cX10_isRoute 16 = .ok (.invokestatic 52, 3) := by decide +kernel
theorem dX10_isRoute_19 : decode cX10_isRoute 19 = .ok (.ifCond .eq 7, 3) := by decide +kernel
theorem dX10_isRoute_22 : decode cX10_isRoute 22 = .ok (.iconst 1, 1) := by decide +kernel
theorem dX10_isRoute_23 : decode cX10_isRoute 23 = .ok (.goto 4, 3) := by decide +kernel
theorem dX10_isRoute_26 : decode cX10_isRoute 26 = .ok (.iconst 0, 1) := by decide +kernel
theorem dX10_isRoute_27 : decode cX10_isRoute 27 = .ok (.ireturn, 1) := by decide +kernel
theorem dX10_isSide_0 : decode cX10_isSide 0 = .ok (.iload_n 0, 1) := by decide +kernel
theorem dX10_isSide_1 : decode cX10_isSide 1 = .ok (.iconst 1, 1) := by decide +kernel
theorem dX10_isSide_2 : decode cX10_isSide 2 = .ok (.sipush 200, 3) := by decide +kernel
theorem dX10_isSide_5 : decode cX10_isSide 5 = .ok (.invokestatic 52, 3) := by decide +kernel
theorem dX10_isSide_8 : decode cX10_isSide 8 = .ok (.ireturn, 1) := by decide +kernel
theorem dX10_isIn_0 : decode cX10_isIn 0 = .ok (.iload_n 0, 1) := by decide +kernel
theorem dX10_isIn_1 : decode cX10_isIn 1 = .ok (.iload_n 1, 1) := by decide +kernel
theorem dX10_isIn_2 : decode cX10_isIn 2 = .ok (.ishr, 1) := by decide +kernel
theorem dX10_isIn_3 : decode cX10_isIn 3 = .ok (.iconst 1, 1) := by decide +kernel
theorem dX10_isIn_4 : decode cX10_isIn 4 = .ok (.iand, 1) := by decide +kernel
theorem dX10_isIn_5 : decode cX10_isIn 5 = .ok (.iconst 1, 1) := by decide +kernel
theorem dX10_isIn_6 : decode cX10_isIn 6 = .ok (.if_icmp .ne 7, 3) := by decide +kernel
theorem dX10_isIn_9 : decode cX10_isIn 9 = .ok (.iconst 1, 1) := by decide +kernel
theorem dX10_isIn_10 : decode cX10_isIn 10 = .ok (.goto 4, 3) := by decide +kernel
theorem dX10_isIn_13 : decode cX10_isIn 13 = .ok (.iconst 0, 1) := by decide +kernel
theorem dX10_isIn_14 : decode cX10_isIn 14 = .ok (.ireturn, 1) := by decide +kernel
theorem dX10_percentOf_0 : decode cX10_percentOf 0 = .ok (.iload_n 0, 1) := by decide +kernel
theorem dX10_percentOf_1 : decode cX10_percentOf 1 = .ok (.i2l, 1) := by decide +kernel
theorem dX10_percentOf_2 : decode cX10_percentOf 2 = .ok (.iload_n 1, 1) := by decide +kernel
theorem dX10_percentOf_3 : decode cX10_percentOf 3 = .ok (.i2l, 1) := by decide +kernel
theorem dX10_percentOf_4 : decode cX10_percentOf 4 = .ok (.lmul, 1) := by decide +kernel
theorem dX10_percentOf_5 : decode cX10_percentOf 5 = .ok (.ldc2_w 441, 3) := by decide +kernel
theorem dX10_percentOf_8 : decode cX10_percentOf 8 = .ok (.ladd, 1) := by decide +kernel
theorem dX10_percentOf_9 : decode cX10_percentOf 9 = .ok (.ldc2_w 443, 3) := by decide +kernel
theorem dX10_percentOf_12 : decode cX10_percentOf 12 = .ok (.ldiv, 1) := by decide +kernel
theorem dX10_percentOf_13 : decode cX10_percentOf 13 = .ok (.l2i, 1) := by decide +kernel
theorem dX10_percentOf_14 : decode cX10_percentOf 14 = .ok (.ireturn, 1) := by decide +kernel
theorem dX10_findScale_0 : decode cX10_findScale 0 = .ok (.aload_n 0, 1) := by decide +kernel
theorem dX10_findScale_1 : decode cX10_findScale 1 = .ok (.getfield 10, 3) := by decide +kernel
theorem dX10_findScale_4 : decode cX10_findScale 4 = .ok (.iload_n 1, 1) := by decide +kernel
theorem dX10_findScale_5 : decode cX10_findScale 5 = .ok (.invokevirtual 66, 3) := by decide +kernel
theorem dX10_findScale_8 : decode cX10_findScale 8 = .ok (.astore_n 3, 1) := by decide +kernel
theorem dX10_findScale_9 : decode cX10_findScale 9 = .ok (.aload_n 3, 1) := by decide +kernel
theorem dX10_findScale_10 : decode cX10_findScale 10 = .ok (.ifnonnull 7, 3) := by decide +kernel
theorem dX10_findScale_13 : decode cX10_findScale 13 = .ok (.aconst_null, 1) := by decide +kernel
theorem dX10_findScale_14 : decode cX10_findScale 14 = .ok (.goto 8, 3) := by decide +kernel
theorem dX10_findScale_17 : decode cX10_findScale 17 = .ok (.aload_n 3, 1) := by decide +kernel
theorem dX10_findScale_18 : decode cX10_findScale 18 = .ok (.iload_n 2, 1) := by decide +kernel
theorem dX10_findScale_19 : decode cX10_findScale 19 = .ok (.invokevirtual 445, 3) := by decide +kernel
theorem dX10_findScale_22 : decode cX10_findScale 22 = .ok (.areturn, 1) := by decide +kernel
theorem dX10_requireAccessorial_0 : decode cX10_requireAccessorial 0 = .ok (.aload_n 0, 1) := by decide +kernel
theorem dX10_requireAccessorial_1 : decode cX10_requireAccessorial 1 = .ok (.getfield 10, 3) := by decide +kernel
theorem dX10_requireAccessorial_4 : decode cX10_requireAccessorial 4 = .ok (.iload_n 1, 1) := by decide +kernel
theorem dX10_requireAccessorial_5 : decode cX10_requireAccessorial 5 = .ok (.invokevirtual 66, 3) := by decide +kernel
theorem dX10_requireAccessorial_8 : decode cX10_requireAccessorial 8 = .ok (.astore_n 3, 1) := by decide +kernel
theorem dX10_requireAccessorial_9 : decode cX10_requireAccessorial 9 = .ok (.aload_n 3, 1) := by decide +kernel
theorem dX10_requireAccessorial_10 : decode cX10_requireAccessorial 10 = .ok (.ifnonnull 11, 3) := by decide +kernel
theorem dX10_requireAccessorial_13 : decode cX10_requireAccessorial 13 = .ok (.new 70, 3) := by decide +kernel
theorem dX10_requireAccessorial_16 : decode cX10_requireAccessorial 16 = .ok (.dup, 1) := by decide +kernel
theorem dX10_requireAccessorial_17 : decode cX10_requireAccessorial 17 = .ok (.invokespecial 72, 3) := by decide +kernel
theorem dX10_requireAccessorial_20 : decode cX10_requireAccessorial 20 = .ok (.athrow, 1) := by decide +kernel
theorem dX10_requireAccessorial_21 : decode cX10_requireAccessorial 21 = .ok (.aload_n 3, 1) := by decide +kernel
theorem dX10_requireAccessorial_22 : decode cX10_requireAccessorial 22 = .ok (.iload_n 2, 1) := by decide +kernel
theorem dX10_requireAccessorial_23 : decode cX10_requireAccessorial 23 = .ok (.invokevirtual 449, 3) := by decide +kernel
theorem dX10_requireAccessorial_26 : decode cX10_requireAccessorial 26 = .ok (.astore 4, 2) := by decide +kernel
theorem dX10_requireAccessorial_28 : decode cX10_requireAccessorial 28 = .ok (.aload 4, 2) := by decide +kernel
theorem dX10_requireAccessorial_30 : decode cX10_requireAccessorial 30 = .ok (.ifnonnull 11, 3) := by decide +kernel
theorem dX10_requireAccessorial_33 : decode cX10_requireAccessorial 33 = .ok (.new 134, 3) := by decide +kernel
theorem dX10_requireAccessorial_36 : decode cX10_requireAccessorial 36 = .ok (.dup, 1) := by decide +kernel
theorem dX10_requireAccessorial_37 : decode cX10_requireAccessorial 37 = .ok (.invokespecial 136, 3) := by decide +kernel
theorem dX10_requireAccessorial_40 : decode cX10_requireAccessorial 40 = .ok (.athrow, 1) := by decide +kernel
theorem dX10_requireAccessorial_41 : decode cX10_requireAccessorial 41 = .ok (.aload 4, 2) := by decide +kernel
theorem dX10_requireAccessorial_43 : decode cX10_requireAccessorial 43 = .ok (.areturn, 1) := by decide +kernel
theorem dX10_requireShipment_0 : decode cX10_requireShipment 0 = .ok (.aload_n 0, 1) := by decide +kernel
theorem dX10_requireShipment_1 : decode cX10_requireShipment 1 = .ok (.getfield 10, 3) := by decide +kernel
theorem dX10_requireShipment_4 : decode cX10_requireShipment 4 = .ok (.iload_n 1, 1) := by decide +kernel
theorem dX10_requireShipment_5 : decode cX10_requireShipment 5 = .ok (.invokevirtual 453, 3) := by decide +kernel
theorem dX10_requireShipment_8 : decode cX10_requireShipment 8 = .ok (.astore_n 2, 1) := by decide +kernel
theorem dX10_requireShipment_9 : decode cX10_requireShipment 9 = .ok (.aload_n 2, 1) := by decide +kernel
theorem dX10_requireShipment_10 : decode cX10_requireShipment 10 = .ok (.ifnonnull 11, 3) := by decide +kernel
theorem dX10_requireShipment_13 : decode cX10_requireShipment 13 = .ok (.new 70, 3) := by decide +kernel
theorem dX10_requireShipment_16 : decode cX10_requireShipment 16 = .ok (.dup, 1) := by decide +kernel
theorem dX10_requireShipment_17 : decode cX10_requireShipment 17 = .ok (.invokespecial 72, 3) := by decide +kernel
theorem dX10_requireShipment_20 : decode cX10_requireShipment 20 = .ok (.athrow, 1) := by decide +kernel
theorem dX10_requireShipment_21 : decode cX10_requireShipment 21 = .ok (.aload_n 2, 1) := by decide +kernel
theorem dX10_requireShipment_22 : decode cX10_requireShipment 22 = .ok (.areturn, 1) := by decide +kernel
theorem dX10_requireGroup_0 : decode cX10_requireGroup 0 = .ok (.iload_n 1, 1) := by decide +kernel
theorem dX10_requireGroup_1 : decode cX10_requireGroup 1 = .ok (.ifCond .le 16, 3) := by decide +kernel
theorem dX10_requireGroup_4 : decode cX10_requireGroup 4 = .ok (.iload_n 1, 1) := by decide +kernel
theorem dX10_requireGroup_5 : decode cX10_requireGroup 5 = .ok (.iconst 1, 1) := by decide +kernel
theorem dX10_requireGroup_6 : decode cX10_requireGroup 6 = .ok (.aload_n 0, 1) := by decide +kernel
theorem dX10_requireGroup_7 : decode cX10_requireGroup 7 = .ok (.getfield 10, 3) := by decide +kernel
theorem dX10_requireGroup_10 : decode cX10_requireGroup 10 = .ok (.getfield 218, 3) := by decide +kernel
theorem dX10_requireGroup_13 : decode cX10_requireGroup 13 = .ok (.ishl, 1) := by decide +kernel
theorem dX10_requireGroup_14 : decode cX10_requireGroup 14 = .ok (.if_icmp .lt 11, 3) := by decide +kernel
theorem dX10_requireGroup_17 : decode cX10_requireGroup 17 = .ok (.new 70, 3) := by decide +kernel
theorem dX10_requireGroup_20 : decode cX10_requireGroup 20 = .ok (.dup, 1) := by decide +kernel
theorem dX10_requireGroup_21 : decode cX10_requireGroup 21 = .ok (.invokespecial 72, 3) := by decide +kernel
theorem dX10_requireGroup_24 : decode cX10_requireGroup 24 = .ok (.athrow, 1) := by decide +kernel
theorem dX10_requireGroup_25 : decode cX10_requireGroup 25 = .ok (.return_, 1) := by decide +kernel
theorem dX10_requireRated_0 : decode cX10_requireRated 0 = .ok (.aload_n 0, 1) := by decide +kernel
theorem dX10_requireRated_1 : decode cX10_requireRated 1 = .ok (.getfield 41, 3) := by decide +kernel
theorem dX10_requireRated_4 : decode cX10_requireRated 4 = .ok (.aload_n 0, 1) := by decide +kernel
theorem dX10_requireRated_5 : decode cX10_requireRated 5 = .ok (.getfield 10, 3) := by decide +kernel
theorem dX10_requireRated_8 : decode cX10_requireRated 8 = .ok (.iload_n 1, 1) := by decide +kernel
theorem dX10_requireRated_9 : decode cX10_requireRated 9 = .ok (.invokevirtual 281, 3) := by decide +kernel
theorem dX10_requireRated_12 : decode cX10_requireRated 12 = .ok (.aload_n 0, 1) := by decide +kernel
theorem dX10_requireRated_13 : decode cX10_requireRated 13 = .ok (.getfield 41, 3) := by decide +kernel
theorem dX10_requireRated_16 : decode cX10_requireRated 16 = .ok (.getfield 285, 3) := by decide +kernel
theorem dX10_requireRated_19 : decode cX10_requireRated 19 = .ok (.ifCond .eq 11, 3) := by decide +kernel
theorem dX10_requireRated_22 : decode cX10_requireRated 22 = .ok (.new 76, 3) := by decide +kernel
theorem dX10_requireRated_25 : decode cX10_requireRated 25 = .ok (.dup, 1) := by decide +kernel
theorem dX10_requireRated_26 : decode cX10_requireRated 26 = .ok (.invokespecial 78, 3) := by decide +kernel
theorem dX10_requireRated_29 : decode cX10_requireRated 29 = .ok (.athrow, 1) := by decide +kernel
theorem dX10_requireRated_30 : decode cX10_requireRated 30 = .ok (.return_, 1) := by decide +kernel
theorem dX10_requireSet_0 : decode cX10_requireSet 0 = .ok (.aload_n 0, 1) := by decide +kernel
theorem dX10_requireSet_1 : decode cX10_requireSet 1 = .ok (.iload_n 1, 1) := by decide +kernel
theorem dX10_requireSet_2 : decode cX10_requireSet 2 = .ok (.invokevirtual 277, 3) := by decide +kernel
theorem dX10_requireSet_5 : decode cX10_requireSet 5 = .ok (.iload_n 1, 1) := by decide +kernel
theorem dX10_requireSet_6 : decode cX10_requireSet 6 = .ok (.invokestatic 355, 3) := by decide +kernel
theorem dX10_requireSet_9 : decode cX10_requireSet 9 = .ok (.bipush 8, 2) := by decide +kernel
theorem dX10_requireSet_11 : decode cX10_requireSet 11 = .ok (.if_icmp .le 11, 3) := by decide +kernel
theorem dX10_requireSet_14 : decode cX10_requireSet 14 = .ok (.new 60, 3) := by decide +kernel
theorem dX10_requireSet_17 : decode cX10_requireSet 17 = .ok (.dup, 1) := by decide +kernel
theorem dX10_requireSet_18 : decode cX10_requireSet 18 = .ok (.invokespecial 62, 3) := by decide +kernel
theorem dX10_requireSet_21 : decode cX10_requireSet 21 = .ok (.athrow, 1) := by decide +kernel
theorem dX10_requireSet_22 : decode cX10_requireSet 22 = .ok (.return_, 1) := by decide +kernel
theorem dX10_requireSingles_0 : decode cX10_requireSingles 0 = .ok (.iconst 0, 1) := by decide +kernel
theorem dX10_requireSingles_1 : decode cX10_requireSingles 1 = .ok (.istore_n 3, 1) := by decide +kernel
theorem dX10_requireSingles_2 : decode cX10_requireSingles 2 = .ok (.iload_n 3, 1) := by decide +kernel
theorem dX10_requireSingles_3 : decode cX10_requireSingles 3 = .ok (.bipush 10, 2) := by decide +kernel
theorem dX10_requireSingles_5 : decode cX10_requireSingles 5 = .ok (.if_icmp .ge 60, 3) := by decide +kernel
theorem dX10_requireSingles_8 : decode cX10_requireSingles 8 = .ok (.iload_n 1, 1) := by decide +kernel
theorem dX10_requireSingles_9 : decode cX10_requireSingles 9 = .ok (.iload_n 3, 1) := by decide +kernel
theorem dX10_requireSingles_10 : decode cX10_requireSingles 10 = .ok (.invokestatic 456, 3) := by decide +kernel
theorem dX10_requireSingles_13 : decode cX10_requireSingles 13 = .ok (.ifCond .ne 6, 3) := by decide +kernel
theorem dX10_requireSingles_16 : decode cX10_requireSingles 16 = .ok (.goto 43, 3) := by decide +kernel
theorem dX10_requireSingles_19 : decode cX10_requireSingles 19 = .ok (.aload_n 0, 1) := by decide +kernel
theorem dX10_requireSingles_20 : decode cX10_requireSingles 20 = .ok (.getfield 41, 3) := by decide +kernel
theorem dX10_requireSingles_23 : decode cX10_requireSingles 23 = .ok (.aload_n 0, 1) := by decide +kernel
theorem dX10_requireSingles_24 : decode cX10_requireSingles 24 = .ok (.getfield 10, 3) := by decide +kernel
theorem dX10_requireSingles_27 : decode cX10_requireSingles 27 = .ok (.iconst 1, 1) := by decide +kernel
theorem dX10_requireSingles_28 : decode cX10_requireSingles 28 = .ok (.iload_n 3, 1) := by decide +kernel
theorem dX10_requireSingles_29 : decode cX10_requireSingles 29 = .ok (.ishl, 1) := by decide +kernel
theorem dX10_requireSingles_30 : decode cX10_requireSingles 30 = .ok (.invokevirtual 281, 3) := by decide +kernel
theorem dX10_requireSingles_33 : decode cX10_requireSingles 33 = .ok (.aload_n 0, 1) := by decide +kernel
theorem dX10_requireSingles_34 : decode cX10_requireSingles 34 = .ok (.getfield 41, 3) := by decide +kernel
theorem dX10_requireSingles_37 : decode cX10_requireSingles 37 = .ok (.getfield 285, 3) := by decide +kernel
theorem dX10_requireSingles_40 : decode cX10_requireSingles 40 = .ok (.ifCond .eq 19, 3) := by decide +kernel
theorem dX10_requireSingles_43 : decode cX10_requireSingles 43 = .ok (.iload_n 2, 1) := by decide +kernel
theorem dX10_requireSingles_44 : decode cX10_requireSingles 44 = .ok (.ifCond .eq 7, 3) := by decide +kernel
theorem dX10_requireSingles_47 : decode cX10_requireSingles 47 = .ok (.aload_n 0, 1) := by decide +kernel
theorem dX10_requireSingles_48 : decode cX10_requireSingles 48 = .ok (.invokevirtual 288, 3) := by decide +kernel
theorem dX10_requireSingles_51 : decode cX10_requireSingles 51 = .ok (.new 76, 3) := by decide +kernel
theorem dX10_requireSingles_54 : decode cX10_requireSingles 54 = .ok (.dup, 1) := by decide +kernel
theorem dX10_requireSingles_55 : decode cX10_requireSingles 55 = .ok (.invokespecial 78, 3) := by decide +kernel
theorem dX10_requireSingles_58 : decode cX10_requireSingles 58 = .ok (.athrow, 1) := by decide +kernel
theorem dX10_requireSingles_59 : decode cX10_requireSingles 59 = .ok (.iinc 3 1, 3) := by decide +kernel
theorem dX10_requireSingles_62 : decode cX10_requireSingles 62 = .ok (.goto (-60), 3) := by decide +kernel
theorem dX10_requireSingles_65 : decode cX10_requireSingles 65 = .ok (.return_, 1) := by decide +kernel
theorem dX10_keepReason_0 : decode cX10_keepReason 0 = .ok (.aload_n 0, 1) := by decide +kernel
theorem dX10_keepReason_1 : decode cX10_keepReason 1 = .ok (.aload_n 0, 1) := by decide +kernel
theorem dX10_keepReason_2 : decode cX10_keepReason 2 = .ok (.getfield 41, 3) := by decide +kernel
theorem dX10_keepReason_5 : decode cX10_keepReason 5 = .ok (.getfield 285, 3) := by decide +kernel
theorem dX10_keepReason_8 : decode cX10_keepReason 8 = .ok (.putfield 325, 3) := by decide +kernel
theorem dX10_keepReason_11 : decode cX10_keepReason 11 = .ok (.aload_n 0, 1) := by decide +kernel
theorem dX10_keepReason_12 : decode cX10_keepReason 12 = .ok (.aload_n 0, 1) := by decide +kernel
theorem dX10_keepReason_13 : decode cX10_keepReason 13 = .ok (.getfield 41, 3) := by decide +kernel
theorem dX10_keepReason_16 : decode cX10_keepReason 16 = .ok (.getfield 459, 3) := by decide +kernel
theorem dX10_keepReason_19 : decode cX10_keepReason 19 = .ok (.putfield 328, 3) := by decide +kernel
theorem dX10_keepReason_22 : decode cX10_keepReason 22 = .ok (.return_, 1) := by decide +kernel
theorem dX10_remember_0 : decode cX10_remember 0 = .ok (.aload_n 0, 1) := by decide +kernel
theorem dX10_remember_1 : decode cX10_remember 1 = .ok (.getfield 19, 3) := by decide +kernel
theorem dX10_remember_4 : decode cX10_remember 4 = .ok (.aload_n 0, 1) := by decide +kernel
theorem dX10_remember_5 : decode cX10_remember 5 = .ok (.getfield 409, 3) := by decide +kernel
theorem dX10_remember_8 : decode cX10_remember 8 = .ok (.aaload, 1) := by decide +kernel
theorem dX10_remember_9 : decode cX10_remember 9 = .ok (.aload_n 0, 1) := by decide +kernel
theorem dX10_remember_10 : decode cX10_remember 10 = .ok (.getfield 10, 3) := by decide +kernel
theorem dX10_remember_13 : decode cX10_remember 13 = .ok (.invokevirtual 412, 3) := by decide +kernel
theorem dX10_remember_16 : decode cX10_remember 16 = .ok (.aload_n 0, 1) := by decide +kernel
theorem dX10_remember_17 : decode cX10_remember 17 = .ok (.aload_n 0, 1) := by decide +kernel
theorem dX10_remember_18 : decode cX10_remember 18 = .ok (.getfield 409, 3) := by decide +kernel
theorem dX10_remember_21 : decode cX10_remember 21 = .ok (.iconst 1, 1) := by decide +kernel
theorem dX10_remember_22 : decode cX10_remember 22 = .ok (.iadd, 1) := by decide +kernel
theorem dX10_remember_23 : decode cX10_remember 23 = .ok (.bipush 8, 2) := by decide +kernel
theorem dX10_remember_25 : decode cX10_remember 25 = .ok (.irem, 1) := by decide +kernel
theorem dX10_remember_26 : decode cX10_remember 26 = .ok (.putfield 409, 3) := by decide +kernel
theorem dX10_remember_29 : decode cX10_remember 29 = .ok (.aload_n 0, 1) := by decide +kernel
theorem dX10_remember_30 : decode cX10_remember 30 = .ok (.aload_n 0, 1) := by decide +kernel
theorem dX10_remember_31 : decode cX10_remember 31 = .ok (.getfield 406, 3) := by decide +kernel
theorem dX10_remember_34 : decode cX10_remember 34 = .ok (.iconst 1, 1) := by decide +kernel
theorem dX10_remember_35 : decode cX10_remember 35 = .ok (.iadd, 1) := by decide +kernel
theorem dX10_remember_36 : decode cX10_remember 36 = .ok (.bipush 8, 2) := by decide +kernel
theorem dX10_remember_38 : decode cX10_remember 38 = .ok (.invokestatic 462, 3) := by decide +kernel
theorem dX10_remember_41 : decode cX10_remember 41 = .ok (.putfield 406, 3) := by decide +kernel
theorem dX10_remember_44 : decode cX10_remember 44 = .ok (.return_, 1) := by decide +kernel
theorem dX10_divide_0 : decode cX10_divide 0 = .ok (.bipush 10, 2) := by decide +kernel
theorem dX10_divide_2 : decode cX10_divide 2 = .ok (.newarray .int, 2) := by decide +kernel
theorem dX10_divide_4 : decode cX10_divide 4 = .ok (.astore_n 3, 1) := by decide +kernel
theorem dX10_divide_5 : decode cX10_divide 5 = .ok (.lconst 0, 1) := by decide +kernel
theorem dX10_divide_6 : decode cX10_divide 6 = .ok (.lstore 4, 2) := by decide +kernel
theorem dX10_divide_8 : decode cX10_divide 8 = .ok (.iconst 0, 1) := by decide +kernel
theorem dX10_divide_9 : decode cX10_divide 9 = .ok (.istore 6, 2) := by decide +kernel
theorem dX10_divide_11 : decode cX10_divide 11 = .ok (.iload 6, 2) := by decide +kernel
theorem dX10_divide_13 : decode cX10_divide 13 = .ok (.aload_n 0, 1) := by decide +kernel
theorem dX10_divide_14 : decode cX10_divide 14 = .ok (.getfield 10, 3) := by decide +kernel
theorem dX10_divide_17 : decode cX10_divide 17 = .ok (.getfield 218, 3) := by decide +kernel
theorem dX10_divide_20 : decode cX10_divide 20 = .ok (.if_icmp .ge 57, 3) := by decide +kernel
theorem dX10_divide_23 : decode cX10_divide 23 = .ok (.iload_n 1, 1) := by decide +kernel
theorem dX10_divide_24 : decode cX10_divide 24 = .ok (.iload 6, 2) := by decide +kernel
theorem dX10_divide_26 : decode cX10_divide 26 = .ok (.invokestatic 456, 3) := by decide +kernel
theorem dX10_divide_29 : decode cX10_divide 29 = .ok (.ifCond .eq 42, 3) := by decide +kernel
theorem dX10_divide_32 : decode cX10_divide 32 = .ok (.aload_n 0, 1) := by decide +kernel
theorem dX10_divide_33 : decode cX10_divide 33 = .ok (.getfield 41, 3) := by decide +kernel
theorem dX10_divide_36 : decode cX10_divide 36 = .ok (.aload_n 0, 1) := by decide +kernel
theorem dX10_divide_37 : decode cX10_divide 37 = .ok (.getfield 10, 3) := by decide +kernel
theorem dX10_divide_40 : decode cX10_divide 40 = .ok (.iconst 1, 1) := by decide +kernel
theorem dX10_divide_41 : decode cX10_divide 41 = .ok (.iload 6, 2) := by decide +kernel
theorem dX10_divide_43 : decode cX10_divide 43 = .ok (.ishl, 1) := by decide +kernel
theorem dX10_divide_44 : decode cX10_divide 44 = .ok (.invokevirtual 281, 3) := by decide +kernel
theorem dX10_divide_47 : decode cX10_divide 47 = .ok (.aload_n 3, 1) := by decide +kernel
theorem dX10_divide_48 : decode cX10_divide 48 = .ok (.iload 6, 2) := by decide +kernel
theorem dX10_divide_50 : decode cX10_divide 50 = .ok (.aload_n 0, 1) := by decide +kernel
theorem dX10_divide_51 : decode cX10_divide 51 = .ok (.getfield 41, 3) := by decide +kernel
theorem dX10_divide_54 : decode cX10_divide 54 = .ok (.getfield 307, 3) := by decide +kernel
theorem dX10_divide_57 : decode cX10_divide 57 = .ok (.iastore, 1) := by decide +kernel
theorem dX10_divide_58 : decode cX10_divide 58 = .ok (.lload 4, 2) := by decide +kernel
theorem dX10_divide_60 : decode cX10_divide 60 = .ok (.aload_n 0, 1) := by decide +kernel
theorem dX10_divide_61 : decode cX10_divide 61 = .ok (.getfield 41, 3) := by decide +kernel
theorem dX10_divide_64 : decode cX10_divide 64 = .ok (.getfield 307, 3) := by decide +kernel
theorem dX10_divide_67 : decode cX10_divide 67 = .ok (.i2l, 1) := by decide +kernel
theorem dX10_divide_68 : decode cX10_divide 68 = .ok (.ladd, 1) := by decide +kernel
theorem dX10_divide_69 : decode cX10_divide 69 = .ok (.lstore 4, 2) := by decide +kernel
theorem dX10_divide_71 : decode cX10_divide 71 = .ok (.iinc 6 1, 3) := by decide +kernel
theorem dX10_divide_74 : decode cX10_divide 74 = .ok (.goto (-63), 3) := by decide +kernel
theorem dX10_divide_77 : decode cX10_divide 77 = .ok (.lload 4, 2) := by decide +kernel
theorem dX10_divide_79 : decode cX10_divide 79 = .ok (.lconst 0, 1) := by decide +kernel
theorem dX10_divide_80 : decode cX10_divide 80 = .ok (.lcmp, 1) := by decide +kernel
theorem dX10_divide_81 : decode cX10_divide 81 = .ok (.ifCond .gt 4, 3) := by decide +kernel
theorem dX10_divide_84 : decode cX10_divide 84 = .ok (.return_, 1) := by decide +kernel
theorem dX10_divide_85 : decode cX10_divide 85 = .ok (.iload_n 2, 1) := by decide +kernel
theorem dX10_divide_86 : decode cX10_divide 86 = .ok (.istore 6, 2) := by decide +kernel
theorem dX10_divide_88 : decode cX10_divide 88 = .ok (.iconst 0, 1) := by decide +kernel
theorem dX10_divide_89 : decode cX10_divide 89 = .ok (.istore 7, 2) := by decide +kernel
theorem dX10_divide_91 : decode cX10_divide 91 = .ok (.iload 7, 2) := by decide +kernel
theorem dX10_divide_93 : decode cX10_divide 93 = .ok (.aload_n 0, 1) := by decide +kernel
theorem dX10_divide_94 : decode cX10_divide 94 = .ok (.getfield 10, 3) := by decide +kernel
theorem dX10_divide_97 : decode cX10_divide 97 = .ok (.getfield 218, 3) := by decide +kernel
theorem dX10_divide_100 : decode cX10_divide 100 = .ok (.if_icmp .ge 26, 3) := by decide +kernel
theorem dX10_divide_103 : decode cX10_divide 103 = .ok (.iload 6, 2) := by decide +kernel
theorem dX10_divide_105 : decode cX10_divide 105 = .ok (.iload_n 2, 1) := by decide +kernel
theorem dX10_divide_106 : decode cX10_divide 106 = .ok (.i2l, 1) := by decide +kernel
theorem dX10_divide_107 : decode cX10_divide 107 = .ok (.aload_n 3, 1) := by decide +kernel
theorem dX10_divide_108 : decode cX10_divide 108 = .ok (.iload 7, 2) := by decide +kernel
theorem dX10_divide_110 : decode cX10_divide 110 = .ok (.iaload, 1) := by decide +kernel
theorem dX10_divide_111 : decode cX10_divide 111 = .ok (.i2l, 1) := by decide +kernel
theorem dX10_divide_112 : decode cX10_divide 112 = .ok (.lmul, 1) := by decide +kernel
theorem dX10_divide_113 : decode cX10_divide 113 = .ok (.lload 4, 2) := by decide +kernel
theorem dX10_divide_115 : decode cX10_divide 115 = .ok (.ldiv, 1) := by decide +kernel
theorem dX10_divide_116 : decode cX10_divide 116 = .ok (.l2i, 1) := by decide +kernel
theorem dX10_divide_117 : decode cX10_divide 117 = .ok (.isub, 1) := by decide +kernel
theorem dX10_divide_118 : decode cX10_divide 118 = .ok (.istore 6, 2) := by decide +kernel
theorem dX10_divide_120 : decode cX10_divide 120 = .ok (.iinc 7 1, 3) := by decide +kernel
theorem dX10_divide_123 : decode cX10_divide 123 = .ok (.goto (-32), 3) := by decide +kernel
theorem dX10_divide_126 : decode cX10_divide 126 = .ok (.iconst 0, 1) := by decide +kernel
theorem dX10_divide_127 : decode cX10_divide 127 = .ok (.istore 7, 2) := by decide +kernel
theorem dX10_divide_129 : decode cX10_divide 129 = .ok (.iload 7, 2) := by decide +kernel
theorem dX10_divide_131 : decode cX10_divide 131 = .ok (.aload_n 0, 1) := by decide +kernel
theorem dX10_divide_132 : decode cX10_divide 132 = .ok (.getfield 10, 3) := by decide +kernel
theorem dX10_divide_135 : decode cX10_divide 135 = .ok (.getfield 218, 3) := by decide +kernel
theorem dX10_divide_138 : decode cX10_divide 138 = .ok (.if_icmp .ge 85, 3) := by decide +kernel
theorem dX10_divide_141 : decode cX10_divide 141 = .ok (.iload_n 1, 1) := by decide +kernel
theorem dX10_divide_142 : decode cX10_divide 142 = .ok (.iload 7, 2) := by decide +kernel
theorem dX10_divide_144 : decode cX10_divide 144 = .ok (.invokestatic 456, 3) := by decide +kernel
theorem dX10_divide_147 : decode cX10_divide 147 = .ok (.ifCond .eq 70, 3) := by decide +kernel
theorem dX10_divide_150 : decode cX10_divide 150 = .ok (.iload_n 2, 1) := by decide +kernel
theorem dX10_divide_151 : decode cX10_divide 151 = .ok (.i2l, 1) := by decide +kernel
theorem dX10_divide_152 : decode cX10_divide 152 = .ok (.aload_n 3, 1) := by decide +kernel
theorem dX10_divide_153 : decode cX10_divide 153 = .ok (.iload 7, 2) := by decide +kernel
theorem dX10_divide_155 : decode cX10_divide 155 = .ok (.iaload, 1) := by decide +kernel
theorem dX10_divide_156 : decode cX10_divide 156 = .ok (.i2l, 1) := by decide +kernel
theorem dX10_divide_157 : decode cX10_divide 157 = .ok (.lmul, 1) := by decide +kernel
theorem dX10_divide_158 : decode cX10_divide 158 = .ok (.lload 4, 2) := by decide +kernel
theorem dX10_divide_160 : decode cX10_divide 160 = .ok (.ldiv, 1) := by decide +kernel
theorem dX10_divide_161 : decode cX10_divide 161 = .ok (.l2i, 1) := by decide +kernel
theorem dX10_divide_162 : decode cX10_divide 162 = .ok (.istore 8, 2) := by decide +kernel
theorem dX10_divide_164 : decode cX10_divide 164 = .ok (.new 221, 3) := by decide +kernel
theorem dX10_divide_167 : decode cX10_divide 167 = .ok (.dup, 1) := by decide +kernel
theorem dX10_divide_168 : decode cX10_divide 168 = .ok (.aload_n 0, 1) := by decide +kernel
theorem dX10_divide_169 : decode cX10_divide 169 = .ok (.getfield 10, 3) := by decide +kernel
theorem dX10_divide_172 : decode cX10_divide 172 = .ok (.getfield 249, 3) := by decide +kernel
theorem dX10_divide_175 : decode cX10_divide 175 = .ok (.iload 7, 2) := by decide +kernel
theorem dX10_divide_177 : decode cX10_divide 177 = .ok (.aaload, 1) := by decide +kernel
theorem dX10_divide_178 : decode cX10_divide 178 = .ok (.invokespecial 243, 3) := by decide +kernel
theorem dX10_divide_181 : decode cX10_divide 181 = .ok (.astore 9, 2) := by decide +kernel
theorem dX10_divide_183 : decode cX10_divide 183 = .ok (.aload 9, 2) := by decide +kernel
theorem dX10_divide_185 : decode cX10_divide 185 = .ok (.iload 6, 2) := by decide +kernel
theorem dX10_divide_187 : decode cX10_divide 187 = .ok (.ifCond .le 10, 3) := by decide +kernel
theorem dX10_divide_190 : decode cX10_divide 190 = .ok (.iload 8, 2) := by decide +kernel
theorem dX10_divide_192 : decode cX10_divide 192 = .ok (.iconst 1, 1) := by decide +kernel
theorem dX10_divide_193 : decode cX10_divide 193 = .ok (.iadd, 1) := by decide +kernel
theorem dX10_divide_194 : decode cX10_divide 194 = .ok (.goto 5, 3) := by decide +kernel
theorem dX10_divide_197 : decode cX10_divide 197 = .ok (.iload 8, 2) := by decide +kernel
theorem dX10_divide_199 : decode cX10_divide 199 = .ok (.putfield 274, 3) := by decide +kernel
theorem dX10_divide_202 : decode cX10_divide 202 = .ok (.aload_n 0, 1) := by decide +kernel
theorem dX10_divide_203 : decode cX10_divide 203 = .ok (.getfield 10, 3) := by decide +kernel
theorem dX10_divide_206 : decode cX10_divide 206 = .ok (.getfield 249, 3) := by decide +kernel
theorem dX10_divide_209 : decode cX10_divide 209 = .ok (.iload 7, 2) := by decide +kernel
theorem dX10_divide_211 : decode cX10_divide 211 = .ok (.aload 9, 2) := by decide +kernel
theorem dX10_divide_213 : decode cX10_divide 213 = .ok (.aastore, 1) := by decide +kernel
theorem dX10_divide_214 : decode cX10_divide 214 = .ok (.iinc 6 (-1), 3) := by decide +kernel
theorem dX10_divide_217 : decode cX10_divide 217 = .ok (.iinc 7 1, 3) := by decide +kernel
theorem dX10_divide_220 : decode cX10_divide 220 = .ok (.goto (-91), 3) := by decide +kernel
theorem dX10_divide_223 : decode cX10_divide 223 = .ok (.return_, 1) := by decide +kernel
