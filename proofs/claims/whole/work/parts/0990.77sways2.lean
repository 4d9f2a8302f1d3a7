theorem dX12_waysOfGlobal_0 : decode cX12_waysOfGlobal 0 = .ok (.aload_n 0, 1) := by decide +kernel
theorem dX12_waysOfGlobal_1 : decode cX12_waysOfGlobal 1 = .ok (.sipush 639, 3) := by decide +kernel
theorem dX12_waysOfGlobal_4 : decode cX12_waysOfGlobal 4 = .ok (.iconst 0, 1) := by decide +kernel
theorem dX12_waysOfGlobal_5 : decode cX12_waysOfGlobal 5 = .ok (.iload_n 1, 1) := by decide +kernel
theorem dX12_waysOfGlobal_6 : decode cX12_waysOfGlobal 6 = .ok (.invokevirtual 1163, 3) := by decide +kernel
theorem dX12_waysOfGlobal_9 : decode cX12_waysOfGlobal 9 = .ok (.istore_n 3, 1) := by decide +kernel
theorem dX12_waysOfGlobal_10 : decode cX12_waysOfGlobal 10 = .ok (.aload_n 0, 1) := by decide +kernel
theorem dX12_waysOfGlobal_11 : decode cX12_waysOfGlobal 11 = .ok (.iload_n 3, 1) := by decide +kernel
theorem dX12_waysOfGlobal_12 : decode cX12_waysOfGlobal 12 = .ok (.invokevirtual 1047, 3) := by decide +kernel
theorem dX12_waysOfGlobal_15 : decode cX12_waysOfGlobal 15 = .ok (.sipush 512, 3) := by decide +kernel
theorem dX12_waysOfGlobal_18 : decode cX12_waysOfGlobal 18 = .ok (.iand, 1) := by decide +kernel
theorem dX12_waysOfGlobal_19 : decode cX12_waysOfGlobal 19 = .ok (.ifCond .eq 7, 3) := by decide +kernel
theorem dX12_waysOfGlobal_22 : decode cX12_waysOfGlobal 22 = .ok (.iconst 1, 1) := by decide +kernel
theorem dX12_waysOfGlobal_23 : decode cX12_waysOfGlobal 23 = .ok (.goto 4, 3) := by decide +kernel
theorem dX12_waysOfGlobal_26 : decode cX12_waysOfGlobal 26 = .ok (.iconst 0, 1) := by decide +kernel
theorem dX12_waysOfGlobal_27 : decode cX12_waysOfGlobal 27 = .ok (.istore 4, 2) := by decide +kernel
theorem dX12_waysOfGlobal_29 : decode cX12_waysOfGlobal 29 = .ok (.ldc_w 1218, 3) := by decide +kernel
theorem dX12_waysOfGlobal_32 : decode cX12_waysOfGlobal 32 = .ok (.istore 5, 2) := by decide +kernel
theorem dX12_waysOfGlobal_34 : decode cX12_waysOfGlobal 34 = .ok (.aload_n 0, 1) := by decide +kernel
theorem dX12_waysOfGlobal_35 : decode cX12_waysOfGlobal 35 = .ok (.iload 5, 2) := by decide +kernel
theorem dX12_waysOfGlobal_37 : decode cX12_waysOfGlobal 37 = .ok (.invokevirtual 1066, 3) := by decide +kernel
theorem dX12_waysOfGlobal_40 : decode cX12_waysOfGlobal 40 = .ok (.aload_n 0, 1) := by decide +kernel
theorem dX12_waysOfGlobal_41 : decode cX12_waysOfGlobal 41 = .ok (.iload_n 3, 1) := by decide +kernel
theorem dX12_waysOfGlobal_42 : decode cX12_waysOfGlobal 42 = .ok (.iload 5, 2) := by decide +kernel
theorem dX12_waysOfGlobal_44 : decode cX12_waysOfGlobal 44 = .ok (.invokevirtual 1228, 3) := by decide +kernel
theorem dX12_waysOfGlobal_47 : decode cX12_waysOfGlobal 47 = .ok (.iload 5, 2) := by decide +kernel
theorem dX12_waysOfGlobal_49 : decode cX12_waysOfGlobal 49 = .ok (.iconst 1, 1) := by decide +kernel
theorem dX12_waysOfGlobal_50 : decode cX12_waysOfGlobal 50 = .ok (.iadd, 1) := by decide +kernel
theorem dX12_waysOfGlobal_51 : decode cX12_waysOfGlobal 51 = .ok (.istore 6, 2) := by decide +kernel
theorem dX12_waysOfGlobal_53 : decode cX12_waysOfGlobal 53 = .ok (.iload_n 2, 1) := by decide +kernel
theorem dX12_waysOfGlobal_54 : decode cX12_waysOfGlobal 54 = .ok (.ifCond .eq 14, 3) := by decide +kernel
theorem dX12_waysOfGlobal_57 : decode cX12_waysOfGlobal 57 = .ok (.aload_n 0, 1) := by decide +kernel
theorem dX12_waysOfGlobal_58 : decode cX12_waysOfGlobal 58 = .ok (.iload 5, 2) := by decide +kernel
theorem dX12_waysOfGlobal_60 : decode cX12_waysOfGlobal 60 = .ok (.iload 6, 2) := by decide +kernel
theorem dX12_waysOfGlobal_62 : decode cX12_waysOfGlobal 62 = .ok (.invokevirtual 1092, 3) := by decide +kernel
theorem dX12_waysOfGlobal_65 : decode cX12_waysOfGlobal 65 = .ok (.goto 30, 3) := by decide +kernel
theorem dX12_waysOfGlobal_68 : decode cX12_waysOfGlobal 68 = .ok (.aload_n 0, 1) := by decide +kernel
theorem dX12_waysOfGlobal_69 : decode cX12_waysOfGlobal 69 = .ok (.iload 6, 2) := by decide +kernel
theorem dX12_waysOfGlobal_71 : decode cX12_waysOfGlobal 71 = .ok (.invokevirtual 1066, 3) := by decide +kernel
theorem dX12_waysOfGlobal_74 : decode cX12_waysOfGlobal 74 = .ok (.aload_n 0, 1) := by decide +kernel
theorem dX12_waysOfGlobal_75 : decode cX12_waysOfGlobal 75 = .ok (.iload 5, 2) := by decide +kernel
theorem dX12_waysOfGlobal_77 : decode cX12_waysOfGlobal 77 = .ok (.iload 6, 2) := by decide +kernel
theorem dX12_waysOfGlobal_79 : decode cX12_waysOfGlobal 79 = .ok (.invokevirtual 1289, 3) := by decide +kernel
theorem dX12_waysOfGlobal_82 : decode cX12_waysOfGlobal 82 = .ok (.iload 4, 2) := by decide +kernel
theorem dX12_waysOfGlobal_84 : decode cX12_waysOfGlobal 84 = .ok (.ifCond .eq 11, 3) := by decide +kernel
theorem dX12_waysOfGlobal_87 : decode cX12_waysOfGlobal 87 = .ok (.aload_n 0, 1) := by decide +kernel
theorem dX12_waysOfGlobal_88 : decode cX12_waysOfGlobal 88 = .ok (.iload 6, 2) := by decide +kernel
theorem dX12_waysOfGlobal_90 : decode cX12_waysOfGlobal 90 = .ok (.bipush 19, 2) := by decide +kernel
theorem dX12_waysOfGlobal_92 : decode cX12_waysOfGlobal 92 = .ok (.invokevirtual 1078, 3) := by decide +kernel
theorem dX12_waysOfGlobal_95 : decode cX12_waysOfGlobal 95 = .ok (.aload_n 0, 1) := by decide +kernel
theorem dX12_waysOfGlobal_96 : decode cX12_waysOfGlobal 96 = .ok (.iconst 0, 1) := by decide +kernel
theorem dX12_waysOfGlobal_97 : decode cX12_waysOfGlobal 97 = .ok (.iload 6, 2) := by decide +kernel
theorem dX12_waysOfGlobal_99 : decode cX12_waysOfGlobal 99 = .ok (.invokevirtual 1258, 3) := by decide +kernel
theorem dX12_waysOfGlobal_102 : decode cX12_waysOfGlobal 102 = .ok (.iload_n 2, 1) := by decide +kernel
theorem dX12_waysOfGlobal_103 : decode cX12_waysOfGlobal 103 = .ok (.ifCond .eq 18, 3) := by decide +kernel
theorem dX12_waysOfGlobal_106 : decode cX12_waysOfGlobal 106 = .ok (.iload 4, 2) := by decide +kernel
theorem dX12_waysOfGlobal_108 : decode cX12_waysOfGlobal 108 = .ok (.ifCond .eq 13, 3) := by decide +kernel
theorem dX12_waysOfGlobal_111 : decode cX12_waysOfGlobal 111 = .ok (.aload_n 0, 1) := by decide +kernel
theorem dX12_waysOfGlobal_112 : decode cX12_waysOfGlobal 112 = .ok (.aload_n 0, 1) := by decide +kernel
theorem dX12_waysOfGlobal_113 : decode cX12_waysOfGlobal 113 = .ok (.getfield 1188, 3) := by decide +kernel
theorem dX12_waysOfGlobal_116 : decode cX12_waysOfGlobal 116 = .ok (.bipush 7, 2) := by decide +kernel
theorem dX12_waysOfGlobal_118 : decode cX12_waysOfGlobal 118 = .ok (.invokevirtual 1292, 3) := by decide +kernel
theorem dX12_waysOfGlobal_121 : decode cX12_waysOfGlobal 121 = .ok (.return_, 1) := by decide +kernel
theorem dX12_waysOfTest_0 : decode cX12_waysOfTest 0 = .ok (.aload_n 0, 1) := by decide +kernel
theorem dX12_waysOfTest_1 : decode cX12_waysOfTest 1 = .ok (.iload_n 3, 1) := by decide +kernel
theorem dX12_waysOfTest_2 : decode cX12_waysOfTest 2 = .ok (.invokevirtual 1283, 3) := by decide +kernel
theorem dX12_waysOfTest_5 : decode cX12_waysOfTest 5 = .ok (.istore 4, 2) := by decide +kernel
theorem dX12_waysOfTest_7 : decode cX12_waysOfTest 7 = .ok (.aload_n 0, 1) := by decide +kernel
theorem dX12_waysOfTest_8 : decode cX12_waysOfTest 8 = .ok (.iload_n 3, 1) := by decide +kernel
theorem dX12_waysOfTest_9 : decode cX12_waysOfTest 9 = .ok (.invokevirtual 1286, 3) := by decide +kernel
theorem dX12_waysOfTest_12 : decode cX12_waysOfTest 12 = .ok (.istore 5, 2) := by decide +kernel
theorem dX12_waysOfTest_14 : decode cX12_waysOfTest 14 = .ok (.iload_n 1, 1) := by decide +kernel
theorem dX12_waysOfTest_15 : decode cX12_waysOfTest 15 = .ok (.bipush 24, 2) := by decide +kernel
theorem dX12_waysOfTest_17 : decode cX12_waysOfTest 17 = .ok (.if_icmp .ne 8, 3) := by decide +kernel
theorem dX12_waysOfTest_20 : decode cX12_waysOfTest 20 = .ok (.iload 5, 2) := by decide +kernel
theorem dX12_waysOfTest_22 : decode cX12_waysOfTest 22 = .ok (.goto 5, 3) := by decide +kernel
theorem dX12_waysOfTest_25 : decode cX12_waysOfTest 25 = .ok (.iload 4, 2) := by decide +kernel
theorem dX12_waysOfTest_27 : decode cX12_waysOfTest 27 = .ok (.istore 6, 2) := by decide +kernel
theorem dX12_waysOfTest_29 : decode cX12_waysOfTest 29 = .ok (.iload_n 1, 1) := by decide +kernel
theorem dX12_waysOfTest_30 : decode cX12_waysOfTest 30 = .ok (.bipush 24, 2) := by decide +kernel
theorem dX12_waysOfTest_32 : decode cX12_waysOfTest 32 = .ok (.if_icmp .ne 8, 3) := by decide +kernel
theorem dX12_waysOfTest_35 : decode cX12_waysOfTest 35 = .ok (.iload 4, 2) := by decide +kernel
theorem dX12_waysOfTest_37 : decode cX12_waysOfTest 37 = .ok (.goto 5, 3) := by decide +kernel
theorem dX12_waysOfTest_40 : decode cX12_waysOfTest 40 = .ok (.iload 5, 2) := by decide +kernel
theorem dX12_waysOfTest_42 : decode cX12_waysOfTest 42 = .ok (.istore 7, 2) := by decide +kernel
theorem dX12_waysOfTest_44 : decode cX12_waysOfTest 44 = .ok (.iload 7, 2) := by decide +kernel
theorem dX12_waysOfTest_46 : decode cX12_waysOfTest 46 = .ok (.ifCond .eq 14, 3) := by decide +kernel
theorem dX12_waysOfTest_49 : decode cX12_waysOfTest 49 = .ok (.iload_n 1, 1) := by decide +kernel
theorem dX12_waysOfTest_50 : decode cX12_waysOfTest 50 = .ok (.bipush 22, 2) := by decide +kernel
theorem dX12_waysOfTest_52 : decode cX12_waysOfTest 52 = .ok (.if_icmp .eq 8, 3) := by decide +kernel
theorem dX12_waysOfTest_55 : decode cX12_waysOfTest 55 = .ok (.aload_n 0, 1) := by decide +kernel
theorem dX12_waysOfTest_56 : decode cX12_waysOfTest 56 = .ok (.iload_n 2, 1) := by decide +kernel
theorem dX12_waysOfTest_57 : decode cX12_waysOfTest 57 = .ok (.invokevirtual 1274, 3) := by decide +kernel
theorem dX12_waysOfTest_60 : decode cX12_waysOfTest 60 = .ok (.aload_n 0, 1) := by decide +kernel
theorem dX12_waysOfTest_61 : decode cX12_waysOfTest 61 = .ok (.getfield 235, 3) := by decide +kernel
theorem dX12_waysOfTest_64 : decode cX12_waysOfTest 64 = .ok (.sipush 639, 3) := by decide +kernel
theorem dX12_waysOfTest_67 : decode cX12_waysOfTest 67 = .ok (.dup2, 1) := by decide +kernel
theorem dX12_waysOfTest_68 : decode cX12_waysOfTest 68 = .ok (.iaload, 1) := by decide +kernel
theorem dX12_waysOfTest_69 : decode cX12_waysOfTest 69 = .ok (.iconst 1, 1) := by decide +kernel
theorem dX12_waysOfTest_70 : decode cX12_waysOfTest 70 = .ok (.isub, 1) := by decide +kernel
theorem dX12_waysOfTest_71 : decode cX12_waysOfTest 71 = .ok (.iastore, 1) := by decide +kernel
theorem dX12_waysOfTest_72 : decode cX12_waysOfTest 72 = .ok (.iload 6, 2) := by decide +kernel
theorem dX12_waysOfTest_74 : decode cX12_waysOfTest 74 = .ok (.ifCond .eq 7, 3) := by decide +kernel
theorem dX12_waysOfTest_77 : decode cX12_waysOfTest 77 = .ok (.aload_n 0, 1) := by decide +kernel
theorem dX12_waysOfTest_78 : decode cX12_waysOfTest 78 = .ok (.invokevirtual 1222, 3) := by decide +kernel
theorem dX12_waysOfTest_81 : decode cX12_waysOfTest 81 = .ok (.iload 7, 2) := by decide +kernel
theorem dX12_waysOfTest_83 : decode cX12_waysOfTest 83 = .ok (.ifCond .eq 14, 3) := by decide +kernel
theorem dX12_waysOfTest_86 : decode cX12_waysOfTest 86 = .ok (.iload_n 1, 1) := by decide +kernel
theorem dX12_waysOfTest_87 : decode cX12_waysOfTest 87 = .ok (.bipush 22, 2) := by decide +kernel
theorem dX12_waysOfTest_89 : decode cX12_waysOfTest 89 = .ok (.if_icmp .ne 8, 3) := by decide +kernel
theorem dX12_waysOfTest_92 : decode cX12_waysOfTest 92 = .ok (.aload_n 0, 1) := by decide +kernel
theorem dX12_waysOfTest_93 : decode cX12_waysOfTest 93 = .ok (.iload_n 2, 1) := by decide +kernel
theorem dX12_waysOfTest_94 : decode cX12_waysOfTest 94 = .ok (.invokevirtual 1274, 3) := by decide +kernel
theorem dX12_waysOfTest_97 : decode cX12_waysOfTest 97 = .ok (.return_, 1) := by decide +kernel
theorem dX12_waysOfGet_0 : decode cX12_waysOfGet 0 = .ok (.aload_n 0, 1) := by decide +kernel
theorem dX12_waysOfGet_1 : decode cX12_waysOfGet 1 = .ok (.iconst 1, 1) := by decide +kernel
theorem dX12_waysOfGet_2 : decode cX12_waysOfGet 2 = .ok (.invokevirtual 1195, 3) := by decide +kernel
theorem dX12_waysOfGet_5 : decode cX12_waysOfGet 5 = .ok (.istore_n 1, 1) := by decide +kernel
theorem dX12_waysOfGet_6 : decode cX12_waysOfGet 6 = .ok (.aload_n 0, 1) := by decide +kernel
theorem dX12_waysOfGet_7 : decode cX12_waysOfGet 7 = .ok (.iconst 0, 1) := by decide +kernel
theorem dX12_waysOfGet_8 : decode cX12_waysOfGet 8 = .ok (.invokevirtual 1195, 3) := by decide +kernel
theorem dX12_waysOfGet_11 : decode cX12_waysOfGet 11 = .ok (.istore_n 2, 1) := by decide +kernel
theorem dX12_waysOfGet_12 : decode cX12_waysOfGet 12 = .ok (.ldc_w 1218, 3) := by decide +kernel
theorem dX12_waysOfGet_15 : decode cX12_waysOfGet 15 = .ok (.istore_n 3, 1) := by decide +kernel
theorem dX12_waysOfGet_16 : decode cX12_waysOfGet 16 = .ok (.aload_n 0, 1) := by decide +kernel
theorem dX12_waysOfGet_17 : decode cX12_waysOfGet 17 = .ok (.iload_n 1, 1) := by decide +kernel
theorem dX12_waysOfGet_18 : decode cX12_waysOfGet 18 = .ok (.invokevirtual 1059, 3) := by decide +kernel
theorem dX12_waysOfGet_21 : decode cX12_waysOfGet 21 = .ok (.istore 4, 2) := by decide +kernel
theorem dX12_waysOfGet_23 : decode cX12_waysOfGet 23 = .ok (.aload_n 0, 1) := by decide +kernel
theorem dX12_waysOfGet_24 : decode cX12_waysOfGet 24 = .ok (.iload_n 3, 1) := by decide +kernel
theorem dX12_waysOfGet_25 : decode cX12_waysOfGet 25 = .ok (.invokevirtual 1066, 3) := by decide +kernel
theorem dX12_waysOfGet_28 : decode cX12_waysOfGet 28 = .ok (.iload 4, 2) := by decide +kernel
theorem dX12_waysOfGet_30 : decode cX12_waysOfGet 30 = .ok (.bipush 124, 2) := by decide +kernel
theorem dX12_waysOfGet_32 : decode cX12_waysOfGet 32 = .ok (.iand, 1) := by decide +kernel
theorem dX12_waysOfGet_33 : decode cX12_waysOfGet 33 = .ok (.ifCond .eq 9, 3) := by decide +kernel
theorem dX12_waysOfGet_36 : decode cX12_waysOfGet 36 = .ok (.aload_n 0, 1) := by decide +kernel
theorem dX12_waysOfGet_37 : decode cX12_waysOfGet 37 = .ok (.iload_n 3, 1) := by decide +kernel
theorem dX12_waysOfGet_38 : decode cX12_waysOfGet 38 = .ok (.iconst 1, 1) := by decide +kernel
theorem dX12_waysOfGet_39 : decode cX12_waysOfGet 39 = .ok (.invokevirtual 1072, 3) := by decide +kernel
theorem dX12_waysOfGet_42 : decode cX12_waysOfGet 42 = .ok (.aload_n 0, 1) := by decide +kernel
theorem dX12_waysOfGet_43 : decode cX12_waysOfGet 43 = .ok (.iload_n 2, 1) := by decide +kernel
theorem dX12_waysOfGet_44 : decode cX12_waysOfGet 44 = .ok (.invokevirtual 1147, 3) := by decide +kernel
theorem dX12_waysOfGet_47 : decode cX12_waysOfGet 47 = .ok (.iload 4, 2) := by decide +kernel
theorem dX12_waysOfGet_49 : decode cX12_waysOfGet 49 = .ok (.sipush 384, 3) := by decide +kernel
theorem dX12_waysOfGet_52 : decode cX12_waysOfGet 52 = .ok (.iand, 1) := by decide +kernel
theorem dX12_waysOfGet_53 : decode cX12_waysOfGet 53 = .ok (.ifCond .eq 9, 3) := by decide +kernel
theorem dX12_waysOfGet_56 : decode cX12_waysOfGet 56 = .ok (.aload_n 0, 1) := by decide +kernel
theorem dX12_waysOfGet_57 : decode cX12_waysOfGet 57 = .ok (.iload_n 1, 1) := by decide +kernel
theorem dX12_waysOfGet_58 : decode cX12_waysOfGet 58 = .ok (.iload_n 3, 1) := by decide +kernel
theorem dX12_waysOfGet_59 : decode cX12_waysOfGet 59 = .ok (.invokevirtual 1303, 3) := by decide +kernel
theorem dX12_waysOfGet_62 : decode cX12_waysOfGet 62 = .ok (.aload_n 0, 1) := by decide +kernel
theorem dX12_waysOfGet_63 : decode cX12_waysOfGet 63 = .ok (.iload_n 2, 1) := by decide +kernel
theorem dX12_waysOfGet_64 : decode cX12_waysOfGet 64 = .ok (.invokevirtual 1147, 3) := by decide +kernel
theorem dX12_waysOfGet_67 : decode cX12_waysOfGet 67 = .ok (.aload_n 0, 1) := by decide +kernel
theorem dX12_waysOfGet_68 : decode cX12_waysOfGet 68 = .ok (.iload_n 1, 1) := by decide +kernel
theorem dX12_waysOfGet_69 : decode cX12_waysOfGet 69 = .ok (.invokevirtual 1062, 3) := by decide +kernel
theorem dX12_waysOfGet_72 : decode cX12_waysOfGet 72 = .ok (.ifCond .eq 45, 3) := by decide +kernel
theorem dX12_waysOfGet_75 : decode cX12_waysOfGet 75 = .ok (.aload_n 0, 1) := by decide +kernel
theorem dX12_waysOfGet_76 : decode cX12_waysOfGet 76 = .ok (.aload_n 0, 1) := by decide +kernel
theorem dX12_waysOfGet_77 : decode cX12_waysOfGet 77 = .ok (.getfield 220, 3) := by decide +kernel
theorem dX12_waysOfGet_80 : decode cX12_waysOfGet 80 = .ok (.iload_n 1, 1) := by decide +kernel
theorem dX12_waysOfGet_81 : decode cX12_waysOfGet 81 = .ok (.laload, 1) := by decide +kernel
theorem dX12_waysOfGet_82 : decode cX12_waysOfGet 82 = .ok (.aload_n 0, 1) := by decide +kernel
theorem dX12_waysOfGet_83 : decode cX12_waysOfGet 83 = .ok (.getfield 223, 3) := by decide +kernel
theorem dX12_waysOfGet_86 : decode cX12_waysOfGet 86 = .ok (.iload_n 1, 1) := by decide +kernel
theorem dX12_waysOfGet_87 : decode cX12_waysOfGet 87 = .ok (.laload, 1) := by decide +kernel
theorem dX12_waysOfGet_88 : decode cX12_waysOfGet 88 = .ok (.iload_n 3, 1) := by decide +kernel
theorem dX12_waysOfGet_89 : decode cX12_waysOfGet 89 = .ok (.iconst 1, 1) := by decide +kernel
theorem dX12_waysOfGet_90 : decode cX12_waysOfGet 90 = .ok (.iadd, 1) := by decide +kernel
theorem dX12_waysOfGet_91 : decode cX12_waysOfGet 91 = .ok (.invokevirtual 1306, 3) := by decide +kernel
theorem dX12_waysOfGet_94 : decode cX12_waysOfGet 94 = .ok (.aload_n 0, 1) := by decide +kernel
theorem dX12_waysOfGet_95 : decode cX12_waysOfGet 95 = .ok (.iload_n 3, 1) := by decide +kernel
theorem dX12_waysOfGet_96 : decode cX12_waysOfGet 96 = .ok (.iconst 1, 1) := by decide +kernel
theorem dX12_waysOfGet_97 : decode cX12_waysOfGet 97 = .ok (.iadd, 1) := by decide +kernel
theorem dX12_waysOfGet_98 : decode cX12_waysOfGet 98 = .ok (.iload_n 3, 1) := by decide +kernel
theorem dX12_waysOfGet_99 : decode cX12_waysOfGet 99 = .ok (.invokevirtual 1069, 3) := by decide +kernel
theorem dX12_waysOfGet_102 : decode cX12_waysOfGet 102 = .ok (.istore 5, 2) := by decide +kernel
theorem dX12_waysOfGet_104 : decode cX12_waysOfGet 104 = .ok (.aload_n 0, 1) := by decide +kernel
theorem dX12_waysOfGet_105 : decode cX12_waysOfGet 105 = .ok (.getfield 1156, 3) := by decide +kernel
theorem dX12_waysOfGet_108 : decode cX12_waysOfGet 108 = .ok (.ifCond .eq 9, 3) := by decide +kernel
theorem dX12_waysOfGet_111 : decode cX12_waysOfGet 111 = .ok (.aload_n 0, 1) := by decide +kernel
theorem dX12_waysOfGet_112 : decode cX12_waysOfGet 112 = .ok (.iload_n 3, 1) := by decide +kernel
theorem dX12_waysOfGet_113 : decode cX12_waysOfGet 113 = .ok (.iconst 1, 1) := by decide +kernel
theorem dX12_waysOfGet_114 : decode cX12_waysOfGet 114 = .ok (.invokevirtual 1072, 3) := by decide +kernel
theorem dX12_waysOfGet_117 : decode cX12_waysOfGet 117 = .ok (.aload_n 0, 1) := by decide +kernel
theorem dX12_waysOfGet_118 : decode cX12_waysOfGet 118 = .ok (.iload_n 1, 1) := by decide +kernel
theorem dX12_waysOfGet_119 : decode cX12_waysOfGet 119 = .ok (.invokevirtual 1062, 3) := by decide +kernel
theorem dX12_waysOfGet_122 : decode cX12_waysOfGet 122 = .ok (.ifCond .eq 24, 3) := by decide +kernel
theorem dX12_waysOfGet_125 : decode cX12_waysOfGet 125 = .ok (.aload_n 0, 1) := by decide +kernel
theorem dX12_waysOfGet_126 : decode cX12_waysOfGet 126 = .ok (.iload_n 3, 1) := by decide +kernel
theorem dX12_waysOfGet_127 : decode cX12_waysOfGet 127 = .ok (.invokevirtual 1059, 3) := by decide +kernel
theorem dX12_waysOfGet_130 : decode cX12_waysOfGet 130 = .ok (.iconst 1, 1) := by decide +kernel
theorem dX12_waysOfGet_131 : decode cX12_waysOfGet 131 = .ok (.if_icmp .ne 15, 3) := by decide +kernel
theorem dX12_waysOfGet_134 : decode cX12_waysOfGet 134 = .ok (.aload_n 0, 1) := by decide +kernel
theorem dX12_waysOfGet_135 : decode cX12_waysOfGet 135 = .ok (.iload_n 3, 1) := by decide +kernel
theorem dX12_waysOfGet_136 : decode cX12_waysOfGet 136 = .ok (.invokevirtual 1062, 3) := by decide +kernel
theorem dX12_waysOfGet_139 : decode cX12_waysOfGet 139 = .ok (.ifCond .ne 7, 3) := by decide +kernel
theorem dX12_waysOfGet_142 : decode cX12_waysOfGet 142 = .ok (.iconst 1, 1) := by decide +kernel
theorem dX12_waysOfGet_143 : decode cX12_waysOfGet 143 = .ok (.goto 4, 3) := by decide +kernel
theorem dX12_waysOfGet_146 : decode cX12_waysOfGet 146 = .ok (.iconst 0, 1) := by decide +kernel
theorem dX12_waysOfGet_147 : decode cX12_waysOfGet 147 = .ok (.istore 5, 2) := by decide +kernel
theorem dX12_waysOfGet_149 : decode cX12_waysOfGet 149 = .ok (.aload_n 0, 1) := by decide +kernel
theorem dX12_waysOfGet_150 : decode cX12_waysOfGet 150 = .ok (.iconst 2, 1) := by decide +kernel
theorem dX12_waysOfGet_151 : decode cX12_waysOfGet 151 = .ok (.iload_n 3, 1) := by decide +kernel
theorem dX12_waysOfGet_152 : decode cX12_waysOfGet 152 = .ok (.invokevirtual 1258, 3) := by decide +kernel
theorem dX12_waysOfGet_155 : decode cX12_waysOfGet 155 = .ok (.aload_n 0, 1) := by decide +kernel
theorem dX12_waysOfGet_156 : decode cX12_waysOfGet 156 = .ok (.aload_n 0, 1) := by decide +kernel
theorem dX12_waysOfGet_157 : decode cX12_waysOfGet 157 = .ok (.getfield 1208, 3) := by decide +kernel
theorem dX12_waysOfGet_160 : decode cX12_waysOfGet 160 = .ok (.iload 5, 2) := by decide +kernel
theorem dX12_waysOfGet_162 : decode cX12_waysOfGet 162 = .ok (.ifCond .eq 8, 3) := by decide +kernel
theorem dX12_waysOfGet_165 : decode cX12_waysOfGet 165 = .ok (.bipush 8, 2) := by decide +kernel
theorem dX12_waysOfGet_167 : decode cX12_waysOfGet 167 = .ok (.goto 4, 3) := by decide +kernel
theorem dX12_waysOfGet_170 : decode cX12_waysOfGet 170 = .ok (.iconst 0, 1) := by decide +kernel
theorem dX12_waysOfGet_171 : decode cX12_waysOfGet 171 = .ok (.ior, 1) := by decide +kernel
theorem dX12_waysOfGet_172 : decode cX12_waysOfGet 172 = .ok (.putfield 1208, 3) := by decide +kernel
theorem dX12_waysOfGet_175 : decode cX12_waysOfGet 175 = .ok (.iload 4, 2) := by decide +kernel
theorem dX12_waysOfGet_177 : decode cX12_waysOfGet 177 = .ok (.iconst 3, 1) := by decide +kernel
theorem dX12_waysOfGet_178 : decode cX12_waysOfGet 178 = .ok (.iand, 1) := by decide +kernel
theorem dX12_waysOfGet_179 : decode cX12_waysOfGet 179 = .ok (.ifCond .eq 13, 3) := by decide +kernel
theorem dX12_waysOfGet_182 : decode cX12_waysOfGet 182 = .ok (.aload_n 0, 1) := by decide +kernel
theorem dX12_waysOfGet_183 : decode cX12_waysOfGet 183 = .ok (.aload_n 0, 1) := by decide +kernel
theorem dX12_waysOfGet_184 : decode cX12_waysOfGet 184 = .ok (.getfield 1188, 3) := by decide +kernel
theorem dX12_waysOfGet_187 : decode cX12_waysOfGet 187 = .ok (.bipush 6, 2) := by decide +kernel
theorem dX12_waysOfGet_189 : decode cX12_waysOfGet 189 = .ok (.invokevirtual 1292, 3) := by decide +kernel
theorem dX12_waysOfGet_192 : decode cX12_waysOfGet 192 = .ok (.return_, 1) := by decide +kernel
theorem dX12_waysOfPut_0 : decode cX12_waysOfPut 0 = .ok (.aload_n 0, 1) := by decide +kernel
theorem dX12_waysOfPut_1 : decode cX12_waysOfPut 1 = .ok (.iconst 2, 1) := by decide +kernel
theorem dX12_waysOfPut_2 : decode cX12_waysOfPut 2 = .ok (.invokevirtual 1195, 3) := by decide +kernel
theorem dX12_waysOfPut_5 : decode cX12_waysOfPut 5 = .ok (.istore_n 1, 1) := by decide +kernel
theorem dX12_waysOfPut_6 : decode cX12_waysOfPut 6 = .ok (.aload_n 0, 1) := by decide +kernel
theorem dX12_waysOfPut_7 : decode cX12_waysOfPut 7 = .ok (.iconst 0, 1) := by decide +kernel
theorem dX12_waysOfPut_8 : decode cX12_waysOfPut 8 = .ok (.invokevirtual 1195, 3) := by decide +kernel
theorem dX12_waysOfPut_11 : decode cX12_waysOfPut 11 = .ok (.istore_n 2, 1) := by decide +kernel
theorem dX12_waysOfPut_12 : decode cX12_waysOfPut 12 = .ok (.aload_n 0, 1) := by decide +kernel
theorem dX12_waysOfPut_13 : decode cX12_waysOfPut 13 = .ok (.iload_n 1, 1) := by decide +kernel
theorem dX12_waysOfPut_14 : decode cX12_waysOfPut 14 = .ok (.invokevirtual 1059, 3) := by decide +kernel
theorem dX12_waysOfPut_17 : decode cX12_waysOfPut 17 = .ok (.istore_n 3, 1) := by decide +kernel
theorem dX12_waysOfPut_18 : decode cX12_waysOfPut 18 = .ok (.aload_n 0, 1) := by decide +kernel
theorem dX12_waysOfPut_19 : decode cX12_waysOfPut 19 = .ok (.aload_n 0, 1) := by decide +kernel
theorem dX12_waysOfPut_20 : decode cX12_waysOfPut 20 = .ok (.iconst 1, 1) := by decide +kernel
theorem dX12_waysOfPut_21 : decode cX12_waysOfPut 21 = .ok (.invokevirtual 1195, 3) := by decide +kernel
theorem dX12_waysOfPut_24 : decode cX12_waysOfPut 24 = .ok (.invokevirtual 1147, 3) := by decide +kernel
theorem dX12_waysOfPut_27 : decode cX12_waysOfPut 27 = .ok (.iload_n 3, 1) := by decide +kernel
theorem dX12_waysOfPut_28 : decode cX12_waysOfPut 28 = .ok (.bipush (-4), 2) := by decide +kernel
theorem dX12_waysOfPut_30 : decode cX12_waysOfPut 30 = .ok (.iand, 1) := by decide +kernel
theorem dX12_waysOfPut_31 : decode cX12_waysOfPut 31 = .ok (.ifCond .ne 11, 3) := by decide +kernel
theorem dX12_waysOfPut_34 : decode cX12_waysOfPut 34 = .ok (.aload_n 0, 1) := by decide +kernel
theorem dX12_waysOfPut_35 : decode cX12_waysOfPut 35 = .ok (.iload_n 1, 1) := by decide +kernel
theorem dX12_waysOfPut_36 : decode cX12_waysOfPut 36 = .ok (.invokevirtual 1062, 3) := by decide +kernel
theorem dX12_waysOfPut_39 : decode cX12_waysOfPut 39 = .ok (.ifCond .eq 7, 3) := by decide +kernel
theorem dX12_waysOfPut_42 : decode cX12_waysOfPut 42 = .ok (.iconst 1, 1) := by decide +kernel
theorem dX12_waysOfPut_43 : decode cX12_waysOfPut 43 = .ok (.goto 4, 3) := by decide +kernel
theorem dX12_waysOfPut_46 : decode cX12_waysOfPut 46 = .ok (.iconst 0, 1) := by decide +kernel
theorem dX12_waysOfPut_47 : decode cX12_waysOfPut 47 = .ok (.istore 4, 2) := by decide +kernel
theorem dX12_waysOfPut_49 : decode cX12_waysOfPut 49 = .ok (.iload 4, 2) := by decide +kernel
theorem dX12_waysOfPut_51 : decode cX12_waysOfPut 51 = .ok (.ifCond .eq 193, 3) := by decide +kernel
theorem dX12_waysOfPut_54 : decode cX12_waysOfPut 54 = .ok (.aload_n 0, 1) := by decide +kernel
theorem dX12_waysOfPut_55 : decode cX12_waysOfPut 55 = .ok (.aload_n 0, 1) := by decide +kernel
theorem dX12_waysOfPut_56 : decode cX12_waysOfPut 56 = .ok (.getfield 220, 3) := by decide +kernel
theorem dX12_waysOfPut_59 : decode cX12_waysOfPut 59 = .ok (.iload_n 1, 1) := by decide +kernel
theorem dX12_waysOfPut_60 : decode cX12_waysOfPut 60 = .ok (.laload, 1) := by decide +kernel
theorem dX12_waysOfPut_61 : decode cX12_waysOfPut 61 = .ok (.aload_n 0, 1) := by decide +kernel
theorem dX12_waysOfPut_62 : decode cX12_waysOfPut 62 = .ok (.getfield 223, 3) := by decide +kernel
theorem dX12_waysOfPut_65 : decode cX12_waysOfPut 65 = .ok (.iload_n 1, 1) := by decide +kernel
theorem dX12_waysOfPut_66 : decode cX12_waysOfPut 66 = .ok (.laload, 1) := by decide +kernel
theorem dX12_waysOfPut_67 : decode cX12_waysOfPut 67 = .ok (.iload_n 2, 1) := by decide +kernel
theorem dX12_waysOfPut_68 : decode cX12_waysOfPut 68 = .ok (.iload_n 3, 1) := by decide +kernel
theorem dX12_waysOfPut_69 : decode cX12_waysOfPut 69 = .ok (.ifCond .ne 7, 3) := by decide +kernel
theorem dX12_waysOfPut_72 : decode cX12_waysOfPut 72 = .ok (.iconst 1, 1) := by decide +kernel
theorem dX12_waysOfPut_73 : decode cX12_waysOfPut 73 = .ok (.goto 4, 3) := by decide +kernel
theorem dX12_waysOfPut_76 : decode cX12_waysOfPut 76 = .ok (.iconst 0, 1) := by decide +kernel
theorem dX12_waysOfPut_77 : decode cX12_waysOfPut 77 = .ok (.iconst 1, 1) := by decide +kernel
theorem dX12_waysOfPut_78 : decode cX12_waysOfPut 78 = .ok (.invokevirtual 1234, 3) := by decide +kernel
theorem dX12_waysOfPut_81 : decode cX12_waysOfPut 81 = .ok (.aload_n 0, 1) := by decide +kernel
theorem dX12_waysOfPut_82 : decode cX12_waysOfPut 82 = .ok (.aload_n 0, 1) := by decide +kernel
theorem dX12_waysOfPut_83 : decode cX12_waysOfPut 83 = .ok (.getfield 762, 3) := by decide +kernel
theorem dX12_waysOfPut_86 : decode cX12_waysOfPut 86 = .ok (.invokevirtual 1153, 3) := by decide +kernel
theorem dX12_waysOfPut_89 : decode cX12_waysOfPut 89 = .ok (.istore 5, 2) := by decide +kernel
theorem dX12_waysOfPut_91 : decode cX12_waysOfPut 91 = .ok (.iconst 0, 1) := by decide +kernel
theorem dX12_waysOfPut_92 : decode cX12_waysOfPut 92 = .ok (.istore 6, 2) := by decide +kernel
theorem dX12_waysOfPut_94 : decode cX12_waysOfPut 94 = .ok (.iload 6, 2) := by decide +kernel
theorem dX12_waysOfPut_96 : decode cX12_waysOfPut 96 = .ok (.aload_n 0, 1) := by decide +kernel
theorem dX12_waysOfPut_97 : decode cX12_waysOfPut 97 = .ok (.getfield 762, 3) := by decide +kernel
theorem dX12_waysOfPut_100 : decode cX12_waysOfPut 100 = .ok (.if_icmp .ge 40, 3) := by decide +kernel
theorem dX12_waysOfPut_103 : decode cX12_waysOfPut 103 = .ok (.iload 5, 2) := by decide +kernel
theorem dX12_waysOfPut_105 : decode cX12_waysOfPut 105 = .ok (.ifCond .ne 22, 3) := by decide +kernel
theorem dX12_waysOfPut_108 : decode cX12_waysOfPut 108 = .ok (.aload_n 0, 1) := by decide +kernel
theorem dX12_waysOfPut_109 : decode cX12_waysOfPut 109 = .ok (.iload 6, 2) := by decide +kernel
theorem dX12_waysOfPut_111 : decode cX12_waysOfPut 111 = .ok (.invokevirtual 1153, 3) := by decide +kernel
theorem dX12_waysOfPut_114 : decode cX12_waysOfPut 114 = .ok (.ifCond .eq 17, 3) := by decide +kernel
theorem dX12_waysOfPut_117 : decode cX12_waysOfPut 117 = .ok (.aload_n 0, 1) := by decide +kernel
theorem dX12_waysOfPut_118 : decode cX12_waysOfPut 118 = .ok (.getfield 277, 3) := by decide +kernel
theorem dX12_waysOfPut_121 : decode cX12_waysOfPut 121 = .ok (.iload 6, 2) := by decide +kernel
theorem dX12_waysOfPut_123 : decode cX12_waysOfPut 123 = .ok (.baload, 1) := by decide +kernel
theorem dX12_waysOfPut_124 : decode cX12_waysOfPut 124 = .ok (.ifCond .eq 7, 3) := by decide +kernel
theorem dX12_waysOfPut_127 : decode cX12_waysOfPut 127 = .ok (.iconst 1, 1) := by decide +kernel
theorem dX12_waysOfPut_128 : decode cX12_waysOfPut 128 = .ok (.goto 4, 3) := by decide +kernel
theorem dX12_waysOfPut_131 : decode cX12_waysOfPut 131 = .ok (.iconst 0, 1) := by decide +kernel
theorem dX12_waysOfPut_132 : decode cX12_waysOfPut 132 = .ok (.istore 5, 2) := by decide +kernel
theorem dX12_waysOfPut_134 : decode cX12_waysOfPut 134 = .ok (.iinc 6 1, 3) := by decide +kernel
theorem dX12_waysOfPut_137 : decode cX12_waysOfPut 137 = .ok (.goto (-43), 3) := by decide +kernel
theorem dX12_waysOfPut_140 : decode cX12_waysOfPut 140 = .ok (.iconst 0, 1) := by decide +kernel
theorem dX12_waysOfPut_141 : decode cX12_waysOfPut 141 = .ok (.istore 6, 2) := by decide +kernel
theorem dX12_waysOfPut_143 : decode cX12_waysOfPut 143 = .ok (.iload 6, 2) := by decide +kernel
theorem dX12_waysOfPut_145 : decode cX12_waysOfPut 145 = .ok (.aload_n 0, 1) := by decide +kernel
theorem dX12_waysOfPut_146 : decode cX12_waysOfPut 146 = .ok (.getfield 765, 3) := by decide +kernel
theorem dX12_waysOfPut_149 : decode cX12_waysOfPut 149 = .ok (.if_icmp .ge 76, 3) := by decide +kernel
theorem dX12_waysOfPut_152 : decode cX12_waysOfPut 152 = .ok (.iload 5, 2) := by decide +kernel
theorem dX12_waysOfPut_154 : decode cX12_waysOfPut 154 = .ok (.ifCond .eq 71, 3) := by decide +kernel
theorem dX12_waysOfPut_157 : decode cX12_waysOfPut 157 = .ok (.aload_n 0, 1) := by decide +kernel
theorem dX12_waysOfPut_158 : decode cX12_waysOfPut 158 = .ok (.getfield 220, 3) := by decide +kernel
theorem dX12_waysOfPut_161 : decode cX12_waysOfPut 161 = .ok (.iload_n 1, 1) := by decide +kernel
theorem dX12_waysOfPut_162 : decode cX12_waysOfPut 162 = .ok (.laload, 1) := by decide +kernel
theorem dX12_waysOfPut_163 : decode cX12_waysOfPut 163 = .ok (.aload_n 0, 1) := by decide +kernel
theorem dX12_waysOfPut_164 : decode cX12_waysOfPut 164 = .ok (.getfield 223, 3) := by decide +kernel
theorem dX12_waysOfPut_167 : decode cX12_waysOfPut 167 = .ok (.iload_n 1, 1) := by decide +kernel
theorem dX12_waysOfPut_168 : decode cX12_waysOfPut 168 = .ok (.laload, 1) := by decide +kernel
theorem dX12_waysOfPut_169 : decode cX12_waysOfPut 169 = .ok (.iload 6, 2) := by decide +kernel
theorem dX12_waysOfPut_171 : decode cX12_waysOfPut 171 = .ok (.invokestatic 1125, 3) := by decide +kernel
theorem dX12_waysOfPut_174 : decode cX12_waysOfPut 174 = .ok (.ifCond .eq 45, 3) := by decide +kernel
theorem dX12_waysOfPut_177 : decode cX12_waysOfPut 177 = .ok (.aload_n 0, 1) := by decide +kernel
theorem dX12_waysOfPut_178 : decode cX12_waysOfPut 178 = .ok (.iload 6, 2) := by decide +kernel
theorem dX12_waysOfPut_180 : decode cX12_waysOfPut 180 = .ok (.invokevirtual 1169, 3) := by decide +kernel
theorem dX12_waysOfPut_183 : decode cX12_waysOfPut 183 = .ok (.ifCond .eq 36, 3) := by decide +kernel
theorem dX12_waysOfPut_186 : decode cX12_waysOfPut 186 = .ok (.aload_n 0, 1) := by decide +kernel
theorem dX12_waysOfPut_187 : decode cX12_waysOfPut 187 = .ok (.getfield 256, 3) := by decide +kernel
theorem dX12_waysOfPut_190 : decode cX12_waysOfPut 190 = .ok (.aload_n 0, 1) := by decide +kernel
theorem dX12_waysOfPut_191 : decode cX12_waysOfPut 191 = .ok (.sipush 639, 3) := by decide +kernel
theorem dX12_waysOfPut_194 : decode cX12_waysOfPut 194 = .ok (.iload 6, 2) := by decide +kernel
theorem dX12_waysOfPut_196 : decode cX12_waysOfPut 196 = .ok (.invokevirtual 1101, 3) := by decide +kernel
theorem dX12_waysOfPut_199 : decode cX12_waysOfPut 199 = .ok (.baload, 1) := by decide +kernel
theorem dX12_waysOfPut_200 : decode cX12_waysOfPut 200 = .ok (.ifCond .eq 19, 3) := by decide +kernel
theorem dX12_waysOfPut_203 : decode cX12_waysOfPut 203 = .ok (.aload_n 0, 1) := by decide +kernel
theorem dX12_waysOfPut_204 : decode cX12_waysOfPut 204 = .ok (.aload_n 0, 1) := by decide +kernel
theorem dX12_waysOfPut_205 : decode cX12_waysOfPut 205 = .ok (.sipush 639, 3) := by decide +kernel
theorem dX12_waysOfPut_208 : decode cX12_waysOfPut 208 = .ok (.iload 6, 2) := by decide +kernel
theorem dX12_waysOfPut_210 : decode cX12_waysOfPut 210 = .ok (.iconst 0, 1) := by decide +kernel
theorem dX12_waysOfPut_211 : decode cX12_waysOfPut 211 = .ok (.invokevirtual 1163, 3) := by decide +kernel
theorem dX12_waysOfPut_214 : decode cX12_waysOfPut 214 = .ok (.bipush 64, 2) := by decide +kernel
theorem dX12_waysOfPut_216 : decode cX12_waysOfPut 216 = .ok (.invokevirtual 1072, 3) := by decide +kernel
theorem dX12_waysOfPut_219 : decode cX12_waysOfPut 219 = .ok (.iinc 6 1, 3) := by decide +kernel
theorem dX12_waysOfPut_222 : decode cX12_waysOfPut 222 = .ok (.goto (-79), 3) := by decide +kernel
theorem dX12_waysOfPut_225 : decode cX12_waysOfPut 225 = .ok (.ldc_w 1218, 3) := by decide +kernel
theorem dX12_waysOfPut_228 : decode cX12_waysOfPut 228 = .ok (.istore 6, 2) := by decide +kernel
theorem dX12_waysOfPut_230 : decode cX12_waysOfPut 230 = .ok (.aload_n 0, 1) := by decide +kernel
theorem dX12_waysOfPut_231 : decode cX12_waysOfPut 231 = .ok (.iload_n 2, 1) := by decide +kernel
theorem dX12_waysOfPut_232 : decode cX12_waysOfPut 232 = .ok (.iload 6, 2) := by decide +kernel
theorem dX12_waysOfPut_234 : decode cX12_waysOfPut 234 = .ok (.invokevirtual 1092, 3) := by decide +kernel
theorem dX12_waysOfPut_237 : decode cX12_waysOfPut 237 = .ok (.aload_n 0, 1) := by decide +kernel
theorem dX12_waysOfPut_238 : decode cX12_waysOfPut 238 = .ok (.iconst 3, 1) := by decide +kernel
theorem dX12_waysOfPut_239 : decode cX12_waysOfPut 239 = .ok (.iload 6, 2) := by decide +kernel
theorem dX12_waysOfPut_241 : decode cX12_waysOfPut 241 = .ok (.invokevirtual 1258, 3) := by decide +kernel
theorem dX12_waysOfPut_244 : decode cX12_waysOfPut 244 = .ok (.iload_n 3, 1) := by decide +kernel
theorem dX12_waysOfPut_245 : decode cX12_waysOfPut 245 = .ok (.iconst 3, 1) := by decide +kernel
theorem dX12_waysOfPut_246 : decode cX12_waysOfPut 246 = .ok (.iand, 1) := by decide +kernel
theorem dX12_waysOfPut_247 : decode cX12_waysOfPut 247 = .ok (.ifCond .eq 13, 3) := by decide +kernel
theorem dX12_waysOfPut_250 : decode cX12_waysOfPut 250 = .ok (.aload_n 0, 1) := by decide +kernel
theorem dX12_waysOfPut_251 : decode cX12_waysOfPut 251 = .ok (.aload_n 0, 1) := by decide +kernel
theorem dX12_waysOfPut_252 : decode cX12_waysOfPut 252 = .ok (.getfield 1188, 3) := by decide +kernel
theorem dX12_waysOfPut_255 : decode cX12_waysOfPut 255 = .ok (.bipush 6, 2) := by decide +kernel
theorem dX12_waysOfPut_257 : decode cX12_waysOfPut 257 = .ok (.invokevirtual 1292, 3) := by decide +kernel
theorem dX12_waysOfPut_260 : decode cX12_waysOfPut 260 = .ok (.return_, 1) := by decide +kernel
theorem dX12_waysOfDelete_0 : decode cX12_waysOfDelete 0 = .ok (.aload_n 0, 1) := by decide +kernel
theorem dX12_waysOfDelete_1 : decode cX12_waysOfDelete 1 = .ok (.iconst 1, 1) := by decide +kernel
theorem dX12_waysOfDelete_2 : decode cX12_waysOfDelete 2 = .ok (.invokevirtual 1195, 3) := by decide +kernel
theorem dX12_waysOfDelete_5 : decode cX12_waysOfDelete 5 = .ok (.istore_n 1, 1) := by decide +kernel
theorem dX12_waysOfDelete_6 : decode cX12_waysOfDelete 6 = .ok (.aload_n 0, 1) := by decide +kernel
theorem dX12_waysOfDelete_7 : decode cX12_waysOfDelete 7 = .ok (.iload_n 1, 1) := by decide +kernel
theorem dX12_waysOfDelete_8 : decode cX12_waysOfDelete 8 = .ok (.invokevirtual 1059, 3) := by decide +kernel
theorem dX12_waysOfDelete_11 : decode cX12_waysOfDelete 11 = .ok (.istore_n 2, 1) := by decide +kernel
theorem dX12_waysOfDelete_12 : decode cX12_waysOfDelete 12 = .ok (.aload_n 0, 1) := by decide +kernel
theorem dX12_waysOfDelete_13 : decode cX12_waysOfDelete 13 = .ok (.aload_n 0, 1) := by decide +kernel
theorem dX12_waysOfDelete_14 : decode cX12_waysOfDelete 14 = .ok (.iconst 0, 1) := by decide +kernel
theorem dX12_waysOfDelete_15 : decode cX12_waysOfDelete 15 = .ok (.invokevirtual 1195, 3) := by decide +kernel
theorem dX12_waysOfDelete_18 : decode cX12_waysOfDelete 18 = .ok (.invokevirtual 1147, 3) := by decide +kernel
theorem dX12_waysOfDelete_21 : decode cX12_waysOfDelete 21 = .ok (.iload_n 2, 1) := by decide +kernel
theorem dX12_waysOfDelete_22 : decode cX12_waysOfDelete 22 = .ok (.bipush (-4), 2) := by decide +kernel
theorem dX12_waysOfDelete_24 : decode cX12_waysOfDelete 24 = .ok (.iand, 1) := by decide +kernel
theorem dX12_waysOfDelete_25 : decode cX12_waysOfDelete 25 = .ok (.ifCond .ne 11, 3) := by decide +kernel
theorem dX12_waysOfDelete_28 : decode cX12_waysOfDelete 28 = .ok (.aload_n 0, 1) := by decide +kernel
theorem dX12_waysOfDelete_29 : decode cX12_waysOfDelete 29 = .ok (.iload_n 1, 1) := by decide +kernel
theorem dX12_waysOfDelete_30 : decode cX12_waysOfDelete 30 = .ok (.invokevirtual 1062, 3) := by decide +kernel
theorem dX12_waysOfDelete_33 : decode cX12_waysOfDelete 33 = .ok (.ifCond .eq 7, 3) := by decide +kernel
theorem dX12_waysOfDelete_36 : decode cX12_waysOfDelete 36 = .ok (.iconst 1, 1) := by decide +kernel
theorem dX12_waysOfDelete_37 : decode cX12_waysOfDelete 37 = .ok (.goto 4, 3) := by decide +kernel
theorem dX12_waysOfDelete_40 : decode cX12_waysOfDelete 40 = .ok (.iconst 0, 1) := by decide +kernel
theorem dX12_waysOfDelete_41 : decode cX12_waysOfDelete 41 = .ok (.istore_n 3, 1) := by decide +kernel
theorem dX12_waysOfDelete_42 : decode cX12_waysOfDelete 42 = .ok (.iload_n 3, 1) := by decide +kernel
theorem dX12_waysOfDelete_43 : decode cX12_waysOfDelete 43 = .ok (.ifCond .eq 336, 3) := by decide +kernel
theorem dX12_waysOfDelete_46 : decode cX12_waysOfDelete 46 = .ok (.iconst 0, 1) := by decide +kernel
theorem dX12_waysOfDelete_47 : decode cX12_waysOfDelete 47 = .ok (.istore 4, 2) := by decide +kernel
theorem dX12_waysOfDelete_49 : decode cX12_waysOfDelete 49 = .ok (.iload_n 2, 1) := by decide +kernel
theorem dX12_waysOfDelete_50 : decode cX12_waysOfDelete 50 = .ok (.ifCond .ne 25, 3) := by decide +kernel
theorem dX12_waysOfDelete_53 : decode cX12_waysOfDelete 53 = .ok (.aload_n 0, 1) := by decide +kernel
theorem dX12_waysOfDelete_54 : decode cX12_waysOfDelete 54 = .ok (.getfield 1118, 3) := by decide +kernel
theorem dX12_waysOfDelete_57 : decode cX12_waysOfDelete 57 = .ok (.lconst 1, 1) := by decide +kernel
theorem dX12_waysOfDelete_58 : decode cX12_waysOfDelete 58 = .ok (.lcmp, 1) := by decide +kernel
theorem dX12_waysOfDelete_59 : decode cX12_waysOfDelete 59 = .ok (.ifCond .ne 16, 3) := by decide +kernel
theorem dX12_waysOfDelete_62 : decode cX12_waysOfDelete 62 = .ok (.aload_n 0, 1) := by decide +kernel
theorem dX12_waysOfDelete_63 : decode cX12_waysOfDelete 63 = .ok (.getfield 1122, 3) := by decide +kernel
theorem dX12_waysOfDelete_66 : decode cX12_waysOfDelete 66 = .ok (.lconst 0, 1) := by decide +kernel
theorem dX12_waysOfDelete_67 : decode cX12_waysOfDelete 67 = .ok (.lcmp, 1) := by decide +kernel
theorem dX12_waysOfDelete_68 : decode cX12_waysOfDelete 68 = .ok (.ifCond .ne 7, 3) := by decide +kernel
theorem dX12_waysOfDelete_71 : decode cX12_waysOfDelete 71 = .ok (.iconst 1, 1) := by decide +kernel
theorem dX12_waysOfDelete_72 : decode cX12_waysOfDelete 72 = .ok (.goto 4, 3) := by decide +kernel
theorem dX12_waysOfDelete_75 : decode cX12_waysOfDelete 75 = .ok (.iconst 0, 1) := by decide +kernel
theorem dX12_waysOfDelete_76 : decode cX12_waysOfDelete 76 = .ok (.istore 5, 2) := by decide +kernel
theorem dX12_waysOfDelete_78 : decode cX12_waysOfDelete 78 = .ok (.aload_n 0, 1) := by decide +kernel
theorem dX12_waysOfDelete_79 : decode cX12_waysOfDelete 79 = .ok (.getfield 220, 3) := by decide +kernel
theorem dX12_waysOfDelete_82 : decode cX12_waysOfDelete 82 = .ok (.iload_n 1, 1) := by decide +kernel
theorem dX12_waysOfDelete_83 : decode cX12_waysOfDelete 83 = .ok (.laload, 1) := by decide +kernel
theorem dX12_waysOfDelete_84 : decode cX12_waysOfDelete 84 = .ok (.invokestatic 1129, 3) := by decide +kernel
theorem dX12_waysOfDelete_87 : decode cX12_waysOfDelete 87 = .ok (.aload_n 0, 1) := by decide +kernel
theorem dX12_waysOfDelete_88 : decode cX12_waysOfDelete 88 = .ok (.getfield 223, 3) := by decide +kernel
theorem dX12_waysOfDelete_91 : decode cX12_waysOfDelete 91 = .ok (.iload_n 1, 1) := by decide +kernel
theorem dX12_waysOfDelete_92 : decode cX12_waysOfDelete 92 = .ok (.laload, 1) := by decide +kernel
theorem dX12_waysOfDelete_93 : decode cX12_waysOfDelete 93 = .ok (.invokestatic 1129, 3) := by decide +kernel
theorem dX12_waysOfDelete_96 : decode cX12_waysOfDelete 96 = .ok (.iadd, 1) := by decide +kernel
theorem dX12_waysOfDelete_97 : decode cX12_waysOfDelete 97 = .ok (.istore 6, 2) := by decide +kernel
theorem dX12_waysOfDelete_99 : decode cX12_waysOfDelete 99 = .ok (.iconst 0, 1) := by decide +kernel
theorem dX12_waysOfDelete_100 : decode cX12_waysOfDelete 100 = .ok (.istore 7, 2) := by decide +kernel
theorem dX12_waysOfDelete_102 : decode cX12_waysOfDelete 102 = .ok (.iload 7, 2) := by decide +kernel
theorem dX12_waysOfDelete_104 : decode cX12_waysOfDelete 104 = .ok (.aload_n 0, 1) := by decide +kernel
theorem dX12_waysOfDelete_105 : decode cX12_waysOfDelete 105 = .ok (.getfield 765, 3) := by decide +kernel
theorem dX12_waysOfDelete_108 : decode cX12_waysOfDelete 108 = .ok (.if_icmp .ge 221, 3) := by decide +kernel
theorem dX12_waysOfDelete_111 : decode cX12_waysOfDelete 111 = .ok (.aload_n 0, 1) := by decide +kernel
theorem dX12_waysOfDelete_112 : decode cX12_waysOfDelete 112 = .ok (.getfield 220, 3) := by decide +kernel
theorem dX12_waysOfDelete_115 : decode cX12_waysOfDelete 115 = .ok (.iload_n 1, 1) := by decide +kernel
theorem dX12_waysOfDelete_116 : decode cX12_waysOfDelete 116 = .ok (.laload, 1) := by decide +kernel
theorem dX12_waysOfDelete_117 : decode cX12_waysOfDelete 117 = .ok (.aload_n 0, 1) := by decide +kernel
theorem dX12_waysOfDelete_118 : decode cX12_waysOfDelete 118 = .ok (.getfield 223, 3) := by decide +kernel
theorem dX12_waysOfDelete_121 : decode cX12_waysOfDelete 121 = .ok (.iload_n 1, 1) := by decide +kernel
theorem dX12_waysOfDelete_122 : decode cX12_waysOfDelete 122 = .ok (.laload, 1) := by decide +kernel
theorem dX12_waysOfDelete_123 : decode cX12_waysOfDelete 123 = .ok (.iload 7, 2) := by decide +kernel
theorem dX12_waysOfDelete_125 : decode cX12_waysOfDelete 125 = .ok (.invokestatic 1125, 3) := by decide +kernel
theorem dX12_waysOfDelete_128 : decode cX12_waysOfDelete 128 = .ok (.ifCond .ne 6, 3) := by decide +kernel
theorem dX12_waysOfDelete_131 : decode cX12_waysOfDelete 131 = .ok (.goto 192, 3) := by decide +kernel
theorem dX12_waysOfDelete_134 : decode cX12_waysOfDelete 134 = .ok (.aload_n 0, 1) := by decide +kernel
theorem dX12_waysOfDelete_135 : decode cX12_waysOfDelete 135 = .ok (.iload 7, 2) := by decide +kernel
theorem dX12_waysOfDelete_137 : decode cX12_waysOfDelete 137 = .ok (.invokevirtual 1169, 3) := by decide +kernel
theorem dX12_waysOfDelete_140 : decode cX12_waysOfDelete 140 = .ok (.istore 8, 2) := by decide +kernel
theorem dX12_waysOfDelete_142 : decode cX12_waysOfDelete 142 = .ok (.iload 4, 2) := by decide +kernel
theorem dX12_waysOfDelete_144 : decode cX12_waysOfDelete 144 = .ok (.ifCond .ne 16, 3) := by decide +kernel
theorem dX12_waysOfDelete_147 : decode cX12_waysOfDelete 147 = .ok (.iload 8, 2) := by decide +kernel
theorem dX12_waysOfDelete_149 : decode cX12_waysOfDelete 149 = .ok (.ifCond .eq 15, 3) := by decide +kernel
theorem dX12_waysOfDelete_152 : decode cX12_waysOfDelete 152 = .ok (.aload_n 0, 1) := by decide +kernel
theorem dX12_waysOfDelete_153 : decode cX12_waysOfDelete 153 = .ok (.iconst 0, 1) := by decide +kernel
theorem dX12_waysOfDelete_154 : decode cX12_waysOfDelete 154 = .ok (.invokevirtual 1153, 3) := by decide +kernel
theorem dX12_waysOfDelete_157 : decode cX12_waysOfDelete 157 = .ok (.ifCond .eq 7, 3) := by decide +kernel
theorem dX12_waysOfDelete_160 : decode cX12_waysOfDelete 160 = .ok (.iconst 1, 1) := by decide +kernel
theorem dX12_waysOfDelete_161 : decode cX12_waysOfDelete 161 = .ok (.goto 4, 3) := by decide +kernel
theorem dX12_waysOfDelete_164 : decode cX12_waysOfDelete 164 = .ok (.iconst 0, 1) := by decide +kernel
theorem dX12_waysOfDelete_165 : decode cX12_waysOfDelete 165 = .ok (.istore 4, 2) := by decide +kernel
theorem dX12_waysOfDelete_167 : decode cX12_waysOfDelete 167 = .ok (.iload 5, 2) := by decide +kernel
theorem dX12_waysOfDelete_169 : decode cX12_waysOfDelete 169 = .ok (.ifCond .eq 12, 3) := by decide +kernel
theorem dX12_waysOfDelete_172 : decode cX12_waysOfDelete 172 = .ok (.iload 8, 2) := by decide +kernel
theorem dX12_waysOfDelete_174 : decode cX12_waysOfDelete 174 = .ok (.ifCond .eq 7, 3) := by decide +kernel
theorem dX12_waysOfDelete_177 : decode cX12_waysOfDelete 177 = .ok (.iconst 1, 1) := by decide +kernel
theorem dX12_waysOfDelete_178 : decode cX12_waysOfDelete 178 = .ok (.goto 4, 3) := by decide +kernel
theorem dX12_waysOfDelete_181 : decode cX12_waysOfDelete 181 = .ok (.iconst 0, 1) := by decide +kernel
theorem dX12_waysOfDelete_182 : decode cX12_waysOfDelete 182 = .ok (.istore 5, 2) := by decide +kernel
theorem dX12_waysOfDelete_184 : decode cX12_waysOfDelete 184 = .ok (.iload_n 2, 1) := by decide +kernel
theorem dX12_waysOfDelete_185 : decode cX12_waysOfDelete 185 = .ok (.ifCond .ne 40, 3) := by decide +kernel
theorem dX12_waysOfDelete_188 : decode cX12_waysOfDelete 188 = .ok (.iload 6, 2) := by decide +kernel
theorem dX12_waysOfDelete_190 : decode cX12_waysOfDelete 190 = .ok (.iconst 1, 1) := by decide +kernel
theorem dX12_waysOfDelete_191 : decode cX12_waysOfDelete 191 = .ok (.if_icmp .ne 34, 3) := by decide +kernel
theorem dX12_waysOfDelete_194 : decode cX12_waysOfDelete 194 = .ok (.iload 7, 2) := by decide +kernel
theorem dX12_waysOfDelete_196 : decode cX12_waysOfDelete 196 = .ok (.invokestatic 1166, 3) := by decide +kernel
theorem dX12_waysOfDelete_199 : decode cX12_waysOfDelete 199 = .ok (.ifCond .eq 26, 3) := by decide +kernel
theorem dX12_waysOfDelete_202 : decode cX12_waysOfDelete 202 = .ok (.aload_n 0, 1) := by decide +kernel
theorem dX12_waysOfDelete_203 : decode cX12_waysOfDelete 203 = .ok (.invokevirtual 1150, 3) := by decide +kernel
theorem dX12_waysOfDelete_206 : decode cX12_waysOfDelete 206 = .ok (.iconst 1, 1) := by decide +kernel
theorem dX12_waysOfDelete_207 : decode cX12_waysOfDelete 207 = .ok (.if_icmp .ne 18, 3) := by decide +kernel
theorem dX12_waysOfDelete_210 : decode cX12_waysOfDelete 210 = .ok (.aload_n 0, 1) := by decide +kernel
theorem dX12_waysOfDelete_211 : decode cX12_waysOfDelete 211 = .ok (.aload_n 0, 1) := by decide +kernel
theorem dX12_waysOfDelete_212 : decode cX12_waysOfDelete 212 = .ok (.getfield 762, 3) := by decide +kernel
theorem dX12_waysOfDelete_215 : decode cX12_waysOfDelete 215 = .ok (.invokevirtual 1153, 3) := by decide +kernel
theorem dX12_waysOfDelete_218 : decode cX12_waysOfDelete 218 = .ok (.ifCond .ne 7, 3) := by decide +kernel
theorem dX12_waysOfDelete_221 : decode cX12_waysOfDelete 221 = .ok (.iconst 1, 1) := by decide +kernel
theorem dX12_waysOfDelete_222 : decode cX12_waysOfDelete 222 = .ok (.goto 4, 3) := by decide +kernel
theorem dX12_waysOfDelete_225 : decode cX12_waysOfDelete 225 = .ok (.iconst 0, 1) := by decide +kernel
theorem dX12_waysOfDelete_226 : decode cX12_waysOfDelete 226 = .ok (.istore 9, 2) := by decide +kernel
theorem dX12_waysOfDelete_228 : decode cX12_waysOfDelete 228 = .ok (.iconst 0, 1) := by decide +kernel
theorem dX12_waysOfDelete_229 : decode cX12_waysOfDelete 229 = .ok (.istore 10, 2) := by decide +kernel
theorem dX12_waysOfDelete_231 : decode cX12_waysOfDelete 231 = .ok (.iload 10, 2) := by decide +kernel
theorem dX12_waysOfDelete_233 : decode cX12_waysOfDelete 233 = .ok (.aload_n 0, 1) := by decide +kernel
theorem dX12_waysOfDelete_234 : decode cX12_waysOfDelete 234 = .ok (.getfield 762, 3) := by decide +kernel
theorem dX12_waysOfDelete_237 : decode cX12_waysOfDelete 237 = .ok (.if_icmp .gt 86, 3) := by decide +kernel
theorem dX12_waysOfDelete_240 : decode cX12_waysOfDelete 240 = .ok (.aload_n 0, 1) := by decide +kernel
theorem dX12_waysOfDelete_241 : decode cX12_waysOfDelete 241 = .ok (.iload 10, 2) := by decide +kernel
theorem dX12_waysOfDelete_243 : decode cX12_waysOfDelete 243 = .ok (.invokevirtual 1153, 3) := by decide +kernel
theorem dX12_waysOfDelete_246 : decode cX12_waysOfDelete 246 = .ok (.ifCond .eq 71, 3) := by decide +kernel
theorem dX12_waysOfDelete_249 : decode cX12_waysOfDelete 249 = .ok (.iload 10, 2) := by decide +kernel
theorem dX12_waysOfDelete_251 : decode cX12_waysOfDelete 251 = .ok (.ifCond .ne 8, 3) := by decide +kernel
theorem dX12_waysOfDelete_254 : decode cX12_waysOfDelete 254 = .ok (.iload 8, 2) := by decide +kernel
theorem dX12_waysOfDelete_256 : decode cX12_waysOfDelete 256 = .ok (.ifCond .ne 61, 3) := by decide +kernel
theorem dX12_waysOfDelete_259 : decode cX12_waysOfDelete 259 = .ok (.aload_n 0, 1) := by decide +kernel
theorem dX12_waysOfDelete_260 : decode cX12_waysOfDelete 260 = .ok (.getfield 256, 3) := by decide +kernel
theorem dX12_waysOfDelete_263 : decode cX12_waysOfDelete 263 = .ok (.aload_n 0, 1) := by decide +kernel
theorem dX12_waysOfDelete_264 : decode cX12_waysOfDelete 264 = .ok (.sipush 639, 3) := by decide +kernel
theorem dX12_waysOfDelete_267 : decode cX12_waysOfDelete 267 = .ok (.iload 7, 2) := by decide +kernel
theorem dX12_waysOfDelete_269 : decode cX12_waysOfDelete 269 = .ok (.invokevirtual 1101, 3) := by decide +kernel
theorem dX12_waysOfDelete_272 : decode cX12_waysOfDelete 272 = .ok (.baload, 1) := by decide +kernel
theorem dX12_waysOfDelete_273 : decode cX12_waysOfDelete 273 = .ok (.ifCond .ne 6, 3) := by decide +kernel
theorem dX12_waysOfDelete_276 : decode cX12_waysOfDelete 276 = .ok (.goto 41, 3) := by decide +kernel
theorem dX12_waysOfDelete_279 : decode cX12_waysOfDelete 279 = .ok (.iload 9, 2) := by decide +kernel
theorem dX12_waysOfDelete_281 : decode cX12_waysOfDelete 281 = .ok (.ifCond .eq 18, 3) := by decide +kernel
theorem dX12_waysOfDelete_284 : decode cX12_waysOfDelete 284 = .ok (.aload_n 0, 1) := by decide +kernel
theorem dX12_waysOfDelete_285 : decode cX12_waysOfDelete 285 = .ok (.aload_n 0, 1) := by decide +kernel
theorem dX12_waysOfDelete_286 : decode cX12_waysOfDelete 286 = .ok (.sipush 639, 3) := by decide +kernel
theorem dX12_waysOfDelete_289 : decode cX12_waysOfDelete 289 = .ok (.iload 7, 2) := by decide +kernel
theorem dX12_waysOfDelete_291 : decode cX12_waysOfDelete 291 = .ok (.iload 10, 2) := by decide +kernel
theorem dX12_waysOfDelete_293 : decode cX12_waysOfDelete 293 = .ok (.invokevirtual 1163, 3) := by decide +kernel
theorem dX12_waysOfDelete_296 : decode cX12_waysOfDelete 296 = .ok (.invokevirtual 1066, 3) := by decide +kernel
theorem dX12_waysOfDelete_299 : decode cX12_waysOfDelete 299 = .ok (.aload_n 0, 1) := by decide +kernel
theorem dX12_waysOfDelete_300 : decode cX12_waysOfDelete 300 = .ok (.aload_n 0, 1) := by decide +kernel
theorem dX12_waysOfDelete_301 : decode cX12_waysOfDelete 301 = .ok (.sipush 639, 3) := by decide +kernel
theorem dX12_waysOfDelete_304 : decode cX12_waysOfDelete 304 = .ok (.iload 7, 2) := by decide +kernel
theorem dX12_waysOfDelete_306 : decode cX12_waysOfDelete 306 = .ok (.iload 10, 2) := by decide +kernel
theorem dX12_waysOfDelete_308 : decode cX12_waysOfDelete 308 = .ok (.invokevirtual 1163, 3) := by decide +kernel
theorem dX12_waysOfDelete_311 : decode cX12_waysOfDelete 311 = .ok (.sipush 512, 3) := by decide +kernel
theorem dX12_waysOfDelete_314 : decode cX12_waysOfDelete 314 = .ok (.invokevirtual 1072, 3) := by decide +kernel
theorem dX12_waysOfDelete_317 : decode cX12_waysOfDelete 317 = .ok (.iinc 10 1, 3) := by decide +kernel
theorem dX12_waysOfDelete_320 : decode cX12_waysOfDelete 320 = .ok (.goto (-89), 3) := by decide +kernel
theorem dX12_waysOfDelete_323 : decode cX12_waysOfDelete 323 = .ok (.iinc 7 1, 3) := by decide +kernel
theorem dX12_waysOfDelete_326 : decode cX12_waysOfDelete 326 = .ok (.goto (-224), 3) := by decide +kernel
theorem dX12_waysOfDelete_329 : decode cX12_waysOfDelete 329 = .ok (.ldc_w 1218, 3) := by decide +kernel
theorem dX12_waysOfDelete_332 : decode cX12_waysOfDelete 332 = .ok (.istore 7, 2) := by decide +kernel
theorem dX12_waysOfDelete_334 : decode cX12_waysOfDelete 334 = .ok (.aload_n 0, 1) := by decide +kernel
theorem dX12_waysOfDelete_335 : decode cX12_waysOfDelete 335 = .ok (.iload 7, 2) := by decide +kernel
theorem dX12_waysOfDelete_337 : decode cX12_waysOfDelete 337 = .ok (.invokevirtual 1066, 3) := by decide +kernel
theorem dX12_waysOfDelete_340 : decode cX12_waysOfDelete 340 = .ok (.aload_n 0, 1) := by decide +kernel
theorem dX12_waysOfDelete_341 : decode cX12_waysOfDelete 341 = .ok (.iload 7, 2) := by decide +kernel
theorem dX12_waysOfDelete_343 : decode cX12_waysOfDelete 343 = .ok (.iload 4, 2) := by decide +kernel
theorem dX12_waysOfDelete_345 : decode cX12_waysOfDelete 345 = .ok (.ifCond .eq 13, 3) := by decide +kernel
theorem dX12_waysOfDelete_348 : decode cX12_waysOfDelete 348 = .ok (.iload 5, 2) := by decide +kernel
theorem dX12_waysOfDelete_350 : decode cX12_waysOfDelete 350 = .ok (.ifCond .eq 8, 3) := by decide +kernel
theorem dX12_waysOfDelete_353 : decode cX12_waysOfDelete 353 = .ok (.bipush 8, 2) := by decide +kernel
theorem dX12_waysOfDelete_355 : decode cX12_waysOfDelete 355 = .ok (.goto 14, 3) := by decide +kernel
theorem dX12_waysOfDelete_358 : decode cX12_waysOfDelete 358 = .ok (.iload 4, 2) := by decide +kernel
theorem dX12_waysOfDelete_360 : decode cX12_waysOfDelete 360 = .ok (.ifCond .eq 8, 3) := by decide +kernel
theorem dX12_waysOfDelete_363 : decode cX12_waysOfDelete 363 = .ok (.bipush 12, 2) := by decide +kernel
theorem dX12_waysOfDelete_365 : decode cX12_waysOfDelete 365 = .ok (.goto 4, 3) := by decide +kernel
theorem dX12_waysOfDelete_368 : decode cX12_waysOfDelete 368 = .ok (.iconst 4, 1) := by decide +kernel
theorem dX12_waysOfDelete_369 : decode cX12_waysOfDelete 369 = .ok (.invokevirtual 1072, 3) := by decide +kernel
theorem dX12_waysOfDelete_372 : decode cX12_waysOfDelete 372 = .ok (.aload_n 0, 1) := by decide +kernel
theorem dX12_waysOfDelete_373 : decode cX12_waysOfDelete 373 = .ok (.iconst 2, 1) := by decide +kernel
theorem dX12_waysOfDelete_374 : decode cX12_waysOfDelete 374 = .ok (.iload 7, 2) := by decide +kernel
theorem dX12_waysOfDelete_376 : decode cX12_waysOfDelete 376 = .ok (.invokevirtual 1258, 3) := by decide +kernel
theorem dX12_waysOfDelete_379 : decode cX12_waysOfDelete 379 = .ok (.iload_n 2, 1) := by decide +kernel
theorem dX12_waysOfDelete_380 : decode cX12_waysOfDelete 380 = .ok (.iconst 3, 1) := by decide +kernel
theorem dX12_waysOfDelete_381 : decode cX12_waysOfDelete 381 = .ok (.iand, 1) := by decide +kernel
theorem dX12_waysOfDelete_382 : decode cX12_waysOfDelete 382 = .ok (.ifCond .eq 13, 3) := by decide +kernel
theorem dX12_waysOfDelete_385 : decode cX12_waysOfDelete 385 = .ok (.aload_n 0, 1) := by decide +kernel
theorem dX12_waysOfDelete_386 : decode cX12_waysOfDelete 386 = .ok (.aload_n 0, 1) := by decide +kernel
theorem dX12_waysOfDelete_387 : decode cX12_waysOfDelete 387 = .ok (.getfield 1188, 3) := by decide +kernel
theorem dX12_waysOfDelete_390 : decode cX12_waysOfDelete 390 = .ok (.bipush 6, 2) := by decide +kernel
theorem dX12_waysOfDelete_392 : decode cX12_waysOfDelete 392 = .ok (.invokevirtual 1292, 3) := by decide +kernel
theorem dX12_waysOfDelete_395 : decode cX12_waysOfDelete 395 = .ok (.return_, 1) := by decide +kernel
theorem dX12_waysOfBinary_0 : decode cX12_waysOfBinary 0 = .ok (.aload_n 0, 1) := by decide +kernel
theorem dX12_waysOfBinary_1 : decode cX12_waysOfBinary 1 = .ok (.iconst 1, 1) := by decide +kernel
theorem dX12_waysOfBinary_2 : decode cX12_waysOfBinary 2 = .ok (.invokevirtual 1195, 3) := by decide +kernel
theorem dX12_waysOfBinary_5 : decode cX12_waysOfBinary 5 = .ok (.istore_n 2, 1) := by decide +kernel
theorem dX12_waysOfBinary_6 : decode cX12_waysOfBinary 6 = .ok (.aload_n 0, 1) := by decide +kernel
theorem dX12_waysOfBinary_7 : decode cX12_waysOfBinary 7 = .ok (.iconst 0, 1) := by decide +kernel
theorem dX12_waysOfBinary_8 : decode cX12_waysOfBinary 8 = .ok (.invokevirtual 1195, 3) := by decide +kernel
theorem dX12_waysOfBinary_11 : decode cX12_waysOfBinary 11 = .ok (.istore_n 3, 1) := by decide +kernel
theorem dX12_waysOfBinary_12 : decode cX12_waysOfBinary 12 = .ok (.ldc_w 1218, 3) := by decide +kernel
theorem dX12_waysOfBinary_15 : decode cX12_waysOfBinary 15 = .ok (.istore 4, 2) := by decide +kernel
theorem dX12_waysOfBinary_17 : decode cX12_waysOfBinary 17 = .ok (.iconst 0, 1) := by decide +kernel
theorem dX12_waysOfBinary_18 : decode cX12_waysOfBinary 18 = .ok (.istore 5, 2) := by decide +kernel
theorem dX12_waysOfBinary_20 : decode cX12_waysOfBinary 20 = .ok (.aload_n 0, 1) := by decide +kernel
theorem dX12_waysOfBinary_21 : decode cX12_waysOfBinary 21 = .ok (.iload 4, 2) := by decide +kernel
theorem dX12_waysOfBinary_23 : decode cX12_waysOfBinary 23 = .ok (.invokevirtual 1066, 3) := by decide +kernel
theorem dX12_waysOfBinary_26 : decode cX12_waysOfBinary 26 = .ok (.iload_n 1, 1) := by decide +kernel
theorem dX12_waysOfBinary_27 : decode cX12_waysOfBinary 27 = .ok (.bipush 19, 2) := by decide +kernel
theorem dX12_waysOfBinary_29 : decode cX12_waysOfBinary 29 = .ok (.if_icmp .ne 87, 3) := by decide +kernel
theorem dX12_waysOfBinary_32 : decode cX12_waysOfBinary 32 = .ok (.aload_n 0, 1) := by decide +kernel
theorem dX12_waysOfBinary_33 : decode cX12_waysOfBinary 33 = .ok (.iload_n 2, 1) := by decide +kernel
theorem dX12_waysOfBinary_34 : decode cX12_waysOfBinary 34 = .ok (.invokevirtual 1147, 3) := by decide +kernel
theorem dX12_waysOfBinary_37 : decode cX12_waysOfBinary 37 = .ok (.aload_n 0, 1) := by decide +kernel
theorem dX12_waysOfBinary_38 : decode cX12_waysOfBinary 38 = .ok (.iload_n 3, 1) := by decide +kernel
theorem dX12_waysOfBinary_39 : decode cX12_waysOfBinary 39 = .ok (.invokevirtual 1059, 3) := by decide +kernel
theorem dX12_waysOfBinary_42 : decode cX12_waysOfBinary 42 = .ok (.ifCond .eq 7, 3) := by decide +kernel
theorem dX12_waysOfBinary_45 : decode cX12_waysOfBinary 45 = .ok (.iconst 1, 1) := by decide +kernel
theorem dX12_waysOfBinary_46 : decode cX12_waysOfBinary 46 = .ok (.goto 4, 3) := by decide +kernel
theorem dX12_waysOfBinary_49 : decode cX12_waysOfBinary 49 = .ok (.iconst 0, 1) := by decide +kernel
theorem dX12_waysOfBinary_50 : decode cX12_waysOfBinary 50 = .ok (.istore 5, 2) := by decide +kernel
theorem dX12_waysOfBinary_52 : decode cX12_waysOfBinary 52 = .ok (.aload_n 0, 1) := by decide +kernel
theorem dX12_waysOfBinary_53 : decode cX12_waysOfBinary 53 = .ok (.iload_n 3, 1) := by decide +kernel
theorem dX12_waysOfBinary_54 : decode cX12_waysOfBinary 54 = .ok (.invokevirtual 1062, 3) := by decide +kernel
theorem dX12_waysOfBinary_57 : decode cX12_waysOfBinary 57 = .ok (.ifCond .eq 87, 3) := by decide +kernel
theorem dX12_waysOfBinary_60 : decode cX12_waysOfBinary 60 = .ok (.aload_n 0, 1) := by decide +kernel
theorem dX12_waysOfBinary_61 : decode cX12_waysOfBinary 61 = .ok (.aload_n 0, 1) := by decide +kernel
theorem dX12_waysOfBinary_62 : decode cX12_waysOfBinary 62 = .ok (.getfield 220, 3) := by decide +kernel
theorem dX12_waysOfBinary_65 : decode cX12_waysOfBinary 65 = .ok (.iload_n 3, 1) := by decide +kernel
theorem dX12_waysOfBinary_66 : decode cX12_waysOfBinary 66 = .ok (.laload, 1) := by decide +kernel
theorem dX12_waysOfBinary_67 : decode cX12_waysOfBinary 67 = .ok (.aload_n 0, 1) := by decide +kernel
theorem dX12_waysOfBinary_68 : decode cX12_waysOfBinary 68 = .ok (.getfield 223, 3) := by decide +kernel
theorem dX12_waysOfBinary_71 : decode cX12_waysOfBinary 71 = .ok (.iload_n 3, 1) := by decide +kernel
theorem dX12_waysOfBinary_72 : decode cX12_waysOfBinary 72 = .ok (.laload, 1) := by decide +kernel
theorem dX12_waysOfBinary_73 : decode cX12_waysOfBinary 73 = .ok (.iload 4, 2) := by decide +kernel
theorem dX12_waysOfBinary_75 : decode cX12_waysOfBinary 75 = .ok (.iconst 1, 1) := by decide +kernel
theorem dX12_waysOfBinary_76 : decode cX12_waysOfBinary 76 = .ok (.iadd, 1) := by decide +kernel
theorem dX12_waysOfBinary_77 : decode cX12_waysOfBinary 77 = .ok (.invokevirtual 1306, 3) := by decide +kernel
theorem dX12_waysOfBinary_80 : decode cX12_waysOfBinary 80 = .ok (.aload_n 0, 1) := by decide +kernel
theorem dX12_waysOfBinary_81 : decode cX12_waysOfBinary 81 = .ok (.iload 4, 2) := by decide +kernel
theorem dX12_waysOfBinary_83 : decode cX12_waysOfBinary 83 = .ok (.iconst 1, 1) := by decide +kernel
theorem dX12_waysOfBinary_84 : decode cX12_waysOfBinary 84 = .ok (.iadd, 1) := by decide +kernel
theorem dX12_waysOfBinary_85 : decode cX12_waysOfBinary 85 = .ok (.invokevirtual 1231, 3) := by decide +kernel
theorem dX12_waysOfBinary_88 : decode cX12_waysOfBinary 88 = .ok (.ifCond .ne 10, 3) := by decide +kernel
theorem dX12_waysOfBinary_91 : decode cX12_waysOfBinary 91 = .ok (.aload_n 0, 1) := by decide +kernel
theorem dX12_waysOfBinary_92 : decode cX12_waysOfBinary 92 = .ok (.iload 4, 2) := by decide +kernel
theorem dX12_waysOfBinary_94 : decode cX12_waysOfBinary 94 = .ok (.iconst 4, 1) := by decide +kernel
theorem dX12_waysOfBinary_95 : decode cX12_waysOfBinary 95 = .ok (.invokevirtual 1072, 3) := by decide +kernel
theorem dX12_waysOfBinary_98 : decode cX12_waysOfBinary 98 = .ok (.aload_n 0, 1) := by decide +kernel
theorem dX12_waysOfBinary_99 : decode cX12_waysOfBinary 99 = .ok (.getfield 1156, 3) := by decide +kernel
theorem dX12_waysOfBinary_102 : decode cX12_waysOfBinary 102 = .ok (.ifCond .eq 42, 3) := by decide +kernel
theorem dX12_waysOfBinary_105 : decode cX12_waysOfBinary 105 = .ok (.aload_n 0, 1) := by decide +kernel
theorem dX12_waysOfBinary_106 : decode cX12_waysOfBinary 106 = .ok (.iload 4, 2) := by decide +kernel
theorem dX12_waysOfBinary_108 : decode cX12_waysOfBinary 108 = .ok (.bipush 8, 2) := by decide +kernel
theorem dX12_waysOfBinary_110 : decode cX12_waysOfBinary 110 = .ok (.invokevirtual 1072, 3) := by decide +kernel
theorem dX12_waysOfBinary_113 : decode cX12_waysOfBinary 113 = .ok (.goto 31, 3) := by decide +kernel
theorem dX12_waysOfBinary_116 : decode cX12_waysOfBinary 116 = .ok (.iload_n 1, 1) := by decide +kernel
theorem dX12_waysOfBinary_117 : decode cX12_waysOfBinary 117 = .ok (.bipush 20, 2) := by decide +kernel
theorem dX12_waysOfBinary_119 : decode cX12_waysOfBinary 119 = .ok (.if_icmp .ne 16, 3) := by decide +kernel
theorem dX12_waysOfBinary_122 : decode cX12_waysOfBinary 122 = .ok (.aload_n 0, 1) := by decide +kernel
theorem dX12_waysOfBinary_123 : decode cX12_waysOfBinary 123 = .ok (.iload_n 2, 1) := by decide +kernel
theorem dX12_waysOfBinary_124 : decode cX12_waysOfBinary 124 = .ok (.iload_n 3, 1) := by decide +kernel
theorem dX12_waysOfBinary_125 : decode cX12_waysOfBinary 125 = .ok (.iload 4, 2) := by decide +kernel
theorem dX12_waysOfBinary_127 : decode cX12_waysOfBinary 127 = .ok (.invokevirtual 1314, 3) := by decide +kernel
theorem dX12_waysOfBinary_130 : decode cX12_waysOfBinary 130 = .ok (.istore 5, 2) := by decide +kernel
theorem dX12_waysOfBinary_132 : decode cX12_waysOfBinary 132 = .ok (.goto 12, 3) := by decide +kernel
theorem dX12_waysOfBinary_135 : decode cX12_waysOfBinary 135 = .ok (.aload_n 0, 1) := by decide +kernel
theorem dX12_waysOfBinary_136 : decode cX12_waysOfBinary 136 = .ok (.iload_n 1, 1) := by decide +kernel
theorem dX12_waysOfBinary_137 : decode cX12_waysOfBinary 137 = .ok (.iload_n 2, 1) := by decide +kernel
theorem dX12_waysOfBinary_138 : decode cX12_waysOfBinary 138 = .ok (.iload_n 3, 1) := by decide +kernel
theorem dX12_waysOfBinary_139 : decode cX12_waysOfBinary 139 = .ok (.iload 4, 2) := by decide +kernel
theorem dX12_waysOfBinary_141 : decode cX12_waysOfBinary 141 = .ok (.invokevirtual 1317, 3) := by decide +kernel
theorem dX12_waysOfBinary_144 : decode cX12_waysOfBinary 144 = .ok (.aload_n 0, 1) := by decide +kernel
theorem dX12_waysOfBinary_145 : decode cX12_waysOfBinary 145 = .ok (.iconst 2, 1) := by decide +kernel
theorem dX12_waysOfBinary_146 : decode cX12_waysOfBinary 146 = .ok (.iload 4, 2) := by decide +kernel
theorem dX12_waysOfBinary_148 : decode cX12_waysOfBinary 148 = .ok (.invokevirtual 1258, 3) := by decide +kernel
theorem dX12_waysOfBinary_151 : decode cX12_waysOfBinary 151 = .ok (.iload 5, 2) := by decide +kernel
theorem dX12_waysOfBinary_153 : decode cX12_waysOfBinary 153 = .ok (.ifCond .eq 13, 3) := by decide +kernel
theorem dX12_waysOfBinary_156 : decode cX12_waysOfBinary 156 = .ok (.aload_n 0, 1) := by decide +kernel
theorem dX12_waysOfBinary_157 : decode cX12_waysOfBinary 157 = .ok (.aload_n 0, 1) := by decide +kernel
theorem dX12_waysOfBinary_158 : decode cX12_waysOfBinary 158 = .ok (.getfield 1188, 3) := by decide +kernel
theorem dX12_waysOfBinary_161 : decode cX12_waysOfBinary 161 = .ok (.bipush 6, 2) := by decide +kernel
theorem dX12_waysOfBinary_163 : decode cX12_waysOfBinary 163 = .ok (.invokevirtual 1292, 3) := by decide +kernel
theorem dX12_waysOfBinary_166 : decode cX12_waysOfBinary 166 = .ok (.return_, 1) := by decide +kernel

def q_waysOfGlobal (p1 : Int) (p2 : Int) (S : sv_S) : Option Value → sv_S → Prop := fun v S' => v = none ∧ sm_ok S' ∧ sv_mod [68, 69, 70, 81, 82, 83, 84, 85, 86, 71, 74, 75, 1127, 78, 79, 80, 72, 76, 77, 1143, 1144, 5, 1011, 1150, 1149, 1145, 1113, 1111, 1112, 1100031] S S' ∧ (sm_ST (S' 71) (S' 74) (S' 75) (S' 78) (S' 79) (S' 80) (S' 27) (S' 1100007) (S' 1100023) (S' 1100024) (S' 1046 0) ((S' 1046 0) + 2 * (S' 1032 0)) (S' 1127 0) ∧ 465000 ≤ (S' 1127 0) ∧ (S' 1127 0) + sm_hs (S' 71) (S' 1100007) ≤ 635000 ∧ (S' 75 639) = 647340 ∧ (∀ k : Int, (S 71 k) = 1 → (S' 71 k) = 1) ∧ sm_DR (S' 72) (S' 71) (S' 1046 0) ∧ (641 * (sm_cm (S' 71) + sm_pt (S' 68) (S' 69) (S' 70) + sm_pl (S' 81) (S' 82) (S' 83) (S' 84) (S' 85) (S' 86) + sm_ps (S' 76) (S' 77)) + sm_du (S' 72)) ≤ (641 * (sm_cm (S 71) + sm_pt (S 68) (S 69) (S 70) + sm_pl (S 81) (S 82) (S 83) (S 84) (S 85) (S 86) + sm_ps (S 76) (S 77)) + sm_du (S 72)))
theorem la_waysOfGlobal_0 {x0 x1 x2 x3 x4 x5 : Int} (h0 : 0 ≤ x0) (h1 : x0 ≤ 11557) (h2 : 0 ≤ x1) (h3 : x1 < x2) : 0 ≤ x0 ∧ x0 ≤ 11557 ∧ (0 : Int) ≤ 639 ∧ ((639 : Int) = 639 ∨ 639 < x3 + 2 * x4) ∧ (0 : Int) ≤ 0 ∧ (0 < x5 ∨ (639 : Int) = 639 ∧ (0 : Int) < 128) ∧ 0 ≤ x1 ∧ x1 ≤ x2 := by omega
theorem la_waysOfGlobal_1 : (639 : Int) = 639 := by omega
theorem la_waysOfGlobal_2 : ¬ ¬ (639 : Int) = 639 := by omega
theorem la_waysOfGlobal_3 {x0 : Int} (h0 : 635640 ≤ x0) (h1 : x0 < 647340) : 0 ≤ x0 ∧ x0 < 647800 := by omega
theorem la_waysOfGlobal_4 : (0 : Int) ≤ 647740 ∧ (647740 : Int) < 647800 := by omega
theorem la_waysOfGlobal_5 : (635639 : Int) ≤ 647740 := by omega
theorem la_waysOfGlobal_6 {x0 : Int} (h0 : 635640 ≤ x0) (h1 : x0 < 647340) : 0 ≤ x0 ∧ x0 < 647800 ∧ (635639 : Int) ≤ 647740 ∧ (647740 : Int) < 647790 := by omega
theorem la_waysOfGlobal_7 {x0 : Int} (h0 : 647740 + 1 = x0) : sv_R x0 := by omega
theorem la_waysOfGlobal_8 {x0 : Int} (h0 : 647740 + 1 = x0) : 0 ≤ x0 ∧ x0 < 647800 := by omega
theorem la_waysOfGlobal_9 {x0 : Int} (h0 : 647740 + 1 = x0) : 635639 ≤ x0 := by omega
theorem la_waysOfGlobal_10 {x0 x1 : Int} (h0 : 0 ≤ x0) (h1 : x0 ≤ 11557) (h2 : 647740 + 1 = x1) : 0 ≤ x0 ∧ x0 ≤ 11557 ∧ (0 : Int) ≤ 647740 ∧ (647740 : Int) < 647800 ∧ 635639 ≤ x1 ∧ x1 < 647790 := by omega
theorem la_waysOfGlobal_11 {x0 x1 x2 x3 x4 x5 x6 x7 x8 : Int} (h0 : 0 ≤ x0) (h1 : 0 ≤ x1) (h2 : x0 = x2) (h3 : x3 = x4) (h4 : x1 + 1 < x5) (h5 : x6 = x2 + 1) (h6 : x7 = x4) (h7 : x2 ≤ 396) (h8 : 647740 + 1 = x8) : 0 ≤ x1 ∧ x1 + 1 < x5 ∧ (0 : Int) ≤ 0 ∧ 0 ≤ x0 ∧ x0 - 0 ≤ 399 ∧ 0 ≤ x8 ∧ x8 < 647800 ∧ x6 = x0 - 0 + 1 ∧ x7 = x3 := by omega
theorem la_waysOfGlobal_12 {x0 x1 x2 x3 x4 x5 x6 x7 x8 x9 x10 x11 x12 x13 : Int} (h0 : x0 = x1) (h1 : x2 = x0) (h2 : x3 = x2) (h3 : x4 = x3) (h4 : 641 * (x5 + x6 + x7 + x8) + x9 ≤ 641 * (x10 + x4 + x11 + x12) + x13) : 641 * (x5 + x6 + x7 + x8) + x9 ≤ 641 * (x10 + x1 + x11 + x12) + x13 := by omega
theorem la_waysOfGlobal_13 {x0 : Int} (h0 : x0 = 0) : x0 ≤ 0 := by omega
theorem la_waysOfGlobal_14 {x0 : Int} (h0 : x0 ≤ 0) (h1 : ¬ x0 = 0) : x0 < 0 := by omega
theorem la_waysOfGlobal_15 : (0 : Int) ≤ 0 := by omega
theorem la_waysOfGlobal_16 (h0 : (0 : Int) ≤ 0) (h1 : ¬ (0 : Int) = 0) : (0 : Int) < 0 := by omega
theorem la_waysOfGlobal_17 {x0 : Int} (h0 : (0 : Int) < 0) : 0 ≤ x0 := by omega
theorem la_waysOfGlobal_18 {x0 x1 x2 : Int} (h0 : (0 : Int) < 0) : 0 ≤ x0 ∧ x0 < x1 ∧ x2 = 1 ∧ x0 = x0 ∧ (6 : Int) ≤ 7 ∧ (7 : Int) ≤ 8 := by omega
theorem la_waysOfGlobal_19 {x0 : Int} (h0 : (0 : Int) < 0) : x0 = 1 := by omega
theorem la_waysOfGlobal_20 {x0 x1 x2 x3 x4 x5 x6 x7 x8 x9 : Int} (h0 : (0 : Int) < 0) : 641 * (x0 + x1 + x2 + x3) + x4 ≤ 641 * (x5 + x6 + x7 + x8) + x9 := by omega
theorem la_waysOfGlobal_21 {x0 : Int} (h0 : (0 : Int) < 0) : 635639 ≤ x0 ∧ x0 < 647790 := by omega
theorem la_waysOfGlobal_22 {x0 x1 x2 x3 x4 x5 x6 : Int} (h0 : (0 : Int) < 0) : 0 ≤ x0 ∧ x0 + 1 < x1 ∧ (0 : Int) ≤ 0 ∧ 0 ≤ x2 ∧ x2 - 0 ≤ 399 ∧ 0 ≤ x3 ∧ x3 < 647800 ∧ x4 = x2 - 0 + 1 ∧ x5 = x6 := by omega
theorem la_waysOfGlobal_23 {x0 : Int} (h0 : (0 : Int) < 0) : x0 ≤ 0 := by omega
theorem la_waysOfGlobal_24 {x0 : Int} (h0 : 0 ≤ x0) (h1 : ¬ x0 = 0) : 0 < x0 := by omega
theorem la_waysOfGlobal_25 {x0 : Int} (h0 : 647740 + 1 = x0) : (0 : Int) ≤ 647740 ∧ (647740 : Int) < 647800 ∧ 635639 ≤ x0 ∧ x0 < 647800 := by omega
theorem la_waysOfGlobal_26 {x0 x1 x2 x3 x4 x5 x6 x7 x8 x9 x10 x11 x12 : Int} (h0 : x0 = x1) (h1 : x2 = x0) (h2 : x3 = x2) (h3 : 641 * (x4 + x5 + x6 + x7) + x8 ≤ 641 * (x9 + x3 + x10 + x11) + x12) : 641 * (x4 + x5 + x6 + x7) + x8 ≤ 641 * (x9 + x1 + x10 + x11) + x12 := by omega
theorem la_waysOfGlobal_27 {x0 x1 x2 x3 x4 x5 x6 : Int} (h0 : (1 : Int) = 0) : 0 ≤ x0 ∧ x0 + 1 < x1 ∧ (0 : Int) ≤ 0 ∧ 0 ≤ x2 ∧ x2 - 0 ≤ 399 ∧ 0 ≤ x3 ∧ x3 < 647800 ∧ x4 = x2 - 0 + 1 ∧ x5 = x6 := by omega
theorem la_waysOfGlobal_28 {x0 x1 x2 x3 x4 x5 x6 x7 x8 x9 : Int} (h0 : (1 : Int) = 0) : 641 * (x0 + x1 + x2 + x3) + x4 ≤ 641 * (x5 + x6 + x7 + x8) + x9 := by omega
theorem la_waysOfGlobal_29 {x0 : Int} (h0 : (1 : Int) = 0) : x0 ≤ 0 := by omega
theorem la_waysOfGlobal_30 (h0 : (1 : Int) = 0) : (1 : Int) ≤ 0 := by omega
theorem la_waysOfGlobal_31 (h0 : (1 : Int) ≤ 0) (h1 : ¬ (1 : Int) = 0) : (1 : Int) < 0 := by omega
theorem la_waysOfGlobal_32 {x0 : Int} (h0 : (1 : Int) = 0) : 0 ≤ x0 := by omega
theorem la_waysOfGlobal_33 {x0 x1 x2 : Int} (h0 : (1 : Int) = 0) : 0 ≤ x0 ∧ x0 < x1 ∧ x2 = 1 ∧ x0 = x0 ∧ (6 : Int) ≤ 7 ∧ (7 : Int) ≤ 8 := by omega
theorem la_waysOfGlobal_34 {x0 : Int} (h0 : (1 : Int) = 0) : x0 = 1 := by omega
theorem la_waysOfGlobal_35 : (0 : Int) ≤ 1 := by omega
theorem la_waysOfGlobal_36 (h0 : (0 : Int) ≤ 1) (h1 : ¬ (1 : Int) = 0) : (0 : Int) < 1 := by omega
theorem la_waysOfGlobal_37 {x0 : Int} (h0 : 647740 + 1 = x0) : 635639 ≤ x0 ∧ x0 < 647790 := by omega
theorem la_waysOfGlobal_38 {x0 x1 x2 x3 x4 x5 x6 x7 x8 x9 x10 x11 x12 x13 x14 : Int} (h0 : x0 = x1) (h1 : x2 = x0) (h2 : x3 = x2) (h3 : x4 = x3) (h4 : x5 = x4) (h5 : 641 * (x6 + x7 + x8 + x9) + x10 ≤ 641 * (x11 + x5 + x12 + x13) + x14) : 641 * (x6 + x7 + x8 + x9) + x10 ≤ 641 * (x11 + x1 + x12 + x13) + x14 := by omega
theorem la_waysOfGlobal_39 {x0 x1 : Int} (h0 : x0 + 1 < x1) : ¬ x1 ≤ x0 := by omega
theorem la_waysOfGlobal_40 {x0 x1 : Int} (h0 : x0 + 1 < x1) : ¬ x1 ≤ x0 + 1 := by omega
theorem la_waysOfGlobal_41 {x0 : Int} : x0 = x0 := by omega
theorem la_waysOfGlobal_42 : (6 : Int) ≤ 7 := by omega
theorem la_waysOfGlobal_43 : (7 : Int) ≤ 8 := by omega
theorem la_waysOfGlobal_44 {x0 x1 x2 x3 x4 x5 x6 x7 x8 x9 x10 x11 x12 x13 x14 x15 x16 x17 x18 x19 : Int} (h0 : x0 = x1) (h1 : x2 = x0) (h2 : x3 = x2) (h3 : x4 = x3) (h4 : x5 = x4) (h5 : 641 * (x6 + x7 + x8 + x9) + x10 ≤ 641 * (x11 + x5 + x12 + x13) + x14) (h6 : 641 * (x15 + x16 + x17 + x18) + x19 ≤ 641 * (x6 + x7 + x8 + x9) + x10) : 641 * (x15 + x16 + x17 + x18) + x19 ≤ 641 * (x11 + x1 + x12 + x13) + x14 := by omega
theorem la_waysOfGlobal_45 {x0 x1 x2 x3 x4 x5 x6 x7 x8 x9 x10 x11 x12 x13 x14 x15 x16 x17 : Int} (h0 : x0 = x1) (h1 : x2 = x0) (h2 : x3 = x2) (h3 : 641 * (x4 + x5 + x6 + x7) + x8 ≤ 641 * (x9 + x3 + x10 + x11) + x12) (h4 : 641 * (x13 + x14 + x15 + x16) + x17 ≤ 641 * (x4 + x5 + x6 + x7) + x8) : 641 * (x13 + x14 + x15 + x16) + x17 ≤ 641 * (x9 + x1 + x10 + x11) + x12 := by omega
set_option maxHeartbeats 2000000 in
theorem f_waysOfGlobal : ∀ (p1 : Int) (p2 : Int) (S : sv_S), sm_ok S → sv_R p1 → (0 ≤ p2 ∧ p2 ≤ 1) → (29 ≤ (S 1071 0) ∧ (S 1071 0) ≤ 127 ∧ 31 ≤ (S 1008 0) ∧ (S 1008 0) ≤ 90 ∧ 1 ≤ (S 1032 0) ∧ (S 1032 0) ≤ 11 ∧ 0 ≤ (S 1055 0) ∧ (S 1055 0) ≤ 19 ∧ (S 1071 0) = 29 + 6 * ((S 1032 0) - 1) + 2 * (S 1055 0) ∧ 0 ≤ (S 1046 0) ∧ (S 1046 0) + 2 * (S 1032 0) ≤ 500 ∧ sm_PD (S 1046 0) (S 1032 0) (S 1071 0) (S 1008 0) ∧ 0 ≤ (S 1071 0) * ((S 1008 0) + 1) ∧ (S 1071 0) * ((S 1008 0) + 1) ≤ 11557 ∧ 31 ≤ (S 1007 0) ∧ (S 1007 0) ≤ 400 ∧ sm_LN (S 4) 400 (S 1007 0) ∧ (S 75 639) = 647340 ∧ sm_ST (S 71) (S 74) (S 75) (S 78) (S 79) (S 80) (S 27) (S 1100007) (S 1100023) (S 1100024) (S 1046 0) ((S 1046 0) + 2 * (S 1032 0)) (S 1127 0) ∧ 465000 ≤ (S 1127 0) ∧ (S 1127 0) + sm_hs (S 71) (S 1100007) ≤ 635000 ∧ sm_NH (S 1100007) ∧ sm_CT (S 26) (S 27) (S 28) (S 29) (S 1100007) (S 1100023) (S 1100024) (S 1100025) (S 21) (S 1046 0) (S 1032 0) (S 1008 0) (S 1055 0) ∧ (∀ k : Int, (S 1046 0) ≤ k → k < ((S 1046 0) + 2 * (S 1032 0)) → (S 1100007 k) = 1) ∧ sm_DR (S 72) (S 71) (S 1046 0) ∧ 0 ≤ (S 74 639) ∧ (S 74 639) ≤ 400 ∧ 0 ≤ (S 78 639) ∧ (S 78 639) ≤ 40 ∧ (S 78 639) = sm_dp (S 1100024) (S 1100031 0) ∧ -1 ≤ (S 1100031 0) ∧ (S 1100031 0) < (S 1046 0) ∧ (0 ≤ (S 1100031 0) → (S 26 (S 1100031 0)) = 27) ∧ sm_TC (S 79) (S 80) (S 27) (S 1100007) (S 1100023) (S 1100024) 25560 (S 1100031 0) ∧ 0 ≤ (S 1148 0) ∧ (S 1148 0) < (S 1046 0) ∧ (S 71 (S 1148 0)) = 1 ∧ (S 74 639) = (S 1100007 (S 1148 0)) ∧ (S 1100031 0) = (S 1100023 (S 1148 0)) ∧ 0 ≤ p1 ∧ p1 < (S 1008 0) ∧ (S 1148 0) + 1 < (S 1046 0) ∧ (S 1100007 ((S 1148 0) + 1)) = (S 1100007 (S 1148 0)) + 1 ∧ (S 1100023 ((S 1148 0) + 1)) = (S 1100023 (S 1148 0))) → ((sm_CT (S 26) (S 27) (S 28) (S 29) (S 1100007) (S 1100023) (S 1100024) (S 1100025) (S 21) (S 1046 0) (S 1032 0) (S 1008 0) (S 1055 0) → 0 ≤ (S 1148 0) → (S 1148 0) < (S 1046 0) → 0 ≤ (S 1100007 (S 1148 0)) ∧ (S 1100007 (S 1148 0)) ≤ 396 ∧ -1 ≤ (S 1100023 (S 1148 0)) ∧ (S 1100023 (S 1148 0)) < (S 1148 0)) → (29 ≤ (S 1071 0) ∧ (S 1071 0) ≤ 127 ∧ 31 ≤ (S 1008 0) ∧ (S 1008 0) ≤ 90 ∧ 1 ≤ (S 1032 0) ∧ (S 1032 0) ≤ 11 ∧ 0 ≤ (S 1055 0) ∧ (S 1055 0) ≤ 19 ∧ (S 1071 0) = 29 + 6 * ((S 1032 0) - 1) + 2 * (S 1055 0) ∧ 0 ≤ (S 1046 0) ∧ (S 1046 0) + 2 * (S 1032 0) ≤ 500 ∧ sm_PD (S 1046 0) (S 1032 0) (S 1071 0) (S 1008 0) ∧ 0 ≤ (S 1071 0) * ((S 1008 0) + 1) ∧ (S 1071 0) * ((S 1008 0) + 1) ≤ 11557 ∧ 0 ≤ (639 : Int) ∧ ((639 : Int) = 639 ∨ (639 : Int) < (S 1046 0) + 2 * (S 1032 0)) ∧ 0 ≤ (0 : Int) ∧ ((0 : Int) < (S 1071 0) ∨ ((639 : Int) = 639 ∧ (0 : Int) < 128)) ∧ 0 ≤ p1 ∧ p1 ≤ (S 1008 0)) ∧ (∀ r7 : Int, sv_R r7 → (((639 : Int) = 639 → 635640 ≤ r7 ∧ r7 < 647340) ∧ (¬ (639 : Int) = 639 → 0 ≤ r7 ∧ r7 < 464520)) → (0 ≤ r7 ∧ r7 < 647800) ∧ (∀ r13 : Int, sv_R r13 → (r13 = (S 68 r7) % 1024 ∧ 0 ≤ r13 ∧ r13 ≤ 1023) → (∀ r14 : Int, (0 ≤ r14 ∧ r14 ≤ (512 : Int)) → (((r14 = (0 : Int)) → (0 ≤ (647740 : Int) ∧ (647740 : Int) < 647800) ∧ (∀ g16 : sv_S, (635639 ≤ (647740 : Int) → sm_pt (g16 68) (g16 69) (g16 70) = sm_pt (S 68) (S 69) (S 70)) → (0 ≤ r7 ∧ r7 < 647800 ∧ 635639 ≤ (647740 : Int) ∧ (647740 : Int) < 647790) ∧ (∀ g22 : sv_S, (sm_pt (g22 68) (g22 69) (g22 70) = sm_pt (g16 68) (g16 69) (g16 70)) → (∀ x27 : Int, ((647740 : Int) + (1 : Int)) = x27 → (((p2 = (0 : Int)) → (sv_R x27) ∧ (0 ≤ x27 ∧ x27 < 647800) ∧ (∀ g31 : sv_S, (635639 ≤ x27 → sm_pt (g31 68) (g31 69) (g31 70) = sm_pt (g22 68) (g22 69) (g22 70)) → (29 ≤ (S 1071 0) ∧ (S 1071 0) ≤ 127 ∧ 31 ≤ (S 1008 0) ∧ (S 1008 0) ≤ 90 ∧ 1 ≤ (S 1032 0) ∧ (S 1032 0) ≤ 11 ∧ 0 ≤ (S 1055 0) ∧ (S 1055 0) ≤ 19 ∧ (S 1071 0) = 29 + 6 * ((S 1032 0) - 1) + 2 * (S 1055 0) ∧ 0 ≤ (S 1046 0) ∧ (S 1046 0) + 2 * (S 1032 0) ≤ 500 ∧ sm_PD (S 1046 0) (S 1032 0) (S 1071 0) (S 1008 0) ∧ 0 ≤ (S 1071 0) * ((S 1008 0) + 1) ∧ (S 1071 0) * ((S 1008 0) + 1) ≤ 11557 ∧ 0 ≤ (647740 : Int) ∧ (647740 : Int) < 647800 ∧ 635639 ≤ x27 ∧ x27 < 647790) ∧ (∀ g37 : sv_S, (sm_pt (g37 68) (g37 69) (g37 70) = sm_pt (g31 68) (g31 69) (g31 70)) → ((((0 : Int) = (0 : Int)) → (29 ≤ (S 1071 0) ∧ (S 1071 0) ≤ 127 ∧ 31 ≤ (S 1008 0) ∧ (S 1008 0) ≤ 90 ∧ 1 ≤ (S 1032 0) ∧ (S 1032 0) ≤ 11 ∧ 0 ≤ (S 1055 0) ∧ (S 1055 0) ≤ 19 ∧ (S 1071 0) = 29 + 6 * ((S 1032 0) - 1) + 2 * (S 1055 0) ∧ 0 ≤ (S 1046 0) ∧ (S 1046 0) + 2 * (S 1032 0) ≤ 500 ∧ sm_PD (S 1046 0) (S 1032 0) (S 1071 0) (S 1008 0) ∧ 0 ≤ (S 1071 0) * ((S 1008 0) + 1) ∧ (S 1071 0) * ((S 1008 0) + 1) ≤ 11557 ∧ 31 ≤ (S 1007 0) ∧ (S 1007 0) ≤ 400 ∧ sm_LN (S 4) 400 (S 1007 0) ∧ (S 75 639) = 647340 ∧ sm_ST (S 71) (S 74) (S 75) (S 78) (S 79) (S 80) (S 27) (S 1100007) (S 1100023) (S 1100024) (S 1046 0) ((S 1046 0) + 2 * (S 1032 0)) (S 1127 0) ∧ 465000 ≤ (S 1127 0) ∧ (S 1127 0) + sm_hs (S 71) (S 1100007) ≤ 635000 ∧ sm_NH (S 1100007) ∧ sm_CT (S 26) (S 27) (S 28) (S 29) (S 1100007) (S 1100023) (S 1100024) (S 1100025) (S 21) (S 1046 0) (S 1032 0) (S 1008 0) (S 1055 0) ∧ (∀ k : Int, (S 1046 0) ≤ k → k < ((S 1046 0) + 2 * (S 1032 0)) → (S 1100007 k) = 1) ∧ sm_DR (S 72) (S 71) (S 1046 0) ∧ 0 ≤ (S 74 639) ∧ (S 74 639) ≤ 400 ∧ 0 ≤ (S 78 639) ∧ (S 78 639) ≤ 40 ∧ (S 78 639) = sm_dp (S 1100024) (S 1100031 0) ∧ -1 ≤ (S 1100031 0) ∧ (S 1100031 0) < (S 1046 0) ∧ (0 ≤ (S 1100031 0) → (S 26 (S 1100031 0)) = 27) ∧ sm_TC (S 79) (S 80) (S 27) (S 1100007) (S 1100023) (S 1100024) 25560 (S 1100031 0) ∧ 0 ≤ (S 1148 0) ∧ (S 1148 0) + 1 < (S 1046 0) ∧ 0 ≤ (0 : Int) ∧ (0 : Int) ≤ (S 74 639) ∧ (S 74 639) - (0 : Int) ≤ 399 ∧ 0 ≤ x27 ∧ x27 < 647800 ∧ (S 1100007 ((S 1148 0) + 1)) = (S 74 639) - (0 : Int) + 1 ∧ (S 1100023 ((S 1148 0) + 1)) = (S 1100031 0)) ∧ (∀ g43 : sv_S, (sm_ST (g43 71) (g43 74) (g43 75) (g43 78) (g43 79) (g43 80) (S 27) (S 1100007) (S 1100023) (S 1100024) (S 1046 0) ((S 1046 0) + 2 * (S 1032 0)) (g43 1127 0) ∧ 465000 ≤ (g43 1127 0) ∧ (g43 1127 0) + sm_hs (g43 71) (S 1100007) ≤ 635000 ∧ (g43 75 639) = 647340 ∧ (∀ k : Int, (S 71 k) = 1 → (g43 71 k) = 1) ∧ sm_DR (g43 72) (g43 71) (S 1046 0) ∧ (641 * (sm_cm (g43 71) + sm_pt (g43 68) (g43 69) (g43 70) + sm_pl (g43 81) (g43 82) (g43 83) (g43 84) (g43 85) (g43 86) + sm_ps (g43 76) (g43 77)) + sm_du (g43 72)) ≤ (641 * (sm_cm (S 71) + sm_pt (g37 68) (g37 69) (g37 70) + sm_pl (S 81) (S 82) (S 83) (S 84) (S 85) (S 86) + sm_ps (S 76) (S 77)) + sm_du (S 72))) → (((p2 = (0 : Int)) → (sm_ST (g43 71) (g43 74) (g43 75) (g43 78) (g43 79) (g43 80) (S 27) (S 1100007) (S 1100023) (S 1100024) (S 1046 0) ((S 1046 0) + 2 * (S 1032 0)) (g43 1127 0) ∧ 465000 ≤ (g43 1127 0) ∧ (g43 1127 0) + sm_hs (g43 71) (S 1100007) ≤ 635000 ∧ (g43 75 639) = 647340 ∧ (∀ k : Int, (S 71 k) = 1 → (g43 71 k) = 1) ∧ sm_DR (g43 72) (g43 71) (S 1046 0) ∧ (641 * (sm_cm (g43 71) + sm_pt (g43 68) (g43 69) (g43 70) + sm_pl (g43 81) (g43 82) (g43 83) (g43 84) (g43 85) (g43 86) + sm_ps (g43 76) (g43 77)) + sm_du (g43 72)) ≤ (641 * (sm_cm (S 71) + sm_pt (S 68) (S 69) (S 70) + sm_pl (S 81) (S 82) (S 83) (S 84) (S 85) (S 86) + sm_ps (S 76) (S 77)) + sm_du (S 72)))) ∧ ((¬ (p2 = (0 : Int))) → ((((0 : Int) = (0 : Int)) → (sm_ST (g43 71) (g43 74) (g43 75) (g43 78) (g43 79) (g43 80) (S 27) (S 1100007) (S 1100023) (S 1100024) (S 1046 0) ((S 1046 0) + 2 * (S 1032 0)) (g43 1127 0) ∧ 465000 ≤ (g43 1127 0) ∧ (g43 1127 0) + sm_hs (g43 71) (S 1100007) ≤ 635000 ∧ (g43 75 639) = 647340 ∧ (∀ k : Int, (S 71 k) = 1 → (g43 71 k) = 1) ∧ sm_DR (g43 72) (g43 71) (S 1046 0) ∧ (641 * (sm_cm (g43 71) + sm_pt (g43 68) (g43 69) (g43 70) + sm_pl (g43 81) (g43 82) (g43 83) (g43 84) (g43 85) (g43 86) + sm_ps (g43 76) (g43 77)) + sm_du (g43 72)) ≤ (641 * (sm_cm (S 71) + sm_pt (S 68) (S 69) (S 70) + sm_pl (S 81) (S 82) (S 83) (S 84) (S 85) (S 86) + sm_ps (S 76) (S 77)) + sm_du (S 72)))) ∧ ((¬ ((0 : Int) = (0 : Int))) → (sv_R (S 1148 0) → (29 ≤ (S 1071 0) ∧ (S 1071 0) ≤ 127 ∧ 31 ≤ (S 1008 0) ∧ (S 1008 0) ≤ 90 ∧ 1 ≤ (S 1032 0) ∧ (S 1032 0) ≤ 11 ∧ 0 ≤ (S 1055 0) ∧ (S 1055 0) ≤ 19 ∧ (S 1071 0) = 29 + 6 * ((S 1032 0) - 1) + 2 * (S 1055 0) ∧ 0 ≤ (S 1046 0) ∧ (S 1046 0) + 2 * (S 1032 0) ≤ 500 ∧ sm_PD (S 1046 0) (S 1032 0) (S 1071 0) (S 1008 0) ∧ 0 ≤ (S 1071 0) * ((S 1008 0) + 1) ∧ (S 1071 0) * ((S 1008 0) + 1) ≤ 11557 ∧ 31 ≤ (S 1007 0) ∧ (S 1007 0) ≤ 400 ∧ sm_LN (S 4) 400 (S 1007 0) ∧ (g43 75 639) = 647340 ∧ sm_ST (g43 71) (g43 74) (g43 75) (g43 78) (g43 79) (g43 80) (S 27) (S 1100007) (S 1100023) (S 1100024) (S 1046 0) ((S 1046 0) + 2 * (S 1032 0)) (g43 1127 0) ∧ 465000 ≤ (g43 1127 0) ∧ (g43 1127 0) + sm_hs (g43 71) (S 1100007) ≤ 635000 ∧ sm_NH (S 1100007) ∧ sm_CT (S 26) (S 27) (S 28) (S 29) (S 1100007) (S 1100023) (S 1100024) (S 1100025) (S 21) (S 1046 0) (S 1032 0) (S 1008 0) (S 1055 0) ∧ (∀ k : Int, (S 1046 0) ≤ k → k < ((S 1046 0) + 2 * (S 1032 0)) → (S 1100007 k) = 1) ∧ sm_DR (g43 72) (g43 71) (S 1046 0) ∧ 0 ≤ (S 1148 0) ∧ (S 1148 0) < (S 1046 0) ∧ (g43 71 (S 1148 0)) = 1 ∧ (S 1148 0) = (S 1148 0) ∧ 6 ≤ (7 : Int) ∧ (7 : Int) ≤ 8) ∧ (∀ g50 : sv_S, (sm_ST (g50 71) (g50 74) (g50 75) (g50 78) (g50 79) (g50 80) (S 27) (S 1100007) (S 1100023) (S 1100024) (S 1046 0) ((S 1046 0) + 2 * (S 1032 0)) (g50 1127 0) ∧ 465000 ≤ (g50 1127 0) ∧ (g50 1127 0) + sm_hs (g50 71) (S 1100007) ≤ 635000 ∧ (g50 75 639) = 647340 ∧ (∀ k : Int, (g43 71 k) = 1 → (g50 71 k) = 1) ∧ sm_DR (g50 72) (g50 71) (S 1046 0) ∧ (641 * (sm_cm (g50 71) + sm_pt (g50 68) (g50 69) (g50 70) + sm_pl (g50 81) (g50 82) (g50 83) (g50 84) (g50 85) (g50 86) + sm_ps (g50 76) (g50 77)) + sm_du (g50 72)) ≤ (641 * (sm_cm (g43 71) + sm_pt (g43 68) (g43 69) (g43 70) + sm_pl (g43 81) (g43 82) (g43 83) (g43 84) (g43 85) (g43 86) + sm_ps (g43 76) (g43 77)) + sm_du (g43 72))) → (sm_ST (g50 71) (g50 74) (g50 75) (g50 78) (g50 79) (g50 80) (S 27) (S 1100007) (S 1100023) (S 1100024) (S 1046 0) ((S 1046 0) + 2 * (S 1032 0)) (g50 1127 0) ∧ 465000 ≤ (g50 1127 0) ∧ (g50 1127 0) + sm_hs (g50 71) (S 1100007) ≤ 635000 ∧ (g50 75 639) = 647340 ∧ (∀ k : Int, (S 71 k) = 1 → (g50 71 k) = 1) ∧ sm_DR (g50 72) (g50 71) (S 1046 0) ∧ (641 * (sm_cm (g50 71) + sm_pt (g50 68) (g50 69) (g50 70) + sm_pl (g50 81) (g50 82) (g50 83) (g50 84) (g50 85) (g50 86) + sm_ps (g50 76) (g50 77)) + sm_du (g50 72)) ≤ (641 * (sm_cm (S 71) + sm_pt (S 68) (S 69) (S 70) + sm_pl (S 81) (S 82) (S 83) (S 84) (S 85) (S 86) + sm_ps (S 76) (S 77)) + sm_du (S 72))))))))))) ∧ ((¬ ((0 : Int) = (0 : Int))) → (635639 ≤ x27 ∧ x27 < 647790) ∧ (∀ g56 : sv_S, (sm_pt (g56 68) (g56 69) (g56 70) = sm_pt (g37 68) (g37 69) (g37 70)) → (29 ≤ (S 1071 0) ∧ (S 1071 0) ≤ 127 ∧ 31 ≤ (S 1008 0) ∧ (S 1008 0) ≤ 90 ∧ 1 ≤ (S 1032 0) ∧ (S 1032 0) ≤ 11 ∧ 0 ≤ (S 1055 0) ∧ (S 1055 0) ≤ 19 ∧ (S 1071 0) = 29 + 6 * ((S 1032 0) - 1) + 2 * (S 1055 0) ∧ 0 ≤ (S 1046 0) ∧ (S 1046 0) + 2 * (S 1032 0) ≤ 500 ∧ sm_PD (S 1046 0) (S 1032 0) (S 1071 0) (S 1008 0) ∧ 0 ≤ (S 1071 0) * ((S 1008 0) + 1) ∧ (S 1071 0) * ((S 1008 0) + 1) ≤ 11557 ∧ 31 ≤ (S 1007 0) ∧ (S 1007 0) ≤ 400 ∧ sm_LN (S 4) 400 (S 1007 0) ∧ (S 75 639) = 647340 ∧ sm_ST (S 71) (S 74) (S 75) (S 78) (S 79) (S 80) (S 27) (S 1100007) (S 1100023) (S 1100024) (S 1046 0) ((S 1046 0) + 2 * (S 1032 0)) (S 1127 0) ∧ 465000 ≤ (S 1127 0) ∧ (S 1127 0) + sm_hs (S 71) (S 1100007) ≤ 635000 ∧ sm_NH (S 1100007) ∧ sm_CT (S 26) (S 27) (S 28) (S 29) (S 1100007) (S 1100023) (S 1100024) (S 1100025) (S 21) (S 1046 0) (S 1032 0) (S 1008 0) (S 1055 0) ∧ (∀ k : Int, (S 1046 0) ≤ k → k < ((S 1046 0) + 2 * (S 1032 0)) → (S 1100007 k) = 1) ∧ sm_DR (S 72) (S 71) (S 1046 0) ∧ 0 ≤ (S 74 639) ∧ (S 74 639) ≤ 400 ∧ 0 ≤ (S 78 639) ∧ (S 78 639) ≤ 40 ∧ (S 78 639) = sm_dp (S 1100024) (S 1100031 0) ∧ -1 ≤ (S 1100031 0) ∧ (S 1100031 0) < (S 1046 0) ∧ (0 ≤ (S 1100031 0) → (S 26 (S 1100031 0)) = 27) ∧ sm_TC (S 79) (S 80) (S 27) (S 1100007) (S 1100023) (S 1100024) 25560 (S 1100031 0) ∧ 0 ≤ (S 1148 0) ∧ (S 1148 0) + 1 < (S 1046 0) ∧ 0 ≤ (0 : Int) ∧ (0 : Int) ≤ (S 74 639) ∧ (S 74 639) - (0 : Int) ≤ 399 ∧ 0 ≤ x27 ∧ x27 < 647800 ∧ (S 1100007 ((S 1148 0) + 1)) = (S 74 639) - (0 : Int) + 1 ∧ (S 1100023 ((S 1148 0) + 1)) = (S 1100031 0)) ∧ (∀ g62 : sv_S, (sm_ST (g62 71) (g62 74) (g62 75) (g62 78) (g62 79) (g62 80) (S 27) (S 1100007) (S 1100023) (S 1100024) (S 1046 0) ((S 1046 0) + 2 * (S 1032 0)) (g62 1127 0) ∧ 465000 ≤ (g62 1127 0) ∧ (g62 1127 0) + sm_hs (g62 71) (S 1100007) ≤ 635000 ∧ (g62 75 639) = 647340 ∧ (∀ k : Int, (S 71 k) = 1 → (g62 71 k) = 1) ∧ sm_DR (g62 72) (g62 71) (S 1046 0) ∧ (641 * (sm_cm (g62 71) + sm_pt (g62 68) (g62 69) (g62 70) + sm_pl (g62 81) (g62 82) (g62 83) (g62 84) (g62 85) (g62 86) + sm_ps (g62 76) (g62 77)) + sm_du (g62 72)) ≤ (641 * (sm_cm (S 71) + sm_pt (g56 68) (g56 69) (g56 70) + sm_pl (S 81) (S 82) (S 83) (S 84) (S 85) (S 86) + sm_ps (S 76) (S 77)) + sm_du (S 72))) → (((p2 = (0 : Int)) → (sm_ST (g62 71) (g62 74) (g62 75) (g62 78) (g62 79) (g62 80) (S 27) (S 1100007) (S 1100023) (S 1100024) (S 1046 0) ((S 1046 0) + 2 * (S 1032 0)) (g62 1127 0) ∧ 465000 ≤ (g62 1127 0) ∧ (g62 1127 0) + sm_hs (g62 71) (S 1100007) ≤ 635000 ∧ (g62 75 639) = 647340 ∧ (∀ k : Int, (S 71 k) = 1 → (g62 71 k) = 1) ∧ sm_DR (g62 72) (g62 71) (S 1046 0) ∧ (641 * (sm_cm (g62 71) + sm_pt (g62 68) (g62 69) (g62 70) + sm_pl (g62 81) (g62 82) (g62 83) (g62 84) (g62 85) (g62 86) + sm_ps (g62 76) (g62 77)) + sm_du (g62 72)) ≤ (641 * (sm_cm (S 71) + sm_pt (S 68) (S 69) (S 70) + sm_pl (S 81) (S 82) (S 83) (S 84) (S 85) (S 86) + sm_ps (S 76) (S 77)) + sm_du (S 72)))) ∧ ((¬ (p2 = (0 : Int))) → ((((0 : Int) = (0 : Int)) → (sm_ST (g62 71) (g62 74) (g62 75) (g62 78) (g62 79) (g62 80) (S 27) (S 1100007) (S 1100023) (S 1100024) (S 1046 0) ((S 1046 0) + 2 * (S 1032 0)) (g62 1127 0) ∧ 465000 ≤ (g62 1127 0) ∧ (g62 1127 0) + sm_hs (g62 71) (S 1100007) ≤ 635000 ∧ (g62 75 639) = 647340 ∧ (∀ k : Int, (S 71 k) = 1 → (g62 71 k) = 1) ∧ sm_DR (g62 72) (g62 71) (S 1046 0) ∧ (641 * (sm_cm (g62 71) + sm_pt (g62 68) (g62 69) (g62 70) + sm_pl (g62 81) (g62 82) (g62 83) (g62 84) (g62 85) (g62 86) + sm_ps (g62 76) (g62 77)) + sm_du (g62 72)) ≤ (641 * (sm_cm (S 71) + sm_pt (S 68) (S 69) (S 70) + sm_pl (S 81) (S 82) (S 83) (S 84) (S 85) (S 86) + sm_ps (S 76) (S 77)) + sm_du (S 72)))) ∧ ((¬ ((0 : Int) = (0 : Int))) → (sv_R (S 1148 0) → (29 ≤ (S 1071 0) ∧ (S 1071 0) ≤ 127 ∧ 31 ≤ (S 1008 0) ∧ (S 1008 0) ≤ 90 ∧ 1 ≤ (S 1032 0) ∧ (S 1032 0) ≤ 11 ∧ 0 ≤ (S 1055 0) ∧ (S 1055 0) ≤ 19 ∧ (S 1071 0) = 29 + 6 * ((S 1032 0) - 1) + 2 * (S 1055 0) ∧ 0 ≤ (S 1046 0) ∧ (S 1046 0) + 2 * (S 1032 0) ≤ 500 ∧ sm_PD (S 1046 0) (S 1032 0) (S 1071 0) (S 1008 0) ∧ 0 ≤ (S 1071 0) * ((S 1008 0) + 1) ∧ (S 1071 0) * ((S 1008 0) + 1) ≤ 11557 ∧ 31 ≤ (S 1007 0) ∧ (S 1007 0) ≤ 400 ∧ sm_LN (S 4) 400 (S 1007 0) ∧ (g62 75 639) = 647340 ∧ sm_ST (g62 71) (g62 74) (g62 75) (g62 78) (g62 79) (g62 80) (S 27) (S 1100007) (S 1100023) (S 1100024) (S 1046 0) ((S 1046 0) + 2 * (S 1032 0)) (g62 1127 0) ∧ 465000 ≤ (g62 1127 0) ∧ (g62 1127 0) + sm_hs (g62 71) (S 1100007) ≤ 635000 ∧ sm_NH (S 1100007) ∧ sm_CT (S 26) (S 27) (S 28) (S 29) (S 1100007) (S 1100023) (S 1100024) (S 1100025) (S 21) (S 1046 0) (S 1032 0) (S 1008 0) (S 1055 0) ∧ (∀ k : Int, (S 1046 0) ≤ k → k < ((S 1046 0) + 2 * (S 1032 0)) → (S 1100007 k) = 1) ∧ sm_DR (g62 72) (g62 71) (S 1046 0) ∧ 0 ≤ (S 1148 0) ∧ (S 1148 0) < (S 1046 0) ∧ (g62 71 (S 1148 0)) = 1 ∧ (S 1148 0) = (S 1148 0) ∧ 6 ≤ (7 : Int) ∧ (7 : Int) ≤ 8) ∧ (∀ g69 : sv_S, (sm_ST (g69 71) (g69 74) (g69 75) (g69 78) (g69 79) (g69 80) (S 27) (S 1100007) (S 1100023) (S 1100024) (S 1046 0) ((S 1046 0) + 2 * (S 1032 0)) (g69 1127 0) ∧ 465000 ≤ (g69 1127 0) ∧ (g69 1127 0) + sm_hs (g69 71) (S 1100007) ≤ 635000 ∧ (g69 75 639) = 647340 ∧ (∀ k : Int, (g62 71 k) = 1 → (g69 71 k) = 1) ∧ sm_DR (g69 72) (g69 71) (S 1046 0) ∧ (641 * (sm_cm (g69 71) + sm_pt (g69 68) (g69 69) (g69 70) + sm_pl (g69 81) (g69 82) (g69 83) (g69 84) (g69 85) (g69 86) + sm_ps (g69 76) (g69 77)) + sm_du (g69 72)) ≤ (641 * (sm_cm (g62 71) + sm_pt (g62 68) (g62 69) (g62 70) + sm_pl (g62 81) (g62 82) (g62 83) (g62 84) (g62 85) (g62 86) + sm_ps (g62 76) (g62 77)) + sm_du (g62 72))) → (sm_ST (g69 71) (g69 74) (g69 75) (g69 78) (g69 79) (g69 80) (S 27) (S 1100007) (S 1100023) (S 1100024) (S 1046 0) ((S 1046 0) + 2 * (S 1032 0)) (g69 1127 0) ∧ 465000 ≤ (g69 1127 0) ∧ (g69 1127 0) + sm_hs (g69 71) (S 1100007) ≤ 635000 ∧ (g69 75 639) = 647340 ∧ (∀ k : Int, (S 71 k) = 1 → (g69 71 k) = 1) ∧ sm_DR (g69 72) (g69 71) (S 1046 0) ∧ (641 * (sm_cm (g69 71) + sm_pt (g69 68) (g69 69) (g69 70) + sm_pl (g69 81) (g69 82) (g69 83) (g69 84) (g69 85) (g69 86) + sm_ps (g69 76) (g69 77)) + sm_du (g69 72)) ≤ (641 * (sm_cm (S 71) + sm_pt (S 68) (S 69) (S 70) + sm_pl (S 81) (S 82) (S 83) (S 84) (S 85) (S 86) + sm_ps (S 76) (S 77)) + sm_du (S 72)))))))))))))))) ∧ ((¬ (p2 = (0 : Int))) → (sv_R x27) ∧ (0 ≤ (647740 : Int) ∧ (647740 : Int) < 647800 ∧ 635639 ≤ x27 ∧ x27 < 647800) ∧ (∀ g76 : sv_S, (sm_pt (g76 68) (g76 69) (g76 70) = sm_pt (g22 68) (g22 69) (g22 70)) → (29 ≤ (S 1071 0) ∧ (S 1071 0) ≤ 127 ∧ 31 ≤ (S 1008 0) ∧ (S 1008 0) ≤ 90 ∧ 1 ≤ (S 1032 0) ∧ (S 1032 0) ≤ 11 ∧ 0 ≤ (S 1055 0) ∧ (S 1055 0) ≤ 19 ∧ (S 1071 0) = 29 + 6 * ((S 1032 0) - 1) + 2 * (S 1055 0) ∧ 0 ≤ (S 1046 0) ∧ (S 1046 0) + 2 * (S 1032 0) ≤ 500 ∧ sm_PD (S 1046 0) (S 1032 0) (S 1071 0) (S 1008 0) ∧ 0 ≤ (S 1071 0) * ((S 1008 0) + 1) ∧ (S 1071 0) * ((S 1008 0) + 1) ≤ 11557 ∧ 31 ≤ (S 1007 0) ∧ (S 1007 0) ≤ 400 ∧ sm_LN (S 4) 400 (S 1007 0) ∧ (S 75 639) = 647340 ∧ sm_ST (S 71) (S 74) (S 75) (S 78) (S 79) (S 80) (S 27) (S 1100007) (S 1100023) (S 1100024) (S 1046 0) ((S 1046 0) + 2 * (S 1032 0)) (S 1127 0) ∧ 465000 ≤ (S 1127 0) ∧ (S 1127 0) + sm_hs (S 71) (S 1100007) ≤ 635000 ∧ sm_NH (S 1100007) ∧ sm_CT (S 26) (S 27) (S 28) (S 29) (S 1100007) (S 1100023) (S 1100024) (S 1100025) (S 21) (S 1046 0) (S 1032 0) (S 1008 0) (S 1055 0) ∧ (∀ k : Int, (S 1046 0) ≤ k → k < ((S 1046 0) + 2 * (S 1032 0)) → (S 1100007 k) = 1) ∧ sm_DR (S 72) (S 71) (S 1046 0) ∧ 0 ≤ (S 74 639) ∧ (S 74 639) ≤ 400 ∧ 0 ≤ (S 78 639) ∧ (S 78 639) ≤ 40 ∧ (S 78 639) = sm_dp (S 1100024) (S 1100031 0) ∧ -1 ≤ (S 1100031 0) ∧ (S 1100031 0) < (S 1046 0) ∧ (0 ≤ (S 1100031 0) → (S 26 (S 1100031 0)) = 27) ∧ sm_TC (S 79) (S 80) (S 27) (S 1100007) (S 1100023) (S 1100024) 25560 (S 1100031 0) ∧ 0 ≤ (S 1148 0) ∧ (S 1148 0) + 1 < (S 1046 0) ∧ 0 ≤ (0 : Int) ∧ (0 : Int) ≤ (S 74 639) ∧ (S 74 639) - (0 : Int) ≤ 399 ∧ 0 ≤ x27 ∧ x27 < 647800 ∧ (S 1100007 ((S 1148 0) + 1)) = (S 74 639) - (0 : Int) + 1 ∧ (S 1100023 ((S 1148 0) + 1)) = (S 1100031 0)) ∧ (∀ g82 : sv_S, (sm_ST (g82 71) (g82 74) (g82 75) (g82 78) (g82 79) (g82 80) (S 27) (S 1100007) (S 1100023) (S 1100024) (S 1046 0) ((S 1046 0) + 2 * (S 1032 0)) (g82 1127 0) ∧ 465000 ≤ (g82 1127 0) ∧ (g82 1127 0) + sm_hs (g82 71) (S 1100007) ≤ 635000 ∧ (g82 75 639) = 647340 ∧ (∀ k : Int, (S 71 k) = 1 → (g82 71 k) = 1) ∧ sm_DR (g82 72) (g82 71) (S 1046 0) ∧ (641 * (sm_cm (g82 71) + sm_pt (g82 68) (g82 69) (g82 70) + sm_pl (g82 81) (g82 82) (g82 83) (g82 84) (g82 85) (g82 86) + sm_ps (g82 76) (g82 77)) + sm_du (g82 72)) ≤ (641 * (sm_cm (S 71) + sm_pt (g76 68) (g76 69) (g76 70) + sm_pl (S 81) (S 82) (S 83) (S 84) (S 85) (S 86) + sm_ps (S 76) (S 77)) + sm_du (S 72))) → (((p2 = (0 : Int)) → (sm_ST (g82 71) (g82 74) (g82 75) (g82 78) (g82 79) (g82 80) (S 27) (S 1100007) (S 1100023) (S 1100024) (S 1046 0) ((S 1046 0) + 2 * (S 1032 0)) (g82 1127 0) ∧ 465000 ≤ (g82 1127 0) ∧ (g82 1127 0) + sm_hs (g82 71) (S 1100007) ≤ 635000 ∧ (g82 75 639) = 647340 ∧ (∀ k : Int, (S 71 k) = 1 → (g82 71 k) = 1) ∧ sm_DR (g82 72) (g82 71) (S 1046 0) ∧ (641 * (sm_cm (g82 71) + sm_pt (g82 68) (g82 69) (g82 70) + sm_pl (g82 81) (g82 82) (g82 83) (g82 84) (g82 85) (g82 86) + sm_ps (g82 76) (g82 77)) + sm_du (g82 72)) ≤ (641 * (sm_cm (S 71) + sm_pt (S 68) (S 69) (S 70) + sm_pl (S 81) (S 82) (S 83) (S 84) (S 85) (S 86) + sm_ps (S 76) (S 77)) + sm_du (S 72)))) ∧ ((¬ (p2 = (0 : Int))) → ((((0 : Int) = (0 : Int)) → (sm_ST (g82 71) (g82 74) (g82 75) (g82 78) (g82 79) (g82 80) (S 27) (S 1100007) (S 1100023) (S 1100024) (S 1046 0) ((S 1046 0) + 2 * (S 1032 0)) (g82 1127 0) ∧ 465000 ≤ (g82 1127 0) ∧ (g82 1127 0) + sm_hs (g82 71) (S 1100007) ≤ 635000 ∧ (g82 75 639) = 647340 ∧ (∀ k : Int, (S 71 k) = 1 → (g82 71 k) = 1) ∧ sm_DR (g82 72) (g82 71) (S 1046 0) ∧ (641 * (sm_cm (g82 71) + sm_pt (g82 68) (g82 69) (g82 70) + sm_pl (g82 81) (g82 82) (g82 83) (g82 84) (g82 85) (g82 86) + sm_ps (g82 76) (g82 77)) + sm_du (g82 72)) ≤ (641 * (sm_cm (S 71) + sm_pt (S 68) (S 69) (S 70) + sm_pl (S 81) (S 82) (S 83) (S 84) (S 85) (S 86) + sm_ps (S 76) (S 77)) + sm_du (S 72)))) ∧ ((¬ ((0 : Int) = (0 : Int))) → (sv_R (S 1148 0) → (29 ≤ (S 1071 0) ∧ (S 1071 0) ≤ 127 ∧ 31 ≤ (S 1008 0) ∧ (S 1008 0) ≤ 90 ∧ 1 ≤ (S 1032 0) ∧ (S 1032 0) ≤ 11 ∧ 0 ≤ (S 1055 0) ∧ (S 1055 0) ≤ 19 ∧ (S 1071 0) = 29 + 6 * ((S 1032 0) - 1) + 2 * (S 1055 0) ∧ 0 ≤ (S 1046 0) ∧ (S 1046 0) + 2 * (S 1032 0) ≤ 500 ∧ sm_PD (S 1046 0) (S 1032 0) (S 1071 0) (S 1008 0) ∧ 0 ≤ (S 1071 0) * ((S 1008 0) + 1) ∧ (S 1071 0) * ((S 1008 0) + 1) ≤ 11557 ∧ 31 ≤ (S 1007 0) ∧ (S 1007 0) ≤ 400 ∧ sm_LN (S 4) 400 (S 1007 0) ∧ (g82 75 639) = 647340 ∧ sm_ST (g82 71) (g82 74) (g82 75) (g82 78) (g82 79) (g82 80) (S 27) (S 1100007) (S 1100023) (S 1100024) (S 1046 0) ((S 1046 0) + 2 * (S 1032 0)) (g82 1127 0) ∧ 465000 ≤ (g82 1127 0) ∧ (g82 1127 0) + sm_hs (g82 71) (S 1100007) ≤ 635000 ∧ sm_NH (S 1100007) ∧ sm_CT (S 26) (S 27) (S 28) (S 29) (S 1100007) (S 1100023) (S 1100024) (S 1100025) (S 21) (S 1046 0) (S 1032 0) (S 1008 0) (S 1055 0) ∧ (∀ k : Int, (S 1046 0) ≤ k → k < ((S 1046 0) + 2 * (S 1032 0)) → (S 1100007 k) = 1) ∧ sm_DR (g82 72) (g82 71) (S 1046 0) ∧ 0 ≤ (S 1148 0) ∧ (S 1148 0) < (S 1046 0) ∧ (g82 71 (S 1148 0)) = 1 ∧ (S 1148 0) = (S 1148 0) ∧ 6 ≤ (7 : Int) ∧ (7 : Int) ≤ 8) ∧ (∀ g89 : sv_S, (sm_ST (g89 71) (g89 74) (g89 75) (g89 78) (g89 79) (g89 80) (S 27) (S 1100007) (S 1100023) (S 1100024) (S 1046 0) ((S 1046 0) + 2 * (S 1032 0)) (g89 1127 0) ∧ 465000 ≤ (g89 1127 0) ∧ (g89 1127 0) + sm_hs (g89 71) (S 1100007) ≤ 635000 ∧ (g89 75 639) = 647340 ∧ (∀ k : Int, (g82 71 k) = 1 → (g89 71 k) = 1) ∧ sm_DR (g89 72) (g89 71) (S 1046 0) ∧ (641 * (sm_cm (g89 71) + sm_pt (g89 68) (g89 69) (g89 70) + sm_pl (g89 81) (g89 82) (g89 83) (g89 84) (g89 85) (g89 86) + sm_ps (g89 76) (g89 77)) + sm_du (g89 72)) ≤ (641 * (sm_cm (g82 71) + sm_pt (g82 68) (g82 69) (g82 70) + sm_pl (g82 81) (g82 82) (g82 83) (g82 84) (g82 85) (g82 86) + sm_ps (g82 76) (g82 77)) + sm_du (g82 72))) → (sm_ST (g89 71) (g89 74) (g89 75) (g89 78) (g89 79) (g89 80) (S 27) (S 1100007) (S 1100023) (S 1100024) (S 1046 0) ((S 1046 0) + 2 * (S 1032 0)) (g89 1127 0) ∧ 465000 ≤ (g89 1127 0) ∧ (g89 1127 0) + sm_hs (g89 71) (S 1100007) ≤ 635000 ∧ (g89 75 639) = 647340 ∧ (∀ k : Int, (S 71 k) = 1 → (g89 71 k) = 1) ∧ sm_DR (g89 72) (g89 71) (S 1046 0) ∧ (641 * (sm_cm (g89 71) + sm_pt (g89 68) (g89 69) (g89 70) + sm_pl (g89 81) (g89 82) (g89 83) (g89 84) (g89 85) (g89 86) + sm_ps (g89 76) (g89 77)) + sm_du (g89 72)) ≤ (641 * (sm_cm (S 71) + sm_pt (S 68) (S 69) (S 70) + sm_pl (S 81) (S 82) (S 83) (S 84) (S 85) (S 86) + sm_ps (S 76) (S 77)) + sm_du (S 72))))))))))))))))) ∧ ((¬ (r14 = (0 : Int))) → (0 ≤ (647740 : Int) ∧ (647740 : Int) < 647800) ∧ (∀ g95 : sv_S, (635639 ≤ (647740 : Int) → sm_pt (g95 68) (g95 69) (g95 70) = sm_pt (S 68) (S 69) (S 70)) → (0 ≤ r7 ∧ r7 < 647800 ∧ 635639 ≤ (647740 : Int) ∧ (647740 : Int) < 647790) ∧ (∀ g101 : sv_S, (sm_pt (g101 68) (g101 69) (g101 70) = sm_pt (g95 68) (g95 69) (g95 70)) → (∀ x106 : Int, ((647740 : Int) + (1 : Int)) = x106 → (((p2 = (0 : Int)) → (sv_R x106) ∧ (0 ≤ x106 ∧ x106 < 647800) ∧ (∀ g110 : sv_S, (635639 ≤ x106 → sm_pt (g110 68) (g110 69) (g110 70) = sm_pt (g101 68) (g101 69) (g101 70)) → (29 ≤ (S 1071 0) ∧ (S 1071 0) ≤ 127 ∧ 31 ≤ (S 1008 0) ∧ (S 1008 0) ≤ 90 ∧ 1 ≤ (S 1032 0) ∧ (S 1032 0) ≤ 11 ∧ 0 ≤ (S 1055 0) ∧ (S 1055 0) ≤ 19 ∧ (S 1071 0) = 29 + 6 * ((S 1032 0) - 1) + 2 * (S 1055 0) ∧ 0 ≤ (S 1046 0) ∧ (S 1046 0) + 2 * (S 1032 0) ≤ 500 ∧ sm_PD (S 1046 0) (S 1032 0) (S 1071 0) (S 1008 0) ∧ 0 ≤ (S 1071 0) * ((S 1008 0) + 1) ∧ (S 1071 0) * ((S 1008 0) + 1) ≤ 11557 ∧ 0 ≤ (647740 : Int) ∧ (647740 : Int) < 647800 ∧ 635639 ≤ x106 ∧ x106 < 647790) ∧ (∀ g116 : sv_S, (sm_pt (g116 68) (g116 69) (g116 70) = sm_pt (g110 68) (g110 69) (g110 70)) → ((((1 : Int) = (0 : Int)) → (29 ≤ (S 1071 0) ∧ (S 1071 0) ≤ 127 ∧ 31 ≤ (S 1008 0) ∧ (S 1008 0) ≤ 90 ∧ 1 ≤ (S 1032 0) ∧ (S 1032 0) ≤ 11 ∧ 0 ≤ (S 1055 0) ∧ (S 1055 0) ≤ 19 ∧ (S 1071 0) = 29 + 6 * ((S 1032 0) - 1) + 2 * (S 1055 0) ∧ 0 ≤ (S 1046 0) ∧ (S 1046 0) + 2 * (S 1032 0) ≤ 500 ∧ sm_PD (S 1046 0) (S 1032 0) (S 1071 0) (S 1008 0) ∧ 0 ≤ (S 1071 0) * ((S 1008 0) + 1) ∧ (S 1071 0) * ((S 1008 0) + 1) ≤ 11557 ∧ 31 ≤ (S 1007 0) ∧ (S 1007 0) ≤ 400 ∧ sm_LN (S 4) 400 (S 1007 0) ∧ (S 75 639) = 647340 ∧ sm_ST (S 71) (S 74) (S 75) (S 78) (S 79) (S 80) (S 27) (S 1100007) (S 1100023) (S 1100024) (S 1046 0) ((S 1046 0) + 2 * (S 1032 0)) (S 1127 0) ∧ 465000 ≤ (S 1127 0) ∧ (S 1127 0) + sm_hs (S 71) (S 1100007) ≤ 635000 ∧ sm_NH (S 1100007) ∧ sm_CT (S 26) (S 27) (S 28) (S 29) (S 1100007) (S 1100023) (S 1100024) (S 1100025) (S 21) (S 1046 0) (S 1032 0) (S 1008 0) (S 1055 0) ∧ (∀ k : Int, (S 1046 0) ≤ k → k < ((S 1046 0) + 2 * (S 1032 0)) → (S 1100007 k) = 1) ∧ sm_DR (S 72) (S 71) (S 1046 0) ∧ 0 ≤ (S 74 639) ∧ (S 74 639) ≤ 400 ∧ 0 ≤ (S 78 639) ∧ (S 78 639) ≤ 40 ∧ (S 78 639) = sm_dp (S 1100024) (S 1100031 0) ∧ -1 ≤ (S 1100031 0) ∧ (S 1100031 0) < (S 1046 0) ∧ (0 ≤ (S 1100031 0) → (S 26 (S 1100031 0)) = 27) ∧ sm_TC (S 79) (S 80) (S 27) (S 1100007) (S 1100023) (S 1100024) 25560 (S 1100031 0) ∧ 0 ≤ (S 1148 0) ∧ (S 1148 0) + 1 < (S 1046 0) ∧ 0 ≤ (0 : Int) ∧ (0 : Int) ≤ (S 74 639) ∧ (S 74 639) - (0 : Int) ≤ 399 ∧ 0 ≤ x106 ∧ x106 < 647800 ∧ (S 1100007 ((S 1148 0) + 1)) = (S 74 639) - (0 : Int) + 1 ∧ (S 1100023 ((S 1148 0) + 1)) = (S 1100031 0)) ∧ (∀ g122 : sv_S, (sm_ST (g122 71) (g122 74) (g122 75) (g122 78) (g122 79) (g122 80) (S 27) (S 1100007) (S 1100023) (S 1100024) (S 1046 0) ((S 1046 0) + 2 * (S 1032 0)) (g122 1127 0) ∧ 465000 ≤ (g122 1127 0) ∧ (g122 1127 0) + sm_hs (g122 71) (S 1100007) ≤ 635000 ∧ (g122 75 639) = 647340 ∧ (∀ k : Int, (S 71 k) = 1 → (g122 71 k) = 1) ∧ sm_DR (g122 72) (g122 71) (S 1046 0) ∧ (641 * (sm_cm (g122 71) + sm_pt (g122 68) (g122 69) (g122 70) + sm_pl (g122 81) (g122 82) (g122 83) (g122 84) (g122 85) (g122 86) + sm_ps (g122 76) (g122 77)) + sm_du (g122 72)) ≤ (641 * (sm_cm (S 71) + sm_pt (g116 68) (g116 69) (g116 70) + sm_pl (S 81) (S 82) (S 83) (S 84) (S 85) (S 86) + sm_ps (S 76) (S 77)) + sm_du (S 72))) → (((p2 = (0 : Int)) → (sm_ST (g122 71) (g122 74) (g122 75) (g122 78) (g122 79) (g122 80) (S 27) (S 1100007) (S 1100023) (S 1100024) (S 1046 0) ((S 1046 0) + 2 * (S 1032 0)) (g122 1127 0) ∧ 465000 ≤ (g122 1127 0) ∧ (g122 1127 0) + sm_hs (g122 71) (S 1100007) ≤ 635000 ∧ (g122 75 639) = 647340 ∧ (∀ k : Int, (S 71 k) = 1 → (g122 71 k) = 1) ∧ sm_DR (g122 72) (g122 71) (S 1046 0) ∧ (641 * (sm_cm (g122 71) + sm_pt (g122 68) (g122 69) (g122 70) + sm_pl (g122 81) (g122 82) (g122 83) (g122 84) (g122 85) (g122 86) + sm_ps (g122 76) (g122 77)) + sm_du (g122 72)) ≤ (641 * (sm_cm (S 71) + sm_pt (S 68) (S 69) (S 70) + sm_pl (S 81) (S 82) (S 83) (S 84) (S 85) (S 86) + sm_ps (S 76) (S 77)) + sm_du (S 72)))) ∧ ((¬ (p2 = (0 : Int))) → ((((1 : Int) = (0 : Int)) → (sm_ST (g122 71) (g122 74) (g122 75) (g122 78) (g122 79) (g122 80) (S 27) (S 1100007) (S 1100023) (S 1100024) (S 1046 0) ((S 1046 0) + 2 * (S 1032 0)) (g122 1127 0) ∧ 465000 ≤ (g122 1127 0) ∧ (g122 1127 0) + sm_hs (g122 71) (S 1100007) ≤ 635000 ∧ (g122 75 639) = 647340 ∧ (∀ k : Int, (S 71 k) = 1 → (g122 71 k) = 1) ∧ sm_DR (g122 72) (g122 71) (S 1046 0) ∧ (641 * (sm_cm (g122 71) + sm_pt (g122 68) (g122 69) (g122 70) + sm_pl (g122 81) (g122 82) (g122 83) (g122 84) (g122 85) (g122 86) + sm_ps (g122 76) (g122 77)) + sm_du (g122 72)) ≤ (641 * (sm_cm (S 71) + sm_pt (S 68) (S 69) (S 70) + sm_pl (S 81) (S 82) (S 83) (S 84) (S 85) (S 86) + sm_ps (S 76) (S 77)) + sm_du (S 72)))) ∧ ((¬ ((1 : Int) = (0 : Int))) → (sv_R (S 1148 0) → (29 ≤ (S 1071 0) ∧ (S 1071 0) ≤ 127 ∧ 31 ≤ (S 1008 0) ∧ (S 1008 0) ≤ 90 ∧ 1 ≤ (S 1032 0) ∧ (S 1032 0) ≤ 11 ∧ 0 ≤ (S 1055 0) ∧ (S 1055 0) ≤ 19 ∧ (S 1071 0) = 29 + 6 * ((S 1032 0) - 1) + 2 * (S 1055 0) ∧ 0 ≤ (S 1046 0) ∧ (S 1046 0) + 2 * (S 1032 0) ≤ 500 ∧ sm_PD (S 1046 0) (S 1032 0) (S 1071 0) (S 1008 0) ∧ 0 ≤ (S 1071 0) * ((S 1008 0) + 1) ∧ (S 1071 0) * ((S 1008 0) + 1) ≤ 11557 ∧ 31 ≤ (S 1007 0) ∧ (S 1007 0) ≤ 400 ∧ sm_LN (S 4) 400 (S 1007 0) ∧ (g122 75 639) = 647340 ∧ sm_ST (g122 71) (g122 74) (g122 75) (g122 78) (g122 79) (g122 80) (S 27) (S 1100007) (S 1100023) (S 1100024) (S 1046 0) ((S 1046 0) + 2 * (S 1032 0)) (g122 1127 0) ∧ 465000 ≤ (g122 1127 0) ∧ (g122 1127 0) + sm_hs (g122 71) (S 1100007) ≤ 635000 ∧ sm_NH (S 1100007) ∧ sm_CT (S 26) (S 27) (S 28) (S 29) (S 1100007) (S 1100023) (S 1100024) (S 1100025) (S 21) (S 1046 0) (S 1032 0) (S 1008 0) (S 1055 0) ∧ (∀ k : Int, (S 1046 0) ≤ k → k < ((S 1046 0) + 2 * (S 1032 0)) → (S 1100007 k) = 1) ∧ sm_DR (g122 72) (g122 71) (S 1046 0) ∧ 0 ≤ (S 1148 0) ∧ (S 1148 0) < (S 1046 0) ∧ (g122 71 (S 1148 0)) = 1 ∧ (S 1148 0) = (S 1148 0) ∧ 6 ≤ (7 : Int) ∧ (7 : Int) ≤ 8) ∧ (∀ g129 : sv_S, (sm_ST (g129 71) (g129 74) (g129 75) (g129 78) (g129 79) (g129 80) (S 27) (S 1100007) (S 1100023) (S 1100024) (S 1046 0) ((S 1046 0) + 2 * (S 1032 0)) (g129 1127 0) ∧ 465000 ≤ (g129 1127 0) ∧ (g129 1127 0) + sm_hs (g129 71) (S 1100007) ≤ 635000 ∧ (g129 75 639) = 647340 ∧ (∀ k : Int, (g122 71 k) = 1 → (g129 71 k) = 1) ∧ sm_DR (g129 72) (g129 71) (S 1046 0) ∧ (641 * (sm_cm (g129 71) + sm_pt (g129 68) (g129 69) (g129 70) + sm_pl (g129 81) (g129 82) (g129 83) (g129 84) (g129 85) (g129 86) + sm_ps (g129 76) (g129 77)) + sm_du (g129 72)) ≤ (641 * (sm_cm (g122 71) + sm_pt (g122 68) (g122 69) (g122 70) + sm_pl (g122 81) (g122 82) (g122 83) (g122 84) (g122 85) (g122 86) + sm_ps (g122 76) (g122 77)) + sm_du (g122 72))) → (sm_ST (g129 71) (g129 74) (g129 75) (g129 78) (g129 79) (g129 80) (S 27) (S 1100007) (S 1100023) (S 1100024) (S 1046 0) ((S 1046 0) + 2 * (S 1032 0)) (g129 1127 0) ∧ 465000 ≤ (g129 1127 0) ∧ (g129 1127 0) + sm_hs (g129 71) (S 1100007) ≤ 635000 ∧ (g129 75 639) = 647340 ∧ (∀ k : Int, (S 71 k) = 1 → (g129 71 k) = 1) ∧ sm_DR (g129 72) (g129 71) (S 1046 0) ∧ (641 * (sm_cm (g129 71) + sm_pt (g129 68) (g129 69) (g129 70) + sm_pl (g129 81) (g129 82) (g129 83) (g129 84) (g129 85) (g129 86) + sm_ps (g129 76) (g129 77)) + sm_du (g129 72)) ≤ (641 * (sm_cm (S 71) + sm_pt (S 68) (S 69) (S 70) + sm_pl (S 81) (S 82) (S 83) (S 84) (S 85) (S 86) + sm_ps (S 76) (S 77)) + sm_du (S 72))))))))))) ∧ ((¬ ((1 : Int) = (0 : Int))) → (635639 ≤ x106 ∧ x106 < 647790) ∧ (∀ g135 : sv_S, (sm_pt (g135 68) (g135 69) (g135 70) = sm_pt (g116 68) (g116 69) (g116 70)) → (29 ≤ (S 1071 0) ∧ (S 1071 0) ≤ 127 ∧ 31 ≤ (S 1008 0) ∧ (S 1008 0) ≤ 90 ∧ 1 ≤ (S 1032 0) ∧ (S 1032 0) ≤ 11 ∧ 0 ≤ (S 1055 0) ∧ (S 1055 0) ≤ 19 ∧ (S 1071 0) = 29 + 6 * ((S 1032 0) - 1) + 2 * (S 1055 0) ∧ 0 ≤ (S 1046 0) ∧ (S 1046 0) + 2 * (S 1032 0) ≤ 500 ∧ sm_PD (S 1046 0) (S 1032 0) (S 1071 0) (S 1008 0) ∧ 0 ≤ (S 1071 0) * ((S 1008 0) + 1) ∧ (S 1071 0) * ((S 1008 0) + 1) ≤ 11557 ∧ 31 ≤ (S 1007 0) ∧ (S 1007 0) ≤ 400 ∧ sm_LN (S 4) 400 (S 1007 0) ∧ (S 75 639) = 647340 ∧ sm_ST (S 71) (S 74) (S 75) (S 78) (S 79) (S 80) (S 27) (S 1100007) (S 1100023) (S 1100024) (S 1046 0) ((S 1046 0) + 2 * (S 1032 0)) (S 1127 0) ∧ 465000 ≤ (S 1127 0) ∧ (S 1127 0) + sm_hs (S 71) (S 1100007) ≤ 635000 ∧ sm_NH (S 1100007) ∧ sm_CT (S 26) (S 27) (S 28) (S 29) (S 1100007) (S 1100023) (S 1100024) (S 1100025) (S 21) (S 1046 0) (S 1032 0) (S 1008 0) (S 1055 0) ∧ (∀ k : Int, (S 1046 0) ≤ k → k < ((S 1046 0) + 2 * (S 1032 0)) → (S 1100007 k) = 1) ∧ sm_DR (S 72) (S 71) (S 1046 0) ∧ 0 ≤ (S 74 639) ∧ (S 74 639) ≤ 400 ∧ 0 ≤ (S 78 639) ∧ (S 78 639) ≤ 40 ∧ (S 78 639) = sm_dp (S 1100024) (S 1100031 0) ∧ -1 ≤ (S 1100031 0) ∧ (S 1100031 0) < (S 1046 0) ∧ (0 ≤ (S 1100031 0) → (S 26 (S 1100031 0)) = 27) ∧ sm_TC (S 79) (S 80) (S 27) (S 1100007) (S 1100023) (S 1100024) 25560 (S 1100031 0) ∧ 0 ≤ (S 1148 0) ∧ (S 1148 0) + 1 < (S 1046 0) ∧ 0 ≤ (0 : Int) ∧ (0 : Int) ≤ (S 74 639) ∧ (S 74 639) - (0 : Int) ≤ 399 ∧ 0 ≤ x106 ∧ x106 < 647800 ∧ (S 1100007 ((S 1148 0) + 1)) = (S 74 639) - (0 : Int) + 1 ∧ (S 1100023 ((S 1148 0) + 1)) = (S 1100031 0)) ∧ (∀ g141 : sv_S, (sm_ST (g141 71) (g141 74) (g141 75) (g141 78) (g141 79) (g141 80) (S 27) (S 1100007) (S 1100023) (S 1100024) (S 1046 0) ((S 1046 0) + 2 * (S 1032 0)) (g141 1127 0) ∧ 465000 ≤ (g141 1127 0) ∧ (g141 1127 0) + sm_hs (g141 71) (S 1100007) ≤ 635000 ∧ (g141 75 639) = 647340 ∧ (∀ k : Int, (S 71 k) = 1 → (g141 71 k) = 1) ∧ sm_DR (g141 72) (g141 71) (S 1046 0) ∧ (641 * (sm_cm (g141 71) + sm_pt (g141 68) (g141 69) (g141 70) + sm_pl (g141 81) (g141 82) (g141 83) (g141 84) (g141 85) (g141 86) + sm_ps (g141 76) (g141 77)) + sm_du (g141 72)) ≤ (641 * (sm_cm (S 71) + sm_pt (g135 68) (g135 69) (g135 70) + sm_pl (S 81) (S 82) (S 83) (S 84) (S 85) (S 86) + sm_ps (S 76) (S 77)) + sm_du (S 72))) → (((p2 = (0 : Int)) → (sm_ST (g141 71) (g141 74) (g141 75) (g141 78) (g141 79) (g141 80) (S 27) (S 1100007) (S 1100023) (S 1100024) (S 1046 0) ((S 1046 0) + 2 * (S 1032 0)) (g141 1127 0) ∧ 465000 ≤ (g141 1127 0) ∧ (g141 1127 0) + sm_hs (g141 71) (S 1100007) ≤ 635000 ∧ (g141 75 639) = 647340 ∧ (∀ k : Int, (S 71 k) = 1 → (g141 71 k) = 1) ∧ sm_DR (g141 72) (g141 71) (S 1046 0) ∧ (641 * (sm_cm (g141 71) + sm_pt (g141 68) (g141 69) (g141 70) + sm_pl (g141 81) (g141 82) (g141 83) (g141 84) (g141 85) (g141 86) + sm_ps (g141 76) (g141 77)) + sm_du (g141 72)) ≤ (641 * (sm_cm (S 71) + sm_pt (S 68) (S 69) (S 70) + sm_pl (S 81) (S 82) (S 83) (S 84) (S 85) (S 86) + sm_ps (S 76) (S 77)) + sm_du (S 72)))) ∧ ((¬ (p2 = (0 : Int))) → ((((1 : Int) = (0 : Int)) → (sm_ST (g141 71) (g141 74) (g141 75) (g141 78) (g141 79) (g141 80) (S 27) (S 1100007) (S 1100023) (S 1100024) (S 1046 0) ((S 1046 0) + 2 * (S 1032 0)) (g141 1127 0) ∧ 465000 ≤ (g141 1127 0) ∧ (g141 1127 0) + sm_hs (g141 71) (S 1100007) ≤ 635000 ∧ (g141 75 639) = 647340 ∧ (∀ k : Int, (S 71 k) = 1 → (g141 71 k) = 1) ∧ sm_DR (g141 72) (g141 71) (S 1046 0) ∧ (641 * (sm_cm (g141 71) + sm_pt (g141 68) (g141 69) (g141 70) + sm_pl (g141 81) (g141 82) (g141 83) (g141 84) (g141 85) (g141 86) + sm_ps (g141 76) (g141 77)) + sm_du (g141 72)) ≤ (641 * (sm_cm (S 71) + sm_pt (S 68) (S 69) (S 70) + sm_pl (S 81) (S 82) (S 83) (S 84) (S 85) (S 86) + sm_ps (S 76) (S 77)) + sm_du (S 72)))) ∧ ((¬ ((1 : Int) = (0 : Int))) → (sv_R (S 1148 0) → (29 ≤ (S 1071 0) ∧ (S 1071 0) ≤ 127 ∧ 31 ≤ (S 1008 0) ∧ (S 1008 0) ≤ 90 ∧ 1 ≤ (S 1032 0) ∧ (S 1032 0) ≤ 11 ∧ 0 ≤ (S 1055 0) ∧ (S 1055 0) ≤ 19 ∧ (S 1071 0) = 29 + 6 * ((S 1032 0) - 1) + 2 * (S 1055 0) ∧ 0 ≤ (S 1046 0) ∧ (S 1046 0) + 2 * (S 1032 0) ≤ 500 ∧ sm_PD (S 1046 0) (S 1032 0) (S 1071 0) (S 1008 0) ∧ 0 ≤ (S 1071 0) * ((S 1008 0) + 1) ∧ (S 1071 0) * ((S 1008 0) + 1) ≤ 11557 ∧ 31 ≤ (S 1007 0) ∧ (S 1007 0) ≤ 400 ∧ sm_LN (S 4) 400 (S 1007 0) ∧ (g141 75 639) = 647340 ∧ sm_ST (g141 71) (g141 74) (g141 75) (g141 78) (g141 79) (g141 80) (S 27) (S 1100007) (S 1100023) (S 1100024) (S 1046 0) ((S 1046 0) + 2 * (S 1032 0)) (g141 1127 0) ∧ 465000 ≤ (g141 1127 0) ∧ (g141 1127 0) + sm_hs (g141 71) (S 1100007) ≤ 635000 ∧ sm_NH (S 1100007) ∧ sm_CT (S 26) (S 27) (S 28) (S 29) (S 1100007) (S 1100023) (S 1100024) (S 1100025) (S 21) (S 1046 0) (S 1032 0) (S 1008 0) (S 1055 0) ∧ (∀ k : Int, (S 1046 0) ≤ k → k < ((S 1046 0) + 2 * (S 1032 0)) → (S 1100007 k) = 1) ∧ sm_DR (g141 72) (g141 71) (S 1046 0) ∧ 0 ≤ (S 1148 0) ∧ (S 1148 0) < (S 1046 0) ∧ (g141 71 (S 1148 0)) = 1 ∧ (S 1148 0) = (S 1148 0) ∧ 6 ≤ (7 : Int) ∧ (7 : Int) ≤ 8) ∧ (∀ g148 : sv_S, (sm_ST (g148 71) (g148 74) (g148 75) (g148 78) (g148 79) (g148 80) (S 27) (S 1100007) (S 1100023) (S 1100024) (S 1046 0) ((S 1046 0) + 2 * (S 1032 0)) (g148 1127 0) ∧ 465000 ≤ (g148 1127 0) ∧ (g148 1127 0) + sm_hs (g148 71) (S 1100007) ≤ 635000 ∧ (g148 75 639) = 647340 ∧ (∀ k : Int, (g141 71 k) = 1 → (g148 71 k) = 1) ∧ sm_DR (g148 72) (g148 71) (S 1046 0) ∧ (641 * (sm_cm (g148 71) + sm_pt (g148 68) (g148 69) (g148 70) + sm_pl (g148 81) (g148 82) (g148 83) (g148 84) (g148 85) (g148 86) + sm_ps (g148 76) (g148 77)) + sm_du (g148 72)) ≤ (641 * (sm_cm (g141 71) + sm_pt (g141 68) (g141 69) (g141 70) + sm_pl (g141 81) (g141 82) (g141 83) (g141 84) (g141 85) (g141 86) + sm_ps (g141 76) (g141 77)) + sm_du (g141 72))) → (sm_ST (g148 71) (g148 74) (g148 75) (g148 78) (g148 79) (g148 80) (S 27) (S 1100007) (S 1100023) (S 1100024) (S 1046 0) ((S 1046 0) + 2 * (S 1032 0)) (g148 1127 0) ∧ 465000 ≤ (g148 1127 0) ∧ (g148 1127 0) + sm_hs (g148 71) (S 1100007) ≤ 635000 ∧ (g148 75 639) = 647340 ∧ (∀ k : Int, (S 71 k) = 1 → (g148 71 k) = 1) ∧ sm_DR (g148 72) (g148 71) (S 1046 0) ∧ (641 * (sm_cm (g148 71) + sm_pt (g148 68) (g148 69) (g148 70) + sm_pl (g148 81) (g148 82) (g148 83) (g148 84) (g148 85) (g148 86) + sm_ps (g148 76) (g148 77)) + sm_du (g148 72)) ≤ (641 * (sm_cm (S 71) + sm_pt (S 68) (S 69) (S 70) + sm_pl (S 81) (S 82) (S 83) (S 84) (S 85) (S 86) + sm_ps (S 76) (S 77)) + sm_du (S 72)))))))))))))))) ∧ ((¬ (p2 = (0 : Int))) → (sv_R x106) ∧ (0 ≤ (647740 : Int) ∧ (647740 : Int) < 647800 ∧ 635639 ≤ x106 ∧ x106 < 647800) ∧ (∀ g155 : sv_S, (sm_pt (g155 68) (g155 69) (g155 70) = sm_pt (g101 68) (g101 69) (g101 70)) → (29 ≤ (S 1071 0) ∧ (S 1071 0) ≤ 127 ∧ 31 ≤ (S 1008 0) ∧ (S 1008 0) ≤ 90 ∧ 1 ≤ (S 1032 0) ∧ (S 1032 0) ≤ 11 ∧ 0 ≤ (S 1055 0) ∧ (S 1055 0) ≤ 19 ∧ (S 1071 0) = 29 + 6 * ((S 1032 0) - 1) + 2 * (S 1055 0) ∧ 0 ≤ (S 1046 0) ∧ (S 1046 0) + 2 * (S 1032 0) ≤ 500 ∧ sm_PD (S 1046 0) (S 1032 0) (S 1071 0) (S 1008 0) ∧ 0 ≤ (S 1071 0) * ((S 1008 0) + 1) ∧ (S 1071 0) * ((S 1008 0) + 1) ≤ 11557 ∧ 31 ≤ (S 1007 0) ∧ (S 1007 0) ≤ 400 ∧ sm_LN (S 4) 400 (S 1007 0) ∧ (S 75 639) = 647340 ∧ sm_ST (S 71) (S 74) (S 75) (S 78) (S 79) (S 80) (S 27) (S 1100007) (S 1100023) (S 1100024) (S 1046 0) ((S 1046 0) + 2 * (S 1032 0)) (S 1127 0) ∧ 465000 ≤ (S 1127 0) ∧ (S 1127 0) + sm_hs (S 71) (S 1100007) ≤ 635000 ∧ sm_NH (S 1100007) ∧ sm_CT (S 26) (S 27) (S 28) (S 29) (S 1100007) (S 1100023) (S 1100024) (S 1100025) (S 21) (S 1046 0) (S 1032 0) (S 1008 0) (S 1055 0) ∧ (∀ k : Int, (S 1046 0) ≤ k → k < ((S 1046 0) + 2 * (S 1032 0)) → (S 1100007 k) = 1) ∧ sm_DR (S 72) (S 71) (S 1046 0) ∧ 0 ≤ (S 74 639) ∧ (S 74 639) ≤ 400 ∧ 0 ≤ (S 78 639) ∧ (S 78 639) ≤ 40 ∧ (S 78 639) = sm_dp (S 1100024) (S 1100031 0) ∧ -1 ≤ (S 1100031 0) ∧ (S 1100031 0) < (S 1046 0) ∧ (0 ≤ (S 1100031 0) → (S 26 (S 1100031 0)) = 27) ∧ sm_TC (S 79) (S 80) (S 27) (S 1100007) (S 1100023) (S 1100024) 25560 (S 1100031 0) ∧ 0 ≤ (S 1148 0) ∧ (S 1148 0) + 1 < (S 1046 0) ∧ 0 ≤ (0 : Int) ∧ (0 : Int) ≤ (S 74 639) ∧ (S 74 639) - (0 : Int) ≤ 399 ∧ 0 ≤ x106 ∧ x106 < 647800 ∧ (S 1100007 ((S 1148 0) + 1)) = (S 74 639) - (0 : Int) + 1 ∧ (S 1100023 ((S 1148 0) + 1)) = (S 1100031 0)) ∧ (∀ g161 : sv_S, (sm_ST (g161 71) (g161 74) (g161 75) (g161 78) (g161 79) (g161 80) (S 27) (S 1100007) (S 1100023) (S 1100024) (S 1046 0) ((S 1046 0) + 2 * (S 1032 0)) (g161 1127 0) ∧ 465000 ≤ (g161 1127 0) ∧ (g161 1127 0) + sm_hs (g161 71) (S 1100007) ≤ 635000 ∧ (g161 75 639) = 647340 ∧ (∀ k : Int, (S 71 k) = 1 → (g161 71 k) = 1) ∧ sm_DR (g161 72) (g161 71) (S 1046 0) ∧ (641 * (sm_cm (g161 71) + sm_pt (g161 68) (g161 69) (g161 70) + sm_pl (g161 81) (g161 82) (g161 83) (g161 84) (g161 85) (g161 86) + sm_ps (g161 76) (g161 77)) + sm_du (g161 72)) ≤ (641 * (sm_cm (S 71) + sm_pt (g155 68) (g155 69) (g155 70) + sm_pl (S 81) (S 82) (S 83) (S 84) (S 85) (S 86) + sm_ps (S 76) (S 77)) + sm_du (S 72))) → (((p2 = (0 : Int)) → (sm_ST (g161 71) (g161 74) (g161 75) (g161 78) (g161 79) (g161 80) (S 27) (S 1100007) (S 1100023) (S 1100024) (S 1046 0) ((S 1046 0) + 2 * (S 1032 0)) (g161 1127 0) ∧ 465000 ≤ (g161 1127 0) ∧ (g161 1127 0) + sm_hs (g161 71) (S 1100007) ≤ 635000 ∧ (g161 75 639) = 647340 ∧ (∀ k : Int, (S 71 k) = 1 → (g161 71 k) = 1) ∧ sm_DR (g161 72) (g161 71) (S 1046 0) ∧ (641 * (sm_cm (g161 71) + sm_pt (g161 68) (g161 69) (g161 70) + sm_pl (g161 81) (g161 82) (g161 83) (g161 84) (g161 85) (g161 86) + sm_ps (g161 76) (g161 77)) + sm_du (g161 72)) ≤ (641 * (sm_cm (S 71) + sm_pt (S 68) (S 69) (S 70) + sm_pl (S 81) (S 82) (S 83) (S 84) (S 85) (S 86) + sm_ps (S 76) (S 77)) + sm_du (S 72)))) ∧ ((¬ (p2 = (0 : Int))) → ((((1 : Int) = (0 : Int)) → (sm_ST (g161 71) (g161 74) (g161 75) (g161 78) (g161 79) (g161 80) (S 27) (S 1100007) (S 1100023) (S 1100024) (S 1046 0) ((S 1046 0) + 2 * (S 1032 0)) (g161 1127 0) ∧ 465000 ≤ (g161 1127 0) ∧ (g161 1127 0) + sm_hs (g161 71) (S 1100007) ≤ 635000 ∧ (g161 75 639) = 647340 ∧ (∀ k : Int, (S 71 k) = 1 → (g161 71 k) = 1) ∧ sm_DR (g161 72) (g161 71) (S 1046 0) ∧ (641 * (sm_cm (g161 71) + sm_pt (g161 68) (g161 69) (g161 70) + sm_pl (g161 81) (g161 82) (g161 83) (g161 84) (g161 85) (g161 86) + sm_ps (g161 76) (g161 77)) + sm_du (g161 72)) ≤ (641 * (sm_cm (S 71) + sm_pt (S 68) (S 69) (S 70) + sm_pl (S 81) (S 82) (S 83) (S 84) (S 85) (S 86) + sm_ps (S 76) (S 77)) + sm_du (S 72)))) ∧ ((¬ ((1 : Int) = (0 : Int))) → (sv_R (S 1148 0) → (29 ≤ (S 1071 0) ∧ (S 1071 0) ≤ 127 ∧ 31 ≤ (S 1008 0) ∧ (S 1008 0) ≤ 90 ∧ 1 ≤ (S 1032 0) ∧ (S 1032 0) ≤ 11 ∧ 0 ≤ (S 1055 0) ∧ (S 1055 0) ≤ 19 ∧ (S 1071 0) = 29 + 6 * ((S 1032 0) - 1) + 2 * (S 1055 0) ∧ 0 ≤ (S 1046 0) ∧ (S 1046 0) + 2 * (S 1032 0) ≤ 500 ∧ sm_PD (S 1046 0) (S 1032 0) (S 1071 0) (S 1008 0) ∧ 0 ≤ (S 1071 0) * ((S 1008 0) + 1) ∧ (S 1071 0) * ((S 1008 0) + 1) ≤ 11557 ∧ 31 ≤ (S 1007 0) ∧ (S 1007 0) ≤ 400 ∧ sm_LN (S 4) 400 (S 1007 0) ∧ (g161 75 639) = 647340 ∧ sm_ST (g161 71) (g161 74) (g161 75) (g161 78) (g161 79) (g161 80) (S 27) (S 1100007) (S 1100023) (S 1100024) (S 1046 0) ((S 1046 0) + 2 * (S 1032 0)) (g161 1127 0) ∧ 465000 ≤ (g161 1127 0) ∧ (g161 1127 0) + sm_hs (g161 71) (S 1100007) ≤ 635000 ∧ sm_NH (S 1100007) ∧ sm_CT (S 26) (S 27) (S 28) (S 29) (S 1100007) (S 1100023) (S 1100024) (S 1100025) (S 21) (S 1046 0) (S 1032 0) (S 1008 0) (S 1055 0) ∧ (∀ k : Int, (S 1046 0) ≤ k → k < ((S 1046 0) + 2 * (S 1032 0)) → (S 1100007 k) = 1) ∧ sm_DR (g161 72) (g161 71) (S 1046 0) ∧ 0 ≤ (S 1148 0) ∧ (S 1148 0) < (S 1046 0) ∧ (g161 71 (S 1148 0)) = 1 ∧ (S 1148 0) = (S 1148 0) ∧ 6 ≤ (7 : Int) ∧ (7 : Int) ≤ 8) ∧ (∀ g168 : sv_S, (sm_ST (g168 71) (g168 74) (g168 75) (g168 78) (g168 79) (g168 80) (S 27) (S 1100007) (S 1100023) (S 1100024) (S 1046 0) ((S 1046 0) + 2 * (S 1032 0)) (g168 1127 0) ∧ 465000 ≤ (g168 1127 0) ∧ (g168 1127 0) + sm_hs (g168 71) (S 1100007) ≤ 635000 ∧ (g168 75 639) = 647340 ∧ (∀ k : Int, (g161 71 k) = 1 → (g168 71 k) = 1) ∧ sm_DR (g168 72) (g168 71) (S 1046 0) ∧ (641 * (sm_cm (g168 71) + sm_pt (g168 68) (g168 69) (g168 70) + sm_pl (g168 81) (g168 82) (g168 83) (g168 84) (g168 85) (g168 86) + sm_ps (g168 76) (g168 77)) + sm_du (g168 72)) ≤ (641 * (sm_cm (g161 71) + sm_pt (g161 68) (g161 69) (g161 70) + sm_pl (g161 81) (g161 82) (g161 83) (g161 84) (g161 85) (g161 86) + sm_ps (g161 76) (g161 77)) + sm_du (g161 72))) → (sm_ST (g168 71) (g168 74) (g168 75) (g168 78) (g168 79) (g168 80) (S 27) (S 1100007) (S 1100023) (S 1100024) (S 1046 0) ((S 1046 0) + 2 * (S 1032 0)) (g168 1127 0) ∧ 465000 ≤ (g168 1127 0) ∧ (g168 1127 0) + sm_hs (g168 71) (S 1100007) ≤ 635000 ∧ (g168 75 639) = 647340 ∧ (∀ k : Int, (S 71 k) = 1 → (g168 71 k) = 1) ∧ sm_DR (g168 72) (g168 71) (S 1046 0) ∧ (641 * (sm_cm (g168 71) + sm_pt (g168 68) (g168 69) (g168 70) + sm_pl (g168 81) (g168 82) (g168 83) (g168 84) (g168 85) (g168 86) + sm_ps (g168 76) (g168 77)) + sm_du (g168 72)) ≤ (641 * (sm_cm (S 71) + sm_pt (S 68) (S 69) (S 70) + sm_pl (S 81) (S 82) (S 83) (S 84) (S 85) (S 86) + sm_ps (S 76) (S 77)) + sm_du (S 72)))))))))))))))))))))) := by
  intro p1
  intro p2
  intro S
  intro h1_
  intro h2_
  rintro ⟨h3_, h4_⟩
  rintro ⟨h5_, ⟨h6_, ⟨h7_, ⟨h8_, ⟨h9_, ⟨h10_, ⟨h11_, ⟨h12_, ⟨h13_, ⟨h14_, ⟨h15_, ⟨h16_, ⟨h17_, ⟨h18_, ⟨h19_, ⟨h20_, ⟨h21_, ⟨h22_, ⟨h23_, ⟨h24_, ⟨h25_, ⟨h26_, ⟨h27_, ⟨h28_, ⟨h29_, ⟨h30_, ⟨h31_, ⟨h32_, ⟨h33_, ⟨h34_, ⟨h35_, ⟨h36_, ⟨h37_, ⟨h38_, ⟨h39_, ⟨h40_, ⟨h41_, ⟨h42_, ⟨h43_, ⟨h44_, ⟨h45_, ⟨h46_, ⟨h47_, h48_⟩⟩⟩⟩⟩⟩⟩⟩⟩⟩⟩⟩⟩⟩⟩⟩⟩⟩⟩⟩⟩⟩⟩⟩⟩⟩⟩⟩⟩⟩⟩⟩⟩⟩⟩⟩⟩⟩⟩⟩⟩⟩⟩
  intro h49_
  have h50_ := (h49_ h27_)
  have h51_ := (h50_ h39_)
  obtain ⟨h52_, ⟨h53_, ⟨h54_, h55_⟩⟩⟩ := (h51_ h40_)
  refine ⟨⟨h5_, ⟨h6_, ⟨h7_, ⟨h8_, ⟨h9_, ⟨h10_, ⟨h11_, ⟨h12_, ⟨h13_, ⟨h14_, ⟨h15_, ⟨h16_, (la_waysOfGlobal_0 h17_ h18_ h44_ h45_)⟩⟩⟩⟩⟩⟩⟩⟩⟩⟩⟩⟩, ?_⟩
  intro r7
  intro h56_
  rintro ⟨h57_, h58_⟩
  obtain ⟨h59_, h60_⟩ := (h57_ la_waysOfGlobal_1)
  refine ⟨(la_waysOfGlobal_3 h59_ h60_), ?_⟩
  intro r13
  intro h61_
  rintro ⟨h62_, ⟨h63_, h64_⟩⟩
  intro r14
  rintro ⟨h65_, h66_⟩
  refine ⟨?_, ?_⟩
  · skip
    intro h67_
    refine ⟨la_waysOfGlobal_4, ?_⟩
    intro g16
    intro h68_
    have h69_ := (h68_ la_waysOfGlobal_5)
    refine ⟨(la_waysOfGlobal_6 h59_ h60_), ?_⟩
    intro g22
    intro h70_
    intro x27
    intro h71_
    refine ⟨?_, ?_⟩
    · skip
      intro h72_
      refine ⟨(la_waysOfGlobal_7 h71_), ?_⟩
      refine ⟨(la_waysOfGlobal_8 h71_), ?_⟩
      intro g31
      intro h73_
      have h74_ := (h73_ (la_waysOfGlobal_9 h71_))
      refine ⟨⟨h5_, ⟨h6_, ⟨h7_, ⟨h8_, ⟨h9_, ⟨h10_, ⟨h11_, ⟨h12_, ⟨h13_, ⟨h14_, ⟨h15_, ⟨h16_, (la_waysOfGlobal_10 h17_ h18_ h71_)⟩⟩⟩⟩⟩⟩⟩⟩⟩⟩⟩⟩, ?_⟩
      intro g37
      intro h75_
      refine ⟨?_, ?_⟩
      · skip
        intro h76_
        refine ⟨⟨h5_, ⟨h6_, ⟨h7_, ⟨h8_, ⟨h9_, ⟨h10_, ⟨h11_, ⟨h12_, ⟨h13_, ⟨h14_, ⟨h15_, ⟨h16_, ⟨h17_, ⟨h18_, ⟨h19_, ⟨h20_, ⟨h21_, ⟨h22_, ⟨h23_, ⟨h24_, ⟨h25_, ⟨h26_, ⟨h27_, ⟨h28_, ⟨h29_, ⟨h30_, ⟨h31_, ⟨h32_, ⟨h33_, ⟨h34_, ⟨h35_, ⟨h36_, ⟨h37_, ⟨h38_, (la_waysOfGlobal_11 h30_ h39_ h42_ h43_ h46_ h47_ h48_ h53_ h71_)⟩⟩⟩⟩⟩⟩⟩⟩⟩⟩⟩⟩⟩⟩⟩⟩⟩⟩⟩⟩⟩⟩⟩⟩⟩⟩⟩⟩⟩⟩⟩⟩⟩⟩, ?_⟩
        intro g43
        rintro ⟨h77_, ⟨h78_, ⟨h79_, ⟨h80_, ⟨h81_, ⟨h82_, h83_⟩⟩⟩⟩⟩⟩
        refine ⟨?_, ?_⟩
        · skip
          intro h84_
          refine ⟨h77_, ?_⟩
          refine ⟨h78_, ?_⟩
          refine ⟨h79_, ?_⟩
          refine ⟨h80_, ?_⟩
          refine ⟨h81_, ?_⟩
          refine ⟨h82_, ?_⟩
          exact (la_waysOfGlobal_12 h69_ h70_ h74_ h75_ h83_)
        intro h85_
        refine ⟨?_, ?_⟩
        · skip
          intro h86_
          refine ⟨h77_, ?_⟩
          refine ⟨h78_, ?_⟩
          refine ⟨h79_, ?_⟩
          refine ⟨h80_, ?_⟩
          refine ⟨h81_, ?_⟩
          refine ⟨h82_, ?_⟩
          exact (la_waysOfGlobal_12 h69_ h70_ h74_ h75_ h83_)
        intro h87_
        intro h88_
        have h89_ := (h37_ (la_waysOfGlobal_17 (la_waysOfGlobal_16 la_waysOfGlobal_15 h87_)))
        refine ⟨⟨h5_, ⟨h6_, ⟨h7_, ⟨h8_, ⟨h9_, ⟨h10_, ⟨h11_, ⟨h12_, ⟨h13_, ⟨h14_, ⟨h15_, ⟨h16_, ⟨h17_, ⟨h18_, ⟨h19_, ⟨h20_, ⟨h21_, ⟨h80_, ⟨h77_, ⟨h78_, ⟨h79_, ⟨h26_, ⟨h27_, ⟨h28_, ⟨h82_, (la_waysOfGlobal_18 (la_waysOfGlobal_16 la_waysOfGlobal_15 h87_))⟩⟩⟩⟩⟩⟩⟩⟩⟩⟩⟩⟩⟩⟩⟩⟩⟩⟩⟩⟩⟩⟩⟩⟩⟩, ?_⟩
        intro g50
        rintro ⟨h90_, ⟨h91_, ⟨h92_, ⟨h93_, ⟨h94_, ⟨h95_, h96_⟩⟩⟩⟩⟩⟩
        refine ⟨h90_, ?_⟩
        refine ⟨h91_, ?_⟩
        refine ⟨h92_, ?_⟩
        refine ⟨h93_, ?_⟩
        refine ⟨?_, ?_⟩
        · skip
          intro k
          intro h97_
          exact (la_waysOfGlobal_19 (la_waysOfGlobal_16 la_waysOfGlobal_15 h87_))
        refine ⟨h95_, ?_⟩
        exact (la_waysOfGlobal_20 (la_waysOfGlobal_16 la_waysOfGlobal_15 h87_))
      intro h98_
      refine ⟨(la_waysOfGlobal_21 (la_waysOfGlobal_16 la_waysOfGlobal_15 h98_)), ?_⟩
      intro g56
      intro h99_
      refine ⟨⟨h5_, ⟨h6_, ⟨h7_, ⟨h8_, ⟨h9_, ⟨h10_, ⟨h11_, ⟨h12_, ⟨h13_, ⟨h14_, ⟨h15_, ⟨h16_, ⟨h17_, ⟨h18_, ⟨h19_, ⟨h20_, ⟨h21_, ⟨h22_, ⟨h23_, ⟨h24_, ⟨h25_, ⟨h26_, ⟨h27_, ⟨h28_, ⟨h29_, ⟨h30_, ⟨h31_, ⟨h32_, ⟨h33_, ⟨h34_, ⟨h35_, ⟨h36_, ⟨h37_, ⟨h38_, (la_waysOfGlobal_22 (la_waysOfGlobal_16 la_waysOfGlobal_15 h98_))⟩⟩⟩⟩⟩⟩⟩⟩⟩⟩⟩⟩⟩⟩⟩⟩⟩⟩⟩⟩⟩⟩⟩⟩⟩⟩⟩⟩⟩⟩⟩⟩⟩⟩, ?_⟩
      intro g62
      rintro ⟨h100_, ⟨h101_, ⟨h102_, ⟨h103_, ⟨h104_, ⟨h105_, h106_⟩⟩⟩⟩⟩⟩
      refine ⟨?_, ?_⟩
      · skip
        intro h107_
        refine ⟨h100_, ?_⟩
        refine ⟨h101_, ?_⟩
        refine ⟨h102_, ?_⟩
        refine ⟨h103_, ?_⟩
        refine ⟨h104_, ?_⟩
        refine ⟨h105_, ?_⟩
        exact (la_waysOfGlobal_20 (la_waysOfGlobal_16 la_waysOfGlobal_15 h98_))
      intro h108_
      refine ⟨?_, ?_⟩
      · skip
        intro h109_
        refine ⟨h100_, ?_⟩
        refine ⟨h101_, ?_⟩
        refine ⟨h102_, ?_⟩
        refine ⟨h103_, ?_⟩
        refine ⟨h104_, ?_⟩
        refine ⟨h105_, ?_⟩
        exact (la_waysOfGlobal_20 (la_waysOfGlobal_16 la_waysOfGlobal_15 h98_))
      intro h110_
      intro h111_
      have h112_ := (h37_ (la_waysOfGlobal_17 (la_waysOfGlobal_16 la_waysOfGlobal_15 h98_)))
      refine ⟨⟨h5_, ⟨h6_, ⟨h7_, ⟨h8_, ⟨h9_, ⟨h10_, ⟨h11_, ⟨h12_, ⟨h13_, ⟨h14_, ⟨h15_, ⟨h16_, ⟨h17_, ⟨h18_, ⟨h19_, ⟨h20_, ⟨h21_, ⟨h103_, ⟨h100_, ⟨h101_, ⟨h102_, ⟨h26_, ⟨h27_, ⟨h28_, ⟨h105_, (la_waysOfGlobal_18 (la_waysOfGlobal_16 la_waysOfGlobal_15 h98_))⟩⟩⟩⟩⟩⟩⟩⟩⟩⟩⟩⟩⟩⟩⟩⟩⟩⟩⟩⟩⟩⟩⟩⟩⟩, ?_⟩
      intro g69
      rintro ⟨h113_, ⟨h114_, ⟨h115_, ⟨h116_, ⟨h117_, ⟨h118_, h119_⟩⟩⟩⟩⟩⟩
      refine ⟨h113_, ?_⟩
      refine ⟨h114_, ?_⟩
      refine ⟨h115_, ?_⟩
      refine ⟨h116_, ?_⟩
      refine ⟨?_, ?_⟩
      · skip
        intro kv1
        intro h120_
        exact (la_waysOfGlobal_19 (la_waysOfGlobal_16 la_waysOfGlobal_15 h98_))
      refine ⟨h118_, ?_⟩
      exact (la_waysOfGlobal_20 (la_waysOfGlobal_16 la_waysOfGlobal_15 h98_))
    intro h121_
    refine ⟨(la_waysOfGlobal_7 h71_), ?_⟩
    refine ⟨(la_waysOfGlobal_25 h71_), ?_⟩
    intro g76
    intro h122_
    refine ⟨⟨h5_, ⟨h6_, ⟨h7_, ⟨h8_, ⟨h9_, ⟨h10_, ⟨h11_, ⟨h12_, ⟨h13_, ⟨h14_, ⟨h15_, ⟨h16_, ⟨h17_, ⟨h18_, ⟨h19_, ⟨h20_, ⟨h21_, ⟨h22_, ⟨h23_, ⟨h24_, ⟨h25_, ⟨h26_, ⟨h27_, ⟨h28_, ⟨h29_, ⟨h30_, ⟨h31_, ⟨h32_, ⟨h33_, ⟨h34_, ⟨h35_, ⟨h36_, ⟨h37_, ⟨h38_, (la_waysOfGlobal_11 h30_ h39_ h42_ h43_ h46_ h47_ h48_ h53_ h71_)⟩⟩⟩⟩⟩⟩⟩⟩⟩⟩⟩⟩⟩⟩⟩⟩⟩⟩⟩⟩⟩⟩⟩⟩⟩⟩⟩⟩⟩⟩⟩⟩⟩⟩, ?_⟩
    intro g82
    rintro ⟨h123_, ⟨h124_, ⟨h125_, ⟨h126_, ⟨h127_, ⟨h128_, h129_⟩⟩⟩⟩⟩⟩
    refine ⟨?_, ?_⟩
    · skip
      intro h130_
      refine ⟨h123_, ?_⟩
      refine ⟨h124_, ?_⟩
      refine ⟨h125_, ?_⟩
      refine ⟨h126_, ?_⟩
      refine ⟨h127_, ?_⟩
      refine ⟨h128_, ?_⟩
      exact (la_waysOfGlobal_26 h69_ h70_ h122_ h129_)
    intro h131_
    refine ⟨?_, ?_⟩
    · skip
      intro h132_
      refine ⟨h123_, ?_⟩
      refine ⟨h124_, ?_⟩
      refine ⟨h125_, ?_⟩
      refine ⟨h126_, ?_⟩
      refine ⟨h127_, ?_⟩
      refine ⟨h128_, ?_⟩
      exact (la_waysOfGlobal_26 h69_ h70_ h122_ h129_)
    intro h133_
    intro h134_
    have h135_ := (h37_ (la_waysOfGlobal_17 (la_waysOfGlobal_16 la_waysOfGlobal_15 h133_)))
    refine ⟨⟨h5_, ⟨h6_, ⟨h7_, ⟨h8_, ⟨h9_, ⟨h10_, ⟨h11_, ⟨h12_, ⟨h13_, ⟨h14_, ⟨h15_, ⟨h16_, ⟨h17_, ⟨h18_, ⟨h19_, ⟨h20_, ⟨h21_, ⟨h126_, ⟨h123_, ⟨h124_, ⟨h125_, ⟨h26_, ⟨h27_, ⟨h28_, ⟨h128_, (la_waysOfGlobal_18 (la_waysOfGlobal_16 la_waysOfGlobal_15 h133_))⟩⟩⟩⟩⟩⟩⟩⟩⟩⟩⟩⟩⟩⟩⟩⟩⟩⟩⟩⟩⟩⟩⟩⟩⟩, ?_⟩
    intro g89
    rintro ⟨h136_, ⟨h137_, ⟨h138_, ⟨h139_, ⟨h140_, ⟨h141_, h142_⟩⟩⟩⟩⟩⟩
    refine ⟨h136_, ?_⟩
    refine ⟨h137_, ?_⟩
    refine ⟨h138_, ?_⟩
    refine ⟨h139_, ?_⟩
    refine ⟨?_, ?_⟩
    · skip
      intro kv2
      intro h143_
      exact (la_waysOfGlobal_19 (la_waysOfGlobal_16 la_waysOfGlobal_15 h133_))
    refine ⟨h141_, ?_⟩
    exact (la_waysOfGlobal_20 (la_waysOfGlobal_16 la_waysOfGlobal_15 h133_))
  intro h144_
  refine ⟨la_waysOfGlobal_4, ?_⟩
  intro g95
  intro h145_
  have h146_ := (h145_ la_waysOfGlobal_5)
  refine ⟨(la_waysOfGlobal_6 h59_ h60_), ?_⟩
  intro g101
  intro h147_
  intro x106
  intro h148_
  refine ⟨?_, ?_⟩
  · skip
    intro h149_
    refine ⟨(la_waysOfGlobal_7 h148_), ?_⟩
    refine ⟨(la_waysOfGlobal_8 h148_), ?_⟩
    intro g110
    intro h150_
    have h151_ := (h150_ (la_waysOfGlobal_9 h148_))
    refine ⟨⟨h5_, ⟨h6_, ⟨h7_, ⟨h8_, ⟨h9_, ⟨h10_, ⟨h11_, ⟨h12_, ⟨h13_, ⟨h14_, ⟨h15_, ⟨h16_, (la_waysOfGlobal_10 h17_ h18_ h148_)⟩⟩⟩⟩⟩⟩⟩⟩⟩⟩⟩⟩, ?_⟩
    intro g116
    intro h152_
    refine ⟨?_, ?_⟩
    · skip
      intro h153_
      refine ⟨⟨h5_, ⟨h6_, ⟨h7_, ⟨h8_, ⟨h9_, ⟨h10_, ⟨h11_, ⟨h12_, ⟨h13_, ⟨h14_, ⟨h15_, ⟨h16_, ⟨h17_, ⟨h18_, ⟨h19_, ⟨h20_, ⟨h21_, ⟨h22_, ⟨h23_, ⟨h24_, ⟨h25_, ⟨h26_, ⟨h27_, ⟨h28_, ⟨h29_, ⟨h30_, ⟨h31_, ⟨h32_, ⟨h33_, ⟨h34_, ⟨h35_, ⟨h36_, ⟨h37_, ⟨h38_, (la_waysOfGlobal_27 h153_)⟩⟩⟩⟩⟩⟩⟩⟩⟩⟩⟩⟩⟩⟩⟩⟩⟩⟩⟩⟩⟩⟩⟩⟩⟩⟩⟩⟩⟩⟩⟩⟩⟩⟩, ?_⟩
      intro g122
      rintro ⟨h154_, ⟨h155_, ⟨h156_, ⟨h157_, ⟨h158_, ⟨h159_, h160_⟩⟩⟩⟩⟩⟩
      refine ⟨?_, ?_⟩
      · skip
        intro h161_
        refine ⟨h154_, ?_⟩
        refine ⟨h155_, ?_⟩
        refine ⟨h156_, ?_⟩
        refine ⟨h157_, ?_⟩
        refine ⟨h158_, ?_⟩
        refine ⟨h159_, ?_⟩
        exact (la_waysOfGlobal_28 h153_)
      intro h162_
      refine ⟨?_, ?_⟩
      · skip
        intro h163_
        refine ⟨h154_, ?_⟩
        refine ⟨h155_, ?_⟩
        refine ⟨h156_, ?_⟩
        refine ⟨h157_, ?_⟩
        refine ⟨h158_, ?_⟩
        refine ⟨h159_, ?_⟩
        exact (la_waysOfGlobal_28 h153_)
      intro h164_
      intro h165_
      have h166_ := (h37_ (la_waysOfGlobal_32 h153_))
      refine ⟨⟨h5_, ⟨h6_, ⟨h7_, ⟨h8_, ⟨h9_, ⟨h10_, ⟨h11_, ⟨h12_, ⟨h13_, ⟨h14_, ⟨h15_, ⟨h16_, ⟨h17_, ⟨h18_, ⟨h19_, ⟨h20_, ⟨h21_, ⟨h157_, ⟨h154_, ⟨h155_, ⟨h156_, ⟨h26_, ⟨h27_, ⟨h28_, ⟨h159_, (la_waysOfGlobal_33 h153_)⟩⟩⟩⟩⟩⟩⟩⟩⟩⟩⟩⟩⟩⟩⟩⟩⟩⟩⟩⟩⟩⟩⟩⟩⟩, ?_⟩
      intro g129
      rintro ⟨h167_, ⟨h168_, ⟨h169_, ⟨h170_, ⟨h171_, ⟨h172_, h173_⟩⟩⟩⟩⟩⟩
      refine ⟨h167_, ?_⟩
      refine ⟨h168_, ?_⟩
      refine ⟨h169_, ?_⟩
      refine ⟨h170_, ?_⟩
      refine ⟨?_, ?_⟩
      · skip
        intro kv3
        intro h174_
        exact (la_waysOfGlobal_34 h153_)
      refine ⟨h172_, ?_⟩
      exact (la_waysOfGlobal_28 h153_)
    intro h175_
    refine ⟨(la_waysOfGlobal_37 h148_), ?_⟩
    intro g135
    intro h176_
    refine ⟨⟨h5_, ⟨h6_, ⟨h7_, ⟨h8_, ⟨h9_, ⟨h10_, ⟨h11_, ⟨h12_, ⟨h13_, ⟨h14_, ⟨h15_, ⟨h16_, ⟨h17_, ⟨h18_, ⟨h19_, ⟨h20_, ⟨h21_, ⟨h22_, ⟨h23_, ⟨h24_, ⟨h25_, ⟨h26_, ⟨h27_, ⟨h28_, ⟨h29_, ⟨h30_, ⟨h31_, ⟨h32_, ⟨h33_, ⟨h34_, ⟨h35_, ⟨h36_, ⟨h37_, ⟨h38_, (la_waysOfGlobal_11 h30_ h39_ h42_ h43_ h46_ h47_ h48_ h53_ h148_)⟩⟩⟩⟩⟩⟩⟩⟩⟩⟩⟩⟩⟩⟩⟩⟩⟩⟩⟩⟩⟩⟩⟩⟩⟩⟩⟩⟩⟩⟩⟩⟩⟩⟩, ?_⟩
    intro g141
    rintro ⟨h177_, ⟨h178_, ⟨h179_, ⟨h180_, ⟨h181_, ⟨h182_, h183_⟩⟩⟩⟩⟩⟩
    refine ⟨?_, ?_⟩
    · skip
      intro h184_
      refine ⟨h177_, ?_⟩
      refine ⟨h178_, ?_⟩
      refine ⟨h179_, ?_⟩
      refine ⟨h180_, ?_⟩
      refine ⟨h181_, ?_⟩
      refine ⟨h182_, ?_⟩
      exact (la_waysOfGlobal_38 h146_ h147_ h151_ h152_ h176_ h183_)
    intro h185_
    refine ⟨?_, ?_⟩
    · skip
      intro h186_
      refine ⟨h177_, ?_⟩
      refine ⟨h178_, ?_⟩
      refine ⟨h179_, ?_⟩
      refine ⟨h180_, ?_⟩
      refine ⟨h181_, ?_⟩
      refine ⟨h182_, ?_⟩
      exact (la_waysOfGlobal_28 h186_)
    intro h187_
    intro h188_
    refine ⟨?_, ?_⟩
    · skip
      refine ⟨h5_, ?_⟩
      refine ⟨h6_, ?_⟩
      refine ⟨h7_, ?_⟩
      refine ⟨h8_, ?_⟩
      refine ⟨h9_, ?_⟩
      refine ⟨h10_, ?_⟩
      refine ⟨h11_, ?_⟩
      refine ⟨h12_, ?_⟩
      refine ⟨h13_, ?_⟩
      refine ⟨h14_, ?_⟩
      refine ⟨h15_, ?_⟩
      refine ⟨h16_, ?_⟩
      refine ⟨h17_, ?_⟩
      refine ⟨h18_, ?_⟩
      refine ⟨h19_, ?_⟩
      refine ⟨h20_, ?_⟩
      refine ⟨h21_, ?_⟩
      refine ⟨h180_, ?_⟩
      refine ⟨h177_, ?_⟩
      refine ⟨h178_, ?_⟩
      refine ⟨h179_, ?_⟩
      refine ⟨h26_, ?_⟩
      refine ⟨h27_, ?_⟩
      refine ⟨h28_, ?_⟩
      refine ⟨h182_, ?_⟩
      refine ⟨h39_, ?_⟩
      refine ⟨h40_, ?_⟩
      refine ⟨?_, ?_⟩
      · skip
        have h189_ := (h28_ (S 1148 0))
        have h190_ := (h28_ (S 1148 0 + 1))
        have h191_ := ((h181_ (S 1148 0)) h41_)
        exact h191_
      refine ⟨la_waysOfGlobal_41, ?_⟩
      refine ⟨la_waysOfGlobal_42, ?_⟩
      exact la_waysOfGlobal_43
    intro g148
    rintro ⟨h192_, ⟨h193_, ⟨h194_, ⟨h195_, ⟨h196_, ⟨h197_, h198_⟩⟩⟩⟩⟩⟩
    refine ⟨h192_, ?_⟩
    refine ⟨h193_, ?_⟩
    refine ⟨h194_, ?_⟩
    refine ⟨h195_, ?_⟩
    refine ⟨?_, ?_⟩
    · skip
      intro kv4
      intro h199_
      have h200_ := (h28_ (S 1148 0))
      have h201_ := (h28_ (S 1148 0 + 1))
      have h202_ := ((h181_ kv4) h199_)
      have h203_ := ((h181_ (S 1148 0)) h41_)
      have h204_ := ((h196_ kv4) h202_)
      have h205_ := ((h196_ (S 1148 0)) h203_)
      exact h204_
    refine ⟨h197_, ?_⟩
    exact (la_waysOfGlobal_44 h146_ h147_ h151_ h152_ h176_ h183_ h198_)
  intro h206_
  refine ⟨(la_waysOfGlobal_7 h148_), ?_⟩
  refine ⟨(la_waysOfGlobal_25 h148_), ?_⟩
  intro g155
  intro h207_
  refine ⟨⟨h5_, ⟨h6_, ⟨h7_, ⟨h8_, ⟨h9_, ⟨h10_, ⟨h11_, ⟨h12_, ⟨h13_, ⟨h14_, ⟨h15_, ⟨h16_, ⟨h17_, ⟨h18_, ⟨h19_, ⟨h20_, ⟨h21_, ⟨h22_, ⟨h23_, ⟨h24_, ⟨h25_, ⟨h26_, ⟨h27_, ⟨h28_, ⟨h29_, ⟨h30_, ⟨h31_, ⟨h32_, ⟨h33_, ⟨h34_, ⟨h35_, ⟨h36_, ⟨h37_, ⟨h38_, (la_waysOfGlobal_11 h30_ h39_ h42_ h43_ h46_ h47_ h48_ h53_ h148_)⟩⟩⟩⟩⟩⟩⟩⟩⟩⟩⟩⟩⟩⟩⟩⟩⟩⟩⟩⟩⟩⟩⟩⟩⟩⟩⟩⟩⟩⟩⟩⟩⟩⟩, ?_⟩
  intro g161
  rintro ⟨h208_, ⟨h209_, ⟨h210_, ⟨h211_, ⟨h212_, ⟨h213_, h214_⟩⟩⟩⟩⟩⟩
  refine ⟨?_, ?_⟩
  · skip
    intro h215_
    refine ⟨h208_, ?_⟩
    refine ⟨h209_, ?_⟩
    refine ⟨h210_, ?_⟩
    refine ⟨h211_, ?_⟩
    refine ⟨h212_, ?_⟩
    refine ⟨h213_, ?_⟩
    exact (la_waysOfGlobal_26 h146_ h147_ h207_ h214_)
  intro h216_
  refine ⟨?_, ?_⟩
  · skip
    intro h217_
    refine ⟨h208_, ?_⟩
    refine ⟨h209_, ?_⟩
    refine ⟨h210_, ?_⟩
    refine ⟨h211_, ?_⟩
    refine ⟨h212_, ?_⟩
    refine ⟨h213_, ?_⟩
    exact (la_waysOfGlobal_28 h217_)
  intro h218_
  intro h219_
  refine ⟨?_, ?_⟩
  · skip
    refine ⟨h5_, ?_⟩
    refine ⟨h6_, ?_⟩
    refine ⟨h7_, ?_⟩
    refine ⟨h8_, ?_⟩
    refine ⟨h9_, ?_⟩
    refine ⟨h10_, ?_⟩
    refine ⟨h11_, ?_⟩
    refine ⟨h12_, ?_⟩
    refine ⟨h13_, ?_⟩
    refine ⟨h14_, ?_⟩
    refine ⟨h15_, ?_⟩
    refine ⟨h16_, ?_⟩
    refine ⟨h17_, ?_⟩
    refine ⟨h18_, ?_⟩
    refine ⟨h19_, ?_⟩
    refine ⟨h20_, ?_⟩
    refine ⟨h21_, ?_⟩
    refine ⟨h211_, ?_⟩
    refine ⟨h208_, ?_⟩
    refine ⟨h209_, ?_⟩
    refine ⟨h210_, ?_⟩
    refine ⟨h26_, ?_⟩
    refine ⟨h27_, ?_⟩
    refine ⟨h28_, ?_⟩
    refine ⟨h213_, ?_⟩
    refine ⟨h39_, ?_⟩
    refine ⟨h40_, ?_⟩
    refine ⟨?_, ?_⟩
    · skip
      have h220_ := (h28_ (S 1148 0))
      have h221_ := (h28_ (S 1148 0 + 1))
      have h222_ := ((h212_ (S 1148 0)) h41_)
      exact h222_
    refine ⟨la_waysOfGlobal_41, ?_⟩
    refine ⟨la_waysOfGlobal_42, ?_⟩
    exact la_waysOfGlobal_43
  intro g168
  rintro ⟨h223_, ⟨h224_, ⟨h225_, ⟨h226_, ⟨h227_, ⟨h228_, h229_⟩⟩⟩⟩⟩⟩
  refine ⟨h223_, ?_⟩
  refine ⟨h224_, ?_⟩
  refine ⟨h225_, ?_⟩
  refine ⟨h226_, ?_⟩
  refine ⟨?_, ?_⟩
  · skip
    intro kv5
    intro h230_
    have h231_ := (h28_ (S 1148 0))
    have h232_ := (h28_ (S 1148 0 + 1))
    have h233_ := ((h212_ kv5) h230_)
    have h234_ := ((h212_ (S 1148 0)) h41_)
    have h235_ := ((h227_ kv5) h233_)
    have h236_ := ((h227_ (S 1148 0)) h234_)
    exact h235_
  refine ⟨h228_, ?_⟩
  exact (la_waysOfGlobal_45 h146_ h147_ h207_ h214_ h229_)
set_option maxRecDepth 8000 in
set_option maxHeartbeats 2000000 in
theorem t_waysOfGlobal : ∀ (p1 : Int) (p2 : Int) (S : sv_S), sm_ok S → sv_R p1 → (0 ≤ p2 ∧ p2 ≤ 1) → (29 ≤ (S 1071 0) ∧ (S 1071 0) ≤ 127 ∧ 31 ≤ (S 1008 0) ∧ (S 1008 0) ≤ 90 ∧ 1 ≤ (S 1032 0) ∧ (S 1032 0) ≤ 11 ∧ 0 ≤ (S 1055 0) ∧ (S 1055 0) ≤ 19 ∧ (S 1071 0) = 29 + 6 * ((S 1032 0) - 1) + 2 * (S 1055 0) ∧ 0 ≤ (S 1046 0) ∧ (S 1046 0) + 2 * (S 1032 0) ≤ 500 ∧ sm_PD (S 1046 0) (S 1032 0) (S 1071 0) (S 1008 0) ∧ 0 ≤ (S 1071 0) * ((S 1008 0) + 1) ∧ (S 1071 0) * ((S 1008 0) + 1) ≤ 11557 ∧ 31 ≤ (S 1007 0) ∧ (S 1007 0) ≤ 400 ∧ sm_LN (S 4) 400 (S 1007 0) ∧ (S 75 639) = 647340 ∧ sm_ST (S 71) (S 74) (S 75) (S 78) (S 79) (S 80) (S 27) (S 1100007) (S 1100023) (S 1100024) (S 1046 0) ((S 1046 0) + 2 * (S 1032 0)) (S 1127 0) ∧ 465000 ≤ (S 1127 0) ∧ (S 1127 0) + sm_hs (S 71) (S 1100007) ≤ 635000 ∧ sm_NH (S 1100007) ∧ sm_CT (S 26) (S 27) (S 28) (S 29) (S 1100007) (S 1100023) (S 1100024) (S 1100025) (S 21) (S 1046 0) (S 1032 0) (S 1008 0) (S 1055 0) ∧ (∀ k : Int, (S 1046 0) ≤ k → k < ((S 1046 0) + 2 * (S 1032 0)) → (S 1100007 k) = 1) ∧ sm_DR (S 72) (S 71) (S 1046 0) ∧ 0 ≤ (S 74 639) ∧ (S 74 639) ≤ 400 ∧ 0 ≤ (S 78 639) ∧ (S 78 639) ≤ 40 ∧ (S 78 639) = sm_dp (S 1100024) (S 1100031 0) ∧ -1 ≤ (S 1100031 0) ∧ (S 1100031 0) < (S 1046 0) ∧ (0 ≤ (S 1100031 0) → (S 26 (S 1100031 0)) = 27) ∧ sm_TC (S 79) (S 80) (S 27) (S 1100007) (S 1100023) (S 1100024) 25560 (S 1100031 0) ∧ 0 ≤ (S 1148 0) ∧ (S 1148 0) < (S 1046 0) ∧ (S 71 (S 1148 0)) = 1 ∧ (S 74 639) = (S 1100007 (S 1148 0)) ∧ (S 1100031 0) = (S 1100023 (S 1148 0)) ∧ 0 ≤ p1 ∧ p1 < (S 1008 0) ∧ (S 1148 0) + 1 < (S 1046 0) ∧ (S 1100007 ((S 1148 0) + 1)) = (S 1100007 (S 1148 0)) + 1 ∧ (S 1100023 ((S 1148 0) + 1)) = (S 1100023 (S 1148 0))) → sv_T sm_XS sm_cs sm_L sm_sh 9 (q_waysOfGlobal p1 p2 S) 270 0 (lv_args 0 [.ref 0, sv_I p1, sv_I p2]) [] S := by
  intro p1 p2 S hok hp1 hp2 hpre
  have h := f_waysOfGlobal p1 p2 S hok hp1 hp2 hpre
  have hM := sm_h270
  show sv_T sm_XS sm_cs sm_L sm_sh 9 (q_waysOfGlobal p1 p2 S) 270 0 [(0, .ref 0), (1, sv_I p1), (2, sv_I p2)] [] S
  have k1 : (sm_CT (S 26) (S 27) (S 28) (S 29) (S 1100007) (S 1100023) (S 1100024) (S 1100025) (S 21) (S 1046 0) (S 1032 0) (S 1008 0) (S 1055 0) → 0 ≤ (S 1148 0) → (S 1148 0) < (S 1046 0) → 0 ≤ (S 1100007 (S 1148 0)) ∧ (S 1100007 (S 1148 0)) ≤ 396 ∧ -1 ≤ (S 1100023 (S 1148 0)) ∧ (S 1100023 (S 1148 0)) < (S 1148 0)) := fun h h0 h1 => by have q := sm_ct_0 h _ h0 h1; exact ⟨q.2.2.2.2.1, q.2.2.2.2.2.1, q.2.2.2.2.2.2.2.1, q.2.2.2.2.2.2.2.2.1⟩
  have h := h k1
  refine sv_aload_n hM dX12_waysOfGlobal_0 rfl rfl ?_
  refine sv_sipush (d := (639 : Int)) hM dX12_waysOfGlobal_1 rfl rfl ?_
  refine sv_iconst (d := (0 : Int)) hM dX12_waysOfGlobal_4 rfl rfl ?_
  refine sv_iload_n hM dX12_waysOfGlobal_5 rfl rfl ?_
  obtain ⟨o2, h⟩ := h
  refine sv_callV hM dX12_waysOfGlobal_6 sm_iv_1163 (by decide) (sm_a0 _) rfl rfl (Nat.le_of_ble_eq_true rfl) sm_h225 (Nat.le_of_ble_eq_true rfl) (Nat.le_of_ble_eq_true rfl) (F' := 1) (Nat.le_of_ble_eq_true rfl) rfl (t_field (639 : Int) (0 : Int) p1 S hok (⟨by decide, by decide⟩ : sv_R (639 : Int)) (⟨by decide, by decide⟩ : sv_R (0 : Int)) hp1 o2) (fun v S1 hq => ?_)
  obtain ⟨r7, rfl, hr7, ok4, md5, hpo6⟩ := hq
  obtain rfl : S = S1 := (funext fun j => md5 j (by intro q; cases q)).symm
  show sv_T sm_XS sm_cs sm_L sm_sh 9 (q_waysOfGlobal p1 p2 S) 270 9 [(0, .ref 0), (1, sv_I p1), (2, sv_I p2)] [sv_I r7] S
  have h := h r7 hr7 hpo6
  refine sv_istore_n hM dX12_waysOfGlobal_9 (by decide) rfl ?_
  show sv_T sm_XS sm_cs sm_L sm_sh 9 (q_waysOfGlobal p1 p2 S) 270 10 [(0, .ref 0), (1, sv_I p1), (2, sv_I p2), (3, sv_I r7)] [] S
  refine sv_aload_n hM dX12_waysOfGlobal_10 rfl rfl ?_
  refine sv_iload_n hM dX12_waysOfGlobal_11 rfl rfl ?_
  obtain ⟨o8, h⟩ := h
  refine sv_callV hM dX12_waysOfGlobal_12 sm_iv_1047 (by decide) (sm_a0 _) rfl rfl (Nat.le_of_ble_eq_true rfl) sm_h202 (Nat.le_of_ble_eq_true rfl) (Nat.le_of_ble_eq_true rfl) (F' := 0) (Nat.le_of_ble_eq_true rfl) rfl (t_has r7 S ok4 hr7 o8) (fun v S1 hq => ?_)
  obtain ⟨r13, rfl, hr13, ok10, md11, hpo12⟩ := hq
  obtain rfl : S = S1 := (funext fun j => md11 j (by intro q; cases q)).symm
  show sv_T sm_XS sm_cs sm_L sm_sh 9 (q_waysOfGlobal p1 p2 S) 270 15 [(0, .ref 0), (1, sv_I p1), (2, sv_I p2), (3, sv_I r7)] [sv_I r13] S
  have h := h r13 hr13 hpo12
  refine sv_sipush (d := (512 : Int)) hM dX12_waysOfGlobal_15 rfl rfl ?_
  refine sv_iand hM dX12_waysOfGlobal_18 ⟨by decide, by decide⟩ rfl (fun r14 hr14 => ?_)
  have h := h r14 hr14
  refine sv_cond_eq hM dX12_waysOfGlobal_19 (⟨by omega, by omega⟩ : sv_R r14) (t := 26) rfl rfl (fun hc => ?_) (fun hc => ?_)
  · have h := h.1 (hc)
    refine sv_iconst (d := (0 : Int)) hM dX12_waysOfGlobal_26 rfl rfl ?_
    refine sv_istore hM dX12_waysOfGlobal_27 (by decide) rfl ?_
    show sv_T sm_XS sm_cs sm_L sm_sh 9 (q_waysOfGlobal p1 p2 S) 270 29 [(0, .ref 0), (1, sv_I p1), (2, sv_I p2), (3, sv_I r7), (4, sv_I (0 : Int))] [] S
    refine sv_ldc_w (d := (647740 : Int)) hM dX12_waysOfGlobal_29 sm_ck_1218 rfl rfl ?_
    refine sv_istore hM dX12_waysOfGlobal_32 (by decide) rfl ?_
    show sv_T sm_XS sm_cs sm_L sm_sh 9 (q_waysOfGlobal p1 p2 S) 270 34 [(0, .ref 0), (1, sv_I p1), (2, sv_I p2), (3, sv_I r7), (4, sv_I (0 : Int)), (5, sv_I (647740 : Int))] [] S
    refine sv_aload_n hM dX12_waysOfGlobal_34 rfl rfl ?_
    refine sv_iload hM dX12_waysOfGlobal_35 rfl rfl ?_
    obtain ⟨o15, h⟩ := h
    refine sv_callV hM dX12_waysOfGlobal_37 sm_iv_1066 (by decide) (sm_a0 _) rfl rfl (Nat.le_of_ble_eq_true rfl) sm_h206 (Nat.le_of_ble_eq_true rfl) (Nat.le_of_ble_eq_true rfl) (F' := 0) (Nat.le_of_ble_eq_true rfl) rfl (t_empty (647740 : Int) S ok10 (⟨by decide, by decide⟩ : sv_R (647740 : Int)) o15) (fun v S1 hq => ?_)
    obtain ⟨rfl, ok17, md18, hpo19⟩ := hq
    obtain ⟨g16, rfl⟩ : ∃ g, S1 = sv_sts S [68, 69, 70] g := ⟨_, md18.eq⟩
    show sv_T sm_XS sm_cs sm_L sm_sh 9 (q_waysOfGlobal p1 p2 S) 270 40 [(0, .ref 0), (1, sv_I p1), (2, sv_I p2), (3, sv_I r7), (4, sv_I (0 : Int)), (5, sv_I (647740 : Int))] [] (sv_sts S [68, 69, 70] g16)
    have md20 : sv_mod [68, 69, 70, 81, 82, 83, 84, 85, 86, 71, 74, 75, 1127, 78, 79, 80, 72, 76, 77, 1143, 1144, 5, 1011, 1150, 1149, 1145, 1113, 1111, 1112, 1100031] S (sv_sts S [68, 69, 70] g16) := sv_mod.sts sv_mod.rf (by decide)
    have h := h g16 hpo19
    refine sv_aload_n hM dX12_waysOfGlobal_40 rfl rfl ?_
    refine sv_iload_n hM dX12_waysOfGlobal_41 rfl rfl ?_
    refine sv_iload hM dX12_waysOfGlobal_42 rfl rfl ?_
    obtain ⟨o21, h⟩ := h
    refine sv_callV hM dX12_waysOfGlobal_44 sm_iv_1228 (by decide) (sm_a0 _) rfl rfl (Nat.le_of_ble_eq_true rfl) sm_h266 (Nat.le_of_ble_eq_true rfl) (Nat.le_of_ble_eq_true rfl) (F' := 2) (Nat.le_of_ble_eq_true rfl) rfl (t_joinPlain r7 (647740 : Int) (sv_sts S [68, 69, 70] g16) ok17 hr7 (⟨by decide, by decide⟩ : sv_R (647740 : Int)) o21) (fun v S1 hq => ?_)
    obtain ⟨rfl, ok23, md24, hpo25⟩ := hq
    obtain ⟨g22, rfl⟩ : ∃ g, S1 = sv_sts (sv_sts S [68, 69, 70] g16) [68, 69, 70] g := ⟨_, md24.eq⟩
    show sv_T sm_XS sm_cs sm_L sm_sh 9 (q_waysOfGlobal p1 p2 S) 270 47 [(0, .ref 0), (1, sv_I p1), (2, sv_I p2), (3, sv_I r7), (4, sv_I (0 : Int)), (5, sv_I (647740 : Int))] [] (sv_sts (sv_sts S [68, 69, 70] g16) [68, 69, 70] g22)
    have md26 : sv_mod [68, 69, 70, 81, 82, 83, 84, 85, 86, 71, 74, 75, 1127, 78, 79, 80, 72, 76, 77, 1143, 1144, 5, 1011, 1150, 1149, 1145, 1113, 1111, 1112, 1100031] S (sv_sts (sv_sts S [68, 69, 70] g16) [68, 69, 70] g22) := sv_mod.sts md20 (by decide)
    have h := h g22 hpo25
    refine sv_iload hM dX12_waysOfGlobal_47 rfl rfl ?_
    refine sv_iconst (d := (1 : Int)) hM dX12_waysOfGlobal_49 rfl rfl ?_
    refine sv_iadd hM dX12_waysOfGlobal_50 rfl ?_
    obtain ⟨x27, e28⟩ : ∃ x : Int, ((647740 : Int) + (1 : Int)) = x := ⟨_, rfl⟩
    have h := h x27 e28
    refine sv_nameI e28 ?_
    refine sv_istore hM dX12_waysOfGlobal_51 (by decide) rfl ?_
    show sv_T sm_XS sm_cs sm_L sm_sh 9 (q_waysOfGlobal p1 p2 S) 270 53 [(0, .ref 0), (1, sv_I p1), (2, sv_I p2), (3, sv_I r7), (4, sv_I (0 : Int)), (5, sv_I (647740 : Int)), (6, sv_I x27)] [] (sv_sts (sv_sts S [68, 69, 70] g16) [68, 69, 70] g22)
    refine sv_iload_n hM dX12_waysOfGlobal_53 rfl rfl ?_
    refine sv_cond_eq hM dX12_waysOfGlobal_54 (sv_R01 hp2) (t := 68) rfl rfl (fun hc => ?_) (fun hc => ?_)
    · have h := h.1 (hc)
      refine sv_aload_n hM dX12_waysOfGlobal_68 rfl rfl ?_
      refine sv_iload hM dX12_waysOfGlobal_69 rfl rfl ?_
      obtain ⟨o29, h⟩ := h
      obtain ⟨o30, h⟩ := h
      refine sv_callV hM dX12_waysOfGlobal_71 sm_iv_1066 (by decide) (sm_a0 _) rfl rfl (Nat.le_of_ble_eq_true rfl) sm_h206 (Nat.le_of_ble_eq_true rfl) (Nat.le_of_ble_eq_true rfl) (F' := 0) (Nat.le_of_ble_eq_true rfl) rfl (t_empty x27 (sv_sts (sv_sts S [68, 69, 70] g16) [68, 69, 70] g22) ok23 o29 o30) (fun v S1 hq => ?_)
      obtain ⟨rfl, ok32, md33, hpo34⟩ := hq
      obtain ⟨g31, rfl⟩ : ∃ g, S1 = sv_sts (sv_sts (sv_sts S [68, 69, 70] g16) [68, 69, 70] g22) [68, 69, 70] g := ⟨_, md33.eq⟩
      show sv_T sm_XS sm_cs sm_L sm_sh 9 (q_waysOfGlobal p1 p2 S) 270 74 [(0, .ref 0), (1, sv_I p1), (2, sv_I p2), (3, sv_I r7), (4, sv_I (0 : Int)), (5, sv_I (647740 : Int)), (6, sv_I x27)] [] (sv_sts (sv_sts (sv_sts S [68, 69, 70] g16) [68, 69, 70] g22) [68, 69, 70] g31)
      have md35 : sv_mod [68, 69, 70, 81, 82, 83, 84, 85, 86, 71, 74, 75, 1127, 78, 79, 80, 72, 76, 77, 1143, 1144, 5, 1011, 1150, 1149, 1145, 1113, 1111, 1112, 1100031] S (sv_sts (sv_sts (sv_sts S [68, 69, 70] g16) [68, 69, 70] g22) [68, 69, 70] g31) := sv_mod.sts md26 (by decide)
      have h := h g31 hpo34
      refine sv_aload_n hM dX12_waysOfGlobal_74 rfl rfl ?_
      refine sv_iload hM dX12_waysOfGlobal_75 rfl rfl ?_
      refine sv_iload hM dX12_waysOfGlobal_77 rfl rfl ?_
      obtain ⟨o36, h⟩ := h
      refine sv_callV hM dX12_waysOfGlobal_79 sm_iv_1289 (by decide) (sm_a0 _) rfl rfl (Nat.le_of_ble_eq_true rfl) sm_h271 (Nat.le_of_ble_eq_true rfl) (Nat.le_of_ble_eq_true rfl) (F' := 3) (Nat.le_of_ble_eq_true rfl) rfl (t_typesOf (647740 : Int) x27 (sv_sts (sv_sts (sv_sts S [68, 69, 70] g16) [68, 69, 70] g22) [68, 69, 70] g31) ok32 (⟨by decide, by decide⟩ : sv_R (647740 : Int)) o29 o36) (fun v S1 hq => ?_)
      obtain ⟨rfl, ok38, md39, hpo40⟩ := hq
      obtain ⟨g37, rfl⟩ : ∃ g, S1 = sv_sts (sv_sts (sv_sts (sv_sts S [68, 69, 70] g16) [68, 69, 70] g22) [68, 69, 70] g31) [68, 69, 70] g := ⟨_, md39.eq⟩
      show sv_T sm_XS sm_cs sm_L sm_sh 9 (q_waysOfGlobal p1 p2 S) 270 82 [(0, .ref 0), (1, sv_I p1), (2, sv_I p2), (3, sv_I r7), (4, sv_I (0 : Int)), (5, sv_I (647740 : Int)), (6, sv_I x27)] [] (sv_sts (sv_sts (sv_sts (sv_sts S [68, 69, 70] g16) [68, 69, 70] g22) [68, 69, 70] g31) [68, 69, 70] g37)
      have md41 : sv_mod [68, 69, 70, 81, 82, 83, 84, 85, 86, 71, 74, 75, 1127, 78, 79, 80, 72, 76, 77, 1143, 1144, 5, 1011, 1150, 1149, 1145, 1113, 1111, 1112, 1100031] S (sv_sts (sv_sts (sv_sts (sv_sts S [68, 69, 70] g16) [68, 69, 70] g22) [68, 69, 70] g31) [68, 69, 70] g37) := sv_mod.sts md35 (by decide)
      have h := h g37 hpo40
      refine sv_iload hM dX12_waysOfGlobal_82 rfl rfl ?_
      refine sv_cond_eq hM dX12_waysOfGlobal_84 (⟨by decide, by decide⟩ : sv_R (0 : Int)) (t := 95) rfl rfl (fun hc => ?_) (fun hc => ?_)
      · have h := h.1 (hc)
        refine sv_aload_n hM dX12_waysOfGlobal_95 rfl rfl ?_
        refine sv_iconst (d := (0 : Int)) hM dX12_waysOfGlobal_96 rfl rfl ?_
        refine sv_iload hM dX12_waysOfGlobal_97 rfl rfl ?_
        obtain ⟨o42, h⟩ := h
        refine sv_callV hM dX12_waysOfGlobal_99 sm_iv_1258 (by decide) (sm_a0 _) rfl rfl (Nat.le_of_ble_eq_true rfl) sm_h267 (Nat.le_of_ble_eq_true rfl) (Nat.le_of_ble_eq_true rfl) (F' := 5) (Nat.le_of_ble_eq_true rfl) rfl (t_replace (0 : Int) x27 (sv_sts (sv_sts (sv_sts (sv_sts S [68, 69, 70] g16) [68, 69, 70] g22) [68, 69, 70] g31) [68, 69, 70] g37) ok38 (⟨by decide, by decide⟩ : sv_R (0 : Int)) o29 o42) (fun v S1 hq => ?_)
        obtain ⟨rfl, ok44, md45, hpo46⟩ := hq
        obtain ⟨g43, rfl⟩ : ∃ g, S1 = sv_sts (sv_sts (sv_sts (sv_sts (sv_sts S [68, 69, 70] g16) [68, 69, 70] g22) [68, 69, 70] g31) [68, 69, 70] g37) [68, 69, 70, 81, 82, 83, 84, 85, 86, 71, 74, 75, 1127, 78, 79, 80, 72, 76, 77, 1150] g := ⟨_, md45.eq⟩
        show sv_T sm_XS sm_cs sm_L sm_sh 9 (q_waysOfGlobal p1 p2 S) 270 102 [(0, .ref 0), (1, sv_I p1), (2, sv_I p2), (3, sv_I r7), (4, sv_I (0 : Int)), (5, sv_I (647740 : Int)), (6, sv_I x27)] [] (sv_sts (sv_sts (sv_sts (sv_sts (sv_sts S [68, 69, 70] g16) [68, 69, 70] g22) [68, 69, 70] g31) [68, 69, 70] g37) [68, 69, 70, 81, 82, 83, 84, 85, 86, 71, 74, 75, 1127, 78, 79, 80, 72, 76, 77, 1150] g43)
        have md47 : sv_mod [68, 69, 70, 81, 82, 83, 84, 85, 86, 71, 74, 75, 1127, 78, 79, 80, 72, 76, 77, 1143, 1144, 5, 1011, 1150, 1149, 1145, 1113, 1111, 1112, 1100031] S (sv_sts (sv_sts (sv_sts (sv_sts (sv_sts S [68, 69, 70] g16) [68, 69, 70] g22) [68, 69, 70] g31) [68, 69, 70] g37) [68, 69, 70, 81, 82, 83, 84, 85, 86, 71, 74, 75, 1127, 78, 79, 80, 72, 76, 77, 1150] g43) := sv_mod.sts md41 (by decide)
        have h := h g43 hpo46
        refine sv_iload_n hM dX12_waysOfGlobal_102 rfl rfl ?_
        refine sv_cond_eq hM dX12_waysOfGlobal_103 (sv_R01 hp2) (t := 121) rfl rfl (fun hc => ?_) (fun hc => ?_)
        · have h := h.1 (hc)
          exact sv_vret hM dX12_waysOfGlobal_121 rfl ⟨rfl, ok44, md47, h⟩
        · have h := h.2 (hc)
          refine sv_iload hM dX12_waysOfGlobal_106 rfl rfl ?_
          refine sv_cond_eq hM dX12_waysOfGlobal_108 (⟨by decide, by decide⟩ : sv_R (0 : Int)) (t := 121) rfl rfl (fun hc => ?_) (fun hc => ?_)
          · have h := h.1 (hc)
            exact sv_vret hM dX12_waysOfGlobal_121 rfl ⟨rfl, ok44, md47, h⟩
          · have h := h.2 (hc)
            refine sv_aload_n hM dX12_waysOfGlobal_111 rfl rfl ?_
            refine sv_aload_n hM dX12_waysOfGlobal_112 rfl rfl ?_
            have k48 : sv_R (S 1148 0) := sm_okI ok44 sm_r1148 0
            have h := h k48
            refine sv_getI hM dX12_waysOfGlobal_113 sm_fl_1188 (sm_a0 _) sm_k148 rfl (x := (S 1148 0)) rfl ?_
            refine sv_bipush (d := (7 : Int)) hM dX12_waysOfGlobal_116 rfl rfl ?_
            obtain ⟨o49, h⟩ := h
            refine sv_callV hM dX12_waysOfGlobal_118 sm_iv_1292 (by decide) (sm_a0 _) rfl rfl (Nat.le_of_ble_eq_true rfl) sm_h263 (Nat.le_of_ble_eq_true rfl) (Nat.le_of_ble_eq_true rfl) (F' := 8) (Nat.le_of_ble_eq_true rfl) rfl (t_error_ (S 1148 0) (7 : Int) (sv_sts (sv_sts (sv_sts (sv_sts (sv_sts S [68, 69, 70] g16) [68, 69, 70] g22) [68, 69, 70] g31) [68, 69, 70] g37) [68, 69, 70, 81, 82, 83, 84, 85, 86, 71, 74, 75, 1127, 78, 79, 80, 72, 76, 77, 1150] g43) ok44 k48 (⟨by decide, by decide⟩ : sv_R (7 : Int)) o49) (fun v S1 hq => ?_)
            obtain ⟨rfl, ok51, md52, hpo53⟩ := hq
            obtain ⟨g50, rfl⟩ : ∃ g, S1 = sv_sts (sv_sts (sv_sts (sv_sts (sv_sts (sv_sts S [68, 69, 70] g16) [68, 69, 70] g22) [68, 69, 70] g31) [68, 69, 70] g37) [68, 69, 70, 81, 82, 83, 84, 85, 86, 71, 74, 75, 1127, 78, 79, 80, 72, 76, 77, 1150] g43) [68, 69, 70, 81, 82, 83, 84, 85, 86, 71, 74, 75, 1127, 78, 79, 80, 72, 76, 77, 1143, 1144, 5, 1011, 1150, 1149, 1145, 1113, 1111, 1112, 1100031] g := ⟨_, md52.eq⟩
            show sv_T sm_XS sm_cs sm_L sm_sh 9 (q_waysOfGlobal p1 p2 S) 270 121 [(0, .ref 0), (1, sv_I p1), (2, sv_I p2), (3, sv_I r7), (4, sv_I (0 : Int)), (5, sv_I (647740 : Int)), (6, sv_I x27)] [] (sv_sts (sv_sts (sv_sts (sv_sts (sv_sts (sv_sts S [68, 69, 70] g16) [68, 69, 70] g22) [68, 69, 70] g31) [68, 69, 70] g37) [68, 69, 70, 81, 82, 83, 84, 85, 86, 71, 74, 75, 1127, 78, 79, 80, 72, 76, 77, 1150] g43) [68, 69, 70, 81, 82, 83, 84, 85, 86, 71, 74, 75, 1127, 78, 79, 80, 72, 76, 77, 1143, 1144, 5, 1011, 1150, 1149, 1145, 1113, 1111, 1112, 1100031] g50)
            have md54 : sv_mod [68, 69, 70, 81, 82, 83, 84, 85, 86, 71, 74, 75, 1127, 78, 79, 80, 72, 76, 77, 1143, 1144, 5, 1011, 1150, 1149, 1145, 1113, 1111, 1112, 1100031] S (sv_sts (sv_sts (sv_sts (sv_sts (sv_sts (sv_sts S [68, 69, 70] g16) [68, 69, 70] g22) [68, 69, 70] g31) [68, 69, 70] g37) [68, 69, 70, 81, 82, 83, 84, 85, 86, 71, 74, 75, 1127, 78, 79, 80, 72, 76, 77, 1150] g43) [68, 69, 70, 81, 82, 83, 84, 85, 86, 71, 74, 75, 1127, 78, 79, 80, 72, 76, 77, 1143, 1144, 5, 1011, 1150, 1149, 1145, 1113, 1111, 1112, 1100031] g50) := sv_mod.sts md47 (by decide)
            have h := h g50 hpo53
            exact sv_vret hM dX12_waysOfGlobal_121 rfl ⟨rfl, ok51, md54, h⟩
      · have h := h.2 (hc)
        refine sv_aload_n hM dX12_waysOfGlobal_87 rfl rfl ?_
        refine sv_iload hM dX12_waysOfGlobal_88 rfl rfl ?_
        refine sv_bipush (d := (19 : Int)) hM dX12_waysOfGlobal_90 rfl rfl ?_
        obtain ⟨o55, h⟩ := h
        refine sv_callV hM dX12_waysOfGlobal_92 sm_iv_1078 (by decide) (sm_a0 _) rfl rfl (Nat.le_of_ble_eq_true rfl) sm_h215 (Nat.le_of_ble_eq_true rfl) (Nat.le_of_ble_eq_true rfl) (F' := 2) (Nat.le_of_ble_eq_true rfl) rfl (t_addString x27 (19 : Int) (sv_sts (sv_sts (sv_sts (sv_sts S [68, 69, 70] g16) [68, 69, 70] g22) [68, 69, 70] g31) [68, 69, 70] g37) ok38 o29 (⟨by decide, by decide⟩ : sv_R (19 : Int)) o55) (fun v S1 hq => ?_)
        obtain ⟨rfl, ok57, md58, hpo59⟩ := hq
        obtain ⟨g56, rfl⟩ : ∃ g, S1 = sv_sts (sv_sts (sv_sts (sv_sts (sv_sts S [68, 69, 70] g16) [68, 69, 70] g22) [68, 69, 70] g31) [68, 69, 70] g37) [68, 69, 70] g := ⟨_, md58.eq⟩
        show sv_T sm_XS sm_cs sm_L sm_sh 9 (q_waysOfGlobal p1 p2 S) 270 95 [(0, .ref 0), (1, sv_I p1), (2, sv_I p2), (3, sv_I r7), (4, sv_I (0 : Int)), (5, sv_I (647740 : Int)), (6, sv_I x27)] [] (sv_sts (sv_sts (sv_sts (sv_sts (sv_sts S [68, 69, 70] g16) [68, 69, 70] g22) [68, 69, 70] g31) [68, 69, 70] g37) [68, 69, 70] g56)
        have md60 : sv_mod [68, 69, 70, 81, 82, 83, 84, 85, 86, 71, 74, 75, 1127, 78, 79, 80, 72, 76, 77, 1143, 1144, 5, 1011, 1150, 1149, 1145, 1113, 1111, 1112, 1100031] S (sv_sts (sv_sts (sv_sts (sv_sts (sv_sts S [68, 69, 70] g16) [68, 69, 70] g22) [68, 69, 70] g31) [68, 69, 70] g37) [68, 69, 70] g56) := sv_mod.sts md41 (by decide)
        have h := h g56 hpo59
        refine sv_aload_n hM dX12_waysOfGlobal_95 rfl rfl ?_
        refine sv_iconst (d := (0 : Int)) hM dX12_waysOfGlobal_96 rfl rfl ?_
        refine sv_iload hM dX12_waysOfGlobal_97 rfl rfl ?_
        obtain ⟨o61, h⟩ := h
        refine sv_callV hM dX12_waysOfGlobal_99 sm_iv_1258 (by decide) (sm_a0 _) rfl rfl (Nat.le_of_ble_eq_true rfl) sm_h267 (Nat.le_of_ble_eq_true rfl) (Nat.le_of_ble_eq_true rfl) (F' := 5) (Nat.le_of_ble_eq_true rfl) rfl (t_replace (0 : Int) x27 (sv_sts (sv_sts (sv_sts (sv_sts (sv_sts S [68, 69, 70] g16) [68, 69, 70] g22) [68, 69, 70] g31) [68, 69, 70] g37) [68, 69, 70] g56) ok57 (⟨by decide, by decide⟩ : sv_R (0 : Int)) o29 o61) (fun v S1 hq => ?_)
        obtain ⟨rfl, ok63, md64, hpo65⟩ := hq
        obtain ⟨g62, rfl⟩ : ∃ g, S1 = sv_sts (sv_sts (sv_sts (sv_sts (sv_sts (sv_sts S [68, 69, 70] g16) [68, 69, 70] g22) [68, 69, 70] g31) [68, 69, 70] g37) [68, 69, 70] g56) [68, 69, 70, 81, 82, 83, 84, 85, 86, 71, 74, 75, 1127, 78, 79, 80, 72, 76, 77, 1150] g := ⟨_, md64.eq⟩
        show sv_T sm_XS sm_cs sm_L sm_sh 9 (q_waysOfGlobal p1 p2 S) 270 102 [(0, .ref 0), (1, sv_I p1), (2, sv_I p2), (3, sv_I r7), (4, sv_I (0 : Int)), (5, sv_I (647740 : Int)), (6, sv_I x27)] [] (sv_sts (sv_sts (sv_sts (sv_sts (sv_sts (sv_sts S [68, 69, 70] g16) [68, 69, 70] g22) [68, 69, 70] g31) [68, 69, 70] g37) [68, 69, 70] g56) [68, 69, 70, 81, 82, 83, 84, 85, 86, 71, 74, 75, 1127, 78, 79, 80, 72, 76, 77, 1150] g62)
        have md66 : sv_mod [68, 69, 70, 81, 82, 83, 84, 85, 86, 71, 74, 75, 1127, 78, 79, 80, 72, 76, 77, 1143, 1144, 5, 1011, 1150, 1149, 1145, 1113, 1111, 1112, 1100031] S (sv_sts (sv_sts (sv_sts (sv_sts (sv_sts (sv_sts S [68, 69, 70] g16) [68, 69, 70] g22) [68, 69, 70] g31) [68, 69, 70] g37) [68, 69, 70] g56) [68, 69, 70, 81, 82, 83, 84, 85, 86, 71, 74, 75, 1127, 78, 79, 80, 72, 76, 77, 1150] g62) := sv_mod.sts md60 (by decide)
        have h := h g62 hpo65
        refine sv_iload_n hM dX12_waysOfGlobal_102 rfl rfl ?_
        refine sv_cond_eq hM dX12_waysOfGlobal_103 (sv_R01 hp2) (t := 121) rfl rfl (fun hc => ?_) (fun hc => ?_)
        · have h := h.1 (hc)
          exact sv_vret hM dX12_waysOfGlobal_121 rfl ⟨rfl, ok63, md66, h⟩
        · have h := h.2 (hc)
          refine sv_iload hM dX12_waysOfGlobal_106 rfl rfl ?_
          refine sv_cond_eq hM dX12_waysOfGlobal_108 (⟨by decide, by decide⟩ : sv_R (0 : Int)) (t := 121) rfl rfl (fun hc => ?_) (fun hc => ?_)
          · have h := h.1 (hc)
            exact sv_vret hM dX12_waysOfGlobal_121 rfl ⟨rfl, ok63, md66, h⟩
          · have h := h.2 (hc)
            refine sv_aload_n hM dX12_waysOfGlobal_111 rfl rfl ?_
            refine sv_aload_n hM dX12_waysOfGlobal_112 rfl rfl ?_
            have k67 : sv_R (S 1148 0) := sm_okI ok63 sm_r1148 0
            have h := h k67
            refine sv_getI hM dX12_waysOfGlobal_113 sm_fl_1188 (sm_a0 _) sm_k148 rfl (x := (S 1148 0)) rfl ?_
            refine sv_bipush (d := (7 : Int)) hM dX12_waysOfGlobal_116 rfl rfl ?_
            obtain ⟨o68, h⟩ := h
            refine sv_callV hM dX12_waysOfGlobal_118 sm_iv_1292 (by decide) (sm_a0 _) rfl rfl (Nat.le_of_ble_eq_true rfl) sm_h263 (Nat.le_of_ble_eq_true rfl) (Nat.le_of_ble_eq_true rfl) (F' := 8) (Nat.le_of_ble_eq_true rfl) rfl (t_error_ (S 1148 0) (7 : Int) (sv_sts (sv_sts (sv_sts (sv_sts (sv_sts (sv_sts S [68, 69, 70] g16) [68, 69, 70] g22) [68, 69, 70] g31) [68, 69, 70] g37) [68, 69, 70] g56) [68, 69, 70, 81, 82, 83, 84, 85, 86, 71, 74, 75, 1127, 78, 79, 80, 72, 76, 77, 1150] g62) ok63 k67 (⟨by decide, by decide⟩ : sv_R (7 : Int)) o68) (fun v S1 hq => ?_)
            obtain ⟨rfl, ok70, md71, hpo72⟩ := hq
            obtain ⟨g69, rfl⟩ : ∃ g, S1 = sv_sts (sv_sts (sv_sts (sv_sts (sv_sts (sv_sts (sv_sts S [68, 69, 70] g16) [68, 69, 70] g22) [68, 69, 70] g31) [68, 69, 70] g37) [68, 69, 70] g56) [68, 69, 70, 81, 82, 83, 84, 85, 86, 71, 74, 75, 1127, 78, 79, 80, 72, 76, 77, 1150] g62) [68, 69, 70, 81, 82, 83, 84, 85, 86, 71, 74, 75, 1127, 78, 79, 80, 72, 76, 77, 1143, 1144, 5, 1011, 1150, 1149, 1145, 1113, 1111, 1112, 1100031] g := ⟨_, md71.eq⟩
            show sv_T sm_XS sm_cs sm_L sm_sh 9 (q_waysOfGlobal p1 p2 S) 270 121 [(0, .ref 0), (1, sv_I p1), (2, sv_I p2), (3, sv_I r7), (4, sv_I (0 : Int)), (5, sv_I (647740 : Int)), (6, sv_I x27)] [] (sv_sts (sv_sts (sv_sts (sv_sts (sv_sts (sv_sts (sv_sts S [68, 69, 70] g16) [68, 69, 70] g22) [68, 69, 70] g31) [68, 69, 70] g37) [68, 69, 70] g56) [68, 69, 70, 81, 82, 83, 84, 85, 86, 71, 74, 75, 1127, 78, 79, 80, 72, 76, 77, 1150] g62) [68, 69, 70, 81, 82, 83, 84, 85, 86, 71, 74, 75, 1127, 78, 79, 80, 72, 76, 77, 1143, 1144, 5, 1011, 1150, 1149, 1145, 1113, 1111, 1112, 1100031] g69)
            have md73 : sv_mod [68, 69, 70, 81, 82, 83, 84, 85, 86, 71, 74, 75, 1127, 78, 79, 80, 72, 76, 77, 1143, 1144, 5, 1011, 1150, 1149, 1145, 1113, 1111, 1112, 1100031] S (sv_sts (sv_sts (sv_sts (sv_sts (sv_sts (sv_sts (sv_sts S [68, 69, 70] g16) [68, 69, 70] g22) [68, 69, 70] g31) [68, 69, 70] g37) [68, 69, 70] g56) [68, 69, 70, 81, 82, 83, 84, 85, 86, 71, 74, 75, 1127, 78, 79, 80, 72, 76, 77, 1150] g62) [68, 69, 70, 81, 82, 83, 84, 85, 86, 71, 74, 75, 1127, 78, 79, 80, 72, 76, 77, 1143, 1144, 5, 1011, 1150, 1149, 1145, 1113, 1111, 1112, 1100031] g69) := sv_mod.sts md66 (by decide)
            have h := h g69 hpo72
            exact sv_vret hM dX12_waysOfGlobal_121 rfl ⟨rfl, ok70, md73, h⟩
    · have h := h.2 (hc)
      refine sv_aload_n hM dX12_waysOfGlobal_57 rfl rfl ?_
      refine sv_iload hM dX12_waysOfGlobal_58 rfl rfl ?_
      refine sv_iload hM dX12_waysOfGlobal_60 rfl rfl ?_
      obtain ⟨o74, h⟩ := h
      obtain ⟨o75, h⟩ := h
      refine sv_callV hM dX12_waysOfGlobal_62 sm_iv_1092 (by decide) (sm_a0 _) rfl rfl (Nat.le_of_ble_eq_true rfl) sm_h207 (Nat.le_of_ble_eq_true rfl) (Nat.le_of_ble_eq_true rfl) (F' := 0) (Nat.le_of_ble_eq_true rfl) rfl (t_copySet (647740 : Int) x27 (sv_sts (sv_sts S [68, 69, 70] g16) [68, 69, 70] g22) ok23 (⟨by decide, by decide⟩ : sv_R (647740 : Int)) o74 o75) (fun v S1 hq => ?_)
      obtain ⟨rfl, ok77, md78, hpo79⟩ := hq
      obtain ⟨g76, rfl⟩ : ∃ g, S1 = sv_sts (sv_sts (sv_sts S [68, 69, 70] g16) [68, 69, 70] g22) [68, 69, 70] g := ⟨_, md78.eq⟩
      show sv_T sm_XS sm_cs sm_L sm_sh 9 (q_waysOfGlobal p1 p2 S) 270 65 [(0, .ref 0), (1, sv_I p1), (2, sv_I p2), (3, sv_I r7), (4, sv_I (0 : Int)), (5, sv_I (647740 : Int)), (6, sv_I x27)] [] (sv_sts (sv_sts (sv_sts S [68, 69, 70] g16) [68, 69, 70] g22) [68, 69, 70] g76)
      have md80 : sv_mod [68, 69, 70, 81, 82, 83, 84, 85, 86, 71, 74, 75, 1127, 78, 79, 80, 72, 76, 77, 1143, 1144, 5, 1011, 1150, 1149, 1145, 1113, 1111, 1112, 1100031] S (sv_sts (sv_sts (sv_sts S [68, 69, 70] g16) [68, 69, 70] g22) [68, 69, 70] g76) := sv_mod.sts md26 (by decide)
      have h := h g76 hpo79
      refine sv_goto hM dX12_waysOfGlobal_65 (pc' := 95) rfl ?_
      refine sv_aload_n hM dX12_waysOfGlobal_95 rfl rfl ?_
      refine sv_iconst (d := (0 : Int)) hM dX12_waysOfGlobal_96 rfl rfl ?_
      refine sv_iload hM dX12_waysOfGlobal_97 rfl rfl ?_
      obtain ⟨o81, h⟩ := h
      refine sv_callV hM dX12_waysOfGlobal_99 sm_iv_1258 (by decide) (sm_a0 _) rfl rfl (Nat.le_of_ble_eq_true rfl) sm_h267 (Nat.le_of_ble_eq_true rfl) (Nat.le_of_ble_eq_true rfl) (F' := 5) (Nat.le_of_ble_eq_true rfl) rfl (t_replace (0 : Int) x27 (sv_sts (sv_sts (sv_sts S [68, 69, 70] g16) [68, 69, 70] g22) [68, 69, 70] g76) ok77 (⟨by decide, by decide⟩ : sv_R (0 : Int)) o74 o81) (fun v S1 hq => ?_)
      obtain ⟨rfl, ok83, md84, hpo85⟩ := hq
      obtain ⟨g82, rfl⟩ : ∃ g, S1 = sv_sts (sv_sts (sv_sts (sv_sts S [68, 69, 70] g16) [68, 69, 70] g22) [68, 69, 70] g76) [68, 69, 70, 81, 82, 83, 84, 85, 86, 71, 74, 75, 1127, 78, 79, 80, 72, 76, 77, 1150] g := ⟨_, md84.eq⟩
      show sv_T sm_XS sm_cs sm_L sm_sh 9 (q_waysOfGlobal p1 p2 S) 270 102 [(0, .ref 0), (1, sv_I p1), (2, sv_I p2), (3, sv_I r7), (4, sv_I (0 : Int)), (5, sv_I (647740 : Int)), (6, sv_I x27)] [] (sv_sts (sv_sts (sv_sts (sv_sts S [68, 69, 70] g16) [68, 69, 70] g22) [68, 69, 70] g76) [68, 69, 70, 81, 82, 83, 84, 85, 86, 71, 74, 75, 1127, 78, 79, 80, 72, 76, 77, 1150] g82)
      have md86 : sv_mod [68, 69, 70, 81, 82, 83, 84, 85, 86, 71, 74, 75, 1127, 78, 79, 80, 72, 76, 77, 1143, 1144, 5, 1011, 1150, 1149, 1145, 1113, 1111, 1112, 1100031] S (sv_sts (sv_sts (sv_sts (sv_sts S [68, 69, 70] g16) [68, 69, 70] g22) [68, 69, 70] g76) [68, 69, 70, 81, 82, 83, 84, 85, 86, 71, 74, 75, 1127, 78, 79, 80, 72, 76, 77, 1150] g82) := sv_mod.sts md80 (by decide)
      have h := h g82 hpo85
      refine sv_iload_n hM dX12_waysOfGlobal_102 rfl rfl ?_
      refine sv_cond_eq hM dX12_waysOfGlobal_103 (sv_R01 hp2) (t := 121) rfl rfl (fun hc => ?_) (fun hc => ?_)
      · have h := h.1 (hc)
        exact sv_vret hM dX12_waysOfGlobal_121 rfl ⟨rfl, ok83, md86, h⟩
      · have h := h.2 (hc)
        refine sv_iload hM dX12_waysOfGlobal_106 rfl rfl ?_
        refine sv_cond_eq hM dX12_waysOfGlobal_108 (⟨by decide, by decide⟩ : sv_R (0 : Int)) (t := 121) rfl rfl (fun hc => ?_) (fun hc => ?_)
        · have h := h.1 (hc)
          exact sv_vret hM dX12_waysOfGlobal_121 rfl ⟨rfl, ok83, md86, h⟩
        · have h := h.2 (hc)
          refine sv_aload_n hM dX12_waysOfGlobal_111 rfl rfl ?_
          refine sv_aload_n hM dX12_waysOfGlobal_112 rfl rfl ?_
          have k87 : sv_R (S 1148 0) := sm_okI ok83 sm_r1148 0
          have h := h k87
          refine sv_getI hM dX12_waysOfGlobal_113 sm_fl_1188 (sm_a0 _) sm_k148 rfl (x := (S 1148 0)) rfl ?_
          refine sv_bipush (d := (7 : Int)) hM dX12_waysOfGlobal_116 rfl rfl ?_
          obtain ⟨o88, h⟩ := h
          refine sv_callV hM dX12_waysOfGlobal_118 sm_iv_1292 (by decide) (sm_a0 _) rfl rfl (Nat.le_of_ble_eq_true rfl) sm_h263 (Nat.le_of_ble_eq_true rfl) (Nat.le_of_ble_eq_true rfl) (F' := 8) (Nat.le_of_ble_eq_true rfl) rfl (t_error_ (S 1148 0) (7 : Int) (sv_sts (sv_sts (sv_sts (sv_sts S [68, 69, 70] g16) [68, 69, 70] g22) [68, 69, 70] g76) [68, 69, 70, 81, 82, 83, 84, 85, 86, 71, 74, 75, 1127, 78, 79, 80, 72, 76, 77, 1150] g82) ok83 k87 (⟨by decide, by decide⟩ : sv_R (7 : Int)) o88) (fun v S1 hq => ?_)
          obtain ⟨rfl, ok90, md91, hpo92⟩ := hq
          obtain ⟨g89, rfl⟩ : ∃ g, S1 = sv_sts (sv_sts (sv_sts (sv_sts (sv_sts S [68, 69, 70] g16) [68, 69, 70] g22) [68, 69, 70] g76) [68, 69, 70, 81, 82, 83, 84, 85, 86, 71, 74, 75, 1127, 78, 79, 80, 72, 76, 77, 1150] g82) [68, 69, 70, 81, 82, 83, 84, 85, 86, 71, 74, 75, 1127, 78, 79, 80, 72, 76, 77, 1143, 1144, 5, 1011, 1150, 1149, 1145, 1113, 1111, 1112, 1100031] g := ⟨_, md91.eq⟩
          show sv_T sm_XS sm_cs sm_L sm_sh 9 (q_waysOfGlobal p1 p2 S) 270 121 [(0, .ref 0), (1, sv_I p1), (2, sv_I p2), (3, sv_I r7), (4, sv_I (0 : Int)), (5, sv_I (647740 : Int)), (6, sv_I x27)] [] (sv_sts (sv_sts (sv_sts (sv_sts (sv_sts S [68, 69, 70] g16) [68, 69, 70] g22) [68, 69, 70] g76) [68, 69, 70, 81, 82, 83, 84, 85, 86, 71, 74, 75, 1127, 78, 79, 80, 72, 76, 77, 1150] g82) [68, 69, 70, 81, 82, 83, 84, 85, 86, 71, 74, 75, 1127, 78, 79, 80, 72, 76, 77, 1143, 1144, 5, 1011, 1150, 1149, 1145, 1113, 1111, 1112, 1100031] g89)
          have md93 : sv_mod [68, 69, 70, 81, 82, 83, 84, 85, 86, 71, 74, 75, 1127, 78, 79, 80, 72, 76, 77, 1143, 1144, 5, 1011, 1150, 1149, 1145, 1113, 1111, 1112, 1100031] S (sv_sts (sv_sts (sv_sts (sv_sts (sv_sts S [68, 69, 70] g16) [68, 69, 70] g22) [68, 69, 70] g76) [68, 69, 70, 81, 82, 83, 84, 85, 86, 71, 74, 75, 1127, 78, 79, 80, 72, 76, 77, 1150] g82) [68, 69, 70, 81, 82, 83, 84, 85, 86, 71, 74, 75, 1127, 78, 79, 80, 72, 76, 77, 1143, 1144, 5, 1011, 1150, 1149, 1145, 1113, 1111, 1112, 1100031] g89) := sv_mod.sts md86 (by decide)
          have h := h g89 hpo92
          exact sv_vret hM dX12_waysOfGlobal_121 rfl ⟨rfl, ok90, md93, h⟩
  · have h := h.2 (hc)
    refine sv_iconst (d := (1 : Int)) hM dX12_waysOfGlobal_22 rfl rfl ?_
    refine sv_goto hM dX12_waysOfGlobal_23 (pc' := 27) rfl ?_
    refine sv_istore hM dX12_waysOfGlobal_27 (by decide) rfl ?_
    show sv_T sm_XS sm_cs sm_L sm_sh 9 (q_waysOfGlobal p1 p2 S) 270 29 [(0, .ref 0), (1, sv_I p1), (2, sv_I p2), (3, sv_I r7), (4, sv_I (1 : Int))] [] S
    refine sv_ldc_w (d := (647740 : Int)) hM dX12_waysOfGlobal_29 sm_ck_1218 rfl rfl ?_
    refine sv_istore hM dX12_waysOfGlobal_32 (by decide) rfl ?_
    show sv_T sm_XS sm_cs sm_L sm_sh 9 (q_waysOfGlobal p1 p2 S) 270 34 [(0, .ref 0), (1, sv_I p1), (2, sv_I p2), (3, sv_I r7), (4, sv_I (1 : Int)), (5, sv_I (647740 : Int))] [] S
    refine sv_aload_n hM dX12_waysOfGlobal_34 rfl rfl ?_
    refine sv_iload hM dX12_waysOfGlobal_35 rfl rfl ?_
    obtain ⟨o94, h⟩ := h
    refine sv_callV hM dX12_waysOfGlobal_37 sm_iv_1066 (by decide) (sm_a0 _) rfl rfl (Nat.le_of_ble_eq_true rfl) sm_h206 (Nat.le_of_ble_eq_true rfl) (Nat.le_of_ble_eq_true rfl) (F' := 0) (Nat.le_of_ble_eq_true rfl) rfl (t_empty (647740 : Int) S ok10 (⟨by decide, by decide⟩ : sv_R (647740 : Int)) o94) (fun v S1 hq => ?_)
    obtain ⟨rfl, ok96, md97, hpo98⟩ := hq
    obtain ⟨g95, rfl⟩ : ∃ g, S1 = sv_sts S [68, 69, 70] g := ⟨_, md97.eq⟩
    show sv_T sm_XS sm_cs sm_L sm_sh 9 (q_waysOfGlobal p1 p2 S) 270 40 [(0, .ref 0), (1, sv_I p1), (2, sv_I p2), (3, sv_I r7), (4, sv_I (1 : Int)), (5, sv_I (647740 : Int))] [] (sv_sts S [68, 69, 70] g95)
    have md99 : sv_mod [68, 69, 70, 81, 82, 83, 84, 85, 86, 71, 74, 75, 1127, 78, 79, 80, 72, 76, 77, 1143, 1144, 5, 1011, 1150, 1149, 1145, 1113, 1111, 1112, 1100031] S (sv_sts S [68, 69, 70] g95) := sv_mod.sts sv_mod.rf (by decide)
    have h := h g95 hpo98
    refine sv_aload_n hM dX12_waysOfGlobal_40 rfl rfl ?_
    refine sv_iload_n hM dX12_waysOfGlobal_41 rfl rfl ?_
    refine sv_iload hM dX12_waysOfGlobal_42 rfl rfl ?_
    obtain ⟨o100, h⟩ := h
    refine sv_callV hM dX12_waysOfGlobal_44 sm_iv_1228 (by decide) (sm_a0 _) rfl rfl (Nat.le_of_ble_eq_true rfl) sm_h266 (Nat.le_of_ble_eq_true rfl) (Nat.le_of_ble_eq_true rfl) (F' := 2) (Nat.le_of_ble_eq_true rfl) rfl (t_joinPlain r7 (647740 : Int) (sv_sts S [68, 69, 70] g95) ok96 hr7 (⟨by decide, by decide⟩ : sv_R (647740 : Int)) o100) (fun v S1 hq => ?_)
    obtain ⟨rfl, ok102, md103, hpo104⟩ := hq
    obtain ⟨g101, rfl⟩ : ∃ g, S1 = sv_sts (sv_sts S [68, 69, 70] g95) [68, 69, 70] g := ⟨_, md103.eq⟩
    show sv_T sm_XS sm_cs sm_L sm_sh 9 (q_waysOfGlobal p1 p2 S) 270 47 [(0, .ref 0), (1, sv_I p1), (2, sv_I p2), (3, sv_I r7), (4, sv_I (1 : Int)), (5, sv_I (647740 : Int))] [] (sv_sts (sv_sts S [68, 69, 70] g95) [68, 69, 70] g101)
    have md105 : sv_mod [68, 69, 70, 81, 82, 83, 84, 85, 86, 71, 74, 75, 1127, 78, 79, 80, 72, 76, 77, 1143, 1144, 5, 1011, 1150, 1149, 1145, 1113, 1111, 1112, 1100031] S (sv_sts (sv_sts S [68, 69, 70] g95) [68, 69, 70] g101) := sv_mod.sts md99 (by decide)
    have h := h g101 hpo104
    refine sv_iload hM dX12_waysOfGlobal_47 rfl rfl ?_
    refine sv_iconst (d := (1 : Int)) hM dX12_waysOfGlobal_49 rfl rfl ?_
    refine sv_iadd hM dX12_waysOfGlobal_50 rfl ?_
    obtain ⟨x106, e107⟩ : ∃ x : Int, ((647740 : Int) + (1 : Int)) = x := ⟨_, rfl⟩
    have h := h x106 e107
    refine sv_nameI e107 ?_
    refine sv_istore hM dX12_waysOfGlobal_51 (by decide) rfl ?_
    show sv_T sm_XS sm_cs sm_L sm_sh 9 (q_waysOfGlobal p1 p2 S) 270 53 [(0, .ref 0), (1, sv_I p1), (2, sv_I p2), (3, sv_I r7), (4, sv_I (1 : Int)), (5, sv_I (647740 : Int)), (6, sv_I x106)] [] (sv_sts (sv_sts S [68, 69, 70] g95) [68, 69, 70] g101)
    refine sv_iload_n hM dX12_waysOfGlobal_53 rfl rfl ?_
    refine sv_cond_eq hM dX12_waysOfGlobal_54 (sv_R01 hp2) (t := 68) rfl rfl (fun hc => ?_) (fun hc => ?_)
    · have h := h.1 (hc)
      refine sv_aload_n hM dX12_waysOfGlobal_68 rfl rfl ?_
      refine sv_iload hM dX12_waysOfGlobal_69 rfl rfl ?_
      obtain ⟨o108, h⟩ := h
      obtain ⟨o109, h⟩ := h
      refine sv_callV hM dX12_waysOfGlobal_71 sm_iv_1066 (by decide) (sm_a0 _) rfl rfl (Nat.le_of_ble_eq_true rfl) sm_h206 (Nat.le_of_ble_eq_true rfl) (Nat.le_of_ble_eq_true rfl) (F' := 0) (Nat.le_of_ble_eq_true rfl) rfl (t_empty x106 (sv_sts (sv_sts S [68, 69, 70] g95) [68, 69, 70] g101) ok102 o108 o109) (fun v S1 hq => ?_)
      obtain ⟨rfl, ok111, md112, hpo113⟩ := hq
      obtain ⟨g110, rfl⟩ : ∃ g, S1 = sv_sts (sv_sts (sv_sts S [68, 69, 70] g95) [68, 69, 70] g101) [68, 69, 70] g := ⟨_, md112.eq⟩
      show sv_T sm_XS sm_cs sm_L sm_sh 9 (q_waysOfGlobal p1 p2 S) 270 74 [(0, .ref 0), (1, sv_I p1), (2, sv_I p2), (3, sv_I r7), (4, sv_I (1 : Int)), (5, sv_I (647740 : Int)), (6, sv_I x106)] [] (sv_sts (sv_sts (sv_sts S [68, 69, 70] g95) [68, 69, 70] g101) [68, 69, 70] g110)
      have md114 : sv_mod [68, 69, 70, 81, 82, 83, 84, 85, 86, 71, 74, 75, 1127, 78, 79, 80, 72, 76, 77, 1143, 1144, 5, 1011, 1150, 1149, 1145, 1113, 1111, 1112, 1100031] S (sv_sts (sv_sts (sv_sts S [68, 69, 70] g95) [68, 69, 70] g101) [68, 69, 70] g110) := sv_mod.sts md105 (by decide)
      have h := h g110 hpo113
      refine sv_aload_n hM dX12_waysOfGlobal_74 rfl rfl ?_
      refine sv_iload hM dX12_waysOfGlobal_75 rfl rfl ?_
      refine sv_iload hM dX12_waysOfGlobal_77 rfl rfl ?_
      obtain ⟨o115, h⟩ := h
      refine sv_callV hM dX12_waysOfGlobal_79 sm_iv_1289 (by decide) (sm_a0 _) rfl rfl (Nat.le_of_ble_eq_true rfl) sm_h271 (Nat.le_of_ble_eq_true rfl) (Nat.le_of_ble_eq_true rfl) (F' := 3) (Nat.le_of_ble_eq_true rfl) rfl (t_typesOf (647740 : Int) x106 (sv_sts (sv_sts (sv_sts S [68, 69, 70] g95) [68, 69, 70] g101) [68, 69, 70] g110) ok111 (⟨by decide, by decide⟩ : sv_R (647740 : Int)) o108 o115) (fun v S1 hq => ?_)
      obtain ⟨rfl, ok117, md118, hpo119⟩ := hq
      obtain ⟨g116, rfl⟩ : ∃ g, S1 = sv_sts (sv_sts (sv_sts (sv_sts S [68, 69, 70] g95) [68, 69, 70] g101) [68, 69, 70] g110) [68, 69, 70] g := ⟨_, md118.eq⟩
      show sv_T sm_XS sm_cs sm_L sm_sh 9 (q_waysOfGlobal p1 p2 S) 270 82 [(0, .ref 0), (1, sv_I p1), (2, sv_I p2), (3, sv_I r7), (4, sv_I (1 : Int)), (5, sv_I (647740 : Int)), (6, sv_I x106)] [] (sv_sts (sv_sts (sv_sts (sv_sts S [68, 69, 70] g95) [68, 69, 70] g101) [68, 69, 70] g110) [68, 69, 70] g116)
      have md120 : sv_mod [68, 69, 70, 81, 82, 83, 84, 85, 86, 71, 74, 75, 1127, 78, 79, 80, 72, 76, 77, 1143, 1144, 5, 1011, 1150, 1149, 1145, 1113, 1111, 1112, 1100031] S (sv_sts (sv_sts (sv_sts (sv_sts S [68, 69, 70] g95) [68, 69, 70] g101) [68, 69, 70] g110) [68, 69, 70] g116) := sv_mod.sts md114 (by decide)
      have h := h g116 hpo119
      refine sv_iload hM dX12_waysOfGlobal_82 rfl rfl ?_
      refine sv_cond_eq hM dX12_waysOfGlobal_84 (⟨by decide, by decide⟩ : sv_R (1 : Int)) (t := 95) rfl rfl (fun hc => ?_) (fun hc => ?_)
      · have h := h.1 (hc)
        refine sv_aload_n hM dX12_waysOfGlobal_95 rfl rfl ?_
        refine sv_iconst (d := (0 : Int)) hM dX12_waysOfGlobal_96 rfl rfl ?_
        refine sv_iload hM dX12_waysOfGlobal_97 rfl rfl ?_
        obtain ⟨o121, h⟩ := h
        refine sv_callV hM dX12_waysOfGlobal_99 sm_iv_1258 (by decide) (sm_a0 _) rfl rfl (Nat.le_of_ble_eq_true rfl) sm_h267 (Nat.le_of_ble_eq_true rfl) (Nat.le_of_ble_eq_true rfl) (F' := 5) (Nat.le_of_ble_eq_true rfl) rfl (t_replace (0 : Int) x106 (sv_sts (sv_sts (sv_sts (sv_sts S [68, 69, 70] g95) [68, 69, 70] g101) [68, 69, 70] g110) [68, 69, 70] g116) ok117 (⟨by decide, by decide⟩ : sv_R (0 : Int)) o108 o121) (fun v S1 hq => ?_)
        obtain ⟨rfl, ok123, md124, hpo125⟩ := hq
        obtain ⟨g122, rfl⟩ : ∃ g, S1 = sv_sts (sv_sts (sv_sts (sv_sts (sv_sts S [68, 69, 70] g95) [68, 69, 70] g101) [68, 69, 70] g110) [68, 69, 70] g116) [68, 69, 70, 81, 82, 83, 84, 85, 86, 71, 74, 75, 1127, 78, 79, 80, 72, 76, 77, 1150] g := ⟨_, md124.eq⟩
        show sv_T sm_XS sm_cs sm_L sm_sh 9 (q_waysOfGlobal p1 p2 S) 270 102 [(0, .ref 0), (1, sv_I p1), (2, sv_I p2), (3, sv_I r7), (4, sv_I (1 : Int)), (5, sv_I (647740 : Int)), (6, sv_I x106)] [] (sv_sts (sv_sts (sv_sts (sv_sts (sv_sts S [68, 69, 70] g95) [68, 69, 70] g101) [68, 69, 70] g110) [68, 69, 70] g116) [68, 69, 70, 81, 82, 83, 84, 85, 86, 71, 74, 75, 1127, 78, 79, 80, 72, 76, 77, 1150] g122)
        have md126 : sv_mod [68, 69, 70, 81, 82, 83, 84, 85, 86, 71, 74, 75, 1127, 78, 79, 80, 72, 76, 77, 1143, 1144, 5, 1011, 1150, 1149, 1145, 1113, 1111, 1112, 1100031] S (sv_sts (sv_sts (sv_sts (sv_sts (sv_sts S [68, 69, 70] g95) [68, 69, 70] g101) [68, 69, 70] g110) [68, 69, 70] g116) [68, 69, 70, 81, 82, 83, 84, 85, 86, 71, 74, 75, 1127, 78, 79, 80, 72, 76, 77, 1150] g122) := sv_mod.sts md120 (by decide)
        have h := h g122 hpo125
        refine sv_iload_n hM dX12_waysOfGlobal_102 rfl rfl ?_
        refine sv_cond_eq hM dX12_waysOfGlobal_103 (sv_R01 hp2) (t := 121) rfl rfl (fun hc => ?_) (fun hc => ?_)
        · have h := h.1 (hc)
          exact sv_vret hM dX12_waysOfGlobal_121 rfl ⟨rfl, ok123, md126, h⟩
        · have h := h.2 (hc)
          refine sv_iload hM dX12_waysOfGlobal_106 rfl rfl ?_
          refine sv_cond_eq hM dX12_waysOfGlobal_108 (⟨by decide, by decide⟩ : sv_R (1 : Int)) (t := 121) rfl rfl (fun hc => ?_) (fun hc => ?_)
          · have h := h.1 (hc)
            exact sv_vret hM dX12_waysOfGlobal_121 rfl ⟨rfl, ok123, md126, h⟩
          · have h := h.2 (hc)
            refine sv_aload_n hM dX12_waysOfGlobal_111 rfl rfl ?_
            refine sv_aload_n hM dX12_waysOfGlobal_112 rfl rfl ?_
            have k127 : sv_R (S 1148 0) := sm_okI ok123 sm_r1148 0
            have h := h k127
            refine sv_getI hM dX12_waysOfGlobal_113 sm_fl_1188 (sm_a0 _) sm_k148 rfl (x := (S 1148 0)) rfl ?_
            refine sv_bipush (d := (7 : Int)) hM dX12_waysOfGlobal_116 rfl rfl ?_
            obtain ⟨o128, h⟩ := h
            refine sv_callV hM dX12_waysOfGlobal_118 sm_iv_1292 (by decide) (sm_a0 _) rfl rfl (Nat.le_of_ble_eq_true rfl) sm_h263 (Nat.le_of_ble_eq_true rfl) (Nat.le_of_ble_eq_true rfl) (F' := 8) (Nat.le_of_ble_eq_true rfl) rfl (t_error_ (S 1148 0) (7 : Int) (sv_sts (sv_sts (sv_sts (sv_sts (sv_sts S [68, 69, 70] g95) [68, 69, 70] g101) [68, 69, 70] g110) [68, 69, 70] g116) [68, 69, 70, 81, 82, 83, 84, 85, 86, 71, 74, 75, 1127, 78, 79, 80, 72, 76, 77, 1150] g122) ok123 k127 (⟨by decide, by decide⟩ : sv_R (7 : Int)) o128) (fun v S1 hq => ?_)
            obtain ⟨rfl, ok130, md131, hpo132⟩ := hq
            obtain ⟨g129, rfl⟩ : ∃ g, S1 = sv_sts (sv_sts (sv_sts (sv_sts (sv_sts (sv_sts S [68, 69, 70] g95) [68, 69, 70] g101) [68, 69, 70] g110) [68, 69, 70] g116) [68, 69, 70, 81, 82, 83, 84, 85, 86, 71, 74, 75, 1127, 78, 79, 80, 72, 76, 77, 1150] g122) [68, 69, 70, 81, 82, 83, 84, 85, 86, 71, 74, 75, 1127, 78, 79, 80, 72, 76, 77, 1143, 1144, 5, 1011, 1150, 1149, 1145, 1113, 1111, 1112, 1100031] g := ⟨_, md131.eq⟩
            show sv_T sm_XS sm_cs sm_L sm_sh 9 (q_waysOfGlobal p1 p2 S) 270 121 [(0, .ref 0), (1, sv_I p1), (2, sv_I p2), (3, sv_I r7), (4, sv_I (1 : Int)), (5, sv_I (647740 : Int)), (6, sv_I x106)] [] (sv_sts (sv_sts (sv_sts (sv_sts (sv_sts (sv_sts S [68, 69, 70] g95) [68, 69, 70] g101) [68, 69, 70] g110) [68, 69, 70] g116) [68, 69, 70, 81, 82, 83, 84, 85, 86, 71, 74, 75, 1127, 78, 79, 80, 72, 76, 77, 1150] g122) [68, 69, 70, 81, 82, 83, 84, 85, 86, 71, 74, 75, 1127, 78, 79, 80, 72, 76, 77, 1143, 1144, 5, 1011, 1150, 1149, 1145, 1113, 1111, 1112, 1100031] g129)
            have md133 : sv_mod [68, 69, 70, 81, 82, 83, 84, 85, 86, 71, 74, 75, 1127, 78, 79, 80, 72, 76, 77, 1143, 1144, 5, 1011, 1150, 1149, 1145, 1113, 1111, 1112, 1100031] S (sv_sts (sv_sts (sv_sts (sv_sts (sv_sts (sv_sts S [68, 69, 70] g95) [68, 69, 70] g101) [68, 69, 70] g110) [68, 69, 70] g116) [68, 69, 70, 81, 82, 83, 84, 85, 86, 71, 74, 75, 1127, 78, 79, 80, 72, 76, 77, 1150] g122) [68, 69, 70, 81, 82, 83, 84, 85, 86, 71, 74, 75, 1127, 78, 79, 80, 72, 76, 77, 1143, 1144, 5, 1011, 1150, 1149, 1145, 1113, 1111, 1112, 1100031] g129) := sv_mod.sts md126 (by decide)
            have h := h g129 hpo132
            exact sv_vret hM dX12_waysOfGlobal_121 rfl ⟨rfl, ok130, md133, h⟩
      · have h := h.2 (hc)
        refine sv_aload_n hM dX12_waysOfGlobal_87 rfl rfl ?_
        refine sv_iload hM dX12_waysOfGlobal_88 rfl rfl ?_
        refine sv_bipush (d := (19 : Int)) hM dX12_waysOfGlobal_90 rfl rfl ?_
        obtain ⟨o134, h⟩ := h
        refine sv_callV hM dX12_waysOfGlobal_92 sm_iv_1078 (by decide) (sm_a0 _) rfl rfl (Nat.le_of_ble_eq_true rfl) sm_h215 (Nat.le_of_ble_eq_true rfl) (Nat.le_of_ble_eq_true rfl) (F' := 2) (Nat.le_of_ble_eq_true rfl) rfl (t_addString x106 (19 : Int) (sv_sts (sv_sts (sv_sts (sv_sts S [68, 69, 70] g95) [68, 69, 70] g101) [68, 69, 70] g110) [68, 69, 70] g116) ok117 o108 (⟨by decide, by decide⟩ : sv_R (19 : Int)) o134) (fun v S1 hq => ?_)
        obtain ⟨rfl, ok136, md137, hpo138⟩ := hq
        obtain ⟨g135, rfl⟩ : ∃ g, S1 = sv_sts (sv_sts (sv_sts (sv_sts (sv_sts S [68, 69, 70] g95) [68, 69, 70] g101) [68, 69, 70] g110) [68, 69, 70] g116) [68, 69, 70] g := ⟨_, md137.eq⟩
        show sv_T sm_XS sm_cs sm_L sm_sh 9 (q_waysOfGlobal p1 p2 S) 270 95 [(0, .ref 0), (1, sv_I p1), (2, sv_I p2), (3, sv_I r7), (4, sv_I (1 : Int)), (5, sv_I (647740 : Int)), (6, sv_I x106)] [] (sv_sts (sv_sts (sv_sts (sv_sts (sv_sts S [68, 69, 70] g95) [68, 69, 70] g101) [68, 69, 70] g110) [68, 69, 70] g116) [68, 69, 70] g135)
        have md139 : sv_mod [68, 69, 70, 81, 82, 83, 84, 85, 86, 71, 74, 75, 1127, 78, 79, 80, 72, 76, 77, 1143, 1144, 5, 1011, 1150, 1149, 1145, 1113, 1111, 1112, 1100031] S (sv_sts (sv_sts (sv_sts (sv_sts (sv_sts S [68, 69, 70] g95) [68, 69, 70] g101) [68, 69, 70] g110) [68, 69, 70] g116) [68, 69, 70] g135) := sv_mod.sts md120 (by decide)
        have h := h g135 hpo138
        refine sv_aload_n hM dX12_waysOfGlobal_95 rfl rfl ?_
        refine sv_iconst (d := (0 : Int)) hM dX12_waysOfGlobal_96 rfl rfl ?_
        refine sv_iload hM dX12_waysOfGlobal_97 rfl rfl ?_
        obtain ⟨o140, h⟩ := h
        refine sv_callV hM dX12_waysOfGlobal_99 sm_iv_1258 (by decide) (sm_a0 _) rfl rfl (Nat.le_of_ble_eq_true rfl) sm_h267 (Nat.le_of_ble_eq_true rfl) (Nat.le_of_ble_eq_true rfl) (F' := 5) (Nat.le_of_ble_eq_true rfl) rfl (t_replace (0 : Int) x106 (sv_sts (sv_sts (sv_sts (sv_sts (sv_sts S [68, 69, 70] g95) [68, 69, 70] g101) [68, 69, 70] g110) [68, 69, 70] g116) [68, 69, 70] g135) ok136 (⟨by decide, by decide⟩ : sv_R (0 : Int)) o108 o140) (fun v S1 hq => ?_)
        obtain ⟨rfl, ok142, md143, hpo144⟩ := hq
        obtain ⟨g141, rfl⟩ : ∃ g, S1 = sv_sts (sv_sts (sv_sts (sv_sts (sv_sts (sv_sts S [68, 69, 70] g95) [68, 69, 70] g101) [68, 69, 70] g110) [68, 69, 70] g116) [68, 69, 70] g135) [68, 69, 70, 81, 82, 83, 84, 85, 86, 71, 74, 75, 1127, 78, 79, 80, 72, 76, 77, 1150] g := ⟨_, md143.eq⟩
        show sv_T sm_XS sm_cs sm_L sm_sh 9 (q_waysOfGlobal p1 p2 S) 270 102 [(0, .ref 0), (1, sv_I p1), (2, sv_I p2), (3, sv_I r7), (4, sv_I (1 : Int)), (5, sv_I (647740 : Int)), (6, sv_I x106)] [] (sv_sts (sv_sts (sv_sts (sv_sts (sv_sts (sv_sts S [68, 69, 70] g95) [68, 69, 70] g101) [68, 69, 70] g110) [68, 69, 70] g116) [68, 69, 70] g135) [68, 69, 70, 81, 82, 83, 84, 85, 86, 71, 74, 75, 1127, 78, 79, 80, 72, 76, 77, 1150] g141)
        have md145 : sv_mod [68, 69, 70, 81, 82, 83, 84, 85, 86, 71, 74, 75, 1127, 78, 79, 80, 72, 76, 77, 1143, 1144, 5, 1011, 1150, 1149, 1145, 1113, 1111, 1112, 1100031] S (sv_sts (sv_sts (sv_sts (sv_sts (sv_sts (sv_sts S [68, 69, 70] g95) [68, 69, 70] g101) [68, 69, 70] g110) [68, 69, 70] g116) [68, 69, 70] g135) [68, 69, 70, 81, 82, 83, 84, 85, 86, 71, 74, 75, 1127, 78, 79, 80, 72, 76, 77, 1150] g141) := sv_mod.sts md139 (by decide)
        have h := h g141 hpo144
        refine sv_iload_n hM dX12_waysOfGlobal_102 rfl rfl ?_
        refine sv_cond_eq hM dX12_waysOfGlobal_103 (sv_R01 hp2) (t := 121) rfl rfl (fun hc => ?_) (fun hc => ?_)
        · have h := h.1 (hc)
          exact sv_vret hM dX12_waysOfGlobal_121 rfl ⟨rfl, ok142, md145, h⟩
        · have h := h.2 (hc)
          refine sv_iload hM dX12_waysOfGlobal_106 rfl rfl ?_
          refine sv_cond_eq hM dX12_waysOfGlobal_108 (⟨by decide, by decide⟩ : sv_R (1 : Int)) (t := 121) rfl rfl (fun hc => ?_) (fun hc => ?_)
          · have h := h.1 (hc)
            exact sv_vret hM dX12_waysOfGlobal_121 rfl ⟨rfl, ok142, md145, h⟩
          · have h := h.2 (hc)
            refine sv_aload_n hM dX12_waysOfGlobal_111 rfl rfl ?_
            refine sv_aload_n hM dX12_waysOfGlobal_112 rfl rfl ?_
            have k146 : sv_R (S 1148 0) := sm_okI ok142 sm_r1148 0
            have h := h k146
            refine sv_getI hM dX12_waysOfGlobal_113 sm_fl_1188 (sm_a0 _) sm_k148 rfl (x := (S 1148 0)) rfl ?_
            refine sv_bipush (d := (7 : Int)) hM dX12_waysOfGlobal_116 rfl rfl ?_
            obtain ⟨o147, h⟩ := h
            refine sv_callV hM dX12_waysOfGlobal_118 sm_iv_1292 (by decide) (sm_a0 _) rfl rfl (Nat.le_of_ble_eq_true rfl) sm_h263 (Nat.le_of_ble_eq_true rfl) (Nat.le_of_ble_eq_true rfl) (F' := 8) (Nat.le_of_ble_eq_true rfl) rfl (t_error_ (S 1148 0) (7 : Int) (sv_sts (sv_sts (sv_sts (sv_sts (sv_sts (sv_sts S [68, 69, 70] g95) [68, 69, 70] g101) [68, 69, 70] g110) [68, 69, 70] g116) [68, 69, 70] g135) [68, 69, 70, 81, 82, 83, 84, 85, 86, 71, 74, 75, 1127, 78, 79, 80, 72, 76, 77, 1150] g141) ok142 k146 (⟨by decide, by decide⟩ : sv_R (7 : Int)) o147) (fun v S1 hq => ?_)
            obtain ⟨rfl, ok149, md150, hpo151⟩ := hq
            obtain ⟨g148, rfl⟩ : ∃ g, S1 = sv_sts (sv_sts (sv_sts (sv_sts (sv_sts (sv_sts (sv_sts S [68, 69, 70] g95) [68, 69, 70] g101) [68, 69, 70] g110) [68, 69, 70] g116) [68, 69, 70] g135) [68, 69, 70, 81, 82, 83, 84, 85, 86, 71, 74, 75, 1127, 78, 79, 80, 72, 76, 77, 1150] g141) [68, 69, 70, 81, 82, 83, 84, 85, 86, 71, 74, 75, 1127, 78, 79, 80, 72, 76, 77, 1143, 1144, 5, 1011, 1150, 1149, 1145, 1113, 1111, 1112, 1100031] g := ⟨_, md150.eq⟩
            show sv_T sm_XS sm_cs sm_L sm_sh 9 (q_waysOfGlobal p1 p2 S) 270 121 [(0, .ref 0), (1, sv_I p1), (2, sv_I p2), (3, sv_I r7), (4, sv_I (1 : Int)), (5, sv_I (647740 : Int)), (6, sv_I x106)] [] (sv_sts (sv_sts (sv_sts (sv_sts (sv_sts (sv_sts (sv_sts S [68, 69, 70] g95) [68, 69, 70] g101) [68, 69, 70] g110) [68, 69, 70] g116) [68, 69, 70] g135) [68, 69, 70, 81, 82, 83, 84, 85, 86, 71, 74, 75, 1127, 78, 79, 80, 72, 76, 77, 1150] g141) [68, 69, 70, 81, 82, 83, 84, 85, 86, 71, 74, 75, 1127, 78, 79, 80, 72, 76, 77, 1143, 1144, 5, 1011, 1150, 1149, 1145, 1113, 1111, 1112, 1100031] g148)
            have md152 : sv_mod [68, 69, 70, 81, 82, 83, 84, 85, 86, 71, 74, 75, 1127, 78, 79, 80, 72, 76, 77, 1143, 1144, 5, 1011, 1150, 1149, 1145, 1113, 1111, 1112, 1100031] S (sv_sts (sv_sts (sv_sts (sv_sts (sv_sts (sv_sts (sv_sts S [68, 69, 70] g95) [68, 69, 70] g101) [68, 69, 70] g110) [68, 69, 70] g116) [68, 69, 70] g135) [68, 69, 70, 81, 82, 83, 84, 85, 86, 71, 74, 75, 1127, 78, 79, 80, 72, 76, 77, 1150] g141) [68, 69, 70, 81, 82, 83, 84, 85, 86, 71, 74, 75, 1127, 78, 79, 80, 72, 76, 77, 1143, 1144, 5, 1011, 1150, 1149, 1145, 1113, 1111, 1112, 1100031] g148) := sv_mod.sts md145 (by decide)
            have h := h g148 hpo151
            exact sv_vret hM dX12_waysOfGlobal_121 rfl ⟨rfl, ok149, md152, h⟩
    · have h := h.2 (hc)
      refine sv_aload_n hM dX12_waysOfGlobal_57 rfl rfl ?_
      refine sv_iload hM dX12_waysOfGlobal_58 rfl rfl ?_
      refine sv_iload hM dX12_waysOfGlobal_60 rfl rfl ?_
      obtain ⟨o153, h⟩ := h
      obtain ⟨o154, h⟩ := h
      refine sv_callV hM dX12_waysOfGlobal_62 sm_iv_1092 (by decide) (sm_a0 _) rfl rfl (Nat.le_of_ble_eq_true rfl) sm_h207 (Nat.le_of_ble_eq_true rfl) (Nat.le_of_ble_eq_true rfl) (F' := 0) (Nat.le_of_ble_eq_true rfl) rfl (t_copySet (647740 : Int) x106 (sv_sts (sv_sts S [68, 69, 70] g95) [68, 69, 70] g101) ok102 (⟨by decide, by decide⟩ : sv_R (647740 : Int)) o153 o154) (fun v S1 hq => ?_)
      obtain ⟨rfl, ok156, md157, hpo158⟩ := hq
      obtain ⟨g155, rfl⟩ : ∃ g, S1 = sv_sts (sv_sts (sv_sts S [68, 69, 70] g95) [68, 69, 70] g101) [68, 69, 70] g := ⟨_, md157.eq⟩
      show sv_T sm_XS sm_cs sm_L sm_sh 9 (q_waysOfGlobal p1 p2 S) 270 65 [(0, .ref 0), (1, sv_I p1), (2, sv_I p2), (3, sv_I r7), (4, sv_I (1 : Int)), (5, sv_I (647740 : Int)), (6, sv_I x106)] [] (sv_sts (sv_sts (sv_sts S [68, 69, 70] g95) [68, 69, 70] g101) [68, 69, 70] g155)
      have md159 : sv_mod [68, 69, 70, 81, 82, 83, 84, 85, 86, 71, 74, 75, 1127, 78, 79, 80, 72, 76, 77, 1143, 1144, 5, 1011, 1150, 1149, 1145, 1113, 1111, 1112, 1100031] S (sv_sts (sv_sts (sv_sts S [68, 69, 70] g95) [68, 69, 70] g101) [68, 69, 70] g155) := sv_mod.sts md105 (by decide)
      have h := h g155 hpo158
      refine sv_goto hM dX12_waysOfGlobal_65 (pc' := 95) rfl ?_
      refine sv_aload_n hM dX12_waysOfGlobal_95 rfl rfl ?_
      refine sv_iconst (d := (0 : Int)) hM dX12_waysOfGlobal_96 rfl rfl ?_
      refine sv_iload hM dX12_waysOfGlobal_97 rfl rfl ?_
      obtain ⟨o160, h⟩ := h
      refine sv_callV hM dX12_waysOfGlobal_99 sm_iv_1258 (by decide) (sm_a0 _) rfl rfl (Nat.le_of_ble_eq_true rfl) sm_h267 (Nat.le_of_ble_eq_true rfl) (Nat.le_of_ble_eq_true rfl) (F' := 5) (Nat.le_of_ble_eq_true rfl) rfl (t_replace (0 : Int) x106 (sv_sts (sv_sts (sv_sts S [68, 69, 70] g95) [68, 69, 70] g101) [68, 69, 70] g155) ok156 (⟨by decide, by decide⟩ : sv_R (0 : Int)) o153 o160) (fun v S1 hq => ?_)
      obtain ⟨rfl, ok162, md163, hpo164⟩ := hq
      obtain ⟨g161, rfl⟩ : ∃ g, S1 = sv_sts (sv_sts (sv_sts (sv_sts S [68, 69, 70] g95) [68, 69, 70] g101) [68, 69, 70] g155) [68, 69, 70, 81, 82, 83, 84, 85, 86, 71, 74, 75, 1127, 78, 79, 80, 72, 76, 77, 1150] g := ⟨_, md163.eq⟩
      show sv_T sm_XS sm_cs sm_L sm_sh 9 (q_waysOfGlobal p1 p2 S) 270 102 [(0, .ref 0), (1, sv_I p1), (2, sv_I p2), (3, sv_I r7), (4, sv_I (1 : Int)), (5, sv_I (647740 : Int)), (6, sv_I x106)] [] (sv_sts (sv_sts (sv_sts (sv_sts S [68, 69, 70] g95) [68, 69, 70] g101) [68, 69, 70] g155) [68, 69, 70, 81, 82, 83, 84, 85, 86, 71, 74, 75, 1127, 78, 79, 80, 72, 76, 77, 1150] g161)
      have md165 : sv_mod [68, 69, 70, 81, 82, 83, 84, 85, 86, 71, 74, 75, 1127, 78, 79, 80, 72, 76, 77, 1143, 1144, 5, 1011, 1150, 1149, 1145, 1113, 1111, 1112, 1100031] S (sv_sts (sv_sts (sv_sts (sv_sts S [68, 69, 70] g95) [68, 69, 70] g101) [68, 69, 70] g155) [68, 69, 70, 81, 82, 83, 84, 85, 86, 71, 74, 75, 1127, 78, 79, 80, 72, 76, 77, 1150] g161) := sv_mod.sts md159 (by decide)
      have h := h g161 hpo164
      refine sv_iload_n hM dX12_waysOfGlobal_102 rfl rfl ?_
      refine sv_cond_eq hM dX12_waysOfGlobal_103 (sv_R01 hp2) (t := 121) rfl rfl (fun hc => ?_) (fun hc => ?_)
      · have h := h.1 (hc)
        exact sv_vret hM dX12_waysOfGlobal_121 rfl ⟨rfl, ok162, md165, h⟩
      · have h := h.2 (hc)
        refine sv_iload hM dX12_waysOfGlobal_106 rfl rfl ?_
        refine sv_cond_eq hM dX12_waysOfGlobal_108 (⟨by decide, by decide⟩ : sv_R (1 : Int)) (t := 121) rfl rfl (fun hc => ?_) (fun hc => ?_)
        · have h := h.1 (hc)
          exact sv_vret hM dX12_waysOfGlobal_121 rfl ⟨rfl, ok162, md165, h⟩
        · have h := h.2 (hc)
          refine sv_aload_n hM dX12_waysOfGlobal_111 rfl rfl ?_
          refine sv_aload_n hM dX12_waysOfGlobal_112 rfl rfl ?_
          have k166 : sv_R (S 1148 0) := sm_okI ok162 sm_r1148 0
          have h := h k166
          refine sv_getI hM dX12_waysOfGlobal_113 sm_fl_1188 (sm_a0 _) sm_k148 rfl (x := (S 1148 0)) rfl ?_
          refine sv_bipush (d := (7 : Int)) hM dX12_waysOfGlobal_116 rfl rfl ?_
          obtain ⟨o167, h⟩ := h
          refine sv_callV hM dX12_waysOfGlobal_118 sm_iv_1292 (by decide) (sm_a0 _) rfl rfl (Nat.le_of_ble_eq_true rfl) sm_h263 (Nat.le_of_ble_eq_true rfl) (Nat.le_of_ble_eq_true rfl) (F' := 8) (Nat.le_of_ble_eq_true rfl) rfl (t_error_ (S 1148 0) (7 : Int) (sv_sts (sv_sts (sv_sts (sv_sts S [68, 69, 70] g95) [68, 69, 70] g101) [68, 69, 70] g155) [68, 69, 70, 81, 82, 83, 84, 85, 86, 71, 74, 75, 1127, 78, 79, 80, 72, 76, 77, 1150] g161) ok162 k166 (⟨by decide, by decide⟩ : sv_R (7 : Int)) o167) (fun v S1 hq => ?_)
          obtain ⟨rfl, ok169, md170, hpo171⟩ := hq
          obtain ⟨g168, rfl⟩ : ∃ g, S1 = sv_sts (sv_sts (sv_sts (sv_sts (sv_sts S [68, 69, 70] g95) [68, 69, 70] g101) [68, 69, 70] g155) [68, 69, 70, 81, 82, 83, 84, 85, 86, 71, 74, 75, 1127, 78, 79, 80, 72, 76, 77, 1150] g161) [68, 69, 70, 81, 82, 83, 84, 85, 86, 71, 74, 75, 1127, 78, 79, 80, 72, 76, 77, 1143, 1144, 5, 1011, 1150, 1149, 1145, 1113, 1111, 1112, 1100031] g := ⟨_, md170.eq⟩
          show sv_T sm_XS sm_cs sm_L sm_sh 9 (q_waysOfGlobal p1 p2 S) 270 121 [(0, .ref 0), (1, sv_I p1), (2, sv_I p2), (3, sv_I r7), (4, sv_I (1 : Int)), (5, sv_I (647740 : Int)), (6, sv_I x106)] [] (sv_sts (sv_sts (sv_sts (sv_sts (sv_sts S [68, 69, 70] g95) [68, 69, 70] g101) [68, 69, 70] g155) [68, 69, 70, 81, 82, 83, 84, 85, 86, 71, 74, 75, 1127, 78, 79, 80, 72, 76, 77, 1150] g161) [68, 69, 70, 81, 82, 83, 84, 85, 86, 71, 74, 75, 1127, 78, 79, 80, 72, 76, 77, 1143, 1144, 5, 1011, 1150, 1149, 1145, 1113, 1111, 1112, 1100031] g168)
          have md172 : sv_mod [68, 69, 70, 81, 82, 83, 84, 85, 86, 71, 74, 75, 1127, 78, 79, 80, 72, 76, 77, 1143, 1144, 5, 1011, 1150, 1149, 1145, 1113, 1111, 1112, 1100031] S (sv_sts (sv_sts (sv_sts (sv_sts (sv_sts S [68, 69, 70] g95) [68, 69, 70] g101) [68, 69, 70] g155) [68, 69, 70, 81, 82, 83, 84, 85, 86, 71, 74, 75, 1127, 78, 79, 80, 72, 76, 77, 1150] g161) [68, 69, 70, 81, 82, 83, 84, 85, 86, 71, 74, 75, 1127, 78, 79, 80, 72, 76, 77, 1143, 1144, 5, 1011, 1150, 1149, 1145, 1113, 1111, 1112, 1100031] g168) := sv_mod.sts md165 (by decide)
          have h := h g168 hpo171
          exact sv_vret hM dX12_waysOfGlobal_121 rfl ⟨rfl, ok169, md172, h⟩
def q_waysOfTest (p1 : Int) (p2 : Int) (p3 : Int) (S : sv_S) : Option Value → sv_S → Prop := fun v S' => v = none ∧ sm_ok S' ∧ sv_mod [68, 69, 70, 81, 82, 83, 84, 85, 86, 71, 74, 75, 1127, 78, 79, 80, 72, 76, 77, 1143, 1144, 5, 1011, 1150, 1149, 1145, 1113, 1111, 1112, 1100031] S S' ∧ (sm_ST (S' 71) (S' 74) (S' 75) (S' 78) (S' 79) (S' 80) (S' 27) (S' 1100007) (S' 1100023) (S' 1100024) (S' 1046 0) ((S' 1046 0) + 2 * (S' 1032 0)) (S' 1127 0) ∧ 465000 ≤ (S' 1127 0) ∧ (S' 1127 0) + sm_hs (S' 71) (S' 1100007) ≤ 635000 ∧ (S' 75 639) = 647340 ∧ (∀ k : Int, (S 71 k) = 1 → (S' 71 k) = 1) ∧ sm_DR (S' 72) (S' 71) (S' 1046 0) ∧ (641 * (sm_cm (S' 71) + sm_pt (S' 68) (S' 69) (S' 70) + sm_pl (S' 81) (S' 82) (S' 83) (S' 84) (S' 85) (S' 86) + sm_ps (S' 76) (S' 77)) + sm_du (S' 72)) ≤ (641 * (sm_cm (S 71) + sm_pt (S 68) (S 69) (S 70) + sm_pl (S 81) (S 82) (S 83) (S 84) (S 85) (S 86) + sm_ps (S 76) (S 77)) + sm_du (S 72)))
theorem la_waysOfTest_0 {x0 : Int} (h0 : 0 ≤ x0) (h1 : x0 < 647800) : 0 ≤ x0 ∧ x0 < 647800 := by omega
theorem la_waysOfTest_1 : (0 : Int) ≤ 639 ∧ (639 : Int) < 640 := by omega
theorem la_waysOfTest_2 {x0 : Int} (h0 : 0 ≤ x0) (h1 : x0 ≤ 400) : sv_R (x0 - 1) := by omega
theorem la_waysOfTest_3 {x0 x1 : Int} (h0 : x0 + 2 * x1 ≤ 500) : x0 + 2 * x1 ≤ 639 := by omega
theorem la_waysOfTest_4 {x0 x1 x2 x3 x4 : Int} : 641 * (x0 + x1 + x2 + x3) + x4 ≤ 641 * (x0 + x1 + x2 + x3) + x4 := by omega
theorem la_waysOfTest_5 {x0 : Int} (h0 : x0 = 0) : x0 ≤ 0 := by omega
theorem la_waysOfTest_6 {x0 : Int} (h0 : x0 ≤ 0) (h1 : ¬ x0 = 0) : x0 < 0 := by omega
theorem la_waysOfTest_7 {x0 : Int} (h0 : ¬ ¬ x0 = 22) : x0 = 22 := by omega
theorem la_waysOfTest_8 : (639 : Int) = 639 := by omega
theorem la_waysOfTest_9 {x0 x1 : Int} (h0 : x0 + 1 < x1) : ¬ x1 ≤ x0 := by omega
theorem la_waysOfTest_10 {x0 x1 : Int} (h0 : x0 + 1 < x1) : ¬ x1 ≤ x0 + 1 := by omega
theorem la_waysOfTest_11 {x0 x1 : Int} (h0 : x0 < x1) : ¬ x1 ≤ x0 := by omega
theorem la_waysOfTest_12 {x0 x1 x2 : Int} (h0 : x0 = x1) (h1 : 1 ≤ x1) (h2 : x2 = x0 - 1) : 0 ≤ x2 := by omega
theorem la_waysOfTest_13 {x0 x1 x2 : Int} (h0 : x0 = x1) (h1 : x1 ≤ 396) (h2 : x2 = x0 - 1) : x2 ≤ 400 := by omega
theorem la_waysOfTest_14 {x0 x1 x2 x3 : Int} (h0 : x0 = x1) (h1 : x2 = x1 - 1) (h2 : x3 = x0 - 1) : x3 = x2 := by omega
theorem la_waysOfTest_15 {x0 x1 x2 : Int} (h0 : x0 = x1) (h1 : x2 = x1) : x2 = x0 := by omega
theorem la_waysOfTest_16 {x0 x1 x2 x3 : Int} (h0 : x0 = x1) (h1 : x2 = x1 + (-1)) (h2 : x3 = x0 - 1) : x3 = x2 := by omega
theorem la_waysOfTest_17 {x0 x1 x2 x3 : Int} (h0 : x0 = x1) (h1 : 1 ≤ x1) (h2 : x2 = x3) (h3 : x3 = x0 - 1) : 0 ≤ x2 := by omega
theorem la_waysOfTest_18 {x0 x1 x2 : Int} (h0 : x0 ≤ 400) (h1 : x1 = x2) (h2 : x2 = x0 - 1) : x1 ≤ 400 := by omega
theorem la_waysOfTest_19 {x0 x1 : Int} (h0 : 0 ≤ x0) (h1 : x1 = x0) : 0 ≤ x1 := by omega
theorem la_waysOfTest_20 {x0 x1 : Int} (h0 : x0 ≤ 40) (h1 : x1 = x0) : x1 ≤ 40 := by omega
theorem la_waysOfTest_21 {x0 x1 x2 : Int} (h0 : x0 = x1) (h1 : x2 = x0) : x2 = x1 := by omega
theorem la_waysOfTest_22 {x0 x1 x2 x3 x4 x5 x6 x7 x8 x9 : Int} (h0 : x0 = x1) (h1 : x2 = x3) (h2 : 0 ≤ x4) (h3 : x4 < x5) (h4 : x6 = x3) (h5 : x7 = x8) (h6 : x8 = x0 - 1) (h7 : x9 = x1 - 1) : 0 ≤ x4 ∧ x4 < x5 ∧ x7 = x9 ∧ x6 = x2 := by omega
theorem la_waysOfTest_23 {x0 x1 x2 x3 x4 x5 x6 x7 x8 x9 x10 x11 x12 x13 x14 : Int} (h0 : 641 * (x0 + x1 + x2 + x3) + x4 ≤ 641 * (x5 + x6 + x7 + x8) + x9) (h1 : 641 * (x10 + x11 + x12 + x13) + x14 ≤ 641 * (x0 + x1 + x2 + x3) + x4) : 641 * (x10 + x11 + x12 + x13) + x14 ≤ 641 * (x5 + x6 + x7 + x8) + x9 := by omega
theorem la_waysOfTest_24 {x0 : Int} (h0 : x0 = 22) : ¬ ¬ x0 = 22 := by omega
theorem la_waysOfTest_25 {x0 : Int} (h0 : x0 = 22) : x0 ≤ 22 := by omega
theorem la_waysOfTest_26 {x0 : Int} (h0 : x0 ≤ 22) (h1 : ¬ x0 = 22) : x0 < 22 := by omega
theorem la_waysOfTest_27 {x0 x1 x2 x3 x4 x5 x6 x7 x8 x9 : Int} (h0 : x0 = x1) (h1 : x2 = x3) (h2 : 0 ≤ x4) (h3 : x4 < x5) (h4 : x6 = x3) (h5 : x7 = x1 - 1) (h6 : x8 = x9) (h7 : x9 = x0 - 1) : 0 ≤ x4 ∧ x4 < x5 ∧ x8 = x7 ∧ x6 = x2 := by omega
theorem la_waysOfTest_28 {x0 x1 x2 x3 x4 x5 x6 x7 : Int} (h0 : x0 = x1) (h1 : x2 = x3) (h2 : 0 ≤ x4) (h3 : x4 < x5) (h4 : x6 = x3) (h5 : x7 = x1) : 0 ≤ x4 ∧ x4 < x5 ∧ x0 = x7 ∧ x6 = x2 := by omega
theorem la_waysOfTest_29 {x0 x1 : Int} (h0 : 0 ≤ x0) (h1 : x0 ≤ 400) (h2 : x1 = x0) : sv_R (x1 - 1) := by omega
theorem la_waysOfTest_30 {x0 : Int} (h0 : ¬ ¬ x0 = 22) : x0 ≤ 22 := by omega
theorem la_waysOfTest_31 {x0 x1 x2 x3 : Int} (h0 : x0 = x1) (h1 : 1 ≤ x1) (h2 : x2 = x0) (h3 : x3 = x2 - 1) : 0 ≤ x3 := by omega
theorem la_waysOfTest_32 {x0 x1 x2 : Int} (h0 : x0 ≤ 400) (h1 : x1 = x0) (h2 : x2 = x1 - 1) : x2 ≤ 400 := by omega
theorem la_waysOfTest_33 {x0 : Int} (h0 : ¬ ¬ x0 = 22) (h1 : x0 < 22) : False := by omega
theorem la_waysOfTest_34 {x0 x1 x2 x3 x4 : Int} (h0 : x0 = x1) (h1 : x2 = x1 + (-1)) (h2 : x3 = x0) (h3 : x4 = x3 - 1) : x4 = x2 := by omega
theorem la_waysOfTest_35 {x0 x1 x2 x3 x4 : Int} (h0 : x0 = x1) (h1 : 1 ≤ x1) (h2 : x2 = x0) (h3 : x3 = x4) (h4 : x4 = x2 - 1) : 0 ≤ x3 := by omega
theorem la_waysOfTest_36 {x0 x1 x2 x3 x4 : Int} (h0 : x0 = x1) (h1 : x1 ≤ 396) (h2 : x2 = x0) (h3 : x3 = x4) (h4 : x4 = x2 - 1) : x3 ≤ 400 := by omega
theorem la_waysOfTest_37 {x0 x1 x2 : Int} (h0 : 0 ≤ x0) (h1 : x1 = x0) (h2 : x2 = x1) : 0 ≤ x2 := by omega
theorem la_waysOfTest_38 {x0 x1 x2 : Int} (h0 : x0 ≤ 40) (h1 : x1 = x0) (h2 : x2 = x1) : x2 ≤ 40 := by omega
theorem la_waysOfTest_39 {x0 x1 x2 x3 : Int} (h0 : x0 = x1) (h1 : x2 = x0) (h2 : x3 = x2) : x3 = x1 := by omega
theorem la_waysOfTest_40 {x0 x1 x2 x3 x4 x5 x6 x7 x8 x9 x10 x11 x12 x13 x14 x15 x16 x17 x18 x19 : Int} (h0 : 641 * (x0 + x1 + x2 + x3) + x4 ≤ 641 * (x5 + x6 + x7 + x8) + x9) (h1 : 641 * (x10 + x11 + x12 + x13) + x14 ≤ 641 * (x0 + x1 + x2 + x3) + x4) (h2 : 641 * (x15 + x16 + x17 + x18) + x19 ≤ 641 * (x10 + x11 + x12 + x13) + x14) : 641 * (x15 + x16 + x17 + x18) + x19 ≤ 641 * (x5 + x6 + x7 + x8) + x9 := by omega
theorem la_waysOfTest_41 {x0 : Int} (h0 : ¬ ¬ x0 = 24) : ¬ x0 = 22 := by omega
set_option maxHeartbeats 2000000 in
theorem f_waysOfTest : ∀ (p1 : Int) (p2 : Int) (p3 : Int) (S : sv_S), sm_ok S → sv_R p1 → sv_R p2 → sv_R p3 → (29 ≤ (S 1071 0) ∧ (S 1071 0) ≤ 127 ∧ 31 ≤ (S 1008 0) ∧ (S 1008 0) ≤ 90 ∧ 1 ≤ (S 1032 0) ∧ (S 1032 0) ≤ 11 ∧ 0 ≤ (S 1055 0) ∧ (S 1055 0) ≤ 19 ∧ (S 1071 0) = 29 + 6 * ((S 1032 0) - 1) + 2 * (S 1055 0) ∧ 0 ≤ (S 1046 0) ∧ (S 1046 0) + 2 * (S 1032 0) ≤ 500 ∧ sm_PD (S 1046 0) (S 1032 0) (S 1071 0) (S 1008 0) ∧ 0 ≤ (S 1071 0) * ((S 1008 0) + 1) ∧ (S 1071 0) * ((S 1008 0) + 1) ≤ 11557 ∧ 31 ≤ (S 1007 0) ∧ (S 1007 0) ≤ 400 ∧ sm_LN (S 4) 400 (S 1007 0) ∧ (S 75 639) = 647340 ∧ sm_ST (S 71) (S 74) (S 75) (S 78) (S 79) (S 80) (S 27) (S 1100007) (S 1100023) (S 1100024) (S 1046 0) ((S 1046 0) + 2 * (S 1032 0)) (S 1127 0) ∧ 465000 ≤ (S 1127 0) ∧ (S 1127 0) + sm_hs (S 71) (S 1100007) ≤ 635000 ∧ sm_NH (S 1100007) ∧ sm_CT (S 26) (S 27) (S 28) (S 29) (S 1100007) (S 1100023) (S 1100024) (S 1100025) (S 21) (S 1046 0) (S 1032 0) (S 1008 0) (S 1055 0) ∧ (∀ k : Int, (S 1046 0) ≤ k → k < ((S 1046 0) + 2 * (S 1032 0)) → (S 1100007 k) = 1) ∧ sm_DR (S 72) (S 71) (S 1046 0) ∧ 0 ≤ (S 74 639) ∧ (S 74 639) ≤ 400 ∧ 0 ≤ (S 78 639) ∧ (S 78 639) ≤ 40 ∧ (S 78 639) = sm_dp (S 1100024) (S 1100031 0) ∧ -1 ≤ (S 1100031 0) ∧ (S 1100031 0) < (S 1046 0) ∧ (0 ≤ (S 1100031 0) → (S 26 (S 1100031 0)) = 27) ∧ sm_TC (S 79) (S 80) (S 27) (S 1100007) (S 1100023) (S 1100024) 25560 (S 1100031 0) ∧ 0 ≤ (S 1148 0) ∧ (S 1148 0) < (S 1046 0) ∧ (S 71 (S 1148 0)) = 1 ∧ (S 74 639) = (S 1100007 (S 1148 0)) ∧ (S 1100031 0) = (S 1100023 (S 1148 0)) ∧ 0 ≤ p3 ∧ p3 < 647800 ∧ 1 ≤ (S 1100007 (S 1148 0)) ∧ (S 1148 0) + 1 < (S 1046 0) ∧ (S 1100007 ((S 1148 0) + 1)) = (S 1100007 (S 1148 0)) + (-1) ∧ (S 1100023 ((S 1148 0) + 1)) = (S 1100023 (S 1148 0)) ∧ 0 ≤ p2 ∧ p2 < (S 1046 0) ∧ (S 1100023 p2) = (S 1100023 (S 1148 0)) ∧ (p1 = 22 → (S 1100007 p2) = (S 1100007 (S 1148 0)) - 1) ∧ (¬ p1 = 22 → (S 1100007 p2) = (S 1100007 (S 1148 0)))) → ((sm_CT (S 26) (S 27) (S 28) (S 29) (S 1100007) (S 1100023) (S 1100024) (S 1100025) (S 21) (S 1046 0) (S 1032 0) (S 1008 0) (S 1055 0) → 0 ≤ (S 1148 0) → (S 1148 0) < (S 1046 0) → 0 ≤ (S 1100007 (S 1148 0)) ∧ (S 1100007 (S 1148 0)) ≤ 396 ∧ -1 ≤ (S 1100023 (S 1148 0)) ∧ (S 1100023 (S 1148 0)) < (S 1148 0)) → (0 ≤ p3 ∧ p3 < 647800) ∧ (∀ r7 : Int, sv_R r7 → (r7 = 0 ∨ r7 = 1) → (∀ r12 : Int, sv_R r12 → (r12 = 0 ∨ r12 = 1) → ((∀ s13 : Int, sv_R s13 → (True) → ((∀ s15 : Int, sv_R s15 → (True) → (((s15 = (0 : Int)) → (0 ≤ (639 : Int) ∧ (639 : Int) < 640) ∧ (sv_R (S 74 (639 : Int)) → (sv_R ((S 74 (639 : Int)) - (1 : Int))) ∧ (((s13 = (0 : Int)) → (((s15 = (0 : Int)) → (sm_ST (S 71) (fun i' : Int => if i' = (639 : Int) then ((S 74 (639 : Int)) - (1 : Int)) else (S 74) i') (S 75) (S 78) (S 79) (S 80) (S 27) (S 1100007) (S 1100023) (S 1100024) (S 1046 0) ((S 1046 0) + 2 * (S 1032 0)) (S 1127 0) ∧ 465000 ≤ (S 1127 0) ∧ (S 1127 0) + sm_hs (S 71) (S 1100007) ≤ 635000 ∧ (S 75 639) = 647340 ∧ (∀ k : Int, (S 71 k) = 1 → (S 71 k) = 1) ∧ sm_DR (S 72) (S 71) (S 1046 0) ∧ (641 * (sm_cm (S 71) + sm_pt (S 68) (S 69) (S 70) + sm_pl (S 81) (S 82) (S 83) (S 84) (S 85) (S 86) + sm_ps (S 76) (S 77)) + sm_du (S 72)) ≤ (641 * (sm_cm (S 71) + sm_pt (S 68) (S 69) (S 70) + sm_pl (S 81) (S 82) (S 83) (S 84) (S 85) (S 86) + sm_ps (S 76) (S 77)) + sm_du (S 72)))) ∧ ((¬ (s15 = (0 : Int))) → (((¬ p1 = (22 : Int)) → (sm_ST (S 71) (fun i' : Int => if i' = (639 : Int) then ((S 74 (639 : Int)) - (1 : Int)) else (S 74) i') (S 75) (S 78) (S 79) (S 80) (S 27) (S 1100007) (S 1100023) (S 1100024) (S 1046 0) ((S 1046 0) + 2 * (S 1032 0)) (S 1127 0) ∧ 465000 ≤ (S 1127 0) ∧ (S 1127 0) + sm_hs (S 71) (S 1100007) ≤ 635000 ∧ (S 75 639) = 647340 ∧ (∀ k : Int, (S 71 k) = 1 → (S 71 k) = 1) ∧ sm_DR (S 72) (S 71) (S 1046 0) ∧ (641 * (sm_cm (S 71) + sm_pt (S 68) (S 69) (S 70) + sm_pl (S 81) (S 82) (S 83) (S 84) (S 85) (S 86) + sm_ps (S 76) (S 77)) + sm_du (S 72)) ≤ (641 * (sm_cm (S 71) + sm_pt (S 68) (S 69) (S 70) + sm_pl (S 81) (S 82) (S 83) (S 84) (S 85) (S 86) + sm_ps (S 76) (S 77)) + sm_du (S 72)))) ∧ ((¬ (¬ p1 = (22 : Int))) → (29 ≤ (S 1071 0) ∧ (S 1071 0) ≤ 127 ∧ 31 ≤ (S 1008 0) ∧ (S 1008 0) ≤ 90 ∧ 1 ≤ (S 1032 0) ∧ (S 1032 0) ≤ 11 ∧ 0 ≤ (S 1055 0) ∧ (S 1055 0) ≤ 19 ∧ (S 1071 0) = 29 + 6 * ((S 1032 0) - 1) + 2 * (S 1055 0) ∧ 0 ≤ (S 1046 0) ∧ (S 1046 0) + 2 * (S 1032 0) ≤ 500 ∧ sm_PD (S 1046 0) (S 1032 0) (S 1071 0) (S 1008 0) ∧ 0 ≤ (S 1071 0) * ((S 1008 0) + 1) ∧ (S 1071 0) * ((S 1008 0) + 1) ≤ 11557 ∧ 31 ≤ (S 1007 0) ∧ (S 1007 0) ≤ 400 ∧ sm_LN (S 4) 400 (S 1007 0) ∧ (S 75 639) = 647340 ∧ sm_ST (S 71) (fun i' : Int => if i' = (639 : Int) then ((S 74 (639 : Int)) - (1 : Int)) else (S 74) i') (S 75) (S 78) (S 79) (S 80) (S 27) (S 1100007) (S 1100023) (S 1100024) (S 1046 0) ((S 1046 0) + 2 * (S 1032 0)) (S 1127 0) ∧ 465000 ≤ (S 1127 0) ∧ (S 1127 0) + sm_hs (S 71) (S 1100007) ≤ 635000 ∧ sm_NH (S 1100007) ∧ sm_CT (S 26) (S 27) (S 28) (S 29) (S 1100007) (S 1100023) (S 1100024) (S 1100025) (S 21) (S 1046 0) (S 1032 0) (S 1008 0) (S 1055 0) ∧ (∀ k : Int, (S 1046 0) ≤ k → k < ((S 1046 0) + 2 * (S 1032 0)) → (S 1100007 k) = 1) ∧ sm_DR (S 72) (S 71) (S 1046 0) ∧ 0 ≤ (if 639 = (639 : Int) then ((S 74 (639 : Int)) - (1 : Int)) else (S 74 639)) ∧ (if 639 = (639 : Int) then ((S 74 (639 : Int)) - (1 : Int)) else (S 74 639)) ≤ 400 ∧ 0 ≤ (S 78 639) ∧ (S 78 639) ≤ 40 ∧ (S 78 639) = sm_dp (S 1100024) (S 1100031 0) ∧ -1 ≤ (S 1100031 0) ∧ (S 1100031 0) < (S 1046 0) ∧ (0 ≤ (S 1100031 0) → (S 26 (S 1100031 0)) = 27) ∧ sm_TC (S 79) (S 80) (S 27) (S 1100007) (S 1100023) (S 1100024) 25560 (S 1100031 0) ∧ 0 ≤ p2 ∧ p2 < (S 1046 0) ∧ (if 639 = (639 : Int) then ((S 74 (639 : Int)) - (1 : Int)) else (S 74 639)) = (S 1100007 p2) ∧ (S 1100023 p2) = (S 1100031 0)) ∧ (∀ g23 : sv_S, (sm_ST (g23 71) (g23 74) (g23 75) (g23 78) (g23 79) (g23 80) (S 27) (S 1100007) (S 1100023) (S 1100024) (S 1046 0) ((S 1046 0) + 2 * (S 1032 0)) (g23 1127 0) ∧ 465000 ≤ (g23 1127 0) ∧ (g23 1127 0) + sm_hs (g23 71) (S 1100007) ≤ 635000 ∧ (g23 75 639) = 647340 ∧ (g23 74 639) = (if 639 = (639 : Int) then ((S 74 (639 : Int)) - (1 : Int)) else (S 74 639)) ∧ (g23 78 639) = (S 78 639) ∧ sm_TC (g23 79) (g23 80) (S 27) (S 1100007) (S 1100023) (S 1100024) 25560 (S 1100031 0) ∧ (∀ k : Int, (S 71 k) = 1 → (g23 71 k) = 1) ∧ sm_DR (g23 72) (g23 71) (S 1046 0) ∧ (641 * (sm_cm (g23 71) + sm_pt (g23 68) (g23 69) (g23 70) + sm_pl (g23 81) (g23 82) (g23 83) (g23 84) (g23 85) (g23 86) + sm_ps (g23 76) (g23 77)) + sm_du (g23 72)) ≤ (641 * (sm_cm (S 71) + sm_pt (S 68) (S 69) (S 70) + sm_pl (S 81) (S 82) (S 83) (S 84) (S 85) (S 86) + sm_ps (S 76) (S 77)) + sm_du (S 72))) → (sm_ST (g23 71) (g23 74) (g23 75) (g23 78) (g23 79) (g23 80) (S 27) (S 1100007) (S 1100023) (S 1100024) (S 1046 0) ((S 1046 0) + 2 * (S 1032 0)) (g23 1127 0) ∧ 465000 ≤ (g23 1127 0) ∧ (g23 1127 0) + sm_hs (g23 71) (S 1100007) ≤ 635000 ∧ (g23 75 639) = 647340 ∧ (∀ k : Int, (S 71 k) = 1 → (g23 71 k) = 1) ∧ sm_DR (g23 72) (g23 71) (S 1046 0) ∧ (641 * (sm_cm (g23 71) + sm_pt (g23 68) (g23 69) (g23 70) + sm_pl (g23 81) (g23 82) (g23 83) (g23 84) (g23 85) (g23 86) + sm_ps (g23 76) (g23 77)) + sm_du (g23 72)) ≤ (641 * (sm_cm (S 71) + sm_pt (S 68) (S 69) (S 70) + sm_pl (S 81) (S 82) (S 83) (S 84) (S 85) (S 86) + sm_ps (S 76) (S 77)) + sm_du (S 72))))))))) ∧ ((¬ (s13 = (0 : Int))) → (29 ≤ (S 1071 0) ∧ (S 1071 0) ≤ 127 ∧ 31 ≤ (S 1008 0) ∧ (S 1008 0) ≤ 90 ∧ 1 ≤ (S 1032 0) ∧ (S 1032 0) ≤ 11 ∧ 0 ≤ (S 1055 0) ∧ (S 1055 0) ≤ 19 ∧ (S 1071 0) = 29 + 6 * ((S 1032 0) - 1) + 2 * (S 1055 0) ∧ 0 ≤ (S 1046 0) ∧ (S 1046 0) + 2 * (S 1032 0) ≤ 500 ∧ sm_PD (S 1046 0) (S 1032 0) (S 1071 0) (S 1008 0) ∧ 0 ≤ (S 1071 0) * ((S 1008 0) + 1) ∧ (S 1071 0) * ((S 1008 0) + 1) ≤ 11557 ∧ 31 ≤ (S 1007 0) ∧ (S 1007 0) ≤ 400 ∧ sm_LN (S 4) 400 (S 1007 0) ∧ (S 75 639) = 647340 ∧ sm_ST (S 71) (fun i' : Int => if i' = (639 : Int) then ((S 74 (639 : Int)) - (1 : Int)) else (S 74) i') (S 75) (S 78) (S 79) (S 80) (S 27) (S 1100007) (S 1100023) (S 1100024) (S 1046 0) ((S 1046 0) + 2 * (S 1032 0)) (S 1127 0) ∧ 465000 ≤ (S 1127 0) ∧ (S 1127 0) + sm_hs (S 71) (S 1100007) ≤ 635000 ∧ sm_NH (S 1100007) ∧ sm_CT (S 26) (S 27) (S 28) (S 29) (S 1100007) (S 1100023) (S 1100024) (S 1100025) (S 21) (S 1046 0) (S 1032 0) (S 1008 0) (S 1055 0) ∧ (∀ k : Int, (S 1046 0) ≤ k → k < ((S 1046 0) + 2 * (S 1032 0)) → (S 1100007 k) = 1) ∧ sm_DR (S 72) (S 71) (S 1046 0) ∧ 0 ≤ (if 639 = (639 : Int) then ((S 74 (639 : Int)) - (1 : Int)) else (S 74 639)) ∧ (if 639 = (639 : Int) then ((S 74 (639 : Int)) - (1 : Int)) else (S 74 639)) ≤ 400 ∧ 0 ≤ (S 78 639) ∧ (S 78 639) ≤ 40 ∧ (S 78 639) = sm_dp (S 1100024) (S 1100031 0) ∧ -1 ≤ (S 1100031 0) ∧ (S 1100031 0) < (S 1046 0) ∧ (0 ≤ (S 1100031 0) → (S 26 (S 1100031 0)) = 27) ∧ sm_TC (S 79) (S 80) (S 27) (S 1100007) (S 1100023) (S 1100024) 25560 (S 1100031 0) ∧ 0 ≤ (S 1148 0) ∧ (S 1148 0) + 1 < (S 1046 0) ∧ (if 639 = (639 : Int) then ((S 74 (639 : Int)) - (1 : Int)) else (S 74 639)) = (S 1100007 ((S 1148 0) + 1)) ∧ (S 1100023 ((S 1148 0) + 1)) = (S 1100031 0)) ∧ (∀ g29 : sv_S, (sm_ST (g29 71) (g29 74) (g29 75) (g29 78) (g29 79) (g29 80) (S 27) (S 1100007) (S 1100023) (S 1100024) (S 1046 0) ((S 1046 0) + 2 * (S 1032 0)) (g29 1127 0) ∧ 465000 ≤ (g29 1127 0) ∧ (g29 1127 0) + sm_hs (g29 71) (S 1100007) ≤ 635000 ∧ (g29 75 639) = 647340 ∧ (g29 74 639) = (if 639 = (639 : Int) then ((S 74 (639 : Int)) - (1 : Int)) else (S 74 639)) ∧ (g29 78 639) = (S 78 639) ∧ sm_TC (g29 79) (g29 80) (S 27) (S 1100007) (S 1100023) (S 1100024) 25560 (S 1100031 0) ∧ (∀ k : Int, (S 71 k) = 1 → (g29 71 k) = 1) ∧ sm_DR (g29 72) (g29 71) (S 1046 0) ∧ (641 * (sm_cm (g29 71) + sm_pt (g29 68) (g29 69) (g29 70) + sm_pl (g29 81) (g29 82) (g29 83) (g29 84) (g29 85) (g29 86) + sm_ps (g29 76) (g29 77)) + sm_du (g29 72)) ≤ (641 * (sm_cm (S 71) + sm_pt (S 68) (S 69) (S 70) + sm_pl (S 81) (S 82) (S 83) (S 84) (S 85) (S 86) + sm_ps (S 76) (S 77)) + sm_du (S 72))) → (((s15 = (0 : Int)) → (sm_ST (g29 71) (g29 74) (g29 75) (g29 78) (g29 79) (g29 80) (S 27) (S 1100007) (S 1100023) (S 1100024) (S 1046 0) ((S 1046 0) + 2 * (S 1032 0)) (g29 1127 0) ∧ 465000 ≤ (g29 1127 0) ∧ (g29 1127 0) + sm_hs (g29 71) (S 1100007) ≤ 635000 ∧ (g29 75 639) = 647340 ∧ (∀ k : Int, (S 71 k) = 1 → (g29 71 k) = 1) ∧ sm_DR (g29 72) (g29 71) (S 1046 0) ∧ (641 * (sm_cm (g29 71) + sm_pt (g29 68) (g29 69) (g29 70) + sm_pl (g29 81) (g29 82) (g29 83) (g29 84) (g29 85) (g29 86) + sm_ps (g29 76) (g29 77)) + sm_du (g29 72)) ≤ (641 * (sm_cm (S 71) + sm_pt (S 68) (S 69) (S 70) + sm_pl (S 81) (S 82) (S 83) (S 84) (S 85) (S 86) + sm_ps (S 76) (S 77)) + sm_du (S 72)))) ∧ ((¬ (s15 = (0 : Int))) → (((¬ p1 = (22 : Int)) → (sm_ST (g29 71) (g29 74) (g29 75) (g29 78) (g29 79) (g29 80) (S 27) (S 1100007) (S 1100023) (S 1100024) (S 1046 0) ((S 1046 0) + 2 * (S 1032 0)) (g29 1127 0) ∧ 465000 ≤ (g29 1127 0) ∧ (g29 1127 0) + sm_hs (g29 71) (S 1100007) ≤ 635000 ∧ (g29 75 639) = 647340 ∧ (∀ k : Int, (S 71 k) = 1 → (g29 71 k) = 1) ∧ sm_DR (g29 72) (g29 71) (S 1046 0) ∧ (641 * (sm_cm (g29 71) + sm_pt (g29 68) (g29 69) (g29 70) + sm_pl (g29 81) (g29 82) (g29 83) (g29 84) (g29 85) (g29 86) + sm_ps (g29 76) (g29 77)) + sm_du (g29 72)) ≤ (641 * (sm_cm (S 71) + sm_pt (S 68) (S 69) (S 70) + sm_pl (S 81) (S 82) (S 83) (S 84) (S 85) (S 86) + sm_ps (S 76) (S 77)) + sm_du (S 72)))) ∧ ((¬ (¬ p1 = (22 : Int))) → (29 ≤ (S 1071 0) ∧ (S 1071 0) ≤ 127 ∧ 31 ≤ (S 1008 0) ∧ (S 1008 0) ≤ 90 ∧ 1 ≤ (S 1032 0) ∧ (S 1032 0) ≤ 11 ∧ 0 ≤ (S 1055 0) ∧ (S 1055 0) ≤ 19 ∧ (S 1071 0) = 29 + 6 * ((S 1032 0) - 1) + 2 * (S 1055 0) ∧ 0 ≤ (S 1046 0) ∧ (S 1046 0) + 2 * (S 1032 0) ≤ 500 ∧ sm_PD (S 1046 0) (S 1032 0) (S 1071 0) (S 1008 0) ∧ 0 ≤ (S 1071 0) * ((S 1008 0) + 1) ∧ (S 1071 0) * ((S 1008 0) + 1) ≤ 11557 ∧ 31 ≤ (S 1007 0) ∧ (S 1007 0) ≤ 400 ∧ sm_LN (S 4) 400 (S 1007 0) ∧ (g29 75 639) = 647340 ∧ sm_ST (g29 71) (g29 74) (g29 75) (g29 78) (g29 79) (g29 80) (S 27) (S 1100007) (S 1100023) (S 1100024) (S 1046 0) ((S 1046 0) + 2 * (S 1032 0)) (g29 1127 0) ∧ 465000 ≤ (g29 1127 0) ∧ (g29 1127 0) + sm_hs (g29 71) (S 1100007) ≤ 635000 ∧ sm_NH (S 1100007) ∧ sm_CT (S 26) (S 27) (S 28) (S 29) (S 1100007) (S 1100023) (S 1100024) (S 1100025) (S 21) (S 1046 0) (S 1032 0) (S 1008 0) (S 1055 0) ∧ (∀ k : Int, (S 1046 0) ≤ k → k < ((S 1046 0) + 2 * (S 1032 0)) → (S 1100007 k) = 1) ∧ sm_DR (g29 72) (g29 71) (S 1046 0) ∧ 0 ≤ (g29 74 639) ∧ (g29 74 639) ≤ 400 ∧ 0 ≤ (g29 78 639) ∧ (g29 78 639) ≤ 40 ∧ (g29 78 639) = sm_dp (S 1100024) (S 1100031 0) ∧ -1 ≤ (S 1100031 0) ∧ (S 1100031 0) < (S 1046 0) ∧ (0 ≤ (S 1100031 0) → (S 26 (S 1100031 0)) = 27) ∧ sm_TC (g29 79) (g29 80) (S 27) (S 1100007) (S 1100023) (S 1100024) 25560 (S 1100031 0) ∧ 0 ≤ p2 ∧ p2 < (S 1046 0) ∧ (g29 74 639) = (S 1100007 p2) ∧ (S 1100023 p2) = (S 1100031 0)) ∧ (∀ g35 : sv_S, (sm_ST (g35 71) (g35 74) (g35 75) (g35 78) (g35 79) (g35 80) (S 27) (S 1100007) (S 1100023) (S 1100024) (S 1046 0) ((S 1046 0) + 2 * (S 1032 0)) (g35 1127 0) ∧ 465000 ≤ (g35 1127 0) ∧ (g35 1127 0) + sm_hs (g35 71) (S 1100007) ≤ 635000 ∧ (g35 75 639) = 647340 ∧ (g35 74 639) = (g29 74 639) ∧ (g35 78 639) = (g29 78 639) ∧ sm_TC (g35 79) (g35 80) (S 27) (S 1100007) (S 1100023) (S 1100024) 25560 (S 1100031 0) ∧ (∀ k : Int, (g29 71 k) = 1 → (g35 71 k) = 1) ∧ sm_DR (g35 72) (g35 71) (S 1046 0) ∧ (641 * (sm_cm (g35 71) + sm_pt (g35 68) (g35 69) (g35 70) + sm_pl (g35 81) (g35 82) (g35 83) (g35 84) (g35 85) (g35 86) + sm_ps (g35 76) (g35 77)) + sm_du (g35 72)) ≤ (641 * (sm_cm (g29 71) + sm_pt (g29 68) (g29 69) (g29 70) + sm_pl (g29 81) (g29 82) (g29 83) (g29 84) (g29 85) (g29 86) + sm_ps (g29 76) (g29 77)) + sm_du (g29 72))) → (sm_ST (g35 71) (g35 74) (g35 75) (g35 78) (g35 79) (g35 80) (S 27) (S 1100007) (S 1100023) (S 1100024) (S 1046 0) ((S 1046 0) + 2 * (S 1032 0)) (g35 1127 0) ∧ 465000 ≤ (g35 1127 0) ∧ (g35 1127 0) + sm_hs (g35 71) (S 1100007) ≤ 635000 ∧ (g35 75 639) = 647340 ∧ (∀ k : Int, (S 71 k) = 1 → (g35 71 k) = 1) ∧ sm_DR (g35 72) (g35 71) (S 1046 0) ∧ (641 * (sm_cm (g35 71) + sm_pt (g35 68) (g35 69) (g35 70) + sm_pl (g35 81) (g35 82) (g35 83) (g35 84) (g35 85) (g35 86) + sm_ps (g35 76) (g35 77)) + sm_du (g35 72)) ≤ (641 * (sm_cm (S 71) + sm_pt (S 68) (S 69) (S 70) + sm_pl (S 81) (S 82) (S 83) (S 84) (S 85) (S 86) + sm_ps (S 76) (S 77)) + sm_du (S 72))))))))))))) ∧ ((¬ (s15 = (0 : Int))) → (((p1 = (22 : Int)) → (0 ≤ (639 : Int) ∧ (639 : Int) < 640) ∧ (sv_R (S 74 (639 : Int)) → (sv_R ((S 74 (639 : Int)) - (1 : Int))) ∧ (((s13 = (0 : Int)) → (((s15 = (0 : Int)) → (sm_ST (S 71) (fun i' : Int => if i' = (639 : Int) then ((S 74 (639 : Int)) - (1 : Int)) else (S 74) i') (S 75) (S 78) (S 79) (S 80) (S 27) (S 1100007) (S 1100023) (S 1100024) (S 1046 0) ((S 1046 0) + 2 * (S 1032 0)) (S 1127 0) ∧ 465000 ≤ (S 1127 0) ∧ (S 1127 0) + sm_hs (S 71) (S 1100007) ≤ 635000 ∧ (S 75 639) = 647340 ∧ (∀ k : Int, (S 71 k) = 1 → (S 71 k) = 1) ∧ sm_DR (S 72) (S 71) (S 1046 0) ∧ (641 * (sm_cm (S 71) + sm_pt (S 68) (S 69) (S 70) + sm_pl (S 81) (S 82) (S 83) (S 84) (S 85) (S 86) + sm_ps (S 76) (S 77)) + sm_du (S 72)) ≤ (641 * (sm_cm (S 71) + sm_pt (S 68) (S 69) (S 70) + sm_pl (S 81) (S 82) (S 83) (S 84) (S 85) (S 86) + sm_ps (S 76) (S 77)) + sm_du (S 72)))) ∧ ((¬ (s15 = (0 : Int))) → (((¬ p1 = (22 : Int)) → (sm_ST (S 71) (fun i' : Int => if i' = (639 : Int) then ((S 74 (639 : Int)) - (1 : Int)) else (S 74) i') (S 75) (S 78) (S 79) (S 80) (S 27) (S 1100007) (S 1100023) (S 1100024) (S 1046 0) ((S 1046 0) + 2 * (S 1032 0)) (S 1127 0) ∧ 465000 ≤ (S 1127 0) ∧ (S 1127 0) + sm_hs (S 71) (S 1100007) ≤ 635000 ∧ (S 75 639) = 647340 ∧ (∀ k : Int, (S 71 k) = 1 → (S 71 k) = 1) ∧ sm_DR (S 72) (S 71) (S 1046 0) ∧ (641 * (sm_cm (S 71) + sm_pt (S 68) (S 69) (S 70) + sm_pl (S 81) (S 82) (S 83) (S 84) (S 85) (S 86) + sm_ps (S 76) (S 77)) + sm_du (S 72)) ≤ (641 * (sm_cm (S 71) + sm_pt (S 68) (S 69) (S 70) + sm_pl (S 81) (S 82) (S 83) (S 84) (S 85) (S 86) + sm_ps (S 76) (S 77)) + sm_du (S 72)))) ∧ ((¬ (¬ p1 = (22 : Int))) → (29 ≤ (S 1071 0) ∧ (S 1071 0) ≤ 127 ∧ 31 ≤ (S 1008 0) ∧ (S 1008 0) ≤ 90 ∧ 1 ≤ (S 1032 0) ∧ (S 1032 0) ≤ 11 ∧ 0 ≤ (S 1055 0) ∧ (S 1055 0) ≤ 19 ∧ (S 1071 0) = 29 + 6 * ((S 1032 0) - 1) + 2 * (S 1055 0) ∧ 0 ≤ (S 1046 0) ∧ (S 1046 0) + 2 * (S 1032 0) ≤ 500 ∧ sm_PD (S 1046 0) (S 1032 0) (S 1071 0) (S 1008 0) ∧ 0 ≤ (S 1071 0) * ((S 1008 0) + 1) ∧ (S 1071 0) * ((S 1008 0) + 1) ≤ 11557 ∧ 31 ≤ (S 1007 0) ∧ (S 1007 0) ≤ 400 ∧ sm_LN (S 4) 400 (S 1007 0) ∧ (S 75 639) = 647340 ∧ sm_ST (S 71) (fun i' : Int => if i' = (639 : Int) then ((S 74 (639 : Int)) - (1 : Int)) else (S 74) i') (S 75) (S 78) (S 79) (S 80) (S 27) (S 1100007) (S 1100023) (S 1100024) (S 1046 0) ((S 1046 0) + 2 * (S 1032 0)) (S 1127 0) ∧ 465000 ≤ (S 1127 0) ∧ (S 1127 0) + sm_hs (S 71) (S 1100007) ≤ 635000 ∧ sm_NH (S 1100007) ∧ sm_CT (S 26) (S 27) (S 28) (S 29) (S 1100007) (S 1100023) (S 1100024) (S 1100025) (S 21) (S 1046 0) (S 1032 0) (S 1008 0) (S 1055 0) ∧ (∀ k : Int, (S 1046 0) ≤ k → k < ((S 1046 0) + 2 * (S 1032 0)) → (S 1100007 k) = 1) ∧ sm_DR (S 72) (S 71) (S 1046 0) ∧ 0 ≤ (if 639 = (639 : Int) then ((S 74 (639 : Int)) - (1 : Int)) else (S 74 639)) ∧ (if 639 = (639 : Int) then ((S 74 (639 : Int)) - (1 : Int)) else (S 74 639)) ≤ 400 ∧ 0 ≤ (S 78 639) ∧ (S 78 639) ≤ 40 ∧ (S 78 639) = sm_dp (S 1100024) (S 1100031 0) ∧ -1 ≤ (S 1100031 0) ∧ (S 1100031 0) < (S 1046 0) ∧ (0 ≤ (S 1100031 0) → (S 26 (S 1100031 0)) = 27) ∧ sm_TC (S 79) (S 80) (S 27) (S 1100007) (S 1100023) (S 1100024) 25560 (S 1100031 0) ∧ 0 ≤ p2 ∧ p2 < (S 1046 0) ∧ (if 639 = (639 : Int) then ((S 74 (639 : Int)) - (1 : Int)) else (S 74 639)) = (S 1100007 p2) ∧ (S 1100023 p2) = (S 1100031 0)) ∧ (∀ g46 : sv_S, (sm_ST (g46 71) (g46 74) (g46 75) (g46 78) (g46 79) (g46 80) (S 27) (S 1100007) (S 1100023) (S 1100024) (S 1046 0) ((S 1046 0) + 2 * (S 1032 0)) (g46 1127 0) ∧ 465000 ≤ (g46 1127 0) ∧ (g46 1127 0) + sm_hs (g46 71) (S 1100007) ≤ 635000 ∧ (g46 75 639) = 647340 ∧ (g46 74 639) = (if 639 = (639 : Int) then ((S 74 (639 : Int)) - (1 : Int)) else (S 74 639)) ∧ (g46 78 639) = (S 78 639) ∧ sm_TC (g46 79) (g46 80) (S 27) (S 1100007) (S 1100023) (S 1100024) 25560 (S 1100031 0) ∧ (∀ k : Int, (S 71 k) = 1 → (g46 71 k) = 1) ∧ sm_DR (g46 72) (g46 71) (S 1046 0) ∧ (641 * (sm_cm (g46 71) + sm_pt (g46 68) (g46 69) (g46 70) + sm_pl (g46 81) (g46 82) (g46 83) (g46 84) (g46 85) (g46 86) + sm_ps (g46 76) (g46 77)) + sm_du (g46 72)) ≤ (641 * (sm_cm (S 71) + sm_pt (S 68) (S 69) (S 70) + sm_pl (S 81) (S 82) (S 83) (S 84) (S 85) (S 86) + sm_ps (S 76) (S 77)) + sm_du (S 72))) → (sm_ST (g46 71) (g46 74) (g46 75) (g46 78) (g46 79) (g46 80) (S 27) (S 1100007) (S 1100023) (S 1100024) (S 1046 0) ((S 1046 0) + 2 * (S 1032 0)) (g46 1127 0) ∧ 465000 ≤ (g46 1127 0) ∧ (g46 1127 0) + sm_hs (g46 71) (S 1100007) ≤ 635000 ∧ (g46 75 639) = 647340 ∧ (∀ k : Int, (S 71 k) = 1 → (g46 71 k) = 1) ∧ sm_DR (g46 72) (g46 71) (S 1046 0) ∧ (641 * (sm_cm (g46 71) + sm_pt (g46 68) (g46 69) (g46 70) + sm_pl (g46 81) (g46 82) (g46 83) (g46 84) (g46 85) (g46 86) + sm_ps (g46 76) (g46 77)) + sm_du (g46 72)) ≤ (641 * (sm_cm (S 71) + sm_pt (S 68) (S 69) (S 70) + sm_pl (S 81) (S 82) (S 83) (S 84) (S 85) (S 86) + sm_ps (S 76) (S 77)) + sm_du (S 72))))))))) ∧ ((¬ (s13 = (0 : Int))) → (29 ≤ (S 1071 0) ∧ (S 1071 0) ≤ 127 ∧ 31 ≤ (S 1008 0) ∧ (S 1008 0) ≤ 90 ∧ 1 ≤ (S 1032 0) ∧ (S 1032 0) ≤ 11 ∧ 0 ≤ (S 1055 0) ∧ (S 1055 0) ≤ 19 ∧ (S 1071 0) = 29 + 6 * ((S 1032 0) - 1) + 2 * (S 1055 0) ∧ 0 ≤ (S 1046 0) ∧ (S 1046 0) + 2 * (S 1032 0) ≤ 500 ∧ sm_PD (S 1046 0) (S 1032 0) (S 1071 0) (S 1008 0) ∧ 0 ≤ (S 1071 0) * ((S 1008 0) + 1) ∧ (S 1071 0) * ((S 1008 0) + 1) ≤ 11557 ∧ 31 ≤ (S 1007 0) ∧ (S 1007 0) ≤ 400 ∧ sm_LN (S 4) 400 (S 1007 0) ∧ (S 75 639) = 647340 ∧ sm_ST (S 71) (fun i' : Int => if i' = (639 : Int) then ((S 74 (639 : Int)) - (1 : Int)) else (S 74) i') (S 75) (S 78) (S 79) (S 80) (S 27) (S 1100007) (S 1100023) (S 1100024) (S 1046 0) ((S 1046 0) + 2 * (S 1032 0)) (S 1127 0) ∧ 465000 ≤ (S 1127 0) ∧ (S 1127 0) + sm_hs (S 71) (S 1100007) ≤ 635000 ∧ sm_NH (S 1100007) ∧ sm_CT (S 26) (S 27) (S 28) (S 29) (S 1100007) (S 1100023) (S 1100024) (S 1100025) (S 21) (S 1046 0) (S 1032 0) (S 1008 0) (S 1055 0) ∧ (∀ k : Int, (S 1046 0) ≤ k → k < ((S 1046 0) + 2 * (S 1032 0)) → (S 1100007 k) = 1) ∧ sm_DR (S 72) (S 71) (S 1046 0) ∧ 0 ≤ (if 639 = (639 : Int) then ((S 74 (639 : Int)) - (1 : Int)) else (S 74 639)) ∧ (if 639 = (639 : Int) then ((S 74 (639 : Int)) - (1 : Int)) else (S 74 639)) ≤ 400 ∧ 0 ≤ (S 78 639) ∧ (S 78 639) ≤ 40 ∧ (S 78 639) = sm_dp (S 1100024) (S 1100031 0) ∧ -1 ≤ (S 1100031 0) ∧ (S 1100031 0) < (S 1046 0) ∧ (0 ≤ (S 1100031 0) → (S 26 (S 1100031 0)) = 27) ∧ sm_TC (S 79) (S 80) (S 27) (S 1100007) (S 1100023) (S 1100024) 25560 (S 1100031 0) ∧ 0 ≤ (S 1148 0) ∧ (S 1148 0) + 1 < (S 1046 0) ∧ (if 639 = (639 : Int) then ((S 74 (639 : Int)) - (1 : Int)) else (S 74 639)) = (S 1100007 ((S 1148 0) + 1)) ∧ (S 1100023 ((S 1148 0) + 1)) = (S 1100031 0)) ∧ (∀ g52 : sv_S, (sm_ST (g52 71) (g52 74) (g52 75) (g52 78) (g52 79) (g52 80) (S 27) (S 1100007) (S 1100023) (S 1100024) (S 1046 0) ((S 1046 0) + 2 * (S 1032 0)) (g52 1127 0) ∧ 465000 ≤ (g52 1127 0) ∧ (g52 1127 0) + sm_hs (g52 71) (S 1100007) ≤ 635000 ∧ (g52 75 639) = 647340 ∧ (g52 74 639) = (if 639 = (639 : Int) then ((S 74 (639 : Int)) - (1 : Int)) else (S 74 639)) ∧ (g52 78 639) = (S 78 639) ∧ sm_TC (g52 79) (g52 80) (S 27) (S 1100007) (S 1100023) (S 1100024) 25560 (S 1100031 0) ∧ (∀ k : Int, (S 71 k) = 1 → (g52 71 k) = 1) ∧ sm_DR (g52 72) (g52 71) (S 1046 0) ∧ (641 * (sm_cm (g52 71) + sm_pt (g52 68) (g52 69) (g52 70) + sm_pl (g52 81) (g52 82) (g52 83) (g52 84) (g52 85) (g52 86) + sm_ps (g52 76) (g52 77)) + sm_du (g52 72)) ≤ (641 * (sm_cm (S 71) + sm_pt (S 68) (S 69) (S 70) + sm_pl (S 81) (S 82) (S 83) (S 84) (S 85) (S 86) + sm_ps (S 76) (S 77)) + sm_du (S 72))) → (((s15 = (0 : Int)) → (sm_ST (g52 71) (g52 74) (g52 75) (g52 78) (g52 79) (g52 80) (S 27) (S 1100007) (S 1100023) (S 1100024) (S 1046 0) ((S 1046 0) + 2 * (S 1032 0)) (g52 1127 0) ∧ 465000 ≤ (g52 1127 0) ∧ (g52 1127 0) + sm_hs (g52 71) (S 1100007) ≤ 635000 ∧ (g52 75 639) = 647340 ∧ (∀ k : Int, (S 71 k) = 1 → (g52 71 k) = 1) ∧ sm_DR (g52 72) (g52 71) (S 1046 0) ∧ (641 * (sm_cm (g52 71) + sm_pt (g52 68) (g52 69) (g52 70) + sm_pl (g52 81) (g52 82) (g52 83) (g52 84) (g52 85) (g52 86) + sm_ps (g52 76) (g52 77)) + sm_du (g52 72)) ≤ (641 * (sm_cm (S 71) + sm_pt (S 68) (S 69) (S 70) + sm_pl (S 81) (S 82) (S 83) (S 84) (S 85) (S 86) + sm_ps (S 76) (S 77)) + sm_du (S 72)))) ∧ ((¬ (s15 = (0 : Int))) → (((¬ p1 = (22 : Int)) → (sm_ST (g52 71) (g52 74) (g52 75) (g52 78) (g52 79) (g52 80) (S 27) (S 1100007) (S 1100023) (S 1100024) (S 1046 0) ((S 1046 0) + 2 * (S 1032 0)) (g52 1127 0) ∧ 465000 ≤ (g52 1127 0) ∧ (g52 1127 0) + sm_hs (g52 71) (S 1100007) ≤ 635000 ∧ (g52 75 639) = 647340 ∧ (∀ k : Int, (S 71 k) = 1 → (g52 71 k) = 1) ∧ sm_DR (g52 72) (g52 71) (S 1046 0) ∧ (641 * (sm_cm (g52 71) + sm_pt (g52 68) (g52 69) (g52 70) + sm_pl (g52 81) (g52 82) (g52 83) (g52 84) (g52 85) (g52 86) + sm_ps (g52 76) (g52 77)) + sm_du (g52 72)) ≤ (641 * (sm_cm (S 71) + sm_pt (S 68) (S 69) (S 70) + sm_pl (S 81) (S 82) (S 83) (S 84) (S 85) (S 86) + sm_ps (S 76) (S 77)) + sm_du (S 72)))) ∧ ((¬ (¬ p1 = (22 : Int))) → (29 ≤ (S 1071 0) ∧ (S 1071 0) ≤ 127 ∧ 31 ≤ (S 1008 0) ∧ (S 1008 0) ≤ 90 ∧ 1 ≤ (S 1032 0) ∧ (S 1032 0) ≤ 11 ∧ 0 ≤ (S 1055 0) ∧ (S 1055 0) ≤ 19 ∧ (S 1071 0) = 29 + 6 * ((S 1032 0) - 1) + 2 * (S 1055 0) ∧ 0 ≤ (S 1046 0) ∧ (S 1046 0) + 2 * (S 1032 0) ≤ 500 ∧ sm_PD (S 1046 0) (S 1032 0) (S 1071 0) (S 1008 0) ∧ 0 ≤ (S 1071 0) * ((S 1008 0) + 1) ∧ (S 1071 0) * ((S 1008 0) + 1) ≤ 11557 ∧ 31 ≤ (S 1007 0) ∧ (S 1007 0) ≤ 400 ∧ sm_LN (S 4) 400 (S 1007 0) ∧ (g52 75 639) = 647340 ∧ sm_ST (g52 71) (g52 74) (g52 75) (g52 78) (g52 79) (g52 80) (S 27) (S 1100007) (S 1100023) (S 1100024) (S 1046 0) ((S 1046 0) + 2 * (S 1032 0)) (g52 1127 0) ∧ 465000 ≤ (g52 1127 0) ∧ (g52 1127 0) + sm_hs (g52 71) (S 1100007) ≤ 635000 ∧ sm_NH (S 1100007) ∧ sm_CT (S 26) (S 27) (S 28) (S 29) (S 1100007) (S 1100023) (S 1100024) (S 1100025) (S 21) (S 1046 0) (S 1032 0) (S 1008 0) (S 1055 0) ∧ (∀ k : Int, (S 1046 0) ≤ k → k < ((S 1046 0) + 2 * (S 1032 0)) → (S 1100007 k) = 1) ∧ sm_DR (g52 72) (g52 71) (S 1046 0) ∧ 0 ≤ (g52 74 639) ∧ (g52 74 639) ≤ 400 ∧ 0 ≤ (g52 78 639) ∧ (g52 78 639) ≤ 40 ∧ (g52 78 639) = sm_dp (S 1100024) (S 1100031 0) ∧ -1 ≤ (S 1100031 0) ∧ (S 1100031 0) < (S 1046 0) ∧ (0 ≤ (S 1100031 0) → (S 26 (S 1100031 0)) = 27) ∧ sm_TC (g52 79) (g52 80) (S 27) (S 1100007) (S 1100023) (S 1100024) 25560 (S 1100031 0) ∧ 0 ≤ p2 ∧ p2 < (S 1046 0) ∧ (g52 74 639) = (S 1100007 p2) ∧ (S 1100023 p2) = (S 1100031 0)) ∧ (∀ g58 : sv_S, (sm_ST (g58 71) (g58 74) (g58 75) (g58 78) (g58 79) (g58 80) (S 27) (S 1100007) (S 1100023) (S 1100024) (S 1046 0) ((S 1046 0) + 2 * (S 1032 0)) (g58 1127 0) ∧ 465000 ≤ (g58 1127 0) ∧ (g58 1127 0) + sm_hs (g58 71) (S 1100007) ≤ 635000 ∧ (g58 75 639) = 647340 ∧ (g58 74 639) = (g52 74 639) ∧ (g58 78 639) = (g52 78 639) ∧ sm_TC (g58 79) (g58 80) (S 27) (S 1100007) (S 1100023) (S 1100024) 25560 (S 1100031 0) ∧ (∀ k : Int, (g52 71 k) = 1 → (g58 71 k) = 1) ∧ sm_DR (g58 72) (g58 71) (S 1046 0) ∧ (641 * (sm_cm (g58 71) + sm_pt (g58 68) (g58 69) (g58 70) + sm_pl (g58 81) (g58 82) (g58 83) (g58 84) (g58 85) (g58 86) + sm_ps (g58 76) (g58 77)) + sm_du (g58 72)) ≤ (641 * (sm_cm (g52 71) + sm_pt (g52 68) (g52 69) (g52 70) + sm_pl (g52 81) (g52 82) (g52 83) (g52 84) (g52 85) (g52 86) + sm_ps (g52 76) (g52 77)) + sm_du (g52 72))) → (sm_ST (g58 71) (g58 74) (g58 75) (g58 78) (g58 79) (g58 80) (S 27) (S 1100007) (S 1100023) (S 1100024) (S 1046 0) ((S 1046 0) + 2 * (S 1032 0)) (g58 1127 0) ∧ 465000 ≤ (g58 1127 0) ∧ (g58 1127 0) + sm_hs (g58 71) (S 1100007) ≤ 635000 ∧ (g58 75 639) = 647340 ∧ (∀ k : Int, (S 71 k) = 1 → (g58 71 k) = 1) ∧ sm_DR (g58 72) (g58 71) (S 1046 0) ∧ (641 * (sm_cm (g58 71) + sm_pt (g58 68) (g58 69) (g58 70) + sm_pl (g58 81) (g58 82) (g58 83) (g58 84) (g58 85) (g58 86) + sm_ps (g58 76) (g58 77)) + sm_du (g58 72)) ≤ (641 * (sm_cm (S 71) + sm_pt (S 68) (S 69) (S 70) + sm_pl (S 81) (S 82) (S 83) (S 84) (S 85) (S 86) + sm_ps (S 76) (S 77)) + sm_du (S 72))))))))))))) ∧ ((¬ (p1 = (22 : Int))) → (29 ≤ (S 1071 0) ∧ (S 1071 0) ≤ 127 ∧ 31 ≤ (S 1008 0) ∧ (S 1008 0) ≤ 90 ∧ 1 ≤ (S 1032 0) ∧ (S 1032 0) ≤ 11 ∧ 0 ≤ (S 1055 0) ∧ (S 1055 0) ≤ 19 ∧ (S 1071 0) = 29 + 6 * ((S 1032 0) - 1) + 2 * (S 1055 0) ∧ 0 ≤ (S 1046 0) ∧ (S 1046 0) + 2 * (S 1032 0) ≤ 500 ∧ sm_PD (S 1046 0) (S 1032 0) (S 1071 0) (S 1008 0) ∧ 0 ≤ (S 1071 0) * ((S 1008 0) + 1) ∧ (S 1071 0) * ((S 1008 0) + 1) ≤ 11557 ∧ 31 ≤ (S 1007 0) ∧ (S 1007 0) ≤ 400 ∧ sm_LN (S 4) 400 (S 1007 0) ∧ (S 75 639) = 647340 ∧ sm_ST (S 71) (S 74) (S 75) (S 78) (S 79) (S 80) (S 27) (S 1100007) (S 1100023) (S 1100024) (S 1046 0) ((S 1046 0) + 2 * (S 1032 0)) (S 1127 0) ∧ 465000 ≤ (S 1127 0) ∧ (S 1127 0) + sm_hs (S 71) (S 1100007) ≤ 635000 ∧ sm_NH (S 1100007) ∧ sm_CT (S 26) (S 27) (S 28) (S 29) (S 1100007) (S 1100023) (S 1100024) (S 1100025) (S 21) (S 1046 0) (S 1032 0) (S 1008 0) (S 1055 0) ∧ (∀ k : Int, (S 1046 0) ≤ k → k < ((S 1046 0) + 2 * (S 1032 0)) → (S 1100007 k) = 1) ∧ sm_DR (S 72) (S 71) (S 1046 0) ∧ 0 ≤ (S 74 639) ∧ (S 74 639) ≤ 400 ∧ 0 ≤ (S 78 639) ∧ (S 78 639) ≤ 40 ∧ (S 78 639) = sm_dp (S 1100024) (S 1100031 0) ∧ -1 ≤ (S 1100031 0) ∧ (S 1100031 0) < (S 1046 0) ∧ (0 ≤ (S 1100031 0) → (S 26 (S 1100031 0)) = 27) ∧ sm_TC (S 79) (S 80) (S 27) (S 1100007) (S 1100023) (S 1100024) 25560 (S 1100031 0) ∧ 0 ≤ p2 ∧ p2 < (S 1046 0) ∧ (S 74 639) = (S 1100007 p2) ∧ (S 1100023 p2) = (S 1100031 0)) ∧ (∀ g64 : sv_S, (sm_ST (g64 71) (g64 74) (g64 75) (g64 78) (g64 79) (g64 80) (S 27) (S 1100007) (S 1100023) (S 1100024) (S 1046 0) ((S 1046 0) + 2 * (S 1032 0)) (g64 1127 0) ∧ 465000 ≤ (g64 1127 0) ∧ (g64 1127 0) + sm_hs (g64 71) (S 1100007) ≤ 635000 ∧ (g64 75 639) = 647340 ∧ (g64 74 639) = (S 74 639) ∧ (g64 78 639) = (S 78 639) ∧ sm_TC (g64 79) (g64 80) (S 27) (S 1100007) (S 1100023) (S 1100024) 25560 (S 1100031 0) ∧ (∀ k : Int, (S 71 k) = 1 → (g64 71 k) = 1) ∧ sm_DR (g64 72) (g64 71) (S 1046 0) ∧ (641 * (sm_cm (g64 71) + sm_pt (g64 68) (g64 69) (g64 70) + sm_pl (g64 81) (g64 82) (g64 83) (g64 84) (g64 85) (g64 86) + sm_ps (g64 76) (g64 77)) + sm_du (g64 72)) ≤ (641 * (sm_cm (S 71) + sm_pt (S 68) (S 69) (S 70) + sm_pl (S 81) (S 82) (S 83) (S 84) (S 85) (S 86) + sm_ps (S 76) (S 77)) + sm_du (S 72))) → (0 ≤ (639 : Int) ∧ (639 : Int) < 640) ∧ (sv_R (g64 74 (639 : Int)) → (sv_R ((g64 74 (639 : Int)) - (1 : Int))) ∧ (((s13 = (0 : Int)) → (((s15 = (0 : Int)) → (sm_ST (g64 71) (fun i' : Int => if i' = (639 : Int) then ((g64 74 (639 : Int)) - (1 : Int)) else (g64 74) i') (g64 75) (g64 78) (g64 79) (g64 80) (S 27) (S 1100007) (S 1100023) (S 1100024) (S 1046 0) ((S 1046 0) + 2 * (S 1032 0)) (g64 1127 0) ∧ 465000 ≤ (g64 1127 0) ∧ (g64 1127 0) + sm_hs (g64 71) (S 1100007) ≤ 635000 ∧ (g64 75 639) = 647340 ∧ (∀ k : Int, (S 71 k) = 1 → (g64 71 k) = 1) ∧ sm_DR (g64 72) (g64 71) (S 1046 0) ∧ (641 * (sm_cm (g64 71) + sm_pt (g64 68) (g64 69) (g64 70) + sm_pl (g64 81) (g64 82) (g64 83) (g64 84) (g64 85) (g64 86) + sm_ps (g64 76) (g64 77)) + sm_du (g64 72)) ≤ (641 * (sm_cm (S 71) + sm_pt (S 68) (S 69) (S 70) + sm_pl (S 81) (S 82) (S 83) (S 84) (S 85) (S 86) + sm_ps (S 76) (S 77)) + sm_du (S 72)))) ∧ ((¬ (s15 = (0 : Int))) → (((¬ p1 = (22 : Int)) → (sm_ST (g64 71) (fun i' : Int => if i' = (639 : Int) then ((g64 74 (639 : Int)) - (1 : Int)) else (g64 74) i') (g64 75) (g64 78) (g64 79) (g64 80) (S 27) (S 1100007) (S 1100023) (S 1100024) (S 1046 0) ((S 1046 0) + 2 * (S 1032 0)) (g64 1127 0) ∧ 465000 ≤ (g64 1127 0) ∧ (g64 1127 0) + sm_hs (g64 71) (S 1100007) ≤ 635000 ∧ (g64 75 639) = 647340 ∧ (∀ k : Int, (S 71 k) = 1 → (g64 71 k) = 1) ∧ sm_DR (g64 72) (g64 71) (S 1046 0) ∧ (641 * (sm_cm (g64 71) + sm_pt (g64 68) (g64 69) (g64 70) + sm_pl (g64 81) (g64 82) (g64 83) (g64 84) (g64 85) (g64 86) + sm_ps (g64 76) (g64 77)) + sm_du (g64 72)) ≤ (641 * (sm_cm (S 71) + sm_pt (S 68) (S 69) (S 70) + sm_pl (S 81) (S 82) (S 83) (S 84) (S 85) (S 86) + sm_ps (S 76) (S 77)) + sm_du (S 72)))) ∧ ((¬ (¬ p1 = (22 : Int))) → (29 ≤ (S 1071 0) ∧ (S 1071 0) ≤ 127 ∧ 31 ≤ (S 1008 0) ∧ (S 1008 0) ≤ 90 ∧ 1 ≤ (S 1032 0) ∧ (S 1032 0) ≤ 11 ∧ 0 ≤ (S 1055 0) ∧ (S 1055 0) ≤ 19 ∧ (S 1071 0) = 29 + 6 * ((S 1032 0) - 1) + 2 * (S 1055 0) ∧ 0 ≤ (S 1046 0) ∧ (S 1046 0) + 2 * (S 1032 0) ≤ 500 ∧ sm_PD (S 1046 0) (S 1032 0) (S 1071 0) (S 1008 0) ∧ 0 ≤ (S 1071 0) * ((S 1008 0) + 1) ∧ (S 1071 0) * ((S 1008 0) + 1) ≤ 11557 ∧ 31 ≤ (S 1007 0) ∧ (S 1007 0) ≤ 400 ∧ sm_LN (S 4) 400 (S 1007 0) ∧ (g64 75 639) = 647340 ∧ sm_ST (g64 71) (fun i' : Int => if i' = (639 : Int) then ((g64 74 (639 : Int)) - (1 : Int)) else (g64 74) i') (g64 75) (g64 78) (g64 79) (g64 80) (S 27) (S 1100007) (S 1100023) (S 1100024) (S 1046 0) ((S 1046 0) + 2 * (S 1032 0)) (g64 1127 0) ∧ 465000 ≤ (g64 1127 0) ∧ (g64 1127 0) + sm_hs (g64 71) (S 1100007) ≤ 635000 ∧ sm_NH (S 1100007) ∧ sm_CT (S 26) (S 27) (S 28) (S 29) (S 1100007) (S 1100023) (S 1100024) (S 1100025) (S 21) (S 1046 0) (S 1032 0) (S 1008 0) (S 1055 0) ∧ (∀ k : Int, (S 1046 0) ≤ k → k < ((S 1046 0) + 2 * (S 1032 0)) → (S 1100007 k) = 1) ∧ sm_DR (g64 72) (g64 71) (S 1046 0) ∧ 0 ≤ (if 639 = (639 : Int) then ((g64 74 (639 : Int)) - (1 : Int)) else (g64 74 639)) ∧ (if 639 = (639 : Int) then ((g64 74 (639 : Int)) - (1 : Int)) else (g64 74 639)) ≤ 400 ∧ 0 ≤ (g64 78 639) ∧ (g64 78 639) ≤ 40 ∧ (g64 78 639) = sm_dp (S 1100024) (S 1100031 0) ∧ -1 ≤ (S 1100031 0) ∧ (S 1100031 0) < (S 1046 0) ∧ (0 ≤ (S 1100031 0) → (S 26 (S 1100031 0)) = 27) ∧ sm_TC (g64 79) (g64 80) (S 27) (S 1100007) (S 1100023) (S 1100024) 25560 (S 1100031 0) ∧ 0 ≤ p2 ∧ p2 < (S 1046 0) ∧ (if 639 = (639 : Int) then ((g64 74 (639 : Int)) - (1 : Int)) else (g64 74 639)) = (S 1100007 p2) ∧ (S 1100023 p2) = (S 1100031 0)) ∧ (∀ g75 : sv_S, (sm_ST (g75 71) (g75 74) (g75 75) (g75 78) (g75 79) (g75 80) (S 27) (S 1100007) (S 1100023) (S 1100024) (S 1046 0) ((S 1046 0) + 2 * (S 1032 0)) (g75 1127 0) ∧ 465000 ≤ (g75 1127 0) ∧ (g75 1127 0) + sm_hs (g75 71) (S 1100007) ≤ 635000 ∧ (g75 75 639) = 647340 ∧ (g75 74 639) = (if 639 = (639 : Int) then ((g64 74 (639 : Int)) - (1 : Int)) else (g64 74 639)) ∧ (g75 78 639) = (g64 78 639) ∧ sm_TC (g75 79) (g75 80) (S 27) (S 1100007) (S 1100023) (S 1100024) 25560 (S 1100031 0) ∧ (∀ k : Int, (g64 71 k) = 1 → (g75 71 k) = 1) ∧ sm_DR (g75 72) (g75 71) (S 1046 0) ∧ (641 * (sm_cm (g75 71) + sm_pt (g75 68) (g75 69) (g75 70) + sm_pl (g75 81) (g75 82) (g75 83) (g75 84) (g75 85) (g75 86) + sm_ps (g75 76) (g75 77)) + sm_du (g75 72)) ≤ (641 * (sm_cm (g64 71) + sm_pt (g64 68) (g64 69) (g64 70) + sm_pl (g64 81) (g64 82) (g64 83) (g64 84) (g64 85) (g64 86) + sm_ps (g64 76) (g64 77)) + sm_du (g64 72))) → (sm_ST (g75 71) (g75 74) (g75 75) (g75 78) (g75 79) (g75 80) (S 27) (S 1100007) (S 1100023) (S 1100024) (S 1046 0) ((S 1046 0) + 2 * (S 1032 0)) (g75 1127 0) ∧ 465000 ≤ (g75 1127 0) ∧ (g75 1127 0) + sm_hs (g75 71) (S 1100007) ≤ 635000 ∧ (g75 75 639) = 647340 ∧ (∀ k : Int, (S 71 k) = 1 → (g75 71 k) = 1) ∧ sm_DR (g75 72) (g75 71) (S 1046 0) ∧ (641 * (sm_cm (g75 71) + sm_pt (g75 68) (g75 69) (g75 70) + sm_pl (g75 81) (g75 82) (g75 83) (g75 84) (g75 85) (g75 86) + sm_ps (g75 76) (g75 77)) + sm_du (g75 72)) ≤ (641 * (sm_cm (S 71) + sm_pt (S 68) (S 69) (S 70) + sm_pl (S 81) (S 82) (S 83) (S 84) (S 85) (S 86) + sm_ps (S 76) (S 77)) + sm_du (S 72))))))))) ∧ ((¬ (s13 = (0 : Int))) → (29 ≤ (S 1071 0) ∧ (S 1071 0) ≤ 127 ∧ 31 ≤ (S 1008 0) ∧ (S 1008 0) ≤ 90 ∧ 1 ≤ (S 1032 0) ∧ (S 1032 0) ≤ 11 ∧ 0 ≤ (S 1055 0) ∧ (S 1055 0) ≤ 19 ∧ (S 1071 0) = 29 + 6 * ((S 1032 0) - 1) + 2 * (S 1055 0) ∧ 0 ≤ (S 1046 0) ∧ (S 1046 0) + 2 * (S 1032 0) ≤ 500 ∧ sm_PD (S 1046 0) (S 1032 0) (S 1071 0) (S 1008 0) ∧ 0 ≤ (S 1071 0) * ((S 1008 0) + 1) ∧ (S 1071 0) * ((S 1008 0) + 1) ≤ 11557 ∧ 31 ≤ (S 1007 0) ∧ (S 1007 0) ≤ 400 ∧ sm_LN (S 4) 400 (S 1007 0) ∧ (g64 75 639) = 647340 ∧ sm_ST (g64 71) (fun i' : Int => if i' = (639 : Int) then ((g64 74 (639 : Int)) - (1 : Int)) else (g64 74) i') (g64 75) (g64 78) (g64 79) (g64 80) (S 27) (S 1100007) (S 1100023) (S 1100024) (S 1046 0) ((S 1046 0) + 2 * (S 1032 0)) (g64 1127 0) ∧ 465000 ≤ (g64 1127 0) ∧ (g64 1127 0) + sm_hs (g64 71) (S 1100007) ≤ 635000 ∧ sm_NH (S 1100007) ∧ sm_CT (S 26) (S 27) (S 28) (S 29) (S 1100007) (S 1100023) (S 1100024) (S 1100025) (S 21) (S 1046 0) (S 1032 0) (S 1008 0) (S 1055 0) ∧ (∀ k : Int, (S 1046 0) ≤ k → k < ((S 1046 0) + 2 * (S 1032 0)) → (S 1100007 k) = 1) ∧ sm_DR (g64 72) (g64 71) (S 1046 0) ∧ 0 ≤ (if 639 = (639 : Int) then ((g64 74 (639 : Int)) - (1 : Int)) else (g64 74 639)) ∧ (if 639 = (639 : Int) then ((g64 74 (639 : Int)) - (1 : Int)) else (g64 74 639)) ≤ 400 ∧ 0 ≤ (g64 78 639) ∧ (g64 78 639) ≤ 40 ∧ (g64 78 639) = sm_dp (S 1100024) (S 1100031 0) ∧ -1 ≤ (S 1100031 0) ∧ (S 1100031 0) < (S 1046 0) ∧ (0 ≤ (S 1100031 0) → (S 26 (S 1100031 0)) = 27) ∧ sm_TC (g64 79) (g64 80) (S 27) (S 1100007) (S 1100023) (S 1100024) 25560 (S 1100031 0) ∧ 0 ≤ (S 1148 0) ∧ (S 1148 0) + 1 < (S 1046 0) ∧ (if 639 = (639 : Int) then ((g64 74 (639 : Int)) - (1 : Int)) else (g64 74 639)) = (S 1100007 ((S 1148 0) + 1)) ∧ (S 1100023 ((S 1148 0) + 1)) = (S 1100031 0)) ∧ (∀ g81 : sv_S, (sm_ST (g81 71) (g81 74) (g81 75) (g81 78) (g81 79) (g81 80) (S 27) (S 1100007) (S 1100023) (S 1100024) (S 1046 0) ((S 1046 0) + 2 * (S 1032 0)) (g81 1127 0) ∧ 465000 ≤ (g81 1127 0) ∧ (g81 1127 0) + sm_hs (g81 71) (S 1100007) ≤ 635000 ∧ (g81 75 639) = 647340 ∧ (g81 74 639) = (if 639 = (639 : Int) then ((g64 74 (639 : Int)) - (1 : Int)) else (g64 74 639)) ∧ (g81 78 639) = (g64 78 639) ∧ sm_TC (g81 79) (g81 80) (S 27) (S 1100007) (S 1100023) (S 1100024) 25560 (S 1100031 0) ∧ (∀ k : Int, (g64 71 k) = 1 → (g81 71 k) = 1) ∧ sm_DR (g81 72) (g81 71) (S 1046 0) ∧ (641 * (sm_cm (g81 71) + sm_pt (g81 68) (g81 69) (g81 70) + sm_pl (g81 81) (g81 82) (g81 83) (g81 84) (g81 85) (g81 86) + sm_ps (g81 76) (g81 77)) + sm_du (g81 72)) ≤ (641 * (sm_cm (g64 71) + sm_pt (g64 68) (g64 69) (g64 70) + sm_pl (g64 81) (g64 82) (g64 83) (g64 84) (g64 85) (g64 86) + sm_ps (g64 76) (g64 77)) + sm_du (g64 72))) → (((s15 = (0 : Int)) → (sm_ST (g81 71) (g81 74) (g81 75) (g81 78) (g81 79) (g81 80) (S 27) (S 1100007) (S 1100023) (S 1100024) (S 1046 0) ((S 1046 0) + 2 * (S 1032 0)) (g81 1127 0) ∧ 465000 ≤ (g81 1127 0) ∧ (g81 1127 0) + sm_hs (g81 71) (S 1100007) ≤ 635000 ∧ (g81 75 639) = 647340 ∧ (∀ k : Int, (S 71 k) = 1 → (g81 71 k) = 1) ∧ sm_DR (g81 72) (g81 71) (S 1046 0) ∧ (641 * (sm_cm (g81 71) + sm_pt (g81 68) (g81 69) (g81 70) + sm_pl (g81 81) (g81 82) (g81 83) (g81 84) (g81 85) (g81 86) + sm_ps (g81 76) (g81 77)) + sm_du (g81 72)) ≤ (641 * (sm_cm (S 71) + sm_pt (S 68) (S 69) (S 70) + sm_pl (S 81) (S 82) (S 83) (S 84) (S 85) (S 86) + sm_ps (S 76) (S 77)) + sm_du (S 72)))) ∧ ((¬ (s15 = (0 : Int))) → (((¬ p1 = (22 : Int)) → (sm_ST (g81 71) (g81 74) (g81 75) (g81 78) (g81 79) (g81 80) (S 27) (S 1100007) (S 1100023) (S 1100024) (S 1046 0) ((S 1046 0) + 2 * (S 1032 0)) (g81 1127 0) ∧ 465000 ≤ (g81 1127 0) ∧ (g81 1127 0) + sm_hs (g81 71) (S 1100007) ≤ 635000 ∧ (g81 75 639) = 647340 ∧ (∀ k : Int, (S 71 k) = 1 → (g81 71 k) = 1) ∧ sm_DR (g81 72) (g81 71) (S 1046 0) ∧ (641 * (sm_cm (g81 71) + sm_pt (g81 68) (g81 69) (g81 70) + sm_pl (g81 81) (g81 82) (g81 83) (g81 84) (g81 85) (g81 86) + sm_ps (g81 76) (g81 77)) + sm_du (g81 72)) ≤ (641 * (sm_cm (S 71) + sm_pt (S 68) (S 69) (S 70) + sm_pl (S 81) (S 82) (S 83) (S 84) (S 85) (S 86) + sm_ps (S 76) (S 77)) + sm_du (S 72)))) ∧ ((¬ (¬ p1 = (22 : Int))) → (29 ≤ (S 1071 0) ∧ (S 1071 0) ≤ 127 ∧ 31 ≤ (S 1008 0) ∧ (S 1008 0) ≤ 90 ∧ 1 ≤ (S 1032 0) ∧ (S 1032 0) ≤ 11 ∧ 0 ≤ (S 1055 0) ∧ (S 1055 0) ≤ 19 ∧ (S 1071 0) = 29 + 6 * ((S 1032 0) - 1) + 2 * (S 1055 0) ∧ 0 ≤ (S 1046 0) ∧ (S 1046 0) + 2 * (S 1032 0) ≤ 500 ∧ sm_PD (S 1046 0) (S 1032 0) (S 1071 0) (S 1008 0) ∧ 0 ≤ (S 1071 0) * ((S 1008 0) + 1) ∧ (S 1071 0) * ((S 1008 0) + 1) ≤ 11557 ∧ 31 ≤ (S 1007 0) ∧ (S 1007 0) ≤ 400 ∧ sm_LN (S 4) 400 (S 1007 0) ∧ (g81 75 639) = 647340 ∧ sm_ST (g81 71) (g81 74) (g81 75) (g81 78) (g81 79) (g81 80) (S 27) (S 1100007) (S 1100023) (S 1100024) (S 1046 0) ((S 1046 0) + 2 * (S 1032 0)) (g81 1127 0) ∧ 465000 ≤ (g81 1127 0) ∧ (g81 1127 0) + sm_hs (g81 71) (S 1100007) ≤ 635000 ∧ sm_NH (S 1100007) ∧ sm_CT (S 26) (S 27) (S 28) (S 29) (S 1100007) (S 1100023) (S 1100024) (S 1100025) (S 21) (S 1046 0) (S 1032 0) (S 1008 0) (S 1055 0) ∧ (∀ k : Int, (S 1046 0) ≤ k → k < ((S 1046 0) + 2 * (S 1032 0)) → (S 1100007 k) = 1) ∧ sm_DR (g81 72) (g81 71) (S 1046 0) ∧ 0 ≤ (g81 74 639) ∧ (g81 74 639) ≤ 400 ∧ 0 ≤ (g81 78 639) ∧ (g81 78 639) ≤ 40 ∧ (g81 78 639) = sm_dp (S 1100024) (S 1100031 0) ∧ -1 ≤ (S 1100031 0) ∧ (S 1100031 0) < (S 1046 0) ∧ (0 ≤ (S 1100031 0) → (S 26 (S 1100031 0)) = 27) ∧ sm_TC (g81 79) (g81 80) (S 27) (S 1100007) (S 1100023) (S 1100024) 25560 (S 1100031 0) ∧ 0 ≤ p2 ∧ p2 < (S 1046 0) ∧ (g81 74 639) = (S 1100007 p2) ∧ (S 1100023 p2) = (S 1100031 0)) ∧ (∀ g87 : sv_S, (sm_ST (g87 71) (g87 74) (g87 75) (g87 78) (g87 79) (g87 80) (S 27) (S 1100007) (S 1100023) (S 1100024) (S 1046 0) ((S 1046 0) + 2 * (S 1032 0)) (g87 1127 0) ∧ 465000 ≤ (g87 1127 0) ∧ (g87 1127 0) + sm_hs (g87 71) (S 1100007) ≤ 635000 ∧ (g87 75 639) = 647340 ∧ (g87 74 639) = (g81 74 639) ∧ (g87 78 639) = (g81 78 639) ∧ sm_TC (g87 79) (g87 80) (S 27) (S 1100007) (S 1100023) (S 1100024) 25560 (S 1100031 0) ∧ (∀ k : Int, (g81 71 k) = 1 → (g87 71 k) = 1) ∧ sm_DR (g87 72) (g87 71) (S 1046 0) ∧ (641 * (sm_cm (g87 71) + sm_pt (g87 68) (g87 69) (g87 70) + sm_pl (g87 81) (g87 82) (g87 83) (g87 84) (g87 85) (g87 86) + sm_ps (g87 76) (g87 77)) + sm_du (g87 72)) ≤ (641 * (sm_cm (g81 71) + sm_pt (g81 68) (g81 69) (g81 70) + sm_pl (g81 81) (g81 82) (g81 83) (g81 84) (g81 85) (g81 86) + sm_ps (g81 76) (g81 77)) + sm_du (g81 72))) → (sm_ST (g87 71) (g87 74) (g87 75) (g87 78) (g87 79) (g87 80) (S 27) (S 1100007) (S 1100023) (S 1100024) (S 1046 0) ((S 1046 0) + 2 * (S 1032 0)) (g87 1127 0) ∧ 465000 ≤ (g87 1127 0) ∧ (g87 1127 0) + sm_hs (g87 71) (S 1100007) ≤ 635000 ∧ (g87 75 639) = 647340 ∧ (∀ k : Int, (S 71 k) = 1 → (g87 71 k) = 1) ∧ sm_DR (g87 72) (g87 71) (S 1046 0) ∧ (641 * (sm_cm (g87 71) + sm_pt (g87 68) (g87 69) (g87 70) + sm_pl (g87 81) (g87 82) (g87 83) (g87 84) (g87 85) (g87 86) + sm_ps (g87 76) (g87 77)) + sm_du (g87 72)) ≤ (641 * (sm_cm (S 71) + sm_pt (S 68) (S 69) (S 70) + sm_pl (S 81) (S 82) (S 83) (S 84) (S 85) (S 86) + sm_ps (S 76) (S 77)) + sm_du (S 72)))))))))))))))))) ∧ (((¬ p1 = (24 : Int)) → (True)) ∧ ((¬ (¬ p1 = (24 : Int))) → (True))))) ∧ (((¬ p1 = (24 : Int)) → (True)) ∧ ((¬ (¬ p1 = (24 : Int))) → (True))))))) := by
  intro p1
  intro p2
  intro p3
  intro S
  intro h1_
  intro h2_
  intro h3_
  intro h4_
  rintro ⟨h5_, ⟨h6_, ⟨h7_, ⟨h8_, ⟨h9_, ⟨h10_, ⟨h11_, ⟨h12_, ⟨h13_, ⟨h14_, ⟨h15_, ⟨h16_, ⟨h17_, ⟨h18_, ⟨h19_, ⟨h20_, ⟨h21_, ⟨h22_, ⟨h23_, ⟨h24_, ⟨h25_, ⟨h26_, ⟨h27_, ⟨h28_, ⟨h29_, ⟨h30_, ⟨h31_, ⟨h32_, ⟨h33_, ⟨h34_, ⟨h35_, ⟨h36_, ⟨h37_, ⟨h38_, ⟨h39_, ⟨h40_, ⟨h41_, ⟨h42_, ⟨h43_, ⟨h44_, ⟨h45_, ⟨h46_, ⟨h47_, ⟨h48_, ⟨h49_, ⟨h50_, ⟨h51_, ⟨h52_, ⟨h53_, h54_⟩⟩⟩⟩⟩⟩⟩⟩⟩⟩⟩⟩⟩⟩⟩⟩⟩⟩⟩⟩⟩⟩⟩⟩⟩⟩⟩⟩⟩⟩⟩⟩⟩⟩⟩⟩⟩⟩⟩⟩⟩⟩⟩⟩⟩⟩⟩⟩⟩
  intro h55_
  have h56_ := (h55_ h27_)
  have h57_ := (h56_ h39_)
  obtain ⟨h58_, ⟨h59_, ⟨h60_, h61_⟩⟩⟩ := (h57_ h40_)
  refine ⟨(la_waysOfTest_0 h44_ h45_), ?_⟩
  intro r7
  intro h62_
  intro h63_
  intro r12
  intro h64_
  intro h65_
  refine ⟨?_, ?_⟩
  · skip
    intro s13
    intro h66_
    intro _
    refine ⟨?_, ?_⟩
    · skip
      intro s15
      intro h67_
      intro _
      refine ⟨?_, ?_⟩
      · skip
        intro h68_
        refine ⟨la_waysOfTest_1, ?_⟩
        intro h69_
        refine ⟨(la_waysOfTest_2 h30_ h31_), ?_⟩
        refine ⟨?_, ?_⟩
        · skip
          intro h70_
          refine ⟨?_, ?_⟩
          · skip
            intro h71_
            refine ⟨(sm_ST_F h23_ (la_waysOfTest_3 h15_) (sm_F1_up sm_F1_rf (Int.le_refl _)) sm_F1_rf sm_F1_rf sm_F1_rf sm_F1_rf), ?_⟩
            refine ⟨h24_, ?_⟩
            refine ⟨h25_, ?_⟩
            refine ⟨h22_, ?_⟩
            refine ⟨?_, ?_⟩
            · skip
              intro k
              intro h72_
              exact h72_
            refine ⟨h29_, ?_⟩
            exact la_waysOfTest_4
          intro h73_
          refine ⟨?_, ?_⟩
          · skip
            intro h74_
            have h75_ := (h54_ h74_)
            refine ⟨(sm_ST_F h23_ (la_waysOfTest_3 h15_) (sm_F1_up sm_F1_rf (Int.le_refl _)) sm_F1_rf sm_F1_rf sm_F1_rf sm_F1_rf), ?_⟩
            refine ⟨h24_, ?_⟩
            refine ⟨h25_, ?_⟩
            refine ⟨h22_, ?_⟩
            refine ⟨?_, ?_⟩
            · skip
              intro kv1
              intro h76_
              exact h76_
            refine ⟨h29_, ?_⟩
            exact la_waysOfTest_4
          intro h77_
          have h78_ := (h53_ (la_waysOfTest_7 h77_))
          refine ⟨?_, ?_⟩
          · skip
            refine ⟨h5_, ?_⟩
            refine ⟨h6_, ?_⟩
            refine ⟨h7_, ?_⟩
            refine ⟨h8_, ?_⟩
            refine ⟨h9_, ?_⟩
            refine ⟨h10_, ?_⟩
            refine ⟨h11_, ?_⟩
            refine ⟨h12_, ?_⟩
            refine ⟨h13_, ?_⟩
            refine ⟨h14_, ?_⟩
            refine ⟨h15_, ?_⟩
            refine ⟨h16_, ?_⟩
            refine ⟨h17_, ?_⟩
            refine ⟨h18_, ?_⟩
            refine ⟨h19_, ?_⟩
            refine ⟨h20_, ?_⟩
            refine ⟨h21_, ?_⟩
            refine ⟨h22_, ?_⟩
            refine ⟨(sm_ST_F h23_ (la_waysOfTest_3 h15_) (sm_F1_up sm_F1_rf (Int.le_refl _)) sm_F1_rf sm_F1_rf sm_F1_rf sm_F1_rf), ?_⟩
            refine ⟨h24_, ?_⟩
            refine ⟨h25_, ?_⟩
            refine ⟨h26_, ?_⟩
            refine ⟨h27_, ?_⟩
            refine ⟨h28_, ?_⟩
            refine ⟨h29_, ?_⟩
            refine ⟨?_, ?_⟩
            · skip
              have h79_ := (h28_ (S 1148 0))
              have h80_ := (h28_ (S 1148 0 + 1))
              have h81_ := (h28_ p2)
              have e82_ : (if (639 : Int) = 639 then S 74 639 - 1 else S 74 639 : Int) = S 74 639 - 1 := if_pos la_waysOfTest_8
              exact (la_waysOfTest_12 h42_ h46_ e82_)
            refine ⟨?_, ?_⟩
            · skip
              have h83_ := (h28_ (S 1148 0))
              have h84_ := (h28_ (S 1148 0 + 1))
              have h85_ := (h28_ p2)
              have e86_ : (if (639 : Int) = 639 then S 74 639 - 1 else S 74 639 : Int) = S 74 639 - 1 := if_pos la_waysOfTest_8
              exact (la_waysOfTest_13 h42_ h59_ e86_)
            refine ⟨h32_, ?_⟩
            refine ⟨h33_, ?_⟩
            refine ⟨h34_, ?_⟩
            refine ⟨h35_, ?_⟩
            refine ⟨h36_, ?_⟩
            refine ⟨h37_, ?_⟩
            refine ⟨h38_, ?_⟩
            refine ⟨h50_, ?_⟩
            refine ⟨h51_, ?_⟩
            refine ⟨?_, ?_⟩
            · skip
              have h87_ := (h28_ (S 1148 0))
              have h88_ := (h28_ (S 1148 0 + 1))
              have h89_ := (h28_ p2)
              have e90_ : (if (639 : Int) = 639 then S 74 639 - 1 else S 74 639 : Int) = S 74 639 - 1 := if_pos la_waysOfTest_8
              exact (la_waysOfTest_14 h42_ h78_ e90_)
            exact (la_waysOfTest_15 h43_ h52_)
          intro g23
          rintro ⟨h91_, ⟨h92_, ⟨h93_, ⟨h94_, ⟨h95_, ⟨h96_, ⟨h97_, ⟨h98_, ⟨h99_, h100_⟩⟩⟩⟩⟩⟩⟩⟩⟩
          have e101_ : (if (639 : Int) = 639 then S 74 639 - 1 else S 74 639 : Int) = S 74 639 - 1 := if_pos la_waysOfTest_8
          refine ⟨h91_, ?_⟩
          refine ⟨h92_, ?_⟩
          refine ⟨h93_, ?_⟩
          refine ⟨h94_, ?_⟩
          refine ⟨h98_, ?_⟩
          refine ⟨h99_, ?_⟩
          exact h100_
        intro h102_
        refine ⟨?_, ?_⟩
        · skip
          refine ⟨h5_, ?_⟩
          refine ⟨h6_, ?_⟩
          refine ⟨h7_, ?_⟩
          refine ⟨h8_, ?_⟩
          refine ⟨h9_, ?_⟩
          refine ⟨h10_, ?_⟩
          refine ⟨h11_, ?_⟩
          refine ⟨h12_, ?_⟩
          refine ⟨h13_, ?_⟩
          refine ⟨h14_, ?_⟩
          refine ⟨h15_, ?_⟩
          refine ⟨h16_, ?_⟩
          refine ⟨h17_, ?_⟩
          refine ⟨h18_, ?_⟩
          refine ⟨h19_, ?_⟩
          refine ⟨h20_, ?_⟩
          refine ⟨h21_, ?_⟩
          refine ⟨h22_, ?_⟩
          refine ⟨(sm_ST_F h23_ (la_waysOfTest_3 h15_) (sm_F1_up sm_F1_rf (Int.le_refl _)) sm_F1_rf sm_F1_rf sm_F1_rf sm_F1_rf), ?_⟩
          refine ⟨h24_, ?_⟩
          refine ⟨h25_, ?_⟩
          refine ⟨h26_, ?_⟩
          refine ⟨h27_, ?_⟩
          refine ⟨h28_, ?_⟩
          refine ⟨h29_, ?_⟩
          refine ⟨?_, ?_⟩
          · skip
            have h103_ := (h28_ (S 1148 0))
            have h104_ := (h28_ (S 1148 0 + 1))
            have h105_ := (h28_ p2)
            have e106_ : (if (639 : Int) = 639 then S 74 639 - 1 else S 74 639 : Int) = S 74 639 - 1 := if_pos la_waysOfTest_8
            exact (la_waysOfTest_12 h42_ h46_ e106_)
          refine ⟨?_, ?_⟩
          · skip
            have h107_ := (h28_ (S 1148 0))
            have h108_ := (h28_ (S 1148 0 + 1))
            have h109_ := (h28_ p2)
            have e110_ : (if (639 : Int) = 639 then S 74 639 - 1 else S 74 639 : Int) = S 74 639 - 1 := if_pos la_waysOfTest_8
            exact (la_waysOfTest_13 h42_ h59_ e110_)
          refine ⟨h32_, ?_⟩
          refine ⟨h33_, ?_⟩
          refine ⟨h34_, ?_⟩
          refine ⟨h35_, ?_⟩
          refine ⟨h36_, ?_⟩
          refine ⟨h37_, ?_⟩
          refine ⟨h38_, ?_⟩
          refine ⟨h39_, ?_⟩
          refine ⟨h47_, ?_⟩
          refine ⟨?_, ?_⟩
          · skip
            have h111_ := (h28_ (S 1148 0))
            have h112_ := (h28_ (S 1148 0 + 1))
            have h113_ := (h28_ p2)
            have e114_ : (if (639 : Int) = 639 then S 74 639 - 1 else S 74 639 : Int) = S 74 639 - 1 := if_pos la_waysOfTest_8
            exact (la_waysOfTest_16 h42_ h48_ e114_)
          exact (la_waysOfTest_15 h43_ h49_)
        intro g29
        rintro ⟨h115_, ⟨h116_, ⟨h117_, ⟨h118_, ⟨h119_, ⟨h120_, ⟨h121_, ⟨h122_, ⟨h123_, h124_⟩⟩⟩⟩⟩⟩⟩⟩⟩
        have e125_ : (if (639 : Int) = 639 then S 74 639 - 1 else S 74 639 : Int) = S 74 639 - 1 := if_pos la_waysOfTest_8
        refine ⟨?_, ?_⟩
        · skip
          intro h126_
          refine ⟨h115_, ?_⟩
          refine ⟨h116_, ?_⟩
          refine ⟨h117_, ?_⟩
          refine ⟨h118_, ?_⟩
          refine ⟨h122_, ?_⟩
          refine ⟨h123_, ?_⟩
          exact h124_
        intro h127_
        refine ⟨?_, ?_⟩
        · skip
          intro h128_
          have h129_ := (h54_ h128_)
          refine ⟨h115_, ?_⟩
          refine ⟨h116_, ?_⟩
          refine ⟨h117_, ?_⟩
          refine ⟨h118_, ?_⟩
          refine ⟨h122_, ?_⟩
          refine ⟨h123_, ?_⟩
          exact h124_
        intro h130_
        have h131_ := (h53_ (la_waysOfTest_7 h130_))
        refine ⟨⟨h5_, ⟨h6_, ⟨h7_, ⟨h8_, ⟨h9_, ⟨h10_, ⟨h11_, ⟨h12_, ⟨h13_, ⟨h14_, ⟨h15_, ⟨h16_, ⟨h17_, ⟨h18_, ⟨h19_, ⟨h20_, ⟨h21_, ⟨h118_, ⟨h115_, ⟨h116_, ⟨h117_, ⟨h26_, ⟨h27_, ⟨h28_, ⟨h123_, ⟨(la_waysOfTest_17 h42_ h46_ h119_ e125_), ⟨(la_waysOfTest_18 h31_ h119_ e125_), ⟨(la_waysOfTest_19 h32_ h120_), ⟨(la_waysOfTest_20 h33_ h120_), ⟨(la_waysOfTest_21 h34_ h120_), ⟨h35_, ⟨h36_, ⟨h37_, ⟨h121_, (la_waysOfTest_22 h42_ h43_ h50_ h51_ h52_ h119_ e125_ h131_)⟩⟩⟩⟩⟩⟩⟩⟩⟩⟩⟩⟩⟩⟩⟩⟩⟩⟩⟩⟩⟩⟩⟩⟩⟩⟩⟩⟩⟩⟩⟩⟩⟩⟩, ?_⟩
        intro g35
        rintro ⟨h132_, ⟨h133_, ⟨h134_, ⟨h135_, ⟨h136_, ⟨h137_, ⟨h138_, ⟨h139_, ⟨h140_, h141_⟩⟩⟩⟩⟩⟩⟩⟩⟩
        refine ⟨h132_, ?_⟩
        refine ⟨h133_, ?_⟩
        refine ⟨h134_, ?_⟩
        refine ⟨h135_, ?_⟩
        refine ⟨?_, ?_⟩
        · skip
          intro kv2
          intro h142_
          have h143_ := (h28_ (S 1148 0))
          have h144_ := (h28_ (S 1148 0 + 1))
          have h145_ := (h28_ p2)
          have h146_ := ((h122_ kv2) h142_)
          have h147_ := ((h122_ (S 1148 0)) h41_)
          have h148_ := ((h139_ kv2) h146_)
          have h149_ := ((h139_ (S 1148 0)) h147_)
          exact h148_
        refine ⟨h140_, ?_⟩
        exact (la_waysOfTest_23 h124_ h141_)
      intro h150_
      refine ⟨?_, ?_⟩
      · skip
        intro h151_
        have h152_ := (h53_ h151_)
        refine ⟨la_waysOfTest_1, ?_⟩
        intro h153_
        refine ⟨(la_waysOfTest_2 h30_ h31_), ?_⟩
        refine ⟨?_, ?_⟩
        · skip
          intro h154_
          refine ⟨?_, ?_⟩
          · skip
            intro h155_
            refine ⟨(sm_ST_F h23_ (la_waysOfTest_3 h15_) (sm_F1_up sm_F1_rf (Int.le_refl _)) sm_F1_rf sm_F1_rf sm_F1_rf sm_F1_rf), ?_⟩
            refine ⟨h24_, ?_⟩
            refine ⟨h25_, ?_⟩
            refine ⟨h22_, ?_⟩
            refine ⟨?_, ?_⟩
            · skip
              intro kv3
              intro h156_
              exact h156_
            refine ⟨h29_, ?_⟩
            exact la_waysOfTest_4
          intro h157_
          refine ⟨?_, ?_⟩
          · skip
            intro h158_
            refine ⟨(sm_ST_F h23_ (la_waysOfTest_3 h15_) (sm_F1_up sm_F1_rf (Int.le_refl _)) sm_F1_rf sm_F1_rf sm_F1_rf sm_F1_rf), ?_⟩
            refine ⟨h24_, ?_⟩
            refine ⟨h25_, ?_⟩
            refine ⟨h22_, ?_⟩
            refine ⟨?_, ?_⟩
            · skip
              intro kv4
              intro h159_
              exact h159_
            refine ⟨h29_, ?_⟩
            exact la_waysOfTest_4
          intro h160_
          refine ⟨?_, ?_⟩
          · skip
            refine ⟨h5_, ?_⟩
            refine ⟨h6_, ?_⟩
            refine ⟨h7_, ?_⟩
            refine ⟨h8_, ?_⟩
            refine ⟨h9_, ?_⟩
            refine ⟨h10_, ?_⟩
            refine ⟨h11_, ?_⟩
            refine ⟨h12_, ?_⟩
            refine ⟨h13_, ?_⟩
            refine ⟨h14_, ?_⟩
            refine ⟨h15_, ?_⟩
            refine ⟨h16_, ?_⟩
            refine ⟨h17_, ?_⟩
            refine ⟨h18_, ?_⟩
            refine ⟨h19_, ?_⟩
            refine ⟨h20_, ?_⟩
            refine ⟨h21_, ?_⟩
            refine ⟨h22_, ?_⟩
            refine ⟨(sm_ST_F h23_ (la_waysOfTest_3 h15_) (sm_F1_up sm_F1_rf (Int.le_refl _)) sm_F1_rf sm_F1_rf sm_F1_rf sm_F1_rf), ?_⟩
            refine ⟨h24_, ?_⟩
            refine ⟨h25_, ?_⟩
            refine ⟨h26_, ?_⟩
            refine ⟨h27_, ?_⟩
            refine ⟨h28_, ?_⟩
            refine ⟨h29_, ?_⟩
            refine ⟨?_, ?_⟩
            · skip
              have h161_ := (h28_ (S 1148 0))
              have h162_ := (h28_ (S 1148 0 + 1))
              have h163_ := (h28_ p2)
              have e164_ : (if (639 : Int) = 639 then S 74 639 - 1 else S 74 639 : Int) = S 74 639 - 1 := if_pos la_waysOfTest_8
              exact (la_waysOfTest_12 h42_ h46_ e164_)
            refine ⟨?_, ?_⟩
            · skip
              have h165_ := (h28_ (S 1148 0))
              have h166_ := (h28_ (S 1148 0 + 1))
              have h167_ := (h28_ p2)
              have e168_ : (if (639 : Int) = 639 then S 74 639 - 1 else S 74 639 : Int) = S 74 639 - 1 := if_pos la_waysOfTest_8
              exact (la_waysOfTest_13 h42_ h59_ e168_)
            refine ⟨h32_, ?_⟩
            refine ⟨h33_, ?_⟩
            refine ⟨h34_, ?_⟩
            refine ⟨h35_, ?_⟩
            refine ⟨h36_, ?_⟩
            refine ⟨h37_, ?_⟩
            refine ⟨h38_, ?_⟩
            refine ⟨h50_, ?_⟩
            refine ⟨h51_, ?_⟩
            refine ⟨?_, ?_⟩
            · skip
              have h169_ := (h28_ (S 1148 0))
              have h170_ := (h28_ (S 1148 0 + 1))
              have h171_ := (h28_ p2)
              have e172_ : (if (639 : Int) = 639 then S 74 639 - 1 else S 74 639 : Int) = S 74 639 - 1 := if_pos la_waysOfTest_8
              exact (la_waysOfTest_14 h42_ h152_ e172_)
            exact (la_waysOfTest_15 h43_ h52_)
          intro g46
          rintro ⟨h173_, ⟨h174_, ⟨h175_, ⟨h176_, ⟨h177_, ⟨h178_, ⟨h179_, ⟨h180_, ⟨h181_, h182_⟩⟩⟩⟩⟩⟩⟩⟩⟩
          have e183_ : (if (639 : Int) = 639 then S 74 639 - 1 else S 74 639 : Int) = S 74 639 - 1 := if_pos la_waysOfTest_8
          refine ⟨h173_, ?_⟩
          refine ⟨h174_, ?_⟩
          refine ⟨h175_, ?_⟩
          refine ⟨h176_, ?_⟩
          refine ⟨h180_, ?_⟩
          refine ⟨h181_, ?_⟩
          exact h182_
        intro h184_
        refine ⟨?_, ?_⟩
        · skip
          refine ⟨h5_, ?_⟩
          refine ⟨h6_, ?_⟩
          refine ⟨h7_, ?_⟩
          refine ⟨h8_, ?_⟩
          refine ⟨h9_, ?_⟩
          refine ⟨h10_, ?_⟩
          refine ⟨h11_, ?_⟩
          refine ⟨h12_, ?_⟩
          refine ⟨h13_, ?_⟩
          refine ⟨h14_, ?_⟩
          refine ⟨h15_, ?_⟩
          refine ⟨h16_, ?_⟩
          refine ⟨h17_, ?_⟩
          refine ⟨h18_, ?_⟩
          refine ⟨h19_, ?_⟩
          refine ⟨h20_, ?_⟩
          refine ⟨h21_, ?_⟩
          refine ⟨h22_, ?_⟩
          refine ⟨(sm_ST_F h23_ (la_waysOfTest_3 h15_) (sm_F1_up sm_F1_rf (Int.le_refl _)) sm_F1_rf sm_F1_rf sm_F1_rf sm_F1_rf), ?_⟩
          refine ⟨h24_, ?_⟩
          refine ⟨h25_, ?_⟩
          refine ⟨h26_, ?_⟩
          refine ⟨h27_, ?_⟩
          refine ⟨h28_, ?_⟩
          refine ⟨h29_, ?_⟩
          refine ⟨?_, ?_⟩
          · skip
            have h185_ := (h28_ (S 1148 0))
            have h186_ := (h28_ (S 1148 0 + 1))
            have h187_ := (h28_ p2)
            have e188_ : (if (639 : Int) = 639 then S 74 639 - 1 else S 74 639 : Int) = S 74 639 - 1 := if_pos la_waysOfTest_8
            exact (la_waysOfTest_12 h42_ h46_ e188_)
          refine ⟨?_, ?_⟩
          · skip
            have h189_ := (h28_ (S 1148 0))
            have h190_ := (h28_ (S 1148 0 + 1))
            have h191_ := (h28_ p2)
            have e192_ : (if (639 : Int) = 639 then S 74 639 - 1 else S 74 639 : Int) = S 74 639 - 1 := if_pos la_waysOfTest_8
            exact (la_waysOfTest_13 h42_ h59_ e192_)
          refine ⟨h32_, ?_⟩
          refine ⟨h33_, ?_⟩
          refine ⟨h34_, ?_⟩
          refine ⟨h35_, ?_⟩
          refine ⟨h36_, ?_⟩
          refine ⟨h37_, ?_⟩
          refine ⟨h38_, ?_⟩
          refine ⟨h39_, ?_⟩
          refine ⟨h47_, ?_⟩
          refine ⟨?_, ?_⟩
          · skip
            have h193_ := (h28_ (S 1148 0))
            have h194_ := (h28_ (S 1148 0 + 1))
            have h195_ := (h28_ p2)
            have e196_ : (if (639 : Int) = 639 then S 74 639 - 1 else S 74 639 : Int) = S 74 639 - 1 := if_pos la_waysOfTest_8
            exact (la_waysOfTest_16 h42_ h48_ e196_)
          exact (la_waysOfTest_15 h43_ h49_)
        intro g52
        rintro ⟨h197_, ⟨h198_, ⟨h199_, ⟨h200_, ⟨h201_, ⟨h202_, ⟨h203_, ⟨h204_, ⟨h205_, h206_⟩⟩⟩⟩⟩⟩⟩⟩⟩
        have e207_ : (if (639 : Int) = 639 then S 74 639 - 1 else S 74 639 : Int) = S 74 639 - 1 := if_pos la_waysOfTest_8
        refine ⟨?_, ?_⟩
        · skip
          intro h208_
          refine ⟨h197_, ?_⟩
          refine ⟨h198_, ?_⟩
          refine ⟨h199_, ?_⟩
          refine ⟨h200_, ?_⟩
          refine ⟨h204_, ?_⟩
          refine ⟨h205_, ?_⟩
          exact h206_
        intro h209_
        refine ⟨?_, ?_⟩
        · skip
          intro h210_
          refine ⟨h197_, ?_⟩
          refine ⟨h198_, ?_⟩
          refine ⟨h199_, ?_⟩
          refine ⟨h200_, ?_⟩
          refine ⟨h204_, ?_⟩
          refine ⟨h205_, ?_⟩
          exact h206_
        intro h211_
        refine ⟨⟨h5_, ⟨h6_, ⟨h7_, ⟨h8_, ⟨h9_, ⟨h10_, ⟨h11_, ⟨h12_, ⟨h13_, ⟨h14_, ⟨h15_, ⟨h16_, ⟨h17_, ⟨h18_, ⟨h19_, ⟨h20_, ⟨h21_, ⟨h200_, ⟨h197_, ⟨h198_, ⟨h199_, ⟨h26_, ⟨h27_, ⟨h28_, ⟨h205_, ⟨(la_waysOfTest_17 h42_ h46_ h201_ e207_), ⟨(la_waysOfTest_18 h31_ h201_ e207_), ⟨(la_waysOfTest_19 h32_ h202_), ⟨(la_waysOfTest_20 h33_ h202_), ⟨(la_waysOfTest_21 h34_ h202_), ⟨h35_, ⟨h36_, ⟨h37_, ⟨h203_, (la_waysOfTest_27 h42_ h43_ h50_ h51_ h52_ h152_ h201_ e207_)⟩⟩⟩⟩⟩⟩⟩⟩⟩⟩⟩⟩⟩⟩⟩⟩⟩⟩⟩⟩⟩⟩⟩⟩⟩⟩⟩⟩⟩⟩⟩⟩⟩⟩, ?_⟩
        intro g58
        rintro ⟨h212_, ⟨h213_, ⟨h214_, ⟨h215_, ⟨h216_, ⟨h217_, ⟨h218_, ⟨h219_, ⟨h220_, h221_⟩⟩⟩⟩⟩⟩⟩⟩⟩
        refine ⟨h212_, ?_⟩
        refine ⟨h213_, ?_⟩
        refine ⟨h214_, ?_⟩
        refine ⟨h215_, ?_⟩
        refine ⟨?_, ?_⟩
        · skip
          intro kv5
          intro h222_
          have h223_ := (h28_ (S 1148 0))
          have h224_ := (h28_ (S 1148 0 + 1))
          have h225_ := (h28_ p2)
          have h226_ := ((h204_ kv5) h222_)
          have h227_ := ((h204_ (S 1148 0)) h41_)
          have h228_ := ((h219_ kv5) h226_)
          have h229_ := ((h219_ (S 1148 0)) h227_)
          exact h228_
        refine ⟨h220_, ?_⟩
        exact (la_waysOfTest_23 h206_ h221_)
      intro h230_
      have h231_ := (h54_ h230_)
      refine ⟨⟨h5_, ⟨h6_, ⟨h7_, ⟨h8_, ⟨h9_, ⟨h10_, ⟨h11_, ⟨h12_, ⟨h13_, ⟨h14_, ⟨h15_, ⟨h16_, ⟨h17_, ⟨h18_, ⟨h19_, ⟨h20_, ⟨h21_, ⟨h22_, ⟨h23_, ⟨h24_, ⟨h25_, ⟨h26_, ⟨h27_, ⟨h28_, ⟨h29_, ⟨h30_, ⟨h31_, ⟨h32_, ⟨h33_, ⟨h34_, ⟨h35_, ⟨h36_, ⟨h37_, ⟨h38_, (la_waysOfTest_28 h42_ h43_ h50_ h51_ h52_ h231_)⟩⟩⟩⟩⟩⟩⟩⟩⟩⟩⟩⟩⟩⟩⟩⟩⟩⟩⟩⟩⟩⟩⟩⟩⟩⟩⟩⟩⟩⟩⟩⟩⟩⟩, ?_⟩
      intro g64
      rintro ⟨h232_, ⟨h233_, ⟨h234_, ⟨h235_, ⟨h236_, ⟨h237_, ⟨h238_, ⟨h239_, ⟨h240_, h241_⟩⟩⟩⟩⟩⟩⟩⟩⟩
      refine ⟨la_waysOfTest_1, ?_⟩
      intro h242_
      refine ⟨(la_waysOfTest_29 h30_ h31_ h236_), ?_⟩
      refine ⟨?_, ?_⟩
      · skip
        intro h243_
        refine ⟨?_, ?_⟩
        · skip
          intro h244_
          refine ⟨(sm_ST_F h232_ (la_waysOfTest_3 h15_) (sm_F1_up sm_F1_rf (Int.le_refl _)) sm_F1_rf sm_F1_rf sm_F1_rf sm_F1_rf), ?_⟩
          refine ⟨h233_, ?_⟩
          refine ⟨h234_, ?_⟩
          refine ⟨h235_, ?_⟩
          refine ⟨h239_, ?_⟩
          refine ⟨h240_, ?_⟩
          exact h241_
        intro h245_
        refine ⟨?_, ?_⟩
        · skip
          intro h246_
          refine ⟨(sm_ST_F h232_ (la_waysOfTest_3 h15_) (sm_F1_up sm_F1_rf (Int.le_refl _)) sm_F1_rf sm_F1_rf sm_F1_rf sm_F1_rf), ?_⟩
          refine ⟨h233_, ?_⟩
          refine ⟨h234_, ?_⟩
          refine ⟨h235_, ?_⟩
          refine ⟨h239_, ?_⟩
          refine ⟨h240_, ?_⟩
          exact h241_
        intro h247_
        refine ⟨?_, ?_⟩
        · skip
          refine ⟨h5_, ?_⟩
          refine ⟨h6_, ?_⟩
          refine ⟨h7_, ?_⟩
          refine ⟨h8_, ?_⟩
          refine ⟨h9_, ?_⟩
          refine ⟨h10_, ?_⟩
          refine ⟨h11_, ?_⟩
          refine ⟨h12_, ?_⟩
          refine ⟨h13_, ?_⟩
          refine ⟨h14_, ?_⟩
          refine ⟨h15_, ?_⟩
          refine ⟨h16_, ?_⟩
          refine ⟨h17_, ?_⟩
          refine ⟨h18_, ?_⟩
          refine ⟨h19_, ?_⟩
          refine ⟨h20_, ?_⟩
          refine ⟨h21_, ?_⟩
          refine ⟨h235_, ?_⟩
          refine ⟨(sm_ST_F h232_ (la_waysOfTest_3 h15_) (sm_F1_up sm_F1_rf (Int.le_refl _)) sm_F1_rf sm_F1_rf sm_F1_rf sm_F1_rf), ?_⟩
          refine ⟨h233_, ?_⟩
          refine ⟨h234_, ?_⟩
          refine ⟨h26_, ?_⟩
          refine ⟨h27_, ?_⟩
          refine ⟨h28_, ?_⟩
          refine ⟨h240_, ?_⟩
          refine ⟨?_, ?_⟩
          · skip
            have h248_ := (h28_ (S 1148 0))
            have h249_ := (h28_ (S 1148 0 + 1))
            have h250_ := (h28_ p2)
            have h251_ := ((h239_ (S 1148 0)) h41_)
            have e252_ : (if (639 : Int) = 639 then g64 74 639 - 1 else g64 74 639 : Int) = g64 74 639 - 1 := if_pos la_waysOfTest_8
            exact (la_waysOfTest_31 h42_ h46_ h236_ e252_)
          refine ⟨?_, ?_⟩
          · skip
            have h253_ := (h28_ (S 1148 0))
            have h254_ := (h28_ (S 1148 0 + 1))
            have h255_ := (h28_ p2)
            have h256_ := ((h239_ (S 1148 0)) h41_)
            have e257_ : (if (639 : Int) = 639 then g64 74 639 - 1 else g64 74 639 : Int) = g64 74 639 - 1 := if_pos la_waysOfTest_8
            exact (la_waysOfTest_32 h31_ h236_ e257_)
          refine ⟨(la_waysOfTest_19 h32_ h237_), ?_⟩
          refine ⟨(la_waysOfTest_20 h33_ h237_), ?_⟩
          refine ⟨(la_waysOfTest_21 h34_ h237_), ?_⟩
          refine ⟨h35_, ?_⟩
          refine ⟨h36_, ?_⟩
          refine ⟨h37_, ?_⟩
          refine ⟨h238_, ?_⟩
          refine ⟨h50_, ?_⟩
          refine ⟨h51_, ?_⟩
          refine ⟨?_, ?_⟩
          · skip
            have h258_ := (h28_ (S 1148 0))
            have h259_ := (h28_ (S 1148 0 + 1))
            have h260_ := (h28_ p2)
            have h261_ := ((h239_ (S 1148 0)) h41_)
            have e262_ : (if (639 : Int) = 639 then g64 74 639 - 1 else g64 74 639 : Int) = g64 74 639 - 1 := if_pos la_waysOfTest_8
            exact ((la_waysOfTest_33 h247_ (la_waysOfTest_26 (la_waysOfTest_30 h247_) h230_))).elim
          exact (la_waysOfTest_15 h43_ h52_)
        intro g75
        rintro ⟨h263_, ⟨h264_, ⟨h265_, ⟨h266_, ⟨h267_, ⟨h268_, ⟨h269_, ⟨h270_, ⟨h271_, h272_⟩⟩⟩⟩⟩⟩⟩⟩⟩
        have e273_ : (if (639 : Int) = 639 then g64 74 639 - 1 else g64 74 639 : Int) = g64 74 639 - 1 := if_pos la_waysOfTest_8
        refine ⟨h263_, ?_⟩
        refine ⟨h264_, ?_⟩
        refine ⟨h265_, ?_⟩
        refine ⟨h266_, ?_⟩
        refine ⟨?_, ?_⟩
        · skip
          intro kv6
          intro h274_
          have h275_ := (h28_ (S 1148 0))
          have h276_ := (h28_ (S 1148 0 + 1))
          have h277_ := (h28_ p2)
          have h278_ := ((h239_ (S 1148 0)) h41_)
          have h279_ := ((h239_ kv6) h274_)
          have h280_ := ((h270_ kv6) h279_)
          have h281_ := ((h270_ (S 1148 0)) h278_)
          exact h280_
        refine ⟨h271_, ?_⟩
        exact (la_waysOfTest_23 h241_ h272_)
      intro h282_
      refine ⟨?_, ?_⟩
      · skip
        refine ⟨h5_, ?_⟩
        refine ⟨h6_, ?_⟩
        refine ⟨h7_, ?_⟩
        refine ⟨h8_, ?_⟩
        refine ⟨h9_, ?_⟩
        refine ⟨h10_, ?_⟩
        refine ⟨h11_, ?_⟩
        refine ⟨h12_, ?_⟩
        refine ⟨h13_, ?_⟩
        refine ⟨h14_, ?_⟩
        refine ⟨h15_, ?_⟩
        refine ⟨h16_, ?_⟩
        refine ⟨h17_, ?_⟩
        refine ⟨h18_, ?_⟩
        refine ⟨h19_, ?_⟩
        refine ⟨h20_, ?_⟩
        refine ⟨h21_, ?_⟩
        refine ⟨h235_, ?_⟩
        refine ⟨(sm_ST_F h232_ (la_waysOfTest_3 h15_) (sm_F1_up sm_F1_rf (Int.le_refl _)) sm_F1_rf sm_F1_rf sm_F1_rf sm_F1_rf), ?_⟩
        refine ⟨h233_, ?_⟩
        refine ⟨h234_, ?_⟩
        refine ⟨h26_, ?_⟩
        refine ⟨h27_, ?_⟩
        refine ⟨h28_, ?_⟩
        refine ⟨h240_, ?_⟩
        refine ⟨?_, ?_⟩
        · skip
          have h283_ := (h28_ (S 1148 0))
          have h284_ := (h28_ (S 1148 0 + 1))
          have h285_ := (h28_ p2)
          have h286_ := ((h239_ (S 1148 0)) h41_)
          have e287_ : (if (639 : Int) = 639 then g64 74 639 - 1 else g64 74 639 : Int) = g64 74 639 - 1 := if_pos la_waysOfTest_8
          exact (la_waysOfTest_31 h42_ h46_ h236_ e287_)
        refine ⟨?_, ?_⟩
        · skip
          have h288_ := (h28_ (S 1148 0))
          have h289_ := (h28_ (S 1148 0 + 1))
          have h290_ := (h28_ p2)
          have h291_ := ((h239_ (S 1148 0)) h41_)
          have e292_ : (if (639 : Int) = 639 then g64 74 639 - 1 else g64 74 639 : Int) = g64 74 639 - 1 := if_pos la_waysOfTest_8
          exact (la_waysOfTest_32 h31_ h236_ e292_)
        refine ⟨(la_waysOfTest_19 h32_ h237_), ?_⟩
        refine ⟨(la_waysOfTest_20 h33_ h237_), ?_⟩
        refine ⟨(la_waysOfTest_21 h34_ h237_), ?_⟩
        refine ⟨h35_, ?_⟩
        refine ⟨h36_, ?_⟩
        refine ⟨h37_, ?_⟩
        refine ⟨h238_, ?_⟩
        refine ⟨h39_, ?_⟩
        refine ⟨h47_, ?_⟩
        refine ⟨?_, ?_⟩
        · skip
          have h293_ := (h28_ (S 1148 0))
          have h294_ := (h28_ (S 1148 0 + 1))
          have h295_ := (h28_ p2)
          have h296_ := ((h239_ (S 1148 0)) h41_)
          have e297_ : (if (639 : Int) = 639 then g64 74 639 - 1 else g64 74 639 : Int) = g64 74 639 - 1 := if_pos la_waysOfTest_8
          exact (la_waysOfTest_34 h42_ h48_ h236_ e297_)
        exact (la_waysOfTest_15 h43_ h49_)
      intro g81
      rintro ⟨h298_, ⟨h299_, ⟨h300_, ⟨h301_, ⟨h302_, ⟨h303_, ⟨h304_, ⟨h305_, ⟨h306_, h307_⟩⟩⟩⟩⟩⟩⟩⟩⟩
      have e308_ : (if (639 : Int) = 639 then g64 74 639 - 1 else g64 74 639 : Int) = g64 74 639 - 1 := if_pos la_waysOfTest_8
      refine ⟨?_, ?_⟩
      · skip
        intro h309_
        refine ⟨h298_, ?_⟩
        refine ⟨h299_, ?_⟩
        refine ⟨h300_, ?_⟩
        refine ⟨h301_, ?_⟩
        refine ⟨?_, ?_⟩
        · skip
          intro kv7
          intro h310_
          have h311_ := (h28_ (S 1148 0))
          have h312_ := (h28_ (S 1148 0 + 1))
          have h313_ := (h28_ p2)
          have h314_ := ((h239_ kv7) h310_)
          have h315_ := ((h239_ (S 1148 0)) h41_)
          have h316_ := ((h305_ kv7) h314_)
          have h317_ := ((h305_ (S 1148 0)) h315_)
          exact h316_
        refine ⟨h306_, ?_⟩
        exact (la_waysOfTest_23 h241_ h307_)
      intro h318_
      refine ⟨?_, ?_⟩
      · skip
        intro h319_
        refine ⟨h298_, ?_⟩
        refine ⟨h299_, ?_⟩
        refine ⟨h300_, ?_⟩
        refine ⟨h301_, ?_⟩
        refine ⟨?_, ?_⟩
        · skip
          intro kv8
          intro h320_
          have h321_ := (h28_ (S 1148 0))
          have h322_ := (h28_ (S 1148 0 + 1))
          have h323_ := (h28_ p2)
          have h324_ := ((h239_ kv8) h320_)
          have h325_ := ((h239_ (S 1148 0)) h41_)
          have h326_ := ((h305_ kv8) h324_)
          have h327_ := ((h305_ (S 1148 0)) h325_)
          exact h326_
        refine ⟨h306_, ?_⟩
        exact (la_waysOfTest_23 h241_ h307_)
      intro h328_
      refine ⟨?_, ?_⟩
      · skip
        refine ⟨h5_, ?_⟩
        refine ⟨h6_, ?_⟩
        refine ⟨h7_, ?_⟩
        refine ⟨h8_, ?_⟩
        refine ⟨h9_, ?_⟩
        refine ⟨h10_, ?_⟩
        refine ⟨h11_, ?_⟩
        refine ⟨h12_, ?_⟩
        refine ⟨h13_, ?_⟩
        refine ⟨h14_, ?_⟩
        refine ⟨h15_, ?_⟩
        refine ⟨h16_, ?_⟩
        refine ⟨h17_, ?_⟩
        refine ⟨h18_, ?_⟩
        refine ⟨h19_, ?_⟩
        refine ⟨h20_, ?_⟩
        refine ⟨h21_, ?_⟩
        refine ⟨h301_, ?_⟩
        refine ⟨h298_, ?_⟩
        refine ⟨h299_, ?_⟩
        refine ⟨h300_, ?_⟩
        refine ⟨h26_, ?_⟩
        refine ⟨h27_, ?_⟩
        refine ⟨h28_, ?_⟩
        refine ⟨h306_, ?_⟩
        refine ⟨(la_waysOfTest_35 h42_ h46_ h236_ h302_ e308_), ?_⟩
        refine ⟨(la_waysOfTest_36 h42_ h59_ h236_ h302_ e308_), ?_⟩
        refine ⟨(la_waysOfTest_37 h32_ h237_ h303_), ?_⟩
        refine ⟨(la_waysOfTest_38 h33_ h237_ h303_), ?_⟩
        refine ⟨(la_waysOfTest_39 h34_ h237_ h303_), ?_⟩
        refine ⟨h35_, ?_⟩
        refine ⟨h36_, ?_⟩
        refine ⟨h37_, ?_⟩
        refine ⟨h304_, ?_⟩
        refine ⟨h50_, ?_⟩
        refine ⟨h51_, ?_⟩
        refine ⟨?_, ?_⟩
        · skip
          have h329_ := (h28_ (S 1148 0))
          have h330_ := (h28_ (S 1148 0 + 1))
          have h331_ := (h28_ p2)
          have h332_ := ((h239_ (S 1148 0)) h41_)
          have h333_ := ((h305_ (S 1148 0)) h332_)
          exact ((la_waysOfTest_33 h328_ (la_waysOfTest_26 (la_waysOfTest_30 h328_) h230_))).elim
        exact (la_waysOfTest_15 h43_ h52_)
      intro g87
      rintro ⟨h334_, ⟨h335_, ⟨h336_, ⟨h337_, ⟨h338_, ⟨h339_, ⟨h340_, ⟨h341_, ⟨h342_, h343_⟩⟩⟩⟩⟩⟩⟩⟩⟩
      refine ⟨h334_, ?_⟩
      refine ⟨h335_, ?_⟩
      refine ⟨h336_, ?_⟩
      refine ⟨h337_, ?_⟩
      refine ⟨?_, ?_⟩
      · skip
        intro kv9
        intro h344_
        have h345_ := (h28_ (S 1148 0))
        have h346_ := (h28_ (S 1148 0 + 1))
        have h347_ := (h28_ p2)
        have h348_ := ((h239_ kv9) h344_)
        have h349_ := ((h239_ (S 1148 0)) h41_)
        have h350_ := (h341_ kv9)
        have h351_ := ((h305_ kv9) h348_)
        have h352_ := ((h305_ (S 1148 0)) h349_)
        have h353_ := (h350_ h351_)
        exact h353_
      refine ⟨h342_, ?_⟩
      exact (la_waysOfTest_40 h241_ h307_ h343_)
    refine ⟨?_, ?_⟩
    · skip
      intro h354_
      exact trivial
    intro h355_
    have h356_ := (h54_ (la_waysOfTest_41 h355_))
    exact trivial
  refine ⟨?_, ?_⟩
  · skip
    intro h357_
    exact trivial
  intro h358_
  have h359_ := (h54_ (la_waysOfTest_41 h358_))
  exact trivial
set_option maxRecDepth 8000 in
set_option maxHeartbeats 2000000 in
theorem t_waysOfTest : ∀ (p1 : Int) (p2 : Int) (p3 : Int) (S : sv_S), sm_ok S → sv_R p1 → sv_R p2 → sv_R p3 → (29 ≤ (S 1071 0) ∧ (S 1071 0) ≤ 127 ∧ 31 ≤ (S 1008 0) ∧ (S 1008 0) ≤ 90 ∧ 1 ≤ (S 1032 0) ∧ (S 1032 0) ≤ 11 ∧ 0 ≤ (S 1055 0) ∧ (S 1055 0) ≤ 19 ∧ (S 1071 0) = 29 + 6 * ((S 1032 0) - 1) + 2 * (S 1055 0) ∧ 0 ≤ (S 1046 0) ∧ (S 1046 0) + 2 * (S 1032 0) ≤ 500 ∧ sm_PD (S 1046 0) (S 1032 0) (S 1071 0) (S 1008 0) ∧ 0 ≤ (S 1071 0) * ((S 1008 0) + 1) ∧ (S 1071 0) * ((S 1008 0) + 1) ≤ 11557 ∧ 31 ≤ (S 1007 0) ∧ (S 1007 0) ≤ 400 ∧ sm_LN (S 4) 400 (S 1007 0) ∧ (S 75 639) = 647340 ∧ sm_ST (S 71) (S 74) (S 75) (S 78) (S 79) (S 80) (S 27) (S 1100007) (S 1100023) (S 1100024) (S 1046 0) ((S 1046 0) + 2 * (S 1032 0)) (S 1127 0) ∧ 465000 ≤ (S 1127 0) ∧ (S 1127 0) + sm_hs (S 71) (S 1100007) ≤ 635000 ∧ sm_NH (S 1100007) ∧ sm_CT (S 26) (S 27) (S 28) (S 29) (S 1100007) (S 1100023) (S 1100024) (S 1100025) (S 21) (S 1046 0) (S 1032 0) (S 1008 0) (S 1055 0) ∧ (∀ k : Int, (S 1046 0) ≤ k → k < ((S 1046 0) + 2 * (S 1032 0)) → (S 1100007 k) = 1) ∧ sm_DR (S 72) (S 71) (S 1046 0) ∧ 0 ≤ (S 74 639) ∧ (S 74 639) ≤ 400 ∧ 0 ≤ (S 78 639) ∧ (S 78 639) ≤ 40 ∧ (S 78 639) = sm_dp (S 1100024) (S 1100031 0) ∧ -1 ≤ (S 1100031 0) ∧ (S 1100031 0) < (S 1046 0) ∧ (0 ≤ (S 1100031 0) → (S 26 (S 1100031 0)) = 27) ∧ sm_TC (S 79) (S 80) (S 27) (S 1100007) (S 1100023) (S 1100024) 25560 (S 1100031 0) ∧ 0 ≤ (S 1148 0) ∧ (S 1148 0) < (S 1046 0) ∧ (S 71 (S 1148 0)) = 1 ∧ (S 74 639) = (S 1100007 (S 1148 0)) ∧ (S 1100031 0) = (S 1100023 (S 1148 0)) ∧ 0 ≤ p3 ∧ p3 < 647800 ∧ 1 ≤ (S 1100007 (S 1148 0)) ∧ (S 1148 0) + 1 < (S 1046 0) ∧ (S 1100007 ((S 1148 0) + 1)) = (S 1100007 (S 1148 0)) + (-1) ∧ (S 1100023 ((S 1148 0) + 1)) = (S 1100023 (S 1148 0)) ∧ 0 ≤ p2 ∧ p2 < (S 1046 0) ∧ (S 1100023 p2) = (S 1100023 (S 1148 0)) ∧ (p1 = 22 → (S 1100007 p2) = (S 1100007 (S 1148 0)) - 1) ∧ (¬ p1 = 22 → (S 1100007 p2) = (S 1100007 (S 1148 0)))) → sv_T sm_XS sm_cs sm_L sm_sh 5 (q_waysOfTest p1 p2 p3 S) 269 0 (lv_args 0 [.ref 0, sv_I p1, sv_I p2, sv_I p3]) [] S := by
  intro p1 p2 p3 S hok hp1 hp2 hp3 hpre
  have h := f_waysOfTest p1 p2 p3 S hok hp1 hp2 hp3 hpre
  have hM := sm_h269
  show sv_T sm_XS sm_cs sm_L sm_sh 5 (q_waysOfTest p1 p2 p3 S) 269 0 [(0, .ref 0), (1, sv_I p1), (2, sv_I p2), (3, sv_I p3)] [] S
  have k1 : (sm_CT (S 26) (S 27) (S 28) (S 29) (S 1100007) (S 1100023) (S 1100024) (S 1100025) (S 21) (S 1046 0) (S 1032 0) (S 1008 0) (S 1055 0) → 0 ≤ (S 1148 0) → (S 1148 0) < (S 1046 0) → 0 ≤ (S 1100007 (S 1148 0)) ∧ (S 1100007 (S 1148 0)) ≤ 396 ∧ -1 ≤ (S 1100023 (S 1148 0)) ∧ (S 1100023 (S 1148 0)) < (S 1148 0)) := fun h h0 h1 => by have q := sm_ct_0 h _ h0 h1; exact ⟨q.2.2.2.2.1, q.2.2.2.2.2.1, q.2.2.2.2.2.2.2.1, q.2.2.2.2.2.2.2.2.1⟩
  have h := h k1
  refine sv_aload_n hM dX12_waysOfTest_0 rfl rfl ?_
  refine sv_iload_n hM dX12_waysOfTest_1 rfl rfl ?_
  obtain ⟨o2, h⟩ := h
  refine sv_callV hM dX12_waysOfTest_2 sm_iv_1283 (by decide) (sm_a0 _) rfl rfl (Nat.le_of_ble_eq_true rfl) sm_h221 (Nat.le_of_ble_eq_true rfl) (Nat.le_of_ble_eq_true rfl) (F' := 1) (Nat.le_of_ble_eq_true rfl) rfl (t_mayBeTrue p3 S hok hp3 o2) (fun v S1 hq => ?_)
  obtain ⟨r7, rfl, hr7, ok4, md5, hpo6⟩ := hq
  obtain rfl : S = S1 := (funext fun j => md5 j (by intro q; cases q)).symm
  show sv_T sm_XS sm_cs sm_L sm_sh 5 (q_waysOfTest p1 p2 p3 S) 269 5 [(0, .ref 0), (1, sv_I p1), (2, sv_I p2), (3, sv_I p3)] [sv_I r7] S
  have h := h r7 hr7 hpo6
  refine sv_istore hM dX12_waysOfTest_5 (by decide) rfl ?_
  show sv_T sm_XS sm_cs sm_L sm_sh 5 (q_waysOfTest p1 p2 p3 S) 269 7 [(0, .ref 0), (1, sv_I p1), (2, sv_I p2), (3, sv_I p3), (4, sv_I r7)] [] S
  refine sv_aload_n hM dX12_waysOfTest_7 rfl rfl ?_
  refine sv_iload_n hM dX12_waysOfTest_8 rfl rfl ?_
  refine sv_callV hM dX12_waysOfTest_9 sm_iv_1286 (by decide) (sm_a0 _) rfl rfl (Nat.le_of_ble_eq_true rfl) sm_h222 (Nat.le_of_ble_eq_true rfl) (Nat.le_of_ble_eq_true rfl) (F' := 1) (Nat.le_of_ble_eq_true rfl) rfl (t_mayBeFalse p3 S ok4 hp3 o2) (fun v S1 hq => ?_)
  obtain ⟨r12, rfl, hr12, ok9, md10, hpo11⟩ := hq
  obtain rfl : S = S1 := (funext fun j => md10 j (by intro q; cases q)).symm
  show sv_T sm_XS sm_cs sm_L sm_sh 5 (q_waysOfTest p1 p2 p3 S) 269 12 [(0, .ref 0), (1, sv_I p1), (2, sv_I p2), (3, sv_I p3), (4, sv_I r7)] [sv_I r12] S
  have h := h r12 hr12 hpo11
  refine sv_istore hM dX12_waysOfTest_12 (by decide) rfl ?_
  show sv_T sm_XS sm_cs sm_L sm_sh 5 (q_waysOfTest p1 p2 p3 S) 269 14 [(0, .ref 0), (1, sv_I p1), (2, sv_I p2), (3, sv_I p3), (4, sv_I r7), (5, sv_I r12)] [] S
  have J93 : ∀ s13 : Int, sv_R s13 → (True) → sv_T sm_XS sm_cs sm_L sm_sh 5 (q_waysOfTest p1 p2 p3 S) 269 27 [(0, .ref 0), (1, sv_I p1), (2, sv_I p2), (3, sv_I p3), (4, sv_I r7), (5, sv_I r12)] [sv_I s13] S := by
    intro s13 hs13 hin14
    have h := h.1 s13 hs13 hin14
    refine sv_istore hM dX12_waysOfTest_27 (by decide) rfl ?_
    show sv_T sm_XS sm_cs sm_L sm_sh 5 (q_waysOfTest p1 p2 p3 S) 269 29 [(0, .ref 0), (1, sv_I p1), (2, sv_I p2), (3, sv_I p3), (4, sv_I r7), (5, sv_I r12), (6, sv_I s13)] [] S
    have J92 : ∀ s15 : Int, sv_R s15 → (True) → sv_T sm_XS sm_cs sm_L sm_sh 5 (q_waysOfTest p1 p2 p3 S) 269 42 [(0, .ref 0), (1, sv_I p1), (2, sv_I p2), (3, sv_I p3), (4, sv_I r7), (5, sv_I r12), (6, sv_I s13)] [sv_I s15] S := by
      intro s15 hs15 hin16
      have h := h.1 s15 hs15 hin16
      refine sv_istore hM dX12_waysOfTest_42 (by decide) rfl ?_
      show sv_T sm_XS sm_cs sm_L sm_sh 5 (q_waysOfTest p1 p2 p3 S) 269 44 [(0, .ref 0), (1, sv_I p1), (2, sv_I p2), (3, sv_I p3), (4, sv_I r7), (5, sv_I r12), (6, sv_I s13), (7, sv_I s15)] [] S
      refine sv_iload hM dX12_waysOfTest_44 rfl rfl ?_
      refine sv_cond_eq hM dX12_waysOfTest_46 hs15 (t := 60) rfl rfl (fun hc => ?_) (fun hc => ?_)
      · have h := h.1 (hc)
        refine sv_aload_n hM dX12_waysOfTest_60 rfl rfl ?_
        refine sv_getA hM dX12_waysOfTest_61 sm_fl_235 (sm_a0 _) sm_k125 rfl ?_
        refine sv_sipush (d := (639 : Int)) hM dX12_waysOfTest_64 rfl rfl ?_
        refine sv_dup2 hM dX12_waysOfTest_67 rfl ?_
        obtain ⟨o17, h⟩ := h
        have k18 : sv_R (S 74 (639 : Int)) := sm_okI ok9 sm_r74 (639 : Int)
        have h := h k18
        refine sv_iald hM dX12_waysOfTest_68 (sm_a74 _) (by decide) o17.1 o17.2 rfl (x := (S 74 (639 : Int))) rfl ?_
        refine sv_iconst (d := (1 : Int)) hM dX12_waysOfTest_69 rfl rfl ?_
        refine sv_isub hM dX12_waysOfTest_70 rfl ?_
        obtain ⟨o19, h⟩ := h
        refine sv_iast sm_X hM dX12_waysOfTest_71 (sm_a74 _) (by decide) o17.1 o17.2 rfl ?_
        have ok20 : sm_ok (sv_up S 74 (639 : Int) ((S 74 (639 : Int)) - (1 : Int))) := sm_upI ok9 sm_r74 o19
        have md21 : sv_mod [68, 69, 70, 81, 82, 83, 84, 85, 86, 71, 74, 75, 1127, 78, 79, 80, 72, 76, 77, 1143, 1144, 5, 1011, 1150, 1149, 1145, 1113, 1111, 1112, 1100031] S (sv_up S 74 (639 : Int) ((S 74 (639 : Int)) - (1 : Int))) := sv_mod.up sv_mod.rf (by decide)
        refine sv_iload hM dX12_waysOfTest_72 rfl rfl ?_
        refine sv_cond_eq hM dX12_waysOfTest_74 hs13 (t := 81) rfl rfl (fun hc => ?_) (fun hc => ?_)
        · have h := h.1 (hc)
          refine sv_iload hM dX12_waysOfTest_81 rfl rfl ?_
          refine sv_cond_eq hM dX12_waysOfTest_83 hs15 (t := 97) rfl rfl (fun hc => ?_) (fun hc => ?_)
          · have h := h.1 (hc)
            exact sv_vret hM dX12_waysOfTest_97 rfl ⟨rfl, ok20, md21, h⟩
          · have h := h.2 (hc)
            refine sv_iload_n hM dX12_waysOfTest_86 rfl rfl ?_
            refine sv_bipush (d := (22 : Int)) hM dX12_waysOfTest_87 rfl rfl ?_
            refine sv_icmp_ne hM dX12_waysOfTest_89 hp1 (⟨by decide, by decide⟩ : sv_R (22 : Int)) (t := 97) rfl rfl (fun hc => ?_) (fun hc => ?_)
            · have h := h.1 (hc)
              exact sv_vret hM dX12_waysOfTest_97 rfl ⟨rfl, ok20, md21, h⟩
            · have h := h.2 (hc)
              refine sv_aload_n hM dX12_waysOfTest_92 rfl rfl ?_
              refine sv_iload_n hM dX12_waysOfTest_93 rfl rfl ?_
              obtain ⟨o22, h⟩ := h
              refine sv_callV hM dX12_waysOfTest_94 sm_iv_1274 (by decide) (sm_a0 _) rfl rfl (Nat.le_of_ble_eq_true rfl) sm_h259 (Nat.le_of_ble_eq_true rfl) (Nat.le_of_ble_eq_true rfl) (F' := 4) (Nat.le_of_ble_eq_true rfl) rfl (t_to p2 (sv_up S 74 (639 : Int) ((S 74 (639 : Int)) - (1 : Int))) ok20 hp2 o22) (fun v S1 hq => ?_)
              obtain ⟨rfl, ok24, md25, hpo26⟩ := hq
              obtain ⟨g23, rfl⟩ : ∃ g, S1 = sv_sts (sv_up S 74 (639 : Int) ((S 74 (639 : Int)) - (1 : Int))) [68, 69, 70, 81, 82, 83, 84, 85, 86, 71, 74, 75, 1127, 78, 79, 80, 72, 76, 77, 1150] g := ⟨_, md25.eq⟩
              show sv_T sm_XS sm_cs sm_L sm_sh 5 (q_waysOfTest p1 p2 p3 S) 269 97 [(0, .ref 0), (1, sv_I p1), (2, sv_I p2), (3, sv_I p3), (4, sv_I r7), (5, sv_I r12), (6, sv_I s13), (7, sv_I s15)] [] (sv_sts (sv_up S 74 (639 : Int) ((S 74 (639 : Int)) - (1 : Int))) [68, 69, 70, 81, 82, 83, 84, 85, 86, 71, 74, 75, 1127, 78, 79, 80, 72, 76, 77, 1150] g23)
              have md27 : sv_mod [68, 69, 70, 81, 82, 83, 84, 85, 86, 71, 74, 75, 1127, 78, 79, 80, 72, 76, 77, 1143, 1144, 5, 1011, 1150, 1149, 1145, 1113, 1111, 1112, 1100031] S (sv_sts (sv_up S 74 (639 : Int) ((S 74 (639 : Int)) - (1 : Int))) [68, 69, 70, 81, 82, 83, 84, 85, 86, 71, 74, 75, 1127, 78, 79, 80, 72, 76, 77, 1150] g23) := sv_mod.sts md21 (by decide)
              have h := h g23 hpo26
              exact sv_vret hM dX12_waysOfTest_97 rfl ⟨rfl, ok24, md27, h⟩
        · have h := h.2 (hc)
          refine sv_aload_n hM dX12_waysOfTest_77 rfl rfl ?_
          obtain ⟨o28, h⟩ := h
          refine sv_callV hM dX12_waysOfTest_78 sm_iv_1222 (by decide) (sm_a0 _) rfl rfl (Nat.le_of_ble_eq_true rfl) sm_h258 (Nat.le_of_ble_eq_true rfl) (Nat.le_of_ble_eq_true rfl) (F' := 4) (Nat.le_of_ble_eq_true rfl) rfl (t_on  (sv_up S 74 (639 : Int) ((S 74 (639 : Int)) - (1 : Int))) ok20 o28) (fun v S1 hq => ?_)
          obtain ⟨rfl, ok30, md31, hpo32⟩ := hq
          obtain ⟨g29, rfl⟩ : ∃ g, S1 = sv_sts (sv_up S 74 (639 : Int) ((S 74 (639 : Int)) - (1 : Int))) [68, 69, 70, 81, 82, 83, 84, 85, 86, 71, 74, 75, 1127, 78, 79, 80, 72, 76, 77, 1150] g := ⟨_, md31.eq⟩
          show sv_T sm_XS sm_cs sm_L sm_sh 5 (q_waysOfTest p1 p2 p3 S) 269 81 [(0, .ref 0), (1, sv_I p1), (2, sv_I p2), (3, sv_I p3), (4, sv_I r7), (5, sv_I r12), (6, sv_I s13), (7, sv_I s15)] [] (sv_sts (sv_up S 74 (639 : Int) ((S 74 (639 : Int)) - (1 : Int))) [68, 69, 70, 81, 82, 83, 84, 85, 86, 71, 74, 75, 1127, 78, 79, 80, 72, 76, 77, 1150] g29)
          have md33 : sv_mod [68, 69, 70, 81, 82, 83, 84, 85, 86, 71, 74, 75, 1127, 78, 79, 80, 72, 76, 77, 1143, 1144, 5, 1011, 1150, 1149, 1145, 1113, 1111, 1112, 1100031] S (sv_sts (sv_up S 74 (639 : Int) ((S 74 (639 : Int)) - (1 : Int))) [68, 69, 70, 81, 82, 83, 84, 85, 86, 71, 74, 75, 1127, 78, 79, 80, 72, 76, 77, 1150] g29) := sv_mod.sts md21 (by decide)
          have h := h g29 hpo32
          refine sv_iload hM dX12_waysOfTest_81 rfl rfl ?_
          refine sv_cond_eq hM dX12_waysOfTest_83 hs15 (t := 97) rfl rfl (fun hc => ?_) (fun hc => ?_)
          · have h := h.1 (hc)
            exact sv_vret hM dX12_waysOfTest_97 rfl ⟨rfl, ok30, md33, h⟩
          · have h := h.2 (hc)
            refine sv_iload_n hM dX12_waysOfTest_86 rfl rfl ?_
            refine sv_bipush (d := (22 : Int)) hM dX12_waysOfTest_87 rfl rfl ?_
            refine sv_icmp_ne hM dX12_waysOfTest_89 hp1 (⟨by decide, by decide⟩ : sv_R (22 : Int)) (t := 97) rfl rfl (fun hc => ?_) (fun hc => ?_)
            · have h := h.1 (hc)
              exact sv_vret hM dX12_waysOfTest_97 rfl ⟨rfl, ok30, md33, h⟩
            · have h := h.2 (hc)
              refine sv_aload_n hM dX12_waysOfTest_92 rfl rfl ?_
              refine sv_iload_n hM dX12_waysOfTest_93 rfl rfl ?_
              obtain ⟨o34, h⟩ := h
              refine sv_callV hM dX12_waysOfTest_94 sm_iv_1274 (by decide) (sm_a0 _) rfl rfl (Nat.le_of_ble_eq_true rfl) sm_h259 (Nat.le_of_ble_eq_true rfl) (Nat.le_of_ble_eq_true rfl) (F' := 4) (Nat.le_of_ble_eq_true rfl) rfl (t_to p2 (sv_sts (sv_up S 74 (639 : Int) ((S 74 (639 : Int)) - (1 : Int))) [68, 69, 70, 81, 82, 83, 84, 85, 86, 71, 74, 75, 1127, 78, 79, 80, 72, 76, 77, 1150] g29) ok30 hp2 o34) (fun v S1 hq => ?_)
              obtain ⟨rfl, ok36, md37, hpo38⟩ := hq
              obtain ⟨g35, rfl⟩ : ∃ g, S1 = sv_sts (sv_sts (sv_up S 74 (639 : Int) ((S 74 (639 : Int)) - (1 : Int))) [68, 69, 70, 81, 82, 83, 84, 85, 86, 71, 74, 75, 1127, 78, 79, 80, 72, 76, 77, 1150] g29) [68, 69, 70, 81, 82, 83, 84, 85, 86, 71, 74, 75, 1127, 78, 79, 80, 72, 76, 77, 1150] g := ⟨_, md37.eq⟩
              show sv_T sm_XS sm_cs sm_L sm_sh 5 (q_waysOfTest p1 p2 p3 S) 269 97 [(0, .ref 0), (1, sv_I p1), (2, sv_I p2), (3, sv_I p3), (4, sv_I r7), (5, sv_I r12), (6, sv_I s13), (7, sv_I s15)] [] (sv_sts (sv_sts (sv_up S 74 (639 : Int) ((S 74 (639 : Int)) - (1 : Int))) [68, 69, 70, 81, 82, 83, 84, 85, 86, 71, 74, 75, 1127, 78, 79, 80, 72, 76, 77, 1150] g29) [68, 69, 70, 81, 82, 83, 84, 85, 86, 71, 74, 75, 1127, 78, 79, 80, 72, 76, 77, 1150] g35)
              have md39 : sv_mod [68, 69, 70, 81, 82, 83, 84, 85, 86, 71, 74, 75, 1127, 78, 79, 80, 72, 76, 77, 1143, 1144, 5, 1011, 1150, 1149, 1145, 1113, 1111, 1112, 1100031] S (sv_sts (sv_sts (sv_up S 74 (639 : Int) ((S 74 (639 : Int)) - (1 : Int))) [68, 69, 70, 81, 82, 83, 84, 85, 86, 71, 74, 75, 1127, 78, 79, 80, 72, 76, 77, 1150] g29) [68, 69, 70, 81, 82, 83, 84, 85, 86, 71, 74, 75, 1127, 78, 79, 80, 72, 76, 77, 1150] g35) := sv_mod.sts md33 (by decide)
              have h := h g35 hpo38
              exact sv_vret hM dX12_waysOfTest_97 rfl ⟨rfl, ok36, md39, h⟩
      · have h := h.2 (hc)
        refine sv_iload_n hM dX12_waysOfTest_49 rfl rfl ?_
        refine sv_bipush (d := (22 : Int)) hM dX12_waysOfTest_50 rfl rfl ?_
        refine sv_icmp_eq hM dX12_waysOfTest_52 hp1 (⟨by decide, by decide⟩ : sv_R (22 : Int)) (t := 60) rfl rfl (fun hc => ?_) (fun hc => ?_)
        · have h := h.1 (hc)
          refine sv_aload_n hM dX12_waysOfTest_60 rfl rfl ?_
          refine sv_getA hM dX12_waysOfTest_61 sm_fl_235 (sm_a0 _) sm_k125 rfl ?_
          refine sv_sipush (d := (639 : Int)) hM dX12_waysOfTest_64 rfl rfl ?_
          refine sv_dup2 hM dX12_waysOfTest_67 rfl ?_
          obtain ⟨o40, h⟩ := h
          have k41 : sv_R (S 74 (639 : Int)) := sm_okI ok9 sm_r74 (639 : Int)
          have h := h k41
          refine sv_iald hM dX12_waysOfTest_68 (sm_a74 _) (by decide) o40.1 o40.2 rfl (x := (S 74 (639 : Int))) rfl ?_
          refine sv_iconst (d := (1 : Int)) hM dX12_waysOfTest_69 rfl rfl ?_
          refine sv_isub hM dX12_waysOfTest_70 rfl ?_
          obtain ⟨o42, h⟩ := h
          refine sv_iast sm_X hM dX12_waysOfTest_71 (sm_a74 _) (by decide) o40.1 o40.2 rfl ?_
          have ok43 : sm_ok (sv_up S 74 (639 : Int) ((S 74 (639 : Int)) - (1 : Int))) := sm_upI ok9 sm_r74 o42
          have md44 : sv_mod [68, 69, 70, 81, 82, 83, 84, 85, 86, 71, 74, 75, 1127, 78, 79, 80, 72, 76, 77, 1143, 1144, 5, 1011, 1150, 1149, 1145, 1113, 1111, 1112, 1100031] S (sv_up S 74 (639 : Int) ((S 74 (639 : Int)) - (1 : Int))) := sv_mod.up sv_mod.rf (by decide)
          refine sv_iload hM dX12_waysOfTest_72 rfl rfl ?_
          refine sv_cond_eq hM dX12_waysOfTest_74 hs13 (t := 81) rfl rfl (fun hc => ?_) (fun hc => ?_)
          · have h := h.1 (hc)
            refine sv_iload hM dX12_waysOfTest_81 rfl rfl ?_
            refine sv_cond_eq hM dX12_waysOfTest_83 hs15 (t := 97) rfl rfl (fun hc => ?_) (fun hc => ?_)
            · have h := h.1 (hc)
              exact sv_vret hM dX12_waysOfTest_97 rfl ⟨rfl, ok43, md44, h⟩
            · have h := h.2 (hc)
              refine sv_iload_n hM dX12_waysOfTest_86 rfl rfl ?_
              refine sv_bipush (d := (22 : Int)) hM dX12_waysOfTest_87 rfl rfl ?_
              refine sv_icmp_ne hM dX12_waysOfTest_89 hp1 (⟨by decide, by decide⟩ : sv_R (22 : Int)) (t := 97) rfl rfl (fun hc => ?_) (fun hc => ?_)
              · have h := h.1 (hc)
                exact sv_vret hM dX12_waysOfTest_97 rfl ⟨rfl, ok43, md44, h⟩
              · have h := h.2 (hc)
                refine sv_aload_n hM dX12_waysOfTest_92 rfl rfl ?_
                refine sv_iload_n hM dX12_waysOfTest_93 rfl rfl ?_
                obtain ⟨o45, h⟩ := h
                refine sv_callV hM dX12_waysOfTest_94 sm_iv_1274 (by decide) (sm_a0 _) rfl rfl (Nat.le_of_ble_eq_true rfl) sm_h259 (Nat.le_of_ble_eq_true rfl) (Nat.le_of_ble_eq_true rfl) (F' := 4) (Nat.le_of_ble_eq_true rfl) rfl (t_to p2 (sv_up S 74 (639 : Int) ((S 74 (639 : Int)) - (1 : Int))) ok43 hp2 o45) (fun v S1 hq => ?_)
                obtain ⟨rfl, ok47, md48, hpo49⟩ := hq
                obtain ⟨g46, rfl⟩ : ∃ g, S1 = sv_sts (sv_up S 74 (639 : Int) ((S 74 (639 : Int)) - (1 : Int))) [68, 69, 70, 81, 82, 83, 84, 85, 86, 71, 74, 75, 1127, 78, 79, 80, 72, 76, 77, 1150] g := ⟨_, md48.eq⟩
                show sv_T sm_XS sm_cs sm_L sm_sh 5 (q_waysOfTest p1 p2 p3 S) 269 97 [(0, .ref 0), (1, sv_I p1), (2, sv_I p2), (3, sv_I p3), (4, sv_I r7), (5, sv_I r12), (6, sv_I s13), (7, sv_I s15)] [] (sv_sts (sv_up S 74 (639 : Int) ((S 74 (639 : Int)) - (1 : Int))) [68, 69, 70, 81, 82, 83, 84, 85, 86, 71, 74, 75, 1127, 78, 79, 80, 72, 76, 77, 1150] g46)
                have md50 : sv_mod [68, 69, 70, 81, 82, 83, 84, 85, 86, 71, 74, 75, 1127, 78, 79, 80, 72, 76, 77, 1143, 1144, 5, 1011, 1150, 1149, 1145, 1113, 1111, 1112, 1100031] S (sv_sts (sv_up S 74 (639 : Int) ((S 74 (639 : Int)) - (1 : Int))) [68, 69, 70, 81, 82, 83, 84, 85, 86, 71, 74, 75, 1127, 78, 79, 80, 72, 76, 77, 1150] g46) := sv_mod.sts md44 (by decide)
                have h := h g46 hpo49
                exact sv_vret hM dX12_waysOfTest_97 rfl ⟨rfl, ok47, md50, h⟩
          · have h := h.2 (hc)
            refine sv_aload_n hM dX12_waysOfTest_77 rfl rfl ?_
            obtain ⟨o51, h⟩ := h
            refine sv_callV hM dX12_waysOfTest_78 sm_iv_1222 (by decide) (sm_a0 _) rfl rfl (Nat.le_of_ble_eq_true rfl) sm_h258 (Nat.le_of_ble_eq_true rfl) (Nat.le_of_ble_eq_true rfl) (F' := 4) (Nat.le_of_ble_eq_true rfl) rfl (t_on  (sv_up S 74 (639 : Int) ((S 74 (639 : Int)) - (1 : Int))) ok43 o51) (fun v S1 hq => ?_)
            obtain ⟨rfl, ok53, md54, hpo55⟩ := hq
            obtain ⟨g52, rfl⟩ : ∃ g, S1 = sv_sts (sv_up S 74 (639 : Int) ((S 74 (639 : Int)) - (1 : Int))) [68, 69, 70, 81, 82, 83, 84, 85, 86, 71, 74, 75, 1127, 78, 79, 80, 72, 76, 77, 1150] g := ⟨_, md54.eq⟩
            show sv_T sm_XS sm_cs sm_L sm_sh 5 (q_waysOfTest p1 p2 p3 S) 269 81 [(0, .ref 0), (1, sv_I p1), (2, sv_I p2), (3, sv_I p3), (4, sv_I r7), (5, sv_I r12), (6, sv_I s13), (7, sv_I s15)] [] (sv_sts (sv_up S 74 (639 : Int) ((S 74 (639 : Int)) - (1 : Int))) [68, 69, 70, 81, 82, 83, 84, 85, 86, 71, 74, 75, 1127, 78, 79, 80, 72, 76, 77, 1150] g52)
            have md56 : sv_mod [68, 69, 70, 81, 82, 83, 84, 85, 86, 71, 74, 75, 1127, 78, 79, 80, 72, 76, 77, 1143, 1144, 5, 1011, 1150, 1149, 1145, 1113, 1111, 1112, 1100031] S (sv_sts (sv_up S 74 (639 : Int) ((S 74 (639 : Int)) - (1 : Int))) [68, 69, 70, 81, 82, 83, 84, 85, 86, 71, 74, 75, 1127, 78, 79, 80, 72, 76, 77, 1150] g52) := sv_mod.sts md44 (by decide)
            have h := h g52 hpo55
            refine sv_iload hM dX12_waysOfTest_81 rfl rfl ?_
            refine sv_cond_eq hM dX12_waysOfTest_83 hs15 (t := 97) rfl rfl (fun hc => ?_) (fun hc => ?_)
            · have h := h.1 (hc)
              exact sv_vret hM dX12_waysOfTest_97 rfl ⟨rfl, ok53, md56, h⟩
            · have h := h.2 (hc)
              refine sv_iload_n hM dX12_waysOfTest_86 rfl rfl ?_
              refine sv_bipush (d := (22 : Int)) hM dX12_waysOfTest_87 rfl rfl ?_
              refine sv_icmp_ne hM dX12_waysOfTest_89 hp1 (⟨by decide, by decide⟩ : sv_R (22 : Int)) (t := 97) rfl rfl (fun hc => ?_) (fun hc => ?_)
              · have h := h.1 (hc)
                exact sv_vret hM dX12_waysOfTest_97 rfl ⟨rfl, ok53, md56, h⟩
              · have h := h.2 (hc)
                refine sv_aload_n hM dX12_waysOfTest_92 rfl rfl ?_
                refine sv_iload_n hM dX12_waysOfTest_93 rfl rfl ?_
                obtain ⟨o57, h⟩ := h
                refine sv_callV hM dX12_waysOfTest_94 sm_iv_1274 (by decide) (sm_a0 _) rfl rfl (Nat.le_of_ble_eq_true rfl) sm_h259 (Nat.le_of_ble_eq_true rfl) (Nat.le_of_ble_eq_true rfl) (F' := 4) (Nat.le_of_ble_eq_true rfl) rfl (t_to p2 (sv_sts (sv_up S 74 (639 : Int) ((S 74 (639 : Int)) - (1 : Int))) [68, 69, 70, 81, 82, 83, 84, 85, 86, 71, 74, 75, 1127, 78, 79, 80, 72, 76, 77, 1150] g52) ok53 hp2 o57) (fun v S1 hq => ?_)
                obtain ⟨rfl, ok59, md60, hpo61⟩ := hq
                obtain ⟨g58, rfl⟩ : ∃ g, S1 = sv_sts (sv_sts (sv_up S 74 (639 : Int) ((S 74 (639 : Int)) - (1 : Int))) [68, 69, 70, 81, 82, 83, 84, 85, 86, 71, 74, 75, 1127, 78, 79, 80, 72, 76, 77, 1150] g52) [68, 69, 70, 81, 82, 83, 84, 85, 86, 71, 74, 75, 1127, 78, 79, 80, 72, 76, 77, 1150] g := ⟨_, md60.eq⟩
                show sv_T sm_XS sm_cs sm_L sm_sh 5 (q_waysOfTest p1 p2 p3 S) 269 97 [(0, .ref 0), (1, sv_I p1), (2, sv_I p2), (3, sv_I p3), (4, sv_I r7), (5, sv_I r12), (6, sv_I s13), (7, sv_I s15)] [] (sv_sts (sv_sts (sv_up S 74 (639 : Int) ((S 74 (639 : Int)) - (1 : Int))) [68, 69, 70, 81, 82, 83, 84, 85, 86, 71, 74, 75, 1127, 78, 79, 80, 72, 76, 77, 1150] g52) [68, 69, 70, 81, 82, 83, 84, 85, 86, 71, 74, 75, 1127, 78, 79, 80, 72, 76, 77, 1150] g58)
                have md62 : sv_mod [68, 69, 70, 81, 82, 83, 84, 85, 86, 71, 74, 75, 1127, 78, 79, 80, 72, 76, 77, 1143, 1144, 5, 1011, 1150, 1149, 1145, 1113, 1111, 1112, 1100031] S (sv_sts (sv_sts (sv_up S 74 (639 : Int) ((S 74 (639 : Int)) - (1 : Int))) [68, 69, 70, 81, 82, 83, 84, 85, 86, 71, 74, 75, 1127, 78, 79, 80, 72, 76, 77, 1150] g52) [68, 69, 70, 81, 82, 83, 84, 85, 86, 71, 74, 75, 1127, 78, 79, 80, 72, 76, 77, 1150] g58) := sv_mod.sts md56 (by decide)
                have h := h g58 hpo61
                exact sv_vret hM dX12_waysOfTest_97 rfl ⟨rfl, ok59, md62, h⟩
        · have h := h.2 (hc)
          refine sv_aload_n hM dX12_waysOfTest_55 rfl rfl ?_
          refine sv_iload_n hM dX12_waysOfTest_56 rfl rfl ?_
          obtain ⟨o63, h⟩ := h
          refine sv_callV hM dX12_waysOfTest_57 sm_iv_1274 (by decide) (sm_a0 _) rfl rfl (Nat.le_of_ble_eq_true rfl) sm_h259 (Nat.le_of_ble_eq_true rfl) (Nat.le_of_ble_eq_true rfl) (F' := 4) (Nat.le_of_ble_eq_true rfl) rfl (t_to p2 S ok9 hp2 o63) (fun v S1 hq => ?_)
          obtain ⟨rfl, ok65, md66, hpo67⟩ := hq
          obtain ⟨g64, rfl⟩ : ∃ g, S1 = sv_sts S [68, 69, 70, 81, 82, 83, 84, 85, 86, 71, 74, 75, 1127, 78, 79, 80, 72, 76, 77, 1150] g := ⟨_, md66.eq⟩
          show sv_T sm_XS sm_cs sm_L sm_sh 5 (q_waysOfTest p1 p2 p3 S) 269 60 [(0, .ref 0), (1, sv_I p1), (2, sv_I p2), (3, sv_I p3), (4, sv_I r7), (5, sv_I r12), (6, sv_I s13), (7, sv_I s15)] [] (sv_sts S [68, 69, 70, 81, 82, 83, 84, 85, 86, 71, 74, 75, 1127, 78, 79, 80, 72, 76, 77, 1150] g64)
          have md68 : sv_mod [68, 69, 70, 81, 82, 83, 84, 85, 86, 71, 74, 75, 1127, 78, 79, 80, 72, 76, 77, 1143, 1144, 5, 1011, 1150, 1149, 1145, 1113, 1111, 1112, 1100031] S (sv_sts S [68, 69, 70, 81, 82, 83, 84, 85, 86, 71, 74, 75, 1127, 78, 79, 80, 72, 76, 77, 1150] g64) := sv_mod.sts sv_mod.rf (by decide)
          have h := h g64 hpo67
          refine sv_aload_n hM dX12_waysOfTest_60 rfl rfl ?_
          refine sv_getA hM dX12_waysOfTest_61 sm_fl_235 (sm_a0 _) sm_k125 rfl ?_
          refine sv_sipush (d := (639 : Int)) hM dX12_waysOfTest_64 rfl rfl ?_
          refine sv_dup2 hM dX12_waysOfTest_67 rfl ?_
          obtain ⟨o69, h⟩ := h
          have k70 : sv_R (g64 74 (639 : Int)) := sm_okI ok65 sm_r74 (639 : Int)
          have h := h k70
          refine sv_iald hM dX12_waysOfTest_68 (sm_a74 _) (by decide) o69.1 o69.2 rfl (x := (g64 74 (639 : Int))) rfl ?_
          refine sv_iconst (d := (1 : Int)) hM dX12_waysOfTest_69 rfl rfl ?_
          refine sv_isub hM dX12_waysOfTest_70 rfl ?_
          obtain ⟨o71, h⟩ := h
          refine sv_iast sm_X hM dX12_waysOfTest_71 (sm_a74 _) (by decide) o69.1 o69.2 rfl ?_
          have ok72 : sm_ok (sv_up (sv_sts S [68, 69, 70, 81, 82, 83, 84, 85, 86, 71, 74, 75, 1127, 78, 79, 80, 72, 76, 77, 1150] g64) 74 (639 : Int) ((g64 74 (639 : Int)) - (1 : Int))) := sm_upI ok65 sm_r74 o71
          have md73 : sv_mod [68, 69, 70, 81, 82, 83, 84, 85, 86, 71, 74, 75, 1127, 78, 79, 80, 72, 76, 77, 1143, 1144, 5, 1011, 1150, 1149, 1145, 1113, 1111, 1112, 1100031] S (sv_up (sv_sts S [68, 69, 70, 81, 82, 83, 84, 85, 86, 71, 74, 75, 1127, 78, 79, 80, 72, 76, 77, 1150] g64) 74 (639 : Int) ((g64 74 (639 : Int)) - (1 : Int))) := sv_mod.up md68 (by decide)
          refine sv_iload hM dX12_waysOfTest_72 rfl rfl ?_
          refine sv_cond_eq hM dX12_waysOfTest_74 hs13 (t := 81) rfl rfl (fun hc => ?_) (fun hc => ?_)
          · have h := h.1 (hc)
            refine sv_iload hM dX12_waysOfTest_81 rfl rfl ?_
            refine sv_cond_eq hM dX12_waysOfTest_83 hs15 (t := 97) rfl rfl (fun hc => ?_) (fun hc => ?_)
            · have h := h.1 (hc)
              exact sv_vret hM dX12_waysOfTest_97 rfl ⟨rfl, ok72, md73, h⟩
            · have h := h.2 (hc)
              refine sv_iload_n hM dX12_waysOfTest_86 rfl rfl ?_
              refine sv_bipush (d := (22 : Int)) hM dX12_waysOfTest_87 rfl rfl ?_
              refine sv_icmp_ne hM dX12_waysOfTest_89 hp1 (⟨by decide, by decide⟩ : sv_R (22 : Int)) (t := 97) rfl rfl (fun hc => ?_) (fun hc => ?_)
              · have h := h.1 (hc)
                exact sv_vret hM dX12_waysOfTest_97 rfl ⟨rfl, ok72, md73, h⟩
              · have h := h.2 (hc)
                refine sv_aload_n hM dX12_waysOfTest_92 rfl rfl ?_
                refine sv_iload_n hM dX12_waysOfTest_93 rfl rfl ?_
                obtain ⟨o74, h⟩ := h
                refine sv_callV hM dX12_waysOfTest_94 sm_iv_1274 (by decide) (sm_a0 _) rfl rfl (Nat.le_of_ble_eq_true rfl) sm_h259 (Nat.le_of_ble_eq_true rfl) (Nat.le_of_ble_eq_true rfl) (F' := 4) (Nat.le_of_ble_eq_true rfl) rfl (t_to p2 (sv_up (sv_sts S [68, 69, 70, 81, 82, 83, 84, 85, 86, 71, 74, 75, 1127, 78, 79, 80, 72, 76, 77, 1150] g64) 74 (639 : Int) ((g64 74 (639 : Int)) - (1 : Int))) ok72 hp2 o74) (fun v S1 hq => ?_)
                obtain ⟨rfl, ok76, md77, hpo78⟩ := hq
                obtain ⟨g75, rfl⟩ : ∃ g, S1 = sv_sts (sv_up (sv_sts S [68, 69, 70, 81, 82, 83, 84, 85, 86, 71, 74, 75, 1127, 78, 79, 80, 72, 76, 77, 1150] g64) 74 (639 : Int) ((g64 74 (639 : Int)) - (1 : Int))) [68, 69, 70, 81, 82, 83, 84, 85, 86, 71, 74, 75, 1127, 78, 79, 80, 72, 76, 77, 1150] g := ⟨_, md77.eq⟩
                show sv_T sm_XS sm_cs sm_L sm_sh 5 (q_waysOfTest p1 p2 p3 S) 269 97 [(0, .ref 0), (1, sv_I p1), (2, sv_I p2), (3, sv_I p3), (4, sv_I r7), (5, sv_I r12), (6, sv_I s13), (7, sv_I s15)] [] (sv_sts (sv_up (sv_sts S [68, 69, 70, 81, 82, 83, 84, 85, 86, 71, 74, 75, 1127, 78, 79, 80, 72, 76, 77, 1150] g64) 74 (639 : Int) ((g64 74 (639 : Int)) - (1 : Int))) [68, 69, 70, 81, 82, 83, 84, 85, 86, 71, 74, 75, 1127, 78, 79, 80, 72, 76, 77, 1150] g75)
                have md79 : sv_mod [68, 69, 70, 81, 82, 83, 84, 85, 86, 71, 74, 75, 1127, 78, 79, 80, 72, 76, 77, 1143, 1144, 5, 1011, 1150, 1149, 1145, 1113, 1111, 1112, 1100031] S (sv_sts (sv_up (sv_sts S [68, 69, 70, 81, 82, 83, 84, 85, 86, 71, 74, 75, 1127, 78, 79, 80, 72, 76, 77, 1150] g64) 74 (639 : Int) ((g64 74 (639 : Int)) - (1 : Int))) [68, 69, 70, 81, 82, 83, 84, 85, 86, 71, 74, 75, 1127, 78, 79, 80, 72, 76, 77, 1150] g75) := sv_mod.sts md73 (by decide)
                have h := h g75 hpo78
                exact sv_vret hM dX12_waysOfTest_97 rfl ⟨rfl, ok76, md79, h⟩
          · have h := h.2 (hc)
            refine sv_aload_n hM dX12_waysOfTest_77 rfl rfl ?_
            obtain ⟨o80, h⟩ := h
            refine sv_callV hM dX12_waysOfTest_78 sm_iv_1222 (by decide) (sm_a0 _) rfl rfl (Nat.le_of_ble_eq_true rfl) sm_h258 (Nat.le_of_ble_eq_true rfl) (Nat.le_of_ble_eq_true rfl) (F' := 4) (Nat.le_of_ble_eq_true rfl) rfl (t_on  (sv_up (sv_sts S [68, 69, 70, 81, 82, 83, 84, 85, 86, 71, 74, 75, 1127, 78, 79, 80, 72, 76, 77, 1150] g64) 74 (639 : Int) ((g64 74 (639 : Int)) - (1 : Int))) ok72 o80) (fun v S1 hq => ?_)
            obtain ⟨rfl, ok82, md83, hpo84⟩ := hq
            obtain ⟨g81, rfl⟩ : ∃ g, S1 = sv_sts (sv_up (sv_sts S [68, 69, 70, 81, 82, 83, 84, 85, 86, 71, 74, 75, 1127, 78, 79, 80, 72, 76, 77, 1150] g64) 74 (639 : Int) ((g64 74 (639 : Int)) - (1 : Int))) [68, 69, 70, 81, 82, 83, 84, 85, 86, 71, 74, 75, 1127, 78, 79, 80, 72, 76, 77, 1150] g := ⟨_, md83.eq⟩
            show sv_T sm_XS sm_cs sm_L sm_sh 5 (q_waysOfTest p1 p2 p3 S) 269 81 [(0, .ref 0), (1, sv_I p1), (2, sv_I p2), (3, sv_I p3), (4, sv_I r7), (5, sv_I r12), (6, sv_I s13), (7, sv_I s15)] [] (sv_sts (sv_up (sv_sts S [68, 69, 70, 81, 82, 83, 84, 85, 86, 71, 74, 75, 1127, 78, 79, 80, 72, 76, 77, 1150] g64) 74 (639 : Int) ((g64 74 (639 : Int)) - (1 : Int))) [68, 69, 70, 81, 82, 83, 84, 85, 86, 71, 74, 75, 1127, 78, 79, 80, 72, 76, 77, 1150] g81)
            have md85 : sv_mod [68, 69, 70, 81, 82, 83, 84, 85, 86, 71, 74, 75, 1127, 78, 79, 80, 72, 76, 77, 1143, 1144, 5, 1011, 1150, 1149, 1145, 1113, 1111, 1112, 1100031] S (sv_sts (sv_up (sv_sts S [68, 69, 70, 81, 82, 83, 84, 85, 86, 71, 74, 75, 1127, 78, 79, 80, 72, 76, 77, 1150] g64) 74 (639 : Int) ((g64 74 (639 : Int)) - (1 : Int))) [68, 69, 70, 81, 82, 83, 84, 85, 86, 71, 74, 75, 1127, 78, 79, 80, 72, 76, 77, 1150] g81) := sv_mod.sts md73 (by decide)
            have h := h g81 hpo84
            refine sv_iload hM dX12_waysOfTest_81 rfl rfl ?_
            refine sv_cond_eq hM dX12_waysOfTest_83 hs15 (t := 97) rfl rfl (fun hc => ?_) (fun hc => ?_)
            · have h := h.1 (hc)
              exact sv_vret hM dX12_waysOfTest_97 rfl ⟨rfl, ok82, md85, h⟩
            · have h := h.2 (hc)
              refine sv_iload_n hM dX12_waysOfTest_86 rfl rfl ?_
              refine sv_bipush (d := (22 : Int)) hM dX12_waysOfTest_87 rfl rfl ?_
              refine sv_icmp_ne hM dX12_waysOfTest_89 hp1 (⟨by decide, by decide⟩ : sv_R (22 : Int)) (t := 97) rfl rfl (fun hc => ?_) (fun hc => ?_)
              · have h := h.1 (hc)
                exact sv_vret hM dX12_waysOfTest_97 rfl ⟨rfl, ok82, md85, h⟩
              · have h := h.2 (hc)
                refine sv_aload_n hM dX12_waysOfTest_92 rfl rfl ?_
                refine sv_iload_n hM dX12_waysOfTest_93 rfl rfl ?_
                obtain ⟨o86, h⟩ := h
                refine sv_callV hM dX12_waysOfTest_94 sm_iv_1274 (by decide) (sm_a0 _) rfl rfl (Nat.le_of_ble_eq_true rfl) sm_h259 (Nat.le_of_ble_eq_true rfl) (Nat.le_of_ble_eq_true rfl) (F' := 4) (Nat.le_of_ble_eq_true rfl) rfl (t_to p2 (sv_sts (sv_up (sv_sts S [68, 69, 70, 81, 82, 83, 84, 85, 86, 71, 74, 75, 1127, 78, 79, 80, 72, 76, 77, 1150] g64) 74 (639 : Int) ((g64 74 (639 : Int)) - (1 : Int))) [68, 69, 70, 81, 82, 83, 84, 85, 86, 71, 74, 75, 1127, 78, 79, 80, 72, 76, 77, 1150] g81) ok82 hp2 o86) (fun v S1 hq => ?_)
                obtain ⟨rfl, ok88, md89, hpo90⟩ := hq
                obtain ⟨g87, rfl⟩ : ∃ g, S1 = sv_sts (sv_sts (sv_up (sv_sts S [68, 69, 70, 81, 82, 83, 84, 85, 86, 71, 74, 75, 1127, 78, 79, 80, 72, 76, 77, 1150] g64) 74 (639 : Int) ((g64 74 (639 : Int)) - (1 : Int))) [68, 69, 70, 81, 82, 83, 84, 85, 86, 71, 74, 75, 1127, 78, 79, 80, 72, 76, 77, 1150] g81) [68, 69, 70, 81, 82, 83, 84, 85, 86, 71, 74, 75, 1127, 78, 79, 80, 72, 76, 77, 1150] g := ⟨_, md89.eq⟩
                show sv_T sm_XS sm_cs sm_L sm_sh 5 (q_waysOfTest p1 p2 p3 S) 269 97 [(0, .ref 0), (1, sv_I p1), (2, sv_I p2), (3, sv_I p3), (4, sv_I r7), (5, sv_I r12), (6, sv_I s13), (7, sv_I s15)] [] (sv_sts (sv_sts (sv_up (sv_sts S [68, 69, 70, 81, 82, 83, 84, 85, 86, 71, 74, 75, 1127, 78, 79, 80, 72, 76, 77, 1150] g64) 74 (639 : Int) ((g64 74 (639 : Int)) - (1 : Int))) [68, 69, 70, 81, 82, 83, 84, 85, 86, 71, 74, 75, 1127, 78, 79, 80, 72, 76, 77, 1150] g81) [68, 69, 70, 81, 82, 83, 84, 85, 86, 71, 74, 75, 1127, 78, 79, 80, 72, 76, 77, 1150] g87)
                have md91 : sv_mod [68, 69, 70, 81, 82, 83, 84, 85, 86, 71, 74, 75, 1127, 78, 79, 80, 72, 76, 77, 1143, 1144, 5, 1011, 1150, 1149, 1145, 1113, 1111, 1112, 1100031] S (sv_sts (sv_sts (sv_up (sv_sts S [68, 69, 70, 81, 82, 83, 84, 85, 86, 71, 74, 75, 1127, 78, 79, 80, 72, 76, 77, 1150] g64) 74 (639 : Int) ((g64 74 (639 : Int)) - (1 : Int))) [68, 69, 70, 81, 82, 83, 84, 85, 86, 71, 74, 75, 1127, 78, 79, 80, 72, 76, 77, 1150] g81) [68, 69, 70, 81, 82, 83, 84, 85, 86, 71, 74, 75, 1127, 78, 79, 80, 72, 76, 77, 1150] g87) := sv_mod.sts md85 (by decide)
                have h := h g87 hpo90
                exact sv_vret hM dX12_waysOfTest_97 rfl ⟨rfl, ok88, md91, h⟩
    have h := h.2
    refine sv_iload_n hM dX12_waysOfTest_29 rfl rfl ?_
    refine sv_bipush (d := (24 : Int)) hM dX12_waysOfTest_30 rfl rfl ?_
    refine sv_icmp_ne hM dX12_waysOfTest_32 hp1 (⟨by decide, by decide⟩ : sv_R (24 : Int)) (t := 40) rfl rfl (fun hc => ?_) (fun hc => ?_)
    · have h := h.1 (hc)
      refine sv_iload hM dX12_waysOfTest_40 rfl rfl ?_
      have hb := J92 r12 hr12 h
      exact sv_less (lv := [(0, .ref 0), (1, sv_I p1), (2, sv_I p2), (3, sv_I p3), (4, sv_I r7), (5, sv_I r12), (6, sv_I s13)]) (sv_Sub_cons rfl (sv_Sub_cons rfl (sv_Sub_cons rfl (sv_Sub_cons rfl (sv_Sub_cons rfl (sv_Sub_cons rfl (sv_Sub_cons rfl sv_Sub_nil))))))) hb
    · have h := h.2 (hc)
      refine sv_iload hM dX12_waysOfTest_35 rfl rfl ?_
      refine sv_goto hM dX12_waysOfTest_37 (pc' := 42) rfl ?_
      have hb := J92 r7 hr7 h
      exact sv_less (lv := [(0, .ref 0), (1, sv_I p1), (2, sv_I p2), (3, sv_I p3), (4, sv_I r7), (5, sv_I r12), (6, sv_I s13)]) (sv_Sub_cons rfl (sv_Sub_cons rfl (sv_Sub_cons rfl (sv_Sub_cons rfl (sv_Sub_cons rfl (sv_Sub_cons rfl (sv_Sub_cons rfl sv_Sub_nil))))))) hb
  have h := h.2
  refine sv_iload_n hM dX12_waysOfTest_14 rfl rfl ?_
  refine sv_bipush (d := (24 : Int)) hM dX12_waysOfTest_15 rfl rfl ?_
  refine sv_icmp_ne hM dX12_waysOfTest_17 hp1 (⟨by decide, by decide⟩ : sv_R (24 : Int)) (t := 25) rfl rfl (fun hc => ?_) (fun hc => ?_)
  · have h := h.1 (hc)
    refine sv_iload hM dX12_waysOfTest_25 rfl rfl ?_
    have hb := J93 r7 hr7 h
    exact sv_less (lv := [(0, .ref 0), (1, sv_I p1), (2, sv_I p2), (3, sv_I p3), (4, sv_I r7), (5, sv_I r12)]) (sv_Sub_cons rfl (sv_Sub_cons rfl (sv_Sub_cons rfl (sv_Sub_cons rfl (sv_Sub_cons rfl (sv_Sub_cons rfl sv_Sub_nil)))))) hb
  · have h := h.2 (hc)
    refine sv_iload hM dX12_waysOfTest_20 rfl rfl ?_
    refine sv_goto hM dX12_waysOfTest_22 (pc' := 27) rfl ?_
    have hb := J93 r12 hr12 h
    exact sv_less (lv := [(0, .ref 0), (1, sv_I p1), (2, sv_I p2), (3, sv_I p3), (4, sv_I r7), (5, sv_I r12)]) (sv_Sub_cons rfl (sv_Sub_cons rfl (sv_Sub_cons rfl (sv_Sub_cons rfl (sv_Sub_cons rfl (sv_Sub_cons rfl sv_Sub_nil)))))) hb
def q_waysOfGet (S : sv_S) : Option Value → sv_S → Prop := fun v S' => v = none ∧ sm_ok S' ∧ sv_mod [68, 69, 70, 81, 82, 83, 84, 85, 86, 71, 74, 75, 1127, 78, 79, 80, 72, 76, 77, 1143, 1144, 5, 1011, 1150, 1149, 1145, 1113, 1111, 1112, 1100031] S S' ∧ (sm_ST (S' 71) (S' 74) (S' 75) (S' 78) (S' 79) (S' 80) (S' 27) (S' 1100007) (S' 1100023) (S' 1100024) (S' 1046 0) ((S' 1046 0) + 2 * (S' 1032 0)) (S' 1127 0) ∧ 465000 ≤ (S' 1127 0) ∧ (S' 1127 0) + sm_hs (S' 71) (S' 1100007) ≤ 635000 ∧ (S' 75 639) = 647340 ∧ (∀ k : Int, (S 71 k) = 1 → (S' 71 k) = 1) ∧ sm_DR (S' 72) (S' 71) (S' 1046 0) ∧ (641 * (sm_cm (S' 71) + sm_pt (S' 68) (S' 69) (S' 70) + sm_pl (S' 81) (S' 82) (S' 83) (S' 84) (S' 85) (S' 86) + sm_ps (S' 76) (S' 77)) + sm_du (S' 72)) ≤ (641 * (sm_cm (S 71) + sm_pt (S 68) (S 69) (S 70) + sm_pl (S 81) (S 82) (S 83) (S 84) (S 85) (S 86) + sm_ps (S 76) (S 77)) + sm_du (S 72)))
theorem la_waysOfGet_0 {x0 x1 x2 : Int} (h0 : x0 = 647340) (h1 : x1 = x2) (h2 : 2 ≤ x2) (h3 : x2 ≤ 396) : x0 = 647340 ∧ 0 ≤ x1 ∧ x1 ≤ 400 ∧ ((-1) : Int) ≤ 1 ∧ (1 : Int) ≤ 1000 := by omega
theorem la_waysOfGet_1 {x0 x1 x2 : Int} (h0 : x0 = 647340) (h1 : x1 = x2) (h2 : 2 ≤ x2) (h3 : x2 ≤ 396) : x0 = 647340 ∧ 0 ≤ x1 ∧ x1 ≤ 400 ∧ ((-1) : Int) ≤ 0 ∧ (0 : Int) ≤ 1000 := by omega
theorem la_waysOfGet_2 {x0 x1 : Int} (h0 : 0 ≤ x0) (h1 : x0 ≤ 400) (h2 : x1 = 647339 + x0 - 1) : 0 ≤ x1 ∧ x1 < 647800 := by omega
theorem la_waysOfGet_3 : (0 : Int) ≤ 647740 ∧ (647740 : Int) < 647800 := by omega
theorem la_waysOfGet_4 : (635639 : Int) ≤ 647740 := by omega
theorem la_waysOfGet_5 {x0 x1 : Int} (h0 : 0 ≤ x0) (h1 : x1 = 647339 + x0 - 0) : 0 ≤ x1 := by omega
theorem la_waysOfGet_6 {x0 x1 : Int} (h0 : x0 ≤ 400) (h1 : x1 = 647339 + x0 - 0) : x1 < 647800 := by omega
theorem la_waysOfGet_7 {x0 : Int} (h0 : 0 ≤ x0) (h1 : x0 ≤ 11557) : 0 ≤ x0 ∧ x0 ≤ 11557 := by omega
theorem la_waysOfGet_8 {x0 x1 x2 x3 x4 x5 x6 x7 : Int} (h0 : 0 ≤ x0) (h1 : x1 = x2) (h2 : x3 = x4) (h3 : 2 ≤ x2) (h4 : x0 + 1 < x5) (h5 : x6 = x2 + (-1)) (h6 : x7 = x4) (h7 : x2 ≤ 396) : 0 ≤ x0 ∧ x0 + 1 < x5 ∧ (0 : Int) ≤ 2 ∧ 2 ≤ x1 ∧ x1 - 2 ≤ 399 ∧ (0 : Int) ≤ 647740 ∧ (647740 : Int) < 647800 ∧ x6 = x1 - 2 + 1 ∧ x7 = x3 := by omega
theorem la_waysOfGet_9 {x0 : Int} (h0 : x0 = 0) : ¬ x0 = 1 := by omega
theorem la_waysOfGet_10 {x0 x1 x2 x3 x4 x5 x6 x7 x8 x9 x10 x11 x12 x13 : Int} (h0 : x0 = x1) (h1 : x2 = x0) (h2 : x3 = x2) (h3 : x4 = x3) (h4 : 641 * (x5 + x6 + x7 + x8) + x9 ≤ 641 * (x10 + x4 + x11 + x12) + x13) : 641 * (x5 + x6 + x7 + x8) + x9 ≤ 641 * (x10 + x1 + x11 + x12) + x13 := by omega
theorem la_waysOfGet_11 {x0 : Int} : 0 ≤ x0 % 4 := by omega
theorem la_waysOfGet_12 {x0 : Int} (h0 : 0 ≤ x0 % 4) (h1 : ¬ x0 % 4 = 0) : 0 < x0 % 4 := by omega
theorem la_waysOfGet_13 {x0 x1 : Int} (h0 : x0 + 1 < x1) : ¬ x1 ≤ x0 := by omega
theorem la_waysOfGet_14 {x0 x1 : Int} (h0 : x0 + 1 < x1) : ¬ x1 ≤ x0 + 1 := by omega
theorem la_waysOfGet_15 {x0 : Int} : x0 = x0 := by omega
theorem la_waysOfGet_16 : (6 : Int) ≤ 6 := by omega
theorem la_waysOfGet_17 : (6 : Int) ≤ 8 := by omega
theorem la_waysOfGet_18 {x0 x1 x2 x3 x4 x5 x6 x7 x8 x9 x10 x11 x12 x13 x14 x15 x16 x17 x18 : Int} (h0 : x0 = x1) (h1 : x2 = x0) (h2 : x3 = x2) (h3 : x4 = x3) (h4 : 641 * (x5 + x6 + x7 + x8) + x9 ≤ 641 * (x10 + x4 + x11 + x12) + x13) (h5 : 641 * (x14 + x15 + x16 + x17) + x18 ≤ 641 * (x5 + x6 + x7 + x8) + x9) : 641 * (x14 + x15 + x16 + x17) + x18 ≤ 641 * (x10 + x1 + x11 + x12) + x13 := by omega
theorem la_waysOfGet_19 {x0 : Int} (h0 : x0 = 1) : 0 ≤ x0 := by omega
theorem la_waysOfGet_20 {x0 : Int} (h0 : 0 ≤ x0) (h1 : ¬ x0 = 0) : 0 < x0 := by omega
theorem la_waysOfGet_21 {x0 : Int} : x0 = 0 → (0 : Int) = 0 ∨ (0 : Int) = 1 := by omega
theorem la_waysOfGet_22 {x0 : Int} : ¬ x0 = 1 → (0 : Int) = 0 ∨ (0 : Int) = 1 := by omega
theorem la_waysOfGet_23 {x0 : Int} : ¬ x0 = 0 → (0 : Int) = 0 ∨ (0 : Int) = 1 := by omega
theorem la_waysOfGet_24 {x0 : Int} (h0 : ¬ ¬ x0 = 0) : ¬ x0 = 1 := by omega
theorem la_waysOfGet_25 : (1 : Int) = 0 ∨ (1 : Int) = 1 := by omega
theorem la_waysOfGet_26 {x0 x1 : Int} : x0 = 0 → x1 = x1 := by omega
theorem la_waysOfGet_27 : sv_R (647740 + 1) := by omega
theorem la_waysOfGet_28 {x0 : Int} (h0 : 0 ≤ x0) (h1 : x0 ≤ 11557) : 0 ≤ x0 ∧ x0 ≤ 11557 ∧ (635639 : Int) ≤ 647740 + 1 ∧ (647740 + 1 : Int) < 647790 := by omega
theorem la_waysOfGet_29 : (0 : Int) ≤ 647740 + 1 ∧ (647740 + 1 : Int) < 647800 ∧ (0 : Int) ≤ 647740 ∧ (647740 : Int) < 647800 := by omega
theorem la_waysOfGet_30 : ¬ (647740 : Int) < 635639 := by omega
theorem la_waysOfGet_31 {x0 x1 x2 x3 : Int} (h0 : x0 = x1) (h1 : x2 = x0) : x3 = 0 → x2 = x1 := by omega
theorem la_waysOfGet_32 : (635639 : Int) ≤ 647740 ∧ (647740 : Int) < 647790 := by omega
theorem la_waysOfGet_33 {x0 x1 x2 x3 : Int} (h0 : x0 = x1) (h1 : x2 = x0) (h2 : x3 = x2) : x3 = x1 := by omega
theorem la_waysOfGet_34 {x0 x1 : Int} (h0 : 0 ≤ x0) (h1 : x0 ≤ 400) (h2 : x1 = 647339 + x0 - 1) : 0 ≤ x1 ∧ x1 < 647800 ∧ (635639 : Int) ≤ 647740 + 1 ∧ (647740 + 1 : Int) < 647790 ∧ (635639 : Int) ≤ 647740 ∧ (647740 : Int) < 647790 := by omega
set_option maxHeartbeats 2000000 in
theorem f_waysOfGet : ∀ (S : sv_S), sm_ok S → (29 ≤ (S 1071 0) ∧ (S 1071 0) ≤ 127 ∧ 31 ≤ (S 1008 0) ∧ (S 1008 0) ≤ 90 ∧ 1 ≤ (S 1032 0) ∧ (S 1032 0) ≤ 11 ∧ 0 ≤ (S 1055 0) ∧ (S 1055 0) ≤ 19 ∧ (S 1071 0) = 29 + 6 * ((S 1032 0) - 1) + 2 * (S 1055 0) ∧ 0 ≤ (S 1046 0) ∧ (S 1046 0) + 2 * (S 1032 0) ≤ 500 ∧ sm_PD (S 1046 0) (S 1032 0) (S 1071 0) (S 1008 0) ∧ 0 ≤ (S 1071 0) * ((S 1008 0) + 1) ∧ (S 1071 0) * ((S 1008 0) + 1) ≤ 11557 ∧ 31 ≤ (S 1007 0) ∧ (S 1007 0) ≤ 400 ∧ sm_LN (S 4) 400 (S 1007 0) ∧ (S 75 639) = 647340 ∧ sm_ST (S 71) (S 74) (S 75) (S 78) (S 79) (S 80) (S 27) (S 1100007) (S 1100023) (S 1100024) (S 1046 0) ((S 1046 0) + 2 * (S 1032 0)) (S 1127 0) ∧ 465000 ≤ (S 1127 0) ∧ (S 1127 0) + sm_hs (S 71) (S 1100007) ≤ 635000 ∧ sm_NH (S 1100007) ∧ sm_CT (S 26) (S 27) (S 28) (S 29) (S 1100007) (S 1100023) (S 1100024) (S 1100025) (S 21) (S 1046 0) (S 1032 0) (S 1008 0) (S 1055 0) ∧ (∀ k : Int, (S 1046 0) ≤ k → k < ((S 1046 0) + 2 * (S 1032 0)) → (S 1100007 k) = 1) ∧ sm_DR (S 72) (S 71) (S 1046 0) ∧ 0 ≤ (S 74 639) ∧ (S 74 639) ≤ 400 ∧ 0 ≤ (S 78 639) ∧ (S 78 639) ≤ 40 ∧ (S 78 639) = sm_dp (S 1100024) (S 1100031 0) ∧ -1 ≤ (S 1100031 0) ∧ (S 1100031 0) < (S 1046 0) ∧ (0 ≤ (S 1100031 0) → (S 26 (S 1100031 0)) = 27) ∧ sm_TC (S 79) (S 80) (S 27) (S 1100007) (S 1100023) (S 1100024) 25560 (S 1100031 0) ∧ 0 ≤ (S 1148 0) ∧ (S 1148 0) < (S 1046 0) ∧ (S 71 (S 1148 0)) = 1 ∧ (S 74 639) = (S 1100007 (S 1148 0)) ∧ (S 1100031 0) = (S 1100023 (S 1148 0)) ∧ 2 ≤ (S 1100007 (S 1148 0)) ∧ (S 1148 0) + 1 < (S 1046 0) ∧ (S 1100007 ((S 1148 0) + 1)) = (S 1100007 (S 1148 0)) + (-1) ∧ (S 1100023 ((S 1148 0) + 1)) = (S 1100023 (S 1148 0))) → ((sm_CT (S 26) (S 27) (S 28) (S 29) (S 1100007) (S 1100023) (S 1100024) (S 1100025) (S 21) (S 1046 0) (S 1032 0) (S 1008 0) (S 1055 0) → 0 ≤ (S 1148 0) → (S 1148 0) < (S 1046 0) → 0 ≤ (S 1100007 (S 1148 0)) ∧ (S 1100007 (S 1148 0)) ≤ 396 ∧ -1 ≤ (S 1100023 (S 1148 0)) ∧ (S 1100023 (S 1148 0)) < (S 1148 0)) → ((S 75 639) = 647340 ∧ 0 ≤ (S 74 639) ∧ (S 74 639) ≤ 400 ∧ -1 ≤ (1 : Int) ∧ (1 : Int) ≤ 1000) ∧ (∀ r7 : Int, sv_R r7 → (r7 = 647339 + (S 74 639) - (1 : Int)) → ((S 75 639) = 647340 ∧ 0 ≤ (S 74 639) ∧ (S 74 639) ≤ 400 ∧ -1 ≤ (0 : Int) ∧ (0 : Int) ≤ 1000) ∧ (∀ r13 : Int, sv_R r13 → (r13 = 647339 + (S 74 639) - (0 : Int)) → (0 ≤ r7 ∧ r7 < 647800) ∧ (∀ r19 : Int, sv_R r19 → (sm_iand ((S 68 r7) % 1024) (-513) = r19) → (0 ≤ (647740 : Int) ∧ (647740 : Int) < 647800) ∧ (∀ g21 : sv_S, (635639 ≤ (647740 : Int) → sm_pt (g21 68) (g21 69) (g21 70) = sm_pt (S 68) (S 69) (S 70)) → ((∀ g26 : sv_S, (sm_pt (g26 68) (g26 69) (g26 70) = sm_pt (g21 68) (g21 69) (g21 70)) → (31 ≤ (S 1007 0) ∧ (S 1007 0) ≤ 400 ∧ sm_LN (S 4) 400 (S 1007 0) ∧ 0 ≤ r13 ∧ r13 < 647800 ∧ 29 ≤ (S 1071 0) ∧ (S 1071 0) ≤ 127 ∧ 31 ≤ (S 1008 0) ∧ (S 1008 0) ≤ 90 ∧ 1 ≤ (S 1032 0) ∧ (S 1032 0) ≤ 11 ∧ 0 ≤ (S 1055 0) ∧ (S 1055 0) ≤ 19 ∧ (S 1071 0) = 29 + 6 * ((S 1032 0) - 1) + 2 * (S 1055 0) ∧ 0 ≤ (S 1046 0) ∧ (S 1046 0) + 2 * (S 1032 0) ≤ 500 ∧ sm_PD (S 1046 0) (S 1032 0) (S 1071 0) (S 1008 0) ∧ 0 ≤ (S 1071 0) * ((S 1008 0) + 1) ∧ (S 1071 0) * ((S 1008 0) + 1) ≤ 11557) ∧ (∀ g32 : sv_S, (True) → ((∀ g37 : sv_S, (sm_pt (g37 68) (g37 69) (g37 70) = sm_pt (g26 68) (g26 69) (g26 70)) → (∀ g42 : sv_S, (True) → ((∀ g47 : sv_S, (sm_pt (g47 68) (g47 69) (g47 70) = sm_pt (g37 68) (g37 69) (g37 70)) → ((∀ s52 : Int, sv_R s52 → (s52 = 0 ∨ s52 = 1) → (29 ≤ (S 1071 0) ∧ (S 1071 0) ≤ 127 ∧ 31 ≤ (S 1008 0) ∧ (S 1008 0) ≤ 90 ∧ 1 ≤ (S 1032 0) ∧ (S 1032 0) ≤ 11 ∧ 0 ≤ (S 1055 0) ∧ (S 1055 0) ≤ 19 ∧ (S 1071 0) = 29 + 6 * ((S 1032 0) - 1) + 2 * (S 1055 0) ∧ 0 ≤ (S 1046 0) ∧ (S 1046 0) + 2 * (S 1032 0) ≤ 500 ∧ sm_PD (S 1046 0) (S 1032 0) (S 1071 0) (S 1008 0) ∧ 0 ≤ (S 1071 0) * ((S 1008 0) + 1) ∧ (S 1071 0) * ((S 1008 0) + 1) ≤ 11557 ∧ 31 ≤ (S 1007 0) ∧ (S 1007 0) ≤ 400 ∧ sm_LN (S 4) 400 (S 1007 0) ∧ (S 75 639) = 647340 ∧ sm_ST (S 71) (S 74) (S 75) (S 78) (S 79) (S 80) (S 27) (S 1100007) (S 1100023) (S 1100024) (S 1046 0) ((S 1046 0) + 2 * (S 1032 0)) (S 1127 0) ∧ 465000 ≤ (S 1127 0) ∧ (S 1127 0) + sm_hs (S 71) (S 1100007) ≤ 635000 ∧ sm_NH (S 1100007) ∧ sm_CT (S 26) (S 27) (S 28) (S 29) (S 1100007) (S 1100023) (S 1100024) (S 1100025) (S 21) (S 1046 0) (S 1032 0) (S 1008 0) (S 1055 0) ∧ (∀ k : Int, (S 1046 0) ≤ k → k < ((S 1046 0) + 2 * (S 1032 0)) → (S 1100007 k) = 1) ∧ sm_DR (S 72) (S 71) (S 1046 0) ∧ 0 ≤ (S 74 639) ∧ (S 74 639) ≤ 400 ∧ 0 ≤ (S 78 639) ∧ (S 78 639) ≤ 40 ∧ (S 78 639) = sm_dp (S 1100024) (S 1100031 0) ∧ -1 ≤ (S 1100031 0) ∧ (S 1100031 0) < (S 1046 0) ∧ (0 ≤ (S 1100031 0) → (S 26 (S 1100031 0)) = 27) ∧ sm_TC (S 79) (S 80) (S 27) (S 1100007) (S 1100023) (S 1100024) 25560 (S 1100031 0) ∧ 0 ≤ (S 1148 0) ∧ (S 1148 0) + 1 < (S 1046 0) ∧ 0 ≤ (2 : Int) ∧ (2 : Int) ≤ (S 74 639) ∧ (S 74 639) - (2 : Int) ≤ 399 ∧ 0 ≤ (647740 : Int) ∧ (647740 : Int) < 647800 ∧ (S 1100007 ((S 1148 0) + 1)) = (S 74 639) - (2 : Int) + 1 ∧ (S 1100023 ((S 1148 0) + 1)) = (S 1100031 0)) ∧ (∀ g55 : sv_S, (sm_ST (g55 71) (g55 74) (g55 75) (g55 78) (g55 79) (g55 80) (S 27) (S 1100007) (S 1100023) (S 1100024) (S 1046 0) ((S 1046 0) + 2 * (S 1032 0)) (g55 1127 0) ∧ 465000 ≤ (g55 1127 0) ∧ (g55 1127 0) + sm_hs (g55 71) (S 1100007) ≤ 635000 ∧ (g55 75 639) = 647340 ∧ (∀ k : Int, (S 71 k) = 1 → (g55 71 k) = 1) ∧ sm_DR (g55 72) (g55 71) (S 1046 0) ∧ (641 * (sm_cm (g55 71) + sm_pt (g55 68) (g55 69) (g55 70) + sm_pl (g55 81) (g55 82) (g55 83) (g55 84) (g55 85) (g55 86) + sm_ps (g55 76) (g55 77)) + sm_du (g55 72)) ≤ (641 * (sm_cm (S 71) + sm_pt (g47 68) (g47 69) (g47 70) + sm_pl (S 81) (S 82) (S 83) (S 84) (S 85) (S 86) + sm_ps (S 76) (S 77)) + sm_du (S 72))) → (sv_R (S 1149 0) → (((s52 = (0 : Int)) → (∀ r61 : Int, sv_R r61 → ((((r19 % 4) = (0 : Int)) → (sm_ST (g55 71) (g55 74) (g55 75) (g55 78) (g55 79) (g55 80) (S 27) (S 1100007) (S 1100023) (S 1100024) (S 1046 0) ((S 1046 0) + 2 * (S 1032 0)) (g55 1127 0) ∧ 465000 ≤ (g55 1127 0) ∧ (g55 1127 0) + sm_hs (g55 71) (S 1100007) ≤ 635000 ∧ (g55 75 639) = 647340 ∧ (∀ k : Int, (S 71 k) = 1 → (g55 71 k) = 1) ∧ sm_DR (g55 72) (g55 71) (S 1046 0) ∧ (641 * (sm_cm (g55 71) + sm_pt (g55 68) (g55 69) (g55 70) + sm_pl (g55 81) (g55 82) (g55 83) (g55 84) (g55 85) (g55 86) + sm_ps (g55 76) (g55 77)) + sm_du (g55 72)) ≤ (641 * (sm_cm (S 71) + sm_pt (S 68) (S 69) (S 70) + sm_pl (S 81) (S 82) (S 83) (S 84) (S 85) (S 86) + sm_ps (S 76) (S 77)) + sm_du (S 72)))) ∧ ((¬ ((r19 % 4) = (0 : Int))) → (sv_R (S 1148 0) → (29 ≤ (S 1071 0) ∧ (S 1071 0) ≤ 127 ∧ 31 ≤ (S 1008 0) ∧ (S 1008 0) ≤ 90 ∧ 1 ≤ (S 1032 0) ∧ (S 1032 0) ≤ 11 ∧ 0 ≤ (S 1055 0) ∧ (S 1055 0) ≤ 19 ∧ (S 1071 0) = 29 + 6 * ((S 1032 0) - 1) + 2 * (S 1055 0) ∧ 0 ≤ (S 1046 0) ∧ (S 1046 0) + 2 * (S 1032 0) ≤ 500 ∧ sm_PD (S 1046 0) (S 1032 0) (S 1071 0) (S 1008 0) ∧ 0 ≤ (S 1071 0) * ((S 1008 0) + 1) ∧ (S 1071 0) * ((S 1008 0) + 1) ≤ 11557 ∧ 31 ≤ (S 1007 0) ∧ (S 1007 0) ≤ 400 ∧ sm_LN (S 4) 400 (S 1007 0) ∧ (g55 75 639) = 647340 ∧ sm_ST (g55 71) (g55 74) (g55 75) (g55 78) (g55 79) (g55 80) (S 27) (S 1100007) (S 1100023) (S 1100024) (S 1046 0) ((S 1046 0) + 2 * (S 1032 0)) (g55 1127 0) ∧ 465000 ≤ (g55 1127 0) ∧ (g55 1127 0) + sm_hs (g55 71) (S 1100007) ≤ 635000 ∧ sm_NH (S 1100007) ∧ sm_CT (S 26) (S 27) (S 28) (S 29) (S 1100007) (S 1100023) (S 1100024) (S 1100025) (S 21) (S 1046 0) (S 1032 0) (S 1008 0) (S 1055 0) ∧ (∀ k : Int, (S 1046 0) ≤ k → k < ((S 1046 0) + 2 * (S 1032 0)) → (S 1100007 k) = 1) ∧ sm_DR (g55 72) (g55 71) (S 1046 0) ∧ 0 ≤ (S 1148 0) ∧ (S 1148 0) < (S 1046 0) ∧ (g55 71 (S 1148 0)) = 1 ∧ (S 1148 0) = (S 1148 0) ∧ 6 ≤ (6 : Int) ∧ (6 : Int) ≤ 8) ∧ (∀ g66 : sv_S, (sm_ST (g66 71) (g66 74) (g66 75) (g66 78) (g66 79) (g66 80) (S 27) (S 1100007) (S 1100023) (S 1100024) (S 1046 0) ((S 1046 0) + 2 * (S 1032 0)) (g66 1127 0) ∧ 465000 ≤ (g66 1127 0) ∧ (g66 1127 0) + sm_hs (g66 71) (S 1100007) ≤ 635000 ∧ (g66 75 639) = 647340 ∧ (∀ k : Int, (g55 71 k) = 1 → (g66 71 k) = 1) ∧ sm_DR (g66 72) (g66 71) (S 1046 0) ∧ (641 * (sm_cm (g66 71) + sm_pt (g66 68) (g66 69) (g66 70) + sm_pl (g66 81) (g66 82) (g66 83) (g66 84) (g66 85) (g66 86) + sm_ps (g66 76) (g66 77)) + sm_du (g66 72)) ≤ (641 * (sm_cm (g55 71) + sm_pt (g55 68) (g55 69) (g55 70) + sm_pl (g55 81) (g55 82) (g55 83) (g55 84) (g55 85) (g55 86) + sm_ps (g55 76) (g55 77)) + sm_du (g55 72))) → (sm_ST (g66 71) (g66 74) (g66 75) (g66 78) (g66 79) (g66 80) (S 27) (S 1100007) (S 1100023) (S 1100024) (S 1046 0) ((S 1046 0) + 2 * (S 1032 0)) (g66 1127 0) ∧ 465000 ≤ (g66 1127 0) ∧ (g66 1127 0) + sm_hs (g66 71) (S 1100007) ≤ 635000 ∧ (g66 75 639) = 647340 ∧ (∀ k : Int, (S 71 k) = 1 → (g66 71 k) = 1) ∧ sm_DR (g66 72) (g66 71) (S 1046 0) ∧ (641 * (sm_cm (g66 71) + sm_pt (g66 68) (g66 69) (g66 70) + sm_pl (g66 81) (g66 82) (g66 83) (g66 84) (g66 85) (g66 86) + sm_ps (g66 76) (g66 77)) + sm_du (g66 72)) ≤ (641 * (sm_cm (S 71) + sm_pt (S 68) (S 69) (S 70) + sm_pl (S 81) (S 82) (S 83) (S 84) (S 85) (S 86) + sm_ps (S 76) (S 77)) + sm_du (S 72))))))))) ∧ ((¬ (s52 = (0 : Int))) → (∀ r71 : Int, sv_R r71 → ((((r19 % 4) = (0 : Int)) → (sm_ST (g55 71) (g55 74) (g55 75) (g55 78) (g55 79) (g55 80) (S 27) (S 1100007) (S 1100023) (S 1100024) (S 1046 0) ((S 1046 0) + 2 * (S 1032 0)) (g55 1127 0) ∧ 465000 ≤ (g55 1127 0) ∧ (g55 1127 0) + sm_hs (g55 71) (S 1100007) ≤ 635000 ∧ (g55 75 639) = 647340 ∧ (∀ k : Int, (S 71 k) = 1 → (g55 71 k) = 1) ∧ sm_DR (g55 72) (g55 71) (S 1046 0) ∧ (641 * (sm_cm (g55 71) + sm_pt (g55 68) (g55 69) (g55 70) + sm_pl (g55 81) (g55 82) (g55 83) (g55 84) (g55 85) (g55 86) + sm_ps (g55 76) (g55 77)) + sm_du (g55 72)) ≤ (641 * (sm_cm (S 71) + sm_pt (S 68) (S 69) (S 70) + sm_pl (S 81) (S 82) (S 83) (S 84) (S 85) (S 86) + sm_ps (S 76) (S 77)) + sm_du (S 72)))) ∧ ((¬ ((r19 % 4) = (0 : Int))) → (sv_R (S 1148 0) → (29 ≤ (S 1071 0) ∧ (S 1071 0) ≤ 127 ∧ 31 ≤ (S 1008 0) ∧ (S 1008 0) ≤ 90 ∧ 1 ≤ (S 1032 0) ∧ (S 1032 0) ≤ 11 ∧ 0 ≤ (S 1055 0) ∧ (S 1055 0) ≤ 19 ∧ (S 1071 0) = 29 + 6 * ((S 1032 0) - 1) + 2 * (S 1055 0) ∧ 0 ≤ (S 1046 0) ∧ (S 1046 0) + 2 * (S 1032 0) ≤ 500 ∧ sm_PD (S 1046 0) (S 1032 0) (S 1071 0) (S 1008 0) ∧ 0 ≤ (S 1071 0) * ((S 1008 0) + 1) ∧ (S 1071 0) * ((S 1008 0) + 1) ≤ 11557 ∧ 31 ≤ (S 1007 0) ∧ (S 1007 0) ≤ 400 ∧ sm_LN (S 4) 400 (S 1007 0) ∧ (g55 75 639) = 647340 ∧ sm_ST (g55 71) (g55 74) (g55 75) (g55 78) (g55 79) (g55 80) (S 27) (S 1100007) (S 1100023) (S 1100024) (S 1046 0) ((S 1046 0) + 2 * (S 1032 0)) (g55 1127 0) ∧ 465000 ≤ (g55 1127 0) ∧ (g55 1127 0) + sm_hs (g55 71) (S 1100007) ≤ 635000 ∧ sm_NH (S 1100007) ∧ sm_CT (S 26) (S 27) (S 28) (S 29) (S 1100007) (S 1100023) (S 1100024) (S 1100025) (S 21) (S 1046 0) (S 1032 0) (S 1008 0) (S 1055 0) ∧ (∀ k : Int, (S 1046 0) ≤ k → k < ((S 1046 0) + 2 * (S 1032 0)) → (S 1100007 k) = 1) ∧ sm_DR (g55 72) (g55 71) (S 1046 0) ∧ 0 ≤ (S 1148 0) ∧ (S 1148 0) < (S 1046 0) ∧ (g55 71 (S 1148 0)) = 1 ∧ (S 1148 0) = (S 1148 0) ∧ 6 ≤ (6 : Int) ∧ (6 : Int) ≤ 8) ∧ (∀ g76 : sv_S, (sm_ST (g76 71) (g76 74) (g76 75) (g76 78) (g76 79) (g76 80) (S 27) (S 1100007) (S 1100023) (S 1100024) (S 1046 0) ((S 1046 0) + 2 * (S 1032 0)) (g76 1127 0) ∧ 465000 ≤ (g76 1127 0) ∧ (g76 1127 0) + sm_hs (g76 71) (S 1100007) ≤ 635000 ∧ (g76 75 639) = 647340 ∧ (∀ k : Int, (g55 71 k) = 1 → (g76 71 k) = 1) ∧ sm_DR (g76 72) (g76 71) (S 1046 0) ∧ (641 * (sm_cm (g76 71) + sm_pt (g76 68) (g76 69) (g76 70) + sm_pl (g76 81) (g76 82) (g76 83) (g76 84) (g76 85) (g76 86) + sm_ps (g76 76) (g76 77)) + sm_du (g76 72)) ≤ (641 * (sm_cm (g55 71) + sm_pt (g55 68) (g55 69) (g55 70) + sm_pl (g55 81) (g55 82) (g55 83) (g55 84) (g55 85) (g55 86) + sm_ps (g55 76) (g55 77)) + sm_du (g55 72))) → (sm_ST (g76 71) (g76 74) (g76 75) (g76 78) (g76 79) (g76 80) (S 27) (S 1100007) (S 1100023) (S 1100024) (S 1046 0) ((S 1046 0) + 2 * (S 1032 0)) (g76 1127 0) ∧ 465000 ≤ (g76 1127 0) ∧ (g76 1127 0) + sm_hs (g76 71) (S 1100007) ≤ 635000 ∧ (g76 75 639) = 647340 ∧ (∀ k : Int, (S 71 k) = 1 → (g76 71 k) = 1) ∧ sm_DR (g76 72) (g76 71) (S 1046 0) ∧ (641 * (sm_cm (g76 71) + sm_pt (g76 68) (g76 69) (g76 70) + sm_pl (g76 81) (g76 82) (g76 83) (g76 84) (g76 85) (g76 86) + sm_ps (g76 76) (g76 77)) + sm_du (g76 72)) ≤ (641 * (sm_cm (S 71) + sm_pt (S 68) (S 69) (S 70) + sm_pl (S 81) (S 82) (S 83) (S 84) (S 85) (S 86) + sm_ps (S 76) (S 77)) + sm_du (S 72))))))))))))) ∧ (∀ r86 : Int, sv_R r86 → (r86 = 0 ∨ r86 = 1) → (((r86 = (0 : Int)) → ((0 : Int) = 0 ∨ (0 : Int) = 1)) ∧ ((¬ (r86 = (0 : Int))) → (∀ r91 : Int, sv_R r91 → (sm_iand ((g47 68 (647740 : Int)) % 1024) (-513) = r91) → (((¬ r91 = (1 : Int)) → ((0 : Int) = 0 ∨ (0 : Int) = 1)) ∧ ((¬ (¬ r91 = (1 : Int))) → (∀ r96 : Int, sv_R r96 → (r96 = 0 ∨ r96 = 1) → (((¬ r96 = (0 : Int)) → ((0 : Int) = 0 ∨ (0 : Int) = 1)) ∧ ((¬ (¬ r96 = (0 : Int))) → ((1 : Int) = 0 ∨ (1 : Int) = 1)))))))))))) ∧ (∀ r102 : Int, sv_R r102 → (r102 = 0 ∨ r102 = 1) → (((r102 = (0 : Int)) → (sm_pt (g37 68) (g37 69) (g37 70) = sm_pt (g37 68) (g37 69) (g37 70))) ∧ ((¬ (r102 = (0 : Int))) → (sv_RL (g37 69 r7) → (sv_RL (g37 70 r7) → (sv_R ((647740 : Int) + (1 : Int))) ∧ (29 ≤ (S 1071 0) ∧ (S 1071 0) ≤ 127 ∧ 31 ≤ (S 1008 0) ∧ (S 1008 0) ≤ 90 ∧ 1 ≤ (S 1032 0) ∧ (S 1032 0) ≤ 11 ∧ 0 ≤ (S 1055 0) ∧ (S 1055 0) ≤ 19 ∧ (S 1071 0) = 29 + 6 * ((S 1032 0) - 1) + 2 * (S 1055 0) ∧ 0 ≤ (S 1046 0) ∧ (S 1046 0) + 2 * (S 1032 0) ≤ 500 ∧ sm_PD (S 1046 0) (S 1032 0) (S 1071 0) (S 1008 0) ∧ 0 ≤ (S 1071 0) * ((S 1008 0) + 1) ∧ (S 1071 0) * ((S 1008 0) + 1) ≤ 11557 ∧ 635639 ≤ ((647740 : Int) + (1 : Int)) ∧ ((647740 : Int) + (1 : Int)) < 647790) ∧ (∀ g107 : sv_S, (sm_pt (g107 68) (g107 69) (g107 70) = sm_pt (g37 68) (g37 69) (g37 70)) → (0 ≤ ((647740 : Int) + (1 : Int)) ∧ ((647740 : Int) + (1 : Int)) < 647800 ∧ 0 ≤ (647740 : Int) ∧ (647740 : Int) < 647800) ∧ (∀ r118 : Int, sv_R r118 → ∀ g114 : sv_S, ((635639 ≤ (647740 : Int) → sm_pt (g114 68) (g114 69) (g114 70) = sm_pt (g107 68) (g107 69) (g107 70)) ∧ (r118 = 0 ∨ r118 = 1) ∧ ((647740 : Int) < 635639 → sm_pt (g114 68) (g114 69) (g114 70) + r118 ≤ sm_pt (g107 68) (g107 69) (g107 70))) → ((0 ≤ (g107 1145 0) ∧ (g107 1145 0) ≤ 1) → ((((g107 1145 0) = (0 : Int)) → (sm_pt (g114 68) (g114 69) (g114 70) = sm_pt (g37 68) (g37 69) (g37 70))) ∧ ((¬ ((g107 1145 0) = (0 : Int))) → (635639 ≤ (647740 : Int) ∧ (647740 : Int) < 647790) ∧ (∀ g123 : sv_S, (sm_pt (g123 68) (g123 69) (g123 70) = sm_pt (g114 68) (g114 69) (g114 70)) → (sm_pt (g123 68) (g123 69) (g123 70) = sm_pt (g37 68) (g37 69) (g37 70)))))))))))))))) ∧ (∀ r130 : Int, (0 ≤ r130 ∧ r130 ≤ (384 : Int)) → (((r130 = (0 : Int)) → (sm_pt (g26 68) (g26 69) (g26 70) = sm_pt (g26 68) (g26 69) (g26 70))) ∧ ((¬ (r130 = (0 : Int))) → (29 ≤ (S 1071 0) ∧ (S 1071 0) ≤ 127 ∧ 31 ≤ (S 1008 0) ∧ (S 1008 0) ≤ 90 ∧ 1 ≤ (S 1032 0) ∧ (S 1032 0) ≤ 11 ∧ 0 ≤ (S 1055 0) ∧ (S 1055 0) ≤ 19 ∧ (S 1071 0) = 29 + 6 * ((S 1032 0) - 1) + 2 * (S 1055 0) ∧ 0 ≤ (S 1046 0) ∧ (S 1046 0) + 2 * (S 1032 0) ≤ 500 ∧ sm_PD (S 1046 0) (S 1032 0) (S 1071 0) (S 1008 0) ∧ 0 ≤ (S 1071 0) * ((S 1008 0) + 1) ∧ (S 1071 0) * ((S 1008 0) + 1) ≤ 11557 ∧ 31 ≤ (S 1007 0) ∧ (S 1007 0) ≤ 400 ∧ sm_LN (S 4) 400 (S 1007 0) ∧ 0 ≤ r7 ∧ r7 < 647800 ∧ 635639 ≤ (647740 : Int) + 1 ∧ (647740 : Int) + 1 < 647790 ∧ 635639 ≤ (647740 : Int) ∧ (647740 : Int) < 647790) ∧ (∀ g132 : sv_S, (sm_pt (g132 68) (g132 69) (g132 70) = sm_pt (g26 68) (g26 69) (g26 70)) → (sm_pt (g132 68) (g132 69) (g132 70) = sm_pt (g26 68) (g26 69) (g26 70))))))))) ∧ (∀ r139 : Int, (0 ≤ r139 ∧ r139 ≤ (124 : Int)) → (((r139 = (0 : Int)) → (sm_pt (g21 68) (g21 69) (g21 70) = sm_pt (g21 68) (g21 69) (g21 70))) ∧ ((¬ (r139 = (0 : Int))) → (635639 ≤ (647740 : Int) ∧ (647740 : Int) < 647790) ∧ (∀ g141 : sv_S, (sm_pt (g141 68) (g141 69) (g141 70) = sm_pt (g21 68) (g21 69) (g21 70)) → (sm_pt (g141 68) (g141 69) (g141 70) = sm_pt (g21 68) (g21 69) (g21 70)))))))))))) := by
  intro S
  intro h1_
  rintro ⟨h2_, ⟨h3_, ⟨h4_, ⟨h5_, ⟨h6_, ⟨h7_, ⟨h8_, ⟨h9_, ⟨h10_, ⟨h11_, ⟨h12_, ⟨h13_, ⟨h14_, ⟨h15_, ⟨h16_, ⟨h17_, ⟨h18_, ⟨h19_, ⟨h20_, ⟨h21_, ⟨h22_, ⟨h23_, ⟨h24_, ⟨h25_, ⟨h26_, ⟨h27_, ⟨h28_, ⟨h29_, ⟨h30_, ⟨h31_, ⟨h32_, ⟨h33_, ⟨h34_, ⟨h35_, ⟨h36_, ⟨h37_, ⟨h38_, ⟨h39_, ⟨h40_, ⟨h41_, ⟨h42_, ⟨h43_, h44_⟩⟩⟩⟩⟩⟩⟩⟩⟩⟩⟩⟩⟩⟩⟩⟩⟩⟩⟩⟩⟩⟩⟩⟩⟩⟩⟩⟩⟩⟩⟩⟩⟩⟩⟩⟩⟩⟩⟩⟩⟩⟩
  intro h45_
  have h46_ := (h45_ h24_)
  have h47_ := (h46_ h36_)
  obtain ⟨h48_, ⟨h49_, ⟨h50_, h51_⟩⟩⟩ := (h47_ h37_)
  refine ⟨(la_waysOfGet_0 h19_ h39_ h41_ h49_), ?_⟩
  intro r7
  intro h52_
  intro h53_
  refine ⟨(la_waysOfGet_1 h19_ h39_ h41_ h49_), ?_⟩
  intro r13
  intro h54_
  intro h55_
  refine ⟨(la_waysOfGet_2 h27_ h28_ h53_), ?_⟩
  intro r19
  intro h56_
  intro h57_
  refine ⟨la_waysOfGet_3, ?_⟩
  intro g21
  intro h58_
  have h59_ := (h58_ la_waysOfGet_4)
  refine ⟨?_, ?_⟩
  · skip
    intro g26
    intro h60_
    refine ⟨⟨h16_, ⟨h17_, ⟨h18_, ⟨(la_waysOfGet_5 h27_ h55_), ⟨(la_waysOfGet_6 h28_ h55_), ⟨h2_, ⟨h3_, ⟨h4_, ⟨h5_, ⟨h6_, ⟨h7_, ⟨h8_, ⟨h9_, ⟨h10_, ⟨h11_, ⟨h12_, ⟨h13_, (la_waysOfGet_7 h14_ h15_)⟩⟩⟩⟩⟩⟩⟩⟩⟩⟩⟩⟩⟩⟩⟩⟩⟩, ?_⟩
    intro g32
    intro _
    refine ⟨?_, ?_⟩
    · skip
      intro g37
      intro h61_
      intro g42
      intro _
      refine ⟨?_, ?_⟩
      · skip
        intro g47
        intro h62_
        refine ⟨?_, ?_⟩
        · skip
          intro s52
          intro h63_
          intro h64_
          refine ⟨⟨h2_, ⟨h3_, ⟨h4_, ⟨h5_, ⟨h6_, ⟨h7_, ⟨h8_, ⟨h9_, ⟨h10_, ⟨h11_, ⟨h12_, ⟨h13_, ⟨h14_, ⟨h15_, ⟨h16_, ⟨h17_, ⟨h18_, ⟨h19_, ⟨h20_, ⟨h21_, ⟨h22_, ⟨h23_, ⟨h24_, ⟨h25_, ⟨h26_, ⟨h27_, ⟨h28_, ⟨h29_, ⟨h30_, ⟨h31_, ⟨h32_, ⟨h33_, ⟨h34_, ⟨h35_, (la_waysOfGet_8 h36_ h39_ h40_ h41_ h42_ h43_ h44_ h49_)⟩⟩⟩⟩⟩⟩⟩⟩⟩⟩⟩⟩⟩⟩⟩⟩⟩⟩⟩⟩⟩⟩⟩⟩⟩⟩⟩⟩⟩⟩⟩⟩⟩⟩, ?_⟩
          intro g55
          rintro ⟨h65_, ⟨h66_, ⟨h67_, ⟨h68_, ⟨h69_, ⟨h70_, h71_⟩⟩⟩⟩⟩⟩
          intro h72_
          refine ⟨?_, ?_⟩
          · skip
            intro h73_
            have h74_ := (h64_.resolve_right (la_waysOfGet_9 h73_))
            intro r61
            intro h75_
            refine ⟨?_, ?_⟩
            · skip
              intro h76_
              refine ⟨h65_, ?_⟩
              refine ⟨h66_, ?_⟩
              refine ⟨h67_, ?_⟩
              refine ⟨h68_, ?_⟩
              refine ⟨h69_, ?_⟩
              refine ⟨h70_, ?_⟩
              exact (la_waysOfGet_10 h59_ h60_ h61_ h62_ h71_)
            intro h77_
            intro h78_
            refine ⟨?_, ?_⟩
            · skip
              refine ⟨h2_, ?_⟩
              refine ⟨h3_, ?_⟩
              refine ⟨h4_, ?_⟩
              refine ⟨h5_, ?_⟩
              refine ⟨h6_, ?_⟩
              refine ⟨h7_, ?_⟩
              refine ⟨h8_, ?_⟩
              refine ⟨h9_, ?_⟩
              refine ⟨h10_, ?_⟩
              refine ⟨h11_, ?_⟩
              refine ⟨h12_, ?_⟩
              refine ⟨h13_, ?_⟩
              refine ⟨h14_, ?_⟩
              refine ⟨h15_, ?_⟩
              refine ⟨h16_, ?_⟩
              refine ⟨h17_, ?_⟩
              refine ⟨h18_, ?_⟩
              refine ⟨h68_, ?_⟩
              refine ⟨h65_, ?_⟩
              refine ⟨h66_, ?_⟩
              refine ⟨h67_, ?_⟩
              refine ⟨h23_, ?_⟩
              refine ⟨h24_, ?_⟩
              refine ⟨h25_, ?_⟩
              refine ⟨h70_, ?_⟩
              refine ⟨h36_, ?_⟩
              refine ⟨h37_, ?_⟩
              refine ⟨?_, ?_⟩
              · skip
                have h79_ := (h25_ (S 1148 0))
                have h80_ := (h25_ (S 1148 0 + 1))
                have h81_ := ((h69_ (S 1148 0)) h38_)
                exact h81_
              refine ⟨la_waysOfGet_15, ?_⟩
              refine ⟨la_waysOfGet_16, ?_⟩
              exact la_waysOfGet_17
            intro g66
            rintro ⟨h82_, ⟨h83_, ⟨h84_, ⟨h85_, ⟨h86_, ⟨h87_, h88_⟩⟩⟩⟩⟩⟩
            refine ⟨h82_, ?_⟩
            refine ⟨h83_, ?_⟩
            refine ⟨h84_, ?_⟩
            refine ⟨h85_, ?_⟩
            refine ⟨?_, ?_⟩
            · skip
              intro k
              intro h89_
              have h90_ := (h25_ (S 1148 0))
              have h91_ := (h25_ (S 1148 0 + 1))
              have h92_ := ((h69_ (S 1148 0)) h38_)
              have h93_ := ((h69_ k) h89_)
              have h94_ := ((h86_ k) h93_)
              have h95_ := ((h86_ (S 1148 0)) h92_)
              exact h94_
            refine ⟨h87_, ?_⟩
            exact (la_waysOfGet_18 h59_ h60_ h61_ h62_ h71_ h88_)
          intro h96_
          have h97_ := (h64_.resolve_left h96_)
          intro r71
          intro h98_
          refine ⟨?_, ?_⟩
          · skip
            intro h99_
            refine ⟨h65_, ?_⟩
            refine ⟨h66_, ?_⟩
            refine ⟨h67_, ?_⟩
            refine ⟨h68_, ?_⟩
            refine ⟨h69_, ?_⟩
            refine ⟨h70_, ?_⟩
            exact (la_waysOfGet_10 h59_ h60_ h61_ h62_ h71_)
          intro h100_
          intro h101_
          refine ⟨?_, ?_⟩
          · skip
            refine ⟨h2_, ?_⟩
            refine ⟨h3_, ?_⟩
            refine ⟨h4_, ?_⟩
            refine ⟨h5_, ?_⟩
            refine ⟨h6_, ?_⟩
            refine ⟨h7_, ?_⟩
            refine ⟨h8_, ?_⟩
            refine ⟨h9_, ?_⟩
            refine ⟨h10_, ?_⟩
            refine ⟨h11_, ?_⟩
            refine ⟨h12_, ?_⟩
            refine ⟨h13_, ?_⟩
            refine ⟨h14_, ?_⟩
            refine ⟨h15_, ?_⟩
            refine ⟨h16_, ?_⟩
            refine ⟨h17_, ?_⟩
            refine ⟨h18_, ?_⟩
            refine ⟨h68_, ?_⟩
            refine ⟨h65_, ?_⟩
            refine ⟨h66_, ?_⟩
            refine ⟨h67_, ?_⟩
            refine ⟨h23_, ?_⟩
            refine ⟨h24_, ?_⟩
            refine ⟨h25_, ?_⟩
            refine ⟨h70_, ?_⟩
            refine ⟨h36_, ?_⟩
            refine ⟨h37_, ?_⟩
            refine ⟨?_, ?_⟩
            · skip
              have h102_ := (h25_ (S 1148 0))
              have h103_ := (h25_ (S 1148 0 + 1))
              have h104_ := ((h69_ (S 1148 0)) h38_)
              exact h104_
            refine ⟨la_waysOfGet_15, ?_⟩
            refine ⟨la_waysOfGet_16, ?_⟩
            exact la_waysOfGet_17
          intro g76
          rintro ⟨h105_, ⟨h106_, ⟨h107_, ⟨h108_, ⟨h109_, ⟨h110_, h111_⟩⟩⟩⟩⟩⟩
          refine ⟨h105_, ?_⟩
          refine ⟨h106_, ?_⟩
          refine ⟨h107_, ?_⟩
          refine ⟨h108_, ?_⟩
          refine ⟨?_, ?_⟩
          · skip
            intro kv1
            intro h112_
            have h113_ := (h25_ (S 1148 0))
            have h114_ := (h25_ (S 1148 0 + 1))
            have h115_ := ((h69_ kv1) h112_)
            have h116_ := ((h69_ (S 1148 0)) h38_)
            have h117_ := ((h109_ kv1) h115_)
            have h118_ := ((h109_ (S 1148 0)) h116_)
            exact h117_
          refine ⟨h110_, ?_⟩
          exact (la_waysOfGet_18 h59_ h60_ h61_ h62_ h71_ h111_)
        intro r86
        intro h119_
        intro h120_
        refine ⟨la_waysOfGet_21, ?_⟩
        intro h121_
        have h122_ := (h120_.resolve_left h121_)
        intro r91
        intro h123_
        intro h124_
        refine ⟨la_waysOfGet_22, ?_⟩
        intro h125_
        intro r96
        intro h126_
        intro h127_
        refine ⟨la_waysOfGet_23, ?_⟩
        intro h128_
        have h129_ := (h127_.resolve_right (la_waysOfGet_24 h128_))
        exact la_waysOfGet_25
      intro r102
      intro h130_
      intro h131_
      refine ⟨la_waysOfGet_26, ?_⟩
      intro h132_
      have h133_ := (h131_.resolve_left h132_)
      intro h134_
      intro h135_
      refine ⟨la_waysOfGet_27, ?_⟩
      refine ⟨⟨h2_, ⟨h3_, ⟨h4_, ⟨h5_, ⟨h6_, ⟨h7_, ⟨h8_, ⟨h9_, ⟨h10_, ⟨h11_, ⟨h12_, ⟨h13_, (la_waysOfGet_28 h14_ h15_)⟩⟩⟩⟩⟩⟩⟩⟩⟩⟩⟩⟩, ?_⟩
      intro g107
      intro h136_
      refine ⟨la_waysOfGet_29, ?_⟩
      intro r118
      intro h137_
      intro g114
      rintro ⟨h138_, ⟨h139_, h140_⟩⟩
      have h141_ := (h138_ la_waysOfGet_4)
      rintro ⟨h142_, h143_⟩
      refine ⟨(la_waysOfGet_31 h136_ h141_), ?_⟩
      intro h144_
      refine ⟨la_waysOfGet_32, ?_⟩
      intro g123
      intro h145_
      exact (la_waysOfGet_33 h136_ h141_ h145_)
    intro r130
    rintro ⟨h146_, h147_⟩
    refine ⟨la_waysOfGet_26, ?_⟩
    intro h148_
    refine ⟨⟨h2_, ⟨h3_, ⟨h4_, ⟨h5_, ⟨h6_, ⟨h7_, ⟨h8_, ⟨h9_, ⟨h10_, ⟨h11_, ⟨h12_, ⟨h13_, ⟨h14_, ⟨h15_, ⟨h16_, ⟨h17_, ⟨h18_, (la_waysOfGet_34 h27_ h28_ h53_)⟩⟩⟩⟩⟩⟩⟩⟩⟩⟩⟩⟩⟩⟩⟩⟩⟩, ?_⟩
    intro g132
    intro h149_
    exact h149_
  intro r139
  rintro ⟨h150_, h151_⟩
  refine ⟨la_waysOfGet_26, ?_⟩
  intro h152_
  refine ⟨la_waysOfGet_32, ?_⟩
  intro g141
  intro h153_
  exact h153_
set_option maxRecDepth 8000 in
set_option maxHeartbeats 2000000 in
theorem t_waysOfGet : ∀ (S : sv_S), sm_ok S → (29 ≤ (S 1071 0) ∧ (S 1071 0) ≤ 127 ∧ 31 ≤ (S 1008 0) ∧ (S 1008 0) ≤ 90 ∧ 1 ≤ (S 1032 0) ∧ (S 1032 0) ≤ 11 ∧ 0 ≤ (S 1055 0) ∧ (S 1055 0) ≤ 19 ∧ (S 1071 0) = 29 + 6 * ((S 1032 0) - 1) + 2 * (S 1055 0) ∧ 0 ≤ (S 1046 0) ∧ (S 1046 0) + 2 * (S 1032 0) ≤ 500 ∧ sm_PD (S 1046 0) (S 1032 0) (S 1071 0) (S 1008 0) ∧ 0 ≤ (S 1071 0) * ((S 1008 0) + 1) ∧ (S 1071 0) * ((S 1008 0) + 1) ≤ 11557 ∧ 31 ≤ (S 1007 0) ∧ (S 1007 0) ≤ 400 ∧ sm_LN (S 4) 400 (S 1007 0) ∧ (S 75 639) = 647340 ∧ sm_ST (S 71) (S 74) (S 75) (S 78) (S 79) (S 80) (S 27) (S 1100007) (S 1100023) (S 1100024) (S 1046 0) ((S 1046 0) + 2 * (S 1032 0)) (S 1127 0) ∧ 465000 ≤ (S 1127 0) ∧ (S 1127 0) + sm_hs (S 71) (S 1100007) ≤ 635000 ∧ sm_NH (S 1100007) ∧ sm_CT (S 26) (S 27) (S 28) (S 29) (S 1100007) (S 1100023) (S 1100024) (S 1100025) (S 21) (S 1046 0) (S 1032 0) (S 1008 0) (S 1055 0) ∧ (∀ k : Int, (S 1046 0) ≤ k → k < ((S 1046 0) + 2 * (S 1032 0)) → (S 1100007 k) = 1) ∧ sm_DR (S 72) (S 71) (S 1046 0) ∧ 0 ≤ (S 74 639) ∧ (S 74 639) ≤ 400 ∧ 0 ≤ (S 78 639) ∧ (S 78 639) ≤ 40 ∧ (S 78 639) = sm_dp (S 1100024) (S 1100031 0) ∧ -1 ≤ (S 1100031 0) ∧ (S 1100031 0) < (S 1046 0) ∧ (0 ≤ (S 1100031 0) → (S 26 (S 1100031 0)) = 27) ∧ sm_TC (S 79) (S 80) (S 27) (S 1100007) (S 1100023) (S 1100024) 25560 (S 1100031 0) ∧ 0 ≤ (S 1148 0) ∧ (S 1148 0) < (S 1046 0) ∧ (S 71 (S 1148 0)) = 1 ∧ (S 74 639) = (S 1100007 (S 1148 0)) ∧ (S 1100031 0) = (S 1100023 (S 1148 0)) ∧ 2 ≤ (S 1100007 (S 1148 0)) ∧ (S 1148 0) + 1 < (S 1046 0) ∧ (S 1100007 ((S 1148 0) + 1)) = (S 1100007 (S 1148 0)) + (-1) ∧ (S 1100023 ((S 1148 0) + 1)) = (S 1100023 (S 1148 0))) → sv_T sm_XS sm_cs sm_L sm_sh 9 (q_waysOfGet S) 274 0 (lv_args 0 [.ref 0]) [] S := by
  intro S hok hpre
  have h := f_waysOfGet S hok hpre
  have hM := sm_h274
  show sv_T sm_XS sm_cs sm_L sm_sh 9 (q_waysOfGet S) 274 0 [(0, .ref 0)] [] S
  have k1 : (sm_CT (S 26) (S 27) (S 28) (S 29) (S 1100007) (S 1100023) (S 1100024) (S 1100025) (S 21) (S 1046 0) (S 1032 0) (S 1008 0) (S 1055 0) → 0 ≤ (S 1148 0) → (S 1148 0) < (S 1046 0) → 0 ≤ (S 1100007 (S 1148 0)) ∧ (S 1100007 (S 1148 0)) ≤ 396 ∧ -1 ≤ (S 1100023 (S 1148 0)) ∧ (S 1100023 (S 1148 0)) < (S 1148 0)) := fun h h0 h1 => by have q := sm_ct_0 h _ h0 h1; exact ⟨q.2.2.2.2.1, q.2.2.2.2.2.1, q.2.2.2.2.2.2.2.1, q.2.2.2.2.2.2.2.2.1⟩
  have h := h k1
  refine sv_aload_n hM dX12_waysOfGet_0 rfl rfl ?_
  refine sv_iconst (d := (1 : Int)) hM dX12_waysOfGet_1 rfl rfl ?_
  obtain ⟨o2, h⟩ := h
  refine sv_callV hM dX12_waysOfGet_2 sm_iv_1195 (by decide) (sm_a0 _) rfl rfl (Nat.le_of_ble_eq_true rfl) sm_h229 (Nat.le_of_ble_eq_true rfl) (Nat.le_of_ble_eq_true rfl) (F' := 0) (Nat.le_of_ble_eq_true rfl) rfl (t_fromTop (1 : Int) S hok (⟨by decide, by decide⟩ : sv_R (1 : Int)) o2) (fun v S1 hq => ?_)
  obtain ⟨r7, rfl, hr7, ok4, md5, hpo6⟩ := hq
  obtain rfl : S = S1 := (funext fun j => md5 j (by intro q; cases q)).symm
  show sv_T sm_XS sm_cs sm_L sm_sh 9 (q_waysOfGet S) 274 5 [(0, .ref 0)] [sv_I r7] S
  have h := h r7 hr7 hpo6
  refine sv_istore_n hM dX12_waysOfGet_5 (by decide) rfl ?_
  show sv_T sm_XS sm_cs sm_L sm_sh 9 (q_waysOfGet S) 274 6 [(0, .ref 0), (1, sv_I r7)] [] S
  refine sv_aload_n hM dX12_waysOfGet_6 rfl rfl ?_
  refine sv_iconst (d := (0 : Int)) hM dX12_waysOfGet_7 rfl rfl ?_
  obtain ⟨o8, h⟩ := h
  refine sv_callV hM dX12_waysOfGet_8 sm_iv_1195 (by decide) (sm_a0 _) rfl rfl (Nat.le_of_ble_eq_true rfl) sm_h229 (Nat.le_of_ble_eq_true rfl) (Nat.le_of_ble_eq_true rfl) (F' := 0) (Nat.le_of_ble_eq_true rfl) rfl (t_fromTop (0 : Int) S ok4 (⟨by decide, by decide⟩ : sv_R (0 : Int)) o8) (fun v S1 hq => ?_)
  obtain ⟨r13, rfl, hr13, ok10, md11, hpo12⟩ := hq
  obtain rfl : S = S1 := (funext fun j => md11 j (by intro q; cases q)).symm
  show sv_T sm_XS sm_cs sm_L sm_sh 9 (q_waysOfGet S) 274 11 [(0, .ref 0), (1, sv_I r7)] [sv_I r13] S
  have h := h r13 hr13 hpo12
  refine sv_istore_n hM dX12_waysOfGet_11 (by decide) rfl ?_
  show sv_T sm_XS sm_cs sm_L sm_sh 9 (q_waysOfGet S) 274 12 [(0, .ref 0), (1, sv_I r7), (2, sv_I r13)] [] S
  refine sv_ldc_w (d := (647740 : Int)) hM dX12_waysOfGet_12 sm_ck_1218 rfl rfl ?_
  refine sv_istore_n hM dX12_waysOfGet_15 (by decide) rfl ?_
  show sv_T sm_XS sm_cs sm_L sm_sh 9 (q_waysOfGet S) 274 16 [(0, .ref 0), (1, sv_I r7), (2, sv_I r13), (3, sv_I (647740 : Int))] [] S
  refine sv_aload_n hM dX12_waysOfGet_16 rfl rfl ?_
  refine sv_iload_n hM dX12_waysOfGet_17 rfl rfl ?_
  obtain ⟨o14, h⟩ := h
  refine sv_callV hM dX12_waysOfGet_18 sm_iv_1059 (by decide) (sm_a0 _) rfl rfl (Nat.le_of_ble_eq_true rfl) sm_h210 (Nat.le_of_ble_eq_true rfl) (Nat.le_of_ble_eq_true rfl) (F' := 1) (Nat.le_of_ble_eq_true rfl) rfl (t_plainly r7 S ok10 hr7 o14) (fun v S1 hq => ?_)
  obtain ⟨r19, rfl, hr19, ok16, md17, hpo18⟩ := hq
  obtain rfl : S = S1 := (funext fun j => md17 j (by intro q; cases q)).symm
  show sv_T sm_XS sm_cs sm_L sm_sh 9 (q_waysOfGet S) 274 21 [(0, .ref 0), (1, sv_I r7), (2, sv_I r13), (3, sv_I (647740 : Int))] [sv_I r19] S
  have h := h r19 hr19 hpo18
  refine sv_istore hM dX12_waysOfGet_21 (by decide) rfl ?_
  show sv_T sm_XS sm_cs sm_L sm_sh 9 (q_waysOfGet S) 274 23 [(0, .ref 0), (1, sv_I r7), (2, sv_I r13), (3, sv_I (647740 : Int)), (4, sv_I r19)] [] S
  refine sv_aload_n hM dX12_waysOfGet_23 rfl rfl ?_
  refine sv_iload_n hM dX12_waysOfGet_24 rfl rfl ?_
  obtain ⟨o20, h⟩ := h
  refine sv_callV hM dX12_waysOfGet_25 sm_iv_1066 (by decide) (sm_a0 _) rfl rfl (Nat.le_of_ble_eq_true rfl) sm_h206 (Nat.le_of_ble_eq_true rfl) (Nat.le_of_ble_eq_true rfl) (F' := 0) (Nat.le_of_ble_eq_true rfl) rfl (t_empty (647740 : Int) S ok16 (⟨by decide, by decide⟩ : sv_R (647740 : Int)) o20) (fun v S1 hq => ?_)
  obtain ⟨rfl, ok22, md23, hpo24⟩ := hq
  obtain ⟨g21, rfl⟩ : ∃ g, S1 = sv_sts S [68, 69, 70] g := ⟨_, md23.eq⟩
  show sv_T sm_XS sm_cs sm_L sm_sh 9 (q_waysOfGet S) 274 28 [(0, .ref 0), (1, sv_I r7), (2, sv_I r13), (3, sv_I (647740 : Int)), (4, sv_I r19)] [] (sv_sts S [68, 69, 70] g21)
  have md25 : sv_mod [68, 69, 70, 81, 82, 83, 84, 85, 86, 71, 74, 75, 1127, 78, 79, 80, 72, 76, 77, 1143, 1144, 5, 1011, 1150, 1149, 1145, 1113, 1111, 1112, 1100031] S (sv_sts S [68, 69, 70] g21) := sv_mod.sts sv_mod.rf (by decide)
  have h := h g21 hpo24
  have J138 : ∀ g26 : sv_S, sm_ok (sv_sts (sv_sts S [68, 69, 70] g21) [68, 69, 70] g26) → (sm_pt (g26 68) (g26 69) (g26 70) = sm_pt (g21 68) (g21 69) (g21 70)) → sv_T sm_XS sm_cs sm_L sm_sh 9 (q_waysOfGet S) 274 42 [(0, .ref 0), (1, sv_I r7), (2, sv_I r13), (3, sv_I (647740 : Int)), (4, sv_I r19)] [] (sv_sts (sv_sts S [68, 69, 70] g21) [68, 69, 70] g26) := by
    intro  g26 ok27 hin28
    have h := h.1 g26 hin28
    have md29 : sv_mod [68, 69, 70, 81, 82, 83, 84, 85, 86, 71, 74, 75, 1127, 78, 79, 80, 72, 76, 77, 1143, 1144, 5, 1011, 1150, 1149, 1145, 1113, 1111, 1112, 1100031] S (sv_sts (sv_sts S [68, 69, 70] g21) [68, 69, 70] g26) := sv_mod.sts md25 (by decide)
    have md30 : sv_mod [68, 69, 70] (sv_sts S [68, 69, 70] g21) (sv_sts (sv_sts S [68, 69, 70] g21) [68, 69, 70] g26) := sv_mod.sts sv_mod.rf (by decide)
    refine sv_aload_n hM dX12_waysOfGet_42 rfl rfl ?_
    refine sv_iload_n hM dX12_waysOfGet_43 rfl rfl ?_
    obtain ⟨o31, h⟩ := h
    refine sv_callV hM dX12_waysOfGet_44 sm_iv_1147 (by decide) (sm_a0 _) rfl rfl (Nat.le_of_ble_eq_true rfl) sm_h245 (Nat.le_of_ble_eq_true rfl) (Nat.le_of_ble_eq_true rfl) (F' := 3) (Nat.le_of_ble_eq_true rfl) rfl (t_keysOf r13 (sv_sts (sv_sts S [68, 69, 70] g21) [68, 69, 70] g26) ok27 hr13 o31) (fun v S1 hq => ?_)
    obtain ⟨rfl, ok33, md34, hpo35⟩ := hq
    obtain ⟨g32, rfl⟩ : ∃ g, S1 = sv_sts (sv_sts (sv_sts S [68, 69, 70] g21) [68, 69, 70] g26) [1143, 1144, 5, 1011] g := ⟨_, md34.eq⟩
    show sv_T sm_XS sm_cs sm_L sm_sh 9 (q_waysOfGet S) 274 47 [(0, .ref 0), (1, sv_I r7), (2, sv_I r13), (3, sv_I (647740 : Int)), (4, sv_I r19)] [] (sv_sts (sv_sts (sv_sts S [68, 69, 70] g21) [68, 69, 70] g26) [1143, 1144, 5, 1011] g32)
    have md36 : sv_mod [68, 69, 70, 81, 82, 83, 84, 85, 86, 71, 74, 75, 1127, 78, 79, 80, 72, 76, 77, 1143, 1144, 5, 1011, 1150, 1149, 1145, 1113, 1111, 1112, 1100031] S (sv_sts (sv_sts (sv_sts S [68, 69, 70] g21) [68, 69, 70] g26) [1143, 1144, 5, 1011] g32) := sv_mod.sts md29 (by decide)
    have h := h g32 hpo35
    have J129 : ∀ g37 : sv_S, sm_ok (sv_sts (sv_sts (sv_sts (sv_sts S [68, 69, 70] g21) [68, 69, 70] g26) [1143, 1144, 5, 1011] g32) [68, 69, 70, 1143, 1144, 1145] g37) → (sm_pt (g37 68) (g37 69) (g37 70) = sm_pt (g26 68) (g26 69) (g26 70)) → sv_T sm_XS sm_cs sm_L sm_sh 9 (q_waysOfGet S) 274 62 [(0, .ref 0), (1, sv_I r7), (2, sv_I r13), (3, sv_I (647740 : Int)), (4, sv_I r19)] [] (sv_sts (sv_sts (sv_sts (sv_sts S [68, 69, 70] g21) [68, 69, 70] g26) [1143, 1144, 5, 1011] g32) [68, 69, 70, 1143, 1144, 1145] g37) := by
      intro  g37 ok38 hin39
      have h := h.1 g37 hin39
      have md40 : sv_mod [68, 69, 70, 81, 82, 83, 84, 85, 86, 71, 74, 75, 1127, 78, 79, 80, 72, 76, 77, 1143, 1144, 5, 1011, 1150, 1149, 1145, 1113, 1111, 1112, 1100031] S (sv_sts (sv_sts (sv_sts (sv_sts S [68, 69, 70] g21) [68, 69, 70] g26) [1143, 1144, 5, 1011] g32) [68, 69, 70, 1143, 1144, 1145] g37) := sv_mod.sts md36 (by decide)
      have md41 : sv_mod [68, 69, 70, 1143, 1144, 1145] (sv_sts (sv_sts (sv_sts S [68, 69, 70] g21) [68, 69, 70] g26) [1143, 1144, 5, 1011] g32) (sv_sts (sv_sts (sv_sts (sv_sts S [68, 69, 70] g21) [68, 69, 70] g26) [1143, 1144, 5, 1011] g32) [68, 69, 70, 1143, 1144, 1145] g37) := sv_mod.sts sv_mod.rf (by decide)
      refine sv_aload_n hM dX12_waysOfGet_62 rfl rfl ?_
      refine sv_iload_n hM dX12_waysOfGet_63 rfl rfl ?_
      refine sv_callV hM dX12_waysOfGet_64 sm_iv_1147 (by decide) (sm_a0 _) rfl rfl (Nat.le_of_ble_eq_true rfl) sm_h245 (Nat.le_of_ble_eq_true rfl) (Nat.le_of_ble_eq_true rfl) (F' := 3) (Nat.le_of_ble_eq_true rfl) rfl (t_keysOf r13 (sv_sts (sv_sts (sv_sts (sv_sts S [68, 69, 70] g21) [68, 69, 70] g26) [1143, 1144, 5, 1011] g32) [68, 69, 70, 1143, 1144, 1145] g37) ok38 hr13 o31) (fun v S1 hq => ?_)
      obtain ⟨rfl, ok43, md44, hpo45⟩ := hq
      obtain ⟨g42, rfl⟩ : ∃ g, S1 = sv_sts (sv_sts (sv_sts (sv_sts (sv_sts S [68, 69, 70] g21) [68, 69, 70] g26) [1143, 1144, 5, 1011] g32) [68, 69, 70, 1143, 1144, 1145] g37) [1143, 1144, 5, 1011] g := ⟨_, md44.eq⟩
      show sv_T sm_XS sm_cs sm_L sm_sh 9 (q_waysOfGet S) 274 67 [(0, .ref 0), (1, sv_I r7), (2, sv_I r13), (3, sv_I (647740 : Int)), (4, sv_I r19)] [] (sv_sts (sv_sts (sv_sts (sv_sts (sv_sts S [68, 69, 70] g21) [68, 69, 70] g26) [1143, 1144, 5, 1011] g32) [68, 69, 70, 1143, 1144, 1145] g37) [1143, 1144, 5, 1011] g42)
      have md46 : sv_mod [68, 69, 70, 81, 82, 83, 84, 85, 86, 71, 74, 75, 1127, 78, 79, 80, 72, 76, 77, 1143, 1144, 5, 1011, 1150, 1149, 1145, 1113, 1111, 1112, 1100031] S (sv_sts (sv_sts (sv_sts (sv_sts (sv_sts S [68, 69, 70] g21) [68, 69, 70] g26) [1143, 1144, 5, 1011] g32) [68, 69, 70, 1143, 1144, 1145] g37) [1143, 1144, 5, 1011] g42) := sv_mod.sts md40 (by decide)
      have h := h g42 hpo45
      have J97 : ∀ g47 : sv_S, sm_ok (sv_sts (sv_sts (sv_sts (sv_sts (sv_sts (sv_sts S [68, 69, 70] g21) [68, 69, 70] g26) [1143, 1144, 5, 1011] g32) [68, 69, 70, 1143, 1144, 1145] g37) [1143, 1144, 5, 1011] g42) [68, 69, 70, 1143, 1144, 1145] g47) → (sm_pt (g47 68) (g47 69) (g47 70) = sm_pt (g37 68) (g37 69) (g37 70)) → sv_T sm_XS sm_cs sm_L sm_sh 9 (q_waysOfGet S) 274 117 [(0, .ref 0), (1, sv_I r7), (2, sv_I r13), (3, sv_I (647740 : Int)), (4, sv_I r19)] [] (sv_sts (sv_sts (sv_sts (sv_sts (sv_sts (sv_sts S [68, 69, 70] g21) [68, 69, 70] g26) [1143, 1144, 5, 1011] g32) [68, 69, 70, 1143, 1144, 1145] g37) [1143, 1144, 5, 1011] g42) [68, 69, 70, 1143, 1144, 1145] g47) := by
        intro  g47 ok48 hin49
        have h := h.1 g47 hin49
        have md50 : sv_mod [68, 69, 70, 81, 82, 83, 84, 85, 86, 71, 74, 75, 1127, 78, 79, 80, 72, 76, 77, 1143, 1144, 5, 1011, 1150, 1149, 1145, 1113, 1111, 1112, 1100031] S (sv_sts (sv_sts (sv_sts (sv_sts (sv_sts (sv_sts S [68, 69, 70] g21) [68, 69, 70] g26) [1143, 1144, 5, 1011] g32) [68, 69, 70, 1143, 1144, 1145] g37) [1143, 1144, 5, 1011] g42) [68, 69, 70, 1143, 1144, 1145] g47) := sv_mod.sts md46 (by decide)
        have md51 : sv_mod [68, 69, 70, 1143, 1144, 1145] (sv_sts (sv_sts (sv_sts (sv_sts (sv_sts S [68, 69, 70] g21) [68, 69, 70] g26) [1143, 1144, 5, 1011] g32) [68, 69, 70, 1143, 1144, 1145] g37) [1143, 1144, 5, 1011] g42) (sv_sts (sv_sts (sv_sts (sv_sts (sv_sts (sv_sts S [68, 69, 70] g21) [68, 69, 70] g26) [1143, 1144, 5, 1011] g32) [68, 69, 70, 1143, 1144, 1145] g37) [1143, 1144, 5, 1011] g42) [68, 69, 70, 1143, 1144, 1145] g47) := sv_mod.sts sv_mod.rf (by decide)
        have J81 : ∀ s52 : Int, sv_R s52 → (s52 = 0 ∨ s52 = 1) → sv_T sm_XS sm_cs sm_L sm_sh 9 (q_waysOfGet S) 274 147 [(0, .ref 0), (1, sv_I r7), (2, sv_I r13), (3, sv_I (647740 : Int)), (4, sv_I r19)] [sv_I s52] (sv_sts (sv_sts (sv_sts (sv_sts (sv_sts (sv_sts S [68, 69, 70] g21) [68, 69, 70] g26) [1143, 1144, 5, 1011] g32) [68, 69, 70, 1143, 1144, 1145] g37) [1143, 1144, 5, 1011] g42) [68, 69, 70, 1143, 1144, 1145] g47) := by
          intro s52 hs52 hin53
          have h := h.1 s52 hs52 hin53
          refine sv_istore hM dX12_waysOfGet_147 (by decide) rfl ?_
          show sv_T sm_XS sm_cs sm_L sm_sh 9 (q_waysOfGet S) 274 149 [(0, .ref 0), (1, sv_I r7), (2, sv_I r13), (3, sv_I (647740 : Int)), (4, sv_I r19), (5, sv_I s52)] [] (sv_sts (sv_sts (sv_sts (sv_sts (sv_sts (sv_sts S [68, 69, 70] g21) [68, 69, 70] g26) [1143, 1144, 5, 1011] g32) [68, 69, 70, 1143, 1144, 1145] g37) [1143, 1144, 5, 1011] g42) [68, 69, 70, 1143, 1144, 1145] g47)
          refine sv_aload_n hM dX12_waysOfGet_149 rfl rfl ?_
          refine sv_iconst (d := (2 : Int)) hM dX12_waysOfGet_150 rfl rfl ?_
          refine sv_iload_n hM dX12_waysOfGet_151 rfl rfl ?_
          obtain ⟨o54, h⟩ := h
          refine sv_callV hM dX12_waysOfGet_152 sm_iv_1258 (by decide) (sm_a0 _) rfl rfl (Nat.le_of_ble_eq_true rfl) sm_h267 (Nat.le_of_ble_eq_true rfl) (Nat.le_of_ble_eq_true rfl) (F' := 5) (Nat.le_of_ble_eq_true rfl) rfl (t_replace (2 : Int) (647740 : Int) (sv_sts (sv_sts (sv_sts (sv_sts (sv_sts (sv_sts S [68, 69, 70] g21) [68, 69, 70] g26) [1143, 1144, 5, 1011] g32) [68, 69, 70, 1143, 1144, 1145] g37) [1143, 1144, 5, 1011] g42) [68, 69, 70, 1143, 1144, 1145] g47) ok48 (⟨by decide, by decide⟩ : sv_R (2 : Int)) (⟨by decide, by decide⟩ : sv_R (647740 : Int)) o54) (fun v S1 hq => ?_)
          obtain ⟨rfl, ok56, md57, hpo58⟩ := hq
          obtain ⟨g55, rfl⟩ : ∃ g, S1 = sv_sts (sv_sts (sv_sts (sv_sts (sv_sts (sv_sts (sv_sts S [68, 69, 70] g21) [68, 69, 70] g26) [1143, 1144, 5, 1011] g32) [68, 69, 70, 1143, 1144, 1145] g37) [1143, 1144, 5, 1011] g42) [68, 69, 70, 1143, 1144, 1145] g47) [68, 69, 70, 81, 82, 83, 84, 85, 86, 71, 74, 75, 1127, 78, 79, 80, 72, 76, 77, 1150] g := ⟨_, md57.eq⟩
          show sv_T sm_XS sm_cs sm_L sm_sh 9 (q_waysOfGet S) 274 155 [(0, .ref 0), (1, sv_I r7), (2, sv_I r13), (3, sv_I (647740 : Int)), (4, sv_I r19), (5, sv_I s52)] [] (sv_sts (sv_sts (sv_sts (sv_sts (sv_sts (sv_sts (sv_sts S [68, 69, 70] g21) [68, 69, 70] g26) [1143, 1144, 5, 1011] g32) [68, 69, 70, 1143, 1144, 1145] g37) [1143, 1144, 5, 1011] g42) [68, 69, 70, 1143, 1144, 1145] g47) [68, 69, 70, 81, 82, 83, 84, 85, 86, 71, 74, 75, 1127, 78, 79, 80, 72, 76, 77, 1150] g55)
          have md59 : sv_mod [68, 69, 70, 81, 82, 83, 84, 85, 86, 71, 74, 75, 1127, 78, 79, 80, 72, 76, 77, 1143, 1144, 5, 1011, 1150, 1149, 1145, 1113, 1111, 1112, 1100031] S (sv_sts (sv_sts (sv_sts (sv_sts (sv_sts (sv_sts (sv_sts S [68, 69, 70] g21) [68, 69, 70] g26) [1143, 1144, 5, 1011] g32) [68, 69, 70, 1143, 1144, 1145] g37) [1143, 1144, 5, 1011] g42) [68, 69, 70, 1143, 1144, 1145] g47) [68, 69, 70, 81, 82, 83, 84, 85, 86, 71, 74, 75, 1127, 78, 79, 80, 72, 76, 77, 1150] g55) := sv_mod.sts md50 (by decide)
          have h := h g55 hpo58
          refine sv_aload_n hM dX12_waysOfGet_155 rfl rfl ?_
          refine sv_aload_n hM dX12_waysOfGet_156 rfl rfl ?_
          have k60 : sv_R (S 1149 0) := sm_okI ok56 sm_r1149 0
          have h := h k60
          refine sv_getI hM dX12_waysOfGet_157 sm_fl_1208 (sm_a0 _) sm_k149 rfl (x := (S 1149 0)) rfl ?_
          refine sv_iload hM dX12_waysOfGet_160 rfl rfl ?_
          refine sv_cond_eq hM dX12_waysOfGet_162 hs52 (t := 170) rfl rfl (fun hc => ?_) (fun hc => ?_)
          · have h := h.1 (hc)
            refine sv_iconst (d := (0 : Int)) hM dX12_waysOfGet_170 rfl rfl ?_
            refine sv_anyI hM dX12_waysOfGet_171 rfl rfl (fun r61 hr61 _ => ?_)
            have h := h r61 hr61
            refine sv_putI sm_X hM dX12_waysOfGet_172 sm_fp_1208 (sm_a0 _) sm_q149 (Or.inl rfl) rfl rfl rfl rfl ?_
            have ok62 : sm_ok (sv_up (sv_sts (sv_sts (sv_sts (sv_sts (sv_sts (sv_sts (sv_sts S [68, 69, 70] g21) [68, 69, 70] g26) [1143, 1144, 5, 1011] g32) [68, 69, 70, 1143, 1144, 1145] g37) [1143, 1144, 5, 1011] g42) [68, 69, 70, 1143, 1144, 1145] g47) [68, 69, 70, 81, 82, 83, 84, 85, 86, 71, 74, 75, 1127, 78, 79, 80, 72, 76, 77, 1150] g55) 1149 0 r61) := sm_upI ok56 sm_r1149 hr61
            have md63 : sv_mod [68, 69, 70, 81, 82, 83, 84, 85, 86, 71, 74, 75, 1127, 78, 79, 80, 72, 76, 77, 1143, 1144, 5, 1011, 1150, 1149, 1145, 1113, 1111, 1112, 1100031] S (sv_up (sv_sts (sv_sts (sv_sts (sv_sts (sv_sts (sv_sts (sv_sts S [68, 69, 70] g21) [68, 69, 70] g26) [1143, 1144, 5, 1011] g32) [68, 69, 70, 1143, 1144, 1145] g37) [1143, 1144, 5, 1011] g42) [68, 69, 70, 1143, 1144, 1145] g47) [68, 69, 70, 81, 82, 83, 84, 85, 86, 71, 74, 75, 1127, 78, 79, 80, 72, 76, 77, 1150] g55) 1149 0 r61) := sv_mod.up md59 (by decide)
            refine sv_iload hM dX12_waysOfGet_175 rfl rfl ?_
            refine sv_iconst (d := (3 : Int)) hM dX12_waysOfGet_177 rfl rfl ?_
            refine sv_iandm 2 (m := 4) (by decide) (by decide) (by decide) hM dX12_waysOfGet_178 rfl ?_
            refine sv_cond_eq hM dX12_waysOfGet_179 (⟨by omega, by omega⟩ : sv_R (r19 % 4)) (t := 192) rfl rfl (fun hc => ?_) (fun hc => ?_)
            · have h := h.1 (hc)
              exact sv_vret hM dX12_waysOfGet_192 rfl ⟨rfl, ok62, md63, h⟩
            · have h := h.2 (hc)
              refine sv_aload_n hM dX12_waysOfGet_182 rfl rfl ?_
              refine sv_aload_n hM dX12_waysOfGet_183 rfl rfl ?_
              have k64 : sv_R (S 1148 0) := sm_okI ok62 sm_r1148 0
              have h := h k64
              refine sv_getI hM dX12_waysOfGet_184 sm_fl_1188 (sm_a0 _) sm_k148 rfl (x := (S 1148 0)) rfl ?_
              refine sv_bipush (d := (6 : Int)) hM dX12_waysOfGet_187 rfl rfl ?_
              obtain ⟨o65, h⟩ := h
              refine sv_callV hM dX12_waysOfGet_189 sm_iv_1292 (by decide) (sm_a0 _) rfl rfl (Nat.le_of_ble_eq_true rfl) sm_h263 (Nat.le_of_ble_eq_true rfl) (Nat.le_of_ble_eq_true rfl) (F' := 8) (Nat.le_of_ble_eq_true rfl) rfl (t_error_ (S 1148 0) (6 : Int) (sv_up (sv_sts (sv_sts (sv_sts (sv_sts (sv_sts (sv_sts (sv_sts S [68, 69, 70] g21) [68, 69, 70] g26) [1143, 1144, 5, 1011] g32) [68, 69, 70, 1143, 1144, 1145] g37) [1143, 1144, 5, 1011] g42) [68, 69, 70, 1143, 1144, 1145] g47) [68, 69, 70, 81, 82, 83, 84, 85, 86, 71, 74, 75, 1127, 78, 79, 80, 72, 76, 77, 1150] g55) 1149 0 r61) ok62 k64 (⟨by decide, by decide⟩ : sv_R (6 : Int)) o65) (fun v S1 hq => ?_)
              obtain ⟨rfl, ok67, md68, hpo69⟩ := hq
              obtain ⟨g66, rfl⟩ : ∃ g, S1 = sv_sts (sv_up (sv_sts (sv_sts (sv_sts (sv_sts (sv_sts (sv_sts (sv_sts S [68, 69, 70] g21) [68, 69, 70] g26) [1143, 1144, 5, 1011] g32) [68, 69, 70, 1143, 1144, 1145] g37) [1143, 1144, 5, 1011] g42) [68, 69, 70, 1143, 1144, 1145] g47) [68, 69, 70, 81, 82, 83, 84, 85, 86, 71, 74, 75, 1127, 78, 79, 80, 72, 76, 77, 1150] g55) 1149 0 r61) [68, 69, 70, 81, 82, 83, 84, 85, 86, 71, 74, 75, 1127, 78, 79, 80, 72, 76, 77, 1143, 1144, 5, 1011, 1150, 1149, 1145, 1113, 1111, 1112, 1100031] g := ⟨_, md68.eq⟩
              show sv_T sm_XS sm_cs sm_L sm_sh 9 (q_waysOfGet S) 274 192 [(0, .ref 0), (1, sv_I r7), (2, sv_I r13), (3, sv_I (647740 : Int)), (4, sv_I r19), (5, sv_I s52)] [] (sv_sts (sv_up (sv_sts (sv_sts (sv_sts (sv_sts (sv_sts (sv_sts (sv_sts S [68, 69, 70] g21) [68, 69, 70] g26) [1143, 1144, 5, 1011] g32) [68, 69, 70, 1143, 1144, 1145] g37) [1143, 1144, 5, 1011] g42) [68, 69, 70, 1143, 1144, 1145] g47) [68, 69, 70, 81, 82, 83, 84, 85, 86, 71, 74, 75, 1127, 78, 79, 80, 72, 76, 77, 1150] g55) 1149 0 r61) [68, 69, 70, 81, 82, 83, 84, 85, 86, 71, 74, 75, 1127, 78, 79, 80, 72, 76, 77, 1143, 1144, 5, 1011, 1150, 1149, 1145, 1113, 1111, 1112, 1100031] g66)
              have md70 : sv_mod [68, 69, 70, 81, 82, 83, 84, 85, 86, 71, 74, 75, 1127, 78, 79, 80, 72, 76, 77, 1143, 1144, 5, 1011, 1150, 1149, 1145, 1113, 1111, 1112, 1100031] S (sv_sts (sv_up (sv_sts (sv_sts (sv_sts (sv_sts (sv_sts (sv_sts (sv_sts S [68, 69, 70] g21) [68, 69, 70] g26) [1143, 1144, 5, 1011] g32) [68, 69, 70, 1143, 1144, 1145] g37) [1143, 1144, 5, 1011] g42) [68, 69, 70, 1143, 1144, 1145] g47) [68, 69, 70, 81, 82, 83, 84, 85, 86, 71, 74, 75, 1127, 78, 79, 80, 72, 76, 77, 1150] g55) 1149 0 r61) [68, 69, 70, 81, 82, 83, 84, 85, 86, 71, 74, 75, 1127, 78, 79, 80, 72, 76, 77, 1143, 1144, 5, 1011, 1150, 1149, 1145, 1113, 1111, 1112, 1100031] g66) := sv_mod.sts md63 (by decide)
              have h := h g66 hpo69
              exact sv_vret hM dX12_waysOfGet_192 rfl ⟨rfl, ok67, md70, h⟩
          · have h := h.2 (hc)
            refine sv_bipush (d := (8 : Int)) hM dX12_waysOfGet_165 rfl rfl ?_
            refine sv_goto hM dX12_waysOfGet_167 (pc' := 171) rfl ?_
            refine sv_anyI hM dX12_waysOfGet_171 rfl rfl (fun r71 hr71 _ => ?_)
            have h := h r71 hr71
            refine sv_putI sm_X hM dX12_waysOfGet_172 sm_fp_1208 (sm_a0 _) sm_q149 (Or.inl rfl) rfl rfl rfl rfl ?_
            have ok72 : sm_ok (sv_up (sv_sts (sv_sts (sv_sts (sv_sts (sv_sts (sv_sts (sv_sts S [68, 69, 70] g21) [68, 69, 70] g26) [1143, 1144, 5, 1011] g32) [68, 69, 70, 1143, 1144, 1145] g37) [1143, 1144, 5, 1011] g42) [68, 69, 70, 1143, 1144, 1145] g47) [68, 69, 70, 81, 82, 83, 84, 85, 86, 71, 74, 75, 1127, 78, 79, 80, 72, 76, 77, 1150] g55) 1149 0 r71) := sm_upI ok56 sm_r1149 hr71
            have md73 : sv_mod [68, 69, 70, 81, 82, 83, 84, 85, 86, 71, 74, 75, 1127, 78, 79, 80, 72, 76, 77, 1143, 1144, 5, 1011, 1150, 1149, 1145, 1113, 1111, 1112, 1100031] S (sv_up (sv_sts (sv_sts (sv_sts (sv_sts (sv_sts (sv_sts (sv_sts S [68, 69, 70] g21) [68, 69, 70] g26) [1143, 1144, 5, 1011] g32) [68, 69, 70, 1143, 1144, 1145] g37) [1143, 1144, 5, 1011] g42) [68, 69, 70, 1143, 1144, 1145] g47) [68, 69, 70, 81, 82, 83, 84, 85, 86, 71, 74, 75, 1127, 78, 79, 80, 72, 76, 77, 1150] g55) 1149 0 r71) := sv_mod.up md59 (by decide)
            refine sv_iload hM dX12_waysOfGet_175 rfl rfl ?_
            refine sv_iconst (d := (3 : Int)) hM dX12_waysOfGet_177 rfl rfl ?_
            refine sv_iandm 2 (m := 4) (by decide) (by decide) (by decide) hM dX12_waysOfGet_178 rfl ?_
            refine sv_cond_eq hM dX12_waysOfGet_179 (⟨by omega, by omega⟩ : sv_R (r19 % 4)) (t := 192) rfl rfl (fun hc => ?_) (fun hc => ?_)
            · have h := h.1 (hc)
              exact sv_vret hM dX12_waysOfGet_192 rfl ⟨rfl, ok72, md73, h⟩
            · have h := h.2 (hc)
              refine sv_aload_n hM dX12_waysOfGet_182 rfl rfl ?_
              refine sv_aload_n hM dX12_waysOfGet_183 rfl rfl ?_
              have k74 : sv_R (S 1148 0) := sm_okI ok72 sm_r1148 0
              have h := h k74
              refine sv_getI hM dX12_waysOfGet_184 sm_fl_1188 (sm_a0 _) sm_k148 rfl (x := (S 1148 0)) rfl ?_
              refine sv_bipush (d := (6 : Int)) hM dX12_waysOfGet_187 rfl rfl ?_
              obtain ⟨o75, h⟩ := h
              refine sv_callV hM dX12_waysOfGet_189 sm_iv_1292 (by decide) (sm_a0 _) rfl rfl (Nat.le_of_ble_eq_true rfl) sm_h263 (Nat.le_of_ble_eq_true rfl) (Nat.le_of_ble_eq_true rfl) (F' := 8) (Nat.le_of_ble_eq_true rfl) rfl (t_error_ (S 1148 0) (6 : Int) (sv_up (sv_sts (sv_sts (sv_sts (sv_sts (sv_sts (sv_sts (sv_sts S [68, 69, 70] g21) [68, 69, 70] g26) [1143, 1144, 5, 1011] g32) [68, 69, 70, 1143, 1144, 1145] g37) [1143, 1144, 5, 1011] g42) [68, 69, 70, 1143, 1144, 1145] g47) [68, 69, 70, 81, 82, 83, 84, 85, 86, 71, 74, 75, 1127, 78, 79, 80, 72, 76, 77, 1150] g55) 1149 0 r71) ok72 k74 (⟨by decide, by decide⟩ : sv_R (6 : Int)) o75) (fun v S1 hq => ?_)
              obtain ⟨rfl, ok77, md78, hpo79⟩ := hq
              obtain ⟨g76, rfl⟩ : ∃ g, S1 = sv_sts (sv_up (sv_sts (sv_sts (sv_sts (sv_sts (sv_sts (sv_sts (sv_sts S [68, 69, 70] g21) [68, 69, 70] g26) [1143, 1144, 5, 1011] g32) [68, 69, 70, 1143, 1144, 1145] g37) [1143, 1144, 5, 1011] g42) [68, 69, 70, 1143, 1144, 1145] g47) [68, 69, 70, 81, 82, 83, 84, 85, 86, 71, 74, 75, 1127, 78, 79, 80, 72, 76, 77, 1150] g55) 1149 0 r71) [68, 69, 70, 81, 82, 83, 84, 85, 86, 71, 74, 75, 1127, 78, 79, 80, 72, 76, 77, 1143, 1144, 5, 1011, 1150, 1149, 1145, 1113, 1111, 1112, 1100031] g := ⟨_, md78.eq⟩
              show sv_T sm_XS sm_cs sm_L sm_sh 9 (q_waysOfGet S) 274 192 [(0, .ref 0), (1, sv_I r7), (2, sv_I r13), (3, sv_I (647740 : Int)), (4, sv_I r19), (5, sv_I s52)] [] (sv_sts (sv_up (sv_sts (sv_sts (sv_sts (sv_sts (sv_sts (sv_sts (sv_sts S [68, 69, 70] g21) [68, 69, 70] g26) [1143, 1144, 5, 1011] g32) [68, 69, 70, 1143, 1144, 1145] g37) [1143, 1144, 5, 1011] g42) [68, 69, 70, 1143, 1144, 1145] g47) [68, 69, 70, 81, 82, 83, 84, 85, 86, 71, 74, 75, 1127, 78, 79, 80, 72, 76, 77, 1150] g55) 1149 0 r71) [68, 69, 70, 81, 82, 83, 84, 85, 86, 71, 74, 75, 1127, 78, 79, 80, 72, 76, 77, 1143, 1144, 5, 1011, 1150, 1149, 1145, 1113, 1111, 1112, 1100031] g76)
              have md80 : sv_mod [68, 69, 70, 81, 82, 83, 84, 85, 86, 71, 74, 75, 1127, 78, 79, 80, 72, 76, 77, 1143, 1144, 5, 1011, 1150, 1149, 1145, 1113, 1111, 1112, 1100031] S (sv_sts (sv_up (sv_sts (sv_sts (sv_sts (sv_sts (sv_sts (sv_sts (sv_sts S [68, 69, 70] g21) [68, 69, 70] g26) [1143, 1144, 5, 1011] g32) [68, 69, 70, 1143, 1144, 1145] g37) [1143, 1144, 5, 1011] g42) [68, 69, 70, 1143, 1144, 1145] g47) [68, 69, 70, 81, 82, 83, 84, 85, 86, 71, 74, 75, 1127, 78, 79, 80, 72, 76, 77, 1150] g55) 1149 0 r71) [68, 69, 70, 81, 82, 83, 84, 85, 86, 71, 74, 75, 1127, 78, 79, 80, 72, 76, 77, 1143, 1144, 5, 1011, 1150, 1149, 1145, 1113, 1111, 1112, 1100031] g76) := sv_mod.sts md73 (by decide)
              have h := h g76 hpo79
              exact sv_vret hM dX12_waysOfGet_192 rfl ⟨rfl, ok77, md80, h⟩
        have h := h.2
        refine sv_aload_n hM dX12_waysOfGet_117 rfl rfl ?_
        refine sv_iload_n hM dX12_waysOfGet_118 rfl rfl ?_
        refine sv_callV hM dX12_waysOfGet_119 sm_iv_1062 (by decide) (sm_a0 _) rfl rfl (Nat.le_of_ble_eq_true rfl) sm_h209 (Nat.le_of_ble_eq_true rfl) (Nat.le_of_ble_eq_true rfl) (F' := 0) (Nat.le_of_ble_eq_true rfl) rfl (t_hasLabels r7 (sv_sts (sv_sts (sv_sts (sv_sts (sv_sts (sv_sts S [68, 69, 70] g21) [68, 69, 70] g26) [1143, 1144, 5, 1011] g32) [68, 69, 70, 1143, 1144, 1145] g37) [1143, 1144, 5, 1011] g42) [68, 69, 70, 1143, 1144, 1145] g47) ok48 hr7 o14) (fun v S1 hq => ?_)
        obtain ⟨r86, rfl, hr86, ok83, md84, hpo85⟩ := hq
        obtain rfl : (sv_sts (sv_sts (sv_sts (sv_sts (sv_sts (sv_sts S [68, 69, 70] g21) [68, 69, 70] g26) [1143, 1144, 5, 1011] g32) [68, 69, 70, 1143, 1144, 1145] g37) [1143, 1144, 5, 1011] g42) [68, 69, 70, 1143, 1144, 1145] g47) = S1 := (funext fun j => md84 j (by intro q; cases q)).symm
        show sv_T sm_XS sm_cs sm_L sm_sh 9 (q_waysOfGet S) 274 122 [(0, .ref 0), (1, sv_I r7), (2, sv_I r13), (3, sv_I (647740 : Int)), (4, sv_I r19)] [sv_I r86] (sv_sts (sv_sts (sv_sts (sv_sts (sv_sts (sv_sts S [68, 69, 70] g21) [68, 69, 70] g26) [1143, 1144, 5, 1011] g32) [68, 69, 70, 1143, 1144, 1145] g37) [1143, 1144, 5, 1011] g42) [68, 69, 70, 1143, 1144, 1145] g47)
        have h := h r86 hr86 hpo85
        refine sv_cond_eq hM dX12_waysOfGet_122 hr86 (t := 146) rfl rfl (fun hc => ?_) (fun hc => ?_)
        · have h := h.1 (hc)
          refine sv_iconst (d := (0 : Int)) hM dX12_waysOfGet_146 rfl rfl ?_
          have hb := J81 (0 : Int) (⟨by decide, by decide⟩ : sv_R (0 : Int)) h
          exact sv_less (lv := [(0, .ref 0), (1, sv_I r7), (2, sv_I r13), (3, sv_I (647740 : Int)), (4, sv_I r19)]) (sv_Sub_cons rfl (sv_Sub_cons rfl (sv_Sub_cons rfl (sv_Sub_cons rfl (sv_Sub_cons rfl sv_Sub_nil))))) hb
        · have h := h.2 (hc)
          refine sv_aload_n hM dX12_waysOfGet_125 rfl rfl ?_
          refine sv_iload_n hM dX12_waysOfGet_126 rfl rfl ?_
          refine sv_callV hM dX12_waysOfGet_127 sm_iv_1059 (by decide) (sm_a0 _) rfl rfl (Nat.le_of_ble_eq_true rfl) sm_h210 (Nat.le_of_ble_eq_true rfl) (Nat.le_of_ble_eq_true rfl) (F' := 1) (Nat.le_of_ble_eq_true rfl) rfl (t_plainly (647740 : Int) (sv_sts (sv_sts (sv_sts (sv_sts (sv_sts (sv_sts S [68, 69, 70] g21) [68, 69, 70] g26) [1143, 1144, 5, 1011] g32) [68, 69, 70, 1143, 1144, 1145] g37) [1143, 1144, 5, 1011] g42) [68, 69, 70, 1143, 1144, 1145] g47) ok83 (⟨by decide, by decide⟩ : sv_R (647740 : Int)) o20) (fun v S1 hq => ?_)
          obtain ⟨r91, rfl, hr91, ok88, md89, hpo90⟩ := hq
          obtain rfl : (sv_sts (sv_sts (sv_sts (sv_sts (sv_sts (sv_sts S [68, 69, 70] g21) [68, 69, 70] g26) [1143, 1144, 5, 1011] g32) [68, 69, 70, 1143, 1144, 1145] g37) [1143, 1144, 5, 1011] g42) [68, 69, 70, 1143, 1144, 1145] g47) = S1 := (funext fun j => md89 j (by intro q; cases q)).symm
          show sv_T sm_XS sm_cs sm_L sm_sh 9 (q_waysOfGet S) 274 130 [(0, .ref 0), (1, sv_I r7), (2, sv_I r13), (3, sv_I (647740 : Int)), (4, sv_I r19)] [sv_I r91] (sv_sts (sv_sts (sv_sts (sv_sts (sv_sts (sv_sts S [68, 69, 70] g21) [68, 69, 70] g26) [1143, 1144, 5, 1011] g32) [68, 69, 70, 1143, 1144, 1145] g37) [1143, 1144, 5, 1011] g42) [68, 69, 70, 1143, 1144, 1145] g47)
          have h := h r91 hr91 hpo90
          refine sv_iconst (d := (1 : Int)) hM dX12_waysOfGet_130 rfl rfl ?_
          refine sv_icmp_ne hM dX12_waysOfGet_131 hr91 (⟨by decide, by decide⟩ : sv_R (1 : Int)) (t := 146) rfl rfl (fun hc => ?_) (fun hc => ?_)
          · have h := h.1 (hc)
            refine sv_iconst (d := (0 : Int)) hM dX12_waysOfGet_146 rfl rfl ?_
            have hb := J81 (0 : Int) (⟨by decide, by decide⟩ : sv_R (0 : Int)) h
            exact sv_less (lv := [(0, .ref 0), (1, sv_I r7), (2, sv_I r13), (3, sv_I (647740 : Int)), (4, sv_I r19)]) (sv_Sub_cons rfl (sv_Sub_cons rfl (sv_Sub_cons rfl (sv_Sub_cons rfl (sv_Sub_cons rfl sv_Sub_nil))))) hb
          · have h := h.2 (hc)
            refine sv_aload_n hM dX12_waysOfGet_134 rfl rfl ?_
            refine sv_iload_n hM dX12_waysOfGet_135 rfl rfl ?_
            refine sv_callV hM dX12_waysOfGet_136 sm_iv_1062 (by decide) (sm_a0 _) rfl rfl (Nat.le_of_ble_eq_true rfl) sm_h209 (Nat.le_of_ble_eq_true rfl) (Nat.le_of_ble_eq_true rfl) (F' := 0) (Nat.le_of_ble_eq_true rfl) rfl (t_hasLabels (647740 : Int) (sv_sts (sv_sts (sv_sts (sv_sts (sv_sts (sv_sts S [68, 69, 70] g21) [68, 69, 70] g26) [1143, 1144, 5, 1011] g32) [68, 69, 70, 1143, 1144, 1145] g37) [1143, 1144, 5, 1011] g42) [68, 69, 70, 1143, 1144, 1145] g47) ok88 (⟨by decide, by decide⟩ : sv_R (647740 : Int)) o20) (fun v S1 hq => ?_)
            obtain ⟨r96, rfl, hr96, ok93, md94, hpo95⟩ := hq
            obtain rfl : (sv_sts (sv_sts (sv_sts (sv_sts (sv_sts (sv_sts S [68, 69, 70] g21) [68, 69, 70] g26) [1143, 1144, 5, 1011] g32) [68, 69, 70, 1143, 1144, 1145] g37) [1143, 1144, 5, 1011] g42) [68, 69, 70, 1143, 1144, 1145] g47) = S1 := (funext fun j => md94 j (by intro q; cases q)).symm
            show sv_T sm_XS sm_cs sm_L sm_sh 9 (q_waysOfGet S) 274 139 [(0, .ref 0), (1, sv_I r7), (2, sv_I r13), (3, sv_I (647740 : Int)), (4, sv_I r19)] [sv_I r96] (sv_sts (sv_sts (sv_sts (sv_sts (sv_sts (sv_sts S [68, 69, 70] g21) [68, 69, 70] g26) [1143, 1144, 5, 1011] g32) [68, 69, 70, 1143, 1144, 1145] g37) [1143, 1144, 5, 1011] g42) [68, 69, 70, 1143, 1144, 1145] g47)
            have h := h r96 hr96 hpo95
            refine sv_cond_ne hM dX12_waysOfGet_139 hr96 (t := 146) rfl rfl (fun hc => ?_) (fun hc => ?_)
            · have h := h.1 (hc)
              refine sv_iconst (d := (0 : Int)) hM dX12_waysOfGet_146 rfl rfl ?_
              have hb := J81 (0 : Int) (⟨by decide, by decide⟩ : sv_R (0 : Int)) h
              exact sv_less (lv := [(0, .ref 0), (1, sv_I r7), (2, sv_I r13), (3, sv_I (647740 : Int)), (4, sv_I r19)]) (sv_Sub_cons rfl (sv_Sub_cons rfl (sv_Sub_cons rfl (sv_Sub_cons rfl (sv_Sub_cons rfl sv_Sub_nil))))) hb
            · have h := h.2 (hc)
              refine sv_iconst (d := (1 : Int)) hM dX12_waysOfGet_142 rfl rfl ?_
              refine sv_goto hM dX12_waysOfGet_143 (pc' := 147) rfl ?_
              have hb := J81 (1 : Int) (⟨by decide, by decide⟩ : sv_R (1 : Int)) h
              exact sv_less (lv := [(0, .ref 0), (1, sv_I r7), (2, sv_I r13), (3, sv_I (647740 : Int)), (4, sv_I r19)]) (sv_Sub_cons rfl (sv_Sub_cons rfl (sv_Sub_cons rfl (sv_Sub_cons rfl (sv_Sub_cons rfl sv_Sub_nil))))) hb
      have h := h.2
      refine sv_aload_n hM dX12_waysOfGet_67 rfl rfl ?_
      refine sv_iload_n hM dX12_waysOfGet_68 rfl rfl ?_
      refine sv_callV hM dX12_waysOfGet_69 sm_iv_1062 (by decide) (sm_a0 _) rfl rfl (Nat.le_of_ble_eq_true rfl) sm_h209 (Nat.le_of_ble_eq_true rfl) (Nat.le_of_ble_eq_true rfl) (F' := 0) (Nat.le_of_ble_eq_true rfl) rfl (t_hasLabels r7 (sv_sts (sv_sts (sv_sts (sv_sts (sv_sts S [68, 69, 70] g21) [68, 69, 70] g26) [1143, 1144, 5, 1011] g32) [68, 69, 70, 1143, 1144, 1145] g37) [1143, 1144, 5, 1011] g42) ok43 hr7 o14) (fun v S1 hq => ?_)
      obtain ⟨r102, rfl, hr102, ok99, md100, hpo101⟩ := hq
      obtain rfl : (sv_sts (sv_sts (sv_sts (sv_sts (sv_sts S [68, 69, 70] g21) [68, 69, 70] g26) [1143, 1144, 5, 1011] g32) [68, 69, 70, 1143, 1144, 1145] g37) [1143, 1144, 5, 1011] g42) = S1 := (funext fun j => md100 j (by intro q; cases q)).symm
      show sv_T sm_XS sm_cs sm_L sm_sh 9 (q_waysOfGet S) 274 72 [(0, .ref 0), (1, sv_I r7), (2, sv_I r13), (3, sv_I (647740 : Int)), (4, sv_I r19)] [sv_I r102] (sv_sts (sv_sts (sv_sts (sv_sts (sv_sts S [68, 69, 70] g21) [68, 69, 70] g26) [1143, 1144, 5, 1011] g32) [68, 69, 70, 1143, 1144, 1145] g37) [1143, 1144, 5, 1011] g42)
      have h := h r102 hr102 hpo101
      refine sv_cond_eq hM dX12_waysOfGet_72 hr102 (t := 117) rfl rfl (fun hc => ?_) (fun hc => ?_)
      · have h := h.1 (hc)
        have eS := sv_mod.eq (sv_mod.rf (l := [68, 69, 70, 1143, 1144, 1145]) (S := (sv_sts (sv_sts (sv_sts (sv_sts (sv_sts S [68, 69, 70] g21) [68, 69, 70] g26) [1143, 1144, 5, 1011] g32) [68, 69, 70, 1143, 1144, 1145] g37) [1143, 1144, 5, 1011] g42)))
        have hb := J97 (sv_sts (sv_sts (sv_sts (sv_sts (sv_sts S [68, 69, 70] g21) [68, 69, 70] g26) [1143, 1144, 5, 1011] g32) [68, 69, 70, 1143, 1144, 1145] g37) [1143, 1144, 5, 1011] g42) (by rw [← eS]; exact ok99) h
        have hb : sv_T sm_XS sm_cs sm_L sm_sh 9 (q_waysOfGet S) 274 117 [(0, .ref 0), (1, sv_I r7), (2, sv_I r13), (3, sv_I (647740 : Int)), (4, sv_I r19)] [] (sv_sts (sv_sts (sv_sts (sv_sts (sv_sts S [68, 69, 70] g21) [68, 69, 70] g26) [1143, 1144, 5, 1011] g32) [68, 69, 70, 1143, 1144, 1145] g37) [1143, 1144, 5, 1011] g42) := Eq.mpr (congrArg (fun Z => sv_T sm_XS sm_cs sm_L sm_sh 9 (q_waysOfGet S) 274 117 [(0, .ref 0), (1, sv_I r7), (2, sv_I r13), (3, sv_I (647740 : Int)), (4, sv_I r19)] [] Z) eS) hb
        exact sv_less (lv := [(0, .ref 0), (1, sv_I r7), (2, sv_I r13), (3, sv_I (647740 : Int)), (4, sv_I r19)]) (sv_Sub_cons rfl (sv_Sub_cons rfl (sv_Sub_cons rfl (sv_Sub_cons rfl (sv_Sub_cons rfl sv_Sub_nil))))) hb
      · have h := h.2 (hc)
        refine sv_aload_n hM dX12_waysOfGet_75 rfl rfl ?_
        refine sv_aload_n hM dX12_waysOfGet_76 rfl rfl ?_
        refine sv_getA hM dX12_waysOfGet_77 sm_fl_220 (sm_a0 _) sm_k117 rfl ?_
        refine sv_iload_n hM dX12_waysOfGet_80 rfl rfl ?_
        have k103 : sv_RL (g37 69 r7) := sm_okJ ok99 sm_r69 r7
        have h := h k103
        refine sv_lald hM dX12_waysOfGet_81 (sm_a69 _) (by decide) o14.1 o14.2 rfl (x := (g37 69 r7)) rfl ?_
        refine sv_aload_n hM dX12_waysOfGet_82 rfl rfl ?_
        refine sv_getA hM dX12_waysOfGet_83 sm_fl_223 (sm_a0 _) sm_k118 rfl ?_
        refine sv_iload_n hM dX12_waysOfGet_86 rfl rfl ?_
        have k104 : sv_RL (g37 70 r7) := sm_okJ ok99 sm_r70 r7
        have h := h k104
        refine sv_lald hM dX12_waysOfGet_87 (sm_a70 _) (by decide) o14.1 o14.2 rfl (x := (g37 70 r7)) rfl ?_
        refine sv_iload_n hM dX12_waysOfGet_88 rfl rfl ?_
        refine sv_iconst (d := (1 : Int)) hM dX12_waysOfGet_89 rfl rfl ?_
        refine sv_iadd hM dX12_waysOfGet_90 rfl ?_
        obtain ⟨o105, h⟩ := h
        obtain ⟨o106, h⟩ := h
        refine sv_callV hM dX12_waysOfGet_91 sm_iv_1306 (by decide) (sm_a0 _) rfl rfl (Nat.le_of_ble_eq_true rfl) sm_h249 (Nat.le_of_ble_eq_true rfl) (Nat.le_of_ble_eq_true rfl) (F' := 3) (Nat.le_of_ble_eq_true rfl) rfl (t_readFrom (g37 69 r7) (g37 70 r7) ((647740 : Int) + (1 : Int)) (sv_sts (sv_sts (sv_sts (sv_sts (sv_sts S [68, 69, 70] g21) [68, 69, 70] g26) [1143, 1144, 5, 1011] g32) [68, 69, 70, 1143, 1144, 1145] g37) [1143, 1144, 5, 1011] g42) ok99 k103 k104 o105 o106) (fun v S1 hq => ?_)
        obtain ⟨rfl, ok108, md109, hpo110⟩ := hq
        obtain ⟨g107, rfl⟩ : ∃ g, S1 = sv_sts (sv_sts (sv_sts (sv_sts (sv_sts (sv_sts S [68, 69, 70] g21) [68, 69, 70] g26) [1143, 1144, 5, 1011] g32) [68, 69, 70, 1143, 1144, 1145] g37) [1143, 1144, 5, 1011] g42) [68, 69, 70, 1145] g := ⟨_, md109.eq⟩
        show sv_T sm_XS sm_cs sm_L sm_sh 9 (q_waysOfGet S) 274 94 [(0, .ref 0), (1, sv_I r7), (2, sv_I r13), (3, sv_I (647740 : Int)), (4, sv_I r19)] [] (sv_sts (sv_sts (sv_sts (sv_sts (sv_sts (sv_sts S [68, 69, 70] g21) [68, 69, 70] g26) [1143, 1144, 5, 1011] g32) [68, 69, 70, 1143, 1144, 1145] g37) [1143, 1144, 5, 1011] g42) [68, 69, 70, 1145] g107)
        have md111 : sv_mod [68, 69, 70, 81, 82, 83, 84, 85, 86, 71, 74, 75, 1127, 78, 79, 80, 72, 76, 77, 1143, 1144, 5, 1011, 1150, 1149, 1145, 1113, 1111, 1112, 1100031] S (sv_sts (sv_sts (sv_sts (sv_sts (sv_sts (sv_sts S [68, 69, 70] g21) [68, 69, 70] g26) [1143, 1144, 5, 1011] g32) [68, 69, 70, 1143, 1144, 1145] g37) [1143, 1144, 5, 1011] g42) [68, 69, 70, 1145] g107) := sv_mod.sts md46 (by decide)
        have md112 : sv_mod [68, 69, 70, 1143, 1144, 1145] (sv_sts (sv_sts (sv_sts (sv_sts (sv_sts S [68, 69, 70] g21) [68, 69, 70] g26) [1143, 1144, 5, 1011] g32) [68, 69, 70, 1143, 1144, 1145] g37) [1143, 1144, 5, 1011] g42) (sv_sts (sv_sts (sv_sts (sv_sts (sv_sts (sv_sts S [68, 69, 70] g21) [68, 69, 70] g26) [1143, 1144, 5, 1011] g32) [68, 69, 70, 1143, 1144, 1145] g37) [1143, 1144, 5, 1011] g42) [68, 69, 70, 1145] g107) := sv_mod.sts (sv_mod.rf (l := [68, 69, 70, 1143, 1144, 1145]) (S := (sv_sts (sv_sts (sv_sts (sv_sts (sv_sts S [68, 69, 70] g21) [68, 69, 70] g26) [1143, 1144, 5, 1011] g32) [68, 69, 70, 1143, 1144, 1145] g37) [1143, 1144, 5, 1011] g42))) (by decide)
        have h := h g107 hpo110
        refine sv_aload_n hM dX12_waysOfGet_94 rfl rfl ?_
        refine sv_iload_n hM dX12_waysOfGet_95 rfl rfl ?_
        refine sv_iconst (d := (1 : Int)) hM dX12_waysOfGet_96 rfl rfl ?_
        refine sv_iadd hM dX12_waysOfGet_97 rfl ?_
        refine sv_iload_n hM dX12_waysOfGet_98 rfl rfl ?_
        obtain ⟨o113, h⟩ := h
        refine sv_callV hM dX12_waysOfGet_99 sm_iv_1069 (by decide) (sm_a0 _) rfl rfl (Nat.le_of_ble_eq_true rfl) sm_h208 (Nat.le_of_ble_eq_true rfl) (Nat.le_of_ble_eq_true rfl) (F' := 1) (Nat.le_of_ble_eq_true rfl) rfl (t_join ((647740 : Int) + (1 : Int)) (647740 : Int) (sv_sts (sv_sts (sv_sts (sv_sts (sv_sts (sv_sts S [68, 69, 70] g21) [68, 69, 70] g26) [1143, 1144, 5, 1011] g32) [68, 69, 70, 1143, 1144, 1145] g37) [1143, 1144, 5, 1011] g42) [68, 69, 70, 1145] g107) ok108 o105 (⟨by decide, by decide⟩ : sv_R (647740 : Int)) o113) (fun v S1 hq => ?_)
        obtain ⟨r118, rfl, hr118, ok115, md116, hpo117⟩ := hq
        obtain ⟨g114, rfl⟩ : ∃ g, S1 = sv_sts (sv_sts (sv_sts (sv_sts (sv_sts (sv_sts (sv_sts S [68, 69, 70] g21) [68, 69, 70] g26) [1143, 1144, 5, 1011] g32) [68, 69, 70, 1143, 1144, 1145] g37) [1143, 1144, 5, 1011] g42) [68, 69, 70, 1145] g107) [68, 69, 70] g := ⟨_, md116.eq⟩
        show sv_T sm_XS sm_cs sm_L sm_sh 9 (q_waysOfGet S) 274 102 [(0, .ref 0), (1, sv_I r7), (2, sv_I r13), (3, sv_I (647740 : Int)), (4, sv_I r19)] [sv_I r118] (sv_sts (sv_sts (sv_sts (sv_sts (sv_sts (sv_sts (sv_sts S [68, 69, 70] g21) [68, 69, 70] g26) [1143, 1144, 5, 1011] g32) [68, 69, 70, 1143, 1144, 1145] g37) [1143, 1144, 5, 1011] g42) [68, 69, 70, 1145] g107) [68, 69, 70] g114)
        have md119 : sv_mod [68, 69, 70, 81, 82, 83, 84, 85, 86, 71, 74, 75, 1127, 78, 79, 80, 72, 76, 77, 1143, 1144, 5, 1011, 1150, 1149, 1145, 1113, 1111, 1112, 1100031] S (sv_sts (sv_sts (sv_sts (sv_sts (sv_sts (sv_sts (sv_sts S [68, 69, 70] g21) [68, 69, 70] g26) [1143, 1144, 5, 1011] g32) [68, 69, 70, 1143, 1144, 1145] g37) [1143, 1144, 5, 1011] g42) [68, 69, 70, 1145] g107) [68, 69, 70] g114) := sv_mod.sts md111 (by decide)
        have md120 : sv_mod [68, 69, 70, 1143, 1144, 1145] (sv_sts (sv_sts (sv_sts (sv_sts (sv_sts S [68, 69, 70] g21) [68, 69, 70] g26) [1143, 1144, 5, 1011] g32) [68, 69, 70, 1143, 1144, 1145] g37) [1143, 1144, 5, 1011] g42) (sv_sts (sv_sts (sv_sts (sv_sts (sv_sts (sv_sts (sv_sts S [68, 69, 70] g21) [68, 69, 70] g26) [1143, 1144, 5, 1011] g32) [68, 69, 70, 1143, 1144, 1145] g37) [1143, 1144, 5, 1011] g42) [68, 69, 70, 1145] g107) [68, 69, 70] g114) := sv_mod.sts md112 (by decide)
        have h := h r118 hr118 g114 hpo117
        refine sv_istore hM dX12_waysOfGet_102 (by decide) rfl ?_
        show sv_T sm_XS sm_cs sm_L sm_sh 9 (q_waysOfGet S) 274 104 [(0, .ref 0), (1, sv_I r7), (2, sv_I r13), (3, sv_I (647740 : Int)), (4, sv_I r19), (5, sv_I r118)] [] (sv_sts (sv_sts (sv_sts (sv_sts (sv_sts (sv_sts (sv_sts S [68, 69, 70] g21) [68, 69, 70] g26) [1143, 1144, 5, 1011] g32) [68, 69, 70, 1143, 1144, 1145] g37) [1143, 1144, 5, 1011] g42) [68, 69, 70, 1145] g107) [68, 69, 70] g114)
        refine sv_aload_n hM dX12_waysOfGet_104 rfl rfl ?_
        have k121 : (0 ≤ (g107 1145 0) ∧ (g107 1145 0) ≤ 1) := sm_okZ ok115 sm_r1145 0
        have h := h k121
        refine sv_getI hM dX12_waysOfGet_105 sm_fl_1156 (sm_a0 _) sm_k145 rfl (x := (g107 1145 0)) rfl ?_
        refine sv_cond_eq hM dX12_waysOfGet_108 (sv_R01 k121) (t := 117) rfl rfl (fun hc => ?_) (fun hc => ?_)
        · have h := h.1 (hc)
          have eS := sv_mod.eq md120
          have hb := J97 (sv_sts (sv_sts (sv_sts (sv_sts (sv_sts (sv_sts (sv_sts S [68, 69, 70] g21) [68, 69, 70] g26) [1143, 1144, 5, 1011] g32) [68, 69, 70, 1143, 1144, 1145] g37) [1143, 1144, 5, 1011] g42) [68, 69, 70, 1145] g107) [68, 69, 70] g114) (by rw [← eS]; exact ok115) h
          have hb : sv_T sm_XS sm_cs sm_L sm_sh 9 (q_waysOfGet S) 274 117 [(0, .ref 0), (1, sv_I r7), (2, sv_I r13), (3, sv_I (647740 : Int)), (4, sv_I r19)] [] (sv_sts (sv_sts (sv_sts (sv_sts (sv_sts (sv_sts (sv_sts S [68, 69, 70] g21) [68, 69, 70] g26) [1143, 1144, 5, 1011] g32) [68, 69, 70, 1143, 1144, 1145] g37) [1143, 1144, 5, 1011] g42) [68, 69, 70, 1145] g107) [68, 69, 70] g114) := Eq.mpr (congrArg (fun Z => sv_T sm_XS sm_cs sm_L sm_sh 9 (q_waysOfGet S) 274 117 [(0, .ref 0), (1, sv_I r7), (2, sv_I r13), (3, sv_I (647740 : Int)), (4, sv_I r19)] [] Z) eS) hb
          exact sv_less (lv := [(0, .ref 0), (1, sv_I r7), (2, sv_I r13), (3, sv_I (647740 : Int)), (4, sv_I r19)]) (sv_Sub_cons rfl (sv_Sub_cons rfl (sv_Sub_cons rfl (sv_Sub_cons rfl (sv_Sub_cons rfl sv_Sub_nil))))) hb
        · have h := h.2 (hc)
          refine sv_aload_n hM dX12_waysOfGet_111 rfl rfl ?_
          refine sv_iload_n hM dX12_waysOfGet_112 rfl rfl ?_
          refine sv_iconst (d := (1 : Int)) hM dX12_waysOfGet_113 rfl rfl ?_
          obtain ⟨o122, h⟩ := h
          refine sv_callV hM dX12_waysOfGet_114 sm_iv_1072 (by decide) (sm_a0 _) rfl rfl (Nat.le_of_ble_eq_true rfl) sm_h213 (Nat.le_of_ble_eq_true rfl) (Nat.le_of_ble_eq_true rfl) (F' := 2) (Nat.le_of_ble_eq_true rfl) rfl (t_addSort (647740 : Int) (1 : Int) (sv_sts (sv_sts (sv_sts (sv_sts (sv_sts (sv_sts (sv_sts S [68, 69, 70] g21) [68, 69, 70] g26) [1143, 1144, 5, 1011] g32) [68, 69, 70, 1143, 1144, 1145] g37) [1143, 1144, 5, 1011] g42) [68, 69, 70, 1145] g107) [68, 69, 70] g114) ok115 (⟨by decide, by decide⟩ : sv_R (647740 : Int)) (⟨by decide, by decide⟩ : sv_R (1 : Int)) o122) (fun v S1 hq => ?_)
          obtain ⟨rfl, ok124, md125, hpo126⟩ := hq
          obtain ⟨g123, rfl⟩ : ∃ g, S1 = sv_sts (sv_sts (sv_sts (sv_sts (sv_sts (sv_sts (sv_sts (sv_sts S [68, 69, 70] g21) [68, 69, 70] g26) [1143, 1144, 5, 1011] g32) [68, 69, 70, 1143, 1144, 1145] g37) [1143, 1144, 5, 1011] g42) [68, 69, 70, 1145] g107) [68, 69, 70] g114) [68, 69, 70] g := ⟨_, md125.eq⟩
          show sv_T sm_XS sm_cs sm_L sm_sh 9 (q_waysOfGet S) 274 117 [(0, .ref 0), (1, sv_I r7), (2, sv_I r13), (3, sv_I (647740 : Int)), (4, sv_I r19), (5, sv_I r118)] [] (sv_sts (sv_sts (sv_sts (sv_sts (sv_sts (sv_sts (sv_sts (sv_sts S [68, 69, 70] g21) [68, 69, 70] g26) [1143, 1144, 5, 1011] g32) [68, 69, 70, 1143, 1144, 1145] g37) [1143, 1144, 5, 1011] g42) [68, 69, 70, 1145] g107) [68, 69, 70] g114) [68, 69, 70] g123)
          have md127 : sv_mod [68, 69, 70, 81, 82, 83, 84, 85, 86, 71, 74, 75, 1127, 78, 79, 80, 72, 76, 77, 1143, 1144, 5, 1011, 1150, 1149, 1145, 1113, 1111, 1112, 1100031] S (sv_sts (sv_sts (sv_sts (sv_sts (sv_sts (sv_sts (sv_sts (sv_sts S [68, 69, 70] g21) [68, 69, 70] g26) [1143, 1144, 5, 1011] g32) [68, 69, 70, 1143, 1144, 1145] g37) [1143, 1144, 5, 1011] g42) [68, 69, 70, 1145] g107) [68, 69, 70] g114) [68, 69, 70] g123) := sv_mod.sts md119 (by decide)
          have md128 : sv_mod [68, 69, 70, 1143, 1144, 1145] (sv_sts (sv_sts (sv_sts (sv_sts (sv_sts S [68, 69, 70] g21) [68, 69, 70] g26) [1143, 1144, 5, 1011] g32) [68, 69, 70, 1143, 1144, 1145] g37) [1143, 1144, 5, 1011] g42) (sv_sts (sv_sts (sv_sts (sv_sts (sv_sts (sv_sts (sv_sts (sv_sts S [68, 69, 70] g21) [68, 69, 70] g26) [1143, 1144, 5, 1011] g32) [68, 69, 70, 1143, 1144, 1145] g37) [1143, 1144, 5, 1011] g42) [68, 69, 70, 1145] g107) [68, 69, 70] g114) [68, 69, 70] g123) := sv_mod.sts md120 (by decide)
          have h := h g123 hpo126
          have eS := sv_mod.eq md128
          have hb := J97 (sv_sts (sv_sts (sv_sts (sv_sts (sv_sts (sv_sts (sv_sts (sv_sts S [68, 69, 70] g21) [68, 69, 70] g26) [1143, 1144, 5, 1011] g32) [68, 69, 70, 1143, 1144, 1145] g37) [1143, 1144, 5, 1011] g42) [68, 69, 70, 1145] g107) [68, 69, 70] g114) [68, 69, 70] g123) (by rw [← eS]; exact ok124) h
          have hb : sv_T sm_XS sm_cs sm_L sm_sh 9 (q_waysOfGet S) 274 117 [(0, .ref 0), (1, sv_I r7), (2, sv_I r13), (3, sv_I (647740 : Int)), (4, sv_I r19)] [] (sv_sts (sv_sts (sv_sts (sv_sts (sv_sts (sv_sts (sv_sts (sv_sts S [68, 69, 70] g21) [68, 69, 70] g26) [1143, 1144, 5, 1011] g32) [68, 69, 70, 1143, 1144, 1145] g37) [1143, 1144, 5, 1011] g42) [68, 69, 70, 1145] g107) [68, 69, 70] g114) [68, 69, 70] g123) := Eq.mpr (congrArg (fun Z => sv_T sm_XS sm_cs sm_L sm_sh 9 (q_waysOfGet S) 274 117 [(0, .ref 0), (1, sv_I r7), (2, sv_I r13), (3, sv_I (647740 : Int)), (4, sv_I r19)] [] Z) eS) hb
          exact sv_less (lv := [(0, .ref 0), (1, sv_I r7), (2, sv_I r13), (3, sv_I (647740 : Int)), (4, sv_I r19)]) (sv_Sub_cons rfl (sv_Sub_cons rfl (sv_Sub_cons rfl (sv_Sub_cons rfl (sv_Sub_cons rfl sv_Sub_nil))))) hb
    have h := h.2
    refine sv_iload hM dX12_waysOfGet_47 rfl rfl ?_
    refine sv_sipush (d := (384 : Int)) hM dX12_waysOfGet_49 rfl rfl ?_
    refine sv_iand hM dX12_waysOfGet_52 ⟨by decide, by decide⟩ rfl (fun r130 hr130 => ?_)
    have h := h r130 hr130
    refine sv_cond_eq hM dX12_waysOfGet_53 (⟨by omega, by omega⟩ : sv_R r130) (t := 62) rfl rfl (fun hc => ?_) (fun hc => ?_)
    · have h := h.1 (hc)
      have eS := sv_mod.eq (sv_mod.rf (l := [68, 69, 70, 1143, 1144, 1145]) (S := (sv_sts (sv_sts (sv_sts S [68, 69, 70] g21) [68, 69, 70] g26) [1143, 1144, 5, 1011] g32)))
      have hb := J129 (sv_sts (sv_sts (sv_sts S [68, 69, 70] g21) [68, 69, 70] g26) [1143, 1144, 5, 1011] g32) (by rw [← eS]; exact ok33) h
      have hb : sv_T sm_XS sm_cs sm_L sm_sh 9 (q_waysOfGet S) 274 62 [(0, .ref 0), (1, sv_I r7), (2, sv_I r13), (3, sv_I (647740 : Int)), (4, sv_I r19)] [] (sv_sts (sv_sts (sv_sts S [68, 69, 70] g21) [68, 69, 70] g26) [1143, 1144, 5, 1011] g32) := Eq.mpr (congrArg (fun Z => sv_T sm_XS sm_cs sm_L sm_sh 9 (q_waysOfGet S) 274 62 [(0, .ref 0), (1, sv_I r7), (2, sv_I r13), (3, sv_I (647740 : Int)), (4, sv_I r19)] [] Z) eS) hb
      exact sv_less (lv := [(0, .ref 0), (1, sv_I r7), (2, sv_I r13), (3, sv_I (647740 : Int)), (4, sv_I r19)]) (sv_Sub_cons rfl (sv_Sub_cons rfl (sv_Sub_cons rfl (sv_Sub_cons rfl (sv_Sub_cons rfl sv_Sub_nil))))) hb
    · have h := h.2 (hc)
      refine sv_aload_n hM dX12_waysOfGet_56 rfl rfl ?_
      refine sv_iload_n hM dX12_waysOfGet_57 rfl rfl ?_
      refine sv_iload_n hM dX12_waysOfGet_58 rfl rfl ?_
      obtain ⟨o131, h⟩ := h
      refine sv_callV hM dX12_waysOfGet_59 sm_iv_1303 (by decide) (sm_a0 _) rfl rfl (Nat.le_of_ble_eq_true rfl) sm_h275 (Nat.le_of_ble_eq_true rfl) (Nat.le_of_ble_eq_true rfl) (F' := 4) (Nat.le_of_ble_eq_true rfl) rfl (t_getOfString r7 (647740 : Int) (sv_sts (sv_sts (sv_sts S [68, 69, 70] g21) [68, 69, 70] g26) [1143, 1144, 5, 1011] g32) ok33 hr7 (⟨by decide, by decide⟩ : sv_R (647740 : Int)) o131) (fun v S1 hq => ?_)
      obtain ⟨rfl, ok133, md134, hpo135⟩ := hq
      obtain ⟨g132, rfl⟩ : ∃ g, S1 = sv_sts (sv_sts (sv_sts (sv_sts S [68, 69, 70] g21) [68, 69, 70] g26) [1143, 1144, 5, 1011] g32) [68, 69, 70, 1143, 1144, 1145] g := ⟨_, md134.eq⟩
      show sv_T sm_XS sm_cs sm_L sm_sh 9 (q_waysOfGet S) 274 62 [(0, .ref 0), (1, sv_I r7), (2, sv_I r13), (3, sv_I (647740 : Int)), (4, sv_I r19)] [] (sv_sts (sv_sts (sv_sts (sv_sts S [68, 69, 70] g21) [68, 69, 70] g26) [1143, 1144, 5, 1011] g32) [68, 69, 70, 1143, 1144, 1145] g132)
      have md136 : sv_mod [68, 69, 70, 81, 82, 83, 84, 85, 86, 71, 74, 75, 1127, 78, 79, 80, 72, 76, 77, 1143, 1144, 5, 1011, 1150, 1149, 1145, 1113, 1111, 1112, 1100031] S (sv_sts (sv_sts (sv_sts (sv_sts S [68, 69, 70] g21) [68, 69, 70] g26) [1143, 1144, 5, 1011] g32) [68, 69, 70, 1143, 1144, 1145] g132) := sv_mod.sts md36 (by decide)
      have md137 : sv_mod [68, 69, 70, 1143, 1144, 1145] (sv_sts (sv_sts (sv_sts S [68, 69, 70] g21) [68, 69, 70] g26) [1143, 1144, 5, 1011] g32) (sv_sts (sv_sts (sv_sts (sv_sts S [68, 69, 70] g21) [68, 69, 70] g26) [1143, 1144, 5, 1011] g32) [68, 69, 70, 1143, 1144, 1145] g132) := sv_mod.sts (sv_mod.rf (l := [68, 69, 70, 1143, 1144, 1145]) (S := (sv_sts (sv_sts (sv_sts S [68, 69, 70] g21) [68, 69, 70] g26) [1143, 1144, 5, 1011] g32))) (by decide)
      have h := h g132 hpo135
      have eS := sv_mod.eq md137
      have hb := J129 (sv_sts (sv_sts (sv_sts (sv_sts S [68, 69, 70] g21) [68, 69, 70] g26) [1143, 1144, 5, 1011] g32) [68, 69, 70, 1143, 1144, 1145] g132) (by rw [← eS]; exact ok133) h
      have hb : sv_T sm_XS sm_cs sm_L sm_sh 9 (q_waysOfGet S) 274 62 [(0, .ref 0), (1, sv_I r7), (2, sv_I r13), (3, sv_I (647740 : Int)), (4, sv_I r19)] [] (sv_sts (sv_sts (sv_sts (sv_sts S [68, 69, 70] g21) [68, 69, 70] g26) [1143, 1144, 5, 1011] g32) [68, 69, 70, 1143, 1144, 1145] g132) := Eq.mpr (congrArg (fun Z => sv_T sm_XS sm_cs sm_L sm_sh 9 (q_waysOfGet S) 274 62 [(0, .ref 0), (1, sv_I r7), (2, sv_I r13), (3, sv_I (647740 : Int)), (4, sv_I r19)] [] Z) eS) hb
      exact sv_less (lv := [(0, .ref 0), (1, sv_I r7), (2, sv_I r13), (3, sv_I (647740 : Int)), (4, sv_I r19)]) (sv_Sub_cons rfl (sv_Sub_cons rfl (sv_Sub_cons rfl (sv_Sub_cons rfl (sv_Sub_cons rfl sv_Sub_nil))))) hb
  have h := h.2
  refine sv_iload hM dX12_waysOfGet_28 rfl rfl ?_
  refine sv_bipush (d := (124 : Int)) hM dX12_waysOfGet_30 rfl rfl ?_
  refine sv_iand hM dX12_waysOfGet_32 ⟨by decide, by decide⟩ rfl (fun r139 hr139 => ?_)
  have h := h r139 hr139
  refine sv_cond_eq hM dX12_waysOfGet_33 (⟨by omega, by omega⟩ : sv_R r139) (t := 42) rfl rfl (fun hc => ?_) (fun hc => ?_)
  · have h := h.1 (hc)
    have eS := sv_mod.eq (sv_mod.rf (l := [68, 69, 70]) (S := (sv_sts S [68, 69, 70] g21)))
    have hb := J138 (sv_sts S [68, 69, 70] g21) (by rw [← eS]; exact ok22) h
    have hb : sv_T sm_XS sm_cs sm_L sm_sh 9 (q_waysOfGet S) 274 42 [(0, .ref 0), (1, sv_I r7), (2, sv_I r13), (3, sv_I (647740 : Int)), (4, sv_I r19)] [] (sv_sts S [68, 69, 70] g21) := Eq.mpr (congrArg (fun Z => sv_T sm_XS sm_cs sm_L sm_sh 9 (q_waysOfGet S) 274 42 [(0, .ref 0), (1, sv_I r7), (2, sv_I r13), (3, sv_I (647740 : Int)), (4, sv_I r19)] [] Z) eS) hb
    exact sv_less (lv := [(0, .ref 0), (1, sv_I r7), (2, sv_I r13), (3, sv_I (647740 : Int)), (4, sv_I r19)]) (sv_Sub_cons rfl (sv_Sub_cons rfl (sv_Sub_cons rfl (sv_Sub_cons rfl (sv_Sub_cons rfl sv_Sub_nil))))) hb
  · have h := h.2 (hc)
    refine sv_aload_n hM dX12_waysOfGet_36 rfl rfl ?_
    refine sv_iload_n hM dX12_waysOfGet_37 rfl rfl ?_
    refine sv_iconst (d := (1 : Int)) hM dX12_waysOfGet_38 rfl rfl ?_
    obtain ⟨o140, h⟩ := h
    refine sv_callV hM dX12_waysOfGet_39 sm_iv_1072 (by decide) (sm_a0 _) rfl rfl (Nat.le_of_ble_eq_true rfl) sm_h213 (Nat.le_of_ble_eq_true rfl) (Nat.le_of_ble_eq_true rfl) (F' := 2) (Nat.le_of_ble_eq_true rfl) rfl (t_addSort (647740 : Int) (1 : Int) (sv_sts S [68, 69, 70] g21) ok22 (⟨by decide, by decide⟩ : sv_R (647740 : Int)) (⟨by decide, by decide⟩ : sv_R (1 : Int)) o140) (fun v S1 hq => ?_)
    obtain ⟨rfl, ok142, md143, hpo144⟩ := hq
    obtain ⟨g141, rfl⟩ : ∃ g, S1 = sv_sts (sv_sts S [68, 69, 70] g21) [68, 69, 70] g := ⟨_, md143.eq⟩
    show sv_T sm_XS sm_cs sm_L sm_sh 9 (q_waysOfGet S) 274 42 [(0, .ref 0), (1, sv_I r7), (2, sv_I r13), (3, sv_I (647740 : Int)), (4, sv_I r19)] [] (sv_sts (sv_sts S [68, 69, 70] g21) [68, 69, 70] g141)
    have md145 : sv_mod [68, 69, 70, 81, 82, 83, 84, 85, 86, 71, 74, 75, 1127, 78, 79, 80, 72, 76, 77, 1143, 1144, 5, 1011, 1150, 1149, 1145, 1113, 1111, 1112, 1100031] S (sv_sts (sv_sts S [68, 69, 70] g21) [68, 69, 70] g141) := sv_mod.sts md25 (by decide)
    have md146 : sv_mod [68, 69, 70] (sv_sts S [68, 69, 70] g21) (sv_sts (sv_sts S [68, 69, 70] g21) [68, 69, 70] g141) := sv_mod.sts (sv_mod.rf (l := [68, 69, 70]) (S := (sv_sts S [68, 69, 70] g21))) (by decide)
    have h := h g141 hpo144
    have eS := sv_mod.eq md146
    have hb := J138 (sv_sts (sv_sts S [68, 69, 70] g21) [68, 69, 70] g141) (by rw [← eS]; exact ok142) h
    have hb : sv_T sm_XS sm_cs sm_L sm_sh 9 (q_waysOfGet S) 274 42 [(0, .ref 0), (1, sv_I r7), (2, sv_I r13), (3, sv_I (647740 : Int)), (4, sv_I r19)] [] (sv_sts (sv_sts S [68, 69, 70] g21) [68, 69, 70] g141) := Eq.mpr (congrArg (fun Z => sv_T sm_XS sm_cs sm_L sm_sh 9 (q_waysOfGet S) 274 42 [(0, .ref 0), (1, sv_I r7), (2, sv_I r13), (3, sv_I (647740 : Int)), (4, sv_I r19)] [] Z) eS) hb
    exact sv_less (lv := [(0, .ref 0), (1, sv_I r7), (2, sv_I r13), (3, sv_I (647740 : Int)), (4, sv_I r19)]) (sv_Sub_cons rfl (sv_Sub_cons rfl (sv_Sub_cons rfl (sv_Sub_cons rfl (sv_Sub_cons rfl sv_Sub_nil))))) hb
def q_waysOfPut (S : sv_S) : Option Value → sv_S → Prop := fun v S' => v = none ∧ sm_ok S' ∧ sv_mod [68, 69, 70, 81, 82, 83, 84, 85, 86, 71, 74, 75, 1127, 78, 79, 80, 72, 76, 77, 1143, 1144, 5, 1011, 1150, 1149, 1145, 1113, 1111, 1112, 1100031] S S' ∧ (sm_ST (S' 71) (S' 74) (S' 75) (S' 78) (S' 79) (S' 80) (S' 27) (S' 1100007) (S' 1100023) (S' 1100024) (S' 1046 0) ((S' 1046 0) + 2 * (S' 1032 0)) (S' 1127 0) ∧ 465000 ≤ (S' 1127 0) ∧ (S' 1127 0) + sm_hs (S' 71) (S' 1100007) ≤ 635000 ∧ (S' 75 639) = 647340 ∧ (∀ k : Int, (S 71 k) = 1 → (S' 71 k) = 1) ∧ sm_DR (S' 72) (S' 71) (S' 1046 0) ∧ (641 * (sm_cm (S' 71) + sm_pt (S' 68) (S' 69) (S' 70) + sm_pl (S' 81) (S' 82) (S' 83) (S' 84) (S' 85) (S' 86) + sm_ps (S' 76) (S' 77)) + sm_du (S' 72)) ≤ (641 * (sm_cm (S 71) + sm_pt (S 68) (S 69) (S 70) + sm_pl (S 81) (S 82) (S 83) (S 84) (S 85) (S 86) + sm_ps (S 76) (S 77)) + sm_du (S 72)))
theorem la_waysOfPut_0 {x0 x1 x2 : Int} (h0 : x0 = 647340) (h1 : x1 = x2) (h2 : 3 ≤ x2) (h3 : x2 ≤ 396) : x0 = 647340 ∧ 0 ≤ x1 ∧ x1 ≤ 400 ∧ ((-1) : Int) ≤ 2 ∧ (2 : Int) ≤ 1000 := by omega
theorem la_waysOfPut_1 {x0 x1 x2 : Int} (h0 : x0 = 647340) (h1 : x1 = x2) (h2 : 3 ≤ x2) (h3 : x2 ≤ 396) : x0 = 647340 ∧ 0 ≤ x1 ∧ x1 ≤ 400 ∧ ((-1) : Int) ≤ 0 ∧ (0 : Int) ≤ 1000 := by omega
theorem la_waysOfPut_2 {x0 x1 : Int} (h0 : 0 ≤ x0) (h1 : x0 ≤ 400) (h2 : x1 = 647339 + x0 - 2) : 0 ≤ x1 ∧ x1 < 647800 := by omega
theorem la_waysOfPut_3 {x0 x1 x2 : Int} (h0 : x0 = 647340) (h1 : x1 = x2) (h2 : 3 ≤ x2) (h3 : x2 ≤ 396) : x0 = 647340 ∧ 0 ≤ x1 ∧ x1 ≤ 400 ∧ ((-1) : Int) ≤ 1 ∧ (1 : Int) ≤ 1000 := by omega
theorem la_waysOfPut_4 {x0 x1 : Int} (h0 : 0 ≤ x0) (h1 : x1 = 647339 + x0 - 1) : 0 ≤ x1 := by omega
theorem la_waysOfPut_5 {x0 x1 : Int} (h0 : x0 ≤ 400) (h1 : x1 = 647339 + x0 - 1) : x1 < 647800 := by omega
theorem la_waysOfPut_6 {x0 : Int} (h0 : 0 ≤ x0) (h1 : x0 ≤ 11557) : 0 ≤ x0 ∧ x0 ≤ 11557 := by omega
theorem la_waysOfPut_7 {x0 : Int} (h0 : x0 = 0) : ¬ x0 = 1 := by omega
theorem la_waysOfPut_8 {x0 x1 x2 x3 x4 : Int} : 641 * (x0 + x1 + x2 + x3) + x4 ≤ 641 * (x0 + x1 + x2 + x3) + x4 := by omega
theorem la_waysOfPut_9 {x0 : Int} : 0 ≤ x0 % 4 := by omega
theorem la_waysOfPut_10 {x0 : Int} (h0 : 0 ≤ x0 % 4) (h1 : ¬ x0 % 4 = 0) : 0 < x0 % 4 := by omega
theorem la_waysOfPut_11 {x0 x1 x2 : Int} (h0 : 0 ≤ x0) (h1 : x1 = 1) (h2 : x0 + 1 < x2) : 0 ≤ x0 ∧ x0 < x2 ∧ x1 = 1 ∧ x0 = x0 ∧ (6 : Int) ≤ 6 ∧ (6 : Int) ≤ 8 := by omega
theorem la_waysOfPut_12 {x0 : Int} (h0 : x0 = 1) : 0 ≤ x0 := by omega
theorem la_waysOfPut_13 {x0 : Int} (h0 : 0 ≤ x0) (h1 : ¬ x0 = 0) : 0 < x0 := by omega
theorem la_waysOfPut_14 {x0 x1 x2 : Int} (h0 : 0 ≤ x0) (h1 : x0 ≤ 11557) (h2 : 0 ≤ x1) (h3 : x1 ≤ 400) (h4 : x2 = 647339 + x1 - 0) : 0 ≤ x0 ∧ x0 ≤ 11557 ∧ 0 ≤ x2 ∧ x2 < 647800 := by omega
theorem la_waysOfPut_15 {x0 : Int} (h0 : 31 ≤ x0) (h1 : x0 ≤ 90) : 0 ≤ x0 ∧ x0 < 128 := by omega
theorem la_waysOfPut_16 : (0 : Int) ≤ 0 := by omega
theorem la_waysOfPut_17 {x0 : Int} (h0 : 31 ≤ x0) : 0 ≤ x0 := by omega
theorem la_waysOfPut_18 {x0 x1 : Int} (h0 : x0 ≤ x1) : 0 ≤ x1 - x0 := by omega
theorem la_waysOfPut_19 {x0 x1 x2 : Int} (h0 : 29 ≤ x0) (h1 : x1 = x2) : (0 : Int) ≤ 0 ∧ 0 ≤ x0 ∧ x1 = x2 := by omega
theorem la_waysOfPut_20 {x0 x1 : Int} (h0 : 0 ≤ x0) (h1 : x0 ≤ 400) (h2 : x1 = 647339 + x0 - 0) : 0 ≤ x1 ∧ x1 < 647800 ∧ (635639 : Int) ≤ 647740 ∧ (647740 : Int) < 647800 := by omega
theorem la_waysOfPut_21 {x0 x1 x2 x3 x4 x5 x6 x7 : Int} (h0 : 0 ≤ x0) (h1 : x1 = x2) (h2 : x3 = x4) (h3 : 3 ≤ x2) (h4 : x0 + 1 < x5) (h5 : x6 = x2 + (-2)) (h6 : x7 = x4) (h7 : x2 ≤ 396) : 0 ≤ x0 ∧ x0 + 1 < x5 ∧ (0 : Int) ≤ 3 ∧ 3 ≤ x1 ∧ x1 - 3 ≤ 399 ∧ (0 : Int) ≤ 647740 ∧ (647740 : Int) < 647800 ∧ x6 = x1 - 3 + 1 ∧ x7 = x3 := by omega
theorem la_waysOfPut_22 {x0 x1 x2 x3 x4 x5 x6 x7 x8 x9 x10 x11 : Int} (h0 : x0 = x1) (h1 : x2 = x0) (h2 : 641 * (x3 + x4 + x5 + x6) + x7 ≤ 641 * (x8 + x2 + x9 + x10) + x11) : 641 * (x3 + x4 + x5 + x6) + x7 ≤ 641 * (x8 + x1 + x9 + x10) + x11 := by omega
theorem la_waysOfPut_23 {x0 x1 : Int} (h0 : x0 + 1 < x1) : ¬ x1 ≤ x0 := by omega
theorem la_waysOfPut_24 {x0 x1 : Int} (h0 : x0 + 1 < x1) : ¬ x1 ≤ x0 + 1 := by omega
theorem la_waysOfPut_25 {x0 : Int} : x0 = x0 := by omega
theorem la_waysOfPut_26 : (6 : Int) ≤ 6 := by omega
theorem la_waysOfPut_27 : (6 : Int) ≤ 8 := by omega
theorem la_waysOfPut_28 {x0 x1 x2 x3 x4 x5 x6 x7 x8 x9 x10 x11 x12 x13 x14 x15 x16 : Int} (h0 : x0 = x1) (h1 : x2 = x0) (h2 : 641 * (x3 + x4 + x5 + x6) + x7 ≤ 641 * (x8 + x2 + x9 + x10) + x11) (h3 : 641 * (x12 + x13 + x14 + x15) + x16 ≤ 641 * (x3 + x4 + x5 + x6) + x7) : 641 * (x12 + x13 + x14 + x15) + x16 ≤ 641 * (x8 + x1 + x9 + x10) + x11 := by omega
theorem la_waysOfPut_29 {x0 x1 : Int} (h0 : x0 ≤ 127) (h1 : 0 ≤ x1) (h2 : ¬ x0 ≤ x1) : 0 ≤ x1 ∧ x1 < 128 := by omega
theorem la_waysOfPut_30 {x0 x1 x2 x3 x4 : Int} (h0 : x0 ≤ 127) (h1 : 0 ≤ x1) (h2 : x2 = x3) (h3 : ¬ x0 ≤ x1) : x4 = 0 → sv_R (x1 + 1) ∧ (0 ≤ x1 + 1 ∧ x1 + 1 ≤ x0 ∧ x2 = x3) ∧ x0 - (x1 + 1) < x0 - x1 := by omega
theorem la_waysOfPut_31 {x0 x1 x2 : Int} (h0 : 0 ≤ x0) (h1 : x0 ≤ 11557) (h2 : 0 ≤ x1) (h3 : ¬ x2 ≤ x1) : 0 ≤ x0 ∧ x0 ≤ 11557 ∧ 0 ≤ x1 ∧ x1 < x2 := by omega
theorem la_waysOfPut_32 {x0 x1 x2 x3 x4 : Int} (h0 : x0 ≤ 127) (h1 : 0 ≤ x1) (h2 : x1 ≤ 11557) (h3 : 0 ≤ x2) (h4 : ¬ x0 ≤ x2) : 0 ≤ x1 ∧ x1 ≤ 11557 ∧ (0 : Int) ≤ 639 ∧ ((639 : Int) = 639 ∨ 639 < x3 + 2 * x4) ∧ 0 ≤ x2 ∧ (x2 < x0 ∨ (639 : Int) = 639 ∧ x2 < 128) := by omega
theorem la_waysOfPut_33 : (639 : Int) = 639 := by omega
theorem la_waysOfPut_34 : ¬ ¬ (639 : Int) = 639 := by omega
theorem la_waysOfPut_35 {x0 x1 x2 : Int} (h0 : x0 ≤ 127) (h1 : 0 ≤ x1) (h2 : ¬ x0 ≤ x1) (h3 : x2 = 15000 + x1) : 0 ≤ x2 ∧ x2 < 15128 := by omega
theorem la_waysOfPut_36 {x0 x1 x2 x3 x4 x5 : Int} (h0 : x0 ≤ 127) (h1 : 31 ≤ x1) (h2 : 0 ≤ x2) (h3 : x2 ≤ 11557) (h4 : 0 ≤ x3) (h5 : ¬ x0 ≤ x3) : 0 ≤ x2 ∧ x2 ≤ 11557 ∧ (0 : Int) ≤ 639 ∧ ((639 : Int) = 639 ∨ 639 < x4 + 2 * x5) ∧ 0 ≤ x3 ∧ (x3 < x0 ∨ (639 : Int) = 639 ∧ x3 < 128) ∧ (0 : Int) ≤ 0 ∧ 0 ≤ x1 := by omega
theorem la_waysOfPut_37 {x0 : Int} (h0 : 635640 ≤ x0) (h1 : x0 < 647340) : 635639 ≤ x0 ∧ x0 < 647790 := by omega
theorem la_waysOfPut_38 {x0 x1 : Int} (h0 : x0 ≤ 127) (h1 : 0 ≤ x1) (h2 : ¬ x0 ≤ x1) : sv_R (x1 + 1) := by omega
theorem la_waysOfPut_39 {x0 x1 x2 x3 x4 : Int} (h0 : 0 ≤ x0) (h1 : x1 = x2) (h2 : ¬ x3 ≤ x0) (h3 : x4 = x1) : 0 ≤ x0 + 1 ∧ x0 + 1 ≤ x3 ∧ x4 = x2 := by omega
theorem la_waysOfPut_40 {x0 x1 : Int} : x0 - (x1 + 1) < x0 - x1 := by omega
theorem la_waysOfPut_41 {x0 x1 : Int} (h0 : x0 ≤ 90) (h1 : 0 ≤ x1) (h2 : ¬ x0 ≤ x1) : sv_R (x1 + 1) := by omega
theorem la_waysOfPut_42 {x0 : Int} (h0 : 0 ≤ x0) : 0 ≤ x0 + 1 := by omega
theorem la_waysOfPut_43 {x0 x1 : Int} (h0 : ¬ x0 ≤ x1) : x1 + 1 ≤ x0 := by omega
theorem la_waysOfPut_44 {x0 : Int} : ¬ x0 = 0 → (1 : Int) = 0 ∨ (1 : Int) = 1 := by omega
theorem la_waysOfPut_45 {x0 : Int} (h0 : ¬ ¬ x0 = 0) : ¬ x0 = 1 := by omega
theorem la_waysOfPut_46 {x0 x1 : Int} (h0 : x0 ≤ 90) (h1 : 0 ≤ x1) (h2 : ¬ x0 ≤ x1) : 0 ≤ x1 ∧ x1 < 128 := by omega
theorem la_waysOfPut_47 {x0 : Int} : x0 = 0 → (0 : Int) = 0 ∨ (0 : Int) = 1 := by omega
theorem la_waysOfPut_48 {x0 x1 : Int} (h0 : x0 ≤ 90) (h1 : 0 ≤ x1) (h2 : ¬ x0 ≤ x1) : 0 ≤ x1 ∧ x1 < 90 := by omega
theorem la_waysOfPut_49 : (1 : Int) = 0 ∨ (1 : Int) = 1 := by omega
set_option maxHeartbeats 2000000 in
theorem f_waysOfPut : ∀ (S : sv_S), sm_ok S → (29 ≤ (S 1071 0) ∧ (S 1071 0) ≤ 127 ∧ 31 ≤ (S 1008 0) ∧ (S 1008 0) ≤ 90 ∧ 1 ≤ (S 1032 0) ∧ (S 1032 0) ≤ 11 ∧ 0 ≤ (S 1055 0) ∧ (S 1055 0) ≤ 19 ∧ (S 1071 0) = 29 + 6 * ((S 1032 0) - 1) + 2 * (S 1055 0) ∧ 0 ≤ (S 1046 0) ∧ (S 1046 0) + 2 * (S 1032 0) ≤ 500 ∧ sm_PD (S 1046 0) (S 1032 0) (S 1071 0) (S 1008 0) ∧ 0 ≤ (S 1071 0) * ((S 1008 0) + 1) ∧ (S 1071 0) * ((S 1008 0) + 1) ≤ 11557 ∧ 31 ≤ (S 1007 0) ∧ (S 1007 0) ≤ 400 ∧ sm_LN (S 4) 400 (S 1007 0) ∧ (S 75 639) = 647340 ∧ sm_ST (S 71) (S 74) (S 75) (S 78) (S 79) (S 80) (S 27) (S 1100007) (S 1100023) (S 1100024) (S 1046 0) ((S 1046 0) + 2 * (S 1032 0)) (S 1127 0) ∧ 465000 ≤ (S 1127 0) ∧ (S 1127 0) + sm_hs (S 71) (S 1100007) ≤ 635000 ∧ sm_NH (S 1100007) ∧ sm_CT (S 26) (S 27) (S 28) (S 29) (S 1100007) (S 1100023) (S 1100024) (S 1100025) (S 21) (S 1046 0) (S 1032 0) (S 1008 0) (S 1055 0) ∧ (∀ k : Int, (S 1046 0) ≤ k → k < ((S 1046 0) + 2 * (S 1032 0)) → (S 1100007 k) = 1) ∧ sm_DR (S 72) (S 71) (S 1046 0) ∧ 0 ≤ (S 74 639) ∧ (S 74 639) ≤ 400 ∧ 0 ≤ (S 78 639) ∧ (S 78 639) ≤ 40 ∧ (S 78 639) = sm_dp (S 1100024) (S 1100031 0) ∧ -1 ≤ (S 1100031 0) ∧ (S 1100031 0) < (S 1046 0) ∧ (0 ≤ (S 1100031 0) → (S 26 (S 1100031 0)) = 27) ∧ sm_TC (S 79) (S 80) (S 27) (S 1100007) (S 1100023) (S 1100024) 25560 (S 1100031 0) ∧ 0 ≤ (S 1148 0) ∧ (S 1148 0) < (S 1046 0) ∧ (S 71 (S 1148 0)) = 1 ∧ (S 74 639) = (S 1100007 (S 1148 0)) ∧ (S 1100031 0) = (S 1100023 (S 1148 0)) ∧ 3 ≤ (S 1100007 (S 1148 0)) ∧ (S 1148 0) + 1 < (S 1046 0) ∧ (S 1100007 ((S 1148 0) + 1)) = (S 1100007 (S 1148 0)) + (-2) ∧ (S 1100023 ((S 1148 0) + 1)) = (S 1100023 (S 1148 0))) → ((sm_CT (S 26) (S 27) (S 28) (S 29) (S 1100007) (S 1100023) (S 1100024) (S 1100025) (S 21) (S 1046 0) (S 1032 0) (S 1008 0) (S 1055 0) → 0 ≤ (S 1148 0) → (S 1148 0) < (S 1046 0) → 0 ≤ (S 1100007 (S 1148 0)) ∧ (S 1100007 (S 1148 0)) ≤ 396 ∧ -1 ≤ (S 1100023 (S 1148 0)) ∧ (S 1100023 (S 1148 0)) < (S 1148 0)) → ((S 75 639) = 647340 ∧ 0 ≤ (S 74 639) ∧ (S 74 639) ≤ 400 ∧ -1 ≤ (2 : Int) ∧ (2 : Int) ≤ 1000) ∧ (∀ r7 : Int, sv_R r7 → (r7 = 647339 + (S 74 639) - (2 : Int)) → ((S 75 639) = 647340 ∧ 0 ≤ (S 74 639) ∧ (S 74 639) ≤ 400 ∧ -1 ≤ (0 : Int) ∧ (0 : Int) ≤ 1000) ∧ (∀ r13 : Int, sv_R r13 → (r13 = 647339 + (S 74 639) - (0 : Int)) → (0 ≤ r7 ∧ r7 < 647800) ∧ (∀ r19 : Int, sv_R r19 → (sm_iand ((S 68 r7) % 1024) (-513) = r19) → ((S 75 639) = 647340 ∧ 0 ≤ (S 74 639) ∧ (S 74 639) ≤ 400 ∧ -1 ≤ (1 : Int) ∧ (1 : Int) ≤ 1000) ∧ (∀ r25 : Int, sv_R r25 → (r25 = 647339 + (S 74 639) - (1 : Int)) → (31 ≤ (S 1007 0) ∧ (S 1007 0) ≤ 400 ∧ sm_LN (S 4) 400 (S 1007 0) ∧ 0 ≤ r25 ∧ r25 < 647800 ∧ 29 ≤ (S 1071 0) ∧ (S 1071 0) ≤ 127 ∧ 31 ≤ (S 1008 0) ∧ (S 1008 0) ≤ 90 ∧ 1 ≤ (S 1032 0) ∧ (S 1032 0) ≤ 11 ∧ 0 ≤ (S 1055 0) ∧ (S 1055 0) ≤ 19 ∧ (S 1071 0) = 29 + 6 * ((S 1032 0) - 1) + 2 * (S 1055 0) ∧ 0 ≤ (S 1046 0) ∧ (S 1046 0) + 2 * (S 1032 0) ≤ 500 ∧ sm_PD (S 1046 0) (S 1032 0) (S 1071 0) (S 1008 0) ∧ 0 ≤ (S 1071 0) * ((S 1008 0) + 1) ∧ (S 1071 0) * ((S 1008 0) + 1) ≤ 11557) ∧ (∀ g27 : sv_S, (True) → ((∀ s32 : Int, sv_R s32 → (s32 = 0 ∨ s32 = 1) → (((s32 = (0 : Int)) → ((((r19 % 4) = (0 : Int)) → (sm_ST (S 71) (S 74) (S 75) (S 78) (S 79) (S 80) (S 27) (S 1100007) (S 1100023) (S 1100024) (S 1046 0) ((S 1046 0) + 2 * (S 1032 0)) (S 1127 0) ∧ 465000 ≤ (S 1127 0) ∧ (S 1127 0) + sm_hs (S 71) (S 1100007) ≤ 635000 ∧ (S 75 639) = 647340 ∧ (∀ k : Int, (S 71 k) = 1 → (S 71 k) = 1) ∧ sm_DR (S 72) (S 71) (S 1046 0) ∧ (641 * (sm_cm (S 71) + sm_pt (S 68) (S 69) (S 70) + sm_pl (S 81) (S 82) (S 83) (S 84) (S 85) (S 86) + sm_ps (S 76) (S 77)) + sm_du (S 72)) ≤ (641 * (sm_cm (S 71) + sm_pt (S 68) (S 69) (S 70) + sm_pl (S 81) (S 82) (S 83) (S 84) (S 85) (S 86) + sm_ps (S 76) (S 77)) + sm_du (S 72)))) ∧ ((¬ ((r19 % 4) = (0 : Int))) → (sv_R (S 1148 0) → (29 ≤ (S 1071 0) ∧ (S 1071 0) ≤ 127 ∧ 31 ≤ (S 1008 0) ∧ (S 1008 0) ≤ 90 ∧ 1 ≤ (S 1032 0) ∧ (S 1032 0) ≤ 11 ∧ 0 ≤ (S 1055 0) ∧ (S 1055 0) ≤ 19 ∧ (S 1071 0) = 29 + 6 * ((S 1032 0) - 1) + 2 * (S 1055 0) ∧ 0 ≤ (S 1046 0) ∧ (S 1046 0) + 2 * (S 1032 0) ≤ 500 ∧ sm_PD (S 1046 0) (S 1032 0) (S 1071 0) (S 1008 0) ∧ 0 ≤ (S 1071 0) * ((S 1008 0) + 1) ∧ (S 1071 0) * ((S 1008 0) + 1) ≤ 11557 ∧ 31 ≤ (S 1007 0) ∧ (S 1007 0) ≤ 400 ∧ sm_LN (S 4) 400 (S 1007 0) ∧ (S 75 639) = 647340 ∧ sm_ST (S 71) (S 74) (S 75) (S 78) (S 79) (S 80) (S 27) (S 1100007) (S 1100023) (S 1100024) (S 1046 0) ((S 1046 0) + 2 * (S 1032 0)) (S 1127 0) ∧ 465000 ≤ (S 1127 0) ∧ (S 1127 0) + sm_hs (S 71) (S 1100007) ≤ 635000 ∧ sm_NH (S 1100007) ∧ sm_CT (S 26) (S 27) (S 28) (S 29) (S 1100007) (S 1100023) (S 1100024) (S 1100025) (S 21) (S 1046 0) (S 1032 0) (S 1008 0) (S 1055 0) ∧ (∀ k : Int, (S 1046 0) ≤ k → k < ((S 1046 0) + 2 * (S 1032 0)) → (S 1100007 k) = 1) ∧ sm_DR (S 72) (S 71) (S 1046 0) ∧ 0 ≤ (S 1148 0) ∧ (S 1148 0) < (S 1046 0) ∧ (S 71 (S 1148 0)) = 1 ∧ (S 1148 0) = (S 1148 0) ∧ 6 ≤ (6 : Int) ∧ (6 : Int) ≤ 8) ∧ (∀ g36 : sv_S, (sm_ST (g36 71) (g36 74) (g36 75) (g36 78) (g36 79) (g36 80) (S 27) (S 1100007) (S 1100023) (S 1100024) (S 1046 0) ((S 1046 0) + 2 * (S 1032 0)) (g36 1127 0) ∧ 465000 ≤ (g36 1127 0) ∧ (g36 1127 0) + sm_hs (g36 71) (S 1100007) ≤ 635000 ∧ (g36 75 639) = 647340 ∧ (∀ k : Int, (S 71 k) = 1 → (g36 71 k) = 1) ∧ sm_DR (g36 72) (g36 71) (S 1046 0) ∧ (641 * (sm_cm (g36 71) + sm_pt (g36 68) (g36 69) (g36 70) + sm_pl (g36 81) (g36 82) (g36 83) (g36 84) (g36 85) (g36 86) + sm_ps (g36 76) (g36 77)) + sm_du (g36 72)) ≤ (641 * (sm_cm (S 71) + sm_pt (S 68) (S 69) (S 70) + sm_pl (S 81) (S 82) (S 83) (S 84) (S 85) (S 86) + sm_ps (S 76) (S 77)) + sm_du (S 72))) → (sm_ST (g36 71) (g36 74) (g36 75) (g36 78) (g36 79) (g36 80) (S 27) (S 1100007) (S 1100023) (S 1100024) (S 1046 0) ((S 1046 0) + 2 * (S 1032 0)) (g36 1127 0) ∧ 465000 ≤ (g36 1127 0) ∧ (g36 1127 0) + sm_hs (g36 71) (S 1100007) ≤ 635000 ∧ (g36 75 639) = 647340 ∧ (∀ k : Int, (S 71 k) = 1 → (g36 71 k) = 1) ∧ sm_DR (g36 72) (g36 71) (S 1046 0) ∧ (641 * (sm_cm (g36 71) + sm_pt (g36 68) (g36 69) (g36 70) + sm_pl (g36 81) (g36 82) (g36 83) (g36 84) (g36 85) (g36 86) + sm_ps (g36 76) (g36 77)) + sm_du (g36 72)) ≤ (641 * (sm_cm (S 71) + sm_pt (S 68) (S 69) (S 70) + sm_pl (S 81) (S 82) (S 83) (S 84) (S 85) (S 86) + sm_ps (S 76) (S 77)) + sm_du (S 72)))))))) ∧ ((¬ (s32 = (0 : Int))) → (sv_RL (S 69 r7) → (sv_RL (S 70 r7) → (((¬ r19 = (0 : Int)) → (29 ≤ (S 1071 0) ∧ (S 1071 0) ≤ 127 ∧ 31 ≤ (S 1008 0) ∧ (S 1008 0) ≤ 90 ∧ 1 ≤ (S 1032 0) ∧ (S 1032 0) ≤ 11 ∧ 0 ≤ (S 1055 0) ∧ (S 1055 0) ≤ 19 ∧ (S 1071 0) = 29 + 6 * ((S 1032 0) - 1) + 2 * (S 1055 0) ∧ 0 ≤ (S 1046 0) ∧ (S 1046 0) + 2 * (S 1032 0) ≤ 500 ∧ sm_PD (S 1046 0) (S 1032 0) (S 1071 0) (S 1008 0) ∧ 0 ≤ (S 1071 0) * ((S 1008 0) + 1) ∧ (S 1071 0) * ((S 1008 0) + 1) ≤ 11557 ∧ 0 ≤ r13 ∧ r13 < 647800) ∧ (∀ g44 : sv_S, (sm_pt (g44 68) (g44 69) (g44 70) = sm_pt (S 68) (S 69) (S 70)) → (sv_R (S 1008 0) → (0 ≤ (S 1008 0) ∧ (S 1008 0) < 128) ∧ (∀ r55 : Int, sv_R r55 → (r55 = 0 ∨ r55 = 1) → ((0 ≤ (0 : Int) ∧ (0 : Int) ≤ (S 1008 0) ∧ (r55 = 0 ∨ r55 = 1)) ∧ (∀ l5_56 : Int, sv_R l5_56 → ∀ l6_57 : Int, sv_R l6_57 → (0 ≤ l6_57 ∧ l6_57 ≤ (S 1008 0) ∧ (l5_56 = 0 ∨ l5_56 = 1)) → (0 ≤ (S 1008 0) - l6_57) ∧ ((((S 1008 0) ≤ l6_57) → ((0 ≤ (0 : Int) ∧ (0 : Int) ≤ (S 1071 0) ∧ sm_pt (g44 68) (g44 69) (g44 70) = sm_pt (S 68) (S 69) (S 70)) ∧ (∀ l6_62 : Int, sv_R l6_62 → ∀ g61 : sv_S, (0 ≤ l6_62 ∧ l6_62 ≤ (S 1071 0) ∧ sm_pt (g61 68) (g61 69) (g61 70) = sm_pt (S 68) (S 69) (S 70)) → (0 ≤ (S 1071 0) - l6_62) ∧ (sv_R (S 1071 0) → ((((S 1071 0) ≤ l6_62) → (0 ≤ r13 ∧ r13 < 647800 ∧ 635639 ≤ (647740 : Int) ∧ (647740 : Int) < 647800) ∧ (∀ g70 : sv_S, (sm_pt (g70 68) (g70 69) (g70 70) = sm_pt (g61 68) (g61 69) (g61 70)) → (29 ≤ (S 1071 0) ∧ (S 1071 0) ≤ 127 ∧ 31 ≤ (S 1008 0) ∧ (S 1008 0) ≤ 90 ∧ 1 ≤ (S 1032 0) ∧ (S 1032 0) ≤ 11 ∧ 0 ≤ (S 1055 0) ∧ (S 1055 0) ≤ 19 ∧ (S 1071 0) = 29 + 6 * ((S 1032 0) - 1) + 2 * (S 1055 0) ∧ 0 ≤ (S 1046 0) ∧ (S 1046 0) + 2 * (S 1032 0) ≤ 500 ∧ sm_PD (S 1046 0) (S 1032 0) (S 1071 0) (S 1008 0) ∧ 0 ≤ (S 1071 0) * ((S 1008 0) + 1) ∧ (S 1071 0) * ((S 1008 0) + 1) ≤ 11557 ∧ 31 ≤ (S 1007 0) ∧ (S 1007 0) ≤ 400 ∧ sm_LN (S 4) 400 (S 1007 0) ∧ (S 75 639) = 647340 ∧ sm_ST (S 71) (S 74) (S 75) (S 78) (S 79) (S 80) (S 27) (S 1100007) (S 1100023) (S 1100024) (S 1046 0) ((S 1046 0) + 2 * (S 1032 0)) (S 1127 0) ∧ 465000 ≤ (S 1127 0) ∧ (S 1127 0) + sm_hs (S 71) (S 1100007) ≤ 635000 ∧ sm_NH (S 1100007) ∧ sm_CT (S 26) (S 27) (S 28) (S 29) (S 1100007) (S 1100023) (S 1100024) (S 1100025) (S 21) (S 1046 0) (S 1032 0) (S 1008 0) (S 1055 0) ∧ (∀ k : Int, (S 1046 0) ≤ k → k < ((S 1046 0) + 2 * (S 1032 0)) → (S 1100007 k) = 1) ∧ sm_DR (S 72) (S 71) (S 1046 0) ∧ 0 ≤ (S 74 639) ∧ (S 74 639) ≤ 400 ∧ 0 ≤ (S 78 639) ∧ (S 78 639) ≤ 40 ∧ (S 78 639) = sm_dp (S 1100024) (S 1100031 0) ∧ -1 ≤ (S 1100031 0) ∧ (S 1100031 0) < (S 1046 0) ∧ (0 ≤ (S 1100031 0) → (S 26 (S 1100031 0)) = 27) ∧ sm_TC (S 79) (S 80) (S 27) (S 1100007) (S 1100023) (S 1100024) 25560 (S 1100031 0) ∧ 0 ≤ (S 1148 0) ∧ (S 1148 0) + 1 < (S 1046 0) ∧ 0 ≤ (3 : Int) ∧ (3 : Int) ≤ (S 74 639) ∧ (S 74 639) - (3 : Int) ≤ 399 ∧ 0 ≤ (647740 : Int) ∧ (647740 : Int) < 647800 ∧ (S 1100007 ((S 1148 0) + 1)) = (S 74 639) - (3 : Int) + 1 ∧ (S 1100023 ((S 1148 0) + 1)) = (S 1100031 0)) ∧ (∀ g77 : sv_S, (sm_ST (g77 71) (g77 74) (g77 75) (g77 78) (g77 79) (g77 80) (S 27) (S 1100007) (S 1100023) (S 1100024) (S 1046 0) ((S 1046 0) + 2 * (S 1032 0)) (g77 1127 0) ∧ 465000 ≤ (g77 1127 0) ∧ (g77 1127 0) + sm_hs (g77 71) (S 1100007) ≤ 635000 ∧ (g77 75 639) = 647340 ∧ (∀ k : Int, (S 71 k) = 1 → (g77 71 k) = 1) ∧ sm_DR (g77 72) (g77 71) (S 1046 0) ∧ (641 * (sm_cm (g77 71) + sm_pt (g77 68) (g77 69) (g77 70) + sm_pl (g77 81) (g77 82) (g77 83) (g77 84) (g77 85) (g77 86) + sm_ps (g77 76) (g77 77)) + sm_du (g77 72)) ≤ (641 * (sm_cm (S 71) + sm_pt (g70 68) (g70 69) (g70 70) + sm_pl (S 81) (S 82) (S 83) (S 84) (S 85) (S 86) + sm_ps (S 76) (S 77)) + sm_du (S 72))) → ((((r19 % 4) = (0 : Int)) → (sm_ST (g77 71) (g77 74) (g77 75) (g77 78) (g77 79) (g77 80) (S 27) (S 1100007) (S 1100023) (S 1100024) (S 1046 0) ((S 1046 0) + 2 * (S 1032 0)) (g77 1127 0) ∧ 465000 ≤ (g77 1127 0) ∧ (g77 1127 0) + sm_hs (g77 71) (S 1100007) ≤ 635000 ∧ (g77 75 639) = 647340 ∧ (∀ k : Int, (S 71 k) = 1 → (g77 71 k) = 1) ∧ sm_DR (g77 72) (g77 71) (S 1046 0) ∧ (641 * (sm_cm (g77 71) + sm_pt (g77 68) (g77 69) (g77 70) + sm_pl (g77 81) (g77 82) (g77 83) (g77 84) (g77 85) (g77 86) + sm_ps (g77 76) (g77 77)) + sm_du (g77 72)) ≤ (641 * (sm_cm (S 71) + sm_pt (S 68) (S 69) (S 70) + sm_pl (S 81) (S 82) (S 83) (S 84) (S 85) (S 86) + sm_ps (S 76) (S 77)) + sm_du (S 72)))) ∧ ((¬ ((r19 % 4) = (0 : Int))) → (sv_R (S 1148 0) → (29 ≤ (S 1071 0) ∧ (S 1071 0) ≤ 127 ∧ 31 ≤ (S 1008 0) ∧ (S 1008 0) ≤ 90 ∧ 1 ≤ (S 1032 0) ∧ (S 1032 0) ≤ 11 ∧ 0 ≤ (S 1055 0) ∧ (S 1055 0) ≤ 19 ∧ (S 1071 0) = 29 + 6 * ((S 1032 0) - 1) + 2 * (S 1055 0) ∧ 0 ≤ (S 1046 0) ∧ (S 1046 0) + 2 * (S 1032 0) ≤ 500 ∧ sm_PD (S 1046 0) (S 1032 0) (S 1071 0) (S 1008 0) ∧ 0 ≤ (S 1071 0) * ((S 1008 0) + 1) ∧ (S 1071 0) * ((S 1008 0) + 1) ≤ 11557 ∧ 31 ≤ (S 1007 0) ∧ (S 1007 0) ≤ 400 ∧ sm_LN (S 4) 400 (S 1007 0) ∧ (g77 75 639) = 647340 ∧ sm_ST (g77 71) (g77 74) (g77 75) (g77 78) (g77 79) (g77 80) (S 27) (S 1100007) (S 1100023) (S 1100024) (S 1046 0) ((S 1046 0) + 2 * (S 1032 0)) (g77 1127 0) ∧ 465000 ≤ (g77 1127 0) ∧ (g77 1127 0) + sm_hs (g77 71) (S 1100007) ≤ 635000 ∧ sm_NH (S 1100007) ∧ sm_CT (S 26) (S 27) (S 28) (S 29) (S 1100007) (S 1100023) (S 1100024) (S 1100025) (S 21) (S 1046 0) (S 1032 0) (S 1008 0) (S 1055 0) ∧ (∀ k : Int, (S 1046 0) ≤ k → k < ((S 1046 0) + 2 * (S 1032 0)) → (S 1100007 k) = 1) ∧ sm_DR (g77 72) (g77 71) (S 1046 0) ∧ 0 ≤ (S 1148 0) ∧ (S 1148 0) < (S 1046 0) ∧ (g77 71 (S 1148 0)) = 1 ∧ (S 1148 0) = (S 1148 0) ∧ 6 ≤ (6 : Int) ∧ (6 : Int) ≤ 8) ∧ (∀ g84 : sv_S, (sm_ST (g84 71) (g84 74) (g84 75) (g84 78) (g84 79) (g84 80) (S 27) (S 1100007) (S 1100023) (S 1100024) (S 1046 0) ((S 1046 0) + 2 * (S 1032 0)) (g84 1127 0) ∧ 465000 ≤ (g84 1127 0) ∧ (g84 1127 0) + sm_hs (g84 71) (S 1100007) ≤ 635000 ∧ (g84 75 639) = 647340 ∧ (∀ k : Int, (g77 71 k) = 1 → (g84 71 k) = 1) ∧ sm_DR (g84 72) (g84 71) (S 1046 0) ∧ (641 * (sm_cm (g84 71) + sm_pt (g84 68) (g84 69) (g84 70) + sm_pl (g84 81) (g84 82) (g84 83) (g84 84) (g84 85) (g84 86) + sm_ps (g84 76) (g84 77)) + sm_du (g84 72)) ≤ (641 * (sm_cm (g77 71) + sm_pt (g77 68) (g77 69) (g77 70) + sm_pl (g77 81) (g77 82) (g77 83) (g77 84) (g77 85) (g77 86) + sm_ps (g77 76) (g77 77)) + sm_du (g77 72))) → (sm_ST (g84 71) (g84 74) (g84 75) (g84 78) (g84 79) (g84 80) (S 27) (S 1100007) (S 1100023) (S 1100024) (S 1046 0) ((S 1046 0) + 2 * (S 1032 0)) (g84 1127 0) ∧ 465000 ≤ (g84 1127 0) ∧ (g84 1127 0) + sm_hs (g84 71) (S 1100007) ≤ 635000 ∧ (g84 75 639) = 647340 ∧ (∀ k : Int, (S 71 k) = 1 → (g84 71 k) = 1) ∧ sm_DR (g84 72) (g84 71) (S 1046 0) ∧ (641 * (sm_cm (g84 71) + sm_pt (g84 68) (g84 69) (g84 70) + sm_pl (g84 81) (g84 82) (g84 83) (g84 84) (g84 85) (g84 86) + sm_ps (g84 76) (g84 77)) + sm_du (g84 72)) ≤ (641 * (sm_cm (S 71) + sm_pt (S 68) (S 69) (S 70) + sm_pl (S 81) (S 82) (S 83) (S 84) (S 85) (S 86) + sm_ps (S 76) (S 77)) + sm_du (S 72)))))))))) ∧ ((¬ ((S 1071 0) ≤ l6_62)) → (((l5_56 = (0 : Int)) → (0 ≤ r13 ∧ r13 < 647800 ∧ 635639 ≤ (647740 : Int) ∧ (647740 : Int) < 647800) ∧ (∀ g90 : sv_S, (sm_pt (g90 68) (g90 69) (g90 70) = sm_pt (g61 68) (g61 69) (g61 70)) → (29 ≤ (S 1071 0) ∧ (S 1071 0) ≤ 127 ∧ 31 ≤ (S 1008 0) ∧ (S 1008 0) ≤ 90 ∧ 1 ≤ (S 1032 0) ∧ (S 1032 0) ≤ 11 ∧ 0 ≤ (S 1055 0) ∧ (S 1055 0) ≤ 19 ∧ (S 1071 0) = 29 + 6 * ((S 1032 0) - 1) + 2 * (S 1055 0) ∧ 0 ≤ (S 1046 0) ∧ (S 1046 0) + 2 * (S 1032 0) ≤ 500 ∧ sm_PD (S 1046 0) (S 1032 0) (S 1071 0) (S 1008 0) ∧ 0 ≤ (S 1071 0) * ((S 1008 0) + 1) ∧ (S 1071 0) * ((S 1008 0) + 1) ≤ 11557 ∧ 31 ≤ (S 1007 0) ∧ (S 1007 0) ≤ 400 ∧ sm_LN (S 4) 400 (S 1007 0) ∧ (S 75 639) = 647340 ∧ sm_ST (S 71) (S 74) (S 75) (S 78) (S 79) (S 80) (S 27) (S 1100007) (S 1100023) (S 1100024) (S 1046 0) ((S 1046 0) + 2 * (S 1032 0)) (S 1127 0) ∧ 465000 ≤ (S 1127 0) ∧ (S 1127 0) + sm_hs (S 71) (S 1100007) ≤ 635000 ∧ sm_NH (S 1100007) ∧ sm_CT (S 26) (S 27) (S 28) (S 29) (S 1100007) (S 1100023) (S 1100024) (S 1100025) (S 21) (S 1046 0) (S 1032 0) (S 1008 0) (S 1055 0) ∧ (∀ k : Int, (S 1046 0) ≤ k → k < ((S 1046 0) + 2 * (S 1032 0)) → (S 1100007 k) = 1) ∧ sm_DR (S 72) (S 71) (S 1046 0) ∧ 0 ≤ (S 74 639) ∧ (S 74 639) ≤ 400 ∧ 0 ≤ (S 78 639) ∧ (S 78 639) ≤ 40 ∧ (S 78 639) = sm_dp (S 1100024) (S 1100031 0) ∧ -1 ≤ (S 1100031 0) ∧ (S 1100031 0) < (S 1046 0) ∧ (0 ≤ (S 1100031 0) → (S 26 (S 1100031 0)) = 27) ∧ sm_TC (S 79) (S 80) (S 27) (S 1100007) (S 1100023) (S 1100024) 25560 (S 1100031 0) ∧ 0 ≤ (S 1148 0) ∧ (S 1148 0) + 1 < (S 1046 0) ∧ 0 ≤ (3 : Int) ∧ (3 : Int) ≤ (S 74 639) ∧ (S 74 639) - (3 : Int) ≤ 399 ∧ 0 ≤ (647740 : Int) ∧ (647740 : Int) < 647800 ∧ (S 1100007 ((S 1148 0) + 1)) = (S 74 639) - (3 : Int) + 1 ∧ (S 1100023 ((S 1148 0) + 1)) = (S 1100031 0)) ∧ (∀ g97 : sv_S, (sm_ST (g97 71) (g97 74) (g97 75) (g97 78) (g97 79) (g97 80) (S 27) (S 1100007) (S 1100023) (S 1100024) (S 1046 0) ((S 1046 0) + 2 * (S 1032 0)) (g97 1127 0) ∧ 465000 ≤ (g97 1127 0) ∧ (g97 1127 0) + sm_hs (g97 71) (S 1100007) ≤ 635000 ∧ (g97 75 639) = 647340 ∧ (∀ k : Int, (S 71 k) = 1 → (g97 71 k) = 1) ∧ sm_DR (g97 72) (g97 71) (S 1046 0) ∧ (641 * (sm_cm (g97 71) + sm_pt (g97 68) (g97 69) (g97 70) + sm_pl (g97 81) (g97 82) (g97 83) (g97 84) (g97 85) (g97 86) + sm_ps (g97 76) (g97 77)) + sm_du (g97 72)) ≤ (641 * (sm_cm (S 71) + sm_pt (g90 68) (g90 69) (g90 70) + sm_pl (S 81) (S 82) (S 83) (S 84) (S 85) (S 86) + sm_ps (S 76) (S 77)) + sm_du (S 72))) → ((((r19 % 4) = (0 : Int)) → (sm_ST (g97 71) (g97 74) (g97 75) (g97 78) (g97 79) (g97 80) (S 27) (S 1100007) (S 1100023) (S 1100024) (S 1046 0) ((S 1046 0) + 2 * (S 1032 0)) (g97 1127 0) ∧ 465000 ≤ (g97 1127 0) ∧ (g97 1127 0) + sm_hs (g97 71) (S 1100007) ≤ 635000 ∧ (g97 75 639) = 647340 ∧ (∀ k : Int, (S 71 k) = 1 → (g97 71 k) = 1) ∧ sm_DR (g97 72) (g97 71) (S 1046 0) ∧ (641 * (sm_cm (g97 71) + sm_pt (g97 68) (g97 69) (g97 70) + sm_pl (g97 81) (g97 82) (g97 83) (g97 84) (g97 85) (g97 86) + sm_ps (g97 76) (g97 77)) + sm_du (g97 72)) ≤ (641 * (sm_cm (S 71) + sm_pt (S 68) (S 69) (S 70) + sm_pl (S 81) (S 82) (S 83) (S 84) (S 85) (S 86) + sm_ps (S 76) (S 77)) + sm_du (S 72)))) ∧ ((¬ ((r19 % 4) = (0 : Int))) → (sv_R (S 1148 0) → (29 ≤ (S 1071 0) ∧ (S 1071 0) ≤ 127 ∧ 31 ≤ (S 1008 0) ∧ (S 1008 0) ≤ 90 ∧ 1 ≤ (S 1032 0) ∧ (S 1032 0) ≤ 11 ∧ 0 ≤ (S 1055 0) ∧ (S 1055 0) ≤ 19 ∧ (S 1071 0) = 29 + 6 * ((S 1032 0) - 1) + 2 * (S 1055 0) ∧ 0 ≤ (S 1046 0) ∧ (S 1046 0) + 2 * (S 1032 0) ≤ 500 ∧ sm_PD (S 1046 0) (S 1032 0) (S 1071 0) (S 1008 0) ∧ 0 ≤ (S 1071 0) * ((S 1008 0) + 1) ∧ (S 1071 0) * ((S 1008 0) + 1) ≤ 11557 ∧ 31 ≤ (S 1007 0) ∧ (S 1007 0) ≤ 400 ∧ sm_LN (S 4) 400 (S 1007 0) ∧ (g97 75 639) = 647340 ∧ sm_ST (g97 71) (g97 74) (g97 75) (g97 78) (g97 79) (g97 80) (S 27) (S 1100007) (S 1100023) (S 1100024) (S 1046 0) ((S 1046 0) + 2 * (S 1032 0)) (g97 1127 0) ∧ 465000 ≤ (g97 1127 0) ∧ (g97 1127 0) + sm_hs (g97 71) (S 1100007) ≤ 635000 ∧ sm_NH (S 1100007) ∧ sm_CT (S 26) (S 27) (S 28) (S 29) (S 1100007) (S 1100023) (S 1100024) (S 1100025) (S 21) (S 1046 0) (S 1032 0) (S 1008 0) (S 1055 0) ∧ (∀ k : Int, (S 1046 0) ≤ k → k < ((S 1046 0) + 2 * (S 1032 0)) → (S 1100007 k) = 1) ∧ sm_DR (g97 72) (g97 71) (S 1046 0) ∧ 0 ≤ (S 1148 0) ∧ (S 1148 0) < (S 1046 0) ∧ (g97 71 (S 1148 0)) = 1 ∧ (S 1148 0) = (S 1148 0) ∧ 6 ≤ (6 : Int) ∧ (6 : Int) ≤ 8) ∧ (∀ g104 : sv_S, (sm_ST (g104 71) (g104 74) (g104 75) (g104 78) (g104 79) (g104 80) (S 27) (S 1100007) (S 1100023) (S 1100024) (S 1046 0) ((S 1046 0) + 2 * (S 1032 0)) (g104 1127 0) ∧ 465000 ≤ (g104 1127 0) ∧ (g104 1127 0) + sm_hs (g104 71) (S 1100007) ≤ 635000 ∧ (g104 75 639) = 647340 ∧ (∀ k : Int, (g97 71 k) = 1 → (g104 71 k) = 1) ∧ sm_DR (g104 72) (g104 71) (S 1046 0) ∧ (641 * (sm_cm (g104 71) + sm_pt (g104 68) (g104 69) (g104 70) + sm_pl (g104 81) (g104 82) (g104 83) (g104 84) (g104 85) (g104 86) + sm_ps (g104 76) (g104 77)) + sm_du (g104 72)) ≤ (641 * (sm_cm (g97 71) + sm_pt (g97 68) (g97 69) (g97 70) + sm_pl (g97 81) (g97 82) (g97 83) (g97 84) (g97 85) (g97 86) + sm_ps (g97 76) (g97 77)) + sm_du (g97 72))) → (sm_ST (g104 71) (g104 74) (g104 75) (g104 78) (g104 79) (g104 80) (S 27) (S 1100007) (S 1100023) (S 1100024) (S 1046 0) ((S 1046 0) + 2 * (S 1032 0)) (g104 1127 0) ∧ 465000 ≤ (g104 1127 0) ∧ (g104 1127 0) + sm_hs (g104 71) (S 1100007) ≤ 635000 ∧ (g104 75 639) = 647340 ∧ (∀ k : Int, (S 71 k) = 1 → (g104 71 k) = 1) ∧ sm_DR (g104 72) (g104 71) (S 1046 0) ∧ (641 * (sm_cm (g104 71) + sm_pt (g104 68) (g104 69) (g104 70) + sm_pl (g104 81) (g104 82) (g104 83) (g104 84) (g104 85) (g104 86) + sm_ps (g104 76) (g104 77)) + sm_du (g104 72)) ≤ (641 * (sm_cm (S 71) + sm_pt (S 68) (S 69) (S 70) + sm_pl (S 81) (S 82) (S 83) (S 84) (S 85) (S 86) + sm_ps (S 76) (S 77)) + sm_du (S 72)))))))))) ∧ ((¬ (l5_56 = (0 : Int))) → (sv_RL (g61 69 r7) → (sv_RL (g61 70 r7) → (0 ≤ l6_62 ∧ l6_62 < 128) ∧ (∀ r116 : Int, sv_R r116 → (r116 = sm_in (g61 69 r7) (g61 70 r7) l6_62 ∧ (r116 = 0 ∨ r116 = 1)) → (((r116 = (0 : Int)) → (sv_R (l6_62 + (1 : Int))) ∧ ((0 ≤ (l6_62 + (1 : Int)) ∧ (l6_62 + (1 : Int)) ≤ (S 1071 0) ∧ sm_pt (g61 68) (g61 69) (g61 70) = sm_pt (S 68) (S 69) (S 70)) ∧ ((S 1071 0) - (l6_62 + (1 : Int))) < ((S 1071 0) - l6_62))) ∧ ((¬ (r116 = (0 : Int))) → (29 ≤ (S 1071 0) ∧ (S 1071 0) ≤ 127 ∧ 31 ≤ (S 1008 0) ∧ (S 1008 0) ≤ 90 ∧ 1 ≤ (S 1032 0) ∧ (S 1032 0) ≤ 11 ∧ 0 ≤ (S 1055 0) ∧ (S 1055 0) ≤ 19 ∧ (S 1071 0) = 29 + 6 * ((S 1032 0) - 1) + 2 * (S 1055 0) ∧ 0 ≤ (S 1046 0) ∧ (S 1046 0) + 2 * (S 1032 0) ≤ 500 ∧ sm_PD (S 1046 0) (S 1032 0) (S 1071 0) (S 1008 0) ∧ 0 ≤ (S 1071 0) * ((S 1008 0) + 1) ∧ (S 1071 0) * ((S 1008 0) + 1) ≤ 11557 ∧ 0 ≤ l6_62 ∧ l6_62 < (S 1071 0)) ∧ (∀ r123 : Int, sv_R r123 → (r123 = 0 ∨ r123 = 1) → (((r123 = (0 : Int)) → (sv_R (l6_62 + (1 : Int))) ∧ ((0 ≤ (l6_62 + (1 : Int)) ∧ (l6_62 + (1 : Int)) ≤ (S 1071 0) ∧ sm_pt (g61 68) (g61 69) (g61 70) = sm_pt (S 68) (S 69) (S 70)) ∧ ((S 1071 0) - (l6_62 + (1 : Int))) < ((S 1071 0) - l6_62))) ∧ ((¬ (r123 = (0 : Int))) → (29 ≤ (S 1071 0) ∧ (S 1071 0) ≤ 127 ∧ 31 ≤ (S 1008 0) ∧ (S 1008 0) ≤ 90 ∧ 1 ≤ (S 1032 0) ∧ (S 1032 0) ≤ 11 ∧ 0 ≤ (S 1055 0) ∧ (S 1055 0) ≤ 19 ∧ (S 1071 0) = 29 + 6 * ((S 1032 0) - 1) + 2 * (S 1055 0) ∧ 0 ≤ (S 1046 0) ∧ (S 1046 0) + 2 * (S 1032 0) ≤ 500 ∧ sm_PD (S 1046 0) (S 1032 0) (S 1071 0) (S 1008 0) ∧ 0 ≤ (S 1071 0) * ((S 1008 0) + 1) ∧ (S 1071 0) * ((S 1008 0) + 1) ≤ 11557 ∧ 0 ≤ (639 : Int) ∧ ((639 : Int) = 639 ∨ (639 : Int) < (S 1046 0) + 2 * (S 1032 0)) ∧ 0 ≤ l6_62 ∧ (l6_62 < (S 1071 0) ∨ ((639 : Int) = 639 ∧ l6_62 < 128))) ∧ (∀ r130 : Int, sv_R r130 → (((639 : Int) = 639 → r130 = 15000 + l6_62) ∧ (¬ (639 : Int) = 639 → 0 ≤ r130 ∧ r130 < 14520)) → (0 ≤ r130 ∧ r130 < 15128) ∧ ((0 ≤ (S 81 r130) ∧ (S 81 r130) ≤ 1) → ((((S 81 r130) = (0 : Int)) → (sv_R (l6_62 + (1 : Int))) ∧ ((0 ≤ (l6_62 + (1 : Int)) ∧ (l6_62 + (1 : Int)) ≤ (S 1071 0) ∧ sm_pt (g61 68) (g61 69) (g61 70) = sm_pt (S 68) (S 69) (S 70)) ∧ ((S 1071 0) - (l6_62 + (1 : Int))) < ((S 1071 0) - l6_62))) ∧ ((¬ ((S 81 r130) = (0 : Int))) → (29 ≤ (S 1071 0) ∧ (S 1071 0) ≤ 127 ∧ 31 ≤ (S 1008 0) ∧ (S 1008 0) ≤ 90 ∧ 1 ≤ (S 1032 0) ∧ (S 1032 0) ≤ 11 ∧ 0 ≤ (S 1055 0) ∧ (S 1055 0) ≤ 19 ∧ (S 1071 0) = 29 + 6 * ((S 1032 0) - 1) + 2 * (S 1055 0) ∧ 0 ≤ (S 1046 0) ∧ (S 1046 0) + 2 * (S 1032 0) ≤ 500 ∧ sm_PD (S 1046 0) (S 1032 0) (S 1071 0) (S 1008 0) ∧ 0 ≤ (S 1071 0) * ((S 1008 0) + 1) ∧ (S 1071 0) * ((S 1008 0) + 1) ≤ 11557 ∧ 0 ≤ (639 : Int) ∧ ((639 : Int) = 639 ∨ (639 : Int) < (S 1046 0) + 2 * (S 1032 0)) ∧ 0 ≤ l6_62 ∧ (l6_62 < (S 1071 0) ∨ ((639 : Int) = 639 ∧ l6_62 < 128)) ∧ 0 ≤ (0 : Int) ∧ (0 : Int) ≤ (S 1008 0)) ∧ (∀ r139 : Int, sv_R r139 → (((639 : Int) = 639 → 635640 ≤ r139 ∧ r139 < 647340) ∧ (¬ (639 : Int) = 639 → 0 ≤ r139 ∧ r139 < 464520)) → (635639 ≤ r139 ∧ r139 < 647790) ∧ (∀ g141 : sv_S, (sm_pt (g141 68) (g141 69) (g141 70) = sm_pt (g61 68) (g61 69) (g61 70)) → (sv_R (l6_62 + (1 : Int))) ∧ ((0 ≤ (l6_62 + (1 : Int)) ∧ (l6_62 + (1 : Int)) ≤ (S 1071 0) ∧ sm_pt (g141 68) (g141 69) (g141 70) = sm_pt (S 68) (S 69) (S 70)) ∧ ((S 1071 0) - (l6_62 + (1 : Int))) < ((S 1071 0) - l6_62)))))))))))))))))))))))) ∧ ((¬ ((S 1008 0) ≤ l6_57)) → ((∀ s148 : Int, sv_R s148 → (s148 = 0 ∨ s148 = 1) → (sv_R (l6_57 + (1 : Int))) ∧ ((0 ≤ (l6_57 + (1 : Int)) ∧ (l6_57 + (1 : Int)) ≤ (S 1008 0) ∧ (s148 = 0 ∨ s148 = 1)) ∧ ((S 1008 0) - (l6_57 + (1 : Int))) < ((S 1008 0) - l6_57))) ∧ (((¬ l5_56 = (0 : Int)) → ((1 : Int) = 0 ∨ (1 : Int) = 1)) ∧ ((¬ (¬ l5_56 = (0 : Int))) → (0 ≤ l6_57 ∧ l6_57 < 128) ∧ (∀ r157 : Int, sv_R r157 → (r157 = 0 ∨ r157 = 1) → (((r157 = (0 : Int)) → ((0 : Int) = 0 ∨ (0 : Int) = 1)) ∧ ((¬ (r157 = (0 : Int))) → (0 ≤ l6_57 ∧ l6_57 < 90) ∧ ((0 ≤ (S 88 l6_57) ∧ (S 88 l6_57) ≤ 1) → ((((S 88 l6_57) = (0 : Int)) → ((0 : Int) = 0 ∨ (0 : Int) = 1)) ∧ ((¬ ((S 88 l6_57) = (0 : Int))) → ((1 : Int) = 0 ∨ (1 : Int) = 1)))))))))))))))))) ∧ ((¬ (¬ r19 = (0 : Int))) → (29 ≤ (S 1071 0) ∧ (S 1071 0) ≤ 127 ∧ 31 ≤ (S 1008 0) ∧ (S 1008 0) ≤ 90 ∧ 1 ≤ (S 1032 0) ∧ (S 1032 0) ≤ 11 ∧ 0 ≤ (S 1055 0) ∧ (S 1055 0) ≤ 19 ∧ (S 1071 0) = 29 + 6 * ((S 1032 0) - 1) + 2 * (S 1055 0) ∧ 0 ≤ (S 1046 0) ∧ (S 1046 0) + 2 * (S 1032 0) ≤ 500 ∧ sm_PD (S 1046 0) (S 1032 0) (S 1071 0) (S 1008 0) ∧ 0 ≤ (S 1071 0) * ((S 1008 0) + 1) ∧ (S 1071 0) * ((S 1008 0) + 1) ≤ 11557 ∧ 0 ≤ r13 ∧ r13 < 647800) ∧ (∀ g161 : sv_S, (sm_pt (g161 68) (g161 69) (g161 70) = sm_pt (S 68) (S 69) (S 70)) → (sv_R (S 1008 0) → (0 ≤ (S 1008 0) ∧ (S 1008 0) < 128) ∧ (∀ r172 : Int, sv_R r172 → (r172 = 0 ∨ r172 = 1) → ((0 ≤ (0 : Int) ∧ (0 : Int) ≤ (S 1008 0) ∧ (r172 = 0 ∨ r172 = 1)) ∧ (∀ l5_173 : Int, sv_R l5_173 → ∀ l6_174 : Int, sv_R l6_174 → (0 ≤ l6_174 ∧ l6_174 ≤ (S 1008 0) ∧ (l5_173 = 0 ∨ l5_173 = 1)) → (0 ≤ (S 1008 0) - l6_174) ∧ ((((S 1008 0) ≤ l6_174) → ((0 ≤ (0 : Int) ∧ (0 : Int) ≤ (S 1071 0) ∧ sm_pt (g161 68) (g161 69) (g161 70) = sm_pt (S 68) (S 69) (S 70)) ∧ (∀ l6_179 : Int, sv_R l6_179 → ∀ g178 : sv_S, (0 ≤ l6_179 ∧ l6_179 ≤ (S 1071 0) ∧ sm_pt (g178 68) (g178 69) (g178 70) = sm_pt (S 68) (S 69) (S 70)) → (0 ≤ (S 1071 0) - l6_179) ∧ (sv_R (S 1071 0) → ((((S 1071 0) ≤ l6_179) → (0 ≤ r13 ∧ r13 < 647800 ∧ 635639 ≤ (647740 : Int) ∧ (647740 : Int) < 647800) ∧ (∀ g187 : sv_S, (sm_pt (g187 68) (g187 69) (g187 70) = sm_pt (g178 68) (g178 69) (g178 70)) → (29 ≤ (S 1071 0) ∧ (S 1071 0) ≤ 127 ∧ 31 ≤ (S 1008 0) ∧ (S 1008 0) ≤ 90 ∧ 1 ≤ (S 1032 0) ∧ (S 1032 0) ≤ 11 ∧ 0 ≤ (S 1055 0) ∧ (S 1055 0) ≤ 19 ∧ (S 1071 0) = 29 + 6 * ((S 1032 0) - 1) + 2 * (S 1055 0) ∧ 0 ≤ (S 1046 0) ∧ (S 1046 0) + 2 * (S 1032 0) ≤ 500 ∧ sm_PD (S 1046 0) (S 1032 0) (S 1071 0) (S 1008 0) ∧ 0 ≤ (S 1071 0) * ((S 1008 0) + 1) ∧ (S 1071 0) * ((S 1008 0) + 1) ≤ 11557 ∧ 31 ≤ (S 1007 0) ∧ (S 1007 0) ≤ 400 ∧ sm_LN (S 4) 400 (S 1007 0) ∧ (S 75 639) = 647340 ∧ sm_ST (S 71) (S 74) (S 75) (S 78) (S 79) (S 80) (S 27) (S 1100007) (S 1100023) (S 1100024) (S 1046 0) ((S 1046 0) + 2 * (S 1032 0)) (S 1127 0) ∧ 465000 ≤ (S 1127 0) ∧ (S 1127 0) + sm_hs (S 71) (S 1100007) ≤ 635000 ∧ sm_NH (S 1100007) ∧ sm_CT (S 26) (S 27) (S 28) (S 29) (S 1100007) (S 1100023) (S 1100024) (S 1100025) (S 21) (S 1046 0) (S 1032 0) (S 1008 0) (S 1055 0) ∧ (∀ k : Int, (S 1046 0) ≤ k → k < ((S 1046 0) + 2 * (S 1032 0)) → (S 1100007 k) = 1) ∧ sm_DR (S 72) (S 71) (S 1046 0) ∧ 0 ≤ (S 74 639) ∧ (S 74 639) ≤ 400 ∧ 0 ≤ (S 78 639) ∧ (S 78 639) ≤ 40 ∧ (S 78 639) = sm_dp (S 1100024) (S 1100031 0) ∧ -1 ≤ (S 1100031 0) ∧ (S 1100031 0) < (S 1046 0) ∧ (0 ≤ (S 1100031 0) → (S 26 (S 1100031 0)) = 27) ∧ sm_TC (S 79) (S 80) (S 27) (S 1100007) (S 1100023) (S 1100024) 25560 (S 1100031 0) ∧ 0 ≤ (S 1148 0) ∧ (S 1148 0) + 1 < (S 1046 0) ∧ 0 ≤ (3 : Int) ∧ (3 : Int) ≤ (S 74 639) ∧ (S 74 639) - (3 : Int) ≤ 399 ∧ 0 ≤ (647740 : Int) ∧ (647740 : Int) < 647800 ∧ (S 1100007 ((S 1148 0) + 1)) = (S 74 639) - (3 : Int) + 1 ∧ (S 1100023 ((S 1148 0) + 1)) = (S 1100031 0)) ∧ (∀ g194 : sv_S, (sm_ST (g194 71) (g194 74) (g194 75) (g194 78) (g194 79) (g194 80) (S 27) (S 1100007) (S 1100023) (S 1100024) (S 1046 0) ((S 1046 0) + 2 * (S 1032 0)) (g194 1127 0) ∧ 465000 ≤ (g194 1127 0) ∧ (g194 1127 0) + sm_hs (g194 71) (S 1100007) ≤ 635000 ∧ (g194 75 639) = 647340 ∧ (∀ k : Int, (S 71 k) = 1 → (g194 71 k) = 1) ∧ sm_DR (g194 72) (g194 71) (S 1046 0) ∧ (641 * (sm_cm (g194 71) + sm_pt (g194 68) (g194 69) (g194 70) + sm_pl (g194 81) (g194 82) (g194 83) (g194 84) (g194 85) (g194 86) + sm_ps (g194 76) (g194 77)) + sm_du (g194 72)) ≤ (641 * (sm_cm (S 71) + sm_pt (g187 68) (g187 69) (g187 70) + sm_pl (S 81) (S 82) (S 83) (S 84) (S 85) (S 86) + sm_ps (S 76) (S 77)) + sm_du (S 72))) → ((((r19 % 4) = (0 : Int)) → (sm_ST (g194 71) (g194 74) (g194 75) (g194 78) (g194 79) (g194 80) (S 27) (S 1100007) (S 1100023) (S 1100024) (S 1046 0) ((S 1046 0) + 2 * (S 1032 0)) (g194 1127 0) ∧ 465000 ≤ (g194 1127 0) ∧ (g194 1127 0) + sm_hs (g194 71) (S 1100007) ≤ 635000 ∧ (g194 75 639) = 647340 ∧ (∀ k : Int, (S 71 k) = 1 → (g194 71 k) = 1) ∧ sm_DR (g194 72) (g194 71) (S 1046 0) ∧ (641 * (sm_cm (g194 71) + sm_pt (g194 68) (g194 69) (g194 70) + sm_pl (g194 81) (g194 82) (g194 83) (g194 84) (g194 85) (g194 86) + sm_ps (g194 76) (g194 77)) + sm_du (g194 72)) ≤ (641 * (sm_cm (S 71) + sm_pt (S 68) (S 69) (S 70) + sm_pl (S 81) (S 82) (S 83) (S 84) (S 85) (S 86) + sm_ps (S 76) (S 77)) + sm_du (S 72)))) ∧ ((¬ ((r19 % 4) = (0 : Int))) → (sv_R (S 1148 0) → (29 ≤ (S 1071 0) ∧ (S 1071 0) ≤ 127 ∧ 31 ≤ (S 1008 0) ∧ (S 1008 0) ≤ 90 ∧ 1 ≤ (S 1032 0) ∧ (S 1032 0) ≤ 11 ∧ 0 ≤ (S 1055 0) ∧ (S 1055 0) ≤ 19 ∧ (S 1071 0) = 29 + 6 * ((S 1032 0) - 1) + 2 * (S 1055 0) ∧ 0 ≤ (S 1046 0) ∧ (S 1046 0) + 2 * (S 1032 0) ≤ 500 ∧ sm_PD (S 1046 0) (S 1032 0) (S 1071 0) (S 1008 0) ∧ 0 ≤ (S 1071 0) * ((S 1008 0) + 1) ∧ (S 1071 0) * ((S 1008 0) + 1) ≤ 11557 ∧ 31 ≤ (S 1007 0) ∧ (S 1007 0) ≤ 400 ∧ sm_LN (S 4) 400 (S 1007 0) ∧ (g194 75 639) = 647340 ∧ sm_ST (g194 71) (g194 74) (g194 75) (g194 78) (g194 79) (g194 80) (S 27) (S 1100007) (S 1100023) (S 1100024) (S 1046 0) ((S 1046 0) + 2 * (S 1032 0)) (g194 1127 0) ∧ 465000 ≤ (g194 1127 0) ∧ (g194 1127 0) + sm_hs (g194 71) (S 1100007) ≤ 635000 ∧ sm_NH (S 1100007) ∧ sm_CT (S 26) (S 27) (S 28) (S 29) (S 1100007) (S 1100023) (S 1100024) (S 1100025) (S 21) (S 1046 0) (S 1032 0) (S 1008 0) (S 1055 0) ∧ (∀ k : Int, (S 1046 0) ≤ k → k < ((S 1046 0) + 2 * (S 1032 0)) → (S 1100007 k) = 1) ∧ sm_DR (g194 72) (g194 71) (S 1046 0) ∧ 0 ≤ (S 1148 0) ∧ (S 1148 0) < (S 1046 0) ∧ (g194 71 (S 1148 0)) = 1 ∧ (S 1148 0) = (S 1148 0) ∧ 6 ≤ (6 : Int) ∧ (6 : Int) ≤ 8) ∧ (∀ g201 : sv_S, (sm_ST (g201 71) (g201 74) (g201 75) (g201 78) (g201 79) (g201 80) (S 27) (S 1100007) (S 1100023) (S 1100024) (S 1046 0) ((S 1046 0) + 2 * (S 1032 0)) (g201 1127 0) ∧ 465000 ≤ (g201 1127 0) ∧ (g201 1127 0) + sm_hs (g201 71) (S 1100007) ≤ 635000 ∧ (g201 75 639) = 647340 ∧ (∀ k : Int, (g194 71 k) = 1 → (g201 71 k) = 1) ∧ sm_DR (g201 72) (g201 71) (S 1046 0) ∧ (641 * (sm_cm (g201 71) + sm_pt (g201 68) (g201 69) (g201 70) + sm_pl (g201 81) (g201 82) (g201 83) (g201 84) (g201 85) (g201 86) + sm_ps (g201 76) (g201 77)) + sm_du (g201 72)) ≤ (641 * (sm_cm (g194 71) + sm_pt (g194 68) (g194 69) (g194 70) + sm_pl (g194 81) (g194 82) (g194 83) (g194 84) (g194 85) (g194 86) + sm_ps (g194 76) (g194 77)) + sm_du (g194 72))) → (sm_ST (g201 71) (g201 74) (g201 75) (g201 78) (g201 79) (g201 80) (S 27) (S 1100007) (S 1100023) (S 1100024) (S 1046 0) ((S 1046 0) + 2 * (S 1032 0)) (g201 1127 0) ∧ 465000 ≤ (g201 1127 0) ∧ (g201 1127 0) + sm_hs (g201 71) (S 1100007) ≤ 635000 ∧ (g201 75 639) = 647340 ∧ (∀ k : Int, (S 71 k) = 1 → (g201 71 k) = 1) ∧ sm_DR (g201 72) (g201 71) (S 1046 0) ∧ (641 * (sm_cm (g201 71) + sm_pt (g201 68) (g201 69) (g201 70) + sm_pl (g201 81) (g201 82) (g201 83) (g201 84) (g201 85) (g201 86) + sm_ps (g201 76) (g201 77)) + sm_du (g201 72)) ≤ (641 * (sm_cm (S 71) + sm_pt (S 68) (S 69) (S 70) + sm_pl (S 81) (S 82) (S 83) (S 84) (S 85) (S 86) + sm_ps (S 76) (S 77)) + sm_du (S 72)))))))))) ∧ ((¬ ((S 1071 0) ≤ l6_179)) → (((l5_173 = (0 : Int)) → (0 ≤ r13 ∧ r13 < 647800 ∧ 635639 ≤ (647740 : Int) ∧ (647740 : Int) < 647800) ∧ (∀ g207 : sv_S, (sm_pt (g207 68) (g207 69) (g207 70) = sm_pt (g178 68) (g178 69) (g178 70)) → (29 ≤ (S 1071 0) ∧ (S 1071 0) ≤ 127 ∧ 31 ≤ (S 1008 0) ∧ (S 1008 0) ≤ 90 ∧ 1 ≤ (S 1032 0) ∧ (S 1032 0) ≤ 11 ∧ 0 ≤ (S 1055 0) ∧ (S 1055 0) ≤ 19 ∧ (S 1071 0) = 29 + 6 * ((S 1032 0) - 1) + 2 * (S 1055 0) ∧ 0 ≤ (S 1046 0) ∧ (S 1046 0) + 2 * (S 1032 0) ≤ 500 ∧ sm_PD (S 1046 0) (S 1032 0) (S 1071 0) (S 1008 0) ∧ 0 ≤ (S 1071 0) * ((S 1008 0) + 1) ∧ (S 1071 0) * ((S 1008 0) + 1) ≤ 11557 ∧ 31 ≤ (S 1007 0) ∧ (S 1007 0) ≤ 400 ∧ sm_LN (S 4) 400 (S 1007 0) ∧ (S 75 639) = 647340 ∧ sm_ST (S 71) (S 74) (S 75) (S 78) (S 79) (S 80) (S 27) (S 1100007) (S 1100023) (S 1100024) (S 1046 0) ((S 1046 0) + 2 * (S 1032 0)) (S 1127 0) ∧ 465000 ≤ (S 1127 0) ∧ (S 1127 0) + sm_hs (S 71) (S 1100007) ≤ 635000 ∧ sm_NH (S 1100007) ∧ sm_CT (S 26) (S 27) (S 28) (S 29) (S 1100007) (S 1100023) (S 1100024) (S 1100025) (S 21) (S 1046 0) (S 1032 0) (S 1008 0) (S 1055 0) ∧ (∀ k : Int, (S 1046 0) ≤ k → k < ((S 1046 0) + 2 * (S 1032 0)) → (S 1100007 k) = 1) ∧ sm_DR (S 72) (S 71) (S 1046 0) ∧ 0 ≤ (S 74 639) ∧ (S 74 639) ≤ 400 ∧ 0 ≤ (S 78 639) ∧ (S 78 639) ≤ 40 ∧ (S 78 639) = sm_dp (S 1100024) (S 1100031 0) ∧ -1 ≤ (S 1100031 0) ∧ (S 1100031 0) < (S 1046 0) ∧ (0 ≤ (S 1100031 0) → (S 26 (S 1100031 0)) = 27) ∧ sm_TC (S 79) (S 80) (S 27) (S 1100007) (S 1100023) (S 1100024) 25560 (S 1100031 0) ∧ 0 ≤ (S 1148 0) ∧ (S 1148 0) + 1 < (S 1046 0) ∧ 0 ≤ (3 : Int) ∧ (3 : Int) ≤ (S 74 639) ∧ (S 74 639) - (3 : Int) ≤ 399 ∧ 0 ≤ (647740 : Int) ∧ (647740 : Int) < 647800 ∧ (S 1100007 ((S 1148 0) + 1)) = (S 74 639) - (3 : Int) + 1 ∧ (S 1100023 ((S 1148 0) + 1)) = (S 1100031 0)) ∧ (∀ g214 : sv_S, (sm_ST (g214 71) (g214 74) (g214 75) (g214 78) (g214 79) (g214 80) (S 27) (S 1100007) (S 1100023) (S 1100024) (S 1046 0) ((S 1046 0) + 2 * (S 1032 0)) (g214 1127 0) ∧ 465000 ≤ (g214 1127 0) ∧ (g214 1127 0) + sm_hs (g214 71) (S 1100007) ≤ 635000 ∧ (g214 75 639) = 647340 ∧ (∀ k : Int, (S 71 k) = 1 → (g214 71 k) = 1) ∧ sm_DR (g214 72) (g214 71) (S 1046 0) ∧ (641 * (sm_cm (g214 71) + sm_pt (g214 68) (g214 69) (g214 70) + sm_pl (g214 81) (g214 82) (g214 83) (g214 84) (g214 85) (g214 86) + sm_ps (g214 76) (g214 77)) + sm_du (g214 72)) ≤ (641 * (sm_cm (S 71) + sm_pt (g207 68) (g207 69) (g207 70) + sm_pl (S 81) (S 82) (S 83) (S 84) (S 85) (S 86) + sm_ps (S 76) (S 77)) + sm_du (S 72))) → ((((r19 % 4) = (0 : Int)) → (sm_ST (g214 71) (g214 74) (g214 75) (g214 78) (g214 79) (g214 80) (S 27) (S 1100007) (S 1100023) (S 1100024) (S 1046 0) ((S 1046 0) + 2 * (S 1032 0)) (g214 1127 0) ∧ 465000 ≤ (g214 1127 0) ∧ (g214 1127 0) + sm_hs (g214 71) (S 1100007) ≤ 635000 ∧ (g214 75 639) = 647340 ∧ (∀ k : Int, (S 71 k) = 1 → (g214 71 k) = 1) ∧ sm_DR (g214 72) (g214 71) (S 1046 0) ∧ (641 * (sm_cm (g214 71) + sm_pt (g214 68) (g214 69) (g214 70) + sm_pl (g214 81) (g214 82) (g214 83) (g214 84) (g214 85) (g214 86) + sm_ps (g214 76) (g214 77)) + sm_du (g214 72)) ≤ (641 * (sm_cm (S 71) + sm_pt (S 68) (S 69) (S 70) + sm_pl (S 81) (S 82) (S 83) (S 84) (S 85) (S 86) + sm_ps (S 76) (S 77)) + sm_du (S 72)))) ∧ ((¬ ((r19 % 4) = (0 : Int))) → (sv_R (S 1148 0) → (29 ≤ (S 1071 0) ∧ (S 1071 0) ≤ 127 ∧ 31 ≤ (S 1008 0) ∧ (S 1008 0) ≤ 90 ∧ 1 ≤ (S 1032 0) ∧ (S 1032 0) ≤ 11 ∧ 0 ≤ (S 1055 0) ∧ (S 1055 0) ≤ 19 ∧ (S 1071 0) = 29 + 6 * ((S 1032 0) - 1) + 2 * (S 1055 0) ∧ 0 ≤ (S 1046 0) ∧ (S 1046 0) + 2 * (S 1032 0) ≤ 500 ∧ sm_PD (S 1046 0) (S 1032 0) (S 1071 0) (S 1008 0) ∧ 0 ≤ (S 1071 0) * ((S 1008 0) + 1) ∧ (S 1071 0) * ((S 1008 0) + 1) ≤ 11557 ∧ 31 ≤ (S 1007 0) ∧ (S 1007 0) ≤ 400 ∧ sm_LN (S 4) 400 (S 1007 0) ∧ (g214 75 639) = 647340 ∧ sm_ST (g214 71) (g214 74) (g214 75) (g214 78) (g214 79) (g214 80) (S 27) (S 1100007) (S 1100023) (S 1100024) (S 1046 0) ((S 1046 0) + 2 * (S 1032 0)) (g214 1127 0) ∧ 465000 ≤ (g214 1127 0) ∧ (g214 1127 0) + sm_hs (g214 71) (S 1100007) ≤ 635000 ∧ sm_NH (S 1100007) ∧ sm_CT (S 26) (S 27) (S 28) (S 29) (S 1100007) (S 1100023) (S 1100024) (S 1100025) (S 21) (S 1046 0) (S 1032 0) (S 1008 0) (S 1055 0) ∧ (∀ k : Int, (S 1046 0) ≤ k → k < ((S 1046 0) + 2 * (S 1032 0)) → (S 1100007 k) = 1) ∧ sm_DR (g214 72) (g214 71) (S 1046 0) ∧ 0 ≤ (S 1148 0) ∧ (S 1148 0) < (S 1046 0) ∧ (g214 71 (S 1148 0)) = 1 ∧ (S 1148 0) = (S 1148 0) ∧ 6 ≤ (6 : Int) ∧ (6 : Int) ≤ 8) ∧ (∀ g221 : sv_S, (sm_ST (g221 71) (g221 74) (g221 75) (g221 78) (g221 79) (g221 80) (S 27) (S 1100007) (S 1100023) (S 1100024) (S 1046 0) ((S 1046 0) + 2 * (S 1032 0)) (g221 1127 0) ∧ 465000 ≤ (g221 1127 0) ∧ (g221 1127 0) + sm_hs (g221 71) (S 1100007) ≤ 635000 ∧ (g221 75 639) = 647340 ∧ (∀ k : Int, (g214 71 k) = 1 → (g221 71 k) = 1) ∧ sm_DR (g221 72) (g221 71) (S 1046 0) ∧ (641 * (sm_cm (g221 71) + sm_pt (g221 68) (g221 69) (g221 70) + sm_pl (g221 81) (g221 82) (g221 83) (g221 84) (g221 85) (g221 86) + sm_ps (g221 76) (g221 77)) + sm_du (g221 72)) ≤ (641 * (sm_cm (g214 71) + sm_pt (g214 68) (g214 69) (g214 70) + sm_pl (g214 81) (g214 82) (g214 83) (g214 84) (g214 85) (g214 86) + sm_ps (g214 76) (g214 77)) + sm_du (g214 72))) → (sm_ST (g221 71) (g221 74) (g221 75) (g221 78) (g221 79) (g221 80) (S 27) (S 1100007) (S 1100023) (S 1100024) (S 1046 0) ((S 1046 0) + 2 * (S 1032 0)) (g221 1127 0) ∧ 465000 ≤ (g221 1127 0) ∧ (g221 1127 0) + sm_hs (g221 71) (S 1100007) ≤ 635000 ∧ (g221 75 639) = 647340 ∧ (∀ k : Int, (S 71 k) = 1 → (g221 71 k) = 1) ∧ sm_DR (g221 72) (g221 71) (S 1046 0) ∧ (641 * (sm_cm (g221 71) + sm_pt (g221 68) (g221 69) (g221 70) + sm_pl (g221 81) (g221 82) (g221 83) (g221 84) (g221 85) (g221 86) + sm_ps (g221 76) (g221 77)) + sm_du (g221 72)) ≤ (641 * (sm_cm (S 71) + sm_pt (S 68) (S 69) (S 70) + sm_pl (S 81) (S 82) (S 83) (S 84) (S 85) (S 86) + sm_ps (S 76) (S 77)) + sm_du (S 72)))))))))) ∧ ((¬ (l5_173 = (0 : Int))) → (sv_RL (g178 69 r7) → (sv_RL (g178 70 r7) → (0 ≤ l6_179 ∧ l6_179 < 128) ∧ (∀ r233 : Int, sv_R r233 → (r233 = sm_in (g178 69 r7) (g178 70 r7) l6_179 ∧ (r233 = 0 ∨ r233 = 1)) → (((r233 = (0 : Int)) → (sv_R (l6_179 + (1 : Int))) ∧ ((0 ≤ (l6_179 + (1 : Int)) ∧ (l6_179 + (1 : Int)) ≤ (S 1071 0) ∧ sm_pt (g178 68) (g178 69) (g178 70) = sm_pt (S 68) (S 69) (S 70)) ∧ ((S 1071 0) - (l6_179 + (1 : Int))) < ((S 1071 0) - l6_179))) ∧ ((¬ (r233 = (0 : Int))) → (29 ≤ (S 1071 0) ∧ (S 1071 0) ≤ 127 ∧ 31 ≤ (S 1008 0) ∧ (S 1008 0) ≤ 90 ∧ 1 ≤ (S 1032 0) ∧ (S 1032 0) ≤ 11 ∧ 0 ≤ (S 1055 0) ∧ (S 1055 0) ≤ 19 ∧ (S 1071 0) = 29 + 6 * ((S 1032 0) - 1) + 2 * (S 1055 0) ∧ 0 ≤ (S 1046 0) ∧ (S 1046 0) + 2 * (S 1032 0) ≤ 500 ∧ sm_PD (S 1046 0) (S 1032 0) (S 1071 0) (S 1008 0) ∧ 0 ≤ (S 1071 0) * ((S 1008 0) + 1) ∧ (S 1071 0) * ((S 1008 0) + 1) ≤ 11557 ∧ 0 ≤ l6_179 ∧ l6_179 < (S 1071 0)) ∧ (∀ r240 : Int, sv_R r240 → (r240 = 0 ∨ r240 = 1) → (((r240 = (0 : Int)) → (sv_R (l6_179 + (1 : Int))) ∧ ((0 ≤ (l6_179 + (1 : Int)) ∧ (l6_179 + (1 : Int)) ≤ (S 1071 0) ∧ sm_pt (g178 68) (g178 69) (g178 70) = sm_pt (S 68) (S 69) (S 70)) ∧ ((S 1071 0) - (l6_179 + (1 : Int))) < ((S 1071 0) - l6_179))) ∧ ((¬ (r240 = (0 : Int))) → (29 ≤ (S 1071 0) ∧ (S 1071 0) ≤ 127 ∧ 31 ≤ (S 1008 0) ∧ (S 1008 0) ≤ 90 ∧ 1 ≤ (S 1032 0) ∧ (S 1032 0) ≤ 11 ∧ 0 ≤ (S 1055 0) ∧ (S 1055 0) ≤ 19 ∧ (S 1071 0) = 29 + 6 * ((S 1032 0) - 1) + 2 * (S 1055 0) ∧ 0 ≤ (S 1046 0) ∧ (S 1046 0) + 2 * (S 1032 0) ≤ 500 ∧ sm_PD (S 1046 0) (S 1032 0) (S 1071 0) (S 1008 0) ∧ 0 ≤ (S 1071 0) * ((S 1008 0) + 1) ∧ (S 1071 0) * ((S 1008 0) + 1) ≤ 11557 ∧ 0 ≤ (639 : Int) ∧ ((639 : Int) = 639 ∨ (639 : Int) < (S 1046 0) + 2 * (S 1032 0)) ∧ 0 ≤ l6_179 ∧ (l6_179 < (S 1071 0) ∨ ((639 : Int) = 639 ∧ l6_179 < 128))) ∧ (∀ r247 : Int, sv_R r247 → (((639 : Int) = 639 → r247 = 15000 + l6_179) ∧ (¬ (639 : Int) = 639 → 0 ≤ r247 ∧ r247 < 14520)) → (0 ≤ r247 ∧ r247 < 15128) ∧ ((0 ≤ (S 81 r247) ∧ (S 81 r247) ≤ 1) → ((((S 81 r247) = (0 : Int)) → (sv_R (l6_179 + (1 : Int))) ∧ ((0 ≤ (l6_179 + (1 : Int)) ∧ (l6_179 + (1 : Int)) ≤ (S 1071 0) ∧ sm_pt (g178 68) (g178 69) (g178 70) = sm_pt (S 68) (S 69) (S 70)) ∧ ((S 1071 0) - (l6_179 + (1 : Int))) < ((S 1071 0) - l6_179))) ∧ ((¬ ((S 81 r247) = (0 : Int))) → (29 ≤ (S 1071 0) ∧ (S 1071 0) ≤ 127 ∧ 31 ≤ (S 1008 0) ∧ (S 1008 0) ≤ 90 ∧ 1 ≤ (S 1032 0) ∧ (S 1032 0) ≤ 11 ∧ 0 ≤ (S 1055 0) ∧ (S 1055 0) ≤ 19 ∧ (S 1071 0) = 29 + 6 * ((S 1032 0) - 1) + 2 * (S 1055 0) ∧ 0 ≤ (S 1046 0) ∧ (S 1046 0) + 2 * (S 1032 0) ≤ 500 ∧ sm_PD (S 1046 0) (S 1032 0) (S 1071 0) (S 1008 0) ∧ 0 ≤ (S 1071 0) * ((S 1008 0) + 1) ∧ (S 1071 0) * ((S 1008 0) + 1) ≤ 11557 ∧ 0 ≤ (639 : Int) ∧ ((639 : Int) = 639 ∨ (639 : Int) < (S 1046 0) + 2 * (S 1032 0)) ∧ 0 ≤ l6_179 ∧ (l6_179 < (S 1071 0) ∨ ((639 : Int) = 639 ∧ l6_179 < 128)) ∧ 0 ≤ (0 : Int) ∧ (0 : Int) ≤ (S 1008 0)) ∧ (∀ r256 : Int, sv_R r256 → (((639 : Int) = 639 → 635640 ≤ r256 ∧ r256 < 647340) ∧ (¬ (639 : Int) = 639 → 0 ≤ r256 ∧ r256 < 464520)) → (635639 ≤ r256 ∧ r256 < 647790) ∧ (∀ g258 : sv_S, (sm_pt (g258 68) (g258 69) (g258 70) = sm_pt (g178 68) (g178 69) (g178 70)) → (sv_R (l6_179 + (1 : Int))) ∧ ((0 ≤ (l6_179 + (1 : Int)) ∧ (l6_179 + (1 : Int)) ≤ (S 1071 0) ∧ sm_pt (g258 68) (g258 69) (g258 70) = sm_pt (S 68) (S 69) (S 70)) ∧ ((S 1071 0) - (l6_179 + (1 : Int))) < ((S 1071 0) - l6_179)))))))))))))))))))))))) ∧ ((¬ ((S 1008 0) ≤ l6_174)) → ((∀ s265 : Int, sv_R s265 → (s265 = 0 ∨ s265 = 1) → (sv_R (l6_174 + (1 : Int))) ∧ ((0 ≤ (l6_174 + (1 : Int)) ∧ (l6_174 + (1 : Int)) ≤ (S 1008 0) ∧ (s265 = 0 ∨ s265 = 1)) ∧ ((S 1008 0) - (l6_174 + (1 : Int))) < ((S 1008 0) - l6_174))) ∧ (((¬ l5_173 = (0 : Int)) → ((1 : Int) = 0 ∨ (1 : Int) = 1)) ∧ ((¬ (¬ l5_173 = (0 : Int))) → (0 ≤ l6_174 ∧ l6_174 < 128) ∧ (∀ r274 : Int, sv_R r274 → (r274 = 0 ∨ r274 = 1) → (((r274 = (0 : Int)) → ((0 : Int) = 0 ∨ (0 : Int) = 1)) ∧ ((¬ (r274 = (0 : Int))) → (0 ≤ l6_174 ∧ l6_174 < 90) ∧ ((0 ≤ (S 88 l6_174) ∧ (S 88 l6_174) ≤ 1) → ((((S 88 l6_174) = (0 : Int)) → ((0 : Int) = 0 ∨ (0 : Int) = 1)) ∧ ((¬ ((S 88 l6_174) = (0 : Int))) → ((1 : Int) = 0 ∨ (1 : Int) = 1)))))))))))))))))))))))) ∧ (∀ r278 : Int, sv_R r278 → (((¬ r278 = (0 : Int)) → ((1 : Int) = 0 ∨ (1 : Int) = 1)) ∧ ((¬ (¬ r278 = (0 : Int))) → (∀ r283 : Int, sv_R r283 → (r283 = 0 ∨ r283 = 1) → (((r283 = (0 : Int)) → ((0 : Int) = 0 ∨ (0 : Int) = 1)) ∧ ((¬ (r283 = (0 : Int))) → ((1 : Int) = 0 ∨ (1 : Int) = 1)))))))))))))) := by
  intro S
  intro h1_
  rintro ⟨h2_, ⟨h3_, ⟨h4_, ⟨h5_, ⟨h6_, ⟨h7_, ⟨h8_, ⟨h9_, ⟨h10_, ⟨h11_, ⟨h12_, ⟨h13_, ⟨h14_, ⟨h15_, ⟨h16_, ⟨h17_, ⟨h18_, ⟨h19_, ⟨h20_, ⟨h21_, ⟨h22_, ⟨h23_, ⟨h24_, ⟨h25_, ⟨h26_, ⟨h27_, ⟨h28_, ⟨h29_, ⟨h30_, ⟨h31_, ⟨h32_, ⟨h33_, ⟨h34_, ⟨h35_, ⟨h36_, ⟨h37_, ⟨h38_, ⟨h39_, ⟨h40_, ⟨h41_, ⟨h42_, ⟨h43_, h44_⟩⟩⟩⟩⟩⟩⟩⟩⟩⟩⟩⟩⟩⟩⟩⟩⟩⟩⟩⟩⟩⟩⟩⟩⟩⟩⟩⟩⟩⟩⟩⟩⟩⟩⟩⟩⟩⟩⟩⟩⟩⟩
  intro h45_
  have h46_ := (h45_ h24_)
  have h47_ := (h46_ h36_)
  obtain ⟨h48_, ⟨h49_, ⟨h50_, h51_⟩⟩⟩ := (h47_ h37_)
  refine ⟨(la_waysOfPut_0 h19_ h39_ h41_ h49_), ?_⟩
  intro r7
  intro h52_
  intro h53_
  refine ⟨(la_waysOfPut_1 h19_ h39_ h41_ h49_), ?_⟩
  intro r13
  intro h54_
  intro h55_
  refine ⟨(la_waysOfPut_2 h27_ h28_ h53_), ?_⟩
  intro r19
  intro h56_
  intro h57_
  refine ⟨(la_waysOfPut_3 h19_ h39_ h41_ h49_), ?_⟩
  intro r25
  intro h58_
  intro h59_
  refine ⟨⟨h16_, ⟨h17_, ⟨h18_, ⟨(la_waysOfPut_4 h27_ h59_), ⟨(la_waysOfPut_5 h28_ h59_), ⟨h2_, ⟨h3_, ⟨h4_, ⟨h5_, ⟨h6_, ⟨h7_, ⟨h8_, ⟨h9_, ⟨h10_, ⟨h11_, ⟨h12_, ⟨h13_, (la_waysOfPut_6 h14_ h15_)⟩⟩⟩⟩⟩⟩⟩⟩⟩⟩⟩⟩⟩⟩⟩⟩⟩, ?_⟩
  intro g27
  intro _
  refine ⟨?_, ?_⟩
  · skip
    intro s32
    intro h60_
    intro h61_
    refine ⟨?_, ?_⟩
    · skip
      intro h62_
      have h63_ := (h61_.resolve_right (la_waysOfPut_7 h62_))
      refine ⟨?_, ?_⟩
      · skip
        intro h64_
        refine ⟨h20_, ?_⟩
        refine ⟨h21_, ?_⟩
        refine ⟨h22_, ?_⟩
        refine ⟨h19_, ?_⟩
        refine ⟨?_, ?_⟩
        · skip
          intro k
          intro h65_
          exact h65_
        refine ⟨h26_, ?_⟩
        exact la_waysOfPut_8
      intro h66_
      intro h67_
      refine ⟨⟨h2_, ⟨h3_, ⟨h4_, ⟨h5_, ⟨h6_, ⟨h7_, ⟨h8_, ⟨h9_, ⟨h10_, ⟨h11_, ⟨h12_, ⟨h13_, ⟨h14_, ⟨h15_, ⟨h16_, ⟨h17_, ⟨h18_, ⟨h19_, ⟨h20_, ⟨h21_, ⟨h22_, ⟨h23_, ⟨h24_, ⟨h25_, ⟨h26_, (la_waysOfPut_11 h36_ h38_ h42_)⟩⟩⟩⟩⟩⟩⟩⟩⟩⟩⟩⟩⟩⟩⟩⟩⟩⟩⟩⟩⟩⟩⟩⟩⟩, ?_⟩
      intro g36
      rintro ⟨h68_, ⟨h69_, ⟨h70_, ⟨h71_, ⟨h72_, ⟨h73_, h74_⟩⟩⟩⟩⟩⟩
      refine ⟨h68_, ?_⟩
      refine ⟨h69_, ?_⟩
      refine ⟨h70_, ?_⟩
      refine ⟨h71_, ?_⟩
      refine ⟨h72_, ?_⟩
      refine ⟨h73_, ?_⟩
      exact h74_
    intro h75_
    have h76_ := (h61_.resolve_left h75_)
    intro h77_
    intro h78_
    refine ⟨?_, ?_⟩
    · skip
      intro h79_
      refine ⟨⟨h2_, ⟨h3_, ⟨h4_, ⟨h5_, ⟨h6_, ⟨h7_, ⟨h8_, ⟨h9_, ⟨h10_, ⟨h11_, ⟨h12_, ⟨h13_, (la_waysOfPut_14 h14_ h15_ h27_ h28_ h55_)⟩⟩⟩⟩⟩⟩⟩⟩⟩⟩⟩⟩, ?_⟩
      intro g44
      intro h80_
      intro h81_
      refine ⟨(la_waysOfPut_15 h4_ h5_), ?_⟩
      intro r55
      intro h82_
      intro h83_
      refine ⟨⟨la_waysOfPut_16, ⟨(la_waysOfPut_17 h4_), h83_⟩⟩, ?_⟩
      intro l5_56
      intro h84_
      intro l6_57
      intro h85_
      rintro ⟨h86_, ⟨h87_, h88_⟩⟩
      refine ⟨(la_waysOfPut_18 h87_), ?_⟩
      refine ⟨?_, ?_⟩
      · skip
        intro h89_
        refine ⟨(la_waysOfPut_19 h2_ h80_), ?_⟩
        intro l6_62
        intro h90_
        intro g61
        rintro ⟨h91_, ⟨h92_, h93_⟩⟩
        refine ⟨(la_waysOfPut_18 h92_), ?_⟩
        intro h94_
        refine ⟨?_, ?_⟩
        · skip
          intro h95_
          refine ⟨(la_waysOfPut_20 h27_ h28_ h55_), ?_⟩
          intro g70
          intro h96_
          refine ⟨⟨h2_, ⟨h3_, ⟨h4_, ⟨h5_, ⟨h6_, ⟨h7_, ⟨h8_, ⟨h9_, ⟨h10_, ⟨h11_, ⟨h12_, ⟨h13_, ⟨h14_, ⟨h15_, ⟨h16_, ⟨h17_, ⟨h18_, ⟨h19_, ⟨h20_, ⟨h21_, ⟨h22_, ⟨h23_, ⟨h24_, ⟨h25_, ⟨h26_, ⟨h27_, ⟨h28_, ⟨h29_, ⟨h30_, ⟨h31_, ⟨h32_, ⟨h33_, ⟨h34_, ⟨h35_, (la_waysOfPut_21 h36_ h39_ h40_ h41_ h42_ h43_ h44_ h49_)⟩⟩⟩⟩⟩⟩⟩⟩⟩⟩⟩⟩⟩⟩⟩⟩⟩⟩⟩⟩⟩⟩⟩⟩⟩⟩⟩⟩⟩⟩⟩⟩⟩⟩, ?_⟩
          intro g77
          rintro ⟨h97_, ⟨h98_, ⟨h99_, ⟨h100_, ⟨h101_, ⟨h102_, h103_⟩⟩⟩⟩⟩⟩
          refine ⟨?_, ?_⟩
          · skip
            intro h104_
            refine ⟨h97_, ?_⟩
            refine ⟨h98_, ?_⟩
            refine ⟨h99_, ?_⟩
            refine ⟨h100_, ?_⟩
            refine ⟨h101_, ?_⟩
            refine ⟨h102_, ?_⟩
            exact (la_waysOfPut_22 h93_ h96_ h103_)
          intro h105_
          intro h106_
          refine ⟨?_, ?_⟩
          · skip
            refine ⟨h2_, ?_⟩
            refine ⟨h3_, ?_⟩
            refine ⟨h4_, ?_⟩
            refine ⟨h5_, ?_⟩
            refine ⟨h6_, ?_⟩
            refine ⟨h7_, ?_⟩
            refine ⟨h8_, ?_⟩
            refine ⟨h9_, ?_⟩
            refine ⟨h10_, ?_⟩
            refine ⟨h11_, ?_⟩
            refine ⟨h12_, ?_⟩
            refine ⟨h13_, ?_⟩
            refine ⟨h14_, ?_⟩
            refine ⟨h15_, ?_⟩
            refine ⟨h16_, ?_⟩
            refine ⟨h17_, ?_⟩
            refine ⟨h18_, ?_⟩
            refine ⟨h100_, ?_⟩
            refine ⟨h97_, ?_⟩
            refine ⟨h98_, ?_⟩
            refine ⟨h99_, ?_⟩
            refine ⟨h23_, ?_⟩
            refine ⟨h24_, ?_⟩
            refine ⟨h25_, ?_⟩
            refine ⟨h102_, ?_⟩
            refine ⟨h36_, ?_⟩
            refine ⟨h37_, ?_⟩
            refine ⟨?_, ?_⟩
            · skip
              have h107_ := (h25_ (S 1148 0))
              have h108_ := (h25_ (S 1148 0 + 1))
              have h109_ := ((h101_ (S 1148 0)) h38_)
              exact h109_
            refine ⟨la_waysOfPut_25, ?_⟩
            refine ⟨la_waysOfPut_26, ?_⟩
            exact la_waysOfPut_27
          intro g84
          rintro ⟨h110_, ⟨h111_, ⟨h112_, ⟨h113_, ⟨h114_, ⟨h115_, h116_⟩⟩⟩⟩⟩⟩
          refine ⟨h110_, ?_⟩
          refine ⟨h111_, ?_⟩
          refine ⟨h112_, ?_⟩
          refine ⟨h113_, ?_⟩
          refine ⟨?_, ?_⟩
          · skip
            intro kv1
            intro h117_
            have h118_ := (h25_ (S 1148 0))
            have h119_ := (h25_ (S 1148 0 + 1))
            have h120_ := ((h101_ kv1) h117_)
            have h121_ := ((h101_ (S 1148 0)) h38_)
            have h122_ := ((h114_ kv1) h120_)
            have h123_ := ((h114_ (S 1148 0)) h121_)
            exact h122_
          refine ⟨h115_, ?_⟩
          exact (la_waysOfPut_28 h93_ h96_ h103_ h116_)
        intro h124_
        refine ⟨?_, ?_⟩
        · skip
          intro h125_
          have h126_ := (h88_.resolve_right (la_waysOfPut_7 h125_))
          refine ⟨(la_waysOfPut_20 h27_ h28_ h55_), ?_⟩
          intro g90
          intro h127_
          refine ⟨⟨h2_, ⟨h3_, ⟨h4_, ⟨h5_, ⟨h6_, ⟨h7_, ⟨h8_, ⟨h9_, ⟨h10_, ⟨h11_, ⟨h12_, ⟨h13_, ⟨h14_, ⟨h15_, ⟨h16_, ⟨h17_, ⟨h18_, ⟨h19_, ⟨h20_, ⟨h21_, ⟨h22_, ⟨h23_, ⟨h24_, ⟨h25_, ⟨h26_, ⟨h27_, ⟨h28_, ⟨h29_, ⟨h30_, ⟨h31_, ⟨h32_, ⟨h33_, ⟨h34_, ⟨h35_, (la_waysOfPut_21 h36_ h39_ h40_ h41_ h42_ h43_ h44_ h49_)⟩⟩⟩⟩⟩⟩⟩⟩⟩⟩⟩⟩⟩⟩⟩⟩⟩⟩⟩⟩⟩⟩⟩⟩⟩⟩⟩⟩⟩⟩⟩⟩⟩⟩, ?_⟩
          intro g97
          rintro ⟨h128_, ⟨h129_, ⟨h130_, ⟨h131_, ⟨h132_, ⟨h133_, h134_⟩⟩⟩⟩⟩⟩
          refine ⟨?_, ?_⟩
          · skip
            intro h135_
            refine ⟨h128_, ?_⟩
            refine ⟨h129_, ?_⟩
            refine ⟨h130_, ?_⟩
            refine ⟨h131_, ?_⟩
            refine ⟨h132_, ?_⟩
            refine ⟨h133_, ?_⟩
            exact (la_waysOfPut_22 h93_ h127_ h134_)
          intro h136_
          intro h137_
          refine ⟨?_, ?_⟩
          · skip
            refine ⟨h2_, ?_⟩
            refine ⟨h3_, ?_⟩
            refine ⟨h4_, ?_⟩
            refine ⟨h5_, ?_⟩
            refine ⟨h6_, ?_⟩
            refine ⟨h7_, ?_⟩
            refine ⟨h8_, ?_⟩
            refine ⟨h9_, ?_⟩
            refine ⟨h10_, ?_⟩
            refine ⟨h11_, ?_⟩
            refine ⟨h12_, ?_⟩
            refine ⟨h13_, ?_⟩
            refine ⟨h14_, ?_⟩
            refine ⟨h15_, ?_⟩
            refine ⟨h16_, ?_⟩
            refine ⟨h17_, ?_⟩
            refine ⟨h18_, ?_⟩
            refine ⟨h131_, ?_⟩
            refine ⟨h128_, ?_⟩
            refine ⟨h129_, ?_⟩
            refine ⟨h130_, ?_⟩
            refine ⟨h23_, ?_⟩
            refine ⟨h24_, ?_⟩
            refine ⟨h25_, ?_⟩
            refine ⟨h133_, ?_⟩
            refine ⟨h36_, ?_⟩
            refine ⟨h37_, ?_⟩
            refine ⟨?_, ?_⟩
            · skip
              have h138_ := (h25_ (S 1148 0))
              have h139_ := (h25_ (S 1148 0 + 1))
              have h140_ := ((h132_ (S 1148 0)) h38_)
              exact h140_
            refine ⟨la_waysOfPut_25, ?_⟩
            refine ⟨la_waysOfPut_26, ?_⟩
            exact la_waysOfPut_27
          intro g104
          rintro ⟨h141_, ⟨h142_, ⟨h143_, ⟨h144_, ⟨h145_, ⟨h146_, h147_⟩⟩⟩⟩⟩⟩
          refine ⟨h141_, ?_⟩
          refine ⟨h142_, ?_⟩
          refine ⟨h143_, ?_⟩
          refine ⟨h144_, ?_⟩
          refine ⟨?_, ?_⟩
          · skip
            intro kv2
            intro h148_
            have h149_ := (h25_ (S 1148 0))
            have h150_ := (h25_ (S 1148 0 + 1))
            have h151_ := ((h132_ kv2) h148_)
            have h152_ := ((h132_ (S 1148 0)) h38_)
            have h153_ := ((h145_ kv2) h151_)
            have h154_ := ((h145_ (S 1148 0)) h152_)
            exact h153_
          refine ⟨h146_, ?_⟩
          exact (la_waysOfPut_28 h93_ h127_ h134_ h147_)
        intro h155_
        have h156_ := (h88_.resolve_left h155_)
        intro h157_
        intro h158_
        refine ⟨(la_waysOfPut_29 h3_ h91_ h124_), ?_⟩
        intro r116
        intro h159_
        rintro ⟨h160_, h161_⟩
        refine ⟨(la_waysOfPut_30 h3_ h91_ h93_ h124_), ?_⟩
        intro h162_
        have h163_ := (h161_.resolve_left h162_)
        refine ⟨⟨h2_, ⟨h3_, ⟨h4_, ⟨h5_, ⟨h6_, ⟨h7_, ⟨h8_, ⟨h9_, ⟨h10_, ⟨h11_, ⟨h12_, ⟨h13_, (la_waysOfPut_31 h14_ h15_ h91_ h124_)⟩⟩⟩⟩⟩⟩⟩⟩⟩⟩⟩⟩, ?_⟩
        intro r123
        intro h164_
        intro h165_
        refine ⟨(la_waysOfPut_30 h3_ h91_ h93_ h124_), ?_⟩
        intro h166_
        have h167_ := (h165_.resolve_left h166_)
        refine ⟨⟨h2_, ⟨h3_, ⟨h4_, ⟨h5_, ⟨h6_, ⟨h7_, ⟨h8_, ⟨h9_, ⟨h10_, ⟨h11_, ⟨h12_, ⟨h13_, (la_waysOfPut_32 h3_ h14_ h15_ h91_ h124_)⟩⟩⟩⟩⟩⟩⟩⟩⟩⟩⟩⟩, ?_⟩
        intro r130
        intro h168_
        rintro ⟨h169_, h170_⟩
        have h171_ := (h169_ la_waysOfPut_33)
        refine ⟨(la_waysOfPut_35 h3_ h91_ h124_ h171_), ?_⟩
        rintro ⟨h172_, h173_⟩
        refine ⟨(la_waysOfPut_30 h3_ h91_ h93_ h124_), ?_⟩
        intro h174_
        refine ⟨⟨h2_, ⟨h3_, ⟨h4_, ⟨h5_, ⟨h6_, ⟨h7_, ⟨h8_, ⟨h9_, ⟨h10_, ⟨h11_, ⟨h12_, ⟨h13_, (la_waysOfPut_36 h3_ h4_ h14_ h15_ h91_ h124_)⟩⟩⟩⟩⟩⟩⟩⟩⟩⟩⟩⟩, ?_⟩
        intro r139
        intro h175_
        rintro ⟨h176_, h177_⟩
        obtain ⟨h178_, h179_⟩ := (h176_ la_waysOfPut_33)
        refine ⟨(la_waysOfPut_37 h178_ h179_), ?_⟩
        intro g141
        intro h180_
        refine ⟨(la_waysOfPut_38 h3_ h91_ h124_), ?_⟩
        refine ⟨(la_waysOfPut_39 h91_ h93_ h124_ h180_), ?_⟩
        exact la_waysOfPut_40
      intro h181_
      refine ⟨?_, ?_⟩
      · skip
        intro s148
        intro h182_
        intro h183_
        refine ⟨(la_waysOfPut_41 h5_ h86_ h181_), ?_⟩
        refine ⟨⟨(la_waysOfPut_42 h86_), ⟨(la_waysOfPut_43 h181_), h183_⟩⟩, ?_⟩
        exact la_waysOfPut_40
      refine ⟨la_waysOfPut_44, ?_⟩
      intro h184_
      have h185_ := (h88_.resolve_right (la_waysOfPut_45 h184_))
      refine ⟨(la_waysOfPut_46 h5_ h86_ h181_), ?_⟩
      intro r157
      intro h186_
      intro h187_
      refine ⟨la_waysOfPut_47, ?_⟩
      intro h188_
      have h189_ := (h187_.resolve_left h188_)
      refine ⟨(la_waysOfPut_48 h5_ h86_ h181_), ?_⟩
      rintro ⟨h190_, h191_⟩
      refine ⟨la_waysOfPut_47, ?_⟩
      intro h192_
      exact la_waysOfPut_49
    intro h193_
    refine ⟨⟨h2_, ⟨h3_, ⟨h4_, ⟨h5_, ⟨h6_, ⟨h7_, ⟨h8_, ⟨h9_, ⟨h10_, ⟨h11_, ⟨h12_, ⟨h13_, (la_waysOfPut_14 h14_ h15_ h27_ h28_ h55_)⟩⟩⟩⟩⟩⟩⟩⟩⟩⟩⟩⟩, ?_⟩
    intro g161
    intro h194_
    intro h195_
    refine ⟨(la_waysOfPut_15 h4_ h5_), ?_⟩
    intro r172
    intro h196_
    intro h197_
    refine ⟨⟨la_waysOfPut_16, ⟨(la_waysOfPut_17 h4_), h197_⟩⟩, ?_⟩
    intro l5_173
    intro h198_
    intro l6_174
    intro h199_
    rintro ⟨h200_, ⟨h201_, h202_⟩⟩
    refine ⟨(la_waysOfPut_18 h201_), ?_⟩
    refine ⟨?_, ?_⟩
    · skip
      intro h203_
      refine ⟨(la_waysOfPut_19 h2_ h194_), ?_⟩
      intro l6_179
      intro h204_
      intro g178
      rintro ⟨h205_, ⟨h206_, h207_⟩⟩
      refine ⟨(la_waysOfPut_18 h206_), ?_⟩
      intro h208_
      refine ⟨?_, ?_⟩
      · skip
        intro h209_
        refine ⟨(la_waysOfPut_20 h27_ h28_ h55_), ?_⟩
        intro g187
        intro h210_
        refine ⟨⟨h2_, ⟨h3_, ⟨h4_, ⟨h5_, ⟨h6_, ⟨h7_, ⟨h8_, ⟨h9_, ⟨h10_, ⟨h11_, ⟨h12_, ⟨h13_, ⟨h14_, ⟨h15_, ⟨h16_, ⟨h17_, ⟨h18_, ⟨h19_, ⟨h20_, ⟨h21_, ⟨h22_, ⟨h23_, ⟨h24_, ⟨h25_, ⟨h26_, ⟨h27_, ⟨h28_, ⟨h29_, ⟨h30_, ⟨h31_, ⟨h32_, ⟨h33_, ⟨h34_, ⟨h35_, (la_waysOfPut_21 h36_ h39_ h40_ h41_ h42_ h43_ h44_ h49_)⟩⟩⟩⟩⟩⟩⟩⟩⟩⟩⟩⟩⟩⟩⟩⟩⟩⟩⟩⟩⟩⟩⟩⟩⟩⟩⟩⟩⟩⟩⟩⟩⟩⟩, ?_⟩
        intro g194
        rintro ⟨h211_, ⟨h212_, ⟨h213_, ⟨h214_, ⟨h215_, ⟨h216_, h217_⟩⟩⟩⟩⟩⟩
        refine ⟨?_, ?_⟩
        · skip
          intro h218_
          refine ⟨h211_, ?_⟩
          refine ⟨h212_, ?_⟩
          refine ⟨h213_, ?_⟩
          refine ⟨h214_, ?_⟩
          refine ⟨h215_, ?_⟩
          refine ⟨h216_, ?_⟩
          exact (la_waysOfPut_22 h207_ h210_ h217_)
        intro h219_
        intro h220_
        refine ⟨?_, ?_⟩
        · skip
          refine ⟨h2_, ?_⟩
          refine ⟨h3_, ?_⟩
          refine ⟨h4_, ?_⟩
          refine ⟨h5_, ?_⟩
          refine ⟨h6_, ?_⟩
          refine ⟨h7_, ?_⟩
          refine ⟨h8_, ?_⟩
          refine ⟨h9_, ?_⟩
          refine ⟨h10_, ?_⟩
          refine ⟨h11_, ?_⟩
          refine ⟨h12_, ?_⟩
          refine ⟨h13_, ?_⟩
          refine ⟨h14_, ?_⟩
          refine ⟨h15_, ?_⟩
          refine ⟨h16_, ?_⟩
          refine ⟨h17_, ?_⟩
          refine ⟨h18_, ?_⟩
          refine ⟨h214_, ?_⟩
          refine ⟨h211_, ?_⟩
          refine ⟨h212_, ?_⟩
          refine ⟨h213_, ?_⟩
          refine ⟨h23_, ?_⟩
          refine ⟨h24_, ?_⟩
          refine ⟨h25_, ?_⟩
          refine ⟨h216_, ?_⟩
          refine ⟨h36_, ?_⟩
          refine ⟨h37_, ?_⟩
          refine ⟨?_, ?_⟩
          · skip
            have h221_ := (h25_ (S 1148 0))
            have h222_ := (h25_ (S 1148 0 + 1))
            have h223_ := ((h215_ (S 1148 0)) h38_)
            exact h223_
          refine ⟨la_waysOfPut_25, ?_⟩
          refine ⟨la_waysOfPut_26, ?_⟩
          exact la_waysOfPut_27
        intro g201
        rintro ⟨h224_, ⟨h225_, ⟨h226_, ⟨h227_, ⟨h228_, ⟨h229_, h230_⟩⟩⟩⟩⟩⟩
        refine ⟨h224_, ?_⟩
        refine ⟨h225_, ?_⟩
        refine ⟨h226_, ?_⟩
        refine ⟨h227_, ?_⟩
        refine ⟨?_, ?_⟩
        · skip
          intro kv3
          intro h231_
          have h232_ := (h25_ (S 1148 0))
          have h233_ := (h25_ (S 1148 0 + 1))
          have h234_ := ((h215_ (S 1148 0)) h38_)
          have h235_ := ((h215_ kv3) h231_)
          have h236_ := ((h228_ kv3) h235_)
          have h237_ := ((h228_ (S 1148 0)) h234_)
          exact h236_
        refine ⟨h229_, ?_⟩
        exact (la_waysOfPut_28 h207_ h210_ h217_ h230_)
      intro h238_
      refine ⟨?_, ?_⟩
      · skip
        intro h239_
        have h240_ := (h202_.resolve_right (la_waysOfPut_7 h239_))
        refine ⟨(la_waysOfPut_20 h27_ h28_ h55_), ?_⟩
        intro g207
        intro h241_
        refine ⟨⟨h2_, ⟨h3_, ⟨h4_, ⟨h5_, ⟨h6_, ⟨h7_, ⟨h8_, ⟨h9_, ⟨h10_, ⟨h11_, ⟨h12_, ⟨h13_, ⟨h14_, ⟨h15_, ⟨h16_, ⟨h17_, ⟨h18_, ⟨h19_, ⟨h20_, ⟨h21_, ⟨h22_, ⟨h23_, ⟨h24_, ⟨h25_, ⟨h26_, ⟨h27_, ⟨h28_, ⟨h29_, ⟨h30_, ⟨h31_, ⟨h32_, ⟨h33_, ⟨h34_, ⟨h35_, (la_waysOfPut_21 h36_ h39_ h40_ h41_ h42_ h43_ h44_ h49_)⟩⟩⟩⟩⟩⟩⟩⟩⟩⟩⟩⟩⟩⟩⟩⟩⟩⟩⟩⟩⟩⟩⟩⟩⟩⟩⟩⟩⟩⟩⟩⟩⟩⟩, ?_⟩
        intro g214
        rintro ⟨h242_, ⟨h243_, ⟨h244_, ⟨h245_, ⟨h246_, ⟨h247_, h248_⟩⟩⟩⟩⟩⟩
        refine ⟨?_, ?_⟩
        · skip
          intro h249_
          refine ⟨h242_, ?_⟩
          refine ⟨h243_, ?_⟩
          refine ⟨h244_, ?_⟩
          refine ⟨h245_, ?_⟩
          refine ⟨h246_, ?_⟩
          refine ⟨h247_, ?_⟩
          exact (la_waysOfPut_22 h207_ h241_ h248_)
        intro h250_
        intro h251_
        refine ⟨?_, ?_⟩
        · skip
          refine ⟨h2_, ?_⟩
          refine ⟨h3_, ?_⟩
          refine ⟨h4_, ?_⟩
          refine ⟨h5_, ?_⟩
          refine ⟨h6_, ?_⟩
          refine ⟨h7_, ?_⟩
          refine ⟨h8_, ?_⟩
          refine ⟨h9_, ?_⟩
          refine ⟨h10_, ?_⟩
          refine ⟨h11_, ?_⟩
          refine ⟨h12_, ?_⟩
          refine ⟨h13_, ?_⟩
          refine ⟨h14_, ?_⟩
          refine ⟨h15_, ?_⟩
          refine ⟨h16_, ?_⟩
          refine ⟨h17_, ?_⟩
          refine ⟨h18_, ?_⟩
          refine ⟨h245_, ?_⟩
          refine ⟨h242_, ?_⟩
          refine ⟨h243_, ?_⟩
          refine ⟨h244_, ?_⟩
          refine ⟨h23_, ?_⟩
          refine ⟨h24_, ?_⟩
          refine ⟨h25_, ?_⟩
          refine ⟨h247_, ?_⟩
          refine ⟨h36_, ?_⟩
          refine ⟨h37_, ?_⟩
          refine ⟨?_, ?_⟩
          · skip
            have h252_ := (h25_ (S 1148 0))
            have h253_ := (h25_ (S 1148 0 + 1))
            have h254_ := ((h246_ (S 1148 0)) h38_)
            exact h254_
          refine ⟨la_waysOfPut_25, ?_⟩
          refine ⟨la_waysOfPut_26, ?_⟩
          exact la_waysOfPut_27
        intro g221
        rintro ⟨h255_, ⟨h256_, ⟨h257_, ⟨h258_, ⟨h259_, ⟨h260_, h261_⟩⟩⟩⟩⟩⟩
        refine ⟨h255_, ?_⟩
        refine ⟨h256_, ?_⟩
        refine ⟨h257_, ?_⟩
        refine ⟨h258_, ?_⟩
        refine ⟨?_, ?_⟩
        · skip
          intro kv4
          intro h262_
          have h263_ := (h25_ (S 1148 0))
          have h264_ := (h25_ (S 1148 0 + 1))
          have h265_ := ((h246_ kv4) h262_)
          have h266_ := ((h246_ (S 1148 0)) h38_)
          have h267_ := ((h259_ kv4) h265_)
          have h268_ := ((h259_ (S 1148 0)) h266_)
          exact h267_
        refine ⟨h260_, ?_⟩
        exact (la_waysOfPut_28 h207_ h241_ h248_ h261_)
      intro h269_
      have h270_ := (h202_.resolve_left h269_)
      intro h271_
      intro h272_
      refine ⟨(la_waysOfPut_29 h3_ h205_ h238_), ?_⟩
      intro r233
      intro h273_
      rintro ⟨h274_, h275_⟩
      refine ⟨(la_waysOfPut_30 h3_ h205_ h207_ h238_), ?_⟩
      intro h276_
      have h277_ := (h275_.resolve_left h276_)
      refine ⟨⟨h2_, ⟨h3_, ⟨h4_, ⟨h5_, ⟨h6_, ⟨h7_, ⟨h8_, ⟨h9_, ⟨h10_, ⟨h11_, ⟨h12_, ⟨h13_, (la_waysOfPut_31 h14_ h15_ h205_ h238_)⟩⟩⟩⟩⟩⟩⟩⟩⟩⟩⟩⟩, ?_⟩
      intro r240
      intro h278_
      intro h279_
      refine ⟨(la_waysOfPut_30 h3_ h205_ h207_ h238_), ?_⟩
      intro h280_
      have h281_ := (h279_.resolve_left h280_)
      refine ⟨⟨h2_, ⟨h3_, ⟨h4_, ⟨h5_, ⟨h6_, ⟨h7_, ⟨h8_, ⟨h9_, ⟨h10_, ⟨h11_, ⟨h12_, ⟨h13_, (la_waysOfPut_32 h3_ h14_ h15_ h205_ h238_)⟩⟩⟩⟩⟩⟩⟩⟩⟩⟩⟩⟩, ?_⟩
      intro r247
      intro h282_
      rintro ⟨h283_, h284_⟩
      have h285_ := (h283_ la_waysOfPut_33)
      refine ⟨(la_waysOfPut_35 h3_ h205_ h238_ h285_), ?_⟩
      rintro ⟨h286_, h287_⟩
      refine ⟨(la_waysOfPut_30 h3_ h205_ h207_ h238_), ?_⟩
      intro h288_
      refine ⟨⟨h2_, ⟨h3_, ⟨h4_, ⟨h5_, ⟨h6_, ⟨h7_, ⟨h8_, ⟨h9_, ⟨h10_, ⟨h11_, ⟨h12_, ⟨h13_, (la_waysOfPut_36 h3_ h4_ h14_ h15_ h205_ h238_)⟩⟩⟩⟩⟩⟩⟩⟩⟩⟩⟩⟩, ?_⟩
      intro r256
      intro h289_
      rintro ⟨h290_, h291_⟩
      obtain ⟨h292_, h293_⟩ := (h290_ la_waysOfPut_33)
      refine ⟨(la_waysOfPut_37 h292_ h293_), ?_⟩
      intro g258
      intro h294_
      refine ⟨(la_waysOfPut_38 h3_ h205_ h238_), ?_⟩
      refine ⟨(la_waysOfPut_39 h205_ h207_ h238_ h294_), ?_⟩
      exact la_waysOfPut_40
    intro h295_
    refine ⟨?_, ?_⟩
    · skip
      intro s265
      intro h296_
      intro h297_
      refine ⟨(la_waysOfPut_41 h5_ h200_ h295_), ?_⟩
      refine ⟨⟨(la_waysOfPut_42 h200_), ⟨(la_waysOfPut_43 h295_), h297_⟩⟩, ?_⟩
      exact la_waysOfPut_40
    refine ⟨la_waysOfPut_44, ?_⟩
    intro h298_
    have h299_ := (h202_.resolve_right (la_waysOfPut_45 h298_))
    refine ⟨(la_waysOfPut_46 h5_ h200_ h295_), ?_⟩
    intro r274
    intro h300_
    intro h301_
    refine ⟨la_waysOfPut_47, ?_⟩
    intro h302_
    have h303_ := (h301_.resolve_left h302_)
    refine ⟨(la_waysOfPut_48 h5_ h200_ h295_), ?_⟩
    rintro ⟨h304_, h305_⟩
    refine ⟨la_waysOfPut_47, ?_⟩
    intro h306_
    exact la_waysOfPut_49
  intro r278
  intro h307_
  refine ⟨la_waysOfPut_44, ?_⟩
  intro h308_
  intro r283
  intro h309_
  intro h310_
  refine ⟨la_waysOfPut_47, ?_⟩
  intro h311_
  have h312_ := (h310_.resolve_left h311_)
  exact la_waysOfPut_49
set_option maxRecDepth 8000 in
set_option maxHeartbeats 2000000 in
theorem t_waysOfPut : ∀ (S : sv_S), sm_ok S → (29 ≤ (S 1071 0) ∧ (S 1071 0) ≤ 127 ∧ 31 ≤ (S 1008 0) ∧ (S 1008 0) ≤ 90 ∧ 1 ≤ (S 1032 0) ∧ (S 1032 0) ≤ 11 ∧ 0 ≤ (S 1055 0) ∧ (S 1055 0) ≤ 19 ∧ (S 1071 0) = 29 + 6 * ((S 1032 0) - 1) + 2 * (S 1055 0) ∧ 0 ≤ (S 1046 0) ∧ (S 1046 0) + 2 * (S 1032 0) ≤ 500 ∧ sm_PD (S 1046 0) (S 1032 0) (S 1071 0) (S 1008 0) ∧ 0 ≤ (S 1071 0) * ((S 1008 0) + 1) ∧ (S 1071 0) * ((S 1008 0) + 1) ≤ 11557 ∧ 31 ≤ (S 1007 0) ∧ (S 1007 0) ≤ 400 ∧ sm_LN (S 4) 400 (S 1007 0) ∧ (S 75 639) = 647340 ∧ sm_ST (S 71) (S 74) (S 75) (S 78) (S 79) (S 80) (S 27) (S 1100007) (S 1100023) (S 1100024) (S 1046 0) ((S 1046 0) + 2 * (S 1032 0)) (S 1127 0) ∧ 465000 ≤ (S 1127 0) ∧ (S 1127 0) + sm_hs (S 71) (S 1100007) ≤ 635000 ∧ sm_NH (S 1100007) ∧ sm_CT (S 26) (S 27) (S 28) (S 29) (S 1100007) (S 1100023) (S 1100024) (S 1100025) (S 21) (S 1046 0) (S 1032 0) (S 1008 0) (S 1055 0) ∧ (∀ k : Int, (S 1046 0) ≤ k → k < ((S 1046 0) + 2 * (S 1032 0)) → (S 1100007 k) = 1) ∧ sm_DR (S 72) (S 71) (S 1046 0) ∧ 0 ≤ (S 74 639) ∧ (S 74 639) ≤ 400 ∧ 0 ≤ (S 78 639) ∧ (S 78 639) ≤ 40 ∧ (S 78 639) = sm_dp (S 1100024) (S 1100031 0) ∧ -1 ≤ (S 1100031 0) ∧ (S 1100031 0) < (S 1046 0) ∧ (0 ≤ (S 1100031 0) → (S 26 (S 1100031 0)) = 27) ∧ sm_TC (S 79) (S 80) (S 27) (S 1100007) (S 1100023) (S 1100024) 25560 (S 1100031 0) ∧ 0 ≤ (S 1148 0) ∧ (S 1148 0) < (S 1046 0) ∧ (S 71 (S 1148 0)) = 1 ∧ (S 74 639) = (S 1100007 (S 1148 0)) ∧ (S 1100031 0) = (S 1100023 (S 1148 0)) ∧ 3 ≤ (S 1100007 (S 1148 0)) ∧ (S 1148 0) + 1 < (S 1046 0) ∧ (S 1100007 ((S 1148 0) + 1)) = (S 1100007 (S 1148 0)) + (-2) ∧ (S 1100023 ((S 1148 0) + 1)) = (S 1100023 (S 1148 0))) → sv_T sm_XS sm_cs sm_L sm_sh 9 (q_waysOfPut S) 276 0 (lv_args 0 [.ref 0]) [] S := by
  intro S hok hpre
  have h := f_waysOfPut S hok hpre
  have hM := sm_h276
  show sv_T sm_XS sm_cs sm_L sm_sh 9 (q_waysOfPut S) 276 0 [(0, .ref 0)] [] S
  have k1 : (sm_CT (S 26) (S 27) (S 28) (S 29) (S 1100007) (S 1100023) (S 1100024) (S 1100025) (S 21) (S 1046 0) (S 1032 0) (S 1008 0) (S 1055 0) → 0 ≤ (S 1148 0) → (S 1148 0) < (S 1046 0) → 0 ≤ (S 1100007 (S 1148 0)) ∧ (S 1100007 (S 1148 0)) ≤ 396 ∧ -1 ≤ (S 1100023 (S 1148 0)) ∧ (S 1100023 (S 1148 0)) < (S 1148 0)) := fun h h0 h1 => by have q := sm_ct_0 h _ h0 h1; exact ⟨q.2.2.2.2.1, q.2.2.2.2.2.1, q.2.2.2.2.2.2.2.1, q.2.2.2.2.2.2.2.2.1⟩
  have h := h k1
  refine sv_aload_n hM dX12_waysOfPut_0 rfl rfl ?_
  refine sv_iconst (d := (2 : Int)) hM dX12_waysOfPut_1 rfl rfl ?_
  obtain ⟨o2, h⟩ := h
  refine sv_callV hM dX12_waysOfPut_2 sm_iv_1195 (by decide) (sm_a0 _) rfl rfl (Nat.le_of_ble_eq_true rfl) sm_h229 (Nat.le_of_ble_eq_true rfl) (Nat.le_of_ble_eq_true rfl) (F' := 0) (Nat.le_of_ble_eq_true rfl) rfl (t_fromTop (2 : Int) S hok (⟨by decide, by decide⟩ : sv_R (2 : Int)) o2) (fun v S1 hq => ?_)
  obtain ⟨r7, rfl, hr7, ok4, md5, hpo6⟩ := hq
  obtain rfl : S = S1 := (funext fun j => md5 j (by intro q; cases q)).symm
  show sv_T sm_XS sm_cs sm_L sm_sh 9 (q_waysOfPut S) 276 5 [(0, .ref 0)] [sv_I r7] S
  have h := h r7 hr7 hpo6
  refine sv_istore_n hM dX12_waysOfPut_5 (by decide) rfl ?_
  show sv_T sm_XS sm_cs sm_L sm_sh 9 (q_waysOfPut S) 276 6 [(0, .ref 0), (1, sv_I r7)] [] S
  refine sv_aload_n hM dX12_waysOfPut_6 rfl rfl ?_
  refine sv_iconst (d := (0 : Int)) hM dX12_waysOfPut_7 rfl rfl ?_
  obtain ⟨o8, h⟩ := h
  refine sv_callV hM dX12_waysOfPut_8 sm_iv_1195 (by decide) (sm_a0 _) rfl rfl (Nat.le_of_ble_eq_true rfl) sm_h229 (Nat.le_of_ble_eq_true rfl) (Nat.le_of_ble_eq_true rfl) (F' := 0) (Nat.le_of_ble_eq_true rfl) rfl (t_fromTop (0 : Int) S ok4 (⟨by decide, by decide⟩ : sv_R (0 : Int)) o8) (fun v S1 hq => ?_)
  obtain ⟨r13, rfl, hr13, ok10, md11, hpo12⟩ := hq
  obtain rfl : S = S1 := (funext fun j => md11 j (by intro q; cases q)).symm
  show sv_T sm_XS sm_cs sm_L sm_sh 9 (q_waysOfPut S) 276 11 [(0, .ref 0), (1, sv_I r7)] [sv_I r13] S
  have h := h r13 hr13 hpo12
  refine sv_istore_n hM dX12_waysOfPut_11 (by decide) rfl ?_
  show sv_T sm_XS sm_cs sm_L sm_sh 9 (q_waysOfPut S) 276 12 [(0, .ref 0), (1, sv_I r7), (2, sv_I r13)] [] S
  refine sv_aload_n hM dX12_waysOfPut_12 rfl rfl ?_
  refine sv_iload_n hM dX12_waysOfPut_13 rfl rfl ?_
  obtain ⟨o14, h⟩ := h
  refine sv_callV hM dX12_waysOfPut_14 sm_iv_1059 (by decide) (sm_a0 _) rfl rfl (Nat.le_of_ble_eq_true rfl) sm_h210 (Nat.le_of_ble_eq_true rfl) (Nat.le_of_ble_eq_true rfl) (F' := 1) (Nat.le_of_ble_eq_true rfl) rfl (t_plainly r7 S ok10 hr7 o14) (fun v S1 hq => ?_)
  obtain ⟨r19, rfl, hr19, ok16, md17, hpo18⟩ := hq
  obtain rfl : S = S1 := (funext fun j => md17 j (by intro q; cases q)).symm
  show sv_T sm_XS sm_cs sm_L sm_sh 9 (q_waysOfPut S) 276 17 [(0, .ref 0), (1, sv_I r7), (2, sv_I r13)] [sv_I r19] S
  have h := h r19 hr19 hpo18
  refine sv_istore_n hM dX12_waysOfPut_17 (by decide) rfl ?_
  show sv_T sm_XS sm_cs sm_L sm_sh 9 (q_waysOfPut S) 276 18 [(0, .ref 0), (1, sv_I r7), (2, sv_I r13), (3, sv_I r19)] [] S
  refine sv_aload_n hM dX12_waysOfPut_18 rfl rfl ?_
  refine sv_aload_n hM dX12_waysOfPut_19 rfl rfl ?_
  refine sv_iconst (d := (1 : Int)) hM dX12_waysOfPut_20 rfl rfl ?_
  obtain ⟨o20, h⟩ := h
  refine sv_callV hM dX12_waysOfPut_21 sm_iv_1195 (by decide) (sm_a0 _) rfl rfl (Nat.le_of_ble_eq_true rfl) sm_h229 (Nat.le_of_ble_eq_true rfl) (Nat.le_of_ble_eq_true rfl) (F' := 0) (Nat.le_of_ble_eq_true rfl) rfl (t_fromTop (1 : Int) S ok16 (⟨by decide, by decide⟩ : sv_R (1 : Int)) o20) (fun v S1 hq => ?_)
  obtain ⟨r25, rfl, hr25, ok22, md23, hpo24⟩ := hq
  obtain rfl : S = S1 := (funext fun j => md23 j (by intro q; cases q)).symm
  show sv_T sm_XS sm_cs sm_L sm_sh 9 (q_waysOfPut S) 276 24 [(0, .ref 0), (1, sv_I r7), (2, sv_I r13), (3, sv_I r19)] [sv_I r25, .ref 0] S
  have h := h r25 hr25 hpo24
  obtain ⟨o26, h⟩ := h
  refine sv_callV hM dX12_waysOfPut_24 sm_iv_1147 (by decide) (sm_a0 _) rfl rfl (Nat.le_of_ble_eq_true rfl) sm_h245 (Nat.le_of_ble_eq_true rfl) (Nat.le_of_ble_eq_true rfl) (F' := 3) (Nat.le_of_ble_eq_true rfl) rfl (t_keysOf r25 S ok22 hr25 o26) (fun v S1 hq => ?_)
  obtain ⟨rfl, ok28, md29, hpo30⟩ := hq
  obtain ⟨g27, rfl⟩ : ∃ g, S1 = sv_sts S [1143, 1144, 5, 1011] g := ⟨_, md29.eq⟩
  show sv_T sm_XS sm_cs sm_L sm_sh 9 (q_waysOfPut S) 276 27 [(0, .ref 0), (1, sv_I r7), (2, sv_I r13), (3, sv_I r19)] [] (sv_sts S [1143, 1144, 5, 1011] g27)
  have md31 : sv_mod [68, 69, 70, 81, 82, 83, 84, 85, 86, 71, 74, 75, 1127, 78, 79, 80, 72, 76, 77, 1143, 1144, 5, 1011, 1150, 1149, 1145, 1113, 1111, 1112, 1100031] S (sv_sts S [1143, 1144, 5, 1011] g27) := sv_mod.sts sv_mod.rf (by decide)
  have h := h g27 hpo30
  have J277 : ∀ s32 : Int, sv_R s32 → (s32 = 0 ∨ s32 = 1) → sv_T sm_XS sm_cs sm_L sm_sh 9 (q_waysOfPut S) 276 47 [(0, .ref 0), (1, sv_I r7), (2, sv_I r13), (3, sv_I r19)] [sv_I s32] (sv_sts S [1143, 1144, 5, 1011] g27) := by
    intro s32 hs32 hin33
    have h := h.1 s32 hs32 hin33
    refine sv_istore hM dX12_waysOfPut_47 (by decide) rfl ?_
    show sv_T sm_XS sm_cs sm_L sm_sh 9 (q_waysOfPut S) 276 49 [(0, .ref 0), (1, sv_I r7), (2, sv_I r13), (3, sv_I r19), (4, sv_I s32)] [] (sv_sts S [1143, 1144, 5, 1011] g27)
    refine sv_iload hM dX12_waysOfPut_49 rfl rfl ?_
    refine sv_cond_eq hM dX12_waysOfPut_51 hs32 (t := 244) rfl rfl (fun hc => ?_) (fun hc => ?_)
    · have h := h.1 (hc)
      refine sv_iload_n hM dX12_waysOfPut_244 rfl rfl ?_
      refine sv_iconst (d := (3 : Int)) hM dX12_waysOfPut_245 rfl rfl ?_
      refine sv_iandm 2 (m := 4) (by decide) (by decide) (by decide) hM dX12_waysOfPut_246 rfl ?_
      refine sv_cond_eq hM dX12_waysOfPut_247 (⟨by omega, by omega⟩ : sv_R (r19 % 4)) (t := 260) rfl rfl (fun hc => ?_) (fun hc => ?_)
      · have h := h.1 (hc)
        exact sv_vret hM dX12_waysOfPut_260 rfl ⟨rfl, ok28, md31, h⟩
      · have h := h.2 (hc)
        refine sv_aload_n hM dX12_waysOfPut_250 rfl rfl ?_
        refine sv_aload_n hM dX12_waysOfPut_251 rfl rfl ?_
        have k34 : sv_R (S 1148 0) := sm_okI ok28 sm_r1148 0
        have h := h k34
        refine sv_getI hM dX12_waysOfPut_252 sm_fl_1188 (sm_a0 _) sm_k148 rfl (x := (S 1148 0)) rfl ?_
        refine sv_bipush (d := (6 : Int)) hM dX12_waysOfPut_255 rfl rfl ?_
        obtain ⟨o35, h⟩ := h
        refine sv_callV hM dX12_waysOfPut_257 sm_iv_1292 (by decide) (sm_a0 _) rfl rfl (Nat.le_of_ble_eq_true rfl) sm_h263 (Nat.le_of_ble_eq_true rfl) (Nat.le_of_ble_eq_true rfl) (F' := 8) (Nat.le_of_ble_eq_true rfl) rfl (t_error_ (S 1148 0) (6 : Int) (sv_sts S [1143, 1144, 5, 1011] g27) ok28 k34 (⟨by decide, by decide⟩ : sv_R (6 : Int)) o35) (fun v S1 hq => ?_)
        obtain ⟨rfl, ok37, md38, hpo39⟩ := hq
        obtain ⟨g36, rfl⟩ : ∃ g, S1 = sv_sts (sv_sts S [1143, 1144, 5, 1011] g27) [68, 69, 70, 81, 82, 83, 84, 85, 86, 71, 74, 75, 1127, 78, 79, 80, 72, 76, 77, 1143, 1144, 5, 1011, 1150, 1149, 1145, 1113, 1111, 1112, 1100031] g := ⟨_, md38.eq⟩
        show sv_T sm_XS sm_cs sm_L sm_sh 9 (q_waysOfPut S) 276 260 [(0, .ref 0), (1, sv_I r7), (2, sv_I r13), (3, sv_I r19), (4, sv_I s32)] [] (sv_sts (sv_sts S [1143, 1144, 5, 1011] g27) [68, 69, 70, 81, 82, 83, 84, 85, 86, 71, 74, 75, 1127, 78, 79, 80, 72, 76, 77, 1143, 1144, 5, 1011, 1150, 1149, 1145, 1113, 1111, 1112, 1100031] g36)
        have md40 : sv_mod [68, 69, 70, 81, 82, 83, 84, 85, 86, 71, 74, 75, 1127, 78, 79, 80, 72, 76, 77, 1143, 1144, 5, 1011, 1150, 1149, 1145, 1113, 1111, 1112, 1100031] S (sv_sts (sv_sts S [1143, 1144, 5, 1011] g27) [68, 69, 70, 81, 82, 83, 84, 85, 86, 71, 74, 75, 1127, 78, 79, 80, 72, 76, 77, 1143, 1144, 5, 1011, 1150, 1149, 1145, 1113, 1111, 1112, 1100031] g36) := sv_mod.sts md31 (by decide)
        have h := h g36 hpo39
        exact sv_vret hM dX12_waysOfPut_260 rfl ⟨rfl, ok37, md40, h⟩
    · have h := h.2 (hc)
      refine sv_aload_n hM dX12_waysOfPut_54 rfl rfl ?_
      refine sv_aload_n hM dX12_waysOfPut_55 rfl rfl ?_
      refine sv_getA hM dX12_waysOfPut_56 sm_fl_220 (sm_a0 _) sm_k117 rfl ?_
      refine sv_iload_n hM dX12_waysOfPut_59 rfl rfl ?_
      have k41 : sv_RL (S 69 r7) := sm_okJ ok28 sm_r69 r7
      have h := h k41
      refine sv_lald hM dX12_waysOfPut_60 (sm_a69 _) (by decide) o14.1 o14.2 rfl (x := (S 69 r7)) rfl ?_
      refine sv_aload_n hM dX12_waysOfPut_61 rfl rfl ?_
      refine sv_getA hM dX12_waysOfPut_62 sm_fl_223 (sm_a0 _) sm_k118 rfl ?_
      refine sv_iload_n hM dX12_waysOfPut_65 rfl rfl ?_
      have k42 : sv_RL (S 70 r7) := sm_okJ ok28 sm_r70 r7
      have h := h k42
      refine sv_lald hM dX12_waysOfPut_66 (sm_a70 _) (by decide) o14.1 o14.2 rfl (x := (S 70 r7)) rfl ?_
      refine sv_iload_n hM dX12_waysOfPut_67 rfl rfl ?_
      refine sv_iload_n hM dX12_waysOfPut_68 rfl rfl ?_
      refine sv_cond_ne hM dX12_waysOfPut_69 hr19 (t := 76) rfl rfl (fun hc => ?_) (fun hc => ?_)
      · have h := h.1 (hc)
        refine sv_iconst (d := (0 : Int)) hM dX12_waysOfPut_76 rfl rfl ?_
        refine sv_iconst (d := (1 : Int)) hM dX12_waysOfPut_77 rfl rfl ?_
        obtain ⟨o43, h⟩ := h
        refine sv_callV hM dX12_waysOfPut_78 sm_iv_1234 (by decide) (sm_a0 _) rfl rfl (Nat.le_of_ble_eq_true rfl) sm_h251 (Nat.le_of_ble_eq_true rfl) (Nat.le_of_ble_eq_true rfl) (F' := 5) (Nat.le_of_ble_eq_true rfl) rfl (t_writeTo (S 69 r7) (S 70 r7) r13 (0 : Int) (1 : Int) (sv_sts S [1143, 1144, 5, 1011] g27) ok28 k41 k42 hr13 (⟨by decide, by decide⟩ : 0 ≤ (0 : Int) ∧ (0 : Int) ≤ 1) (⟨by decide, by decide⟩ : 0 ≤ (1 : Int) ∧ (1 : Int) ≤ 1) o43) (fun v S1 hq => ?_)
        obtain ⟨rfl, ok45, md46, hpo47⟩ := hq
        obtain ⟨g44, rfl⟩ : ∃ g, S1 = sv_sts (sv_sts S [1143, 1144, 5, 1011] g27) [68, 69, 70] g := ⟨_, md46.eq⟩
        show sv_T sm_XS sm_cs sm_L sm_sh 9 (q_waysOfPut S) 276 81 [(0, .ref 0), (1, sv_I r7), (2, sv_I r13), (3, sv_I r19), (4, sv_I s32)] [] (sv_sts (sv_sts S [1143, 1144, 5, 1011] g27) [68, 69, 70] g44)
        have md48 : sv_mod [68, 69, 70, 81, 82, 83, 84, 85, 86, 71, 74, 75, 1127, 78, 79, 80, 72, 76, 77, 1143, 1144, 5, 1011, 1150, 1149, 1145, 1113, 1111, 1112, 1100031] S (sv_sts (sv_sts S [1143, 1144, 5, 1011] g27) [68, 69, 70] g44) := sv_mod.sts md31 (by decide)
        have h := h g44 hpo47
        refine sv_aload_n hM dX12_waysOfPut_81 rfl rfl ?_
        refine sv_aload_n hM dX12_waysOfPut_82 rfl rfl ?_
        have k49 : sv_R (S 1008 0) := sm_okI ok45 sm_r1008 0
        have h := h k49
        refine sv_getI hM dX12_waysOfPut_83 sm_fl_762 (sm_a0 _) sm_k8 rfl (x := (S 1008 0)) rfl ?_
        obtain ⟨o50, h⟩ := h
        refine sv_callV hM dX12_waysOfPut_86 sm_iv_1153 (by decide) (sm_a0 _) rfl rfl (Nat.le_of_ble_eq_true rfl) sm_h242 (Nat.le_of_ble_eq_true rfl) (Nat.le_of_ble_eq_true rfl) (F' := 1) (Nat.le_of_ble_eq_true rfl) rfl (t_hasKey (S 1008 0) (sv_sts (sv_sts S [1143, 1144, 5, 1011] g27) [68, 69, 70] g44) ok45 k49 o50) (fun v S1 hq => ?_)
        obtain ⟨r55, rfl, hr55, ok52, md53, hpo54⟩ := hq
        obtain rfl : (sv_sts (sv_sts S [1143, 1144, 5, 1011] g27) [68, 69, 70] g44) = S1 := (funext fun j => md53 j (by intro q; cases q)).symm
        show sv_T sm_XS sm_cs sm_L sm_sh 9 (q_waysOfPut S) 276 89 [(0, .ref 0), (1, sv_I r7), (2, sv_I r13), (3, sv_I r19), (4, sv_I s32)] [sv_I r55] (sv_sts (sv_sts S [1143, 1144, 5, 1011] g27) [68, 69, 70] g44)
        have h := h r55 hr55 hpo54
        refine sv_istore hM dX12_waysOfPut_89 (by decide) rfl ?_
        show sv_T sm_XS sm_cs sm_L sm_sh 9 (q_waysOfPut S) 276 91 [(0, .ref 0), (1, sv_I r7), (2, sv_I r13), (3, sv_I r19), (4, sv_I s32), (5, sv_I r55)] [] (sv_sts (sv_sts S [1143, 1144, 5, 1011] g27) [68, 69, 70] g44)
        refine sv_iconst (d := (0 : Int)) hM dX12_waysOfPut_91 rfl rfl ?_
        refine sv_istore hM dX12_waysOfPut_92 (by decide) rfl ?_
        show sv_T sm_XS sm_cs sm_L sm_sh 9 (q_waysOfPut S) 276 94 [(0, .ref 0), (1, sv_I r7), (2, sv_I r13), (3, sv_I r19), (4, sv_I s32), (5, sv_I r55), (6, sv_I (0 : Int))] [] (sv_sts (sv_sts S [1143, 1144, 5, 1011] g27) [68, 69, 70] g44)
        obtain ⟨hin59, h⟩ := h
        have hJ : ∀ a : Int × Int × Unit, (sv_R a.1 ∧ sv_R a.2.1 ∧ sm_ok (sv_sts (sv_sts S [1143, 1144, 5, 1011] g27) [68, 69, 70] g44) ∧ (0 ≤ a.2.1 ∧ a.2.1 ≤ (S 1008 0) ∧ (a.1 = 0 ∨ a.1 = 1))) → sv_T sm_XS sm_cs sm_L sm_sh 9 (q_waysOfPut S) 276 94 [(0, .ref 0), (1, sv_I r7), (2, sv_I r13), (3, sv_I r19), (4, sv_I s32), (5, sv_I a.1), (6, sv_I a.2.1)] [] (sv_sts (sv_sts S [1143, 1144, 5, 1011] g27) [68, 69, 70] g44) := by
          refine sv_loop (α := Int × Int × Unit) (fun a => sv_R a.1 ∧ sv_R a.2.1 ∧ sm_ok (sv_sts (sv_sts S [1143, 1144, 5, 1011] g27) [68, 69, 70] g44) ∧ (0 ≤ a.2.1 ∧ a.2.1 ≤ (S 1008 0) ∧ (a.1 = 0 ∨ a.1 = 1))) (fun a => (S 1008 0) - a.2.1) (fun a => sv_T sm_XS sm_cs sm_L sm_sh 9 (q_waysOfPut S) 276 94 [(0, .ref 0), (1, sv_I r7), (2, sv_I r13), (3, sv_I r19), (4, sv_I s32), (5, sv_I a.1), (6, sv_I a.2.1)] [] (sv_sts (sv_sts S [1143, 1144, 5, 1011] g27) [68, 69, 70] g44)) (fun a q => (h a.1 q.1 a.2.1 q.2.1 q.2.2.2).1) (fun a q ih58 => ?_)
          obtain ⟨l5_56, l6_57, _u⟩ := a
          obtain ⟨hl5_56, hl6_57, ok60, hin59i⟩ := q
          have h := (h l5_56 hl5_56 l6_57 hl6_57 hin59i).2
          show sv_T sm_XS sm_cs sm_L sm_sh 9 (q_waysOfPut S) 276 94 [(0, .ref 0), (1, sv_I r7), (2, sv_I r13), (3, sv_I r19), (4, sv_I s32), (5, sv_I l5_56), (6, sv_I l6_57)] [] (sv_sts (sv_sts S [1143, 1144, 5, 1011] g27) [68, 69, 70] g44)
          refine sv_iload hM dX12_waysOfPut_94 rfl rfl ?_
          refine sv_aload_n hM dX12_waysOfPut_96 rfl rfl ?_
          refine sv_getI hM dX12_waysOfPut_97 sm_fl_762 (sm_a0 _) sm_k8 rfl (x := (S 1008 0)) rfl ?_
          refine sv_icmp_ge hM dX12_waysOfPut_100 hl6_57 k49 (t := 140) rfl rfl (fun hc => ?_) (fun hc => ?_)
          · have h := h.1 (hc)
            refine sv_iconst (d := (0 : Int)) hM dX12_waysOfPut_140 rfl rfl ?_
            refine sv_istore hM dX12_waysOfPut_141 (by decide) rfl ?_
            show sv_T sm_XS sm_cs sm_L sm_sh 9 (q_waysOfPut S) 276 143 [(0, .ref 0), (1, sv_I r7), (2, sv_I r13), (3, sv_I r19), (4, sv_I s32), (5, sv_I l5_56), (6, sv_I (0 : Int))] [] (sv_sts (sv_sts S [1143, 1144, 5, 1011] g27) [68, 69, 70] g44)
            obtain ⟨hin64, h⟩ := h
            have hJ : ∀ a : Int × sv_S, (sv_R a.1 ∧ sm_ok (sv_sts (sv_sts (sv_sts S [1143, 1144, 5, 1011] g27) [68, 69, 70] g44) [68, 69, 70] a.2) ∧ (0 ≤ a.1 ∧ a.1 ≤ (S 1071 0) ∧ sm_pt (a.2 68) (a.2 69) (a.2 70) = sm_pt (S 68) (S 69) (S 70))) → sv_T sm_XS sm_cs sm_L sm_sh 9 (q_waysOfPut S) 276 143 [(0, .ref 0), (1, sv_I r7), (2, sv_I r13), (3, sv_I r19), (4, sv_I s32), (5, sv_I l5_56), (6, sv_I a.1)] [] (sv_sts (sv_sts (sv_sts S [1143, 1144, 5, 1011] g27) [68, 69, 70] g44) [68, 69, 70] a.2) := by
              refine sv_loop (α := Int × sv_S) (fun a => sv_R a.1 ∧ sm_ok (sv_sts (sv_sts (sv_sts S [1143, 1144, 5, 1011] g27) [68, 69, 70] g44) [68, 69, 70] a.2) ∧ (0 ≤ a.1 ∧ a.1 ≤ (S 1071 0) ∧ sm_pt (a.2 68) (a.2 69) (a.2 70) = sm_pt (S 68) (S 69) (S 70))) (fun a => (S 1071 0) - a.1) (fun a => sv_T sm_XS sm_cs sm_L sm_sh 9 (q_waysOfPut S) 276 143 [(0, .ref 0), (1, sv_I r7), (2, sv_I r13), (3, sv_I r19), (4, sv_I s32), (5, sv_I l5_56), (6, sv_I a.1)] [] (sv_sts (sv_sts (sv_sts S [1143, 1144, 5, 1011] g27) [68, 69, 70] g44) [68, 69, 70] a.2)) (fun a q => (h a.1 q.1 a.2 q.2.2).1) (fun a q ih63 => ?_)
              obtain ⟨l6_62, g61⟩ := a
              obtain ⟨hl6_62, ok65, hin64i⟩ := q
              have h := (h l6_62 hl6_62 g61 hin64i).2
              show sv_T sm_XS sm_cs sm_L sm_sh 9 (q_waysOfPut S) 276 143 [(0, .ref 0), (1, sv_I r7), (2, sv_I r13), (3, sv_I r19), (4, sv_I s32), (5, sv_I l5_56), (6, sv_I l6_62)] [] (sv_sts (sv_sts (sv_sts S [1143, 1144, 5, 1011] g27) [68, 69, 70] g44) [68, 69, 70] g61)
              have md66 : sv_mod [68, 69, 70, 81, 82, 83, 84, 85, 86, 71, 74, 75, 1127, 78, 79, 80, 72, 76, 77, 1143, 1144, 5, 1011, 1150, 1149, 1145, 1113, 1111, 1112, 1100031] S (sv_sts (sv_sts (sv_sts S [1143, 1144, 5, 1011] g27) [68, 69, 70] g44) [68, 69, 70] g61) := sv_mod.sts md48 (by decide)
              have md67 : sv_mod [68, 69, 70] (sv_sts (sv_sts S [1143, 1144, 5, 1011] g27) [68, 69, 70] g44) (sv_sts (sv_sts (sv_sts S [1143, 1144, 5, 1011] g27) [68, 69, 70] g44) [68, 69, 70] g61) := sv_mod.sts sv_mod.rf (by decide)
              refine sv_iload hM dX12_waysOfPut_143 rfl rfl ?_
              refine sv_aload_n hM dX12_waysOfPut_145 rfl rfl ?_
              have k68 : sv_R (S 1071 0) := sm_okI ok65 sm_r1071 0
              have h := h k68
              refine sv_getI hM dX12_waysOfPut_146 sm_fl_765 (sm_a0 _) sm_k71 rfl (x := (S 1071 0)) rfl ?_
              refine sv_icmp_ge hM dX12_waysOfPut_149 hl6_62 k68 (t := 225) rfl rfl (fun hc => ?_) (fun hc => ?_)
              · have h := h.1 (hc)
                refine sv_ldc_w (d := (647740 : Int)) hM dX12_waysOfPut_225 sm_ck_1218 rfl rfl ?_
                refine sv_istore hM dX12_waysOfPut_228 (by decide) rfl ?_
                show sv_T sm_XS sm_cs sm_L sm_sh 9 (q_waysOfPut S) 276 230 [(0, .ref 0), (1, sv_I r7), (2, sv_I r13), (3, sv_I r19), (4, sv_I s32), (5, sv_I l5_56), (6, sv_I (647740 : Int))] [] (sv_sts (sv_sts (sv_sts S [1143, 1144, 5, 1011] g27) [68, 69, 70] g44) [68, 69, 70] g61)
                refine sv_aload_n hM dX12_waysOfPut_230 rfl rfl ?_
                refine sv_iload_n hM dX12_waysOfPut_231 rfl rfl ?_
                refine sv_iload hM dX12_waysOfPut_232 rfl rfl ?_
                obtain ⟨o69, h⟩ := h
                refine sv_callV hM dX12_waysOfPut_234 sm_iv_1092 (by decide) (sm_a0 _) rfl rfl (Nat.le_of_ble_eq_true rfl) sm_h207 (Nat.le_of_ble_eq_true rfl) (Nat.le_of_ble_eq_true rfl) (F' := 0) (Nat.le_of_ble_eq_true rfl) rfl (t_copySet r13 (647740 : Int) (sv_sts (sv_sts (sv_sts S [1143, 1144, 5, 1011] g27) [68, 69, 70] g44) [68, 69, 70] g61) ok65 hr13 (⟨by decide, by decide⟩ : sv_R (647740 : Int)) o69) (fun v S1 hq => ?_)
                obtain ⟨rfl, ok71, md72, hpo73⟩ := hq
                obtain ⟨g70, rfl⟩ : ∃ g, S1 = sv_sts (sv_sts (sv_sts (sv_sts S [1143, 1144, 5, 1011] g27) [68, 69, 70] g44) [68, 69, 70] g61) [68, 69, 70] g := ⟨_, md72.eq⟩
                show sv_T sm_XS sm_cs sm_L sm_sh 9 (q_waysOfPut S) 276 237 [(0, .ref 0), (1, sv_I r7), (2, sv_I r13), (3, sv_I r19), (4, sv_I s32), (5, sv_I l5_56), (6, sv_I (647740 : Int))] [] (sv_sts (sv_sts (sv_sts (sv_sts S [1143, 1144, 5, 1011] g27) [68, 69, 70] g44) [68, 69, 70] g61) [68, 69, 70] g70)
                have md74 : sv_mod [68, 69, 70, 81, 82, 83, 84, 85, 86, 71, 74, 75, 1127, 78, 79, 80, 72, 76, 77, 1143, 1144, 5, 1011, 1150, 1149, 1145, 1113, 1111, 1112, 1100031] S (sv_sts (sv_sts (sv_sts (sv_sts S [1143, 1144, 5, 1011] g27) [68, 69, 70] g44) [68, 69, 70] g61) [68, 69, 70] g70) := sv_mod.sts md66 (by decide)
                have md75 : sv_mod [68, 69, 70] (sv_sts (sv_sts S [1143, 1144, 5, 1011] g27) [68, 69, 70] g44) (sv_sts (sv_sts (sv_sts (sv_sts S [1143, 1144, 5, 1011] g27) [68, 69, 70] g44) [68, 69, 70] g61) [68, 69, 70] g70) := sv_mod.sts md67 (by decide)
                have h := h g70 hpo73
                refine sv_aload_n hM dX12_waysOfPut_237 rfl rfl ?_
                refine sv_iconst (d := (3 : Int)) hM dX12_waysOfPut_238 rfl rfl ?_
                refine sv_iload hM dX12_waysOfPut_239 rfl rfl ?_
                obtain ⟨o76, h⟩ := h
                refine sv_callV hM dX12_waysOfPut_241 sm_iv_1258 (by decide) (sm_a0 _) rfl rfl (Nat.le_of_ble_eq_true rfl) sm_h267 (Nat.le_of_ble_eq_true rfl) (Nat.le_of_ble_eq_true rfl) (F' := 5) (Nat.le_of_ble_eq_true rfl) rfl (t_replace (3 : Int) (647740 : Int) (sv_sts (sv_sts (sv_sts (sv_sts S [1143, 1144, 5, 1011] g27) [68, 69, 70] g44) [68, 69, 70] g61) [68, 69, 70] g70) ok71 (⟨by decide, by decide⟩ : sv_R (3 : Int)) (⟨by decide, by decide⟩ : sv_R (647740 : Int)) o76) (fun v S1 hq => ?_)
                obtain ⟨rfl, ok78, md79, hpo80⟩ := hq
                obtain ⟨g77, rfl⟩ : ∃ g, S1 = sv_sts (sv_sts (sv_sts (sv_sts (sv_sts S [1143, 1144, 5, 1011] g27) [68, 69, 70] g44) [68, 69, 70] g61) [68, 69, 70] g70) [68, 69, 70, 81, 82, 83, 84, 85, 86, 71, 74, 75, 1127, 78, 79, 80, 72, 76, 77, 1150] g := ⟨_, md79.eq⟩
                show sv_T sm_XS sm_cs sm_L sm_sh 9 (q_waysOfPut S) 276 244 [(0, .ref 0), (1, sv_I r7), (2, sv_I r13), (3, sv_I r19), (4, sv_I s32), (5, sv_I l5_56), (6, sv_I (647740 : Int))] [] (sv_sts (sv_sts (sv_sts (sv_sts (sv_sts S [1143, 1144, 5, 1011] g27) [68, 69, 70] g44) [68, 69, 70] g61) [68, 69, 70] g70) [68, 69, 70, 81, 82, 83, 84, 85, 86, 71, 74, 75, 1127, 78, 79, 80, 72, 76, 77, 1150] g77)
                have md81 : sv_mod [68, 69, 70, 81, 82, 83, 84, 85, 86, 71, 74, 75, 1127, 78, 79, 80, 72, 76, 77, 1143, 1144, 5, 1011, 1150, 1149, 1145, 1113, 1111, 1112, 1100031] S (sv_sts (sv_sts (sv_sts (sv_sts (sv_sts S [1143, 1144, 5, 1011] g27) [68, 69, 70] g44) [68, 69, 70] g61) [68, 69, 70] g70) [68, 69, 70, 81, 82, 83, 84, 85, 86, 71, 74, 75, 1127, 78, 79, 80, 72, 76, 77, 1150] g77) := sv_mod.sts md74 (by decide)
                have h := h g77 hpo80
                refine sv_iload_n hM dX12_waysOfPut_244 rfl rfl ?_
                refine sv_iconst (d := (3 : Int)) hM dX12_waysOfPut_245 rfl rfl ?_
                refine sv_iandm 2 (m := 4) (by decide) (by decide) (by decide) hM dX12_waysOfPut_246 rfl ?_
                refine sv_cond_eq hM dX12_waysOfPut_247 (⟨by omega, by omega⟩ : sv_R (r19 % 4)) (t := 260) rfl rfl (fun hc => ?_) (fun hc => ?_)
                · have h := h.1 (hc)
                  exact sv_vret hM dX12_waysOfPut_260 rfl ⟨rfl, ok78, md81, h⟩
                · have h := h.2 (hc)
                  refine sv_aload_n hM dX12_waysOfPut_250 rfl rfl ?_
                  refine sv_aload_n hM dX12_waysOfPut_251 rfl rfl ?_
                  have k82 : sv_R (S 1148 0) := sm_okI ok78 sm_r1148 0
                  have h := h k82
                  refine sv_getI hM dX12_waysOfPut_252 sm_fl_1188 (sm_a0 _) sm_k148 rfl (x := (S 1148 0)) rfl ?_
                  refine sv_bipush (d := (6 : Int)) hM dX12_waysOfPut_255 rfl rfl ?_
                  obtain ⟨o83, h⟩ := h
                  refine sv_callV hM dX12_waysOfPut_257 sm_iv_1292 (by decide) (sm_a0 _) rfl rfl (Nat.le_of_ble_eq_true rfl) sm_h263 (Nat.le_of_ble_eq_true rfl) (Nat.le_of_ble_eq_true rfl) (F' := 8) (Nat.le_of_ble_eq_true rfl) rfl (t_error_ (S 1148 0) (6 : Int) (sv_sts (sv_sts (sv_sts (sv_sts (sv_sts S [1143, 1144, 5, 1011] g27) [68, 69, 70] g44) [68, 69, 70] g61) [68, 69, 70] g70) [68, 69, 70, 81, 82, 83, 84, 85, 86, 71, 74, 75, 1127, 78, 79, 80, 72, 76, 77, 1150] g77) ok78 k82 (⟨by decide, by decide⟩ : sv_R (6 : Int)) o83) (fun v S1 hq => ?_)
                  obtain ⟨rfl, ok85, md86, hpo87⟩ := hq
                  obtain ⟨g84, rfl⟩ : ∃ g, S1 = sv_sts (sv_sts (sv_sts (sv_sts (sv_sts (sv_sts S [1143, 1144, 5, 1011] g27) [68, 69, 70] g44) [68, 69, 70] g61) [68, 69, 70] g70) [68, 69, 70, 81, 82, 83, 84, 85, 86, 71, 74, 75, 1127, 78, 79, 80, 72, 76, 77, 1150] g77) [68, 69, 70, 81, 82, 83, 84, 85, 86, 71, 74, 75, 1127, 78, 79, 80, 72, 76, 77, 1143, 1144, 5, 1011, 1150, 1149, 1145, 1113, 1111, 1112, 1100031] g := ⟨_, md86.eq⟩
                  show sv_T sm_XS sm_cs sm_L sm_sh 9 (q_waysOfPut S) 276 260 [(0, .ref 0), (1, sv_I r7), (2, sv_I r13), (3, sv_I r19), (4, sv_I s32), (5, sv_I l5_56), (6, sv_I (647740 : Int))] [] (sv_sts (sv_sts (sv_sts (sv_sts (sv_sts (sv_sts S [1143, 1144, 5, 1011] g27) [68, 69, 70] g44) [68, 69, 70] g61) [68, 69, 70] g70) [68, 69, 70, 81, 82, 83, 84, 85, 86, 71, 74, 75, 1127, 78, 79, 80, 72, 76, 77, 1150] g77) [68, 69, 70, 81, 82, 83, 84, 85, 86, 71, 74, 75, 1127, 78, 79, 80, 72, 76, 77, 1143, 1144, 5, 1011, 1150, 1149, 1145, 1113, 1111, 1112, 1100031] g84)
                  have md88 : sv_mod [68, 69, 70, 81, 82, 83, 84, 85, 86, 71, 74, 75, 1127, 78, 79, 80, 72, 76, 77, 1143, 1144, 5, 1011, 1150, 1149, 1145, 1113, 1111, 1112, 1100031] S (sv_sts (sv_sts (sv_sts (sv_sts (sv_sts (sv_sts S [1143, 1144, 5, 1011] g27) [68, 69, 70] g44) [68, 69, 70] g61) [68, 69, 70] g70) [68, 69, 70, 81, 82, 83, 84, 85, 86, 71, 74, 75, 1127, 78, 79, 80, 72, 76, 77, 1150] g77) [68, 69, 70, 81, 82, 83, 84, 85, 86, 71, 74, 75, 1127, 78, 79, 80, 72, 76, 77, 1143, 1144, 5, 1011, 1150, 1149, 1145, 1113, 1111, 1112, 1100031] g84) := sv_mod.sts md81 (by decide)
                  have h := h g84 hpo87
                  exact sv_vret hM dX12_waysOfPut_260 rfl ⟨rfl, ok85, md88, h⟩
              · have h := h.2 (hc)
                refine sv_iload hM dX12_waysOfPut_152 rfl rfl ?_
                refine sv_cond_eq hM dX12_waysOfPut_154 hl5_56 (t := 225) rfl rfl (fun hc => ?_) (fun hc => ?_)
                · have h := h.1 (hc)
                  refine sv_ldc_w (d := (647740 : Int)) hM dX12_waysOfPut_225 sm_ck_1218 rfl rfl ?_
                  refine sv_istore hM dX12_waysOfPut_228 (by decide) rfl ?_
                  show sv_T sm_XS sm_cs sm_L sm_sh 9 (q_waysOfPut S) 276 230 [(0, .ref 0), (1, sv_I r7), (2, sv_I r13), (3, sv_I r19), (4, sv_I s32), (5, sv_I l5_56), (6, sv_I (647740 : Int))] [] (sv_sts (sv_sts (sv_sts S [1143, 1144, 5, 1011] g27) [68, 69, 70] g44) [68, 69, 70] g61)
                  refine sv_aload_n hM dX12_waysOfPut_230 rfl rfl ?_
                  refine sv_iload_n hM dX12_waysOfPut_231 rfl rfl ?_
                  refine sv_iload hM dX12_waysOfPut_232 rfl rfl ?_
                  obtain ⟨o89, h⟩ := h
                  refine sv_callV hM dX12_waysOfPut_234 sm_iv_1092 (by decide) (sm_a0 _) rfl rfl (Nat.le_of_ble_eq_true rfl) sm_h207 (Nat.le_of_ble_eq_true rfl) (Nat.le_of_ble_eq_true rfl) (F' := 0) (Nat.le_of_ble_eq_true rfl) rfl (t_copySet r13 (647740 : Int) (sv_sts (sv_sts (sv_sts S [1143, 1144, 5, 1011] g27) [68, 69, 70] g44) [68, 69, 70] g61) ok65 hr13 (⟨by decide, by decide⟩ : sv_R (647740 : Int)) o89) (fun v S1 hq => ?_)
                  obtain ⟨rfl, ok91, md92, hpo93⟩ := hq
                  obtain ⟨g90, rfl⟩ : ∃ g, S1 = sv_sts (sv_sts (sv_sts (sv_sts S [1143, 1144, 5, 1011] g27) [68, 69, 70] g44) [68, 69, 70] g61) [68, 69, 70] g := ⟨_, md92.eq⟩
                  show sv_T sm_XS sm_cs sm_L sm_sh 9 (q_waysOfPut S) 276 237 [(0, .ref 0), (1, sv_I r7), (2, sv_I r13), (3, sv_I r19), (4, sv_I s32), (5, sv_I l5_56), (6, sv_I (647740 : Int))] [] (sv_sts (sv_sts (sv_sts (sv_sts S [1143, 1144, 5, 1011] g27) [68, 69, 70] g44) [68, 69, 70] g61) [68, 69, 70] g90)
                  have md94 : sv_mod [68, 69, 70, 81, 82, 83, 84, 85, 86, 71, 74, 75, 1127, 78, 79, 80, 72, 76, 77, 1143, 1144, 5, 1011, 1150, 1149, 1145, 1113, 1111, 1112, 1100031] S (sv_sts (sv_sts (sv_sts (sv_sts S [1143, 1144, 5, 1011] g27) [68, 69, 70] g44) [68, 69, 70] g61) [68, 69, 70] g90) := sv_mod.sts md66 (by decide)
                  have md95 : sv_mod [68, 69, 70] (sv_sts (sv_sts S [1143, 1144, 5, 1011] g27) [68, 69, 70] g44) (sv_sts (sv_sts (sv_sts (sv_sts S [1143, 1144, 5, 1011] g27) [68, 69, 70] g44) [68, 69, 70] g61) [68, 69, 70] g90) := sv_mod.sts md67 (by decide)
                  have h := h g90 hpo93
                  refine sv_aload_n hM dX12_waysOfPut_237 rfl rfl ?_
                  refine sv_iconst (d := (3 : Int)) hM dX12_waysOfPut_238 rfl rfl ?_
                  refine sv_iload hM dX12_waysOfPut_239 rfl rfl ?_
                  obtain ⟨o96, h⟩ := h
                  refine sv_callV hM dX12_waysOfPut_241 sm_iv_1258 (by decide) (sm_a0 _) rfl rfl (Nat.le_of_ble_eq_true rfl) sm_h267 (Nat.le_of_ble_eq_true rfl) (Nat.le_of_ble_eq_true rfl) (F' := 5) (Nat.le_of_ble_eq_true rfl) rfl (t_replace (3 : Int) (647740 : Int) (sv_sts (sv_sts (sv_sts (sv_sts S [1143, 1144, 5, 1011] g27) [68, 69, 70] g44) [68, 69, 70] g61) [68, 69, 70] g90) ok91 (⟨by decide, by decide⟩ : sv_R (3 : Int)) (⟨by decide, by decide⟩ : sv_R (647740 : Int)) o96) (fun v S1 hq => ?_)
                  obtain ⟨rfl, ok98, md99, hpo100⟩ := hq
                  obtain ⟨g97, rfl⟩ : ∃ g, S1 = sv_sts (sv_sts (sv_sts (sv_sts (sv_sts S [1143, 1144, 5, 1011] g27) [68, 69, 70] g44) [68, 69, 70] g61) [68, 69, 70] g90) [68, 69, 70, 81, 82, 83, 84, 85, 86, 71, 74, 75, 1127, 78, 79, 80, 72, 76, 77, 1150] g := ⟨_, md99.eq⟩
                  show sv_T sm_XS sm_cs sm_L sm_sh 9 (q_waysOfPut S) 276 244 [(0, .ref 0), (1, sv_I r7), (2, sv_I r13), (3, sv_I r19), (4, sv_I s32), (5, sv_I l5_56), (6, sv_I (647740 : Int))] [] (sv_sts (sv_sts (sv_sts (sv_sts (sv_sts S [1143, 1144, 5, 1011] g27) [68, 69, 70] g44) [68, 69, 70] g61) [68, 69, 70] g90) [68, 69, 70, 81, 82, 83, 84, 85, 86, 71, 74, 75, 1127, 78, 79, 80, 72, 76, 77, 1150] g97)
                  have md101 : sv_mod [68, 69, 70, 81, 82, 83, 84, 85, 86, 71, 74, 75, 1127, 78, 79, 80, 72, 76, 77, 1143, 1144, 5, 1011, 1150, 1149, 1145, 1113, 1111, 1112, 1100031] S (sv_sts (sv_sts (sv_sts (sv_sts (sv_sts S [1143, 1144, 5, 1011] g27) [68, 69, 70] g44) [68, 69, 70] g61) [68, 69, 70] g90) [68, 69, 70, 81, 82, 83, 84, 85, 86, 71, 74, 75, 1127, 78, 79, 80, 72, 76, 77, 1150] g97) := sv_mod.sts md94 (by decide)
                  have h := h g97 hpo100
                  refine sv_iload_n hM dX12_waysOfPut_244 rfl rfl ?_
                  refine sv_iconst (d := (3 : Int)) hM dX12_waysOfPut_245 rfl rfl ?_
                  refine sv_iandm 2 (m := 4) (by decide) (by decide) (by decide) hM dX12_waysOfPut_246 rfl ?_
                  refine sv_cond_eq hM dX12_waysOfPut_247 (⟨by omega, by omega⟩ : sv_R (r19 % 4)) (t := 260) rfl rfl (fun hc => ?_) (fun hc => ?_)
                  · have h := h.1 (hc)
                    exact sv_vret hM dX12_waysOfPut_260 rfl ⟨rfl, ok98, md101, h⟩
                  · have h := h.2 (hc)
                    refine sv_aload_n hM dX12_waysOfPut_250 rfl rfl ?_
                    refine sv_aload_n hM dX12_waysOfPut_251 rfl rfl ?_
                    have k102 : sv_R (S 1148 0) := sm_okI ok98 sm_r1148 0
                    have h := h k102
                    refine sv_getI hM dX12_waysOfPut_252 sm_fl_1188 (sm_a0 _) sm_k148 rfl (x := (S 1148 0)) rfl ?_
                    refine sv_bipush (d := (6 : Int)) hM dX12_waysOfPut_255 rfl rfl ?_
                    obtain ⟨o103, h⟩ := h
                    refine sv_callV hM dX12_waysOfPut_257 sm_iv_1292 (by decide) (sm_a0 _) rfl rfl (Nat.le_of_ble_eq_true rfl) sm_h263 (Nat.le_of_ble_eq_true rfl) (Nat.le_of_ble_eq_true rfl) (F' := 8) (Nat.le_of_ble_eq_true rfl) rfl (t_error_ (S 1148 0) (6 : Int) (sv_sts (sv_sts (sv_sts (sv_sts (sv_sts S [1143, 1144, 5, 1011] g27) [68, 69, 70] g44) [68, 69, 70] g61) [68, 69, 70] g90) [68, 69, 70, 81, 82, 83, 84, 85, 86, 71, 74, 75, 1127, 78, 79, 80, 72, 76, 77, 1150] g97) ok98 k102 (⟨by decide, by decide⟩ : sv_R (6 : Int)) o103) (fun v S1 hq => ?_)
                    obtain ⟨rfl, ok105, md106, hpo107⟩ := hq
                    obtain ⟨g104, rfl⟩ : ∃ g, S1 = sv_sts (sv_sts (sv_sts (sv_sts (sv_sts (sv_sts S [1143, 1144, 5, 1011] g27) [68, 69, 70] g44) [68, 69, 70] g61) [68, 69, 70] g90) [68, 69, 70, 81, 82, 83, 84, 85, 86, 71, 74, 75, 1127, 78, 79, 80, 72, 76, 77, 1150] g97) [68, 69, 70, 81, 82, 83, 84, 85, 86, 71, 74, 75, 1127, 78, 79, 80, 72, 76, 77, 1143, 1144, 5, 1011, 1150, 1149, 1145, 1113, 1111, 1112, 1100031] g := ⟨_, md106.eq⟩
                    show sv_T sm_XS sm_cs sm_L sm_sh 9 (q_waysOfPut S) 276 260 [(0, .ref 0), (1, sv_I r7), (2, sv_I r13), (3, sv_I r19), (4, sv_I s32), (5, sv_I l5_56), (6, sv_I (647740 : Int))] [] (sv_sts (sv_sts (sv_sts (sv_sts (sv_sts (sv_sts S [1143, 1144, 5, 1011] g27) [68, 69, 70] g44) [68, 69, 70] g61) [68, 69, 70] g90) [68, 69, 70, 81, 82, 83, 84, 85, 86, 71, 74, 75, 1127, 78, 79, 80, 72, 76, 77, 1150] g97) [68, 69, 70, 81, 82, 83, 84, 85, 86, 71, 74, 75, 1127, 78, 79, 80, 72, 76, 77, 1143, 1144, 5, 1011, 1150, 1149, 1145, 1113, 1111, 1112, 1100031] g104)
                    have md108 : sv_mod [68, 69, 70, 81, 82, 83, 84, 85, 86, 71, 74, 75, 1127, 78, 79, 80, 72, 76, 77, 1143, 1144, 5, 1011, 1150, 1149, 1145, 1113, 1111, 1112, 1100031] S (sv_sts (sv_sts (sv_sts (sv_sts (sv_sts (sv_sts S [1143, 1144, 5, 1011] g27) [68, 69, 70] g44) [68, 69, 70] g61) [68, 69, 70] g90) [68, 69, 70, 81, 82, 83, 84, 85, 86, 71, 74, 75, 1127, 78, 79, 80, 72, 76, 77, 1150] g97) [68, 69, 70, 81, 82, 83, 84, 85, 86, 71, 74, 75, 1127, 78, 79, 80, 72, 76, 77, 1143, 1144, 5, 1011, 1150, 1149, 1145, 1113, 1111, 1112, 1100031] g104) := sv_mod.sts md101 (by decide)
                    have h := h g104 hpo107
                    exact sv_vret hM dX12_waysOfPut_260 rfl ⟨rfl, ok105, md108, h⟩
                · have h := h.2 (hc)
                  refine sv_aload_n hM dX12_waysOfPut_157 rfl rfl ?_
                  refine sv_getA hM dX12_waysOfPut_158 sm_fl_220 (sm_a0 _) sm_k117 rfl ?_
                  refine sv_iload_n hM dX12_waysOfPut_161 rfl rfl ?_
                  have k109 : sv_RL (g61 69 r7) := sm_okJ ok65 sm_r69 r7
                  have h := h k109
                  refine sv_lald hM dX12_waysOfPut_162 (sm_a69 _) (by decide) o14.1 o14.2 rfl (x := (g61 69 r7)) rfl ?_
                  refine sv_aload_n hM dX12_waysOfPut_163 rfl rfl ?_
                  refine sv_getA hM dX12_waysOfPut_164 sm_fl_223 (sm_a0 _) sm_k118 rfl ?_
                  refine sv_iload_n hM dX12_waysOfPut_167 rfl rfl ?_
                  have k110 : sv_RL (g61 70 r7) := sm_okJ ok65 sm_r70 r7
                  have h := h k110
                  refine sv_lald hM dX12_waysOfPut_168 (sm_a70 _) (by decide) o14.1 o14.2 rfl (x := (g61 70 r7)) rfl ?_
                  refine sv_iload hM dX12_waysOfPut_169 rfl rfl ?_
                  obtain ⟨o111, h⟩ := h
                  refine sv_callS hM dX12_waysOfPut_171 sm_iv_1125 (Nat.le_of_ble_eq_true rfl) rfl rfl (Nat.le_of_ble_eq_true rfl) sm_h217 (Nat.le_of_ble_eq_true rfl) (Nat.le_of_ble_eq_true rfl) (F' := 0) (Nat.le_of_ble_eq_true rfl) rfl (t_isIn (g61 69 r7) (g61 70 r7) l6_62 (sv_sts (sv_sts (sv_sts S [1143, 1144, 5, 1011] g27) [68, 69, 70] g44) [68, 69, 70] g61) ok65 k109 k110 hl6_62 o111) (fun v S1 hq => ?_)
                  obtain ⟨r116, rfl, hr116, ok113, md114, hpo115⟩ := hq
                  obtain rfl : (sv_sts (sv_sts (sv_sts S [1143, 1144, 5, 1011] g27) [68, 69, 70] g44) [68, 69, 70] g61) = S1 := (funext fun j => md114 j (by intro q; cases q)).symm
                  show sv_T sm_XS sm_cs sm_L sm_sh 9 (q_waysOfPut S) 276 174 [(0, .ref 0), (1, sv_I r7), (2, sv_I r13), (3, sv_I r19), (4, sv_I s32), (5, sv_I l5_56), (6, sv_I l6_62)] [sv_I r116] (sv_sts (sv_sts (sv_sts S [1143, 1144, 5, 1011] g27) [68, 69, 70] g44) [68, 69, 70] g61)
                  have h := h r116 hr116 hpo115
                  refine sv_cond_eq hM dX12_waysOfPut_174 hr116 (t := 219) rfl rfl (fun hc => ?_) (fun hc => ?_)
                  · have h := h.1 (hc)
                    refine sv_iinc (d := (1 : Int)) hM dX12_waysOfPut_219 rfl (by decide) rfl rfl ?_
                    show sv_T sm_XS sm_cs sm_L sm_sh 9 (q_waysOfPut S) 276 222 [(0, .ref 0), (1, sv_I r7), (2, sv_I r13), (3, sv_I r19), (4, sv_I s32), (5, sv_I l5_56), (6, sv_I (l6_62 + (1 : Int)))] [] (sv_sts (sv_sts (sv_sts S [1143, 1144, 5, 1011] g27) [68, 69, 70] g44) [68, 69, 70] g61)
                    refine sv_goto hM dX12_waysOfPut_222 (pc' := 143) rfl ?_
                    obtain ⟨o117, h⟩ := h
                    have eS := sv_mod.eq md67
                    have hb := ih63 ((l6_62 + (1 : Int)), (sv_sts (sv_sts (sv_sts S [1143, 1144, 5, 1011] g27) [68, 69, 70] g44) [68, 69, 70] g61)) ⟨o117, (by rw [← eS]; exact ok113), h.1⟩ h.2
                    have hb : sv_T sm_XS sm_cs sm_L sm_sh 9 (q_waysOfPut S) 276 143 [(0, .ref 0), (1, sv_I r7), (2, sv_I r13), (3, sv_I r19), (4, sv_I s32), (5, sv_I l5_56), (6, sv_I (l6_62 + (1 : Int)))] [] (sv_sts (sv_sts (sv_sts S [1143, 1144, 5, 1011] g27) [68, 69, 70] g44) [68, 69, 70] g61) := Eq.mpr (congrArg (fun Z => sv_T sm_XS sm_cs sm_L sm_sh 9 (q_waysOfPut S) 276 143 [(0, .ref 0), (1, sv_I r7), (2, sv_I r13), (3, sv_I r19), (4, sv_I s32), (5, sv_I l5_56), (6, sv_I (l6_62 + (1 : Int)))] [] Z) eS) hb
                    exact sv_less (lv := [(0, .ref 0), (1, sv_I r7), (2, sv_I r13), (3, sv_I r19), (4, sv_I s32), (5, sv_I l5_56), (6, sv_I (l6_62 + (1 : Int)))]) (sv_Sub_cons rfl (sv_Sub_cons rfl (sv_Sub_cons rfl (sv_Sub_cons rfl (sv_Sub_cons rfl (sv_Sub_cons rfl (sv_Sub_cons rfl sv_Sub_nil))))))) hb
                  · have h := h.2 (hc)
                    refine sv_aload_n hM dX12_waysOfPut_177 rfl rfl ?_
                    refine sv_iload hM dX12_waysOfPut_178 rfl rfl ?_
                    obtain ⟨o118, h⟩ := h
                    refine sv_callV hM dX12_waysOfPut_180 sm_iv_1169 (by decide) (sm_a0 _) rfl rfl (Nat.le_of_ble_eq_true rfl) sm_h239 (Nat.le_of_ble_eq_true rfl) (Nat.le_of_ble_eq_true rfl) (F' := 0) (Nat.le_of_ble_eq_true rfl) rfl (t_isArrayLabel l6_62 (sv_sts (sv_sts (sv_sts S [1143, 1144, 5, 1011] g27) [68, 69, 70] g44) [68, 69, 70] g61) ok113 hl6_62 o118) (fun v S1 hq => ?_)
                    obtain ⟨r123, rfl, hr123, ok120, md121, hpo122⟩ := hq
                    obtain rfl : (sv_sts (sv_sts (sv_sts S [1143, 1144, 5, 1011] g27) [68, 69, 70] g44) [68, 69, 70] g61) = S1 := (funext fun j => md121 j (by intro q; cases q)).symm
                    show sv_T sm_XS sm_cs sm_L sm_sh 9 (q_waysOfPut S) 276 183 [(0, .ref 0), (1, sv_I r7), (2, sv_I r13), (3, sv_I r19), (4, sv_I s32), (5, sv_I l5_56), (6, sv_I l6_62)] [sv_I r123] (sv_sts (sv_sts (sv_sts S [1143, 1144, 5, 1011] g27) [68, 69, 70] g44) [68, 69, 70] g61)
                    have h := h r123 hr123 hpo122
                    refine sv_cond_eq hM dX12_waysOfPut_183 hr123 (t := 219) rfl rfl (fun hc => ?_) (fun hc => ?_)
                    · have h := h.1 (hc)
                      refine sv_iinc (d := (1 : Int)) hM dX12_waysOfPut_219 rfl (by decide) rfl rfl ?_
                      show sv_T sm_XS sm_cs sm_L sm_sh 9 (q_waysOfPut S) 276 222 [(0, .ref 0), (1, sv_I r7), (2, sv_I r13), (3, sv_I r19), (4, sv_I s32), (5, sv_I l5_56), (6, sv_I (l6_62 + (1 : Int)))] [] (sv_sts (sv_sts (sv_sts S [1143, 1144, 5, 1011] g27) [68, 69, 70] g44) [68, 69, 70] g61)
                      refine sv_goto hM dX12_waysOfPut_222 (pc' := 143) rfl ?_
                      obtain ⟨o124, h⟩ := h
                      have eS := sv_mod.eq md67
                      have hb := ih63 ((l6_62 + (1 : Int)), (sv_sts (sv_sts (sv_sts S [1143, 1144, 5, 1011] g27) [68, 69, 70] g44) [68, 69, 70] g61)) ⟨o124, (by rw [← eS]; exact ok120), h.1⟩ h.2
                      have hb : sv_T sm_XS sm_cs sm_L sm_sh 9 (q_waysOfPut S) 276 143 [(0, .ref 0), (1, sv_I r7), (2, sv_I r13), (3, sv_I r19), (4, sv_I s32), (5, sv_I l5_56), (6, sv_I (l6_62 + (1 : Int)))] [] (sv_sts (sv_sts (sv_sts S [1143, 1144, 5, 1011] g27) [68, 69, 70] g44) [68, 69, 70] g61) := Eq.mpr (congrArg (fun Z => sv_T sm_XS sm_cs sm_L sm_sh 9 (q_waysOfPut S) 276 143 [(0, .ref 0), (1, sv_I r7), (2, sv_I r13), (3, sv_I r19), (4, sv_I s32), (5, sv_I l5_56), (6, sv_I (l6_62 + (1 : Int)))] [] Z) eS) hb
                      exact sv_less (lv := [(0, .ref 0), (1, sv_I r7), (2, sv_I r13), (3, sv_I r19), (4, sv_I s32), (5, sv_I l5_56), (6, sv_I (l6_62 + (1 : Int)))]) (sv_Sub_cons rfl (sv_Sub_cons rfl (sv_Sub_cons rfl (sv_Sub_cons rfl (sv_Sub_cons rfl (sv_Sub_cons rfl (sv_Sub_cons rfl sv_Sub_nil))))))) hb
                    · have h := h.2 (hc)
                      refine sv_aload_n hM dX12_waysOfPut_186 rfl rfl ?_
                      refine sv_getA hM dX12_waysOfPut_187 sm_fl_256 (sm_a0 _) sm_k133 rfl ?_
                      refine sv_aload_n hM dX12_waysOfPut_190 rfl rfl ?_
                      refine sv_sipush (d := (639 : Int)) hM dX12_waysOfPut_191 rfl rfl ?_
                      refine sv_iload hM dX12_waysOfPut_194 rfl rfl ?_
                      obtain ⟨o125, h⟩ := h
                      refine sv_callV hM dX12_waysOfPut_196 sm_iv_1101 (by decide) (sm_a0 _) rfl rfl (Nat.le_of_ble_eq_true rfl) sm_h226 (Nat.le_of_ble_eq_true rfl) (Nat.le_of_ble_eq_true rfl) (F' := 1) (Nat.le_of_ble_eq_true rfl) rfl (t_of (639 : Int) l6_62 (sv_sts (sv_sts (sv_sts S [1143, 1144, 5, 1011] g27) [68, 69, 70] g44) [68, 69, 70] g61) ok120 (⟨by decide, by decide⟩ : sv_R (639 : Int)) hl6_62 o125) (fun v S1 hq => ?_)
                      obtain ⟨r130, rfl, hr130, ok127, md128, hpo129⟩ := hq
                      obtain rfl : (sv_sts (sv_sts (sv_sts S [1143, 1144, 5, 1011] g27) [68, 69, 70] g44) [68, 69, 70] g61) = S1 := (funext fun j => md128 j (by intro q; cases q)).symm
                      show sv_T sm_XS sm_cs sm_L sm_sh 9 (q_waysOfPut S) 276 199 [(0, .ref 0), (1, sv_I r7), (2, sv_I r13), (3, sv_I r19), (4, sv_I s32), (5, sv_I l5_56), (6, sv_I l6_62)] [sv_I r130, .ref 81] (sv_sts (sv_sts (sv_sts S [1143, 1144, 5, 1011] g27) [68, 69, 70] g44) [68, 69, 70] g61)
                      have h := h r130 hr130 hpo129
                      obtain ⟨o131, h⟩ := h
                      have k132 : (0 ≤ (S 81 r130) ∧ (S 81 r130) ≤ 1) := sm_okZ ok127 sm_r81 r130
                      have h := h k132
                      refine sv_zald hM dX12_waysOfPut_199 (sm_a81 _) (by decide) o131.1 o131.2 rfl (x := (S 81 r130)) rfl ?_
                      refine sv_cond_eq hM dX12_waysOfPut_200 (sv_R01 k132) (t := 219) rfl rfl (fun hc => ?_) (fun hc => ?_)
                      · have h := h.1 (hc)
                        refine sv_iinc (d := (1 : Int)) hM dX12_waysOfPut_219 rfl (by decide) rfl rfl ?_
                        show sv_T sm_XS sm_cs sm_L sm_sh 9 (q_waysOfPut S) 276 222 [(0, .ref 0), (1, sv_I r7), (2, sv_I r13), (3, sv_I r19), (4, sv_I s32), (5, sv_I l5_56), (6, sv_I (l6_62 + (1 : Int)))] [] (sv_sts (sv_sts (sv_sts S [1143, 1144, 5, 1011] g27) [68, 69, 70] g44) [68, 69, 70] g61)
                        refine sv_goto hM dX12_waysOfPut_222 (pc' := 143) rfl ?_
                        obtain ⟨o133, h⟩ := h
                        have eS := sv_mod.eq md67
                        have hb := ih63 ((l6_62 + (1 : Int)), (sv_sts (sv_sts (sv_sts S [1143, 1144, 5, 1011] g27) [68, 69, 70] g44) [68, 69, 70] g61)) ⟨o133, (by rw [← eS]; exact ok127), h.1⟩ h.2
                        have hb : sv_T sm_XS sm_cs sm_L sm_sh 9 (q_waysOfPut S) 276 143 [(0, .ref 0), (1, sv_I r7), (2, sv_I r13), (3, sv_I r19), (4, sv_I s32), (5, sv_I l5_56), (6, sv_I (l6_62 + (1 : Int)))] [] (sv_sts (sv_sts (sv_sts S [1143, 1144, 5, 1011] g27) [68, 69, 70] g44) [68, 69, 70] g61) := Eq.mpr (congrArg (fun Z => sv_T sm_XS sm_cs sm_L sm_sh 9 (q_waysOfPut S) 276 143 [(0, .ref 0), (1, sv_I r7), (2, sv_I r13), (3, sv_I r19), (4, sv_I s32), (5, sv_I l5_56), (6, sv_I (l6_62 + (1 : Int)))] [] Z) eS) hb
                        exact sv_less (lv := [(0, .ref 0), (1, sv_I r7), (2, sv_I r13), (3, sv_I r19), (4, sv_I s32), (5, sv_I l5_56), (6, sv_I (l6_62 + (1 : Int)))]) (sv_Sub_cons rfl (sv_Sub_cons rfl (sv_Sub_cons rfl (sv_Sub_cons rfl (sv_Sub_cons rfl (sv_Sub_cons rfl (sv_Sub_cons rfl sv_Sub_nil))))))) hb
                      · have h := h.2 (hc)
                        refine sv_aload_n hM dX12_waysOfPut_203 rfl rfl ?_
                        refine sv_aload_n hM dX12_waysOfPut_204 rfl rfl ?_
                        refine sv_sipush (d := (639 : Int)) hM dX12_waysOfPut_205 rfl rfl ?_
                        refine sv_iload hM dX12_waysOfPut_208 rfl rfl ?_
                        refine sv_iconst (d := (0 : Int)) hM dX12_waysOfPut_210 rfl rfl ?_
                        obtain ⟨o134, h⟩ := h
                        refine sv_callV hM dX12_waysOfPut_211 sm_iv_1163 (by decide) (sm_a0 _) rfl rfl (Nat.le_of_ble_eq_true rfl) sm_h225 (Nat.le_of_ble_eq_true rfl) (Nat.le_of_ble_eq_true rfl) (F' := 1) (Nat.le_of_ble_eq_true rfl) rfl (t_field (639 : Int) l6_62 (0 : Int) (sv_sts (sv_sts (sv_sts S [1143, 1144, 5, 1011] g27) [68, 69, 70] g44) [68, 69, 70] g61) ok127 (⟨by decide, by decide⟩ : sv_R (639 : Int)) hl6_62 (⟨by decide, by decide⟩ : sv_R (0 : Int)) o134) (fun v S1 hq => ?_)
                        obtain ⟨r139, rfl, hr139, ok136, md137, hpo138⟩ := hq
                        obtain rfl : (sv_sts (sv_sts (sv_sts S [1143, 1144, 5, 1011] g27) [68, 69, 70] g44) [68, 69, 70] g61) = S1 := (funext fun j => md137 j (by intro q; cases q)).symm
                        show sv_T sm_XS sm_cs sm_L sm_sh 9 (q_waysOfPut S) 276 214 [(0, .ref 0), (1, sv_I r7), (2, sv_I r13), (3, sv_I r19), (4, sv_I s32), (5, sv_I l5_56), (6, sv_I l6_62)] [sv_I r139, .ref 0] (sv_sts (sv_sts (sv_sts S [1143, 1144, 5, 1011] g27) [68, 69, 70] g44) [68, 69, 70] g61)
                        have h := h r139 hr139 hpo138
                        refine sv_bipush (d := (64 : Int)) hM dX12_waysOfPut_214 rfl rfl ?_
                        obtain ⟨o140, h⟩ := h
                        refine sv_callV hM dX12_waysOfPut_216 sm_iv_1072 (by decide) (sm_a0 _) rfl rfl (Nat.le_of_ble_eq_true rfl) sm_h213 (Nat.le_of_ble_eq_true rfl) (Nat.le_of_ble_eq_true rfl) (F' := 2) (Nat.le_of_ble_eq_true rfl) rfl (t_addSort r139 (64 : Int) (sv_sts (sv_sts (sv_sts S [1143, 1144, 5, 1011] g27) [68, 69, 70] g44) [68, 69, 70] g61) ok136 hr139 (⟨by decide, by decide⟩ : sv_R (64 : Int)) o140) (fun v S1 hq => ?_)
                        obtain ⟨rfl, ok142, md143, hpo144⟩ := hq
                        obtain ⟨g141, rfl⟩ : ∃ g, S1 = sv_sts (sv_sts (sv_sts (sv_sts S [1143, 1144, 5, 1011] g27) [68, 69, 70] g44) [68, 69, 70] g61) [68, 69, 70] g := ⟨_, md143.eq⟩
                        show sv_T sm_XS sm_cs sm_L sm_sh 9 (q_waysOfPut S) 276 219 [(0, .ref 0), (1, sv_I r7), (2, sv_I r13), (3, sv_I r19), (4, sv_I s32), (5, sv_I l5_56), (6, sv_I l6_62)] [] (sv_sts (sv_sts (sv_sts (sv_sts S [1143, 1144, 5, 1011] g27) [68, 69, 70] g44) [68, 69, 70] g61) [68, 69, 70] g141)
                        have md145 : sv_mod [68, 69, 70, 81, 82, 83, 84, 85, 86, 71, 74, 75, 1127, 78, 79, 80, 72, 76, 77, 1143, 1144, 5, 1011, 1150, 1149, 1145, 1113, 1111, 1112, 1100031] S (sv_sts (sv_sts (sv_sts (sv_sts S [1143, 1144, 5, 1011] g27) [68, 69, 70] g44) [68, 69, 70] g61) [68, 69, 70] g141) := sv_mod.sts md66 (by decide)
                        have md146 : sv_mod [68, 69, 70] (sv_sts (sv_sts S [1143, 1144, 5, 1011] g27) [68, 69, 70] g44) (sv_sts (sv_sts (sv_sts (sv_sts S [1143, 1144, 5, 1011] g27) [68, 69, 70] g44) [68, 69, 70] g61) [68, 69, 70] g141) := sv_mod.sts md67 (by decide)
                        have h := h g141 hpo144
                        refine sv_iinc (d := (1 : Int)) hM dX12_waysOfPut_219 rfl (by decide) rfl rfl ?_
                        show sv_T sm_XS sm_cs sm_L sm_sh 9 (q_waysOfPut S) 276 222 [(0, .ref 0), (1, sv_I r7), (2, sv_I r13), (3, sv_I r19), (4, sv_I s32), (5, sv_I l5_56), (6, sv_I (l6_62 + (1 : Int)))] [] (sv_sts (sv_sts (sv_sts (sv_sts S [1143, 1144, 5, 1011] g27) [68, 69, 70] g44) [68, 69, 70] g61) [68, 69, 70] g141)
                        refine sv_goto hM dX12_waysOfPut_222 (pc' := 143) rfl ?_
                        obtain ⟨o147, h⟩ := h
                        have eS := sv_mod.eq md146
                        have hb := ih63 ((l6_62 + (1 : Int)), (sv_sts (sv_sts (sv_sts (sv_sts S [1143, 1144, 5, 1011] g27) [68, 69, 70] g44) [68, 69, 70] g61) [68, 69, 70] g141)) ⟨o147, (by rw [← eS]; exact ok142), h.1⟩ h.2
                        have hb : sv_T sm_XS sm_cs sm_L sm_sh 9 (q_waysOfPut S) 276 143 [(0, .ref 0), (1, sv_I r7), (2, sv_I r13), (3, sv_I r19), (4, sv_I s32), (5, sv_I l5_56), (6, sv_I (l6_62 + (1 : Int)))] [] (sv_sts (sv_sts (sv_sts (sv_sts S [1143, 1144, 5, 1011] g27) [68, 69, 70] g44) [68, 69, 70] g61) [68, 69, 70] g141) := Eq.mpr (congrArg (fun Z => sv_T sm_XS sm_cs sm_L sm_sh 9 (q_waysOfPut S) 276 143 [(0, .ref 0), (1, sv_I r7), (2, sv_I r13), (3, sv_I r19), (4, sv_I s32), (5, sv_I l5_56), (6, sv_I (l6_62 + (1 : Int)))] [] Z) eS) hb
                        exact sv_less (lv := [(0, .ref 0), (1, sv_I r7), (2, sv_I r13), (3, sv_I r19), (4, sv_I s32), (5, sv_I l5_56), (6, sv_I (l6_62 + (1 : Int)))]) (sv_Sub_cons rfl (sv_Sub_cons rfl (sv_Sub_cons rfl (sv_Sub_cons rfl (sv_Sub_cons rfl (sv_Sub_cons rfl (sv_Sub_cons rfl sv_Sub_nil))))))) hb
            have eS := sv_mod.eq (sv_mod.rf (l := [68, 69, 70]) (S := (sv_sts (sv_sts S [1143, 1144, 5, 1011] g27) [68, 69, 70] g44)))
            have hb := hJ ((0 : Int), (sv_sts (sv_sts S [1143, 1144, 5, 1011] g27) [68, 69, 70] g44)) ⟨(⟨by decide, by decide⟩ : sv_R (0 : Int)), (by rw [← eS]; exact ok60), hin64⟩
            have hb : sv_T sm_XS sm_cs sm_L sm_sh 9 (q_waysOfPut S) 276 143 [(0, .ref 0), (1, sv_I r7), (2, sv_I r13), (3, sv_I r19), (4, sv_I s32), (5, sv_I l5_56), (6, sv_I (0 : Int))] [] (sv_sts (sv_sts S [1143, 1144, 5, 1011] g27) [68, 69, 70] g44) := Eq.mpr (congrArg (fun Z => sv_T sm_XS sm_cs sm_L sm_sh 9 (q_waysOfPut S) 276 143 [(0, .ref 0), (1, sv_I r7), (2, sv_I r13), (3, sv_I r19), (4, sv_I s32), (5, sv_I l5_56), (6, sv_I (0 : Int))] [] Z) eS) hb
            exact hb
          · have h := h.2 (hc)
            have J151 : ∀ s148 : Int, sv_R s148 → (s148 = 0 ∨ s148 = 1) → sv_T sm_XS sm_cs sm_L sm_sh 9 (q_waysOfPut S) 276 132 [(0, .ref 0), (1, sv_I r7), (2, sv_I r13), (3, sv_I r19), (4, sv_I s32), (5, sv_I l5_56), (6, sv_I l6_57)] [sv_I s148] (sv_sts (sv_sts S [1143, 1144, 5, 1011] g27) [68, 69, 70] g44) := by
              intro s148 hs148 hin149
              have h := h.1 s148 hs148 hin149
              refine sv_istore hM dX12_waysOfPut_132 (by decide) rfl ?_
              show sv_T sm_XS sm_cs sm_L sm_sh 9 (q_waysOfPut S) 276 134 [(0, .ref 0), (1, sv_I r7), (2, sv_I r13), (3, sv_I r19), (4, sv_I s32), (5, sv_I s148), (6, sv_I l6_57)] [] (sv_sts (sv_sts S [1143, 1144, 5, 1011] g27) [68, 69, 70] g44)
              refine sv_iinc (d := (1 : Int)) hM dX12_waysOfPut_134 rfl (by decide) rfl rfl ?_
              show sv_T sm_XS sm_cs sm_L sm_sh 9 (q_waysOfPut S) 276 137 [(0, .ref 0), (1, sv_I r7), (2, sv_I r13), (3, sv_I r19), (4, sv_I s32), (5, sv_I s148), (6, sv_I (l6_57 + (1 : Int)))] [] (sv_sts (sv_sts S [1143, 1144, 5, 1011] g27) [68, 69, 70] g44)
              refine sv_goto hM dX12_waysOfPut_137 (pc' := 94) rfl ?_
              obtain ⟨o150, h⟩ := h
              have hb := ih58 (s148, (l6_57 + (1 : Int)), ()) ⟨hs148, o150, ok60, h.1⟩ h.2
              exact sv_less (lv := [(0, .ref 0), (1, sv_I r7), (2, sv_I r13), (3, sv_I r19), (4, sv_I s32), (5, sv_I s148), (6, sv_I (l6_57 + (1 : Int)))]) (sv_Sub_cons rfl (sv_Sub_cons rfl (sv_Sub_cons rfl (sv_Sub_cons rfl (sv_Sub_cons rfl (sv_Sub_cons rfl (sv_Sub_cons rfl sv_Sub_nil))))))) hb
            have h := h.2
            refine sv_iload hM dX12_waysOfPut_103 rfl rfl ?_
            refine sv_cond_ne hM dX12_waysOfPut_105 hl5_56 (t := 127) rfl rfl (fun hc => ?_) (fun hc => ?_)
            · have h := h.1 (hc)
              refine sv_iconst (d := (1 : Int)) hM dX12_waysOfPut_127 rfl rfl ?_
              refine sv_goto hM dX12_waysOfPut_128 (pc' := 132) rfl ?_
              have hb := J151 (1 : Int) (⟨by decide, by decide⟩ : sv_R (1 : Int)) h
              exact sv_less (lv := [(0, .ref 0), (1, sv_I r7), (2, sv_I r13), (3, sv_I r19), (4, sv_I s32), (5, sv_I l5_56), (6, sv_I l6_57)]) (sv_Sub_cons rfl (sv_Sub_cons rfl (sv_Sub_cons rfl (sv_Sub_cons rfl (sv_Sub_cons rfl (sv_Sub_cons rfl (sv_Sub_cons rfl sv_Sub_nil))))))) hb
            · have h := h.2 (hc)
              refine sv_aload_n hM dX12_waysOfPut_108 rfl rfl ?_
              refine sv_iload hM dX12_waysOfPut_109 rfl rfl ?_
              obtain ⟨o152, h⟩ := h
              refine sv_callV hM dX12_waysOfPut_111 sm_iv_1153 (by decide) (sm_a0 _) rfl rfl (Nat.le_of_ble_eq_true rfl) sm_h242 (Nat.le_of_ble_eq_true rfl) (Nat.le_of_ble_eq_true rfl) (F' := 1) (Nat.le_of_ble_eq_true rfl) rfl (t_hasKey l6_57 (sv_sts (sv_sts S [1143, 1144, 5, 1011] g27) [68, 69, 70] g44) ok60 hl6_57 o152) (fun v S1 hq => ?_)
              obtain ⟨r157, rfl, hr157, ok154, md155, hpo156⟩ := hq
              obtain rfl : (sv_sts (sv_sts S [1143, 1144, 5, 1011] g27) [68, 69, 70] g44) = S1 := (funext fun j => md155 j (by intro q; cases q)).symm
              show sv_T sm_XS sm_cs sm_L sm_sh 9 (q_waysOfPut S) 276 114 [(0, .ref 0), (1, sv_I r7), (2, sv_I r13), (3, sv_I r19), (4, sv_I s32), (5, sv_I l5_56), (6, sv_I l6_57)] [sv_I r157] (sv_sts (sv_sts S [1143, 1144, 5, 1011] g27) [68, 69, 70] g44)
              have h := h r157 hr157 hpo156
              refine sv_cond_eq hM dX12_waysOfPut_114 hr157 (t := 131) rfl rfl (fun hc => ?_) (fun hc => ?_)
              · have h := h.1 (hc)
                refine sv_iconst (d := (0 : Int)) hM dX12_waysOfPut_131 rfl rfl ?_
                have hb := J151 (0 : Int) (⟨by decide, by decide⟩ : sv_R (0 : Int)) h
                exact sv_less (lv := [(0, .ref 0), (1, sv_I r7), (2, sv_I r13), (3, sv_I r19), (4, sv_I s32), (5, sv_I l5_56), (6, sv_I l6_57)]) (sv_Sub_cons rfl (sv_Sub_cons rfl (sv_Sub_cons rfl (sv_Sub_cons rfl (sv_Sub_cons rfl (sv_Sub_cons rfl (sv_Sub_cons rfl sv_Sub_nil))))))) hb
              · have h := h.2 (hc)
                refine sv_aload_n hM dX12_waysOfPut_117 rfl rfl ?_
                refine sv_getA hM dX12_waysOfPut_118 sm_fl_277 (sm_a0 _) sm_k140 rfl ?_
                refine sv_iload hM dX12_waysOfPut_121 rfl rfl ?_
                obtain ⟨o158, h⟩ := h
                have k159 : (0 ≤ (S 88 l6_57) ∧ (S 88 l6_57) ≤ 1) := sm_okZ ok154 sm_r88 l6_57
                have h := h k159
                refine sv_zald hM dX12_waysOfPut_123 (sm_a88 _) (by decide) o158.1 o158.2 rfl (x := (S 88 l6_57)) rfl ?_
                refine sv_cond_eq hM dX12_waysOfPut_124 (sv_R01 k159) (t := 131) rfl rfl (fun hc => ?_) (fun hc => ?_)
                · have h := h.1 (hc)
                  refine sv_iconst (d := (0 : Int)) hM dX12_waysOfPut_131 rfl rfl ?_
                  have hb := J151 (0 : Int) (⟨by decide, by decide⟩ : sv_R (0 : Int)) h
                  exact sv_less (lv := [(0, .ref 0), (1, sv_I r7), (2, sv_I r13), (3, sv_I r19), (4, sv_I s32), (5, sv_I l5_56), (6, sv_I l6_57)]) (sv_Sub_cons rfl (sv_Sub_cons rfl (sv_Sub_cons rfl (sv_Sub_cons rfl (sv_Sub_cons rfl (sv_Sub_cons rfl (sv_Sub_cons rfl sv_Sub_nil))))))) hb
                · have h := h.2 (hc)
                  refine sv_iconst (d := (1 : Int)) hM dX12_waysOfPut_127 rfl rfl ?_
                  refine sv_goto hM dX12_waysOfPut_128 (pc' := 132) rfl ?_
                  have hb := J151 (1 : Int) (⟨by decide, by decide⟩ : sv_R (1 : Int)) h
                  exact sv_less (lv := [(0, .ref 0), (1, sv_I r7), (2, sv_I r13), (3, sv_I r19), (4, sv_I s32), (5, sv_I l5_56), (6, sv_I l6_57)]) (sv_Sub_cons rfl (sv_Sub_cons rfl (sv_Sub_cons rfl (sv_Sub_cons rfl (sv_Sub_cons rfl (sv_Sub_cons rfl (sv_Sub_cons rfl sv_Sub_nil))))))) hb
        exact hJ (r55, (0 : Int), ()) ⟨hr55, (⟨by decide, by decide⟩ : sv_R (0 : Int)), ok52, hin59⟩
      · have h := h.2 (hc)
        refine sv_iconst (d := (1 : Int)) hM dX12_waysOfPut_72 rfl rfl ?_
        refine sv_goto hM dX12_waysOfPut_73 (pc' := 77) rfl ?_
        refine sv_iconst (d := (1 : Int)) hM dX12_waysOfPut_77 rfl rfl ?_
        obtain ⟨o160, h⟩ := h
        refine sv_callV hM dX12_waysOfPut_78 sm_iv_1234 (by decide) (sm_a0 _) rfl rfl (Nat.le_of_ble_eq_true rfl) sm_h251 (Nat.le_of_ble_eq_true rfl) (Nat.le_of_ble_eq_true rfl) (F' := 5) (Nat.le_of_ble_eq_true rfl) rfl (t_writeTo (S 69 r7) (S 70 r7) r13 (1 : Int) (1 : Int) (sv_sts S [1143, 1144, 5, 1011] g27) ok28 k41 k42 hr13 (⟨by decide, by decide⟩ : 0 ≤ (1 : Int) ∧ (1 : Int) ≤ 1) (⟨by decide, by decide⟩ : 0 ≤ (1 : Int) ∧ (1 : Int) ≤ 1) o160) (fun v S1 hq => ?_)
        obtain ⟨rfl, ok162, md163, hpo164⟩ := hq
        obtain ⟨g161, rfl⟩ : ∃ g, S1 = sv_sts (sv_sts S [1143, 1144, 5, 1011] g27) [68, 69, 70] g := ⟨_, md163.eq⟩
        show sv_T sm_XS sm_cs sm_L sm_sh 9 (q_waysOfPut S) 276 81 [(0, .ref 0), (1, sv_I r7), (2, sv_I r13), (3, sv_I r19), (4, sv_I s32)] [] (sv_sts (sv_sts S [1143, 1144, 5, 1011] g27) [68, 69, 70] g161)
        have md165 : sv_mod [68, 69, 70, 81, 82, 83, 84, 85, 86, 71, 74, 75, 1127, 78, 79, 80, 72, 76, 77, 1143, 1144, 5, 1011, 1150, 1149, 1145, 1113, 1111, 1112, 1100031] S (sv_sts (sv_sts S [1143, 1144, 5, 1011] g27) [68, 69, 70] g161) := sv_mod.sts md31 (by decide)
        have h := h g161 hpo164
        refine sv_aload_n hM dX12_waysOfPut_81 rfl rfl ?_
        refine sv_aload_n hM dX12_waysOfPut_82 rfl rfl ?_
        have k166 : sv_R (S 1008 0) := sm_okI ok162 sm_r1008 0
        have h := h k166
        refine sv_getI hM dX12_waysOfPut_83 sm_fl_762 (sm_a0 _) sm_k8 rfl (x := (S 1008 0)) rfl ?_
        obtain ⟨o167, h⟩ := h
        refine sv_callV hM dX12_waysOfPut_86 sm_iv_1153 (by decide) (sm_a0 _) rfl rfl (Nat.le_of_ble_eq_true rfl) sm_h242 (Nat.le_of_ble_eq_true rfl) (Nat.le_of_ble_eq_true rfl) (F' := 1) (Nat.le_of_ble_eq_true rfl) rfl (t_hasKey (S 1008 0) (sv_sts (sv_sts S [1143, 1144, 5, 1011] g27) [68, 69, 70] g161) ok162 k166 o167) (fun v S1 hq => ?_)
        obtain ⟨r172, rfl, hr172, ok169, md170, hpo171⟩ := hq
        obtain rfl : (sv_sts (sv_sts S [1143, 1144, 5, 1011] g27) [68, 69, 70] g161) = S1 := (funext fun j => md170 j (by intro q; cases q)).symm
        show sv_T sm_XS sm_cs sm_L sm_sh 9 (q_waysOfPut S) 276 89 [(0, .ref 0), (1, sv_I r7), (2, sv_I r13), (3, sv_I r19), (4, sv_I s32)] [sv_I r172] (sv_sts (sv_sts S [1143, 1144, 5, 1011] g27) [68, 69, 70] g161)
        have h := h r172 hr172 hpo171
        refine sv_istore hM dX12_waysOfPut_89 (by decide) rfl ?_
        show sv_T sm_XS sm_cs sm_L sm_sh 9 (q_waysOfPut S) 276 91 [(0, .ref 0), (1, sv_I r7), (2, sv_I r13), (3, sv_I r19), (4, sv_I s32), (5, sv_I r172)] [] (sv_sts (sv_sts S [1143, 1144, 5, 1011] g27) [68, 69, 70] g161)
        refine sv_iconst (d := (0 : Int)) hM dX12_waysOfPut_91 rfl rfl ?_
        refine sv_istore hM dX12_waysOfPut_92 (by decide) rfl ?_
        show sv_T sm_XS sm_cs sm_L sm_sh 9 (q_waysOfPut S) 276 94 [(0, .ref 0), (1, sv_I r7), (2, sv_I r13), (3, sv_I r19), (4, sv_I s32), (5, sv_I r172), (6, sv_I (0 : Int))] [] (sv_sts (sv_sts S [1143, 1144, 5, 1011] g27) [68, 69, 70] g161)
        obtain ⟨hin176, h⟩ := h
        have hJ : ∀ a : Int × Int × Unit, (sv_R a.1 ∧ sv_R a.2.1 ∧ sm_ok (sv_sts (sv_sts S [1143, 1144, 5, 1011] g27) [68, 69, 70] g161) ∧ (0 ≤ a.2.1 ∧ a.2.1 ≤ (S 1008 0) ∧ (a.1 = 0 ∨ a.1 = 1))) → sv_T sm_XS sm_cs sm_L sm_sh 9 (q_waysOfPut S) 276 94 [(0, .ref 0), (1, sv_I r7), (2, sv_I r13), (3, sv_I r19), (4, sv_I s32), (5, sv_I a.1), (6, sv_I a.2.1)] [] (sv_sts (sv_sts S [1143, 1144, 5, 1011] g27) [68, 69, 70] g161) := by
          refine sv_loop (α := Int × Int × Unit) (fun a => sv_R a.1 ∧ sv_R a.2.1 ∧ sm_ok (sv_sts (sv_sts S [1143, 1144, 5, 1011] g27) [68, 69, 70] g161) ∧ (0 ≤ a.2.1 ∧ a.2.1 ≤ (S 1008 0) ∧ (a.1 = 0 ∨ a.1 = 1))) (fun a => (S 1008 0) - a.2.1) (fun a => sv_T sm_XS sm_cs sm_L sm_sh 9 (q_waysOfPut S) 276 94 [(0, .ref 0), (1, sv_I r7), (2, sv_I r13), (3, sv_I r19), (4, sv_I s32), (5, sv_I a.1), (6, sv_I a.2.1)] [] (sv_sts (sv_sts S [1143, 1144, 5, 1011] g27) [68, 69, 70] g161)) (fun a q => (h a.1 q.1 a.2.1 q.2.1 q.2.2.2).1) (fun a q ih175 => ?_)
          obtain ⟨l5_173, l6_174, _u⟩ := a
          obtain ⟨hl5_173, hl6_174, ok177, hin176i⟩ := q
          have h := (h l5_173 hl5_173 l6_174 hl6_174 hin176i).2
          show sv_T sm_XS sm_cs sm_L sm_sh 9 (q_waysOfPut S) 276 94 [(0, .ref 0), (1, sv_I r7), (2, sv_I r13), (3, sv_I r19), (4, sv_I s32), (5, sv_I l5_173), (6, sv_I l6_174)] [] (sv_sts (sv_sts S [1143, 1144, 5, 1011] g27) [68, 69, 70] g161)
          refine sv_iload hM dX12_waysOfPut_94 rfl rfl ?_
          refine sv_aload_n hM dX12_waysOfPut_96 rfl rfl ?_
          refine sv_getI hM dX12_waysOfPut_97 sm_fl_762 (sm_a0 _) sm_k8 rfl (x := (S 1008 0)) rfl ?_
          refine sv_icmp_ge hM dX12_waysOfPut_100 hl6_174 k166 (t := 140) rfl rfl (fun hc => ?_) (fun hc => ?_)
          · have h := h.1 (hc)
            refine sv_iconst (d := (0 : Int)) hM dX12_waysOfPut_140 rfl rfl ?_
            refine sv_istore hM dX12_waysOfPut_141 (by decide) rfl ?_
            show sv_T sm_XS sm_cs sm_L sm_sh 9 (q_waysOfPut S) 276 143 [(0, .ref 0), (1, sv_I r7), (2, sv_I r13), (3, sv_I r19), (4, sv_I s32), (5, sv_I l5_173), (6, sv_I (0 : Int))] [] (sv_sts (sv_sts S [1143, 1144, 5, 1011] g27) [68, 69, 70] g161)
            obtain ⟨hin181, h⟩ := h
            have hJ : ∀ a : Int × sv_S, (sv_R a.1 ∧ sm_ok (sv_sts (sv_sts (sv_sts S [1143, 1144, 5, 1011] g27) [68, 69, 70] g161) [68, 69, 70] a.2) ∧ (0 ≤ a.1 ∧ a.1 ≤ (S 1071 0) ∧ sm_pt (a.2 68) (a.2 69) (a.2 70) = sm_pt (S 68) (S 69) (S 70))) → sv_T sm_XS sm_cs sm_L sm_sh 9 (q_waysOfPut S) 276 143 [(0, .ref 0), (1, sv_I r7), (2, sv_I r13), (3, sv_I r19), (4, sv_I s32), (5, sv_I l5_173), (6, sv_I a.1)] [] (sv_sts (sv_sts (sv_sts S [1143, 1144, 5, 1011] g27) [68, 69, 70] g161) [68, 69, 70] a.2) := by
              refine sv_loop (α := Int × sv_S) (fun a => sv_R a.1 ∧ sm_ok (sv_sts (sv_sts (sv_sts S [1143, 1144, 5, 1011] g27) [68, 69, 70] g161) [68, 69, 70] a.2) ∧ (0 ≤ a.1 ∧ a.1 ≤ (S 1071 0) ∧ sm_pt (a.2 68) (a.2 69) (a.2 70) = sm_pt (S 68) (S 69) (S 70))) (fun a => (S 1071 0) - a.1) (fun a => sv_T sm_XS sm_cs sm_L sm_sh 9 (q_waysOfPut S) 276 143 [(0, .ref 0), (1, sv_I r7), (2, sv_I r13), (3, sv_I r19), (4, sv_I s32), (5, sv_I l5_173), (6, sv_I a.1)] [] (sv_sts (sv_sts (sv_sts S [1143, 1144, 5, 1011] g27) [68, 69, 70] g161) [68, 69, 70] a.2)) (fun a q => (h a.1 q.1 a.2 q.2.2).1) (fun a q ih180 => ?_)
              obtain ⟨l6_179, g178⟩ := a
              obtain ⟨hl6_179, ok182, hin181i⟩ := q
              have h := (h l6_179 hl6_179 g178 hin181i).2
              show sv_T sm_XS sm_cs sm_L sm_sh 9 (q_waysOfPut S) 276 143 [(0, .ref 0), (1, sv_I r7), (2, sv_I r13), (3, sv_I r19), (4, sv_I s32), (5, sv_I l5_173), (6, sv_I l6_179)] [] (sv_sts (sv_sts (sv_sts S [1143, 1144, 5, 1011] g27) [68, 69, 70] g161) [68, 69, 70] g178)
              have md183 : sv_mod [68, 69, 70, 81, 82, 83, 84, 85, 86, 71, 74, 75, 1127, 78, 79, 80, 72, 76, 77, 1143, 1144, 5, 1011, 1150, 1149, 1145, 1113, 1111, 1112, 1100031] S (sv_sts (sv_sts (sv_sts S [1143, 1144, 5, 1011] g27) [68, 69, 70] g161) [68, 69, 70] g178) := sv_mod.sts md165 (by decide)
              have md184 : sv_mod [68, 69, 70] (sv_sts (sv_sts S [1143, 1144, 5, 1011] g27) [68, 69, 70] g161) (sv_sts (sv_sts (sv_sts S [1143, 1144, 5, 1011] g27) [68, 69, 70] g161) [68, 69, 70] g178) := sv_mod.sts sv_mod.rf (by decide)
              refine sv_iload hM dX12_waysOfPut_143 rfl rfl ?_
              refine sv_aload_n hM dX12_waysOfPut_145 rfl rfl ?_
              have k185 : sv_R (S 1071 0) := sm_okI ok182 sm_r1071 0
              have h := h k185
              refine sv_getI hM dX12_waysOfPut_146 sm_fl_765 (sm_a0 _) sm_k71 rfl (x := (S 1071 0)) rfl ?_
              refine sv_icmp_ge hM dX12_waysOfPut_149 hl6_179 k185 (t := 225) rfl rfl (fun hc => ?_) (fun hc => ?_)
              · have h := h.1 (hc)
                refine sv_ldc_w (d := (647740 : Int)) hM dX12_waysOfPut_225 sm_ck_1218 rfl rfl ?_
                refine sv_istore hM dX12_waysOfPut_228 (by decide) rfl ?_
                show sv_T sm_XS sm_cs sm_L sm_sh 9 (q_waysOfPut S) 276 230 [(0, .ref 0), (1, sv_I r7), (2, sv_I r13), (3, sv_I r19), (4, sv_I s32), (5, sv_I l5_173), (6, sv_I (647740 : Int))] [] (sv_sts (sv_sts (sv_sts S [1143, 1144, 5, 1011] g27) [68, 69, 70] g161) [68, 69, 70] g178)
                refine sv_aload_n hM dX12_waysOfPut_230 rfl rfl ?_
                refine sv_iload_n hM dX12_waysOfPut_231 rfl rfl ?_
                refine sv_iload hM dX12_waysOfPut_232 rfl rfl ?_
                obtain ⟨o186, h⟩ := h
                refine sv_callV hM dX12_waysOfPut_234 sm_iv_1092 (by decide) (sm_a0 _) rfl rfl (Nat.le_of_ble_eq_true rfl) sm_h207 (Nat.le_of_ble_eq_true rfl) (Nat.le_of_ble_eq_true rfl) (F' := 0) (Nat.le_of_ble_eq_true rfl) rfl (t_copySet r13 (647740 : Int) (sv_sts (sv_sts (sv_sts S [1143, 1144, 5, 1011] g27) [68, 69, 70] g161) [68, 69, 70] g178) ok182 hr13 (⟨by decide, by decide⟩ : sv_R (647740 : Int)) o186) (fun v S1 hq => ?_)
                obtain ⟨rfl, ok188, md189, hpo190⟩ := hq
                obtain ⟨g187, rfl⟩ : ∃ g, S1 = sv_sts (sv_sts (sv_sts (sv_sts S [1143, 1144, 5, 1011] g27) [68, 69, 70] g161) [68, 69, 70] g178) [68, 69, 70] g := ⟨_, md189.eq⟩
                show sv_T sm_XS sm_cs sm_L sm_sh 9 (q_waysOfPut S) 276 237 [(0, .ref 0), (1, sv_I r7), (2, sv_I r13), (3, sv_I r19), (4, sv_I s32), (5, sv_I l5_173), (6, sv_I (647740 : Int))] [] (sv_sts (sv_sts (sv_sts (sv_sts S [1143, 1144, 5, 1011] g27) [68, 69, 70] g161) [68, 69, 70] g178) [68, 69, 70] g187)
                have md191 : sv_mod [68, 69, 70, 81, 82, 83, 84, 85, 86, 71, 74, 75, 1127, 78, 79, 80, 72, 76, 77, 1143, 1144, 5, 1011, 1150, 1149, 1145, 1113, 1111, 1112, 1100031] S (sv_sts (sv_sts (sv_sts (sv_sts S [1143, 1144, 5, 1011] g27) [68, 69, 70] g161) [68, 69, 70] g178) [68, 69, 70] g187) := sv_mod.sts md183 (by decide)
                have md192 : sv_mod [68, 69, 70] (sv_sts (sv_sts S [1143, 1144, 5, 1011] g27) [68, 69, 70] g161) (sv_sts (sv_sts (sv_sts (sv_sts S [1143, 1144, 5, 1011] g27) [68, 69, 70] g161) [68, 69, 70] g178) [68, 69, 70] g187) := sv_mod.sts md184 (by decide)
                have h := h g187 hpo190
                refine sv_aload_n hM dX12_waysOfPut_237 rfl rfl ?_
                refine sv_iconst (d := (3 : Int)) hM dX12_waysOfPut_238 rfl rfl ?_
                refine sv_iload hM dX12_waysOfPut_239 rfl rfl ?_
                obtain ⟨o193, h⟩ := h
                refine sv_callV hM dX12_waysOfPut_241 sm_iv_1258 (by decide) (sm_a0 _) rfl rfl (Nat.le_of_ble_eq_true rfl) sm_h267 (Nat.le_of_ble_eq_true rfl) (Nat.le_of_ble_eq_true rfl) (F' := 5) (Nat.le_of_ble_eq_true rfl) rfl (t_replace (3 : Int) (647740 : Int) (sv_sts (sv_sts (sv_sts (sv_sts S [1143, 1144, 5, 1011] g27) [68, 69, 70] g161) [68, 69, 70] g178) [68, 69, 70] g187) ok188 (⟨by decide, by decide⟩ : sv_R (3 : Int)) (⟨by decide, by decide⟩ : sv_R (647740 : Int)) o193) (fun v S1 hq => ?_)
                obtain ⟨rfl, ok195, md196, hpo197⟩ := hq
                obtain ⟨g194, rfl⟩ : ∃ g, S1 = sv_sts (sv_sts (sv_sts (sv_sts (sv_sts S [1143, 1144, 5, 1011] g27) [68, 69, 70] g161) [68, 69, 70] g178) [68, 69, 70] g187) [68, 69, 70, 81, 82, 83, 84, 85, 86, 71, 74, 75, 1127, 78, 79, 80, 72, 76, 77, 1150] g := ⟨_, md196.eq⟩
                show sv_T sm_XS sm_cs sm_L sm_sh 9 (q_waysOfPut S) 276 244 [(0, .ref 0), (1, sv_I r7), (2, sv_I r13), (3, sv_I r19), (4, sv_I s32), (5, sv_I l5_173), (6, sv_I (647740 : Int))] [] (sv_sts (sv_sts (sv_sts (sv_sts (sv_sts S [1143, 1144, 5, 1011] g27) [68, 69, 70] g161) [68, 69, 70] g178) [68, 69, 70] g187) [68, 69, 70, 81, 82, 83, 84, 85, 86, 71, 74, 75, 1127, 78, 79, 80, 72, 76, 77, 1150] g194)
                have md198 : sv_mod [68, 69, 70, 81, 82, 83, 84, 85, 86, 71, 74, 75, 1127, 78, 79, 80, 72, 76, 77, 1143, 1144, 5, 1011, 1150, 1149, 1145, 1113, 1111, 1112, 1100031] S (sv_sts (sv_sts (sv_sts (sv_sts (sv_sts S [1143, 1144, 5, 1011] g27) [68, 69, 70] g161) [68, 69, 70] g178) [68, 69, 70] g187) [68, 69, 70, 81, 82, 83, 84, 85, 86, 71, 74, 75, 1127, 78, 79, 80, 72, 76, 77, 1150] g194) := sv_mod.sts md191 (by decide)
                have h := h g194 hpo197
                refine sv_iload_n hM dX12_waysOfPut_244 rfl rfl ?_
                refine sv_iconst (d := (3 : Int)) hM dX12_waysOfPut_245 rfl rfl ?_
                refine sv_iandm 2 (m := 4) (by decide) (by decide) (by decide) hM dX12_waysOfPut_246 rfl ?_
                refine sv_cond_eq hM dX12_waysOfPut_247 (⟨by omega, by omega⟩ : sv_R (r19 % 4)) (t := 260) rfl rfl (fun hc => ?_) (fun hc => ?_)
                · have h := h.1 (hc)
                  exact sv_vret hM dX12_waysOfPut_260 rfl ⟨rfl, ok195, md198, h⟩
                · have h := h.2 (hc)
                  refine sv_aload_n hM dX12_waysOfPut_250 rfl rfl ?_
                  refine sv_aload_n hM dX12_waysOfPut_251 rfl rfl ?_
                  have k199 : sv_R (S 1148 0) := sm_okI ok195 sm_r1148 0
                  have h := h k199
                  refine sv_getI hM dX12_waysOfPut_252 sm_fl_1188 (sm_a0 _) sm_k148 rfl (x := (S 1148 0)) rfl ?_
                  refine sv_bipush (d := (6 : Int)) hM dX12_waysOfPut_255 rfl rfl ?_
                  obtain ⟨o200, h⟩ := h
                  refine sv_callV hM dX12_waysOfPut_257 sm_iv_1292 (by decide) (sm_a0 _) rfl rfl (Nat.le_of_ble_eq_true rfl) sm_h263 (Nat.le_of_ble_eq_true rfl) (Nat.le_of_ble_eq_true rfl) (F' := 8) (Nat.le_of_ble_eq_true rfl) rfl (t_error_ (S 1148 0) (6 : Int) (sv_sts (sv_sts (sv_sts (sv_sts (sv_sts S [1143, 1144, 5, 1011] g27) [68, 69, 70] g161) [68, 69, 70] g178) [68, 69, 70] g187) [68, 69, 70, 81, 82, 83, 84, 85, 86, 71, 74, 75, 1127, 78, 79, 80, 72, 76, 77, 1150] g194) ok195 k199 (⟨by decide, by decide⟩ : sv_R (6 : Int)) o200) (fun v S1 hq => ?_)
                  obtain ⟨rfl, ok202, md203, hpo204⟩ := hq
                  obtain ⟨g201, rfl⟩ : ∃ g, S1 = sv_sts (sv_sts (sv_sts (sv_sts (sv_sts (sv_sts S [1143, 1144, 5, 1011] g27) [68, 69, 70] g161) [68, 69, 70] g178) [68, 69, 70] g187) [68, 69, 70, 81, 82, 83, 84, 85, 86, 71, 74, 75, 1127, 78, 79, 80, 72, 76, 77, 1150] g194) [68, 69, 70, 81, 82, 83, 84, 85, 86, 71, 74, 75, 1127, 78, 79, 80, 72, 76, 77, 1143, 1144, 5, 1011, 1150, 1149, 1145, 1113, 1111, 1112, 1100031] g := ⟨_, md203.eq⟩
                  show sv_T sm_XS sm_cs sm_L sm_sh 9 (q_waysOfPut S) 276 260 [(0, .ref 0), (1, sv_I r7), (2, sv_I r13), (3, sv_I r19), (4, sv_I s32), (5, sv_I l5_173), (6, sv_I (647740 : Int))] [] (sv_sts (sv_sts (sv_sts (sv_sts (sv_sts (sv_sts S [1143, 1144, 5, 1011] g27) [68, 69, 70] g161) [68, 69, 70] g178) [68, 69, 70] g187) [68, 69, 70, 81, 82, 83, 84, 85, 86, 71, 74, 75, 1127, 78, 79, 80, 72, 76, 77, 1150] g194) [68, 69, 70, 81, 82, 83, 84, 85, 86, 71, 74, 75, 1127, 78, 79, 80, 72, 76, 77, 1143, 1144, 5, 1011, 1150, 1149, 1145, 1113, 1111, 1112, 1100031] g201)
                  have md205 : sv_mod [68, 69, 70, 81, 82, 83, 84, 85, 86, 71, 74, 75, 1127, 78, 79, 80, 72, 76, 77, 1143, 1144, 5, 1011, 1150, 1149, 1145, 1113, 1111, 1112, 1100031] S (sv_sts (sv_sts (sv_sts (sv_sts (sv_sts (sv_sts S [1143, 1144, 5, 1011] g27) [68, 69, 70] g161) [68, 69, 70] g178) [68, 69, 70] g187) [68, 69, 70, 81, 82, 83, 84, 85, 86, 71, 74, 75, 1127, 78, 79, 80, 72, 76, 77, 1150] g194) [68, 69, 70, 81, 82, 83, 84, 85, 86, 71, 74, 75, 1127, 78, 79, 80, 72, 76, 77, 1143, 1144, 5, 1011, 1150, 1149, 1145, 1113, 1111, 1112, 1100031] g201) := sv_mod.sts md198 (by decide)
                  have h := h g201 hpo204
                  exact sv_vret hM dX12_waysOfPut_260 rfl ⟨rfl, ok202, md205, h⟩
              · have h := h.2 (hc)
                refine sv_iload hM dX12_waysOfPut_152 rfl rfl ?_
                refine sv_cond_eq hM dX12_waysOfPut_154 hl5_173 (t := 225) rfl rfl (fun hc => ?_) (fun hc => ?_)
                · have h := h.1 (hc)
                  refine sv_ldc_w (d := (647740 : Int)) hM dX12_waysOfPut_225 sm_ck_1218 rfl rfl ?_
                  refine sv_istore hM dX12_waysOfPut_228 (by decide) rfl ?_
                  show sv_T sm_XS sm_cs sm_L sm_sh 9 (q_waysOfPut S) 276 230 [(0, .ref 0), (1, sv_I r7), (2, sv_I r13), (3, sv_I r19), (4, sv_I s32), (5, sv_I l5_173), (6, sv_I (647740 : Int))] [] (sv_sts (sv_sts (sv_sts S [1143, 1144, 5, 1011] g27) [68, 69, 70] g161) [68, 69, 70] g178)
                  refine sv_aload_n hM dX12_waysOfPut_230 rfl rfl ?_
                  refine sv_iload_n hM dX12_waysOfPut_231 rfl rfl ?_
                  refine sv_iload hM dX12_waysOfPut_232 rfl rfl ?_
                  obtain ⟨o206, h⟩ := h
                  refine sv_callV hM dX12_waysOfPut_234 sm_iv_1092 (by decide) (sm_a0 _) rfl rfl (Nat.le_of_ble_eq_true rfl) sm_h207 (Nat.le_of_ble_eq_true rfl) (Nat.le_of_ble_eq_true rfl) (F' := 0) (Nat.le_of_ble_eq_true rfl) rfl (t_copySet r13 (647740 : Int) (sv_sts (sv_sts (sv_sts S [1143, 1144, 5, 1011] g27) [68, 69, 70] g161) [68, 69, 70] g178) ok182 hr13 (⟨by decide, by decide⟩ : sv_R (647740 : Int)) o206) (fun v S1 hq => ?_)
                  obtain ⟨rfl, ok208, md209, hpo210⟩ := hq
                  obtain ⟨g207, rfl⟩ : ∃ g, S1 = sv_sts (sv_sts (sv_sts (sv_sts S [1143, 1144, 5, 1011] g27) [68, 69, 70] g161) [68, 69, 70] g178) [68, 69, 70] g := ⟨_, md209.eq⟩
                  show sv_T sm_XS sm_cs sm_L sm_sh 9 (q_waysOfPut S) 276 237 [(0, .ref 0), (1, sv_I r7), (2, sv_I r13), (3, sv_I r19), (4, sv_I s32), (5, sv_I l5_173), (6, sv_I (647740 : Int))] [] (sv_sts (sv_sts (sv_sts (sv_sts S [1143, 1144, 5, 1011] g27) [68, 69, 70] g161) [68, 69, 70] g178) [68, 69, 70] g207)
                  have md211 : sv_mod [68, 69, 70, 81, 82, 83, 84, 85, 86, 71, 74, 75, 1127, 78, 79, 80, 72, 76, 77, 1143, 1144, 5, 1011, 1150, 1149, 1145, 1113, 1111, 1112, 1100031] S (sv_sts (sv_sts (sv_sts (sv_sts S [1143, 1144, 5, 1011] g27) [68, 69, 70] g161) [68, 69, 70] g178) [68, 69, 70] g207) := sv_mod.sts md183 (by decide)
                  have md212 : sv_mod [68, 69, 70] (sv_sts (sv_sts S [1143, 1144, 5, 1011] g27) [68, 69, 70] g161) (sv_sts (sv_sts (sv_sts (sv_sts S [1143, 1144, 5, 1011] g27) [68, 69, 70] g161) [68, 69, 70] g178) [68, 69, 70] g207) := sv_mod.sts md184 (by decide)
                  have h := h g207 hpo210
                  refine sv_aload_n hM dX12_waysOfPut_237 rfl rfl ?_
                  refine sv_iconst (d := (3 : Int)) hM dX12_waysOfPut_238 rfl rfl ?_
                  refine sv_iload hM dX12_waysOfPut_239 rfl rfl ?_
                  obtain ⟨o213, h⟩ := h
                  refine sv_callV hM dX12_waysOfPut_241 sm_iv_1258 (by decide) (sm_a0 _) rfl rfl (Nat.le_of_ble_eq_true rfl) sm_h267 (Nat.le_of_ble_eq_true rfl) (Nat.le_of_ble_eq_true rfl) (F' := 5) (Nat.le_of_ble_eq_true rfl) rfl (t_replace (3 : Int) (647740 : Int) (sv_sts (sv_sts (sv_sts (sv_sts S [1143, 1144, 5, 1011] g27) [68, 69, 70] g161) [68, 69, 70] g178) [68, 69, 70] g207) ok208 (⟨by decide, by decide⟩ : sv_R (3 : Int)) (⟨by decide, by decide⟩ : sv_R (647740 : Int)) o213) (fun v S1 hq => ?_)
                  obtain ⟨rfl, ok215, md216, hpo217⟩ := hq
                  obtain ⟨g214, rfl⟩ : ∃ g, S1 = sv_sts (sv_sts (sv_sts (sv_sts (sv_sts S [1143, 1144, 5, 1011] g27) [68, 69, 70] g161) [68, 69, 70] g178) [68, 69, 70] g207) [68, 69, 70, 81, 82, 83, 84, 85, 86, 71, 74, 75, 1127, 78, 79, 80, 72, 76, 77, 1150] g := ⟨_, md216.eq⟩
                  show sv_T sm_XS sm_cs sm_L sm_sh 9 (q_waysOfPut S) 276 244 [(0, .ref 0), (1, sv_I r7), (2, sv_I r13), (3, sv_I r19), (4, sv_I s32), (5, sv_I l5_173), (6, sv_I (647740 : Int))] [] (sv_sts (sv_sts (sv_sts (sv_sts (sv_sts S [1143, 1144, 5, 1011] g27) [68, 69, 70] g161) [68, 69, 70] g178) [68, 69, 70] g207) [68, 69, 70, 81, 82, 83, 84, 85, 86, 71, 74, 75, 1127, 78, 79, 80, 72, 76, 77, 1150] g214)
                  have md218 : sv_mod [68, 69, 70, 81, 82, 83, 84, 85, 86, 71, 74, 75, 1127, 78, 79, 80, 72, 76, 77, 1143, 1144, 5, 1011, 1150, 1149, 1145, 1113, 1111, 1112, 1100031] S (sv_sts (sv_sts (sv_sts (sv_sts (sv_sts S [1143, 1144, 5, 1011] g27) [68, 69, 70] g161) [68, 69, 70] g178) [68, 69, 70] g207) [68, 69, 70, 81, 82, 83, 84, 85, 86, 71, 74, 75, 1127, 78, 79, 80, 72, 76, 77, 1150] g214) := sv_mod.sts md211 (by decide)
                  have h := h g214 hpo217
                  refine sv_iload_n hM dX12_waysOfPut_244 rfl rfl ?_
                  refine sv_iconst (d := (3 : Int)) hM dX12_waysOfPut_245 rfl rfl ?_
                  refine sv_iandm 2 (m := 4) (by decide) (by decide) (by decide) hM dX12_waysOfPut_246 rfl ?_
                  refine sv_cond_eq hM dX12_waysOfPut_247 (⟨by omega, by omega⟩ : sv_R (r19 % 4)) (t := 260) rfl rfl (fun hc => ?_) (fun hc => ?_)
                  · have h := h.1 (hc)
                    exact sv_vret hM dX12_waysOfPut_260 rfl ⟨rfl, ok215, md218, h⟩
                  · have h := h.2 (hc)
                    refine sv_aload_n hM dX12_waysOfPut_250 rfl rfl ?_
                    refine sv_aload_n hM dX12_waysOfPut_251 rfl rfl ?_
                    have k219 : sv_R (S 1148 0) := sm_okI ok215 sm_r1148 0
                    have h := h k219
                    refine sv_getI hM dX12_waysOfPut_252 sm_fl_1188 (sm_a0 _) sm_k148 rfl (x := (S 1148 0)) rfl ?_
                    refine sv_bipush (d := (6 : Int)) hM dX12_waysOfPut_255 rfl rfl ?_
                    obtain ⟨o220, h⟩ := h
                    refine sv_callV hM dX12_waysOfPut_257 sm_iv_1292 (by decide) (sm_a0 _) rfl rfl (Nat.le_of_ble_eq_true rfl) sm_h263 (Nat.le_of_ble_eq_true rfl) (Nat.le_of_ble_eq_true rfl) (F' := 8) (Nat.le_of_ble_eq_true rfl) rfl (t_error_ (S 1148 0) (6 : Int) (sv_sts (sv_sts (sv_sts (sv_sts (sv_sts S [1143, 1144, 5, 1011] g27) [68, 69, 70] g161) [68, 69, 70] g178) [68, 69, 70] g207) [68, 69, 70, 81, 82, 83, 84, 85, 86, 71, 74, 75, 1127, 78, 79, 80, 72, 76, 77, 1150] g214) ok215 k219 (⟨by decide, by decide⟩ : sv_R (6 : Int)) o220) (fun v S1 hq => ?_)
                    obtain ⟨rfl, ok222, md223, hpo224⟩ := hq
                    obtain ⟨g221, rfl⟩ : ∃ g, S1 = sv_sts (sv_sts (sv_sts (sv_sts (sv_sts (sv_sts S [1143, 1144, 5, 1011] g27) [68, 69, 70] g161) [68, 69, 70] g178) [68, 69, 70] g207) [68, 69, 70, 81, 82, 83, 84, 85, 86, 71, 74, 75, 1127, 78, 79, 80, 72, 76, 77, 1150] g214) [68, 69, 70, 81, 82, 83, 84, 85, 86, 71, 74, 75, 1127, 78, 79, 80, 72, 76, 77, 1143, 1144, 5, 1011, 1150, 1149, 1145, 1113, 1111, 1112, 1100031] g := ⟨_, md223.eq⟩
                    show sv_T sm_XS sm_cs sm_L sm_sh 9 (q_waysOfPut S) 276 260 [(0, .ref 0), (1, sv_I r7), (2, sv_I r13), (3, sv_I r19), (4, sv_I s32), (5, sv_I l5_173), (6, sv_I (647740 : Int))] [] (sv_sts (sv_sts (sv_sts (sv_sts (sv_sts (sv_sts S [1143, 1144, 5, 1011] g27) [68, 69, 70] g161) [68, 69, 70] g178) [68, 69, 70] g207) [68, 69, 70, 81, 82, 83, 84, 85, 86, 71, 74, 75, 1127, 78, 79, 80, 72, 76, 77, 1150] g214) [68, 69, 70, 81, 82, 83, 84, 85, 86, 71, 74, 75, 1127, 78, 79, 80, 72, 76, 77, 1143, 1144, 5, 1011, 1150, 1149, 1145, 1113, 1111, 1112, 1100031] g221)
                    have md225 : sv_mod [68, 69, 70, 81, 82, 83, 84, 85, 86, 71, 74, 75, 1127, 78, 79, 80, 72, 76, 77, 1143, 1144, 5, 1011, 1150, 1149, 1145, 1113, 1111, 1112, 1100031] S (sv_sts (sv_sts (sv_sts (sv_sts (sv_sts (sv_sts S [1143, 1144, 5, 1011] g27) [68, 69, 70] g161) [68, 69, 70] g178) [68, 69, 70] g207) [68, 69, 70, 81, 82, 83, 84, 85, 86, 71, 74, 75, 1127, 78, 79, 80, 72, 76, 77, 1150] g214) [68, 69, 70, 81, 82, 83, 84, 85, 86, 71, 74, 75, 1127, 78, 79, 80, 72, 76, 77, 1143, 1144, 5, 1011, 1150, 1149, 1145, 1113, 1111, 1112, 1100031] g221) := sv_mod.sts md218 (by decide)
                    have h := h g221 hpo224
                    exact sv_vret hM dX12_waysOfPut_260 rfl ⟨rfl, ok222, md225, h⟩
                · have h := h.2 (hc)
                  refine sv_aload_n hM dX12_waysOfPut_157 rfl rfl ?_
                  refine sv_getA hM dX12_waysOfPut_158 sm_fl_220 (sm_a0 _) sm_k117 rfl ?_
                  refine sv_iload_n hM dX12_waysOfPut_161 rfl rfl ?_
                  have k226 : sv_RL (g178 69 r7) := sm_okJ ok182 sm_r69 r7
                  have h := h k226
                  refine sv_lald hM dX12_waysOfPut_162 (sm_a69 _) (by decide) o14.1 o14.2 rfl (x := (g178 69 r7)) rfl ?_
                  refine sv_aload_n hM dX12_waysOfPut_163 rfl rfl ?_
                  refine sv_getA hM dX12_waysOfPut_164 sm_fl_223 (sm_a0 _) sm_k118 rfl ?_
                  refine sv_iload_n hM dX12_waysOfPut_167 rfl rfl ?_
                  have k227 : sv_RL (g178 70 r7) := sm_okJ ok182 sm_r70 r7
                  have h := h k227
                  refine sv_lald hM dX12_waysOfPut_168 (sm_a70 _) (by decide) o14.1 o14.2 rfl (x := (g178 70 r7)) rfl ?_
                  refine sv_iload hM dX12_waysOfPut_169 rfl rfl ?_
                  obtain ⟨o228, h⟩ := h
                  refine sv_callS hM dX12_waysOfPut_171 sm_iv_1125 (Nat.le_of_ble_eq_true rfl) rfl rfl (Nat.le_of_ble_eq_true rfl) sm_h217 (Nat.le_of_ble_eq_true rfl) (Nat.le_of_ble_eq_true rfl) (F' := 0) (Nat.le_of_ble_eq_true rfl) rfl (t_isIn (g178 69 r7) (g178 70 r7) l6_179 (sv_sts (sv_sts (sv_sts S [1143, 1144, 5, 1011] g27) [68, 69, 70] g161) [68, 69, 70] g178) ok182 k226 k227 hl6_179 o228) (fun v S1 hq => ?_)
                  obtain ⟨r233, rfl, hr233, ok230, md231, hpo232⟩ := hq
                  obtain rfl : (sv_sts (sv_sts (sv_sts S [1143, 1144, 5, 1011] g27) [68, 69, 70] g161) [68, 69, 70] g178) = S1 := (funext fun j => md231 j (by intro q; cases q)).symm
                  show sv_T sm_XS sm_cs sm_L sm_sh 9 (q_waysOfPut S) 276 174 [(0, .ref 0), (1, sv_I r7), (2, sv_I r13), (3, sv_I r19), (4, sv_I s32), (5, sv_I l5_173), (6, sv_I l6_179)] [sv_I r233] (sv_sts (sv_sts (sv_sts S [1143, 1144, 5, 1011] g27) [68, 69, 70] g161) [68, 69, 70] g178)
                  have h := h r233 hr233 hpo232
                  refine sv_cond_eq hM dX12_waysOfPut_174 hr233 (t := 219) rfl rfl (fun hc => ?_) (fun hc => ?_)
                  · have h := h.1 (hc)
                    refine sv_iinc (d := (1 : Int)) hM dX12_waysOfPut_219 rfl (by decide) rfl rfl ?_
                    show sv_T sm_XS sm_cs sm_L sm_sh 9 (q_waysOfPut S) 276 222 [(0, .ref 0), (1, sv_I r7), (2, sv_I r13), (3, sv_I r19), (4, sv_I s32), (5, sv_I l5_173), (6, sv_I (l6_179 + (1 : Int)))] [] (sv_sts (sv_sts (sv_sts S [1143, 1144, 5, 1011] g27) [68, 69, 70] g161) [68, 69, 70] g178)
                    refine sv_goto hM dX12_waysOfPut_222 (pc' := 143) rfl ?_
                    obtain ⟨o234, h⟩ := h
                    have eS := sv_mod.eq md184
                    have hb := ih180 ((l6_179 + (1 : Int)), (sv_sts (sv_sts (sv_sts S [1143, 1144, 5, 1011] g27) [68, 69, 70] g161) [68, 69, 70] g178)) ⟨o234, (by rw [← eS]; exact ok230), h.1⟩ h.2
                    have hb : sv_T sm_XS sm_cs sm_L sm_sh 9 (q_waysOfPut S) 276 143 [(0, .ref 0), (1, sv_I r7), (2, sv_I r13), (3, sv_I r19), (4, sv_I s32), (5, sv_I l5_173), (6, sv_I (l6_179 + (1 : Int)))] [] (sv_sts (sv_sts (sv_sts S [1143, 1144, 5, 1011] g27) [68, 69, 70] g161) [68, 69, 70] g178) := Eq.mpr (congrArg (fun Z => sv_T sm_XS sm_cs sm_L sm_sh 9 (q_waysOfPut S) 276 143 [(0, .ref 0), (1, sv_I r7), (2, sv_I r13), (3, sv_I r19), (4, sv_I s32), (5, sv_I l5_173), (6, sv_I (l6_179 + (1 : Int)))] [] Z) eS) hb
                    exact sv_less (lv := [(0, .ref 0), (1, sv_I r7), (2, sv_I r13), (3, sv_I r19), (4, sv_I s32), (5, sv_I l5_173), (6, sv_I (l6_179 + (1 : Int)))]) (sv_Sub_cons rfl (sv_Sub_cons rfl (sv_Sub_cons rfl (sv_Sub_cons rfl (sv_Sub_cons rfl (sv_Sub_cons rfl (sv_Sub_cons rfl sv_Sub_nil))))))) hb
                  · have h := h.2 (hc)
                    refine sv_aload_n hM dX12_waysOfPut_177 rfl rfl ?_
                    refine sv_iload hM dX12_waysOfPut_178 rfl rfl ?_
                    obtain ⟨o235, h⟩ := h
                    refine sv_callV hM dX12_waysOfPut_180 sm_iv_1169 (by decide) (sm_a0 _) rfl rfl (Nat.le_of_ble_eq_true rfl) sm_h239 (Nat.le_of_ble_eq_true rfl) (Nat.le_of_ble_eq_true rfl) (F' := 0) (Nat.le_of_ble_eq_true rfl) rfl (t_isArrayLabel l6_179 (sv_sts (sv_sts (sv_sts S [1143, 1144, 5, 1011] g27) [68, 69, 70] g161) [68, 69, 70] g178) ok230 hl6_179 o235) (fun v S1 hq => ?_)
                    obtain ⟨r240, rfl, hr240, ok237, md238, hpo239⟩ := hq
                    obtain rfl : (sv_sts (sv_sts (sv_sts S [1143, 1144, 5, 1011] g27) [68, 69, 70] g161) [68, 69, 70] g178) = S1 := (funext fun j => md238 j (by intro q; cases q)).symm
                    show sv_T sm_XS sm_cs sm_L sm_sh 9 (q_waysOfPut S) 276 183 [(0, .ref 0), (1, sv_I r7), (2, sv_I r13), (3, sv_I r19), (4, sv_I s32), (5, sv_I l5_173), (6, sv_I l6_179)] [sv_I r240] (sv_sts (sv_sts (sv_sts S [1143, 1144, 5, 1011] g27) [68, 69, 70] g161) [68, 69, 70] g178)
                    have h := h r240 hr240 hpo239
                    refine sv_cond_eq hM dX12_waysOfPut_183 hr240 (t := 219) rfl rfl (fun hc => ?_) (fun hc => ?_)
                    · have h := h.1 (hc)
                      refine sv_iinc (d := (1 : Int)) hM dX12_waysOfPut_219 rfl (by decide) rfl rfl ?_
                      show sv_T sm_XS sm_cs sm_L sm_sh 9 (q_waysOfPut S) 276 222 [(0, .ref 0), (1, sv_I r7), (2, sv_I r13), (3, sv_I r19), (4, sv_I s32), (5, sv_I l5_173), (6, sv_I (l6_179 + (1 : Int)))] [] (sv_sts (sv_sts (sv_sts S [1143, 1144, 5, 1011] g27) [68, 69, 70] g161) [68, 69, 70] g178)
                      refine sv_goto hM dX12_waysOfPut_222 (pc' := 143) rfl ?_
                      obtain ⟨o241, h⟩ := h
                      have eS := sv_mod.eq md184
                      have hb := ih180 ((l6_179 + (1 : Int)), (sv_sts (sv_sts (sv_sts S [1143, 1144, 5, 1011] g27) [68, 69, 70] g161) [68, 69, 70] g178)) ⟨o241, (by rw [← eS]; exact ok237), h.1⟩ h.2
                      have hb : sv_T sm_XS sm_cs sm_L sm_sh 9 (q_waysOfPut S) 276 143 [(0, .ref 0), (1, sv_I r7), (2, sv_I r13), (3, sv_I r19), (4, sv_I s32), (5, sv_I l5_173), (6, sv_I (l6_179 + (1 : Int)))] [] (sv_sts (sv_sts (sv_sts S [1143, 1144, 5, 1011] g27) [68, 69, 70] g161) [68, 69, 70] g178) := Eq.mpr (congrArg (fun Z => sv_T sm_XS sm_cs sm_L sm_sh 9 (q_waysOfPut S) 276 143 [(0, .ref 0), (1, sv_I r7), (2, sv_I r13), (3, sv_I r19), (4, sv_I s32), (5, sv_I l5_173), (6, sv_I (l6_179 + (1 : Int)))] [] Z) eS) hb
                      exact sv_less (lv := [(0, .ref 0), (1, sv_I r7), (2, sv_I r13), (3, sv_I r19), (4, sv_I s32), (5, sv_I l5_173), (6, sv_I (l6_179 + (1 : Int)))]) (sv_Sub_cons rfl (sv_Sub_cons rfl (sv_Sub_cons rfl (sv_Sub_cons rfl (sv_Sub_cons rfl (sv_Sub_cons rfl (sv_Sub_cons rfl sv_Sub_nil))))))) hb
                    · have h := h.2 (hc)
                      refine sv_aload_n hM dX12_waysOfPut_186 rfl rfl ?_
                      refine sv_getA hM dX12_waysOfPut_187 sm_fl_256 (sm_a0 _) sm_k133 rfl ?_
                      refine sv_aload_n hM dX12_waysOfPut_190 rfl rfl ?_
                      refine sv_sipush (d := (639 : Int)) hM dX12_waysOfPut_191 rfl rfl ?_
                      refine sv_iload hM dX12_waysOfPut_194 rfl rfl ?_
                      obtain ⟨o242, h⟩ := h
                      refine sv_callV hM dX12_waysOfPut_196 sm_iv_1101 (by decide) (sm_a0 _) rfl rfl (Nat.le_of_ble_eq_true rfl) sm_h226 (Nat.le_of_ble_eq_true rfl) (Nat.le_of_ble_eq_true rfl) (F' := 1) (Nat.le_of_ble_eq_true rfl) rfl (t_of (639 : Int) l6_179 (sv_sts (sv_sts (sv_sts S [1143, 1144, 5, 1011] g27) [68, 69, 70] g161) [68, 69, 70] g178) ok237 (⟨by decide, by decide⟩ : sv_R (639 : Int)) hl6_179 o242) (fun v S1 hq => ?_)
                      obtain ⟨r247, rfl, hr247, ok244, md245, hpo246⟩ := hq
                      obtain rfl : (sv_sts (sv_sts (sv_sts S [1143, 1144, 5, 1011] g27) [68, 69, 70] g161) [68, 69, 70] g178) = S1 := (funext fun j => md245 j (by intro q; cases q)).symm
                      show sv_T sm_XS sm_cs sm_L sm_sh 9 (q_waysOfPut S) 276 199 [(0, .ref 0), (1, sv_I r7), (2, sv_I r13), (3, sv_I r19), (4, sv_I s32), (5, sv_I l5_173), (6, sv_I l6_179)] [sv_I r247, .ref 81] (sv_sts (sv_sts (sv_sts S [1143, 1144, 5, 1011] g27) [68, 69, 70] g161) [68, 69, 70] g178)
                      have h := h r247 hr247 hpo246
                      obtain ⟨o248, h⟩ := h
                      have k249 : (0 ≤ (S 81 r247) ∧ (S 81 r247) ≤ 1) := sm_okZ ok244 sm_r81 r247
                      have h := h k249
                      refine sv_zald hM dX12_waysOfPut_199 (sm_a81 _) (by decide) o248.1 o248.2 rfl (x := (S 81 r247)) rfl ?_
                      refine sv_cond_eq hM dX12_waysOfPut_200 (sv_R01 k249) (t := 219) rfl rfl (fun hc => ?_) (fun hc => ?_)
                      · have h := h.1 (hc)
                        refine sv_iinc (d := (1 : Int)) hM dX12_waysOfPut_219 rfl (by decide) rfl rfl ?_
                        show sv_T sm_XS sm_cs sm_L sm_sh 9 (q_waysOfPut S) 276 222 [(0, .ref 0), (1, sv_I r7), (2, sv_I r13), (3, sv_I r19), (4, sv_I s32), (5, sv_I l5_173), (6, sv_I (l6_179 + (1 : Int)))] [] (sv_sts (sv_sts (sv_sts S [1143, 1144, 5, 1011] g27) [68, 69, 70] g161) [68, 69, 70] g178)
                        refine sv_goto hM dX12_waysOfPut_222 (pc' := 143) rfl ?_
                        obtain ⟨o250, h⟩ := h
                        have eS := sv_mod.eq md184
                        have hb := ih180 ((l6_179 + (1 : Int)), (sv_sts (sv_sts (sv_sts S [1143, 1144, 5, 1011] g27) [68, 69, 70] g161) [68, 69, 70] g178)) ⟨o250, (by rw [← eS]; exact ok244), h.1⟩ h.2
                        have hb : sv_T sm_XS sm_cs sm_L sm_sh 9 (q_waysOfPut S) 276 143 [(0, .ref 0), (1, sv_I r7), (2, sv_I r13), (3, sv_I r19), (4, sv_I s32), (5, sv_I l5_173), (6, sv_I (l6_179 + (1 : Int)))] [] (sv_sts (sv_sts (sv_sts S [1143, 1144, 5, 1011] g27) [68, 69, 70] g161) [68, 69, 70] g178) := Eq.mpr (congrArg (fun Z => sv_T sm_XS sm_cs sm_L sm_sh 9 (q_waysOfPut S) 276 143 [(0, .ref 0), (1, sv_I r7), (2, sv_I r13), (3, sv_I r19), (4, sv_I s32), (5, sv_I l5_173), (6, sv_I (l6_179 + (1 : Int)))] [] Z) eS) hb
                        exact sv_less (lv := [(0, .ref 0), (1, sv_I r7), (2, sv_I r13), (3, sv_I r19), (4, sv_I s32), (5, sv_I l5_173), (6, sv_I (l6_179 + (1 : Int)))]) (sv_Sub_cons rfl (sv_Sub_cons rfl (sv_Sub_cons rfl (sv_Sub_cons rfl (sv_Sub_cons rfl (sv_Sub_cons rfl (sv_Sub_cons rfl sv_Sub_nil))))))) hb
                      · have h := h.2 (hc)
                        refine sv_aload_n hM dX12_waysOfPut_203 rfl rfl ?_
                        refine sv_aload_n hM dX12_waysOfPut_204 rfl rfl ?_
                        refine sv_sipush (d := (639 : Int)) hM dX12_waysOfPut_205 rfl rfl ?_
                        refine sv_iload hM dX12_waysOfPut_208 rfl rfl ?_
                        refine sv_iconst (d := (0 : Int)) hM dX12_waysOfPut_210 rfl rfl ?_
                        obtain ⟨o251, h⟩ := h
                        refine sv_callV hM dX12_waysOfPut_211 sm_iv_1163 (by decide) (sm_a0 _) rfl rfl (Nat.le_of_ble_eq_true rfl) sm_h225 (Nat.le_of_ble_eq_true rfl) (Nat.le_of_ble_eq_true rfl) (F' := 1) (Nat.le_of_ble_eq_true rfl) rfl (t_field (639 : Int) l6_179 (0 : Int) (sv_sts (sv_sts (sv_sts S [1143, 1144, 5, 1011] g27) [68, 69, 70] g161) [68, 69, 70] g178) ok244 (⟨by decide, by decide⟩ : sv_R (639 : Int)) hl6_179 (⟨by decide, by decide⟩ : sv_R (0 : Int)) o251) (fun v S1 hq => ?_)
                        obtain ⟨r256, rfl, hr256, ok253, md254, hpo255⟩ := hq
                        obtain rfl : (sv_sts (sv_sts (sv_sts S [1143, 1144, 5, 1011] g27) [68, 69, 70] g161) [68, 69, 70] g178) = S1 := (funext fun j => md254 j (by intro q; cases q)).symm
                        show sv_T sm_XS sm_cs sm_L sm_sh 9 (q_waysOfPut S) 276 214 [(0, .ref 0), (1, sv_I r7), (2, sv_I r13), (3, sv_I r19), (4, sv_I s32), (5, sv_I l5_173), (6, sv_I l6_179)] [sv_I r256, .ref 0] (sv_sts (sv_sts (sv_sts S [1143, 1144, 5, 1011] g27) [68, 69, 70] g161) [68, 69, 70] g178)
                        have h := h r256 hr256 hpo255
                        refine sv_bipush (d := (64 : Int)) hM dX12_waysOfPut_214 rfl rfl ?_
                        obtain ⟨o257, h⟩ := h
                        refine sv_callV hM dX12_waysOfPut_216 sm_iv_1072 (by decide) (sm_a0 _) rfl rfl (Nat.le_of_ble_eq_true rfl) sm_h213 (Nat.le_of_ble_eq_true rfl) (Nat.le_of_ble_eq_true rfl) (F' := 2) (Nat.le_of_ble_eq_true rfl) rfl (t_addSort r256 (64 : Int) (sv_sts (sv_sts (sv_sts S [1143, 1144, 5, 1011] g27) [68, 69, 70] g161) [68, 69, 70] g178) ok253 hr256 (⟨by decide, by decide⟩ : sv_R (64 : Int)) o257) (fun v S1 hq => ?_)
                        obtain ⟨rfl, ok259, md260, hpo261⟩ := hq
                        obtain ⟨g258, rfl⟩ : ∃ g, S1 = sv_sts (sv_sts (sv_sts (sv_sts S [1143, 1144, 5, 1011] g27) [68, 69, 70] g161) [68, 69, 70] g178) [68, 69, 70] g := ⟨_, md260.eq⟩
                        show sv_T sm_XS sm_cs sm_L sm_sh 9 (q_waysOfPut S) 276 219 [(0, .ref 0), (1, sv_I r7), (2, sv_I r13), (3, sv_I r19), (4, sv_I s32), (5, sv_I l5_173), (6, sv_I l6_179)] [] (sv_sts (sv_sts (sv_sts (sv_sts S [1143, 1144, 5, 1011] g27) [68, 69, 70] g161) [68, 69, 70] g178) [68, 69, 70] g258)
                        have md262 : sv_mod [68, 69, 70, 81, 82, 83, 84, 85, 86, 71, 74, 75, 1127, 78, 79, 80, 72, 76, 77, 1143, 1144, 5, 1011, 1150, 1149, 1145, 1113, 1111, 1112, 1100031] S (sv_sts (sv_sts (sv_sts (sv_sts S [1143, 1144, 5, 1011] g27) [68, 69, 70] g161) [68, 69, 70] g178) [68, 69, 70] g258) := sv_mod.sts md183 (by decide)
                        have md263 : sv_mod [68, 69, 70] (sv_sts (sv_sts S [1143, 1144, 5, 1011] g27) [68, 69, 70] g161) (sv_sts (sv_sts (sv_sts (sv_sts S [1143, 1144, 5, 1011] g27) [68, 69, 70] g161) [68, 69, 70] g178) [68, 69, 70] g258) := sv_mod.sts md184 (by decide)
                        have h := h g258 hpo261
                        refine sv_iinc (d := (1 : Int)) hM dX12_waysOfPut_219 rfl (by decide) rfl rfl ?_
                        show sv_T sm_XS sm_cs sm_L sm_sh 9 (q_waysOfPut S) 276 222 [(0, .ref 0), (1, sv_I r7), (2, sv_I r13), (3, sv_I r19), (4, sv_I s32), (5, sv_I l5_173), (6, sv_I (l6_179 + (1 : Int)))] [] (sv_sts (sv_sts (sv_sts (sv_sts S [1143, 1144, 5, 1011] g27) [68, 69, 70] g161) [68, 69, 70] g178) [68, 69, 70] g258)
                        refine sv_goto hM dX12_waysOfPut_222 (pc' := 143) rfl ?_
                        obtain ⟨o264, h⟩ := h
                        have eS := sv_mod.eq md263
                        have hb := ih180 ((l6_179 + (1 : Int)), (sv_sts (sv_sts (sv_sts (sv_sts S [1143, 1144, 5, 1011] g27) [68, 69, 70] g161) [68, 69, 70] g178) [68, 69, 70] g258)) ⟨o264, (by rw [← eS]; exact ok259), h.1⟩ h.2
                        have hb : sv_T sm_XS sm_cs sm_L sm_sh 9 (q_waysOfPut S) 276 143 [(0, .ref 0), (1, sv_I r7), (2, sv_I r13), (3, sv_I r19), (4, sv_I s32), (5, sv_I l5_173), (6, sv_I (l6_179 + (1 : Int)))] [] (sv_sts (sv_sts (sv_sts (sv_sts S [1143, 1144, 5, 1011] g27) [68, 69, 70] g161) [68, 69, 70] g178) [68, 69, 70] g258) := Eq.mpr (congrArg (fun Z => sv_T sm_XS sm_cs sm_L sm_sh 9 (q_waysOfPut S) 276 143 [(0, .ref 0), (1, sv_I r7), (2, sv_I r13), (3, sv_I r19), (4, sv_I s32), (5, sv_I l5_173), (6, sv_I (l6_179 + (1 : Int)))] [] Z) eS) hb
                        exact sv_less (lv := [(0, .ref 0), (1, sv_I r7), (2, sv_I r13), (3, sv_I r19), (4, sv_I s32), (5, sv_I l5_173), (6, sv_I (l6_179 + (1 : Int)))]) (sv_Sub_cons rfl (sv_Sub_cons rfl (sv_Sub_cons rfl (sv_Sub_cons rfl (sv_Sub_cons rfl (sv_Sub_cons rfl (sv_Sub_cons rfl sv_Sub_nil))))))) hb
            have eS := sv_mod.eq (sv_mod.rf (l := [68, 69, 70]) (S := (sv_sts (sv_sts S [1143, 1144, 5, 1011] g27) [68, 69, 70] g161)))
            have hb := hJ ((0 : Int), (sv_sts (sv_sts S [1143, 1144, 5, 1011] g27) [68, 69, 70] g161)) ⟨(⟨by decide, by decide⟩ : sv_R (0 : Int)), (by rw [← eS]; exact ok177), hin181⟩
            have hb : sv_T sm_XS sm_cs sm_L sm_sh 9 (q_waysOfPut S) 276 143 [(0, .ref 0), (1, sv_I r7), (2, sv_I r13), (3, sv_I r19), (4, sv_I s32), (5, sv_I l5_173), (6, sv_I (0 : Int))] [] (sv_sts (sv_sts S [1143, 1144, 5, 1011] g27) [68, 69, 70] g161) := Eq.mpr (congrArg (fun Z => sv_T sm_XS sm_cs sm_L sm_sh 9 (q_waysOfPut S) 276 143 [(0, .ref 0), (1, sv_I r7), (2, sv_I r13), (3, sv_I r19), (4, sv_I s32), (5, sv_I l5_173), (6, sv_I (0 : Int))] [] Z) eS) hb
            exact hb
          · have h := h.2 (hc)
            have J268 : ∀ s265 : Int, sv_R s265 → (s265 = 0 ∨ s265 = 1) → sv_T sm_XS sm_cs sm_L sm_sh 9 (q_waysOfPut S) 276 132 [(0, .ref 0), (1, sv_I r7), (2, sv_I r13), (3, sv_I r19), (4, sv_I s32), (5, sv_I l5_173), (6, sv_I l6_174)] [sv_I s265] (sv_sts (sv_sts S [1143, 1144, 5, 1011] g27) [68, 69, 70] g161) := by
              intro s265 hs265 hin266
              have h := h.1 s265 hs265 hin266
              refine sv_istore hM dX12_waysOfPut_132 (by decide) rfl ?_
              show sv_T sm_XS sm_cs sm_L sm_sh 9 (q_waysOfPut S) 276 134 [(0, .ref 0), (1, sv_I r7), (2, sv_I r13), (3, sv_I r19), (4, sv_I s32), (5, sv_I s265), (6, sv_I l6_174)] [] (sv_sts (sv_sts S [1143, 1144, 5, 1011] g27) [68, 69, 70] g161)
              refine sv_iinc (d := (1 : Int)) hM dX12_waysOfPut_134 rfl (by decide) rfl rfl ?_
              show sv_T sm_XS sm_cs sm_L sm_sh 9 (q_waysOfPut S) 276 137 [(0, .ref 0), (1, sv_I r7), (2, sv_I r13), (3, sv_I r19), (4, sv_I s32), (5, sv_I s265), (6, sv_I (l6_174 + (1 : Int)))] [] (sv_sts (sv_sts S [1143, 1144, 5, 1011] g27) [68, 69, 70] g161)
              refine sv_goto hM dX12_waysOfPut_137 (pc' := 94) rfl ?_
              obtain ⟨o267, h⟩ := h
              have hb := ih175 (s265, (l6_174 + (1 : Int)), ()) ⟨hs265, o267, ok177, h.1⟩ h.2
              exact sv_less (lv := [(0, .ref 0), (1, sv_I r7), (2, sv_I r13), (3, sv_I r19), (4, sv_I s32), (5, sv_I s265), (6, sv_I (l6_174 + (1 : Int)))]) (sv_Sub_cons rfl (sv_Sub_cons rfl (sv_Sub_cons rfl (sv_Sub_cons rfl (sv_Sub_cons rfl (sv_Sub_cons rfl (sv_Sub_cons rfl sv_Sub_nil))))))) hb
            have h := h.2
            refine sv_iload hM dX12_waysOfPut_103 rfl rfl ?_
            refine sv_cond_ne hM dX12_waysOfPut_105 hl5_173 (t := 127) rfl rfl (fun hc => ?_) (fun hc => ?_)
            · have h := h.1 (hc)
              refine sv_iconst (d := (1 : Int)) hM dX12_waysOfPut_127 rfl rfl ?_
              refine sv_goto hM dX12_waysOfPut_128 (pc' := 132) rfl ?_
              have hb := J268 (1 : Int) (⟨by decide, by decide⟩ : sv_R (1 : Int)) h
              exact sv_less (lv := [(0, .ref 0), (1, sv_I r7), (2, sv_I r13), (3, sv_I r19), (4, sv_I s32), (5, sv_I l5_173), (6, sv_I l6_174)]) (sv_Sub_cons rfl (sv_Sub_cons rfl (sv_Sub_cons rfl (sv_Sub_cons rfl (sv_Sub_cons rfl (sv_Sub_cons rfl (sv_Sub_cons rfl sv_Sub_nil))))))) hb
            · have h := h.2 (hc)
              refine sv_aload_n hM dX12_waysOfPut_108 rfl rfl ?_
              refine sv_iload hM dX12_waysOfPut_109 rfl rfl ?_
              obtain ⟨o269, h⟩ := h
              refine sv_callV hM dX12_waysOfPut_111 sm_iv_1153 (by decide) (sm_a0 _) rfl rfl (Nat.le_of_ble_eq_true rfl) sm_h242 (Nat.le_of_ble_eq_true rfl) (Nat.le_of_ble_eq_true rfl) (F' := 1) (Nat.le_of_ble_eq_true rfl) rfl (t_hasKey l6_174 (sv_sts (sv_sts S [1143, 1144, 5, 1011] g27) [68, 69, 70] g161) ok177 hl6_174 o269) (fun v S1 hq => ?_)
              obtain ⟨r274, rfl, hr274, ok271, md272, hpo273⟩ := hq
              obtain rfl : (sv_sts (sv_sts S [1143, 1144, 5, 1011] g27) [68, 69, 70] g161) = S1 := (funext fun j => md272 j (by intro q; cases q)).symm
              show sv_T sm_XS sm_cs sm_L sm_sh 9 (q_waysOfPut S) 276 114 [(0, .ref 0), (1, sv_I r7), (2, sv_I r13), (3, sv_I r19), (4, sv_I s32), (5, sv_I l5_173), (6, sv_I l6_174)] [sv_I r274] (sv_sts (sv_sts S [1143, 1144, 5, 1011] g27) [68, 69, 70] g161)
              have h := h r274 hr274 hpo273
              refine sv_cond_eq hM dX12_waysOfPut_114 hr274 (t := 131) rfl rfl (fun hc => ?_) (fun hc => ?_)
              · have h := h.1 (hc)
                refine sv_iconst (d := (0 : Int)) hM dX12_waysOfPut_131 rfl rfl ?_
                have hb := J268 (0 : Int) (⟨by decide, by decide⟩ : sv_R (0 : Int)) h
                exact sv_less (lv := [(0, .ref 0), (1, sv_I r7), (2, sv_I r13), (3, sv_I r19), (4, sv_I s32), (5, sv_I l5_173), (6, sv_I l6_174)]) (sv_Sub_cons rfl (sv_Sub_cons rfl (sv_Sub_cons rfl (sv_Sub_cons rfl (sv_Sub_cons rfl (sv_Sub_cons rfl (sv_Sub_cons rfl sv_Sub_nil))))))) hb
              · have h := h.2 (hc)
                refine sv_aload_n hM dX12_waysOfPut_117 rfl rfl ?_
                refine sv_getA hM dX12_waysOfPut_118 sm_fl_277 (sm_a0 _) sm_k140 rfl ?_
                refine sv_iload hM dX12_waysOfPut_121 rfl rfl ?_
                obtain ⟨o275, h⟩ := h
                have k276 : (0 ≤ (S 88 l6_174) ∧ (S 88 l6_174) ≤ 1) := sm_okZ ok271 sm_r88 l6_174
                have h := h k276
                refine sv_zald hM dX12_waysOfPut_123 (sm_a88 _) (by decide) o275.1 o275.2 rfl (x := (S 88 l6_174)) rfl ?_
                refine sv_cond_eq hM dX12_waysOfPut_124 (sv_R01 k276) (t := 131) rfl rfl (fun hc => ?_) (fun hc => ?_)
                · have h := h.1 (hc)
                  refine sv_iconst (d := (0 : Int)) hM dX12_waysOfPut_131 rfl rfl ?_
                  have hb := J268 (0 : Int) (⟨by decide, by decide⟩ : sv_R (0 : Int)) h
                  exact sv_less (lv := [(0, .ref 0), (1, sv_I r7), (2, sv_I r13), (3, sv_I r19), (4, sv_I s32), (5, sv_I l5_173), (6, sv_I l6_174)]) (sv_Sub_cons rfl (sv_Sub_cons rfl (sv_Sub_cons rfl (sv_Sub_cons rfl (sv_Sub_cons rfl (sv_Sub_cons rfl (sv_Sub_cons rfl sv_Sub_nil))))))) hb
                · have h := h.2 (hc)
                  refine sv_iconst (d := (1 : Int)) hM dX12_waysOfPut_127 rfl rfl ?_
                  refine sv_goto hM dX12_waysOfPut_128 (pc' := 132) rfl ?_
                  have hb := J268 (1 : Int) (⟨by decide, by decide⟩ : sv_R (1 : Int)) h
                  exact sv_less (lv := [(0, .ref 0), (1, sv_I r7), (2, sv_I r13), (3, sv_I r19), (4, sv_I s32), (5, sv_I l5_173), (6, sv_I l6_174)]) (sv_Sub_cons rfl (sv_Sub_cons rfl (sv_Sub_cons rfl (sv_Sub_cons rfl (sv_Sub_cons rfl (sv_Sub_cons rfl (sv_Sub_cons rfl sv_Sub_nil))))))) hb
        exact hJ (r172, (0 : Int), ()) ⟨hr172, (⟨by decide, by decide⟩ : sv_R (0 : Int)), ok169, hin176⟩
  have h := h.2
  refine sv_iload_n hM dX12_waysOfPut_27 rfl rfl ?_
  refine sv_bipush (d := (-4 : Int)) hM dX12_waysOfPut_28 rfl rfl ?_
  refine sv_anyI hM dX12_waysOfPut_30 rfl rfl (fun r278 hr278 _ => ?_)
  have h := h r278 hr278
  refine sv_cond_ne hM dX12_waysOfPut_31 hr278 (t := 42) rfl rfl (fun hc => ?_) (fun hc => ?_)
  · have h := h.1 (hc)
    refine sv_iconst (d := (1 : Int)) hM dX12_waysOfPut_42 rfl rfl ?_
    refine sv_goto hM dX12_waysOfPut_43 (pc' := 47) rfl ?_
    have hb := J277 (1 : Int) (⟨by decide, by decide⟩ : sv_R (1 : Int)) h
    exact sv_less (lv := [(0, .ref 0), (1, sv_I r7), (2, sv_I r13), (3, sv_I r19)]) (sv_Sub_cons rfl (sv_Sub_cons rfl (sv_Sub_cons rfl (sv_Sub_cons rfl sv_Sub_nil)))) hb
  · have h := h.2 (hc)
    refine sv_aload_n hM dX12_waysOfPut_34 rfl rfl ?_
    refine sv_iload_n hM dX12_waysOfPut_35 rfl rfl ?_
    refine sv_callV hM dX12_waysOfPut_36 sm_iv_1062 (by decide) (sm_a0 _) rfl rfl (Nat.le_of_ble_eq_true rfl) sm_h209 (Nat.le_of_ble_eq_true rfl) (Nat.le_of_ble_eq_true rfl) (F' := 0) (Nat.le_of_ble_eq_true rfl) rfl (t_hasLabels r7 (sv_sts S [1143, 1144, 5, 1011] g27) ok28 hr7 o14) (fun v S1 hq => ?_)
    obtain ⟨r283, rfl, hr283, ok280, md281, hpo282⟩ := hq
    obtain rfl : (sv_sts S [1143, 1144, 5, 1011] g27) = S1 := (funext fun j => md281 j (by intro q; cases q)).symm
    show sv_T sm_XS sm_cs sm_L sm_sh 9 (q_waysOfPut S) 276 39 [(0, .ref 0), (1, sv_I r7), (2, sv_I r13), (3, sv_I r19)] [sv_I r283] (sv_sts S [1143, 1144, 5, 1011] g27)
    have h := h r283 hr283 hpo282
    refine sv_cond_eq hM dX12_waysOfPut_39 hr283 (t := 46) rfl rfl (fun hc => ?_) (fun hc => ?_)
    · have h := h.1 (hc)
      refine sv_iconst (d := (0 : Int)) hM dX12_waysOfPut_46 rfl rfl ?_
      have hb := J277 (0 : Int) (⟨by decide, by decide⟩ : sv_R (0 : Int)) h
      exact sv_less (lv := [(0, .ref 0), (1, sv_I r7), (2, sv_I r13), (3, sv_I r19)]) (sv_Sub_cons rfl (sv_Sub_cons rfl (sv_Sub_cons rfl (sv_Sub_cons rfl sv_Sub_nil)))) hb
    · have h := h.2 (hc)
      refine sv_iconst (d := (1 : Int)) hM dX12_waysOfPut_42 rfl rfl ?_
      refine sv_goto hM dX12_waysOfPut_43 (pc' := 47) rfl ?_
      have hb := J277 (1 : Int) (⟨by decide, by decide⟩ : sv_R (1 : Int)) h
      exact sv_less (lv := [(0, .ref 0), (1, sv_I r7), (2, sv_I r13), (3, sv_I r19)]) (sv_Sub_cons rfl (sv_Sub_cons rfl (sv_Sub_cons rfl (sv_Sub_cons rfl sv_Sub_nil)))) hb
def q_waysOfDelete (S : sv_S) : Option Value → sv_S → Prop := fun v S' => v = none ∧ sm_ok S' ∧ sv_mod [68, 69, 70, 81, 82, 83, 84, 85, 86, 71, 74, 75, 1127, 78, 79, 80, 72, 76, 77, 1143, 1144, 5, 1011, 1150, 1149, 1145, 1113, 1111, 1112, 1100031] S S' ∧ (sm_ST (S' 71) (S' 74) (S' 75) (S' 78) (S' 79) (S' 80) (S' 27) (S' 1100007) (S' 1100023) (S' 1100024) (S' 1046 0) ((S' 1046 0) + 2 * (S' 1032 0)) (S' 1127 0) ∧ 465000 ≤ (S' 1127 0) ∧ (S' 1127 0) + sm_hs (S' 71) (S' 1100007) ≤ 635000 ∧ (S' 75 639) = 647340 ∧ (∀ k : Int, (S 71 k) = 1 → (S' 71 k) = 1) ∧ sm_DR (S' 72) (S' 71) (S' 1046 0) ∧ (641 * (sm_cm (S' 71) + sm_pt (S' 68) (S' 69) (S' 70) + sm_pl (S' 81) (S' 82) (S' 83) (S' 84) (S' 85) (S' 86) + sm_ps (S' 76) (S' 77)) + sm_du (S' 72)) ≤ (641 * (sm_cm (S 71) + sm_pt (S 68) (S 69) (S 70) + sm_pl (S 81) (S 82) (S 83) (S 84) (S 85) (S 86) + sm_ps (S 76) (S 77)) + sm_du (S 72)))
theorem la_waysOfDelete_0 {x0 x1 x2 : Int} (h0 : x0 = 647340) (h1 : x1 = x2) (h2 : 2 ≤ x2) (h3 : x2 ≤ 396) : x0 = 647340 ∧ 0 ≤ x1 ∧ x1 ≤ 400 ∧ ((-1) : Int) ≤ 1 ∧ (1 : Int) ≤ 1000 := by omega
theorem la_waysOfDelete_1 {x0 x1 : Int} (h0 : 0 ≤ x0) (h1 : x0 ≤ 400) (h2 : x1 = 647339 + x0 - 1) : 0 ≤ x1 ∧ x1 < 647800 := by omega
theorem la_waysOfDelete_2 {x0 x1 x2 : Int} (h0 : x0 = 647340) (h1 : x1 = x2) (h2 : 2 ≤ x2) (h3 : x2 ≤ 396) : x0 = 647340 ∧ 0 ≤ x1 ∧ x1 ≤ 400 ∧ ((-1) : Int) ≤ 0 ∧ (0 : Int) ≤ 1000 := by omega
theorem la_waysOfDelete_3 {x0 x1 : Int} (h0 : 0 ≤ x0) (h1 : x1 = 647339 + x0 - 0) : 0 ≤ x1 := by omega
theorem la_waysOfDelete_4 {x0 x1 : Int} (h0 : x0 ≤ 400) (h1 : x1 = 647339 + x0 - 0) : x1 < 647800 := by omega
theorem la_waysOfDelete_5 {x0 : Int} (h0 : 0 ≤ x0) (h1 : x0 ≤ 11557) : 0 ≤ x0 ∧ x0 ≤ 11557 := by omega
theorem la_waysOfDelete_6 {x0 : Int} (h0 : x0 = 0) : ¬ x0 = 1 := by omega
theorem la_waysOfDelete_7 {x0 x1 x2 x3 x4 : Int} : 641 * (x0 + x1 + x2 + x3) + x4 ≤ 641 * (x0 + x1 + x2 + x3) + x4 := by omega
theorem la_waysOfDelete_8 {x0 : Int} : 0 ≤ x0 % 4 := by omega
theorem la_waysOfDelete_9 {x0 : Int} (h0 : 0 ≤ x0 % 4) (h1 : ¬ x0 % 4 = 0) : 0 < x0 % 4 := by omega
theorem la_waysOfDelete_10 {x0 x1 x2 : Int} (h0 : 0 ≤ x0) (h1 : x1 = 1) (h2 : x0 + 1 < x2) : 0 ≤ x0 ∧ x0 < x2 ∧ x1 = 1 ∧ x0 = x0 ∧ (6 : Int) ≤ 6 ∧ (6 : Int) ≤ 8 := by omega
theorem la_waysOfDelete_11 {x0 : Int} (h0 : x0 = 1) : 0 ≤ x0 := by omega
theorem la_waysOfDelete_12 {x0 : Int} (h0 : 0 ≤ x0) (h1 : ¬ x0 = 0) : 0 < x0 := by omega
theorem la_waysOfDelete_13 : (0 : Int) ≤ 0 := by omega
theorem la_waysOfDelete_14 {x0 : Int} (h0 : 29 ≤ x0) : 0 ≤ x0 := by omega
theorem la_waysOfDelete_15 : (0 : Int) = 0 ∨ (0 : Int) = 1 := by omega
theorem la_waysOfDelete_16 {x0 : Int} : x0 = x0 := by omega
theorem la_waysOfDelete_17 {x0 x1 : Int} (h0 : x0 ≤ x1) : 0 ≤ x1 - x0 := by omega
theorem la_waysOfDelete_18 : (0 : Int) ≤ 647740 ∧ (647740 : Int) < 647800 := by omega
theorem la_waysOfDelete_19 : (635639 : Int) ≤ 647740 := by omega
theorem la_waysOfDelete_20 : (635639 : Int) ≤ 647740 ∧ (647740 : Int) < 647790 := by omega
theorem la_waysOfDelete_21 {x0 x1 x2 x3 x4 x5 x6 x7 : Int} (h0 : 0 ≤ x0) (h1 : x1 = x2) (h2 : x3 = x4) (h3 : 2 ≤ x2) (h4 : x0 + 1 < x5) (h5 : x6 = x2 + (-1)) (h6 : x7 = x4) (h7 : x2 ≤ 396) : 0 ≤ x0 ∧ x0 + 1 < x5 ∧ (0 : Int) ≤ 2 ∧ 2 ≤ x1 ∧ x1 - 2 ≤ 399 ∧ (0 : Int) ≤ 647740 ∧ (647740 : Int) < 647800 ∧ x6 = x1 - 2 + 1 ∧ x7 = x3 := by omega
theorem la_waysOfDelete_22 {x0 x1 x2 x3 x4 x5 x6 x7 x8 x9 x10 x11 x12 : Int} (h0 : x0 = x1) (h1 : x2 = x0) (h2 : x3 = x2) (h3 : 641 * (x4 + x5 + x6 + x7) + x8 ≤ 641 * (x9 + x3 + x10 + x11) + x12) : 641 * (x4 + x5 + x6 + x7) + x8 ≤ 641 * (x9 + x1 + x10 + x11) + x12 := by omega
theorem la_waysOfDelete_23 {x0 x1 : Int} (h0 : x0 + 1 < x1) : ¬ x1 ≤ x0 := by omega
theorem la_waysOfDelete_24 {x0 x1 : Int} (h0 : x0 + 1 < x1) : ¬ x1 ≤ x0 + 1 := by omega
theorem la_waysOfDelete_25 : (6 : Int) ≤ 6 := by omega
theorem la_waysOfDelete_26 : (6 : Int) ≤ 8 := by omega
theorem la_waysOfDelete_27 {x0 x1 x2 x3 x4 x5 x6 x7 x8 x9 x10 x11 x12 x13 x14 x15 x16 x17 : Int} (h0 : x0 = x1) (h1 : x2 = x0) (h2 : x3 = x2) (h3 : 641 * (x4 + x5 + x6 + x7) + x8 ≤ 641 * (x9 + x3 + x10 + x11) + x12) (h4 : 641 * (x13 + x14 + x15 + x16) + x17 ≤ 641 * (x4 + x5 + x6 + x7) + x8) : 641 * (x13 + x14 + x15 + x16) + x17 ≤ 641 * (x9 + x1 + x10 + x11) + x12 := by omega
theorem la_waysOfDelete_28 {x0 : Int} (h0 : x0 = 0) : x0 ≤ 0 := by omega
theorem la_waysOfDelete_29 {x0 : Int} (h0 : x0 ≤ 0) (h1 : ¬ x0 = 0) : x0 < 0 := by omega
theorem la_waysOfDelete_30 {x0 x1 : Int} (h0 : x0 ≤ 127) (h1 : 0 ≤ x1) (h2 : ¬ x0 ≤ x1) : 0 ≤ x1 ∧ x1 < 128 := by omega
theorem la_waysOfDelete_31 {x0 x1 x2 : Int} (h0 : 0 ≤ x0) (h1 : x0 ≤ 11557) (h2 : 0 ≤ x1) (h3 : ¬ x2 ≤ x1) : 0 ≤ x0 ∧ x0 ≤ 11557 ∧ 0 ≤ x1 ∧ x1 < x2 := by omega
theorem la_waysOfDelete_32 {x0 x1 x2 : Int} (h0 : 31 ≤ x0) (h1 : x1 = x2) : (0 : Int) ≤ 0 ∧ 0 ≤ x0 + 1 ∧ x1 = x2 := by omega
theorem la_waysOfDelete_33 {x0 x1 : Int} (h0 : x0 ≤ x1 + 1) : 0 ≤ x1 + 1 - x0 := by omega
theorem la_waysOfDelete_34 {x0 x1 x2 x3 x4 x5 x6 x7 : Int} (h0 : x0 ≤ 127) (h1 : 0 ≤ x1) (h2 : ¬ x0 ≤ x1) (h3 : x2 = 0 ∨ x2 = 1) (h4 : x3 = 0 ∨ x3 = 1) (h5 : x4 = x5) : x6 < x7 → sv_R (x1 + 1) ∧ (0 ≤ x1 + 1 ∧ x1 + 1 ≤ x0 ∧ (x2 = 0 ∨ x2 = 1) ∧ (x3 = 0 ∨ x3 = 1) ∧ x4 = x5) ∧ x0 - (x1 + 1) < x0 - x1 := by omega
theorem la_waysOfDelete_35 {x0 x1 : Int} (h0 : x0 ≤ 90) (h1 : 0 ≤ x1) (h2 : ¬ x0 < x1) : 0 ≤ x1 ∧ x1 < 128 := by omega
theorem la_waysOfDelete_36 {x0 x1 x2 x3 x4 : Int} (h0 : x0 ≤ 90) (h1 : 0 ≤ x1) (h2 : x2 = x3) (h3 : ¬ x0 < x1) : x4 = 0 → sv_R (x1 + 1) ∧ (0 ≤ x1 + 1 ∧ x1 + 1 ≤ x0 + 1 ∧ x2 = x3) ∧ x0 + 1 - (x1 + 1) < x0 + 1 - x1 := by omega
theorem la_waysOfDelete_37 {x0 x1 x2 x3 x4 : Int} (h0 : x0 ≤ 127) (h1 : 0 ≤ x1) (h2 : x1 ≤ 11557) (h3 : 0 ≤ x2) (h4 : ¬ x0 ≤ x2) : 0 ≤ x1 ∧ x1 ≤ 11557 ∧ (0 : Int) ≤ 639 ∧ ((639 : Int) = 639 ∨ 639 < x3 + 2 * x4) ∧ 0 ≤ x2 ∧ (x2 < x0 ∨ (639 : Int) = 639 ∧ x2 < 128) := by omega
theorem la_waysOfDelete_38 : (639 : Int) = 639 := by omega
theorem la_waysOfDelete_39 : ¬ ¬ (639 : Int) = 639 := by omega
theorem la_waysOfDelete_40 {x0 x1 x2 : Int} (h0 : x0 ≤ 127) (h1 : 0 ≤ x1) (h2 : ¬ x0 ≤ x1) (h3 : x2 = 15000 + x1) : 0 ≤ x2 ∧ x2 < 15128 := by omega
theorem la_waysOfDelete_41 {x0 x1 x2 x3 x4 x5 x6 : Int} (h0 : x0 ≤ 127) (h1 : 0 ≤ x1) (h2 : x1 ≤ 11557) (h3 : 0 ≤ x2) (h4 : ¬ x0 ≤ x2) (h5 : ¬ x3 < x4) (h6 : 0 < x4) : 0 ≤ x1 ∧ x1 ≤ 11557 ∧ (0 : Int) ≤ 639 ∧ ((639 : Int) = 639 ∨ 639 < x5 + 2 * x6) ∧ 0 ≤ x2 ∧ (x2 < x0 ∨ (639 : Int) = 639 ∧ x2 < 128) ∧ 0 ≤ x4 ∧ x4 ≤ x3 := by omega
theorem la_waysOfDelete_42 {x0 : Int} (h0 : 635640 ≤ x0) (h1 : x0 < 647340) : 635639 ≤ x0 ∧ x0 < 647790 := by omega
theorem la_waysOfDelete_43 {x0 x1 : Int} (h0 : x0 ≤ 90) (h1 : ¬ x0 < x1) (h2 : 0 < x1) : sv_R (x1 + 1) := by omega
theorem la_waysOfDelete_44 {x0 x1 x2 x3 x4 : Int} (h0 : x0 = x1) (h1 : ¬ x2 < x3) (h2 : 0 < x3) (h3 : x4 = x0) : 0 ≤ x3 + 1 ∧ x3 + 1 ≤ x2 + 1 ∧ x4 = x1 := by omega
theorem la_waysOfDelete_45 {x0 x1 : Int} : x0 + 1 - (x1 + 1) < x0 + 1 - x1 := by omega
theorem la_waysOfDelete_46 {x0 : Int} (h0 : 635640 ≤ x0) (h1 : x0 < 647340) : 0 ≤ x0 ∧ x0 < 647800 := by omega
theorem la_waysOfDelete_47 {x0 : Int} (h0 : 635640 ≤ x0) : 635639 ≤ x0 := by omega
theorem la_waysOfDelete_48 {x0 x1 x2 x3 x4 x5 : Int} (h0 : x0 = x1) (h1 : ¬ x2 < x3) (h2 : 0 < x3) (h3 : x4 = x0) (h4 : x5 = x4) : 0 ≤ x3 + 1 ∧ x3 + 1 ≤ x2 + 1 ∧ x5 = x1 := by omega
theorem la_waysOfDelete_49 {x0 x1 x2 x3 : Int} (h0 : x0 = x1) (h1 : ¬ x2 < x3) (h2 : 0 < x3) : 0 ≤ x3 + 1 ∧ x3 + 1 ≤ x2 + 1 ∧ x0 = x1 := by omega
theorem la_waysOfDelete_50 {x0 x1 x2 x3 x4 : Int} (h0 : 31 ≤ x0) (h1 : 0 ≤ x1) (h2 : x2 = x3) (h3 : ¬ ¬ x1 = 0) : ¬ x4 = 0 → sv_R (x1 + 1) ∧ (0 ≤ x1 + 1 ∧ x1 + 1 ≤ x0 + 1 ∧ x2 = x3) ∧ x0 + 1 - (x1 + 1) < x0 + 1 - x1 := by omega
theorem la_waysOfDelete_51 {x0 : Int} (h0 : ¬ ¬ x0 = 0) : ¬ x0 = 1 := by omega
theorem la_waysOfDelete_52 {x0 x1 x2 x3 x4 x5 x6 : Int} (h0 : x0 ≤ 127) (h1 : 31 ≤ x1) (h2 : 0 ≤ x2) (h3 : x2 ≤ 11557) (h4 : 0 ≤ x3) (h5 : ¬ x0 ≤ x3) (h6 : ¬ ¬ x4 = 0) : 0 ≤ x2 ∧ x2 ≤ 11557 ∧ (0 : Int) ≤ 639 ∧ ((639 : Int) = 639 ∨ 639 < x5 + 2 * x6) ∧ 0 ≤ x3 ∧ (x3 < x0 ∨ (639 : Int) = 639 ∧ x3 < 128) ∧ 0 ≤ x4 ∧ x4 ≤ x1 := by omega
theorem la_waysOfDelete_53 {x0 : Int} (h0 : ¬ ¬ x0 = 0) : sv_R (x0 + 1) := by omega
theorem la_waysOfDelete_54 {x0 x1 x2 x3 x4 : Int} (h0 : 31 ≤ x0) (h1 : x1 = x2) (h2 : ¬ ¬ x3 = 0) (h3 : x4 = x1) : 0 ≤ x3 + 1 ∧ x3 + 1 ≤ x0 + 1 ∧ x4 = x2 := by omega
theorem la_waysOfDelete_55 {x0 x1 x2 x3 x4 x5 : Int} (h0 : 31 ≤ x0) (h1 : x1 = x2) (h2 : ¬ ¬ x3 = 0) (h3 : x4 = x1) (h4 : x5 = x4) : 0 ≤ x3 + 1 ∧ x3 + 1 ≤ x0 + 1 ∧ x5 = x2 := by omega
theorem la_waysOfDelete_56 {x0 x1 x2 x3 : Int} (h0 : 31 ≤ x0) (h1 : x1 = x2) (h2 : ¬ ¬ x3 = 0) : 0 ≤ x3 + 1 ∧ x3 + 1 ≤ x0 + 1 ∧ x1 = x2 := by omega
theorem la_waysOfDelete_57 {x0 : Int} : ¬ x0 = 0 → (0 : Int) = 0 ∨ (0 : Int) = 1 := by omega
theorem la_waysOfDelete_58 {x0 x1 : Int} (h0 : 0 ≤ x0) (h1 : x0 ≤ 64) (h2 : 0 ≤ x1) (h3 : x1 ≤ 64) : sv_R (x0 + x1) := by omega
theorem la_waysOfDelete_59 {x0 x1 : Int} : ¬ x0 + x1 = 1 → (0 : Int) = 0 ∨ (0 : Int) = 1 := by omega
theorem la_waysOfDelete_60 {x0 x1 : Int} (h0 : x0 ≤ 127) (h1 : 0 ≤ x1) (h2 : ¬ x0 ≤ x1) : 0 ≤ x1 ∧ x1 ≤ 200 := by omega
theorem la_waysOfDelete_61 {x0 : Int} : x0 = 0 → (0 : Int) = 0 ∨ (0 : Int) = 1 := by omega
theorem la_waysOfDelete_62 {x0 : Int} : ¬ x0 = 1 → (0 : Int) = 0 ∨ (0 : Int) = 1 := by omega
theorem la_waysOfDelete_63 {x0 : Int} (h0 : 31 ≤ x0) (h1 : x0 ≤ 90) : 0 ≤ x0 ∧ x0 < 128 := by omega
theorem la_waysOfDelete_64 : (1 : Int) = 0 ∨ (1 : Int) = 1 := by omega
theorem la_waysOfDelete_65 {x0 : Int} : ¬ x0 = 0 → (1 : Int) = 0 ∨ (1 : Int) = 1 := by omega
theorem la_waysOfDelete_66 : (0 : Int) ≤ 0 ∧ (0 : Int) < 128 := by omega
theorem la_waysOfDelete_67 {x0 x1 : Int} (h0 : x0 ≤ 127) (h1 : 0 ≤ x1) (h2 : ¬ x0 ≤ x1) : sv_R (x1 + 1) := by omega
theorem la_waysOfDelete_68 {x0 : Int} (h0 : 0 ≤ x0) : 0 ≤ x0 + 1 := by omega
theorem la_waysOfDelete_69 {x0 x1 : Int} (h0 : ¬ x0 ≤ x1) : x1 + 1 ≤ x0 := by omega
theorem la_waysOfDelete_70 {x0 x1 : Int} : x0 - (x1 + 1) < x0 - x1 := by omega
set_option maxHeartbeats 2000000 in
theorem f_waysOfDelete : ∀ (S : sv_S), sm_ok S → (29 ≤ (S 1071 0) ∧ (S 1071 0) ≤ 127 ∧ 31 ≤ (S 1008 0) ∧ (S 1008 0) ≤ 90 ∧ 1 ≤ (S 1032 0) ∧ (S 1032 0) ≤ 11 ∧ 0 ≤ (S 1055 0) ∧ (S 1055 0) ≤ 19 ∧ (S 1071 0) = 29 + 6 * ((S 1032 0) - 1) + 2 * (S 1055 0) ∧ 0 ≤ (S 1046 0) ∧ (S 1046 0) + 2 * (S 1032 0) ≤ 500 ∧ sm_PD (S 1046 0) (S 1032 0) (S 1071 0) (S 1008 0) ∧ 0 ≤ (S 1071 0) * ((S 1008 0) + 1) ∧ (S 1071 0) * ((S 1008 0) + 1) ≤ 11557 ∧ 31 ≤ (S 1007 0) ∧ (S 1007 0) ≤ 400 ∧ sm_LN (S 4) 400 (S 1007 0) ∧ (S 75 639) = 647340 ∧ sm_ST (S 71) (S 74) (S 75) (S 78) (S 79) (S 80) (S 27) (S 1100007) (S 1100023) (S 1100024) (S 1046 0) ((S 1046 0) + 2 * (S 1032 0)) (S 1127 0) ∧ 465000 ≤ (S 1127 0) ∧ (S 1127 0) + sm_hs (S 71) (S 1100007) ≤ 635000 ∧ sm_NH (S 1100007) ∧ sm_CT (S 26) (S 27) (S 28) (S 29) (S 1100007) (S 1100023) (S 1100024) (S 1100025) (S 21) (S 1046 0) (S 1032 0) (S 1008 0) (S 1055 0) ∧ (∀ k : Int, (S 1046 0) ≤ k → k < ((S 1046 0) + 2 * (S 1032 0)) → (S 1100007 k) = 1) ∧ sm_DR (S 72) (S 71) (S 1046 0) ∧ 0 ≤ (S 74 639) ∧ (S 74 639) ≤ 400 ∧ 0 ≤ (S 78 639) ∧ (S 78 639) ≤ 40 ∧ (S 78 639) = sm_dp (S 1100024) (S 1100031 0) ∧ -1 ≤ (S 1100031 0) ∧ (S 1100031 0) < (S 1046 0) ∧ (0 ≤ (S 1100031 0) → (S 26 (S 1100031 0)) = 27) ∧ sm_TC (S 79) (S 80) (S 27) (S 1100007) (S 1100023) (S 1100024) 25560 (S 1100031 0) ∧ 0 ≤ (S 1148 0) ∧ (S 1148 0) < (S 1046 0) ∧ (S 71 (S 1148 0)) = 1 ∧ (S 74 639) = (S 1100007 (S 1148 0)) ∧ (S 1100031 0) = (S 1100023 (S 1148 0)) ∧ 2 ≤ (S 1100007 (S 1148 0)) ∧ (S 1148 0) + 1 < (S 1046 0) ∧ (S 1100007 ((S 1148 0) + 1)) = (S 1100007 (S 1148 0)) + (-1) ∧ (S 1100023 ((S 1148 0) + 1)) = (S 1100023 (S 1148 0))) → ((sm_CT (S 26) (S 27) (S 28) (S 29) (S 1100007) (S 1100023) (S 1100024) (S 1100025) (S 21) (S 1046 0) (S 1032 0) (S 1008 0) (S 1055 0) → 0 ≤ (S 1148 0) → (S 1148 0) < (S 1046 0) → 0 ≤ (S 1100007 (S 1148 0)) ∧ (S 1100007 (S 1148 0)) ≤ 396 ∧ -1 ≤ (S 1100023 (S 1148 0)) ∧ (S 1100023 (S 1148 0)) < (S 1148 0)) → ((S 75 639) = 647340 ∧ 0 ≤ (S 74 639) ∧ (S 74 639) ≤ 400 ∧ -1 ≤ (1 : Int) ∧ (1 : Int) ≤ 1000) ∧ (∀ r7 : Int, sv_R r7 → (r7 = 647339 + (S 74 639) - (1 : Int)) → (0 ≤ r7 ∧ r7 < 647800) ∧ (∀ r13 : Int, sv_R r13 → (sm_iand ((S 68 r7) % 1024) (-513) = r13) → ((S 75 639) = 647340 ∧ 0 ≤ (S 74 639) ∧ (S 74 639) ≤ 400 ∧ -1 ≤ (0 : Int) ∧ (0 : Int) ≤ 1000) ∧ (∀ r19 : Int, sv_R r19 → (r19 = 647339 + (S 74 639) - (0 : Int)) → (31 ≤ (S 1007 0) ∧ (S 1007 0) ≤ 400 ∧ sm_LN (S 4) 400 (S 1007 0) ∧ 0 ≤ r19 ∧ r19 < 647800 ∧ 29 ≤ (S 1071 0) ∧ (S 1071 0) ≤ 127 ∧ 31 ≤ (S 1008 0) ∧ (S 1008 0) ≤ 90 ∧ 1 ≤ (S 1032 0) ∧ (S 1032 0) ≤ 11 ∧ 0 ≤ (S 1055 0) ∧ (S 1055 0) ≤ 19 ∧ (S 1071 0) = 29 + 6 * ((S 1032 0) - 1) + 2 * (S 1055 0) ∧ 0 ≤ (S 1046 0) ∧ (S 1046 0) + 2 * (S 1032 0) ≤ 500 ∧ sm_PD (S 1046 0) (S 1032 0) (S 1071 0) (S 1008 0) ∧ 0 ≤ (S 1071 0) * ((S 1008 0) + 1) ∧ (S 1071 0) * ((S 1008 0) + 1) ≤ 11557) ∧ (∀ g21 : sv_S, (True) → ((∀ s26 : Int, sv_R s26 → (s26 = 0 ∨ s26 = 1) → (((s26 = (0 : Int)) → ((((r13 % 4) = (0 : Int)) → (sm_ST (S 71) (S 74) (S 75) (S 78) (S 79) (S 80) (S 27) (S 1100007) (S 1100023) (S 1100024) (S 1046 0) ((S 1046 0) + 2 * (S 1032 0)) (S 1127 0) ∧ 465000 ≤ (S 1127 0) ∧ (S 1127 0) + sm_hs (S 71) (S 1100007) ≤ 635000 ∧ (S 75 639) = 647340 ∧ (∀ k : Int, (S 71 k) = 1 → (S 71 k) = 1) ∧ sm_DR (S 72) (S 71) (S 1046 0) ∧ (641 * (sm_cm (S 71) + sm_pt (S 68) (S 69) (S 70) + sm_pl (S 81) (S 82) (S 83) (S 84) (S 85) (S 86) + sm_ps (S 76) (S 77)) + sm_du (S 72)) ≤ (641 * (sm_cm (S 71) + sm_pt (S 68) (S 69) (S 70) + sm_pl (S 81) (S 82) (S 83) (S 84) (S 85) (S 86) + sm_ps (S 76) (S 77)) + sm_du (S 72)))) ∧ ((¬ ((r13 % 4) = (0 : Int))) → (sv_R (S 1148 0) → (29 ≤ (S 1071 0) ∧ (S 1071 0) ≤ 127 ∧ 31 ≤ (S 1008 0) ∧ (S 1008 0) ≤ 90 ∧ 1 ≤ (S 1032 0) ∧ (S 1032 0) ≤ 11 ∧ 0 ≤ (S 1055 0) ∧ (S 1055 0) ≤ 19 ∧ (S 1071 0) = 29 + 6 * ((S 1032 0) - 1) + 2 * (S 1055 0) ∧ 0 ≤ (S 1046 0) ∧ (S 1046 0) + 2 * (S 1032 0) ≤ 500 ∧ sm_PD (S 1046 0) (S 1032 0) (S 1071 0) (S 1008 0) ∧ 0 ≤ (S 1071 0) * ((S 1008 0) + 1) ∧ (S 1071 0) * ((S 1008 0) + 1) ≤ 11557 ∧ 31 ≤ (S 1007 0) ∧ (S 1007 0) ≤ 400 ∧ sm_LN (S 4) 400 (S 1007 0) ∧ (S 75 639) = 647340 ∧ sm_ST (S 71) (S 74) (S 75) (S 78) (S 79) (S 80) (S 27) (S 1100007) (S 1100023) (S 1100024) (S 1046 0) ((S 1046 0) + 2 * (S 1032 0)) (S 1127 0) ∧ 465000 ≤ (S 1127 0) ∧ (S 1127 0) + sm_hs (S 71) (S 1100007) ≤ 635000 ∧ sm_NH (S 1100007) ∧ sm_CT (S 26) (S 27) (S 28) (S 29) (S 1100007) (S 1100023) (S 1100024) (S 1100025) (S 21) (S 1046 0) (S 1032 0) (S 1008 0) (S 1055 0) ∧ (∀ k : Int, (S 1046 0) ≤ k → k < ((S 1046 0) + 2 * (S 1032 0)) → (S 1100007 k) = 1) ∧ sm_DR (S 72) (S 71) (S 1046 0) ∧ 0 ≤ (S 1148 0) ∧ (S 1148 0) < (S 1046 0) ∧ (S 71 (S 1148 0)) = 1 ∧ (S 1148 0) = (S 1148 0) ∧ 6 ≤ (6 : Int) ∧ (6 : Int) ≤ 8) ∧ (∀ g30 : sv_S, (sm_ST (g30 71) (g30 74) (g30 75) (g30 78) (g30 79) (g30 80) (S 27) (S 1100007) (S 1100023) (S 1100024) (S 1046 0) ((S 1046 0) + 2 * (S 1032 0)) (g30 1127 0) ∧ 465000 ≤ (g30 1127 0) ∧ (g30 1127 0) + sm_hs (g30 71) (S 1100007) ≤ 635000 ∧ (g30 75 639) = 647340 ∧ (∀ k : Int, (S 71 k) = 1 → (g30 71 k) = 1) ∧ sm_DR (g30 72) (g30 71) (S 1046 0) ∧ (641 * (sm_cm (g30 71) + sm_pt (g30 68) (g30 69) (g30 70) + sm_pl (g30 81) (g30 82) (g30 83) (g30 84) (g30 85) (g30 86) + sm_ps (g30 76) (g30 77)) + sm_du (g30 72)) ≤ (641 * (sm_cm (S 71) + sm_pt (S 68) (S 69) (S 70) + sm_pl (S 81) (S 82) (S 83) (S 84) (S 85) (S 86) + sm_ps (S 76) (S 77)) + sm_du (S 72))) → (sm_ST (g30 71) (g30 74) (g30 75) (g30 78) (g30 79) (g30 80) (S 27) (S 1100007) (S 1100023) (S 1100024) (S 1046 0) ((S 1046 0) + 2 * (S 1032 0)) (g30 1127 0) ∧ 465000 ≤ (g30 1127 0) ∧ (g30 1127 0) + sm_hs (g30 71) (S 1100007) ≤ 635000 ∧ (g30 75 639) = 647340 ∧ (∀ k : Int, (S 71 k) = 1 → (g30 71 k) = 1) ∧ sm_DR (g30 72) (g30 71) (S 1046 0) ∧ (641 * (sm_cm (g30 71) + sm_pt (g30 68) (g30 69) (g30 70) + sm_pl (g30 81) (g30 82) (g30 83) (g30 84) (g30 85) (g30 86) + sm_ps (g30 76) (g30 77)) + sm_du (g30 72)) ≤ (641 * (sm_cm (S 71) + sm_pt (S 68) (S 69) (S 70) + sm_pl (S 81) (S 82) (S 83) (S 84) (S 85) (S 86) + sm_ps (S 76) (S 77)) + sm_du (S 72)))))))) ∧ ((¬ (s26 = (0 : Int))) → ((∀ s35 : Int, sv_R s35 → (s35 = 0 ∨ s35 = 1) → (sv_RL (S 69 r7) → (∀ r38 : Int, (0 ≤ r38 ∧ r38 ≤ 64) → (sv_RL (S 70 r7) → (∀ r40 : Int, (0 ≤ r40 ∧ r40 ≤ 64) → ((0 ≤ (0 : Int) ∧ (0 : Int) ≤ (S 1071 0) ∧ ((0 : Int) = 0 ∨ (0 : Int) = 1) ∧ (s35 = 0 ∨ s35 = 1) ∧ sm_pt (S 68) (S 69) (S 70) = sm_pt (S 68) (S 69) (S 70)) ∧ (∀ l4_42 : Int, sv_R l4_42 → ∀ l5_43 : Int, sv_R l5_43 → ∀ l7_44 : Int, sv_R l7_44 → ∀ g41 : sv_S, (0 ≤ l7_44 ∧ l7_44 ≤ (S 1071 0) ∧ (l4_42 = 0 ∨ l4_42 = 1) ∧ (l5_43 = 0 ∨ l5_43 = 1) ∧ sm_pt (g41 68) (g41 69) (g41 70) = sm_pt (S 68) (S 69) (S 70)) → (0 ≤ (S 1071 0) - l7_44) ∧ (sv_R (S 1071 0) → ((((S 1071 0) ≤ l7_44) → (0 ≤ (647740 : Int) ∧ (647740 : Int) < 647800) ∧ (∀ g52 : sv_S, (635639 ≤ (647740 : Int) → sm_pt (g52 68) (g52 69) (g52 70) = sm_pt (g41 68) (g41 69) (g41 70)) → (((l4_42 = (0 : Int)) → (((l4_42 = (0 : Int)) → (635639 ≤ (647740 : Int) ∧ (647740 : Int) < 647790) ∧ (∀ g59 : sv_S, (sm_pt (g59 68) (g59 69) (g59 70) = sm_pt (g52 68) (g52 69) (g52 70)) → (29 ≤ (S 1071 0) ∧ (S 1071 0) ≤ 127 ∧ 31 ≤ (S 1008 0) ∧ (S 1008 0) ≤ 90 ∧ 1 ≤ (S 1032 0) ∧ (S 1032 0) ≤ 11 ∧ 0 ≤ (S 1055 0) ∧ (S 1055 0) ≤ 19 ∧ (S 1071 0) = 29 + 6 * ((S 1032 0) - 1) + 2 * (S 1055 0) ∧ 0 ≤ (S 1046 0) ∧ (S 1046 0) + 2 * (S 1032 0) ≤ 500 ∧ sm_PD (S 1046 0) (S 1032 0) (S 1071 0) (S 1008 0) ∧ 0 ≤ (S 1071 0) * ((S 1008 0) + 1) ∧ (S 1071 0) * ((S 1008 0) + 1) ≤ 11557 ∧ 31 ≤ (S 1007 0) ∧ (S 1007 0) ≤ 400 ∧ sm_LN (S 4) 400 (S 1007 0) ∧ (S 75 639) = 647340 ∧ sm_ST (S 71) (S 74) (S 75) (S 78) (S 79) (S 80) (S 27) (S 1100007) (S 1100023) (S 1100024) (S 1046 0) ((S 1046 0) + 2 * (S 1032 0)) (S 1127 0) ∧ 465000 ≤ (S 1127 0) ∧ (S 1127 0) + sm_hs (S 71) (S 1100007) ≤ 635000 ∧ sm_NH (S 1100007) ∧ sm_CT (S 26) (S 27) (S 28) (S 29) (S 1100007) (S 1100023) (S 1100024) (S 1100025) (S 21) (S 1046 0) (S 1032 0) (S 1008 0) (S 1055 0) ∧ (∀ k : Int, (S 1046 0) ≤ k → k < ((S 1046 0) + 2 * (S 1032 0)) → (S 1100007 k) = 1) ∧ sm_DR (S 72) (S 71) (S 1046 0) ∧ 0 ≤ (S 74 639) ∧ (S 74 639) ≤ 400 ∧ 0 ≤ (S 78 639) ∧ (S 78 639) ≤ 40 ∧ (S 78 639) = sm_dp (S 1100024) (S 1100031 0) ∧ -1 ≤ (S 1100031 0) ∧ (S 1100031 0) < (S 1046 0) ∧ (0 ≤ (S 1100031 0) → (S 26 (S 1100031 0)) = 27) ∧ sm_TC (S 79) (S 80) (S 27) (S 1100007) (S 1100023) (S 1100024) 25560 (S 1100031 0) ∧ 0 ≤ (S 1148 0) ∧ (S 1148 0) + 1 < (S 1046 0) ∧ 0 ≤ (2 : Int) ∧ (2 : Int) ≤ (S 74 639) ∧ (S 74 639) - (2 : Int) ≤ 399 ∧ 0 ≤ (647740 : Int) ∧ (647740 : Int) < 647800 ∧ (S 1100007 ((S 1148 0) + 1)) = (S 74 639) - (2 : Int) + 1 ∧ (S 1100023 ((S 1148 0) + 1)) = (S 1100031 0)) ∧ (∀ g66 : sv_S, (sm_ST (g66 71) (g66 74) (g66 75) (g66 78) (g66 79) (g66 80) (S 27) (S 1100007) (S 1100023) (S 1100024) (S 1046 0) ((S 1046 0) + 2 * (S 1032 0)) (g66 1127 0) ∧ 465000 ≤ (g66 1127 0) ∧ (g66 1127 0) + sm_hs (g66 71) (S 1100007) ≤ 635000 ∧ (g66 75 639) = 647340 ∧ (∀ k : Int, (S 71 k) = 1 → (g66 71 k) = 1) ∧ sm_DR (g66 72) (g66 71) (S 1046 0) ∧ (641 * (sm_cm (g66 71) + sm_pt (g66 68) (g66 69) (g66 70) + sm_pl (g66 81) (g66 82) (g66 83) (g66 84) (g66 85) (g66 86) + sm_ps (g66 76) (g66 77)) + sm_du (g66 72)) ≤ (641 * (sm_cm (S 71) + sm_pt (g59 68) (g59 69) (g59 70) + sm_pl (S 81) (S 82) (S 83) (S 84) (S 85) (S 86) + sm_ps (S 76) (S 77)) + sm_du (S 72))) → ((((r13 % 4) = (0 : Int)) → (sm_ST (g66 71) (g66 74) (g66 75) (g66 78) (g66 79) (g66 80) (S 27) (S 1100007) (S 1100023) (S 1100024) (S 1046 0) ((S 1046 0) + 2 * (S 1032 0)) (g66 1127 0) ∧ 465000 ≤ (g66 1127 0) ∧ (g66 1127 0) + sm_hs (g66 71) (S 1100007) ≤ 635000 ∧ (g66 75 639) = 647340 ∧ (∀ k : Int, (S 71 k) = 1 → (g66 71 k) = 1) ∧ sm_DR (g66 72) (g66 71) (S 1046 0) ∧ (641 * (sm_cm (g66 71) + sm_pt (g66 68) (g66 69) (g66 70) + sm_pl (g66 81) (g66 82) (g66 83) (g66 84) (g66 85) (g66 86) + sm_ps (g66 76) (g66 77)) + sm_du (g66 72)) ≤ (641 * (sm_cm (S 71) + sm_pt (S 68) (S 69) (S 70) + sm_pl (S 81) (S 82) (S 83) (S 84) (S 85) (S 86) + sm_ps (S 76) (S 77)) + sm_du (S 72)))) ∧ ((¬ ((r13 % 4) = (0 : Int))) → (sv_R (S 1148 0) → (29 ≤ (S 1071 0) ∧ (S 1071 0) ≤ 127 ∧ 31 ≤ (S 1008 0) ∧ (S 1008 0) ≤ 90 ∧ 1 ≤ (S 1032 0) ∧ (S 1032 0) ≤ 11 ∧ 0 ≤ (S 1055 0) ∧ (S 1055 0) ≤ 19 ∧ (S 1071 0) = 29 + 6 * ((S 1032 0) - 1) + 2 * (S 1055 0) ∧ 0 ≤ (S 1046 0) ∧ (S 1046 0) + 2 * (S 1032 0) ≤ 500 ∧ sm_PD (S 1046 0) (S 1032 0) (S 1071 0) (S 1008 0) ∧ 0 ≤ (S 1071 0) * ((S 1008 0) + 1) ∧ (S 1071 0) * ((S 1008 0) + 1) ≤ 11557 ∧ 31 ≤ (S 1007 0) ∧ (S 1007 0) ≤ 400 ∧ sm_LN (S 4) 400 (S 1007 0) ∧ (g66 75 639) = 647340 ∧ sm_ST (g66 71) (g66 74) (g66 75) (g66 78) (g66 79) (g66 80) (S 27) (S 1100007) (S 1100023) (S 1100024) (S 1046 0) ((S 1046 0) + 2 * (S 1032 0)) (g66 1127 0) ∧ 465000 ≤ (g66 1127 0) ∧ (g66 1127 0) + sm_hs (g66 71) (S 1100007) ≤ 635000 ∧ sm_NH (S 1100007) ∧ sm_CT (S 26) (S 27) (S 28) (S 29) (S 1100007) (S 1100023) (S 1100024) (S 1100025) (S 21) (S 1046 0) (S 1032 0) (S 1008 0) (S 1055 0) ∧ (∀ k : Int, (S 1046 0) ≤ k → k < ((S 1046 0) + 2 * (S 1032 0)) → (S 1100007 k) = 1) ∧ sm_DR (g66 72) (g66 71) (S 1046 0) ∧ 0 ≤ (S 1148 0) ∧ (S 1148 0) < (S 1046 0) ∧ (g66 71 (S 1148 0)) = 1 ∧ (S 1148 0) = (S 1148 0) ∧ 6 ≤ (6 : Int) ∧ (6 : Int) ≤ 8) ∧ (∀ g73 : sv_S, (sm_ST (g73 71) (g73 74) (g73 75) (g73 78) (g73 79) (g73 80) (S 27) (S 1100007) (S 1100023) (S 1100024) (S 1046 0) ((S 1046 0) + 2 * (S 1032 0)) (g73 1127 0) ∧ 465000 ≤ (g73 1127 0) ∧ (g73 1127 0) + sm_hs (g73 71) (S 1100007) ≤ 635000 ∧ (g73 75 639) = 647340 ∧ (∀ k : Int, (g66 71 k) = 1 → (g73 71 k) = 1) ∧ sm_DR (g73 72) (g73 71) (S 1046 0) ∧ (641 * (sm_cm (g73 71) + sm_pt (g73 68) (g73 69) (g73 70) + sm_pl (g73 81) (g73 82) (g73 83) (g73 84) (g73 85) (g73 86) + sm_ps (g73 76) (g73 77)) + sm_du (g73 72)) ≤ (641 * (sm_cm (g66 71) + sm_pt (g66 68) (g66 69) (g66 70) + sm_pl (g66 81) (g66 82) (g66 83) (g66 84) (g66 85) (g66 86) + sm_ps (g66 76) (g66 77)) + sm_du (g66 72))) → (sm_ST (g73 71) (g73 74) (g73 75) (g73 78) (g73 79) (g73 80) (S 27) (S 1100007) (S 1100023) (S 1100024) (S 1046 0) ((S 1046 0) + 2 * (S 1032 0)) (g73 1127 0) ∧ 465000 ≤ (g73 1127 0) ∧ (g73 1127 0) + sm_hs (g73 71) (S 1100007) ≤ 635000 ∧ (g73 75 639) = 647340 ∧ (∀ k : Int, (S 71 k) = 1 → (g73 71 k) = 1) ∧ sm_DR (g73 72) (g73 71) (S 1046 0) ∧ (641 * (sm_cm (g73 71) + sm_pt (g73 68) (g73 69) (g73 70) + sm_pl (g73 81) (g73 82) (g73 83) (g73 84) (g73 85) (g73 86) + sm_ps (g73 76) (g73 77)) + sm_du (g73 72)) ≤ (641 * (sm_cm (S 71) + sm_pt (S 68) (S 69) (S 70) + sm_pl (S 81) (S 82) (S 83) (S 84) (S 85) (S 86) + sm_ps (S 76) (S 77)) + sm_du (S 72)))))))))) ∧ ((¬ (l4_42 = (0 : Int))) → (635639 ≤ (647740 : Int) ∧ (647740 : Int) < 647790) ∧ (∀ g79 : sv_S, (sm_pt (g79 68) (g79 69) (g79 70) = sm_pt (g52 68) (g52 69) (g52 70)) → (29 ≤ (S 1071 0) ∧ (S 1071 0) ≤ 127 ∧ 31 ≤ (S 1008 0) ∧ (S 1008 0) ≤ 90 ∧ 1 ≤ (S 1032 0) ∧ (S 1032 0) ≤ 11 ∧ 0 ≤ (S 1055 0) ∧ (S 1055 0) ≤ 19 ∧ (S 1071 0) = 29 + 6 * ((S 1032 0) - 1) + 2 * (S 1055 0) ∧ 0 ≤ (S 1046 0) ∧ (S 1046 0) + 2 * (S 1032 0) ≤ 500 ∧ sm_PD (S 1046 0) (S 1032 0) (S 1071 0) (S 1008 0) ∧ 0 ≤ (S 1071 0) * ((S 1008 0) + 1) ∧ (S 1071 0) * ((S 1008 0) + 1) ≤ 11557 ∧ 31 ≤ (S 1007 0) ∧ (S 1007 0) ≤ 400 ∧ sm_LN (S 4) 400 (S 1007 0) ∧ (S 75 639) = 647340 ∧ sm_ST (S 71) (S 74) (S 75) (S 78) (S 79) (S 80) (S 27) (S 1100007) (S 1100023) (S 1100024) (S 1046 0) ((S 1046 0) + 2 * (S 1032 0)) (S 1127 0) ∧ 465000 ≤ (S 1127 0) ∧ (S 1127 0) + sm_hs (S 71) (S 1100007) ≤ 635000 ∧ sm_NH (S 1100007) ∧ sm_CT (S 26) (S 27) (S 28) (S 29) (S 1100007) (S 1100023) (S 1100024) (S 1100025) (S 21) (S 1046 0) (S 1032 0) (S 1008 0) (S 1055 0) ∧ (∀ k : Int, (S 1046 0) ≤ k → k < ((S 1046 0) + 2 * (S 1032 0)) → (S 1100007 k) = 1) ∧ sm_DR (S 72) (S 71) (S 1046 0) ∧ 0 ≤ (S 74 639) ∧ (S 74 639) ≤ 400 ∧ 0 ≤ (S 78 639) ∧ (S 78 639) ≤ 40 ∧ (S 78 639) = sm_dp (S 1100024) (S 1100031 0) ∧ -1 ≤ (S 1100031 0) ∧ (S 1100031 0) < (S 1046 0) ∧ (0 ≤ (S 1100031 0) → (S 26 (S 1100031 0)) = 27) ∧ sm_TC (S 79) (S 80) (S 27) (S 1100007) (S 1100023) (S 1100024) 25560 (S 1100031 0) ∧ 0 ≤ (S 1148 0) ∧ (S 1148 0) + 1 < (S 1046 0) ∧ 0 ≤ (2 : Int) ∧ (2 : Int) ≤ (S 74 639) ∧ (S 74 639) - (2 : Int) ≤ 399 ∧ 0 ≤ (647740 : Int) ∧ (647740 : Int) < 647800 ∧ (S 1100007 ((S 1148 0) + 1)) = (S 74 639) - (2 : Int) + 1 ∧ (S 1100023 ((S 1148 0) + 1)) = (S 1100031 0)) ∧ (∀ g86 : sv_S, (sm_ST (g86 71) (g86 74) (g86 75) (g86 78) (g86 79) (g86 80) (S 27) (S 1100007) (S 1100023) (S 1100024) (S 1046 0) ((S 1046 0) + 2 * (S 1032 0)) (g86 1127 0) ∧ 465000 ≤ (g86 1127 0) ∧ (g86 1127 0) + sm_hs (g86 71) (S 1100007) ≤ 635000 ∧ (g86 75 639) = 647340 ∧ (∀ k : Int, (S 71 k) = 1 → (g86 71 k) = 1) ∧ sm_DR (g86 72) (g86 71) (S 1046 0) ∧ (641 * (sm_cm (g86 71) + sm_pt (g86 68) (g86 69) (g86 70) + sm_pl (g86 81) (g86 82) (g86 83) (g86 84) (g86 85) (g86 86) + sm_ps (g86 76) (g86 77)) + sm_du (g86 72)) ≤ (641 * (sm_cm (S 71) + sm_pt (g79 68) (g79 69) (g79 70) + sm_pl (S 81) (S 82) (S 83) (S 84) (S 85) (S 86) + sm_ps (S 76) (S 77)) + sm_du (S 72))) → ((((r13 % 4) = (0 : Int)) → (sm_ST (g86 71) (g86 74) (g86 75) (g86 78) (g86 79) (g86 80) (S 27) (S 1100007) (S 1100023) (S 1100024) (S 1046 0) ((S 1046 0) + 2 * (S 1032 0)) (g86 1127 0) ∧ 465000 ≤ (g86 1127 0) ∧ (g86 1127 0) + sm_hs (g86 71) (S 1100007) ≤ 635000 ∧ (g86 75 639) = 647340 ∧ (∀ k : Int, (S 71 k) = 1 → (g86 71 k) = 1) ∧ sm_DR (g86 72) (g86 71) (S 1046 0) ∧ (641 * (sm_cm (g86 71) + sm_pt (g86 68) (g86 69) (g86 70) + sm_pl (g86 81) (g86 82) (g86 83) (g86 84) (g86 85) (g86 86) + sm_ps (g86 76) (g86 77)) + sm_du (g86 72)) ≤ (641 * (sm_cm (S 71) + sm_pt (S 68) (S 69) (S 70) + sm_pl (S 81) (S 82) (S 83) (S 84) (S 85) (S 86) + sm_ps (S 76) (S 77)) + sm_du (S 72)))) ∧ ((¬ ((r13 % 4) = (0 : Int))) → (sv_R (S 1148 0) → (29 ≤ (S 1071 0) ∧ (S 1071 0) ≤ 127 ∧ 31 ≤ (S 1008 0) ∧ (S 1008 0) ≤ 90 ∧ 1 ≤ (S 1032 0) ∧ (S 1032 0) ≤ 11 ∧ 0 ≤ (S 1055 0) ∧ (S 1055 0) ≤ 19 ∧ (S 1071 0) = 29 + 6 * ((S 1032 0) - 1) + 2 * (S 1055 0) ∧ 0 ≤ (S 1046 0) ∧ (S 1046 0) + 2 * (S 1032 0) ≤ 500 ∧ sm_PD (S 1046 0) (S 1032 0) (S 1071 0) (S 1008 0) ∧ 0 ≤ (S 1071 0) * ((S 1008 0) + 1) ∧ (S 1071 0) * ((S 1008 0) + 1) ≤ 11557 ∧ 31 ≤ (S 1007 0) ∧ (S 1007 0) ≤ 400 ∧ sm_LN (S 4) 400 (S 1007 0) ∧ (g86 75 639) = 647340 ∧ sm_ST (g86 71) (g86 74) (g86 75) (g86 78) (g86 79) (g86 80) (S 27) (S 1100007) (S 1100023) (S 1100024) (S 1046 0) ((S 1046 0) + 2 * (S 1032 0)) (g86 1127 0) ∧ 465000 ≤ (g86 1127 0) ∧ (g86 1127 0) + sm_hs (g86 71) (S 1100007) ≤ 635000 ∧ sm_NH (S 1100007) ∧ sm_CT (S 26) (S 27) (S 28) (S 29) (S 1100007) (S 1100023) (S 1100024) (S 1100025) (S 21) (S 1046 0) (S 1032 0) (S 1008 0) (S 1055 0) ∧ (∀ k : Int, (S 1046 0) ≤ k → k < ((S 1046 0) + 2 * (S 1032 0)) → (S 1100007 k) = 1) ∧ sm_DR (g86 72) (g86 71) (S 1046 0) ∧ 0 ≤ (S 1148 0) ∧ (S 1148 0) < (S 1046 0) ∧ (g86 71 (S 1148 0)) = 1 ∧ (S 1148 0) = (S 1148 0) ∧ 6 ≤ (6 : Int) ∧ (6 : Int) ≤ 8) ∧ (∀ g93 : sv_S, (sm_ST (g93 71) (g93 74) (g93 75) (g93 78) (g93 79) (g93 80) (S 27) (S 1100007) (S 1100023) (S 1100024) (S 1046 0) ((S 1046 0) + 2 * (S 1032 0)) (g93 1127 0) ∧ 465000 ≤ (g93 1127 0) ∧ (g93 1127 0) + sm_hs (g93 71) (S 1100007) ≤ 635000 ∧ (g93 75 639) = 647340 ∧ (∀ k : Int, (g86 71 k) = 1 → (g93 71 k) = 1) ∧ sm_DR (g93 72) (g93 71) (S 1046 0) ∧ (641 * (sm_cm (g93 71) + sm_pt (g93 68) (g93 69) (g93 70) + sm_pl (g93 81) (g93 82) (g93 83) (g93 84) (g93 85) (g93 86) + sm_ps (g93 76) (g93 77)) + sm_du (g93 72)) ≤ (641 * (sm_cm (g86 71) + sm_pt (g86 68) (g86 69) (g86 70) + sm_pl (g86 81) (g86 82) (g86 83) (g86 84) (g86 85) (g86 86) + sm_ps (g86 76) (g86 77)) + sm_du (g86 72))) → (sm_ST (g93 71) (g93 74) (g93 75) (g93 78) (g93 79) (g93 80) (S 27) (S 1100007) (S 1100023) (S 1100024) (S 1046 0) ((S 1046 0) + 2 * (S 1032 0)) (g93 1127 0) ∧ 465000 ≤ (g93 1127 0) ∧ (g93 1127 0) + sm_hs (g93 71) (S 1100007) ≤ 635000 ∧ (g93 75 639) = 647340 ∧ (∀ k : Int, (S 71 k) = 1 → (g93 71 k) = 1) ∧ sm_DR (g93 72) (g93 71) (S 1046 0) ∧ (641 * (sm_cm (g93 71) + sm_pt (g93 68) (g93 69) (g93 70) + sm_pl (g93 81) (g93 82) (g93 83) (g93 84) (g93 85) (g93 86) + sm_ps (g93 76) (g93 77)) + sm_du (g93 72)) ≤ (641 * (sm_cm (S 71) + sm_pt (S 68) (S 69) (S 70) + sm_pl (S 81) (S 82) (S 83) (S 84) (S 85) (S 86) + sm_ps (S 76) (S 77)) + sm_du (S 72)))))))))))) ∧ ((¬ (l4_42 = (0 : Int))) → (((l5_43 = (0 : Int)) → (((l4_42 = (0 : Int)) → (635639 ≤ (647740 : Int) ∧ (647740 : Int) < 647790) ∧ (∀ g99 : sv_S, (sm_pt (g99 68) (g99 69) (g99 70) = sm_pt (g52 68) (g52 69) (g52 70)) → (29 ≤ (S 1071 0) ∧ (S 1071 0) ≤ 127 ∧ 31 ≤ (S 1008 0) ∧ (S 1008 0) ≤ 90 ∧ 1 ≤ (S 1032 0) ∧ (S 1032 0) ≤ 11 ∧ 0 ≤ (S 1055 0) ∧ (S 1055 0) ≤ 19 ∧ (S 1071 0) = 29 + 6 * ((S 1032 0) - 1) + 2 * (S 1055 0) ∧ 0 ≤ (S 1046 0) ∧ (S 1046 0) + 2 * (S 1032 0) ≤ 500 ∧ sm_PD (S 1046 0) (S 1032 0) (S 1071 0) (S 1008 0) ∧ 0 ≤ (S 1071 0) * ((S 1008 0) + 1) ∧ (S 1071 0) * ((S 1008 0) + 1) ≤ 11557 ∧ 31 ≤ (S 1007 0) ∧ (S 1007 0) ≤ 400 ∧ sm_LN (S 4) 400 (S 1007 0) ∧ (S 75 639) = 647340 ∧ sm_ST (S 71) (S 74) (S 75) (S 78) (S 79) (S 80) (S 27) (S 1100007) (S 1100023) (S 1100024) (S 1046 0) ((S 1046 0) + 2 * (S 1032 0)) (S 1127 0) ∧ 465000 ≤ (S 1127 0) ∧ (S 1127 0) + sm_hs (S 71) (S 1100007) ≤ 635000 ∧ sm_NH (S 1100007) ∧ sm_CT (S 26) (S 27) (S 28) (S 29) (S 1100007) (S 1100023) (S 1100024) (S 1100025) (S 21) (S 1046 0) (S 1032 0) (S 1008 0) (S 1055 0) ∧ (∀ k : Int, (S 1046 0) ≤ k → k < ((S 1046 0) + 2 * (S 1032 0)) → (S 1100007 k) = 1) ∧ sm_DR (S 72) (S 71) (S 1046 0) ∧ 0 ≤ (S 74 639) ∧ (S 74 639) ≤ 400 ∧ 0 ≤ (S 78 639) ∧ (S 78 639) ≤ 40 ∧ (S 78 639) = sm_dp (S 1100024) (S 1100031 0) ∧ -1 ≤ (S 1100031 0) ∧ (S 1100031 0) < (S 1046 0) ∧ (0 ≤ (S 1100031 0) → (S 26 (S 1100031 0)) = 27) ∧ sm_TC (S 79) (S 80) (S 27) (S 1100007) (S 1100023) (S 1100024) 25560 (S 1100031 0) ∧ 0 ≤ (S 1148 0) ∧ (S 1148 0) + 1 < (S 1046 0) ∧ 0 ≤ (2 : Int) ∧ (2 : Int) ≤ (S 74 639) ∧ (S 74 639) - (2 : Int) ≤ 399 ∧ 0 ≤ (647740 : Int) ∧ (647740 : Int) < 647800 ∧ (S 1100007 ((S 1148 0) + 1)) = (S 74 639) - (2 : Int) + 1 ∧ (S 1100023 ((S 1148 0) + 1)) = (S 1100031 0)) ∧ (∀ g106 : sv_S, (sm_ST (g106 71) (g106 74) (g106 75) (g106 78) (g106 79) (g106 80) (S 27) (S 1100007) (S 1100023) (S 1100024) (S 1046 0) ((S 1046 0) + 2 * (S 1032 0)) (g106 1127 0) ∧ 465000 ≤ (g106 1127 0) ∧ (g106 1127 0) + sm_hs (g106 71) (S 1100007) ≤ 635000 ∧ (g106 75 639) = 647340 ∧ (∀ k : Int, (S 71 k) = 1 → (g106 71 k) = 1) ∧ sm_DR (g106 72) (g106 71) (S 1046 0) ∧ (641 * (sm_cm (g106 71) + sm_pt (g106 68) (g106 69) (g106 70) + sm_pl (g106 81) (g106 82) (g106 83) (g106 84) (g106 85) (g106 86) + sm_ps (g106 76) (g106 77)) + sm_du (g106 72)) ≤ (641 * (sm_cm (S 71) + sm_pt (g99 68) (g99 69) (g99 70) + sm_pl (S 81) (S 82) (S 83) (S 84) (S 85) (S 86) + sm_ps (S 76) (S 77)) + sm_du (S 72))) → ((((r13 % 4) = (0 : Int)) → (sm_ST (g106 71) (g106 74) (g106 75) (g106 78) (g106 79) (g106 80) (S 27) (S 1100007) (S 1100023) (S 1100024) (S 1046 0) ((S 1046 0) + 2 * (S 1032 0)) (g106 1127 0) ∧ 465000 ≤ (g106 1127 0) ∧ (g106 1127 0) + sm_hs (g106 71) (S 1100007) ≤ 635000 ∧ (g106 75 639) = 647340 ∧ (∀ k : Int, (S 71 k) = 1 → (g106 71 k) = 1) ∧ sm_DR (g106 72) (g106 71) (S 1046 0) ∧ (641 * (sm_cm (g106 71) + sm_pt (g106 68) (g106 69) (g106 70) + sm_pl (g106 81) (g106 82) (g106 83) (g106 84) (g106 85) (g106 86) + sm_ps (g106 76) (g106 77)) + sm_du (g106 72)) ≤ (641 * (sm_cm (S 71) + sm_pt (S 68) (S 69) (S 70) + sm_pl (S 81) (S 82) (S 83) (S 84) (S 85) (S 86) + sm_ps (S 76) (S 77)) + sm_du (S 72)))) ∧ ((¬ ((r13 % 4) = (0 : Int))) → (sv_R (S 1148 0) → (29 ≤ (S 1071 0) ∧ (S 1071 0) ≤ 127 ∧ 31 ≤ (S 1008 0) ∧ (S 1008 0) ≤ 90 ∧ 1 ≤ (S 1032 0) ∧ (S 1032 0) ≤ 11 ∧ 0 ≤ (S 1055 0) ∧ (S 1055 0) ≤ 19 ∧ (S 1071 0) = 29 + 6 * ((S 1032 0) - 1) + 2 * (S 1055 0) ∧ 0 ≤ (S 1046 0) ∧ (S 1046 0) + 2 * (S 1032 0) ≤ 500 ∧ sm_PD (S 1046 0) (S 1032 0) (S 1071 0) (S 1008 0) ∧ 0 ≤ (S 1071 0) * ((S 1008 0) + 1) ∧ (S 1071 0) * ((S 1008 0) + 1) ≤ 11557 ∧ 31 ≤ (S 1007 0) ∧ (S 1007 0) ≤ 400 ∧ sm_LN (S 4) 400 (S 1007 0) ∧ (g106 75 639) = 647340 ∧ sm_ST (g106 71) (g106 74) (g106 75) (g106 78) (g106 79) (g106 80) (S 27) (S 1100007) (S 1100023) (S 1100024) (S 1046 0) ((S 1046 0) + 2 * (S 1032 0)) (g106 1127 0) ∧ 465000 ≤ (g106 1127 0) ∧ (g106 1127 0) + sm_hs (g106 71) (S 1100007) ≤ 635000 ∧ sm_NH (S 1100007) ∧ sm_CT (S 26) (S 27) (S 28) (S 29) (S 1100007) (S 1100023) (S 1100024) (S 1100025) (S 21) (S 1046 0) (S 1032 0) (S 1008 0) (S 1055 0) ∧ (∀ k : Int, (S 1046 0) ≤ k → k < ((S 1046 0) + 2 * (S 1032 0)) → (S 1100007 k) = 1) ∧ sm_DR (g106 72) (g106 71) (S 1046 0) ∧ 0 ≤ (S 1148 0) ∧ (S 1148 0) < (S 1046 0) ∧ (g106 71 (S 1148 0)) = 1 ∧ (S 1148 0) = (S 1148 0) ∧ 6 ≤ (6 : Int) ∧ (6 : Int) ≤ 8) ∧ (∀ g113 : sv_S, (sm_ST (g113 71) (g113 74) (g113 75) (g113 78) (g113 79) (g113 80) (S 27) (S 1100007) (S 1100023) (S 1100024) (S 1046 0) ((S 1046 0) + 2 * (S 1032 0)) (g113 1127 0) ∧ 465000 ≤ (g113 1127 0) ∧ (g113 1127 0) + sm_hs (g113 71) (S 1100007) ≤ 635000 ∧ (g113 75 639) = 647340 ∧ (∀ k : Int, (g106 71 k) = 1 → (g113 71 k) = 1) ∧ sm_DR (g113 72) (g113 71) (S 1046 0) ∧ (641 * (sm_cm (g113 71) + sm_pt (g113 68) (g113 69) (g113 70) + sm_pl (g113 81) (g113 82) (g113 83) (g113 84) (g113 85) (g113 86) + sm_ps (g113 76) (g113 77)) + sm_du (g113 72)) ≤ (641 * (sm_cm (g106 71) + sm_pt (g106 68) (g106 69) (g106 70) + sm_pl (g106 81) (g106 82) (g106 83) (g106 84) (g106 85) (g106 86) + sm_ps (g106 76) (g106 77)) + sm_du (g106 72))) → (sm_ST (g113 71) (g113 74) (g113 75) (g113 78) (g113 79) (g113 80) (S 27) (S 1100007) (S 1100023) (S 1100024) (S 1046 0) ((S 1046 0) + 2 * (S 1032 0)) (g113 1127 0) ∧ 465000 ≤ (g113 1127 0) ∧ (g113 1127 0) + sm_hs (g113 71) (S 1100007) ≤ 635000 ∧ (g113 75 639) = 647340 ∧ (∀ k : Int, (S 71 k) = 1 → (g113 71 k) = 1) ∧ sm_DR (g113 72) (g113 71) (S 1046 0) ∧ (641 * (sm_cm (g113 71) + sm_pt (g113 68) (g113 69) (g113 70) + sm_pl (g113 81) (g113 82) (g113 83) (g113 84) (g113 85) (g113 86) + sm_ps (g113 76) (g113 77)) + sm_du (g113 72)) ≤ (641 * (sm_cm (S 71) + sm_pt (S 68) (S 69) (S 70) + sm_pl (S 81) (S 82) (S 83) (S 84) (S 85) (S 86) + sm_ps (S 76) (S 77)) + sm_du (S 72)))))))))) ∧ ((¬ (l4_42 = (0 : Int))) → (635639 ≤ (647740 : Int) ∧ (647740 : Int) < 647790) ∧ (∀ g119 : sv_S, (sm_pt (g119 68) (g119 69) (g119 70) = sm_pt (g52 68) (g52 69) (g52 70)) → (29 ≤ (S 1071 0) ∧ (S 1071 0) ≤ 127 ∧ 31 ≤ (S 1008 0) ∧ (S 1008 0) ≤ 90 ∧ 1 ≤ (S 1032 0) ∧ (S 1032 0) ≤ 11 ∧ 0 ≤ (S 1055 0) ∧ (S 1055 0) ≤ 19 ∧ (S 1071 0) = 29 + 6 * ((S 1032 0) - 1) + 2 * (S 1055 0) ∧ 0 ≤ (S 1046 0) ∧ (S 1046 0) + 2 * (S 1032 0) ≤ 500 ∧ sm_PD (S 1046 0) (S 1032 0) (S 1071 0) (S 1008 0) ∧ 0 ≤ (S 1071 0) * ((S 1008 0) + 1) ∧ (S 1071 0) * ((S 1008 0) + 1) ≤ 11557 ∧ 31 ≤ (S 1007 0) ∧ (S 1007 0) ≤ 400 ∧ sm_LN (S 4) 400 (S 1007 0) ∧ (S 75 639) = 647340 ∧ sm_ST (S 71) (S 74) (S 75) (S 78) (S 79) (S 80) (S 27) (S 1100007) (S 1100023) (S 1100024) (S 1046 0) ((S 1046 0) + 2 * (S 1032 0)) (S 1127 0) ∧ 465000 ≤ (S 1127 0) ∧ (S 1127 0) + sm_hs (S 71) (S 1100007) ≤ 635000 ∧ sm_NH (S 1100007) ∧ sm_CT (S 26) (S 27) (S 28) (S 29) (S 1100007) (S 1100023) (S 1100024) (S 1100025) (S 21) (S 1046 0) (S 1032 0) (S 1008 0) (S 1055 0) ∧ (∀ k : Int, (S 1046 0) ≤ k → k < ((S 1046 0) + 2 * (S 1032 0)) → (S 1100007 k) = 1) ∧ sm_DR (S 72) (S 71) (S 1046 0) ∧ 0 ≤ (S 74 639) ∧ (S 74 639) ≤ 400 ∧ 0 ≤ (S 78 639) ∧ (S 78 639) ≤ 40 ∧ (S 78 639) = sm_dp (S 1100024) (S 1100031 0) ∧ -1 ≤ (S 1100031 0) ∧ (S 1100031 0) < (S 1046 0) ∧ (0 ≤ (S 1100031 0) → (S 26 (S 1100031 0)) = 27) ∧ sm_TC (S 79) (S 80) (S 27) (S 1100007) (S 1100023) (S 1100024) 25560 (S 1100031 0) ∧ 0 ≤ (S 1148 0) ∧ (S 1148 0) + 1 < (S 1046 0) ∧ 0 ≤ (2 : Int) ∧ (2 : Int) ≤ (S 74 639) ∧ (S 74 639) - (2 : Int) ≤ 399 ∧ 0 ≤ (647740 : Int) ∧ (647740 : Int) < 647800 ∧ (S 1100007 ((S 1148 0) + 1)) = (S 74 639) - (2 : Int) + 1 ∧ (S 1100023 ((S 1148 0) + 1)) = (S 1100031 0)) ∧ (∀ g126 : sv_S, (sm_ST (g126 71) (g126 74) (g126 75) (g126 78) (g126 79) (g126 80) (S 27) (S 1100007) (S 1100023) (S 1100024) (S 1046 0) ((S 1046 0) + 2 * (S 1032 0)) (g126 1127 0) ∧ 465000 ≤ (g126 1127 0) ∧ (g126 1127 0) + sm_hs (g126 71) (S 1100007) ≤ 635000 ∧ (g126 75 639) = 647340 ∧ (∀ k : Int, (S 71 k) = 1 → (g126 71 k) = 1) ∧ sm_DR (g126 72) (g126 71) (S 1046 0) ∧ (641 * (sm_cm (g126 71) + sm_pt (g126 68) (g126 69) (g126 70) + sm_pl (g126 81) (g126 82) (g126 83) (g126 84) (g126 85) (g126 86) + sm_ps (g126 76) (g126 77)) + sm_du (g126 72)) ≤ (641 * (sm_cm (S 71) + sm_pt (g119 68) (g119 69) (g119 70) + sm_pl (S 81) (S 82) (S 83) (S 84) (S 85) (S 86) + sm_ps (S 76) (S 77)) + sm_du (S 72))) → ((((r13 % 4) = (0 : Int)) → (sm_ST (g126 71) (g126 74) (g126 75) (g126 78) (g126 79) (g126 80) (S 27) (S 1100007) (S 1100023) (S 1100024) (S 1046 0) ((S 1046 0) + 2 * (S 1032 0)) (g126 1127 0) ∧ 465000 ≤ (g126 1127 0) ∧ (g126 1127 0) + sm_hs (g126 71) (S 1100007) ≤ 635000 ∧ (g126 75 639) = 647340 ∧ (∀ k : Int, (S 71 k) = 1 → (g126 71 k) = 1) ∧ sm_DR (g126 72) (g126 71) (S 1046 0) ∧ (641 * (sm_cm (g126 71) + sm_pt (g126 68) (g126 69) (g126 70) + sm_pl (g126 81) (g126 82) (g126 83) (g126 84) (g126 85) (g126 86) + sm_ps (g126 76) (g126 77)) + sm_du (g126 72)) ≤ (641 * (sm_cm (S 71) + sm_pt (S 68) (S 69) (S 70) + sm_pl (S 81) (S 82) (S 83) (S 84) (S 85) (S 86) + sm_ps (S 76) (S 77)) + sm_du (S 72)))) ∧ ((¬ ((r13 % 4) = (0 : Int))) → (sv_R (S 1148 0) → (29 ≤ (S 1071 0) ∧ (S 1071 0) ≤ 127 ∧ 31 ≤ (S 1008 0) ∧ (S 1008 0) ≤ 90 ∧ 1 ≤ (S 1032 0) ∧ (S 1032 0) ≤ 11 ∧ 0 ≤ (S 1055 0) ∧ (S 1055 0) ≤ 19 ∧ (S 1071 0) = 29 + 6 * ((S 1032 0) - 1) + 2 * (S 1055 0) ∧ 0 ≤ (S 1046 0) ∧ (S 1046 0) + 2 * (S 1032 0) ≤ 500 ∧ sm_PD (S 1046 0) (S 1032 0) (S 1071 0) (S 1008 0) ∧ 0 ≤ (S 1071 0) * ((S 1008 0) + 1) ∧ (S 1071 0) * ((S 1008 0) + 1) ≤ 11557 ∧ 31 ≤ (S 1007 0) ∧ (S 1007 0) ≤ 400 ∧ sm_LN (S 4) 400 (S 1007 0) ∧ (g126 75 639) = 647340 ∧ sm_ST (g126 71) (g126 74) (g126 75) (g126 78) (g126 79) (g126 80) (S 27) (S 1100007) (S 1100023) (S 1100024) (S 1046 0) ((S 1046 0) + 2 * (S 1032 0)) (g126 1127 0) ∧ 465000 ≤ (g126 1127 0) ∧ (g126 1127 0) + sm_hs (g126 71) (S 1100007) ≤ 635000 ∧ sm_NH (S 1100007) ∧ sm_CT (S 26) (S 27) (S 28) (S 29) (S 1100007) (S 1100023) (S 1100024) (S 1100025) (S 21) (S 1046 0) (S 1032 0) (S 1008 0) (S 1055 0) ∧ (∀ k : Int, (S 1046 0) ≤ k → k < ((S 1046 0) + 2 * (S 1032 0)) → (S 1100007 k) = 1) ∧ sm_DR (g126 72) (g126 71) (S 1046 0) ∧ 0 ≤ (S 1148 0) ∧ (S 1148 0) < (S 1046 0) ∧ (g126 71 (S 1148 0)) = 1 ∧ (S 1148 0) = (S 1148 0) ∧ 6 ≤ (6 : Int) ∧ (6 : Int) ≤ 8) ∧ (∀ g133 : sv_S, (sm_ST (g133 71) (g133 74) (g133 75) (g133 78) (g133 79) (g133 80) (S 27) (S 1100007) (S 1100023) (S 1100024) (S 1046 0) ((S 1046 0) + 2 * (S 1032 0)) (g133 1127 0) ∧ 465000 ≤ (g133 1127 0) ∧ (g133 1127 0) + sm_hs (g133 71) (S 1100007) ≤ 635000 ∧ (g133 75 639) = 647340 ∧ (∀ k : Int, (g126 71 k) = 1 → (g133 71 k) = 1) ∧ sm_DR (g133 72) (g133 71) (S 1046 0) ∧ (641 * (sm_cm (g133 71) + sm_pt (g133 68) (g133 69) (g133 70) + sm_pl (g133 81) (g133 82) (g133 83) (g133 84) (g133 85) (g133 86) + sm_ps (g133 76) (g133 77)) + sm_du (g133 72)) ≤ (641 * (sm_cm (g126 71) + sm_pt (g126 68) (g126 69) (g126 70) + sm_pl (g126 81) (g126 82) (g126 83) (g126 84) (g126 85) (g126 86) + sm_ps (g126 76) (g126 77)) + sm_du (g126 72))) → (sm_ST (g133 71) (g133 74) (g133 75) (g133 78) (g133 79) (g133 80) (S 27) (S 1100007) (S 1100023) (S 1100024) (S 1046 0) ((S 1046 0) + 2 * (S 1032 0)) (g133 1127 0) ∧ 465000 ≤ (g133 1127 0) ∧ (g133 1127 0) + sm_hs (g133 71) (S 1100007) ≤ 635000 ∧ (g133 75 639) = 647340 ∧ (∀ k : Int, (S 71 k) = 1 → (g133 71 k) = 1) ∧ sm_DR (g133 72) (g133 71) (S 1046 0) ∧ (641 * (sm_cm (g133 71) + sm_pt (g133 68) (g133 69) (g133 70) + sm_pl (g133 81) (g133 82) (g133 83) (g133 84) (g133 85) (g133 86) + sm_ps (g133 76) (g133 77)) + sm_du (g133 72)) ≤ (641 * (sm_cm (S 71) + sm_pt (S 68) (S 69) (S 70) + sm_pl (S 81) (S 82) (S 83) (S 84) (S 85) (S 86) + sm_ps (S 76) (S 77)) + sm_du (S 72)))))))))))) ∧ ((¬ (l5_43 = (0 : Int))) → (635639 ≤ (647740 : Int) ∧ (647740 : Int) < 647790) ∧ (∀ g139 : sv_S, (sm_pt (g139 68) (g139 69) (g139 70) = sm_pt (g52 68) (g52 69) (g52 70)) → (29 ≤ (S 1071 0) ∧ (S 1071 0) ≤ 127 ∧ 31 ≤ (S 1008 0) ∧ (S 1008 0) ≤ 90 ∧ 1 ≤ (S 1032 0) ∧ (S 1032 0) ≤ 11 ∧ 0 ≤ (S 1055 0) ∧ (S 1055 0) ≤ 19 ∧ (S 1071 0) = 29 + 6 * ((S 1032 0) - 1) + 2 * (S 1055 0) ∧ 0 ≤ (S 1046 0) ∧ (S 1046 0) + 2 * (S 1032 0) ≤ 500 ∧ sm_PD (S 1046 0) (S 1032 0) (S 1071 0) (S 1008 0) ∧ 0 ≤ (S 1071 0) * ((S 1008 0) + 1) ∧ (S 1071 0) * ((S 1008 0) + 1) ≤ 11557 ∧ 31 ≤ (S 1007 0) ∧ (S 1007 0) ≤ 400 ∧ sm_LN (S 4) 400 (S 1007 0) ∧ (S 75 639) = 647340 ∧ sm_ST (S 71) (S 74) (S 75) (S 78) (S 79) (S 80) (S 27) (S 1100007) (S 1100023) (S 1100024) (S 1046 0) ((S 1046 0) + 2 * (S 1032 0)) (S 1127 0) ∧ 465000 ≤ (S 1127 0) ∧ (S 1127 0) + sm_hs (S 71) (S 1100007) ≤ 635000 ∧ sm_NH (S 1100007) ∧ sm_CT (S 26) (S 27) (S 28) (S 29) (S 1100007) (S 1100023) (S 1100024) (S 1100025) (S 21) (S 1046 0) (S 1032 0) (S 1008 0) (S 1055 0) ∧ (∀ k : Int, (S 1046 0) ≤ k → k < ((S 1046 0) + 2 * (S 1032 0)) → (S 1100007 k) = 1) ∧ sm_DR (S 72) (S 71) (S 1046 0) ∧ 0 ≤ (S 74 639) ∧ (S 74 639) ≤ 400 ∧ 0 ≤ (S 78 639) ∧ (S 78 639) ≤ 40 ∧ (S 78 639) = sm_dp (S 1100024) (S 1100031 0) ∧ -1 ≤ (S 1100031 0) ∧ (S 1100031 0) < (S 1046 0) ∧ (0 ≤ (S 1100031 0) → (S 26 (S 1100031 0)) = 27) ∧ sm_TC (S 79) (S 80) (S 27) (S 1100007) (S 1100023) (S 1100024) 25560 (S 1100031 0) ∧ 0 ≤ (S 1148 0) ∧ (S 1148 0) + 1 < (S 1046 0) ∧ 0 ≤ (2 : Int) ∧ (2 : Int) ≤ (S 74 639) ∧ (S 74 639) - (2 : Int) ≤ 399 ∧ 0 ≤ (647740 : Int) ∧ (647740 : Int) < 647800 ∧ (S 1100007 ((S 1148 0) + 1)) = (S 74 639) - (2 : Int) + 1 ∧ (S 1100023 ((S 1148 0) + 1)) = (S 1100031 0)) ∧ (∀ g146 : sv_S, (sm_ST (g146 71) (g146 74) (g146 75) (g146 78) (g146 79) (g146 80) (S 27) (S 1100007) (S 1100023) (S 1100024) (S 1046 0) ((S 1046 0) + 2 * (S 1032 0)) (g146 1127 0) ∧ 465000 ≤ (g146 1127 0) ∧ (g146 1127 0) + sm_hs (g146 71) (S 1100007) ≤ 635000 ∧ (g146 75 639) = 647340 ∧ (∀ k : Int, (S 71 k) = 1 → (g146 71 k) = 1) ∧ sm_DR (g146 72) (g146 71) (S 1046 0) ∧ (641 * (sm_cm (g146 71) + sm_pt (g146 68) (g146 69) (g146 70) + sm_pl (g146 81) (g146 82) (g146 83) (g146 84) (g146 85) (g146 86) + sm_ps (g146 76) (g146 77)) + sm_du (g146 72)) ≤ (641 * (sm_cm (S 71) + sm_pt (g139 68) (g139 69) (g139 70) + sm_pl (S 81) (S 82) (S 83) (S 84) (S 85) (S 86) + sm_ps (S 76) (S 77)) + sm_du (S 72))) → ((((r13 % 4) = (0 : Int)) → (sm_ST (g146 71) (g146 74) (g146 75) (g146 78) (g146 79) (g146 80) (S 27) (S 1100007) (S 1100023) (S 1100024) (S 1046 0) ((S 1046 0) + 2 * (S 1032 0)) (g146 1127 0) ∧ 465000 ≤ (g146 1127 0) ∧ (g146 1127 0) + sm_hs (g146 71) (S 1100007) ≤ 635000 ∧ (g146 75 639) = 647340 ∧ (∀ k : Int, (S 71 k) = 1 → (g146 71 k) = 1) ∧ sm_DR (g146 72) (g146 71) (S 1046 0) ∧ (641 * (sm_cm (g146 71) + sm_pt (g146 68) (g146 69) (g146 70) + sm_pl (g146 81) (g146 82) (g146 83) (g146 84) (g146 85) (g146 86) + sm_ps (g146 76) (g146 77)) + sm_du (g146 72)) ≤ (641 * (sm_cm (S 71) + sm_pt (S 68) (S 69) (S 70) + sm_pl (S 81) (S 82) (S 83) (S 84) (S 85) (S 86) + sm_ps (S 76) (S 77)) + sm_du (S 72)))) ∧ ((¬ ((r13 % 4) = (0 : Int))) → (sv_R (S 1148 0) → (29 ≤ (S 1071 0) ∧ (S 1071 0) ≤ 127 ∧ 31 ≤ (S 1008 0) ∧ (S 1008 0) ≤ 90 ∧ 1 ≤ (S 1032 0) ∧ (S 1032 0) ≤ 11 ∧ 0 ≤ (S 1055 0) ∧ (S 1055 0) ≤ 19 ∧ (S 1071 0) = 29 + 6 * ((S 1032 0) - 1) + 2 * (S 1055 0) ∧ 0 ≤ (S 1046 0) ∧ (S 1046 0) + 2 * (S 1032 0) ≤ 500 ∧ sm_PD (S 1046 0) (S 1032 0) (S 1071 0) (S 1008 0) ∧ 0 ≤ (S 1071 0) * ((S 1008 0) + 1) ∧ (S 1071 0) * ((S 1008 0) + 1) ≤ 11557 ∧ 31 ≤ (S 1007 0) ∧ (S 1007 0) ≤ 400 ∧ sm_LN (S 4) 400 (S 1007 0) ∧ (g146 75 639) = 647340 ∧ sm_ST (g146 71) (g146 74) (g146 75) (g146 78) (g146 79) (g146 80) (S 27) (S 1100007) (S 1100023) (S 1100024) (S 1046 0) ((S 1046 0) + 2 * (S 1032 0)) (g146 1127 0) ∧ 465000 ≤ (g146 1127 0) ∧ (g146 1127 0) + sm_hs (g146 71) (S 1100007) ≤ 635000 ∧ sm_NH (S 1100007) ∧ sm_CT (S 26) (S 27) (S 28) (S 29) (S 1100007) (S 1100023) (S 1100024) (S 1100025) (S 21) (S 1046 0) (S 1032 0) (S 1008 0) (S 1055 0) ∧ (∀ k : Int, (S 1046 0) ≤ k → k < ((S 1046 0) + 2 * (S 1032 0)) → (S 1100007 k) = 1) ∧ sm_DR (g146 72) (g146 71) (S 1046 0) ∧ 0 ≤ (S 1148 0) ∧ (S 1148 0) < (S 1046 0) ∧ (g146 71 (S 1148 0)) = 1 ∧ (S 1148 0) = (S 1148 0) ∧ 6 ≤ (6 : Int) ∧ (6 : Int) ≤ 8) ∧ (∀ g153 : sv_S, (sm_ST (g153 71) (g153 74) (g153 75) (g153 78) (g153 79) (g153 80) (S 27) (S 1100007) (S 1100023) (S 1100024) (S 1046 0) ((S 1046 0) + 2 * (S 1032 0)) (g153 1127 0) ∧ 465000 ≤ (g153 1127 0) ∧ (g153 1127 0) + sm_hs (g153 71) (S 1100007) ≤ 635000 ∧ (g153 75 639) = 647340 ∧ (∀ k : Int, (g146 71 k) = 1 → (g153 71 k) = 1) ∧ sm_DR (g153 72) (g153 71) (S 1046 0) ∧ (641 * (sm_cm (g153 71) + sm_pt (g153 68) (g153 69) (g153 70) + sm_pl (g153 81) (g153 82) (g153 83) (g153 84) (g153 85) (g153 86) + sm_ps (g153 76) (g153 77)) + sm_du (g153 72)) ≤ (641 * (sm_cm (g146 71) + sm_pt (g146 68) (g146 69) (g146 70) + sm_pl (g146 81) (g146 82) (g146 83) (g146 84) (g146 85) (g146 86) + sm_ps (g146 76) (g146 77)) + sm_du (g146 72))) → (sm_ST (g153 71) (g153 74) (g153 75) (g153 78) (g153 79) (g153 80) (S 27) (S 1100007) (S 1100023) (S 1100024) (S 1046 0) ((S 1046 0) + 2 * (S 1032 0)) (g153 1127 0) ∧ 465000 ≤ (g153 1127 0) ∧ (g153 1127 0) + sm_hs (g153 71) (S 1100007) ≤ 635000 ∧ (g153 75 639) = 647340 ∧ (∀ k : Int, (S 71 k) = 1 → (g153 71 k) = 1) ∧ sm_DR (g153 72) (g153 71) (S 1046 0) ∧ (641 * (sm_cm (g153 71) + sm_pt (g153 68) (g153 69) (g153 70) + sm_pl (g153 81) (g153 82) (g153 83) (g153 84) (g153 85) (g153 86) + sm_ps (g153 76) (g153 77)) + sm_du (g153 72)) ≤ (641 * (sm_cm (S 71) + sm_pt (S 68) (S 69) (S 70) + sm_pl (S 81) (S 82) (S 83) (S 84) (S 85) (S 86) + sm_ps (S 76) (S 77)) + sm_du (S 72))))))))))))))) ∧ ((¬ ((S 1071 0) ≤ l7_44)) → (sv_RL (g41 69 r7) → (sv_RL (g41 70 r7) → (0 ≤ l7_44 ∧ l7_44 < 128) ∧ (∀ r165 : Int, sv_R r165 → (r165 = sm_in (g41 69 r7) (g41 70 r7) l7_44 ∧ (r165 = 0 ∨ r165 = 1)) → (((¬ r165 = (0 : Int)) → (29 ≤ (S 1071 0) ∧ (S 1071 0) ≤ 127 ∧ 31 ≤ (S 1008 0) ∧ (S 1008 0) ≤ 90 ∧ 1 ≤ (S 1032 0) ∧ (S 1032 0) ≤ 11 ∧ 0 ≤ (S 1055 0) ∧ (S 1055 0) ≤ 19 ∧ (S 1071 0) = 29 + 6 * ((S 1032 0) - 1) + 2 * (S 1055 0) ∧ 0 ≤ (S 1046 0) ∧ (S 1046 0) + 2 * (S 1032 0) ≤ 500 ∧ sm_PD (S 1046 0) (S 1032 0) (S 1071 0) (S 1008 0) ∧ 0 ≤ (S 1071 0) * ((S 1008 0) + 1) ∧ (S 1071 0) * ((S 1008 0) + 1) ≤ 11557 ∧ 0 ≤ l7_44 ∧ l7_44 < (S 1071 0)) ∧ (∀ r171 : Int, sv_R r171 → (r171 = 0 ∨ r171 = 1) → ((∀ s172 : Int, sv_R s172 → (s172 = 0 ∨ s172 = 1) → ((∀ s174 : Int, sv_R s174 → (s174 = 0 ∨ s174 = 1) → ((∀ s176 : Int, sv_R s176 → (s176 = 0 ∨ s176 = 1) → ((0 ≤ (0 : Int) ∧ (0 : Int) ≤ (S 1008 0) + 1 ∧ sm_pt (g41 68) (g41 69) (g41 70) = sm_pt (S 68) (S 69) (S 70)) ∧ (∀ l10_179 : Int, sv_R l10_179 → ∀ g178 : sv_S, (0 ≤ l10_179 ∧ l10_179 ≤ (S 1008 0) + 1 ∧ sm_pt (g178 68) (g178 69) (g178 70) = sm_pt (S 68) (S 69) (S 70)) → (0 ≤ (S 1008 0) + 1 - l10_179) ∧ (sv_R (S 1008 0) → ((((S 1008 0) < l10_179) → (sv_R (l7_44 + (1 : Int))) ∧ ((0 ≤ (l7_44 + (1 : Int)) ∧ (l7_44 + (1 : Int)) ≤ (S 1071 0) ∧ (s172 = 0 ∨ s172 = 1) ∧ (s174 = 0 ∨ s174 = 1) ∧ sm_pt (g178 68) (g178 69) (g178 70) = sm_pt (S 68) (S 69) (S 70)) ∧ ((S 1071 0) - (l7_44 + (1 : Int))) < ((S 1071 0) - l7_44))) ∧ ((¬ ((S 1008 0) < l10_179)) → (0 ≤ l10_179 ∧ l10_179 < 128) ∧ (∀ r193 : Int, sv_R r193 → (r193 = 0 ∨ r193 = 1) → (((r193 = (0 : Int)) → (sv_R (l10_179 + (1 : Int))) ∧ ((0 ≤ (l10_179 + (1 : Int)) ∧ (l10_179 + (1 : Int)) ≤ (S 1008 0) + 1 ∧ sm_pt (g178 68) (g178 69) (g178 70) = sm_pt (S 68) (S 69) (S 70)) ∧ ((S 1008 0) + 1 - (l10_179 + (1 : Int))) < ((S 1008 0) + 1 - l10_179))) ∧ ((¬ (r193 = (0 : Int))) → (((¬ l10_179 = (0 : Int)) → (29 ≤ (S 1071 0) ∧ (S 1071 0) ≤ 127 ∧ 31 ≤ (S 1008 0) ∧ (S 1008 0) ≤ 90 ∧ 1 ≤ (S 1032 0) ∧ (S 1032 0) ≤ 11 ∧ 0 ≤ (S 1055 0) ∧ (S 1055 0) ≤ 19 ∧ (S 1071 0) = 29 + 6 * ((S 1032 0) - 1) + 2 * (S 1055 0) ∧ 0 ≤ (S 1046 0) ∧ (S 1046 0) + 2 * (S 1032 0) ≤ 500 ∧ sm_PD (S 1046 0) (S 1032 0) (S 1071 0) (S 1008 0) ∧ 0 ≤ (S 1071 0) * ((S 1008 0) + 1) ∧ (S 1071 0) * ((S 1008 0) + 1) ≤ 11557 ∧ 0 ≤ (639 : Int) ∧ ((639 : Int) = 639 ∨ (639 : Int) < (S 1046 0) + 2 * (S 1032 0)) ∧ 0 ≤ l7_44 ∧ (l7_44 < (S 1071 0) ∨ ((639 : Int) = 639 ∧ l7_44 < 128))) ∧ (∀ r200 : Int, sv_R r200 → (((639 : Int) = 639 → r200 = 15000 + l7_44) ∧ (¬ (639 : Int) = 639 → 0 ≤ r200 ∧ r200 < 14520)) → (0 ≤ r200 ∧ r200 < 15128) ∧ ((0 ≤ (S 81 r200) ∧ (S 81 r200) ≤ 1) → (((¬ (S 81 r200) = (0 : Int)) → (((s176 = (0 : Int)) → (29 ≤ (S 1071 0) ∧ (S 1071 0) ≤ 127 ∧ 31 ≤ (S 1008 0) ∧ (S 1008 0) ≤ 90 ∧ 1 ≤ (S 1032 0) ∧ (S 1032 0) ≤ 11 ∧ 0 ≤ (S 1055 0) ∧ (S 1055 0) ≤ 19 ∧ (S 1071 0) = 29 + 6 * ((S 1032 0) - 1) + 2 * (S 1055 0) ∧ 0 ≤ (S 1046 0) ∧ (S 1046 0) + 2 * (S 1032 0) ≤ 500 ∧ sm_PD (S 1046 0) (S 1032 0) (S 1071 0) (S 1008 0) ∧ 0 ≤ (S 1071 0) * ((S 1008 0) + 1) ∧ (S 1071 0) * ((S 1008 0) + 1) ≤ 11557 ∧ 0 ≤ (639 : Int) ∧ ((639 : Int) = 639 ∨ (639 : Int) < (S 1046 0) + 2 * (S 1032 0)) ∧ 0 ≤ l7_44 ∧ (l7_44 < (S 1071 0) ∨ ((639 : Int) = 639 ∧ l7_44 < 128)) ∧ 0 ≤ l10_179 ∧ l10_179 ≤ (S 1008 0)) ∧ (∀ r208 : Int, sv_R r208 → (((639 : Int) = 639 → 635640 ≤ r208 ∧ r208 < 647340) ∧ (¬ (639 : Int) = 639 → 0 ≤ r208 ∧ r208 < 464520)) → (635639 ≤ r208 ∧ r208 < 647790) ∧ (∀ g210 : sv_S, (sm_pt (g210 68) (g210 69) (g210 70) = sm_pt (g178 68) (g178 69) (g178 70)) → (sv_R (l10_179 + (1 : Int))) ∧ ((0 ≤ (l10_179 + (1 : Int)) ∧ (l10_179 + (1 : Int)) ≤ (S 1008 0) + 1 ∧ sm_pt (g210 68) (g210 69) (g210 70) = sm_pt (S 68) (S 69) (S 70)) ∧ ((S 1008 0) + 1 - (l10_179 + (1 : Int))) < ((S 1008 0) + 1 - l10_179))))) ∧ ((¬ (s176 = (0 : Int))) → (29 ≤ (S 1071 0) ∧ (S 1071 0) ≤ 127 ∧ 31 ≤ (S 1008 0) ∧ (S 1008 0) ≤ 90 ∧ 1 ≤ (S 1032 0) ∧ (S 1032 0) ≤ 11 ∧ 0 ≤ (S 1055 0) ∧ (S 1055 0) ≤ 19 ∧ (S 1071 0) = 29 + 6 * ((S 1032 0) - 1) + 2 * (S 1055 0) ∧ 0 ≤ (S 1046 0) ∧ (S 1046 0) + 2 * (S 1032 0) ≤ 500 ∧ sm_PD (S 1046 0) (S 1032 0) (S 1071 0) (S 1008 0) ∧ 0 ≤ (S 1071 0) * ((S 1008 0) + 1) ∧ (S 1071 0) * ((S 1008 0) + 1) ≤ 11557 ∧ 0 ≤ (639 : Int) ∧ ((639 : Int) = 639 ∨ (639 : Int) < (S 1046 0) + 2 * (S 1032 0)) ∧ 0 ≤ l7_44 ∧ (l7_44 < (S 1071 0) ∨ ((639 : Int) = 639 ∧ l7_44 < 128)) ∧ 0 ≤ l10_179 ∧ l10_179 ≤ (S 1008 0)) ∧ (∀ r223 : Int, sv_R r223 → (((639 : Int) = 639 → 635640 ≤ r223 ∧ r223 < 647340) ∧ (¬ (639 : Int) = 639 → 0 ≤ r223 ∧ r223 < 464520)) → (0 ≤ r223 ∧ r223 < 647800) ∧ (∀ g225 : sv_S, (635639 ≤ r223 → sm_pt (g225 68) (g225 69) (g225 70) = sm_pt (g178 68) (g178 69) (g178 70)) → (∀ r236 : Int, sv_R r236 → (((639 : Int) = 639 → 635640 ≤ r236 ∧ r236 < 647340) ∧ (¬ (639 : Int) = 639 → 0 ≤ r236 ∧ r236 < 464520)) → (635639 ≤ r236 ∧ r236 < 647790) ∧ (∀ g238 : sv_S, (sm_pt (g238 68) (g238 69) (g238 70) = sm_pt (g225 68) (g225 69) (g225 70)) → (sv_R (l10_179 + (1 : Int))) ∧ ((0 ≤ (l10_179 + (1 : Int)) ∧ (l10_179 + (1 : Int)) ≤ (S 1008 0) + 1 ∧ sm_pt (g238 68) (g238 69) (g238 70) = sm_pt (S 68) (S 69) (S 70)) ∧ ((S 1008 0) + 1 - (l10_179 + (1 : Int))) < ((S 1008 0) + 1 - l10_179))))))))) ∧ ((¬ (¬ (S 81 r200) = (0 : Int))) → (sv_R (l10_179 + (1 : Int))) ∧ ((0 ≤ (l10_179 + (1 : Int)) ∧ (l10_179 + (1 : Int)) ≤ (S 1008 0) + 1 ∧ sm_pt (g178 68) (g178 69) (g178 70) = sm_pt (S 68) (S 69) (S 70)) ∧ ((S 1008 0) + 1 - (l10_179 + (1 : Int))) < ((S 1008 0) + 1 - l10_179))))))) ∧ ((¬ (¬ l10_179 = (0 : Int))) → (((¬ r171 = (0 : Int)) → (sv_R (l10_179 + (1 : Int))) ∧ ((0 ≤ (l10_179 + (1 : Int)) ∧ (l10_179 + (1 : Int)) ≤ (S 1008 0) + 1 ∧ sm_pt (g178 68) (g178 69) (g178 70) = sm_pt (S 68) (S 69) (S 70)) ∧ ((S 1008 0) + 1 - (l10_179 + (1 : Int))) < ((S 1008 0) + 1 - l10_179))) ∧ ((¬ (¬ r171 = (0 : Int))) → (29 ≤ (S 1071 0) ∧ (S 1071 0) ≤ 127 ∧ 31 ≤ (S 1008 0) ∧ (S 1008 0) ≤ 90 ∧ 1 ≤ (S 1032 0) ∧ (S 1032 0) ≤ 11 ∧ 0 ≤ (S 1055 0) ∧ (S 1055 0) ≤ 19 ∧ (S 1071 0) = 29 + 6 * ((S 1032 0) - 1) + 2 * (S 1055 0) ∧ 0 ≤ (S 1046 0) ∧ (S 1046 0) + 2 * (S 1032 0) ≤ 500 ∧ sm_PD (S 1046 0) (S 1032 0) (S 1071 0) (S 1008 0) ∧ 0 ≤ (S 1071 0) * ((S 1008 0) + 1) ∧ (S 1071 0) * ((S 1008 0) + 1) ≤ 11557 ∧ 0 ≤ (639 : Int) ∧ ((639 : Int) = 639 ∨ (639 : Int) < (S 1046 0) + 2 * (S 1032 0)) ∧ 0 ≤ l7_44 ∧ (l7_44 < (S 1071 0) ∨ ((639 : Int) = 639 ∧ l7_44 < 128))) ∧ (∀ r253 : Int, sv_R r253 → (((639 : Int) = 639 → r253 = 15000 + l7_44) ∧ (¬ (639 : Int) = 639 → 0 ≤ r253 ∧ r253 < 14520)) → (0 ≤ r253 ∧ r253 < 15128) ∧ ((0 ≤ (S 81 r253) ∧ (S 81 r253) ≤ 1) → (((¬ (S 81 r253) = (0 : Int)) → (((s176 = (0 : Int)) → (29 ≤ (S 1071 0) ∧ (S 1071 0) ≤ 127 ∧ 31 ≤ (S 1008 0) ∧ (S 1008 0) ≤ 90 ∧ 1 ≤ (S 1032 0) ∧ (S 1032 0) ≤ 11 ∧ 0 ≤ (S 1055 0) ∧ (S 1055 0) ≤ 19 ∧ (S 1071 0) = 29 + 6 * ((S 1032 0) - 1) + 2 * (S 1055 0) ∧ 0 ≤ (S 1046 0) ∧ (S 1046 0) + 2 * (S 1032 0) ≤ 500 ∧ sm_PD (S 1046 0) (S 1032 0) (S 1071 0) (S 1008 0) ∧ 0 ≤ (S 1071 0) * ((S 1008 0) + 1) ∧ (S 1071 0) * ((S 1008 0) + 1) ≤ 11557 ∧ 0 ≤ (639 : Int) ∧ ((639 : Int) = 639 ∨ (639 : Int) < (S 1046 0) + 2 * (S 1032 0)) ∧ 0 ≤ l7_44 ∧ (l7_44 < (S 1071 0) ∨ ((639 : Int) = 639 ∧ l7_44 < 128)) ∧ 0 ≤ l10_179 ∧ l10_179 ≤ (S 1008 0)) ∧ (∀ r261 : Int, sv_R r261 → (((639 : Int) = 639 → 635640 ≤ r261 ∧ r261 < 647340) ∧ (¬ (639 : Int) = 639 → 0 ≤ r261 ∧ r261 < 464520)) → (635639 ≤ r261 ∧ r261 < 647790) ∧ (∀ g263 : sv_S, (sm_pt (g263 68) (g263 69) (g263 70) = sm_pt (g178 68) (g178 69) (g178 70)) → (sv_R (l10_179 + (1 : Int))) ∧ ((0 ≤ (l10_179 + (1 : Int)) ∧ (l10_179 + (1 : Int)) ≤ (S 1008 0) + 1 ∧ sm_pt (g263 68) (g263 69) (g263 70) = sm_pt (S 68) (S 69) (S 70)) ∧ ((S 1008 0) + 1 - (l10_179 + (1 : Int))) < ((S 1008 0) + 1 - l10_179))))) ∧ ((¬ (s176 = (0 : Int))) → (29 ≤ (S 1071 0) ∧ (S 1071 0) ≤ 127 ∧ 31 ≤ (S 1008 0) ∧ (S 1008 0) ≤ 90 ∧ 1 ≤ (S 1032 0) ∧ (S 1032 0) ≤ 11 ∧ 0 ≤ (S 1055 0) ∧ (S 1055 0) ≤ 19 ∧ (S 1071 0) = 29 + 6 * ((S 1032 0) - 1) + 2 * (S 1055 0) ∧ 0 ≤ (S 1046 0) ∧ (S 1046 0) + 2 * (S 1032 0) ≤ 500 ∧ sm_PD (S 1046 0) (S 1032 0) (S 1071 0) (S 1008 0) ∧ 0 ≤ (S 1071 0) * ((S 1008 0) + 1) ∧ (S 1071 0) * ((S 1008 0) + 1) ≤ 11557 ∧ 0 ≤ (639 : Int) ∧ ((639 : Int) = 639 ∨ (639 : Int) < (S 1046 0) + 2 * (S 1032 0)) ∧ 0 ≤ l7_44 ∧ (l7_44 < (S 1071 0) ∨ ((639 : Int) = 639 ∧ l7_44 < 128)) ∧ 0 ≤ l10_179 ∧ l10_179 ≤ (S 1008 0)) ∧ (∀ r276 : Int, sv_R r276 → (((639 : Int) = 639 → 635640 ≤ r276 ∧ r276 < 647340) ∧ (¬ (639 : Int) = 639 → 0 ≤ r276 ∧ r276 < 464520)) → (0 ≤ r276 ∧ r276 < 647800) ∧ (∀ g278 : sv_S, (635639 ≤ r276 → sm_pt (g278 68) (g278 69) (g278 70) = sm_pt (g178 68) (g178 69) (g178 70)) → (∀ r289 : Int, sv_R r289 → (((639 : Int) = 639 → 635640 ≤ r289 ∧ r289 < 647340) ∧ (¬ (639 : Int) = 639 → 0 ≤ r289 ∧ r289 < 464520)) → (635639 ≤ r289 ∧ r289 < 647790) ∧ (∀ g291 : sv_S, (sm_pt (g291 68) (g291 69) (g291 70) = sm_pt (g278 68) (g278 69) (g278 70)) → (sv_R (l10_179 + (1 : Int))) ∧ ((0 ≤ (l10_179 + (1 : Int)) ∧ (l10_179 + (1 : Int)) ≤ (S 1008 0) + 1 ∧ sm_pt (g291 68) (g291 69) (g291 70) = sm_pt (S 68) (S 69) (S 70)) ∧ ((S 1008 0) + 1 - (l10_179 + (1 : Int))) < ((S 1008 0) + 1 - l10_179))))))))) ∧ ((¬ (¬ (S 81 r253) = (0 : Int))) → (sv_R (l10_179 + (1 : Int))) ∧ ((0 ≤ (l10_179 + (1 : Int)) ∧ (l10_179 + (1 : Int)) ≤ (S 1008 0) + 1 ∧ sm_pt (g178 68) (g178 69) (g178 70) = sm_pt (S 68) (S 69) (S 70)) ∧ ((S 1008 0) + 1 - (l10_179 + (1 : Int))) < ((S 1008 0) + 1 - l10_179))))))))))))))))))) ∧ (((¬ r13 = (0 : Int)) → ((0 : Int) = 0 ∨ (0 : Int) = 1)) ∧ ((¬ (¬ r13 = (0 : Int))) → (sv_R (r38 + r40)) ∧ (((¬ (r38 + r40) = (1 : Int)) → ((0 : Int) = 0 ∨ (0 : Int) = 1)) ∧ ((¬ (¬ (r38 + r40) = (1 : Int))) → (0 ≤ l7_44 ∧ l7_44 ≤ 200) ∧ (∀ r307 : Int, sv_R r307 → (r307 = 0 ∨ r307 = 1) → (((r307 = (0 : Int)) → ((0 : Int) = 0 ∨ (0 : Int) = 1)) ∧ ((¬ (r307 = (0 : Int))) → (∀ r312 : Int, sv_R r312 → (0 ≤ r312 ∧ r312 ≤ 128) → (((¬ r312 = (1 : Int)) → ((0 : Int) = 0 ∨ (0 : Int) = 1)) ∧ ((¬ (¬ r312 = (1 : Int))) → (sv_R (S 1008 0) → (0 ≤ (S 1008 0) ∧ (S 1008 0) < 128) ∧ (∀ r319 : Int, sv_R r319 → (r319 = 0 ∨ r319 = 1) → (((¬ r319 = (0 : Int)) → ((0 : Int) = 0 ∨ (0 : Int) = 1)) ∧ ((¬ (¬ r319 = (0 : Int))) → ((1 : Int) = 0 ∨ (1 : Int) = 1))))))))))))))))) ∧ (((l5_43 = (0 : Int)) → ((0 : Int) = 0 ∨ (0 : Int) = 1)) ∧ ((¬ (l5_43 = (0 : Int))) → (((r171 = (0 : Int)) → ((0 : Int) = 0 ∨ (0 : Int) = 1)) ∧ ((¬ (r171 = (0 : Int))) → ((1 : Int) = 0 ∨ (1 : Int) = 1))))))) ∧ (((¬ l4_42 = (0 : Int)) → ((1 : Int) = 0 ∨ (1 : Int) = 1)) ∧ ((¬ (¬ l4_42 = (0 : Int))) → (((r171 = (0 : Int)) → ((0 : Int) = 0 ∨ (0 : Int) = 1)) ∧ ((¬ (r171 = (0 : Int))) → (0 ≤ (0 : Int) ∧ (0 : Int) < 128) ∧ (∀ r327 : Int, sv_R r327 → (r327 = 0 ∨ r327 = 1) → (((r327 = (0 : Int)) → ((0 : Int) = 0 ∨ (0 : Int) = 1)) ∧ ((¬ (r327 = (0 : Int))) → ((1 : Int) = 0 ∨ (1 : Int) = 1))))))))))) ∧ ((¬ (¬ r165 = (0 : Int))) → (sv_R (l7_44 + (1 : Int))) ∧ ((0 ≤ (l7_44 + (1 : Int)) ∧ (l7_44 + (1 : Int)) ≤ (S 1071 0) ∧ (l4_42 = 0 ∨ l4_42 = 1) ∧ (l5_43 = 0 ∨ l5_43 = 1) ∧ sm_pt (g41 68) (g41 69) (g41 70) = sm_pt (S 68) (S 69) (S 70)) ∧ ((S 1071 0) - (l7_44 + (1 : Int))) < ((S 1071 0) - l7_44))))))))))))))))) ∧ (((¬ r13 = (0 : Int)) → ((0 : Int) = 0 ∨ (0 : Int) = 1)) ∧ ((¬ (¬ r13 = (0 : Int))) → (sv_RL (g21 1143 0) → (((¬ (g21 1143 0) = (1 : Int)) → ((0 : Int) = 0 ∨ (0 : Int) = 1)) ∧ ((¬ (¬ (g21 1143 0) = (1 : Int))) → (sv_RL (g21 1144 0) → (((¬ (g21 1144 0) = (0 : Int)) → ((0 : Int) = 0 ∨ (0 : Int) = 1)) ∧ ((¬ (¬ (g21 1144 0) = (0 : Int))) → ((1 : Int) = 0 ∨ (1 : Int) = 1))))))))))))) ∧ (∀ r333 : Int, sv_R r333 → (((¬ r333 = (0 : Int)) → ((1 : Int) = 0 ∨ (1 : Int) = 1)) ∧ ((¬ (¬ r333 = (0 : Int))) → (∀ r338 : Int, sv_R r338 → (r338 = 0 ∨ r338 = 1) → (((r338 = (0 : Int)) → ((0 : Int) = 0 ∨ (0 : Int) = 1)) ∧ ((¬ (r338 = (0 : Int))) → ((1 : Int) = 0 ∨ (1 : Int) = 1))))))))))))) := by
  intro S
  intro h1_
  rintro ⟨h2_, ⟨h3_, ⟨h4_, ⟨h5_, ⟨h6_, ⟨h7_, ⟨h8_, ⟨h9_, ⟨h10_, ⟨h11_, ⟨h12_, ⟨h13_, ⟨h14_, ⟨h15_, ⟨h16_, ⟨h17_, ⟨h18_, ⟨h19_, ⟨h20_, ⟨h21_, ⟨h22_, ⟨h23_, ⟨h24_, ⟨h25_, ⟨h26_, ⟨h27_, ⟨h28_, ⟨h29_, ⟨h30_, ⟨h31_, ⟨h32_, ⟨h33_, ⟨h34_, ⟨h35_, ⟨h36_, ⟨h37_, ⟨h38_, ⟨h39_, ⟨h40_, ⟨h41_, ⟨h42_, ⟨h43_, h44_⟩⟩⟩⟩⟩⟩⟩⟩⟩⟩⟩⟩⟩⟩⟩⟩⟩⟩⟩⟩⟩⟩⟩⟩⟩⟩⟩⟩⟩⟩⟩⟩⟩⟩⟩⟩⟩⟩⟩⟩⟩⟩
  intro h45_
  have h46_ := (h45_ h24_)
  have h47_ := (h46_ h36_)
  obtain ⟨h48_, ⟨h49_, ⟨h50_, h51_⟩⟩⟩ := (h47_ h37_)
  refine ⟨(la_waysOfDelete_0 h19_ h39_ h41_ h49_), ?_⟩
  intro r7
  intro h52_
  intro h53_
  refine ⟨(la_waysOfDelete_1 h27_ h28_ h53_), ?_⟩
  intro r13
  intro h54_
  intro h55_
  refine ⟨(la_waysOfDelete_2 h19_ h39_ h41_ h49_), ?_⟩
  intro r19
  intro h56_
  intro h57_
  refine ⟨⟨h16_, ⟨h17_, ⟨h18_, ⟨(la_waysOfDelete_3 h27_ h57_), ⟨(la_waysOfDelete_4 h28_ h57_), ⟨h2_, ⟨h3_, ⟨h4_, ⟨h5_, ⟨h6_, ⟨h7_, ⟨h8_, ⟨h9_, ⟨h10_, ⟨h11_, ⟨h12_, ⟨h13_, (la_waysOfDelete_5 h14_ h15_)⟩⟩⟩⟩⟩⟩⟩⟩⟩⟩⟩⟩⟩⟩⟩⟩⟩, ?_⟩
  intro g21
  intro _
  refine ⟨?_, ?_⟩
  · skip
    intro s26
    intro h58_
    intro h59_
    refine ⟨?_, ?_⟩
    · skip
      intro h60_
      have h61_ := (h59_.resolve_right (la_waysOfDelete_6 h60_))
      refine ⟨?_, ?_⟩
      · skip
        intro h62_
        refine ⟨h20_, ?_⟩
        refine ⟨h21_, ?_⟩
        refine ⟨h22_, ?_⟩
        refine ⟨h19_, ?_⟩
        refine ⟨?_, ?_⟩
        · skip
          intro k
          intro h63_
          exact h63_
        refine ⟨h26_, ?_⟩
        exact la_waysOfDelete_7
      intro h64_
      intro h65_
      refine ⟨⟨h2_, ⟨h3_, ⟨h4_, ⟨h5_, ⟨h6_, ⟨h7_, ⟨h8_, ⟨h9_, ⟨h10_, ⟨h11_, ⟨h12_, ⟨h13_, ⟨h14_, ⟨h15_, ⟨h16_, ⟨h17_, ⟨h18_, ⟨h19_, ⟨h20_, ⟨h21_, ⟨h22_, ⟨h23_, ⟨h24_, ⟨h25_, ⟨h26_, (la_waysOfDelete_10 h36_ h38_ h42_)⟩⟩⟩⟩⟩⟩⟩⟩⟩⟩⟩⟩⟩⟩⟩⟩⟩⟩⟩⟩⟩⟩⟩⟩⟩, ?_⟩
      intro g30
      rintro ⟨h66_, ⟨h67_, ⟨h68_, ⟨h69_, ⟨h70_, ⟨h71_, h72_⟩⟩⟩⟩⟩⟩
      refine ⟨h66_, ?_⟩
      refine ⟨h67_, ?_⟩
      refine ⟨h68_, ?_⟩
      refine ⟨h69_, ?_⟩
      refine ⟨h70_, ?_⟩
      refine ⟨h71_, ?_⟩
      exact h72_
    intro h73_
    have h74_ := (h59_.resolve_left h73_)
    refine ⟨?_, ?_⟩
    · skip
      intro s35
      intro h75_
      intro h76_
      intro h77_
      intro r38
      rintro ⟨h78_, h79_⟩
      intro h80_
      intro r40
      rintro ⟨h81_, h82_⟩
      refine ⟨⟨la_waysOfDelete_13, ⟨(la_waysOfDelete_14 h2_), ⟨la_waysOfDelete_15, ⟨h76_, la_waysOfDelete_16⟩⟩⟩⟩, ?_⟩
      intro l4_42
      intro h83_
      intro l5_43
      intro h84_
      intro l7_44
      intro h85_
      intro g41
      rintro ⟨h86_, ⟨h87_, ⟨h88_, ⟨h89_, h90_⟩⟩⟩⟩
      refine ⟨(la_waysOfDelete_17 h87_), ?_⟩
      intro h91_
      refine ⟨?_, ?_⟩
      · skip
        intro h92_
        refine ⟨la_waysOfDelete_18, ?_⟩
        intro g52
        intro h93_
        have h94_ := (h93_ la_waysOfDelete_19)
        refine ⟨?_, ?_⟩
        · skip
          intro h95_
          have h96_ := (h88_.resolve_right (la_waysOfDelete_6 h95_))
          refine ⟨?_, ?_⟩
          · skip
            intro h97_
            refine ⟨la_waysOfDelete_20, ?_⟩
            intro g59
            intro h98_
            refine ⟨⟨h2_, ⟨h3_, ⟨h4_, ⟨h5_, ⟨h6_, ⟨h7_, ⟨h8_, ⟨h9_, ⟨h10_, ⟨h11_, ⟨h12_, ⟨h13_, ⟨h14_, ⟨h15_, ⟨h16_, ⟨h17_, ⟨h18_, ⟨h19_, ⟨h20_, ⟨h21_, ⟨h22_, ⟨h23_, ⟨h24_, ⟨h25_, ⟨h26_, ⟨h27_, ⟨h28_, ⟨h29_, ⟨h30_, ⟨h31_, ⟨h32_, ⟨h33_, ⟨h34_, ⟨h35_, (la_waysOfDelete_21 h36_ h39_ h40_ h41_ h42_ h43_ h44_ h49_)⟩⟩⟩⟩⟩⟩⟩⟩⟩⟩⟩⟩⟩⟩⟩⟩⟩⟩⟩⟩⟩⟩⟩⟩⟩⟩⟩⟩⟩⟩⟩⟩⟩⟩, ?_⟩
            intro g66
            rintro ⟨h99_, ⟨h100_, ⟨h101_, ⟨h102_, ⟨h103_, ⟨h104_, h105_⟩⟩⟩⟩⟩⟩
            refine ⟨?_, ?_⟩
            · skip
              intro h106_
              refine ⟨h99_, ?_⟩
              refine ⟨h100_, ?_⟩
              refine ⟨h101_, ?_⟩
              refine ⟨h102_, ?_⟩
              refine ⟨h103_, ?_⟩
              refine ⟨h104_, ?_⟩
              exact (la_waysOfDelete_22 h90_ h94_ h98_ h105_)
            intro h107_
            intro h108_
            refine ⟨?_, ?_⟩
            · skip
              refine ⟨h2_, ?_⟩
              refine ⟨h3_, ?_⟩
              refine ⟨h4_, ?_⟩
              refine ⟨h5_, ?_⟩
              refine ⟨h6_, ?_⟩
              refine ⟨h7_, ?_⟩
              refine ⟨h8_, ?_⟩
              refine ⟨h9_, ?_⟩
              refine ⟨h10_, ?_⟩
              refine ⟨h11_, ?_⟩
              refine ⟨h12_, ?_⟩
              refine ⟨h13_, ?_⟩
              refine ⟨h14_, ?_⟩
              refine ⟨h15_, ?_⟩
              refine ⟨h16_, ?_⟩
              refine ⟨h17_, ?_⟩
              refine ⟨h18_, ?_⟩
              refine ⟨h102_, ?_⟩
              refine ⟨h99_, ?_⟩
              refine ⟨h100_, ?_⟩
              refine ⟨h101_, ?_⟩
              refine ⟨h23_, ?_⟩
              refine ⟨h24_, ?_⟩
              refine ⟨h25_, ?_⟩
              refine ⟨h104_, ?_⟩
              refine ⟨h36_, ?_⟩
              refine ⟨h37_, ?_⟩
              refine ⟨?_, ?_⟩
              · skip
                have h109_ := (h25_ (S 1148 0))
                have h110_ := (h25_ (S 1148 0 + 1))
                have h111_ := ((h103_ (S 1148 0)) h38_)
                exact h111_
              refine ⟨la_waysOfDelete_16, ?_⟩
              refine ⟨la_waysOfDelete_25, ?_⟩
              exact la_waysOfDelete_26
            intro g73
            rintro ⟨h112_, ⟨h113_, ⟨h114_, ⟨h115_, ⟨h116_, ⟨h117_, h118_⟩⟩⟩⟩⟩⟩
            refine ⟨h112_, ?_⟩
            refine ⟨h113_, ?_⟩
            refine ⟨h114_, ?_⟩
            refine ⟨h115_, ?_⟩
            refine ⟨?_, ?_⟩
            · skip
              intro kv1
              intro h119_
              have h120_ := (h25_ (S 1148 0))
              have h121_ := (h25_ (S 1148 0 + 1))
              have h122_ := ((h103_ kv1) h119_)
              have h123_ := ((h103_ (S 1148 0)) h38_)
              have h124_ := ((h116_ kv1) h122_)
              have h125_ := ((h116_ (S 1148 0)) h123_)
              exact h124_
            refine ⟨h117_, ?_⟩
            exact (la_waysOfDelete_27 h90_ h94_ h98_ h105_ h118_)
          intro h126_
          refine ⟨la_waysOfDelete_20, ?_⟩
          intro g79
          intro h127_
          refine ⟨⟨h2_, ⟨h3_, ⟨h4_, ⟨h5_, ⟨h6_, ⟨h7_, ⟨h8_, ⟨h9_, ⟨h10_, ⟨h11_, ⟨h12_, ⟨h13_, ⟨h14_, ⟨h15_, ⟨h16_, ⟨h17_, ⟨h18_, ⟨h19_, ⟨h20_, ⟨h21_, ⟨h22_, ⟨h23_, ⟨h24_, ⟨h25_, ⟨h26_, ⟨h27_, ⟨h28_, ⟨h29_, ⟨h30_, ⟨h31_, ⟨h32_, ⟨h33_, ⟨h34_, ⟨h35_, (la_waysOfDelete_21 h36_ h39_ h40_ h41_ h42_ h43_ h44_ h49_)⟩⟩⟩⟩⟩⟩⟩⟩⟩⟩⟩⟩⟩⟩⟩⟩⟩⟩⟩⟩⟩⟩⟩⟩⟩⟩⟩⟩⟩⟩⟩⟩⟩⟩, ?_⟩
          intro g86
          rintro ⟨h128_, ⟨h129_, ⟨h130_, ⟨h131_, ⟨h132_, ⟨h133_, h134_⟩⟩⟩⟩⟩⟩
          refine ⟨?_, ?_⟩
          · skip
            intro h135_
            refine ⟨h128_, ?_⟩
            refine ⟨h129_, ?_⟩
            refine ⟨h130_, ?_⟩
            refine ⟨h131_, ?_⟩
            refine ⟨h132_, ?_⟩
            refine ⟨h133_, ?_⟩
            exact (la_waysOfDelete_22 h90_ h94_ h127_ h134_)
          intro h136_
          intro h137_
          refine ⟨?_, ?_⟩
          · skip
            refine ⟨h2_, ?_⟩
            refine ⟨h3_, ?_⟩
            refine ⟨h4_, ?_⟩
            refine ⟨h5_, ?_⟩
            refine ⟨h6_, ?_⟩
            refine ⟨h7_, ?_⟩
            refine ⟨h8_, ?_⟩
            refine ⟨h9_, ?_⟩
            refine ⟨h10_, ?_⟩
            refine ⟨h11_, ?_⟩
            refine ⟨h12_, ?_⟩
            refine ⟨h13_, ?_⟩
            refine ⟨h14_, ?_⟩
            refine ⟨h15_, ?_⟩
            refine ⟨h16_, ?_⟩
            refine ⟨h17_, ?_⟩
            refine ⟨h18_, ?_⟩
            refine ⟨h131_, ?_⟩
            refine ⟨h128_, ?_⟩
            refine ⟨h129_, ?_⟩
            refine ⟨h130_, ?_⟩
            refine ⟨h23_, ?_⟩
            refine ⟨h24_, ?_⟩
            refine ⟨h25_, ?_⟩
            refine ⟨h133_, ?_⟩
            refine ⟨h36_, ?_⟩
            refine ⟨h37_, ?_⟩
            refine ⟨?_, ?_⟩
            · skip
              have h138_ := (h25_ (S 1148 0))
              have h139_ := (h25_ (S 1148 0 + 1))
              have h140_ := ((h132_ (S 1148 0)) h38_)
              exact h140_
            refine ⟨la_waysOfDelete_16, ?_⟩
            refine ⟨la_waysOfDelete_25, ?_⟩
            exact la_waysOfDelete_26
          intro g93
          rintro ⟨h141_, ⟨h142_, ⟨h143_, ⟨h144_, ⟨h145_, ⟨h146_, h147_⟩⟩⟩⟩⟩⟩
          refine ⟨h141_, ?_⟩
          refine ⟨h142_, ?_⟩
          refine ⟨h143_, ?_⟩
          refine ⟨h144_, ?_⟩
          refine ⟨?_, ?_⟩
          · skip
            intro kv2
            intro h148_
            have h149_ := (h25_ (S 1148 0))
            have h150_ := (h25_ (S 1148 0 + 1))
            have h151_ := ((h132_ kv2) h148_)
            have h152_ := ((h132_ (S 1148 0)) h38_)
            have h153_ := ((h145_ kv2) h151_)
            have h154_ := ((h145_ (S 1148 0)) h152_)
            exact h153_
          refine ⟨h146_, ?_⟩
          exact (la_waysOfDelete_27 h90_ h94_ h127_ h134_ h147_)
        intro h155_
        have h156_ := (h88_.resolve_left h155_)
        refine ⟨?_, ?_⟩
        · skip
          intro h157_
          have h158_ := (h89_.resolve_right (la_waysOfDelete_6 h157_))
          refine ⟨?_, ?_⟩
          · skip
            intro h159_
            refine ⟨la_waysOfDelete_20, ?_⟩
            intro g99
            intro h160_
            refine ⟨⟨h2_, ⟨h3_, ⟨h4_, ⟨h5_, ⟨h6_, ⟨h7_, ⟨h8_, ⟨h9_, ⟨h10_, ⟨h11_, ⟨h12_, ⟨h13_, ⟨h14_, ⟨h15_, ⟨h16_, ⟨h17_, ⟨h18_, ⟨h19_, ⟨h20_, ⟨h21_, ⟨h22_, ⟨h23_, ⟨h24_, ⟨h25_, ⟨h26_, ⟨h27_, ⟨h28_, ⟨h29_, ⟨h30_, ⟨h31_, ⟨h32_, ⟨h33_, ⟨h34_, ⟨h35_, (la_waysOfDelete_21 h36_ h39_ h40_ h41_ h42_ h43_ h44_ h49_)⟩⟩⟩⟩⟩⟩⟩⟩⟩⟩⟩⟩⟩⟩⟩⟩⟩⟩⟩⟩⟩⟩⟩⟩⟩⟩⟩⟩⟩⟩⟩⟩⟩⟩, ?_⟩
            intro g106
            rintro ⟨h161_, ⟨h162_, ⟨h163_, ⟨h164_, ⟨h165_, ⟨h166_, h167_⟩⟩⟩⟩⟩⟩
            refine ⟨?_, ?_⟩
            · skip
              intro h168_
              refine ⟨h161_, ?_⟩
              refine ⟨h162_, ?_⟩
              refine ⟨h163_, ?_⟩
              refine ⟨h164_, ?_⟩
              refine ⟨h165_, ?_⟩
              refine ⟨h166_, ?_⟩
              exact (la_waysOfDelete_22 h90_ h94_ h160_ h167_)
            intro h169_
            intro h170_
            refine ⟨?_, ?_⟩
            · skip
              refine ⟨h2_, ?_⟩
              refine ⟨h3_, ?_⟩
              refine ⟨h4_, ?_⟩
              refine ⟨h5_, ?_⟩
              refine ⟨h6_, ?_⟩
              refine ⟨h7_, ?_⟩
              refine ⟨h8_, ?_⟩
              refine ⟨h9_, ?_⟩
              refine ⟨h10_, ?_⟩
              refine ⟨h11_, ?_⟩
              refine ⟨h12_, ?_⟩
              refine ⟨h13_, ?_⟩
              refine ⟨h14_, ?_⟩
              refine ⟨h15_, ?_⟩
              refine ⟨h16_, ?_⟩
              refine ⟨h17_, ?_⟩
              refine ⟨h18_, ?_⟩
              refine ⟨h164_, ?_⟩
              refine ⟨h161_, ?_⟩
              refine ⟨h162_, ?_⟩
              refine ⟨h163_, ?_⟩
              refine ⟨h23_, ?_⟩
              refine ⟨h24_, ?_⟩
              refine ⟨h25_, ?_⟩
              refine ⟨h166_, ?_⟩
              refine ⟨h36_, ?_⟩
              refine ⟨h37_, ?_⟩
              refine ⟨?_, ?_⟩
              · skip
                have h171_ := (h25_ (S 1148 0))
                have h172_ := (h25_ (S 1148 0 + 1))
                have h173_ := ((h165_ (S 1148 0)) h38_)
                exact h173_
              refine ⟨la_waysOfDelete_16, ?_⟩
              refine ⟨la_waysOfDelete_25, ?_⟩
              exact la_waysOfDelete_26
            intro g113
            rintro ⟨h174_, ⟨h175_, ⟨h176_, ⟨h177_, ⟨h178_, ⟨h179_, h180_⟩⟩⟩⟩⟩⟩
            refine ⟨h174_, ?_⟩
            refine ⟨h175_, ?_⟩
            refine ⟨h176_, ?_⟩
            refine ⟨h177_, ?_⟩
            refine ⟨?_, ?_⟩
            · skip
              intro kv3
              intro h181_
              have h182_ := (h25_ (S 1148 0))
              have h183_ := (h25_ (S 1148 0 + 1))
              have h184_ := ((h165_ (S 1148 0)) h38_)
              have h185_ := ((h165_ kv3) h181_)
              have h186_ := ((h178_ kv3) h185_)
              have h187_ := ((h178_ (S 1148 0)) h184_)
              exact h186_
            refine ⟨h179_, ?_⟩
            exact (la_waysOfDelete_27 h90_ h94_ h160_ h167_ h180_)
          intro h188_
          refine ⟨la_waysOfDelete_20, ?_⟩
          intro g119
          intro h189_
          refine ⟨⟨h2_, ⟨h3_, ⟨h4_, ⟨h5_, ⟨h6_, ⟨h7_, ⟨h8_, ⟨h9_, ⟨h10_, ⟨h11_, ⟨h12_, ⟨h13_, ⟨h14_, ⟨h15_, ⟨h16_, ⟨h17_, ⟨h18_, ⟨h19_, ⟨h20_, ⟨h21_, ⟨h22_, ⟨h23_, ⟨h24_, ⟨h25_, ⟨h26_, ⟨h27_, ⟨h28_, ⟨h29_, ⟨h30_, ⟨h31_, ⟨h32_, ⟨h33_, ⟨h34_, ⟨h35_, (la_waysOfDelete_21 h36_ h39_ h40_ h41_ h42_ h43_ h44_ h49_)⟩⟩⟩⟩⟩⟩⟩⟩⟩⟩⟩⟩⟩⟩⟩⟩⟩⟩⟩⟩⟩⟩⟩⟩⟩⟩⟩⟩⟩⟩⟩⟩⟩⟩, ?_⟩
          intro g126
          rintro ⟨h190_, ⟨h191_, ⟨h192_, ⟨h193_, ⟨h194_, ⟨h195_, h196_⟩⟩⟩⟩⟩⟩
          refine ⟨?_, ?_⟩
          · skip
            intro h197_
            refine ⟨h190_, ?_⟩
            refine ⟨h191_, ?_⟩
            refine ⟨h192_, ?_⟩
            refine ⟨h193_, ?_⟩
            refine ⟨h194_, ?_⟩
            refine ⟨h195_, ?_⟩
            exact (la_waysOfDelete_22 h90_ h94_ h189_ h196_)
          intro h198_
          intro h199_
          refine ⟨?_, ?_⟩
          · skip
            refine ⟨h2_, ?_⟩
            refine ⟨h3_, ?_⟩
            refine ⟨h4_, ?_⟩
            refine ⟨h5_, ?_⟩
            refine ⟨h6_, ?_⟩
            refine ⟨h7_, ?_⟩
            refine ⟨h8_, ?_⟩
            refine ⟨h9_, ?_⟩
            refine ⟨h10_, ?_⟩
            refine ⟨h11_, ?_⟩
            refine ⟨h12_, ?_⟩
            refine ⟨h13_, ?_⟩
            refine ⟨h14_, ?_⟩
            refine ⟨h15_, ?_⟩
            refine ⟨h16_, ?_⟩
            refine ⟨h17_, ?_⟩
            refine ⟨h18_, ?_⟩
            refine ⟨h193_, ?_⟩
            refine ⟨h190_, ?_⟩
            refine ⟨h191_, ?_⟩
            refine ⟨h192_, ?_⟩
            refine ⟨h23_, ?_⟩
            refine ⟨h24_, ?_⟩
            refine ⟨h25_, ?_⟩
            refine ⟨h195_, ?_⟩
            refine ⟨h36_, ?_⟩
            refine ⟨h37_, ?_⟩
            refine ⟨?_, ?_⟩
            · skip
              have h200_ := (h25_ (S 1148 0))
              have h201_ := (h25_ (S 1148 0 + 1))
              have h202_ := ((h194_ (S 1148 0)) h38_)
              exact h202_
            refine ⟨la_waysOfDelete_16, ?_⟩
            refine ⟨la_waysOfDelete_25, ?_⟩
            exact la_waysOfDelete_26
          intro g133
          rintro ⟨h203_, ⟨h204_, ⟨h205_, ⟨h206_, ⟨h207_, ⟨h208_, h209_⟩⟩⟩⟩⟩⟩
          refine ⟨h203_, ?_⟩
          refine ⟨h204_, ?_⟩
          refine ⟨h205_, ?_⟩
          refine ⟨h206_, ?_⟩
          refine ⟨?_, ?_⟩
          · skip
            intro kv4
            intro h210_
            have h211_ := (h25_ (S 1148 0))
            have h212_ := (h25_ (S 1148 0 + 1))
            have h213_ := ((h194_ kv4) h210_)
            have h214_ := ((h194_ (S 1148 0)) h38_)
            have h215_ := ((h207_ kv4) h213_)
            have h216_ := ((h207_ (S 1148 0)) h214_)
            exact h215_
          refine ⟨h208_, ?_⟩
          exact (la_waysOfDelete_27 h90_ h94_ h189_ h196_ h209_)
        intro h217_
        have h218_ := (h89_.resolve_left h217_)
        refine ⟨la_waysOfDelete_20, ?_⟩
        intro g139
        intro h219_
        refine ⟨⟨h2_, ⟨h3_, ⟨h4_, ⟨h5_, ⟨h6_, ⟨h7_, ⟨h8_, ⟨h9_, ⟨h10_, ⟨h11_, ⟨h12_, ⟨h13_, ⟨h14_, ⟨h15_, ⟨h16_, ⟨h17_, ⟨h18_, ⟨h19_, ⟨h20_, ⟨h21_, ⟨h22_, ⟨h23_, ⟨h24_, ⟨h25_, ⟨h26_, ⟨h27_, ⟨h28_, ⟨h29_, ⟨h30_, ⟨h31_, ⟨h32_, ⟨h33_, ⟨h34_, ⟨h35_, (la_waysOfDelete_21 h36_ h39_ h40_ h41_ h42_ h43_ h44_ h49_)⟩⟩⟩⟩⟩⟩⟩⟩⟩⟩⟩⟩⟩⟩⟩⟩⟩⟩⟩⟩⟩⟩⟩⟩⟩⟩⟩⟩⟩⟩⟩⟩⟩⟩, ?_⟩
        intro g146
        rintro ⟨h220_, ⟨h221_, ⟨h222_, ⟨h223_, ⟨h224_, ⟨h225_, h226_⟩⟩⟩⟩⟩⟩
        refine ⟨?_, ?_⟩
        · skip
          intro h227_
          refine ⟨h220_, ?_⟩
          refine ⟨h221_, ?_⟩
          refine ⟨h222_, ?_⟩
          refine ⟨h223_, ?_⟩
          refine ⟨h224_, ?_⟩
          refine ⟨h225_, ?_⟩
          exact (la_waysOfDelete_22 h90_ h94_ h219_ h226_)
        intro h228_
        intro h229_
        refine ⟨?_, ?_⟩
        · skip
          refine ⟨h2_, ?_⟩
          refine ⟨h3_, ?_⟩
          refine ⟨h4_, ?_⟩
          refine ⟨h5_, ?_⟩
          refine ⟨h6_, ?_⟩
          refine ⟨h7_, ?_⟩
          refine ⟨h8_, ?_⟩
          refine ⟨h9_, ?_⟩
          refine ⟨h10_, ?_⟩
          refine ⟨h11_, ?_⟩
          refine ⟨h12_, ?_⟩
          refine ⟨h13_, ?_⟩
          refine ⟨h14_, ?_⟩
          refine ⟨h15_, ?_⟩
          refine ⟨h16_, ?_⟩
          refine ⟨h17_, ?_⟩
          refine ⟨h18_, ?_⟩
          refine ⟨h223_, ?_⟩
          refine ⟨h220_, ?_⟩
          refine ⟨h221_, ?_⟩
          refine ⟨h222_, ?_⟩
          refine ⟨h23_, ?_⟩
          refine ⟨h24_, ?_⟩
          refine ⟨h25_, ?_⟩
          refine ⟨h225_, ?_⟩
          refine ⟨h36_, ?_⟩
          refine ⟨h37_, ?_⟩
          refine ⟨?_, ?_⟩
          · skip
            have h230_ := (h25_ (S 1148 0))
            have h231_ := (h25_ (S 1148 0 + 1))
            have h232_ := ((h224_ (S 1148 0)) h38_)
            exact h232_
          refine ⟨la_waysOfDelete_16, ?_⟩
          refine ⟨la_waysOfDelete_25, ?_⟩
          exact la_waysOfDelete_26
        intro g153
        rintro ⟨h233_, ⟨h234_, ⟨h235_, ⟨h236_, ⟨h237_, ⟨h238_, h239_⟩⟩⟩⟩⟩⟩
        refine ⟨h233_, ?_⟩
        refine ⟨h234_, ?_⟩
        refine ⟨h235_, ?_⟩
        refine ⟨h236_, ?_⟩
        refine ⟨?_, ?_⟩
        · skip
          intro kv5
          intro h240_
          have h241_ := (h25_ (S 1148 0))
          have h242_ := (h25_ (S 1148 0 + 1))
          have h243_ := ((h224_ kv5) h240_)
          have h244_ := ((h224_ (S 1148 0)) h38_)
          have h245_ := ((h237_ kv5) h243_)
          have h246_ := ((h237_ (S 1148 0)) h244_)
          exact h245_
        refine ⟨h238_, ?_⟩
        exact (la_waysOfDelete_27 h90_ h94_ h219_ h226_ h239_)
      intro h247_
      intro h248_
      intro h249_
      refine ⟨(la_waysOfDelete_30 h3_ h86_ h247_), ?_⟩
      intro r165
      intro h250_
      rintro ⟨h251_, h252_⟩
      refine ⟨?_, ?_⟩
      · skip
        intro h253_
        have h254_ := (h252_.resolve_left h253_)
        refine ⟨⟨h2_, ⟨h3_, ⟨h4_, ⟨h5_, ⟨h6_, ⟨h7_, ⟨h8_, ⟨h9_, ⟨h10_, ⟨h11_, ⟨h12_, ⟨h13_, (la_waysOfDelete_31 h14_ h15_ h86_ h247_)⟩⟩⟩⟩⟩⟩⟩⟩⟩⟩⟩⟩, ?_⟩
        intro r171
        intro h255_
        intro h256_
        refine ⟨?_, ?_⟩
        · skip
          intro s172
          intro h257_
          intro h258_
          refine ⟨?_, ?_⟩
          · skip
            intro s174
            intro h259_
            intro h260_
            refine ⟨?_, ?_⟩
            · skip
              intro s176
              intro h261_
              intro h262_
              refine ⟨(la_waysOfDelete_32 h4_ h90_), ?_⟩
              intro l10_179
              intro h263_
              intro g178
              rintro ⟨h264_, ⟨h265_, h266_⟩⟩
              refine ⟨(la_waysOfDelete_33 h265_), ?_⟩
              intro h267_
              refine ⟨(la_waysOfDelete_34 h3_ h86_ h247_ h258_ h260_ h266_), ?_⟩
              intro h268_
              refine ⟨(la_waysOfDelete_35 h5_ h264_ h268_), ?_⟩
              intro r193
              intro h269_
              intro h270_
              refine ⟨(la_waysOfDelete_36 h5_ h264_ h266_ h268_), ?_⟩
              intro h271_
              have h272_ := (h270_.resolve_left h271_)
              refine ⟨?_, ?_⟩
              · skip
                intro h273_
                refine ⟨⟨h2_, ⟨h3_, ⟨h4_, ⟨h5_, ⟨h6_, ⟨h7_, ⟨h8_, ⟨h9_, ⟨h10_, ⟨h11_, ⟨h12_, ⟨h13_, (la_waysOfDelete_37 h3_ h14_ h15_ h86_ h247_)⟩⟩⟩⟩⟩⟩⟩⟩⟩⟩⟩⟩, ?_⟩
                intro r200
                intro h274_
                rintro ⟨h275_, h276_⟩
                have h277_ := (h275_ la_waysOfDelete_38)
                refine ⟨(la_waysOfDelete_40 h3_ h86_ h247_ h277_), ?_⟩
                rintro ⟨h278_, h279_⟩
                refine ⟨?_, ?_⟩
                · skip
                  intro h280_
                  refine ⟨?_, ?_⟩
                  · skip
                    intro h281_
                    have h282_ := (h262_.resolve_right (la_waysOfDelete_6 h281_))
                    refine ⟨⟨h2_, ⟨h3_, ⟨h4_, ⟨h5_, ⟨h6_, ⟨h7_, ⟨h8_, ⟨h9_, ⟨h10_, ⟨h11_, ⟨h12_, ⟨h13_, (la_waysOfDelete_41 h3_ h14_ h15_ h86_ h247_ h268_ (la_waysOfDelete_12 h264_ h273_))⟩⟩⟩⟩⟩⟩⟩⟩⟩⟩⟩⟩, ?_⟩
                    intro r208
                    intro h283_
                    rintro ⟨h284_, h285_⟩
                    obtain ⟨h286_, h287_⟩ := (h284_ la_waysOfDelete_38)
                    refine ⟨(la_waysOfDelete_42 h286_ h287_), ?_⟩
                    intro g210
                    intro h288_
                    refine ⟨(la_waysOfDelete_43 h5_ h268_ (la_waysOfDelete_12 h264_ h273_)), ?_⟩
                    refine ⟨(la_waysOfDelete_44 h266_ h268_ (la_waysOfDelete_12 h264_ h273_) h288_), ?_⟩
                    exact la_waysOfDelete_45
                  intro h289_
                  have h290_ := (h262_.resolve_left h289_)
                  refine ⟨⟨h2_, ⟨h3_, ⟨h4_, ⟨h5_, ⟨h6_, ⟨h7_, ⟨h8_, ⟨h9_, ⟨h10_, ⟨h11_, ⟨h12_, ⟨h13_, (la_waysOfDelete_41 h3_ h14_ h15_ h86_ h247_ h268_ (la_waysOfDelete_12 h264_ h273_))⟩⟩⟩⟩⟩⟩⟩⟩⟩⟩⟩⟩, ?_⟩
                  intro r223
                  intro h291_
                  rintro ⟨h292_, h293_⟩
                  obtain ⟨h294_, h295_⟩ := (h292_ la_waysOfDelete_38)
                  refine ⟨(la_waysOfDelete_46 h294_ h295_), ?_⟩
                  intro g225
                  intro h296_
                  have h297_ := (h296_ (la_waysOfDelete_47 h294_))
                  intro r236
                  intro h298_
                  rintro ⟨h299_, h300_⟩
                  obtain ⟨h301_, h302_⟩ := (h299_ la_waysOfDelete_38)
                  refine ⟨(la_waysOfDelete_42 h301_ h302_), ?_⟩
                  intro g238
                  intro h303_
                  refine ⟨(la_waysOfDelete_43 h5_ h268_ (la_waysOfDelete_12 h264_ h273_)), ?_⟩
                  refine ⟨(la_waysOfDelete_48 h266_ h268_ (la_waysOfDelete_12 h264_ h273_) h297_ h303_), ?_⟩
                  exact la_waysOfDelete_45
                intro h304_
                refine ⟨(la_waysOfDelete_43 h5_ h268_ (la_waysOfDelete_12 h264_ h273_)), ?_⟩
                refine ⟨(la_waysOfDelete_49 h266_ h268_ (la_waysOfDelete_12 h264_ h273_)), ?_⟩
                exact la_waysOfDelete_45
              intro h305_
              refine ⟨(la_waysOfDelete_50 h4_ h264_ h266_ h305_), ?_⟩
              intro h306_
              have h307_ := (h256_.resolve_right (la_waysOfDelete_51 h306_))
              refine ⟨⟨h2_, ⟨h3_, ⟨h4_, ⟨h5_, ⟨h6_, ⟨h7_, ⟨h8_, ⟨h9_, ⟨h10_, ⟨h11_, ⟨h12_, ⟨h13_, (la_waysOfDelete_37 h3_ h14_ h15_ h86_ h247_)⟩⟩⟩⟩⟩⟩⟩⟩⟩⟩⟩⟩, ?_⟩
              intro r253
              intro h308_
              rintro ⟨h309_, h310_⟩
              have h311_ := (h309_ la_waysOfDelete_38)
              refine ⟨(la_waysOfDelete_40 h3_ h86_ h247_ h311_), ?_⟩
              rintro ⟨h312_, h313_⟩
              refine ⟨?_, ?_⟩
              · skip
                intro h314_
                refine ⟨?_, ?_⟩
                · skip
                  intro h315_
                  have h316_ := (h262_.resolve_right (la_waysOfDelete_6 h315_))
                  refine ⟨⟨h2_, ⟨h3_, ⟨h4_, ⟨h5_, ⟨h6_, ⟨h7_, ⟨h8_, ⟨h9_, ⟨h10_, ⟨h11_, ⟨h12_, ⟨h13_, (la_waysOfDelete_52 h3_ h4_ h14_ h15_ h86_ h247_ h305_)⟩⟩⟩⟩⟩⟩⟩⟩⟩⟩⟩⟩, ?_⟩
                  intro r261
                  intro h317_
                  rintro ⟨h318_, h319_⟩
                  obtain ⟨h320_, h321_⟩ := (h318_ la_waysOfDelete_38)
                  refine ⟨(la_waysOfDelete_42 h320_ h321_), ?_⟩
                  intro g263
                  intro h322_
                  refine ⟨(la_waysOfDelete_53 h305_), ?_⟩
                  refine ⟨(la_waysOfDelete_54 h4_ h266_ h305_ h322_), ?_⟩
                  exact la_waysOfDelete_45
                intro h323_
                have h324_ := (h262_.resolve_left h323_)
                refine ⟨⟨h2_, ⟨h3_, ⟨h4_, ⟨h5_, ⟨h6_, ⟨h7_, ⟨h8_, ⟨h9_, ⟨h10_, ⟨h11_, ⟨h12_, ⟨h13_, (la_waysOfDelete_52 h3_ h4_ h14_ h15_ h86_ h247_ h305_)⟩⟩⟩⟩⟩⟩⟩⟩⟩⟩⟩⟩, ?_⟩
                intro r276
                intro h325_
                rintro ⟨h326_, h327_⟩
                obtain ⟨h328_, h329_⟩ := (h326_ la_waysOfDelete_38)
                refine ⟨(la_waysOfDelete_46 h328_ h329_), ?_⟩
                intro g278
                intro h330_
                have h331_ := (h330_ (la_waysOfDelete_47 h328_))
                intro r289
                intro h332_
                rintro ⟨h333_, h334_⟩
                obtain ⟨h335_, h336_⟩ := (h333_ la_waysOfDelete_38)
                refine ⟨(la_waysOfDelete_42 h335_ h336_), ?_⟩
                intro g291
                intro h337_
                refine ⟨(la_waysOfDelete_53 h305_), ?_⟩
                refine ⟨(la_waysOfDelete_55 h4_ h266_ h305_ h331_ h337_), ?_⟩
                exact la_waysOfDelete_45
              intro h338_
              refine ⟨(la_waysOfDelete_53 h305_), ?_⟩
              refine ⟨(la_waysOfDelete_56 h4_ h266_ h305_), ?_⟩
              exact la_waysOfDelete_45
            refine ⟨la_waysOfDelete_57, ?_⟩
            intro h339_
            refine ⟨(la_waysOfDelete_58 h78_ h79_ h81_ h82_), ?_⟩
            refine ⟨la_waysOfDelete_59, ?_⟩
            intro h340_
            refine ⟨(la_waysOfDelete_60 h3_ h86_ h247_), ?_⟩
            intro r307
            intro h341_
            intro h342_
            refine ⟨la_waysOfDelete_61, ?_⟩
            intro h343_
            have h344_ := (h342_.resolve_left h343_)
            intro r312
            intro h345_
            rintro ⟨h346_, h347_⟩
            refine ⟨la_waysOfDelete_62, ?_⟩
            intro h348_
            intro h349_
            refine ⟨(la_waysOfDelete_63 h4_ h5_), ?_⟩
            intro r319
            intro h350_
            intro h351_
            refine ⟨la_waysOfDelete_57, ?_⟩
            intro h352_
            have h353_ := (h351_.resolve_right (la_waysOfDelete_51 h352_))
            exact la_waysOfDelete_64
          refine ⟨la_waysOfDelete_61, ?_⟩
          intro h354_
          have h355_ := (h89_.resolve_left h354_)
          refine ⟨la_waysOfDelete_61, ?_⟩
          intro h356_
          have h357_ := (h256_.resolve_left h356_)
          exact la_waysOfDelete_64
        refine ⟨la_waysOfDelete_65, ?_⟩
        intro h358_
        have h359_ := (h88_.resolve_right (la_waysOfDelete_51 h358_))
        refine ⟨la_waysOfDelete_61, ?_⟩
        intro h360_
        have h361_ := (h256_.resolve_left h360_)
        refine ⟨la_waysOfDelete_66, ?_⟩
        intro r327
        intro h362_
        intro h363_
        refine ⟨la_waysOfDelete_61, ?_⟩
        intro h364_
        have h365_ := (h363_.resolve_left h364_)
        exact la_waysOfDelete_64
      intro h366_
      have h367_ := (h252_.resolve_right (la_waysOfDelete_51 h366_))
      refine ⟨(la_waysOfDelete_67 h3_ h86_ h247_), ?_⟩
      refine ⟨⟨(la_waysOfDelete_68 h86_), ⟨(la_waysOfDelete_69 h247_), ⟨h88_, ⟨h89_, h90_⟩⟩⟩⟩, ?_⟩
      exact la_waysOfDelete_70
    refine ⟨la_waysOfDelete_57, ?_⟩
    intro h368_
    intro h369_
    refine ⟨la_waysOfDelete_62, ?_⟩
    intro h370_
    intro h371_
    refine ⟨la_waysOfDelete_57, ?_⟩
    intro h372_
    exact la_waysOfDelete_64
  intro r333
  intro h373_
  refine ⟨la_waysOfDelete_65, ?_⟩
  intro h374_
  intro r338
  intro h375_
  intro h376_
  refine ⟨la_waysOfDelete_61, ?_⟩
  intro h377_
  have h378_ := (h376_.resolve_left h377_)
  exact la_waysOfDelete_64
set_option maxRecDepth 8000 in
set_option maxHeartbeats 2000000 in
theorem t_waysOfDelete : ∀ (S : sv_S), sm_ok S → (29 ≤ (S 1071 0) ∧ (S 1071 0) ≤ 127 ∧ 31 ≤ (S 1008 0) ∧ (S 1008 0) ≤ 90 ∧ 1 ≤ (S 1032 0) ∧ (S 1032 0) ≤ 11 ∧ 0 ≤ (S 1055 0) ∧ (S 1055 0) ≤ 19 ∧ (S 1071 0) = 29 + 6 * ((S 1032 0) - 1) + 2 * (S 1055 0) ∧ 0 ≤ (S 1046 0) ∧ (S 1046 0) + 2 * (S 1032 0) ≤ 500 ∧ sm_PD (S 1046 0) (S 1032 0) (S 1071 0) (S 1008 0) ∧ 0 ≤ (S 1071 0) * ((S 1008 0) + 1) ∧ (S 1071 0) * ((S 1008 0) + 1) ≤ 11557 ∧ 31 ≤ (S 1007 0) ∧ (S 1007 0) ≤ 400 ∧ sm_LN (S 4) 400 (S 1007 0) ∧ (S 75 639) = 647340 ∧ sm_ST (S 71) (S 74) (S 75) (S 78) (S 79) (S 80) (S 27) (S 1100007) (S 1100023) (S 1100024) (S 1046 0) ((S 1046 0) + 2 * (S 1032 0)) (S 1127 0) ∧ 465000 ≤ (S 1127 0) ∧ (S 1127 0) + sm_hs (S 71) (S 1100007) ≤ 635000 ∧ sm_NH (S 1100007) ∧ sm_CT (S 26) (S 27) (S 28) (S 29) (S 1100007) (S 1100023) (S 1100024) (S 1100025) (S 21) (S 1046 0) (S 1032 0) (S 1008 0) (S 1055 0) ∧ (∀ k : Int, (S 1046 0) ≤ k → k < ((S 1046 0) + 2 * (S 1032 0)) → (S 1100007 k) = 1) ∧ sm_DR (S 72) (S 71) (S 1046 0) ∧ 0 ≤ (S 74 639) ∧ (S 74 639) ≤ 400 ∧ 0 ≤ (S 78 639) ∧ (S 78 639) ≤ 40 ∧ (S 78 639) = sm_dp (S 1100024) (S 1100031 0) ∧ -1 ≤ (S 1100031 0) ∧ (S 1100031 0) < (S 1046 0) ∧ (0 ≤ (S 1100031 0) → (S 26 (S 1100031 0)) = 27) ∧ sm_TC (S 79) (S 80) (S 27) (S 1100007) (S 1100023) (S 1100024) 25560 (S 1100031 0) ∧ 0 ≤ (S 1148 0) ∧ (S 1148 0) < (S 1046 0) ∧ (S 71 (S 1148 0)) = 1 ∧ (S 74 639) = (S 1100007 (S 1148 0)) ∧ (S 1100031 0) = (S 1100023 (S 1148 0)) ∧ 2 ≤ (S 1100007 (S 1148 0)) ∧ (S 1148 0) + 1 < (S 1046 0) ∧ (S 1100007 ((S 1148 0) + 1)) = (S 1100007 (S 1148 0)) + (-1) ∧ (S 1100023 ((S 1148 0) + 1)) = (S 1100023 (S 1148 0))) → sv_T sm_XS sm_cs sm_L sm_sh 9 (q_waysOfDelete S) 277 0 (lv_args 0 [.ref 0]) [] S := by
  intro S hok hpre
  have h := f_waysOfDelete S hok hpre
  have hM := sm_h277
  show sv_T sm_XS sm_cs sm_L sm_sh 9 (q_waysOfDelete S) 277 0 [(0, .ref 0)] [] S
  have k1 : (sm_CT (S 26) (S 27) (S 28) (S 29) (S 1100007) (S 1100023) (S 1100024) (S 1100025) (S 21) (S 1046 0) (S 1032 0) (S 1008 0) (S 1055 0) → 0 ≤ (S 1148 0) → (S 1148 0) < (S 1046 0) → 0 ≤ (S 1100007 (S 1148 0)) ∧ (S 1100007 (S 1148 0)) ≤ 396 ∧ -1 ≤ (S 1100023 (S 1148 0)) ∧ (S 1100023 (S 1148 0)) < (S 1148 0)) := fun h h0 h1 => by have q := sm_ct_0 h _ h0 h1; exact ⟨q.2.2.2.2.1, q.2.2.2.2.2.1, q.2.2.2.2.2.2.2.1, q.2.2.2.2.2.2.2.2.1⟩
  have h := h k1
  refine sv_aload_n hM dX12_waysOfDelete_0 rfl rfl ?_
  refine sv_iconst (d := (1 : Int)) hM dX12_waysOfDelete_1 rfl rfl ?_
  obtain ⟨o2, h⟩ := h
  refine sv_callV hM dX12_waysOfDelete_2 sm_iv_1195 (by decide) (sm_a0 _) rfl rfl (Nat.le_of_ble_eq_true rfl) sm_h229 (Nat.le_of_ble_eq_true rfl) (Nat.le_of_ble_eq_true rfl) (F' := 0) (Nat.le_of_ble_eq_true rfl) rfl (t_fromTop (1 : Int) S hok (⟨by decide, by decide⟩ : sv_R (1 : Int)) o2) (fun v S1 hq => ?_)
  obtain ⟨r7, rfl, hr7, ok4, md5, hpo6⟩ := hq
  obtain rfl : S = S1 := (funext fun j => md5 j (by intro q; cases q)).symm
  show sv_T sm_XS sm_cs sm_L sm_sh 9 (q_waysOfDelete S) 277 5 [(0, .ref 0)] [sv_I r7] S
  have h := h r7 hr7 hpo6
  refine sv_istore_n hM dX12_waysOfDelete_5 (by decide) rfl ?_
  show sv_T sm_XS sm_cs sm_L sm_sh 9 (q_waysOfDelete S) 277 6 [(0, .ref 0), (1, sv_I r7)] [] S
  refine sv_aload_n hM dX12_waysOfDelete_6 rfl rfl ?_
  refine sv_iload_n hM dX12_waysOfDelete_7 rfl rfl ?_
  obtain ⟨o8, h⟩ := h
  refine sv_callV hM dX12_waysOfDelete_8 sm_iv_1059 (by decide) (sm_a0 _) rfl rfl (Nat.le_of_ble_eq_true rfl) sm_h210 (Nat.le_of_ble_eq_true rfl) (Nat.le_of_ble_eq_true rfl) (F' := 1) (Nat.le_of_ble_eq_true rfl) rfl (t_plainly r7 S ok4 hr7 o8) (fun v S1 hq => ?_)
  obtain ⟨r13, rfl, hr13, ok10, md11, hpo12⟩ := hq
  obtain rfl : S = S1 := (funext fun j => md11 j (by intro q; cases q)).symm
  show sv_T sm_XS sm_cs sm_L sm_sh 9 (q_waysOfDelete S) 277 11 [(0, .ref 0), (1, sv_I r7)] [sv_I r13] S
  have h := h r13 hr13 hpo12
  refine sv_istore_n hM dX12_waysOfDelete_11 (by decide) rfl ?_
  show sv_T sm_XS sm_cs sm_L sm_sh 9 (q_waysOfDelete S) 277 12 [(0, .ref 0), (1, sv_I r7), (2, sv_I r13)] [] S
  refine sv_aload_n hM dX12_waysOfDelete_12 rfl rfl ?_
  refine sv_aload_n hM dX12_waysOfDelete_13 rfl rfl ?_
  refine sv_iconst (d := (0 : Int)) hM dX12_waysOfDelete_14 rfl rfl ?_
  obtain ⟨o14, h⟩ := h
  refine sv_callV hM dX12_waysOfDelete_15 sm_iv_1195 (by decide) (sm_a0 _) rfl rfl (Nat.le_of_ble_eq_true rfl) sm_h229 (Nat.le_of_ble_eq_true rfl) (Nat.le_of_ble_eq_true rfl) (F' := 0) (Nat.le_of_ble_eq_true rfl) rfl (t_fromTop (0 : Int) S ok10 (⟨by decide, by decide⟩ : sv_R (0 : Int)) o14) (fun v S1 hq => ?_)
  obtain ⟨r19, rfl, hr19, ok16, md17, hpo18⟩ := hq
  obtain rfl : S = S1 := (funext fun j => md17 j (by intro q; cases q)).symm
  show sv_T sm_XS sm_cs sm_L sm_sh 9 (q_waysOfDelete S) 277 18 [(0, .ref 0), (1, sv_I r7), (2, sv_I r13)] [sv_I r19, .ref 0] S
  have h := h r19 hr19 hpo18
  obtain ⟨o20, h⟩ := h
  refine sv_callV hM dX12_waysOfDelete_18 sm_iv_1147 (by decide) (sm_a0 _) rfl rfl (Nat.le_of_ble_eq_true rfl) sm_h245 (Nat.le_of_ble_eq_true rfl) (Nat.le_of_ble_eq_true rfl) (F' := 3) (Nat.le_of_ble_eq_true rfl) rfl (t_keysOf r19 S ok16 hr19 o20) (fun v S1 hq => ?_)
  obtain ⟨rfl, ok22, md23, hpo24⟩ := hq
  obtain ⟨g21, rfl⟩ : ∃ g, S1 = sv_sts S [1143, 1144, 5, 1011] g := ⟨_, md23.eq⟩
  show sv_T sm_XS sm_cs sm_L sm_sh 9 (q_waysOfDelete S) 277 21 [(0, .ref 0), (1, sv_I r7), (2, sv_I r13)] [] (sv_sts S [1143, 1144, 5, 1011] g21)
  have md25 : sv_mod [68, 69, 70, 81, 82, 83, 84, 85, 86, 71, 74, 75, 1127, 78, 79, 80, 72, 76, 77, 1143, 1144, 5, 1011, 1150, 1149, 1145, 1113, 1111, 1112, 1100031] S (sv_sts S [1143, 1144, 5, 1011] g21) := sv_mod.sts sv_mod.rf (by decide)
  have h := h g21 hpo24
  have J332 : ∀ s26 : Int, sv_R s26 → (s26 = 0 ∨ s26 = 1) → sv_T sm_XS sm_cs sm_L sm_sh 9 (q_waysOfDelete S) 277 41 [(0, .ref 0), (1, sv_I r7), (2, sv_I r13)] [sv_I s26] (sv_sts S [1143, 1144, 5, 1011] g21) := by
    intro s26 hs26 hin27
    have h := h.1 s26 hs26 hin27
    refine sv_istore_n hM dX12_waysOfDelete_41 (by decide) rfl ?_
    show sv_T sm_XS sm_cs sm_L sm_sh 9 (q_waysOfDelete S) 277 42 [(0, .ref 0), (1, sv_I r7), (2, sv_I r13), (3, sv_I s26)] [] (sv_sts S [1143, 1144, 5, 1011] g21)
    refine sv_iload_n hM dX12_waysOfDelete_42 rfl rfl ?_
    refine sv_cond_eq hM dX12_waysOfDelete_43 hs26 (t := 379) rfl rfl (fun hc => ?_) (fun hc => ?_)
    · have h := h.1 (hc)
      refine sv_iload_n hM dX12_waysOfDelete_379 rfl rfl ?_
      refine sv_iconst (d := (3 : Int)) hM dX12_waysOfDelete_380 rfl rfl ?_
      refine sv_iandm 2 (m := 4) (by decide) (by decide) (by decide) hM dX12_waysOfDelete_381 rfl ?_
      refine sv_cond_eq hM dX12_waysOfDelete_382 (⟨by omega, by omega⟩ : sv_R (r13 % 4)) (t := 395) rfl rfl (fun hc => ?_) (fun hc => ?_)
      · have h := h.1 (hc)
        exact sv_vret hM dX12_waysOfDelete_395 rfl ⟨rfl, ok22, md25, h⟩
      · have h := h.2 (hc)
        refine sv_aload_n hM dX12_waysOfDelete_385 rfl rfl ?_
        refine sv_aload_n hM dX12_waysOfDelete_386 rfl rfl ?_
        have k28 : sv_R (S 1148 0) := sm_okI ok22 sm_r1148 0
        have h := h k28
        refine sv_getI hM dX12_waysOfDelete_387 sm_fl_1188 (sm_a0 _) sm_k148 rfl (x := (S 1148 0)) rfl ?_
        refine sv_bipush (d := (6 : Int)) hM dX12_waysOfDelete_390 rfl rfl ?_
        obtain ⟨o29, h⟩ := h
        refine sv_callV hM dX12_waysOfDelete_392 sm_iv_1292 (by decide) (sm_a0 _) rfl rfl (Nat.le_of_ble_eq_true rfl) sm_h263 (Nat.le_of_ble_eq_true rfl) (Nat.le_of_ble_eq_true rfl) (F' := 8) (Nat.le_of_ble_eq_true rfl) rfl (t_error_ (S 1148 0) (6 : Int) (sv_sts S [1143, 1144, 5, 1011] g21) ok22 k28 (⟨by decide, by decide⟩ : sv_R (6 : Int)) o29) (fun v S1 hq => ?_)
        obtain ⟨rfl, ok31, md32, hpo33⟩ := hq
        obtain ⟨g30, rfl⟩ : ∃ g, S1 = sv_sts (sv_sts S [1143, 1144, 5, 1011] g21) [68, 69, 70, 81, 82, 83, 84, 85, 86, 71, 74, 75, 1127, 78, 79, 80, 72, 76, 77, 1143, 1144, 5, 1011, 1150, 1149, 1145, 1113, 1111, 1112, 1100031] g := ⟨_, md32.eq⟩
        show sv_T sm_XS sm_cs sm_L sm_sh 9 (q_waysOfDelete S) 277 395 [(0, .ref 0), (1, sv_I r7), (2, sv_I r13), (3, sv_I s26)] [] (sv_sts (sv_sts S [1143, 1144, 5, 1011] g21) [68, 69, 70, 81, 82, 83, 84, 85, 86, 71, 74, 75, 1127, 78, 79, 80, 72, 76, 77, 1143, 1144, 5, 1011, 1150, 1149, 1145, 1113, 1111, 1112, 1100031] g30)
        have md34 : sv_mod [68, 69, 70, 81, 82, 83, 84, 85, 86, 71, 74, 75, 1127, 78, 79, 80, 72, 76, 77, 1143, 1144, 5, 1011, 1150, 1149, 1145, 1113, 1111, 1112, 1100031] S (sv_sts (sv_sts S [1143, 1144, 5, 1011] g21) [68, 69, 70, 81, 82, 83, 84, 85, 86, 71, 74, 75, 1127, 78, 79, 80, 72, 76, 77, 1143, 1144, 5, 1011, 1150, 1149, 1145, 1113, 1111, 1112, 1100031] g30) := sv_mod.sts md25 (by decide)
        have h := h g30 hpo33
        exact sv_vret hM dX12_waysOfDelete_395 rfl ⟨rfl, ok31, md34, h⟩
    · have h := h.2 (hc)
      refine sv_iconst (d := (0 : Int)) hM dX12_waysOfDelete_46 rfl rfl ?_
      refine sv_istore hM dX12_waysOfDelete_47 (by decide) rfl ?_
      show sv_T sm_XS sm_cs sm_L sm_sh 9 (q_waysOfDelete S) 277 49 [(0, .ref 0), (1, sv_I r7), (2, sv_I r13), (3, sv_I s26), (4, sv_I (0 : Int))] [] (sv_sts S [1143, 1144, 5, 1011] g21)
      have J329 : ∀ s35 : Int, sv_R s35 → (s35 = 0 ∨ s35 = 1) → sv_T sm_XS sm_cs sm_L sm_sh 9 (q_waysOfDelete S) 277 76 [(0, .ref 0), (1, sv_I r7), (2, sv_I r13), (3, sv_I s26), (4, sv_I (0 : Int))] [sv_I s35] (sv_sts S [1143, 1144, 5, 1011] g21) := by
        intro s35 hs35 hin36
        have h := h.1 s35 hs35 hin36
        refine sv_istore hM dX12_waysOfDelete_76 (by decide) rfl ?_
        show sv_T sm_XS sm_cs sm_L sm_sh 9 (q_waysOfDelete S) 277 78 [(0, .ref 0), (1, sv_I r7), (2, sv_I r13), (3, sv_I s26), (4, sv_I (0 : Int)), (5, sv_I s35)] [] (sv_sts S [1143, 1144, 5, 1011] g21)
        refine sv_aload_n hM dX12_waysOfDelete_78 rfl rfl ?_
        refine sv_getA hM dX12_waysOfDelete_79 sm_fl_220 (sm_a0 _) sm_k117 rfl ?_
        refine sv_iload_n hM dX12_waysOfDelete_82 rfl rfl ?_
        have k37 : sv_RL (S 69 r7) := sm_okJ ok22 sm_r69 r7
        have h := h k37
        refine sv_lald hM dX12_waysOfDelete_83 (sm_a69 _) (by decide) o8.1 o8.2 rfl (x := (S 69 r7)) rfl ?_
        refine sv_bitcount hM dX12_waysOfDelete_84 sm_iv_1129 sm_h1002 (Nat.le_of_ble_eq_true rfl) (Nat.le_of_ble_eq_true rfl) rfl (fun r38 hr38 => ?_)
        have h := h r38 hr38
        refine sv_aload_n hM dX12_waysOfDelete_87 rfl rfl ?_
        refine sv_getA hM dX12_waysOfDelete_88 sm_fl_223 (sm_a0 _) sm_k118 rfl ?_
        refine sv_iload_n hM dX12_waysOfDelete_91 rfl rfl ?_
        have k39 : sv_RL (S 70 r7) := sm_okJ ok22 sm_r70 r7
        have h := h k39
        refine sv_lald hM dX12_waysOfDelete_92 (sm_a70 _) (by decide) o8.1 o8.2 rfl (x := (S 70 r7)) rfl ?_
        refine sv_bitcount hM dX12_waysOfDelete_93 sm_iv_1129 sm_h1002 (Nat.le_of_ble_eq_true rfl) (Nat.le_of_ble_eq_true rfl) rfl (fun r40 hr40 => ?_)
        have h := h r40 hr40
        refine sv_iadd hM dX12_waysOfDelete_96 rfl ?_
        refine sv_istore hM dX12_waysOfDelete_97 (by decide) rfl ?_
        show sv_T sm_XS sm_cs sm_L sm_sh 9 (q_waysOfDelete S) 277 99 [(0, .ref 0), (1, sv_I r7), (2, sv_I r13), (3, sv_I s26), (4, sv_I (0 : Int)), (5, sv_I s35), (6, sv_I (r38 + r40))] [] (sv_sts S [1143, 1144, 5, 1011] g21)
        refine sv_iconst (d := (0 : Int)) hM dX12_waysOfDelete_99 rfl rfl ?_
        refine sv_istore hM dX12_waysOfDelete_100 (by decide) rfl ?_
        show sv_T sm_XS sm_cs sm_L sm_sh 9 (q_waysOfDelete S) 277 102 [(0, .ref 0), (1, sv_I r7), (2, sv_I r13), (3, sv_I s26), (4, sv_I (0 : Int)), (5, sv_I s35), (6, sv_I (r38 + r40)), (7, sv_I (0 : Int))] [] (sv_sts S [1143, 1144, 5, 1011] g21)
        obtain ⟨hin46, h⟩ := h
        have hJ : ∀ a : Int × Int × Int × sv_S, (sv_R a.1 ∧ sv_R a.2.1 ∧ sv_R a.2.2.1 ∧ sm_ok (sv_sts (sv_sts S [1143, 1144, 5, 1011] g21) [68, 69, 70] a.2.2.2) ∧ (0 ≤ a.2.2.1 ∧ a.2.2.1 ≤ (S 1071 0) ∧ (a.1 = 0 ∨ a.1 = 1) ∧ (a.2.1 = 0 ∨ a.2.1 = 1) ∧ sm_pt (a.2.2.2 68) (a.2.2.2 69) (a.2.2.2 70) = sm_pt (S 68) (S 69) (S 70))) → sv_T sm_XS sm_cs sm_L sm_sh 9 (q_waysOfDelete S) 277 102 [(0, .ref 0), (1, sv_I r7), (2, sv_I r13), (3, sv_I s26), (4, sv_I a.1), (5, sv_I a.2.1), (6, sv_I (r38 + r40)), (7, sv_I a.2.2.1)] [] (sv_sts (sv_sts S [1143, 1144, 5, 1011] g21) [68, 69, 70] a.2.2.2) := by
          refine sv_loop (α := Int × Int × Int × sv_S) (fun a => sv_R a.1 ∧ sv_R a.2.1 ∧ sv_R a.2.2.1 ∧ sm_ok (sv_sts (sv_sts S [1143, 1144, 5, 1011] g21) [68, 69, 70] a.2.2.2) ∧ (0 ≤ a.2.2.1 ∧ a.2.2.1 ≤ (S 1071 0) ∧ (a.1 = 0 ∨ a.1 = 1) ∧ (a.2.1 = 0 ∨ a.2.1 = 1) ∧ sm_pt (a.2.2.2 68) (a.2.2.2 69) (a.2.2.2 70) = sm_pt (S 68) (S 69) (S 70))) (fun a => (S 1071 0) - a.2.2.1) (fun a => sv_T sm_XS sm_cs sm_L sm_sh 9 (q_waysOfDelete S) 277 102 [(0, .ref 0), (1, sv_I r7), (2, sv_I r13), (3, sv_I s26), (4, sv_I a.1), (5, sv_I a.2.1), (6, sv_I (r38 + r40)), (7, sv_I a.2.2.1)] [] (sv_sts (sv_sts S [1143, 1144, 5, 1011] g21) [68, 69, 70] a.2.2.2)) (fun a q => (h a.1 q.1 a.2.1 q.2.1 a.2.2.1 q.2.2.1 a.2.2.2 q.2.2.2.2).1) (fun a q ih45 => ?_)
          obtain ⟨l4_42, l5_43, l7_44, g41⟩ := a
          obtain ⟨hl4_42, hl5_43, hl7_44, ok47, hin46i⟩ := q
          have h := (h l4_42 hl4_42 l5_43 hl5_43 l7_44 hl7_44 g41 hin46i).2
          show sv_T sm_XS sm_cs sm_L sm_sh 9 (q_waysOfDelete S) 277 102 [(0, .ref 0), (1, sv_I r7), (2, sv_I r13), (3, sv_I s26), (4, sv_I l4_42), (5, sv_I l5_43), (6, sv_I (r38 + r40)), (7, sv_I l7_44)] [] (sv_sts (sv_sts S [1143, 1144, 5, 1011] g21) [68, 69, 70] g41)
          have md48 : sv_mod [68, 69, 70, 81, 82, 83, 84, 85, 86, 71, 74, 75, 1127, 78, 79, 80, 72, 76, 77, 1143, 1144, 5, 1011, 1150, 1149, 1145, 1113, 1111, 1112, 1100031] S (sv_sts (sv_sts S [1143, 1144, 5, 1011] g21) [68, 69, 70] g41) := sv_mod.sts md25 (by decide)
          have md49 : sv_mod [68, 69, 70] (sv_sts S [1143, 1144, 5, 1011] g21) (sv_sts (sv_sts S [1143, 1144, 5, 1011] g21) [68, 69, 70] g41) := sv_mod.sts sv_mod.rf (by decide)
          refine sv_iload hM dX12_waysOfDelete_102 rfl rfl ?_
          refine sv_aload_n hM dX12_waysOfDelete_104 rfl rfl ?_
          have k50 : sv_R (S 1071 0) := sm_okI ok47 sm_r1071 0
          have h := h k50
          refine sv_getI hM dX12_waysOfDelete_105 sm_fl_765 (sm_a0 _) sm_k71 rfl (x := (S 1071 0)) rfl ?_
          refine sv_icmp_ge hM dX12_waysOfDelete_108 hl7_44 k50 (t := 329) rfl rfl (fun hc => ?_) (fun hc => ?_)
          · have h := h.1 (hc)
            refine sv_ldc_w (d := (647740 : Int)) hM dX12_waysOfDelete_329 sm_ck_1218 rfl rfl ?_
            refine sv_istore hM dX12_waysOfDelete_332 (by decide) rfl ?_
            show sv_T sm_XS sm_cs sm_L sm_sh 9 (q_waysOfDelete S) 277 334 [(0, .ref 0), (1, sv_I r7), (2, sv_I r13), (3, sv_I s26), (4, sv_I l4_42), (5, sv_I l5_43), (6, sv_I (r38 + r40)), (7, sv_I (647740 : Int))] [] (sv_sts (sv_sts S [1143, 1144, 5, 1011] g21) [68, 69, 70] g41)
            refine sv_aload_n hM dX12_waysOfDelete_334 rfl rfl ?_
            refine sv_iload hM dX12_waysOfDelete_335 rfl rfl ?_
            obtain ⟨o51, h⟩ := h
            refine sv_callV hM dX12_waysOfDelete_337 sm_iv_1066 (by decide) (sm_a0 _) rfl rfl (Nat.le_of_ble_eq_true rfl) sm_h206 (Nat.le_of_ble_eq_true rfl) (Nat.le_of_ble_eq_true rfl) (F' := 0) (Nat.le_of_ble_eq_true rfl) rfl (t_empty (647740 : Int) (sv_sts (sv_sts S [1143, 1144, 5, 1011] g21) [68, 69, 70] g41) ok47 (⟨by decide, by decide⟩ : sv_R (647740 : Int)) o51) (fun v S1 hq => ?_)
            obtain ⟨rfl, ok53, md54, hpo55⟩ := hq
            obtain ⟨g52, rfl⟩ : ∃ g, S1 = sv_sts (sv_sts (sv_sts S [1143, 1144, 5, 1011] g21) [68, 69, 70] g41) [68, 69, 70] g := ⟨_, md54.eq⟩
            show sv_T sm_XS sm_cs sm_L sm_sh 9 (q_waysOfDelete S) 277 340 [(0, .ref 0), (1, sv_I r7), (2, sv_I r13), (3, sv_I s26), (4, sv_I l4_42), (5, sv_I l5_43), (6, sv_I (r38 + r40)), (7, sv_I (647740 : Int))] [] (sv_sts (sv_sts (sv_sts S [1143, 1144, 5, 1011] g21) [68, 69, 70] g41) [68, 69, 70] g52)
            have md56 : sv_mod [68, 69, 70, 81, 82, 83, 84, 85, 86, 71, 74, 75, 1127, 78, 79, 80, 72, 76, 77, 1143, 1144, 5, 1011, 1150, 1149, 1145, 1113, 1111, 1112, 1100031] S (sv_sts (sv_sts (sv_sts S [1143, 1144, 5, 1011] g21) [68, 69, 70] g41) [68, 69, 70] g52) := sv_mod.sts md48 (by decide)
            have md57 : sv_mod [68, 69, 70] (sv_sts S [1143, 1144, 5, 1011] g21) (sv_sts (sv_sts (sv_sts S [1143, 1144, 5, 1011] g21) [68, 69, 70] g41) [68, 69, 70] g52) := sv_mod.sts md49 (by decide)
            have h := h g52 hpo55
            refine sv_aload_n hM dX12_waysOfDelete_340 rfl rfl ?_
            refine sv_iload hM dX12_waysOfDelete_341 rfl rfl ?_
            refine sv_iload hM dX12_waysOfDelete_343 rfl rfl ?_
            refine sv_cond_eq hM dX12_waysOfDelete_345 hl4_42 (t := 358) rfl rfl (fun hc => ?_) (fun hc => ?_)
            · have h := h.1 (hc)
              refine sv_iload hM dX12_waysOfDelete_358 rfl rfl ?_
              refine sv_cond_eq hM dX12_waysOfDelete_360 hl4_42 (t := 368) rfl rfl (fun hc => ?_) (fun hc => ?_)
              · have h := h.1 (hc)
                refine sv_iconst (d := (4 : Int)) hM dX12_waysOfDelete_368 rfl rfl ?_
                obtain ⟨o58, h⟩ := h
                refine sv_callV hM dX12_waysOfDelete_369 sm_iv_1072 (by decide) (sm_a0 _) rfl rfl (Nat.le_of_ble_eq_true rfl) sm_h213 (Nat.le_of_ble_eq_true rfl) (Nat.le_of_ble_eq_true rfl) (F' := 2) (Nat.le_of_ble_eq_true rfl) rfl (t_addSort (647740 : Int) (4 : Int) (sv_sts (sv_sts (sv_sts S [1143, 1144, 5, 1011] g21) [68, 69, 70] g41) [68, 69, 70] g52) ok53 (⟨by decide, by decide⟩ : sv_R (647740 : Int)) (⟨by decide, by decide⟩ : sv_R (4 : Int)) o58) (fun v S1 hq => ?_)
                obtain ⟨rfl, ok60, md61, hpo62⟩ := hq
                obtain ⟨g59, rfl⟩ : ∃ g, S1 = sv_sts (sv_sts (sv_sts (sv_sts S [1143, 1144, 5, 1011] g21) [68, 69, 70] g41) [68, 69, 70] g52) [68, 69, 70] g := ⟨_, md61.eq⟩
                show sv_T sm_XS sm_cs sm_L sm_sh 9 (q_waysOfDelete S) 277 372 [(0, .ref 0), (1, sv_I r7), (2, sv_I r13), (3, sv_I s26), (4, sv_I l4_42), (5, sv_I l5_43), (6, sv_I (r38 + r40)), (7, sv_I (647740 : Int))] [] (sv_sts (sv_sts (sv_sts (sv_sts S [1143, 1144, 5, 1011] g21) [68, 69, 70] g41) [68, 69, 70] g52) [68, 69, 70] g59)
                have md63 : sv_mod [68, 69, 70, 81, 82, 83, 84, 85, 86, 71, 74, 75, 1127, 78, 79, 80, 72, 76, 77, 1143, 1144, 5, 1011, 1150, 1149, 1145, 1113, 1111, 1112, 1100031] S (sv_sts (sv_sts (sv_sts (sv_sts S [1143, 1144, 5, 1011] g21) [68, 69, 70] g41) [68, 69, 70] g52) [68, 69, 70] g59) := sv_mod.sts md56 (by decide)
                have md64 : sv_mod [68, 69, 70] (sv_sts S [1143, 1144, 5, 1011] g21) (sv_sts (sv_sts (sv_sts (sv_sts S [1143, 1144, 5, 1011] g21) [68, 69, 70] g41) [68, 69, 70] g52) [68, 69, 70] g59) := sv_mod.sts md57 (by decide)
                have h := h g59 hpo62
                refine sv_aload_n hM dX12_waysOfDelete_372 rfl rfl ?_
                refine sv_iconst (d := (2 : Int)) hM dX12_waysOfDelete_373 rfl rfl ?_
                refine sv_iload hM dX12_waysOfDelete_374 rfl rfl ?_
                obtain ⟨o65, h⟩ := h
                refine sv_callV hM dX12_waysOfDelete_376 sm_iv_1258 (by decide) (sm_a0 _) rfl rfl (Nat.le_of_ble_eq_true rfl) sm_h267 (Nat.le_of_ble_eq_true rfl) (Nat.le_of_ble_eq_true rfl) (F' := 5) (Nat.le_of_ble_eq_true rfl) rfl (t_replace (2 : Int) (647740 : Int) (sv_sts (sv_sts (sv_sts (sv_sts S [1143, 1144, 5, 1011] g21) [68, 69, 70] g41) [68, 69, 70] g52) [68, 69, 70] g59) ok60 (⟨by decide, by decide⟩ : sv_R (2 : Int)) (⟨by decide, by decide⟩ : sv_R (647740 : Int)) o65) (fun v S1 hq => ?_)
                obtain ⟨rfl, ok67, md68, hpo69⟩ := hq
                obtain ⟨g66, rfl⟩ : ∃ g, S1 = sv_sts (sv_sts (sv_sts (sv_sts (sv_sts S [1143, 1144, 5, 1011] g21) [68, 69, 70] g41) [68, 69, 70] g52) [68, 69, 70] g59) [68, 69, 70, 81, 82, 83, 84, 85, 86, 71, 74, 75, 1127, 78, 79, 80, 72, 76, 77, 1150] g := ⟨_, md68.eq⟩
                show sv_T sm_XS sm_cs sm_L sm_sh 9 (q_waysOfDelete S) 277 379 [(0, .ref 0), (1, sv_I r7), (2, sv_I r13), (3, sv_I s26), (4, sv_I l4_42), (5, sv_I l5_43), (6, sv_I (r38 + r40)), (7, sv_I (647740 : Int))] [] (sv_sts (sv_sts (sv_sts (sv_sts (sv_sts S [1143, 1144, 5, 1011] g21) [68, 69, 70] g41) [68, 69, 70] g52) [68, 69, 70] g59) [68, 69, 70, 81, 82, 83, 84, 85, 86, 71, 74, 75, 1127, 78, 79, 80, 72, 76, 77, 1150] g66)
                have md70 : sv_mod [68, 69, 70, 81, 82, 83, 84, 85, 86, 71, 74, 75, 1127, 78, 79, 80, 72, 76, 77, 1143, 1144, 5, 1011, 1150, 1149, 1145, 1113, 1111, 1112, 1100031] S (sv_sts (sv_sts (sv_sts (sv_sts (sv_sts S [1143, 1144, 5, 1011] g21) [68, 69, 70] g41) [68, 69, 70] g52) [68, 69, 70] g59) [68, 69, 70, 81, 82, 83, 84, 85, 86, 71, 74, 75, 1127, 78, 79, 80, 72, 76, 77, 1150] g66) := sv_mod.sts md63 (by decide)
                have h := h g66 hpo69
                refine sv_iload_n hM dX12_waysOfDelete_379 rfl rfl ?_
                refine sv_iconst (d := (3 : Int)) hM dX12_waysOfDelete_380 rfl rfl ?_
                refine sv_iandm 2 (m := 4) (by decide) (by decide) (by decide) hM dX12_waysOfDelete_381 rfl ?_
                refine sv_cond_eq hM dX12_waysOfDelete_382 (⟨by omega, by omega⟩ : sv_R (r13 % 4)) (t := 395) rfl rfl (fun hc => ?_) (fun hc => ?_)
                · have h := h.1 (hc)
                  exact sv_vret hM dX12_waysOfDelete_395 rfl ⟨rfl, ok67, md70, h⟩
                · have h := h.2 (hc)
                  refine sv_aload_n hM dX12_waysOfDelete_385 rfl rfl ?_
                  refine sv_aload_n hM dX12_waysOfDelete_386 rfl rfl ?_
                  have k71 : sv_R (S 1148 0) := sm_okI ok67 sm_r1148 0
                  have h := h k71
                  refine sv_getI hM dX12_waysOfDelete_387 sm_fl_1188 (sm_a0 _) sm_k148 rfl (x := (S 1148 0)) rfl ?_
                  refine sv_bipush (d := (6 : Int)) hM dX12_waysOfDelete_390 rfl rfl ?_
                  obtain ⟨o72, h⟩ := h
                  refine sv_callV hM dX12_waysOfDelete_392 sm_iv_1292 (by decide) (sm_a0 _) rfl rfl (Nat.le_of_ble_eq_true rfl) sm_h263 (Nat.le_of_ble_eq_true rfl) (Nat.le_of_ble_eq_true rfl) (F' := 8) (Nat.le_of_ble_eq_true rfl) rfl (t_error_ (S 1148 0) (6 : Int) (sv_sts (sv_sts (sv_sts (sv_sts (sv_sts S [1143, 1144, 5, 1011] g21) [68, 69, 70] g41) [68, 69, 70] g52) [68, 69, 70] g59) [68, 69, 70, 81, 82, 83, 84, 85, 86, 71, 74, 75, 1127, 78, 79, 80, 72, 76, 77, 1150] g66) ok67 k71 (⟨by decide, by decide⟩ : sv_R (6 : Int)) o72) (fun v S1 hq => ?_)
                  obtain ⟨rfl, ok74, md75, hpo76⟩ := hq
                  obtain ⟨g73, rfl⟩ : ∃ g, S1 = sv_sts (sv_sts (sv_sts (sv_sts (sv_sts (sv_sts S [1143, 1144, 5, 1011] g21) [68, 69, 70] g41) [68, 69, 70] g52) [68, 69, 70] g59) [68, 69, 70, 81, 82, 83, 84, 85, 86, 71, 74, 75, 1127, 78, 79, 80, 72, 76, 77, 1150] g66) [68, 69, 70, 81, 82, 83, 84, 85, 86, 71, 74, 75, 1127, 78, 79, 80, 72, 76, 77, 1143, 1144, 5, 1011, 1150, 1149, 1145, 1113, 1111, 1112, 1100031] g := ⟨_, md75.eq⟩
                  show sv_T sm_XS sm_cs sm_L sm_sh 9 (q_waysOfDelete S) 277 395 [(0, .ref 0), (1, sv_I r7), (2, sv_I r13), (3, sv_I s26), (4, sv_I l4_42), (5, sv_I l5_43), (6, sv_I (r38 + r40)), (7, sv_I (647740 : Int))] [] (sv_sts (sv_sts (sv_sts (sv_sts (sv_sts (sv_sts S [1143, 1144, 5, 1011] g21) [68, 69, 70] g41) [68, 69, 70] g52) [68, 69, 70] g59) [68, 69, 70, 81, 82, 83, 84, 85, 86, 71, 74, 75, 1127, 78, 79, 80, 72, 76, 77, 1150] g66) [68, 69, 70, 81, 82, 83, 84, 85, 86, 71, 74, 75, 1127, 78, 79, 80, 72, 76, 77, 1143, 1144, 5, 1011, 1150, 1149, 1145, 1113, 1111, 1112, 1100031] g73)
                  have md77 : sv_mod [68, 69, 70, 81, 82, 83, 84, 85, 86, 71, 74, 75, 1127, 78, 79, 80, 72, 76, 77, 1143, 1144, 5, 1011, 1150, 1149, 1145, 1113, 1111, 1112, 1100031] S (sv_sts (sv_sts (sv_sts (sv_sts (sv_sts (sv_sts S [1143, 1144, 5, 1011] g21) [68, 69, 70] g41) [68, 69, 70] g52) [68, 69, 70] g59) [68, 69, 70, 81, 82, 83, 84, 85, 86, 71, 74, 75, 1127, 78, 79, 80, 72, 76, 77, 1150] g66) [68, 69, 70, 81, 82, 83, 84, 85, 86, 71, 74, 75, 1127, 78, 79, 80, 72, 76, 77, 1143, 1144, 5, 1011, 1150, 1149, 1145, 1113, 1111, 1112, 1100031] g73) := sv_mod.sts md70 (by decide)
                  have h := h g73 hpo76
                  exact sv_vret hM dX12_waysOfDelete_395 rfl ⟨rfl, ok74, md77, h⟩
              · have h := h.2 (hc)
                refine sv_bipush (d := (12 : Int)) hM dX12_waysOfDelete_363 rfl rfl ?_
                refine sv_goto hM dX12_waysOfDelete_365 (pc' := 369) rfl ?_
                obtain ⟨o78, h⟩ := h
                refine sv_callV hM dX12_waysOfDelete_369 sm_iv_1072 (by decide) (sm_a0 _) rfl rfl (Nat.le_of_ble_eq_true rfl) sm_h213 (Nat.le_of_ble_eq_true rfl) (Nat.le_of_ble_eq_true rfl) (F' := 2) (Nat.le_of_ble_eq_true rfl) rfl (t_addSort (647740 : Int) (12 : Int) (sv_sts (sv_sts (sv_sts S [1143, 1144, 5, 1011] g21) [68, 69, 70] g41) [68, 69, 70] g52) ok53 (⟨by decide, by decide⟩ : sv_R (647740 : Int)) (⟨by decide, by decide⟩ : sv_R (12 : Int)) o78) (fun v S1 hq => ?_)
                obtain ⟨rfl, ok80, md81, hpo82⟩ := hq
                obtain ⟨g79, rfl⟩ : ∃ g, S1 = sv_sts (sv_sts (sv_sts (sv_sts S [1143, 1144, 5, 1011] g21) [68, 69, 70] g41) [68, 69, 70] g52) [68, 69, 70] g := ⟨_, md81.eq⟩
                show sv_T sm_XS sm_cs sm_L sm_sh 9 (q_waysOfDelete S) 277 372 [(0, .ref 0), (1, sv_I r7), (2, sv_I r13), (3, sv_I s26), (4, sv_I l4_42), (5, sv_I l5_43), (6, sv_I (r38 + r40)), (7, sv_I (647740 : Int))] [] (sv_sts (sv_sts (sv_sts (sv_sts S [1143, 1144, 5, 1011] g21) [68, 69, 70] g41) [68, 69, 70] g52) [68, 69, 70] g79)
                have md83 : sv_mod [68, 69, 70, 81, 82, 83, 84, 85, 86, 71, 74, 75, 1127, 78, 79, 80, 72, 76, 77, 1143, 1144, 5, 1011, 1150, 1149, 1145, 1113, 1111, 1112, 1100031] S (sv_sts (sv_sts (sv_sts (sv_sts S [1143, 1144, 5, 1011] g21) [68, 69, 70] g41) [68, 69, 70] g52) [68, 69, 70] g79) := sv_mod.sts md56 (by decide)
                have md84 : sv_mod [68, 69, 70] (sv_sts S [1143, 1144, 5, 1011] g21) (sv_sts (sv_sts (sv_sts (sv_sts S [1143, 1144, 5, 1011] g21) [68, 69, 70] g41) [68, 69, 70] g52) [68, 69, 70] g79) := sv_mod.sts md57 (by decide)
                have h := h g79 hpo82
                refine sv_aload_n hM dX12_waysOfDelete_372 rfl rfl ?_
                refine sv_iconst (d := (2 : Int)) hM dX12_waysOfDelete_373 rfl rfl ?_
                refine sv_iload hM dX12_waysOfDelete_374 rfl rfl ?_
                obtain ⟨o85, h⟩ := h
                refine sv_callV hM dX12_waysOfDelete_376 sm_iv_1258 (by decide) (sm_a0 _) rfl rfl (Nat.le_of_ble_eq_true rfl) sm_h267 (Nat.le_of_ble_eq_true rfl) (Nat.le_of_ble_eq_true rfl) (F' := 5) (Nat.le_of_ble_eq_true rfl) rfl (t_replace (2 : Int) (647740 : Int) (sv_sts (sv_sts (sv_sts (sv_sts S [1143, 1144, 5, 1011] g21) [68, 69, 70] g41) [68, 69, 70] g52) [68, 69, 70] g79) ok80 (⟨by decide, by decide⟩ : sv_R (2 : Int)) (⟨by decide, by decide⟩ : sv_R (647740 : Int)) o85) (fun v S1 hq => ?_)
                obtain ⟨rfl, ok87, md88, hpo89⟩ := hq
                obtain ⟨g86, rfl⟩ : ∃ g, S1 = sv_sts (sv_sts (sv_sts (sv_sts (sv_sts S [1143, 1144, 5, 1011] g21) [68, 69, 70] g41) [68, 69, 70] g52) [68, 69, 70] g79) [68, 69, 70, 81, 82, 83, 84, 85, 86, 71, 74, 75, 1127, 78, 79, 80, 72, 76, 77, 1150] g := ⟨_, md88.eq⟩
                show sv_T sm_XS sm_cs sm_L sm_sh 9 (q_waysOfDelete S) 277 379 [(0, .ref 0), (1, sv_I r7), (2, sv_I r13), (3, sv_I s26), (4, sv_I l4_42), (5, sv_I l5_43), (6, sv_I (r38 + r40)), (7, sv_I (647740 : Int))] [] (sv_sts (sv_sts (sv_sts (sv_sts (sv_sts S [1143, 1144, 5, 1011] g21) [68, 69, 70] g41) [68, 69, 70] g52) [68, 69, 70] g79) [68, 69, 70, 81, 82, 83, 84, 85, 86, 71, 74, 75, 1127, 78, 79, 80, 72, 76, 77, 1150] g86)
                have md90 : sv_mod [68, 69, 70, 81, 82, 83, 84, 85, 86, 71, 74, 75, 1127, 78, 79, 80, 72, 76, 77, 1143, 1144, 5, 1011, 1150, 1149, 1145, 1113, 1111, 1112, 1100031] S (sv_sts (sv_sts (sv_sts (sv_sts (sv_sts S [1143, 1144, 5, 1011] g21) [68, 69, 70] g41) [68, 69, 70] g52) [68, 69, 70] g79) [68, 69, 70, 81, 82, 83, 84, 85, 86, 71, 74, 75, 1127, 78, 79, 80, 72, 76, 77, 1150] g86) := sv_mod.sts md83 (by decide)
                have h := h g86 hpo89
                refine sv_iload_n hM dX12_waysOfDelete_379 rfl rfl ?_
                refine sv_iconst (d := (3 : Int)) hM dX12_waysOfDelete_380 rfl rfl ?_
                refine sv_iandm 2 (m := 4) (by decide) (by decide) (by decide) hM dX12_waysOfDelete_381 rfl ?_
                refine sv_cond_eq hM dX12_waysOfDelete_382 (⟨by omega, by omega⟩ : sv_R (r13 % 4)) (t := 395) rfl rfl (fun hc => ?_) (fun hc => ?_)
                · have h := h.1 (hc)
                  exact sv_vret hM dX12_waysOfDelete_395 rfl ⟨rfl, ok87, md90, h⟩
                · have h := h.2 (hc)
                  refine sv_aload_n hM dX12_waysOfDelete_385 rfl rfl ?_
                  refine sv_aload_n hM dX12_waysOfDelete_386 rfl rfl ?_
                  have k91 : sv_R (S 1148 0) := sm_okI ok87 sm_r1148 0
                  have h := h k91
                  refine sv_getI hM dX12_waysOfDelete_387 sm_fl_1188 (sm_a0 _) sm_k148 rfl (x := (S 1148 0)) rfl ?_
                  refine sv_bipush (d := (6 : Int)) hM dX12_waysOfDelete_390 rfl rfl ?_
                  obtain ⟨o92, h⟩ := h
                  refine sv_callV hM dX12_waysOfDelete_392 sm_iv_1292 (by decide) (sm_a0 _) rfl rfl (Nat.le_of_ble_eq_true rfl) sm_h263 (Nat.le_of_ble_eq_true rfl) (Nat.le_of_ble_eq_true rfl) (F' := 8) (Nat.le_of_ble_eq_true rfl) rfl (t_error_ (S 1148 0) (6 : Int) (sv_sts (sv_sts (sv_sts (sv_sts (sv_sts S [1143, 1144, 5, 1011] g21) [68, 69, 70] g41) [68, 69, 70] g52) [68, 69, 70] g79) [68, 69, 70, 81, 82, 83, 84, 85, 86, 71, 74, 75, 1127, 78, 79, 80, 72, 76, 77, 1150] g86) ok87 k91 (⟨by decide, by decide⟩ : sv_R (6 : Int)) o92) (fun v S1 hq => ?_)
                  obtain ⟨rfl, ok94, md95, hpo96⟩ := hq
                  obtain ⟨g93, rfl⟩ : ∃ g, S1 = sv_sts (sv_sts (sv_sts (sv_sts (sv_sts (sv_sts S [1143, 1144, 5, 1011] g21) [68, 69, 70] g41) [68, 69, 70] g52) [68, 69, 70] g79) [68, 69, 70, 81, 82, 83, 84, 85, 86, 71, 74, 75, 1127, 78, 79, 80, 72, 76, 77, 1150] g86) [68, 69, 70, 81, 82, 83, 84, 85, 86, 71, 74, 75, 1127, 78, 79, 80, 72, 76, 77, 1143, 1144, 5, 1011, 1150, 1149, 1145, 1113, 1111, 1112, 1100031] g := ⟨_, md95.eq⟩
                  show sv_T sm_XS sm_cs sm_L sm_sh 9 (q_waysOfDelete S) 277 395 [(0, .ref 0), (1, sv_I r7), (2, sv_I r13), (3, sv_I s26), (4, sv_I l4_42), (5, sv_I l5_43), (6, sv_I (r38 + r40)), (7, sv_I (647740 : Int))] [] (sv_sts (sv_sts (sv_sts (sv_sts (sv_sts (sv_sts S [1143, 1144, 5, 1011] g21) [68, 69, 70] g41) [68, 69, 70] g52) [68, 69, 70] g79) [68, 69, 70, 81, 82, 83, 84, 85, 86, 71, 74, 75, 1127, 78, 79, 80, 72, 76, 77, 1150] g86) [68, 69, 70, 81, 82, 83, 84, 85, 86, 71, 74, 75, 1127, 78, 79, 80, 72, 76, 77, 1143, 1144, 5, 1011, 1150, 1149, 1145, 1113, 1111, 1112, 1100031] g93)
                  have md97 : sv_mod [68, 69, 70, 81, 82, 83, 84, 85, 86, 71, 74, 75, 1127, 78, 79, 80, 72, 76, 77, 1143, 1144, 5, 1011, 1150, 1149, 1145, 1113, 1111, 1112, 1100031] S (sv_sts (sv_sts (sv_sts (sv_sts (sv_sts (sv_sts S [1143, 1144, 5, 1011] g21) [68, 69, 70] g41) [68, 69, 70] g52) [68, 69, 70] g79) [68, 69, 70, 81, 82, 83, 84, 85, 86, 71, 74, 75, 1127, 78, 79, 80, 72, 76, 77, 1150] g86) [68, 69, 70, 81, 82, 83, 84, 85, 86, 71, 74, 75, 1127, 78, 79, 80, 72, 76, 77, 1143, 1144, 5, 1011, 1150, 1149, 1145, 1113, 1111, 1112, 1100031] g93) := sv_mod.sts md90 (by decide)
                  have h := h g93 hpo96
                  exact sv_vret hM dX12_waysOfDelete_395 rfl ⟨rfl, ok94, md97, h⟩
            · have h := h.2 (hc)
              refine sv_iload hM dX12_waysOfDelete_348 rfl rfl ?_
              refine sv_cond_eq hM dX12_waysOfDelete_350 hl5_43 (t := 358) rfl rfl (fun hc => ?_) (fun hc => ?_)
              · have h := h.1 (hc)
                refine sv_iload hM dX12_waysOfDelete_358 rfl rfl ?_
                refine sv_cond_eq hM dX12_waysOfDelete_360 hl4_42 (t := 368) rfl rfl (fun hc => ?_) (fun hc => ?_)
                · have h := h.1 (hc)
                  refine sv_iconst (d := (4 : Int)) hM dX12_waysOfDelete_368 rfl rfl ?_
                  obtain ⟨o98, h⟩ := h
                  refine sv_callV hM dX12_waysOfDelete_369 sm_iv_1072 (by decide) (sm_a0 _) rfl rfl (Nat.le_of_ble_eq_true rfl) sm_h213 (Nat.le_of_ble_eq_true rfl) (Nat.le_of_ble_eq_true rfl) (F' := 2) (Nat.le_of_ble_eq_true rfl) rfl (t_addSort (647740 : Int) (4 : Int) (sv_sts (sv_sts (sv_sts S [1143, 1144, 5, 1011] g21) [68, 69, 70] g41) [68, 69, 70] g52) ok53 (⟨by decide, by decide⟩ : sv_R (647740 : Int)) (⟨by decide, by decide⟩ : sv_R (4 : Int)) o98) (fun v S1 hq => ?_)
                  obtain ⟨rfl, ok100, md101, hpo102⟩ := hq
                  obtain ⟨g99, rfl⟩ : ∃ g, S1 = sv_sts (sv_sts (sv_sts (sv_sts S [1143, 1144, 5, 1011] g21) [68, 69, 70] g41) [68, 69, 70] g52) [68, 69, 70] g := ⟨_, md101.eq⟩
                  show sv_T sm_XS sm_cs sm_L sm_sh 9 (q_waysOfDelete S) 277 372 [(0, .ref 0), (1, sv_I r7), (2, sv_I r13), (3, sv_I s26), (4, sv_I l4_42), (5, sv_I l5_43), (6, sv_I (r38 + r40)), (7, sv_I (647740 : Int))] [] (sv_sts (sv_sts (sv_sts (sv_sts S [1143, 1144, 5, 1011] g21) [68, 69, 70] g41) [68, 69, 70] g52) [68, 69, 70] g99)
                  have md103 : sv_mod [68, 69, 70, 81, 82, 83, 84, 85, 86, 71, 74, 75, 1127, 78, 79, 80, 72, 76, 77, 1143, 1144, 5, 1011, 1150, 1149, 1145, 1113, 1111, 1112, 1100031] S (sv_sts (sv_sts (sv_sts (sv_sts S [1143, 1144, 5, 1011] g21) [68, 69, 70] g41) [68, 69, 70] g52) [68, 69, 70] g99) := sv_mod.sts md56 (by decide)
                  have md104 : sv_mod [68, 69, 70] (sv_sts S [1143, 1144, 5, 1011] g21) (sv_sts (sv_sts (sv_sts (sv_sts S [1143, 1144, 5, 1011] g21) [68, 69, 70] g41) [68, 69, 70] g52) [68, 69, 70] g99) := sv_mod.sts md57 (by decide)
                  have h := h g99 hpo102
                  refine sv_aload_n hM dX12_waysOfDelete_372 rfl rfl ?_
                  refine sv_iconst (d := (2 : Int)) hM dX12_waysOfDelete_373 rfl rfl ?_
                  refine sv_iload hM dX12_waysOfDelete_374 rfl rfl ?_
                  obtain ⟨o105, h⟩ := h
                  refine sv_callV hM dX12_waysOfDelete_376 sm_iv_1258 (by decide) (sm_a0 _) rfl rfl (Nat.le_of_ble_eq_true rfl) sm_h267 (Nat.le_of_ble_eq_true rfl) (Nat.le_of_ble_eq_true rfl) (F' := 5) (Nat.le_of_ble_eq_true rfl) rfl (t_replace (2 : Int) (647740 : Int) (sv_sts (sv_sts (sv_sts (sv_sts S [1143, 1144, 5, 1011] g21) [68, 69, 70] g41) [68, 69, 70] g52) [68, 69, 70] g99) ok100 (⟨by decide, by decide⟩ : sv_R (2 : Int)) (⟨by decide, by decide⟩ : sv_R (647740 : Int)) o105) (fun v S1 hq => ?_)
                  obtain ⟨rfl, ok107, md108, hpo109⟩ := hq
                  obtain ⟨g106, rfl⟩ : ∃ g, S1 = sv_sts (sv_sts (sv_sts (sv_sts (sv_sts S [1143, 1144, 5, 1011] g21) [68, 69, 70] g41) [68, 69, 70] g52) [68, 69, 70] g99) [68, 69, 70, 81, 82, 83, 84, 85, 86, 71, 74, 75, 1127, 78, 79, 80, 72, 76, 77, 1150] g := ⟨_, md108.eq⟩
                  show sv_T sm_XS sm_cs sm_L sm_sh 9 (q_waysOfDelete S) 277 379 [(0, .ref 0), (1, sv_I r7), (2, sv_I r13), (3, sv_I s26), (4, sv_I l4_42), (5, sv_I l5_43), (6, sv_I (r38 + r40)), (7, sv_I (647740 : Int))] [] (sv_sts (sv_sts (sv_sts (sv_sts (sv_sts S [1143, 1144, 5, 1011] g21) [68, 69, 70] g41) [68, 69, 70] g52) [68, 69, 70] g99) [68, 69, 70, 81, 82, 83, 84, 85, 86, 71, 74, 75, 1127, 78, 79, 80, 72, 76, 77, 1150] g106)
                  have md110 : sv_mod [68, 69, 70, 81, 82, 83, 84, 85, 86, 71, 74, 75, 1127, 78, 79, 80, 72, 76, 77, 1143, 1144, 5, 1011, 1150, 1149, 1145, 1113, 1111, 1112, 1100031] S (sv_sts (sv_sts (sv_sts (sv_sts (sv_sts S [1143, 1144, 5, 1011] g21) [68, 69, 70] g41) [68, 69, 70] g52) [68, 69, 70] g99) [68, 69, 70, 81, 82, 83, 84, 85, 86, 71, 74, 75, 1127, 78, 79, 80, 72, 76, 77, 1150] g106) := sv_mod.sts md103 (by decide)
                  have h := h g106 hpo109
                  refine sv_iload_n hM dX12_waysOfDelete_379 rfl rfl ?_
                  refine sv_iconst (d := (3 : Int)) hM dX12_waysOfDelete_380 rfl rfl ?_
                  refine sv_iandm 2 (m := 4) (by decide) (by decide) (by decide) hM dX12_waysOfDelete_381 rfl ?_
                  refine sv_cond_eq hM dX12_waysOfDelete_382 (⟨by omega, by omega⟩ : sv_R (r13 % 4)) (t := 395) rfl rfl (fun hc => ?_) (fun hc => ?_)
                  · have h := h.1 (hc)
                    exact sv_vret hM dX12_waysOfDelete_395 rfl ⟨rfl, ok107, md110, h⟩
                  · have h := h.2 (hc)
                    refine sv_aload_n hM dX12_waysOfDelete_385 rfl rfl ?_
                    refine sv_aload_n hM dX12_waysOfDelete_386 rfl rfl ?_
                    have k111 : sv_R (S 1148 0) := sm_okI ok107 sm_r1148 0
                    have h := h k111
                    refine sv_getI hM dX12_waysOfDelete_387 sm_fl_1188 (sm_a0 _) sm_k148 rfl (x := (S 1148 0)) rfl ?_
                    refine sv_bipush (d := (6 : Int)) hM dX12_waysOfDelete_390 rfl rfl ?_
                    obtain ⟨o112, h⟩ := h
                    refine sv_callV hM dX12_waysOfDelete_392 sm_iv_1292 (by decide) (sm_a0 _) rfl rfl (Nat.le_of_ble_eq_true rfl) sm_h263 (Nat.le_of_ble_eq_true rfl) (Nat.le_of_ble_eq_true rfl) (F' := 8) (Nat.le_of_ble_eq_true rfl) rfl (t_error_ (S 1148 0) (6 : Int) (sv_sts (sv_sts (sv_sts (sv_sts (sv_sts S [1143, 1144, 5, 1011] g21) [68, 69, 70] g41) [68, 69, 70] g52) [68, 69, 70] g99) [68, 69, 70, 81, 82, 83, 84, 85, 86, 71, 74, 75, 1127, 78, 79, 80, 72, 76, 77, 1150] g106) ok107 k111 (⟨by decide, by decide⟩ : sv_R (6 : Int)) o112) (fun v S1 hq => ?_)
                    obtain ⟨rfl, ok114, md115, hpo116⟩ := hq
                    obtain ⟨g113, rfl⟩ : ∃ g, S1 = sv_sts (sv_sts (sv_sts (sv_sts (sv_sts (sv_sts S [1143, 1144, 5, 1011] g21) [68, 69, 70] g41) [68, 69, 70] g52) [68, 69, 70] g99) [68, 69, 70, 81, 82, 83, 84, 85, 86, 71, 74, 75, 1127, 78, 79, 80, 72, 76, 77, 1150] g106) [68, 69, 70, 81, 82, 83, 84, 85, 86, 71, 74, 75, 1127, 78, 79, 80, 72, 76, 77, 1143, 1144, 5, 1011, 1150, 1149, 1145, 1113, 1111, 1112, 1100031] g := ⟨_, md115.eq⟩
                    show sv_T sm_XS sm_cs sm_L sm_sh 9 (q_waysOfDelete S) 277 395 [(0, .ref 0), (1, sv_I r7), (2, sv_I r13), (3, sv_I s26), (4, sv_I l4_42), (5, sv_I l5_43), (6, sv_I (r38 + r40)), (7, sv_I (647740 : Int))] [] (sv_sts (sv_sts (sv_sts (sv_sts (sv_sts (sv_sts S [1143, 1144, 5, 1011] g21) [68, 69, 70] g41) [68, 69, 70] g52) [68, 69, 70] g99) [68, 69, 70, 81, 82, 83, 84, 85, 86, 71, 74, 75, 1127, 78, 79, 80, 72, 76, 77, 1150] g106) [68, 69, 70, 81, 82, 83, 84, 85, 86, 71, 74, 75, 1127, 78, 79, 80, 72, 76, 77, 1143, 1144, 5, 1011, 1150, 1149, 1145, 1113, 1111, 1112, 1100031] g113)
                    have md117 : sv_mod [68, 69, 70, 81, 82, 83, 84, 85, 86, 71, 74, 75, 1127, 78, 79, 80, 72, 76, 77, 1143, 1144, 5, 1011, 1150, 1149, 1145, 1113, 1111, 1112, 1100031] S (sv_sts (sv_sts (sv_sts (sv_sts (sv_sts (sv_sts S [1143, 1144, 5, 1011] g21) [68, 69, 70] g41) [68, 69, 70] g52) [68, 69, 70] g99) [68, 69, 70, 81, 82, 83, 84, 85, 86, 71, 74, 75, 1127, 78, 79, 80, 72, 76, 77, 1150] g106) [68, 69, 70, 81, 82, 83, 84, 85, 86, 71, 74, 75, 1127, 78, 79, 80, 72, 76, 77, 1143, 1144, 5, 1011, 1150, 1149, 1145, 1113, 1111, 1112, 1100031] g113) := sv_mod.sts md110 (by decide)
                    have h := h g113 hpo116
                    exact sv_vret hM dX12_waysOfDelete_395 rfl ⟨rfl, ok114, md117, h⟩
                · have h := h.2 (hc)
                  refine sv_bipush (d := (12 : Int)) hM dX12_waysOfDelete_363 rfl rfl ?_
                  refine sv_goto hM dX12_waysOfDelete_365 (pc' := 369) rfl ?_
                  obtain ⟨o118, h⟩ := h
                  refine sv_callV hM dX12_waysOfDelete_369 sm_iv_1072 (by decide) (sm_a0 _) rfl rfl (Nat.le_of_ble_eq_true rfl) sm_h213 (Nat.le_of_ble_eq_true rfl) (Nat.le_of_ble_eq_true rfl) (F' := 2) (Nat.le_of_ble_eq_true rfl) rfl (t_addSort (647740 : Int) (12 : Int) (sv_sts (sv_sts (sv_sts S [1143, 1144, 5, 1011] g21) [68, 69, 70] g41) [68, 69, 70] g52) ok53 (⟨by decide, by decide⟩ : sv_R (647740 : Int)) (⟨by decide, by decide⟩ : sv_R (12 : Int)) o118) (fun v S1 hq => ?_)
                  obtain ⟨rfl, ok120, md121, hpo122⟩ := hq
                  obtain ⟨g119, rfl⟩ : ∃ g, S1 = sv_sts (sv_sts (sv_sts (sv_sts S [1143, 1144, 5, 1011] g21) [68, 69, 70] g41) [68, 69, 70] g52) [68, 69, 70] g := ⟨_, md121.eq⟩
                  show sv_T sm_XS sm_cs sm_L sm_sh 9 (q_waysOfDelete S) 277 372 [(0, .ref 0), (1, sv_I r7), (2, sv_I r13), (3, sv_I s26), (4, sv_I l4_42), (5, sv_I l5_43), (6, sv_I (r38 + r40)), (7, sv_I (647740 : Int))] [] (sv_sts (sv_sts (sv_sts (sv_sts S [1143, 1144, 5, 1011] g21) [68, 69, 70] g41) [68, 69, 70] g52) [68, 69, 70] g119)
                  have md123 : sv_mod [68, 69, 70, 81, 82, 83, 84, 85, 86, 71, 74, 75, 1127, 78, 79, 80, 72, 76, 77, 1143, 1144, 5, 1011, 1150, 1149, 1145, 1113, 1111, 1112, 1100031] S (sv_sts (sv_sts (sv_sts (sv_sts S [1143, 1144, 5, 1011] g21) [68, 69, 70] g41) [68, 69, 70] g52) [68, 69, 70] g119) := sv_mod.sts md56 (by decide)
                  have md124 : sv_mod [68, 69, 70] (sv_sts S [1143, 1144, 5, 1011] g21) (sv_sts (sv_sts (sv_sts (sv_sts S [1143, 1144, 5, 1011] g21) [68, 69, 70] g41) [68, 69, 70] g52) [68, 69, 70] g119) := sv_mod.sts md57 (by decide)
                  have h := h g119 hpo122
                  refine sv_aload_n hM dX12_waysOfDelete_372 rfl rfl ?_
                  refine sv_iconst (d := (2 : Int)) hM dX12_waysOfDelete_373 rfl rfl ?_
                  refine sv_iload hM dX12_waysOfDelete_374 rfl rfl ?_
                  obtain ⟨o125, h⟩ := h
                  refine sv_callV hM dX12_waysOfDelete_376 sm_iv_1258 (by decide) (sm_a0 _) rfl rfl (Nat.le_of_ble_eq_true rfl) sm_h267 (Nat.le_of_ble_eq_true rfl) (Nat.le_of_ble_eq_true rfl) (F' := 5) (Nat.le_of_ble_eq_true rfl) rfl (t_replace (2 : Int) (647740 : Int) (sv_sts (sv_sts (sv_sts (sv_sts S [1143, 1144, 5, 1011] g21) [68, 69, 70] g41) [68, 69, 70] g52) [68, 69, 70] g119) ok120 (⟨by decide, by decide⟩ : sv_R (2 : Int)) (⟨by decide, by decide⟩ : sv_R (647740 : Int)) o125) (fun v S1 hq => ?_)
                  obtain ⟨rfl, ok127, md128, hpo129⟩ := hq
                  obtain ⟨g126, rfl⟩ : ∃ g, S1 = sv_sts (sv_sts (sv_sts (sv_sts (sv_sts S [1143, 1144, 5, 1011] g21) [68, 69, 70] g41) [68, 69, 70] g52) [68, 69, 70] g119) [68, 69, 70, 81, 82, 83, 84, 85, 86, 71, 74, 75, 1127, 78, 79, 80, 72, 76, 77, 1150] g := ⟨_, md128.eq⟩
                  show sv_T sm_XS sm_cs sm_L sm_sh 9 (q_waysOfDelete S) 277 379 [(0, .ref 0), (1, sv_I r7), (2, sv_I r13), (3, sv_I s26), (4, sv_I l4_42), (5, sv_I l5_43), (6, sv_I (r38 + r40)), (7, sv_I (647740 : Int))] [] (sv_sts (sv_sts (sv_sts (sv_sts (sv_sts S [1143, 1144, 5, 1011] g21) [68, 69, 70] g41) [68, 69, 70] g52) [68, 69, 70] g119) [68, 69, 70, 81, 82, 83, 84, 85, 86, 71, 74, 75, 1127, 78, 79, 80, 72, 76, 77, 1150] g126)
                  have md130 : sv_mod [68, 69, 70, 81, 82, 83, 84, 85, 86, 71, 74, 75, 1127, 78, 79, 80, 72, 76, 77, 1143, 1144, 5, 1011, 1150, 1149, 1145, 1113, 1111, 1112, 1100031] S (sv_sts (sv_sts (sv_sts (sv_sts (sv_sts S [1143, 1144, 5, 1011] g21) [68, 69, 70] g41) [68, 69, 70] g52) [68, 69, 70] g119) [68, 69, 70, 81, 82, 83, 84, 85, 86, 71, 74, 75, 1127, 78, 79, 80, 72, 76, 77, 1150] g126) := sv_mod.sts md123 (by decide)
                  have h := h g126 hpo129
                  refine sv_iload_n hM dX12_waysOfDelete_379 rfl rfl ?_
                  refine sv_iconst (d := (3 : Int)) hM dX12_waysOfDelete_380 rfl rfl ?_
                  refine sv_iandm 2 (m := 4) (by decide) (by decide) (by decide) hM dX12_waysOfDelete_381 rfl ?_
                  refine sv_cond_eq hM dX12_waysOfDelete_382 (⟨by omega, by omega⟩ : sv_R (r13 % 4)) (t := 395) rfl rfl (fun hc => ?_) (fun hc => ?_)
                  · have h := h.1 (hc)
                    exact sv_vret hM dX12_waysOfDelete_395 rfl ⟨rfl, ok127, md130, h⟩
                  · have h := h.2 (hc)
                    refine sv_aload_n hM dX12_waysOfDelete_385 rfl rfl ?_
                    refine sv_aload_n hM dX12_waysOfDelete_386 rfl rfl ?_
                    have k131 : sv_R (S 1148 0) := sm_okI ok127 sm_r1148 0
                    have h := h k131
                    refine sv_getI hM dX12_waysOfDelete_387 sm_fl_1188 (sm_a0 _) sm_k148 rfl (x := (S 1148 0)) rfl ?_
                    refine sv_bipush (d := (6 : Int)) hM dX12_waysOfDelete_390 rfl rfl ?_
                    obtain ⟨o132, h⟩ := h
                    refine sv_callV hM dX12_waysOfDelete_392 sm_iv_1292 (by decide) (sm_a0 _) rfl rfl (Nat.le_of_ble_eq_true rfl) sm_h263 (Nat.le_of_ble_eq_true rfl) (Nat.le_of_ble_eq_true rfl) (F' := 8) (Nat.le_of_ble_eq_true rfl) rfl (t_error_ (S 1148 0) (6 : Int) (sv_sts (sv_sts (sv_sts (sv_sts (sv_sts S [1143, 1144, 5, 1011] g21) [68, 69, 70] g41) [68, 69, 70] g52) [68, 69, 70] g119) [68, 69, 70, 81, 82, 83, 84, 85, 86, 71, 74, 75, 1127, 78, 79, 80, 72, 76, 77, 1150] g126) ok127 k131 (⟨by decide, by decide⟩ : sv_R (6 : Int)) o132) (fun v S1 hq => ?_)
                    obtain ⟨rfl, ok134, md135, hpo136⟩ := hq
                    obtain ⟨g133, rfl⟩ : ∃ g, S1 = sv_sts (sv_sts (sv_sts (sv_sts (sv_sts (sv_sts S [1143, 1144, 5, 1011] g21) [68, 69, 70] g41) [68, 69, 70] g52) [68, 69, 70] g119) [68, 69, 70, 81, 82, 83, 84, 85, 86, 71, 74, 75, 1127, 78, 79, 80, 72, 76, 77, 1150] g126) [68, 69, 70, 81, 82, 83, 84, 85, 86, 71, 74, 75, 1127, 78, 79, 80, 72, 76, 77, 1143, 1144, 5, 1011, 1150, 1149, 1145, 1113, 1111, 1112, 1100031] g := ⟨_, md135.eq⟩
                    show sv_T sm_XS sm_cs sm_L sm_sh 9 (q_waysOfDelete S) 277 395 [(0, .ref 0), (1, sv_I r7), (2, sv_I r13), (3, sv_I s26), (4, sv_I l4_42), (5, sv_I l5_43), (6, sv_I (r38 + r40)), (7, sv_I (647740 : Int))] [] (sv_sts (sv_sts (sv_sts (sv_sts (sv_sts (sv_sts S [1143, 1144, 5, 1011] g21) [68, 69, 70] g41) [68, 69, 70] g52) [68, 69, 70] g119) [68, 69, 70, 81, 82, 83, 84, 85, 86, 71, 74, 75, 1127, 78, 79, 80, 72, 76, 77, 1150] g126) [68, 69, 70, 81, 82, 83, 84, 85, 86, 71, 74, 75, 1127, 78, 79, 80, 72, 76, 77, 1143, 1144, 5, 1011, 1150, 1149, 1145, 1113, 1111, 1112, 1100031] g133)
                    have md137 : sv_mod [68, 69, 70, 81, 82, 83, 84, 85, 86, 71, 74, 75, 1127, 78, 79, 80, 72, 76, 77, 1143, 1144, 5, 1011, 1150, 1149, 1145, 1113, 1111, 1112, 1100031] S (sv_sts (sv_sts (sv_sts (sv_sts (sv_sts (sv_sts S [1143, 1144, 5, 1011] g21) [68, 69, 70] g41) [68, 69, 70] g52) [68, 69, 70] g119) [68, 69, 70, 81, 82, 83, 84, 85, 86, 71, 74, 75, 1127, 78, 79, 80, 72, 76, 77, 1150] g126) [68, 69, 70, 81, 82, 83, 84, 85, 86, 71, 74, 75, 1127, 78, 79, 80, 72, 76, 77, 1143, 1144, 5, 1011, 1150, 1149, 1145, 1113, 1111, 1112, 1100031] g133) := sv_mod.sts md130 (by decide)
                    have h := h g133 hpo136
                    exact sv_vret hM dX12_waysOfDelete_395 rfl ⟨rfl, ok134, md137, h⟩
              · have h := h.2 (hc)
                refine sv_bipush (d := (8 : Int)) hM dX12_waysOfDelete_353 rfl rfl ?_
                refine sv_goto hM dX12_waysOfDelete_355 (pc' := 369) rfl ?_
                obtain ⟨o138, h⟩ := h
                refine sv_callV hM dX12_waysOfDelete_369 sm_iv_1072 (by decide) (sm_a0 _) rfl rfl (Nat.le_of_ble_eq_true rfl) sm_h213 (Nat.le_of_ble_eq_true rfl) (Nat.le_of_ble_eq_true rfl) (F' := 2) (Nat.le_of_ble_eq_true rfl) rfl (t_addSort (647740 : Int) (8 : Int) (sv_sts (sv_sts (sv_sts S [1143, 1144, 5, 1011] g21) [68, 69, 70] g41) [68, 69, 70] g52) ok53 (⟨by decide, by decide⟩ : sv_R (647740 : Int)) (⟨by decide, by decide⟩ : sv_R (8 : Int)) o138) (fun v S1 hq => ?_)
                obtain ⟨rfl, ok140, md141, hpo142⟩ := hq
                obtain ⟨g139, rfl⟩ : ∃ g, S1 = sv_sts (sv_sts (sv_sts (sv_sts S [1143, 1144, 5, 1011] g21) [68, 69, 70] g41) [68, 69, 70] g52) [68, 69, 70] g := ⟨_, md141.eq⟩
                show sv_T sm_XS sm_cs sm_L sm_sh 9 (q_waysOfDelete S) 277 372 [(0, .ref 0), (1, sv_I r7), (2, sv_I r13), (3, sv_I s26), (4, sv_I l4_42), (5, sv_I l5_43), (6, sv_I (r38 + r40)), (7, sv_I (647740 : Int))] [] (sv_sts (sv_sts (sv_sts (sv_sts S [1143, 1144, 5, 1011] g21) [68, 69, 70] g41) [68, 69, 70] g52) [68, 69, 70] g139)
                have md143 : sv_mod [68, 69, 70, 81, 82, 83, 84, 85, 86, 71, 74, 75, 1127, 78, 79, 80, 72, 76, 77, 1143, 1144, 5, 1011, 1150, 1149, 1145, 1113, 1111, 1112, 1100031] S (sv_sts (sv_sts (sv_sts (sv_sts S [1143, 1144, 5, 1011] g21) [68, 69, 70] g41) [68, 69, 70] g52) [68, 69, 70] g139) := sv_mod.sts md56 (by decide)
                have md144 : sv_mod [68, 69, 70] (sv_sts S [1143, 1144, 5, 1011] g21) (sv_sts (sv_sts (sv_sts (sv_sts S [1143, 1144, 5, 1011] g21) [68, 69, 70] g41) [68, 69, 70] g52) [68, 69, 70] g139) := sv_mod.sts md57 (by decide)
                have h := h g139 hpo142
                refine sv_aload_n hM dX12_waysOfDelete_372 rfl rfl ?_
                refine sv_iconst (d := (2 : Int)) hM dX12_waysOfDelete_373 rfl rfl ?_
                refine sv_iload hM dX12_waysOfDelete_374 rfl rfl ?_
                obtain ⟨o145, h⟩ := h
                refine sv_callV hM dX12_waysOfDelete_376 sm_iv_1258 (by decide) (sm_a0 _) rfl rfl (Nat.le_of_ble_eq_true rfl) sm_h267 (Nat.le_of_ble_eq_true rfl) (Nat.le_of_ble_eq_true rfl) (F' := 5) (Nat.le_of_ble_eq_true rfl) rfl (t_replace (2 : Int) (647740 : Int) (sv_sts (sv_sts (sv_sts (sv_sts S [1143, 1144, 5, 1011] g21) [68, 69, 70] g41) [68, 69, 70] g52) [68, 69, 70] g139) ok140 (⟨by decide, by decide⟩ : sv_R (2 : Int)) (⟨by decide, by decide⟩ : sv_R (647740 : Int)) o145) (fun v S1 hq => ?_)
                obtain ⟨rfl, ok147, md148, hpo149⟩ := hq
                obtain ⟨g146, rfl⟩ : ∃ g, S1 = sv_sts (sv_sts (sv_sts (sv_sts (sv_sts S [1143, 1144, 5, 1011] g21) [68, 69, 70] g41) [68, 69, 70] g52) [68, 69, 70] g139) [68, 69, 70, 81, 82, 83, 84, 85, 86, 71, 74, 75, 1127, 78, 79, 80, 72, 76, 77, 1150] g := ⟨_, md148.eq⟩
                show sv_T sm_XS sm_cs sm_L sm_sh 9 (q_waysOfDelete S) 277 379 [(0, .ref 0), (1, sv_I r7), (2, sv_I r13), (3, sv_I s26), (4, sv_I l4_42), (5, sv_I l5_43), (6, sv_I (r38 + r40)), (7, sv_I (647740 : Int))] [] (sv_sts (sv_sts (sv_sts (sv_sts (sv_sts S [1143, 1144, 5, 1011] g21) [68, 69, 70] g41) [68, 69, 70] g52) [68, 69, 70] g139) [68, 69, 70, 81, 82, 83, 84, 85, 86, 71, 74, 75, 1127, 78, 79, 80, 72, 76, 77, 1150] g146)
                have md150 : sv_mod [68, 69, 70, 81, 82, 83, 84, 85, 86, 71, 74, 75, 1127, 78, 79, 80, 72, 76, 77, 1143, 1144, 5, 1011, 1150, 1149, 1145, 1113, 1111, 1112, 1100031] S (sv_sts (sv_sts (sv_sts (sv_sts (sv_sts S [1143, 1144, 5, 1011] g21) [68, 69, 70] g41) [68, 69, 70] g52) [68, 69, 70] g139) [68, 69, 70, 81, 82, 83, 84, 85, 86, 71, 74, 75, 1127, 78, 79, 80, 72, 76, 77, 1150] g146) := sv_mod.sts md143 (by decide)
                have h := h g146 hpo149
                refine sv_iload_n hM dX12_waysOfDelete_379 rfl rfl ?_
                refine sv_iconst (d := (3 : Int)) hM dX12_waysOfDelete_380 rfl rfl ?_
                refine sv_iandm 2 (m := 4) (by decide) (by decide) (by decide) hM dX12_waysOfDelete_381 rfl ?_
                refine sv_cond_eq hM dX12_waysOfDelete_382 (⟨by omega, by omega⟩ : sv_R (r13 % 4)) (t := 395) rfl rfl (fun hc => ?_) (fun hc => ?_)
                · have h := h.1 (hc)
                  exact sv_vret hM dX12_waysOfDelete_395 rfl ⟨rfl, ok147, md150, h⟩
                · have h := h.2 (hc)
                  refine sv_aload_n hM dX12_waysOfDelete_385 rfl rfl ?_
                  refine sv_aload_n hM dX12_waysOfDelete_386 rfl rfl ?_
                  have k151 : sv_R (S 1148 0) := sm_okI ok147 sm_r1148 0
                  have h := h k151
                  refine sv_getI hM dX12_waysOfDelete_387 sm_fl_1188 (sm_a0 _) sm_k148 rfl (x := (S 1148 0)) rfl ?_
                  refine sv_bipush (d := (6 : Int)) hM dX12_waysOfDelete_390 rfl rfl ?_
                  obtain ⟨o152, h⟩ := h
                  refine sv_callV hM dX12_waysOfDelete_392 sm_iv_1292 (by decide) (sm_a0 _) rfl rfl (Nat.le_of_ble_eq_true rfl) sm_h263 (Nat.le_of_ble_eq_true rfl) (Nat.le_of_ble_eq_true rfl) (F' := 8) (Nat.le_of_ble_eq_true rfl) rfl (t_error_ (S 1148 0) (6 : Int) (sv_sts (sv_sts (sv_sts (sv_sts (sv_sts S [1143, 1144, 5, 1011] g21) [68, 69, 70] g41) [68, 69, 70] g52) [68, 69, 70] g139) [68, 69, 70, 81, 82, 83, 84, 85, 86, 71, 74, 75, 1127, 78, 79, 80, 72, 76, 77, 1150] g146) ok147 k151 (⟨by decide, by decide⟩ : sv_R (6 : Int)) o152) (fun v S1 hq => ?_)
                  obtain ⟨rfl, ok154, md155, hpo156⟩ := hq
                  obtain ⟨g153, rfl⟩ : ∃ g, S1 = sv_sts (sv_sts (sv_sts (sv_sts (sv_sts (sv_sts S [1143, 1144, 5, 1011] g21) [68, 69, 70] g41) [68, 69, 70] g52) [68, 69, 70] g139) [68, 69, 70, 81, 82, 83, 84, 85, 86, 71, 74, 75, 1127, 78, 79, 80, 72, 76, 77, 1150] g146) [68, 69, 70, 81, 82, 83, 84, 85, 86, 71, 74, 75, 1127, 78, 79, 80, 72, 76, 77, 1143, 1144, 5, 1011, 1150, 1149, 1145, 1113, 1111, 1112, 1100031] g := ⟨_, md155.eq⟩
                  show sv_T sm_XS sm_cs sm_L sm_sh 9 (q_waysOfDelete S) 277 395 [(0, .ref 0), (1, sv_I r7), (2, sv_I r13), (3, sv_I s26), (4, sv_I l4_42), (5, sv_I l5_43), (6, sv_I (r38 + r40)), (7, sv_I (647740 : Int))] [] (sv_sts (sv_sts (sv_sts (sv_sts (sv_sts (sv_sts S [1143, 1144, 5, 1011] g21) [68, 69, 70] g41) [68, 69, 70] g52) [68, 69, 70] g139) [68, 69, 70, 81, 82, 83, 84, 85, 86, 71, 74, 75, 1127, 78, 79, 80, 72, 76, 77, 1150] g146) [68, 69, 70, 81, 82, 83, 84, 85, 86, 71, 74, 75, 1127, 78, 79, 80, 72, 76, 77, 1143, 1144, 5, 1011, 1150, 1149, 1145, 1113, 1111, 1112, 1100031] g153)
                  have md157 : sv_mod [68, 69, 70, 81, 82, 83, 84, 85, 86, 71, 74, 75, 1127, 78, 79, 80, 72, 76, 77, 1143, 1144, 5, 1011, 1150, 1149, 1145, 1113, 1111, 1112, 1100031] S (sv_sts (sv_sts (sv_sts (sv_sts (sv_sts (sv_sts S [1143, 1144, 5, 1011] g21) [68, 69, 70] g41) [68, 69, 70] g52) [68, 69, 70] g139) [68, 69, 70, 81, 82, 83, 84, 85, 86, 71, 74, 75, 1127, 78, 79, 80, 72, 76, 77, 1150] g146) [68, 69, 70, 81, 82, 83, 84, 85, 86, 71, 74, 75, 1127, 78, 79, 80, 72, 76, 77, 1143, 1144, 5, 1011, 1150, 1149, 1145, 1113, 1111, 1112, 1100031] g153) := sv_mod.sts md150 (by decide)
                  have h := h g153 hpo156
                  exact sv_vret hM dX12_waysOfDelete_395 rfl ⟨rfl, ok154, md157, h⟩
          · have h := h.2 (hc)
            refine sv_aload_n hM dX12_waysOfDelete_111 rfl rfl ?_
            refine sv_getA hM dX12_waysOfDelete_112 sm_fl_220 (sm_a0 _) sm_k117 rfl ?_
            refine sv_iload_n hM dX12_waysOfDelete_115 rfl rfl ?_
            have k158 : sv_RL (g41 69 r7) := sm_okJ ok47 sm_r69 r7
            have h := h k158
            refine sv_lald hM dX12_waysOfDelete_116 (sm_a69 _) (by decide) o8.1 o8.2 rfl (x := (g41 69 r7)) rfl ?_
            refine sv_aload_n hM dX12_waysOfDelete_117 rfl rfl ?_
            refine sv_getA hM dX12_waysOfDelete_118 sm_fl_223 (sm_a0 _) sm_k118 rfl ?_
            refine sv_iload_n hM dX12_waysOfDelete_121 rfl rfl ?_
            have k159 : sv_RL (g41 70 r7) := sm_okJ ok47 sm_r70 r7
            have h := h k159
            refine sv_lald hM dX12_waysOfDelete_122 (sm_a70 _) (by decide) o8.1 o8.2 rfl (x := (g41 70 r7)) rfl ?_
            refine sv_iload hM dX12_waysOfDelete_123 rfl rfl ?_
            obtain ⟨o160, h⟩ := h
            refine sv_callS hM dX12_waysOfDelete_125 sm_iv_1125 (Nat.le_of_ble_eq_true rfl) rfl rfl (Nat.le_of_ble_eq_true rfl) sm_h217 (Nat.le_of_ble_eq_true rfl) (Nat.le_of_ble_eq_true rfl) (F' := 0) (Nat.le_of_ble_eq_true rfl) rfl (t_isIn (g41 69 r7) (g41 70 r7) l7_44 (sv_sts (sv_sts S [1143, 1144, 5, 1011] g21) [68, 69, 70] g41) ok47 k158 k159 hl7_44 o160) (fun v S1 hq => ?_)
            obtain ⟨r165, rfl, hr165, ok162, md163, hpo164⟩ := hq
            obtain rfl : (sv_sts (sv_sts S [1143, 1144, 5, 1011] g21) [68, 69, 70] g41) = S1 := (funext fun j => md163 j (by intro q; cases q)).symm
            show sv_T sm_XS sm_cs sm_L sm_sh 9 (q_waysOfDelete S) 277 128 [(0, .ref 0), (1, sv_I r7), (2, sv_I r13), (3, sv_I s26), (4, sv_I l4_42), (5, sv_I l5_43), (6, sv_I (r38 + r40)), (7, sv_I l7_44)] [sv_I r165] (sv_sts (sv_sts S [1143, 1144, 5, 1011] g21) [68, 69, 70] g41)
            have h := h r165 hr165 hpo164
            refine sv_cond_ne hM dX12_waysOfDelete_128 hr165 (t := 134) rfl rfl (fun hc => ?_) (fun hc => ?_)
            · have h := h.1 (hc)
              refine sv_aload_n hM dX12_waysOfDelete_134 rfl rfl ?_
              refine sv_iload hM dX12_waysOfDelete_135 rfl rfl ?_
              obtain ⟨o166, h⟩ := h
              refine sv_callV hM dX12_waysOfDelete_137 sm_iv_1169 (by decide) (sm_a0 _) rfl rfl (Nat.le_of_ble_eq_true rfl) sm_h239 (Nat.le_of_ble_eq_true rfl) (Nat.le_of_ble_eq_true rfl) (F' := 0) (Nat.le_of_ble_eq_true rfl) rfl (t_isArrayLabel l7_44 (sv_sts (sv_sts S [1143, 1144, 5, 1011] g21) [68, 69, 70] g41) ok162 hl7_44 o166) (fun v S1 hq => ?_)
              obtain ⟨r171, rfl, hr171, ok168, md169, hpo170⟩ := hq
              obtain rfl : (sv_sts (sv_sts S [1143, 1144, 5, 1011] g21) [68, 69, 70] g41) = S1 := (funext fun j => md169 j (by intro q; cases q)).symm
              show sv_T sm_XS sm_cs sm_L sm_sh 9 (q_waysOfDelete S) 277 140 [(0, .ref 0), (1, sv_I r7), (2, sv_I r13), (3, sv_I s26), (4, sv_I l4_42), (5, sv_I l5_43), (6, sv_I (r38 + r40)), (7, sv_I l7_44)] [sv_I r171] (sv_sts (sv_sts S [1143, 1144, 5, 1011] g21) [68, 69, 70] g41)
              have h := h r171 hr171 hpo170
              refine sv_istore hM dX12_waysOfDelete_140 (by decide) rfl ?_
              show sv_T sm_XS sm_cs sm_L sm_sh 9 (q_waysOfDelete S) 277 142 [(0, .ref 0), (1, sv_I r7), (2, sv_I r13), (3, sv_I s26), (4, sv_I l4_42), (5, sv_I l5_43), (6, sv_I (r38 + r40)), (7, sv_I l7_44), (8, sv_I r171)] [] (sv_sts (sv_sts S [1143, 1144, 5, 1011] g21) [68, 69, 70] g41)
              have J321 : ∀ s172 : Int, sv_R s172 → (s172 = 0 ∨ s172 = 1) → sv_T sm_XS sm_cs sm_L sm_sh 9 (q_waysOfDelete S) 277 165 [(0, .ref 0), (1, sv_I r7), (2, sv_I r13), (3, sv_I s26), (4, sv_I l4_42), (5, sv_I l5_43), (6, sv_I (r38 + r40)), (7, sv_I l7_44), (8, sv_I r171)] [sv_I s172] (sv_sts (sv_sts S [1143, 1144, 5, 1011] g21) [68, 69, 70] g41) := by
                intro s172 hs172 hin173
                have h := h.1 s172 hs172 hin173
                refine sv_istore hM dX12_waysOfDelete_165 (by decide) rfl ?_
                show sv_T sm_XS sm_cs sm_L sm_sh 9 (q_waysOfDelete S) 277 167 [(0, .ref 0), (1, sv_I r7), (2, sv_I r13), (3, sv_I s26), (4, sv_I s172), (5, sv_I l5_43), (6, sv_I (r38 + r40)), (7, sv_I l7_44), (8, sv_I r171)] [] (sv_sts (sv_sts S [1143, 1144, 5, 1011] g21) [68, 69, 70] g41)
                have J320 : ∀ s174 : Int, sv_R s174 → (s174 = 0 ∨ s174 = 1) → sv_T sm_XS sm_cs sm_L sm_sh 9 (q_waysOfDelete S) 277 182 [(0, .ref 0), (1, sv_I r7), (2, sv_I r13), (3, sv_I s26), (4, sv_I s172), (5, sv_I l5_43), (6, sv_I (r38 + r40)), (7, sv_I l7_44), (8, sv_I r171)] [sv_I s174] (sv_sts (sv_sts S [1143, 1144, 5, 1011] g21) [68, 69, 70] g41) := by
                  intro s174 hs174 hin175
                  have h := h.1 s174 hs174 hin175
                  refine sv_istore hM dX12_waysOfDelete_182 (by decide) rfl ?_
                  show sv_T sm_XS sm_cs sm_L sm_sh 9 (q_waysOfDelete S) 277 184 [(0, .ref 0), (1, sv_I r7), (2, sv_I r13), (3, sv_I s26), (4, sv_I s172), (5, sv_I s174), (6, sv_I (r38 + r40)), (7, sv_I l7_44), (8, sv_I r171)] [] (sv_sts (sv_sts S [1143, 1144, 5, 1011] g21) [68, 69, 70] g41)
                  have J300 : ∀ s176 : Int, sv_R s176 → (s176 = 0 ∨ s176 = 1) → sv_T sm_XS sm_cs sm_L sm_sh 9 (q_waysOfDelete S) 277 226 [(0, .ref 0), (1, sv_I r7), (2, sv_I r13), (3, sv_I s26), (4, sv_I s172), (5, sv_I s174), (6, sv_I (r38 + r40)), (7, sv_I l7_44), (8, sv_I r171)] [sv_I s176] (sv_sts (sv_sts S [1143, 1144, 5, 1011] g21) [68, 69, 70] g41) := by
                    intro s176 hs176 hin177
                    have h := h.1 s176 hs176 hin177
                    refine sv_istore hM dX12_waysOfDelete_226 (by decide) rfl ?_
                    show sv_T sm_XS sm_cs sm_L sm_sh 9 (q_waysOfDelete S) 277 228 [(0, .ref 0), (1, sv_I r7), (2, sv_I r13), (3, sv_I s26), (4, sv_I s172), (5, sv_I s174), (6, sv_I (r38 + r40)), (7, sv_I l7_44), (8, sv_I r171), (9, sv_I s176)] [] (sv_sts (sv_sts S [1143, 1144, 5, 1011] g21) [68, 69, 70] g41)
                    refine sv_iconst (d := (0 : Int)) hM dX12_waysOfDelete_228 rfl rfl ?_
                    refine sv_istore hM dX12_waysOfDelete_229 (by decide) rfl ?_
                    show sv_T sm_XS sm_cs sm_L sm_sh 9 (q_waysOfDelete S) 277 231 [(0, .ref 0), (1, sv_I r7), (2, sv_I r13), (3, sv_I s26), (4, sv_I s172), (5, sv_I s174), (6, sv_I (r38 + r40)), (7, sv_I l7_44), (8, sv_I r171), (9, sv_I s176), (10, sv_I (0 : Int))] [] (sv_sts (sv_sts S [1143, 1144, 5, 1011] g21) [68, 69, 70] g41)
                    obtain ⟨hin181, h⟩ := h
                    have hJ : ∀ a : Int × sv_S, (sv_R a.1 ∧ sm_ok (sv_sts (sv_sts (sv_sts S [1143, 1144, 5, 1011] g21) [68, 69, 70] g41) [68, 69, 70] a.2) ∧ (0 ≤ a.1 ∧ a.1 ≤ (S 1008 0) + 1 ∧ sm_pt (a.2 68) (a.2 69) (a.2 70) = sm_pt (S 68) (S 69) (S 70))) → sv_T sm_XS sm_cs sm_L sm_sh 9 (q_waysOfDelete S) 277 231 [(0, .ref 0), (1, sv_I r7), (2, sv_I r13), (3, sv_I s26), (4, sv_I s172), (5, sv_I s174), (6, sv_I (r38 + r40)), (7, sv_I l7_44), (8, sv_I r171), (9, sv_I s176), (10, sv_I a.1)] [] (sv_sts (sv_sts (sv_sts S [1143, 1144, 5, 1011] g21) [68, 69, 70] g41) [68, 69, 70] a.2) := by
                      refine sv_loop (α := Int × sv_S) (fun a => sv_R a.1 ∧ sm_ok (sv_sts (sv_sts (sv_sts S [1143, 1144, 5, 1011] g21) [68, 69, 70] g41) [68, 69, 70] a.2) ∧ (0 ≤ a.1 ∧ a.1 ≤ (S 1008 0) + 1 ∧ sm_pt (a.2 68) (a.2 69) (a.2 70) = sm_pt (S 68) (S 69) (S 70))) (fun a => (S 1008 0) + 1 - a.1) (fun a => sv_T sm_XS sm_cs sm_L sm_sh 9 (q_waysOfDelete S) 277 231 [(0, .ref 0), (1, sv_I r7), (2, sv_I r13), (3, sv_I s26), (4, sv_I s172), (5, sv_I s174), (6, sv_I (r38 + r40)), (7, sv_I l7_44), (8, sv_I r171), (9, sv_I s176), (10, sv_I a.1)] [] (sv_sts (sv_sts (sv_sts S [1143, 1144, 5, 1011] g21) [68, 69, 70] g41) [68, 69, 70] a.2)) (fun a q => (h a.1 q.1 a.2 q.2.2).1) (fun a q ih180 => ?_)
                      obtain ⟨l10_179, g178⟩ := a
                      obtain ⟨hl10_179, ok182, hin181i⟩ := q
                      have h := (h l10_179 hl10_179 g178 hin181i).2
                      show sv_T sm_XS sm_cs sm_L sm_sh 9 (q_waysOfDelete S) 277 231 [(0, .ref 0), (1, sv_I r7), (2, sv_I r13), (3, sv_I s26), (4, sv_I s172), (5, sv_I s174), (6, sv_I (r38 + r40)), (7, sv_I l7_44), (8, sv_I r171), (9, sv_I s176), (10, sv_I l10_179)] [] (sv_sts (sv_sts (sv_sts S [1143, 1144, 5, 1011] g21) [68, 69, 70] g41) [68, 69, 70] g178)
                      have md183 : sv_mod [68, 69, 70, 81, 82, 83, 84, 85, 86, 71, 74, 75, 1127, 78, 79, 80, 72, 76, 77, 1143, 1144, 5, 1011, 1150, 1149, 1145, 1113, 1111, 1112, 1100031] S (sv_sts (sv_sts (sv_sts S [1143, 1144, 5, 1011] g21) [68, 69, 70] g41) [68, 69, 70] g178) := sv_mod.sts md48 (by decide)
                      have md184 : sv_mod [68, 69, 70] (sv_sts S [1143, 1144, 5, 1011] g21) (sv_sts (sv_sts (sv_sts S [1143, 1144, 5, 1011] g21) [68, 69, 70] g41) [68, 69, 70] g178) := sv_mod.sts md49 (by decide)
                      have md185 : sv_mod [68, 69, 70] (sv_sts (sv_sts S [1143, 1144, 5, 1011] g21) [68, 69, 70] g41) (sv_sts (sv_sts (sv_sts S [1143, 1144, 5, 1011] g21) [68, 69, 70] g41) [68, 69, 70] g178) := sv_mod.sts sv_mod.rf (by decide)
                      refine sv_iload hM dX12_waysOfDelete_231 rfl rfl ?_
                      refine sv_aload_n hM dX12_waysOfDelete_233 rfl rfl ?_
                      have k186 : sv_R (S 1008 0) := sm_okI ok182 sm_r1008 0
                      have h := h k186
                      refine sv_getI hM dX12_waysOfDelete_234 sm_fl_762 (sm_a0 _) sm_k8 rfl (x := (S 1008 0)) rfl ?_
                      refine sv_icmp_gt hM dX12_waysOfDelete_237 hl10_179 k186 (t := 323) rfl rfl (fun hc => ?_) (fun hc => ?_)
                      · have h := h.1 (hc)
                        refine sv_iinc (d := (1 : Int)) hM dX12_waysOfDelete_323 rfl (by decide) rfl rfl ?_
                        show sv_T sm_XS sm_cs sm_L sm_sh 9 (q_waysOfDelete S) 277 326 [(0, .ref 0), (1, sv_I r7), (2, sv_I r13), (3, sv_I s26), (4, sv_I s172), (5, sv_I s174), (6, sv_I (r38 + r40)), (7, sv_I (l7_44 + (1 : Int))), (8, sv_I r171), (9, sv_I s176), (10, sv_I l10_179)] [] (sv_sts (sv_sts (sv_sts S [1143, 1144, 5, 1011] g21) [68, 69, 70] g41) [68, 69, 70] g178)
                        refine sv_goto hM dX12_waysOfDelete_326 (pc' := 102) rfl ?_
                        obtain ⟨o187, h⟩ := h
                        have eS := sv_mod.eq md184
                        have hb := ih45 (s172, s174, (l7_44 + (1 : Int)), (sv_sts (sv_sts (sv_sts S [1143, 1144, 5, 1011] g21) [68, 69, 70] g41) [68, 69, 70] g178)) ⟨hs172, hs174, o187, (by rw [← eS]; exact ok182), h.1⟩ h.2
                        have hb : sv_T sm_XS sm_cs sm_L sm_sh 9 (q_waysOfDelete S) 277 102 [(0, .ref 0), (1, sv_I r7), (2, sv_I r13), (3, sv_I s26), (4, sv_I s172), (5, sv_I s174), (6, sv_I (r38 + r40)), (7, sv_I (l7_44 + (1 : Int)))] [] (sv_sts (sv_sts (sv_sts S [1143, 1144, 5, 1011] g21) [68, 69, 70] g41) [68, 69, 70] g178) := Eq.mpr (congrArg (fun Z => sv_T sm_XS sm_cs sm_L sm_sh 9 (q_waysOfDelete S) 277 102 [(0, .ref 0), (1, sv_I r7), (2, sv_I r13), (3, sv_I s26), (4, sv_I s172), (5, sv_I s174), (6, sv_I (r38 + r40)), (7, sv_I (l7_44 + (1 : Int)))] [] Z) eS) hb
                        exact sv_less (lv := [(0, .ref 0), (1, sv_I r7), (2, sv_I r13), (3, sv_I s26), (4, sv_I s172), (5, sv_I s174), (6, sv_I (r38 + r40)), (7, sv_I (l7_44 + (1 : Int)))]) (sv_Sub_cons rfl (sv_Sub_cons rfl (sv_Sub_cons rfl (sv_Sub_cons rfl (sv_Sub_cons rfl (sv_Sub_cons rfl (sv_Sub_cons rfl (sv_Sub_cons rfl sv_Sub_nil)))))))) hb
                      · have h := h.2 (hc)
                        refine sv_aload_n hM dX12_waysOfDelete_240 rfl rfl ?_
                        refine sv_iload hM dX12_waysOfDelete_241 rfl rfl ?_
                        obtain ⟨o188, h⟩ := h
                        refine sv_callV hM dX12_waysOfDelete_243 sm_iv_1153 (by decide) (sm_a0 _) rfl rfl (Nat.le_of_ble_eq_true rfl) sm_h242 (Nat.le_of_ble_eq_true rfl) (Nat.le_of_ble_eq_true rfl) (F' := 1) (Nat.le_of_ble_eq_true rfl) rfl (t_hasKey l10_179 (sv_sts (sv_sts (sv_sts S [1143, 1144, 5, 1011] g21) [68, 69, 70] g41) [68, 69, 70] g178) ok182 hl10_179 o188) (fun v S1 hq => ?_)
                        obtain ⟨r193, rfl, hr193, ok190, md191, hpo192⟩ := hq
                        obtain rfl : (sv_sts (sv_sts (sv_sts S [1143, 1144, 5, 1011] g21) [68, 69, 70] g41) [68, 69, 70] g178) = S1 := (funext fun j => md191 j (by intro q; cases q)).symm
                        show sv_T sm_XS sm_cs sm_L sm_sh 9 (q_waysOfDelete S) 277 246 [(0, .ref 0), (1, sv_I r7), (2, sv_I r13), (3, sv_I s26), (4, sv_I s172), (5, sv_I s174), (6, sv_I (r38 + r40)), (7, sv_I l7_44), (8, sv_I r171), (9, sv_I s176), (10, sv_I l10_179)] [sv_I r193] (sv_sts (sv_sts (sv_sts S [1143, 1144, 5, 1011] g21) [68, 69, 70] g41) [68, 69, 70] g178)
                        have h := h r193 hr193 hpo192
                        refine sv_cond_eq hM dX12_waysOfDelete_246 hr193 (t := 317) rfl rfl (fun hc => ?_) (fun hc => ?_)
                        · have h := h.1 (hc)
                          refine sv_iinc (d := (1 : Int)) hM dX12_waysOfDelete_317 rfl (by decide) rfl rfl ?_
                          show sv_T sm_XS sm_cs sm_L sm_sh 9 (q_waysOfDelete S) 277 320 [(0, .ref 0), (1, sv_I r7), (2, sv_I r13), (3, sv_I s26), (4, sv_I s172), (5, sv_I s174), (6, sv_I (r38 + r40)), (7, sv_I l7_44), (8, sv_I r171), (9, sv_I s176), (10, sv_I (l10_179 + (1 : Int)))] [] (sv_sts (sv_sts (sv_sts S [1143, 1144, 5, 1011] g21) [68, 69, 70] g41) [68, 69, 70] g178)
                          refine sv_goto hM dX12_waysOfDelete_320 (pc' := 231) rfl ?_
                          obtain ⟨o194, h⟩ := h
                          have eS := sv_mod.eq md185
                          have hb := ih180 ((l10_179 + (1 : Int)), (sv_sts (sv_sts (sv_sts S [1143, 1144, 5, 1011] g21) [68, 69, 70] g41) [68, 69, 70] g178)) ⟨o194, (by rw [← eS]; exact ok190), h.1⟩ h.2
                          have hb : sv_T sm_XS sm_cs sm_L sm_sh 9 (q_waysOfDelete S) 277 231 [(0, .ref 0), (1, sv_I r7), (2, sv_I r13), (3, sv_I s26), (4, sv_I s172), (5, sv_I s174), (6, sv_I (r38 + r40)), (7, sv_I l7_44), (8, sv_I r171), (9, sv_I s176), (10, sv_I (l10_179 + (1 : Int)))] [] (sv_sts (sv_sts (sv_sts S [1143, 1144, 5, 1011] g21) [68, 69, 70] g41) [68, 69, 70] g178) := Eq.mpr (congrArg (fun Z => sv_T sm_XS sm_cs sm_L sm_sh 9 (q_waysOfDelete S) 277 231 [(0, .ref 0), (1, sv_I r7), (2, sv_I r13), (3, sv_I s26), (4, sv_I s172), (5, sv_I s174), (6, sv_I (r38 + r40)), (7, sv_I l7_44), (8, sv_I r171), (9, sv_I s176), (10, sv_I (l10_179 + (1 : Int)))] [] Z) eS) hb
                          exact sv_less (lv := [(0, .ref 0), (1, sv_I r7), (2, sv_I r13), (3, sv_I s26), (4, sv_I s172), (5, sv_I s174), (6, sv_I (r38 + r40)), (7, sv_I l7_44), (8, sv_I r171), (9, sv_I s176), (10, sv_I (l10_179 + (1 : Int)))]) (sv_Sub_cons rfl (sv_Sub_cons rfl (sv_Sub_cons rfl (sv_Sub_cons rfl (sv_Sub_cons rfl (sv_Sub_cons rfl (sv_Sub_cons rfl (sv_Sub_cons rfl (sv_Sub_cons rfl (sv_Sub_cons rfl (sv_Sub_cons rfl sv_Sub_nil))))))))))) hb
                        · have h := h.2 (hc)
                          refine sv_iload hM dX12_waysOfDelete_249 rfl rfl ?_
                          refine sv_cond_ne hM dX12_waysOfDelete_251 hl10_179 (t := 259) rfl rfl (fun hc => ?_) (fun hc => ?_)
                          · have h := h.1 (hc)
                            refine sv_aload_n hM dX12_waysOfDelete_259 rfl rfl ?_
                            refine sv_getA hM dX12_waysOfDelete_260 sm_fl_256 (sm_a0 _) sm_k133 rfl ?_
                            refine sv_aload_n hM dX12_waysOfDelete_263 rfl rfl ?_
                            refine sv_sipush (d := (639 : Int)) hM dX12_waysOfDelete_264 rfl rfl ?_
                            refine sv_iload hM dX12_waysOfDelete_267 rfl rfl ?_
                            obtain ⟨o195, h⟩ := h
                            refine sv_callV hM dX12_waysOfDelete_269 sm_iv_1101 (by decide) (sm_a0 _) rfl rfl (Nat.le_of_ble_eq_true rfl) sm_h226 (Nat.le_of_ble_eq_true rfl) (Nat.le_of_ble_eq_true rfl) (F' := 1) (Nat.le_of_ble_eq_true rfl) rfl (t_of (639 : Int) l7_44 (sv_sts (sv_sts (sv_sts S [1143, 1144, 5, 1011] g21) [68, 69, 70] g41) [68, 69, 70] g178) ok190 (⟨by decide, by decide⟩ : sv_R (639 : Int)) hl7_44 o195) (fun v S1 hq => ?_)
                            obtain ⟨r200, rfl, hr200, ok197, md198, hpo199⟩ := hq
                            obtain rfl : (sv_sts (sv_sts (sv_sts S [1143, 1144, 5, 1011] g21) [68, 69, 70] g41) [68, 69, 70] g178) = S1 := (funext fun j => md198 j (by intro q; cases q)).symm
                            show sv_T sm_XS sm_cs sm_L sm_sh 9 (q_waysOfDelete S) 277 272 [(0, .ref 0), (1, sv_I r7), (2, sv_I r13), (3, sv_I s26), (4, sv_I s172), (5, sv_I s174), (6, sv_I (r38 + r40)), (7, sv_I l7_44), (8, sv_I r171), (9, sv_I s176), (10, sv_I l10_179)] [sv_I r200, .ref 81] (sv_sts (sv_sts (sv_sts S [1143, 1144, 5, 1011] g21) [68, 69, 70] g41) [68, 69, 70] g178)
                            have h := h r200 hr200 hpo199
                            obtain ⟨o201, h⟩ := h
                            have k202 : (0 ≤ (S 81 r200) ∧ (S 81 r200) ≤ 1) := sm_okZ ok197 sm_r81 r200
                            have h := h k202
                            refine sv_zald hM dX12_waysOfDelete_272 (sm_a81 _) (by decide) o201.1 o201.2 rfl (x := (S 81 r200)) rfl ?_
                            refine sv_cond_ne hM dX12_waysOfDelete_273 (sv_R01 k202) (t := 279) rfl rfl (fun hc => ?_) (fun hc => ?_)
                            · have h := h.1 (hc)
                              refine sv_iload hM dX12_waysOfDelete_279 rfl rfl ?_
                              refine sv_cond_eq hM dX12_waysOfDelete_281 hs176 (t := 299) rfl rfl (fun hc => ?_) (fun hc => ?_)
                              · have h := h.1 (hc)
                                refine sv_aload_n hM dX12_waysOfDelete_299 rfl rfl ?_
                                refine sv_aload_n hM dX12_waysOfDelete_300 rfl rfl ?_
                                refine sv_sipush (d := (639 : Int)) hM dX12_waysOfDelete_301 rfl rfl ?_
                                refine sv_iload hM dX12_waysOfDelete_304 rfl rfl ?_
                                refine sv_iload hM dX12_waysOfDelete_306 rfl rfl ?_
                                obtain ⟨o203, h⟩ := h
                                refine sv_callV hM dX12_waysOfDelete_308 sm_iv_1163 (by decide) (sm_a0 _) rfl rfl (Nat.le_of_ble_eq_true rfl) sm_h225 (Nat.le_of_ble_eq_true rfl) (Nat.le_of_ble_eq_true rfl) (F' := 1) (Nat.le_of_ble_eq_true rfl) rfl (t_field (639 : Int) l7_44 l10_179 (sv_sts (sv_sts (sv_sts S [1143, 1144, 5, 1011] g21) [68, 69, 70] g41) [68, 69, 70] g178) ok197 (⟨by decide, by decide⟩ : sv_R (639 : Int)) hl7_44 hl10_179 o203) (fun v S1 hq => ?_)
                                obtain ⟨r208, rfl, hr208, ok205, md206, hpo207⟩ := hq
                                obtain rfl : (sv_sts (sv_sts (sv_sts S [1143, 1144, 5, 1011] g21) [68, 69, 70] g41) [68, 69, 70] g178) = S1 := (funext fun j => md206 j (by intro q; cases q)).symm
                                show sv_T sm_XS sm_cs sm_L sm_sh 9 (q_waysOfDelete S) 277 311 [(0, .ref 0), (1, sv_I r7), (2, sv_I r13), (3, sv_I s26), (4, sv_I s172), (5, sv_I s174), (6, sv_I (r38 + r40)), (7, sv_I l7_44), (8, sv_I r171), (9, sv_I s176), (10, sv_I l10_179)] [sv_I r208, .ref 0] (sv_sts (sv_sts (sv_sts S [1143, 1144, 5, 1011] g21) [68, 69, 70] g41) [68, 69, 70] g178)
                                have h := h r208 hr208 hpo207
                                refine sv_sipush (d := (512 : Int)) hM dX12_waysOfDelete_311 rfl rfl ?_
                                obtain ⟨o209, h⟩ := h
                                refine sv_callV hM dX12_waysOfDelete_314 sm_iv_1072 (by decide) (sm_a0 _) rfl rfl (Nat.le_of_ble_eq_true rfl) sm_h213 (Nat.le_of_ble_eq_true rfl) (Nat.le_of_ble_eq_true rfl) (F' := 2) (Nat.le_of_ble_eq_true rfl) rfl (t_addSort r208 (512 : Int) (sv_sts (sv_sts (sv_sts S [1143, 1144, 5, 1011] g21) [68, 69, 70] g41) [68, 69, 70] g178) ok205 hr208 (⟨by decide, by decide⟩ : sv_R (512 : Int)) o209) (fun v S1 hq => ?_)
                                obtain ⟨rfl, ok211, md212, hpo213⟩ := hq
                                obtain ⟨g210, rfl⟩ : ∃ g, S1 = sv_sts (sv_sts (sv_sts (sv_sts S [1143, 1144, 5, 1011] g21) [68, 69, 70] g41) [68, 69, 70] g178) [68, 69, 70] g := ⟨_, md212.eq⟩
                                show sv_T sm_XS sm_cs sm_L sm_sh 9 (q_waysOfDelete S) 277 317 [(0, .ref 0), (1, sv_I r7), (2, sv_I r13), (3, sv_I s26), (4, sv_I s172), (5, sv_I s174), (6, sv_I (r38 + r40)), (7, sv_I l7_44), (8, sv_I r171), (9, sv_I s176), (10, sv_I l10_179)] [] (sv_sts (sv_sts (sv_sts (sv_sts S [1143, 1144, 5, 1011] g21) [68, 69, 70] g41) [68, 69, 70] g178) [68, 69, 70] g210)
                                have md214 : sv_mod [68, 69, 70, 81, 82, 83, 84, 85, 86, 71, 74, 75, 1127, 78, 79, 80, 72, 76, 77, 1143, 1144, 5, 1011, 1150, 1149, 1145, 1113, 1111, 1112, 1100031] S (sv_sts (sv_sts (sv_sts (sv_sts S [1143, 1144, 5, 1011] g21) [68, 69, 70] g41) [68, 69, 70] g178) [68, 69, 70] g210) := sv_mod.sts md183 (by decide)
                                have md215 : sv_mod [68, 69, 70] (sv_sts S [1143, 1144, 5, 1011] g21) (sv_sts (sv_sts (sv_sts (sv_sts S [1143, 1144, 5, 1011] g21) [68, 69, 70] g41) [68, 69, 70] g178) [68, 69, 70] g210) := sv_mod.sts md184 (by decide)
                                have md216 : sv_mod [68, 69, 70] (sv_sts (sv_sts S [1143, 1144, 5, 1011] g21) [68, 69, 70] g41) (sv_sts (sv_sts (sv_sts (sv_sts S [1143, 1144, 5, 1011] g21) [68, 69, 70] g41) [68, 69, 70] g178) [68, 69, 70] g210) := sv_mod.sts md185 (by decide)
                                have h := h g210 hpo213
                                refine sv_iinc (d := (1 : Int)) hM dX12_waysOfDelete_317 rfl (by decide) rfl rfl ?_
                                show sv_T sm_XS sm_cs sm_L sm_sh 9 (q_waysOfDelete S) 277 320 [(0, .ref 0), (1, sv_I r7), (2, sv_I r13), (3, sv_I s26), (4, sv_I s172), (5, sv_I s174), (6, sv_I (r38 + r40)), (7, sv_I l7_44), (8, sv_I r171), (9, sv_I s176), (10, sv_I (l10_179 + (1 : Int)))] [] (sv_sts (sv_sts (sv_sts (sv_sts S [1143, 1144, 5, 1011] g21) [68, 69, 70] g41) [68, 69, 70] g178) [68, 69, 70] g210)
                                refine sv_goto hM dX12_waysOfDelete_320 (pc' := 231) rfl ?_
                                obtain ⟨o217, h⟩ := h
                                have eS := sv_mod.eq md216
                                have hb := ih180 ((l10_179 + (1 : Int)), (sv_sts (sv_sts (sv_sts (sv_sts S [1143, 1144, 5, 1011] g21) [68, 69, 70] g41) [68, 69, 70] g178) [68, 69, 70] g210)) ⟨o217, (by rw [← eS]; exact ok211), h.1⟩ h.2
                                have hb : sv_T sm_XS sm_cs sm_L sm_sh 9 (q_waysOfDelete S) 277 231 [(0, .ref 0), (1, sv_I r7), (2, sv_I r13), (3, sv_I s26), (4, sv_I s172), (5, sv_I s174), (6, sv_I (r38 + r40)), (7, sv_I l7_44), (8, sv_I r171), (9, sv_I s176), (10, sv_I (l10_179 + (1 : Int)))] [] (sv_sts (sv_sts (sv_sts (sv_sts S [1143, 1144, 5, 1011] g21) [68, 69, 70] g41) [68, 69, 70] g178) [68, 69, 70] g210) := Eq.mpr (congrArg (fun Z => sv_T sm_XS sm_cs sm_L sm_sh 9 (q_waysOfDelete S) 277 231 [(0, .ref 0), (1, sv_I r7), (2, sv_I r13), (3, sv_I s26), (4, sv_I s172), (5, sv_I s174), (6, sv_I (r38 + r40)), (7, sv_I l7_44), (8, sv_I r171), (9, sv_I s176), (10, sv_I (l10_179 + (1 : Int)))] [] Z) eS) hb
                                exact sv_less (lv := [(0, .ref 0), (1, sv_I r7), (2, sv_I r13), (3, sv_I s26), (4, sv_I s172), (5, sv_I s174), (6, sv_I (r38 + r40)), (7, sv_I l7_44), (8, sv_I r171), (9, sv_I s176), (10, sv_I (l10_179 + (1 : Int)))]) (sv_Sub_cons rfl (sv_Sub_cons rfl (sv_Sub_cons rfl (sv_Sub_cons rfl (sv_Sub_cons rfl (sv_Sub_cons rfl (sv_Sub_cons rfl (sv_Sub_cons rfl (sv_Sub_cons rfl (sv_Sub_cons rfl (sv_Sub_cons rfl sv_Sub_nil))))))))))) hb
                              · have h := h.2 (hc)
                                refine sv_aload_n hM dX12_waysOfDelete_284 rfl rfl ?_
                                refine sv_aload_n hM dX12_waysOfDelete_285 rfl rfl ?_
                                refine sv_sipush (d := (639 : Int)) hM dX12_waysOfDelete_286 rfl rfl ?_
                                refine sv_iload hM dX12_waysOfDelete_289 rfl rfl ?_
                                refine sv_iload hM dX12_waysOfDelete_291 rfl rfl ?_
                                obtain ⟨o218, h⟩ := h
                                refine sv_callV hM dX12_waysOfDelete_293 sm_iv_1163 (by decide) (sm_a0 _) rfl rfl (Nat.le_of_ble_eq_true rfl) sm_h225 (Nat.le_of_ble_eq_true rfl) (Nat.le_of_ble_eq_true rfl) (F' := 1) (Nat.le_of_ble_eq_true rfl) rfl (t_field (639 : Int) l7_44 l10_179 (sv_sts (sv_sts (sv_sts S [1143, 1144, 5, 1011] g21) [68, 69, 70] g41) [68, 69, 70] g178) ok197 (⟨by decide, by decide⟩ : sv_R (639 : Int)) hl7_44 hl10_179 o218) (fun v S1 hq => ?_)
                                obtain ⟨r223, rfl, hr223, ok220, md221, hpo222⟩ := hq
                                obtain rfl : (sv_sts (sv_sts (sv_sts S [1143, 1144, 5, 1011] g21) [68, 69, 70] g41) [68, 69, 70] g178) = S1 := (funext fun j => md221 j (by intro q; cases q)).symm
                                show sv_T sm_XS sm_cs sm_L sm_sh 9 (q_waysOfDelete S) 277 296 [(0, .ref 0), (1, sv_I r7), (2, sv_I r13), (3, sv_I s26), (4, sv_I s172), (5, sv_I s174), (6, sv_I (r38 + r40)), (7, sv_I l7_44), (8, sv_I r171), (9, sv_I s176), (10, sv_I l10_179)] [sv_I r223, .ref 0] (sv_sts (sv_sts (sv_sts S [1143, 1144, 5, 1011] g21) [68, 69, 70] g41) [68, 69, 70] g178)
                                have h := h r223 hr223 hpo222
                                obtain ⟨o224, h⟩ := h
                                refine sv_callV hM dX12_waysOfDelete_296 sm_iv_1066 (by decide) (sm_a0 _) rfl rfl (Nat.le_of_ble_eq_true rfl) sm_h206 (Nat.le_of_ble_eq_true rfl) (Nat.le_of_ble_eq_true rfl) (F' := 0) (Nat.le_of_ble_eq_true rfl) rfl (t_empty r223 (sv_sts (sv_sts (sv_sts S [1143, 1144, 5, 1011] g21) [68, 69, 70] g41) [68, 69, 70] g178) ok220 hr223 o224) (fun v S1 hq => ?_)
                                obtain ⟨rfl, ok226, md227, hpo228⟩ := hq
                                obtain ⟨g225, rfl⟩ : ∃ g, S1 = sv_sts (sv_sts (sv_sts (sv_sts S [1143, 1144, 5, 1011] g21) [68, 69, 70] g41) [68, 69, 70] g178) [68, 69, 70] g := ⟨_, md227.eq⟩
                                show sv_T sm_XS sm_cs sm_L sm_sh 9 (q_waysOfDelete S) 277 299 [(0, .ref 0), (1, sv_I r7), (2, sv_I r13), (3, sv_I s26), (4, sv_I s172), (5, sv_I s174), (6, sv_I (r38 + r40)), (7, sv_I l7_44), (8, sv_I r171), (9, sv_I s176), (10, sv_I l10_179)] [] (sv_sts (sv_sts (sv_sts (sv_sts S [1143, 1144, 5, 1011] g21) [68, 69, 70] g41) [68, 69, 70] g178) [68, 69, 70] g225)
                                have md229 : sv_mod [68, 69, 70, 81, 82, 83, 84, 85, 86, 71, 74, 75, 1127, 78, 79, 80, 72, 76, 77, 1143, 1144, 5, 1011, 1150, 1149, 1145, 1113, 1111, 1112, 1100031] S (sv_sts (sv_sts (sv_sts (sv_sts S [1143, 1144, 5, 1011] g21) [68, 69, 70] g41) [68, 69, 70] g178) [68, 69, 70] g225) := sv_mod.sts md183 (by decide)
                                have md230 : sv_mod [68, 69, 70] (sv_sts S [1143, 1144, 5, 1011] g21) (sv_sts (sv_sts (sv_sts (sv_sts S [1143, 1144, 5, 1011] g21) [68, 69, 70] g41) [68, 69, 70] g178) [68, 69, 70] g225) := sv_mod.sts md184 (by decide)
                                have md231 : sv_mod [68, 69, 70] (sv_sts (sv_sts S [1143, 1144, 5, 1011] g21) [68, 69, 70] g41) (sv_sts (sv_sts (sv_sts (sv_sts S [1143, 1144, 5, 1011] g21) [68, 69, 70] g41) [68, 69, 70] g178) [68, 69, 70] g225) := sv_mod.sts md185 (by decide)
                                have h := h g225 hpo228
                                refine sv_aload_n hM dX12_waysOfDelete_299 rfl rfl ?_
                                refine sv_aload_n hM dX12_waysOfDelete_300 rfl rfl ?_
                                refine sv_sipush (d := (639 : Int)) hM dX12_waysOfDelete_301 rfl rfl ?_
                                refine sv_iload hM dX12_waysOfDelete_304 rfl rfl ?_
                                refine sv_iload hM dX12_waysOfDelete_306 rfl rfl ?_
                                refine sv_callV hM dX12_waysOfDelete_308 sm_iv_1163 (by decide) (sm_a0 _) rfl rfl (Nat.le_of_ble_eq_true rfl) sm_h225 (Nat.le_of_ble_eq_true rfl) (Nat.le_of_ble_eq_true rfl) (F' := 1) (Nat.le_of_ble_eq_true rfl) rfl (t_field (639 : Int) l7_44 l10_179 (sv_sts (sv_sts (sv_sts (sv_sts S [1143, 1144, 5, 1011] g21) [68, 69, 70] g41) [68, 69, 70] g178) [68, 69, 70] g225) ok226 (⟨by decide, by decide⟩ : sv_R (639 : Int)) hl7_44 hl10_179 o218) (fun v S1 hq => ?_)
                                obtain ⟨r236, rfl, hr236, ok233, md234, hpo235⟩ := hq
                                obtain rfl : (sv_sts (sv_sts (sv_sts (sv_sts S [1143, 1144, 5, 1011] g21) [68, 69, 70] g41) [68, 69, 70] g178) [68, 69, 70] g225) = S1 := (funext fun j => md234 j (by intro q; cases q)).symm
                                show sv_T sm_XS sm_cs sm_L sm_sh 9 (q_waysOfDelete S) 277 311 [(0, .ref 0), (1, sv_I r7), (2, sv_I r13), (3, sv_I s26), (4, sv_I s172), (5, sv_I s174), (6, sv_I (r38 + r40)), (7, sv_I l7_44), (8, sv_I r171), (9, sv_I s176), (10, sv_I l10_179)] [sv_I r236, .ref 0] (sv_sts (sv_sts (sv_sts (sv_sts S [1143, 1144, 5, 1011] g21) [68, 69, 70] g41) [68, 69, 70] g178) [68, 69, 70] g225)
                                have h := h r236 hr236 hpo235
                                refine sv_sipush (d := (512 : Int)) hM dX12_waysOfDelete_311 rfl rfl ?_
                                obtain ⟨o237, h⟩ := h
                                refine sv_callV hM dX12_waysOfDelete_314 sm_iv_1072 (by decide) (sm_a0 _) rfl rfl (Nat.le_of_ble_eq_true rfl) sm_h213 (Nat.le_of_ble_eq_true rfl) (Nat.le_of_ble_eq_true rfl) (F' := 2) (Nat.le_of_ble_eq_true rfl) rfl (t_addSort r236 (512 : Int) (sv_sts (sv_sts (sv_sts (sv_sts S [1143, 1144, 5, 1011] g21) [68, 69, 70] g41) [68, 69, 70] g178) [68, 69, 70] g225) ok233 hr236 (⟨by decide, by decide⟩ : sv_R (512 : Int)) o237) (fun v S1 hq => ?_)
                                obtain ⟨rfl, ok239, md240, hpo241⟩ := hq
                                obtain ⟨g238, rfl⟩ : ∃ g, S1 = sv_sts (sv_sts (sv_sts (sv_sts (sv_sts S [1143, 1144, 5, 1011] g21) [68, 69, 70] g41) [68, 69, 70] g178) [68, 69, 70] g225) [68, 69, 70] g := ⟨_, md240.eq⟩
                                show sv_T sm_XS sm_cs sm_L sm_sh 9 (q_waysOfDelete S) 277 317 [(0, .ref 0), (1, sv_I r7), (2, sv_I r13), (3, sv_I s26), (4, sv_I s172), (5, sv_I s174), (6, sv_I (r38 + r40)), (7, sv_I l7_44), (8, sv_I r171), (9, sv_I s176), (10, sv_I l10_179)] [] (sv_sts (sv_sts (sv_sts (sv_sts (sv_sts S [1143, 1144, 5, 1011] g21) [68, 69, 70] g41) [68, 69, 70] g178) [68, 69, 70] g225) [68, 69, 70] g238)
                                have md242 : sv_mod [68, 69, 70, 81, 82, 83, 84, 85, 86, 71, 74, 75, 1127, 78, 79, 80, 72, 76, 77, 1143, 1144, 5, 1011, 1150, 1149, 1145, 1113, 1111, 1112, 1100031] S (sv_sts (sv_sts (sv_sts (sv_sts (sv_sts S [1143, 1144, 5, 1011] g21) [68, 69, 70] g41) [68, 69, 70] g178) [68, 69, 70] g225) [68, 69, 70] g238) := sv_mod.sts md229 (by decide)
                                have md243 : sv_mod [68, 69, 70] (sv_sts S [1143, 1144, 5, 1011] g21) (sv_sts (sv_sts (sv_sts (sv_sts (sv_sts S [1143, 1144, 5, 1011] g21) [68, 69, 70] g41) [68, 69, 70] g178) [68, 69, 70] g225) [68, 69, 70] g238) := sv_mod.sts md230 (by decide)
                                have md244 : sv_mod [68, 69, 70] (sv_sts (sv_sts S [1143, 1144, 5, 1011] g21) [68, 69, 70] g41) (sv_sts (sv_sts (sv_sts (sv_sts (sv_sts S [1143, 1144, 5, 1011] g21) [68, 69, 70] g41) [68, 69, 70] g178) [68, 69, 70] g225) [68, 69, 70] g238) := sv_mod.sts md231 (by decide)
                                have h := h g238 hpo241
                                refine sv_iinc (d := (1 : Int)) hM dX12_waysOfDelete_317 rfl (by decide) rfl rfl ?_
                                show sv_T sm_XS sm_cs sm_L sm_sh 9 (q_waysOfDelete S) 277 320 [(0, .ref 0), (1, sv_I r7), (2, sv_I r13), (3, sv_I s26), (4, sv_I s172), (5, sv_I s174), (6, sv_I (r38 + r40)), (7, sv_I l7_44), (8, sv_I r171), (9, sv_I s176), (10, sv_I (l10_179 + (1 : Int)))] [] (sv_sts (sv_sts (sv_sts (sv_sts (sv_sts S [1143, 1144, 5, 1011] g21) [68, 69, 70] g41) [68, 69, 70] g178) [68, 69, 70] g225) [68, 69, 70] g238)
                                refine sv_goto hM dX12_waysOfDelete_320 (pc' := 231) rfl ?_
                                obtain ⟨o245, h⟩ := h
                                have eS := sv_mod.eq md244
                                have hb := ih180 ((l10_179 + (1 : Int)), (sv_sts (sv_sts (sv_sts (sv_sts (sv_sts S [1143, 1144, 5, 1011] g21) [68, 69, 70] g41) [68, 69, 70] g178) [68, 69, 70] g225) [68, 69, 70] g238)) ⟨o245, (by rw [← eS]; exact ok239), h.1⟩ h.2
                                have hb : sv_T sm_XS sm_cs sm_L sm_sh 9 (q_waysOfDelete S) 277 231 [(0, .ref 0), (1, sv_I r7), (2, sv_I r13), (3, sv_I s26), (4, sv_I s172), (5, sv_I s174), (6, sv_I (r38 + r40)), (7, sv_I l7_44), (8, sv_I r171), (9, sv_I s176), (10, sv_I (l10_179 + (1 : Int)))] [] (sv_sts (sv_sts (sv_sts (sv_sts (sv_sts S [1143, 1144, 5, 1011] g21) [68, 69, 70] g41) [68, 69, 70] g178) [68, 69, 70] g225) [68, 69, 70] g238) := Eq.mpr (congrArg (fun Z => sv_T sm_XS sm_cs sm_L sm_sh 9 (q_waysOfDelete S) 277 231 [(0, .ref 0), (1, sv_I r7), (2, sv_I r13), (3, sv_I s26), (4, sv_I s172), (5, sv_I s174), (6, sv_I (r38 + r40)), (7, sv_I l7_44), (8, sv_I r171), (9, sv_I s176), (10, sv_I (l10_179 + (1 : Int)))] [] Z) eS) hb
                                exact sv_less (lv := [(0, .ref 0), (1, sv_I r7), (2, sv_I r13), (3, sv_I s26), (4, sv_I s172), (5, sv_I s174), (6, sv_I (r38 + r40)), (7, sv_I l7_44), (8, sv_I r171), (9, sv_I s176), (10, sv_I (l10_179 + (1 : Int)))]) (sv_Sub_cons rfl (sv_Sub_cons rfl (sv_Sub_cons rfl (sv_Sub_cons rfl (sv_Sub_cons rfl (sv_Sub_cons rfl (sv_Sub_cons rfl (sv_Sub_cons rfl (sv_Sub_cons rfl (sv_Sub_cons rfl (sv_Sub_cons rfl sv_Sub_nil))))))))))) hb
                            · have h := h.2 (hc)
                              refine sv_goto hM dX12_waysOfDelete_276 (pc' := 317) rfl ?_
                              refine sv_iinc (d := (1 : Int)) hM dX12_waysOfDelete_317 rfl (by decide) rfl rfl ?_
                              show sv_T sm_XS sm_cs sm_L sm_sh 9 (q_waysOfDelete S) 277 320 [(0, .ref 0), (1, sv_I r7), (2, sv_I r13), (3, sv_I s26), (4, sv_I s172), (5, sv_I s174), (6, sv_I (r38 + r40)), (7, sv_I l7_44), (8, sv_I r171), (9, sv_I s176), (10, sv_I (l10_179 + (1 : Int)))] [] (sv_sts (sv_sts (sv_sts S [1143, 1144, 5, 1011] g21) [68, 69, 70] g41) [68, 69, 70] g178)
                              refine sv_goto hM dX12_waysOfDelete_320 (pc' := 231) rfl ?_
                              obtain ⟨o246, h⟩ := h
                              have eS := sv_mod.eq md185
                              have hb := ih180 ((l10_179 + (1 : Int)), (sv_sts (sv_sts (sv_sts S [1143, 1144, 5, 1011] g21) [68, 69, 70] g41) [68, 69, 70] g178)) ⟨o246, (by rw [← eS]; exact ok197), h.1⟩ h.2
                              have hb : sv_T sm_XS sm_cs sm_L sm_sh 9 (q_waysOfDelete S) 277 231 [(0, .ref 0), (1, sv_I r7), (2, sv_I r13), (3, sv_I s26), (4, sv_I s172), (5, sv_I s174), (6, sv_I (r38 + r40)), (7, sv_I l7_44), (8, sv_I r171), (9, sv_I s176), (10, sv_I (l10_179 + (1 : Int)))] [] (sv_sts (sv_sts (sv_sts S [1143, 1144, 5, 1011] g21) [68, 69, 70] g41) [68, 69, 70] g178) := Eq.mpr (congrArg (fun Z => sv_T sm_XS sm_cs sm_L sm_sh 9 (q_waysOfDelete S) 277 231 [(0, .ref 0), (1, sv_I r7), (2, sv_I r13), (3, sv_I s26), (4, sv_I s172), (5, sv_I s174), (6, sv_I (r38 + r40)), (7, sv_I l7_44), (8, sv_I r171), (9, sv_I s176), (10, sv_I (l10_179 + (1 : Int)))] [] Z) eS) hb
                              exact sv_less (lv := [(0, .ref 0), (1, sv_I r7), (2, sv_I r13), (3, sv_I s26), (4, sv_I s172), (5, sv_I s174), (6, sv_I (r38 + r40)), (7, sv_I l7_44), (8, sv_I r171), (9, sv_I s176), (10, sv_I (l10_179 + (1 : Int)))]) (sv_Sub_cons rfl (sv_Sub_cons rfl (sv_Sub_cons rfl (sv_Sub_cons rfl (sv_Sub_cons rfl (sv_Sub_cons rfl (sv_Sub_cons rfl (sv_Sub_cons rfl (sv_Sub_cons rfl (sv_Sub_cons rfl (sv_Sub_cons rfl sv_Sub_nil))))))))))) hb
                          · have h := h.2 (hc)
                            refine sv_iload hM dX12_waysOfDelete_254 rfl rfl ?_
                            refine sv_cond_ne hM dX12_waysOfDelete_256 hr171 (t := 317) rfl rfl (fun hc => ?_) (fun hc => ?_)
                            · have h := h.1 (hc)
                              refine sv_iinc (d := (1 : Int)) hM dX12_waysOfDelete_317 rfl (by decide) rfl rfl ?_
                              show sv_T sm_XS sm_cs sm_L sm_sh 9 (q_waysOfDelete S) 277 320 [(0, .ref 0), (1, sv_I r7), (2, sv_I r13), (3, sv_I s26), (4, sv_I s172), (5, sv_I s174), (6, sv_I (r38 + r40)), (7, sv_I l7_44), (8, sv_I r171), (9, sv_I s176), (10, sv_I (l10_179 + (1 : Int)))] [] (sv_sts (sv_sts (sv_sts S [1143, 1144, 5, 1011] g21) [68, 69, 70] g41) [68, 69, 70] g178)
                              refine sv_goto hM dX12_waysOfDelete_320 (pc' := 231) rfl ?_
                              obtain ⟨o247, h⟩ := h
                              have eS := sv_mod.eq md185
                              have hb := ih180 ((l10_179 + (1 : Int)), (sv_sts (sv_sts (sv_sts S [1143, 1144, 5, 1011] g21) [68, 69, 70] g41) [68, 69, 70] g178)) ⟨o247, (by rw [← eS]; exact ok190), h.1⟩ h.2
                              have hb : sv_T sm_XS sm_cs sm_L sm_sh 9 (q_waysOfDelete S) 277 231 [(0, .ref 0), (1, sv_I r7), (2, sv_I r13), (3, sv_I s26), (4, sv_I s172), (5, sv_I s174), (6, sv_I (r38 + r40)), (7, sv_I l7_44), (8, sv_I r171), (9, sv_I s176), (10, sv_I (l10_179 + (1 : Int)))] [] (sv_sts (sv_sts (sv_sts S [1143, 1144, 5, 1011] g21) [68, 69, 70] g41) [68, 69, 70] g178) := Eq.mpr (congrArg (fun Z => sv_T sm_XS sm_cs sm_L sm_sh 9 (q_waysOfDelete S) 277 231 [(0, .ref 0), (1, sv_I r7), (2, sv_I r13), (3, sv_I s26), (4, sv_I s172), (5, sv_I s174), (6, sv_I (r38 + r40)), (7, sv_I l7_44), (8, sv_I r171), (9, sv_I s176), (10, sv_I (l10_179 + (1 : Int)))] [] Z) eS) hb
                              exact sv_less (lv := [(0, .ref 0), (1, sv_I r7), (2, sv_I r13), (3, sv_I s26), (4, sv_I s172), (5, sv_I s174), (6, sv_I (r38 + r40)), (7, sv_I l7_44), (8, sv_I r171), (9, sv_I s176), (10, sv_I (l10_179 + (1 : Int)))]) (sv_Sub_cons rfl (sv_Sub_cons rfl (sv_Sub_cons rfl (sv_Sub_cons rfl (sv_Sub_cons rfl (sv_Sub_cons rfl (sv_Sub_cons rfl (sv_Sub_cons rfl (sv_Sub_cons rfl (sv_Sub_cons rfl (sv_Sub_cons rfl sv_Sub_nil))))))))))) hb
                            · have h := h.2 (hc)
                              refine sv_aload_n hM dX12_waysOfDelete_259 rfl rfl ?_
                              refine sv_getA hM dX12_waysOfDelete_260 sm_fl_256 (sm_a0 _) sm_k133 rfl ?_
                              refine sv_aload_n hM dX12_waysOfDelete_263 rfl rfl ?_
                              refine sv_sipush (d := (639 : Int)) hM dX12_waysOfDelete_264 rfl rfl ?_
                              refine sv_iload hM dX12_waysOfDelete_267 rfl rfl ?_
                              obtain ⟨o248, h⟩ := h
                              refine sv_callV hM dX12_waysOfDelete_269 sm_iv_1101 (by decide) (sm_a0 _) rfl rfl (Nat.le_of_ble_eq_true rfl) sm_h226 (Nat.le_of_ble_eq_true rfl) (Nat.le_of_ble_eq_true rfl) (F' := 1) (Nat.le_of_ble_eq_true rfl) rfl (t_of (639 : Int) l7_44 (sv_sts (sv_sts (sv_sts S [1143, 1144, 5, 1011] g21) [68, 69, 70] g41) [68, 69, 70] g178) ok190 (⟨by decide, by decide⟩ : sv_R (639 : Int)) hl7_44 o248) (fun v S1 hq => ?_)
                              obtain ⟨r253, rfl, hr253, ok250, md251, hpo252⟩ := hq
                              obtain rfl : (sv_sts (sv_sts (sv_sts S [1143, 1144, 5, 1011] g21) [68, 69, 70] g41) [68, 69, 70] g178) = S1 := (funext fun j => md251 j (by intro q; cases q)).symm
                              show sv_T sm_XS sm_cs sm_L sm_sh 9 (q_waysOfDelete S) 277 272 [(0, .ref 0), (1, sv_I r7), (2, sv_I r13), (3, sv_I s26), (4, sv_I s172), (5, sv_I s174), (6, sv_I (r38 + r40)), (7, sv_I l7_44), (8, sv_I r171), (9, sv_I s176), (10, sv_I l10_179)] [sv_I r253, .ref 81] (sv_sts (sv_sts (sv_sts S [1143, 1144, 5, 1011] g21) [68, 69, 70] g41) [68, 69, 70] g178)
                              have h := h r253 hr253 hpo252
                              obtain ⟨o254, h⟩ := h
                              have k255 : (0 ≤ (S 81 r253) ∧ (S 81 r253) ≤ 1) := sm_okZ ok250 sm_r81 r253
                              have h := h k255
                              refine sv_zald hM dX12_waysOfDelete_272 (sm_a81 _) (by decide) o254.1 o254.2 rfl (x := (S 81 r253)) rfl ?_
                              refine sv_cond_ne hM dX12_waysOfDelete_273 (sv_R01 k255) (t := 279) rfl rfl (fun hc => ?_) (fun hc => ?_)
                              · have h := h.1 (hc)
                                refine sv_iload hM dX12_waysOfDelete_279 rfl rfl ?_
                                refine sv_cond_eq hM dX12_waysOfDelete_281 hs176 (t := 299) rfl rfl (fun hc => ?_) (fun hc => ?_)
                                · have h := h.1 (hc)
                                  refine sv_aload_n hM dX12_waysOfDelete_299 rfl rfl ?_
                                  refine sv_aload_n hM dX12_waysOfDelete_300 rfl rfl ?_
                                  refine sv_sipush (d := (639 : Int)) hM dX12_waysOfDelete_301 rfl rfl ?_
                                  refine sv_iload hM dX12_waysOfDelete_304 rfl rfl ?_
                                  refine sv_iload hM dX12_waysOfDelete_306 rfl rfl ?_
                                  obtain ⟨o256, h⟩ := h
                                  refine sv_callV hM dX12_waysOfDelete_308 sm_iv_1163 (by decide) (sm_a0 _) rfl rfl (Nat.le_of_ble_eq_true rfl) sm_h225 (Nat.le_of_ble_eq_true rfl) (Nat.le_of_ble_eq_true rfl) (F' := 1) (Nat.le_of_ble_eq_true rfl) rfl (t_field (639 : Int) l7_44 l10_179 (sv_sts (sv_sts (sv_sts S [1143, 1144, 5, 1011] g21) [68, 69, 70] g41) [68, 69, 70] g178) ok250 (⟨by decide, by decide⟩ : sv_R (639 : Int)) hl7_44 hl10_179 o256) (fun v S1 hq => ?_)
                                  obtain ⟨r261, rfl, hr261, ok258, md259, hpo260⟩ := hq
                                  obtain rfl : (sv_sts (sv_sts (sv_sts S [1143, 1144, 5, 1011] g21) [68, 69, 70] g41) [68, 69, 70] g178) = S1 := (funext fun j => md259 j (by intro q; cases q)).symm
                                  show sv_T sm_XS sm_cs sm_L sm_sh 9 (q_waysOfDelete S) 277 311 [(0, .ref 0), (1, sv_I r7), (2, sv_I r13), (3, sv_I s26), (4, sv_I s172), (5, sv_I s174), (6, sv_I (r38 + r40)), (7, sv_I l7_44), (8, sv_I r171), (9, sv_I s176), (10, sv_I l10_179)] [sv_I r261, .ref 0] (sv_sts (sv_sts (sv_sts S [1143, 1144, 5, 1011] g21) [68, 69, 70] g41) [68, 69, 70] g178)
                                  have h := h r261 hr261 hpo260
                                  refine sv_sipush (d := (512 : Int)) hM dX12_waysOfDelete_311 rfl rfl ?_
                                  obtain ⟨o262, h⟩ := h
                                  refine sv_callV hM dX12_waysOfDelete_314 sm_iv_1072 (by decide) (sm_a0 _) rfl rfl (Nat.le_of_ble_eq_true rfl) sm_h213 (Nat.le_of_ble_eq_true rfl) (Nat.le_of_ble_eq_true rfl) (F' := 2) (Nat.le_of_ble_eq_true rfl) rfl (t_addSort r261 (512 : Int) (sv_sts (sv_sts (sv_sts S [1143, 1144, 5, 1011] g21) [68, 69, 70] g41) [68, 69, 70] g178) ok258 hr261 (⟨by decide, by decide⟩ : sv_R (512 : Int)) o262) (fun v S1 hq => ?_)
                                  obtain ⟨rfl, ok264, md265, hpo266⟩ := hq
                                  obtain ⟨g263, rfl⟩ : ∃ g, S1 = sv_sts (sv_sts (sv_sts (sv_sts S [1143, 1144, 5, 1011] g21) [68, 69, 70] g41) [68, 69, 70] g178) [68, 69, 70] g := ⟨_, md265.eq⟩
                                  show sv_T sm_XS sm_cs sm_L sm_sh 9 (q_waysOfDelete S) 277 317 [(0, .ref 0), (1, sv_I r7), (2, sv_I r13), (3, sv_I s26), (4, sv_I s172), (5, sv_I s174), (6, sv_I (r38 + r40)), (7, sv_I l7_44), (8, sv_I r171), (9, sv_I s176), (10, sv_I l10_179)] [] (sv_sts (sv_sts (sv_sts (sv_sts S [1143, 1144, 5, 1011] g21) [68, 69, 70] g41) [68, 69, 70] g178) [68, 69, 70] g263)
                                  have md267 : sv_mod [68, 69, 70, 81, 82, 83, 84, 85, 86, 71, 74, 75, 1127, 78, 79, 80, 72, 76, 77, 1143, 1144, 5, 1011, 1150, 1149, 1145, 1113, 1111, 1112, 1100031] S (sv_sts (sv_sts (sv_sts (sv_sts S [1143, 1144, 5, 1011] g21) [68, 69, 70] g41) [68, 69, 70] g178) [68, 69, 70] g263) := sv_mod.sts md183 (by decide)
                                  have md268 : sv_mod [68, 69, 70] (sv_sts S [1143, 1144, 5, 1011] g21) (sv_sts (sv_sts (sv_sts (sv_sts S [1143, 1144, 5, 1011] g21) [68, 69, 70] g41) [68, 69, 70] g178) [68, 69, 70] g263) := sv_mod.sts md184 (by decide)
                                  have md269 : sv_mod [68, 69, 70] (sv_sts (sv_sts S [1143, 1144, 5, 1011] g21) [68, 69, 70] g41) (sv_sts (sv_sts (sv_sts (sv_sts S [1143, 1144, 5, 1011] g21) [68, 69, 70] g41) [68, 69, 70] g178) [68, 69, 70] g263) := sv_mod.sts md185 (by decide)
                                  have h := h g263 hpo266
                                  refine sv_iinc (d := (1 : Int)) hM dX12_waysOfDelete_317 rfl (by decide) rfl rfl ?_
                                  show sv_T sm_XS sm_cs sm_L sm_sh 9 (q_waysOfDelete S) 277 320 [(0, .ref 0), (1, sv_I r7), (2, sv_I r13), (3, sv_I s26), (4, sv_I s172), (5, sv_I s174), (6, sv_I (r38 + r40)), (7, sv_I l7_44), (8, sv_I r171), (9, sv_I s176), (10, sv_I (l10_179 + (1 : Int)))] [] (sv_sts (sv_sts (sv_sts (sv_sts S [1143, 1144, 5, 1011] g21) [68, 69, 70] g41) [68, 69, 70] g178) [68, 69, 70] g263)
                                  refine sv_goto hM dX12_waysOfDelete_320 (pc' := 231) rfl ?_
                                  obtain ⟨o270, h⟩ := h
                                  have eS := sv_mod.eq md269
                                  have hb := ih180 ((l10_179 + (1 : Int)), (sv_sts (sv_sts (sv_sts (sv_sts S [1143, 1144, 5, 1011] g21) [68, 69, 70] g41) [68, 69, 70] g178) [68, 69, 70] g263)) ⟨o270, (by rw [← eS]; exact ok264), h.1⟩ h.2
                                  have hb : sv_T sm_XS sm_cs sm_L sm_sh 9 (q_waysOfDelete S) 277 231 [(0, .ref 0), (1, sv_I r7), (2, sv_I r13), (3, sv_I s26), (4, sv_I s172), (5, sv_I s174), (6, sv_I (r38 + r40)), (7, sv_I l7_44), (8, sv_I r171), (9, sv_I s176), (10, sv_I (l10_179 + (1 : Int)))] [] (sv_sts (sv_sts (sv_sts (sv_sts S [1143, 1144, 5, 1011] g21) [68, 69, 70] g41) [68, 69, 70] g178) [68, 69, 70] g263) := Eq.mpr (congrArg (fun Z => sv_T sm_XS sm_cs sm_L sm_sh 9 (q_waysOfDelete S) 277 231 [(0, .ref 0), (1, sv_I r7), (2, sv_I r13), (3, sv_I s26), (4, sv_I s172), (5, sv_I s174), (6, sv_I (r38 + r40)), (7, sv_I l7_44), (8, sv_I r171), (9, sv_I s176), (10, sv_I (l10_179 + (1 : Int)))] [] Z) eS) hb
                                  exact sv_less (lv := [(0, .ref 0), (1, sv_I r7), (2, sv_I r13), (3, sv_I s26), (4, sv_I s172), (5, sv_I s174), (6, sv_I (r38 + r40)), (7, sv_I l7_44), (8, sv_I r171), (9, sv_I s176), (10, sv_I (l10_179 + (1 : Int)))]) (sv_Sub_cons rfl (sv_Sub_cons rfl (sv_Sub_cons rfl (sv_Sub_cons rfl (sv_Sub_cons rfl (sv_Sub_cons rfl (sv_Sub_cons rfl (sv_Sub_cons rfl (sv_Sub_cons rfl (sv_Sub_cons rfl (sv_Sub_cons rfl sv_Sub_nil))))))))))) hb
                                · have h := h.2 (hc)
                                  refine sv_aload_n hM dX12_waysOfDelete_284 rfl rfl ?_
                                  refine sv_aload_n hM dX12_waysOfDelete_285 rfl rfl ?_
                                  refine sv_sipush (d := (639 : Int)) hM dX12_waysOfDelete_286 rfl rfl ?_
                                  refine sv_iload hM dX12_waysOfDelete_289 rfl rfl ?_
                                  refine sv_iload hM dX12_waysOfDelete_291 rfl rfl ?_
                                  obtain ⟨o271, h⟩ := h
                                  refine sv_callV hM dX12_waysOfDelete_293 sm_iv_1163 (by decide) (sm_a0 _) rfl rfl (Nat.le_of_ble_eq_true rfl) sm_h225 (Nat.le_of_ble_eq_true rfl) (Nat.le_of_ble_eq_true rfl) (F' := 1) (Nat.le_of_ble_eq_true rfl) rfl (t_field (639 : Int) l7_44 l10_179 (sv_sts (sv_sts (sv_sts S [1143, 1144, 5, 1011] g21) [68, 69, 70] g41) [68, 69, 70] g178) ok250 (⟨by decide, by decide⟩ : sv_R (639 : Int)) hl7_44 hl10_179 o271) (fun v S1 hq => ?_)
                                  obtain ⟨r276, rfl, hr276, ok273, md274, hpo275⟩ := hq
                                  obtain rfl : (sv_sts (sv_sts (sv_sts S [1143, 1144, 5, 1011] g21) [68, 69, 70] g41) [68, 69, 70] g178) = S1 := (funext fun j => md274 j (by intro q; cases q)).symm
                                  show sv_T sm_XS sm_cs sm_L sm_sh 9 (q_waysOfDelete S) 277 296 [(0, .ref 0), (1, sv_I r7), (2, sv_I r13), (3, sv_I s26), (4, sv_I s172), (5, sv_I s174), (6, sv_I (r38 + r40)), (7, sv_I l7_44), (8, sv_I r171), (9, sv_I s176), (10, sv_I l10_179)] [sv_I r276, .ref 0] (sv_sts (sv_sts (sv_sts S [1143, 1144, 5, 1011] g21) [68, 69, 70] g41) [68, 69, 70] g178)
                                  have h := h r276 hr276 hpo275
                                  obtain ⟨o277, h⟩ := h
                                  refine sv_callV hM dX12_waysOfDelete_296 sm_iv_1066 (by decide) (sm_a0 _) rfl rfl (Nat.le_of_ble_eq_true rfl) sm_h206 (Nat.le_of_ble_eq_true rfl) (Nat.le_of_ble_eq_true rfl) (F' := 0) (Nat.le_of_ble_eq_true rfl) rfl (t_empty r276 (sv_sts (sv_sts (sv_sts S [1143, 1144, 5, 1011] g21) [68, 69, 70] g41) [68, 69, 70] g178) ok273 hr276 o277) (fun v S1 hq => ?_)
                                  obtain ⟨rfl, ok279, md280, hpo281⟩ := hq
                                  obtain ⟨g278, rfl⟩ : ∃ g, S1 = sv_sts (sv_sts (sv_sts (sv_sts S [1143, 1144, 5, 1011] g21) [68, 69, 70] g41) [68, 69, 70] g178) [68, 69, 70] g := ⟨_, md280.eq⟩
                                  show sv_T sm_XS sm_cs sm_L sm_sh 9 (q_waysOfDelete S) 277 299 [(0, .ref 0), (1, sv_I r7), (2, sv_I r13), (3, sv_I s26), (4, sv_I s172), (5, sv_I s174), (6, sv_I (r38 + r40)), (7, sv_I l7_44), (8, sv_I r171), (9, sv_I s176), (10, sv_I l10_179)] [] (sv_sts (sv_sts (sv_sts (sv_sts S [1143, 1144, 5, 1011] g21) [68, 69, 70] g41) [68, 69, 70] g178) [68, 69, 70] g278)
                                  have md282 : sv_mod [68, 69, 70, 81, 82, 83, 84, 85, 86, 71, 74, 75, 1127, 78, 79, 80, 72, 76, 77, 1143, 1144, 5, 1011, 1150, 1149, 1145, 1113, 1111, 1112, 1100031] S (sv_sts (sv_sts (sv_sts (sv_sts S [1143, 1144, 5, 1011] g21) [68, 69, 70] g41) [68, 69, 70] g178) [68, 69, 70] g278) := sv_mod.sts md183 (by decide)
                                  have md283 : sv_mod [68, 69, 70] (sv_sts S [1143, 1144, 5, 1011] g21) (sv_sts (sv_sts (sv_sts (sv_sts S [1143, 1144, 5, 1011] g21) [68, 69, 70] g41) [68, 69, 70] g178) [68, 69, 70] g278) := sv_mod.sts md184 (by decide)
                                  have md284 : sv_mod [68, 69, 70] (sv_sts (sv_sts S [1143, 1144, 5, 1011] g21) [68, 69, 70] g41) (sv_sts (sv_sts (sv_sts (sv_sts S [1143, 1144, 5, 1011] g21) [68, 69, 70] g41) [68, 69, 70] g178) [68, 69, 70] g278) := sv_mod.sts md185 (by decide)
                                  have h := h g278 hpo281
                                  refine sv_aload_n hM dX12_waysOfDelete_299 rfl rfl ?_
                                  refine sv_aload_n hM dX12_waysOfDelete_300 rfl rfl ?_
                                  refine sv_sipush (d := (639 : Int)) hM dX12_waysOfDelete_301 rfl rfl ?_
                                  refine sv_iload hM dX12_waysOfDelete_304 rfl rfl ?_
                                  refine sv_iload hM dX12_waysOfDelete_306 rfl rfl ?_
                                  refine sv_callV hM dX12_waysOfDelete_308 sm_iv_1163 (by decide) (sm_a0 _) rfl rfl (Nat.le_of_ble_eq_true rfl) sm_h225 (Nat.le_of_ble_eq_true rfl) (Nat.le_of_ble_eq_true rfl) (F' := 1) (Nat.le_of_ble_eq_true rfl) rfl (t_field (639 : Int) l7_44 l10_179 (sv_sts (sv_sts (sv_sts (sv_sts S [1143, 1144, 5, 1011] g21) [68, 69, 70] g41) [68, 69, 70] g178) [68, 69, 70] g278) ok279 (⟨by decide, by decide⟩ : sv_R (639 : Int)) hl7_44 hl10_179 o271) (fun v S1 hq => ?_)
                                  obtain ⟨r289, rfl, hr289, ok286, md287, hpo288⟩ := hq
                                  obtain rfl : (sv_sts (sv_sts (sv_sts (sv_sts S [1143, 1144, 5, 1011] g21) [68, 69, 70] g41) [68, 69, 70] g178) [68, 69, 70] g278) = S1 := (funext fun j => md287 j (by intro q; cases q)).symm
                                  show sv_T sm_XS sm_cs sm_L sm_sh 9 (q_waysOfDelete S) 277 311 [(0, .ref 0), (1, sv_I r7), (2, sv_I r13), (3, sv_I s26), (4, sv_I s172), (5, sv_I s174), (6, sv_I (r38 + r40)), (7, sv_I l7_44), (8, sv_I r171), (9, sv_I s176), (10, sv_I l10_179)] [sv_I r289, .ref 0] (sv_sts (sv_sts (sv_sts (sv_sts S [1143, 1144, 5, 1011] g21) [68, 69, 70] g41) [68, 69, 70] g178) [68, 69, 70] g278)
                                  have h := h r289 hr289 hpo288
                                  refine sv_sipush (d := (512 : Int)) hM dX12_waysOfDelete_311 rfl rfl ?_
                                  obtain ⟨o290, h⟩ := h
                                  refine sv_callV hM dX12_waysOfDelete_314 sm_iv_1072 (by decide) (sm_a0 _) rfl rfl (Nat.le_of_ble_eq_true rfl) sm_h213 (Nat.le_of_ble_eq_true rfl) (Nat.le_of_ble_eq_true rfl) (F' := 2) (Nat.le_of_ble_eq_true rfl) rfl (t_addSort r289 (512 : Int) (sv_sts (sv_sts (sv_sts (sv_sts S [1143, 1144, 5, 1011] g21) [68, 69, 70] g41) [68, 69, 70] g178) [68, 69, 70] g278) ok286 hr289 (⟨by decide, by decide⟩ : sv_R (512 : Int)) o290) (fun v S1 hq => ?_)
                                  obtain ⟨rfl, ok292, md293, hpo294⟩ := hq
                                  obtain ⟨g291, rfl⟩ : ∃ g, S1 = sv_sts (sv_sts (sv_sts (sv_sts (sv_sts S [1143, 1144, 5, 1011] g21) [68, 69, 70] g41) [68, 69, 70] g178) [68, 69, 70] g278) [68, 69, 70] g := ⟨_, md293.eq⟩
                                  show sv_T sm_XS sm_cs sm_L sm_sh 9 (q_waysOfDelete S) 277 317 [(0, .ref 0), (1, sv_I r7), (2, sv_I r13), (3, sv_I s26), (4, sv_I s172), (5, sv_I s174), (6, sv_I (r38 + r40)), (7, sv_I l7_44), (8, sv_I r171), (9, sv_I s176), (10, sv_I l10_179)] [] (sv_sts (sv_sts (sv_sts (sv_sts (sv_sts S [1143, 1144, 5, 1011] g21) [68, 69, 70] g41) [68, 69, 70] g178) [68, 69, 70] g278) [68, 69, 70] g291)
                                  have md295 : sv_mod [68, 69, 70, 81, 82, 83, 84, 85, 86, 71, 74, 75, 1127, 78, 79, 80, 72, 76, 77, 1143, 1144, 5, 1011, 1150, 1149, 1145, 1113, 1111, 1112, 1100031] S (sv_sts (sv_sts (sv_sts (sv_sts (sv_sts S [1143, 1144, 5, 1011] g21) [68, 69, 70] g41) [68, 69, 70] g178) [68, 69, 70] g278) [68, 69, 70] g291) := sv_mod.sts md282 (by decide)
                                  have md296 : sv_mod [68, 69, 70] (sv_sts S [1143, 1144, 5, 1011] g21) (sv_sts (sv_sts (sv_sts (sv_sts (sv_sts S [1143, 1144, 5, 1011] g21) [68, 69, 70] g41) [68, 69, 70] g178) [68, 69, 70] g278) [68, 69, 70] g291) := sv_mod.sts md283 (by decide)
                                  have md297 : sv_mod [68, 69, 70] (sv_sts (sv_sts S [1143, 1144, 5, 1011] g21) [68, 69, 70] g41) (sv_sts (sv_sts (sv_sts (sv_sts (sv_sts S [1143, 1144, 5, 1011] g21) [68, 69, 70] g41) [68, 69, 70] g178) [68, 69, 70] g278) [68, 69, 70] g291) := sv_mod.sts md284 (by decide)
                                  have h := h g291 hpo294
                                  refine sv_iinc (d := (1 : Int)) hM dX12_waysOfDelete_317 rfl (by decide) rfl rfl ?_
                                  show sv_T sm_XS sm_cs sm_L sm_sh 9 (q_waysOfDelete S) 277 320 [(0, .ref 0), (1, sv_I r7), (2, sv_I r13), (3, sv_I s26), (4, sv_I s172), (5, sv_I s174), (6, sv_I (r38 + r40)), (7, sv_I l7_44), (8, sv_I r171), (9, sv_I s176), (10, sv_I (l10_179 + (1 : Int)))] [] (sv_sts (sv_sts (sv_sts (sv_sts (sv_sts S [1143, 1144, 5, 1011] g21) [68, 69, 70] g41) [68, 69, 70] g178) [68, 69, 70] g278) [68, 69, 70] g291)
                                  refine sv_goto hM dX12_waysOfDelete_320 (pc' := 231) rfl ?_
                                  obtain ⟨o298, h⟩ := h
                                  have eS := sv_mod.eq md297
                                  have hb := ih180 ((l10_179 + (1 : Int)), (sv_sts (sv_sts (sv_sts (sv_sts (sv_sts S [1143, 1144, 5, 1011] g21) [68, 69, 70] g41) [68, 69, 70] g178) [68, 69, 70] g278) [68, 69, 70] g291)) ⟨o298, (by rw [← eS]; exact ok292), h.1⟩ h.2
                                  have hb : sv_T sm_XS sm_cs sm_L sm_sh 9 (q_waysOfDelete S) 277 231 [(0, .ref 0), (1, sv_I r7), (2, sv_I r13), (3, sv_I s26), (4, sv_I s172), (5, sv_I s174), (6, sv_I (r38 + r40)), (7, sv_I l7_44), (8, sv_I r171), (9, sv_I s176), (10, sv_I (l10_179 + (1 : Int)))] [] (sv_sts (sv_sts (sv_sts (sv_sts (sv_sts S [1143, 1144, 5, 1011] g21) [68, 69, 70] g41) [68, 69, 70] g178) [68, 69, 70] g278) [68, 69, 70] g291) := Eq.mpr (congrArg (fun Z => sv_T sm_XS sm_cs sm_L sm_sh 9 (q_waysOfDelete S) 277 231 [(0, .ref 0), (1, sv_I r7), (2, sv_I r13), (3, sv_I s26), (4, sv_I s172), (5, sv_I s174), (6, sv_I (r38 + r40)), (7, sv_I l7_44), (8, sv_I r171), (9, sv_I s176), (10, sv_I (l10_179 + (1 : Int)))] [] Z) eS) hb
                                  exact sv_less (lv := [(0, .ref 0), (1, sv_I r7), (2, sv_I r13), (3, sv_I s26), (4, sv_I s172), (5, sv_I s174), (6, sv_I (r38 + r40)), (7, sv_I l7_44), (8, sv_I r171), (9, sv_I s176), (10, sv_I (l10_179 + (1 : Int)))]) (sv_Sub_cons rfl (sv_Sub_cons rfl (sv_Sub_cons rfl (sv_Sub_cons rfl (sv_Sub_cons rfl (sv_Sub_cons rfl (sv_Sub_cons rfl (sv_Sub_cons rfl (sv_Sub_cons rfl (sv_Sub_cons rfl (sv_Sub_cons rfl sv_Sub_nil))))))))))) hb
                              · have h := h.2 (hc)
                                refine sv_goto hM dX12_waysOfDelete_276 (pc' := 317) rfl ?_
                                refine sv_iinc (d := (1 : Int)) hM dX12_waysOfDelete_317 rfl (by decide) rfl rfl ?_
                                show sv_T sm_XS sm_cs sm_L sm_sh 9 (q_waysOfDelete S) 277 320 [(0, .ref 0), (1, sv_I r7), (2, sv_I r13), (3, sv_I s26), (4, sv_I s172), (5, sv_I s174), (6, sv_I (r38 + r40)), (7, sv_I l7_44), (8, sv_I r171), (9, sv_I s176), (10, sv_I (l10_179 + (1 : Int)))] [] (sv_sts (sv_sts (sv_sts S [1143, 1144, 5, 1011] g21) [68, 69, 70] g41) [68, 69, 70] g178)
                                refine sv_goto hM dX12_waysOfDelete_320 (pc' := 231) rfl ?_
                                obtain ⟨o299, h⟩ := h
                                have eS := sv_mod.eq md185
                                have hb := ih180 ((l10_179 + (1 : Int)), (sv_sts (sv_sts (sv_sts S [1143, 1144, 5, 1011] g21) [68, 69, 70] g41) [68, 69, 70] g178)) ⟨o299, (by rw [← eS]; exact ok250), h.1⟩ h.2
                                have hb : sv_T sm_XS sm_cs sm_L sm_sh 9 (q_waysOfDelete S) 277 231 [(0, .ref 0), (1, sv_I r7), (2, sv_I r13), (3, sv_I s26), (4, sv_I s172), (5, sv_I s174), (6, sv_I (r38 + r40)), (7, sv_I l7_44), (8, sv_I r171), (9, sv_I s176), (10, sv_I (l10_179 + (1 : Int)))] [] (sv_sts (sv_sts (sv_sts S [1143, 1144, 5, 1011] g21) [68, 69, 70] g41) [68, 69, 70] g178) := Eq.mpr (congrArg (fun Z => sv_T sm_XS sm_cs sm_L sm_sh 9 (q_waysOfDelete S) 277 231 [(0, .ref 0), (1, sv_I r7), (2, sv_I r13), (3, sv_I s26), (4, sv_I s172), (5, sv_I s174), (6, sv_I (r38 + r40)), (7, sv_I l7_44), (8, sv_I r171), (9, sv_I s176), (10, sv_I (l10_179 + (1 : Int)))] [] Z) eS) hb
                                exact sv_less (lv := [(0, .ref 0), (1, sv_I r7), (2, sv_I r13), (3, sv_I s26), (4, sv_I s172), (5, sv_I s174), (6, sv_I (r38 + r40)), (7, sv_I l7_44), (8, sv_I r171), (9, sv_I s176), (10, sv_I (l10_179 + (1 : Int)))]) (sv_Sub_cons rfl (sv_Sub_cons rfl (sv_Sub_cons rfl (sv_Sub_cons rfl (sv_Sub_cons rfl (sv_Sub_cons rfl (sv_Sub_cons rfl (sv_Sub_cons rfl (sv_Sub_cons rfl (sv_Sub_cons rfl (sv_Sub_cons rfl sv_Sub_nil))))))))))) hb
                    have eS := sv_mod.eq (sv_mod.rf (l := [68, 69, 70]) (S := (sv_sts (sv_sts S [1143, 1144, 5, 1011] g21) [68, 69, 70] g41)))
                    have hb := hJ ((0 : Int), (sv_sts (sv_sts S [1143, 1144, 5, 1011] g21) [68, 69, 70] g41)) ⟨(⟨by decide, by decide⟩ : sv_R (0 : Int)), (by rw [← eS]; exact ok168), hin181⟩
                    have hb : sv_T sm_XS sm_cs sm_L sm_sh 9 (q_waysOfDelete S) 277 231 [(0, .ref 0), (1, sv_I r7), (2, sv_I r13), (3, sv_I s26), (4, sv_I s172), (5, sv_I s174), (6, sv_I (r38 + r40)), (7, sv_I l7_44), (8, sv_I r171), (9, sv_I s176), (10, sv_I (0 : Int))] [] (sv_sts (sv_sts S [1143, 1144, 5, 1011] g21) [68, 69, 70] g41) := Eq.mpr (congrArg (fun Z => sv_T sm_XS sm_cs sm_L sm_sh 9 (q_waysOfDelete S) 277 231 [(0, .ref 0), (1, sv_I r7), (2, sv_I r13), (3, sv_I s26), (4, sv_I s172), (5, sv_I s174), (6, sv_I (r38 + r40)), (7, sv_I l7_44), (8, sv_I r171), (9, sv_I s176), (10, sv_I (0 : Int))] [] Z) eS) hb
                    exact hb
                  have h := h.2
                  refine sv_iload_n hM dX12_waysOfDelete_184 rfl rfl ?_
                  refine sv_cond_ne hM dX12_waysOfDelete_185 hr13 (t := 225) rfl rfl (fun hc => ?_) (fun hc => ?_)
                  · have h := h.1 (hc)
                    refine sv_iconst (d := (0 : Int)) hM dX12_waysOfDelete_225 rfl rfl ?_
                    have hb := J300 (0 : Int) (⟨by decide, by decide⟩ : sv_R (0 : Int)) h
                    exact sv_less (lv := [(0, .ref 0), (1, sv_I r7), (2, sv_I r13), (3, sv_I s26), (4, sv_I s172), (5, sv_I s174), (6, sv_I (r38 + r40)), (7, sv_I l7_44), (8, sv_I r171)]) (sv_Sub_cons rfl (sv_Sub_cons rfl (sv_Sub_cons rfl (sv_Sub_cons rfl (sv_Sub_cons rfl (sv_Sub_cons rfl (sv_Sub_cons rfl (sv_Sub_cons rfl (sv_Sub_cons rfl sv_Sub_nil))))))))) hb
                  · have h := h.2 (hc)
                    refine sv_iload hM dX12_waysOfDelete_188 rfl rfl ?_
                    refine sv_iconst (d := (1 : Int)) hM dX12_waysOfDelete_190 rfl rfl ?_
                    obtain ⟨o301, h⟩ := h
                    refine sv_icmp_ne hM dX12_waysOfDelete_191 o301 (⟨by decide, by decide⟩ : sv_R (1 : Int)) (t := 225) rfl rfl (fun hc => ?_) (fun hc => ?_)
                    · have h := h.1 (hc)
                      refine sv_iconst (d := (0 : Int)) hM dX12_waysOfDelete_225 rfl rfl ?_
                      have hb := J300 (0 : Int) (⟨by decide, by decide⟩ : sv_R (0 : Int)) h
                      exact sv_less (lv := [(0, .ref 0), (1, sv_I r7), (2, sv_I r13), (3, sv_I s26), (4, sv_I s172), (5, sv_I s174), (6, sv_I (r38 + r40)), (7, sv_I l7_44), (8, sv_I r171)]) (sv_Sub_cons rfl (sv_Sub_cons rfl (sv_Sub_cons rfl (sv_Sub_cons rfl (sv_Sub_cons rfl (sv_Sub_cons rfl (sv_Sub_cons rfl (sv_Sub_cons rfl (sv_Sub_cons rfl sv_Sub_nil))))))))) hb
                    · have h := h.2 (hc)
                      refine sv_iload hM dX12_waysOfDelete_194 rfl rfl ?_
                      obtain ⟨o302, h⟩ := h
                      refine sv_callS hM dX12_waysOfDelete_196 sm_iv_1166 (Nat.le_of_ble_eq_true rfl) rfl rfl (Nat.le_of_ble_eq_true rfl) sm_h240 (Nat.le_of_ble_eq_true rfl) (Nat.le_of_ble_eq_true rfl) (F' := 0) (Nat.le_of_ble_eq_true rfl) rfl (t_isSingle l7_44 (sv_sts (sv_sts S [1143, 1144, 5, 1011] g21) [68, 69, 70] g41) ok168 hl7_44 o302) (fun v S1 hq => ?_)
                      obtain ⟨r307, rfl, hr307, ok304, md305, hpo306⟩ := hq
                      obtain rfl : (sv_sts (sv_sts S [1143, 1144, 5, 1011] g21) [68, 69, 70] g41) = S1 := (funext fun j => md305 j (by intro q; cases q)).symm
                      show sv_T sm_XS sm_cs sm_L sm_sh 9 (q_waysOfDelete S) 277 199 [(0, .ref 0), (1, sv_I r7), (2, sv_I r13), (3, sv_I s26), (4, sv_I s172), (5, sv_I s174), (6, sv_I (r38 + r40)), (7, sv_I l7_44), (8, sv_I r171)] [sv_I r307] (sv_sts (sv_sts S [1143, 1144, 5, 1011] g21) [68, 69, 70] g41)
                      have h := h r307 hr307 hpo306
                      refine sv_cond_eq hM dX12_waysOfDelete_199 hr307 (t := 225) rfl rfl (fun hc => ?_) (fun hc => ?_)
                      · have h := h.1 (hc)
                        refine sv_iconst (d := (0 : Int)) hM dX12_waysOfDelete_225 rfl rfl ?_
                        have hb := J300 (0 : Int) (⟨by decide, by decide⟩ : sv_R (0 : Int)) h
                        exact sv_less (lv := [(0, .ref 0), (1, sv_I r7), (2, sv_I r13), (3, sv_I s26), (4, sv_I s172), (5, sv_I s174), (6, sv_I (r38 + r40)), (7, sv_I l7_44), (8, sv_I r171)]) (sv_Sub_cons rfl (sv_Sub_cons rfl (sv_Sub_cons rfl (sv_Sub_cons rfl (sv_Sub_cons rfl (sv_Sub_cons rfl (sv_Sub_cons rfl (sv_Sub_cons rfl (sv_Sub_cons rfl sv_Sub_nil))))))))) hb
                      · have h := h.2 (hc)
                        refine sv_aload_n hM dX12_waysOfDelete_202 rfl rfl ?_
                        refine sv_callV hM dX12_waysOfDelete_203 sm_iv_1150 (by decide) (sm_a0 _) rfl rfl (Nat.le_of_ble_eq_true rfl) sm_h243 (Nat.le_of_ble_eq_true rfl) (Nat.le_of_ble_eq_true rfl) (F' := 4) (Nat.le_of_ble_eq_true rfl) rfl (t_manyKeys  (sv_sts (sv_sts S [1143, 1144, 5, 1011] g21) [68, 69, 70] g41) ok304) (fun v S1 hq => ?_)
                        obtain ⟨r312, rfl, hr312, ok309, md310, hpo311⟩ := hq
                        obtain rfl : (sv_sts (sv_sts S [1143, 1144, 5, 1011] g21) [68, 69, 70] g41) = S1 := (funext fun j => md310 j (by intro q; cases q)).symm
                        show sv_T sm_XS sm_cs sm_L sm_sh 9 (q_waysOfDelete S) 277 206 [(0, .ref 0), (1, sv_I r7), (2, sv_I r13), (3, sv_I s26), (4, sv_I s172), (5, sv_I s174), (6, sv_I (r38 + r40)), (7, sv_I l7_44), (8, sv_I r171)] [sv_I r312] (sv_sts (sv_sts S [1143, 1144, 5, 1011] g21) [68, 69, 70] g41)
                        have h := h r312 hr312 hpo311
                        refine sv_iconst (d := (1 : Int)) hM dX12_waysOfDelete_206 rfl rfl ?_
                        refine sv_icmp_ne hM dX12_waysOfDelete_207 hr312 (⟨by decide, by decide⟩ : sv_R (1 : Int)) (t := 225) rfl rfl (fun hc => ?_) (fun hc => ?_)
                        · have h := h.1 (hc)
                          refine sv_iconst (d := (0 : Int)) hM dX12_waysOfDelete_225 rfl rfl ?_
                          have hb := J300 (0 : Int) (⟨by decide, by decide⟩ : sv_R (0 : Int)) h
                          exact sv_less (lv := [(0, .ref 0), (1, sv_I r7), (2, sv_I r13), (3, sv_I s26), (4, sv_I s172), (5, sv_I s174), (6, sv_I (r38 + r40)), (7, sv_I l7_44), (8, sv_I r171)]) (sv_Sub_cons rfl (sv_Sub_cons rfl (sv_Sub_cons rfl (sv_Sub_cons rfl (sv_Sub_cons rfl (sv_Sub_cons rfl (sv_Sub_cons rfl (sv_Sub_cons rfl (sv_Sub_cons rfl sv_Sub_nil))))))))) hb
                        · have h := h.2 (hc)
                          refine sv_aload_n hM dX12_waysOfDelete_210 rfl rfl ?_
                          refine sv_aload_n hM dX12_waysOfDelete_211 rfl rfl ?_
                          have k313 : sv_R (S 1008 0) := sm_okI ok309 sm_r1008 0
                          have h := h k313
                          refine sv_getI hM dX12_waysOfDelete_212 sm_fl_762 (sm_a0 _) sm_k8 rfl (x := (S 1008 0)) rfl ?_
                          obtain ⟨o314, h⟩ := h
                          refine sv_callV hM dX12_waysOfDelete_215 sm_iv_1153 (by decide) (sm_a0 _) rfl rfl (Nat.le_of_ble_eq_true rfl) sm_h242 (Nat.le_of_ble_eq_true rfl) (Nat.le_of_ble_eq_true rfl) (F' := 1) (Nat.le_of_ble_eq_true rfl) rfl (t_hasKey (S 1008 0) (sv_sts (sv_sts S [1143, 1144, 5, 1011] g21) [68, 69, 70] g41) ok309 k313 o314) (fun v S1 hq => ?_)
                          obtain ⟨r319, rfl, hr319, ok316, md317, hpo318⟩ := hq
                          obtain rfl : (sv_sts (sv_sts S [1143, 1144, 5, 1011] g21) [68, 69, 70] g41) = S1 := (funext fun j => md317 j (by intro q; cases q)).symm
                          show sv_T sm_XS sm_cs sm_L sm_sh 9 (q_waysOfDelete S) 277 218 [(0, .ref 0), (1, sv_I r7), (2, sv_I r13), (3, sv_I s26), (4, sv_I s172), (5, sv_I s174), (6, sv_I (r38 + r40)), (7, sv_I l7_44), (8, sv_I r171)] [sv_I r319] (sv_sts (sv_sts S [1143, 1144, 5, 1011] g21) [68, 69, 70] g41)
                          have h := h r319 hr319 hpo318
                          refine sv_cond_ne hM dX12_waysOfDelete_218 hr319 (t := 225) rfl rfl (fun hc => ?_) (fun hc => ?_)
                          · have h := h.1 (hc)
                            refine sv_iconst (d := (0 : Int)) hM dX12_waysOfDelete_225 rfl rfl ?_
                            have hb := J300 (0 : Int) (⟨by decide, by decide⟩ : sv_R (0 : Int)) h
                            exact sv_less (lv := [(0, .ref 0), (1, sv_I r7), (2, sv_I r13), (3, sv_I s26), (4, sv_I s172), (5, sv_I s174), (6, sv_I (r38 + r40)), (7, sv_I l7_44), (8, sv_I r171)]) (sv_Sub_cons rfl (sv_Sub_cons rfl (sv_Sub_cons rfl (sv_Sub_cons rfl (sv_Sub_cons rfl (sv_Sub_cons rfl (sv_Sub_cons rfl (sv_Sub_cons rfl (sv_Sub_cons rfl sv_Sub_nil))))))))) hb
                          · have h := h.2 (hc)
                            refine sv_iconst (d := (1 : Int)) hM dX12_waysOfDelete_221 rfl rfl ?_
                            refine sv_goto hM dX12_waysOfDelete_222 (pc' := 226) rfl ?_
                            have hb := J300 (1 : Int) (⟨by decide, by decide⟩ : sv_R (1 : Int)) h
                            exact sv_less (lv := [(0, .ref 0), (1, sv_I r7), (2, sv_I r13), (3, sv_I s26), (4, sv_I s172), (5, sv_I s174), (6, sv_I (r38 + r40)), (7, sv_I l7_44), (8, sv_I r171)]) (sv_Sub_cons rfl (sv_Sub_cons rfl (sv_Sub_cons rfl (sv_Sub_cons rfl (sv_Sub_cons rfl (sv_Sub_cons rfl (sv_Sub_cons rfl (sv_Sub_cons rfl (sv_Sub_cons rfl sv_Sub_nil))))))))) hb
                have h := h.2
                refine sv_iload hM dX12_waysOfDelete_167 rfl rfl ?_
                refine sv_cond_eq hM dX12_waysOfDelete_169 hl5_43 (t := 181) rfl rfl (fun hc => ?_) (fun hc => ?_)
                · have h := h.1 (hc)
                  refine sv_iconst (d := (0 : Int)) hM dX12_waysOfDelete_181 rfl rfl ?_
                  have hb := J320 (0 : Int) (⟨by decide, by decide⟩ : sv_R (0 : Int)) h
                  exact sv_less (lv := [(0, .ref 0), (1, sv_I r7), (2, sv_I r13), (3, sv_I s26), (4, sv_I s172), (5, sv_I l5_43), (6, sv_I (r38 + r40)), (7, sv_I l7_44), (8, sv_I r171)]) (sv_Sub_cons rfl (sv_Sub_cons rfl (sv_Sub_cons rfl (sv_Sub_cons rfl (sv_Sub_cons rfl (sv_Sub_cons rfl (sv_Sub_cons rfl (sv_Sub_cons rfl (sv_Sub_cons rfl sv_Sub_nil))))))))) hb
                · have h := h.2 (hc)
                  refine sv_iload hM dX12_waysOfDelete_172 rfl rfl ?_
                  refine sv_cond_eq hM dX12_waysOfDelete_174 hr171 (t := 181) rfl rfl (fun hc => ?_) (fun hc => ?_)
                  · have h := h.1 (hc)
                    refine sv_iconst (d := (0 : Int)) hM dX12_waysOfDelete_181 rfl rfl ?_
                    have hb := J320 (0 : Int) (⟨by decide, by decide⟩ : sv_R (0 : Int)) h
                    exact sv_less (lv := [(0, .ref 0), (1, sv_I r7), (2, sv_I r13), (3, sv_I s26), (4, sv_I s172), (5, sv_I l5_43), (6, sv_I (r38 + r40)), (7, sv_I l7_44), (8, sv_I r171)]) (sv_Sub_cons rfl (sv_Sub_cons rfl (sv_Sub_cons rfl (sv_Sub_cons rfl (sv_Sub_cons rfl (sv_Sub_cons rfl (sv_Sub_cons rfl (sv_Sub_cons rfl (sv_Sub_cons rfl sv_Sub_nil))))))))) hb
                  · have h := h.2 (hc)
                    refine sv_iconst (d := (1 : Int)) hM dX12_waysOfDelete_177 rfl rfl ?_
                    refine sv_goto hM dX12_waysOfDelete_178 (pc' := 182) rfl ?_
                    have hb := J320 (1 : Int) (⟨by decide, by decide⟩ : sv_R (1 : Int)) h
                    exact sv_less (lv := [(0, .ref 0), (1, sv_I r7), (2, sv_I r13), (3, sv_I s26), (4, sv_I s172), (5, sv_I l5_43), (6, sv_I (r38 + r40)), (7, sv_I l7_44), (8, sv_I r171)]) (sv_Sub_cons rfl (sv_Sub_cons rfl (sv_Sub_cons rfl (sv_Sub_cons rfl (sv_Sub_cons rfl (sv_Sub_cons rfl (sv_Sub_cons rfl (sv_Sub_cons rfl (sv_Sub_cons rfl sv_Sub_nil))))))))) hb
              have h := h.2
              refine sv_iload hM dX12_waysOfDelete_142 rfl rfl ?_
              refine sv_cond_ne hM dX12_waysOfDelete_144 hl4_42 (t := 160) rfl rfl (fun hc => ?_) (fun hc => ?_)
              · have h := h.1 (hc)
                refine sv_iconst (d := (1 : Int)) hM dX12_waysOfDelete_160 rfl rfl ?_
                refine sv_goto hM dX12_waysOfDelete_161 (pc' := 165) rfl ?_
                have hb := J321 (1 : Int) (⟨by decide, by decide⟩ : sv_R (1 : Int)) h
                exact sv_less (lv := [(0, .ref 0), (1, sv_I r7), (2, sv_I r13), (3, sv_I s26), (4, sv_I l4_42), (5, sv_I l5_43), (6, sv_I (r38 + r40)), (7, sv_I l7_44), (8, sv_I r171)]) (sv_Sub_cons rfl (sv_Sub_cons rfl (sv_Sub_cons rfl (sv_Sub_cons rfl (sv_Sub_cons rfl (sv_Sub_cons rfl (sv_Sub_cons rfl (sv_Sub_cons rfl (sv_Sub_cons rfl sv_Sub_nil))))))))) hb
              · have h := h.2 (hc)
                refine sv_iload hM dX12_waysOfDelete_147 rfl rfl ?_
                refine sv_cond_eq hM dX12_waysOfDelete_149 hr171 (t := 164) rfl rfl (fun hc => ?_) (fun hc => ?_)
                · have h := h.1 (hc)
                  refine sv_iconst (d := (0 : Int)) hM dX12_waysOfDelete_164 rfl rfl ?_
                  have hb := J321 (0 : Int) (⟨by decide, by decide⟩ : sv_R (0 : Int)) h
                  exact sv_less (lv := [(0, .ref 0), (1, sv_I r7), (2, sv_I r13), (3, sv_I s26), (4, sv_I l4_42), (5, sv_I l5_43), (6, sv_I (r38 + r40)), (7, sv_I l7_44), (8, sv_I r171)]) (sv_Sub_cons rfl (sv_Sub_cons rfl (sv_Sub_cons rfl (sv_Sub_cons rfl (sv_Sub_cons rfl (sv_Sub_cons rfl (sv_Sub_cons rfl (sv_Sub_cons rfl (sv_Sub_cons rfl sv_Sub_nil))))))))) hb
                · have h := h.2 (hc)
                  refine sv_aload_n hM dX12_waysOfDelete_152 rfl rfl ?_
                  refine sv_iconst (d := (0 : Int)) hM dX12_waysOfDelete_153 rfl rfl ?_
                  obtain ⟨o322, h⟩ := h
                  refine sv_callV hM dX12_waysOfDelete_154 sm_iv_1153 (by decide) (sm_a0 _) rfl rfl (Nat.le_of_ble_eq_true rfl) sm_h242 (Nat.le_of_ble_eq_true rfl) (Nat.le_of_ble_eq_true rfl) (F' := 1) (Nat.le_of_ble_eq_true rfl) rfl (t_hasKey (0 : Int) (sv_sts (sv_sts S [1143, 1144, 5, 1011] g21) [68, 69, 70] g41) ok168 (⟨by decide, by decide⟩ : sv_R (0 : Int)) o322) (fun v S1 hq => ?_)
                  obtain ⟨r327, rfl, hr327, ok324, md325, hpo326⟩ := hq
                  obtain rfl : (sv_sts (sv_sts S [1143, 1144, 5, 1011] g21) [68, 69, 70] g41) = S1 := (funext fun j => md325 j (by intro q; cases q)).symm
                  show sv_T sm_XS sm_cs sm_L sm_sh 9 (q_waysOfDelete S) 277 157 [(0, .ref 0), (1, sv_I r7), (2, sv_I r13), (3, sv_I s26), (4, sv_I l4_42), (5, sv_I l5_43), (6, sv_I (r38 + r40)), (7, sv_I l7_44), (8, sv_I r171)] [sv_I r327] (sv_sts (sv_sts S [1143, 1144, 5, 1011] g21) [68, 69, 70] g41)
                  have h := h r327 hr327 hpo326
                  refine sv_cond_eq hM dX12_waysOfDelete_157 hr327 (t := 164) rfl rfl (fun hc => ?_) (fun hc => ?_)
                  · have h := h.1 (hc)
                    refine sv_iconst (d := (0 : Int)) hM dX12_waysOfDelete_164 rfl rfl ?_
                    have hb := J321 (0 : Int) (⟨by decide, by decide⟩ : sv_R (0 : Int)) h
                    exact sv_less (lv := [(0, .ref 0), (1, sv_I r7), (2, sv_I r13), (3, sv_I s26), (4, sv_I l4_42), (5, sv_I l5_43), (6, sv_I (r38 + r40)), (7, sv_I l7_44), (8, sv_I r171)]) (sv_Sub_cons rfl (sv_Sub_cons rfl (sv_Sub_cons rfl (sv_Sub_cons rfl (sv_Sub_cons rfl (sv_Sub_cons rfl (sv_Sub_cons rfl (sv_Sub_cons rfl (sv_Sub_cons rfl sv_Sub_nil))))))))) hb
                  · have h := h.2 (hc)
                    refine sv_iconst (d := (1 : Int)) hM dX12_waysOfDelete_160 rfl rfl ?_
                    refine sv_goto hM dX12_waysOfDelete_161 (pc' := 165) rfl ?_
                    have hb := J321 (1 : Int) (⟨by decide, by decide⟩ : sv_R (1 : Int)) h
                    exact sv_less (lv := [(0, .ref 0), (1, sv_I r7), (2, sv_I r13), (3, sv_I s26), (4, sv_I l4_42), (5, sv_I l5_43), (6, sv_I (r38 + r40)), (7, sv_I l7_44), (8, sv_I r171)]) (sv_Sub_cons rfl (sv_Sub_cons rfl (sv_Sub_cons rfl (sv_Sub_cons rfl (sv_Sub_cons rfl (sv_Sub_cons rfl (sv_Sub_cons rfl (sv_Sub_cons rfl (sv_Sub_cons rfl sv_Sub_nil))))))))) hb
            · have h := h.2 (hc)
              refine sv_goto hM dX12_waysOfDelete_131 (pc' := 323) rfl ?_
              refine sv_iinc (d := (1 : Int)) hM dX12_waysOfDelete_323 rfl (by decide) rfl rfl ?_
              show sv_T sm_XS sm_cs sm_L sm_sh 9 (q_waysOfDelete S) 277 326 [(0, .ref 0), (1, sv_I r7), (2, sv_I r13), (3, sv_I s26), (4, sv_I l4_42), (5, sv_I l5_43), (6, sv_I (r38 + r40)), (7, sv_I (l7_44 + (1 : Int)))] [] (sv_sts (sv_sts S [1143, 1144, 5, 1011] g21) [68, 69, 70] g41)
              refine sv_goto hM dX12_waysOfDelete_326 (pc' := 102) rfl ?_
              obtain ⟨o328, h⟩ := h
              have eS := sv_mod.eq md49
              have hb := ih45 (l4_42, l5_43, (l7_44 + (1 : Int)), (sv_sts (sv_sts S [1143, 1144, 5, 1011] g21) [68, 69, 70] g41)) ⟨hl4_42, hl5_43, o328, (by rw [← eS]; exact ok162), h.1⟩ h.2
              have hb : sv_T sm_XS sm_cs sm_L sm_sh 9 (q_waysOfDelete S) 277 102 [(0, .ref 0), (1, sv_I r7), (2, sv_I r13), (3, sv_I s26), (4, sv_I l4_42), (5, sv_I l5_43), (6, sv_I (r38 + r40)), (7, sv_I (l7_44 + (1 : Int)))] [] (sv_sts (sv_sts S [1143, 1144, 5, 1011] g21) [68, 69, 70] g41) := Eq.mpr (congrArg (fun Z => sv_T sm_XS sm_cs sm_L sm_sh 9 (q_waysOfDelete S) 277 102 [(0, .ref 0), (1, sv_I r7), (2, sv_I r13), (3, sv_I s26), (4, sv_I l4_42), (5, sv_I l5_43), (6, sv_I (r38 + r40)), (7, sv_I (l7_44 + (1 : Int)))] [] Z) eS) hb
              exact sv_less (lv := [(0, .ref 0), (1, sv_I r7), (2, sv_I r13), (3, sv_I s26), (4, sv_I l4_42), (5, sv_I l5_43), (6, sv_I (r38 + r40)), (7, sv_I (l7_44 + (1 : Int)))]) (sv_Sub_cons rfl (sv_Sub_cons rfl (sv_Sub_cons rfl (sv_Sub_cons rfl (sv_Sub_cons rfl (sv_Sub_cons rfl (sv_Sub_cons rfl (sv_Sub_cons rfl sv_Sub_nil)))))))) hb
        have eS := sv_mod.eq (sv_mod.rf (l := [68, 69, 70]) (S := (sv_sts S [1143, 1144, 5, 1011] g21)))
        have hb := hJ ((0 : Int), s35, (0 : Int), (sv_sts S [1143, 1144, 5, 1011] g21)) ⟨(⟨by decide, by decide⟩ : sv_R (0 : Int)), hs35, (⟨by decide, by decide⟩ : sv_R (0 : Int)), (by rw [← eS]; exact ok22), hin46⟩
        have hb : sv_T sm_XS sm_cs sm_L sm_sh 9 (q_waysOfDelete S) 277 102 [(0, .ref 0), (1, sv_I r7), (2, sv_I r13), (3, sv_I s26), (4, sv_I (0 : Int)), (5, sv_I s35), (6, sv_I (r38 + r40)), (7, sv_I (0 : Int))] [] (sv_sts S [1143, 1144, 5, 1011] g21) := Eq.mpr (congrArg (fun Z => sv_T sm_XS sm_cs sm_L sm_sh 9 (q_waysOfDelete S) 277 102 [(0, .ref 0), (1, sv_I r7), (2, sv_I r13), (3, sv_I s26), (4, sv_I (0 : Int)), (5, sv_I s35), (6, sv_I (r38 + r40)), (7, sv_I (0 : Int))] [] Z) eS) hb
        exact hb
      have h := h.2
      refine sv_iload_n hM dX12_waysOfDelete_49 rfl rfl ?_
      refine sv_cond_ne hM dX12_waysOfDelete_50 hr13 (t := 75) rfl rfl (fun hc => ?_) (fun hc => ?_)
      · have h := h.1 (hc)
        refine sv_iconst (d := (0 : Int)) hM dX12_waysOfDelete_75 rfl rfl ?_
        have hb := J329 (0 : Int) (⟨by decide, by decide⟩ : sv_R (0 : Int)) h
        exact sv_less (lv := [(0, .ref 0), (1, sv_I r7), (2, sv_I r13), (3, sv_I s26), (4, sv_I (0 : Int))]) (sv_Sub_cons rfl (sv_Sub_cons rfl (sv_Sub_cons rfl (sv_Sub_cons rfl (sv_Sub_cons rfl sv_Sub_nil))))) hb
      · have h := h.2 (hc)
        refine sv_aload_n hM dX12_waysOfDelete_53 rfl rfl ?_
        have k330 : sv_RL (g21 1143 0) := sm_okJ ok22 sm_r1143 0
        have h := h k330
        refine sv_getL hM dX12_waysOfDelete_54 sm_fl_1118 (sm_a0 _) sm_k143 rfl (x := (g21 1143 0)) rfl ?_
        refine sv_lconst (d := (1 : Int)) hM dX12_waysOfDelete_57 rfl rfl ?_
        refine sv_lcmp hM dX12_waysOfDelete_58 k330 (⟨by decide, by decide⟩ : sv_RL (1 : Int)) rfl ?_
        refine sv_cond_ne hM dX12_waysOfDelete_59 sv_Rcmp (t := 75) rfl rfl (fun hc => ?_) (fun hc => ?_)
        · have h := h.1 ((sv_cmp_ne).mp hc)
          refine sv_iconst (d := (0 : Int)) hM dX12_waysOfDelete_75 rfl rfl ?_
          have hb := J329 (0 : Int) (⟨by decide, by decide⟩ : sv_R (0 : Int)) h
          exact sv_less (lv := [(0, .ref 0), (1, sv_I r7), (2, sv_I r13), (3, sv_I s26), (4, sv_I (0 : Int))]) (sv_Sub_cons rfl (sv_Sub_cons rfl (sv_Sub_cons rfl (sv_Sub_cons rfl (sv_Sub_cons rfl sv_Sub_nil))))) hb
        · have h := h.2 (fun q => hc ((sv_cmp_ne).mpr q))
          refine sv_aload_n hM dX12_waysOfDelete_62 rfl rfl ?_
          have k331 : sv_RL (g21 1144 0) := sm_okJ ok22 sm_r1144 0
          have h := h k331
          refine sv_getL hM dX12_waysOfDelete_63 sm_fl_1122 (sm_a0 _) sm_k144 rfl (x := (g21 1144 0)) rfl ?_
          refine sv_lconst (d := (0 : Int)) hM dX12_waysOfDelete_66 rfl rfl ?_
          refine sv_lcmp hM dX12_waysOfDelete_67 k331 (⟨by decide, by decide⟩ : sv_RL (0 : Int)) rfl ?_
          refine sv_cond_ne hM dX12_waysOfDelete_68 sv_Rcmp (t := 75) rfl rfl (fun hc => ?_) (fun hc => ?_)
          · have h := h.1 ((sv_cmp_ne).mp hc)
            refine sv_iconst (d := (0 : Int)) hM dX12_waysOfDelete_75 rfl rfl ?_
            have hb := J329 (0 : Int) (⟨by decide, by decide⟩ : sv_R (0 : Int)) h
            exact sv_less (lv := [(0, .ref 0), (1, sv_I r7), (2, sv_I r13), (3, sv_I s26), (4, sv_I (0 : Int))]) (sv_Sub_cons rfl (sv_Sub_cons rfl (sv_Sub_cons rfl (sv_Sub_cons rfl (sv_Sub_cons rfl sv_Sub_nil))))) hb
          · have h := h.2 (fun q => hc ((sv_cmp_ne).mpr q))
            refine sv_iconst (d := (1 : Int)) hM dX12_waysOfDelete_71 rfl rfl ?_
            refine sv_goto hM dX12_waysOfDelete_72 (pc' := 76) rfl ?_
            have hb := J329 (1 : Int) (⟨by decide, by decide⟩ : sv_R (1 : Int)) h
            exact sv_less (lv := [(0, .ref 0), (1, sv_I r7), (2, sv_I r13), (3, sv_I s26), (4, sv_I (0 : Int))]) (sv_Sub_cons rfl (sv_Sub_cons rfl (sv_Sub_cons rfl (sv_Sub_cons rfl (sv_Sub_cons rfl sv_Sub_nil))))) hb
  have h := h.2
  refine sv_iload_n hM dX12_waysOfDelete_21 rfl rfl ?_
  refine sv_bipush (d := (-4 : Int)) hM dX12_waysOfDelete_22 rfl rfl ?_
  refine sv_anyI hM dX12_waysOfDelete_24 rfl rfl (fun r333 hr333 _ => ?_)
  have h := h r333 hr333
  refine sv_cond_ne hM dX12_waysOfDelete_25 hr333 (t := 36) rfl rfl (fun hc => ?_) (fun hc => ?_)
  · have h := h.1 (hc)
    refine sv_iconst (d := (1 : Int)) hM dX12_waysOfDelete_36 rfl rfl ?_
    refine sv_goto hM dX12_waysOfDelete_37 (pc' := 41) rfl ?_
    have hb := J332 (1 : Int) (⟨by decide, by decide⟩ : sv_R (1 : Int)) h
    exact sv_less (lv := [(0, .ref 0), (1, sv_I r7), (2, sv_I r13)]) (sv_Sub_cons rfl (sv_Sub_cons rfl (sv_Sub_cons rfl sv_Sub_nil))) hb
  · have h := h.2 (hc)
    refine sv_aload_n hM dX12_waysOfDelete_28 rfl rfl ?_
    refine sv_iload_n hM dX12_waysOfDelete_29 rfl rfl ?_
    refine sv_callV hM dX12_waysOfDelete_30 sm_iv_1062 (by decide) (sm_a0 _) rfl rfl (Nat.le_of_ble_eq_true rfl) sm_h209 (Nat.le_of_ble_eq_true rfl) (Nat.le_of_ble_eq_true rfl) (F' := 0) (Nat.le_of_ble_eq_true rfl) rfl (t_hasLabels r7 (sv_sts S [1143, 1144, 5, 1011] g21) ok22 hr7 o8) (fun v S1 hq => ?_)
    obtain ⟨r338, rfl, hr338, ok335, md336, hpo337⟩ := hq
    obtain rfl : (sv_sts S [1143, 1144, 5, 1011] g21) = S1 := (funext fun j => md336 j (by intro q; cases q)).symm
    show sv_T sm_XS sm_cs sm_L sm_sh 9 (q_waysOfDelete S) 277 33 [(0, .ref 0), (1, sv_I r7), (2, sv_I r13)] [sv_I r338] (sv_sts S [1143, 1144, 5, 1011] g21)
    have h := h r338 hr338 hpo337
    refine sv_cond_eq hM dX12_waysOfDelete_33 hr338 (t := 40) rfl rfl (fun hc => ?_) (fun hc => ?_)
    · have h := h.1 (hc)
      refine sv_iconst (d := (0 : Int)) hM dX12_waysOfDelete_40 rfl rfl ?_
      have hb := J332 (0 : Int) (⟨by decide, by decide⟩ : sv_R (0 : Int)) h
      exact sv_less (lv := [(0, .ref 0), (1, sv_I r7), (2, sv_I r13)]) (sv_Sub_cons rfl (sv_Sub_cons rfl (sv_Sub_cons rfl sv_Sub_nil))) hb
    · have h := h.2 (hc)
      refine sv_iconst (d := (1 : Int)) hM dX12_waysOfDelete_36 rfl rfl ?_
      refine sv_goto hM dX12_waysOfDelete_37 (pc' := 41) rfl ?_
      have hb := J332 (1 : Int) (⟨by decide, by decide⟩ : sv_R (1 : Int)) h
      exact sv_less (lv := [(0, .ref 0), (1, sv_I r7), (2, sv_I r13)]) (sv_Sub_cons rfl (sv_Sub_cons rfl (sv_Sub_cons rfl sv_Sub_nil))) hb
def q_waysOfBinary (p1 : Int) (S : sv_S) : Option Value → sv_S → Prop := fun v S' => v = none ∧ sm_ok S' ∧ sv_mod [68, 69, 70, 81, 82, 83, 84, 85, 86, 71, 74, 75, 1127, 78, 79, 80, 72, 76, 77, 1143, 1144, 5, 1011, 1150, 1149, 1145, 1113, 1111, 1112, 1100031] S S' ∧ (sm_ST (S' 71) (S' 74) (S' 75) (S' 78) (S' 79) (S' 80) (S' 27) (S' 1100007) (S' 1100023) (S' 1100024) (S' 1046 0) ((S' 1046 0) + 2 * (S' 1032 0)) (S' 1127 0) ∧ 465000 ≤ (S' 1127 0) ∧ (S' 1127 0) + sm_hs (S' 71) (S' 1100007) ≤ 635000 ∧ (S' 75 639) = 647340 ∧ (∀ k : Int, (S 71 k) = 1 → (S' 71 k) = 1) ∧ sm_DR (S' 72) (S' 71) (S' 1046 0) ∧ (641 * (sm_cm (S' 71) + sm_pt (S' 68) (S' 69) (S' 70) + sm_pl (S' 81) (S' 82) (S' 83) (S' 84) (S' 85) (S' 86) + sm_ps (S' 76) (S' 77)) + sm_du (S' 72)) ≤ (641 * (sm_cm (S 71) + sm_pt (S 68) (S 69) (S 70) + sm_pl (S 81) (S 82) (S 83) (S 84) (S 85) (S 86) + sm_ps (S 76) (S 77)) + sm_du (S 72)))
theorem la_waysOfBinary_0 {x0 x1 x2 : Int} (h0 : x0 = 647340) (h1 : x1 = x2) (h2 : 2 ≤ x2) (h3 : x2 ≤ 396) : x0 = 647340 ∧ 0 ≤ x1 ∧ x1 ≤ 400 ∧ ((-1) : Int) ≤ 1 ∧ (1 : Int) ≤ 1000 := by omega
theorem la_waysOfBinary_1 {x0 x1 x2 : Int} (h0 : x0 = 647340) (h1 : x1 = x2) (h2 : 2 ≤ x2) (h3 : x2 ≤ 396) : x0 = 647340 ∧ 0 ≤ x1 ∧ x1 ≤ 400 ∧ ((-1) : Int) ≤ 0 ∧ (0 : Int) ≤ 1000 := by omega
theorem la_waysOfBinary_2 : (0 : Int) ≤ 647740 ∧ (647740 : Int) < 647800 := by omega
theorem la_waysOfBinary_3 : (635639 : Int) ≤ 647740 := by omega
theorem la_waysOfBinary_4 {x0 : Int} (h0 : x0 ≤ 20) (h1 : ¬ x0 = 20) : x0 < 20 := by omega
theorem la_waysOfBinary_5 {x0 : Int} (h0 : x0 < 20) : x0 ≤ 19 := by omega
theorem la_waysOfBinary_6 {x0 : Int} (h0 : x0 ≤ 19) (h1 : ¬ x0 = 19) : x0 < 19 := by omega
theorem la_waysOfBinary_7 {x0 x1 x2 x3 : Int} (h0 : 0 ≤ x0) (h1 : x0 ≤ 400) (h2 : 0 ≤ x1) (h3 : x2 = 647339 + x0 - 1) (h4 : x3 = 647339 + x0 - 0) (h5 : x1 < 19) : 0 ≤ x1 ∧ x1 ≤ 18 ∧ 0 ≤ x2 ∧ x2 < 647800 ∧ 0 ≤ x3 ∧ x3 < 647800 ∧ (635639 : Int) ≤ 647740 ∧ (647740 : Int) < 647790 := by omega
theorem la_waysOfBinary_8 {x0 x1 x2 x3 x4 x5 x6 x7 : Int} (h0 : 0 ≤ x0) (h1 : x1 = x2) (h2 : x3 = x4) (h3 : 2 ≤ x2) (h4 : x0 + 1 < x5) (h5 : x6 = x2 + (-1)) (h6 : x7 = x4) (h7 : x2 ≤ 396) : 0 ≤ x0 ∧ x0 + 1 < x5 ∧ (0 : Int) ≤ 2 ∧ 2 ≤ x1 ∧ x1 - 2 ≤ 399 ∧ (0 : Int) ≤ 647740 ∧ (647740 : Int) < 647800 ∧ x6 = x1 - 2 + 1 ∧ x7 = x3 := by omega
theorem la_waysOfBinary_9 {x0 x1 x2 x3 x4 x5 x6 x7 x8 x9 x10 x11 : Int} (h0 : x0 = x1) (h1 : x2 = x0) (h2 : 641 * (x3 + x4 + x5 + x6) + x7 ≤ 641 * (x8 + x2 + x9 + x10) + x11) : 641 * (x3 + x4 + x5 + x6) + x7 ≤ 641 * (x8 + x1 + x9 + x10) + x11 := by omega
theorem la_waysOfBinary_10 : (0 : Int) ≤ 0 := by omega
theorem la_waysOfBinary_11 (h0 : (0 : Int) ≤ 0) (h1 : ¬ (0 : Int) = 0) : (0 : Int) < 0 := by omega
theorem la_waysOfBinary_12 {x0 : Int} (h0 : (0 : Int) < 0) : 0 ≤ x0 := by omega
theorem la_waysOfBinary_13 {x0 x1 x2 : Int} (h0 : (0 : Int) < 0) : 0 ≤ x0 ∧ x0 < x1 ∧ x2 = 1 ∧ x0 = x0 ∧ (6 : Int) ≤ 6 ∧ (6 : Int) ≤ 8 := by omega
theorem la_waysOfBinary_14 {x0 : Int} (h0 : (0 : Int) < 0) : x0 = 1 := by omega
theorem la_waysOfBinary_15 {x0 x1 x2 x3 x4 x5 x6 x7 x8 x9 : Int} (h0 : (0 : Int) < 0) : 641 * (x0 + x1 + x2 + x3) + x4 ≤ 641 * (x5 + x6 + x7 + x8) + x9 := by omega
theorem la_waysOfBinary_16 {x0 : Int} (h0 : ¬ ¬ x0 = 20) : 19 ≤ x0 := by omega
theorem la_waysOfBinary_17 {x0 : Int} (h0 : 19 ≤ x0) (h1 : ¬ x0 = 19) : 19 < x0 := by omega
theorem la_waysOfBinary_18 {x0 x1 x2 : Int} (h0 : 0 ≤ x0) (h1 : x0 ≤ 400) (h2 : x1 = 647339 + x0 - 1) (h3 : x2 = 647339 + x0 - 0) : 0 ≤ x1 ∧ x1 < 647800 ∧ 0 ≤ x2 ∧ x2 < 647800 ∧ (635639 : Int) ≤ 647740 + 1 ∧ (647740 + 1 : Int) < 647790 ∧ (635639 : Int) ≤ 647740 ∧ (647740 : Int) < 647790 := by omega
theorem la_waysOfBinary_19 {x0 : Int} (h0 : x0 = 0) : ¬ x0 = 1 := by omega
theorem la_waysOfBinary_20 {x0 : Int} (h0 : x0 = 1) : 0 ≤ x0 := by omega
theorem la_waysOfBinary_21 {x0 : Int} (h0 : 0 ≤ x0) (h1 : ¬ x0 = 0) : 0 < x0 := by omega
theorem la_waysOfBinary_22 {x0 x1 : Int} (h0 : x0 + 1 < x1) : ¬ x1 ≤ x0 := by omega
theorem la_waysOfBinary_23 {x0 x1 : Int} (h0 : x0 + 1 < x1) : ¬ x1 ≤ x0 + 1 := by omega
theorem la_waysOfBinary_24 {x0 : Int} : x0 = x0 := by omega
theorem la_waysOfBinary_25 : (6 : Int) ≤ 6 := by omega
theorem la_waysOfBinary_26 : (6 : Int) ≤ 8 := by omega
theorem la_waysOfBinary_27 {x0 x1 x2 x3 x4 x5 x6 x7 x8 x9 x10 x11 x12 x13 x14 x15 x16 : Int} (h0 : x0 = x1) (h1 : x2 = x0) (h2 : 641 * (x3 + x4 + x5 + x6) + x7 ≤ 641 * (x8 + x2 + x9 + x10) + x11) (h3 : 641 * (x12 + x13 + x14 + x15) + x16 ≤ 641 * (x3 + x4 + x5 + x6) + x7) : 641 * (x12 + x13 + x14 + x15) + x16 ≤ 641 * (x8 + x1 + x9 + x10) + x11 := by omega
theorem la_waysOfBinary_28 {x0 x1 : Int} (h0 : 0 ≤ x0) (h1 : x1 = 647339 + x0 - 1) : 0 ≤ x1 := by omega
theorem la_waysOfBinary_29 {x0 x1 : Int} (h0 : x0 ≤ 400) (h1 : x1 = 647339 + x0 - 1) : x1 < 647800 := by omega
theorem la_waysOfBinary_30 {x0 : Int} (h0 : 0 ≤ x0) (h1 : x0 ≤ 11557) : 0 ≤ x0 ∧ x0 ≤ 11557 := by omega
theorem la_waysOfBinary_31 {x0 x1 : Int} (h0 : 0 ≤ x0) (h1 : x0 ≤ 400) (h2 : x1 = 647339 + x0 - 0) : 0 ≤ x1 ∧ x1 < 647800 := by omega
theorem la_waysOfBinary_32 {x0 x1 x2 x3 x4 x5 x6 x7 x8 x9 x10 : Int} (h0 : x0 = x1) (h1 : 641 * (x2 + x3 + x4 + x5) + x6 ≤ 641 * (x7 + x0 + x8 + x9) + x10) : 641 * (x2 + x3 + x4 + x5) + x6 ≤ 641 * (x7 + x1 + x8 + x9) + x10 := by omega
theorem la_waysOfBinary_33 : sv_R (647740 + 1) := by omega
theorem la_waysOfBinary_34 {x0 : Int} (h0 : 0 ≤ x0) (h1 : x0 ≤ 11557) : 0 ≤ x0 ∧ x0 ≤ 11557 ∧ (635639 : Int) ≤ 647740 + 1 ∧ (647740 + 1 : Int) < 647790 := by omega
theorem la_waysOfBinary_35 : (0 : Int) ≤ 647740 + 1 ∧ (647740 + 1 : Int) < 647800 := by omega
theorem la_waysOfBinary_36 : (635639 : Int) ≤ 647740 ∧ (647740 : Int) < 647790 := by omega
theorem la_waysOfBinary_37 {x0 x1 x2 x3 x4 x5 x6 x7 x8 x9 x10 x11 x12 : Int} (h0 : x0 = x1) (h1 : x2 = x0) (h2 : x3 = x2) (h3 : 641 * (x4 + x5 + x6 + x7) + x8 ≤ 641 * (x9 + x3 + x10 + x11) + x12) : 641 * (x4 + x5 + x6 + x7) + x8 ≤ 641 * (x9 + x1 + x10 + x11) + x12 := by omega
theorem la_waysOfBinary_38 {x0 : Int} (h0 : ¬ ¬ x0 = 0) : ¬ x0 = 1 := by omega
theorem la_waysOfBinary_39 {x0 x1 x2 x3 x4 x5 x6 x7 x8 x9 x10 x11 x12 x13 : Int} (h0 : x0 = x1) (h1 : x2 = x0) (h2 : x3 = x2) (h3 : x4 = x3) (h4 : 641 * (x5 + x6 + x7 + x8) + x9 ≤ 641 * (x10 + x4 + x11 + x12) + x13) : 641 * (x5 + x6 + x7 + x8) + x9 ≤ 641 * (x10 + x1 + x11 + x12) + x13 := by omega
theorem la_waysOfBinary_40 {x0 x1 x2 x3 x4 x5 x6 x7 x8 x9 : Int} (h0 : (1 : Int) = 0) : 641 * (x0 + x1 + x2 + x3) + x4 ≤ 641 * (x5 + x6 + x7 + x8) + x9 := by omega
theorem la_waysOfBinary_41 : (0 : Int) ≤ 1 := by omega
theorem la_waysOfBinary_42 (h0 : (0 : Int) ≤ 1) (h1 : ¬ (1 : Int) = 0) : (0 : Int) < 1 := by omega
theorem la_waysOfBinary_43 {x0 x1 x2 x3 x4 x5 x6 x7 x8 x9 x10 x11 x12 x13 x14 x15 : Int} (h0 : x0 = x1) (h1 : 641 * (x2 + x3 + x4 + x5) + x6 ≤ 641 * (x7 + x0 + x8 + x9) + x10) (h2 : 641 * (x11 + x12 + x13 + x14) + x15 ≤ 641 * (x2 + x3 + x4 + x5) + x6) : 641 * (x11 + x12 + x13 + x14) + x15 ≤ 641 * (x7 + x1 + x8 + x9) + x10 := by omega
theorem la_waysOfBinary_44 {x0 x1 x2 x3 x4 x5 x6 x7 x8 x9 x10 x11 x12 x13 x14 x15 x16 x17 : Int} (h0 : x0 = x1) (h1 : x2 = x0) (h2 : x3 = x2) (h3 : 641 * (x4 + x5 + x6 + x7) + x8 ≤ 641 * (x9 + x3 + x10 + x11) + x12) (h4 : 641 * (x13 + x14 + x15 + x16) + x17 ≤ 641 * (x4 + x5 + x6 + x7) + x8) : 641 * (x13 + x14 + x15 + x16) + x17 ≤ 641 * (x9 + x1 + x10 + x11) + x12 := by omega
theorem la_waysOfBinary_45 {x0 x1 x2 x3 x4 x5 x6 x7 x8 x9 x10 x11 x12 x13 x14 x15 x16 x17 x18 : Int} (h0 : x0 = x1) (h1 : x2 = x0) (h2 : x3 = x2) (h3 : x4 = x3) (h4 : 641 * (x5 + x6 + x7 + x8) + x9 ≤ 641 * (x10 + x4 + x11 + x12) + x13) (h5 : 641 * (x14 + x15 + x16 + x17) + x18 ≤ 641 * (x5 + x6 + x7 + x8) + x9) : 641 * (x14 + x15 + x16 + x17) + x18 ≤ 641 * (x10 + x1 + x11 + x12) + x13 := by omega
set_option maxHeartbeats 2000000 in
theorem f_waysOfBinary : ∀ (p1 : Int) (S : sv_S), sm_ok S → sv_R p1 → (29 ≤ (S 1071 0) ∧ (S 1071 0) ≤ 127 ∧ 31 ≤ (S 1008 0) ∧ (S 1008 0) ≤ 90 ∧ 1 ≤ (S 1032 0) ∧ (S 1032 0) ≤ 11 ∧ 0 ≤ (S 1055 0) ∧ (S 1055 0) ≤ 19 ∧ (S 1071 0) = 29 + 6 * ((S 1032 0) - 1) + 2 * (S 1055 0) ∧ 0 ≤ (S 1046 0) ∧ (S 1046 0) + 2 * (S 1032 0) ≤ 500 ∧ sm_PD (S 1046 0) (S 1032 0) (S 1071 0) (S 1008 0) ∧ 0 ≤ (S 1071 0) * ((S 1008 0) + 1) ∧ (S 1071 0) * ((S 1008 0) + 1) ≤ 11557 ∧ 31 ≤ (S 1007 0) ∧ (S 1007 0) ≤ 400 ∧ sm_LN (S 4) 400 (S 1007 0) ∧ (S 75 639) = 647340 ∧ sm_ST (S 71) (S 74) (S 75) (S 78) (S 79) (S 80) (S 27) (S 1100007) (S 1100023) (S 1100024) (S 1046 0) ((S 1046 0) + 2 * (S 1032 0)) (S 1127 0) ∧ 465000 ≤ (S 1127 0) ∧ (S 1127 0) + sm_hs (S 71) (S 1100007) ≤ 635000 ∧ sm_NH (S 1100007) ∧ sm_CT (S 26) (S 27) (S 28) (S 29) (S 1100007) (S 1100023) (S 1100024) (S 1100025) (S 21) (S 1046 0) (S 1032 0) (S 1008 0) (S 1055 0) ∧ (∀ k : Int, (S 1046 0) ≤ k → k < ((S 1046 0) + 2 * (S 1032 0)) → (S 1100007 k) = 1) ∧ sm_DR (S 72) (S 71) (S 1046 0) ∧ 0 ≤ (S 74 639) ∧ (S 74 639) ≤ 400 ∧ 0 ≤ (S 78 639) ∧ (S 78 639) ≤ 40 ∧ (S 78 639) = sm_dp (S 1100024) (S 1100031 0) ∧ -1 ≤ (S 1100031 0) ∧ (S 1100031 0) < (S 1046 0) ∧ (0 ≤ (S 1100031 0) → (S 26 (S 1100031 0)) = 27) ∧ sm_TC (S 79) (S 80) (S 27) (S 1100007) (S 1100023) (S 1100024) 25560 (S 1100031 0) ∧ 0 ≤ (S 1148 0) ∧ (S 1148 0) < (S 1046 0) ∧ (S 71 (S 1148 0)) = 1 ∧ (S 74 639) = (S 1100007 (S 1148 0)) ∧ (S 1100031 0) = (S 1100023 (S 1148 0)) ∧ 2 ≤ (S 1100007 (S 1148 0)) ∧ 0 ≤ p1 ∧ p1 ≤ 20 ∧ (S 1148 0) + 1 < (S 1046 0) ∧ (S 1100007 ((S 1148 0) + 1)) = (S 1100007 (S 1148 0)) + (-1) ∧ (S 1100023 ((S 1148 0) + 1)) = (S 1100023 (S 1148 0))) → ((sm_CT (S 26) (S 27) (S 28) (S 29) (S 1100007) (S 1100023) (S 1100024) (S 1100025) (S 21) (S 1046 0) (S 1032 0) (S 1008 0) (S 1055 0) → 0 ≤ (S 1148 0) → (S 1148 0) < (S 1046 0) → 0 ≤ (S 1100007 (S 1148 0)) ∧ (S 1100007 (S 1148 0)) ≤ 396 ∧ -1 ≤ (S 1100023 (S 1148 0)) ∧ (S 1100023 (S 1148 0)) < (S 1148 0)) → ((S 75 639) = 647340 ∧ 0 ≤ (S 74 639) ∧ (S 74 639) ≤ 400 ∧ -1 ≤ (1 : Int) ∧ (1 : Int) ≤ 1000) ∧ (∀ r7 : Int, sv_R r7 → (r7 = 647339 + (S 74 639) - (1 : Int)) → ((S 75 639) = 647340 ∧ 0 ≤ (S 74 639) ∧ (S 74 639) ≤ 400 ∧ -1 ≤ (0 : Int) ∧ (0 : Int) ≤ 1000) ∧ (∀ r13 : Int, sv_R r13 → (r13 = 647339 + (S 74 639) - (0 : Int)) → (0 ≤ (647740 : Int) ∧ (647740 : Int) < 647800) ∧ (∀ g15 : sv_S, (635639 ≤ (647740 : Int) → sm_pt (g15 68) (g15 69) (g15 70) = sm_pt (S 68) (S 69) (S 70)) → (((¬ p1 = (19 : Int)) → (((¬ p1 = (20 : Int)) → (29 ≤ (S 1071 0) ∧ (S 1071 0) ≤ 127 ∧ 31 ≤ (S 1008 0) ∧ (S 1008 0) ≤ 90 ∧ 1 ≤ (S 1032 0) ∧ (S 1032 0) ≤ 11 ∧ 0 ≤ (S 1055 0) ∧ (S 1055 0) ≤ 19 ∧ (S 1071 0) = 29 + 6 * ((S 1032 0) - 1) + 2 * (S 1055 0) ∧ 0 ≤ (S 1046 0) ∧ (S 1046 0) + 2 * (S 1032 0) ≤ 500 ∧ sm_PD (S 1046 0) (S 1032 0) (S 1071 0) (S 1008 0) ∧ 0 ≤ (S 1071 0) * ((S 1008 0) + 1) ∧ (S 1071 0) * ((S 1008 0) + 1) ≤ 11557 ∧ 31 ≤ (S 1007 0) ∧ (S 1007 0) ≤ 400 ∧ sm_LN (S 4) 400 (S 1007 0) ∧ 0 ≤ p1 ∧ p1 ≤ 18 ∧ 0 ≤ r7 ∧ r7 < 647800 ∧ 0 ≤ r13 ∧ r13 < 647800 ∧ 635639 ≤ (647740 : Int) ∧ (647740 : Int) < 647790) ∧ (∀ g21 : sv_S, (sm_pt (g21 68) (g21 69) (g21 70) = sm_pt (g15 68) (g15 69) (g15 70)) → (29 ≤ (S 1071 0) ∧ (S 1071 0) ≤ 127 ∧ 31 ≤ (S 1008 0) ∧ (S 1008 0) ≤ 90 ∧ 1 ≤ (S 1032 0) ∧ (S 1032 0) ≤ 11 ∧ 0 ≤ (S 1055 0) ∧ (S 1055 0) ≤ 19 ∧ (S 1071 0) = 29 + 6 * ((S 1032 0) - 1) + 2 * (S 1055 0) ∧ 0 ≤ (S 1046 0) ∧ (S 1046 0) + 2 * (S 1032 0) ≤ 500 ∧ sm_PD (S 1046 0) (S 1032 0) (S 1071 0) (S 1008 0) ∧ 0 ≤ (S 1071 0) * ((S 1008 0) + 1) ∧ (S 1071 0) * ((S 1008 0) + 1) ≤ 11557 ∧ 31 ≤ (S 1007 0) ∧ (S 1007 0) ≤ 400 ∧ sm_LN (S 4) 400 (S 1007 0) ∧ (S 75 639) = 647340 ∧ sm_ST (S 71) (S 74) (S 75) (S 78) (S 79) (S 80) (S 27) (S 1100007) (S 1100023) (S 1100024) (S 1046 0) ((S 1046 0) + 2 * (S 1032 0)) (S 1127 0) ∧ 465000 ≤ (S 1127 0) ∧ (S 1127 0) + sm_hs (S 71) (S 1100007) ≤ 635000 ∧ sm_NH (S 1100007) ∧ sm_CT (S 26) (S 27) (S 28) (S 29) (S 1100007) (S 1100023) (S 1100024) (S 1100025) (S 21) (S 1046 0) (S 1032 0) (S 1008 0) (S 1055 0) ∧ (∀ k : Int, (S 1046 0) ≤ k → k < ((S 1046 0) + 2 * (S 1032 0)) → (S 1100007 k) = 1) ∧ sm_DR (S 72) (S 71) (S 1046 0) ∧ 0 ≤ (S 74 639) ∧ (S 74 639) ≤ 400 ∧ 0 ≤ (S 78 639) ∧ (S 78 639) ≤ 40 ∧ (S 78 639) = sm_dp (S 1100024) (S 1100031 0) ∧ -1 ≤ (S 1100031 0) ∧ (S 1100031 0) < (S 1046 0) ∧ (0 ≤ (S 1100031 0) → (S 26 (S 1100031 0)) = 27) ∧ sm_TC (S 79) (S 80) (S 27) (S 1100007) (S 1100023) (S 1100024) 25560 (S 1100031 0) ∧ 0 ≤ (S 1148 0) ∧ (S 1148 0) + 1 < (S 1046 0) ∧ 0 ≤ (2 : Int) ∧ (2 : Int) ≤ (S 74 639) ∧ (S 74 639) - (2 : Int) ≤ 399 ∧ 0 ≤ (647740 : Int) ∧ (647740 : Int) < 647800 ∧ (S 1100007 ((S 1148 0) + 1)) = (S 74 639) - (2 : Int) + 1 ∧ (S 1100023 ((S 1148 0) + 1)) = (S 1100031 0)) ∧ (∀ g27 : sv_S, (sm_ST (g27 71) (g27 74) (g27 75) (g27 78) (g27 79) (g27 80) (S 27) (S 1100007) (S 1100023) (S 1100024) (S 1046 0) ((S 1046 0) + 2 * (S 1032 0)) (g27 1127 0) ∧ 465000 ≤ (g27 1127 0) ∧ (g27 1127 0) + sm_hs (g27 71) (S 1100007) ≤ 635000 ∧ (g27 75 639) = 647340 ∧ (∀ k : Int, (S 71 k) = 1 → (g27 71 k) = 1) ∧ sm_DR (g27 72) (g27 71) (S 1046 0) ∧ (641 * (sm_cm (g27 71) + sm_pt (g27 68) (g27 69) (g27 70) + sm_pl (g27 81) (g27 82) (g27 83) (g27 84) (g27 85) (g27 86) + sm_ps (g27 76) (g27 77)) + sm_du (g27 72)) ≤ (641 * (sm_cm (S 71) + sm_pt (g21 68) (g21 69) (g21 70) + sm_pl (S 81) (S 82) (S 83) (S 84) (S 85) (S 86) + sm_ps (S 76) (S 77)) + sm_du (S 72))) → ((((0 : Int) = (0 : Int)) → (sm_ST (g27 71) (g27 74) (g27 75) (g27 78) (g27 79) (g27 80) (S 27) (S 1100007) (S 1100023) (S 1100024) (S 1046 0) ((S 1046 0) + 2 * (S 1032 0)) (g27 1127 0) ∧ 465000 ≤ (g27 1127 0) ∧ (g27 1127 0) + sm_hs (g27 71) (S 1100007) ≤ 635000 ∧ (g27 75 639) = 647340 ∧ (∀ k : Int, (S 71 k) = 1 → (g27 71 k) = 1) ∧ sm_DR (g27 72) (g27 71) (S 1046 0) ∧ (641 * (sm_cm (g27 71) + sm_pt (g27 68) (g27 69) (g27 70) + sm_pl (g27 81) (g27 82) (g27 83) (g27 84) (g27 85) (g27 86) + sm_ps (g27 76) (g27 77)) + sm_du (g27 72)) ≤ (641 * (sm_cm (S 71) + sm_pt (S 68) (S 69) (S 70) + sm_pl (S 81) (S 82) (S 83) (S 84) (S 85) (S 86) + sm_ps (S 76) (S 77)) + sm_du (S 72)))) ∧ ((¬ ((0 : Int) = (0 : Int))) → (sv_R (S 1148 0) → (29 ≤ (S 1071 0) ∧ (S 1071 0) ≤ 127 ∧ 31 ≤ (S 1008 0) ∧ (S 1008 0) ≤ 90 ∧ 1 ≤ (S 1032 0) ∧ (S 1032 0) ≤ 11 ∧ 0 ≤ (S 1055 0) ∧ (S 1055 0) ≤ 19 ∧ (S 1071 0) = 29 + 6 * ((S 1032 0) - 1) + 2 * (S 1055 0) ∧ 0 ≤ (S 1046 0) ∧ (S 1046 0) + 2 * (S 1032 0) ≤ 500 ∧ sm_PD (S 1046 0) (S 1032 0) (S 1071 0) (S 1008 0) ∧ 0 ≤ (S 1071 0) * ((S 1008 0) + 1) ∧ (S 1071 0) * ((S 1008 0) + 1) ≤ 11557 ∧ 31 ≤ (S 1007 0) ∧ (S 1007 0) ≤ 400 ∧ sm_LN (S 4) 400 (S 1007 0) ∧ (g27 75 639) = 647340 ∧ sm_ST (g27 71) (g27 74) (g27 75) (g27 78) (g27 79) (g27 80) (S 27) (S 1100007) (S 1100023) (S 1100024) (S 1046 0) ((S 1046 0) + 2 * (S 1032 0)) (g27 1127 0) ∧ 465000 ≤ (g27 1127 0) ∧ (g27 1127 0) + sm_hs (g27 71) (S 1100007) ≤ 635000 ∧ sm_NH (S 1100007) ∧ sm_CT (S 26) (S 27) (S 28) (S 29) (S 1100007) (S 1100023) (S 1100024) (S 1100025) (S 21) (S 1046 0) (S 1032 0) (S 1008 0) (S 1055 0) ∧ (∀ k : Int, (S 1046 0) ≤ k → k < ((S 1046 0) + 2 * (S 1032 0)) → (S 1100007 k) = 1) ∧ sm_DR (g27 72) (g27 71) (S 1046 0) ∧ 0 ≤ (S 1148 0) ∧ (S 1148 0) < (S 1046 0) ∧ (g27 71 (S 1148 0)) = 1 ∧ (S 1148 0) = (S 1148 0) ∧ 6 ≤ (6 : Int) ∧ (6 : Int) ≤ 8) ∧ (∀ g34 : sv_S, (sm_ST (g34 71) (g34 74) (g34 75) (g34 78) (g34 79) (g34 80) (S 27) (S 1100007) (S 1100023) (S 1100024) (S 1046 0) ((S 1046 0) + 2 * (S 1032 0)) (g34 1127 0) ∧ 465000 ≤ (g34 1127 0) ∧ (g34 1127 0) + sm_hs (g34 71) (S 1100007) ≤ 635000 ∧ (g34 75 639) = 647340 ∧ (∀ k : Int, (g27 71 k) = 1 → (g34 71 k) = 1) ∧ sm_DR (g34 72) (g34 71) (S 1046 0) ∧ (641 * (sm_cm (g34 71) + sm_pt (g34 68) (g34 69) (g34 70) + sm_pl (g34 81) (g34 82) (g34 83) (g34 84) (g34 85) (g34 86) + sm_ps (g34 76) (g34 77)) + sm_du (g34 72)) ≤ (641 * (sm_cm (g27 71) + sm_pt (g27 68) (g27 69) (g27 70) + sm_pl (g27 81) (g27 82) (g27 83) (g27 84) (g27 85) (g27 86) + sm_ps (g27 76) (g27 77)) + sm_du (g27 72))) → (sm_ST (g34 71) (g34 74) (g34 75) (g34 78) (g34 79) (g34 80) (S 27) (S 1100007) (S 1100023) (S 1100024) (S 1046 0) ((S 1046 0) + 2 * (S 1032 0)) (g34 1127 0) ∧ 465000 ≤ (g34 1127 0) ∧ (g34 1127 0) + sm_hs (g34 71) (S 1100007) ≤ 635000 ∧ (g34 75 639) = 647340 ∧ (∀ k : Int, (S 71 k) = 1 → (g34 71 k) = 1) ∧ sm_DR (g34 72) (g34 71) (S 1046 0) ∧ (641 * (sm_cm (g34 71) + sm_pt (g34 68) (g34 69) (g34 70) + sm_pl (g34 81) (g34 82) (g34 83) (g34 84) (g34 85) (g34 86) + sm_ps (g34 76) (g34 77)) + sm_du (g34 72)) ≤ (641 * (sm_cm (S 71) + sm_pt (S 68) (S 69) (S 70) + sm_pl (S 81) (S 82) (S 83) (S 84) (S 85) (S 86) + sm_ps (S 76) (S 77)) + sm_du (S 72)))))))))) ∧ ((¬ (¬ p1 = (20 : Int))) → (29 ≤ (S 1071 0) ∧ (S 1071 0) ≤ 127 ∧ 31 ≤ (S 1008 0) ∧ (S 1008 0) ≤ 90 ∧ 1 ≤ (S 1032 0) ∧ (S 1032 0) ≤ 11 ∧ 0 ≤ (S 1055 0) ∧ (S 1055 0) ≤ 19 ∧ (S 1071 0) = 29 + 6 * ((S 1032 0) - 1) + 2 * (S 1055 0) ∧ 0 ≤ (S 1046 0) ∧ (S 1046 0) + 2 * (S 1032 0) ≤ 500 ∧ sm_PD (S 1046 0) (S 1032 0) (S 1071 0) (S 1008 0) ∧ 0 ≤ (S 1071 0) * ((S 1008 0) + 1) ∧ (S 1071 0) * ((S 1008 0) + 1) ≤ 11557 ∧ 31 ≤ (S 1007 0) ∧ (S 1007 0) ≤ 400 ∧ sm_LN (S 4) 400 (S 1007 0) ∧ 0 ≤ r7 ∧ r7 < 647800 ∧ 0 ≤ r13 ∧ r13 < 647800 ∧ 635639 ≤ (647740 : Int) + 1 ∧ (647740 : Int) + 1 < 647790 ∧ 635639 ≤ (647740 : Int) ∧ (647740 : Int) < 647790) ∧ (∀ r44 : Int, sv_R r44 → ∀ g40 : sv_S, (sm_pt (g40 68) (g40 69) (g40 70) = sm_pt (g15 68) (g15 69) (g15 70) ∧ (r44 = 0 ∨ r44 = 1)) → (29 ≤ (S 1071 0) ∧ (S 1071 0) ≤ 127 ∧ 31 ≤ (S 1008 0) ∧ (S 1008 0) ≤ 90 ∧ 1 ≤ (S 1032 0) ∧ (S 1032 0) ≤ 11 ∧ 0 ≤ (S 1055 0) ∧ (S 1055 0) ≤ 19 ∧ (S 1071 0) = 29 + 6 * ((S 1032 0) - 1) + 2 * (S 1055 0) ∧ 0 ≤ (S 1046 0) ∧ (S 1046 0) + 2 * (S 1032 0) ≤ 500 ∧ sm_PD (S 1046 0) (S 1032 0) (S 1071 0) (S 1008 0) ∧ 0 ≤ (S 1071 0) * ((S 1008 0) + 1) ∧ (S 1071 0) * ((S 1008 0) + 1) ≤ 11557 ∧ 31 ≤ (S 1007 0) ∧ (S 1007 0) ≤ 400 ∧ sm_LN (S 4) 400 (S 1007 0) ∧ (S 75 639) = 647340 ∧ sm_ST (S 71) (S 74) (S 75) (S 78) (S 79) (S 80) (S 27) (S 1100007) (S 1100023) (S 1100024) (S 1046 0) ((S 1046 0) + 2 * (S 1032 0)) (S 1127 0) ∧ 465000 ≤ (S 1127 0) ∧ (S 1127 0) + sm_hs (S 71) (S 1100007) ≤ 635000 ∧ sm_NH (S 1100007) ∧ sm_CT (S 26) (S 27) (S 28) (S 29) (S 1100007) (S 1100023) (S 1100024) (S 1100025) (S 21) (S 1046 0) (S 1032 0) (S 1008 0) (S 1055 0) ∧ (∀ k : Int, (S 1046 0) ≤ k → k < ((S 1046 0) + 2 * (S 1032 0)) → (S 1100007 k) = 1) ∧ sm_DR (S 72) (S 71) (S 1046 0) ∧ 0 ≤ (S 74 639) ∧ (S 74 639) ≤ 400 ∧ 0 ≤ (S 78 639) ∧ (S 78 639) ≤ 40 ∧ (S 78 639) = sm_dp (S 1100024) (S 1100031 0) ∧ -1 ≤ (S 1100031 0) ∧ (S 1100031 0) < (S 1046 0) ∧ (0 ≤ (S 1100031 0) → (S 26 (S 1100031 0)) = 27) ∧ sm_TC (S 79) (S 80) (S 27) (S 1100007) (S 1100023) (S 1100024) 25560 (S 1100031 0) ∧ 0 ≤ (S 1148 0) ∧ (S 1148 0) + 1 < (S 1046 0) ∧ 0 ≤ (2 : Int) ∧ (2 : Int) ≤ (S 74 639) ∧ (S 74 639) - (2 : Int) ≤ 399 ∧ 0 ≤ (647740 : Int) ∧ (647740 : Int) < 647800 ∧ (S 1100007 ((S 1148 0) + 1)) = (S 74 639) - (2 : Int) + 1 ∧ (S 1100023 ((S 1148 0) + 1)) = (S 1100031 0)) ∧ (∀ g47 : sv_S, (sm_ST (g47 71) (g47 74) (g47 75) (g47 78) (g47 79) (g47 80) (S 27) (S 1100007) (S 1100023) (S 1100024) (S 1046 0) ((S 1046 0) + 2 * (S 1032 0)) (g47 1127 0) ∧ 465000 ≤ (g47 1127 0) ∧ (g47 1127 0) + sm_hs (g47 71) (S 1100007) ≤ 635000 ∧ (g47 75 639) = 647340 ∧ (∀ k : Int, (S 71 k) = 1 → (g47 71 k) = 1) ∧ sm_DR (g47 72) (g47 71) (S 1046 0) ∧ (641 * (sm_cm (g47 71) + sm_pt (g47 68) (g47 69) (g47 70) + sm_pl (g47 81) (g47 82) (g47 83) (g47 84) (g47 85) (g47 86) + sm_ps (g47 76) (g47 77)) + sm_du (g47 72)) ≤ (641 * (sm_cm (S 71) + sm_pt (g40 68) (g40 69) (g40 70) + sm_pl (S 81) (S 82) (S 83) (S 84) (S 85) (S 86) + sm_ps (S 76) (S 77)) + sm_du (S 72))) → (((r44 = (0 : Int)) → (sm_ST (g47 71) (g47 74) (g47 75) (g47 78) (g47 79) (g47 80) (S 27) (S 1100007) (S 1100023) (S 1100024) (S 1046 0) ((S 1046 0) + 2 * (S 1032 0)) (g47 1127 0) ∧ 465000 ≤ (g47 1127 0) ∧ (g47 1127 0) + sm_hs (g47 71) (S 1100007) ≤ 635000 ∧ (g47 75 639) = 647340 ∧ (∀ k : Int, (S 71 k) = 1 → (g47 71 k) = 1) ∧ sm_DR (g47 72) (g47 71) (S 1046 0) ∧ (641 * (sm_cm (g47 71) + sm_pt (g47 68) (g47 69) (g47 70) + sm_pl (g47 81) (g47 82) (g47 83) (g47 84) (g47 85) (g47 86) + sm_ps (g47 76) (g47 77)) + sm_du (g47 72)) ≤ (641 * (sm_cm (S 71) + sm_pt (S 68) (S 69) (S 70) + sm_pl (S 81) (S 82) (S 83) (S 84) (S 85) (S 86) + sm_ps (S 76) (S 77)) + sm_du (S 72)))) ∧ ((¬ (r44 = (0 : Int))) → (sv_R (S 1148 0) → (29 ≤ (S 1071 0) ∧ (S 1071 0) ≤ 127 ∧ 31 ≤ (S 1008 0) ∧ (S 1008 0) ≤ 90 ∧ 1 ≤ (S 1032 0) ∧ (S 1032 0) ≤ 11 ∧ 0 ≤ (S 1055 0) ∧ (S 1055 0) ≤ 19 ∧ (S 1071 0) = 29 + 6 * ((S 1032 0) - 1) + 2 * (S 1055 0) ∧ 0 ≤ (S 1046 0) ∧ (S 1046 0) + 2 * (S 1032 0) ≤ 500 ∧ sm_PD (S 1046 0) (S 1032 0) (S 1071 0) (S 1008 0) ∧ 0 ≤ (S 1071 0) * ((S 1008 0) + 1) ∧ (S 1071 0) * ((S 1008 0) + 1) ≤ 11557 ∧ 31 ≤ (S 1007 0) ∧ (S 1007 0) ≤ 400 ∧ sm_LN (S 4) 400 (S 1007 0) ∧ (g47 75 639) = 647340 ∧ sm_ST (g47 71) (g47 74) (g47 75) (g47 78) (g47 79) (g47 80) (S 27) (S 1100007) (S 1100023) (S 1100024) (S 1046 0) ((S 1046 0) + 2 * (S 1032 0)) (g47 1127 0) ∧ 465000 ≤ (g47 1127 0) ∧ (g47 1127 0) + sm_hs (g47 71) (S 1100007) ≤ 635000 ∧ sm_NH (S 1100007) ∧ sm_CT (S 26) (S 27) (S 28) (S 29) (S 1100007) (S 1100023) (S 1100024) (S 1100025) (S 21) (S 1046 0) (S 1032 0) (S 1008 0) (S 1055 0) ∧ (∀ k : Int, (S 1046 0) ≤ k → k < ((S 1046 0) + 2 * (S 1032 0)) → (S 1100007 k) = 1) ∧ sm_DR (g47 72) (g47 71) (S 1046 0) ∧ 0 ≤ (S 1148 0) ∧ (S 1148 0) < (S 1046 0) ∧ (g47 71 (S 1148 0)) = 1 ∧ (S 1148 0) = (S 1148 0) ∧ 6 ≤ (6 : Int) ∧ (6 : Int) ≤ 8) ∧ (∀ g54 : sv_S, (sm_ST (g54 71) (g54 74) (g54 75) (g54 78) (g54 79) (g54 80) (S 27) (S 1100007) (S 1100023) (S 1100024) (S 1046 0) ((S 1046 0) + 2 * (S 1032 0)) (g54 1127 0) ∧ 465000 ≤ (g54 1127 0) ∧ (g54 1127 0) + sm_hs (g54 71) (S 1100007) ≤ 635000 ∧ (g54 75 639) = 647340 ∧ (∀ k : Int, (g47 71 k) = 1 → (g54 71 k) = 1) ∧ sm_DR (g54 72) (g54 71) (S 1046 0) ∧ (641 * (sm_cm (g54 71) + sm_pt (g54 68) (g54 69) (g54 70) + sm_pl (g54 81) (g54 82) (g54 83) (g54 84) (g54 85) (g54 86) + sm_ps (g54 76) (g54 77)) + sm_du (g54 72)) ≤ (641 * (sm_cm (g47 71) + sm_pt (g47 68) (g47 69) (g47 70) + sm_pl (g47 81) (g47 82) (g47 83) (g47 84) (g47 85) (g47 86) + sm_ps (g47 76) (g47 77)) + sm_du (g47 72))) → (sm_ST (g54 71) (g54 74) (g54 75) (g54 78) (g54 79) (g54 80) (S 27) (S 1100007) (S 1100023) (S 1100024) (S 1046 0) ((S 1046 0) + 2 * (S 1032 0)) (g54 1127 0) ∧ 465000 ≤ (g54 1127 0) ∧ (g54 1127 0) + sm_hs (g54 71) (S 1100007) ≤ 635000 ∧ (g54 75 639) = 647340 ∧ (∀ k : Int, (S 71 k) = 1 → (g54 71 k) = 1) ∧ sm_DR (g54 72) (g54 71) (S 1046 0) ∧ (641 * (sm_cm (g54 71) + sm_pt (g54 68) (g54 69) (g54 70) + sm_pl (g54 81) (g54 82) (g54 83) (g54 84) (g54 85) (g54 86) + sm_ps (g54 76) (g54 77)) + sm_du (g54 72)) ≤ (641 * (sm_cm (S 71) + sm_pt (S 68) (S 69) (S 70) + sm_pl (S 81) (S 82) (S 83) (S 84) (S 85) (S 86) + sm_ps (S 76) (S 77)) + sm_du (S 72)))))))))))) ∧ ((¬ (¬ p1 = (19 : Int))) → (31 ≤ (S 1007 0) ∧ (S 1007 0) ≤ 400 ∧ sm_LN (S 4) 400 (S 1007 0) ∧ 0 ≤ r7 ∧ r7 < 647800 ∧ 29 ≤ (S 1071 0) ∧ (S 1071 0) ≤ 127 ∧ 31 ≤ (S 1008 0) ∧ (S 1008 0) ≤ 90 ∧ 1 ≤ (S 1032 0) ∧ (S 1032 0) ≤ 11 ∧ 0 ≤ (S 1055 0) ∧ (S 1055 0) ≤ 19 ∧ (S 1071 0) = 29 + 6 * ((S 1032 0) - 1) + 2 * (S 1055 0) ∧ 0 ≤ (S 1046 0) ∧ (S 1046 0) + 2 * (S 1032 0) ≤ 500 ∧ sm_PD (S 1046 0) (S 1032 0) (S 1071 0) (S 1008 0) ∧ 0 ≤ (S 1071 0) * ((S 1008 0) + 1) ∧ (S 1071 0) * ((S 1008 0) + 1) ≤ 11557) ∧ (∀ g60 : sv_S, (True) → (0 ≤ r13 ∧ r13 < 647800) ∧ (∀ r70 : Int, sv_R r70 → (sm_iand ((g15 68 r13) % 1024) (-513) = r70) → (((r70 = (0 : Int)) → (∀ r75 : Int, sv_R r75 → (r75 = 0 ∨ r75 = 1) → (((r75 = (0 : Int)) → (29 ≤ (S 1071 0) ∧ (S 1071 0) ≤ 127 ∧ 31 ≤ (S 1008 0) ∧ (S 1008 0) ≤ 90 ∧ 1 ≤ (S 1032 0) ∧ (S 1032 0) ≤ 11 ∧ 0 ≤ (S 1055 0) ∧ (S 1055 0) ≤ 19 ∧ (S 1071 0) = 29 + 6 * ((S 1032 0) - 1) + 2 * (S 1055 0) ∧ 0 ≤ (S 1046 0) ∧ (S 1046 0) + 2 * (S 1032 0) ≤ 500 ∧ sm_PD (S 1046 0) (S 1032 0) (S 1071 0) (S 1008 0) ∧ 0 ≤ (S 1071 0) * ((S 1008 0) + 1) ∧ (S 1071 0) * ((S 1008 0) + 1) ≤ 11557 ∧ 31 ≤ (S 1007 0) ∧ (S 1007 0) ≤ 400 ∧ sm_LN (S 4) 400 (S 1007 0) ∧ (S 75 639) = 647340 ∧ sm_ST (S 71) (S 74) (S 75) (S 78) (S 79) (S 80) (S 27) (S 1100007) (S 1100023) (S 1100024) (S 1046 0) ((S 1046 0) + 2 * (S 1032 0)) (S 1127 0) ∧ 465000 ≤ (S 1127 0) ∧ (S 1127 0) + sm_hs (S 71) (S 1100007) ≤ 635000 ∧ sm_NH (S 1100007) ∧ sm_CT (S 26) (S 27) (S 28) (S 29) (S 1100007) (S 1100023) (S 1100024) (S 1100025) (S 21) (S 1046 0) (S 1032 0) (S 1008 0) (S 1055 0) ∧ (∀ k : Int, (S 1046 0) ≤ k → k < ((S 1046 0) + 2 * (S 1032 0)) → (S 1100007 k) = 1) ∧ sm_DR (S 72) (S 71) (S 1046 0) ∧ 0 ≤ (S 74 639) ∧ (S 74 639) ≤ 400 ∧ 0 ≤ (S 78 639) ∧ (S 78 639) ≤ 40 ∧ (S 78 639) = sm_dp (S 1100024) (S 1100031 0) ∧ -1 ≤ (S 1100031 0) ∧ (S 1100031 0) < (S 1046 0) ∧ (0 ≤ (S 1100031 0) → (S 26 (S 1100031 0)) = 27) ∧ sm_TC (S 79) (S 80) (S 27) (S 1100007) (S 1100023) (S 1100024) 25560 (S 1100031 0) ∧ 0 ≤ (S 1148 0) ∧ (S 1148 0) + 1 < (S 1046 0) ∧ 0 ≤ (2 : Int) ∧ (2 : Int) ≤ (S 74 639) ∧ (S 74 639) - (2 : Int) ≤ 399 ∧ 0 ≤ (647740 : Int) ∧ (647740 : Int) < 647800 ∧ (S 1100007 ((S 1148 0) + 1)) = (S 74 639) - (2 : Int) + 1 ∧ (S 1100023 ((S 1148 0) + 1)) = (S 1100031 0)) ∧ (∀ g77 : sv_S, (sm_ST (g77 71) (g77 74) (g77 75) (g77 78) (g77 79) (g77 80) (S 27) (S 1100007) (S 1100023) (S 1100024) (S 1046 0) ((S 1046 0) + 2 * (S 1032 0)) (g77 1127 0) ∧ 465000 ≤ (g77 1127 0) ∧ (g77 1127 0) + sm_hs (g77 71) (S 1100007) ≤ 635000 ∧ (g77 75 639) = 647340 ∧ (∀ k : Int, (S 71 k) = 1 → (g77 71 k) = 1) ∧ sm_DR (g77 72) (g77 71) (S 1046 0) ∧ (641 * (sm_cm (g77 71) + sm_pt (g77 68) (g77 69) (g77 70) + sm_pl (g77 81) (g77 82) (g77 83) (g77 84) (g77 85) (g77 86) + sm_ps (g77 76) (g77 77)) + sm_du (g77 72)) ≤ (641 * (sm_cm (S 71) + sm_pt (g15 68) (g15 69) (g15 70) + sm_pl (S 81) (S 82) (S 83) (S 84) (S 85) (S 86) + sm_ps (S 76) (S 77)) + sm_du (S 72))) → ((((0 : Int) = (0 : Int)) → (sm_ST (g77 71) (g77 74) (g77 75) (g77 78) (g77 79) (g77 80) (S 27) (S 1100007) (S 1100023) (S 1100024) (S 1046 0) ((S 1046 0) + 2 * (S 1032 0)) (g77 1127 0) ∧ 465000 ≤ (g77 1127 0) ∧ (g77 1127 0) + sm_hs (g77 71) (S 1100007) ≤ 635000 ∧ (g77 75 639) = 647340 ∧ (∀ k : Int, (S 71 k) = 1 → (g77 71 k) = 1) ∧ sm_DR (g77 72) (g77 71) (S 1046 0) ∧ (641 * (sm_cm (g77 71) + sm_pt (g77 68) (g77 69) (g77 70) + sm_pl (g77 81) (g77 82) (g77 83) (g77 84) (g77 85) (g77 86) + sm_ps (g77 76) (g77 77)) + sm_du (g77 72)) ≤ (641 * (sm_cm (S 71) + sm_pt (S 68) (S 69) (S 70) + sm_pl (S 81) (S 82) (S 83) (S 84) (S 85) (S 86) + sm_ps (S 76) (S 77)) + sm_du (S 72)))) ∧ ((¬ ((0 : Int) = (0 : Int))) → (sv_R (S 1148 0) → (29 ≤ (S 1071 0) ∧ (S 1071 0) ≤ 127 ∧ 31 ≤ (S 1008 0) ∧ (S 1008 0) ≤ 90 ∧ 1 ≤ (S 1032 0) ∧ (S 1032 0) ≤ 11 ∧ 0 ≤ (S 1055 0) ∧ (S 1055 0) ≤ 19 ∧ (S 1071 0) = 29 + 6 * ((S 1032 0) - 1) + 2 * (S 1055 0) ∧ 0 ≤ (S 1046 0) ∧ (S 1046 0) + 2 * (S 1032 0) ≤ 500 ∧ sm_PD (S 1046 0) (S 1032 0) (S 1071 0) (S 1008 0) ∧ 0 ≤ (S 1071 0) * ((S 1008 0) + 1) ∧ (S 1071 0) * ((S 1008 0) + 1) ≤ 11557 ∧ 31 ≤ (S 1007 0) ∧ (S 1007 0) ≤ 400 ∧ sm_LN (S 4) 400 (S 1007 0) ∧ (g77 75 639) = 647340 ∧ sm_ST (g77 71) (g77 74) (g77 75) (g77 78) (g77 79) (g77 80) (S 27) (S 1100007) (S 1100023) (S 1100024) (S 1046 0) ((S 1046 0) + 2 * (S 1032 0)) (g77 1127 0) ∧ 465000 ≤ (g77 1127 0) ∧ (g77 1127 0) + sm_hs (g77 71) (S 1100007) ≤ 635000 ∧ sm_NH (S 1100007) ∧ sm_CT (S 26) (S 27) (S 28) (S 29) (S 1100007) (S 1100023) (S 1100024) (S 1100025) (S 21) (S 1046 0) (S 1032 0) (S 1008 0) (S 1055 0) ∧ (∀ k : Int, (S 1046 0) ≤ k → k < ((S 1046 0) + 2 * (S 1032 0)) → (S 1100007 k) = 1) ∧ sm_DR (g77 72) (g77 71) (S 1046 0) ∧ 0 ≤ (S 1148 0) ∧ (S 1148 0) < (S 1046 0) ∧ (g77 71 (S 1148 0)) = 1 ∧ (S 1148 0) = (S 1148 0) ∧ 6 ≤ (6 : Int) ∧ (6 : Int) ≤ 8) ∧ (∀ g84 : sv_S, (sm_ST (g84 71) (g84 74) (g84 75) (g84 78) (g84 79) (g84 80) (S 27) (S 1100007) (S 1100023) (S 1100024) (S 1046 0) ((S 1046 0) + 2 * (S 1032 0)) (g84 1127 0) ∧ 465000 ≤ (g84 1127 0) ∧ (g84 1127 0) + sm_hs (g84 71) (S 1100007) ≤ 635000 ∧ (g84 75 639) = 647340 ∧ (∀ k : Int, (g77 71 k) = 1 → (g84 71 k) = 1) ∧ sm_DR (g84 72) (g84 71) (S 1046 0) ∧ (641 * (sm_cm (g84 71) + sm_pt (g84 68) (g84 69) (g84 70) + sm_pl (g84 81) (g84 82) (g84 83) (g84 84) (g84 85) (g84 86) + sm_ps (g84 76) (g84 77)) + sm_du (g84 72)) ≤ (641 * (sm_cm (g77 71) + sm_pt (g77 68) (g77 69) (g77 70) + sm_pl (g77 81) (g77 82) (g77 83) (g77 84) (g77 85) (g77 86) + sm_ps (g77 76) (g77 77)) + sm_du (g77 72))) → (sm_ST (g84 71) (g84 74) (g84 75) (g84 78) (g84 79) (g84 80) (S 27) (S 1100007) (S 1100023) (S 1100024) (S 1046 0) ((S 1046 0) + 2 * (S 1032 0)) (g84 1127 0) ∧ 465000 ≤ (g84 1127 0) ∧ (g84 1127 0) + sm_hs (g84 71) (S 1100007) ≤ 635000 ∧ (g84 75 639) = 647340 ∧ (∀ k : Int, (S 71 k) = 1 → (g84 71 k) = 1) ∧ sm_DR (g84 72) (g84 71) (S 1046 0) ∧ (641 * (sm_cm (g84 71) + sm_pt (g84 68) (g84 69) (g84 70) + sm_pl (g84 81) (g84 82) (g84 83) (g84 84) (g84 85) (g84 86) + sm_ps (g84 76) (g84 77)) + sm_du (g84 72)) ≤ (641 * (sm_cm (S 71) + sm_pt (S 68) (S 69) (S 70) + sm_pl (S 81) (S 82) (S 83) (S 84) (S 85) (S 86) + sm_ps (S 76) (S 77)) + sm_du (S 72))))))))) ∧ ((¬ (r75 = (0 : Int))) → (sv_RL (g15 69 r13) → (sv_RL (g15 70 r13) → (sv_R ((647740 : Int) + (1 : Int))) ∧ (29 ≤ (S 1071 0) ∧ (S 1071 0) ≤ 127 ∧ 31 ≤ (S 1008 0) ∧ (S 1008 0) ≤ 90 ∧ 1 ≤ (S 1032 0) ∧ (S 1032 0) ≤ 11 ∧ 0 ≤ (S 1055 0) ∧ (S 1055 0) ≤ 19 ∧ (S 1071 0) = 29 + 6 * ((S 1032 0) - 1) + 2 * (S 1055 0) ∧ 0 ≤ (S 1046 0) ∧ (S 1046 0) + 2 * (S 1032 0) ≤ 500 ∧ sm_PD (S 1046 0) (S 1032 0) (S 1071 0) (S 1008 0) ∧ 0 ≤ (S 1071 0) * ((S 1008 0) + 1) ∧ (S 1071 0) * ((S 1008 0) + 1) ≤ 11557 ∧ 635639 ≤ ((647740 : Int) + (1 : Int)) ∧ ((647740 : Int) + (1 : Int)) < 647790) ∧ (∀ g93 : sv_S, (sm_pt (g93 68) (g93 69) (g93 70) = sm_pt (g15 68) (g15 69) (g15 70)) → (0 ≤ ((647740 : Int) + (1 : Int)) ∧ ((647740 : Int) + (1 : Int)) < 647800) ∧ (∀ r103 : Int, sv_R r103 → (r103 = 0 ∨ r103 = 1) → (((¬ r103 = (0 : Int)) → ((0 ≤ (g93 1145 0) ∧ (g93 1145 0) ≤ 1) → ((((g93 1145 0) = (0 : Int)) → (29 ≤ (S 1071 0) ∧ (S 1071 0) ≤ 127 ∧ 31 ≤ (S 1008 0) ∧ (S 1008 0) ≤ 90 ∧ 1 ≤ (S 1032 0) ∧ (S 1032 0) ≤ 11 ∧ 0 ≤ (S 1055 0) ∧ (S 1055 0) ≤ 19 ∧ (S 1071 0) = 29 + 6 * ((S 1032 0) - 1) + 2 * (S 1055 0) ∧ 0 ≤ (S 1046 0) ∧ (S 1046 0) + 2 * (S 1032 0) ≤ 500 ∧ sm_PD (S 1046 0) (S 1032 0) (S 1071 0) (S 1008 0) ∧ 0 ≤ (S 1071 0) * ((S 1008 0) + 1) ∧ (S 1071 0) * ((S 1008 0) + 1) ≤ 11557 ∧ 31 ≤ (S 1007 0) ∧ (S 1007 0) ≤ 400 ∧ sm_LN (S 4) 400 (S 1007 0) ∧ (S 75 639) = 647340 ∧ sm_ST (S 71) (S 74) (S 75) (S 78) (S 79) (S 80) (S 27) (S 1100007) (S 1100023) (S 1100024) (S 1046 0) ((S 1046 0) + 2 * (S 1032 0)) (S 1127 0) ∧ 465000 ≤ (S 1127 0) ∧ (S 1127 0) + sm_hs (S 71) (S 1100007) ≤ 635000 ∧ sm_NH (S 1100007) ∧ sm_CT (S 26) (S 27) (S 28) (S 29) (S 1100007) (S 1100023) (S 1100024) (S 1100025) (S 21) (S 1046 0) (S 1032 0) (S 1008 0) (S 1055 0) ∧ (∀ k : Int, (S 1046 0) ≤ k → k < ((S 1046 0) + 2 * (S 1032 0)) → (S 1100007 k) = 1) ∧ sm_DR (S 72) (S 71) (S 1046 0) ∧ 0 ≤ (S 74 639) ∧ (S 74 639) ≤ 400 ∧ 0 ≤ (S 78 639) ∧ (S 78 639) ≤ 40 ∧ (S 78 639) = sm_dp (S 1100024) (S 1100031 0) ∧ -1 ≤ (S 1100031 0) ∧ (S 1100031 0) < (S 1046 0) ∧ (0 ≤ (S 1100031 0) → (S 26 (S 1100031 0)) = 27) ∧ sm_TC (S 79) (S 80) (S 27) (S 1100007) (S 1100023) (S 1100024) 25560 (S 1100031 0) ∧ 0 ≤ (S 1148 0) ∧ (S 1148 0) + 1 < (S 1046 0) ∧ 0 ≤ (2 : Int) ∧ (2 : Int) ≤ (S 74 639) ∧ (S 74 639) - (2 : Int) ≤ 399 ∧ 0 ≤ (647740 : Int) ∧ (647740 : Int) < 647800 ∧ (S 1100007 ((S 1148 0) + 1)) = (S 74 639) - (2 : Int) + 1 ∧ (S 1100023 ((S 1148 0) + 1)) = (S 1100031 0)) ∧ (∀ g106 : sv_S, (sm_ST (g106 71) (g106 74) (g106 75) (g106 78) (g106 79) (g106 80) (S 27) (S 1100007) (S 1100023) (S 1100024) (S 1046 0) ((S 1046 0) + 2 * (S 1032 0)) (g106 1127 0) ∧ 465000 ≤ (g106 1127 0) ∧ (g106 1127 0) + sm_hs (g106 71) (S 1100007) ≤ 635000 ∧ (g106 75 639) = 647340 ∧ (∀ k : Int, (S 71 k) = 1 → (g106 71 k) = 1) ∧ sm_DR (g106 72) (g106 71) (S 1046 0) ∧ (641 * (sm_cm (g106 71) + sm_pt (g106 68) (g106 69) (g106 70) + sm_pl (g106 81) (g106 82) (g106 83) (g106 84) (g106 85) (g106 86) + sm_ps (g106 76) (g106 77)) + sm_du (g106 72)) ≤ (641 * (sm_cm (S 71) + sm_pt (g93 68) (g93 69) (g93 70) + sm_pl (S 81) (S 82) (S 83) (S 84) (S 85) (S 86) + sm_ps (S 76) (S 77)) + sm_du (S 72))) → ((((0 : Int) = (0 : Int)) → (sm_ST (g106 71) (g106 74) (g106 75) (g106 78) (g106 79) (g106 80) (S 27) (S 1100007) (S 1100023) (S 1100024) (S 1046 0) ((S 1046 0) + 2 * (S 1032 0)) (g106 1127 0) ∧ 465000 ≤ (g106 1127 0) ∧ (g106 1127 0) + sm_hs (g106 71) (S 1100007) ≤ 635000 ∧ (g106 75 639) = 647340 ∧ (∀ k : Int, (S 71 k) = 1 → (g106 71 k) = 1) ∧ sm_DR (g106 72) (g106 71) (S 1046 0) ∧ (641 * (sm_cm (g106 71) + sm_pt (g106 68) (g106 69) (g106 70) + sm_pl (g106 81) (g106 82) (g106 83) (g106 84) (g106 85) (g106 86) + sm_ps (g106 76) (g106 77)) + sm_du (g106 72)) ≤ (641 * (sm_cm (S 71) + sm_pt (S 68) (S 69) (S 70) + sm_pl (S 81) (S 82) (S 83) (S 84) (S 85) (S 86) + sm_ps (S 76) (S 77)) + sm_du (S 72)))) ∧ ((¬ ((0 : Int) = (0 : Int))) → (sv_R (S 1148 0) → (29 ≤ (S 1071 0) ∧ (S 1071 0) ≤ 127 ∧ 31 ≤ (S 1008 0) ∧ (S 1008 0) ≤ 90 ∧ 1 ≤ (S 1032 0) ∧ (S 1032 0) ≤ 11 ∧ 0 ≤ (S 1055 0) ∧ (S 1055 0) ≤ 19 ∧ (S 1071 0) = 29 + 6 * ((S 1032 0) - 1) + 2 * (S 1055 0) ∧ 0 ≤ (S 1046 0) ∧ (S 1046 0) + 2 * (S 1032 0) ≤ 500 ∧ sm_PD (S 1046 0) (S 1032 0) (S 1071 0) (S 1008 0) ∧ 0 ≤ (S 1071 0) * ((S 1008 0) + 1) ∧ (S 1071 0) * ((S 1008 0) + 1) ≤ 11557 ∧ 31 ≤ (S 1007 0) ∧ (S 1007 0) ≤ 400 ∧ sm_LN (S 4) 400 (S 1007 0) ∧ (g106 75 639) = 647340 ∧ sm_ST (g106 71) (g106 74) (g106 75) (g106 78) (g106 79) (g106 80) (S 27) (S 1100007) (S 1100023) (S 1100024) (S 1046 0) ((S 1046 0) + 2 * (S 1032 0)) (g106 1127 0) ∧ 465000 ≤ (g106 1127 0) ∧ (g106 1127 0) + sm_hs (g106 71) (S 1100007) ≤ 635000 ∧ sm_NH (S 1100007) ∧ sm_CT (S 26) (S 27) (S 28) (S 29) (S 1100007) (S 1100023) (S 1100024) (S 1100025) (S 21) (S 1046 0) (S 1032 0) (S 1008 0) (S 1055 0) ∧ (∀ k : Int, (S 1046 0) ≤ k → k < ((S 1046 0) + 2 * (S 1032 0)) → (S 1100007 k) = 1) ∧ sm_DR (g106 72) (g106 71) (S 1046 0) ∧ 0 ≤ (S 1148 0) ∧ (S 1148 0) < (S 1046 0) ∧ (g106 71 (S 1148 0)) = 1 ∧ (S 1148 0) = (S 1148 0) ∧ 6 ≤ (6 : Int) ∧ (6 : Int) ≤ 8) ∧ (∀ g113 : sv_S, (sm_ST (g113 71) (g113 74) (g113 75) (g113 78) (g113 79) (g113 80) (S 27) (S 1100007) (S 1100023) (S 1100024) (S 1046 0) ((S 1046 0) + 2 * (S 1032 0)) (g113 1127 0) ∧ 465000 ≤ (g113 1127 0) ∧ (g113 1127 0) + sm_hs (g113 71) (S 1100007) ≤ 635000 ∧ (g113 75 639) = 647340 ∧ (∀ k : Int, (g106 71 k) = 1 → (g113 71 k) = 1) ∧ sm_DR (g113 72) (g113 71) (S 1046 0) ∧ (641 * (sm_cm (g113 71) + sm_pt (g113 68) (g113 69) (g113 70) + sm_pl (g113 81) (g113 82) (g113 83) (g113 84) (g113 85) (g113 86) + sm_ps (g113 76) (g113 77)) + sm_du (g113 72)) ≤ (641 * (sm_cm (g106 71) + sm_pt (g106 68) (g106 69) (g106 70) + sm_pl (g106 81) (g106 82) (g106 83) (g106 84) (g106 85) (g106 86) + sm_ps (g106 76) (g106 77)) + sm_du (g106 72))) → (sm_ST (g113 71) (g113 74) (g113 75) (g113 78) (g113 79) (g113 80) (S 27) (S 1100007) (S 1100023) (S 1100024) (S 1046 0) ((S 1046 0) + 2 * (S 1032 0)) (g113 1127 0) ∧ 465000 ≤ (g113 1127 0) ∧ (g113 1127 0) + sm_hs (g113 71) (S 1100007) ≤ 635000 ∧ (g113 75 639) = 647340 ∧ (∀ k : Int, (S 71 k) = 1 → (g113 71 k) = 1) ∧ sm_DR (g113 72) (g113 71) (S 1046 0) ∧ (641 * (sm_cm (g113 71) + sm_pt (g113 68) (g113 69) (g113 70) + sm_pl (g113 81) (g113 82) (g113 83) (g113 84) (g113 85) (g113 86) + sm_ps (g113 76) (g113 77)) + sm_du (g113 72)) ≤ (641 * (sm_cm (S 71) + sm_pt (S 68) (S 69) (S 70) + sm_pl (S 81) (S 82) (S 83) (S 84) (S 85) (S 86) + sm_ps (S 76) (S 77)) + sm_du (S 72))))))))) ∧ ((¬ ((g93 1145 0) = (0 : Int))) → (635639 ≤ (647740 : Int) ∧ (647740 : Int) < 647790) ∧ (∀ g119 : sv_S, (sm_pt (g119 68) (g119 69) (g119 70) = sm_pt (g93 68) (g93 69) (g93 70)) → (29 ≤ (S 1071 0) ∧ (S 1071 0) ≤ 127 ∧ 31 ≤ (S 1008 0) ∧ (S 1008 0) ≤ 90 ∧ 1 ≤ (S 1032 0) ∧ (S 1032 0) ≤ 11 ∧ 0 ≤ (S 1055 0) ∧ (S 1055 0) ≤ 19 ∧ (S 1071 0) = 29 + 6 * ((S 1032 0) - 1) + 2 * (S 1055 0) ∧ 0 ≤ (S 1046 0) ∧ (S 1046 0) + 2 * (S 1032 0) ≤ 500 ∧ sm_PD (S 1046 0) (S 1032 0) (S 1071 0) (S 1008 0) ∧ 0 ≤ (S 1071 0) * ((S 1008 0) + 1) ∧ (S 1071 0) * ((S 1008 0) + 1) ≤ 11557 ∧ 31 ≤ (S 1007 0) ∧ (S 1007 0) ≤ 400 ∧ sm_LN (S 4) 400 (S 1007 0) ∧ (S 75 639) = 647340 ∧ sm_ST (S 71) (S 74) (S 75) (S 78) (S 79) (S 80) (S 27) (S 1100007) (S 1100023) (S 1100024) (S 1046 0) ((S 1046 0) + 2 * (S 1032 0)) (S 1127 0) ∧ 465000 ≤ (S 1127 0) ∧ (S 1127 0) + sm_hs (S 71) (S 1100007) ≤ 635000 ∧ sm_NH (S 1100007) ∧ sm_CT (S 26) (S 27) (S 28) (S 29) (S 1100007) (S 1100023) (S 1100024) (S 1100025) (S 21) (S 1046 0) (S 1032 0) (S 1008 0) (S 1055 0) ∧ (∀ k : Int, (S 1046 0) ≤ k → k < ((S 1046 0) + 2 * (S 1032 0)) → (S 1100007 k) = 1) ∧ sm_DR (S 72) (S 71) (S 1046 0) ∧ 0 ≤ (S 74 639) ∧ (S 74 639) ≤ 400 ∧ 0 ≤ (S 78 639) ∧ (S 78 639) ≤ 40 ∧ (S 78 639) = sm_dp (S 1100024) (S 1100031 0) ∧ -1 ≤ (S 1100031 0) ∧ (S 1100031 0) < (S 1046 0) ∧ (0 ≤ (S 1100031 0) → (S 26 (S 1100031 0)) = 27) ∧ sm_TC (S 79) (S 80) (S 27) (S 1100007) (S 1100023) (S 1100024) 25560 (S 1100031 0) ∧ 0 ≤ (S 1148 0) ∧ (S 1148 0) + 1 < (S 1046 0) ∧ 0 ≤ (2 : Int) ∧ (2 : Int) ≤ (S 74 639) ∧ (S 74 639) - (2 : Int) ≤ 399 ∧ 0 ≤ (647740 : Int) ∧ (647740 : Int) < 647800 ∧ (S 1100007 ((S 1148 0) + 1)) = (S 74 639) - (2 : Int) + 1 ∧ (S 1100023 ((S 1148 0) + 1)) = (S 1100031 0)) ∧ (∀ g125 : sv_S, (sm_ST (g125 71) (g125 74) (g125 75) (g125 78) (g125 79) (g125 80) (S 27) (S 1100007) (S 1100023) (S 1100024) (S 1046 0) ((S 1046 0) + 2 * (S 1032 0)) (g125 1127 0) ∧ 465000 ≤ (g125 1127 0) ∧ (g125 1127 0) + sm_hs (g125 71) (S 1100007) ≤ 635000 ∧ (g125 75 639) = 647340 ∧ (∀ k : Int, (S 71 k) = 1 → (g125 71 k) = 1) ∧ sm_DR (g125 72) (g125 71) (S 1046 0) ∧ (641 * (sm_cm (g125 71) + sm_pt (g125 68) (g125 69) (g125 70) + sm_pl (g125 81) (g125 82) (g125 83) (g125 84) (g125 85) (g125 86) + sm_ps (g125 76) (g125 77)) + sm_du (g125 72)) ≤ (641 * (sm_cm (S 71) + sm_pt (g119 68) (g119 69) (g119 70) + sm_pl (S 81) (S 82) (S 83) (S 84) (S 85) (S 86) + sm_ps (S 76) (S 77)) + sm_du (S 72))) → ((((0 : Int) = (0 : Int)) → (sm_ST (g125 71) (g125 74) (g125 75) (g125 78) (g125 79) (g125 80) (S 27) (S 1100007) (S 1100023) (S 1100024) (S 1046 0) ((S 1046 0) + 2 * (S 1032 0)) (g125 1127 0) ∧ 465000 ≤ (g125 1127 0) ∧ (g125 1127 0) + sm_hs (g125 71) (S 1100007) ≤ 635000 ∧ (g125 75 639) = 647340 ∧ (∀ k : Int, (S 71 k) = 1 → (g125 71 k) = 1) ∧ sm_DR (g125 72) (g125 71) (S 1046 0) ∧ (641 * (sm_cm (g125 71) + sm_pt (g125 68) (g125 69) (g125 70) + sm_pl (g125 81) (g125 82) (g125 83) (g125 84) (g125 85) (g125 86) + sm_ps (g125 76) (g125 77)) + sm_du (g125 72)) ≤ (641 * (sm_cm (S 71) + sm_pt (S 68) (S 69) (S 70) + sm_pl (S 81) (S 82) (S 83) (S 84) (S 85) (S 86) + sm_ps (S 76) (S 77)) + sm_du (S 72)))) ∧ ((¬ ((0 : Int) = (0 : Int))) → (sv_R (S 1148 0) → (29 ≤ (S 1071 0) ∧ (S 1071 0) ≤ 127 ∧ 31 ≤ (S 1008 0) ∧ (S 1008 0) ≤ 90 ∧ 1 ≤ (S 1032 0) ∧ (S 1032 0) ≤ 11 ∧ 0 ≤ (S 1055 0) ∧ (S 1055 0) ≤ 19 ∧ (S 1071 0) = 29 + 6 * ((S 1032 0) - 1) + 2 * (S 1055 0) ∧ 0 ≤ (S 1046 0) ∧ (S 1046 0) + 2 * (S 1032 0) ≤ 500 ∧ sm_PD (S 1046 0) (S 1032 0) (S 1071 0) (S 1008 0) ∧ 0 ≤ (S 1071 0) * ((S 1008 0) + 1) ∧ (S 1071 0) * ((S 1008 0) + 1) ≤ 11557 ∧ 31 ≤ (S 1007 0) ∧ (S 1007 0) ≤ 400 ∧ sm_LN (S 4) 400 (S 1007 0) ∧ (g125 75 639) = 647340 ∧ sm_ST (g125 71) (g125 74) (g125 75) (g125 78) (g125 79) (g125 80) (S 27) (S 1100007) (S 1100023) (S 1100024) (S 1046 0) ((S 1046 0) + 2 * (S 1032 0)) (g125 1127 0) ∧ 465000 ≤ (g125 1127 0) ∧ (g125 1127 0) + sm_hs (g125 71) (S 1100007) ≤ 635000 ∧ sm_NH (S 1100007) ∧ sm_CT (S 26) (S 27) (S 28) (S 29) (S 1100007) (S 1100023) (S 1100024) (S 1100025) (S 21) (S 1046 0) (S 1032 0) (S 1008 0) (S 1055 0) ∧ (∀ k : Int, (S 1046 0) ≤ k → k < ((S 1046 0) + 2 * (S 1032 0)) → (S 1100007 k) = 1) ∧ sm_DR (g125 72) (g125 71) (S 1046 0) ∧ 0 ≤ (S 1148 0) ∧ (S 1148 0) < (S 1046 0) ∧ (g125 71 (S 1148 0)) = 1 ∧ (S 1148 0) = (S 1148 0) ∧ 6 ≤ (6 : Int) ∧ (6 : Int) ≤ 8) ∧ (∀ g132 : sv_S, (sm_ST (g132 71) (g132 74) (g132 75) (g132 78) (g132 79) (g132 80) (S 27) (S 1100007) (S 1100023) (S 1100024) (S 1046 0) ((S 1046 0) + 2 * (S 1032 0)) (g132 1127 0) ∧ 465000 ≤ (g132 1127 0) ∧ (g132 1127 0) + sm_hs (g132 71) (S 1100007) ≤ 635000 ∧ (g132 75 639) = 647340 ∧ (∀ k : Int, (g125 71 k) = 1 → (g132 71 k) = 1) ∧ sm_DR (g132 72) (g132 71) (S 1046 0) ∧ (641 * (sm_cm (g132 71) + sm_pt (g132 68) (g132 69) (g132 70) + sm_pl (g132 81) (g132 82) (g132 83) (g132 84) (g132 85) (g132 86) + sm_ps (g132 76) (g132 77)) + sm_du (g132 72)) ≤ (641 * (sm_cm (g125 71) + sm_pt (g125 68) (g125 69) (g125 70) + sm_pl (g125 81) (g125 82) (g125 83) (g125 84) (g125 85) (g125 86) + sm_ps (g125 76) (g125 77)) + sm_du (g125 72))) → (sm_ST (g132 71) (g132 74) (g132 75) (g132 78) (g132 79) (g132 80) (S 27) (S 1100007) (S 1100023) (S 1100024) (S 1046 0) ((S 1046 0) + 2 * (S 1032 0)) (g132 1127 0) ∧ 465000 ≤ (g132 1127 0) ∧ (g132 1127 0) + sm_hs (g132 71) (S 1100007) ≤ 635000 ∧ (g132 75 639) = 647340 ∧ (∀ k : Int, (S 71 k) = 1 → (g132 71 k) = 1) ∧ sm_DR (g132 72) (g132 71) (S 1046 0) ∧ (641 * (sm_cm (g132 71) + sm_pt (g132 68) (g132 69) (g132 70) + sm_pl (g132 81) (g132 82) (g132 83) (g132 84) (g132 85) (g132 86) + sm_ps (g132 76) (g132 77)) + sm_du (g132 72)) ≤ (641 * (sm_cm (S 71) + sm_pt (S 68) (S 69) (S 70) + sm_pl (S 81) (S 82) (S 83) (S 84) (S 85) (S 86) + sm_ps (S 76) (S 77)) + sm_du (S 72))))))))))))) ∧ ((¬ (¬ r103 = (0 : Int))) → (635639 ≤ (647740 : Int) ∧ (647740 : Int) < 647790) ∧ (∀ g138 : sv_S, (sm_pt (g138 68) (g138 69) (g138 70) = sm_pt (g93 68) (g93 69) (g93 70)) → ((0 ≤ (g93 1145 0) ∧ (g93 1145 0) ≤ 1) → ((((g93 1145 0) = (0 : Int)) → (29 ≤ (S 1071 0) ∧ (S 1071 0) ≤ 127 ∧ 31 ≤ (S 1008 0) ∧ (S 1008 0) ≤ 90 ∧ 1 ≤ (S 1032 0) ∧ (S 1032 0) ≤ 11 ∧ 0 ≤ (S 1055 0) ∧ (S 1055 0) ≤ 19 ∧ (S 1071 0) = 29 + 6 * ((S 1032 0) - 1) + 2 * (S 1055 0) ∧ 0 ≤ (S 1046 0) ∧ (S 1046 0) + 2 * (S 1032 0) ≤ 500 ∧ sm_PD (S 1046 0) (S 1032 0) (S 1071 0) (S 1008 0) ∧ 0 ≤ (S 1071 0) * ((S 1008 0) + 1) ∧ (S 1071 0) * ((S 1008 0) + 1) ≤ 11557 ∧ 31 ≤ (S 1007 0) ∧ (S 1007 0) ≤ 400 ∧ sm_LN (S 4) 400 (S 1007 0) ∧ (S 75 639) = 647340 ∧ sm_ST (S 71) (S 74) (S 75) (S 78) (S 79) (S 80) (S 27) (S 1100007) (S 1100023) (S 1100024) (S 1046 0) ((S 1046 0) + 2 * (S 1032 0)) (S 1127 0) ∧ 465000 ≤ (S 1127 0) ∧ (S 1127 0) + sm_hs (S 71) (S 1100007) ≤ 635000 ∧ sm_NH (S 1100007) ∧ sm_CT (S 26) (S 27) (S 28) (S 29) (S 1100007) (S 1100023) (S 1100024) (S 1100025) (S 21) (S 1046 0) (S 1032 0) (S 1008 0) (S 1055 0) ∧ (∀ k : Int, (S 1046 0) ≤ k → k < ((S 1046 0) + 2 * (S 1032 0)) → (S 1100007 k) = 1) ∧ sm_DR (S 72) (S 71) (S 1046 0) ∧ 0 ≤ (S 74 639) ∧ (S 74 639) ≤ 400 ∧ 0 ≤ (S 78 639) ∧ (S 78 639) ≤ 40 ∧ (S 78 639) = sm_dp (S 1100024) (S 1100031 0) ∧ -1 ≤ (S 1100031 0) ∧ (S 1100031 0) < (S 1046 0) ∧ (0 ≤ (S 1100031 0) → (S 26 (S 1100031 0)) = 27) ∧ sm_TC (S 79) (S 80) (S 27) (S 1100007) (S 1100023) (S 1100024) 25560 (S 1100031 0) ∧ 0 ≤ (S 1148 0) ∧ (S 1148 0) + 1 < (S 1046 0) ∧ 0 ≤ (2 : Int) ∧ (2 : Int) ≤ (S 74 639) ∧ (S 74 639) - (2 : Int) ≤ 399 ∧ 0 ≤ (647740 : Int) ∧ (647740 : Int) < 647800 ∧ (S 1100007 ((S 1148 0) + 1)) = (S 74 639) - (2 : Int) + 1 ∧ (S 1100023 ((S 1148 0) + 1)) = (S 1100031 0)) ∧ (∀ g145 : sv_S, (sm_ST (g145 71) (g145 74) (g145 75) (g145 78) (g145 79) (g145 80) (S 27) (S 1100007) (S 1100023) (S 1100024) (S 1046 0) ((S 1046 0) + 2 * (S 1032 0)) (g145 1127 0) ∧ 465000 ≤ (g145 1127 0) ∧ (g145 1127 0) + sm_hs (g145 71) (S 1100007) ≤ 635000 ∧ (g145 75 639) = 647340 ∧ (∀ k : Int, (S 71 k) = 1 → (g145 71 k) = 1) ∧ sm_DR (g145 72) (g145 71) (S 1046 0) ∧ (641 * (sm_cm (g145 71) + sm_pt (g145 68) (g145 69) (g145 70) + sm_pl (g145 81) (g145 82) (g145 83) (g145 84) (g145 85) (g145 86) + sm_ps (g145 76) (g145 77)) + sm_du (g145 72)) ≤ (641 * (sm_cm (S 71) + sm_pt (g138 68) (g138 69) (g138 70) + sm_pl (S 81) (S 82) (S 83) (S 84) (S 85) (S 86) + sm_ps (S 76) (S 77)) + sm_du (S 72))) → ((((0 : Int) = (0 : Int)) → (sm_ST (g145 71) (g145 74) (g145 75) (g145 78) (g145 79) (g145 80) (S 27) (S 1100007) (S 1100023) (S 1100024) (S 1046 0) ((S 1046 0) + 2 * (S 1032 0)) (g145 1127 0) ∧ 465000 ≤ (g145 1127 0) ∧ (g145 1127 0) + sm_hs (g145 71) (S 1100007) ≤ 635000 ∧ (g145 75 639) = 647340 ∧ (∀ k : Int, (S 71 k) = 1 → (g145 71 k) = 1) ∧ sm_DR (g145 72) (g145 71) (S 1046 0) ∧ (641 * (sm_cm (g145 71) + sm_pt (g145 68) (g145 69) (g145 70) + sm_pl (g145 81) (g145 82) (g145 83) (g145 84) (g145 85) (g145 86) + sm_ps (g145 76) (g145 77)) + sm_du (g145 72)) ≤ (641 * (sm_cm (S 71) + sm_pt (S 68) (S 69) (S 70) + sm_pl (S 81) (S 82) (S 83) (S 84) (S 85) (S 86) + sm_ps (S 76) (S 77)) + sm_du (S 72)))) ∧ ((¬ ((0 : Int) = (0 : Int))) → (sv_R (S 1148 0) → (29 ≤ (S 1071 0) ∧ (S 1071 0) ≤ 127 ∧ 31 ≤ (S 1008 0) ∧ (S 1008 0) ≤ 90 ∧ 1 ≤ (S 1032 0) ∧ (S 1032 0) ≤ 11 ∧ 0 ≤ (S 1055 0) ∧ (S 1055 0) ≤ 19 ∧ (S 1071 0) = 29 + 6 * ((S 1032 0) - 1) + 2 * (S 1055 0) ∧ 0 ≤ (S 1046 0) ∧ (S 1046 0) + 2 * (S 1032 0) ≤ 500 ∧ sm_PD (S 1046 0) (S 1032 0) (S 1071 0) (S 1008 0) ∧ 0 ≤ (S 1071 0) * ((S 1008 0) + 1) ∧ (S 1071 0) * ((S 1008 0) + 1) ≤ 11557 ∧ 31 ≤ (S 1007 0) ∧ (S 1007 0) ≤ 400 ∧ sm_LN (S 4) 400 (S 1007 0) ∧ (g145 75 639) = 647340 ∧ sm_ST (g145 71) (g145 74) (g145 75) (g145 78) (g145 79) (g145 80) (S 27) (S 1100007) (S 1100023) (S 1100024) (S 1046 0) ((S 1046 0) + 2 * (S 1032 0)) (g145 1127 0) ∧ 465000 ≤ (g145 1127 0) ∧ (g145 1127 0) + sm_hs (g145 71) (S 1100007) ≤ 635000 ∧ sm_NH (S 1100007) ∧ sm_CT (S 26) (S 27) (S 28) (S 29) (S 1100007) (S 1100023) (S 1100024) (S 1100025) (S 21) (S 1046 0) (S 1032 0) (S 1008 0) (S 1055 0) ∧ (∀ k : Int, (S 1046 0) ≤ k → k < ((S 1046 0) + 2 * (S 1032 0)) → (S 1100007 k) = 1) ∧ sm_DR (g145 72) (g145 71) (S 1046 0) ∧ 0 ≤ (S 1148 0) ∧ (S 1148 0) < (S 1046 0) ∧ (g145 71 (S 1148 0)) = 1 ∧ (S 1148 0) = (S 1148 0) ∧ 6 ≤ (6 : Int) ∧ (6 : Int) ≤ 8) ∧ (∀ g152 : sv_S, (sm_ST (g152 71) (g152 74) (g152 75) (g152 78) (g152 79) (g152 80) (S 27) (S 1100007) (S 1100023) (S 1100024) (S 1046 0) ((S 1046 0) + 2 * (S 1032 0)) (g152 1127 0) ∧ 465000 ≤ (g152 1127 0) ∧ (g152 1127 0) + sm_hs (g152 71) (S 1100007) ≤ 635000 ∧ (g152 75 639) = 647340 ∧ (∀ k : Int, (g145 71 k) = 1 → (g152 71 k) = 1) ∧ sm_DR (g152 72) (g152 71) (S 1046 0) ∧ (641 * (sm_cm (g152 71) + sm_pt (g152 68) (g152 69) (g152 70) + sm_pl (g152 81) (g152 82) (g152 83) (g152 84) (g152 85) (g152 86) + sm_ps (g152 76) (g152 77)) + sm_du (g152 72)) ≤ (641 * (sm_cm (g145 71) + sm_pt (g145 68) (g145 69) (g145 70) + sm_pl (g145 81) (g145 82) (g145 83) (g145 84) (g145 85) (g145 86) + sm_ps (g145 76) (g145 77)) + sm_du (g145 72))) → (sm_ST (g152 71) (g152 74) (g152 75) (g152 78) (g152 79) (g152 80) (S 27) (S 1100007) (S 1100023) (S 1100024) (S 1046 0) ((S 1046 0) + 2 * (S 1032 0)) (g152 1127 0) ∧ 465000 ≤ (g152 1127 0) ∧ (g152 1127 0) + sm_hs (g152 71) (S 1100007) ≤ 635000 ∧ (g152 75 639) = 647340 ∧ (∀ k : Int, (S 71 k) = 1 → (g152 71 k) = 1) ∧ sm_DR (g152 72) (g152 71) (S 1046 0) ∧ (641 * (sm_cm (g152 71) + sm_pt (g152 68) (g152 69) (g152 70) + sm_pl (g152 81) (g152 82) (g152 83) (g152 84) (g152 85) (g152 86) + sm_ps (g152 76) (g152 77)) + sm_du (g152 72)) ≤ (641 * (sm_cm (S 71) + sm_pt (S 68) (S 69) (S 70) + sm_pl (S 81) (S 82) (S 83) (S 84) (S 85) (S 86) + sm_ps (S 76) (S 77)) + sm_du (S 72))))))))) ∧ ((¬ ((g93 1145 0) = (0 : Int))) → (∀ g157 : sv_S, (sm_pt (g157 68) (g157 69) (g157 70) = sm_pt (g138 68) (g138 69) (g138 70)) → (29 ≤ (S 1071 0) ∧ (S 1071 0) ≤ 127 ∧ 31 ≤ (S 1008 0) ∧ (S 1008 0) ≤ 90 ∧ 1 ≤ (S 1032 0) ∧ (S 1032 0) ≤ 11 ∧ 0 ≤ (S 1055 0) ∧ (S 1055 0) ≤ 19 ∧ (S 1071 0) = 29 + 6 * ((S 1032 0) - 1) + 2 * (S 1055 0) ∧ 0 ≤ (S 1046 0) ∧ (S 1046 0) + 2 * (S 1032 0) ≤ 500 ∧ sm_PD (S 1046 0) (S 1032 0) (S 1071 0) (S 1008 0) ∧ 0 ≤ (S 1071 0) * ((S 1008 0) + 1) ∧ (S 1071 0) * ((S 1008 0) + 1) ≤ 11557 ∧ 31 ≤ (S 1007 0) ∧ (S 1007 0) ≤ 400 ∧ sm_LN (S 4) 400 (S 1007 0) ∧ (S 75 639) = 647340 ∧ sm_ST (S 71) (S 74) (S 75) (S 78) (S 79) (S 80) (S 27) (S 1100007) (S 1100023) (S 1100024) (S 1046 0) ((S 1046 0) + 2 * (S 1032 0)) (S 1127 0) ∧ 465000 ≤ (S 1127 0) ∧ (S 1127 0) + sm_hs (S 71) (S 1100007) ≤ 635000 ∧ sm_NH (S 1100007) ∧ sm_CT (S 26) (S 27) (S 28) (S 29) (S 1100007) (S 1100023) (S 1100024) (S 1100025) (S 21) (S 1046 0) (S 1032 0) (S 1008 0) (S 1055 0) ∧ (∀ k : Int, (S 1046 0) ≤ k → k < ((S 1046 0) + 2 * (S 1032 0)) → (S 1100007 k) = 1) ∧ sm_DR (S 72) (S 71) (S 1046 0) ∧ 0 ≤ (S 74 639) ∧ (S 74 639) ≤ 400 ∧ 0 ≤ (S 78 639) ∧ (S 78 639) ≤ 40 ∧ (S 78 639) = sm_dp (S 1100024) (S 1100031 0) ∧ -1 ≤ (S 1100031 0) ∧ (S 1100031 0) < (S 1046 0) ∧ (0 ≤ (S 1100031 0) → (S 26 (S 1100031 0)) = 27) ∧ sm_TC (S 79) (S 80) (S 27) (S 1100007) (S 1100023) (S 1100024) 25560 (S 1100031 0) ∧ 0 ≤ (S 1148 0) ∧ (S 1148 0) + 1 < (S 1046 0) ∧ 0 ≤ (2 : Int) ∧ (2 : Int) ≤ (S 74 639) ∧ (S 74 639) - (2 : Int) ≤ 399 ∧ 0 ≤ (647740 : Int) ∧ (647740 : Int) < 647800 ∧ (S 1100007 ((S 1148 0) + 1)) = (S 74 639) - (2 : Int) + 1 ∧ (S 1100023 ((S 1148 0) + 1)) = (S 1100031 0)) ∧ (∀ g163 : sv_S, (sm_ST (g163 71) (g163 74) (g163 75) (g163 78) (g163 79) (g163 80) (S 27) (S 1100007) (S 1100023) (S 1100024) (S 1046 0) ((S 1046 0) + 2 * (S 1032 0)) (g163 1127 0) ∧ 465000 ≤ (g163 1127 0) ∧ (g163 1127 0) + sm_hs (g163 71) (S 1100007) ≤ 635000 ∧ (g163 75 639) = 647340 ∧ (∀ k : Int, (S 71 k) = 1 → (g163 71 k) = 1) ∧ sm_DR (g163 72) (g163 71) (S 1046 0) ∧ (641 * (sm_cm (g163 71) + sm_pt (g163 68) (g163 69) (g163 70) + sm_pl (g163 81) (g163 82) (g163 83) (g163 84) (g163 85) (g163 86) + sm_ps (g163 76) (g163 77)) + sm_du (g163 72)) ≤ (641 * (sm_cm (S 71) + sm_pt (g157 68) (g157 69) (g157 70) + sm_pl (S 81) (S 82) (S 83) (S 84) (S 85) (S 86) + sm_ps (S 76) (S 77)) + sm_du (S 72))) → ((((0 : Int) = (0 : Int)) → (sm_ST (g163 71) (g163 74) (g163 75) (g163 78) (g163 79) (g163 80) (S 27) (S 1100007) (S 1100023) (S 1100024) (S 1046 0) ((S 1046 0) + 2 * (S 1032 0)) (g163 1127 0) ∧ 465000 ≤ (g163 1127 0) ∧ (g163 1127 0) + sm_hs (g163 71) (S 1100007) ≤ 635000 ∧ (g163 75 639) = 647340 ∧ (∀ k : Int, (S 71 k) = 1 → (g163 71 k) = 1) ∧ sm_DR (g163 72) (g163 71) (S 1046 0) ∧ (641 * (sm_cm (g163 71) + sm_pt (g163 68) (g163 69) (g163 70) + sm_pl (g163 81) (g163 82) (g163 83) (g163 84) (g163 85) (g163 86) + sm_ps (g163 76) (g163 77)) + sm_du (g163 72)) ≤ (641 * (sm_cm (S 71) + sm_pt (S 68) (S 69) (S 70) + sm_pl (S 81) (S 82) (S 83) (S 84) (S 85) (S 86) + sm_ps (S 76) (S 77)) + sm_du (S 72)))) ∧ ((¬ ((0 : Int) = (0 : Int))) → (sv_R (S 1148 0) → (29 ≤ (S 1071 0) ∧ (S 1071 0) ≤ 127 ∧ 31 ≤ (S 1008 0) ∧ (S 1008 0) ≤ 90 ∧ 1 ≤ (S 1032 0) ∧ (S 1032 0) ≤ 11 ∧ 0 ≤ (S 1055 0) ∧ (S 1055 0) ≤ 19 ∧ (S 1071 0) = 29 + 6 * ((S 1032 0) - 1) + 2 * (S 1055 0) ∧ 0 ≤ (S 1046 0) ∧ (S 1046 0) + 2 * (S 1032 0) ≤ 500 ∧ sm_PD (S 1046 0) (S 1032 0) (S 1071 0) (S 1008 0) ∧ 0 ≤ (S 1071 0) * ((S 1008 0) + 1) ∧ (S 1071 0) * ((S 1008 0) + 1) ≤ 11557 ∧ 31 ≤ (S 1007 0) ∧ (S 1007 0) ≤ 400 ∧ sm_LN (S 4) 400 (S 1007 0) ∧ (g163 75 639) = 647340 ∧ sm_ST (g163 71) (g163 74) (g163 75) (g163 78) (g163 79) (g163 80) (S 27) (S 1100007) (S 1100023) (S 1100024) (S 1046 0) ((S 1046 0) + 2 * (S 1032 0)) (g163 1127 0) ∧ 465000 ≤ (g163 1127 0) ∧ (g163 1127 0) + sm_hs (g163 71) (S 1100007) ≤ 635000 ∧ sm_NH (S 1100007) ∧ sm_CT (S 26) (S 27) (S 28) (S 29) (S 1100007) (S 1100023) (S 1100024) (S 1100025) (S 21) (S 1046 0) (S 1032 0) (S 1008 0) (S 1055 0) ∧ (∀ k : Int, (S 1046 0) ≤ k → k < ((S 1046 0) + 2 * (S 1032 0)) → (S 1100007 k) = 1) ∧ sm_DR (g163 72) (g163 71) (S 1046 0) ∧ 0 ≤ (S 1148 0) ∧ (S 1148 0) < (S 1046 0) ∧ (g163 71 (S 1148 0)) = 1 ∧ (S 1148 0) = (S 1148 0) ∧ 6 ≤ (6 : Int) ∧ (6 : Int) ≤ 8) ∧ (∀ g170 : sv_S, (sm_ST (g170 71) (g170 74) (g170 75) (g170 78) (g170 79) (g170 80) (S 27) (S 1100007) (S 1100023) (S 1100024) (S 1046 0) ((S 1046 0) + 2 * (S 1032 0)) (g170 1127 0) ∧ 465000 ≤ (g170 1127 0) ∧ (g170 1127 0) + sm_hs (g170 71) (S 1100007) ≤ 635000 ∧ (g170 75 639) = 647340 ∧ (∀ k : Int, (g163 71 k) = 1 → (g170 71 k) = 1) ∧ sm_DR (g170 72) (g170 71) (S 1046 0) ∧ (641 * (sm_cm (g170 71) + sm_pt (g170 68) (g170 69) (g170 70) + sm_pl (g170 81) (g170 82) (g170 83) (g170 84) (g170 85) (g170 86) + sm_ps (g170 76) (g170 77)) + sm_du (g170 72)) ≤ (641 * (sm_cm (g163 71) + sm_pt (g163 68) (g163 69) (g163 70) + sm_pl (g163 81) (g163 82) (g163 83) (g163 84) (g163 85) (g163 86) + sm_ps (g163 76) (g163 77)) + sm_du (g163 72))) → (sm_ST (g170 71) (g170 74) (g170 75) (g170 78) (g170 79) (g170 80) (S 27) (S 1100007) (S 1100023) (S 1100024) (S 1046 0) ((S 1046 0) + 2 * (S 1032 0)) (g170 1127 0) ∧ 465000 ≤ (g170 1127 0) ∧ (g170 1127 0) + sm_hs (g170 71) (S 1100007) ≤ 635000 ∧ (g170 75 639) = 647340 ∧ (∀ k : Int, (S 71 k) = 1 → (g170 71 k) = 1) ∧ sm_DR (g170 72) (g170 71) (S 1046 0) ∧ (641 * (sm_cm (g170 71) + sm_pt (g170 68) (g170 69) (g170 70) + sm_pl (g170 81) (g170 82) (g170 83) (g170 84) (g170 85) (g170 86) + sm_ps (g170 76) (g170 77)) + sm_du (g170 72)) ≤ (641 * (sm_cm (S 71) + sm_pt (S 68) (S 69) (S 70) + sm_pl (S 81) (S 82) (S 83) (S 84) (S 85) (S 86) + sm_ps (S 76) (S 77)) + sm_du (S 72))))))))))))))))))))))) ∧ ((¬ (r70 = (0 : Int))) → (∀ r179 : Int, sv_R r179 → (r179 = 0 ∨ r179 = 1) → (((r179 = (0 : Int)) → (29 ≤ (S 1071 0) ∧ (S 1071 0) ≤ 127 ∧ 31 ≤ (S 1008 0) ∧ (S 1008 0) ≤ 90 ∧ 1 ≤ (S 1032 0) ∧ (S 1032 0) ≤ 11 ∧ 0 ≤ (S 1055 0) ∧ (S 1055 0) ≤ 19 ∧ (S 1071 0) = 29 + 6 * ((S 1032 0) - 1) + 2 * (S 1055 0) ∧ 0 ≤ (S 1046 0) ∧ (S 1046 0) + 2 * (S 1032 0) ≤ 500 ∧ sm_PD (S 1046 0) (S 1032 0) (S 1071 0) (S 1008 0) ∧ 0 ≤ (S 1071 0) * ((S 1008 0) + 1) ∧ (S 1071 0) * ((S 1008 0) + 1) ≤ 11557 ∧ 31 ≤ (S 1007 0) ∧ (S 1007 0) ≤ 400 ∧ sm_LN (S 4) 400 (S 1007 0) ∧ (S 75 639) = 647340 ∧ sm_ST (S 71) (S 74) (S 75) (S 78) (S 79) (S 80) (S 27) (S 1100007) (S 1100023) (S 1100024) (S 1046 0) ((S 1046 0) + 2 * (S 1032 0)) (S 1127 0) ∧ 465000 ≤ (S 1127 0) ∧ (S 1127 0) + sm_hs (S 71) (S 1100007) ≤ 635000 ∧ sm_NH (S 1100007) ∧ sm_CT (S 26) (S 27) (S 28) (S 29) (S 1100007) (S 1100023) (S 1100024) (S 1100025) (S 21) (S 1046 0) (S 1032 0) (S 1008 0) (S 1055 0) ∧ (∀ k : Int, (S 1046 0) ≤ k → k < ((S 1046 0) + 2 * (S 1032 0)) → (S 1100007 k) = 1) ∧ sm_DR (S 72) (S 71) (S 1046 0) ∧ 0 ≤ (S 74 639) ∧ (S 74 639) ≤ 400 ∧ 0 ≤ (S 78 639) ∧ (S 78 639) ≤ 40 ∧ (S 78 639) = sm_dp (S 1100024) (S 1100031 0) ∧ -1 ≤ (S 1100031 0) ∧ (S 1100031 0) < (S 1046 0) ∧ (0 ≤ (S 1100031 0) → (S 26 (S 1100031 0)) = 27) ∧ sm_TC (S 79) (S 80) (S 27) (S 1100007) (S 1100023) (S 1100024) 25560 (S 1100031 0) ∧ 0 ≤ (S 1148 0) ∧ (S 1148 0) + 1 < (S 1046 0) ∧ 0 ≤ (2 : Int) ∧ (2 : Int) ≤ (S 74 639) ∧ (S 74 639) - (2 : Int) ≤ 399 ∧ 0 ≤ (647740 : Int) ∧ (647740 : Int) < 647800 ∧ (S 1100007 ((S 1148 0) + 1)) = (S 74 639) - (2 : Int) + 1 ∧ (S 1100023 ((S 1148 0) + 1)) = (S 1100031 0)) ∧ (∀ g181 : sv_S, (sm_ST (g181 71) (g181 74) (g181 75) (g181 78) (g181 79) (g181 80) (S 27) (S 1100007) (S 1100023) (S 1100024) (S 1046 0) ((S 1046 0) + 2 * (S 1032 0)) (g181 1127 0) ∧ 465000 ≤ (g181 1127 0) ∧ (g181 1127 0) + sm_hs (g181 71) (S 1100007) ≤ 635000 ∧ (g181 75 639) = 647340 ∧ (∀ k : Int, (S 71 k) = 1 → (g181 71 k) = 1) ∧ sm_DR (g181 72) (g181 71) (S 1046 0) ∧ (641 * (sm_cm (g181 71) + sm_pt (g181 68) (g181 69) (g181 70) + sm_pl (g181 81) (g181 82) (g181 83) (g181 84) (g181 85) (g181 86) + sm_ps (g181 76) (g181 77)) + sm_du (g181 72)) ≤ (641 * (sm_cm (S 71) + sm_pt (g15 68) (g15 69) (g15 70) + sm_pl (S 81) (S 82) (S 83) (S 84) (S 85) (S 86) + sm_ps (S 76) (S 77)) + sm_du (S 72))) → ((((1 : Int) = (0 : Int)) → (sm_ST (g181 71) (g181 74) (g181 75) (g181 78) (g181 79) (g181 80) (S 27) (S 1100007) (S 1100023) (S 1100024) (S 1046 0) ((S 1046 0) + 2 * (S 1032 0)) (g181 1127 0) ∧ 465000 ≤ (g181 1127 0) ∧ (g181 1127 0) + sm_hs (g181 71) (S 1100007) ≤ 635000 ∧ (g181 75 639) = 647340 ∧ (∀ k : Int, (S 71 k) = 1 → (g181 71 k) = 1) ∧ sm_DR (g181 72) (g181 71) (S 1046 0) ∧ (641 * (sm_cm (g181 71) + sm_pt (g181 68) (g181 69) (g181 70) + sm_pl (g181 81) (g181 82) (g181 83) (g181 84) (g181 85) (g181 86) + sm_ps (g181 76) (g181 77)) + sm_du (g181 72)) ≤ (641 * (sm_cm (S 71) + sm_pt (S 68) (S 69) (S 70) + sm_pl (S 81) (S 82) (S 83) (S 84) (S 85) (S 86) + sm_ps (S 76) (S 77)) + sm_du (S 72)))) ∧ ((¬ ((1 : Int) = (0 : Int))) → (sv_R (S 1148 0) → (29 ≤ (S 1071 0) ∧ (S 1071 0) ≤ 127 ∧ 31 ≤ (S 1008 0) ∧ (S 1008 0) ≤ 90 ∧ 1 ≤ (S 1032 0) ∧ (S 1032 0) ≤ 11 ∧ 0 ≤ (S 1055 0) ∧ (S 1055 0) ≤ 19 ∧ (S 1071 0) = 29 + 6 * ((S 1032 0) - 1) + 2 * (S 1055 0) ∧ 0 ≤ (S 1046 0) ∧ (S 1046 0) + 2 * (S 1032 0) ≤ 500 ∧ sm_PD (S 1046 0) (S 1032 0) (S 1071 0) (S 1008 0) ∧ 0 ≤ (S 1071 0) * ((S 1008 0) + 1) ∧ (S 1071 0) * ((S 1008 0) + 1) ≤ 11557 ∧ 31 ≤ (S 1007 0) ∧ (S 1007 0) ≤ 400 ∧ sm_LN (S 4) 400 (S 1007 0) ∧ (g181 75 639) = 647340 ∧ sm_ST (g181 71) (g181 74) (g181 75) (g181 78) (g181 79) (g181 80) (S 27) (S 1100007) (S 1100023) (S 1100024) (S 1046 0) ((S 1046 0) + 2 * (S 1032 0)) (g181 1127 0) ∧ 465000 ≤ (g181 1127 0) ∧ (g181 1127 0) + sm_hs (g181 71) (S 1100007) ≤ 635000 ∧ sm_NH (S 1100007) ∧ sm_CT (S 26) (S 27) (S 28) (S 29) (S 1100007) (S 1100023) (S 1100024) (S 1100025) (S 21) (S 1046 0) (S 1032 0) (S 1008 0) (S 1055 0) ∧ (∀ k : Int, (S 1046 0) ≤ k → k < ((S 1046 0) + 2 * (S 1032 0)) → (S 1100007 k) = 1) ∧ sm_DR (g181 72) (g181 71) (S 1046 0) ∧ 0 ≤ (S 1148 0) ∧ (S 1148 0) < (S 1046 0) ∧ (g181 71 (S 1148 0)) = 1 ∧ (S 1148 0) = (S 1148 0) ∧ 6 ≤ (6 : Int) ∧ (6 : Int) ≤ 8) ∧ (∀ g188 : sv_S, (sm_ST (g188 71) (g188 74) (g188 75) (g188 78) (g188 79) (g188 80) (S 27) (S 1100007) (S 1100023) (S 1100024) (S 1046 0) ((S 1046 0) + 2 * (S 1032 0)) (g188 1127 0) ∧ 465000 ≤ (g188 1127 0) ∧ (g188 1127 0) + sm_hs (g188 71) (S 1100007) ≤ 635000 ∧ (g188 75 639) = 647340 ∧ (∀ k : Int, (g181 71 k) = 1 → (g188 71 k) = 1) ∧ sm_DR (g188 72) (g188 71) (S 1046 0) ∧ (641 * (sm_cm (g188 71) + sm_pt (g188 68) (g188 69) (g188 70) + sm_pl (g188 81) (g188 82) (g188 83) (g188 84) (g188 85) (g188 86) + sm_ps (g188 76) (g188 77)) + sm_du (g188 72)) ≤ (641 * (sm_cm (g181 71) + sm_pt (g181 68) (g181 69) (g181 70) + sm_pl (g181 81) (g181 82) (g181 83) (g181 84) (g181 85) (g181 86) + sm_ps (g181 76) (g181 77)) + sm_du (g181 72))) → (sm_ST (g188 71) (g188 74) (g188 75) (g188 78) (g188 79) (g188 80) (S 27) (S 1100007) (S 1100023) (S 1100024) (S 1046 0) ((S 1046 0) + 2 * (S 1032 0)) (g188 1127 0) ∧ 465000 ≤ (g188 1127 0) ∧ (g188 1127 0) + sm_hs (g188 71) (S 1100007) ≤ 635000 ∧ (g188 75 639) = 647340 ∧ (∀ k : Int, (S 71 k) = 1 → (g188 71 k) = 1) ∧ sm_DR (g188 72) (g188 71) (S 1046 0) ∧ (641 * (sm_cm (g188 71) + sm_pt (g188 68) (g188 69) (g188 70) + sm_pl (g188 81) (g188 82) (g188 83) (g188 84) (g188 85) (g188 86) + sm_ps (g188 76) (g188 77)) + sm_du (g188 72)) ≤ (641 * (sm_cm (S 71) + sm_pt (S 68) (S 69) (S 70) + sm_pl (S 81) (S 82) (S 83) (S 84) (S 85) (S 86) + sm_ps (S 76) (S 77)) + sm_du (S 72))))))))) ∧ ((¬ (r179 = (0 : Int))) → (sv_RL (g15 69 r13) → (sv_RL (g15 70 r13) → (sv_R ((647740 : Int) + (1 : Int))) ∧ (29 ≤ (S 1071 0) ∧ (S 1071 0) ≤ 127 ∧ 31 ≤ (S 1008 0) ∧ (S 1008 0) ≤ 90 ∧ 1 ≤ (S 1032 0) ∧ (S 1032 0) ≤ 11 ∧ 0 ≤ (S 1055 0) ∧ (S 1055 0) ≤ 19 ∧ (S 1071 0) = 29 + 6 * ((S 1032 0) - 1) + 2 * (S 1055 0) ∧ 0 ≤ (S 1046 0) ∧ (S 1046 0) + 2 * (S 1032 0) ≤ 500 ∧ sm_PD (S 1046 0) (S 1032 0) (S 1071 0) (S 1008 0) ∧ 0 ≤ (S 1071 0) * ((S 1008 0) + 1) ∧ (S 1071 0) * ((S 1008 0) + 1) ≤ 11557 ∧ 635639 ≤ ((647740 : Int) + (1 : Int)) ∧ ((647740 : Int) + (1 : Int)) < 647790) ∧ (∀ g197 : sv_S, (sm_pt (g197 68) (g197 69) (g197 70) = sm_pt (g15 68) (g15 69) (g15 70)) → (0 ≤ ((647740 : Int) + (1 : Int)) ∧ ((647740 : Int) + (1 : Int)) < 647800) ∧ (∀ r207 : Int, sv_R r207 → (r207 = 0 ∨ r207 = 1) → (((¬ r207 = (0 : Int)) → ((0 ≤ (g197 1145 0) ∧ (g197 1145 0) ≤ 1) → ((((g197 1145 0) = (0 : Int)) → (29 ≤ (S 1071 0) ∧ (S 1071 0) ≤ 127 ∧ 31 ≤ (S 1008 0) ∧ (S 1008 0) ≤ 90 ∧ 1 ≤ (S 1032 0) ∧ (S 1032 0) ≤ 11 ∧ 0 ≤ (S 1055 0) ∧ (S 1055 0) ≤ 19 ∧ (S 1071 0) = 29 + 6 * ((S 1032 0) - 1) + 2 * (S 1055 0) ∧ 0 ≤ (S 1046 0) ∧ (S 1046 0) + 2 * (S 1032 0) ≤ 500 ∧ sm_PD (S 1046 0) (S 1032 0) (S 1071 0) (S 1008 0) ∧ 0 ≤ (S 1071 0) * ((S 1008 0) + 1) ∧ (S 1071 0) * ((S 1008 0) + 1) ≤ 11557 ∧ 31 ≤ (S 1007 0) ∧ (S 1007 0) ≤ 400 ∧ sm_LN (S 4) 400 (S 1007 0) ∧ (S 75 639) = 647340 ∧ sm_ST (S 71) (S 74) (S 75) (S 78) (S 79) (S 80) (S 27) (S 1100007) (S 1100023) (S 1100024) (S 1046 0) ((S 1046 0) + 2 * (S 1032 0)) (S 1127 0) ∧ 465000 ≤ (S 1127 0) ∧ (S 1127 0) + sm_hs (S 71) (S 1100007) ≤ 635000 ∧ sm_NH (S 1100007) ∧ sm_CT (S 26) (S 27) (S 28) (S 29) (S 1100007) (S 1100023) (S 1100024) (S 1100025) (S 21) (S 1046 0) (S 1032 0) (S 1008 0) (S 1055 0) ∧ (∀ k : Int, (S 1046 0) ≤ k → k < ((S 1046 0) + 2 * (S 1032 0)) → (S 1100007 k) = 1) ∧ sm_DR (S 72) (S 71) (S 1046 0) ∧ 0 ≤ (S 74 639) ∧ (S 74 639) ≤ 400 ∧ 0 ≤ (S 78 639) ∧ (S 78 639) ≤ 40 ∧ (S 78 639) = sm_dp (S 1100024) (S 1100031 0) ∧ -1 ≤ (S 1100031 0) ∧ (S 1100031 0) < (S 1046 0) ∧ (0 ≤ (S 1100031 0) → (S 26 (S 1100031 0)) = 27) ∧ sm_TC (S 79) (S 80) (S 27) (S 1100007) (S 1100023) (S 1100024) 25560 (S 1100031 0) ∧ 0 ≤ (S 1148 0) ∧ (S 1148 0) + 1 < (S 1046 0) ∧ 0 ≤ (2 : Int) ∧ (2 : Int) ≤ (S 74 639) ∧ (S 74 639) - (2 : Int) ≤ 399 ∧ 0 ≤ (647740 : Int) ∧ (647740 : Int) < 647800 ∧ (S 1100007 ((S 1148 0) + 1)) = (S 74 639) - (2 : Int) + 1 ∧ (S 1100023 ((S 1148 0) + 1)) = (S 1100031 0)) ∧ (∀ g210 : sv_S, (sm_ST (g210 71) (g210 74) (g210 75) (g210 78) (g210 79) (g210 80) (S 27) (S 1100007) (S 1100023) (S 1100024) (S 1046 0) ((S 1046 0) + 2 * (S 1032 0)) (g210 1127 0) ∧ 465000 ≤ (g210 1127 0) ∧ (g210 1127 0) + sm_hs (g210 71) (S 1100007) ≤ 635000 ∧ (g210 75 639) = 647340 ∧ (∀ k : Int, (S 71 k) = 1 → (g210 71 k) = 1) ∧ sm_DR (g210 72) (g210 71) (S 1046 0) ∧ (641 * (sm_cm (g210 71) + sm_pt (g210 68) (g210 69) (g210 70) + sm_pl (g210 81) (g210 82) (g210 83) (g210 84) (g210 85) (g210 86) + sm_ps (g210 76) (g210 77)) + sm_du (g210 72)) ≤ (641 * (sm_cm (S 71) + sm_pt (g197 68) (g197 69) (g197 70) + sm_pl (S 81) (S 82) (S 83) (S 84) (S 85) (S 86) + sm_ps (S 76) (S 77)) + sm_du (S 72))) → ((((1 : Int) = (0 : Int)) → (sm_ST (g210 71) (g210 74) (g210 75) (g210 78) (g210 79) (g210 80) (S 27) (S 1100007) (S 1100023) (S 1100024) (S 1046 0) ((S 1046 0) + 2 * (S 1032 0)) (g210 1127 0) ∧ 465000 ≤ (g210 1127 0) ∧ (g210 1127 0) + sm_hs (g210 71) (S 1100007) ≤ 635000 ∧ (g210 75 639) = 647340 ∧ (∀ k : Int, (S 71 k) = 1 → (g210 71 k) = 1) ∧ sm_DR (g210 72) (g210 71) (S 1046 0) ∧ (641 * (sm_cm (g210 71) + sm_pt (g210 68) (g210 69) (g210 70) + sm_pl (g210 81) (g210 82) (g210 83) (g210 84) (g210 85) (g210 86) + sm_ps (g210 76) (g210 77)) + sm_du (g210 72)) ≤ (641 * (sm_cm (S 71) + sm_pt (S 68) (S 69) (S 70) + sm_pl (S 81) (S 82) (S 83) (S 84) (S 85) (S 86) + sm_ps (S 76) (S 77)) + sm_du (S 72)))) ∧ ((¬ ((1 : Int) = (0 : Int))) → (sv_R (S 1148 0) → (29 ≤ (S 1071 0) ∧ (S 1071 0) ≤ 127 ∧ 31 ≤ (S 1008 0) ∧ (S 1008 0) ≤ 90 ∧ 1 ≤ (S 1032 0) ∧ (S 1032 0) ≤ 11 ∧ 0 ≤ (S 1055 0) ∧ (S 1055 0) ≤ 19 ∧ (S 1071 0) = 29 + 6 * ((S 1032 0) - 1) + 2 * (S 1055 0) ∧ 0 ≤ (S 1046 0) ∧ (S 1046 0) + 2 * (S 1032 0) ≤ 500 ∧ sm_PD (S 1046 0) (S 1032 0) (S 1071 0) (S 1008 0) ∧ 0 ≤ (S 1071 0) * ((S 1008 0) + 1) ∧ (S 1071 0) * ((S 1008 0) + 1) ≤ 11557 ∧ 31 ≤ (S 1007 0) ∧ (S 1007 0) ≤ 400 ∧ sm_LN (S 4) 400 (S 1007 0) ∧ (g210 75 639) = 647340 ∧ sm_ST (g210 71) (g210 74) (g210 75) (g210 78) (g210 79) (g210 80) (S 27) (S 1100007) (S 1100023) (S 1100024) (S 1046 0) ((S 1046 0) + 2 * (S 1032 0)) (g210 1127 0) ∧ 465000 ≤ (g210 1127 0) ∧ (g210 1127 0) + sm_hs (g210 71) (S 1100007) ≤ 635000 ∧ sm_NH (S 1100007) ∧ sm_CT (S 26) (S 27) (S 28) (S 29) (S 1100007) (S 1100023) (S 1100024) (S 1100025) (S 21) (S 1046 0) (S 1032 0) (S 1008 0) (S 1055 0) ∧ (∀ k : Int, (S 1046 0) ≤ k → k < ((S 1046 0) + 2 * (S 1032 0)) → (S 1100007 k) = 1) ∧ sm_DR (g210 72) (g210 71) (S 1046 0) ∧ 0 ≤ (S 1148 0) ∧ (S 1148 0) < (S 1046 0) ∧ (g210 71 (S 1148 0)) = 1 ∧ (S 1148 0) = (S 1148 0) ∧ 6 ≤ (6 : Int) ∧ (6 : Int) ≤ 8) ∧ (∀ g217 : sv_S, (sm_ST (g217 71) (g217 74) (g217 75) (g217 78) (g217 79) (g217 80) (S 27) (S 1100007) (S 1100023) (S 1100024) (S 1046 0) ((S 1046 0) + 2 * (S 1032 0)) (g217 1127 0) ∧ 465000 ≤ (g217 1127 0) ∧ (g217 1127 0) + sm_hs (g217 71) (S 1100007) ≤ 635000 ∧ (g217 75 639) = 647340 ∧ (∀ k : Int, (g210 71 k) = 1 → (g217 71 k) = 1) ∧ sm_DR (g217 72) (g217 71) (S 1046 0) ∧ (641 * (sm_cm (g217 71) + sm_pt (g217 68) (g217 69) (g217 70) + sm_pl (g217 81) (g217 82) (g217 83) (g217 84) (g217 85) (g217 86) + sm_ps (g217 76) (g217 77)) + sm_du (g217 72)) ≤ (641 * (sm_cm (g210 71) + sm_pt (g210 68) (g210 69) (g210 70) + sm_pl (g210 81) (g210 82) (g210 83) (g210 84) (g210 85) (g210 86) + sm_ps (g210 76) (g210 77)) + sm_du (g210 72))) → (sm_ST (g217 71) (g217 74) (g217 75) (g217 78) (g217 79) (g217 80) (S 27) (S 1100007) (S 1100023) (S 1100024) (S 1046 0) ((S 1046 0) + 2 * (S 1032 0)) (g217 1127 0) ∧ 465000 ≤ (g217 1127 0) ∧ (g217 1127 0) + sm_hs (g217 71) (S 1100007) ≤ 635000 ∧ (g217 75 639) = 647340 ∧ (∀ k : Int, (S 71 k) = 1 → (g217 71 k) = 1) ∧ sm_DR (g217 72) (g217 71) (S 1046 0) ∧ (641 * (sm_cm (g217 71) + sm_pt (g217 68) (g217 69) (g217 70) + sm_pl (g217 81) (g217 82) (g217 83) (g217 84) (g217 85) (g217 86) + sm_ps (g217 76) (g217 77)) + sm_du (g217 72)) ≤ (641 * (sm_cm (S 71) + sm_pt (S 68) (S 69) (S 70) + sm_pl (S 81) (S 82) (S 83) (S 84) (S 85) (S 86) + sm_ps (S 76) (S 77)) + sm_du (S 72))))))))) ∧ ((¬ ((g197 1145 0) = (0 : Int))) → (635639 ≤ (647740 : Int) ∧ (647740 : Int) < 647790) ∧ (∀ g223 : sv_S, (sm_pt (g223 68) (g223 69) (g223 70) = sm_pt (g197 68) (g197 69) (g197 70)) → (29 ≤ (S 1071 0) ∧ (S 1071 0) ≤ 127 ∧ 31 ≤ (S 1008 0) ∧ (S 1008 0) ≤ 90 ∧ 1 ≤ (S 1032 0) ∧ (S 1032 0) ≤ 11 ∧ 0 ≤ (S 1055 0) ∧ (S 1055 0) ≤ 19 ∧ (S 1071 0) = 29 + 6 * ((S 1032 0) - 1) + 2 * (S 1055 0) ∧ 0 ≤ (S 1046 0) ∧ (S 1046 0) + 2 * (S 1032 0) ≤ 500 ∧ sm_PD (S 1046 0) (S 1032 0) (S 1071 0) (S 1008 0) ∧ 0 ≤ (S 1071 0) * ((S 1008 0) + 1) ∧ (S 1071 0) * ((S 1008 0) + 1) ≤ 11557 ∧ 31 ≤ (S 1007 0) ∧ (S 1007 0) ≤ 400 ∧ sm_LN (S 4) 400 (S 1007 0) ∧ (S 75 639) = 647340 ∧ sm_ST (S 71) (S 74) (S 75) (S 78) (S 79) (S 80) (S 27) (S 1100007) (S 1100023) (S 1100024) (S 1046 0) ((S 1046 0) + 2 * (S 1032 0)) (S 1127 0) ∧ 465000 ≤ (S 1127 0) ∧ (S 1127 0) + sm_hs (S 71) (S 1100007) ≤ 635000 ∧ sm_NH (S 1100007) ∧ sm_CT (S 26) (S 27) (S 28) (S 29) (S 1100007) (S 1100023) (S 1100024) (S 1100025) (S 21) (S 1046 0) (S 1032 0) (S 1008 0) (S 1055 0) ∧ (∀ k : Int, (S 1046 0) ≤ k → k < ((S 1046 0) + 2 * (S 1032 0)) → (S 1100007 k) = 1) ∧ sm_DR (S 72) (S 71) (S 1046 0) ∧ 0 ≤ (S 74 639) ∧ (S 74 639) ≤ 400 ∧ 0 ≤ (S 78 639) ∧ (S 78 639) ≤ 40 ∧ (S 78 639) = sm_dp (S 1100024) (S 1100031 0) ∧ -1 ≤ (S 1100031 0) ∧ (S 1100031 0) < (S 1046 0) ∧ (0 ≤ (S 1100031 0) → (S 26 (S 1100031 0)) = 27) ∧ sm_TC (S 79) (S 80) (S 27) (S 1100007) (S 1100023) (S 1100024) 25560 (S 1100031 0) ∧ 0 ≤ (S 1148 0) ∧ (S 1148 0) + 1 < (S 1046 0) ∧ 0 ≤ (2 : Int) ∧ (2 : Int) ≤ (S 74 639) ∧ (S 74 639) - (2 : Int) ≤ 399 ∧ 0 ≤ (647740 : Int) ∧ (647740 : Int) < 647800 ∧ (S 1100007 ((S 1148 0) + 1)) = (S 74 639) - (2 : Int) + 1 ∧ (S 1100023 ((S 1148 0) + 1)) = (S 1100031 0)) ∧ (∀ g229 : sv_S, (sm_ST (g229 71) (g229 74) (g229 75) (g229 78) (g229 79) (g229 80) (S 27) (S 1100007) (S 1100023) (S 1100024) (S 1046 0) ((S 1046 0) + 2 * (S 1032 0)) (g229 1127 0) ∧ 465000 ≤ (g229 1127 0) ∧ (g229 1127 0) + sm_hs (g229 71) (S 1100007) ≤ 635000 ∧ (g229 75 639) = 647340 ∧ (∀ k : Int, (S 71 k) = 1 → (g229 71 k) = 1) ∧ sm_DR (g229 72) (g229 71) (S 1046 0) ∧ (641 * (sm_cm (g229 71) + sm_pt (g229 68) (g229 69) (g229 70) + sm_pl (g229 81) (g229 82) (g229 83) (g229 84) (g229 85) (g229 86) + sm_ps (g229 76) (g229 77)) + sm_du (g229 72)) ≤ (641 * (sm_cm (S 71) + sm_pt (g223 68) (g223 69) (g223 70) + sm_pl (S 81) (S 82) (S 83) (S 84) (S 85) (S 86) + sm_ps (S 76) (S 77)) + sm_du (S 72))) → ((((1 : Int) = (0 : Int)) → (sm_ST (g229 71) (g229 74) (g229 75) (g229 78) (g229 79) (g229 80) (S 27) (S 1100007) (S 1100023) (S 1100024) (S 1046 0) ((S 1046 0) + 2 * (S 1032 0)) (g229 1127 0) ∧ 465000 ≤ (g229 1127 0) ∧ (g229 1127 0) + sm_hs (g229 71) (S 1100007) ≤ 635000 ∧ (g229 75 639) = 647340 ∧ (∀ k : Int, (S 71 k) = 1 → (g229 71 k) = 1) ∧ sm_DR (g229 72) (g229 71) (S 1046 0) ∧ (641 * (sm_cm (g229 71) + sm_pt (g229 68) (g229 69) (g229 70) + sm_pl (g229 81) (g229 82) (g229 83) (g229 84) (g229 85) (g229 86) + sm_ps (g229 76) (g229 77)) + sm_du (g229 72)) ≤ (641 * (sm_cm (S 71) + sm_pt (S 68) (S 69) (S 70) + sm_pl (S 81) (S 82) (S 83) (S 84) (S 85) (S 86) + sm_ps (S 76) (S 77)) + sm_du (S 72)))) ∧ ((¬ ((1 : Int) = (0 : Int))) → (sv_R (S 1148 0) → (29 ≤ (S 1071 0) ∧ (S 1071 0) ≤ 127 ∧ 31 ≤ (S 1008 0) ∧ (S 1008 0) ≤ 90 ∧ 1 ≤ (S 1032 0) ∧ (S 1032 0) ≤ 11 ∧ 0 ≤ (S 1055 0) ∧ (S 1055 0) ≤ 19 ∧ (S 1071 0) = 29 + 6 * ((S 1032 0) - 1) + 2 * (S 1055 0) ∧ 0 ≤ (S 1046 0) ∧ (S 1046 0) + 2 * (S 1032 0) ≤ 500 ∧ sm_PD (S 1046 0) (S 1032 0) (S 1071 0) (S 1008 0) ∧ 0 ≤ (S 1071 0) * ((S 1008 0) + 1) ∧ (S 1071 0) * ((S 1008 0) + 1) ≤ 11557 ∧ 31 ≤ (S 1007 0) ∧ (S 1007 0) ≤ 400 ∧ sm_LN (S 4) 400 (S 1007 0) ∧ (g229 75 639) = 647340 ∧ sm_ST (g229 71) (g229 74) (g229 75) (g229 78) (g229 79) (g229 80) (S 27) (S 1100007) (S 1100023) (S 1100024) (S 1046 0) ((S 1046 0) + 2 * (S 1032 0)) (g229 1127 0) ∧ 465000 ≤ (g229 1127 0) ∧ (g229 1127 0) + sm_hs (g229 71) (S 1100007) ≤ 635000 ∧ sm_NH (S 1100007) ∧ sm_CT (S 26) (S 27) (S 28) (S 29) (S 1100007) (S 1100023) (S 1100024) (S 1100025) (S 21) (S 1046 0) (S 1032 0) (S 1008 0) (S 1055 0) ∧ (∀ k : Int, (S 1046 0) ≤ k → k < ((S 1046 0) + 2 * (S 1032 0)) → (S 1100007 k) = 1) ∧ sm_DR (g229 72) (g229 71) (S 1046 0) ∧ 0 ≤ (S 1148 0) ∧ (S 1148 0) < (S 1046 0) ∧ (g229 71 (S 1148 0)) = 1 ∧ (S 1148 0) = (S 1148 0) ∧ 6 ≤ (6 : Int) ∧ (6 : Int) ≤ 8) ∧ (∀ g236 : sv_S, (sm_ST (g236 71) (g236 74) (g236 75) (g236 78) (g236 79) (g236 80) (S 27) (S 1100007) (S 1100023) (S 1100024) (S 1046 0) ((S 1046 0) + 2 * (S 1032 0)) (g236 1127 0) ∧ 465000 ≤ (g236 1127 0) ∧ (g236 1127 0) + sm_hs (g236 71) (S 1100007) ≤ 635000 ∧ (g236 75 639) = 647340 ∧ (∀ k : Int, (g229 71 k) = 1 → (g236 71 k) = 1) ∧ sm_DR (g236 72) (g236 71) (S 1046 0) ∧ (641 * (sm_cm (g236 71) + sm_pt (g236 68) (g236 69) (g236 70) + sm_pl (g236 81) (g236 82) (g236 83) (g236 84) (g236 85) (g236 86) + sm_ps (g236 76) (g236 77)) + sm_du (g236 72)) ≤ (641 * (sm_cm (g229 71) + sm_pt (g229 68) (g229 69) (g229 70) + sm_pl (g229 81) (g229 82) (g229 83) (g229 84) (g229 85) (g229 86) + sm_ps (g229 76) (g229 77)) + sm_du (g229 72))) → (sm_ST (g236 71) (g236 74) (g236 75) (g236 78) (g236 79) (g236 80) (S 27) (S 1100007) (S 1100023) (S 1100024) (S 1046 0) ((S 1046 0) + 2 * (S 1032 0)) (g236 1127 0) ∧ 465000 ≤ (g236 1127 0) ∧ (g236 1127 0) + sm_hs (g236 71) (S 1100007) ≤ 635000 ∧ (g236 75 639) = 647340 ∧ (∀ k : Int, (S 71 k) = 1 → (g236 71 k) = 1) ∧ sm_DR (g236 72) (g236 71) (S 1046 0) ∧ (641 * (sm_cm (g236 71) + sm_pt (g236 68) (g236 69) (g236 70) + sm_pl (g236 81) (g236 82) (g236 83) (g236 84) (g236 85) (g236 86) + sm_ps (g236 76) (g236 77)) + sm_du (g236 72)) ≤ (641 * (sm_cm (S 71) + sm_pt (S 68) (S 69) (S 70) + sm_pl (S 81) (S 82) (S 83) (S 84) (S 85) (S 86) + sm_ps (S 76) (S 77)) + sm_du (S 72))))))))))))) ∧ ((¬ (¬ r207 = (0 : Int))) → (635639 ≤ (647740 : Int) ∧ (647740 : Int) < 647790) ∧ (∀ g242 : sv_S, (sm_pt (g242 68) (g242 69) (g242 70) = sm_pt (g197 68) (g197 69) (g197 70)) → ((0 ≤ (g197 1145 0) ∧ (g197 1145 0) ≤ 1) → ((((g197 1145 0) = (0 : Int)) → (29 ≤ (S 1071 0) ∧ (S 1071 0) ≤ 127 ∧ 31 ≤ (S 1008 0) ∧ (S 1008 0) ≤ 90 ∧ 1 ≤ (S 1032 0) ∧ (S 1032 0) ≤ 11 ∧ 0 ≤ (S 1055 0) ∧ (S 1055 0) ≤ 19 ∧ (S 1071 0) = 29 + 6 * ((S 1032 0) - 1) + 2 * (S 1055 0) ∧ 0 ≤ (S 1046 0) ∧ (S 1046 0) + 2 * (S 1032 0) ≤ 500 ∧ sm_PD (S 1046 0) (S 1032 0) (S 1071 0) (S 1008 0) ∧ 0 ≤ (S 1071 0) * ((S 1008 0) + 1) ∧ (S 1071 0) * ((S 1008 0) + 1) ≤ 11557 ∧ 31 ≤ (S 1007 0) ∧ (S 1007 0) ≤ 400 ∧ sm_LN (S 4) 400 (S 1007 0) ∧ (S 75 639) = 647340 ∧ sm_ST (S 71) (S 74) (S 75) (S 78) (S 79) (S 80) (S 27) (S 1100007) (S 1100023) (S 1100024) (S 1046 0) ((S 1046 0) + 2 * (S 1032 0)) (S 1127 0) ∧ 465000 ≤ (S 1127 0) ∧ (S 1127 0) + sm_hs (S 71) (S 1100007) ≤ 635000 ∧ sm_NH (S 1100007) ∧ sm_CT (S 26) (S 27) (S 28) (S 29) (S 1100007) (S 1100023) (S 1100024) (S 1100025) (S 21) (S 1046 0) (S 1032 0) (S 1008 0) (S 1055 0) ∧ (∀ k : Int, (S 1046 0) ≤ k → k < ((S 1046 0) + 2 * (S 1032 0)) → (S 1100007 k) = 1) ∧ sm_DR (S 72) (S 71) (S 1046 0) ∧ 0 ≤ (S 74 639) ∧ (S 74 639) ≤ 400 ∧ 0 ≤ (S 78 639) ∧ (S 78 639) ≤ 40 ∧ (S 78 639) = sm_dp (S 1100024) (S 1100031 0) ∧ -1 ≤ (S 1100031 0) ∧ (S 1100031 0) < (S 1046 0) ∧ (0 ≤ (S 1100031 0) → (S 26 (S 1100031 0)) = 27) ∧ sm_TC (S 79) (S 80) (S 27) (S 1100007) (S 1100023) (S 1100024) 25560 (S 1100031 0) ∧ 0 ≤ (S 1148 0) ∧ (S 1148 0) + 1 < (S 1046 0) ∧ 0 ≤ (2 : Int) ∧ (2 : Int) ≤ (S 74 639) ∧ (S 74 639) - (2 : Int) ≤ 399 ∧ 0 ≤ (647740 : Int) ∧ (647740 : Int) < 647800 ∧ (S 1100007 ((S 1148 0) + 1)) = (S 74 639) - (2 : Int) + 1 ∧ (S 1100023 ((S 1148 0) + 1)) = (S 1100031 0)) ∧ (∀ g249 : sv_S, (sm_ST (g249 71) (g249 74) (g249 75) (g249 78) (g249 79) (g249 80) (S 27) (S 1100007) (S 1100023) (S 1100024) (S 1046 0) ((S 1046 0) + 2 * (S 1032 0)) (g249 1127 0) ∧ 465000 ≤ (g249 1127 0) ∧ (g249 1127 0) + sm_hs (g249 71) (S 1100007) ≤ 635000 ∧ (g249 75 639) = 647340 ∧ (∀ k : Int, (S 71 k) = 1 → (g249 71 k) = 1) ∧ sm_DR (g249 72) (g249 71) (S 1046 0) ∧ (641 * (sm_cm (g249 71) + sm_pt (g249 68) (g249 69) (g249 70) + sm_pl (g249 81) (g249 82) (g249 83) (g249 84) (g249 85) (g249 86) + sm_ps (g249 76) (g249 77)) + sm_du (g249 72)) ≤ (641 * (sm_cm (S 71) + sm_pt (g242 68) (g242 69) (g242 70) + sm_pl (S 81) (S 82) (S 83) (S 84) (S 85) (S 86) + sm_ps (S 76) (S 77)) + sm_du (S 72))) → ((((1 : Int) = (0 : Int)) → (sm_ST (g249 71) (g249 74) (g249 75) (g249 78) (g249 79) (g249 80) (S 27) (S 1100007) (S 1100023) (S 1100024) (S 1046 0) ((S 1046 0) + 2 * (S 1032 0)) (g249 1127 0) ∧ 465000 ≤ (g249 1127 0) ∧ (g249 1127 0) + sm_hs (g249 71) (S 1100007) ≤ 635000 ∧ (g249 75 639) = 647340 ∧ (∀ k : Int, (S 71 k) = 1 → (g249 71 k) = 1) ∧ sm_DR (g249 72) (g249 71) (S 1046 0) ∧ (641 * (sm_cm (g249 71) + sm_pt (g249 68) (g249 69) (g249 70) + sm_pl (g249 81) (g249 82) (g249 83) (g249 84) (g249 85) (g249 86) + sm_ps (g249 76) (g249 77)) + sm_du (g249 72)) ≤ (641 * (sm_cm (S 71) + sm_pt (S 68) (S 69) (S 70) + sm_pl (S 81) (S 82) (S 83) (S 84) (S 85) (S 86) + sm_ps (S 76) (S 77)) + sm_du (S 72)))) ∧ ((¬ ((1 : Int) = (0 : Int))) → (sv_R (S 1148 0) → (29 ≤ (S 1071 0) ∧ (S 1071 0) ≤ 127 ∧ 31 ≤ (S 1008 0) ∧ (S 1008 0) ≤ 90 ∧ 1 ≤ (S 1032 0) ∧ (S 1032 0) ≤ 11 ∧ 0 ≤ (S 1055 0) ∧ (S 1055 0) ≤ 19 ∧ (S 1071 0) = 29 + 6 * ((S 1032 0) - 1) + 2 * (S 1055 0) ∧ 0 ≤ (S 1046 0) ∧ (S 1046 0) + 2 * (S 1032 0) ≤ 500 ∧ sm_PD (S 1046 0) (S 1032 0) (S 1071 0) (S 1008 0) ∧ 0 ≤ (S 1071 0) * ((S 1008 0) + 1) ∧ (S 1071 0) * ((S 1008 0) + 1) ≤ 11557 ∧ 31 ≤ (S 1007 0) ∧ (S 1007 0) ≤ 400 ∧ sm_LN (S 4) 400 (S 1007 0) ∧ (g249 75 639) = 647340 ∧ sm_ST (g249 71) (g249 74) (g249 75) (g249 78) (g249 79) (g249 80) (S 27) (S 1100007) (S 1100023) (S 1100024) (S 1046 0) ((S 1046 0) + 2 * (S 1032 0)) (g249 1127 0) ∧ 465000 ≤ (g249 1127 0) ∧ (g249 1127 0) + sm_hs (g249 71) (S 1100007) ≤ 635000 ∧ sm_NH (S 1100007) ∧ sm_CT (S 26) (S 27) (S 28) (S 29) (S 1100007) (S 1100023) (S 1100024) (S 1100025) (S 21) (S 1046 0) (S 1032 0) (S 1008 0) (S 1055 0) ∧ (∀ k : Int, (S 1046 0) ≤ k → k < ((S 1046 0) + 2 * (S 1032 0)) → (S 1100007 k) = 1) ∧ sm_DR (g249 72) (g249 71) (S 1046 0) ∧ 0 ≤ (S 1148 0) ∧ (S 1148 0) < (S 1046 0) ∧ (g249 71 (S 1148 0)) = 1 ∧ (S 1148 0) = (S 1148 0) ∧ 6 ≤ (6 : Int) ∧ (6 : Int) ≤ 8) ∧ (∀ g256 : sv_S, (sm_ST (g256 71) (g256 74) (g256 75) (g256 78) (g256 79) (g256 80) (S 27) (S 1100007) (S 1100023) (S 1100024) (S 1046 0) ((S 1046 0) + 2 * (S 1032 0)) (g256 1127 0) ∧ 465000 ≤ (g256 1127 0) ∧ (g256 1127 0) + sm_hs (g256 71) (S 1100007) ≤ 635000 ∧ (g256 75 639) = 647340 ∧ (∀ k : Int, (g249 71 k) = 1 → (g256 71 k) = 1) ∧ sm_DR (g256 72) (g256 71) (S 1046 0) ∧ (641 * (sm_cm (g256 71) + sm_pt (g256 68) (g256 69) (g256 70) + sm_pl (g256 81) (g256 82) (g256 83) (g256 84) (g256 85) (g256 86) + sm_ps (g256 76) (g256 77)) + sm_du (g256 72)) ≤ (641 * (sm_cm (g249 71) + sm_pt (g249 68) (g249 69) (g249 70) + sm_pl (g249 81) (g249 82) (g249 83) (g249 84) (g249 85) (g249 86) + sm_ps (g249 76) (g249 77)) + sm_du (g249 72))) → (sm_ST (g256 71) (g256 74) (g256 75) (g256 78) (g256 79) (g256 80) (S 27) (S 1100007) (S 1100023) (S 1100024) (S 1046 0) ((S 1046 0) + 2 * (S 1032 0)) (g256 1127 0) ∧ 465000 ≤ (g256 1127 0) ∧ (g256 1127 0) + sm_hs (g256 71) (S 1100007) ≤ 635000 ∧ (g256 75 639) = 647340 ∧ (∀ k : Int, (S 71 k) = 1 → (g256 71 k) = 1) ∧ sm_DR (g256 72) (g256 71) (S 1046 0) ∧ (641 * (sm_cm (g256 71) + sm_pt (g256 68) (g256 69) (g256 70) + sm_pl (g256 81) (g256 82) (g256 83) (g256 84) (g256 85) (g256 86) + sm_ps (g256 76) (g256 77)) + sm_du (g256 72)) ≤ (641 * (sm_cm (S 71) + sm_pt (S 68) (S 69) (S 70) + sm_pl (S 81) (S 82) (S 83) (S 84) (S 85) (S 86) + sm_ps (S 76) (S 77)) + sm_du (S 72))))))))) ∧ ((¬ ((g197 1145 0) = (0 : Int))) → (∀ g261 : sv_S, (sm_pt (g261 68) (g261 69) (g261 70) = sm_pt (g242 68) (g242 69) (g242 70)) → (29 ≤ (S 1071 0) ∧ (S 1071 0) ≤ 127 ∧ 31 ≤ (S 1008 0) ∧ (S 1008 0) ≤ 90 ∧ 1 ≤ (S 1032 0) ∧ (S 1032 0) ≤ 11 ∧ 0 ≤ (S 1055 0) ∧ (S 1055 0) ≤ 19 ∧ (S 1071 0) = 29 + 6 * ((S 1032 0) - 1) + 2 * (S 1055 0) ∧ 0 ≤ (S 1046 0) ∧ (S 1046 0) + 2 * (S 1032 0) ≤ 500 ∧ sm_PD (S 1046 0) (S 1032 0) (S 1071 0) (S 1008 0) ∧ 0 ≤ (S 1071 0) * ((S 1008 0) + 1) ∧ (S 1071 0) * ((S 1008 0) + 1) ≤ 11557 ∧ 31 ≤ (S 1007 0) ∧ (S 1007 0) ≤ 400 ∧ sm_LN (S 4) 400 (S 1007 0) ∧ (S 75 639) = 647340 ∧ sm_ST (S 71) (S 74) (S 75) (S 78) (S 79) (S 80) (S 27) (S 1100007) (S 1100023) (S 1100024) (S 1046 0) ((S 1046 0) + 2 * (S 1032 0)) (S 1127 0) ∧ 465000 ≤ (S 1127 0) ∧ (S 1127 0) + sm_hs (S 71) (S 1100007) ≤ 635000 ∧ sm_NH (S 1100007) ∧ sm_CT (S 26) (S 27) (S 28) (S 29) (S 1100007) (S 1100023) (S 1100024) (S 1100025) (S 21) (S 1046 0) (S 1032 0) (S 1008 0) (S 1055 0) ∧ (∀ k : Int, (S 1046 0) ≤ k → k < ((S 1046 0) + 2 * (S 1032 0)) → (S 1100007 k) = 1) ∧ sm_DR (S 72) (S 71) (S 1046 0) ∧ 0 ≤ (S 74 639) ∧ (S 74 639) ≤ 400 ∧ 0 ≤ (S 78 639) ∧ (S 78 639) ≤ 40 ∧ (S 78 639) = sm_dp (S 1100024) (S 1100031 0) ∧ -1 ≤ (S 1100031 0) ∧ (S 1100031 0) < (S 1046 0) ∧ (0 ≤ (S 1100031 0) → (S 26 (S 1100031 0)) = 27) ∧ sm_TC (S 79) (S 80) (S 27) (S 1100007) (S 1100023) (S 1100024) 25560 (S 1100031 0) ∧ 0 ≤ (S 1148 0) ∧ (S 1148 0) + 1 < (S 1046 0) ∧ 0 ≤ (2 : Int) ∧ (2 : Int) ≤ (S 74 639) ∧ (S 74 639) - (2 : Int) ≤ 399 ∧ 0 ≤ (647740 : Int) ∧ (647740 : Int) < 647800 ∧ (S 1100007 ((S 1148 0) + 1)) = (S 74 639) - (2 : Int) + 1 ∧ (S 1100023 ((S 1148 0) + 1)) = (S 1100031 0)) ∧ (∀ g267 : sv_S, (sm_ST (g267 71) (g267 74) (g267 75) (g267 78) (g267 79) (g267 80) (S 27) (S 1100007) (S 1100023) (S 1100024) (S 1046 0) ((S 1046 0) + 2 * (S 1032 0)) (g267 1127 0) ∧ 465000 ≤ (g267 1127 0) ∧ (g267 1127 0) + sm_hs (g267 71) (S 1100007) ≤ 635000 ∧ (g267 75 639) = 647340 ∧ (∀ k : Int, (S 71 k) = 1 → (g267 71 k) = 1) ∧ sm_DR (g267 72) (g267 71) (S 1046 0) ∧ (641 * (sm_cm (g267 71) + sm_pt (g267 68) (g267 69) (g267 70) + sm_pl (g267 81) (g267 82) (g267 83) (g267 84) (g267 85) (g267 86) + sm_ps (g267 76) (g267 77)) + sm_du (g267 72)) ≤ (641 * (sm_cm (S 71) + sm_pt (g261 68) (g261 69) (g261 70) + sm_pl (S 81) (S 82) (S 83) (S 84) (S 85) (S 86) + sm_ps (S 76) (S 77)) + sm_du (S 72))) → ((((1 : Int) = (0 : Int)) → (sm_ST (g267 71) (g267 74) (g267 75) (g267 78) (g267 79) (g267 80) (S 27) (S 1100007) (S 1100023) (S 1100024) (S 1046 0) ((S 1046 0) + 2 * (S 1032 0)) (g267 1127 0) ∧ 465000 ≤ (g267 1127 0) ∧ (g267 1127 0) + sm_hs (g267 71) (S 1100007) ≤ 635000 ∧ (g267 75 639) = 647340 ∧ (∀ k : Int, (S 71 k) = 1 → (g267 71 k) = 1) ∧ sm_DR (g267 72) (g267 71) (S 1046 0) ∧ (641 * (sm_cm (g267 71) + sm_pt (g267 68) (g267 69) (g267 70) + sm_pl (g267 81) (g267 82) (g267 83) (g267 84) (g267 85) (g267 86) + sm_ps (g267 76) (g267 77)) + sm_du (g267 72)) ≤ (641 * (sm_cm (S 71) + sm_pt (S 68) (S 69) (S 70) + sm_pl (S 81) (S 82) (S 83) (S 84) (S 85) (S 86) + sm_ps (S 76) (S 77)) + sm_du (S 72)))) ∧ ((¬ ((1 : Int) = (0 : Int))) → (sv_R (S 1148 0) → (29 ≤ (S 1071 0) ∧ (S 1071 0) ≤ 127 ∧ 31 ≤ (S 1008 0) ∧ (S 1008 0) ≤ 90 ∧ 1 ≤ (S 1032 0) ∧ (S 1032 0) ≤ 11 ∧ 0 ≤ (S 1055 0) ∧ (S 1055 0) ≤ 19 ∧ (S 1071 0) = 29 + 6 * ((S 1032 0) - 1) + 2 * (S 1055 0) ∧ 0 ≤ (S 1046 0) ∧ (S 1046 0) + 2 * (S 1032 0) ≤ 500 ∧ sm_PD (S 1046 0) (S 1032 0) (S 1071 0) (S 1008 0) ∧ 0 ≤ (S 1071 0) * ((S 1008 0) + 1) ∧ (S 1071 0) * ((S 1008 0) + 1) ≤ 11557 ∧ 31 ≤ (S 1007 0) ∧ (S 1007 0) ≤ 400 ∧ sm_LN (S 4) 400 (S 1007 0) ∧ (g267 75 639) = 647340 ∧ sm_ST (g267 71) (g267 74) (g267 75) (g267 78) (g267 79) (g267 80) (S 27) (S 1100007) (S 1100023) (S 1100024) (S 1046 0) ((S 1046 0) + 2 * (S 1032 0)) (g267 1127 0) ∧ 465000 ≤ (g267 1127 0) ∧ (g267 1127 0) + sm_hs (g267 71) (S 1100007) ≤ 635000 ∧ sm_NH (S 1100007) ∧ sm_CT (S 26) (S 27) (S 28) (S 29) (S 1100007) (S 1100023) (S 1100024) (S 1100025) (S 21) (S 1046 0) (S 1032 0) (S 1008 0) (S 1055 0) ∧ (∀ k : Int, (S 1046 0) ≤ k → k < ((S 1046 0) + 2 * (S 1032 0)) → (S 1100007 k) = 1) ∧ sm_DR (g267 72) (g267 71) (S 1046 0) ∧ 0 ≤ (S 1148 0) ∧ (S 1148 0) < (S 1046 0) ∧ (g267 71 (S 1148 0)) = 1 ∧ (S 1148 0) = (S 1148 0) ∧ 6 ≤ (6 : Int) ∧ (6 : Int) ≤ 8) ∧ (∀ g274 : sv_S, (sm_ST (g274 71) (g274 74) (g274 75) (g274 78) (g274 79) (g274 80) (S 27) (S 1100007) (S 1100023) (S 1100024) (S 1046 0) ((S 1046 0) + 2 * (S 1032 0)) (g274 1127 0) ∧ 465000 ≤ (g274 1127 0) ∧ (g274 1127 0) + sm_hs (g274 71) (S 1100007) ≤ 635000 ∧ (g274 75 639) = 647340 ∧ (∀ k : Int, (g267 71 k) = 1 → (g274 71 k) = 1) ∧ sm_DR (g274 72) (g274 71) (S 1046 0) ∧ (641 * (sm_cm (g274 71) + sm_pt (g274 68) (g274 69) (g274 70) + sm_pl (g274 81) (g274 82) (g274 83) (g274 84) (g274 85) (g274 86) + sm_ps (g274 76) (g274 77)) + sm_du (g274 72)) ≤ (641 * (sm_cm (g267 71) + sm_pt (g267 68) (g267 69) (g267 70) + sm_pl (g267 81) (g267 82) (g267 83) (g267 84) (g267 85) (g267 86) + sm_ps (g267 76) (g267 77)) + sm_du (g267 72))) → (sm_ST (g274 71) (g274 74) (g274 75) (g274 78) (g274 79) (g274 80) (S 27) (S 1100007) (S 1100023) (S 1100024) (S 1046 0) ((S 1046 0) + 2 * (S 1032 0)) (g274 1127 0) ∧ 465000 ≤ (g274 1127 0) ∧ (g274 1127 0) + sm_hs (g274 71) (S 1100007) ≤ 635000 ∧ (g274 75 639) = 647340 ∧ (∀ k : Int, (S 71 k) = 1 → (g274 71 k) = 1) ∧ sm_DR (g274 72) (g274 71) (S 1046 0) ∧ (641 * (sm_cm (g274 71) + sm_pt (g274 68) (g274 69) (g274 70) + sm_pl (g274 81) (g274 82) (g274 83) (g274 84) (g274 85) (g274 86) + sm_ps (g274 76) (g274 77)) + sm_du (g274 72)) ≤ (641 * (sm_cm (S 71) + sm_pt (S 68) (S 69) (S 70) + sm_pl (S 81) (S 82) (S 83) (S 84) (S 85) (S 86) + sm_ps (S 76) (S 77)) + sm_du (S 72)))))))))))))))))))))))))))))))) := by
  intro p1
  intro S
  intro h1_
  intro h2_
  rintro ⟨h3_, ⟨h4_, ⟨h5_, ⟨h6_, ⟨h7_, ⟨h8_, ⟨h9_, ⟨h10_, ⟨h11_, ⟨h12_, ⟨h13_, ⟨h14_, ⟨h15_, ⟨h16_, ⟨h17_, ⟨h18_, ⟨h19_, ⟨h20_, ⟨h21_, ⟨h22_, ⟨h23_, ⟨h24_, ⟨h25_, ⟨h26_, ⟨h27_, ⟨h28_, ⟨h29_, ⟨h30_, ⟨h31_, ⟨h32_, ⟨h33_, ⟨h34_, ⟨h35_, ⟨h36_, ⟨h37_, ⟨h38_, ⟨h39_, ⟨h40_, ⟨h41_, ⟨h42_, ⟨h43_, ⟨h44_, ⟨h45_, ⟨h46_, h47_⟩⟩⟩⟩⟩⟩⟩⟩⟩⟩⟩⟩⟩⟩⟩⟩⟩⟩⟩⟩⟩⟩⟩⟩⟩⟩⟩⟩⟩⟩⟩⟩⟩⟩⟩⟩⟩⟩⟩⟩⟩⟩⟩⟩
  intro h48_
  have h49_ := (h48_ h25_)
  have h50_ := (h49_ h37_)
  obtain ⟨h51_, ⟨h52_, ⟨h53_, h54_⟩⟩⟩ := (h50_ h38_)
  refine ⟨(la_waysOfBinary_0 h20_ h40_ h42_ h52_), ?_⟩
  intro r7
  intro h55_
  intro h56_
  refine ⟨(la_waysOfBinary_1 h20_ h40_ h42_ h52_), ?_⟩
  intro r13
  intro h57_
  intro h58_
  refine ⟨la_waysOfBinary_2, ?_⟩
  intro g15
  intro h59_
  have h60_ := (h59_ la_waysOfBinary_3)
  refine ⟨?_, ?_⟩
  · skip
    intro h61_
    refine ⟨?_, ?_⟩
    · skip
      intro h62_
      refine ⟨⟨h3_, ⟨h4_, ⟨h5_, ⟨h6_, ⟨h7_, ⟨h8_, ⟨h9_, ⟨h10_, ⟨h11_, ⟨h12_, ⟨h13_, ⟨h14_, ⟨h15_, ⟨h16_, ⟨h17_, ⟨h18_, ⟨h19_, (la_waysOfBinary_7 h28_ h29_ h43_ h56_ h58_ (la_waysOfBinary_6 (la_waysOfBinary_5 (la_waysOfBinary_4 h44_ h62_)) h61_))⟩⟩⟩⟩⟩⟩⟩⟩⟩⟩⟩⟩⟩⟩⟩⟩⟩, ?_⟩
      intro g21
      intro h63_
      refine ⟨⟨h3_, ⟨h4_, ⟨h5_, ⟨h6_, ⟨h7_, ⟨h8_, ⟨h9_, ⟨h10_, ⟨h11_, ⟨h12_, ⟨h13_, ⟨h14_, ⟨h15_, ⟨h16_, ⟨h17_, ⟨h18_, ⟨h19_, ⟨h20_, ⟨h21_, ⟨h22_, ⟨h23_, ⟨h24_, ⟨h25_, ⟨h26_, ⟨h27_, ⟨h28_, ⟨h29_, ⟨h30_, ⟨h31_, ⟨h32_, ⟨h33_, ⟨h34_, ⟨h35_, ⟨h36_, (la_waysOfBinary_8 h37_ h40_ h41_ h42_ h45_ h46_ h47_ h52_)⟩⟩⟩⟩⟩⟩⟩⟩⟩⟩⟩⟩⟩⟩⟩⟩⟩⟩⟩⟩⟩⟩⟩⟩⟩⟩⟩⟩⟩⟩⟩⟩⟩⟩, ?_⟩
      intro g27
      rintro ⟨h64_, ⟨h65_, ⟨h66_, ⟨h67_, ⟨h68_, ⟨h69_, h70_⟩⟩⟩⟩⟩⟩
      refine ⟨?_, ?_⟩
      · skip
        intro h71_
        refine ⟨h64_, ?_⟩
        refine ⟨h65_, ?_⟩
        refine ⟨h66_, ?_⟩
        refine ⟨h67_, ?_⟩
        refine ⟨h68_, ?_⟩
        refine ⟨h69_, ?_⟩
        exact (la_waysOfBinary_9 h60_ h63_ h70_)
      intro h72_
      intro h73_
      have h74_ := (h35_ (la_waysOfBinary_12 (la_waysOfBinary_11 la_waysOfBinary_10 h72_)))
      refine ⟨⟨h3_, ⟨h4_, ⟨h5_, ⟨h6_, ⟨h7_, ⟨h8_, ⟨h9_, ⟨h10_, ⟨h11_, ⟨h12_, ⟨h13_, ⟨h14_, ⟨h15_, ⟨h16_, ⟨h17_, ⟨h18_, ⟨h19_, ⟨h67_, ⟨h64_, ⟨h65_, ⟨h66_, ⟨h24_, ⟨h25_, ⟨h26_, ⟨h69_, (la_waysOfBinary_13 (la_waysOfBinary_11 la_waysOfBinary_10 h72_))⟩⟩⟩⟩⟩⟩⟩⟩⟩⟩⟩⟩⟩⟩⟩⟩⟩⟩⟩⟩⟩⟩⟩⟩⟩, ?_⟩
      intro g34
      rintro ⟨h75_, ⟨h76_, ⟨h77_, ⟨h78_, ⟨h79_, ⟨h80_, h81_⟩⟩⟩⟩⟩⟩
      refine ⟨h75_, ?_⟩
      refine ⟨h76_, ?_⟩
      refine ⟨h77_, ?_⟩
      refine ⟨h78_, ?_⟩
      refine ⟨?_, ?_⟩
      · skip
        intro k
        intro h82_
        exact (la_waysOfBinary_14 (la_waysOfBinary_11 la_waysOfBinary_10 h72_))
      refine ⟨h80_, ?_⟩
      exact (la_waysOfBinary_15 (la_waysOfBinary_11 la_waysOfBinary_10 h72_))
    intro h83_
    refine ⟨⟨h3_, ⟨h4_, ⟨h5_, ⟨h6_, ⟨h7_, ⟨h8_, ⟨h9_, ⟨h10_, ⟨h11_, ⟨h12_, ⟨h13_, ⟨h14_, ⟨h15_, ⟨h16_, ⟨h17_, ⟨h18_, ⟨h19_, (la_waysOfBinary_18 h28_ h29_ h56_ h58_)⟩⟩⟩⟩⟩⟩⟩⟩⟩⟩⟩⟩⟩⟩⟩⟩⟩, ?_⟩
    intro r44
    intro h84_
    intro g40
    rintro ⟨h85_, h86_⟩
    refine ⟨⟨h3_, ⟨h4_, ⟨h5_, ⟨h6_, ⟨h7_, ⟨h8_, ⟨h9_, ⟨h10_, ⟨h11_, ⟨h12_, ⟨h13_, ⟨h14_, ⟨h15_, ⟨h16_, ⟨h17_, ⟨h18_, ⟨h19_, ⟨h20_, ⟨h21_, ⟨h22_, ⟨h23_, ⟨h24_, ⟨h25_, ⟨h26_, ⟨h27_, ⟨h28_, ⟨h29_, ⟨h30_, ⟨h31_, ⟨h32_, ⟨h33_, ⟨h34_, ⟨h35_, ⟨h36_, (la_waysOfBinary_8 h37_ h40_ h41_ h42_ h45_ h46_ h47_ h52_)⟩⟩⟩⟩⟩⟩⟩⟩⟩⟩⟩⟩⟩⟩⟩⟩⟩⟩⟩⟩⟩⟩⟩⟩⟩⟩⟩⟩⟩⟩⟩⟩⟩⟩, ?_⟩
    intro g47
    rintro ⟨h87_, ⟨h88_, ⟨h89_, ⟨h90_, ⟨h91_, ⟨h92_, h93_⟩⟩⟩⟩⟩⟩
    refine ⟨?_, ?_⟩
    · skip
      intro h94_
      have h95_ := (h86_.resolve_right (la_waysOfBinary_19 h94_))
      refine ⟨h87_, ?_⟩
      refine ⟨h88_, ?_⟩
      refine ⟨h89_, ?_⟩
      refine ⟨h90_, ?_⟩
      refine ⟨h91_, ?_⟩
      refine ⟨h92_, ?_⟩
      exact (la_waysOfBinary_9 h60_ h85_ h93_)
    intro h96_
    have h97_ := (h86_.resolve_left h96_)
    intro h98_
    refine ⟨?_, ?_⟩
    · skip
      refine ⟨h3_, ?_⟩
      refine ⟨h4_, ?_⟩
      refine ⟨h5_, ?_⟩
      refine ⟨h6_, ?_⟩
      refine ⟨h7_, ?_⟩
      refine ⟨h8_, ?_⟩
      refine ⟨h9_, ?_⟩
      refine ⟨h10_, ?_⟩
      refine ⟨h11_, ?_⟩
      refine ⟨h12_, ?_⟩
      refine ⟨h13_, ?_⟩
      refine ⟨h14_, ?_⟩
      refine ⟨h15_, ?_⟩
      refine ⟨h16_, ?_⟩
      refine ⟨h17_, ?_⟩
      refine ⟨h18_, ?_⟩
      refine ⟨h19_, ?_⟩
      refine ⟨h90_, ?_⟩
      refine ⟨h87_, ?_⟩
      refine ⟨h88_, ?_⟩
      refine ⟨h89_, ?_⟩
      refine ⟨h24_, ?_⟩
      refine ⟨h25_, ?_⟩
      refine ⟨h26_, ?_⟩
      refine ⟨h92_, ?_⟩
      refine ⟨h37_, ?_⟩
      refine ⟨h38_, ?_⟩
      refine ⟨?_, ?_⟩
      · skip
        have h99_ := (h26_ (S 1148 0))
        have h100_ := (h26_ (S 1148 0 + 1))
        have h101_ := ((h91_ (S 1148 0)) h39_)
        exact h101_
      refine ⟨la_waysOfBinary_24, ?_⟩
      refine ⟨la_waysOfBinary_25, ?_⟩
      exact la_waysOfBinary_26
    intro g54
    rintro ⟨h102_, ⟨h103_, ⟨h104_, ⟨h105_, ⟨h106_, ⟨h107_, h108_⟩⟩⟩⟩⟩⟩
    refine ⟨h102_, ?_⟩
    refine ⟨h103_, ?_⟩
    refine ⟨h104_, ?_⟩
    refine ⟨h105_, ?_⟩
    refine ⟨?_, ?_⟩
    · skip
      intro kv1
      intro h109_
      have h110_ := (h26_ (S 1148 0))
      have h111_ := (h26_ (S 1148 0 + 1))
      have h112_ := ((h91_ kv1) h109_)
      have h113_ := ((h91_ (S 1148 0)) h39_)
      have h114_ := ((h106_ kv1) h112_)
      have h115_ := ((h106_ (S 1148 0)) h113_)
      exact h114_
    refine ⟨h107_, ?_⟩
    exact (la_waysOfBinary_27 h60_ h85_ h93_ h108_)
  intro h116_
  refine ⟨⟨h17_, ⟨h18_, ⟨h19_, ⟨(la_waysOfBinary_28 h28_ h56_), ⟨(la_waysOfBinary_29 h29_ h56_), ⟨h3_, ⟨h4_, ⟨h5_, ⟨h6_, ⟨h7_, ⟨h8_, ⟨h9_, ⟨h10_, ⟨h11_, ⟨h12_, ⟨h13_, ⟨h14_, (la_waysOfBinary_30 h15_ h16_)⟩⟩⟩⟩⟩⟩⟩⟩⟩⟩⟩⟩⟩⟩⟩⟩⟩, ?_⟩
  intro g60
  intro _
  refine ⟨(la_waysOfBinary_31 h28_ h29_ h58_), ?_⟩
  intro r70
  intro h117_
  intro h118_
  refine ⟨?_, ?_⟩
  · skip
    intro h119_
    intro r75
    intro h120_
    intro h121_
    refine ⟨?_, ?_⟩
    · skip
      intro h122_
      have h123_ := (h121_.resolve_right (la_waysOfBinary_19 h122_))
      refine ⟨⟨h3_, ⟨h4_, ⟨h5_, ⟨h6_, ⟨h7_, ⟨h8_, ⟨h9_, ⟨h10_, ⟨h11_, ⟨h12_, ⟨h13_, ⟨h14_, ⟨h15_, ⟨h16_, ⟨h17_, ⟨h18_, ⟨h19_, ⟨h20_, ⟨h21_, ⟨h22_, ⟨h23_, ⟨h24_, ⟨h25_, ⟨h26_, ⟨h27_, ⟨h28_, ⟨h29_, ⟨h30_, ⟨h31_, ⟨h32_, ⟨h33_, ⟨h34_, ⟨h35_, ⟨h36_, (la_waysOfBinary_8 h37_ h40_ h41_ h42_ h45_ h46_ h47_ h52_)⟩⟩⟩⟩⟩⟩⟩⟩⟩⟩⟩⟩⟩⟩⟩⟩⟩⟩⟩⟩⟩⟩⟩⟩⟩⟩⟩⟩⟩⟩⟩⟩⟩⟩, ?_⟩
      intro g77
      rintro ⟨h124_, ⟨h125_, ⟨h126_, ⟨h127_, ⟨h128_, ⟨h129_, h130_⟩⟩⟩⟩⟩⟩
      refine ⟨?_, ?_⟩
      · skip
        intro h131_
        refine ⟨h124_, ?_⟩
        refine ⟨h125_, ?_⟩
        refine ⟨h126_, ?_⟩
        refine ⟨h127_, ?_⟩
        refine ⟨h128_, ?_⟩
        refine ⟨h129_, ?_⟩
        exact (la_waysOfBinary_32 h60_ h130_)
      intro h132_
      intro h133_
      have h134_ := (h35_ (la_waysOfBinary_12 (la_waysOfBinary_11 la_waysOfBinary_10 h132_)))
      refine ⟨⟨h3_, ⟨h4_, ⟨h5_, ⟨h6_, ⟨h7_, ⟨h8_, ⟨h9_, ⟨h10_, ⟨h11_, ⟨h12_, ⟨h13_, ⟨h14_, ⟨h15_, ⟨h16_, ⟨h17_, ⟨h18_, ⟨h19_, ⟨h127_, ⟨h124_, ⟨h125_, ⟨h126_, ⟨h24_, ⟨h25_, ⟨h26_, ⟨h129_, (la_waysOfBinary_13 (la_waysOfBinary_11 la_waysOfBinary_10 h132_))⟩⟩⟩⟩⟩⟩⟩⟩⟩⟩⟩⟩⟩⟩⟩⟩⟩⟩⟩⟩⟩⟩⟩⟩⟩, ?_⟩
      intro g84
      rintro ⟨h135_, ⟨h136_, ⟨h137_, ⟨h138_, ⟨h139_, ⟨h140_, h141_⟩⟩⟩⟩⟩⟩
      refine ⟨h135_, ?_⟩
      refine ⟨h136_, ?_⟩
      refine ⟨h137_, ?_⟩
      refine ⟨h138_, ?_⟩
      refine ⟨?_, ?_⟩
      · skip
        intro kv2
        intro h142_
        exact (la_waysOfBinary_14 (la_waysOfBinary_11 la_waysOfBinary_10 h132_))
      refine ⟨h140_, ?_⟩
      exact (la_waysOfBinary_15 (la_waysOfBinary_11 la_waysOfBinary_10 h132_))
    intro h143_
    have h144_ := (h121_.resolve_left h143_)
    intro h145_
    intro h146_
    refine ⟨la_waysOfBinary_33, ?_⟩
    refine ⟨⟨h3_, ⟨h4_, ⟨h5_, ⟨h6_, ⟨h7_, ⟨h8_, ⟨h9_, ⟨h10_, ⟨h11_, ⟨h12_, ⟨h13_, ⟨h14_, (la_waysOfBinary_34 h15_ h16_)⟩⟩⟩⟩⟩⟩⟩⟩⟩⟩⟩⟩, ?_⟩
    intro g93
    intro h147_
    refine ⟨la_waysOfBinary_35, ?_⟩
    intro r103
    intro h148_
    intro h149_
    refine ⟨?_, ?_⟩
    · skip
      intro h150_
      have h151_ := (h149_.resolve_left h150_)
      rintro ⟨h152_, h153_⟩
      refine ⟨?_, ?_⟩
      · skip
        intro h154_
        refine ⟨⟨h3_, ⟨h4_, ⟨h5_, ⟨h6_, ⟨h7_, ⟨h8_, ⟨h9_, ⟨h10_, ⟨h11_, ⟨h12_, ⟨h13_, ⟨h14_, ⟨h15_, ⟨h16_, ⟨h17_, ⟨h18_, ⟨h19_, ⟨h20_, ⟨h21_, ⟨h22_, ⟨h23_, ⟨h24_, ⟨h25_, ⟨h26_, ⟨h27_, ⟨h28_, ⟨h29_, ⟨h30_, ⟨h31_, ⟨h32_, ⟨h33_, ⟨h34_, ⟨h35_, ⟨h36_, (la_waysOfBinary_8 h37_ h40_ h41_ h42_ h45_ h46_ h47_ h52_)⟩⟩⟩⟩⟩⟩⟩⟩⟩⟩⟩⟩⟩⟩⟩⟩⟩⟩⟩⟩⟩⟩⟩⟩⟩⟩⟩⟩⟩⟩⟩⟩⟩⟩, ?_⟩
        intro g106
        rintro ⟨h155_, ⟨h156_, ⟨h157_, ⟨h158_, ⟨h159_, ⟨h160_, h161_⟩⟩⟩⟩⟩⟩
        refine ⟨?_, ?_⟩
        · skip
          intro h162_
          refine ⟨h155_, ?_⟩
          refine ⟨h156_, ?_⟩
          refine ⟨h157_, ?_⟩
          refine ⟨h158_, ?_⟩
          refine ⟨h159_, ?_⟩
          refine ⟨h160_, ?_⟩
          exact (la_waysOfBinary_9 h60_ h147_ h161_)
        intro h163_
        intro h164_
        have h165_ := (h35_ (la_waysOfBinary_12 (la_waysOfBinary_11 la_waysOfBinary_10 h163_)))
        refine ⟨⟨h3_, ⟨h4_, ⟨h5_, ⟨h6_, ⟨h7_, ⟨h8_, ⟨h9_, ⟨h10_, ⟨h11_, ⟨h12_, ⟨h13_, ⟨h14_, ⟨h15_, ⟨h16_, ⟨h17_, ⟨h18_, ⟨h19_, ⟨h158_, ⟨h155_, ⟨h156_, ⟨h157_, ⟨h24_, ⟨h25_, ⟨h26_, ⟨h160_, (la_waysOfBinary_13 (la_waysOfBinary_11 la_waysOfBinary_10 h163_))⟩⟩⟩⟩⟩⟩⟩⟩⟩⟩⟩⟩⟩⟩⟩⟩⟩⟩⟩⟩⟩⟩⟩⟩⟩, ?_⟩
        intro g113
        rintro ⟨h166_, ⟨h167_, ⟨h168_, ⟨h169_, ⟨h170_, ⟨h171_, h172_⟩⟩⟩⟩⟩⟩
        refine ⟨h166_, ?_⟩
        refine ⟨h167_, ?_⟩
        refine ⟨h168_, ?_⟩
        refine ⟨h169_, ?_⟩
        refine ⟨?_, ?_⟩
        · skip
          intro kv3
          intro h173_
          exact (la_waysOfBinary_14 (la_waysOfBinary_11 la_waysOfBinary_10 h163_))
        refine ⟨h171_, ?_⟩
        exact (la_waysOfBinary_15 (la_waysOfBinary_11 la_waysOfBinary_10 h163_))
      intro h174_
      refine ⟨la_waysOfBinary_36, ?_⟩
      intro g119
      intro h175_
      refine ⟨⟨h3_, ⟨h4_, ⟨h5_, ⟨h6_, ⟨h7_, ⟨h8_, ⟨h9_, ⟨h10_, ⟨h11_, ⟨h12_, ⟨h13_, ⟨h14_, ⟨h15_, ⟨h16_, ⟨h17_, ⟨h18_, ⟨h19_, ⟨h20_, ⟨h21_, ⟨h22_, ⟨h23_, ⟨h24_, ⟨h25_, ⟨h26_, ⟨h27_, ⟨h28_, ⟨h29_, ⟨h30_, ⟨h31_, ⟨h32_, ⟨h33_, ⟨h34_, ⟨h35_, ⟨h36_, (la_waysOfBinary_8 h37_ h40_ h41_ h42_ h45_ h46_ h47_ h52_)⟩⟩⟩⟩⟩⟩⟩⟩⟩⟩⟩⟩⟩⟩⟩⟩⟩⟩⟩⟩⟩⟩⟩⟩⟩⟩⟩⟩⟩⟩⟩⟩⟩⟩, ?_⟩
      intro g125
      rintro ⟨h176_, ⟨h177_, ⟨h178_, ⟨h179_, ⟨h180_, ⟨h181_, h182_⟩⟩⟩⟩⟩⟩
      refine ⟨?_, ?_⟩
      · skip
        intro h183_
        refine ⟨h176_, ?_⟩
        refine ⟨h177_, ?_⟩
        refine ⟨h178_, ?_⟩
        refine ⟨h179_, ?_⟩
        refine ⟨h180_, ?_⟩
        refine ⟨h181_, ?_⟩
        exact (la_waysOfBinary_37 h60_ h147_ h175_ h182_)
      intro h184_
      intro h185_
      have h186_ := (h35_ (la_waysOfBinary_12 (la_waysOfBinary_11 la_waysOfBinary_10 h184_)))
      refine ⟨⟨h3_, ⟨h4_, ⟨h5_, ⟨h6_, ⟨h7_, ⟨h8_, ⟨h9_, ⟨h10_, ⟨h11_, ⟨h12_, ⟨h13_, ⟨h14_, ⟨h15_, ⟨h16_, ⟨h17_, ⟨h18_, ⟨h19_, ⟨h179_, ⟨h176_, ⟨h177_, ⟨h178_, ⟨h24_, ⟨h25_, ⟨h26_, ⟨h181_, (la_waysOfBinary_13 (la_waysOfBinary_11 la_waysOfBinary_10 h184_))⟩⟩⟩⟩⟩⟩⟩⟩⟩⟩⟩⟩⟩⟩⟩⟩⟩⟩⟩⟩⟩⟩⟩⟩⟩, ?_⟩
      intro g132
      rintro ⟨h187_, ⟨h188_, ⟨h189_, ⟨h190_, ⟨h191_, ⟨h192_, h193_⟩⟩⟩⟩⟩⟩
      refine ⟨h187_, ?_⟩
      refine ⟨h188_, ?_⟩
      refine ⟨h189_, ?_⟩
      refine ⟨h190_, ?_⟩
      refine ⟨?_, ?_⟩
      · skip
        intro kv4
        intro h194_
        exact (la_waysOfBinary_14 (la_waysOfBinary_11 la_waysOfBinary_10 h184_))
      refine ⟨h192_, ?_⟩
      exact (la_waysOfBinary_15 (la_waysOfBinary_11 la_waysOfBinary_10 h184_))
    intro h195_
    have h196_ := (h149_.resolve_right (la_waysOfBinary_38 h195_))
    refine ⟨la_waysOfBinary_36, ?_⟩
    intro g138
    intro h197_
    rintro ⟨h198_, h199_⟩
    refine ⟨?_, ?_⟩
    · skip
      intro h200_
      refine ⟨⟨h3_, ⟨h4_, ⟨h5_, ⟨h6_, ⟨h7_, ⟨h8_, ⟨h9_, ⟨h10_, ⟨h11_, ⟨h12_, ⟨h13_, ⟨h14_, ⟨h15_, ⟨h16_, ⟨h17_, ⟨h18_, ⟨h19_, ⟨h20_, ⟨h21_, ⟨h22_, ⟨h23_, ⟨h24_, ⟨h25_, ⟨h26_, ⟨h27_, ⟨h28_, ⟨h29_, ⟨h30_, ⟨h31_, ⟨h32_, ⟨h33_, ⟨h34_, ⟨h35_, ⟨h36_, (la_waysOfBinary_8 h37_ h40_ h41_ h42_ h45_ h46_ h47_ h52_)⟩⟩⟩⟩⟩⟩⟩⟩⟩⟩⟩⟩⟩⟩⟩⟩⟩⟩⟩⟩⟩⟩⟩⟩⟩⟩⟩⟩⟩⟩⟩⟩⟩⟩, ?_⟩
      intro g145
      rintro ⟨h201_, ⟨h202_, ⟨h203_, ⟨h204_, ⟨h205_, ⟨h206_, h207_⟩⟩⟩⟩⟩⟩
      refine ⟨?_, ?_⟩
      · skip
        intro h208_
        refine ⟨h201_, ?_⟩
        refine ⟨h202_, ?_⟩
        refine ⟨h203_, ?_⟩
        refine ⟨h204_, ?_⟩
        refine ⟨h205_, ?_⟩
        refine ⟨h206_, ?_⟩
        exact (la_waysOfBinary_37 h60_ h147_ h197_ h207_)
      intro h209_
      intro h210_
      have h211_ := (h35_ (la_waysOfBinary_12 (la_waysOfBinary_11 la_waysOfBinary_10 h209_)))
      refine ⟨⟨h3_, ⟨h4_, ⟨h5_, ⟨h6_, ⟨h7_, ⟨h8_, ⟨h9_, ⟨h10_, ⟨h11_, ⟨h12_, ⟨h13_, ⟨h14_, ⟨h15_, ⟨h16_, ⟨h17_, ⟨h18_, ⟨h19_, ⟨h204_, ⟨h201_, ⟨h202_, ⟨h203_, ⟨h24_, ⟨h25_, ⟨h26_, ⟨h206_, (la_waysOfBinary_13 (la_waysOfBinary_11 la_waysOfBinary_10 h209_))⟩⟩⟩⟩⟩⟩⟩⟩⟩⟩⟩⟩⟩⟩⟩⟩⟩⟩⟩⟩⟩⟩⟩⟩⟩, ?_⟩
      intro g152
      rintro ⟨h212_, ⟨h213_, ⟨h214_, ⟨h215_, ⟨h216_, ⟨h217_, h218_⟩⟩⟩⟩⟩⟩
      refine ⟨h212_, ?_⟩
      refine ⟨h213_, ?_⟩
      refine ⟨h214_, ?_⟩
      refine ⟨h215_, ?_⟩
      refine ⟨?_, ?_⟩
      · skip
        intro kv5
        intro h219_
        exact (la_waysOfBinary_14 (la_waysOfBinary_11 la_waysOfBinary_10 h209_))
      refine ⟨h217_, ?_⟩
      exact (la_waysOfBinary_15 (la_waysOfBinary_11 la_waysOfBinary_10 h209_))
    intro h220_
    intro g157
    intro h221_
    refine ⟨⟨h3_, ⟨h4_, ⟨h5_, ⟨h6_, ⟨h7_, ⟨h8_, ⟨h9_, ⟨h10_, ⟨h11_, ⟨h12_, ⟨h13_, ⟨h14_, ⟨h15_, ⟨h16_, ⟨h17_, ⟨h18_, ⟨h19_, ⟨h20_, ⟨h21_, ⟨h22_, ⟨h23_, ⟨h24_, ⟨h25_, ⟨h26_, ⟨h27_, ⟨h28_, ⟨h29_, ⟨h30_, ⟨h31_, ⟨h32_, ⟨h33_, ⟨h34_, ⟨h35_, ⟨h36_, (la_waysOfBinary_8 h37_ h40_ h41_ h42_ h45_ h46_ h47_ h52_)⟩⟩⟩⟩⟩⟩⟩⟩⟩⟩⟩⟩⟩⟩⟩⟩⟩⟩⟩⟩⟩⟩⟩⟩⟩⟩⟩⟩⟩⟩⟩⟩⟩⟩, ?_⟩
    intro g163
    rintro ⟨h222_, ⟨h223_, ⟨h224_, ⟨h225_, ⟨h226_, ⟨h227_, h228_⟩⟩⟩⟩⟩⟩
    refine ⟨?_, ?_⟩
    · skip
      intro h229_
      refine ⟨h222_, ?_⟩
      refine ⟨h223_, ?_⟩
      refine ⟨h224_, ?_⟩
      refine ⟨h225_, ?_⟩
      refine ⟨h226_, ?_⟩
      refine ⟨h227_, ?_⟩
      exact (la_waysOfBinary_39 h60_ h147_ h197_ h221_ h228_)
    intro h230_
    intro h231_
    have h232_ := (h35_ (la_waysOfBinary_12 (la_waysOfBinary_11 la_waysOfBinary_10 h230_)))
    refine ⟨⟨h3_, ⟨h4_, ⟨h5_, ⟨h6_, ⟨h7_, ⟨h8_, ⟨h9_, ⟨h10_, ⟨h11_, ⟨h12_, ⟨h13_, ⟨h14_, ⟨h15_, ⟨h16_, ⟨h17_, ⟨h18_, ⟨h19_, ⟨h225_, ⟨h222_, ⟨h223_, ⟨h224_, ⟨h24_, ⟨h25_, ⟨h26_, ⟨h227_, (la_waysOfBinary_13 (la_waysOfBinary_11 la_waysOfBinary_10 h230_))⟩⟩⟩⟩⟩⟩⟩⟩⟩⟩⟩⟩⟩⟩⟩⟩⟩⟩⟩⟩⟩⟩⟩⟩⟩, ?_⟩
    intro g170
    rintro ⟨h233_, ⟨h234_, ⟨h235_, ⟨h236_, ⟨h237_, ⟨h238_, h239_⟩⟩⟩⟩⟩⟩
    refine ⟨h233_, ?_⟩
    refine ⟨h234_, ?_⟩
    refine ⟨h235_, ?_⟩
    refine ⟨h236_, ?_⟩
    refine ⟨?_, ?_⟩
    · skip
      intro kv6
      intro h240_
      exact (la_waysOfBinary_14 (la_waysOfBinary_11 la_waysOfBinary_10 h230_))
    refine ⟨h238_, ?_⟩
    exact (la_waysOfBinary_15 (la_waysOfBinary_11 la_waysOfBinary_10 h230_))
  intro h241_
  intro r179
  intro h242_
  intro h243_
  refine ⟨?_, ?_⟩
  · skip
    intro h244_
    have h245_ := (h243_.resolve_right (la_waysOfBinary_19 h244_))
    refine ⟨⟨h3_, ⟨h4_, ⟨h5_, ⟨h6_, ⟨h7_, ⟨h8_, ⟨h9_, ⟨h10_, ⟨h11_, ⟨h12_, ⟨h13_, ⟨h14_, ⟨h15_, ⟨h16_, ⟨h17_, ⟨h18_, ⟨h19_, ⟨h20_, ⟨h21_, ⟨h22_, ⟨h23_, ⟨h24_, ⟨h25_, ⟨h26_, ⟨h27_, ⟨h28_, ⟨h29_, ⟨h30_, ⟨h31_, ⟨h32_, ⟨h33_, ⟨h34_, ⟨h35_, ⟨h36_, (la_waysOfBinary_8 h37_ h40_ h41_ h42_ h45_ h46_ h47_ h52_)⟩⟩⟩⟩⟩⟩⟩⟩⟩⟩⟩⟩⟩⟩⟩⟩⟩⟩⟩⟩⟩⟩⟩⟩⟩⟩⟩⟩⟩⟩⟩⟩⟩⟩, ?_⟩
    intro g181
    rintro ⟨h246_, ⟨h247_, ⟨h248_, ⟨h249_, ⟨h250_, ⟨h251_, h252_⟩⟩⟩⟩⟩⟩
    refine ⟨?_, ?_⟩
    · skip
      intro h253_
      refine ⟨h246_, ?_⟩
      refine ⟨h247_, ?_⟩
      refine ⟨h248_, ?_⟩
      refine ⟨h249_, ?_⟩
      refine ⟨h250_, ?_⟩
      refine ⟨h251_, ?_⟩
      exact (la_waysOfBinary_40 h253_)
    intro h254_
    intro h255_
    refine ⟨?_, ?_⟩
    · skip
      refine ⟨h3_, ?_⟩
      refine ⟨h4_, ?_⟩
      refine ⟨h5_, ?_⟩
      refine ⟨h6_, ?_⟩
      refine ⟨h7_, ?_⟩
      refine ⟨h8_, ?_⟩
      refine ⟨h9_, ?_⟩
      refine ⟨h10_, ?_⟩
      refine ⟨h11_, ?_⟩
      refine ⟨h12_, ?_⟩
      refine ⟨h13_, ?_⟩
      refine ⟨h14_, ?_⟩
      refine ⟨h15_, ?_⟩
      refine ⟨h16_, ?_⟩
      refine ⟨h17_, ?_⟩
      refine ⟨h18_, ?_⟩
      refine ⟨h19_, ?_⟩
      refine ⟨h249_, ?_⟩
      refine ⟨h246_, ?_⟩
      refine ⟨h247_, ?_⟩
      refine ⟨h248_, ?_⟩
      refine ⟨h24_, ?_⟩
      refine ⟨h25_, ?_⟩
      refine ⟨h26_, ?_⟩
      refine ⟨h251_, ?_⟩
      refine ⟨h37_, ?_⟩
      refine ⟨h38_, ?_⟩
      refine ⟨?_, ?_⟩
      · skip
        have h256_ := (h26_ (S 1148 0))
        have h257_ := (h26_ (S 1148 0 + 1))
        have h258_ := ((h250_ (S 1148 0)) h39_)
        exact h258_
      refine ⟨la_waysOfBinary_24, ?_⟩
      refine ⟨la_waysOfBinary_25, ?_⟩
      exact la_waysOfBinary_26
    intro g188
    rintro ⟨h259_, ⟨h260_, ⟨h261_, ⟨h262_, ⟨h263_, ⟨h264_, h265_⟩⟩⟩⟩⟩⟩
    refine ⟨h259_, ?_⟩
    refine ⟨h260_, ?_⟩
    refine ⟨h261_, ?_⟩
    refine ⟨h262_, ?_⟩
    refine ⟨?_, ?_⟩
    · skip
      intro kv7
      intro h266_
      have h267_ := (h26_ (S 1148 0))
      have h268_ := (h26_ (S 1148 0 + 1))
      have h269_ := ((h250_ kv7) h266_)
      have h270_ := ((h250_ (S 1148 0)) h39_)
      have h271_ := ((h263_ kv7) h269_)
      have h272_ := ((h263_ (S 1148 0)) h270_)
      exact h271_
    refine ⟨h264_, ?_⟩
    exact (la_waysOfBinary_43 h60_ h252_ h265_)
  intro h273_
  have h274_ := (h243_.resolve_left h273_)
  intro h275_
  intro h276_
  refine ⟨la_waysOfBinary_33, ?_⟩
  refine ⟨⟨h3_, ⟨h4_, ⟨h5_, ⟨h6_, ⟨h7_, ⟨h8_, ⟨h9_, ⟨h10_, ⟨h11_, ⟨h12_, ⟨h13_, ⟨h14_, (la_waysOfBinary_34 h15_ h16_)⟩⟩⟩⟩⟩⟩⟩⟩⟩⟩⟩⟩, ?_⟩
  intro g197
  intro h277_
  refine ⟨la_waysOfBinary_35, ?_⟩
  intro r207
  intro h278_
  intro h279_
  refine ⟨?_, ?_⟩
  · skip
    intro h280_
    have h281_ := (h279_.resolve_left h280_)
    rintro ⟨h282_, h283_⟩
    refine ⟨?_, ?_⟩
    · skip
      intro h284_
      refine ⟨⟨h3_, ⟨h4_, ⟨h5_, ⟨h6_, ⟨h7_, ⟨h8_, ⟨h9_, ⟨h10_, ⟨h11_, ⟨h12_, ⟨h13_, ⟨h14_, ⟨h15_, ⟨h16_, ⟨h17_, ⟨h18_, ⟨h19_, ⟨h20_, ⟨h21_, ⟨h22_, ⟨h23_, ⟨h24_, ⟨h25_, ⟨h26_, ⟨h27_, ⟨h28_, ⟨h29_, ⟨h30_, ⟨h31_, ⟨h32_, ⟨h33_, ⟨h34_, ⟨h35_, ⟨h36_, (la_waysOfBinary_8 h37_ h40_ h41_ h42_ h45_ h46_ h47_ h52_)⟩⟩⟩⟩⟩⟩⟩⟩⟩⟩⟩⟩⟩⟩⟩⟩⟩⟩⟩⟩⟩⟩⟩⟩⟩⟩⟩⟩⟩⟩⟩⟩⟩⟩, ?_⟩
      intro g210
      rintro ⟨h285_, ⟨h286_, ⟨h287_, ⟨h288_, ⟨h289_, ⟨h290_, h291_⟩⟩⟩⟩⟩⟩
      refine ⟨?_, ?_⟩
      · skip
        intro h292_
        refine ⟨h285_, ?_⟩
        refine ⟨h286_, ?_⟩
        refine ⟨h287_, ?_⟩
        refine ⟨h288_, ?_⟩
        refine ⟨h289_, ?_⟩
        refine ⟨h290_, ?_⟩
        exact (la_waysOfBinary_40 h292_)
      intro h293_
      intro h294_
      refine ⟨?_, ?_⟩
      · skip
        refine ⟨h3_, ?_⟩
        refine ⟨h4_, ?_⟩
        refine ⟨h5_, ?_⟩
        refine ⟨h6_, ?_⟩
        refine ⟨h7_, ?_⟩
        refine ⟨h8_, ?_⟩
        refine ⟨h9_, ?_⟩
        refine ⟨h10_, ?_⟩
        refine ⟨h11_, ?_⟩
        refine ⟨h12_, ?_⟩
        refine ⟨h13_, ?_⟩
        refine ⟨h14_, ?_⟩
        refine ⟨h15_, ?_⟩
        refine ⟨h16_, ?_⟩
        refine ⟨h17_, ?_⟩
        refine ⟨h18_, ?_⟩
        refine ⟨h19_, ?_⟩
        refine ⟨h288_, ?_⟩
        refine ⟨h285_, ?_⟩
        refine ⟨h286_, ?_⟩
        refine ⟨h287_, ?_⟩
        refine ⟨h24_, ?_⟩
        refine ⟨h25_, ?_⟩
        refine ⟨h26_, ?_⟩
        refine ⟨h290_, ?_⟩
        refine ⟨h37_, ?_⟩
        refine ⟨h38_, ?_⟩
        refine ⟨?_, ?_⟩
        · skip
          have h295_ := (h26_ (S 1148 0))
          have h296_ := (h26_ (S 1148 0 + 1))
          have h297_ := ((h289_ (S 1148 0)) h39_)
          exact h297_
        refine ⟨la_waysOfBinary_24, ?_⟩
        refine ⟨la_waysOfBinary_25, ?_⟩
        exact la_waysOfBinary_26
      intro g217
      rintro ⟨h298_, ⟨h299_, ⟨h300_, ⟨h301_, ⟨h302_, ⟨h303_, h304_⟩⟩⟩⟩⟩⟩
      refine ⟨h298_, ?_⟩
      refine ⟨h299_, ?_⟩
      refine ⟨h300_, ?_⟩
      refine ⟨h301_, ?_⟩
      refine ⟨?_, ?_⟩
      · skip
        intro kv8
        intro h305_
        have h306_ := (h26_ (S 1148 0))
        have h307_ := (h26_ (S 1148 0 + 1))
        have h308_ := ((h289_ kv8) h305_)
        have h309_ := ((h289_ (S 1148 0)) h39_)
        have h310_ := ((h302_ kv8) h308_)
        have h311_ := ((h302_ (S 1148 0)) h309_)
        exact h310_
      refine ⟨h303_, ?_⟩
      exact (la_waysOfBinary_27 h60_ h277_ h291_ h304_)
    intro h312_
    refine ⟨la_waysOfBinary_36, ?_⟩
    intro g223
    intro h313_
    refine ⟨⟨h3_, ⟨h4_, ⟨h5_, ⟨h6_, ⟨h7_, ⟨h8_, ⟨h9_, ⟨h10_, ⟨h11_, ⟨h12_, ⟨h13_, ⟨h14_, ⟨h15_, ⟨h16_, ⟨h17_, ⟨h18_, ⟨h19_, ⟨h20_, ⟨h21_, ⟨h22_, ⟨h23_, ⟨h24_, ⟨h25_, ⟨h26_, ⟨h27_, ⟨h28_, ⟨h29_, ⟨h30_, ⟨h31_, ⟨h32_, ⟨h33_, ⟨h34_, ⟨h35_, ⟨h36_, (la_waysOfBinary_8 h37_ h40_ h41_ h42_ h45_ h46_ h47_ h52_)⟩⟩⟩⟩⟩⟩⟩⟩⟩⟩⟩⟩⟩⟩⟩⟩⟩⟩⟩⟩⟩⟩⟩⟩⟩⟩⟩⟩⟩⟩⟩⟩⟩⟩, ?_⟩
    intro g229
    rintro ⟨h314_, ⟨h315_, ⟨h316_, ⟨h317_, ⟨h318_, ⟨h319_, h320_⟩⟩⟩⟩⟩⟩
    refine ⟨?_, ?_⟩
    · skip
      intro h321_
      refine ⟨h314_, ?_⟩
      refine ⟨h315_, ?_⟩
      refine ⟨h316_, ?_⟩
      refine ⟨h317_, ?_⟩
      refine ⟨h318_, ?_⟩
      refine ⟨h319_, ?_⟩
      exact (la_waysOfBinary_40 h321_)
    intro h322_
    intro h323_
    refine ⟨?_, ?_⟩
    · skip
      refine ⟨h3_, ?_⟩
      refine ⟨h4_, ?_⟩
      refine ⟨h5_, ?_⟩
      refine ⟨h6_, ?_⟩
      refine ⟨h7_, ?_⟩
      refine ⟨h8_, ?_⟩
      refine ⟨h9_, ?_⟩
      refine ⟨h10_, ?_⟩
      refine ⟨h11_, ?_⟩
      refine ⟨h12_, ?_⟩
      refine ⟨h13_, ?_⟩
      refine ⟨h14_, ?_⟩
      refine ⟨h15_, ?_⟩
      refine ⟨h16_, ?_⟩
      refine ⟨h17_, ?_⟩
      refine ⟨h18_, ?_⟩
      refine ⟨h19_, ?_⟩
      refine ⟨h317_, ?_⟩
      refine ⟨h314_, ?_⟩
      refine ⟨h315_, ?_⟩
      refine ⟨h316_, ?_⟩
      refine ⟨h24_, ?_⟩
      refine ⟨h25_, ?_⟩
      refine ⟨h26_, ?_⟩
      refine ⟨h319_, ?_⟩
      refine ⟨h37_, ?_⟩
      refine ⟨h38_, ?_⟩
      refine ⟨?_, ?_⟩
      · skip
        have h324_ := (h26_ (S 1148 0))
        have h325_ := (h26_ (S 1148 0 + 1))
        have h326_ := ((h318_ (S 1148 0)) h39_)
        exact h326_
      refine ⟨la_waysOfBinary_24, ?_⟩
      refine ⟨la_waysOfBinary_25, ?_⟩
      exact la_waysOfBinary_26
    intro g236
    rintro ⟨h327_, ⟨h328_, ⟨h329_, ⟨h330_, ⟨h331_, ⟨h332_, h333_⟩⟩⟩⟩⟩⟩
    refine ⟨h327_, ?_⟩
    refine ⟨h328_, ?_⟩
    refine ⟨h329_, ?_⟩
    refine ⟨h330_, ?_⟩
    refine ⟨?_, ?_⟩
    · skip
      intro kv9
      intro h334_
      have h335_ := (h26_ (S 1148 0))
      have h336_ := (h26_ (S 1148 0 + 1))
      have h337_ := ((h318_ kv9) h334_)
      have h338_ := ((h318_ (S 1148 0)) h39_)
      have h339_ := ((h331_ kv9) h337_)
      have h340_ := ((h331_ (S 1148 0)) h338_)
      exact h339_
    refine ⟨h332_, ?_⟩
    exact (la_waysOfBinary_44 h60_ h277_ h313_ h320_ h333_)
  intro h341_
  have h342_ := (h279_.resolve_right (la_waysOfBinary_38 h341_))
  refine ⟨la_waysOfBinary_36, ?_⟩
  intro g242
  intro h343_
  rintro ⟨h344_, h345_⟩
  refine ⟨?_, ?_⟩
  · skip
    intro h346_
    refine ⟨⟨h3_, ⟨h4_, ⟨h5_, ⟨h6_, ⟨h7_, ⟨h8_, ⟨h9_, ⟨h10_, ⟨h11_, ⟨h12_, ⟨h13_, ⟨h14_, ⟨h15_, ⟨h16_, ⟨h17_, ⟨h18_, ⟨h19_, ⟨h20_, ⟨h21_, ⟨h22_, ⟨h23_, ⟨h24_, ⟨h25_, ⟨h26_, ⟨h27_, ⟨h28_, ⟨h29_, ⟨h30_, ⟨h31_, ⟨h32_, ⟨h33_, ⟨h34_, ⟨h35_, ⟨h36_, (la_waysOfBinary_8 h37_ h40_ h41_ h42_ h45_ h46_ h47_ h52_)⟩⟩⟩⟩⟩⟩⟩⟩⟩⟩⟩⟩⟩⟩⟩⟩⟩⟩⟩⟩⟩⟩⟩⟩⟩⟩⟩⟩⟩⟩⟩⟩⟩⟩, ?_⟩
    intro g249
    rintro ⟨h347_, ⟨h348_, ⟨h349_, ⟨h350_, ⟨h351_, ⟨h352_, h353_⟩⟩⟩⟩⟩⟩
    refine ⟨?_, ?_⟩
    · skip
      intro h354_
      refine ⟨h347_, ?_⟩
      refine ⟨h348_, ?_⟩
      refine ⟨h349_, ?_⟩
      refine ⟨h350_, ?_⟩
      refine ⟨h351_, ?_⟩
      refine ⟨h352_, ?_⟩
      exact (la_waysOfBinary_40 h354_)
    intro h355_
    intro h356_
    refine ⟨?_, ?_⟩
    · skip
      refine ⟨h3_, ?_⟩
      refine ⟨h4_, ?_⟩
      refine ⟨h5_, ?_⟩
      refine ⟨h6_, ?_⟩
      refine ⟨h7_, ?_⟩
      refine ⟨h8_, ?_⟩
      refine ⟨h9_, ?_⟩
      refine ⟨h10_, ?_⟩
      refine ⟨h11_, ?_⟩
      refine ⟨h12_, ?_⟩
      refine ⟨h13_, ?_⟩
      refine ⟨h14_, ?_⟩
      refine ⟨h15_, ?_⟩
      refine ⟨h16_, ?_⟩
      refine ⟨h17_, ?_⟩
      refine ⟨h18_, ?_⟩
      refine ⟨h19_, ?_⟩
      refine ⟨h350_, ?_⟩
      refine ⟨h347_, ?_⟩
      refine ⟨h348_, ?_⟩
      refine ⟨h349_, ?_⟩
      refine ⟨h24_, ?_⟩
      refine ⟨h25_, ?_⟩
      refine ⟨h26_, ?_⟩
      refine ⟨h352_, ?_⟩
      refine ⟨h37_, ?_⟩
      refine ⟨h38_, ?_⟩
      refine ⟨?_, ?_⟩
      · skip
        have h357_ := (h26_ (S 1148 0))
        have h358_ := (h26_ (S 1148 0 + 1))
        have h359_ := ((h351_ (S 1148 0)) h39_)
        exact h359_
      refine ⟨la_waysOfBinary_24, ?_⟩
      refine ⟨la_waysOfBinary_25, ?_⟩
      exact la_waysOfBinary_26
    intro g256
    rintro ⟨h360_, ⟨h361_, ⟨h362_, ⟨h363_, ⟨h364_, ⟨h365_, h366_⟩⟩⟩⟩⟩⟩
    refine ⟨h360_, ?_⟩
    refine ⟨h361_, ?_⟩
    refine ⟨h362_, ?_⟩
    refine ⟨h363_, ?_⟩
    refine ⟨?_, ?_⟩
    · skip
      intro kv10
      intro h367_
      have h368_ := (h26_ (S 1148 0))
      have h369_ := (h26_ (S 1148 0 + 1))
      have h370_ := ((h351_ kv10) h367_)
      have h371_ := ((h351_ (S 1148 0)) h39_)
      have h372_ := ((h364_ kv10) h370_)
      have h373_ := ((h364_ (S 1148 0)) h371_)
      exact h372_
    refine ⟨h365_, ?_⟩
    exact (la_waysOfBinary_44 h60_ h277_ h343_ h353_ h366_)
  intro h374_
  intro g261
  intro h375_
  refine ⟨⟨h3_, ⟨h4_, ⟨h5_, ⟨h6_, ⟨h7_, ⟨h8_, ⟨h9_, ⟨h10_, ⟨h11_, ⟨h12_, ⟨h13_, ⟨h14_, ⟨h15_, ⟨h16_, ⟨h17_, ⟨h18_, ⟨h19_, ⟨h20_, ⟨h21_, ⟨h22_, ⟨h23_, ⟨h24_, ⟨h25_, ⟨h26_, ⟨h27_, ⟨h28_, ⟨h29_, ⟨h30_, ⟨h31_, ⟨h32_, ⟨h33_, ⟨h34_, ⟨h35_, ⟨h36_, (la_waysOfBinary_8 h37_ h40_ h41_ h42_ h45_ h46_ h47_ h52_)⟩⟩⟩⟩⟩⟩⟩⟩⟩⟩⟩⟩⟩⟩⟩⟩⟩⟩⟩⟩⟩⟩⟩⟩⟩⟩⟩⟩⟩⟩⟩⟩⟩⟩, ?_⟩
  intro g267
  rintro ⟨h376_, ⟨h377_, ⟨h378_, ⟨h379_, ⟨h380_, ⟨h381_, h382_⟩⟩⟩⟩⟩⟩
  refine ⟨?_, ?_⟩
  · skip
    intro h383_
    refine ⟨h376_, ?_⟩
    refine ⟨h377_, ?_⟩
    refine ⟨h378_, ?_⟩
    refine ⟨h379_, ?_⟩
    refine ⟨h380_, ?_⟩
    refine ⟨h381_, ?_⟩
    exact (la_waysOfBinary_40 h383_)
  intro h384_
  intro h385_
  refine ⟨?_, ?_⟩
  · skip
    refine ⟨h3_, ?_⟩
    refine ⟨h4_, ?_⟩
    refine ⟨h5_, ?_⟩
    refine ⟨h6_, ?_⟩
    refine ⟨h7_, ?_⟩
    refine ⟨h8_, ?_⟩
    refine ⟨h9_, ?_⟩
    refine ⟨h10_, ?_⟩
    refine ⟨h11_, ?_⟩
    refine ⟨h12_, ?_⟩
    refine ⟨h13_, ?_⟩
    refine ⟨h14_, ?_⟩
    refine ⟨h15_, ?_⟩
    refine ⟨h16_, ?_⟩
    refine ⟨h17_, ?_⟩
    refine ⟨h18_, ?_⟩
    refine ⟨h19_, ?_⟩
    refine ⟨h379_, ?_⟩
    refine ⟨h376_, ?_⟩
    refine ⟨h377_, ?_⟩
    refine ⟨h378_, ?_⟩
    refine ⟨h24_, ?_⟩
    refine ⟨h25_, ?_⟩
    refine ⟨h26_, ?_⟩
    refine ⟨h381_, ?_⟩
    refine ⟨h37_, ?_⟩
    refine ⟨h38_, ?_⟩
    refine ⟨?_, ?_⟩
    · skip
      have h386_ := (h26_ (S 1148 0))
      have h387_ := (h26_ (S 1148 0 + 1))
      have h388_ := ((h380_ (S 1148 0)) h39_)
      exact h388_
    refine ⟨la_waysOfBinary_24, ?_⟩
    refine ⟨la_waysOfBinary_25, ?_⟩
    exact la_waysOfBinary_26
  intro g274
  rintro ⟨h389_, ⟨h390_, ⟨h391_, ⟨h392_, ⟨h393_, ⟨h394_, h395_⟩⟩⟩⟩⟩⟩
  refine ⟨h389_, ?_⟩
  refine ⟨h390_, ?_⟩
  refine ⟨h391_, ?_⟩
  refine ⟨h392_, ?_⟩
  refine ⟨?_, ?_⟩
  · skip
    intro kv11
    intro h396_
    have h397_ := (h26_ (S 1148 0))
    have h398_ := (h26_ (S 1148 0 + 1))
    have h399_ := ((h380_ kv11) h396_)
    have h400_ := ((h380_ (S 1148 0)) h39_)
    have h401_ := ((h393_ kv11) h399_)
    have h402_ := ((h393_ (S 1148 0)) h400_)
    exact h401_
  refine ⟨h394_, ?_⟩
  exact (la_waysOfBinary_45 h60_ h277_ h343_ h375_ h382_ h395_)
set_option maxRecDepth 8000 in
set_option maxHeartbeats 2000000 in
theorem t_waysOfBinary : ∀ (p1 : Int) (S : sv_S), sm_ok S → sv_R p1 → (29 ≤ (S 1071 0) ∧ (S 1071 0) ≤ 127 ∧ 31 ≤ (S 1008 0) ∧ (S 1008 0) ≤ 90 ∧ 1 ≤ (S 1032 0) ∧ (S 1032 0) ≤ 11 ∧ 0 ≤ (S 1055 0) ∧ (S 1055 0) ≤ 19 ∧ (S 1071 0) = 29 + 6 * ((S 1032 0) - 1) + 2 * (S 1055 0) ∧ 0 ≤ (S 1046 0) ∧ (S 1046 0) + 2 * (S 1032 0) ≤ 500 ∧ sm_PD (S 1046 0) (S 1032 0) (S 1071 0) (S 1008 0) ∧ 0 ≤ (S 1071 0) * ((S 1008 0) + 1) ∧ (S 1071 0) * ((S 1008 0) + 1) ≤ 11557 ∧ 31 ≤ (S 1007 0) ∧ (S 1007 0) ≤ 400 ∧ sm_LN (S 4) 400 (S 1007 0) ∧ (S 75 639) = 647340 ∧ sm_ST (S 71) (S 74) (S 75) (S 78) (S 79) (S 80) (S 27) (S 1100007) (S 1100023) (S 1100024) (S 1046 0) ((S 1046 0) + 2 * (S 1032 0)) (S 1127 0) ∧ 465000 ≤ (S 1127 0) ∧ (S 1127 0) + sm_hs (S 71) (S 1100007) ≤ 635000 ∧ sm_NH (S 1100007) ∧ sm_CT (S 26) (S 27) (S 28) (S 29) (S 1100007) (S 1100023) (S 1100024) (S 1100025) (S 21) (S 1046 0) (S 1032 0) (S 1008 0) (S 1055 0) ∧ (∀ k : Int, (S 1046 0) ≤ k → k < ((S 1046 0) + 2 * (S 1032 0)) → (S 1100007 k) = 1) ∧ sm_DR (S 72) (S 71) (S 1046 0) ∧ 0 ≤ (S 74 639) ∧ (S 74 639) ≤ 400 ∧ 0 ≤ (S 78 639) ∧ (S 78 639) ≤ 40 ∧ (S 78 639) = sm_dp (S 1100024) (S 1100031 0) ∧ -1 ≤ (S 1100031 0) ∧ (S 1100031 0) < (S 1046 0) ∧ (0 ≤ (S 1100031 0) → (S 26 (S 1100031 0)) = 27) ∧ sm_TC (S 79) (S 80) (S 27) (S 1100007) (S 1100023) (S 1100024) 25560 (S 1100031 0) ∧ 0 ≤ (S 1148 0) ∧ (S 1148 0) < (S 1046 0) ∧ (S 71 (S 1148 0)) = 1 ∧ (S 74 639) = (S 1100007 (S 1148 0)) ∧ (S 1100031 0) = (S 1100023 (S 1148 0)) ∧ 2 ≤ (S 1100007 (S 1148 0)) ∧ 0 ≤ p1 ∧ p1 ≤ 20 ∧ (S 1148 0) + 1 < (S 1046 0) ∧ (S 1100007 ((S 1148 0) + 1)) = (S 1100007 (S 1148 0)) + (-1) ∧ (S 1100023 ((S 1148 0) + 1)) = (S 1100023 (S 1148 0))) → sv_T sm_XS sm_cs sm_L sm_sh 9 (q_waysOfBinary p1 S) 278 0 (lv_args 0 [.ref 0, sv_I p1]) [] S := by
  intro p1 S hok hp1 hpre
  have h := f_waysOfBinary p1 S hok hp1 hpre
  have hM := sm_h278
  show sv_T sm_XS sm_cs sm_L sm_sh 9 (q_waysOfBinary p1 S) 278 0 [(0, .ref 0), (1, sv_I p1)] [] S
  have k1 : (sm_CT (S 26) (S 27) (S 28) (S 29) (S 1100007) (S 1100023) (S 1100024) (S 1100025) (S 21) (S 1046 0) (S 1032 0) (S 1008 0) (S 1055 0) → 0 ≤ (S 1148 0) → (S 1148 0) < (S 1046 0) → 0 ≤ (S 1100007 (S 1148 0)) ∧ (S 1100007 (S 1148 0)) ≤ 396 ∧ -1 ≤ (S 1100023 (S 1148 0)) ∧ (S 1100023 (S 1148 0)) < (S 1148 0)) := fun h h0 h1 => by have q := sm_ct_0 h _ h0 h1; exact ⟨q.2.2.2.2.1, q.2.2.2.2.2.1, q.2.2.2.2.2.2.2.1, q.2.2.2.2.2.2.2.2.1⟩
  have h := h k1
  refine sv_aload_n hM dX12_waysOfBinary_0 rfl rfl ?_
  refine sv_iconst (d := (1 : Int)) hM dX12_waysOfBinary_1 rfl rfl ?_
  obtain ⟨o2, h⟩ := h
  refine sv_callV hM dX12_waysOfBinary_2 sm_iv_1195 (by decide) (sm_a0 _) rfl rfl (Nat.le_of_ble_eq_true rfl) sm_h229 (Nat.le_of_ble_eq_true rfl) (Nat.le_of_ble_eq_true rfl) (F' := 0) (Nat.le_of_ble_eq_true rfl) rfl (t_fromTop (1 : Int) S hok (⟨by decide, by decide⟩ : sv_R (1 : Int)) o2) (fun v S1 hq => ?_)
  obtain ⟨r7, rfl, hr7, ok4, md5, hpo6⟩ := hq
  obtain rfl : S = S1 := (funext fun j => md5 j (by intro q; cases q)).symm
  show sv_T sm_XS sm_cs sm_L sm_sh 9 (q_waysOfBinary p1 S) 278 5 [(0, .ref 0), (1, sv_I p1)] [sv_I r7] S
  have h := h r7 hr7 hpo6
  refine sv_istore_n hM dX12_waysOfBinary_5 (by decide) rfl ?_
  show sv_T sm_XS sm_cs sm_L sm_sh 9 (q_waysOfBinary p1 S) 278 6 [(0, .ref 0), (1, sv_I p1), (2, sv_I r7)] [] S
  refine sv_aload_n hM dX12_waysOfBinary_6 rfl rfl ?_
  refine sv_iconst (d := (0 : Int)) hM dX12_waysOfBinary_7 rfl rfl ?_
  obtain ⟨o8, h⟩ := h
  refine sv_callV hM dX12_waysOfBinary_8 sm_iv_1195 (by decide) (sm_a0 _) rfl rfl (Nat.le_of_ble_eq_true rfl) sm_h229 (Nat.le_of_ble_eq_true rfl) (Nat.le_of_ble_eq_true rfl) (F' := 0) (Nat.le_of_ble_eq_true rfl) rfl (t_fromTop (0 : Int) S ok4 (⟨by decide, by decide⟩ : sv_R (0 : Int)) o8) (fun v S1 hq => ?_)
  obtain ⟨r13, rfl, hr13, ok10, md11, hpo12⟩ := hq
  obtain rfl : S = S1 := (funext fun j => md11 j (by intro q; cases q)).symm
  show sv_T sm_XS sm_cs sm_L sm_sh 9 (q_waysOfBinary p1 S) 278 11 [(0, .ref 0), (1, sv_I p1), (2, sv_I r7)] [sv_I r13] S
  have h := h r13 hr13 hpo12
  refine sv_istore_n hM dX12_waysOfBinary_11 (by decide) rfl ?_
  show sv_T sm_XS sm_cs sm_L sm_sh 9 (q_waysOfBinary p1 S) 278 12 [(0, .ref 0), (1, sv_I p1), (2, sv_I r7), (3, sv_I r13)] [] S
  refine sv_ldc_w (d := (647740 : Int)) hM dX12_waysOfBinary_12 sm_ck_1218 rfl rfl ?_
  refine sv_istore hM dX12_waysOfBinary_15 (by decide) rfl ?_
  show sv_T sm_XS sm_cs sm_L sm_sh 9 (q_waysOfBinary p1 S) 278 17 [(0, .ref 0), (1, sv_I p1), (2, sv_I r7), (3, sv_I r13), (4, sv_I (647740 : Int))] [] S
  refine sv_iconst (d := (0 : Int)) hM dX12_waysOfBinary_17 rfl rfl ?_
  refine sv_istore hM dX12_waysOfBinary_18 (by decide) rfl ?_
  show sv_T sm_XS sm_cs sm_L sm_sh 9 (q_waysOfBinary p1 S) 278 20 [(0, .ref 0), (1, sv_I p1), (2, sv_I r7), (3, sv_I r13), (4, sv_I (647740 : Int)), (5, sv_I (0 : Int))] [] S
  refine sv_aload_n hM dX12_waysOfBinary_20 rfl rfl ?_
  refine sv_iload hM dX12_waysOfBinary_21 rfl rfl ?_
  obtain ⟨o14, h⟩ := h
  refine sv_callV hM dX12_waysOfBinary_23 sm_iv_1066 (by decide) (sm_a0 _) rfl rfl (Nat.le_of_ble_eq_true rfl) sm_h206 (Nat.le_of_ble_eq_true rfl) (Nat.le_of_ble_eq_true rfl) (F' := 0) (Nat.le_of_ble_eq_true rfl) rfl (t_empty (647740 : Int) S ok10 (⟨by decide, by decide⟩ : sv_R (647740 : Int)) o14) (fun v S1 hq => ?_)
  obtain ⟨rfl, ok16, md17, hpo18⟩ := hq
  obtain ⟨g15, rfl⟩ : ∃ g, S1 = sv_sts S [68, 69, 70] g := ⟨_, md17.eq⟩
  show sv_T sm_XS sm_cs sm_L sm_sh 9 (q_waysOfBinary p1 S) 278 26 [(0, .ref 0), (1, sv_I p1), (2, sv_I r7), (3, sv_I r13), (4, sv_I (647740 : Int)), (5, sv_I (0 : Int))] [] (sv_sts S [68, 69, 70] g15)
  have md19 : sv_mod [68, 69, 70, 81, 82, 83, 84, 85, 86, 71, 74, 75, 1127, 78, 79, 80, 72, 76, 77, 1143, 1144, 5, 1011, 1150, 1149, 1145, 1113, 1111, 1112, 1100031] S (sv_sts S [68, 69, 70] g15) := sv_mod.sts sv_mod.rf (by decide)
  have h := h g15 hpo18
  refine sv_iload_n hM dX12_waysOfBinary_26 rfl rfl ?_
  refine sv_bipush (d := (19 : Int)) hM dX12_waysOfBinary_27 rfl rfl ?_
  refine sv_icmp_ne hM dX12_waysOfBinary_29 hp1 (⟨by decide, by decide⟩ : sv_R (19 : Int)) (t := 116) rfl rfl (fun hc => ?_) (fun hc => ?_)
  · have h := h.1 (hc)
    refine sv_iload_n hM dX12_waysOfBinary_116 rfl rfl ?_
    refine sv_bipush (d := (20 : Int)) hM dX12_waysOfBinary_117 rfl rfl ?_
    refine sv_icmp_ne hM dX12_waysOfBinary_119 hp1 (⟨by decide, by decide⟩ : sv_R (20 : Int)) (t := 135) rfl rfl (fun hc => ?_) (fun hc => ?_)
    · have h := h.1 (hc)
      refine sv_aload_n hM dX12_waysOfBinary_135 rfl rfl ?_
      refine sv_iload_n hM dX12_waysOfBinary_136 rfl rfl ?_
      refine sv_iload_n hM dX12_waysOfBinary_137 rfl rfl ?_
      refine sv_iload_n hM dX12_waysOfBinary_138 rfl rfl ?_
      refine sv_iload hM dX12_waysOfBinary_139 rfl rfl ?_
      obtain ⟨o20, h⟩ := h
      refine sv_callV hM dX12_waysOfBinary_141 sm_iv_1317 (by decide) (sm_a0 _) rfl rfl (Nat.le_of_ble_eq_true rfl) sm_h273 (Nat.le_of_ble_eq_true rfl) (Nat.le_of_ble_eq_true rfl) (F' := 5) (Nat.le_of_ble_eq_true rfl) rfl (t_binarySet p1 r7 r13 (647740 : Int) (sv_sts S [68, 69, 70] g15) ok16 hp1 hr7 hr13 (⟨by decide, by decide⟩ : sv_R (647740 : Int)) o20) (fun v S1 hq => ?_)
      obtain ⟨rfl, ok22, md23, hpo24⟩ := hq
      obtain ⟨g21, rfl⟩ : ∃ g, S1 = sv_sts (sv_sts S [68, 69, 70] g15) [68, 69, 70, 1113, 1111, 1112, 5, 1011] g := ⟨_, md23.eq⟩
      show sv_T sm_XS sm_cs sm_L sm_sh 9 (q_waysOfBinary p1 S) 278 144 [(0, .ref 0), (1, sv_I p1), (2, sv_I r7), (3, sv_I r13), (4, sv_I (647740 : Int)), (5, sv_I (0 : Int))] [] (sv_sts (sv_sts S [68, 69, 70] g15) [68, 69, 70, 1113, 1111, 1112, 5, 1011] g21)
      have md25 : sv_mod [68, 69, 70, 81, 82, 83, 84, 85, 86, 71, 74, 75, 1127, 78, 79, 80, 72, 76, 77, 1143, 1144, 5, 1011, 1150, 1149, 1145, 1113, 1111, 1112, 1100031] S (sv_sts (sv_sts S [68, 69, 70] g15) [68, 69, 70, 1113, 1111, 1112, 5, 1011] g21) := sv_mod.sts md19 (by decide)
      have h := h g21 hpo24
      refine sv_aload_n hM dX12_waysOfBinary_144 rfl rfl ?_
      refine sv_iconst (d := (2 : Int)) hM dX12_waysOfBinary_145 rfl rfl ?_
      refine sv_iload hM dX12_waysOfBinary_146 rfl rfl ?_
      obtain ⟨o26, h⟩ := h
      refine sv_callV hM dX12_waysOfBinary_148 sm_iv_1258 (by decide) (sm_a0 _) rfl rfl (Nat.le_of_ble_eq_true rfl) sm_h267 (Nat.le_of_ble_eq_true rfl) (Nat.le_of_ble_eq_true rfl) (F' := 5) (Nat.le_of_ble_eq_true rfl) rfl (t_replace (2 : Int) (647740 : Int) (sv_sts (sv_sts S [68, 69, 70] g15) [68, 69, 70, 1113, 1111, 1112, 5, 1011] g21) ok22 (⟨by decide, by decide⟩ : sv_R (2 : Int)) (⟨by decide, by decide⟩ : sv_R (647740 : Int)) o26) (fun v S1 hq => ?_)
      obtain ⟨rfl, ok28, md29, hpo30⟩ := hq
      obtain ⟨g27, rfl⟩ : ∃ g, S1 = sv_sts (sv_sts (sv_sts S [68, 69, 70] g15) [68, 69, 70, 1113, 1111, 1112, 5, 1011] g21) [68, 69, 70, 81, 82, 83, 84, 85, 86, 71, 74, 75, 1127, 78, 79, 80, 72, 76, 77, 1150] g := ⟨_, md29.eq⟩
      show sv_T sm_XS sm_cs sm_L sm_sh 9 (q_waysOfBinary p1 S) 278 151 [(0, .ref 0), (1, sv_I p1), (2, sv_I r7), (3, sv_I r13), (4, sv_I (647740 : Int)), (5, sv_I (0 : Int))] [] (sv_sts (sv_sts (sv_sts S [68, 69, 70] g15) [68, 69, 70, 1113, 1111, 1112, 5, 1011] g21) [68, 69, 70, 81, 82, 83, 84, 85, 86, 71, 74, 75, 1127, 78, 79, 80, 72, 76, 77, 1150] g27)
      have md31 : sv_mod [68, 69, 70, 81, 82, 83, 84, 85, 86, 71, 74, 75, 1127, 78, 79, 80, 72, 76, 77, 1143, 1144, 5, 1011, 1150, 1149, 1145, 1113, 1111, 1112, 1100031] S (sv_sts (sv_sts (sv_sts S [68, 69, 70] g15) [68, 69, 70, 1113, 1111, 1112, 5, 1011] g21) [68, 69, 70, 81, 82, 83, 84, 85, 86, 71, 74, 75, 1127, 78, 79, 80, 72, 76, 77, 1150] g27) := sv_mod.sts md25 (by decide)
      have h := h g27 hpo30
      refine sv_iload hM dX12_waysOfBinary_151 rfl rfl ?_
      refine sv_cond_eq hM dX12_waysOfBinary_153 (⟨by decide, by decide⟩ : sv_R (0 : Int)) (t := 166) rfl rfl (fun hc => ?_) (fun hc => ?_)
      · have h := h.1 (hc)
        exact sv_vret hM dX12_waysOfBinary_166 rfl ⟨rfl, ok28, md31, h⟩
      · have h := h.2 (hc)
        refine sv_aload_n hM dX12_waysOfBinary_156 rfl rfl ?_
        refine sv_aload_n hM dX12_waysOfBinary_157 rfl rfl ?_
        have k32 : sv_R (S 1148 0) := sm_okI ok28 sm_r1148 0
        have h := h k32
        refine sv_getI hM dX12_waysOfBinary_158 sm_fl_1188 (sm_a0 _) sm_k148 rfl (x := (S 1148 0)) rfl ?_
        refine sv_bipush (d := (6 : Int)) hM dX12_waysOfBinary_161 rfl rfl ?_
        obtain ⟨o33, h⟩ := h
        refine sv_callV hM dX12_waysOfBinary_163 sm_iv_1292 (by decide) (sm_a0 _) rfl rfl (Nat.le_of_ble_eq_true rfl) sm_h263 (Nat.le_of_ble_eq_true rfl) (Nat.le_of_ble_eq_true rfl) (F' := 8) (Nat.le_of_ble_eq_true rfl) rfl (t_error_ (S 1148 0) (6 : Int) (sv_sts (sv_sts (sv_sts S [68, 69, 70] g15) [68, 69, 70, 1113, 1111, 1112, 5, 1011] g21) [68, 69, 70, 81, 82, 83, 84, 85, 86, 71, 74, 75, 1127, 78, 79, 80, 72, 76, 77, 1150] g27) ok28 k32 (⟨by decide, by decide⟩ : sv_R (6 : Int)) o33) (fun v S1 hq => ?_)
        obtain ⟨rfl, ok35, md36, hpo37⟩ := hq
        obtain ⟨g34, rfl⟩ : ∃ g, S1 = sv_sts (sv_sts (sv_sts (sv_sts S [68, 69, 70] g15) [68, 69, 70, 1113, 1111, 1112, 5, 1011] g21) [68, 69, 70, 81, 82, 83, 84, 85, 86, 71, 74, 75, 1127, 78, 79, 80, 72, 76, 77, 1150] g27) [68, 69, 70, 81, 82, 83, 84, 85, 86, 71, 74, 75, 1127, 78, 79, 80, 72, 76, 77, 1143, 1144, 5, 1011, 1150, 1149, 1145, 1113, 1111, 1112, 1100031] g := ⟨_, md36.eq⟩
        show sv_T sm_XS sm_cs sm_L sm_sh 9 (q_waysOfBinary p1 S) 278 166 [(0, .ref 0), (1, sv_I p1), (2, sv_I r7), (3, sv_I r13), (4, sv_I (647740 : Int)), (5, sv_I (0 : Int))] [] (sv_sts (sv_sts (sv_sts (sv_sts S [68, 69, 70] g15) [68, 69, 70, 1113, 1111, 1112, 5, 1011] g21) [68, 69, 70, 81, 82, 83, 84, 85, 86, 71, 74, 75, 1127, 78, 79, 80, 72, 76, 77, 1150] g27) [68, 69, 70, 81, 82, 83, 84, 85, 86, 71, 74, 75, 1127, 78, 79, 80, 72, 76, 77, 1143, 1144, 5, 1011, 1150, 1149, 1145, 1113, 1111, 1112, 1100031] g34)
        have md38 : sv_mod [68, 69, 70, 81, 82, 83, 84, 85, 86, 71, 74, 75, 1127, 78, 79, 80, 72, 76, 77, 1143, 1144, 5, 1011, 1150, 1149, 1145, 1113, 1111, 1112, 1100031] S (sv_sts (sv_sts (sv_sts (sv_sts S [68, 69, 70] g15) [68, 69, 70, 1113, 1111, 1112, 5, 1011] g21) [68, 69, 70, 81, 82, 83, 84, 85, 86, 71, 74, 75, 1127, 78, 79, 80, 72, 76, 77, 1150] g27) [68, 69, 70, 81, 82, 83, 84, 85, 86, 71, 74, 75, 1127, 78, 79, 80, 72, 76, 77, 1143, 1144, 5, 1011, 1150, 1149, 1145, 1113, 1111, 1112, 1100031] g34) := sv_mod.sts md31 (by decide)
        have h := h g34 hpo37
        exact sv_vret hM dX12_waysOfBinary_166 rfl ⟨rfl, ok35, md38, h⟩
    · have h := h.2 (hc)
      refine sv_aload_n hM dX12_waysOfBinary_122 rfl rfl ?_
      refine sv_iload_n hM dX12_waysOfBinary_123 rfl rfl ?_
      refine sv_iload_n hM dX12_waysOfBinary_124 rfl rfl ?_
      refine sv_iload hM dX12_waysOfBinary_125 rfl rfl ?_
      obtain ⟨o39, h⟩ := h
      refine sv_callV hM dX12_waysOfBinary_127 sm_iv_1314 (by decide) (sm_a0 _) rfl rfl (Nat.le_of_ble_eq_true rfl) sm_h279 (Nat.le_of_ble_eq_true rfl) (Nat.le_of_ble_eq_true rfl) (F' := 4) (Nat.le_of_ble_eq_true rfl) rfl (t_isMadeBySet r7 r13 (647740 : Int) (sv_sts S [68, 69, 70] g15) ok16 hr7 hr13 (⟨by decide, by decide⟩ : sv_R (647740 : Int)) o39) (fun v S1 hq => ?_)
      obtain ⟨r44, rfl, hr44, ok41, md42, hpo43⟩ := hq
      obtain ⟨g40, rfl⟩ : ∃ g, S1 = sv_sts (sv_sts S [68, 69, 70] g15) [68, 69, 70, 1143, 1144, 1145] g := ⟨_, md42.eq⟩
      show sv_T sm_XS sm_cs sm_L sm_sh 9 (q_waysOfBinary p1 S) 278 130 [(0, .ref 0), (1, sv_I p1), (2, sv_I r7), (3, sv_I r13), (4, sv_I (647740 : Int)), (5, sv_I (0 : Int))] [sv_I r44] (sv_sts (sv_sts S [68, 69, 70] g15) [68, 69, 70, 1143, 1144, 1145] g40)
      have md45 : sv_mod [68, 69, 70, 81, 82, 83, 84, 85, 86, 71, 74, 75, 1127, 78, 79, 80, 72, 76, 77, 1143, 1144, 5, 1011, 1150, 1149, 1145, 1113, 1111, 1112, 1100031] S (sv_sts (sv_sts S [68, 69, 70] g15) [68, 69, 70, 1143, 1144, 1145] g40) := sv_mod.sts md19 (by decide)
      have h := h r44 hr44 g40 hpo43
      refine sv_istore hM dX12_waysOfBinary_130 (by decide) rfl ?_
      show sv_T sm_XS sm_cs sm_L sm_sh 9 (q_waysOfBinary p1 S) 278 132 [(0, .ref 0), (1, sv_I p1), (2, sv_I r7), (3, sv_I r13), (4, sv_I (647740 : Int)), (5, sv_I r44)] [] (sv_sts (sv_sts S [68, 69, 70] g15) [68, 69, 70, 1143, 1144, 1145] g40)
      refine sv_goto hM dX12_waysOfBinary_132 (pc' := 144) rfl ?_
      refine sv_aload_n hM dX12_waysOfBinary_144 rfl rfl ?_
      refine sv_iconst (d := (2 : Int)) hM dX12_waysOfBinary_145 rfl rfl ?_
      refine sv_iload hM dX12_waysOfBinary_146 rfl rfl ?_
      obtain ⟨o46, h⟩ := h
      refine sv_callV hM dX12_waysOfBinary_148 sm_iv_1258 (by decide) (sm_a0 _) rfl rfl (Nat.le_of_ble_eq_true rfl) sm_h267 (Nat.le_of_ble_eq_true rfl) (Nat.le_of_ble_eq_true rfl) (F' := 5) (Nat.le_of_ble_eq_true rfl) rfl (t_replace (2 : Int) (647740 : Int) (sv_sts (sv_sts S [68, 69, 70] g15) [68, 69, 70, 1143, 1144, 1145] g40) ok41 (⟨by decide, by decide⟩ : sv_R (2 : Int)) (⟨by decide, by decide⟩ : sv_R (647740 : Int)) o46) (fun v S1 hq => ?_)
      obtain ⟨rfl, ok48, md49, hpo50⟩ := hq
      obtain ⟨g47, rfl⟩ : ∃ g, S1 = sv_sts (sv_sts (sv_sts S [68, 69, 70] g15) [68, 69, 70, 1143, 1144, 1145] g40) [68, 69, 70, 81, 82, 83, 84, 85, 86, 71, 74, 75, 1127, 78, 79, 80, 72, 76, 77, 1150] g := ⟨_, md49.eq⟩
      show sv_T sm_XS sm_cs sm_L sm_sh 9 (q_waysOfBinary p1 S) 278 151 [(0, .ref 0), (1, sv_I p1), (2, sv_I r7), (3, sv_I r13), (4, sv_I (647740 : Int)), (5, sv_I r44)] [] (sv_sts (sv_sts (sv_sts S [68, 69, 70] g15) [68, 69, 70, 1143, 1144, 1145] g40) [68, 69, 70, 81, 82, 83, 84, 85, 86, 71, 74, 75, 1127, 78, 79, 80, 72, 76, 77, 1150] g47)
      have md51 : sv_mod [68, 69, 70, 81, 82, 83, 84, 85, 86, 71, 74, 75, 1127, 78, 79, 80, 72, 76, 77, 1143, 1144, 5, 1011, 1150, 1149, 1145, 1113, 1111, 1112, 1100031] S (sv_sts (sv_sts (sv_sts S [68, 69, 70] g15) [68, 69, 70, 1143, 1144, 1145] g40) [68, 69, 70, 81, 82, 83, 84, 85, 86, 71, 74, 75, 1127, 78, 79, 80, 72, 76, 77, 1150] g47) := sv_mod.sts md45 (by decide)
      have h := h g47 hpo50
      refine sv_iload hM dX12_waysOfBinary_151 rfl rfl ?_
      refine sv_cond_eq hM dX12_waysOfBinary_153 hr44 (t := 166) rfl rfl (fun hc => ?_) (fun hc => ?_)
      · have h := h.1 (hc)
        exact sv_vret hM dX12_waysOfBinary_166 rfl ⟨rfl, ok48, md51, h⟩
      · have h := h.2 (hc)
        refine sv_aload_n hM dX12_waysOfBinary_156 rfl rfl ?_
        refine sv_aload_n hM dX12_waysOfBinary_157 rfl rfl ?_
        have k52 : sv_R (S 1148 0) := sm_okI ok48 sm_r1148 0
        have h := h k52
        refine sv_getI hM dX12_waysOfBinary_158 sm_fl_1188 (sm_a0 _) sm_k148 rfl (x := (S 1148 0)) rfl ?_
        refine sv_bipush (d := (6 : Int)) hM dX12_waysOfBinary_161 rfl rfl ?_
        obtain ⟨o53, h⟩ := h
        refine sv_callV hM dX12_waysOfBinary_163 sm_iv_1292 (by decide) (sm_a0 _) rfl rfl (Nat.le_of_ble_eq_true rfl) sm_h263 (Nat.le_of_ble_eq_true rfl) (Nat.le_of_ble_eq_true rfl) (F' := 8) (Nat.le_of_ble_eq_true rfl) rfl (t_error_ (S 1148 0) (6 : Int) (sv_sts (sv_sts (sv_sts S [68, 69, 70] g15) [68, 69, 70, 1143, 1144, 1145] g40) [68, 69, 70, 81, 82, 83, 84, 85, 86, 71, 74, 75, 1127, 78, 79, 80, 72, 76, 77, 1150] g47) ok48 k52 (⟨by decide, by decide⟩ : sv_R (6 : Int)) o53) (fun v S1 hq => ?_)
        obtain ⟨rfl, ok55, md56, hpo57⟩ := hq
        obtain ⟨g54, rfl⟩ : ∃ g, S1 = sv_sts (sv_sts (sv_sts (sv_sts S [68, 69, 70] g15) [68, 69, 70, 1143, 1144, 1145] g40) [68, 69, 70, 81, 82, 83, 84, 85, 86, 71, 74, 75, 1127, 78, 79, 80, 72, 76, 77, 1150] g47) [68, 69, 70, 81, 82, 83, 84, 85, 86, 71, 74, 75, 1127, 78, 79, 80, 72, 76, 77, 1143, 1144, 5, 1011, 1150, 1149, 1145, 1113, 1111, 1112, 1100031] g := ⟨_, md56.eq⟩
        show sv_T sm_XS sm_cs sm_L sm_sh 9 (q_waysOfBinary p1 S) 278 166 [(0, .ref 0), (1, sv_I p1), (2, sv_I r7), (3, sv_I r13), (4, sv_I (647740 : Int)), (5, sv_I r44)] [] (sv_sts (sv_sts (sv_sts (sv_sts S [68, 69, 70] g15) [68, 69, 70, 1143, 1144, 1145] g40) [68, 69, 70, 81, 82, 83, 84, 85, 86, 71, 74, 75, 1127, 78, 79, 80, 72, 76, 77, 1150] g47) [68, 69, 70, 81, 82, 83, 84, 85, 86, 71, 74, 75, 1127, 78, 79, 80, 72, 76, 77, 1143, 1144, 5, 1011, 1150, 1149, 1145, 1113, 1111, 1112, 1100031] g54)
        have md58 : sv_mod [68, 69, 70, 81, 82, 83, 84, 85, 86, 71, 74, 75, 1127, 78, 79, 80, 72, 76, 77, 1143, 1144, 5, 1011, 1150, 1149, 1145, 1113, 1111, 1112, 1100031] S (sv_sts (sv_sts (sv_sts (sv_sts S [68, 69, 70] g15) [68, 69, 70, 1143, 1144, 1145] g40) [68, 69, 70, 81, 82, 83, 84, 85, 86, 71, 74, 75, 1127, 78, 79, 80, 72, 76, 77, 1150] g47) [68, 69, 70, 81, 82, 83, 84, 85, 86, 71, 74, 75, 1127, 78, 79, 80, 72, 76, 77, 1143, 1144, 5, 1011, 1150, 1149, 1145, 1113, 1111, 1112, 1100031] g54) := sv_mod.sts md51 (by decide)
        have h := h g54 hpo57
        exact sv_vret hM dX12_waysOfBinary_166 rfl ⟨rfl, ok55, md58, h⟩
  · have h := h.2 (hc)
    refine sv_aload_n hM dX12_waysOfBinary_32 rfl rfl ?_
    refine sv_iload_n hM dX12_waysOfBinary_33 rfl rfl ?_
    obtain ⟨o59, h⟩ := h
    refine sv_callV hM dX12_waysOfBinary_34 sm_iv_1147 (by decide) (sm_a0 _) rfl rfl (Nat.le_of_ble_eq_true rfl) sm_h245 (Nat.le_of_ble_eq_true rfl) (Nat.le_of_ble_eq_true rfl) (F' := 3) (Nat.le_of_ble_eq_true rfl) rfl (t_keysOf r7 (sv_sts S [68, 69, 70] g15) ok16 hr7 o59) (fun v S1 hq => ?_)
    obtain ⟨rfl, ok61, md62, hpo63⟩ := hq
    obtain ⟨g60, rfl⟩ : ∃ g, S1 = sv_sts (sv_sts S [68, 69, 70] g15) [1143, 1144, 5, 1011] g := ⟨_, md62.eq⟩
    show sv_T sm_XS sm_cs sm_L sm_sh 9 (q_waysOfBinary p1 S) 278 37 [(0, .ref 0), (1, sv_I p1), (2, sv_I r7), (3, sv_I r13), (4, sv_I (647740 : Int)), (5, sv_I (0 : Int))] [] (sv_sts (sv_sts S [68, 69, 70] g15) [1143, 1144, 5, 1011] g60)
    have md64 : sv_mod [68, 69, 70, 81, 82, 83, 84, 85, 86, 71, 74, 75, 1127, 78, 79, 80, 72, 76, 77, 1143, 1144, 5, 1011, 1150, 1149, 1145, 1113, 1111, 1112, 1100031] S (sv_sts (sv_sts S [68, 69, 70] g15) [1143, 1144, 5, 1011] g60) := sv_mod.sts md19 (by decide)
    have h := h g60 hpo63
    refine sv_aload_n hM dX12_waysOfBinary_37 rfl rfl ?_
    refine sv_iload_n hM dX12_waysOfBinary_38 rfl rfl ?_
    obtain ⟨o65, h⟩ := h
    refine sv_callV hM dX12_waysOfBinary_39 sm_iv_1059 (by decide) (sm_a0 _) rfl rfl (Nat.le_of_ble_eq_true rfl) sm_h210 (Nat.le_of_ble_eq_true rfl) (Nat.le_of_ble_eq_true rfl) (F' := 1) (Nat.le_of_ble_eq_true rfl) rfl (t_plainly r13 (sv_sts (sv_sts S [68, 69, 70] g15) [1143, 1144, 5, 1011] g60) ok61 hr13 o65) (fun v S1 hq => ?_)
    obtain ⟨r70, rfl, hr70, ok67, md68, hpo69⟩ := hq
    obtain rfl : (sv_sts (sv_sts S [68, 69, 70] g15) [1143, 1144, 5, 1011] g60) = S1 := (funext fun j => md68 j (by intro q; cases q)).symm
    show sv_T sm_XS sm_cs sm_L sm_sh 9 (q_waysOfBinary p1 S) 278 42 [(0, .ref 0), (1, sv_I p1), (2, sv_I r7), (3, sv_I r13), (4, sv_I (647740 : Int)), (5, sv_I (0 : Int))] [sv_I r70] (sv_sts (sv_sts S [68, 69, 70] g15) [1143, 1144, 5, 1011] g60)
    have h := h r70 hr70 hpo69
    refine sv_cond_eq hM dX12_waysOfBinary_42 hr70 (t := 49) rfl rfl (fun hc => ?_) (fun hc => ?_)
    · have h := h.1 (hc)
      refine sv_iconst (d := (0 : Int)) hM dX12_waysOfBinary_49 rfl rfl ?_
      refine sv_istore hM dX12_waysOfBinary_50 (by decide) rfl ?_
      show sv_T sm_XS sm_cs sm_L sm_sh 9 (q_waysOfBinary p1 S) 278 52 [(0, .ref 0), (1, sv_I p1), (2, sv_I r7), (3, sv_I r13), (4, sv_I (647740 : Int)), (5, sv_I (0 : Int))] [] (sv_sts (sv_sts S [68, 69, 70] g15) [1143, 1144, 5, 1011] g60)
      refine sv_aload_n hM dX12_waysOfBinary_52 rfl rfl ?_
      refine sv_iload_n hM dX12_waysOfBinary_53 rfl rfl ?_
      refine sv_callV hM dX12_waysOfBinary_54 sm_iv_1062 (by decide) (sm_a0 _) rfl rfl (Nat.le_of_ble_eq_true rfl) sm_h209 (Nat.le_of_ble_eq_true rfl) (Nat.le_of_ble_eq_true rfl) (F' := 0) (Nat.le_of_ble_eq_true rfl) rfl (t_hasLabels r13 (sv_sts (sv_sts S [68, 69, 70] g15) [1143, 1144, 5, 1011] g60) ok67 hr13 o65) (fun v S1 hq => ?_)
      obtain ⟨r75, rfl, hr75, ok72, md73, hpo74⟩ := hq
      obtain rfl : (sv_sts (sv_sts S [68, 69, 70] g15) [1143, 1144, 5, 1011] g60) = S1 := (funext fun j => md73 j (by intro q; cases q)).symm
      show sv_T sm_XS sm_cs sm_L sm_sh 9 (q_waysOfBinary p1 S) 278 57 [(0, .ref 0), (1, sv_I p1), (2, sv_I r7), (3, sv_I r13), (4, sv_I (647740 : Int)), (5, sv_I (0 : Int))] [sv_I r75] (sv_sts (sv_sts S [68, 69, 70] g15) [1143, 1144, 5, 1011] g60)
      have h := h r75 hr75 hpo74
      refine sv_cond_eq hM dX12_waysOfBinary_57 hr75 (t := 144) rfl rfl (fun hc => ?_) (fun hc => ?_)
      · have h := h.1 (hc)
        refine sv_aload_n hM dX12_waysOfBinary_144 rfl rfl ?_
        refine sv_iconst (d := (2 : Int)) hM dX12_waysOfBinary_145 rfl rfl ?_
        refine sv_iload hM dX12_waysOfBinary_146 rfl rfl ?_
        obtain ⟨o76, h⟩ := h
        refine sv_callV hM dX12_waysOfBinary_148 sm_iv_1258 (by decide) (sm_a0 _) rfl rfl (Nat.le_of_ble_eq_true rfl) sm_h267 (Nat.le_of_ble_eq_true rfl) (Nat.le_of_ble_eq_true rfl) (F' := 5) (Nat.le_of_ble_eq_true rfl) rfl (t_replace (2 : Int) (647740 : Int) (sv_sts (sv_sts S [68, 69, 70] g15) [1143, 1144, 5, 1011] g60) ok72 (⟨by decide, by decide⟩ : sv_R (2 : Int)) (⟨by decide, by decide⟩ : sv_R (647740 : Int)) o76) (fun v S1 hq => ?_)
        obtain ⟨rfl, ok78, md79, hpo80⟩ := hq
        obtain ⟨g77, rfl⟩ : ∃ g, S1 = sv_sts (sv_sts (sv_sts S [68, 69, 70] g15) [1143, 1144, 5, 1011] g60) [68, 69, 70, 81, 82, 83, 84, 85, 86, 71, 74, 75, 1127, 78, 79, 80, 72, 76, 77, 1150] g := ⟨_, md79.eq⟩
        show sv_T sm_XS sm_cs sm_L sm_sh 9 (q_waysOfBinary p1 S) 278 151 [(0, .ref 0), (1, sv_I p1), (2, sv_I r7), (3, sv_I r13), (4, sv_I (647740 : Int)), (5, sv_I (0 : Int))] [] (sv_sts (sv_sts (sv_sts S [68, 69, 70] g15) [1143, 1144, 5, 1011] g60) [68, 69, 70, 81, 82, 83, 84, 85, 86, 71, 74, 75, 1127, 78, 79, 80, 72, 76, 77, 1150] g77)
        have md81 : sv_mod [68, 69, 70, 81, 82, 83, 84, 85, 86, 71, 74, 75, 1127, 78, 79, 80, 72, 76, 77, 1143, 1144, 5, 1011, 1150, 1149, 1145, 1113, 1111, 1112, 1100031] S (sv_sts (sv_sts (sv_sts S [68, 69, 70] g15) [1143, 1144, 5, 1011] g60) [68, 69, 70, 81, 82, 83, 84, 85, 86, 71, 74, 75, 1127, 78, 79, 80, 72, 76, 77, 1150] g77) := sv_mod.sts md64 (by decide)
        have h := h g77 hpo80
        refine sv_iload hM dX12_waysOfBinary_151 rfl rfl ?_
        refine sv_cond_eq hM dX12_waysOfBinary_153 (⟨by decide, by decide⟩ : sv_R (0 : Int)) (t := 166) rfl rfl (fun hc => ?_) (fun hc => ?_)
        · have h := h.1 (hc)
          exact sv_vret hM dX12_waysOfBinary_166 rfl ⟨rfl, ok78, md81, h⟩
        · have h := h.2 (hc)
          refine sv_aload_n hM dX12_waysOfBinary_156 rfl rfl ?_
          refine sv_aload_n hM dX12_waysOfBinary_157 rfl rfl ?_
          have k82 : sv_R (S 1148 0) := sm_okI ok78 sm_r1148 0
          have h := h k82
          refine sv_getI hM dX12_waysOfBinary_158 sm_fl_1188 (sm_a0 _) sm_k148 rfl (x := (S 1148 0)) rfl ?_
          refine sv_bipush (d := (6 : Int)) hM dX12_waysOfBinary_161 rfl rfl ?_
          obtain ⟨o83, h⟩ := h
          refine sv_callV hM dX12_waysOfBinary_163 sm_iv_1292 (by decide) (sm_a0 _) rfl rfl (Nat.le_of_ble_eq_true rfl) sm_h263 (Nat.le_of_ble_eq_true rfl) (Nat.le_of_ble_eq_true rfl) (F' := 8) (Nat.le_of_ble_eq_true rfl) rfl (t_error_ (S 1148 0) (6 : Int) (sv_sts (sv_sts (sv_sts S [68, 69, 70] g15) [1143, 1144, 5, 1011] g60) [68, 69, 70, 81, 82, 83, 84, 85, 86, 71, 74, 75, 1127, 78, 79, 80, 72, 76, 77, 1150] g77) ok78 k82 (⟨by decide, by decide⟩ : sv_R (6 : Int)) o83) (fun v S1 hq => ?_)
          obtain ⟨rfl, ok85, md86, hpo87⟩ := hq
          obtain ⟨g84, rfl⟩ : ∃ g, S1 = sv_sts (sv_sts (sv_sts (sv_sts S [68, 69, 70] g15) [1143, 1144, 5, 1011] g60) [68, 69, 70, 81, 82, 83, 84, 85, 86, 71, 74, 75, 1127, 78, 79, 80, 72, 76, 77, 1150] g77) [68, 69, 70, 81, 82, 83, 84, 85, 86, 71, 74, 75, 1127, 78, 79, 80, 72, 76, 77, 1143, 1144, 5, 1011, 1150, 1149, 1145, 1113, 1111, 1112, 1100031] g := ⟨_, md86.eq⟩
          show sv_T sm_XS sm_cs sm_L sm_sh 9 (q_waysOfBinary p1 S) 278 166 [(0, .ref 0), (1, sv_I p1), (2, sv_I r7), (3, sv_I r13), (4, sv_I (647740 : Int)), (5, sv_I (0 : Int))] [] (sv_sts (sv_sts (sv_sts (sv_sts S [68, 69, 70] g15) [1143, 1144, 5, 1011] g60) [68, 69, 70, 81, 82, 83, 84, 85, 86, 71, 74, 75, 1127, 78, 79, 80, 72, 76, 77, 1150] g77) [68, 69, 70, 81, 82, 83, 84, 85, 86, 71, 74, 75, 1127, 78, 79, 80, 72, 76, 77, 1143, 1144, 5, 1011, 1150, 1149, 1145, 1113, 1111, 1112, 1100031] g84)
          have md88 : sv_mod [68, 69, 70, 81, 82, 83, 84, 85, 86, 71, 74, 75, 1127, 78, 79, 80, 72, 76, 77, 1143, 1144, 5, 1011, 1150, 1149, 1145, 1113, 1111, 1112, 1100031] S (sv_sts (sv_sts (sv_sts (sv_sts S [68, 69, 70] g15) [1143, 1144, 5, 1011] g60) [68, 69, 70, 81, 82, 83, 84, 85, 86, 71, 74, 75, 1127, 78, 79, 80, 72, 76, 77, 1150] g77) [68, 69, 70, 81, 82, 83, 84, 85, 86, 71, 74, 75, 1127, 78, 79, 80, 72, 76, 77, 1143, 1144, 5, 1011, 1150, 1149, 1145, 1113, 1111, 1112, 1100031] g84) := sv_mod.sts md81 (by decide)
          have h := h g84 hpo87
          exact sv_vret hM dX12_waysOfBinary_166 rfl ⟨rfl, ok85, md88, h⟩
      · have h := h.2 (hc)
        refine sv_aload_n hM dX12_waysOfBinary_60 rfl rfl ?_
        refine sv_aload_n hM dX12_waysOfBinary_61 rfl rfl ?_
        refine sv_getA hM dX12_waysOfBinary_62 sm_fl_220 (sm_a0 _) sm_k117 rfl ?_
        refine sv_iload_n hM dX12_waysOfBinary_65 rfl rfl ?_
        have k89 : sv_RL (g15 69 r13) := sm_okJ ok72 sm_r69 r13
        have h := h k89
        refine sv_lald hM dX12_waysOfBinary_66 (sm_a69 _) (by decide) o65.1 o65.2 rfl (x := (g15 69 r13)) rfl ?_
        refine sv_aload_n hM dX12_waysOfBinary_67 rfl rfl ?_
        refine sv_getA hM dX12_waysOfBinary_68 sm_fl_223 (sm_a0 _) sm_k118 rfl ?_
        refine sv_iload_n hM dX12_waysOfBinary_71 rfl rfl ?_
        have k90 : sv_RL (g15 70 r13) := sm_okJ ok72 sm_r70 r13
        have h := h k90
        refine sv_lald hM dX12_waysOfBinary_72 (sm_a70 _) (by decide) o65.1 o65.2 rfl (x := (g15 70 r13)) rfl ?_
        refine sv_iload hM dX12_waysOfBinary_73 rfl rfl ?_
        refine sv_iconst (d := (1 : Int)) hM dX12_waysOfBinary_75 rfl rfl ?_
        refine sv_iadd hM dX12_waysOfBinary_76 rfl ?_
        obtain ⟨o91, h⟩ := h
        obtain ⟨o92, h⟩ := h
        refine sv_callV hM dX12_waysOfBinary_77 sm_iv_1306 (by decide) (sm_a0 _) rfl rfl (Nat.le_of_ble_eq_true rfl) sm_h249 (Nat.le_of_ble_eq_true rfl) (Nat.le_of_ble_eq_true rfl) (F' := 3) (Nat.le_of_ble_eq_true rfl) rfl (t_readFrom (g15 69 r13) (g15 70 r13) ((647740 : Int) + (1 : Int)) (sv_sts (sv_sts S [68, 69, 70] g15) [1143, 1144, 5, 1011] g60) ok72 k89 k90 o91 o92) (fun v S1 hq => ?_)
        obtain ⟨rfl, ok94, md95, hpo96⟩ := hq
        obtain ⟨g93, rfl⟩ : ∃ g, S1 = sv_sts (sv_sts (sv_sts S [68, 69, 70] g15) [1143, 1144, 5, 1011] g60) [68, 69, 70, 1145] g := ⟨_, md95.eq⟩
        show sv_T sm_XS sm_cs sm_L sm_sh 9 (q_waysOfBinary p1 S) 278 80 [(0, .ref 0), (1, sv_I p1), (2, sv_I r7), (3, sv_I r13), (4, sv_I (647740 : Int)), (5, sv_I (0 : Int))] [] (sv_sts (sv_sts (sv_sts S [68, 69, 70] g15) [1143, 1144, 5, 1011] g60) [68, 69, 70, 1145] g93)
        have md97 : sv_mod [68, 69, 70, 81, 82, 83, 84, 85, 86, 71, 74, 75, 1127, 78, 79, 80, 72, 76, 77, 1143, 1144, 5, 1011, 1150, 1149, 1145, 1113, 1111, 1112, 1100031] S (sv_sts (sv_sts (sv_sts S [68, 69, 70] g15) [1143, 1144, 5, 1011] g60) [68, 69, 70, 1145] g93) := sv_mod.sts md64 (by decide)
        have h := h g93 hpo96
        refine sv_aload_n hM dX12_waysOfBinary_80 rfl rfl ?_
        refine sv_iload hM dX12_waysOfBinary_81 rfl rfl ?_
        refine sv_iconst (d := (1 : Int)) hM dX12_waysOfBinary_83 rfl rfl ?_
        refine sv_iadd hM dX12_waysOfBinary_84 rfl ?_
        obtain ⟨o98, h⟩ := h
        refine sv_callV hM dX12_waysOfBinary_85 sm_iv_1231 (by decide) (sm_a0 _) rfl rfl (Nat.le_of_ble_eq_true rfl) sm_h211 (Nat.le_of_ble_eq_true rfl) (Nat.le_of_ble_eq_true rfl) (F' := 2) (Nat.le_of_ble_eq_true rfl) rfl (t_isEmpty ((647740 : Int) + (1 : Int)) (sv_sts (sv_sts (sv_sts S [68, 69, 70] g15) [1143, 1144, 5, 1011] g60) [68, 69, 70, 1145] g93) ok94 o91 o98) (fun v S1 hq => ?_)
        obtain ⟨r103, rfl, hr103, ok100, md101, hpo102⟩ := hq
        obtain rfl : (sv_sts (sv_sts (sv_sts S [68, 69, 70] g15) [1143, 1144, 5, 1011] g60) [68, 69, 70, 1145] g93) = S1 := (funext fun j => md101 j (by intro q; cases q)).symm
        show sv_T sm_XS sm_cs sm_L sm_sh 9 (q_waysOfBinary p1 S) 278 88 [(0, .ref 0), (1, sv_I p1), (2, sv_I r7), (3, sv_I r13), (4, sv_I (647740 : Int)), (5, sv_I (0 : Int))] [sv_I r103] (sv_sts (sv_sts (sv_sts S [68, 69, 70] g15) [1143, 1144, 5, 1011] g60) [68, 69, 70, 1145] g93)
        have h := h r103 hr103 hpo102
        refine sv_cond_ne hM dX12_waysOfBinary_88 hr103 (t := 98) rfl rfl (fun hc => ?_) (fun hc => ?_)
        · have h := h.1 (hc)
          refine sv_aload_n hM dX12_waysOfBinary_98 rfl rfl ?_
          have k104 : (0 ≤ (g93 1145 0) ∧ (g93 1145 0) ≤ 1) := sm_okZ ok100 sm_r1145 0
          have h := h k104
          refine sv_getI hM dX12_waysOfBinary_99 sm_fl_1156 (sm_a0 _) sm_k145 rfl (x := (g93 1145 0)) rfl ?_
          refine sv_cond_eq hM dX12_waysOfBinary_102 (sv_R01 k104) (t := 144) rfl rfl (fun hc => ?_) (fun hc => ?_)
          · have h := h.1 (hc)
            refine sv_aload_n hM dX12_waysOfBinary_144 rfl rfl ?_
            refine sv_iconst (d := (2 : Int)) hM dX12_waysOfBinary_145 rfl rfl ?_
            refine sv_iload hM dX12_waysOfBinary_146 rfl rfl ?_
            obtain ⟨o105, h⟩ := h
            refine sv_callV hM dX12_waysOfBinary_148 sm_iv_1258 (by decide) (sm_a0 _) rfl rfl (Nat.le_of_ble_eq_true rfl) sm_h267 (Nat.le_of_ble_eq_true rfl) (Nat.le_of_ble_eq_true rfl) (F' := 5) (Nat.le_of_ble_eq_true rfl) rfl (t_replace (2 : Int) (647740 : Int) (sv_sts (sv_sts (sv_sts S [68, 69, 70] g15) [1143, 1144, 5, 1011] g60) [68, 69, 70, 1145] g93) ok100 (⟨by decide, by decide⟩ : sv_R (2 : Int)) (⟨by decide, by decide⟩ : sv_R (647740 : Int)) o105) (fun v S1 hq => ?_)
            obtain ⟨rfl, ok107, md108, hpo109⟩ := hq
            obtain ⟨g106, rfl⟩ : ∃ g, S1 = sv_sts (sv_sts (sv_sts (sv_sts S [68, 69, 70] g15) [1143, 1144, 5, 1011] g60) [68, 69, 70, 1145] g93) [68, 69, 70, 81, 82, 83, 84, 85, 86, 71, 74, 75, 1127, 78, 79, 80, 72, 76, 77, 1150] g := ⟨_, md108.eq⟩
            show sv_T sm_XS sm_cs sm_L sm_sh 9 (q_waysOfBinary p1 S) 278 151 [(0, .ref 0), (1, sv_I p1), (2, sv_I r7), (3, sv_I r13), (4, sv_I (647740 : Int)), (5, sv_I (0 : Int))] [] (sv_sts (sv_sts (sv_sts (sv_sts S [68, 69, 70] g15) [1143, 1144, 5, 1011] g60) [68, 69, 70, 1145] g93) [68, 69, 70, 81, 82, 83, 84, 85, 86, 71, 74, 75, 1127, 78, 79, 80, 72, 76, 77, 1150] g106)
            have md110 : sv_mod [68, 69, 70, 81, 82, 83, 84, 85, 86, 71, 74, 75, 1127, 78, 79, 80, 72, 76, 77, 1143, 1144, 5, 1011, 1150, 1149, 1145, 1113, 1111, 1112, 1100031] S (sv_sts (sv_sts (sv_sts (sv_sts S [68, 69, 70] g15) [1143, 1144, 5, 1011] g60) [68, 69, 70, 1145] g93) [68, 69, 70, 81, 82, 83, 84, 85, 86, 71, 74, 75, 1127, 78, 79, 80, 72, 76, 77, 1150] g106) := sv_mod.sts md97 (by decide)
            have h := h g106 hpo109
            refine sv_iload hM dX12_waysOfBinary_151 rfl rfl ?_
            refine sv_cond_eq hM dX12_waysOfBinary_153 (⟨by decide, by decide⟩ : sv_R (0 : Int)) (t := 166) rfl rfl (fun hc => ?_) (fun hc => ?_)
            · have h := h.1 (hc)
              exact sv_vret hM dX12_waysOfBinary_166 rfl ⟨rfl, ok107, md110, h⟩
            · have h := h.2 (hc)
              refine sv_aload_n hM dX12_waysOfBinary_156 rfl rfl ?_
              refine sv_aload_n hM dX12_waysOfBinary_157 rfl rfl ?_
              have k111 : sv_R (S 1148 0) := sm_okI ok107 sm_r1148 0
              have h := h k111
              refine sv_getI hM dX12_waysOfBinary_158 sm_fl_1188 (sm_a0 _) sm_k148 rfl (x := (S 1148 0)) rfl ?_
              refine sv_bipush (d := (6 : Int)) hM dX12_waysOfBinary_161 rfl rfl ?_
              obtain ⟨o112, h⟩ := h
              refine sv_callV hM dX12_waysOfBinary_163 sm_iv_1292 (by decide) (sm_a0 _) rfl rfl (Nat.le_of_ble_eq_true rfl) sm_h263 (Nat.le_of_ble_eq_true rfl) (Nat.le_of_ble_eq_true rfl) (F' := 8) (Nat.le_of_ble_eq_true rfl) rfl (t_error_ (S 1148 0) (6 : Int) (sv_sts (sv_sts (sv_sts (sv_sts S [68, 69, 70] g15) [1143, 1144, 5, 1011] g60) [68, 69, 70, 1145] g93) [68, 69, 70, 81, 82, 83, 84, 85, 86, 71, 74, 75, 1127, 78, 79, 80, 72, 76, 77, 1150] g106) ok107 k111 (⟨by decide, by decide⟩ : sv_R (6 : Int)) o112) (fun v S1 hq => ?_)
              obtain ⟨rfl, ok114, md115, hpo116⟩ := hq
              obtain ⟨g113, rfl⟩ : ∃ g, S1 = sv_sts (sv_sts (sv_sts (sv_sts (sv_sts S [68, 69, 70] g15) [1143, 1144, 5, 1011] g60) [68, 69, 70, 1145] g93) [68, 69, 70, 81, 82, 83, 84, 85, 86, 71, 74, 75, 1127, 78, 79, 80, 72, 76, 77, 1150] g106) [68, 69, 70, 81, 82, 83, 84, 85, 86, 71, 74, 75, 1127, 78, 79, 80, 72, 76, 77, 1143, 1144, 5, 1011, 1150, 1149, 1145, 1113, 1111, 1112, 1100031] g := ⟨_, md115.eq⟩
              show sv_T sm_XS sm_cs sm_L sm_sh 9 (q_waysOfBinary p1 S) 278 166 [(0, .ref 0), (1, sv_I p1), (2, sv_I r7), (3, sv_I r13), (4, sv_I (647740 : Int)), (5, sv_I (0 : Int))] [] (sv_sts (sv_sts (sv_sts (sv_sts (sv_sts S [68, 69, 70] g15) [1143, 1144, 5, 1011] g60) [68, 69, 70, 1145] g93) [68, 69, 70, 81, 82, 83, 84, 85, 86, 71, 74, 75, 1127, 78, 79, 80, 72, 76, 77, 1150] g106) [68, 69, 70, 81, 82, 83, 84, 85, 86, 71, 74, 75, 1127, 78, 79, 80, 72, 76, 77, 1143, 1144, 5, 1011, 1150, 1149, 1145, 1113, 1111, 1112, 1100031] g113)
              have md117 : sv_mod [68, 69, 70, 81, 82, 83, 84, 85, 86, 71, 74, 75, 1127, 78, 79, 80, 72, 76, 77, 1143, 1144, 5, 1011, 1150, 1149, 1145, 1113, 1111, 1112, 1100031] S (sv_sts (sv_sts (sv_sts (sv_sts (sv_sts S [68, 69, 70] g15) [1143, 1144, 5, 1011] g60) [68, 69, 70, 1145] g93) [68, 69, 70, 81, 82, 83, 84, 85, 86, 71, 74, 75, 1127, 78, 79, 80, 72, 76, 77, 1150] g106) [68, 69, 70, 81, 82, 83, 84, 85, 86, 71, 74, 75, 1127, 78, 79, 80, 72, 76, 77, 1143, 1144, 5, 1011, 1150, 1149, 1145, 1113, 1111, 1112, 1100031] g113) := sv_mod.sts md110 (by decide)
              have h := h g113 hpo116
              exact sv_vret hM dX12_waysOfBinary_166 rfl ⟨rfl, ok114, md117, h⟩
          · have h := h.2 (hc)
            refine sv_aload_n hM dX12_waysOfBinary_105 rfl rfl ?_
            refine sv_iload hM dX12_waysOfBinary_106 rfl rfl ?_
            refine sv_bipush (d := (8 : Int)) hM dX12_waysOfBinary_108 rfl rfl ?_
            obtain ⟨o118, h⟩ := h
            refine sv_callV hM dX12_waysOfBinary_110 sm_iv_1072 (by decide) (sm_a0 _) rfl rfl (Nat.le_of_ble_eq_true rfl) sm_h213 (Nat.le_of_ble_eq_true rfl) (Nat.le_of_ble_eq_true rfl) (F' := 2) (Nat.le_of_ble_eq_true rfl) rfl (t_addSort (647740 : Int) (8 : Int) (sv_sts (sv_sts (sv_sts S [68, 69, 70] g15) [1143, 1144, 5, 1011] g60) [68, 69, 70, 1145] g93) ok100 (⟨by decide, by decide⟩ : sv_R (647740 : Int)) (⟨by decide, by decide⟩ : sv_R (8 : Int)) o118) (fun v S1 hq => ?_)
            obtain ⟨rfl, ok120, md121, hpo122⟩ := hq
            obtain ⟨g119, rfl⟩ : ∃ g, S1 = sv_sts (sv_sts (sv_sts (sv_sts S [68, 69, 70] g15) [1143, 1144, 5, 1011] g60) [68, 69, 70, 1145] g93) [68, 69, 70] g := ⟨_, md121.eq⟩
            show sv_T sm_XS sm_cs sm_L sm_sh 9 (q_waysOfBinary p1 S) 278 113 [(0, .ref 0), (1, sv_I p1), (2, sv_I r7), (3, sv_I r13), (4, sv_I (647740 : Int)), (5, sv_I (0 : Int))] [] (sv_sts (sv_sts (sv_sts (sv_sts S [68, 69, 70] g15) [1143, 1144, 5, 1011] g60) [68, 69, 70, 1145] g93) [68, 69, 70] g119)
            have md123 : sv_mod [68, 69, 70, 81, 82, 83, 84, 85, 86, 71, 74, 75, 1127, 78, 79, 80, 72, 76, 77, 1143, 1144, 5, 1011, 1150, 1149, 1145, 1113, 1111, 1112, 1100031] S (sv_sts (sv_sts (sv_sts (sv_sts S [68, 69, 70] g15) [1143, 1144, 5, 1011] g60) [68, 69, 70, 1145] g93) [68, 69, 70] g119) := sv_mod.sts md97 (by decide)
            have h := h g119 hpo122
            refine sv_goto hM dX12_waysOfBinary_113 (pc' := 144) rfl ?_
            refine sv_aload_n hM dX12_waysOfBinary_144 rfl rfl ?_
            refine sv_iconst (d := (2 : Int)) hM dX12_waysOfBinary_145 rfl rfl ?_
            refine sv_iload hM dX12_waysOfBinary_146 rfl rfl ?_
            obtain ⟨o124, h⟩ := h
            refine sv_callV hM dX12_waysOfBinary_148 sm_iv_1258 (by decide) (sm_a0 _) rfl rfl (Nat.le_of_ble_eq_true rfl) sm_h267 (Nat.le_of_ble_eq_true rfl) (Nat.le_of_ble_eq_true rfl) (F' := 5) (Nat.le_of_ble_eq_true rfl) rfl (t_replace (2 : Int) (647740 : Int) (sv_sts (sv_sts (sv_sts (sv_sts S [68, 69, 70] g15) [1143, 1144, 5, 1011] g60) [68, 69, 70, 1145] g93) [68, 69, 70] g119) ok120 (⟨by decide, by decide⟩ : sv_R (2 : Int)) (⟨by decide, by decide⟩ : sv_R (647740 : Int)) o124) (fun v S1 hq => ?_)
            obtain ⟨rfl, ok126, md127, hpo128⟩ := hq
            obtain ⟨g125, rfl⟩ : ∃ g, S1 = sv_sts (sv_sts (sv_sts (sv_sts (sv_sts S [68, 69, 70] g15) [1143, 1144, 5, 1011] g60) [68, 69, 70, 1145] g93) [68, 69, 70] g119) [68, 69, 70, 81, 82, 83, 84, 85, 86, 71, 74, 75, 1127, 78, 79, 80, 72, 76, 77, 1150] g := ⟨_, md127.eq⟩
            show sv_T sm_XS sm_cs sm_L sm_sh 9 (q_waysOfBinary p1 S) 278 151 [(0, .ref 0), (1, sv_I p1), (2, sv_I r7), (3, sv_I r13), (4, sv_I (647740 : Int)), (5, sv_I (0 : Int))] [] (sv_sts (sv_sts (sv_sts (sv_sts (sv_sts S [68, 69, 70] g15) [1143, 1144, 5, 1011] g60) [68, 69, 70, 1145] g93) [68, 69, 70] g119) [68, 69, 70, 81, 82, 83, 84, 85, 86, 71, 74, 75, 1127, 78, 79, 80, 72, 76, 77, 1150] g125)
            have md129 : sv_mod [68, 69, 70, 81, 82, 83, 84, 85, 86, 71, 74, 75, 1127, 78, 79, 80, 72, 76, 77, 1143, 1144, 5, 1011, 1150, 1149, 1145, 1113, 1111, 1112, 1100031] S (sv_sts (sv_sts (sv_sts (sv_sts (sv_sts S [68, 69, 70] g15) [1143, 1144, 5, 1011] g60) [68, 69, 70, 1145] g93) [68, 69, 70] g119) [68, 69, 70, 81, 82, 83, 84, 85, 86, 71, 74, 75, 1127, 78, 79, 80, 72, 76, 77, 1150] g125) := sv_mod.sts md123 (by decide)
            have h := h g125 hpo128
            refine sv_iload hM dX12_waysOfBinary_151 rfl rfl ?_
            refine sv_cond_eq hM dX12_waysOfBinary_153 (⟨by decide, by decide⟩ : sv_R (0 : Int)) (t := 166) rfl rfl (fun hc => ?_) (fun hc => ?_)
            · have h := h.1 (hc)
              exact sv_vret hM dX12_waysOfBinary_166 rfl ⟨rfl, ok126, md129, h⟩
            · have h := h.2 (hc)
              refine sv_aload_n hM dX12_waysOfBinary_156 rfl rfl ?_
              refine sv_aload_n hM dX12_waysOfBinary_157 rfl rfl ?_
              have k130 : sv_R (S 1148 0) := sm_okI ok126 sm_r1148 0
              have h := h k130
              refine sv_getI hM dX12_waysOfBinary_158 sm_fl_1188 (sm_a0 _) sm_k148 rfl (x := (S 1148 0)) rfl ?_
              refine sv_bipush (d := (6 : Int)) hM dX12_waysOfBinary_161 rfl rfl ?_
              obtain ⟨o131, h⟩ := h
              refine sv_callV hM dX12_waysOfBinary_163 sm_iv_1292 (by decide) (sm_a0 _) rfl rfl (Nat.le_of_ble_eq_true rfl) sm_h263 (Nat.le_of_ble_eq_true rfl) (Nat.le_of_ble_eq_true rfl) (F' := 8) (Nat.le_of_ble_eq_true rfl) rfl (t_error_ (S 1148 0) (6 : Int) (sv_sts (sv_sts (sv_sts (sv_sts (sv_sts S [68, 69, 70] g15) [1143, 1144, 5, 1011] g60) [68, 69, 70, 1145] g93) [68, 69, 70] g119) [68, 69, 70, 81, 82, 83, 84, 85, 86, 71, 74, 75, 1127, 78, 79, 80, 72, 76, 77, 1150] g125) ok126 k130 (⟨by decide, by decide⟩ : sv_R (6 : Int)) o131) (fun v S1 hq => ?_)
              obtain ⟨rfl, ok133, md134, hpo135⟩ := hq
              obtain ⟨g132, rfl⟩ : ∃ g, S1 = sv_sts (sv_sts (sv_sts (sv_sts (sv_sts (sv_sts S [68, 69, 70] g15) [1143, 1144, 5, 1011] g60) [68, 69, 70, 1145] g93) [68, 69, 70] g119) [68, 69, 70, 81, 82, 83, 84, 85, 86, 71, 74, 75, 1127, 78, 79, 80, 72, 76, 77, 1150] g125) [68, 69, 70, 81, 82, 83, 84, 85, 86, 71, 74, 75, 1127, 78, 79, 80, 72, 76, 77, 1143, 1144, 5, 1011, 1150, 1149, 1145, 1113, 1111, 1112, 1100031] g := ⟨_, md134.eq⟩
              show sv_T sm_XS sm_cs sm_L sm_sh 9 (q_waysOfBinary p1 S) 278 166 [(0, .ref 0), (1, sv_I p1), (2, sv_I r7), (3, sv_I r13), (4, sv_I (647740 : Int)), (5, sv_I (0 : Int))] [] (sv_sts (sv_sts (sv_sts (sv_sts (sv_sts (sv_sts S [68, 69, 70] g15) [1143, 1144, 5, 1011] g60) [68, 69, 70, 1145] g93) [68, 69, 70] g119) [68, 69, 70, 81, 82, 83, 84, 85, 86, 71, 74, 75, 1127, 78, 79, 80, 72, 76, 77, 1150] g125) [68, 69, 70, 81, 82, 83, 84, 85, 86, 71, 74, 75, 1127, 78, 79, 80, 72, 76, 77, 1143, 1144, 5, 1011, 1150, 1149, 1145, 1113, 1111, 1112, 1100031] g132)
              have md136 : sv_mod [68, 69, 70, 81, 82, 83, 84, 85, 86, 71, 74, 75, 1127, 78, 79, 80, 72, 76, 77, 1143, 1144, 5, 1011, 1150, 1149, 1145, 1113, 1111, 1112, 1100031] S (sv_sts (sv_sts (sv_sts (sv_sts (sv_sts (sv_sts S [68, 69, 70] g15) [1143, 1144, 5, 1011] g60) [68, 69, 70, 1145] g93) [68, 69, 70] g119) [68, 69, 70, 81, 82, 83, 84, 85, 86, 71, 74, 75, 1127, 78, 79, 80, 72, 76, 77, 1150] g125) [68, 69, 70, 81, 82, 83, 84, 85, 86, 71, 74, 75, 1127, 78, 79, 80, 72, 76, 77, 1143, 1144, 5, 1011, 1150, 1149, 1145, 1113, 1111, 1112, 1100031] g132) := sv_mod.sts md129 (by decide)
              have h := h g132 hpo135
              exact sv_vret hM dX12_waysOfBinary_166 rfl ⟨rfl, ok133, md136, h⟩
        · have h := h.2 (hc)
          refine sv_aload_n hM dX12_waysOfBinary_91 rfl rfl ?_
          refine sv_iload hM dX12_waysOfBinary_92 rfl rfl ?_
          refine sv_iconst (d := (4 : Int)) hM dX12_waysOfBinary_94 rfl rfl ?_
          obtain ⟨o137, h⟩ := h
          refine sv_callV hM dX12_waysOfBinary_95 sm_iv_1072 (by decide) (sm_a0 _) rfl rfl (Nat.le_of_ble_eq_true rfl) sm_h213 (Nat.le_of_ble_eq_true rfl) (Nat.le_of_ble_eq_true rfl) (F' := 2) (Nat.le_of_ble_eq_true rfl) rfl (t_addSort (647740 : Int) (4 : Int) (sv_sts (sv_sts (sv_sts S [68, 69, 70] g15) [1143, 1144, 5, 1011] g60) [68, 69, 70, 1145] g93) ok100 (⟨by decide, by decide⟩ : sv_R (647740 : Int)) (⟨by decide, by decide⟩ : sv_R (4 : Int)) o137) (fun v S1 hq => ?_)
          obtain ⟨rfl, ok139, md140, hpo141⟩ := hq
          obtain ⟨g138, rfl⟩ : ∃ g, S1 = sv_sts (sv_sts (sv_sts (sv_sts S [68, 69, 70] g15) [1143, 1144, 5, 1011] g60) [68, 69, 70, 1145] g93) [68, 69, 70] g := ⟨_, md140.eq⟩
          show sv_T sm_XS sm_cs sm_L sm_sh 9 (q_waysOfBinary p1 S) 278 98 [(0, .ref 0), (1, sv_I p1), (2, sv_I r7), (3, sv_I r13), (4, sv_I (647740 : Int)), (5, sv_I (0 : Int))] [] (sv_sts (sv_sts (sv_sts (sv_sts S [68, 69, 70] g15) [1143, 1144, 5, 1011] g60) [68, 69, 70, 1145] g93) [68, 69, 70] g138)
          have md142 : sv_mod [68, 69, 70, 81, 82, 83, 84, 85, 86, 71, 74, 75, 1127, 78, 79, 80, 72, 76, 77, 1143, 1144, 5, 1011, 1150, 1149, 1145, 1113, 1111, 1112, 1100031] S (sv_sts (sv_sts (sv_sts (sv_sts S [68, 69, 70] g15) [1143, 1144, 5, 1011] g60) [68, 69, 70, 1145] g93) [68, 69, 70] g138) := sv_mod.sts md97 (by decide)
          have h := h g138 hpo141
          refine sv_aload_n hM dX12_waysOfBinary_98 rfl rfl ?_
          have k143 : (0 ≤ (g93 1145 0) ∧ (g93 1145 0) ≤ 1) := sm_okZ ok139 sm_r1145 0
          have h := h k143
          refine sv_getI hM dX12_waysOfBinary_99 sm_fl_1156 (sm_a0 _) sm_k145 rfl (x := (g93 1145 0)) rfl ?_
          refine sv_cond_eq hM dX12_waysOfBinary_102 (sv_R01 k143) (t := 144) rfl rfl (fun hc => ?_) (fun hc => ?_)
          · have h := h.1 (hc)
            refine sv_aload_n hM dX12_waysOfBinary_144 rfl rfl ?_
            refine sv_iconst (d := (2 : Int)) hM dX12_waysOfBinary_145 rfl rfl ?_
            refine sv_iload hM dX12_waysOfBinary_146 rfl rfl ?_
            obtain ⟨o144, h⟩ := h
            refine sv_callV hM dX12_waysOfBinary_148 sm_iv_1258 (by decide) (sm_a0 _) rfl rfl (Nat.le_of_ble_eq_true rfl) sm_h267 (Nat.le_of_ble_eq_true rfl) (Nat.le_of_ble_eq_true rfl) (F' := 5) (Nat.le_of_ble_eq_true rfl) rfl (t_replace (2 : Int) (647740 : Int) (sv_sts (sv_sts (sv_sts (sv_sts S [68, 69, 70] g15) [1143, 1144, 5, 1011] g60) [68, 69, 70, 1145] g93) [68, 69, 70] g138) ok139 (⟨by decide, by decide⟩ : sv_R (2 : Int)) (⟨by decide, by decide⟩ : sv_R (647740 : Int)) o144) (fun v S1 hq => ?_)
            obtain ⟨rfl, ok146, md147, hpo148⟩ := hq
            obtain ⟨g145, rfl⟩ : ∃ g, S1 = sv_sts (sv_sts (sv_sts (sv_sts (sv_sts S [68, 69, 70] g15) [1143, 1144, 5, 1011] g60) [68, 69, 70, 1145] g93) [68, 69, 70] g138) [68, 69, 70, 81, 82, 83, 84, 85, 86, 71, 74, 75, 1127, 78, 79, 80, 72, 76, 77, 1150] g := ⟨_, md147.eq⟩
            show sv_T sm_XS sm_cs sm_L sm_sh 9 (q_waysOfBinary p1 S) 278 151 [(0, .ref 0), (1, sv_I p1), (2, sv_I r7), (3, sv_I r13), (4, sv_I (647740 : Int)), (5, sv_I (0 : Int))] [] (sv_sts (sv_sts (sv_sts (sv_sts (sv_sts S [68, 69, 70] g15) [1143, 1144, 5, 1011] g60) [68, 69, 70, 1145] g93) [68, 69, 70] g138) [68, 69, 70, 81, 82, 83, 84, 85, 86, 71, 74, 75, 1127, 78, 79, 80, 72, 76, 77, 1150] g145)
            have md149 : sv_mod [68, 69, 70, 81, 82, 83, 84, 85, 86, 71, 74, 75, 1127, 78, 79, 80, 72, 76, 77, 1143, 1144, 5, 1011, 1150, 1149, 1145, 1113, 1111, 1112, 1100031] S (sv_sts (sv_sts (sv_sts (sv_sts (sv_sts S [68, 69, 70] g15) [1143, 1144, 5, 1011] g60) [68, 69, 70, 1145] g93) [68, 69, 70] g138) [68, 69, 70, 81, 82, 83, 84, 85, 86, 71, 74, 75, 1127, 78, 79, 80, 72, 76, 77, 1150] g145) := sv_mod.sts md142 (by decide)
            have h := h g145 hpo148
            refine sv_iload hM dX12_waysOfBinary_151 rfl rfl ?_
            refine sv_cond_eq hM dX12_waysOfBinary_153 (⟨by decide, by decide⟩ : sv_R (0 : Int)) (t := 166) rfl rfl (fun hc => ?_) (fun hc => ?_)
            · have h := h.1 (hc)
              exact sv_vret hM dX12_waysOfBinary_166 rfl ⟨rfl, ok146, md149, h⟩
            · have h := h.2 (hc)
              refine sv_aload_n hM dX12_waysOfBinary_156 rfl rfl ?_
              refine sv_aload_n hM dX12_waysOfBinary_157 rfl rfl ?_
              have k150 : sv_R (S 1148 0) := sm_okI ok146 sm_r1148 0
              have h := h k150
              refine sv_getI hM dX12_waysOfBinary_158 sm_fl_1188 (sm_a0 _) sm_k148 rfl (x := (S 1148 0)) rfl ?_
              refine sv_bipush (d := (6 : Int)) hM dX12_waysOfBinary_161 rfl rfl ?_
              obtain ⟨o151, h⟩ := h
              refine sv_callV hM dX12_waysOfBinary_163 sm_iv_1292 (by decide) (sm_a0 _) rfl rfl (Nat.le_of_ble_eq_true rfl) sm_h263 (Nat.le_of_ble_eq_true rfl) (Nat.le_of_ble_eq_true rfl) (F' := 8) (Nat.le_of_ble_eq_true rfl) rfl (t_error_ (S 1148 0) (6 : Int) (sv_sts (sv_sts (sv_sts (sv_sts (sv_sts S [68, 69, 70] g15) [1143, 1144, 5, 1011] g60) [68, 69, 70, 1145] g93) [68, 69, 70] g138) [68, 69, 70, 81, 82, 83, 84, 85, 86, 71, 74, 75, 1127, 78, 79, 80, 72, 76, 77, 1150] g145) ok146 k150 (⟨by decide, by decide⟩ : sv_R (6 : Int)) o151) (fun v S1 hq => ?_)
              obtain ⟨rfl, ok153, md154, hpo155⟩ := hq
              obtain ⟨g152, rfl⟩ : ∃ g, S1 = sv_sts (sv_sts (sv_sts (sv_sts (sv_sts (sv_sts S [68, 69, 70] g15) [1143, 1144, 5, 1011] g60) [68, 69, 70, 1145] g93) [68, 69, 70] g138) [68, 69, 70, 81, 82, 83, 84, 85, 86, 71, 74, 75, 1127, 78, 79, 80, 72, 76, 77, 1150] g145) [68, 69, 70, 81, 82, 83, 84, 85, 86, 71, 74, 75, 1127, 78, 79, 80, 72, 76, 77, 1143, 1144, 5, 1011, 1150, 1149, 1145, 1113, 1111, 1112, 1100031] g := ⟨_, md154.eq⟩
              show sv_T sm_XS sm_cs sm_L sm_sh 9 (q_waysOfBinary p1 S) 278 166 [(0, .ref 0), (1, sv_I p1), (2, sv_I r7), (3, sv_I r13), (4, sv_I (647740 : Int)), (5, sv_I (0 : Int))] [] (sv_sts (sv_sts (sv_sts (sv_sts (sv_sts (sv_sts S [68, 69, 70] g15) [1143, 1144, 5, 1011] g60) [68, 69, 70, 1145] g93) [68, 69, 70] g138) [68, 69, 70, 81, 82, 83, 84, 85, 86, 71, 74, 75, 1127, 78, 79, 80, 72, 76, 77, 1150] g145) [68, 69, 70, 81, 82, 83, 84, 85, 86, 71, 74, 75, 1127, 78, 79, 80, 72, 76, 77, 1143, 1144, 5, 1011, 1150, 1149, 1145, 1113, 1111, 1112, 1100031] g152)
              have md156 : sv_mod [68, 69, 70, 81, 82, 83, 84, 85, 86, 71, 74, 75, 1127, 78, 79, 80, 72, 76, 77, 1143, 1144, 5, 1011, 1150, 1149, 1145, 1113, 1111, 1112, 1100031] S (sv_sts (sv_sts (sv_sts (sv_sts (sv_sts (sv_sts S [68, 69, 70] g15) [1143, 1144, 5, 1011] g60) [68, 69, 70, 1145] g93) [68, 69, 70] g138) [68, 69, 70, 81, 82, 83, 84, 85, 86, 71, 74, 75, 1127, 78, 79, 80, 72, 76, 77, 1150] g145) [68, 69, 70, 81, 82, 83, 84, 85, 86, 71, 74, 75, 1127, 78, 79, 80, 72, 76, 77, 1143, 1144, 5, 1011, 1150, 1149, 1145, 1113, 1111, 1112, 1100031] g152) := sv_mod.sts md149 (by decide)
              have h := h g152 hpo155
              exact sv_vret hM dX12_waysOfBinary_166 rfl ⟨rfl, ok153, md156, h⟩
          · have h := h.2 (hc)
            refine sv_aload_n hM dX12_waysOfBinary_105 rfl rfl ?_
            refine sv_iload hM dX12_waysOfBinary_106 rfl rfl ?_
            refine sv_bipush (d := (8 : Int)) hM dX12_waysOfBinary_108 rfl rfl ?_
            refine sv_callV hM dX12_waysOfBinary_110 sm_iv_1072 (by decide) (sm_a0 _) rfl rfl (Nat.le_of_ble_eq_true rfl) sm_h213 (Nat.le_of_ble_eq_true rfl) (Nat.le_of_ble_eq_true rfl) (F' := 2) (Nat.le_of_ble_eq_true rfl) rfl (t_addSort (647740 : Int) (8 : Int) (sv_sts (sv_sts (sv_sts (sv_sts S [68, 69, 70] g15) [1143, 1144, 5, 1011] g60) [68, 69, 70, 1145] g93) [68, 69, 70] g138) ok139 (⟨by decide, by decide⟩ : sv_R (647740 : Int)) (⟨by decide, by decide⟩ : sv_R (8 : Int)) o137) (fun v S1 hq => ?_)
            obtain ⟨rfl, ok158, md159, hpo160⟩ := hq
            obtain ⟨g157, rfl⟩ : ∃ g, S1 = sv_sts (sv_sts (sv_sts (sv_sts (sv_sts S [68, 69, 70] g15) [1143, 1144, 5, 1011] g60) [68, 69, 70, 1145] g93) [68, 69, 70] g138) [68, 69, 70] g := ⟨_, md159.eq⟩
            show sv_T sm_XS sm_cs sm_L sm_sh 9 (q_waysOfBinary p1 S) 278 113 [(0, .ref 0), (1, sv_I p1), (2, sv_I r7), (3, sv_I r13), (4, sv_I (647740 : Int)), (5, sv_I (0 : Int))] [] (sv_sts (sv_sts (sv_sts (sv_sts (sv_sts S [68, 69, 70] g15) [1143, 1144, 5, 1011] g60) [68, 69, 70, 1145] g93) [68, 69, 70] g138) [68, 69, 70] g157)
            have md161 : sv_mod [68, 69, 70, 81, 82, 83, 84, 85, 86, 71, 74, 75, 1127, 78, 79, 80, 72, 76, 77, 1143, 1144, 5, 1011, 1150, 1149, 1145, 1113, 1111, 1112, 1100031] S (sv_sts (sv_sts (sv_sts (sv_sts (sv_sts S [68, 69, 70] g15) [1143, 1144, 5, 1011] g60) [68, 69, 70, 1145] g93) [68, 69, 70] g138) [68, 69, 70] g157) := sv_mod.sts md142 (by decide)
            have h := h g157 hpo160
            refine sv_goto hM dX12_waysOfBinary_113 (pc' := 144) rfl ?_
            refine sv_aload_n hM dX12_waysOfBinary_144 rfl rfl ?_
            refine sv_iconst (d := (2 : Int)) hM dX12_waysOfBinary_145 rfl rfl ?_
            refine sv_iload hM dX12_waysOfBinary_146 rfl rfl ?_
            obtain ⟨o162, h⟩ := h
            refine sv_callV hM dX12_waysOfBinary_148 sm_iv_1258 (by decide) (sm_a0 _) rfl rfl (Nat.le_of_ble_eq_true rfl) sm_h267 (Nat.le_of_ble_eq_true rfl) (Nat.le_of_ble_eq_true rfl) (F' := 5) (Nat.le_of_ble_eq_true rfl) rfl (t_replace (2 : Int) (647740 : Int) (sv_sts (sv_sts (sv_sts (sv_sts (sv_sts S [68, 69, 70] g15) [1143, 1144, 5, 1011] g60) [68, 69, 70, 1145] g93) [68, 69, 70] g138) [68, 69, 70] g157) ok158 (⟨by decide, by decide⟩ : sv_R (2 : Int)) (⟨by decide, by decide⟩ : sv_R (647740 : Int)) o162) (fun v S1 hq => ?_)
            obtain ⟨rfl, ok164, md165, hpo166⟩ := hq
            obtain ⟨g163, rfl⟩ : ∃ g, S1 = sv_sts (sv_sts (sv_sts (sv_sts (sv_sts (sv_sts S [68, 69, 70] g15) [1143, 1144, 5, 1011] g60) [68, 69, 70, 1145] g93) [68, 69, 70] g138) [68, 69, 70] g157) [68, 69, 70, 81, 82, 83, 84, 85, 86, 71, 74, 75, 1127, 78, 79, 80, 72, 76, 77, 1150] g := ⟨_, md165.eq⟩
            show sv_T sm_XS sm_cs sm_L sm_sh 9 (q_waysOfBinary p1 S) 278 151 [(0, .ref 0), (1, sv_I p1), (2, sv_I r7), (3, sv_I r13), (4, sv_I (647740 : Int)), (5, sv_I (0 : Int))] [] (sv_sts (sv_sts (sv_sts (sv_sts (sv_sts (sv_sts S [68, 69, 70] g15) [1143, 1144, 5, 1011] g60) [68, 69, 70, 1145] g93) [68, 69, 70] g138) [68, 69, 70] g157) [68, 69, 70, 81, 82, 83, 84, 85, 86, 71, 74, 75, 1127, 78, 79, 80, 72, 76, 77, 1150] g163)
            have md167 : sv_mod [68, 69, 70, 81, 82, 83, 84, 85, 86, 71, 74, 75, 1127, 78, 79, 80, 72, 76, 77, 1143, 1144, 5, 1011, 1150, 1149, 1145, 1113, 1111, 1112, 1100031] S (sv_sts (sv_sts (sv_sts (sv_sts (sv_sts (sv_sts S [68, 69, 70] g15) [1143, 1144, 5, 1011] g60) [68, 69, 70, 1145] g93) [68, 69, 70] g138) [68, 69, 70] g157) [68, 69, 70, 81, 82, 83, 84, 85, 86, 71, 74, 75, 1127, 78, 79, 80, 72, 76, 77, 1150] g163) := sv_mod.sts md161 (by decide)
            have h := h g163 hpo166
            refine sv_iload hM dX12_waysOfBinary_151 rfl rfl ?_
            refine sv_cond_eq hM dX12_waysOfBinary_153 (⟨by decide, by decide⟩ : sv_R (0 : Int)) (t := 166) rfl rfl (fun hc => ?_) (fun hc => ?_)
            · have h := h.1 (hc)
              exact sv_vret hM dX12_waysOfBinary_166 rfl ⟨rfl, ok164, md167, h⟩
            · have h := h.2 (hc)
              refine sv_aload_n hM dX12_waysOfBinary_156 rfl rfl ?_
              refine sv_aload_n hM dX12_waysOfBinary_157 rfl rfl ?_
              have k168 : sv_R (S 1148 0) := sm_okI ok164 sm_r1148 0
              have h := h k168
              refine sv_getI hM dX12_waysOfBinary_158 sm_fl_1188 (sm_a0 _) sm_k148 rfl (x := (S 1148 0)) rfl ?_
              refine sv_bipush (d := (6 : Int)) hM dX12_waysOfBinary_161 rfl rfl ?_
              obtain ⟨o169, h⟩ := h
              refine sv_callV hM dX12_waysOfBinary_163 sm_iv_1292 (by decide) (sm_a0 _) rfl rfl (Nat.le_of_ble_eq_true rfl) sm_h263 (Nat.le_of_ble_eq_true rfl) (Nat.le_of_ble_eq_true rfl) (F' := 8) (Nat.le_of_ble_eq_true rfl) rfl (t_error_ (S 1148 0) (6 : Int) (sv_sts (sv_sts (sv_sts (sv_sts (sv_sts (sv_sts S [68, 69, 70] g15) [1143, 1144, 5, 1011] g60) [68, 69, 70, 1145] g93) [68, 69, 70] g138) [68, 69, 70] g157) [68, 69, 70, 81, 82, 83, 84, 85, 86, 71, 74, 75, 1127, 78, 79, 80, 72, 76, 77, 1150] g163) ok164 k168 (⟨by decide, by decide⟩ : sv_R (6 : Int)) o169) (fun v S1 hq => ?_)
              obtain ⟨rfl, ok171, md172, hpo173⟩ := hq
              obtain ⟨g170, rfl⟩ : ∃ g, S1 = sv_sts (sv_sts (sv_sts (sv_sts (sv_sts (sv_sts (sv_sts S [68, 69, 70] g15) [1143, 1144, 5, 1011] g60) [68, 69, 70, 1145] g93) [68, 69, 70] g138) [68, 69, 70] g157) [68, 69, 70, 81, 82, 83, 84, 85, 86, 71, 74, 75, 1127, 78, 79, 80, 72, 76, 77, 1150] g163) [68, 69, 70, 81, 82, 83, 84, 85, 86, 71, 74, 75, 1127, 78, 79, 80, 72, 76, 77, 1143, 1144, 5, 1011, 1150, 1149, 1145, 1113, 1111, 1112, 1100031] g := ⟨_, md172.eq⟩
              show sv_T sm_XS sm_cs sm_L sm_sh 9 (q_waysOfBinary p1 S) 278 166 [(0, .ref 0), (1, sv_I p1), (2, sv_I r7), (3, sv_I r13), (4, sv_I (647740 : Int)), (5, sv_I (0 : Int))] [] (sv_sts (sv_sts (sv_sts (sv_sts (sv_sts (sv_sts (sv_sts S [68, 69, 70] g15) [1143, 1144, 5, 1011] g60) [68, 69, 70, 1145] g93) [68, 69, 70] g138) [68, 69, 70] g157) [68, 69, 70, 81, 82, 83, 84, 85, 86, 71, 74, 75, 1127, 78, 79, 80, 72, 76, 77, 1150] g163) [68, 69, 70, 81, 82, 83, 84, 85, 86, 71, 74, 75, 1127, 78, 79, 80, 72, 76, 77, 1143, 1144, 5, 1011, 1150, 1149, 1145, 1113, 1111, 1112, 1100031] g170)
              have md174 : sv_mod [68, 69, 70, 81, 82, 83, 84, 85, 86, 71, 74, 75, 1127, 78, 79, 80, 72, 76, 77, 1143, 1144, 5, 1011, 1150, 1149, 1145, 1113, 1111, 1112, 1100031] S (sv_sts (sv_sts (sv_sts (sv_sts (sv_sts (sv_sts (sv_sts S [68, 69, 70] g15) [1143, 1144, 5, 1011] g60) [68, 69, 70, 1145] g93) [68, 69, 70] g138) [68, 69, 70] g157) [68, 69, 70, 81, 82, 83, 84, 85, 86, 71, 74, 75, 1127, 78, 79, 80, 72, 76, 77, 1150] g163) [68, 69, 70, 81, 82, 83, 84, 85, 86, 71, 74, 75, 1127, 78, 79, 80, 72, 76, 77, 1143, 1144, 5, 1011, 1150, 1149, 1145, 1113, 1111, 1112, 1100031] g170) := sv_mod.sts md167 (by decide)
              have h := h g170 hpo173
              exact sv_vret hM dX12_waysOfBinary_166 rfl ⟨rfl, ok171, md174, h⟩
    · have h := h.2 (hc)
      refine sv_iconst (d := (1 : Int)) hM dX12_waysOfBinary_45 rfl rfl ?_
      refine sv_goto hM dX12_waysOfBinary_46 (pc' := 50) rfl ?_
      refine sv_istore hM dX12_waysOfBinary_50 (by decide) rfl ?_
      show sv_T sm_XS sm_cs sm_L sm_sh 9 (q_waysOfBinary p1 S) 278 52 [(0, .ref 0), (1, sv_I p1), (2, sv_I r7), (3, sv_I r13), (4, sv_I (647740 : Int)), (5, sv_I (1 : Int))] [] (sv_sts (sv_sts S [68, 69, 70] g15) [1143, 1144, 5, 1011] g60)
      refine sv_aload_n hM dX12_waysOfBinary_52 rfl rfl ?_
      refine sv_iload_n hM dX12_waysOfBinary_53 rfl rfl ?_
      refine sv_callV hM dX12_waysOfBinary_54 sm_iv_1062 (by decide) (sm_a0 _) rfl rfl (Nat.le_of_ble_eq_true rfl) sm_h209 (Nat.le_of_ble_eq_true rfl) (Nat.le_of_ble_eq_true rfl) (F' := 0) (Nat.le_of_ble_eq_true rfl) rfl (t_hasLabels r13 (sv_sts (sv_sts S [68, 69, 70] g15) [1143, 1144, 5, 1011] g60) ok67 hr13 o65) (fun v S1 hq => ?_)
      obtain ⟨r179, rfl, hr179, ok176, md177, hpo178⟩ := hq
      obtain rfl : (sv_sts (sv_sts S [68, 69, 70] g15) [1143, 1144, 5, 1011] g60) = S1 := (funext fun j => md177 j (by intro q; cases q)).symm
      show sv_T sm_XS sm_cs sm_L sm_sh 9 (q_waysOfBinary p1 S) 278 57 [(0, .ref 0), (1, sv_I p1), (2, sv_I r7), (3, sv_I r13), (4, sv_I (647740 : Int)), (5, sv_I (1 : Int))] [sv_I r179] (sv_sts (sv_sts S [68, 69, 70] g15) [1143, 1144, 5, 1011] g60)
      have h := h r179 hr179 hpo178
      refine sv_cond_eq hM dX12_waysOfBinary_57 hr179 (t := 144) rfl rfl (fun hc => ?_) (fun hc => ?_)
      · have h := h.1 (hc)
        refine sv_aload_n hM dX12_waysOfBinary_144 rfl rfl ?_
        refine sv_iconst (d := (2 : Int)) hM dX12_waysOfBinary_145 rfl rfl ?_
        refine sv_iload hM dX12_waysOfBinary_146 rfl rfl ?_
        obtain ⟨o180, h⟩ := h
        refine sv_callV hM dX12_waysOfBinary_148 sm_iv_1258 (by decide) (sm_a0 _) rfl rfl (Nat.le_of_ble_eq_true rfl) sm_h267 (Nat.le_of_ble_eq_true rfl) (Nat.le_of_ble_eq_true rfl) (F' := 5) (Nat.le_of_ble_eq_true rfl) rfl (t_replace (2 : Int) (647740 : Int) (sv_sts (sv_sts S [68, 69, 70] g15) [1143, 1144, 5, 1011] g60) ok176 (⟨by decide, by decide⟩ : sv_R (2 : Int)) (⟨by decide, by decide⟩ : sv_R (647740 : Int)) o180) (fun v S1 hq => ?_)
        obtain ⟨rfl, ok182, md183, hpo184⟩ := hq
        obtain ⟨g181, rfl⟩ : ∃ g, S1 = sv_sts (sv_sts (sv_sts S [68, 69, 70] g15) [1143, 1144, 5, 1011] g60) [68, 69, 70, 81, 82, 83, 84, 85, 86, 71, 74, 75, 1127, 78, 79, 80, 72, 76, 77, 1150] g := ⟨_, md183.eq⟩
        show sv_T sm_XS sm_cs sm_L sm_sh 9 (q_waysOfBinary p1 S) 278 151 [(0, .ref 0), (1, sv_I p1), (2, sv_I r7), (3, sv_I r13), (4, sv_I (647740 : Int)), (5, sv_I (1 : Int))] [] (sv_sts (sv_sts (sv_sts S [68, 69, 70] g15) [1143, 1144, 5, 1011] g60) [68, 69, 70, 81, 82, 83, 84, 85, 86, 71, 74, 75, 1127, 78, 79, 80, 72, 76, 77, 1150] g181)
        have md185 : sv_mod [68, 69, 70, 81, 82, 83, 84, 85, 86, 71, 74, 75, 1127, 78, 79, 80, 72, 76, 77, 1143, 1144, 5, 1011, 1150, 1149, 1145, 1113, 1111, 1112, 1100031] S (sv_sts (sv_sts (sv_sts S [68, 69, 70] g15) [1143, 1144, 5, 1011] g60) [68, 69, 70, 81, 82, 83, 84, 85, 86, 71, 74, 75, 1127, 78, 79, 80, 72, 76, 77, 1150] g181) := sv_mod.sts md64 (by decide)
        have h := h g181 hpo184
        refine sv_iload hM dX12_waysOfBinary_151 rfl rfl ?_
        refine sv_cond_eq hM dX12_waysOfBinary_153 (⟨by decide, by decide⟩ : sv_R (1 : Int)) (t := 166) rfl rfl (fun hc => ?_) (fun hc => ?_)
        · have h := h.1 (hc)
          exact sv_vret hM dX12_waysOfBinary_166 rfl ⟨rfl, ok182, md185, h⟩
        · have h := h.2 (hc)
          refine sv_aload_n hM dX12_waysOfBinary_156 rfl rfl ?_
          refine sv_aload_n hM dX12_waysOfBinary_157 rfl rfl ?_
          have k186 : sv_R (S 1148 0) := sm_okI ok182 sm_r1148 0
          have h := h k186
          refine sv_getI hM dX12_waysOfBinary_158 sm_fl_1188 (sm_a0 _) sm_k148 rfl (x := (S 1148 0)) rfl ?_
          refine sv_bipush (d := (6 : Int)) hM dX12_waysOfBinary_161 rfl rfl ?_
          obtain ⟨o187, h⟩ := h
          refine sv_callV hM dX12_waysOfBinary_163 sm_iv_1292 (by decide) (sm_a0 _) rfl rfl (Nat.le_of_ble_eq_true rfl) sm_h263 (Nat.le_of_ble_eq_true rfl) (Nat.le_of_ble_eq_true rfl) (F' := 8) (Nat.le_of_ble_eq_true rfl) rfl (t_error_ (S 1148 0) (6 : Int) (sv_sts (sv_sts (sv_sts S [68, 69, 70] g15) [1143, 1144, 5, 1011] g60) [68, 69, 70, 81, 82, 83, 84, 85, 86, 71, 74, 75, 1127, 78, 79, 80, 72, 76, 77, 1150] g181) ok182 k186 (⟨by decide, by decide⟩ : sv_R (6 : Int)) o187) (fun v S1 hq => ?_)
          obtain ⟨rfl, ok189, md190, hpo191⟩ := hq
          obtain ⟨g188, rfl⟩ : ∃ g, S1 = sv_sts (sv_sts (sv_sts (sv_sts S [68, 69, 70] g15) [1143, 1144, 5, 1011] g60) [68, 69, 70, 81, 82, 83, 84, 85, 86, 71, 74, 75, 1127, 78, 79, 80, 72, 76, 77, 1150] g181) [68, 69, 70, 81, 82, 83, 84, 85, 86, 71, 74, 75, 1127, 78, 79, 80, 72, 76, 77, 1143, 1144, 5, 1011, 1150, 1149, 1145, 1113, 1111, 1112, 1100031] g := ⟨_, md190.eq⟩
          show sv_T sm_XS sm_cs sm_L sm_sh 9 (q_waysOfBinary p1 S) 278 166 [(0, .ref 0), (1, sv_I p1), (2, sv_I r7), (3, sv_I r13), (4, sv_I (647740 : Int)), (5, sv_I (1 : Int))] [] (sv_sts (sv_sts (sv_sts (sv_sts S [68, 69, 70] g15) [1143, 1144, 5, 1011] g60) [68, 69, 70, 81, 82, 83, 84, 85, 86, 71, 74, 75, 1127, 78, 79, 80, 72, 76, 77, 1150] g181) [68, 69, 70, 81, 82, 83, 84, 85, 86, 71, 74, 75, 1127, 78, 79, 80, 72, 76, 77, 1143, 1144, 5, 1011, 1150, 1149, 1145, 1113, 1111, 1112, 1100031] g188)
          have md192 : sv_mod [68, 69, 70, 81, 82, 83, 84, 85, 86, 71, 74, 75, 1127, 78, 79, 80, 72, 76, 77, 1143, 1144, 5, 1011, 1150, 1149, 1145, 1113, 1111, 1112, 1100031] S (sv_sts (sv_sts (sv_sts (sv_sts S [68, 69, 70] g15) [1143, 1144, 5, 1011] g60) [68, 69, 70, 81, 82, 83, 84, 85, 86, 71, 74, 75, 1127, 78, 79, 80, 72, 76, 77, 1150] g181) [68, 69, 70, 81, 82, 83, 84, 85, 86, 71, 74, 75, 1127, 78, 79, 80, 72, 76, 77, 1143, 1144, 5, 1011, 1150, 1149, 1145, 1113, 1111, 1112, 1100031] g188) := sv_mod.sts md185 (by decide)
          have h := h g188 hpo191
          exact sv_vret hM dX12_waysOfBinary_166 rfl ⟨rfl, ok189, md192, h⟩
      · have h := h.2 (hc)
        refine sv_aload_n hM dX12_waysOfBinary_60 rfl rfl ?_
        refine sv_aload_n hM dX12_waysOfBinary_61 rfl rfl ?_
        refine sv_getA hM dX12_waysOfBinary_62 sm_fl_220 (sm_a0 _) sm_k117 rfl ?_
        refine sv_iload_n hM dX12_waysOfBinary_65 rfl rfl ?_
        have k193 : sv_RL (g15 69 r13) := sm_okJ ok176 sm_r69 r13
        have h := h k193
        refine sv_lald hM dX12_waysOfBinary_66 (sm_a69 _) (by decide) o65.1 o65.2 rfl (x := (g15 69 r13)) rfl ?_
        refine sv_aload_n hM dX12_waysOfBinary_67 rfl rfl ?_
        refine sv_getA hM dX12_waysOfBinary_68 sm_fl_223 (sm_a0 _) sm_k118 rfl ?_
        refine sv_iload_n hM dX12_waysOfBinary_71 rfl rfl ?_
        have k194 : sv_RL (g15 70 r13) := sm_okJ ok176 sm_r70 r13
        have h := h k194
        refine sv_lald hM dX12_waysOfBinary_72 (sm_a70 _) (by decide) o65.1 o65.2 rfl (x := (g15 70 r13)) rfl ?_
        refine sv_iload hM dX12_waysOfBinary_73 rfl rfl ?_
        refine sv_iconst (d := (1 : Int)) hM dX12_waysOfBinary_75 rfl rfl ?_
        refine sv_iadd hM dX12_waysOfBinary_76 rfl ?_
        obtain ⟨o195, h⟩ := h
        obtain ⟨o196, h⟩ := h
        refine sv_callV hM dX12_waysOfBinary_77 sm_iv_1306 (by decide) (sm_a0 _) rfl rfl (Nat.le_of_ble_eq_true rfl) sm_h249 (Nat.le_of_ble_eq_true rfl) (Nat.le_of_ble_eq_true rfl) (F' := 3) (Nat.le_of_ble_eq_true rfl) rfl (t_readFrom (g15 69 r13) (g15 70 r13) ((647740 : Int) + (1 : Int)) (sv_sts (sv_sts S [68, 69, 70] g15) [1143, 1144, 5, 1011] g60) ok176 k193 k194 o195 o196) (fun v S1 hq => ?_)
        obtain ⟨rfl, ok198, md199, hpo200⟩ := hq
        obtain ⟨g197, rfl⟩ : ∃ g, S1 = sv_sts (sv_sts (sv_sts S [68, 69, 70] g15) [1143, 1144, 5, 1011] g60) [68, 69, 70, 1145] g := ⟨_, md199.eq⟩
        show sv_T sm_XS sm_cs sm_L sm_sh 9 (q_waysOfBinary p1 S) 278 80 [(0, .ref 0), (1, sv_I p1), (2, sv_I r7), (3, sv_I r13), (4, sv_I (647740 : Int)), (5, sv_I (1 : Int))] [] (sv_sts (sv_sts (sv_sts S [68, 69, 70] g15) [1143, 1144, 5, 1011] g60) [68, 69, 70, 1145] g197)
        have md201 : sv_mod [68, 69, 70, 81, 82, 83, 84, 85, 86, 71, 74, 75, 1127, 78, 79, 80, 72, 76, 77, 1143, 1144, 5, 1011, 1150, 1149, 1145, 1113, 1111, 1112, 1100031] S (sv_sts (sv_sts (sv_sts S [68, 69, 70] g15) [1143, 1144, 5, 1011] g60) [68, 69, 70, 1145] g197) := sv_mod.sts md64 (by decide)
        have h := h g197 hpo200
        refine sv_aload_n hM dX12_waysOfBinary_80 rfl rfl ?_
        refine sv_iload hM dX12_waysOfBinary_81 rfl rfl ?_
        refine sv_iconst (d := (1 : Int)) hM dX12_waysOfBinary_83 rfl rfl ?_
        refine sv_iadd hM dX12_waysOfBinary_84 rfl ?_
        obtain ⟨o202, h⟩ := h
        refine sv_callV hM dX12_waysOfBinary_85 sm_iv_1231 (by decide) (sm_a0 _) rfl rfl (Nat.le_of_ble_eq_true rfl) sm_h211 (Nat.le_of_ble_eq_true rfl) (Nat.le_of_ble_eq_true rfl) (F' := 2) (Nat.le_of_ble_eq_true rfl) rfl (t_isEmpty ((647740 : Int) + (1 : Int)) (sv_sts (sv_sts (sv_sts S [68, 69, 70] g15) [1143, 1144, 5, 1011] g60) [68, 69, 70, 1145] g197) ok198 o195 o202) (fun v S1 hq => ?_)
        obtain ⟨r207, rfl, hr207, ok204, md205, hpo206⟩ := hq
        obtain rfl : (sv_sts (sv_sts (sv_sts S [68, 69, 70] g15) [1143, 1144, 5, 1011] g60) [68, 69, 70, 1145] g197) = S1 := (funext fun j => md205 j (by intro q; cases q)).symm
        show sv_T sm_XS sm_cs sm_L sm_sh 9 (q_waysOfBinary p1 S) 278 88 [(0, .ref 0), (1, sv_I p1), (2, sv_I r7), (3, sv_I r13), (4, sv_I (647740 : Int)), (5, sv_I (1 : Int))] [sv_I r207] (sv_sts (sv_sts (sv_sts S [68, 69, 70] g15) [1143, 1144, 5, 1011] g60) [68, 69, 70, 1145] g197)
        have h := h r207 hr207 hpo206
        refine sv_cond_ne hM dX12_waysOfBinary_88 hr207 (t := 98) rfl rfl (fun hc => ?_) (fun hc => ?_)
        · have h := h.1 (hc)
          refine sv_aload_n hM dX12_waysOfBinary_98 rfl rfl ?_
          have k208 : (0 ≤ (g197 1145 0) ∧ (g197 1145 0) ≤ 1) := sm_okZ ok204 sm_r1145 0
          have h := h k208
          refine sv_getI hM dX12_waysOfBinary_99 sm_fl_1156 (sm_a0 _) sm_k145 rfl (x := (g197 1145 0)) rfl ?_
          refine sv_cond_eq hM dX12_waysOfBinary_102 (sv_R01 k208) (t := 144) rfl rfl (fun hc => ?_) (fun hc => ?_)
          · have h := h.1 (hc)
            refine sv_aload_n hM dX12_waysOfBinary_144 rfl rfl ?_
            refine sv_iconst (d := (2 : Int)) hM dX12_waysOfBinary_145 rfl rfl ?_
            refine sv_iload hM dX12_waysOfBinary_146 rfl rfl ?_
            obtain ⟨o209, h⟩ := h
            refine sv_callV hM dX12_waysOfBinary_148 sm_iv_1258 (by decide) (sm_a0 _) rfl rfl (Nat.le_of_ble_eq_true rfl) sm_h267 (Nat.le_of_ble_eq_true rfl) (Nat.le_of_ble_eq_true rfl) (F' := 5) (Nat.le_of_ble_eq_true rfl) rfl (t_replace (2 : Int) (647740 : Int) (sv_sts (sv_sts (sv_sts S [68, 69, 70] g15) [1143, 1144, 5, 1011] g60) [68, 69, 70, 1145] g197) ok204 (⟨by decide, by decide⟩ : sv_R (2 : Int)) (⟨by decide, by decide⟩ : sv_R (647740 : Int)) o209) (fun v S1 hq => ?_)
            obtain ⟨rfl, ok211, md212, hpo213⟩ := hq
            obtain ⟨g210, rfl⟩ : ∃ g, S1 = sv_sts (sv_sts (sv_sts (sv_sts S [68, 69, 70] g15) [1143, 1144, 5, 1011] g60) [68, 69, 70, 1145] g197) [68, 69, 70, 81, 82, 83, 84, 85, 86, 71, 74, 75, 1127, 78, 79, 80, 72, 76, 77, 1150] g := ⟨_, md212.eq⟩
            show sv_T sm_XS sm_cs sm_L sm_sh 9 (q_waysOfBinary p1 S) 278 151 [(0, .ref 0), (1, sv_I p1), (2, sv_I r7), (3, sv_I r13), (4, sv_I (647740 : Int)), (5, sv_I (1 : Int))] [] (sv_sts (sv_sts (sv_sts (sv_sts S [68, 69, 70] g15) [1143, 1144, 5, 1011] g60) [68, 69, 70, 1145] g197) [68, 69, 70, 81, 82, 83, 84, 85, 86, 71, 74, 75, 1127, 78, 79, 80, 72, 76, 77, 1150] g210)
            have md214 : sv_mod [68, 69, 70, 81, 82, 83, 84, 85, 86, 71, 74, 75, 1127, 78, 79, 80, 72, 76, 77, 1143, 1144, 5, 1011, 1150, 1149, 1145, 1113, 1111, 1112, 1100031] S (sv_sts (sv_sts (sv_sts (sv_sts S [68, 69, 70] g15) [1143, 1144, 5, 1011] g60) [68, 69, 70, 1145] g197) [68, 69, 70, 81, 82, 83, 84, 85, 86, 71, 74, 75, 1127, 78, 79, 80, 72, 76, 77, 1150] g210) := sv_mod.sts md201 (by decide)
            have h := h g210 hpo213
            refine sv_iload hM dX12_waysOfBinary_151 rfl rfl ?_
            refine sv_cond_eq hM dX12_waysOfBinary_153 (⟨by decide, by decide⟩ : sv_R (1 : Int)) (t := 166) rfl rfl (fun hc => ?_) (fun hc => ?_)
            · have h := h.1 (hc)
              exact sv_vret hM dX12_waysOfBinary_166 rfl ⟨rfl, ok211, md214, h⟩
            · have h := h.2 (hc)
              refine sv_aload_n hM dX12_waysOfBinary_156 rfl rfl ?_
              refine sv_aload_n hM dX12_waysOfBinary_157 rfl rfl ?_
              have k215 : sv_R (S 1148 0) := sm_okI ok211 sm_r1148 0
              have h := h k215
              refine sv_getI hM dX12_waysOfBinary_158 sm_fl_1188 (sm_a0 _) sm_k148 rfl (x := (S 1148 0)) rfl ?_
              refine sv_bipush (d := (6 : Int)) hM dX12_waysOfBinary_161 rfl rfl ?_
              obtain ⟨o216, h⟩ := h
              refine sv_callV hM dX12_waysOfBinary_163 sm_iv_1292 (by decide) (sm_a0 _) rfl rfl (Nat.le_of_ble_eq_true rfl) sm_h263 (Nat.le_of_ble_eq_true rfl) (Nat.le_of_ble_eq_true rfl) (F' := 8) (Nat.le_of_ble_eq_true rfl) rfl (t_error_ (S 1148 0) (6 : Int) (sv_sts (sv_sts (sv_sts (sv_sts S [68, 69, 70] g15) [1143, 1144, 5, 1011] g60) [68, 69, 70, 1145] g197) [68, 69, 70, 81, 82, 83, 84, 85, 86, 71, 74, 75, 1127, 78, 79, 80, 72, 76, 77, 1150] g210) ok211 k215 (⟨by decide, by decide⟩ : sv_R (6 : Int)) o216) (fun v S1 hq => ?_)
              obtain ⟨rfl, ok218, md219, hpo220⟩ := hq
              obtain ⟨g217, rfl⟩ : ∃ g, S1 = sv_sts (sv_sts (sv_sts (sv_sts (sv_sts S [68, 69, 70] g15) [1143, 1144, 5, 1011] g60) [68, 69, 70, 1145] g197) [68, 69, 70, 81, 82, 83, 84, 85, 86, 71, 74, 75, 1127, 78, 79, 80, 72, 76, 77, 1150] g210) [68, 69, 70, 81, 82, 83, 84, 85, 86, 71, 74, 75, 1127, 78, 79, 80, 72, 76, 77, 1143, 1144, 5, 1011, 1150, 1149, 1145, 1113, 1111, 1112, 1100031] g := ⟨_, md219.eq⟩
              show sv_T sm_XS sm_cs sm_L sm_sh 9 (q_waysOfBinary p1 S) 278 166 [(0, .ref 0), (1, sv_I p1), (2, sv_I r7), (3, sv_I r13), (4, sv_I (647740 : Int)), (5, sv_I (1 : Int))] [] (sv_sts (sv_sts (sv_sts (sv_sts (sv_sts S [68, 69, 70] g15) [1143, 1144, 5, 1011] g60) [68, 69, 70, 1145] g197) [68, 69, 70, 81, 82, 83, 84, 85, 86, 71, 74, 75, 1127, 78, 79, 80, 72, 76, 77, 1150] g210) [68, 69, 70, 81, 82, 83, 84, 85, 86, 71, 74, 75, 1127, 78, 79, 80, 72, 76, 77, 1143, 1144, 5, 1011, 1150, 1149, 1145, 1113, 1111, 1112, 1100031] g217)
              have md221 : sv_mod [68, 69, 70, 81, 82, 83, 84, 85, 86, 71, 74, 75, 1127, 78, 79, 80, 72, 76, 77, 1143, 1144, 5, 1011, 1150, 1149, 1145, 1113, 1111, 1112, 1100031] S (sv_sts (sv_sts (sv_sts (sv_sts (sv_sts S [68, 69, 70] g15) [1143, 1144, 5, 1011] g60) [68, 69, 70, 1145] g197) [68, 69, 70, 81, 82, 83, 84, 85, 86, 71, 74, 75, 1127, 78, 79, 80, 72, 76, 77, 1150] g210) [68, 69, 70, 81, 82, 83, 84, 85, 86, 71, 74, 75, 1127, 78, 79, 80, 72, 76, 77, 1143, 1144, 5, 1011, 1150, 1149, 1145, 1113, 1111, 1112, 1100031] g217) := sv_mod.sts md214 (by decide)
              have h := h g217 hpo220
              exact sv_vret hM dX12_waysOfBinary_166 rfl ⟨rfl, ok218, md221, h⟩
          · have h := h.2 (hc)
            refine sv_aload_n hM dX12_waysOfBinary_105 rfl rfl ?_
            refine sv_iload hM dX12_waysOfBinary_106 rfl rfl ?_
            refine sv_bipush (d := (8 : Int)) hM dX12_waysOfBinary_108 rfl rfl ?_
            obtain ⟨o222, h⟩ := h
            refine sv_callV hM dX12_waysOfBinary_110 sm_iv_1072 (by decide) (sm_a0 _) rfl rfl (Nat.le_of_ble_eq_true rfl) sm_h213 (Nat.le_of_ble_eq_true rfl) (Nat.le_of_ble_eq_true rfl) (F' := 2) (Nat.le_of_ble_eq_true rfl) rfl (t_addSort (647740 : Int) (8 : Int) (sv_sts (sv_sts (sv_sts S [68, 69, 70] g15) [1143, 1144, 5, 1011] g60) [68, 69, 70, 1145] g197) ok204 (⟨by decide, by decide⟩ : sv_R (647740 : Int)) (⟨by decide, by decide⟩ : sv_R (8 : Int)) o222) (fun v S1 hq => ?_)
            obtain ⟨rfl, ok224, md225, hpo226⟩ := hq
            obtain ⟨g223, rfl⟩ : ∃ g, S1 = sv_sts (sv_sts (sv_sts (sv_sts S [68, 69, 70] g15) [1143, 1144, 5, 1011] g60) [68, 69, 70, 1145] g197) [68, 69, 70] g := ⟨_, md225.eq⟩
            show sv_T sm_XS sm_cs sm_L sm_sh 9 (q_waysOfBinary p1 S) 278 113 [(0, .ref 0), (1, sv_I p1), (2, sv_I r7), (3, sv_I r13), (4, sv_I (647740 : Int)), (5, sv_I (1 : Int))] [] (sv_sts (sv_sts (sv_sts (sv_sts S [68, 69, 70] g15) [1143, 1144, 5, 1011] g60) [68, 69, 70, 1145] g197) [68, 69, 70] g223)
            have md227 : sv_mod [68, 69, 70, 81, 82, 83, 84, 85, 86, 71, 74, 75, 1127, 78, 79, 80, 72, 76, 77, 1143, 1144, 5, 1011, 1150, 1149, 1145, 1113, 1111, 1112, 1100031] S (sv_sts (sv_sts (sv_sts (sv_sts S [68, 69, 70] g15) [1143, 1144, 5, 1011] g60) [68, 69, 70, 1145] g197) [68, 69, 70] g223) := sv_mod.sts md201 (by decide)
            have h := h g223 hpo226
            refine sv_goto hM dX12_waysOfBinary_113 (pc' := 144) rfl ?_
            refine sv_aload_n hM dX12_waysOfBinary_144 rfl rfl ?_
            refine sv_iconst (d := (2 : Int)) hM dX12_waysOfBinary_145 rfl rfl ?_
            refine sv_iload hM dX12_waysOfBinary_146 rfl rfl ?_
            obtain ⟨o228, h⟩ := h
            refine sv_callV hM dX12_waysOfBinary_148 sm_iv_1258 (by decide) (sm_a0 _) rfl rfl (Nat.le_of_ble_eq_true rfl) sm_h267 (Nat.le_of_ble_eq_true rfl) (Nat.le_of_ble_eq_true rfl) (F' := 5) (Nat.le_of_ble_eq_true rfl) rfl (t_replace (2 : Int) (647740 : Int) (sv_sts (sv_sts (sv_sts (sv_sts S [68, 69, 70] g15) [1143, 1144, 5, 1011] g60) [68, 69, 70, 1145] g197) [68, 69, 70] g223) ok224 (⟨by decide, by decide⟩ : sv_R (2 : Int)) (⟨by decide, by decide⟩ : sv_R (647740 : Int)) o228) (fun v S1 hq => ?_)
            obtain ⟨rfl, ok230, md231, hpo232⟩ := hq
            obtain ⟨g229, rfl⟩ : ∃ g, S1 = sv_sts (sv_sts (sv_sts (sv_sts (sv_sts S [68, 69, 70] g15) [1143, 1144, 5, 1011] g60) [68, 69, 70, 1145] g197) [68, 69, 70] g223) [68, 69, 70, 81, 82, 83, 84, 85, 86, 71, 74, 75, 1127, 78, 79, 80, 72, 76, 77, 1150] g := ⟨_, md231.eq⟩
            show sv_T sm_XS sm_cs sm_L sm_sh 9 (q_waysOfBinary p1 S) 278 151 [(0, .ref 0), (1, sv_I p1), (2, sv_I r7), (3, sv_I r13), (4, sv_I (647740 : Int)), (5, sv_I (1 : Int))] [] (sv_sts (sv_sts (sv_sts (sv_sts (sv_sts S [68, 69, 70] g15) [1143, 1144, 5, 1011] g60) [68, 69, 70, 1145] g197) [68, 69, 70] g223) [68, 69, 70, 81, 82, 83, 84, 85, 86, 71, 74, 75, 1127, 78, 79, 80, 72, 76, 77, 1150] g229)
            have md233 : sv_mod [68, 69, 70, 81, 82, 83, 84, 85, 86, 71, 74, 75, 1127, 78, 79, 80, 72, 76, 77, 1143, 1144, 5, 1011, 1150, 1149, 1145, 1113, 1111, 1112, 1100031] S (sv_sts (sv_sts (sv_sts (sv_sts (sv_sts S [68, 69, 70] g15) [1143, 1144, 5, 1011] g60) [68, 69, 70, 1145] g197) [68, 69, 70] g223) [68, 69, 70, 81, 82, 83, 84, 85, 86, 71, 74, 75, 1127, 78, 79, 80, 72, 76, 77, 1150] g229) := sv_mod.sts md227 (by decide)
            have h := h g229 hpo232
            refine sv_iload hM dX12_waysOfBinary_151 rfl rfl ?_
            refine sv_cond_eq hM dX12_waysOfBinary_153 (⟨by decide, by decide⟩ : sv_R (1 : Int)) (t := 166) rfl rfl (fun hc => ?_) (fun hc => ?_)
            · have h := h.1 (hc)
              exact sv_vret hM dX12_waysOfBinary_166 rfl ⟨rfl, ok230, md233, h⟩
            · have h := h.2 (hc)
              refine sv_aload_n hM dX12_waysOfBinary_156 rfl rfl ?_
              refine sv_aload_n hM dX12_waysOfBinary_157 rfl rfl ?_
              have k234 : sv_R (S 1148 0) := sm_okI ok230 sm_r1148 0
              have h := h k234
              refine sv_getI hM dX12_waysOfBinary_158 sm_fl_1188 (sm_a0 _) sm_k148 rfl (x := (S 1148 0)) rfl ?_
              refine sv_bipush (d := (6 : Int)) hM dX12_waysOfBinary_161 rfl rfl ?_
              obtain ⟨o235, h⟩ := h
              refine sv_callV hM dX12_waysOfBinary_163 sm_iv_1292 (by decide) (sm_a0 _) rfl rfl (Nat.le_of_ble_eq_true rfl) sm_h263 (Nat.le_of_ble_eq_true rfl) (Nat.le_of_ble_eq_true rfl) (F' := 8) (Nat.le_of_ble_eq_true rfl) rfl (t_error_ (S 1148 0) (6 : Int) (sv_sts (sv_sts (sv_sts (sv_sts (sv_sts S [68, 69, 70] g15) [1143, 1144, 5, 1011] g60) [68, 69, 70, 1145] g197) [68, 69, 70] g223) [68, 69, 70, 81, 82, 83, 84, 85, 86, 71, 74, 75, 1127, 78, 79, 80, 72, 76, 77, 1150] g229) ok230 k234 (⟨by decide, by decide⟩ : sv_R (6 : Int)) o235) (fun v S1 hq => ?_)
              obtain ⟨rfl, ok237, md238, hpo239⟩ := hq
              obtain ⟨g236, rfl⟩ : ∃ g, S1 = sv_sts (sv_sts (sv_sts (sv_sts (sv_sts (sv_sts S [68, 69, 70] g15) [1143, 1144, 5, 1011] g60) [68, 69, 70, 1145] g197) [68, 69, 70] g223) [68, 69, 70, 81, 82, 83, 84, 85, 86, 71, 74, 75, 1127, 78, 79, 80, 72, 76, 77, 1150] g229) [68, 69, 70, 81, 82, 83, 84, 85, 86, 71, 74, 75, 1127, 78, 79, 80, 72, 76, 77, 1143, 1144, 5, 1011, 1150, 1149, 1145, 1113, 1111, 1112, 1100031] g := ⟨_, md238.eq⟩
              show sv_T sm_XS sm_cs sm_L sm_sh 9 (q_waysOfBinary p1 S) 278 166 [(0, .ref 0), (1, sv_I p1), (2, sv_I r7), (3, sv_I r13), (4, sv_I (647740 : Int)), (5, sv_I (1 : Int))] [] (sv_sts (sv_sts (sv_sts (sv_sts (sv_sts (sv_sts S [68, 69, 70] g15) [1143, 1144, 5, 1011] g60) [68, 69, 70, 1145] g197) [68, 69, 70] g223) [68, 69, 70, 81, 82, 83, 84, 85, 86, 71, 74, 75, 1127, 78, 79, 80, 72, 76, 77, 1150] g229) [68, 69, 70, 81, 82, 83, 84, 85, 86, 71, 74, 75, 1127, 78, 79, 80, 72, 76, 77, 1143, 1144, 5, 1011, 1150, 1149, 1145, 1113, 1111, 1112, 1100031] g236)
              have md240 : sv_mod [68, 69, 70, 81, 82, 83, 84, 85, 86, 71, 74, 75, 1127, 78, 79, 80, 72, 76, 77, 1143, 1144, 5, 1011, 1150, 1149, 1145, 1113, 1111, 1112, 1100031] S (sv_sts (sv_sts (sv_sts (sv_sts (sv_sts (sv_sts S [68, 69, 70] g15) [1143, 1144, 5, 1011] g60) [68, 69, 70, 1145] g197) [68, 69, 70] g223) [68, 69, 70, 81, 82, 83, 84, 85, 86, 71, 74, 75, 1127, 78, 79, 80, 72, 76, 77, 1150] g229) [68, 69, 70, 81, 82, 83, 84, 85, 86, 71, 74, 75, 1127, 78, 79, 80, 72, 76, 77, 1143, 1144, 5, 1011, 1150, 1149, 1145, 1113, 1111, 1112, 1100031] g236) := sv_mod.sts md233 (by decide)
              have h := h g236 hpo239
              exact sv_vret hM dX12_waysOfBinary_166 rfl ⟨rfl, ok237, md240, h⟩
        · have h := h.2 (hc)
          refine sv_aload_n hM dX12_waysOfBinary_91 rfl rfl ?_
          refine sv_iload hM dX12_waysOfBinary_92 rfl rfl ?_
          refine sv_iconst (d := (4 : Int)) hM dX12_waysOfBinary_94 rfl rfl ?_
          obtain ⟨o241, h⟩ := h
          refine sv_callV hM dX12_waysOfBinary_95 sm_iv_1072 (by decide) (sm_a0 _) rfl rfl (Nat.le_of_ble_eq_true rfl) sm_h213 (Nat.le_of_ble_eq_true rfl) (Nat.le_of_ble_eq_true rfl) (F' := 2) (Nat.le_of_ble_eq_true rfl) rfl (t_addSort (647740 : Int) (4 : Int) (sv_sts (sv_sts (sv_sts S [68, 69, 70] g15) [1143, 1144, 5, 1011] g60) [68, 69, 70, 1145] g197) ok204 (⟨by decide, by decide⟩ : sv_R (647740 : Int)) (⟨by decide, by decide⟩ : sv_R (4 : Int)) o241) (fun v S1 hq => ?_)
          obtain ⟨rfl, ok243, md244, hpo245⟩ := hq
          obtain ⟨g242, rfl⟩ : ∃ g, S1 = sv_sts (sv_sts (sv_sts (sv_sts S [68, 69, 70] g15) [1143, 1144, 5, 1011] g60) [68, 69, 70, 1145] g197) [68, 69, 70] g := ⟨_, md244.eq⟩
          show sv_T sm_XS sm_cs sm_L sm_sh 9 (q_waysOfBinary p1 S) 278 98 [(0, .ref 0), (1, sv_I p1), (2, sv_I r7), (3, sv_I r13), (4, sv_I (647740 : Int)), (5, sv_I (1 : Int))] [] (sv_sts (sv_sts (sv_sts (sv_sts S [68, 69, 70] g15) [1143, 1144, 5, 1011] g60) [68, 69, 70, 1145] g197) [68, 69, 70] g242)
          have md246 : sv_mod [68, 69, 70, 81, 82, 83, 84, 85, 86, 71, 74, 75, 1127, 78, 79, 80, 72, 76, 77, 1143, 1144, 5, 1011, 1150, 1149, 1145, 1113, 1111, 1112, 1100031] S (sv_sts (sv_sts (sv_sts (sv_sts S [68, 69, 70] g15) [1143, 1144, 5, 1011] g60) [68, 69, 70, 1145] g197) [68, 69, 70] g242) := sv_mod.sts md201 (by decide)
          have h := h g242 hpo245
          refine sv_aload_n hM dX12_waysOfBinary_98 rfl rfl ?_
          have k247 : (0 ≤ (g197 1145 0) ∧ (g197 1145 0) ≤ 1) := sm_okZ ok243 sm_r1145 0
          have h := h k247
          refine sv_getI hM dX12_waysOfBinary_99 sm_fl_1156 (sm_a0 _) sm_k145 rfl (x := (g197 1145 0)) rfl ?_
          refine sv_cond_eq hM dX12_waysOfBinary_102 (sv_R01 k247) (t := 144) rfl rfl (fun hc => ?_) (fun hc => ?_)
          · have h := h.1 (hc)
            refine sv_aload_n hM dX12_waysOfBinary_144 rfl rfl ?_
            refine sv_iconst (d := (2 : Int)) hM dX12_waysOfBinary_145 rfl rfl ?_
            refine sv_iload hM dX12_waysOfBinary_146 rfl rfl ?_
            obtain ⟨o248, h⟩ := h
            refine sv_callV hM dX12_waysOfBinary_148 sm_iv_1258 (by decide) (sm_a0 _) rfl rfl (Nat.le_of_ble_eq_true rfl) sm_h267 (Nat.le_of_ble_eq_true rfl) (Nat.le_of_ble_eq_true rfl) (F' := 5) (Nat.le_of_ble_eq_true rfl) rfl (t_replace (2 : Int) (647740 : Int) (sv_sts (sv_sts (sv_sts (sv_sts S [68, 69, 70] g15) [1143, 1144, 5, 1011] g60) [68, 69, 70, 1145] g197) [68, 69, 70] g242) ok243 (⟨by decide, by decide⟩ : sv_R (2 : Int)) (⟨by decide, by decide⟩ : sv_R (647740 : Int)) o248) (fun v S1 hq => ?_)
            obtain ⟨rfl, ok250, md251, hpo252⟩ := hq
            obtain ⟨g249, rfl⟩ : ∃ g, S1 = sv_sts (sv_sts (sv_sts (sv_sts (sv_sts S [68, 69, 70] g15) [1143, 1144, 5, 1011] g60) [68, 69, 70, 1145] g197) [68, 69, 70] g242) [68, 69, 70, 81, 82, 83, 84, 85, 86, 71, 74, 75, 1127, 78, 79, 80, 72, 76, 77, 1150] g := ⟨_, md251.eq⟩
            show sv_T sm_XS sm_cs sm_L sm_sh 9 (q_waysOfBinary p1 S) 278 151 [(0, .ref 0), (1, sv_I p1), (2, sv_I r7), (3, sv_I r13), (4, sv_I (647740 : Int)), (5, sv_I (1 : Int))] [] (sv_sts (sv_sts (sv_sts (sv_sts (sv_sts S [68, 69, 70] g15) [1143, 1144, 5, 1011] g60) [68, 69, 70, 1145] g197) [68, 69, 70] g242) [68, 69, 70, 81, 82, 83, 84, 85, 86, 71, 74, 75, 1127, 78, 79, 80, 72, 76, 77, 1150] g249)
            have md253 : sv_mod [68, 69, 70, 81, 82, 83, 84, 85, 86, 71, 74, 75, 1127, 78, 79, 80, 72, 76, 77, 1143, 1144, 5, 1011, 1150, 1149, 1145, 1113, 1111, 1112, 1100031] S (sv_sts (sv_sts (sv_sts (sv_sts (sv_sts S [68, 69, 70] g15) [1143, 1144, 5, 1011] g60) [68, 69, 70, 1145] g197) [68, 69, 70] g242) [68, 69, 70, 81, 82, 83, 84, 85, 86, 71, 74, 75, 1127, 78, 79, 80, 72, 76, 77, 1150] g249) := sv_mod.sts md246 (by decide)
            have h := h g249 hpo252
            refine sv_iload hM dX12_waysOfBinary_151 rfl rfl ?_
            refine sv_cond_eq hM dX12_waysOfBinary_153 (⟨by decide, by decide⟩ : sv_R (1 : Int)) (t := 166) rfl rfl (fun hc => ?_) (fun hc => ?_)
            · have h := h.1 (hc)
              exact sv_vret hM dX12_waysOfBinary_166 rfl ⟨rfl, ok250, md253, h⟩
            · have h := h.2 (hc)
              refine sv_aload_n hM dX12_waysOfBinary_156 rfl rfl ?_
              refine sv_aload_n hM dX12_waysOfBinary_157 rfl rfl ?_
              have k254 : sv_R (S 1148 0) := sm_okI ok250 sm_r1148 0
              have h := h k254
              refine sv_getI hM dX12_waysOfBinary_158 sm_fl_1188 (sm_a0 _) sm_k148 rfl (x := (S 1148 0)) rfl ?_
              refine sv_bipush (d := (6 : Int)) hM dX12_waysOfBinary_161 rfl rfl ?_
              obtain ⟨o255, h⟩ := h
              refine sv_callV hM dX12_waysOfBinary_163 sm_iv_1292 (by decide) (sm_a0 _) rfl rfl (Nat.le_of_ble_eq_true rfl) sm_h263 (Nat.le_of_ble_eq_true rfl) (Nat.le_of_ble_eq_true rfl) (F' := 8) (Nat.le_of_ble_eq_true rfl) rfl (t_error_ (S 1148 0) (6 : Int) (sv_sts (sv_sts (sv_sts (sv_sts (sv_sts S [68, 69, 70] g15) [1143, 1144, 5, 1011] g60) [68, 69, 70, 1145] g197) [68, 69, 70] g242) [68, 69, 70, 81, 82, 83, 84, 85, 86, 71, 74, 75, 1127, 78, 79, 80, 72, 76, 77, 1150] g249) ok250 k254 (⟨by decide, by decide⟩ : sv_R (6 : Int)) o255) (fun v S1 hq => ?_)
              obtain ⟨rfl, ok257, md258, hpo259⟩ := hq
              obtain ⟨g256, rfl⟩ : ∃ g, S1 = sv_sts (sv_sts (sv_sts (sv_sts (sv_sts (sv_sts S [68, 69, 70] g15) [1143, 1144, 5, 1011] g60) [68, 69, 70, 1145] g197) [68, 69, 70] g242) [68, 69, 70, 81, 82, 83, 84, 85, 86, 71, 74, 75, 1127, 78, 79, 80, 72, 76, 77, 1150] g249) [68, 69, 70, 81, 82, 83, 84, 85, 86, 71, 74, 75, 1127, 78, 79, 80, 72, 76, 77, 1143, 1144, 5, 1011, 1150, 1149, 1145, 1113, 1111, 1112, 1100031] g := ⟨_, md258.eq⟩
              show sv_T sm_XS sm_cs sm_L sm_sh 9 (q_waysOfBinary p1 S) 278 166 [(0, .ref 0), (1, sv_I p1), (2, sv_I r7), (3, sv_I r13), (4, sv_I (647740 : Int)), (5, sv_I (1 : Int))] [] (sv_sts (sv_sts (sv_sts (sv_sts (sv_sts (sv_sts S [68, 69, 70] g15) [1143, 1144, 5, 1011] g60) [68, 69, 70, 1145] g197) [68, 69, 70] g242) [68, 69, 70, 81, 82, 83, 84, 85, 86, 71, 74, 75, 1127, 78, 79, 80, 72, 76, 77, 1150] g249) [68, 69, 70, 81, 82, 83, 84, 85, 86, 71, 74, 75, 1127, 78, 79, 80, 72, 76, 77, 1143, 1144, 5, 1011, 1150, 1149, 1145, 1113, 1111, 1112, 1100031] g256)
              have md260 : sv_mod [68, 69, 70, 81, 82, 83, 84, 85, 86, 71, 74, 75, 1127, 78, 79, 80, 72, 76, 77, 1143, 1144, 5, 1011, 1150, 1149, 1145, 1113, 1111, 1112, 1100031] S (sv_sts (sv_sts (sv_sts (sv_sts (sv_sts (sv_sts S [68, 69, 70] g15) [1143, 1144, 5, 1011] g60) [68, 69, 70, 1145] g197) [68, 69, 70] g242) [68, 69, 70, 81, 82, 83, 84, 85, 86, 71, 74, 75, 1127, 78, 79, 80, 72, 76, 77, 1150] g249) [68, 69, 70, 81, 82, 83, 84, 85, 86, 71, 74, 75, 1127, 78, 79, 80, 72, 76, 77, 1143, 1144, 5, 1011, 1150, 1149, 1145, 1113, 1111, 1112, 1100031] g256) := sv_mod.sts md253 (by decide)
              have h := h g256 hpo259
              exact sv_vret hM dX12_waysOfBinary_166 rfl ⟨rfl, ok257, md260, h⟩
          · have h := h.2 (hc)
            refine sv_aload_n hM dX12_waysOfBinary_105 rfl rfl ?_
            refine sv_iload hM dX12_waysOfBinary_106 rfl rfl ?_
            refine sv_bipush (d := (8 : Int)) hM dX12_waysOfBinary_108 rfl rfl ?_
            refine sv_callV hM dX12_waysOfBinary_110 sm_iv_1072 (by decide) (sm_a0 _) rfl rfl (Nat.le_of_ble_eq_true rfl) sm_h213 (Nat.le_of_ble_eq_true rfl) (Nat.le_of_ble_eq_true rfl) (F' := 2) (Nat.le_of_ble_eq_true rfl) rfl (t_addSort (647740 : Int) (8 : Int) (sv_sts (sv_sts (sv_sts (sv_sts S [68, 69, 70] g15) [1143, 1144, 5, 1011] g60) [68, 69, 70, 1145] g197) [68, 69, 70] g242) ok243 (⟨by decide, by decide⟩ : sv_R (647740 : Int)) (⟨by decide, by decide⟩ : sv_R (8 : Int)) o241) (fun v S1 hq => ?_)
            obtain ⟨rfl, ok262, md263, hpo264⟩ := hq
            obtain ⟨g261, rfl⟩ : ∃ g, S1 = sv_sts (sv_sts (sv_sts (sv_sts (sv_sts S [68, 69, 70] g15) [1143, 1144, 5, 1011] g60) [68, 69, 70, 1145] g197) [68, 69, 70] g242) [68, 69, 70] g := ⟨_, md263.eq⟩
            show sv_T sm_XS sm_cs sm_L sm_sh 9 (q_waysOfBinary p1 S) 278 113 [(0, .ref 0), (1, sv_I p1), (2, sv_I r7), (3, sv_I r13), (4, sv_I (647740 : Int)), (5, sv_I (1 : Int))] [] (sv_sts (sv_sts (sv_sts (sv_sts (sv_sts S [68, 69, 70] g15) [1143, 1144, 5, 1011] g60) [68, 69, 70, 1145] g197) [68, 69, 70] g242) [68, 69, 70] g261)
            have md265 : sv_mod [68, 69, 70, 81, 82, 83, 84, 85, 86, 71, 74, 75, 1127, 78, 79, 80, 72, 76, 77, 1143, 1144, 5, 1011, 1150, 1149, 1145, 1113, 1111, 1112, 1100031] S (sv_sts (sv_sts (sv_sts (sv_sts (sv_sts S [68, 69, 70] g15) [1143, 1144, 5, 1011] g60) [68, 69, 70, 1145] g197) [68, 69, 70] g242) [68, 69, 70] g261) := sv_mod.sts md246 (by decide)
            have h := h g261 hpo264
            refine sv_goto hM dX12_waysOfBinary_113 (pc' := 144) rfl ?_
            refine sv_aload_n hM dX12_waysOfBinary_144 rfl rfl ?_
            refine sv_iconst (d := (2 : Int)) hM dX12_waysOfBinary_145 rfl rfl ?_
            refine sv_iload hM dX12_waysOfBinary_146 rfl rfl ?_
            obtain ⟨o266, h⟩ := h
            refine sv_callV hM dX12_waysOfBinary_148 sm_iv_1258 (by decide) (sm_a0 _) rfl rfl (Nat.le_of_ble_eq_true rfl) sm_h267 (Nat.le_of_ble_eq_true rfl) (Nat.le_of_ble_eq_true rfl) (F' := 5) (Nat.le_of_ble_eq_true rfl) rfl (t_replace (2 : Int) (647740 : Int) (sv_sts (sv_sts (sv_sts (sv_sts (sv_sts S [68, 69, 70] g15) [1143, 1144, 5, 1011] g60) [68, 69, 70, 1145] g197) [68, 69, 70] g242) [68, 69, 70] g261) ok262 (⟨by decide, by decide⟩ : sv_R (2 : Int)) (⟨by decide, by decide⟩ : sv_R (647740 : Int)) o266) (fun v S1 hq => ?_)
            obtain ⟨rfl, ok268, md269, hpo270⟩ := hq
            obtain ⟨g267, rfl⟩ : ∃ g, S1 = sv_sts (sv_sts (sv_sts (sv_sts (sv_sts (sv_sts S [68, 69, 70] g15) [1143, 1144, 5, 1011] g60) [68, 69, 70, 1145] g197) [68, 69, 70] g242) [68, 69, 70] g261) [68, 69, 70, 81, 82, 83, 84, 85, 86, 71, 74, 75, 1127, 78, 79, 80, 72, 76, 77, 1150] g := ⟨_, md269.eq⟩
            show sv_T sm_XS sm_cs sm_L sm_sh 9 (q_waysOfBinary p1 S) 278 151 [(0, .ref 0), (1, sv_I p1), (2, sv_I r7), (3, sv_I r13), (4, sv_I (647740 : Int)), (5, sv_I (1 : Int))] [] (sv_sts (sv_sts (sv_sts (sv_sts (sv_sts (sv_sts S [68, 69, 70] g15) [1143, 1144, 5, 1011] g60) [68, 69, 70, 1145] g197) [68, 69, 70] g242) [68, 69, 70] g261) [68, 69, 70, 81, 82, 83, 84, 85, 86, 71, 74, 75, 1127, 78, 79, 80, 72, 76, 77, 1150] g267)
            have md271 : sv_mod [68, 69, 70, 81, 82, 83, 84, 85, 86, 71, 74, 75, 1127, 78, 79, 80, 72, 76, 77, 1143, 1144, 5, 1011, 1150, 1149, 1145, 1113, 1111, 1112, 1100031] S (sv_sts (sv_sts (sv_sts (sv_sts (sv_sts (sv_sts S [68, 69, 70] g15) [1143, 1144, 5, 1011] g60) [68, 69, 70, 1145] g197) [68, 69, 70] g242) [68, 69, 70] g261) [68, 69, 70, 81, 82, 83, 84, 85, 86, 71, 74, 75, 1127, 78, 79, 80, 72, 76, 77, 1150] g267) := sv_mod.sts md265 (by decide)
            have h := h g267 hpo270
            refine sv_iload hM dX12_waysOfBinary_151 rfl rfl ?_
            refine sv_cond_eq hM dX12_waysOfBinary_153 (⟨by decide, by decide⟩ : sv_R (1 : Int)) (t := 166) rfl rfl (fun hc => ?_) (fun hc => ?_)
            · have h := h.1 (hc)
              exact sv_vret hM dX12_waysOfBinary_166 rfl ⟨rfl, ok268, md271, h⟩
            · have h := h.2 (hc)
              refine sv_aload_n hM dX12_waysOfBinary_156 rfl rfl ?_
              refine sv_aload_n hM dX12_waysOfBinary_157 rfl rfl ?_
              have k272 : sv_R (S 1148 0) := sm_okI ok268 sm_r1148 0
              have h := h k272
              refine sv_getI hM dX12_waysOfBinary_158 sm_fl_1188 (sm_a0 _) sm_k148 rfl (x := (S 1148 0)) rfl ?_
              refine sv_bipush (d := (6 : Int)) hM dX12_waysOfBinary_161 rfl rfl ?_
              obtain ⟨o273, h⟩ := h
              refine sv_callV hM dX12_waysOfBinary_163 sm_iv_1292 (by decide) (sm_a0 _) rfl rfl (Nat.le_of_ble_eq_true rfl) sm_h263 (Nat.le_of_ble_eq_true rfl) (Nat.le_of_ble_eq_true rfl) (F' := 8) (Nat.le_of_ble_eq_true rfl) rfl (t_error_ (S 1148 0) (6 : Int) (sv_sts (sv_sts (sv_sts (sv_sts (sv_sts (sv_sts S [68, 69, 70] g15) [1143, 1144, 5, 1011] g60) [68, 69, 70, 1145] g197) [68, 69, 70] g242) [68, 69, 70] g261) [68, 69, 70, 81, 82, 83, 84, 85, 86, 71, 74, 75, 1127, 78, 79, 80, 72, 76, 77, 1150] g267) ok268 k272 (⟨by decide, by decide⟩ : sv_R (6 : Int)) o273) (fun v S1 hq => ?_)
              obtain ⟨rfl, ok275, md276, hpo277⟩ := hq
              obtain ⟨g274, rfl⟩ : ∃ g, S1 = sv_sts (sv_sts (sv_sts (sv_sts (sv_sts (sv_sts (sv_sts S [68, 69, 70] g15) [1143, 1144, 5, 1011] g60) [68, 69, 70, 1145] g197) [68, 69, 70] g242) [68, 69, 70] g261) [68, 69, 70, 81, 82, 83, 84, 85, 86, 71, 74, 75, 1127, 78, 79, 80, 72, 76, 77, 1150] g267) [68, 69, 70, 81, 82, 83, 84, 85, 86, 71, 74, 75, 1127, 78, 79, 80, 72, 76, 77, 1143, 1144, 5, 1011, 1150, 1149, 1145, 1113, 1111, 1112, 1100031] g := ⟨_, md276.eq⟩
              show sv_T sm_XS sm_cs sm_L sm_sh 9 (q_waysOfBinary p1 S) 278 166 [(0, .ref 0), (1, sv_I p1), (2, sv_I r7), (3, sv_I r13), (4, sv_I (647740 : Int)), (5, sv_I (1 : Int))] [] (sv_sts (sv_sts (sv_sts (sv_sts (sv_sts (sv_sts (sv_sts S [68, 69, 70] g15) [1143, 1144, 5, 1011] g60) [68, 69, 70, 1145] g197) [68, 69, 70] g242) [68, 69, 70] g261) [68, 69, 70, 81, 82, 83, 84, 85, 86, 71, 74, 75, 1127, 78, 79, 80, 72, 76, 77, 1150] g267) [68, 69, 70, 81, 82, 83, 84, 85, 86, 71, 74, 75, 1127, 78, 79, 80, 72, 76, 77, 1143, 1144, 5, 1011, 1150, 1149, 1145, 1113, 1111, 1112, 1100031] g274)
              have md278 : sv_mod [68, 69, 70, 81, 82, 83, 84, 85, 86, 71, 74, 75, 1127, 78, 79, 80, 72, 76, 77, 1143, 1144, 5, 1011, 1150, 1149, 1145, 1113, 1111, 1112, 1100031] S (sv_sts (sv_sts (sv_sts (sv_sts (sv_sts (sv_sts (sv_sts S [68, 69, 70] g15) [1143, 1144, 5, 1011] g60) [68, 69, 70, 1145] g197) [68, 69, 70] g242) [68, 69, 70] g261) [68, 69, 70, 81, 82, 83, 84, 85, 86, 71, 74, 75, 1127, 78, 79, 80, 72, 76, 77, 1150] g267) [68, 69, 70, 81, 82, 83, 84, 85, 86, 71, 74, 75, 1127, 78, 79, 80, 72, 76, 77, 1143, 1144, 5, 1011, 1150, 1149, 1145, 1113, 1111, 1112, 1100031] g274) := sv_mod.sts md271 (by decide)
              have h := h g274 hpo277
              exact sv_vret hM dX12_waysOfBinary_166 rfl ⟨rfl, ok275, md278, h⟩
