theorem dX12_keywordAt_0 : decode cX12_keywordAt 0 = .ok (.iconst 0, 1) := by decide +kernel
theorem dX12_keywordAt_1 : decode cX12_keywordAt 1 = .ok (.istore_n 3, 1) := by decide +kernel
theorem dX12_keywordAt_2 : decode cX12_keywordAt 2 = .ok (.iconst 0, 1) := by decide +kernel
theorem dX12_keywordAt_3 : decode cX12_keywordAt 3 = .ok (.istore 4, 2) := by decide +kernel
theorem dX12_keywordAt_5 : decode cX12_keywordAt 5 = .ok (.iload 4, 2) := by decide +kernel
theorem dX12_keywordAt_7 : decode cX12_keywordAt 7 = .ok (.ldc_w 379, 3) := by decide +kernel
theorem dX12_keywordAt_10 : decode cX12_keywordAt 10 = .ok (.invokevirtual 315, 3) := by decide +kernel
theorem dX12_keywordAt_13 : decode cX12_keywordAt 13 = .ok (.if_icmp .ge 91, 3) := by decide +kernel
theorem dX12_keywordAt_16 : decode cX12_keywordAt 16 = .ok (.iconst 0, 1) := by decide +kernel
theorem dX12_keywordAt_17 : decode cX12_keywordAt 17 = .ok (.istore 5, 2) := by decide +kernel
theorem dX12_keywordAt_19 : decode cX12_keywordAt 19 = .ok (.iload 5, 2) := by decide +kernel
theorem dX12_keywordAt_21 : decode cX12_keywordAt 21 = .ok (.iload_n 2, 1) := by decide +kernel
theorem dX12_keywordAt_22 : decode cX12_keywordAt 22 = .ok (.if_icmp .ge 31, 3) := by decide +kernel
theorem dX12_keywordAt_25 : decode cX12_keywordAt 25 = .ok (.ldc_w 379, 3) := by decide +kernel
theorem dX12_keywordAt_28 : decode cX12_keywordAt 28 = .ok (.iload 4, 2) := by decide +kernel
theorem dX12_keywordAt_30 : decode cX12_keywordAt 30 = .ok (.iload 5, 2) := by decide +kernel
theorem dX12_keywordAt_32 : decode cX12_keywordAt 32 = .ok (.iadd, 1) := by decide +kernel
theorem dX12_keywordAt_33 : decode cX12_keywordAt 33 = .ok (.invokevirtual 320, 3) := by decide +kernel
theorem dX12_keywordAt_36 : decode cX12_keywordAt 36 = .ok (.aload_n 0, 1) := by decide +kernel
theorem dX12_keywordAt_37 : decode cX12_keywordAt 37 = .ok (.iload_n 1, 1) := by decide +kernel
theorem dX12_keywordAt_38 : decode cX12_keywordAt 38 = .ok (.iload 5, 2) := by decide +kernel
theorem dX12_keywordAt_40 : decode cX12_keywordAt 40 = .ok (.iadd, 1) := by decide +kernel
theorem dX12_keywordAt_41 : decode cX12_keywordAt 41 = .ok (.invokevirtual 334, 3) := by decide +kernel
theorem dX12_keywordAt_44 : decode cX12_keywordAt 44 = .ok (.if_icmp .ne 9, 3) := by decide +kernel
theorem dX12_keywordAt_47 : decode cX12_keywordAt 47 = .ok (.iinc 5 1, 3) := by decide +kernel
theorem dX12_keywordAt_50 : decode cX12_keywordAt 50 = .ok (.goto (-31), 3) := by decide +kernel
theorem dX12_keywordAt_53 : decode cX12_keywordAt 53 = .ok (.iload 5, 2) := by decide +kernel
theorem dX12_keywordAt_55 : decode cX12_keywordAt 55 = .ok (.iload_n 2, 1) := by decide +kernel
theorem dX12_keywordAt_56 : decode cX12_keywordAt 56 = .ok (.if_icmp .ne 20, 3) := by decide +kernel
theorem dX12_keywordAt_59 : decode cX12_keywordAt 59 = .ok (.ldc_w 379, 3) := by decide +kernel
theorem dX12_keywordAt_62 : decode cX12_keywordAt 62 = .ok (.iload 4, 2) := by decide +kernel
theorem dX12_keywordAt_64 : decode cX12_keywordAt 64 = .ok (.iload_n 2, 1) := by decide +kernel
theorem dX12_keywordAt_65 : decode cX12_keywordAt 65 = .ok (.iadd, 1) := by decide +kernel
theorem dX12_keywordAt_66 : decode cX12_keywordAt 66 = .ok (.invokevirtual 320, 3) := by decide +kernel
theorem dX12_keywordAt_69 : decode cX12_keywordAt 69 = .ok (.bipush 32, 2) := by decide +kernel
theorem dX12_keywordAt_71 : decode cX12_keywordAt 71 = .ok (.if_icmp .ne 5, 3) := by decide +kernel
theorem dX12_keywordAt_74 : decode cX12_keywordAt 74 = .ok (.iload_n 3, 1) := by decide +kernel
theorem dX12_keywordAt_75 : decode cX12_keywordAt 75 = .ok (.ireturn, 1) := by decide +kernel
theorem dX12_keywordAt_76 : decode cX12_keywordAt 76 = .ok (.ldc_w 379, 3) := by decide +kernel
theorem dX12_keywordAt_79 : decode cX12_keywordAt 79 = .ok (.iload 4, 2) := by decide +kernel
theorem dX12_keywordAt_81 : decode cX12_keywordAt 81 = .ok (.invokevirtual 320, 3) := by decide +kernel
theorem dX12_keywordAt_84 : decode cX12_keywordAt 84 = .ok (.bipush 32, 2) := by decide +kernel
theorem dX12_keywordAt_86 : decode cX12_keywordAt 86 = .ok (.if_icmp .eq 9, 3) := by decide +kernel
theorem dX12_keywordAt_89 : decode cX12_keywordAt 89 = .ok (.iinc 4 1, 3) := by decide +kernel
theorem dX12_keywordAt_92 : decode cX12_keywordAt 92 = .ok (.goto (-16), 3) := by decide +kernel
theorem dX12_keywordAt_95 : decode cX12_keywordAt 95 = .ok (.iinc 4 1, 3) := by decide +kernel
theorem dX12_keywordAt_98 : decode cX12_keywordAt 98 = .ok (.iinc 3 1, 3) := by decide +kernel
theorem dX12_keywordAt_101 : decode cX12_keywordAt 101 = .ok (.goto (-96), 3) := by decide +kernel
theorem dX12_keywordAt_104 : decode cX12_keywordAt 104 = .ok (.iconst (-1), 1) := by decide +kernel
theorem dX12_keywordAt_105 : decode cX12_keywordAt 105 = .ok (.ireturn, 1) := by decide +kernel
theorem dX12_cutName_0 : decode cX12_cutName 0 = .ok (.aload_n 0, 1) := by decide +kernel
theorem dX12_cutName_1 : decode cX12_cutName 1 = .ok (.getfield 344, 3) := by decide +kernel
theorem dX12_cutName_4 : decode cX12_cutName 4 = .ok (.istore_n 1, 1) := by decide +kernel
theorem dX12_cutName_5 : decode cX12_cutName 5 = .ok (.aload_n 0, 1) := by decide +kernel
theorem dX12_cutName_6 : decode cX12_cutName 6 = .ok (.aload_n 0, 1) := by decide +kernel
theorem dX12_cutName_7 : decode cX12_cutName 7 = .ok (.getfield 344, 3) := by decide +kernel
theorem dX12_cutName_10 : decode cX12_cutName 10 = .ok (.invokevirtual 372, 3) := by decide +kernel
theorem dX12_cutName_13 : decode cX12_cutName 13 = .ok (.ifCond .eq 16, 3) := by decide +kernel
theorem dX12_cutName_16 : decode cX12_cutName 16 = .ok (.aload_n 0, 1) := by decide +kernel
theorem dX12_cutName_17 : decode cX12_cutName 17 = .ok (.dup, 1) := by decide +kernel
theorem dX12_cutName_18 : decode cX12_cutName 18 = .ok (.getfield 344, 3) := by decide +kernel
theorem dX12_cutName_21 : decode cX12_cutName 21 = .ok (.iconst 1, 1) := by decide +kernel
theorem dX12_cutName_22 : decode cX12_cutName 22 = .ok (.iadd, 1) := by decide +kernel
theorem dX12_cutName_23 : decode cX12_cutName 23 = .ok (.putfield 344, 3) := by decide +kernel
theorem dX12_cutName_26 : decode cX12_cutName 26 = .ok (.goto (-21), 3) := by decide +kernel
theorem dX12_cutName_29 : decode cX12_cutName 29 = .ok (.aload_n 0, 1) := by decide +kernel
theorem dX12_cutName_30 : decode cX12_cutName 30 = .ok (.getfield 30, 3) := by decide +kernel
theorem dX12_cutName_33 : decode cX12_cutName 33 = .ok (.aload_n 0, 1) := by decide +kernel
theorem dX12_cutName_34 : decode cX12_cutName 34 = .ok (.getfield 350, 3) := by decide +kernel
theorem dX12_cutName_37 : decode cX12_cutName 37 = .ok (.aload_n 0, 1) := by decide +kernel
theorem dX12_cutName_38 : decode cX12_cutName 38 = .ok (.iload_n 1, 1) := by decide +kernel
theorem dX12_cutName_39 : decode cX12_cutName 39 = .ok (.aload_n 0, 1) := by decide +kernel
theorem dX12_cutName_40 : decode cX12_cutName 40 = .ok (.getfield 344, 3) := by decide +kernel
theorem dX12_cutName_43 : decode cX12_cutName 43 = .ok (.iload_n 1, 1) := by decide +kernel
theorem dX12_cutName_44 : decode cX12_cutName 44 = .ok (.isub, 1) := by decide +kernel
theorem dX12_cutName_45 : decode cX12_cutName 45 = .ok (.invokevirtual 375, 3) := by decide +kernel
theorem dX12_cutName_48 : decode cX12_cutName 48 = .ok (.iastore, 1) := by decide +kernel
theorem dX12_cutName_49 : decode cX12_cutName 49 = .ok (.aload_n 0, 1) := by decide +kernel
theorem dX12_cutName_50 : decode cX12_cutName 50 = .ok (.getfield 27, 3) := by decide +kernel
theorem dX12_cutName_53 : decode cX12_cutName 53 = .ok (.aload_n 0, 1) := by decide +kernel
theorem dX12_cutName_54 : decode cX12_cutName 54 = .ok (.getfield 350, 3) := by decide +kernel
theorem dX12_cutName_57 : decode cX12_cutName 57 = .ok (.aload_n 0, 1) := by decide +kernel
theorem dX12_cutName_58 : decode cX12_cutName 58 = .ok (.getfield 344, 3) := by decide +kernel
theorem dX12_cutName_61 : decode cX12_cutName 61 = .ok (.iload_n 1, 1) := by decide +kernel
theorem dX12_cutName_62 : decode cX12_cutName 62 = .ok (.isub, 1) := by decide +kernel
theorem dX12_cutName_63 : decode cX12_cutName 63 = .ok (.bipush 16, 2) := by decide +kernel
theorem dX12_cutName_65 : decode cX12_cutName 65 = .ok (.if_icmp .le 8, 3) := by decide +kernel
theorem dX12_cutName_68 : decode cX12_cutName 68 = .ok (.bipush 6, 2) := by decide +kernel
theorem dX12_cutName_70 : decode cX12_cutName 70 = .ok (.goto 21, 3) := by decide +kernel
theorem dX12_cutName_73 : decode cX12_cutName 73 = .ok (.aload_n 0, 1) := by decide +kernel
theorem dX12_cutName_74 : decode cX12_cutName 74 = .ok (.getfield 30, 3) := by decide +kernel
theorem dX12_cutName_77 : decode cX12_cutName 77 = .ok (.aload_n 0, 1) := by decide +kernel
theorem dX12_cutName_78 : decode cX12_cutName 78 = .ok (.getfield 350, 3) := by decide +kernel
theorem dX12_cutName_81 : decode cX12_cutName 81 = .ok (.iaload, 1) := by decide +kernel
theorem dX12_cutName_82 : decode cX12_cutName 82 = .ok (.iconst (-1), 1) := by decide +kernel
theorem dX12_cutName_83 : decode cX12_cutName 83 = .ok (.if_icmp .ne 7, 3) := by decide +kernel
theorem dX12_cutName_86 : decode cX12_cutName 86 = .ok (.iconst 1, 1) := by decide +kernel
theorem dX12_cutName_87 : decode cX12_cutName 87 = .ok (.goto 4, 3) := by decide +kernel
theorem dX12_cutName_90 : decode cX12_cutName 90 = .ok (.iconst 2, 1) := by decide +kernel
theorem dX12_cutName_91 : decode cX12_cutName 91 = .ok (.iastore, 1) := by decide +kernel
theorem dX12_cutName_92 : decode cX12_cutName 92 = .ok (.return_, 1) := by decide +kernel
theorem dX12_cutNumber_0 : decode cX12_cutNumber 0 = .ok (.aload_n 0, 1) := by decide +kernel
theorem dX12_cutNumber_1 : decode cX12_cutNumber 1 = .ok (.getfield 344, 3) := by decide +kernel
theorem dX12_cutNumber_4 : decode cX12_cutNumber 4 = .ok (.istore_n 1, 1) := by decide +kernel
theorem dX12_cutNumber_5 : decode cX12_cutNumber 5 = .ok (.lconst 0, 1) := by decide +kernel
theorem dX12_cutNumber_6 : decode cX12_cutNumber 6 = .ok (.lstore_n 2, 1) := by decide +kernel
theorem dX12_cutNumber_7 : decode cX12_cutNumber 7 = .ok (.aload_n 0, 1) := by decide +kernel
theorem dX12_cutNumber_8 : decode cX12_cutNumber 8 = .ok (.aload_n 0, 1) := by decide +kernel
theorem dX12_cutNumber_9 : decode cX12_cutNumber 9 = .ok (.getfield 344, 3) := by decide +kernel
theorem dX12_cutNumber_12 : decode cX12_cutNumber 12 = .ok (.invokevirtual 331, 3) := by decide +kernel
theorem dX12_cutNumber_15 : decode cX12_cutNumber 15 = .ok (.ifCond .eq 65, 3) := by decide +kernel
theorem dX12_cutNumber_18 : decode cX12_cutNumber 18 = .ok (.aload_n 0, 1) := by decide +kernel
theorem dX12_cutNumber_19 : decode cX12_cutNumber 19 = .ok (.aload_n 0, 1) := by decide +kernel
theorem dX12_cutNumber_20 : decode cX12_cutNumber 20 = .ok (.getfield 344, 3) := by decide +kernel
theorem dX12_cutNumber_23 : decode cX12_cutNumber 23 = .ok (.invokevirtual 334, 3) := by decide +kernel
theorem dX12_cutNumber_26 : decode cX12_cutNumber 26 = .ok (.invokestatic 341, 3) := by decide +kernel
theorem dX12_cutNumber_29 : decode cX12_cutNumber 29 = .ok (.ifCond .eq 51, 3) := by decide +kernel
theorem dX12_cutNumber_32 : decode cX12_cutNumber 32 = .ok (.aload_n 0, 1) := by decide +kernel
theorem dX12_cutNumber_33 : decode cX12_cutNumber 33 = .ok (.getfield 344, 3) := by decide +kernel
theorem dX12_cutNumber_36 : decode cX12_cutNumber 36 = .ok (.iload_n 1, 1) := by decide +kernel
theorem dX12_cutNumber_37 : decode cX12_cutNumber 37 = .ok (.isub, 1) := by decide +kernel
theorem dX12_cutNumber_38 : decode cX12_cutNumber 38 = .ok (.bipush 10, 2) := by decide +kernel
theorem dX12_cutNumber_40 : decode cX12_cutNumber 40 = .ok (.if_icmp .ge 25, 3) := by decide +kernel
theorem dX12_cutNumber_43 : decode cX12_cutNumber 43 = .ok (.ldc2_w 381, 3) := by decide +kernel
theorem dX12_cutNumber_46 : decode cX12_cutNumber 46 = .ok (.lload_n 2, 1) := by decide +kernel
theorem dX12_cutNumber_47 : decode cX12_cutNumber 47 = .ok (.lmul, 1) := by decide +kernel
theorem dX12_cutNumber_48 : decode cX12_cutNumber 48 = .ok (.aload_n 0, 1) := by decide +kernel
theorem dX12_cutNumber_49 : decode cX12_cutNumber 49 = .ok (.aload_n 0, 1) := by decide +kernel
theorem dX12_cutNumber_50 : decode cX12_cutNumber 50 = .ok (.getfield 344, 3) := by decide +kernel
theorem dX12_cutNumber_53 : decode cX12_cutNumber 53 = .ok (.invokevirtual 334, 3) := by decide +kernel
theorem dX12_cutNumber_56 : decode cX12_cutNumber 56 = .ok (.i2l, 1) := by decide +kernel
theorem dX12_cutNumber_57 : decode cX12_cutNumber 57 = .ok (.ladd, 1) := by decide +kernel
theorem dX12_cutNumber_58 : decode cX12_cutNumber 58 = .ok (.ldc2_w 383, 3) := by decide +kernel
theorem dX12_cutNumber_61 : decode cX12_cutNumber 61 = .ok (.lsub, 1) := by decide +kernel
theorem dX12_cutNumber_62 : decode cX12_cutNumber 62 = .ok (.goto 4, 3) := by decide +kernel
theorem dX12_cutNumber_65 : decode cX12_cutNumber 65 = .ok (.lload_n 2, 1) := by decide +kernel
theorem dX12_cutNumber_66 : decode cX12_cutNumber 66 = .ok (.lstore_n 2, 1) := by decide +kernel
theorem dX12_cutNumber_67 : decode cX12_cutNumber 67 = .ok (.aload_n 0, 1) := by decide +kernel
theorem dX12_cutNumber_68 : decode cX12_cutNumber 68 = .ok (.dup, 1) := by decide +kernel
theorem dX12_cutNumber_69 : decode cX12_cutNumber 69 = .ok (.getfield 344, 3) := by decide +kernel
theorem dX12_cutNumber_72 : decode cX12_cutNumber 72 = .ok (.iconst 1, 1) := by decide +kernel
theorem dX12_cutNumber_73 : decode cX12_cutNumber 73 = .ok (.iadd, 1) := by decide +kernel
theorem dX12_cutNumber_74 : decode cX12_cutNumber 74 = .ok (.putfield 344, 3) := by decide +kernel
theorem dX12_cutNumber_77 : decode cX12_cutNumber 77 = .ok (.goto (-70), 3) := by decide +kernel
theorem dX12_cutNumber_80 : decode cX12_cutNumber 80 = .ok (.aload_n 0, 1) := by decide +kernel
theorem dX12_cutNumber_81 : decode cX12_cutNumber 81 = .ok (.getfield 344, 3) := by decide +kernel
theorem dX12_cutNumber_84 : decode cX12_cutNumber 84 = .ok (.iload_n 1, 1) := by decide +kernel
theorem dX12_cutNumber_85 : decode cX12_cutNumber 85 = .ok (.isub, 1) := by decide +kernel
theorem dX12_cutNumber_86 : decode cX12_cutNumber 86 = .ok (.bipush 10, 2) := by decide +kernel
theorem dX12_cutNumber_88 : decode cX12_cutNumber 88 = .ok (.if_icmp .gt 26, 3) := by decide +kernel
theorem dX12_cutNumber_91 : decode cX12_cutNumber 91 = .ok (.lload_n 2, 1) := by decide +kernel
theorem dX12_cutNumber_92 : decode cX12_cutNumber 92 = .ok (.ldc2_w 385, 3) := by decide +kernel
theorem dX12_cutNumber_95 : decode cX12_cutNumber 95 = .ok (.lcmp, 1) := by decide +kernel
theorem dX12_cutNumber_96 : decode cX12_cutNumber 96 = .ok (.ifCond .gt 18, 3) := by decide +kernel
theorem dX12_cutNumber_99 : decode cX12_cutNumber 99 = .ok (.aload_n 0, 1) := by decide +kernel
theorem dX12_cutNumber_100 : decode cX12_cutNumber 100 = .ok (.aload_n 0, 1) := by decide +kernel
theorem dX12_cutNumber_101 : decode cX12_cutNumber 101 = .ok (.getfield 344, 3) := by decide +kernel
theorem dX12_cutNumber_104 : decode cX12_cutNumber 104 = .ok (.invokevirtual 372, 3) := by decide +kernel
theorem dX12_cutNumber_107 : decode cX12_cutNumber 107 = .ok (.ifCond .ne 7, 3) := by decide +kernel
theorem dX12_cutNumber_110 : decode cX12_cutNumber 110 = .ok (.iconst 1, 1) := by decide +kernel
theorem dX12_cutNumber_111 : decode cX12_cutNumber 111 = .ok (.goto 4, 3) := by decide +kernel
theorem dX12_cutNumber_114 : decode cX12_cutNumber 114 = .ok (.iconst 0, 1) := by decide +kernel
theorem dX12_cutNumber_115 : decode cX12_cutNumber 115 = .ok (.istore 4, 2) := by decide +kernel
theorem dX12_cutNumber_117 : decode cX12_cutNumber 117 = .ok (.aload_n 0, 1) := by decide +kernel
theorem dX12_cutNumber_118 : decode cX12_cutNumber 118 = .ok (.getfield 27, 3) := by decide +kernel
theorem dX12_cutNumber_121 : decode cX12_cutNumber 121 = .ok (.aload_n 0, 1) := by decide +kernel
theorem dX12_cutNumber_122 : decode cX12_cutNumber 122 = .ok (.getfield 350, 3) := by decide +kernel
theorem dX12_cutNumber_125 : decode cX12_cutNumber 125 = .ok (.iload 4, 2) := by decide +kernel
theorem dX12_cutNumber_127 : decode cX12_cutNumber 127 = .ok (.ifCond .eq 7, 3) := by decide +kernel
theorem dX12_cutNumber_130 : decode cX12_cutNumber 130 = .ok (.iconst 3, 1) := by decide +kernel
theorem dX12_cutNumber_131 : decode cX12_cutNumber 131 = .ok (.goto 5, 3) := by decide +kernel
theorem dX12_cutNumber_134 : decode cX12_cutNumber 134 = .ok (.bipush 6, 2) := by decide +kernel
theorem dX12_cutNumber_136 : decode cX12_cutNumber 136 = .ok (.iastore, 1) := by decide +kernel
theorem dX12_cutNumber_137 : decode cX12_cutNumber 137 = .ok (.aload_n 0, 1) := by decide +kernel
theorem dX12_cutNumber_138 : decode cX12_cutNumber 138 = .ok (.getfield 30, 3) := by decide +kernel
theorem dX12_cutNumber_141 : decode cX12_cutNumber 141 = .ok (.aload_n 0, 1) := by decide +kernel
theorem dX12_cutNumber_142 : decode cX12_cutNumber 142 = .ok (.getfield 350, 3) := by decide +kernel
theorem dX12_cutNumber_145 : decode cX12_cutNumber 145 = .ok (.lload_n 2, 1) := by decide +kernel
theorem dX12_cutNumber_146 : decode cX12_cutNumber 146 = .ok (.l2i, 1) := by decide +kernel
theorem dX12_cutNumber_147 : decode cX12_cutNumber 147 = .ok (.iastore, 1) := by decide +kernel
theorem dX12_cutNumber_148 : decode cX12_cutNumber 148 = .ok (.return_, 1) := by decide +kernel
theorem dX12_cutString_0 : decode cX12_cutString 0 = .ok (.iconst 0, 1) := by decide +kernel
theorem dX12_cutString_1 : decode cX12_cutString 1 = .ok (.istore_n 2, 1) := by decide +kernel
theorem dX12_cutString_2 : decode cX12_cutString 2 = .ok (.aload_n 0, 1) := by decide +kernel
theorem dX12_cutString_3 : decode cX12_cutString 3 = .ok (.dup, 1) := by decide +kernel
theorem dX12_cutString_4 : decode cX12_cutString 4 = .ok (.getfield 344, 3) := by decide +kernel
theorem dX12_cutString_7 : decode cX12_cutString 7 = .ok (.iconst 1, 1) := by decide +kernel
theorem dX12_cutString_8 : decode cX12_cutString 8 = .ok (.iadd, 1) := by decide +kernel
theorem dX12_cutString_9 : decode cX12_cutString 9 = .ok (.putfield 344, 3) := by decide +kernel
theorem dX12_cutString_12 : decode cX12_cutString 12 = .ok (.iconst 1, 1) := by decide +kernel
theorem dX12_cutString_13 : decode cX12_cutString 13 = .ok (.istore_n 3, 1) := by decide +kernel
theorem dX12_cutString_14 : decode cX12_cutString 14 = .ok (.iload_n 3, 1) := by decide +kernel
theorem dX12_cutString_15 : decode cX12_cutString 15 = .ok (.ifCond .eq 181, 3) := by decide +kernel
theorem dX12_cutString_18 : decode cX12_cutString 18 = .ok (.aload_n 0, 1) := by decide +kernel
theorem dX12_cutString_19 : decode cX12_cutString 19 = .ok (.aload_n 0, 1) := by decide +kernel
theorem dX12_cutString_20 : decode cX12_cutString 20 = .ok (.getfield 344, 3) := by decide +kernel
theorem dX12_cutString_23 : decode cX12_cutString 23 = .ok (.invokevirtual 331, 3) := by decide +kernel
theorem dX12_cutString_26 : decode cX12_cutString 26 = .ok (.ifCond .eq 170, 3) := by decide +kernel
theorem dX12_cutString_29 : decode cX12_cutString 29 = .ok (.aload_n 0, 1) := by decide +kernel
theorem dX12_cutString_30 : decode cX12_cutString 30 = .ok (.aload_n 0, 1) := by decide +kernel
theorem dX12_cutString_31 : decode cX12_cutString 31 = .ok (.getfield 344, 3) := by decide +kernel
theorem dX12_cutString_34 : decode cX12_cutString 34 = .ok (.invokevirtual 334, 3) := by decide +kernel
theorem dX12_cutString_37 : decode cX12_cutString 37 = .ok (.iload_n 1, 1) := by decide +kernel
theorem dX12_cutString_38 : decode cX12_cutString 38 = .ok (.if_icmp .eq 158, 3) := by decide +kernel
theorem dX12_cutString_41 : decode cX12_cutString 41 = .ok (.aload_n 0, 1) := by decide +kernel
theorem dX12_cutString_42 : decode cX12_cutString 42 = .ok (.aload_n 0, 1) := by decide +kernel
theorem dX12_cutString_43 : decode cX12_cutString 43 = .ok (.getfield 344, 3) := by decide +kernel
theorem dX12_cutString_46 : decode cX12_cutString 46 = .ok (.invokevirtual 334, 3) := by decide +kernel
theorem dX12_cutString_49 : decode cX12_cutString 49 = .ok (.bipush 92, 2) := by decide +kernel
theorem dX12_cutString_51 : decode cX12_cutString 51 = .ok (.if_icmp .ne 7, 3) := by decide +kernel
theorem dX12_cutString_54 : decode cX12_cutString 54 = .ok (.iconst 1, 1) := by decide +kernel
theorem dX12_cutString_55 : decode cX12_cutString 55 = .ok (.goto 4, 3) := by decide +kernel
theorem dX12_cutString_58 : decode cX12_cutString 58 = .ok (.iconst 0, 1) := by decide +kernel
theorem dX12_cutString_59 : decode cX12_cutString 59 = .ok (.istore 4, 2) := by decide +kernel
theorem dX12_cutString_61 : decode cX12_cutString 61 = .ok (.iload 4, 2) := by decide +kernel
theorem dX12_cutString_63 : decode cX12_cutString 63 = .ok (.ifCond .eq 16, 3) := by decide +kernel
theorem dX12_cutString_66 : decode cX12_cutString 66 = .ok (.aload_n 0, 1) := by decide +kernel
theorem dX12_cutString_67 : decode cX12_cutString 67 = .ok (.aload_n 0, 1) := by decide +kernel
theorem dX12_cutString_68 : decode cX12_cutString 68 = .ok (.getfield 344, 3) := by decide +kernel
theorem dX12_cutString_71 : decode cX12_cutString 71 = .ok (.iconst 1, 1) := by decide +kernel
theorem dX12_cutString_72 : decode cX12_cutString 72 = .ok (.iadd, 1) := by decide +kernel
theorem dX12_cutString_73 : decode cX12_cutString 73 = .ok (.invokevirtual 334, 3) := by decide +kernel
theorem dX12_cutString_76 : decode cX12_cutString 76 = .ok (.goto 11, 3) := by decide +kernel
theorem dX12_cutString_79 : decode cX12_cutString 79 = .ok (.aload_n 0, 1) := by decide +kernel
theorem dX12_cutString_80 : decode cX12_cutString 80 = .ok (.aload_n 0, 1) := by decide +kernel
theorem dX12_cutString_81 : decode cX12_cutString 81 = .ok (.getfield 344, 3) := by decide +kernel
theorem dX12_cutString_84 : decode cX12_cutString 84 = .ok (.invokevirtual 334, 3) := by decide +kernel
theorem dX12_cutString_87 : decode cX12_cutString 87 = .ok (.istore 5, 2) := by decide +kernel
theorem dX12_cutString_89 : decode cX12_cutString 89 = .ok (.iload 4, 2) := by decide +kernel
theorem dX12_cutString_91 : decode cX12_cutString 91 = .ok (.ifCond .eq 60, 3) := by decide +kernel
theorem dX12_cutString_94 : decode cX12_cutString 94 = .ok (.aload_n 0, 1) := by decide +kernel
theorem dX12_cutString_95 : decode cX12_cutString 95 = .ok (.aload_n 0, 1) := by decide +kernel
theorem dX12_cutString_96 : decode cX12_cutString 96 = .ok (.getfield 344, 3) := by decide +kernel
theorem dX12_cutString_99 : decode cX12_cutString 99 = .ok (.iconst 1, 1) := by decide +kernel
theorem dX12_cutString_100 : decode cX12_cutString 100 = .ok (.iadd, 1) := by decide +kernel
theorem dX12_cutString_101 : decode cX12_cutString 101 = .ok (.invokevirtual 331, 3) := by decide +kernel
theorem dX12_cutString_104 : decode cX12_cutString 104 = .ok (.ifCond .eq 42, 3) := by decide +kernel
theorem dX12_cutString_107 : decode cX12_cutString 107 = .ok (.iload 5, 2) := by decide +kernel
theorem dX12_cutString_109 : decode cX12_cutString 109 = .ok (.bipush 110, 2) := by decide +kernel
theorem dX12_cutString_111 : decode cX12_cutString 111 = .ok (.if_icmp .eq 31, 3) := by decide +kernel
theorem dX12_cutString_114 : decode cX12_cutString 114 = .ok (.iload 5, 2) := by decide +kernel
theorem dX12_cutString_116 : decode cX12_cutString 116 = .ok (.bipush 116, 2) := by decide +kernel
theorem dX12_cutString_118 : decode cX12_cutString 118 = .ok (.if_icmp .eq 24, 3) := by decide +kernel
theorem dX12_cutString_121 : decode cX12_cutString 121 = .ok (.iload 5, 2) := by decide +kernel
theorem dX12_cutString_123 : decode cX12_cutString 123 = .ok (.bipush 92, 2) := by decide +kernel
theorem dX12_cutString_125 : decode cX12_cutString 125 = .ok (.if_icmp .eq 17, 3) := by decide +kernel
theorem dX12_cutString_128 : decode cX12_cutString 128 = .ok (.iload 5, 2) := by decide +kernel
theorem dX12_cutString_130 : decode cX12_cutString 130 = .ok (.bipush 39, 2) := by decide +kernel
theorem dX12_cutString_132 : decode cX12_cutString 132 = .ok (.if_icmp .eq 10, 3) := by decide +kernel
theorem dX12_cutString_135 : decode cX12_cutString 135 = .ok (.iload 5, 2) := by decide +kernel
theorem dX12_cutString_137 : decode cX12_cutString 137 = .ok (.bipush 34, 2) := by decide +kernel
theorem dX12_cutString_139 : decode cX12_cutString 139 = .ok (.if_icmp .ne 7, 3) := by decide +kernel
theorem dX12_cutString_142 : decode cX12_cutString 142 = .ok (.iconst 1, 1) := by decide +kernel
theorem dX12_cutString_143 : decode cX12_cutString 143 = .ok (.goto 4, 3) := by decide +kernel
theorem dX12_cutString_146 : decode cX12_cutString 146 = .ok (.iconst 0, 1) := by decide +kernel
theorem dX12_cutString_147 : decode cX12_cutString 147 = .ok (.istore_n 3, 1) := by decide +kernel
theorem dX12_cutString_148 : decode cX12_cutString 148 = .ok (.goto 23, 3) := by decide +kernel
theorem dX12_cutString_151 : decode cX12_cutString 151 = .ok (.iload 5, 2) := by decide +kernel
theorem dX12_cutString_153 : decode cX12_cutString 153 = .ok (.bipush 32, 2) := by decide +kernel
theorem dX12_cutString_155 : decode cX12_cutString 155 = .ok (.if_icmp .lt 14, 3) := by decide +kernel
theorem dX12_cutString_158 : decode cX12_cutString 158 = .ok (.iload 5, 2) := by decide +kernel
theorem dX12_cutString_160 : decode cX12_cutString 160 = .ok (.bipush 126, 2) := by decide +kernel
theorem dX12_cutString_162 : decode cX12_cutString 162 = .ok (.if_icmp .gt 7, 3) := by decide +kernel
theorem dX12_cutString_165 : decode cX12_cutString 165 = .ok (.iconst 1, 1) := by decide +kernel
theorem dX12_cutString_166 : decode cX12_cutString 166 = .ok (.goto 4, 3) := by decide +kernel
theorem dX12_cutString_169 : decode cX12_cutString 169 = .ok (.iconst 0, 1) := by decide +kernel
theorem dX12_cutString_170 : decode cX12_cutString 170 = .ok (.istore_n 3, 1) := by decide +kernel
theorem dX12_cutString_171 : decode cX12_cutString 171 = .ok (.aload_n 0, 1) := by decide +kernel
theorem dX12_cutString_172 : decode cX12_cutString 172 = .ok (.dup, 1) := by decide +kernel
theorem dX12_cutString_173 : decode cX12_cutString 173 = .ok (.getfield 344, 3) := by decide +kernel
theorem dX12_cutString_176 : decode cX12_cutString 176 = .ok (.iload 4, 2) := by decide +kernel
theorem dX12_cutString_178 : decode cX12_cutString 178 = .ok (.ifCond .eq 7, 3) := by decide +kernel
theorem dX12_cutString_181 : decode cX12_cutString 181 = .ok (.iconst 2, 1) := by decide +kernel
theorem dX12_cutString_182 : decode cX12_cutString 182 = .ok (.goto 4, 3) := by decide +kernel
theorem dX12_cutString_185 : decode cX12_cutString 185 = .ok (.iconst 1, 1) := by decide +kernel
theorem dX12_cutString_186 : decode cX12_cutString 186 = .ok (.iadd, 1) := by decide +kernel
theorem dX12_cutString_187 : decode cX12_cutString 187 = .ok (.putfield 344, 3) := by decide +kernel
theorem dX12_cutString_190 : decode cX12_cutString 190 = .ok (.iinc 2 1, 3) := by decide +kernel
theorem dX12_cutString_193 : decode cX12_cutString 193 = .ok (.goto (-179), 3) := by decide +kernel
theorem dX12_cutString_196 : decode cX12_cutString 196 = .ok (.aload_n 0, 1) := by decide +kernel
theorem dX12_cutString_197 : decode cX12_cutString 197 = .ok (.getfield 27, 3) := by decide +kernel
theorem dX12_cutString_200 : decode cX12_cutString 200 = .ok (.aload_n 0, 1) := by decide +kernel
theorem dX12_cutString_201 : decode cX12_cutString 201 = .ok (.getfield 350, 3) := by decide +kernel
theorem dX12_cutString_204 : decode cX12_cutString 204 = .ok (.iload_n 3, 1) := by decide +kernel
theorem dX12_cutString_205 : decode cX12_cutString 205 = .ok (.ifCond .eq 24, 3) := by decide +kernel
theorem dX12_cutString_208 : decode cX12_cutString 208 = .ok (.aload_n 0, 1) := by decide +kernel
theorem dX12_cutString_209 : decode cX12_cutString 209 = .ok (.aload_n 0, 1) := by decide +kernel
theorem dX12_cutString_210 : decode cX12_cutString 210 = .ok (.getfield 344, 3) := by decide +kernel
theorem dX12_cutString_213 : decode cX12_cutString 213 = .ok (.invokevirtual 331, 3) := by decide +kernel
theorem dX12_cutString_216 : decode cX12_cutString 216 = .ok (.ifCond .eq 13, 3) := by decide +kernel
theorem dX12_cutString_219 : decode cX12_cutString 219 = .ok (.iload_n 2, 1) := by decide +kernel
theorem dX12_cutString_220 : decode cX12_cutString 220 = .ok (.bipush 40, 2) := by decide +kernel
theorem dX12_cutString_222 : decode cX12_cutString 222 = .ok (.if_icmp .gt 7, 3) := by decide +kernel
theorem dX12_cutString_225 : decode cX12_cutString 225 = .ok (.iconst 4, 1) := by decide +kernel
theorem dX12_cutString_226 : decode cX12_cutString 226 = .ok (.goto 5, 3) := by decide +kernel
theorem dX12_cutString_229 : decode cX12_cutString 229 = .ok (.bipush 6, 2) := by decide +kernel
theorem dX12_cutString_231 : decode cX12_cutString 231 = .ok (.iastore, 1) := by decide +kernel
theorem dX12_cutString_232 : decode cX12_cutString 232 = .ok (.aload_n 0, 1) := by decide +kernel
theorem dX12_cutString_233 : decode cX12_cutString 233 = .ok (.dup, 1) := by decide +kernel
theorem dX12_cutString_234 : decode cX12_cutString 234 = .ok (.getfield 344, 3) := by decide +kernel
theorem dX12_cutString_237 : decode cX12_cutString 237 = .ok (.iconst 1, 1) := by decide +kernel
theorem dX12_cutString_238 : decode cX12_cutString 238 = .ok (.iadd, 1) := by decide +kernel
theorem dX12_cutString_239 : decode cX12_cutString 239 = .ok (.putfield 344, 3) := by decide +kernel
theorem dX12_cutString_242 : decode cX12_cutString 242 = .ok (.return_, 1) := by decide +kernel
theorem dX12_cutSign_0 : decode cX12_cutSign 0 = .ok (.iconst 0, 1) := by decide +kernel
theorem dX12_cutSign_1 : decode cX12_cutSign 1 = .ok (.istore_n 1, 1) := by decide +kernel
theorem dX12_cutSign_2 : decode cX12_cutSign 2 = .ok (.iconst 0, 1) := by decide +kernel
theorem dX12_cutSign_3 : decode cX12_cutSign 3 = .ok (.istore_n 2, 1) := by decide +kernel
theorem dX12_cutSign_4 : decode cX12_cutSign 4 = .ok (.iload_n 2, 1) := by decide +kernel
theorem dX12_cutSign_5 : decode cX12_cutSign 5 = .ok (.ldc_w 387, 3) := by decide +kernel
theorem dX12_cutSign_8 : decode cX12_cutSign 8 = .ok (.invokevirtual 315, 3) := by decide +kernel
theorem dX12_cutSign_11 : decode cX12_cutSign 11 = .ok (.if_icmp .ge 141, 3) := by decide +kernel
theorem dX12_cutSign_14 : decode cX12_cutSign 14 = .ok (.iconst 0, 1) := by decide +kernel
theorem dX12_cutSign_15 : decode cX12_cutSign 15 = .ok (.istore_n 3, 1) := by decide +kernel
theorem dX12_cutSign_16 : decode cX12_cutSign 16 = .ok (.ldc_w 387, 3) := by decide +kernel
theorem dX12_cutSign_19 : decode cX12_cutSign 19 = .ok (.iload_n 2, 1) := by decide +kernel
theorem dX12_cutSign_20 : decode cX12_cutSign 20 = .ok (.iload_n 3, 1) := by decide +kernel
theorem dX12_cutSign_21 : decode cX12_cutSign 21 = .ok (.iadd, 1) := by decide +kernel
theorem dX12_cutSign_22 : decode cX12_cutSign 22 = .ok (.invokevirtual 320, 3) := by decide +kernel
theorem dX12_cutSign_25 : decode cX12_cutSign 25 = .ok (.bipush 32, 2) := by decide +kernel
theorem dX12_cutSign_27 : decode cX12_cutSign 27 = .ok (.if_icmp .eq 9, 3) := by decide +kernel
theorem dX12_cutSign_30 : decode cX12_cutSign 30 = .ok (.iinc 3 1, 3) := by decide +kernel
theorem dX12_cutSign_33 : decode cX12_cutSign 33 = .ok (.goto (-17), 3) := by decide +kernel
theorem dX12_cutSign_36 : decode cX12_cutSign 36 = .ok (.iconst 1, 1) := by decide +kernel
theorem dX12_cutSign_37 : decode cX12_cutSign 37 = .ok (.istore 4, 2) := by decide +kernel
theorem dX12_cutSign_39 : decode cX12_cutSign 39 = .ok (.iconst 0, 1) := by decide +kernel
theorem dX12_cutSign_40 : decode cX12_cutSign 40 = .ok (.istore 5, 2) := by decide +kernel
theorem dX12_cutSign_42 : decode cX12_cutSign 42 = .ok (.iload 5, 2) := by decide +kernel
theorem dX12_cutSign_44 : decode cX12_cutSign 44 = .ok (.iload_n 3, 1) := by decide +kernel
theorem dX12_cutSign_45 : decode cX12_cutSign 45 = .ok (.if_icmp .ge 59, 3) := by decide +kernel
theorem dX12_cutSign_48 : decode cX12_cutSign 48 = .ok (.iload 4, 2) := by decide +kernel
theorem dX12_cutSign_50 : decode cX12_cutSign 50 = .ok (.ifCond .eq 54, 3) := by decide +kernel
theorem dX12_cutSign_53 : decode cX12_cutSign 53 = .ok (.aload_n 0, 1) := by decide +kernel
theorem dX12_cutSign_54 : decode cX12_cutSign 54 = .ok (.aload_n 0, 1) := by decide +kernel
theorem dX12_cutSign_55 : decode cX12_cutSign 55 = .ok (.getfield 344, 3) := by decide +kernel
theorem dX12_cutSign_58 : decode cX12_cutSign 58 = .ok (.iload 5, 2) := by decide +kernel
theorem dX12_cutSign_60 : decode cX12_cutSign 60 = .ok (.iadd, 1) := by decide +kernel
theorem dX12_cutSign_61 : decode cX12_cutSign 61 = .ok (.invokevirtual 331, 3) := by decide +kernel
theorem dX12_cutSign_64 : decode cX12_cutSign 64 = .ok (.ifCond .eq 31, 3) := by decide +kernel
theorem dX12_cutSign_67 : decode cX12_cutSign 67 = .ok (.ldc_w 387, 3) := by decide +kernel
theorem dX12_cutSign_70 : decode cX12_cutSign 70 = .ok (.iload_n 2, 1) := by decide +kernel
theorem dX12_cutSign_71 : decode cX12_cutSign 71 = .ok (.iload 5, 2) := by decide +kernel
theorem dX12_cutSign_73 : decode cX12_cutSign 73 = .ok (.iadd, 1) := by decide +kernel
theorem dX12_cutSign_74 : decode cX12_cutSign 74 = .ok (.invokevirtual 320, 3) := by decide +kernel
theorem dX12_cutSign_77 : decode cX12_cutSign 77 = .ok (.aload_n 0, 1) := by decide +kernel
theorem dX12_cutSign_78 : decode cX12_cutSign 78 = .ok (.aload_n 0, 1) := by decide +kernel
theorem dX12_cutSign_79 : decode cX12_cutSign 79 = .ok (.getfield 344, 3) := by decide +kernel
theorem dX12_cutSign_82 : decode cX12_cutSign 82 = .ok (.iload 5, 2) := by decide +kernel
theorem dX12_cutSign_84 : decode cX12_cutSign 84 = .ok (.iadd, 1) := by decide +kernel
theorem dX12_cutSign_85 : decode cX12_cutSign 85 = .ok (.invokevirtual 334, 3) := by decide +kernel
theorem dX12_cutSign_88 : decode cX12_cutSign 88 = .ok (.if_icmp .ne 7, 3) := by decide +kernel
theorem dX12_cutSign_91 : decode cX12_cutSign 91 = .ok (.iconst 1, 1) := by decide +kernel
theorem dX12_cutSign_92 : decode cX12_cutSign 92 = .ok (.goto 4, 3) := by decide +kernel
theorem dX12_cutSign_95 : decode cX12_cutSign 95 = .ok (.iconst 0, 1) := by decide +kernel
theorem dX12_cutSign_96 : decode cX12_cutSign 96 = .ok (.istore 4, 2) := by decide +kernel
theorem dX12_cutSign_98 : decode cX12_cutSign 98 = .ok (.iinc 5 1, 3) := by decide +kernel
theorem dX12_cutSign_101 : decode cX12_cutSign 101 = .ok (.goto (-59), 3) := by decide +kernel
theorem dX12_cutSign_104 : decode cX12_cutSign 104 = .ok (.iload 4, 2) := by decide +kernel
theorem dX12_cutSign_106 : decode cX12_cutSign 106 = .ok (.ifCond .eq 34, 3) := by decide +kernel
theorem dX12_cutSign_109 : decode cX12_cutSign 109 = .ok (.aload_n 0, 1) := by decide +kernel
theorem dX12_cutSign_110 : decode cX12_cutSign 110 = .ok (.getfield 27, 3) := by decide +kernel
theorem dX12_cutSign_113 : decode cX12_cutSign 113 = .ok (.aload_n 0, 1) := by decide +kernel
theorem dX12_cutSign_114 : decode cX12_cutSign 114 = .ok (.getfield 350, 3) := by decide +kernel
theorem dX12_cutSign_117 : decode cX12_cutSign 117 = .ok (.iconst 5, 1) := by decide +kernel
theorem dX12_cutSign_118 : decode cX12_cutSign 118 = .ok (.iastore, 1) := by decide +kernel
theorem dX12_cutSign_119 : decode cX12_cutSign 119 = .ok (.aload_n 0, 1) := by decide +kernel
theorem dX12_cutSign_120 : decode cX12_cutSign 120 = .ok (.getfield 30, 3) := by decide +kernel
theorem dX12_cutSign_123 : decode cX12_cutSign 123 = .ok (.aload_n 0, 1) := by decide +kernel
theorem dX12_cutSign_124 : decode cX12_cutSign 124 = .ok (.getfield 350, 3) := by decide +kernel
theorem dX12_cutSign_127 : decode cX12_cutSign 127 = .ok (.iload_n 1, 1) := by decide +kernel
theorem dX12_cutSign_128 : decode cX12_cutSign 128 = .ok (.iastore, 1) := by decide +kernel
theorem dX12_cutSign_129 : decode cX12_cutSign 129 = .ok (.aload_n 0, 1) := by decide +kernel
theorem dX12_cutSign_130 : decode cX12_cutSign 130 = .ok (.dup, 1) := by decide +kernel
theorem dX12_cutSign_131 : decode cX12_cutSign 131 = .ok (.getfield 344, 3) := by decide +kernel
theorem dX12_cutSign_134 : decode cX12_cutSign 134 = .ok (.iload_n 3, 1) := by decide +kernel
theorem dX12_cutSign_135 : decode cX12_cutSign 135 = .ok (.iadd, 1) := by decide +kernel
theorem dX12_cutSign_136 : decode cX12_cutSign 136 = .ok (.putfield 344, 3) := by decide +kernel
theorem dX12_cutSign_139 : decode cX12_cutSign 139 = .ok (.return_, 1) := by decide +kernel
theorem dX12_cutSign_140 : decode cX12_cutSign 140 = .ok (.iload_n 2, 1) := by decide +kernel
theorem dX12_cutSign_141 : decode cX12_cutSign 141 = .ok (.iload_n 3, 1) := by decide +kernel
theorem dX12_cutSign_142 : decode cX12_cutSign 142 = .ok (.iconst 1, 1) := by decide +kernel
theorem dX12_cutSign_143 : decode cX12_cutSign 143 = .ok (.iadd, 1) := by decide +kernel
theorem dX12_cutSign_144 : decode cX12_cutSign 144 = .ok (.iadd, 1) := by decide +kernel
theorem dX12_cutSign_145 : decode cX12_cutSign 145 = .ok (.istore_n 2, 1) := by decide +kernel
theorem dX12_cutSign_146 : decode cX12_cutSign 146 = .ok (.iinc 1 1, 3) := by decide +kernel
theorem dX12_cutSign_149 : decode cX12_cutSign 149 = .ok (.goto (-145), 3) := by decide +kernel
theorem dX12_cutSign_152 : decode cX12_cutSign 152 = .ok (.aload_n 0, 1) := by decide +kernel
theorem dX12_cutSign_153 : decode cX12_cutSign 153 = .ok (.getfield 27, 3) := by decide +kernel
theorem dX12_cutSign_156 : decode cX12_cutSign 156 = .ok (.aload_n 0, 1) := by decide +kernel
theorem dX12_cutSign_157 : decode cX12_cutSign 157 = .ok (.getfield 350, 3) := by decide +kernel
theorem dX12_cutSign_160 : decode cX12_cutSign 160 = .ok (.bipush 6, 2) := by decide +kernel
theorem dX12_cutSign_162 : decode cX12_cutSign 162 = .ok (.iastore, 1) := by decide +kernel
theorem dX12_cutSign_163 : decode cX12_cutSign 163 = .ok (.return_, 1) := by decide +kernel
theorem sm_e901 (x : Int) : sm_c901 x = if x = 171 then 32 else sm_c901 x := by
  by_cases hx : x = 171
  · subst hx; decide
  · rw [if_neg hx]
theorem sm_e902 (x : Int) : sm_c902 x = if x = 126 then 32 else sm_c902 x := by
  by_cases hx : x = 126
  · subst hx; decide
  · rw [if_neg hx]
theorem sm_m902 : ∀ n : Fin 126, (sm_s902.getD n.val 0).toInt = 32 → ¬ (sm_s902.getD (n.val + 1) 0).toInt = 32 := by decide +kernel
theorem sm_n902 (x : Int) (h : sm_c902 x = 32) (h0 : 0 < x) (h1 : x < 127) : ¬ sm_c902 (x - 1) = 32 := by
  intro h2
  unfold sm_c902 at *
  have e : x.toNat = (x - 1).toNat + 1 := by omega
  rw [e] at h
  exact sm_m902 ⟨(x - 1).toNat, by omega⟩ h2 h
theorem sm_w902 : ¬ sm_c902 0 = 32 := by decide

def q_keywordAt (p1 : Int) (p2 : Int) (S : sv_S) : Option Value → sv_S → Prop := fun v S' => ∃ r : Int, v = some (sv_I r) ∧ sv_R r ∧ sm_ok S' ∧ sv_mod [] S S' ∧ (-1 ≤ r ∧ r ≤ 172)
set_option maxHeartbeats 2000000 in
theorem f_keywordAt : ∀ (p1 : Int) (p2 : Int) (S : sv_S), sm_ok S → sv_R p1 → sv_R p2 → (0 ≤ (S 1004 0) ∧ (S 1004 0) ≤ 4000 ∧ 0 ≤ p1 ∧ 0 ≤ p2 ∧ p1 + p2 ≤ 4000 ∧ (∀ k : Int, p1 ≤ k → k < p1 + p2 → (if k < (S 1004 0) then (S 2 k) % 256 else 0) ≠ 32)) → ((0 ≤ (0 : Int) ∧ 0 ≤ (0 : Int) ∧ (0 : Int) ≤ (0 : Int) ∧ (0 : Int) ≤ 172) ∧ (∀ l3_1 : Int, sv_R l3_1 → ∀ l4_2 : Int, sv_R l4_2 → (0 ≤ l3_1 ∧ 0 ≤ l4_2 ∧ l3_1 ≤ l4_2 ∧ l4_2 ≤ 172) → (0 ≤ 172 - l4_2) ∧ ((((172 : Int) ≤ l4_2) → (-1 ≤ (-1 : Int) ∧ (-1 : Int) ≤ 172)) ∧ ((¬ ((172 : Int) ≤ l4_2)) → ((0 ≤ (0 : Int) ∧ (0 : Int) ≤ p2 ∧ l4_2 + (0 : Int) ≤ 171 ∧ 0 ≤ l3_1 ∧ 0 ≤ l4_2 ∧ l3_1 ≤ l4_2 ∧ l4_2 ≤ 171) ∧ (∀ l5_6 : Int, sv_R l5_6 → (0 ≤ l5_6 ∧ l5_6 ≤ p2 ∧ l4_2 + l5_6 ≤ 171 ∧ 0 ≤ l3_1 ∧ 0 ≤ l4_2 ∧ l3_1 ≤ l4_2 ∧ l4_2 ≤ 171) → (0 ≤ p2 - l5_6) ∧ (((p2 ≤ l5_6) → (((¬ l5_6 = p2) → ((l4_2 ≤ l4_2 ∧ 0 ≤ l3_1 ∧ 0 ≤ l4_2 ∧ l3_1 ≤ l4_2 ∧ l4_2 ≤ 171) ∧ (∀ l4_10 : Int, sv_R l4_10 → (l4_2 ≤ l4_10 ∧ 0 ≤ l3_1 ∧ 0 ≤ l4_10 ∧ l3_1 ≤ l4_10 ∧ l4_10 ≤ 171) → (0 ≤ 172 - l4_10) ∧ (0 ≤ l4_10 ∧ l4_10 < 172) ∧ (∀ r14 : Int, sv_R r14 → (sm_c901 l4_10) = r14 → (((r14 = (32 : Int)) → (sv_R (l3_1 + (1 : Int))) ∧ (sv_R (l4_10 + (1 : Int))) ∧ ((0 ≤ (l3_1 + (1 : Int)) ∧ 0 ≤ (l4_10 + (1 : Int)) ∧ (l3_1 + (1 : Int)) ≤ (l4_10 + (1 : Int)) ∧ (l4_10 + (1 : Int)) ≤ 172) ∧ (172 - (l4_10 + (1 : Int))) < (172 - l4_2))) ∧ ((¬ (r14 = (32 : Int))) → (sv_R (l4_10 + (1 : Int))) ∧ ((l4_2 ≤ (l4_10 + (1 : Int)) ∧ 0 ≤ l3_1 ∧ 0 ≤ (l4_10 + (1 : Int)) ∧ l3_1 ≤ (l4_10 + (1 : Int)) ∧ (l4_10 + (1 : Int)) ≤ 171) ∧ (172 - (l4_10 + (1 : Int))) < (172 - l4_10)))))))) ∧ ((¬ (¬ l5_6 = p2)) → (0 ≤ (l4_2 + p2) ∧ (l4_2 + p2) < 172) ∧ (∀ r19 : Int, sv_R r19 → (sm_c901 (l4_2 + p2)) = r19 → (((¬ r19 = (32 : Int)) → ((l4_2 ≤ l4_2 ∧ 0 ≤ l3_1 ∧ 0 ≤ l4_2 ∧ l3_1 ≤ l4_2 ∧ l4_2 ≤ 171) ∧ (∀ l4_21 : Int, sv_R l4_21 → (l4_2 ≤ l4_21 ∧ 0 ≤ l3_1 ∧ 0 ≤ l4_21 ∧ l3_1 ≤ l4_21 ∧ l4_21 ≤ 171) → (0 ≤ 172 - l4_21) ∧ (0 ≤ l4_21 ∧ l4_21 < 172) ∧ (∀ r25 : Int, sv_R r25 → (sm_c901 l4_21) = r25 → (((r25 = (32 : Int)) → (sv_R (l3_1 + (1 : Int))) ∧ (sv_R (l4_21 + (1 : Int))) ∧ ((0 ≤ (l3_1 + (1 : Int)) ∧ 0 ≤ (l4_21 + (1 : Int)) ∧ (l3_1 + (1 : Int)) ≤ (l4_21 + (1 : Int)) ∧ (l4_21 + (1 : Int)) ≤ 172) ∧ (172 - (l4_21 + (1 : Int))) < (172 - l4_2))) ∧ ((¬ (r25 = (32 : Int))) → (sv_R (l4_21 + (1 : Int))) ∧ ((l4_2 ≤ (l4_21 + (1 : Int)) ∧ 0 ≤ l3_1 ∧ 0 ≤ (l4_21 + (1 : Int)) ∧ l3_1 ≤ (l4_21 + (1 : Int)) ∧ (l4_21 + (1 : Int)) ≤ 171) ∧ (172 - (l4_21 + (1 : Int))) < (172 - l4_21)))))))) ∧ ((¬ (¬ r19 = (32 : Int))) → (-1 ≤ l3_1 ∧ l3_1 ≤ 172))))))) ∧ ((¬ (p2 ≤ l5_6)) → (0 ≤ (l4_2 + l5_6) ∧ (l4_2 + l5_6) < 172) ∧ (∀ r30 : Int, sv_R r30 → (sm_c901 (l4_2 + l5_6)) = r30 → (sv_R (p1 + l5_6)) ∧ (0 ≤ (S 1004 0) ∧ (S 1004 0) ≤ 4000 ∧ 0 ≤ (p1 + l5_6)) ∧ (sv_R ((if (p1 + l5_6) < (S 1004 0) then (S 2 (p1 + l5_6)) % 256 else 0))) ∧ (((¬ r30 = ((if (p1 + l5_6) < (S 1004 0) then (S 2 (p1 + l5_6)) % 256 else 0))) → (((¬ l5_6 = p2) → ((l4_2 ≤ l4_2 ∧ 0 ≤ l3_1 ∧ 0 ≤ l4_2 ∧ l3_1 ≤ l4_2 ∧ l4_2 ≤ 171) ∧ (∀ l4_35 : Int, sv_R l4_35 → (l4_2 ≤ l4_35 ∧ 0 ≤ l3_1 ∧ 0 ≤ l4_35 ∧ l3_1 ≤ l4_35 ∧ l4_35 ≤ 171) → (0 ≤ 172 - l4_35) ∧ (0 ≤ l4_35 ∧ l4_35 < 172) ∧ (∀ r39 : Int, sv_R r39 → (sm_c901 l4_35) = r39 → (((r39 = (32 : Int)) → (sv_R (l3_1 + (1 : Int))) ∧ (sv_R (l4_35 + (1 : Int))) ∧ ((0 ≤ (l3_1 + (1 : Int)) ∧ 0 ≤ (l4_35 + (1 : Int)) ∧ (l3_1 + (1 : Int)) ≤ (l4_35 + (1 : Int)) ∧ (l4_35 + (1 : Int)) ≤ 172) ∧ (172 - (l4_35 + (1 : Int))) < (172 - l4_2))) ∧ ((¬ (r39 = (32 : Int))) → (sv_R (l4_35 + (1 : Int))) ∧ ((l4_2 ≤ (l4_35 + (1 : Int)) ∧ 0 ≤ l3_1 ∧ 0 ≤ (l4_35 + (1 : Int)) ∧ l3_1 ≤ (l4_35 + (1 : Int)) ∧ (l4_35 + (1 : Int)) ≤ 171) ∧ (172 - (l4_35 + (1 : Int))) < (172 - l4_35)))))))) ∧ ((¬ (¬ l5_6 = p2)) → (0 ≤ (l4_2 + p2) ∧ (l4_2 + p2) < 172) ∧ (∀ r44 : Int, sv_R r44 → (sm_c901 (l4_2 + p2)) = r44 → (((¬ r44 = (32 : Int)) → ((l4_2 ≤ l4_2 ∧ 0 ≤ l3_1 ∧ 0 ≤ l4_2 ∧ l3_1 ≤ l4_2 ∧ l4_2 ≤ 171) ∧ (∀ l4_46 : Int, sv_R l4_46 → (l4_2 ≤ l4_46 ∧ 0 ≤ l3_1 ∧ 0 ≤ l4_46 ∧ l3_1 ≤ l4_46 ∧ l4_46 ≤ 171) → (0 ≤ 172 - l4_46) ∧ (0 ≤ l4_46 ∧ l4_46 < 172) ∧ (∀ r50 : Int, sv_R r50 → (sm_c901 l4_46) = r50 → (((r50 = (32 : Int)) → (sv_R (l3_1 + (1 : Int))) ∧ (sv_R (l4_46 + (1 : Int))) ∧ ((0 ≤ (l3_1 + (1 : Int)) ∧ 0 ≤ (l4_46 + (1 : Int)) ∧ (l3_1 + (1 : Int)) ≤ (l4_46 + (1 : Int)) ∧ (l4_46 + (1 : Int)) ≤ 172) ∧ (172 - (l4_46 + (1 : Int))) < (172 - l4_2))) ∧ ((¬ (r50 = (32 : Int))) → (sv_R (l4_46 + (1 : Int))) ∧ ((l4_2 ≤ (l4_46 + (1 : Int)) ∧ 0 ≤ l3_1 ∧ 0 ≤ (l4_46 + (1 : Int)) ∧ l3_1 ≤ (l4_46 + (1 : Int)) ∧ (l4_46 + (1 : Int)) ≤ 171) ∧ (172 - (l4_46 + (1 : Int))) < (172 - l4_46)))))))) ∧ ((¬ (¬ r44 = (32 : Int))) → (-1 ≤ l3_1 ∧ l3_1 ≤ 172))))))) ∧ ((¬ (¬ r30 = ((if (p1 + l5_6) < (S 1004 0) then (S 2 (p1 + l5_6)) % 256 else 0)))) → (sv_R (l5_6 + (1 : Int))) ∧ ((0 ≤ (l5_6 + (1 : Int)) ∧ (l5_6 + (1 : Int)) ≤ p2 ∧ l4_2 + (l5_6 + (1 : Int)) ≤ 171 ∧ 0 ≤ l3_1 ∧ 0 ≤ l4_2 ∧ l3_1 ≤ l4_2 ∧ l4_2 ≤ 171) ∧ (p2 - (l5_6 + (1 : Int))) < (p2 - l5_6))))))))))))) := by
  intro p1 p2 S hok hp1 hp2 hpre
  repeat' (first | (refine And.intro ?_ ?_) | (intro _))
  all_goals first | omega | grind [= sm_e901]
set_option maxRecDepth 8000 in
set_option maxHeartbeats 2000000 in
theorem t_keywordAt : ∀ (p1 : Int) (p2 : Int) (S : sv_S), sm_ok S → sv_R p1 → sv_R p2 → (0 ≤ (S 1004 0) ∧ (S 1004 0) ≤ 4000 ∧ 0 ≤ p1 ∧ 0 ≤ p2 ∧ p1 + p2 ≤ 4000 ∧ (∀ k : Int, p1 ≤ k → k < p1 + p2 → (if k < (S 1004 0) then (S 2 k) % 256 else 0) ≠ 32)) → sv_T sm_XS sm_cs sm_L sm_sh 4 (q_keywordAt p1 p2 S) 19 0 (lv_args 0 [.ref 0, sv_I p1, sv_I p2]) [] S := by
  intro p1 p2 S hok hp1 hp2 hpre
  have h := f_keywordAt p1 p2 S hok hp1 hp2 hpre
  have hM := sm_h19
  show sv_T sm_XS sm_cs sm_L sm_sh 4 (q_keywordAt p1 p2 S) 19 0 [(0, .ref 0), (1, sv_I p1), (2, sv_I p2)] [] S
  refine sv_iconst (d := (0 : Int)) hM dX12_keywordAt_0 rfl rfl ?_
  refine sv_istore_n hM dX12_keywordAt_1 (by decide) rfl ?_
  show sv_T sm_XS sm_cs sm_L sm_sh 4 (q_keywordAt p1 p2 S) 19 2 [(0, .ref 0), (1, sv_I p1), (2, sv_I p2), (3, sv_I (0 : Int))] [] S
  refine sv_iconst (d := (0 : Int)) hM dX12_keywordAt_2 rfl rfl ?_
  refine sv_istore hM dX12_keywordAt_3 (by decide) rfl ?_
  show sv_T sm_XS sm_cs sm_L sm_sh 4 (q_keywordAt p1 p2 S) 19 5 [(0, .ref 0), (1, sv_I p1), (2, sv_I p2), (3, sv_I (0 : Int)), (4, sv_I (0 : Int))] [] S
  obtain ⟨hin4, h⟩ := h
  have hJ : ∀ a : Int × Int × Unit, (sv_R a.1 ∧ sv_R a.2.1 ∧ sm_ok S ∧ (0 ≤ a.1 ∧ 0 ≤ a.2.1 ∧ a.1 ≤ a.2.1 ∧ a.2.1 ≤ 172)) → sv_T sm_XS sm_cs sm_L sm_sh 4 (q_keywordAt p1 p2 S) 19 5 [(0, .ref 0), (1, sv_I p1), (2, sv_I p2), (3, sv_I a.1), (4, sv_I a.2.1)] [] S := by
    refine sv_loop (α := Int × Int × Unit) (fun a => sv_R a.1 ∧ sv_R a.2.1 ∧ sm_ok S ∧ (0 ≤ a.1 ∧ 0 ≤ a.2.1 ∧ a.1 ≤ a.2.1 ∧ a.2.1 ≤ 172)) (fun a => 172 - a.2.1) (fun a => sv_T sm_XS sm_cs sm_L sm_sh 4 (q_keywordAt p1 p2 S) 19 5 [(0, .ref 0), (1, sv_I p1), (2, sv_I p2), (3, sv_I a.1), (4, sv_I a.2.1)] [] S) (fun a q => (h a.1 q.1 a.2.1 q.2.1 q.2.2.2).1) (fun a q ih3 => ?_)
    obtain ⟨l3_1, l4_2, _u⟩ := a
    obtain ⟨hl3_1, hl4_2, ok5, hin4i⟩ := q
    have h := (h l3_1 hl3_1 l4_2 hl4_2 hin4i).2
    show sv_T sm_XS sm_cs sm_L sm_sh 4 (q_keywordAt p1 p2 S) 19 5 [(0, .ref 0), (1, sv_I p1), (2, sv_I p2), (3, sv_I l3_1), (4, sv_I l4_2)] [] S
    refine sv_iload hM dX12_keywordAt_5 rfl rfl ?_
    refine sv_ldc_wA hM dX12_keywordAt_7 sm_ck_379 rfl ?_
    refine sv_strlen hM dX12_keywordAt_10 sm_iv_315 (bs := sm_s901) sm_x901 sm_h1001 (Nat.le_of_ble_eq_true rfl) (Nat.le_of_ble_eq_true rfl) rfl (r := (172 : Int)) sm_z901 ?_
    refine sv_icmp_ge hM dX12_keywordAt_13 hl4_2 (⟨by decide, by decide⟩ : sv_R (172 : Int)) (t := 104) rfl rfl (fun hc => ?_) (fun hc => ?_)
    · have h := h.1 (hc)
      refine sv_iconst (d := (-1 : Int)) hM dX12_keywordAt_104 rfl rfl ?_
      exact sv_iret hM dX12_keywordAt_105 rfl rfl ⟨(-1 : Int), rfl, (⟨by decide, by decide⟩ : sv_R (-1 : Int)), ok5, sv_mod.rf, h⟩
    · have h := h.2 (hc)
      refine sv_iconst (d := (0 : Int)) hM dX12_keywordAt_16 rfl rfl ?_
      refine sv_istore hM dX12_keywordAt_17 (by decide) rfl ?_
      show sv_T sm_XS sm_cs sm_L sm_sh 4 (q_keywordAt p1 p2 S) 19 19 [(0, .ref 0), (1, sv_I p1), (2, sv_I p2), (3, sv_I l3_1), (4, sv_I l4_2), (5, sv_I (0 : Int))] [] S
      obtain ⟨hin8, h⟩ := h
      have hJ : ∀ a : Int × Unit, (sv_R a.1 ∧ sm_ok S ∧ (0 ≤ a.1 ∧ a.1 ≤ p2 ∧ l4_2 + a.1 ≤ 171 ∧ 0 ≤ l3_1 ∧ 0 ≤ l4_2 ∧ l3_1 ≤ l4_2 ∧ l4_2 ≤ 171)) → sv_T sm_XS sm_cs sm_L sm_sh 4 (q_keywordAt p1 p2 S) 19 19 [(0, .ref 0), (1, sv_I p1), (2, sv_I p2), (3, sv_I l3_1), (4, sv_I l4_2), (5, sv_I a.1)] [] S := by
        refine sv_loop (α := Int × Unit) (fun a => sv_R a.1 ∧ sm_ok S ∧ (0 ≤ a.1 ∧ a.1 ≤ p2 ∧ l4_2 + a.1 ≤ 171 ∧ 0 ≤ l3_1 ∧ 0 ≤ l4_2 ∧ l3_1 ≤ l4_2 ∧ l4_2 ≤ 171)) (fun a => p2 - a.1) (fun a => sv_T sm_XS sm_cs sm_L sm_sh 4 (q_keywordAt p1 p2 S) 19 19 [(0, .ref 0), (1, sv_I p1), (2, sv_I p2), (3, sv_I l3_1), (4, sv_I l4_2), (5, sv_I a.1)] [] S) (fun a q => (h a.1 q.1 q.2.2).1) (fun a q ih7 => ?_)
        obtain ⟨l5_6, _u⟩ := a
        obtain ⟨hl5_6, ok9, hin8i⟩ := q
        have h := (h l5_6 hl5_6 hin8i).2
        show sv_T sm_XS sm_cs sm_L sm_sh 4 (q_keywordAt p1 p2 S) 19 19 [(0, .ref 0), (1, sv_I p1), (2, sv_I p2), (3, sv_I l3_1), (4, sv_I l4_2), (5, sv_I l5_6)] [] S
        refine sv_iload hM dX12_keywordAt_19 rfl rfl ?_
        refine sv_iload_n hM dX12_keywordAt_21 rfl rfl ?_
        refine sv_icmp_ge hM dX12_keywordAt_22 hl5_6 hp2 (t := 53) rfl rfl (fun hc => ?_) (fun hc => ?_)
        · have h := h.1 (hc)
          refine sv_iload hM dX12_keywordAt_53 rfl rfl ?_
          refine sv_iload_n hM dX12_keywordAt_55 rfl rfl ?_
          refine sv_icmp_ne hM dX12_keywordAt_56 hl5_6 hp2 (t := 76) rfl rfl (fun hc => ?_) (fun hc => ?_)
          · have h := h.1 (hc)
            obtain ⟨hin12, h⟩ := h
            have hJ : ∀ a : Int × Unit, (sv_R a.1 ∧ sm_ok S ∧ (l4_2 ≤ a.1 ∧ 0 ≤ l3_1 ∧ 0 ≤ a.1 ∧ l3_1 ≤ a.1 ∧ a.1 ≤ 171)) → sv_T sm_XS sm_cs sm_L sm_sh 4 (q_keywordAt p1 p2 S) 19 76 [(0, .ref 0), (1, sv_I p1), (2, sv_I p2), (3, sv_I l3_1), (4, sv_I a.1), (5, sv_I l5_6)] [] S := by
              refine sv_loop (α := Int × Unit) (fun a => sv_R a.1 ∧ sm_ok S ∧ (l4_2 ≤ a.1 ∧ 0 ≤ l3_1 ∧ 0 ≤ a.1 ∧ l3_1 ≤ a.1 ∧ a.1 ≤ 171)) (fun a => 172 - a.1) (fun a => sv_T sm_XS sm_cs sm_L sm_sh 4 (q_keywordAt p1 p2 S) 19 76 [(0, .ref 0), (1, sv_I p1), (2, sv_I p2), (3, sv_I l3_1), (4, sv_I a.1), (5, sv_I l5_6)] [] S) (fun a q => (h a.1 q.1 q.2.2).1) (fun a q ih11 => ?_)
              obtain ⟨l4_10, _u⟩ := a
              obtain ⟨hl4_10, ok13, hin12i⟩ := q
              have h := (h l4_10 hl4_10 hin12i).2
              show sv_T sm_XS sm_cs sm_L sm_sh 4 (q_keywordAt p1 p2 S) 19 76 [(0, .ref 0), (1, sv_I p1), (2, sv_I p2), (3, sv_I l3_1), (4, sv_I l4_10), (5, sv_I l5_6)] [] S
              refine sv_ldc_wA hM dX12_keywordAt_76 sm_ck_379 rfl ?_
              refine sv_iload hM dX12_keywordAt_79 rfl rfl ?_
              obtain ⟨o15, h⟩ := h
              obtain ⟨r14, hr14, er14⟩ : ∃ r : Int, sv_R r ∧ (sm_c901 l4_10) = r := ⟨_, sv_RI (sm_s901.getD (l4_10).toNat 0), rfl⟩
              have h := h r14 hr14 er14
              refine sv_charAt hM dX12_keywordAt_81 sm_iv_320 (bs := sm_s901) sm_x901 sm_h1000 o15.1 (by rw [sm_z901]; exact o15.2) sm_y901 (Nat.le_of_ble_eq_true rfl) (Nat.le_of_ble_eq_true rfl) rfl er14 ?_
              refine sv_bipush (d := (32 : Int)) hM dX12_keywordAt_84 rfl rfl ?_
              refine sv_icmp_eq hM dX12_keywordAt_86 hr14 (⟨by decide, by decide⟩ : sv_R (32 : Int)) (t := 95) rfl rfl (fun hc => ?_) (fun hc => ?_)
              · have h := h.1 (hc)
                refine sv_iinc (d := (1 : Int)) hM dX12_keywordAt_95 rfl (by decide) rfl rfl ?_
                show sv_T sm_XS sm_cs sm_L sm_sh 4 (q_keywordAt p1 p2 S) 19 98 [(0, .ref 0), (1, sv_I p1), (2, sv_I p2), (3, sv_I l3_1), (4, sv_I (l4_10 + (1 : Int))), (5, sv_I l5_6)] [] S
                refine sv_iinc (d := (1 : Int)) hM dX12_keywordAt_98 rfl (by decide) rfl rfl ?_
                show sv_T sm_XS sm_cs sm_L sm_sh 4 (q_keywordAt p1 p2 S) 19 101 [(0, .ref 0), (1, sv_I p1), (2, sv_I p2), (3, sv_I (l3_1 + (1 : Int))), (4, sv_I (l4_10 + (1 : Int))), (5, sv_I l5_6)] [] S
                refine sv_goto hM dX12_keywordAt_101 (pc' := 5) rfl ?_
                obtain ⟨o16, h⟩ := h
                obtain ⟨o17, h⟩ := h
                have hb := ih3 ((l3_1 + (1 : Int)), (l4_10 + (1 : Int)), ()) ⟨o16, o17, ok13, h.1⟩ h.2
                exact sv_less (lv := [(0, .ref 0), (1, sv_I p1), (2, sv_I p2), (3, sv_I (l3_1 + (1 : Int))), (4, sv_I (l4_10 + (1 : Int)))]) (sv_Sub_cons rfl (sv_Sub_cons rfl (sv_Sub_cons rfl (sv_Sub_cons rfl (sv_Sub_cons rfl sv_Sub_nil))))) hb
              · have h := h.2 (hc)
                refine sv_iinc (d := (1 : Int)) hM dX12_keywordAt_89 rfl (by decide) rfl rfl ?_
                show sv_T sm_XS sm_cs sm_L sm_sh 4 (q_keywordAt p1 p2 S) 19 92 [(0, .ref 0), (1, sv_I p1), (2, sv_I p2), (3, sv_I l3_1), (4, sv_I (l4_10 + (1 : Int))), (5, sv_I l5_6)] [] S
                refine sv_goto hM dX12_keywordAt_92 (pc' := 76) rfl ?_
                obtain ⟨o18, h⟩ := h
                have hb := ih11 ((l4_10 + (1 : Int)), ()) ⟨o18, ok13, h.1⟩ h.2
                exact sv_less (lv := [(0, .ref 0), (1, sv_I p1), (2, sv_I p2), (3, sv_I l3_1), (4, sv_I (l4_10 + (1 : Int))), (5, sv_I l5_6)]) (sv_Sub_cons rfl (sv_Sub_cons rfl (sv_Sub_cons rfl (sv_Sub_cons rfl (sv_Sub_cons rfl (sv_Sub_cons rfl sv_Sub_nil)))))) hb
            exact hJ (l4_2, ()) ⟨hl4_2, ok9, hin12⟩
          · have h := h.2 (hc)
            refine sv_ldc_wA hM dX12_keywordAt_59 sm_ck_379 rfl ?_
            refine sv_iload hM dX12_keywordAt_62 rfl rfl ?_
            refine sv_iload_n hM dX12_keywordAt_64 rfl rfl ?_
            refine sv_iadd hM dX12_keywordAt_65 rfl ?_
            obtain ⟨o20, h⟩ := h
            obtain ⟨r19, hr19, er19⟩ : ∃ r : Int, sv_R r ∧ (sm_c901 (l4_2 + p2)) = r := ⟨_, sv_RI (sm_s901.getD ((l4_2 + p2)).toNat 0), rfl⟩
            have h := h r19 hr19 er19
            refine sv_charAt hM dX12_keywordAt_66 sm_iv_320 (bs := sm_s901) sm_x901 sm_h1000 o20.1 (by rw [sm_z901]; exact o20.2) sm_y901 (Nat.le_of_ble_eq_true rfl) (Nat.le_of_ble_eq_true rfl) rfl er19 ?_
            refine sv_bipush (d := (32 : Int)) hM dX12_keywordAt_69 rfl rfl ?_
            refine sv_icmp_ne hM dX12_keywordAt_71 hr19 (⟨by decide, by decide⟩ : sv_R (32 : Int)) (t := 76) rfl rfl (fun hc => ?_) (fun hc => ?_)
            · have h := h.1 (hc)
              obtain ⟨hin23, h⟩ := h
              have hJ : ∀ a : Int × Unit, (sv_R a.1 ∧ sm_ok S ∧ (l4_2 ≤ a.1 ∧ 0 ≤ l3_1 ∧ 0 ≤ a.1 ∧ l3_1 ≤ a.1 ∧ a.1 ≤ 171)) → sv_T sm_XS sm_cs sm_L sm_sh 4 (q_keywordAt p1 p2 S) 19 76 [(0, .ref 0), (1, sv_I p1), (2, sv_I p2), (3, sv_I l3_1), (4, sv_I a.1), (5, sv_I l5_6)] [] S := by
                refine sv_loop (α := Int × Unit) (fun a => sv_R a.1 ∧ sm_ok S ∧ (l4_2 ≤ a.1 ∧ 0 ≤ l3_1 ∧ 0 ≤ a.1 ∧ l3_1 ≤ a.1 ∧ a.1 ≤ 171)) (fun a => 172 - a.1) (fun a => sv_T sm_XS sm_cs sm_L sm_sh 4 (q_keywordAt p1 p2 S) 19 76 [(0, .ref 0), (1, sv_I p1), (2, sv_I p2), (3, sv_I l3_1), (4, sv_I a.1), (5, sv_I l5_6)] [] S) (fun a q => (h a.1 q.1 q.2.2).1) (fun a q ih22 => ?_)
                obtain ⟨l4_21, _u⟩ := a
                obtain ⟨hl4_21, ok24, hin23i⟩ := q
                have h := (h l4_21 hl4_21 hin23i).2
                show sv_T sm_XS sm_cs sm_L sm_sh 4 (q_keywordAt p1 p2 S) 19 76 [(0, .ref 0), (1, sv_I p1), (2, sv_I p2), (3, sv_I l3_1), (4, sv_I l4_21), (5, sv_I l5_6)] [] S
                refine sv_ldc_wA hM dX12_keywordAt_76 sm_ck_379 rfl ?_
                refine sv_iload hM dX12_keywordAt_79 rfl rfl ?_
                obtain ⟨o26, h⟩ := h
                obtain ⟨r25, hr25, er25⟩ : ∃ r : Int, sv_R r ∧ (sm_c901 l4_21) = r := ⟨_, sv_RI (sm_s901.getD (l4_21).toNat 0), rfl⟩
                have h := h r25 hr25 er25
                refine sv_charAt hM dX12_keywordAt_81 sm_iv_320 (bs := sm_s901) sm_x901 sm_h1000 o26.1 (by rw [sm_z901]; exact o26.2) sm_y901 (Nat.le_of_ble_eq_true rfl) (Nat.le_of_ble_eq_true rfl) rfl er25 ?_
                refine sv_bipush (d := (32 : Int)) hM dX12_keywordAt_84 rfl rfl ?_
                refine sv_icmp_eq hM dX12_keywordAt_86 hr25 (⟨by decide, by decide⟩ : sv_R (32 : Int)) (t := 95) rfl rfl (fun hc => ?_) (fun hc => ?_)
                · have h := h.1 (hc)
                  refine sv_iinc (d := (1 : Int)) hM dX12_keywordAt_95 rfl (by decide) rfl rfl ?_
                  show sv_T sm_XS sm_cs sm_L sm_sh 4 (q_keywordAt p1 p2 S) 19 98 [(0, .ref 0), (1, sv_I p1), (2, sv_I p2), (3, sv_I l3_1), (4, sv_I (l4_21 + (1 : Int))), (5, sv_I l5_6)] [] S
                  refine sv_iinc (d := (1 : Int)) hM dX12_keywordAt_98 rfl (by decide) rfl rfl ?_
                  show sv_T sm_XS sm_cs sm_L sm_sh 4 (q_keywordAt p1 p2 S) 19 101 [(0, .ref 0), (1, sv_I p1), (2, sv_I p2), (3, sv_I (l3_1 + (1 : Int))), (4, sv_I (l4_21 + (1 : Int))), (5, sv_I l5_6)] [] S
                  refine sv_goto hM dX12_keywordAt_101 (pc' := 5) rfl ?_
                  obtain ⟨o27, h⟩ := h
                  obtain ⟨o28, h⟩ := h
                  have hb := ih3 ((l3_1 + (1 : Int)), (l4_21 + (1 : Int)), ()) ⟨o27, o28, ok24, h.1⟩ h.2
                  exact sv_less (lv := [(0, .ref 0), (1, sv_I p1), (2, sv_I p2), (3, sv_I (l3_1 + (1 : Int))), (4, sv_I (l4_21 + (1 : Int)))]) (sv_Sub_cons rfl (sv_Sub_cons rfl (sv_Sub_cons rfl (sv_Sub_cons rfl (sv_Sub_cons rfl sv_Sub_nil))))) hb
                · have h := h.2 (hc)
                  refine sv_iinc (d := (1 : Int)) hM dX12_keywordAt_89 rfl (by decide) rfl rfl ?_
                  show sv_T sm_XS sm_cs sm_L sm_sh 4 (q_keywordAt p1 p2 S) 19 92 [(0, .ref 0), (1, sv_I p1), (2, sv_I p2), (3, sv_I l3_1), (4, sv_I (l4_21 + (1 : Int))), (5, sv_I l5_6)] [] S
                  refine sv_goto hM dX12_keywordAt_92 (pc' := 76) rfl ?_
                  obtain ⟨o29, h⟩ := h
                  have hb := ih22 ((l4_21 + (1 : Int)), ()) ⟨o29, ok24, h.1⟩ h.2
                  exact sv_less (lv := [(0, .ref 0), (1, sv_I p1), (2, sv_I p2), (3, sv_I l3_1), (4, sv_I (l4_21 + (1 : Int))), (5, sv_I l5_6)]) (sv_Sub_cons rfl (sv_Sub_cons rfl (sv_Sub_cons rfl (sv_Sub_cons rfl (sv_Sub_cons rfl (sv_Sub_cons rfl sv_Sub_nil)))))) hb
              exact hJ (l4_2, ()) ⟨hl4_2, ok9, hin23⟩
            · have h := h.2 (hc)
              refine sv_iload_n hM dX12_keywordAt_74 rfl rfl ?_
              exact sv_iret hM dX12_keywordAt_75 rfl rfl ⟨l3_1, rfl, hl3_1, ok9, sv_mod.rf, h⟩
        · have h := h.2 (hc)
          refine sv_ldc_wA hM dX12_keywordAt_25 sm_ck_379 rfl ?_
          refine sv_iload hM dX12_keywordAt_28 rfl rfl ?_
          refine sv_iload hM dX12_keywordAt_30 rfl rfl ?_
          refine sv_iadd hM dX12_keywordAt_32 rfl ?_
          obtain ⟨o31, h⟩ := h
          obtain ⟨r30, hr30, er30⟩ : ∃ r : Int, sv_R r ∧ (sm_c901 (l4_2 + l5_6)) = r := ⟨_, sv_RI (sm_s901.getD ((l4_2 + l5_6)).toNat 0), rfl⟩
          have h := h r30 hr30 er30
          refine sv_charAt hM dX12_keywordAt_33 sm_iv_320 (bs := sm_s901) sm_x901 sm_h1000 o31.1 (by rw [sm_z901]; exact o31.2) sm_y901 (Nat.le_of_ble_eq_true rfl) (Nat.le_of_ble_eq_true rfl) rfl er30 ?_
          refine sv_aload_n hM dX12_keywordAt_36 rfl rfl ?_
          refine sv_iload_n hM dX12_keywordAt_37 rfl rfl ?_
          refine sv_iload hM dX12_keywordAt_38 rfl rfl ?_
          refine sv_iadd hM dX12_keywordAt_40 rfl ?_
          obtain ⟨o32, h⟩ := h
          obtain ⟨o33, h⟩ := h
          refine sv_callV hM dX12_keywordAt_41 sm_iv_334 (by decide) (sm_a0 _) rfl rfl (Nat.le_of_ble_eq_true rfl) sm_h10 (Nat.le_of_ble_eq_true rfl) (Nat.le_of_ble_eq_true rfl) (F' := 0) (Nat.le_of_ble_eq_true rfl) rfl (t_look (p1 + l5_6) S ok9 o32 o33) (fun v S1 hq => ?_)
          obtain ⟨rfl, hS1⟩ := hq
          obtain rfl : S = S1 := hS1.symm
          show sv_T sm_XS sm_cs sm_L sm_sh 4 (q_keywordAt p1 p2 S) 19 44 [(0, .ref 0), (1, sv_I p1), (2, sv_I p2), (3, sv_I l3_1), (4, sv_I l4_2), (5, sv_I l5_6)] [sv_I ((if (p1 + l5_6) < (S 1004 0) then (S 2 (p1 + l5_6)) % 256 else 0)), sv_I r30] S
          obtain ⟨o34, h⟩ := h
          refine sv_icmp_ne hM dX12_keywordAt_44 hr30 o34 (t := 53) rfl rfl (fun hc => ?_) (fun hc => ?_)
          · have h := h.1 (hc)
            refine sv_iload hM dX12_keywordAt_53 rfl rfl ?_
            refine sv_iload_n hM dX12_keywordAt_55 rfl rfl ?_
            refine sv_icmp_ne hM dX12_keywordAt_56 hl5_6 hp2 (t := 76) rfl rfl (fun hc => ?_) (fun hc => ?_)
            · have h := h.1 (hc)
              obtain ⟨hin37, h⟩ := h
              have hJ : ∀ a : Int × Unit, (sv_R a.1 ∧ sm_ok S ∧ (l4_2 ≤ a.1 ∧ 0 ≤ l3_1 ∧ 0 ≤ a.1 ∧ l3_1 ≤ a.1 ∧ a.1 ≤ 171)) → sv_T sm_XS sm_cs sm_L sm_sh 4 (q_keywordAt p1 p2 S) 19 76 [(0, .ref 0), (1, sv_I p1), (2, sv_I p2), (3, sv_I l3_1), (4, sv_I a.1), (5, sv_I l5_6)] [] S := by
                refine sv_loop (α := Int × Unit) (fun a => sv_R a.1 ∧ sm_ok S ∧ (l4_2 ≤ a.1 ∧ 0 ≤ l3_1 ∧ 0 ≤ a.1 ∧ l3_1 ≤ a.1 ∧ a.1 ≤ 171)) (fun a => 172 - a.1) (fun a => sv_T sm_XS sm_cs sm_L sm_sh 4 (q_keywordAt p1 p2 S) 19 76 [(0, .ref 0), (1, sv_I p1), (2, sv_I p2), (3, sv_I l3_1), (4, sv_I a.1), (5, sv_I l5_6)] [] S) (fun a q => (h a.1 q.1 q.2.2).1) (fun a q ih36 => ?_)
                obtain ⟨l4_35, _u⟩ := a
                obtain ⟨hl4_35, ok38, hin37i⟩ := q
                have h := (h l4_35 hl4_35 hin37i).2
                show sv_T sm_XS sm_cs sm_L sm_sh 4 (q_keywordAt p1 p2 S) 19 76 [(0, .ref 0), (1, sv_I p1), (2, sv_I p2), (3, sv_I l3_1), (4, sv_I l4_35), (5, sv_I l5_6)] [] S
                refine sv_ldc_wA hM dX12_keywordAt_76 sm_ck_379 rfl ?_
                refine sv_iload hM dX12_keywordAt_79 rfl rfl ?_
                obtain ⟨o40, h⟩ := h
                obtain ⟨r39, hr39, er39⟩ : ∃ r : Int, sv_R r ∧ (sm_c901 l4_35) = r := ⟨_, sv_RI (sm_s901.getD (l4_35).toNat 0), rfl⟩
                have h := h r39 hr39 er39
                refine sv_charAt hM dX12_keywordAt_81 sm_iv_320 (bs := sm_s901) sm_x901 sm_h1000 o40.1 (by rw [sm_z901]; exact o40.2) sm_y901 (Nat.le_of_ble_eq_true rfl) (Nat.le_of_ble_eq_true rfl) rfl er39 ?_
                refine sv_bipush (d := (32 : Int)) hM dX12_keywordAt_84 rfl rfl ?_
                refine sv_icmp_eq hM dX12_keywordAt_86 hr39 (⟨by decide, by decide⟩ : sv_R (32 : Int)) (t := 95) rfl rfl (fun hc => ?_) (fun hc => ?_)
                · have h := h.1 (hc)
                  refine sv_iinc (d := (1 : Int)) hM dX12_keywordAt_95 rfl (by decide) rfl rfl ?_
                  show sv_T sm_XS sm_cs sm_L sm_sh 4 (q_keywordAt p1 p2 S) 19 98 [(0, .ref 0), (1, sv_I p1), (2, sv_I p2), (3, sv_I l3_1), (4, sv_I (l4_35 + (1 : Int))), (5, sv_I l5_6)] [] S
                  refine sv_iinc (d := (1 : Int)) hM dX12_keywordAt_98 rfl (by decide) rfl rfl ?_
                  show sv_T sm_XS sm_cs sm_L sm_sh 4 (q_keywordAt p1 p2 S) 19 101 [(0, .ref 0), (1, sv_I p1), (2, sv_I p2), (3, sv_I (l3_1 + (1 : Int))), (4, sv_I (l4_35 + (1 : Int))), (5, sv_I l5_6)] [] S
                  refine sv_goto hM dX12_keywordAt_101 (pc' := 5) rfl ?_
                  obtain ⟨o41, h⟩ := h
                  obtain ⟨o42, h⟩ := h
                  have hb := ih3 ((l3_1 + (1 : Int)), (l4_35 + (1 : Int)), ()) ⟨o41, o42, ok38, h.1⟩ h.2
                  exact sv_less (lv := [(0, .ref 0), (1, sv_I p1), (2, sv_I p2), (3, sv_I (l3_1 + (1 : Int))), (4, sv_I (l4_35 + (1 : Int)))]) (sv_Sub_cons rfl (sv_Sub_cons rfl (sv_Sub_cons rfl (sv_Sub_cons rfl (sv_Sub_cons rfl sv_Sub_nil))))) hb
                · have h := h.2 (hc)
                  refine sv_iinc (d := (1 : Int)) hM dX12_keywordAt_89 rfl (by decide) rfl rfl ?_
                  show sv_T sm_XS sm_cs sm_L sm_sh 4 (q_keywordAt p1 p2 S) 19 92 [(0, .ref 0), (1, sv_I p1), (2, sv_I p2), (3, sv_I l3_1), (4, sv_I (l4_35 + (1 : Int))), (5, sv_I l5_6)] [] S
                  refine sv_goto hM dX12_keywordAt_92 (pc' := 76) rfl ?_
                  obtain ⟨o43, h⟩ := h
                  have hb := ih36 ((l4_35 + (1 : Int)), ()) ⟨o43, ok38, h.1⟩ h.2
                  exact sv_less (lv := [(0, .ref 0), (1, sv_I p1), (2, sv_I p2), (3, sv_I l3_1), (4, sv_I (l4_35 + (1 : Int))), (5, sv_I l5_6)]) (sv_Sub_cons rfl (sv_Sub_cons rfl (sv_Sub_cons rfl (sv_Sub_cons rfl (sv_Sub_cons rfl (sv_Sub_cons rfl sv_Sub_nil)))))) hb
              exact hJ (l4_2, ()) ⟨hl4_2, ok9, hin37⟩
            · have h := h.2 (hc)
              refine sv_ldc_wA hM dX12_keywordAt_59 sm_ck_379 rfl ?_
              refine sv_iload hM dX12_keywordAt_62 rfl rfl ?_
              refine sv_iload_n hM dX12_keywordAt_64 rfl rfl ?_
              refine sv_iadd hM dX12_keywordAt_65 rfl ?_
              obtain ⟨o45, h⟩ := h
              obtain ⟨r44, hr44, er44⟩ : ∃ r : Int, sv_R r ∧ (sm_c901 (l4_2 + p2)) = r := ⟨_, sv_RI (sm_s901.getD ((l4_2 + p2)).toNat 0), rfl⟩
              have h := h r44 hr44 er44
              refine sv_charAt hM dX12_keywordAt_66 sm_iv_320 (bs := sm_s901) sm_x901 sm_h1000 o45.1 (by rw [sm_z901]; exact o45.2) sm_y901 (Nat.le_of_ble_eq_true rfl) (Nat.le_of_ble_eq_true rfl) rfl er44 ?_
              refine sv_bipush (d := (32 : Int)) hM dX12_keywordAt_69 rfl rfl ?_
              refine sv_icmp_ne hM dX12_keywordAt_71 hr44 (⟨by decide, by decide⟩ : sv_R (32 : Int)) (t := 76) rfl rfl (fun hc => ?_) (fun hc => ?_)
              · have h := h.1 (hc)
                obtain ⟨hin48, h⟩ := h
                have hJ : ∀ a : Int × Unit, (sv_R a.1 ∧ sm_ok S ∧ (l4_2 ≤ a.1 ∧ 0 ≤ l3_1 ∧ 0 ≤ a.1 ∧ l3_1 ≤ a.1 ∧ a.1 ≤ 171)) → sv_T sm_XS sm_cs sm_L sm_sh 4 (q_keywordAt p1 p2 S) 19 76 [(0, .ref 0), (1, sv_I p1), (2, sv_I p2), (3, sv_I l3_1), (4, sv_I a.1), (5, sv_I l5_6)] [] S := by
                  refine sv_loop (α := Int × Unit) (fun a => sv_R a.1 ∧ sm_ok S ∧ (l4_2 ≤ a.1 ∧ 0 ≤ l3_1 ∧ 0 ≤ a.1 ∧ l3_1 ≤ a.1 ∧ a.1 ≤ 171)) (fun a => 172 - a.1) (fun a => sv_T sm_XS sm_cs sm_L sm_sh 4 (q_keywordAt p1 p2 S) 19 76 [(0, .ref 0), (1, sv_I p1), (2, sv_I p2), (3, sv_I l3_1), (4, sv_I a.1), (5, sv_I l5_6)] [] S) (fun a q => (h a.1 q.1 q.2.2).1) (fun a q ih47 => ?_)
                  obtain ⟨l4_46, _u⟩ := a
                  obtain ⟨hl4_46, ok49, hin48i⟩ := q
                  have h := (h l4_46 hl4_46 hin48i).2
                  show sv_T sm_XS sm_cs sm_L sm_sh 4 (q_keywordAt p1 p2 S) 19 76 [(0, .ref 0), (1, sv_I p1), (2, sv_I p2), (3, sv_I l3_1), (4, sv_I l4_46), (5, sv_I l5_6)] [] S
                  refine sv_ldc_wA hM dX12_keywordAt_76 sm_ck_379 rfl ?_
                  refine sv_iload hM dX12_keywordAt_79 rfl rfl ?_
                  obtain ⟨o51, h⟩ := h
                  obtain ⟨r50, hr50, er50⟩ : ∃ r : Int, sv_R r ∧ (sm_c901 l4_46) = r := ⟨_, sv_RI (sm_s901.getD (l4_46).toNat 0), rfl⟩
                  have h := h r50 hr50 er50
                  refine sv_charAt hM dX12_keywordAt_81 sm_iv_320 (bs := sm_s901) sm_x901 sm_h1000 o51.1 (by rw [sm_z901]; exact o51.2) sm_y901 (Nat.le_of_ble_eq_true rfl) (Nat.le_of_ble_eq_true rfl) rfl er50 ?_
                  refine sv_bipush (d := (32 : Int)) hM dX12_keywordAt_84 rfl rfl ?_
                  refine sv_icmp_eq hM dX12_keywordAt_86 hr50 (⟨by decide, by decide⟩ : sv_R (32 : Int)) (t := 95) rfl rfl (fun hc => ?_) (fun hc => ?_)
                  · have h := h.1 (hc)
                    refine sv_iinc (d := (1 : Int)) hM dX12_keywordAt_95 rfl (by decide) rfl rfl ?_
                    show sv_T sm_XS sm_cs sm_L sm_sh 4 (q_keywordAt p1 p2 S) 19 98 [(0, .ref 0), (1, sv_I p1), (2, sv_I p2), (3, sv_I l3_1), (4, sv_I (l4_46 + (1 : Int))), (5, sv_I l5_6)] [] S
                    refine sv_iinc (d := (1 : Int)) hM dX12_keywordAt_98 rfl (by decide) rfl rfl ?_
                    show sv_T sm_XS sm_cs sm_L sm_sh 4 (q_keywordAt p1 p2 S) 19 101 [(0, .ref 0), (1, sv_I p1), (2, sv_I p2), (3, sv_I (l3_1 + (1 : Int))), (4, sv_I (l4_46 + (1 : Int))), (5, sv_I l5_6)] [] S
                    refine sv_goto hM dX12_keywordAt_101 (pc' := 5) rfl ?_
                    obtain ⟨o52, h⟩ := h
                    obtain ⟨o53, h⟩ := h
                    have hb := ih3 ((l3_1 + (1 : Int)), (l4_46 + (1 : Int)), ()) ⟨o52, o53, ok49, h.1⟩ h.2
                    exact sv_less (lv := [(0, .ref 0), (1, sv_I p1), (2, sv_I p2), (3, sv_I (l3_1 + (1 : Int))), (4, sv_I (l4_46 + (1 : Int)))]) (sv_Sub_cons rfl (sv_Sub_cons rfl (sv_Sub_cons rfl (sv_Sub_cons rfl (sv_Sub_cons rfl sv_Sub_nil))))) hb
                  · have h := h.2 (hc)
                    refine sv_iinc (d := (1 : Int)) hM dX12_keywordAt_89 rfl (by decide) rfl rfl ?_
                    show sv_T sm_XS sm_cs sm_L sm_sh 4 (q_keywordAt p1 p2 S) 19 92 [(0, .ref 0), (1, sv_I p1), (2, sv_I p2), (3, sv_I l3_1), (4, sv_I (l4_46 + (1 : Int))), (5, sv_I l5_6)] [] S
                    refine sv_goto hM dX12_keywordAt_92 (pc' := 76) rfl ?_
                    obtain ⟨o54, h⟩ := h
                    have hb := ih47 ((l4_46 + (1 : Int)), ()) ⟨o54, ok49, h.1⟩ h.2
                    exact sv_less (lv := [(0, .ref 0), (1, sv_I p1), (2, sv_I p2), (3, sv_I l3_1), (4, sv_I (l4_46 + (1 : Int))), (5, sv_I l5_6)]) (sv_Sub_cons rfl (sv_Sub_cons rfl (sv_Sub_cons rfl (sv_Sub_cons rfl (sv_Sub_cons rfl (sv_Sub_cons rfl sv_Sub_nil)))))) hb
                exact hJ (l4_2, ()) ⟨hl4_2, ok9, hin48⟩
              · have h := h.2 (hc)
                refine sv_iload_n hM dX12_keywordAt_74 rfl rfl ?_
                exact sv_iret hM dX12_keywordAt_75 rfl rfl ⟨l3_1, rfl, hl3_1, ok9, sv_mod.rf, h⟩
          · have h := h.2 (hc)
            refine sv_iinc (d := (1 : Int)) hM dX12_keywordAt_47 rfl (by decide) rfl rfl ?_
            show sv_T sm_XS sm_cs sm_L sm_sh 4 (q_keywordAt p1 p2 S) 19 50 [(0, .ref 0), (1, sv_I p1), (2, sv_I p2), (3, sv_I l3_1), (4, sv_I l4_2), (5, sv_I (l5_6 + (1 : Int)))] [] S
            refine sv_goto hM dX12_keywordAt_50 (pc' := 19) rfl ?_
            obtain ⟨o55, h⟩ := h
            have hb := ih7 ((l5_6 + (1 : Int)), ()) ⟨o55, ok9, h.1⟩ h.2
            exact sv_less (lv := [(0, .ref 0), (1, sv_I p1), (2, sv_I p2), (3, sv_I l3_1), (4, sv_I l4_2), (5, sv_I (l5_6 + (1 : Int)))]) (sv_Sub_cons rfl (sv_Sub_cons rfl (sv_Sub_cons rfl (sv_Sub_cons rfl (sv_Sub_cons rfl (sv_Sub_cons rfl sv_Sub_nil)))))) hb
      exact hJ ((0 : Int), ()) ⟨(⟨by decide, by decide⟩ : sv_R (0 : Int)), ok5, hin8⟩
  exact hJ ((0 : Int), (0 : Int), ()) ⟨(⟨by decide, by decide⟩ : sv_R (0 : Int)), (⟨by decide, by decide⟩ : sv_R (0 : Int)), hok, hin4⟩
def q_cutName (S : sv_S) : Option Value → sv_S → Prop := fun v S' => v = none ∧ sm_ok S' ∧ sv_mod [1018, 7, 6] S S' ∧ ((S 1018 0) < (S' 1018 0) ∧ (S' 1018 0) ≤ (S' 1004 0) ∧ ((S' 6 (S' 1012 0)) = 6 ∨ (((S' 6 (S' 1012 0)) = 1 ∨ (S' 6 (S' 1012 0)) = 2) ∧ (S' 1018 0) - (S 1018 0) ≤ 16)) ∧ (∀ k : Int, k ≠ (S' 1012 0) → (S' 6 k) = (S 6 k)))
set_option maxHeartbeats 2000000 in
theorem f_cutName : ∀ (S : sv_S), sm_ok S → (0 ≤ (S 1004 0) ∧ (S 1004 0) ≤ 4000 ∧ 0 ≤ (S 1018 0) ∧ (S 1018 0) ≤ (S 1004 0) ∧ 0 ≤ (S 1012 0) ∧ (S 1012 0) ≤ 4001 ∧ (S 1018 0) < (S 1004 0) ∧ ((if (S 1018 0) < (S 1004 0) then (S 2 (S 1018 0)) % 256 else 0) ≥ 97 ∧ (if (S 1018 0) < (S 1004 0) then (S 2 (S 1018 0)) % 256 else 0) ≤ 122 ∨ (if (S 1018 0) < (S 1004 0) then (S 2 (S 1018 0)) % 256 else 0) ≥ 65 ∧ (if (S 1018 0) < (S 1004 0) then (S 2 (S 1018 0)) % 256 else 0) ≤ 90 ∨ (if (S 1018 0) < (S 1004 0) then (S 2 (S 1018 0)) % 256 else 0) = 95 ∨ (if (S 1018 0) < (S 1004 0) then (S 2 (S 1018 0)) % 256 else 0) = 36)) → (sv_R (S 1018 0) → (((S 1018 0) ≤ (S 1018 0) ∧ (S 1018 0) ≤ (S 1004 0) ∧ ((S 1018 0) = (S 1018 0) ∨ (S 1018 0) < (S 1018 0)) ∧ (∀ k : Int, (S 1018 0) ≤ k → k < (S 1018 0) → (if k < (S 1004 0) then (S 2 k) % 256 else 0) ≠ 32)) ∧ (∀ g2 : sv_S, ((S 1018 0) ≤ (g2 1018 0) ∧ (g2 1018 0) ≤ (S 1004 0) ∧ ((g2 1018 0) = (S 1018 0) ∨ (S 1018 0) < (g2 1018 0)) ∧ (∀ k : Int, (S 1018 0) ≤ k → k < (g2 1018 0) → (if k < (S 1004 0) then (S 2 k) % 256 else 0) ≠ 32)) → (0 ≤ (S 1004 0) - (g2 1018 0)) ∧ (sv_R (g2 1018 0) → (0 ≤ (S 1004 0) ∧ (S 1004 0) ≤ 4000 ∧ 0 ≤ (g2 1018 0)) ∧ (((¬ ((g2 1018 0) < (S 1004 0) ∧ (((if (g2 1018 0) < (S 1004 0) then (S 2 (g2 1018 0)) % 256 else 0) ≥ 97 ∧ (if (g2 1018 0) < (S 1004 0) then (S 2 (g2 1018 0)) % 256 else 0) ≤ 122 ∨ (if (g2 1018 0) < (S 1004 0) then (S 2 (g2 1018 0)) % 256 else 0) ≥ 65 ∧ (if (g2 1018 0) < (S 1004 0) then (S 2 (g2 1018 0)) % 256 else 0) ≤ 90 ∨ (if (g2 1018 0) < (S 1004 0) then (S 2 (g2 1018 0)) % 256 else 0) = 95 ∨ (if (g2 1018 0) < (S 1004 0) then (S 2 (g2 1018 0)) % 256 else 0) = 36) ∨ ((if (g2 1018 0) < (S 1004 0) then (S 2 (g2 1018 0)) % 256 else 0) ≥ 48 ∧ (if (g2 1018 0) < (S 1004 0) then (S 2 (g2 1018 0)) % 256 else 0) ≤ 57)))) → (sv_R (S 1012 0) → (sv_R ((g2 1018 0) - (S 1018 0))) ∧ (0 ≤ (S 1004 0) ∧ (S 1004 0) ≤ 4000 ∧ 0 ≤ (S 1018 0) ∧ 0 ≤ ((g2 1018 0) - (S 1018 0)) ∧ (S 1018 0) + ((g2 1018 0) - (S 1018 0)) ≤ 4000 ∧ (∀ k : Int, (S 1018 0) ≤ k → k < (S 1018 0) + ((g2 1018 0) - (S 1018 0)) → (if k < (S 1004 0) then (S 2 k) % 256 else 0) ≠ 32)) ∧ (∀ r17 : Int, sv_R r17 → (-1 ≤ r17 ∧ r17 ≤ 172) → (0 ≤ (S 1012 0) ∧ (S 1012 0) < 4002) ∧ (((((g2 1018 0) - (S 1018 0)) ≤ (16 : Int)) → (∀ v21 : Int, (if (S 1012 0) = (S 1012 0) then r17 else (S 7 (S 1012 0))) = v21 → (sv_R v21 → (((¬ v21 = (-1 : Int)) → ((S 1018 0) < (g2 1018 0) ∧ (g2 1018 0) ≤ (S 1004 0) ∧ ((if (S 1012 0) = (S 1012 0) then (2 : Int) else (S 6 (S 1012 0))) = 6 ∨ (((if (S 1012 0) = (S 1012 0) then (2 : Int) else (S 6 (S 1012 0))) = 1 ∨ (if (S 1012 0) = (S 1012 0) then (2 : Int) else (S 6 (S 1012 0))) = 2) ∧ (g2 1018 0) - (S 1018 0) ≤ 16)) ∧ (∀ k : Int, k ≠ (S 1012 0) → (if k = (S 1012 0) then (2 : Int) else (S 6 k)) = (S 6 k)))) ∧ ((¬ (¬ v21 = (-1 : Int))) → ((S 1018 0) < (g2 1018 0) ∧ (g2 1018 0) ≤ (S 1004 0) ∧ ((if (S 1012 0) = (S 1012 0) then (1 : Int) else (S 6 (S 1012 0))) = 6 ∨ (((if (S 1012 0) = (S 1012 0) then (1 : Int) else (S 6 (S 1012 0))) = 1 ∨ (if (S 1012 0) = (S 1012 0) then (1 : Int) else (S 6 (S 1012 0))) = 2) ∧ (g2 1018 0) - (S 1018 0) ≤ 16)) ∧ (∀ k : Int, k ≠ (S 1012 0) → (if k = (S 1012 0) then (1 : Int) else (S 6 k)) = (S 6 k)))))))) ∧ ((¬ (((g2 1018 0) - (S 1018 0)) ≤ (16 : Int))) → ((S 1018 0) < (g2 1018 0) ∧ (g2 1018 0) ≤ (S 1004 0) ∧ ((if (S 1012 0) = (S 1012 0) then (6 : Int) else (S 6 (S 1012 0))) = 6 ∨ (((if (S 1012 0) = (S 1012 0) then (6 : Int) else (S 6 (S 1012 0))) = 1 ∨ (if (S 1012 0) = (S 1012 0) then (6 : Int) else (S 6 (S 1012 0))) = 2) ∧ (g2 1018 0) - (S 1018 0) ≤ 16)) ∧ (∀ k : Int, k ≠ (S 1012 0) → (if k = (S 1012 0) then (6 : Int) else (S 6 k)) = (S 6 k)))))))) ∧ (((g2 1018 0) < (S 1004 0) ∧ (((if (g2 1018 0) < (S 1004 0) then (S 2 (g2 1018 0)) % 256 else 0) ≥ 97 ∧ (if (g2 1018 0) < (S 1004 0) then (S 2 (g2 1018 0)) % 256 else 0) ≤ 122 ∨ (if (g2 1018 0) < (S 1004 0) then (S 2 (g2 1018 0)) % 256 else 0) ≥ 65 ∧ (if (g2 1018 0) < (S 1004 0) then (S 2 (g2 1018 0)) % 256 else 0) ≤ 90 ∨ (if (g2 1018 0) < (S 1004 0) then (S 2 (g2 1018 0)) % 256 else 0) = 95 ∨ (if (g2 1018 0) < (S 1004 0) then (S 2 (g2 1018 0)) % 256 else 0) = 36) ∨ ((if (g2 1018 0) < (S 1004 0) then (S 2 (g2 1018 0)) % 256 else 0) ≥ 48 ∧ (if (g2 1018 0) < (S 1004 0) then (S 2 (g2 1018 0)) % 256 else 0) ≤ 57))) → (sv_R ((g2 1018 0) + (1 : Int))) ∧ (((S 1018 0) ≤ ((g2 1018 0) + (1 : Int)) ∧ ((g2 1018 0) + (1 : Int)) ≤ (S 1004 0) ∧ (((g2 1018 0) + (1 : Int)) = (S 1018 0) ∨ (S 1018 0) < ((g2 1018 0) + (1 : Int))) ∧ (∀ k : Int, (S 1018 0) ≤ k → k < ((g2 1018 0) + (1 : Int)) → (if k < (S 1004 0) then (S 2 k) % 256 else 0) ≠ 32)) ∧ ((S 1004 0) - ((g2 1018 0) + (1 : Int))) < ((S 1004 0) - (g2 1018 0))))))))) := by
  intro S hok hpre
  repeat' (first | (refine And.intro ?_ ?_) | (intro _))
  all_goals first | assumption | omega | grind
set_option maxRecDepth 8000 in
set_option maxHeartbeats 2000000 in
theorem t_cutName : ∀ (S : sv_S), sm_ok S → (0 ≤ (S 1004 0) ∧ (S 1004 0) ≤ 4000 ∧ 0 ≤ (S 1018 0) ∧ (S 1018 0) ≤ (S 1004 0) ∧ 0 ≤ (S 1012 0) ∧ (S 1012 0) ≤ 4001 ∧ (S 1018 0) < (S 1004 0) ∧ ((if (S 1018 0) < (S 1004 0) then (S 2 (S 1018 0)) % 256 else 0) ≥ 97 ∧ (if (S 1018 0) < (S 1004 0) then (S 2 (S 1018 0)) % 256 else 0) ≤ 122 ∨ (if (S 1018 0) < (S 1004 0) then (S 2 (S 1018 0)) % 256 else 0) ≥ 65 ∧ (if (S 1018 0) < (S 1004 0) then (S 2 (S 1018 0)) % 256 else 0) ≤ 90 ∨ (if (S 1018 0) < (S 1004 0) then (S 2 (S 1018 0)) % 256 else 0) = 95 ∨ (if (S 1018 0) < (S 1004 0) then (S 2 (S 1018 0)) % 256 else 0) = 36)) → sv_T sm_XS sm_cs sm_L sm_sh 5 (q_cutName S) 18 0 (lv_args 0 [.ref 0]) [] S := by
  intro S hok hpre
  have h := f_cutName S hok hpre
  have hM := sm_h18
  show sv_T sm_XS sm_cs sm_L sm_sh 5 (q_cutName S) 18 0 [(0, .ref 0)] [] S
  refine sv_aload_n hM dX12_cutName_0 rfl rfl ?_
  have k1 : sv_R (S 1018 0) := sm_okI hok sm_r1018 0
  have h := h k1
  refine sv_getI hM dX12_cutName_1 sm_fl_344 (sm_a0 _) sm_k18 rfl (x := (S 1018 0)) rfl ?_
  refine sv_istore_n hM dX12_cutName_4 (by decide) rfl ?_
  show sv_T sm_XS sm_cs sm_L sm_sh 5 (q_cutName S) 18 5 [(0, .ref 0), (1, sv_I (S 1018 0))] [] S
  obtain ⟨hin4, h⟩ := h
  have hJ : ∀ a : sv_S, (sm_ok (sv_sts S [1018] a) ∧ ((S 1018 0) ≤ (a 1018 0) ∧ (a 1018 0) ≤ (S 1004 0) ∧ ((a 1018 0) = (S 1018 0) ∨ (S 1018 0) < (a 1018 0)) ∧ (∀ k : Int, (S 1018 0) ≤ k → k < (a 1018 0) → (if k < (S 1004 0) then (S 2 k) % 256 else 0) ≠ 32))) → sv_T sm_XS sm_cs sm_L sm_sh 5 (q_cutName S) 18 5 [(0, .ref 0), (1, sv_I (S 1018 0))] [] (sv_sts S [1018] a) := by
    refine sv_loop (α := sv_S) (fun a => sm_ok (sv_sts S [1018] a) ∧ ((S 1018 0) ≤ (a 1018 0) ∧ (a 1018 0) ≤ (S 1004 0) ∧ ((a 1018 0) = (S 1018 0) ∨ (S 1018 0) < (a 1018 0)) ∧ (∀ k : Int, (S 1018 0) ≤ k → k < (a 1018 0) → (if k < (S 1004 0) then (S 2 k) % 256 else 0) ≠ 32))) (fun a => (S 1004 0) - (a 1018 0)) (fun a => sv_T sm_XS sm_cs sm_L sm_sh 5 (q_cutName S) 18 5 [(0, .ref 0), (1, sv_I (S 1018 0))] [] (sv_sts S [1018] a)) (fun a q => (h a q.2).1) (fun g2 q ih3 => ?_)
    obtain ⟨ok5, hin4i⟩ := q
    have h := (h g2 hin4i).2
    show sv_T sm_XS sm_cs sm_L sm_sh 5 (q_cutName S) 18 5 [(0, .ref 0), (1, sv_I (S 1018 0))] [] (sv_sts S [1018] g2)
    have md6 : sv_mod [1018, 7, 6] S (sv_sts S [1018] g2) := sv_mod.sts sv_mod.rf (by decide)
    have md7 : sv_mod [1018] S (sv_sts S [1018] g2) := sv_mod.sts sv_mod.rf (by decide)
    refine sv_aload_n hM dX12_cutName_5 rfl rfl ?_
    refine sv_aload_n hM dX12_cutName_6 rfl rfl ?_
    have k8 : sv_R (g2 1018 0) := sm_okI ok5 sm_r1018 0
    have h := h k8
    refine sv_getI hM dX12_cutName_7 sm_fl_344 (sm_a0 _) sm_k18 rfl (x := (g2 1018 0)) rfl ?_
    obtain ⟨o9, h⟩ := h
    refine sv_callV hM dX12_cutName_10 sm_iv_372 (by decide) (sm_a0 _) rfl rfl (Nat.le_of_ble_eq_true rfl) sm_h14 (Nat.le_of_ble_eq_true rfl) (Nat.le_of_ble_eq_true rfl) (F' := 1) (Nat.le_of_ble_eq_true rfl) rfl (t_isWordly (g2 1018 0) (sv_sts S [1018] g2) ok5 k8 o9) (fun v S1 hq => ?_)
    obtain ⟨rfl, hS1⟩ := hq
    obtain rfl : (sv_sts S [1018] g2) = S1 := hS1.symm
    show sv_T sm_XS sm_cs sm_L sm_sh 5 (q_cutName S) 18 13 [(0, .ref 0), (1, sv_I (S 1018 0))] [sv_I (if (g2 1018 0) < (S 1004 0) ∧ (((if (g2 1018 0) < (S 1004 0) then (S 2 (g2 1018 0)) % 256 else 0) ≥ 97 ∧ (if (g2 1018 0) < (S 1004 0) then (S 2 (g2 1018 0)) % 256 else 0) ≤ 122 ∨ (if (g2 1018 0) < (S 1004 0) then (S 2 (g2 1018 0)) % 256 else 0) ≥ 65 ∧ (if (g2 1018 0) < (S 1004 0) then (S 2 (g2 1018 0)) % 256 else 0) ≤ 90 ∨ (if (g2 1018 0) < (S 1004 0) then (S 2 (g2 1018 0)) % 256 else 0) = 95 ∨ (if (g2 1018 0) < (S 1004 0) then (S 2 (g2 1018 0)) % 256 else 0) = 36) ∨ ((if (g2 1018 0) < (S 1004 0) then (S 2 (g2 1018 0)) % 256 else 0) ≥ 48 ∧ (if (g2 1018 0) < (S 1004 0) then (S 2 (g2 1018 0)) % 256 else 0) ≤ 57)) then 1 else 0)] (sv_sts S [1018] g2)
    refine sv_cond_eq hM dX12_cutName_13 (sv_Rite : sv_R (if (g2 1018 0) < (S 1004 0) ∧ (((if (g2 1018 0) < (S 1004 0) then (S 2 (g2 1018 0)) % 256 else 0) ≥ 97 ∧ (if (g2 1018 0) < (S 1004 0) then (S 2 (g2 1018 0)) % 256 else 0) ≤ 122 ∨ (if (g2 1018 0) < (S 1004 0) then (S 2 (g2 1018 0)) % 256 else 0) ≥ 65 ∧ (if (g2 1018 0) < (S 1004 0) then (S 2 (g2 1018 0)) % 256 else 0) ≤ 90 ∨ (if (g2 1018 0) < (S 1004 0) then (S 2 (g2 1018 0)) % 256 else 0) = 95 ∨ (if (g2 1018 0) < (S 1004 0) then (S 2 (g2 1018 0)) % 256 else 0) = 36) ∨ ((if (g2 1018 0) < (S 1004 0) then (S 2 (g2 1018 0)) % 256 else 0) ≥ 48 ∧ (if (g2 1018 0) < (S 1004 0) then (S 2 (g2 1018 0)) % 256 else 0) ≤ 57)) then 1 else 0)) (t := 29) rfl rfl (fun hc => ?_) (fun hc => ?_)
    · have h := h.1 (sv_iten hc)
      refine sv_aload_n hM dX12_cutName_29 rfl rfl ?_
      refine sv_getA hM dX12_cutName_30 sm_fl_30 (sm_a0 _) sm_k14 rfl ?_
      refine sv_aload_n hM dX12_cutName_33 rfl rfl ?_
      have k10 : sv_R (S 1012 0) := sm_okI ok5 sm_r1012 0
      have h := h k10
      refine sv_getI hM dX12_cutName_34 sm_fl_350 (sm_a0 _) sm_k12 rfl (x := (S 1012 0)) rfl ?_
      refine sv_aload_n hM dX12_cutName_37 rfl rfl ?_
      refine sv_iload_n hM dX12_cutName_38 rfl rfl ?_
      refine sv_aload_n hM dX12_cutName_39 rfl rfl ?_
      refine sv_getI hM dX12_cutName_40 sm_fl_344 (sm_a0 _) sm_k18 rfl (x := (g2 1018 0)) rfl ?_
      refine sv_iload_n hM dX12_cutName_43 rfl rfl ?_
      refine sv_isub hM dX12_cutName_44 rfl ?_
      obtain ⟨o11, h⟩ := h
      obtain ⟨o12, h⟩ := h
      refine sv_callV hM dX12_cutName_45 sm_iv_375 (by decide) (sm_a0 _) rfl rfl (Nat.le_of_ble_eq_true rfl) sm_h19 (Nat.le_of_ble_eq_true rfl) (Nat.le_of_ble_eq_true rfl) (F' := 4) (Nat.le_of_ble_eq_true rfl) rfl (t_keywordAt (S 1018 0) ((g2 1018 0) - (S 1018 0)) (sv_sts S [1018] g2) ok5 k1 o11 o12) (fun v S1 hq => ?_)
      obtain ⟨r17, rfl, hr17, ok14, md15, hp16⟩ := hq
      obtain rfl : (sv_sts S [1018] g2) = S1 := (funext fun j => md15 j (by intro q; cases q)).symm
      show sv_T sm_XS sm_cs sm_L sm_sh 5 (q_cutName S) 18 48 [(0, .ref 0), (1, sv_I (S 1018 0))] [sv_I r17, sv_I (S 1012 0), .ref 7] (sv_sts S [1018] g2)
      have h := h r17 hr17 hp16
      obtain ⟨o18, h⟩ := h
      refine sv_iast sm_X hM dX12_cutName_48 (sm_a7 _) (by decide) o18.1 o18.2 rfl ?_
      have ok19 : sm_ok (sv_up (sv_sts S [1018] g2) 7 (S 1012 0) r17) := sm_upI ok14 sm_r7 hr17
      have md20 : sv_mod [1018, 7, 6] S (sv_up (sv_sts S [1018] g2) 7 (S 1012 0) r17) := sv_mod.up md6 (by decide)
      refine sv_aload_n hM dX12_cutName_49 rfl rfl ?_
      refine sv_getA hM dX12_cutName_50 sm_fl_27 (sm_a0 _) sm_k13 rfl ?_
      refine sv_aload_n hM dX12_cutName_53 rfl rfl ?_
      refine sv_getI hM dX12_cutName_54 sm_fl_350 (sm_a0 _) sm_k12 rfl (x := (S 1012 0)) rfl ?_
      refine sv_aload_n hM dX12_cutName_57 rfl rfl ?_
      refine sv_getI hM dX12_cutName_58 sm_fl_344 (sm_a0 _) sm_k18 rfl (x := (g2 1018 0)) rfl ?_
      refine sv_iload_n hM dX12_cutName_61 rfl rfl ?_
      refine sv_isub hM dX12_cutName_62 rfl ?_
      refine sv_bipush (d := (16 : Int)) hM dX12_cutName_63 rfl rfl ?_
      refine sv_icmp_le hM dX12_cutName_65 o11 (⟨by decide, by decide⟩ : sv_R (16 : Int)) (t := 73) rfl rfl (fun hc => ?_) (fun hc => ?_)
      · have h := h.1 (hc)
        refine sv_aload_n hM dX12_cutName_73 rfl rfl ?_
        refine sv_getA hM dX12_cutName_74 sm_fl_30 (sm_a0 _) sm_k14 rfl ?_
        refine sv_aload_n hM dX12_cutName_77 rfl rfl ?_
        refine sv_getI hM dX12_cutName_78 sm_fl_350 (sm_a0 _) sm_k12 rfl (x := (S 1012 0)) rfl ?_
        obtain ⟨v21, ev21⟩ : ∃ x : Int, (if (S 1012 0) = (S 1012 0) then r17 else (S 7 (S 1012 0))) = x := ⟨_, rfl⟩
        have h := h v21 ev21
        have k22 : sv_R v21 := ev21 ▸ (sm_okI ok19 sm_r7 (S 1012 0))
        have h := h k22
        refine sv_iald hM dX12_cutName_81 (sm_a7 _) (by decide) o18.1 o18.2 rfl (x := v21) ev21 ?_
        refine sv_iconst (d := (-1 : Int)) hM dX12_cutName_82 rfl rfl ?_
        refine sv_icmp_ne hM dX12_cutName_83 k22 (⟨by decide, by decide⟩ : sv_R (-1 : Int)) (t := 90) rfl rfl (fun hc => ?_) (fun hc => ?_)
        · have h := h.1 (hc)
          refine sv_iconst (d := (2 : Int)) hM dX12_cutName_90 rfl rfl ?_
          refine sv_iast sm_X hM dX12_cutName_91 (sm_a6 _) (by decide) o18.1 o18.2 rfl ?_
          have ok23 : sm_ok (sv_up (sv_up (sv_sts S [1018] g2) 7 (S 1012 0) r17) 6 (S 1012 0) (2 : Int)) := sm_upI ok19 sm_r6 (⟨by decide, by decide⟩ : sv_R (2 : Int))
          have md24 : sv_mod [1018, 7, 6] S (sv_up (sv_up (sv_sts S [1018] g2) 7 (S 1012 0) r17) 6 (S 1012 0) (2 : Int)) := sv_mod.up md20 (by decide)
          exact sv_vret hM dX12_cutName_92 rfl ⟨rfl, ok23, md24, h⟩
        · have h := h.2 (hc)
          refine sv_iconst (d := (1 : Int)) hM dX12_cutName_86 rfl rfl ?_
          refine sv_goto hM dX12_cutName_87 (pc' := 91) rfl ?_
          refine sv_iast sm_X hM dX12_cutName_91 (sm_a6 _) (by decide) o18.1 o18.2 rfl ?_
          have ok25 : sm_ok (sv_up (sv_up (sv_sts S [1018] g2) 7 (S 1012 0) r17) 6 (S 1012 0) (1 : Int)) := sm_upI ok19 sm_r6 (⟨by decide, by decide⟩ : sv_R (1 : Int))
          have md26 : sv_mod [1018, 7, 6] S (sv_up (sv_up (sv_sts S [1018] g2) 7 (S 1012 0) r17) 6 (S 1012 0) (1 : Int)) := sv_mod.up md20 (by decide)
          exact sv_vret hM dX12_cutName_92 rfl ⟨rfl, ok25, md26, h⟩
      · have h := h.2 (hc)
        refine sv_bipush (d := (6 : Int)) hM dX12_cutName_68 rfl rfl ?_
        refine sv_goto hM dX12_cutName_70 (pc' := 91) rfl ?_
        refine sv_iast sm_X hM dX12_cutName_91 (sm_a6 _) (by decide) o18.1 o18.2 rfl ?_
        have ok27 : sm_ok (sv_up (sv_up (sv_sts S [1018] g2) 7 (S 1012 0) r17) 6 (S 1012 0) (6 : Int)) := sm_upI ok19 sm_r6 (⟨by decide, by decide⟩ : sv_R (6 : Int))
        have md28 : sv_mod [1018, 7, 6] S (sv_up (sv_up (sv_sts S [1018] g2) 7 (S 1012 0) r17) 6 (S 1012 0) (6 : Int)) := sv_mod.up md20 (by decide)
        exact sv_vret hM dX12_cutName_92 rfl ⟨rfl, ok27, md28, h⟩
    · have h := h.2 (sv_itep hc)
      refine sv_aload_n hM dX12_cutName_16 rfl rfl ?_
      refine sv_dupA hM dX12_cutName_17 rfl ?_
      refine sv_getI hM dX12_cutName_18 sm_fl_344 (sm_a0 _) sm_k18 rfl (x := (g2 1018 0)) rfl ?_
      refine sv_iconst (d := (1 : Int)) hM dX12_cutName_21 rfl rfl ?_
      refine sv_iadd hM dX12_cutName_22 rfl ?_
      obtain ⟨o29, h⟩ := h
      refine sv_putI sm_X hM dX12_cutName_23 sm_fp_344 (sm_a0 _) sm_q18 (Or.inl rfl) rfl rfl rfl rfl ?_
      have ok30 : sm_ok (sv_up (sv_sts S [1018] g2) 1018 0 ((g2 1018 0) + (1 : Int))) := sm_upI ok5 sm_r1018 o29
      have md31 : sv_mod [1018, 7, 6] S (sv_up (sv_sts S [1018] g2) 1018 0 ((g2 1018 0) + (1 : Int))) := sv_mod.up md6 (by decide)
      have md32 : sv_mod [1018] S (sv_up (sv_sts S [1018] g2) 1018 0 ((g2 1018 0) + (1 : Int))) := sv_mod.up md7 (by decide)
      refine sv_goto hM dX12_cutName_26 (pc' := 5) rfl ?_
      have eS := sv_mod.eq md32
      have hb := ih3 ((sv_up (sv_sts S [1018] g2) 1018 0 ((g2 1018 0) + (1 : Int)))) ⟨(by rw [← eS]; exact ok30), h.1⟩ h.2
      have hb : sv_T sm_XS sm_cs sm_L sm_sh 5 (q_cutName S) 18 5 [(0, .ref 0), (1, sv_I (S 1018 0))] [] (sv_up (sv_sts S [1018] g2) 1018 0 ((g2 1018 0) + (1 : Int))) := Eq.mpr (congrArg (fun Z => sv_T sm_XS sm_cs sm_L sm_sh 5 (q_cutName S) 18 5 [(0, .ref 0), (1, sv_I (S 1018 0))] [] Z) eS) hb
      exact sv_less (lv := [(0, .ref 0), (1, sv_I (S 1018 0))]) (sv_Sub_cons rfl (sv_Sub_cons rfl sv_Sub_nil)) hb
  have eS := sv_mod.eq (sv_mod.rf (l := [1018]) (S := S))
  have hb := hJ (S) ⟨(by rw [← eS]; exact hok), hin4⟩
  have hb : sv_T sm_XS sm_cs sm_L sm_sh 5 (q_cutName S) 18 5 [(0, .ref 0), (1, sv_I (S 1018 0))] [] S := Eq.mpr (congrArg (fun Z => sv_T sm_XS sm_cs sm_L sm_sh 5 (q_cutName S) 18 5 [(0, .ref 0), (1, sv_I (S 1018 0))] [] Z) eS) hb
  exact hb
def q_cutNumber (S : sv_S) : Option Value → sv_S → Prop := fun v S' => v = none ∧ sm_ok S' ∧ sv_mod [1018, 7, 6] S S' ∧ ((S 1018 0) < (S' 1018 0) ∧ (S' 1018 0) ≤ (S' 1004 0) ∧ ((S' 6 (S' 1012 0)) = 6 ∨ (S' 6 (S' 1012 0)) = 3) ∧ (∀ k : Int, k ≠ (S' 1012 0) → (S' 6 k) = (S 6 k)))
set_option maxHeartbeats 2000000 in
theorem f_cutNumber : ∀ (S : sv_S), sm_ok S → (0 ≤ (S 1004 0) ∧ (S 1004 0) ≤ 4000 ∧ 0 ≤ (S 1018 0) ∧ (S 1018 0) ≤ (S 1004 0) ∧ 0 ≤ (S 1012 0) ∧ (S 1012 0) ≤ 4001 ∧ (S 1018 0) < (S 1004 0) ∧ ((if (S 1018 0) < (S 1004 0) then (S 2 (S 1018 0)) % 256 else 0) ≥ 48 ∧ (if (S 1018 0) < (S 1004 0) then (S 2 (S 1018 0)) % 256 else 0) ≤ 57)) → (sv_R (S 1018 0) → (((S 1018 0) ≤ (S 1018 0) ∧ (S 1018 0) ≤ (S 1004 0)) ∧ (∀ l2_3 : Int, sv_RL l2_3 → ∀ g2 : sv_S, ((S 1018 0) ≤ (g2 1018 0) ∧ (g2 1018 0) ≤ (S 1004 0)) → (0 ≤ (S 1004 0) - (g2 1018 0)) ∧ (sv_R (g2 1018 0) → (((¬ ((g2 1018 0) < (S 1004 0))) → (sv_R ((g2 1018 0) - (S 1018 0))) ∧ ((((10 : Int) < ((g2 1018 0) - (S 1018 0))) → (sv_R (S 1012 0) → ((((0 : Int) = (0 : Int)) → (0 ≤ (S 1012 0) ∧ (S 1012 0) < 4002) ∧ (∀ r15 : Int, sv_R r15 → (sv_R l2_3 → r15 = l2_3) → ((S 1018 0) < (g2 1018 0) ∧ (g2 1018 0) ≤ (S 1004 0) ∧ ((if (S 1012 0) = (S 1012 0) then (6 : Int) else (S 6 (S 1012 0))) = 6 ∨ (if (S 1012 0) = (S 1012 0) then (6 : Int) else (S 6 (S 1012 0))) = 3) ∧ (∀ k : Int, k ≠ (S 1012 0) → (if k = (S 1012 0) then (6 : Int) else (S 6 k)) = (S 6 k))))) ∧ ((¬ ((0 : Int) = (0 : Int))) → (0 ≤ (S 1012 0) ∧ (S 1012 0) < 4002) ∧ (∀ r21 : Int, sv_R r21 → (sv_R l2_3 → r21 = l2_3) → ((S 1018 0) < (g2 1018 0) ∧ (g2 1018 0) ≤ (S 1004 0) ∧ ((if (S 1012 0) = (S 1012 0) then (3 : Int) else (S 6 (S 1012 0))) = 6 ∨ (if (S 1012 0) = (S 1012 0) then (3 : Int) else (S 6 (S 1012 0))) = 3) ∧ (∀ k : Int, k ≠ (S 1012 0) → (if k = (S 1012 0) then (3 : Int) else (S 6 k)) = (S 6 k)))))))) ∧ ((¬ ((10 : Int) < ((g2 1018 0) - (S 1018 0)))) → ((((2147483647 : Int) < l2_3) → (sv_R (S 1012 0) → ((((0 : Int) = (0 : Int)) → (0 ≤ (S 1012 0) ∧ (S 1012 0) < 4002) ∧ (∀ r28 : Int, sv_R r28 → (sv_R l2_3 → r28 = l2_3) → ((S 1018 0) < (g2 1018 0) ∧ (g2 1018 0) ≤ (S 1004 0) ∧ ((if (S 1012 0) = (S 1012 0) then (6 : Int) else (S 6 (S 1012 0))) = 6 ∨ (if (S 1012 0) = (S 1012 0) then (6 : Int) else (S 6 (S 1012 0))) = 3) ∧ (∀ k : Int, k ≠ (S 1012 0) → (if k = (S 1012 0) then (6 : Int) else (S 6 k)) = (S 6 k))))) ∧ ((¬ ((0 : Int) = (0 : Int))) → (0 ≤ (S 1012 0) ∧ (S 1012 0) < 4002) ∧ (∀ r34 : Int, sv_R r34 → (sv_R l2_3 → r34 = l2_3) → ((S 1018 0) < (g2 1018 0) ∧ (g2 1018 0) ≤ (S 1004 0) ∧ ((if (S 1012 0) = (S 1012 0) then (3 : Int) else (S 6 (S 1012 0))) = 6 ∨ (if (S 1012 0) = (S 1012 0) then (3 : Int) else (S 6 (S 1012 0))) = 3) ∧ (∀ k : Int, k ≠ (S 1012 0) → (if k = (S 1012 0) then (3 : Int) else (S 6 k)) = (S 6 k)))))))) ∧ ((¬ ((2147483647 : Int) < l2_3)) → (0 ≤ (S 1004 0) ∧ (S 1004 0) ≤ 4000 ∧ 0 ≤ (g2 1018 0)) ∧ ((((g2 1018 0) < (S 1004 0) ∧ (((if (g2 1018 0) < (S 1004 0) then (S 2 (g2 1018 0)) % 256 else 0) ≥ 97 ∧ (if (g2 1018 0) < (S 1004 0) then (S 2 (g2 1018 0)) % 256 else 0) ≤ 122 ∨ (if (g2 1018 0) < (S 1004 0) then (S 2 (g2 1018 0)) % 256 else 0) ≥ 65 ∧ (if (g2 1018 0) < (S 1004 0) then (S 2 (g2 1018 0)) % 256 else 0) ≤ 90 ∨ (if (g2 1018 0) < (S 1004 0) then (S 2 (g2 1018 0)) % 256 else 0) = 95 ∨ (if (g2 1018 0) < (S 1004 0) then (S 2 (g2 1018 0)) % 256 else 0) = 36) ∨ ((if (g2 1018 0) < (S 1004 0) then (S 2 (g2 1018 0)) % 256 else 0) ≥ 48 ∧ (if (g2 1018 0) < (S 1004 0) then (S 2 (g2 1018 0)) % 256 else 0) ≤ 57))) → (sv_R (S 1012 0) → ((((0 : Int) = (0 : Int)) → (0 ≤ (S 1012 0) ∧ (S 1012 0) < 4002) ∧ (∀ r42 : Int, sv_R r42 → (sv_R l2_3 → r42 = l2_3) → ((S 1018 0) < (g2 1018 0) ∧ (g2 1018 0) ≤ (S 1004 0) ∧ ((if (S 1012 0) = (S 1012 0) then (6 : Int) else (S 6 (S 1012 0))) = 6 ∨ (if (S 1012 0) = (S 1012 0) then (6 : Int) else (S 6 (S 1012 0))) = 3) ∧ (∀ k : Int, k ≠ (S 1012 0) → (if k = (S 1012 0) then (6 : Int) else (S 6 k)) = (S 6 k))))) ∧ ((¬ ((0 : Int) = (0 : Int))) → (0 ≤ (S 1012 0) ∧ (S 1012 0) < 4002) ∧ (∀ r48 : Int, sv_R r48 → (sv_R l2_3 → r48 = l2_3) → ((S 1018 0) < (g2 1018 0) ∧ (g2 1018 0) ≤ (S 1004 0) ∧ ((if (S 1012 0) = (S 1012 0) then (3 : Int) else (S 6 (S 1012 0))) = 6 ∨ (if (S 1012 0) = (S 1012 0) then (3 : Int) else (S 6 (S 1012 0))) = 3) ∧ (∀ k : Int, k ≠ (S 1012 0) → (if k = (S 1012 0) then (3 : Int) else (S 6 k)) = (S 6 k)))))))) ∧ ((¬ ((g2 1018 0) < (S 1004 0) ∧ (((if (g2 1018 0) < (S 1004 0) then (S 2 (g2 1018 0)) % 256 else 0) ≥ 97 ∧ (if (g2 1018 0) < (S 1004 0) then (S 2 (g2 1018 0)) % 256 else 0) ≤ 122 ∨ (if (g2 1018 0) < (S 1004 0) then (S 2 (g2 1018 0)) % 256 else 0) ≥ 65 ∧ (if (g2 1018 0) < (S 1004 0) then (S 2 (g2 1018 0)) % 256 else 0) ≤ 90 ∨ (if (g2 1018 0) < (S 1004 0) then (S 2 (g2 1018 0)) % 256 else 0) = 95 ∨ (if (g2 1018 0) < (S 1004 0) then (S 2 (g2 1018 0)) % 256 else 0) = 36) ∨ ((if (g2 1018 0) < (S 1004 0) then (S 2 (g2 1018 0)) % 256 else 0) ≥ 48 ∧ (if (g2 1018 0) < (S 1004 0) then (S 2 (g2 1018 0)) % 256 else 0) ≤ 57)))) → (sv_R (S 1012 0) → ((((1 : Int) = (0 : Int)) → (0 ≤ (S 1012 0) ∧ (S 1012 0) < 4002) ∧ (∀ r55 : Int, sv_R r55 → (sv_R l2_3 → r55 = l2_3) → ((S 1018 0) < (g2 1018 0) ∧ (g2 1018 0) ≤ (S 1004 0) ∧ ((if (S 1012 0) = (S 1012 0) then (6 : Int) else (S 6 (S 1012 0))) = 6 ∨ (if (S 1012 0) = (S 1012 0) then (6 : Int) else (S 6 (S 1012 0))) = 3) ∧ (∀ k : Int, k ≠ (S 1012 0) → (if k = (S 1012 0) then (6 : Int) else (S 6 k)) = (S 6 k))))) ∧ ((¬ ((1 : Int) = (0 : Int))) → (0 ≤ (S 1012 0) ∧ (S 1012 0) < 4002) ∧ (∀ r61 : Int, sv_R r61 → (sv_R l2_3 → r61 = l2_3) → ((S 1018 0) < (g2 1018 0) ∧ (g2 1018 0) ≤ (S 1004 0) ∧ ((if (S 1012 0) = (S 1012 0) then (3 : Int) else (S 6 (S 1012 0))) = 6 ∨ (if (S 1012 0) = (S 1012 0) then (3 : Int) else (S 6 (S 1012 0))) = 3) ∧ (∀ k : Int, k ≠ (S 1012 0) → (if k = (S 1012 0) then (3 : Int) else (S 6 k)) = (S 6 k)))))))))))))) ∧ (((g2 1018 0) < (S 1004 0)) → (0 ≤ (S 1004 0) ∧ (S 1004 0) ≤ 4000 ∧ 0 ≤ (g2 1018 0)) ∧ (sv_R ((if (g2 1018 0) < (S 1004 0) then (S 2 (g2 1018 0)) % 256 else 0))) ∧ (((¬ ((((if (g2 1018 0) < (S 1004 0) then (S 2 (g2 1018 0)) % 256 else 0)) ≥ 48 ∧ ((if (g2 1018 0) < (S 1004 0) then (S 2 (g2 1018 0)) % 256 else 0)) ≤ 57))) → (sv_R ((g2 1018 0) - (S 1018 0))) ∧ ((((10 : Int) < ((g2 1018 0) - (S 1018 0))) → (sv_R (S 1012 0) → ((((0 : Int) = (0 : Int)) → (0 ≤ (S 1012 0) ∧ (S 1012 0) < 4002) ∧ (∀ r71 : Int, sv_R r71 → (sv_R l2_3 → r71 = l2_3) → ((S 1018 0) < (g2 1018 0) ∧ (g2 1018 0) ≤ (S 1004 0) ∧ ((if (S 1012 0) = (S 1012 0) then (6 : Int) else (S 6 (S 1012 0))) = 6 ∨ (if (S 1012 0) = (S 1012 0) then (6 : Int) else (S 6 (S 1012 0))) = 3) ∧ (∀ k : Int, k ≠ (S 1012 0) → (if k = (S 1012 0) then (6 : Int) else (S 6 k)) = (S 6 k))))) ∧ ((¬ ((0 : Int) = (0 : Int))) → (0 ≤ (S 1012 0) ∧ (S 1012 0) < 4002) ∧ (∀ r77 : Int, sv_R r77 → (sv_R l2_3 → r77 = l2_3) → ((S 1018 0) < (g2 1018 0) ∧ (g2 1018 0) ≤ (S 1004 0) ∧ ((if (S 1012 0) = (S 1012 0) then (3 : Int) else (S 6 (S 1012 0))) = 6 ∨ (if (S 1012 0) = (S 1012 0) then (3 : Int) else (S 6 (S 1012 0))) = 3) ∧ (∀ k : Int, k ≠ (S 1012 0) → (if k = (S 1012 0) then (3 : Int) else (S 6 k)) = (S 6 k)))))))) ∧ ((¬ ((10 : Int) < ((g2 1018 0) - (S 1018 0)))) → ((((2147483647 : Int) < l2_3) → (sv_R (S 1012 0) → ((((0 : Int) = (0 : Int)) → (0 ≤ (S 1012 0) ∧ (S 1012 0) < 4002) ∧ (∀ r84 : Int, sv_R r84 → (sv_R l2_3 → r84 = l2_3) → ((S 1018 0) < (g2 1018 0) ∧ (g2 1018 0) ≤ (S 1004 0) ∧ ((if (S 1012 0) = (S 1012 0) then (6 : Int) else (S 6 (S 1012 0))) = 6 ∨ (if (S 1012 0) = (S 1012 0) then (6 : Int) else (S 6 (S 1012 0))) = 3) ∧ (∀ k : Int, k ≠ (S 1012 0) → (if k = (S 1012 0) then (6 : Int) else (S 6 k)) = (S 6 k))))) ∧ ((¬ ((0 : Int) = (0 : Int))) → (0 ≤ (S 1012 0) ∧ (S 1012 0) < 4002) ∧ (∀ r90 : Int, sv_R r90 → (sv_R l2_3 → r90 = l2_3) → ((S 1018 0) < (g2 1018 0) ∧ (g2 1018 0) ≤ (S 1004 0) ∧ ((if (S 1012 0) = (S 1012 0) then (3 : Int) else (S 6 (S 1012 0))) = 6 ∨ (if (S 1012 0) = (S 1012 0) then (3 : Int) else (S 6 (S 1012 0))) = 3) ∧ (∀ k : Int, k ≠ (S 1012 0) → (if k = (S 1012 0) then (3 : Int) else (S 6 k)) = (S 6 k)))))))) ∧ ((¬ ((2147483647 : Int) < l2_3)) → ((((g2 1018 0) < (S 1004 0) ∧ (((if (g2 1018 0) < (S 1004 0) then (S 2 (g2 1018 0)) % 256 else 0) ≥ 97 ∧ (if (g2 1018 0) < (S 1004 0) then (S 2 (g2 1018 0)) % 256 else 0) ≤ 122 ∨ (if (g2 1018 0) < (S 1004 0) then (S 2 (g2 1018 0)) % 256 else 0) ≥ 65 ∧ (if (g2 1018 0) < (S 1004 0) then (S 2 (g2 1018 0)) % 256 else 0) ≤ 90 ∨ (if (g2 1018 0) < (S 1004 0) then (S 2 (g2 1018 0)) % 256 else 0) = 95 ∨ (if (g2 1018 0) < (S 1004 0) then (S 2 (g2 1018 0)) % 256 else 0) = 36) ∨ ((if (g2 1018 0) < (S 1004 0) then (S 2 (g2 1018 0)) % 256 else 0) ≥ 48 ∧ (if (g2 1018 0) < (S 1004 0) then (S 2 (g2 1018 0)) % 256 else 0) ≤ 57))) → (sv_R (S 1012 0) → ((((0 : Int) = (0 : Int)) → (0 ≤ (S 1012 0) ∧ (S 1012 0) < 4002) ∧ (∀ r97 : Int, sv_R r97 → (sv_R l2_3 → r97 = l2_3) → ((S 1018 0) < (g2 1018 0) ∧ (g2 1018 0) ≤ (S 1004 0) ∧ ((if (S 1012 0) = (S 1012 0) then (6 : Int) else (S 6 (S 1012 0))) = 6 ∨ (if (S 1012 0) = (S 1012 0) then (6 : Int) else (S 6 (S 1012 0))) = 3) ∧ (∀ k : Int, k ≠ (S 1012 0) → (if k = (S 1012 0) then (6 : Int) else (S 6 k)) = (S 6 k))))) ∧ ((¬ ((0 : Int) = (0 : Int))) → (0 ≤ (S 1012 0) ∧ (S 1012 0) < 4002) ∧ (∀ r103 : Int, sv_R r103 → (sv_R l2_3 → r103 = l2_3) → ((S 1018 0) < (g2 1018 0) ∧ (g2 1018 0) ≤ (S 1004 0) ∧ ((if (S 1012 0) = (S 1012 0) then (3 : Int) else (S 6 (S 1012 0))) = 6 ∨ (if (S 1012 0) = (S 1012 0) then (3 : Int) else (S 6 (S 1012 0))) = 3) ∧ (∀ k : Int, k ≠ (S 1012 0) → (if k = (S 1012 0) then (3 : Int) else (S 6 k)) = (S 6 k)))))))) ∧ ((¬ ((g2 1018 0) < (S 1004 0) ∧ (((if (g2 1018 0) < (S 1004 0) then (S 2 (g2 1018 0)) % 256 else 0) ≥ 97 ∧ (if (g2 1018 0) < (S 1004 0) then (S 2 (g2 1018 0)) % 256 else 0) ≤ 122 ∨ (if (g2 1018 0) < (S 1004 0) then (S 2 (g2 1018 0)) % 256 else 0) ≥ 65 ∧ (if (g2 1018 0) < (S 1004 0) then (S 2 (g2 1018 0)) % 256 else 0) ≤ 90 ∨ (if (g2 1018 0) < (S 1004 0) then (S 2 (g2 1018 0)) % 256 else 0) = 95 ∨ (if (g2 1018 0) < (S 1004 0) then (S 2 (g2 1018 0)) % 256 else 0) = 36) ∨ ((if (g2 1018 0) < (S 1004 0) then (S 2 (g2 1018 0)) % 256 else 0) ≥ 48 ∧ (if (g2 1018 0) < (S 1004 0) then (S 2 (g2 1018 0)) % 256 else 0) ≤ 57)))) → (sv_R (S 1012 0) → ((((1 : Int) = (0 : Int)) → (0 ≤ (S 1012 0) ∧ (S 1012 0) < 4002) ∧ (∀ r110 : Int, sv_R r110 → (sv_R l2_3 → r110 = l2_3) → ((S 1018 0) < (g2 1018 0) ∧ (g2 1018 0) ≤ (S 1004 0) ∧ ((if (S 1012 0) = (S 1012 0) then (6 : Int) else (S 6 (S 1012 0))) = 6 ∨ (if (S 1012 0) = (S 1012 0) then (6 : Int) else (S 6 (S 1012 0))) = 3) ∧ (∀ k : Int, k ≠ (S 1012 0) → (if k = (S 1012 0) then (6 : Int) else (S 6 k)) = (S 6 k))))) ∧ ((¬ ((1 : Int) = (0 : Int))) → (0 ≤ (S 1012 0) ∧ (S 1012 0) < 4002) ∧ (∀ r116 : Int, sv_R r116 → (sv_R l2_3 → r116 = l2_3) → ((S 1018 0) < (g2 1018 0) ∧ (g2 1018 0) ≤ (S 1004 0) ∧ ((if (S 1012 0) = (S 1012 0) then (3 : Int) else (S 6 (S 1012 0))) = 6 ∨ (if (S 1012 0) = (S 1012 0) then (3 : Int) else (S 6 (S 1012 0))) = 3) ∧ (∀ k : Int, k ≠ (S 1012 0) → (if k = (S 1012 0) then (3 : Int) else (S 6 k)) = (S 6 k)))))))))))))) ∧ (((((if (g2 1018 0) < (S 1004 0) then (S 2 (g2 1018 0)) % 256 else 0)) ≥ 48 ∧ ((if (g2 1018 0) < (S 1004 0) then (S 2 (g2 1018 0)) % 256 else 0)) ≤ 57)) → (sv_R ((g2 1018 0) - (S 1018 0))) ∧ ((((10 : Int) ≤ ((g2 1018 0) - (S 1018 0))) → (sv_R ((g2 1018 0) + (1 : Int))) ∧ (((S 1018 0) ≤ ((g2 1018 0) + (1 : Int)) ∧ ((g2 1018 0) + (1 : Int)) ≤ (S 1004 0)) ∧ ((S 1004 0) - ((g2 1018 0) + (1 : Int))) < ((S 1004 0) - (g2 1018 0)))) ∧ ((¬ ((10 : Int) ≤ ((g2 1018 0) - (S 1018 0)))) → (∀ r124 : Int, sv_RL r124 → (∀ r125 : Int, sv_RL r125 → (∀ r126 : Int, sv_RL r126 → (sv_R ((g2 1018 0) + (1 : Int))) ∧ (((S 1018 0) ≤ ((g2 1018 0) + (1 : Int)) ∧ ((g2 1018 0) + (1 : Int)) ≤ (S 1004 0)) ∧ ((S 1004 0) - ((g2 1018 0) + (1 : Int))) < ((S 1004 0) - (g2 1018 0)))))))))))))))) := by
  intro S hok hpre
  repeat' (first | (refine And.intro ?_ ?_) | (intro _))
  all_goals first | assumption | omega | grind
set_option maxRecDepth 8000 in
set_option maxHeartbeats 2000000 in
theorem t_cutNumber : ∀ (S : sv_S), sm_ok S → (0 ≤ (S 1004 0) ∧ (S 1004 0) ≤ 4000 ∧ 0 ≤ (S 1018 0) ∧ (S 1018 0) ≤ (S 1004 0) ∧ 0 ≤ (S 1012 0) ∧ (S 1012 0) ≤ 4001 ∧ (S 1018 0) < (S 1004 0) ∧ ((if (S 1018 0) < (S 1004 0) then (S 2 (S 1018 0)) % 256 else 0) ≥ 48 ∧ (if (S 1018 0) < (S 1004 0) then (S 2 (S 1018 0)) % 256 else 0) ≤ 57)) → sv_T sm_XS sm_cs sm_L sm_sh 2 (q_cutNumber S) 20 0 (lv_args 0 [.ref 0]) [] S := by
  intro S hok hpre
  have h := f_cutNumber S hok hpre
  have hM := sm_h20
  show sv_T sm_XS sm_cs sm_L sm_sh 2 (q_cutNumber S) 20 0 [(0, .ref 0)] [] S
  refine sv_aload_n hM dX12_cutNumber_0 rfl rfl ?_
  have k1 : sv_R (S 1018 0) := sm_okI hok sm_r1018 0
  have h := h k1
  refine sv_getI hM dX12_cutNumber_1 sm_fl_344 (sm_a0 _) sm_k18 rfl (x := (S 1018 0)) rfl ?_
  refine sv_istore_n hM dX12_cutNumber_4 (by decide) rfl ?_
  show sv_T sm_XS sm_cs sm_L sm_sh 2 (q_cutNumber S) 20 5 [(0, .ref 0), (1, sv_I (S 1018 0))] [] S
  refine sv_lconst (d := (0 : Int)) hM dX12_cutNumber_5 rfl rfl ?_
  refine sv_lstore_n hM dX12_cutNumber_6 (by decide) rfl ?_
  show sv_T sm_XS sm_cs sm_L sm_sh 2 (q_cutNumber S) 20 7 [(0, .ref 0), (1, sv_I (S 1018 0)), (2, sv_L (0 : Int))] [] S
  obtain ⟨hin5, h⟩ := h
  have hJ : ∀ a : Int × sv_S, (sv_RL a.1 ∧ sm_ok (sv_sts S [1018] a.2) ∧ ((S 1018 0) ≤ (a.2 1018 0) ∧ (a.2 1018 0) ≤ (S 1004 0))) → sv_T sm_XS sm_cs sm_L sm_sh 2 (q_cutNumber S) 20 7 [(0, .ref 0), (1, sv_I (S 1018 0)), (2, sv_L a.1)] [] (sv_sts S [1018] a.2) := by
    refine sv_loop (α := Int × sv_S) (fun a => sv_RL a.1 ∧ sm_ok (sv_sts S [1018] a.2) ∧ ((S 1018 0) ≤ (a.2 1018 0) ∧ (a.2 1018 0) ≤ (S 1004 0))) (fun a => (S 1004 0) - (a.2 1018 0)) (fun a => sv_T sm_XS sm_cs sm_L sm_sh 2 (q_cutNumber S) 20 7 [(0, .ref 0), (1, sv_I (S 1018 0)), (2, sv_L a.1)] [] (sv_sts S [1018] a.2)) (fun a q => (h a.1 q.1 a.2 q.2.2).1) (fun a q ih4 => ?_)
    obtain ⟨l2_3, g2⟩ := a
    obtain ⟨hl2_3, ok6, hin5i⟩ := q
    have h := (h l2_3 hl2_3 g2 hin5i).2
    show sv_T sm_XS sm_cs sm_L sm_sh 2 (q_cutNumber S) 20 7 [(0, .ref 0), (1, sv_I (S 1018 0)), (2, sv_L l2_3)] [] (sv_sts S [1018] g2)
    have md7 : sv_mod [1018, 7, 6] S (sv_sts S [1018] g2) := sv_mod.sts sv_mod.rf (by decide)
    have md8 : sv_mod [1018] S (sv_sts S [1018] g2) := sv_mod.sts sv_mod.rf (by decide)
    refine sv_aload_n hM dX12_cutNumber_7 rfl rfl ?_
    refine sv_aload_n hM dX12_cutNumber_8 rfl rfl ?_
    have k9 : sv_R (g2 1018 0) := sm_okI ok6 sm_r1018 0
    have h := h k9
    refine sv_getI hM dX12_cutNumber_9 sm_fl_344 (sm_a0 _) sm_k18 rfl (x := (g2 1018 0)) rfl ?_
    refine sv_callV hM dX12_cutNumber_12 sm_iv_331 (by decide) (sm_a0 _) rfl rfl (Nat.le_of_ble_eq_true rfl) sm_h11 (Nat.le_of_ble_eq_true rfl) (Nat.le_of_ble_eq_true rfl) (F' := 0) (Nat.le_of_ble_eq_true rfl) rfl (t_isThere (g2 1018 0) (sv_sts S [1018] g2) ok6 k9) (fun v S1 hq => ?_)
    obtain ⟨rfl, hS1⟩ := hq
    obtain rfl : (sv_sts S [1018] g2) = S1 := hS1.symm
    show sv_T sm_XS sm_cs sm_L sm_sh 2 (q_cutNumber S) 20 15 [(0, .ref 0), (1, sv_I (S 1018 0)), (2, sv_L l2_3)] [sv_I (if (g2 1018 0) < (S 1004 0) then 1 else 0)] (sv_sts S [1018] g2)
    refine sv_cond_eq hM dX12_cutNumber_15 (sv_Rite : sv_R (if (g2 1018 0) < (S 1004 0) then 1 else 0)) (t := 80) rfl rfl (fun hc => ?_) (fun hc => ?_)
    · have h := h.1 (sv_iten hc)
      refine sv_aload_n hM dX12_cutNumber_80 rfl rfl ?_
      refine sv_getI hM dX12_cutNumber_81 sm_fl_344 (sm_a0 _) sm_k18 rfl (x := (g2 1018 0)) rfl ?_
      refine sv_iload_n hM dX12_cutNumber_84 rfl rfl ?_
      refine sv_isub hM dX12_cutNumber_85 rfl ?_
      refine sv_bipush (d := (10 : Int)) hM dX12_cutNumber_86 rfl rfl ?_
      obtain ⟨o10, h⟩ := h
      refine sv_icmp_gt hM dX12_cutNumber_88 o10 (⟨by decide, by decide⟩ : sv_R (10 : Int)) (t := 114) rfl rfl (fun hc => ?_) (fun hc => ?_)
      · have h := h.1 (hc)
        refine sv_iconst (d := (0 : Int)) hM dX12_cutNumber_114 rfl rfl ?_
        refine sv_istore hM dX12_cutNumber_115 (by decide) rfl ?_
        show sv_T sm_XS sm_cs sm_L sm_sh 2 (q_cutNumber S) 20 117 [(0, .ref 0), (1, sv_I (S 1018 0)), (2, sv_L l2_3), (4, sv_I (0 : Int))] [] (sv_sts S [1018] g2)
        refine sv_aload_n hM dX12_cutNumber_117 rfl rfl ?_
        refine sv_getA hM dX12_cutNumber_118 sm_fl_27 (sm_a0 _) sm_k13 rfl ?_
        refine sv_aload_n hM dX12_cutNumber_121 rfl rfl ?_
        have k11 : sv_R (S 1012 0) := sm_okI ok6 sm_r1012 0
        have h := h k11
        refine sv_getI hM dX12_cutNumber_122 sm_fl_350 (sm_a0 _) sm_k12 rfl (x := (S 1012 0)) rfl ?_
        refine sv_iload hM dX12_cutNumber_125 rfl rfl ?_
        refine sv_cond_eq hM dX12_cutNumber_127 (⟨by decide, by decide⟩ : sv_R (0 : Int)) (t := 134) rfl rfl (fun hc => ?_) (fun hc => ?_)
        · have h := h.1 (hc)
          refine sv_bipush (d := (6 : Int)) hM dX12_cutNumber_134 rfl rfl ?_
          obtain ⟨o12, h⟩ := h
          refine sv_iast sm_X hM dX12_cutNumber_136 (sm_a6 _) (by decide) o12.1 o12.2 rfl ?_
          have ok13 : sm_ok (sv_up (sv_sts S [1018] g2) 6 (S 1012 0) (6 : Int)) := sm_upI ok6 sm_r6 (⟨by decide, by decide⟩ : sv_R (6 : Int))
          have md14 : sv_mod [1018, 7, 6] S (sv_up (sv_sts S [1018] g2) 6 (S 1012 0) (6 : Int)) := sv_mod.up md7 (by decide)
          refine sv_aload_n hM dX12_cutNumber_137 rfl rfl ?_
          refine sv_getA hM dX12_cutNumber_138 sm_fl_30 (sm_a0 _) sm_k14 rfl ?_
          refine sv_aload_n hM dX12_cutNumber_141 rfl rfl ?_
          refine sv_getI hM dX12_cutNumber_142 sm_fl_350 (sm_a0 _) sm_k12 rfl (x := (S 1012 0)) rfl ?_
          refine sv_lload_n hM dX12_cutNumber_145 rfl rfl ?_
          refine sv_l2iR hM dX12_cutNumber_146 rfl (fun r15 hr15 er15 => ?_)
          have h := h r15 hr15 er15
          refine sv_iast sm_X hM dX12_cutNumber_147 (sm_a7 _) (by decide) o12.1 o12.2 rfl ?_
          have ok16 : sm_ok (sv_up (sv_up (sv_sts S [1018] g2) 6 (S 1012 0) (6 : Int)) 7 (S 1012 0) r15) := sm_upI ok13 sm_r7 hr15
          have md17 : sv_mod [1018, 7, 6] S (sv_up (sv_up (sv_sts S [1018] g2) 6 (S 1012 0) (6 : Int)) 7 (S 1012 0) r15) := sv_mod.up md14 (by decide)
          exact sv_vret hM dX12_cutNumber_148 rfl ⟨rfl, ok16, md17, h⟩
        · have h := h.2 (hc)
          refine sv_iconst (d := (3 : Int)) hM dX12_cutNumber_130 rfl rfl ?_
          refine sv_goto hM dX12_cutNumber_131 (pc' := 136) rfl ?_
          obtain ⟨o18, h⟩ := h
          refine sv_iast sm_X hM dX12_cutNumber_136 (sm_a6 _) (by decide) o18.1 o18.2 rfl ?_
          have ok19 : sm_ok (sv_up (sv_sts S [1018] g2) 6 (S 1012 0) (3 : Int)) := sm_upI ok6 sm_r6 (⟨by decide, by decide⟩ : sv_R (3 : Int))
          have md20 : sv_mod [1018, 7, 6] S (sv_up (sv_sts S [1018] g2) 6 (S 1012 0) (3 : Int)) := sv_mod.up md7 (by decide)
          refine sv_aload_n hM dX12_cutNumber_137 rfl rfl ?_
          refine sv_getA hM dX12_cutNumber_138 sm_fl_30 (sm_a0 _) sm_k14 rfl ?_
          refine sv_aload_n hM dX12_cutNumber_141 rfl rfl ?_
          refine sv_getI hM dX12_cutNumber_142 sm_fl_350 (sm_a0 _) sm_k12 rfl (x := (S 1012 0)) rfl ?_
          refine sv_lload_n hM dX12_cutNumber_145 rfl rfl ?_
          refine sv_l2iR hM dX12_cutNumber_146 rfl (fun r21 hr21 er21 => ?_)
          have h := h r21 hr21 er21
          refine sv_iast sm_X hM dX12_cutNumber_147 (sm_a7 _) (by decide) o18.1 o18.2 rfl ?_
          have ok22 : sm_ok (sv_up (sv_up (sv_sts S [1018] g2) 6 (S 1012 0) (3 : Int)) 7 (S 1012 0) r21) := sm_upI ok19 sm_r7 hr21
          have md23 : sv_mod [1018, 7, 6] S (sv_up (sv_up (sv_sts S [1018] g2) 6 (S 1012 0) (3 : Int)) 7 (S 1012 0) r21) := sv_mod.up md20 (by decide)
          exact sv_vret hM dX12_cutNumber_148 rfl ⟨rfl, ok22, md23, h⟩
      · have h := h.2 (hc)
        refine sv_lload_n hM dX12_cutNumber_91 rfl rfl ?_
        refine sv_ldc2_w (d := (2147483647 : Int)) hM dX12_cutNumber_92 sm_ck_385 rfl rfl ?_
        refine sv_lcmp hM dX12_cutNumber_95 hl2_3 (⟨by decide, by decide⟩ : sv_RL (2147483647 : Int)) rfl ?_
        refine sv_cond_gt hM dX12_cutNumber_96 sv_Rcmp (t := 114) rfl rfl (fun hc => ?_) (fun hc => ?_)
        · have h := h.1 ((sv_cmp_gt).mp hc)
          refine sv_iconst (d := (0 : Int)) hM dX12_cutNumber_114 rfl rfl ?_
          refine sv_istore hM dX12_cutNumber_115 (by decide) rfl ?_
          show sv_T sm_XS sm_cs sm_L sm_sh 2 (q_cutNumber S) 20 117 [(0, .ref 0), (1, sv_I (S 1018 0)), (2, sv_L l2_3), (4, sv_I (0 : Int))] [] (sv_sts S [1018] g2)
          refine sv_aload_n hM dX12_cutNumber_117 rfl rfl ?_
          refine sv_getA hM dX12_cutNumber_118 sm_fl_27 (sm_a0 _) sm_k13 rfl ?_
          refine sv_aload_n hM dX12_cutNumber_121 rfl rfl ?_
          have k24 : sv_R (S 1012 0) := sm_okI ok6 sm_r1012 0
          have h := h k24
          refine sv_getI hM dX12_cutNumber_122 sm_fl_350 (sm_a0 _) sm_k12 rfl (x := (S 1012 0)) rfl ?_
          refine sv_iload hM dX12_cutNumber_125 rfl rfl ?_
          refine sv_cond_eq hM dX12_cutNumber_127 (⟨by decide, by decide⟩ : sv_R (0 : Int)) (t := 134) rfl rfl (fun hc => ?_) (fun hc => ?_)
          · have h := h.1 (hc)
            refine sv_bipush (d := (6 : Int)) hM dX12_cutNumber_134 rfl rfl ?_
            obtain ⟨o25, h⟩ := h
            refine sv_iast sm_X hM dX12_cutNumber_136 (sm_a6 _) (by decide) o25.1 o25.2 rfl ?_
            have ok26 : sm_ok (sv_up (sv_sts S [1018] g2) 6 (S 1012 0) (6 : Int)) := sm_upI ok6 sm_r6 (⟨by decide, by decide⟩ : sv_R (6 : Int))
            have md27 : sv_mod [1018, 7, 6] S (sv_up (sv_sts S [1018] g2) 6 (S 1012 0) (6 : Int)) := sv_mod.up md7 (by decide)
            refine sv_aload_n hM dX12_cutNumber_137 rfl rfl ?_
            refine sv_getA hM dX12_cutNumber_138 sm_fl_30 (sm_a0 _) sm_k14 rfl ?_
            refine sv_aload_n hM dX12_cutNumber_141 rfl rfl ?_
            refine sv_getI hM dX12_cutNumber_142 sm_fl_350 (sm_a0 _) sm_k12 rfl (x := (S 1012 0)) rfl ?_
            refine sv_lload_n hM dX12_cutNumber_145 rfl rfl ?_
            refine sv_l2iR hM dX12_cutNumber_146 rfl (fun r28 hr28 er28 => ?_)
            have h := h r28 hr28 er28
            refine sv_iast sm_X hM dX12_cutNumber_147 (sm_a7 _) (by decide) o25.1 o25.2 rfl ?_
            have ok29 : sm_ok (sv_up (sv_up (sv_sts S [1018] g2) 6 (S 1012 0) (6 : Int)) 7 (S 1012 0) r28) := sm_upI ok26 sm_r7 hr28
            have md30 : sv_mod [1018, 7, 6] S (sv_up (sv_up (sv_sts S [1018] g2) 6 (S 1012 0) (6 : Int)) 7 (S 1012 0) r28) := sv_mod.up md27 (by decide)
            exact sv_vret hM dX12_cutNumber_148 rfl ⟨rfl, ok29, md30, h⟩
          · have h := h.2 (hc)
            refine sv_iconst (d := (3 : Int)) hM dX12_cutNumber_130 rfl rfl ?_
            refine sv_goto hM dX12_cutNumber_131 (pc' := 136) rfl ?_
            obtain ⟨o31, h⟩ := h
            refine sv_iast sm_X hM dX12_cutNumber_136 (sm_a6 _) (by decide) o31.1 o31.2 rfl ?_
            have ok32 : sm_ok (sv_up (sv_sts S [1018] g2) 6 (S 1012 0) (3 : Int)) := sm_upI ok6 sm_r6 (⟨by decide, by decide⟩ : sv_R (3 : Int))
            have md33 : sv_mod [1018, 7, 6] S (sv_up (sv_sts S [1018] g2) 6 (S 1012 0) (3 : Int)) := sv_mod.up md7 (by decide)
            refine sv_aload_n hM dX12_cutNumber_137 rfl rfl ?_
            refine sv_getA hM dX12_cutNumber_138 sm_fl_30 (sm_a0 _) sm_k14 rfl ?_
            refine sv_aload_n hM dX12_cutNumber_141 rfl rfl ?_
            refine sv_getI hM dX12_cutNumber_142 sm_fl_350 (sm_a0 _) sm_k12 rfl (x := (S 1012 0)) rfl ?_
            refine sv_lload_n hM dX12_cutNumber_145 rfl rfl ?_
            refine sv_l2iR hM dX12_cutNumber_146 rfl (fun r34 hr34 er34 => ?_)
            have h := h r34 hr34 er34
            refine sv_iast sm_X hM dX12_cutNumber_147 (sm_a7 _) (by decide) o31.1 o31.2 rfl ?_
            have ok35 : sm_ok (sv_up (sv_up (sv_sts S [1018] g2) 6 (S 1012 0) (3 : Int)) 7 (S 1012 0) r34) := sm_upI ok32 sm_r7 hr34
            have md36 : sv_mod [1018, 7, 6] S (sv_up (sv_up (sv_sts S [1018] g2) 6 (S 1012 0) (3 : Int)) 7 (S 1012 0) r34) := sv_mod.up md33 (by decide)
            exact sv_vret hM dX12_cutNumber_148 rfl ⟨rfl, ok35, md36, h⟩
        · have h := h.2 (fun q => hc ((sv_cmp_gt).mpr q))
          refine sv_aload_n hM dX12_cutNumber_99 rfl rfl ?_
          refine sv_aload_n hM dX12_cutNumber_100 rfl rfl ?_
          refine sv_getI hM dX12_cutNumber_101 sm_fl_344 (sm_a0 _) sm_k18 rfl (x := (g2 1018 0)) rfl ?_
          obtain ⟨o37, h⟩ := h
          refine sv_callV hM dX12_cutNumber_104 sm_iv_372 (by decide) (sm_a0 _) rfl rfl (Nat.le_of_ble_eq_true rfl) sm_h14 (Nat.le_of_ble_eq_true rfl) (Nat.le_of_ble_eq_true rfl) (F' := 1) (Nat.le_of_ble_eq_true rfl) rfl (t_isWordly (g2 1018 0) (sv_sts S [1018] g2) ok6 k9 o37) (fun v S1 hq => ?_)
          obtain ⟨rfl, hS1⟩ := hq
          obtain rfl : (sv_sts S [1018] g2) = S1 := hS1.symm
          show sv_T sm_XS sm_cs sm_L sm_sh 2 (q_cutNumber S) 20 107 [(0, .ref 0), (1, sv_I (S 1018 0)), (2, sv_L l2_3)] [sv_I (if (g2 1018 0) < (S 1004 0) ∧ (((if (g2 1018 0) < (S 1004 0) then (S 2 (g2 1018 0)) % 256 else 0) ≥ 97 ∧ (if (g2 1018 0) < (S 1004 0) then (S 2 (g2 1018 0)) % 256 else 0) ≤ 122 ∨ (if (g2 1018 0) < (S 1004 0) then (S 2 (g2 1018 0)) % 256 else 0) ≥ 65 ∧ (if (g2 1018 0) < (S 1004 0) then (S 2 (g2 1018 0)) % 256 else 0) ≤ 90 ∨ (if (g2 1018 0) < (S 1004 0) then (S 2 (g2 1018 0)) % 256 else 0) = 95 ∨ (if (g2 1018 0) < (S 1004 0) then (S 2 (g2 1018 0)) % 256 else 0) = 36) ∨ ((if (g2 1018 0) < (S 1004 0) then (S 2 (g2 1018 0)) % 256 else 0) ≥ 48 ∧ (if (g2 1018 0) < (S 1004 0) then (S 2 (g2 1018 0)) % 256 else 0) ≤ 57)) then 1 else 0)] (sv_sts S [1018] g2)
          refine sv_cond_ne hM dX12_cutNumber_107 (sv_Rite : sv_R (if (g2 1018 0) < (S 1004 0) ∧ (((if (g2 1018 0) < (S 1004 0) then (S 2 (g2 1018 0)) % 256 else 0) ≥ 97 ∧ (if (g2 1018 0) < (S 1004 0) then (S 2 (g2 1018 0)) % 256 else 0) ≤ 122 ∨ (if (g2 1018 0) < (S 1004 0) then (S 2 (g2 1018 0)) % 256 else 0) ≥ 65 ∧ (if (g2 1018 0) < (S 1004 0) then (S 2 (g2 1018 0)) % 256 else 0) ≤ 90 ∨ (if (g2 1018 0) < (S 1004 0) then (S 2 (g2 1018 0)) % 256 else 0) = 95 ∨ (if (g2 1018 0) < (S 1004 0) then (S 2 (g2 1018 0)) % 256 else 0) = 36) ∨ ((if (g2 1018 0) < (S 1004 0) then (S 2 (g2 1018 0)) % 256 else 0) ≥ 48 ∧ (if (g2 1018 0) < (S 1004 0) then (S 2 (g2 1018 0)) % 256 else 0) ≤ 57)) then 1 else 0)) (t := 114) rfl rfl (fun hc => ?_) (fun hc => ?_)
          · have h := h.1 (sv_itep hc)
            refine sv_iconst (d := (0 : Int)) hM dX12_cutNumber_114 rfl rfl ?_
            refine sv_istore hM dX12_cutNumber_115 (by decide) rfl ?_
            show sv_T sm_XS sm_cs sm_L sm_sh 2 (q_cutNumber S) 20 117 [(0, .ref 0), (1, sv_I (S 1018 0)), (2, sv_L l2_3), (4, sv_I (0 : Int))] [] (sv_sts S [1018] g2)
            refine sv_aload_n hM dX12_cutNumber_117 rfl rfl ?_
            refine sv_getA hM dX12_cutNumber_118 sm_fl_27 (sm_a0 _) sm_k13 rfl ?_
            refine sv_aload_n hM dX12_cutNumber_121 rfl rfl ?_
            have k38 : sv_R (S 1012 0) := sm_okI ok6 sm_r1012 0
            have h := h k38
            refine sv_getI hM dX12_cutNumber_122 sm_fl_350 (sm_a0 _) sm_k12 rfl (x := (S 1012 0)) rfl ?_
            refine sv_iload hM dX12_cutNumber_125 rfl rfl ?_
            refine sv_cond_eq hM dX12_cutNumber_127 (⟨by decide, by decide⟩ : sv_R (0 : Int)) (t := 134) rfl rfl (fun hc => ?_) (fun hc => ?_)
            · have h := h.1 (hc)
              refine sv_bipush (d := (6 : Int)) hM dX12_cutNumber_134 rfl rfl ?_
              obtain ⟨o39, h⟩ := h
              refine sv_iast sm_X hM dX12_cutNumber_136 (sm_a6 _) (by decide) o39.1 o39.2 rfl ?_
              have ok40 : sm_ok (sv_up (sv_sts S [1018] g2) 6 (S 1012 0) (6 : Int)) := sm_upI ok6 sm_r6 (⟨by decide, by decide⟩ : sv_R (6 : Int))
              have md41 : sv_mod [1018, 7, 6] S (sv_up (sv_sts S [1018] g2) 6 (S 1012 0) (6 : Int)) := sv_mod.up md7 (by decide)
              refine sv_aload_n hM dX12_cutNumber_137 rfl rfl ?_
              refine sv_getA hM dX12_cutNumber_138 sm_fl_30 (sm_a0 _) sm_k14 rfl ?_
              refine sv_aload_n hM dX12_cutNumber_141 rfl rfl ?_
              refine sv_getI hM dX12_cutNumber_142 sm_fl_350 (sm_a0 _) sm_k12 rfl (x := (S 1012 0)) rfl ?_
              refine sv_lload_n hM dX12_cutNumber_145 rfl rfl ?_
              refine sv_l2iR hM dX12_cutNumber_146 rfl (fun r42 hr42 er42 => ?_)
              have h := h r42 hr42 er42
              refine sv_iast sm_X hM dX12_cutNumber_147 (sm_a7 _) (by decide) o39.1 o39.2 rfl ?_
              have ok43 : sm_ok (sv_up (sv_up (sv_sts S [1018] g2) 6 (S 1012 0) (6 : Int)) 7 (S 1012 0) r42) := sm_upI ok40 sm_r7 hr42
              have md44 : sv_mod [1018, 7, 6] S (sv_up (sv_up (sv_sts S [1018] g2) 6 (S 1012 0) (6 : Int)) 7 (S 1012 0) r42) := sv_mod.up md41 (by decide)
              exact sv_vret hM dX12_cutNumber_148 rfl ⟨rfl, ok43, md44, h⟩
            · have h := h.2 (hc)
              refine sv_iconst (d := (3 : Int)) hM dX12_cutNumber_130 rfl rfl ?_
              refine sv_goto hM dX12_cutNumber_131 (pc' := 136) rfl ?_
              obtain ⟨o45, h⟩ := h
              refine sv_iast sm_X hM dX12_cutNumber_136 (sm_a6 _) (by decide) o45.1 o45.2 rfl ?_
              have ok46 : sm_ok (sv_up (sv_sts S [1018] g2) 6 (S 1012 0) (3 : Int)) := sm_upI ok6 sm_r6 (⟨by decide, by decide⟩ : sv_R (3 : Int))
              have md47 : sv_mod [1018, 7, 6] S (sv_up (sv_sts S [1018] g2) 6 (S 1012 0) (3 : Int)) := sv_mod.up md7 (by decide)
              refine sv_aload_n hM dX12_cutNumber_137 rfl rfl ?_
              refine sv_getA hM dX12_cutNumber_138 sm_fl_30 (sm_a0 _) sm_k14 rfl ?_
              refine sv_aload_n hM dX12_cutNumber_141 rfl rfl ?_
              refine sv_getI hM dX12_cutNumber_142 sm_fl_350 (sm_a0 _) sm_k12 rfl (x := (S 1012 0)) rfl ?_
              refine sv_lload_n hM dX12_cutNumber_145 rfl rfl ?_
              refine sv_l2iR hM dX12_cutNumber_146 rfl (fun r48 hr48 er48 => ?_)
              have h := h r48 hr48 er48
              refine sv_iast sm_X hM dX12_cutNumber_147 (sm_a7 _) (by decide) o45.1 o45.2 rfl ?_
              have ok49 : sm_ok (sv_up (sv_up (sv_sts S [1018] g2) 6 (S 1012 0) (3 : Int)) 7 (S 1012 0) r48) := sm_upI ok46 sm_r7 hr48
              have md50 : sv_mod [1018, 7, 6] S (sv_up (sv_up (sv_sts S [1018] g2) 6 (S 1012 0) (3 : Int)) 7 (S 1012 0) r48) := sv_mod.up md47 (by decide)
              exact sv_vret hM dX12_cutNumber_148 rfl ⟨rfl, ok49, md50, h⟩
          · have h := h.2 (fun q => hc (by rw [if_pos q]; decide))
            refine sv_iconst (d := (1 : Int)) hM dX12_cutNumber_110 rfl rfl ?_
            refine sv_goto hM dX12_cutNumber_111 (pc' := 115) rfl ?_
            refine sv_istore hM dX12_cutNumber_115 (by decide) rfl ?_
            show sv_T sm_XS sm_cs sm_L sm_sh 2 (q_cutNumber S) 20 117 [(0, .ref 0), (1, sv_I (S 1018 0)), (2, sv_L l2_3), (4, sv_I (1 : Int))] [] (sv_sts S [1018] g2)
            refine sv_aload_n hM dX12_cutNumber_117 rfl rfl ?_
            refine sv_getA hM dX12_cutNumber_118 sm_fl_27 (sm_a0 _) sm_k13 rfl ?_
            refine sv_aload_n hM dX12_cutNumber_121 rfl rfl ?_
            have k51 : sv_R (S 1012 0) := sm_okI ok6 sm_r1012 0
            have h := h k51
            refine sv_getI hM dX12_cutNumber_122 sm_fl_350 (sm_a0 _) sm_k12 rfl (x := (S 1012 0)) rfl ?_
            refine sv_iload hM dX12_cutNumber_125 rfl rfl ?_
            refine sv_cond_eq hM dX12_cutNumber_127 (⟨by decide, by decide⟩ : sv_R (1 : Int)) (t := 134) rfl rfl (fun hc => ?_) (fun hc => ?_)
            · have h := h.1 (hc)
              refine sv_bipush (d := (6 : Int)) hM dX12_cutNumber_134 rfl rfl ?_
              obtain ⟨o52, h⟩ := h
              refine sv_iast sm_X hM dX12_cutNumber_136 (sm_a6 _) (by decide) o52.1 o52.2 rfl ?_
              have ok53 : sm_ok (sv_up (sv_sts S [1018] g2) 6 (S 1012 0) (6 : Int)) := sm_upI ok6 sm_r6 (⟨by decide, by decide⟩ : sv_R (6 : Int))
              have md54 : sv_mod [1018, 7, 6] S (sv_up (sv_sts S [1018] g2) 6 (S 1012 0) (6 : Int)) := sv_mod.up md7 (by decide)
              refine sv_aload_n hM dX12_cutNumber_137 rfl rfl ?_
              refine sv_getA hM dX12_cutNumber_138 sm_fl_30 (sm_a0 _) sm_k14 rfl ?_
              refine sv_aload_n hM dX12_cutNumber_141 rfl rfl ?_
              refine sv_getI hM dX12_cutNumber_142 sm_fl_350 (sm_a0 _) sm_k12 rfl (x := (S 1012 0)) rfl ?_
              refine sv_lload_n hM dX12_cutNumber_145 rfl rfl ?_
              refine sv_l2iR hM dX12_cutNumber_146 rfl (fun r55 hr55 er55 => ?_)
              have h := h r55 hr55 er55
              refine sv_iast sm_X hM dX12_cutNumber_147 (sm_a7 _) (by decide) o52.1 o52.2 rfl ?_
              have ok56 : sm_ok (sv_up (sv_up (sv_sts S [1018] g2) 6 (S 1012 0) (6 : Int)) 7 (S 1012 0) r55) := sm_upI ok53 sm_r7 hr55
              have md57 : sv_mod [1018, 7, 6] S (sv_up (sv_up (sv_sts S [1018] g2) 6 (S 1012 0) (6 : Int)) 7 (S 1012 0) r55) := sv_mod.up md54 (by decide)
              exact sv_vret hM dX12_cutNumber_148 rfl ⟨rfl, ok56, md57, h⟩
            · have h := h.2 (hc)
              refine sv_iconst (d := (3 : Int)) hM dX12_cutNumber_130 rfl rfl ?_
              refine sv_goto hM dX12_cutNumber_131 (pc' := 136) rfl ?_
              obtain ⟨o58, h⟩ := h
              refine sv_iast sm_X hM dX12_cutNumber_136 (sm_a6 _) (by decide) o58.1 o58.2 rfl ?_
              have ok59 : sm_ok (sv_up (sv_sts S [1018] g2) 6 (S 1012 0) (3 : Int)) := sm_upI ok6 sm_r6 (⟨by decide, by decide⟩ : sv_R (3 : Int))
              have md60 : sv_mod [1018, 7, 6] S (sv_up (sv_sts S [1018] g2) 6 (S 1012 0) (3 : Int)) := sv_mod.up md7 (by decide)
              refine sv_aload_n hM dX12_cutNumber_137 rfl rfl ?_
              refine sv_getA hM dX12_cutNumber_138 sm_fl_30 (sm_a0 _) sm_k14 rfl ?_
              refine sv_aload_n hM dX12_cutNumber_141 rfl rfl ?_
              refine sv_getI hM dX12_cutNumber_142 sm_fl_350 (sm_a0 _) sm_k12 rfl (x := (S 1012 0)) rfl ?_
              refine sv_lload_n hM dX12_cutNumber_145 rfl rfl ?_
              refine sv_l2iR hM dX12_cutNumber_146 rfl (fun r61 hr61 er61 => ?_)
              have h := h r61 hr61 er61
              refine sv_iast sm_X hM dX12_cutNumber_147 (sm_a7 _) (by decide) o58.1 o58.2 rfl ?_
              have ok62 : sm_ok (sv_up (sv_up (sv_sts S [1018] g2) 6 (S 1012 0) (3 : Int)) 7 (S 1012 0) r61) := sm_upI ok59 sm_r7 hr61
              have md63 : sv_mod [1018, 7, 6] S (sv_up (sv_up (sv_sts S [1018] g2) 6 (S 1012 0) (3 : Int)) 7 (S 1012 0) r61) := sv_mod.up md60 (by decide)
              exact sv_vret hM dX12_cutNumber_148 rfl ⟨rfl, ok62, md63, h⟩
    · have h := h.2 (sv_itep hc)
      refine sv_aload_n hM dX12_cutNumber_18 rfl rfl ?_
      refine sv_aload_n hM dX12_cutNumber_19 rfl rfl ?_
      refine sv_getI hM dX12_cutNumber_20 sm_fl_344 (sm_a0 _) sm_k18 rfl (x := (g2 1018 0)) rfl ?_
      obtain ⟨o64, h⟩ := h
      refine sv_callV hM dX12_cutNumber_23 sm_iv_334 (by decide) (sm_a0 _) rfl rfl (Nat.le_of_ble_eq_true rfl) sm_h10 (Nat.le_of_ble_eq_true rfl) (Nat.le_of_ble_eq_true rfl) (F' := 0) (Nat.le_of_ble_eq_true rfl) rfl (t_look (g2 1018 0) (sv_sts S [1018] g2) ok6 k9 o64) (fun v S1 hq => ?_)
      obtain ⟨rfl, hS1⟩ := hq
      obtain rfl : (sv_sts S [1018] g2) = S1 := hS1.symm
      show sv_T sm_XS sm_cs sm_L sm_sh 2 (q_cutNumber S) 20 26 [(0, .ref 0), (1, sv_I (S 1018 0)), (2, sv_L l2_3)] [sv_I ((if (g2 1018 0) < (S 1004 0) then (S 2 (g2 1018 0)) % 256 else 0))] (sv_sts S [1018] g2)
      obtain ⟨o65, h⟩ := h
      refine sv_callS hM dX12_cutNumber_26 sm_iv_341 (Nat.le_of_ble_eq_true rfl) rfl rfl (Nat.le_of_ble_eq_true rfl) sm_h13 (Nat.le_of_ble_eq_true rfl) (Nat.le_of_ble_eq_true rfl) (F' := 0) (Nat.le_of_ble_eq_true rfl) rfl (t_isDigit ((if (g2 1018 0) < (S 1004 0) then (S 2 (g2 1018 0)) % 256 else 0)) (sv_sts S [1018] g2) ok6 o65) (fun v S1 hq => ?_)
      obtain ⟨rfl, hS1⟩ := hq
      obtain rfl : (sv_sts S [1018] g2) = S1 := hS1.symm
      show sv_T sm_XS sm_cs sm_L sm_sh 2 (q_cutNumber S) 20 29 [(0, .ref 0), (1, sv_I (S 1018 0)), (2, sv_L l2_3)] [sv_I (if (((if (g2 1018 0) < (S 1004 0) then (S 2 (g2 1018 0)) % 256 else 0)) ≥ 48 ∧ ((if (g2 1018 0) < (S 1004 0) then (S 2 (g2 1018 0)) % 256 else 0)) ≤ 57) then 1 else 0)] (sv_sts S [1018] g2)
      refine sv_cond_eq hM dX12_cutNumber_29 (sv_Rite : sv_R (if (((if (g2 1018 0) < (S 1004 0) then (S 2 (g2 1018 0)) % 256 else 0)) ≥ 48 ∧ ((if (g2 1018 0) < (S 1004 0) then (S 2 (g2 1018 0)) % 256 else 0)) ≤ 57) then 1 else 0)) (t := 80) rfl rfl (fun hc => ?_) (fun hc => ?_)
      · have h := h.1 (sv_iten hc)
        refine sv_aload_n hM dX12_cutNumber_80 rfl rfl ?_
        refine sv_getI hM dX12_cutNumber_81 sm_fl_344 (sm_a0 _) sm_k18 rfl (x := (g2 1018 0)) rfl ?_
        refine sv_iload_n hM dX12_cutNumber_84 rfl rfl ?_
        refine sv_isub hM dX12_cutNumber_85 rfl ?_
        refine sv_bipush (d := (10 : Int)) hM dX12_cutNumber_86 rfl rfl ?_
        obtain ⟨o66, h⟩ := h
        refine sv_icmp_gt hM dX12_cutNumber_88 o66 (⟨by decide, by decide⟩ : sv_R (10 : Int)) (t := 114) rfl rfl (fun hc => ?_) (fun hc => ?_)
        · have h := h.1 (hc)
          refine sv_iconst (d := (0 : Int)) hM dX12_cutNumber_114 rfl rfl ?_
          refine sv_istore hM dX12_cutNumber_115 (by decide) rfl ?_
          show sv_T sm_XS sm_cs sm_L sm_sh 2 (q_cutNumber S) 20 117 [(0, .ref 0), (1, sv_I (S 1018 0)), (2, sv_L l2_3), (4, sv_I (0 : Int))] [] (sv_sts S [1018] g2)
          refine sv_aload_n hM dX12_cutNumber_117 rfl rfl ?_
          refine sv_getA hM dX12_cutNumber_118 sm_fl_27 (sm_a0 _) sm_k13 rfl ?_
          refine sv_aload_n hM dX12_cutNumber_121 rfl rfl ?_
          have k67 : sv_R (S 1012 0) := sm_okI ok6 sm_r1012 0
          have h := h k67
          refine sv_getI hM dX12_cutNumber_122 sm_fl_350 (sm_a0 _) sm_k12 rfl (x := (S 1012 0)) rfl ?_
          refine sv_iload hM dX12_cutNumber_125 rfl rfl ?_
          refine sv_cond_eq hM dX12_cutNumber_127 (⟨by decide, by decide⟩ : sv_R (0 : Int)) (t := 134) rfl rfl (fun hc => ?_) (fun hc => ?_)
          · have h := h.1 (hc)
            refine sv_bipush (d := (6 : Int)) hM dX12_cutNumber_134 rfl rfl ?_
            obtain ⟨o68, h⟩ := h
            refine sv_iast sm_X hM dX12_cutNumber_136 (sm_a6 _) (by decide) o68.1 o68.2 rfl ?_
            have ok69 : sm_ok (sv_up (sv_sts S [1018] g2) 6 (S 1012 0) (6 : Int)) := sm_upI ok6 sm_r6 (⟨by decide, by decide⟩ : sv_R (6 : Int))
            have md70 : sv_mod [1018, 7, 6] S (sv_up (sv_sts S [1018] g2) 6 (S 1012 0) (6 : Int)) := sv_mod.up md7 (by decide)
            refine sv_aload_n hM dX12_cutNumber_137 rfl rfl ?_
            refine sv_getA hM dX12_cutNumber_138 sm_fl_30 (sm_a0 _) sm_k14 rfl ?_
            refine sv_aload_n hM dX12_cutNumber_141 rfl rfl ?_
            refine sv_getI hM dX12_cutNumber_142 sm_fl_350 (sm_a0 _) sm_k12 rfl (x := (S 1012 0)) rfl ?_
            refine sv_lload_n hM dX12_cutNumber_145 rfl rfl ?_
            refine sv_l2iR hM dX12_cutNumber_146 rfl (fun r71 hr71 er71 => ?_)
            have h := h r71 hr71 er71
            refine sv_iast sm_X hM dX12_cutNumber_147 (sm_a7 _) (by decide) o68.1 o68.2 rfl ?_
            have ok72 : sm_ok (sv_up (sv_up (sv_sts S [1018] g2) 6 (S 1012 0) (6 : Int)) 7 (S 1012 0) r71) := sm_upI ok69 sm_r7 hr71
            have md73 : sv_mod [1018, 7, 6] S (sv_up (sv_up (sv_sts S [1018] g2) 6 (S 1012 0) (6 : Int)) 7 (S 1012 0) r71) := sv_mod.up md70 (by decide)
            exact sv_vret hM dX12_cutNumber_148 rfl ⟨rfl, ok72, md73, h⟩
          · have h := h.2 (hc)
            refine sv_iconst (d := (3 : Int)) hM dX12_cutNumber_130 rfl rfl ?_
            refine sv_goto hM dX12_cutNumber_131 (pc' := 136) rfl ?_
            obtain ⟨o74, h⟩ := h
            refine sv_iast sm_X hM dX12_cutNumber_136 (sm_a6 _) (by decide) o74.1 o74.2 rfl ?_
            have ok75 : sm_ok (sv_up (sv_sts S [1018] g2) 6 (S 1012 0) (3 : Int)) := sm_upI ok6 sm_r6 (⟨by decide, by decide⟩ : sv_R (3 : Int))
            have md76 : sv_mod [1018, 7, 6] S (sv_up (sv_sts S [1018] g2) 6 (S 1012 0) (3 : Int)) := sv_mod.up md7 (by decide)
            refine sv_aload_n hM dX12_cutNumber_137 rfl rfl ?_
            refine sv_getA hM dX12_cutNumber_138 sm_fl_30 (sm_a0 _) sm_k14 rfl ?_
            refine sv_aload_n hM dX12_cutNumber_141 rfl rfl ?_
            refine sv_getI hM dX12_cutNumber_142 sm_fl_350 (sm_a0 _) sm_k12 rfl (x := (S 1012 0)) rfl ?_
            refine sv_lload_n hM dX12_cutNumber_145 rfl rfl ?_
            refine sv_l2iR hM dX12_cutNumber_146 rfl (fun r77 hr77 er77 => ?_)
            have h := h r77 hr77 er77
            refine sv_iast sm_X hM dX12_cutNumber_147 (sm_a7 _) (by decide) o74.1 o74.2 rfl ?_
            have ok78 : sm_ok (sv_up (sv_up (sv_sts S [1018] g2) 6 (S 1012 0) (3 : Int)) 7 (S 1012 0) r77) := sm_upI ok75 sm_r7 hr77
            have md79 : sv_mod [1018, 7, 6] S (sv_up (sv_up (sv_sts S [1018] g2) 6 (S 1012 0) (3 : Int)) 7 (S 1012 0) r77) := sv_mod.up md76 (by decide)
            exact sv_vret hM dX12_cutNumber_148 rfl ⟨rfl, ok78, md79, h⟩
        · have h := h.2 (hc)
          refine sv_lload_n hM dX12_cutNumber_91 rfl rfl ?_
          refine sv_ldc2_w (d := (2147483647 : Int)) hM dX12_cutNumber_92 sm_ck_385 rfl rfl ?_
          refine sv_lcmp hM dX12_cutNumber_95 hl2_3 (⟨by decide, by decide⟩ : sv_RL (2147483647 : Int)) rfl ?_
          refine sv_cond_gt hM dX12_cutNumber_96 sv_Rcmp (t := 114) rfl rfl (fun hc => ?_) (fun hc => ?_)
          · have h := h.1 ((sv_cmp_gt).mp hc)
            refine sv_iconst (d := (0 : Int)) hM dX12_cutNumber_114 rfl rfl ?_
            refine sv_istore hM dX12_cutNumber_115 (by decide) rfl ?_
            show sv_T sm_XS sm_cs sm_L sm_sh 2 (q_cutNumber S) 20 117 [(0, .ref 0), (1, sv_I (S 1018 0)), (2, sv_L l2_3), (4, sv_I (0 : Int))] [] (sv_sts S [1018] g2)
            refine sv_aload_n hM dX12_cutNumber_117 rfl rfl ?_
            refine sv_getA hM dX12_cutNumber_118 sm_fl_27 (sm_a0 _) sm_k13 rfl ?_
            refine sv_aload_n hM dX12_cutNumber_121 rfl rfl ?_
            have k80 : sv_R (S 1012 0) := sm_okI ok6 sm_r1012 0
            have h := h k80
            refine sv_getI hM dX12_cutNumber_122 sm_fl_350 (sm_a0 _) sm_k12 rfl (x := (S 1012 0)) rfl ?_
            refine sv_iload hM dX12_cutNumber_125 rfl rfl ?_
            refine sv_cond_eq hM dX12_cutNumber_127 (⟨by decide, by decide⟩ : sv_R (0 : Int)) (t := 134) rfl rfl (fun hc => ?_) (fun hc => ?_)
            · have h := h.1 (hc)
              refine sv_bipush (d := (6 : Int)) hM dX12_cutNumber_134 rfl rfl ?_
              obtain ⟨o81, h⟩ := h
              refine sv_iast sm_X hM dX12_cutNumber_136 (sm_a6 _) (by decide) o81.1 o81.2 rfl ?_
              have ok82 : sm_ok (sv_up (sv_sts S [1018] g2) 6 (S 1012 0) (6 : Int)) := sm_upI ok6 sm_r6 (⟨by decide, by decide⟩ : sv_R (6 : Int))
              have md83 : sv_mod [1018, 7, 6] S (sv_up (sv_sts S [1018] g2) 6 (S 1012 0) (6 : Int)) := sv_mod.up md7 (by decide)
              refine sv_aload_n hM dX12_cutNumber_137 rfl rfl ?_
              refine sv_getA hM dX12_cutNumber_138 sm_fl_30 (sm_a0 _) sm_k14 rfl ?_
              refine sv_aload_n hM dX12_cutNumber_141 rfl rfl ?_
              refine sv_getI hM dX12_cutNumber_142 sm_fl_350 (sm_a0 _) sm_k12 rfl (x := (S 1012 0)) rfl ?_
              refine sv_lload_n hM dX12_cutNumber_145 rfl rfl ?_
              refine sv_l2iR hM dX12_cutNumber_146 rfl (fun r84 hr84 er84 => ?_)
              have h := h r84 hr84 er84
              refine sv_iast sm_X hM dX12_cutNumber_147 (sm_a7 _) (by decide) o81.1 o81.2 rfl ?_
              have ok85 : sm_ok (sv_up (sv_up (sv_sts S [1018] g2) 6 (S 1012 0) (6 : Int)) 7 (S 1012 0) r84) := sm_upI ok82 sm_r7 hr84
              have md86 : sv_mod [1018, 7, 6] S (sv_up (sv_up (sv_sts S [1018] g2) 6 (S 1012 0) (6 : Int)) 7 (S 1012 0) r84) := sv_mod.up md83 (by decide)
              exact sv_vret hM dX12_cutNumber_148 rfl ⟨rfl, ok85, md86, h⟩
            · have h := h.2 (hc)
              refine sv_iconst (d := (3 : Int)) hM dX12_cutNumber_130 rfl rfl ?_
              refine sv_goto hM dX12_cutNumber_131 (pc' := 136) rfl ?_
              obtain ⟨o87, h⟩ := h
              refine sv_iast sm_X hM dX12_cutNumber_136 (sm_a6 _) (by decide) o87.1 o87.2 rfl ?_
              have ok88 : sm_ok (sv_up (sv_sts S [1018] g2) 6 (S 1012 0) (3 : Int)) := sm_upI ok6 sm_r6 (⟨by decide, by decide⟩ : sv_R (3 : Int))
              have md89 : sv_mod [1018, 7, 6] S (sv_up (sv_sts S [1018] g2) 6 (S 1012 0) (3 : Int)) := sv_mod.up md7 (by decide)
              refine sv_aload_n hM dX12_cutNumber_137 rfl rfl ?_
              refine sv_getA hM dX12_cutNumber_138 sm_fl_30 (sm_a0 _) sm_k14 rfl ?_
              refine sv_aload_n hM dX12_cutNumber_141 rfl rfl ?_
              refine sv_getI hM dX12_cutNumber_142 sm_fl_350 (sm_a0 _) sm_k12 rfl (x := (S 1012 0)) rfl ?_
              refine sv_lload_n hM dX12_cutNumber_145 rfl rfl ?_
              refine sv_l2iR hM dX12_cutNumber_146 rfl (fun r90 hr90 er90 => ?_)
              have h := h r90 hr90 er90
              refine sv_iast sm_X hM dX12_cutNumber_147 (sm_a7 _) (by decide) o87.1 o87.2 rfl ?_
              have ok91 : sm_ok (sv_up (sv_up (sv_sts S [1018] g2) 6 (S 1012 0) (3 : Int)) 7 (S 1012 0) r90) := sm_upI ok88 sm_r7 hr90
              have md92 : sv_mod [1018, 7, 6] S (sv_up (sv_up (sv_sts S [1018] g2) 6 (S 1012 0) (3 : Int)) 7 (S 1012 0) r90) := sv_mod.up md89 (by decide)
              exact sv_vret hM dX12_cutNumber_148 rfl ⟨rfl, ok91, md92, h⟩
          · have h := h.2 (fun q => hc ((sv_cmp_gt).mpr q))
            refine sv_aload_n hM dX12_cutNumber_99 rfl rfl ?_
            refine sv_aload_n hM dX12_cutNumber_100 rfl rfl ?_
            refine sv_getI hM dX12_cutNumber_101 sm_fl_344 (sm_a0 _) sm_k18 rfl (x := (g2 1018 0)) rfl ?_
            refine sv_callV hM dX12_cutNumber_104 sm_iv_372 (by decide) (sm_a0 _) rfl rfl (Nat.le_of_ble_eq_true rfl) sm_h14 (Nat.le_of_ble_eq_true rfl) (Nat.le_of_ble_eq_true rfl) (F' := 1) (Nat.le_of_ble_eq_true rfl) rfl (t_isWordly (g2 1018 0) (sv_sts S [1018] g2) ok6 k9 o64) (fun v S1 hq => ?_)
            obtain ⟨rfl, hS1⟩ := hq
            obtain rfl : (sv_sts S [1018] g2) = S1 := hS1.symm
            show sv_T sm_XS sm_cs sm_L sm_sh 2 (q_cutNumber S) 20 107 [(0, .ref 0), (1, sv_I (S 1018 0)), (2, sv_L l2_3)] [sv_I (if (g2 1018 0) < (S 1004 0) ∧ (((if (g2 1018 0) < (S 1004 0) then (S 2 (g2 1018 0)) % 256 else 0) ≥ 97 ∧ (if (g2 1018 0) < (S 1004 0) then (S 2 (g2 1018 0)) % 256 else 0) ≤ 122 ∨ (if (g2 1018 0) < (S 1004 0) then (S 2 (g2 1018 0)) % 256 else 0) ≥ 65 ∧ (if (g2 1018 0) < (S 1004 0) then (S 2 (g2 1018 0)) % 256 else 0) ≤ 90 ∨ (if (g2 1018 0) < (S 1004 0) then (S 2 (g2 1018 0)) % 256 else 0) = 95 ∨ (if (g2 1018 0) < (S 1004 0) then (S 2 (g2 1018 0)) % 256 else 0) = 36) ∨ ((if (g2 1018 0) < (S 1004 0) then (S 2 (g2 1018 0)) % 256 else 0) ≥ 48 ∧ (if (g2 1018 0) < (S 1004 0) then (S 2 (g2 1018 0)) % 256 else 0) ≤ 57)) then 1 else 0)] (sv_sts S [1018] g2)
            refine sv_cond_ne hM dX12_cutNumber_107 (sv_Rite : sv_R (if (g2 1018 0) < (S 1004 0) ∧ (((if (g2 1018 0) < (S 1004 0) then (S 2 (g2 1018 0)) % 256 else 0) ≥ 97 ∧ (if (g2 1018 0) < (S 1004 0) then (S 2 (g2 1018 0)) % 256 else 0) ≤ 122 ∨ (if (g2 1018 0) < (S 1004 0) then (S 2 (g2 1018 0)) % 256 else 0) ≥ 65 ∧ (if (g2 1018 0) < (S 1004 0) then (S 2 (g2 1018 0)) % 256 else 0) ≤ 90 ∨ (if (g2 1018 0) < (S 1004 0) then (S 2 (g2 1018 0)) % 256 else 0) = 95 ∨ (if (g2 1018 0) < (S 1004 0) then (S 2 (g2 1018 0)) % 256 else 0) = 36) ∨ ((if (g2 1018 0) < (S 1004 0) then (S 2 (g2 1018 0)) % 256 else 0) ≥ 48 ∧ (if (g2 1018 0) < (S 1004 0) then (S 2 (g2 1018 0)) % 256 else 0) ≤ 57)) then 1 else 0)) (t := 114) rfl rfl (fun hc => ?_) (fun hc => ?_)
            · have h := h.1 (sv_itep hc)
              refine sv_iconst (d := (0 : Int)) hM dX12_cutNumber_114 rfl rfl ?_
              refine sv_istore hM dX12_cutNumber_115 (by decide) rfl ?_
              show sv_T sm_XS sm_cs sm_L sm_sh 2 (q_cutNumber S) 20 117 [(0, .ref 0), (1, sv_I (S 1018 0)), (2, sv_L l2_3), (4, sv_I (0 : Int))] [] (sv_sts S [1018] g2)
              refine sv_aload_n hM dX12_cutNumber_117 rfl rfl ?_
              refine sv_getA hM dX12_cutNumber_118 sm_fl_27 (sm_a0 _) sm_k13 rfl ?_
              refine sv_aload_n hM dX12_cutNumber_121 rfl rfl ?_
              have k93 : sv_R (S 1012 0) := sm_okI ok6 sm_r1012 0
              have h := h k93
              refine sv_getI hM dX12_cutNumber_122 sm_fl_350 (sm_a0 _) sm_k12 rfl (x := (S 1012 0)) rfl ?_
              refine sv_iload hM dX12_cutNumber_125 rfl rfl ?_
              refine sv_cond_eq hM dX12_cutNumber_127 (⟨by decide, by decide⟩ : sv_R (0 : Int)) (t := 134) rfl rfl (fun hc => ?_) (fun hc => ?_)
              · have h := h.1 (hc)
                refine sv_bipush (d := (6 : Int)) hM dX12_cutNumber_134 rfl rfl ?_
                obtain ⟨o94, h⟩ := h
                refine sv_iast sm_X hM dX12_cutNumber_136 (sm_a6 _) (by decide) o94.1 o94.2 rfl ?_
                have ok95 : sm_ok (sv_up (sv_sts S [1018] g2) 6 (S 1012 0) (6 : Int)) := sm_upI ok6 sm_r6 (⟨by decide, by decide⟩ : sv_R (6 : Int))
                have md96 : sv_mod [1018, 7, 6] S (sv_up (sv_sts S [1018] g2) 6 (S 1012 0) (6 : Int)) := sv_mod.up md7 (by decide)
                refine sv_aload_n hM dX12_cutNumber_137 rfl rfl ?_
                refine sv_getA hM dX12_cutNumber_138 sm_fl_30 (sm_a0 _) sm_k14 rfl ?_
                refine sv_aload_n hM dX12_cutNumber_141 rfl rfl ?_
                refine sv_getI hM dX12_cutNumber_142 sm_fl_350 (sm_a0 _) sm_k12 rfl (x := (S 1012 0)) rfl ?_
                refine sv_lload_n hM dX12_cutNumber_145 rfl rfl ?_
                refine sv_l2iR hM dX12_cutNumber_146 rfl (fun r97 hr97 er97 => ?_)
                have h := h r97 hr97 er97
                refine sv_iast sm_X hM dX12_cutNumber_147 (sm_a7 _) (by decide) o94.1 o94.2 rfl ?_
                have ok98 : sm_ok (sv_up (sv_up (sv_sts S [1018] g2) 6 (S 1012 0) (6 : Int)) 7 (S 1012 0) r97) := sm_upI ok95 sm_r7 hr97
                have md99 : sv_mod [1018, 7, 6] S (sv_up (sv_up (sv_sts S [1018] g2) 6 (S 1012 0) (6 : Int)) 7 (S 1012 0) r97) := sv_mod.up md96 (by decide)
                exact sv_vret hM dX12_cutNumber_148 rfl ⟨rfl, ok98, md99, h⟩
              · have h := h.2 (hc)
                refine sv_iconst (d := (3 : Int)) hM dX12_cutNumber_130 rfl rfl ?_
                refine sv_goto hM dX12_cutNumber_131 (pc' := 136) rfl ?_
                obtain ⟨o100, h⟩ := h
                refine sv_iast sm_X hM dX12_cutNumber_136 (sm_a6 _) (by decide) o100.1 o100.2 rfl ?_
                have ok101 : sm_ok (sv_up (sv_sts S [1018] g2) 6 (S 1012 0) (3 : Int)) := sm_upI ok6 sm_r6 (⟨by decide, by decide⟩ : sv_R (3 : Int))
                have md102 : sv_mod [1018, 7, 6] S (sv_up (sv_sts S [1018] g2) 6 (S 1012 0) (3 : Int)) := sv_mod.up md7 (by decide)
                refine sv_aload_n hM dX12_cutNumber_137 rfl rfl ?_
                refine sv_getA hM dX12_cutNumber_138 sm_fl_30 (sm_a0 _) sm_k14 rfl ?_
                refine sv_aload_n hM dX12_cutNumber_141 rfl rfl ?_
                refine sv_getI hM dX12_cutNumber_142 sm_fl_350 (sm_a0 _) sm_k12 rfl (x := (S 1012 0)) rfl ?_
                refine sv_lload_n hM dX12_cutNumber_145 rfl rfl ?_
                refine sv_l2iR hM dX12_cutNumber_146 rfl (fun r103 hr103 er103 => ?_)
                have h := h r103 hr103 er103
                refine sv_iast sm_X hM dX12_cutNumber_147 (sm_a7 _) (by decide) o100.1 o100.2 rfl ?_
                have ok104 : sm_ok (sv_up (sv_up (sv_sts S [1018] g2) 6 (S 1012 0) (3 : Int)) 7 (S 1012 0) r103) := sm_upI ok101 sm_r7 hr103
                have md105 : sv_mod [1018, 7, 6] S (sv_up (sv_up (sv_sts S [1018] g2) 6 (S 1012 0) (3 : Int)) 7 (S 1012 0) r103) := sv_mod.up md102 (by decide)
                exact sv_vret hM dX12_cutNumber_148 rfl ⟨rfl, ok104, md105, h⟩
            · have h := h.2 (fun q => hc (by rw [if_pos q]; decide))
              refine sv_iconst (d := (1 : Int)) hM dX12_cutNumber_110 rfl rfl ?_
              refine sv_goto hM dX12_cutNumber_111 (pc' := 115) rfl ?_
              refine sv_istore hM dX12_cutNumber_115 (by decide) rfl ?_
              show sv_T sm_XS sm_cs sm_L sm_sh 2 (q_cutNumber S) 20 117 [(0, .ref 0), (1, sv_I (S 1018 0)), (2, sv_L l2_3), (4, sv_I (1 : Int))] [] (sv_sts S [1018] g2)
              refine sv_aload_n hM dX12_cutNumber_117 rfl rfl ?_
              refine sv_getA hM dX12_cutNumber_118 sm_fl_27 (sm_a0 _) sm_k13 rfl ?_
              refine sv_aload_n hM dX12_cutNumber_121 rfl rfl ?_
              have k106 : sv_R (S 1012 0) := sm_okI ok6 sm_r1012 0
              have h := h k106
              refine sv_getI hM dX12_cutNumber_122 sm_fl_350 (sm_a0 _) sm_k12 rfl (x := (S 1012 0)) rfl ?_
              refine sv_iload hM dX12_cutNumber_125 rfl rfl ?_
              refine sv_cond_eq hM dX12_cutNumber_127 (⟨by decide, by decide⟩ : sv_R (1 : Int)) (t := 134) rfl rfl (fun hc => ?_) (fun hc => ?_)
              · have h := h.1 (hc)
                refine sv_bipush (d := (6 : Int)) hM dX12_cutNumber_134 rfl rfl ?_
                obtain ⟨o107, h⟩ := h
                refine sv_iast sm_X hM dX12_cutNumber_136 (sm_a6 _) (by decide) o107.1 o107.2 rfl ?_
                have ok108 : sm_ok (sv_up (sv_sts S [1018] g2) 6 (S 1012 0) (6 : Int)) := sm_upI ok6 sm_r6 (⟨by decide, by decide⟩ : sv_R (6 : Int))
                have md109 : sv_mod [1018, 7, 6] S (sv_up (sv_sts S [1018] g2) 6 (S 1012 0) (6 : Int)) := sv_mod.up md7 (by decide)
                refine sv_aload_n hM dX12_cutNumber_137 rfl rfl ?_
                refine sv_getA hM dX12_cutNumber_138 sm_fl_30 (sm_a0 _) sm_k14 rfl ?_
                refine sv_aload_n hM dX12_cutNumber_141 rfl rfl ?_
                refine sv_getI hM dX12_cutNumber_142 sm_fl_350 (sm_a0 _) sm_k12 rfl (x := (S 1012 0)) rfl ?_
                refine sv_lload_n hM dX12_cutNumber_145 rfl rfl ?_
                refine sv_l2iR hM dX12_cutNumber_146 rfl (fun r110 hr110 er110 => ?_)
                have h := h r110 hr110 er110
                refine sv_iast sm_X hM dX12_cutNumber_147 (sm_a7 _) (by decide) o107.1 o107.2 rfl ?_
                have ok111 : sm_ok (sv_up (sv_up (sv_sts S [1018] g2) 6 (S 1012 0) (6 : Int)) 7 (S 1012 0) r110) := sm_upI ok108 sm_r7 hr110
                have md112 : sv_mod [1018, 7, 6] S (sv_up (sv_up (sv_sts S [1018] g2) 6 (S 1012 0) (6 : Int)) 7 (S 1012 0) r110) := sv_mod.up md109 (by decide)
                exact sv_vret hM dX12_cutNumber_148 rfl ⟨rfl, ok111, md112, h⟩
              · have h := h.2 (hc)
                refine sv_iconst (d := (3 : Int)) hM dX12_cutNumber_130 rfl rfl ?_
                refine sv_goto hM dX12_cutNumber_131 (pc' := 136) rfl ?_
                obtain ⟨o113, h⟩ := h
                refine sv_iast sm_X hM dX12_cutNumber_136 (sm_a6 _) (by decide) o113.1 o113.2 rfl ?_
                have ok114 : sm_ok (sv_up (sv_sts S [1018] g2) 6 (S 1012 0) (3 : Int)) := sm_upI ok6 sm_r6 (⟨by decide, by decide⟩ : sv_R (3 : Int))
                have md115 : sv_mod [1018, 7, 6] S (sv_up (sv_sts S [1018] g2) 6 (S 1012 0) (3 : Int)) := sv_mod.up md7 (by decide)
                refine sv_aload_n hM dX12_cutNumber_137 rfl rfl ?_
                refine sv_getA hM dX12_cutNumber_138 sm_fl_30 (sm_a0 _) sm_k14 rfl ?_
                refine sv_aload_n hM dX12_cutNumber_141 rfl rfl ?_
                refine sv_getI hM dX12_cutNumber_142 sm_fl_350 (sm_a0 _) sm_k12 rfl (x := (S 1012 0)) rfl ?_
                refine sv_lload_n hM dX12_cutNumber_145 rfl rfl ?_
                refine sv_l2iR hM dX12_cutNumber_146 rfl (fun r116 hr116 er116 => ?_)
                have h := h r116 hr116 er116
                refine sv_iast sm_X hM dX12_cutNumber_147 (sm_a7 _) (by decide) o113.1 o113.2 rfl ?_
                have ok117 : sm_ok (sv_up (sv_up (sv_sts S [1018] g2) 6 (S 1012 0) (3 : Int)) 7 (S 1012 0) r116) := sm_upI ok114 sm_r7 hr116
                have md118 : sv_mod [1018, 7, 6] S (sv_up (sv_up (sv_sts S [1018] g2) 6 (S 1012 0) (3 : Int)) 7 (S 1012 0) r116) := sv_mod.up md115 (by decide)
                exact sv_vret hM dX12_cutNumber_148 rfl ⟨rfl, ok117, md118, h⟩
      · have h := h.2 (sv_itep hc)
        refine sv_aload_n hM dX12_cutNumber_32 rfl rfl ?_
        refine sv_getI hM dX12_cutNumber_33 sm_fl_344 (sm_a0 _) sm_k18 rfl (x := (g2 1018 0)) rfl ?_
        refine sv_iload_n hM dX12_cutNumber_36 rfl rfl ?_
        refine sv_isub hM dX12_cutNumber_37 rfl ?_
        refine sv_bipush (d := (10 : Int)) hM dX12_cutNumber_38 rfl rfl ?_
        obtain ⟨o119, h⟩ := h
        refine sv_icmp_ge hM dX12_cutNumber_40 o119 (⟨by decide, by decide⟩ : sv_R (10 : Int)) (t := 65) rfl rfl (fun hc => ?_) (fun hc => ?_)
        · have h := h.1 (hc)
          refine sv_lload_n hM dX12_cutNumber_65 rfl rfl ?_
          refine sv_lstore_n hM dX12_cutNumber_66 (by decide) rfl ?_
          show sv_T sm_XS sm_cs sm_L sm_sh 2 (q_cutNumber S) 20 67 [(0, .ref 0), (1, sv_I (S 1018 0)), (2, sv_L l2_3)] [] (sv_sts S [1018] g2)
          refine sv_aload_n hM dX12_cutNumber_67 rfl rfl ?_
          refine sv_dupA hM dX12_cutNumber_68 rfl ?_
          refine sv_getI hM dX12_cutNumber_69 sm_fl_344 (sm_a0 _) sm_k18 rfl (x := (g2 1018 0)) rfl ?_
          refine sv_iconst (d := (1 : Int)) hM dX12_cutNumber_72 rfl rfl ?_
          refine sv_iadd hM dX12_cutNumber_73 rfl ?_
          obtain ⟨o120, h⟩ := h
          refine sv_putI sm_X hM dX12_cutNumber_74 sm_fp_344 (sm_a0 _) sm_q18 (Or.inl rfl) rfl rfl rfl rfl ?_
          have ok121 : sm_ok (sv_up (sv_sts S [1018] g2) 1018 0 ((g2 1018 0) + (1 : Int))) := sm_upI ok6 sm_r1018 o120
          have md122 : sv_mod [1018, 7, 6] S (sv_up (sv_sts S [1018] g2) 1018 0 ((g2 1018 0) + (1 : Int))) := sv_mod.up md7 (by decide)
          have md123 : sv_mod [1018] S (sv_up (sv_sts S [1018] g2) 1018 0 ((g2 1018 0) + (1 : Int))) := sv_mod.up md8 (by decide)
          refine sv_goto hM dX12_cutNumber_77 (pc' := 7) rfl ?_
          have eS := sv_mod.eq md123
          have hb := ih4 (l2_3, (sv_up (sv_sts S [1018] g2) 1018 0 ((g2 1018 0) + (1 : Int)))) ⟨hl2_3, (by rw [← eS]; exact ok121), h.1⟩ h.2
          have hb : sv_T sm_XS sm_cs sm_L sm_sh 2 (q_cutNumber S) 20 7 [(0, .ref 0), (1, sv_I (S 1018 0)), (2, sv_L l2_3)] [] (sv_up (sv_sts S [1018] g2) 1018 0 ((g2 1018 0) + (1 : Int))) := Eq.mpr (congrArg (fun Z => sv_T sm_XS sm_cs sm_L sm_sh 2 (q_cutNumber S) 20 7 [(0, .ref 0), (1, sv_I (S 1018 0)), (2, sv_L l2_3)] [] Z) eS) hb
          exact sv_less (lv := [(0, .ref 0), (1, sv_I (S 1018 0)), (2, sv_L l2_3)]) (sv_Sub_cons rfl (sv_Sub_cons rfl (sv_Sub_cons rfl sv_Sub_nil))) hb
        · have h := h.2 (hc)
          refine sv_ldc2_w (d := (10 : Int)) hM dX12_cutNumber_43 sm_ck_381 rfl rfl ?_
          refine sv_lload_n hM dX12_cutNumber_46 rfl rfl ?_
          refine sv_anyL hM dX12_cutNumber_47 rfl rfl (fun r124 hr124 _ => ?_)
          have h := h r124 hr124
          refine sv_aload_n hM dX12_cutNumber_48 rfl rfl ?_
          refine sv_aload_n hM dX12_cutNumber_49 rfl rfl ?_
          refine sv_getI hM dX12_cutNumber_50 sm_fl_344 (sm_a0 _) sm_k18 rfl (x := (g2 1018 0)) rfl ?_
          refine sv_callV hM dX12_cutNumber_53 sm_iv_334 (by decide) (sm_a0 _) rfl rfl (Nat.le_of_ble_eq_true rfl) sm_h10 (Nat.le_of_ble_eq_true rfl) (Nat.le_of_ble_eq_true rfl) (F' := 0) (Nat.le_of_ble_eq_true rfl) rfl (t_look (g2 1018 0) (sv_sts S [1018] g2) ok6 k9 o64) (fun v S1 hq => ?_)
          obtain ⟨rfl, hS1⟩ := hq
          obtain rfl : (sv_sts S [1018] g2) = S1 := hS1.symm
          show sv_T sm_XS sm_cs sm_L sm_sh 2 (q_cutNumber S) 20 56 [(0, .ref 0), (1, sv_I (S 1018 0)), (2, sv_L l2_3)] [sv_I ((if (g2 1018 0) < (S 1004 0) then (S 2 (g2 1018 0)) % 256 else 0)), sv_L r124] (sv_sts S [1018] g2)
          refine sv_i2l hM dX12_cutNumber_56 o65 rfl ?_
          refine sv_anyL hM dX12_cutNumber_57 rfl rfl (fun r125 hr125 _ => ?_)
          have h := h r125 hr125
          refine sv_ldc2_w (d := (48 : Int)) hM dX12_cutNumber_58 sm_ck_383 rfl rfl ?_
          refine sv_anyL hM dX12_cutNumber_61 rfl rfl (fun r126 hr126 _ => ?_)
          have h := h r126 hr126
          refine sv_goto hM dX12_cutNumber_62 (pc' := 66) rfl ?_
          refine sv_lstore_n hM dX12_cutNumber_66 (by decide) rfl ?_
          show sv_T sm_XS sm_cs sm_L sm_sh 2 (q_cutNumber S) 20 67 [(0, .ref 0), (1, sv_I (S 1018 0)), (2, sv_L r126)] [] (sv_sts S [1018] g2)
          refine sv_aload_n hM dX12_cutNumber_67 rfl rfl ?_
          refine sv_dupA hM dX12_cutNumber_68 rfl ?_
          refine sv_getI hM dX12_cutNumber_69 sm_fl_344 (sm_a0 _) sm_k18 rfl (x := (g2 1018 0)) rfl ?_
          refine sv_iconst (d := (1 : Int)) hM dX12_cutNumber_72 rfl rfl ?_
          refine sv_iadd hM dX12_cutNumber_73 rfl ?_
          obtain ⟨o127, h⟩ := h
          refine sv_putI sm_X hM dX12_cutNumber_74 sm_fp_344 (sm_a0 _) sm_q18 (Or.inl rfl) rfl rfl rfl rfl ?_
          have ok128 : sm_ok (sv_up (sv_sts S [1018] g2) 1018 0 ((g2 1018 0) + (1 : Int))) := sm_upI ok6 sm_r1018 o127
          have md129 : sv_mod [1018, 7, 6] S (sv_up (sv_sts S [1018] g2) 1018 0 ((g2 1018 0) + (1 : Int))) := sv_mod.up md7 (by decide)
          have md130 : sv_mod [1018] S (sv_up (sv_sts S [1018] g2) 1018 0 ((g2 1018 0) + (1 : Int))) := sv_mod.up md8 (by decide)
          refine sv_goto hM dX12_cutNumber_77 (pc' := 7) rfl ?_
          have eS := sv_mod.eq md130
          have hb := ih4 (r126, (sv_up (sv_sts S [1018] g2) 1018 0 ((g2 1018 0) + (1 : Int)))) ⟨hr126, (by rw [← eS]; exact ok128), h.1⟩ h.2
          have hb : sv_T sm_XS sm_cs sm_L sm_sh 2 (q_cutNumber S) 20 7 [(0, .ref 0), (1, sv_I (S 1018 0)), (2, sv_L r126)] [] (sv_up (sv_sts S [1018] g2) 1018 0 ((g2 1018 0) + (1 : Int))) := Eq.mpr (congrArg (fun Z => sv_T sm_XS sm_cs sm_L sm_sh 2 (q_cutNumber S) 20 7 [(0, .ref 0), (1, sv_I (S 1018 0)), (2, sv_L r126)] [] Z) eS) hb
          exact sv_less (lv := [(0, .ref 0), (1, sv_I (S 1018 0)), (2, sv_L r126)]) (sv_Sub_cons rfl (sv_Sub_cons rfl (sv_Sub_cons rfl sv_Sub_nil))) hb
  have eS := sv_mod.eq (sv_mod.rf (l := [1018]) (S := S))
  have hb := hJ ((0 : Int), S) ⟨(⟨by decide, by decide⟩ : sv_RL (0 : Int)), (by rw [← eS]; exact hok), hin5⟩
  have hb : sv_T sm_XS sm_cs sm_L sm_sh 2 (q_cutNumber S) 20 7 [(0, .ref 0), (1, sv_I (S 1018 0)), (2, sv_L (0 : Int))] [] S := Eq.mpr (congrArg (fun Z => sv_T sm_XS sm_cs sm_L sm_sh 2 (q_cutNumber S) 20 7 [(0, .ref 0), (1, sv_I (S 1018 0)), (2, sv_L (0 : Int))] [] Z) eS) hb
  exact hb
def q_cutString (p1 : Int) (S : sv_S) : Option Value → sv_S → Prop := fun v S' => v = none ∧ sm_ok S' ∧ sv_mod [1018, 6] S S' ∧ ((S 1018 0) < (S' 1018 0) ∧ (S' 1018 0) ≤ (S' 1004 0) + 3 ∧ ((S' 6 (S' 1012 0)) = 6 ∨ ((S' 6 (S' 1012 0)) = 4 ∧ (S' 1018 0) ≤ (S' 1004 0) ∧ (S' 1018 0) - (S 1018 0) ≤ 82)) ∧ (∀ k : Int, k ≠ (S' 1012 0) → (S' 6 k) = (S 6 k)))
set_option maxHeartbeats 2000000 in
theorem f_cutString : ∀ (p1 : Int) (S : sv_S), sm_ok S → sv_R p1 → (0 ≤ (S 1004 0) ∧ (S 1004 0) ≤ 4000 ∧ 0 ≤ (S 1018 0) ∧ (S 1018 0) ≤ (S 1004 0) ∧ 0 ≤ (S 1012 0) ∧ (S 1012 0) ≤ 4001 ∧ (S 1018 0) < (S 1004 0)) → (sv_R (S 1018 0) → (sv_R ((S 1018 0) + (1 : Int))) ∧ (((S 1018 0) < ((S 1018 0) + (1 : Int)) ∧ ((S 1018 0) + (1 : Int)) ≤ (S 1004 0) + 2 ∧ ((1 : Int) = 0 ∨ ((1 : Int) = 1 ∧ ((S 1018 0) + (1 : Int)) ≤ (S 1004 0))) ∧ 0 ≤ (0 : Int) ∧ (0 : Int) ≤ ((S 1018 0) + (1 : Int)) ∧ ((S 1018 0) + (1 : Int)) - (S 1018 0) ≤ 1 + 2 * (0 : Int)) ∧ (∀ l2_6 : Int, sv_R l2_6 → ∀ l3_7 : Int, sv_R l3_7 → ∀ g5 : sv_S, ((S 1018 0) < (g5 1018 0) ∧ (g5 1018 0) ≤ (S 1004 0) + 2 ∧ (l3_7 = 0 ∨ (l3_7 = 1 ∧ (g5 1018 0) ≤ (S 1004 0))) ∧ 0 ≤ l2_6 ∧ l2_6 ≤ (g5 1018 0) ∧ (g5 1018 0) - (S 1018 0) ≤ 1 + 2 * l2_6) → (0 ≤ (S 1004 0) + 2 - (g5 1018 0)) ∧ ((∀ l3_13 : Int, sv_R l3_13 → ∀ l4_14 : Int, sv_R l4_14 → ∀ l5_15 : Int, sv_R l5_15 → ((l3_13 = 0 ∨ l3_13 = 1) ∧ (l4_14 = 0 ∨ l4_14 = 1) ∧ (l3_13 = 1 → l4_14 = 1 → (g5 1018 0) + 1 < (S 1004 0)) ∧ (g5 1018 0) < (S 1004 0) ∧ (S 1018 0) < (g5 1018 0) ∧ 0 ≤ l2_6 ∧ l2_6 ≤ (g5 1018 0) ∧ (g5 1018 0) - (S 1018 0) ≤ 1 + 2 * l2_6) → (sv_R (g5 1018 0) → (((l4_14 = (0 : Int)) → (sv_R ((g5 1018 0) + (1 : Int))) ∧ (sv_R (l2_6 + (1 : Int))) ∧ (((S 1018 0) < ((g5 1018 0) + (1 : Int)) ∧ ((g5 1018 0) + (1 : Int)) ≤ (S 1004 0) + 2 ∧ (l3_13 = 0 ∨ (l3_13 = 1 ∧ ((g5 1018 0) + (1 : Int)) ≤ (S 1004 0))) ∧ 0 ≤ (l2_6 + (1 : Int)) ∧ (l2_6 + (1 : Int)) ≤ ((g5 1018 0) + (1 : Int)) ∧ ((g5 1018 0) + (1 : Int)) - (S 1018 0) ≤ 1 + 2 * (l2_6 + (1 : Int))) ∧ ((S 1004 0) + 2 - ((g5 1018 0) + (1 : Int))) < ((S 1004 0) + 2 - (g5 1018 0)))) ∧ ((¬ (l4_14 = (0 : Int))) → (sv_R ((g5 1018 0) + (2 : Int))) ∧ (sv_R (l2_6 + (1 : Int))) ∧ (((S 1018 0) < ((g5 1018 0) + (2 : Int)) ∧ ((g5 1018 0) + (2 : Int)) ≤ (S 1004 0) + 2 ∧ (l3_13 = 0 ∨ (l3_13 = 1 ∧ ((g5 1018 0) + (2 : Int)) ≤ (S 1004 0))) ∧ 0 ≤ (l2_6 + (1 : Int)) ∧ (l2_6 + (1 : Int)) ≤ ((g5 1018 0) + (2 : Int)) ∧ ((g5 1018 0) + (2 : Int)) - (S 1018 0) ≤ 1 + 2 * (l2_6 + (1 : Int))) ∧ ((S 1004 0) + 2 - ((g5 1018 0) + (2 : Int))) < ((S 1004 0) + 2 - (g5 1018 0))))))) ∧ (((l3_7 = (0 : Int)) → (sv_R (S 1012 0) → (((l3_7 = (0 : Int)) → (0 ≤ (S 1012 0) ∧ (S 1012 0) < 4002) ∧ (sv_R (g5 1018 0) → (sv_R ((g5 1018 0) + (1 : Int))) ∧ ((S 1018 0) < ((g5 1018 0) + (1 : Int)) ∧ ((g5 1018 0) + (1 : Int)) ≤ (S 1004 0) + 3 ∧ ((if (S 1012 0) = (S 1012 0) then (6 : Int) else (S 6 (S 1012 0))) = 6 ∨ ((if (S 1012 0) = (S 1012 0) then (6 : Int) else (S 6 (S 1012 0))) = 4 ∧ ((g5 1018 0) + (1 : Int)) ≤ (S 1004 0) ∧ ((g5 1018 0) + (1 : Int)) - (S 1018 0) ≤ 82)) ∧ (∀ k : Int, k ≠ (S 1012 0) → (if k = (S 1012 0) then (6 : Int) else (S 6 k)) = (S 6 k))))) ∧ ((¬ (l3_7 = (0 : Int))) → (sv_R (g5 1018 0) → (((¬ ((g5 1018 0) < (S 1004 0))) → (0 ≤ (S 1012 0) ∧ (S 1012 0) < 4002) ∧ (sv_R ((g5 1018 0) + (1 : Int))) ∧ ((S 1018 0) < ((g5 1018 0) + (1 : Int)) ∧ ((g5 1018 0) + (1 : Int)) ≤ (S 1004 0) + 3 ∧ ((if (S 1012 0) = (S 1012 0) then (6 : Int) else (S 6 (S 1012 0))) = 6 ∨ ((if (S 1012 0) = (S 1012 0) then (6 : Int) else (S 6 (S 1012 0))) = 4 ∧ ((g5 1018 0) + (1 : Int)) ≤ (S 1004 0) ∧ ((g5 1018 0) + (1 : Int)) - (S 1018 0) ≤ 82)) ∧ (∀ k : Int, k ≠ (S 1012 0) → (if k = (S 1012 0) then (6 : Int) else (S 6 k)) = (S 6 k)))) ∧ (((g5 1018 0) < (S 1004 0)) → ((((40 : Int) < l2_6) → (0 ≤ (S 1012 0) ∧ (S 1012 0) < 4002) ∧ (sv_R ((g5 1018 0) + (1 : Int))) ∧ ((S 1018 0) < ((g5 1018 0) + (1 : Int)) ∧ ((g5 1018 0) + (1 : Int)) ≤ (S 1004 0) + 3 ∧ ((if (S 1012 0) = (S 1012 0) then (6 : Int) else (S 6 (S 1012 0))) = 6 ∨ ((if (S 1012 0) = (S 1012 0) then (6 : Int) else (S 6 (S 1012 0))) = 4 ∧ ((g5 1018 0) + (1 : Int)) ≤ (S 1004 0) ∧ ((g5 1018 0) + (1 : Int)) - (S 1018 0) ≤ 82)) ∧ (∀ k : Int, k ≠ (S 1012 0) → (if k = (S 1012 0) then (6 : Int) else (S 6 k)) = (S 6 k)))) ∧ ((¬ ((40 : Int) < l2_6)) → (0 ≤ (S 1012 0) ∧ (S 1012 0) < 4002) ∧ (sv_R ((g5 1018 0) + (1 : Int))) ∧ ((S 1018 0) < ((g5 1018 0) + (1 : Int)) ∧ ((g5 1018 0) + (1 : Int)) ≤ (S 1004 0) + 3 ∧ ((if (S 1012 0) = (S 1012 0) then (4 : Int) else (S 6 (S 1012 0))) = 6 ∨ ((if (S 1012 0) = (S 1012 0) then (4 : Int) else (S 6 (S 1012 0))) = 4 ∧ ((g5 1018 0) + (1 : Int)) ≤ (S 1004 0) ∧ ((g5 1018 0) + (1 : Int)) - (S 1018 0) ≤ 82)) ∧ (∀ k : Int, k ≠ (S 1012 0) → (if k = (S 1012 0) then (4 : Int) else (S 6 k)) = (S 6 k)))))))))))) ∧ ((¬ (l3_7 = (0 : Int))) → (sv_R (g5 1018 0) → (((¬ ((g5 1018 0) < (S 1004 0))) → (sv_R (S 1012 0) → (((l3_7 = (0 : Int)) → (0 ≤ (S 1012 0) ∧ (S 1012 0) < 4002) ∧ (sv_R ((g5 1018 0) + (1 : Int))) ∧ ((S 1018 0) < ((g5 1018 0) + (1 : Int)) ∧ ((g5 1018 0) + (1 : Int)) ≤ (S 1004 0) + 3 ∧ ((if (S 1012 0) = (S 1012 0) then (6 : Int) else (S 6 (S 1012 0))) = 6 ∨ ((if (S 1012 0) = (S 1012 0) then (6 : Int) else (S 6 (S 1012 0))) = 4 ∧ ((g5 1018 0) + (1 : Int)) ≤ (S 1004 0) ∧ ((g5 1018 0) + (1 : Int)) - (S 1018 0) ≤ 82)) ∧ (∀ k : Int, k ≠ (S 1012 0) → (if k = (S 1012 0) then (6 : Int) else (S 6 k)) = (S 6 k)))) ∧ ((¬ (l3_7 = (0 : Int))) → (((¬ ((g5 1018 0) < (S 1004 0))) → (0 ≤ (S 1012 0) ∧ (S 1012 0) < 4002) ∧ (sv_R ((g5 1018 0) + (1 : Int))) ∧ ((S 1018 0) < ((g5 1018 0) + (1 : Int)) ∧ ((g5 1018 0) + (1 : Int)) ≤ (S 1004 0) + 3 ∧ ((if (S 1012 0) = (S 1012 0) then (6 : Int) else (S 6 (S 1012 0))) = 6 ∨ ((if (S 1012 0) = (S 1012 0) then (6 : Int) else (S 6 (S 1012 0))) = 4 ∧ ((g5 1018 0) + (1 : Int)) ≤ (S 1004 0) ∧ ((g5 1018 0) + (1 : Int)) - (S 1018 0) ≤ 82)) ∧ (∀ k : Int, k ≠ (S 1012 0) → (if k = (S 1012 0) then (6 : Int) else (S 6 k)) = (S 6 k)))) ∧ (((g5 1018 0) < (S 1004 0)) → ((((40 : Int) < l2_6) → (0 ≤ (S 1012 0) ∧ (S 1012 0) < 4002) ∧ (sv_R ((g5 1018 0) + (1 : Int))) ∧ ((S 1018 0) < ((g5 1018 0) + (1 : Int)) ∧ ((g5 1018 0) + (1 : Int)) ≤ (S 1004 0) + 3 ∧ ((if (S 1012 0) = (S 1012 0) then (6 : Int) else (S 6 (S 1012 0))) = 6 ∨ ((if (S 1012 0) = (S 1012 0) then (6 : Int) else (S 6 (S 1012 0))) = 4 ∧ ((g5 1018 0) + (1 : Int)) ≤ (S 1004 0) ∧ ((g5 1018 0) + (1 : Int)) - (S 1018 0) ≤ 82)) ∧ (∀ k : Int, k ≠ (S 1012 0) → (if k = (S 1012 0) then (6 : Int) else (S 6 k)) = (S 6 k)))) ∧ ((¬ ((40 : Int) < l2_6)) → (0 ≤ (S 1012 0) ∧ (S 1012 0) < 4002) ∧ (sv_R ((g5 1018 0) + (1 : Int))) ∧ ((S 1018 0) < ((g5 1018 0) + (1 : Int)) ∧ ((g5 1018 0) + (1 : Int)) ≤ (S 1004 0) + 3 ∧ ((if (S 1012 0) = (S 1012 0) then (4 : Int) else (S 6 (S 1012 0))) = 6 ∨ ((if (S 1012 0) = (S 1012 0) then (4 : Int) else (S 6 (S 1012 0))) = 4 ∧ ((g5 1018 0) + (1 : Int)) ≤ (S 1004 0) ∧ ((g5 1018 0) + (1 : Int)) - (S 1018 0) ≤ 82)) ∧ (∀ k : Int, k ≠ (S 1012 0) → (if k = (S 1012 0) then (4 : Int) else (S 6 k)) = (S 6 k))))))))))) ∧ (((g5 1018 0) < (S 1004 0)) → (0 ≤ (S 1004 0) ∧ (S 1004 0) ≤ 4000 ∧ 0 ≤ (g5 1018 0)) ∧ (sv_R ((if (g5 1018 0) < (S 1004 0) then (S 2 (g5 1018 0)) % 256 else 0))) ∧ (((((if (g5 1018 0) < (S 1004 0) then (S 2 (g5 1018 0)) % 256 else 0)) = p1) → (sv_R (S 1012 0) → (((l3_7 = (0 : Int)) → (0 ≤ (S 1012 0) ∧ (S 1012 0) < 4002) ∧ (sv_R ((g5 1018 0) + (1 : Int))) ∧ ((S 1018 0) < ((g5 1018 0) + (1 : Int)) ∧ ((g5 1018 0) + (1 : Int)) ≤ (S 1004 0) + 3 ∧ ((if (S 1012 0) = (S 1012 0) then (6 : Int) else (S 6 (S 1012 0))) = 6 ∨ ((if (S 1012 0) = (S 1012 0) then (6 : Int) else (S 6 (S 1012 0))) = 4 ∧ ((g5 1018 0) + (1 : Int)) ≤ (S 1004 0) ∧ ((g5 1018 0) + (1 : Int)) - (S 1018 0) ≤ 82)) ∧ (∀ k : Int, k ≠ (S 1012 0) → (if k = (S 1012 0) then (6 : Int) else (S 6 k)) = (S 6 k)))) ∧ ((¬ (l3_7 = (0 : Int))) → (((¬ ((g5 1018 0) < (S 1004 0))) → (0 ≤ (S 1012 0) ∧ (S 1012 0) < 4002) ∧ (sv_R ((g5 1018 0) + (1 : Int))) ∧ ((S 1018 0) < ((g5 1018 0) + (1 : Int)) ∧ ((g5 1018 0) + (1 : Int)) ≤ (S 1004 0) + 3 ∧ ((if (S 1012 0) = (S 1012 0) then (6 : Int) else (S 6 (S 1012 0))) = 6 ∨ ((if (S 1012 0) = (S 1012 0) then (6 : Int) else (S 6 (S 1012 0))) = 4 ∧ ((g5 1018 0) + (1 : Int)) ≤ (S 1004 0) ∧ ((g5 1018 0) + (1 : Int)) - (S 1018 0) ≤ 82)) ∧ (∀ k : Int, k ≠ (S 1012 0) → (if k = (S 1012 0) then (6 : Int) else (S 6 k)) = (S 6 k)))) ∧ (((g5 1018 0) < (S 1004 0)) → ((((40 : Int) < l2_6) → (0 ≤ (S 1012 0) ∧ (S 1012 0) < 4002) ∧ (sv_R ((g5 1018 0) + (1 : Int))) ∧ ((S 1018 0) < ((g5 1018 0) + (1 : Int)) ∧ ((g5 1018 0) + (1 : Int)) ≤ (S 1004 0) + 3 ∧ ((if (S 1012 0) = (S 1012 0) then (6 : Int) else (S 6 (S 1012 0))) = 6 ∨ ((if (S 1012 0) = (S 1012 0) then (6 : Int) else (S 6 (S 1012 0))) = 4 ∧ ((g5 1018 0) + (1 : Int)) ≤ (S 1004 0) ∧ ((g5 1018 0) + (1 : Int)) - (S 1018 0) ≤ 82)) ∧ (∀ k : Int, k ≠ (S 1012 0) → (if k = (S 1012 0) then (6 : Int) else (S 6 k)) = (S 6 k)))) ∧ ((¬ ((40 : Int) < l2_6)) → (0 ≤ (S 1012 0) ∧ (S 1012 0) < 4002) ∧ (sv_R ((g5 1018 0) + (1 : Int))) ∧ ((S 1018 0) < ((g5 1018 0) + (1 : Int)) ∧ ((g5 1018 0) + (1 : Int)) ≤ (S 1004 0) + 3 ∧ ((if (S 1012 0) = (S 1012 0) then (4 : Int) else (S 6 (S 1012 0))) = 6 ∨ ((if (S 1012 0) = (S 1012 0) then (4 : Int) else (S 6 (S 1012 0))) = 4 ∧ ((g5 1018 0) + (1 : Int)) ≤ (S 1004 0) ∧ ((g5 1018 0) + (1 : Int)) - (S 1018 0) ≤ 82)) ∧ (∀ k : Int, k ≠ (S 1012 0) → (if k = (S 1012 0) then (4 : Int) else (S 6 k)) = (S 6 k))))))))))) ∧ ((¬ (((if (g5 1018 0) < (S 1004 0) then (S 2 (g5 1018 0)) % 256 else 0)) = p1)) → (((¬ ((if (g5 1018 0) < (S 1004 0) then (S 2 (g5 1018 0)) % 256 else 0)) = (92 : Int)) → ((((0 : Int) = (0 : Int)) → (∀ x109 : Int, ((if (g5 1018 0) < (S 1004 0) then (S 2 (g5 1018 0)) % 256 else 0)) = x109 → ((((0 : Int) = (0 : Int)) → (((x109 < (32 : Int)) → (((0 : Int) = 0 ∨ (0 : Int) = 1) ∧ ((0 : Int) = 0 ∨ (0 : Int) = 1) ∧ ((0 : Int) = 1 → (0 : Int) = 1 → (g5 1018 0) + 1 < (S 1004 0)) ∧ (g5 1018 0) < (S 1004 0) ∧ (S 1018 0) < (g5 1018 0) ∧ 0 ≤ l2_6 ∧ l2_6 ≤ (g5 1018 0) ∧ (g5 1018 0) - (S 1018 0) ≤ 1 + 2 * l2_6)) ∧ ((¬ (x109 < (32 : Int))) → ((((126 : Int) < x109) → (((0 : Int) = 0 ∨ (0 : Int) = 1) ∧ ((0 : Int) = 0 ∨ (0 : Int) = 1) ∧ ((0 : Int) = 1 → (0 : Int) = 1 → (g5 1018 0) + 1 < (S 1004 0)) ∧ (g5 1018 0) < (S 1004 0) ∧ (S 1018 0) < (g5 1018 0) ∧ 0 ≤ l2_6 ∧ l2_6 ≤ (g5 1018 0) ∧ (g5 1018 0) - (S 1018 0) ≤ 1 + 2 * l2_6)) ∧ ((¬ ((126 : Int) < x109)) → (((1 : Int) = 0 ∨ (1 : Int) = 1) ∧ ((0 : Int) = 0 ∨ (0 : Int) = 1) ∧ ((1 : Int) = 1 → (0 : Int) = 1 → (g5 1018 0) + 1 < (S 1004 0)) ∧ (g5 1018 0) < (S 1004 0) ∧ (S 1018 0) < (g5 1018 0) ∧ 0 ≤ l2_6 ∧ l2_6 ≤ (g5 1018 0) ∧ (g5 1018 0) - (S 1018 0) ≤ 1 + 2 * l2_6)))))) ∧ ((¬ ((0 : Int) = (0 : Int))) → (sv_R ((g5 1018 0) + (1 : Int))) ∧ (((¬ (((g5 1018 0) + (1 : Int)) < (S 1004 0))) → (((0 : Int) = 0 ∨ (0 : Int) = 1) ∧ ((0 : Int) = 0 ∨ (0 : Int) = 1) ∧ ((0 : Int) = 1 → (0 : Int) = 1 → (g5 1018 0) + 1 < (S 1004 0)) ∧ (g5 1018 0) < (S 1004 0) ∧ (S 1018 0) < (g5 1018 0) ∧ 0 ≤ l2_6 ∧ l2_6 ≤ (g5 1018 0) ∧ (g5 1018 0) - (S 1018 0) ≤ 1 + 2 * l2_6)) ∧ ((((g5 1018 0) + (1 : Int)) < (S 1004 0)) → (((x109 = (110 : Int)) → (((1 : Int) = 0 ∨ (1 : Int) = 1) ∧ ((0 : Int) = 0 ∨ (0 : Int) = 1) ∧ ((1 : Int) = 1 → (0 : Int) = 1 → (g5 1018 0) + 1 < (S 1004 0)) ∧ (g5 1018 0) < (S 1004 0) ∧ (S 1018 0) < (g5 1018 0) ∧ 0 ≤ l2_6 ∧ l2_6 ≤ (g5 1018 0) ∧ (g5 1018 0) - (S 1018 0) ≤ 1 + 2 * l2_6)) ∧ ((¬ (x109 = (110 : Int))) → (((x109 = (116 : Int)) → (((1 : Int) = 0 ∨ (1 : Int) = 1) ∧ ((0 : Int) = 0 ∨ (0 : Int) = 1) ∧ ((1 : Int) = 1 → (0 : Int) = 1 → (g5 1018 0) + 1 < (S 1004 0)) ∧ (g5 1018 0) < (S 1004 0) ∧ (S 1018 0) < (g5 1018 0) ∧ 0 ≤ l2_6 ∧ l2_6 ≤ (g5 1018 0) ∧ (g5 1018 0) - (S 1018 0) ≤ 1 + 2 * l2_6)) ∧ ((¬ (x109 = (116 : Int))) → (((x109 = (92 : Int)) → (((1 : Int) = 0 ∨ (1 : Int) = 1) ∧ ((0 : Int) = 0 ∨ (0 : Int) = 1) ∧ ((1 : Int) = 1 → (0 : Int) = 1 → (g5 1018 0) + 1 < (S 1004 0)) ∧ (g5 1018 0) < (S 1004 0) ∧ (S 1018 0) < (g5 1018 0) ∧ 0 ≤ l2_6 ∧ l2_6 ≤ (g5 1018 0) ∧ (g5 1018 0) - (S 1018 0) ≤ 1 + 2 * l2_6)) ∧ ((¬ (x109 = (92 : Int))) → (((x109 = (39 : Int)) → (((1 : Int) = 0 ∨ (1 : Int) = 1) ∧ ((0 : Int) = 0 ∨ (0 : Int) = 1) ∧ ((1 : Int) = 1 → (0 : Int) = 1 → (g5 1018 0) + 1 < (S 1004 0)) ∧ (g5 1018 0) < (S 1004 0) ∧ (S 1018 0) < (g5 1018 0) ∧ 0 ≤ l2_6 ∧ l2_6 ≤ (g5 1018 0) ∧ (g5 1018 0) - (S 1018 0) ≤ 1 + 2 * l2_6)) ∧ ((¬ (x109 = (39 : Int))) → (((¬ x109 = (34 : Int)) → (((0 : Int) = 0 ∨ (0 : Int) = 1) ∧ ((0 : Int) = 0 ∨ (0 : Int) = 1) ∧ ((0 : Int) = 1 → (0 : Int) = 1 → (g5 1018 0) + 1 < (S 1004 0)) ∧ (g5 1018 0) < (S 1004 0) ∧ (S 1018 0) < (g5 1018 0) ∧ 0 ≤ l2_6 ∧ l2_6 ≤ (g5 1018 0) ∧ (g5 1018 0) - (S 1018 0) ≤ 1 + 2 * l2_6)) ∧ ((¬ (¬ x109 = (34 : Int))) → (((1 : Int) = 0 ∨ (1 : Int) = 1) ∧ ((0 : Int) = 0 ∨ (0 : Int) = 1) ∧ ((1 : Int) = 1 → (0 : Int) = 1 → (g5 1018 0) + 1 < (S 1004 0)) ∧ (g5 1018 0) < (S 1004 0) ∧ (S 1018 0) < (g5 1018 0) ∧ 0 ≤ l2_6 ∧ l2_6 ≤ (g5 1018 0) ∧ (g5 1018 0) - (S 1018 0) ≤ 1 + 2 * l2_6))))))))))))))))) ∧ ((¬ ((0 : Int) = (0 : Int))) → (sv_R ((g5 1018 0) + (1 : Int))) ∧ (0 ≤ (S 1004 0) ∧ (S 1004 0) ≤ 4000 ∧ 0 ≤ ((g5 1018 0) + (1 : Int))) ∧ (∀ x114 : Int, ((if ((g5 1018 0) + (1 : Int)) < (S 1004 0) then (S 2 ((g5 1018 0) + (1 : Int))) % 256 else 0)) = x114 → ((((0 : Int) = (0 : Int)) → (sv_R x114) ∧ (((x114 < (32 : Int)) → (((0 : Int) = 0 ∨ (0 : Int) = 1) ∧ ((0 : Int) = 0 ∨ (0 : Int) = 1) ∧ ((0 : Int) = 1 → (0 : Int) = 1 → (g5 1018 0) + 1 < (S 1004 0)) ∧ (g5 1018 0) < (S 1004 0) ∧ (S 1018 0) < (g5 1018 0) ∧ 0 ≤ l2_6 ∧ l2_6 ≤ (g5 1018 0) ∧ (g5 1018 0) - (S 1018 0) ≤ 1 + 2 * l2_6)) ∧ ((¬ (x114 < (32 : Int))) → ((((126 : Int) < x114) → (((0 : Int) = 0 ∨ (0 : Int) = 1) ∧ ((0 : Int) = 0 ∨ (0 : Int) = 1) ∧ ((0 : Int) = 1 → (0 : Int) = 1 → (g5 1018 0) + 1 < (S 1004 0)) ∧ (g5 1018 0) < (S 1004 0) ∧ (S 1018 0) < (g5 1018 0) ∧ 0 ≤ l2_6 ∧ l2_6 ≤ (g5 1018 0) ∧ (g5 1018 0) - (S 1018 0) ≤ 1 + 2 * l2_6)) ∧ ((¬ ((126 : Int) < x114)) → (((1 : Int) = 0 ∨ (1 : Int) = 1) ∧ ((0 : Int) = 0 ∨ (0 : Int) = 1) ∧ ((1 : Int) = 1 → (0 : Int) = 1 → (g5 1018 0) + 1 < (S 1004 0)) ∧ (g5 1018 0) < (S 1004 0) ∧ (S 1018 0) < (g5 1018 0) ∧ 0 ≤ l2_6 ∧ l2_6 ≤ (g5 1018 0) ∧ (g5 1018 0) - (S 1018 0) ≤ 1 + 2 * l2_6)))))) ∧ ((¬ ((0 : Int) = (0 : Int))) → (((¬ (((g5 1018 0) + (1 : Int)) < (S 1004 0))) → (sv_R x114) ∧ (((0 : Int) = 0 ∨ (0 : Int) = 1) ∧ ((0 : Int) = 0 ∨ (0 : Int) = 1) ∧ ((0 : Int) = 1 → (0 : Int) = 1 → (g5 1018 0) + 1 < (S 1004 0)) ∧ (g5 1018 0) < (S 1004 0) ∧ (S 1018 0) < (g5 1018 0) ∧ 0 ≤ l2_6 ∧ l2_6 ≤ (g5 1018 0) ∧ (g5 1018 0) - (S 1018 0) ≤ 1 + 2 * l2_6)) ∧ ((((g5 1018 0) + (1 : Int)) < (S 1004 0)) → (sv_R x114) ∧ (((x114 = (110 : Int)) → (((1 : Int) = 0 ∨ (1 : Int) = 1) ∧ ((0 : Int) = 0 ∨ (0 : Int) = 1) ∧ ((1 : Int) = 1 → (0 : Int) = 1 → (g5 1018 0) + 1 < (S 1004 0)) ∧ (g5 1018 0) < (S 1004 0) ∧ (S 1018 0) < (g5 1018 0) ∧ 0 ≤ l2_6 ∧ l2_6 ≤ (g5 1018 0) ∧ (g5 1018 0) - (S 1018 0) ≤ 1 + 2 * l2_6)) ∧ ((¬ (x114 = (110 : Int))) → (((x114 = (116 : Int)) → (((1 : Int) = 0 ∨ (1 : Int) = 1) ∧ ((0 : Int) = 0 ∨ (0 : Int) = 1) ∧ ((1 : Int) = 1 → (0 : Int) = 1 → (g5 1018 0) + 1 < (S 1004 0)) ∧ (g5 1018 0) < (S 1004 0) ∧ (S 1018 0) < (g5 1018 0) ∧ 0 ≤ l2_6 ∧ l2_6 ≤ (g5 1018 0) ∧ (g5 1018 0) - (S 1018 0) ≤ 1 + 2 * l2_6)) ∧ ((¬ (x114 = (116 : Int))) → (((x114 = (92 : Int)) → (((1 : Int) = 0 ∨ (1 : Int) = 1) ∧ ((0 : Int) = 0 ∨ (0 : Int) = 1) ∧ ((1 : Int) = 1 → (0 : Int) = 1 → (g5 1018 0) + 1 < (S 1004 0)) ∧ (g5 1018 0) < (S 1004 0) ∧ (S 1018 0) < (g5 1018 0) ∧ 0 ≤ l2_6 ∧ l2_6 ≤ (g5 1018 0) ∧ (g5 1018 0) - (S 1018 0) ≤ 1 + 2 * l2_6)) ∧ ((¬ (x114 = (92 : Int))) → (((x114 = (39 : Int)) → (((1 : Int) = 0 ∨ (1 : Int) = 1) ∧ ((0 : Int) = 0 ∨ (0 : Int) = 1) ∧ ((1 : Int) = 1 → (0 : Int) = 1 → (g5 1018 0) + 1 < (S 1004 0)) ∧ (g5 1018 0) < (S 1004 0) ∧ (S 1018 0) < (g5 1018 0) ∧ 0 ≤ l2_6 ∧ l2_6 ≤ (g5 1018 0) ∧ (g5 1018 0) - (S 1018 0) ≤ 1 + 2 * l2_6)) ∧ ((¬ (x114 = (39 : Int))) → (((¬ x114 = (34 : Int)) → (((0 : Int) = 0 ∨ (0 : Int) = 1) ∧ ((0 : Int) = 0 ∨ (0 : Int) = 1) ∧ ((0 : Int) = 1 → (0 : Int) = 1 → (g5 1018 0) + 1 < (S 1004 0)) ∧ (g5 1018 0) < (S 1004 0) ∧ (S 1018 0) < (g5 1018 0) ∧ 0 ≤ l2_6 ∧ l2_6 ≤ (g5 1018 0) ∧ (g5 1018 0) - (S 1018 0) ≤ 1 + 2 * l2_6)) ∧ ((¬ (¬ x114 = (34 : Int))) → (((1 : Int) = 0 ∨ (1 : Int) = 1) ∧ ((0 : Int) = 0 ∨ (0 : Int) = 1) ∧ ((1 : Int) = 1 → (0 : Int) = 1 → (g5 1018 0) + 1 < (S 1004 0)) ∧ (g5 1018 0) < (S 1004 0) ∧ (S 1018 0) < (g5 1018 0) ∧ 0 ≤ l2_6 ∧ l2_6 ≤ (g5 1018 0) ∧ (g5 1018 0) - (S 1018 0) ≤ 1 + 2 * l2_6))))))))))))))))))) ∧ ((¬ (¬ ((if (g5 1018 0) < (S 1004 0) then (S 2 (g5 1018 0)) % 256 else 0)) = (92 : Int))) → ((((1 : Int) = (0 : Int)) → (∀ x119 : Int, ((if (g5 1018 0) < (S 1004 0) then (S 2 (g5 1018 0)) % 256 else 0)) = x119 → ((((1 : Int) = (0 : Int)) → (((x119 < (32 : Int)) → (((0 : Int) = 0 ∨ (0 : Int) = 1) ∧ ((1 : Int) = 0 ∨ (1 : Int) = 1) ∧ ((0 : Int) = 1 → (1 : Int) = 1 → (g5 1018 0) + 1 < (S 1004 0)) ∧ (g5 1018 0) < (S 1004 0) ∧ (S 1018 0) < (g5 1018 0) ∧ 0 ≤ l2_6 ∧ l2_6 ≤ (g5 1018 0) ∧ (g5 1018 0) - (S 1018 0) ≤ 1 + 2 * l2_6)) ∧ ((¬ (x119 < (32 : Int))) → ((((126 : Int) < x119) → (((0 : Int) = 0 ∨ (0 : Int) = 1) ∧ ((1 : Int) = 0 ∨ (1 : Int) = 1) ∧ ((0 : Int) = 1 → (1 : Int) = 1 → (g5 1018 0) + 1 < (S 1004 0)) ∧ (g5 1018 0) < (S 1004 0) ∧ (S 1018 0) < (g5 1018 0) ∧ 0 ≤ l2_6 ∧ l2_6 ≤ (g5 1018 0) ∧ (g5 1018 0) - (S 1018 0) ≤ 1 + 2 * l2_6)) ∧ ((¬ ((126 : Int) < x119)) → (((1 : Int) = 0 ∨ (1 : Int) = 1) ∧ ((1 : Int) = 0 ∨ (1 : Int) = 1) ∧ ((1 : Int) = 1 → (1 : Int) = 1 → (g5 1018 0) + 1 < (S 1004 0)) ∧ (g5 1018 0) < (S 1004 0) ∧ (S 1018 0) < (g5 1018 0) ∧ 0 ≤ l2_6 ∧ l2_6 ≤ (g5 1018 0) ∧ (g5 1018 0) - (S 1018 0) ≤ 1 + 2 * l2_6)))))) ∧ ((¬ ((1 : Int) = (0 : Int))) → (sv_R ((g5 1018 0) + (1 : Int))) ∧ (((¬ (((g5 1018 0) + (1 : Int)) < (S 1004 0))) → (((0 : Int) = 0 ∨ (0 : Int) = 1) ∧ ((1 : Int) = 0 ∨ (1 : Int) = 1) ∧ ((0 : Int) = 1 → (1 : Int) = 1 → (g5 1018 0) + 1 < (S 1004 0)) ∧ (g5 1018 0) < (S 1004 0) ∧ (S 1018 0) < (g5 1018 0) ∧ 0 ≤ l2_6 ∧ l2_6 ≤ (g5 1018 0) ∧ (g5 1018 0) - (S 1018 0) ≤ 1 + 2 * l2_6)) ∧ ((((g5 1018 0) + (1 : Int)) < (S 1004 0)) → (((x119 = (110 : Int)) → (((1 : Int) = 0 ∨ (1 : Int) = 1) ∧ ((1 : Int) = 0 ∨ (1 : Int) = 1) ∧ ((1 : Int) = 1 → (1 : Int) = 1 → (g5 1018 0) + 1 < (S 1004 0)) ∧ (g5 1018 0) < (S 1004 0) ∧ (S 1018 0) < (g5 1018 0) ∧ 0 ≤ l2_6 ∧ l2_6 ≤ (g5 1018 0) ∧ (g5 1018 0) - (S 1018 0) ≤ 1 + 2 * l2_6)) ∧ ((¬ (x119 = (110 : Int))) → (((x119 = (116 : Int)) → (((1 : Int) = 0 ∨ (1 : Int) = 1) ∧ ((1 : Int) = 0 ∨ (1 : Int) = 1) ∧ ((1 : Int) = 1 → (1 : Int) = 1 → (g5 1018 0) + 1 < (S 1004 0)) ∧ (g5 1018 0) < (S 1004 0) ∧ (S 1018 0) < (g5 1018 0) ∧ 0 ≤ l2_6 ∧ l2_6 ≤ (g5 1018 0) ∧ (g5 1018 0) - (S 1018 0) ≤ 1 + 2 * l2_6)) ∧ ((¬ (x119 = (116 : Int))) → (((x119 = (92 : Int)) → (((1 : Int) = 0 ∨ (1 : Int) = 1) ∧ ((1 : Int) = 0 ∨ (1 : Int) = 1) ∧ ((1 : Int) = 1 → (1 : Int) = 1 → (g5 1018 0) + 1 < (S 1004 0)) ∧ (g5 1018 0) < (S 1004 0) ∧ (S 1018 0) < (g5 1018 0) ∧ 0 ≤ l2_6 ∧ l2_6 ≤ (g5 1018 0) ∧ (g5 1018 0) - (S 1018 0) ≤ 1 + 2 * l2_6)) ∧ ((¬ (x119 = (92 : Int))) → (((x119 = (39 : Int)) → (((1 : Int) = 0 ∨ (1 : Int) = 1) ∧ ((1 : Int) = 0 ∨ (1 : Int) = 1) ∧ ((1 : Int) = 1 → (1 : Int) = 1 → (g5 1018 0) + 1 < (S 1004 0)) ∧ (g5 1018 0) < (S 1004 0) ∧ (S 1018 0) < (g5 1018 0) ∧ 0 ≤ l2_6 ∧ l2_6 ≤ (g5 1018 0) ∧ (g5 1018 0) - (S 1018 0) ≤ 1 + 2 * l2_6)) ∧ ((¬ (x119 = (39 : Int))) → (((¬ x119 = (34 : Int)) → (((0 : Int) = 0 ∨ (0 : Int) = 1) ∧ ((1 : Int) = 0 ∨ (1 : Int) = 1) ∧ ((0 : Int) = 1 → (1 : Int) = 1 → (g5 1018 0) + 1 < (S 1004 0)) ∧ (g5 1018 0) < (S 1004 0) ∧ (S 1018 0) < (g5 1018 0) ∧ 0 ≤ l2_6 ∧ l2_6 ≤ (g5 1018 0) ∧ (g5 1018 0) - (S 1018 0) ≤ 1 + 2 * l2_6)) ∧ ((¬ (¬ x119 = (34 : Int))) → (((1 : Int) = 0 ∨ (1 : Int) = 1) ∧ ((1 : Int) = 0 ∨ (1 : Int) = 1) ∧ ((1 : Int) = 1 → (1 : Int) = 1 → (g5 1018 0) + 1 < (S 1004 0)) ∧ (g5 1018 0) < (S 1004 0) ∧ (S 1018 0) < (g5 1018 0) ∧ 0 ≤ l2_6 ∧ l2_6 ≤ (g5 1018 0) ∧ (g5 1018 0) - (S 1018 0) ≤ 1 + 2 * l2_6))))))))))))))))) ∧ ((¬ ((1 : Int) = (0 : Int))) → (sv_R ((g5 1018 0) + (1 : Int))) ∧ (0 ≤ (S 1004 0) ∧ (S 1004 0) ≤ 4000 ∧ 0 ≤ ((g5 1018 0) + (1 : Int))) ∧ (∀ x124 : Int, ((if ((g5 1018 0) + (1 : Int)) < (S 1004 0) then (S 2 ((g5 1018 0) + (1 : Int))) % 256 else 0)) = x124 → ((((1 : Int) = (0 : Int)) → (sv_R x124) ∧ (((x124 < (32 : Int)) → (((0 : Int) = 0 ∨ (0 : Int) = 1) ∧ ((1 : Int) = 0 ∨ (1 : Int) = 1) ∧ ((0 : Int) = 1 → (1 : Int) = 1 → (g5 1018 0) + 1 < (S 1004 0)) ∧ (g5 1018 0) < (S 1004 0) ∧ (S 1018 0) < (g5 1018 0) ∧ 0 ≤ l2_6 ∧ l2_6 ≤ (g5 1018 0) ∧ (g5 1018 0) - (S 1018 0) ≤ 1 + 2 * l2_6)) ∧ ((¬ (x124 < (32 : Int))) → ((((126 : Int) < x124) → (((0 : Int) = 0 ∨ (0 : Int) = 1) ∧ ((1 : Int) = 0 ∨ (1 : Int) = 1) ∧ ((0 : Int) = 1 → (1 : Int) = 1 → (g5 1018 0) + 1 < (S 1004 0)) ∧ (g5 1018 0) < (S 1004 0) ∧ (S 1018 0) < (g5 1018 0) ∧ 0 ≤ l2_6 ∧ l2_6 ≤ (g5 1018 0) ∧ (g5 1018 0) - (S 1018 0) ≤ 1 + 2 * l2_6)) ∧ ((¬ ((126 : Int) < x124)) → (((1 : Int) = 0 ∨ (1 : Int) = 1) ∧ ((1 : Int) = 0 ∨ (1 : Int) = 1) ∧ ((1 : Int) = 1 → (1 : Int) = 1 → (g5 1018 0) + 1 < (S 1004 0)) ∧ (g5 1018 0) < (S 1004 0) ∧ (S 1018 0) < (g5 1018 0) ∧ 0 ≤ l2_6 ∧ l2_6 ≤ (g5 1018 0) ∧ (g5 1018 0) - (S 1018 0) ≤ 1 + 2 * l2_6)))))) ∧ ((¬ ((1 : Int) = (0 : Int))) → (((¬ (((g5 1018 0) + (1 : Int)) < (S 1004 0))) → (sv_R x124) ∧ (((0 : Int) = 0 ∨ (0 : Int) = 1) ∧ ((1 : Int) = 0 ∨ (1 : Int) = 1) ∧ ((0 : Int) = 1 → (1 : Int) = 1 → (g5 1018 0) + 1 < (S 1004 0)) ∧ (g5 1018 0) < (S 1004 0) ∧ (S 1018 0) < (g5 1018 0) ∧ 0 ≤ l2_6 ∧ l2_6 ≤ (g5 1018 0) ∧ (g5 1018 0) - (S 1018 0) ≤ 1 + 2 * l2_6)) ∧ ((((g5 1018 0) + (1 : Int)) < (S 1004 0)) → (sv_R x124) ∧ (((x124 = (110 : Int)) → (((1 : Int) = 0 ∨ (1 : Int) = 1) ∧ ((1 : Int) = 0 ∨ (1 : Int) = 1) ∧ ((1 : Int) = 1 → (1 : Int) = 1 → (g5 1018 0) + 1 < (S 1004 0)) ∧ (g5 1018 0) < (S 1004 0) ∧ (S 1018 0) < (g5 1018 0) ∧ 0 ≤ l2_6 ∧ l2_6 ≤ (g5 1018 0) ∧ (g5 1018 0) - (S 1018 0) ≤ 1 + 2 * l2_6)) ∧ ((¬ (x124 = (110 : Int))) → (((x124 = (116 : Int)) → (((1 : Int) = 0 ∨ (1 : Int) = 1) ∧ ((1 : Int) = 0 ∨ (1 : Int) = 1) ∧ ((1 : Int) = 1 → (1 : Int) = 1 → (g5 1018 0) + 1 < (S 1004 0)) ∧ (g5 1018 0) < (S 1004 0) ∧ (S 1018 0) < (g5 1018 0) ∧ 0 ≤ l2_6 ∧ l2_6 ≤ (g5 1018 0) ∧ (g5 1018 0) - (S 1018 0) ≤ 1 + 2 * l2_6)) ∧ ((¬ (x124 = (116 : Int))) → (((x124 = (92 : Int)) → (((1 : Int) = 0 ∨ (1 : Int) = 1) ∧ ((1 : Int) = 0 ∨ (1 : Int) = 1) ∧ ((1 : Int) = 1 → (1 : Int) = 1 → (g5 1018 0) + 1 < (S 1004 0)) ∧ (g5 1018 0) < (S 1004 0) ∧ (S 1018 0) < (g5 1018 0) ∧ 0 ≤ l2_6 ∧ l2_6 ≤ (g5 1018 0) ∧ (g5 1018 0) - (S 1018 0) ≤ 1 + 2 * l2_6)) ∧ ((¬ (x124 = (92 : Int))) → (((x124 = (39 : Int)) → (((1 : Int) = 0 ∨ (1 : Int) = 1) ∧ ((1 : Int) = 0 ∨ (1 : Int) = 1) ∧ ((1 : Int) = 1 → (1 : Int) = 1 → (g5 1018 0) + 1 < (S 1004 0)) ∧ (g5 1018 0) < (S 1004 0) ∧ (S 1018 0) < (g5 1018 0) ∧ 0 ≤ l2_6 ∧ l2_6 ≤ (g5 1018 0) ∧ (g5 1018 0) - (S 1018 0) ≤ 1 + 2 * l2_6)) ∧ ((¬ (x124 = (39 : Int))) → (((¬ x124 = (34 : Int)) → (((0 : Int) = 0 ∨ (0 : Int) = 1) ∧ ((1 : Int) = 0 ∨ (1 : Int) = 1) ∧ ((0 : Int) = 1 → (1 : Int) = 1 → (g5 1018 0) + 1 < (S 1004 0)) ∧ (g5 1018 0) < (S 1004 0) ∧ (S 1018 0) < (g5 1018 0) ∧ 0 ≤ l2_6 ∧ l2_6 ≤ (g5 1018 0) ∧ (g5 1018 0) - (S 1018 0) ≤ 1 + 2 * l2_6)) ∧ ((¬ (¬ x124 = (34 : Int))) → (((1 : Int) = 0 ∨ (1 : Int) = 1) ∧ ((1 : Int) = 0 ∨ (1 : Int) = 1) ∧ ((1 : Int) = 1 → (1 : Int) = 1 → (g5 1018 0) + 1 < (S 1004 0)) ∧ (g5 1018 0) < (S 1004 0) ∧ (S 1018 0) < (g5 1018 0) ∧ 0 ≤ l2_6 ∧ l2_6 ≤ (g5 1018 0) ∧ (g5 1018 0) - (S 1018 0) ≤ 1 + 2 * l2_6))))))))))))))))))))))))))))))) := by
  intro p1 S hok hp1 hpre
  repeat' (first | (refine And.intro ?_ ?_) | (intro _))
  all_goals first | assumption | omega | grind
set_option maxRecDepth 8000 in
set_option maxHeartbeats 2000000 in
theorem t_cutString : ∀ (p1 : Int) (S : sv_S), sm_ok S → sv_R p1 → (0 ≤ (S 1004 0) ∧ (S 1004 0) ≤ 4000 ∧ 0 ≤ (S 1018 0) ∧ (S 1018 0) ≤ (S 1004 0) ∧ 0 ≤ (S 1012 0) ∧ (S 1012 0) ≤ 4001 ∧ (S 1018 0) < (S 1004 0)) → sv_T sm_XS sm_cs sm_L sm_sh 1 (q_cutString p1 S) 21 0 (lv_args 0 [.ref 0, sv_I p1]) [] S := by
  intro p1 S hok hp1 hpre
  have h := f_cutString p1 S hok hp1 hpre
  have hM := sm_h21
  show sv_T sm_XS sm_cs sm_L sm_sh 1 (q_cutString p1 S) 21 0 [(0, .ref 0), (1, sv_I p1)] [] S
  refine sv_iconst (d := (0 : Int)) hM dX12_cutString_0 rfl rfl ?_
  refine sv_istore_n hM dX12_cutString_1 (by decide) rfl ?_
  show sv_T sm_XS sm_cs sm_L sm_sh 1 (q_cutString p1 S) 21 2 [(0, .ref 0), (1, sv_I p1), (2, sv_I (0 : Int))] [] S
  refine sv_aload_n hM dX12_cutString_2 rfl rfl ?_
  refine sv_dupA hM dX12_cutString_3 rfl ?_
  have k1 : sv_R (S 1018 0) := sm_okI hok sm_r1018 0
  have h := h k1
  refine sv_getI hM dX12_cutString_4 sm_fl_344 (sm_a0 _) sm_k18 rfl (x := (S 1018 0)) rfl ?_
  refine sv_iconst (d := (1 : Int)) hM dX12_cutString_7 rfl rfl ?_
  refine sv_iadd hM dX12_cutString_8 rfl ?_
  obtain ⟨o2, h⟩ := h
  refine sv_putI sm_X hM dX12_cutString_9 sm_fp_344 (sm_a0 _) sm_q18 (Or.inl rfl) rfl rfl rfl rfl ?_
  have ok3 : sm_ok (sv_up S 1018 0 ((S 1018 0) + (1 : Int))) := sm_upI hok sm_r1018 o2
  have md4 : sv_mod [1018, 6] S (sv_up S 1018 0 ((S 1018 0) + (1 : Int))) := sv_mod.up sv_mod.rf (by decide)
  refine sv_iconst (d := (1 : Int)) hM dX12_cutString_12 rfl rfl ?_
  refine sv_istore_n hM dX12_cutString_13 (by decide) rfl ?_
  show sv_T sm_XS sm_cs sm_L sm_sh 1 (q_cutString p1 S) 21 14 [(0, .ref 0), (1, sv_I p1), (2, sv_I (0 : Int)), (3, sv_I (1 : Int))] [] (sv_up S 1018 0 ((S 1018 0) + (1 : Int)))
  obtain ⟨hin9, h⟩ := h
  have hJ : ∀ a : Int × Int × sv_S, (sv_R a.1 ∧ sv_R a.2.1 ∧ sm_ok (sv_sts (sv_up S 1018 0 ((S 1018 0) + (1 : Int))) [1018] a.2.2) ∧ ((S 1018 0) < (a.2.2 1018 0) ∧ (a.2.2 1018 0) ≤ (S 1004 0) + 2 ∧ (a.2.1 = 0 ∨ (a.2.1 = 1 ∧ (a.2.2 1018 0) ≤ (S 1004 0))) ∧ 0 ≤ a.1 ∧ a.1 ≤ (a.2.2 1018 0) ∧ (a.2.2 1018 0) - (S 1018 0) ≤ 1 + 2 * a.1)) → sv_T sm_XS sm_cs sm_L sm_sh 1 (q_cutString p1 S) 21 14 [(0, .ref 0), (1, sv_I p1), (2, sv_I a.1), (3, sv_I a.2.1)] [] (sv_sts (sv_up S 1018 0 ((S 1018 0) + (1 : Int))) [1018] a.2.2) := by
    refine sv_loop (α := Int × Int × sv_S) (fun a => sv_R a.1 ∧ sv_R a.2.1 ∧ sm_ok (sv_sts (sv_up S 1018 0 ((S 1018 0) + (1 : Int))) [1018] a.2.2) ∧ ((S 1018 0) < (a.2.2 1018 0) ∧ (a.2.2 1018 0) ≤ (S 1004 0) + 2 ∧ (a.2.1 = 0 ∨ (a.2.1 = 1 ∧ (a.2.2 1018 0) ≤ (S 1004 0))) ∧ 0 ≤ a.1 ∧ a.1 ≤ (a.2.2 1018 0) ∧ (a.2.2 1018 0) - (S 1018 0) ≤ 1 + 2 * a.1)) (fun a => (S 1004 0) + 2 - (a.2.2 1018 0)) (fun a => sv_T sm_XS sm_cs sm_L sm_sh 1 (q_cutString p1 S) 21 14 [(0, .ref 0), (1, sv_I p1), (2, sv_I a.1), (3, sv_I a.2.1)] [] (sv_sts (sv_up S 1018 0 ((S 1018 0) + (1 : Int))) [1018] a.2.2)) (fun a q => (h a.1 q.1 a.2.1 q.2.1 a.2.2 q.2.2.2).1) (fun a q ih8 => ?_)
    obtain ⟨l2_6, l3_7, g5⟩ := a
    obtain ⟨hl2_6, hl3_7, ok10, hin9i⟩ := q
    have h := (h l2_6 hl2_6 l3_7 hl3_7 g5 hin9i).2
    show sv_T sm_XS sm_cs sm_L sm_sh 1 (q_cutString p1 S) 21 14 [(0, .ref 0), (1, sv_I p1), (2, sv_I l2_6), (3, sv_I l3_7)] [] (sv_sts (sv_up S 1018 0 ((S 1018 0) + (1 : Int))) [1018] g5)
    have md11 : sv_mod [1018, 6] S (sv_sts (sv_up S 1018 0 ((S 1018 0) + (1 : Int))) [1018] g5) := sv_mod.sts md4 (by decide)
    have md12 : sv_mod [1018] (sv_up S 1018 0 ((S 1018 0) + (1 : Int))) (sv_sts (sv_up S 1018 0 ((S 1018 0) + (1 : Int))) [1018] g5) := sv_mod.sts sv_mod.rf (by decide)
    have J28 : ∀ l3_13 : Int, sv_R l3_13 → ∀ l4_14 : Int, sv_R l4_14 → ∀ l5_15 : Int, sv_R l5_15 → ((l3_13 = 0 ∨ l3_13 = 1) ∧ (l4_14 = 0 ∨ l4_14 = 1) ∧ (l3_13 = 1 → l4_14 = 1 → (g5 1018 0) + 1 < (S 1004 0)) ∧ (g5 1018 0) < (S 1004 0) ∧ (S 1018 0) < (g5 1018 0) ∧ 0 ≤ l2_6 ∧ l2_6 ≤ (g5 1018 0) ∧ (g5 1018 0) - (S 1018 0) ≤ 1 + 2 * l2_6) → sv_T sm_XS sm_cs sm_L sm_sh 1 (q_cutString p1 S) 21 171 [(0, .ref 0), (1, sv_I p1), (2, sv_I l2_6), (3, sv_I l3_13), (4, sv_I l4_14), (5, sv_I l5_15)] [] (sv_sts (sv_up S 1018 0 ((S 1018 0) + (1 : Int))) [1018] g5) := by
      intro l3_13 hl3_13 l4_14 hl4_14 l5_15 hl5_15 hin16
      have h := h.1 l3_13 hl3_13 l4_14 hl4_14 l5_15 hl5_15 hin16
      refine sv_aload_n hM dX12_cutString_171 rfl rfl ?_
      refine sv_dupA hM dX12_cutString_172 rfl ?_
      have k17 : sv_R (g5 1018 0) := sm_okI ok10 sm_r1018 0
      have h := h k17
      refine sv_getI hM dX12_cutString_173 sm_fl_344 (sm_a0 _) sm_k18 rfl (x := (g5 1018 0)) rfl ?_
      refine sv_iload hM dX12_cutString_176 rfl rfl ?_
      refine sv_cond_eq hM dX12_cutString_178 hl4_14 (t := 185) rfl rfl (fun hc => ?_) (fun hc => ?_)
      · have h := h.1 (hc)
        refine sv_iconst (d := (1 : Int)) hM dX12_cutString_185 rfl rfl ?_
        refine sv_iadd hM dX12_cutString_186 rfl ?_
        obtain ⟨o18, h⟩ := h
        refine sv_putI sm_X hM dX12_cutString_187 sm_fp_344 (sm_a0 _) sm_q18 (Or.inl rfl) rfl rfl rfl rfl ?_
        have ok19 : sm_ok (sv_up (sv_sts (sv_up S 1018 0 ((S 1018 0) + (1 : Int))) [1018] g5) 1018 0 ((g5 1018 0) + (1 : Int))) := sm_upI ok10 sm_r1018 o18
        have md20 : sv_mod [1018, 6] S (sv_up (sv_sts (sv_up S 1018 0 ((S 1018 0) + (1 : Int))) [1018] g5) 1018 0 ((g5 1018 0) + (1 : Int))) := sv_mod.up md11 (by decide)
        have md21 : sv_mod [1018] (sv_up S 1018 0 ((S 1018 0) + (1 : Int))) (sv_up (sv_sts (sv_up S 1018 0 ((S 1018 0) + (1 : Int))) [1018] g5) 1018 0 ((g5 1018 0) + (1 : Int))) := sv_mod.up md12 (by decide)
        refine sv_iinc (d := (1 : Int)) hM dX12_cutString_190 rfl (by decide) rfl rfl ?_
        show sv_T sm_XS sm_cs sm_L sm_sh 1 (q_cutString p1 S) 21 193 [(0, .ref 0), (1, sv_I p1), (2, sv_I (l2_6 + (1 : Int))), (3, sv_I l3_13), (4, sv_I l4_14), (5, sv_I l5_15)] [] (sv_up (sv_sts (sv_up S 1018 0 ((S 1018 0) + (1 : Int))) [1018] g5) 1018 0 ((g5 1018 0) + (1 : Int)))
        refine sv_goto hM dX12_cutString_193 (pc' := 14) rfl ?_
        obtain ⟨o22, h⟩ := h
        have eS := sv_mod.eq md21
        have hb := ih8 ((l2_6 + (1 : Int)), l3_13, (sv_up (sv_sts (sv_up S 1018 0 ((S 1018 0) + (1 : Int))) [1018] g5) 1018 0 ((g5 1018 0) + (1 : Int)))) ⟨o22, hl3_13, (by rw [← eS]; exact ok19), h.1⟩ h.2
        have hb : sv_T sm_XS sm_cs sm_L sm_sh 1 (q_cutString p1 S) 21 14 [(0, .ref 0), (1, sv_I p1), (2, sv_I (l2_6 + (1 : Int))), (3, sv_I l3_13)] [] (sv_up (sv_sts (sv_up S 1018 0 ((S 1018 0) + (1 : Int))) [1018] g5) 1018 0 ((g5 1018 0) + (1 : Int))) := Eq.mpr (congrArg (fun Z => sv_T sm_XS sm_cs sm_L sm_sh 1 (q_cutString p1 S) 21 14 [(0, .ref 0), (1, sv_I p1), (2, sv_I (l2_6 + (1 : Int))), (3, sv_I l3_13)] [] Z) eS) hb
        exact sv_less (lv := [(0, .ref 0), (1, sv_I p1), (2, sv_I (l2_6 + (1 : Int))), (3, sv_I l3_13)]) (sv_Sub_cons rfl (sv_Sub_cons rfl (sv_Sub_cons rfl (sv_Sub_cons rfl sv_Sub_nil)))) hb
      · have h := h.2 (hc)
        refine sv_iconst (d := (2 : Int)) hM dX12_cutString_181 rfl rfl ?_
        refine sv_goto hM dX12_cutString_182 (pc' := 186) rfl ?_
        refine sv_iadd hM dX12_cutString_186 rfl ?_
        obtain ⟨o23, h⟩ := h
        refine sv_putI sm_X hM dX12_cutString_187 sm_fp_344 (sm_a0 _) sm_q18 (Or.inl rfl) rfl rfl rfl rfl ?_
        have ok24 : sm_ok (sv_up (sv_sts (sv_up S 1018 0 ((S 1018 0) + (1 : Int))) [1018] g5) 1018 0 ((g5 1018 0) + (2 : Int))) := sm_upI ok10 sm_r1018 o23
        have md25 : sv_mod [1018, 6] S (sv_up (sv_sts (sv_up S 1018 0 ((S 1018 0) + (1 : Int))) [1018] g5) 1018 0 ((g5 1018 0) + (2 : Int))) := sv_mod.up md11 (by decide)
        have md26 : sv_mod [1018] (sv_up S 1018 0 ((S 1018 0) + (1 : Int))) (sv_up (sv_sts (sv_up S 1018 0 ((S 1018 0) + (1 : Int))) [1018] g5) 1018 0 ((g5 1018 0) + (2 : Int))) := sv_mod.up md12 (by decide)
        refine sv_iinc (d := (1 : Int)) hM dX12_cutString_190 rfl (by decide) rfl rfl ?_
        show sv_T sm_XS sm_cs sm_L sm_sh 1 (q_cutString p1 S) 21 193 [(0, .ref 0), (1, sv_I p1), (2, sv_I (l2_6 + (1 : Int))), (3, sv_I l3_13), (4, sv_I l4_14), (5, sv_I l5_15)] [] (sv_up (sv_sts (sv_up S 1018 0 ((S 1018 0) + (1 : Int))) [1018] g5) 1018 0 ((g5 1018 0) + (2 : Int)))
        refine sv_goto hM dX12_cutString_193 (pc' := 14) rfl ?_
        obtain ⟨o27, h⟩ := h
        have eS := sv_mod.eq md26
        have hb := ih8 ((l2_6 + (1 : Int)), l3_13, (sv_up (sv_sts (sv_up S 1018 0 ((S 1018 0) + (1 : Int))) [1018] g5) 1018 0 ((g5 1018 0) + (2 : Int)))) ⟨o27, hl3_13, (by rw [← eS]; exact ok24), h.1⟩ h.2
        have hb : sv_T sm_XS sm_cs sm_L sm_sh 1 (q_cutString p1 S) 21 14 [(0, .ref 0), (1, sv_I p1), (2, sv_I (l2_6 + (1 : Int))), (3, sv_I l3_13)] [] (sv_up (sv_sts (sv_up S 1018 0 ((S 1018 0) + (1 : Int))) [1018] g5) 1018 0 ((g5 1018 0) + (2 : Int))) := Eq.mpr (congrArg (fun Z => sv_T sm_XS sm_cs sm_L sm_sh 1 (q_cutString p1 S) 21 14 [(0, .ref 0), (1, sv_I p1), (2, sv_I (l2_6 + (1 : Int))), (3, sv_I l3_13)] [] Z) eS) hb
        exact sv_less (lv := [(0, .ref 0), (1, sv_I p1), (2, sv_I (l2_6 + (1 : Int))), (3, sv_I l3_13)]) (sv_Sub_cons rfl (sv_Sub_cons rfl (sv_Sub_cons rfl (sv_Sub_cons rfl sv_Sub_nil)))) hb
    have h := h.2
    refine sv_iload_n hM dX12_cutString_14 rfl rfl ?_
    refine sv_cond_eq hM dX12_cutString_15 hl3_7 (t := 196) rfl rfl (fun hc => ?_) (fun hc => ?_)
    · have h := h.1 (hc)
      refine sv_aload_n hM dX12_cutString_196 rfl rfl ?_
      refine sv_getA hM dX12_cutString_197 sm_fl_27 (sm_a0 _) sm_k13 rfl ?_
      refine sv_aload_n hM dX12_cutString_200 rfl rfl ?_
      have k29 : sv_R (S 1012 0) := sm_okI ok10 sm_r1012 0
      have h := h k29
      refine sv_getI hM dX12_cutString_201 sm_fl_350 (sm_a0 _) sm_k12 rfl (x := (S 1012 0)) rfl ?_
      refine sv_iload_n hM dX12_cutString_204 rfl rfl ?_
      refine sv_cond_eq hM dX12_cutString_205 hl3_7 (t := 229) rfl rfl (fun hc => ?_) (fun hc => ?_)
      · have h := h.1 (hc)
        refine sv_bipush (d := (6 : Int)) hM dX12_cutString_229 rfl rfl ?_
        obtain ⟨o30, h⟩ := h
        refine sv_iast sm_X hM dX12_cutString_231 (sm_a6 _) (by decide) o30.1 o30.2 rfl ?_
        have ok31 : sm_ok (sv_up (sv_sts (sv_up S 1018 0 ((S 1018 0) + (1 : Int))) [1018] g5) 6 (S 1012 0) (6 : Int)) := sm_upI ok10 sm_r6 (⟨by decide, by decide⟩ : sv_R (6 : Int))
        have md32 : sv_mod [1018, 6] S (sv_up (sv_sts (sv_up S 1018 0 ((S 1018 0) + (1 : Int))) [1018] g5) 6 (S 1012 0) (6 : Int)) := sv_mod.up md11 (by decide)
        refine sv_aload_n hM dX12_cutString_232 rfl rfl ?_
        refine sv_dupA hM dX12_cutString_233 rfl ?_
        have k33 : sv_R (g5 1018 0) := sm_okI ok31 sm_r1018 0
        have h := h k33
        refine sv_getI hM dX12_cutString_234 sm_fl_344 (sm_a0 _) sm_k18 rfl (x := (g5 1018 0)) rfl ?_
        refine sv_iconst (d := (1 : Int)) hM dX12_cutString_237 rfl rfl ?_
        refine sv_iadd hM dX12_cutString_238 rfl ?_
        obtain ⟨o34, h⟩ := h
        refine sv_putI sm_X hM dX12_cutString_239 sm_fp_344 (sm_a0 _) sm_q18 (Or.inl rfl) rfl rfl rfl rfl ?_
        have ok35 : sm_ok (sv_up (sv_up (sv_sts (sv_up S 1018 0 ((S 1018 0) + (1 : Int))) [1018] g5) 6 (S 1012 0) (6 : Int)) 1018 0 ((g5 1018 0) + (1 : Int))) := sm_upI ok31 sm_r1018 o34
        have md36 : sv_mod [1018, 6] S (sv_up (sv_up (sv_sts (sv_up S 1018 0 ((S 1018 0) + (1 : Int))) [1018] g5) 6 (S 1012 0) (6 : Int)) 1018 0 ((g5 1018 0) + (1 : Int))) := sv_mod.up md32 (by decide)
        exact sv_vret hM dX12_cutString_242 rfl ⟨rfl, ok35, md36, h⟩
      · have h := h.2 (hc)
        refine sv_aload_n hM dX12_cutString_208 rfl rfl ?_
        refine sv_aload_n hM dX12_cutString_209 rfl rfl ?_
        have k37 : sv_R (g5 1018 0) := sm_okI ok10 sm_r1018 0
        have h := h k37
        refine sv_getI hM dX12_cutString_210 sm_fl_344 (sm_a0 _) sm_k18 rfl (x := (g5 1018 0)) rfl ?_
        refine sv_callV hM dX12_cutString_213 sm_iv_331 (by decide) (sm_a0 _) rfl rfl (Nat.le_of_ble_eq_true rfl) sm_h11 (Nat.le_of_ble_eq_true rfl) (Nat.le_of_ble_eq_true rfl) (F' := 0) (Nat.le_of_ble_eq_true rfl) rfl (t_isThere (g5 1018 0) (sv_sts (sv_up S 1018 0 ((S 1018 0) + (1 : Int))) [1018] g5) ok10 k37) (fun v S1 hq => ?_)
        obtain ⟨rfl, hS1⟩ := hq
        obtain rfl : (sv_sts (sv_up S 1018 0 ((S 1018 0) + (1 : Int))) [1018] g5) = S1 := hS1.symm
        show sv_T sm_XS sm_cs sm_L sm_sh 1 (q_cutString p1 S) 21 216 [(0, .ref 0), (1, sv_I p1), (2, sv_I l2_6), (3, sv_I l3_7)] [sv_I (if (g5 1018 0) < (S 1004 0) then 1 else 0), sv_I (S 1012 0), .ref 6] (sv_sts (sv_up S 1018 0 ((S 1018 0) + (1 : Int))) [1018] g5)
        refine sv_cond_eq hM dX12_cutString_216 (sv_Rite : sv_R (if (g5 1018 0) < (S 1004 0) then 1 else 0)) (t := 229) rfl rfl (fun hc => ?_) (fun hc => ?_)
        · have h := h.1 (sv_iten hc)
          refine sv_bipush (d := (6 : Int)) hM dX12_cutString_229 rfl rfl ?_
          obtain ⟨o38, h⟩ := h
          refine sv_iast sm_X hM dX12_cutString_231 (sm_a6 _) (by decide) o38.1 o38.2 rfl ?_
          have ok39 : sm_ok (sv_up (sv_sts (sv_up S 1018 0 ((S 1018 0) + (1 : Int))) [1018] g5) 6 (S 1012 0) (6 : Int)) := sm_upI ok10 sm_r6 (⟨by decide, by decide⟩ : sv_R (6 : Int))
          have md40 : sv_mod [1018, 6] S (sv_up (sv_sts (sv_up S 1018 0 ((S 1018 0) + (1 : Int))) [1018] g5) 6 (S 1012 0) (6 : Int)) := sv_mod.up md11 (by decide)
          refine sv_aload_n hM dX12_cutString_232 rfl rfl ?_
          refine sv_dupA hM dX12_cutString_233 rfl ?_
          refine sv_getI hM dX12_cutString_234 sm_fl_344 (sm_a0 _) sm_k18 rfl (x := (g5 1018 0)) rfl ?_
          refine sv_iconst (d := (1 : Int)) hM dX12_cutString_237 rfl rfl ?_
          refine sv_iadd hM dX12_cutString_238 rfl ?_
          obtain ⟨o41, h⟩ := h
          refine sv_putI sm_X hM dX12_cutString_239 sm_fp_344 (sm_a0 _) sm_q18 (Or.inl rfl) rfl rfl rfl rfl ?_
          have ok42 : sm_ok (sv_up (sv_up (sv_sts (sv_up S 1018 0 ((S 1018 0) + (1 : Int))) [1018] g5) 6 (S 1012 0) (6 : Int)) 1018 0 ((g5 1018 0) + (1 : Int))) := sm_upI ok39 sm_r1018 o41
          have md43 : sv_mod [1018, 6] S (sv_up (sv_up (sv_sts (sv_up S 1018 0 ((S 1018 0) + (1 : Int))) [1018] g5) 6 (S 1012 0) (6 : Int)) 1018 0 ((g5 1018 0) + (1 : Int))) := sv_mod.up md40 (by decide)
          exact sv_vret hM dX12_cutString_242 rfl ⟨rfl, ok42, md43, h⟩
        · have h := h.2 (sv_itep hc)
          refine sv_iload_n hM dX12_cutString_219 rfl rfl ?_
          refine sv_bipush (d := (40 : Int)) hM dX12_cutString_220 rfl rfl ?_
          refine sv_icmp_gt hM dX12_cutString_222 hl2_6 (⟨by decide, by decide⟩ : sv_R (40 : Int)) (t := 229) rfl rfl (fun hc => ?_) (fun hc => ?_)
          · have h := h.1 (hc)
            refine sv_bipush (d := (6 : Int)) hM dX12_cutString_229 rfl rfl ?_
            obtain ⟨o44, h⟩ := h
            refine sv_iast sm_X hM dX12_cutString_231 (sm_a6 _) (by decide) o44.1 o44.2 rfl ?_
            have ok45 : sm_ok (sv_up (sv_sts (sv_up S 1018 0 ((S 1018 0) + (1 : Int))) [1018] g5) 6 (S 1012 0) (6 : Int)) := sm_upI ok10 sm_r6 (⟨by decide, by decide⟩ : sv_R (6 : Int))
            have md46 : sv_mod [1018, 6] S (sv_up (sv_sts (sv_up S 1018 0 ((S 1018 0) + (1 : Int))) [1018] g5) 6 (S 1012 0) (6 : Int)) := sv_mod.up md11 (by decide)
            refine sv_aload_n hM dX12_cutString_232 rfl rfl ?_
            refine sv_dupA hM dX12_cutString_233 rfl ?_
            refine sv_getI hM dX12_cutString_234 sm_fl_344 (sm_a0 _) sm_k18 rfl (x := (g5 1018 0)) rfl ?_
            refine sv_iconst (d := (1 : Int)) hM dX12_cutString_237 rfl rfl ?_
            refine sv_iadd hM dX12_cutString_238 rfl ?_
            obtain ⟨o47, h⟩ := h
            refine sv_putI sm_X hM dX12_cutString_239 sm_fp_344 (sm_a0 _) sm_q18 (Or.inl rfl) rfl rfl rfl rfl ?_
            have ok48 : sm_ok (sv_up (sv_up (sv_sts (sv_up S 1018 0 ((S 1018 0) + (1 : Int))) [1018] g5) 6 (S 1012 0) (6 : Int)) 1018 0 ((g5 1018 0) + (1 : Int))) := sm_upI ok45 sm_r1018 o47
            have md49 : sv_mod [1018, 6] S (sv_up (sv_up (sv_sts (sv_up S 1018 0 ((S 1018 0) + (1 : Int))) [1018] g5) 6 (S 1012 0) (6 : Int)) 1018 0 ((g5 1018 0) + (1 : Int))) := sv_mod.up md46 (by decide)
            exact sv_vret hM dX12_cutString_242 rfl ⟨rfl, ok48, md49, h⟩
          · have h := h.2 (hc)
            refine sv_iconst (d := (4 : Int)) hM dX12_cutString_225 rfl rfl ?_
            refine sv_goto hM dX12_cutString_226 (pc' := 231) rfl ?_
            obtain ⟨o50, h⟩ := h
            refine sv_iast sm_X hM dX12_cutString_231 (sm_a6 _) (by decide) o50.1 o50.2 rfl ?_
            have ok51 : sm_ok (sv_up (sv_sts (sv_up S 1018 0 ((S 1018 0) + (1 : Int))) [1018] g5) 6 (S 1012 0) (4 : Int)) := sm_upI ok10 sm_r6 (⟨by decide, by decide⟩ : sv_R (4 : Int))
            have md52 : sv_mod [1018, 6] S (sv_up (sv_sts (sv_up S 1018 0 ((S 1018 0) + (1 : Int))) [1018] g5) 6 (S 1012 0) (4 : Int)) := sv_mod.up md11 (by decide)
            refine sv_aload_n hM dX12_cutString_232 rfl rfl ?_
            refine sv_dupA hM dX12_cutString_233 rfl ?_
            refine sv_getI hM dX12_cutString_234 sm_fl_344 (sm_a0 _) sm_k18 rfl (x := (g5 1018 0)) rfl ?_
            refine sv_iconst (d := (1 : Int)) hM dX12_cutString_237 rfl rfl ?_
            refine sv_iadd hM dX12_cutString_238 rfl ?_
            obtain ⟨o53, h⟩ := h
            refine sv_putI sm_X hM dX12_cutString_239 sm_fp_344 (sm_a0 _) sm_q18 (Or.inl rfl) rfl rfl rfl rfl ?_
            have ok54 : sm_ok (sv_up (sv_up (sv_sts (sv_up S 1018 0 ((S 1018 0) + (1 : Int))) [1018] g5) 6 (S 1012 0) (4 : Int)) 1018 0 ((g5 1018 0) + (1 : Int))) := sm_upI ok51 sm_r1018 o53
            have md55 : sv_mod [1018, 6] S (sv_up (sv_up (sv_sts (sv_up S 1018 0 ((S 1018 0) + (1 : Int))) [1018] g5) 6 (S 1012 0) (4 : Int)) 1018 0 ((g5 1018 0) + (1 : Int))) := sv_mod.up md52 (by decide)
            exact sv_vret hM dX12_cutString_242 rfl ⟨rfl, ok54, md55, h⟩
    · have h := h.2 (hc)
      refine sv_aload_n hM dX12_cutString_18 rfl rfl ?_
      refine sv_aload_n hM dX12_cutString_19 rfl rfl ?_
      have k56 : sv_R (g5 1018 0) := sm_okI ok10 sm_r1018 0
      have h := h k56
      refine sv_getI hM dX12_cutString_20 sm_fl_344 (sm_a0 _) sm_k18 rfl (x := (g5 1018 0)) rfl ?_
      refine sv_callV hM dX12_cutString_23 sm_iv_331 (by decide) (sm_a0 _) rfl rfl (Nat.le_of_ble_eq_true rfl) sm_h11 (Nat.le_of_ble_eq_true rfl) (Nat.le_of_ble_eq_true rfl) (F' := 0) (Nat.le_of_ble_eq_true rfl) rfl (t_isThere (g5 1018 0) (sv_sts (sv_up S 1018 0 ((S 1018 0) + (1 : Int))) [1018] g5) ok10 k56) (fun v S1 hq => ?_)
      obtain ⟨rfl, hS1⟩ := hq
      obtain rfl : (sv_sts (sv_up S 1018 0 ((S 1018 0) + (1 : Int))) [1018] g5) = S1 := hS1.symm
      show sv_T sm_XS sm_cs sm_L sm_sh 1 (q_cutString p1 S) 21 26 [(0, .ref 0), (1, sv_I p1), (2, sv_I l2_6), (3, sv_I l3_7)] [sv_I (if (g5 1018 0) < (S 1004 0) then 1 else 0)] (sv_sts (sv_up S 1018 0 ((S 1018 0) + (1 : Int))) [1018] g5)
      refine sv_cond_eq hM dX12_cutString_26 (sv_Rite : sv_R (if (g5 1018 0) < (S 1004 0) then 1 else 0)) (t := 196) rfl rfl (fun hc => ?_) (fun hc => ?_)
      · have h := h.1 (sv_iten hc)
        refine sv_aload_n hM dX12_cutString_196 rfl rfl ?_
        refine sv_getA hM dX12_cutString_197 sm_fl_27 (sm_a0 _) sm_k13 rfl ?_
        refine sv_aload_n hM dX12_cutString_200 rfl rfl ?_
        have k57 : sv_R (S 1012 0) := sm_okI ok10 sm_r1012 0
        have h := h k57
        refine sv_getI hM dX12_cutString_201 sm_fl_350 (sm_a0 _) sm_k12 rfl (x := (S 1012 0)) rfl ?_
        refine sv_iload_n hM dX12_cutString_204 rfl rfl ?_
        refine sv_cond_eq hM dX12_cutString_205 hl3_7 (t := 229) rfl rfl (fun hc => ?_) (fun hc => ?_)
        · have h := h.1 (hc)
          refine sv_bipush (d := (6 : Int)) hM dX12_cutString_229 rfl rfl ?_
          obtain ⟨o58, h⟩ := h
          refine sv_iast sm_X hM dX12_cutString_231 (sm_a6 _) (by decide) o58.1 o58.2 rfl ?_
          have ok59 : sm_ok (sv_up (sv_sts (sv_up S 1018 0 ((S 1018 0) + (1 : Int))) [1018] g5) 6 (S 1012 0) (6 : Int)) := sm_upI ok10 sm_r6 (⟨by decide, by decide⟩ : sv_R (6 : Int))
          have md60 : sv_mod [1018, 6] S (sv_up (sv_sts (sv_up S 1018 0 ((S 1018 0) + (1 : Int))) [1018] g5) 6 (S 1012 0) (6 : Int)) := sv_mod.up md11 (by decide)
          refine sv_aload_n hM dX12_cutString_232 rfl rfl ?_
          refine sv_dupA hM dX12_cutString_233 rfl ?_
          refine sv_getI hM dX12_cutString_234 sm_fl_344 (sm_a0 _) sm_k18 rfl (x := (g5 1018 0)) rfl ?_
          refine sv_iconst (d := (1 : Int)) hM dX12_cutString_237 rfl rfl ?_
          refine sv_iadd hM dX12_cutString_238 rfl ?_
          obtain ⟨o61, h⟩ := h
          refine sv_putI sm_X hM dX12_cutString_239 sm_fp_344 (sm_a0 _) sm_q18 (Or.inl rfl) rfl rfl rfl rfl ?_
          have ok62 : sm_ok (sv_up (sv_up (sv_sts (sv_up S 1018 0 ((S 1018 0) + (1 : Int))) [1018] g5) 6 (S 1012 0) (6 : Int)) 1018 0 ((g5 1018 0) + (1 : Int))) := sm_upI ok59 sm_r1018 o61
          have md63 : sv_mod [1018, 6] S (sv_up (sv_up (sv_sts (sv_up S 1018 0 ((S 1018 0) + (1 : Int))) [1018] g5) 6 (S 1012 0) (6 : Int)) 1018 0 ((g5 1018 0) + (1 : Int))) := sv_mod.up md60 (by decide)
          exact sv_vret hM dX12_cutString_242 rfl ⟨rfl, ok62, md63, h⟩
        · have h := h.2 (hc)
          refine sv_aload_n hM dX12_cutString_208 rfl rfl ?_
          refine sv_aload_n hM dX12_cutString_209 rfl rfl ?_
          refine sv_getI hM dX12_cutString_210 sm_fl_344 (sm_a0 _) sm_k18 rfl (x := (g5 1018 0)) rfl ?_
          refine sv_callV hM dX12_cutString_213 sm_iv_331 (by decide) (sm_a0 _) rfl rfl (Nat.le_of_ble_eq_true rfl) sm_h11 (Nat.le_of_ble_eq_true rfl) (Nat.le_of_ble_eq_true rfl) (F' := 0) (Nat.le_of_ble_eq_true rfl) rfl (t_isThere (g5 1018 0) (sv_sts (sv_up S 1018 0 ((S 1018 0) + (1 : Int))) [1018] g5) ok10 k56) (fun v S1 hq => ?_)
          obtain ⟨rfl, hS1⟩ := hq
          obtain rfl : (sv_sts (sv_up S 1018 0 ((S 1018 0) + (1 : Int))) [1018] g5) = S1 := hS1.symm
          show sv_T sm_XS sm_cs sm_L sm_sh 1 (q_cutString p1 S) 21 216 [(0, .ref 0), (1, sv_I p1), (2, sv_I l2_6), (3, sv_I l3_7)] [sv_I (if (g5 1018 0) < (S 1004 0) then 1 else 0), sv_I (S 1012 0), .ref 6] (sv_sts (sv_up S 1018 0 ((S 1018 0) + (1 : Int))) [1018] g5)
          refine sv_cond_eq hM dX12_cutString_216 (sv_Rite : sv_R (if (g5 1018 0) < (S 1004 0) then 1 else 0)) (t := 229) rfl rfl (fun hc => ?_) (fun hc => ?_)
          · have h := h.1 (sv_iten hc)
            refine sv_bipush (d := (6 : Int)) hM dX12_cutString_229 rfl rfl ?_
            obtain ⟨o64, h⟩ := h
            refine sv_iast sm_X hM dX12_cutString_231 (sm_a6 _) (by decide) o64.1 o64.2 rfl ?_
            have ok65 : sm_ok (sv_up (sv_sts (sv_up S 1018 0 ((S 1018 0) + (1 : Int))) [1018] g5) 6 (S 1012 0) (6 : Int)) := sm_upI ok10 sm_r6 (⟨by decide, by decide⟩ : sv_R (6 : Int))
            have md66 : sv_mod [1018, 6] S (sv_up (sv_sts (sv_up S 1018 0 ((S 1018 0) + (1 : Int))) [1018] g5) 6 (S 1012 0) (6 : Int)) := sv_mod.up md11 (by decide)
            refine sv_aload_n hM dX12_cutString_232 rfl rfl ?_
            refine sv_dupA hM dX12_cutString_233 rfl ?_
            refine sv_getI hM dX12_cutString_234 sm_fl_344 (sm_a0 _) sm_k18 rfl (x := (g5 1018 0)) rfl ?_
            refine sv_iconst (d := (1 : Int)) hM dX12_cutString_237 rfl rfl ?_
            refine sv_iadd hM dX12_cutString_238 rfl ?_
            obtain ⟨o67, h⟩ := h
            refine sv_putI sm_X hM dX12_cutString_239 sm_fp_344 (sm_a0 _) sm_q18 (Or.inl rfl) rfl rfl rfl rfl ?_
            have ok68 : sm_ok (sv_up (sv_up (sv_sts (sv_up S 1018 0 ((S 1018 0) + (1 : Int))) [1018] g5) 6 (S 1012 0) (6 : Int)) 1018 0 ((g5 1018 0) + (1 : Int))) := sm_upI ok65 sm_r1018 o67
            have md69 : sv_mod [1018, 6] S (sv_up (sv_up (sv_sts (sv_up S 1018 0 ((S 1018 0) + (1 : Int))) [1018] g5) 6 (S 1012 0) (6 : Int)) 1018 0 ((g5 1018 0) + (1 : Int))) := sv_mod.up md66 (by decide)
            exact sv_vret hM dX12_cutString_242 rfl ⟨rfl, ok68, md69, h⟩
          · have h := h.2 (sv_itep hc)
            refine sv_iload_n hM dX12_cutString_219 rfl rfl ?_
            refine sv_bipush (d := (40 : Int)) hM dX12_cutString_220 rfl rfl ?_
            refine sv_icmp_gt hM dX12_cutString_222 hl2_6 (⟨by decide, by decide⟩ : sv_R (40 : Int)) (t := 229) rfl rfl (fun hc => ?_) (fun hc => ?_)
            · have h := h.1 (hc)
              refine sv_bipush (d := (6 : Int)) hM dX12_cutString_229 rfl rfl ?_
              obtain ⟨o70, h⟩ := h
              refine sv_iast sm_X hM dX12_cutString_231 (sm_a6 _) (by decide) o70.1 o70.2 rfl ?_
              have ok71 : sm_ok (sv_up (sv_sts (sv_up S 1018 0 ((S 1018 0) + (1 : Int))) [1018] g5) 6 (S 1012 0) (6 : Int)) := sm_upI ok10 sm_r6 (⟨by decide, by decide⟩ : sv_R (6 : Int))
              have md72 : sv_mod [1018, 6] S (sv_up (sv_sts (sv_up S 1018 0 ((S 1018 0) + (1 : Int))) [1018] g5) 6 (S 1012 0) (6 : Int)) := sv_mod.up md11 (by decide)
              refine sv_aload_n hM dX12_cutString_232 rfl rfl ?_
              refine sv_dupA hM dX12_cutString_233 rfl ?_
              refine sv_getI hM dX12_cutString_234 sm_fl_344 (sm_a0 _) sm_k18 rfl (x := (g5 1018 0)) rfl ?_
              refine sv_iconst (d := (1 : Int)) hM dX12_cutString_237 rfl rfl ?_
              refine sv_iadd hM dX12_cutString_238 rfl ?_
              obtain ⟨o73, h⟩ := h
              refine sv_putI sm_X hM dX12_cutString_239 sm_fp_344 (sm_a0 _) sm_q18 (Or.inl rfl) rfl rfl rfl rfl ?_
              have ok74 : sm_ok (sv_up (sv_up (sv_sts (sv_up S 1018 0 ((S 1018 0) + (1 : Int))) [1018] g5) 6 (S 1012 0) (6 : Int)) 1018 0 ((g5 1018 0) + (1 : Int))) := sm_upI ok71 sm_r1018 o73
              have md75 : sv_mod [1018, 6] S (sv_up (sv_up (sv_sts (sv_up S 1018 0 ((S 1018 0) + (1 : Int))) [1018] g5) 6 (S 1012 0) (6 : Int)) 1018 0 ((g5 1018 0) + (1 : Int))) := sv_mod.up md72 (by decide)
              exact sv_vret hM dX12_cutString_242 rfl ⟨rfl, ok74, md75, h⟩
            · have h := h.2 (hc)
              refine sv_iconst (d := (4 : Int)) hM dX12_cutString_225 rfl rfl ?_
              refine sv_goto hM dX12_cutString_226 (pc' := 231) rfl ?_
              obtain ⟨o76, h⟩ := h
              refine sv_iast sm_X hM dX12_cutString_231 (sm_a6 _) (by decide) o76.1 o76.2 rfl ?_
              have ok77 : sm_ok (sv_up (sv_sts (sv_up S 1018 0 ((S 1018 0) + (1 : Int))) [1018] g5) 6 (S 1012 0) (4 : Int)) := sm_upI ok10 sm_r6 (⟨by decide, by decide⟩ : sv_R (4 : Int))
              have md78 : sv_mod [1018, 6] S (sv_up (sv_sts (sv_up S 1018 0 ((S 1018 0) + (1 : Int))) [1018] g5) 6 (S 1012 0) (4 : Int)) := sv_mod.up md11 (by decide)
              refine sv_aload_n hM dX12_cutString_232 rfl rfl ?_
              refine sv_dupA hM dX12_cutString_233 rfl ?_
              refine sv_getI hM dX12_cutString_234 sm_fl_344 (sm_a0 _) sm_k18 rfl (x := (g5 1018 0)) rfl ?_
              refine sv_iconst (d := (1 : Int)) hM dX12_cutString_237 rfl rfl ?_
              refine sv_iadd hM dX12_cutString_238 rfl ?_
              obtain ⟨o79, h⟩ := h
              refine sv_putI sm_X hM dX12_cutString_239 sm_fp_344 (sm_a0 _) sm_q18 (Or.inl rfl) rfl rfl rfl rfl ?_
              have ok80 : sm_ok (sv_up (sv_up (sv_sts (sv_up S 1018 0 ((S 1018 0) + (1 : Int))) [1018] g5) 6 (S 1012 0) (4 : Int)) 1018 0 ((g5 1018 0) + (1 : Int))) := sm_upI ok77 sm_r1018 o79
              have md81 : sv_mod [1018, 6] S (sv_up (sv_up (sv_sts (sv_up S 1018 0 ((S 1018 0) + (1 : Int))) [1018] g5) 6 (S 1012 0) (4 : Int)) 1018 0 ((g5 1018 0) + (1 : Int))) := sv_mod.up md78 (by decide)
              exact sv_vret hM dX12_cutString_242 rfl ⟨rfl, ok80, md81, h⟩
      · have h := h.2 (sv_itep hc)
        refine sv_aload_n hM dX12_cutString_29 rfl rfl ?_
        refine sv_aload_n hM dX12_cutString_30 rfl rfl ?_
        refine sv_getI hM dX12_cutString_31 sm_fl_344 (sm_a0 _) sm_k18 rfl (x := (g5 1018 0)) rfl ?_
        obtain ⟨o82, h⟩ := h
        refine sv_callV hM dX12_cutString_34 sm_iv_334 (by decide) (sm_a0 _) rfl rfl (Nat.le_of_ble_eq_true rfl) sm_h10 (Nat.le_of_ble_eq_true rfl) (Nat.le_of_ble_eq_true rfl) (F' := 0) (Nat.le_of_ble_eq_true rfl) rfl (t_look (g5 1018 0) (sv_sts (sv_up S 1018 0 ((S 1018 0) + (1 : Int))) [1018] g5) ok10 k56 o82) (fun v S1 hq => ?_)
        obtain ⟨rfl, hS1⟩ := hq
        obtain rfl : (sv_sts (sv_up S 1018 0 ((S 1018 0) + (1 : Int))) [1018] g5) = S1 := hS1.symm
        show sv_T sm_XS sm_cs sm_L sm_sh 1 (q_cutString p1 S) 21 37 [(0, .ref 0), (1, sv_I p1), (2, sv_I l2_6), (3, sv_I l3_7)] [sv_I ((if (g5 1018 0) < (S 1004 0) then (S 2 (g5 1018 0)) % 256 else 0))] (sv_sts (sv_up S 1018 0 ((S 1018 0) + (1 : Int))) [1018] g5)
        refine sv_iload_n hM dX12_cutString_37 rfl rfl ?_
        obtain ⟨o83, h⟩ := h
        refine sv_icmp_eq hM dX12_cutString_38 o83 hp1 (t := 196) rfl rfl (fun hc => ?_) (fun hc => ?_)
        · have h := h.1 (hc)
          refine sv_aload_n hM dX12_cutString_196 rfl rfl ?_
          refine sv_getA hM dX12_cutString_197 sm_fl_27 (sm_a0 _) sm_k13 rfl ?_
          refine sv_aload_n hM dX12_cutString_200 rfl rfl ?_
          have k84 : sv_R (S 1012 0) := sm_okI ok10 sm_r1012 0
          have h := h k84
          refine sv_getI hM dX12_cutString_201 sm_fl_350 (sm_a0 _) sm_k12 rfl (x := (S 1012 0)) rfl ?_
          refine sv_iload_n hM dX12_cutString_204 rfl rfl ?_
          refine sv_cond_eq hM dX12_cutString_205 hl3_7 (t := 229) rfl rfl (fun hc => ?_) (fun hc => ?_)
          · have h := h.1 (hc)
            refine sv_bipush (d := (6 : Int)) hM dX12_cutString_229 rfl rfl ?_
            obtain ⟨o85, h⟩ := h
            refine sv_iast sm_X hM dX12_cutString_231 (sm_a6 _) (by decide) o85.1 o85.2 rfl ?_
            have ok86 : sm_ok (sv_up (sv_sts (sv_up S 1018 0 ((S 1018 0) + (1 : Int))) [1018] g5) 6 (S 1012 0) (6 : Int)) := sm_upI ok10 sm_r6 (⟨by decide, by decide⟩ : sv_R (6 : Int))
            have md87 : sv_mod [1018, 6] S (sv_up (sv_sts (sv_up S 1018 0 ((S 1018 0) + (1 : Int))) [1018] g5) 6 (S 1012 0) (6 : Int)) := sv_mod.up md11 (by decide)
            refine sv_aload_n hM dX12_cutString_232 rfl rfl ?_
            refine sv_dupA hM dX12_cutString_233 rfl ?_
            refine sv_getI hM dX12_cutString_234 sm_fl_344 (sm_a0 _) sm_k18 rfl (x := (g5 1018 0)) rfl ?_
            refine sv_iconst (d := (1 : Int)) hM dX12_cutString_237 rfl rfl ?_
            refine sv_iadd hM dX12_cutString_238 rfl ?_
            obtain ⟨o88, h⟩ := h
            refine sv_putI sm_X hM dX12_cutString_239 sm_fp_344 (sm_a0 _) sm_q18 (Or.inl rfl) rfl rfl rfl rfl ?_
            have ok89 : sm_ok (sv_up (sv_up (sv_sts (sv_up S 1018 0 ((S 1018 0) + (1 : Int))) [1018] g5) 6 (S 1012 0) (6 : Int)) 1018 0 ((g5 1018 0) + (1 : Int))) := sm_upI ok86 sm_r1018 o88
            have md90 : sv_mod [1018, 6] S (sv_up (sv_up (sv_sts (sv_up S 1018 0 ((S 1018 0) + (1 : Int))) [1018] g5) 6 (S 1012 0) (6 : Int)) 1018 0 ((g5 1018 0) + (1 : Int))) := sv_mod.up md87 (by decide)
            exact sv_vret hM dX12_cutString_242 rfl ⟨rfl, ok89, md90, h⟩
          · have h := h.2 (hc)
            refine sv_aload_n hM dX12_cutString_208 rfl rfl ?_
            refine sv_aload_n hM dX12_cutString_209 rfl rfl ?_
            refine sv_getI hM dX12_cutString_210 sm_fl_344 (sm_a0 _) sm_k18 rfl (x := (g5 1018 0)) rfl ?_
            refine sv_callV hM dX12_cutString_213 sm_iv_331 (by decide) (sm_a0 _) rfl rfl (Nat.le_of_ble_eq_true rfl) sm_h11 (Nat.le_of_ble_eq_true rfl) (Nat.le_of_ble_eq_true rfl) (F' := 0) (Nat.le_of_ble_eq_true rfl) rfl (t_isThere (g5 1018 0) (sv_sts (sv_up S 1018 0 ((S 1018 0) + (1 : Int))) [1018] g5) ok10 k56) (fun v S1 hq => ?_)
            obtain ⟨rfl, hS1⟩ := hq
            obtain rfl : (sv_sts (sv_up S 1018 0 ((S 1018 0) + (1 : Int))) [1018] g5) = S1 := hS1.symm
            show sv_T sm_XS sm_cs sm_L sm_sh 1 (q_cutString p1 S) 21 216 [(0, .ref 0), (1, sv_I p1), (2, sv_I l2_6), (3, sv_I l3_7)] [sv_I (if (g5 1018 0) < (S 1004 0) then 1 else 0), sv_I (S 1012 0), .ref 6] (sv_sts (sv_up S 1018 0 ((S 1018 0) + (1 : Int))) [1018] g5)
            refine sv_cond_eq hM dX12_cutString_216 (sv_Rite : sv_R (if (g5 1018 0) < (S 1004 0) then 1 else 0)) (t := 229) rfl rfl (fun hc => ?_) (fun hc => ?_)
            · have h := h.1 (sv_iten hc)
              refine sv_bipush (d := (6 : Int)) hM dX12_cutString_229 rfl rfl ?_
              obtain ⟨o91, h⟩ := h
              refine sv_iast sm_X hM dX12_cutString_231 (sm_a6 _) (by decide) o91.1 o91.2 rfl ?_
              have ok92 : sm_ok (sv_up (sv_sts (sv_up S 1018 0 ((S 1018 0) + (1 : Int))) [1018] g5) 6 (S 1012 0) (6 : Int)) := sm_upI ok10 sm_r6 (⟨by decide, by decide⟩ : sv_R (6 : Int))
              have md93 : sv_mod [1018, 6] S (sv_up (sv_sts (sv_up S 1018 0 ((S 1018 0) + (1 : Int))) [1018] g5) 6 (S 1012 0) (6 : Int)) := sv_mod.up md11 (by decide)
              refine sv_aload_n hM dX12_cutString_232 rfl rfl ?_
              refine sv_dupA hM dX12_cutString_233 rfl ?_
              refine sv_getI hM dX12_cutString_234 sm_fl_344 (sm_a0 _) sm_k18 rfl (x := (g5 1018 0)) rfl ?_
              refine sv_iconst (d := (1 : Int)) hM dX12_cutString_237 rfl rfl ?_
              refine sv_iadd hM dX12_cutString_238 rfl ?_
              obtain ⟨o94, h⟩ := h
              refine sv_putI sm_X hM dX12_cutString_239 sm_fp_344 (sm_a0 _) sm_q18 (Or.inl rfl) rfl rfl rfl rfl ?_
              have ok95 : sm_ok (sv_up (sv_up (sv_sts (sv_up S 1018 0 ((S 1018 0) + (1 : Int))) [1018] g5) 6 (S 1012 0) (6 : Int)) 1018 0 ((g5 1018 0) + (1 : Int))) := sm_upI ok92 sm_r1018 o94
              have md96 : sv_mod [1018, 6] S (sv_up (sv_up (sv_sts (sv_up S 1018 0 ((S 1018 0) + (1 : Int))) [1018] g5) 6 (S 1012 0) (6 : Int)) 1018 0 ((g5 1018 0) + (1 : Int))) := sv_mod.up md93 (by decide)
              exact sv_vret hM dX12_cutString_242 rfl ⟨rfl, ok95, md96, h⟩
            · have h := h.2 (sv_itep hc)
              refine sv_iload_n hM dX12_cutString_219 rfl rfl ?_
              refine sv_bipush (d := (40 : Int)) hM dX12_cutString_220 rfl rfl ?_
              refine sv_icmp_gt hM dX12_cutString_222 hl2_6 (⟨by decide, by decide⟩ : sv_R (40 : Int)) (t := 229) rfl rfl (fun hc => ?_) (fun hc => ?_)
              · have h := h.1 (hc)
                refine sv_bipush (d := (6 : Int)) hM dX12_cutString_229 rfl rfl ?_
                obtain ⟨o97, h⟩ := h
                refine sv_iast sm_X hM dX12_cutString_231 (sm_a6 _) (by decide) o97.1 o97.2 rfl ?_
                have ok98 : sm_ok (sv_up (sv_sts (sv_up S 1018 0 ((S 1018 0) + (1 : Int))) [1018] g5) 6 (S 1012 0) (6 : Int)) := sm_upI ok10 sm_r6 (⟨by decide, by decide⟩ : sv_R (6 : Int))
                have md99 : sv_mod [1018, 6] S (sv_up (sv_sts (sv_up S 1018 0 ((S 1018 0) + (1 : Int))) [1018] g5) 6 (S 1012 0) (6 : Int)) := sv_mod.up md11 (by decide)
                refine sv_aload_n hM dX12_cutString_232 rfl rfl ?_
                refine sv_dupA hM dX12_cutString_233 rfl ?_
                refine sv_getI hM dX12_cutString_234 sm_fl_344 (sm_a0 _) sm_k18 rfl (x := (g5 1018 0)) rfl ?_
                refine sv_iconst (d := (1 : Int)) hM dX12_cutString_237 rfl rfl ?_
                refine sv_iadd hM dX12_cutString_238 rfl ?_
                obtain ⟨o100, h⟩ := h
                refine sv_putI sm_X hM dX12_cutString_239 sm_fp_344 (sm_a0 _) sm_q18 (Or.inl rfl) rfl rfl rfl rfl ?_
                have ok101 : sm_ok (sv_up (sv_up (sv_sts (sv_up S 1018 0 ((S 1018 0) + (1 : Int))) [1018] g5) 6 (S 1012 0) (6 : Int)) 1018 0 ((g5 1018 0) + (1 : Int))) := sm_upI ok98 sm_r1018 o100
                have md102 : sv_mod [1018, 6] S (sv_up (sv_up (sv_sts (sv_up S 1018 0 ((S 1018 0) + (1 : Int))) [1018] g5) 6 (S 1012 0) (6 : Int)) 1018 0 ((g5 1018 0) + (1 : Int))) := sv_mod.up md99 (by decide)
                exact sv_vret hM dX12_cutString_242 rfl ⟨rfl, ok101, md102, h⟩
              · have h := h.2 (hc)
                refine sv_iconst (d := (4 : Int)) hM dX12_cutString_225 rfl rfl ?_
                refine sv_goto hM dX12_cutString_226 (pc' := 231) rfl ?_
                obtain ⟨o103, h⟩ := h
                refine sv_iast sm_X hM dX12_cutString_231 (sm_a6 _) (by decide) o103.1 o103.2 rfl ?_
                have ok104 : sm_ok (sv_up (sv_sts (sv_up S 1018 0 ((S 1018 0) + (1 : Int))) [1018] g5) 6 (S 1012 0) (4 : Int)) := sm_upI ok10 sm_r6 (⟨by decide, by decide⟩ : sv_R (4 : Int))
                have md105 : sv_mod [1018, 6] S (sv_up (sv_sts (sv_up S 1018 0 ((S 1018 0) + (1 : Int))) [1018] g5) 6 (S 1012 0) (4 : Int)) := sv_mod.up md11 (by decide)
                refine sv_aload_n hM dX12_cutString_232 rfl rfl ?_
                refine sv_dupA hM dX12_cutString_233 rfl ?_
                refine sv_getI hM dX12_cutString_234 sm_fl_344 (sm_a0 _) sm_k18 rfl (x := (g5 1018 0)) rfl ?_
                refine sv_iconst (d := (1 : Int)) hM dX12_cutString_237 rfl rfl ?_
                refine sv_iadd hM dX12_cutString_238 rfl ?_
                obtain ⟨o106, h⟩ := h
                refine sv_putI sm_X hM dX12_cutString_239 sm_fp_344 (sm_a0 _) sm_q18 (Or.inl rfl) rfl rfl rfl rfl ?_
                have ok107 : sm_ok (sv_up (sv_up (sv_sts (sv_up S 1018 0 ((S 1018 0) + (1 : Int))) [1018] g5) 6 (S 1012 0) (4 : Int)) 1018 0 ((g5 1018 0) + (1 : Int))) := sm_upI ok104 sm_r1018 o106
                have md108 : sv_mod [1018, 6] S (sv_up (sv_up (sv_sts (sv_up S 1018 0 ((S 1018 0) + (1 : Int))) [1018] g5) 6 (S 1012 0) (4 : Int)) 1018 0 ((g5 1018 0) + (1 : Int))) := sv_mod.up md105 (by decide)
                exact sv_vret hM dX12_cutString_242 rfl ⟨rfl, ok107, md108, h⟩
        · have h := h.2 (hc)
          refine sv_aload_n hM dX12_cutString_41 rfl rfl ?_
          refine sv_aload_n hM dX12_cutString_42 rfl rfl ?_
          refine sv_getI hM dX12_cutString_43 sm_fl_344 (sm_a0 _) sm_k18 rfl (x := (g5 1018 0)) rfl ?_
          refine sv_callV hM dX12_cutString_46 sm_iv_334 (by decide) (sm_a0 _) rfl rfl (Nat.le_of_ble_eq_true rfl) sm_h10 (Nat.le_of_ble_eq_true rfl) (Nat.le_of_ble_eq_true rfl) (F' := 0) (Nat.le_of_ble_eq_true rfl) rfl (t_look (g5 1018 0) (sv_sts (sv_up S 1018 0 ((S 1018 0) + (1 : Int))) [1018] g5) ok10 k56 o82) (fun v S1 hq => ?_)
          obtain ⟨rfl, hS1⟩ := hq
          obtain rfl : (sv_sts (sv_up S 1018 0 ((S 1018 0) + (1 : Int))) [1018] g5) = S1 := hS1.symm
          show sv_T sm_XS sm_cs sm_L sm_sh 1 (q_cutString p1 S) 21 49 [(0, .ref 0), (1, sv_I p1), (2, sv_I l2_6), (3, sv_I l3_7)] [sv_I ((if (g5 1018 0) < (S 1004 0) then (S 2 (g5 1018 0)) % 256 else 0))] (sv_sts (sv_up S 1018 0 ((S 1018 0) + (1 : Int))) [1018] g5)
          refine sv_bipush (d := (92 : Int)) hM dX12_cutString_49 rfl rfl ?_
          refine sv_icmp_ne hM dX12_cutString_51 o83 (⟨by decide, by decide⟩ : sv_R (92 : Int)) (t := 58) rfl rfl (fun hc => ?_) (fun hc => ?_)
          · have h := h.1 (hc)
            refine sv_iconst (d := (0 : Int)) hM dX12_cutString_58 rfl rfl ?_
            refine sv_istore hM dX12_cutString_59 (by decide) rfl ?_
            show sv_T sm_XS sm_cs sm_L sm_sh 1 (q_cutString p1 S) 21 61 [(0, .ref 0), (1, sv_I p1), (2, sv_I l2_6), (3, sv_I l3_7), (4, sv_I (0 : Int))] [] (sv_sts (sv_up S 1018 0 ((S 1018 0) + (1 : Int))) [1018] g5)
            refine sv_iload hM dX12_cutString_61 rfl rfl ?_
            refine sv_cond_eq hM dX12_cutString_63 (⟨by decide, by decide⟩ : sv_R (0 : Int)) (t := 79) rfl rfl (fun hc => ?_) (fun hc => ?_)
            · have h := h.1 (hc)
              refine sv_aload_n hM dX12_cutString_79 rfl rfl ?_
              refine sv_aload_n hM dX12_cutString_80 rfl rfl ?_
              refine sv_getI hM dX12_cutString_81 sm_fl_344 (sm_a0 _) sm_k18 rfl (x := (g5 1018 0)) rfl ?_
              refine sv_callV hM dX12_cutString_84 sm_iv_334 (by decide) (sm_a0 _) rfl rfl (Nat.le_of_ble_eq_true rfl) sm_h10 (Nat.le_of_ble_eq_true rfl) (Nat.le_of_ble_eq_true rfl) (F' := 0) (Nat.le_of_ble_eq_true rfl) rfl (t_look (g5 1018 0) (sv_sts (sv_up S 1018 0 ((S 1018 0) + (1 : Int))) [1018] g5) ok10 k56 o82) (fun v S1 hq => ?_)
              obtain ⟨rfl, hS1⟩ := hq
              obtain rfl : (sv_sts (sv_up S 1018 0 ((S 1018 0) + (1 : Int))) [1018] g5) = S1 := hS1.symm
              show sv_T sm_XS sm_cs sm_L sm_sh 1 (q_cutString p1 S) 21 87 [(0, .ref 0), (1, sv_I p1), (2, sv_I l2_6), (3, sv_I l3_7), (4, sv_I (0 : Int))] [sv_I ((if (g5 1018 0) < (S 1004 0) then (S 2 (g5 1018 0)) % 256 else 0))] (sv_sts (sv_up S 1018 0 ((S 1018 0) + (1 : Int))) [1018] g5)
              obtain ⟨x109, e110⟩ : ∃ x : Int, ((if (g5 1018 0) < (S 1004 0) then (S 2 (g5 1018 0)) % 256 else 0)) = x := ⟨_, rfl⟩
              have h := h x109 e110
              have e110r : sv_R x109 := e110 ▸ o83
              refine sv_nameI e110 ?_
              refine sv_istore hM dX12_cutString_87 (by decide) rfl ?_
              show sv_T sm_XS sm_cs sm_L sm_sh 1 (q_cutString p1 S) 21 89 [(0, .ref 0), (1, sv_I p1), (2, sv_I l2_6), (3, sv_I l3_7), (4, sv_I (0 : Int)), (5, sv_I x109)] [] (sv_sts (sv_up S 1018 0 ((S 1018 0) + (1 : Int))) [1018] g5)
              refine sv_iload hM dX12_cutString_89 rfl rfl ?_
              refine sv_cond_eq hM dX12_cutString_91 (⟨by decide, by decide⟩ : sv_R (0 : Int)) (t := 151) rfl rfl (fun hc => ?_) (fun hc => ?_)
              · have h := h.1 (hc)
                refine sv_iload hM dX12_cutString_151 rfl rfl ?_
                refine sv_bipush (d := (32 : Int)) hM dX12_cutString_153 rfl rfl ?_
                refine sv_icmp_lt hM dX12_cutString_155 e110r (⟨by decide, by decide⟩ : sv_R (32 : Int)) (t := 169) rfl rfl (fun hc => ?_) (fun hc => ?_)
                · have h := h.1 (hc)
                  refine sv_iconst (d := (0 : Int)) hM dX12_cutString_169 rfl rfl ?_
                  refine sv_istore_n hM dX12_cutString_170 (by decide) rfl ?_
                  show sv_T sm_XS sm_cs sm_L sm_sh 1 (q_cutString p1 S) 21 171 [(0, .ref 0), (1, sv_I p1), (2, sv_I l2_6), (3, sv_I (0 : Int)), (4, sv_I (0 : Int)), (5, sv_I x109)] [] (sv_sts (sv_up S 1018 0 ((S 1018 0) + (1 : Int))) [1018] g5)
                  have hb := J28 (0 : Int) (⟨by decide, by decide⟩ : sv_R (0 : Int)) (0 : Int) (⟨by decide, by decide⟩ : sv_R (0 : Int)) x109 e110r h
                  exact sv_less (lv := [(0, .ref 0), (1, sv_I p1), (2, sv_I l2_6), (3, sv_I (0 : Int)), (4, sv_I (0 : Int)), (5, sv_I x109)]) (sv_Sub_cons rfl (sv_Sub_cons rfl (sv_Sub_cons rfl (sv_Sub_cons rfl (sv_Sub_cons rfl (sv_Sub_cons rfl sv_Sub_nil)))))) hb
                · have h := h.2 (hc)
                  refine sv_iload hM dX12_cutString_158 rfl rfl ?_
                  refine sv_bipush (d := (126 : Int)) hM dX12_cutString_160 rfl rfl ?_
                  refine sv_icmp_gt hM dX12_cutString_162 e110r (⟨by decide, by decide⟩ : sv_R (126 : Int)) (t := 169) rfl rfl (fun hc => ?_) (fun hc => ?_)
                  · have h := h.1 (hc)
                    refine sv_iconst (d := (0 : Int)) hM dX12_cutString_169 rfl rfl ?_
                    refine sv_istore_n hM dX12_cutString_170 (by decide) rfl ?_
                    show sv_T sm_XS sm_cs sm_L sm_sh 1 (q_cutString p1 S) 21 171 [(0, .ref 0), (1, sv_I p1), (2, sv_I l2_6), (3, sv_I (0 : Int)), (4, sv_I (0 : Int)), (5, sv_I x109)] [] (sv_sts (sv_up S 1018 0 ((S 1018 0) + (1 : Int))) [1018] g5)
                    have hb := J28 (0 : Int) (⟨by decide, by decide⟩ : sv_R (0 : Int)) (0 : Int) (⟨by decide, by decide⟩ : sv_R (0 : Int)) x109 e110r h
                    exact sv_less (lv := [(0, .ref 0), (1, sv_I p1), (2, sv_I l2_6), (3, sv_I (0 : Int)), (4, sv_I (0 : Int)), (5, sv_I x109)]) (sv_Sub_cons rfl (sv_Sub_cons rfl (sv_Sub_cons rfl (sv_Sub_cons rfl (sv_Sub_cons rfl (sv_Sub_cons rfl sv_Sub_nil)))))) hb
                  · have h := h.2 (hc)
                    refine sv_iconst (d := (1 : Int)) hM dX12_cutString_165 rfl rfl ?_
                    refine sv_goto hM dX12_cutString_166 (pc' := 170) rfl ?_
                    refine sv_istore_n hM dX12_cutString_170 (by decide) rfl ?_
                    show sv_T sm_XS sm_cs sm_L sm_sh 1 (q_cutString p1 S) 21 171 [(0, .ref 0), (1, sv_I p1), (2, sv_I l2_6), (3, sv_I (1 : Int)), (4, sv_I (0 : Int)), (5, sv_I x109)] [] (sv_sts (sv_up S 1018 0 ((S 1018 0) + (1 : Int))) [1018] g5)
                    have hb := J28 (1 : Int) (⟨by decide, by decide⟩ : sv_R (1 : Int)) (0 : Int) (⟨by decide, by decide⟩ : sv_R (0 : Int)) x109 e110r h
                    exact sv_less (lv := [(0, .ref 0), (1, sv_I p1), (2, sv_I l2_6), (3, sv_I (1 : Int)), (4, sv_I (0 : Int)), (5, sv_I x109)]) (sv_Sub_cons rfl (sv_Sub_cons rfl (sv_Sub_cons rfl (sv_Sub_cons rfl (sv_Sub_cons rfl (sv_Sub_cons rfl sv_Sub_nil)))))) hb
              · have h := h.2 (hc)
                refine sv_aload_n hM dX12_cutString_94 rfl rfl ?_
                refine sv_aload_n hM dX12_cutString_95 rfl rfl ?_
                refine sv_getI hM dX12_cutString_96 sm_fl_344 (sm_a0 _) sm_k18 rfl (x := (g5 1018 0)) rfl ?_
                refine sv_iconst (d := (1 : Int)) hM dX12_cutString_99 rfl rfl ?_
                refine sv_iadd hM dX12_cutString_100 rfl ?_
                obtain ⟨o111, h⟩ := h
                refine sv_callV hM dX12_cutString_101 sm_iv_331 (by decide) (sm_a0 _) rfl rfl (Nat.le_of_ble_eq_true rfl) sm_h11 (Nat.le_of_ble_eq_true rfl) (Nat.le_of_ble_eq_true rfl) (F' := 0) (Nat.le_of_ble_eq_true rfl) rfl (t_isThere ((g5 1018 0) + (1 : Int)) (sv_sts (sv_up S 1018 0 ((S 1018 0) + (1 : Int))) [1018] g5) ok10 o111) (fun v S1 hq => ?_)
                obtain ⟨rfl, hS1⟩ := hq
                obtain rfl : (sv_sts (sv_up S 1018 0 ((S 1018 0) + (1 : Int))) [1018] g5) = S1 := hS1.symm
                show sv_T sm_XS sm_cs sm_L sm_sh 1 (q_cutString p1 S) 21 104 [(0, .ref 0), (1, sv_I p1), (2, sv_I l2_6), (3, sv_I l3_7), (4, sv_I (0 : Int)), (5, sv_I x109)] [sv_I (if ((g5 1018 0) + (1 : Int)) < (S 1004 0) then 1 else 0)] (sv_sts (sv_up S 1018 0 ((S 1018 0) + (1 : Int))) [1018] g5)
                refine sv_cond_eq hM dX12_cutString_104 (sv_Rite : sv_R (if ((g5 1018 0) + (1 : Int)) < (S 1004 0) then 1 else 0)) (t := 146) rfl rfl (fun hc => ?_) (fun hc => ?_)
                · have h := h.1 (sv_iten hc)
                  refine sv_iconst (d := (0 : Int)) hM dX12_cutString_146 rfl rfl ?_
                  refine sv_istore_n hM dX12_cutString_147 (by decide) rfl ?_
                  show sv_T sm_XS sm_cs sm_L sm_sh 1 (q_cutString p1 S) 21 148 [(0, .ref 0), (1, sv_I p1), (2, sv_I l2_6), (3, sv_I (0 : Int)), (4, sv_I (0 : Int)), (5, sv_I x109)] [] (sv_sts (sv_up S 1018 0 ((S 1018 0) + (1 : Int))) [1018] g5)
                  refine sv_goto hM dX12_cutString_148 (pc' := 171) rfl ?_
                  have hb := J28 (0 : Int) (⟨by decide, by decide⟩ : sv_R (0 : Int)) (0 : Int) (⟨by decide, by decide⟩ : sv_R (0 : Int)) x109 e110r h
                  exact sv_less (lv := [(0, .ref 0), (1, sv_I p1), (2, sv_I l2_6), (3, sv_I (0 : Int)), (4, sv_I (0 : Int)), (5, sv_I x109)]) (sv_Sub_cons rfl (sv_Sub_cons rfl (sv_Sub_cons rfl (sv_Sub_cons rfl (sv_Sub_cons rfl (sv_Sub_cons rfl sv_Sub_nil)))))) hb
                · have h := h.2 (sv_itep hc)
                  refine sv_iload hM dX12_cutString_107 rfl rfl ?_
                  refine sv_bipush (d := (110 : Int)) hM dX12_cutString_109 rfl rfl ?_
                  refine sv_icmp_eq hM dX12_cutString_111 e110r (⟨by decide, by decide⟩ : sv_R (110 : Int)) (t := 142) rfl rfl (fun hc => ?_) (fun hc => ?_)
                  · have h := h.1 (hc)
                    refine sv_iconst (d := (1 : Int)) hM dX12_cutString_142 rfl rfl ?_
                    refine sv_goto hM dX12_cutString_143 (pc' := 147) rfl ?_
                    refine sv_istore_n hM dX12_cutString_147 (by decide) rfl ?_
                    show sv_T sm_XS sm_cs sm_L sm_sh 1 (q_cutString p1 S) 21 148 [(0, .ref 0), (1, sv_I p1), (2, sv_I l2_6), (3, sv_I (1 : Int)), (4, sv_I (0 : Int)), (5, sv_I x109)] [] (sv_sts (sv_up S 1018 0 ((S 1018 0) + (1 : Int))) [1018] g5)
                    refine sv_goto hM dX12_cutString_148 (pc' := 171) rfl ?_
                    have hb := J28 (1 : Int) (⟨by decide, by decide⟩ : sv_R (1 : Int)) (0 : Int) (⟨by decide, by decide⟩ : sv_R (0 : Int)) x109 e110r h
                    exact sv_less (lv := [(0, .ref 0), (1, sv_I p1), (2, sv_I l2_6), (3, sv_I (1 : Int)), (4, sv_I (0 : Int)), (5, sv_I x109)]) (sv_Sub_cons rfl (sv_Sub_cons rfl (sv_Sub_cons rfl (sv_Sub_cons rfl (sv_Sub_cons rfl (sv_Sub_cons rfl sv_Sub_nil)))))) hb
                  · have h := h.2 (hc)
                    refine sv_iload hM dX12_cutString_114 rfl rfl ?_
                    refine sv_bipush (d := (116 : Int)) hM dX12_cutString_116 rfl rfl ?_
                    refine sv_icmp_eq hM dX12_cutString_118 e110r (⟨by decide, by decide⟩ : sv_R (116 : Int)) (t := 142) rfl rfl (fun hc => ?_) (fun hc => ?_)
                    · have h := h.1 (hc)
                      refine sv_iconst (d := (1 : Int)) hM dX12_cutString_142 rfl rfl ?_
                      refine sv_goto hM dX12_cutString_143 (pc' := 147) rfl ?_
                      refine sv_istore_n hM dX12_cutString_147 (by decide) rfl ?_
                      show sv_T sm_XS sm_cs sm_L sm_sh 1 (q_cutString p1 S) 21 148 [(0, .ref 0), (1, sv_I p1), (2, sv_I l2_6), (3, sv_I (1 : Int)), (4, sv_I (0 : Int)), (5, sv_I x109)] [] (sv_sts (sv_up S 1018 0 ((S 1018 0) + (1 : Int))) [1018] g5)
                      refine sv_goto hM dX12_cutString_148 (pc' := 171) rfl ?_
                      have hb := J28 (1 : Int) (⟨by decide, by decide⟩ : sv_R (1 : Int)) (0 : Int) (⟨by decide, by decide⟩ : sv_R (0 : Int)) x109 e110r h
                      exact sv_less (lv := [(0, .ref 0), (1, sv_I p1), (2, sv_I l2_6), (3, sv_I (1 : Int)), (4, sv_I (0 : Int)), (5, sv_I x109)]) (sv_Sub_cons rfl (sv_Sub_cons rfl (sv_Sub_cons rfl (sv_Sub_cons rfl (sv_Sub_cons rfl (sv_Sub_cons rfl sv_Sub_nil)))))) hb
                    · have h := h.2 (hc)
                      refine sv_iload hM dX12_cutString_121 rfl rfl ?_
                      refine sv_bipush (d := (92 : Int)) hM dX12_cutString_123 rfl rfl ?_
                      refine sv_icmp_eq hM dX12_cutString_125 e110r (⟨by decide, by decide⟩ : sv_R (92 : Int)) (t := 142) rfl rfl (fun hc => ?_) (fun hc => ?_)
                      · have h := h.1 (hc)
                        refine sv_iconst (d := (1 : Int)) hM dX12_cutString_142 rfl rfl ?_
                        refine sv_goto hM dX12_cutString_143 (pc' := 147) rfl ?_
                        refine sv_istore_n hM dX12_cutString_147 (by decide) rfl ?_
                        show sv_T sm_XS sm_cs sm_L sm_sh 1 (q_cutString p1 S) 21 148 [(0, .ref 0), (1, sv_I p1), (2, sv_I l2_6), (3, sv_I (1 : Int)), (4, sv_I (0 : Int)), (5, sv_I x109)] [] (sv_sts (sv_up S 1018 0 ((S 1018 0) + (1 : Int))) [1018] g5)
                        refine sv_goto hM dX12_cutString_148 (pc' := 171) rfl ?_
                        have hb := J28 (1 : Int) (⟨by decide, by decide⟩ : sv_R (1 : Int)) (0 : Int) (⟨by decide, by decide⟩ : sv_R (0 : Int)) x109 e110r h
                        exact sv_less (lv := [(0, .ref 0), (1, sv_I p1), (2, sv_I l2_6), (3, sv_I (1 : Int)), (4, sv_I (0 : Int)), (5, sv_I x109)]) (sv_Sub_cons rfl (sv_Sub_cons rfl (sv_Sub_cons rfl (sv_Sub_cons rfl (sv_Sub_cons rfl (sv_Sub_cons rfl sv_Sub_nil)))))) hb
                      · have h := h.2 (hc)
                        refine sv_iload hM dX12_cutString_128 rfl rfl ?_
                        refine sv_bipush (d := (39 : Int)) hM dX12_cutString_130 rfl rfl ?_
                        refine sv_icmp_eq hM dX12_cutString_132 e110r (⟨by decide, by decide⟩ : sv_R (39 : Int)) (t := 142) rfl rfl (fun hc => ?_) (fun hc => ?_)
                        · have h := h.1 (hc)
                          refine sv_iconst (d := (1 : Int)) hM dX12_cutString_142 rfl rfl ?_
                          refine sv_goto hM dX12_cutString_143 (pc' := 147) rfl ?_
                          refine sv_istore_n hM dX12_cutString_147 (by decide) rfl ?_
                          show sv_T sm_XS sm_cs sm_L sm_sh 1 (q_cutString p1 S) 21 148 [(0, .ref 0), (1, sv_I p1), (2, sv_I l2_6), (3, sv_I (1 : Int)), (4, sv_I (0 : Int)), (5, sv_I x109)] [] (sv_sts (sv_up S 1018 0 ((S 1018 0) + (1 : Int))) [1018] g5)
                          refine sv_goto hM dX12_cutString_148 (pc' := 171) rfl ?_
                          have hb := J28 (1 : Int) (⟨by decide, by decide⟩ : sv_R (1 : Int)) (0 : Int) (⟨by decide, by decide⟩ : sv_R (0 : Int)) x109 e110r h
                          exact sv_less (lv := [(0, .ref 0), (1, sv_I p1), (2, sv_I l2_6), (3, sv_I (1 : Int)), (4, sv_I (0 : Int)), (5, sv_I x109)]) (sv_Sub_cons rfl (sv_Sub_cons rfl (sv_Sub_cons rfl (sv_Sub_cons rfl (sv_Sub_cons rfl (sv_Sub_cons rfl sv_Sub_nil)))))) hb
                        · have h := h.2 (hc)
                          refine sv_iload hM dX12_cutString_135 rfl rfl ?_
                          refine sv_bipush (d := (34 : Int)) hM dX12_cutString_137 rfl rfl ?_
                          refine sv_icmp_ne hM dX12_cutString_139 e110r (⟨by decide, by decide⟩ : sv_R (34 : Int)) (t := 146) rfl rfl (fun hc => ?_) (fun hc => ?_)
                          · have h := h.1 (hc)
                            refine sv_iconst (d := (0 : Int)) hM dX12_cutString_146 rfl rfl ?_
                            refine sv_istore_n hM dX12_cutString_147 (by decide) rfl ?_
                            show sv_T sm_XS sm_cs sm_L sm_sh 1 (q_cutString p1 S) 21 148 [(0, .ref 0), (1, sv_I p1), (2, sv_I l2_6), (3, sv_I (0 : Int)), (4, sv_I (0 : Int)), (5, sv_I x109)] [] (sv_sts (sv_up S 1018 0 ((S 1018 0) + (1 : Int))) [1018] g5)
                            refine sv_goto hM dX12_cutString_148 (pc' := 171) rfl ?_
                            have hb := J28 (0 : Int) (⟨by decide, by decide⟩ : sv_R (0 : Int)) (0 : Int) (⟨by decide, by decide⟩ : sv_R (0 : Int)) x109 e110r h
                            exact sv_less (lv := [(0, .ref 0), (1, sv_I p1), (2, sv_I l2_6), (3, sv_I (0 : Int)), (4, sv_I (0 : Int)), (5, sv_I x109)]) (sv_Sub_cons rfl (sv_Sub_cons rfl (sv_Sub_cons rfl (sv_Sub_cons rfl (sv_Sub_cons rfl (sv_Sub_cons rfl sv_Sub_nil)))))) hb
                          · have h := h.2 (hc)
                            refine sv_iconst (d := (1 : Int)) hM dX12_cutString_142 rfl rfl ?_
                            refine sv_goto hM dX12_cutString_143 (pc' := 147) rfl ?_
                            refine sv_istore_n hM dX12_cutString_147 (by decide) rfl ?_
                            show sv_T sm_XS sm_cs sm_L sm_sh 1 (q_cutString p1 S) 21 148 [(0, .ref 0), (1, sv_I p1), (2, sv_I l2_6), (3, sv_I (1 : Int)), (4, sv_I (0 : Int)), (5, sv_I x109)] [] (sv_sts (sv_up S 1018 0 ((S 1018 0) + (1 : Int))) [1018] g5)
                            refine sv_goto hM dX12_cutString_148 (pc' := 171) rfl ?_
                            have hb := J28 (1 : Int) (⟨by decide, by decide⟩ : sv_R (1 : Int)) (0 : Int) (⟨by decide, by decide⟩ : sv_R (0 : Int)) x109 e110r h
                            exact sv_less (lv := [(0, .ref 0), (1, sv_I p1), (2, sv_I l2_6), (3, sv_I (1 : Int)), (4, sv_I (0 : Int)), (5, sv_I x109)]) (sv_Sub_cons rfl (sv_Sub_cons rfl (sv_Sub_cons rfl (sv_Sub_cons rfl (sv_Sub_cons rfl (sv_Sub_cons rfl sv_Sub_nil)))))) hb
            · have h := h.2 (hc)
              refine sv_aload_n hM dX12_cutString_66 rfl rfl ?_
              refine sv_aload_n hM dX12_cutString_67 rfl rfl ?_
              refine sv_getI hM dX12_cutString_68 sm_fl_344 (sm_a0 _) sm_k18 rfl (x := (g5 1018 0)) rfl ?_
              refine sv_iconst (d := (1 : Int)) hM dX12_cutString_71 rfl rfl ?_
              refine sv_iadd hM dX12_cutString_72 rfl ?_
              obtain ⟨o112, h⟩ := h
              obtain ⟨o113, h⟩ := h
              refine sv_callV hM dX12_cutString_73 sm_iv_334 (by decide) (sm_a0 _) rfl rfl (Nat.le_of_ble_eq_true rfl) sm_h10 (Nat.le_of_ble_eq_true rfl) (Nat.le_of_ble_eq_true rfl) (F' := 0) (Nat.le_of_ble_eq_true rfl) rfl (t_look ((g5 1018 0) + (1 : Int)) (sv_sts (sv_up S 1018 0 ((S 1018 0) + (1 : Int))) [1018] g5) ok10 o112 o113) (fun v S1 hq => ?_)
              obtain ⟨rfl, hS1⟩ := hq
              obtain rfl : (sv_sts (sv_up S 1018 0 ((S 1018 0) + (1 : Int))) [1018] g5) = S1 := hS1.symm
              show sv_T sm_XS sm_cs sm_L sm_sh 1 (q_cutString p1 S) 21 76 [(0, .ref 0), (1, sv_I p1), (2, sv_I l2_6), (3, sv_I l3_7), (4, sv_I (0 : Int))] [sv_I ((if ((g5 1018 0) + (1 : Int)) < (S 1004 0) then (S 2 ((g5 1018 0) + (1 : Int))) % 256 else 0))] (sv_sts (sv_up S 1018 0 ((S 1018 0) + (1 : Int))) [1018] g5)
              refine sv_goto hM dX12_cutString_76 (pc' := 87) rfl ?_
              obtain ⟨x114, e115⟩ : ∃ x : Int, ((if ((g5 1018 0) + (1 : Int)) < (S 1004 0) then (S 2 ((g5 1018 0) + (1 : Int))) % 256 else 0)) = x := ⟨_, rfl⟩
              have h := h x114 e115
              refine sv_nameI e115 ?_
              refine sv_istore hM dX12_cutString_87 (by decide) rfl ?_
              show sv_T sm_XS sm_cs sm_L sm_sh 1 (q_cutString p1 S) 21 89 [(0, .ref 0), (1, sv_I p1), (2, sv_I l2_6), (3, sv_I l3_7), (4, sv_I (0 : Int)), (5, sv_I x114)] [] (sv_sts (sv_up S 1018 0 ((S 1018 0) + (1 : Int))) [1018] g5)
              refine sv_iload hM dX12_cutString_89 rfl rfl ?_
              refine sv_cond_eq hM dX12_cutString_91 (⟨by decide, by decide⟩ : sv_R (0 : Int)) (t := 151) rfl rfl (fun hc => ?_) (fun hc => ?_)
              · have h := h.1 (hc)
                refine sv_iload hM dX12_cutString_151 rfl rfl ?_
                refine sv_bipush (d := (32 : Int)) hM dX12_cutString_153 rfl rfl ?_
                obtain ⟨o116, h⟩ := h
                refine sv_icmp_lt hM dX12_cutString_155 o116 (⟨by decide, by decide⟩ : sv_R (32 : Int)) (t := 169) rfl rfl (fun hc => ?_) (fun hc => ?_)
                · have h := h.1 (hc)
                  refine sv_iconst (d := (0 : Int)) hM dX12_cutString_169 rfl rfl ?_
                  refine sv_istore_n hM dX12_cutString_170 (by decide) rfl ?_
                  show sv_T sm_XS sm_cs sm_L sm_sh 1 (q_cutString p1 S) 21 171 [(0, .ref 0), (1, sv_I p1), (2, sv_I l2_6), (3, sv_I (0 : Int)), (4, sv_I (0 : Int)), (5, sv_I x114)] [] (sv_sts (sv_up S 1018 0 ((S 1018 0) + (1 : Int))) [1018] g5)
                  have hb := J28 (0 : Int) (⟨by decide, by decide⟩ : sv_R (0 : Int)) (0 : Int) (⟨by decide, by decide⟩ : sv_R (0 : Int)) x114 o116 h
                  exact sv_less (lv := [(0, .ref 0), (1, sv_I p1), (2, sv_I l2_6), (3, sv_I (0 : Int)), (4, sv_I (0 : Int)), (5, sv_I x114)]) (sv_Sub_cons rfl (sv_Sub_cons rfl (sv_Sub_cons rfl (sv_Sub_cons rfl (sv_Sub_cons rfl (sv_Sub_cons rfl sv_Sub_nil)))))) hb
                · have h := h.2 (hc)
                  refine sv_iload hM dX12_cutString_158 rfl rfl ?_
                  refine sv_bipush (d := (126 : Int)) hM dX12_cutString_160 rfl rfl ?_
                  refine sv_icmp_gt hM dX12_cutString_162 o116 (⟨by decide, by decide⟩ : sv_R (126 : Int)) (t := 169) rfl rfl (fun hc => ?_) (fun hc => ?_)
                  · have h := h.1 (hc)
                    refine sv_iconst (d := (0 : Int)) hM dX12_cutString_169 rfl rfl ?_
                    refine sv_istore_n hM dX12_cutString_170 (by decide) rfl ?_
                    show sv_T sm_XS sm_cs sm_L sm_sh 1 (q_cutString p1 S) 21 171 [(0, .ref 0), (1, sv_I p1), (2, sv_I l2_6), (3, sv_I (0 : Int)), (4, sv_I (0 : Int)), (5, sv_I x114)] [] (sv_sts (sv_up S 1018 0 ((S 1018 0) + (1 : Int))) [1018] g5)
                    have hb := J28 (0 : Int) (⟨by decide, by decide⟩ : sv_R (0 : Int)) (0 : Int) (⟨by decide, by decide⟩ : sv_R (0 : Int)) x114 o116 h
                    exact sv_less (lv := [(0, .ref 0), (1, sv_I p1), (2, sv_I l2_6), (3, sv_I (0 : Int)), (4, sv_I (0 : Int)), (5, sv_I x114)]) (sv_Sub_cons rfl (sv_Sub_cons rfl (sv_Sub_cons rfl (sv_Sub_cons rfl (sv_Sub_cons rfl (sv_Sub_cons rfl sv_Sub_nil)))))) hb
                  · have h := h.2 (hc)
                    refine sv_iconst (d := (1 : Int)) hM dX12_cutString_165 rfl rfl ?_
                    refine sv_goto hM dX12_cutString_166 (pc' := 170) rfl ?_
                    refine sv_istore_n hM dX12_cutString_170 (by decide) rfl ?_
                    show sv_T sm_XS sm_cs sm_L sm_sh 1 (q_cutString p1 S) 21 171 [(0, .ref 0), (1, sv_I p1), (2, sv_I l2_6), (3, sv_I (1 : Int)), (4, sv_I (0 : Int)), (5, sv_I x114)] [] (sv_sts (sv_up S 1018 0 ((S 1018 0) + (1 : Int))) [1018] g5)
                    have hb := J28 (1 : Int) (⟨by decide, by decide⟩ : sv_R (1 : Int)) (0 : Int) (⟨by decide, by decide⟩ : sv_R (0 : Int)) x114 o116 h
                    exact sv_less (lv := [(0, .ref 0), (1, sv_I p1), (2, sv_I l2_6), (3, sv_I (1 : Int)), (4, sv_I (0 : Int)), (5, sv_I x114)]) (sv_Sub_cons rfl (sv_Sub_cons rfl (sv_Sub_cons rfl (sv_Sub_cons rfl (sv_Sub_cons rfl (sv_Sub_cons rfl sv_Sub_nil)))))) hb
              · have h := h.2 (hc)
                refine sv_aload_n hM dX12_cutString_94 rfl rfl ?_
                refine sv_aload_n hM dX12_cutString_95 rfl rfl ?_
                refine sv_getI hM dX12_cutString_96 sm_fl_344 (sm_a0 _) sm_k18 rfl (x := (g5 1018 0)) rfl ?_
                refine sv_iconst (d := (1 : Int)) hM dX12_cutString_99 rfl rfl ?_
                refine sv_iadd hM dX12_cutString_100 rfl ?_
                refine sv_callV hM dX12_cutString_101 sm_iv_331 (by decide) (sm_a0 _) rfl rfl (Nat.le_of_ble_eq_true rfl) sm_h11 (Nat.le_of_ble_eq_true rfl) (Nat.le_of_ble_eq_true rfl) (F' := 0) (Nat.le_of_ble_eq_true rfl) rfl (t_isThere ((g5 1018 0) + (1 : Int)) (sv_sts (sv_up S 1018 0 ((S 1018 0) + (1 : Int))) [1018] g5) ok10 o112) (fun v S1 hq => ?_)
                obtain ⟨rfl, hS1⟩ := hq
                obtain rfl : (sv_sts (sv_up S 1018 0 ((S 1018 0) + (1 : Int))) [1018] g5) = S1 := hS1.symm
                show sv_T sm_XS sm_cs sm_L sm_sh 1 (q_cutString p1 S) 21 104 [(0, .ref 0), (1, sv_I p1), (2, sv_I l2_6), (3, sv_I l3_7), (4, sv_I (0 : Int)), (5, sv_I x114)] [sv_I (if ((g5 1018 0) + (1 : Int)) < (S 1004 0) then 1 else 0)] (sv_sts (sv_up S 1018 0 ((S 1018 0) + (1 : Int))) [1018] g5)
                refine sv_cond_eq hM dX12_cutString_104 (sv_Rite : sv_R (if ((g5 1018 0) + (1 : Int)) < (S 1004 0) then 1 else 0)) (t := 146) rfl rfl (fun hc => ?_) (fun hc => ?_)
                · have h := h.1 (sv_iten hc)
                  refine sv_iconst (d := (0 : Int)) hM dX12_cutString_146 rfl rfl ?_
                  refine sv_istore_n hM dX12_cutString_147 (by decide) rfl ?_
                  show sv_T sm_XS sm_cs sm_L sm_sh 1 (q_cutString p1 S) 21 148 [(0, .ref 0), (1, sv_I p1), (2, sv_I l2_6), (3, sv_I (0 : Int)), (4, sv_I (0 : Int)), (5, sv_I x114)] [] (sv_sts (sv_up S 1018 0 ((S 1018 0) + (1 : Int))) [1018] g5)
                  refine sv_goto hM dX12_cutString_148 (pc' := 171) rfl ?_
                  obtain ⟨o117, h⟩ := h
                  have hb := J28 (0 : Int) (⟨by decide, by decide⟩ : sv_R (0 : Int)) (0 : Int) (⟨by decide, by decide⟩ : sv_R (0 : Int)) x114 o117 h
                  exact sv_less (lv := [(0, .ref 0), (1, sv_I p1), (2, sv_I l2_6), (3, sv_I (0 : Int)), (4, sv_I (0 : Int)), (5, sv_I x114)]) (sv_Sub_cons rfl (sv_Sub_cons rfl (sv_Sub_cons rfl (sv_Sub_cons rfl (sv_Sub_cons rfl (sv_Sub_cons rfl sv_Sub_nil)))))) hb
                · have h := h.2 (sv_itep hc)
                  refine sv_iload hM dX12_cutString_107 rfl rfl ?_
                  refine sv_bipush (d := (110 : Int)) hM dX12_cutString_109 rfl rfl ?_
                  obtain ⟨o118, h⟩ := h
                  refine sv_icmp_eq hM dX12_cutString_111 o118 (⟨by decide, by decide⟩ : sv_R (110 : Int)) (t := 142) rfl rfl (fun hc => ?_) (fun hc => ?_)
                  · have h := h.1 (hc)
                    refine sv_iconst (d := (1 : Int)) hM dX12_cutString_142 rfl rfl ?_
                    refine sv_goto hM dX12_cutString_143 (pc' := 147) rfl ?_
                    refine sv_istore_n hM dX12_cutString_147 (by decide) rfl ?_
                    show sv_T sm_XS sm_cs sm_L sm_sh 1 (q_cutString p1 S) 21 148 [(0, .ref 0), (1, sv_I p1), (2, sv_I l2_6), (3, sv_I (1 : Int)), (4, sv_I (0 : Int)), (5, sv_I x114)] [] (sv_sts (sv_up S 1018 0 ((S 1018 0) + (1 : Int))) [1018] g5)
                    refine sv_goto hM dX12_cutString_148 (pc' := 171) rfl ?_
                    have hb := J28 (1 : Int) (⟨by decide, by decide⟩ : sv_R (1 : Int)) (0 : Int) (⟨by decide, by decide⟩ : sv_R (0 : Int)) x114 o118 h
                    exact sv_less (lv := [(0, .ref 0), (1, sv_I p1), (2, sv_I l2_6), (3, sv_I (1 : Int)), (4, sv_I (0 : Int)), (5, sv_I x114)]) (sv_Sub_cons rfl (sv_Sub_cons rfl (sv_Sub_cons rfl (sv_Sub_cons rfl (sv_Sub_cons rfl (sv_Sub_cons rfl sv_Sub_nil)))))) hb
                  · have h := h.2 (hc)
                    refine sv_iload hM dX12_cutString_114 rfl rfl ?_
                    refine sv_bipush (d := (116 : Int)) hM dX12_cutString_116 rfl rfl ?_
                    refine sv_icmp_eq hM dX12_cutString_118 o118 (⟨by decide, by decide⟩ : sv_R (116 : Int)) (t := 142) rfl rfl (fun hc => ?_) (fun hc => ?_)
                    · have h := h.1 (hc)
                      refine sv_iconst (d := (1 : Int)) hM dX12_cutString_142 rfl rfl ?_
                      refine sv_goto hM dX12_cutString_143 (pc' := 147) rfl ?_
                      refine sv_istore_n hM dX12_cutString_147 (by decide) rfl ?_
                      show sv_T sm_XS sm_cs sm_L sm_sh 1 (q_cutString p1 S) 21 148 [(0, .ref 0), (1, sv_I p1), (2, sv_I l2_6), (3, sv_I (1 : Int)), (4, sv_I (0 : Int)), (5, sv_I x114)] [] (sv_sts (sv_up S 1018 0 ((S 1018 0) + (1 : Int))) [1018] g5)
                      refine sv_goto hM dX12_cutString_148 (pc' := 171) rfl ?_
                      have hb := J28 (1 : Int) (⟨by decide, by decide⟩ : sv_R (1 : Int)) (0 : Int) (⟨by decide, by decide⟩ : sv_R (0 : Int)) x114 o118 h
                      exact sv_less (lv := [(0, .ref 0), (1, sv_I p1), (2, sv_I l2_6), (3, sv_I (1 : Int)), (4, sv_I (0 : Int)), (5, sv_I x114)]) (sv_Sub_cons rfl (sv_Sub_cons rfl (sv_Sub_cons rfl (sv_Sub_cons rfl (sv_Sub_cons rfl (sv_Sub_cons rfl sv_Sub_nil)))))) hb
                    · have h := h.2 (hc)
                      refine sv_iload hM dX12_cutString_121 rfl rfl ?_
                      refine sv_bipush (d := (92 : Int)) hM dX12_cutString_123 rfl rfl ?_
                      refine sv_icmp_eq hM dX12_cutString_125 o118 (⟨by decide, by decide⟩ : sv_R (92 : Int)) (t := 142) rfl rfl (fun hc => ?_) (fun hc => ?_)
                      · have h := h.1 (hc)
                        refine sv_iconst (d := (1 : Int)) hM dX12_cutString_142 rfl rfl ?_
                        refine sv_goto hM dX12_cutString_143 (pc' := 147) rfl ?_
                        refine sv_istore_n hM dX12_cutString_147 (by decide) rfl ?_
                        show sv_T sm_XS sm_cs sm_L sm_sh 1 (q_cutString p1 S) 21 148 [(0, .ref 0), (1, sv_I p1), (2, sv_I l2_6), (3, sv_I (1 : Int)), (4, sv_I (0 : Int)), (5, sv_I x114)] [] (sv_sts (sv_up S 1018 0 ((S 1018 0) + (1 : Int))) [1018] g5)
                        refine sv_goto hM dX12_cutString_148 (pc' := 171) rfl ?_
                        have hb := J28 (1 : Int) (⟨by decide, by decide⟩ : sv_R (1 : Int)) (0 : Int) (⟨by decide, by decide⟩ : sv_R (0 : Int)) x114 o118 h
                        exact sv_less (lv := [(0, .ref 0), (1, sv_I p1), (2, sv_I l2_6), (3, sv_I (1 : Int)), (4, sv_I (0 : Int)), (5, sv_I x114)]) (sv_Sub_cons rfl (sv_Sub_cons rfl (sv_Sub_cons rfl (sv_Sub_cons rfl (sv_Sub_cons rfl (sv_Sub_cons rfl sv_Sub_nil)))))) hb
                      · have h := h.2 (hc)
                        refine sv_iload hM dX12_cutString_128 rfl rfl ?_
                        refine sv_bipush (d := (39 : Int)) hM dX12_cutString_130 rfl rfl ?_
                        refine sv_icmp_eq hM dX12_cutString_132 o118 (⟨by decide, by decide⟩ : sv_R (39 : Int)) (t := 142) rfl rfl (fun hc => ?_) (fun hc => ?_)
                        · have h := h.1 (hc)
                          refine sv_iconst (d := (1 : Int)) hM dX12_cutString_142 rfl rfl ?_
                          refine sv_goto hM dX12_cutString_143 (pc' := 147) rfl ?_
                          refine sv_istore_n hM dX12_cutString_147 (by decide) rfl ?_
                          show sv_T sm_XS sm_cs sm_L sm_sh 1 (q_cutString p1 S) 21 148 [(0, .ref 0), (1, sv_I p1), (2, sv_I l2_6), (3, sv_I (1 : Int)), (4, sv_I (0 : Int)), (5, sv_I x114)] [] (sv_sts (sv_up S 1018 0 ((S 1018 0) + (1 : Int))) [1018] g5)
                          refine sv_goto hM dX12_cutString_148 (pc' := 171) rfl ?_
                          have hb := J28 (1 : Int) (⟨by decide, by decide⟩ : sv_R (1 : Int)) (0 : Int) (⟨by decide, by decide⟩ : sv_R (0 : Int)) x114 o118 h
                          exact sv_less (lv := [(0, .ref 0), (1, sv_I p1), (2, sv_I l2_6), (3, sv_I (1 : Int)), (4, sv_I (0 : Int)), (5, sv_I x114)]) (sv_Sub_cons rfl (sv_Sub_cons rfl (sv_Sub_cons rfl (sv_Sub_cons rfl (sv_Sub_cons rfl (sv_Sub_cons rfl sv_Sub_nil)))))) hb
                        · have h := h.2 (hc)
                          refine sv_iload hM dX12_cutString_135 rfl rfl ?_
                          refine sv_bipush (d := (34 : Int)) hM dX12_cutString_137 rfl rfl ?_
                          refine sv_icmp_ne hM dX12_cutString_139 o118 (⟨by decide, by decide⟩ : sv_R (34 : Int)) (t := 146) rfl rfl (fun hc => ?_) (fun hc => ?_)
                          · have h := h.1 (hc)
                            refine sv_iconst (d := (0 : Int)) hM dX12_cutString_146 rfl rfl ?_
                            refine sv_istore_n hM dX12_cutString_147 (by decide) rfl ?_
                            show sv_T sm_XS sm_cs sm_L sm_sh 1 (q_cutString p1 S) 21 148 [(0, .ref 0), (1, sv_I p1), (2, sv_I l2_6), (3, sv_I (0 : Int)), (4, sv_I (0 : Int)), (5, sv_I x114)] [] (sv_sts (sv_up S 1018 0 ((S 1018 0) + (1 : Int))) [1018] g5)
                            refine sv_goto hM dX12_cutString_148 (pc' := 171) rfl ?_
                            have hb := J28 (0 : Int) (⟨by decide, by decide⟩ : sv_R (0 : Int)) (0 : Int) (⟨by decide, by decide⟩ : sv_R (0 : Int)) x114 o118 h
                            exact sv_less (lv := [(0, .ref 0), (1, sv_I p1), (2, sv_I l2_6), (3, sv_I (0 : Int)), (4, sv_I (0 : Int)), (5, sv_I x114)]) (sv_Sub_cons rfl (sv_Sub_cons rfl (sv_Sub_cons rfl (sv_Sub_cons rfl (sv_Sub_cons rfl (sv_Sub_cons rfl sv_Sub_nil)))))) hb
                          · have h := h.2 (hc)
                            refine sv_iconst (d := (1 : Int)) hM dX12_cutString_142 rfl rfl ?_
                            refine sv_goto hM dX12_cutString_143 (pc' := 147) rfl ?_
                            refine sv_istore_n hM dX12_cutString_147 (by decide) rfl ?_
                            show sv_T sm_XS sm_cs sm_L sm_sh 1 (q_cutString p1 S) 21 148 [(0, .ref 0), (1, sv_I p1), (2, sv_I l2_6), (3, sv_I (1 : Int)), (4, sv_I (0 : Int)), (5, sv_I x114)] [] (sv_sts (sv_up S 1018 0 ((S 1018 0) + (1 : Int))) [1018] g5)
                            refine sv_goto hM dX12_cutString_148 (pc' := 171) rfl ?_
                            have hb := J28 (1 : Int) (⟨by decide, by decide⟩ : sv_R (1 : Int)) (0 : Int) (⟨by decide, by decide⟩ : sv_R (0 : Int)) x114 o118 h
                            exact sv_less (lv := [(0, .ref 0), (1, sv_I p1), (2, sv_I l2_6), (3, sv_I (1 : Int)), (4, sv_I (0 : Int)), (5, sv_I x114)]) (sv_Sub_cons rfl (sv_Sub_cons rfl (sv_Sub_cons rfl (sv_Sub_cons rfl (sv_Sub_cons rfl (sv_Sub_cons rfl sv_Sub_nil)))))) hb
          · have h := h.2 (hc)
            refine sv_iconst (d := (1 : Int)) hM dX12_cutString_54 rfl rfl ?_
            refine sv_goto hM dX12_cutString_55 (pc' := 59) rfl ?_
            refine sv_istore hM dX12_cutString_59 (by decide) rfl ?_
            show sv_T sm_XS sm_cs sm_L sm_sh 1 (q_cutString p1 S) 21 61 [(0, .ref 0), (1, sv_I p1), (2, sv_I l2_6), (3, sv_I l3_7), (4, sv_I (1 : Int))] [] (sv_sts (sv_up S 1018 0 ((S 1018 0) + (1 : Int))) [1018] g5)
            refine sv_iload hM dX12_cutString_61 rfl rfl ?_
            refine sv_cond_eq hM dX12_cutString_63 (⟨by decide, by decide⟩ : sv_R (1 : Int)) (t := 79) rfl rfl (fun hc => ?_) (fun hc => ?_)
            · have h := h.1 (hc)
              refine sv_aload_n hM dX12_cutString_79 rfl rfl ?_
              refine sv_aload_n hM dX12_cutString_80 rfl rfl ?_
              refine sv_getI hM dX12_cutString_81 sm_fl_344 (sm_a0 _) sm_k18 rfl (x := (g5 1018 0)) rfl ?_
              refine sv_callV hM dX12_cutString_84 sm_iv_334 (by decide) (sm_a0 _) rfl rfl (Nat.le_of_ble_eq_true rfl) sm_h10 (Nat.le_of_ble_eq_true rfl) (Nat.le_of_ble_eq_true rfl) (F' := 0) (Nat.le_of_ble_eq_true rfl) rfl (t_look (g5 1018 0) (sv_sts (sv_up S 1018 0 ((S 1018 0) + (1 : Int))) [1018] g5) ok10 k56 o82) (fun v S1 hq => ?_)
              obtain ⟨rfl, hS1⟩ := hq
              obtain rfl : (sv_sts (sv_up S 1018 0 ((S 1018 0) + (1 : Int))) [1018] g5) = S1 := hS1.symm
              show sv_T sm_XS sm_cs sm_L sm_sh 1 (q_cutString p1 S) 21 87 [(0, .ref 0), (1, sv_I p1), (2, sv_I l2_6), (3, sv_I l3_7), (4, sv_I (1 : Int))] [sv_I ((if (g5 1018 0) < (S 1004 0) then (S 2 (g5 1018 0)) % 256 else 0))] (sv_sts (sv_up S 1018 0 ((S 1018 0) + (1 : Int))) [1018] g5)
              obtain ⟨x119, e120⟩ : ∃ x : Int, ((if (g5 1018 0) < (S 1004 0) then (S 2 (g5 1018 0)) % 256 else 0)) = x := ⟨_, rfl⟩
              have h := h x119 e120
              have e120r : sv_R x119 := e120 ▸ o83
              refine sv_nameI e120 ?_
              refine sv_istore hM dX12_cutString_87 (by decide) rfl ?_
              show sv_T sm_XS sm_cs sm_L sm_sh 1 (q_cutString p1 S) 21 89 [(0, .ref 0), (1, sv_I p1), (2, sv_I l2_6), (3, sv_I l3_7), (4, sv_I (1 : Int)), (5, sv_I x119)] [] (sv_sts (sv_up S 1018 0 ((S 1018 0) + (1 : Int))) [1018] g5)
              refine sv_iload hM dX12_cutString_89 rfl rfl ?_
              refine sv_cond_eq hM dX12_cutString_91 (⟨by decide, by decide⟩ : sv_R (1 : Int)) (t := 151) rfl rfl (fun hc => ?_) (fun hc => ?_)
              · have h := h.1 (hc)
                refine sv_iload hM dX12_cutString_151 rfl rfl ?_
                refine sv_bipush (d := (32 : Int)) hM dX12_cutString_153 rfl rfl ?_
                refine sv_icmp_lt hM dX12_cutString_155 e120r (⟨by decide, by decide⟩ : sv_R (32 : Int)) (t := 169) rfl rfl (fun hc => ?_) (fun hc => ?_)
                · have h := h.1 (hc)
                  refine sv_iconst (d := (0 : Int)) hM dX12_cutString_169 rfl rfl ?_
                  refine sv_istore_n hM dX12_cutString_170 (by decide) rfl ?_
                  show sv_T sm_XS sm_cs sm_L sm_sh 1 (q_cutString p1 S) 21 171 [(0, .ref 0), (1, sv_I p1), (2, sv_I l2_6), (3, sv_I (0 : Int)), (4, sv_I (1 : Int)), (5, sv_I x119)] [] (sv_sts (sv_up S 1018 0 ((S 1018 0) + (1 : Int))) [1018] g5)
                  have hb := J28 (0 : Int) (⟨by decide, by decide⟩ : sv_R (0 : Int)) (1 : Int) (⟨by decide, by decide⟩ : sv_R (1 : Int)) x119 e120r h
                  exact sv_less (lv := [(0, .ref 0), (1, sv_I p1), (2, sv_I l2_6), (3, sv_I (0 : Int)), (4, sv_I (1 : Int)), (5, sv_I x119)]) (sv_Sub_cons rfl (sv_Sub_cons rfl (sv_Sub_cons rfl (sv_Sub_cons rfl (sv_Sub_cons rfl (sv_Sub_cons rfl sv_Sub_nil)))))) hb
                · have h := h.2 (hc)
                  refine sv_iload hM dX12_cutString_158 rfl rfl ?_
                  refine sv_bipush (d := (126 : Int)) hM dX12_cutString_160 rfl rfl ?_
                  refine sv_icmp_gt hM dX12_cutString_162 e120r (⟨by decide, by decide⟩ : sv_R (126 : Int)) (t := 169) rfl rfl (fun hc => ?_) (fun hc => ?_)
                  · have h := h.1 (hc)
                    refine sv_iconst (d := (0 : Int)) hM dX12_cutString_169 rfl rfl ?_
                    refine sv_istore_n hM dX12_cutString_170 (by decide) rfl ?_
                    show sv_T sm_XS sm_cs sm_L sm_sh 1 (q_cutString p1 S) 21 171 [(0, .ref 0), (1, sv_I p1), (2, sv_I l2_6), (3, sv_I (0 : Int)), (4, sv_I (1 : Int)), (5, sv_I x119)] [] (sv_sts (sv_up S 1018 0 ((S 1018 0) + (1 : Int))) [1018] g5)
                    have hb := J28 (0 : Int) (⟨by decide, by decide⟩ : sv_R (0 : Int)) (1 : Int) (⟨by decide, by decide⟩ : sv_R (1 : Int)) x119 e120r h
                    exact sv_less (lv := [(0, .ref 0), (1, sv_I p1), (2, sv_I l2_6), (3, sv_I (0 : Int)), (4, sv_I (1 : Int)), (5, sv_I x119)]) (sv_Sub_cons rfl (sv_Sub_cons rfl (sv_Sub_cons rfl (sv_Sub_cons rfl (sv_Sub_cons rfl (sv_Sub_cons rfl sv_Sub_nil)))))) hb
                  · have h := h.2 (hc)
                    refine sv_iconst (d := (1 : Int)) hM dX12_cutString_165 rfl rfl ?_
                    refine sv_goto hM dX12_cutString_166 (pc' := 170) rfl ?_
                    refine sv_istore_n hM dX12_cutString_170 (by decide) rfl ?_
                    show sv_T sm_XS sm_cs sm_L sm_sh 1 (q_cutString p1 S) 21 171 [(0, .ref 0), (1, sv_I p1), (2, sv_I l2_6), (3, sv_I (1 : Int)), (4, sv_I (1 : Int)), (5, sv_I x119)] [] (sv_sts (sv_up S 1018 0 ((S 1018 0) + (1 : Int))) [1018] g5)
                    have hb := J28 (1 : Int) (⟨by decide, by decide⟩ : sv_R (1 : Int)) (1 : Int) (⟨by decide, by decide⟩ : sv_R (1 : Int)) x119 e120r h
                    exact sv_less (lv := [(0, .ref 0), (1, sv_I p1), (2, sv_I l2_6), (3, sv_I (1 : Int)), (4, sv_I (1 : Int)), (5, sv_I x119)]) (sv_Sub_cons rfl (sv_Sub_cons rfl (sv_Sub_cons rfl (sv_Sub_cons rfl (sv_Sub_cons rfl (sv_Sub_cons rfl sv_Sub_nil)))))) hb
              · have h := h.2 (hc)
                refine sv_aload_n hM dX12_cutString_94 rfl rfl ?_
                refine sv_aload_n hM dX12_cutString_95 rfl rfl ?_
                refine sv_getI hM dX12_cutString_96 sm_fl_344 (sm_a0 _) sm_k18 rfl (x := (g5 1018 0)) rfl ?_
                refine sv_iconst (d := (1 : Int)) hM dX12_cutString_99 rfl rfl ?_
                refine sv_iadd hM dX12_cutString_100 rfl ?_
                obtain ⟨o121, h⟩ := h
                refine sv_callV hM dX12_cutString_101 sm_iv_331 (by decide) (sm_a0 _) rfl rfl (Nat.le_of_ble_eq_true rfl) sm_h11 (Nat.le_of_ble_eq_true rfl) (Nat.le_of_ble_eq_true rfl) (F' := 0) (Nat.le_of_ble_eq_true rfl) rfl (t_isThere ((g5 1018 0) + (1 : Int)) (sv_sts (sv_up S 1018 0 ((S 1018 0) + (1 : Int))) [1018] g5) ok10 o121) (fun v S1 hq => ?_)
                obtain ⟨rfl, hS1⟩ := hq
                obtain rfl : (sv_sts (sv_up S 1018 0 ((S 1018 0) + (1 : Int))) [1018] g5) = S1 := hS1.symm
                show sv_T sm_XS sm_cs sm_L sm_sh 1 (q_cutString p1 S) 21 104 [(0, .ref 0), (1, sv_I p1), (2, sv_I l2_6), (3, sv_I l3_7), (4, sv_I (1 : Int)), (5, sv_I x119)] [sv_I (if ((g5 1018 0) + (1 : Int)) < (S 1004 0) then 1 else 0)] (sv_sts (sv_up S 1018 0 ((S 1018 0) + (1 : Int))) [1018] g5)
                refine sv_cond_eq hM dX12_cutString_104 (sv_Rite : sv_R (if ((g5 1018 0) + (1 : Int)) < (S 1004 0) then 1 else 0)) (t := 146) rfl rfl (fun hc => ?_) (fun hc => ?_)
                · have h := h.1 (sv_iten hc)
                  refine sv_iconst (d := (0 : Int)) hM dX12_cutString_146 rfl rfl ?_
                  refine sv_istore_n hM dX12_cutString_147 (by decide) rfl ?_
                  show sv_T sm_XS sm_cs sm_L sm_sh 1 (q_cutString p1 S) 21 148 [(0, .ref 0), (1, sv_I p1), (2, sv_I l2_6), (3, sv_I (0 : Int)), (4, sv_I (1 : Int)), (5, sv_I x119)] [] (sv_sts (sv_up S 1018 0 ((S 1018 0) + (1 : Int))) [1018] g5)
                  refine sv_goto hM dX12_cutString_148 (pc' := 171) rfl ?_
                  have hb := J28 (0 : Int) (⟨by decide, by decide⟩ : sv_R (0 : Int)) (1 : Int) (⟨by decide, by decide⟩ : sv_R (1 : Int)) x119 e120r h
                  exact sv_less (lv := [(0, .ref 0), (1, sv_I p1), (2, sv_I l2_6), (3, sv_I (0 : Int)), (4, sv_I (1 : Int)), (5, sv_I x119)]) (sv_Sub_cons rfl (sv_Sub_cons rfl (sv_Sub_cons rfl (sv_Sub_cons rfl (sv_Sub_cons rfl (sv_Sub_cons rfl sv_Sub_nil)))))) hb
                · have h := h.2 (sv_itep hc)
                  refine sv_iload hM dX12_cutString_107 rfl rfl ?_
                  refine sv_bipush (d := (110 : Int)) hM dX12_cutString_109 rfl rfl ?_
                  refine sv_icmp_eq hM dX12_cutString_111 e120r (⟨by decide, by decide⟩ : sv_R (110 : Int)) (t := 142) rfl rfl (fun hc => ?_) (fun hc => ?_)
                  · have h := h.1 (hc)
                    refine sv_iconst (d := (1 : Int)) hM dX12_cutString_142 rfl rfl ?_
                    refine sv_goto hM dX12_cutString_143 (pc' := 147) rfl ?_
                    refine sv_istore_n hM dX12_cutString_147 (by decide) rfl ?_
                    show sv_T sm_XS sm_cs sm_L sm_sh 1 (q_cutString p1 S) 21 148 [(0, .ref 0), (1, sv_I p1), (2, sv_I l2_6), (3, sv_I (1 : Int)), (4, sv_I (1 : Int)), (5, sv_I x119)] [] (sv_sts (sv_up S 1018 0 ((S 1018 0) + (1 : Int))) [1018] g5)
                    refine sv_goto hM dX12_cutString_148 (pc' := 171) rfl ?_
                    have hb := J28 (1 : Int) (⟨by decide, by decide⟩ : sv_R (1 : Int)) (1 : Int) (⟨by decide, by decide⟩ : sv_R (1 : Int)) x119 e120r h
                    exact sv_less (lv := [(0, .ref 0), (1, sv_I p1), (2, sv_I l2_6), (3, sv_I (1 : Int)), (4, sv_I (1 : Int)), (5, sv_I x119)]) (sv_Sub_cons rfl (sv_Sub_cons rfl (sv_Sub_cons rfl (sv_Sub_cons rfl (sv_Sub_cons rfl (sv_Sub_cons rfl sv_Sub_nil)))))) hb
                  · have h := h.2 (hc)
                    refine sv_iload hM dX12_cutString_114 rfl rfl ?_
                    refine sv_bipush (d := (116 : Int)) hM dX12_cutString_116 rfl rfl ?_
                    refine sv_icmp_eq hM dX12_cutString_118 e120r (⟨by decide, by decide⟩ : sv_R (116 : Int)) (t := 142) rfl rfl (fun hc => ?_) (fun hc => ?_)
                    · have h := h.1 (hc)
                      refine sv_iconst (d := (1 : Int)) hM dX12_cutString_142 rfl rfl ?_
                      refine sv_goto hM dX12_cutString_143 (pc' := 147) rfl ?_
                      refine sv_istore_n hM dX12_cutString_147 (by decide) rfl ?_
                      show sv_T sm_XS sm_cs sm_L sm_sh 1 (q_cutString p1 S) 21 148 [(0, .ref 0), (1, sv_I p1), (2, sv_I l2_6), (3, sv_I (1 : Int)), (4, sv_I (1 : Int)), (5, sv_I x119)] [] (sv_sts (sv_up S 1018 0 ((S 1018 0) + (1 : Int))) [1018] g5)
                      refine sv_goto hM dX12_cutString_148 (pc' := 171) rfl ?_
                      have hb := J28 (1 : Int) (⟨by decide, by decide⟩ : sv_R (1 : Int)) (1 : Int) (⟨by decide, by decide⟩ : sv_R (1 : Int)) x119 e120r h
                      exact sv_less (lv := [(0, .ref 0), (1, sv_I p1), (2, sv_I l2_6), (3, sv_I (1 : Int)), (4, sv_I (1 : Int)), (5, sv_I x119)]) (sv_Sub_cons rfl (sv_Sub_cons rfl (sv_Sub_cons rfl (sv_Sub_cons rfl (sv_Sub_cons rfl (sv_Sub_cons rfl sv_Sub_nil)))))) hb
                    · have h := h.2 (hc)
                      refine sv_iload hM dX12_cutString_121 rfl rfl ?_
                      refine sv_bipush (d := (92 : Int)) hM dX12_cutString_123 rfl rfl ?_
                      refine sv_icmp_eq hM dX12_cutString_125 e120r (⟨by decide, by decide⟩ : sv_R (92 : Int)) (t := 142) rfl rfl (fun hc => ?_) (fun hc => ?_)
                      · have h := h.1 (hc)
                        refine sv_iconst (d := (1 : Int)) hM dX12_cutString_142 rfl rfl ?_
                        refine sv_goto hM dX12_cutString_143 (pc' := 147) rfl ?_
                        refine sv_istore_n hM dX12_cutString_147 (by decide) rfl ?_
                        show sv_T sm_XS sm_cs sm_L sm_sh 1 (q_cutString p1 S) 21 148 [(0, .ref 0), (1, sv_I p1), (2, sv_I l2_6), (3, sv_I (1 : Int)), (4, sv_I (1 : Int)), (5, sv_I x119)] [] (sv_sts (sv_up S 1018 0 ((S 1018 0) + (1 : Int))) [1018] g5)
                        refine sv_goto hM dX12_cutString_148 (pc' := 171) rfl ?_
                        have hb := J28 (1 : Int) (⟨by decide, by decide⟩ : sv_R (1 : Int)) (1 : Int) (⟨by decide, by decide⟩ : sv_R (1 : Int)) x119 e120r h
                        exact sv_less (lv := [(0, .ref 0), (1, sv_I p1), (2, sv_I l2_6), (3, sv_I (1 : Int)), (4, sv_I (1 : Int)), (5, sv_I x119)]) (sv_Sub_cons rfl (sv_Sub_cons rfl (sv_Sub_cons rfl (sv_Sub_cons rfl (sv_Sub_cons rfl (sv_Sub_cons rfl sv_Sub_nil)))))) hb
                      · have h := h.2 (hc)
                        refine sv_iload hM dX12_cutString_128 rfl rfl ?_
                        refine sv_bipush (d := (39 : Int)) hM dX12_cutString_130 rfl rfl ?_
                        refine sv_icmp_eq hM dX12_cutString_132 e120r (⟨by decide, by decide⟩ : sv_R (39 : Int)) (t := 142) rfl rfl (fun hc => ?_) (fun hc => ?_)
                        · have h := h.1 (hc)
                          refine sv_iconst (d := (1 : Int)) hM dX12_cutString_142 rfl rfl ?_
                          refine sv_goto hM dX12_cutString_143 (pc' := 147) rfl ?_
                          refine sv_istore_n hM dX12_cutString_147 (by decide) rfl ?_
                          show sv_T sm_XS sm_cs sm_L sm_sh 1 (q_cutString p1 S) 21 148 [(0, .ref 0), (1, sv_I p1), (2, sv_I l2_6), (3, sv_I (1 : Int)), (4, sv_I (1 : Int)), (5, sv_I x119)] [] (sv_sts (sv_up S 1018 0 ((S 1018 0) + (1 : Int))) [1018] g5)
                          refine sv_goto hM dX12_cutString_148 (pc' := 171) rfl ?_
                          have hb := J28 (1 : Int) (⟨by decide, by decide⟩ : sv_R (1 : Int)) (1 : Int) (⟨by decide, by decide⟩ : sv_R (1 : Int)) x119 e120r h
                          exact sv_less (lv := [(0, .ref 0), (1, sv_I p1), (2, sv_I l2_6), (3, sv_I (1 : Int)), (4, sv_I (1 : Int)), (5, sv_I x119)]) (sv_Sub_cons rfl (sv_Sub_cons rfl (sv_Sub_cons rfl (sv_Sub_cons rfl (sv_Sub_cons rfl (sv_Sub_cons rfl sv_Sub_nil)))))) hb
                        · have h := h.2 (hc)
                          refine sv_iload hM dX12_cutString_135 rfl rfl ?_
                          refine sv_bipush (d := (34 : Int)) hM dX12_cutString_137 rfl rfl ?_
                          refine sv_icmp_ne hM dX12_cutString_139 e120r (⟨by decide, by decide⟩ : sv_R (34 : Int)) (t := 146) rfl rfl (fun hc => ?_) (fun hc => ?_)
                          · have h := h.1 (hc)
                            refine sv_iconst (d := (0 : Int)) hM dX12_cutString_146 rfl rfl ?_
                            refine sv_istore_n hM dX12_cutString_147 (by decide) rfl ?_
                            show sv_T sm_XS sm_cs sm_L sm_sh 1 (q_cutString p1 S) 21 148 [(0, .ref 0), (1, sv_I p1), (2, sv_I l2_6), (3, sv_I (0 : Int)), (4, sv_I (1 : Int)), (5, sv_I x119)] [] (sv_sts (sv_up S 1018 0 ((S 1018 0) + (1 : Int))) [1018] g5)
                            refine sv_goto hM dX12_cutString_148 (pc' := 171) rfl ?_
                            have hb := J28 (0 : Int) (⟨by decide, by decide⟩ : sv_R (0 : Int)) (1 : Int) (⟨by decide, by decide⟩ : sv_R (1 : Int)) x119 e120r h
                            exact sv_less (lv := [(0, .ref 0), (1, sv_I p1), (2, sv_I l2_6), (3, sv_I (0 : Int)), (4, sv_I (1 : Int)), (5, sv_I x119)]) (sv_Sub_cons rfl (sv_Sub_cons rfl (sv_Sub_cons rfl (sv_Sub_cons rfl (sv_Sub_cons rfl (sv_Sub_cons rfl sv_Sub_nil)))))) hb
                          · have h := h.2 (hc)
                            refine sv_iconst (d := (1 : Int)) hM dX12_cutString_142 rfl rfl ?_
                            refine sv_goto hM dX12_cutString_143 (pc' := 147) rfl ?_
                            refine sv_istore_n hM dX12_cutString_147 (by decide) rfl ?_
                            show sv_T sm_XS sm_cs sm_L sm_sh 1 (q_cutString p1 S) 21 148 [(0, .ref 0), (1, sv_I p1), (2, sv_I l2_6), (3, sv_I (1 : Int)), (4, sv_I (1 : Int)), (5, sv_I x119)] [] (sv_sts (sv_up S 1018 0 ((S 1018 0) + (1 : Int))) [1018] g5)
                            refine sv_goto hM dX12_cutString_148 (pc' := 171) rfl ?_
                            have hb := J28 (1 : Int) (⟨by decide, by decide⟩ : sv_R (1 : Int)) (1 : Int) (⟨by decide, by decide⟩ : sv_R (1 : Int)) x119 e120r h
                            exact sv_less (lv := [(0, .ref 0), (1, sv_I p1), (2, sv_I l2_6), (3, sv_I (1 : Int)), (4, sv_I (1 : Int)), (5, sv_I x119)]) (sv_Sub_cons rfl (sv_Sub_cons rfl (sv_Sub_cons rfl (sv_Sub_cons rfl (sv_Sub_cons rfl (sv_Sub_cons rfl sv_Sub_nil)))))) hb
            · have h := h.2 (hc)
              refine sv_aload_n hM dX12_cutString_66 rfl rfl ?_
              refine sv_aload_n hM dX12_cutString_67 rfl rfl ?_
              refine sv_getI hM dX12_cutString_68 sm_fl_344 (sm_a0 _) sm_k18 rfl (x := (g5 1018 0)) rfl ?_
              refine sv_iconst (d := (1 : Int)) hM dX12_cutString_71 rfl rfl ?_
              refine sv_iadd hM dX12_cutString_72 rfl ?_
              obtain ⟨o122, h⟩ := h
              obtain ⟨o123, h⟩ := h
              refine sv_callV hM dX12_cutString_73 sm_iv_334 (by decide) (sm_a0 _) rfl rfl (Nat.le_of_ble_eq_true rfl) sm_h10 (Nat.le_of_ble_eq_true rfl) (Nat.le_of_ble_eq_true rfl) (F' := 0) (Nat.le_of_ble_eq_true rfl) rfl (t_look ((g5 1018 0) + (1 : Int)) (sv_sts (sv_up S 1018 0 ((S 1018 0) + (1 : Int))) [1018] g5) ok10 o122 o123) (fun v S1 hq => ?_)
              obtain ⟨rfl, hS1⟩ := hq
              obtain rfl : (sv_sts (sv_up S 1018 0 ((S 1018 0) + (1 : Int))) [1018] g5) = S1 := hS1.symm
              show sv_T sm_XS sm_cs sm_L sm_sh 1 (q_cutString p1 S) 21 76 [(0, .ref 0), (1, sv_I p1), (2, sv_I l2_6), (3, sv_I l3_7), (4, sv_I (1 : Int))] [sv_I ((if ((g5 1018 0) + (1 : Int)) < (S 1004 0) then (S 2 ((g5 1018 0) + (1 : Int))) % 256 else 0))] (sv_sts (sv_up S 1018 0 ((S 1018 0) + (1 : Int))) [1018] g5)
              refine sv_goto hM dX12_cutString_76 (pc' := 87) rfl ?_
              obtain ⟨x124, e125⟩ : ∃ x : Int, ((if ((g5 1018 0) + (1 : Int)) < (S 1004 0) then (S 2 ((g5 1018 0) + (1 : Int))) % 256 else 0)) = x := ⟨_, rfl⟩
              have h := h x124 e125
              refine sv_nameI e125 ?_
              refine sv_istore hM dX12_cutString_87 (by decide) rfl ?_
              show sv_T sm_XS sm_cs sm_L sm_sh 1 (q_cutString p1 S) 21 89 [(0, .ref 0), (1, sv_I p1), (2, sv_I l2_6), (3, sv_I l3_7), (4, sv_I (1 : Int)), (5, sv_I x124)] [] (sv_sts (sv_up S 1018 0 ((S 1018 0) + (1 : Int))) [1018] g5)
              refine sv_iload hM dX12_cutString_89 rfl rfl ?_
              refine sv_cond_eq hM dX12_cutString_91 (⟨by decide, by decide⟩ : sv_R (1 : Int)) (t := 151) rfl rfl (fun hc => ?_) (fun hc => ?_)
              · have h := h.1 (hc)
                refine sv_iload hM dX12_cutString_151 rfl rfl ?_
                refine sv_bipush (d := (32 : Int)) hM dX12_cutString_153 rfl rfl ?_
                obtain ⟨o126, h⟩ := h
                refine sv_icmp_lt hM dX12_cutString_155 o126 (⟨by decide, by decide⟩ : sv_R (32 : Int)) (t := 169) rfl rfl (fun hc => ?_) (fun hc => ?_)
                · have h := h.1 (hc)
                  refine sv_iconst (d := (0 : Int)) hM dX12_cutString_169 rfl rfl ?_
                  refine sv_istore_n hM dX12_cutString_170 (by decide) rfl ?_
                  show sv_T sm_XS sm_cs sm_L sm_sh 1 (q_cutString p1 S) 21 171 [(0, .ref 0), (1, sv_I p1), (2, sv_I l2_6), (3, sv_I (0 : Int)), (4, sv_I (1 : Int)), (5, sv_I x124)] [] (sv_sts (sv_up S 1018 0 ((S 1018 0) + (1 : Int))) [1018] g5)
                  have hb := J28 (0 : Int) (⟨by decide, by decide⟩ : sv_R (0 : Int)) (1 : Int) (⟨by decide, by decide⟩ : sv_R (1 : Int)) x124 o126 h
                  exact sv_less (lv := [(0, .ref 0), (1, sv_I p1), (2, sv_I l2_6), (3, sv_I (0 : Int)), (4, sv_I (1 : Int)), (5, sv_I x124)]) (sv_Sub_cons rfl (sv_Sub_cons rfl (sv_Sub_cons rfl (sv_Sub_cons rfl (sv_Sub_cons rfl (sv_Sub_cons rfl sv_Sub_nil)))))) hb
                · have h := h.2 (hc)
                  refine sv_iload hM dX12_cutString_158 rfl rfl ?_
                  refine sv_bipush (d := (126 : Int)) hM dX12_cutString_160 rfl rfl ?_
                  refine sv_icmp_gt hM dX12_cutString_162 o126 (⟨by decide, by decide⟩ : sv_R (126 : Int)) (t := 169) rfl rfl (fun hc => ?_) (fun hc => ?_)
                  · have h := h.1 (hc)
                    refine sv_iconst (d := (0 : Int)) hM dX12_cutString_169 rfl rfl ?_
                    refine sv_istore_n hM dX12_cutString_170 (by decide) rfl ?_
                    show sv_T sm_XS sm_cs sm_L sm_sh 1 (q_cutString p1 S) 21 171 [(0, .ref 0), (1, sv_I p1), (2, sv_I l2_6), (3, sv_I (0 : Int)), (4, sv_I (1 : Int)), (5, sv_I x124)] [] (sv_sts (sv_up S 1018 0 ((S 1018 0) + (1 : Int))) [1018] g5)
                    have hb := J28 (0 : Int) (⟨by decide, by decide⟩ : sv_R (0 : Int)) (1 : Int) (⟨by decide, by decide⟩ : sv_R (1 : Int)) x124 o126 h
                    exact sv_less (lv := [(0, .ref 0), (1, sv_I p1), (2, sv_I l2_6), (3, sv_I (0 : Int)), (4, sv_I (1 : Int)), (5, sv_I x124)]) (sv_Sub_cons rfl (sv_Sub_cons rfl (sv_Sub_cons rfl (sv_Sub_cons rfl (sv_Sub_cons rfl (sv_Sub_cons rfl sv_Sub_nil)))))) hb
                  · have h := h.2 (hc)
                    refine sv_iconst (d := (1 : Int)) hM dX12_cutString_165 rfl rfl ?_
                    refine sv_goto hM dX12_cutString_166 (pc' := 170) rfl ?_
                    refine sv_istore_n hM dX12_cutString_170 (by decide) rfl ?_
                    show sv_T sm_XS sm_cs sm_L sm_sh 1 (q_cutString p1 S) 21 171 [(0, .ref 0), (1, sv_I p1), (2, sv_I l2_6), (3, sv_I (1 : Int)), (4, sv_I (1 : Int)), (5, sv_I x124)] [] (sv_sts (sv_up S 1018 0 ((S 1018 0) + (1 : Int))) [1018] g5)
                    have hb := J28 (1 : Int) (⟨by decide, by decide⟩ : sv_R (1 : Int)) (1 : Int) (⟨by decide, by decide⟩ : sv_R (1 : Int)) x124 o126 h
                    exact sv_less (lv := [(0, .ref 0), (1, sv_I p1), (2, sv_I l2_6), (3, sv_I (1 : Int)), (4, sv_I (1 : Int)), (5, sv_I x124)]) (sv_Sub_cons rfl (sv_Sub_cons rfl (sv_Sub_cons rfl (sv_Sub_cons rfl (sv_Sub_cons rfl (sv_Sub_cons rfl sv_Sub_nil)))))) hb
              · have h := h.2 (hc)
                refine sv_aload_n hM dX12_cutString_94 rfl rfl ?_
                refine sv_aload_n hM dX12_cutString_95 rfl rfl ?_
                refine sv_getI hM dX12_cutString_96 sm_fl_344 (sm_a0 _) sm_k18 rfl (x := (g5 1018 0)) rfl ?_
                refine sv_iconst (d := (1 : Int)) hM dX12_cutString_99 rfl rfl ?_
                refine sv_iadd hM dX12_cutString_100 rfl ?_
                refine sv_callV hM dX12_cutString_101 sm_iv_331 (by decide) (sm_a0 _) rfl rfl (Nat.le_of_ble_eq_true rfl) sm_h11 (Nat.le_of_ble_eq_true rfl) (Nat.le_of_ble_eq_true rfl) (F' := 0) (Nat.le_of_ble_eq_true rfl) rfl (t_isThere ((g5 1018 0) + (1 : Int)) (sv_sts (sv_up S 1018 0 ((S 1018 0) + (1 : Int))) [1018] g5) ok10 o122) (fun v S1 hq => ?_)
                obtain ⟨rfl, hS1⟩ := hq
                obtain rfl : (sv_sts (sv_up S 1018 0 ((S 1018 0) + (1 : Int))) [1018] g5) = S1 := hS1.symm
                show sv_T sm_XS sm_cs sm_L sm_sh 1 (q_cutString p1 S) 21 104 [(0, .ref 0), (1, sv_I p1), (2, sv_I l2_6), (3, sv_I l3_7), (4, sv_I (1 : Int)), (5, sv_I x124)] [sv_I (if ((g5 1018 0) + (1 : Int)) < (S 1004 0) then 1 else 0)] (sv_sts (sv_up S 1018 0 ((S 1018 0) + (1 : Int))) [1018] g5)
                refine sv_cond_eq hM dX12_cutString_104 (sv_Rite : sv_R (if ((g5 1018 0) + (1 : Int)) < (S 1004 0) then 1 else 0)) (t := 146) rfl rfl (fun hc => ?_) (fun hc => ?_)
                · have h := h.1 (sv_iten hc)
                  refine sv_iconst (d := (0 : Int)) hM dX12_cutString_146 rfl rfl ?_
                  refine sv_istore_n hM dX12_cutString_147 (by decide) rfl ?_
                  show sv_T sm_XS sm_cs sm_L sm_sh 1 (q_cutString p1 S) 21 148 [(0, .ref 0), (1, sv_I p1), (2, sv_I l2_6), (3, sv_I (0 : Int)), (4, sv_I (1 : Int)), (5, sv_I x124)] [] (sv_sts (sv_up S 1018 0 ((S 1018 0) + (1 : Int))) [1018] g5)
                  refine sv_goto hM dX12_cutString_148 (pc' := 171) rfl ?_
                  obtain ⟨o127, h⟩ := h
                  have hb := J28 (0 : Int) (⟨by decide, by decide⟩ : sv_R (0 : Int)) (1 : Int) (⟨by decide, by decide⟩ : sv_R (1 : Int)) x124 o127 h
                  exact sv_less (lv := [(0, .ref 0), (1, sv_I p1), (2, sv_I l2_6), (3, sv_I (0 : Int)), (4, sv_I (1 : Int)), (5, sv_I x124)]) (sv_Sub_cons rfl (sv_Sub_cons rfl (sv_Sub_cons rfl (sv_Sub_cons rfl (sv_Sub_cons rfl (sv_Sub_cons rfl sv_Sub_nil)))))) hb
                · have h := h.2 (sv_itep hc)
                  refine sv_iload hM dX12_cutString_107 rfl rfl ?_
                  refine sv_bipush (d := (110 : Int)) hM dX12_cutString_109 rfl rfl ?_
                  obtain ⟨o128, h⟩ := h
                  refine sv_icmp_eq hM dX12_cutString_111 o128 (⟨by decide, by decide⟩ : sv_R (110 : Int)) (t := 142) rfl rfl (fun hc => ?_) (fun hc => ?_)
                  · have h := h.1 (hc)
                    refine sv_iconst (d := (1 : Int)) hM dX12_cutString_142 rfl rfl ?_
                    refine sv_goto hM dX12_cutString_143 (pc' := 147) rfl ?_
                    refine sv_istore_n hM dX12_cutString_147 (by decide) rfl ?_
                    show sv_T sm_XS sm_cs sm_L sm_sh 1 (q_cutString p1 S) 21 148 [(0, .ref 0), (1, sv_I p1), (2, sv_I l2_6), (3, sv_I (1 : Int)), (4, sv_I (1 : Int)), (5, sv_I x124)] [] (sv_sts (sv_up S 1018 0 ((S 1018 0) + (1 : Int))) [1018] g5)
                    refine sv_goto hM dX12_cutString_148 (pc' := 171) rfl ?_
                    have hb := J28 (1 : Int) (⟨by decide, by decide⟩ : sv_R (1 : Int)) (1 : Int) (⟨by decide, by decide⟩ : sv_R (1 : Int)) x124 o128 h
                    exact sv_less (lv := [(0, .ref 0), (1, sv_I p1), (2, sv_I l2_6), (3, sv_I (1 : Int)), (4, sv_I (1 : Int)), (5, sv_I x124)]) (sv_Sub_cons rfl (sv_Sub_cons rfl (sv_Sub_cons rfl (sv_Sub_cons rfl (sv_Sub_cons rfl (sv_Sub_cons rfl sv_Sub_nil)))))) hb
                  · have h := h.2 (hc)
                    refine sv_iload hM dX12_cutString_114 rfl rfl ?_
                    refine sv_bipush (d := (116 : Int)) hM dX12_cutString_116 rfl rfl ?_
                    refine sv_icmp_eq hM dX12_cutString_118 o128 (⟨by decide, by decide⟩ : sv_R (116 : Int)) (t := 142) rfl rfl (fun hc => ?_) (fun hc => ?_)
                    · have h := h.1 (hc)
                      refine sv_iconst (d := (1 : Int)) hM dX12_cutString_142 rfl rfl ?_
                      refine sv_goto hM dX12_cutString_143 (pc' := 147) rfl ?_
                      refine sv_istore_n hM dX12_cutString_147 (by decide) rfl ?_
                      show sv_T sm_XS sm_cs sm_L sm_sh 1 (q_cutString p1 S) 21 148 [(0, .ref 0), (1, sv_I p1), (2, sv_I l2_6), (3, sv_I (1 : Int)), (4, sv_I (1 : Int)), (5, sv_I x124)] [] (sv_sts (sv_up S 1018 0 ((S 1018 0) + (1 : Int))) [1018] g5)
                      refine sv_goto hM dX12_cutString_148 (pc' := 171) rfl ?_
                      have hb := J28 (1 : Int) (⟨by decide, by decide⟩ : sv_R (1 : Int)) (1 : Int) (⟨by decide, by decide⟩ : sv_R (1 : Int)) x124 o128 h
                      exact sv_less (lv := [(0, .ref 0), (1, sv_I p1), (2, sv_I l2_6), (3, sv_I (1 : Int)), (4, sv_I (1 : Int)), (5, sv_I x124)]) (sv_Sub_cons rfl (sv_Sub_cons rfl (sv_Sub_cons rfl (sv_Sub_cons rfl (sv_Sub_cons rfl (sv_Sub_cons rfl sv_Sub_nil)))))) hb
                    · have h := h.2 (hc)
                      refine sv_iload hM dX12_cutString_121 rfl rfl ?_
                      refine sv_bipush (d := (92 : Int)) hM dX12_cutString_123 rfl rfl ?_
                      refine sv_icmp_eq hM dX12_cutString_125 o128 (⟨by decide, by decide⟩ : sv_R (92 : Int)) (t := 142) rfl rfl (fun hc => ?_) (fun hc => ?_)
                      · have h := h.1 (hc)
                        refine sv_iconst (d := (1 : Int)) hM dX12_cutString_142 rfl rfl ?_
                        refine sv_goto hM dX12_cutString_143 (pc' := 147) rfl ?_
                        refine sv_istore_n hM dX12_cutString_147 (by decide) rfl ?_
                        show sv_T sm_XS sm_cs sm_L sm_sh 1 (q_cutString p1 S) 21 148 [(0, .ref 0), (1, sv_I p1), (2, sv_I l2_6), (3, sv_I (1 : Int)), (4, sv_I (1 : Int)), (5, sv_I x124)] [] (sv_sts (sv_up S 1018 0 ((S 1018 0) + (1 : Int))) [1018] g5)
                        refine sv_goto hM dX12_cutString_148 (pc' := 171) rfl ?_
                        have hb := J28 (1 : Int) (⟨by decide, by decide⟩ : sv_R (1 : Int)) (1 : Int) (⟨by decide, by decide⟩ : sv_R (1 : Int)) x124 o128 h
                        exact sv_less (lv := [(0, .ref 0), (1, sv_I p1), (2, sv_I l2_6), (3, sv_I (1 : Int)), (4, sv_I (1 : Int)), (5, sv_I x124)]) (sv_Sub_cons rfl (sv_Sub_cons rfl (sv_Sub_cons rfl (sv_Sub_cons rfl (sv_Sub_cons rfl (sv_Sub_cons rfl sv_Sub_nil)))))) hb
                      · have h := h.2 (hc)
                        refine sv_iload hM dX12_cutString_128 rfl rfl ?_
                        refine sv_bipush (d := (39 : Int)) hM dX12_cutString_130 rfl rfl ?_
                        refine sv_icmp_eq hM dX12_cutString_132 o128 (⟨by decide, by decide⟩ : sv_R (39 : Int)) (t := 142) rfl rfl (fun hc => ?_) (fun hc => ?_)
                        · have h := h.1 (hc)
                          refine sv_iconst (d := (1 : Int)) hM dX12_cutString_142 rfl rfl ?_
                          refine sv_goto hM dX12_cutString_143 (pc' := 147) rfl ?_
                          refine sv_istore_n hM dX12_cutString_147 (by decide) rfl ?_
                          show sv_T sm_XS sm_cs sm_L sm_sh 1 (q_cutString p1 S) 21 148 [(0, .ref 0), (1, sv_I p1), (2, sv_I l2_6), (3, sv_I (1 : Int)), (4, sv_I (1 : Int)), (5, sv_I x124)] [] (sv_sts (sv_up S 1018 0 ((S 1018 0) + (1 : Int))) [1018] g5)
                          refine sv_goto hM dX12_cutString_148 (pc' := 171) rfl ?_
                          have hb := J28 (1 : Int) (⟨by decide, by decide⟩ : sv_R (1 : Int)) (1 : Int) (⟨by decide, by decide⟩ : sv_R (1 : Int)) x124 o128 h
                          exact sv_less (lv := [(0, .ref 0), (1, sv_I p1), (2, sv_I l2_6), (3, sv_I (1 : Int)), (4, sv_I (1 : Int)), (5, sv_I x124)]) (sv_Sub_cons rfl (sv_Sub_cons rfl (sv_Sub_cons rfl (sv_Sub_cons rfl (sv_Sub_cons rfl (sv_Sub_cons rfl sv_Sub_nil)))))) hb
                        · have h := h.2 (hc)
                          refine sv_iload hM dX12_cutString_135 rfl rfl ?_
                          refine sv_bipush (d := (34 : Int)) hM dX12_cutString_137 rfl rfl ?_
                          refine sv_icmp_ne hM dX12_cutString_139 o128 (⟨by decide, by decide⟩ : sv_R (34 : Int)) (t := 146) rfl rfl (fun hc => ?_) (fun hc => ?_)
                          · have h := h.1 (hc)
                            refine sv_iconst (d := (0 : Int)) hM dX12_cutString_146 rfl rfl ?_
                            refine sv_istore_n hM dX12_cutString_147 (by decide) rfl ?_
                            show sv_T sm_XS sm_cs sm_L sm_sh 1 (q_cutString p1 S) 21 148 [(0, .ref 0), (1, sv_I p1), (2, sv_I l2_6), (3, sv_I (0 : Int)), (4, sv_I (1 : Int)), (5, sv_I x124)] [] (sv_sts (sv_up S 1018 0 ((S 1018 0) + (1 : Int))) [1018] g5)
                            refine sv_goto hM dX12_cutString_148 (pc' := 171) rfl ?_
                            have hb := J28 (0 : Int) (⟨by decide, by decide⟩ : sv_R (0 : Int)) (1 : Int) (⟨by decide, by decide⟩ : sv_R (1 : Int)) x124 o128 h
                            exact sv_less (lv := [(0, .ref 0), (1, sv_I p1), (2, sv_I l2_6), (3, sv_I (0 : Int)), (4, sv_I (1 : Int)), (5, sv_I x124)]) (sv_Sub_cons rfl (sv_Sub_cons rfl (sv_Sub_cons rfl (sv_Sub_cons rfl (sv_Sub_cons rfl (sv_Sub_cons rfl sv_Sub_nil)))))) hb
                          · have h := h.2 (hc)
                            refine sv_iconst (d := (1 : Int)) hM dX12_cutString_142 rfl rfl ?_
                            refine sv_goto hM dX12_cutString_143 (pc' := 147) rfl ?_
                            refine sv_istore_n hM dX12_cutString_147 (by decide) rfl ?_
                            show sv_T sm_XS sm_cs sm_L sm_sh 1 (q_cutString p1 S) 21 148 [(0, .ref 0), (1, sv_I p1), (2, sv_I l2_6), (3, sv_I (1 : Int)), (4, sv_I (1 : Int)), (5, sv_I x124)] [] (sv_sts (sv_up S 1018 0 ((S 1018 0) + (1 : Int))) [1018] g5)
                            refine sv_goto hM dX12_cutString_148 (pc' := 171) rfl ?_
                            have hb := J28 (1 : Int) (⟨by decide, by decide⟩ : sv_R (1 : Int)) (1 : Int) (⟨by decide, by decide⟩ : sv_R (1 : Int)) x124 o128 h
                            exact sv_less (lv := [(0, .ref 0), (1, sv_I p1), (2, sv_I l2_6), (3, sv_I (1 : Int)), (4, sv_I (1 : Int)), (5, sv_I x124)]) (sv_Sub_cons rfl (sv_Sub_cons rfl (sv_Sub_cons rfl (sv_Sub_cons rfl (sv_Sub_cons rfl (sv_Sub_cons rfl sv_Sub_nil)))))) hb
  have eS := sv_mod.eq (sv_mod.rf (l := [1018]) (S := (sv_up S 1018 0 ((S 1018 0) + (1 : Int)))))
  have hb := hJ ((0 : Int), (1 : Int), (sv_up S 1018 0 ((S 1018 0) + (1 : Int)))) ⟨(⟨by decide, by decide⟩ : sv_R (0 : Int)), (⟨by decide, by decide⟩ : sv_R (1 : Int)), (by rw [← eS]; exact ok3), hin9⟩
  have hb : sv_T sm_XS sm_cs sm_L sm_sh 1 (q_cutString p1 S) 21 14 [(0, .ref 0), (1, sv_I p1), (2, sv_I (0 : Int)), (3, sv_I (1 : Int))] [] (sv_up S 1018 0 ((S 1018 0) + (1 : Int))) := Eq.mpr (congrArg (fun Z => sv_T sm_XS sm_cs sm_L sm_sh 1 (q_cutString p1 S) 21 14 [(0, .ref 0), (1, sv_I p1), (2, sv_I (0 : Int)), (3, sv_I (1 : Int))] [] Z) eS) hb
  exact hb
def q_cutSign (S : sv_S) : Option Value → sv_S → Prop := fun v S' => v = none ∧ sm_ok S' ∧ sv_mod [1018, 7, 6] S S' ∧ ((S 1018 0) ≤ (S' 1018 0) ∧ (S' 1018 0) ≤ (S' 1004 0) ∧ ((S' 6 (S' 1012 0)) = 6 ∨ ((S' 6 (S' 1012 0)) = 5 ∧ (S 1018 0) < (S' 1018 0))) ∧ (∀ k : Int, k ≠ (S' 1012 0) → (S' 6 k) = (S 6 k)))
set_option maxHeartbeats 2000000 in
theorem f_cutSign : ∀ (S : sv_S), sm_ok S → (0 ≤ (S 1004 0) ∧ (S 1004 0) ≤ 4000 ∧ 0 ≤ (S 1018 0) ∧ (S 1018 0) ≤ (S 1004 0) ∧ 0 ≤ (S 1012 0) ∧ (S 1012 0) ≤ 4001 ∧ (S 1018 0) < (S 1004 0)) → ((0 ≤ (0 : Int) ∧ (0 : Int) ≤ (0 : Int) ∧ (0 : Int) ≤ 127 ∧ ((0 : Int) < 127 → ¬ sm_c902 (0 : Int) = 32)) ∧ (∀ l1_1 : Int, sv_R l1_1 → ∀ l2_2 : Int, sv_R l2_2 → (0 ≤ l1_1 ∧ l1_1 ≤ l2_2 ∧ l2_2 ≤ 127 ∧ (l2_2 < 127 → ¬ sm_c902 l2_2 = 32)) → (0 ≤ 127 - l2_2) ∧ ((((127 : Int) ≤ l2_2) → (sv_R (S 1012 0) → (0 ≤ (S 1012 0) ∧ (S 1012 0) < 4002) ∧ ((S 1018 0) ≤ (S 1018 0) ∧ (S 1018 0) ≤ (S 1004 0) ∧ ((if (S 1012 0) = (S 1012 0) then (6 : Int) else (S 6 (S 1012 0))) = 6 ∨ ((if (S 1012 0) = (S 1012 0) then (6 : Int) else (S 6 (S 1012 0))) = 5 ∧ (S 1018 0) < (S 1018 0))) ∧ (∀ k : Int, k ≠ (S 1012 0) → (if k = (S 1012 0) then (6 : Int) else (S 6 k)) = (S 6 k))))) ∧ ((¬ ((127 : Int) ≤ l2_2)) → ((0 ≤ (0 : Int) ∧ l2_2 + (0 : Int) < 127 ∧ 0 ≤ l1_1 ∧ l1_1 ≤ l2_2 ∧ l2_2 < 127 ∧ ((0 : Int) = 0 → ¬ sm_c902 l2_2 = 32)) ∧ (∀ l3_10 : Int, sv_R l3_10 → (0 ≤ l3_10 ∧ l2_2 + l3_10 < 127 ∧ 0 ≤ l1_1 ∧ l1_1 ≤ l2_2 ∧ l2_2 < 127 ∧ (l3_10 = 0 → ¬ sm_c902 l2_2 = 32)) → (0 ≤ 127 - l2_2 - l3_10) ∧ (0 ≤ (l2_2 + l3_10) ∧ (l2_2 + l3_10) < 127) ∧ (∀ r14 : Int, sv_R r14 → (sm_c902 (l2_2 + l3_10)) = r14 → (((r14 = (32 : Int)) → ((0 ≤ (0 : Int) ∧ (0 : Int) ≤ l3_10 ∧ 0 < l3_10 ∧ l2_2 + l3_10 < 127 ∧ 0 ≤ l1_1 ∧ l1_1 ≤ l2_2 ∧ ((1 : Int) = 0 ∨ ((1 : Int) = 1 ∧ (S 1018 0) + (0 : Int) ≤ (S 1004 0))) ∧ sm_c902 (l2_2 + l3_10) = 32) ∧ (∀ l4_16 : Int, sv_R l4_16 → ∀ l5_17 : Int, sv_R l5_17 → (0 ≤ l5_17 ∧ l5_17 ≤ l3_10 ∧ 0 < l3_10 ∧ l2_2 + l3_10 < 127 ∧ 0 ≤ l1_1 ∧ l1_1 ≤ l2_2 ∧ (l4_16 = 0 ∨ (l4_16 = 1 ∧ (S 1018 0) + l5_17 ≤ (S 1004 0))) ∧ sm_c902 (l2_2 + l3_10) = 32) → (0 ≤ l3_10 - l5_17) ∧ (((l3_10 ≤ l5_17) → (((l4_16 = (0 : Int)) → (∀ x21 : Int, (l2_2 + (l3_10 + (1 : Int))) = x21 → (sv_R (l1_1 + (1 : Int))) ∧ (sv_R x21) ∧ ((0 ≤ (l1_1 + (1 : Int)) ∧ (l1_1 + (1 : Int)) ≤ x21 ∧ x21 ≤ 127 ∧ (x21 < 127 → ¬ sm_c902 x21 = 32)) ∧ (127 - x21) < (127 - l2_2)))) ∧ ((¬ (l4_16 = (0 : Int))) → (sv_R (S 1012 0) → (0 ≤ (S 1012 0) ∧ (S 1012 0) < 4002) ∧ (sv_R (S 1018 0) → (sv_R ((S 1018 0) + l3_10)) ∧ ((S 1018 0) ≤ ((S 1018 0) + l3_10) ∧ ((S 1018 0) + l3_10) ≤ (S 1004 0) ∧ ((if (S 1012 0) = (S 1012 0) then (5 : Int) else (S 6 (S 1012 0))) = 6 ∨ ((if (S 1012 0) = (S 1012 0) then (5 : Int) else (S 6 (S 1012 0))) = 5 ∧ (S 1018 0) < ((S 1018 0) + l3_10))) ∧ (∀ k : Int, k ≠ (S 1012 0) → (if k = (S 1012 0) then (5 : Int) else (S 6 k)) = (S 6 k)))))))) ∧ ((¬ (l3_10 ≤ l5_17)) → (((l4_16 = (0 : Int)) → (((l4_16 = (0 : Int)) → (∀ x35 : Int, (l2_2 + (l3_10 + (1 : Int))) = x35 → (sv_R (l1_1 + (1 : Int))) ∧ (sv_R x35) ∧ ((0 ≤ (l1_1 + (1 : Int)) ∧ (l1_1 + (1 : Int)) ≤ x35 ∧ x35 ≤ 127 ∧ (x35 < 127 → ¬ sm_c902 x35 = 32)) ∧ (127 - x35) < (127 - l2_2)))) ∧ ((¬ (l4_16 = (0 : Int))) → (sv_R (S 1012 0) → (0 ≤ (S 1012 0) ∧ (S 1012 0) < 4002) ∧ (sv_R (S 1018 0) → (sv_R ((S 1018 0) + l3_10)) ∧ ((S 1018 0) ≤ ((S 1018 0) + l3_10) ∧ ((S 1018 0) + l3_10) ≤ (S 1004 0) ∧ ((if (S 1012 0) = (S 1012 0) then (5 : Int) else (S 6 (S 1012 0))) = 6 ∨ ((if (S 1012 0) = (S 1012 0) then (5 : Int) else (S 6 (S 1012 0))) = 5 ∧ (S 1018 0) < ((S 1018 0) + l3_10))) ∧ (∀ k : Int, k ≠ (S 1012 0) → (if k = (S 1012 0) then (5 : Int) else (S 6 k)) = (S 6 k)))))))) ∧ ((¬ (l4_16 = (0 : Int))) → (sv_R (S 1018 0) → (sv_R ((S 1018 0) + l5_17)) ∧ (((¬ (((S 1018 0) + l5_17) < (S 1004 0))) → (sv_R (l5_17 + (1 : Int))) ∧ ((0 ≤ (l5_17 + (1 : Int)) ∧ (l5_17 + (1 : Int)) ≤ l3_10 ∧ 0 < l3_10 ∧ l2_2 + l3_10 < 127 ∧ 0 ≤ l1_1 ∧ l1_1 ≤ l2_2 ∧ ((0 : Int) = 0 ∨ ((0 : Int) = 1 ∧ (S 1018 0) + (l5_17 + (1 : Int)) ≤ (S 1004 0))) ∧ sm_c902 (l2_2 + l3_10) = 32) ∧ (l3_10 - (l5_17 + (1 : Int))) < (l3_10 - l5_17))) ∧ ((((S 1018 0) + l5_17) < (S 1004 0)) → (0 ≤ (l2_2 + l5_17) ∧ (l2_2 + l5_17) < 127) ∧ (∀ r52 : Int, sv_R r52 → (sm_c902 (l2_2 + l5_17)) = r52 → (0 ≤ (S 1004 0) ∧ (S 1004 0) ≤ 4000 ∧ 0 ≤ ((S 1018 0) + l5_17)) ∧ (sv_R ((if ((S 1018 0) + l5_17) < (S 1004 0) then (S 2 ((S 1018 0) + l5_17)) % 256 else 0))) ∧ (((¬ r52 = ((if ((S 1018 0) + l5_17) < (S 1004 0) then (S 2 ((S 1018 0) + l5_17)) % 256 else 0))) → (sv_R (l5_17 + (1 : Int))) ∧ ((0 ≤ (l5_17 + (1 : Int)) ∧ (l5_17 + (1 : Int)) ≤ l3_10 ∧ 0 < l3_10 ∧ l2_2 + l3_10 < 127 ∧ 0 ≤ l1_1 ∧ l1_1 ≤ l2_2 ∧ ((0 : Int) = 0 ∨ ((0 : Int) = 1 ∧ (S 1018 0) + (l5_17 + (1 : Int)) ≤ (S 1004 0))) ∧ sm_c902 (l2_2 + l3_10) = 32) ∧ (l3_10 - (l5_17 + (1 : Int))) < (l3_10 - l5_17))) ∧ ((¬ (¬ r52 = ((if ((S 1018 0) + l5_17) < (S 1004 0) then (S 2 ((S 1018 0) + l5_17)) % 256 else 0)))) → (sv_R (l5_17 + (1 : Int))) ∧ ((0 ≤ (l5_17 + (1 : Int)) ∧ (l5_17 + (1 : Int)) ≤ l3_10 ∧ 0 < l3_10 ∧ l2_2 + l3_10 < 127 ∧ 0 ≤ l1_1 ∧ l1_1 ≤ l2_2 ∧ ((1 : Int) = 0 ∨ ((1 : Int) = 1 ∧ (S 1018 0) + (l5_17 + (1 : Int)) ≤ (S 1004 0))) ∧ sm_c902 (l2_2 + l3_10) = 32) ∧ (l3_10 - (l5_17 + (1 : Int))) < (l3_10 - l5_17))))))))))))))) ∧ ((¬ (r14 = (32 : Int))) → (sv_R (l3_10 + (1 : Int))) ∧ ((0 ≤ (l3_10 + (1 : Int)) ∧ l2_2 + (l3_10 + (1 : Int)) < 127 ∧ 0 ≤ l1_1 ∧ l1_1 ≤ l2_2 ∧ l2_2 < 127 ∧ ((l3_10 + (1 : Int)) = 0 → ¬ sm_c902 l2_2 = 32)) ∧ (127 - l2_2 - (l3_10 + (1 : Int))) < (127 - l2_2 - l3_10))))))))))) := by
  intro S hok hpre
  repeat' (first | (refine And.intro ?_ ?_) | (intro _))
  all_goals first | omega | grind [= sm_e902, sm_w902, → sm_n902]
set_option maxRecDepth 8000 in
set_option maxHeartbeats 2000000 in
theorem t_cutSign : ∀ (S : sv_S), sm_ok S → (0 ≤ (S 1004 0) ∧ (S 1004 0) ≤ 4000 ∧ 0 ≤ (S 1018 0) ∧ (S 1018 0) ≤ (S 1004 0) ∧ 0 ≤ (S 1012 0) ∧ (S 1012 0) ≤ 4001 ∧ (S 1018 0) < (S 1004 0)) → sv_T sm_XS sm_cs sm_L sm_sh 4 (q_cutSign S) 22 0 (lv_args 0 [.ref 0]) [] S := by
  intro S hok hpre
  have h := f_cutSign S hok hpre
  have hM := sm_h22
  show sv_T sm_XS sm_cs sm_L sm_sh 4 (q_cutSign S) 22 0 [(0, .ref 0)] [] S
  refine sv_iconst (d := (0 : Int)) hM dX12_cutSign_0 rfl rfl ?_
  refine sv_istore_n hM dX12_cutSign_1 (by decide) rfl ?_
  show sv_T sm_XS sm_cs sm_L sm_sh 4 (q_cutSign S) 22 2 [(0, .ref 0), (1, sv_I (0 : Int))] [] S
  refine sv_iconst (d := (0 : Int)) hM dX12_cutSign_2 rfl rfl ?_
  refine sv_istore_n hM dX12_cutSign_3 (by decide) rfl ?_
  show sv_T sm_XS sm_cs sm_L sm_sh 4 (q_cutSign S) 22 4 [(0, .ref 0), (1, sv_I (0 : Int)), (2, sv_I (0 : Int))] [] S
  obtain ⟨hin4, h⟩ := h
  have hJ : ∀ a : Int × Int × Unit, (sv_R a.1 ∧ sv_R a.2.1 ∧ sm_ok S ∧ (0 ≤ a.1 ∧ a.1 ≤ a.2.1 ∧ a.2.1 ≤ 127 ∧ (a.2.1 < 127 → ¬ sm_c902 a.2.1 = 32))) → sv_T sm_XS sm_cs sm_L sm_sh 4 (q_cutSign S) 22 4 [(0, .ref 0), (1, sv_I a.1), (2, sv_I a.2.1)] [] S := by
    refine sv_loop (α := Int × Int × Unit) (fun a => sv_R a.1 ∧ sv_R a.2.1 ∧ sm_ok S ∧ (0 ≤ a.1 ∧ a.1 ≤ a.2.1 ∧ a.2.1 ≤ 127 ∧ (a.2.1 < 127 → ¬ sm_c902 a.2.1 = 32))) (fun a => 127 - a.2.1) (fun a => sv_T sm_XS sm_cs sm_L sm_sh 4 (q_cutSign S) 22 4 [(0, .ref 0), (1, sv_I a.1), (2, sv_I a.2.1)] [] S) (fun a q => (h a.1 q.1 a.2.1 q.2.1 q.2.2.2).1) (fun a q ih3 => ?_)
    obtain ⟨l1_1, l2_2, _u⟩ := a
    obtain ⟨hl1_1, hl2_2, ok5, hin4i⟩ := q
    have h := (h l1_1 hl1_1 l2_2 hl2_2 hin4i).2
    show sv_T sm_XS sm_cs sm_L sm_sh 4 (q_cutSign S) 22 4 [(0, .ref 0), (1, sv_I l1_1), (2, sv_I l2_2)] [] S
    refine sv_iload_n hM dX12_cutSign_4 rfl rfl ?_
    refine sv_ldc_wA hM dX12_cutSign_5 sm_ck_387 rfl ?_
    refine sv_strlen hM dX12_cutSign_8 sm_iv_315 (bs := sm_s902) sm_x902 sm_h1001 (Nat.le_of_ble_eq_true rfl) (Nat.le_of_ble_eq_true rfl) rfl (r := (127 : Int)) sm_z902 ?_
    refine sv_icmp_ge hM dX12_cutSign_11 hl2_2 (⟨by decide, by decide⟩ : sv_R (127 : Int)) (t := 152) rfl rfl (fun hc => ?_) (fun hc => ?_)
    · have h := h.1 (hc)
      refine sv_aload_n hM dX12_cutSign_152 rfl rfl ?_
      refine sv_getA hM dX12_cutSign_153 sm_fl_27 (sm_a0 _) sm_k13 rfl ?_
      refine sv_aload_n hM dX12_cutSign_156 rfl rfl ?_
      have k6 : sv_R (S 1012 0) := sm_okI ok5 sm_r1012 0
      have h := h k6
      refine sv_getI hM dX12_cutSign_157 sm_fl_350 (sm_a0 _) sm_k12 rfl (x := (S 1012 0)) rfl ?_
      refine sv_bipush (d := (6 : Int)) hM dX12_cutSign_160 rfl rfl ?_
      obtain ⟨o7, h⟩ := h
      refine sv_iast sm_X hM dX12_cutSign_162 (sm_a6 _) (by decide) o7.1 o7.2 rfl ?_
      have ok8 : sm_ok (sv_up S 6 (S 1012 0) (6 : Int)) := sm_upI ok5 sm_r6 (⟨by decide, by decide⟩ : sv_R (6 : Int))
      have md9 : sv_mod [1018, 7, 6] S (sv_up S 6 (S 1012 0) (6 : Int)) := sv_mod.up sv_mod.rf (by decide)
      exact sv_vret hM dX12_cutSign_163 rfl ⟨rfl, ok8, md9, h⟩
    · have h := h.2 (hc)
      refine sv_iconst (d := (0 : Int)) hM dX12_cutSign_14 rfl rfl ?_
      refine sv_istore_n hM dX12_cutSign_15 (by decide) rfl ?_
      show sv_T sm_XS sm_cs sm_L sm_sh 4 (q_cutSign S) 22 16 [(0, .ref 0), (1, sv_I l1_1), (2, sv_I l2_2), (3, sv_I (0 : Int))] [] S
      obtain ⟨hin12, h⟩ := h
      have hJ : ∀ a : Int × Unit, (sv_R a.1 ∧ sm_ok S ∧ (0 ≤ a.1 ∧ l2_2 + a.1 < 127 ∧ 0 ≤ l1_1 ∧ l1_1 ≤ l2_2 ∧ l2_2 < 127 ∧ (a.1 = 0 → ¬ sm_c902 l2_2 = 32))) → sv_T sm_XS sm_cs sm_L sm_sh 4 (q_cutSign S) 22 16 [(0, .ref 0), (1, sv_I l1_1), (2, sv_I l2_2), (3, sv_I a.1)] [] S := by
        refine sv_loop (α := Int × Unit) (fun a => sv_R a.1 ∧ sm_ok S ∧ (0 ≤ a.1 ∧ l2_2 + a.1 < 127 ∧ 0 ≤ l1_1 ∧ l1_1 ≤ l2_2 ∧ l2_2 < 127 ∧ (a.1 = 0 → ¬ sm_c902 l2_2 = 32))) (fun a => 127 - l2_2 - a.1) (fun a => sv_T sm_XS sm_cs sm_L sm_sh 4 (q_cutSign S) 22 16 [(0, .ref 0), (1, sv_I l1_1), (2, sv_I l2_2), (3, sv_I a.1)] [] S) (fun a q => (h a.1 q.1 q.2.2).1) (fun a q ih11 => ?_)
        obtain ⟨l3_10, _u⟩ := a
        obtain ⟨hl3_10, ok13, hin12i⟩ := q
        have h := (h l3_10 hl3_10 hin12i).2
        show sv_T sm_XS sm_cs sm_L sm_sh 4 (q_cutSign S) 22 16 [(0, .ref 0), (1, sv_I l1_1), (2, sv_I l2_2), (3, sv_I l3_10)] [] S
        refine sv_ldc_wA hM dX12_cutSign_16 sm_ck_387 rfl ?_
        refine sv_iload_n hM dX12_cutSign_19 rfl rfl ?_
        refine sv_iload_n hM dX12_cutSign_20 rfl rfl ?_
        refine sv_iadd hM dX12_cutSign_21 rfl ?_
        obtain ⟨o15, h⟩ := h
        obtain ⟨r14, hr14, er14⟩ : ∃ r : Int, sv_R r ∧ (sm_c902 (l2_2 + l3_10)) = r := ⟨_, sv_RI (sm_s902.getD ((l2_2 + l3_10)).toNat 0), rfl⟩
        have h := h r14 hr14 er14
        refine sv_charAt hM dX12_cutSign_22 sm_iv_320 (bs := sm_s902) sm_x902 sm_h1000 o15.1 (by rw [sm_z902]; exact o15.2) sm_y902 (Nat.le_of_ble_eq_true rfl) (Nat.le_of_ble_eq_true rfl) rfl er14 ?_
        refine sv_bipush (d := (32 : Int)) hM dX12_cutSign_25 rfl rfl ?_
        refine sv_icmp_eq hM dX12_cutSign_27 hr14 (⟨by decide, by decide⟩ : sv_R (32 : Int)) (t := 36) rfl rfl (fun hc => ?_) (fun hc => ?_)
        · have h := h.1 (hc)
          refine sv_iconst (d := (1 : Int)) hM dX12_cutSign_36 rfl rfl ?_
          refine sv_istore hM dX12_cutSign_37 (by decide) rfl ?_
          show sv_T sm_XS sm_cs sm_L sm_sh 4 (q_cutSign S) 22 39 [(0, .ref 0), (1, sv_I l1_1), (2, sv_I l2_2), (3, sv_I l3_10), (4, sv_I (1 : Int))] [] S
          refine sv_iconst (d := (0 : Int)) hM dX12_cutSign_39 rfl rfl ?_
          refine sv_istore hM dX12_cutSign_40 (by decide) rfl ?_
          show sv_T sm_XS sm_cs sm_L sm_sh 4 (q_cutSign S) 22 42 [(0, .ref 0), (1, sv_I l1_1), (2, sv_I l2_2), (3, sv_I l3_10), (4, sv_I (1 : Int)), (5, sv_I (0 : Int))] [] S
          obtain ⟨hin19, h⟩ := h
          have hJ : ∀ a : Int × Int × Unit, (sv_R a.1 ∧ sv_R a.2.1 ∧ sm_ok S ∧ (0 ≤ a.2.1 ∧ a.2.1 ≤ l3_10 ∧ 0 < l3_10 ∧ l2_2 + l3_10 < 127 ∧ 0 ≤ l1_1 ∧ l1_1 ≤ l2_2 ∧ (a.1 = 0 ∨ (a.1 = 1 ∧ (S 1018 0) + a.2.1 ≤ (S 1004 0))) ∧ sm_c902 (l2_2 + l3_10) = 32)) → sv_T sm_XS sm_cs sm_L sm_sh 4 (q_cutSign S) 22 42 [(0, .ref 0), (1, sv_I l1_1), (2, sv_I l2_2), (3, sv_I l3_10), (4, sv_I a.1), (5, sv_I a.2.1)] [] S := by
            refine sv_loop (α := Int × Int × Unit) (fun a => sv_R a.1 ∧ sv_R a.2.1 ∧ sm_ok S ∧ (0 ≤ a.2.1 ∧ a.2.1 ≤ l3_10 ∧ 0 < l3_10 ∧ l2_2 + l3_10 < 127 ∧ 0 ≤ l1_1 ∧ l1_1 ≤ l2_2 ∧ (a.1 = 0 ∨ (a.1 = 1 ∧ (S 1018 0) + a.2.1 ≤ (S 1004 0))) ∧ sm_c902 (l2_2 + l3_10) = 32)) (fun a => l3_10 - a.2.1) (fun a => sv_T sm_XS sm_cs sm_L sm_sh 4 (q_cutSign S) 22 42 [(0, .ref 0), (1, sv_I l1_1), (2, sv_I l2_2), (3, sv_I l3_10), (4, sv_I a.1), (5, sv_I a.2.1)] [] S) (fun a q => (h a.1 q.1 a.2.1 q.2.1 q.2.2.2).1) (fun a q ih18 => ?_)
            obtain ⟨l4_16, l5_17, _u⟩ := a
            obtain ⟨hl4_16, hl5_17, ok20, hin19i⟩ := q
            have h := (h l4_16 hl4_16 l5_17 hl5_17 hin19i).2
            show sv_T sm_XS sm_cs sm_L sm_sh 4 (q_cutSign S) 22 42 [(0, .ref 0), (1, sv_I l1_1), (2, sv_I l2_2), (3, sv_I l3_10), (4, sv_I l4_16), (5, sv_I l5_17)] [] S
            refine sv_iload hM dX12_cutSign_42 rfl rfl ?_
            refine sv_iload_n hM dX12_cutSign_44 rfl rfl ?_
            refine sv_icmp_ge hM dX12_cutSign_45 hl5_17 hl3_10 (t := 104) rfl rfl (fun hc => ?_) (fun hc => ?_)
            · have h := h.1 (hc)
              refine sv_iload hM dX12_cutSign_104 rfl rfl ?_
              refine sv_cond_eq hM dX12_cutSign_106 hl4_16 (t := 140) rfl rfl (fun hc => ?_) (fun hc => ?_)
              · have h := h.1 (hc)
                refine sv_iload_n hM dX12_cutSign_140 rfl rfl ?_
                refine sv_iload_n hM dX12_cutSign_141 rfl rfl ?_
                refine sv_iconst (d := (1 : Int)) hM dX12_cutSign_142 rfl rfl ?_
                refine sv_iadd hM dX12_cutSign_143 rfl ?_
                refine sv_iadd hM dX12_cutSign_144 rfl ?_
                obtain ⟨x21, e22⟩ : ∃ x : Int, (l2_2 + (l3_10 + (1 : Int))) = x := ⟨_, rfl⟩
                have h := h x21 e22
                refine sv_nameI e22 ?_
                refine sv_istore_n hM dX12_cutSign_145 (by decide) rfl ?_
                show sv_T sm_XS sm_cs sm_L sm_sh 4 (q_cutSign S) 22 146 [(0, .ref 0), (1, sv_I l1_1), (2, sv_I x21), (3, sv_I l3_10), (4, sv_I l4_16), (5, sv_I l5_17)] [] S
                refine sv_iinc (d := (1 : Int)) hM dX12_cutSign_146 rfl (by decide) rfl rfl ?_
                show sv_T sm_XS sm_cs sm_L sm_sh 4 (q_cutSign S) 22 149 [(0, .ref 0), (1, sv_I (l1_1 + (1 : Int))), (2, sv_I x21), (3, sv_I l3_10), (4, sv_I l4_16), (5, sv_I l5_17)] [] S
                refine sv_goto hM dX12_cutSign_149 (pc' := 4) rfl ?_
                obtain ⟨o23, h⟩ := h
                obtain ⟨o24, h⟩ := h
                have hb := ih3 ((l1_1 + (1 : Int)), x21, ()) ⟨o23, o24, ok20, h.1⟩ h.2
                exact sv_less (lv := [(0, .ref 0), (1, sv_I (l1_1 + (1 : Int))), (2, sv_I x21)]) (sv_Sub_cons rfl (sv_Sub_cons rfl (sv_Sub_cons rfl sv_Sub_nil))) hb
              · have h := h.2 (hc)
                refine sv_aload_n hM dX12_cutSign_109 rfl rfl ?_
                refine sv_getA hM dX12_cutSign_110 sm_fl_27 (sm_a0 _) sm_k13 rfl ?_
                refine sv_aload_n hM dX12_cutSign_113 rfl rfl ?_
                have k25 : sv_R (S 1012 0) := sm_okI ok20 sm_r1012 0
                have h := h k25
                refine sv_getI hM dX12_cutSign_114 sm_fl_350 (sm_a0 _) sm_k12 rfl (x := (S 1012 0)) rfl ?_
                refine sv_iconst (d := (5 : Int)) hM dX12_cutSign_117 rfl rfl ?_
                obtain ⟨o26, h⟩ := h
                refine sv_iast sm_X hM dX12_cutSign_118 (sm_a6 _) (by decide) o26.1 o26.2 rfl ?_
                have ok27 : sm_ok (sv_up S 6 (S 1012 0) (5 : Int)) := sm_upI ok20 sm_r6 (⟨by decide, by decide⟩ : sv_R (5 : Int))
                have md28 : sv_mod [1018, 7, 6] S (sv_up S 6 (S 1012 0) (5 : Int)) := sv_mod.up sv_mod.rf (by decide)
                refine sv_aload_n hM dX12_cutSign_119 rfl rfl ?_
                refine sv_getA hM dX12_cutSign_120 sm_fl_30 (sm_a0 _) sm_k14 rfl ?_
                refine sv_aload_n hM dX12_cutSign_123 rfl rfl ?_
                refine sv_getI hM dX12_cutSign_124 sm_fl_350 (sm_a0 _) sm_k12 rfl (x := (S 1012 0)) rfl ?_
                refine sv_iload_n hM dX12_cutSign_127 rfl rfl ?_
                refine sv_iast sm_X hM dX12_cutSign_128 (sm_a7 _) (by decide) o26.1 o26.2 rfl ?_
                have ok29 : sm_ok (sv_up (sv_up S 6 (S 1012 0) (5 : Int)) 7 (S 1012 0) l1_1) := sm_upI ok27 sm_r7 hl1_1
                have md30 : sv_mod [1018, 7, 6] S (sv_up (sv_up S 6 (S 1012 0) (5 : Int)) 7 (S 1012 0) l1_1) := sv_mod.up md28 (by decide)
                refine sv_aload_n hM dX12_cutSign_129 rfl rfl ?_
                refine sv_dupA hM dX12_cutSign_130 rfl ?_
                have k31 : sv_R (S 1018 0) := sm_okI ok29 sm_r1018 0
                have h := h k31
                refine sv_getI hM dX12_cutSign_131 sm_fl_344 (sm_a0 _) sm_k18 rfl (x := (S 1018 0)) rfl ?_
                refine sv_iload_n hM dX12_cutSign_134 rfl rfl ?_
                refine sv_iadd hM dX12_cutSign_135 rfl ?_
                obtain ⟨o32, h⟩ := h
                refine sv_putI sm_X hM dX12_cutSign_136 sm_fp_344 (sm_a0 _) sm_q18 (Or.inl rfl) rfl rfl rfl rfl ?_
                have ok33 : sm_ok (sv_up (sv_up (sv_up S 6 (S 1012 0) (5 : Int)) 7 (S 1012 0) l1_1) 1018 0 ((S 1018 0) + l3_10)) := sm_upI ok29 sm_r1018 o32
                have md34 : sv_mod [1018, 7, 6] S (sv_up (sv_up (sv_up S 6 (S 1012 0) (5 : Int)) 7 (S 1012 0) l1_1) 1018 0 ((S 1018 0) + l3_10)) := sv_mod.up md30 (by decide)
                exact sv_vret hM dX12_cutSign_139 rfl ⟨rfl, ok33, md34, h⟩
            · have h := h.2 (hc)
              refine sv_iload hM dX12_cutSign_48 rfl rfl ?_
              refine sv_cond_eq hM dX12_cutSign_50 hl4_16 (t := 104) rfl rfl (fun hc => ?_) (fun hc => ?_)
              · have h := h.1 (hc)
                refine sv_iload hM dX12_cutSign_104 rfl rfl ?_
                refine sv_cond_eq hM dX12_cutSign_106 hl4_16 (t := 140) rfl rfl (fun hc => ?_) (fun hc => ?_)
                · have h := h.1 (hc)
                  refine sv_iload_n hM dX12_cutSign_140 rfl rfl ?_
                  refine sv_iload_n hM dX12_cutSign_141 rfl rfl ?_
                  refine sv_iconst (d := (1 : Int)) hM dX12_cutSign_142 rfl rfl ?_
                  refine sv_iadd hM dX12_cutSign_143 rfl ?_
                  refine sv_iadd hM dX12_cutSign_144 rfl ?_
                  obtain ⟨x35, e36⟩ : ∃ x : Int, (l2_2 + (l3_10 + (1 : Int))) = x := ⟨_, rfl⟩
                  have h := h x35 e36
                  refine sv_nameI e36 ?_
                  refine sv_istore_n hM dX12_cutSign_145 (by decide) rfl ?_
                  show sv_T sm_XS sm_cs sm_L sm_sh 4 (q_cutSign S) 22 146 [(0, .ref 0), (1, sv_I l1_1), (2, sv_I x35), (3, sv_I l3_10), (4, sv_I l4_16), (5, sv_I l5_17)] [] S
                  refine sv_iinc (d := (1 : Int)) hM dX12_cutSign_146 rfl (by decide) rfl rfl ?_
                  show sv_T sm_XS sm_cs sm_L sm_sh 4 (q_cutSign S) 22 149 [(0, .ref 0), (1, sv_I (l1_1 + (1 : Int))), (2, sv_I x35), (3, sv_I l3_10), (4, sv_I l4_16), (5, sv_I l5_17)] [] S
                  refine sv_goto hM dX12_cutSign_149 (pc' := 4) rfl ?_
                  obtain ⟨o37, h⟩ := h
                  obtain ⟨o38, h⟩ := h
                  have hb := ih3 ((l1_1 + (1 : Int)), x35, ()) ⟨o37, o38, ok20, h.1⟩ h.2
                  exact sv_less (lv := [(0, .ref 0), (1, sv_I (l1_1 + (1 : Int))), (2, sv_I x35)]) (sv_Sub_cons rfl (sv_Sub_cons rfl (sv_Sub_cons rfl sv_Sub_nil))) hb
                · have h := h.2 (hc)
                  refine sv_aload_n hM dX12_cutSign_109 rfl rfl ?_
                  refine sv_getA hM dX12_cutSign_110 sm_fl_27 (sm_a0 _) sm_k13 rfl ?_
                  refine sv_aload_n hM dX12_cutSign_113 rfl rfl ?_
                  have k39 : sv_R (S 1012 0) := sm_okI ok20 sm_r1012 0
                  have h := h k39
                  refine sv_getI hM dX12_cutSign_114 sm_fl_350 (sm_a0 _) sm_k12 rfl (x := (S 1012 0)) rfl ?_
                  refine sv_iconst (d := (5 : Int)) hM dX12_cutSign_117 rfl rfl ?_
                  obtain ⟨o40, h⟩ := h
                  refine sv_iast sm_X hM dX12_cutSign_118 (sm_a6 _) (by decide) o40.1 o40.2 rfl ?_
                  have ok41 : sm_ok (sv_up S 6 (S 1012 0) (5 : Int)) := sm_upI ok20 sm_r6 (⟨by decide, by decide⟩ : sv_R (5 : Int))
                  have md42 : sv_mod [1018, 7, 6] S (sv_up S 6 (S 1012 0) (5 : Int)) := sv_mod.up sv_mod.rf (by decide)
                  refine sv_aload_n hM dX12_cutSign_119 rfl rfl ?_
                  refine sv_getA hM dX12_cutSign_120 sm_fl_30 (sm_a0 _) sm_k14 rfl ?_
                  refine sv_aload_n hM dX12_cutSign_123 rfl rfl ?_
                  refine sv_getI hM dX12_cutSign_124 sm_fl_350 (sm_a0 _) sm_k12 rfl (x := (S 1012 0)) rfl ?_
                  refine sv_iload_n hM dX12_cutSign_127 rfl rfl ?_
                  refine sv_iast sm_X hM dX12_cutSign_128 (sm_a7 _) (by decide) o40.1 o40.2 rfl ?_
                  have ok43 : sm_ok (sv_up (sv_up S 6 (S 1012 0) (5 : Int)) 7 (S 1012 0) l1_1) := sm_upI ok41 sm_r7 hl1_1
                  have md44 : sv_mod [1018, 7, 6] S (sv_up (sv_up S 6 (S 1012 0) (5 : Int)) 7 (S 1012 0) l1_1) := sv_mod.up md42 (by decide)
                  refine sv_aload_n hM dX12_cutSign_129 rfl rfl ?_
                  refine sv_dupA hM dX12_cutSign_130 rfl ?_
                  have k45 : sv_R (S 1018 0) := sm_okI ok43 sm_r1018 0
                  have h := h k45
                  refine sv_getI hM dX12_cutSign_131 sm_fl_344 (sm_a0 _) sm_k18 rfl (x := (S 1018 0)) rfl ?_
                  refine sv_iload_n hM dX12_cutSign_134 rfl rfl ?_
                  refine sv_iadd hM dX12_cutSign_135 rfl ?_
                  obtain ⟨o46, h⟩ := h
                  refine sv_putI sm_X hM dX12_cutSign_136 sm_fp_344 (sm_a0 _) sm_q18 (Or.inl rfl) rfl rfl rfl rfl ?_
                  have ok47 : sm_ok (sv_up (sv_up (sv_up S 6 (S 1012 0) (5 : Int)) 7 (S 1012 0) l1_1) 1018 0 ((S 1018 0) + l3_10)) := sm_upI ok43 sm_r1018 o46
                  have md48 : sv_mod [1018, 7, 6] S (sv_up (sv_up (sv_up S 6 (S 1012 0) (5 : Int)) 7 (S 1012 0) l1_1) 1018 0 ((S 1018 0) + l3_10)) := sv_mod.up md44 (by decide)
                  exact sv_vret hM dX12_cutSign_139 rfl ⟨rfl, ok47, md48, h⟩
              · have h := h.2 (hc)
                refine sv_aload_n hM dX12_cutSign_53 rfl rfl ?_
                refine sv_aload_n hM dX12_cutSign_54 rfl rfl ?_
                have k49 : sv_R (S 1018 0) := sm_okI ok20 sm_r1018 0
                have h := h k49
                refine sv_getI hM dX12_cutSign_55 sm_fl_344 (sm_a0 _) sm_k18 rfl (x := (S 1018 0)) rfl ?_
                refine sv_iload hM dX12_cutSign_58 rfl rfl ?_
                refine sv_iadd hM dX12_cutSign_60 rfl ?_
                obtain ⟨o50, h⟩ := h
                refine sv_callV hM dX12_cutSign_61 sm_iv_331 (by decide) (sm_a0 _) rfl rfl (Nat.le_of_ble_eq_true rfl) sm_h11 (Nat.le_of_ble_eq_true rfl) (Nat.le_of_ble_eq_true rfl) (F' := 0) (Nat.le_of_ble_eq_true rfl) rfl (t_isThere ((S 1018 0) + l5_17) S ok20 o50) (fun v S1 hq => ?_)
                obtain ⟨rfl, hS1⟩ := hq
                obtain rfl : S = S1 := hS1.symm
                show sv_T sm_XS sm_cs sm_L sm_sh 4 (q_cutSign S) 22 64 [(0, .ref 0), (1, sv_I l1_1), (2, sv_I l2_2), (3, sv_I l3_10), (4, sv_I l4_16), (5, sv_I l5_17)] [sv_I (if ((S 1018 0) + l5_17) < (S 1004 0) then 1 else 0)] S
                refine sv_cond_eq hM dX12_cutSign_64 (sv_Rite : sv_R (if ((S 1018 0) + l5_17) < (S 1004 0) then 1 else 0)) (t := 95) rfl rfl (fun hc => ?_) (fun hc => ?_)
                · have h := h.1 (sv_iten hc)
                  refine sv_iconst (d := (0 : Int)) hM dX12_cutSign_95 rfl rfl ?_
                  refine sv_istore hM dX12_cutSign_96 (by decide) rfl ?_
                  show sv_T sm_XS sm_cs sm_L sm_sh 4 (q_cutSign S) 22 98 [(0, .ref 0), (1, sv_I l1_1), (2, sv_I l2_2), (3, sv_I l3_10), (4, sv_I (0 : Int)), (5, sv_I l5_17)] [] S
                  refine sv_iinc (d := (1 : Int)) hM dX12_cutSign_98 rfl (by decide) rfl rfl ?_
                  show sv_T sm_XS sm_cs sm_L sm_sh 4 (q_cutSign S) 22 101 [(0, .ref 0), (1, sv_I l1_1), (2, sv_I l2_2), (3, sv_I l3_10), (4, sv_I (0 : Int)), (5, sv_I (l5_17 + (1 : Int)))] [] S
                  refine sv_goto hM dX12_cutSign_101 (pc' := 42) rfl ?_
                  obtain ⟨o51, h⟩ := h
                  have hb := ih18 ((0 : Int), (l5_17 + (1 : Int)), ()) ⟨(⟨by decide, by decide⟩ : sv_R (0 : Int)), o51, ok20, h.1⟩ h.2
                  exact sv_less (lv := [(0, .ref 0), (1, sv_I l1_1), (2, sv_I l2_2), (3, sv_I l3_10), (4, sv_I (0 : Int)), (5, sv_I (l5_17 + (1 : Int)))]) (sv_Sub_cons rfl (sv_Sub_cons rfl (sv_Sub_cons rfl (sv_Sub_cons rfl (sv_Sub_cons rfl (sv_Sub_cons rfl sv_Sub_nil)))))) hb
                · have h := h.2 (sv_itep hc)
                  refine sv_ldc_wA hM dX12_cutSign_67 sm_ck_387 rfl ?_
                  refine sv_iload_n hM dX12_cutSign_70 rfl rfl ?_
                  refine sv_iload hM dX12_cutSign_71 rfl rfl ?_
                  refine sv_iadd hM dX12_cutSign_73 rfl ?_
                  obtain ⟨o53, h⟩ := h
                  obtain ⟨r52, hr52, er52⟩ : ∃ r : Int, sv_R r ∧ (sm_c902 (l2_2 + l5_17)) = r := ⟨_, sv_RI (sm_s902.getD ((l2_2 + l5_17)).toNat 0), rfl⟩
                  have h := h r52 hr52 er52
                  refine sv_charAt hM dX12_cutSign_74 sm_iv_320 (bs := sm_s902) sm_x902 sm_h1000 o53.1 (by rw [sm_z902]; exact o53.2) sm_y902 (Nat.le_of_ble_eq_true rfl) (Nat.le_of_ble_eq_true rfl) rfl er52 ?_
                  refine sv_aload_n hM dX12_cutSign_77 rfl rfl ?_
                  refine sv_aload_n hM dX12_cutSign_78 rfl rfl ?_
                  refine sv_getI hM dX12_cutSign_79 sm_fl_344 (sm_a0 _) sm_k18 rfl (x := (S 1018 0)) rfl ?_
                  refine sv_iload hM dX12_cutSign_82 rfl rfl ?_
                  refine sv_iadd hM dX12_cutSign_84 rfl ?_
                  obtain ⟨o54, h⟩ := h
                  refine sv_callV hM dX12_cutSign_85 sm_iv_334 (by decide) (sm_a0 _) rfl rfl (Nat.le_of_ble_eq_true rfl) sm_h10 (Nat.le_of_ble_eq_true rfl) (Nat.le_of_ble_eq_true rfl) (F' := 0) (Nat.le_of_ble_eq_true rfl) rfl (t_look ((S 1018 0) + l5_17) S ok20 o50 o54) (fun v S1 hq => ?_)
                  obtain ⟨rfl, hS1⟩ := hq
                  obtain rfl : S = S1 := hS1.symm
                  show sv_T sm_XS sm_cs sm_L sm_sh 4 (q_cutSign S) 22 88 [(0, .ref 0), (1, sv_I l1_1), (2, sv_I l2_2), (3, sv_I l3_10), (4, sv_I l4_16), (5, sv_I l5_17)] [sv_I ((if ((S 1018 0) + l5_17) < (S 1004 0) then (S 2 ((S 1018 0) + l5_17)) % 256 else 0)), sv_I r52] S
                  obtain ⟨o55, h⟩ := h
                  refine sv_icmp_ne hM dX12_cutSign_88 hr52 o55 (t := 95) rfl rfl (fun hc => ?_) (fun hc => ?_)
                  · have h := h.1 (hc)
                    refine sv_iconst (d := (0 : Int)) hM dX12_cutSign_95 rfl rfl ?_
                    refine sv_istore hM dX12_cutSign_96 (by decide) rfl ?_
                    show sv_T sm_XS sm_cs sm_L sm_sh 4 (q_cutSign S) 22 98 [(0, .ref 0), (1, sv_I l1_1), (2, sv_I l2_2), (3, sv_I l3_10), (4, sv_I (0 : Int)), (5, sv_I l5_17)] [] S
                    refine sv_iinc (d := (1 : Int)) hM dX12_cutSign_98 rfl (by decide) rfl rfl ?_
                    show sv_T sm_XS sm_cs sm_L sm_sh 4 (q_cutSign S) 22 101 [(0, .ref 0), (1, sv_I l1_1), (2, sv_I l2_2), (3, sv_I l3_10), (4, sv_I (0 : Int)), (5, sv_I (l5_17 + (1 : Int)))] [] S
                    refine sv_goto hM dX12_cutSign_101 (pc' := 42) rfl ?_
                    obtain ⟨o56, h⟩ := h
                    have hb := ih18 ((0 : Int), (l5_17 + (1 : Int)), ()) ⟨(⟨by decide, by decide⟩ : sv_R (0 : Int)), o56, ok20, h.1⟩ h.2
                    exact sv_less (lv := [(0, .ref 0), (1, sv_I l1_1), (2, sv_I l2_2), (3, sv_I l3_10), (4, sv_I (0 : Int)), (5, sv_I (l5_17 + (1 : Int)))]) (sv_Sub_cons rfl (sv_Sub_cons rfl (sv_Sub_cons rfl (sv_Sub_cons rfl (sv_Sub_cons rfl (sv_Sub_cons rfl sv_Sub_nil)))))) hb
                  · have h := h.2 (hc)
                    refine sv_iconst (d := (1 : Int)) hM dX12_cutSign_91 rfl rfl ?_
                    refine sv_goto hM dX12_cutSign_92 (pc' := 96) rfl ?_
                    refine sv_istore hM dX12_cutSign_96 (by decide) rfl ?_
                    show sv_T sm_XS sm_cs sm_L sm_sh 4 (q_cutSign S) 22 98 [(0, .ref 0), (1, sv_I l1_1), (2, sv_I l2_2), (3, sv_I l3_10), (4, sv_I (1 : Int)), (5, sv_I l5_17)] [] S
                    refine sv_iinc (d := (1 : Int)) hM dX12_cutSign_98 rfl (by decide) rfl rfl ?_
                    show sv_T sm_XS sm_cs sm_L sm_sh 4 (q_cutSign S) 22 101 [(0, .ref 0), (1, sv_I l1_1), (2, sv_I l2_2), (3, sv_I l3_10), (4, sv_I (1 : Int)), (5, sv_I (l5_17 + (1 : Int)))] [] S
                    refine sv_goto hM dX12_cutSign_101 (pc' := 42) rfl ?_
                    obtain ⟨o57, h⟩ := h
                    have hb := ih18 ((1 : Int), (l5_17 + (1 : Int)), ()) ⟨(⟨by decide, by decide⟩ : sv_R (1 : Int)), o57, ok20, h.1⟩ h.2
                    exact sv_less (lv := [(0, .ref 0), (1, sv_I l1_1), (2, sv_I l2_2), (3, sv_I l3_10), (4, sv_I (1 : Int)), (5, sv_I (l5_17 + (1 : Int)))]) (sv_Sub_cons rfl (sv_Sub_cons rfl (sv_Sub_cons rfl (sv_Sub_cons rfl (sv_Sub_cons rfl (sv_Sub_cons rfl sv_Sub_nil)))))) hb
          exact hJ ((1 : Int), (0 : Int), ()) ⟨(⟨by decide, by decide⟩ : sv_R (1 : Int)), (⟨by decide, by decide⟩ : sv_R (0 : Int)), ok13, hin19⟩
        · have h := h.2 (hc)
          refine sv_iinc (d := (1 : Int)) hM dX12_cutSign_30 rfl (by decide) rfl rfl ?_
          show sv_T sm_XS sm_cs sm_L sm_sh 4 (q_cutSign S) 22 33 [(0, .ref 0), (1, sv_I l1_1), (2, sv_I l2_2), (3, sv_I (l3_10 + (1 : Int)))] [] S
          refine sv_goto hM dX12_cutSign_33 (pc' := 16) rfl ?_
          obtain ⟨o58, h⟩ := h
          have hb := ih11 ((l3_10 + (1 : Int)), ()) ⟨o58, ok13, h.1⟩ h.2
          exact sv_less (lv := [(0, .ref 0), (1, sv_I l1_1), (2, sv_I l2_2), (3, sv_I (l3_10 + (1 : Int)))]) (sv_Sub_cons rfl (sv_Sub_cons rfl (sv_Sub_cons rfl (sv_Sub_cons rfl sv_Sub_nil)))) hb
      exact hJ ((0 : Int), ()) ⟨(⟨by decide, by decide⟩ : sv_R (0 : Int)), ok5, hin12⟩
  exact hJ ((0 : Int), (0 : Int), ()) ⟨(⟨by decide, by decide⟩ : sv_R (0 : Int)), (⟨by decide, by decide⟩ : sv_R (0 : Int)), hok, hin4⟩
