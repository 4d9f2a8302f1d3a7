theorem dX12_numberOfString_0 : decode cX12_numberOfString 0 = .ok (.aload_n 0, 1) := by decide +kernel
theorem dX12_numberOfString_1 : decode cX12_numberOfString 1 = .ok (.getfield 20, 3) := by decide +kernel
theorem dX12_numberOfString_4 : decode cX12_numberOfString 4 = .ok (.iload_n 1, 1) := by decide +kernel
theorem dX12_numberOfString_5 : decode cX12_numberOfString 5 = .ok (.iaload, 1) := by decide +kernel
theorem dX12_numberOfString_6 : decode cX12_numberOfString 6 = .ok (.istore_n 2, 1) := by decide +kernel
theorem dX12_numberOfString_7 : decode cX12_numberOfString 7 = .ok (.iload_n 2, 1) := by decide +kernel
theorem dX12_numberOfString_8 : decode cX12_numberOfString 8 = .ok (.ifCond .le 21, 3) := by decide +kernel
theorem dX12_numberOfString_11 : decode cX12_numberOfString 11 = .ok (.aload_n 0, 1) := by decide +kernel
theorem dX12_numberOfString_12 : decode cX12_numberOfString 12 = .ok (.getfield 16, 3) := by decide +kernel
theorem dX12_numberOfString_15 : decode cX12_numberOfString 15 = .ok (.bipush 60, 2) := by decide +kernel
theorem dX12_numberOfString_17 : decode cX12_numberOfString 17 = .ok (.iload_n 1, 1) := by decide +kernel
theorem dX12_numberOfString_18 : decode cX12_numberOfString 18 = .ok (.imul, 1) := by decide +kernel
theorem dX12_numberOfString_19 : decode cX12_numberOfString 19 = .ok (.caload, 1) := by decide +kernel
theorem dX12_numberOfString_20 : decode cX12_numberOfString 20 = .ok (.bipush 45, 2) := by decide +kernel
theorem dX12_numberOfString_22 : decode cX12_numberOfString 22 = .ok (.if_icmp .ne 7, 3) := by decide +kernel
theorem dX12_numberOfString_25 : decode cX12_numberOfString 25 = .ok (.iconst 1, 1) := by decide +kernel
theorem dX12_numberOfString_26 : decode cX12_numberOfString 26 = .ok (.goto 4, 3) := by decide +kernel
theorem dX12_numberOfString_29 : decode cX12_numberOfString 29 = .ok (.iconst 0, 1) := by decide +kernel
theorem dX12_numberOfString_30 : decode cX12_numberOfString 30 = .ok (.istore_n 3, 1) := by decide +kernel
theorem dX12_numberOfString_31 : decode cX12_numberOfString 31 = .ok (.iload_n 2, 1) := by decide +kernel
theorem dX12_numberOfString_32 : decode cX12_numberOfString 32 = .ok (.iload_n 3, 1) := by decide +kernel
theorem dX12_numberOfString_33 : decode cX12_numberOfString 33 = .ok (.isub, 1) := by decide +kernel
theorem dX12_numberOfString_34 : decode cX12_numberOfString 34 = .ok (.iconst 1, 1) := by decide +kernel
theorem dX12_numberOfString_35 : decode cX12_numberOfString 35 = .ok (.if_icmp .lt 15, 3) := by decide +kernel
theorem dX12_numberOfString_38 : decode cX12_numberOfString 38 = .ok (.iload_n 2, 1) := by decide +kernel
theorem dX12_numberOfString_39 : decode cX12_numberOfString 39 = .ok (.iload_n 3, 1) := by decide +kernel
theorem dX12_numberOfString_40 : decode cX12_numberOfString 40 = .ok (.isub, 1) := by decide +kernel
theorem dX12_numberOfString_41 : decode cX12_numberOfString 41 = .ok (.bipush 10, 2) := by decide +kernel
theorem dX12_numberOfString_43 : decode cX12_numberOfString 43 = .ok (.if_icmp .gt 7, 3) := by decide +kernel
theorem dX12_numberOfString_46 : decode cX12_numberOfString 46 = .ok (.iconst 1, 1) := by decide +kernel
theorem dX12_numberOfString_47 : decode cX12_numberOfString 47 = .ok (.goto 4, 3) := by decide +kernel
theorem dX12_numberOfString_50 : decode cX12_numberOfString 50 = .ok (.iconst 0, 1) := by decide +kernel
theorem dX12_numberOfString_51 : decode cX12_numberOfString 51 = .ok (.istore 4, 2) := by decide +kernel
theorem dX12_numberOfString_53 : decode cX12_numberOfString 53 = .ok (.lconst 0, 1) := by decide +kernel
theorem dX12_numberOfString_54 : decode cX12_numberOfString 54 = .ok (.lstore 5, 2) := by decide +kernel
theorem dX12_numberOfString_56 : decode cX12_numberOfString 56 = .ok (.iload_n 3, 1) := by decide +kernel
theorem dX12_numberOfString_57 : decode cX12_numberOfString 57 = .ok (.istore 7, 2) := by decide +kernel
theorem dX12_numberOfString_59 : decode cX12_numberOfString 59 = .ok (.iload 7, 2) := by decide +kernel
theorem dX12_numberOfString_61 : decode cX12_numberOfString 61 = .ok (.iload_n 2, 1) := by decide +kernel
theorem dX12_numberOfString_62 : decode cX12_numberOfString 62 = .ok (.if_icmp .ge 57, 3) := by decide +kernel
theorem dX12_numberOfString_65 : decode cX12_numberOfString 65 = .ok (.iload 4, 2) := by decide +kernel
theorem dX12_numberOfString_67 : decode cX12_numberOfString 67 = .ok (.ifCond .eq 52, 3) := by decide +kernel
theorem dX12_numberOfString_70 : decode cX12_numberOfString 70 = .ok (.aload_n 0, 1) := by decide +kernel
theorem dX12_numberOfString_71 : decode cX12_numberOfString 71 = .ok (.getfield 16, 3) := by decide +kernel
theorem dX12_numberOfString_74 : decode cX12_numberOfString 74 = .ok (.bipush 60, 2) := by decide +kernel
theorem dX12_numberOfString_76 : decode cX12_numberOfString 76 = .ok (.iload_n 1, 1) := by decide +kernel
theorem dX12_numberOfString_77 : decode cX12_numberOfString 77 = .ok (.imul, 1) := by decide +kernel
theorem dX12_numberOfString_78 : decode cX12_numberOfString 78 = .ok (.iload 7, 2) := by decide +kernel
theorem dX12_numberOfString_80 : decode cX12_numberOfString 80 = .ok (.iadd, 1) := by decide +kernel
theorem dX12_numberOfString_81 : decode cX12_numberOfString 81 = .ok (.caload, 1) := by decide +kernel
theorem dX12_numberOfString_82 : decode cX12_numberOfString 82 = .ok (.invokestatic 341, 3) := by decide +kernel
theorem dX12_numberOfString_85 : decode cX12_numberOfString 85 = .ok (.istore 4, 2) := by decide +kernel
theorem dX12_numberOfString_87 : decode cX12_numberOfString 87 = .ok (.ldc2_w 381, 3) := by decide +kernel
theorem dX12_numberOfString_90 : decode cX12_numberOfString 90 = .ok (.lload 5, 2) := by decide +kernel
theorem dX12_numberOfString_92 : decode cX12_numberOfString 92 = .ok (.lmul, 1) := by decide +kernel
theorem dX12_numberOfString_93 : decode cX12_numberOfString 93 = .ok (.aload_n 0, 1) := by decide +kernel
theorem dX12_numberOfString_94 : decode cX12_numberOfString 94 = .ok (.getfield 16, 3) := by decide +kernel
theorem dX12_numberOfString_97 : decode cX12_numberOfString 97 = .ok (.bipush 60, 2) := by decide +kernel
theorem dX12_numberOfString_99 : decode cX12_numberOfString 99 = .ok (.iload_n 1, 1) := by decide +kernel
theorem dX12_numberOfString_100 : decode cX12_numberOfString 100 = .ok (.imul, 1) := by decide +kernel
theorem dX12_numberOfString_101 : decode cX12_numberOfString 101 = .ok (.iload 7, 2) := by decide +kernel
theorem dX12_numberOfString_103 : decode cX12_numberOfString 103 = .ok (.iadd, 1) := by decide +kernel
theorem dX12_numberOfString_104 : decode cX12_numberOfString 104 = .ok (.caload, 1) := by decide +kernel
theorem dX12_numberOfString_105 : decode cX12_numberOfString 105 = .ok (.i2l, 1) := by decide +kernel
theorem dX12_numberOfString_106 : decode cX12_numberOfString 106 = .ok (.ladd, 1) := by decide +kernel
theorem dX12_numberOfString_107 : decode cX12_numberOfString 107 = .ok (.ldc2_w 383, 3) := by decide +kernel
theorem dX12_numberOfString_110 : decode cX12_numberOfString 110 = .ok (.lsub, 1) := by decide +kernel
theorem dX12_numberOfString_111 : decode cX12_numberOfString 111 = .ok (.lstore 5, 2) := by decide +kernel
theorem dX12_numberOfString_113 : decode cX12_numberOfString 113 = .ok (.iinc 7 1, 3) := by decide +kernel
theorem dX12_numberOfString_116 : decode cX12_numberOfString 116 = .ok (.goto (-57), 3) := by decide +kernel
theorem dX12_numberOfString_119 : decode cX12_numberOfString 119 = .ok (.iload_n 3, 1) := by decide +kernel
theorem dX12_numberOfString_120 : decode cX12_numberOfString 120 = .ok (.iconst 1, 1) := by decide +kernel
theorem dX12_numberOfString_121 : decode cX12_numberOfString 121 = .ok (.if_icmp .ne 9, 3) := by decide +kernel
theorem dX12_numberOfString_124 : decode cX12_numberOfString 124 = .ok (.lload 5, 2) := by decide +kernel
theorem dX12_numberOfString_126 : decode cX12_numberOfString 126 = .ok (.lneg, 1) := by decide +kernel
theorem dX12_numberOfString_127 : decode cX12_numberOfString 127 = .ok (.goto 5, 3) := by decide +kernel
theorem dX12_numberOfString_130 : decode cX12_numberOfString 130 = .ok (.lload 5, 2) := by decide +kernel
theorem dX12_numberOfString_132 : decode cX12_numberOfString 132 = .ok (.lstore 5, 2) := by decide +kernel
theorem dX12_numberOfString_134 : decode cX12_numberOfString 134 = .ok (.aload_n 0, 1) := by decide +kernel
theorem dX12_numberOfString_135 : decode cX12_numberOfString 135 = .ok (.iload_n 2, 1) := by decide +kernel
theorem dX12_numberOfString_136 : decode cX12_numberOfString 136 = .ok (.ifCond .eq 18, 3) := by decide +kernel
theorem dX12_numberOfString_139 : decode cX12_numberOfString 139 = .ok (.iload 4, 2) := by decide +kernel
theorem dX12_numberOfString_141 : decode cX12_numberOfString 141 = .ok (.ifCond .eq 17, 3) := by decide +kernel
theorem dX12_numberOfString_144 : decode cX12_numberOfString 144 = .ok (.lload 5, 2) := by decide +kernel
theorem dX12_numberOfString_146 : decode cX12_numberOfString 146 = .ok (.lload 5, 2) := by decide +kernel
theorem dX12_numberOfString_148 : decode cX12_numberOfString 148 = .ok (.l2i, 1) := by decide +kernel
theorem dX12_numberOfString_149 : decode cX12_numberOfString 149 = .ok (.i2l, 1) := by decide +kernel
theorem dX12_numberOfString_150 : decode cX12_numberOfString 150 = .ok (.lcmp, 1) := by decide +kernel
theorem dX12_numberOfString_151 : decode cX12_numberOfString 151 = .ok (.ifCond .ne 7, 3) := by decide +kernel
theorem dX12_numberOfString_154 : decode cX12_numberOfString 154 = .ok (.iconst 1, 1) := by decide +kernel
theorem dX12_numberOfString_155 : decode cX12_numberOfString 155 = .ok (.goto 4, 3) := by decide +kernel
theorem dX12_numberOfString_158 : decode cX12_numberOfString 158 = .ok (.iconst 0, 1) := by decide +kernel
theorem dX12_numberOfString_159 : decode cX12_numberOfString 159 = .ok (.putfield 806, 3) := by decide +kernel
theorem dX12_numberOfString_162 : decode cX12_numberOfString 162 = .ok (.aload_n 0, 1) := by decide +kernel
theorem dX12_numberOfString_163 : decode cX12_numberOfString 163 = .ok (.getfield 806, 3) := by decide +kernel
theorem dX12_numberOfString_166 : decode cX12_numberOfString 166 = .ok (.ifCond .eq 9, 3) := by decide +kernel
theorem dX12_numberOfString_169 : decode cX12_numberOfString 169 = .ok (.lload 5, 2) := by decide +kernel
theorem dX12_numberOfString_171 : decode cX12_numberOfString 171 = .ok (.l2i, 1) := by decide +kernel
theorem dX12_numberOfString_172 : decode cX12_numberOfString 172 = .ok (.goto 4, 3) := by decide +kernel
theorem dX12_numberOfString_175 : decode cX12_numberOfString 175 = .ok (.iconst 0, 1) := by decide +kernel
theorem dX12_numberOfString_176 : decode cX12_numberOfString 176 = .ok (.ireturn, 1) := by decide +kernel
theorem dX12_numberOf_0 : decode cX12_numberOf 0 = .ok (.aload_n 0, 1) := by decide +kernel
theorem dX12_numberOf_1 : decode cX12_numberOf 1 = .ok (.iload_n 1, 1) := by decide +kernel
theorem dX12_numberOf_2 : decode cX12_numberOf 2 = .ok (.ifCond .eq 18, 3) := by decide +kernel
theorem dX12_numberOf_5 : decode cX12_numberOf 5 = .ok (.iload_n 1, 1) := by decide +kernel
theorem dX12_numberOf_6 : decode cX12_numberOf 6 = .ok (.iconst 4, 1) := by decide +kernel
theorem dX12_numberOf_7 : decode cX12_numberOf 7 = .ok (.if_icmp .eq 13, 3) := by decide +kernel
theorem dX12_numberOf_10 : decode cX12_numberOf 10 = .ok (.iload_n 1, 1) := by decide +kernel
theorem dX12_numberOf_11 : decode cX12_numberOf 11 = .ok (.bipush 7, 2) := by decide +kernel
theorem dX12_numberOf_13 : decode cX12_numberOf 13 = .ok (.if_icmp .ge 7, 3) := by decide +kernel
theorem dX12_numberOf_16 : decode cX12_numberOf 16 = .ok (.iconst 1, 1) := by decide +kernel
theorem dX12_numberOf_17 : decode cX12_numberOf 17 = .ok (.goto 4, 3) := by decide +kernel
theorem dX12_numberOf_20 : decode cX12_numberOf 20 = .ok (.iconst 0, 1) := by decide +kernel
theorem dX12_numberOf_21 : decode cX12_numberOf 21 = .ok (.putfield 806, 3) := by decide +kernel
theorem dX12_numberOf_24 : decode cX12_numberOf 24 = .ok (.iload_n 1, 1) := by decide +kernel
theorem dX12_numberOf_25 : decode cX12_numberOf 25 = .ok (.iconst 5, 1) := by decide +kernel
theorem dX12_numberOf_26 : decode cX12_numberOf 26 = .ok (.if_icmp .ne 5, 3) := by decide +kernel
theorem dX12_numberOf_29 : decode cX12_numberOf 29 = .ok (.iload_n 2, 1) := by decide +kernel
theorem dX12_numberOf_30 : decode cX12_numberOf 30 = .ok (.ireturn, 1) := by decide +kernel
theorem dX12_numberOf_31 : decode cX12_numberOf 31 = .ok (.iload_n 1, 1) := by decide +kernel
theorem dX12_numberOf_32 : decode cX12_numberOf 32 = .ok (.bipush 6, 2) := by decide +kernel
theorem dX12_numberOf_34 : decode cX12_numberOf 34 = .ok (.if_icmp .ne 9, 3) := by decide +kernel
theorem dX12_numberOf_37 : decode cX12_numberOf 37 = .ok (.aload_n 0, 1) := by decide +kernel
theorem dX12_numberOf_38 : decode cX12_numberOf 38 = .ok (.iload_n 2, 1) := by decide +kernel
theorem dX12_numberOf_39 : decode cX12_numberOf 39 = .ok (.invokevirtual 809, 3) := by decide +kernel
theorem dX12_numberOf_42 : decode cX12_numberOf 42 = .ok (.ireturn, 1) := by decide +kernel
theorem dX12_numberOf_43 : decode cX12_numberOf 43 = .ok (.iload_n 1, 1) := by decide +kernel
theorem dX12_numberOf_44 : decode cX12_numberOf 44 = .ok (.iconst 2, 1) := by decide +kernel
theorem dX12_numberOf_45 : decode cX12_numberOf 45 = .ok (.if_icmp .ne 7, 3) := by decide +kernel
theorem dX12_numberOf_48 : decode cX12_numberOf 48 = .ok (.iconst 1, 1) := by decide +kernel
theorem dX12_numberOf_49 : decode cX12_numberOf 49 = .ok (.goto 4, 3) := by decide +kernel
theorem dX12_numberOf_52 : decode cX12_numberOf 52 = .ok (.iconst 0, 1) := by decide +kernel
theorem dX12_numberOf_53 : decode cX12_numberOf 53 = .ok (.ireturn, 1) := by decide +kernel
theorem dX12_isTrue_0 : decode cX12_isTrue 0 = .ok (.iload_n 1, 1) := by decide +kernel
theorem dX12_isTrue_1 : decode cX12_isTrue 1 = .ok (.iconst 5, 1) := by decide +kernel
theorem dX12_isTrue_2 : decode cX12_isTrue 2 = .ok (.if_icmp .ne 13, 3) := by decide +kernel
theorem dX12_isTrue_5 : decode cX12_isTrue 5 = .ok (.iload_n 2, 1) := by decide +kernel
theorem dX12_isTrue_6 : decode cX12_isTrue 6 = .ok (.ifCond .eq 7, 3) := by decide +kernel
theorem dX12_isTrue_9 : decode cX12_isTrue 9 = .ok (.iconst 1, 1) := by decide +kernel
theorem dX12_isTrue_10 : decode cX12_isTrue 10 = .ok (.goto 4, 3) := by decide +kernel
theorem dX12_isTrue_13 : decode cX12_isTrue 13 = .ok (.iconst 0, 1) := by decide +kernel
theorem dX12_isTrue_14 : decode cX12_isTrue 14 = .ok (.ireturn, 1) := by decide +kernel
theorem dX12_isTrue_15 : decode cX12_isTrue 15 = .ok (.iload_n 1, 1) := by decide +kernel
theorem dX12_isTrue_16 : decode cX12_isTrue 16 = .ok (.bipush 6, 2) := by decide +kernel
theorem dX12_isTrue_18 : decode cX12_isTrue 18 = .ok (.if_icmp .ne 18, 3) := by decide +kernel
theorem dX12_isTrue_21 : decode cX12_isTrue 21 = .ok (.aload_n 0, 1) := by decide +kernel
theorem dX12_isTrue_22 : decode cX12_isTrue 22 = .ok (.getfield 20, 3) := by decide +kernel
theorem dX12_isTrue_25 : decode cX12_isTrue 25 = .ok (.iload_n 2, 1) := by decide +kernel
theorem dX12_isTrue_26 : decode cX12_isTrue 26 = .ok (.iaload, 1) := by decide +kernel
theorem dX12_isTrue_27 : decode cX12_isTrue 27 = .ok (.ifCond .le 7, 3) := by decide +kernel
theorem dX12_isTrue_30 : decode cX12_isTrue 30 = .ok (.iconst 1, 1) := by decide +kernel
theorem dX12_isTrue_31 : decode cX12_isTrue 31 = .ok (.goto 4, 3) := by decide +kernel
theorem dX12_isTrue_34 : decode cX12_isTrue 34 = .ok (.iconst 0, 1) := by decide +kernel
theorem dX12_isTrue_35 : decode cX12_isTrue 35 = .ok (.ireturn, 1) := by decide +kernel
theorem dX12_isTrue_36 : decode cX12_isTrue 36 = .ok (.iload_n 1, 1) := by decide +kernel
theorem dX12_isTrue_37 : decode cX12_isTrue 37 = .ok (.iconst 2, 1) := by decide +kernel
theorem dX12_isTrue_38 : decode cX12_isTrue 38 = .ok (.if_icmp .eq 9, 3) := by decide +kernel
theorem dX12_isTrue_41 : decode cX12_isTrue 41 = .ok (.iload_n 1, 1) := by decide +kernel
theorem dX12_isTrue_42 : decode cX12_isTrue 42 = .ok (.bipush 7, 2) := by decide +kernel
theorem dX12_isTrue_44 : decode cX12_isTrue 44 = .ok (.if_icmp .ne 7, 3) := by decide +kernel
theorem dX12_isTrue_47 : decode cX12_isTrue 47 = .ok (.iconst 1, 1) := by decide +kernel
theorem dX12_isTrue_48 : decode cX12_isTrue 48 = .ok (.goto 4, 3) := by decide +kernel
theorem dX12_isTrue_51 : decode cX12_isTrue 51 = .ok (.iconst 0, 1) := by decide +kernel
theorem dX12_isTrue_52 : decode cX12_isTrue 52 = .ok (.ireturn, 1) := by decide +kernel
theorem dX12_isSame_0 : decode cX12_isSame 0 = .ok (.iload_n 0, 1) := by decide +kernel
theorem dX12_isSame_1 : decode cX12_isSame 1 = .ok (.iload_n 2, 1) := by decide +kernel
theorem dX12_isSame_2 : decode cX12_isSame 2 = .ok (.if_icmp .ne 22, 3) := by decide +kernel
theorem dX12_isSame_5 : decode cX12_isSame 5 = .ok (.iload_n 0, 1) := by decide +kernel
theorem dX12_isSame_6 : decode cX12_isSame 6 = .ok (.iconst 4, 1) := by decide +kernel
theorem dX12_isSame_7 : decode cX12_isSame 7 = .ok (.if_icmp .eq 17, 3) := by decide +kernel
theorem dX12_isSame_10 : decode cX12_isSame 10 = .ok (.iload_n 0, 1) := by decide +kernel
theorem dX12_isSame_11 : decode cX12_isSame 11 = .ok (.iconst 5, 1) := by decide +kernel
theorem dX12_isSame_12 : decode cX12_isSame 12 = .ok (.if_icmp .lt 8, 3) := by decide +kernel
theorem dX12_isSame_15 : decode cX12_isSame 15 = .ok (.iload_n 1, 1) := by decide +kernel
theorem dX12_isSame_16 : decode cX12_isSame 16 = .ok (.iload_n 3, 1) := by decide +kernel
theorem dX12_isSame_17 : decode cX12_isSame 17 = .ok (.if_icmp .ne 7, 3) := by decide +kernel
theorem dX12_isSame_20 : decode cX12_isSame 20 = .ok (.iconst 1, 1) := by decide +kernel
theorem dX12_isSame_21 : decode cX12_isSame 21 = .ok (.goto 4, 3) := by decide +kernel
theorem dX12_isSame_24 : decode cX12_isSame 24 = .ok (.iconst 0, 1) := by decide +kernel
theorem dX12_isSame_25 : decode cX12_isSame 25 = .ok (.ireturn, 1) := by decide +kernel
theorem dX12_isEqual_0 : decode cX12_isEqual 0 = .ok (.iload_n 1, 1) := by decide +kernel
theorem dX12_isEqual_1 : decode cX12_isEqual 1 = .ok (.iconst 1, 1) := by decide +kernel
theorem dX12_isEqual_2 : decode cX12_isEqual 2 = .ok (.if_icmp .le 8, 3) := by decide +kernel
theorem dX12_isEqual_5 : decode cX12_isEqual 5 = .ok (.iload_n 3, 1) := by decide +kernel
theorem dX12_isEqual_6 : decode cX12_isEqual 6 = .ok (.iconst 1, 1) := by decide +kernel
theorem dX12_isEqual_7 : decode cX12_isEqual 7 = .ok (.if_icmp .gt 19, 3) := by decide +kernel
theorem dX12_isEqual_10 : decode cX12_isEqual 10 = .ok (.iload_n 1, 1) := by decide +kernel
theorem dX12_isEqual_11 : decode cX12_isEqual 11 = .ok (.iconst 1, 1) := by decide +kernel
theorem dX12_isEqual_12 : decode cX12_isEqual 12 = .ok (.if_icmp .gt 12, 3) := by decide +kernel
theorem dX12_isEqual_15 : decode cX12_isEqual 15 = .ok (.iload_n 3, 1) := by decide +kernel
theorem dX12_isEqual_16 : decode cX12_isEqual 16 = .ok (.iconst 1, 1) := by decide +kernel
theorem dX12_isEqual_17 : decode cX12_isEqual 17 = .ok (.if_icmp .gt 7, 3) := by decide +kernel
theorem dX12_isEqual_20 : decode cX12_isEqual 20 = .ok (.iconst 1, 1) := by decide +kernel
theorem dX12_isEqual_21 : decode cX12_isEqual 21 = .ok (.goto 4, 3) := by decide +kernel
theorem dX12_isEqual_24 : decode cX12_isEqual 24 = .ok (.iconst 0, 1) := by decide +kernel
theorem dX12_isEqual_25 : decode cX12_isEqual 25 = .ok (.ireturn, 1) := by decide +kernel
theorem dX12_isEqual_26 : decode cX12_isEqual 26 = .ok (.iload_n 1, 1) := by decide +kernel
theorem dX12_isEqual_27 : decode cX12_isEqual 27 = .ok (.bipush 7, 2) := by decide +kernel
theorem dX12_isEqual_29 : decode cX12_isEqual 29 = .ok (.if_icmp .eq 21, 3) := by decide +kernel
theorem dX12_isEqual_32 : decode cX12_isEqual 32 = .ok (.iload_n 3, 1) := by decide +kernel
theorem dX12_isEqual_33 : decode cX12_isEqual 33 = .ok (.bipush 7, 2) := by decide +kernel
theorem dX12_isEqual_35 : decode cX12_isEqual 35 = .ok (.if_icmp .eq 15, 3) := by decide +kernel
theorem dX12_isEqual_38 : decode cX12_isEqual 38 = .ok (.iload_n 1, 1) := by decide +kernel
theorem dX12_isEqual_39 : decode cX12_isEqual 39 = .ok (.bipush 6, 2) := by decide +kernel
theorem dX12_isEqual_41 : decode cX12_isEqual 41 = .ok (.if_icmp .ne 18, 3) := by decide +kernel
theorem dX12_isEqual_44 : decode cX12_isEqual 44 = .ok (.iload_n 3, 1) := by decide +kernel
theorem dX12_isEqual_45 : decode cX12_isEqual 45 = .ok (.bipush 6, 2) := by decide +kernel
theorem dX12_isEqual_47 : decode cX12_isEqual 47 = .ok (.if_icmp .ne 12, 3) := by decide +kernel
theorem dX12_isEqual_50 : decode cX12_isEqual 50 = .ok (.iload_n 1, 1) := by decide +kernel
theorem dX12_isEqual_51 : decode cX12_isEqual 51 = .ok (.iload_n 2, 1) := by decide +kernel
theorem dX12_isEqual_52 : decode cX12_isEqual 52 = .ok (.iload_n 3, 1) := by decide +kernel
theorem dX12_isEqual_53 : decode cX12_isEqual 53 = .ok (.iload 4, 2) := by decide +kernel
theorem dX12_isEqual_55 : decode cX12_isEqual 55 = .ok (.invokestatic 812, 3) := by decide +kernel
theorem dX12_isEqual_58 : decode cX12_isEqual 58 = .ok (.ireturn, 1) := by decide +kernel
theorem dX12_isEqual_59 : decode cX12_isEqual 59 = .ok (.aload_n 0, 1) := by decide +kernel
theorem dX12_isEqual_60 : decode cX12_isEqual 60 = .ok (.iload_n 1, 1) := by decide +kernel
theorem dX12_isEqual_61 : decode cX12_isEqual 61 = .ok (.iload_n 2, 1) := by decide +kernel
theorem dX12_isEqual_62 : decode cX12_isEqual 62 = .ok (.invokevirtual 816, 3) := by decide +kernel
theorem dX12_isEqual_65 : decode cX12_isEqual 65 = .ok (.istore 5, 2) := by decide +kernel
theorem dX12_isEqual_67 : decode cX12_isEqual 67 = .ok (.aload_n 0, 1) := by decide +kernel
theorem dX12_isEqual_68 : decode cX12_isEqual 68 = .ok (.getfield 806, 3) := by decide +kernel
theorem dX12_isEqual_71 : decode cX12_isEqual 71 = .ok (.istore 6, 2) := by decide +kernel
theorem dX12_isEqual_73 : decode cX12_isEqual 73 = .ok (.aload_n 0, 1) := by decide +kernel
theorem dX12_isEqual_74 : decode cX12_isEqual 74 = .ok (.iload_n 3, 1) := by decide +kernel
theorem dX12_isEqual_75 : decode cX12_isEqual 75 = .ok (.iload 4, 2) := by decide +kernel
theorem dX12_isEqual_77 : decode cX12_isEqual 77 = .ok (.invokevirtual 816, 3) := by decide +kernel
theorem dX12_isEqual_80 : decode cX12_isEqual 80 = .ok (.istore 7, 2) := by decide +kernel
theorem dX12_isEqual_82 : decode cX12_isEqual 82 = .ok (.iload 6, 2) := by decide +kernel
theorem dX12_isEqual_84 : decode cX12_isEqual 84 = .ok (.ifCond .eq 21, 3) := by decide +kernel
theorem dX12_isEqual_87 : decode cX12_isEqual 87 = .ok (.aload_n 0, 1) := by decide +kernel
theorem dX12_isEqual_88 : decode cX12_isEqual 88 = .ok (.getfield 806, 3) := by decide +kernel
theorem dX12_isEqual_91 : decode cX12_isEqual 91 = .ok (.ifCond .eq 14, 3) := by decide +kernel
theorem dX12_isEqual_94 : decode cX12_isEqual 94 = .ok (.iload 5, 2) := by decide +kernel
theorem dX12_isEqual_96 : decode cX12_isEqual 96 = .ok (.iload 7, 2) := by decide +kernel
theorem dX12_isEqual_98 : decode cX12_isEqual 98 = .ok (.if_icmp .ne 7, 3) := by decide +kernel
theorem dX12_isEqual_101 : decode cX12_isEqual 101 = .ok (.iconst 1, 1) := by decide +kernel
theorem dX12_isEqual_102 : decode cX12_isEqual 102 = .ok (.goto 4, 3) := by decide +kernel
theorem dX12_isEqual_105 : decode cX12_isEqual 105 = .ok (.iconst 0, 1) := by decide +kernel
theorem dX12_isEqual_106 : decode cX12_isEqual 106 = .ok (.ireturn, 1) := by decide +kernel
theorem dX12_orderOf_0 : decode cX12_orderOf 0 = .ok (.iconst 0, 1) := by decide +kernel
theorem dX12_orderOf_1 : decode cX12_orderOf 1 = .ok (.istore_n 3, 1) := by decide +kernel
theorem dX12_orderOf_2 : decode cX12_orderOf 2 = .ok (.iload_n 3, 1) := by decide +kernel
theorem dX12_orderOf_3 : decode cX12_orderOf 3 = .ok (.aload_n 0, 1) := by decide +kernel
theorem dX12_orderOf_4 : decode cX12_orderOf 4 = .ok (.getfield 20, 3) := by decide +kernel
theorem dX12_orderOf_7 : decode cX12_orderOf 7 = .ok (.iload_n 1, 1) := by decide +kernel
theorem dX12_orderOf_8 : decode cX12_orderOf 8 = .ok (.iaload, 1) := by decide +kernel
theorem dX12_orderOf_9 : decode cX12_orderOf 9 = .ok (.if_icmp .ge 44, 3) := by decide +kernel
theorem dX12_orderOf_12 : decode cX12_orderOf 12 = .ok (.iload_n 3, 1) := by decide +kernel
theorem dX12_orderOf_13 : decode cX12_orderOf 13 = .ok (.aload_n 0, 1) := by decide +kernel
theorem dX12_orderOf_14 : decode cX12_orderOf 14 = .ok (.getfield 20, 3) := by decide +kernel
theorem dX12_orderOf_17 : decode cX12_orderOf 17 = .ok (.iload_n 2, 1) := by decide +kernel
theorem dX12_orderOf_18 : decode cX12_orderOf 18 = .ok (.iaload, 1) := by decide +kernel
theorem dX12_orderOf_19 : decode cX12_orderOf 19 = .ok (.if_icmp .ge 34, 3) := by decide +kernel
theorem dX12_orderOf_22 : decode cX12_orderOf 22 = .ok (.aload_n 0, 1) := by decide +kernel
theorem dX12_orderOf_23 : decode cX12_orderOf 23 = .ok (.getfield 16, 3) := by decide +kernel
theorem dX12_orderOf_26 : decode cX12_orderOf 26 = .ok (.bipush 60, 2) := by decide +kernel
theorem dX12_orderOf_28 : decode cX12_orderOf 28 = .ok (.iload_n 1, 1) := by decide +kernel
theorem dX12_orderOf_29 : decode cX12_orderOf 29 = .ok (.imul, 1) := by decide +kernel
theorem dX12_orderOf_30 : decode cX12_orderOf 30 = .ok (.iload_n 3, 1) := by decide +kernel
theorem dX12_orderOf_31 : decode cX12_orderOf 31 = .ok (.iadd, 1) := by decide +kernel
theorem dX12_orderOf_32 : decode cX12_orderOf 32 = .ok (.caload, 1) := by decide +kernel
theorem dX12_orderOf_33 : decode cX12_orderOf 33 = .ok (.aload_n 0, 1) := by decide +kernel
theorem dX12_orderOf_34 : decode cX12_orderOf 34 = .ok (.getfield 16, 3) := by decide +kernel
theorem dX12_orderOf_37 : decode cX12_orderOf 37 = .ok (.bipush 60, 2) := by decide +kernel
theorem dX12_orderOf_39 : decode cX12_orderOf 39 = .ok (.iload_n 2, 1) := by decide +kernel
theorem dX12_orderOf_40 : decode cX12_orderOf 40 = .ok (.imul, 1) := by decide +kernel
theorem dX12_orderOf_41 : decode cX12_orderOf 41 = .ok (.iload_n 3, 1) := by decide +kernel
theorem dX12_orderOf_42 : decode cX12_orderOf 42 = .ok (.iadd, 1) := by decide +kernel
theorem dX12_orderOf_43 : decode cX12_orderOf 43 = .ok (.caload, 1) := by decide +kernel
theorem dX12_orderOf_44 : decode cX12_orderOf 44 = .ok (.if_icmp .ne 9, 3) := by decide +kernel
theorem dX12_orderOf_47 : decode cX12_orderOf 47 = .ok (.iinc 3 1, 3) := by decide +kernel
theorem dX12_orderOf_50 : decode cX12_orderOf 50 = .ok (.goto (-48), 3) := by decide +kernel
theorem dX12_orderOf_53 : decode cX12_orderOf 53 = .ok (.iload_n 3, 1) := by decide +kernel
theorem dX12_orderOf_54 : decode cX12_orderOf 54 = .ok (.aload_n 0, 1) := by decide +kernel
theorem dX12_orderOf_55 : decode cX12_orderOf 55 = .ok (.getfield 20, 3) := by decide +kernel
theorem dX12_orderOf_58 : decode cX12_orderOf 58 = .ok (.iload_n 1, 1) := by decide +kernel
theorem dX12_orderOf_59 : decode cX12_orderOf 59 = .ok (.iaload, 1) := by decide +kernel
theorem dX12_orderOf_60 : decode cX12_orderOf 60 = .ok (.if_icmp .eq 13, 3) := by decide +kernel
theorem dX12_orderOf_63 : decode cX12_orderOf 63 = .ok (.iload_n 3, 1) := by decide +kernel
theorem dX12_orderOf_64 : decode cX12_orderOf 64 = .ok (.aload_n 0, 1) := by decide +kernel
theorem dX12_orderOf_65 : decode cX12_orderOf 65 = .ok (.getfield 20, 3) := by decide +kernel
theorem dX12_orderOf_68 : decode cX12_orderOf 68 = .ok (.iload_n 2, 1) := by decide +kernel
theorem dX12_orderOf_69 : decode cX12_orderOf 69 = .ok (.iaload, 1) := by decide +kernel
theorem dX12_orderOf_70 : decode cX12_orderOf 70 = .ok (.if_icmp .ne 17, 3) := by decide +kernel
theorem dX12_orderOf_73 : decode cX12_orderOf 73 = .ok (.aload_n 0, 1) := by decide +kernel
theorem dX12_orderOf_74 : decode cX12_orderOf 74 = .ok (.getfield 20, 3) := by decide +kernel
theorem dX12_orderOf_77 : decode cX12_orderOf 77 = .ok (.iload_n 1, 1) := by decide +kernel
theorem dX12_orderOf_78 : decode cX12_orderOf 78 = .ok (.iaload, 1) := by decide +kernel
theorem dX12_orderOf_79 : decode cX12_orderOf 79 = .ok (.aload_n 0, 1) := by decide +kernel
theorem dX12_orderOf_80 : decode cX12_orderOf 80 = .ok (.getfield 20, 3) := by decide +kernel
theorem dX12_orderOf_83 : decode cX12_orderOf 83 = .ok (.iload_n 2, 1) := by decide +kernel
theorem dX12_orderOf_84 : decode cX12_orderOf 84 = .ok (.iaload, 1) := by decide +kernel
theorem dX12_orderOf_85 : decode cX12_orderOf 85 = .ok (.isub, 1) := by decide +kernel
theorem dX12_orderOf_86 : decode cX12_orderOf 86 = .ok (.ireturn, 1) := by decide +kernel
theorem dX12_orderOf_87 : decode cX12_orderOf 87 = .ok (.aload_n 0, 1) := by decide +kernel
theorem dX12_orderOf_88 : decode cX12_orderOf 88 = .ok (.getfield 16, 3) := by decide +kernel
theorem dX12_orderOf_91 : decode cX12_orderOf 91 = .ok (.bipush 60, 2) := by decide +kernel
theorem dX12_orderOf_93 : decode cX12_orderOf 93 = .ok (.iload_n 1, 1) := by decide +kernel
theorem dX12_orderOf_94 : decode cX12_orderOf 94 = .ok (.imul, 1) := by decide +kernel
theorem dX12_orderOf_95 : decode cX12_orderOf 95 = .ok (.iload_n 3, 1) := by decide +kernel
theorem dX12_orderOf_96 : decode cX12_orderOf 96 = .ok (.iadd, 1) := by decide +kernel
theorem dX12_orderOf_97 : decode cX12_orderOf 97 = .ok (.caload, 1) := by decide +kernel
theorem dX12_orderOf_98 : decode cX12_orderOf 98 = .ok (.aload_n 0, 1) := by decide +kernel
theorem dX12_orderOf_99 : decode cX12_orderOf 99 = .ok (.getfield 16, 3) := by decide +kernel
theorem dX12_orderOf_102 : decode cX12_orderOf 102 = .ok (.bipush 60, 2) := by decide +kernel
theorem dX12_orderOf_104 : decode cX12_orderOf 104 = .ok (.iload_n 2, 1) := by decide +kernel
theorem dX12_orderOf_105 : decode cX12_orderOf 105 = .ok (.imul, 1) := by decide +kernel
theorem dX12_orderOf_106 : decode cX12_orderOf 106 = .ok (.iload_n 3, 1) := by decide +kernel
theorem dX12_orderOf_107 : decode cX12_orderOf 107 = .ok (.iadd, 1) := by decide +kernel
theorem dX12_orderOf_108 : decode cX12_orderOf 108 = .ok (.caload, 1) := by decide +kernel
theorem dX12_orderOf_109 : decode cX12_orderOf 109 = .ok (.isub, 1) := by decide +kernel
theorem dX12_orderOf_110 : decode cX12_orderOf 110 = .ok (.ireturn, 1) := by decide +kernel
theorem dX12_compares_0 : decode cX12_compares 0 = .ok (.lconst 0, 1) := by decide +kernel
theorem dX12_compares_1 : decode cX12_compares 1 = .ok (.lstore 6, 2) := by decide +kernel
theorem dX12_compares_3 : decode cX12_compares 3 = .ok (.iload_n 2, 1) := by decide +kernel
theorem dX12_compares_4 : decode cX12_compares 4 = .ok (.bipush 6, 2) := by decide +kernel
theorem dX12_compares_6 : decode cX12_compares 6 = .ok (.if_icmp .ne 23, 3) := by decide +kernel
theorem dX12_compares_9 : decode cX12_compares 9 = .ok (.iload 4, 2) := by decide +kernel
theorem dX12_compares_11 : decode cX12_compares 11 = .ok (.bipush 6, 2) := by decide +kernel
theorem dX12_compares_13 : decode cX12_compares 13 = .ok (.if_icmp .ne 16, 3) := by decide +kernel
theorem dX12_compares_16 : decode cX12_compares 16 = .ok (.aload_n 0, 1) := by decide +kernel
theorem dX12_compares_17 : decode cX12_compares 17 = .ok (.iload_n 3, 1) := by decide +kernel
theorem dX12_compares_18 : decode cX12_compares 18 = .ok (.iload 5, 2) := by decide +kernel
theorem dX12_compares_20 : decode cX12_compares 20 = .ok (.invokevirtual 819, 3) := by decide +kernel
theorem dX12_compares_23 : decode cX12_compares 23 = .ok (.i2l, 1) := by decide +kernel
theorem dX12_compares_24 : decode cX12_compares 24 = .ok (.lstore 6, 2) := by decide +kernel
theorem dX12_compares_26 : decode cX12_compares 26 = .ok (.goto 46, 3) := by decide +kernel
theorem dX12_compares_29 : decode cX12_compares 29 = .ok (.aload_n 0, 1) := by decide +kernel
theorem dX12_compares_30 : decode cX12_compares 30 = .ok (.iload_n 2, 1) := by decide +kernel
theorem dX12_compares_31 : decode cX12_compares 31 = .ok (.iload_n 3, 1) := by decide +kernel
theorem dX12_compares_32 : decode cX12_compares 32 = .ok (.invokevirtual 816, 3) := by decide +kernel
theorem dX12_compares_35 : decode cX12_compares 35 = .ok (.i2l, 1) := by decide +kernel
theorem dX12_compares_36 : decode cX12_compares 36 = .ok (.lstore 8, 2) := by decide +kernel
theorem dX12_compares_38 : decode cX12_compares 38 = .ok (.aload_n 0, 1) := by decide +kernel
theorem dX12_compares_39 : decode cX12_compares 39 = .ok (.getfield 806, 3) := by decide +kernel
theorem dX12_compares_42 : decode cX12_compares 42 = .ok (.istore 10, 2) := by decide +kernel
theorem dX12_compares_44 : decode cX12_compares 44 = .ok (.lload 8, 2) := by decide +kernel
theorem dX12_compares_46 : decode cX12_compares 46 = .ok (.aload_n 0, 1) := by decide +kernel
theorem dX12_compares_47 : decode cX12_compares 47 = .ok (.iload 4, 2) := by decide +kernel
theorem dX12_compares_49 : decode cX12_compares 49 = .ok (.iload 5, 2) := by decide +kernel
theorem dX12_compares_51 : decode cX12_compares 51 = .ok (.invokevirtual 816, 3) := by decide +kernel
theorem dX12_compares_54 : decode cX12_compares 54 = .ok (.i2l, 1) := by decide +kernel
theorem dX12_compares_55 : decode cX12_compares 55 = .ok (.lsub, 1) := by decide +kernel
theorem dX12_compares_56 : decode cX12_compares 56 = .ok (.lstore 6, 2) := by decide +kernel
theorem dX12_compares_58 : decode cX12_compares 58 = .ok (.iload 10, 2) := by decide +kernel
theorem dX12_compares_60 : decode cX12_compares 60 = .ok (.ifCond .eq 10, 3) := by decide +kernel
theorem dX12_compares_63 : decode cX12_compares 63 = .ok (.aload_n 0, 1) := by decide +kernel
theorem dX12_compares_64 : decode cX12_compares 64 = .ok (.getfield 806, 3) := by decide +kernel
theorem dX12_compares_67 : decode cX12_compares 67 = .ok (.ifCond .ne 5, 3) := by decide +kernel
theorem dX12_compares_70 : decode cX12_compares 70 = .ok (.iconst 0, 1) := by decide +kernel
theorem dX12_compares_71 : decode cX12_compares 71 = .ok (.ireturn, 1) := by decide +kernel
theorem dX12_compares_72 : decode cX12_compares 72 = .ok (.iload_n 1, 1) := by decide +kernel
theorem dX12_compares_73 : decode cX12_compares 73 = .ok (.bipush 15, 2) := by decide +kernel
theorem dX12_compares_75 : decode cX12_compares 75 = .ok (.if_icmp .ne 18, 3) := by decide +kernel
theorem dX12_compares_78 : decode cX12_compares 78 = .ok (.lload 6, 2) := by decide +kernel
theorem dX12_compares_80 : decode cX12_compares 80 = .ok (.lconst 0, 1) := by decide +kernel
theorem dX12_compares_81 : decode cX12_compares 81 = .ok (.lcmp, 1) := by decide +kernel
theorem dX12_compares_82 : decode cX12_compares 82 = .ok (.ifCond .ge 7, 3) := by decide +kernel
theorem dX12_compares_85 : decode cX12_compares 85 = .ok (.iconst 1, 1) := by decide +kernel
theorem dX12_compares_86 : decode cX12_compares 86 = .ok (.goto 61, 3) := by decide +kernel
theorem dX12_compares_89 : decode cX12_compares 89 = .ok (.iconst 0, 1) := by decide +kernel
theorem dX12_compares_90 : decode cX12_compares 90 = .ok (.goto 57, 3) := by decide +kernel
theorem dX12_compares_93 : decode cX12_compares 93 = .ok (.iload_n 1, 1) := by decide +kernel
theorem dX12_compares_94 : decode cX12_compares 94 = .ok (.bipush 16, 2) := by decide +kernel
theorem dX12_compares_96 : decode cX12_compares 96 = .ok (.if_icmp .ne 18, 3) := by decide +kernel
theorem dX12_compares_99 : decode cX12_compares 99 = .ok (.lload 6, 2) := by decide +kernel
theorem dX12_compares_101 : decode cX12_compares 101 = .ok (.lconst 0, 1) := by decide +kernel
theorem dX12_compares_102 : decode cX12_compares 102 = .ok (.lcmp, 1) := by decide +kernel
theorem dX12_compares_103 : decode cX12_compares 103 = .ok (.ifCond .le 7, 3) := by decide +kernel
theorem dX12_compares_106 : decode cX12_compares 106 = .ok (.iconst 1, 1) := by decide +kernel
theorem dX12_compares_107 : decode cX12_compares 107 = .ok (.goto 40, 3) := by decide +kernel
theorem dX12_compares_110 : decode cX12_compares 110 = .ok (.iconst 0, 1) := by decide +kernel
theorem dX12_compares_111 : decode cX12_compares 111 = .ok (.goto 36, 3) := by decide +kernel
theorem dX12_compares_114 : decode cX12_compares 114 = .ok (.iload_n 1, 1) := by decide +kernel
theorem dX12_compares_115 : decode cX12_compares 115 = .ok (.bipush 17, 2) := by decide +kernel
theorem dX12_compares_117 : decode cX12_compares 117 = .ok (.if_icmp .ne 18, 3) := by decide +kernel
theorem dX12_compares_120 : decode cX12_compares 120 = .ok (.lload 6, 2) := by decide +kernel
theorem dX12_compares_122 : decode cX12_compares 122 = .ok (.lconst 0, 1) := by decide +kernel
theorem dX12_compares_123 : decode cX12_compares 123 = .ok (.lcmp, 1) := by decide +kernel
theorem dX12_compares_124 : decode cX12_compares 124 = .ok (.ifCond .gt 7, 3) := by decide +kernel
theorem dX12_compares_127 : decode cX12_compares 127 = .ok (.iconst 1, 1) := by decide +kernel
theorem dX12_compares_128 : decode cX12_compares 128 = .ok (.goto 19, 3) := by decide +kernel
theorem dX12_compares_131 : decode cX12_compares 131 = .ok (.iconst 0, 1) := by decide +kernel
theorem dX12_compares_132 : decode cX12_compares 132 = .ok (.goto 15, 3) := by decide +kernel
theorem dX12_compares_135 : decode cX12_compares 135 = .ok (.lload 6, 2) := by decide +kernel
theorem dX12_compares_137 : decode cX12_compares 137 = .ok (.lconst 0, 1) := by decide +kernel
theorem dX12_compares_138 : decode cX12_compares 138 = .ok (.lcmp, 1) := by decide +kernel
theorem dX12_compares_139 : decode cX12_compares 139 = .ok (.ifCond .lt 7, 3) := by decide +kernel
theorem dX12_compares_142 : decode cX12_compares 142 = .ok (.iconst 1, 1) := by decide +kernel
theorem dX12_compares_143 : decode cX12_compares 143 = .ok (.goto 4, 3) := by decide +kernel
theorem dX12_compares_146 : decode cX12_compares 146 = .ok (.iconst 0, 1) := by decide +kernel
theorem dX12_compares_147 : decode cX12_compares 147 = .ok (.ireturn, 1) := by decide +kernel
theorem dX12_truth_0 : decode cX12_truth 0 = .ok (.aload_n 0, 1) := by decide +kernel
theorem dX12_truth_1 : decode cX12_truth 1 = .ok (.iload_n 1, 1) := by decide +kernel
theorem dX12_truth_2 : decode cX12_truth 2 = .ok (.ifCond .eq 7, 3) := by decide +kernel
theorem dX12_truth_5 : decode cX12_truth 5 = .ok (.iconst 2, 1) := by decide +kernel
theorem dX12_truth_6 : decode cX12_truth 6 = .ok (.goto 4, 3) := by decide +kernel
theorem dX12_truth_9 : decode cX12_truth 9 = .ok (.iconst 3, 1) := by decide +kernel
theorem dX12_truth_10 : decode cX12_truth 10 = .ok (.iconst 0, 1) := by decide +kernel
theorem dX12_truth_11 : decode cX12_truth 11 = .ok (.invokevirtual 822, 3) := by decide +kernel
theorem dX12_truth_14 : decode cX12_truth 14 = .ok (.return_, 1) := by decide +kernel
theorem dX12_unaryOf_0 : decode cX12_unaryOf 0 = .ok (.iload_n 1, 1) := by decide +kernel
theorem dX12_unaryOf_1 : decode cX12_unaryOf 1 = .ok (.iconst 3, 1) := by decide +kernel
theorem dX12_unaryOf_2 : decode cX12_unaryOf 2 = .ok (.if_icmp .ne 22, 3) := by decide +kernel
theorem dX12_unaryOf_5 : decode cX12_unaryOf 5 = .ok (.aload_n 0, 1) := by decide +kernel
theorem dX12_unaryOf_6 : decode cX12_unaryOf 6 = .ok (.aload_n 0, 1) := by decide +kernel
theorem dX12_unaryOf_7 : decode cX12_unaryOf 7 = .ok (.iload_n 2, 1) := by decide +kernel
theorem dX12_unaryOf_8 : decode cX12_unaryOf 8 = .ok (.iload_n 3, 1) := by decide +kernel
theorem dX12_unaryOf_9 : decode cX12_unaryOf 9 = .ok (.invokevirtual 824, 3) := by decide +kernel
theorem dX12_unaryOf_12 : decode cX12_unaryOf 12 = .ok (.ifCond .ne 7, 3) := by decide +kernel
theorem dX12_unaryOf_15 : decode cX12_unaryOf 15 = .ok (.iconst 1, 1) := by decide +kernel
theorem dX12_unaryOf_16 : decode cX12_unaryOf 16 = .ok (.goto 4, 3) := by decide +kernel
theorem dX12_unaryOf_19 : decode cX12_unaryOf 19 = .ok (.iconst 0, 1) := by decide +kernel
theorem dX12_unaryOf_20 : decode cX12_unaryOf 20 = .ok (.invokevirtual 827, 3) := by decide +kernel
theorem dX12_unaryOf_23 : decode cX12_unaryOf 23 = .ok (.return_, 1) := by decide +kernel
theorem dX12_unaryOf_24 : decode cX12_unaryOf 24 = .ok (.aload_n 0, 1) := by decide +kernel
theorem dX12_unaryOf_25 : decode cX12_unaryOf 25 = .ok (.iload_n 2, 1) := by decide +kernel
theorem dX12_unaryOf_26 : decode cX12_unaryOf 26 = .ok (.iload_n 3, 1) := by decide +kernel
theorem dX12_unaryOf_27 : decode cX12_unaryOf 27 = .ok (.invokevirtual 816, 3) := by decide +kernel
theorem dX12_unaryOf_30 : decode cX12_unaryOf 30 = .ok (.istore 4, 2) := by decide +kernel
theorem dX12_unaryOf_32 : decode cX12_unaryOf 32 = .ok (.iload_n 1, 1) := by decide +kernel
theorem dX12_unaryOf_33 : decode cX12_unaryOf 33 = .ok (.iconst 2, 1) := by decide +kernel
theorem dX12_unaryOf_34 : decode cX12_unaryOf 34 = .ok (.if_icmp .ne 26, 3) := by decide +kernel
theorem dX12_unaryOf_37 : decode cX12_unaryOf 37 = .ok (.aload_n 0, 1) := by decide +kernel
theorem dX12_unaryOf_38 : decode cX12_unaryOf 38 = .ok (.iconst 5, 1) := by decide +kernel
theorem dX12_unaryOf_39 : decode cX12_unaryOf 39 = .ok (.aload_n 0, 1) := by decide +kernel
theorem dX12_unaryOf_40 : decode cX12_unaryOf 40 = .ok (.getfield 806, 3) := by decide +kernel
theorem dX12_unaryOf_43 : decode cX12_unaryOf 43 = .ok (.ifCond .eq 8, 3) := by decide +kernel
theorem dX12_unaryOf_46 : decode cX12_unaryOf 46 = .ok (.iload 4, 2) := by decide +kernel
theorem dX12_unaryOf_48 : decode cX12_unaryOf 48 = .ok (.goto 4, 3) := by decide +kernel
theorem dX12_unaryOf_51 : decode cX12_unaryOf 51 = .ok (.iconst 0, 1) := by decide +kernel
theorem dX12_unaryOf_52 : decode cX12_unaryOf 52 = .ok (.iconst (-1), 1) := by decide +kernel
theorem dX12_unaryOf_53 : decode cX12_unaryOf 53 = .ok (.ixor, 1) := by decide +kernel
theorem dX12_unaryOf_54 : decode cX12_unaryOf 54 = .ok (.invokevirtual 822, 3) := by decide +kernel
theorem dX12_unaryOf_57 : decode cX12_unaryOf 57 = .ok (.goto 36, 3) := by decide +kernel
theorem dX12_unaryOf_60 : decode cX12_unaryOf 60 = .ok (.aload_n 0, 1) := by decide +kernel
theorem dX12_unaryOf_61 : decode cX12_unaryOf 61 = .ok (.getfield 806, 3) := by decide +kernel
theorem dX12_unaryOf_64 : decode cX12_unaryOf 64 = .ok (.ifCond .eq 23, 3) := by decide +kernel
theorem dX12_unaryOf_67 : decode cX12_unaryOf 67 = .ok (.aload_n 0, 1) := by decide +kernel
theorem dX12_unaryOf_68 : decode cX12_unaryOf 68 = .ok (.iconst 5, 1) := by decide +kernel
theorem dX12_unaryOf_69 : decode cX12_unaryOf 69 = .ok (.iload_n 1, 1) := by decide +kernel
theorem dX12_unaryOf_70 : decode cX12_unaryOf 70 = .ok (.ifCond .ne 8, 3) := by decide +kernel
theorem dX12_unaryOf_73 : decode cX12_unaryOf 73 = .ok (.iload 4, 2) := by decide +kernel
theorem dX12_unaryOf_75 : decode cX12_unaryOf 75 = .ok (.goto 6, 3) := by decide +kernel
theorem dX12_unaryOf_78 : decode cX12_unaryOf 78 = .ok (.iload 4, 2) := by decide +kernel
theorem dX12_unaryOf_80 : decode cX12_unaryOf 80 = .ok (.ineg, 1) := by decide +kernel
theorem dX12_unaryOf_81 : decode cX12_unaryOf 81 = .ok (.invokevirtual 822, 3) := by decide +kernel
theorem dX12_unaryOf_84 : decode cX12_unaryOf 84 = .ok (.goto 9, 3) := by decide +kernel
theorem dX12_unaryOf_87 : decode cX12_unaryOf 87 = .ok (.aload_n 0, 1) := by decide +kernel
theorem dX12_unaryOf_88 : decode cX12_unaryOf 88 = .ok (.iconst 4, 1) := by decide +kernel
theorem dX12_unaryOf_89 : decode cX12_unaryOf 89 = .ok (.iconst 0, 1) := by decide +kernel
theorem dX12_unaryOf_90 : decode cX12_unaryOf 90 = .ok (.invokevirtual 822, 3) := by decide +kernel
theorem dX12_unaryOf_93 : decode cX12_unaryOf 93 = .ok (.return_, 1) := by decide +kernel
theorem dX12_joinsTexts_0 : decode cX12_joinsTexts 0 = .ok (.iload_n 1, 1) := by decide +kernel
theorem dX12_joinsTexts_1 : decode cX12_joinsTexts 1 = .ok (.ifCond .ne 19, 3) := by decide +kernel
theorem dX12_joinsTexts_4 : decode cX12_joinsTexts 4 = .ok (.iload_n 2, 1) := by decide +kernel
theorem dX12_joinsTexts_5 : decode cX12_joinsTexts 5 = .ok (.bipush 6, 2) := by decide +kernel
theorem dX12_joinsTexts_7 : decode cX12_joinsTexts 7 = .ok (.if_icmp .ge 9, 3) := by decide +kernel
theorem dX12_joinsTexts_10 : decode cX12_joinsTexts 10 = .ok (.iload_n 3, 1) := by decide +kernel
theorem dX12_joinsTexts_11 : decode cX12_joinsTexts 11 = .ok (.bipush 6, 2) := by decide +kernel
theorem dX12_joinsTexts_13 : decode cX12_joinsTexts 13 = .ok (.if_icmp .lt 7, 3) := by decide +kernel
theorem dX12_joinsTexts_16 : decode cX12_joinsTexts 16 = .ok (.iconst 1, 1) := by decide +kernel
theorem dX12_joinsTexts_17 : decode cX12_joinsTexts 17 = .ok (.goto 4, 3) := by decide +kernel
theorem dX12_joinsTexts_20 : decode cX12_joinsTexts 20 = .ok (.iconst 0, 1) := by decide +kernel
theorem dX12_joinsTexts_21 : decode cX12_joinsTexts 21 = .ok (.ireturn, 1) := by decide +kernel
theorem dX12_bits_0 : decode cX12_bits 0 = .ok (.iload_n 0, 1) := by decide +kernel
theorem dX12_bits_1 : decode cX12_bits 1 = .ok (.tableswitch 55 5 9 #[35, 39, 43, 47, 51], 35) := by decide +kernel
theorem dX12_bits_36 : decode cX12_bits 36 = .ok (.iload_n 1, 1) := by decide +kernel
theorem dX12_bits_37 : decode cX12_bits 37 = .ok (.iload_n 2, 1) := by decide +kernel
theorem dX12_bits_38 : decode cX12_bits 38 = .ok (.ishl, 1) := by decide +kernel
theorem dX12_bits_39 : decode cX12_bits 39 = .ok (.ireturn, 1) := by decide +kernel
theorem dX12_bits_40 : decode cX12_bits 40 = .ok (.iload_n 1, 1) := by decide +kernel
theorem dX12_bits_41 : decode cX12_bits 41 = .ok (.iload_n 2, 1) := by decide +kernel
theorem dX12_bits_42 : decode cX12_bits 42 = .ok (.ishr, 1) := by decide +kernel
theorem dX12_bits_43 : decode cX12_bits 43 = .ok (.ireturn, 1) := by decide +kernel
theorem dX12_bits_44 : decode cX12_bits 44 = .ok (.iload_n 1, 1) := by decide +kernel
theorem dX12_bits_45 : decode cX12_bits 45 = .ok (.iload_n 2, 1) := by decide +kernel
theorem dX12_bits_46 : decode cX12_bits 46 = .ok (.iushr, 1) := by decide +kernel
theorem dX12_bits_47 : decode cX12_bits 47 = .ok (.ireturn, 1) := by decide +kernel
theorem dX12_bits_48 : decode cX12_bits 48 = .ok (.iload_n 1, 1) := by decide +kernel
theorem dX12_bits_49 : decode cX12_bits 49 = .ok (.iload_n 2, 1) := by decide +kernel
theorem dX12_bits_50 : decode cX12_bits 50 = .ok (.iand, 1) := by decide +kernel
theorem dX12_bits_51 : decode cX12_bits 51 = .ok (.ireturn, 1) := by decide +kernel
theorem dX12_bits_52 : decode cX12_bits 52 = .ok (.iload_n 1, 1) := by decide +kernel
theorem dX12_bits_53 : decode cX12_bits 53 = .ok (.iload_n 2, 1) := by decide +kernel
theorem dX12_bits_54 : decode cX12_bits 54 = .ok (.ior, 1) := by decide +kernel
theorem dX12_bits_55 : decode cX12_bits 55 = .ok (.ireturn, 1) := by decide +kernel
theorem dX12_bits_56 : decode cX12_bits 56 = .ok (.iload_n 1, 1) := by decide +kernel
theorem dX12_bits_57 : decode cX12_bits 57 = .ok (.iload_n 2, 1) := by decide +kernel
theorem dX12_bits_58 : decode cX12_bits 58 = .ok (.ixor, 1) := by decide +kernel
theorem dX12_bits_59 : decode cX12_bits 59 = .ok (.ireturn, 1) := by decide +kernel
theorem dX12_binaryOf__0 : decode cX12_binaryOf_ 0 = .ok (.aload_n 0, 1) := by decide +kernel
theorem dX12_binaryOf__1 : decode cX12_binaryOf_ 1 = .ok (.iload_n 1, 1) := by decide +kernel
theorem dX12_binaryOf__2 : decode cX12_binaryOf_ 2 = .ok (.iload_n 2, 1) := by decide +kernel
theorem dX12_binaryOf__3 : decode cX12_binaryOf_ 3 = .ok (.iload 4, 2) := by decide +kernel
theorem dX12_binaryOf__5 : decode cX12_binaryOf_ 5 = .ok (.invokevirtual 830, 3) := by decide +kernel
theorem dX12_binaryOf__8 : decode cX12_binaryOf_ 8 = .ok (.ifCond .eq 23, 3) := by decide +kernel
theorem dX12_binaryOf__11 : decode cX12_binaryOf_ 11 = .ok (.aload_n 0, 1) := by decide +kernel
theorem dX12_binaryOf__12 : decode cX12_binaryOf_ 12 = .ok (.iconst 0, 1) := by decide +kernel
theorem dX12_binaryOf__13 : decode cX12_binaryOf_ 13 = .ok (.putfield 299, 3) := by decide +kernel
theorem dX12_binaryOf__16 : decode cX12_binaryOf_ 16 = .ok (.aload_n 0, 1) := by decide +kernel
theorem dX12_binaryOf__17 : decode cX12_binaryOf_ 17 = .ok (.iload_n 2, 1) := by decide +kernel
theorem dX12_binaryOf__18 : decode cX12_binaryOf_ 18 = .ok (.iload_n 3, 1) := by decide +kernel
theorem dX12_binaryOf__19 : decode cX12_binaryOf_ 19 = .ok (.invokevirtual 800, 3) := by decide +kernel
theorem dX12_binaryOf__22 : decode cX12_binaryOf_ 22 = .ok (.aload_n 0, 1) := by decide +kernel
theorem dX12_binaryOf__23 : decode cX12_binaryOf_ 23 = .ok (.iload 4, 2) := by decide +kernel
theorem dX12_binaryOf__25 : decode cX12_binaryOf_ 25 = .ok (.iload 5, 2) := by decide +kernel
theorem dX12_binaryOf__27 : decode cX12_binaryOf_ 27 = .ok (.invokevirtual 800, 3) := by decide +kernel
theorem dX12_binaryOf__30 : decode cX12_binaryOf_ 30 = .ok (.return_, 1) := by decide +kernel
theorem dX12_binaryOf__31 : decode cX12_binaryOf_ 31 = .ok (.iload_n 1, 1) := by decide +kernel
theorem dX12_binaryOf__32 : decode cX12_binaryOf_ 32 = .ok (.bipush 11, 2) := by decide +kernel
theorem dX12_binaryOf__34 : decode cX12_binaryOf_ 34 = .ok (.if_icmp .lt 102, 3) := by decide +kernel
theorem dX12_binaryOf__37 : decode cX12_binaryOf_ 37 = .ok (.iload_n 1, 1) := by decide +kernel
theorem dX12_binaryOf__38 : decode cX12_binaryOf_ 38 = .ok (.bipush 13, 2) := by decide +kernel
theorem dX12_binaryOf__40 : decode cX12_binaryOf_ 40 = .ok (.if_icmp .ge 39, 3) := by decide +kernel
theorem dX12_binaryOf__43 : decode cX12_binaryOf_ 43 = .ok (.aload_n 0, 1) := by decide +kernel
theorem dX12_binaryOf__44 : decode cX12_binaryOf_ 44 = .ok (.aload_n 0, 1) := by decide +kernel
theorem dX12_binaryOf__45 : decode cX12_binaryOf_ 45 = .ok (.iload_n 2, 1) := by decide +kernel
theorem dX12_binaryOf__46 : decode cX12_binaryOf_ 46 = .ok (.iload_n 3, 1) := by decide +kernel
theorem dX12_binaryOf__47 : decode cX12_binaryOf_ 47 = .ok (.iload 4, 2) := by decide +kernel
theorem dX12_binaryOf__49 : decode cX12_binaryOf_ 49 = .ok (.iload 5, 2) := by decide +kernel
theorem dX12_binaryOf__51 : decode cX12_binaryOf_ 51 = .ok (.invokevirtual 834, 3) := by decide +kernel
theorem dX12_binaryOf__54 : decode cX12_binaryOf_ 54 = .ok (.iload_n 1, 1) := by decide +kernel
theorem dX12_binaryOf__55 : decode cX12_binaryOf_ 55 = .ok (.bipush 11, 2) := by decide +kernel
theorem dX12_binaryOf__57 : decode cX12_binaryOf_ 57 = .ok (.if_icmp .ne 7, 3) := by decide +kernel
theorem dX12_binaryOf__60 : decode cX12_binaryOf_ 60 = .ok (.iconst 1, 1) := by decide +kernel
theorem dX12_binaryOf__61 : decode cX12_binaryOf_ 61 = .ok (.goto 4, 3) := by decide +kernel
theorem dX12_binaryOf__64 : decode cX12_binaryOf_ 64 = .ok (.iconst 0, 1) := by decide +kernel
theorem dX12_binaryOf__65 : decode cX12_binaryOf_ 65 = .ok (.if_icmp .ne 7, 3) := by decide +kernel
theorem dX12_binaryOf__68 : decode cX12_binaryOf_ 68 = .ok (.iconst 1, 1) := by decide +kernel
theorem dX12_binaryOf__69 : decode cX12_binaryOf_ 69 = .ok (.goto 4, 3) := by decide +kernel
theorem dX12_binaryOf__72 : decode cX12_binaryOf_ 72 = .ok (.iconst 0, 1) := by decide +kernel
theorem dX12_binaryOf__73 : decode cX12_binaryOf_ 73 = .ok (.invokevirtual 827, 3) := by decide +kernel
theorem dX12_binaryOf__76 : decode cX12_binaryOf_ 76 = .ok (.goto 59, 3) := by decide +kernel
theorem dX12_binaryOf__79 : decode cX12_binaryOf_ 79 = .ok (.iload_n 1, 1) := by decide +kernel
theorem dX12_binaryOf__80 : decode cX12_binaryOf_ 80 = .ok (.bipush 15, 2) := by decide +kernel
theorem dX12_binaryOf__82 : decode cX12_binaryOf_ 82 = .ok (.if_icmp .ge 38, 3) := by decide +kernel
theorem dX12_binaryOf__85 : decode cX12_binaryOf_ 85 = .ok (.aload_n 0, 1) := by decide +kernel
theorem dX12_binaryOf__86 : decode cX12_binaryOf_ 86 = .ok (.iload_n 2, 1) := by decide +kernel
theorem dX12_binaryOf__87 : decode cX12_binaryOf_ 87 = .ok (.iload_n 3, 1) := by decide +kernel
theorem dX12_binaryOf__88 : decode cX12_binaryOf_ 88 = .ok (.iload 4, 2) := by decide +kernel
theorem dX12_binaryOf__90 : decode cX12_binaryOf_ 90 = .ok (.iload 5, 2) := by decide +kernel
theorem dX12_binaryOf__92 : decode cX12_binaryOf_ 92 = .ok (.invokestatic 812, 3) := by decide +kernel
theorem dX12_binaryOf__95 : decode cX12_binaryOf_ 95 = .ok (.iload_n 1, 1) := by decide +kernel
theorem dX12_binaryOf__96 : decode cX12_binaryOf_ 96 = .ok (.bipush 13, 2) := by decide +kernel
theorem dX12_binaryOf__98 : decode cX12_binaryOf_ 98 = .ok (.if_icmp .ne 7, 3) := by decide +kernel
theorem dX12_binaryOf__101 : decode cX12_binaryOf_ 101 = .ok (.iconst 1, 1) := by decide +kernel
theorem dX12_binaryOf__102 : decode cX12_binaryOf_ 102 = .ok (.goto 4, 3) := by decide +kernel
theorem dX12_binaryOf__105 : decode cX12_binaryOf_ 105 = .ok (.iconst 0, 1) := by decide +kernel
theorem dX12_binaryOf__106 : decode cX12_binaryOf_ 106 = .ok (.if_icmp .ne 7, 3) := by decide +kernel
theorem dX12_binaryOf__109 : decode cX12_binaryOf_ 109 = .ok (.iconst 1, 1) := by decide +kernel
theorem dX12_binaryOf__110 : decode cX12_binaryOf_ 110 = .ok (.goto 4, 3) := by decide +kernel
theorem dX12_binaryOf__113 : decode cX12_binaryOf_ 113 = .ok (.iconst 0, 1) := by decide +kernel
theorem dX12_binaryOf__114 : decode cX12_binaryOf_ 114 = .ok (.invokevirtual 827, 3) := by decide +kernel
theorem dX12_binaryOf__117 : decode cX12_binaryOf_ 117 = .ok (.goto 18, 3) := by decide +kernel
theorem dX12_binaryOf__120 : decode cX12_binaryOf_ 120 = .ok (.aload_n 0, 1) := by decide +kernel
theorem dX12_binaryOf__121 : decode cX12_binaryOf_ 121 = .ok (.aload_n 0, 1) := by decide +kernel
theorem dX12_binaryOf__122 : decode cX12_binaryOf_ 122 = .ok (.iload_n 1, 1) := by decide +kernel
theorem dX12_binaryOf__123 : decode cX12_binaryOf_ 123 = .ok (.iload_n 2, 1) := by decide +kernel
theorem dX12_binaryOf__124 : decode cX12_binaryOf_ 124 = .ok (.iload_n 3, 1) := by decide +kernel
theorem dX12_binaryOf__125 : decode cX12_binaryOf_ 125 = .ok (.iload 4, 2) := by decide +kernel
theorem dX12_binaryOf__127 : decode cX12_binaryOf_ 127 = .ok (.iload 5, 2) := by decide +kernel
theorem dX12_binaryOf__129 : decode cX12_binaryOf_ 129 = .ok (.invokevirtual 837, 3) := by decide +kernel
theorem dX12_binaryOf__132 : decode cX12_binaryOf_ 132 = .ok (.invokevirtual 827, 3) := by decide +kernel
theorem dX12_binaryOf__135 : decode cX12_binaryOf_ 135 = .ok (.return_, 1) := by decide +kernel
theorem dX12_binaryOf__136 : decode cX12_binaryOf_ 136 = .ok (.aload_n 0, 1) := by decide +kernel
theorem dX12_binaryOf__137 : decode cX12_binaryOf_ 137 = .ok (.iload_n 2, 1) := by decide +kernel
theorem dX12_binaryOf__138 : decode cX12_binaryOf_ 138 = .ok (.iload_n 3, 1) := by decide +kernel
theorem dX12_binaryOf__139 : decode cX12_binaryOf_ 139 = .ok (.invokevirtual 816, 3) := by decide +kernel
theorem dX12_binaryOf__142 : decode cX12_binaryOf_ 142 = .ok (.istore 6, 2) := by decide +kernel
theorem dX12_binaryOf__144 : decode cX12_binaryOf_ 144 = .ok (.aload_n 0, 1) := by decide +kernel
theorem dX12_binaryOf__145 : decode cX12_binaryOf_ 145 = .ok (.getfield 806, 3) := by decide +kernel
theorem dX12_binaryOf__148 : decode cX12_binaryOf_ 148 = .ok (.istore 7, 2) := by decide +kernel
theorem dX12_binaryOf__150 : decode cX12_binaryOf_ 150 = .ok (.aload_n 0, 1) := by decide +kernel
theorem dX12_binaryOf__151 : decode cX12_binaryOf_ 151 = .ok (.iload 4, 2) := by decide +kernel
theorem dX12_binaryOf__153 : decode cX12_binaryOf_ 153 = .ok (.iload 5, 2) := by decide +kernel
theorem dX12_binaryOf__155 : decode cX12_binaryOf_ 155 = .ok (.invokevirtual 816, 3) := by decide +kernel
theorem dX12_binaryOf__158 : decode cX12_binaryOf_ 158 = .ok (.istore 8, 2) := by decide +kernel
theorem dX12_binaryOf__160 : decode cX12_binaryOf_ 160 = .ok (.iload 7, 2) := by decide +kernel
theorem dX12_binaryOf__162 : decode cX12_binaryOf_ 162 = .ok (.ifCond .eq 14, 3) := by decide +kernel
theorem dX12_binaryOf__165 : decode cX12_binaryOf_ 165 = .ok (.aload_n 0, 1) := by decide +kernel
theorem dX12_binaryOf__166 : decode cX12_binaryOf_ 166 = .ok (.getfield 806, 3) := by decide +kernel
theorem dX12_binaryOf__169 : decode cX12_binaryOf_ 169 = .ok (.ifCond .eq 7, 3) := by decide +kernel
theorem dX12_binaryOf__172 : decode cX12_binaryOf_ 172 = .ok (.iconst 1, 1) := by decide +kernel
theorem dX12_binaryOf__173 : decode cX12_binaryOf_ 173 = .ok (.goto 4, 3) := by decide +kernel
theorem dX12_binaryOf__176 : decode cX12_binaryOf_ 176 = .ok (.iconst 0, 1) := by decide +kernel
theorem dX12_binaryOf__177 : decode cX12_binaryOf_ 177 = .ok (.istore 9, 2) := by decide +kernel
theorem dX12_binaryOf__179 : decode cX12_binaryOf_ 179 = .ok (.iload_n 1, 1) := by decide +kernel
theorem dX12_binaryOf__180 : decode cX12_binaryOf_ 180 = .ok (.iconst 5, 1) := by decide +kernel
theorem dX12_binaryOf__181 : decode cX12_binaryOf_ 181 = .ok (.if_icmp .lt 39, 3) := by decide +kernel
theorem dX12_binaryOf__184 : decode cX12_binaryOf_ 184 = .ok (.aload_n 0, 1) := by decide +kernel
theorem dX12_binaryOf__185 : decode cX12_binaryOf_ 185 = .ok (.iconst 5, 1) := by decide +kernel
theorem dX12_binaryOf__186 : decode cX12_binaryOf_ 186 = .ok (.iload_n 1, 1) := by decide +kernel
theorem dX12_binaryOf__187 : decode cX12_binaryOf_ 187 = .ok (.iload 7, 2) := by decide +kernel
theorem dX12_binaryOf__189 : decode cX12_binaryOf_ 189 = .ok (.ifCond .eq 8, 3) := by decide +kernel
theorem dX12_binaryOf__192 : decode cX12_binaryOf_ 192 = .ok (.iload 6, 2) := by decide +kernel
theorem dX12_binaryOf__194 : decode cX12_binaryOf_ 194 = .ok (.goto 4, 3) := by decide +kernel
theorem dX12_binaryOf__197 : decode cX12_binaryOf_ 197 = .ok (.iconst 0, 1) := by decide +kernel
theorem dX12_binaryOf__198 : decode cX12_binaryOf_ 198 = .ok (.aload_n 0, 1) := by decide +kernel
theorem dX12_binaryOf__199 : decode cX12_binaryOf_ 199 = .ok (.getfield 806, 3) := by decide +kernel
theorem dX12_binaryOf__202 : decode cX12_binaryOf_ 202 = .ok (.ifCond .eq 8, 3) := by decide +kernel
theorem dX12_binaryOf__205 : decode cX12_binaryOf_ 205 = .ok (.iload 8, 2) := by decide +kernel
theorem dX12_binaryOf__207 : decode cX12_binaryOf_ 207 = .ok (.goto 4, 3) := by decide +kernel
theorem dX12_binaryOf__210 : decode cX12_binaryOf_ 210 = .ok (.iconst 0, 1) := by decide +kernel
theorem dX12_binaryOf__211 : decode cX12_binaryOf_ 211 = .ok (.invokestatic 841, 3) := by decide +kernel
theorem dX12_binaryOf__214 : decode cX12_binaryOf_ 214 = .ok (.invokevirtual 822, 3) := by decide +kernel
theorem dX12_binaryOf__217 : decode cX12_binaryOf_ 217 = .ok (.goto 88, 3) := by decide +kernel
theorem dX12_binaryOf__220 : decode cX12_binaryOf_ 220 = .ok (.iload 9, 2) := by decide +kernel
theorem dX12_binaryOf__222 : decode cX12_binaryOf_ 222 = .ok (.ifCond .eq 13, 3) := by decide +kernel
theorem dX12_binaryOf__225 : decode cX12_binaryOf_ 225 = .ok (.iload_n 1, 1) := by decide +kernel
theorem dX12_binaryOf__226 : decode cX12_binaryOf_ 226 = .ok (.iconst 2, 1) := by decide +kernel
theorem dX12_binaryOf__227 : decode cX12_binaryOf_ 227 = .ok (.if_icmp .le 17, 3) := by decide +kernel
theorem dX12_binaryOf__230 : decode cX12_binaryOf_ 230 = .ok (.iload 8, 2) := by decide +kernel
theorem dX12_binaryOf__232 : decode cX12_binaryOf_ 232 = .ok (.ifCond .ne 12, 3) := by decide +kernel
theorem dX12_binaryOf__235 : decode cX12_binaryOf_ 235 = .ok (.aload_n 0, 1) := by decide +kernel
theorem dX12_binaryOf__236 : decode cX12_binaryOf_ 236 = .ok (.iconst 4, 1) := by decide +kernel
theorem dX12_binaryOf__237 : decode cX12_binaryOf_ 237 = .ok (.iconst 0, 1) := by decide +kernel
theorem dX12_binaryOf__238 : decode cX12_binaryOf_ 238 = .ok (.invokevirtual 822, 3) := by decide +kernel
theorem dX12_binaryOf__241 : decode cX12_binaryOf_ 241 = .ok (.goto 64, 3) := by decide +kernel
theorem dX12_binaryOf__244 : decode cX12_binaryOf_ 244 = .ok (.aload_n 0, 1) := by decide +kernel
theorem dX12_binaryOf__245 : decode cX12_binaryOf_ 245 = .ok (.iconst 5, 1) := by decide +kernel
theorem dX12_binaryOf__246 : decode cX12_binaryOf_ 246 = .ok (.iload_n 1, 1) := by decide +kernel
theorem dX12_binaryOf__247 : decode cX12_binaryOf_ 247 = .ok (.ifCond .ne 11, 3) := by decide +kernel
theorem dX12_binaryOf__250 : decode cX12_binaryOf_ 250 = .ok (.iload 6, 2) := by decide +kernel
theorem dX12_binaryOf__252 : decode cX12_binaryOf_ 252 = .ok (.iload 8, 2) := by decide +kernel
theorem dX12_binaryOf__254 : decode cX12_binaryOf_ 254 = .ok (.iadd, 1) := by decide +kernel
theorem dX12_binaryOf__255 : decode cX12_binaryOf_ 255 = .ok (.goto 47, 3) := by decide +kernel
theorem dX12_binaryOf__258 : decode cX12_binaryOf_ 258 = .ok (.iload_n 1, 1) := by decide +kernel
theorem dX12_binaryOf__259 : decode cX12_binaryOf_ 259 = .ok (.iconst 1, 1) := by decide +kernel
theorem dX12_binaryOf__260 : decode cX12_binaryOf_ 260 = .ok (.if_icmp .ne 11, 3) := by decide +kernel
theorem dX12_binaryOf__263 : decode cX12_binaryOf_ 263 = .ok (.iload 6, 2) := by decide +kernel
theorem dX12_binaryOf__265 : decode cX12_binaryOf_ 265 = .ok (.iload 8, 2) := by decide +kernel
theorem dX12_binaryOf__267 : decode cX12_binaryOf_ 267 = .ok (.isub, 1) := by decide +kernel
theorem dX12_binaryOf__268 : decode cX12_binaryOf_ 268 = .ok (.goto 34, 3) := by decide +kernel
theorem dX12_binaryOf__271 : decode cX12_binaryOf_ 271 = .ok (.iload_n 1, 1) := by decide +kernel
theorem dX12_binaryOf__272 : decode cX12_binaryOf_ 272 = .ok (.iconst 2, 1) := by decide +kernel
theorem dX12_binaryOf__273 : decode cX12_binaryOf_ 273 = .ok (.if_icmp .ne 11, 3) := by decide +kernel
theorem dX12_binaryOf__276 : decode cX12_binaryOf_ 276 = .ok (.iload 6, 2) := by decide +kernel
theorem dX12_binaryOf__278 : decode cX12_binaryOf_ 278 = .ok (.iload 8, 2) := by decide +kernel
theorem dX12_binaryOf__280 : decode cX12_binaryOf_ 280 = .ok (.imul, 1) := by decide +kernel
theorem dX12_binaryOf__281 : decode cX12_binaryOf_ 281 = .ok (.goto 21, 3) := by decide +kernel
theorem dX12_binaryOf__284 : decode cX12_binaryOf_ 284 = .ok (.iload_n 1, 1) := by decide +kernel
theorem dX12_binaryOf__285 : decode cX12_binaryOf_ 285 = .ok (.iconst 3, 1) := by decide +kernel
theorem dX12_binaryOf__286 : decode cX12_binaryOf_ 286 = .ok (.if_icmp .ne 11, 3) := by decide +kernel
theorem dX12_binaryOf__289 : decode cX12_binaryOf_ 289 = .ok (.iload 6, 2) := by decide +kernel
theorem dX12_binaryOf__291 : decode cX12_binaryOf_ 291 = .ok (.iload 8, 2) := by decide +kernel
theorem dX12_binaryOf__293 : decode cX12_binaryOf_ 293 = .ok (.idiv, 1) := by decide +kernel
theorem dX12_binaryOf__294 : decode cX12_binaryOf_ 294 = .ok (.goto 8, 3) := by decide +kernel
theorem dX12_binaryOf__297 : decode cX12_binaryOf_ 297 = .ok (.iload 6, 2) := by decide +kernel
theorem dX12_binaryOf__299 : decode cX12_binaryOf_ 299 = .ok (.iload 8, 2) := by decide +kernel
theorem dX12_binaryOf__301 : decode cX12_binaryOf_ 301 = .ok (.irem, 1) := by decide +kernel
theorem dX12_binaryOf__302 : decode cX12_binaryOf_ 302 = .ok (.invokevirtual 822, 3) := by decide +kernel
theorem dX12_binaryOf__305 : decode cX12_binaryOf_ 305 = .ok (.return_, 1) := by decide +kernel
theorem dX12_indexOf_0 : decode cX12_indexOf 0 = .ok (.aload_n 0, 1) := by decide +kernel
theorem dX12_indexOf_1 : decode cX12_indexOf 1 = .ok (.getfield 20, 3) := by decide +kernel
theorem dX12_indexOf_4 : decode cX12_indexOf 4 = .ok (.iload_n 1, 1) := by decide +kernel
theorem dX12_indexOf_5 : decode cX12_indexOf 5 = .ok (.iaload, 1) := by decide +kernel
theorem dX12_indexOf_6 : decode cX12_indexOf 6 = .ok (.istore_n 2, 1) := by decide +kernel
theorem dX12_indexOf_7 : decode cX12_indexOf 7 = .ok (.iload_n 2, 1) := by decide +kernel
theorem dX12_indexOf_8 : decode cX12_indexOf 8 = .ok (.iconst 1, 1) := by decide +kernel
theorem dX12_indexOf_9 : decode cX12_indexOf 9 = .ok (.if_icmp .lt 8, 3) := by decide +kernel
theorem dX12_indexOf_12 : decode cX12_indexOf 12 = .ok (.iload_n 2, 1) := by decide +kernel
theorem dX12_indexOf_13 : decode cX12_indexOf 13 = .ok (.iconst 2, 1) := by decide +kernel
theorem dX12_indexOf_14 : decode cX12_indexOf 14 = .ok (.if_icmp .le 5, 3) := by decide +kernel
theorem dX12_indexOf_17 : decode cX12_indexOf 17 = .ok (.iconst (-1), 1) := by decide +kernel
theorem dX12_indexOf_18 : decode cX12_indexOf 18 = .ok (.ireturn, 1) := by decide +kernel
theorem dX12_indexOf_19 : decode cX12_indexOf 19 = .ok (.aload_n 0, 1) := by decide +kernel
theorem dX12_indexOf_20 : decode cX12_indexOf 20 = .ok (.getfield 16, 3) := by decide +kernel
theorem dX12_indexOf_23 : decode cX12_indexOf 23 = .ok (.bipush 60, 2) := by decide +kernel
theorem dX12_indexOf_25 : decode cX12_indexOf 25 = .ok (.iload_n 1, 1) := by decide +kernel
theorem dX12_indexOf_26 : decode cX12_indexOf 26 = .ok (.imul, 1) := by decide +kernel
theorem dX12_indexOf_27 : decode cX12_indexOf 27 = .ok (.caload, 1) := by decide +kernel
theorem dX12_indexOf_28 : decode cX12_indexOf 28 = .ok (.istore_n 3, 1) := by decide +kernel
theorem dX12_indexOf_29 : decode cX12_indexOf 29 = .ok (.iload_n 2, 1) := by decide +kernel
theorem dX12_indexOf_30 : decode cX12_indexOf 30 = .ok (.iconst 2, 1) := by decide +kernel
theorem dX12_indexOf_31 : decode cX12_indexOf 31 = .ok (.if_icmp .ne 17, 3) := by decide +kernel
theorem dX12_indexOf_34 : decode cX12_indexOf 34 = .ok (.aload_n 0, 1) := by decide +kernel
theorem dX12_indexOf_35 : decode cX12_indexOf 35 = .ok (.getfield 16, 3) := by decide +kernel
theorem dX12_indexOf_38 : decode cX12_indexOf 38 = .ok (.bipush 60, 2) := by decide +kernel
theorem dX12_indexOf_40 : decode cX12_indexOf 40 = .ok (.iload_n 1, 1) := by decide +kernel
theorem dX12_indexOf_41 : decode cX12_indexOf 41 = .ok (.imul, 1) := by decide +kernel
theorem dX12_indexOf_42 : decode cX12_indexOf 42 = .ok (.iconst 1, 1) := by decide +kernel
theorem dX12_indexOf_43 : decode cX12_indexOf 43 = .ok (.iadd, 1) := by decide +kernel
theorem dX12_indexOf_44 : decode cX12_indexOf 44 = .ok (.caload, 1) := by decide +kernel
theorem dX12_indexOf_45 : decode cX12_indexOf 45 = .ok (.goto 5, 3) := by decide +kernel
theorem dX12_indexOf_48 : decode cX12_indexOf 48 = .ok (.bipush 48, 2) := by decide +kernel
theorem dX12_indexOf_50 : decode cX12_indexOf 50 = .ok (.istore 4, 2) := by decide +kernel
theorem dX12_indexOf_52 : decode cX12_indexOf 52 = .ok (.iload_n 3, 1) := by decide +kernel
theorem dX12_indexOf_53 : decode cX12_indexOf 53 = .ok (.invokestatic 341, 3) := by decide +kernel
theorem dX12_indexOf_56 : decode cX12_indexOf 56 = .ok (.ifCond .eq 22, 3) := by decide +kernel
theorem dX12_indexOf_59 : decode cX12_indexOf 59 = .ok (.iload 4, 2) := by decide +kernel
theorem dX12_indexOf_61 : decode cX12_indexOf 61 = .ok (.invokestatic 341, 3) := by decide +kernel
theorem dX12_indexOf_64 : decode cX12_indexOf 64 = .ok (.ifCond .eq 14, 3) := by decide +kernel
theorem dX12_indexOf_67 : decode cX12_indexOf 67 = .ok (.iload_n 2, 1) := by decide +kernel
theorem dX12_indexOf_68 : decode cX12_indexOf 68 = .ok (.iconst 2, 1) := by decide +kernel
theorem dX12_indexOf_69 : decode cX12_indexOf 69 = .ok (.if_icmp .ne 11, 3) := by decide +kernel
theorem dX12_indexOf_72 : decode cX12_indexOf 72 = .ok (.iload_n 3, 1) := by decide +kernel
theorem dX12_indexOf_73 : decode cX12_indexOf 73 = .ok (.bipush 48, 2) := by decide +kernel
theorem dX12_indexOf_75 : decode cX12_indexOf 75 = .ok (.if_icmp .ne 5, 3) := by decide +kernel
theorem dX12_indexOf_78 : decode cX12_indexOf 78 = .ok (.iconst (-1), 1) := by decide +kernel
theorem dX12_indexOf_79 : decode cX12_indexOf 79 = .ok (.ireturn, 1) := by decide +kernel
theorem dX12_indexOf_80 : decode cX12_indexOf 80 = .ok (.iload_n 2, 1) := by decide +kernel
theorem dX12_indexOf_81 : decode cX12_indexOf 81 = .ok (.iconst 1, 1) := by decide +kernel
theorem dX12_indexOf_82 : decode cX12_indexOf 82 = .ok (.if_icmp .ne 10, 3) := by decide +kernel
theorem dX12_indexOf_85 : decode cX12_indexOf 85 = .ok (.iload_n 3, 1) := by decide +kernel
theorem dX12_indexOf_86 : decode cX12_indexOf 86 = .ok (.bipush 48, 2) := by decide +kernel
theorem dX12_indexOf_88 : decode cX12_indexOf 88 = .ok (.isub, 1) := by decide +kernel
theorem dX12_indexOf_89 : decode cX12_indexOf 89 = .ok (.goto 16, 3) := by decide +kernel
theorem dX12_indexOf_92 : decode cX12_indexOf 92 = .ok (.bipush 10, 2) := by decide +kernel
theorem dX12_indexOf_94 : decode cX12_indexOf 94 = .ok (.iload_n 3, 1) := by decide +kernel
theorem dX12_indexOf_95 : decode cX12_indexOf 95 = .ok (.bipush 48, 2) := by decide +kernel
theorem dX12_indexOf_97 : decode cX12_indexOf 97 = .ok (.isub, 1) := by decide +kernel
theorem dX12_indexOf_98 : decode cX12_indexOf 98 = .ok (.imul, 1) := by decide +kernel
theorem dX12_indexOf_99 : decode cX12_indexOf 99 = .ok (.iload 4, 2) := by decide +kernel
theorem dX12_indexOf_101 : decode cX12_indexOf 101 = .ok (.iadd, 1) := by decide +kernel
theorem dX12_indexOf_102 : decode cX12_indexOf 102 = .ok (.bipush 48, 2) := by decide +kernel
theorem dX12_indexOf_104 : decode cX12_indexOf 104 = .ok (.isub, 1) := by decide +kernel
theorem dX12_indexOf_105 : decode cX12_indexOf 105 = .ok (.ireturn, 1) := by decide +kernel

def q_numberOfString (p1 : Int) (S : sv_S) : Option Value → sv_S → Prop := fun v S' => ∃ r : Int, v = some (sv_I r) ∧ sv_R r ∧ sm_ok S' ∧ sv_mod [1113] S S' ∧ (True)
theorem la_numberOfString_0 {x0 : Int} (h0 : 0 ≤ x0) (h1 : x0 < 400) : 0 ≤ x0 ∧ x0 < 400 := by omega
theorem la_numberOfString_1 {x0 : Int} (h0 : x0 = 0 ∨ x0 = 1) : 0 ≤ x0 := by omega
theorem la_numberOfString_2 {x0 x1 : Int} : x0 ≤ x1 ∨ x0 = x0 := by omega
theorem la_numberOfString_3 {x0 x1 x2 : Int} (h0 : x0 = 0 ∨ x0 = 1) (h1 : x1 ≤ x2 ∨ x1 = x0) (h2 : 0 ≤ x2) : 0 ≤ x2 + 1 - x1 := by omega
theorem la_numberOfString_4 {x0 : Int} (h0 : x0 = 0) : x0 ≤ 1 := by omega
theorem la_numberOfString_5 {x0 : Int} (h0 : x0 ≤ 1) (h1 : ¬ x0 = 1) : x0 < 1 := by omega
theorem la_numberOfString_6 : (0 : Int) ≤ 1 := by omega
theorem la_numberOfString_7 (h0 : (0 : Int) ≤ 1) (h1 : ¬ (1 : Int) = 0) : (0 : Int) < 1 := by omega
theorem la_numberOfString_8 {x0 : Int} (h0 : x0 = 0) : ¬ x0 = 1 := by omega
theorem la_numberOfString_9 : (0 : Int) ≤ 0 := by omega
theorem la_numberOfString_10 (h0 : (0 : Int) ≤ 0) (h1 : ¬ (0 : Int) = 0) : (0 : Int) < 0 := by omega
theorem la_numberOfString_11 {x0 : Int} (h0 : (0 : Int) < 0) : sv_R x0 := by omega
theorem la_numberOfString_12 {x0 : Int} (h0 : x0 = 1) : 0 ≤ x0 := by omega
theorem la_numberOfString_13 {x0 : Int} (h0 : 0 ≤ x0) (h1 : ¬ x0 = 0) : 0 < x0 := by omega
theorem la_numberOfString_14 {x0 x1 : Int} (h0 : (0 : Int) < 0) : x0 ≤ x1 := by omega
theorem la_numberOfString_15 {x0 x1 : Int} (h0 : x0 ≤ x1) (h1 : ¬ x0 = x1) : x0 < x1 := by omega
theorem la_numberOfString_16 {x0 x1 : Int} (h0 : sv_R x0) (h1 : ¬ ¬ x1 = x0) : sv_R x1 := by omega
theorem la_numberOfString_17 {x0 x1 : Int} (h0 : sv_R x0) (h1 : ¬ ¬ x1 = x0) (h2 : x0 = x1) : sv_R x1 := by omega
theorem la_numberOfString_18 {x0 : Int} (h0 : ¬ ¬ x0 = 1) : ¬ x0 = 0 := by omega
theorem la_numberOfString_19 {x0 x1 : Int} (h0 : 1 ≤ x0) (h1 : x0 = 0) : ¬ x1 ≤ x0 := by omega
theorem la_numberOfString_20 {x0 : Int} (h0 : 1 ≤ x0) : 0 ≤ x0 := by omega
theorem la_numberOfString_21 {x0 x1 : Int} (h0 : ¬ x0 ≤ x1) : x1 ≤ x0 := by omega
theorem la_numberOfString_22 {x0 x1 : Int} (h0 : 0 ≤ x0) (h1 : ¬ x1 ≤ x0) : 0 ≤ x1 := by omega
theorem la_numberOfString_23 {x0 : Int} (h0 : x0 = 0) : x0 ≤ 0 := by omega
theorem la_numberOfString_24 {x0 : Int} (h0 : x0 ≤ 0) (h1 : ¬ x0 = 0) : x0 < 0 := by omega
theorem la_numberOfString_25 {x0 x1 : Int} (h0 : 0 ≤ x0) (h1 : 0 ≤ x1) : 0 ≤ 60 * x0 + x1 := by omega
theorem la_numberOfString_26 {x0 x1 x2 : Int} (h0 : ¬ x0 ≤ x1) (h1 : 60 * x2 + x0 ≤ 24000) : 60 * x2 + x1 < 24000 := by omega
theorem la_numberOfString_27 {x0 x1 : Int} (h0 : sv_R x0) (h1 : 0 ≤ x1) (h2 : ¬ x0 ≤ x1) : sv_R (x1 + 1) := by omega
theorem la_numberOfString_28 {x0 x1 x2 x3 x4 : Int} (h0 : 0 ≤ x0) (h1 : ¬ x1 ≤ x0) (h2 : x2 = x3) (h3 : 0 ≤ x2) (h4 : x2 ≤ 1) : 0 ≤ x0 + 1 ∧ (x0 + 1 ≤ x1 ∨ x0 + 1 = x4) ∧ (x3 = 0 ∨ x3 = 1) := by omega
theorem la_numberOfString_29 {x0 x1 : Int} : x0 + 1 - (x1 + 1) < x0 + 1 - x1 := by omega
theorem la_numberOfString_30 {x0 x1 : Int} (h0 : sv_R x0) (h1 : x0 = 0 ∨ x0 = 1) (h2 : 0 ≤ x1) (h3 : x1 ≤ 90) : sv_R (x1 - x0) := by omega
theorem la_numberOfString_31 {x0 x1 : Int} : x0 - x1 < 1 → (0 : Int) = 0 ∨ (0 : Int) = 1 := by omega
theorem la_numberOfString_32 {x0 x1 : Int} : 10 < x0 - x1 → (0 : Int) = 0 ∨ (0 : Int) = 1 := by omega
theorem la_numberOfString_33 : (1 : Int) = 0 ∨ (1 : Int) = 1 := by omega
theorem la_numberOfString_34 {x0 : Int} : x0 ≤ 0 → ((0 : Int) = 0 ∨ (0 : Int) = 1) ∧ ((0 : Int) = 1 → 1 ≤ x0) := by omega
theorem la_numberOfString_35 {x0 : Int} (h0 : 0 ≤ x0) (h1 : x0 < 400) : 0 ≤ 60 * x0 ∧ 60 * x0 < 24000 := by omega
theorem la_numberOfString_36 {x0 x1 : Int} : ¬ x0 = 45 → ((0 : Int) = 0 ∨ (0 : Int) = 1) ∧ ((0 : Int) = 1 → 1 ≤ x1) := by omega
theorem la_numberOfString_37 {x0 : Int} (h0 : ¬ x0 ≤ 0) : 1 ≤ x0 := by omega
set_option maxHeartbeats 2000000 in
theorem f_numberOfString : ∀ (p1 : Int) (S : sv_S), sm_ok S → sv_R p1 → (31 ≤ (S 1007 0) ∧ (S 1007 0) ≤ 400 ∧ sm_LN (S 4) 400 (S 1007 0) ∧ 0 ≤ p1 ∧ p1 < 400) → (0 ≤ p1 ∧ p1 < 400) ∧ (sv_R (S 4 p1) → ((∀ s3 : Int, sv_R s3 → ((s3 = 0 ∨ s3 = 1) ∧ (s3 = 1 → 1 ≤ (S 4 p1))) → ((∀ s5 : Int, sv_R s5 → (s5 = 0 ∨ s5 = 1) → ((0 ≤ s3 ∧ (s3 ≤ (S 4 p1) ∨ s3 = s3) ∧ (s5 = 0 ∨ s5 = 1)) ∧ (∀ l4_7 : Int, sv_R l4_7 → ∀ l5_8 : Int, sv_RL l5_8 → ∀ l7_9 : Int, sv_R l7_9 → (0 ≤ l7_9 ∧ (l7_9 ≤ (S 4 p1) ∨ l7_9 = s3) ∧ (l4_7 = 0 ∨ l4_7 = 1)) → (0 ≤ (S 4 p1) + 1 - l7_9) ∧ ((((S 4 p1) ≤ l7_9) → (((¬ s3 = (1 : Int)) → ((((S 4 p1) = (0 : Int)) → ((((1 : Int) = (0 : Int)) → (True)) ∧ ((¬ ((1 : Int) = (0 : Int))) → (∀ r15 : Int, sv_R r15 → (sv_R l5_8 → r15 = l5_8) → (True))))) ∧ ((¬ ((S 4 p1) = (0 : Int))) → (((l4_7 = (0 : Int)) → ((((0 : Int) = (0 : Int)) → (True)) ∧ ((¬ ((0 : Int) = (0 : Int))) → (∀ r18 : Int, sv_R r18 → (sv_R l5_8 → r18 = l5_8) → (True))))) ∧ ((¬ (l4_7 = (0 : Int))) → (∀ r19 : Int, sv_R r19 → (sv_R l5_8 → r19 = l5_8) → (((¬ l5_8 = r19) → ((((0 : Int) = (0 : Int)) → (True)) ∧ ((¬ ((0 : Int) = (0 : Int))) → (∀ r22 : Int, sv_R r22 → (sv_R l5_8 → r22 = l5_8) → (True))))) ∧ ((¬ (¬ l5_8 = r19)) → ((((1 : Int) = (0 : Int)) → (True)) ∧ ((¬ ((1 : Int) = (0 : Int))) → (∀ r25 : Int, sv_R r25 → (sv_R l5_8 → r25 = l5_8) → (True)))))))))))) ∧ ((¬ (¬ s3 = (1 : Int))) → (∀ r26 : Int, sv_RL r26 → ((((S 4 p1) = (0 : Int)) → ((((1 : Int) = (0 : Int)) → (True)) ∧ ((¬ ((1 : Int) = (0 : Int))) → (∀ r29 : Int, sv_R r29 → (sv_R r26 → r29 = r26) → (True))))) ∧ ((¬ ((S 4 p1) = (0 : Int))) → (((l4_7 = (0 : Int)) → ((((0 : Int) = (0 : Int)) → (True)) ∧ ((¬ ((0 : Int) = (0 : Int))) → (∀ r32 : Int, sv_R r32 → (sv_R r26 → r32 = r26) → (True))))) ∧ ((¬ (l4_7 = (0 : Int))) → (∀ r33 : Int, sv_R r33 → (sv_R r26 → r33 = r26) → (((¬ r26 = r33) → ((((0 : Int) = (0 : Int)) → (True)) ∧ ((¬ ((0 : Int) = (0 : Int))) → (∀ r36 : Int, sv_R r36 → (sv_R r26 → r36 = r26) → (True))))) ∧ ((¬ (¬ r26 = r33)) → ((((1 : Int) = (0 : Int)) → (True)) ∧ ((¬ ((1 : Int) = (0 : Int))) → (∀ r39 : Int, sv_R r39 → (sv_R r26 → r39 = r26) → (True))))))))))))))) ∧ ((¬ ((S 4 p1) ≤ l7_9)) → (((l4_7 = (0 : Int)) → (((¬ s3 = (1 : Int)) → ((((S 4 p1) = (0 : Int)) → ((((1 : Int) = (0 : Int)) → (True)) ∧ ((¬ ((1 : Int) = (0 : Int))) → (∀ r42 : Int, sv_R r42 → (sv_R l5_8 → r42 = l5_8) → (True))))) ∧ ((¬ ((S 4 p1) = (0 : Int))) → (((l4_7 = (0 : Int)) → ((((0 : Int) = (0 : Int)) → (True)) ∧ ((¬ ((0 : Int) = (0 : Int))) → (∀ r45 : Int, sv_R r45 → (sv_R l5_8 → r45 = l5_8) → (True))))) ∧ ((¬ (l4_7 = (0 : Int))) → (∀ r46 : Int, sv_R r46 → (sv_R l5_8 → r46 = l5_8) → (((¬ l5_8 = r46) → ((((0 : Int) = (0 : Int)) → (True)) ∧ ((¬ ((0 : Int) = (0 : Int))) → (∀ r49 : Int, sv_R r49 → (sv_R l5_8 → r49 = l5_8) → (True))))) ∧ ((¬ (¬ l5_8 = r46)) → ((((1 : Int) = (0 : Int)) → (True)) ∧ ((¬ ((1 : Int) = (0 : Int))) → (∀ r52 : Int, sv_R r52 → (sv_R l5_8 → r52 = l5_8) → (True)))))))))))) ∧ ((¬ (¬ s3 = (1 : Int))) → (∀ r53 : Int, sv_RL r53 → ((((S 4 p1) = (0 : Int)) → ((((1 : Int) = (0 : Int)) → (True)) ∧ ((¬ ((1 : Int) = (0 : Int))) → (∀ r56 : Int, sv_R r56 → (sv_R r53 → r56 = r53) → (True))))) ∧ ((¬ ((S 4 p1) = (0 : Int))) → (((l4_7 = (0 : Int)) → ((((0 : Int) = (0 : Int)) → (True)) ∧ ((¬ ((0 : Int) = (0 : Int))) → (∀ r59 : Int, sv_R r59 → (sv_R r53 → r59 = r53) → (True))))) ∧ ((¬ (l4_7 = (0 : Int))) → (∀ r60 : Int, sv_R r60 → (sv_R r53 → r60 = r53) → (((¬ r53 = r60) → ((((0 : Int) = (0 : Int)) → (True)) ∧ ((¬ ((0 : Int) = (0 : Int))) → (∀ r63 : Int, sv_R r63 → (sv_R r53 → r63 = r53) → (True))))) ∧ ((¬ (¬ r53 = r60)) → ((((1 : Int) = (0 : Int)) → (True)) ∧ ((¬ ((1 : Int) = (0 : Int))) → (∀ r66 : Int, sv_R r66 → (sv_R r53 → r66 = r53) → (True))))))))))))))) ∧ ((¬ (l4_7 = (0 : Int))) → (0 ≤ (((60 : Int) * p1) + l7_9) ∧ (((60 : Int) * p1) + l7_9) < 24000) ∧ ((0 ≤ (S 3 (((60 : Int) * p1) + l7_9)) ∧ (S 3 (((60 : Int) * p1) + l7_9)) ≤ 65535) → (∀ x69 : Int, (if ((S 3 (((60 : Int) * p1) + l7_9)) ≥ 48 ∧ (S 3 (((60 : Int) * p1) + l7_9)) ≤ 57) then 1 else 0) = x69 → (∀ r71 : Int, sv_RL r71 → (∀ r72 : Int, sv_RL r72 → (∀ r73 : Int, sv_RL r73 → (sv_R (l7_9 + (1 : Int))) ∧ ((0 ≤ (l7_9 + (1 : Int)) ∧ ((l7_9 + (1 : Int)) ≤ (S 4 p1) ∨ (l7_9 + (1 : Int)) = s3) ∧ (x69 = 0 ∨ x69 = 1)) ∧ ((S 4 p1) + 1 - (l7_9 + (1 : Int))) < ((S 4 p1) + 1 - l7_9)))))))))))))) ∧ (sv_R ((S 4 p1) - s3)) ∧ (((((S 4 p1) - s3) < (1 : Int)) → ((0 : Int) = 0 ∨ (0 : Int) = 1)) ∧ ((¬ (((S 4 p1) - s3) < (1 : Int))) → ((((10 : Int) < ((S 4 p1) - s3)) → ((0 : Int) = 0 ∨ (0 : Int) = 1)) ∧ ((¬ ((10 : Int) < ((S 4 p1) - s3))) → ((1 : Int) = 0 ∨ (1 : Int) = 1))))))) ∧ ((((S 4 p1) ≤ (0 : Int)) → (((0 : Int) = 0 ∨ (0 : Int) = 1) ∧ ((0 : Int) = 1 → 1 ≤ (S 4 p1)))) ∧ ((¬ ((S 4 p1) ≤ (0 : Int))) → (0 ≤ ((60 : Int) * p1) ∧ ((60 : Int) * p1) < 24000) ∧ ((0 ≤ (S 3 ((60 : Int) * p1)) ∧ (S 3 ((60 : Int) * p1)) ≤ 65535) → (((¬ (S 3 ((60 : Int) * p1)) = (45 : Int)) → (((0 : Int) = 0 ∨ (0 : Int) = 1) ∧ ((0 : Int) = 1 → 1 ≤ (S 4 p1)))) ∧ ((¬ (¬ (S 3 ((60 : Int) * p1)) = (45 : Int))) → (((1 : Int) = 0 ∨ (1 : Int) = 1) ∧ ((1 : Int) = 1 → 1 ≤ (S 4 p1)))))))))) := by
  intro p1
  intro S
  intro h1_
  intro h2_
  rintro ⟨h3_, ⟨h4_, ⟨h5_, ⟨h6_, h7_⟩⟩⟩⟩
  refine ⟨(la_numberOfString_0 h6_ h7_), ?_⟩
  intro h8_
  refine ⟨?_, ?_⟩
  · skip
    intro s3
    intro h9_
    rintro ⟨h10_, h11_⟩
    refine ⟨?_, ?_⟩
    · skip
      intro s5
      intro h12_
      intro h13_
      refine ⟨?_, ?_⟩
      · skip
        refine ⟨?_, ?_⟩
        · skip
          exact (la_numberOfString_1 h10_)
        refine ⟨la_numberOfString_2, ?_⟩
        exact h13_
      intro l4_7
      intro h14_
      intro l5_8
      intro h15_
      intro l7_9
      intro h16_
      rintro ⟨h17_, ⟨h18_, h19_⟩⟩
      refine ⟨?_, ?_⟩
      · skip
        exact (la_numberOfString_3 h10_ h18_ (sm_LN_at h5_ p1 h6_ h7_).1)
      refine ⟨?_, ?_⟩
      · skip
        intro h20_
        refine ⟨?_, ?_⟩
        · skip
          intro h21_
          have h22_ := (h10_.resolve_right h21_)
          refine ⟨?_, ?_⟩
          · skip
            intro h23_
            refine ⟨?_, ?_⟩
            · skip
              intro h24_
              exact trivial
            intro h25_
            intro r15
            intro h26_
            intro h27_
            exact trivial
          intro h28_
          refine ⟨?_, ?_⟩
          · skip
            intro h29_
            have h30_ := (h19_.resolve_right (la_numberOfString_8 h29_))
            refine ⟨?_, ?_⟩
            · skip
              intro h31_
              exact trivial
            intro h32_
            intro r18
            intro h33_
            intro h34_
            have h35_ := (h34_ (la_numberOfString_11 (la_numberOfString_10 la_numberOfString_9 h32_)))
            exact trivial
          intro h36_
          have h37_ := (h19_.resolve_left h36_)
          intro r19
          intro h38_
          intro h39_
          refine ⟨?_, ?_⟩
          · skip
            intro h40_
            refine ⟨?_, ?_⟩
            · skip
              intro h41_
              exact trivial
            intro h42_
            intro r22
            intro h43_
            intro h44_
            have h45_ := (h39_ (la_numberOfString_11 (la_numberOfString_10 la_numberOfString_9 h42_)))
            have h46_ := (h44_ (la_numberOfString_11 (la_numberOfString_10 la_numberOfString_9 h42_)))
            exact trivial
          intro h47_
          have h48_ := (h39_ (la_numberOfString_16 h38_ h47_))
          refine ⟨?_, ?_⟩
          · skip
            intro h49_
            exact trivial
          intro h50_
          intro r25
          intro h51_
          intro h52_
          have h53_ := (h52_ (la_numberOfString_17 h38_ h47_ h48_))
          exact trivial
        intro h54_
        have h55_ := (h10_.resolve_left (la_numberOfString_18 h54_))
        have h56_ := (h11_ h55_)
        intro r26
        intro h57_
        refine ⟨?_, ?_⟩
        · skip
          intro h58_
          have h59_ := (h18_.resolve_left (la_numberOfString_19 h56_ h58_))
          refine ⟨?_, ?_⟩
          · skip
            intro h60_
            exact trivial
          intro h61_
          intro r29
          intro h62_
          intro h63_
          exact trivial
        intro h64_
        refine ⟨?_, ?_⟩
        · skip
          intro h65_
          have h66_ := (h19_.resolve_right (la_numberOfString_8 h65_))
          refine ⟨?_, ?_⟩
          · skip
            intro h67_
            exact trivial
          intro h68_
          intro r32
          intro h69_
          intro h70_
          have h71_ := (h70_ (la_numberOfString_11 (la_numberOfString_10 la_numberOfString_9 h68_)))
          exact trivial
        intro h72_
        have h73_ := (h19_.resolve_left h72_)
        intro r33
        intro h74_
        intro h75_
        refine ⟨?_, ?_⟩
        · skip
          intro h76_
          refine ⟨?_, ?_⟩
          · skip
            intro h77_
            exact trivial
          intro h78_
          intro r36
          intro h79_
          intro h80_
          have h81_ := (h75_ (la_numberOfString_11 (la_numberOfString_10 la_numberOfString_9 h78_)))
          have h82_ := (h80_ (la_numberOfString_11 (la_numberOfString_10 la_numberOfString_9 h78_)))
          exact trivial
        intro h83_
        have h84_ := (h75_ (la_numberOfString_16 h74_ h83_))
        refine ⟨?_, ?_⟩
        · skip
          intro h85_
          exact trivial
        intro h86_
        intro r39
        intro h87_
        intro h88_
        have h89_ := (h88_ (la_numberOfString_17 h74_ h83_ h84_))
        exact trivial
      intro h90_
      refine ⟨?_, ?_⟩
      · skip
        intro h91_
        have h92_ := (h19_.resolve_right (la_numberOfString_8 h91_))
        refine ⟨?_, ?_⟩
        · skip
          intro h93_
          have h94_ := (h10_.resolve_right h93_)
          refine ⟨?_, ?_⟩
          · skip
            intro h95_
            refine ⟨?_, ?_⟩
            · skip
              intro h96_
              exact trivial
            intro h97_
            intro r42
            intro h98_
            intro h99_
            exact trivial
          intro h100_
          refine ⟨?_, ?_⟩
          · skip
            intro h101_
            refine ⟨?_, ?_⟩
            · skip
              intro h102_
              exact trivial
            intro h103_
            intro r45
            intro h104_
            intro h105_
            have h106_ := (h105_ (la_numberOfString_11 (la_numberOfString_10 la_numberOfString_9 h103_)))
            exact trivial
          intro h107_
          intro r46
          intro h108_
          intro h109_
          refine ⟨?_, ?_⟩
          · skip
            intro h110_
            refine ⟨?_, ?_⟩
            · skip
              intro h111_
              exact trivial
            intro h112_
            intro r49
            intro h113_
            intro h114_
            have h115_ := (h109_ (la_numberOfString_11 (la_numberOfString_10 la_numberOfString_9 h112_)))
            have h116_ := (h114_ (la_numberOfString_11 (la_numberOfString_10 la_numberOfString_9 h112_)))
            exact trivial
          intro h117_
          have h118_ := (h109_ (la_numberOfString_16 h108_ h117_))
          refine ⟨?_, ?_⟩
          · skip
            intro h119_
            exact trivial
          intro h120_
          intro r52
          intro h121_
          intro h122_
          have h123_ := (h122_ (la_numberOfString_17 h108_ h117_ h118_))
          exact trivial
        intro h124_
        have h125_ := (h10_.resolve_left (la_numberOfString_18 h124_))
        have h126_ := (h11_ h125_)
        intro r53
        intro h127_
        refine ⟨?_, ?_⟩
        · skip
          intro h128_
          refine ⟨?_, ?_⟩
          · skip
            intro h129_
            exact trivial
          intro h130_
          intro r56
          intro h131_
          intro h132_
          exact trivial
        intro h133_
        refine ⟨?_, ?_⟩
        · skip
          intro h134_
          refine ⟨?_, ?_⟩
          · skip
            intro h135_
            exact trivial
          intro h136_
          intro r59
          intro h137_
          intro h138_
          have h139_ := (h138_ (la_numberOfString_11 (la_numberOfString_10 la_numberOfString_9 h136_)))
          exact trivial
        intro h140_
        intro r60
        intro h141_
        intro h142_
        refine ⟨?_, ?_⟩
        · skip
          intro h143_
          refine ⟨?_, ?_⟩
          · skip
            intro h144_
            exact trivial
          intro h145_
          intro r63
          intro h146_
          intro h147_
          have h148_ := (h142_ (la_numberOfString_11 (la_numberOfString_10 la_numberOfString_9 h145_)))
          have h149_ := (h147_ (la_numberOfString_11 (la_numberOfString_10 la_numberOfString_9 h145_)))
          exact trivial
        intro h150_
        have h151_ := (h142_ (la_numberOfString_16 h141_ h150_))
        refine ⟨?_, ?_⟩
        · skip
          intro h152_
          exact trivial
        intro h153_
        intro r66
        intro h154_
        intro h155_
        have h156_ := (h155_ (la_numberOfString_17 h141_ h150_ h151_))
        exact trivial
      intro h157_
      have h158_ := (h19_.resolve_left h157_)
      refine ⟨?_, ?_⟩
      · skip
        refine ⟨(la_numberOfString_25 h6_ h17_), ?_⟩
        exact (la_numberOfString_26 h90_ (sm_LN_at h5_ p1 h6_ h7_).2.2)
      rintro ⟨h159_, h160_⟩
      intro x69
      intro h161_
      intro r71
      intro h162_
      intro r72
      intro h163_
      intro r73
      intro h164_
      refine ⟨(la_numberOfString_27 h8_ h17_ h90_), ?_⟩
      refine ⟨(la_numberOfString_28 h17_ h90_ h161_ (sv_i01 (p := S 3 (60 * p1 + l7_9) ≥ 48 ∧ S 3 (60 * p1 + l7_9) ≤ 57)).1 (sv_i01 (p := S 3 (60 * p1 + l7_9) ≥ 48 ∧ S 3 (60 * p1 + l7_9) ≤ 57)).2), ?_⟩
      exact la_numberOfString_29
    refine ⟨?_, ?_⟩
    · skip
      exact (la_numberOfString_30 h9_ h10_ (sm_LN_at h5_ p1 h6_ h7_).1 (sm_LN_at h5_ p1 h6_ h7_).2.1)
    refine ⟨la_numberOfString_31, ?_⟩
    intro h165_
    refine ⟨la_numberOfString_32, ?_⟩
    intro h166_
    exact la_numberOfString_33
  refine ⟨la_numberOfString_34, ?_⟩
  intro h167_
  refine ⟨(la_numberOfString_35 h6_ h7_), ?_⟩
  rintro ⟨h168_, h169_⟩
  refine ⟨la_numberOfString_36, ?_⟩
  intro h170_
  refine ⟨la_numberOfString_33, ?_⟩
  intro h171_
  exact (la_numberOfString_37 h167_)
set_option maxRecDepth 8000 in
set_option maxHeartbeats 2000000 in
theorem t_numberOfString : ∀ (p1 : Int) (S : sv_S), sm_ok S → sv_R p1 → (31 ≤ (S 1007 0) ∧ (S 1007 0) ≤ 400 ∧ sm_LN (S 4) 400 (S 1007 0) ∧ 0 ≤ p1 ∧ p1 < 400) → sv_T sm_XS sm_cs sm_L sm_sh 1 (q_numberOfString p1 S) 128 0 (lv_args 0 [.ref 0, sv_I p1]) [] S := by
  intro p1 S hok hp1 hpre
  have h := f_numberOfString p1 S hok hp1 hpre
  have hM := sm_h128
  show sv_T sm_XS sm_cs sm_L sm_sh 1 (q_numberOfString p1 S) 128 0 [(0, .ref 0), (1, sv_I p1)] [] S
  refine sv_aload_n hM dX12_numberOfString_0 rfl rfl ?_
  refine sv_getA hM dX12_numberOfString_1 sm_fl_20 (sm_a0 _) sm_k6 rfl ?_
  refine sv_iload_n hM dX12_numberOfString_4 rfl rfl ?_
  obtain ⟨o1, h⟩ := h
  have k2 : sv_R (S 4 p1) := sm_okI hok sm_r4 p1
  have h := h k2
  refine sv_iald hM dX12_numberOfString_5 (sm_a4 _) (by decide) o1.1 o1.2 rfl (x := (S 4 p1)) rfl ?_
  refine sv_istore_n hM dX12_numberOfString_6 (by decide) rfl ?_
  show sv_T sm_XS sm_cs sm_L sm_sh 1 (q_numberOfString p1 S) 128 7 [(0, .ref 0), (1, sv_I p1), (2, sv_I (S 4 p1))] [] S
  have J77 : ∀ s3 : Int, sv_R s3 → ((s3 = 0 ∨ s3 = 1) ∧ (s3 = 1 → 1 ≤ (S 4 p1))) → sv_T sm_XS sm_cs sm_L sm_sh 1 (q_numberOfString p1 S) 128 30 [(0, .ref 0), (1, sv_I p1), (2, sv_I (S 4 p1))] [sv_I s3] S := by
    intro s3 hs3 hin4
    have h := h.1 s3 hs3 hin4
    refine sv_istore_n hM dX12_numberOfString_30 (by decide) rfl ?_
    show sv_T sm_XS sm_cs sm_L sm_sh 1 (q_numberOfString p1 S) 128 31 [(0, .ref 0), (1, sv_I p1), (2, sv_I (S 4 p1)), (3, sv_I s3)] [] S
    have J75 : ∀ s5 : Int, sv_R s5 → (s5 = 0 ∨ s5 = 1) → sv_T sm_XS sm_cs sm_L sm_sh 1 (q_numberOfString p1 S) 128 51 [(0, .ref 0), (1, sv_I p1), (2, sv_I (S 4 p1)), (3, sv_I s3)] [sv_I s5] S := by
      intro s5 hs5 hin6
      have h := h.1 s5 hs5 hin6
      refine sv_istore hM dX12_numberOfString_51 (by decide) rfl ?_
      show sv_T sm_XS sm_cs sm_L sm_sh 1 (q_numberOfString p1 S) 128 53 [(0, .ref 0), (1, sv_I p1), (2, sv_I (S 4 p1)), (3, sv_I s3), (4, sv_I s5)] [] S
      refine sv_lconst (d := (0 : Int)) hM dX12_numberOfString_53 rfl rfl ?_
      refine sv_lstore hM dX12_numberOfString_54 (by decide) rfl ?_
      show sv_T sm_XS sm_cs sm_L sm_sh 1 (q_numberOfString p1 S) 128 56 [(0, .ref 0), (1, sv_I p1), (2, sv_I (S 4 p1)), (3, sv_I s3), (4, sv_I s5), (5, sv_L (0 : Int))] [] S
      refine sv_iload_n hM dX12_numberOfString_56 rfl rfl ?_
      refine sv_istore hM dX12_numberOfString_57 (by decide) rfl ?_
      show sv_T sm_XS sm_cs sm_L sm_sh 1 (q_numberOfString p1 S) 128 59 [(0, .ref 0), (1, sv_I p1), (2, sv_I (S 4 p1)), (3, sv_I s3), (4, sv_I s5), (5, sv_L (0 : Int)), (7, sv_I s3)] [] S
      obtain ⟨hin11, h⟩ := h
      have hJ : ∀ a : Int × Int × Int × Unit, (sv_R a.1 ∧ sv_RL a.2.1 ∧ sv_R a.2.2.1 ∧ sm_ok S ∧ (0 ≤ a.2.2.1 ∧ (a.2.2.1 ≤ (S 4 p1) ∨ a.2.2.1 = s3) ∧ (a.1 = 0 ∨ a.1 = 1))) → sv_T sm_XS sm_cs sm_L sm_sh 1 (q_numberOfString p1 S) 128 59 [(0, .ref 0), (1, sv_I p1), (2, sv_I (S 4 p1)), (3, sv_I s3), (4, sv_I a.1), (5, sv_L a.2.1), (7, sv_I a.2.2.1)] [] S := by
        refine sv_loop (α := Int × Int × Int × Unit) (fun a => sv_R a.1 ∧ sv_RL a.2.1 ∧ sv_R a.2.2.1 ∧ sm_ok S ∧ (0 ≤ a.2.2.1 ∧ (a.2.2.1 ≤ (S 4 p1) ∨ a.2.2.1 = s3) ∧ (a.1 = 0 ∨ a.1 = 1))) (fun a => (S 4 p1) + 1 - a.2.2.1) (fun a => sv_T sm_XS sm_cs sm_L sm_sh 1 (q_numberOfString p1 S) 128 59 [(0, .ref 0), (1, sv_I p1), (2, sv_I (S 4 p1)), (3, sv_I s3), (4, sv_I a.1), (5, sv_L a.2.1), (7, sv_I a.2.2.1)] [] S) (fun a q => (h a.1 q.1 a.2.1 q.2.1 a.2.2.1 q.2.2.1 q.2.2.2.2).1) (fun a q ih10 => ?_)
        obtain ⟨l4_7, l5_8, l7_9, _u⟩ := a
        obtain ⟨hl4_7, hl5_8, hl7_9, ok12, hin11i⟩ := q
        have h := (h l4_7 hl4_7 l5_8 hl5_8 l7_9 hl7_9 hin11i).2
        show sv_T sm_XS sm_cs sm_L sm_sh 1 (q_numberOfString p1 S) 128 59 [(0, .ref 0), (1, sv_I p1), (2, sv_I (S 4 p1)), (3, sv_I s3), (4, sv_I l4_7), (5, sv_L l5_8), (7, sv_I l7_9)] [] S
        refine sv_iload hM dX12_numberOfString_59 rfl rfl ?_
        refine sv_iload_n hM dX12_numberOfString_61 rfl rfl ?_
        refine sv_icmp_ge hM dX12_numberOfString_62 hl7_9 k2 (t := 119) rfl rfl (fun hc => ?_) (fun hc => ?_)
        · have h := h.1 (hc)
          refine sv_iload_n hM dX12_numberOfString_119 rfl rfl ?_
          refine sv_iconst (d := (1 : Int)) hM dX12_numberOfString_120 rfl rfl ?_
          refine sv_icmp_ne hM dX12_numberOfString_121 hs3 (⟨by decide, by decide⟩ : sv_R (1 : Int)) (t := 130) rfl rfl (fun hc => ?_) (fun hc => ?_)
          · have h := h.1 (hc)
            refine sv_lload hM dX12_numberOfString_130 rfl rfl ?_
            refine sv_lstore hM dX12_numberOfString_132 (by decide) rfl ?_
            show sv_T sm_XS sm_cs sm_L sm_sh 1 (q_numberOfString p1 S) 128 134 [(0, .ref 0), (1, sv_I p1), (2, sv_I (S 4 p1)), (3, sv_I s3), (4, sv_I l4_7), (5, sv_L l5_8), (7, sv_I l7_9)] [] S
            refine sv_aload_n hM dX12_numberOfString_134 rfl rfl ?_
            refine sv_iload_n hM dX12_numberOfString_135 rfl rfl ?_
            refine sv_cond_eq hM dX12_numberOfString_136 k2 (t := 154) rfl rfl (fun hc => ?_) (fun hc => ?_)
            · have h := h.1 (hc)
              refine sv_iconst (d := (1 : Int)) hM dX12_numberOfString_154 rfl rfl ?_
              refine sv_goto hM dX12_numberOfString_155 (pc' := 159) rfl ?_
              refine sv_putI sm_X hM dX12_numberOfString_159 sm_fp_806 (sm_a0 _) sm_q113 (Or.inr rfl) rfl (sv_nz (⟨by decide, by decide⟩ : 0 ≤ (1 : Int) ∧ (1 : Int) ≤ 1)) (sv_fz (⟨by decide, by decide⟩ : 0 ≤ (1 : Int) ∧ (1 : Int) ≤ 1)) rfl ?_
              have ok13 : sm_ok (sv_up S 1113 0 (1 : Int)) := sm_upZ ok12 sm_r1113 (⟨by decide, by decide⟩ : 0 ≤ (1 : Int) ∧ (1 : Int) ≤ 1)
              have md14 : sv_mod [1113] S (sv_up S 1113 0 (1 : Int)) := sv_mod.up sv_mod.rf (by decide)
              refine sv_aload_n hM dX12_numberOfString_162 rfl rfl ?_
              refine sv_getI hM dX12_numberOfString_163 sm_fl_806 (sm_a0 _) sm_k113 rfl (x := (1 : Int)) rfl ?_
              refine sv_cond_eq hM dX12_numberOfString_166 (⟨by decide, by decide⟩ : sv_R (1 : Int)) (t := 175) rfl rfl (fun hc => ?_) (fun hc => ?_)
              · have h := h.1 (hc)
                refine sv_iconst (d := (0 : Int)) hM dX12_numberOfString_175 rfl rfl ?_
                exact sv_iret hM dX12_numberOfString_176 rfl rfl ⟨(0 : Int), rfl, (⟨by decide, by decide⟩ : sv_R (0 : Int)), ok13, md14, h⟩
              · have h := h.2 (hc)
                refine sv_lload hM dX12_numberOfString_169 rfl rfl ?_
                refine sv_l2iR hM dX12_numberOfString_171 rfl (fun r15 hr15 er15 => ?_)
                have h := h r15 hr15 er15
                refine sv_goto hM dX12_numberOfString_172 (pc' := 176) rfl ?_
                exact sv_iret hM dX12_numberOfString_176 rfl rfl ⟨r15, rfl, hr15, ok13, md14, h⟩
            · have h := h.2 (hc)
              refine sv_iload hM dX12_numberOfString_139 rfl rfl ?_
              refine sv_cond_eq hM dX12_numberOfString_141 hl4_7 (t := 158) rfl rfl (fun hc => ?_) (fun hc => ?_)
              · have h := h.1 (hc)
                refine sv_iconst (d := (0 : Int)) hM dX12_numberOfString_158 rfl rfl ?_
                refine sv_putI sm_X hM dX12_numberOfString_159 sm_fp_806 (sm_a0 _) sm_q113 (Or.inr rfl) rfl (sv_nz (⟨by decide, by decide⟩ : 0 ≤ (0 : Int) ∧ (0 : Int) ≤ 1)) (sv_fz (⟨by decide, by decide⟩ : 0 ≤ (0 : Int) ∧ (0 : Int) ≤ 1)) rfl ?_
                have ok16 : sm_ok (sv_up S 1113 0 (0 : Int)) := sm_upZ ok12 sm_r1113 (⟨by decide, by decide⟩ : 0 ≤ (0 : Int) ∧ (0 : Int) ≤ 1)
                have md17 : sv_mod [1113] S (sv_up S 1113 0 (0 : Int)) := sv_mod.up sv_mod.rf (by decide)
                refine sv_aload_n hM dX12_numberOfString_162 rfl rfl ?_
                refine sv_getI hM dX12_numberOfString_163 sm_fl_806 (sm_a0 _) sm_k113 rfl (x := (0 : Int)) rfl ?_
                refine sv_cond_eq hM dX12_numberOfString_166 (⟨by decide, by decide⟩ : sv_R (0 : Int)) (t := 175) rfl rfl (fun hc => ?_) (fun hc => ?_)
                · have h := h.1 (hc)
                  refine sv_iconst (d := (0 : Int)) hM dX12_numberOfString_175 rfl rfl ?_
                  exact sv_iret hM dX12_numberOfString_176 rfl rfl ⟨(0 : Int), rfl, (⟨by decide, by decide⟩ : sv_R (0 : Int)), ok16, md17, h⟩
                · have h := h.2 (hc)
                  refine sv_lload hM dX12_numberOfString_169 rfl rfl ?_
                  refine sv_l2iR hM dX12_numberOfString_171 rfl (fun r18 hr18 er18 => ?_)
                  have h := h r18 hr18 er18
                  refine sv_goto hM dX12_numberOfString_172 (pc' := 176) rfl ?_
                  exact sv_iret hM dX12_numberOfString_176 rfl rfl ⟨r18, rfl, hr18, ok16, md17, h⟩
              · have h := h.2 (hc)
                refine sv_lload hM dX12_numberOfString_144 rfl rfl ?_
                refine sv_lload hM dX12_numberOfString_146 rfl rfl ?_
                refine sv_l2iR hM dX12_numberOfString_148 rfl (fun r19 hr19 er19 => ?_)
                have h := h r19 hr19 er19
                refine sv_i2l hM dX12_numberOfString_149 hr19 rfl ?_
                refine sv_lcmp hM dX12_numberOfString_150 hl5_8 (sv_RLR hr19) rfl ?_
                refine sv_cond_ne hM dX12_numberOfString_151 sv_Rcmp (t := 158) rfl rfl (fun hc => ?_) (fun hc => ?_)
                · have h := h.1 ((sv_cmp_ne).mp hc)
                  refine sv_iconst (d := (0 : Int)) hM dX12_numberOfString_158 rfl rfl ?_
                  refine sv_putI sm_X hM dX12_numberOfString_159 sm_fp_806 (sm_a0 _) sm_q113 (Or.inr rfl) rfl (sv_nz (⟨by decide, by decide⟩ : 0 ≤ (0 : Int) ∧ (0 : Int) ≤ 1)) (sv_fz (⟨by decide, by decide⟩ : 0 ≤ (0 : Int) ∧ (0 : Int) ≤ 1)) rfl ?_
                  have ok20 : sm_ok (sv_up S 1113 0 (0 : Int)) := sm_upZ ok12 sm_r1113 (⟨by decide, by decide⟩ : 0 ≤ (0 : Int) ∧ (0 : Int) ≤ 1)
                  have md21 : sv_mod [1113] S (sv_up S 1113 0 (0 : Int)) := sv_mod.up sv_mod.rf (by decide)
                  refine sv_aload_n hM dX12_numberOfString_162 rfl rfl ?_
                  refine sv_getI hM dX12_numberOfString_163 sm_fl_806 (sm_a0 _) sm_k113 rfl (x := (0 : Int)) rfl ?_
                  refine sv_cond_eq hM dX12_numberOfString_166 (⟨by decide, by decide⟩ : sv_R (0 : Int)) (t := 175) rfl rfl (fun hc => ?_) (fun hc => ?_)
                  · have h := h.1 (hc)
                    refine sv_iconst (d := (0 : Int)) hM dX12_numberOfString_175 rfl rfl ?_
                    exact sv_iret hM dX12_numberOfString_176 rfl rfl ⟨(0 : Int), rfl, (⟨by decide, by decide⟩ : sv_R (0 : Int)), ok20, md21, h⟩
                  · have h := h.2 (hc)
                    refine sv_lload hM dX12_numberOfString_169 rfl rfl ?_
                    refine sv_l2iR hM dX12_numberOfString_171 rfl (fun r22 hr22 er22 => ?_)
                    have h := h r22 hr22 er22
                    refine sv_goto hM dX12_numberOfString_172 (pc' := 176) rfl ?_
                    exact sv_iret hM dX12_numberOfString_176 rfl rfl ⟨r22, rfl, hr22, ok20, md21, h⟩
                · have h := h.2 (fun q => hc ((sv_cmp_ne).mpr q))
                  refine sv_iconst (d := (1 : Int)) hM dX12_numberOfString_154 rfl rfl ?_
                  refine sv_goto hM dX12_numberOfString_155 (pc' := 159) rfl ?_
                  refine sv_putI sm_X hM dX12_numberOfString_159 sm_fp_806 (sm_a0 _) sm_q113 (Or.inr rfl) rfl (sv_nz (⟨by decide, by decide⟩ : 0 ≤ (1 : Int) ∧ (1 : Int) ≤ 1)) (sv_fz (⟨by decide, by decide⟩ : 0 ≤ (1 : Int) ∧ (1 : Int) ≤ 1)) rfl ?_
                  have ok23 : sm_ok (sv_up S 1113 0 (1 : Int)) := sm_upZ ok12 sm_r1113 (⟨by decide, by decide⟩ : 0 ≤ (1 : Int) ∧ (1 : Int) ≤ 1)
                  have md24 : sv_mod [1113] S (sv_up S 1113 0 (1 : Int)) := sv_mod.up sv_mod.rf (by decide)
                  refine sv_aload_n hM dX12_numberOfString_162 rfl rfl ?_
                  refine sv_getI hM dX12_numberOfString_163 sm_fl_806 (sm_a0 _) sm_k113 rfl (x := (1 : Int)) rfl ?_
                  refine sv_cond_eq hM dX12_numberOfString_166 (⟨by decide, by decide⟩ : sv_R (1 : Int)) (t := 175) rfl rfl (fun hc => ?_) (fun hc => ?_)
                  · have h := h.1 (hc)
                    refine sv_iconst (d := (0 : Int)) hM dX12_numberOfString_175 rfl rfl ?_
                    exact sv_iret hM dX12_numberOfString_176 rfl rfl ⟨(0 : Int), rfl, (⟨by decide, by decide⟩ : sv_R (0 : Int)), ok23, md24, h⟩
                  · have h := h.2 (hc)
                    refine sv_lload hM dX12_numberOfString_169 rfl rfl ?_
                    refine sv_l2iR hM dX12_numberOfString_171 rfl (fun r25 hr25 er25 => ?_)
                    have h := h r25 hr25 er25
                    refine sv_goto hM dX12_numberOfString_172 (pc' := 176) rfl ?_
                    exact sv_iret hM dX12_numberOfString_176 rfl rfl ⟨r25, rfl, hr25, ok23, md24, h⟩
          · have h := h.2 (hc)
            refine sv_lload hM dX12_numberOfString_124 rfl rfl ?_
            refine sv_anyL hM dX12_numberOfString_126 rfl rfl (fun r26 hr26 _ => ?_)
            have h := h r26 hr26
            refine sv_goto hM dX12_numberOfString_127 (pc' := 132) rfl ?_
            refine sv_lstore hM dX12_numberOfString_132 (by decide) rfl ?_
            show sv_T sm_XS sm_cs sm_L sm_sh 1 (q_numberOfString p1 S) 128 134 [(0, .ref 0), (1, sv_I p1), (2, sv_I (S 4 p1)), (3, sv_I s3), (4, sv_I l4_7), (5, sv_L r26), (7, sv_I l7_9)] [] S
            refine sv_aload_n hM dX12_numberOfString_134 rfl rfl ?_
            refine sv_iload_n hM dX12_numberOfString_135 rfl rfl ?_
            refine sv_cond_eq hM dX12_numberOfString_136 k2 (t := 154) rfl rfl (fun hc => ?_) (fun hc => ?_)
            · have h := h.1 (hc)
              refine sv_iconst (d := (1 : Int)) hM dX12_numberOfString_154 rfl rfl ?_
              refine sv_goto hM dX12_numberOfString_155 (pc' := 159) rfl ?_
              refine sv_putI sm_X hM dX12_numberOfString_159 sm_fp_806 (sm_a0 _) sm_q113 (Or.inr rfl) rfl (sv_nz (⟨by decide, by decide⟩ : 0 ≤ (1 : Int) ∧ (1 : Int) ≤ 1)) (sv_fz (⟨by decide, by decide⟩ : 0 ≤ (1 : Int) ∧ (1 : Int) ≤ 1)) rfl ?_
              have ok27 : sm_ok (sv_up S 1113 0 (1 : Int)) := sm_upZ ok12 sm_r1113 (⟨by decide, by decide⟩ : 0 ≤ (1 : Int) ∧ (1 : Int) ≤ 1)
              have md28 : sv_mod [1113] S (sv_up S 1113 0 (1 : Int)) := sv_mod.up sv_mod.rf (by decide)
              refine sv_aload_n hM dX12_numberOfString_162 rfl rfl ?_
              refine sv_getI hM dX12_numberOfString_163 sm_fl_806 (sm_a0 _) sm_k113 rfl (x := (1 : Int)) rfl ?_
              refine sv_cond_eq hM dX12_numberOfString_166 (⟨by decide, by decide⟩ : sv_R (1 : Int)) (t := 175) rfl rfl (fun hc => ?_) (fun hc => ?_)
              · have h := h.1 (hc)
                refine sv_iconst (d := (0 : Int)) hM dX12_numberOfString_175 rfl rfl ?_
                exact sv_iret hM dX12_numberOfString_176 rfl rfl ⟨(0 : Int), rfl, (⟨by decide, by decide⟩ : sv_R (0 : Int)), ok27, md28, h⟩
              · have h := h.2 (hc)
                refine sv_lload hM dX12_numberOfString_169 rfl rfl ?_
                refine sv_l2iR hM dX12_numberOfString_171 rfl (fun r29 hr29 er29 => ?_)
                have h := h r29 hr29 er29
                refine sv_goto hM dX12_numberOfString_172 (pc' := 176) rfl ?_
                exact sv_iret hM dX12_numberOfString_176 rfl rfl ⟨r29, rfl, hr29, ok27, md28, h⟩
            · have h := h.2 (hc)
              refine sv_iload hM dX12_numberOfString_139 rfl rfl ?_
              refine sv_cond_eq hM dX12_numberOfString_141 hl4_7 (t := 158) rfl rfl (fun hc => ?_) (fun hc => ?_)
              · have h := h.1 (hc)
                refine sv_iconst (d := (0 : Int)) hM dX12_numberOfString_158 rfl rfl ?_
                refine sv_putI sm_X hM dX12_numberOfString_159 sm_fp_806 (sm_a0 _) sm_q113 (Or.inr rfl) rfl (sv_nz (⟨by decide, by decide⟩ : 0 ≤ (0 : Int) ∧ (0 : Int) ≤ 1)) (sv_fz (⟨by decide, by decide⟩ : 0 ≤ (0 : Int) ∧ (0 : Int) ≤ 1)) rfl ?_
                have ok30 : sm_ok (sv_up S 1113 0 (0 : Int)) := sm_upZ ok12 sm_r1113 (⟨by decide, by decide⟩ : 0 ≤ (0 : Int) ∧ (0 : Int) ≤ 1)
                have md31 : sv_mod [1113] S (sv_up S 1113 0 (0 : Int)) := sv_mod.up sv_mod.rf (by decide)
                refine sv_aload_n hM dX12_numberOfString_162 rfl rfl ?_
                refine sv_getI hM dX12_numberOfString_163 sm_fl_806 (sm_a0 _) sm_k113 rfl (x := (0 : Int)) rfl ?_
                refine sv_cond_eq hM dX12_numberOfString_166 (⟨by decide, by decide⟩ : sv_R (0 : Int)) (t := 175) rfl rfl (fun hc => ?_) (fun hc => ?_)
                · have h := h.1 (hc)
                  refine sv_iconst (d := (0 : Int)) hM dX12_numberOfString_175 rfl rfl ?_
                  exact sv_iret hM dX12_numberOfString_176 rfl rfl ⟨(0 : Int), rfl, (⟨by decide, by decide⟩ : sv_R (0 : Int)), ok30, md31, h⟩
                · have h := h.2 (hc)
                  refine sv_lload hM dX12_numberOfString_169 rfl rfl ?_
                  refine sv_l2iR hM dX12_numberOfString_171 rfl (fun r32 hr32 er32 => ?_)
                  have h := h r32 hr32 er32
                  refine sv_goto hM dX12_numberOfString_172 (pc' := 176) rfl ?_
                  exact sv_iret hM dX12_numberOfString_176 rfl rfl ⟨r32, rfl, hr32, ok30, md31, h⟩
              · have h := h.2 (hc)
                refine sv_lload hM dX12_numberOfString_144 rfl rfl ?_
                refine sv_lload hM dX12_numberOfString_146 rfl rfl ?_
                refine sv_l2iR hM dX12_numberOfString_148 rfl (fun r33 hr33 er33 => ?_)
                have h := h r33 hr33 er33
                refine sv_i2l hM dX12_numberOfString_149 hr33 rfl ?_
                refine sv_lcmp hM dX12_numberOfString_150 hr26 (sv_RLR hr33) rfl ?_
                refine sv_cond_ne hM dX12_numberOfString_151 sv_Rcmp (t := 158) rfl rfl (fun hc => ?_) (fun hc => ?_)
                · have h := h.1 ((sv_cmp_ne).mp hc)
                  refine sv_iconst (d := (0 : Int)) hM dX12_numberOfString_158 rfl rfl ?_
                  refine sv_putI sm_X hM dX12_numberOfString_159 sm_fp_806 (sm_a0 _) sm_q113 (Or.inr rfl) rfl (sv_nz (⟨by decide, by decide⟩ : 0 ≤ (0 : Int) ∧ (0 : Int) ≤ 1)) (sv_fz (⟨by decide, by decide⟩ : 0 ≤ (0 : Int) ∧ (0 : Int) ≤ 1)) rfl ?_
                  have ok34 : sm_ok (sv_up S 1113 0 (0 : Int)) := sm_upZ ok12 sm_r1113 (⟨by decide, by decide⟩ : 0 ≤ (0 : Int) ∧ (0 : Int) ≤ 1)
                  have md35 : sv_mod [1113] S (sv_up S 1113 0 (0 : Int)) := sv_mod.up sv_mod.rf (by decide)
                  refine sv_aload_n hM dX12_numberOfString_162 rfl rfl ?_
                  refine sv_getI hM dX12_numberOfString_163 sm_fl_806 (sm_a0 _) sm_k113 rfl (x := (0 : Int)) rfl ?_
                  refine sv_cond_eq hM dX12_numberOfString_166 (⟨by decide, by decide⟩ : sv_R (0 : Int)) (t := 175) rfl rfl (fun hc => ?_) (fun hc => ?_)
                  · have h := h.1 (hc)
                    refine sv_iconst (d := (0 : Int)) hM dX12_numberOfString_175 rfl rfl ?_
                    exact sv_iret hM dX12_numberOfString_176 rfl rfl ⟨(0 : Int), rfl, (⟨by decide, by decide⟩ : sv_R (0 : Int)), ok34, md35, h⟩
                  · have h := h.2 (hc)
                    refine sv_lload hM dX12_numberOfString_169 rfl rfl ?_
                    refine sv_l2iR hM dX12_numberOfString_171 rfl (fun r36 hr36 er36 => ?_)
                    have h := h r36 hr36 er36
                    refine sv_goto hM dX12_numberOfString_172 (pc' := 176) rfl ?_
                    exact sv_iret hM dX12_numberOfString_176 rfl rfl ⟨r36, rfl, hr36, ok34, md35, h⟩
                · have h := h.2 (fun q => hc ((sv_cmp_ne).mpr q))
                  refine sv_iconst (d := (1 : Int)) hM dX12_numberOfString_154 rfl rfl ?_
                  refine sv_goto hM dX12_numberOfString_155 (pc' := 159) rfl ?_
                  refine sv_putI sm_X hM dX12_numberOfString_159 sm_fp_806 (sm_a0 _) sm_q113 (Or.inr rfl) rfl (sv_nz (⟨by decide, by decide⟩ : 0 ≤ (1 : Int) ∧ (1 : Int) ≤ 1)) (sv_fz (⟨by decide, by decide⟩ : 0 ≤ (1 : Int) ∧ (1 : Int) ≤ 1)) rfl ?_
                  have ok37 : sm_ok (sv_up S 1113 0 (1 : Int)) := sm_upZ ok12 sm_r1113 (⟨by decide, by decide⟩ : 0 ≤ (1 : Int) ∧ (1 : Int) ≤ 1)
                  have md38 : sv_mod [1113] S (sv_up S 1113 0 (1 : Int)) := sv_mod.up sv_mod.rf (by decide)
                  refine sv_aload_n hM dX12_numberOfString_162 rfl rfl ?_
                  refine sv_getI hM dX12_numberOfString_163 sm_fl_806 (sm_a0 _) sm_k113 rfl (x := (1 : Int)) rfl ?_
                  refine sv_cond_eq hM dX12_numberOfString_166 (⟨by decide, by decide⟩ : sv_R (1 : Int)) (t := 175) rfl rfl (fun hc => ?_) (fun hc => ?_)
                  · have h := h.1 (hc)
                    refine sv_iconst (d := (0 : Int)) hM dX12_numberOfString_175 rfl rfl ?_
                    exact sv_iret hM dX12_numberOfString_176 rfl rfl ⟨(0 : Int), rfl, (⟨by decide, by decide⟩ : sv_R (0 : Int)), ok37, md38, h⟩
                  · have h := h.2 (hc)
                    refine sv_lload hM dX12_numberOfString_169 rfl rfl ?_
                    refine sv_l2iR hM dX12_numberOfString_171 rfl (fun r39 hr39 er39 => ?_)
                    have h := h r39 hr39 er39
                    refine sv_goto hM dX12_numberOfString_172 (pc' := 176) rfl ?_
                    exact sv_iret hM dX12_numberOfString_176 rfl rfl ⟨r39, rfl, hr39, ok37, md38, h⟩
        · have h := h.2 (hc)
          refine sv_iload hM dX12_numberOfString_65 rfl rfl ?_
          refine sv_cond_eq hM dX12_numberOfString_67 hl4_7 (t := 119) rfl rfl (fun hc => ?_) (fun hc => ?_)
          · have h := h.1 (hc)
            refine sv_iload_n hM dX12_numberOfString_119 rfl rfl ?_
            refine sv_iconst (d := (1 : Int)) hM dX12_numberOfString_120 rfl rfl ?_
            refine sv_icmp_ne hM dX12_numberOfString_121 hs3 (⟨by decide, by decide⟩ : sv_R (1 : Int)) (t := 130) rfl rfl (fun hc => ?_) (fun hc => ?_)
            · have h := h.1 (hc)
              refine sv_lload hM dX12_numberOfString_130 rfl rfl ?_
              refine sv_lstore hM dX12_numberOfString_132 (by decide) rfl ?_
              show sv_T sm_XS sm_cs sm_L sm_sh 1 (q_numberOfString p1 S) 128 134 [(0, .ref 0), (1, sv_I p1), (2, sv_I (S 4 p1)), (3, sv_I s3), (4, sv_I l4_7), (5, sv_L l5_8), (7, sv_I l7_9)] [] S
              refine sv_aload_n hM dX12_numberOfString_134 rfl rfl ?_
              refine sv_iload_n hM dX12_numberOfString_135 rfl rfl ?_
              refine sv_cond_eq hM dX12_numberOfString_136 k2 (t := 154) rfl rfl (fun hc => ?_) (fun hc => ?_)
              · have h := h.1 (hc)
                refine sv_iconst (d := (1 : Int)) hM dX12_numberOfString_154 rfl rfl ?_
                refine sv_goto hM dX12_numberOfString_155 (pc' := 159) rfl ?_
                refine sv_putI sm_X hM dX12_numberOfString_159 sm_fp_806 (sm_a0 _) sm_q113 (Or.inr rfl) rfl (sv_nz (⟨by decide, by decide⟩ : 0 ≤ (1 : Int) ∧ (1 : Int) ≤ 1)) (sv_fz (⟨by decide, by decide⟩ : 0 ≤ (1 : Int) ∧ (1 : Int) ≤ 1)) rfl ?_
                have ok40 : sm_ok (sv_up S 1113 0 (1 : Int)) := sm_upZ ok12 sm_r1113 (⟨by decide, by decide⟩ : 0 ≤ (1 : Int) ∧ (1 : Int) ≤ 1)
                have md41 : sv_mod [1113] S (sv_up S 1113 0 (1 : Int)) := sv_mod.up sv_mod.rf (by decide)
                refine sv_aload_n hM dX12_numberOfString_162 rfl rfl ?_
                refine sv_getI hM dX12_numberOfString_163 sm_fl_806 (sm_a0 _) sm_k113 rfl (x := (1 : Int)) rfl ?_
                refine sv_cond_eq hM dX12_numberOfString_166 (⟨by decide, by decide⟩ : sv_R (1 : Int)) (t := 175) rfl rfl (fun hc => ?_) (fun hc => ?_)
                · have h := h.1 (hc)
                  refine sv_iconst (d := (0 : Int)) hM dX12_numberOfString_175 rfl rfl ?_
                  exact sv_iret hM dX12_numberOfString_176 rfl rfl ⟨(0 : Int), rfl, (⟨by decide, by decide⟩ : sv_R (0 : Int)), ok40, md41, h⟩
                · have h := h.2 (hc)
                  refine sv_lload hM dX12_numberOfString_169 rfl rfl ?_
                  refine sv_l2iR hM dX12_numberOfString_171 rfl (fun r42 hr42 er42 => ?_)
                  have h := h r42 hr42 er42
                  refine sv_goto hM dX12_numberOfString_172 (pc' := 176) rfl ?_
                  exact sv_iret hM dX12_numberOfString_176 rfl rfl ⟨r42, rfl, hr42, ok40, md41, h⟩
              · have h := h.2 (hc)
                refine sv_iload hM dX12_numberOfString_139 rfl rfl ?_
                refine sv_cond_eq hM dX12_numberOfString_141 hl4_7 (t := 158) rfl rfl (fun hc => ?_) (fun hc => ?_)
                · have h := h.1 (hc)
                  refine sv_iconst (d := (0 : Int)) hM dX12_numberOfString_158 rfl rfl ?_
                  refine sv_putI sm_X hM dX12_numberOfString_159 sm_fp_806 (sm_a0 _) sm_q113 (Or.inr rfl) rfl (sv_nz (⟨by decide, by decide⟩ : 0 ≤ (0 : Int) ∧ (0 : Int) ≤ 1)) (sv_fz (⟨by decide, by decide⟩ : 0 ≤ (0 : Int) ∧ (0 : Int) ≤ 1)) rfl ?_
                  have ok43 : sm_ok (sv_up S 1113 0 (0 : Int)) := sm_upZ ok12 sm_r1113 (⟨by decide, by decide⟩ : 0 ≤ (0 : Int) ∧ (0 : Int) ≤ 1)
                  have md44 : sv_mod [1113] S (sv_up S 1113 0 (0 : Int)) := sv_mod.up sv_mod.rf (by decide)
                  refine sv_aload_n hM dX12_numberOfString_162 rfl rfl ?_
                  refine sv_getI hM dX12_numberOfString_163 sm_fl_806 (sm_a0 _) sm_k113 rfl (x := (0 : Int)) rfl ?_
                  refine sv_cond_eq hM dX12_numberOfString_166 (⟨by decide, by decide⟩ : sv_R (0 : Int)) (t := 175) rfl rfl (fun hc => ?_) (fun hc => ?_)
                  · have h := h.1 (hc)
                    refine sv_iconst (d := (0 : Int)) hM dX12_numberOfString_175 rfl rfl ?_
                    exact sv_iret hM dX12_numberOfString_176 rfl rfl ⟨(0 : Int), rfl, (⟨by decide, by decide⟩ : sv_R (0 : Int)), ok43, md44, h⟩
                  · have h := h.2 (hc)
                    refine sv_lload hM dX12_numberOfString_169 rfl rfl ?_
                    refine sv_l2iR hM dX12_numberOfString_171 rfl (fun r45 hr45 er45 => ?_)
                    have h := h r45 hr45 er45
                    refine sv_goto hM dX12_numberOfString_172 (pc' := 176) rfl ?_
                    exact sv_iret hM dX12_numberOfString_176 rfl rfl ⟨r45, rfl, hr45, ok43, md44, h⟩
                · have h := h.2 (hc)
                  refine sv_lload hM dX12_numberOfString_144 rfl rfl ?_
                  refine sv_lload hM dX12_numberOfString_146 rfl rfl ?_
                  refine sv_l2iR hM dX12_numberOfString_148 rfl (fun r46 hr46 er46 => ?_)
                  have h := h r46 hr46 er46
                  refine sv_i2l hM dX12_numberOfString_149 hr46 rfl ?_
                  refine sv_lcmp hM dX12_numberOfString_150 hl5_8 (sv_RLR hr46) rfl ?_
                  refine sv_cond_ne hM dX12_numberOfString_151 sv_Rcmp (t := 158) rfl rfl (fun hc => ?_) (fun hc => ?_)
                  · have h := h.1 ((sv_cmp_ne).mp hc)
                    refine sv_iconst (d := (0 : Int)) hM dX12_numberOfString_158 rfl rfl ?_
                    refine sv_putI sm_X hM dX12_numberOfString_159 sm_fp_806 (sm_a0 _) sm_q113 (Or.inr rfl) rfl (sv_nz (⟨by decide, by decide⟩ : 0 ≤ (0 : Int) ∧ (0 : Int) ≤ 1)) (sv_fz (⟨by decide, by decide⟩ : 0 ≤ (0 : Int) ∧ (0 : Int) ≤ 1)) rfl ?_
                    have ok47 : sm_ok (sv_up S 1113 0 (0 : Int)) := sm_upZ ok12 sm_r1113 (⟨by decide, by decide⟩ : 0 ≤ (0 : Int) ∧ (0 : Int) ≤ 1)
                    have md48 : sv_mod [1113] S (sv_up S 1113 0 (0 : Int)) := sv_mod.up sv_mod.rf (by decide)
                    refine sv_aload_n hM dX12_numberOfString_162 rfl rfl ?_
                    refine sv_getI hM dX12_numberOfString_163 sm_fl_806 (sm_a0 _) sm_k113 rfl (x := (0 : Int)) rfl ?_
                    refine sv_cond_eq hM dX12_numberOfString_166 (⟨by decide, by decide⟩ : sv_R (0 : Int)) (t := 175) rfl rfl (fun hc => ?_) (fun hc => ?_)
                    · have h := h.1 (hc)
                      refine sv_iconst (d := (0 : Int)) hM dX12_numberOfString_175 rfl rfl ?_
                      exact sv_iret hM dX12_numberOfString_176 rfl rfl ⟨(0 : Int), rfl, (⟨by decide, by decide⟩ : sv_R (0 : Int)), ok47, md48, h⟩
                    · have h := h.2 (hc)
                      refine sv_lload hM dX12_numberOfString_169 rfl rfl ?_
                      refine sv_l2iR hM dX12_numberOfString_171 rfl (fun r49 hr49 er49 => ?_)
                      have h := h r49 hr49 er49
                      refine sv_goto hM dX12_numberOfString_172 (pc' := 176) rfl ?_
                      exact sv_iret hM dX12_numberOfString_176 rfl rfl ⟨r49, rfl, hr49, ok47, md48, h⟩
                  · have h := h.2 (fun q => hc ((sv_cmp_ne).mpr q))
                    refine sv_iconst (d := (1 : Int)) hM dX12_numberOfString_154 rfl rfl ?_
                    refine sv_goto hM dX12_numberOfString_155 (pc' := 159) rfl ?_
                    refine sv_putI sm_X hM dX12_numberOfString_159 sm_fp_806 (sm_a0 _) sm_q113 (Or.inr rfl) rfl (sv_nz (⟨by decide, by decide⟩ : 0 ≤ (1 : Int) ∧ (1 : Int) ≤ 1)) (sv_fz (⟨by decide, by decide⟩ : 0 ≤ (1 : Int) ∧ (1 : Int) ≤ 1)) rfl ?_
                    have ok50 : sm_ok (sv_up S 1113 0 (1 : Int)) := sm_upZ ok12 sm_r1113 (⟨by decide, by decide⟩ : 0 ≤ (1 : Int) ∧ (1 : Int) ≤ 1)
                    have md51 : sv_mod [1113] S (sv_up S 1113 0 (1 : Int)) := sv_mod.up sv_mod.rf (by decide)
                    refine sv_aload_n hM dX12_numberOfString_162 rfl rfl ?_
                    refine sv_getI hM dX12_numberOfString_163 sm_fl_806 (sm_a0 _) sm_k113 rfl (x := (1 : Int)) rfl ?_
                    refine sv_cond_eq hM dX12_numberOfString_166 (⟨by decide, by decide⟩ : sv_R (1 : Int)) (t := 175) rfl rfl (fun hc => ?_) (fun hc => ?_)
                    · have h := h.1 (hc)
                      refine sv_iconst (d := (0 : Int)) hM dX12_numberOfString_175 rfl rfl ?_
                      exact sv_iret hM dX12_numberOfString_176 rfl rfl ⟨(0 : Int), rfl, (⟨by decide, by decide⟩ : sv_R (0 : Int)), ok50, md51, h⟩
                    · have h := h.2 (hc)
                      refine sv_lload hM dX12_numberOfString_169 rfl rfl ?_
                      refine sv_l2iR hM dX12_numberOfString_171 rfl (fun r52 hr52 er52 => ?_)
                      have h := h r52 hr52 er52
                      refine sv_goto hM dX12_numberOfString_172 (pc' := 176) rfl ?_
                      exact sv_iret hM dX12_numberOfString_176 rfl rfl ⟨r52, rfl, hr52, ok50, md51, h⟩
            · have h := h.2 (hc)
              refine sv_lload hM dX12_numberOfString_124 rfl rfl ?_
              refine sv_anyL hM dX12_numberOfString_126 rfl rfl (fun r53 hr53 _ => ?_)
              have h := h r53 hr53
              refine sv_goto hM dX12_numberOfString_127 (pc' := 132) rfl ?_
              refine sv_lstore hM dX12_numberOfString_132 (by decide) rfl ?_
              show sv_T sm_XS sm_cs sm_L sm_sh 1 (q_numberOfString p1 S) 128 134 [(0, .ref 0), (1, sv_I p1), (2, sv_I (S 4 p1)), (3, sv_I s3), (4, sv_I l4_7), (5, sv_L r53), (7, sv_I l7_9)] [] S
              refine sv_aload_n hM dX12_numberOfString_134 rfl rfl ?_
              refine sv_iload_n hM dX12_numberOfString_135 rfl rfl ?_
              refine sv_cond_eq hM dX12_numberOfString_136 k2 (t := 154) rfl rfl (fun hc => ?_) (fun hc => ?_)
              · have h := h.1 (hc)
                refine sv_iconst (d := (1 : Int)) hM dX12_numberOfString_154 rfl rfl ?_
                refine sv_goto hM dX12_numberOfString_155 (pc' := 159) rfl ?_
                refine sv_putI sm_X hM dX12_numberOfString_159 sm_fp_806 (sm_a0 _) sm_q113 (Or.inr rfl) rfl (sv_nz (⟨by decide, by decide⟩ : 0 ≤ (1 : Int) ∧ (1 : Int) ≤ 1)) (sv_fz (⟨by decide, by decide⟩ : 0 ≤ (1 : Int) ∧ (1 : Int) ≤ 1)) rfl ?_
                have ok54 : sm_ok (sv_up S 1113 0 (1 : Int)) := sm_upZ ok12 sm_r1113 (⟨by decide, by decide⟩ : 0 ≤ (1 : Int) ∧ (1 : Int) ≤ 1)
                have md55 : sv_mod [1113] S (sv_up S 1113 0 (1 : Int)) := sv_mod.up sv_mod.rf (by decide)
                refine sv_aload_n hM dX12_numberOfString_162 rfl rfl ?_
                refine sv_getI hM dX12_numberOfString_163 sm_fl_806 (sm_a0 _) sm_k113 rfl (x := (1 : Int)) rfl ?_
                refine sv_cond_eq hM dX12_numberOfString_166 (⟨by decide, by decide⟩ : sv_R (1 : Int)) (t := 175) rfl rfl (fun hc => ?_) (fun hc => ?_)
                · have h := h.1 (hc)
                  refine sv_iconst (d := (0 : Int)) hM dX12_numberOfString_175 rfl rfl ?_
                  exact sv_iret hM dX12_numberOfString_176 rfl rfl ⟨(0 : Int), rfl, (⟨by decide, by decide⟩ : sv_R (0 : Int)), ok54, md55, h⟩
                · have h := h.2 (hc)
                  refine sv_lload hM dX12_numberOfString_169 rfl rfl ?_
                  refine sv_l2iR hM dX12_numberOfString_171 rfl (fun r56 hr56 er56 => ?_)
                  have h := h r56 hr56 er56
                  refine sv_goto hM dX12_numberOfString_172 (pc' := 176) rfl ?_
                  exact sv_iret hM dX12_numberOfString_176 rfl rfl ⟨r56, rfl, hr56, ok54, md55, h⟩
              · have h := h.2 (hc)
                refine sv_iload hM dX12_numberOfString_139 rfl rfl ?_
                refine sv_cond_eq hM dX12_numberOfString_141 hl4_7 (t := 158) rfl rfl (fun hc => ?_) (fun hc => ?_)
                · have h := h.1 (hc)
                  refine sv_iconst (d := (0 : Int)) hM dX12_numberOfString_158 rfl rfl ?_
                  refine sv_putI sm_X hM dX12_numberOfString_159 sm_fp_806 (sm_a0 _) sm_q113 (Or.inr rfl) rfl (sv_nz (⟨by decide, by decide⟩ : 0 ≤ (0 : Int) ∧ (0 : Int) ≤ 1)) (sv_fz (⟨by decide, by decide⟩ : 0 ≤ (0 : Int) ∧ (0 : Int) ≤ 1)) rfl ?_
                  have ok57 : sm_ok (sv_up S 1113 0 (0 : Int)) := sm_upZ ok12 sm_r1113 (⟨by decide, by decide⟩ : 0 ≤ (0 : Int) ∧ (0 : Int) ≤ 1)
                  have md58 : sv_mod [1113] S (sv_up S 1113 0 (0 : Int)) := sv_mod.up sv_mod.rf (by decide)
                  refine sv_aload_n hM dX12_numberOfString_162 rfl rfl ?_
                  refine sv_getI hM dX12_numberOfString_163 sm_fl_806 (sm_a0 _) sm_k113 rfl (x := (0 : Int)) rfl ?_
                  refine sv_cond_eq hM dX12_numberOfString_166 (⟨by decide, by decide⟩ : sv_R (0 : Int)) (t := 175) rfl rfl (fun hc => ?_) (fun hc => ?_)
                  · have h := h.1 (hc)
                    refine sv_iconst (d := (0 : Int)) hM dX12_numberOfString_175 rfl rfl ?_
                    exact sv_iret hM dX12_numberOfString_176 rfl rfl ⟨(0 : Int), rfl, (⟨by decide, by decide⟩ : sv_R (0 : Int)), ok57, md58, h⟩
                  · have h := h.2 (hc)
                    refine sv_lload hM dX12_numberOfString_169 rfl rfl ?_
                    refine sv_l2iR hM dX12_numberOfString_171 rfl (fun r59 hr59 er59 => ?_)
                    have h := h r59 hr59 er59
                    refine sv_goto hM dX12_numberOfString_172 (pc' := 176) rfl ?_
                    exact sv_iret hM dX12_numberOfString_176 rfl rfl ⟨r59, rfl, hr59, ok57, md58, h⟩
                · have h := h.2 (hc)
                  refine sv_lload hM dX12_numberOfString_144 rfl rfl ?_
                  refine sv_lload hM dX12_numberOfString_146 rfl rfl ?_
                  refine sv_l2iR hM dX12_numberOfString_148 rfl (fun r60 hr60 er60 => ?_)
                  have h := h r60 hr60 er60
                  refine sv_i2l hM dX12_numberOfString_149 hr60 rfl ?_
                  refine sv_lcmp hM dX12_numberOfString_150 hr53 (sv_RLR hr60) rfl ?_
                  refine sv_cond_ne hM dX12_numberOfString_151 sv_Rcmp (t := 158) rfl rfl (fun hc => ?_) (fun hc => ?_)
                  · have h := h.1 ((sv_cmp_ne).mp hc)
                    refine sv_iconst (d := (0 : Int)) hM dX12_numberOfString_158 rfl rfl ?_
                    refine sv_putI sm_X hM dX12_numberOfString_159 sm_fp_806 (sm_a0 _) sm_q113 (Or.inr rfl) rfl (sv_nz (⟨by decide, by decide⟩ : 0 ≤ (0 : Int) ∧ (0 : Int) ≤ 1)) (sv_fz (⟨by decide, by decide⟩ : 0 ≤ (0 : Int) ∧ (0 : Int) ≤ 1)) rfl ?_
                    have ok61 : sm_ok (sv_up S 1113 0 (0 : Int)) := sm_upZ ok12 sm_r1113 (⟨by decide, by decide⟩ : 0 ≤ (0 : Int) ∧ (0 : Int) ≤ 1)
                    have md62 : sv_mod [1113] S (sv_up S 1113 0 (0 : Int)) := sv_mod.up sv_mod.rf (by decide)
                    refine sv_aload_n hM dX12_numberOfString_162 rfl rfl ?_
                    refine sv_getI hM dX12_numberOfString_163 sm_fl_806 (sm_a0 _) sm_k113 rfl (x := (0 : Int)) rfl ?_
                    refine sv_cond_eq hM dX12_numberOfString_166 (⟨by decide, by decide⟩ : sv_R (0 : Int)) (t := 175) rfl rfl (fun hc => ?_) (fun hc => ?_)
                    · have h := h.1 (hc)
                      refine sv_iconst (d := (0 : Int)) hM dX12_numberOfString_175 rfl rfl ?_
                      exact sv_iret hM dX12_numberOfString_176 rfl rfl ⟨(0 : Int), rfl, (⟨by decide, by decide⟩ : sv_R (0 : Int)), ok61, md62, h⟩
                    · have h := h.2 (hc)
                      refine sv_lload hM dX12_numberOfString_169 rfl rfl ?_
                      refine sv_l2iR hM dX12_numberOfString_171 rfl (fun r63 hr63 er63 => ?_)
                      have h := h r63 hr63 er63
                      refine sv_goto hM dX12_numberOfString_172 (pc' := 176) rfl ?_
                      exact sv_iret hM dX12_numberOfString_176 rfl rfl ⟨r63, rfl, hr63, ok61, md62, h⟩
                  · have h := h.2 (fun q => hc ((sv_cmp_ne).mpr q))
                    refine sv_iconst (d := (1 : Int)) hM dX12_numberOfString_154 rfl rfl ?_
                    refine sv_goto hM dX12_numberOfString_155 (pc' := 159) rfl ?_
                    refine sv_putI sm_X hM dX12_numberOfString_159 sm_fp_806 (sm_a0 _) sm_q113 (Or.inr rfl) rfl (sv_nz (⟨by decide, by decide⟩ : 0 ≤ (1 : Int) ∧ (1 : Int) ≤ 1)) (sv_fz (⟨by decide, by decide⟩ : 0 ≤ (1 : Int) ∧ (1 : Int) ≤ 1)) rfl ?_
                    have ok64 : sm_ok (sv_up S 1113 0 (1 : Int)) := sm_upZ ok12 sm_r1113 (⟨by decide, by decide⟩ : 0 ≤ (1 : Int) ∧ (1 : Int) ≤ 1)
                    have md65 : sv_mod [1113] S (sv_up S 1113 0 (1 : Int)) := sv_mod.up sv_mod.rf (by decide)
                    refine sv_aload_n hM dX12_numberOfString_162 rfl rfl ?_
                    refine sv_getI hM dX12_numberOfString_163 sm_fl_806 (sm_a0 _) sm_k113 rfl (x := (1 : Int)) rfl ?_
                    refine sv_cond_eq hM dX12_numberOfString_166 (⟨by decide, by decide⟩ : sv_R (1 : Int)) (t := 175) rfl rfl (fun hc => ?_) (fun hc => ?_)
                    · have h := h.1 (hc)
                      refine sv_iconst (d := (0 : Int)) hM dX12_numberOfString_175 rfl rfl ?_
                      exact sv_iret hM dX12_numberOfString_176 rfl rfl ⟨(0 : Int), rfl, (⟨by decide, by decide⟩ : sv_R (0 : Int)), ok64, md65, h⟩
                    · have h := h.2 (hc)
                      refine sv_lload hM dX12_numberOfString_169 rfl rfl ?_
                      refine sv_l2iR hM dX12_numberOfString_171 rfl (fun r66 hr66 er66 => ?_)
                      have h := h r66 hr66 er66
                      refine sv_goto hM dX12_numberOfString_172 (pc' := 176) rfl ?_
                      exact sv_iret hM dX12_numberOfString_176 rfl rfl ⟨r66, rfl, hr66, ok64, md65, h⟩
          · have h := h.2 (hc)
            refine sv_aload_n hM dX12_numberOfString_70 rfl rfl ?_
            refine sv_getA hM dX12_numberOfString_71 sm_fl_16 (sm_a0 _) sm_k5 rfl ?_
            refine sv_bipush (d := (60 : Int)) hM dX12_numberOfString_74 rfl rfl ?_
            refine sv_iload_n hM dX12_numberOfString_76 rfl rfl ?_
            refine sv_imul hM dX12_numberOfString_77 rfl ?_
            refine sv_iload hM dX12_numberOfString_78 rfl rfl ?_
            refine sv_iadd hM dX12_numberOfString_80 rfl ?_
            obtain ⟨o67, h⟩ := h
            have k68 : (0 ≤ (S 3 (((60 : Int) * p1) + l7_9)) ∧ (S 3 (((60 : Int) * p1) + l7_9)) ≤ 65535) := sm_okC ok12 sm_r3 (((60 : Int) * p1) + l7_9)
            have h := h k68
            refine sv_cald hM dX12_numberOfString_81 (sm_a3 _) (by decide) o67.1 o67.2 rfl (x := (S 3 (((60 : Int) * p1) + l7_9))) rfl ?_
            refine sv_callS hM dX12_numberOfString_82 sm_iv_341 (Nat.le_of_ble_eq_true rfl) rfl rfl (Nat.le_of_ble_eq_true rfl) sm_h13 (Nat.le_of_ble_eq_true rfl) (Nat.le_of_ble_eq_true rfl) (F' := 0) (Nat.le_of_ble_eq_true rfl) rfl (t_isDigit (S 3 (((60 : Int) * p1) + l7_9)) S ok12 (sv_RC k68)) (fun v S1 hq => ?_)
            obtain ⟨rfl, hS1⟩ := hq
            obtain rfl : S = S1 := hS1.symm
            show sv_T sm_XS sm_cs sm_L sm_sh 1 (q_numberOfString p1 S) 128 85 [(0, .ref 0), (1, sv_I p1), (2, sv_I (S 4 p1)), (3, sv_I s3), (4, sv_I l4_7), (5, sv_L l5_8), (7, sv_I l7_9)] [sv_I (if ((S 3 (((60 : Int) * p1) + l7_9)) ≥ 48 ∧ (S 3 (((60 : Int) * p1) + l7_9)) ≤ 57) then 1 else 0)] S
            obtain ⟨x69, e70⟩ : ∃ x : Int, (if ((S 3 (((60 : Int) * p1) + l7_9)) ≥ 48 ∧ (S 3 (((60 : Int) * p1) + l7_9)) ≤ 57) then 1 else 0) = x := ⟨_, rfl⟩
            have h := h x69 e70
            have e70r : sv_R x69 := e70 ▸ (sv_Rite : sv_R (if ((S 3 (((60 : Int) * p1) + l7_9)) ≥ 48 ∧ (S 3 (((60 : Int) * p1) + l7_9)) ≤ 57) then 1 else 0))
            refine sv_nameI e70 ?_
            refine sv_istore hM dX12_numberOfString_85 (by decide) rfl ?_
            show sv_T sm_XS sm_cs sm_L sm_sh 1 (q_numberOfString p1 S) 128 87 [(0, .ref 0), (1, sv_I p1), (2, sv_I (S 4 p1)), (3, sv_I s3), (4, sv_I x69), (5, sv_L l5_8), (7, sv_I l7_9)] [] S
            refine sv_ldc2_w (d := (10 : Int)) hM dX12_numberOfString_87 sm_ck_381 rfl rfl ?_
            refine sv_lload hM dX12_numberOfString_90 rfl rfl ?_
            refine sv_anyL hM dX12_numberOfString_92 rfl rfl (fun r71 hr71 _ => ?_)
            have h := h r71 hr71
            refine sv_aload_n hM dX12_numberOfString_93 rfl rfl ?_
            refine sv_getA hM dX12_numberOfString_94 sm_fl_16 (sm_a0 _) sm_k5 rfl ?_
            refine sv_bipush (d := (60 : Int)) hM dX12_numberOfString_97 rfl rfl ?_
            refine sv_iload_n hM dX12_numberOfString_99 rfl rfl ?_
            refine sv_imul hM dX12_numberOfString_100 rfl ?_
            refine sv_iload hM dX12_numberOfString_101 rfl rfl ?_
            refine sv_iadd hM dX12_numberOfString_103 rfl ?_
            refine sv_cald hM dX12_numberOfString_104 (sm_a3 _) (by decide) o67.1 o67.2 rfl (x := (S 3 (((60 : Int) * p1) + l7_9))) rfl ?_
            refine sv_i2l hM dX12_numberOfString_105 (sv_RC k68) rfl ?_
            refine sv_anyL hM dX12_numberOfString_106 rfl rfl (fun r72 hr72 _ => ?_)
            have h := h r72 hr72
            refine sv_ldc2_w (d := (48 : Int)) hM dX12_numberOfString_107 sm_ck_383 rfl rfl ?_
            refine sv_anyL hM dX12_numberOfString_110 rfl rfl (fun r73 hr73 _ => ?_)
            have h := h r73 hr73
            refine sv_lstore hM dX12_numberOfString_111 (by decide) rfl ?_
            show sv_T sm_XS sm_cs sm_L sm_sh 1 (q_numberOfString p1 S) 128 113 [(0, .ref 0), (1, sv_I p1), (2, sv_I (S 4 p1)), (3, sv_I s3), (4, sv_I x69), (5, sv_L r73), (7, sv_I l7_9)] [] S
            refine sv_iinc (d := (1 : Int)) hM dX12_numberOfString_113 rfl (by decide) rfl rfl ?_
            show sv_T sm_XS sm_cs sm_L sm_sh 1 (q_numberOfString p1 S) 128 116 [(0, .ref 0), (1, sv_I p1), (2, sv_I (S 4 p1)), (3, sv_I s3), (4, sv_I x69), (5, sv_L r73), (7, sv_I (l7_9 + (1 : Int)))] [] S
            refine sv_goto hM dX12_numberOfString_116 (pc' := 59) rfl ?_
            obtain ⟨o74, h⟩ := h
            have hb := ih10 (x69, r73, (l7_9 + (1 : Int)), ()) ⟨e70r, hr73, o74, ok12, h.1⟩ h.2
            exact sv_less (lv := [(0, .ref 0), (1, sv_I p1), (2, sv_I (S 4 p1)), (3, sv_I s3), (4, sv_I x69), (5, sv_L r73), (7, sv_I (l7_9 + (1 : Int)))]) (sv_Sub_cons rfl (sv_Sub_cons rfl (sv_Sub_cons rfl (sv_Sub_cons rfl (sv_Sub_cons rfl (sv_Sub_cons rfl (sv_Sub_cons rfl sv_Sub_nil))))))) hb
      exact hJ (s5, (0 : Int), s3, ()) ⟨hs5, (⟨by decide, by decide⟩ : sv_RL (0 : Int)), hs3, hok, hin11⟩
    have h := h.2
    refine sv_iload_n hM dX12_numberOfString_31 rfl rfl ?_
    refine sv_iload_n hM dX12_numberOfString_32 rfl rfl ?_
    refine sv_isub hM dX12_numberOfString_33 rfl ?_
    refine sv_iconst (d := (1 : Int)) hM dX12_numberOfString_34 rfl rfl ?_
    obtain ⟨o76, h⟩ := h
    refine sv_icmp_lt hM dX12_numberOfString_35 o76 (⟨by decide, by decide⟩ : sv_R (1 : Int)) (t := 50) rfl rfl (fun hc => ?_) (fun hc => ?_)
    · have h := h.1 (hc)
      refine sv_iconst (d := (0 : Int)) hM dX12_numberOfString_50 rfl rfl ?_
      have hb := J75 (0 : Int) (⟨by decide, by decide⟩ : sv_R (0 : Int)) h
      exact sv_less (lv := [(0, .ref 0), (1, sv_I p1), (2, sv_I (S 4 p1)), (3, sv_I s3)]) (sv_Sub_cons rfl (sv_Sub_cons rfl (sv_Sub_cons rfl (sv_Sub_cons rfl sv_Sub_nil)))) hb
    · have h := h.2 (hc)
      refine sv_iload_n hM dX12_numberOfString_38 rfl rfl ?_
      refine sv_iload_n hM dX12_numberOfString_39 rfl rfl ?_
      refine sv_isub hM dX12_numberOfString_40 rfl ?_
      refine sv_bipush (d := (10 : Int)) hM dX12_numberOfString_41 rfl rfl ?_
      refine sv_icmp_gt hM dX12_numberOfString_43 o76 (⟨by decide, by decide⟩ : sv_R (10 : Int)) (t := 50) rfl rfl (fun hc => ?_) (fun hc => ?_)
      · have h := h.1 (hc)
        refine sv_iconst (d := (0 : Int)) hM dX12_numberOfString_50 rfl rfl ?_
        have hb := J75 (0 : Int) (⟨by decide, by decide⟩ : sv_R (0 : Int)) h
        exact sv_less (lv := [(0, .ref 0), (1, sv_I p1), (2, sv_I (S 4 p1)), (3, sv_I s3)]) (sv_Sub_cons rfl (sv_Sub_cons rfl (sv_Sub_cons rfl (sv_Sub_cons rfl sv_Sub_nil)))) hb
      · have h := h.2 (hc)
        refine sv_iconst (d := (1 : Int)) hM dX12_numberOfString_46 rfl rfl ?_
        refine sv_goto hM dX12_numberOfString_47 (pc' := 51) rfl ?_
        have hb := J75 (1 : Int) (⟨by decide, by decide⟩ : sv_R (1 : Int)) h
        exact sv_less (lv := [(0, .ref 0), (1, sv_I p1), (2, sv_I (S 4 p1)), (3, sv_I s3)]) (sv_Sub_cons rfl (sv_Sub_cons rfl (sv_Sub_cons rfl (sv_Sub_cons rfl sv_Sub_nil)))) hb
  have h := h.2
  refine sv_iload_n hM dX12_numberOfString_7 rfl rfl ?_
  refine sv_cond_le hM dX12_numberOfString_8 k2 (t := 29) rfl rfl (fun hc => ?_) (fun hc => ?_)
  · have h := h.1 (hc)
    refine sv_iconst (d := (0 : Int)) hM dX12_numberOfString_29 rfl rfl ?_
    have hb := J77 (0 : Int) (⟨by decide, by decide⟩ : sv_R (0 : Int)) h
    exact sv_less (lv := [(0, .ref 0), (1, sv_I p1), (2, sv_I (S 4 p1))]) (sv_Sub_cons rfl (sv_Sub_cons rfl (sv_Sub_cons rfl sv_Sub_nil))) hb
  · have h := h.2 (hc)
    refine sv_aload_n hM dX12_numberOfString_11 rfl rfl ?_
    refine sv_getA hM dX12_numberOfString_12 sm_fl_16 (sm_a0 _) sm_k5 rfl ?_
    refine sv_bipush (d := (60 : Int)) hM dX12_numberOfString_15 rfl rfl ?_
    refine sv_iload_n hM dX12_numberOfString_17 rfl rfl ?_
    refine sv_imul hM dX12_numberOfString_18 rfl ?_
    obtain ⟨o78, h⟩ := h
    have k79 : (0 ≤ (S 3 ((60 : Int) * p1)) ∧ (S 3 ((60 : Int) * p1)) ≤ 65535) := sm_okC hok sm_r3 ((60 : Int) * p1)
    have h := h k79
    refine sv_cald hM dX12_numberOfString_19 (sm_a3 _) (by decide) o78.1 o78.2 rfl (x := (S 3 ((60 : Int) * p1))) rfl ?_
    refine sv_bipush (d := (45 : Int)) hM dX12_numberOfString_20 rfl rfl ?_
    refine sv_icmp_ne hM dX12_numberOfString_22 (sv_RC k79) (⟨by decide, by decide⟩ : sv_R (45 : Int)) (t := 29) rfl rfl (fun hc => ?_) (fun hc => ?_)
    · have h := h.1 (hc)
      refine sv_iconst (d := (0 : Int)) hM dX12_numberOfString_29 rfl rfl ?_
      have hb := J77 (0 : Int) (⟨by decide, by decide⟩ : sv_R (0 : Int)) h
      exact sv_less (lv := [(0, .ref 0), (1, sv_I p1), (2, sv_I (S 4 p1))]) (sv_Sub_cons rfl (sv_Sub_cons rfl (sv_Sub_cons rfl sv_Sub_nil))) hb
    · have h := h.2 (hc)
      refine sv_iconst (d := (1 : Int)) hM dX12_numberOfString_25 rfl rfl ?_
      refine sv_goto hM dX12_numberOfString_26 (pc' := 30) rfl ?_
      have hb := J77 (1 : Int) (⟨by decide, by decide⟩ : sv_R (1 : Int)) h
      exact sv_less (lv := [(0, .ref 0), (1, sv_I p1), (2, sv_I (S 4 p1))]) (sv_Sub_cons rfl (sv_Sub_cons rfl (sv_Sub_cons rfl sv_Sub_nil))) hb
def q_numberOf (p1 : Int) (p2 : Int) (S : sv_S) : Option Value → sv_S → Prop := fun v S' => ∃ r : Int, v = some (sv_I r) ∧ sv_R r ∧ sm_ok S' ∧ sv_mod [1113] S S' ∧ (True)
theorem la_numberOf_0 {x0 : Int} (h0 : x0 = 0) : ¬ x0 = 6 := by omega
theorem la_numberOf_1 {x0 : Int} (h0 : x0 = 0) : x0 ≤ 5 := by omega
theorem la_numberOf_2 {x0 : Int} (h0 : x0 ≤ 5) (h1 : ¬ x0 = 5) : x0 < 5 := by omega
theorem la_numberOf_3 {x0 : Int} (h0 : x0 = 0) : x0 ≤ 6 := by omega
theorem la_numberOf_4 {x0 : Int} (h0 : x0 ≤ 6) (h1 : ¬ x0 = 6) : x0 < 6 := by omega
theorem la_numberOf_5 {x0 : Int} (h0 : x0 = 0) : x0 ≤ 2 := by omega
theorem la_numberOf_6 {x0 : Int} (h0 : x0 ≤ 2) (h1 : ¬ x0 = 2) : x0 < 2 := by omega
theorem la_numberOf_7 {x0 : Int} (h0 : x0 = 0) (h1 : ¬ ¬ x0 = 6) : False := by omega
theorem la_numberOf_8 {x0 : Int} (h0 : x0 = 4) : ¬ x0 = 6 := by omega
theorem la_numberOf_9 {x0 : Int} (h0 : x0 = 4) : 0 ≤ x0 := by omega
theorem la_numberOf_10 {x0 : Int} (h0 : 0 ≤ x0) (h1 : ¬ x0 = 0) : 0 < x0 := by omega
theorem la_numberOf_11 {x0 : Int} (h0 : x0 = 4) : x0 ≤ 5 := by omega
theorem la_numberOf_12 {x0 : Int} (h0 : x0 < 5) : x0 ≤ 6 := by omega
theorem la_numberOf_13 {x0 : Int} (h0 : x0 = 4) : 2 ≤ x0 := by omega
theorem la_numberOf_14 {x0 : Int} (h0 : 2 ≤ x0) (h1 : ¬ x0 = 2) : 2 < x0 := by omega
theorem la_numberOf_15 {x0 : Int} (h0 : x0 < 5) (h1 : ¬ ¬ x0 = 6) : False := by omega
theorem la_numberOf_16 {x0 : Int} (h0 : 7 ≤ x0) : ¬ x0 = 6 := by omega
theorem la_numberOf_17 {x0 : Int} (h0 : 7 ≤ x0) : 0 ≤ x0 := by omega
theorem la_numberOf_18 {x0 : Int} (h0 : 7 ≤ x0) : 4 ≤ x0 := by omega
theorem la_numberOf_19 {x0 : Int} (h0 : 4 ≤ x0) (h1 : ¬ x0 = 4) : 4 < x0 := by omega
theorem la_numberOf_20 {x0 : Int} (h0 : 7 ≤ x0) : 5 ≤ x0 := by omega
theorem la_numberOf_21 {x0 : Int} (h0 : 5 ≤ x0) (h1 : ¬ x0 = 5) : 5 < x0 := by omega
theorem la_numberOf_22 {x0 : Int} (h0 : 7 ≤ x0) : 6 ≤ x0 := by omega
theorem la_numberOf_23 {x0 : Int} (h0 : 6 ≤ x0) (h1 : ¬ x0 = 6) : 6 < x0 := by omega
theorem la_numberOf_24 {x0 : Int} (h0 : 7 ≤ x0) : 2 ≤ x0 := by omega
theorem la_numberOf_25 {x0 : Int} (h0 : 7 ≤ x0) (h1 : ¬ ¬ x0 = 6) : False := by omega
theorem la_numberOf_26 {x0 : Int} (h0 : ¬ 7 ≤ x0) : x0 ≤ 6 := by omega
theorem la_numberOf_27 {x0 : Int} (h0 : x0 < 6) : x0 ≤ 5 := by omega
theorem la_numberOf_28 {x0 : Int} (h0 : x0 < 5) : x0 ≤ 4 := by omega
theorem la_numberOf_29 {x0 : Int} (h0 : x0 ≤ 4) (h1 : ¬ x0 = 4) : x0 < 4 := by omega
theorem la_numberOf_30 {x0 : Int} (h0 : ¬ ¬ x0 = 2) : 0 ≤ x0 := by omega
theorem la_numberOf_31 {x0 : Int} (h0 : ¬ 7 ≤ x0) (h1 : ¬ ¬ x0 = 6) : x0 = 6 := by omega
theorem la_numberOf_32 {x0 : Int} (h0 : ¬ ¬ x0 = 6) : 0 ≤ x0 := by omega
theorem la_numberOf_33 {x0 : Int} (h0 : ¬ ¬ x0 = 6) : 4 ≤ x0 := by omega
theorem la_numberOf_34 {x0 : Int} (h0 : ¬ ¬ x0 = 6) : 5 ≤ x0 := by omega
theorem la_numberOf_35 {x0 : Int} (h0 : 0 ≤ x0) (h1 : x0 < 400) : 0 ≤ x0 ∧ x0 < 400 := by omega
theorem la_numberOf_36 {x0 : Int} (h0 : ¬ ¬ x0 = 5) : ¬ x0 = 6 := by omega
theorem la_numberOf_37 {x0 : Int} (h0 : ¬ ¬ x0 = 5) : 0 ≤ x0 := by omega
theorem la_numberOf_38 {x0 : Int} (h0 : ¬ ¬ x0 = 5) : 4 ≤ x0 := by omega
set_option maxHeartbeats 2000000 in
theorem f_numberOf : ∀ (p1 : Int) (p2 : Int) (S : sv_S), sm_ok S → sv_R p1 → sv_R p2 → (31 ≤ (S 1007 0) ∧ (S 1007 0) ≤ 400 ∧ sm_LN (S 4) 400 (S 1007 0) ∧ (p1 = 6 → 0 ≤ p2 ∧ p2 < 400)) → (((p1 = (0 : Int)) → (((¬ p1 = (5 : Int)) → (((¬ p1 = (6 : Int)) → (((¬ p1 = (2 : Int)) → (True)) ∧ ((¬ (¬ p1 = (2 : Int))) → (True)))) ∧ ((¬ (¬ p1 = (6 : Int))) → (31 ≤ (S 1007 0) ∧ (S 1007 0) ≤ 400 ∧ sm_LN (S 4) 400 (S 1007 0) ∧ 0 ≤ p2 ∧ p2 < 400) ∧ (∀ r8 : Int, sv_R r8 → ∀ g4 : sv_S, (True) → (True))))) ∧ ((¬ (¬ p1 = (5 : Int))) → (True)))) ∧ ((¬ (p1 = (0 : Int))) → (((p1 = (4 : Int)) → (((¬ p1 = (5 : Int)) → (((¬ p1 = (6 : Int)) → (((¬ p1 = (2 : Int)) → (True)) ∧ ((¬ (¬ p1 = (2 : Int))) → (True)))) ∧ ((¬ (¬ p1 = (6 : Int))) → (31 ≤ (S 1007 0) ∧ (S 1007 0) ≤ 400 ∧ sm_LN (S 4) 400 (S 1007 0) ∧ 0 ≤ p2 ∧ p2 < 400) ∧ (∀ r17 : Int, sv_R r17 → ∀ g13 : sv_S, (True) → (True))))) ∧ ((¬ (¬ p1 = (5 : Int))) → (True)))) ∧ ((¬ (p1 = (4 : Int))) → ((((7 : Int) ≤ p1) → (((¬ p1 = (5 : Int)) → (((¬ p1 = (6 : Int)) → (((¬ p1 = (2 : Int)) → (True)) ∧ ((¬ (¬ p1 = (2 : Int))) → (True)))) ∧ ((¬ (¬ p1 = (6 : Int))) → (31 ≤ (S 1007 0) ∧ (S 1007 0) ≤ 400 ∧ sm_LN (S 4) 400 (S 1007 0) ∧ 0 ≤ p2 ∧ p2 < 400) ∧ (∀ r26 : Int, sv_R r26 → ∀ g22 : sv_S, (True) → (True))))) ∧ ((¬ (¬ p1 = (5 : Int))) → (True)))) ∧ ((¬ ((7 : Int) ≤ p1)) → (((¬ p1 = (5 : Int)) → (((¬ p1 = (6 : Int)) → (((¬ p1 = (2 : Int)) → (True)) ∧ ((¬ (¬ p1 = (2 : Int))) → (True)))) ∧ ((¬ (¬ p1 = (6 : Int))) → (31 ≤ (S 1007 0) ∧ (S 1007 0) ≤ 400 ∧ sm_LN (S 4) 400 (S 1007 0) ∧ 0 ≤ p2 ∧ p2 < 400) ∧ (∀ r35 : Int, sv_R r35 → ∀ g31 : sv_S, (True) → (True))))) ∧ ((¬ (¬ p1 = (5 : Int))) → (True))))))))) := by
  intro p1
  intro p2
  intro S
  intro h1_
  intro h2_
  intro h3_
  rintro ⟨h4_, ⟨h5_, ⟨h6_, h7_⟩⟩⟩
  refine ⟨?_, ?_⟩
  · skip
    intro h8_
    refine ⟨?_, ?_⟩
    · skip
      intro h9_
      refine ⟨?_, ?_⟩
      · skip
        intro h10_
        refine ⟨?_, ?_⟩
        · skip
          intro h11_
          exact trivial
        intro h12_
        exact trivial
      intro h13_
      refine ⟨?_, ?_⟩
      · skip
        refine ⟨h4_, ?_⟩
        refine ⟨h5_, ?_⟩
        refine ⟨h6_, ?_⟩
        refine ⟨?_, ?_⟩
        · skip
          exact ((la_numberOf_7 h8_ h13_)).elim
        exact ((la_numberOf_7 h8_ h13_)).elim
      intro r8
      intro h14_
      intro g4
      intro _
      exact trivial
    intro h15_
    exact trivial
  intro h16_
  refine ⟨?_, ?_⟩
  · skip
    intro h17_
    refine ⟨?_, ?_⟩
    · skip
      intro h18_
      refine ⟨?_, ?_⟩
      · skip
        intro h19_
        refine ⟨?_, ?_⟩
        · skip
          intro h20_
          exact trivial
        intro h21_
        exact trivial
      intro h22_
      refine ⟨?_, ?_⟩
      · skip
        refine ⟨h4_, ?_⟩
        refine ⟨h5_, ?_⟩
        refine ⟨h6_, ?_⟩
        refine ⟨?_, ?_⟩
        · skip
          exact ((la_numberOf_15 (la_numberOf_2 (la_numberOf_11 h17_) h18_) h22_)).elim
        exact ((la_numberOf_15 (la_numberOf_2 (la_numberOf_11 h17_) h18_) h22_)).elim
      intro r17
      intro h23_
      intro g13
      intro _
      exact trivial
    intro h24_
    exact trivial
  intro h25_
  refine ⟨?_, ?_⟩
  · skip
    intro h26_
    refine ⟨?_, ?_⟩
    · skip
      intro h27_
      refine ⟨?_, ?_⟩
      · skip
        intro h28_
        refine ⟨?_, ?_⟩
        · skip
          intro h29_
          exact trivial
        intro h30_
        exact trivial
      intro h31_
      refine ⟨?_, ?_⟩
      · skip
        refine ⟨h4_, ?_⟩
        refine ⟨h5_, ?_⟩
        refine ⟨h6_, ?_⟩
        refine ⟨?_, ?_⟩
        · skip
          exact ((la_numberOf_25 h26_ h31_)).elim
        exact ((la_numberOf_25 h26_ h31_)).elim
      intro r26
      intro h32_
      intro g22
      intro _
      exact trivial
    intro h33_
    exact trivial
  intro h34_
  refine ⟨?_, ?_⟩
  · skip
    intro h35_
    refine ⟨?_, ?_⟩
    · skip
      intro h36_
      refine ⟨?_, ?_⟩
      · skip
        intro h37_
        exact trivial
      intro h38_
      exact trivial
    intro h39_
    obtain ⟨h40_, h41_⟩ := (h7_ (la_numberOf_31 h34_ h39_))
    refine ⟨⟨h4_, ⟨h5_, ⟨h6_, (la_numberOf_35 h40_ h41_)⟩⟩⟩, ?_⟩
    intro r35
    intro h42_
    intro g31
    intro _
    exact trivial
  intro h43_
  exact trivial
set_option maxRecDepth 8000 in
set_option maxHeartbeats 2000000 in
theorem t_numberOf : ∀ (p1 : Int) (p2 : Int) (S : sv_S), sm_ok S → sv_R p1 → sv_R p2 → (31 ≤ (S 1007 0) ∧ (S 1007 0) ≤ 400 ∧ sm_LN (S 4) 400 (S 1007 0) ∧ (p1 = 6 → 0 ≤ p2 ∧ p2 < 400)) → sv_T sm_XS sm_cs sm_L sm_sh 2 (q_numberOf p1 p2 S) 127 0 (lv_args 0 [.ref 0, sv_I p1, sv_I p2]) [] S := by
  intro p1 p2 S hok hp1 hp2 hpre
  have h := f_numberOf p1 p2 S hok hp1 hp2 hpre
  have hM := sm_h127
  show sv_T sm_XS sm_cs sm_L sm_sh 2 (q_numberOf p1 p2 S) 127 0 [(0, .ref 0), (1, sv_I p1), (2, sv_I p2)] [] S
  refine sv_aload_n hM dX12_numberOf_0 rfl rfl ?_
  refine sv_iload_n hM dX12_numberOf_1 rfl rfl ?_
  refine sv_cond_eq hM dX12_numberOf_2 hp1 (t := 20) rfl rfl (fun hc => ?_) (fun hc => ?_)
  · have h := h.1 (hc)
    refine sv_iconst (d := (0 : Int)) hM dX12_numberOf_20 rfl rfl ?_
    refine sv_putI sm_X hM dX12_numberOf_21 sm_fp_806 (sm_a0 _) sm_q113 (Or.inr rfl) rfl (sv_nz (⟨by decide, by decide⟩ : 0 ≤ (0 : Int) ∧ (0 : Int) ≤ 1)) (sv_fz (⟨by decide, by decide⟩ : 0 ≤ (0 : Int) ∧ (0 : Int) ≤ 1)) rfl ?_
    have ok1 : sm_ok (sv_up S 1113 0 (0 : Int)) := sm_upZ hok sm_r1113 (⟨by decide, by decide⟩ : 0 ≤ (0 : Int) ∧ (0 : Int) ≤ 1)
    have md2 : sv_mod [1113] S (sv_up S 1113 0 (0 : Int)) := sv_mod.up sv_mod.rf (by decide)
    refine sv_iload_n hM dX12_numberOf_24 rfl rfl ?_
    refine sv_iconst (d := (5 : Int)) hM dX12_numberOf_25 rfl rfl ?_
    refine sv_icmp_ne hM dX12_numberOf_26 hp1 (⟨by decide, by decide⟩ : sv_R (5 : Int)) (t := 31) rfl rfl (fun hc => ?_) (fun hc => ?_)
    · have h := h.1 (hc)
      refine sv_iload_n hM dX12_numberOf_31 rfl rfl ?_
      refine sv_bipush (d := (6 : Int)) hM dX12_numberOf_32 rfl rfl ?_
      refine sv_icmp_ne hM dX12_numberOf_34 hp1 (⟨by decide, by decide⟩ : sv_R (6 : Int)) (t := 43) rfl rfl (fun hc => ?_) (fun hc => ?_)
      · have h := h.1 (hc)
        refine sv_iload_n hM dX12_numberOf_43 rfl rfl ?_
        refine sv_iconst (d := (2 : Int)) hM dX12_numberOf_44 rfl rfl ?_
        refine sv_icmp_ne hM dX12_numberOf_45 hp1 (⟨by decide, by decide⟩ : sv_R (2 : Int)) (t := 52) rfl rfl (fun hc => ?_) (fun hc => ?_)
        · have h := h.1 (hc)
          refine sv_iconst (d := (0 : Int)) hM dX12_numberOf_52 rfl rfl ?_
          exact sv_iret hM dX12_numberOf_53 rfl rfl ⟨(0 : Int), rfl, (⟨by decide, by decide⟩ : sv_R (0 : Int)), ok1, md2, h⟩
        · have h := h.2 (hc)
          refine sv_iconst (d := (1 : Int)) hM dX12_numberOf_48 rfl rfl ?_
          refine sv_goto hM dX12_numberOf_49 (pc' := 53) rfl ?_
          exact sv_iret hM dX12_numberOf_53 rfl rfl ⟨(1 : Int), rfl, (⟨by decide, by decide⟩ : sv_R (1 : Int)), ok1, md2, h⟩
      · have h := h.2 (hc)
        refine sv_aload_n hM dX12_numberOf_37 rfl rfl ?_
        refine sv_iload_n hM dX12_numberOf_38 rfl rfl ?_
        obtain ⟨o3, h⟩ := h
        refine sv_callV hM dX12_numberOf_39 sm_iv_809 (by decide) (sm_a0 _) rfl rfl (Nat.le_of_ble_eq_true rfl) sm_h128 (Nat.le_of_ble_eq_true rfl) (Nat.le_of_ble_eq_true rfl) (F' := 1) (Nat.le_of_ble_eq_true rfl) rfl (t_numberOfString p2 (sv_up S 1113 0 (0 : Int)) ok1 hp2 o3) (fun v S1 hq => ?_)
        obtain ⟨r8, rfl, hr8, ok5, md6, hpo7⟩ := hq
        obtain ⟨g4, rfl⟩ : ∃ g, S1 = sv_sts (sv_up S 1113 0 (0 : Int)) [1113] g := ⟨_, md6.eq⟩
        show sv_T sm_XS sm_cs sm_L sm_sh 2 (q_numberOf p1 p2 S) 127 42 [(0, .ref 0), (1, sv_I p1), (2, sv_I p2)] [sv_I r8] (sv_sts (sv_up S 1113 0 (0 : Int)) [1113] g4)
        have md9 : sv_mod [1113] S (sv_sts (sv_up S 1113 0 (0 : Int)) [1113] g4) := sv_mod.sts md2 (by decide)
        have h := h r8 hr8 g4 hpo7
        exact sv_iret hM dX12_numberOf_42 rfl rfl ⟨r8, rfl, hr8, ok5, md9, h⟩
    · have h := h.2 (hc)
      refine sv_iload_n hM dX12_numberOf_29 rfl rfl ?_
      exact sv_iret hM dX12_numberOf_30 rfl rfl ⟨p2, rfl, hp2, ok1, md2, h⟩
  · have h := h.2 (hc)
    refine sv_iload_n hM dX12_numberOf_5 rfl rfl ?_
    refine sv_iconst (d := (4 : Int)) hM dX12_numberOf_6 rfl rfl ?_
    refine sv_icmp_eq hM dX12_numberOf_7 hp1 (⟨by decide, by decide⟩ : sv_R (4 : Int)) (t := 20) rfl rfl (fun hc => ?_) (fun hc => ?_)
    · have h := h.1 (hc)
      refine sv_iconst (d := (0 : Int)) hM dX12_numberOf_20 rfl rfl ?_
      refine sv_putI sm_X hM dX12_numberOf_21 sm_fp_806 (sm_a0 _) sm_q113 (Or.inr rfl) rfl (sv_nz (⟨by decide, by decide⟩ : 0 ≤ (0 : Int) ∧ (0 : Int) ≤ 1)) (sv_fz (⟨by decide, by decide⟩ : 0 ≤ (0 : Int) ∧ (0 : Int) ≤ 1)) rfl ?_
      have ok10 : sm_ok (sv_up S 1113 0 (0 : Int)) := sm_upZ hok sm_r1113 (⟨by decide, by decide⟩ : 0 ≤ (0 : Int) ∧ (0 : Int) ≤ 1)
      have md11 : sv_mod [1113] S (sv_up S 1113 0 (0 : Int)) := sv_mod.up sv_mod.rf (by decide)
      refine sv_iload_n hM dX12_numberOf_24 rfl rfl ?_
      refine sv_iconst (d := (5 : Int)) hM dX12_numberOf_25 rfl rfl ?_
      refine sv_icmp_ne hM dX12_numberOf_26 hp1 (⟨by decide, by decide⟩ : sv_R (5 : Int)) (t := 31) rfl rfl (fun hc => ?_) (fun hc => ?_)
      · have h := h.1 (hc)
        refine sv_iload_n hM dX12_numberOf_31 rfl rfl ?_
        refine sv_bipush (d := (6 : Int)) hM dX12_numberOf_32 rfl rfl ?_
        refine sv_icmp_ne hM dX12_numberOf_34 hp1 (⟨by decide, by decide⟩ : sv_R (6 : Int)) (t := 43) rfl rfl (fun hc => ?_) (fun hc => ?_)
        · have h := h.1 (hc)
          refine sv_iload_n hM dX12_numberOf_43 rfl rfl ?_
          refine sv_iconst (d := (2 : Int)) hM dX12_numberOf_44 rfl rfl ?_
          refine sv_icmp_ne hM dX12_numberOf_45 hp1 (⟨by decide, by decide⟩ : sv_R (2 : Int)) (t := 52) rfl rfl (fun hc => ?_) (fun hc => ?_)
          · have h := h.1 (hc)
            refine sv_iconst (d := (0 : Int)) hM dX12_numberOf_52 rfl rfl ?_
            exact sv_iret hM dX12_numberOf_53 rfl rfl ⟨(0 : Int), rfl, (⟨by decide, by decide⟩ : sv_R (0 : Int)), ok10, md11, h⟩
          · have h := h.2 (hc)
            refine sv_iconst (d := (1 : Int)) hM dX12_numberOf_48 rfl rfl ?_
            refine sv_goto hM dX12_numberOf_49 (pc' := 53) rfl ?_
            exact sv_iret hM dX12_numberOf_53 rfl rfl ⟨(1 : Int), rfl, (⟨by decide, by decide⟩ : sv_R (1 : Int)), ok10, md11, h⟩
        · have h := h.2 (hc)
          refine sv_aload_n hM dX12_numberOf_37 rfl rfl ?_
          refine sv_iload_n hM dX12_numberOf_38 rfl rfl ?_
          obtain ⟨o12, h⟩ := h
          refine sv_callV hM dX12_numberOf_39 sm_iv_809 (by decide) (sm_a0 _) rfl rfl (Nat.le_of_ble_eq_true rfl) sm_h128 (Nat.le_of_ble_eq_true rfl) (Nat.le_of_ble_eq_true rfl) (F' := 1) (Nat.le_of_ble_eq_true rfl) rfl (t_numberOfString p2 (sv_up S 1113 0 (0 : Int)) ok10 hp2 o12) (fun v S1 hq => ?_)
          obtain ⟨r17, rfl, hr17, ok14, md15, hpo16⟩ := hq
          obtain ⟨g13, rfl⟩ : ∃ g, S1 = sv_sts (sv_up S 1113 0 (0 : Int)) [1113] g := ⟨_, md15.eq⟩
          show sv_T sm_XS sm_cs sm_L sm_sh 2 (q_numberOf p1 p2 S) 127 42 [(0, .ref 0), (1, sv_I p1), (2, sv_I p2)] [sv_I r17] (sv_sts (sv_up S 1113 0 (0 : Int)) [1113] g13)
          have md18 : sv_mod [1113] S (sv_sts (sv_up S 1113 0 (0 : Int)) [1113] g13) := sv_mod.sts md11 (by decide)
          have h := h r17 hr17 g13 hpo16
          exact sv_iret hM dX12_numberOf_42 rfl rfl ⟨r17, rfl, hr17, ok14, md18, h⟩
      · have h := h.2 (hc)
        refine sv_iload_n hM dX12_numberOf_29 rfl rfl ?_
        exact sv_iret hM dX12_numberOf_30 rfl rfl ⟨p2, rfl, hp2, ok10, md11, h⟩
    · have h := h.2 (hc)
      refine sv_iload_n hM dX12_numberOf_10 rfl rfl ?_
      refine sv_bipush (d := (7 : Int)) hM dX12_numberOf_11 rfl rfl ?_
      refine sv_icmp_ge hM dX12_numberOf_13 hp1 (⟨by decide, by decide⟩ : sv_R (7 : Int)) (t := 20) rfl rfl (fun hc => ?_) (fun hc => ?_)
      · have h := h.1 (hc)
        refine sv_iconst (d := (0 : Int)) hM dX12_numberOf_20 rfl rfl ?_
        refine sv_putI sm_X hM dX12_numberOf_21 sm_fp_806 (sm_a0 _) sm_q113 (Or.inr rfl) rfl (sv_nz (⟨by decide, by decide⟩ : 0 ≤ (0 : Int) ∧ (0 : Int) ≤ 1)) (sv_fz (⟨by decide, by decide⟩ : 0 ≤ (0 : Int) ∧ (0 : Int) ≤ 1)) rfl ?_
        have ok19 : sm_ok (sv_up S 1113 0 (0 : Int)) := sm_upZ hok sm_r1113 (⟨by decide, by decide⟩ : 0 ≤ (0 : Int) ∧ (0 : Int) ≤ 1)
        have md20 : sv_mod [1113] S (sv_up S 1113 0 (0 : Int)) := sv_mod.up sv_mod.rf (by decide)
        refine sv_iload_n hM dX12_numberOf_24 rfl rfl ?_
        refine sv_iconst (d := (5 : Int)) hM dX12_numberOf_25 rfl rfl ?_
        refine sv_icmp_ne hM dX12_numberOf_26 hp1 (⟨by decide, by decide⟩ : sv_R (5 : Int)) (t := 31) rfl rfl (fun hc => ?_) (fun hc => ?_)
        · have h := h.1 (hc)
          refine sv_iload_n hM dX12_numberOf_31 rfl rfl ?_
          refine sv_bipush (d := (6 : Int)) hM dX12_numberOf_32 rfl rfl ?_
          refine sv_icmp_ne hM dX12_numberOf_34 hp1 (⟨by decide, by decide⟩ : sv_R (6 : Int)) (t := 43) rfl rfl (fun hc => ?_) (fun hc => ?_)
          · have h := h.1 (hc)
            refine sv_iload_n hM dX12_numberOf_43 rfl rfl ?_
            refine sv_iconst (d := (2 : Int)) hM dX12_numberOf_44 rfl rfl ?_
            refine sv_icmp_ne hM dX12_numberOf_45 hp1 (⟨by decide, by decide⟩ : sv_R (2 : Int)) (t := 52) rfl rfl (fun hc => ?_) (fun hc => ?_)
            · have h := h.1 (hc)
              refine sv_iconst (d := (0 : Int)) hM dX12_numberOf_52 rfl rfl ?_
              exact sv_iret hM dX12_numberOf_53 rfl rfl ⟨(0 : Int), rfl, (⟨by decide, by decide⟩ : sv_R (0 : Int)), ok19, md20, h⟩
            · have h := h.2 (hc)
              refine sv_iconst (d := (1 : Int)) hM dX12_numberOf_48 rfl rfl ?_
              refine sv_goto hM dX12_numberOf_49 (pc' := 53) rfl ?_
              exact sv_iret hM dX12_numberOf_53 rfl rfl ⟨(1 : Int), rfl, (⟨by decide, by decide⟩ : sv_R (1 : Int)), ok19, md20, h⟩
          · have h := h.2 (hc)
            refine sv_aload_n hM dX12_numberOf_37 rfl rfl ?_
            refine sv_iload_n hM dX12_numberOf_38 rfl rfl ?_
            obtain ⟨o21, h⟩ := h
            refine sv_callV hM dX12_numberOf_39 sm_iv_809 (by decide) (sm_a0 _) rfl rfl (Nat.le_of_ble_eq_true rfl) sm_h128 (Nat.le_of_ble_eq_true rfl) (Nat.le_of_ble_eq_true rfl) (F' := 1) (Nat.le_of_ble_eq_true rfl) rfl (t_numberOfString p2 (sv_up S 1113 0 (0 : Int)) ok19 hp2 o21) (fun v S1 hq => ?_)
            obtain ⟨r26, rfl, hr26, ok23, md24, hpo25⟩ := hq
            obtain ⟨g22, rfl⟩ : ∃ g, S1 = sv_sts (sv_up S 1113 0 (0 : Int)) [1113] g := ⟨_, md24.eq⟩
            show sv_T sm_XS sm_cs sm_L sm_sh 2 (q_numberOf p1 p2 S) 127 42 [(0, .ref 0), (1, sv_I p1), (2, sv_I p2)] [sv_I r26] (sv_sts (sv_up S 1113 0 (0 : Int)) [1113] g22)
            have md27 : sv_mod [1113] S (sv_sts (sv_up S 1113 0 (0 : Int)) [1113] g22) := sv_mod.sts md20 (by decide)
            have h := h r26 hr26 g22 hpo25
            exact sv_iret hM dX12_numberOf_42 rfl rfl ⟨r26, rfl, hr26, ok23, md27, h⟩
        · have h := h.2 (hc)
          refine sv_iload_n hM dX12_numberOf_29 rfl rfl ?_
          exact sv_iret hM dX12_numberOf_30 rfl rfl ⟨p2, rfl, hp2, ok19, md20, h⟩
      · have h := h.2 (hc)
        refine sv_iconst (d := (1 : Int)) hM dX12_numberOf_16 rfl rfl ?_
        refine sv_goto hM dX12_numberOf_17 (pc' := 21) rfl ?_
        refine sv_putI sm_X hM dX12_numberOf_21 sm_fp_806 (sm_a0 _) sm_q113 (Or.inr rfl) rfl (sv_nz (⟨by decide, by decide⟩ : 0 ≤ (1 : Int) ∧ (1 : Int) ≤ 1)) (sv_fz (⟨by decide, by decide⟩ : 0 ≤ (1 : Int) ∧ (1 : Int) ≤ 1)) rfl ?_
        have ok28 : sm_ok (sv_up S 1113 0 (1 : Int)) := sm_upZ hok sm_r1113 (⟨by decide, by decide⟩ : 0 ≤ (1 : Int) ∧ (1 : Int) ≤ 1)
        have md29 : sv_mod [1113] S (sv_up S 1113 0 (1 : Int)) := sv_mod.up sv_mod.rf (by decide)
        refine sv_iload_n hM dX12_numberOf_24 rfl rfl ?_
        refine sv_iconst (d := (5 : Int)) hM dX12_numberOf_25 rfl rfl ?_
        refine sv_icmp_ne hM dX12_numberOf_26 hp1 (⟨by decide, by decide⟩ : sv_R (5 : Int)) (t := 31) rfl rfl (fun hc => ?_) (fun hc => ?_)
        · have h := h.1 (hc)
          refine sv_iload_n hM dX12_numberOf_31 rfl rfl ?_
          refine sv_bipush (d := (6 : Int)) hM dX12_numberOf_32 rfl rfl ?_
          refine sv_icmp_ne hM dX12_numberOf_34 hp1 (⟨by decide, by decide⟩ : sv_R (6 : Int)) (t := 43) rfl rfl (fun hc => ?_) (fun hc => ?_)
          · have h := h.1 (hc)
            refine sv_iload_n hM dX12_numberOf_43 rfl rfl ?_
            refine sv_iconst (d := (2 : Int)) hM dX12_numberOf_44 rfl rfl ?_
            refine sv_icmp_ne hM dX12_numberOf_45 hp1 (⟨by decide, by decide⟩ : sv_R (2 : Int)) (t := 52) rfl rfl (fun hc => ?_) (fun hc => ?_)
            · have h := h.1 (hc)
              refine sv_iconst (d := (0 : Int)) hM dX12_numberOf_52 rfl rfl ?_
              exact sv_iret hM dX12_numberOf_53 rfl rfl ⟨(0 : Int), rfl, (⟨by decide, by decide⟩ : sv_R (0 : Int)), ok28, md29, h⟩
            · have h := h.2 (hc)
              refine sv_iconst (d := (1 : Int)) hM dX12_numberOf_48 rfl rfl ?_
              refine sv_goto hM dX12_numberOf_49 (pc' := 53) rfl ?_
              exact sv_iret hM dX12_numberOf_53 rfl rfl ⟨(1 : Int), rfl, (⟨by decide, by decide⟩ : sv_R (1 : Int)), ok28, md29, h⟩
          · have h := h.2 (hc)
            refine sv_aload_n hM dX12_numberOf_37 rfl rfl ?_
            refine sv_iload_n hM dX12_numberOf_38 rfl rfl ?_
            obtain ⟨o30, h⟩ := h
            refine sv_callV hM dX12_numberOf_39 sm_iv_809 (by decide) (sm_a0 _) rfl rfl (Nat.le_of_ble_eq_true rfl) sm_h128 (Nat.le_of_ble_eq_true rfl) (Nat.le_of_ble_eq_true rfl) (F' := 1) (Nat.le_of_ble_eq_true rfl) rfl (t_numberOfString p2 (sv_up S 1113 0 (1 : Int)) ok28 hp2 o30) (fun v S1 hq => ?_)
            obtain ⟨r35, rfl, hr35, ok32, md33, hpo34⟩ := hq
            obtain ⟨g31, rfl⟩ : ∃ g, S1 = sv_sts (sv_up S 1113 0 (1 : Int)) [1113] g := ⟨_, md33.eq⟩
            show sv_T sm_XS sm_cs sm_L sm_sh 2 (q_numberOf p1 p2 S) 127 42 [(0, .ref 0), (1, sv_I p1), (2, sv_I p2)] [sv_I r35] (sv_sts (sv_up S 1113 0 (1 : Int)) [1113] g31)
            have md36 : sv_mod [1113] S (sv_sts (sv_up S 1113 0 (1 : Int)) [1113] g31) := sv_mod.sts md29 (by decide)
            have h := h r35 hr35 g31 hpo34
            exact sv_iret hM dX12_numberOf_42 rfl rfl ⟨r35, rfl, hr35, ok32, md36, h⟩
        · have h := h.2 (hc)
          refine sv_iload_n hM dX12_numberOf_29 rfl rfl ?_
          exact sv_iret hM dX12_numberOf_30 rfl rfl ⟨p2, rfl, hp2, ok28, md29, h⟩
def q_isTrue (p1 : Int) (p2 : Int) (S : sv_S) : Option Value → sv_S → Prop := fun v S' => ∃ r : Int, v = some (sv_I r) ∧ sv_R r ∧ sm_ok S' ∧ sv_mod [] S S' ∧ (r = 0 ∨ r = 1)
theorem la_isTrue_0 {x0 : Int} : ¬ x0 = 6 → (x0 = 2 → (1 : Int) = 0 ∨ (1 : Int) = 1) ∧ (¬ x0 = 2 → (¬ x0 = 7 → (0 : Int) = 0 ∨ (0 : Int) = 1) ∧ (¬ ¬ x0 = 7 → (1 : Int) = 0 ∨ (1 : Int) = 1)) := by omega
theorem la_isTrue_1 {x0 : Int} (h0 : ¬ ¬ x0 = 6) : x0 = 6 := by omega
theorem la_isTrue_2 {x0 : Int} (h0 : ¬ ¬ x0 = 6) : 5 ≤ x0 := by omega
theorem la_isTrue_3 {x0 : Int} (h0 : 5 ≤ x0) (h1 : ¬ x0 = 5) : 5 < x0 := by omega
theorem la_isTrue_4 {x0 : Int} (h0 : 0 ≤ x0) (h1 : x0 < 400) : 0 ≤ x0 ∧ x0 < 400 := by omega
theorem la_isTrue_5 {x0 : Int} : x0 ≤ 0 → (0 : Int) = 0 ∨ (0 : Int) = 1 := by omega
theorem la_isTrue_6 : (1 : Int) = 0 ∨ (1 : Int) = 1 := by omega
theorem la_isTrue_7 {x0 : Int} (h0 : ¬ ¬ x0 = 5) : ¬ x0 = 6 := by omega
theorem la_isTrue_8 {x0 : Int} : x0 = 0 → (0 : Int) = 0 ∨ (0 : Int) = 1 := by omega
set_option maxHeartbeats 2000000 in
theorem f_isTrue : ∀ (p1 : Int) (p2 : Int) (S : sv_S), sm_ok S → sv_R p1 → sv_R p2 → (31 ≤ (S 1007 0) ∧ (S 1007 0) ≤ 400 ∧ sm_LN (S 4) 400 (S 1007 0) ∧ (p1 = 6 → 0 ≤ p2 ∧ p2 < 400)) → (((¬ p1 = (5 : Int)) → (((¬ p1 = (6 : Int)) → (((p1 = (2 : Int)) → ((1 : Int) = 0 ∨ (1 : Int) = 1)) ∧ ((¬ (p1 = (2 : Int))) → (((¬ p1 = (7 : Int)) → ((0 : Int) = 0 ∨ (0 : Int) = 1)) ∧ ((¬ (¬ p1 = (7 : Int))) → ((1 : Int) = 0 ∨ (1 : Int) = 1)))))) ∧ ((¬ (¬ p1 = (6 : Int))) → (0 ≤ p2 ∧ p2 < 400) ∧ (sv_R (S 4 p2) → ((((S 4 p2) ≤ (0 : Int)) → ((0 : Int) = 0 ∨ (0 : Int) = 1)) ∧ ((¬ ((S 4 p2) ≤ (0 : Int))) → ((1 : Int) = 0 ∨ (1 : Int) = 1))))))) ∧ ((¬ (¬ p1 = (5 : Int))) → (((p2 = (0 : Int)) → ((0 : Int) = 0 ∨ (0 : Int) = 1)) ∧ ((¬ (p2 = (0 : Int))) → ((1 : Int) = 0 ∨ (1 : Int) = 1))))) := by
  intro p1
  intro p2
  intro S
  intro h1_
  intro h2_
  intro h3_
  rintro ⟨h4_, ⟨h5_, ⟨h6_, h7_⟩⟩⟩
  refine ⟨?_, ?_⟩
  · skip
    intro h8_
    refine ⟨la_isTrue_0, ?_⟩
    intro h9_
    obtain ⟨h10_, h11_⟩ := (h7_ (la_isTrue_1 h9_))
    refine ⟨(la_isTrue_4 h10_ h11_), ?_⟩
    intro h12_
    refine ⟨la_isTrue_5, ?_⟩
    intro h13_
    exact la_isTrue_6
  intro h14_
  refine ⟨la_isTrue_8, ?_⟩
  intro h15_
  exact la_isTrue_6
set_option maxRecDepth 8000 in
set_option maxHeartbeats 2000000 in
theorem t_isTrue : ∀ (p1 : Int) (p2 : Int) (S : sv_S), sm_ok S → sv_R p1 → sv_R p2 → (31 ≤ (S 1007 0) ∧ (S 1007 0) ≤ 400 ∧ sm_LN (S 4) 400 (S 1007 0) ∧ (p1 = 6 → 0 ≤ p2 ∧ p2 < 400)) → sv_T sm_XS sm_cs sm_L sm_sh 0 (q_isTrue p1 p2 S) 129 0 (lv_args 0 [.ref 0, sv_I p1, sv_I p2]) [] S := by
  intro p1 p2 S hok hp1 hp2 hpre
  have h := f_isTrue p1 p2 S hok hp1 hp2 hpre
  have hM := sm_h129
  show sv_T sm_XS sm_cs sm_L sm_sh 0 (q_isTrue p1 p2 S) 129 0 [(0, .ref 0), (1, sv_I p1), (2, sv_I p2)] [] S
  refine sv_iload_n hM dX12_isTrue_0 rfl rfl ?_
  refine sv_iconst (d := (5 : Int)) hM dX12_isTrue_1 rfl rfl ?_
  refine sv_icmp_ne hM dX12_isTrue_2 hp1 (⟨by decide, by decide⟩ : sv_R (5 : Int)) (t := 15) rfl rfl (fun hc => ?_) (fun hc => ?_)
  · have h := h.1 (hc)
    refine sv_iload_n hM dX12_isTrue_15 rfl rfl ?_
    refine sv_bipush (d := (6 : Int)) hM dX12_isTrue_16 rfl rfl ?_
    refine sv_icmp_ne hM dX12_isTrue_18 hp1 (⟨by decide, by decide⟩ : sv_R (6 : Int)) (t := 36) rfl rfl (fun hc => ?_) (fun hc => ?_)
    · have h := h.1 (hc)
      refine sv_iload_n hM dX12_isTrue_36 rfl rfl ?_
      refine sv_iconst (d := (2 : Int)) hM dX12_isTrue_37 rfl rfl ?_
      refine sv_icmp_eq hM dX12_isTrue_38 hp1 (⟨by decide, by decide⟩ : sv_R (2 : Int)) (t := 47) rfl rfl (fun hc => ?_) (fun hc => ?_)
      · have h := h.1 (hc)
        refine sv_iconst (d := (1 : Int)) hM dX12_isTrue_47 rfl rfl ?_
        refine sv_goto hM dX12_isTrue_48 (pc' := 52) rfl ?_
        exact sv_iret hM dX12_isTrue_52 rfl (sv_nz (⟨by decide, by decide⟩ : 0 ≤ (1 : Int) ∧ (1 : Int) ≤ 1)) ⟨(1 : Int), rfl, sv_R01 (⟨by decide, by decide⟩ : 0 ≤ (1 : Int) ∧ (1 : Int) ≤ 1), hok, sv_mod.rf, h⟩
      · have h := h.2 (hc)
        refine sv_iload_n hM dX12_isTrue_41 rfl rfl ?_
        refine sv_bipush (d := (7 : Int)) hM dX12_isTrue_42 rfl rfl ?_
        refine sv_icmp_ne hM dX12_isTrue_44 hp1 (⟨by decide, by decide⟩ : sv_R (7 : Int)) (t := 51) rfl rfl (fun hc => ?_) (fun hc => ?_)
        · have h := h.1 (hc)
          refine sv_iconst (d := (0 : Int)) hM dX12_isTrue_51 rfl rfl ?_
          exact sv_iret hM dX12_isTrue_52 rfl (sv_nz (⟨by decide, by decide⟩ : 0 ≤ (0 : Int) ∧ (0 : Int) ≤ 1)) ⟨(0 : Int), rfl, sv_R01 (⟨by decide, by decide⟩ : 0 ≤ (0 : Int) ∧ (0 : Int) ≤ 1), hok, sv_mod.rf, h⟩
        · have h := h.2 (hc)
          refine sv_iconst (d := (1 : Int)) hM dX12_isTrue_47 rfl rfl ?_
          refine sv_goto hM dX12_isTrue_48 (pc' := 52) rfl ?_
          exact sv_iret hM dX12_isTrue_52 rfl (sv_nz (⟨by decide, by decide⟩ : 0 ≤ (1 : Int) ∧ (1 : Int) ≤ 1)) ⟨(1 : Int), rfl, sv_R01 (⟨by decide, by decide⟩ : 0 ≤ (1 : Int) ∧ (1 : Int) ≤ 1), hok, sv_mod.rf, h⟩
    · have h := h.2 (hc)
      refine sv_aload_n hM dX12_isTrue_21 rfl rfl ?_
      refine sv_getA hM dX12_isTrue_22 sm_fl_20 (sm_a0 _) sm_k6 rfl ?_
      refine sv_iload_n hM dX12_isTrue_25 rfl rfl ?_
      obtain ⟨o1, h⟩ := h
      have k2 : sv_R (S 4 p2) := sm_okI hok sm_r4 p2
      have h := h k2
      refine sv_iald hM dX12_isTrue_26 (sm_a4 _) (by decide) o1.1 o1.2 rfl (x := (S 4 p2)) rfl ?_
      refine sv_cond_le hM dX12_isTrue_27 k2 (t := 34) rfl rfl (fun hc => ?_) (fun hc => ?_)
      · have h := h.1 (hc)
        refine sv_iconst (d := (0 : Int)) hM dX12_isTrue_34 rfl rfl ?_
        exact sv_iret hM dX12_isTrue_35 rfl (sv_nz (⟨by decide, by decide⟩ : 0 ≤ (0 : Int) ∧ (0 : Int) ≤ 1)) ⟨(0 : Int), rfl, sv_R01 (⟨by decide, by decide⟩ : 0 ≤ (0 : Int) ∧ (0 : Int) ≤ 1), hok, sv_mod.rf, h⟩
      · have h := h.2 (hc)
        refine sv_iconst (d := (1 : Int)) hM dX12_isTrue_30 rfl rfl ?_
        refine sv_goto hM dX12_isTrue_31 (pc' := 35) rfl ?_
        exact sv_iret hM dX12_isTrue_35 rfl (sv_nz (⟨by decide, by decide⟩ : 0 ≤ (1 : Int) ∧ (1 : Int) ≤ 1)) ⟨(1 : Int), rfl, sv_R01 (⟨by decide, by decide⟩ : 0 ≤ (1 : Int) ∧ (1 : Int) ≤ 1), hok, sv_mod.rf, h⟩
  · have h := h.2 (hc)
    refine sv_iload_n hM dX12_isTrue_5 rfl rfl ?_
    refine sv_cond_eq hM dX12_isTrue_6 hp2 (t := 13) rfl rfl (fun hc => ?_) (fun hc => ?_)
    · have h := h.1 (hc)
      refine sv_iconst (d := (0 : Int)) hM dX12_isTrue_13 rfl rfl ?_
      exact sv_iret hM dX12_isTrue_14 rfl (sv_nz (⟨by decide, by decide⟩ : 0 ≤ (0 : Int) ∧ (0 : Int) ≤ 1)) ⟨(0 : Int), rfl, sv_R01 (⟨by decide, by decide⟩ : 0 ≤ (0 : Int) ∧ (0 : Int) ≤ 1), hok, sv_mod.rf, h⟩
    · have h := h.2 (hc)
      refine sv_iconst (d := (1 : Int)) hM dX12_isTrue_9 rfl rfl ?_
      refine sv_goto hM dX12_isTrue_10 (pc' := 14) rfl ?_
      exact sv_iret hM dX12_isTrue_14 rfl (sv_nz (⟨by decide, by decide⟩ : 0 ≤ (1 : Int) ∧ (1 : Int) ≤ 1)) ⟨(1 : Int), rfl, sv_R01 (⟨by decide, by decide⟩ : 0 ≤ (1 : Int) ∧ (1 : Int) ≤ 1), hok, sv_mod.rf, h⟩
def q_isSame (p0 : Int) (p1 : Int) (p2 : Int) (p3 : Int) (S : sv_S) : Option Value → sv_S → Prop := fun v S' => ∃ r : Int, v = some (sv_I r) ∧ sv_R r ∧ sm_ok S' ∧ sv_mod [] S S' ∧ (r = 0 ∨ r = 1)
theorem la_isSame_0 {x0 x1 : Int} : ¬ x0 = x1 → (0 : Int) = 0 ∨ (0 : Int) = 1 := by omega
theorem la_isSame_1 {x0 : Int} : x0 = 4 → (0 : Int) = 0 ∨ (0 : Int) = 1 := by omega
theorem la_isSame_2 {x0 : Int} : x0 < 5 → (1 : Int) = 0 ∨ (1 : Int) = 1 := by omega
theorem la_isSame_3 {x0 : Int} (h0 : ¬ x0 < 5) : 4 ≤ x0 := by omega
theorem la_isSame_4 {x0 : Int} (h0 : 4 ≤ x0) (h1 : ¬ x0 = 4) : 4 < x0 := by omega
theorem la_isSame_5 : (1 : Int) = 0 ∨ (1 : Int) = 1 := by omega
set_option maxHeartbeats 2000000 in
theorem f_isSame : ∀ (p0 : Int) (p1 : Int) (p2 : Int) (p3 : Int) (S : sv_S), sm_ok S → sv_R p0 → sv_R p1 → sv_R p2 → sv_R p3 → (((¬ p0 = p2) → ((0 : Int) = 0 ∨ (0 : Int) = 1)) ∧ ((¬ (¬ p0 = p2)) → (((p0 = (4 : Int)) → ((0 : Int) = 0 ∨ (0 : Int) = 1)) ∧ ((¬ (p0 = (4 : Int))) → (((p0 < (5 : Int)) → ((1 : Int) = 0 ∨ (1 : Int) = 1)) ∧ ((¬ (p0 < (5 : Int))) → (((¬ p1 = p3) → ((0 : Int) = 0 ∨ (0 : Int) = 1)) ∧ ((¬ (¬ p1 = p3)) → ((1 : Int) = 0 ∨ (1 : Int) = 1))))))))) := by
  intro p0
  intro p1
  intro p2
  intro p3
  intro S
  intro h1_
  intro h2_
  intro h3_
  intro h4_
  intro h5_
  refine ⟨la_isSame_0, ?_⟩
  intro h6_
  refine ⟨la_isSame_1, ?_⟩
  intro h7_
  refine ⟨la_isSame_2, ?_⟩
  intro h8_
  refine ⟨la_isSame_0, ?_⟩
  intro h9_
  exact la_isSame_5
set_option maxRecDepth 8000 in
set_option maxHeartbeats 2000000 in
theorem t_isSame : ∀ (p0 : Int) (p1 : Int) (p2 : Int) (p3 : Int) (S : sv_S), sm_ok S → sv_R p0 → sv_R p1 → sv_R p2 → sv_R p3 → sv_T sm_XS sm_cs sm_L sm_sh 0 (q_isSame p0 p1 p2 p3 S) 130 0 (lv_args 0 [sv_I p0, sv_I p1, sv_I p2, sv_I p3]) [] S := by
  intro p0 p1 p2 p3 S hok hp0 hp1 hp2 hp3
  have h := f_isSame p0 p1 p2 p3 S hok hp0 hp1 hp2 hp3
  have hM := sm_h130
  show sv_T sm_XS sm_cs sm_L sm_sh 0 (q_isSame p0 p1 p2 p3 S) 130 0 [(0, sv_I p0), (1, sv_I p1), (2, sv_I p2), (3, sv_I p3)] [] S
  refine sv_iload_n hM dX12_isSame_0 rfl rfl ?_
  refine sv_iload_n hM dX12_isSame_1 rfl rfl ?_
  refine sv_icmp_ne hM dX12_isSame_2 hp0 hp2 (t := 24) rfl rfl (fun hc => ?_) (fun hc => ?_)
  · have h := h.1 (hc)
    refine sv_iconst (d := (0 : Int)) hM dX12_isSame_24 rfl rfl ?_
    exact sv_iret hM dX12_isSame_25 rfl (sv_nz (⟨by decide, by decide⟩ : 0 ≤ (0 : Int) ∧ (0 : Int) ≤ 1)) ⟨(0 : Int), rfl, sv_R01 (⟨by decide, by decide⟩ : 0 ≤ (0 : Int) ∧ (0 : Int) ≤ 1), hok, sv_mod.rf, h⟩
  · have h := h.2 (hc)
    refine sv_iload_n hM dX12_isSame_5 rfl rfl ?_
    refine sv_iconst (d := (4 : Int)) hM dX12_isSame_6 rfl rfl ?_
    refine sv_icmp_eq hM dX12_isSame_7 hp0 (⟨by decide, by decide⟩ : sv_R (4 : Int)) (t := 24) rfl rfl (fun hc => ?_) (fun hc => ?_)
    · have h := h.1 (hc)
      refine sv_iconst (d := (0 : Int)) hM dX12_isSame_24 rfl rfl ?_
      exact sv_iret hM dX12_isSame_25 rfl (sv_nz (⟨by decide, by decide⟩ : 0 ≤ (0 : Int) ∧ (0 : Int) ≤ 1)) ⟨(0 : Int), rfl, sv_R01 (⟨by decide, by decide⟩ : 0 ≤ (0 : Int) ∧ (0 : Int) ≤ 1), hok, sv_mod.rf, h⟩
    · have h := h.2 (hc)
      refine sv_iload_n hM dX12_isSame_10 rfl rfl ?_
      refine sv_iconst (d := (5 : Int)) hM dX12_isSame_11 rfl rfl ?_
      refine sv_icmp_lt hM dX12_isSame_12 hp0 (⟨by decide, by decide⟩ : sv_R (5 : Int)) (t := 20) rfl rfl (fun hc => ?_) (fun hc => ?_)
      · have h := h.1 (hc)
        refine sv_iconst (d := (1 : Int)) hM dX12_isSame_20 rfl rfl ?_
        refine sv_goto hM dX12_isSame_21 (pc' := 25) rfl ?_
        exact sv_iret hM dX12_isSame_25 rfl (sv_nz (⟨by decide, by decide⟩ : 0 ≤ (1 : Int) ∧ (1 : Int) ≤ 1)) ⟨(1 : Int), rfl, sv_R01 (⟨by decide, by decide⟩ : 0 ≤ (1 : Int) ∧ (1 : Int) ≤ 1), hok, sv_mod.rf, h⟩
      · have h := h.2 (hc)
        refine sv_iload_n hM dX12_isSame_15 rfl rfl ?_
        refine sv_iload_n hM dX12_isSame_16 rfl rfl ?_
        refine sv_icmp_ne hM dX12_isSame_17 hp1 hp3 (t := 24) rfl rfl (fun hc => ?_) (fun hc => ?_)
        · have h := h.1 (hc)
          refine sv_iconst (d := (0 : Int)) hM dX12_isSame_24 rfl rfl ?_
          exact sv_iret hM dX12_isSame_25 rfl (sv_nz (⟨by decide, by decide⟩ : 0 ≤ (0 : Int) ∧ (0 : Int) ≤ 1)) ⟨(0 : Int), rfl, sv_R01 (⟨by decide, by decide⟩ : 0 ≤ (0 : Int) ∧ (0 : Int) ≤ 1), hok, sv_mod.rf, h⟩
        · have h := h.2 (hc)
          refine sv_iconst (d := (1 : Int)) hM dX12_isSame_20 rfl rfl ?_
          refine sv_goto hM dX12_isSame_21 (pc' := 25) rfl ?_
          exact sv_iret hM dX12_isSame_25 rfl (sv_nz (⟨by decide, by decide⟩ : 0 ≤ (1 : Int) ∧ (1 : Int) ≤ 1)) ⟨(1 : Int), rfl, sv_R01 (⟨by decide, by decide⟩ : 0 ≤ (1 : Int) ∧ (1 : Int) ≤ 1), hok, sv_mod.rf, h⟩
def q_isEqual (p1 : Int) (p2 : Int) (p3 : Int) (p4 : Int) (S : sv_S) : Option Value → sv_S → Prop := fun v S' => ∃ r : Int, v = some (sv_I r) ∧ sv_R r ∧ sm_ok S' ∧ sv_mod [1113] S S' ∧ (r = 0 ∨ r = 1)
theorem la_isEqual_0 {x0 x1 : Int} : x0 ≤ 1 → (1 < x0 → (0 : Int) = 0 ∨ (0 : Int) = 1) ∧ (¬ 1 < x0 → (1 < x1 → (0 : Int) = 0 ∨ (0 : Int) = 1) ∧ (¬ 1 < x1 → (1 : Int) = 0 ∨ (1 : Int) = 1)) := by omega
theorem la_isEqual_1 {x0 : Int} (h0 : x0 = 7) : ¬ x0 = 6 := by omega
theorem la_isEqual_2 {x0 : Int} (h0 : x0 = 0 ∨ x0 = 1) : 0 ≤ x0 := by omega
theorem la_isEqual_3 {x0 : Int} (h0 : x0 = 0 ∨ x0 = 1) : x0 ≤ 1 := by omega
theorem la_isEqual_4 {x0 : Int} : x0 = 0 → (0 : Int) = 0 ∨ (0 : Int) = 1 := by omega
theorem la_isEqual_5 {x0 : Int} (h0 : 0 ≤ x0) (h1 : ¬ x0 = 0) : 0 < x0 := by omega
theorem la_isEqual_6 {x0 x1 : Int} : ¬ x0 = x1 → (0 : Int) = 0 ∨ (0 : Int) = 1 := by omega
theorem la_isEqual_7 : (1 : Int) = 0 ∨ (1 : Int) = 1 := by omega
theorem la_isEqual_8 {x0 : Int} (h0 : ¬ ¬ x0 = 6) : x0 = 6 := by omega
theorem la_isEqual_9 {x0 : Int} (h0 : ¬ ¬ x0 = 6) : x0 ≤ 7 := by omega
theorem la_isEqual_10 {x0 : Int} (h0 : x0 ≤ 7) (h1 : ¬ x0 = 7) : x0 < 7 := by omega
theorem la_isEqual_11 {x0 : Int} (h0 : ¬ 1 < x0) : ¬ x0 = 6 := by omega
theorem la_isEqual_12 {x0 : Int} : 1 < x0 → (0 : Int) = 0 ∨ (0 : Int) = 1 := by omega
theorem la_isEqual_13 {x0 : Int} (h0 : ¬ x0 ≤ 1) (h1 : ¬ 1 < x0) : x0 = 6 := by omega
set_option maxHeartbeats 2000000 in
theorem f_isEqual : ∀ (p1 : Int) (p2 : Int) (p3 : Int) (p4 : Int) (S : sv_S), sm_ok S → sv_R p1 → sv_R p2 → sv_R p3 → sv_R p4 → (31 ≤ (S 1007 0) ∧ (S 1007 0) ≤ 400 ∧ sm_LN (S 4) 400 (S 1007 0) ∧ (p1 = 6 → 0 ≤ p2 ∧ p2 < 400) ∧ (p3 = 6 → 0 ≤ p4 ∧ p4 < 400)) → (((p1 ≤ (1 : Int)) → ((((1 : Int) < p1) → ((0 : Int) = 0 ∨ (0 : Int) = 1)) ∧ ((¬ ((1 : Int) < p1)) → ((((1 : Int) < p3) → ((0 : Int) = 0 ∨ (0 : Int) = 1)) ∧ ((¬ ((1 : Int) < p3)) → ((1 : Int) = 0 ∨ (1 : Int) = 1)))))) ∧ ((¬ (p1 ≤ (1 : Int))) → ((((1 : Int) < p3) → (((p1 = (7 : Int)) → (∀ r5 : Int, sv_R r5 → (r5 = 0 ∨ r5 = 1) → (0 ≤ r5 ∧ r5 ≤ 1) ∧ (r5 = 0 ∨ r5 = 1))) ∧ ((¬ (p1 = (7 : Int))) → (((p3 = (7 : Int)) → (∀ r11 : Int, sv_R r11 → (r11 = 0 ∨ r11 = 1) → (0 ≤ r11 ∧ r11 ≤ 1) ∧ (r11 = 0 ∨ r11 = 1))) ∧ ((¬ (p3 = (7 : Int))) → (((¬ p1 = (6 : Int)) → (31 ≤ (S 1007 0) ∧ (S 1007 0) ≤ 400 ∧ sm_LN (S 4) 400 (S 1007 0) ∧ (p1 = 6 → 0 ≤ p2 ∧ p2 < 400)) ∧ (∀ r18 : Int, sv_R r18 → ∀ g14 : sv_S, (True) → ((0 ≤ (g14 1113 0) ∧ (g14 1113 0) ≤ 1) → (31 ≤ (S 1007 0) ∧ (S 1007 0) ≤ 400 ∧ sm_LN (S 4) 400 (S 1007 0) ∧ (p3 = 6 → 0 ≤ p4 ∧ p4 < 400)) ∧ (∀ r26 : Int, sv_R r26 → ∀ g22 : sv_S, (True) → ((((g14 1113 0) = (0 : Int)) → ((0 : Int) = 0 ∨ (0 : Int) = 1)) ∧ ((¬ ((g14 1113 0) = (0 : Int))) → ((0 ≤ (g22 1113 0) ∧ (g22 1113 0) ≤ 1) → ((((g22 1113 0) = (0 : Int)) → ((0 : Int) = 0 ∨ (0 : Int) = 1)) ∧ ((¬ ((g22 1113 0) = (0 : Int))) → (((¬ r18 = r26) → ((0 : Int) = 0 ∨ (0 : Int) = 1)) ∧ ((¬ (¬ r18 = r26)) → ((1 : Int) = 0 ∨ (1 : Int) = 1)))))))))))) ∧ ((¬ (¬ p1 = (6 : Int))) → (((¬ p3 = (6 : Int)) → (31 ≤ (S 1007 0) ∧ (S 1007 0) ≤ 400 ∧ sm_LN (S 4) 400 (S 1007 0) ∧ (p1 = 6 → 0 ≤ p2 ∧ p2 < 400)) ∧ (∀ r34 : Int, sv_R r34 → ∀ g30 : sv_S, (True) → ((0 ≤ (g30 1113 0) ∧ (g30 1113 0) ≤ 1) → (31 ≤ (S 1007 0) ∧ (S 1007 0) ≤ 400 ∧ sm_LN (S 4) 400 (S 1007 0) ∧ (p3 = 6 → 0 ≤ p4 ∧ p4 < 400)) ∧ (∀ r42 : Int, sv_R r42 → ∀ g38 : sv_S, (True) → ((((g30 1113 0) = (0 : Int)) → ((0 : Int) = 0 ∨ (0 : Int) = 1)) ∧ ((¬ ((g30 1113 0) = (0 : Int))) → ((0 ≤ (g38 1113 0) ∧ (g38 1113 0) ≤ 1) → ((((g38 1113 0) = (0 : Int)) → ((0 : Int) = 0 ∨ (0 : Int) = 1)) ∧ ((¬ ((g38 1113 0) = (0 : Int))) → (((¬ r34 = r42) → ((0 : Int) = 0 ∨ (0 : Int) = 1)) ∧ ((¬ (¬ r34 = r42)) → ((1 : Int) = 0 ∨ (1 : Int) = 1)))))))))))) ∧ ((¬ (¬ p3 = (6 : Int))) → (∀ r49 : Int, sv_R r49 → (r49 = 0 ∨ r49 = 1) → (0 ≤ r49 ∧ r49 ≤ 1) ∧ (r49 = 0 ∨ r49 = 1))))))))))) ∧ ((¬ ((1 : Int) < p3)) → ((((1 : Int) < p1) → ((0 : Int) = 0 ∨ (0 : Int) = 1)) ∧ ((¬ ((1 : Int) < p1)) → ((((1 : Int) < p3) → ((0 : Int) = 0 ∨ (0 : Int) = 1)) ∧ ((¬ ((1 : Int) < p3)) → ((1 : Int) = 0 ∨ (1 : Int) = 1))))))))) := by
  intro p1
  intro p2
  intro p3
  intro p4
  intro S
  intro h1_
  intro h2_
  intro h3_
  intro h4_
  intro h5_
  rintro ⟨h6_, ⟨h7_, ⟨h8_, ⟨h9_, h10_⟩⟩⟩⟩
  refine ⟨la_isEqual_0, ?_⟩
  intro h11_
  refine ⟨?_, ?_⟩
  · skip
    intro h12_
    refine ⟨?_, ?_⟩
    · skip
      intro h13_
      intro r5
      intro h14_
      intro h15_
      refine ⟨?_, ?_⟩
      · skip
        refine ⟨?_, ?_⟩
        · skip
          exact (la_isEqual_2 h15_)
        exact (la_isEqual_3 h15_)
      exact h15_
    intro h16_
    refine ⟨?_, ?_⟩
    · skip
      intro h17_
      intro r11
      intro h18_
      intro h19_
      refine ⟨?_, ?_⟩
      · skip
        refine ⟨?_, ?_⟩
        · skip
          exact (la_isEqual_2 h19_)
        exact (la_isEqual_3 h19_)
      exact h19_
    intro h20_
    refine ⟨?_, ?_⟩
    · skip
      intro h21_
      refine ⟨⟨h6_, ⟨h7_, ⟨h8_, h9_⟩⟩⟩, ?_⟩
      intro r18
      intro h22_
      intro g14
      intro _
      rintro ⟨h23_, h24_⟩
      refine ⟨⟨h6_, ⟨h7_, ⟨h8_, h10_⟩⟩⟩, ?_⟩
      intro r26
      intro h25_
      intro g22
      intro _
      refine ⟨la_isEqual_4, ?_⟩
      intro h26_
      rintro ⟨h27_, h28_⟩
      refine ⟨la_isEqual_4, ?_⟩
      intro h29_
      refine ⟨la_isEqual_6, ?_⟩
      intro h30_
      exact la_isEqual_7
    intro h31_
    obtain ⟨h32_, h33_⟩ := (h9_ (la_isEqual_8 h31_))
    refine ⟨?_, ?_⟩
    · skip
      intro h34_
      refine ⟨⟨h6_, ⟨h7_, ⟨h8_, h9_⟩⟩⟩, ?_⟩
      intro r34
      intro h35_
      intro g30
      intro _
      rintro ⟨h36_, h37_⟩
      refine ⟨⟨h6_, ⟨h7_, ⟨h8_, h10_⟩⟩⟩, ?_⟩
      intro r42
      intro h38_
      intro g38
      intro _
      refine ⟨la_isEqual_4, ?_⟩
      intro h39_
      rintro ⟨h40_, h41_⟩
      refine ⟨la_isEqual_4, ?_⟩
      intro h42_
      refine ⟨la_isEqual_6, ?_⟩
      intro h43_
      exact la_isEqual_7
    intro h44_
    obtain ⟨h45_, h46_⟩ := (h10_ (la_isEqual_8 h44_))
    intro r49
    intro h47_
    intro h48_
    refine ⟨?_, ?_⟩
    · skip
      refine ⟨?_, ?_⟩
      · skip
        exact (la_isEqual_2 h48_)
      exact (la_isEqual_3 h48_)
    exact h48_
  intro h49_
  refine ⟨la_isEqual_12, ?_⟩
  intro h50_
  obtain ⟨h51_, h52_⟩ := (h9_ (la_isEqual_13 h11_ h50_))
  refine ⟨la_isEqual_12, ?_⟩
  intro h53_
  exact la_isEqual_7
set_option maxRecDepth 8000 in
set_option maxHeartbeats 2000000 in
theorem t_isEqual : ∀ (p1 : Int) (p2 : Int) (p3 : Int) (p4 : Int) (S : sv_S), sm_ok S → sv_R p1 → sv_R p2 → sv_R p3 → sv_R p4 → (31 ≤ (S 1007 0) ∧ (S 1007 0) ≤ 400 ∧ sm_LN (S 4) 400 (S 1007 0) ∧ (p1 = 6 → 0 ≤ p2 ∧ p2 < 400) ∧ (p3 = 6 → 0 ≤ p4 ∧ p4 < 400)) → sv_T sm_XS sm_cs sm_L sm_sh 3 (q_isEqual p1 p2 p3 p4 S) 131 0 (lv_args 0 [.ref 0, sv_I p1, sv_I p2, sv_I p3, sv_I p4]) [] S := by
  intro p1 p2 p3 p4 S hok hp1 hp2 hp3 hp4 hpre
  have h := f_isEqual p1 p2 p3 p4 S hok hp1 hp2 hp3 hp4 hpre
  have hM := sm_h131
  show sv_T sm_XS sm_cs sm_L sm_sh 3 (q_isEqual p1 p2 p3 p4 S) 131 0 [(0, .ref 0), (1, sv_I p1), (2, sv_I p2), (3, sv_I p3), (4, sv_I p4)] [] S
  refine sv_iload_n hM dX12_isEqual_0 rfl rfl ?_
  refine sv_iconst (d := (1 : Int)) hM dX12_isEqual_1 rfl rfl ?_
  refine sv_icmp_le hM dX12_isEqual_2 hp1 (⟨by decide, by decide⟩ : sv_R (1 : Int)) (t := 10) rfl rfl (fun hc => ?_) (fun hc => ?_)
  · have h := h.1 (hc)
    refine sv_iload_n hM dX12_isEqual_10 rfl rfl ?_
    refine sv_iconst (d := (1 : Int)) hM dX12_isEqual_11 rfl rfl ?_
    refine sv_icmp_gt hM dX12_isEqual_12 hp1 (⟨by decide, by decide⟩ : sv_R (1 : Int)) (t := 24) rfl rfl (fun hc => ?_) (fun hc => ?_)
    · have h := h.1 (hc)
      refine sv_iconst (d := (0 : Int)) hM dX12_isEqual_24 rfl rfl ?_
      exact sv_iret hM dX12_isEqual_25 rfl (sv_nz (⟨by decide, by decide⟩ : 0 ≤ (0 : Int) ∧ (0 : Int) ≤ 1)) ⟨(0 : Int), rfl, sv_R01 (⟨by decide, by decide⟩ : 0 ≤ (0 : Int) ∧ (0 : Int) ≤ 1), hok, sv_mod.rf, h⟩
    · have h := h.2 (hc)
      refine sv_iload_n hM dX12_isEqual_15 rfl rfl ?_
      refine sv_iconst (d := (1 : Int)) hM dX12_isEqual_16 rfl rfl ?_
      refine sv_icmp_gt hM dX12_isEqual_17 hp3 (⟨by decide, by decide⟩ : sv_R (1 : Int)) (t := 24) rfl rfl (fun hc => ?_) (fun hc => ?_)
      · have h := h.1 (hc)
        refine sv_iconst (d := (0 : Int)) hM dX12_isEqual_24 rfl rfl ?_
        exact sv_iret hM dX12_isEqual_25 rfl (sv_nz (⟨by decide, by decide⟩ : 0 ≤ (0 : Int) ∧ (0 : Int) ≤ 1)) ⟨(0 : Int), rfl, sv_R01 (⟨by decide, by decide⟩ : 0 ≤ (0 : Int) ∧ (0 : Int) ≤ 1), hok, sv_mod.rf, h⟩
      · have h := h.2 (hc)
        refine sv_iconst (d := (1 : Int)) hM dX12_isEqual_20 rfl rfl ?_
        refine sv_goto hM dX12_isEqual_21 (pc' := 25) rfl ?_
        exact sv_iret hM dX12_isEqual_25 rfl (sv_nz (⟨by decide, by decide⟩ : 0 ≤ (1 : Int) ∧ (1 : Int) ≤ 1)) ⟨(1 : Int), rfl, sv_R01 (⟨by decide, by decide⟩ : 0 ≤ (1 : Int) ∧ (1 : Int) ≤ 1), hok, sv_mod.rf, h⟩
  · have h := h.2 (hc)
    refine sv_iload_n hM dX12_isEqual_5 rfl rfl ?_
    refine sv_iconst (d := (1 : Int)) hM dX12_isEqual_6 rfl rfl ?_
    refine sv_icmp_gt hM dX12_isEqual_7 hp3 (⟨by decide, by decide⟩ : sv_R (1 : Int)) (t := 26) rfl rfl (fun hc => ?_) (fun hc => ?_)
    · have h := h.1 (hc)
      refine sv_iload_n hM dX12_isEqual_26 rfl rfl ?_
      refine sv_bipush (d := (7 : Int)) hM dX12_isEqual_27 rfl rfl ?_
      refine sv_icmp_eq hM dX12_isEqual_29 hp1 (⟨by decide, by decide⟩ : sv_R (7 : Int)) (t := 50) rfl rfl (fun hc => ?_) (fun hc => ?_)
      · have h := h.1 (hc)
        refine sv_iload_n hM dX12_isEqual_50 rfl rfl ?_
        refine sv_iload_n hM dX12_isEqual_51 rfl rfl ?_
        refine sv_iload_n hM dX12_isEqual_52 rfl rfl ?_
        refine sv_iload hM dX12_isEqual_53 rfl rfl ?_
        refine sv_callS hM dX12_isEqual_55 sm_iv_812 (Nat.le_of_ble_eq_true rfl) rfl rfl (Nat.le_of_ble_eq_true rfl) sm_h130 (Nat.le_of_ble_eq_true rfl) (Nat.le_of_ble_eq_true rfl) (F' := 0) (Nat.le_of_ble_eq_true rfl) rfl (t_isSame p1 p2 p3 p4 S hok hp1 hp2 hp3 hp4) (fun v S1 hq => ?_)
        obtain ⟨r5, rfl, hr5, ok2, md3, hpo4⟩ := hq
        obtain rfl : S = S1 := (funext fun j => md3 j (by intro q; cases q)).symm
        show sv_T sm_XS sm_cs sm_L sm_sh 3 (q_isEqual p1 p2 p3 p4 S) 131 58 [(0, .ref 0), (1, sv_I p1), (2, sv_I p2), (3, sv_I p3), (4, sv_I p4)] [sv_I r5] S
        have h := h r5 hr5 hpo4
        obtain ⟨o6, h⟩ := h
        exact sv_iret hM dX12_isEqual_58 rfl (sv_nz o6) ⟨r5, rfl, sv_R01 o6, ok2, sv_mod.rf, h⟩
      · have h := h.2 (hc)
        refine sv_iload_n hM dX12_isEqual_32 rfl rfl ?_
        refine sv_bipush (d := (7 : Int)) hM dX12_isEqual_33 rfl rfl ?_
        refine sv_icmp_eq hM dX12_isEqual_35 hp3 (⟨by decide, by decide⟩ : sv_R (7 : Int)) (t := 50) rfl rfl (fun hc => ?_) (fun hc => ?_)
        · have h := h.1 (hc)
          refine sv_iload_n hM dX12_isEqual_50 rfl rfl ?_
          refine sv_iload_n hM dX12_isEqual_51 rfl rfl ?_
          refine sv_iload_n hM dX12_isEqual_52 rfl rfl ?_
          refine sv_iload hM dX12_isEqual_53 rfl rfl ?_
          refine sv_callS hM dX12_isEqual_55 sm_iv_812 (Nat.le_of_ble_eq_true rfl) rfl rfl (Nat.le_of_ble_eq_true rfl) sm_h130 (Nat.le_of_ble_eq_true rfl) (Nat.le_of_ble_eq_true rfl) (F' := 0) (Nat.le_of_ble_eq_true rfl) rfl (t_isSame p1 p2 p3 p4 S hok hp1 hp2 hp3 hp4) (fun v S1 hq => ?_)
          obtain ⟨r11, rfl, hr11, ok8, md9, hpo10⟩ := hq
          obtain rfl : S = S1 := (funext fun j => md9 j (by intro q; cases q)).symm
          show sv_T sm_XS sm_cs sm_L sm_sh 3 (q_isEqual p1 p2 p3 p4 S) 131 58 [(0, .ref 0), (1, sv_I p1), (2, sv_I p2), (3, sv_I p3), (4, sv_I p4)] [sv_I r11] S
          have h := h r11 hr11 hpo10
          obtain ⟨o12, h⟩ := h
          exact sv_iret hM dX12_isEqual_58 rfl (sv_nz o12) ⟨r11, rfl, sv_R01 o12, ok8, sv_mod.rf, h⟩
        · have h := h.2 (hc)
          refine sv_iload_n hM dX12_isEqual_38 rfl rfl ?_
          refine sv_bipush (d := (6 : Int)) hM dX12_isEqual_39 rfl rfl ?_
          refine sv_icmp_ne hM dX12_isEqual_41 hp1 (⟨by decide, by decide⟩ : sv_R (6 : Int)) (t := 59) rfl rfl (fun hc => ?_) (fun hc => ?_)
          · have h := h.1 (hc)
            refine sv_aload_n hM dX12_isEqual_59 rfl rfl ?_
            refine sv_iload_n hM dX12_isEqual_60 rfl rfl ?_
            refine sv_iload_n hM dX12_isEqual_61 rfl rfl ?_
            obtain ⟨o13, h⟩ := h
            refine sv_callV hM dX12_isEqual_62 sm_iv_816 (by decide) (sm_a0 _) rfl rfl (Nat.le_of_ble_eq_true rfl) sm_h127 (Nat.le_of_ble_eq_true rfl) (Nat.le_of_ble_eq_true rfl) (F' := 2) (Nat.le_of_ble_eq_true rfl) rfl (t_numberOf p1 p2 S hok hp1 hp2 o13) (fun v S1 hq => ?_)
            obtain ⟨r18, rfl, hr18, ok15, md16, hpo17⟩ := hq
            obtain ⟨g14, rfl⟩ : ∃ g, S1 = sv_sts S [1113] g := ⟨_, md16.eq⟩
            show sv_T sm_XS sm_cs sm_L sm_sh 3 (q_isEqual p1 p2 p3 p4 S) 131 65 [(0, .ref 0), (1, sv_I p1), (2, sv_I p2), (3, sv_I p3), (4, sv_I p4)] [sv_I r18] (sv_sts S [1113] g14)
            have md19 : sv_mod [1113] S (sv_sts S [1113] g14) := sv_mod.sts sv_mod.rf (by decide)
            have h := h r18 hr18 g14 hpo17
            refine sv_istore hM dX12_isEqual_65 (by decide) rfl ?_
            show sv_T sm_XS sm_cs sm_L sm_sh 3 (q_isEqual p1 p2 p3 p4 S) 131 67 [(0, .ref 0), (1, sv_I p1), (2, sv_I p2), (3, sv_I p3), (4, sv_I p4), (5, sv_I r18)] [] (sv_sts S [1113] g14)
            refine sv_aload_n hM dX12_isEqual_67 rfl rfl ?_
            have k20 : (0 ≤ (g14 1113 0) ∧ (g14 1113 0) ≤ 1) := sm_okZ ok15 sm_r1113 0
            have h := h k20
            refine sv_getI hM dX12_isEqual_68 sm_fl_806 (sm_a0 _) sm_k113 rfl (x := (g14 1113 0)) rfl ?_
            refine sv_istore hM dX12_isEqual_71 (by decide) rfl ?_
            show sv_T sm_XS sm_cs sm_L sm_sh 3 (q_isEqual p1 p2 p3 p4 S) 131 73 [(0, .ref 0), (1, sv_I p1), (2, sv_I p2), (3, sv_I p3), (4, sv_I p4), (5, sv_I r18), (6, sv_I (g14 1113 0))] [] (sv_sts S [1113] g14)
            refine sv_aload_n hM dX12_isEqual_73 rfl rfl ?_
            refine sv_iload_n hM dX12_isEqual_74 rfl rfl ?_
            refine sv_iload hM dX12_isEqual_75 rfl rfl ?_
            obtain ⟨o21, h⟩ := h
            refine sv_callV hM dX12_isEqual_77 sm_iv_816 (by decide) (sm_a0 _) rfl rfl (Nat.le_of_ble_eq_true rfl) sm_h127 (Nat.le_of_ble_eq_true rfl) (Nat.le_of_ble_eq_true rfl) (F' := 2) (Nat.le_of_ble_eq_true rfl) rfl (t_numberOf p3 p4 (sv_sts S [1113] g14) ok15 hp3 hp4 o21) (fun v S1 hq => ?_)
            obtain ⟨r26, rfl, hr26, ok23, md24, hpo25⟩ := hq
            obtain ⟨g22, rfl⟩ : ∃ g, S1 = sv_sts (sv_sts S [1113] g14) [1113] g := ⟨_, md24.eq⟩
            show sv_T sm_XS sm_cs sm_L sm_sh 3 (q_isEqual p1 p2 p3 p4 S) 131 80 [(0, .ref 0), (1, sv_I p1), (2, sv_I p2), (3, sv_I p3), (4, sv_I p4), (5, sv_I r18), (6, sv_I (g14 1113 0))] [sv_I r26] (sv_sts (sv_sts S [1113] g14) [1113] g22)
            have md27 : sv_mod [1113] S (sv_sts (sv_sts S [1113] g14) [1113] g22) := sv_mod.sts md19 (by decide)
            have h := h r26 hr26 g22 hpo25
            refine sv_istore hM dX12_isEqual_80 (by decide) rfl ?_
            show sv_T sm_XS sm_cs sm_L sm_sh 3 (q_isEqual p1 p2 p3 p4 S) 131 82 [(0, .ref 0), (1, sv_I p1), (2, sv_I p2), (3, sv_I p3), (4, sv_I p4), (5, sv_I r18), (6, sv_I (g14 1113 0)), (7, sv_I r26)] [] (sv_sts (sv_sts S [1113] g14) [1113] g22)
            refine sv_iload hM dX12_isEqual_82 rfl rfl ?_
            refine sv_cond_eq hM dX12_isEqual_84 (sv_R01 k20) (t := 105) rfl rfl (fun hc => ?_) (fun hc => ?_)
            · have h := h.1 (hc)
              refine sv_iconst (d := (0 : Int)) hM dX12_isEqual_105 rfl rfl ?_
              exact sv_iret hM dX12_isEqual_106 rfl (sv_nz (⟨by decide, by decide⟩ : 0 ≤ (0 : Int) ∧ (0 : Int) ≤ 1)) ⟨(0 : Int), rfl, sv_R01 (⟨by decide, by decide⟩ : 0 ≤ (0 : Int) ∧ (0 : Int) ≤ 1), ok23, md27, h⟩
            · have h := h.2 (hc)
              refine sv_aload_n hM dX12_isEqual_87 rfl rfl ?_
              have k28 : (0 ≤ (g22 1113 0) ∧ (g22 1113 0) ≤ 1) := sm_okZ ok23 sm_r1113 0
              have h := h k28
              refine sv_getI hM dX12_isEqual_88 sm_fl_806 (sm_a0 _) sm_k113 rfl (x := (g22 1113 0)) rfl ?_
              refine sv_cond_eq hM dX12_isEqual_91 (sv_R01 k28) (t := 105) rfl rfl (fun hc => ?_) (fun hc => ?_)
              · have h := h.1 (hc)
                refine sv_iconst (d := (0 : Int)) hM dX12_isEqual_105 rfl rfl ?_
                exact sv_iret hM dX12_isEqual_106 rfl (sv_nz (⟨by decide, by decide⟩ : 0 ≤ (0 : Int) ∧ (0 : Int) ≤ 1)) ⟨(0 : Int), rfl, sv_R01 (⟨by decide, by decide⟩ : 0 ≤ (0 : Int) ∧ (0 : Int) ≤ 1), ok23, md27, h⟩
              · have h := h.2 (hc)
                refine sv_iload hM dX12_isEqual_94 rfl rfl ?_
                refine sv_iload hM dX12_isEqual_96 rfl rfl ?_
                refine sv_icmp_ne hM dX12_isEqual_98 hr18 hr26 (t := 105) rfl rfl (fun hc => ?_) (fun hc => ?_)
                · have h := h.1 (hc)
                  refine sv_iconst (d := (0 : Int)) hM dX12_isEqual_105 rfl rfl ?_
                  exact sv_iret hM dX12_isEqual_106 rfl (sv_nz (⟨by decide, by decide⟩ : 0 ≤ (0 : Int) ∧ (0 : Int) ≤ 1)) ⟨(0 : Int), rfl, sv_R01 (⟨by decide, by decide⟩ : 0 ≤ (0 : Int) ∧ (0 : Int) ≤ 1), ok23, md27, h⟩
                · have h := h.2 (hc)
                  refine sv_iconst (d := (1 : Int)) hM dX12_isEqual_101 rfl rfl ?_
                  refine sv_goto hM dX12_isEqual_102 (pc' := 106) rfl ?_
                  exact sv_iret hM dX12_isEqual_106 rfl (sv_nz (⟨by decide, by decide⟩ : 0 ≤ (1 : Int) ∧ (1 : Int) ≤ 1)) ⟨(1 : Int), rfl, sv_R01 (⟨by decide, by decide⟩ : 0 ≤ (1 : Int) ∧ (1 : Int) ≤ 1), ok23, md27, h⟩
          · have h := h.2 (hc)
            refine sv_iload_n hM dX12_isEqual_44 rfl rfl ?_
            refine sv_bipush (d := (6 : Int)) hM dX12_isEqual_45 rfl rfl ?_
            refine sv_icmp_ne hM dX12_isEqual_47 hp3 (⟨by decide, by decide⟩ : sv_R (6 : Int)) (t := 59) rfl rfl (fun hc => ?_) (fun hc => ?_)
            · have h := h.1 (hc)
              refine sv_aload_n hM dX12_isEqual_59 rfl rfl ?_
              refine sv_iload_n hM dX12_isEqual_60 rfl rfl ?_
              refine sv_iload_n hM dX12_isEqual_61 rfl rfl ?_
              obtain ⟨o29, h⟩ := h
              refine sv_callV hM dX12_isEqual_62 sm_iv_816 (by decide) (sm_a0 _) rfl rfl (Nat.le_of_ble_eq_true rfl) sm_h127 (Nat.le_of_ble_eq_true rfl) (Nat.le_of_ble_eq_true rfl) (F' := 2) (Nat.le_of_ble_eq_true rfl) rfl (t_numberOf p1 p2 S hok hp1 hp2 o29) (fun v S1 hq => ?_)
              obtain ⟨r34, rfl, hr34, ok31, md32, hpo33⟩ := hq
              obtain ⟨g30, rfl⟩ : ∃ g, S1 = sv_sts S [1113] g := ⟨_, md32.eq⟩
              show sv_T sm_XS sm_cs sm_L sm_sh 3 (q_isEqual p1 p2 p3 p4 S) 131 65 [(0, .ref 0), (1, sv_I p1), (2, sv_I p2), (3, sv_I p3), (4, sv_I p4)] [sv_I r34] (sv_sts S [1113] g30)
              have md35 : sv_mod [1113] S (sv_sts S [1113] g30) := sv_mod.sts sv_mod.rf (by decide)
              have h := h r34 hr34 g30 hpo33
              refine sv_istore hM dX12_isEqual_65 (by decide) rfl ?_
              show sv_T sm_XS sm_cs sm_L sm_sh 3 (q_isEqual p1 p2 p3 p4 S) 131 67 [(0, .ref 0), (1, sv_I p1), (2, sv_I p2), (3, sv_I p3), (4, sv_I p4), (5, sv_I r34)] [] (sv_sts S [1113] g30)
              refine sv_aload_n hM dX12_isEqual_67 rfl rfl ?_
              have k36 : (0 ≤ (g30 1113 0) ∧ (g30 1113 0) ≤ 1) := sm_okZ ok31 sm_r1113 0
              have h := h k36
              refine sv_getI hM dX12_isEqual_68 sm_fl_806 (sm_a0 _) sm_k113 rfl (x := (g30 1113 0)) rfl ?_
              refine sv_istore hM dX12_isEqual_71 (by decide) rfl ?_
              show sv_T sm_XS sm_cs sm_L sm_sh 3 (q_isEqual p1 p2 p3 p4 S) 131 73 [(0, .ref 0), (1, sv_I p1), (2, sv_I p2), (3, sv_I p3), (4, sv_I p4), (5, sv_I r34), (6, sv_I (g30 1113 0))] [] (sv_sts S [1113] g30)
              refine sv_aload_n hM dX12_isEqual_73 rfl rfl ?_
              refine sv_iload_n hM dX12_isEqual_74 rfl rfl ?_
              refine sv_iload hM dX12_isEqual_75 rfl rfl ?_
              obtain ⟨o37, h⟩ := h
              refine sv_callV hM dX12_isEqual_77 sm_iv_816 (by decide) (sm_a0 _) rfl rfl (Nat.le_of_ble_eq_true rfl) sm_h127 (Nat.le_of_ble_eq_true rfl) (Nat.le_of_ble_eq_true rfl) (F' := 2) (Nat.le_of_ble_eq_true rfl) rfl (t_numberOf p3 p4 (sv_sts S [1113] g30) ok31 hp3 hp4 o37) (fun v S1 hq => ?_)
              obtain ⟨r42, rfl, hr42, ok39, md40, hpo41⟩ := hq
              obtain ⟨g38, rfl⟩ : ∃ g, S1 = sv_sts (sv_sts S [1113] g30) [1113] g := ⟨_, md40.eq⟩
              show sv_T sm_XS sm_cs sm_L sm_sh 3 (q_isEqual p1 p2 p3 p4 S) 131 80 [(0, .ref 0), (1, sv_I p1), (2, sv_I p2), (3, sv_I p3), (4, sv_I p4), (5, sv_I r34), (6, sv_I (g30 1113 0))] [sv_I r42] (sv_sts (sv_sts S [1113] g30) [1113] g38)
              have md43 : sv_mod [1113] S (sv_sts (sv_sts S [1113] g30) [1113] g38) := sv_mod.sts md35 (by decide)
              have h := h r42 hr42 g38 hpo41
              refine sv_istore hM dX12_isEqual_80 (by decide) rfl ?_
              show sv_T sm_XS sm_cs sm_L sm_sh 3 (q_isEqual p1 p2 p3 p4 S) 131 82 [(0, .ref 0), (1, sv_I p1), (2, sv_I p2), (3, sv_I p3), (4, sv_I p4), (5, sv_I r34), (6, sv_I (g30 1113 0)), (7, sv_I r42)] [] (sv_sts (sv_sts S [1113] g30) [1113] g38)
              refine sv_iload hM dX12_isEqual_82 rfl rfl ?_
              refine sv_cond_eq hM dX12_isEqual_84 (sv_R01 k36) (t := 105) rfl rfl (fun hc => ?_) (fun hc => ?_)
              · have h := h.1 (hc)
                refine sv_iconst (d := (0 : Int)) hM dX12_isEqual_105 rfl rfl ?_
                exact sv_iret hM dX12_isEqual_106 rfl (sv_nz (⟨by decide, by decide⟩ : 0 ≤ (0 : Int) ∧ (0 : Int) ≤ 1)) ⟨(0 : Int), rfl, sv_R01 (⟨by decide, by decide⟩ : 0 ≤ (0 : Int) ∧ (0 : Int) ≤ 1), ok39, md43, h⟩
              · have h := h.2 (hc)
                refine sv_aload_n hM dX12_isEqual_87 rfl rfl ?_
                have k44 : (0 ≤ (g38 1113 0) ∧ (g38 1113 0) ≤ 1) := sm_okZ ok39 sm_r1113 0
                have h := h k44
                refine sv_getI hM dX12_isEqual_88 sm_fl_806 (sm_a0 _) sm_k113 rfl (x := (g38 1113 0)) rfl ?_
                refine sv_cond_eq hM dX12_isEqual_91 (sv_R01 k44) (t := 105) rfl rfl (fun hc => ?_) (fun hc => ?_)
                · have h := h.1 (hc)
                  refine sv_iconst (d := (0 : Int)) hM dX12_isEqual_105 rfl rfl ?_
                  exact sv_iret hM dX12_isEqual_106 rfl (sv_nz (⟨by decide, by decide⟩ : 0 ≤ (0 : Int) ∧ (0 : Int) ≤ 1)) ⟨(0 : Int), rfl, sv_R01 (⟨by decide, by decide⟩ : 0 ≤ (0 : Int) ∧ (0 : Int) ≤ 1), ok39, md43, h⟩
                · have h := h.2 (hc)
                  refine sv_iload hM dX12_isEqual_94 rfl rfl ?_
                  refine sv_iload hM dX12_isEqual_96 rfl rfl ?_
                  refine sv_icmp_ne hM dX12_isEqual_98 hr34 hr42 (t := 105) rfl rfl (fun hc => ?_) (fun hc => ?_)
                  · have h := h.1 (hc)
                    refine sv_iconst (d := (0 : Int)) hM dX12_isEqual_105 rfl rfl ?_
                    exact sv_iret hM dX12_isEqual_106 rfl (sv_nz (⟨by decide, by decide⟩ : 0 ≤ (0 : Int) ∧ (0 : Int) ≤ 1)) ⟨(0 : Int), rfl, sv_R01 (⟨by decide, by decide⟩ : 0 ≤ (0 : Int) ∧ (0 : Int) ≤ 1), ok39, md43, h⟩
                  · have h := h.2 (hc)
                    refine sv_iconst (d := (1 : Int)) hM dX12_isEqual_101 rfl rfl ?_
                    refine sv_goto hM dX12_isEqual_102 (pc' := 106) rfl ?_
                    exact sv_iret hM dX12_isEqual_106 rfl (sv_nz (⟨by decide, by decide⟩ : 0 ≤ (1 : Int) ∧ (1 : Int) ≤ 1)) ⟨(1 : Int), rfl, sv_R01 (⟨by decide, by decide⟩ : 0 ≤ (1 : Int) ∧ (1 : Int) ≤ 1), ok39, md43, h⟩
            · have h := h.2 (hc)
              refine sv_iload_n hM dX12_isEqual_50 rfl rfl ?_
              refine sv_iload_n hM dX12_isEqual_51 rfl rfl ?_
              refine sv_iload_n hM dX12_isEqual_52 rfl rfl ?_
              refine sv_iload hM dX12_isEqual_53 rfl rfl ?_
              refine sv_callS hM dX12_isEqual_55 sm_iv_812 (Nat.le_of_ble_eq_true rfl) rfl rfl (Nat.le_of_ble_eq_true rfl) sm_h130 (Nat.le_of_ble_eq_true rfl) (Nat.le_of_ble_eq_true rfl) (F' := 0) (Nat.le_of_ble_eq_true rfl) rfl (t_isSame p1 p2 p3 p4 S hok hp1 hp2 hp3 hp4) (fun v S1 hq => ?_)
              obtain ⟨r49, rfl, hr49, ok46, md47, hpo48⟩ := hq
              obtain rfl : S = S1 := (funext fun j => md47 j (by intro q; cases q)).symm
              show sv_T sm_XS sm_cs sm_L sm_sh 3 (q_isEqual p1 p2 p3 p4 S) 131 58 [(0, .ref 0), (1, sv_I p1), (2, sv_I p2), (3, sv_I p3), (4, sv_I p4)] [sv_I r49] S
              have h := h r49 hr49 hpo48
              obtain ⟨o50, h⟩ := h
              exact sv_iret hM dX12_isEqual_58 rfl (sv_nz o50) ⟨r49, rfl, sv_R01 o50, ok46, sv_mod.rf, h⟩
    · have h := h.2 (hc)
      refine sv_iload_n hM dX12_isEqual_10 rfl rfl ?_
      refine sv_iconst (d := (1 : Int)) hM dX12_isEqual_11 rfl rfl ?_
      refine sv_icmp_gt hM dX12_isEqual_12 hp1 (⟨by decide, by decide⟩ : sv_R (1 : Int)) (t := 24) rfl rfl (fun hc => ?_) (fun hc => ?_)
      · have h := h.1 (hc)
        refine sv_iconst (d := (0 : Int)) hM dX12_isEqual_24 rfl rfl ?_
        exact sv_iret hM dX12_isEqual_25 rfl (sv_nz (⟨by decide, by decide⟩ : 0 ≤ (0 : Int) ∧ (0 : Int) ≤ 1)) ⟨(0 : Int), rfl, sv_R01 (⟨by decide, by decide⟩ : 0 ≤ (0 : Int) ∧ (0 : Int) ≤ 1), hok, sv_mod.rf, h⟩
      · have h := h.2 (hc)
        refine sv_iload_n hM dX12_isEqual_15 rfl rfl ?_
        refine sv_iconst (d := (1 : Int)) hM dX12_isEqual_16 rfl rfl ?_
        refine sv_icmp_gt hM dX12_isEqual_17 hp3 (⟨by decide, by decide⟩ : sv_R (1 : Int)) (t := 24) rfl rfl (fun hc => ?_) (fun hc => ?_)
        · have h := h.1 (hc)
          refine sv_iconst (d := (0 : Int)) hM dX12_isEqual_24 rfl rfl ?_
          exact sv_iret hM dX12_isEqual_25 rfl (sv_nz (⟨by decide, by decide⟩ : 0 ≤ (0 : Int) ∧ (0 : Int) ≤ 1)) ⟨(0 : Int), rfl, sv_R01 (⟨by decide, by decide⟩ : 0 ≤ (0 : Int) ∧ (0 : Int) ≤ 1), hok, sv_mod.rf, h⟩
        · have h := h.2 (hc)
          refine sv_iconst (d := (1 : Int)) hM dX12_isEqual_20 rfl rfl ?_
          refine sv_goto hM dX12_isEqual_21 (pc' := 25) rfl ?_
          exact sv_iret hM dX12_isEqual_25 rfl (sv_nz (⟨by decide, by decide⟩ : 0 ≤ (1 : Int) ∧ (1 : Int) ≤ 1)) ⟨(1 : Int), rfl, sv_R01 (⟨by decide, by decide⟩ : 0 ≤ (1 : Int) ∧ (1 : Int) ≤ 1), hok, sv_mod.rf, h⟩
def q_orderOf (p1 : Int) (p2 : Int) (S : sv_S) : Option Value → sv_S → Prop := fun v S' => ∃ r : Int, v = some (sv_I r) ∧ sv_R r ∧ sm_ok S' ∧ sv_mod [] S S' ∧ (-65535 ≤ r ∧ r ≤ 65535)
theorem la_orderOf_0 : (0 : Int) ≤ 0 := by omega
theorem la_orderOf_1 {x0 x1 : Int} (h0 : x0 ≤ x1) : 0 ≤ x1 - x0 := by omega
theorem la_orderOf_2 {x0 : Int} (h0 : 0 ≤ x0) (h1 : x0 < 400) : 0 ≤ x0 ∧ x0 < 400 := by omega
theorem la_orderOf_3 {x0 x1 x2 : Int} (h0 : 0 ≤ x0) (h1 : x0 ≤ x1) (h2 : x0 ≤ x2) (h3 : x1 ≤ x0) (h4 : sv_R x2) : sv_R (x1 - x2) := by omega
theorem la_orderOf_4 {x0 x1 : Int} (h0 : 0 ≤ x0) (h1 : x1 ≤ 90) : (-65535) ≤ x0 - x1 := by omega
theorem la_orderOf_5 {x0 x1 x2 : Int} (h0 : x0 ≤ x1) (h1 : x0 = x2) : x2 - x1 ≤ 65535 := by omega
theorem la_orderOf_6 {x0 x1 : Int} (h0 : x0 ≤ x1) (h1 : ¬ x0 = x1) : x0 < x1 := by omega
theorem la_orderOf_7 {x0 x1 x2 x3 x4 x5 x6 : Int} (h0 : x0 ≤ x1) (h1 : x2 ≤ x0) (h2 : x0 < x2) : ¬ x0 = x1 → (0 ≤ 60 * x3 + x0 ∧ 60 * x3 + x0 < 24000) ∧ (0 ≤ x4 ∧ x4 ≤ 65535 → (0 ≤ 60 * x5 + x0 ∧ 60 * x5 + x0 < 24000) ∧ (0 ≤ x6 ∧ x6 ≤ 65535 → sv_R (x4 - x6) ∧ (-65535) ≤ x4 - x6 ∧ x4 - x6 ≤ 65535)) := by omega
theorem la_orderOf_8 {x0 x1 x2 : Int} (h0 : x0 ≤ x1) (h1 : x2 ≤ x0) (h2 : x0 < x2) (h3 : ¬ ¬ x0 = x1) : sv_R (x2 - x1) := by omega
theorem la_orderOf_9 {x0 x1 x2 : Int} (h0 : x0 < x1) (h1 : ¬ ¬ x0 = x2) : (-65535) ≤ x1 - x2 := by omega
theorem la_orderOf_10 {x0 x1 x2 : Int} (h0 : x0 ≤ x1) (h1 : x2 ≤ x0) : x2 - x1 ≤ 65535 := by omega
theorem la_orderOf_11 {x0 x1 x2 : Int} (h0 : x0 ≤ x1) (h1 : ¬ x2 ≤ x0) (h2 : x1 ≤ x0) : x0 = x2 → sv_R (x2 - x1) ∧ (-65535) ≤ x2 - x1 ∧ x2 - x1 ≤ 65535 := by omega
theorem la_orderOf_12 {x0 x1 x2 x3 x4 x5 : Int} (h0 : x0 ≤ x1) (h1 : x1 ≤ x0) : ¬ x0 = x1 → (0 ≤ 60 * x2 + x0 ∧ 60 * x2 + x0 < 24000) ∧ (0 ≤ x3 ∧ x3 ≤ 65535 → (0 ≤ 60 * x4 + x0 ∧ 60 * x4 + x0 < 24000) ∧ (0 ≤ x5 ∧ x5 ≤ 65535 → sv_R (x3 - x5) ∧ (-65535) ≤ x3 - x5 ∧ x3 - x5 ≤ 65535)) := by omega
theorem la_orderOf_13 {x0 x1 x2 : Int} (h0 : 0 ≤ x0) (h1 : x0 ≤ x1) (h2 : sv_R x2) (h3 : ¬ x2 ≤ x0) (h4 : x1 ≤ x0) : sv_R (x2 - x1) := by omega
theorem la_orderOf_14 {x0 x1 x2 : Int} (h0 : ¬ x0 ≤ x1) (h1 : ¬ ¬ x1 = x2) : (-65535) ≤ x0 - x2 := by omega
theorem la_orderOf_15 {x0 x1 : Int} (h0 : x0 ≤ 90) (h1 : 0 ≤ x1) : x0 - x1 ≤ 65535 := by omega
theorem la_orderOf_16 {x0 x1 : Int} (h0 : 0 ≤ x0) (h1 : 0 ≤ x1) : 0 ≤ 60 * x0 + x1 := by omega
theorem la_orderOf_17 {x0 x1 x2 : Int} (h0 : ¬ x0 ≤ x1) (h1 : 60 * x2 + x0 ≤ 24000) : 60 * x2 + x1 < 24000 := by omega
theorem la_orderOf_18 {x0 x1 x2 x3 x4 : Int} (h0 : 0 ≤ x0) (h1 : sv_R x1) (h2 : ¬ x1 ≤ x0) (h3 : sv_R x2) (h4 : ¬ x2 ≤ x0) (h5 : 0 ≤ x3) (h6 : x3 ≤ 65535) (h7 : 0 ≤ x4) (h8 : x4 ≤ 65535) : ¬ x3 = x4 → (x0 = x1 → sv_R (x1 - x2) ∧ (-65535) ≤ x1 - x2 ∧ x1 - x2 ≤ 65535) ∧ (¬ x0 = x1 → (¬ x0 = x2 → sv_R (x3 - x4) ∧ (-65535) ≤ x3 - x4 ∧ x3 - x4 ≤ 65535) ∧ (¬ ¬ x0 = x2 → sv_R (x1 - x2) ∧ (-65535) ≤ x1 - x2 ∧ x1 - x2 ≤ 65535)) := by omega
theorem la_orderOf_19 {x0 x1 : Int} (h0 : 0 ≤ x0) (h1 : sv_R x1) (h2 : ¬ x1 ≤ x0) : sv_R (x0 + 1) := by omega
theorem la_orderOf_20 {x0 x1 x2 : Int} (h0 : 0 ≤ x0) (h1 : ¬ x1 ≤ x0) (h2 : ¬ x2 ≤ x0) : 0 ≤ x0 + 1 ∧ x0 + 1 ≤ x1 ∧ x0 + 1 ≤ x2 := by omega
theorem la_orderOf_21 {x0 x1 : Int} : x0 - (x1 + 1) < x0 - x1 := by omega
set_option maxHeartbeats 2000000 in
theorem f_orderOf : ∀ (p1 : Int) (p2 : Int) (S : sv_S), sm_ok S → sv_R p1 → sv_R p2 → (31 ≤ (S 1007 0) ∧ (S 1007 0) ≤ 400 ∧ sm_LN (S 4) 400 (S 1007 0) ∧ 0 ≤ p1 ∧ p1 < 400 ∧ 0 ≤ p2 ∧ p2 < 400) → ((0 ≤ (0 : Int) ∧ (0 : Int) ≤ (S 4 p1) ∧ (0 : Int) ≤ (S 4 p2)) ∧ (∀ l3_1 : Int, sv_R l3_1 → (0 ≤ l3_1 ∧ l3_1 ≤ (S 4 p1) ∧ l3_1 ≤ (S 4 p2)) → (0 ≤ (S 4 p1) - l3_1) ∧ (0 ≤ p1 ∧ p1 < 400) ∧ (sv_R (S 4 p1) → ((((S 4 p1) ≤ l3_1) → (((l3_1 = (S 4 p1)) → (0 ≤ p2 ∧ p2 < 400) ∧ (sv_R (S 4 p2) → (sv_R ((S 4 p1) - (S 4 p2))) ∧ (-65535 ≤ ((S 4 p1) - (S 4 p2)) ∧ ((S 4 p1) - (S 4 p2)) ≤ 65535))) ∧ ((¬ (l3_1 = (S 4 p1))) → (0 ≤ p2 ∧ p2 < 400) ∧ (sv_R (S 4 p2) → (((¬ l3_1 = (S 4 p2)) → (0 ≤ (((60 : Int) * p1) + l3_1) ∧ (((60 : Int) * p1) + l3_1) < 24000) ∧ ((0 ≤ (S 3 (((60 : Int) * p1) + l3_1)) ∧ (S 3 (((60 : Int) * p1) + l3_1)) ≤ 65535) → (0 ≤ (((60 : Int) * p2) + l3_1) ∧ (((60 : Int) * p2) + l3_1) < 24000) ∧ ((0 ≤ (S 3 (((60 : Int) * p2) + l3_1)) ∧ (S 3 (((60 : Int) * p2) + l3_1)) ≤ 65535) → (sv_R ((S 3 (((60 : Int) * p1) + l3_1)) - (S 3 (((60 : Int) * p2) + l3_1)))) ∧ (-65535 ≤ ((S 3 (((60 : Int) * p1) + l3_1)) - (S 3 (((60 : Int) * p2) + l3_1))) ∧ ((S 3 (((60 : Int) * p1) + l3_1)) - (S 3 (((60 : Int) * p2) + l3_1))) ≤ 65535)))) ∧ ((¬ (¬ l3_1 = (S 4 p2))) → (sv_R ((S 4 p1) - (S 4 p2))) ∧ (-65535 ≤ ((S 4 p1) - (S 4 p2)) ∧ ((S 4 p1) - (S 4 p2)) ≤ 65535))))))) ∧ ((¬ ((S 4 p1) ≤ l3_1)) → (0 ≤ p2 ∧ p2 < 400) ∧ (sv_R (S 4 p2) → ((((S 4 p2) ≤ l3_1) → (((l3_1 = (S 4 p1)) → (sv_R ((S 4 p1) - (S 4 p2))) ∧ (-65535 ≤ ((S 4 p1) - (S 4 p2)) ∧ ((S 4 p1) - (S 4 p2)) ≤ 65535)) ∧ ((¬ (l3_1 = (S 4 p1))) → (((¬ l3_1 = (S 4 p2)) → (0 ≤ (((60 : Int) * p1) + l3_1) ∧ (((60 : Int) * p1) + l3_1) < 24000) ∧ ((0 ≤ (S 3 (((60 : Int) * p1) + l3_1)) ∧ (S 3 (((60 : Int) * p1) + l3_1)) ≤ 65535) → (0 ≤ (((60 : Int) * p2) + l3_1) ∧ (((60 : Int) * p2) + l3_1) < 24000) ∧ ((0 ≤ (S 3 (((60 : Int) * p2) + l3_1)) ∧ (S 3 (((60 : Int) * p2) + l3_1)) ≤ 65535) → (sv_R ((S 3 (((60 : Int) * p1) + l3_1)) - (S 3 (((60 : Int) * p2) + l3_1)))) ∧ (-65535 ≤ ((S 3 (((60 : Int) * p1) + l3_1)) - (S 3 (((60 : Int) * p2) + l3_1))) ∧ ((S 3 (((60 : Int) * p1) + l3_1)) - (S 3 (((60 : Int) * p2) + l3_1))) ≤ 65535)))) ∧ ((¬ (¬ l3_1 = (S 4 p2))) → (sv_R ((S 4 p1) - (S 4 p2))) ∧ (-65535 ≤ ((S 4 p1) - (S 4 p2)) ∧ ((S 4 p1) - (S 4 p2)) ≤ 65535)))))) ∧ ((¬ ((S 4 p2) ≤ l3_1)) → (0 ≤ (((60 : Int) * p1) + l3_1) ∧ (((60 : Int) * p1) + l3_1) < 24000) ∧ ((0 ≤ (S 3 (((60 : Int) * p1) + l3_1)) ∧ (S 3 (((60 : Int) * p1) + l3_1)) ≤ 65535) → (0 ≤ (((60 : Int) * p2) + l3_1) ∧ (((60 : Int) * p2) + l3_1) < 24000) ∧ ((0 ≤ (S 3 (((60 : Int) * p2) + l3_1)) ∧ (S 3 (((60 : Int) * p2) + l3_1)) ≤ 65535) → (((¬ (S 3 (((60 : Int) * p1) + l3_1)) = (S 3 (((60 : Int) * p2) + l3_1))) → (((l3_1 = (S 4 p1)) → (sv_R ((S 4 p1) - (S 4 p2))) ∧ (-65535 ≤ ((S 4 p1) - (S 4 p2)) ∧ ((S 4 p1) - (S 4 p2)) ≤ 65535)) ∧ ((¬ (l3_1 = (S 4 p1))) → (((¬ l3_1 = (S 4 p2)) → (sv_R ((S 3 (((60 : Int) * p1) + l3_1)) - (S 3 (((60 : Int) * p2) + l3_1)))) ∧ (-65535 ≤ ((S 3 (((60 : Int) * p1) + l3_1)) - (S 3 (((60 : Int) * p2) + l3_1))) ∧ ((S 3 (((60 : Int) * p1) + l3_1)) - (S 3 (((60 : Int) * p2) + l3_1))) ≤ 65535)) ∧ ((¬ (¬ l3_1 = (S 4 p2))) → (sv_R ((S 4 p1) - (S 4 p2))) ∧ (-65535 ≤ ((S 4 p1) - (S 4 p2)) ∧ ((S 4 p1) - (S 4 p2)) ≤ 65535)))))) ∧ ((¬ (¬ (S 3 (((60 : Int) * p1) + l3_1)) = (S 3 (((60 : Int) * p2) + l3_1)))) → (sv_R (l3_1 + (1 : Int))) ∧ ((0 ≤ (l3_1 + (1 : Int)) ∧ (l3_1 + (1 : Int)) ≤ (S 4 p1) ∧ (l3_1 + (1 : Int)) ≤ (S 4 p2)) ∧ ((S 4 p1) - (l3_1 + (1 : Int))) < ((S 4 p1) - l3_1)))))))))))))) := by
  intro p1
  intro p2
  intro S
  intro h1_
  intro h2_
  intro h3_
  rintro ⟨h4_, ⟨h5_, ⟨h6_, ⟨h7_, ⟨h8_, ⟨h9_, h10_⟩⟩⟩⟩⟩⟩
  refine ⟨?_, ?_⟩
  · skip
    refine ⟨la_orderOf_0, ?_⟩
    refine ⟨?_, ?_⟩
    · skip
      exact (sm_LN_at h6_ p1 h7_ h8_).1
    exact (sm_LN_at h6_ p2 h9_ h10_).1
  intro l3_1
  intro h11_
  rintro ⟨h12_, ⟨h13_, h14_⟩⟩
  refine ⟨(la_orderOf_1 h13_), ?_⟩
  refine ⟨(la_orderOf_2 h7_ h8_), ?_⟩
  intro h15_
  refine ⟨?_, ?_⟩
  · skip
    intro h16_
    refine ⟨?_, ?_⟩
    · skip
      intro h17_
      refine ⟨(la_orderOf_2 h9_ h10_), ?_⟩
      intro h18_
      refine ⟨(la_orderOf_3 h12_ h13_ h14_ h16_ h18_), ?_⟩
      refine ⟨?_, ?_⟩
      · skip
        exact (la_orderOf_4 (sm_LN_at h6_ p1 h7_ h8_).1 (sm_LN_at h6_ p2 h9_ h10_).2.1)
      exact (la_orderOf_5 h14_ h17_)
    intro h19_
    refine ⟨(la_orderOf_2 h9_ h10_), ?_⟩
    intro h20_
    refine ⟨(la_orderOf_7 h14_ h16_ (la_orderOf_6 h13_ h19_)), ?_⟩
    intro h21_
    refine ⟨(la_orderOf_8 h14_ h16_ (la_orderOf_6 h13_ h19_) h21_), ?_⟩
    refine ⟨(la_orderOf_9 (la_orderOf_6 h13_ h19_) h21_), ?_⟩
    exact (la_orderOf_10 h14_ h16_)
  intro h22_
  refine ⟨(la_orderOf_2 h9_ h10_), ?_⟩
  intro h23_
  refine ⟨?_, ?_⟩
  · skip
    intro h24_
    refine ⟨(la_orderOf_11 h14_ h22_ h24_), ?_⟩
    intro h25_
    refine ⟨(la_orderOf_12 h14_ h24_), ?_⟩
    intro h26_
    refine ⟨(la_orderOf_13 h12_ h14_ h15_ h22_ h24_), ?_⟩
    refine ⟨(la_orderOf_14 h22_ h26_), ?_⟩
    exact (la_orderOf_15 (sm_LN_at h6_ p1 h7_ h8_).2.1 (sm_LN_at h6_ p2 h9_ h10_).1)
  intro h27_
  refine ⟨?_, ?_⟩
  · skip
    refine ⟨(la_orderOf_16 h7_ h12_), ?_⟩
    exact (la_orderOf_17 h22_ (sm_LN_at h6_ p1 h7_ h8_).2.2)
  rintro ⟨h28_, h29_⟩
  refine ⟨?_, ?_⟩
  · skip
    refine ⟨(la_orderOf_16 h9_ h12_), ?_⟩
    exact (la_orderOf_17 h27_ (sm_LN_at h6_ p2 h9_ h10_).2.2)
  rintro ⟨h30_, h31_⟩
  refine ⟨(la_orderOf_18 h12_ h15_ h22_ h23_ h27_ h28_ h29_ h30_ h31_), ?_⟩
  intro h32_
  refine ⟨(la_orderOf_19 h12_ h15_ h22_), ?_⟩
  refine ⟨(la_orderOf_20 h12_ h22_ h27_), ?_⟩
  exact la_orderOf_21
set_option maxRecDepth 8000 in
set_option maxHeartbeats 2000000 in
theorem t_orderOf : ∀ (p1 : Int) (p2 : Int) (S : sv_S), sm_ok S → sv_R p1 → sv_R p2 → (31 ≤ (S 1007 0) ∧ (S 1007 0) ≤ 400 ∧ sm_LN (S 4) 400 (S 1007 0) ∧ 0 ≤ p1 ∧ p1 < 400 ∧ 0 ≤ p2 ∧ p2 < 400) → sv_T sm_XS sm_cs sm_L sm_sh 0 (q_orderOf p1 p2 S) 132 0 (lv_args 0 [.ref 0, sv_I p1, sv_I p2]) [] S := by
  intro p1 p2 S hok hp1 hp2 hpre
  have h := f_orderOf p1 p2 S hok hp1 hp2 hpre
  have hM := sm_h132
  show sv_T sm_XS sm_cs sm_L sm_sh 0 (q_orderOf p1 p2 S) 132 0 [(0, .ref 0), (1, sv_I p1), (2, sv_I p2)] [] S
  refine sv_iconst (d := (0 : Int)) hM dX12_orderOf_0 rfl rfl ?_
  refine sv_istore_n hM dX12_orderOf_1 (by decide) rfl ?_
  show sv_T sm_XS sm_cs sm_L sm_sh 0 (q_orderOf p1 p2 S) 132 2 [(0, .ref 0), (1, sv_I p1), (2, sv_I p2), (3, sv_I (0 : Int))] [] S
  obtain ⟨hin3, h⟩ := h
  have hJ : ∀ a : Int × Unit, (sv_R a.1 ∧ sm_ok S ∧ (0 ≤ a.1 ∧ a.1 ≤ (S 4 p1) ∧ a.1 ≤ (S 4 p2))) → sv_T sm_XS sm_cs sm_L sm_sh 0 (q_orderOf p1 p2 S) 132 2 [(0, .ref 0), (1, sv_I p1), (2, sv_I p2), (3, sv_I a.1)] [] S := by
    refine sv_loop (α := Int × Unit) (fun a => sv_R a.1 ∧ sm_ok S ∧ (0 ≤ a.1 ∧ a.1 ≤ (S 4 p1) ∧ a.1 ≤ (S 4 p2))) (fun a => (S 4 p1) - a.1) (fun a => sv_T sm_XS sm_cs sm_L sm_sh 0 (q_orderOf p1 p2 S) 132 2 [(0, .ref 0), (1, sv_I p1), (2, sv_I p2), (3, sv_I a.1)] [] S) (fun a q => (h a.1 q.1 q.2.2).1) (fun a q ih2 => ?_)
    obtain ⟨l3_1, _u⟩ := a
    obtain ⟨hl3_1, ok4, hin3i⟩ := q
    have h := (h l3_1 hl3_1 hin3i).2
    show sv_T sm_XS sm_cs sm_L sm_sh 0 (q_orderOf p1 p2 S) 132 2 [(0, .ref 0), (1, sv_I p1), (2, sv_I p2), (3, sv_I l3_1)] [] S
    refine sv_iload_n hM dX12_orderOf_2 rfl rfl ?_
    refine sv_aload_n hM dX12_orderOf_3 rfl rfl ?_
    refine sv_getA hM dX12_orderOf_4 sm_fl_20 (sm_a0 _) sm_k6 rfl ?_
    refine sv_iload_n hM dX12_orderOf_7 rfl rfl ?_
    obtain ⟨o5, h⟩ := h
    have k6 : sv_R (S 4 p1) := sm_okI ok4 sm_r4 p1
    have h := h k6
    refine sv_iald hM dX12_orderOf_8 (sm_a4 _) (by decide) o5.1 o5.2 rfl (x := (S 4 p1)) rfl ?_
    refine sv_icmp_ge hM dX12_orderOf_9 hl3_1 k6 (t := 53) rfl rfl (fun hc => ?_) (fun hc => ?_)
    · have h := h.1 (hc)
      refine sv_iload_n hM dX12_orderOf_53 rfl rfl ?_
      refine sv_aload_n hM dX12_orderOf_54 rfl rfl ?_
      refine sv_getA hM dX12_orderOf_55 sm_fl_20 (sm_a0 _) sm_k6 rfl ?_
      refine sv_iload_n hM dX12_orderOf_58 rfl rfl ?_
      refine sv_iald hM dX12_orderOf_59 (sm_a4 _) (by decide) o5.1 o5.2 rfl (x := (S 4 p1)) rfl ?_
      refine sv_icmp_eq hM dX12_orderOf_60 hl3_1 k6 (t := 73) rfl rfl (fun hc => ?_) (fun hc => ?_)
      · have h := h.1 (hc)
        refine sv_aload_n hM dX12_orderOf_73 rfl rfl ?_
        refine sv_getA hM dX12_orderOf_74 sm_fl_20 (sm_a0 _) sm_k6 rfl ?_
        refine sv_iload_n hM dX12_orderOf_77 rfl rfl ?_
        refine sv_iald hM dX12_orderOf_78 (sm_a4 _) (by decide) o5.1 o5.2 rfl (x := (S 4 p1)) rfl ?_
        refine sv_aload_n hM dX12_orderOf_79 rfl rfl ?_
        refine sv_getA hM dX12_orderOf_80 sm_fl_20 (sm_a0 _) sm_k6 rfl ?_
        refine sv_iload_n hM dX12_orderOf_83 rfl rfl ?_
        obtain ⟨o7, h⟩ := h
        have k8 : sv_R (S 4 p2) := sm_okI ok4 sm_r4 p2
        have h := h k8
        refine sv_iald hM dX12_orderOf_84 (sm_a4 _) (by decide) o7.1 o7.2 rfl (x := (S 4 p2)) rfl ?_
        refine sv_isub hM dX12_orderOf_85 rfl ?_
        obtain ⟨o9, h⟩ := h
        exact sv_iret hM dX12_orderOf_86 rfl rfl ⟨((S 4 p1) - (S 4 p2)), rfl, o9, ok4, sv_mod.rf, h⟩
      · have h := h.2 (hc)
        refine sv_iload_n hM dX12_orderOf_63 rfl rfl ?_
        refine sv_aload_n hM dX12_orderOf_64 rfl rfl ?_
        refine sv_getA hM dX12_orderOf_65 sm_fl_20 (sm_a0 _) sm_k6 rfl ?_
        refine sv_iload_n hM dX12_orderOf_68 rfl rfl ?_
        obtain ⟨o10, h⟩ := h
        have k11 : sv_R (S 4 p2) := sm_okI ok4 sm_r4 p2
        have h := h k11
        refine sv_iald hM dX12_orderOf_69 (sm_a4 _) (by decide) o10.1 o10.2 rfl (x := (S 4 p2)) rfl ?_
        refine sv_icmp_ne hM dX12_orderOf_70 hl3_1 k11 (t := 87) rfl rfl (fun hc => ?_) (fun hc => ?_)
        · have h := h.1 (hc)
          refine sv_aload_n hM dX12_orderOf_87 rfl rfl ?_
          refine sv_getA hM dX12_orderOf_88 sm_fl_16 (sm_a0 _) sm_k5 rfl ?_
          refine sv_bipush (d := (60 : Int)) hM dX12_orderOf_91 rfl rfl ?_
          refine sv_iload_n hM dX12_orderOf_93 rfl rfl ?_
          refine sv_imul hM dX12_orderOf_94 rfl ?_
          refine sv_iload_n hM dX12_orderOf_95 rfl rfl ?_
          refine sv_iadd hM dX12_orderOf_96 rfl ?_
          obtain ⟨o12, h⟩ := h
          have k13 : (0 ≤ (S 3 (((60 : Int) * p1) + l3_1)) ∧ (S 3 (((60 : Int) * p1) + l3_1)) ≤ 65535) := sm_okC ok4 sm_r3 (((60 : Int) * p1) + l3_1)
          have h := h k13
          refine sv_cald hM dX12_orderOf_97 (sm_a3 _) (by decide) o12.1 o12.2 rfl (x := (S 3 (((60 : Int) * p1) + l3_1))) rfl ?_
          refine sv_aload_n hM dX12_orderOf_98 rfl rfl ?_
          refine sv_getA hM dX12_orderOf_99 sm_fl_16 (sm_a0 _) sm_k5 rfl ?_
          refine sv_bipush (d := (60 : Int)) hM dX12_orderOf_102 rfl rfl ?_
          refine sv_iload_n hM dX12_orderOf_104 rfl rfl ?_
          refine sv_imul hM dX12_orderOf_105 rfl ?_
          refine sv_iload_n hM dX12_orderOf_106 rfl rfl ?_
          refine sv_iadd hM dX12_orderOf_107 rfl ?_
          obtain ⟨o14, h⟩ := h
          have k15 : (0 ≤ (S 3 (((60 : Int) * p2) + l3_1)) ∧ (S 3 (((60 : Int) * p2) + l3_1)) ≤ 65535) := sm_okC ok4 sm_r3 (((60 : Int) * p2) + l3_1)
          have h := h k15
          refine sv_cald hM dX12_orderOf_108 (sm_a3 _) (by decide) o14.1 o14.2 rfl (x := (S 3 (((60 : Int) * p2) + l3_1))) rfl ?_
          refine sv_isub hM dX12_orderOf_109 rfl ?_
          obtain ⟨o16, h⟩ := h
          exact sv_iret hM dX12_orderOf_110 rfl rfl ⟨((S 3 (((60 : Int) * p1) + l3_1)) - (S 3 (((60 : Int) * p2) + l3_1))), rfl, o16, ok4, sv_mod.rf, h⟩
        · have h := h.2 (hc)
          refine sv_aload_n hM dX12_orderOf_73 rfl rfl ?_
          refine sv_getA hM dX12_orderOf_74 sm_fl_20 (sm_a0 _) sm_k6 rfl ?_
          refine sv_iload_n hM dX12_orderOf_77 rfl rfl ?_
          refine sv_iald hM dX12_orderOf_78 (sm_a4 _) (by decide) o5.1 o5.2 rfl (x := (S 4 p1)) rfl ?_
          refine sv_aload_n hM dX12_orderOf_79 rfl rfl ?_
          refine sv_getA hM dX12_orderOf_80 sm_fl_20 (sm_a0 _) sm_k6 rfl ?_
          refine sv_iload_n hM dX12_orderOf_83 rfl rfl ?_
          refine sv_iald hM dX12_orderOf_84 (sm_a4 _) (by decide) o10.1 o10.2 rfl (x := (S 4 p2)) rfl ?_
          refine sv_isub hM dX12_orderOf_85 rfl ?_
          obtain ⟨o17, h⟩ := h
          exact sv_iret hM dX12_orderOf_86 rfl rfl ⟨((S 4 p1) - (S 4 p2)), rfl, o17, ok4, sv_mod.rf, h⟩
    · have h := h.2 (hc)
      refine sv_iload_n hM dX12_orderOf_12 rfl rfl ?_
      refine sv_aload_n hM dX12_orderOf_13 rfl rfl ?_
      refine sv_getA hM dX12_orderOf_14 sm_fl_20 (sm_a0 _) sm_k6 rfl ?_
      refine sv_iload_n hM dX12_orderOf_17 rfl rfl ?_
      obtain ⟨o18, h⟩ := h
      have k19 : sv_R (S 4 p2) := sm_okI ok4 sm_r4 p2
      have h := h k19
      refine sv_iald hM dX12_orderOf_18 (sm_a4 _) (by decide) o18.1 o18.2 rfl (x := (S 4 p2)) rfl ?_
      refine sv_icmp_ge hM dX12_orderOf_19 hl3_1 k19 (t := 53) rfl rfl (fun hc => ?_) (fun hc => ?_)
      · have h := h.1 (hc)
        refine sv_iload_n hM dX12_orderOf_53 rfl rfl ?_
        refine sv_aload_n hM dX12_orderOf_54 rfl rfl ?_
        refine sv_getA hM dX12_orderOf_55 sm_fl_20 (sm_a0 _) sm_k6 rfl ?_
        refine sv_iload_n hM dX12_orderOf_58 rfl rfl ?_
        refine sv_iald hM dX12_orderOf_59 (sm_a4 _) (by decide) o5.1 o5.2 rfl (x := (S 4 p1)) rfl ?_
        refine sv_icmp_eq hM dX12_orderOf_60 hl3_1 k6 (t := 73) rfl rfl (fun hc => ?_) (fun hc => ?_)
        · have h := h.1 (hc)
          refine sv_aload_n hM dX12_orderOf_73 rfl rfl ?_
          refine sv_getA hM dX12_orderOf_74 sm_fl_20 (sm_a0 _) sm_k6 rfl ?_
          refine sv_iload_n hM dX12_orderOf_77 rfl rfl ?_
          refine sv_iald hM dX12_orderOf_78 (sm_a4 _) (by decide) o5.1 o5.2 rfl (x := (S 4 p1)) rfl ?_
          refine sv_aload_n hM dX12_orderOf_79 rfl rfl ?_
          refine sv_getA hM dX12_orderOf_80 sm_fl_20 (sm_a0 _) sm_k6 rfl ?_
          refine sv_iload_n hM dX12_orderOf_83 rfl rfl ?_
          refine sv_iald hM dX12_orderOf_84 (sm_a4 _) (by decide) o18.1 o18.2 rfl (x := (S 4 p2)) rfl ?_
          refine sv_isub hM dX12_orderOf_85 rfl ?_
          obtain ⟨o20, h⟩ := h
          exact sv_iret hM dX12_orderOf_86 rfl rfl ⟨((S 4 p1) - (S 4 p2)), rfl, o20, ok4, sv_mod.rf, h⟩
        · have h := h.2 (hc)
          refine sv_iload_n hM dX12_orderOf_63 rfl rfl ?_
          refine sv_aload_n hM dX12_orderOf_64 rfl rfl ?_
          refine sv_getA hM dX12_orderOf_65 sm_fl_20 (sm_a0 _) sm_k6 rfl ?_
          refine sv_iload_n hM dX12_orderOf_68 rfl rfl ?_
          refine sv_iald hM dX12_orderOf_69 (sm_a4 _) (by decide) o18.1 o18.2 rfl (x := (S 4 p2)) rfl ?_
          refine sv_icmp_ne hM dX12_orderOf_70 hl3_1 k19 (t := 87) rfl rfl (fun hc => ?_) (fun hc => ?_)
          · have h := h.1 (hc)
            refine sv_aload_n hM dX12_orderOf_87 rfl rfl ?_
            refine sv_getA hM dX12_orderOf_88 sm_fl_16 (sm_a0 _) sm_k5 rfl ?_
            refine sv_bipush (d := (60 : Int)) hM dX12_orderOf_91 rfl rfl ?_
            refine sv_iload_n hM dX12_orderOf_93 rfl rfl ?_
            refine sv_imul hM dX12_orderOf_94 rfl ?_
            refine sv_iload_n hM dX12_orderOf_95 rfl rfl ?_
            refine sv_iadd hM dX12_orderOf_96 rfl ?_
            obtain ⟨o21, h⟩ := h
            have k22 : (0 ≤ (S 3 (((60 : Int) * p1) + l3_1)) ∧ (S 3 (((60 : Int) * p1) + l3_1)) ≤ 65535) := sm_okC ok4 sm_r3 (((60 : Int) * p1) + l3_1)
            have h := h k22
            refine sv_cald hM dX12_orderOf_97 (sm_a3 _) (by decide) o21.1 o21.2 rfl (x := (S 3 (((60 : Int) * p1) + l3_1))) rfl ?_
            refine sv_aload_n hM dX12_orderOf_98 rfl rfl ?_
            refine sv_getA hM dX12_orderOf_99 sm_fl_16 (sm_a0 _) sm_k5 rfl ?_
            refine sv_bipush (d := (60 : Int)) hM dX12_orderOf_102 rfl rfl ?_
            refine sv_iload_n hM dX12_orderOf_104 rfl rfl ?_
            refine sv_imul hM dX12_orderOf_105 rfl ?_
            refine sv_iload_n hM dX12_orderOf_106 rfl rfl ?_
            refine sv_iadd hM dX12_orderOf_107 rfl ?_
            obtain ⟨o23, h⟩ := h
            have k24 : (0 ≤ (S 3 (((60 : Int) * p2) + l3_1)) ∧ (S 3 (((60 : Int) * p2) + l3_1)) ≤ 65535) := sm_okC ok4 sm_r3 (((60 : Int) * p2) + l3_1)
            have h := h k24
            refine sv_cald hM dX12_orderOf_108 (sm_a3 _) (by decide) o23.1 o23.2 rfl (x := (S 3 (((60 : Int) * p2) + l3_1))) rfl ?_
            refine sv_isub hM dX12_orderOf_109 rfl ?_
            obtain ⟨o25, h⟩ := h
            exact sv_iret hM dX12_orderOf_110 rfl rfl ⟨((S 3 (((60 : Int) * p1) + l3_1)) - (S 3 (((60 : Int) * p2) + l3_1))), rfl, o25, ok4, sv_mod.rf, h⟩
          · have h := h.2 (hc)
            refine sv_aload_n hM dX12_orderOf_73 rfl rfl ?_
            refine sv_getA hM dX12_orderOf_74 sm_fl_20 (sm_a0 _) sm_k6 rfl ?_
            refine sv_iload_n hM dX12_orderOf_77 rfl rfl ?_
            refine sv_iald hM dX12_orderOf_78 (sm_a4 _) (by decide) o5.1 o5.2 rfl (x := (S 4 p1)) rfl ?_
            refine sv_aload_n hM dX12_orderOf_79 rfl rfl ?_
            refine sv_getA hM dX12_orderOf_80 sm_fl_20 (sm_a0 _) sm_k6 rfl ?_
            refine sv_iload_n hM dX12_orderOf_83 rfl rfl ?_
            refine sv_iald hM dX12_orderOf_84 (sm_a4 _) (by decide) o18.1 o18.2 rfl (x := (S 4 p2)) rfl ?_
            refine sv_isub hM dX12_orderOf_85 rfl ?_
            obtain ⟨o26, h⟩ := h
            exact sv_iret hM dX12_orderOf_86 rfl rfl ⟨((S 4 p1) - (S 4 p2)), rfl, o26, ok4, sv_mod.rf, h⟩
      · have h := h.2 (hc)
        refine sv_aload_n hM dX12_orderOf_22 rfl rfl ?_
        refine sv_getA hM dX12_orderOf_23 sm_fl_16 (sm_a0 _) sm_k5 rfl ?_
        refine sv_bipush (d := (60 : Int)) hM dX12_orderOf_26 rfl rfl ?_
        refine sv_iload_n hM dX12_orderOf_28 rfl rfl ?_
        refine sv_imul hM dX12_orderOf_29 rfl ?_
        refine sv_iload_n hM dX12_orderOf_30 rfl rfl ?_
        refine sv_iadd hM dX12_orderOf_31 rfl ?_
        obtain ⟨o27, h⟩ := h
        have k28 : (0 ≤ (S 3 (((60 : Int) * p1) + l3_1)) ∧ (S 3 (((60 : Int) * p1) + l3_1)) ≤ 65535) := sm_okC ok4 sm_r3 (((60 : Int) * p1) + l3_1)
        have h := h k28
        refine sv_cald hM dX12_orderOf_32 (sm_a3 _) (by decide) o27.1 o27.2 rfl (x := (S 3 (((60 : Int) * p1) + l3_1))) rfl ?_
        refine sv_aload_n hM dX12_orderOf_33 rfl rfl ?_
        refine sv_getA hM dX12_orderOf_34 sm_fl_16 (sm_a0 _) sm_k5 rfl ?_
        refine sv_bipush (d := (60 : Int)) hM dX12_orderOf_37 rfl rfl ?_
        refine sv_iload_n hM dX12_orderOf_39 rfl rfl ?_
        refine sv_imul hM dX12_orderOf_40 rfl ?_
        refine sv_iload_n hM dX12_orderOf_41 rfl rfl ?_
        refine sv_iadd hM dX12_orderOf_42 rfl ?_
        obtain ⟨o29, h⟩ := h
        have k30 : (0 ≤ (S 3 (((60 : Int) * p2) + l3_1)) ∧ (S 3 (((60 : Int) * p2) + l3_1)) ≤ 65535) := sm_okC ok4 sm_r3 (((60 : Int) * p2) + l3_1)
        have h := h k30
        refine sv_cald hM dX12_orderOf_43 (sm_a3 _) (by decide) o29.1 o29.2 rfl (x := (S 3 (((60 : Int) * p2) + l3_1))) rfl ?_
        refine sv_icmp_ne hM dX12_orderOf_44 (sv_RC k28) (sv_RC k30) (t := 53) rfl rfl (fun hc => ?_) (fun hc => ?_)
        · have h := h.1 (hc)
          refine sv_iload_n hM dX12_orderOf_53 rfl rfl ?_
          refine sv_aload_n hM dX12_orderOf_54 rfl rfl ?_
          refine sv_getA hM dX12_orderOf_55 sm_fl_20 (sm_a0 _) sm_k6 rfl ?_
          refine sv_iload_n hM dX12_orderOf_58 rfl rfl ?_
          refine sv_iald hM dX12_orderOf_59 (sm_a4 _) (by decide) o5.1 o5.2 rfl (x := (S 4 p1)) rfl ?_
          refine sv_icmp_eq hM dX12_orderOf_60 hl3_1 k6 (t := 73) rfl rfl (fun hc => ?_) (fun hc => ?_)
          · have h := h.1 (hc)
            refine sv_aload_n hM dX12_orderOf_73 rfl rfl ?_
            refine sv_getA hM dX12_orderOf_74 sm_fl_20 (sm_a0 _) sm_k6 rfl ?_
            refine sv_iload_n hM dX12_orderOf_77 rfl rfl ?_
            refine sv_iald hM dX12_orderOf_78 (sm_a4 _) (by decide) o5.1 o5.2 rfl (x := (S 4 p1)) rfl ?_
            refine sv_aload_n hM dX12_orderOf_79 rfl rfl ?_
            refine sv_getA hM dX12_orderOf_80 sm_fl_20 (sm_a0 _) sm_k6 rfl ?_
            refine sv_iload_n hM dX12_orderOf_83 rfl rfl ?_
            refine sv_iald hM dX12_orderOf_84 (sm_a4 _) (by decide) o18.1 o18.2 rfl (x := (S 4 p2)) rfl ?_
            refine sv_isub hM dX12_orderOf_85 rfl ?_
            obtain ⟨o31, h⟩ := h
            exact sv_iret hM dX12_orderOf_86 rfl rfl ⟨((S 4 p1) - (S 4 p2)), rfl, o31, ok4, sv_mod.rf, h⟩
          · have h := h.2 (hc)
            refine sv_iload_n hM dX12_orderOf_63 rfl rfl ?_
            refine sv_aload_n hM dX12_orderOf_64 rfl rfl ?_
            refine sv_getA hM dX12_orderOf_65 sm_fl_20 (sm_a0 _) sm_k6 rfl ?_
            refine sv_iload_n hM dX12_orderOf_68 rfl rfl ?_
            refine sv_iald hM dX12_orderOf_69 (sm_a4 _) (by decide) o18.1 o18.2 rfl (x := (S 4 p2)) rfl ?_
            refine sv_icmp_ne hM dX12_orderOf_70 hl3_1 k19 (t := 87) rfl rfl (fun hc => ?_) (fun hc => ?_)
            · have h := h.1 (hc)
              refine sv_aload_n hM dX12_orderOf_87 rfl rfl ?_
              refine sv_getA hM dX12_orderOf_88 sm_fl_16 (sm_a0 _) sm_k5 rfl ?_
              refine sv_bipush (d := (60 : Int)) hM dX12_orderOf_91 rfl rfl ?_
              refine sv_iload_n hM dX12_orderOf_93 rfl rfl ?_
              refine sv_imul hM dX12_orderOf_94 rfl ?_
              refine sv_iload_n hM dX12_orderOf_95 rfl rfl ?_
              refine sv_iadd hM dX12_orderOf_96 rfl ?_
              refine sv_cald hM dX12_orderOf_97 (sm_a3 _) (by decide) o27.1 o27.2 rfl (x := (S 3 (((60 : Int) * p1) + l3_1))) rfl ?_
              refine sv_aload_n hM dX12_orderOf_98 rfl rfl ?_
              refine sv_getA hM dX12_orderOf_99 sm_fl_16 (sm_a0 _) sm_k5 rfl ?_
              refine sv_bipush (d := (60 : Int)) hM dX12_orderOf_102 rfl rfl ?_
              refine sv_iload_n hM dX12_orderOf_104 rfl rfl ?_
              refine sv_imul hM dX12_orderOf_105 rfl ?_
              refine sv_iload_n hM dX12_orderOf_106 rfl rfl ?_
              refine sv_iadd hM dX12_orderOf_107 rfl ?_
              refine sv_cald hM dX12_orderOf_108 (sm_a3 _) (by decide) o29.1 o29.2 rfl (x := (S 3 (((60 : Int) * p2) + l3_1))) rfl ?_
              refine sv_isub hM dX12_orderOf_109 rfl ?_
              obtain ⟨o32, h⟩ := h
              exact sv_iret hM dX12_orderOf_110 rfl rfl ⟨((S 3 (((60 : Int) * p1) + l3_1)) - (S 3 (((60 : Int) * p2) + l3_1))), rfl, o32, ok4, sv_mod.rf, h⟩
            · have h := h.2 (hc)
              refine sv_aload_n hM dX12_orderOf_73 rfl rfl ?_
              refine sv_getA hM dX12_orderOf_74 sm_fl_20 (sm_a0 _) sm_k6 rfl ?_
              refine sv_iload_n hM dX12_orderOf_77 rfl rfl ?_
              refine sv_iald hM dX12_orderOf_78 (sm_a4 _) (by decide) o5.1 o5.2 rfl (x := (S 4 p1)) rfl ?_
              refine sv_aload_n hM dX12_orderOf_79 rfl rfl ?_
              refine sv_getA hM dX12_orderOf_80 sm_fl_20 (sm_a0 _) sm_k6 rfl ?_
              refine sv_iload_n hM dX12_orderOf_83 rfl rfl ?_
              refine sv_iald hM dX12_orderOf_84 (sm_a4 _) (by decide) o18.1 o18.2 rfl (x := (S 4 p2)) rfl ?_
              refine sv_isub hM dX12_orderOf_85 rfl ?_
              obtain ⟨o33, h⟩ := h
              exact sv_iret hM dX12_orderOf_86 rfl rfl ⟨((S 4 p1) - (S 4 p2)), rfl, o33, ok4, sv_mod.rf, h⟩
        · have h := h.2 (hc)
          refine sv_iinc (d := (1 : Int)) hM dX12_orderOf_47 rfl (by decide) rfl rfl ?_
          show sv_T sm_XS sm_cs sm_L sm_sh 0 (q_orderOf p1 p2 S) 132 50 [(0, .ref 0), (1, sv_I p1), (2, sv_I p2), (3, sv_I (l3_1 + (1 : Int)))] [] S
          refine sv_goto hM dX12_orderOf_50 (pc' := 2) rfl ?_
          obtain ⟨o34, h⟩ := h
          have hb := ih2 ((l3_1 + (1 : Int)), ()) ⟨o34, ok4, h.1⟩ h.2
          exact sv_less (lv := [(0, .ref 0), (1, sv_I p1), (2, sv_I p2), (3, sv_I (l3_1 + (1 : Int)))]) (sv_Sub_cons rfl (sv_Sub_cons rfl (sv_Sub_cons rfl (sv_Sub_cons rfl sv_Sub_nil)))) hb
  exact hJ ((0 : Int), ()) ⟨(⟨by decide, by decide⟩ : sv_R (0 : Int)), hok, hin3⟩
def q_compares (p1 : Int) (p2 : Int) (p3 : Int) (p4 : Int) (p5 : Int) (S : sv_S) : Option Value → sv_S → Prop := fun v S' => ∃ r : Int, v = some (sv_I r) ∧ sv_R r ∧ sm_ok S' ∧ sv_mod [1113] S S' ∧ (r = 0 ∨ r = 1)
theorem la_compares_0 {x0 : Int} : x0 = 0 → (0 : Int) = 0 ∨ (0 : Int) = 1 := by omega
theorem la_compares_1 {x0 : Int} (h0 : 0 ≤ x0) (h1 : ¬ x0 = 0) : 0 < x0 := by omega
theorem la_compares_2 {x0 x1 x2 : Int} (h0 : sv_R x0) (h1 : sv_R x1) : ¬ x2 = 16 → (¬ x2 = 17 → sv_RL (x0 - x1) ∧ (x0 - x1 < 0 → (0 : Int) = 0 ∨ (0 : Int) = 1) ∧ (¬ x0 - x1 < 0 → (1 : Int) = 0 ∨ (1 : Int) = 1)) ∧ (¬ ¬ x2 = 17 → sv_RL (x0 - x1) ∧ (0 < x0 - x1 → (0 : Int) = 0 ∨ (0 : Int) = 1) ∧ (¬ 0 < x0 - x1 → (1 : Int) = 0 ∨ (1 : Int) = 1)) := by omega
theorem la_compares_3 {x0 : Int} (h0 : ¬ ¬ x0 = 16) : 15 ≤ x0 := by omega
theorem la_compares_4 {x0 : Int} (h0 : 15 ≤ x0) (h1 : ¬ x0 = 15) : 15 < x0 := by omega
theorem la_compares_5 {x0 x1 : Int} (h0 : sv_R x0) (h1 : sv_R x1) : sv_RL (x0 - x1) := by omega
theorem la_compares_6 {x0 x1 : Int} : x0 - x1 ≤ 0 → (0 : Int) = 0 ∨ (0 : Int) = 1 := by omega
theorem la_compares_7 : (1 : Int) = 0 ∨ (1 : Int) = 1 := by omega
theorem la_compares_8 {x0 x1 : Int} : 0 ≤ x0 - x1 → (0 : Int) = 0 ∨ (0 : Int) = 1 := by omega
theorem la_compares_9 : (0 : Int) = 0 ∨ (0 : Int) = 1 := by omega
theorem la_compares_10 {x0 : Int} (h0 : ¬ ¬ x0 = 6) : x0 = 6 := by omega
theorem la_compares_11 {x0 x1 : Int} (h0 : 0 ≤ x0) (h1 : x0 < 400) (h2 : 0 ≤ x1) (h3 : x1 < 400) : 0 ≤ x0 ∧ x0 < 400 ∧ 0 ≤ x1 ∧ x1 < 400 := by omega
theorem la_compares_12 {x0 x1 : Int} : ¬ x0 = 16 → (¬ x0 = 17 → (x1 < 0 → (0 : Int) = 0 ∨ (0 : Int) = 1) ∧ (¬ x1 < 0 → (1 : Int) = 0 ∨ (1 : Int) = 1)) ∧ (¬ ¬ x0 = 17 → (0 < x1 → (0 : Int) = 0 ∨ (0 : Int) = 1) ∧ (¬ 0 < x1 → (1 : Int) = 0 ∨ (1 : Int) = 1)) := by omega
theorem la_compares_13 {x0 : Int} : x0 ≤ 0 → (0 : Int) = 0 ∨ (0 : Int) = 1 := by omega
theorem la_compares_14 {x0 : Int} : 0 ≤ x0 → (0 : Int) = 0 ∨ (0 : Int) = 1 := by omega
set_option maxHeartbeats 2000000 in
theorem f_compares : ∀ (p1 : Int) (p2 : Int) (p3 : Int) (p4 : Int) (p5 : Int) (S : sv_S), sm_ok S → sv_R p1 → sv_R p2 → sv_R p3 → sv_R p4 → sv_R p5 → (31 ≤ (S 1007 0) ∧ (S 1007 0) ≤ 400 ∧ sm_LN (S 4) 400 (S 1007 0) ∧ (p2 = 6 → 0 ≤ p3 ∧ p3 < 400) ∧ (p4 = 6 → 0 ≤ p5 ∧ p5 < 400)) → (((¬ p2 = (6 : Int)) → (31 ≤ (S 1007 0) ∧ (S 1007 0) ≤ 400 ∧ sm_LN (S 4) 400 (S 1007 0) ∧ (p2 = 6 → 0 ≤ p3 ∧ p3 < 400)) ∧ (∀ r6 : Int, sv_R r6 → ∀ g2 : sv_S, (True) → ((0 ≤ (g2 1113 0) ∧ (g2 1113 0) ≤ 1) → (31 ≤ (S 1007 0) ∧ (S 1007 0) ≤ 400 ∧ sm_LN (S 4) 400 (S 1007 0) ∧ (p4 = 6 → 0 ≤ p5 ∧ p5 < 400)) ∧ (∀ r14 : Int, sv_R r14 → ∀ g10 : sv_S, (True) → ((((g2 1113 0) = (0 : Int)) → ((0 : Int) = 0 ∨ (0 : Int) = 1)) ∧ ((¬ ((g2 1113 0) = (0 : Int))) → ((0 ≤ (g10 1113 0) ∧ (g10 1113 0) ≤ 1) → (((¬ (g10 1113 0) = (0 : Int)) → (((¬ p1 = (15 : Int)) → (((¬ p1 = (16 : Int)) → (((¬ p1 = (17 : Int)) → (sv_RL (r6 - r14)) ∧ ((((r6 - r14) < (0 : Int)) → ((0 : Int) = 0 ∨ (0 : Int) = 1)) ∧ ((¬ ((r6 - r14) < (0 : Int))) → ((1 : Int) = 0 ∨ (1 : Int) = 1)))) ∧ ((¬ (¬ p1 = (17 : Int))) → (sv_RL (r6 - r14)) ∧ ((((0 : Int) < (r6 - r14)) → ((0 : Int) = 0 ∨ (0 : Int) = 1)) ∧ ((¬ ((0 : Int) < (r6 - r14))) → ((1 : Int) = 0 ∨ (1 : Int) = 1)))))) ∧ ((¬ (¬ p1 = (16 : Int))) → (sv_RL (r6 - r14)) ∧ ((((r6 - r14) ≤ (0 : Int)) → ((0 : Int) = 0 ∨ (0 : Int) = 1)) ∧ ((¬ ((r6 - r14) ≤ (0 : Int))) → ((1 : Int) = 0 ∨ (1 : Int) = 1)))))) ∧ ((¬ (¬ p1 = (15 : Int))) → (sv_RL (r6 - r14)) ∧ ((((0 : Int) ≤ (r6 - r14)) → ((0 : Int) = 0 ∨ (0 : Int) = 1)) ∧ ((¬ ((0 : Int) ≤ (r6 - r14))) → ((1 : Int) = 0 ∨ (1 : Int) = 1)))))) ∧ ((¬ (¬ (g10 1113 0) = (0 : Int))) → ((0 : Int) = 0 ∨ (0 : Int) = 1)))))))))) ∧ ((¬ (¬ p2 = (6 : Int))) → (((¬ p4 = (6 : Int)) → (31 ≤ (S 1007 0) ∧ (S 1007 0) ≤ 400 ∧ sm_LN (S 4) 400 (S 1007 0) ∧ (p2 = 6 → 0 ≤ p3 ∧ p3 < 400)) ∧ (∀ r26 : Int, sv_R r26 → ∀ g22 : sv_S, (True) → ((0 ≤ (g22 1113 0) ∧ (g22 1113 0) ≤ 1) → (31 ≤ (S 1007 0) ∧ (S 1007 0) ≤ 400 ∧ sm_LN (S 4) 400 (S 1007 0) ∧ (p4 = 6 → 0 ≤ p5 ∧ p5 < 400)) ∧ (∀ r34 : Int, sv_R r34 → ∀ g30 : sv_S, (True) → ((((g22 1113 0) = (0 : Int)) → ((0 : Int) = 0 ∨ (0 : Int) = 1)) ∧ ((¬ ((g22 1113 0) = (0 : Int))) → ((0 ≤ (g30 1113 0) ∧ (g30 1113 0) ≤ 1) → (((¬ (g30 1113 0) = (0 : Int)) → (((¬ p1 = (15 : Int)) → (((¬ p1 = (16 : Int)) → (((¬ p1 = (17 : Int)) → (sv_RL (r26 - r34)) ∧ ((((r26 - r34) < (0 : Int)) → ((0 : Int) = 0 ∨ (0 : Int) = 1)) ∧ ((¬ ((r26 - r34) < (0 : Int))) → ((1 : Int) = 0 ∨ (1 : Int) = 1)))) ∧ ((¬ (¬ p1 = (17 : Int))) → (sv_RL (r26 - r34)) ∧ ((((0 : Int) < (r26 - r34)) → ((0 : Int) = 0 ∨ (0 : Int) = 1)) ∧ ((¬ ((0 : Int) < (r26 - r34))) → ((1 : Int) = 0 ∨ (1 : Int) = 1)))))) ∧ ((¬ (¬ p1 = (16 : Int))) → (sv_RL (r26 - r34)) ∧ ((((r26 - r34) ≤ (0 : Int)) → ((0 : Int) = 0 ∨ (0 : Int) = 1)) ∧ ((¬ ((r26 - r34) ≤ (0 : Int))) → ((1 : Int) = 0 ∨ (1 : Int) = 1)))))) ∧ ((¬ (¬ p1 = (15 : Int))) → (sv_RL (r26 - r34)) ∧ ((((0 : Int) ≤ (r26 - r34)) → ((0 : Int) = 0 ∨ (0 : Int) = 1)) ∧ ((¬ ((0 : Int) ≤ (r26 - r34))) → ((1 : Int) = 0 ∨ (1 : Int) = 1)))))) ∧ ((¬ (¬ (g30 1113 0) = (0 : Int))) → ((0 : Int) = 0 ∨ (0 : Int) = 1)))))))))) ∧ ((¬ (¬ p4 = (6 : Int))) → (31 ≤ (S 1007 0) ∧ (S 1007 0) ≤ 400 ∧ sm_LN (S 4) 400 (S 1007 0) ∧ 0 ≤ p3 ∧ p3 < 400 ∧ 0 ≤ p5 ∧ p5 < 400) ∧ (∀ r46 : Int, sv_R r46 → (-65535 ≤ r46 ∧ r46 ≤ 65535) → (((¬ p1 = (15 : Int)) → (((¬ p1 = (16 : Int)) → (((¬ p1 = (17 : Int)) → (((r46 < (0 : Int)) → ((0 : Int) = 0 ∨ (0 : Int) = 1)) ∧ ((¬ (r46 < (0 : Int))) → ((1 : Int) = 0 ∨ (1 : Int) = 1)))) ∧ ((¬ (¬ p1 = (17 : Int))) → ((((0 : Int) < r46) → ((0 : Int) = 0 ∨ (0 : Int) = 1)) ∧ ((¬ ((0 : Int) < r46)) → ((1 : Int) = 0 ∨ (1 : Int) = 1)))))) ∧ ((¬ (¬ p1 = (16 : Int))) → (((r46 ≤ (0 : Int)) → ((0 : Int) = 0 ∨ (0 : Int) = 1)) ∧ ((¬ (r46 ≤ (0 : Int))) → ((1 : Int) = 0 ∨ (1 : Int) = 1)))))) ∧ ((¬ (¬ p1 = (15 : Int))) → ((((0 : Int) ≤ r46) → ((0 : Int) = 0 ∨ (0 : Int) = 1)) ∧ ((¬ ((0 : Int) ≤ r46)) → ((1 : Int) = 0 ∨ (1 : Int) = 1)))))))))) := by
  intro p1
  intro p2
  intro p3
  intro p4
  intro p5
  intro S
  intro h1_
  intro h2_
  intro h3_
  intro h4_
  intro h5_
  intro h6_
  rintro ⟨h7_, ⟨h8_, ⟨h9_, ⟨h10_, h11_⟩⟩⟩⟩
  refine ⟨?_, ?_⟩
  · skip
    intro h12_
    refine ⟨⟨h7_, ⟨h8_, ⟨h9_, h10_⟩⟩⟩, ?_⟩
    intro r6
    intro h13_
    intro g2
    intro _
    rintro ⟨h14_, h15_⟩
    refine ⟨⟨h7_, ⟨h8_, ⟨h9_, h11_⟩⟩⟩, ?_⟩
    intro r14
    intro h16_
    intro g10
    intro _
    refine ⟨la_compares_0, ?_⟩
    intro h17_
    rintro ⟨h18_, h19_⟩
    refine ⟨?_, ?_⟩
    · skip
      intro h20_
      refine ⟨?_, ?_⟩
      · skip
        intro h21_
        refine ⟨(la_compares_2 h13_ h16_), ?_⟩
        intro h22_
        refine ⟨(la_compares_5 h13_ h16_), ?_⟩
        refine ⟨la_compares_6, ?_⟩
        intro h23_
        exact la_compares_7
      intro h24_
      refine ⟨(la_compares_5 h13_ h16_), ?_⟩
      refine ⟨la_compares_8, ?_⟩
      intro h25_
      exact la_compares_7
    intro h26_
    exact la_compares_9
  intro h27_
  obtain ⟨h28_, h29_⟩ := (h10_ (la_compares_10 h27_))
  refine ⟨?_, ?_⟩
  · skip
    intro h30_
    refine ⟨⟨h7_, ⟨h8_, ⟨h9_, h10_⟩⟩⟩, ?_⟩
    intro r26
    intro h31_
    intro g22
    intro _
    rintro ⟨h32_, h33_⟩
    refine ⟨⟨h7_, ⟨h8_, ⟨h9_, h11_⟩⟩⟩, ?_⟩
    intro r34
    intro h34_
    intro g30
    intro _
    refine ⟨la_compares_0, ?_⟩
    intro h35_
    rintro ⟨h36_, h37_⟩
    refine ⟨?_, ?_⟩
    · skip
      intro h38_
      refine ⟨?_, ?_⟩
      · skip
        intro h39_
        refine ⟨(la_compares_2 h31_ h34_), ?_⟩
        intro h40_
        refine ⟨(la_compares_5 h31_ h34_), ?_⟩
        refine ⟨la_compares_6, ?_⟩
        intro h41_
        exact la_compares_7
      intro h42_
      refine ⟨(la_compares_5 h31_ h34_), ?_⟩
      refine ⟨la_compares_8, ?_⟩
      intro h43_
      exact la_compares_7
    intro h44_
    exact la_compares_9
  intro h45_
  obtain ⟨h46_, h47_⟩ := (h11_ (la_compares_10 h45_))
  refine ⟨⟨h7_, ⟨h8_, ⟨h9_, (la_compares_11 h28_ h29_ h46_ h47_)⟩⟩⟩, ?_⟩
  intro r46
  intro h48_
  rintro ⟨h49_, h50_⟩
  refine ⟨?_, ?_⟩
  · skip
    intro h51_
    refine ⟨la_compares_12, ?_⟩
    intro h52_
    refine ⟨la_compares_13, ?_⟩
    intro h53_
    exact la_compares_7
  intro h54_
  refine ⟨la_compares_14, ?_⟩
  intro h55_
  exact la_compares_7
set_option maxRecDepth 8000 in
set_option maxHeartbeats 2000000 in
theorem t_compares : ∀ (p1 : Int) (p2 : Int) (p3 : Int) (p4 : Int) (p5 : Int) (S : sv_S), sm_ok S → sv_R p1 → sv_R p2 → sv_R p3 → sv_R p4 → sv_R p5 → (31 ≤ (S 1007 0) ∧ (S 1007 0) ≤ 400 ∧ sm_LN (S 4) 400 (S 1007 0) ∧ (p2 = 6 → 0 ≤ p3 ∧ p3 < 400) ∧ (p4 = 6 → 0 ≤ p5 ∧ p5 < 400)) → sv_T sm_XS sm_cs sm_L sm_sh 3 (q_compares p1 p2 p3 p4 p5 S) 133 0 (lv_args 0 [.ref 0, sv_I p1, sv_I p2, sv_I p3, sv_I p4, sv_I p5]) [] S := by
  intro p1 p2 p3 p4 p5 S hok hp1 hp2 hp3 hp4 hp5 hpre
  have h := f_compares p1 p2 p3 p4 p5 S hok hp1 hp2 hp3 hp4 hp5 hpre
  have hM := sm_h133
  show sv_T sm_XS sm_cs sm_L sm_sh 3 (q_compares p1 p2 p3 p4 p5 S) 133 0 [(0, .ref 0), (1, sv_I p1), (2, sv_I p2), (3, sv_I p3), (4, sv_I p4), (5, sv_I p5)] [] S
  refine sv_lconst (d := (0 : Int)) hM dX12_compares_0 rfl rfl ?_
  refine sv_lstore hM dX12_compares_1 (by decide) rfl ?_
  show sv_T sm_XS sm_cs sm_L sm_sh 3 (q_compares p1 p2 p3 p4 p5 S) 133 3 [(0, .ref 0), (1, sv_I p1), (2, sv_I p2), (3, sv_I p3), (4, sv_I p4), (5, sv_I p5), (6, sv_L (0 : Int))] [] S
  refine sv_iload_n hM dX12_compares_3 rfl rfl ?_
  refine sv_bipush (d := (6 : Int)) hM dX12_compares_4 rfl rfl ?_
  refine sv_icmp_ne hM dX12_compares_6 hp2 (⟨by decide, by decide⟩ : sv_R (6 : Int)) (t := 29) rfl rfl (fun hc => ?_) (fun hc => ?_)
  · have h := h.1 (hc)
    refine sv_aload_n hM dX12_compares_29 rfl rfl ?_
    refine sv_iload_n hM dX12_compares_30 rfl rfl ?_
    refine sv_iload_n hM dX12_compares_31 rfl rfl ?_
    obtain ⟨o1, h⟩ := h
    refine sv_callV hM dX12_compares_32 sm_iv_816 (by decide) (sm_a0 _) rfl rfl (Nat.le_of_ble_eq_true rfl) sm_h127 (Nat.le_of_ble_eq_true rfl) (Nat.le_of_ble_eq_true rfl) (F' := 2) (Nat.le_of_ble_eq_true rfl) rfl (t_numberOf p2 p3 S hok hp2 hp3 o1) (fun v S1 hq => ?_)
    obtain ⟨r6, rfl, hr6, ok3, md4, hpo5⟩ := hq
    obtain ⟨g2, rfl⟩ : ∃ g, S1 = sv_sts S [1113] g := ⟨_, md4.eq⟩
    show sv_T sm_XS sm_cs sm_L sm_sh 3 (q_compares p1 p2 p3 p4 p5 S) 133 35 [(0, .ref 0), (1, sv_I p1), (2, sv_I p2), (3, sv_I p3), (4, sv_I p4), (5, sv_I p5), (6, sv_L (0 : Int))] [sv_I r6] (sv_sts S [1113] g2)
    have md7 : sv_mod [1113] S (sv_sts S [1113] g2) := sv_mod.sts sv_mod.rf (by decide)
    have h := h r6 hr6 g2 hpo5
    refine sv_i2l hM dX12_compares_35 hr6 rfl ?_
    refine sv_lstore hM dX12_compares_36 (by decide) rfl ?_
    show sv_T sm_XS sm_cs sm_L sm_sh 3 (q_compares p1 p2 p3 p4 p5 S) 133 38 [(0, .ref 0), (1, sv_I p1), (2, sv_I p2), (3, sv_I p3), (4, sv_I p4), (5, sv_I p5), (6, sv_L (0 : Int)), (8, sv_L r6)] [] (sv_sts S [1113] g2)
    refine sv_aload_n hM dX12_compares_38 rfl rfl ?_
    have k8 : (0 ≤ (g2 1113 0) ∧ (g2 1113 0) ≤ 1) := sm_okZ ok3 sm_r1113 0
    have h := h k8
    refine sv_getI hM dX12_compares_39 sm_fl_806 (sm_a0 _) sm_k113 rfl (x := (g2 1113 0)) rfl ?_
    refine sv_istore hM dX12_compares_42 (by decide) rfl ?_
    show sv_T sm_XS sm_cs sm_L sm_sh 3 (q_compares p1 p2 p3 p4 p5 S) 133 44 [(0, .ref 0), (1, sv_I p1), (2, sv_I p2), (3, sv_I p3), (4, sv_I p4), (5, sv_I p5), (6, sv_L (0 : Int)), (8, sv_L r6), (10, sv_I (g2 1113 0))] [] (sv_sts S [1113] g2)
    refine sv_lload hM dX12_compares_44 rfl rfl ?_
    refine sv_aload_n hM dX12_compares_46 rfl rfl ?_
    refine sv_iload hM dX12_compares_47 rfl rfl ?_
    refine sv_iload hM dX12_compares_49 rfl rfl ?_
    obtain ⟨o9, h⟩ := h
    refine sv_callV hM dX12_compares_51 sm_iv_816 (by decide) (sm_a0 _) rfl rfl (Nat.le_of_ble_eq_true rfl) sm_h127 (Nat.le_of_ble_eq_true rfl) (Nat.le_of_ble_eq_true rfl) (F' := 2) (Nat.le_of_ble_eq_true rfl) rfl (t_numberOf p4 p5 (sv_sts S [1113] g2) ok3 hp4 hp5 o9) (fun v S1 hq => ?_)
    obtain ⟨r14, rfl, hr14, ok11, md12, hpo13⟩ := hq
    obtain ⟨g10, rfl⟩ : ∃ g, S1 = sv_sts (sv_sts S [1113] g2) [1113] g := ⟨_, md12.eq⟩
    show sv_T sm_XS sm_cs sm_L sm_sh 3 (q_compares p1 p2 p3 p4 p5 S) 133 54 [(0, .ref 0), (1, sv_I p1), (2, sv_I p2), (3, sv_I p3), (4, sv_I p4), (5, sv_I p5), (6, sv_L (0 : Int)), (8, sv_L r6), (10, sv_I (g2 1113 0))] [sv_I r14, sv_L r6] (sv_sts (sv_sts S [1113] g2) [1113] g10)
    have md15 : sv_mod [1113] S (sv_sts (sv_sts S [1113] g2) [1113] g10) := sv_mod.sts md7 (by decide)
    have h := h r14 hr14 g10 hpo13
    refine sv_i2l hM dX12_compares_54 hr14 rfl ?_
    refine sv_lsub hM dX12_compares_55 rfl ?_
    refine sv_lstore hM dX12_compares_56 (by decide) rfl ?_
    show sv_T sm_XS sm_cs sm_L sm_sh 3 (q_compares p1 p2 p3 p4 p5 S) 133 58 [(0, .ref 0), (1, sv_I p1), (2, sv_I p2), (3, sv_I p3), (4, sv_I p4), (5, sv_I p5), (6, sv_L (r6 - r14)), (8, sv_L r6), (10, sv_I (g2 1113 0))] [] (sv_sts (sv_sts S [1113] g2) [1113] g10)
    refine sv_iload hM dX12_compares_58 rfl rfl ?_
    refine sv_cond_eq hM dX12_compares_60 (sv_R01 k8) (t := 70) rfl rfl (fun hc => ?_) (fun hc => ?_)
    · have h := h.1 (hc)
      refine sv_iconst (d := (0 : Int)) hM dX12_compares_70 rfl rfl ?_
      exact sv_iret hM dX12_compares_71 rfl (sv_nz (⟨by decide, by decide⟩ : 0 ≤ (0 : Int) ∧ (0 : Int) ≤ 1)) ⟨(0 : Int), rfl, sv_R01 (⟨by decide, by decide⟩ : 0 ≤ (0 : Int) ∧ (0 : Int) ≤ 1), ok11, md15, h⟩
    · have h := h.2 (hc)
      refine sv_aload_n hM dX12_compares_63 rfl rfl ?_
      have k16 : (0 ≤ (g10 1113 0) ∧ (g10 1113 0) ≤ 1) := sm_okZ ok11 sm_r1113 0
      have h := h k16
      refine sv_getI hM dX12_compares_64 sm_fl_806 (sm_a0 _) sm_k113 rfl (x := (g10 1113 0)) rfl ?_
      refine sv_cond_ne hM dX12_compares_67 (sv_R01 k16) (t := 72) rfl rfl (fun hc => ?_) (fun hc => ?_)
      · have h := h.1 (hc)
        refine sv_iload_n hM dX12_compares_72 rfl rfl ?_
        refine sv_bipush (d := (15 : Int)) hM dX12_compares_73 rfl rfl ?_
        refine sv_icmp_ne hM dX12_compares_75 hp1 (⟨by decide, by decide⟩ : sv_R (15 : Int)) (t := 93) rfl rfl (fun hc => ?_) (fun hc => ?_)
        · have h := h.1 (hc)
          refine sv_iload_n hM dX12_compares_93 rfl rfl ?_
          refine sv_bipush (d := (16 : Int)) hM dX12_compares_94 rfl rfl ?_
          refine sv_icmp_ne hM dX12_compares_96 hp1 (⟨by decide, by decide⟩ : sv_R (16 : Int)) (t := 114) rfl rfl (fun hc => ?_) (fun hc => ?_)
          · have h := h.1 (hc)
            refine sv_iload_n hM dX12_compares_114 rfl rfl ?_
            refine sv_bipush (d := (17 : Int)) hM dX12_compares_115 rfl rfl ?_
            refine sv_icmp_ne hM dX12_compares_117 hp1 (⟨by decide, by decide⟩ : sv_R (17 : Int)) (t := 135) rfl rfl (fun hc => ?_) (fun hc => ?_)
            · have h := h.1 (hc)
              refine sv_lload hM dX12_compares_135 rfl rfl ?_
              refine sv_lconst (d := (0 : Int)) hM dX12_compares_137 rfl rfl ?_
              obtain ⟨o17, h⟩ := h
              refine sv_lcmp hM dX12_compares_138 o17 (⟨by decide, by decide⟩ : sv_RL (0 : Int)) rfl ?_
              refine sv_cond_lt hM dX12_compares_139 sv_Rcmp (t := 146) rfl rfl (fun hc => ?_) (fun hc => ?_)
              · have h := h.1 ((sv_cmp_lt).mp hc)
                refine sv_iconst (d := (0 : Int)) hM dX12_compares_146 rfl rfl ?_
                exact sv_iret hM dX12_compares_147 rfl (sv_nz (⟨by decide, by decide⟩ : 0 ≤ (0 : Int) ∧ (0 : Int) ≤ 1)) ⟨(0 : Int), rfl, sv_R01 (⟨by decide, by decide⟩ : 0 ≤ (0 : Int) ∧ (0 : Int) ≤ 1), ok11, md15, h⟩
              · have h := h.2 (fun q => hc ((sv_cmp_lt).mpr q))
                refine sv_iconst (d := (1 : Int)) hM dX12_compares_142 rfl rfl ?_
                refine sv_goto hM dX12_compares_143 (pc' := 147) rfl ?_
                exact sv_iret hM dX12_compares_147 rfl (sv_nz (⟨by decide, by decide⟩ : 0 ≤ (1 : Int) ∧ (1 : Int) ≤ 1)) ⟨(1 : Int), rfl, sv_R01 (⟨by decide, by decide⟩ : 0 ≤ (1 : Int) ∧ (1 : Int) ≤ 1), ok11, md15, h⟩
            · have h := h.2 (hc)
              refine sv_lload hM dX12_compares_120 rfl rfl ?_
              refine sv_lconst (d := (0 : Int)) hM dX12_compares_122 rfl rfl ?_
              obtain ⟨o18, h⟩ := h
              refine sv_lcmp hM dX12_compares_123 o18 (⟨by decide, by decide⟩ : sv_RL (0 : Int)) rfl ?_
              refine sv_cond_gt hM dX12_compares_124 sv_Rcmp (t := 131) rfl rfl (fun hc => ?_) (fun hc => ?_)
              · have h := h.1 ((sv_cmp_gt).mp hc)
                refine sv_iconst (d := (0 : Int)) hM dX12_compares_131 rfl rfl ?_
                refine sv_goto hM dX12_compares_132 (pc' := 147) rfl ?_
                exact sv_iret hM dX12_compares_147 rfl (sv_nz (⟨by decide, by decide⟩ : 0 ≤ (0 : Int) ∧ (0 : Int) ≤ 1)) ⟨(0 : Int), rfl, sv_R01 (⟨by decide, by decide⟩ : 0 ≤ (0 : Int) ∧ (0 : Int) ≤ 1), ok11, md15, h⟩
              · have h := h.2 (fun q => hc ((sv_cmp_gt).mpr q))
                refine sv_iconst (d := (1 : Int)) hM dX12_compares_127 rfl rfl ?_
                refine sv_goto hM dX12_compares_128 (pc' := 147) rfl ?_
                exact sv_iret hM dX12_compares_147 rfl (sv_nz (⟨by decide, by decide⟩ : 0 ≤ (1 : Int) ∧ (1 : Int) ≤ 1)) ⟨(1 : Int), rfl, sv_R01 (⟨by decide, by decide⟩ : 0 ≤ (1 : Int) ∧ (1 : Int) ≤ 1), ok11, md15, h⟩
          · have h := h.2 (hc)
            refine sv_lload hM dX12_compares_99 rfl rfl ?_
            refine sv_lconst (d := (0 : Int)) hM dX12_compares_101 rfl rfl ?_
            obtain ⟨o19, h⟩ := h
            refine sv_lcmp hM dX12_compares_102 o19 (⟨by decide, by decide⟩ : sv_RL (0 : Int)) rfl ?_
            refine sv_cond_le hM dX12_compares_103 sv_Rcmp (t := 110) rfl rfl (fun hc => ?_) (fun hc => ?_)
            · have h := h.1 ((sv_cmp_le).mp hc)
              refine sv_iconst (d := (0 : Int)) hM dX12_compares_110 rfl rfl ?_
              refine sv_goto hM dX12_compares_111 (pc' := 147) rfl ?_
              exact sv_iret hM dX12_compares_147 rfl (sv_nz (⟨by decide, by decide⟩ : 0 ≤ (0 : Int) ∧ (0 : Int) ≤ 1)) ⟨(0 : Int), rfl, sv_R01 (⟨by decide, by decide⟩ : 0 ≤ (0 : Int) ∧ (0 : Int) ≤ 1), ok11, md15, h⟩
            · have h := h.2 (fun q => hc ((sv_cmp_le).mpr q))
              refine sv_iconst (d := (1 : Int)) hM dX12_compares_106 rfl rfl ?_
              refine sv_goto hM dX12_compares_107 (pc' := 147) rfl ?_
              exact sv_iret hM dX12_compares_147 rfl (sv_nz (⟨by decide, by decide⟩ : 0 ≤ (1 : Int) ∧ (1 : Int) ≤ 1)) ⟨(1 : Int), rfl, sv_R01 (⟨by decide, by decide⟩ : 0 ≤ (1 : Int) ∧ (1 : Int) ≤ 1), ok11, md15, h⟩
        · have h := h.2 (hc)
          refine sv_lload hM dX12_compares_78 rfl rfl ?_
          refine sv_lconst (d := (0 : Int)) hM dX12_compares_80 rfl rfl ?_
          obtain ⟨o20, h⟩ := h
          refine sv_lcmp hM dX12_compares_81 o20 (⟨by decide, by decide⟩ : sv_RL (0 : Int)) rfl ?_
          refine sv_cond_ge hM dX12_compares_82 sv_Rcmp (t := 89) rfl rfl (fun hc => ?_) (fun hc => ?_)
          · have h := h.1 ((sv_cmp_ge).mp hc)
            refine sv_iconst (d := (0 : Int)) hM dX12_compares_89 rfl rfl ?_
            refine sv_goto hM dX12_compares_90 (pc' := 147) rfl ?_
            exact sv_iret hM dX12_compares_147 rfl (sv_nz (⟨by decide, by decide⟩ : 0 ≤ (0 : Int) ∧ (0 : Int) ≤ 1)) ⟨(0 : Int), rfl, sv_R01 (⟨by decide, by decide⟩ : 0 ≤ (0 : Int) ∧ (0 : Int) ≤ 1), ok11, md15, h⟩
          · have h := h.2 (fun q => hc ((sv_cmp_ge).mpr q))
            refine sv_iconst (d := (1 : Int)) hM dX12_compares_85 rfl rfl ?_
            refine sv_goto hM dX12_compares_86 (pc' := 147) rfl ?_
            exact sv_iret hM dX12_compares_147 rfl (sv_nz (⟨by decide, by decide⟩ : 0 ≤ (1 : Int) ∧ (1 : Int) ≤ 1)) ⟨(1 : Int), rfl, sv_R01 (⟨by decide, by decide⟩ : 0 ≤ (1 : Int) ∧ (1 : Int) ≤ 1), ok11, md15, h⟩
      · have h := h.2 (hc)
        refine sv_iconst (d := (0 : Int)) hM dX12_compares_70 rfl rfl ?_
        exact sv_iret hM dX12_compares_71 rfl (sv_nz (⟨by decide, by decide⟩ : 0 ≤ (0 : Int) ∧ (0 : Int) ≤ 1)) ⟨(0 : Int), rfl, sv_R01 (⟨by decide, by decide⟩ : 0 ≤ (0 : Int) ∧ (0 : Int) ≤ 1), ok11, md15, h⟩
  · have h := h.2 (hc)
    refine sv_iload hM dX12_compares_9 rfl rfl ?_
    refine sv_bipush (d := (6 : Int)) hM dX12_compares_11 rfl rfl ?_
    refine sv_icmp_ne hM dX12_compares_13 hp4 (⟨by decide, by decide⟩ : sv_R (6 : Int)) (t := 29) rfl rfl (fun hc => ?_) (fun hc => ?_)
    · have h := h.1 (hc)
      refine sv_aload_n hM dX12_compares_29 rfl rfl ?_
      refine sv_iload_n hM dX12_compares_30 rfl rfl ?_
      refine sv_iload_n hM dX12_compares_31 rfl rfl ?_
      obtain ⟨o21, h⟩ := h
      refine sv_callV hM dX12_compares_32 sm_iv_816 (by decide) (sm_a0 _) rfl rfl (Nat.le_of_ble_eq_true rfl) sm_h127 (Nat.le_of_ble_eq_true rfl) (Nat.le_of_ble_eq_true rfl) (F' := 2) (Nat.le_of_ble_eq_true rfl) rfl (t_numberOf p2 p3 S hok hp2 hp3 o21) (fun v S1 hq => ?_)
      obtain ⟨r26, rfl, hr26, ok23, md24, hpo25⟩ := hq
      obtain ⟨g22, rfl⟩ : ∃ g, S1 = sv_sts S [1113] g := ⟨_, md24.eq⟩
      show sv_T sm_XS sm_cs sm_L sm_sh 3 (q_compares p1 p2 p3 p4 p5 S) 133 35 [(0, .ref 0), (1, sv_I p1), (2, sv_I p2), (3, sv_I p3), (4, sv_I p4), (5, sv_I p5), (6, sv_L (0 : Int))] [sv_I r26] (sv_sts S [1113] g22)
      have md27 : sv_mod [1113] S (sv_sts S [1113] g22) := sv_mod.sts sv_mod.rf (by decide)
      have h := h r26 hr26 g22 hpo25
      refine sv_i2l hM dX12_compares_35 hr26 rfl ?_
      refine sv_lstore hM dX12_compares_36 (by decide) rfl ?_
      show sv_T sm_XS sm_cs sm_L sm_sh 3 (q_compares p1 p2 p3 p4 p5 S) 133 38 [(0, .ref 0), (1, sv_I p1), (2, sv_I p2), (3, sv_I p3), (4, sv_I p4), (5, sv_I p5), (6, sv_L (0 : Int)), (8, sv_L r26)] [] (sv_sts S [1113] g22)
      refine sv_aload_n hM dX12_compares_38 rfl rfl ?_
      have k28 : (0 ≤ (g22 1113 0) ∧ (g22 1113 0) ≤ 1) := sm_okZ ok23 sm_r1113 0
      have h := h k28
      refine sv_getI hM dX12_compares_39 sm_fl_806 (sm_a0 _) sm_k113 rfl (x := (g22 1113 0)) rfl ?_
      refine sv_istore hM dX12_compares_42 (by decide) rfl ?_
      show sv_T sm_XS sm_cs sm_L sm_sh 3 (q_compares p1 p2 p3 p4 p5 S) 133 44 [(0, .ref 0), (1, sv_I p1), (2, sv_I p2), (3, sv_I p3), (4, sv_I p4), (5, sv_I p5), (6, sv_L (0 : Int)), (8, sv_L r26), (10, sv_I (g22 1113 0))] [] (sv_sts S [1113] g22)
      refine sv_lload hM dX12_compares_44 rfl rfl ?_
      refine sv_aload_n hM dX12_compares_46 rfl rfl ?_
      refine sv_iload hM dX12_compares_47 rfl rfl ?_
      refine sv_iload hM dX12_compares_49 rfl rfl ?_
      obtain ⟨o29, h⟩ := h
      refine sv_callV hM dX12_compares_51 sm_iv_816 (by decide) (sm_a0 _) rfl rfl (Nat.le_of_ble_eq_true rfl) sm_h127 (Nat.le_of_ble_eq_true rfl) (Nat.le_of_ble_eq_true rfl) (F' := 2) (Nat.le_of_ble_eq_true rfl) rfl (t_numberOf p4 p5 (sv_sts S [1113] g22) ok23 hp4 hp5 o29) (fun v S1 hq => ?_)
      obtain ⟨r34, rfl, hr34, ok31, md32, hpo33⟩ := hq
      obtain ⟨g30, rfl⟩ : ∃ g, S1 = sv_sts (sv_sts S [1113] g22) [1113] g := ⟨_, md32.eq⟩
      show sv_T sm_XS sm_cs sm_L sm_sh 3 (q_compares p1 p2 p3 p4 p5 S) 133 54 [(0, .ref 0), (1, sv_I p1), (2, sv_I p2), (3, sv_I p3), (4, sv_I p4), (5, sv_I p5), (6, sv_L (0 : Int)), (8, sv_L r26), (10, sv_I (g22 1113 0))] [sv_I r34, sv_L r26] (sv_sts (sv_sts S [1113] g22) [1113] g30)
      have md35 : sv_mod [1113] S (sv_sts (sv_sts S [1113] g22) [1113] g30) := sv_mod.sts md27 (by decide)
      have h := h r34 hr34 g30 hpo33
      refine sv_i2l hM dX12_compares_54 hr34 rfl ?_
      refine sv_lsub hM dX12_compares_55 rfl ?_
      refine sv_lstore hM dX12_compares_56 (by decide) rfl ?_
      show sv_T sm_XS sm_cs sm_L sm_sh 3 (q_compares p1 p2 p3 p4 p5 S) 133 58 [(0, .ref 0), (1, sv_I p1), (2, sv_I p2), (3, sv_I p3), (4, sv_I p4), (5, sv_I p5), (6, sv_L (r26 - r34)), (8, sv_L r26), (10, sv_I (g22 1113 0))] [] (sv_sts (sv_sts S [1113] g22) [1113] g30)
      refine sv_iload hM dX12_compares_58 rfl rfl ?_
      refine sv_cond_eq hM dX12_compares_60 (sv_R01 k28) (t := 70) rfl rfl (fun hc => ?_) (fun hc => ?_)
      · have h := h.1 (hc)
        refine sv_iconst (d := (0 : Int)) hM dX12_compares_70 rfl rfl ?_
        exact sv_iret hM dX12_compares_71 rfl (sv_nz (⟨by decide, by decide⟩ : 0 ≤ (0 : Int) ∧ (0 : Int) ≤ 1)) ⟨(0 : Int), rfl, sv_R01 (⟨by decide, by decide⟩ : 0 ≤ (0 : Int) ∧ (0 : Int) ≤ 1), ok31, md35, h⟩
      · have h := h.2 (hc)
        refine sv_aload_n hM dX12_compares_63 rfl rfl ?_
        have k36 : (0 ≤ (g30 1113 0) ∧ (g30 1113 0) ≤ 1) := sm_okZ ok31 sm_r1113 0
        have h := h k36
        refine sv_getI hM dX12_compares_64 sm_fl_806 (sm_a0 _) sm_k113 rfl (x := (g30 1113 0)) rfl ?_
        refine sv_cond_ne hM dX12_compares_67 (sv_R01 k36) (t := 72) rfl rfl (fun hc => ?_) (fun hc => ?_)
        · have h := h.1 (hc)
          refine sv_iload_n hM dX12_compares_72 rfl rfl ?_
          refine sv_bipush (d := (15 : Int)) hM dX12_compares_73 rfl rfl ?_
          refine sv_icmp_ne hM dX12_compares_75 hp1 (⟨by decide, by decide⟩ : sv_R (15 : Int)) (t := 93) rfl rfl (fun hc => ?_) (fun hc => ?_)
          · have h := h.1 (hc)
            refine sv_iload_n hM dX12_compares_93 rfl rfl ?_
            refine sv_bipush (d := (16 : Int)) hM dX12_compares_94 rfl rfl ?_
            refine sv_icmp_ne hM dX12_compares_96 hp1 (⟨by decide, by decide⟩ : sv_R (16 : Int)) (t := 114) rfl rfl (fun hc => ?_) (fun hc => ?_)
            · have h := h.1 (hc)
              refine sv_iload_n hM dX12_compares_114 rfl rfl ?_
              refine sv_bipush (d := (17 : Int)) hM dX12_compares_115 rfl rfl ?_
              refine sv_icmp_ne hM dX12_compares_117 hp1 (⟨by decide, by decide⟩ : sv_R (17 : Int)) (t := 135) rfl rfl (fun hc => ?_) (fun hc => ?_)
              · have h := h.1 (hc)
                refine sv_lload hM dX12_compares_135 rfl rfl ?_
                refine sv_lconst (d := (0 : Int)) hM dX12_compares_137 rfl rfl ?_
                obtain ⟨o37, h⟩ := h
                refine sv_lcmp hM dX12_compares_138 o37 (⟨by decide, by decide⟩ : sv_RL (0 : Int)) rfl ?_
                refine sv_cond_lt hM dX12_compares_139 sv_Rcmp (t := 146) rfl rfl (fun hc => ?_) (fun hc => ?_)
                · have h := h.1 ((sv_cmp_lt).mp hc)
                  refine sv_iconst (d := (0 : Int)) hM dX12_compares_146 rfl rfl ?_
                  exact sv_iret hM dX12_compares_147 rfl (sv_nz (⟨by decide, by decide⟩ : 0 ≤ (0 : Int) ∧ (0 : Int) ≤ 1)) ⟨(0 : Int), rfl, sv_R01 (⟨by decide, by decide⟩ : 0 ≤ (0 : Int) ∧ (0 : Int) ≤ 1), ok31, md35, h⟩
                · have h := h.2 (fun q => hc ((sv_cmp_lt).mpr q))
                  refine sv_iconst (d := (1 : Int)) hM dX12_compares_142 rfl rfl ?_
                  refine sv_goto hM dX12_compares_143 (pc' := 147) rfl ?_
                  exact sv_iret hM dX12_compares_147 rfl (sv_nz (⟨by decide, by decide⟩ : 0 ≤ (1 : Int) ∧ (1 : Int) ≤ 1)) ⟨(1 : Int), rfl, sv_R01 (⟨by decide, by decide⟩ : 0 ≤ (1 : Int) ∧ (1 : Int) ≤ 1), ok31, md35, h⟩
              · have h := h.2 (hc)
                refine sv_lload hM dX12_compares_120 rfl rfl ?_
                refine sv_lconst (d := (0 : Int)) hM dX12_compares_122 rfl rfl ?_
                obtain ⟨o38, h⟩ := h
                refine sv_lcmp hM dX12_compares_123 o38 (⟨by decide, by decide⟩ : sv_RL (0 : Int)) rfl ?_
                refine sv_cond_gt hM dX12_compares_124 sv_Rcmp (t := 131) rfl rfl (fun hc => ?_) (fun hc => ?_)
                · have h := h.1 ((sv_cmp_gt).mp hc)
                  refine sv_iconst (d := (0 : Int)) hM dX12_compares_131 rfl rfl ?_
                  refine sv_goto hM dX12_compares_132 (pc' := 147) rfl ?_
                  exact sv_iret hM dX12_compares_147 rfl (sv_nz (⟨by decide, by decide⟩ : 0 ≤ (0 : Int) ∧ (0 : Int) ≤ 1)) ⟨(0 : Int), rfl, sv_R01 (⟨by decide, by decide⟩ : 0 ≤ (0 : Int) ∧ (0 : Int) ≤ 1), ok31, md35, h⟩
                · have h := h.2 (fun q => hc ((sv_cmp_gt).mpr q))
                  refine sv_iconst (d := (1 : Int)) hM dX12_compares_127 rfl rfl ?_
                  refine sv_goto hM dX12_compares_128 (pc' := 147) rfl ?_
                  exact sv_iret hM dX12_compares_147 rfl (sv_nz (⟨by decide, by decide⟩ : 0 ≤ (1 : Int) ∧ (1 : Int) ≤ 1)) ⟨(1 : Int), rfl, sv_R01 (⟨by decide, by decide⟩ : 0 ≤ (1 : Int) ∧ (1 : Int) ≤ 1), ok31, md35, h⟩
            · have h := h.2 (hc)
              refine sv_lload hM dX12_compares_99 rfl rfl ?_
              refine sv_lconst (d := (0 : Int)) hM dX12_compares_101 rfl rfl ?_
              obtain ⟨o39, h⟩ := h
              refine sv_lcmp hM dX12_compares_102 o39 (⟨by decide, by decide⟩ : sv_RL (0 : Int)) rfl ?_
              refine sv_cond_le hM dX12_compares_103 sv_Rcmp (t := 110) rfl rfl (fun hc => ?_) (fun hc => ?_)
              · have h := h.1 ((sv_cmp_le).mp hc)
                refine sv_iconst (d := (0 : Int)) hM dX12_compares_110 rfl rfl ?_
                refine sv_goto hM dX12_compares_111 (pc' := 147) rfl ?_
                exact sv_iret hM dX12_compares_147 rfl (sv_nz (⟨by decide, by decide⟩ : 0 ≤ (0 : Int) ∧ (0 : Int) ≤ 1)) ⟨(0 : Int), rfl, sv_R01 (⟨by decide, by decide⟩ : 0 ≤ (0 : Int) ∧ (0 : Int) ≤ 1), ok31, md35, h⟩
              · have h := h.2 (fun q => hc ((sv_cmp_le).mpr q))
                refine sv_iconst (d := (1 : Int)) hM dX12_compares_106 rfl rfl ?_
                refine sv_goto hM dX12_compares_107 (pc' := 147) rfl ?_
                exact sv_iret hM dX12_compares_147 rfl (sv_nz (⟨by decide, by decide⟩ : 0 ≤ (1 : Int) ∧ (1 : Int) ≤ 1)) ⟨(1 : Int), rfl, sv_R01 (⟨by decide, by decide⟩ : 0 ≤ (1 : Int) ∧ (1 : Int) ≤ 1), ok31, md35, h⟩
          · have h := h.2 (hc)
            refine sv_lload hM dX12_compares_78 rfl rfl ?_
            refine sv_lconst (d := (0 : Int)) hM dX12_compares_80 rfl rfl ?_
            obtain ⟨o40, h⟩ := h
            refine sv_lcmp hM dX12_compares_81 o40 (⟨by decide, by decide⟩ : sv_RL (0 : Int)) rfl ?_
            refine sv_cond_ge hM dX12_compares_82 sv_Rcmp (t := 89) rfl rfl (fun hc => ?_) (fun hc => ?_)
            · have h := h.1 ((sv_cmp_ge).mp hc)
              refine sv_iconst (d := (0 : Int)) hM dX12_compares_89 rfl rfl ?_
              refine sv_goto hM dX12_compares_90 (pc' := 147) rfl ?_
              exact sv_iret hM dX12_compares_147 rfl (sv_nz (⟨by decide, by decide⟩ : 0 ≤ (0 : Int) ∧ (0 : Int) ≤ 1)) ⟨(0 : Int), rfl, sv_R01 (⟨by decide, by decide⟩ : 0 ≤ (0 : Int) ∧ (0 : Int) ≤ 1), ok31, md35, h⟩
            · have h := h.2 (fun q => hc ((sv_cmp_ge).mpr q))
              refine sv_iconst (d := (1 : Int)) hM dX12_compares_85 rfl rfl ?_
              refine sv_goto hM dX12_compares_86 (pc' := 147) rfl ?_
              exact sv_iret hM dX12_compares_147 rfl (sv_nz (⟨by decide, by decide⟩ : 0 ≤ (1 : Int) ∧ (1 : Int) ≤ 1)) ⟨(1 : Int), rfl, sv_R01 (⟨by decide, by decide⟩ : 0 ≤ (1 : Int) ∧ (1 : Int) ≤ 1), ok31, md35, h⟩
        · have h := h.2 (hc)
          refine sv_iconst (d := (0 : Int)) hM dX12_compares_70 rfl rfl ?_
          exact sv_iret hM dX12_compares_71 rfl (sv_nz (⟨by decide, by decide⟩ : 0 ≤ (0 : Int) ∧ (0 : Int) ≤ 1)) ⟨(0 : Int), rfl, sv_R01 (⟨by decide, by decide⟩ : 0 ≤ (0 : Int) ∧ (0 : Int) ≤ 1), ok31, md35, h⟩
    · have h := h.2 (hc)
      refine sv_aload_n hM dX12_compares_16 rfl rfl ?_
      refine sv_iload_n hM dX12_compares_17 rfl rfl ?_
      refine sv_iload hM dX12_compares_18 rfl rfl ?_
      obtain ⟨o41, h⟩ := h
      refine sv_callV hM dX12_compares_20 sm_iv_819 (by decide) (sm_a0 _) rfl rfl (Nat.le_of_ble_eq_true rfl) sm_h132 (Nat.le_of_ble_eq_true rfl) (Nat.le_of_ble_eq_true rfl) (F' := 0) (Nat.le_of_ble_eq_true rfl) rfl (t_orderOf p3 p5 S hok hp3 hp5 o41) (fun v S1 hq => ?_)
      obtain ⟨r46, rfl, hr46, ok43, md44, hpo45⟩ := hq
      obtain rfl : S = S1 := (funext fun j => md44 j (by intro q; cases q)).symm
      show sv_T sm_XS sm_cs sm_L sm_sh 3 (q_compares p1 p2 p3 p4 p5 S) 133 23 [(0, .ref 0), (1, sv_I p1), (2, sv_I p2), (3, sv_I p3), (4, sv_I p4), (5, sv_I p5), (6, sv_L (0 : Int))] [sv_I r46] S
      have h := h r46 hr46 hpo45
      refine sv_i2l hM dX12_compares_23 hr46 rfl ?_
      refine sv_lstore hM dX12_compares_24 (by decide) rfl ?_
      show sv_T sm_XS sm_cs sm_L sm_sh 3 (q_compares p1 p2 p3 p4 p5 S) 133 26 [(0, .ref 0), (1, sv_I p1), (2, sv_I p2), (3, sv_I p3), (4, sv_I p4), (5, sv_I p5), (6, sv_L r46)] [] S
      refine sv_goto hM dX12_compares_26 (pc' := 72) rfl ?_
      refine sv_iload_n hM dX12_compares_72 rfl rfl ?_
      refine sv_bipush (d := (15 : Int)) hM dX12_compares_73 rfl rfl ?_
      refine sv_icmp_ne hM dX12_compares_75 hp1 (⟨by decide, by decide⟩ : sv_R (15 : Int)) (t := 93) rfl rfl (fun hc => ?_) (fun hc => ?_)
      · have h := h.1 (hc)
        refine sv_iload_n hM dX12_compares_93 rfl rfl ?_
        refine sv_bipush (d := (16 : Int)) hM dX12_compares_94 rfl rfl ?_
        refine sv_icmp_ne hM dX12_compares_96 hp1 (⟨by decide, by decide⟩ : sv_R (16 : Int)) (t := 114) rfl rfl (fun hc => ?_) (fun hc => ?_)
        · have h := h.1 (hc)
          refine sv_iload_n hM dX12_compares_114 rfl rfl ?_
          refine sv_bipush (d := (17 : Int)) hM dX12_compares_115 rfl rfl ?_
          refine sv_icmp_ne hM dX12_compares_117 hp1 (⟨by decide, by decide⟩ : sv_R (17 : Int)) (t := 135) rfl rfl (fun hc => ?_) (fun hc => ?_)
          · have h := h.1 (hc)
            refine sv_lload hM dX12_compares_135 rfl rfl ?_
            refine sv_lconst (d := (0 : Int)) hM dX12_compares_137 rfl rfl ?_
            refine sv_lcmp hM dX12_compares_138 (sv_RLR hr46) (⟨by decide, by decide⟩ : sv_RL (0 : Int)) rfl ?_
            refine sv_cond_lt hM dX12_compares_139 sv_Rcmp (t := 146) rfl rfl (fun hc => ?_) (fun hc => ?_)
            · have h := h.1 ((sv_cmp_lt).mp hc)
              refine sv_iconst (d := (0 : Int)) hM dX12_compares_146 rfl rfl ?_
              exact sv_iret hM dX12_compares_147 rfl (sv_nz (⟨by decide, by decide⟩ : 0 ≤ (0 : Int) ∧ (0 : Int) ≤ 1)) ⟨(0 : Int), rfl, sv_R01 (⟨by decide, by decide⟩ : 0 ≤ (0 : Int) ∧ (0 : Int) ≤ 1), ok43, sv_mod.rf, h⟩
            · have h := h.2 (fun q => hc ((sv_cmp_lt).mpr q))
              refine sv_iconst (d := (1 : Int)) hM dX12_compares_142 rfl rfl ?_
              refine sv_goto hM dX12_compares_143 (pc' := 147) rfl ?_
              exact sv_iret hM dX12_compares_147 rfl (sv_nz (⟨by decide, by decide⟩ : 0 ≤ (1 : Int) ∧ (1 : Int) ≤ 1)) ⟨(1 : Int), rfl, sv_R01 (⟨by decide, by decide⟩ : 0 ≤ (1 : Int) ∧ (1 : Int) ≤ 1), ok43, sv_mod.rf, h⟩
          · have h := h.2 (hc)
            refine sv_lload hM dX12_compares_120 rfl rfl ?_
            refine sv_lconst (d := (0 : Int)) hM dX12_compares_122 rfl rfl ?_
            refine sv_lcmp hM dX12_compares_123 (sv_RLR hr46) (⟨by decide, by decide⟩ : sv_RL (0 : Int)) rfl ?_
            refine sv_cond_gt hM dX12_compares_124 sv_Rcmp (t := 131) rfl rfl (fun hc => ?_) (fun hc => ?_)
            · have h := h.1 ((sv_cmp_gt).mp hc)
              refine sv_iconst (d := (0 : Int)) hM dX12_compares_131 rfl rfl ?_
              refine sv_goto hM dX12_compares_132 (pc' := 147) rfl ?_
              exact sv_iret hM dX12_compares_147 rfl (sv_nz (⟨by decide, by decide⟩ : 0 ≤ (0 : Int) ∧ (0 : Int) ≤ 1)) ⟨(0 : Int), rfl, sv_R01 (⟨by decide, by decide⟩ : 0 ≤ (0 : Int) ∧ (0 : Int) ≤ 1), ok43, sv_mod.rf, h⟩
            · have h := h.2 (fun q => hc ((sv_cmp_gt).mpr q))
              refine sv_iconst (d := (1 : Int)) hM dX12_compares_127 rfl rfl ?_
              refine sv_goto hM dX12_compares_128 (pc' := 147) rfl ?_
              exact sv_iret hM dX12_compares_147 rfl (sv_nz (⟨by decide, by decide⟩ : 0 ≤ (1 : Int) ∧ (1 : Int) ≤ 1)) ⟨(1 : Int), rfl, sv_R01 (⟨by decide, by decide⟩ : 0 ≤ (1 : Int) ∧ (1 : Int) ≤ 1), ok43, sv_mod.rf, h⟩
        · have h := h.2 (hc)
          refine sv_lload hM dX12_compares_99 rfl rfl ?_
          refine sv_lconst (d := (0 : Int)) hM dX12_compares_101 rfl rfl ?_
          refine sv_lcmp hM dX12_compares_102 (sv_RLR hr46) (⟨by decide, by decide⟩ : sv_RL (0 : Int)) rfl ?_
          refine sv_cond_le hM dX12_compares_103 sv_Rcmp (t := 110) rfl rfl (fun hc => ?_) (fun hc => ?_)
          · have h := h.1 ((sv_cmp_le).mp hc)
            refine sv_iconst (d := (0 : Int)) hM dX12_compares_110 rfl rfl ?_
            refine sv_goto hM dX12_compares_111 (pc' := 147) rfl ?_
            exact sv_iret hM dX12_compares_147 rfl (sv_nz (⟨by decide, by decide⟩ : 0 ≤ (0 : Int) ∧ (0 : Int) ≤ 1)) ⟨(0 : Int), rfl, sv_R01 (⟨by decide, by decide⟩ : 0 ≤ (0 : Int) ∧ (0 : Int) ≤ 1), ok43, sv_mod.rf, h⟩
          · have h := h.2 (fun q => hc ((sv_cmp_le).mpr q))
            refine sv_iconst (d := (1 : Int)) hM dX12_compares_106 rfl rfl ?_
            refine sv_goto hM dX12_compares_107 (pc' := 147) rfl ?_
            exact sv_iret hM dX12_compares_147 rfl (sv_nz (⟨by decide, by decide⟩ : 0 ≤ (1 : Int) ∧ (1 : Int) ≤ 1)) ⟨(1 : Int), rfl, sv_R01 (⟨by decide, by decide⟩ : 0 ≤ (1 : Int) ∧ (1 : Int) ≤ 1), ok43, sv_mod.rf, h⟩
      · have h := h.2 (hc)
        refine sv_lload hM dX12_compares_78 rfl rfl ?_
        refine sv_lconst (d := (0 : Int)) hM dX12_compares_80 rfl rfl ?_
        refine sv_lcmp hM dX12_compares_81 (sv_RLR hr46) (⟨by decide, by decide⟩ : sv_RL (0 : Int)) rfl ?_
        refine sv_cond_ge hM dX12_compares_82 sv_Rcmp (t := 89) rfl rfl (fun hc => ?_) (fun hc => ?_)
        · have h := h.1 ((sv_cmp_ge).mp hc)
          refine sv_iconst (d := (0 : Int)) hM dX12_compares_89 rfl rfl ?_
          refine sv_goto hM dX12_compares_90 (pc' := 147) rfl ?_
          exact sv_iret hM dX12_compares_147 rfl (sv_nz (⟨by decide, by decide⟩ : 0 ≤ (0 : Int) ∧ (0 : Int) ≤ 1)) ⟨(0 : Int), rfl, sv_R01 (⟨by decide, by decide⟩ : 0 ≤ (0 : Int) ∧ (0 : Int) ≤ 1), ok43, sv_mod.rf, h⟩
        · have h := h.2 (fun q => hc ((sv_cmp_ge).mpr q))
          refine sv_iconst (d := (1 : Int)) hM dX12_compares_85 rfl rfl ?_
          refine sv_goto hM dX12_compares_86 (pc' := 147) rfl ?_
          exact sv_iret hM dX12_compares_147 rfl (sv_nz (⟨by decide, by decide⟩ : 0 ≤ (1 : Int) ∧ (1 : Int) ≤ 1)) ⟨(1 : Int), rfl, sv_R01 (⟨by decide, by decide⟩ : 0 ≤ (1 : Int) ∧ (1 : Int) ≤ 1), ok43, sv_mod.rf, h⟩
def q_truth (p1 : Int) (S : sv_S) : Option Value → sv_S → Prop := fun v S' => v = none ∧ sm_ok S' ∧ sv_mod [1111, 1112] S S' ∧ (((S' 1111 0) = 2 ∨ (S' 1111 0) = 3) ∧ (S' 1112 0) = 0)
theorem la_truth_0 {x0 : Int} (h0 : x0 = 3) : x0 = 2 ∨ x0 = 3 := by omega
theorem la_truth_1 {x0 : Int} (h0 : 0 ≤ x0) (h1 : ¬ x0 = 0) : 0 < x0 := by omega
theorem la_truth_2 {x0 : Int} (h0 : x0 = 2) : x0 = 2 ∨ x0 = 3 := by omega
set_option maxHeartbeats 2000000 in
theorem f_truth : ∀ (p1 : Int) (S : sv_S), sm_ok S → (0 ≤ p1 ∧ p1 ≤ 1) → (((p1 = (0 : Int)) → (∀ g1 : sv_S, ((g1 1111 0) = (3 : Int) ∧ (g1 1112 0) = (0 : Int)) → (((g1 1111 0) = 2 ∨ (g1 1111 0) = 3) ∧ (g1 1112 0) = 0))) ∧ ((¬ (p1 = (0 : Int))) → (∀ g6 : sv_S, ((g6 1111 0) = (2 : Int) ∧ (g6 1112 0) = (0 : Int)) → (((g6 1111 0) = 2 ∨ (g6 1111 0) = 3) ∧ (g6 1112 0) = 0)))) := by
  intro p1
  intro S
  intro h1_
  rintro ⟨h2_, h3_⟩
  refine ⟨?_, ?_⟩
  · skip
    intro h4_
    intro g1
    rintro ⟨h5_, h6_⟩
    refine ⟨(la_truth_0 h5_), ?_⟩
    exact h6_
  intro h7_
  intro g6
  rintro ⟨h8_, h9_⟩
  refine ⟨(la_truth_2 h8_), ?_⟩
  exact h9_
set_option maxRecDepth 8000 in
set_option maxHeartbeats 2000000 in
theorem t_truth : ∀ (p1 : Int) (S : sv_S), sm_ok S → (0 ≤ p1 ∧ p1 ≤ 1) → sv_T sm_XS sm_cs sm_L sm_sh 1 (q_truth p1 S) 134 0 (lv_args 0 [.ref 0, sv_I p1]) [] S := by
  intro p1 S hok hp1
  have h := f_truth p1 S hok hp1
  have hM := sm_h134
  show sv_T sm_XS sm_cs sm_L sm_sh 1 (q_truth p1 S) 134 0 [(0, .ref 0), (1, sv_I p1)] [] S
  refine sv_aload_n hM dX12_truth_0 rfl rfl ?_
  refine sv_iload_n hM dX12_truth_1 rfl rfl ?_
  refine sv_cond_eq hM dX12_truth_2 (sv_R01 hp1) (t := 9) rfl rfl (fun hc => ?_) (fun hc => ?_)
  · have h := h.1 (hc)
    refine sv_iconst (d := (3 : Int)) hM dX12_truth_9 rfl rfl ?_
    refine sv_iconst (d := (0 : Int)) hM dX12_truth_10 rfl rfl ?_
    refine sv_callV hM dX12_truth_11 sm_iv_822 (by decide) (sm_a0 _) rfl rfl (Nat.le_of_ble_eq_true rfl) sm_h122 (Nat.le_of_ble_eq_true rfl) (Nat.le_of_ble_eq_true rfl) (F' := 0) (Nat.le_of_ble_eq_true rfl) rfl (t_give_ (3 : Int) (0 : Int) S hok (⟨by decide, by decide⟩ : sv_R (3 : Int)) (⟨by decide, by decide⟩ : sv_R (0 : Int))) (fun v S1 hq => ?_)
    obtain ⟨rfl, ok2, md3, hpo4⟩ := hq
    obtain ⟨g1, rfl⟩ : ∃ g, S1 = sv_sts S [1111, 1112] g := ⟨_, md3.eq⟩
    show sv_T sm_XS sm_cs sm_L sm_sh 1 (q_truth p1 S) 134 14 [(0, .ref 0), (1, sv_I p1)] [] (sv_sts S [1111, 1112] g1)
    have md5 : sv_mod [1111, 1112] S (sv_sts S [1111, 1112] g1) := sv_mod.sts sv_mod.rf (by decide)
    have h := h g1 hpo4
    exact sv_vret hM dX12_truth_14 rfl ⟨rfl, ok2, md5, h⟩
  · have h := h.2 (hc)
    refine sv_iconst (d := (2 : Int)) hM dX12_truth_5 rfl rfl ?_
    refine sv_goto hM dX12_truth_6 (pc' := 10) rfl ?_
    refine sv_iconst (d := (0 : Int)) hM dX12_truth_10 rfl rfl ?_
    refine sv_callV hM dX12_truth_11 sm_iv_822 (by decide) (sm_a0 _) rfl rfl (Nat.le_of_ble_eq_true rfl) sm_h122 (Nat.le_of_ble_eq_true rfl) (Nat.le_of_ble_eq_true rfl) (F' := 0) (Nat.le_of_ble_eq_true rfl) rfl (t_give_ (2 : Int) (0 : Int) S hok (⟨by decide, by decide⟩ : sv_R (2 : Int)) (⟨by decide, by decide⟩ : sv_R (0 : Int))) (fun v S1 hq => ?_)
    obtain ⟨rfl, ok7, md8, hpo9⟩ := hq
    obtain ⟨g6, rfl⟩ : ∃ g, S1 = sv_sts S [1111, 1112] g := ⟨_, md8.eq⟩
    show sv_T sm_XS sm_cs sm_L sm_sh 1 (q_truth p1 S) 134 14 [(0, .ref 0), (1, sv_I p1)] [] (sv_sts S [1111, 1112] g6)
    have md10 : sv_mod [1111, 1112] S (sv_sts S [1111, 1112] g6) := sv_mod.sts sv_mod.rf (by decide)
    have h := h g6 hpo9
    exact sv_vret hM dX12_truth_14 rfl ⟨rfl, ok7, md10, h⟩
def q_unaryOf (p1 : Int) (p2 : Int) (p3 : Int) (S : sv_S) : Option Value → sv_S → Prop := fun v S' => v = none ∧ sm_ok S' ∧ sv_mod [1113, 1111, 1112] S S' ∧ (2 ≤ (S' 1111 0) ∧ (S' 1111 0) ≤ 5)
theorem la_unaryOf_0 {x0 : Int} (h0 : x0 = 4) : 2 ≤ x0 := by omega
theorem la_unaryOf_1 {x0 : Int} (h0 : x0 = 4) : x0 ≤ 5 := by omega
theorem la_unaryOf_2 {x0 : Int} (h0 : 0 ≤ x0) (h1 : ¬ x0 = 0) : 0 < x0 := by omega
theorem la_unaryOf_3 {x0 : Int} (h0 : x0 = 5) : 2 ≤ x0 := by omega
theorem la_unaryOf_4 {x0 : Int} (h0 : x0 = 5) : x0 ≤ 5 := by omega
theorem la_unaryOf_5 {x0 : Int} (h0 : ¬ ¬ x0 = 0) : x0 ≤ 3 := by omega
theorem la_unaryOf_6 {x0 : Int} (h0 : x0 ≤ 3) (h1 : ¬ x0 = 3) : x0 < 3 := by omega
theorem la_unaryOf_7 {x0 : Int} (h0 : ¬ ¬ x0 = 0) : x0 ≤ 2 := by omega
theorem la_unaryOf_8 {x0 : Int} (h0 : x0 ≤ 2) (h1 : ¬ x0 = 2) : x0 < 2 := by omega
theorem la_unaryOf_9 {x0 : Int} (h0 : ¬ ¬ x0 = 2) : x0 ≤ 3 := by omega
theorem la_unaryOf_10 {x0 : Int} (h0 : x0 = 1) : 0 ≤ x0 := by omega
theorem la_unaryOf_11 {x0 : Int} (h0 : x0 = 2 ∨ x0 = 3) : 2 ≤ x0 := by omega
theorem la_unaryOf_12 {x0 : Int} (h0 : x0 = 2 ∨ x0 = 3) : x0 ≤ 5 := by omega
theorem la_unaryOf_13 {x0 : Int} (h0 : ¬ ¬ x0 = 0) : ¬ x0 = 1 := by omega
set_option maxHeartbeats 2000000 in
theorem f_unaryOf : ∀ (p1 : Int) (p2 : Int) (p3 : Int) (S : sv_S), sm_ok S → sv_R p1 → sv_R p2 → sv_R p3 → (31 ≤ (S 1007 0) ∧ (S 1007 0) ≤ 400 ∧ sm_LN (S 4) 400 (S 1007 0) ∧ (p2 = 6 → 0 ≤ p3 ∧ p3 < 400)) → (((¬ p1 = (3 : Int)) → (31 ≤ (S 1007 0) ∧ (S 1007 0) ≤ 400 ∧ sm_LN (S 4) 400 (S 1007 0) ∧ (p2 = 6 → 0 ≤ p3 ∧ p3 < 400)) ∧ (∀ r6 : Int, sv_R r6 → ∀ g2 : sv_S, (True) → (((¬ p1 = (2 : Int)) → ((0 ≤ (g2 1113 0) ∧ (g2 1113 0) ≤ 1) → ((((g2 1113 0) = (0 : Int)) → (∀ g9 : sv_S, ((g9 1111 0) = (4 : Int) ∧ (g9 1112 0) = (0 : Int)) → (2 ≤ (g9 1111 0) ∧ (g9 1111 0) ≤ 5))) ∧ ((¬ ((g2 1113 0) = (0 : Int))) → (((¬ p1 = (0 : Int)) → (∀ r14 : Int, sv_R r14 → (∀ g15 : sv_S, ((g15 1111 0) = (5 : Int) ∧ (g15 1112 0) = r14) → (2 ≤ (g15 1111 0) ∧ (g15 1111 0) ≤ 5)))) ∧ ((¬ (¬ p1 = (0 : Int))) → (∀ g20 : sv_S, ((g20 1111 0) = (5 : Int) ∧ (g20 1112 0) = r6) → (2 ≤ (g20 1111 0) ∧ (g20 1111 0) ≤ 5)))))))) ∧ ((¬ (¬ p1 = (2 : Int))) → ((0 ≤ (g2 1113 0) ∧ (g2 1113 0) ≤ 1) → ((((g2 1113 0) = (0 : Int)) → (∀ r26 : Int, sv_R r26 → (∀ g27 : sv_S, ((g27 1111 0) = (5 : Int) ∧ (g27 1112 0) = r26) → (2 ≤ (g27 1111 0) ∧ (g27 1111 0) ≤ 5)))) ∧ ((¬ ((g2 1113 0) = (0 : Int))) → (∀ r32 : Int, sv_R r32 → (∀ g33 : sv_S, ((g33 1111 0) = (5 : Int) ∧ (g33 1112 0) = r32) → (2 ≤ (g33 1111 0) ∧ (g33 1111 0) ≤ 5)))))))))) ∧ ((¬ (¬ p1 = (3 : Int))) → (31 ≤ (S 1007 0) ∧ (S 1007 0) ≤ 400 ∧ sm_LN (S 4) 400 (S 1007 0) ∧ (p2 = 6 → 0 ≤ p3 ∧ p3 < 400)) ∧ (∀ r43 : Int, sv_R r43 → (r43 = 0 ∨ r43 = 1) → (((¬ r43 = (0 : Int)) → (∀ g44 : sv_S, (((g44 1111 0) = 2 ∨ (g44 1111 0) = 3) ∧ (g44 1112 0) = 0) → (2 ≤ (g44 1111 0) ∧ (g44 1111 0) ≤ 5))) ∧ ((¬ (¬ r43 = (0 : Int))) → (∀ g49 : sv_S, (((g49 1111 0) = 2 ∨ (g49 1111 0) = 3) ∧ (g49 1112 0) = 0) → (2 ≤ (g49 1111 0) ∧ (g49 1111 0) ≤ 5))))))) := by
  intro p1
  intro p2
  intro p3
  intro S
  intro h1_
  intro h2_
  intro h3_
  intro h4_
  rintro ⟨h5_, ⟨h6_, ⟨h7_, h8_⟩⟩⟩
  refine ⟨?_, ?_⟩
  · skip
    intro h9_
    refine ⟨⟨h5_, ⟨h6_, ⟨h7_, h8_⟩⟩⟩, ?_⟩
    intro r6
    intro h10_
    intro g2
    intro _
    refine ⟨?_, ?_⟩
    · skip
      intro h11_
      rintro ⟨h12_, h13_⟩
      refine ⟨?_, ?_⟩
      · skip
        intro h14_
        intro g9
        rintro ⟨h15_, h16_⟩
        refine ⟨(la_unaryOf_0 h15_), ?_⟩
        exact (la_unaryOf_1 h15_)
      intro h17_
      refine ⟨?_, ?_⟩
      · skip
        intro h18_
        intro r14
        intro h19_
        intro g15
        rintro ⟨h20_, h21_⟩
        refine ⟨(la_unaryOf_3 h20_), ?_⟩
        exact (la_unaryOf_4 h20_)
      intro h22_
      intro g20
      rintro ⟨h23_, h24_⟩
      refine ⟨(la_unaryOf_3 h23_), ?_⟩
      exact (la_unaryOf_4 h23_)
    intro h25_
    rintro ⟨h26_, h27_⟩
    refine ⟨?_, ?_⟩
    · skip
      intro h28_
      intro r26
      intro h29_
      intro g27
      rintro ⟨h30_, h31_⟩
      refine ⟨(la_unaryOf_3 h30_), ?_⟩
      exact (la_unaryOf_4 h30_)
    intro h32_
    intro r32
    intro h33_
    intro g33
    rintro ⟨h34_, h35_⟩
    refine ⟨(la_unaryOf_3 h34_), ?_⟩
    exact (la_unaryOf_4 h34_)
  intro h36_
  refine ⟨⟨h5_, ⟨h6_, ⟨h7_, h8_⟩⟩⟩, ?_⟩
  intro r43
  intro h37_
  intro h38_
  refine ⟨?_, ?_⟩
  · skip
    intro h39_
    have h40_ := (h38_.resolve_left h39_)
    intro g44
    rintro ⟨h41_, h42_⟩
    refine ⟨?_, ?_⟩
    · skip
      exact (la_unaryOf_11 h41_)
    exact (la_unaryOf_12 h41_)
  intro h43_
  have h44_ := (h38_.resolve_right (la_unaryOf_13 h43_))
  intro g49
  rintro ⟨h45_, h46_⟩
  refine ⟨?_, ?_⟩
  · skip
    exact (la_unaryOf_11 h45_)
  exact (la_unaryOf_12 h45_)
set_option maxRecDepth 8000 in
set_option maxHeartbeats 2000000 in
theorem t_unaryOf : ∀ (p1 : Int) (p2 : Int) (p3 : Int) (S : sv_S), sm_ok S → sv_R p1 → sv_R p2 → sv_R p3 → (31 ≤ (S 1007 0) ∧ (S 1007 0) ≤ 400 ∧ sm_LN (S 4) 400 (S 1007 0) ∧ (p2 = 6 → 0 ≤ p3 ∧ p3 < 400)) → sv_T sm_XS sm_cs sm_L sm_sh 3 (q_unaryOf p1 p2 p3 S) 135 0 (lv_args 0 [.ref 0, sv_I p1, sv_I p2, sv_I p3]) [] S := by
  intro p1 p2 p3 S hok hp1 hp2 hp3 hpre
  have h := f_unaryOf p1 p2 p3 S hok hp1 hp2 hp3 hpre
  have hM := sm_h135
  show sv_T sm_XS sm_cs sm_L sm_sh 3 (q_unaryOf p1 p2 p3 S) 135 0 [(0, .ref 0), (1, sv_I p1), (2, sv_I p2), (3, sv_I p3)] [] S
  refine sv_iload_n hM dX12_unaryOf_0 rfl rfl ?_
  refine sv_iconst (d := (3 : Int)) hM dX12_unaryOf_1 rfl rfl ?_
  refine sv_icmp_ne hM dX12_unaryOf_2 hp1 (⟨by decide, by decide⟩ : sv_R (3 : Int)) (t := 24) rfl rfl (fun hc => ?_) (fun hc => ?_)
  · have h := h.1 (hc)
    refine sv_aload_n hM dX12_unaryOf_24 rfl rfl ?_
    refine sv_iload_n hM dX12_unaryOf_25 rfl rfl ?_
    refine sv_iload_n hM dX12_unaryOf_26 rfl rfl ?_
    obtain ⟨o1, h⟩ := h
    refine sv_callV hM dX12_unaryOf_27 sm_iv_816 (by decide) (sm_a0 _) rfl rfl (Nat.le_of_ble_eq_true rfl) sm_h127 (Nat.le_of_ble_eq_true rfl) (Nat.le_of_ble_eq_true rfl) (F' := 2) (Nat.le_of_ble_eq_true rfl) rfl (t_numberOf p2 p3 S hok hp2 hp3 o1) (fun v S1 hq => ?_)
    obtain ⟨r6, rfl, hr6, ok3, md4, hpo5⟩ := hq
    obtain ⟨g2, rfl⟩ : ∃ g, S1 = sv_sts S [1113] g := ⟨_, md4.eq⟩
    show sv_T sm_XS sm_cs sm_L sm_sh 3 (q_unaryOf p1 p2 p3 S) 135 30 [(0, .ref 0), (1, sv_I p1), (2, sv_I p2), (3, sv_I p3)] [sv_I r6] (sv_sts S [1113] g2)
    have md7 : sv_mod [1113, 1111, 1112] S (sv_sts S [1113] g2) := sv_mod.sts sv_mod.rf (by decide)
    have h := h r6 hr6 g2 hpo5
    refine sv_istore hM dX12_unaryOf_30 (by decide) rfl ?_
    show sv_T sm_XS sm_cs sm_L sm_sh 3 (q_unaryOf p1 p2 p3 S) 135 32 [(0, .ref 0), (1, sv_I p1), (2, sv_I p2), (3, sv_I p3), (4, sv_I r6)] [] (sv_sts S [1113] g2)
    refine sv_iload_n hM dX12_unaryOf_32 rfl rfl ?_
    refine sv_iconst (d := (2 : Int)) hM dX12_unaryOf_33 rfl rfl ?_
    refine sv_icmp_ne hM dX12_unaryOf_34 hp1 (⟨by decide, by decide⟩ : sv_R (2 : Int)) (t := 60) rfl rfl (fun hc => ?_) (fun hc => ?_)
    · have h := h.1 (hc)
      refine sv_aload_n hM dX12_unaryOf_60 rfl rfl ?_
      have k8 : (0 ≤ (g2 1113 0) ∧ (g2 1113 0) ≤ 1) := sm_okZ ok3 sm_r1113 0
      have h := h k8
      refine sv_getI hM dX12_unaryOf_61 sm_fl_806 (sm_a0 _) sm_k113 rfl (x := (g2 1113 0)) rfl ?_
      refine sv_cond_eq hM dX12_unaryOf_64 (sv_R01 k8) (t := 87) rfl rfl (fun hc => ?_) (fun hc => ?_)
      · have h := h.1 (hc)
        refine sv_aload_n hM dX12_unaryOf_87 rfl rfl ?_
        refine sv_iconst (d := (4 : Int)) hM dX12_unaryOf_88 rfl rfl ?_
        refine sv_iconst (d := (0 : Int)) hM dX12_unaryOf_89 rfl rfl ?_
        refine sv_callV hM dX12_unaryOf_90 sm_iv_822 (by decide) (sm_a0 _) rfl rfl (Nat.le_of_ble_eq_true rfl) sm_h122 (Nat.le_of_ble_eq_true rfl) (Nat.le_of_ble_eq_true rfl) (F' := 0) (Nat.le_of_ble_eq_true rfl) rfl (t_give_ (4 : Int) (0 : Int) (sv_sts S [1113] g2) ok3 (⟨by decide, by decide⟩ : sv_R (4 : Int)) (⟨by decide, by decide⟩ : sv_R (0 : Int))) (fun v S1 hq => ?_)
        obtain ⟨rfl, ok10, md11, hpo12⟩ := hq
        obtain ⟨g9, rfl⟩ : ∃ g, S1 = sv_sts (sv_sts S [1113] g2) [1111, 1112] g := ⟨_, md11.eq⟩
        show sv_T sm_XS sm_cs sm_L sm_sh 3 (q_unaryOf p1 p2 p3 S) 135 93 [(0, .ref 0), (1, sv_I p1), (2, sv_I p2), (3, sv_I p3), (4, sv_I r6)] [] (sv_sts (sv_sts S [1113] g2) [1111, 1112] g9)
        have md13 : sv_mod [1113, 1111, 1112] S (sv_sts (sv_sts S [1113] g2) [1111, 1112] g9) := sv_mod.sts md7 (by decide)
        have h := h g9 hpo12
        exact sv_vret hM dX12_unaryOf_93 rfl ⟨rfl, ok10, md13, h⟩
      · have h := h.2 (hc)
        refine sv_aload_n hM dX12_unaryOf_67 rfl rfl ?_
        refine sv_iconst (d := (5 : Int)) hM dX12_unaryOf_68 rfl rfl ?_
        refine sv_iload_n hM dX12_unaryOf_69 rfl rfl ?_
        refine sv_cond_ne hM dX12_unaryOf_70 hp1 (t := 78) rfl rfl (fun hc => ?_) (fun hc => ?_)
        · have h := h.1 (hc)
          refine sv_iload hM dX12_unaryOf_78 rfl rfl ?_
          refine sv_anyI hM dX12_unaryOf_80 rfl rfl (fun r14 hr14 _ => ?_)
          have h := h r14 hr14
          refine sv_callV hM dX12_unaryOf_81 sm_iv_822 (by decide) (sm_a0 _) rfl rfl (Nat.le_of_ble_eq_true rfl) sm_h122 (Nat.le_of_ble_eq_true rfl) (Nat.le_of_ble_eq_true rfl) (F' := 0) (Nat.le_of_ble_eq_true rfl) rfl (t_give_ (5 : Int) r14 (sv_sts S [1113] g2) ok3 (⟨by decide, by decide⟩ : sv_R (5 : Int)) hr14) (fun v S1 hq => ?_)
          obtain ⟨rfl, ok16, md17, hpo18⟩ := hq
          obtain ⟨g15, rfl⟩ : ∃ g, S1 = sv_sts (sv_sts S [1113] g2) [1111, 1112] g := ⟨_, md17.eq⟩
          show sv_T sm_XS sm_cs sm_L sm_sh 3 (q_unaryOf p1 p2 p3 S) 135 84 [(0, .ref 0), (1, sv_I p1), (2, sv_I p2), (3, sv_I p3), (4, sv_I r6)] [] (sv_sts (sv_sts S [1113] g2) [1111, 1112] g15)
          have md19 : sv_mod [1113, 1111, 1112] S (sv_sts (sv_sts S [1113] g2) [1111, 1112] g15) := sv_mod.sts md7 (by decide)
          have h := h g15 hpo18
          refine sv_goto hM dX12_unaryOf_84 (pc' := 93) rfl ?_
          exact sv_vret hM dX12_unaryOf_93 rfl ⟨rfl, ok16, md19, h⟩
        · have h := h.2 (hc)
          refine sv_iload hM dX12_unaryOf_73 rfl rfl ?_
          refine sv_goto hM dX12_unaryOf_75 (pc' := 81) rfl ?_
          refine sv_callV hM dX12_unaryOf_81 sm_iv_822 (by decide) (sm_a0 _) rfl rfl (Nat.le_of_ble_eq_true rfl) sm_h122 (Nat.le_of_ble_eq_true rfl) (Nat.le_of_ble_eq_true rfl) (F' := 0) (Nat.le_of_ble_eq_true rfl) rfl (t_give_ (5 : Int) r6 (sv_sts S [1113] g2) ok3 (⟨by decide, by decide⟩ : sv_R (5 : Int)) hr6) (fun v S1 hq => ?_)
          obtain ⟨rfl, ok21, md22, hpo23⟩ := hq
          obtain ⟨g20, rfl⟩ : ∃ g, S1 = sv_sts (sv_sts S [1113] g2) [1111, 1112] g := ⟨_, md22.eq⟩
          show sv_T sm_XS sm_cs sm_L sm_sh 3 (q_unaryOf p1 p2 p3 S) 135 84 [(0, .ref 0), (1, sv_I p1), (2, sv_I p2), (3, sv_I p3), (4, sv_I r6)] [] (sv_sts (sv_sts S [1113] g2) [1111, 1112] g20)
          have md24 : sv_mod [1113, 1111, 1112] S (sv_sts (sv_sts S [1113] g2) [1111, 1112] g20) := sv_mod.sts md7 (by decide)
          have h := h g20 hpo23
          refine sv_goto hM dX12_unaryOf_84 (pc' := 93) rfl ?_
          exact sv_vret hM dX12_unaryOf_93 rfl ⟨rfl, ok21, md24, h⟩
    · have h := h.2 (hc)
      refine sv_aload_n hM dX12_unaryOf_37 rfl rfl ?_
      refine sv_iconst (d := (5 : Int)) hM dX12_unaryOf_38 rfl rfl ?_
      refine sv_aload_n hM dX12_unaryOf_39 rfl rfl ?_
      have k25 : (0 ≤ (g2 1113 0) ∧ (g2 1113 0) ≤ 1) := sm_okZ ok3 sm_r1113 0
      have h := h k25
      refine sv_getI hM dX12_unaryOf_40 sm_fl_806 (sm_a0 _) sm_k113 rfl (x := (g2 1113 0)) rfl ?_
      refine sv_cond_eq hM dX12_unaryOf_43 (sv_R01 k25) (t := 51) rfl rfl (fun hc => ?_) (fun hc => ?_)
      · have h := h.1 (hc)
        refine sv_iconst (d := (0 : Int)) hM dX12_unaryOf_51 rfl rfl ?_
        refine sv_iconst (d := (-1 : Int)) hM dX12_unaryOf_52 rfl rfl ?_
        refine sv_anyI hM dX12_unaryOf_53 rfl rfl (fun r26 hr26 _ => ?_)
        have h := h r26 hr26
        refine sv_callV hM dX12_unaryOf_54 sm_iv_822 (by decide) (sm_a0 _) rfl rfl (Nat.le_of_ble_eq_true rfl) sm_h122 (Nat.le_of_ble_eq_true rfl) (Nat.le_of_ble_eq_true rfl) (F' := 0) (Nat.le_of_ble_eq_true rfl) rfl (t_give_ (5 : Int) r26 (sv_sts S [1113] g2) ok3 (⟨by decide, by decide⟩ : sv_R (5 : Int)) hr26) (fun v S1 hq => ?_)
        obtain ⟨rfl, ok28, md29, hpo30⟩ := hq
        obtain ⟨g27, rfl⟩ : ∃ g, S1 = sv_sts (sv_sts S [1113] g2) [1111, 1112] g := ⟨_, md29.eq⟩
        show sv_T sm_XS sm_cs sm_L sm_sh 3 (q_unaryOf p1 p2 p3 S) 135 57 [(0, .ref 0), (1, sv_I p1), (2, sv_I p2), (3, sv_I p3), (4, sv_I r6)] [] (sv_sts (sv_sts S [1113] g2) [1111, 1112] g27)
        have md31 : sv_mod [1113, 1111, 1112] S (sv_sts (sv_sts S [1113] g2) [1111, 1112] g27) := sv_mod.sts md7 (by decide)
        have h := h g27 hpo30
        refine sv_goto hM dX12_unaryOf_57 (pc' := 93) rfl ?_
        exact sv_vret hM dX12_unaryOf_93 rfl ⟨rfl, ok28, md31, h⟩
      · have h := h.2 (hc)
        refine sv_iload hM dX12_unaryOf_46 rfl rfl ?_
        refine sv_goto hM dX12_unaryOf_48 (pc' := 52) rfl ?_
        refine sv_iconst (d := (-1 : Int)) hM dX12_unaryOf_52 rfl rfl ?_
        refine sv_anyI hM dX12_unaryOf_53 rfl rfl (fun r32 hr32 _ => ?_)
        have h := h r32 hr32
        refine sv_callV hM dX12_unaryOf_54 sm_iv_822 (by decide) (sm_a0 _) rfl rfl (Nat.le_of_ble_eq_true rfl) sm_h122 (Nat.le_of_ble_eq_true rfl) (Nat.le_of_ble_eq_true rfl) (F' := 0) (Nat.le_of_ble_eq_true rfl) rfl (t_give_ (5 : Int) r32 (sv_sts S [1113] g2) ok3 (⟨by decide, by decide⟩ : sv_R (5 : Int)) hr32) (fun v S1 hq => ?_)
        obtain ⟨rfl, ok34, md35, hpo36⟩ := hq
        obtain ⟨g33, rfl⟩ : ∃ g, S1 = sv_sts (sv_sts S [1113] g2) [1111, 1112] g := ⟨_, md35.eq⟩
        show sv_T sm_XS sm_cs sm_L sm_sh 3 (q_unaryOf p1 p2 p3 S) 135 57 [(0, .ref 0), (1, sv_I p1), (2, sv_I p2), (3, sv_I p3), (4, sv_I r6)] [] (sv_sts (sv_sts S [1113] g2) [1111, 1112] g33)
        have md37 : sv_mod [1113, 1111, 1112] S (sv_sts (sv_sts S [1113] g2) [1111, 1112] g33) := sv_mod.sts md7 (by decide)
        have h := h g33 hpo36
        refine sv_goto hM dX12_unaryOf_57 (pc' := 93) rfl ?_
        exact sv_vret hM dX12_unaryOf_93 rfl ⟨rfl, ok34, md37, h⟩
  · have h := h.2 (hc)
    refine sv_aload_n hM dX12_unaryOf_5 rfl rfl ?_
    refine sv_aload_n hM dX12_unaryOf_6 rfl rfl ?_
    refine sv_iload_n hM dX12_unaryOf_7 rfl rfl ?_
    refine sv_iload_n hM dX12_unaryOf_8 rfl rfl ?_
    obtain ⟨o38, h⟩ := h
    refine sv_callV hM dX12_unaryOf_9 sm_iv_824 (by decide) (sm_a0 _) rfl rfl (Nat.le_of_ble_eq_true rfl) sm_h129 (Nat.le_of_ble_eq_true rfl) (Nat.le_of_ble_eq_true rfl) (F' := 0) (Nat.le_of_ble_eq_true rfl) rfl (t_isTrue p2 p3 S hok hp2 hp3 o38) (fun v S1 hq => ?_)
    obtain ⟨r43, rfl, hr43, ok40, md41, hpo42⟩ := hq
    obtain rfl : S = S1 := (funext fun j => md41 j (by intro q; cases q)).symm
    show sv_T sm_XS sm_cs sm_L sm_sh 3 (q_unaryOf p1 p2 p3 S) 135 12 [(0, .ref 0), (1, sv_I p1), (2, sv_I p2), (3, sv_I p3)] [sv_I r43, .ref 0] S
    have h := h r43 hr43 hpo42
    refine sv_cond_ne hM dX12_unaryOf_12 hr43 (t := 19) rfl rfl (fun hc => ?_) (fun hc => ?_)
    · have h := h.1 (hc)
      refine sv_iconst (d := (0 : Int)) hM dX12_unaryOf_19 rfl rfl ?_
      refine sv_callV hM dX12_unaryOf_20 sm_iv_827 (by decide) (sm_a0 _) rfl rfl (Nat.le_of_ble_eq_true rfl) sm_h134 (Nat.le_of_ble_eq_true rfl) (Nat.le_of_ble_eq_true rfl) (F' := 1) (Nat.le_of_ble_eq_true rfl) rfl (t_truth (0 : Int) S ok40 (⟨by decide, by decide⟩ : 0 ≤ (0 : Int) ∧ (0 : Int) ≤ 1)) (fun v S1 hq => ?_)
      obtain ⟨rfl, ok45, md46, hpo47⟩ := hq
      obtain ⟨g44, rfl⟩ : ∃ g, S1 = sv_sts S [1111, 1112] g := ⟨_, md46.eq⟩
      show sv_T sm_XS sm_cs sm_L sm_sh 3 (q_unaryOf p1 p2 p3 S) 135 23 [(0, .ref 0), (1, sv_I p1), (2, sv_I p2), (3, sv_I p3)] [] (sv_sts S [1111, 1112] g44)
      have md48 : sv_mod [1113, 1111, 1112] S (sv_sts S [1111, 1112] g44) := sv_mod.sts sv_mod.rf (by decide)
      have h := h g44 hpo47
      exact sv_vret hM dX12_unaryOf_23 rfl ⟨rfl, ok45, md48, h⟩
    · have h := h.2 (hc)
      refine sv_iconst (d := (1 : Int)) hM dX12_unaryOf_15 rfl rfl ?_
      refine sv_goto hM dX12_unaryOf_16 (pc' := 20) rfl ?_
      refine sv_callV hM dX12_unaryOf_20 sm_iv_827 (by decide) (sm_a0 _) rfl rfl (Nat.le_of_ble_eq_true rfl) sm_h134 (Nat.le_of_ble_eq_true rfl) (Nat.le_of_ble_eq_true rfl) (F' := 1) (Nat.le_of_ble_eq_true rfl) rfl (t_truth (1 : Int) S ok40 (⟨by decide, by decide⟩ : 0 ≤ (1 : Int) ∧ (1 : Int) ≤ 1)) (fun v S1 hq => ?_)
      obtain ⟨rfl, ok50, md51, hpo52⟩ := hq
      obtain ⟨g49, rfl⟩ : ∃ g, S1 = sv_sts S [1111, 1112] g := ⟨_, md51.eq⟩
      show sv_T sm_XS sm_cs sm_L sm_sh 3 (q_unaryOf p1 p2 p3 S) 135 23 [(0, .ref 0), (1, sv_I p1), (2, sv_I p2), (3, sv_I p3)] [] (sv_sts S [1111, 1112] g49)
      have md53 : sv_mod [1113, 1111, 1112] S (sv_sts S [1111, 1112] g49) := sv_mod.sts sv_mod.rf (by decide)
      have h := h g49 hpo52
      exact sv_vret hM dX12_unaryOf_23 rfl ⟨rfl, ok50, md53, h⟩
def q_joinsTexts (p1 : Int) (p2 : Int) (p3 : Int) (S : sv_S) : Option Value → sv_S → Prop := fun v S' => ∃ r : Int, v = some (sv_I r) ∧ sv_R r ∧ sm_ok S' ∧ sv_mod [] S S' ∧ ((r = 0 ∨ r = 1) ∧ (r = 1 → p1 = 0 ∧ (6 ≤ p2 ∨ 6 ≤ p3)) ∧ (r = 0 → ¬ (p1 = 0 ∧ (6 ≤ p2 ∨ 6 ≤ p3))))
theorem la_joinsTexts_0 {x0 x1 x2 : Int} : ¬ x0 = 0 → ((0 : Int) = 0 ∨ (0 : Int) = 1) ∧ ((0 : Int) = 1 → x0 = 0 ∧ (6 ≤ x1 ∨ 6 ≤ x2)) ∧ ((0 : Int) = 0 → ¬ (x0 = 0 ∧ (6 ≤ x1 ∨ 6 ≤ x2))) := by omega
theorem la_joinsTexts_1 {x0 x1 x2 : Int} (h0 : ¬ ¬ x0 = 0) : 6 ≤ x1 → ((1 : Int) = 0 ∨ (1 : Int) = 1) ∧ ((1 : Int) = 1 → x0 = 0 ∧ (6 ≤ x1 ∨ 6 ≤ x2)) ∧ ((1 : Int) = 0 → ¬ (x0 = 0 ∧ (6 ≤ x1 ∨ 6 ≤ x2))) := by omega
theorem la_joinsTexts_2 {x0 x1 x2 : Int} (h0 : ¬ 6 ≤ x0) : x1 < 6 → ((0 : Int) = 0 ∨ (0 : Int) = 1) ∧ ((0 : Int) = 1 → x2 = 0 ∧ (6 ≤ x0 ∨ 6 ≤ x1)) ∧ ((0 : Int) = 0 → ¬ (x2 = 0 ∧ (6 ≤ x0 ∨ 6 ≤ x1))) := by omega
theorem la_joinsTexts_3 : (1 : Int) = 0 ∨ (1 : Int) = 1 := by omega
theorem la_joinsTexts_4 {x0 x1 x2 : Int} (h0 : ¬ ¬ x0 = 0) (h1 : ¬ x1 < 6) : (1 : Int) = 1 → x0 = 0 ∧ (6 ≤ x2 ∨ 6 ≤ x1) := by omega
theorem la_joinsTexts_5 {x0 x1 x2 : Int} (h0 : (1 : Int) = 0) : ¬ (x0 = 0 ∧ (6 ≤ x1 ∨ 6 ≤ x2)) := by omega
set_option maxHeartbeats 2000000 in
theorem f_joinsTexts : ∀ (p1 : Int) (p2 : Int) (p3 : Int) (S : sv_S), sm_ok S → sv_R p1 → sv_R p2 → sv_R p3 → (((¬ p1 = (0 : Int)) → (((0 : Int) = 0 ∨ (0 : Int) = 1) ∧ ((0 : Int) = 1 → p1 = 0 ∧ (6 ≤ p2 ∨ 6 ≤ p3)) ∧ ((0 : Int) = 0 → ¬ (p1 = 0 ∧ (6 ≤ p2 ∨ 6 ≤ p3))))) ∧ ((¬ (¬ p1 = (0 : Int))) → ((((6 : Int) ≤ p2) → (((1 : Int) = 0 ∨ (1 : Int) = 1) ∧ ((1 : Int) = 1 → p1 = 0 ∧ (6 ≤ p2 ∨ 6 ≤ p3)) ∧ ((1 : Int) = 0 → ¬ (p1 = 0 ∧ (6 ≤ p2 ∨ 6 ≤ p3))))) ∧ ((¬ ((6 : Int) ≤ p2)) → (((p3 < (6 : Int)) → (((0 : Int) = 0 ∨ (0 : Int) = 1) ∧ ((0 : Int) = 1 → p1 = 0 ∧ (6 ≤ p2 ∨ 6 ≤ p3)) ∧ ((0 : Int) = 0 → ¬ (p1 = 0 ∧ (6 ≤ p2 ∨ 6 ≤ p3))))) ∧ ((¬ (p3 < (6 : Int))) → (((1 : Int) = 0 ∨ (1 : Int) = 1) ∧ ((1 : Int) = 1 → p1 = 0 ∧ (6 ≤ p2 ∨ 6 ≤ p3)) ∧ ((1 : Int) = 0 → ¬ (p1 = 0 ∧ (6 ≤ p2 ∨ 6 ≤ p3)))))))))) := by
  intro p1
  intro p2
  intro p3
  intro S
  intro h1_
  intro h2_
  intro h3_
  intro h4_
  refine ⟨la_joinsTexts_0, ?_⟩
  intro h5_
  refine ⟨(la_joinsTexts_1 h5_), ?_⟩
  intro h6_
  refine ⟨(la_joinsTexts_2 h6_), ?_⟩
  intro h7_
  refine ⟨la_joinsTexts_3, ?_⟩
  refine ⟨(la_joinsTexts_4 h5_ h7_), ?_⟩
  intro h8_
  exact (la_joinsTexts_5 h8_)
set_option maxRecDepth 8000 in
set_option maxHeartbeats 2000000 in
theorem t_joinsTexts : ∀ (p1 : Int) (p2 : Int) (p3 : Int) (S : sv_S), sm_ok S → sv_R p1 → sv_R p2 → sv_R p3 → sv_T sm_XS sm_cs sm_L sm_sh 0 (q_joinsTexts p1 p2 p3 S) 136 0 (lv_args 0 [.ref 0, sv_I p1, sv_I p2, sv_I p3]) [] S := by
  intro p1 p2 p3 S hok hp1 hp2 hp3
  have h := f_joinsTexts p1 p2 p3 S hok hp1 hp2 hp3
  have hM := sm_h136
  show sv_T sm_XS sm_cs sm_L sm_sh 0 (q_joinsTexts p1 p2 p3 S) 136 0 [(0, .ref 0), (1, sv_I p1), (2, sv_I p2), (3, sv_I p3)] [] S
  refine sv_iload_n hM dX12_joinsTexts_0 rfl rfl ?_
  refine sv_cond_ne hM dX12_joinsTexts_1 hp1 (t := 20) rfl rfl (fun hc => ?_) (fun hc => ?_)
  · have h := h.1 (hc)
    refine sv_iconst (d := (0 : Int)) hM dX12_joinsTexts_20 rfl rfl ?_
    exact sv_iret hM dX12_joinsTexts_21 rfl (sv_nz (⟨by decide, by decide⟩ : 0 ≤ (0 : Int) ∧ (0 : Int) ≤ 1)) ⟨(0 : Int), rfl, sv_R01 (⟨by decide, by decide⟩ : 0 ≤ (0 : Int) ∧ (0 : Int) ≤ 1), hok, sv_mod.rf, h⟩
  · have h := h.2 (hc)
    refine sv_iload_n hM dX12_joinsTexts_4 rfl rfl ?_
    refine sv_bipush (d := (6 : Int)) hM dX12_joinsTexts_5 rfl rfl ?_
    refine sv_icmp_ge hM dX12_joinsTexts_7 hp2 (⟨by decide, by decide⟩ : sv_R (6 : Int)) (t := 16) rfl rfl (fun hc => ?_) (fun hc => ?_)
    · have h := h.1 (hc)
      refine sv_iconst (d := (1 : Int)) hM dX12_joinsTexts_16 rfl rfl ?_
      refine sv_goto hM dX12_joinsTexts_17 (pc' := 21) rfl ?_
      exact sv_iret hM dX12_joinsTexts_21 rfl (sv_nz (⟨by decide, by decide⟩ : 0 ≤ (1 : Int) ∧ (1 : Int) ≤ 1)) ⟨(1 : Int), rfl, sv_R01 (⟨by decide, by decide⟩ : 0 ≤ (1 : Int) ∧ (1 : Int) ≤ 1), hok, sv_mod.rf, h⟩
    · have h := h.2 (hc)
      refine sv_iload_n hM dX12_joinsTexts_10 rfl rfl ?_
      refine sv_bipush (d := (6 : Int)) hM dX12_joinsTexts_11 rfl rfl ?_
      refine sv_icmp_lt hM dX12_joinsTexts_13 hp3 (⟨by decide, by decide⟩ : sv_R (6 : Int)) (t := 20) rfl rfl (fun hc => ?_) (fun hc => ?_)
      · have h := h.1 (hc)
        refine sv_iconst (d := (0 : Int)) hM dX12_joinsTexts_20 rfl rfl ?_
        exact sv_iret hM dX12_joinsTexts_21 rfl (sv_nz (⟨by decide, by decide⟩ : 0 ≤ (0 : Int) ∧ (0 : Int) ≤ 1)) ⟨(0 : Int), rfl, sv_R01 (⟨by decide, by decide⟩ : 0 ≤ (0 : Int) ∧ (0 : Int) ≤ 1), hok, sv_mod.rf, h⟩
      · have h := h.2 (hc)
        refine sv_iconst (d := (1 : Int)) hM dX12_joinsTexts_16 rfl rfl ?_
        refine sv_goto hM dX12_joinsTexts_17 (pc' := 21) rfl ?_
        exact sv_iret hM dX12_joinsTexts_21 rfl (sv_nz (⟨by decide, by decide⟩ : 0 ≤ (1 : Int) ∧ (1 : Int) ≤ 1)) ⟨(1 : Int), rfl, sv_R01 (⟨by decide, by decide⟩ : 0 ≤ (1 : Int) ∧ (1 : Int) ≤ 1), hok, sv_mod.rf, h⟩
def q_bits (p0 : Int) (p1 : Int) (p2 : Int) (S : sv_S) : Option Value → sv_S → Prop := fun v S' => ∃ r : Int, v = some (sv_I r) ∧ sv_R r ∧ sm_ok S' ∧ sv_mod [] S S' ∧ (True)
set_option maxHeartbeats 2000000 in
theorem f_bits : ∀ (p0 : Int) (p1 : Int) (p2 : Int) (S : sv_S), sm_ok S → sv_R p0 → sv_R p1 → sv_R p2 → (((p0 < (5 : Int) ∨ (9 : Int) < p0) → (∀ r1 : Int, sv_R r1 → (True))) ∧ ((p0 = (5 : Int)) → (∀ r2 : Int, sv_R r2 → (True))) ∧ ((p0 = (6 : Int)) → (∀ r3 : Int, sv_R r3 → (True))) ∧ ((p0 = (7 : Int)) → (∀ r4 : Int, sv_R r4 → (True))) ∧ ((p0 = (8 : Int)) → (∀ r5 : Int, sv_R r5 → (True))) ∧ ((p0 = (9 : Int)) → (∀ r6 : Int, sv_R r6 → (True)))) := by
  intro p0
  intro p1
  intro p2
  intro S
  intro h1_
  intro h2_
  intro h3_
  intro h4_
  refine ⟨?_, ?_⟩
  · skip
    intro h5_
    intro r1
    intro h6_
    exact trivial
  refine ⟨?_, ?_⟩
  · skip
    intro h7_
    intro r2
    intro h8_
    exact trivial
  refine ⟨?_, ?_⟩
  · skip
    intro h9_
    intro r3
    intro h10_
    exact trivial
  refine ⟨?_, ?_⟩
  · skip
    intro h11_
    intro r4
    intro h12_
    exact trivial
  refine ⟨?_, ?_⟩
  · skip
    intro h13_
    intro r5
    intro h14_
    exact trivial
  intro h15_
  intro r6
  intro h16_
  exact trivial
set_option maxRecDepth 8000 in
set_option maxHeartbeats 2000000 in
theorem t_bits : ∀ (p0 : Int) (p1 : Int) (p2 : Int) (S : sv_S), sm_ok S → sv_R p0 → sv_R p1 → sv_R p2 → sv_T sm_XS sm_cs sm_L sm_sh 0 (q_bits p0 p1 p2 S) 138 0 (lv_args 0 [sv_I p0, sv_I p1, sv_I p2]) [] S := by
  intro p0 p1 p2 S hok hp0 hp1 hp2
  have h := f_bits p0 p1 p2 S hok hp0 hp1 hp2
  have hM := sm_h138
  show sv_T sm_XS sm_cs sm_L sm_sh 0 (q_bits p0 p1 p2 S) 138 0 [(0, sv_I p0), (1, sv_I p1), (2, sv_I p2)] [] S
  refine sv_iload_n hM dX12_bits_0 rfl rfl ?_
  have hS := h
  have J0 : (p0 < (5 : Int) ∨ (9 : Int) < p0) → sv_T sm_XS sm_cs sm_L sm_sh 0 (q_bits p0 p1 p2 S) 138 56 [(0, sv_I p0), (1, sv_I p1), (2, sv_I p2)] [] S := by
    intro hc
    have h := hS.1 hc
    refine sv_iload_n hM dX12_bits_56 rfl rfl ?_
    refine sv_iload_n hM dX12_bits_57 rfl rfl ?_
    refine sv_anyI hM dX12_bits_58 rfl rfl (fun r1 hr1 _ => ?_)
    have h := h r1 hr1
    exact sv_iret hM dX12_bits_59 rfl rfl ⟨r1, rfl, hr1, hok, sv_mod.rf, h⟩
  have J1 : (p0 = (5 : Int)) → sv_T sm_XS sm_cs sm_L sm_sh 0 (q_bits p0 p1 p2 S) 138 36 [(0, sv_I p0), (1, sv_I p1), (2, sv_I p2)] [] S := by
    intro hc
    have h := hS.2.1 hc
    refine sv_iload_n hM dX12_bits_36 rfl rfl ?_
    refine sv_iload_n hM dX12_bits_37 rfl rfl ?_
    refine sv_anyI hM dX12_bits_38 rfl rfl (fun r2 hr2 _ => ?_)
    have h := h r2 hr2
    exact sv_iret hM dX12_bits_39 rfl rfl ⟨r2, rfl, hr2, hok, sv_mod.rf, h⟩
  have J2 : (p0 = (6 : Int)) → sv_T sm_XS sm_cs sm_L sm_sh 0 (q_bits p0 p1 p2 S) 138 40 [(0, sv_I p0), (1, sv_I p1), (2, sv_I p2)] [] S := by
    intro hc
    have h := hS.2.2.1 hc
    refine sv_iload_n hM dX12_bits_40 rfl rfl ?_
    refine sv_iload_n hM dX12_bits_41 rfl rfl ?_
    refine sv_anyI hM dX12_bits_42 rfl rfl (fun r3 hr3 _ => ?_)
    have h := h r3 hr3
    exact sv_iret hM dX12_bits_43 rfl rfl ⟨r3, rfl, hr3, hok, sv_mod.rf, h⟩
  have J3 : (p0 = (7 : Int)) → sv_T sm_XS sm_cs sm_L sm_sh 0 (q_bits p0 p1 p2 S) 138 44 [(0, sv_I p0), (1, sv_I p1), (2, sv_I p2)] [] S := by
    intro hc
    have h := hS.2.2.2.1 hc
    refine sv_iload_n hM dX12_bits_44 rfl rfl ?_
    refine sv_iload_n hM dX12_bits_45 rfl rfl ?_
    refine sv_anyI hM dX12_bits_46 rfl rfl (fun r4 hr4 _ => ?_)
    have h := h r4 hr4
    exact sv_iret hM dX12_bits_47 rfl rfl ⟨r4, rfl, hr4, hok, sv_mod.rf, h⟩
  have J4 : (p0 = (8 : Int)) → sv_T sm_XS sm_cs sm_L sm_sh 0 (q_bits p0 p1 p2 S) 138 48 [(0, sv_I p0), (1, sv_I p1), (2, sv_I p2)] [] S := by
    intro hc
    have h := hS.2.2.2.2.1 hc
    refine sv_iload_n hM dX12_bits_48 rfl rfl ?_
    refine sv_iload_n hM dX12_bits_49 rfl rfl ?_
    refine sv_anyI hM dX12_bits_50 rfl rfl (fun r5 hr5 _ => ?_)
    have h := h r5 hr5
    exact sv_iret hM dX12_bits_51 rfl rfl ⟨r5, rfl, hr5, hok, sv_mod.rf, h⟩
  have J5 : (p0 = (9 : Int)) → sv_T sm_XS sm_cs sm_L sm_sh 0 (q_bits p0 p1 p2 S) 138 52 [(0, sv_I p0), (1, sv_I p1), (2, sv_I p2)] [] S := by
    intro hc
    have h := hS.2.2.2.2.2 hc
    refine sv_iload_n hM dX12_bits_52 rfl rfl ?_
    refine sv_iload_n hM dX12_bits_53 rfl rfl ?_
    refine sv_anyI hM dX12_bits_54 rfl rfl (fun r6 hr6 _ => ?_)
    have h := h r6 hr6
    exact sv_iret hM dX12_bits_55 rfl rfl ⟨r6, rfl, hr6, hok, sv_mod.rf, h⟩
  refine sv_tsw hM dX12_bits_1 hp0 (t := 56) rfl (fun hc => J0 (by rcases hc with hc | hc; exact Or.inl hc; exact Or.inr hc)) (fun hc => ?_)
  have hv : p0 = (5 : Int) ∨ p0 = (6 : Int) ∨ p0 = (7 : Int) ∨ p0 = (8 : Int) ∨ p0 = (9 : Int) := by omega
  rcases hv with hv | hv | hv | hv | hv
  · exact ⟨35, 36, by rw [hv]; rfl, rfl, J1 (by omega)⟩
  · exact ⟨39, 40, by rw [hv]; rfl, rfl, J2 (by omega)⟩
  · exact ⟨43, 44, by rw [hv]; rfl, rfl, J3 (by omega)⟩
  · exact ⟨47, 48, by rw [hv]; rfl, rfl, J4 (by omega)⟩
  · exact ⟨51, 52, by rw [hv]; rfl, rfl, J5 (by omega)⟩
def q_binaryOf_ (p1 : Int) (p2 : Int) (p3 : Int) (p4 : Int) (p5 : Int) (S : sv_S) : Option Value → sv_S → Prop := fun v S' => v = none ∧ sm_ok S' ∧ sv_mod [5, 1011, 1113, 1111, 1112] S S' ∧ ((p1 = 0 ∧ (6 ≤ p2 ∨ 6 ≤ p4) → 0 ≤ (S' 1011 0) ∧ (S' 1011 0) ≤ 180) ∧ (¬ (p1 = 0 ∧ (6 ≤ p2 ∨ 6 ≤ p4)) → 2 ≤ (S' 1111 0) ∧ (S' 1111 0) ≤ 5))
theorem la_binaryOf__0 {x0 : Int} (h0 : x0 = 0) : ¬ x0 = 1 := by omega
theorem la_binaryOf__1 {x0 x1 x2 x3 : Int} (h0 : ¬ (x0 = 0 ∧ (6 ≤ x1 ∨ 6 ≤ x2))) : x0 = 0 ∧ (6 ≤ x1 ∨ 6 ≤ x2) → 0 ≤ x3 ∧ x3 ≤ 180 := by omega
theorem la_binaryOf__2 {x0 : Int} (h0 : x0 = 4) : 2 ≤ x0 := by omega
theorem la_binaryOf__3 {x0 : Int} (h0 : x0 = 4) : x0 ≤ 5 := by omega
theorem la_binaryOf__4 {x0 : Int} (h0 : x0 = 1) : 0 ≤ x0 := by omega
theorem la_binaryOf__5 {x0 : Int} (h0 : 0 ≤ x0) (h1 : ¬ x0 = 0) : 0 < x0 := by omega
theorem la_binaryOf__6 {x0 : Int} (h0 : 0 < x0) : 1 ≤ x0 := by omega
theorem la_binaryOf__7 {x0 : Int} (h0 : 1 ≤ x0) (h1 : ¬ x0 = 1) : 1 < x0 := by omega
theorem la_binaryOf__8 {x0 : Int} (h0 : x0 ≤ 2) (h1 : ¬ x0 = 2) : x0 < 2 := by omega
theorem la_binaryOf__9 {x0 : Int} (h0 : x0 < 2) : x0 ≤ 3 := by omega
theorem la_binaryOf__10 {x0 : Int} (h0 : x0 ≤ 3) (h1 : ¬ x0 = 3) : x0 < 3 := by omega
theorem la_binaryOf__11 {x0 : Int} (h0 : 1 < x0) (h1 : x0 < 2) : False := by omega
theorem la_binaryOf__12 {x0 x1 x2 x3 : Int} (h0 : 1 < x0) : x0 = 0 ∧ (6 ≤ x1 ∨ 6 ≤ x2) → 0 ≤ x3 ∧ x3 ≤ 180 := by omega
theorem la_binaryOf__13 {x0 : Int} (h0 : x0 = 5) : 2 ≤ x0 := by omega
theorem la_binaryOf__14 {x0 : Int} (h0 : x0 = 5) : x0 ≤ 5 := by omega
theorem la_binaryOf__15 {x0 : Int} (h0 : x0 < 2) (h1 : ¬ ¬ x0 = 3) : False := by omega
theorem la_binaryOf__16 {x0 x1 x2 x3 : Int} (h0 : ¬ ¬ x0 = 3) : x0 = 0 ∧ (6 ≤ x1 ∨ 6 ≤ x2) → 0 ≤ x3 ∧ x3 ≤ 180 := by omega
theorem la_binaryOf__17 {x0 x1 x2 x3 : Int} (h0 : 0 < x0) : x0 = 0 ∧ (6 ≤ x1 ∨ 6 ≤ x2) → 0 ≤ x3 ∧ x3 ≤ 180 := by omega
theorem la_binaryOf__18 {x0 : Int} (h0 : 0 ≤ x0) (h1 : ¬ ¬ x0 = 0) : x0 = 0 := by omega
theorem la_binaryOf__19 {x0 x1 x2 x3 : Int} (h0 : ¬ (6 ≤ x0 ∨ 6 ≤ x1)) : x2 = 0 ∧ (6 ≤ x0 ∨ 6 ≤ x1) → 0 ≤ x3 ∧ x3 ≤ 180 := by omega
theorem la_binaryOf__20 {x0 : Int} (h0 : ¬ x0 ≤ 2) : ¬ x0 = 0 := by omega
theorem la_binaryOf__21 {x0 : Int} (h0 : ¬ x0 ≤ 2) : 1 ≤ x0 := by omega
theorem la_binaryOf__22 {x0 : Int} (h0 : ¬ x0 ≤ 2) : 2 ≤ x0 := by omega
theorem la_binaryOf__23 {x0 : Int} (h0 : 2 ≤ x0) (h1 : ¬ x0 = 2) : 2 < x0 := by omega
theorem la_binaryOf__24 {x0 : Int} (h0 : ¬ x0 ≤ 2) : 3 ≤ x0 := by omega
theorem la_binaryOf__25 {x0 : Int} (h0 : 3 ≤ x0) (h1 : ¬ x0 = 3) : 3 < x0 := by omega
theorem la_binaryOf__26 {x0 x1 x2 x3 : Int} (h0 : 3 < x0) : x0 = 0 ∧ (6 ≤ x1 ∨ 6 ≤ x2) → 0 ≤ x3 ∧ x3 ≤ 180 := by omega
theorem la_binaryOf__27 {x0 x1 x2 x3 : Int} (h0 : ¬ x0 ≤ 2) : x0 = 0 ∧ (6 ≤ x1 ∨ 6 ≤ x2) → 0 ≤ x3 ∧ x3 ≤ 180 := by omega
theorem la_binaryOf__28 {x0 : Int} (h0 : ¬ x0 < 5) : ¬ x0 = 0 := by omega
theorem la_binaryOf__29 {x0 x1 x2 x3 : Int} (h0 : ¬ x0 < 5) : x0 = 0 ∧ (6 ≤ x1 ∨ 6 ≤ x2) → 0 ≤ x3 ∧ x3 ≤ 180 := by omega
theorem la_binaryOf__30 {x0 : Int} : x0 = 0 → (0 : Int) = 0 ∨ (0 : Int) = 1 := by omega
theorem la_binaryOf__31 : (1 : Int) = 0 ∨ (1 : Int) = 1 := by omega
theorem la_binaryOf__32 {x0 : Int} (h0 : ¬ x0 < 11) : ¬ x0 = 0 := by omega
theorem la_binaryOf__33 {x0 : Int} (h0 : x0 = 0 ∨ x0 = 1) : 0 ≤ x0 := by omega
theorem la_binaryOf__34 {x0 : Int} (h0 : x0 = 0 ∨ x0 = 1) : x0 ≤ 1 := by omega
theorem la_binaryOf__35 {x0 x1 x2 x3 : Int} (h0 : 15 ≤ x0) : x0 = 0 ∧ (6 ≤ x1 ∨ 6 ≤ x2) → 0 ≤ x3 ∧ x3 ≤ 180 := by omega
theorem la_binaryOf__36 {x0 : Int} (h0 : x0 = 2 ∨ x0 = 3) : 2 ≤ x0 := by omega
theorem la_binaryOf__37 {x0 : Int} (h0 : x0 = 2 ∨ x0 = 3) : x0 ≤ 5 := by omega
theorem la_binaryOf__38 {x0 : Int} (h0 : 13 ≤ x0) (h1 : ¬ x0 = 13) : 13 < x0 := by omega
theorem la_binaryOf__39 {x0 x1 x2 x3 : Int} (h0 : 13 < x0) : x0 = 0 ∧ (6 ≤ x1 ∨ 6 ≤ x2) → 0 ≤ x3 ∧ x3 ≤ 180 := by omega
theorem la_binaryOf__40 {x0 : Int} (h0 : ¬ ¬ x0 = 0) : ¬ x0 = 1 := by omega
theorem la_binaryOf__41 {x0 : Int} (h0 : x0 = 0) : x0 ≤ 1 := by omega
theorem la_binaryOf__42 {x0 : Int} (h0 : x0 ≤ 1) (h1 : ¬ x0 = 1) : x0 < 1 := by omega
theorem la_binaryOf__43 {x0 x1 x2 x3 : Int} (h0 : 13 ≤ x0) : x0 = 0 ∧ (6 ≤ x1 ∨ 6 ≤ x2) → 0 ≤ x3 ∧ x3 ≤ 180 := by omega
theorem la_binaryOf__44 {x0 : Int} (h0 : ¬ ¬ x0 = 1) : ¬ x0 = 0 := by omega
theorem la_binaryOf__45 {x0 : Int} (h0 : ¬ x0 < 11) : 11 ≤ x0 := by omega
theorem la_binaryOf__46 {x0 : Int} (h0 : 11 ≤ x0) (h1 : ¬ x0 = 11) : 11 < x0 := by omega
theorem la_binaryOf__47 {x0 x1 x2 x3 : Int} (h0 : 11 < x0) : x0 = 0 ∧ (6 ≤ x1 ∨ 6 ≤ x2) → 0 ≤ x3 ∧ x3 ≤ 180 := by omega
theorem la_binaryOf__48 {x0 x1 x2 x3 : Int} (h0 : ¬ x0 < 11) (h1 : ¬ ¬ x0 = 11) : x0 = 0 ∧ (6 ≤ x1 ∨ 6 ≤ x2) → 0 ≤ x3 ∧ x3 ≤ 180 := by omega
theorem la_binaryOf__49 : (0 : Int) ≤ 0 ∧ (0 : Int) ≤ 100 := by omega
theorem la_binaryOf__50 {x0 : Int} (h0 : 0 ≤ x0) (h1 : x0 ≤ 0 + 90) : 0 ≤ x0 ∧ x0 ≤ 100 := by omega
theorem la_binaryOf__51 {x0 x1 x2 x3 x4 : Int} (h0 : 0 ≤ x0) (h1 : x0 ≤ 0 + 90) (h2 : x0 ≤ x1) (h3 : x1 ≤ x0 + 90) : x2 = 0 ∧ (6 ≤ x3 ∨ 6 ≤ x4) → 0 ≤ x1 ∧ x1 ≤ 180 := by omega
theorem la_binaryOf__52 {x0 x1 : Int} (h0 : 6 ≤ x0 ∨ 6 ≤ x1) (h1 : ¬ (6 ≤ x0 ∨ 6 ≤ x1)) : False := by omega
set_option maxHeartbeats 2000000 in
theorem f_binaryOf_ : ∀ (p1 : Int) (p2 : Int) (p3 : Int) (p4 : Int) (p5 : Int) (S : sv_S), sm_ok S → sv_R p1 → sv_R p2 → sv_R p3 → sv_R p4 → sv_R p5 → (31 ≤ (S 1007 0) ∧ (S 1007 0) ≤ 400 ∧ sm_LN (S 4) 400 (S 1007 0) ∧ 0 ≤ p1 ∧ p1 ≤ 18 ∧ (p2 = 6 → 0 ≤ p3 ∧ p3 < 400) ∧ (p4 = 6 → 0 ≤ p5 ∧ p5 < 400)) → (∀ r5 : Int, sv_R r5 → ((r5 = 0 ∨ r5 = 1) ∧ (r5 = 1 → p1 = 0 ∧ (6 ≤ p2 ∨ 6 ≤ p4)) ∧ (r5 = 0 → ¬ (p1 = 0 ∧ (6 ≤ p2 ∨ 6 ≤ p4)))) → (((r5 = (0 : Int)) → (((p1 < (11 : Int)) → (31 ≤ (S 1007 0) ∧ (S 1007 0) ≤ 400 ∧ sm_LN (S 4) 400 (S 1007 0) ∧ (p2 = 6 → 0 ≤ p3 ∧ p3 < 400)) ∧ (∀ r11 : Int, sv_R r11 → ∀ g7 : sv_S, (True) → ((0 ≤ (g7 1113 0) ∧ (g7 1113 0) ≤ 1) → (31 ≤ (S 1007 0) ∧ (S 1007 0) ≤ 400 ∧ sm_LN (S 4) 400 (S 1007 0) ∧ (p4 = 6 → 0 ≤ p5 ∧ p5 < 400)) ∧ (∀ r19 : Int, sv_R r19 → ∀ g15 : sv_S, (True) → ((∀ s21 : Int, sv_R s21 → (s21 = 0 ∨ s21 = 1) → (((p1 < (5 : Int)) → (((s21 = (0 : Int)) → (∀ g23 : sv_S, ((g23 1111 0) = (4 : Int) ∧ (g23 1112 0) = (0 : Int)) → ((p1 = 0 ∧ (6 ≤ p2 ∨ 6 ≤ p4) → 0 ≤ (S 1011 0) ∧ (S 1011 0) ≤ 180) ∧ (¬ (p1 = 0 ∧ (6 ≤ p2 ∨ 6 ≤ p4)) → 2 ≤ (g23 1111 0) ∧ (g23 1111 0) ≤ 5)))) ∧ ((¬ (s21 = (0 : Int))) → (((p1 ≤ (2 : Int)) → (((¬ p1 = (0 : Int)) → (((¬ p1 = (1 : Int)) → (((¬ p1 = (2 : Int)) → (((¬ p1 = (3 : Int)) → (¬ r19 = 0) ∧ (∀ r28 : Int, sv_R r28 → (∀ g30 : sv_S, ((g30 1111 0) = (5 : Int) ∧ (g30 1112 0) = r28) → ((p1 = 0 ∧ (6 ≤ p2 ∨ 6 ≤ p4) → 0 ≤ (S 1011 0) ∧ (S 1011 0) ≤ 180) ∧ (¬ (p1 = 0 ∧ (6 ≤ p2 ∨ 6 ≤ p4)) → 2 ≤ (g30 1111 0) ∧ (g30 1111 0) ≤ 5))))) ∧ ((¬ (¬ p1 = (3 : Int))) → (¬ r19 = 0) ∧ (∀ r35 : Int, sv_R r35 → (∀ g37 : sv_S, ((g37 1111 0) = (5 : Int) ∧ (g37 1112 0) = r35) → ((p1 = 0 ∧ (6 ≤ p2 ∨ 6 ≤ p4) → 0 ≤ (S 1011 0) ∧ (S 1011 0) ≤ 180) ∧ (¬ (p1 = 0 ∧ (6 ≤ p2 ∨ 6 ≤ p4)) → 2 ≤ (g37 1111 0) ∧ (g37 1111 0) ≤ 5))))))) ∧ ((¬ (¬ p1 = (2 : Int))) → (∀ r42 : Int, sv_R r42 → (∀ g43 : sv_S, ((g43 1111 0) = (5 : Int) ∧ (g43 1112 0) = r42) → ((p1 = 0 ∧ (6 ≤ p2 ∨ 6 ≤ p4) → 0 ≤ (S 1011 0) ∧ (S 1011 0) ≤ 180) ∧ (¬ (p1 = 0 ∧ (6 ≤ p2 ∨ 6 ≤ p4)) → 2 ≤ (g43 1111 0) ∧ (g43 1111 0) ≤ 5))))))) ∧ ((¬ (¬ p1 = (1 : Int))) → (∀ r48 : Int, sv_R r48 → (∀ g49 : sv_S, ((g49 1111 0) = (5 : Int) ∧ (g49 1112 0) = r48) → ((p1 = 0 ∧ (6 ≤ p2 ∨ 6 ≤ p4) → 0 ≤ (S 1011 0) ∧ (S 1011 0) ≤ 180) ∧ (¬ (p1 = 0 ∧ (6 ≤ p2 ∨ 6 ≤ p4)) → 2 ≤ (g49 1111 0) ∧ (g49 1111 0) ≤ 5))))))) ∧ ((¬ (¬ p1 = (0 : Int))) → (∀ r54 : Int, sv_R r54 → (∀ g55 : sv_S, ((g55 1111 0) = (5 : Int) ∧ (g55 1112 0) = r54) → ((p1 = 0 ∧ (6 ≤ p2 ∨ 6 ≤ p4) → 0 ≤ (S 1011 0) ∧ (S 1011 0) ≤ 180) ∧ (¬ (p1 = 0 ∧ (6 ≤ p2 ∨ 6 ≤ p4)) → 2 ≤ (g55 1111 0) ∧ (g55 1111 0) ≤ 5))))))) ∧ ((¬ (p1 ≤ (2 : Int))) → (((¬ r19 = (0 : Int)) → (((¬ p1 = (0 : Int)) → (((¬ p1 = (1 : Int)) → (((¬ p1 = (2 : Int)) → (((¬ p1 = (3 : Int)) → (¬ r19 = 0) ∧ (∀ r60 : Int, sv_R r60 → (∀ g62 : sv_S, ((g62 1111 0) = (5 : Int) ∧ (g62 1112 0) = r60) → ((p1 = 0 ∧ (6 ≤ p2 ∨ 6 ≤ p4) → 0 ≤ (S 1011 0) ∧ (S 1011 0) ≤ 180) ∧ (¬ (p1 = 0 ∧ (6 ≤ p2 ∨ 6 ≤ p4)) → 2 ≤ (g62 1111 0) ∧ (g62 1111 0) ≤ 5))))) ∧ ((¬ (¬ p1 = (3 : Int))) → (¬ r19 = 0) ∧ (∀ r67 : Int, sv_R r67 → (∀ g69 : sv_S, ((g69 1111 0) = (5 : Int) ∧ (g69 1112 0) = r67) → ((p1 = 0 ∧ (6 ≤ p2 ∨ 6 ≤ p4) → 0 ≤ (S 1011 0) ∧ (S 1011 0) ≤ 180) ∧ (¬ (p1 = 0 ∧ (6 ≤ p2 ∨ 6 ≤ p4)) → 2 ≤ (g69 1111 0) ∧ (g69 1111 0) ≤ 5))))))) ∧ ((¬ (¬ p1 = (2 : Int))) → (∀ r74 : Int, sv_R r74 → (∀ g75 : sv_S, ((g75 1111 0) = (5 : Int) ∧ (g75 1112 0) = r74) → ((p1 = 0 ∧ (6 ≤ p2 ∨ 6 ≤ p4) → 0 ≤ (S 1011 0) ∧ (S 1011 0) ≤ 180) ∧ (¬ (p1 = 0 ∧ (6 ≤ p2 ∨ 6 ≤ p4)) → 2 ≤ (g75 1111 0) ∧ (g75 1111 0) ≤ 5))))))) ∧ ((¬ (¬ p1 = (1 : Int))) → (∀ r80 : Int, sv_R r80 → (∀ g81 : sv_S, ((g81 1111 0) = (5 : Int) ∧ (g81 1112 0) = r80) → ((p1 = 0 ∧ (6 ≤ p2 ∨ 6 ≤ p4) → 0 ≤ (S 1011 0) ∧ (S 1011 0) ≤ 180) ∧ (¬ (p1 = 0 ∧ (6 ≤ p2 ∨ 6 ≤ p4)) → 2 ≤ (g81 1111 0) ∧ (g81 1111 0) ≤ 5))))))) ∧ ((¬ (¬ p1 = (0 : Int))) → (∀ r86 : Int, sv_R r86 → (∀ g87 : sv_S, ((g87 1111 0) = (5 : Int) ∧ (g87 1112 0) = r86) → ((p1 = 0 ∧ (6 ≤ p2 ∨ 6 ≤ p4) → 0 ≤ (S 1011 0) ∧ (S 1011 0) ≤ 180) ∧ (¬ (p1 = 0 ∧ (6 ≤ p2 ∨ 6 ≤ p4)) → 2 ≤ (g87 1111 0) ∧ (g87 1111 0) ≤ 5))))))) ∧ ((¬ (¬ r19 = (0 : Int))) → (∀ g92 : sv_S, ((g92 1111 0) = (4 : Int) ∧ (g92 1112 0) = (0 : Int)) → ((p1 = 0 ∧ (6 ≤ p2 ∨ 6 ≤ p4) → 0 ≤ (S 1011 0) ∧ (S 1011 0) ≤ 180) ∧ (¬ (p1 = 0 ∧ (6 ≤ p2 ∨ 6 ≤ p4)) → 2 ≤ (g92 1111 0) ∧ (g92 1111 0) ≤ 5)))))))))) ∧ ((¬ (p1 < (5 : Int))) → ((((g7 1113 0) = (0 : Int)) → ((0 ≤ (g15 1113 0) ∧ (g15 1113 0) ≤ 1) → ((((g15 1113 0) = (0 : Int)) → (∀ r102 : Int, sv_R r102 → (True) → (∀ g103 : sv_S, ((g103 1111 0) = (5 : Int) ∧ (g103 1112 0) = r102) → ((p1 = 0 ∧ (6 ≤ p2 ∨ 6 ≤ p4) → 0 ≤ (S 1011 0) ∧ (S 1011 0) ≤ 180) ∧ (¬ (p1 = 0 ∧ (6 ≤ p2 ∨ 6 ≤ p4)) → 2 ≤ (g103 1111 0) ∧ (g103 1111 0) ≤ 5))))) ∧ ((¬ ((g15 1113 0) = (0 : Int))) → (∀ r112 : Int, sv_R r112 → (True) → (∀ g113 : sv_S, ((g113 1111 0) = (5 : Int) ∧ (g113 1112 0) = r112) → ((p1 = 0 ∧ (6 ≤ p2 ∨ 6 ≤ p4) → 0 ≤ (S 1011 0) ∧ (S 1011 0) ≤ 180) ∧ (¬ (p1 = 0 ∧ (6 ≤ p2 ∨ 6 ≤ p4)) → 2 ≤ (g113 1111 0) ∧ (g113 1111 0) ≤ 5)))))))) ∧ ((¬ ((g7 1113 0) = (0 : Int))) → ((0 ≤ (g15 1113 0) ∧ (g15 1113 0) ≤ 1) → ((((g15 1113 0) = (0 : Int)) → (∀ r123 : Int, sv_R r123 → (True) → (∀ g124 : sv_S, ((g124 1111 0) = (5 : Int) ∧ (g124 1112 0) = r123) → ((p1 = 0 ∧ (6 ≤ p2 ∨ 6 ≤ p4) → 0 ≤ (S 1011 0) ∧ (S 1011 0) ≤ 180) ∧ (¬ (p1 = 0 ∧ (6 ≤ p2 ∨ 6 ≤ p4)) → 2 ≤ (g124 1111 0) ∧ (g124 1111 0) ≤ 5))))) ∧ ((¬ ((g15 1113 0) = (0 : Int))) → (∀ r133 : Int, sv_R r133 → (True) → (∀ g134 : sv_S, ((g134 1111 0) = (5 : Int) ∧ (g134 1112 0) = r133) → ((p1 = 0 ∧ (6 ≤ p2 ∨ 6 ≤ p4) → 0 ≤ (S 1011 0) ∧ (S 1011 0) ≤ 180) ∧ (¬ (p1 = 0 ∧ (6 ≤ p2 ∨ 6 ≤ p4)) → 2 ≤ (g134 1111 0) ∧ (g134 1111 0) ≤ 5)))))))))))) ∧ ((((g7 1113 0) = (0 : Int)) → ((0 : Int) = 0 ∨ (0 : Int) = 1)) ∧ ((¬ ((g7 1113 0) = (0 : Int))) → ((0 ≤ (g15 1113 0) ∧ (g15 1113 0) ≤ 1) → ((((g15 1113 0) = (0 : Int)) → ((0 : Int) = 0 ∨ (0 : Int) = 1)) ∧ ((¬ ((g15 1113 0) = (0 : Int))) → ((1 : Int) = 0 ∨ (1 : Int) = 1))))))))))) ∧ ((¬ (p1 < (11 : Int))) → ((((13 : Int) ≤ p1) → ((((15 : Int) ≤ p1) → (31 ≤ (S 1007 0) ∧ (S 1007 0) ≤ 400 ∧ sm_LN (S 4) 400 (S 1007 0) ∧ (p2 = 6 → 0 ≤ p3 ∧ p3 < 400) ∧ (p4 = 6 → 0 ≤ p5 ∧ p5 < 400)) ∧ (∀ r146 : Int, sv_R r146 → ∀ g142 : sv_S, (r146 = 0 ∨ r146 = 1) → (0 ≤ r146 ∧ r146 ≤ 1) ∧ (∀ g149 : sv_S, (((g149 1111 0) = 2 ∨ (g149 1111 0) = 3) ∧ (g149 1112 0) = 0) → ((p1 = 0 ∧ (6 ≤ p2 ∨ 6 ≤ p4) → 0 ≤ (S 1011 0) ∧ (S 1011 0) ≤ 180) ∧ (¬ (p1 = 0 ∧ (6 ≤ p2 ∨ 6 ≤ p4)) → 2 ≤ (g149 1111 0) ∧ (g149 1111 0) ≤ 5))))) ∧ ((¬ ((15 : Int) ≤ p1)) → (∀ r158 : Int, sv_R r158 → (r158 = 0 ∨ r158 = 1) → (((¬ p1 = (13 : Int)) → (((¬ r158 = (0 : Int)) → (∀ g159 : sv_S, (((g159 1111 0) = 2 ∨ (g159 1111 0) = 3) ∧ (g159 1112 0) = 0) → ((p1 = 0 ∧ (6 ≤ p2 ∨ 6 ≤ p4) → 0 ≤ (S 1011 0) ∧ (S 1011 0) ≤ 180) ∧ (¬ (p1 = 0 ∧ (6 ≤ p2 ∨ 6 ≤ p4)) → 2 ≤ (g159 1111 0) ∧ (g159 1111 0) ≤ 5)))) ∧ ((¬ (¬ r158 = (0 : Int))) → (∀ g164 : sv_S, (((g164 1111 0) = 2 ∨ (g164 1111 0) = 3) ∧ (g164 1112 0) = 0) → ((p1 = 0 ∧ (6 ≤ p2 ∨ 6 ≤ p4) → 0 ≤ (S 1011 0) ∧ (S 1011 0) ≤ 180) ∧ (¬ (p1 = 0 ∧ (6 ≤ p2 ∨ 6 ≤ p4)) → 2 ≤ (g164 1111 0) ∧ (g164 1111 0) ≤ 5)))))) ∧ ((¬ (¬ p1 = (13 : Int))) → (((¬ r158 = (1 : Int)) → (∀ g169 : sv_S, (((g169 1111 0) = 2 ∨ (g169 1111 0) = 3) ∧ (g169 1112 0) = 0) → ((p1 = 0 ∧ (6 ≤ p2 ∨ 6 ≤ p4) → 0 ≤ (S 1011 0) ∧ (S 1011 0) ≤ 180) ∧ (¬ (p1 = 0 ∧ (6 ≤ p2 ∨ 6 ≤ p4)) → 2 ≤ (g169 1111 0) ∧ (g169 1111 0) ≤ 5)))) ∧ ((¬ (¬ r158 = (1 : Int))) → (∀ g174 : sv_S, (((g174 1111 0) = 2 ∨ (g174 1111 0) = 3) ∧ (g174 1112 0) = 0) → ((p1 = 0 ∧ (6 ≤ p2 ∨ 6 ≤ p4) → 0 ≤ (S 1011 0) ∧ (S 1011 0) ≤ 180) ∧ (¬ (p1 = 0 ∧ (6 ≤ p2 ∨ 6 ≤ p4)) → 2 ≤ (g174 1111 0) ∧ (g174 1111 0) ≤ 5))))))))))) ∧ ((¬ ((13 : Int) ≤ p1)) → (31 ≤ (S 1007 0) ∧ (S 1007 0) ≤ 400 ∧ sm_LN (S 4) 400 (S 1007 0) ∧ (p2 = 6 → 0 ≤ p3 ∧ p3 < 400) ∧ (p4 = 6 → 0 ≤ p5 ∧ p5 < 400)) ∧ (∀ r184 : Int, sv_R r184 → ∀ g180 : sv_S, (r184 = 0 ∨ r184 = 1) → (((¬ p1 = (11 : Int)) → (((¬ r184 = (0 : Int)) → (∀ g186 : sv_S, (((g186 1111 0) = 2 ∨ (g186 1111 0) = 3) ∧ (g186 1112 0) = 0) → ((p1 = 0 ∧ (6 ≤ p2 ∨ 6 ≤ p4) → 0 ≤ (S 1011 0) ∧ (S 1011 0) ≤ 180) ∧ (¬ (p1 = 0 ∧ (6 ≤ p2 ∨ 6 ≤ p4)) → 2 ≤ (g186 1111 0) ∧ (g186 1111 0) ≤ 5)))) ∧ ((¬ (¬ r184 = (0 : Int))) → (∀ g191 : sv_S, (((g191 1111 0) = 2 ∨ (g191 1111 0) = 3) ∧ (g191 1112 0) = 0) → ((p1 = 0 ∧ (6 ≤ p2 ∨ 6 ≤ p4) → 0 ≤ (S 1011 0) ∧ (S 1011 0) ≤ 180) ∧ (¬ (p1 = 0 ∧ (6 ≤ p2 ∨ 6 ≤ p4)) → 2 ≤ (g191 1111 0) ∧ (g191 1111 0) ≤ 5)))))) ∧ ((¬ (¬ p1 = (11 : Int))) → (((¬ r184 = (1 : Int)) → (∀ g196 : sv_S, (((g196 1111 0) = 2 ∨ (g196 1111 0) = 3) ∧ (g196 1112 0) = 0) → ((p1 = 0 ∧ (6 ≤ p2 ∨ 6 ≤ p4) → 0 ≤ (S 1011 0) ∧ (S 1011 0) ≤ 180) ∧ (¬ (p1 = 0 ∧ (6 ≤ p2 ∨ 6 ≤ p4)) → 2 ≤ (g196 1111 0) ∧ (g196 1111 0) ≤ 5)))) ∧ ((¬ (¬ r184 = (1 : Int))) → (∀ g201 : sv_S, (((g201 1111 0) = 2 ∨ (g201 1111 0) = 3) ∧ (g201 1112 0) = 0) → ((p1 = 0 ∧ (6 ≤ p2 ∨ 6 ≤ p4) → 0 ≤ (S 1011 0) ∧ (S 1011 0) ≤ 180) ∧ (¬ (p1 = 0 ∧ (6 ≤ p2 ∨ 6 ≤ p4)) → 2 ≤ (g201 1111 0) ∧ (g201 1111 0) ≤ 5))))))))))))) ∧ ((¬ (r5 = (0 : Int))) → (31 ≤ (S 1007 0) ∧ (S 1007 0) ≤ 400 ∧ sm_LN (S 4) 400 (S 1007 0) ∧ (p2 = 6 → 0 ≤ p3 ∧ p3 < 400) ∧ 0 ≤ (0 : Int) ∧ (0 : Int) ≤ 100) ∧ (∀ g209 : sv_S, ((0 : Int) ≤ (g209 1011 0) ∧ (g209 1011 0) ≤ (0 : Int) + 90 ∧ (p2 = 5 → 0 ≤ p3 → p3 ≤ 100 → (g209 1011 0) ≤ (0 : Int) + 3)) → (31 ≤ (S 1007 0) ∧ (S 1007 0) ≤ 400 ∧ sm_LN (S 4) 400 (S 1007 0) ∧ (p4 = 6 → 0 ≤ p5 ∧ p5 < 400) ∧ 0 ≤ (g209 1011 0) ∧ (g209 1011 0) ≤ 100) ∧ (∀ g215 : sv_S, ((g209 1011 0) ≤ (g215 1011 0) ∧ (g215 1011 0) ≤ (g209 1011 0) + 90 ∧ (p4 = 5 → 0 ≤ p5 → p5 ≤ 100 → (g215 1011 0) ≤ (g209 1011 0) + 3)) → ((p1 = 0 ∧ (6 ≤ p2 ∨ 6 ≤ p4) → 0 ≤ (g215 1011 0) ∧ (g215 1011 0) ≤ 180) ∧ (¬ (p1 = 0 ∧ (6 ≤ p2 ∨ 6 ≤ p4)) → 2 ≤ (S 1111 0) ∧ (S 1111 0) ≤ 5))))))) := by
  intro p1
  intro p2
  intro p3
  intro p4
  intro p5
  intro S
  intro h1_
  intro h2_
  intro h3_
  intro h4_
  intro h5_
  intro h6_
  rintro ⟨h7_, ⟨h8_, ⟨h9_, ⟨h10_, ⟨h11_, ⟨h12_, h13_⟩⟩⟩⟩⟩⟩
  intro r5
  intro h14_
  rintro ⟨h15_, ⟨h16_, h17_⟩⟩
  refine ⟨?_, ?_⟩
  · skip
    intro h18_
    have h19_ := (h15_.resolve_right (la_binaryOf__0 h18_))
    have h20_ := (h17_ h18_)
    refine ⟨?_, ?_⟩
    · skip
      intro h21_
      refine ⟨⟨h7_, ⟨h8_, ⟨h9_, h12_⟩⟩⟩, ?_⟩
      intro r11
      intro h22_
      intro g7
      intro _
      rintro ⟨h23_, h24_⟩
      refine ⟨⟨h7_, ⟨h8_, ⟨h9_, h13_⟩⟩⟩, ?_⟩
      intro r19
      intro h25_
      intro g15
      intro _
      refine ⟨?_, ?_⟩
      · skip
        intro s21
        intro h26_
        intro h27_
        refine ⟨?_, ?_⟩
        · skip
          intro h28_
          refine ⟨?_, ?_⟩
          · skip
            intro h29_
            have h30_ := (h27_.resolve_right (la_binaryOf__0 h29_))
            intro g23
            rintro ⟨h31_, h32_⟩
            refine ⟨(la_binaryOf__1 h20_), ?_⟩
            intro h33_
            refine ⟨(la_binaryOf__2 h31_), ?_⟩
            exact (la_binaryOf__3 h31_)
          intro h34_
          have h35_ := (h27_.resolve_left h34_)
          refine ⟨?_, ?_⟩
          · skip
            intro h36_
            refine ⟨?_, ?_⟩
            · skip
              intro h37_
              refine ⟨?_, ?_⟩
              · skip
                intro h38_
                refine ⟨?_, ?_⟩
                · skip
                  intro h39_
                  refine ⟨?_, ?_⟩
                  · skip
                    intro h40_
                    refine ⟨?_, ?_⟩
                    · skip
                      exact ((la_binaryOf__11 (la_binaryOf__7 (la_binaryOf__6 (la_binaryOf__5 h10_ h37_)) h38_) (la_binaryOf__8 h36_ h39_))).elim
                    intro r28
                    intro h41_
                    intro g30
                    rintro ⟨h42_, h43_⟩
                    refine ⟨(la_binaryOf__12 (la_binaryOf__7 (la_binaryOf__6 (la_binaryOf__5 h10_ h37_)) h38_)), ?_⟩
                    intro h44_
                    refine ⟨(la_binaryOf__13 h42_), ?_⟩
                    exact (la_binaryOf__14 h42_)
                  intro h45_
                  refine ⟨?_, ?_⟩
                  · skip
                    exact ((la_binaryOf__15 (la_binaryOf__8 h36_ h39_) h45_)).elim
                  intro r35
                  intro h46_
                  intro g37
                  rintro ⟨h47_, h48_⟩
                  refine ⟨(la_binaryOf__16 h45_), ?_⟩
                  intro h49_
                  refine ⟨(la_binaryOf__13 h47_), ?_⟩
                  exact (la_binaryOf__14 h47_)
                intro h50_
                intro r42
                intro h51_
                intro g43
                rintro ⟨h52_, h53_⟩
                refine ⟨(la_binaryOf__12 (la_binaryOf__7 (la_binaryOf__6 (la_binaryOf__5 h10_ h37_)) h38_)), ?_⟩
                intro h54_
                refine ⟨(la_binaryOf__13 h52_), ?_⟩
                exact (la_binaryOf__14 h52_)
              intro h55_
              intro r48
              intro h56_
              intro g49
              rintro ⟨h57_, h58_⟩
              refine ⟨(la_binaryOf__17 (la_binaryOf__5 h10_ h37_)), ?_⟩
              intro h59_
              refine ⟨(la_binaryOf__13 h57_), ?_⟩
              exact (la_binaryOf__14 h57_)
            intro h60_
            have h61_ : ¬ (6 ≤ p2 ∨ 6 ≤ p4) := fun q_ => h20_ ⟨(la_binaryOf__18 h10_ h60_), q_⟩
            intro r54
            intro h62_
            intro g55
            rintro ⟨h63_, h64_⟩
            refine ⟨(la_binaryOf__19 h61_), ?_⟩
            intro h65_
            refine ⟨(la_binaryOf__13 h63_), ?_⟩
            exact (la_binaryOf__14 h63_)
          intro h66_
          refine ⟨?_, ?_⟩
          · skip
            intro h67_
            refine ⟨?_, ?_⟩
            · skip
              intro h68_
              refine ⟨?_, ?_⟩
              · skip
                intro h69_
                refine ⟨?_, ?_⟩
                · skip
                  intro h70_
                  refine ⟨?_, ?_⟩
                  · skip
                    intro h71_
                    refine ⟨h67_, ?_⟩
                    intro r60
                    intro h72_
                    intro g62
                    rintro ⟨h73_, h74_⟩
                    refine ⟨(la_binaryOf__26 (la_binaryOf__25 (la_binaryOf__24 h66_) h71_)), ?_⟩
                    intro h75_
                    refine ⟨(la_binaryOf__13 h73_), ?_⟩
                    exact (la_binaryOf__14 h73_)
                  intro h76_
                  refine ⟨h67_, ?_⟩
                  intro r67
                  intro h77_
                  intro g69
                  rintro ⟨h78_, h79_⟩
                  refine ⟨(la_binaryOf__27 h66_), ?_⟩
                  intro h80_
                  refine ⟨(la_binaryOf__13 h78_), ?_⟩
                  exact (la_binaryOf__14 h78_)
                intro h81_
                intro r74
                intro h82_
                intro g75
                rintro ⟨h83_, h84_⟩
                refine ⟨(la_binaryOf__27 h66_), ?_⟩
                intro h85_
                refine ⟨(la_binaryOf__13 h83_), ?_⟩
                exact (la_binaryOf__14 h83_)
              intro h86_
              intro r80
              intro h87_
              intro g81
              rintro ⟨h88_, h89_⟩
              refine ⟨(la_binaryOf__27 h66_), ?_⟩
              intro h90_
              refine ⟨(la_binaryOf__13 h88_), ?_⟩
              exact (la_binaryOf__14 h88_)
            intro h91_
            intro r86
            intro h92_
            intro g87
            rintro ⟨h93_, h94_⟩
            refine ⟨(la_binaryOf__27 h66_), ?_⟩
            intro h95_
            refine ⟨(la_binaryOf__13 h93_), ?_⟩
            exact (la_binaryOf__14 h93_)
          intro h96_
          intro g92
          rintro ⟨h97_, h98_⟩
          refine ⟨(la_binaryOf__27 h66_), ?_⟩
          intro h99_
          refine ⟨(la_binaryOf__2 h97_), ?_⟩
          exact (la_binaryOf__3 h97_)
        intro h100_
        refine ⟨?_, ?_⟩
        · skip
          intro h101_
          rintro ⟨h102_, h103_⟩
          refine ⟨?_, ?_⟩
          · skip
            intro h104_
            intro r102
            intro h105_
            intro _
            intro g103
            rintro ⟨h106_, h107_⟩
            refine ⟨(la_binaryOf__29 h100_), ?_⟩
            intro h108_
            refine ⟨(la_binaryOf__13 h106_), ?_⟩
            exact (la_binaryOf__14 h106_)
          intro h109_
          intro r112
          intro h110_
          intro _
          intro g113
          rintro ⟨h111_, h112_⟩
          refine ⟨(la_binaryOf__29 h100_), ?_⟩
          intro h113_
          refine ⟨(la_binaryOf__13 h111_), ?_⟩
          exact (la_binaryOf__14 h111_)
        intro h114_
        rintro ⟨h115_, h116_⟩
        refine ⟨?_, ?_⟩
        · skip
          intro h117_
          intro r123
          intro h118_
          intro _
          intro g124
          rintro ⟨h119_, h120_⟩
          refine ⟨(la_binaryOf__29 h100_), ?_⟩
          intro h121_
          refine ⟨(la_binaryOf__13 h119_), ?_⟩
          exact (la_binaryOf__14 h119_)
        intro h122_
        intro r133
        intro h123_
        intro _
        intro g134
        rintro ⟨h124_, h125_⟩
        refine ⟨(la_binaryOf__29 h100_), ?_⟩
        intro h126_
        refine ⟨(la_binaryOf__13 h124_), ?_⟩
        exact (la_binaryOf__14 h124_)
      refine ⟨la_binaryOf__30, ?_⟩
      intro h127_
      rintro ⟨h128_, h129_⟩
      refine ⟨la_binaryOf__30, ?_⟩
      intro h130_
      exact la_binaryOf__31
    intro h131_
    refine ⟨?_, ?_⟩
    · skip
      intro h132_
      refine ⟨?_, ?_⟩
      · skip
        intro h133_
        refine ⟨⟨h7_, ⟨h8_, ⟨h9_, ⟨h12_, h13_⟩⟩⟩⟩, ?_⟩
        intro r146
        intro h134_
        intro g142
        intro h135_
        refine ⟨?_, ?_⟩
        · skip
          refine ⟨?_, ?_⟩
          · skip
            exact (la_binaryOf__33 h135_)
          exact (la_binaryOf__34 h135_)
        intro g149
        rintro ⟨h136_, h137_⟩
        refine ⟨(la_binaryOf__35 h133_), ?_⟩
        intro h138_
        refine ⟨?_, ?_⟩
        · skip
          exact (la_binaryOf__36 h136_)
        exact (la_binaryOf__37 h136_)
      intro h139_
      intro r158
      intro h140_
      intro h141_
      refine ⟨?_, ?_⟩
      · skip
        intro h142_
        refine ⟨?_, ?_⟩
        · skip
          intro h143_
          have h144_ := (h141_.resolve_left h143_)
          intro g159
          rintro ⟨h145_, h146_⟩
          refine ⟨(la_binaryOf__39 (la_binaryOf__38 h132_ h142_)), ?_⟩
          intro h147_
          refine ⟨?_, ?_⟩
          · skip
            exact (la_binaryOf__36 h145_)
          exact (la_binaryOf__37 h145_)
        intro h148_
        have h149_ := (h141_.resolve_right (la_binaryOf__40 h148_))
        intro g164
        rintro ⟨h150_, h151_⟩
        refine ⟨(la_binaryOf__39 (la_binaryOf__38 h132_ h142_)), ?_⟩
        intro h152_
        refine ⟨?_, ?_⟩
        · skip
          exact (la_binaryOf__36 h150_)
        exact (la_binaryOf__37 h150_)
      intro h153_
      refine ⟨?_, ?_⟩
      · skip
        intro h154_
        have h155_ := (h141_.resolve_right h154_)
        intro g169
        rintro ⟨h156_, h157_⟩
        refine ⟨(la_binaryOf__43 h132_), ?_⟩
        intro h158_
        refine ⟨?_, ?_⟩
        · skip
          exact (la_binaryOf__36 h156_)
        exact (la_binaryOf__37 h156_)
      intro h159_
      have h160_ := (h141_.resolve_left (la_binaryOf__44 h159_))
      intro g174
      rintro ⟨h161_, h162_⟩
      refine ⟨(la_binaryOf__43 h132_), ?_⟩
      intro h163_
      refine ⟨?_, ?_⟩
      · skip
        exact (la_binaryOf__36 h161_)
      exact (la_binaryOf__37 h161_)
    intro h164_
    refine ⟨⟨h7_, ⟨h8_, ⟨h9_, ⟨h12_, h13_⟩⟩⟩⟩, ?_⟩
    intro r184
    intro h165_
    intro g180
    intro h166_
    refine ⟨?_, ?_⟩
    · skip
      intro h167_
      refine ⟨?_, ?_⟩
      · skip
        intro h168_
        have h169_ := (h166_.resolve_left h168_)
        intro g186
        rintro ⟨h170_, h171_⟩
        refine ⟨(la_binaryOf__47 (la_binaryOf__46 (la_binaryOf__45 h131_) h167_)), ?_⟩
        intro h172_
        refine ⟨?_, ?_⟩
        · skip
          exact (la_binaryOf__36 h170_)
        exact (la_binaryOf__37 h170_)
      intro h173_
      have h174_ := (h166_.resolve_right (la_binaryOf__40 h173_))
      intro g191
      rintro ⟨h175_, h176_⟩
      refine ⟨(la_binaryOf__47 (la_binaryOf__46 (la_binaryOf__45 h131_) h167_)), ?_⟩
      intro h177_
      refine ⟨?_, ?_⟩
      · skip
        exact (la_binaryOf__36 h175_)
      exact (la_binaryOf__37 h175_)
    intro h178_
    refine ⟨?_, ?_⟩
    · skip
      intro h179_
      have h180_ := (h166_.resolve_right h179_)
      intro g196
      rintro ⟨h181_, h182_⟩
      refine ⟨(la_binaryOf__48 h131_ h178_), ?_⟩
      intro h183_
      refine ⟨?_, ?_⟩
      · skip
        exact (la_binaryOf__36 h181_)
      exact (la_binaryOf__37 h181_)
    intro h184_
    have h185_ := (h166_.resolve_left (la_binaryOf__44 h184_))
    intro g201
    rintro ⟨h186_, h187_⟩
    refine ⟨(la_binaryOf__48 h131_ h178_), ?_⟩
    intro h188_
    refine ⟨?_, ?_⟩
    · skip
      exact (la_binaryOf__36 h186_)
    exact (la_binaryOf__37 h186_)
  intro h189_
  have h190_ := (h15_.resolve_left h189_)
  obtain ⟨h191_, h192_⟩ := (h16_ h190_)
  refine ⟨⟨h7_, ⟨h8_, ⟨h9_, ⟨h12_, la_binaryOf__49⟩⟩⟩⟩, ?_⟩
  intro g209
  rintro ⟨h193_, ⟨h194_, h195_⟩⟩
  refine ⟨⟨h7_, ⟨h8_, ⟨h9_, ⟨h13_, (la_binaryOf__50 h193_ h194_)⟩⟩⟩⟩, ?_⟩
  intro g215
  rintro ⟨h196_, ⟨h197_, h198_⟩⟩
  refine ⟨(la_binaryOf__51 h193_ h194_ h196_ h197_), ?_⟩
  intro h199_
  have h200_ : ¬ (6 ≤ p2 ∨ 6 ≤ p4) := fun q_ => h199_ ⟨h191_, q_⟩
  refine ⟨?_, ?_⟩
  · skip
    exact ((la_binaryOf__52 h192_ h200_)).elim
  exact ((la_binaryOf__52 h192_ h200_)).elim
set_option maxRecDepth 8000 in
set_option maxHeartbeats 2000000 in
theorem t_binaryOf_ : ∀ (p1 : Int) (p2 : Int) (p3 : Int) (p4 : Int) (p5 : Int) (S : sv_S), sm_ok S → sv_R p1 → sv_R p2 → sv_R p3 → sv_R p4 → sv_R p5 → (31 ≤ (S 1007 0) ∧ (S 1007 0) ≤ 400 ∧ sm_LN (S 4) 400 (S 1007 0) ∧ 0 ≤ p1 ∧ p1 ≤ 18 ∧ (p2 = 6 → 0 ≤ p3 ∧ p3 < 400) ∧ (p4 = 6 → 0 ≤ p5 ∧ p5 < 400)) → sv_T sm_XS sm_cs sm_L sm_sh 4 (q_binaryOf_ p1 p2 p3 p4 p5 S) 137 0 (lv_args 0 [.ref 0, sv_I p1, sv_I p2, sv_I p3, sv_I p4, sv_I p5]) [] S := by
  intro p1 p2 p3 p4 p5 S hok hp1 hp2 hp3 hp4 hp5 hpre
  have h := f_binaryOf_ p1 p2 p3 p4 p5 S hok hp1 hp2 hp3 hp4 hp5 hpre
  have hM := sm_h137
  show sv_T sm_XS sm_cs sm_L sm_sh 4 (q_binaryOf_ p1 p2 p3 p4 p5 S) 137 0 [(0, .ref 0), (1, sv_I p1), (2, sv_I p2), (3, sv_I p3), (4, sv_I p4), (5, sv_I p5)] [] S
  refine sv_aload_n hM dX12_binaryOf__0 rfl rfl ?_
  refine sv_iload_n hM dX12_binaryOf__1 rfl rfl ?_
  refine sv_iload_n hM dX12_binaryOf__2 rfl rfl ?_
  refine sv_iload hM dX12_binaryOf__3 rfl rfl ?_
  refine sv_callV hM dX12_binaryOf__5 sm_iv_830 (by decide) (sm_a0 _) rfl rfl (Nat.le_of_ble_eq_true rfl) sm_h136 (Nat.le_of_ble_eq_true rfl) (Nat.le_of_ble_eq_true rfl) (F' := 0) (Nat.le_of_ble_eq_true rfl) rfl (t_joinsTexts p1 p2 p4 S hok hp1 hp2 hp4) (fun v S1 hq => ?_)
  obtain ⟨r5, rfl, hr5, ok2, md3, hpo4⟩ := hq
  obtain rfl : S = S1 := (funext fun j => md3 j (by intro q; cases q)).symm
  show sv_T sm_XS sm_cs sm_L sm_sh 4 (q_binaryOf_ p1 p2 p3 p4 p5 S) 137 8 [(0, .ref 0), (1, sv_I p1), (2, sv_I p2), (3, sv_I p3), (4, sv_I p4), (5, sv_I p5)] [sv_I r5] S
  have h := h r5 hr5 hpo4
  refine sv_cond_eq hM dX12_binaryOf__8 hr5 (t := 31) rfl rfl (fun hc => ?_) (fun hc => ?_)
  · have h := h.1 (hc)
    refine sv_iload_n hM dX12_binaryOf__31 rfl rfl ?_
    refine sv_bipush (d := (11 : Int)) hM dX12_binaryOf__32 rfl rfl ?_
    refine sv_icmp_lt hM dX12_binaryOf__34 hp1 (⟨by decide, by decide⟩ : sv_R (11 : Int)) (t := 136) rfl rfl (fun hc => ?_) (fun hc => ?_)
    · have h := h.1 (hc)
      refine sv_aload_n hM dX12_binaryOf__136 rfl rfl ?_
      refine sv_iload_n hM dX12_binaryOf__137 rfl rfl ?_
      refine sv_iload_n hM dX12_binaryOf__138 rfl rfl ?_
      obtain ⟨o6, h⟩ := h
      refine sv_callV hM dX12_binaryOf__139 sm_iv_816 (by decide) (sm_a0 _) rfl rfl (Nat.le_of_ble_eq_true rfl) sm_h127 (Nat.le_of_ble_eq_true rfl) (Nat.le_of_ble_eq_true rfl) (F' := 2) (Nat.le_of_ble_eq_true rfl) rfl (t_numberOf p2 p3 S ok2 hp2 hp3 o6) (fun v S1 hq => ?_)
      obtain ⟨r11, rfl, hr11, ok8, md9, hpo10⟩ := hq
      obtain ⟨g7, rfl⟩ : ∃ g, S1 = sv_sts S [1113] g := ⟨_, md9.eq⟩
      show sv_T sm_XS sm_cs sm_L sm_sh 4 (q_binaryOf_ p1 p2 p3 p4 p5 S) 137 142 [(0, .ref 0), (1, sv_I p1), (2, sv_I p2), (3, sv_I p3), (4, sv_I p4), (5, sv_I p5)] [sv_I r11] (sv_sts S [1113] g7)
      have md12 : sv_mod [5, 1011, 1113, 1111, 1112] S (sv_sts S [1113] g7) := sv_mod.sts sv_mod.rf (by decide)
      have h := h r11 hr11 g7 hpo10
      refine sv_istore hM dX12_binaryOf__142 (by decide) rfl ?_
      show sv_T sm_XS sm_cs sm_L sm_sh 4 (q_binaryOf_ p1 p2 p3 p4 p5 S) 137 144 [(0, .ref 0), (1, sv_I p1), (2, sv_I p2), (3, sv_I p3), (4, sv_I p4), (5, sv_I p5), (6, sv_I r11)] [] (sv_sts S [1113] g7)
      refine sv_aload_n hM dX12_binaryOf__144 rfl rfl ?_
      have k13 : (0 ≤ (g7 1113 0) ∧ (g7 1113 0) ≤ 1) := sm_okZ ok8 sm_r1113 0
      have h := h k13
      refine sv_getI hM dX12_binaryOf__145 sm_fl_806 (sm_a0 _) sm_k113 rfl (x := (g7 1113 0)) rfl ?_
      refine sv_istore hM dX12_binaryOf__148 (by decide) rfl ?_
      show sv_T sm_XS sm_cs sm_L sm_sh 4 (q_binaryOf_ p1 p2 p3 p4 p5 S) 137 150 [(0, .ref 0), (1, sv_I p1), (2, sv_I p2), (3, sv_I p3), (4, sv_I p4), (5, sv_I p5), (6, sv_I r11), (7, sv_I (g7 1113 0))] [] (sv_sts S [1113] g7)
      refine sv_aload_n hM dX12_binaryOf__150 rfl rfl ?_
      refine sv_iload hM dX12_binaryOf__151 rfl rfl ?_
      refine sv_iload hM dX12_binaryOf__153 rfl rfl ?_
      obtain ⟨o14, h⟩ := h
      refine sv_callV hM dX12_binaryOf__155 sm_iv_816 (by decide) (sm_a0 _) rfl rfl (Nat.le_of_ble_eq_true rfl) sm_h127 (Nat.le_of_ble_eq_true rfl) (Nat.le_of_ble_eq_true rfl) (F' := 2) (Nat.le_of_ble_eq_true rfl) rfl (t_numberOf p4 p5 (sv_sts S [1113] g7) ok8 hp4 hp5 o14) (fun v S1 hq => ?_)
      obtain ⟨r19, rfl, hr19, ok16, md17, hpo18⟩ := hq
      obtain ⟨g15, rfl⟩ : ∃ g, S1 = sv_sts (sv_sts S [1113] g7) [1113] g := ⟨_, md17.eq⟩
      show sv_T sm_XS sm_cs sm_L sm_sh 4 (q_binaryOf_ p1 p2 p3 p4 p5 S) 137 158 [(0, .ref 0), (1, sv_I p1), (2, sv_I p2), (3, sv_I p3), (4, sv_I p4), (5, sv_I p5), (6, sv_I r11), (7, sv_I (g7 1113 0))] [sv_I r19] (sv_sts (sv_sts S [1113] g7) [1113] g15)
      have md20 : sv_mod [5, 1011, 1113, 1111, 1112] S (sv_sts (sv_sts S [1113] g7) [1113] g15) := sv_mod.sts md12 (by decide)
      have h := h r19 hr19 g15 hpo18
      refine sv_istore hM dX12_binaryOf__158 (by decide) rfl ?_
      show sv_T sm_XS sm_cs sm_L sm_sh 4 (q_binaryOf_ p1 p2 p3 p4 p5 S) 137 160 [(0, .ref 0), (1, sv_I p1), (2, sv_I p2), (3, sv_I p3), (4, sv_I p4), (5, sv_I p5), (6, sv_I r11), (7, sv_I (g7 1113 0)), (8, sv_I r19)] [] (sv_sts (sv_sts S [1113] g7) [1113] g15)
      have J139 : ∀ s21 : Int, sv_R s21 → (s21 = 0 ∨ s21 = 1) → sv_T sm_XS sm_cs sm_L sm_sh 4 (q_binaryOf_ p1 p2 p3 p4 p5 S) 137 177 [(0, .ref 0), (1, sv_I p1), (2, sv_I p2), (3, sv_I p3), (4, sv_I p4), (5, sv_I p5), (6, sv_I r11), (7, sv_I (g7 1113 0)), (8, sv_I r19)] [sv_I s21] (sv_sts (sv_sts S [1113] g7) [1113] g15) := by
        intro s21 hs21 hin22
        have h := h.1 s21 hs21 hin22
        refine sv_istore hM dX12_binaryOf__177 (by decide) rfl ?_
        show sv_T sm_XS sm_cs sm_L sm_sh 4 (q_binaryOf_ p1 p2 p3 p4 p5 S) 137 179 [(0, .ref 0), (1, sv_I p1), (2, sv_I p2), (3, sv_I p3), (4, sv_I p4), (5, sv_I p5), (6, sv_I r11), (7, sv_I (g7 1113 0)), (8, sv_I r19), (9, sv_I s21)] [] (sv_sts (sv_sts S [1113] g7) [1113] g15)
        refine sv_iload_n hM dX12_binaryOf__179 rfl rfl ?_
        refine sv_iconst (d := (5 : Int)) hM dX12_binaryOf__180 rfl rfl ?_
        refine sv_icmp_lt hM dX12_binaryOf__181 hp1 (⟨by decide, by decide⟩ : sv_R (5 : Int)) (t := 220) rfl rfl (fun hc => ?_) (fun hc => ?_)
        · have h := h.1 (hc)
          refine sv_iload hM dX12_binaryOf__220 rfl rfl ?_
          refine sv_cond_eq hM dX12_binaryOf__222 hs21 (t := 235) rfl rfl (fun hc => ?_) (fun hc => ?_)
          · have h := h.1 (hc)
            refine sv_aload_n hM dX12_binaryOf__235 rfl rfl ?_
            refine sv_iconst (d := (4 : Int)) hM dX12_binaryOf__236 rfl rfl ?_
            refine sv_iconst (d := (0 : Int)) hM dX12_binaryOf__237 rfl rfl ?_
            refine sv_callV hM dX12_binaryOf__238 sm_iv_822 (by decide) (sm_a0 _) rfl rfl (Nat.le_of_ble_eq_true rfl) sm_h122 (Nat.le_of_ble_eq_true rfl) (Nat.le_of_ble_eq_true rfl) (F' := 0) (Nat.le_of_ble_eq_true rfl) rfl (t_give_ (4 : Int) (0 : Int) (sv_sts (sv_sts S [1113] g7) [1113] g15) ok16 (⟨by decide, by decide⟩ : sv_R (4 : Int)) (⟨by decide, by decide⟩ : sv_R (0 : Int))) (fun v S1 hq => ?_)
            obtain ⟨rfl, ok24, md25, hpo26⟩ := hq
            obtain ⟨g23, rfl⟩ : ∃ g, S1 = sv_sts (sv_sts (sv_sts S [1113] g7) [1113] g15) [1111, 1112] g := ⟨_, md25.eq⟩
            show sv_T sm_XS sm_cs sm_L sm_sh 4 (q_binaryOf_ p1 p2 p3 p4 p5 S) 137 241 [(0, .ref 0), (1, sv_I p1), (2, sv_I p2), (3, sv_I p3), (4, sv_I p4), (5, sv_I p5), (6, sv_I r11), (7, sv_I (g7 1113 0)), (8, sv_I r19), (9, sv_I s21)] [] (sv_sts (sv_sts (sv_sts S [1113] g7) [1113] g15) [1111, 1112] g23)
            have md27 : sv_mod [5, 1011, 1113, 1111, 1112] S (sv_sts (sv_sts (sv_sts S [1113] g7) [1113] g15) [1111, 1112] g23) := sv_mod.sts md20 (by decide)
            have h := h g23 hpo26
            refine sv_goto hM dX12_binaryOf__241 (pc' := 305) rfl ?_
            exact sv_vret hM dX12_binaryOf__305 rfl ⟨rfl, ok24, md27, h⟩
          · have h := h.2 (hc)
            refine sv_iload_n hM dX12_binaryOf__225 rfl rfl ?_
            refine sv_iconst (d := (2 : Int)) hM dX12_binaryOf__226 rfl rfl ?_
            refine sv_icmp_le hM dX12_binaryOf__227 hp1 (⟨by decide, by decide⟩ : sv_R (2 : Int)) (t := 244) rfl rfl (fun hc => ?_) (fun hc => ?_)
            · have h := h.1 (hc)
              refine sv_aload_n hM dX12_binaryOf__244 rfl rfl ?_
              refine sv_iconst (d := (5 : Int)) hM dX12_binaryOf__245 rfl rfl ?_
              refine sv_iload_n hM dX12_binaryOf__246 rfl rfl ?_
              refine sv_cond_ne hM dX12_binaryOf__247 hp1 (t := 258) rfl rfl (fun hc => ?_) (fun hc => ?_)
              · have h := h.1 (hc)
                refine sv_iload_n hM dX12_binaryOf__258 rfl rfl ?_
                refine sv_iconst (d := (1 : Int)) hM dX12_binaryOf__259 rfl rfl ?_
                refine sv_icmp_ne hM dX12_binaryOf__260 hp1 (⟨by decide, by decide⟩ : sv_R (1 : Int)) (t := 271) rfl rfl (fun hc => ?_) (fun hc => ?_)
                · have h := h.1 (hc)
                  refine sv_iload_n hM dX12_binaryOf__271 rfl rfl ?_
                  refine sv_iconst (d := (2 : Int)) hM dX12_binaryOf__272 rfl rfl ?_
                  refine sv_icmp_ne hM dX12_binaryOf__273 hp1 (⟨by decide, by decide⟩ : sv_R (2 : Int)) (t := 284) rfl rfl (fun hc => ?_) (fun hc => ?_)
                  · have h := h.1 (hc)
                    refine sv_iload_n hM dX12_binaryOf__284 rfl rfl ?_
                    refine sv_iconst (d := (3 : Int)) hM dX12_binaryOf__285 rfl rfl ?_
                    refine sv_icmp_ne hM dX12_binaryOf__286 hp1 (⟨by decide, by decide⟩ : sv_R (3 : Int)) (t := 297) rfl rfl (fun hc => ?_) (fun hc => ?_)
                    · have h := h.1 (hc)
                      refine sv_iload hM dX12_binaryOf__297 rfl rfl ?_
                      refine sv_iload hM dX12_binaryOf__299 rfl rfl ?_
                      obtain ⟨o29, h⟩ := h
                      refine sv_iremA hM dX12_binaryOf__301 hr19 o29 rfl (fun r28 hr28 => ?_)
                      have h := h r28 hr28
                      refine sv_callV hM dX12_binaryOf__302 sm_iv_822 (by decide) (sm_a0 _) rfl rfl (Nat.le_of_ble_eq_true rfl) sm_h122 (Nat.le_of_ble_eq_true rfl) (Nat.le_of_ble_eq_true rfl) (F' := 0) (Nat.le_of_ble_eq_true rfl) rfl (t_give_ (5 : Int) r28 (sv_sts (sv_sts S [1113] g7) [1113] g15) ok16 (⟨by decide, by decide⟩ : sv_R (5 : Int)) hr28) (fun v S1 hq => ?_)
                      obtain ⟨rfl, ok31, md32, hpo33⟩ := hq
                      obtain ⟨g30, rfl⟩ : ∃ g, S1 = sv_sts (sv_sts (sv_sts S [1113] g7) [1113] g15) [1111, 1112] g := ⟨_, md32.eq⟩
                      show sv_T sm_XS sm_cs sm_L sm_sh 4 (q_binaryOf_ p1 p2 p3 p4 p5 S) 137 305 [(0, .ref 0), (1, sv_I p1), (2, sv_I p2), (3, sv_I p3), (4, sv_I p4), (5, sv_I p5), (6, sv_I r11), (7, sv_I (g7 1113 0)), (8, sv_I r19), (9, sv_I s21)] [] (sv_sts (sv_sts (sv_sts S [1113] g7) [1113] g15) [1111, 1112] g30)
                      have md34 : sv_mod [5, 1011, 1113, 1111, 1112] S (sv_sts (sv_sts (sv_sts S [1113] g7) [1113] g15) [1111, 1112] g30) := sv_mod.sts md20 (by decide)
                      have h := h g30 hpo33
                      exact sv_vret hM dX12_binaryOf__305 rfl ⟨rfl, ok31, md34, h⟩
                    · have h := h.2 (hc)
                      refine sv_iload hM dX12_binaryOf__289 rfl rfl ?_
                      refine sv_iload hM dX12_binaryOf__291 rfl rfl ?_
                      obtain ⟨o36, h⟩ := h
                      refine sv_idivA hM dX12_binaryOf__293 hr19 o36 rfl (fun r35 hr35 => ?_)
                      have h := h r35 hr35
                      refine sv_goto hM dX12_binaryOf__294 (pc' := 302) rfl ?_
                      refine sv_callV hM dX12_binaryOf__302 sm_iv_822 (by decide) (sm_a0 _) rfl rfl (Nat.le_of_ble_eq_true rfl) sm_h122 (Nat.le_of_ble_eq_true rfl) (Nat.le_of_ble_eq_true rfl) (F' := 0) (Nat.le_of_ble_eq_true rfl) rfl (t_give_ (5 : Int) r35 (sv_sts (sv_sts S [1113] g7) [1113] g15) ok16 (⟨by decide, by decide⟩ : sv_R (5 : Int)) hr35) (fun v S1 hq => ?_)
                      obtain ⟨rfl, ok38, md39, hpo40⟩ := hq
                      obtain ⟨g37, rfl⟩ : ∃ g, S1 = sv_sts (sv_sts (sv_sts S [1113] g7) [1113] g15) [1111, 1112] g := ⟨_, md39.eq⟩
                      show sv_T sm_XS sm_cs sm_L sm_sh 4 (q_binaryOf_ p1 p2 p3 p4 p5 S) 137 305 [(0, .ref 0), (1, sv_I p1), (2, sv_I p2), (3, sv_I p3), (4, sv_I p4), (5, sv_I p5), (6, sv_I r11), (7, sv_I (g7 1113 0)), (8, sv_I r19), (9, sv_I s21)] [] (sv_sts (sv_sts (sv_sts S [1113] g7) [1113] g15) [1111, 1112] g37)
                      have md41 : sv_mod [5, 1011, 1113, 1111, 1112] S (sv_sts (sv_sts (sv_sts S [1113] g7) [1113] g15) [1111, 1112] g37) := sv_mod.sts md20 (by decide)
                      have h := h g37 hpo40
                      exact sv_vret hM dX12_binaryOf__305 rfl ⟨rfl, ok38, md41, h⟩
                  · have h := h.2 (hc)
                    refine sv_iload hM dX12_binaryOf__276 rfl rfl ?_
                    refine sv_iload hM dX12_binaryOf__278 rfl rfl ?_
                    refine sv_anyI hM dX12_binaryOf__280 rfl rfl (fun r42 hr42 _ => ?_)
                    have h := h r42 hr42
                    refine sv_goto hM dX12_binaryOf__281 (pc' := 302) rfl ?_
                    refine sv_callV hM dX12_binaryOf__302 sm_iv_822 (by decide) (sm_a0 _) rfl rfl (Nat.le_of_ble_eq_true rfl) sm_h122 (Nat.le_of_ble_eq_true rfl) (Nat.le_of_ble_eq_true rfl) (F' := 0) (Nat.le_of_ble_eq_true rfl) rfl (t_give_ (5 : Int) r42 (sv_sts (sv_sts S [1113] g7) [1113] g15) ok16 (⟨by decide, by decide⟩ : sv_R (5 : Int)) hr42) (fun v S1 hq => ?_)
                    obtain ⟨rfl, ok44, md45, hpo46⟩ := hq
                    obtain ⟨g43, rfl⟩ : ∃ g, S1 = sv_sts (sv_sts (sv_sts S [1113] g7) [1113] g15) [1111, 1112] g := ⟨_, md45.eq⟩
                    show sv_T sm_XS sm_cs sm_L sm_sh 4 (q_binaryOf_ p1 p2 p3 p4 p5 S) 137 305 [(0, .ref 0), (1, sv_I p1), (2, sv_I p2), (3, sv_I p3), (4, sv_I p4), (5, sv_I p5), (6, sv_I r11), (7, sv_I (g7 1113 0)), (8, sv_I r19), (9, sv_I s21)] [] (sv_sts (sv_sts (sv_sts S [1113] g7) [1113] g15) [1111, 1112] g43)
                    have md47 : sv_mod [5, 1011, 1113, 1111, 1112] S (sv_sts (sv_sts (sv_sts S [1113] g7) [1113] g15) [1111, 1112] g43) := sv_mod.sts md20 (by decide)
                    have h := h g43 hpo46
                    exact sv_vret hM dX12_binaryOf__305 rfl ⟨rfl, ok44, md47, h⟩
                · have h := h.2 (hc)
                  refine sv_iload hM dX12_binaryOf__263 rfl rfl ?_
                  refine sv_iload hM dX12_binaryOf__265 rfl rfl ?_
                  refine sv_anyI hM dX12_binaryOf__267 rfl rfl (fun r48 hr48 _ => ?_)
                  have h := h r48 hr48
                  refine sv_goto hM dX12_binaryOf__268 (pc' := 302) rfl ?_
                  refine sv_callV hM dX12_binaryOf__302 sm_iv_822 (by decide) (sm_a0 _) rfl rfl (Nat.le_of_ble_eq_true rfl) sm_h122 (Nat.le_of_ble_eq_true rfl) (Nat.le_of_ble_eq_true rfl) (F' := 0) (Nat.le_of_ble_eq_true rfl) rfl (t_give_ (5 : Int) r48 (sv_sts (sv_sts S [1113] g7) [1113] g15) ok16 (⟨by decide, by decide⟩ : sv_R (5 : Int)) hr48) (fun v S1 hq => ?_)
                  obtain ⟨rfl, ok50, md51, hpo52⟩ := hq
                  obtain ⟨g49, rfl⟩ : ∃ g, S1 = sv_sts (sv_sts (sv_sts S [1113] g7) [1113] g15) [1111, 1112] g := ⟨_, md51.eq⟩
                  show sv_T sm_XS sm_cs sm_L sm_sh 4 (q_binaryOf_ p1 p2 p3 p4 p5 S) 137 305 [(0, .ref 0), (1, sv_I p1), (2, sv_I p2), (3, sv_I p3), (4, sv_I p4), (5, sv_I p5), (6, sv_I r11), (7, sv_I (g7 1113 0)), (8, sv_I r19), (9, sv_I s21)] [] (sv_sts (sv_sts (sv_sts S [1113] g7) [1113] g15) [1111, 1112] g49)
                  have md53 : sv_mod [5, 1011, 1113, 1111, 1112] S (sv_sts (sv_sts (sv_sts S [1113] g7) [1113] g15) [1111, 1112] g49) := sv_mod.sts md20 (by decide)
                  have h := h g49 hpo52
                  exact sv_vret hM dX12_binaryOf__305 rfl ⟨rfl, ok50, md53, h⟩
              · have h := h.2 (hc)
                refine sv_iload hM dX12_binaryOf__250 rfl rfl ?_
                refine sv_iload hM dX12_binaryOf__252 rfl rfl ?_
                refine sv_anyI hM dX12_binaryOf__254 rfl rfl (fun r54 hr54 _ => ?_)
                have h := h r54 hr54
                refine sv_goto hM dX12_binaryOf__255 (pc' := 302) rfl ?_
                refine sv_callV hM dX12_binaryOf__302 sm_iv_822 (by decide) (sm_a0 _) rfl rfl (Nat.le_of_ble_eq_true rfl) sm_h122 (Nat.le_of_ble_eq_true rfl) (Nat.le_of_ble_eq_true rfl) (F' := 0) (Nat.le_of_ble_eq_true rfl) rfl (t_give_ (5 : Int) r54 (sv_sts (sv_sts S [1113] g7) [1113] g15) ok16 (⟨by decide, by decide⟩ : sv_R (5 : Int)) hr54) (fun v S1 hq => ?_)
                obtain ⟨rfl, ok56, md57, hpo58⟩ := hq
                obtain ⟨g55, rfl⟩ : ∃ g, S1 = sv_sts (sv_sts (sv_sts S [1113] g7) [1113] g15) [1111, 1112] g := ⟨_, md57.eq⟩
                show sv_T sm_XS sm_cs sm_L sm_sh 4 (q_binaryOf_ p1 p2 p3 p4 p5 S) 137 305 [(0, .ref 0), (1, sv_I p1), (2, sv_I p2), (3, sv_I p3), (4, sv_I p4), (5, sv_I p5), (6, sv_I r11), (7, sv_I (g7 1113 0)), (8, sv_I r19), (9, sv_I s21)] [] (sv_sts (sv_sts (sv_sts S [1113] g7) [1113] g15) [1111, 1112] g55)
                have md59 : sv_mod [5, 1011, 1113, 1111, 1112] S (sv_sts (sv_sts (sv_sts S [1113] g7) [1113] g15) [1111, 1112] g55) := sv_mod.sts md20 (by decide)
                have h := h g55 hpo58
                exact sv_vret hM dX12_binaryOf__305 rfl ⟨rfl, ok56, md59, h⟩
            · have h := h.2 (hc)
              refine sv_iload hM dX12_binaryOf__230 rfl rfl ?_
              refine sv_cond_ne hM dX12_binaryOf__232 hr19 (t := 244) rfl rfl (fun hc => ?_) (fun hc => ?_)
              · have h := h.1 (hc)
                refine sv_aload_n hM dX12_binaryOf__244 rfl rfl ?_
                refine sv_iconst (d := (5 : Int)) hM dX12_binaryOf__245 rfl rfl ?_
                refine sv_iload_n hM dX12_binaryOf__246 rfl rfl ?_
                refine sv_cond_ne hM dX12_binaryOf__247 hp1 (t := 258) rfl rfl (fun hc => ?_) (fun hc => ?_)
                · have h := h.1 (hc)
                  refine sv_iload_n hM dX12_binaryOf__258 rfl rfl ?_
                  refine sv_iconst (d := (1 : Int)) hM dX12_binaryOf__259 rfl rfl ?_
                  refine sv_icmp_ne hM dX12_binaryOf__260 hp1 (⟨by decide, by decide⟩ : sv_R (1 : Int)) (t := 271) rfl rfl (fun hc => ?_) (fun hc => ?_)
                  · have h := h.1 (hc)
                    refine sv_iload_n hM dX12_binaryOf__271 rfl rfl ?_
                    refine sv_iconst (d := (2 : Int)) hM dX12_binaryOf__272 rfl rfl ?_
                    refine sv_icmp_ne hM dX12_binaryOf__273 hp1 (⟨by decide, by decide⟩ : sv_R (2 : Int)) (t := 284) rfl rfl (fun hc => ?_) (fun hc => ?_)
                    · have h := h.1 (hc)
                      refine sv_iload_n hM dX12_binaryOf__284 rfl rfl ?_
                      refine sv_iconst (d := (3 : Int)) hM dX12_binaryOf__285 rfl rfl ?_
                      refine sv_icmp_ne hM dX12_binaryOf__286 hp1 (⟨by decide, by decide⟩ : sv_R (3 : Int)) (t := 297) rfl rfl (fun hc => ?_) (fun hc => ?_)
                      · have h := h.1 (hc)
                        refine sv_iload hM dX12_binaryOf__297 rfl rfl ?_
                        refine sv_iload hM dX12_binaryOf__299 rfl rfl ?_
                        obtain ⟨o61, h⟩ := h
                        refine sv_iremA hM dX12_binaryOf__301 hr19 o61 rfl (fun r60 hr60 => ?_)
                        have h := h r60 hr60
                        refine sv_callV hM dX12_binaryOf__302 sm_iv_822 (by decide) (sm_a0 _) rfl rfl (Nat.le_of_ble_eq_true rfl) sm_h122 (Nat.le_of_ble_eq_true rfl) (Nat.le_of_ble_eq_true rfl) (F' := 0) (Nat.le_of_ble_eq_true rfl) rfl (t_give_ (5 : Int) r60 (sv_sts (sv_sts S [1113] g7) [1113] g15) ok16 (⟨by decide, by decide⟩ : sv_R (5 : Int)) hr60) (fun v S1 hq => ?_)
                        obtain ⟨rfl, ok63, md64, hpo65⟩ := hq
                        obtain ⟨g62, rfl⟩ : ∃ g, S1 = sv_sts (sv_sts (sv_sts S [1113] g7) [1113] g15) [1111, 1112] g := ⟨_, md64.eq⟩
                        show sv_T sm_XS sm_cs sm_L sm_sh 4 (q_binaryOf_ p1 p2 p3 p4 p5 S) 137 305 [(0, .ref 0), (1, sv_I p1), (2, sv_I p2), (3, sv_I p3), (4, sv_I p4), (5, sv_I p5), (6, sv_I r11), (7, sv_I (g7 1113 0)), (8, sv_I r19), (9, sv_I s21)] [] (sv_sts (sv_sts (sv_sts S [1113] g7) [1113] g15) [1111, 1112] g62)
                        have md66 : sv_mod [5, 1011, 1113, 1111, 1112] S (sv_sts (sv_sts (sv_sts S [1113] g7) [1113] g15) [1111, 1112] g62) := sv_mod.sts md20 (by decide)
                        have h := h g62 hpo65
                        exact sv_vret hM dX12_binaryOf__305 rfl ⟨rfl, ok63, md66, h⟩
                      · have h := h.2 (hc)
                        refine sv_iload hM dX12_binaryOf__289 rfl rfl ?_
                        refine sv_iload hM dX12_binaryOf__291 rfl rfl ?_
                        obtain ⟨o68, h⟩ := h
                        refine sv_idivA hM dX12_binaryOf__293 hr19 o68 rfl (fun r67 hr67 => ?_)
                        have h := h r67 hr67
                        refine sv_goto hM dX12_binaryOf__294 (pc' := 302) rfl ?_
                        refine sv_callV hM dX12_binaryOf__302 sm_iv_822 (by decide) (sm_a0 _) rfl rfl (Nat.le_of_ble_eq_true rfl) sm_h122 (Nat.le_of_ble_eq_true rfl) (Nat.le_of_ble_eq_true rfl) (F' := 0) (Nat.le_of_ble_eq_true rfl) rfl (t_give_ (5 : Int) r67 (sv_sts (sv_sts S [1113] g7) [1113] g15) ok16 (⟨by decide, by decide⟩ : sv_R (5 : Int)) hr67) (fun v S1 hq => ?_)
                        obtain ⟨rfl, ok70, md71, hpo72⟩ := hq
                        obtain ⟨g69, rfl⟩ : ∃ g, S1 = sv_sts (sv_sts (sv_sts S [1113] g7) [1113] g15) [1111, 1112] g := ⟨_, md71.eq⟩
                        show sv_T sm_XS sm_cs sm_L sm_sh 4 (q_binaryOf_ p1 p2 p3 p4 p5 S) 137 305 [(0, .ref 0), (1, sv_I p1), (2, sv_I p2), (3, sv_I p3), (4, sv_I p4), (5, sv_I p5), (6, sv_I r11), (7, sv_I (g7 1113 0)), (8, sv_I r19), (9, sv_I s21)] [] (sv_sts (sv_sts (sv_sts S [1113] g7) [1113] g15) [1111, 1112] g69)
                        have md73 : sv_mod [5, 1011, 1113, 1111, 1112] S (sv_sts (sv_sts (sv_sts S [1113] g7) [1113] g15) [1111, 1112] g69) := sv_mod.sts md20 (by decide)
                        have h := h g69 hpo72
                        exact sv_vret hM dX12_binaryOf__305 rfl ⟨rfl, ok70, md73, h⟩
                    · have h := h.2 (hc)
                      refine sv_iload hM dX12_binaryOf__276 rfl rfl ?_
                      refine sv_iload hM dX12_binaryOf__278 rfl rfl ?_
                      refine sv_anyI hM dX12_binaryOf__280 rfl rfl (fun r74 hr74 _ => ?_)
                      have h := h r74 hr74
                      refine sv_goto hM dX12_binaryOf__281 (pc' := 302) rfl ?_
                      refine sv_callV hM dX12_binaryOf__302 sm_iv_822 (by decide) (sm_a0 _) rfl rfl (Nat.le_of_ble_eq_true rfl) sm_h122 (Nat.le_of_ble_eq_true rfl) (Nat.le_of_ble_eq_true rfl) (F' := 0) (Nat.le_of_ble_eq_true rfl) rfl (t_give_ (5 : Int) r74 (sv_sts (sv_sts S [1113] g7) [1113] g15) ok16 (⟨by decide, by decide⟩ : sv_R (5 : Int)) hr74) (fun v S1 hq => ?_)
                      obtain ⟨rfl, ok76, md77, hpo78⟩ := hq
                      obtain ⟨g75, rfl⟩ : ∃ g, S1 = sv_sts (sv_sts (sv_sts S [1113] g7) [1113] g15) [1111, 1112] g := ⟨_, md77.eq⟩
                      show sv_T sm_XS sm_cs sm_L sm_sh 4 (q_binaryOf_ p1 p2 p3 p4 p5 S) 137 305 [(0, .ref 0), (1, sv_I p1), (2, sv_I p2), (3, sv_I p3), (4, sv_I p4), (5, sv_I p5), (6, sv_I r11), (7, sv_I (g7 1113 0)), (8, sv_I r19), (9, sv_I s21)] [] (sv_sts (sv_sts (sv_sts S [1113] g7) [1113] g15) [1111, 1112] g75)
                      have md79 : sv_mod [5, 1011, 1113, 1111, 1112] S (sv_sts (sv_sts (sv_sts S [1113] g7) [1113] g15) [1111, 1112] g75) := sv_mod.sts md20 (by decide)
                      have h := h g75 hpo78
                      exact sv_vret hM dX12_binaryOf__305 rfl ⟨rfl, ok76, md79, h⟩
                  · have h := h.2 (hc)
                    refine sv_iload hM dX12_binaryOf__263 rfl rfl ?_
                    refine sv_iload hM dX12_binaryOf__265 rfl rfl ?_
                    refine sv_anyI hM dX12_binaryOf__267 rfl rfl (fun r80 hr80 _ => ?_)
                    have h := h r80 hr80
                    refine sv_goto hM dX12_binaryOf__268 (pc' := 302) rfl ?_
                    refine sv_callV hM dX12_binaryOf__302 sm_iv_822 (by decide) (sm_a0 _) rfl rfl (Nat.le_of_ble_eq_true rfl) sm_h122 (Nat.le_of_ble_eq_true rfl) (Nat.le_of_ble_eq_true rfl) (F' := 0) (Nat.le_of_ble_eq_true rfl) rfl (t_give_ (5 : Int) r80 (sv_sts (sv_sts S [1113] g7) [1113] g15) ok16 (⟨by decide, by decide⟩ : sv_R (5 : Int)) hr80) (fun v S1 hq => ?_)
                    obtain ⟨rfl, ok82, md83, hpo84⟩ := hq
                    obtain ⟨g81, rfl⟩ : ∃ g, S1 = sv_sts (sv_sts (sv_sts S [1113] g7) [1113] g15) [1111, 1112] g := ⟨_, md83.eq⟩
                    show sv_T sm_XS sm_cs sm_L sm_sh 4 (q_binaryOf_ p1 p2 p3 p4 p5 S) 137 305 [(0, .ref 0), (1, sv_I p1), (2, sv_I p2), (3, sv_I p3), (4, sv_I p4), (5, sv_I p5), (6, sv_I r11), (7, sv_I (g7 1113 0)), (8, sv_I r19), (9, sv_I s21)] [] (sv_sts (sv_sts (sv_sts S [1113] g7) [1113] g15) [1111, 1112] g81)
                    have md85 : sv_mod [5, 1011, 1113, 1111, 1112] S (sv_sts (sv_sts (sv_sts S [1113] g7) [1113] g15) [1111, 1112] g81) := sv_mod.sts md20 (by decide)
                    have h := h g81 hpo84
                    exact sv_vret hM dX12_binaryOf__305 rfl ⟨rfl, ok82, md85, h⟩
                · have h := h.2 (hc)
                  refine sv_iload hM dX12_binaryOf__250 rfl rfl ?_
                  refine sv_iload hM dX12_binaryOf__252 rfl rfl ?_
                  refine sv_anyI hM dX12_binaryOf__254 rfl rfl (fun r86 hr86 _ => ?_)
                  have h := h r86 hr86
                  refine sv_goto hM dX12_binaryOf__255 (pc' := 302) rfl ?_
                  refine sv_callV hM dX12_binaryOf__302 sm_iv_822 (by decide) (sm_a0 _) rfl rfl (Nat.le_of_ble_eq_true rfl) sm_h122 (Nat.le_of_ble_eq_true rfl) (Nat.le_of_ble_eq_true rfl) (F' := 0) (Nat.le_of_ble_eq_true rfl) rfl (t_give_ (5 : Int) r86 (sv_sts (sv_sts S [1113] g7) [1113] g15) ok16 (⟨by decide, by decide⟩ : sv_R (5 : Int)) hr86) (fun v S1 hq => ?_)
                  obtain ⟨rfl, ok88, md89, hpo90⟩ := hq
                  obtain ⟨g87, rfl⟩ : ∃ g, S1 = sv_sts (sv_sts (sv_sts S [1113] g7) [1113] g15) [1111, 1112] g := ⟨_, md89.eq⟩
                  show sv_T sm_XS sm_cs sm_L sm_sh 4 (q_binaryOf_ p1 p2 p3 p4 p5 S) 137 305 [(0, .ref 0), (1, sv_I p1), (2, sv_I p2), (3, sv_I p3), (4, sv_I p4), (5, sv_I p5), (6, sv_I r11), (7, sv_I (g7 1113 0)), (8, sv_I r19), (9, sv_I s21)] [] (sv_sts (sv_sts (sv_sts S [1113] g7) [1113] g15) [1111, 1112] g87)
                  have md91 : sv_mod [5, 1011, 1113, 1111, 1112] S (sv_sts (sv_sts (sv_sts S [1113] g7) [1113] g15) [1111, 1112] g87) := sv_mod.sts md20 (by decide)
                  have h := h g87 hpo90
                  exact sv_vret hM dX12_binaryOf__305 rfl ⟨rfl, ok88, md91, h⟩
              · have h := h.2 (hc)
                refine sv_aload_n hM dX12_binaryOf__235 rfl rfl ?_
                refine sv_iconst (d := (4 : Int)) hM dX12_binaryOf__236 rfl rfl ?_
                refine sv_iconst (d := (0 : Int)) hM dX12_binaryOf__237 rfl rfl ?_
                refine sv_callV hM dX12_binaryOf__238 sm_iv_822 (by decide) (sm_a0 _) rfl rfl (Nat.le_of_ble_eq_true rfl) sm_h122 (Nat.le_of_ble_eq_true rfl) (Nat.le_of_ble_eq_true rfl) (F' := 0) (Nat.le_of_ble_eq_true rfl) rfl (t_give_ (4 : Int) (0 : Int) (sv_sts (sv_sts S [1113] g7) [1113] g15) ok16 (⟨by decide, by decide⟩ : sv_R (4 : Int)) (⟨by decide, by decide⟩ : sv_R (0 : Int))) (fun v S1 hq => ?_)
                obtain ⟨rfl, ok93, md94, hpo95⟩ := hq
                obtain ⟨g92, rfl⟩ : ∃ g, S1 = sv_sts (sv_sts (sv_sts S [1113] g7) [1113] g15) [1111, 1112] g := ⟨_, md94.eq⟩
                show sv_T sm_XS sm_cs sm_L sm_sh 4 (q_binaryOf_ p1 p2 p3 p4 p5 S) 137 241 [(0, .ref 0), (1, sv_I p1), (2, sv_I p2), (3, sv_I p3), (4, sv_I p4), (5, sv_I p5), (6, sv_I r11), (7, sv_I (g7 1113 0)), (8, sv_I r19), (9, sv_I s21)] [] (sv_sts (sv_sts (sv_sts S [1113] g7) [1113] g15) [1111, 1112] g92)
                have md96 : sv_mod [5, 1011, 1113, 1111, 1112] S (sv_sts (sv_sts (sv_sts S [1113] g7) [1113] g15) [1111, 1112] g92) := sv_mod.sts md20 (by decide)
                have h := h g92 hpo95
                refine sv_goto hM dX12_binaryOf__241 (pc' := 305) rfl ?_
                exact sv_vret hM dX12_binaryOf__305 rfl ⟨rfl, ok93, md96, h⟩
        · have h := h.2 (hc)
          refine sv_aload_n hM dX12_binaryOf__184 rfl rfl ?_
          refine sv_iconst (d := (5 : Int)) hM dX12_binaryOf__185 rfl rfl ?_
          refine sv_iload_n hM dX12_binaryOf__186 rfl rfl ?_
          refine sv_iload hM dX12_binaryOf__187 rfl rfl ?_
          refine sv_cond_eq hM dX12_binaryOf__189 (sv_R01 k13) (t := 197) rfl rfl (fun hc => ?_) (fun hc => ?_)
          · have h := h.1 (hc)
            refine sv_iconst (d := (0 : Int)) hM dX12_binaryOf__197 rfl rfl ?_
            refine sv_aload_n hM dX12_binaryOf__198 rfl rfl ?_
            have k97 : (0 ≤ (g15 1113 0) ∧ (g15 1113 0) ≤ 1) := sm_okZ ok16 sm_r1113 0
            have h := h k97
            refine sv_getI hM dX12_binaryOf__199 sm_fl_806 (sm_a0 _) sm_k113 rfl (x := (g15 1113 0)) rfl ?_
            refine sv_cond_eq hM dX12_binaryOf__202 (sv_R01 k97) (t := 210) rfl rfl (fun hc => ?_) (fun hc => ?_)
            · have h := h.1 (hc)
              refine sv_iconst (d := (0 : Int)) hM dX12_binaryOf__210 rfl rfl ?_
              refine sv_callS hM dX12_binaryOf__211 sm_iv_841 (Nat.le_of_ble_eq_true rfl) rfl rfl (Nat.le_of_ble_eq_true rfl) sm_h138 (Nat.le_of_ble_eq_true rfl) (Nat.le_of_ble_eq_true rfl) (F' := 0) (Nat.le_of_ble_eq_true rfl) rfl (t_bits p1 (0 : Int) (0 : Int) (sv_sts (sv_sts S [1113] g7) [1113] g15) ok16 hp1 (⟨by decide, by decide⟩ : sv_R (0 : Int)) (⟨by decide, by decide⟩ : sv_R (0 : Int))) (fun v S1 hq => ?_)
              obtain ⟨r102, rfl, hr102, ok99, md100, hpo101⟩ := hq
              obtain rfl : (sv_sts (sv_sts S [1113] g7) [1113] g15) = S1 := (funext fun j => md100 j (by intro q; cases q)).symm
              show sv_T sm_XS sm_cs sm_L sm_sh 4 (q_binaryOf_ p1 p2 p3 p4 p5 S) 137 214 [(0, .ref 0), (1, sv_I p1), (2, sv_I p2), (3, sv_I p3), (4, sv_I p4), (5, sv_I p5), (6, sv_I r11), (7, sv_I (g7 1113 0)), (8, sv_I r19), (9, sv_I s21)] [sv_I r102, sv_I (5 : Int), .ref 0] (sv_sts (sv_sts S [1113] g7) [1113] g15)
              have h := h r102 hr102 hpo101
              refine sv_callV hM dX12_binaryOf__214 sm_iv_822 (by decide) (sm_a0 _) rfl rfl (Nat.le_of_ble_eq_true rfl) sm_h122 (Nat.le_of_ble_eq_true rfl) (Nat.le_of_ble_eq_true rfl) (F' := 0) (Nat.le_of_ble_eq_true rfl) rfl (t_give_ (5 : Int) r102 (sv_sts (sv_sts S [1113] g7) [1113] g15) ok99 (⟨by decide, by decide⟩ : sv_R (5 : Int)) hr102) (fun v S1 hq => ?_)
              obtain ⟨rfl, ok104, md105, hpo106⟩ := hq
              obtain ⟨g103, rfl⟩ : ∃ g, S1 = sv_sts (sv_sts (sv_sts S [1113] g7) [1113] g15) [1111, 1112] g := ⟨_, md105.eq⟩
              show sv_T sm_XS sm_cs sm_L sm_sh 4 (q_binaryOf_ p1 p2 p3 p4 p5 S) 137 217 [(0, .ref 0), (1, sv_I p1), (2, sv_I p2), (3, sv_I p3), (4, sv_I p4), (5, sv_I p5), (6, sv_I r11), (7, sv_I (g7 1113 0)), (8, sv_I r19), (9, sv_I s21)] [] (sv_sts (sv_sts (sv_sts S [1113] g7) [1113] g15) [1111, 1112] g103)
              have md107 : sv_mod [5, 1011, 1113, 1111, 1112] S (sv_sts (sv_sts (sv_sts S [1113] g7) [1113] g15) [1111, 1112] g103) := sv_mod.sts md20 (by decide)
              have h := h g103 hpo106
              refine sv_goto hM dX12_binaryOf__217 (pc' := 305) rfl ?_
              exact sv_vret hM dX12_binaryOf__305 rfl ⟨rfl, ok104, md107, h⟩
            · have h := h.2 (hc)
              refine sv_iload hM dX12_binaryOf__205 rfl rfl ?_
              refine sv_goto hM dX12_binaryOf__207 (pc' := 211) rfl ?_
              refine sv_callS hM dX12_binaryOf__211 sm_iv_841 (Nat.le_of_ble_eq_true rfl) rfl rfl (Nat.le_of_ble_eq_true rfl) sm_h138 (Nat.le_of_ble_eq_true rfl) (Nat.le_of_ble_eq_true rfl) (F' := 0) (Nat.le_of_ble_eq_true rfl) rfl (t_bits p1 (0 : Int) r19 (sv_sts (sv_sts S [1113] g7) [1113] g15) ok16 hp1 (⟨by decide, by decide⟩ : sv_R (0 : Int)) hr19) (fun v S1 hq => ?_)
              obtain ⟨r112, rfl, hr112, ok109, md110, hpo111⟩ := hq
              obtain rfl : (sv_sts (sv_sts S [1113] g7) [1113] g15) = S1 := (funext fun j => md110 j (by intro q; cases q)).symm
              show sv_T sm_XS sm_cs sm_L sm_sh 4 (q_binaryOf_ p1 p2 p3 p4 p5 S) 137 214 [(0, .ref 0), (1, sv_I p1), (2, sv_I p2), (3, sv_I p3), (4, sv_I p4), (5, sv_I p5), (6, sv_I r11), (7, sv_I (g7 1113 0)), (8, sv_I r19), (9, sv_I s21)] [sv_I r112, sv_I (5 : Int), .ref 0] (sv_sts (sv_sts S [1113] g7) [1113] g15)
              have h := h r112 hr112 hpo111
              refine sv_callV hM dX12_binaryOf__214 sm_iv_822 (by decide) (sm_a0 _) rfl rfl (Nat.le_of_ble_eq_true rfl) sm_h122 (Nat.le_of_ble_eq_true rfl) (Nat.le_of_ble_eq_true rfl) (F' := 0) (Nat.le_of_ble_eq_true rfl) rfl (t_give_ (5 : Int) r112 (sv_sts (sv_sts S [1113] g7) [1113] g15) ok109 (⟨by decide, by decide⟩ : sv_R (5 : Int)) hr112) (fun v S1 hq => ?_)
              obtain ⟨rfl, ok114, md115, hpo116⟩ := hq
              obtain ⟨g113, rfl⟩ : ∃ g, S1 = sv_sts (sv_sts (sv_sts S [1113] g7) [1113] g15) [1111, 1112] g := ⟨_, md115.eq⟩
              show sv_T sm_XS sm_cs sm_L sm_sh 4 (q_binaryOf_ p1 p2 p3 p4 p5 S) 137 217 [(0, .ref 0), (1, sv_I p1), (2, sv_I p2), (3, sv_I p3), (4, sv_I p4), (5, sv_I p5), (6, sv_I r11), (7, sv_I (g7 1113 0)), (8, sv_I r19), (9, sv_I s21)] [] (sv_sts (sv_sts (sv_sts S [1113] g7) [1113] g15) [1111, 1112] g113)
              have md117 : sv_mod [5, 1011, 1113, 1111, 1112] S (sv_sts (sv_sts (sv_sts S [1113] g7) [1113] g15) [1111, 1112] g113) := sv_mod.sts md20 (by decide)
              have h := h g113 hpo116
              refine sv_goto hM dX12_binaryOf__217 (pc' := 305) rfl ?_
              exact sv_vret hM dX12_binaryOf__305 rfl ⟨rfl, ok114, md117, h⟩
          · have h := h.2 (hc)
            refine sv_iload hM dX12_binaryOf__192 rfl rfl ?_
            refine sv_goto hM dX12_binaryOf__194 (pc' := 198) rfl ?_
            refine sv_aload_n hM dX12_binaryOf__198 rfl rfl ?_
            have k118 : (0 ≤ (g15 1113 0) ∧ (g15 1113 0) ≤ 1) := sm_okZ ok16 sm_r1113 0
            have h := h k118
            refine sv_getI hM dX12_binaryOf__199 sm_fl_806 (sm_a0 _) sm_k113 rfl (x := (g15 1113 0)) rfl ?_
            refine sv_cond_eq hM dX12_binaryOf__202 (sv_R01 k118) (t := 210) rfl rfl (fun hc => ?_) (fun hc => ?_)
            · have h := h.1 (hc)
              refine sv_iconst (d := (0 : Int)) hM dX12_binaryOf__210 rfl rfl ?_
              refine sv_callS hM dX12_binaryOf__211 sm_iv_841 (Nat.le_of_ble_eq_true rfl) rfl rfl (Nat.le_of_ble_eq_true rfl) sm_h138 (Nat.le_of_ble_eq_true rfl) (Nat.le_of_ble_eq_true rfl) (F' := 0) (Nat.le_of_ble_eq_true rfl) rfl (t_bits p1 r11 (0 : Int) (sv_sts (sv_sts S [1113] g7) [1113] g15) ok16 hp1 hr11 (⟨by decide, by decide⟩ : sv_R (0 : Int))) (fun v S1 hq => ?_)
              obtain ⟨r123, rfl, hr123, ok120, md121, hpo122⟩ := hq
              obtain rfl : (sv_sts (sv_sts S [1113] g7) [1113] g15) = S1 := (funext fun j => md121 j (by intro q; cases q)).symm
              show sv_T sm_XS sm_cs sm_L sm_sh 4 (q_binaryOf_ p1 p2 p3 p4 p5 S) 137 214 [(0, .ref 0), (1, sv_I p1), (2, sv_I p2), (3, sv_I p3), (4, sv_I p4), (5, sv_I p5), (6, sv_I r11), (7, sv_I (g7 1113 0)), (8, sv_I r19), (9, sv_I s21)] [sv_I r123, sv_I (5 : Int), .ref 0] (sv_sts (sv_sts S [1113] g7) [1113] g15)
              have h := h r123 hr123 hpo122
              refine sv_callV hM dX12_binaryOf__214 sm_iv_822 (by decide) (sm_a0 _) rfl rfl (Nat.le_of_ble_eq_true rfl) sm_h122 (Nat.le_of_ble_eq_true rfl) (Nat.le_of_ble_eq_true rfl) (F' := 0) (Nat.le_of_ble_eq_true rfl) rfl (t_give_ (5 : Int) r123 (sv_sts (sv_sts S [1113] g7) [1113] g15) ok120 (⟨by decide, by decide⟩ : sv_R (5 : Int)) hr123) (fun v S1 hq => ?_)
              obtain ⟨rfl, ok125, md126, hpo127⟩ := hq
              obtain ⟨g124, rfl⟩ : ∃ g, S1 = sv_sts (sv_sts (sv_sts S [1113] g7) [1113] g15) [1111, 1112] g := ⟨_, md126.eq⟩
              show sv_T sm_XS sm_cs sm_L sm_sh 4 (q_binaryOf_ p1 p2 p3 p4 p5 S) 137 217 [(0, .ref 0), (1, sv_I p1), (2, sv_I p2), (3, sv_I p3), (4, sv_I p4), (5, sv_I p5), (6, sv_I r11), (7, sv_I (g7 1113 0)), (8, sv_I r19), (9, sv_I s21)] [] (sv_sts (sv_sts (sv_sts S [1113] g7) [1113] g15) [1111, 1112] g124)
              have md128 : sv_mod [5, 1011, 1113, 1111, 1112] S (sv_sts (sv_sts (sv_sts S [1113] g7) [1113] g15) [1111, 1112] g124) := sv_mod.sts md20 (by decide)
              have h := h g124 hpo127
              refine sv_goto hM dX12_binaryOf__217 (pc' := 305) rfl ?_
              exact sv_vret hM dX12_binaryOf__305 rfl ⟨rfl, ok125, md128, h⟩
            · have h := h.2 (hc)
              refine sv_iload hM dX12_binaryOf__205 rfl rfl ?_
              refine sv_goto hM dX12_binaryOf__207 (pc' := 211) rfl ?_
              refine sv_callS hM dX12_binaryOf__211 sm_iv_841 (Nat.le_of_ble_eq_true rfl) rfl rfl (Nat.le_of_ble_eq_true rfl) sm_h138 (Nat.le_of_ble_eq_true rfl) (Nat.le_of_ble_eq_true rfl) (F' := 0) (Nat.le_of_ble_eq_true rfl) rfl (t_bits p1 r11 r19 (sv_sts (sv_sts S [1113] g7) [1113] g15) ok16 hp1 hr11 hr19) (fun v S1 hq => ?_)
              obtain ⟨r133, rfl, hr133, ok130, md131, hpo132⟩ := hq
              obtain rfl : (sv_sts (sv_sts S [1113] g7) [1113] g15) = S1 := (funext fun j => md131 j (by intro q; cases q)).symm
              show sv_T sm_XS sm_cs sm_L sm_sh 4 (q_binaryOf_ p1 p2 p3 p4 p5 S) 137 214 [(0, .ref 0), (1, sv_I p1), (2, sv_I p2), (3, sv_I p3), (4, sv_I p4), (5, sv_I p5), (6, sv_I r11), (7, sv_I (g7 1113 0)), (8, sv_I r19), (9, sv_I s21)] [sv_I r133, sv_I (5 : Int), .ref 0] (sv_sts (sv_sts S [1113] g7) [1113] g15)
              have h := h r133 hr133 hpo132
              refine sv_callV hM dX12_binaryOf__214 sm_iv_822 (by decide) (sm_a0 _) rfl rfl (Nat.le_of_ble_eq_true rfl) sm_h122 (Nat.le_of_ble_eq_true rfl) (Nat.le_of_ble_eq_true rfl) (F' := 0) (Nat.le_of_ble_eq_true rfl) rfl (t_give_ (5 : Int) r133 (sv_sts (sv_sts S [1113] g7) [1113] g15) ok130 (⟨by decide, by decide⟩ : sv_R (5 : Int)) hr133) (fun v S1 hq => ?_)
              obtain ⟨rfl, ok135, md136, hpo137⟩ := hq
              obtain ⟨g134, rfl⟩ : ∃ g, S1 = sv_sts (sv_sts (sv_sts S [1113] g7) [1113] g15) [1111, 1112] g := ⟨_, md136.eq⟩
              show sv_T sm_XS sm_cs sm_L sm_sh 4 (q_binaryOf_ p1 p2 p3 p4 p5 S) 137 217 [(0, .ref 0), (1, sv_I p1), (2, sv_I p2), (3, sv_I p3), (4, sv_I p4), (5, sv_I p5), (6, sv_I r11), (7, sv_I (g7 1113 0)), (8, sv_I r19), (9, sv_I s21)] [] (sv_sts (sv_sts (sv_sts S [1113] g7) [1113] g15) [1111, 1112] g134)
              have md138 : sv_mod [5, 1011, 1113, 1111, 1112] S (sv_sts (sv_sts (sv_sts S [1113] g7) [1113] g15) [1111, 1112] g134) := sv_mod.sts md20 (by decide)
              have h := h g134 hpo137
              refine sv_goto hM dX12_binaryOf__217 (pc' := 305) rfl ?_
              exact sv_vret hM dX12_binaryOf__305 rfl ⟨rfl, ok135, md138, h⟩
      have h := h.2
      refine sv_iload hM dX12_binaryOf__160 rfl rfl ?_
      refine sv_cond_eq hM dX12_binaryOf__162 (sv_R01 k13) (t := 176) rfl rfl (fun hc => ?_) (fun hc => ?_)
      · have h := h.1 (hc)
        refine sv_iconst (d := (0 : Int)) hM dX12_binaryOf__176 rfl rfl ?_
        have hb := J139 (0 : Int) (⟨by decide, by decide⟩ : sv_R (0 : Int)) h
        exact sv_less (lv := [(0, .ref 0), (1, sv_I p1), (2, sv_I p2), (3, sv_I p3), (4, sv_I p4), (5, sv_I p5), (6, sv_I r11), (7, sv_I (g7 1113 0)), (8, sv_I r19)]) (sv_Sub_cons rfl (sv_Sub_cons rfl (sv_Sub_cons rfl (sv_Sub_cons rfl (sv_Sub_cons rfl (sv_Sub_cons rfl (sv_Sub_cons rfl (sv_Sub_cons rfl (sv_Sub_cons rfl sv_Sub_nil))))))))) hb
      · have h := h.2 (hc)
        refine sv_aload_n hM dX12_binaryOf__165 rfl rfl ?_
        have k140 : (0 ≤ (g15 1113 0) ∧ (g15 1113 0) ≤ 1) := sm_okZ ok16 sm_r1113 0
        have h := h k140
        refine sv_getI hM dX12_binaryOf__166 sm_fl_806 (sm_a0 _) sm_k113 rfl (x := (g15 1113 0)) rfl ?_
        refine sv_cond_eq hM dX12_binaryOf__169 (sv_R01 k140) (t := 176) rfl rfl (fun hc => ?_) (fun hc => ?_)
        · have h := h.1 (hc)
          refine sv_iconst (d := (0 : Int)) hM dX12_binaryOf__176 rfl rfl ?_
          have hb := J139 (0 : Int) (⟨by decide, by decide⟩ : sv_R (0 : Int)) h
          exact sv_less (lv := [(0, .ref 0), (1, sv_I p1), (2, sv_I p2), (3, sv_I p3), (4, sv_I p4), (5, sv_I p5), (6, sv_I r11), (7, sv_I (g7 1113 0)), (8, sv_I r19)]) (sv_Sub_cons rfl (sv_Sub_cons rfl (sv_Sub_cons rfl (sv_Sub_cons rfl (sv_Sub_cons rfl (sv_Sub_cons rfl (sv_Sub_cons rfl (sv_Sub_cons rfl (sv_Sub_cons rfl sv_Sub_nil))))))))) hb
        · have h := h.2 (hc)
          refine sv_iconst (d := (1 : Int)) hM dX12_binaryOf__172 rfl rfl ?_
          refine sv_goto hM dX12_binaryOf__173 (pc' := 177) rfl ?_
          have hb := J139 (1 : Int) (⟨by decide, by decide⟩ : sv_R (1 : Int)) h
          exact sv_less (lv := [(0, .ref 0), (1, sv_I p1), (2, sv_I p2), (3, sv_I p3), (4, sv_I p4), (5, sv_I p5), (6, sv_I r11), (7, sv_I (g7 1113 0)), (8, sv_I r19)]) (sv_Sub_cons rfl (sv_Sub_cons rfl (sv_Sub_cons rfl (sv_Sub_cons rfl (sv_Sub_cons rfl (sv_Sub_cons rfl (sv_Sub_cons rfl (sv_Sub_cons rfl (sv_Sub_cons rfl sv_Sub_nil))))))))) hb
    · have h := h.2 (hc)
      refine sv_iload_n hM dX12_binaryOf__37 rfl rfl ?_
      refine sv_bipush (d := (13 : Int)) hM dX12_binaryOf__38 rfl rfl ?_
      refine sv_icmp_ge hM dX12_binaryOf__40 hp1 (⟨by decide, by decide⟩ : sv_R (13 : Int)) (t := 79) rfl rfl (fun hc => ?_) (fun hc => ?_)
      · have h := h.1 (hc)
        refine sv_iload_n hM dX12_binaryOf__79 rfl rfl ?_
        refine sv_bipush (d := (15 : Int)) hM dX12_binaryOf__80 rfl rfl ?_
        refine sv_icmp_ge hM dX12_binaryOf__82 hp1 (⟨by decide, by decide⟩ : sv_R (15 : Int)) (t := 120) rfl rfl (fun hc => ?_) (fun hc => ?_)
        · have h := h.1 (hc)
          refine sv_aload_n hM dX12_binaryOf__120 rfl rfl ?_
          refine sv_aload_n hM dX12_binaryOf__121 rfl rfl ?_
          refine sv_iload_n hM dX12_binaryOf__122 rfl rfl ?_
          refine sv_iload_n hM dX12_binaryOf__123 rfl rfl ?_
          refine sv_iload_n hM dX12_binaryOf__124 rfl rfl ?_
          refine sv_iload hM dX12_binaryOf__125 rfl rfl ?_
          refine sv_iload hM dX12_binaryOf__127 rfl rfl ?_
          obtain ⟨o141, h⟩ := h
          refine sv_callV hM dX12_binaryOf__129 sm_iv_837 (by decide) (sm_a0 _) rfl rfl (Nat.le_of_ble_eq_true rfl) sm_h133 (Nat.le_of_ble_eq_true rfl) (Nat.le_of_ble_eq_true rfl) (F' := 3) (Nat.le_of_ble_eq_true rfl) rfl (t_compares p1 p2 p3 p4 p5 S ok2 hp1 hp2 hp3 hp4 hp5 o141) (fun v S1 hq => ?_)
          obtain ⟨r146, rfl, hr146, ok143, md144, hpo145⟩ := hq
          obtain ⟨g142, rfl⟩ : ∃ g, S1 = sv_sts S [1113] g := ⟨_, md144.eq⟩
          show sv_T sm_XS sm_cs sm_L sm_sh 4 (q_binaryOf_ p1 p2 p3 p4 p5 S) 137 132 [(0, .ref 0), (1, sv_I p1), (2, sv_I p2), (3, sv_I p3), (4, sv_I p4), (5, sv_I p5)] [sv_I r146, .ref 0] (sv_sts S [1113] g142)
          have md147 : sv_mod [5, 1011, 1113, 1111, 1112] S (sv_sts S [1113] g142) := sv_mod.sts sv_mod.rf (by decide)
          have h := h r146 hr146 g142 hpo145
          obtain ⟨o148, h⟩ := h
          refine sv_callV hM dX12_binaryOf__132 sm_iv_827 (by decide) (sm_a0 _) rfl rfl (Nat.le_of_ble_eq_true rfl) sm_h134 (Nat.le_of_ble_eq_true rfl) (Nat.le_of_ble_eq_true rfl) (F' := 1) (Nat.le_of_ble_eq_true rfl) rfl (t_truth r146 (sv_sts S [1113] g142) ok143 o148) (fun v S1 hq => ?_)
          obtain ⟨rfl, ok150, md151, hpo152⟩ := hq
          obtain ⟨g149, rfl⟩ : ∃ g, S1 = sv_sts (sv_sts S [1113] g142) [1111, 1112] g := ⟨_, md151.eq⟩
          show sv_T sm_XS sm_cs sm_L sm_sh 4 (q_binaryOf_ p1 p2 p3 p4 p5 S) 137 135 [(0, .ref 0), (1, sv_I p1), (2, sv_I p2), (3, sv_I p3), (4, sv_I p4), (5, sv_I p5)] [] (sv_sts (sv_sts S [1113] g142) [1111, 1112] g149)
          have md153 : sv_mod [5, 1011, 1113, 1111, 1112] S (sv_sts (sv_sts S [1113] g142) [1111, 1112] g149) := sv_mod.sts md147 (by decide)
          have h := h g149 hpo152
          exact sv_vret hM dX12_binaryOf__135 rfl ⟨rfl, ok150, md153, h⟩
        · have h := h.2 (hc)
          refine sv_aload_n hM dX12_binaryOf__85 rfl rfl ?_
          refine sv_iload_n hM dX12_binaryOf__86 rfl rfl ?_
          refine sv_iload_n hM dX12_binaryOf__87 rfl rfl ?_
          refine sv_iload hM dX12_binaryOf__88 rfl rfl ?_
          refine sv_iload hM dX12_binaryOf__90 rfl rfl ?_
          refine sv_callS hM dX12_binaryOf__92 sm_iv_812 (Nat.le_of_ble_eq_true rfl) rfl rfl (Nat.le_of_ble_eq_true rfl) sm_h130 (Nat.le_of_ble_eq_true rfl) (Nat.le_of_ble_eq_true rfl) (F' := 0) (Nat.le_of_ble_eq_true rfl) rfl (t_isSame p2 p3 p4 p5 S ok2 hp2 hp3 hp4 hp5) (fun v S1 hq => ?_)
          obtain ⟨r158, rfl, hr158, ok155, md156, hpo157⟩ := hq
          obtain rfl : S = S1 := (funext fun j => md156 j (by intro q; cases q)).symm
          show sv_T sm_XS sm_cs sm_L sm_sh 4 (q_binaryOf_ p1 p2 p3 p4 p5 S) 137 95 [(0, .ref 0), (1, sv_I p1), (2, sv_I p2), (3, sv_I p3), (4, sv_I p4), (5, sv_I p5)] [sv_I r158, .ref 0] S
          have h := h r158 hr158 hpo157
          refine sv_iload_n hM dX12_binaryOf__95 rfl rfl ?_
          refine sv_bipush (d := (13 : Int)) hM dX12_binaryOf__96 rfl rfl ?_
          refine sv_icmp_ne hM dX12_binaryOf__98 hp1 (⟨by decide, by decide⟩ : sv_R (13 : Int)) (t := 105) rfl rfl (fun hc => ?_) (fun hc => ?_)
          · have h := h.1 (hc)
            refine sv_iconst (d := (0 : Int)) hM dX12_binaryOf__105 rfl rfl ?_
            refine sv_icmp_ne hM dX12_binaryOf__106 hr158 (⟨by decide, by decide⟩ : sv_R (0 : Int)) (t := 113) rfl rfl (fun hc => ?_) (fun hc => ?_)
            · have h := h.1 (hc)
              refine sv_iconst (d := (0 : Int)) hM dX12_binaryOf__113 rfl rfl ?_
              refine sv_callV hM dX12_binaryOf__114 sm_iv_827 (by decide) (sm_a0 _) rfl rfl (Nat.le_of_ble_eq_true rfl) sm_h134 (Nat.le_of_ble_eq_true rfl) (Nat.le_of_ble_eq_true rfl) (F' := 1) (Nat.le_of_ble_eq_true rfl) rfl (t_truth (0 : Int) S ok155 (⟨by decide, by decide⟩ : 0 ≤ (0 : Int) ∧ (0 : Int) ≤ 1)) (fun v S1 hq => ?_)
              obtain ⟨rfl, ok160, md161, hpo162⟩ := hq
              obtain ⟨g159, rfl⟩ : ∃ g, S1 = sv_sts S [1111, 1112] g := ⟨_, md161.eq⟩
              show sv_T sm_XS sm_cs sm_L sm_sh 4 (q_binaryOf_ p1 p2 p3 p4 p5 S) 137 117 [(0, .ref 0), (1, sv_I p1), (2, sv_I p2), (3, sv_I p3), (4, sv_I p4), (5, sv_I p5)] [] (sv_sts S [1111, 1112] g159)
              have md163 : sv_mod [5, 1011, 1113, 1111, 1112] S (sv_sts S [1111, 1112] g159) := sv_mod.sts sv_mod.rf (by decide)
              have h := h g159 hpo162
              refine sv_goto hM dX12_binaryOf__117 (pc' := 135) rfl ?_
              exact sv_vret hM dX12_binaryOf__135 rfl ⟨rfl, ok160, md163, h⟩
            · have h := h.2 (hc)
              refine sv_iconst (d := (1 : Int)) hM dX12_binaryOf__109 rfl rfl ?_
              refine sv_goto hM dX12_binaryOf__110 (pc' := 114) rfl ?_
              refine sv_callV hM dX12_binaryOf__114 sm_iv_827 (by decide) (sm_a0 _) rfl rfl (Nat.le_of_ble_eq_true rfl) sm_h134 (Nat.le_of_ble_eq_true rfl) (Nat.le_of_ble_eq_true rfl) (F' := 1) (Nat.le_of_ble_eq_true rfl) rfl (t_truth (1 : Int) S ok155 (⟨by decide, by decide⟩ : 0 ≤ (1 : Int) ∧ (1 : Int) ≤ 1)) (fun v S1 hq => ?_)
              obtain ⟨rfl, ok165, md166, hpo167⟩ := hq
              obtain ⟨g164, rfl⟩ : ∃ g, S1 = sv_sts S [1111, 1112] g := ⟨_, md166.eq⟩
              show sv_T sm_XS sm_cs sm_L sm_sh 4 (q_binaryOf_ p1 p2 p3 p4 p5 S) 137 117 [(0, .ref 0), (1, sv_I p1), (2, sv_I p2), (3, sv_I p3), (4, sv_I p4), (5, sv_I p5)] [] (sv_sts S [1111, 1112] g164)
              have md168 : sv_mod [5, 1011, 1113, 1111, 1112] S (sv_sts S [1111, 1112] g164) := sv_mod.sts sv_mod.rf (by decide)
              have h := h g164 hpo167
              refine sv_goto hM dX12_binaryOf__117 (pc' := 135) rfl ?_
              exact sv_vret hM dX12_binaryOf__135 rfl ⟨rfl, ok165, md168, h⟩
          · have h := h.2 (hc)
            refine sv_iconst (d := (1 : Int)) hM dX12_binaryOf__101 rfl rfl ?_
            refine sv_goto hM dX12_binaryOf__102 (pc' := 106) rfl ?_
            refine sv_icmp_ne hM dX12_binaryOf__106 hr158 (⟨by decide, by decide⟩ : sv_R (1 : Int)) (t := 113) rfl rfl (fun hc => ?_) (fun hc => ?_)
            · have h := h.1 (hc)
              refine sv_iconst (d := (0 : Int)) hM dX12_binaryOf__113 rfl rfl ?_
              refine sv_callV hM dX12_binaryOf__114 sm_iv_827 (by decide) (sm_a0 _) rfl rfl (Nat.le_of_ble_eq_true rfl) sm_h134 (Nat.le_of_ble_eq_true rfl) (Nat.le_of_ble_eq_true rfl) (F' := 1) (Nat.le_of_ble_eq_true rfl) rfl (t_truth (0 : Int) S ok155 (⟨by decide, by decide⟩ : 0 ≤ (0 : Int) ∧ (0 : Int) ≤ 1)) (fun v S1 hq => ?_)
              obtain ⟨rfl, ok170, md171, hpo172⟩ := hq
              obtain ⟨g169, rfl⟩ : ∃ g, S1 = sv_sts S [1111, 1112] g := ⟨_, md171.eq⟩
              show sv_T sm_XS sm_cs sm_L sm_sh 4 (q_binaryOf_ p1 p2 p3 p4 p5 S) 137 117 [(0, .ref 0), (1, sv_I p1), (2, sv_I p2), (3, sv_I p3), (4, sv_I p4), (5, sv_I p5)] [] (sv_sts S [1111, 1112] g169)
              have md173 : sv_mod [5, 1011, 1113, 1111, 1112] S (sv_sts S [1111, 1112] g169) := sv_mod.sts sv_mod.rf (by decide)
              have h := h g169 hpo172
              refine sv_goto hM dX12_binaryOf__117 (pc' := 135) rfl ?_
              exact sv_vret hM dX12_binaryOf__135 rfl ⟨rfl, ok170, md173, h⟩
            · have h := h.2 (hc)
              refine sv_iconst (d := (1 : Int)) hM dX12_binaryOf__109 rfl rfl ?_
              refine sv_goto hM dX12_binaryOf__110 (pc' := 114) rfl ?_
              refine sv_callV hM dX12_binaryOf__114 sm_iv_827 (by decide) (sm_a0 _) rfl rfl (Nat.le_of_ble_eq_true rfl) sm_h134 (Nat.le_of_ble_eq_true rfl) (Nat.le_of_ble_eq_true rfl) (F' := 1) (Nat.le_of_ble_eq_true rfl) rfl (t_truth (1 : Int) S ok155 (⟨by decide, by decide⟩ : 0 ≤ (1 : Int) ∧ (1 : Int) ≤ 1)) (fun v S1 hq => ?_)
              obtain ⟨rfl, ok175, md176, hpo177⟩ := hq
              obtain ⟨g174, rfl⟩ : ∃ g, S1 = sv_sts S [1111, 1112] g := ⟨_, md176.eq⟩
              show sv_T sm_XS sm_cs sm_L sm_sh 4 (q_binaryOf_ p1 p2 p3 p4 p5 S) 137 117 [(0, .ref 0), (1, sv_I p1), (2, sv_I p2), (3, sv_I p3), (4, sv_I p4), (5, sv_I p5)] [] (sv_sts S [1111, 1112] g174)
              have md178 : sv_mod [5, 1011, 1113, 1111, 1112] S (sv_sts S [1111, 1112] g174) := sv_mod.sts sv_mod.rf (by decide)
              have h := h g174 hpo177
              refine sv_goto hM dX12_binaryOf__117 (pc' := 135) rfl ?_
              exact sv_vret hM dX12_binaryOf__135 rfl ⟨rfl, ok175, md178, h⟩
      · have h := h.2 (hc)
        refine sv_aload_n hM dX12_binaryOf__43 rfl rfl ?_
        refine sv_aload_n hM dX12_binaryOf__44 rfl rfl ?_
        refine sv_iload_n hM dX12_binaryOf__45 rfl rfl ?_
        refine sv_iload_n hM dX12_binaryOf__46 rfl rfl ?_
        refine sv_iload hM dX12_binaryOf__47 rfl rfl ?_
        refine sv_iload hM dX12_binaryOf__49 rfl rfl ?_
        obtain ⟨o179, h⟩ := h
        refine sv_callV hM dX12_binaryOf__51 sm_iv_834 (by decide) (sm_a0 _) rfl rfl (Nat.le_of_ble_eq_true rfl) sm_h131 (Nat.le_of_ble_eq_true rfl) (Nat.le_of_ble_eq_true rfl) (F' := 3) (Nat.le_of_ble_eq_true rfl) rfl (t_isEqual p2 p3 p4 p5 S ok2 hp2 hp3 hp4 hp5 o179) (fun v S1 hq => ?_)
        obtain ⟨r184, rfl, hr184, ok181, md182, hpo183⟩ := hq
        obtain ⟨g180, rfl⟩ : ∃ g, S1 = sv_sts S [1113] g := ⟨_, md182.eq⟩
        show sv_T sm_XS sm_cs sm_L sm_sh 4 (q_binaryOf_ p1 p2 p3 p4 p5 S) 137 54 [(0, .ref 0), (1, sv_I p1), (2, sv_I p2), (3, sv_I p3), (4, sv_I p4), (5, sv_I p5)] [sv_I r184, .ref 0] (sv_sts S [1113] g180)
        have md185 : sv_mod [5, 1011, 1113, 1111, 1112] S (sv_sts S [1113] g180) := sv_mod.sts sv_mod.rf (by decide)
        have h := h r184 hr184 g180 hpo183
        refine sv_iload_n hM dX12_binaryOf__54 rfl rfl ?_
        refine sv_bipush (d := (11 : Int)) hM dX12_binaryOf__55 rfl rfl ?_
        refine sv_icmp_ne hM dX12_binaryOf__57 hp1 (⟨by decide, by decide⟩ : sv_R (11 : Int)) (t := 64) rfl rfl (fun hc => ?_) (fun hc => ?_)
        · have h := h.1 (hc)
          refine sv_iconst (d := (0 : Int)) hM dX12_binaryOf__64 rfl rfl ?_
          refine sv_icmp_ne hM dX12_binaryOf__65 hr184 (⟨by decide, by decide⟩ : sv_R (0 : Int)) (t := 72) rfl rfl (fun hc => ?_) (fun hc => ?_)
          · have h := h.1 (hc)
            refine sv_iconst (d := (0 : Int)) hM dX12_binaryOf__72 rfl rfl ?_
            refine sv_callV hM dX12_binaryOf__73 sm_iv_827 (by decide) (sm_a0 _) rfl rfl (Nat.le_of_ble_eq_true rfl) sm_h134 (Nat.le_of_ble_eq_true rfl) (Nat.le_of_ble_eq_true rfl) (F' := 1) (Nat.le_of_ble_eq_true rfl) rfl (t_truth (0 : Int) (sv_sts S [1113] g180) ok181 (⟨by decide, by decide⟩ : 0 ≤ (0 : Int) ∧ (0 : Int) ≤ 1)) (fun v S1 hq => ?_)
            obtain ⟨rfl, ok187, md188, hpo189⟩ := hq
            obtain ⟨g186, rfl⟩ : ∃ g, S1 = sv_sts (sv_sts S [1113] g180) [1111, 1112] g := ⟨_, md188.eq⟩
            show sv_T sm_XS sm_cs sm_L sm_sh 4 (q_binaryOf_ p1 p2 p3 p4 p5 S) 137 76 [(0, .ref 0), (1, sv_I p1), (2, sv_I p2), (3, sv_I p3), (4, sv_I p4), (5, sv_I p5)] [] (sv_sts (sv_sts S [1113] g180) [1111, 1112] g186)
            have md190 : sv_mod [5, 1011, 1113, 1111, 1112] S (sv_sts (sv_sts S [1113] g180) [1111, 1112] g186) := sv_mod.sts md185 (by decide)
            have h := h g186 hpo189
            refine sv_goto hM dX12_binaryOf__76 (pc' := 135) rfl ?_
            exact sv_vret hM dX12_binaryOf__135 rfl ⟨rfl, ok187, md190, h⟩
          · have h := h.2 (hc)
            refine sv_iconst (d := (1 : Int)) hM dX12_binaryOf__68 rfl rfl ?_
            refine sv_goto hM dX12_binaryOf__69 (pc' := 73) rfl ?_
            refine sv_callV hM dX12_binaryOf__73 sm_iv_827 (by decide) (sm_a0 _) rfl rfl (Nat.le_of_ble_eq_true rfl) sm_h134 (Nat.le_of_ble_eq_true rfl) (Nat.le_of_ble_eq_true rfl) (F' := 1) (Nat.le_of_ble_eq_true rfl) rfl (t_truth (1 : Int) (sv_sts S [1113] g180) ok181 (⟨by decide, by decide⟩ : 0 ≤ (1 : Int) ∧ (1 : Int) ≤ 1)) (fun v S1 hq => ?_)
            obtain ⟨rfl, ok192, md193, hpo194⟩ := hq
            obtain ⟨g191, rfl⟩ : ∃ g, S1 = sv_sts (sv_sts S [1113] g180) [1111, 1112] g := ⟨_, md193.eq⟩
            show sv_T sm_XS sm_cs sm_L sm_sh 4 (q_binaryOf_ p1 p2 p3 p4 p5 S) 137 76 [(0, .ref 0), (1, sv_I p1), (2, sv_I p2), (3, sv_I p3), (4, sv_I p4), (5, sv_I p5)] [] (sv_sts (sv_sts S [1113] g180) [1111, 1112] g191)
            have md195 : sv_mod [5, 1011, 1113, 1111, 1112] S (sv_sts (sv_sts S [1113] g180) [1111, 1112] g191) := sv_mod.sts md185 (by decide)
            have h := h g191 hpo194
            refine sv_goto hM dX12_binaryOf__76 (pc' := 135) rfl ?_
            exact sv_vret hM dX12_binaryOf__135 rfl ⟨rfl, ok192, md195, h⟩
        · have h := h.2 (hc)
          refine sv_iconst (d := (1 : Int)) hM dX12_binaryOf__60 rfl rfl ?_
          refine sv_goto hM dX12_binaryOf__61 (pc' := 65) rfl ?_
          refine sv_icmp_ne hM dX12_binaryOf__65 hr184 (⟨by decide, by decide⟩ : sv_R (1 : Int)) (t := 72) rfl rfl (fun hc => ?_) (fun hc => ?_)
          · have h := h.1 (hc)
            refine sv_iconst (d := (0 : Int)) hM dX12_binaryOf__72 rfl rfl ?_
            refine sv_callV hM dX12_binaryOf__73 sm_iv_827 (by decide) (sm_a0 _) rfl rfl (Nat.le_of_ble_eq_true rfl) sm_h134 (Nat.le_of_ble_eq_true rfl) (Nat.le_of_ble_eq_true rfl) (F' := 1) (Nat.le_of_ble_eq_true rfl) rfl (t_truth (0 : Int) (sv_sts S [1113] g180) ok181 (⟨by decide, by decide⟩ : 0 ≤ (0 : Int) ∧ (0 : Int) ≤ 1)) (fun v S1 hq => ?_)
            obtain ⟨rfl, ok197, md198, hpo199⟩ := hq
            obtain ⟨g196, rfl⟩ : ∃ g, S1 = sv_sts (sv_sts S [1113] g180) [1111, 1112] g := ⟨_, md198.eq⟩
            show sv_T sm_XS sm_cs sm_L sm_sh 4 (q_binaryOf_ p1 p2 p3 p4 p5 S) 137 76 [(0, .ref 0), (1, sv_I p1), (2, sv_I p2), (3, sv_I p3), (4, sv_I p4), (5, sv_I p5)] [] (sv_sts (sv_sts S [1113] g180) [1111, 1112] g196)
            have md200 : sv_mod [5, 1011, 1113, 1111, 1112] S (sv_sts (sv_sts S [1113] g180) [1111, 1112] g196) := sv_mod.sts md185 (by decide)
            have h := h g196 hpo199
            refine sv_goto hM dX12_binaryOf__76 (pc' := 135) rfl ?_
            exact sv_vret hM dX12_binaryOf__135 rfl ⟨rfl, ok197, md200, h⟩
          · have h := h.2 (hc)
            refine sv_iconst (d := (1 : Int)) hM dX12_binaryOf__68 rfl rfl ?_
            refine sv_goto hM dX12_binaryOf__69 (pc' := 73) rfl ?_
            refine sv_callV hM dX12_binaryOf__73 sm_iv_827 (by decide) (sm_a0 _) rfl rfl (Nat.le_of_ble_eq_true rfl) sm_h134 (Nat.le_of_ble_eq_true rfl) (Nat.le_of_ble_eq_true rfl) (F' := 1) (Nat.le_of_ble_eq_true rfl) rfl (t_truth (1 : Int) (sv_sts S [1113] g180) ok181 (⟨by decide, by decide⟩ : 0 ≤ (1 : Int) ∧ (1 : Int) ≤ 1)) (fun v S1 hq => ?_)
            obtain ⟨rfl, ok202, md203, hpo204⟩ := hq
            obtain ⟨g201, rfl⟩ : ∃ g, S1 = sv_sts (sv_sts S [1113] g180) [1111, 1112] g := ⟨_, md203.eq⟩
            show sv_T sm_XS sm_cs sm_L sm_sh 4 (q_binaryOf_ p1 p2 p3 p4 p5 S) 137 76 [(0, .ref 0), (1, sv_I p1), (2, sv_I p2), (3, sv_I p3), (4, sv_I p4), (5, sv_I p5)] [] (sv_sts (sv_sts S [1113] g180) [1111, 1112] g201)
            have md205 : sv_mod [5, 1011, 1113, 1111, 1112] S (sv_sts (sv_sts S [1113] g180) [1111, 1112] g201) := sv_mod.sts md185 (by decide)
            have h := h g201 hpo204
            refine sv_goto hM dX12_binaryOf__76 (pc' := 135) rfl ?_
            exact sv_vret hM dX12_binaryOf__135 rfl ⟨rfl, ok202, md205, h⟩
  · have h := h.2 (hc)
    refine sv_aload_n hM dX12_binaryOf__11 rfl rfl ?_
    refine sv_iconst (d := (0 : Int)) hM dX12_binaryOf__12 rfl rfl ?_
    refine sv_putI sm_X hM dX12_binaryOf__13 sm_fp_299 (sm_a0 _) sm_q11 (Or.inl rfl) rfl rfl rfl rfl ?_
    have ok206 : sm_ok (sv_up S 1011 0 (0 : Int)) := sm_upI ok2 sm_r1011 (⟨by decide, by decide⟩ : sv_R (0 : Int))
    have md207 : sv_mod [5, 1011, 1113, 1111, 1112] S (sv_up S 1011 0 (0 : Int)) := sv_mod.up sv_mod.rf (by decide)
    refine sv_aload_n hM dX12_binaryOf__16 rfl rfl ?_
    refine sv_iload_n hM dX12_binaryOf__17 rfl rfl ?_
    refine sv_iload_n hM dX12_binaryOf__18 rfl rfl ?_
    obtain ⟨o208, h⟩ := h
    refine sv_callV hM dX12_binaryOf__19 sm_iv_800 (by decide) (sm_a0 _) rfl rfl (Nat.le_of_ble_eq_true rfl) sm_h125 (Nat.le_of_ble_eq_true rfl) (Nat.le_of_ble_eq_true rfl) (F' := 2) (Nat.le_of_ble_eq_true rfl) rfl (t_putText p2 p3 (sv_up S 1011 0 (0 : Int)) ok206 hp2 hp3 o208) (fun v S1 hq => ?_)
    obtain ⟨rfl, ok210, md211, hpo212⟩ := hq
    obtain ⟨g209, rfl⟩ : ∃ g, S1 = sv_sts (sv_up S 1011 0 (0 : Int)) [5, 1011] g := ⟨_, md211.eq⟩
    show sv_T sm_XS sm_cs sm_L sm_sh 4 (q_binaryOf_ p1 p2 p3 p4 p5 S) 137 22 [(0, .ref 0), (1, sv_I p1), (2, sv_I p2), (3, sv_I p3), (4, sv_I p4), (5, sv_I p5)] [] (sv_sts (sv_up S 1011 0 (0 : Int)) [5, 1011] g209)
    have md213 : sv_mod [5, 1011, 1113, 1111, 1112] S (sv_sts (sv_up S 1011 0 (0 : Int)) [5, 1011] g209) := sv_mod.sts md207 (by decide)
    have h := h g209 hpo212
    refine sv_aload_n hM dX12_binaryOf__22 rfl rfl ?_
    refine sv_iload hM dX12_binaryOf__23 rfl rfl ?_
    refine sv_iload hM dX12_binaryOf__25 rfl rfl ?_
    obtain ⟨o214, h⟩ := h
    refine sv_callV hM dX12_binaryOf__27 sm_iv_800 (by decide) (sm_a0 _) rfl rfl (Nat.le_of_ble_eq_true rfl) sm_h125 (Nat.le_of_ble_eq_true rfl) (Nat.le_of_ble_eq_true rfl) (F' := 2) (Nat.le_of_ble_eq_true rfl) rfl (t_putText p4 p5 (sv_sts (sv_up S 1011 0 (0 : Int)) [5, 1011] g209) ok210 hp4 hp5 o214) (fun v S1 hq => ?_)
    obtain ⟨rfl, ok216, md217, hpo218⟩ := hq
    obtain ⟨g215, rfl⟩ : ∃ g, S1 = sv_sts (sv_sts (sv_up S 1011 0 (0 : Int)) [5, 1011] g209) [5, 1011] g := ⟨_, md217.eq⟩
    show sv_T sm_XS sm_cs sm_L sm_sh 4 (q_binaryOf_ p1 p2 p3 p4 p5 S) 137 30 [(0, .ref 0), (1, sv_I p1), (2, sv_I p2), (3, sv_I p3), (4, sv_I p4), (5, sv_I p5)] [] (sv_sts (sv_sts (sv_up S 1011 0 (0 : Int)) [5, 1011] g209) [5, 1011] g215)
    have md219 : sv_mod [5, 1011, 1113, 1111, 1112] S (sv_sts (sv_sts (sv_up S 1011 0 (0 : Int)) [5, 1011] g209) [5, 1011] g215) := sv_mod.sts md213 (by decide)
    have h := h g215 hpo218
    exact sv_vret hM dX12_binaryOf__30 rfl ⟨rfl, ok216, md219, h⟩
def q_indexOf (p1 : Int) (S : sv_S) : Option Value → sv_S → Prop := fun v S' => ∃ r : Int, v = some (sv_I r) ∧ sv_R r ∧ sm_ok S' ∧ sv_mod [] S S' ∧ (-1 ≤ r ∧ r ≤ 99)
theorem la_indexOf_0 {x0 : Int} (h0 : 0 ≤ x0) (h1 : x0 < 400) : 0 ≤ x0 ∧ x0 < 400 := by omega
theorem la_indexOf_1 {x0 : Int} : x0 < 1 → ((-1) : Int) ≤ (-1) ∧ ((-1) : Int) ≤ 99 := by omega
theorem la_indexOf_2 {x0 : Int} (h0 : 0 ≤ x0) (h1 : x0 < 400) : 0 ≤ 60 * x0 ∧ 60 * x0 < 24000 := by omega
theorem la_indexOf_3 {x0 : Int} (h0 : x0 ≤ 2) (h1 : ¬ x0 = 2) : x0 < 2 := by omega
theorem la_indexOf_4 {x0 : Int} : ¬ (x0 ≥ 48 ∧ x0 ≤ 57) → ((-1) : Int) ≤ (-1) ∧ ((-1) : Int) ≤ 99 := by omega
theorem la_indexOf_5 : ¬ ((48 : Int) ≥ 48 ∧ (48 : Int) ≤ 57) → ((-1) : Int) ≤ (-1) ∧ ((-1) : Int) ≤ 99 := by omega
theorem la_indexOf_6 {x0 x1 : Int} (h0 : ¬ x0 < 1) (h1 : x0 < 2) (h2 : x1 ≥ 48) (h3 : x1 ≤ 57) : ¬ x0 = 2 → (¬ x0 = 1 → sv_R (10 * (x1 - 48) + 48 - 48) ∧ (-1) ≤ 10 * (x1 - 48) + 48 - 48 ∧ 10 * (x1 - 48) + 48 - 48 ≤ 99) ∧ (¬ ¬ x0 = 1 → sv_R (x1 - 48) ∧ (-1) ≤ x1 - 48 ∧ x1 - 48 ≤ 99) := by omega
theorem la_indexOf_7 {x0 x1 : Int} (h0 : x0 ≥ 48) (h1 : x0 ≤ 57) (h2 : ¬ ¬ x1 = 2) : ¬ x0 = 48 → (¬ x1 = 1 → sv_R (10 * (x0 - 48) + 48 - 48) ∧ (-1) ≤ 10 * (x0 - 48) + 48 - 48 ∧ 10 * (x0 - 48) + 48 - 48 ≤ 99) ∧ (¬ ¬ x1 = 1 → sv_R (x0 - 48) ∧ (-1) ≤ x0 - 48 ∧ x0 - 48 ≤ 99) := by omega
theorem la_indexOf_8 : ((-1) : Int) ≤ (-1) := by omega
theorem la_indexOf_9 : ((-1) : Int) ≤ 99 := by omega
theorem la_indexOf_10 {x0 : Int} (h0 : 0 ≤ x0) (h1 : x0 < 400) : 0 ≤ 60 * x0 + 1 ∧ 60 * x0 + 1 < 24000 := by omega
theorem la_indexOf_11 {x0 x1 x2 : Int} (h0 : x0 ≤ 2) (h1 : ¬ ¬ x0 = 2) (h2 : x1 ≥ 48) (h3 : x1 ≤ 57) (h4 : x2 ≥ 48) (h5 : x2 ≤ 57) : ¬ x0 = 2 → (¬ x0 = 1 → sv_R (10 * (x1 - 48) + x2 - 48) ∧ (-1) ≤ 10 * (x1 - 48) + x2 - 48 ∧ 10 * (x1 - 48) + x2 - 48 ≤ 99) ∧ (¬ ¬ x0 = 1 → sv_R (x1 - 48) ∧ (-1) ≤ x1 - 48 ∧ x1 - 48 ≤ 99) := by omega
theorem la_indexOf_12 {x0 x1 x2 : Int} (h0 : ¬ ¬ x0 = 2) (h1 : x1 ≥ 48) (h2 : x1 ≤ 57) (h3 : x2 ≥ 48) (h4 : x2 ≤ 57) : ¬ x1 = 48 → (¬ x0 = 1 → sv_R (10 * (x1 - 48) + x2 - 48) ∧ (-1) ≤ 10 * (x1 - 48) + x2 - 48 ∧ 10 * (x1 - 48) + x2 - 48 ≤ 99) ∧ (¬ ¬ x0 = 1 → sv_R (x1 - 48) ∧ (-1) ≤ x1 - 48 ∧ x1 - 48 ≤ 99) := by omega
set_option maxHeartbeats 2000000 in
theorem f_indexOf : ∀ (p1 : Int) (S : sv_S), sm_ok S → sv_R p1 → (31 ≤ (S 1007 0) ∧ (S 1007 0) ≤ 400 ∧ sm_LN (S 4) 400 (S 1007 0) ∧ 0 ≤ p1 ∧ p1 < 400) → (0 ≤ p1 ∧ p1 < 400) ∧ (sv_R (S 4 p1) → ((((S 4 p1) < (1 : Int)) → (-1 ≤ (-1 : Int) ∧ (-1 : Int) ≤ 99)) ∧ ((¬ ((S 4 p1) < (1 : Int))) → ((((S 4 p1) ≤ (2 : Int)) → (0 ≤ ((60 : Int) * p1) ∧ ((60 : Int) * p1) < 24000) ∧ ((0 ≤ (S 3 ((60 : Int) * p1)) ∧ (S 3 ((60 : Int) * p1)) ≤ 65535) → (((¬ (S 4 p1) = (2 : Int)) → (((¬ (((S 3 ((60 : Int) * p1)) ≥ 48 ∧ (S 3 ((60 : Int) * p1)) ≤ 57))) → (-1 ≤ (-1 : Int) ∧ (-1 : Int) ≤ 99)) ∧ ((((S 3 ((60 : Int) * p1)) ≥ 48 ∧ (S 3 ((60 : Int) * p1)) ≤ 57)) → (((¬ (((48 : Int) ≥ 48 ∧ (48 : Int) ≤ 57))) → (-1 ≤ (-1 : Int) ∧ (-1 : Int) ≤ 99)) ∧ ((((48 : Int) ≥ 48 ∧ (48 : Int) ≤ 57)) → (((¬ (S 4 p1) = (2 : Int)) → (((¬ (S 4 p1) = (1 : Int)) → (sv_R ((((10 : Int) * ((S 3 ((60 : Int) * p1)) - (48 : Int))) + (48 : Int)) - (48 : Int))) ∧ (-1 ≤ ((((10 : Int) * ((S 3 ((60 : Int) * p1)) - (48 : Int))) + (48 : Int)) - (48 : Int)) ∧ ((((10 : Int) * ((S 3 ((60 : Int) * p1)) - (48 : Int))) + (48 : Int)) - (48 : Int)) ≤ 99)) ∧ ((¬ (¬ (S 4 p1) = (1 : Int))) → (sv_R ((S 3 ((60 : Int) * p1)) - (48 : Int))) ∧ (-1 ≤ ((S 3 ((60 : Int) * p1)) - (48 : Int)) ∧ ((S 3 ((60 : Int) * p1)) - (48 : Int)) ≤ 99)))) ∧ ((¬ (¬ (S 4 p1) = (2 : Int))) → (((¬ (S 3 ((60 : Int) * p1)) = (48 : Int)) → (((¬ (S 4 p1) = (1 : Int)) → (sv_R ((((10 : Int) * ((S 3 ((60 : Int) * p1)) - (48 : Int))) + (48 : Int)) - (48 : Int))) ∧ (-1 ≤ ((((10 : Int) * ((S 3 ((60 : Int) * p1)) - (48 : Int))) + (48 : Int)) - (48 : Int)) ∧ ((((10 : Int) * ((S 3 ((60 : Int) * p1)) - (48 : Int))) + (48 : Int)) - (48 : Int)) ≤ 99)) ∧ ((¬ (¬ (S 4 p1) = (1 : Int))) → (sv_R ((S 3 ((60 : Int) * p1)) - (48 : Int))) ∧ (-1 ≤ ((S 3 ((60 : Int) * p1)) - (48 : Int)) ∧ ((S 3 ((60 : Int) * p1)) - (48 : Int)) ≤ 99)))) ∧ ((¬ (¬ (S 3 ((60 : Int) * p1)) = (48 : Int))) → (-1 ≤ (-1 : Int) ∧ (-1 : Int) ≤ 99)))))))))) ∧ ((¬ (¬ (S 4 p1) = (2 : Int))) → (0 ≤ (((60 : Int) * p1) + (1 : Int)) ∧ (((60 : Int) * p1) + (1 : Int)) < 24000) ∧ ((0 ≤ (S 3 (((60 : Int) * p1) + (1 : Int))) ∧ (S 3 (((60 : Int) * p1) + (1 : Int))) ≤ 65535) → (∀ x11 : Int, (S 3 (((60 : Int) * p1) + (1 : Int))) = x11 → (((¬ (((S 3 ((60 : Int) * p1)) ≥ 48 ∧ (S 3 ((60 : Int) * p1)) ≤ 57))) → (-1 ≤ (-1 : Int) ∧ (-1 : Int) ≤ 99)) ∧ ((((S 3 ((60 : Int) * p1)) ≥ 48 ∧ (S 3 ((60 : Int) * p1)) ≤ 57)) → (((¬ ((x11 ≥ 48 ∧ x11 ≤ 57))) → (-1 ≤ (-1 : Int) ∧ (-1 : Int) ≤ 99)) ∧ (((x11 ≥ 48 ∧ x11 ≤ 57)) → (((¬ (S 4 p1) = (2 : Int)) → (((¬ (S 4 p1) = (1 : Int)) → (sv_R ((((10 : Int) * ((S 3 ((60 : Int) * p1)) - (48 : Int))) + x11) - (48 : Int))) ∧ (-1 ≤ ((((10 : Int) * ((S 3 ((60 : Int) * p1)) - (48 : Int))) + x11) - (48 : Int)) ∧ ((((10 : Int) * ((S 3 ((60 : Int) * p1)) - (48 : Int))) + x11) - (48 : Int)) ≤ 99)) ∧ ((¬ (¬ (S 4 p1) = (1 : Int))) → (sv_R ((S 3 ((60 : Int) * p1)) - (48 : Int))) ∧ (-1 ≤ ((S 3 ((60 : Int) * p1)) - (48 : Int)) ∧ ((S 3 ((60 : Int) * p1)) - (48 : Int)) ≤ 99)))) ∧ ((¬ (¬ (S 4 p1) = (2 : Int))) → (((¬ (S 3 ((60 : Int) * p1)) = (48 : Int)) → (((¬ (S 4 p1) = (1 : Int)) → (sv_R ((((10 : Int) * ((S 3 ((60 : Int) * p1)) - (48 : Int))) + x11) - (48 : Int))) ∧ (-1 ≤ ((((10 : Int) * ((S 3 ((60 : Int) * p1)) - (48 : Int))) + x11) - (48 : Int)) ∧ ((((10 : Int) * ((S 3 ((60 : Int) * p1)) - (48 : Int))) + x11) - (48 : Int)) ≤ 99)) ∧ ((¬ (¬ (S 4 p1) = (1 : Int))) → (sv_R ((S 3 ((60 : Int) * p1)) - (48 : Int))) ∧ (-1 ≤ ((S 3 ((60 : Int) * p1)) - (48 : Int)) ∧ ((S 3 ((60 : Int) * p1)) - (48 : Int)) ≤ 99)))) ∧ ((¬ (¬ (S 3 ((60 : Int) * p1)) = (48 : Int))) → (-1 ≤ (-1 : Int) ∧ (-1 : Int) ≤ 99))))))))))))))) ∧ ((¬ ((S 4 p1) ≤ (2 : Int))) → (-1 ≤ (-1 : Int) ∧ (-1 : Int) ≤ 99)))))) := by
  intro p1
  intro S
  intro h1_
  intro h2_
  rintro ⟨h3_, ⟨h4_, ⟨h5_, ⟨h6_, h7_⟩⟩⟩⟩
  refine ⟨(la_indexOf_0 h6_ h7_), ?_⟩
  intro h8_
  refine ⟨la_indexOf_1, ?_⟩
  intro h9_
  refine ⟨?_, ?_⟩
  · skip
    intro h10_
    refine ⟨(la_indexOf_2 h6_ h7_), ?_⟩
    rintro ⟨h11_, h12_⟩
    refine ⟨?_, ?_⟩
    · skip
      intro h13_
      refine ⟨la_indexOf_4, ?_⟩
      rintro ⟨h14_, h15_⟩
      refine ⟨la_indexOf_5, ?_⟩
      rintro ⟨h16_, h17_⟩
      refine ⟨(la_indexOf_6 h9_ (la_indexOf_3 h10_ h13_) h14_ h15_), ?_⟩
      intro h18_
      refine ⟨(la_indexOf_7 h14_ h15_ h18_), ?_⟩
      intro h19_
      refine ⟨la_indexOf_8, ?_⟩
      exact la_indexOf_9
    intro h20_
    refine ⟨(la_indexOf_10 h6_ h7_), ?_⟩
    rintro ⟨h21_, h22_⟩
    intro x11
    intro h23_
    refine ⟨la_indexOf_4, ?_⟩
    rintro ⟨h24_, h25_⟩
    refine ⟨la_indexOf_4, ?_⟩
    rintro ⟨h26_, h27_⟩
    refine ⟨(la_indexOf_11 h10_ h20_ h24_ h25_ h26_ h27_), ?_⟩
    intro h28_
    refine ⟨(la_indexOf_12 h20_ h24_ h25_ h26_ h27_), ?_⟩
    intro h29_
    refine ⟨la_indexOf_8, ?_⟩
    exact la_indexOf_9
  intro h30_
  refine ⟨la_indexOf_8, ?_⟩
  exact la_indexOf_9
set_option maxRecDepth 8000 in
set_option maxHeartbeats 2000000 in
theorem t_indexOf : ∀ (p1 : Int) (S : sv_S), sm_ok S → sv_R p1 → (31 ≤ (S 1007 0) ∧ (S 1007 0) ≤ 400 ∧ sm_LN (S 4) 400 (S 1007 0) ∧ 0 ≤ p1 ∧ p1 < 400) → sv_T sm_XS sm_cs sm_L sm_sh 1 (q_indexOf p1 S) 145 0 (lv_args 0 [.ref 0, sv_I p1]) [] S := by
  intro p1 S hok hp1 hpre
  have h := f_indexOf p1 S hok hp1 hpre
  have hM := sm_h145
  show sv_T sm_XS sm_cs sm_L sm_sh 1 (q_indexOf p1 S) 145 0 [(0, .ref 0), (1, sv_I p1)] [] S
  refine sv_aload_n hM dX12_indexOf_0 rfl rfl ?_
  refine sv_getA hM dX12_indexOf_1 sm_fl_20 (sm_a0 _) sm_k6 rfl ?_
  refine sv_iload_n hM dX12_indexOf_4 rfl rfl ?_
  obtain ⟨o1, h⟩ := h
  have k2 : sv_R (S 4 p1) := sm_okI hok sm_r4 p1
  have h := h k2
  refine sv_iald hM dX12_indexOf_5 (sm_a4 _) (by decide) o1.1 o1.2 rfl (x := (S 4 p1)) rfl ?_
  refine sv_istore_n hM dX12_indexOf_6 (by decide) rfl ?_
  show sv_T sm_XS sm_cs sm_L sm_sh 1 (q_indexOf p1 S) 145 7 [(0, .ref 0), (1, sv_I p1), (2, sv_I (S 4 p1))] [] S
  refine sv_iload_n hM dX12_indexOf_7 rfl rfl ?_
  refine sv_iconst (d := (1 : Int)) hM dX12_indexOf_8 rfl rfl ?_
  refine sv_icmp_lt hM dX12_indexOf_9 k2 (⟨by decide, by decide⟩ : sv_R (1 : Int)) (t := 17) rfl rfl (fun hc => ?_) (fun hc => ?_)
  · have h := h.1 (hc)
    refine sv_iconst (d := (-1 : Int)) hM dX12_indexOf_17 rfl rfl ?_
    exact sv_iret hM dX12_indexOf_18 rfl rfl ⟨(-1 : Int), rfl, (⟨by decide, by decide⟩ : sv_R (-1 : Int)), hok, sv_mod.rf, h⟩
  · have h := h.2 (hc)
    refine sv_iload_n hM dX12_indexOf_12 rfl rfl ?_
    refine sv_iconst (d := (2 : Int)) hM dX12_indexOf_13 rfl rfl ?_
    refine sv_icmp_le hM dX12_indexOf_14 k2 (⟨by decide, by decide⟩ : sv_R (2 : Int)) (t := 19) rfl rfl (fun hc => ?_) (fun hc => ?_)
    · have h := h.1 (hc)
      refine sv_aload_n hM dX12_indexOf_19 rfl rfl ?_
      refine sv_getA hM dX12_indexOf_20 sm_fl_16 (sm_a0 _) sm_k5 rfl ?_
      refine sv_bipush (d := (60 : Int)) hM dX12_indexOf_23 rfl rfl ?_
      refine sv_iload_n hM dX12_indexOf_25 rfl rfl ?_
      refine sv_imul hM dX12_indexOf_26 rfl ?_
      obtain ⟨o3, h⟩ := h
      have k4 : (0 ≤ (S 3 ((60 : Int) * p1)) ∧ (S 3 ((60 : Int) * p1)) ≤ 65535) := sm_okC hok sm_r3 ((60 : Int) * p1)
      have h := h k4
      refine sv_cald hM dX12_indexOf_27 (sm_a3 _) (by decide) o3.1 o3.2 rfl (x := (S 3 ((60 : Int) * p1))) rfl ?_
      refine sv_istore_n hM dX12_indexOf_28 (by decide) rfl ?_
      show sv_T sm_XS sm_cs sm_L sm_sh 1 (q_indexOf p1 S) 145 29 [(0, .ref 0), (1, sv_I p1), (2, sv_I (S 4 p1)), (3, sv_I (S 3 ((60 : Int) * p1)))] [] S
      refine sv_iload_n hM dX12_indexOf_29 rfl rfl ?_
      refine sv_iconst (d := (2 : Int)) hM dX12_indexOf_30 rfl rfl ?_
      refine sv_icmp_ne hM dX12_indexOf_31 k2 (⟨by decide, by decide⟩ : sv_R (2 : Int)) (t := 48) rfl rfl (fun hc => ?_) (fun hc => ?_)
      · have h := h.1 (hc)
        refine sv_bipush (d := (48 : Int)) hM dX12_indexOf_48 rfl rfl ?_
        refine sv_istore hM dX12_indexOf_50 (by decide) rfl ?_
        show sv_T sm_XS sm_cs sm_L sm_sh 1 (q_indexOf p1 S) 145 52 [(0, .ref 0), (1, sv_I p1), (2, sv_I (S 4 p1)), (3, sv_I (S 3 ((60 : Int) * p1))), (4, sv_I (48 : Int))] [] S
        refine sv_iload_n hM dX12_indexOf_52 rfl rfl ?_
        refine sv_callS hM dX12_indexOf_53 sm_iv_341 (Nat.le_of_ble_eq_true rfl) rfl rfl (Nat.le_of_ble_eq_true rfl) sm_h13 (Nat.le_of_ble_eq_true rfl) (Nat.le_of_ble_eq_true rfl) (F' := 0) (Nat.le_of_ble_eq_true rfl) rfl (t_isDigit (S 3 ((60 : Int) * p1)) S hok (sv_RC k4)) (fun v S1 hq => ?_)
        obtain ⟨rfl, hS1⟩ := hq
        obtain rfl : S = S1 := hS1.symm
        show sv_T sm_XS sm_cs sm_L sm_sh 1 (q_indexOf p1 S) 145 56 [(0, .ref 0), (1, sv_I p1), (2, sv_I (S 4 p1)), (3, sv_I (S 3 ((60 : Int) * p1))), (4, sv_I (48 : Int))] [sv_I (if ((S 3 ((60 : Int) * p1)) ≥ 48 ∧ (S 3 ((60 : Int) * p1)) ≤ 57) then 1 else 0)] S
        refine sv_cond_eq hM dX12_indexOf_56 (sv_Rite : sv_R (if ((S 3 ((60 : Int) * p1)) ≥ 48 ∧ (S 3 ((60 : Int) * p1)) ≤ 57) then 1 else 0)) (t := 78) rfl rfl (fun hc => ?_) (fun hc => ?_)
        · have h := h.1 (sv_iten hc)
          refine sv_iconst (d := (-1 : Int)) hM dX12_indexOf_78 rfl rfl ?_
          exact sv_iret hM dX12_indexOf_79 rfl rfl ⟨(-1 : Int), rfl, (⟨by decide, by decide⟩ : sv_R (-1 : Int)), hok, sv_mod.rf, h⟩
        · have h := h.2 (sv_itep hc)
          refine sv_iload hM dX12_indexOf_59 rfl rfl ?_
          refine sv_callS hM dX12_indexOf_61 sm_iv_341 (Nat.le_of_ble_eq_true rfl) rfl rfl (Nat.le_of_ble_eq_true rfl) sm_h13 (Nat.le_of_ble_eq_true rfl) (Nat.le_of_ble_eq_true rfl) (F' := 0) (Nat.le_of_ble_eq_true rfl) rfl (t_isDigit (48 : Int) S hok (⟨by decide, by decide⟩ : sv_R (48 : Int))) (fun v S1 hq => ?_)
          obtain ⟨rfl, hS1⟩ := hq
          obtain rfl : S = S1 := hS1.symm
          show sv_T sm_XS sm_cs sm_L sm_sh 1 (q_indexOf p1 S) 145 64 [(0, .ref 0), (1, sv_I p1), (2, sv_I (S 4 p1)), (3, sv_I (S 3 ((60 : Int) * p1))), (4, sv_I (48 : Int))] [sv_I (if ((48 : Int) ≥ 48 ∧ (48 : Int) ≤ 57) then 1 else 0)] S
          refine sv_cond_eq hM dX12_indexOf_64 (sv_Rite : sv_R (if ((48 : Int) ≥ 48 ∧ (48 : Int) ≤ 57) then 1 else 0)) (t := 78) rfl rfl (fun hc => ?_) (fun hc => ?_)
          · have h := h.1 (sv_iten hc)
            refine sv_iconst (d := (-1 : Int)) hM dX12_indexOf_78 rfl rfl ?_
            exact sv_iret hM dX12_indexOf_79 rfl rfl ⟨(-1 : Int), rfl, (⟨by decide, by decide⟩ : sv_R (-1 : Int)), hok, sv_mod.rf, h⟩
          · have h := h.2 (sv_itep hc)
            refine sv_iload_n hM dX12_indexOf_67 rfl rfl ?_
            refine sv_iconst (d := (2 : Int)) hM dX12_indexOf_68 rfl rfl ?_
            refine sv_icmp_ne hM dX12_indexOf_69 k2 (⟨by decide, by decide⟩ : sv_R (2 : Int)) (t := 80) rfl rfl (fun hc => ?_) (fun hc => ?_)
            · have h := h.1 (hc)
              refine sv_iload_n hM dX12_indexOf_80 rfl rfl ?_
              refine sv_iconst (d := (1 : Int)) hM dX12_indexOf_81 rfl rfl ?_
              refine sv_icmp_ne hM dX12_indexOf_82 k2 (⟨by decide, by decide⟩ : sv_R (1 : Int)) (t := 92) rfl rfl (fun hc => ?_) (fun hc => ?_)
              · have h := h.1 (hc)
                refine sv_bipush (d := (10 : Int)) hM dX12_indexOf_92 rfl rfl ?_
                refine sv_iload_n hM dX12_indexOf_94 rfl rfl ?_
                refine sv_bipush (d := (48 : Int)) hM dX12_indexOf_95 rfl rfl ?_
                refine sv_isub hM dX12_indexOf_97 rfl ?_
                refine sv_imul hM dX12_indexOf_98 rfl ?_
                refine sv_iload hM dX12_indexOf_99 rfl rfl ?_
                refine sv_iadd hM dX12_indexOf_101 rfl ?_
                refine sv_bipush (d := (48 : Int)) hM dX12_indexOf_102 rfl rfl ?_
                refine sv_isub hM dX12_indexOf_104 rfl ?_
                obtain ⟨o5, h⟩ := h
                exact sv_iret hM dX12_indexOf_105 rfl rfl ⟨((((10 : Int) * ((S 3 ((60 : Int) * p1)) - (48 : Int))) + (48 : Int)) - (48 : Int)), rfl, o5, hok, sv_mod.rf, h⟩
              · have h := h.2 (hc)
                refine sv_iload_n hM dX12_indexOf_85 rfl rfl ?_
                refine sv_bipush (d := (48 : Int)) hM dX12_indexOf_86 rfl rfl ?_
                refine sv_isub hM dX12_indexOf_88 rfl ?_
                refine sv_goto hM dX12_indexOf_89 (pc' := 105) rfl ?_
                obtain ⟨o6, h⟩ := h
                exact sv_iret hM dX12_indexOf_105 rfl rfl ⟨((S 3 ((60 : Int) * p1)) - (48 : Int)), rfl, o6, hok, sv_mod.rf, h⟩
            · have h := h.2 (hc)
              refine sv_iload_n hM dX12_indexOf_72 rfl rfl ?_
              refine sv_bipush (d := (48 : Int)) hM dX12_indexOf_73 rfl rfl ?_
              refine sv_icmp_ne hM dX12_indexOf_75 (sv_RC k4) (⟨by decide, by decide⟩ : sv_R (48 : Int)) (t := 80) rfl rfl (fun hc => ?_) (fun hc => ?_)
              · have h := h.1 (hc)
                refine sv_iload_n hM dX12_indexOf_80 rfl rfl ?_
                refine sv_iconst (d := (1 : Int)) hM dX12_indexOf_81 rfl rfl ?_
                refine sv_icmp_ne hM dX12_indexOf_82 k2 (⟨by decide, by decide⟩ : sv_R (1 : Int)) (t := 92) rfl rfl (fun hc => ?_) (fun hc => ?_)
                · have h := h.1 (hc)
                  refine sv_bipush (d := (10 : Int)) hM dX12_indexOf_92 rfl rfl ?_
                  refine sv_iload_n hM dX12_indexOf_94 rfl rfl ?_
                  refine sv_bipush (d := (48 : Int)) hM dX12_indexOf_95 rfl rfl ?_
                  refine sv_isub hM dX12_indexOf_97 rfl ?_
                  refine sv_imul hM dX12_indexOf_98 rfl ?_
                  refine sv_iload hM dX12_indexOf_99 rfl rfl ?_
                  refine sv_iadd hM dX12_indexOf_101 rfl ?_
                  refine sv_bipush (d := (48 : Int)) hM dX12_indexOf_102 rfl rfl ?_
                  refine sv_isub hM dX12_indexOf_104 rfl ?_
                  obtain ⟨o7, h⟩ := h
                  exact sv_iret hM dX12_indexOf_105 rfl rfl ⟨((((10 : Int) * ((S 3 ((60 : Int) * p1)) - (48 : Int))) + (48 : Int)) - (48 : Int)), rfl, o7, hok, sv_mod.rf, h⟩
                · have h := h.2 (hc)
                  refine sv_iload_n hM dX12_indexOf_85 rfl rfl ?_
                  refine sv_bipush (d := (48 : Int)) hM dX12_indexOf_86 rfl rfl ?_
                  refine sv_isub hM dX12_indexOf_88 rfl ?_
                  refine sv_goto hM dX12_indexOf_89 (pc' := 105) rfl ?_
                  obtain ⟨o8, h⟩ := h
                  exact sv_iret hM dX12_indexOf_105 rfl rfl ⟨((S 3 ((60 : Int) * p1)) - (48 : Int)), rfl, o8, hok, sv_mod.rf, h⟩
              · have h := h.2 (hc)
                refine sv_iconst (d := (-1 : Int)) hM dX12_indexOf_78 rfl rfl ?_
                exact sv_iret hM dX12_indexOf_79 rfl rfl ⟨(-1 : Int), rfl, (⟨by decide, by decide⟩ : sv_R (-1 : Int)), hok, sv_mod.rf, h⟩
      · have h := h.2 (hc)
        refine sv_aload_n hM dX12_indexOf_34 rfl rfl ?_
        refine sv_getA hM dX12_indexOf_35 sm_fl_16 (sm_a0 _) sm_k5 rfl ?_
        refine sv_bipush (d := (60 : Int)) hM dX12_indexOf_38 rfl rfl ?_
        refine sv_iload_n hM dX12_indexOf_40 rfl rfl ?_
        refine sv_imul hM dX12_indexOf_41 rfl ?_
        refine sv_iconst (d := (1 : Int)) hM dX12_indexOf_42 rfl rfl ?_
        refine sv_iadd hM dX12_indexOf_43 rfl ?_
        obtain ⟨o9, h⟩ := h
        have k10 : (0 ≤ (S 3 (((60 : Int) * p1) + (1 : Int))) ∧ (S 3 (((60 : Int) * p1) + (1 : Int))) ≤ 65535) := sm_okC hok sm_r3 (((60 : Int) * p1) + (1 : Int))
        have h := h k10
        refine sv_cald hM dX12_indexOf_44 (sm_a3 _) (by decide) o9.1 o9.2 rfl (x := (S 3 (((60 : Int) * p1) + (1 : Int)))) rfl ?_
        refine sv_goto hM dX12_indexOf_45 (pc' := 50) rfl ?_
        obtain ⟨x11, e12⟩ : ∃ x : Int, (S 3 (((60 : Int) * p1) + (1 : Int))) = x := ⟨_, rfl⟩
        have h := h x11 e12
        have e12r : sv_R x11 := e12 ▸ (sv_RC k10)
        refine sv_nameI e12 ?_
        refine sv_istore hM dX12_indexOf_50 (by decide) rfl ?_
        show sv_T sm_XS sm_cs sm_L sm_sh 1 (q_indexOf p1 S) 145 52 [(0, .ref 0), (1, sv_I p1), (2, sv_I (S 4 p1)), (3, sv_I (S 3 ((60 : Int) * p1))), (4, sv_I x11)] [] S
        refine sv_iload_n hM dX12_indexOf_52 rfl rfl ?_
        refine sv_callS hM dX12_indexOf_53 sm_iv_341 (Nat.le_of_ble_eq_true rfl) rfl rfl (Nat.le_of_ble_eq_true rfl) sm_h13 (Nat.le_of_ble_eq_true rfl) (Nat.le_of_ble_eq_true rfl) (F' := 0) (Nat.le_of_ble_eq_true rfl) rfl (t_isDigit (S 3 ((60 : Int) * p1)) S hok (sv_RC k4)) (fun v S1 hq => ?_)
        obtain ⟨rfl, hS1⟩ := hq
        obtain rfl : S = S1 := hS1.symm
        show sv_T sm_XS sm_cs sm_L sm_sh 1 (q_indexOf p1 S) 145 56 [(0, .ref 0), (1, sv_I p1), (2, sv_I (S 4 p1)), (3, sv_I (S 3 ((60 : Int) * p1))), (4, sv_I x11)] [sv_I (if ((S 3 ((60 : Int) * p1)) ≥ 48 ∧ (S 3 ((60 : Int) * p1)) ≤ 57) then 1 else 0)] S
        refine sv_cond_eq hM dX12_indexOf_56 (sv_Rite : sv_R (if ((S 3 ((60 : Int) * p1)) ≥ 48 ∧ (S 3 ((60 : Int) * p1)) ≤ 57) then 1 else 0)) (t := 78) rfl rfl (fun hc => ?_) (fun hc => ?_)
        · have h := h.1 (sv_iten hc)
          refine sv_iconst (d := (-1 : Int)) hM dX12_indexOf_78 rfl rfl ?_
          exact sv_iret hM dX12_indexOf_79 rfl rfl ⟨(-1 : Int), rfl, (⟨by decide, by decide⟩ : sv_R (-1 : Int)), hok, sv_mod.rf, h⟩
        · have h := h.2 (sv_itep hc)
          refine sv_iload hM dX12_indexOf_59 rfl rfl ?_
          refine sv_callS hM dX12_indexOf_61 sm_iv_341 (Nat.le_of_ble_eq_true rfl) rfl rfl (Nat.le_of_ble_eq_true rfl) sm_h13 (Nat.le_of_ble_eq_true rfl) (Nat.le_of_ble_eq_true rfl) (F' := 0) (Nat.le_of_ble_eq_true rfl) rfl (t_isDigit x11 S hok e12r) (fun v S1 hq => ?_)
          obtain ⟨rfl, hS1⟩ := hq
          obtain rfl : S = S1 := hS1.symm
          show sv_T sm_XS sm_cs sm_L sm_sh 1 (q_indexOf p1 S) 145 64 [(0, .ref 0), (1, sv_I p1), (2, sv_I (S 4 p1)), (3, sv_I (S 3 ((60 : Int) * p1))), (4, sv_I x11)] [sv_I (if (x11 ≥ 48 ∧ x11 ≤ 57) then 1 else 0)] S
          refine sv_cond_eq hM dX12_indexOf_64 (sv_Rite : sv_R (if (x11 ≥ 48 ∧ x11 ≤ 57) then 1 else 0)) (t := 78) rfl rfl (fun hc => ?_) (fun hc => ?_)
          · have h := h.1 (sv_iten hc)
            refine sv_iconst (d := (-1 : Int)) hM dX12_indexOf_78 rfl rfl ?_
            exact sv_iret hM dX12_indexOf_79 rfl rfl ⟨(-1 : Int), rfl, (⟨by decide, by decide⟩ : sv_R (-1 : Int)), hok, sv_mod.rf, h⟩
          · have h := h.2 (sv_itep hc)
            refine sv_iload_n hM dX12_indexOf_67 rfl rfl ?_
            refine sv_iconst (d := (2 : Int)) hM dX12_indexOf_68 rfl rfl ?_
            refine sv_icmp_ne hM dX12_indexOf_69 k2 (⟨by decide, by decide⟩ : sv_R (2 : Int)) (t := 80) rfl rfl (fun hc => ?_) (fun hc => ?_)
            · have h := h.1 (hc)
              refine sv_iload_n hM dX12_indexOf_80 rfl rfl ?_
              refine sv_iconst (d := (1 : Int)) hM dX12_indexOf_81 rfl rfl ?_
              refine sv_icmp_ne hM dX12_indexOf_82 k2 (⟨by decide, by decide⟩ : sv_R (1 : Int)) (t := 92) rfl rfl (fun hc => ?_) (fun hc => ?_)
              · have h := h.1 (hc)
                refine sv_bipush (d := (10 : Int)) hM dX12_indexOf_92 rfl rfl ?_
                refine sv_iload_n hM dX12_indexOf_94 rfl rfl ?_
                refine sv_bipush (d := (48 : Int)) hM dX12_indexOf_95 rfl rfl ?_
                refine sv_isub hM dX12_indexOf_97 rfl ?_
                refine sv_imul hM dX12_indexOf_98 rfl ?_
                refine sv_iload hM dX12_indexOf_99 rfl rfl ?_
                refine sv_iadd hM dX12_indexOf_101 rfl ?_
                refine sv_bipush (d := (48 : Int)) hM dX12_indexOf_102 rfl rfl ?_
                refine sv_isub hM dX12_indexOf_104 rfl ?_
                obtain ⟨o13, h⟩ := h
                exact sv_iret hM dX12_indexOf_105 rfl rfl ⟨((((10 : Int) * ((S 3 ((60 : Int) * p1)) - (48 : Int))) + x11) - (48 : Int)), rfl, o13, hok, sv_mod.rf, h⟩
              · have h := h.2 (hc)
                refine sv_iload_n hM dX12_indexOf_85 rfl rfl ?_
                refine sv_bipush (d := (48 : Int)) hM dX12_indexOf_86 rfl rfl ?_
                refine sv_isub hM dX12_indexOf_88 rfl ?_
                refine sv_goto hM dX12_indexOf_89 (pc' := 105) rfl ?_
                obtain ⟨o14, h⟩ := h
                exact sv_iret hM dX12_indexOf_105 rfl rfl ⟨((S 3 ((60 : Int) * p1)) - (48 : Int)), rfl, o14, hok, sv_mod.rf, h⟩
            · have h := h.2 (hc)
              refine sv_iload_n hM dX12_indexOf_72 rfl rfl ?_
              refine sv_bipush (d := (48 : Int)) hM dX12_indexOf_73 rfl rfl ?_
              refine sv_icmp_ne hM dX12_indexOf_75 (sv_RC k4) (⟨by decide, by decide⟩ : sv_R (48 : Int)) (t := 80) rfl rfl (fun hc => ?_) (fun hc => ?_)
              · have h := h.1 (hc)
                refine sv_iload_n hM dX12_indexOf_80 rfl rfl ?_
                refine sv_iconst (d := (1 : Int)) hM dX12_indexOf_81 rfl rfl ?_
                refine sv_icmp_ne hM dX12_indexOf_82 k2 (⟨by decide, by decide⟩ : sv_R (1 : Int)) (t := 92) rfl rfl (fun hc => ?_) (fun hc => ?_)
                · have h := h.1 (hc)
                  refine sv_bipush (d := (10 : Int)) hM dX12_indexOf_92 rfl rfl ?_
                  refine sv_iload_n hM dX12_indexOf_94 rfl rfl ?_
                  refine sv_bipush (d := (48 : Int)) hM dX12_indexOf_95 rfl rfl ?_
                  refine sv_isub hM dX12_indexOf_97 rfl ?_
                  refine sv_imul hM dX12_indexOf_98 rfl ?_
                  refine sv_iload hM dX12_indexOf_99 rfl rfl ?_
                  refine sv_iadd hM dX12_indexOf_101 rfl ?_
                  refine sv_bipush (d := (48 : Int)) hM dX12_indexOf_102 rfl rfl ?_
                  refine sv_isub hM dX12_indexOf_104 rfl ?_
                  obtain ⟨o15, h⟩ := h
                  exact sv_iret hM dX12_indexOf_105 rfl rfl ⟨((((10 : Int) * ((S 3 ((60 : Int) * p1)) - (48 : Int))) + x11) - (48 : Int)), rfl, o15, hok, sv_mod.rf, h⟩
                · have h := h.2 (hc)
                  refine sv_iload_n hM dX12_indexOf_85 rfl rfl ?_
                  refine sv_bipush (d := (48 : Int)) hM dX12_indexOf_86 rfl rfl ?_
                  refine sv_isub hM dX12_indexOf_88 rfl ?_
                  refine sv_goto hM dX12_indexOf_89 (pc' := 105) rfl ?_
                  obtain ⟨o16, h⟩ := h
                  exact sv_iret hM dX12_indexOf_105 rfl rfl ⟨((S 3 ((60 : Int) * p1)) - (48 : Int)), rfl, o16, hok, sv_mod.rf, h⟩
              · have h := h.2 (hc)
                refine sv_iconst (d := (-1 : Int)) hM dX12_indexOf_78 rfl rfl ?_
                exact sv_iret hM dX12_indexOf_79 rfl rfl ⟨(-1 : Int), rfl, (⟨by decide, by decide⟩ : sv_R (-1 : Int)), hok, sv_mod.rf, h⟩
    · have h := h.2 (hc)
      refine sv_iconst (d := (-1 : Int)) hM dX12_indexOf_17 rfl rfl ?_
      exact sv_iret hM dX12_indexOf_18 rfl rfl ⟨(-1 : Int), rfl, (⟨by decide, by decide⟩ : sv_R (-1 : Int)), hok, sv_mod.rf, h⟩
