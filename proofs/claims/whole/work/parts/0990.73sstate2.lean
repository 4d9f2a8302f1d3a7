theorem dX12_writeTo_0 : decode cX12_writeTo 0 = .ok (.lload_n 1, 1) := by decide +kernel
theorem dX12_writeTo_1 : decode cX12_writeTo 1 = .ok (.invokestatic 1129, 3) := by decide +kernel
theorem dX12_writeTo_4 : decode cX12_writeTo 4 = .ok (.lload_n 3, 1) := by decide +kernel
theorem dX12_writeTo_5 : decode cX12_writeTo 5 = .ok (.invokestatic 1129, 3) := by decide +kernel
theorem dX12_writeTo_8 : decode cX12_writeTo 8 = .ok (.iadd, 1) := by decide +kernel
theorem dX12_writeTo_9 : decode cX12_writeTo 9 = .ok (.istore 8, 2) := by decide +kernel
theorem dX12_writeTo_11 : decode cX12_writeTo 11 = .ok (.iconst 0, 1) := by decide +kernel
theorem dX12_writeTo_12 : decode cX12_writeTo 12 = .ok (.istore 9, 2) := by decide +kernel
theorem dX12_writeTo_14 : decode cX12_writeTo 14 = .ok (.iload 9, 2) := by decide +kernel
theorem dX12_writeTo_16 : decode cX12_writeTo 16 = .ok (.aload_n 0, 1) := by decide +kernel
theorem dX12_writeTo_17 : decode cX12_writeTo 17 = .ok (.getfield 765, 3) := by decide +kernel
theorem dX12_writeTo_20 : decode cX12_writeTo 20 = .ok (.if_icmp .ge 167, 3) := by decide +kernel
theorem dX12_writeTo_23 : decode cX12_writeTo 23 = .ok (.lload_n 1, 1) := by decide +kernel
theorem dX12_writeTo_24 : decode cX12_writeTo 24 = .ok (.lload_n 3, 1) := by decide +kernel
theorem dX12_writeTo_25 : decode cX12_writeTo 25 = .ok (.iload 9, 2) := by decide +kernel
theorem dX12_writeTo_27 : decode cX12_writeTo 27 = .ok (.invokestatic 1125, 3) := by decide +kernel
theorem dX12_writeTo_30 : decode cX12_writeTo 30 = .ok (.ifCond .eq 151, 3) := by decide +kernel
theorem dX12_writeTo_33 : decode cX12_writeTo 33 = .ok (.aload_n 0, 1) := by decide +kernel
theorem dX12_writeTo_34 : decode cX12_writeTo 34 = .ok (.getfield 256, 3) := by decide +kernel
theorem dX12_writeTo_37 : decode cX12_writeTo 37 = .ok (.aload_n 0, 1) := by decide +kernel
theorem dX12_writeTo_38 : decode cX12_writeTo 38 = .ok (.sipush 639, 3) := by decide +kernel
theorem dX12_writeTo_41 : decode cX12_writeTo 41 = .ok (.iload 9, 2) := by decide +kernel
theorem dX12_writeTo_43 : decode cX12_writeTo 43 = .ok (.invokevirtual 1101, 3) := by decide +kernel
theorem dX12_writeTo_46 : decode cX12_writeTo 46 = .ok (.baload, 1) := by decide +kernel
theorem dX12_writeTo_47 : decode cX12_writeTo 47 = .ok (.ifCond .ne 6, 3) := by decide +kernel
theorem dX12_writeTo_50 : decode cX12_writeTo 50 = .ok (.goto 131, 3) := by decide +kernel
theorem dX12_writeTo_53 : decode cX12_writeTo 53 = .ok (.iload 6, 2) := by decide +kernel
theorem dX12_writeTo_55 : decode cX12_writeTo 55 = .ok (.ifCond .eq 40, 3) := by decide +kernel
theorem dX12_writeTo_58 : decode cX12_writeTo 58 = .ok (.iload 8, 2) := by decide +kernel
theorem dX12_writeTo_60 : decode cX12_writeTo 60 = .ok (.iconst 1, 1) := by decide +kernel
theorem dX12_writeTo_61 : decode cX12_writeTo 61 = .ok (.if_icmp .ne 34, 3) := by decide +kernel
theorem dX12_writeTo_64 : decode cX12_writeTo 64 = .ok (.iload 9, 2) := by decide +kernel
theorem dX12_writeTo_66 : decode cX12_writeTo 66 = .ok (.invokestatic 1166, 3) := by decide +kernel
theorem dX12_writeTo_69 : decode cX12_writeTo 69 = .ok (.ifCond .eq 26, 3) := by decide +kernel
theorem dX12_writeTo_72 : decode cX12_writeTo 72 = .ok (.aload_n 0, 1) := by decide +kernel
theorem dX12_writeTo_73 : decode cX12_writeTo 73 = .ok (.invokevirtual 1150, 3) := by decide +kernel
theorem dX12_writeTo_76 : decode cX12_writeTo 76 = .ok (.iconst 1, 1) := by decide +kernel
theorem dX12_writeTo_77 : decode cX12_writeTo 77 = .ok (.if_icmp .ne 18, 3) := by decide +kernel
theorem dX12_writeTo_80 : decode cX12_writeTo 80 = .ok (.aload_n 0, 1) := by decide +kernel
theorem dX12_writeTo_81 : decode cX12_writeTo 81 = .ok (.aload_n 0, 1) := by decide +kernel
theorem dX12_writeTo_82 : decode cX12_writeTo 82 = .ok (.getfield 762, 3) := by decide +kernel
theorem dX12_writeTo_85 : decode cX12_writeTo 85 = .ok (.invokevirtual 1153, 3) := by decide +kernel
theorem dX12_writeTo_88 : decode cX12_writeTo 88 = .ok (.ifCond .ne 7, 3) := by decide +kernel
theorem dX12_writeTo_91 : decode cX12_writeTo 91 = .ok (.iconst 1, 1) := by decide +kernel
theorem dX12_writeTo_92 : decode cX12_writeTo 92 = .ok (.goto 4, 3) := by decide +kernel
theorem dX12_writeTo_95 : decode cX12_writeTo 95 = .ok (.iconst 0, 1) := by decide +kernel
theorem dX12_writeTo_96 : decode cX12_writeTo 96 = .ok (.istore 10, 2) := by decide +kernel
theorem dX12_writeTo_98 : decode cX12_writeTo 98 = .ok (.iconst 0, 1) := by decide +kernel
theorem dX12_writeTo_99 : decode cX12_writeTo 99 = .ok (.istore 11, 2) := by decide +kernel
theorem dX12_writeTo_101 : decode cX12_writeTo 101 = .ok (.iload 11, 2) := by decide +kernel
theorem dX12_writeTo_103 : decode cX12_writeTo 103 = .ok (.aload_n 0, 1) := by decide +kernel
theorem dX12_writeTo_104 : decode cX12_writeTo 104 = .ok (.getfield 762, 3) := by decide +kernel
theorem dX12_writeTo_107 : decode cX12_writeTo 107 = .ok (.if_icmp .gt 74, 3) := by decide +kernel
theorem dX12_writeTo_110 : decode cX12_writeTo 110 = .ok (.aload_n 0, 1) := by decide +kernel
theorem dX12_writeTo_111 : decode cX12_writeTo 111 = .ok (.iload 11, 2) := by decide +kernel
theorem dX12_writeTo_113 : decode cX12_writeTo 113 = .ok (.invokevirtual 1153, 3) := by decide +kernel
theorem dX12_writeTo_116 : decode cX12_writeTo 116 = .ok (.ifCond .eq 59, 3) := by decide +kernel
theorem dX12_writeTo_119 : decode cX12_writeTo 119 = .ok (.iload 7, 2) := by decide +kernel
theorem dX12_writeTo_121 : decode cX12_writeTo 121 = .ok (.ifCond .eq 20, 3) := by decide +kernel
theorem dX12_writeTo_124 : decode cX12_writeTo 124 = .ok (.iload 11, 2) := by decide +kernel
theorem dX12_writeTo_126 : decode cX12_writeTo 126 = .ok (.ifCond .ne 15, 3) := by decide +kernel
theorem dX12_writeTo_129 : decode cX12_writeTo 129 = .ok (.aload_n 0, 1) := by decide +kernel
theorem dX12_writeTo_130 : decode cX12_writeTo 130 = .ok (.iload 9, 2) := by decide +kernel
theorem dX12_writeTo_132 : decode cX12_writeTo 132 = .ok (.invokevirtual 1169, 3) := by decide +kernel
theorem dX12_writeTo_135 : decode cX12_writeTo 135 = .ok (.ifCond .eq 6, 3) := by decide +kernel
theorem dX12_writeTo_138 : decode cX12_writeTo 138 = .ok (.goto 37, 3) := by decide +kernel
theorem dX12_writeTo_141 : decode cX12_writeTo 141 = .ok (.aload_n 0, 1) := by decide +kernel
theorem dX12_writeTo_142 : decode cX12_writeTo 142 = .ok (.sipush 639, 3) := by decide +kernel
theorem dX12_writeTo_145 : decode cX12_writeTo 145 = .ok (.iload 9, 2) := by decide +kernel
theorem dX12_writeTo_147 : decode cX12_writeTo 147 = .ok (.iload 11, 2) := by decide +kernel
theorem dX12_writeTo_149 : decode cX12_writeTo 149 = .ok (.invokevirtual 1163, 3) := by decide +kernel
theorem dX12_writeTo_152 : decode cX12_writeTo 152 = .ok (.istore 12, 2) := by decide +kernel
theorem dX12_writeTo_154 : decode cX12_writeTo 154 = .ok (.iload 10, 2) := by decide +kernel
theorem dX12_writeTo_156 : decode cX12_writeTo 156 = .ok (.ifCond .eq 9, 3) := by decide +kernel
theorem dX12_writeTo_159 : decode cX12_writeTo 159 = .ok (.aload_n 0, 1) := by decide +kernel
theorem dX12_writeTo_160 : decode cX12_writeTo 160 = .ok (.iload 12, 2) := by decide +kernel
theorem dX12_writeTo_162 : decode cX12_writeTo 162 = .ok (.invokevirtual 1066, 3) := by decide +kernel
theorem dX12_writeTo_165 : decode cX12_writeTo 165 = .ok (.aload_n 0, 1) := by decide +kernel
theorem dX12_writeTo_166 : decode cX12_writeTo 166 = .ok (.iload 5, 2) := by decide +kernel
theorem dX12_writeTo_168 : decode cX12_writeTo 168 = .ok (.iload 12, 2) := by decide +kernel
theorem dX12_writeTo_170 : decode cX12_writeTo 170 = .ok (.invokevirtual 1069, 3) := by decide +kernel
theorem dX12_writeTo_173 : decode cX12_writeTo 173 = .ok (.istore 13, 2) := by decide +kernel
theorem dX12_writeTo_175 : decode cX12_writeTo 175 = .ok (.iinc 11 1, 3) := by decide +kernel
theorem dX12_writeTo_178 : decode cX12_writeTo 178 = .ok (.goto (-77), 3) := by decide +kernel
theorem dX12_writeTo_181 : decode cX12_writeTo 181 = .ok (.iinc 9 1, 3) := by decide +kernel
theorem dX12_writeTo_184 : decode cX12_writeTo 184 = .ok (.goto (-170), 3) := by decide +kernel
theorem dX12_writeTo_187 : decode cX12_writeTo 187 = .ok (.return_, 1) := by decide +kernel
theorem dX12_newLabel_0 : decode cX12_newLabel 0 = .ok (.aload_n 0, 1) := by decide +kernel
theorem dX12_newLabel_1 : decode cX12_newLabel 1 = .ok (.sipush 639, 3) := by decide +kernel
theorem dX12_newLabel_4 : decode cX12_newLabel 4 = .ok (.iload_n 1, 1) := by decide +kernel
theorem dX12_newLabel_5 : decode cX12_newLabel 5 = .ok (.invokevirtual 1101, 3) := by decide +kernel
theorem dX12_newLabel_8 : decode cX12_newLabel 8 = .ok (.istore_n 3, 1) := by decide +kernel
theorem dX12_newLabel_9 : decode cX12_newLabel 9 = .ok (.aload_n 0, 1) := by decide +kernel
theorem dX12_newLabel_10 : decode cX12_newLabel 10 = .ok (.getfield 256, 3) := by decide +kernel
theorem dX12_newLabel_13 : decode cX12_newLabel 13 = .ok (.iload_n 3, 1) := by decide +kernel
theorem dX12_newLabel_14 : decode cX12_newLabel 14 = .ok (.iconst 1, 1) := by decide +kernel
theorem dX12_newLabel_15 : decode cX12_newLabel 15 = .ok (.bastore, 1) := by decide +kernel
theorem dX12_newLabel_16 : decode cX12_newLabel 16 = .ok (.aload_n 0, 1) := by decide +kernel
theorem dX12_newLabel_17 : decode cX12_newLabel 17 = .ok (.getfield 259, 3) := by decide +kernel
theorem dX12_newLabel_20 : decode cX12_newLabel 20 = .ok (.iload_n 3, 1) := by decide +kernel
theorem dX12_newLabel_21 : decode cX12_newLabel 21 = .ok (.iload_n 2, 1) := by decide +kernel
theorem dX12_newLabel_22 : decode cX12_newLabel 22 = .ok (.iconst (-1), 1) := by decide +kernel
theorem dX12_newLabel_23 : decode cX12_newLabel 23 = .ok (.if_icmp .ne 7, 3) := by decide +kernel
theorem dX12_newLabel_26 : decode cX12_newLabel 26 = .ok (.iconst 1, 1) := by decide +kernel
theorem dX12_newLabel_27 : decode cX12_newLabel 27 = .ok (.goto 4, 3) := by decide +kernel
theorem dX12_newLabel_30 : decode cX12_newLabel 30 = .ok (.iconst 0, 1) := by decide +kernel
theorem dX12_newLabel_31 : decode cX12_newLabel 31 = .ok (.bastore, 1) := by decide +kernel
theorem dX12_newLabel_32 : decode cX12_newLabel 32 = .ok (.aload_n 0, 1) := by decide +kernel
theorem dX12_newLabel_33 : decode cX12_newLabel 33 = .ok (.getfield 262, 3) := by decide +kernel
theorem dX12_newLabel_36 : decode cX12_newLabel 36 = .ok (.iload_n 3, 1) := by decide +kernel
theorem dX12_newLabel_37 : decode cX12_newLabel 37 = .ok (.iload_n 2, 1) := by decide +kernel
theorem dX12_newLabel_38 : decode cX12_newLabel 38 = .ok (.iconst (-1), 1) := by decide +kernel
theorem dX12_newLabel_39 : decode cX12_newLabel 39 = .ok (.if_icmp .ne 7, 3) := by decide +kernel
theorem dX12_newLabel_42 : decode cX12_newLabel 42 = .ok (.lconst 0, 1) := by decide +kernel
theorem dX12_newLabel_43 : decode cX12_newLabel 43 = .ok (.goto 6, 3) := by decide +kernel
theorem dX12_newLabel_46 : decode cX12_newLabel 46 = .ok (.lconst 1, 1) := by decide +kernel
theorem dX12_newLabel_47 : decode cX12_newLabel 47 = .ok (.iload_n 2, 1) := by decide +kernel
theorem dX12_newLabel_48 : decode cX12_newLabel 48 = .ok (.lshl, 1) := by decide +kernel
theorem dX12_newLabel_49 : decode cX12_newLabel 49 = .ok (.lastore, 1) := by decide +kernel
theorem dX12_newLabel_50 : decode cX12_newLabel 50 = .ok (.aload_n 0, 1) := by decide +kernel
theorem dX12_newLabel_51 : decode cX12_newLabel 51 = .ok (.getfield 265, 3) := by decide +kernel
theorem dX12_newLabel_54 : decode cX12_newLabel 54 = .ok (.iload_n 3, 1) := by decide +kernel
theorem dX12_newLabel_55 : decode cX12_newLabel 55 = .ok (.lconst 0, 1) := by decide +kernel
theorem dX12_newLabel_56 : decode cX12_newLabel 56 = .ok (.lastore, 1) := by decide +kernel
theorem dX12_newLabel_57 : decode cX12_newLabel 57 = .ok (.aload_n 0, 1) := by decide +kernel
theorem dX12_newLabel_58 : decode cX12_newLabel 58 = .ok (.getfield 268, 3) := by decide +kernel
theorem dX12_newLabel_61 : decode cX12_newLabel 61 = .ok (.iload_n 3, 1) := by decide +kernel
theorem dX12_newLabel_62 : decode cX12_newLabel 62 = .ok (.lconst 0, 1) := by decide +kernel
theorem dX12_newLabel_63 : decode cX12_newLabel 63 = .ok (.lastore, 1) := by decide +kernel
theorem dX12_newLabel_64 : decode cX12_newLabel 64 = .ok (.aload_n 0, 1) := by decide +kernel
theorem dX12_newLabel_65 : decode cX12_newLabel 65 = .ok (.getfield 271, 3) := by decide +kernel
theorem dX12_newLabel_68 : decode cX12_newLabel 68 = .ok (.iload_n 3, 1) := by decide +kernel
theorem dX12_newLabel_69 : decode cX12_newLabel 69 = .ok (.lconst 0, 1) := by decide +kernel
theorem dX12_newLabel_70 : decode cX12_newLabel 70 = .ok (.lastore, 1) := by decide +kernel
theorem dX12_newLabel_71 : decode cX12_newLabel 71 = .ok (.iconst 0, 1) := by decide +kernel
theorem dX12_newLabel_72 : decode cX12_newLabel 72 = .ok (.istore 4, 2) := by decide +kernel
theorem dX12_newLabel_74 : decode cX12_newLabel 74 = .ok (.iload 4, 2) := by decide +kernel
theorem dX12_newLabel_76 : decode cX12_newLabel 76 = .ok (.aload_n 0, 1) := by decide +kernel
theorem dX12_newLabel_77 : decode cX12_newLabel 77 = .ok (.getfield 762, 3) := by decide +kernel
theorem dX12_newLabel_80 : decode cX12_newLabel 80 = .ok (.if_icmp .gt 42, 3) := by decide +kernel
theorem dX12_newLabel_83 : decode cX12_newLabel 83 = .ok (.aload_n 0, 1) := by decide +kernel
theorem dX12_newLabel_84 : decode cX12_newLabel 84 = .ok (.aload_n 0, 1) := by decide +kernel
theorem dX12_newLabel_85 : decode cX12_newLabel 85 = .ok (.sipush 639, 3) := by decide +kernel
theorem dX12_newLabel_88 : decode cX12_newLabel 88 = .ok (.iload_n 1, 1) := by decide +kernel
theorem dX12_newLabel_89 : decode cX12_newLabel 89 = .ok (.iload 4, 2) := by decide +kernel
theorem dX12_newLabel_91 : decode cX12_newLabel 91 = .ok (.invokevirtual 1163, 3) := by decide +kernel
theorem dX12_newLabel_94 : decode cX12_newLabel 94 = .ok (.invokevirtual 1066, 3) := by decide +kernel
theorem dX12_newLabel_97 : decode cX12_newLabel 97 = .ok (.aload_n 0, 1) := by decide +kernel
theorem dX12_newLabel_98 : decode cX12_newLabel 98 = .ok (.aload_n 0, 1) := by decide +kernel
theorem dX12_newLabel_99 : decode cX12_newLabel 99 = .ok (.sipush 639, 3) := by decide +kernel
theorem dX12_newLabel_102 : decode cX12_newLabel 102 = .ok (.iload_n 1, 1) := by decide +kernel
theorem dX12_newLabel_103 : decode cX12_newLabel 103 = .ok (.iload 4, 2) := by decide +kernel
theorem dX12_newLabel_105 : decode cX12_newLabel 105 = .ok (.invokevirtual 1163, 3) := by decide +kernel
theorem dX12_newLabel_108 : decode cX12_newLabel 108 = .ok (.sipush 512, 3) := by decide +kernel
theorem dX12_newLabel_111 : decode cX12_newLabel 111 = .ok (.iconst 0, 1) := by decide +kernel
theorem dX12_newLabel_112 : decode cX12_newLabel 112 = .ok (.iconst 0, 1) := by decide +kernel
theorem dX12_newLabel_113 : decode cX12_newLabel 113 = .ok (.invokevirtual 1056, 3) := by decide +kernel
theorem dX12_newLabel_116 : decode cX12_newLabel 116 = .ok (.iinc 4 1, 3) := by decide +kernel
theorem dX12_newLabel_119 : decode cX12_newLabel 119 = .ok (.goto (-45), 3) := by decide +kernel
theorem dX12_newLabel_122 : decode cX12_newLabel 122 = .ok (.return_, 1) := by decide +kernel
theorem dX12_fresh__0 : decode cX12_fresh_ 0 = .ok (.aload_n 0, 1) := by decide +kernel
theorem dX12_fresh__1 : decode cX12_fresh_ 1 = .ok (.sipush 639, 3) := by decide +kernel
theorem dX12_fresh__4 : decode cX12_fresh_ 4 = .ok (.iload_n 1, 1) := by decide +kernel
theorem dX12_fresh__5 : decode cX12_fresh_ 5 = .ok (.iload_n 2, 1) := by decide +kernel
theorem dX12_fresh__6 : decode cX12_fresh_ 6 = .ok (.invokevirtual 1163, 3) := by decide +kernel
theorem dX12_fresh__9 : decode cX12_fresh_ 9 = .ok (.istore_n 3, 1) := by decide +kernel
theorem dX12_fresh__10 : decode cX12_fresh_ 10 = .ok (.aload_n 0, 1) := by decide +kernel
theorem dX12_fresh__11 : decode cX12_fresh_ 11 = .ok (.iload_n 3, 1) := by decide +kernel
theorem dX12_fresh__12 : decode cX12_fresh_ 12 = .ok (.invokevirtual 1066, 3) := by decide +kernel
theorem dX12_fresh__15 : decode cX12_fresh_ 15 = .ok (.iload_n 3, 1) := by decide +kernel
theorem dX12_fresh__16 : decode cX12_fresh_ 16 = .ok (.ireturn, 1) := by decide +kernel
theorem dX12_addNew_0 : decode cX12_addNew 0 = .ok (.aload_n 0, 1) := by decide +kernel
theorem dX12_addNew_1 : decode cX12_addNew 1 = .ok (.sipush 639, 3) := by decide +kernel
theorem dX12_addNew_4 : decode cX12_addNew 4 = .ok (.iload_n 1, 1) := by decide +kernel
theorem dX12_addNew_5 : decode cX12_addNew 5 = .ok (.invokevirtual 1101, 3) := by decide +kernel
theorem dX12_addNew_8 : decode cX12_addNew 8 = .ok (.istore 5, 2) := by decide +kernel
theorem dX12_addNew_10 : decode cX12_addNew 10 = .ok (.aload_n 0, 1) := by decide +kernel
theorem dX12_addNew_11 : decode cX12_addNew 11 = .ok (.getfield 256, 3) := by decide +kernel
theorem dX12_addNew_14 : decode cX12_addNew 14 = .ok (.iload 5, 2) := by decide +kernel
theorem dX12_addNew_16 : decode cX12_addNew 16 = .ok (.iconst 1, 1) := by decide +kernel
theorem dX12_addNew_17 : decode cX12_addNew 17 = .ok (.bastore, 1) := by decide +kernel
theorem dX12_addNew_18 : decode cX12_addNew 18 = .ok (.aload_n 0, 1) := by decide +kernel
theorem dX12_addNew_19 : decode cX12_addNew 19 = .ok (.getfield 262, 3) := by decide +kernel
theorem dX12_addNew_22 : decode cX12_addNew 22 = .ok (.iload 5, 2) := by decide +kernel
theorem dX12_addNew_24 : decode cX12_addNew 24 = .ok (.aload_n 0, 1) := by decide +kernel
theorem dX12_addNew_25 : decode cX12_addNew 25 = .ok (.getfield 262, 3) := by decide +kernel
theorem dX12_addNew_28 : decode cX12_addNew 28 = .ok (.iload 5, 2) := by decide +kernel
theorem dX12_addNew_30 : decode cX12_addNew 30 = .ok (.laload, 1) := by decide +kernel
theorem dX12_addNew_31 : decode cX12_addNew 31 = .ok (.lconst 1, 1) := by decide +kernel
theorem dX12_addNew_32 : decode cX12_addNew 32 = .ok (.iload_n 2, 1) := by decide +kernel
theorem dX12_addNew_33 : decode cX12_addNew 33 = .ok (.lshl, 1) := by decide +kernel
theorem dX12_addNew_34 : decode cX12_addNew 34 = .ok (.lor, 1) := by decide +kernel
theorem dX12_addNew_35 : decode cX12_addNew 35 = .ok (.lastore, 1) := by decide +kernel
theorem dX12_addNew_36 : decode cX12_addNew 36 = .ok (.iconst 0, 1) := by decide +kernel
theorem dX12_addNew_37 : decode cX12_addNew 37 = .ok (.istore 6, 2) := by decide +kernel
theorem dX12_addNew_39 : decode cX12_addNew 39 = .ok (.iload 6, 2) := by decide +kernel
theorem dX12_addNew_41 : decode cX12_addNew 41 = .ok (.aload_n 0, 1) := by decide +kernel
theorem dX12_addNew_42 : decode cX12_addNew 42 = .ok (.getfield 762, 3) := by decide +kernel
theorem dX12_addNew_45 : decode cX12_addNew 45 = .ok (.if_icmp .gt 72, 3) := by decide +kernel
theorem dX12_addNew_48 : decode cX12_addNew 48 = .ok (.aload_n 0, 1) := by decide +kernel
theorem dX12_addNew_49 : decode cX12_addNew 49 = .ok (.sipush 639, 3) := by decide +kernel
theorem dX12_addNew_52 : decode cX12_addNew 52 = .ok (.iload_n 1, 1) := by decide +kernel
theorem dX12_addNew_53 : decode cX12_addNew 53 = .ok (.iload 6, 2) := by decide +kernel
theorem dX12_addNew_55 : decode cX12_addNew 55 = .ok (.invokevirtual 1163, 3) := by decide +kernel
theorem dX12_addNew_58 : decode cX12_addNew 58 = .ok (.istore 7, 2) := by decide +kernel
theorem dX12_addNew_60 : decode cX12_addNew 60 = .ok (.iload_n 3, 1) := by decide +kernel
theorem dX12_addNew_61 : decode cX12_addNew 61 = .ok (.ifCond .eq 18, 3) := by decide +kernel
theorem dX12_addNew_64 : decode cX12_addNew 64 = .ok (.iload 6, 2) := by decide +kernel
theorem dX12_addNew_66 : decode cX12_addNew 66 = .ok (.ifCond .ne 13, 3) := by decide +kernel
theorem dX12_addNew_69 : decode cX12_addNew 69 = .ok (.aload_n 0, 1) := by decide +kernel
theorem dX12_addNew_70 : decode cX12_addNew 70 = .ok (.iload 7, 2) := by decide +kernel
theorem dX12_addNew_72 : decode cX12_addNew 72 = .ok (.iconst 0, 1) := by decide +kernel
theorem dX12_addNew_73 : decode cX12_addNew 73 = .ok (.invokevirtual 1075, 3) := by decide +kernel
theorem dX12_addNew_76 : decode cX12_addNew 76 = .ok (.goto 35, 3) := by decide +kernel
theorem dX12_addNew_79 : decode cX12_addNew 79 = .ok (.iload 4, 2) := by decide +kernel
theorem dX12_addNew_81 : decode cX12_addNew 81 = .ok (.iconst (-1), 1) := by decide +kernel
theorem dX12_addNew_82 : decode cX12_addNew 82 = .ok (.if_icmp .eq 20, 3) := by decide +kernel
theorem dX12_addNew_85 : decode cX12_addNew 85 = .ok (.iload 6, 2) := by decide +kernel
theorem dX12_addNew_87 : decode cX12_addNew 87 = .ok (.iconst 3, 1) := by decide +kernel
theorem dX12_addNew_88 : decode cX12_addNew 88 = .ok (.if_icmp .ne 14, 3) := by decide +kernel
theorem dX12_addNew_91 : decode cX12_addNew 91 = .ok (.aload_n 0, 1) := by decide +kernel
theorem dX12_addNew_92 : decode cX12_addNew 92 = .ok (.iload 4, 2) := by decide +kernel
theorem dX12_addNew_94 : decode cX12_addNew 94 = .ok (.iload 7, 2) := by decide +kernel
theorem dX12_addNew_96 : decode cX12_addNew 96 = .ok (.invokevirtual 1172, 3) := by decide +kernel
theorem dX12_addNew_99 : decode cX12_addNew 99 = .ok (.goto 12, 3) := by decide +kernel
theorem dX12_addNew_102 : decode cX12_addNew 102 = .ok (.aload_n 0, 1) := by decide +kernel
theorem dX12_addNew_103 : decode cX12_addNew 103 = .ok (.iload 7, 2) := by decide +kernel
theorem dX12_addNew_105 : decode cX12_addNew 105 = .ok (.sipush 512, 3) := by decide +kernel
theorem dX12_addNew_108 : decode cX12_addNew 108 = .ok (.invokevirtual 1072, 3) := by decide +kernel
theorem dX12_addNew_111 : decode cX12_addNew 111 = .ok (.iinc 6 1, 3) := by decide +kernel
theorem dX12_addNew_114 : decode cX12_addNew 114 = .ok (.goto (-75), 3) := by decide +kernel
theorem dX12_addNew_117 : decode cX12_addNew 117 = .ok (.return_, 1) := by decide +kernel
theorem dX12_renameIn_0 : decode cX12_renameIn 0 = .ok (.aload_n 0, 1) := by decide +kernel
theorem dX12_renameIn_1 : decode cX12_renameIn 1 = .ok (.getfield 220, 3) := by decide +kernel
theorem dX12_renameIn_4 : decode cX12_renameIn 4 = .ok (.iload_n 1, 1) := by decide +kernel
theorem dX12_renameIn_5 : decode cX12_renameIn 5 = .ok (.laload, 1) := by decide +kernel
theorem dX12_renameIn_6 : decode cX12_renameIn 6 = .ok (.aload_n 0, 1) := by decide +kernel
theorem dX12_renameIn_7 : decode cX12_renameIn 7 = .ok (.getfield 223, 3) := by decide +kernel
theorem dX12_renameIn_10 : decode cX12_renameIn 10 = .ok (.iload_n 1, 1) := by decide +kernel
theorem dX12_renameIn_11 : decode cX12_renameIn 11 = .ok (.laload, 1) := by decide +kernel
theorem dX12_renameIn_12 : decode cX12_renameIn 12 = .ok (.iload_n 2, 1) := by decide +kernel
theorem dX12_renameIn_13 : decode cX12_renameIn 13 = .ok (.invokestatic 1125, 3) := by decide +kernel
theorem dX12_renameIn_16 : decode cX12_renameIn 16 = .ok (.ifCond .ne 4, 3) := by decide +kernel
theorem dX12_renameIn_19 : decode cX12_renameIn 19 = .ok (.return_, 1) := by decide +kernel
theorem dX12_renameIn_20 : decode cX12_renameIn 20 = .ok (.iload_n 2, 1) := by decide +kernel
theorem dX12_renameIn_21 : decode cX12_renameIn 21 = .ok (.bipush 64, 2) := by decide +kernel
theorem dX12_renameIn_23 : decode cX12_renameIn 23 = .ok (.if_icmp .ge 26, 3) := by decide +kernel
theorem dX12_renameIn_26 : decode cX12_renameIn 26 = .ok (.aload_n 0, 1) := by decide +kernel
theorem dX12_renameIn_27 : decode cX12_renameIn 27 = .ok (.getfield 220, 3) := by decide +kernel
theorem dX12_renameIn_30 : decode cX12_renameIn 30 = .ok (.iload_n 1, 1) := by decide +kernel
theorem dX12_renameIn_31 : decode cX12_renameIn 31 = .ok (.aload_n 0, 1) := by decide +kernel
theorem dX12_renameIn_32 : decode cX12_renameIn 32 = .ok (.getfield 220, 3) := by decide +kernel
theorem dX12_renameIn_35 : decode cX12_renameIn 35 = .ok (.iload_n 1, 1) := by decide +kernel
theorem dX12_renameIn_36 : decode cX12_renameIn 36 = .ok (.laload, 1) := by decide +kernel
theorem dX12_renameIn_37 : decode cX12_renameIn 37 = .ok (.lconst 1, 1) := by decide +kernel
theorem dX12_renameIn_38 : decode cX12_renameIn 38 = .ok (.iload_n 2, 1) := by decide +kernel
theorem dX12_renameIn_39 : decode cX12_renameIn 39 = .ok (.lshl, 1) := by decide +kernel
theorem dX12_renameIn_40 : decode cX12_renameIn 40 = .ok (.ldc2_w 1110, 3) := by decide +kernel
theorem dX12_renameIn_43 : decode cX12_renameIn 43 = .ok (.lxor, 1) := by decide +kernel
theorem dX12_renameIn_44 : decode cX12_renameIn 44 = .ok (.land, 1) := by decide +kernel
theorem dX12_renameIn_45 : decode cX12_renameIn 45 = .ok (.lastore, 1) := by decide +kernel
theorem dX12_renameIn_46 : decode cX12_renameIn 46 = .ok (.goto 26, 3) := by decide +kernel
theorem dX12_renameIn_49 : decode cX12_renameIn 49 = .ok (.aload_n 0, 1) := by decide +kernel
theorem dX12_renameIn_50 : decode cX12_renameIn 50 = .ok (.getfield 223, 3) := by decide +kernel
theorem dX12_renameIn_53 : decode cX12_renameIn 53 = .ok (.iload_n 1, 1) := by decide +kernel
theorem dX12_renameIn_54 : decode cX12_renameIn 54 = .ok (.aload_n 0, 1) := by decide +kernel
theorem dX12_renameIn_55 : decode cX12_renameIn 55 = .ok (.getfield 223, 3) := by decide +kernel
theorem dX12_renameIn_58 : decode cX12_renameIn 58 = .ok (.iload_n 1, 1) := by decide +kernel
theorem dX12_renameIn_59 : decode cX12_renameIn 59 = .ok (.laload, 1) := by decide +kernel
theorem dX12_renameIn_60 : decode cX12_renameIn 60 = .ok (.lconst 1, 1) := by decide +kernel
theorem dX12_renameIn_61 : decode cX12_renameIn 61 = .ok (.iload_n 2, 1) := by decide +kernel
theorem dX12_renameIn_62 : decode cX12_renameIn 62 = .ok (.bipush 64, 2) := by decide +kernel
theorem dX12_renameIn_64 : decode cX12_renameIn 64 = .ok (.isub, 1) := by decide +kernel
theorem dX12_renameIn_65 : decode cX12_renameIn 65 = .ok (.lshl, 1) := by decide +kernel
theorem dX12_renameIn_66 : decode cX12_renameIn 66 = .ok (.ldc2_w 1110, 3) := by decide +kernel
theorem dX12_renameIn_69 : decode cX12_renameIn 69 = .ok (.lxor, 1) := by decide +kernel
theorem dX12_renameIn_70 : decode cX12_renameIn 70 = .ok (.land, 1) := by decide +kernel
theorem dX12_renameIn_71 : decode cX12_renameIn 71 = .ok (.lastore, 1) := by decide +kernel
theorem dX12_renameIn_72 : decode cX12_renameIn 72 = .ok (.aload_n 0, 1) := by decide +kernel
theorem dX12_renameIn_73 : decode cX12_renameIn 73 = .ok (.iload_n 1, 1) := by decide +kernel
theorem dX12_renameIn_74 : decode cX12_renameIn 74 = .ok (.iload_n 2, 1) := by decide +kernel
theorem dX12_renameIn_75 : decode cX12_renameIn 75 = .ok (.iconst 1, 1) := by decide +kernel
theorem dX12_renameIn_76 : decode cX12_renameIn 76 = .ok (.iadd, 1) := by decide +kernel
theorem dX12_renameIn_77 : decode cX12_renameIn 77 = .ok (.invokevirtual 1081, 3) := by decide +kernel
theorem dX12_renameIn_80 : decode cX12_renameIn 80 = .ok (.return_, 1) := by decide +kernel

def q_writeTo (p1 : Int) (p3 : Int) (p5 : Int) (p6 : Int) (p7 : Int) (S : sv_S) : Option Value → sv_S → Prop := fun v S' => v = none ∧ sm_ok S' ∧ sv_mod [68, 69, 70] S S' ∧ (sm_pt (S' 68) (S' 69) (S' 70) = sm_pt (S 68) (S 69) (S 70))
theorem la_writeTo_0 {x0 x1 : Int} (h0 : 29 ≤ x0) : (0 : Int) ≤ 0 ∧ 0 ≤ x0 ∧ x1 = x1 := by omega
theorem la_writeTo_1 {x0 x1 : Int} (h0 : x0 ≤ x1) : 0 ≤ x1 - x0 := by omega
theorem la_writeTo_2 {x0 x1 x2 x3 : Int} (h0 : x0 = x1) : x2 ≤ x3 → x0 = x1 := by omega
theorem la_writeTo_3 {x0 x1 : Int} (h0 : x0 ≤ 127) (h1 : 0 ≤ x1) (h2 : ¬ x0 ≤ x1) : 0 ≤ x1 ∧ x1 < 128 := by omega
theorem la_writeTo_4 {x0 x1 x2 x3 x4 : Int} (h0 : x0 ≤ 127) (h1 : 0 ≤ x1) (h2 : x2 = x3) (h3 : ¬ x0 ≤ x1) : x4 = 0 → sv_R (x1 + 1) ∧ (0 ≤ x1 + 1 ∧ x1 + 1 ≤ x0 ∧ x2 = x3) ∧ x0 - (x1 + 1) < x0 - x1 := by omega
theorem la_writeTo_5 {x0 : Int} (h0 : x0 = 1) : 0 ≤ x0 := by omega
theorem la_writeTo_6 {x0 : Int} (h0 : 0 ≤ x0) (h1 : ¬ x0 = 0) : 0 < x0 := by omega
theorem la_writeTo_7 {x0 x1 x2 x3 x4 : Int} (h0 : x0 ≤ 127) (h1 : 0 ≤ x1) (h2 : x1 ≤ 11557) (h3 : 0 ≤ x2) (h4 : ¬ x0 ≤ x2) : 0 ≤ x1 ∧ x1 ≤ 11557 ∧ (0 : Int) ≤ 639 ∧ ((639 : Int) = 639 ∨ 639 < x3 + 2 * x4) ∧ 0 ≤ x2 ∧ (x2 < x0 ∨ (639 : Int) = 639 ∧ x2 < 128) := by omega
theorem la_writeTo_8 : (639 : Int) = 639 := by omega
theorem la_writeTo_9 : ¬ ¬ (639 : Int) = 639 := by omega
theorem la_writeTo_10 {x0 x1 x2 : Int} (h0 : x0 ≤ 127) (h1 : 0 ≤ x1) (h2 : ¬ x0 ≤ x1) (h3 : x2 = 15000 + x1) : 0 ≤ x2 ∧ x2 < 15128 := by omega
theorem la_writeTo_11 {x0 x1 x2 : Int} (h0 : 31 ≤ x0) (h1 : x1 = x2) : (0 : Int) ≤ 0 ∧ 0 ≤ x0 + 1 ∧ x1 = x2 := by omega
theorem la_writeTo_12 {x0 x1 : Int} (h0 : x0 ≤ x1 + 1) : 0 ≤ x1 + 1 - x0 := by omega
theorem la_writeTo_13 {x0 x1 x2 x3 x4 x5 : Int} (h0 : x0 ≤ 127) (h1 : 0 ≤ x1) (h2 : ¬ x0 ≤ x1) (h3 : x2 = x3) : x4 < x5 → sv_R (x1 + 1) ∧ (0 ≤ x1 + 1 ∧ x1 + 1 ≤ x0 ∧ x2 = x3) ∧ x0 - (x1 + 1) < x0 - x1 := by omega
theorem la_writeTo_14 {x0 x1 : Int} (h0 : x0 ≤ 90) (h1 : 0 ≤ x1) (h2 : ¬ x0 < x1) : 0 ≤ x1 ∧ x1 < 128 := by omega
theorem la_writeTo_15 {x0 x1 x2 x3 x4 : Int} (h0 : x0 ≤ 90) (h1 : 0 ≤ x1) (h2 : x2 = x3) (h3 : ¬ x0 < x1) : x4 = 0 → sv_R (x1 + 1) ∧ (0 ≤ x1 + 1 ∧ x1 + 1 ≤ x0 + 1 ∧ x2 = x3) ∧ x0 + 1 - (x1 + 1) < x0 + 1 - x1 := by omega
theorem la_writeTo_16 {x0 x1 x2 x3 x4 x5 x6 : Int} (h0 : x0 ≤ 127) (h1 : 0 ≤ x1) (h2 : x1 ≤ 11557) (h3 : 0 ≤ x2) (h4 : ¬ x0 ≤ x2) (h5 : 0 ≤ x3) (h6 : ¬ x4 < x3) : 0 ≤ x1 ∧ x1 ≤ 11557 ∧ (0 : Int) ≤ 639 ∧ ((639 : Int) = 639 ∨ 639 < x5 + 2 * x6) ∧ 0 ≤ x2 ∧ (x2 < x0 ∨ (639 : Int) = 639 ∧ x2 < 128) ∧ 0 ≤ x3 ∧ x3 ≤ x4 := by omega
theorem la_writeTo_17 {x0 : Int} (h0 : x0 = 0) : ¬ x0 = 1 := by omega
theorem la_writeTo_18 {x0 x1 : Int} (h0 : 0 ≤ x0) (h1 : x0 < 647800) (h2 : 635640 ≤ x1) (h3 : x1 < 647340) : 0 ≤ x0 ∧ x0 < 647800 ∧ 0 ≤ x1 ∧ x1 < 647800 := by omega
theorem la_writeTo_19 {x0 : Int} (h0 : 635640 ≤ x0) : 635639 ≤ x0 := by omega
theorem la_writeTo_20 {x0 : Int} (h0 : 635640 ≤ x0) : ¬ x0 < 635639 := by omega
theorem la_writeTo_21 {x0 x1 : Int} (h0 : x0 ≤ 90) (h1 : 0 ≤ x1) (h2 : ¬ x0 < x1) : sv_R (x1 + 1) := by omega
theorem la_writeTo_22 {x0 x1 x2 x3 x4 : Int} (h0 : 0 ≤ x0) (h1 : x1 = x2) (h2 : ¬ x3 < x0) (h3 : x4 = x1) : 0 ≤ x0 + 1 ∧ x0 + 1 ≤ x3 + 1 ∧ x4 = x2 := by omega
theorem la_writeTo_23 {x0 x1 : Int} : x0 + 1 - (x1 + 1) < x0 + 1 - x1 := by omega
theorem la_writeTo_24 {x0 : Int} (h0 : 635640 ≤ x0) (h1 : x0 < 647340) : 0 ≤ x0 ∧ x0 < 647800 := by omega
theorem la_writeTo_25 {x0 x1 x2 x3 x4 x5 : Int} (h0 : 0 ≤ x0) (h1 : x1 = x2) (h2 : ¬ x3 < x0) (h3 : x4 = x1) (h4 : x5 = x4) : 0 ≤ x0 + 1 ∧ x0 + 1 ≤ x3 + 1 ∧ x5 = x2 := by omega
theorem la_writeTo_26 {x0 x1 x2 x3 x4 x5 x6 : Int} (h0 : x0 ≤ 127) (h1 : 0 ≤ x1) (h2 : x1 ≤ 11557) (h3 : 0 ≤ x2) (h4 : ¬ x0 ≤ x2) (h5 : ¬ x3 < x4) (h6 : 0 < x4) : 0 ≤ x1 ∧ x1 ≤ 11557 ∧ (0 : Int) ≤ 639 ∧ ((639 : Int) = 639 ∨ 639 < x5 + 2 * x6) ∧ 0 ≤ x2 ∧ (x2 < x0 ∨ (639 : Int) = 639 ∧ x2 < 128) ∧ 0 ≤ x4 ∧ x4 ≤ x3 := by omega
theorem la_writeTo_27 {x0 x1 : Int} (h0 : x0 ≤ 90) (h1 : ¬ x0 < x1) (h2 : 0 < x1) : sv_R (x1 + 1) := by omega
theorem la_writeTo_28 {x0 x1 x2 x3 x4 : Int} (h0 : x0 = x1) (h1 : ¬ x2 < x3) (h2 : 0 < x3) (h3 : x4 = x0) : 0 ≤ x3 + 1 ∧ x3 + 1 ≤ x2 + 1 ∧ x4 = x1 := by omega
theorem la_writeTo_29 {x0 x1 x2 x3 x4 x5 : Int} (h0 : x0 = x1) (h1 : ¬ x2 < x3) (h2 : 0 < x3) (h3 : x4 = x0) (h4 : x5 = x4) : 0 ≤ x3 + 1 ∧ x3 + 1 ≤ x2 + 1 ∧ x5 = x1 := by omega
theorem la_writeTo_30 {x0 x1 x2 : Int} (h0 : 0 ≤ x0) (h1 : x0 ≤ 11557) (h2 : 0 ≤ x1) (h3 : ¬ x2 ≤ x1) : 0 ≤ x0 ∧ x0 ≤ 11557 ∧ 0 ≤ x1 ∧ x1 < x2 := by omega
theorem la_writeTo_31 {x0 x1 x2 x3 x4 x5 x6 : Int} (h0 : x0 ≤ 127) (h1 : 31 ≤ x1) (h2 : 0 ≤ x2) (h3 : x2 ≤ 11557) (h4 : 0 ≤ x3) (h5 : ¬ x0 ≤ x3) (h6 : ¬ ¬ x4 = 0) : 0 ≤ x2 ∧ x2 ≤ 11557 ∧ (0 : Int) ≤ 639 ∧ ((639 : Int) = 639 ∨ 639 < x5 + 2 * x6) ∧ 0 ≤ x3 ∧ (x3 < x0 ∨ (639 : Int) = 639 ∧ x3 < 128) ∧ 0 ≤ x4 ∧ x4 ≤ x1 := by omega
theorem la_writeTo_32 {x0 : Int} (h0 : ¬ ¬ x0 = 0) : sv_R (x0 + 1) := by omega
theorem la_writeTo_33 {x0 x1 x2 x3 x4 : Int} (h0 : 31 ≤ x0) (h1 : x1 = x2) (h2 : ¬ ¬ x3 = 0) (h3 : x4 = x1) : 0 ≤ x3 + 1 ∧ x3 + 1 ≤ x0 + 1 ∧ x4 = x2 := by omega
theorem la_writeTo_34 {x0 x1 x2 x3 x4 x5 : Int} (h0 : 31 ≤ x0) (h1 : x1 = x2) (h2 : ¬ ¬ x3 = 0) (h3 : x4 = x1) (h4 : x5 = x4) : 0 ≤ x3 + 1 ∧ x3 + 1 ≤ x0 + 1 ∧ x5 = x2 := by omega
theorem la_writeTo_35 {x0 x1 x2 x3 : Int} (h0 : 31 ≤ x0) (h1 : x1 = x2) (h2 : ¬ ¬ x3 = 0) : 0 ≤ x3 + 1 ∧ x3 + 1 ≤ x0 + 1 ∧ x1 = x2 := by omega
theorem la_writeTo_36 {x0 : Int} : x0 = 0 → (0 : Int) = 0 ∨ (0 : Int) = 1 := by omega
theorem la_writeTo_37 {x0 x1 : Int} (h0 : 0 ≤ x0) (h1 : x0 ≤ 64) (h2 : 0 ≤ x1) (h3 : x1 ≤ 64) : sv_R (x0 + x1) := by omega
theorem la_writeTo_38 {x0 x1 : Int} : ¬ x0 + x1 = 1 → (0 : Int) = 0 ∨ (0 : Int) = 1 := by omega
theorem la_writeTo_39 {x0 x1 : Int} (h0 : x0 ≤ 127) (h1 : 0 ≤ x1) (h2 : ¬ x0 ≤ x1) : 0 ≤ x1 ∧ x1 ≤ 200 := by omega
theorem la_writeTo_40 {x0 : Int} : ¬ x0 = 1 → (0 : Int) = 0 ∨ (0 : Int) = 1 := by omega
theorem la_writeTo_41 {x0 : Int} (h0 : 31 ≤ x0) (h1 : x0 ≤ 90) : 0 ≤ x0 ∧ x0 < 128 := by omega
theorem la_writeTo_42 {x0 : Int} : ¬ x0 = 0 → (0 : Int) = 0 ∨ (0 : Int) = 1 := by omega
theorem la_writeTo_43 {x0 : Int} (h0 : ¬ ¬ x0 = 0) : ¬ x0 = 1 := by omega
theorem la_writeTo_44 : (1 : Int) = 0 ∨ (1 : Int) = 1 := by omega
theorem la_writeTo_45 {x0 x1 : Int} (h0 : x0 ≤ 127) (h1 : 0 ≤ x1) (h2 : ¬ x0 ≤ x1) : sv_R (x1 + 1) := by omega
theorem la_writeTo_46 {x0 x1 x2 x3 : Int} (h0 : 0 ≤ x0) (h1 : x1 = x2) (h2 : ¬ x3 ≤ x0) : 0 ≤ x0 + 1 ∧ x0 + 1 ≤ x3 ∧ x1 = x2 := by omega
theorem la_writeTo_47 {x0 x1 : Int} : x0 - (x1 + 1) < x0 - x1 := by omega
set_option maxHeartbeats 2000000 in
theorem f_writeTo : ∀ (p1 : Int) (p3 : Int) (p5 : Int) (p6 : Int) (p7 : Int) (S : sv_S), sm_ok S → sv_RL p1 → sv_RL p3 → sv_R p5 → (0 ≤ p6 ∧ p6 ≤ 1) → (0 ≤ p7 ∧ p7 ≤ 1) → (29 ≤ (S 1071 0) ∧ (S 1071 0) ≤ 127 ∧ 31 ≤ (S 1008 0) ∧ (S 1008 0) ≤ 90 ∧ 1 ≤ (S 1032 0) ∧ (S 1032 0) ≤ 11 ∧ 0 ≤ (S 1055 0) ∧ (S 1055 0) ≤ 19 ∧ (S 1071 0) = 29 + 6 * ((S 1032 0) - 1) + 2 * (S 1055 0) ∧ 0 ≤ (S 1046 0) ∧ (S 1046 0) + 2 * (S 1032 0) ≤ 500 ∧ sm_PD (S 1046 0) (S 1032 0) (S 1071 0) (S 1008 0) ∧ 0 ≤ (S 1071 0) * ((S 1008 0) + 1) ∧ (S 1071 0) * ((S 1008 0) + 1) ≤ 11557 ∧ 0 ≤ p5 ∧ p5 < 647800) → (∀ r1 : Int, (0 ≤ r1 ∧ r1 ≤ 64) → (∀ r2 : Int, (0 ≤ r2 ∧ r2 ≤ 64) → ((0 ≤ (0 : Int) ∧ (0 : Int) ≤ (S 1071 0) ∧ sm_pt (S 68) (S 69) (S 70) = sm_pt (S 68) (S 69) (S 70)) ∧ (∀ l9_4 : Int, sv_R l9_4 → ∀ g3 : sv_S, (0 ≤ l9_4 ∧ l9_4 ≤ (S 1071 0) ∧ sm_pt (g3 68) (g3 69) (g3 70) = sm_pt (S 68) (S 69) (S 70)) → (0 ≤ (S 1071 0) - l9_4) ∧ (sv_R (S 1071 0) → ((((S 1071 0) ≤ l9_4) → (sm_pt (g3 68) (g3 69) (g3 70) = sm_pt (S 68) (S 69) (S 70))) ∧ ((¬ ((S 1071 0) ≤ l9_4)) → (0 ≤ l9_4 ∧ l9_4 < 128) ∧ (∀ r16 : Int, sv_R r16 → (r16 = sm_in p1 p3 l9_4 ∧ (r16 = 0 ∨ r16 = 1)) → (((r16 = (0 : Int)) → (sv_R (l9_4 + (1 : Int))) ∧ ((0 ≤ (l9_4 + (1 : Int)) ∧ (l9_4 + (1 : Int)) ≤ (S 1071 0) ∧ sm_pt (g3 68) (g3 69) (g3 70) = sm_pt (S 68) (S 69) (S 70)) ∧ ((S 1071 0) - (l9_4 + (1 : Int))) < ((S 1071 0) - l9_4))) ∧ ((¬ (r16 = (0 : Int))) → (29 ≤ (S 1071 0) ∧ (S 1071 0) ≤ 127 ∧ 31 ≤ (S 1008 0) ∧ (S 1008 0) ≤ 90 ∧ 1 ≤ (S 1032 0) ∧ (S 1032 0) ≤ 11 ∧ 0 ≤ (S 1055 0) ∧ (S 1055 0) ≤ 19 ∧ (S 1071 0) = 29 + 6 * ((S 1032 0) - 1) + 2 * (S 1055 0) ∧ 0 ≤ (S 1046 0) ∧ (S 1046 0) + 2 * (S 1032 0) ≤ 500 ∧ sm_PD (S 1046 0) (S 1032 0) (S 1071 0) (S 1008 0) ∧ 0 ≤ (S 1071 0) * ((S 1008 0) + 1) ∧ (S 1071 0) * ((S 1008 0) + 1) ≤ 11557 ∧ 0 ≤ (639 : Int) ∧ ((639 : Int) = 639 ∨ (639 : Int) < (S 1046 0) + 2 * (S 1032 0)) ∧ 0 ≤ l9_4 ∧ (l9_4 < (S 1071 0) ∨ ((639 : Int) = 639 ∧ l9_4 < 128))) ∧ (∀ r23 : Int, sv_R r23 → (((639 : Int) = 639 → r23 = 15000 + l9_4) ∧ (¬ (639 : Int) = 639 → 0 ≤ r23 ∧ r23 < 14520)) → (0 ≤ r23 ∧ r23 < 15128) ∧ ((0 ≤ (S 81 r23) ∧ (S 81 r23) ≤ 1) → (((¬ (S 81 r23) = (0 : Int)) → ((∀ s26 : Int, sv_R s26 → (s26 = 0 ∨ s26 = 1) → ((0 ≤ (0 : Int) ∧ (0 : Int) ≤ (S 1008 0) + 1 ∧ sm_pt (g3 68) (g3 69) (g3 70) = sm_pt (S 68) (S 69) (S 70)) ∧ (∀ l11_29 : Int, sv_R l11_29 → ∀ g28 : sv_S, (0 ≤ l11_29 ∧ l11_29 ≤ (S 1008 0) + 1 ∧ sm_pt (g28 68) (g28 69) (g28 70) = sm_pt (S 68) (S 69) (S 70)) → (0 ≤ (S 1008 0) + 1 - l11_29) ∧ (sv_R (S 1008 0) → ((((S 1008 0) < l11_29) → (sv_R (l9_4 + (1 : Int))) ∧ ((0 ≤ (l9_4 + (1 : Int)) ∧ (l9_4 + (1 : Int)) ≤ (S 1071 0) ∧ sm_pt (g28 68) (g28 69) (g28 70) = sm_pt (S 68) (S 69) (S 70)) ∧ ((S 1071 0) - (l9_4 + (1 : Int))) < ((S 1071 0) - l9_4))) ∧ ((¬ ((S 1008 0) < l11_29)) → (0 ≤ l11_29 ∧ l11_29 < 128) ∧ (∀ r43 : Int, sv_R r43 → (r43 = 0 ∨ r43 = 1) → (((r43 = (0 : Int)) → (sv_R (l11_29 + (1 : Int))) ∧ ((0 ≤ (l11_29 + (1 : Int)) ∧ (l11_29 + (1 : Int)) ≤ (S 1008 0) + 1 ∧ sm_pt (g28 68) (g28 69) (g28 70) = sm_pt (S 68) (S 69) (S 70)) ∧ ((S 1008 0) + 1 - (l11_29 + (1 : Int))) < ((S 1008 0) + 1 - l11_29))) ∧ ((¬ (r43 = (0 : Int))) → (((p7 = (0 : Int)) → (29 ≤ (S 1071 0) ∧ (S 1071 0) ≤ 127 ∧ 31 ≤ (S 1008 0) ∧ (S 1008 0) ≤ 90 ∧ 1 ≤ (S 1032 0) ∧ (S 1032 0) ≤ 11 ∧ 0 ≤ (S 1055 0) ∧ (S 1055 0) ≤ 19 ∧ (S 1071 0) = 29 + 6 * ((S 1032 0) - 1) + 2 * (S 1055 0) ∧ 0 ≤ (S 1046 0) ∧ (S 1046 0) + 2 * (S 1032 0) ≤ 500 ∧ sm_PD (S 1046 0) (S 1032 0) (S 1071 0) (S 1008 0) ∧ 0 ≤ (S 1071 0) * ((S 1008 0) + 1) ∧ (S 1071 0) * ((S 1008 0) + 1) ≤ 11557 ∧ 0 ≤ (639 : Int) ∧ ((639 : Int) = 639 ∨ (639 : Int) < (S 1046 0) + 2 * (S 1032 0)) ∧ 0 ≤ l9_4 ∧ (l9_4 < (S 1071 0) ∨ ((639 : Int) = 639 ∧ l9_4 < 128)) ∧ 0 ≤ l11_29 ∧ l11_29 ≤ (S 1008 0)) ∧ (∀ r50 : Int, sv_R r50 → (((639 : Int) = 639 → 635640 ≤ r50 ∧ r50 < 647340) ∧ (¬ (639 : Int) = 639 → 0 ≤ r50 ∧ r50 < 464520)) → (((s26 = (0 : Int)) → (0 ≤ p5 ∧ p5 < 647800 ∧ 0 ≤ r50 ∧ r50 < 647800) ∧ (∀ r56 : Int, sv_R r56 → ∀ g52 : sv_S, ((635639 ≤ r50 → sm_pt (g52 68) (g52 69) (g52 70) = sm_pt (g28 68) (g28 69) (g28 70)) ∧ (r56 = 0 ∨ r56 = 1) ∧ (r50 < 635639 → sm_pt (g52 68) (g52 69) (g52 70) + r56 ≤ sm_pt (g28 68) (g28 69) (g28 70))) → (sv_R (l11_29 + (1 : Int))) ∧ ((0 ≤ (l11_29 + (1 : Int)) ∧ (l11_29 + (1 : Int)) ≤ (S 1008 0) + 1 ∧ sm_pt (g52 68) (g52 69) (g52 70) = sm_pt (S 68) (S 69) (S 70)) ∧ ((S 1008 0) + 1 - (l11_29 + (1 : Int))) < ((S 1008 0) + 1 - l11_29)))) ∧ ((¬ (s26 = (0 : Int))) → (0 ≤ r50 ∧ r50 < 647800) ∧ (∀ g62 : sv_S, (635639 ≤ r50 → sm_pt (g62 68) (g62 69) (g62 70) = sm_pt (g28 68) (g28 69) (g28 70)) → (0 ≤ p5 ∧ p5 < 647800 ∧ 0 ≤ r50 ∧ r50 < 647800) ∧ (∀ r74 : Int, sv_R r74 → ∀ g70 : sv_S, ((635639 ≤ r50 → sm_pt (g70 68) (g70 69) (g70 70) = sm_pt (g62 68) (g62 69) (g62 70)) ∧ (r74 = 0 ∨ r74 = 1) ∧ (r50 < 635639 → sm_pt (g70 68) (g70 69) (g70 70) + r74 ≤ sm_pt (g62 68) (g62 69) (g62 70))) → (sv_R (l11_29 + (1 : Int))) ∧ ((0 ≤ (l11_29 + (1 : Int)) ∧ (l11_29 + (1 : Int)) ≤ (S 1008 0) + 1 ∧ sm_pt (g70 68) (g70 69) (g70 70) = sm_pt (S 68) (S 69) (S 70)) ∧ ((S 1008 0) + 1 - (l11_29 + (1 : Int))) < ((S 1008 0) + 1 - l11_29)))))))) ∧ ((¬ (p7 = (0 : Int))) → (((¬ l11_29 = (0 : Int)) → (29 ≤ (S 1071 0) ∧ (S 1071 0) ≤ 127 ∧ 31 ≤ (S 1008 0) ∧ (S 1008 0) ≤ 90 ∧ 1 ≤ (S 1032 0) ∧ (S 1032 0) ≤ 11 ∧ 0 ≤ (S 1055 0) ∧ (S 1055 0) ≤ 19 ∧ (S 1071 0) = 29 + 6 * ((S 1032 0) - 1) + 2 * (S 1055 0) ∧ 0 ≤ (S 1046 0) ∧ (S 1046 0) + 2 * (S 1032 0) ≤ 500 ∧ sm_PD (S 1046 0) (S 1032 0) (S 1071 0) (S 1008 0) ∧ 0 ≤ (S 1071 0) * ((S 1008 0) + 1) ∧ (S 1071 0) * ((S 1008 0) + 1) ≤ 11557 ∧ 0 ≤ (639 : Int) ∧ ((639 : Int) = 639 ∨ (639 : Int) < (S 1046 0) + 2 * (S 1032 0)) ∧ 0 ≤ l9_4 ∧ (l9_4 < (S 1071 0) ∨ ((639 : Int) = 639 ∧ l9_4 < 128)) ∧ 0 ≤ l11_29 ∧ l11_29 ≤ (S 1008 0)) ∧ (∀ r84 : Int, sv_R r84 → (((639 : Int) = 639 → 635640 ≤ r84 ∧ r84 < 647340) ∧ (¬ (639 : Int) = 639 → 0 ≤ r84 ∧ r84 < 464520)) → (((s26 = (0 : Int)) → (0 ≤ p5 ∧ p5 < 647800 ∧ 0 ≤ r84 ∧ r84 < 647800) ∧ (∀ r90 : Int, sv_R r90 → ∀ g86 : sv_S, ((635639 ≤ r84 → sm_pt (g86 68) (g86 69) (g86 70) = sm_pt (g28 68) (g28 69) (g28 70)) ∧ (r90 = 0 ∨ r90 = 1) ∧ (r84 < 635639 → sm_pt (g86 68) (g86 69) (g86 70) + r90 ≤ sm_pt (g28 68) (g28 69) (g28 70))) → (sv_R (l11_29 + (1 : Int))) ∧ ((0 ≤ (l11_29 + (1 : Int)) ∧ (l11_29 + (1 : Int)) ≤ (S 1008 0) + 1 ∧ sm_pt (g86 68) (g86 69) (g86 70) = sm_pt (S 68) (S 69) (S 70)) ∧ ((S 1008 0) + 1 - (l11_29 + (1 : Int))) < ((S 1008 0) + 1 - l11_29)))) ∧ ((¬ (s26 = (0 : Int))) → (0 ≤ r84 ∧ r84 < 647800) ∧ (∀ g96 : sv_S, (635639 ≤ r84 → sm_pt (g96 68) (g96 69) (g96 70) = sm_pt (g28 68) (g28 69) (g28 70)) → (0 ≤ p5 ∧ p5 < 647800 ∧ 0 ≤ r84 ∧ r84 < 647800) ∧ (∀ r108 : Int, sv_R r108 → ∀ g104 : sv_S, ((635639 ≤ r84 → sm_pt (g104 68) (g104 69) (g104 70) = sm_pt (g96 68) (g96 69) (g96 70)) ∧ (r108 = 0 ∨ r108 = 1) ∧ (r84 < 635639 → sm_pt (g104 68) (g104 69) (g104 70) + r108 ≤ sm_pt (g96 68) (g96 69) (g96 70))) → (sv_R (l11_29 + (1 : Int))) ∧ ((0 ≤ (l11_29 + (1 : Int)) ∧ (l11_29 + (1 : Int)) ≤ (S 1008 0) + 1 ∧ sm_pt (g104 68) (g104 69) (g104 70) = sm_pt (S 68) (S 69) (S 70)) ∧ ((S 1008 0) + 1 - (l11_29 + (1 : Int))) < ((S 1008 0) + 1 - l11_29)))))))) ∧ ((¬ (¬ l11_29 = (0 : Int))) → (29 ≤ (S 1071 0) ∧ (S 1071 0) ≤ 127 ∧ 31 ≤ (S 1008 0) ∧ (S 1008 0) ≤ 90 ∧ 1 ≤ (S 1032 0) ∧ (S 1032 0) ≤ 11 ∧ 0 ≤ (S 1055 0) ∧ (S 1055 0) ≤ 19 ∧ (S 1071 0) = 29 + 6 * ((S 1032 0) - 1) + 2 * (S 1055 0) ∧ 0 ≤ (S 1046 0) ∧ (S 1046 0) + 2 * (S 1032 0) ≤ 500 ∧ sm_PD (S 1046 0) (S 1032 0) (S 1071 0) (S 1008 0) ∧ 0 ≤ (S 1071 0) * ((S 1008 0) + 1) ∧ (S 1071 0) * ((S 1008 0) + 1) ≤ 11557 ∧ 0 ≤ l9_4 ∧ l9_4 < (S 1071 0)) ∧ (∀ r118 : Int, sv_R r118 → (r118 = 0 ∨ r118 = 1) → (((r118 = (0 : Int)) → (29 ≤ (S 1071 0) ∧ (S 1071 0) ≤ 127 ∧ 31 ≤ (S 1008 0) ∧ (S 1008 0) ≤ 90 ∧ 1 ≤ (S 1032 0) ∧ (S 1032 0) ≤ 11 ∧ 0 ≤ (S 1055 0) ∧ (S 1055 0) ≤ 19 ∧ (S 1071 0) = 29 + 6 * ((S 1032 0) - 1) + 2 * (S 1055 0) ∧ 0 ≤ (S 1046 0) ∧ (S 1046 0) + 2 * (S 1032 0) ≤ 500 ∧ sm_PD (S 1046 0) (S 1032 0) (S 1071 0) (S 1008 0) ∧ 0 ≤ (S 1071 0) * ((S 1008 0) + 1) ∧ (S 1071 0) * ((S 1008 0) + 1) ≤ 11557 ∧ 0 ≤ (639 : Int) ∧ ((639 : Int) = 639 ∨ (639 : Int) < (S 1046 0) + 2 * (S 1032 0)) ∧ 0 ≤ l9_4 ∧ (l9_4 < (S 1071 0) ∨ ((639 : Int) = 639 ∧ l9_4 < 128)) ∧ 0 ≤ l11_29 ∧ l11_29 ≤ (S 1008 0)) ∧ (∀ r124 : Int, sv_R r124 → (((639 : Int) = 639 → 635640 ≤ r124 ∧ r124 < 647340) ∧ (¬ (639 : Int) = 639 → 0 ≤ r124 ∧ r124 < 464520)) → (((s26 = (0 : Int)) → (0 ≤ p5 ∧ p5 < 647800 ∧ 0 ≤ r124 ∧ r124 < 647800) ∧ (∀ r130 : Int, sv_R r130 → ∀ g126 : sv_S, ((635639 ≤ r124 → sm_pt (g126 68) (g126 69) (g126 70) = sm_pt (g28 68) (g28 69) (g28 70)) ∧ (r130 = 0 ∨ r130 = 1) ∧ (r124 < 635639 → sm_pt (g126 68) (g126 69) (g126 70) + r130 ≤ sm_pt (g28 68) (g28 69) (g28 70))) → (sv_R (l11_29 + (1 : Int))) ∧ ((0 ≤ (l11_29 + (1 : Int)) ∧ (l11_29 + (1 : Int)) ≤ (S 1008 0) + 1 ∧ sm_pt (g126 68) (g126 69) (g126 70) = sm_pt (S 68) (S 69) (S 70)) ∧ ((S 1008 0) + 1 - (l11_29 + (1 : Int))) < ((S 1008 0) + 1 - l11_29)))) ∧ ((¬ (s26 = (0 : Int))) → (0 ≤ r124 ∧ r124 < 647800) ∧ (∀ g136 : sv_S, (635639 ≤ r124 → sm_pt (g136 68) (g136 69) (g136 70) = sm_pt (g28 68) (g28 69) (g28 70)) → (0 ≤ p5 ∧ p5 < 647800 ∧ 0 ≤ r124 ∧ r124 < 647800) ∧ (∀ r148 : Int, sv_R r148 → ∀ g144 : sv_S, ((635639 ≤ r124 → sm_pt (g144 68) (g144 69) (g144 70) = sm_pt (g136 68) (g136 69) (g136 70)) ∧ (r148 = 0 ∨ r148 = 1) ∧ (r124 < 635639 → sm_pt (g144 68) (g144 69) (g144 70) + r148 ≤ sm_pt (g136 68) (g136 69) (g136 70))) → (sv_R (l11_29 + (1 : Int))) ∧ ((0 ≤ (l11_29 + (1 : Int)) ∧ (l11_29 + (1 : Int)) ≤ (S 1008 0) + 1 ∧ sm_pt (g144 68) (g144 69) (g144 70) = sm_pt (S 68) (S 69) (S 70)) ∧ ((S 1008 0) + 1 - (l11_29 + (1 : Int))) < ((S 1008 0) + 1 - l11_29)))))))) ∧ ((¬ (r118 = (0 : Int))) → (sv_R (l11_29 + (1 : Int))) ∧ ((0 ≤ (l11_29 + (1 : Int)) ∧ (l11_29 + (1 : Int)) ≤ (S 1008 0) + 1 ∧ sm_pt (g28 68) (g28 69) (g28 70) = sm_pt (S 68) (S 69) (S 70)) ∧ ((S 1008 0) + 1 - (l11_29 + (1 : Int))) < ((S 1008 0) + 1 - l11_29)))))))))))))))))) ∧ (((p6 = (0 : Int)) → ((0 : Int) = 0 ∨ (0 : Int) = 1)) ∧ ((¬ (p6 = (0 : Int))) → (sv_R (r1 + r2)) ∧ (((¬ (r1 + r2) = (1 : Int)) → ((0 : Int) = 0 ∨ (0 : Int) = 1)) ∧ ((¬ (¬ (r1 + r2) = (1 : Int))) → (0 ≤ l9_4 ∧ l9_4 ≤ 200) ∧ (∀ r161 : Int, sv_R r161 → (r161 = 0 ∨ r161 = 1) → (((r161 = (0 : Int)) → ((0 : Int) = 0 ∨ (0 : Int) = 1)) ∧ ((¬ (r161 = (0 : Int))) → (∀ r166 : Int, sv_R r166 → (0 ≤ r166 ∧ r166 ≤ 128) → (((¬ r166 = (1 : Int)) → ((0 : Int) = 0 ∨ (0 : Int) = 1)) ∧ ((¬ (¬ r166 = (1 : Int))) → (sv_R (S 1008 0) → (0 ≤ (S 1008 0) ∧ (S 1008 0) < 128) ∧ (∀ r173 : Int, sv_R r173 → (r173 = 0 ∨ r173 = 1) → (((¬ r173 = (0 : Int)) → ((0 : Int) = 0 ∨ (0 : Int) = 1)) ∧ ((¬ (¬ r173 = (0 : Int))) → ((1 : Int) = 0 ∨ (1 : Int) = 1))))))))))))))))) ∧ ((¬ (¬ (S 81 r23) = (0 : Int))) → (sv_R (l9_4 + (1 : Int))) ∧ ((0 ≤ (l9_4 + (1 : Int)) ∧ (l9_4 + (1 : Int)) ≤ (S 1071 0) ∧ sm_pt (g3 68) (g3 69) (g3 70) = sm_pt (S 68) (S 69) (S 70)) ∧ ((S 1071 0) - (l9_4 + (1 : Int))) < ((S 1071 0) - l9_4)))))))))))))))) := by
  intro p1
  intro p3
  intro p5
  intro p6
  intro p7
  intro S
  intro h1_
  intro h2_
  intro h3_
  intro h4_
  rintro ⟨h5_, h6_⟩
  rintro ⟨h7_, h8_⟩
  rintro ⟨h9_, ⟨h10_, ⟨h11_, ⟨h12_, ⟨h13_, ⟨h14_, ⟨h15_, ⟨h16_, ⟨h17_, ⟨h18_, ⟨h19_, ⟨h20_, ⟨h21_, ⟨h22_, ⟨h23_, h24_⟩⟩⟩⟩⟩⟩⟩⟩⟩⟩⟩⟩⟩⟩⟩
  intro r1
  rintro ⟨h25_, h26_⟩
  intro r2
  rintro ⟨h27_, h28_⟩
  refine ⟨(la_writeTo_0 h9_), ?_⟩
  intro l9_4
  intro h29_
  intro g3
  rintro ⟨h30_, ⟨h31_, h32_⟩⟩
  refine ⟨(la_writeTo_1 h31_), ?_⟩
  intro h33_
  refine ⟨(la_writeTo_2 h32_), ?_⟩
  intro h34_
  refine ⟨(la_writeTo_3 h10_ h30_ h34_), ?_⟩
  intro r16
  intro h35_
  rintro ⟨h36_, h37_⟩
  refine ⟨(la_writeTo_4 h10_ h30_ h32_ h34_), ?_⟩
  intro h38_
  have h39_ := (h37_.resolve_left h38_)
  refine ⟨⟨h9_, ⟨h10_, ⟨h11_, ⟨h12_, ⟨h13_, ⟨h14_, ⟨h15_, ⟨h16_, ⟨h17_, ⟨h18_, ⟨h19_, ⟨h20_, (la_writeTo_7 h10_ h21_ h22_ h30_ h34_)⟩⟩⟩⟩⟩⟩⟩⟩⟩⟩⟩⟩, ?_⟩
  intro r23
  intro h40_
  rintro ⟨h41_, h42_⟩
  have h43_ := (h41_ la_writeTo_8)
  refine ⟨(la_writeTo_10 h10_ h30_ h34_ h43_), ?_⟩
  rintro ⟨h44_, h45_⟩
  refine ⟨?_, ?_⟩
  · skip
    intro h46_
    refine ⟨?_, ?_⟩
    · skip
      intro s26
      intro h47_
      intro h48_
      refine ⟨(la_writeTo_11 h11_ h32_), ?_⟩
      intro l11_29
      intro h49_
      intro g28
      rintro ⟨h50_, ⟨h51_, h52_⟩⟩
      refine ⟨(la_writeTo_12 h51_), ?_⟩
      intro h53_
      refine ⟨(la_writeTo_13 h10_ h30_ h34_ h52_), ?_⟩
      intro h54_
      refine ⟨(la_writeTo_14 h12_ h50_ h54_), ?_⟩
      intro r43
      intro h55_
      intro h56_
      refine ⟨(la_writeTo_15 h12_ h50_ h52_ h54_), ?_⟩
      intro h57_
      have h58_ := (h56_.resolve_left h57_)
      refine ⟨?_, ?_⟩
      · skip
        intro h59_
        refine ⟨⟨h9_, ⟨h10_, ⟨h11_, ⟨h12_, ⟨h13_, ⟨h14_, ⟨h15_, ⟨h16_, ⟨h17_, ⟨h18_, ⟨h19_, ⟨h20_, (la_writeTo_16 h10_ h21_ h22_ h30_ h34_ h50_ h54_)⟩⟩⟩⟩⟩⟩⟩⟩⟩⟩⟩⟩, ?_⟩
        intro r50
        intro h60_
        rintro ⟨h61_, h62_⟩
        obtain ⟨h63_, h64_⟩ := (h61_ la_writeTo_8)
        refine ⟨?_, ?_⟩
        · skip
          intro h65_
          have h66_ := (h48_.resolve_right (la_writeTo_17 h65_))
          refine ⟨(la_writeTo_18 h23_ h24_ h63_ h64_), ?_⟩
          intro r56
          intro h67_
          intro g52
          rintro ⟨h68_, ⟨h69_, h70_⟩⟩
          have h71_ := (h68_ (la_writeTo_19 h63_))
          refine ⟨(la_writeTo_21 h12_ h50_ h54_), ?_⟩
          refine ⟨(la_writeTo_22 h50_ h52_ h54_ h71_), ?_⟩
          exact la_writeTo_23
        intro h72_
        have h73_ := (h48_.resolve_left h72_)
        refine ⟨(la_writeTo_24 h63_ h64_), ?_⟩
        intro g62
        intro h74_
        have h75_ := (h74_ (la_writeTo_19 h63_))
        refine ⟨(la_writeTo_18 h23_ h24_ h63_ h64_), ?_⟩
        intro r74
        intro h76_
        intro g70
        rintro ⟨h77_, ⟨h78_, h79_⟩⟩
        have h80_ := (h77_ (la_writeTo_19 h63_))
        refine ⟨(la_writeTo_21 h12_ h50_ h54_), ?_⟩
        refine ⟨(la_writeTo_25 h50_ h52_ h54_ h75_ h80_), ?_⟩
        exact la_writeTo_23
      intro h81_
      refine ⟨?_, ?_⟩
      · skip
        intro h82_
        refine ⟨⟨h9_, ⟨h10_, ⟨h11_, ⟨h12_, ⟨h13_, ⟨h14_, ⟨h15_, ⟨h16_, ⟨h17_, ⟨h18_, ⟨h19_, ⟨h20_, (la_writeTo_26 h10_ h21_ h22_ h30_ h34_ h54_ (la_writeTo_6 h50_ h82_))⟩⟩⟩⟩⟩⟩⟩⟩⟩⟩⟩⟩, ?_⟩
        intro r84
        intro h83_
        rintro ⟨h84_, h85_⟩
        obtain ⟨h86_, h87_⟩ := (h84_ la_writeTo_8)
        refine ⟨?_, ?_⟩
        · skip
          intro h88_
          have h89_ := (h48_.resolve_right (la_writeTo_17 h88_))
          refine ⟨(la_writeTo_18 h23_ h24_ h86_ h87_), ?_⟩
          intro r90
          intro h90_
          intro g86
          rintro ⟨h91_, ⟨h92_, h93_⟩⟩
          have h94_ := (h91_ (la_writeTo_19 h86_))
          refine ⟨(la_writeTo_27 h12_ h54_ (la_writeTo_6 h50_ h82_)), ?_⟩
          refine ⟨(la_writeTo_28 h52_ h54_ (la_writeTo_6 h50_ h82_) h94_), ?_⟩
          exact la_writeTo_23
        intro h95_
        have h96_ := (h48_.resolve_left h95_)
        refine ⟨(la_writeTo_24 h86_ h87_), ?_⟩
        intro g96
        intro h97_
        have h98_ := (h97_ (la_writeTo_19 h86_))
        refine ⟨(la_writeTo_18 h23_ h24_ h86_ h87_), ?_⟩
        intro r108
        intro h99_
        intro g104
        rintro ⟨h100_, ⟨h101_, h102_⟩⟩
        have h103_ := (h100_ (la_writeTo_19 h86_))
        refine ⟨(la_writeTo_27 h12_ h54_ (la_writeTo_6 h50_ h82_)), ?_⟩
        refine ⟨(la_writeTo_29 h52_ h54_ (la_writeTo_6 h50_ h82_) h98_ h103_), ?_⟩
        exact la_writeTo_23
      intro h104_
      refine ⟨⟨h9_, ⟨h10_, ⟨h11_, ⟨h12_, ⟨h13_, ⟨h14_, ⟨h15_, ⟨h16_, ⟨h17_, ⟨h18_, ⟨h19_, ⟨h20_, (la_writeTo_30 h21_ h22_ h30_ h34_)⟩⟩⟩⟩⟩⟩⟩⟩⟩⟩⟩⟩, ?_⟩
      intro r118
      intro h105_
      intro h106_
      refine ⟨?_, ?_⟩
      · skip
        intro h107_
        have h108_ := (h106_.resolve_right (la_writeTo_17 h107_))
        refine ⟨⟨h9_, ⟨h10_, ⟨h11_, ⟨h12_, ⟨h13_, ⟨h14_, ⟨h15_, ⟨h16_, ⟨h17_, ⟨h18_, ⟨h19_, ⟨h20_, (la_writeTo_31 h10_ h11_ h21_ h22_ h30_ h34_ h104_)⟩⟩⟩⟩⟩⟩⟩⟩⟩⟩⟩⟩, ?_⟩
        intro r124
        intro h109_
        rintro ⟨h110_, h111_⟩
        obtain ⟨h112_, h113_⟩ := (h110_ la_writeTo_8)
        refine ⟨?_, ?_⟩
        · skip
          intro h114_
          have h115_ := (h48_.resolve_right (la_writeTo_17 h114_))
          refine ⟨(la_writeTo_18 h23_ h24_ h112_ h113_), ?_⟩
          intro r130
          intro h116_
          intro g126
          rintro ⟨h117_, ⟨h118_, h119_⟩⟩
          have h120_ := (h117_ (la_writeTo_19 h112_))
          refine ⟨(la_writeTo_32 h104_), ?_⟩
          refine ⟨(la_writeTo_33 h11_ h52_ h104_ h120_), ?_⟩
          exact la_writeTo_23
        intro h121_
        have h122_ := (h48_.resolve_left h121_)
        refine ⟨(la_writeTo_24 h112_ h113_), ?_⟩
        intro g136
        intro h123_
        have h124_ := (h123_ (la_writeTo_19 h112_))
        refine ⟨(la_writeTo_18 h23_ h24_ h112_ h113_), ?_⟩
        intro r148
        intro h125_
        intro g144
        rintro ⟨h126_, ⟨h127_, h128_⟩⟩
        have h129_ := (h126_ (la_writeTo_19 h112_))
        refine ⟨(la_writeTo_32 h104_), ?_⟩
        refine ⟨(la_writeTo_34 h11_ h52_ h104_ h124_ h129_), ?_⟩
        exact la_writeTo_23
      intro h130_
      have h131_ := (h106_.resolve_left h130_)
      refine ⟨(la_writeTo_32 h104_), ?_⟩
      refine ⟨(la_writeTo_35 h11_ h52_ h104_), ?_⟩
      exact la_writeTo_23
    refine ⟨la_writeTo_36, ?_⟩
    intro h132_
    refine ⟨(la_writeTo_37 h25_ h26_ h27_ h28_), ?_⟩
    refine ⟨la_writeTo_38, ?_⟩
    intro h133_
    refine ⟨(la_writeTo_39 h10_ h30_ h34_), ?_⟩
    intro r161
    intro h134_
    intro h135_
    refine ⟨la_writeTo_36, ?_⟩
    intro h136_
    have h137_ := (h135_.resolve_left h136_)
    intro r166
    intro h138_
    rintro ⟨h139_, h140_⟩
    refine ⟨la_writeTo_40, ?_⟩
    intro h141_
    intro h142_
    refine ⟨(la_writeTo_41 h11_ h12_), ?_⟩
    intro r173
    intro h143_
    intro h144_
    refine ⟨la_writeTo_42, ?_⟩
    intro h145_
    have h146_ := (h144_.resolve_right (la_writeTo_43 h145_))
    exact la_writeTo_44
  intro h147_
  refine ⟨(la_writeTo_45 h10_ h30_ h34_), ?_⟩
  refine ⟨(la_writeTo_46 h30_ h32_ h34_), ?_⟩
  exact la_writeTo_47
set_option maxRecDepth 8000 in
set_option maxHeartbeats 2000000 in
theorem t_writeTo : ∀ (p1 : Int) (p3 : Int) (p5 : Int) (p6 : Int) (p7 : Int) (S : sv_S), sm_ok S → sv_RL p1 → sv_RL p3 → sv_R p5 → (0 ≤ p6 ∧ p6 ≤ 1) → (0 ≤ p7 ∧ p7 ≤ 1) → (29 ≤ (S 1071 0) ∧ (S 1071 0) ≤ 127 ∧ 31 ≤ (S 1008 0) ∧ (S 1008 0) ≤ 90 ∧ 1 ≤ (S 1032 0) ∧ (S 1032 0) ≤ 11 ∧ 0 ≤ (S 1055 0) ∧ (S 1055 0) ≤ 19 ∧ (S 1071 0) = 29 + 6 * ((S 1032 0) - 1) + 2 * (S 1055 0) ∧ 0 ≤ (S 1046 0) ∧ (S 1046 0) + 2 * (S 1032 0) ≤ 500 ∧ sm_PD (S 1046 0) (S 1032 0) (S 1071 0) (S 1008 0) ∧ 0 ≤ (S 1071 0) * ((S 1008 0) + 1) ∧ (S 1071 0) * ((S 1008 0) + 1) ≤ 11557 ∧ 0 ≤ p5 ∧ p5 < 647800) → sv_T sm_XS sm_cs sm_L sm_sh 5 (q_writeTo p1 p3 p5 p6 p7 S) 251 0 (lv_args 0 [.ref 0, sv_L p1, sv_L p3, sv_I p5, sv_I p6, sv_I p7]) [] S := by
  intro p1 p3 p5 p6 p7 S hok hp1 hp3 hp5 hp6 hp7 hpre
  have h := f_writeTo p1 p3 p5 p6 p7 S hok hp1 hp3 hp5 hp6 hp7 hpre
  have hM := sm_h251
  show sv_T sm_XS sm_cs sm_L sm_sh 5 (q_writeTo p1 p3 p5 p6 p7 S) 251 0 [(0, .ref 0), (1, sv_L p1), (3, sv_L p3), (5, sv_I p5), (6, sv_I p6), (7, sv_I p7)] [] S
  refine sv_lload_n hM dX12_writeTo_0 rfl rfl ?_
  refine sv_bitcount hM dX12_writeTo_1 sm_iv_1129 sm_h1002 (Nat.le_of_ble_eq_true rfl) (Nat.le_of_ble_eq_true rfl) rfl (fun r1 hr1 => ?_)
  have h := h r1 hr1
  refine sv_lload_n hM dX12_writeTo_4 rfl rfl ?_
  refine sv_bitcount hM dX12_writeTo_5 sm_iv_1129 sm_h1002 (Nat.le_of_ble_eq_true rfl) (Nat.le_of_ble_eq_true rfl) rfl (fun r2 hr2 => ?_)
  have h := h r2 hr2
  refine sv_iadd hM dX12_writeTo_8 rfl ?_
  refine sv_istore hM dX12_writeTo_9 (by decide) rfl ?_
  show sv_T sm_XS sm_cs sm_L sm_sh 5 (q_writeTo p1 p3 p5 p6 p7 S) 251 11 [(0, .ref 0), (1, sv_L p1), (3, sv_L p3), (5, sv_I p5), (6, sv_I p6), (7, sv_I p7), (8, sv_I (r1 + r2))] [] S
  refine sv_iconst (d := (0 : Int)) hM dX12_writeTo_11 rfl rfl ?_
  refine sv_istore hM dX12_writeTo_12 (by decide) rfl ?_
  show sv_T sm_XS sm_cs sm_L sm_sh 5 (q_writeTo p1 p3 p5 p6 p7 S) 251 14 [(0, .ref 0), (1, sv_L p1), (3, sv_L p3), (5, sv_I p5), (6, sv_I p6), (7, sv_I p7), (8, sv_I (r1 + r2)), (9, sv_I (0 : Int))] [] S
  obtain ⟨hin6, h⟩ := h
  have hJ : ∀ a : Int × sv_S, (sv_R a.1 ∧ sm_ok (sv_sts S [68, 69, 70] a.2) ∧ (0 ≤ a.1 ∧ a.1 ≤ (S 1071 0) ∧ sm_pt (a.2 68) (a.2 69) (a.2 70) = sm_pt (S 68) (S 69) (S 70))) → sv_T sm_XS sm_cs sm_L sm_sh 5 (q_writeTo p1 p3 p5 p6 p7 S) 251 14 [(0, .ref 0), (1, sv_L p1), (3, sv_L p3), (5, sv_I p5), (6, sv_I p6), (7, sv_I p7), (8, sv_I (r1 + r2)), (9, sv_I a.1)] [] (sv_sts S [68, 69, 70] a.2) := by
    refine sv_loop (α := Int × sv_S) (fun a => sv_R a.1 ∧ sm_ok (sv_sts S [68, 69, 70] a.2) ∧ (0 ≤ a.1 ∧ a.1 ≤ (S 1071 0) ∧ sm_pt (a.2 68) (a.2 69) (a.2 70) = sm_pt (S 68) (S 69) (S 70))) (fun a => (S 1071 0) - a.1) (fun a => sv_T sm_XS sm_cs sm_L sm_sh 5 (q_writeTo p1 p3 p5 p6 p7 S) 251 14 [(0, .ref 0), (1, sv_L p1), (3, sv_L p3), (5, sv_I p5), (6, sv_I p6), (7, sv_I p7), (8, sv_I (r1 + r2)), (9, sv_I a.1)] [] (sv_sts S [68, 69, 70] a.2)) (fun a q => (h a.1 q.1 a.2 q.2.2).1) (fun a q ih5 => ?_)
    obtain ⟨l9_4, g3⟩ := a
    obtain ⟨hl9_4, ok7, hin6i⟩ := q
    have h := (h l9_4 hl9_4 g3 hin6i).2
    show sv_T sm_XS sm_cs sm_L sm_sh 5 (q_writeTo p1 p3 p5 p6 p7 S) 251 14 [(0, .ref 0), (1, sv_L p1), (3, sv_L p3), (5, sv_I p5), (6, sv_I p6), (7, sv_I p7), (8, sv_I (r1 + r2)), (9, sv_I l9_4)] [] (sv_sts S [68, 69, 70] g3)
    have md8 : sv_mod [68, 69, 70] S (sv_sts S [68, 69, 70] g3) := sv_mod.sts sv_mod.rf (by decide)
    have md9 : sv_mod [68, 69, 70] S (sv_sts S [68, 69, 70] g3) := sv_mod.sts sv_mod.rf (by decide)
    refine sv_iload hM dX12_writeTo_14 rfl rfl ?_
    refine sv_aload_n hM dX12_writeTo_16 rfl rfl ?_
    have k10 : sv_R (S 1071 0) := sm_okI ok7 sm_r1071 0
    have h := h k10
    refine sv_getI hM dX12_writeTo_17 sm_fl_765 (sm_a0 _) sm_k71 rfl (x := (S 1071 0)) rfl ?_
    refine sv_icmp_ge hM dX12_writeTo_20 hl9_4 k10 (t := 187) rfl rfl (fun hc => ?_) (fun hc => ?_)
    · have h := h.1 (hc)
      exact sv_vret hM dX12_writeTo_187 rfl ⟨rfl, ok7, md8, h⟩
    · have h := h.2 (hc)
      refine sv_lload_n hM dX12_writeTo_23 rfl rfl ?_
      refine sv_lload_n hM dX12_writeTo_24 rfl rfl ?_
      refine sv_iload hM dX12_writeTo_25 rfl rfl ?_
      obtain ⟨o11, h⟩ := h
      refine sv_callS hM dX12_writeTo_27 sm_iv_1125 (Nat.le_of_ble_eq_true rfl) rfl rfl (Nat.le_of_ble_eq_true rfl) sm_h217 (Nat.le_of_ble_eq_true rfl) (Nat.le_of_ble_eq_true rfl) (F' := 0) (Nat.le_of_ble_eq_true rfl) rfl (t_isIn p1 p3 l9_4 (sv_sts S [68, 69, 70] g3) ok7 hp1 hp3 hl9_4 o11) (fun v S1 hq => ?_)
      obtain ⟨r16, rfl, hr16, ok13, md14, hpo15⟩ := hq
      obtain rfl : (sv_sts S [68, 69, 70] g3) = S1 := (funext fun j => md14 j (by intro q; cases q)).symm
      show sv_T sm_XS sm_cs sm_L sm_sh 5 (q_writeTo p1 p3 p5 p6 p7 S) 251 30 [(0, .ref 0), (1, sv_L p1), (3, sv_L p3), (5, sv_I p5), (6, sv_I p6), (7, sv_I p7), (8, sv_I (r1 + r2)), (9, sv_I l9_4)] [sv_I r16] (sv_sts S [68, 69, 70] g3)
      have h := h r16 hr16 hpo15
      refine sv_cond_eq hM dX12_writeTo_30 hr16 (t := 181) rfl rfl (fun hc => ?_) (fun hc => ?_)
      · have h := h.1 (hc)
        refine sv_iinc (d := (1 : Int)) hM dX12_writeTo_181 rfl (by decide) rfl rfl ?_
        show sv_T sm_XS sm_cs sm_L sm_sh 5 (q_writeTo p1 p3 p5 p6 p7 S) 251 184 [(0, .ref 0), (1, sv_L p1), (3, sv_L p3), (5, sv_I p5), (6, sv_I p6), (7, sv_I p7), (8, sv_I (r1 + r2)), (9, sv_I (l9_4 + (1 : Int)))] [] (sv_sts S [68, 69, 70] g3)
        refine sv_goto hM dX12_writeTo_184 (pc' := 14) rfl ?_
        obtain ⟨o17, h⟩ := h
        have eS := sv_mod.eq md9
        have hb := ih5 ((l9_4 + (1 : Int)), (sv_sts S [68, 69, 70] g3)) ⟨o17, (by rw [← eS]; exact ok13), h.1⟩ h.2
        have hb : sv_T sm_XS sm_cs sm_L sm_sh 5 (q_writeTo p1 p3 p5 p6 p7 S) 251 14 [(0, .ref 0), (1, sv_L p1), (3, sv_L p3), (5, sv_I p5), (6, sv_I p6), (7, sv_I p7), (8, sv_I (r1 + r2)), (9, sv_I (l9_4 + (1 : Int)))] [] (sv_sts S [68, 69, 70] g3) := Eq.mpr (congrArg (fun Z => sv_T sm_XS sm_cs sm_L sm_sh 5 (q_writeTo p1 p3 p5 p6 p7 S) 251 14 [(0, .ref 0), (1, sv_L p1), (3, sv_L p3), (5, sv_I p5), (6, sv_I p6), (7, sv_I p7), (8, sv_I (r1 + r2)), (9, sv_I (l9_4 + (1 : Int)))] [] Z) eS) hb
        exact sv_less (lv := [(0, .ref 0), (1, sv_L p1), (3, sv_L p3), (5, sv_I p5), (6, sv_I p6), (7, sv_I p7), (8, sv_I (r1 + r2)), (9, sv_I (l9_4 + (1 : Int)))]) (sv_Sub_cons rfl (sv_Sub_cons rfl (sv_Sub_cons rfl (sv_Sub_cons rfl (sv_Sub_cons rfl (sv_Sub_cons rfl (sv_Sub_cons rfl (sv_Sub_cons rfl sv_Sub_nil)))))))) hb
      · have h := h.2 (hc)
        refine sv_aload_n hM dX12_writeTo_33 rfl rfl ?_
        refine sv_getA hM dX12_writeTo_34 sm_fl_256 (sm_a0 _) sm_k133 rfl ?_
        refine sv_aload_n hM dX12_writeTo_37 rfl rfl ?_
        refine sv_sipush (d := (639 : Int)) hM dX12_writeTo_38 rfl rfl ?_
        refine sv_iload hM dX12_writeTo_41 rfl rfl ?_
        obtain ⟨o18, h⟩ := h
        refine sv_callV hM dX12_writeTo_43 sm_iv_1101 (by decide) (sm_a0 _) rfl rfl (Nat.le_of_ble_eq_true rfl) sm_h226 (Nat.le_of_ble_eq_true rfl) (Nat.le_of_ble_eq_true rfl) (F' := 1) (Nat.le_of_ble_eq_true rfl) rfl (t_of (639 : Int) l9_4 (sv_sts S [68, 69, 70] g3) ok13 (⟨by decide, by decide⟩ : sv_R (639 : Int)) hl9_4 o18) (fun v S1 hq => ?_)
        obtain ⟨r23, rfl, hr23, ok20, md21, hpo22⟩ := hq
        obtain rfl : (sv_sts S [68, 69, 70] g3) = S1 := (funext fun j => md21 j (by intro q; cases q)).symm
        show sv_T sm_XS sm_cs sm_L sm_sh 5 (q_writeTo p1 p3 p5 p6 p7 S) 251 46 [(0, .ref 0), (1, sv_L p1), (3, sv_L p3), (5, sv_I p5), (6, sv_I p6), (7, sv_I p7), (8, sv_I (r1 + r2)), (9, sv_I l9_4)] [sv_I r23, .ref 81] (sv_sts S [68, 69, 70] g3)
        have h := h r23 hr23 hpo22
        obtain ⟨o24, h⟩ := h
        have k25 : (0 ≤ (S 81 r23) ∧ (S 81 r23) ≤ 1) := sm_okZ ok20 sm_r81 r23
        have h := h k25
        refine sv_zald hM dX12_writeTo_46 (sm_a81 _) (by decide) o24.1 o24.2 rfl (x := (S 81 r23)) rfl ?_
        refine sv_cond_ne hM dX12_writeTo_47 (sv_R01 k25) (t := 53) rfl rfl (fun hc => ?_) (fun hc => ?_)
        · have h := h.1 (hc)
          have J154 : ∀ s26 : Int, sv_R s26 → (s26 = 0 ∨ s26 = 1) → sv_T sm_XS sm_cs sm_L sm_sh 5 (q_writeTo p1 p3 p5 p6 p7 S) 251 96 [(0, .ref 0), (1, sv_L p1), (3, sv_L p3), (5, sv_I p5), (6, sv_I p6), (7, sv_I p7), (8, sv_I (r1 + r2)), (9, sv_I l9_4)] [sv_I s26] (sv_sts S [68, 69, 70] g3) := by
            intro s26 hs26 hin27
            have h := h.1 s26 hs26 hin27
            refine sv_istore hM dX12_writeTo_96 (by decide) rfl ?_
            show sv_T sm_XS sm_cs sm_L sm_sh 5 (q_writeTo p1 p3 p5 p6 p7 S) 251 98 [(0, .ref 0), (1, sv_L p1), (3, sv_L p3), (5, sv_I p5), (6, sv_I p6), (7, sv_I p7), (8, sv_I (r1 + r2)), (9, sv_I l9_4), (10, sv_I s26)] [] (sv_sts S [68, 69, 70] g3)
            refine sv_iconst (d := (0 : Int)) hM dX12_writeTo_98 rfl rfl ?_
            refine sv_istore hM dX12_writeTo_99 (by decide) rfl ?_
            show sv_T sm_XS sm_cs sm_L sm_sh 5 (q_writeTo p1 p3 p5 p6 p7 S) 251 101 [(0, .ref 0), (1, sv_L p1), (3, sv_L p3), (5, sv_I p5), (6, sv_I p6), (7, sv_I p7), (8, sv_I (r1 + r2)), (9, sv_I l9_4), (10, sv_I s26), (11, sv_I (0 : Int))] [] (sv_sts S [68, 69, 70] g3)
            obtain ⟨hin31, h⟩ := h
            have hJ : ∀ a : Int × sv_S, (sv_R a.1 ∧ sm_ok (sv_sts (sv_sts S [68, 69, 70] g3) [68, 69, 70] a.2) ∧ (0 ≤ a.1 ∧ a.1 ≤ (S 1008 0) + 1 ∧ sm_pt (a.2 68) (a.2 69) (a.2 70) = sm_pt (S 68) (S 69) (S 70))) → sv_T sm_XS sm_cs sm_L sm_sh 5 (q_writeTo p1 p3 p5 p6 p7 S) 251 101 [(0, .ref 0), (1, sv_L p1), (3, sv_L p3), (5, sv_I p5), (6, sv_I p6), (7, sv_I p7), (8, sv_I (r1 + r2)), (9, sv_I l9_4), (10, sv_I s26), (11, sv_I a.1)] [] (sv_sts (sv_sts S [68, 69, 70] g3) [68, 69, 70] a.2) := by
              refine sv_loop (α := Int × sv_S) (fun a => sv_R a.1 ∧ sm_ok (sv_sts (sv_sts S [68, 69, 70] g3) [68, 69, 70] a.2) ∧ (0 ≤ a.1 ∧ a.1 ≤ (S 1008 0) + 1 ∧ sm_pt (a.2 68) (a.2 69) (a.2 70) = sm_pt (S 68) (S 69) (S 70))) (fun a => (S 1008 0) + 1 - a.1) (fun a => sv_T sm_XS sm_cs sm_L sm_sh 5 (q_writeTo p1 p3 p5 p6 p7 S) 251 101 [(0, .ref 0), (1, sv_L p1), (3, sv_L p3), (5, sv_I p5), (6, sv_I p6), (7, sv_I p7), (8, sv_I (r1 + r2)), (9, sv_I l9_4), (10, sv_I s26), (11, sv_I a.1)] [] (sv_sts (sv_sts S [68, 69, 70] g3) [68, 69, 70] a.2)) (fun a q => (h a.1 q.1 a.2 q.2.2).1) (fun a q ih30 => ?_)
              obtain ⟨l11_29, g28⟩ := a
              obtain ⟨hl11_29, ok32, hin31i⟩ := q
              have h := (h l11_29 hl11_29 g28 hin31i).2
              show sv_T sm_XS sm_cs sm_L sm_sh 5 (q_writeTo p1 p3 p5 p6 p7 S) 251 101 [(0, .ref 0), (1, sv_L p1), (3, sv_L p3), (5, sv_I p5), (6, sv_I p6), (7, sv_I p7), (8, sv_I (r1 + r2)), (9, sv_I l9_4), (10, sv_I s26), (11, sv_I l11_29)] [] (sv_sts (sv_sts S [68, 69, 70] g3) [68, 69, 70] g28)
              have md33 : sv_mod [68, 69, 70] S (sv_sts (sv_sts S [68, 69, 70] g3) [68, 69, 70] g28) := sv_mod.sts md8 (by decide)
              have md34 : sv_mod [68, 69, 70] S (sv_sts (sv_sts S [68, 69, 70] g3) [68, 69, 70] g28) := sv_mod.sts md9 (by decide)
              have md35 : sv_mod [68, 69, 70] (sv_sts S [68, 69, 70] g3) (sv_sts (sv_sts S [68, 69, 70] g3) [68, 69, 70] g28) := sv_mod.sts sv_mod.rf (by decide)
              refine sv_iload hM dX12_writeTo_101 rfl rfl ?_
              refine sv_aload_n hM dX12_writeTo_103 rfl rfl ?_
              have k36 : sv_R (S 1008 0) := sm_okI ok32 sm_r1008 0
              have h := h k36
              refine sv_getI hM dX12_writeTo_104 sm_fl_762 (sm_a0 _) sm_k8 rfl (x := (S 1008 0)) rfl ?_
              refine sv_icmp_gt hM dX12_writeTo_107 hl11_29 k36 (t := 181) rfl rfl (fun hc => ?_) (fun hc => ?_)
              · have h := h.1 (hc)
                refine sv_iinc (d := (1 : Int)) hM dX12_writeTo_181 rfl (by decide) rfl rfl ?_
                show sv_T sm_XS sm_cs sm_L sm_sh 5 (q_writeTo p1 p3 p5 p6 p7 S) 251 184 [(0, .ref 0), (1, sv_L p1), (3, sv_L p3), (5, sv_I p5), (6, sv_I p6), (7, sv_I p7), (8, sv_I (r1 + r2)), (9, sv_I (l9_4 + (1 : Int))), (10, sv_I s26), (11, sv_I l11_29)] [] (sv_sts (sv_sts S [68, 69, 70] g3) [68, 69, 70] g28)
                refine sv_goto hM dX12_writeTo_184 (pc' := 14) rfl ?_
                obtain ⟨o37, h⟩ := h
                have eS := sv_mod.eq md34
                have hb := ih5 ((l9_4 + (1 : Int)), (sv_sts (sv_sts S [68, 69, 70] g3) [68, 69, 70] g28)) ⟨o37, (by rw [← eS]; exact ok32), h.1⟩ h.2
                have hb : sv_T sm_XS sm_cs sm_L sm_sh 5 (q_writeTo p1 p3 p5 p6 p7 S) 251 14 [(0, .ref 0), (1, sv_L p1), (3, sv_L p3), (5, sv_I p5), (6, sv_I p6), (7, sv_I p7), (8, sv_I (r1 + r2)), (9, sv_I (l9_4 + (1 : Int)))] [] (sv_sts (sv_sts S [68, 69, 70] g3) [68, 69, 70] g28) := Eq.mpr (congrArg (fun Z => sv_T sm_XS sm_cs sm_L sm_sh 5 (q_writeTo p1 p3 p5 p6 p7 S) 251 14 [(0, .ref 0), (1, sv_L p1), (3, sv_L p3), (5, sv_I p5), (6, sv_I p6), (7, sv_I p7), (8, sv_I (r1 + r2)), (9, sv_I (l9_4 + (1 : Int)))] [] Z) eS) hb
                exact sv_less (lv := [(0, .ref 0), (1, sv_L p1), (3, sv_L p3), (5, sv_I p5), (6, sv_I p6), (7, sv_I p7), (8, sv_I (r1 + r2)), (9, sv_I (l9_4 + (1 : Int)))]) (sv_Sub_cons rfl (sv_Sub_cons rfl (sv_Sub_cons rfl (sv_Sub_cons rfl (sv_Sub_cons rfl (sv_Sub_cons rfl (sv_Sub_cons rfl (sv_Sub_cons rfl sv_Sub_nil)))))))) hb
              · have h := h.2 (hc)
                refine sv_aload_n hM dX12_writeTo_110 rfl rfl ?_
                refine sv_iload hM dX12_writeTo_111 rfl rfl ?_
                obtain ⟨o38, h⟩ := h
                refine sv_callV hM dX12_writeTo_113 sm_iv_1153 (by decide) (sm_a0 _) rfl rfl (Nat.le_of_ble_eq_true rfl) sm_h242 (Nat.le_of_ble_eq_true rfl) (Nat.le_of_ble_eq_true rfl) (F' := 1) (Nat.le_of_ble_eq_true rfl) rfl (t_hasKey l11_29 (sv_sts (sv_sts S [68, 69, 70] g3) [68, 69, 70] g28) ok32 hl11_29 o38) (fun v S1 hq => ?_)
                obtain ⟨r43, rfl, hr43, ok40, md41, hpo42⟩ := hq
                obtain rfl : (sv_sts (sv_sts S [68, 69, 70] g3) [68, 69, 70] g28) = S1 := (funext fun j => md41 j (by intro q; cases q)).symm
                show sv_T sm_XS sm_cs sm_L sm_sh 5 (q_writeTo p1 p3 p5 p6 p7 S) 251 116 [(0, .ref 0), (1, sv_L p1), (3, sv_L p3), (5, sv_I p5), (6, sv_I p6), (7, sv_I p7), (8, sv_I (r1 + r2)), (9, sv_I l9_4), (10, sv_I s26), (11, sv_I l11_29)] [sv_I r43] (sv_sts (sv_sts S [68, 69, 70] g3) [68, 69, 70] g28)
                have h := h r43 hr43 hpo42
                refine sv_cond_eq hM dX12_writeTo_116 hr43 (t := 175) rfl rfl (fun hc => ?_) (fun hc => ?_)
                · have h := h.1 (hc)
                  refine sv_iinc (d := (1 : Int)) hM dX12_writeTo_175 rfl (by decide) rfl rfl ?_
                  show sv_T sm_XS sm_cs sm_L sm_sh 5 (q_writeTo p1 p3 p5 p6 p7 S) 251 178 [(0, .ref 0), (1, sv_L p1), (3, sv_L p3), (5, sv_I p5), (6, sv_I p6), (7, sv_I p7), (8, sv_I (r1 + r2)), (9, sv_I l9_4), (10, sv_I s26), (11, sv_I (l11_29 + (1 : Int)))] [] (sv_sts (sv_sts S [68, 69, 70] g3) [68, 69, 70] g28)
                  refine sv_goto hM dX12_writeTo_178 (pc' := 101) rfl ?_
                  obtain ⟨o44, h⟩ := h
                  have eS := sv_mod.eq md35
                  have hb := ih30 ((l11_29 + (1 : Int)), (sv_sts (sv_sts S [68, 69, 70] g3) [68, 69, 70] g28)) ⟨o44, (by rw [← eS]; exact ok40), h.1⟩ h.2
                  have hb : sv_T sm_XS sm_cs sm_L sm_sh 5 (q_writeTo p1 p3 p5 p6 p7 S) 251 101 [(0, .ref 0), (1, sv_L p1), (3, sv_L p3), (5, sv_I p5), (6, sv_I p6), (7, sv_I p7), (8, sv_I (r1 + r2)), (9, sv_I l9_4), (10, sv_I s26), (11, sv_I (l11_29 + (1 : Int)))] [] (sv_sts (sv_sts S [68, 69, 70] g3) [68, 69, 70] g28) := Eq.mpr (congrArg (fun Z => sv_T sm_XS sm_cs sm_L sm_sh 5 (q_writeTo p1 p3 p5 p6 p7 S) 251 101 [(0, .ref 0), (1, sv_L p1), (3, sv_L p3), (5, sv_I p5), (6, sv_I p6), (7, sv_I p7), (8, sv_I (r1 + r2)), (9, sv_I l9_4), (10, sv_I s26), (11, sv_I (l11_29 + (1 : Int)))] [] Z) eS) hb
                  exact sv_less (lv := [(0, .ref 0), (1, sv_L p1), (3, sv_L p3), (5, sv_I p5), (6, sv_I p6), (7, sv_I p7), (8, sv_I (r1 + r2)), (9, sv_I l9_4), (10, sv_I s26), (11, sv_I (l11_29 + (1 : Int)))]) (sv_Sub_cons rfl (sv_Sub_cons rfl (sv_Sub_cons rfl (sv_Sub_cons rfl (sv_Sub_cons rfl (sv_Sub_cons rfl (sv_Sub_cons rfl (sv_Sub_cons rfl (sv_Sub_cons rfl (sv_Sub_cons rfl sv_Sub_nil)))))))))) hb
                · have h := h.2 (hc)
                  refine sv_iload hM dX12_writeTo_119 rfl rfl ?_
                  refine sv_cond_eq hM dX12_writeTo_121 (sv_R01 hp7) (t := 141) rfl rfl (fun hc => ?_) (fun hc => ?_)
                  · have h := h.1 (hc)
                    refine sv_aload_n hM dX12_writeTo_141 rfl rfl ?_
                    refine sv_sipush (d := (639 : Int)) hM dX12_writeTo_142 rfl rfl ?_
                    refine sv_iload hM dX12_writeTo_145 rfl rfl ?_
                    refine sv_iload hM dX12_writeTo_147 rfl rfl ?_
                    obtain ⟨o45, h⟩ := h
                    refine sv_callV hM dX12_writeTo_149 sm_iv_1163 (by decide) (sm_a0 _) rfl rfl (Nat.le_of_ble_eq_true rfl) sm_h225 (Nat.le_of_ble_eq_true rfl) (Nat.le_of_ble_eq_true rfl) (F' := 1) (Nat.le_of_ble_eq_true rfl) rfl (t_field (639 : Int) l9_4 l11_29 (sv_sts (sv_sts S [68, 69, 70] g3) [68, 69, 70] g28) ok40 (⟨by decide, by decide⟩ : sv_R (639 : Int)) hl9_4 hl11_29 o45) (fun v S1 hq => ?_)
                    obtain ⟨r50, rfl, hr50, ok47, md48, hpo49⟩ := hq
                    obtain rfl : (sv_sts (sv_sts S [68, 69, 70] g3) [68, 69, 70] g28) = S1 := (funext fun j => md48 j (by intro q; cases q)).symm
                    show sv_T sm_XS sm_cs sm_L sm_sh 5 (q_writeTo p1 p3 p5 p6 p7 S) 251 152 [(0, .ref 0), (1, sv_L p1), (3, sv_L p3), (5, sv_I p5), (6, sv_I p6), (7, sv_I p7), (8, sv_I (r1 + r2)), (9, sv_I l9_4), (10, sv_I s26), (11, sv_I l11_29)] [sv_I r50] (sv_sts (sv_sts S [68, 69, 70] g3) [68, 69, 70] g28)
                    have h := h r50 hr50 hpo49
                    refine sv_istore hM dX12_writeTo_152 (by decide) rfl ?_
                    show sv_T sm_XS sm_cs sm_L sm_sh 5 (q_writeTo p1 p3 p5 p6 p7 S) 251 154 [(0, .ref 0), (1, sv_L p1), (3, sv_L p3), (5, sv_I p5), (6, sv_I p6), (7, sv_I p7), (8, sv_I (r1 + r2)), (9, sv_I l9_4), (10, sv_I s26), (11, sv_I l11_29), (12, sv_I r50)] [] (sv_sts (sv_sts S [68, 69, 70] g3) [68, 69, 70] g28)
                    refine sv_iload hM dX12_writeTo_154 rfl rfl ?_
                    refine sv_cond_eq hM dX12_writeTo_156 hs26 (t := 165) rfl rfl (fun hc => ?_) (fun hc => ?_)
                    · have h := h.1 (hc)
                      refine sv_aload_n hM dX12_writeTo_165 rfl rfl ?_
                      refine sv_iload hM dX12_writeTo_166 rfl rfl ?_
                      refine sv_iload hM dX12_writeTo_168 rfl rfl ?_
                      obtain ⟨o51, h⟩ := h
                      refine sv_callV hM dX12_writeTo_170 sm_iv_1069 (by decide) (sm_a0 _) rfl rfl (Nat.le_of_ble_eq_true rfl) sm_h208 (Nat.le_of_ble_eq_true rfl) (Nat.le_of_ble_eq_true rfl) (F' := 1) (Nat.le_of_ble_eq_true rfl) rfl (t_join p5 r50 (sv_sts (sv_sts S [68, 69, 70] g3) [68, 69, 70] g28) ok47 hp5 hr50 o51) (fun v S1 hq => ?_)
                      obtain ⟨r56, rfl, hr56, ok53, md54, hpo55⟩ := hq
                      obtain ⟨g52, rfl⟩ : ∃ g, S1 = sv_sts (sv_sts (sv_sts S [68, 69, 70] g3) [68, 69, 70] g28) [68, 69, 70] g := ⟨_, md54.eq⟩
                      show sv_T sm_XS sm_cs sm_L sm_sh 5 (q_writeTo p1 p3 p5 p6 p7 S) 251 173 [(0, .ref 0), (1, sv_L p1), (3, sv_L p3), (5, sv_I p5), (6, sv_I p6), (7, sv_I p7), (8, sv_I (r1 + r2)), (9, sv_I l9_4), (10, sv_I s26), (11, sv_I l11_29), (12, sv_I r50)] [sv_I r56] (sv_sts (sv_sts (sv_sts S [68, 69, 70] g3) [68, 69, 70] g28) [68, 69, 70] g52)
                      have md57 : sv_mod [68, 69, 70] S (sv_sts (sv_sts (sv_sts S [68, 69, 70] g3) [68, 69, 70] g28) [68, 69, 70] g52) := sv_mod.sts md33 (by decide)
                      have md58 : sv_mod [68, 69, 70] S (sv_sts (sv_sts (sv_sts S [68, 69, 70] g3) [68, 69, 70] g28) [68, 69, 70] g52) := sv_mod.sts md34 (by decide)
                      have md59 : sv_mod [68, 69, 70] (sv_sts S [68, 69, 70] g3) (sv_sts (sv_sts (sv_sts S [68, 69, 70] g3) [68, 69, 70] g28) [68, 69, 70] g52) := sv_mod.sts md35 (by decide)
                      have h := h r56 hr56 g52 hpo55
                      refine sv_istore hM dX12_writeTo_173 (by decide) rfl ?_
                      show sv_T sm_XS sm_cs sm_L sm_sh 5 (q_writeTo p1 p3 p5 p6 p7 S) 251 175 [(0, .ref 0), (1, sv_L p1), (3, sv_L p3), (5, sv_I p5), (6, sv_I p6), (7, sv_I p7), (8, sv_I (r1 + r2)), (9, sv_I l9_4), (10, sv_I s26), (11, sv_I l11_29), (12, sv_I r50), (13, sv_I r56)] [] (sv_sts (sv_sts (sv_sts S [68, 69, 70] g3) [68, 69, 70] g28) [68, 69, 70] g52)
                      refine sv_iinc (d := (1 : Int)) hM dX12_writeTo_175 rfl (by decide) rfl rfl ?_
                      show sv_T sm_XS sm_cs sm_L sm_sh 5 (q_writeTo p1 p3 p5 p6 p7 S) 251 178 [(0, .ref 0), (1, sv_L p1), (3, sv_L p3), (5, sv_I p5), (6, sv_I p6), (7, sv_I p7), (8, sv_I (r1 + r2)), (9, sv_I l9_4), (10, sv_I s26), (11, sv_I (l11_29 + (1 : Int))), (12, sv_I r50), (13, sv_I r56)] [] (sv_sts (sv_sts (sv_sts S [68, 69, 70] g3) [68, 69, 70] g28) [68, 69, 70] g52)
                      refine sv_goto hM dX12_writeTo_178 (pc' := 101) rfl ?_
                      obtain ⟨o60, h⟩ := h
                      have eS := sv_mod.eq md59
                      have hb := ih30 ((l11_29 + (1 : Int)), (sv_sts (sv_sts (sv_sts S [68, 69, 70] g3) [68, 69, 70] g28) [68, 69, 70] g52)) ⟨o60, (by rw [← eS]; exact ok53), h.1⟩ h.2
                      have hb : sv_T sm_XS sm_cs sm_L sm_sh 5 (q_writeTo p1 p3 p5 p6 p7 S) 251 101 [(0, .ref 0), (1, sv_L p1), (3, sv_L p3), (5, sv_I p5), (6, sv_I p6), (7, sv_I p7), (8, sv_I (r1 + r2)), (9, sv_I l9_4), (10, sv_I s26), (11, sv_I (l11_29 + (1 : Int)))] [] (sv_sts (sv_sts (sv_sts S [68, 69, 70] g3) [68, 69, 70] g28) [68, 69, 70] g52) := Eq.mpr (congrArg (fun Z => sv_T sm_XS sm_cs sm_L sm_sh 5 (q_writeTo p1 p3 p5 p6 p7 S) 251 101 [(0, .ref 0), (1, sv_L p1), (3, sv_L p3), (5, sv_I p5), (6, sv_I p6), (7, sv_I p7), (8, sv_I (r1 + r2)), (9, sv_I l9_4), (10, sv_I s26), (11, sv_I (l11_29 + (1 : Int)))] [] Z) eS) hb
                      exact sv_less (lv := [(0, .ref 0), (1, sv_L p1), (3, sv_L p3), (5, sv_I p5), (6, sv_I p6), (7, sv_I p7), (8, sv_I (r1 + r2)), (9, sv_I l9_4), (10, sv_I s26), (11, sv_I (l11_29 + (1 : Int)))]) (sv_Sub_cons rfl (sv_Sub_cons rfl (sv_Sub_cons rfl (sv_Sub_cons rfl (sv_Sub_cons rfl (sv_Sub_cons rfl (sv_Sub_cons rfl (sv_Sub_cons rfl (sv_Sub_cons rfl (sv_Sub_cons rfl sv_Sub_nil)))))))))) hb
                    · have h := h.2 (hc)
                      refine sv_aload_n hM dX12_writeTo_159 rfl rfl ?_
                      refine sv_iload hM dX12_writeTo_160 rfl rfl ?_
                      obtain ⟨o61, h⟩ := h
                      refine sv_callV hM dX12_writeTo_162 sm_iv_1066 (by decide) (sm_a0 _) rfl rfl (Nat.le_of_ble_eq_true rfl) sm_h206 (Nat.le_of_ble_eq_true rfl) (Nat.le_of_ble_eq_true rfl) (F' := 0) (Nat.le_of_ble_eq_true rfl) rfl (t_empty r50 (sv_sts (sv_sts S [68, 69, 70] g3) [68, 69, 70] g28) ok47 hr50 o61) (fun v S1 hq => ?_)
                      obtain ⟨rfl, ok63, md64, hpo65⟩ := hq
                      obtain ⟨g62, rfl⟩ : ∃ g, S1 = sv_sts (sv_sts (sv_sts S [68, 69, 70] g3) [68, 69, 70] g28) [68, 69, 70] g := ⟨_, md64.eq⟩
                      show sv_T sm_XS sm_cs sm_L sm_sh 5 (q_writeTo p1 p3 p5 p6 p7 S) 251 165 [(0, .ref 0), (1, sv_L p1), (3, sv_L p3), (5, sv_I p5), (6, sv_I p6), (7, sv_I p7), (8, sv_I (r1 + r2)), (9, sv_I l9_4), (10, sv_I s26), (11, sv_I l11_29), (12, sv_I r50)] [] (sv_sts (sv_sts (sv_sts S [68, 69, 70] g3) [68, 69, 70] g28) [68, 69, 70] g62)
                      have md66 : sv_mod [68, 69, 70] S (sv_sts (sv_sts (sv_sts S [68, 69, 70] g3) [68, 69, 70] g28) [68, 69, 70] g62) := sv_mod.sts md33 (by decide)
                      have md67 : sv_mod [68, 69, 70] S (sv_sts (sv_sts (sv_sts S [68, 69, 70] g3) [68, 69, 70] g28) [68, 69, 70] g62) := sv_mod.sts md34 (by decide)
                      have md68 : sv_mod [68, 69, 70] (sv_sts S [68, 69, 70] g3) (sv_sts (sv_sts (sv_sts S [68, 69, 70] g3) [68, 69, 70] g28) [68, 69, 70] g62) := sv_mod.sts md35 (by decide)
                      have h := h g62 hpo65
                      refine sv_aload_n hM dX12_writeTo_165 rfl rfl ?_
                      refine sv_iload hM dX12_writeTo_166 rfl rfl ?_
                      refine sv_iload hM dX12_writeTo_168 rfl rfl ?_
                      obtain ⟨o69, h⟩ := h
                      refine sv_callV hM dX12_writeTo_170 sm_iv_1069 (by decide) (sm_a0 _) rfl rfl (Nat.le_of_ble_eq_true rfl) sm_h208 (Nat.le_of_ble_eq_true rfl) (Nat.le_of_ble_eq_true rfl) (F' := 1) (Nat.le_of_ble_eq_true rfl) rfl (t_join p5 r50 (sv_sts (sv_sts (sv_sts S [68, 69, 70] g3) [68, 69, 70] g28) [68, 69, 70] g62) ok63 hp5 hr50 o69) (fun v S1 hq => ?_)
                      obtain ⟨r74, rfl, hr74, ok71, md72, hpo73⟩ := hq
                      obtain ⟨g70, rfl⟩ : ∃ g, S1 = sv_sts (sv_sts (sv_sts (sv_sts S [68, 69, 70] g3) [68, 69, 70] g28) [68, 69, 70] g62) [68, 69, 70] g := ⟨_, md72.eq⟩
                      show sv_T sm_XS sm_cs sm_L sm_sh 5 (q_writeTo p1 p3 p5 p6 p7 S) 251 173 [(0, .ref 0), (1, sv_L p1), (3, sv_L p3), (5, sv_I p5), (6, sv_I p6), (7, sv_I p7), (8, sv_I (r1 + r2)), (9, sv_I l9_4), (10, sv_I s26), (11, sv_I l11_29), (12, sv_I r50)] [sv_I r74] (sv_sts (sv_sts (sv_sts (sv_sts S [68, 69, 70] g3) [68, 69, 70] g28) [68, 69, 70] g62) [68, 69, 70] g70)
                      have md75 : sv_mod [68, 69, 70] S (sv_sts (sv_sts (sv_sts (sv_sts S [68, 69, 70] g3) [68, 69, 70] g28) [68, 69, 70] g62) [68, 69, 70] g70) := sv_mod.sts md66 (by decide)
                      have md76 : sv_mod [68, 69, 70] S (sv_sts (sv_sts (sv_sts (sv_sts S [68, 69, 70] g3) [68, 69, 70] g28) [68, 69, 70] g62) [68, 69, 70] g70) := sv_mod.sts md67 (by decide)
                      have md77 : sv_mod [68, 69, 70] (sv_sts S [68, 69, 70] g3) (sv_sts (sv_sts (sv_sts (sv_sts S [68, 69, 70] g3) [68, 69, 70] g28) [68, 69, 70] g62) [68, 69, 70] g70) := sv_mod.sts md68 (by decide)
                      have h := h r74 hr74 g70 hpo73
                      refine sv_istore hM dX12_writeTo_173 (by decide) rfl ?_
                      show sv_T sm_XS sm_cs sm_L sm_sh 5 (q_writeTo p1 p3 p5 p6 p7 S) 251 175 [(0, .ref 0), (1, sv_L p1), (3, sv_L p3), (5, sv_I p5), (6, sv_I p6), (7, sv_I p7), (8, sv_I (r1 + r2)), (9, sv_I l9_4), (10, sv_I s26), (11, sv_I l11_29), (12, sv_I r50), (13, sv_I r74)] [] (sv_sts (sv_sts (sv_sts (sv_sts S [68, 69, 70] g3) [68, 69, 70] g28) [68, 69, 70] g62) [68, 69, 70] g70)
                      refine sv_iinc (d := (1 : Int)) hM dX12_writeTo_175 rfl (by decide) rfl rfl ?_
                      show sv_T sm_XS sm_cs sm_L sm_sh 5 (q_writeTo p1 p3 p5 p6 p7 S) 251 178 [(0, .ref 0), (1, sv_L p1), (3, sv_L p3), (5, sv_I p5), (6, sv_I p6), (7, sv_I p7), (8, sv_I (r1 + r2)), (9, sv_I l9_4), (10, sv_I s26), (11, sv_I (l11_29 + (1 : Int))), (12, sv_I r50), (13, sv_I r74)] [] (sv_sts (sv_sts (sv_sts (sv_sts S [68, 69, 70] g3) [68, 69, 70] g28) [68, 69, 70] g62) [68, 69, 70] g70)
                      refine sv_goto hM dX12_writeTo_178 (pc' := 101) rfl ?_
                      obtain ⟨o78, h⟩ := h
                      have eS := sv_mod.eq md77
                      have hb := ih30 ((l11_29 + (1 : Int)), (sv_sts (sv_sts (sv_sts (sv_sts S [68, 69, 70] g3) [68, 69, 70] g28) [68, 69, 70] g62) [68, 69, 70] g70)) ⟨o78, (by rw [← eS]; exact ok71), h.1⟩ h.2
                      have hb : sv_T sm_XS sm_cs sm_L sm_sh 5 (q_writeTo p1 p3 p5 p6 p7 S) 251 101 [(0, .ref 0), (1, sv_L p1), (3, sv_L p3), (5, sv_I p5), (6, sv_I p6), (7, sv_I p7), (8, sv_I (r1 + r2)), (9, sv_I l9_4), (10, sv_I s26), (11, sv_I (l11_29 + (1 : Int)))] [] (sv_sts (sv_sts (sv_sts (sv_sts S [68, 69, 70] g3) [68, 69, 70] g28) [68, 69, 70] g62) [68, 69, 70] g70) := Eq.mpr (congrArg (fun Z => sv_T sm_XS sm_cs sm_L sm_sh 5 (q_writeTo p1 p3 p5 p6 p7 S) 251 101 [(0, .ref 0), (1, sv_L p1), (3, sv_L p3), (5, sv_I p5), (6, sv_I p6), (7, sv_I p7), (8, sv_I (r1 + r2)), (9, sv_I l9_4), (10, sv_I s26), (11, sv_I (l11_29 + (1 : Int)))] [] Z) eS) hb
                      exact sv_less (lv := [(0, .ref 0), (1, sv_L p1), (3, sv_L p3), (5, sv_I p5), (6, sv_I p6), (7, sv_I p7), (8, sv_I (r1 + r2)), (9, sv_I l9_4), (10, sv_I s26), (11, sv_I (l11_29 + (1 : Int)))]) (sv_Sub_cons rfl (sv_Sub_cons rfl (sv_Sub_cons rfl (sv_Sub_cons rfl (sv_Sub_cons rfl (sv_Sub_cons rfl (sv_Sub_cons rfl (sv_Sub_cons rfl (sv_Sub_cons rfl (sv_Sub_cons rfl sv_Sub_nil)))))))))) hb
                  · have h := h.2 (hc)
                    refine sv_iload hM dX12_writeTo_124 rfl rfl ?_
                    refine sv_cond_ne hM dX12_writeTo_126 hl11_29 (t := 141) rfl rfl (fun hc => ?_) (fun hc => ?_)
                    · have h := h.1 (hc)
                      refine sv_aload_n hM dX12_writeTo_141 rfl rfl ?_
                      refine sv_sipush (d := (639 : Int)) hM dX12_writeTo_142 rfl rfl ?_
                      refine sv_iload hM dX12_writeTo_145 rfl rfl ?_
                      refine sv_iload hM dX12_writeTo_147 rfl rfl ?_
                      obtain ⟨o79, h⟩ := h
                      refine sv_callV hM dX12_writeTo_149 sm_iv_1163 (by decide) (sm_a0 _) rfl rfl (Nat.le_of_ble_eq_true rfl) sm_h225 (Nat.le_of_ble_eq_true rfl) (Nat.le_of_ble_eq_true rfl) (F' := 1) (Nat.le_of_ble_eq_true rfl) rfl (t_field (639 : Int) l9_4 l11_29 (sv_sts (sv_sts S [68, 69, 70] g3) [68, 69, 70] g28) ok40 (⟨by decide, by decide⟩ : sv_R (639 : Int)) hl9_4 hl11_29 o79) (fun v S1 hq => ?_)
                      obtain ⟨r84, rfl, hr84, ok81, md82, hpo83⟩ := hq
                      obtain rfl : (sv_sts (sv_sts S [68, 69, 70] g3) [68, 69, 70] g28) = S1 := (funext fun j => md82 j (by intro q; cases q)).symm
                      show sv_T sm_XS sm_cs sm_L sm_sh 5 (q_writeTo p1 p3 p5 p6 p7 S) 251 152 [(0, .ref 0), (1, sv_L p1), (3, sv_L p3), (5, sv_I p5), (6, sv_I p6), (7, sv_I p7), (8, sv_I (r1 + r2)), (9, sv_I l9_4), (10, sv_I s26), (11, sv_I l11_29)] [sv_I r84] (sv_sts (sv_sts S [68, 69, 70] g3) [68, 69, 70] g28)
                      have h := h r84 hr84 hpo83
                      refine sv_istore hM dX12_writeTo_152 (by decide) rfl ?_
                      show sv_T sm_XS sm_cs sm_L sm_sh 5 (q_writeTo p1 p3 p5 p6 p7 S) 251 154 [(0, .ref 0), (1, sv_L p1), (3, sv_L p3), (5, sv_I p5), (6, sv_I p6), (7, sv_I p7), (8, sv_I (r1 + r2)), (9, sv_I l9_4), (10, sv_I s26), (11, sv_I l11_29), (12, sv_I r84)] [] (sv_sts (sv_sts S [68, 69, 70] g3) [68, 69, 70] g28)
                      refine sv_iload hM dX12_writeTo_154 rfl rfl ?_
                      refine sv_cond_eq hM dX12_writeTo_156 hs26 (t := 165) rfl rfl (fun hc => ?_) (fun hc => ?_)
                      · have h := h.1 (hc)
                        refine sv_aload_n hM dX12_writeTo_165 rfl rfl ?_
                        refine sv_iload hM dX12_writeTo_166 rfl rfl ?_
                        refine sv_iload hM dX12_writeTo_168 rfl rfl ?_
                        obtain ⟨o85, h⟩ := h
                        refine sv_callV hM dX12_writeTo_170 sm_iv_1069 (by decide) (sm_a0 _) rfl rfl (Nat.le_of_ble_eq_true rfl) sm_h208 (Nat.le_of_ble_eq_true rfl) (Nat.le_of_ble_eq_true rfl) (F' := 1) (Nat.le_of_ble_eq_true rfl) rfl (t_join p5 r84 (sv_sts (sv_sts S [68, 69, 70] g3) [68, 69, 70] g28) ok81 hp5 hr84 o85) (fun v S1 hq => ?_)
                        obtain ⟨r90, rfl, hr90, ok87, md88, hpo89⟩ := hq
                        obtain ⟨g86, rfl⟩ : ∃ g, S1 = sv_sts (sv_sts (sv_sts S [68, 69, 70] g3) [68, 69, 70] g28) [68, 69, 70] g := ⟨_, md88.eq⟩
                        show sv_T sm_XS sm_cs sm_L sm_sh 5 (q_writeTo p1 p3 p5 p6 p7 S) 251 173 [(0, .ref 0), (1, sv_L p1), (3, sv_L p3), (5, sv_I p5), (6, sv_I p6), (7, sv_I p7), (8, sv_I (r1 + r2)), (9, sv_I l9_4), (10, sv_I s26), (11, sv_I l11_29), (12, sv_I r84)] [sv_I r90] (sv_sts (sv_sts (sv_sts S [68, 69, 70] g3) [68, 69, 70] g28) [68, 69, 70] g86)
                        have md91 : sv_mod [68, 69, 70] S (sv_sts (sv_sts (sv_sts S [68, 69, 70] g3) [68, 69, 70] g28) [68, 69, 70] g86) := sv_mod.sts md33 (by decide)
                        have md92 : sv_mod [68, 69, 70] S (sv_sts (sv_sts (sv_sts S [68, 69, 70] g3) [68, 69, 70] g28) [68, 69, 70] g86) := sv_mod.sts md34 (by decide)
                        have md93 : sv_mod [68, 69, 70] (sv_sts S [68, 69, 70] g3) (sv_sts (sv_sts (sv_sts S [68, 69, 70] g3) [68, 69, 70] g28) [68, 69, 70] g86) := sv_mod.sts md35 (by decide)
                        have h := h r90 hr90 g86 hpo89
                        refine sv_istore hM dX12_writeTo_173 (by decide) rfl ?_
                        show sv_T sm_XS sm_cs sm_L sm_sh 5 (q_writeTo p1 p3 p5 p6 p7 S) 251 175 [(0, .ref 0), (1, sv_L p1), (3, sv_L p3), (5, sv_I p5), (6, sv_I p6), (7, sv_I p7), (8, sv_I (r1 + r2)), (9, sv_I l9_4), (10, sv_I s26), (11, sv_I l11_29), (12, sv_I r84), (13, sv_I r90)] [] (sv_sts (sv_sts (sv_sts S [68, 69, 70] g3) [68, 69, 70] g28) [68, 69, 70] g86)
                        refine sv_iinc (d := (1 : Int)) hM dX12_writeTo_175 rfl (by decide) rfl rfl ?_
                        show sv_T sm_XS sm_cs sm_L sm_sh 5 (q_writeTo p1 p3 p5 p6 p7 S) 251 178 [(0, .ref 0), (1, sv_L p1), (3, sv_L p3), (5, sv_I p5), (6, sv_I p6), (7, sv_I p7), (8, sv_I (r1 + r2)), (9, sv_I l9_4), (10, sv_I s26), (11, sv_I (l11_29 + (1 : Int))), (12, sv_I r84), (13, sv_I r90)] [] (sv_sts (sv_sts (sv_sts S [68, 69, 70] g3) [68, 69, 70] g28) [68, 69, 70] g86)
                        refine sv_goto hM dX12_writeTo_178 (pc' := 101) rfl ?_
                        obtain ⟨o94, h⟩ := h
                        have eS := sv_mod.eq md93
                        have hb := ih30 ((l11_29 + (1 : Int)), (sv_sts (sv_sts (sv_sts S [68, 69, 70] g3) [68, 69, 70] g28) [68, 69, 70] g86)) ⟨o94, (by rw [← eS]; exact ok87), h.1⟩ h.2
                        have hb : sv_T sm_XS sm_cs sm_L sm_sh 5 (q_writeTo p1 p3 p5 p6 p7 S) 251 101 [(0, .ref 0), (1, sv_L p1), (3, sv_L p3), (5, sv_I p5), (6, sv_I p6), (7, sv_I p7), (8, sv_I (r1 + r2)), (9, sv_I l9_4), (10, sv_I s26), (11, sv_I (l11_29 + (1 : Int)))] [] (sv_sts (sv_sts (sv_sts S [68, 69, 70] g3) [68, 69, 70] g28) [68, 69, 70] g86) := Eq.mpr (congrArg (fun Z => sv_T sm_XS sm_cs sm_L sm_sh 5 (q_writeTo p1 p3 p5 p6 p7 S) 251 101 [(0, .ref 0), (1, sv_L p1), (3, sv_L p3), (5, sv_I p5), (6, sv_I p6), (7, sv_I p7), (8, sv_I (r1 + r2)), (9, sv_I l9_4), (10, sv_I s26), (11, sv_I (l11_29 + (1 : Int)))] [] Z) eS) hb
                        exact sv_less (lv := [(0, .ref 0), (1, sv_L p1), (3, sv_L p3), (5, sv_I p5), (6, sv_I p6), (7, sv_I p7), (8, sv_I (r1 + r2)), (9, sv_I l9_4), (10, sv_I s26), (11, sv_I (l11_29 + (1 : Int)))]) (sv_Sub_cons rfl (sv_Sub_cons rfl (sv_Sub_cons rfl (sv_Sub_cons rfl (sv_Sub_cons rfl (sv_Sub_cons rfl (sv_Sub_cons rfl (sv_Sub_cons rfl (sv_Sub_cons rfl (sv_Sub_cons rfl sv_Sub_nil)))))))))) hb
                      · have h := h.2 (hc)
                        refine sv_aload_n hM dX12_writeTo_159 rfl rfl ?_
                        refine sv_iload hM dX12_writeTo_160 rfl rfl ?_
                        obtain ⟨o95, h⟩ := h
                        refine sv_callV hM dX12_writeTo_162 sm_iv_1066 (by decide) (sm_a0 _) rfl rfl (Nat.le_of_ble_eq_true rfl) sm_h206 (Nat.le_of_ble_eq_true rfl) (Nat.le_of_ble_eq_true rfl) (F' := 0) (Nat.le_of_ble_eq_true rfl) rfl (t_empty r84 (sv_sts (sv_sts S [68, 69, 70] g3) [68, 69, 70] g28) ok81 hr84 o95) (fun v S1 hq => ?_)
                        obtain ⟨rfl, ok97, md98, hpo99⟩ := hq
                        obtain ⟨g96, rfl⟩ : ∃ g, S1 = sv_sts (sv_sts (sv_sts S [68, 69, 70] g3) [68, 69, 70] g28) [68, 69, 70] g := ⟨_, md98.eq⟩
                        show sv_T sm_XS sm_cs sm_L sm_sh 5 (q_writeTo p1 p3 p5 p6 p7 S) 251 165 [(0, .ref 0), (1, sv_L p1), (3, sv_L p3), (5, sv_I p5), (6, sv_I p6), (7, sv_I p7), (8, sv_I (r1 + r2)), (9, sv_I l9_4), (10, sv_I s26), (11, sv_I l11_29), (12, sv_I r84)] [] (sv_sts (sv_sts (sv_sts S [68, 69, 70] g3) [68, 69, 70] g28) [68, 69, 70] g96)
                        have md100 : sv_mod [68, 69, 70] S (sv_sts (sv_sts (sv_sts S [68, 69, 70] g3) [68, 69, 70] g28) [68, 69, 70] g96) := sv_mod.sts md33 (by decide)
                        have md101 : sv_mod [68, 69, 70] S (sv_sts (sv_sts (sv_sts S [68, 69, 70] g3) [68, 69, 70] g28) [68, 69, 70] g96) := sv_mod.sts md34 (by decide)
                        have md102 : sv_mod [68, 69, 70] (sv_sts S [68, 69, 70] g3) (sv_sts (sv_sts (sv_sts S [68, 69, 70] g3) [68, 69, 70] g28) [68, 69, 70] g96) := sv_mod.sts md35 (by decide)
                        have h := h g96 hpo99
                        refine sv_aload_n hM dX12_writeTo_165 rfl rfl ?_
                        refine sv_iload hM dX12_writeTo_166 rfl rfl ?_
                        refine sv_iload hM dX12_writeTo_168 rfl rfl ?_
                        obtain ⟨o103, h⟩ := h
                        refine sv_callV hM dX12_writeTo_170 sm_iv_1069 (by decide) (sm_a0 _) rfl rfl (Nat.le_of_ble_eq_true rfl) sm_h208 (Nat.le_of_ble_eq_true rfl) (Nat.le_of_ble_eq_true rfl) (F' := 1) (Nat.le_of_ble_eq_true rfl) rfl (t_join p5 r84 (sv_sts (sv_sts (sv_sts S [68, 69, 70] g3) [68, 69, 70] g28) [68, 69, 70] g96) ok97 hp5 hr84 o103) (fun v S1 hq => ?_)
                        obtain ⟨r108, rfl, hr108, ok105, md106, hpo107⟩ := hq
                        obtain ⟨g104, rfl⟩ : ∃ g, S1 = sv_sts (sv_sts (sv_sts (sv_sts S [68, 69, 70] g3) [68, 69, 70] g28) [68, 69, 70] g96) [68, 69, 70] g := ⟨_, md106.eq⟩
                        show sv_T sm_XS sm_cs sm_L sm_sh 5 (q_writeTo p1 p3 p5 p6 p7 S) 251 173 [(0, .ref 0), (1, sv_L p1), (3, sv_L p3), (5, sv_I p5), (6, sv_I p6), (7, sv_I p7), (8, sv_I (r1 + r2)), (9, sv_I l9_4), (10, sv_I s26), (11, sv_I l11_29), (12, sv_I r84)] [sv_I r108] (sv_sts (sv_sts (sv_sts (sv_sts S [68, 69, 70] g3) [68, 69, 70] g28) [68, 69, 70] g96) [68, 69, 70] g104)
                        have md109 : sv_mod [68, 69, 70] S (sv_sts (sv_sts (sv_sts (sv_sts S [68, 69, 70] g3) [68, 69, 70] g28) [68, 69, 70] g96) [68, 69, 70] g104) := sv_mod.sts md100 (by decide)
                        have md110 : sv_mod [68, 69, 70] S (sv_sts (sv_sts (sv_sts (sv_sts S [68, 69, 70] g3) [68, 69, 70] g28) [68, 69, 70] g96) [68, 69, 70] g104) := sv_mod.sts md101 (by decide)
                        have md111 : sv_mod [68, 69, 70] (sv_sts S [68, 69, 70] g3) (sv_sts (sv_sts (sv_sts (sv_sts S [68, 69, 70] g3) [68, 69, 70] g28) [68, 69, 70] g96) [68, 69, 70] g104) := sv_mod.sts md102 (by decide)
                        have h := h r108 hr108 g104 hpo107
                        refine sv_istore hM dX12_writeTo_173 (by decide) rfl ?_
                        show sv_T sm_XS sm_cs sm_L sm_sh 5 (q_writeTo p1 p3 p5 p6 p7 S) 251 175 [(0, .ref 0), (1, sv_L p1), (3, sv_L p3), (5, sv_I p5), (6, sv_I p6), (7, sv_I p7), (8, sv_I (r1 + r2)), (9, sv_I l9_4), (10, sv_I s26), (11, sv_I l11_29), (12, sv_I r84), (13, sv_I r108)] [] (sv_sts (sv_sts (sv_sts (sv_sts S [68, 69, 70] g3) [68, 69, 70] g28) [68, 69, 70] g96) [68, 69, 70] g104)
                        refine sv_iinc (d := (1 : Int)) hM dX12_writeTo_175 rfl (by decide) rfl rfl ?_
                        show sv_T sm_XS sm_cs sm_L sm_sh 5 (q_writeTo p1 p3 p5 p6 p7 S) 251 178 [(0, .ref 0), (1, sv_L p1), (3, sv_L p3), (5, sv_I p5), (6, sv_I p6), (7, sv_I p7), (8, sv_I (r1 + r2)), (9, sv_I l9_4), (10, sv_I s26), (11, sv_I (l11_29 + (1 : Int))), (12, sv_I r84), (13, sv_I r108)] [] (sv_sts (sv_sts (sv_sts (sv_sts S [68, 69, 70] g3) [68, 69, 70] g28) [68, 69, 70] g96) [68, 69, 70] g104)
                        refine sv_goto hM dX12_writeTo_178 (pc' := 101) rfl ?_
                        obtain ⟨o112, h⟩ := h
                        have eS := sv_mod.eq md111
                        have hb := ih30 ((l11_29 + (1 : Int)), (sv_sts (sv_sts (sv_sts (sv_sts S [68, 69, 70] g3) [68, 69, 70] g28) [68, 69, 70] g96) [68, 69, 70] g104)) ⟨o112, (by rw [← eS]; exact ok105), h.1⟩ h.2
                        have hb : sv_T sm_XS sm_cs sm_L sm_sh 5 (q_writeTo p1 p3 p5 p6 p7 S) 251 101 [(0, .ref 0), (1, sv_L p1), (3, sv_L p3), (5, sv_I p5), (6, sv_I p6), (7, sv_I p7), (8, sv_I (r1 + r2)), (9, sv_I l9_4), (10, sv_I s26), (11, sv_I (l11_29 + (1 : Int)))] [] (sv_sts (sv_sts (sv_sts (sv_sts S [68, 69, 70] g3) [68, 69, 70] g28) [68, 69, 70] g96) [68, 69, 70] g104) := Eq.mpr (congrArg (fun Z => sv_T sm_XS sm_cs sm_L sm_sh 5 (q_writeTo p1 p3 p5 p6 p7 S) 251 101 [(0, .ref 0), (1, sv_L p1), (3, sv_L p3), (5, sv_I p5), (6, sv_I p6), (7, sv_I p7), (8, sv_I (r1 + r2)), (9, sv_I l9_4), (10, sv_I s26), (11, sv_I (l11_29 + (1 : Int)))] [] Z) eS) hb
                        exact sv_less (lv := [(0, .ref 0), (1, sv_L p1), (3, sv_L p3), (5, sv_I p5), (6, sv_I p6), (7, sv_I p7), (8, sv_I (r1 + r2)), (9, sv_I l9_4), (10, sv_I s26), (11, sv_I (l11_29 + (1 : Int)))]) (sv_Sub_cons rfl (sv_Sub_cons rfl (sv_Sub_cons rfl (sv_Sub_cons rfl (sv_Sub_cons rfl (sv_Sub_cons rfl (sv_Sub_cons rfl (sv_Sub_cons rfl (sv_Sub_cons rfl (sv_Sub_cons rfl sv_Sub_nil)))))))))) hb
                    · have h := h.2 (hc)
                      refine sv_aload_n hM dX12_writeTo_129 rfl rfl ?_
                      refine sv_iload hM dX12_writeTo_130 rfl rfl ?_
                      obtain ⟨o113, h⟩ := h
                      refine sv_callV hM dX12_writeTo_132 sm_iv_1169 (by decide) (sm_a0 _) rfl rfl (Nat.le_of_ble_eq_true rfl) sm_h239 (Nat.le_of_ble_eq_true rfl) (Nat.le_of_ble_eq_true rfl) (F' := 0) (Nat.le_of_ble_eq_true rfl) rfl (t_isArrayLabel l9_4 (sv_sts (sv_sts S [68, 69, 70] g3) [68, 69, 70] g28) ok40 hl9_4 o113) (fun v S1 hq => ?_)
                      obtain ⟨r118, rfl, hr118, ok115, md116, hpo117⟩ := hq
                      obtain rfl : (sv_sts (sv_sts S [68, 69, 70] g3) [68, 69, 70] g28) = S1 := (funext fun j => md116 j (by intro q; cases q)).symm
                      show sv_T sm_XS sm_cs sm_L sm_sh 5 (q_writeTo p1 p3 p5 p6 p7 S) 251 135 [(0, .ref 0), (1, sv_L p1), (3, sv_L p3), (5, sv_I p5), (6, sv_I p6), (7, sv_I p7), (8, sv_I (r1 + r2)), (9, sv_I l9_4), (10, sv_I s26), (11, sv_I l11_29)] [sv_I r118] (sv_sts (sv_sts S [68, 69, 70] g3) [68, 69, 70] g28)
                      have h := h r118 hr118 hpo117
                      refine sv_cond_eq hM dX12_writeTo_135 hr118 (t := 141) rfl rfl (fun hc => ?_) (fun hc => ?_)
                      · have h := h.1 (hc)
                        refine sv_aload_n hM dX12_writeTo_141 rfl rfl ?_
                        refine sv_sipush (d := (639 : Int)) hM dX12_writeTo_142 rfl rfl ?_
                        refine sv_iload hM dX12_writeTo_145 rfl rfl ?_
                        refine sv_iload hM dX12_writeTo_147 rfl rfl ?_
                        obtain ⟨o119, h⟩ := h
                        refine sv_callV hM dX12_writeTo_149 sm_iv_1163 (by decide) (sm_a0 _) rfl rfl (Nat.le_of_ble_eq_true rfl) sm_h225 (Nat.le_of_ble_eq_true rfl) (Nat.le_of_ble_eq_true rfl) (F' := 1) (Nat.le_of_ble_eq_true rfl) rfl (t_field (639 : Int) l9_4 l11_29 (sv_sts (sv_sts S [68, 69, 70] g3) [68, 69, 70] g28) ok115 (⟨by decide, by decide⟩ : sv_R (639 : Int)) hl9_4 hl11_29 o119) (fun v S1 hq => ?_)
                        obtain ⟨r124, rfl, hr124, ok121, md122, hpo123⟩ := hq
                        obtain rfl : (sv_sts (sv_sts S [68, 69, 70] g3) [68, 69, 70] g28) = S1 := (funext fun j => md122 j (by intro q; cases q)).symm
                        show sv_T sm_XS sm_cs sm_L sm_sh 5 (q_writeTo p1 p3 p5 p6 p7 S) 251 152 [(0, .ref 0), (1, sv_L p1), (3, sv_L p3), (5, sv_I p5), (6, sv_I p6), (7, sv_I p7), (8, sv_I (r1 + r2)), (9, sv_I l9_4), (10, sv_I s26), (11, sv_I l11_29)] [sv_I r124] (sv_sts (sv_sts S [68, 69, 70] g3) [68, 69, 70] g28)
                        have h := h r124 hr124 hpo123
                        refine sv_istore hM dX12_writeTo_152 (by decide) rfl ?_
                        show sv_T sm_XS sm_cs sm_L sm_sh 5 (q_writeTo p1 p3 p5 p6 p7 S) 251 154 [(0, .ref 0), (1, sv_L p1), (3, sv_L p3), (5, sv_I p5), (6, sv_I p6), (7, sv_I p7), (8, sv_I (r1 + r2)), (9, sv_I l9_4), (10, sv_I s26), (11, sv_I l11_29), (12, sv_I r124)] [] (sv_sts (sv_sts S [68, 69, 70] g3) [68, 69, 70] g28)
                        refine sv_iload hM dX12_writeTo_154 rfl rfl ?_
                        refine sv_cond_eq hM dX12_writeTo_156 hs26 (t := 165) rfl rfl (fun hc => ?_) (fun hc => ?_)
                        · have h := h.1 (hc)
                          refine sv_aload_n hM dX12_writeTo_165 rfl rfl ?_
                          refine sv_iload hM dX12_writeTo_166 rfl rfl ?_
                          refine sv_iload hM dX12_writeTo_168 rfl rfl ?_
                          obtain ⟨o125, h⟩ := h
                          refine sv_callV hM dX12_writeTo_170 sm_iv_1069 (by decide) (sm_a0 _) rfl rfl (Nat.le_of_ble_eq_true rfl) sm_h208 (Nat.le_of_ble_eq_true rfl) (Nat.le_of_ble_eq_true rfl) (F' := 1) (Nat.le_of_ble_eq_true rfl) rfl (t_join p5 r124 (sv_sts (sv_sts S [68, 69, 70] g3) [68, 69, 70] g28) ok121 hp5 hr124 o125) (fun v S1 hq => ?_)
                          obtain ⟨r130, rfl, hr130, ok127, md128, hpo129⟩ := hq
                          obtain ⟨g126, rfl⟩ : ∃ g, S1 = sv_sts (sv_sts (sv_sts S [68, 69, 70] g3) [68, 69, 70] g28) [68, 69, 70] g := ⟨_, md128.eq⟩
                          show sv_T sm_XS sm_cs sm_L sm_sh 5 (q_writeTo p1 p3 p5 p6 p7 S) 251 173 [(0, .ref 0), (1, sv_L p1), (3, sv_L p3), (5, sv_I p5), (6, sv_I p6), (7, sv_I p7), (8, sv_I (r1 + r2)), (9, sv_I l9_4), (10, sv_I s26), (11, sv_I l11_29), (12, sv_I r124)] [sv_I r130] (sv_sts (sv_sts (sv_sts S [68, 69, 70] g3) [68, 69, 70] g28) [68, 69, 70] g126)
                          have md131 : sv_mod [68, 69, 70] S (sv_sts (sv_sts (sv_sts S [68, 69, 70] g3) [68, 69, 70] g28) [68, 69, 70] g126) := sv_mod.sts md33 (by decide)
                          have md132 : sv_mod [68, 69, 70] S (sv_sts (sv_sts (sv_sts S [68, 69, 70] g3) [68, 69, 70] g28) [68, 69, 70] g126) := sv_mod.sts md34 (by decide)
                          have md133 : sv_mod [68, 69, 70] (sv_sts S [68, 69, 70] g3) (sv_sts (sv_sts (sv_sts S [68, 69, 70] g3) [68, 69, 70] g28) [68, 69, 70] g126) := sv_mod.sts md35 (by decide)
                          have h := h r130 hr130 g126 hpo129
                          refine sv_istore hM dX12_writeTo_173 (by decide) rfl ?_
                          show sv_T sm_XS sm_cs sm_L sm_sh 5 (q_writeTo p1 p3 p5 p6 p7 S) 251 175 [(0, .ref 0), (1, sv_L p1), (3, sv_L p3), (5, sv_I p5), (6, sv_I p6), (7, sv_I p7), (8, sv_I (r1 + r2)), (9, sv_I l9_4), (10, sv_I s26), (11, sv_I l11_29), (12, sv_I r124), (13, sv_I r130)] [] (sv_sts (sv_sts (sv_sts S [68, 69, 70] g3) [68, 69, 70] g28) [68, 69, 70] g126)
                          refine sv_iinc (d := (1 : Int)) hM dX12_writeTo_175 rfl (by decide) rfl rfl ?_
                          show sv_T sm_XS sm_cs sm_L sm_sh 5 (q_writeTo p1 p3 p5 p6 p7 S) 251 178 [(0, .ref 0), (1, sv_L p1), (3, sv_L p3), (5, sv_I p5), (6, sv_I p6), (7, sv_I p7), (8, sv_I (r1 + r2)), (9, sv_I l9_4), (10, sv_I s26), (11, sv_I (l11_29 + (1 : Int))), (12, sv_I r124), (13, sv_I r130)] [] (sv_sts (sv_sts (sv_sts S [68, 69, 70] g3) [68, 69, 70] g28) [68, 69, 70] g126)
                          refine sv_goto hM dX12_writeTo_178 (pc' := 101) rfl ?_
                          obtain ⟨o134, h⟩ := h
                          have eS := sv_mod.eq md133
                          have hb := ih30 ((l11_29 + (1 : Int)), (sv_sts (sv_sts (sv_sts S [68, 69, 70] g3) [68, 69, 70] g28) [68, 69, 70] g126)) ⟨o134, (by rw [← eS]; exact ok127), h.1⟩ h.2
                          have hb : sv_T sm_XS sm_cs sm_L sm_sh 5 (q_writeTo p1 p3 p5 p6 p7 S) 251 101 [(0, .ref 0), (1, sv_L p1), (3, sv_L p3), (5, sv_I p5), (6, sv_I p6), (7, sv_I p7), (8, sv_I (r1 + r2)), (9, sv_I l9_4), (10, sv_I s26), (11, sv_I (l11_29 + (1 : Int)))] [] (sv_sts (sv_sts (sv_sts S [68, 69, 70] g3) [68, 69, 70] g28) [68, 69, 70] g126) := Eq.mpr (congrArg (fun Z => sv_T sm_XS sm_cs sm_L sm_sh 5 (q_writeTo p1 p3 p5 p6 p7 S) 251 101 [(0, .ref 0), (1, sv_L p1), (3, sv_L p3), (5, sv_I p5), (6, sv_I p6), (7, sv_I p7), (8, sv_I (r1 + r2)), (9, sv_I l9_4), (10, sv_I s26), (11, sv_I (l11_29 + (1 : Int)))] [] Z) eS) hb
                          exact sv_less (lv := [(0, .ref 0), (1, sv_L p1), (3, sv_L p3), (5, sv_I p5), (6, sv_I p6), (7, sv_I p7), (8, sv_I (r1 + r2)), (9, sv_I l9_4), (10, sv_I s26), (11, sv_I (l11_29 + (1 : Int)))]) (sv_Sub_cons rfl (sv_Sub_cons rfl (sv_Sub_cons rfl (sv_Sub_cons rfl (sv_Sub_cons rfl (sv_Sub_cons rfl (sv_Sub_cons rfl (sv_Sub_cons rfl (sv_Sub_cons rfl (sv_Sub_cons rfl sv_Sub_nil)))))))))) hb
                        · have h := h.2 (hc)
                          refine sv_aload_n hM dX12_writeTo_159 rfl rfl ?_
                          refine sv_iload hM dX12_writeTo_160 rfl rfl ?_
                          obtain ⟨o135, h⟩ := h
                          refine sv_callV hM dX12_writeTo_162 sm_iv_1066 (by decide) (sm_a0 _) rfl rfl (Nat.le_of_ble_eq_true rfl) sm_h206 (Nat.le_of_ble_eq_true rfl) (Nat.le_of_ble_eq_true rfl) (F' := 0) (Nat.le_of_ble_eq_true rfl) rfl (t_empty r124 (sv_sts (sv_sts S [68, 69, 70] g3) [68, 69, 70] g28) ok121 hr124 o135) (fun v S1 hq => ?_)
                          obtain ⟨rfl, ok137, md138, hpo139⟩ := hq
                          obtain ⟨g136, rfl⟩ : ∃ g, S1 = sv_sts (sv_sts (sv_sts S [68, 69, 70] g3) [68, 69, 70] g28) [68, 69, 70] g := ⟨_, md138.eq⟩
                          show sv_T sm_XS sm_cs sm_L sm_sh 5 (q_writeTo p1 p3 p5 p6 p7 S) 251 165 [(0, .ref 0), (1, sv_L p1), (3, sv_L p3), (5, sv_I p5), (6, sv_I p6), (7, sv_I p7), (8, sv_I (r1 + r2)), (9, sv_I l9_4), (10, sv_I s26), (11, sv_I l11_29), (12, sv_I r124)] [] (sv_sts (sv_sts (sv_sts S [68, 69, 70] g3) [68, 69, 70] g28) [68, 69, 70] g136)
                          have md140 : sv_mod [68, 69, 70] S (sv_sts (sv_sts (sv_sts S [68, 69, 70] g3) [68, 69, 70] g28) [68, 69, 70] g136) := sv_mod.sts md33 (by decide)
                          have md141 : sv_mod [68, 69, 70] S (sv_sts (sv_sts (sv_sts S [68, 69, 70] g3) [68, 69, 70] g28) [68, 69, 70] g136) := sv_mod.sts md34 (by decide)
                          have md142 : sv_mod [68, 69, 70] (sv_sts S [68, 69, 70] g3) (sv_sts (sv_sts (sv_sts S [68, 69, 70] g3) [68, 69, 70] g28) [68, 69, 70] g136) := sv_mod.sts md35 (by decide)
                          have h := h g136 hpo139
                          refine sv_aload_n hM dX12_writeTo_165 rfl rfl ?_
                          refine sv_iload hM dX12_writeTo_166 rfl rfl ?_
                          refine sv_iload hM dX12_writeTo_168 rfl rfl ?_
                          obtain ⟨o143, h⟩ := h
                          refine sv_callV hM dX12_writeTo_170 sm_iv_1069 (by decide) (sm_a0 _) rfl rfl (Nat.le_of_ble_eq_true rfl) sm_h208 (Nat.le_of_ble_eq_true rfl) (Nat.le_of_ble_eq_true rfl) (F' := 1) (Nat.le_of_ble_eq_true rfl) rfl (t_join p5 r124 (sv_sts (sv_sts (sv_sts S [68, 69, 70] g3) [68, 69, 70] g28) [68, 69, 70] g136) ok137 hp5 hr124 o143) (fun v S1 hq => ?_)
                          obtain ⟨r148, rfl, hr148, ok145, md146, hpo147⟩ := hq
                          obtain ⟨g144, rfl⟩ : ∃ g, S1 = sv_sts (sv_sts (sv_sts (sv_sts S [68, 69, 70] g3) [68, 69, 70] g28) [68, 69, 70] g136) [68, 69, 70] g := ⟨_, md146.eq⟩
                          show sv_T sm_XS sm_cs sm_L sm_sh 5 (q_writeTo p1 p3 p5 p6 p7 S) 251 173 [(0, .ref 0), (1, sv_L p1), (3, sv_L p3), (5, sv_I p5), (6, sv_I p6), (7, sv_I p7), (8, sv_I (r1 + r2)), (9, sv_I l9_4), (10, sv_I s26), (11, sv_I l11_29), (12, sv_I r124)] [sv_I r148] (sv_sts (sv_sts (sv_sts (sv_sts S [68, 69, 70] g3) [68, 69, 70] g28) [68, 69, 70] g136) [68, 69, 70] g144)
                          have md149 : sv_mod [68, 69, 70] S (sv_sts (sv_sts (sv_sts (sv_sts S [68, 69, 70] g3) [68, 69, 70] g28) [68, 69, 70] g136) [68, 69, 70] g144) := sv_mod.sts md140 (by decide)
                          have md150 : sv_mod [68, 69, 70] S (sv_sts (sv_sts (sv_sts (sv_sts S [68, 69, 70] g3) [68, 69, 70] g28) [68, 69, 70] g136) [68, 69, 70] g144) := sv_mod.sts md141 (by decide)
                          have md151 : sv_mod [68, 69, 70] (sv_sts S [68, 69, 70] g3) (sv_sts (sv_sts (sv_sts (sv_sts S [68, 69, 70] g3) [68, 69, 70] g28) [68, 69, 70] g136) [68, 69, 70] g144) := sv_mod.sts md142 (by decide)
                          have h := h r148 hr148 g144 hpo147
                          refine sv_istore hM dX12_writeTo_173 (by decide) rfl ?_
                          show sv_T sm_XS sm_cs sm_L sm_sh 5 (q_writeTo p1 p3 p5 p6 p7 S) 251 175 [(0, .ref 0), (1, sv_L p1), (3, sv_L p3), (5, sv_I p5), (6, sv_I p6), (7, sv_I p7), (8, sv_I (r1 + r2)), (9, sv_I l9_4), (10, sv_I s26), (11, sv_I l11_29), (12, sv_I r124), (13, sv_I r148)] [] (sv_sts (sv_sts (sv_sts (sv_sts S [68, 69, 70] g3) [68, 69, 70] g28) [68, 69, 70] g136) [68, 69, 70] g144)
                          refine sv_iinc (d := (1 : Int)) hM dX12_writeTo_175 rfl (by decide) rfl rfl ?_
                          show sv_T sm_XS sm_cs sm_L sm_sh 5 (q_writeTo p1 p3 p5 p6 p7 S) 251 178 [(0, .ref 0), (1, sv_L p1), (3, sv_L p3), (5, sv_I p5), (6, sv_I p6), (7, sv_I p7), (8, sv_I (r1 + r2)), (9, sv_I l9_4), (10, sv_I s26), (11, sv_I (l11_29 + (1 : Int))), (12, sv_I r124), (13, sv_I r148)] [] (sv_sts (sv_sts (sv_sts (sv_sts S [68, 69, 70] g3) [68, 69, 70] g28) [68, 69, 70] g136) [68, 69, 70] g144)
                          refine sv_goto hM dX12_writeTo_178 (pc' := 101) rfl ?_
                          obtain ⟨o152, h⟩ := h
                          have eS := sv_mod.eq md151
                          have hb := ih30 ((l11_29 + (1 : Int)), (sv_sts (sv_sts (sv_sts (sv_sts S [68, 69, 70] g3) [68, 69, 70] g28) [68, 69, 70] g136) [68, 69, 70] g144)) ⟨o152, (by rw [← eS]; exact ok145), h.1⟩ h.2
                          have hb : sv_T sm_XS sm_cs sm_L sm_sh 5 (q_writeTo p1 p3 p5 p6 p7 S) 251 101 [(0, .ref 0), (1, sv_L p1), (3, sv_L p3), (5, sv_I p5), (6, sv_I p6), (7, sv_I p7), (8, sv_I (r1 + r2)), (9, sv_I l9_4), (10, sv_I s26), (11, sv_I (l11_29 + (1 : Int)))] [] (sv_sts (sv_sts (sv_sts (sv_sts S [68, 69, 70] g3) [68, 69, 70] g28) [68, 69, 70] g136) [68, 69, 70] g144) := Eq.mpr (congrArg (fun Z => sv_T sm_XS sm_cs sm_L sm_sh 5 (q_writeTo p1 p3 p5 p6 p7 S) 251 101 [(0, .ref 0), (1, sv_L p1), (3, sv_L p3), (5, sv_I p5), (6, sv_I p6), (7, sv_I p7), (8, sv_I (r1 + r2)), (9, sv_I l9_4), (10, sv_I s26), (11, sv_I (l11_29 + (1 : Int)))] [] Z) eS) hb
                          exact sv_less (lv := [(0, .ref 0), (1, sv_L p1), (3, sv_L p3), (5, sv_I p5), (6, sv_I p6), (7, sv_I p7), (8, sv_I (r1 + r2)), (9, sv_I l9_4), (10, sv_I s26), (11, sv_I (l11_29 + (1 : Int)))]) (sv_Sub_cons rfl (sv_Sub_cons rfl (sv_Sub_cons rfl (sv_Sub_cons rfl (sv_Sub_cons rfl (sv_Sub_cons rfl (sv_Sub_cons rfl (sv_Sub_cons rfl (sv_Sub_cons rfl (sv_Sub_cons rfl sv_Sub_nil)))))))))) hb
                      · have h := h.2 (hc)
                        refine sv_goto hM dX12_writeTo_138 (pc' := 175) rfl ?_
                        refine sv_iinc (d := (1 : Int)) hM dX12_writeTo_175 rfl (by decide) rfl rfl ?_
                        show sv_T sm_XS sm_cs sm_L sm_sh 5 (q_writeTo p1 p3 p5 p6 p7 S) 251 178 [(0, .ref 0), (1, sv_L p1), (3, sv_L p3), (5, sv_I p5), (6, sv_I p6), (7, sv_I p7), (8, sv_I (r1 + r2)), (9, sv_I l9_4), (10, sv_I s26), (11, sv_I (l11_29 + (1 : Int)))] [] (sv_sts (sv_sts S [68, 69, 70] g3) [68, 69, 70] g28)
                        refine sv_goto hM dX12_writeTo_178 (pc' := 101) rfl ?_
                        obtain ⟨o153, h⟩ := h
                        have eS := sv_mod.eq md35
                        have hb := ih30 ((l11_29 + (1 : Int)), (sv_sts (sv_sts S [68, 69, 70] g3) [68, 69, 70] g28)) ⟨o153, (by rw [← eS]; exact ok115), h.1⟩ h.2
                        have hb : sv_T sm_XS sm_cs sm_L sm_sh 5 (q_writeTo p1 p3 p5 p6 p7 S) 251 101 [(0, .ref 0), (1, sv_L p1), (3, sv_L p3), (5, sv_I p5), (6, sv_I p6), (7, sv_I p7), (8, sv_I (r1 + r2)), (9, sv_I l9_4), (10, sv_I s26), (11, sv_I (l11_29 + (1 : Int)))] [] (sv_sts (sv_sts S [68, 69, 70] g3) [68, 69, 70] g28) := Eq.mpr (congrArg (fun Z => sv_T sm_XS sm_cs sm_L sm_sh 5 (q_writeTo p1 p3 p5 p6 p7 S) 251 101 [(0, .ref 0), (1, sv_L p1), (3, sv_L p3), (5, sv_I p5), (6, sv_I p6), (7, sv_I p7), (8, sv_I (r1 + r2)), (9, sv_I l9_4), (10, sv_I s26), (11, sv_I (l11_29 + (1 : Int)))] [] Z) eS) hb
                        exact sv_less (lv := [(0, .ref 0), (1, sv_L p1), (3, sv_L p3), (5, sv_I p5), (6, sv_I p6), (7, sv_I p7), (8, sv_I (r1 + r2)), (9, sv_I l9_4), (10, sv_I s26), (11, sv_I (l11_29 + (1 : Int)))]) (sv_Sub_cons rfl (sv_Sub_cons rfl (sv_Sub_cons rfl (sv_Sub_cons rfl (sv_Sub_cons rfl (sv_Sub_cons rfl (sv_Sub_cons rfl (sv_Sub_cons rfl (sv_Sub_cons rfl (sv_Sub_cons rfl sv_Sub_nil)))))))))) hb
            have eS := sv_mod.eq (sv_mod.rf (l := [68, 69, 70]) (S := (sv_sts S [68, 69, 70] g3)))
            have hb := hJ ((0 : Int), (sv_sts S [68, 69, 70] g3)) ⟨(⟨by decide, by decide⟩ : sv_R (0 : Int)), (by rw [← eS]; exact ok20), hin31⟩
            have hb : sv_T sm_XS sm_cs sm_L sm_sh 5 (q_writeTo p1 p3 p5 p6 p7 S) 251 101 [(0, .ref 0), (1, sv_L p1), (3, sv_L p3), (5, sv_I p5), (6, sv_I p6), (7, sv_I p7), (8, sv_I (r1 + r2)), (9, sv_I l9_4), (10, sv_I s26), (11, sv_I (0 : Int))] [] (sv_sts S [68, 69, 70] g3) := Eq.mpr (congrArg (fun Z => sv_T sm_XS sm_cs sm_L sm_sh 5 (q_writeTo p1 p3 p5 p6 p7 S) 251 101 [(0, .ref 0), (1, sv_L p1), (3, sv_L p3), (5, sv_I p5), (6, sv_I p6), (7, sv_I p7), (8, sv_I (r1 + r2)), (9, sv_I l9_4), (10, sv_I s26), (11, sv_I (0 : Int))] [] Z) eS) hb
            exact hb
          have h := h.2
          refine sv_iload hM dX12_writeTo_53 rfl rfl ?_
          refine sv_cond_eq hM dX12_writeTo_55 (sv_R01 hp6) (t := 95) rfl rfl (fun hc => ?_) (fun hc => ?_)
          · have h := h.1 (hc)
            refine sv_iconst (d := (0 : Int)) hM dX12_writeTo_95 rfl rfl ?_
            have hb := J154 (0 : Int) (⟨by decide, by decide⟩ : sv_R (0 : Int)) h
            exact sv_less (lv := [(0, .ref 0), (1, sv_L p1), (3, sv_L p3), (5, sv_I p5), (6, sv_I p6), (7, sv_I p7), (8, sv_I (r1 + r2)), (9, sv_I l9_4)]) (sv_Sub_cons rfl (sv_Sub_cons rfl (sv_Sub_cons rfl (sv_Sub_cons rfl (sv_Sub_cons rfl (sv_Sub_cons rfl (sv_Sub_cons rfl (sv_Sub_cons rfl sv_Sub_nil)))))))) hb
          · have h := h.2 (hc)
            refine sv_iload hM dX12_writeTo_58 rfl rfl ?_
            refine sv_iconst (d := (1 : Int)) hM dX12_writeTo_60 rfl rfl ?_
            obtain ⟨o155, h⟩ := h
            refine sv_icmp_ne hM dX12_writeTo_61 o155 (⟨by decide, by decide⟩ : sv_R (1 : Int)) (t := 95) rfl rfl (fun hc => ?_) (fun hc => ?_)
            · have h := h.1 (hc)
              refine sv_iconst (d := (0 : Int)) hM dX12_writeTo_95 rfl rfl ?_
              have hb := J154 (0 : Int) (⟨by decide, by decide⟩ : sv_R (0 : Int)) h
              exact sv_less (lv := [(0, .ref 0), (1, sv_L p1), (3, sv_L p3), (5, sv_I p5), (6, sv_I p6), (7, sv_I p7), (8, sv_I (r1 + r2)), (9, sv_I l9_4)]) (sv_Sub_cons rfl (sv_Sub_cons rfl (sv_Sub_cons rfl (sv_Sub_cons rfl (sv_Sub_cons rfl (sv_Sub_cons rfl (sv_Sub_cons rfl (sv_Sub_cons rfl sv_Sub_nil)))))))) hb
            · have h := h.2 (hc)
              refine sv_iload hM dX12_writeTo_64 rfl rfl ?_
              obtain ⟨o156, h⟩ := h
              refine sv_callS hM dX12_writeTo_66 sm_iv_1166 (Nat.le_of_ble_eq_true rfl) rfl rfl (Nat.le_of_ble_eq_true rfl) sm_h240 (Nat.le_of_ble_eq_true rfl) (Nat.le_of_ble_eq_true rfl) (F' := 0) (Nat.le_of_ble_eq_true rfl) rfl (t_isSingle l9_4 (sv_sts S [68, 69, 70] g3) ok20 hl9_4 o156) (fun v S1 hq => ?_)
              obtain ⟨r161, rfl, hr161, ok158, md159, hpo160⟩ := hq
              obtain rfl : (sv_sts S [68, 69, 70] g3) = S1 := (funext fun j => md159 j (by intro q; cases q)).symm
              show sv_T sm_XS sm_cs sm_L sm_sh 5 (q_writeTo p1 p3 p5 p6 p7 S) 251 69 [(0, .ref 0), (1, sv_L p1), (3, sv_L p3), (5, sv_I p5), (6, sv_I p6), (7, sv_I p7), (8, sv_I (r1 + r2)), (9, sv_I l9_4)] [sv_I r161] (sv_sts S [68, 69, 70] g3)
              have h := h r161 hr161 hpo160
              refine sv_cond_eq hM dX12_writeTo_69 hr161 (t := 95) rfl rfl (fun hc => ?_) (fun hc => ?_)
              · have h := h.1 (hc)
                refine sv_iconst (d := (0 : Int)) hM dX12_writeTo_95 rfl rfl ?_
                have hb := J154 (0 : Int) (⟨by decide, by decide⟩ : sv_R (0 : Int)) h
                exact sv_less (lv := [(0, .ref 0), (1, sv_L p1), (3, sv_L p3), (5, sv_I p5), (6, sv_I p6), (7, sv_I p7), (8, sv_I (r1 + r2)), (9, sv_I l9_4)]) (sv_Sub_cons rfl (sv_Sub_cons rfl (sv_Sub_cons rfl (sv_Sub_cons rfl (sv_Sub_cons rfl (sv_Sub_cons rfl (sv_Sub_cons rfl (sv_Sub_cons rfl sv_Sub_nil)))))))) hb
              · have h := h.2 (hc)
                refine sv_aload_n hM dX12_writeTo_72 rfl rfl ?_
                refine sv_callV hM dX12_writeTo_73 sm_iv_1150 (by decide) (sm_a0 _) rfl rfl (Nat.le_of_ble_eq_true rfl) sm_h243 (Nat.le_of_ble_eq_true rfl) (Nat.le_of_ble_eq_true rfl) (F' := 4) (Nat.le_of_ble_eq_true rfl) rfl (t_manyKeys  (sv_sts S [68, 69, 70] g3) ok158) (fun v S1 hq => ?_)
                obtain ⟨r166, rfl, hr166, ok163, md164, hpo165⟩ := hq
                obtain rfl : (sv_sts S [68, 69, 70] g3) = S1 := (funext fun j => md164 j (by intro q; cases q)).symm
                show sv_T sm_XS sm_cs sm_L sm_sh 5 (q_writeTo p1 p3 p5 p6 p7 S) 251 76 [(0, .ref 0), (1, sv_L p1), (3, sv_L p3), (5, sv_I p5), (6, sv_I p6), (7, sv_I p7), (8, sv_I (r1 + r2)), (9, sv_I l9_4)] [sv_I r166] (sv_sts S [68, 69, 70] g3)
                have h := h r166 hr166 hpo165
                refine sv_iconst (d := (1 : Int)) hM dX12_writeTo_76 rfl rfl ?_
                refine sv_icmp_ne hM dX12_writeTo_77 hr166 (⟨by decide, by decide⟩ : sv_R (1 : Int)) (t := 95) rfl rfl (fun hc => ?_) (fun hc => ?_)
                · have h := h.1 (hc)
                  refine sv_iconst (d := (0 : Int)) hM dX12_writeTo_95 rfl rfl ?_
                  have hb := J154 (0 : Int) (⟨by decide, by decide⟩ : sv_R (0 : Int)) h
                  exact sv_less (lv := [(0, .ref 0), (1, sv_L p1), (3, sv_L p3), (5, sv_I p5), (6, sv_I p6), (7, sv_I p7), (8, sv_I (r1 + r2)), (9, sv_I l9_4)]) (sv_Sub_cons rfl (sv_Sub_cons rfl (sv_Sub_cons rfl (sv_Sub_cons rfl (sv_Sub_cons rfl (sv_Sub_cons rfl (sv_Sub_cons rfl (sv_Sub_cons rfl sv_Sub_nil)))))))) hb
                · have h := h.2 (hc)
                  refine sv_aload_n hM dX12_writeTo_80 rfl rfl ?_
                  refine sv_aload_n hM dX12_writeTo_81 rfl rfl ?_
                  have k167 : sv_R (S 1008 0) := sm_okI ok163 sm_r1008 0
                  have h := h k167
                  refine sv_getI hM dX12_writeTo_82 sm_fl_762 (sm_a0 _) sm_k8 rfl (x := (S 1008 0)) rfl ?_
                  obtain ⟨o168, h⟩ := h
                  refine sv_callV hM dX12_writeTo_85 sm_iv_1153 (by decide) (sm_a0 _) rfl rfl (Nat.le_of_ble_eq_true rfl) sm_h242 (Nat.le_of_ble_eq_true rfl) (Nat.le_of_ble_eq_true rfl) (F' := 1) (Nat.le_of_ble_eq_true rfl) rfl (t_hasKey (S 1008 0) (sv_sts S [68, 69, 70] g3) ok163 k167 o168) (fun v S1 hq => ?_)
                  obtain ⟨r173, rfl, hr173, ok170, md171, hpo172⟩ := hq
                  obtain rfl : (sv_sts S [68, 69, 70] g3) = S1 := (funext fun j => md171 j (by intro q; cases q)).symm
                  show sv_T sm_XS sm_cs sm_L sm_sh 5 (q_writeTo p1 p3 p5 p6 p7 S) 251 88 [(0, .ref 0), (1, sv_L p1), (3, sv_L p3), (5, sv_I p5), (6, sv_I p6), (7, sv_I p7), (8, sv_I (r1 + r2)), (9, sv_I l9_4)] [sv_I r173] (sv_sts S [68, 69, 70] g3)
                  have h := h r173 hr173 hpo172
                  refine sv_cond_ne hM dX12_writeTo_88 hr173 (t := 95) rfl rfl (fun hc => ?_) (fun hc => ?_)
                  · have h := h.1 (hc)
                    refine sv_iconst (d := (0 : Int)) hM dX12_writeTo_95 rfl rfl ?_
                    have hb := J154 (0 : Int) (⟨by decide, by decide⟩ : sv_R (0 : Int)) h
                    exact sv_less (lv := [(0, .ref 0), (1, sv_L p1), (3, sv_L p3), (5, sv_I p5), (6, sv_I p6), (7, sv_I p7), (8, sv_I (r1 + r2)), (9, sv_I l9_4)]) (sv_Sub_cons rfl (sv_Sub_cons rfl (sv_Sub_cons rfl (sv_Sub_cons rfl (sv_Sub_cons rfl (sv_Sub_cons rfl (sv_Sub_cons rfl (sv_Sub_cons rfl sv_Sub_nil)))))))) hb
                  · have h := h.2 (hc)
                    refine sv_iconst (d := (1 : Int)) hM dX12_writeTo_91 rfl rfl ?_
                    refine sv_goto hM dX12_writeTo_92 (pc' := 96) rfl ?_
                    have hb := J154 (1 : Int) (⟨by decide, by decide⟩ : sv_R (1 : Int)) h
                    exact sv_less (lv := [(0, .ref 0), (1, sv_L p1), (3, sv_L p3), (5, sv_I p5), (6, sv_I p6), (7, sv_I p7), (8, sv_I (r1 + r2)), (9, sv_I l9_4)]) (sv_Sub_cons rfl (sv_Sub_cons rfl (sv_Sub_cons rfl (sv_Sub_cons rfl (sv_Sub_cons rfl (sv_Sub_cons rfl (sv_Sub_cons rfl (sv_Sub_cons rfl sv_Sub_nil)))))))) hb
        · have h := h.2 (hc)
          refine sv_goto hM dX12_writeTo_50 (pc' := 181) rfl ?_
          refine sv_iinc (d := (1 : Int)) hM dX12_writeTo_181 rfl (by decide) rfl rfl ?_
          show sv_T sm_XS sm_cs sm_L sm_sh 5 (q_writeTo p1 p3 p5 p6 p7 S) 251 184 [(0, .ref 0), (1, sv_L p1), (3, sv_L p3), (5, sv_I p5), (6, sv_I p6), (7, sv_I p7), (8, sv_I (r1 + r2)), (9, sv_I (l9_4 + (1 : Int)))] [] (sv_sts S [68, 69, 70] g3)
          refine sv_goto hM dX12_writeTo_184 (pc' := 14) rfl ?_
          obtain ⟨o174, h⟩ := h
          have eS := sv_mod.eq md9
          have hb := ih5 ((l9_4 + (1 : Int)), (sv_sts S [68, 69, 70] g3)) ⟨o174, (by rw [← eS]; exact ok20), h.1⟩ h.2
          have hb : sv_T sm_XS sm_cs sm_L sm_sh 5 (q_writeTo p1 p3 p5 p6 p7 S) 251 14 [(0, .ref 0), (1, sv_L p1), (3, sv_L p3), (5, sv_I p5), (6, sv_I p6), (7, sv_I p7), (8, sv_I (r1 + r2)), (9, sv_I (l9_4 + (1 : Int)))] [] (sv_sts S [68, 69, 70] g3) := Eq.mpr (congrArg (fun Z => sv_T sm_XS sm_cs sm_L sm_sh 5 (q_writeTo p1 p3 p5 p6 p7 S) 251 14 [(0, .ref 0), (1, sv_L p1), (3, sv_L p3), (5, sv_I p5), (6, sv_I p6), (7, sv_I p7), (8, sv_I (r1 + r2)), (9, sv_I (l9_4 + (1 : Int)))] [] Z) eS) hb
          exact sv_less (lv := [(0, .ref 0), (1, sv_L p1), (3, sv_L p3), (5, sv_I p5), (6, sv_I p6), (7, sv_I p7), (8, sv_I (r1 + r2)), (9, sv_I (l9_4 + (1 : Int)))]) (sv_Sub_cons rfl (sv_Sub_cons rfl (sv_Sub_cons rfl (sv_Sub_cons rfl (sv_Sub_cons rfl (sv_Sub_cons rfl (sv_Sub_cons rfl (sv_Sub_cons rfl sv_Sub_nil)))))))) hb
  have eS := sv_mod.eq (sv_mod.rf (l := [68, 69, 70]) (S := S))
  have hb := hJ ((0 : Int), S) ⟨(⟨by decide, by decide⟩ : sv_R (0 : Int)), (by rw [← eS]; exact hok), hin6⟩
  have hb : sv_T sm_XS sm_cs sm_L sm_sh 5 (q_writeTo p1 p3 p5 p6 p7 S) 251 14 [(0, .ref 0), (1, sv_L p1), (3, sv_L p3), (5, sv_I p5), (6, sv_I p6), (7, sv_I p7), (8, sv_I (r1 + r2)), (9, sv_I (0 : Int))] [] S := Eq.mpr (congrArg (fun Z => sv_T sm_XS sm_cs sm_L sm_sh 5 (q_writeTo p1 p3 p5 p6 p7 S) 251 14 [(0, .ref 0), (1, sv_L p1), (3, sv_L p3), (5, sv_I p5), (6, sv_I p6), (7, sv_I p7), (8, sv_I (r1 + r2)), (9, sv_I (0 : Int))] [] Z) eS) hb
  exact hb
def q_newLabel (p1 : Int) (p2 : Int) (S : sv_S) : Option Value → sv_S → Prop := fun v S' => v = none ∧ sm_ok S' ∧ sv_mod [68, 69, 70, 81, 82, 83, 84, 85, 86] S S' ∧ (sm_pt (S' 68) (S' 69) (S' 70) = sm_pt (S 68) (S 69) (S 70) ∧ sm_pl (S' 81) (S' 82) (S' 83) (S' 84) (S' 85) (S' 86) = sm_pl (S 81) (S 82) (S 83) (S 84) (S 85) (S 86))
theorem la_newLabel_0 {x0 x1 x2 x3 x4 : Int} (h0 : x0 ≤ 127) (h1 : 0 ≤ x1) (h2 : x1 ≤ 11557) (h3 : 0 ≤ x2) (h4 : x2 < x0) : 0 ≤ x1 ∧ x1 ≤ 11557 ∧ (0 : Int) ≤ 639 ∧ ((639 : Int) = 639 ∨ 639 < x3 + 2 * x4) ∧ 0 ≤ x2 ∧ (x2 < x0 ∨ (639 : Int) = 639 ∧ x2 < 128) := by omega
theorem la_newLabel_1 : (639 : Int) = 639 := by omega
theorem la_newLabel_2 : ¬ ¬ (639 : Int) = 639 := by omega
theorem la_newLabel_3 {x0 x1 x2 : Int} (h0 : x0 ≤ 127) (h1 : 0 ≤ x1) (h2 : x1 < x0) (h3 : x2 = 15000 + x1) : 0 ≤ x2 ∧ x2 < 15128 := by omega
theorem la_newLabel_4 {x0 : Int} (h0 : (-1) ≤ x0) (h1 : ¬ x0 = (-1)) : (-1) < x0 := by omega
theorem la_newLabel_5 {x0 x1 : Int} (h0 : 31 ≤ x0) : (0 : Int) ≤ 0 ∧ 0 ≤ x0 + 1 ∧ x1 = x1 := by omega
theorem la_newLabel_6 {x0 x1 : Int} (h0 : x0 ≤ x1 + 1) : 0 ≤ x1 + 1 - x0 := by omega
theorem la_newLabel_7 {x0 x1 : Int} (h0 : 0 ≤ x0) (h1 : x1 = 15000 + x0) : 15000 ≤ x1 := by omega
theorem la_newLabel_8 {x0 x1 x2 x3 x4 x5 x6 : Int} (h0 : x0 = x1) (h1 : x1 = x2) (h2 : x2 = x3) (h3 : x3 = x4) (h4 : x4 = x5) (h5 : x5 = x6) : x0 = x6 := by omega
theorem la_newLabel_9 {x0 x1 x2 x3 x4 x5 x6 : Int} (h0 : x0 ≤ 127) (h1 : 0 ≤ x1) (h2 : x1 ≤ 11557) (h3 : 0 ≤ x2) (h4 : x2 < x0) (h5 : 0 ≤ x3) (h6 : ¬ x4 < x3) : 0 ≤ x1 ∧ x1 ≤ 11557 ∧ (0 : Int) ≤ 639 ∧ ((639 : Int) = 639 ∨ 639 < x5 + 2 * x6) ∧ 0 ≤ x2 ∧ (x2 < x0 ∨ (639 : Int) = 639 ∧ x2 < 128) ∧ 0 ≤ x3 ∧ x3 ≤ x4 := by omega
theorem la_newLabel_10 {x0 : Int} (h0 : 635640 ≤ x0) (h1 : x0 < 647340) : 0 ≤ x0 ∧ x0 < 647800 := by omega
theorem la_newLabel_11 {x0 : Int} (h0 : 635640 ≤ x0) : 635639 ≤ x0 := by omega
theorem la_newLabel_12 : (0 : Int) ≤ 512 := by omega
theorem la_newLabel_13 {x0 : Int} (h0 : 635640 ≤ x0) : ¬ x0 < 635639 := by omega
theorem la_newLabel_14 : (512 : Int) < 1024 := by omega
theorem la_newLabel_15 {x0 x1 : Int} (h0 : x0 ≤ 90) (h1 : 0 ≤ x1) (h2 : ¬ x0 < x1) : sv_R (x1 + 1) := by omega
theorem la_newLabel_16 {x0 x1 x2 x3 x4 x5 : Int} (h0 : 0 ≤ x0) (h1 : x1 = x2) (h2 : ¬ x3 < x0) (h3 : x4 = x1) (h4 : x5 = x4) : 0 ≤ x0 + 1 ∧ x0 + 1 ≤ x3 + 1 ∧ x5 = x2 := by omega
theorem la_newLabel_17 {x0 x1 : Int} : x0 + 1 - (x1 + 1) < x0 + 1 - x1 := by omega
theorem la_newLabel_18 {x0 : Int} (h0 : ¬ ¬ x0 = (-1)) : x0 ≤ (-1) := by omega
theorem la_newLabel_19 {x0 : Int} (h0 : x0 ≤ (-1)) (h1 : ¬ x0 = (-1)) : x0 < (-1) := by omega
set_option maxHeartbeats 2000000 in
theorem f_newLabel : ∀ (p1 : Int) (p2 : Int) (S : sv_S), sm_ok S → sv_R p1 → sv_R p2 → (29 ≤ (S 1071 0) ∧ (S 1071 0) ≤ 127 ∧ 31 ≤ (S 1008 0) ∧ (S 1008 0) ≤ 90 ∧ 1 ≤ (S 1032 0) ∧ (S 1032 0) ≤ 11 ∧ 0 ≤ (S 1055 0) ∧ (S 1055 0) ≤ 19 ∧ (S 1071 0) = 29 + 6 * ((S 1032 0) - 1) + 2 * (S 1055 0) ∧ 0 ≤ (S 1046 0) ∧ (S 1046 0) + 2 * (S 1032 0) ≤ 500 ∧ sm_PD (S 1046 0) (S 1032 0) (S 1071 0) (S 1008 0) ∧ 0 ≤ (S 1071 0) * ((S 1008 0) + 1) ∧ (S 1071 0) * ((S 1008 0) + 1) ≤ 11557 ∧ 0 ≤ p1 ∧ p1 < (S 1071 0) ∧ -1 ≤ p2 ∧ p2 ≤ 63) → (29 ≤ (S 1071 0) ∧ (S 1071 0) ≤ 127 ∧ 31 ≤ (S 1008 0) ∧ (S 1008 0) ≤ 90 ∧ 1 ≤ (S 1032 0) ∧ (S 1032 0) ≤ 11 ∧ 0 ≤ (S 1055 0) ∧ (S 1055 0) ≤ 19 ∧ (S 1071 0) = 29 + 6 * ((S 1032 0) - 1) + 2 * (S 1055 0) ∧ 0 ≤ (S 1046 0) ∧ (S 1046 0) + 2 * (S 1032 0) ≤ 500 ∧ sm_PD (S 1046 0) (S 1032 0) (S 1071 0) (S 1008 0) ∧ 0 ≤ (S 1071 0) * ((S 1008 0) + 1) ∧ (S 1071 0) * ((S 1008 0) + 1) ≤ 11557 ∧ 0 ≤ (639 : Int) ∧ ((639 : Int) = 639 ∨ (639 : Int) < (S 1046 0) + 2 * (S 1032 0)) ∧ 0 ≤ p1 ∧ (p1 < (S 1071 0) ∨ ((639 : Int) = 639 ∧ p1 < 128))) ∧ (∀ r6 : Int, sv_R r6 → (((639 : Int) = 639 → r6 = 15000 + p1) ∧ (¬ (639 : Int) = 639 → 0 ≤ r6 ∧ r6 < 14520)) → (0 ≤ r6 ∧ r6 < 15128) ∧ (((¬ p2 = (-1 : Int)) → (((¬ p2 = (-1 : Int)) → (∀ r12 : Int, sv_RL r12 → ((0 ≤ (0 : Int) ∧ (0 : Int) ≤ (S 1008 0) + 1 ∧ sm_pt (S 68) (S 69) (S 70) = sm_pt (S 68) (S 69) (S 70)) ∧ (∀ l4_22 : Int, sv_R l4_22 → ∀ g21 : sv_S, (0 ≤ l4_22 ∧ l4_22 ≤ (S 1008 0) + 1 ∧ sm_pt (g21 68) (g21 69) (g21 70) = sm_pt (S 68) (S 69) (S 70)) → (0 ≤ (S 1008 0) + 1 - l4_22) ∧ (sv_R (S 1008 0) → ((((S 1008 0) < l4_22) → (sm_pt (g21 68) (g21 69) (g21 70) = sm_pt (S 68) (S 69) (S 70) ∧ sm_pl (fun i' : Int => if i' = r6 then (1 : Int) else (S 81) i') (fun i' : Int => if i' = r6 then (0 : Int) else (S 82) i') (fun i' : Int => if i' = r6 then r12 else (S 83) i') (fun i' : Int => if i' = r6 then (0 : Int) else (S 84) i') (fun i' : Int => if i' = r6 then (0 : Int) else (S 85) i') (fun i' : Int => if i' = r6 then (0 : Int) else (S 86) i') = sm_pl (S 81) (S 82) (S 83) (S 84) (S 85) (S 86))) ∧ ((¬ ((S 1008 0) < l4_22)) → (29 ≤ (S 1071 0) ∧ (S 1071 0) ≤ 127 ∧ 31 ≤ (S 1008 0) ∧ (S 1008 0) ≤ 90 ∧ 1 ≤ (S 1032 0) ∧ (S 1032 0) ≤ 11 ∧ 0 ≤ (S 1055 0) ∧ (S 1055 0) ≤ 19 ∧ (S 1071 0) = 29 + 6 * ((S 1032 0) - 1) + 2 * (S 1055 0) ∧ 0 ≤ (S 1046 0) ∧ (S 1046 0) + 2 * (S 1032 0) ≤ 500 ∧ sm_PD (S 1046 0) (S 1032 0) (S 1071 0) (S 1008 0) ∧ 0 ≤ (S 1071 0) * ((S 1008 0) + 1) ∧ (S 1071 0) * ((S 1008 0) + 1) ≤ 11557 ∧ 0 ≤ (639 : Int) ∧ ((639 : Int) = 639 ∨ (639 : Int) < (S 1046 0) + 2 * (S 1032 0)) ∧ 0 ≤ p1 ∧ (p1 < (S 1071 0) ∨ ((639 : Int) = 639 ∧ p1 < 128)) ∧ 0 ≤ l4_22 ∧ l4_22 ≤ (S 1008 0)) ∧ (∀ r34 : Int, sv_R r34 → (((639 : Int) = 639 → 635640 ≤ r34 ∧ r34 < 647340) ∧ (¬ (639 : Int) = 639 → 0 ≤ r34 ∧ r34 < 464520)) → (0 ≤ r34 ∧ r34 < 647800) ∧ (∀ g36 : sv_S, (635639 ≤ r34 → sm_pt (g36 68) (g36 69) (g36 70) = sm_pt (g21 68) (g21 69) (g21 70)) → (∀ r46 : Int, sv_R r46 → (((639 : Int) = 639 → 635640 ≤ r46 ∧ r46 < 647340) ∧ (¬ (639 : Int) = 639 → 0 ≤ r46 ∧ r46 < 464520)) → (0 ≤ r46 ∧ r46 < 647800) ∧ (∀ g48 : sv_S, ((0 ≤ (512 : Int) → (512 : Int) < 1024 → (g48 68 r46) % 1024 = (512 : Int)) ∧ (635639 ≤ r46 → sm_pt (g48 68) (g36 69) (g36 70) = sm_pt (g36 68) (g36 69) (g36 70)) ∧ (r46 < 635639 → sm_pt (g48 68) (g36 69) (g36 70) = sm_pt (g36 68) (g36 69) (g36 70) + sm_rs (g36 68 r46) (g36 69 r46) (g36 70 r46) - sm_rs (g48 68 r46) (g36 69 r46) (g36 70 r46))) → (sv_R (l4_22 + (1 : Int))) ∧ ((0 ≤ (l4_22 + (1 : Int)) ∧ (l4_22 + (1 : Int)) ≤ (S 1008 0) + 1 ∧ sm_pt (g48 68) (g36 69) (g36 70) = sm_pt (S 68) (S 69) (S 70)) ∧ ((S 1008 0) + 1 - (l4_22 + (1 : Int))) < ((S 1008 0) + 1 - l4_22))))))))))))) ∧ ((¬ (¬ p2 = (-1 : Int))) → ((0 ≤ (0 : Int) ∧ (0 : Int) ≤ (S 1008 0) + 1 ∧ sm_pt (S 68) (S 69) (S 70) = sm_pt (S 68) (S 69) (S 70)) ∧ (∀ l4_64 : Int, sv_R l4_64 → ∀ g63 : sv_S, (0 ≤ l4_64 ∧ l4_64 ≤ (S 1008 0) + 1 ∧ sm_pt (g63 68) (g63 69) (g63 70) = sm_pt (S 68) (S 69) (S 70)) → (0 ≤ (S 1008 0) + 1 - l4_64) ∧ (sv_R (S 1008 0) → ((((S 1008 0) < l4_64) → (sm_pt (g63 68) (g63 69) (g63 70) = sm_pt (S 68) (S 69) (S 70) ∧ sm_pl (fun i' : Int => if i' = r6 then (1 : Int) else (S 81) i') (fun i' : Int => if i' = r6 then (0 : Int) else (S 82) i') (fun i' : Int => if i' = r6 then (0 : Int) else (S 83) i') (fun i' : Int => if i' = r6 then (0 : Int) else (S 84) i') (fun i' : Int => if i' = r6 then (0 : Int) else (S 85) i') (fun i' : Int => if i' = r6 then (0 : Int) else (S 86) i') = sm_pl (S 81) (S 82) (S 83) (S 84) (S 85) (S 86))) ∧ ((¬ ((S 1008 0) < l4_64)) → (29 ≤ (S 1071 0) ∧ (S 1071 0) ≤ 127 ∧ 31 ≤ (S 1008 0) ∧ (S 1008 0) ≤ 90 ∧ 1 ≤ (S 1032 0) ∧ (S 1032 0) ≤ 11 ∧ 0 ≤ (S 1055 0) ∧ (S 1055 0) ≤ 19 ∧ (S 1071 0) = 29 + 6 * ((S 1032 0) - 1) + 2 * (S 1055 0) ∧ 0 ≤ (S 1046 0) ∧ (S 1046 0) + 2 * (S 1032 0) ≤ 500 ∧ sm_PD (S 1046 0) (S 1032 0) (S 1071 0) (S 1008 0) ∧ 0 ≤ (S 1071 0) * ((S 1008 0) + 1) ∧ (S 1071 0) * ((S 1008 0) + 1) ≤ 11557 ∧ 0 ≤ (639 : Int) ∧ ((639 : Int) = 639 ∨ (639 : Int) < (S 1046 0) + 2 * (S 1032 0)) ∧ 0 ≤ p1 ∧ (p1 < (S 1071 0) ∨ ((639 : Int) = 639 ∧ p1 < 128)) ∧ 0 ≤ l4_64 ∧ l4_64 ≤ (S 1008 0)) ∧ (∀ r76 : Int, sv_R r76 → (((639 : Int) = 639 → 635640 ≤ r76 ∧ r76 < 647340) ∧ (¬ (639 : Int) = 639 → 0 ≤ r76 ∧ r76 < 464520)) → (0 ≤ r76 ∧ r76 < 647800) ∧ (∀ g78 : sv_S, (635639 ≤ r76 → sm_pt (g78 68) (g78 69) (g78 70) = sm_pt (g63 68) (g63 69) (g63 70)) → (∀ r88 : Int, sv_R r88 → (((639 : Int) = 639 → 635640 ≤ r88 ∧ r88 < 647340) ∧ (¬ (639 : Int) = 639 → 0 ≤ r88 ∧ r88 < 464520)) → (0 ≤ r88 ∧ r88 < 647800) ∧ (∀ g90 : sv_S, ((0 ≤ (512 : Int) → (512 : Int) < 1024 → (g90 68 r88) % 1024 = (512 : Int)) ∧ (635639 ≤ r88 → sm_pt (g90 68) (g78 69) (g78 70) = sm_pt (g78 68) (g78 69) (g78 70)) ∧ (r88 < 635639 → sm_pt (g90 68) (g78 69) (g78 70) = sm_pt (g78 68) (g78 69) (g78 70) + sm_rs (g78 68 r88) (g78 69 r88) (g78 70 r88) - sm_rs (g90 68 r88) (g78 69 r88) (g78 70 r88))) → (sv_R (l4_64 + (1 : Int))) ∧ ((0 ≤ (l4_64 + (1 : Int)) ∧ (l4_64 + (1 : Int)) ≤ (S 1008 0) + 1 ∧ sm_pt (g90 68) (g78 69) (g78 70) = sm_pt (S 68) (S 69) (S 70)) ∧ ((S 1008 0) + 1 - (l4_64 + (1 : Int))) < ((S 1008 0) + 1 - l4_64)))))))))))))) ∧ ((¬ (¬ p2 = (-1 : Int))) → (((¬ p2 = (-1 : Int)) → (∀ r99 : Int, sv_RL r99 → ((0 ≤ (0 : Int) ∧ (0 : Int) ≤ (S 1008 0) + 1 ∧ sm_pt (S 68) (S 69) (S 70) = sm_pt (S 68) (S 69) (S 70)) ∧ (∀ l4_109 : Int, sv_R l4_109 → ∀ g108 : sv_S, (0 ≤ l4_109 ∧ l4_109 ≤ (S 1008 0) + 1 ∧ sm_pt (g108 68) (g108 69) (g108 70) = sm_pt (S 68) (S 69) (S 70)) → (0 ≤ (S 1008 0) + 1 - l4_109) ∧ (sv_R (S 1008 0) → ((((S 1008 0) < l4_109) → (sm_pt (g108 68) (g108 69) (g108 70) = sm_pt (S 68) (S 69) (S 70) ∧ sm_pl (fun i' : Int => if i' = r6 then (1 : Int) else (S 81) i') (fun i' : Int => if i' = r6 then (1 : Int) else (S 82) i') (fun i' : Int => if i' = r6 then r99 else (S 83) i') (fun i' : Int => if i' = r6 then (0 : Int) else (S 84) i') (fun i' : Int => if i' = r6 then (0 : Int) else (S 85) i') (fun i' : Int => if i' = r6 then (0 : Int) else (S 86) i') = sm_pl (S 81) (S 82) (S 83) (S 84) (S 85) (S 86))) ∧ ((¬ ((S 1008 0) < l4_109)) → (29 ≤ (S 1071 0) ∧ (S 1071 0) ≤ 127 ∧ 31 ≤ (S 1008 0) ∧ (S 1008 0) ≤ 90 ∧ 1 ≤ (S 1032 0) ∧ (S 1032 0) ≤ 11 ∧ 0 ≤ (S 1055 0) ∧ (S 1055 0) ≤ 19 ∧ (S 1071 0) = 29 + 6 * ((S 1032 0) - 1) + 2 * (S 1055 0) ∧ 0 ≤ (S 1046 0) ∧ (S 1046 0) + 2 * (S 1032 0) ≤ 500 ∧ sm_PD (S 1046 0) (S 1032 0) (S 1071 0) (S 1008 0) ∧ 0 ≤ (S 1071 0) * ((S 1008 0) + 1) ∧ (S 1071 0) * ((S 1008 0) + 1) ≤ 11557 ∧ 0 ≤ (639 : Int) ∧ ((639 : Int) = 639 ∨ (639 : Int) < (S 1046 0) + 2 * (S 1032 0)) ∧ 0 ≤ p1 ∧ (p1 < (S 1071 0) ∨ ((639 : Int) = 639 ∧ p1 < 128)) ∧ 0 ≤ l4_109 ∧ l4_109 ≤ (S 1008 0)) ∧ (∀ r121 : Int, sv_R r121 → (((639 : Int) = 639 → 635640 ≤ r121 ∧ r121 < 647340) ∧ (¬ (639 : Int) = 639 → 0 ≤ r121 ∧ r121 < 464520)) → (0 ≤ r121 ∧ r121 < 647800) ∧ (∀ g123 : sv_S, (635639 ≤ r121 → sm_pt (g123 68) (g123 69) (g123 70) = sm_pt (g108 68) (g108 69) (g108 70)) → (∀ r133 : Int, sv_R r133 → (((639 : Int) = 639 → 635640 ≤ r133 ∧ r133 < 647340) ∧ (¬ (639 : Int) = 639 → 0 ≤ r133 ∧ r133 < 464520)) → (0 ≤ r133 ∧ r133 < 647800) ∧ (∀ g135 : sv_S, ((0 ≤ (512 : Int) → (512 : Int) < 1024 → (g135 68 r133) % 1024 = (512 : Int)) ∧ (635639 ≤ r133 → sm_pt (g135 68) (g123 69) (g123 70) = sm_pt (g123 68) (g123 69) (g123 70)) ∧ (r133 < 635639 → sm_pt (g135 68) (g123 69) (g123 70) = sm_pt (g123 68) (g123 69) (g123 70) + sm_rs (g123 68 r133) (g123 69 r133) (g123 70 r133) - sm_rs (g135 68 r133) (g123 69 r133) (g123 70 r133))) → (sv_R (l4_109 + (1 : Int))) ∧ ((0 ≤ (l4_109 + (1 : Int)) ∧ (l4_109 + (1 : Int)) ≤ (S 1008 0) + 1 ∧ sm_pt (g135 68) (g123 69) (g123 70) = sm_pt (S 68) (S 69) (S 70)) ∧ ((S 1008 0) + 1 - (l4_109 + (1 : Int))) < ((S 1008 0) + 1 - l4_109))))))))))))) ∧ ((¬ (¬ p2 = (-1 : Int))) → ((0 ≤ (0 : Int) ∧ (0 : Int) ≤ (S 1008 0) + 1 ∧ sm_pt (S 68) (S 69) (S 70) = sm_pt (S 68) (S 69) (S 70)) ∧ (∀ l4_151 : Int, sv_R l4_151 → ∀ g150 : sv_S, (0 ≤ l4_151 ∧ l4_151 ≤ (S 1008 0) + 1 ∧ sm_pt (g150 68) (g150 69) (g150 70) = sm_pt (S 68) (S 69) (S 70)) → (0 ≤ (S 1008 0) + 1 - l4_151) ∧ (sv_R (S 1008 0) → ((((S 1008 0) < l4_151) → (sm_pt (g150 68) (g150 69) (g150 70) = sm_pt (S 68) (S 69) (S 70) ∧ sm_pl (fun i' : Int => if i' = r6 then (1 : Int) else (S 81) i') (fun i' : Int => if i' = r6 then (1 : Int) else (S 82) i') (fun i' : Int => if i' = r6 then (0 : Int) else (S 83) i') (fun i' : Int => if i' = r6 then (0 : Int) else (S 84) i') (fun i' : Int => if i' = r6 then (0 : Int) else (S 85) i') (fun i' : Int => if i' = r6 then (0 : Int) else (S 86) i') = sm_pl (S 81) (S 82) (S 83) (S 84) (S 85) (S 86))) ∧ ((¬ ((S 1008 0) < l4_151)) → (29 ≤ (S 1071 0) ∧ (S 1071 0) ≤ 127 ∧ 31 ≤ (S 1008 0) ∧ (S 1008 0) ≤ 90 ∧ 1 ≤ (S 1032 0) ∧ (S 1032 0) ≤ 11 ∧ 0 ≤ (S 1055 0) ∧ (S 1055 0) ≤ 19 ∧ (S 1071 0) = 29 + 6 * ((S 1032 0) - 1) + 2 * (S 1055 0) ∧ 0 ≤ (S 1046 0) ∧ (S 1046 0) + 2 * (S 1032 0) ≤ 500 ∧ sm_PD (S 1046 0) (S 1032 0) (S 1071 0) (S 1008 0) ∧ 0 ≤ (S 1071 0) * ((S 1008 0) + 1) ∧ (S 1071 0) * ((S 1008 0) + 1) ≤ 11557 ∧ 0 ≤ (639 : Int) ∧ ((639 : Int) = 639 ∨ (639 : Int) < (S 1046 0) + 2 * (S 1032 0)) ∧ 0 ≤ p1 ∧ (p1 < (S 1071 0) ∨ ((639 : Int) = 639 ∧ p1 < 128)) ∧ 0 ≤ l4_151 ∧ l4_151 ≤ (S 1008 0)) ∧ (∀ r163 : Int, sv_R r163 → (((639 : Int) = 639 → 635640 ≤ r163 ∧ r163 < 647340) ∧ (¬ (639 : Int) = 639 → 0 ≤ r163 ∧ r163 < 464520)) → (0 ≤ r163 ∧ r163 < 647800) ∧ (∀ g165 : sv_S, (635639 ≤ r163 → sm_pt (g165 68) (g165 69) (g165 70) = sm_pt (g150 68) (g150 69) (g150 70)) → (∀ r175 : Int, sv_R r175 → (((639 : Int) = 639 → 635640 ≤ r175 ∧ r175 < 647340) ∧ (¬ (639 : Int) = 639 → 0 ≤ r175 ∧ r175 < 464520)) → (0 ≤ r175 ∧ r175 < 647800) ∧ (∀ g177 : sv_S, ((0 ≤ (512 : Int) → (512 : Int) < 1024 → (g177 68 r175) % 1024 = (512 : Int)) ∧ (635639 ≤ r175 → sm_pt (g177 68) (g165 69) (g165 70) = sm_pt (g165 68) (g165 69) (g165 70)) ∧ (r175 < 635639 → sm_pt (g177 68) (g165 69) (g165 70) = sm_pt (g165 68) (g165 69) (g165 70) + sm_rs (g165 68 r175) (g165 69 r175) (g165 70 r175) - sm_rs (g177 68 r175) (g165 69 r175) (g165 70 r175))) → (sv_R (l4_151 + (1 : Int))) ∧ ((0 ≤ (l4_151 + (1 : Int)) ∧ (l4_151 + (1 : Int)) ≤ (S 1008 0) + 1 ∧ sm_pt (g177 68) (g165 69) (g165 70) = sm_pt (S 68) (S 69) (S 70)) ∧ ((S 1008 0) + 1 - (l4_151 + (1 : Int))) < ((S 1008 0) + 1 - l4_151)))))))))))))))) := by
  intro p1
  intro p2
  intro S
  intro h1_
  intro h2_
  intro h3_
  rintro ⟨h4_, ⟨h5_, ⟨h6_, ⟨h7_, ⟨h8_, ⟨h9_, ⟨h10_, ⟨h11_, ⟨h12_, ⟨h13_, ⟨h14_, ⟨h15_, ⟨h16_, ⟨h17_, ⟨h18_, ⟨h19_, ⟨h20_, h21_⟩⟩⟩⟩⟩⟩⟩⟩⟩⟩⟩⟩⟩⟩⟩⟩⟩
  refine ⟨⟨h4_, ⟨h5_, ⟨h6_, ⟨h7_, ⟨h8_, ⟨h9_, ⟨h10_, ⟨h11_, ⟨h12_, ⟨h13_, ⟨h14_, ⟨h15_, (la_newLabel_0 h5_ h16_ h17_ h18_ h19_)⟩⟩⟩⟩⟩⟩⟩⟩⟩⟩⟩⟩, ?_⟩
  intro r6
  intro h22_
  rintro ⟨h23_, h24_⟩
  have h25_ := (h23_ la_newLabel_1)
  refine ⟨(la_newLabel_3 h5_ h18_ h19_ h25_), ?_⟩
  refine ⟨?_, ?_⟩
  · skip
    intro h26_
    refine ⟨?_, ?_⟩
    · skip
      intro h27_
      intro r12
      intro h28_
      refine ⟨(la_newLabel_5 h6_), ?_⟩
      intro l4_22
      intro h29_
      intro g21
      rintro ⟨h30_, ⟨h31_, h32_⟩⟩
      refine ⟨(la_newLabel_6 h31_), ?_⟩
      intro h33_
      refine ⟨?_, ?_⟩
      · skip
        intro h34_
        refine ⟨h32_, ?_⟩
        have e35_ : sm_pl (fun i' : Int => (if i' = r6 then 1 else (S 81) i')) (fun i' : Int => (if i' = r6 then 0 else (S 82) i')) (fun i' : Int => (if i' = r6 then r12 else (S 83) i')) (fun i' : Int => (if i' = r6 then 0 else (S 84) i')) (fun i' : Int => (if i' = r6 then 0 else (S 85) i')) (fun i' : Int => (if i' = r6 then 0 else (S 86) i')) = sm_pl (fun i' : Int => (if i' = r6 then 1 else (S 81) i')) (fun i' : Int => (if i' = r6 then 0 else (S 82) i')) (fun i' : Int => (if i' = r6 then r12 else (S 83) i')) (fun i' : Int => (if i' = r6 then 0 else (S 84) i')) (fun i' : Int => (if i' = r6 then 0 else (S 85) i')) (S 86) := sm_pl_D (la_newLabel_7 h18_ h25_)
        have e36_ : sm_pl (fun i' : Int => (if i' = r6 then 1 else (S 81) i')) (fun i' : Int => (if i' = r6 then 0 else (S 82) i')) (fun i' : Int => (if i' = r6 then r12 else (S 83) i')) (fun i' : Int => (if i' = r6 then 0 else (S 84) i')) (fun i' : Int => (if i' = r6 then 0 else (S 85) i')) (S 86) = sm_pl (fun i' : Int => (if i' = r6 then 1 else (S 81) i')) (fun i' : Int => (if i' = r6 then 0 else (S 82) i')) (fun i' : Int => (if i' = r6 then r12 else (S 83) i')) (fun i' : Int => (if i' = r6 then 0 else (S 84) i')) (S 85) (S 86) := sm_pl_C (la_newLabel_7 h18_ h25_)
        have e37_ : sm_pl (fun i' : Int => (if i' = r6 then 1 else (S 81) i')) (fun i' : Int => (if i' = r6 then 0 else (S 82) i')) (fun i' : Int => (if i' = r6 then r12 else (S 83) i')) (fun i' : Int => (if i' = r6 then 0 else (S 84) i')) (S 85) (S 86) = sm_pl (fun i' : Int => (if i' = r6 then 1 else (S 81) i')) (fun i' : Int => (if i' = r6 then 0 else (S 82) i')) (fun i' : Int => (if i' = r6 then r12 else (S 83) i')) (S 84) (S 85) (S 86) := sm_pl_B (la_newLabel_7 h18_ h25_)
        have e38_ : sm_pl (fun i' : Int => (if i' = r6 then 1 else (S 81) i')) (fun i' : Int => (if i' = r6 then 0 else (S 82) i')) (fun i' : Int => (if i' = r6 then r12 else (S 83) i')) (S 84) (S 85) (S 86) = sm_pl (fun i' : Int => (if i' = r6 then 1 else (S 81) i')) (fun i' : Int => (if i' = r6 then 0 else (S 82) i')) (S 83) (S 84) (S 85) (S 86) := sm_pl_A (la_newLabel_7 h18_ h25_)
        have e39_ : sm_pl (fun i' : Int => (if i' = r6 then 1 else (S 81) i')) (fun i' : Int => (if i' = r6 then 0 else (S 82) i')) (S 83) (S 84) (S 85) (S 86) = sm_pl (fun i' : Int => (if i' = r6 then 1 else (S 81) i')) (S 82) (S 83) (S 84) (S 85) (S 86) := sm_pl_N (la_newLabel_7 h18_ h25_)
        have e40_ : sm_pl (fun i' : Int => (if i' = r6 then 1 else (S 81) i')) (S 82) (S 83) (S 84) (S 85) (S 86) = sm_pl (S 81) (S 82) (S 83) (S 84) (S 85) (S 86) := sm_pl_T (la_newLabel_7 h18_ h25_)
        exact (la_newLabel_8 e35_ e36_ e37_ e38_ e39_ e40_)
      intro h41_
      refine ⟨⟨h4_, ⟨h5_, ⟨h6_, ⟨h7_, ⟨h8_, ⟨h9_, ⟨h10_, ⟨h11_, ⟨h12_, ⟨h13_, ⟨h14_, ⟨h15_, (la_newLabel_9 h5_ h16_ h17_ h18_ h19_ h30_ h41_)⟩⟩⟩⟩⟩⟩⟩⟩⟩⟩⟩⟩, ?_⟩
      intro r34
      intro h42_
      rintro ⟨h43_, h44_⟩
      obtain ⟨h45_, h46_⟩ := (h43_ la_newLabel_1)
      refine ⟨(la_newLabel_10 h45_ h46_), ?_⟩
      intro g36
      intro h47_
      have h48_ := (h47_ (la_newLabel_11 h45_))
      intro r46
      intro h49_
      rintro ⟨h50_, h51_⟩
      obtain ⟨h52_, h53_⟩ := (h50_ la_newLabel_1)
      refine ⟨(la_newLabel_10 h52_ h53_), ?_⟩
      intro g48
      rintro ⟨h54_, ⟨h55_, h56_⟩⟩
      have h57_ := (h54_ la_newLabel_12)
      have h58_ := (h55_ (la_newLabel_11 h52_))
      have h59_ := (h57_ la_newLabel_14)
      refine ⟨(la_newLabel_15 h7_ h30_ h41_), ?_⟩
      refine ⟨(la_newLabel_16 h30_ h32_ h41_ h48_ h58_), ?_⟩
      exact la_newLabel_17
    intro h60_
    refine ⟨(la_newLabel_5 h6_), ?_⟩
    intro l4_64
    intro h61_
    intro g63
    rintro ⟨h62_, ⟨h63_, h64_⟩⟩
    refine ⟨(la_newLabel_6 h63_), ?_⟩
    intro h65_
    refine ⟨?_, ?_⟩
    · skip
      intro h66_
      refine ⟨h64_, ?_⟩
      have e67_ : sm_pl (fun i' : Int => (if i' = r6 then 1 else (S 81) i')) (fun i' : Int => (if i' = r6 then 0 else (S 82) i')) (fun i' : Int => (if i' = r6 then 0 else (S 83) i')) (fun i' : Int => (if i' = r6 then 0 else (S 84) i')) (fun i' : Int => (if i' = r6 then 0 else (S 85) i')) (fun i' : Int => (if i' = r6 then 0 else (S 86) i')) = sm_pl (fun i' : Int => (if i' = r6 then 1 else (S 81) i')) (fun i' : Int => (if i' = r6 then 0 else (S 82) i')) (fun i' : Int => (if i' = r6 then 0 else (S 83) i')) (fun i' : Int => (if i' = r6 then 0 else (S 84) i')) (fun i' : Int => (if i' = r6 then 0 else (S 85) i')) (S 86) := sm_pl_D (la_newLabel_7 h18_ h25_)
      have e68_ : sm_pl (fun i' : Int => (if i' = r6 then 1 else (S 81) i')) (fun i' : Int => (if i' = r6 then 0 else (S 82) i')) (fun i' : Int => (if i' = r6 then 0 else (S 83) i')) (fun i' : Int => (if i' = r6 then 0 else (S 84) i')) (fun i' : Int => (if i' = r6 then 0 else (S 85) i')) (S 86) = sm_pl (fun i' : Int => (if i' = r6 then 1 else (S 81) i')) (fun i' : Int => (if i' = r6 then 0 else (S 82) i')) (fun i' : Int => (if i' = r6 then 0 else (S 83) i')) (fun i' : Int => (if i' = r6 then 0 else (S 84) i')) (S 85) (S 86) := sm_pl_C (la_newLabel_7 h18_ h25_)
      have e69_ : sm_pl (fun i' : Int => (if i' = r6 then 1 else (S 81) i')) (fun i' : Int => (if i' = r6 then 0 else (S 82) i')) (fun i' : Int => (if i' = r6 then 0 else (S 83) i')) (fun i' : Int => (if i' = r6 then 0 else (S 84) i')) (S 85) (S 86) = sm_pl (fun i' : Int => (if i' = r6 then 1 else (S 81) i')) (fun i' : Int => (if i' = r6 then 0 else (S 82) i')) (fun i' : Int => (if i' = r6 then 0 else (S 83) i')) (S 84) (S 85) (S 86) := sm_pl_B (la_newLabel_7 h18_ h25_)
      have e70_ : sm_pl (fun i' : Int => (if i' = r6 then 1 else (S 81) i')) (fun i' : Int => (if i' = r6 then 0 else (S 82) i')) (fun i' : Int => (if i' = r6 then 0 else (S 83) i')) (S 84) (S 85) (S 86) = sm_pl (fun i' : Int => (if i' = r6 then 1 else (S 81) i')) (fun i' : Int => (if i' = r6 then 0 else (S 82) i')) (S 83) (S 84) (S 85) (S 86) := sm_pl_A (la_newLabel_7 h18_ h25_)
      have e71_ : sm_pl (fun i' : Int => (if i' = r6 then 1 else (S 81) i')) (fun i' : Int => (if i' = r6 then 0 else (S 82) i')) (S 83) (S 84) (S 85) (S 86) = sm_pl (fun i' : Int => (if i' = r6 then 1 else (S 81) i')) (S 82) (S 83) (S 84) (S 85) (S 86) := sm_pl_N (la_newLabel_7 h18_ h25_)
      have e72_ : sm_pl (fun i' : Int => (if i' = r6 then 1 else (S 81) i')) (S 82) (S 83) (S 84) (S 85) (S 86) = sm_pl (S 81) (S 82) (S 83) (S 84) (S 85) (S 86) := sm_pl_T (la_newLabel_7 h18_ h25_)
      exact (la_newLabel_8 e67_ e68_ e69_ e70_ e71_ e72_)
    intro h73_
    refine ⟨⟨h4_, ⟨h5_, ⟨h6_, ⟨h7_, ⟨h8_, ⟨h9_, ⟨h10_, ⟨h11_, ⟨h12_, ⟨h13_, ⟨h14_, ⟨h15_, (la_newLabel_9 h5_ h16_ h17_ h18_ h19_ h62_ h73_)⟩⟩⟩⟩⟩⟩⟩⟩⟩⟩⟩⟩, ?_⟩
    intro r76
    intro h74_
    rintro ⟨h75_, h76_⟩
    obtain ⟨h77_, h78_⟩ := (h75_ la_newLabel_1)
    refine ⟨(la_newLabel_10 h77_ h78_), ?_⟩
    intro g78
    intro h79_
    have h80_ := (h79_ (la_newLabel_11 h77_))
    intro r88
    intro h81_
    rintro ⟨h82_, h83_⟩
    obtain ⟨h84_, h85_⟩ := (h82_ la_newLabel_1)
    refine ⟨(la_newLabel_10 h84_ h85_), ?_⟩
    intro g90
    rintro ⟨h86_, ⟨h87_, h88_⟩⟩
    have h89_ := (h86_ la_newLabel_12)
    have h90_ := (h87_ (la_newLabel_11 h84_))
    have h91_ := (h89_ la_newLabel_14)
    refine ⟨(la_newLabel_15 h7_ h62_ h73_), ?_⟩
    refine ⟨(la_newLabel_16 h62_ h64_ h73_ h80_ h90_), ?_⟩
    exact la_newLabel_17
  intro h92_
  refine ⟨?_, ?_⟩
  · skip
    intro h93_
    intro r99
    intro h94_
    refine ⟨(la_newLabel_5 h6_), ?_⟩
    intro l4_109
    intro h95_
    intro g108
    rintro ⟨h96_, ⟨h97_, h98_⟩⟩
    refine ⟨(la_newLabel_6 h97_), ?_⟩
    intro h99_
    refine ⟨?_, ?_⟩
    · skip
      intro h100_
      refine ⟨h98_, ?_⟩
      have e101_ : sm_pl (fun i' : Int => (if i' = r6 then 1 else (S 81) i')) (fun i' : Int => (if i' = r6 then 1 else (S 82) i')) (fun i' : Int => (if i' = r6 then r99 else (S 83) i')) (fun i' : Int => (if i' = r6 then 0 else (S 84) i')) (fun i' : Int => (if i' = r6 then 0 else (S 85) i')) (fun i' : Int => (if i' = r6 then 0 else (S 86) i')) = sm_pl (fun i' : Int => (if i' = r6 then 1 else (S 81) i')) (fun i' : Int => (if i' = r6 then 1 else (S 82) i')) (fun i' : Int => (if i' = r6 then r99 else (S 83) i')) (fun i' : Int => (if i' = r6 then 0 else (S 84) i')) (fun i' : Int => (if i' = r6 then 0 else (S 85) i')) (S 86) := sm_pl_D (la_newLabel_7 h18_ h25_)
      have e102_ : sm_pl (fun i' : Int => (if i' = r6 then 1 else (S 81) i')) (fun i' : Int => (if i' = r6 then 1 else (S 82) i')) (fun i' : Int => (if i' = r6 then r99 else (S 83) i')) (fun i' : Int => (if i' = r6 then 0 else (S 84) i')) (fun i' : Int => (if i' = r6 then 0 else (S 85) i')) (S 86) = sm_pl (fun i' : Int => (if i' = r6 then 1 else (S 81) i')) (fun i' : Int => (if i' = r6 then 1 else (S 82) i')) (fun i' : Int => (if i' = r6 then r99 else (S 83) i')) (fun i' : Int => (if i' = r6 then 0 else (S 84) i')) (S 85) (S 86) := sm_pl_C (la_newLabel_7 h18_ h25_)
      have e103_ : sm_pl (fun i' : Int => (if i' = r6 then 1 else (S 81) i')) (fun i' : Int => (if i' = r6 then 1 else (S 82) i')) (fun i' : Int => (if i' = r6 then r99 else (S 83) i')) (fun i' : Int => (if i' = r6 then 0 else (S 84) i')) (S 85) (S 86) = sm_pl (fun i' : Int => (if i' = r6 then 1 else (S 81) i')) (fun i' : Int => (if i' = r6 then 1 else (S 82) i')) (fun i' : Int => (if i' = r6 then r99 else (S 83) i')) (S 84) (S 85) (S 86) := sm_pl_B (la_newLabel_7 h18_ h25_)
      have e104_ : sm_pl (fun i' : Int => (if i' = r6 then 1 else (S 81) i')) (fun i' : Int => (if i' = r6 then 1 else (S 82) i')) (fun i' : Int => (if i' = r6 then r99 else (S 83) i')) (S 84) (S 85) (S 86) = sm_pl (fun i' : Int => (if i' = r6 then 1 else (S 81) i')) (fun i' : Int => (if i' = r6 then 1 else (S 82) i')) (S 83) (S 84) (S 85) (S 86) := sm_pl_A (la_newLabel_7 h18_ h25_)
      have e105_ : sm_pl (fun i' : Int => (if i' = r6 then 1 else (S 81) i')) (fun i' : Int => (if i' = r6 then 1 else (S 82) i')) (S 83) (S 84) (S 85) (S 86) = sm_pl (fun i' : Int => (if i' = r6 then 1 else (S 81) i')) (S 82) (S 83) (S 84) (S 85) (S 86) := sm_pl_N (la_newLabel_7 h18_ h25_)
      have e106_ : sm_pl (fun i' : Int => (if i' = r6 then 1 else (S 81) i')) (S 82) (S 83) (S 84) (S 85) (S 86) = sm_pl (S 81) (S 82) (S 83) (S 84) (S 85) (S 86) := sm_pl_T (la_newLabel_7 h18_ h25_)
      exact (la_newLabel_8 e101_ e102_ e103_ e104_ e105_ e106_)
    intro h107_
    refine ⟨⟨h4_, ⟨h5_, ⟨h6_, ⟨h7_, ⟨h8_, ⟨h9_, ⟨h10_, ⟨h11_, ⟨h12_, ⟨h13_, ⟨h14_, ⟨h15_, (la_newLabel_9 h5_ h16_ h17_ h18_ h19_ h96_ h107_)⟩⟩⟩⟩⟩⟩⟩⟩⟩⟩⟩⟩, ?_⟩
    intro r121
    intro h108_
    rintro ⟨h109_, h110_⟩
    obtain ⟨h111_, h112_⟩ := (h109_ la_newLabel_1)
    refine ⟨(la_newLabel_10 h111_ h112_), ?_⟩
    intro g123
    intro h113_
    have h114_ := (h113_ (la_newLabel_11 h111_))
    intro r133
    intro h115_
    rintro ⟨h116_, h117_⟩
    obtain ⟨h118_, h119_⟩ := (h116_ la_newLabel_1)
    refine ⟨(la_newLabel_10 h118_ h119_), ?_⟩
    intro g135
    rintro ⟨h120_, ⟨h121_, h122_⟩⟩
    have h123_ := (h120_ la_newLabel_12)
    have h124_ := (h121_ (la_newLabel_11 h118_))
    have h125_ := (h123_ la_newLabel_14)
    refine ⟨(la_newLabel_15 h7_ h96_ h107_), ?_⟩
    refine ⟨(la_newLabel_16 h96_ h98_ h107_ h114_ h124_), ?_⟩
    exact la_newLabel_17
  intro h126_
  refine ⟨(la_newLabel_5 h6_), ?_⟩
  intro l4_151
  intro h127_
  intro g150
  rintro ⟨h128_, ⟨h129_, h130_⟩⟩
  refine ⟨(la_newLabel_6 h129_), ?_⟩
  intro h131_
  refine ⟨?_, ?_⟩
  · skip
    intro h132_
    refine ⟨h130_, ?_⟩
    have e133_ : sm_pl (fun i' : Int => (if i' = r6 then 1 else (S 81) i')) (fun i' : Int => (if i' = r6 then 1 else (S 82) i')) (fun i' : Int => (if i' = r6 then 0 else (S 83) i')) (fun i' : Int => (if i' = r6 then 0 else (S 84) i')) (fun i' : Int => (if i' = r6 then 0 else (S 85) i')) (fun i' : Int => (if i' = r6 then 0 else (S 86) i')) = sm_pl (fun i' : Int => (if i' = r6 then 1 else (S 81) i')) (fun i' : Int => (if i' = r6 then 1 else (S 82) i')) (fun i' : Int => (if i' = r6 then 0 else (S 83) i')) (fun i' : Int => (if i' = r6 then 0 else (S 84) i')) (fun i' : Int => (if i' = r6 then 0 else (S 85) i')) (S 86) := sm_pl_D (la_newLabel_7 h18_ h25_)
    have e134_ : sm_pl (fun i' : Int => (if i' = r6 then 1 else (S 81) i')) (fun i' : Int => (if i' = r6 then 1 else (S 82) i')) (fun i' : Int => (if i' = r6 then 0 else (S 83) i')) (fun i' : Int => (if i' = r6 then 0 else (S 84) i')) (fun i' : Int => (if i' = r6 then 0 else (S 85) i')) (S 86) = sm_pl (fun i' : Int => (if i' = r6 then 1 else (S 81) i')) (fun i' : Int => (if i' = r6 then 1 else (S 82) i')) (fun i' : Int => (if i' = r6 then 0 else (S 83) i')) (fun i' : Int => (if i' = r6 then 0 else (S 84) i')) (S 85) (S 86) := sm_pl_C (la_newLabel_7 h18_ h25_)
    have e135_ : sm_pl (fun i' : Int => (if i' = r6 then 1 else (S 81) i')) (fun i' : Int => (if i' = r6 then 1 else (S 82) i')) (fun i' : Int => (if i' = r6 then 0 else (S 83) i')) (fun i' : Int => (if i' = r6 then 0 else (S 84) i')) (S 85) (S 86) = sm_pl (fun i' : Int => (if i' = r6 then 1 else (S 81) i')) (fun i' : Int => (if i' = r6 then 1 else (S 82) i')) (fun i' : Int => (if i' = r6 then 0 else (S 83) i')) (S 84) (S 85) (S 86) := sm_pl_B (la_newLabel_7 h18_ h25_)
    have e136_ : sm_pl (fun i' : Int => (if i' = r6 then 1 else (S 81) i')) (fun i' : Int => (if i' = r6 then 1 else (S 82) i')) (fun i' : Int => (if i' = r6 then 0 else (S 83) i')) (S 84) (S 85) (S 86) = sm_pl (fun i' : Int => (if i' = r6 then 1 else (S 81) i')) (fun i' : Int => (if i' = r6 then 1 else (S 82) i')) (S 83) (S 84) (S 85) (S 86) := sm_pl_A (la_newLabel_7 h18_ h25_)
    have e137_ : sm_pl (fun i' : Int => (if i' = r6 then 1 else (S 81) i')) (fun i' : Int => (if i' = r6 then 1 else (S 82) i')) (S 83) (S 84) (S 85) (S 86) = sm_pl (fun i' : Int => (if i' = r6 then 1 else (S 81) i')) (S 82) (S 83) (S 84) (S 85) (S 86) := sm_pl_N (la_newLabel_7 h18_ h25_)
    have e138_ : sm_pl (fun i' : Int => (if i' = r6 then 1 else (S 81) i')) (S 82) (S 83) (S 84) (S 85) (S 86) = sm_pl (S 81) (S 82) (S 83) (S 84) (S 85) (S 86) := sm_pl_T (la_newLabel_7 h18_ h25_)
    exact (la_newLabel_8 e133_ e134_ e135_ e136_ e137_ e138_)
  intro h139_
  refine ⟨⟨h4_, ⟨h5_, ⟨h6_, ⟨h7_, ⟨h8_, ⟨h9_, ⟨h10_, ⟨h11_, ⟨h12_, ⟨h13_, ⟨h14_, ⟨h15_, (la_newLabel_9 h5_ h16_ h17_ h18_ h19_ h128_ h139_)⟩⟩⟩⟩⟩⟩⟩⟩⟩⟩⟩⟩, ?_⟩
  intro r163
  intro h140_
  rintro ⟨h141_, h142_⟩
  obtain ⟨h143_, h144_⟩ := (h141_ la_newLabel_1)
  refine ⟨(la_newLabel_10 h143_ h144_), ?_⟩
  intro g165
  intro h145_
  have h146_ := (h145_ (la_newLabel_11 h143_))
  intro r175
  intro h147_
  rintro ⟨h148_, h149_⟩
  obtain ⟨h150_, h151_⟩ := (h148_ la_newLabel_1)
  refine ⟨(la_newLabel_10 h150_ h151_), ?_⟩
  intro g177
  rintro ⟨h152_, ⟨h153_, h154_⟩⟩
  have h155_ := (h152_ la_newLabel_12)
  have h156_ := (h153_ (la_newLabel_11 h150_))
  have h157_ := (h155_ la_newLabel_14)
  refine ⟨(la_newLabel_15 h7_ h128_ h139_), ?_⟩
  refine ⟨(la_newLabel_16 h128_ h130_ h139_ h146_ h156_), ?_⟩
  exact la_newLabel_17
set_option maxRecDepth 8000 in
set_option maxHeartbeats 2000000 in
theorem t_newLabel : ∀ (p1 : Int) (p2 : Int) (S : sv_S), sm_ok S → sv_R p1 → sv_R p2 → (29 ≤ (S 1071 0) ∧ (S 1071 0) ≤ 127 ∧ 31 ≤ (S 1008 0) ∧ (S 1008 0) ≤ 90 ∧ 1 ≤ (S 1032 0) ∧ (S 1032 0) ≤ 11 ∧ 0 ≤ (S 1055 0) ∧ (S 1055 0) ≤ 19 ∧ (S 1071 0) = 29 + 6 * ((S 1032 0) - 1) + 2 * (S 1055 0) ∧ 0 ≤ (S 1046 0) ∧ (S 1046 0) + 2 * (S 1032 0) ≤ 500 ∧ sm_PD (S 1046 0) (S 1032 0) (S 1071 0) (S 1008 0) ∧ 0 ≤ (S 1071 0) * ((S 1008 0) + 1) ∧ (S 1071 0) * ((S 1008 0) + 1) ≤ 11557 ∧ 0 ≤ p1 ∧ p1 < (S 1071 0) ∧ -1 ≤ p2 ∧ p2 ≤ 63) → sv_T sm_XS sm_cs sm_L sm_sh 2 (q_newLabel p1 p2 S) 252 0 (lv_args 0 [.ref 0, sv_I p1, sv_I p2]) [] S := by
  intro p1 p2 S hok hp1 hp2 hpre
  have h := f_newLabel p1 p2 S hok hp1 hp2 hpre
  have hM := sm_h252
  show sv_T sm_XS sm_cs sm_L sm_sh 2 (q_newLabel p1 p2 S) 252 0 [(0, .ref 0), (1, sv_I p1), (2, sv_I p2)] [] S
  refine sv_aload_n hM dX12_newLabel_0 rfl rfl ?_
  refine sv_sipush (d := (639 : Int)) hM dX12_newLabel_1 rfl rfl ?_
  refine sv_iload_n hM dX12_newLabel_4 rfl rfl ?_
  obtain ⟨o1, h⟩ := h
  refine sv_callV hM dX12_newLabel_5 sm_iv_1101 (by decide) (sm_a0 _) rfl rfl (Nat.le_of_ble_eq_true rfl) sm_h226 (Nat.le_of_ble_eq_true rfl) (Nat.le_of_ble_eq_true rfl) (F' := 1) (Nat.le_of_ble_eq_true rfl) rfl (t_of (639 : Int) p1 S hok (⟨by decide, by decide⟩ : sv_R (639 : Int)) hp1 o1) (fun v S1 hq => ?_)
  obtain ⟨r6, rfl, hr6, ok3, md4, hpo5⟩ := hq
  obtain rfl : S = S1 := (funext fun j => md4 j (by intro q; cases q)).symm
  show sv_T sm_XS sm_cs sm_L sm_sh 2 (q_newLabel p1 p2 S) 252 8 [(0, .ref 0), (1, sv_I p1), (2, sv_I p2)] [sv_I r6] S
  have h := h r6 hr6 hpo5
  refine sv_istore_n hM dX12_newLabel_8 (by decide) rfl ?_
  show sv_T sm_XS sm_cs sm_L sm_sh 2 (q_newLabel p1 p2 S) 252 9 [(0, .ref 0), (1, sv_I p1), (2, sv_I p2), (3, sv_I r6)] [] S
  refine sv_aload_n hM dX12_newLabel_9 rfl rfl ?_
  refine sv_getA hM dX12_newLabel_10 sm_fl_256 (sm_a0 _) sm_k133 rfl ?_
  refine sv_iload_n hM dX12_newLabel_13 rfl rfl ?_
  refine sv_iconst (d := (1 : Int)) hM dX12_newLabel_14 rfl rfl ?_
  obtain ⟨o7, h⟩ := h
  refine sv_zast sm_X hM dX12_newLabel_15 (sm_a81 _) (by decide) o7.1 o7.2 (sv_nnZ (⟨by decide, by decide⟩ : 0 ≤ (1 : Int) ∧ (1 : Int) ≤ 1)) rfl ?_
  have ok8 : sm_ok (sv_up S 81 r6 (1 : Int)) := sm_upZ ok3 sm_r81 (⟨by decide, by decide⟩ : 0 ≤ (1 : Int) ∧ (1 : Int) ≤ 1)
  have md9 : sv_mod [68, 69, 70, 81, 82, 83, 84, 85, 86] S (sv_up S 81 r6 (1 : Int)) := sv_mod.up sv_mod.rf (by decide)
  refine sv_aload_n hM dX12_newLabel_16 rfl rfl ?_
  refine sv_getA hM dX12_newLabel_17 sm_fl_259 (sm_a0 _) sm_k134 rfl ?_
  refine sv_iload_n hM dX12_newLabel_20 rfl rfl ?_
  refine sv_iload_n hM dX12_newLabel_21 rfl rfl ?_
  refine sv_iconst (d := (-1 : Int)) hM dX12_newLabel_22 rfl rfl ?_
  refine sv_icmp_ne hM dX12_newLabel_23 hp2 (⟨by decide, by decide⟩ : sv_R (-1 : Int)) (t := 30) rfl rfl (fun hc => ?_) (fun hc => ?_)
  · have h := h.1 (hc)
    refine sv_iconst (d := (0 : Int)) hM dX12_newLabel_30 rfl rfl ?_
    refine sv_zast sm_X hM dX12_newLabel_31 (sm_a82 _) (by decide) o7.1 o7.2 (sv_nnZ (⟨by decide, by decide⟩ : 0 ≤ (0 : Int) ∧ (0 : Int) ≤ 1)) rfl ?_
    have ok10 : sm_ok (sv_up (sv_up S 81 r6 (1 : Int)) 82 r6 (0 : Int)) := sm_upZ ok8 sm_r82 (⟨by decide, by decide⟩ : 0 ≤ (0 : Int) ∧ (0 : Int) ≤ 1)
    have md11 : sv_mod [68, 69, 70, 81, 82, 83, 84, 85, 86] S (sv_up (sv_up S 81 r6 (1 : Int)) 82 r6 (0 : Int)) := sv_mod.up md9 (by decide)
    refine sv_aload_n hM dX12_newLabel_32 rfl rfl ?_
    refine sv_getA hM dX12_newLabel_33 sm_fl_262 (sm_a0 _) sm_k135 rfl ?_
    refine sv_iload_n hM dX12_newLabel_36 rfl rfl ?_
    refine sv_iload_n hM dX12_newLabel_37 rfl rfl ?_
    refine sv_iconst (d := (-1 : Int)) hM dX12_newLabel_38 rfl rfl ?_
    refine sv_icmp_ne hM dX12_newLabel_39 hp2 (⟨by decide, by decide⟩ : sv_R (-1 : Int)) (t := 46) rfl rfl (fun hc => ?_) (fun hc => ?_)
    · have h := h.1 (hc)
      refine sv_lconst (d := (1 : Int)) hM dX12_newLabel_46 rfl rfl ?_
      refine sv_iload_n hM dX12_newLabel_47 rfl rfl ?_
      refine sv_anyL hM dX12_newLabel_48 rfl rfl (fun r12 hr12 _ => ?_)
      have h := h r12 hr12
      refine sv_last sm_X hM dX12_newLabel_49 (sm_a83 _) (by decide) o7.1 o7.2 rfl ?_
      have ok13 : sm_ok (sv_up (sv_up (sv_up S 81 r6 (1 : Int)) 82 r6 (0 : Int)) 83 r6 r12) := sm_upJ ok10 sm_r83 hr12
      have md14 : sv_mod [68, 69, 70, 81, 82, 83, 84, 85, 86] S (sv_up (sv_up (sv_up S 81 r6 (1 : Int)) 82 r6 (0 : Int)) 83 r6 r12) := sv_mod.up md11 (by decide)
      refine sv_aload_n hM dX12_newLabel_50 rfl rfl ?_
      refine sv_getA hM dX12_newLabel_51 sm_fl_265 (sm_a0 _) sm_k136 rfl ?_
      refine sv_iload_n hM dX12_newLabel_54 rfl rfl ?_
      refine sv_lconst (d := (0 : Int)) hM dX12_newLabel_55 rfl rfl ?_
      refine sv_last sm_X hM dX12_newLabel_56 (sm_a84 _) (by decide) o7.1 o7.2 rfl ?_
      have ok15 : sm_ok (sv_up (sv_up (sv_up (sv_up S 81 r6 (1 : Int)) 82 r6 (0 : Int)) 83 r6 r12) 84 r6 (0 : Int)) := sm_upJ ok13 sm_r84 (⟨by decide, by decide⟩ : sv_RL (0 : Int))
      have md16 : sv_mod [68, 69, 70, 81, 82, 83, 84, 85, 86] S (sv_up (sv_up (sv_up (sv_up S 81 r6 (1 : Int)) 82 r6 (0 : Int)) 83 r6 r12) 84 r6 (0 : Int)) := sv_mod.up md14 (by decide)
      refine sv_aload_n hM dX12_newLabel_57 rfl rfl ?_
      refine sv_getA hM dX12_newLabel_58 sm_fl_268 (sm_a0 _) sm_k137 rfl ?_
      refine sv_iload_n hM dX12_newLabel_61 rfl rfl ?_
      refine sv_lconst (d := (0 : Int)) hM dX12_newLabel_62 rfl rfl ?_
      refine sv_last sm_X hM dX12_newLabel_63 (sm_a85 _) (by decide) o7.1 o7.2 rfl ?_
      have ok17 : sm_ok (sv_up (sv_up (sv_up (sv_up (sv_up S 81 r6 (1 : Int)) 82 r6 (0 : Int)) 83 r6 r12) 84 r6 (0 : Int)) 85 r6 (0 : Int)) := sm_upJ ok15 sm_r85 (⟨by decide, by decide⟩ : sv_RL (0 : Int))
      have md18 : sv_mod [68, 69, 70, 81, 82, 83, 84, 85, 86] S (sv_up (sv_up (sv_up (sv_up (sv_up S 81 r6 (1 : Int)) 82 r6 (0 : Int)) 83 r6 r12) 84 r6 (0 : Int)) 85 r6 (0 : Int)) := sv_mod.up md16 (by decide)
      refine sv_aload_n hM dX12_newLabel_64 rfl rfl ?_
      refine sv_getA hM dX12_newLabel_65 sm_fl_271 (sm_a0 _) sm_k138 rfl ?_
      refine sv_iload_n hM dX12_newLabel_68 rfl rfl ?_
      refine sv_lconst (d := (0 : Int)) hM dX12_newLabel_69 rfl rfl ?_
      refine sv_last sm_X hM dX12_newLabel_70 (sm_a86 _) (by decide) o7.1 o7.2 rfl ?_
      have ok19 : sm_ok (sv_up (sv_up (sv_up (sv_up (sv_up (sv_up S 81 r6 (1 : Int)) 82 r6 (0 : Int)) 83 r6 r12) 84 r6 (0 : Int)) 85 r6 (0 : Int)) 86 r6 (0 : Int)) := sm_upJ ok17 sm_r86 (⟨by decide, by decide⟩ : sv_RL (0 : Int))
      have md20 : sv_mod [68, 69, 70, 81, 82, 83, 84, 85, 86] S (sv_up (sv_up (sv_up (sv_up (sv_up (sv_up S 81 r6 (1 : Int)) 82 r6 (0 : Int)) 83 r6 r12) 84 r6 (0 : Int)) 85 r6 (0 : Int)) 86 r6 (0 : Int)) := sv_mod.up md18 (by decide)
      refine sv_iconst (d := (0 : Int)) hM dX12_newLabel_71 rfl rfl ?_
      refine sv_istore hM dX12_newLabel_72 (by decide) rfl ?_
      show sv_T sm_XS sm_cs sm_L sm_sh 2 (q_newLabel p1 p2 S) 252 74 [(0, .ref 0), (1, sv_I p1), (2, sv_I p2), (3, sv_I r6), (4, sv_I (0 : Int))] [] (sv_up (sv_up (sv_up (sv_up (sv_up (sv_up S 81 r6 (1 : Int)) 82 r6 (0 : Int)) 83 r6 r12) 84 r6 (0 : Int)) 85 r6 (0 : Int)) 86 r6 (0 : Int))
      obtain ⟨hin24, h⟩ := h
      have hJ : ∀ a : Int × sv_S, (sv_R a.1 ∧ sm_ok (sv_sts (sv_up (sv_up (sv_up (sv_up (sv_up (sv_up S 81 r6 (1 : Int)) 82 r6 (0 : Int)) 83 r6 r12) 84 r6 (0 : Int)) 85 r6 (0 : Int)) 86 r6 (0 : Int)) [68, 69, 70] a.2) ∧ (0 ≤ a.1 ∧ a.1 ≤ (S 1008 0) + 1 ∧ sm_pt (a.2 68) (a.2 69) (a.2 70) = sm_pt (S 68) (S 69) (S 70))) → sv_T sm_XS sm_cs sm_L sm_sh 2 (q_newLabel p1 p2 S) 252 74 [(0, .ref 0), (1, sv_I p1), (2, sv_I p2), (3, sv_I r6), (4, sv_I a.1)] [] (sv_sts (sv_up (sv_up (sv_up (sv_up (sv_up (sv_up S 81 r6 (1 : Int)) 82 r6 (0 : Int)) 83 r6 r12) 84 r6 (0 : Int)) 85 r6 (0 : Int)) 86 r6 (0 : Int)) [68, 69, 70] a.2) := by
        refine sv_loop (α := Int × sv_S) (fun a => sv_R a.1 ∧ sm_ok (sv_sts (sv_up (sv_up (sv_up (sv_up (sv_up (sv_up S 81 r6 (1 : Int)) 82 r6 (0 : Int)) 83 r6 r12) 84 r6 (0 : Int)) 85 r6 (0 : Int)) 86 r6 (0 : Int)) [68, 69, 70] a.2) ∧ (0 ≤ a.1 ∧ a.1 ≤ (S 1008 0) + 1 ∧ sm_pt (a.2 68) (a.2 69) (a.2 70) = sm_pt (S 68) (S 69) (S 70))) (fun a => (S 1008 0) + 1 - a.1) (fun a => sv_T sm_XS sm_cs sm_L sm_sh 2 (q_newLabel p1 p2 S) 252 74 [(0, .ref 0), (1, sv_I p1), (2, sv_I p2), (3, sv_I r6), (4, sv_I a.1)] [] (sv_sts (sv_up (sv_up (sv_up (sv_up (sv_up (sv_up S 81 r6 (1 : Int)) 82 r6 (0 : Int)) 83 r6 r12) 84 r6 (0 : Int)) 85 r6 (0 : Int)) 86 r6 (0 : Int)) [68, 69, 70] a.2)) (fun a q => (h a.1 q.1 a.2 q.2.2).1) (fun a q ih23 => ?_)
        obtain ⟨l4_22, g21⟩ := a
        obtain ⟨hl4_22, ok25, hin24i⟩ := q
        have h := (h l4_22 hl4_22 g21 hin24i).2
        show sv_T sm_XS sm_cs sm_L sm_sh 2 (q_newLabel p1 p2 S) 252 74 [(0, .ref 0), (1, sv_I p1), (2, sv_I p2), (3, sv_I r6), (4, sv_I l4_22)] [] (sv_sts (sv_up (sv_up (sv_up (sv_up (sv_up (sv_up S 81 r6 (1 : Int)) 82 r6 (0 : Int)) 83 r6 r12) 84 r6 (0 : Int)) 85 r6 (0 : Int)) 86 r6 (0 : Int)) [68, 69, 70] g21)
        have md26 : sv_mod [68, 69, 70, 81, 82, 83, 84, 85, 86] S (sv_sts (sv_up (sv_up (sv_up (sv_up (sv_up (sv_up S 81 r6 (1 : Int)) 82 r6 (0 : Int)) 83 r6 r12) 84 r6 (0 : Int)) 85 r6 (0 : Int)) 86 r6 (0 : Int)) [68, 69, 70] g21) := sv_mod.sts md20 (by decide)
        have md27 : sv_mod [68, 69, 70] (sv_up (sv_up (sv_up (sv_up (sv_up (sv_up S 81 r6 (1 : Int)) 82 r6 (0 : Int)) 83 r6 r12) 84 r6 (0 : Int)) 85 r6 (0 : Int)) 86 r6 (0 : Int)) (sv_sts (sv_up (sv_up (sv_up (sv_up (sv_up (sv_up S 81 r6 (1 : Int)) 82 r6 (0 : Int)) 83 r6 r12) 84 r6 (0 : Int)) 85 r6 (0 : Int)) 86 r6 (0 : Int)) [68, 69, 70] g21) := sv_mod.sts sv_mod.rf (by decide)
        refine sv_iload hM dX12_newLabel_74 rfl rfl ?_
        refine sv_aload_n hM dX12_newLabel_76 rfl rfl ?_
        have k28 : sv_R (S 1008 0) := sm_okI ok25 sm_r1008 0
        have h := h k28
        refine sv_getI hM dX12_newLabel_77 sm_fl_762 (sm_a0 _) sm_k8 rfl (x := (S 1008 0)) rfl ?_
        refine sv_icmp_gt hM dX12_newLabel_80 hl4_22 k28 (t := 122) rfl rfl (fun hc => ?_) (fun hc => ?_)
        · have h := h.1 (hc)
          exact sv_vret hM dX12_newLabel_122 rfl ⟨rfl, ok25, md26, h⟩
        · have h := h.2 (hc)
          refine sv_aload_n hM dX12_newLabel_83 rfl rfl ?_
          refine sv_aload_n hM dX12_newLabel_84 rfl rfl ?_
          refine sv_sipush (d := (639 : Int)) hM dX12_newLabel_85 rfl rfl ?_
          refine sv_iload_n hM dX12_newLabel_88 rfl rfl ?_
          refine sv_iload hM dX12_newLabel_89 rfl rfl ?_
          obtain ⟨o29, h⟩ := h
          refine sv_callV hM dX12_newLabel_91 sm_iv_1163 (by decide) (sm_a0 _) rfl rfl (Nat.le_of_ble_eq_true rfl) sm_h225 (Nat.le_of_ble_eq_true rfl) (Nat.le_of_ble_eq_true rfl) (F' := 1) (Nat.le_of_ble_eq_true rfl) rfl (t_field (639 : Int) p1 l4_22 (sv_sts (sv_up (sv_up (sv_up (sv_up (sv_up (sv_up S 81 r6 (1 : Int)) 82 r6 (0 : Int)) 83 r6 r12) 84 r6 (0 : Int)) 85 r6 (0 : Int)) 86 r6 (0 : Int)) [68, 69, 70] g21) ok25 (⟨by decide, by decide⟩ : sv_R (639 : Int)) hp1 hl4_22 o29) (fun v S1 hq => ?_)
          obtain ⟨r34, rfl, hr34, ok31, md32, hpo33⟩ := hq
          obtain rfl : (sv_sts (sv_up (sv_up (sv_up (sv_up (sv_up (sv_up S 81 r6 (1 : Int)) 82 r6 (0 : Int)) 83 r6 r12) 84 r6 (0 : Int)) 85 r6 (0 : Int)) 86 r6 (0 : Int)) [68, 69, 70] g21) = S1 := (funext fun j => md32 j (by intro q; cases q)).symm
          show sv_T sm_XS sm_cs sm_L sm_sh 2 (q_newLabel p1 p2 S) 252 94 [(0, .ref 0), (1, sv_I p1), (2, sv_I p2), (3, sv_I r6), (4, sv_I l4_22)] [sv_I r34, .ref 0] (sv_sts (sv_up (sv_up (sv_up (sv_up (sv_up (sv_up S 81 r6 (1 : Int)) 82 r6 (0 : Int)) 83 r6 r12) 84 r6 (0 : Int)) 85 r6 (0 : Int)) 86 r6 (0 : Int)) [68, 69, 70] g21)
          have h := h r34 hr34 hpo33
          obtain ⟨o35, h⟩ := h
          refine sv_callV hM dX12_newLabel_94 sm_iv_1066 (by decide) (sm_a0 _) rfl rfl (Nat.le_of_ble_eq_true rfl) sm_h206 (Nat.le_of_ble_eq_true rfl) (Nat.le_of_ble_eq_true rfl) (F' := 0) (Nat.le_of_ble_eq_true rfl) rfl (t_empty r34 (sv_sts (sv_up (sv_up (sv_up (sv_up (sv_up (sv_up S 81 r6 (1 : Int)) 82 r6 (0 : Int)) 83 r6 r12) 84 r6 (0 : Int)) 85 r6 (0 : Int)) 86 r6 (0 : Int)) [68, 69, 70] g21) ok31 hr34 o35) (fun v S1 hq => ?_)
          obtain ⟨rfl, ok37, md38, hpo39⟩ := hq
          obtain ⟨g36, rfl⟩ : ∃ g, S1 = sv_sts (sv_sts (sv_up (sv_up (sv_up (sv_up (sv_up (sv_up S 81 r6 (1 : Int)) 82 r6 (0 : Int)) 83 r6 r12) 84 r6 (0 : Int)) 85 r6 (0 : Int)) 86 r6 (0 : Int)) [68, 69, 70] g21) [68, 69, 70] g := ⟨_, md38.eq⟩
          show sv_T sm_XS sm_cs sm_L sm_sh 2 (q_newLabel p1 p2 S) 252 97 [(0, .ref 0), (1, sv_I p1), (2, sv_I p2), (3, sv_I r6), (4, sv_I l4_22)] [] (sv_sts (sv_sts (sv_up (sv_up (sv_up (sv_up (sv_up (sv_up S 81 r6 (1 : Int)) 82 r6 (0 : Int)) 83 r6 r12) 84 r6 (0 : Int)) 85 r6 (0 : Int)) 86 r6 (0 : Int)) [68, 69, 70] g21) [68, 69, 70] g36)
          have md40 : sv_mod [68, 69, 70, 81, 82, 83, 84, 85, 86] S (sv_sts (sv_sts (sv_up (sv_up (sv_up (sv_up (sv_up (sv_up S 81 r6 (1 : Int)) 82 r6 (0 : Int)) 83 r6 r12) 84 r6 (0 : Int)) 85 r6 (0 : Int)) 86 r6 (0 : Int)) [68, 69, 70] g21) [68, 69, 70] g36) := sv_mod.sts md26 (by decide)
          have md41 : sv_mod [68, 69, 70] (sv_up (sv_up (sv_up (sv_up (sv_up (sv_up S 81 r6 (1 : Int)) 82 r6 (0 : Int)) 83 r6 r12) 84 r6 (0 : Int)) 85 r6 (0 : Int)) 86 r6 (0 : Int)) (sv_sts (sv_sts (sv_up (sv_up (sv_up (sv_up (sv_up (sv_up S 81 r6 (1 : Int)) 82 r6 (0 : Int)) 83 r6 r12) 84 r6 (0 : Int)) 85 r6 (0 : Int)) 86 r6 (0 : Int)) [68, 69, 70] g21) [68, 69, 70] g36) := sv_mod.sts md27 (by decide)
          have h := h g36 hpo39
          refine sv_aload_n hM dX12_newLabel_97 rfl rfl ?_
          refine sv_aload_n hM dX12_newLabel_98 rfl rfl ?_
          refine sv_sipush (d := (639 : Int)) hM dX12_newLabel_99 rfl rfl ?_
          refine sv_iload_n hM dX12_newLabel_102 rfl rfl ?_
          refine sv_iload hM dX12_newLabel_103 rfl rfl ?_
          refine sv_callV hM dX12_newLabel_105 sm_iv_1163 (by decide) (sm_a0 _) rfl rfl (Nat.le_of_ble_eq_true rfl) sm_h225 (Nat.le_of_ble_eq_true rfl) (Nat.le_of_ble_eq_true rfl) (F' := 1) (Nat.le_of_ble_eq_true rfl) rfl (t_field (639 : Int) p1 l4_22 (sv_sts (sv_sts (sv_up (sv_up (sv_up (sv_up (sv_up (sv_up S 81 r6 (1 : Int)) 82 r6 (0 : Int)) 83 r6 r12) 84 r6 (0 : Int)) 85 r6 (0 : Int)) 86 r6 (0 : Int)) [68, 69, 70] g21) [68, 69, 70] g36) ok37 (⟨by decide, by decide⟩ : sv_R (639 : Int)) hp1 hl4_22 o29) (fun v S1 hq => ?_)
          obtain ⟨r46, rfl, hr46, ok43, md44, hpo45⟩ := hq
          obtain rfl : (sv_sts (sv_sts (sv_up (sv_up (sv_up (sv_up (sv_up (sv_up S 81 r6 (1 : Int)) 82 r6 (0 : Int)) 83 r6 r12) 84 r6 (0 : Int)) 85 r6 (0 : Int)) 86 r6 (0 : Int)) [68, 69, 70] g21) [68, 69, 70] g36) = S1 := (funext fun j => md44 j (by intro q; cases q)).symm
          show sv_T sm_XS sm_cs sm_L sm_sh 2 (q_newLabel p1 p2 S) 252 108 [(0, .ref 0), (1, sv_I p1), (2, sv_I p2), (3, sv_I r6), (4, sv_I l4_22)] [sv_I r46, .ref 0] (sv_sts (sv_sts (sv_up (sv_up (sv_up (sv_up (sv_up (sv_up S 81 r6 (1 : Int)) 82 r6 (0 : Int)) 83 r6 r12) 84 r6 (0 : Int)) 85 r6 (0 : Int)) 86 r6 (0 : Int)) [68, 69, 70] g21) [68, 69, 70] g36)
          have h := h r46 hr46 hpo45
          refine sv_sipush (d := (512 : Int)) hM dX12_newLabel_108 rfl rfl ?_
          refine sv_iconst (d := (0 : Int)) hM dX12_newLabel_111 rfl rfl ?_
          refine sv_iconst (d := (0 : Int)) hM dX12_newLabel_112 rfl rfl ?_
          obtain ⟨o47, h⟩ := h
          refine sv_callV hM dX12_newLabel_113 sm_iv_1056 (by decide) (sm_a0 _) rfl rfl (Nat.le_of_ble_eq_true rfl) sm_h205 (Nat.le_of_ble_eq_true rfl) (Nat.le_of_ble_eq_true rfl) (F' := 0) (Nat.le_of_ble_eq_true rfl) rfl (t_write r46 (512 : Int) (0 : Int) (0 : Int) (sv_sts (sv_sts (sv_up (sv_up (sv_up (sv_up (sv_up (sv_up S 81 r6 (1 : Int)) 82 r6 (0 : Int)) 83 r6 r12) 84 r6 (0 : Int)) 85 r6 (0 : Int)) 86 r6 (0 : Int)) [68, 69, 70] g21) [68, 69, 70] g36) ok43 hr46 (⟨by decide, by decide⟩ : sv_R (512 : Int)) (⟨by decide, by decide⟩ : sv_R (0 : Int)) (⟨by decide, by decide⟩ : sv_R (0 : Int)) o47) (fun v S1 hq => ?_)
          obtain ⟨rfl, ok49, md50, hpo51⟩ := hq
          obtain ⟨g48, rfl⟩ : ∃ g, S1 = sv_sts (sv_sts (sv_sts (sv_up (sv_up (sv_up (sv_up (sv_up (sv_up S 81 r6 (1 : Int)) 82 r6 (0 : Int)) 83 r6 r12) 84 r6 (0 : Int)) 85 r6 (0 : Int)) 86 r6 (0 : Int)) [68, 69, 70] g21) [68, 69, 70] g36) [68] g := ⟨_, md50.eq⟩
          show sv_T sm_XS sm_cs sm_L sm_sh 2 (q_newLabel p1 p2 S) 252 116 [(0, .ref 0), (1, sv_I p1), (2, sv_I p2), (3, sv_I r6), (4, sv_I l4_22)] [] (sv_sts (sv_sts (sv_sts (sv_up (sv_up (sv_up (sv_up (sv_up (sv_up S 81 r6 (1 : Int)) 82 r6 (0 : Int)) 83 r6 r12) 84 r6 (0 : Int)) 85 r6 (0 : Int)) 86 r6 (0 : Int)) [68, 69, 70] g21) [68, 69, 70] g36) [68] g48)
          have md52 : sv_mod [68, 69, 70, 81, 82, 83, 84, 85, 86] S (sv_sts (sv_sts (sv_sts (sv_up (sv_up (sv_up (sv_up (sv_up (sv_up S 81 r6 (1 : Int)) 82 r6 (0 : Int)) 83 r6 r12) 84 r6 (0 : Int)) 85 r6 (0 : Int)) 86 r6 (0 : Int)) [68, 69, 70] g21) [68, 69, 70] g36) [68] g48) := sv_mod.sts md40 (by decide)
          have md53 : sv_mod [68, 69, 70] (sv_up (sv_up (sv_up (sv_up (sv_up (sv_up S 81 r6 (1 : Int)) 82 r6 (0 : Int)) 83 r6 r12) 84 r6 (0 : Int)) 85 r6 (0 : Int)) 86 r6 (0 : Int)) (sv_sts (sv_sts (sv_sts (sv_up (sv_up (sv_up (sv_up (sv_up (sv_up S 81 r6 (1 : Int)) 82 r6 (0 : Int)) 83 r6 r12) 84 r6 (0 : Int)) 85 r6 (0 : Int)) 86 r6 (0 : Int)) [68, 69, 70] g21) [68, 69, 70] g36) [68] g48) := sv_mod.sts md41 (by decide)
          have h := h g48 hpo51
          refine sv_iinc (d := (1 : Int)) hM dX12_newLabel_116 rfl (by decide) rfl rfl ?_
          show sv_T sm_XS sm_cs sm_L sm_sh 2 (q_newLabel p1 p2 S) 252 119 [(0, .ref 0), (1, sv_I p1), (2, sv_I p2), (3, sv_I r6), (4, sv_I (l4_22 + (1 : Int)))] [] (sv_sts (sv_sts (sv_sts (sv_up (sv_up (sv_up (sv_up (sv_up (sv_up S 81 r6 (1 : Int)) 82 r6 (0 : Int)) 83 r6 r12) 84 r6 (0 : Int)) 85 r6 (0 : Int)) 86 r6 (0 : Int)) [68, 69, 70] g21) [68, 69, 70] g36) [68] g48)
          refine sv_goto hM dX12_newLabel_119 (pc' := 74) rfl ?_
          obtain ⟨o54, h⟩ := h
          have eS := sv_mod.eq md53
          have hb := ih23 ((l4_22 + (1 : Int)), (sv_sts (sv_sts (sv_sts (sv_up (sv_up (sv_up (sv_up (sv_up (sv_up S 81 r6 (1 : Int)) 82 r6 (0 : Int)) 83 r6 r12) 84 r6 (0 : Int)) 85 r6 (0 : Int)) 86 r6 (0 : Int)) [68, 69, 70] g21) [68, 69, 70] g36) [68] g48)) ⟨o54, (by rw [← eS]; exact ok49), h.1⟩ h.2
          have hb : sv_T sm_XS sm_cs sm_L sm_sh 2 (q_newLabel p1 p2 S) 252 74 [(0, .ref 0), (1, sv_I p1), (2, sv_I p2), (3, sv_I r6), (4, sv_I (l4_22 + (1 : Int)))] [] (sv_sts (sv_sts (sv_sts (sv_up (sv_up (sv_up (sv_up (sv_up (sv_up S 81 r6 (1 : Int)) 82 r6 (0 : Int)) 83 r6 r12) 84 r6 (0 : Int)) 85 r6 (0 : Int)) 86 r6 (0 : Int)) [68, 69, 70] g21) [68, 69, 70] g36) [68] g48) := Eq.mpr (congrArg (fun Z => sv_T sm_XS sm_cs sm_L sm_sh 2 (q_newLabel p1 p2 S) 252 74 [(0, .ref 0), (1, sv_I p1), (2, sv_I p2), (3, sv_I r6), (4, sv_I (l4_22 + (1 : Int)))] [] Z) eS) hb
          exact sv_less (lv := [(0, .ref 0), (1, sv_I p1), (2, sv_I p2), (3, sv_I r6), (4, sv_I (l4_22 + (1 : Int)))]) (sv_Sub_cons rfl (sv_Sub_cons rfl (sv_Sub_cons rfl (sv_Sub_cons rfl (sv_Sub_cons rfl sv_Sub_nil))))) hb
      have eS := sv_mod.eq (sv_mod.rf (l := [68, 69, 70]) (S := (sv_up (sv_up (sv_up (sv_up (sv_up (sv_up S 81 r6 (1 : Int)) 82 r6 (0 : Int)) 83 r6 r12) 84 r6 (0 : Int)) 85 r6 (0 : Int)) 86 r6 (0 : Int))))
      have hb := hJ ((0 : Int), (sv_up (sv_up (sv_up (sv_up (sv_up (sv_up S 81 r6 (1 : Int)) 82 r6 (0 : Int)) 83 r6 r12) 84 r6 (0 : Int)) 85 r6 (0 : Int)) 86 r6 (0 : Int))) ⟨(⟨by decide, by decide⟩ : sv_R (0 : Int)), (by rw [← eS]; exact ok19), hin24⟩
      have hb : sv_T sm_XS sm_cs sm_L sm_sh 2 (q_newLabel p1 p2 S) 252 74 [(0, .ref 0), (1, sv_I p1), (2, sv_I p2), (3, sv_I r6), (4, sv_I (0 : Int))] [] (sv_up (sv_up (sv_up (sv_up (sv_up (sv_up S 81 r6 (1 : Int)) 82 r6 (0 : Int)) 83 r6 r12) 84 r6 (0 : Int)) 85 r6 (0 : Int)) 86 r6 (0 : Int)) := Eq.mpr (congrArg (fun Z => sv_T sm_XS sm_cs sm_L sm_sh 2 (q_newLabel p1 p2 S) 252 74 [(0, .ref 0), (1, sv_I p1), (2, sv_I p2), (3, sv_I r6), (4, sv_I (0 : Int))] [] Z) eS) hb
      exact hb
    · have h := h.2 (hc)
      refine sv_lconst (d := (0 : Int)) hM dX12_newLabel_42 rfl rfl ?_
      refine sv_goto hM dX12_newLabel_43 (pc' := 49) rfl ?_
      refine sv_last sm_X hM dX12_newLabel_49 (sm_a83 _) (by decide) o7.1 o7.2 rfl ?_
      have ok55 : sm_ok (sv_up (sv_up (sv_up S 81 r6 (1 : Int)) 82 r6 (0 : Int)) 83 r6 (0 : Int)) := sm_upJ ok10 sm_r83 (⟨by decide, by decide⟩ : sv_RL (0 : Int))
      have md56 : sv_mod [68, 69, 70, 81, 82, 83, 84, 85, 86] S (sv_up (sv_up (sv_up S 81 r6 (1 : Int)) 82 r6 (0 : Int)) 83 r6 (0 : Int)) := sv_mod.up md11 (by decide)
      refine sv_aload_n hM dX12_newLabel_50 rfl rfl ?_
      refine sv_getA hM dX12_newLabel_51 sm_fl_265 (sm_a0 _) sm_k136 rfl ?_
      refine sv_iload_n hM dX12_newLabel_54 rfl rfl ?_
      refine sv_lconst (d := (0 : Int)) hM dX12_newLabel_55 rfl rfl ?_
      refine sv_last sm_X hM dX12_newLabel_56 (sm_a84 _) (by decide) o7.1 o7.2 rfl ?_
      have ok57 : sm_ok (sv_up (sv_up (sv_up (sv_up S 81 r6 (1 : Int)) 82 r6 (0 : Int)) 83 r6 (0 : Int)) 84 r6 (0 : Int)) := sm_upJ ok55 sm_r84 (⟨by decide, by decide⟩ : sv_RL (0 : Int))
      have md58 : sv_mod [68, 69, 70, 81, 82, 83, 84, 85, 86] S (sv_up (sv_up (sv_up (sv_up S 81 r6 (1 : Int)) 82 r6 (0 : Int)) 83 r6 (0 : Int)) 84 r6 (0 : Int)) := sv_mod.up md56 (by decide)
      refine sv_aload_n hM dX12_newLabel_57 rfl rfl ?_
      refine sv_getA hM dX12_newLabel_58 sm_fl_268 (sm_a0 _) sm_k137 rfl ?_
      refine sv_iload_n hM dX12_newLabel_61 rfl rfl ?_
      refine sv_lconst (d := (0 : Int)) hM dX12_newLabel_62 rfl rfl ?_
      refine sv_last sm_X hM dX12_newLabel_63 (sm_a85 _) (by decide) o7.1 o7.2 rfl ?_
      have ok59 : sm_ok (sv_up (sv_up (sv_up (sv_up (sv_up S 81 r6 (1 : Int)) 82 r6 (0 : Int)) 83 r6 (0 : Int)) 84 r6 (0 : Int)) 85 r6 (0 : Int)) := sm_upJ ok57 sm_r85 (⟨by decide, by decide⟩ : sv_RL (0 : Int))
      have md60 : sv_mod [68, 69, 70, 81, 82, 83, 84, 85, 86] S (sv_up (sv_up (sv_up (sv_up (sv_up S 81 r6 (1 : Int)) 82 r6 (0 : Int)) 83 r6 (0 : Int)) 84 r6 (0 : Int)) 85 r6 (0 : Int)) := sv_mod.up md58 (by decide)
      refine sv_aload_n hM dX12_newLabel_64 rfl rfl ?_
      refine sv_getA hM dX12_newLabel_65 sm_fl_271 (sm_a0 _) sm_k138 rfl ?_
      refine sv_iload_n hM dX12_newLabel_68 rfl rfl ?_
      refine sv_lconst (d := (0 : Int)) hM dX12_newLabel_69 rfl rfl ?_
      refine sv_last sm_X hM dX12_newLabel_70 (sm_a86 _) (by decide) o7.1 o7.2 rfl ?_
      have ok61 : sm_ok (sv_up (sv_up (sv_up (sv_up (sv_up (sv_up S 81 r6 (1 : Int)) 82 r6 (0 : Int)) 83 r6 (0 : Int)) 84 r6 (0 : Int)) 85 r6 (0 : Int)) 86 r6 (0 : Int)) := sm_upJ ok59 sm_r86 (⟨by decide, by decide⟩ : sv_RL (0 : Int))
      have md62 : sv_mod [68, 69, 70, 81, 82, 83, 84, 85, 86] S (sv_up (sv_up (sv_up (sv_up (sv_up (sv_up S 81 r6 (1 : Int)) 82 r6 (0 : Int)) 83 r6 (0 : Int)) 84 r6 (0 : Int)) 85 r6 (0 : Int)) 86 r6 (0 : Int)) := sv_mod.up md60 (by decide)
      refine sv_iconst (d := (0 : Int)) hM dX12_newLabel_71 rfl rfl ?_
      refine sv_istore hM dX12_newLabel_72 (by decide) rfl ?_
      show sv_T sm_XS sm_cs sm_L sm_sh 2 (q_newLabel p1 p2 S) 252 74 [(0, .ref 0), (1, sv_I p1), (2, sv_I p2), (3, sv_I r6), (4, sv_I (0 : Int))] [] (sv_up (sv_up (sv_up (sv_up (sv_up (sv_up S 81 r6 (1 : Int)) 82 r6 (0 : Int)) 83 r6 (0 : Int)) 84 r6 (0 : Int)) 85 r6 (0 : Int)) 86 r6 (0 : Int))
      obtain ⟨hin66, h⟩ := h
      have hJ : ∀ a : Int × sv_S, (sv_R a.1 ∧ sm_ok (sv_sts (sv_up (sv_up (sv_up (sv_up (sv_up (sv_up S 81 r6 (1 : Int)) 82 r6 (0 : Int)) 83 r6 (0 : Int)) 84 r6 (0 : Int)) 85 r6 (0 : Int)) 86 r6 (0 : Int)) [68, 69, 70] a.2) ∧ (0 ≤ a.1 ∧ a.1 ≤ (S 1008 0) + 1 ∧ sm_pt (a.2 68) (a.2 69) (a.2 70) = sm_pt (S 68) (S 69) (S 70))) → sv_T sm_XS sm_cs sm_L sm_sh 2 (q_newLabel p1 p2 S) 252 74 [(0, .ref 0), (1, sv_I p1), (2, sv_I p2), (3, sv_I r6), (4, sv_I a.1)] [] (sv_sts (sv_up (sv_up (sv_up (sv_up (sv_up (sv_up S 81 r6 (1 : Int)) 82 r6 (0 : Int)) 83 r6 (0 : Int)) 84 r6 (0 : Int)) 85 r6 (0 : Int)) 86 r6 (0 : Int)) [68, 69, 70] a.2) := by
        refine sv_loop (α := Int × sv_S) (fun a => sv_R a.1 ∧ sm_ok (sv_sts (sv_up (sv_up (sv_up (sv_up (sv_up (sv_up S 81 r6 (1 : Int)) 82 r6 (0 : Int)) 83 r6 (0 : Int)) 84 r6 (0 : Int)) 85 r6 (0 : Int)) 86 r6 (0 : Int)) [68, 69, 70] a.2) ∧ (0 ≤ a.1 ∧ a.1 ≤ (S 1008 0) + 1 ∧ sm_pt (a.2 68) (a.2 69) (a.2 70) = sm_pt (S 68) (S 69) (S 70))) (fun a => (S 1008 0) + 1 - a.1) (fun a => sv_T sm_XS sm_cs sm_L sm_sh 2 (q_newLabel p1 p2 S) 252 74 [(0, .ref 0), (1, sv_I p1), (2, sv_I p2), (3, sv_I r6), (4, sv_I a.1)] [] (sv_sts (sv_up (sv_up (sv_up (sv_up (sv_up (sv_up S 81 r6 (1 : Int)) 82 r6 (0 : Int)) 83 r6 (0 : Int)) 84 r6 (0 : Int)) 85 r6 (0 : Int)) 86 r6 (0 : Int)) [68, 69, 70] a.2)) (fun a q => (h a.1 q.1 a.2 q.2.2).1) (fun a q ih65 => ?_)
        obtain ⟨l4_64, g63⟩ := a
        obtain ⟨hl4_64, ok67, hin66i⟩ := q
        have h := (h l4_64 hl4_64 g63 hin66i).2
        show sv_T sm_XS sm_cs sm_L sm_sh 2 (q_newLabel p1 p2 S) 252 74 [(0, .ref 0), (1, sv_I p1), (2, sv_I p2), (3, sv_I r6), (4, sv_I l4_64)] [] (sv_sts (sv_up (sv_up (sv_up (sv_up (sv_up (sv_up S 81 r6 (1 : Int)) 82 r6 (0 : Int)) 83 r6 (0 : Int)) 84 r6 (0 : Int)) 85 r6 (0 : Int)) 86 r6 (0 : Int)) [68, 69, 70] g63)
        have md68 : sv_mod [68, 69, 70, 81, 82, 83, 84, 85, 86] S (sv_sts (sv_up (sv_up (sv_up (sv_up (sv_up (sv_up S 81 r6 (1 : Int)) 82 r6 (0 : Int)) 83 r6 (0 : Int)) 84 r6 (0 : Int)) 85 r6 (0 : Int)) 86 r6 (0 : Int)) [68, 69, 70] g63) := sv_mod.sts md62 (by decide)
        have md69 : sv_mod [68, 69, 70] (sv_up (sv_up (sv_up (sv_up (sv_up (sv_up S 81 r6 (1 : Int)) 82 r6 (0 : Int)) 83 r6 (0 : Int)) 84 r6 (0 : Int)) 85 r6 (0 : Int)) 86 r6 (0 : Int)) (sv_sts (sv_up (sv_up (sv_up (sv_up (sv_up (sv_up S 81 r6 (1 : Int)) 82 r6 (0 : Int)) 83 r6 (0 : Int)) 84 r6 (0 : Int)) 85 r6 (0 : Int)) 86 r6 (0 : Int)) [68, 69, 70] g63) := sv_mod.sts sv_mod.rf (by decide)
        refine sv_iload hM dX12_newLabel_74 rfl rfl ?_
        refine sv_aload_n hM dX12_newLabel_76 rfl rfl ?_
        have k70 : sv_R (S 1008 0) := sm_okI ok67 sm_r1008 0
        have h := h k70
        refine sv_getI hM dX12_newLabel_77 sm_fl_762 (sm_a0 _) sm_k8 rfl (x := (S 1008 0)) rfl ?_
        refine sv_icmp_gt hM dX12_newLabel_80 hl4_64 k70 (t := 122) rfl rfl (fun hc => ?_) (fun hc => ?_)
        · have h := h.1 (hc)
          exact sv_vret hM dX12_newLabel_122 rfl ⟨rfl, ok67, md68, h⟩
        · have h := h.2 (hc)
          refine sv_aload_n hM dX12_newLabel_83 rfl rfl ?_
          refine sv_aload_n hM dX12_newLabel_84 rfl rfl ?_
          refine sv_sipush (d := (639 : Int)) hM dX12_newLabel_85 rfl rfl ?_
          refine sv_iload_n hM dX12_newLabel_88 rfl rfl ?_
          refine sv_iload hM dX12_newLabel_89 rfl rfl ?_
          obtain ⟨o71, h⟩ := h
          refine sv_callV hM dX12_newLabel_91 sm_iv_1163 (by decide) (sm_a0 _) rfl rfl (Nat.le_of_ble_eq_true rfl) sm_h225 (Nat.le_of_ble_eq_true rfl) (Nat.le_of_ble_eq_true rfl) (F' := 1) (Nat.le_of_ble_eq_true rfl) rfl (t_field (639 : Int) p1 l4_64 (sv_sts (sv_up (sv_up (sv_up (sv_up (sv_up (sv_up S 81 r6 (1 : Int)) 82 r6 (0 : Int)) 83 r6 (0 : Int)) 84 r6 (0 : Int)) 85 r6 (0 : Int)) 86 r6 (0 : Int)) [68, 69, 70] g63) ok67 (⟨by decide, by decide⟩ : sv_R (639 : Int)) hp1 hl4_64 o71) (fun v S1 hq => ?_)
          obtain ⟨r76, rfl, hr76, ok73, md74, hpo75⟩ := hq
          obtain rfl : (sv_sts (sv_up (sv_up (sv_up (sv_up (sv_up (sv_up S 81 r6 (1 : Int)) 82 r6 (0 : Int)) 83 r6 (0 : Int)) 84 r6 (0 : Int)) 85 r6 (0 : Int)) 86 r6 (0 : Int)) [68, 69, 70] g63) = S1 := (funext fun j => md74 j (by intro q; cases q)).symm
          show sv_T sm_XS sm_cs sm_L sm_sh 2 (q_newLabel p1 p2 S) 252 94 [(0, .ref 0), (1, sv_I p1), (2, sv_I p2), (3, sv_I r6), (4, sv_I l4_64)] [sv_I r76, .ref 0] (sv_sts (sv_up (sv_up (sv_up (sv_up (sv_up (sv_up S 81 r6 (1 : Int)) 82 r6 (0 : Int)) 83 r6 (0 : Int)) 84 r6 (0 : Int)) 85 r6 (0 : Int)) 86 r6 (0 : Int)) [68, 69, 70] g63)
          have h := h r76 hr76 hpo75
          obtain ⟨o77, h⟩ := h
          refine sv_callV hM dX12_newLabel_94 sm_iv_1066 (by decide) (sm_a0 _) rfl rfl (Nat.le_of_ble_eq_true rfl) sm_h206 (Nat.le_of_ble_eq_true rfl) (Nat.le_of_ble_eq_true rfl) (F' := 0) (Nat.le_of_ble_eq_true rfl) rfl (t_empty r76 (sv_sts (sv_up (sv_up (sv_up (sv_up (sv_up (sv_up S 81 r6 (1 : Int)) 82 r6 (0 : Int)) 83 r6 (0 : Int)) 84 r6 (0 : Int)) 85 r6 (0 : Int)) 86 r6 (0 : Int)) [68, 69, 70] g63) ok73 hr76 o77) (fun v S1 hq => ?_)
          obtain ⟨rfl, ok79, md80, hpo81⟩ := hq
          obtain ⟨g78, rfl⟩ : ∃ g, S1 = sv_sts (sv_sts (sv_up (sv_up (sv_up (sv_up (sv_up (sv_up S 81 r6 (1 : Int)) 82 r6 (0 : Int)) 83 r6 (0 : Int)) 84 r6 (0 : Int)) 85 r6 (0 : Int)) 86 r6 (0 : Int)) [68, 69, 70] g63) [68, 69, 70] g := ⟨_, md80.eq⟩
          show sv_T sm_XS sm_cs sm_L sm_sh 2 (q_newLabel p1 p2 S) 252 97 [(0, .ref 0), (1, sv_I p1), (2, sv_I p2), (3, sv_I r6), (4, sv_I l4_64)] [] (sv_sts (sv_sts (sv_up (sv_up (sv_up (sv_up (sv_up (sv_up S 81 r6 (1 : Int)) 82 r6 (0 : Int)) 83 r6 (0 : Int)) 84 r6 (0 : Int)) 85 r6 (0 : Int)) 86 r6 (0 : Int)) [68, 69, 70] g63) [68, 69, 70] g78)
          have md82 : sv_mod [68, 69, 70, 81, 82, 83, 84, 85, 86] S (sv_sts (sv_sts (sv_up (sv_up (sv_up (sv_up (sv_up (sv_up S 81 r6 (1 : Int)) 82 r6 (0 : Int)) 83 r6 (0 : Int)) 84 r6 (0 : Int)) 85 r6 (0 : Int)) 86 r6 (0 : Int)) [68, 69, 70] g63) [68, 69, 70] g78) := sv_mod.sts md68 (by decide)
          have md83 : sv_mod [68, 69, 70] (sv_up (sv_up (sv_up (sv_up (sv_up (sv_up S 81 r6 (1 : Int)) 82 r6 (0 : Int)) 83 r6 (0 : Int)) 84 r6 (0 : Int)) 85 r6 (0 : Int)) 86 r6 (0 : Int)) (sv_sts (sv_sts (sv_up (sv_up (sv_up (sv_up (sv_up (sv_up S 81 r6 (1 : Int)) 82 r6 (0 : Int)) 83 r6 (0 : Int)) 84 r6 (0 : Int)) 85 r6 (0 : Int)) 86 r6 (0 : Int)) [68, 69, 70] g63) [68, 69, 70] g78) := sv_mod.sts md69 (by decide)
          have h := h g78 hpo81
          refine sv_aload_n hM dX12_newLabel_97 rfl rfl ?_
          refine sv_aload_n hM dX12_newLabel_98 rfl rfl ?_
          refine sv_sipush (d := (639 : Int)) hM dX12_newLabel_99 rfl rfl ?_
          refine sv_iload_n hM dX12_newLabel_102 rfl rfl ?_
          refine sv_iload hM dX12_newLabel_103 rfl rfl ?_
          refine sv_callV hM dX12_newLabel_105 sm_iv_1163 (by decide) (sm_a0 _) rfl rfl (Nat.le_of_ble_eq_true rfl) sm_h225 (Nat.le_of_ble_eq_true rfl) (Nat.le_of_ble_eq_true rfl) (F' := 1) (Nat.le_of_ble_eq_true rfl) rfl (t_field (639 : Int) p1 l4_64 (sv_sts (sv_sts (sv_up (sv_up (sv_up (sv_up (sv_up (sv_up S 81 r6 (1 : Int)) 82 r6 (0 : Int)) 83 r6 (0 : Int)) 84 r6 (0 : Int)) 85 r6 (0 : Int)) 86 r6 (0 : Int)) [68, 69, 70] g63) [68, 69, 70] g78) ok79 (⟨by decide, by decide⟩ : sv_R (639 : Int)) hp1 hl4_64 o71) (fun v S1 hq => ?_)
          obtain ⟨r88, rfl, hr88, ok85, md86, hpo87⟩ := hq
          obtain rfl : (sv_sts (sv_sts (sv_up (sv_up (sv_up (sv_up (sv_up (sv_up S 81 r6 (1 : Int)) 82 r6 (0 : Int)) 83 r6 (0 : Int)) 84 r6 (0 : Int)) 85 r6 (0 : Int)) 86 r6 (0 : Int)) [68, 69, 70] g63) [68, 69, 70] g78) = S1 := (funext fun j => md86 j (by intro q; cases q)).symm
          show sv_T sm_XS sm_cs sm_L sm_sh 2 (q_newLabel p1 p2 S) 252 108 [(0, .ref 0), (1, sv_I p1), (2, sv_I p2), (3, sv_I r6), (4, sv_I l4_64)] [sv_I r88, .ref 0] (sv_sts (sv_sts (sv_up (sv_up (sv_up (sv_up (sv_up (sv_up S 81 r6 (1 : Int)) 82 r6 (0 : Int)) 83 r6 (0 : Int)) 84 r6 (0 : Int)) 85 r6 (0 : Int)) 86 r6 (0 : Int)) [68, 69, 70] g63) [68, 69, 70] g78)
          have h := h r88 hr88 hpo87
          refine sv_sipush (d := (512 : Int)) hM dX12_newLabel_108 rfl rfl ?_
          refine sv_iconst (d := (0 : Int)) hM dX12_newLabel_111 rfl rfl ?_
          refine sv_iconst (d := (0 : Int)) hM dX12_newLabel_112 rfl rfl ?_
          obtain ⟨o89, h⟩ := h
          refine sv_callV hM dX12_newLabel_113 sm_iv_1056 (by decide) (sm_a0 _) rfl rfl (Nat.le_of_ble_eq_true rfl) sm_h205 (Nat.le_of_ble_eq_true rfl) (Nat.le_of_ble_eq_true rfl) (F' := 0) (Nat.le_of_ble_eq_true rfl) rfl (t_write r88 (512 : Int) (0 : Int) (0 : Int) (sv_sts (sv_sts (sv_up (sv_up (sv_up (sv_up (sv_up (sv_up S 81 r6 (1 : Int)) 82 r6 (0 : Int)) 83 r6 (0 : Int)) 84 r6 (0 : Int)) 85 r6 (0 : Int)) 86 r6 (0 : Int)) [68, 69, 70] g63) [68, 69, 70] g78) ok85 hr88 (⟨by decide, by decide⟩ : sv_R (512 : Int)) (⟨by decide, by decide⟩ : sv_R (0 : Int)) (⟨by decide, by decide⟩ : sv_R (0 : Int)) o89) (fun v S1 hq => ?_)
          obtain ⟨rfl, ok91, md92, hpo93⟩ := hq
          obtain ⟨g90, rfl⟩ : ∃ g, S1 = sv_sts (sv_sts (sv_sts (sv_up (sv_up (sv_up (sv_up (sv_up (sv_up S 81 r6 (1 : Int)) 82 r6 (0 : Int)) 83 r6 (0 : Int)) 84 r6 (0 : Int)) 85 r6 (0 : Int)) 86 r6 (0 : Int)) [68, 69, 70] g63) [68, 69, 70] g78) [68] g := ⟨_, md92.eq⟩
          show sv_T sm_XS sm_cs sm_L sm_sh 2 (q_newLabel p1 p2 S) 252 116 [(0, .ref 0), (1, sv_I p1), (2, sv_I p2), (3, sv_I r6), (4, sv_I l4_64)] [] (sv_sts (sv_sts (sv_sts (sv_up (sv_up (sv_up (sv_up (sv_up (sv_up S 81 r6 (1 : Int)) 82 r6 (0 : Int)) 83 r6 (0 : Int)) 84 r6 (0 : Int)) 85 r6 (0 : Int)) 86 r6 (0 : Int)) [68, 69, 70] g63) [68, 69, 70] g78) [68] g90)
          have md94 : sv_mod [68, 69, 70, 81, 82, 83, 84, 85, 86] S (sv_sts (sv_sts (sv_sts (sv_up (sv_up (sv_up (sv_up (sv_up (sv_up S 81 r6 (1 : Int)) 82 r6 (0 : Int)) 83 r6 (0 : Int)) 84 r6 (0 : Int)) 85 r6 (0 : Int)) 86 r6 (0 : Int)) [68, 69, 70] g63) [68, 69, 70] g78) [68] g90) := sv_mod.sts md82 (by decide)
          have md95 : sv_mod [68, 69, 70] (sv_up (sv_up (sv_up (sv_up (sv_up (sv_up S 81 r6 (1 : Int)) 82 r6 (0 : Int)) 83 r6 (0 : Int)) 84 r6 (0 : Int)) 85 r6 (0 : Int)) 86 r6 (0 : Int)) (sv_sts (sv_sts (sv_sts (sv_up (sv_up (sv_up (sv_up (sv_up (sv_up S 81 r6 (1 : Int)) 82 r6 (0 : Int)) 83 r6 (0 : Int)) 84 r6 (0 : Int)) 85 r6 (0 : Int)) 86 r6 (0 : Int)) [68, 69, 70] g63) [68, 69, 70] g78) [68] g90) := sv_mod.sts md83 (by decide)
          have h := h g90 hpo93
          refine sv_iinc (d := (1 : Int)) hM dX12_newLabel_116 rfl (by decide) rfl rfl ?_
          show sv_T sm_XS sm_cs sm_L sm_sh 2 (q_newLabel p1 p2 S) 252 119 [(0, .ref 0), (1, sv_I p1), (2, sv_I p2), (3, sv_I r6), (4, sv_I (l4_64 + (1 : Int)))] [] (sv_sts (sv_sts (sv_sts (sv_up (sv_up (sv_up (sv_up (sv_up (sv_up S 81 r6 (1 : Int)) 82 r6 (0 : Int)) 83 r6 (0 : Int)) 84 r6 (0 : Int)) 85 r6 (0 : Int)) 86 r6 (0 : Int)) [68, 69, 70] g63) [68, 69, 70] g78) [68] g90)
          refine sv_goto hM dX12_newLabel_119 (pc' := 74) rfl ?_
          obtain ⟨o96, h⟩ := h
          have eS := sv_mod.eq md95
          have hb := ih65 ((l4_64 + (1 : Int)), (sv_sts (sv_sts (sv_sts (sv_up (sv_up (sv_up (sv_up (sv_up (sv_up S 81 r6 (1 : Int)) 82 r6 (0 : Int)) 83 r6 (0 : Int)) 84 r6 (0 : Int)) 85 r6 (0 : Int)) 86 r6 (0 : Int)) [68, 69, 70] g63) [68, 69, 70] g78) [68] g90)) ⟨o96, (by rw [← eS]; exact ok91), h.1⟩ h.2
          have hb : sv_T sm_XS sm_cs sm_L sm_sh 2 (q_newLabel p1 p2 S) 252 74 [(0, .ref 0), (1, sv_I p1), (2, sv_I p2), (3, sv_I r6), (4, sv_I (l4_64 + (1 : Int)))] [] (sv_sts (sv_sts (sv_sts (sv_up (sv_up (sv_up (sv_up (sv_up (sv_up S 81 r6 (1 : Int)) 82 r6 (0 : Int)) 83 r6 (0 : Int)) 84 r6 (0 : Int)) 85 r6 (0 : Int)) 86 r6 (0 : Int)) [68, 69, 70] g63) [68, 69, 70] g78) [68] g90) := Eq.mpr (congrArg (fun Z => sv_T sm_XS sm_cs sm_L sm_sh 2 (q_newLabel p1 p2 S) 252 74 [(0, .ref 0), (1, sv_I p1), (2, sv_I p2), (3, sv_I r6), (4, sv_I (l4_64 + (1 : Int)))] [] Z) eS) hb
          exact sv_less (lv := [(0, .ref 0), (1, sv_I p1), (2, sv_I p2), (3, sv_I r6), (4, sv_I (l4_64 + (1 : Int)))]) (sv_Sub_cons rfl (sv_Sub_cons rfl (sv_Sub_cons rfl (sv_Sub_cons rfl (sv_Sub_cons rfl sv_Sub_nil))))) hb
      have eS := sv_mod.eq (sv_mod.rf (l := [68, 69, 70]) (S := (sv_up (sv_up (sv_up (sv_up (sv_up (sv_up S 81 r6 (1 : Int)) 82 r6 (0 : Int)) 83 r6 (0 : Int)) 84 r6 (0 : Int)) 85 r6 (0 : Int)) 86 r6 (0 : Int))))
      have hb := hJ ((0 : Int), (sv_up (sv_up (sv_up (sv_up (sv_up (sv_up S 81 r6 (1 : Int)) 82 r6 (0 : Int)) 83 r6 (0 : Int)) 84 r6 (0 : Int)) 85 r6 (0 : Int)) 86 r6 (0 : Int))) ⟨(⟨by decide, by decide⟩ : sv_R (0 : Int)), (by rw [← eS]; exact ok61), hin66⟩
      have hb : sv_T sm_XS sm_cs sm_L sm_sh 2 (q_newLabel p1 p2 S) 252 74 [(0, .ref 0), (1, sv_I p1), (2, sv_I p2), (3, sv_I r6), (4, sv_I (0 : Int))] [] (sv_up (sv_up (sv_up (sv_up (sv_up (sv_up S 81 r6 (1 : Int)) 82 r6 (0 : Int)) 83 r6 (0 : Int)) 84 r6 (0 : Int)) 85 r6 (0 : Int)) 86 r6 (0 : Int)) := Eq.mpr (congrArg (fun Z => sv_T sm_XS sm_cs sm_L sm_sh 2 (q_newLabel p1 p2 S) 252 74 [(0, .ref 0), (1, sv_I p1), (2, sv_I p2), (3, sv_I r6), (4, sv_I (0 : Int))] [] Z) eS) hb
      exact hb
  · have h := h.2 (hc)
    refine sv_iconst (d := (1 : Int)) hM dX12_newLabel_26 rfl rfl ?_
    refine sv_goto hM dX12_newLabel_27 (pc' := 31) rfl ?_
    refine sv_zast sm_X hM dX12_newLabel_31 (sm_a82 _) (by decide) o7.1 o7.2 (sv_nnZ (⟨by decide, by decide⟩ : 0 ≤ (1 : Int) ∧ (1 : Int) ≤ 1)) rfl ?_
    have ok97 : sm_ok (sv_up (sv_up S 81 r6 (1 : Int)) 82 r6 (1 : Int)) := sm_upZ ok8 sm_r82 (⟨by decide, by decide⟩ : 0 ≤ (1 : Int) ∧ (1 : Int) ≤ 1)
    have md98 : sv_mod [68, 69, 70, 81, 82, 83, 84, 85, 86] S (sv_up (sv_up S 81 r6 (1 : Int)) 82 r6 (1 : Int)) := sv_mod.up md9 (by decide)
    refine sv_aload_n hM dX12_newLabel_32 rfl rfl ?_
    refine sv_getA hM dX12_newLabel_33 sm_fl_262 (sm_a0 _) sm_k135 rfl ?_
    refine sv_iload_n hM dX12_newLabel_36 rfl rfl ?_
    refine sv_iload_n hM dX12_newLabel_37 rfl rfl ?_
    refine sv_iconst (d := (-1 : Int)) hM dX12_newLabel_38 rfl rfl ?_
    refine sv_icmp_ne hM dX12_newLabel_39 hp2 (⟨by decide, by decide⟩ : sv_R (-1 : Int)) (t := 46) rfl rfl (fun hc => ?_) (fun hc => ?_)
    · have h := h.1 (hc)
      refine sv_lconst (d := (1 : Int)) hM dX12_newLabel_46 rfl rfl ?_
      refine sv_iload_n hM dX12_newLabel_47 rfl rfl ?_
      refine sv_anyL hM dX12_newLabel_48 rfl rfl (fun r99 hr99 _ => ?_)
      have h := h r99 hr99
      refine sv_last sm_X hM dX12_newLabel_49 (sm_a83 _) (by decide) o7.1 o7.2 rfl ?_
      have ok100 : sm_ok (sv_up (sv_up (sv_up S 81 r6 (1 : Int)) 82 r6 (1 : Int)) 83 r6 r99) := sm_upJ ok97 sm_r83 hr99
      have md101 : sv_mod [68, 69, 70, 81, 82, 83, 84, 85, 86] S (sv_up (sv_up (sv_up S 81 r6 (1 : Int)) 82 r6 (1 : Int)) 83 r6 r99) := sv_mod.up md98 (by decide)
      refine sv_aload_n hM dX12_newLabel_50 rfl rfl ?_
      refine sv_getA hM dX12_newLabel_51 sm_fl_265 (sm_a0 _) sm_k136 rfl ?_
      refine sv_iload_n hM dX12_newLabel_54 rfl rfl ?_
      refine sv_lconst (d := (0 : Int)) hM dX12_newLabel_55 rfl rfl ?_
      refine sv_last sm_X hM dX12_newLabel_56 (sm_a84 _) (by decide) o7.1 o7.2 rfl ?_
      have ok102 : sm_ok (sv_up (sv_up (sv_up (sv_up S 81 r6 (1 : Int)) 82 r6 (1 : Int)) 83 r6 r99) 84 r6 (0 : Int)) := sm_upJ ok100 sm_r84 (⟨by decide, by decide⟩ : sv_RL (0 : Int))
      have md103 : sv_mod [68, 69, 70, 81, 82, 83, 84, 85, 86] S (sv_up (sv_up (sv_up (sv_up S 81 r6 (1 : Int)) 82 r6 (1 : Int)) 83 r6 r99) 84 r6 (0 : Int)) := sv_mod.up md101 (by decide)
      refine sv_aload_n hM dX12_newLabel_57 rfl rfl ?_
      refine sv_getA hM dX12_newLabel_58 sm_fl_268 (sm_a0 _) sm_k137 rfl ?_
      refine sv_iload_n hM dX12_newLabel_61 rfl rfl ?_
      refine sv_lconst (d := (0 : Int)) hM dX12_newLabel_62 rfl rfl ?_
      refine sv_last sm_X hM dX12_newLabel_63 (sm_a85 _) (by decide) o7.1 o7.2 rfl ?_
      have ok104 : sm_ok (sv_up (sv_up (sv_up (sv_up (sv_up S 81 r6 (1 : Int)) 82 r6 (1 : Int)) 83 r6 r99) 84 r6 (0 : Int)) 85 r6 (0 : Int)) := sm_upJ ok102 sm_r85 (⟨by decide, by decide⟩ : sv_RL (0 : Int))
      have md105 : sv_mod [68, 69, 70, 81, 82, 83, 84, 85, 86] S (sv_up (sv_up (sv_up (sv_up (sv_up S 81 r6 (1 : Int)) 82 r6 (1 : Int)) 83 r6 r99) 84 r6 (0 : Int)) 85 r6 (0 : Int)) := sv_mod.up md103 (by decide)
      refine sv_aload_n hM dX12_newLabel_64 rfl rfl ?_
      refine sv_getA hM dX12_newLabel_65 sm_fl_271 (sm_a0 _) sm_k138 rfl ?_
      refine sv_iload_n hM dX12_newLabel_68 rfl rfl ?_
      refine sv_lconst (d := (0 : Int)) hM dX12_newLabel_69 rfl rfl ?_
      refine sv_last sm_X hM dX12_newLabel_70 (sm_a86 _) (by decide) o7.1 o7.2 rfl ?_
      have ok106 : sm_ok (sv_up (sv_up (sv_up (sv_up (sv_up (sv_up S 81 r6 (1 : Int)) 82 r6 (1 : Int)) 83 r6 r99) 84 r6 (0 : Int)) 85 r6 (0 : Int)) 86 r6 (0 : Int)) := sm_upJ ok104 sm_r86 (⟨by decide, by decide⟩ : sv_RL (0 : Int))
      have md107 : sv_mod [68, 69, 70, 81, 82, 83, 84, 85, 86] S (sv_up (sv_up (sv_up (sv_up (sv_up (sv_up S 81 r6 (1 : Int)) 82 r6 (1 : Int)) 83 r6 r99) 84 r6 (0 : Int)) 85 r6 (0 : Int)) 86 r6 (0 : Int)) := sv_mod.up md105 (by decide)
      refine sv_iconst (d := (0 : Int)) hM dX12_newLabel_71 rfl rfl ?_
      refine sv_istore hM dX12_newLabel_72 (by decide) rfl ?_
      show sv_T sm_XS sm_cs sm_L sm_sh 2 (q_newLabel p1 p2 S) 252 74 [(0, .ref 0), (1, sv_I p1), (2, sv_I p2), (3, sv_I r6), (4, sv_I (0 : Int))] [] (sv_up (sv_up (sv_up (sv_up (sv_up (sv_up S 81 r6 (1 : Int)) 82 r6 (1 : Int)) 83 r6 r99) 84 r6 (0 : Int)) 85 r6 (0 : Int)) 86 r6 (0 : Int))
      obtain ⟨hin111, h⟩ := h
      have hJ : ∀ a : Int × sv_S, (sv_R a.1 ∧ sm_ok (sv_sts (sv_up (sv_up (sv_up (sv_up (sv_up (sv_up S 81 r6 (1 : Int)) 82 r6 (1 : Int)) 83 r6 r99) 84 r6 (0 : Int)) 85 r6 (0 : Int)) 86 r6 (0 : Int)) [68, 69, 70] a.2) ∧ (0 ≤ a.1 ∧ a.1 ≤ (S 1008 0) + 1 ∧ sm_pt (a.2 68) (a.2 69) (a.2 70) = sm_pt (S 68) (S 69) (S 70))) → sv_T sm_XS sm_cs sm_L sm_sh 2 (q_newLabel p1 p2 S) 252 74 [(0, .ref 0), (1, sv_I p1), (2, sv_I p2), (3, sv_I r6), (4, sv_I a.1)] [] (sv_sts (sv_up (sv_up (sv_up (sv_up (sv_up (sv_up S 81 r6 (1 : Int)) 82 r6 (1 : Int)) 83 r6 r99) 84 r6 (0 : Int)) 85 r6 (0 : Int)) 86 r6 (0 : Int)) [68, 69, 70] a.2) := by
        refine sv_loop (α := Int × sv_S) (fun a => sv_R a.1 ∧ sm_ok (sv_sts (sv_up (sv_up (sv_up (sv_up (sv_up (sv_up S 81 r6 (1 : Int)) 82 r6 (1 : Int)) 83 r6 r99) 84 r6 (0 : Int)) 85 r6 (0 : Int)) 86 r6 (0 : Int)) [68, 69, 70] a.2) ∧ (0 ≤ a.1 ∧ a.1 ≤ (S 1008 0) + 1 ∧ sm_pt (a.2 68) (a.2 69) (a.2 70) = sm_pt (S 68) (S 69) (S 70))) (fun a => (S 1008 0) + 1 - a.1) (fun a => sv_T sm_XS sm_cs sm_L sm_sh 2 (q_newLabel p1 p2 S) 252 74 [(0, .ref 0), (1, sv_I p1), (2, sv_I p2), (3, sv_I r6), (4, sv_I a.1)] [] (sv_sts (sv_up (sv_up (sv_up (sv_up (sv_up (sv_up S 81 r6 (1 : Int)) 82 r6 (1 : Int)) 83 r6 r99) 84 r6 (0 : Int)) 85 r6 (0 : Int)) 86 r6 (0 : Int)) [68, 69, 70] a.2)) (fun a q => (h a.1 q.1 a.2 q.2.2).1) (fun a q ih110 => ?_)
        obtain ⟨l4_109, g108⟩ := a
        obtain ⟨hl4_109, ok112, hin111i⟩ := q
        have h := (h l4_109 hl4_109 g108 hin111i).2
        show sv_T sm_XS sm_cs sm_L sm_sh 2 (q_newLabel p1 p2 S) 252 74 [(0, .ref 0), (1, sv_I p1), (2, sv_I p2), (3, sv_I r6), (4, sv_I l4_109)] [] (sv_sts (sv_up (sv_up (sv_up (sv_up (sv_up (sv_up S 81 r6 (1 : Int)) 82 r6 (1 : Int)) 83 r6 r99) 84 r6 (0 : Int)) 85 r6 (0 : Int)) 86 r6 (0 : Int)) [68, 69, 70] g108)
        have md113 : sv_mod [68, 69, 70, 81, 82, 83, 84, 85, 86] S (sv_sts (sv_up (sv_up (sv_up (sv_up (sv_up (sv_up S 81 r6 (1 : Int)) 82 r6 (1 : Int)) 83 r6 r99) 84 r6 (0 : Int)) 85 r6 (0 : Int)) 86 r6 (0 : Int)) [68, 69, 70] g108) := sv_mod.sts md107 (by decide)
        have md114 : sv_mod [68, 69, 70] (sv_up (sv_up (sv_up (sv_up (sv_up (sv_up S 81 r6 (1 : Int)) 82 r6 (1 : Int)) 83 r6 r99) 84 r6 (0 : Int)) 85 r6 (0 : Int)) 86 r6 (0 : Int)) (sv_sts (sv_up (sv_up (sv_up (sv_up (sv_up (sv_up S 81 r6 (1 : Int)) 82 r6 (1 : Int)) 83 r6 r99) 84 r6 (0 : Int)) 85 r6 (0 : Int)) 86 r6 (0 : Int)) [68, 69, 70] g108) := sv_mod.sts sv_mod.rf (by decide)
        refine sv_iload hM dX12_newLabel_74 rfl rfl ?_
        refine sv_aload_n hM dX12_newLabel_76 rfl rfl ?_
        have k115 : sv_R (S 1008 0) := sm_okI ok112 sm_r1008 0
        have h := h k115
        refine sv_getI hM dX12_newLabel_77 sm_fl_762 (sm_a0 _) sm_k8 rfl (x := (S 1008 0)) rfl ?_
        refine sv_icmp_gt hM dX12_newLabel_80 hl4_109 k115 (t := 122) rfl rfl (fun hc => ?_) (fun hc => ?_)
        · have h := h.1 (hc)
          exact sv_vret hM dX12_newLabel_122 rfl ⟨rfl, ok112, md113, h⟩
        · have h := h.2 (hc)
          refine sv_aload_n hM dX12_newLabel_83 rfl rfl ?_
          refine sv_aload_n hM dX12_newLabel_84 rfl rfl ?_
          refine sv_sipush (d := (639 : Int)) hM dX12_newLabel_85 rfl rfl ?_
          refine sv_iload_n hM dX12_newLabel_88 rfl rfl ?_
          refine sv_iload hM dX12_newLabel_89 rfl rfl ?_
          obtain ⟨o116, h⟩ := h
          refine sv_callV hM dX12_newLabel_91 sm_iv_1163 (by decide) (sm_a0 _) rfl rfl (Nat.le_of_ble_eq_true rfl) sm_h225 (Nat.le_of_ble_eq_true rfl) (Nat.le_of_ble_eq_true rfl) (F' := 1) (Nat.le_of_ble_eq_true rfl) rfl (t_field (639 : Int) p1 l4_109 (sv_sts (sv_up (sv_up (sv_up (sv_up (sv_up (sv_up S 81 r6 (1 : Int)) 82 r6 (1 : Int)) 83 r6 r99) 84 r6 (0 : Int)) 85 r6 (0 : Int)) 86 r6 (0 : Int)) [68, 69, 70] g108) ok112 (⟨by decide, by decide⟩ : sv_R (639 : Int)) hp1 hl4_109 o116) (fun v S1 hq => ?_)
          obtain ⟨r121, rfl, hr121, ok118, md119, hpo120⟩ := hq
          obtain rfl : (sv_sts (sv_up (sv_up (sv_up (sv_up (sv_up (sv_up S 81 r6 (1 : Int)) 82 r6 (1 : Int)) 83 r6 r99) 84 r6 (0 : Int)) 85 r6 (0 : Int)) 86 r6 (0 : Int)) [68, 69, 70] g108) = S1 := (funext fun j => md119 j (by intro q; cases q)).symm
          show sv_T sm_XS sm_cs sm_L sm_sh 2 (q_newLabel p1 p2 S) 252 94 [(0, .ref 0), (1, sv_I p1), (2, sv_I p2), (3, sv_I r6), (4, sv_I l4_109)] [sv_I r121, .ref 0] (sv_sts (sv_up (sv_up (sv_up (sv_up (sv_up (sv_up S 81 r6 (1 : Int)) 82 r6 (1 : Int)) 83 r6 r99) 84 r6 (0 : Int)) 85 r6 (0 : Int)) 86 r6 (0 : Int)) [68, 69, 70] g108)
          have h := h r121 hr121 hpo120
          obtain ⟨o122, h⟩ := h
          refine sv_callV hM dX12_newLabel_94 sm_iv_1066 (by decide) (sm_a0 _) rfl rfl (Nat.le_of_ble_eq_true rfl) sm_h206 (Nat.le_of_ble_eq_true rfl) (Nat.le_of_ble_eq_true rfl) (F' := 0) (Nat.le_of_ble_eq_true rfl) rfl (t_empty r121 (sv_sts (sv_up (sv_up (sv_up (sv_up (sv_up (sv_up S 81 r6 (1 : Int)) 82 r6 (1 : Int)) 83 r6 r99) 84 r6 (0 : Int)) 85 r6 (0 : Int)) 86 r6 (0 : Int)) [68, 69, 70] g108) ok118 hr121 o122) (fun v S1 hq => ?_)
          obtain ⟨rfl, ok124, md125, hpo126⟩ := hq
          obtain ⟨g123, rfl⟩ : ∃ g, S1 = sv_sts (sv_sts (sv_up (sv_up (sv_up (sv_up (sv_up (sv_up S 81 r6 (1 : Int)) 82 r6 (1 : Int)) 83 r6 r99) 84 r6 (0 : Int)) 85 r6 (0 : Int)) 86 r6 (0 : Int)) [68, 69, 70] g108) [68, 69, 70] g := ⟨_, md125.eq⟩
          show sv_T sm_XS sm_cs sm_L sm_sh 2 (q_newLabel p1 p2 S) 252 97 [(0, .ref 0), (1, sv_I p1), (2, sv_I p2), (3, sv_I r6), (4, sv_I l4_109)] [] (sv_sts (sv_sts (sv_up (sv_up (sv_up (sv_up (sv_up (sv_up S 81 r6 (1 : Int)) 82 r6 (1 : Int)) 83 r6 r99) 84 r6 (0 : Int)) 85 r6 (0 : Int)) 86 r6 (0 : Int)) [68, 69, 70] g108) [68, 69, 70] g123)
          have md127 : sv_mod [68, 69, 70, 81, 82, 83, 84, 85, 86] S (sv_sts (sv_sts (sv_up (sv_up (sv_up (sv_up (sv_up (sv_up S 81 r6 (1 : Int)) 82 r6 (1 : Int)) 83 r6 r99) 84 r6 (0 : Int)) 85 r6 (0 : Int)) 86 r6 (0 : Int)) [68, 69, 70] g108) [68, 69, 70] g123) := sv_mod.sts md113 (by decide)
          have md128 : sv_mod [68, 69, 70] (sv_up (sv_up (sv_up (sv_up (sv_up (sv_up S 81 r6 (1 : Int)) 82 r6 (1 : Int)) 83 r6 r99) 84 r6 (0 : Int)) 85 r6 (0 : Int)) 86 r6 (0 : Int)) (sv_sts (sv_sts (sv_up (sv_up (sv_up (sv_up (sv_up (sv_up S 81 r6 (1 : Int)) 82 r6 (1 : Int)) 83 r6 r99) 84 r6 (0 : Int)) 85 r6 (0 : Int)) 86 r6 (0 : Int)) [68, 69, 70] g108) [68, 69, 70] g123) := sv_mod.sts md114 (by decide)
          have h := h g123 hpo126
          refine sv_aload_n hM dX12_newLabel_97 rfl rfl ?_
          refine sv_aload_n hM dX12_newLabel_98 rfl rfl ?_
          refine sv_sipush (d := (639 : Int)) hM dX12_newLabel_99 rfl rfl ?_
          refine sv_iload_n hM dX12_newLabel_102 rfl rfl ?_
          refine sv_iload hM dX12_newLabel_103 rfl rfl ?_
          refine sv_callV hM dX12_newLabel_105 sm_iv_1163 (by decide) (sm_a0 _) rfl rfl (Nat.le_of_ble_eq_true rfl) sm_h225 (Nat.le_of_ble_eq_true rfl) (Nat.le_of_ble_eq_true rfl) (F' := 1) (Nat.le_of_ble_eq_true rfl) rfl (t_field (639 : Int) p1 l4_109 (sv_sts (sv_sts (sv_up (sv_up (sv_up (sv_up (sv_up (sv_up S 81 r6 (1 : Int)) 82 r6 (1 : Int)) 83 r6 r99) 84 r6 (0 : Int)) 85 r6 (0 : Int)) 86 r6 (0 : Int)) [68, 69, 70] g108) [68, 69, 70] g123) ok124 (⟨by decide, by decide⟩ : sv_R (639 : Int)) hp1 hl4_109 o116) (fun v S1 hq => ?_)
          obtain ⟨r133, rfl, hr133, ok130, md131, hpo132⟩ := hq
          obtain rfl : (sv_sts (sv_sts (sv_up (sv_up (sv_up (sv_up (sv_up (sv_up S 81 r6 (1 : Int)) 82 r6 (1 : Int)) 83 r6 r99) 84 r6 (0 : Int)) 85 r6 (0 : Int)) 86 r6 (0 : Int)) [68, 69, 70] g108) [68, 69, 70] g123) = S1 := (funext fun j => md131 j (by intro q; cases q)).symm
          show sv_T sm_XS sm_cs sm_L sm_sh 2 (q_newLabel p1 p2 S) 252 108 [(0, .ref 0), (1, sv_I p1), (2, sv_I p2), (3, sv_I r6), (4, sv_I l4_109)] [sv_I r133, .ref 0] (sv_sts (sv_sts (sv_up (sv_up (sv_up (sv_up (sv_up (sv_up S 81 r6 (1 : Int)) 82 r6 (1 : Int)) 83 r6 r99) 84 r6 (0 : Int)) 85 r6 (0 : Int)) 86 r6 (0 : Int)) [68, 69, 70] g108) [68, 69, 70] g123)
          have h := h r133 hr133 hpo132
          refine sv_sipush (d := (512 : Int)) hM dX12_newLabel_108 rfl rfl ?_
          refine sv_iconst (d := (0 : Int)) hM dX12_newLabel_111 rfl rfl ?_
          refine sv_iconst (d := (0 : Int)) hM dX12_newLabel_112 rfl rfl ?_
          obtain ⟨o134, h⟩ := h
          refine sv_callV hM dX12_newLabel_113 sm_iv_1056 (by decide) (sm_a0 _) rfl rfl (Nat.le_of_ble_eq_true rfl) sm_h205 (Nat.le_of_ble_eq_true rfl) (Nat.le_of_ble_eq_true rfl) (F' := 0) (Nat.le_of_ble_eq_true rfl) rfl (t_write r133 (512 : Int) (0 : Int) (0 : Int) (sv_sts (sv_sts (sv_up (sv_up (sv_up (sv_up (sv_up (sv_up S 81 r6 (1 : Int)) 82 r6 (1 : Int)) 83 r6 r99) 84 r6 (0 : Int)) 85 r6 (0 : Int)) 86 r6 (0 : Int)) [68, 69, 70] g108) [68, 69, 70] g123) ok130 hr133 (⟨by decide, by decide⟩ : sv_R (512 : Int)) (⟨by decide, by decide⟩ : sv_R (0 : Int)) (⟨by decide, by decide⟩ : sv_R (0 : Int)) o134) (fun v S1 hq => ?_)
          obtain ⟨rfl, ok136, md137, hpo138⟩ := hq
          obtain ⟨g135, rfl⟩ : ∃ g, S1 = sv_sts (sv_sts (sv_sts (sv_up (sv_up (sv_up (sv_up (sv_up (sv_up S 81 r6 (1 : Int)) 82 r6 (1 : Int)) 83 r6 r99) 84 r6 (0 : Int)) 85 r6 (0 : Int)) 86 r6 (0 : Int)) [68, 69, 70] g108) [68, 69, 70] g123) [68] g := ⟨_, md137.eq⟩
          show sv_T sm_XS sm_cs sm_L sm_sh 2 (q_newLabel p1 p2 S) 252 116 [(0, .ref 0), (1, sv_I p1), (2, sv_I p2), (3, sv_I r6), (4, sv_I l4_109)] [] (sv_sts (sv_sts (sv_sts (sv_up (sv_up (sv_up (sv_up (sv_up (sv_up S 81 r6 (1 : Int)) 82 r6 (1 : Int)) 83 r6 r99) 84 r6 (0 : Int)) 85 r6 (0 : Int)) 86 r6 (0 : Int)) [68, 69, 70] g108) [68, 69, 70] g123) [68] g135)
          have md139 : sv_mod [68, 69, 70, 81, 82, 83, 84, 85, 86] S (sv_sts (sv_sts (sv_sts (sv_up (sv_up (sv_up (sv_up (sv_up (sv_up S 81 r6 (1 : Int)) 82 r6 (1 : Int)) 83 r6 r99) 84 r6 (0 : Int)) 85 r6 (0 : Int)) 86 r6 (0 : Int)) [68, 69, 70] g108) [68, 69, 70] g123) [68] g135) := sv_mod.sts md127 (by decide)
          have md140 : sv_mod [68, 69, 70] (sv_up (sv_up (sv_up (sv_up (sv_up (sv_up S 81 r6 (1 : Int)) 82 r6 (1 : Int)) 83 r6 r99) 84 r6 (0 : Int)) 85 r6 (0 : Int)) 86 r6 (0 : Int)) (sv_sts (sv_sts (sv_sts (sv_up (sv_up (sv_up (sv_up (sv_up (sv_up S 81 r6 (1 : Int)) 82 r6 (1 : Int)) 83 r6 r99) 84 r6 (0 : Int)) 85 r6 (0 : Int)) 86 r6 (0 : Int)) [68, 69, 70] g108) [68, 69, 70] g123) [68] g135) := sv_mod.sts md128 (by decide)
          have h := h g135 hpo138
          refine sv_iinc (d := (1 : Int)) hM dX12_newLabel_116 rfl (by decide) rfl rfl ?_
          show sv_T sm_XS sm_cs sm_L sm_sh 2 (q_newLabel p1 p2 S) 252 119 [(0, .ref 0), (1, sv_I p1), (2, sv_I p2), (3, sv_I r6), (4, sv_I (l4_109 + (1 : Int)))] [] (sv_sts (sv_sts (sv_sts (sv_up (sv_up (sv_up (sv_up (sv_up (sv_up S 81 r6 (1 : Int)) 82 r6 (1 : Int)) 83 r6 r99) 84 r6 (0 : Int)) 85 r6 (0 : Int)) 86 r6 (0 : Int)) [68, 69, 70] g108) [68, 69, 70] g123) [68] g135)
          refine sv_goto hM dX12_newLabel_119 (pc' := 74) rfl ?_
          obtain ⟨o141, h⟩ := h
          have eS := sv_mod.eq md140
          have hb := ih110 ((l4_109 + (1 : Int)), (sv_sts (sv_sts (sv_sts (sv_up (sv_up (sv_up (sv_up (sv_up (sv_up S 81 r6 (1 : Int)) 82 r6 (1 : Int)) 83 r6 r99) 84 r6 (0 : Int)) 85 r6 (0 : Int)) 86 r6 (0 : Int)) [68, 69, 70] g108) [68, 69, 70] g123) [68] g135)) ⟨o141, (by rw [← eS]; exact ok136), h.1⟩ h.2
          have hb : sv_T sm_XS sm_cs sm_L sm_sh 2 (q_newLabel p1 p2 S) 252 74 [(0, .ref 0), (1, sv_I p1), (2, sv_I p2), (3, sv_I r6), (4, sv_I (l4_109 + (1 : Int)))] [] (sv_sts (sv_sts (sv_sts (sv_up (sv_up (sv_up (sv_up (sv_up (sv_up S 81 r6 (1 : Int)) 82 r6 (1 : Int)) 83 r6 r99) 84 r6 (0 : Int)) 85 r6 (0 : Int)) 86 r6 (0 : Int)) [68, 69, 70] g108) [68, 69, 70] g123) [68] g135) := Eq.mpr (congrArg (fun Z => sv_T sm_XS sm_cs sm_L sm_sh 2 (q_newLabel p1 p2 S) 252 74 [(0, .ref 0), (1, sv_I p1), (2, sv_I p2), (3, sv_I r6), (4, sv_I (l4_109 + (1 : Int)))] [] Z) eS) hb
          exact sv_less (lv := [(0, .ref 0), (1, sv_I p1), (2, sv_I p2), (3, sv_I r6), (4, sv_I (l4_109 + (1 : Int)))]) (sv_Sub_cons rfl (sv_Sub_cons rfl (sv_Sub_cons rfl (sv_Sub_cons rfl (sv_Sub_cons rfl sv_Sub_nil))))) hb
      have eS := sv_mod.eq (sv_mod.rf (l := [68, 69, 70]) (S := (sv_up (sv_up (sv_up (sv_up (sv_up (sv_up S 81 r6 (1 : Int)) 82 r6 (1 : Int)) 83 r6 r99) 84 r6 (0 : Int)) 85 r6 (0 : Int)) 86 r6 (0 : Int))))
      have hb := hJ ((0 : Int), (sv_up (sv_up (sv_up (sv_up (sv_up (sv_up S 81 r6 (1 : Int)) 82 r6 (1 : Int)) 83 r6 r99) 84 r6 (0 : Int)) 85 r6 (0 : Int)) 86 r6 (0 : Int))) ⟨(⟨by decide, by decide⟩ : sv_R (0 : Int)), (by rw [← eS]; exact ok106), hin111⟩
      have hb : sv_T sm_XS sm_cs sm_L sm_sh 2 (q_newLabel p1 p2 S) 252 74 [(0, .ref 0), (1, sv_I p1), (2, sv_I p2), (3, sv_I r6), (4, sv_I (0 : Int))] [] (sv_up (sv_up (sv_up (sv_up (sv_up (sv_up S 81 r6 (1 : Int)) 82 r6 (1 : Int)) 83 r6 r99) 84 r6 (0 : Int)) 85 r6 (0 : Int)) 86 r6 (0 : Int)) := Eq.mpr (congrArg (fun Z => sv_T sm_XS sm_cs sm_L sm_sh 2 (q_newLabel p1 p2 S) 252 74 [(0, .ref 0), (1, sv_I p1), (2, sv_I p2), (3, sv_I r6), (4, sv_I (0 : Int))] [] Z) eS) hb
      exact hb
    · have h := h.2 (hc)
      refine sv_lconst (d := (0 : Int)) hM dX12_newLabel_42 rfl rfl ?_
      refine sv_goto hM dX12_newLabel_43 (pc' := 49) rfl ?_
      refine sv_last sm_X hM dX12_newLabel_49 (sm_a83 _) (by decide) o7.1 o7.2 rfl ?_
      have ok142 : sm_ok (sv_up (sv_up (sv_up S 81 r6 (1 : Int)) 82 r6 (1 : Int)) 83 r6 (0 : Int)) := sm_upJ ok97 sm_r83 (⟨by decide, by decide⟩ : sv_RL (0 : Int))
      have md143 : sv_mod [68, 69, 70, 81, 82, 83, 84, 85, 86] S (sv_up (sv_up (sv_up S 81 r6 (1 : Int)) 82 r6 (1 : Int)) 83 r6 (0 : Int)) := sv_mod.up md98 (by decide)
      refine sv_aload_n hM dX12_newLabel_50 rfl rfl ?_
      refine sv_getA hM dX12_newLabel_51 sm_fl_265 (sm_a0 _) sm_k136 rfl ?_
      refine sv_iload_n hM dX12_newLabel_54 rfl rfl ?_
      refine sv_lconst (d := (0 : Int)) hM dX12_newLabel_55 rfl rfl ?_
      refine sv_last sm_X hM dX12_newLabel_56 (sm_a84 _) (by decide) o7.1 o7.2 rfl ?_
      have ok144 : sm_ok (sv_up (sv_up (sv_up (sv_up S 81 r6 (1 : Int)) 82 r6 (1 : Int)) 83 r6 (0 : Int)) 84 r6 (0 : Int)) := sm_upJ ok142 sm_r84 (⟨by decide, by decide⟩ : sv_RL (0 : Int))
      have md145 : sv_mod [68, 69, 70, 81, 82, 83, 84, 85, 86] S (sv_up (sv_up (sv_up (sv_up S 81 r6 (1 : Int)) 82 r6 (1 : Int)) 83 r6 (0 : Int)) 84 r6 (0 : Int)) := sv_mod.up md143 (by decide)
      refine sv_aload_n hM dX12_newLabel_57 rfl rfl ?_
      refine sv_getA hM dX12_newLabel_58 sm_fl_268 (sm_a0 _) sm_k137 rfl ?_
      refine sv_iload_n hM dX12_newLabel_61 rfl rfl ?_
      refine sv_lconst (d := (0 : Int)) hM dX12_newLabel_62 rfl rfl ?_
      refine sv_last sm_X hM dX12_newLabel_63 (sm_a85 _) (by decide) o7.1 o7.2 rfl ?_
      have ok146 : sm_ok (sv_up (sv_up (sv_up (sv_up (sv_up S 81 r6 (1 : Int)) 82 r6 (1 : Int)) 83 r6 (0 : Int)) 84 r6 (0 : Int)) 85 r6 (0 : Int)) := sm_upJ ok144 sm_r85 (⟨by decide, by decide⟩ : sv_RL (0 : Int))
      have md147 : sv_mod [68, 69, 70, 81, 82, 83, 84, 85, 86] S (sv_up (sv_up (sv_up (sv_up (sv_up S 81 r6 (1 : Int)) 82 r6 (1 : Int)) 83 r6 (0 : Int)) 84 r6 (0 : Int)) 85 r6 (0 : Int)) := sv_mod.up md145 (by decide)
      refine sv_aload_n hM dX12_newLabel_64 rfl rfl ?_
      refine sv_getA hM dX12_newLabel_65 sm_fl_271 (sm_a0 _) sm_k138 rfl ?_
      refine sv_iload_n hM dX12_newLabel_68 rfl rfl ?_
      refine sv_lconst (d := (0 : Int)) hM dX12_newLabel_69 rfl rfl ?_
      refine sv_last sm_X hM dX12_newLabel_70 (sm_a86 _) (by decide) o7.1 o7.2 rfl ?_
      have ok148 : sm_ok (sv_up (sv_up (sv_up (sv_up (sv_up (sv_up S 81 r6 (1 : Int)) 82 r6 (1 : Int)) 83 r6 (0 : Int)) 84 r6 (0 : Int)) 85 r6 (0 : Int)) 86 r6 (0 : Int)) := sm_upJ ok146 sm_r86 (⟨by decide, by decide⟩ : sv_RL (0 : Int))
      have md149 : sv_mod [68, 69, 70, 81, 82, 83, 84, 85, 86] S (sv_up (sv_up (sv_up (sv_up (sv_up (sv_up S 81 r6 (1 : Int)) 82 r6 (1 : Int)) 83 r6 (0 : Int)) 84 r6 (0 : Int)) 85 r6 (0 : Int)) 86 r6 (0 : Int)) := sv_mod.up md147 (by decide)
      refine sv_iconst (d := (0 : Int)) hM dX12_newLabel_71 rfl rfl ?_
      refine sv_istore hM dX12_newLabel_72 (by decide) rfl ?_
      show sv_T sm_XS sm_cs sm_L sm_sh 2 (q_newLabel p1 p2 S) 252 74 [(0, .ref 0), (1, sv_I p1), (2, sv_I p2), (3, sv_I r6), (4, sv_I (0 : Int))] [] (sv_up (sv_up (sv_up (sv_up (sv_up (sv_up S 81 r6 (1 : Int)) 82 r6 (1 : Int)) 83 r6 (0 : Int)) 84 r6 (0 : Int)) 85 r6 (0 : Int)) 86 r6 (0 : Int))
      obtain ⟨hin153, h⟩ := h
      have hJ : ∀ a : Int × sv_S, (sv_R a.1 ∧ sm_ok (sv_sts (sv_up (sv_up (sv_up (sv_up (sv_up (sv_up S 81 r6 (1 : Int)) 82 r6 (1 : Int)) 83 r6 (0 : Int)) 84 r6 (0 : Int)) 85 r6 (0 : Int)) 86 r6 (0 : Int)) [68, 69, 70] a.2) ∧ (0 ≤ a.1 ∧ a.1 ≤ (S 1008 0) + 1 ∧ sm_pt (a.2 68) (a.2 69) (a.2 70) = sm_pt (S 68) (S 69) (S 70))) → sv_T sm_XS sm_cs sm_L sm_sh 2 (q_newLabel p1 p2 S) 252 74 [(0, .ref 0), (1, sv_I p1), (2, sv_I p2), (3, sv_I r6), (4, sv_I a.1)] [] (sv_sts (sv_up (sv_up (sv_up (sv_up (sv_up (sv_up S 81 r6 (1 : Int)) 82 r6 (1 : Int)) 83 r6 (0 : Int)) 84 r6 (0 : Int)) 85 r6 (0 : Int)) 86 r6 (0 : Int)) [68, 69, 70] a.2) := by
        refine sv_loop (α := Int × sv_S) (fun a => sv_R a.1 ∧ sm_ok (sv_sts (sv_up (sv_up (sv_up (sv_up (sv_up (sv_up S 81 r6 (1 : Int)) 82 r6 (1 : Int)) 83 r6 (0 : Int)) 84 r6 (0 : Int)) 85 r6 (0 : Int)) 86 r6 (0 : Int)) [68, 69, 70] a.2) ∧ (0 ≤ a.1 ∧ a.1 ≤ (S 1008 0) + 1 ∧ sm_pt (a.2 68) (a.2 69) (a.2 70) = sm_pt (S 68) (S 69) (S 70))) (fun a => (S 1008 0) + 1 - a.1) (fun a => sv_T sm_XS sm_cs sm_L sm_sh 2 (q_newLabel p1 p2 S) 252 74 [(0, .ref 0), (1, sv_I p1), (2, sv_I p2), (3, sv_I r6), (4, sv_I a.1)] [] (sv_sts (sv_up (sv_up (sv_up (sv_up (sv_up (sv_up S 81 r6 (1 : Int)) 82 r6 (1 : Int)) 83 r6 (0 : Int)) 84 r6 (0 : Int)) 85 r6 (0 : Int)) 86 r6 (0 : Int)) [68, 69, 70] a.2)) (fun a q => (h a.1 q.1 a.2 q.2.2).1) (fun a q ih152 => ?_)
        obtain ⟨l4_151, g150⟩ := a
        obtain ⟨hl4_151, ok154, hin153i⟩ := q
        have h := (h l4_151 hl4_151 g150 hin153i).2
        show sv_T sm_XS sm_cs sm_L sm_sh 2 (q_newLabel p1 p2 S) 252 74 [(0, .ref 0), (1, sv_I p1), (2, sv_I p2), (3, sv_I r6), (4, sv_I l4_151)] [] (sv_sts (sv_up (sv_up (sv_up (sv_up (sv_up (sv_up S 81 r6 (1 : Int)) 82 r6 (1 : Int)) 83 r6 (0 : Int)) 84 r6 (0 : Int)) 85 r6 (0 : Int)) 86 r6 (0 : Int)) [68, 69, 70] g150)
        have md155 : sv_mod [68, 69, 70, 81, 82, 83, 84, 85, 86] S (sv_sts (sv_up (sv_up (sv_up (sv_up (sv_up (sv_up S 81 r6 (1 : Int)) 82 r6 (1 : Int)) 83 r6 (0 : Int)) 84 r6 (0 : Int)) 85 r6 (0 : Int)) 86 r6 (0 : Int)) [68, 69, 70] g150) := sv_mod.sts md149 (by decide)
        have md156 : sv_mod [68, 69, 70] (sv_up (sv_up (sv_up (sv_up (sv_up (sv_up S 81 r6 (1 : Int)) 82 r6 (1 : Int)) 83 r6 (0 : Int)) 84 r6 (0 : Int)) 85 r6 (0 : Int)) 86 r6 (0 : Int)) (sv_sts (sv_up (sv_up (sv_up (sv_up (sv_up (sv_up S 81 r6 (1 : Int)) 82 r6 (1 : Int)) 83 r6 (0 : Int)) 84 r6 (0 : Int)) 85 r6 (0 : Int)) 86 r6 (0 : Int)) [68, 69, 70] g150) := sv_mod.sts sv_mod.rf (by decide)
        refine sv_iload hM dX12_newLabel_74 rfl rfl ?_
        refine sv_aload_n hM dX12_newLabel_76 rfl rfl ?_
        have k157 : sv_R (S 1008 0) := sm_okI ok154 sm_r1008 0
        have h := h k157
        refine sv_getI hM dX12_newLabel_77 sm_fl_762 (sm_a0 _) sm_k8 rfl (x := (S 1008 0)) rfl ?_
        refine sv_icmp_gt hM dX12_newLabel_80 hl4_151 k157 (t := 122) rfl rfl (fun hc => ?_) (fun hc => ?_)
        · have h := h.1 (hc)
          exact sv_vret hM dX12_newLabel_122 rfl ⟨rfl, ok154, md155, h⟩
        · have h := h.2 (hc)
          refine sv_aload_n hM dX12_newLabel_83 rfl rfl ?_
          refine sv_aload_n hM dX12_newLabel_84 rfl rfl ?_
          refine sv_sipush (d := (639 : Int)) hM dX12_newLabel_85 rfl rfl ?_
          refine sv_iload_n hM dX12_newLabel_88 rfl rfl ?_
          refine sv_iload hM dX12_newLabel_89 rfl rfl ?_
          obtain ⟨o158, h⟩ := h
          refine sv_callV hM dX12_newLabel_91 sm_iv_1163 (by decide) (sm_a0 _) rfl rfl (Nat.le_of_ble_eq_true rfl) sm_h225 (Nat.le_of_ble_eq_true rfl) (Nat.le_of_ble_eq_true rfl) (F' := 1) (Nat.le_of_ble_eq_true rfl) rfl (t_field (639 : Int) p1 l4_151 (sv_sts (sv_up (sv_up (sv_up (sv_up (sv_up (sv_up S 81 r6 (1 : Int)) 82 r6 (1 : Int)) 83 r6 (0 : Int)) 84 r6 (0 : Int)) 85 r6 (0 : Int)) 86 r6 (0 : Int)) [68, 69, 70] g150) ok154 (⟨by decide, by decide⟩ : sv_R (639 : Int)) hp1 hl4_151 o158) (fun v S1 hq => ?_)
          obtain ⟨r163, rfl, hr163, ok160, md161, hpo162⟩ := hq
          obtain rfl : (sv_sts (sv_up (sv_up (sv_up (sv_up (sv_up (sv_up S 81 r6 (1 : Int)) 82 r6 (1 : Int)) 83 r6 (0 : Int)) 84 r6 (0 : Int)) 85 r6 (0 : Int)) 86 r6 (0 : Int)) [68, 69, 70] g150) = S1 := (funext fun j => md161 j (by intro q; cases q)).symm
          show sv_T sm_XS sm_cs sm_L sm_sh 2 (q_newLabel p1 p2 S) 252 94 [(0, .ref 0), (1, sv_I p1), (2, sv_I p2), (3, sv_I r6), (4, sv_I l4_151)] [sv_I r163, .ref 0] (sv_sts (sv_up (sv_up (sv_up (sv_up (sv_up (sv_up S 81 r6 (1 : Int)) 82 r6 (1 : Int)) 83 r6 (0 : Int)) 84 r6 (0 : Int)) 85 r6 (0 : Int)) 86 r6 (0 : Int)) [68, 69, 70] g150)
          have h := h r163 hr163 hpo162
          obtain ⟨o164, h⟩ := h
          refine sv_callV hM dX12_newLabel_94 sm_iv_1066 (by decide) (sm_a0 _) rfl rfl (Nat.le_of_ble_eq_true rfl) sm_h206 (Nat.le_of_ble_eq_true rfl) (Nat.le_of_ble_eq_true rfl) (F' := 0) (Nat.le_of_ble_eq_true rfl) rfl (t_empty r163 (sv_sts (sv_up (sv_up (sv_up (sv_up (sv_up (sv_up S 81 r6 (1 : Int)) 82 r6 (1 : Int)) 83 r6 (0 : Int)) 84 r6 (0 : Int)) 85 r6 (0 : Int)) 86 r6 (0 : Int)) [68, 69, 70] g150) ok160 hr163 o164) (fun v S1 hq => ?_)
          obtain ⟨rfl, ok166, md167, hpo168⟩ := hq
          obtain ⟨g165, rfl⟩ : ∃ g, S1 = sv_sts (sv_sts (sv_up (sv_up (sv_up (sv_up (sv_up (sv_up S 81 r6 (1 : Int)) 82 r6 (1 : Int)) 83 r6 (0 : Int)) 84 r6 (0 : Int)) 85 r6 (0 : Int)) 86 r6 (0 : Int)) [68, 69, 70] g150) [68, 69, 70] g := ⟨_, md167.eq⟩
          show sv_T sm_XS sm_cs sm_L sm_sh 2 (q_newLabel p1 p2 S) 252 97 [(0, .ref 0), (1, sv_I p1), (2, sv_I p2), (3, sv_I r6), (4, sv_I l4_151)] [] (sv_sts (sv_sts (sv_up (sv_up (sv_up (sv_up (sv_up (sv_up S 81 r6 (1 : Int)) 82 r6 (1 : Int)) 83 r6 (0 : Int)) 84 r6 (0 : Int)) 85 r6 (0 : Int)) 86 r6 (0 : Int)) [68, 69, 70] g150) [68, 69, 70] g165)
          have md169 : sv_mod [68, 69, 70, 81, 82, 83, 84, 85, 86] S (sv_sts (sv_sts (sv_up (sv_up (sv_up (sv_up (sv_up (sv_up S 81 r6 (1 : Int)) 82 r6 (1 : Int)) 83 r6 (0 : Int)) 84 r6 (0 : Int)) 85 r6 (0 : Int)) 86 r6 (0 : Int)) [68, 69, 70] g150) [68, 69, 70] g165) := sv_mod.sts md155 (by decide)
          have md170 : sv_mod [68, 69, 70] (sv_up (sv_up (sv_up (sv_up (sv_up (sv_up S 81 r6 (1 : Int)) 82 r6 (1 : Int)) 83 r6 (0 : Int)) 84 r6 (0 : Int)) 85 r6 (0 : Int)) 86 r6 (0 : Int)) (sv_sts (sv_sts (sv_up (sv_up (sv_up (sv_up (sv_up (sv_up S 81 r6 (1 : Int)) 82 r6 (1 : Int)) 83 r6 (0 : Int)) 84 r6 (0 : Int)) 85 r6 (0 : Int)) 86 r6 (0 : Int)) [68, 69, 70] g150) [68, 69, 70] g165) := sv_mod.sts md156 (by decide)
          have h := h g165 hpo168
          refine sv_aload_n hM dX12_newLabel_97 rfl rfl ?_
          refine sv_aload_n hM dX12_newLabel_98 rfl rfl ?_
          refine sv_sipush (d := (639 : Int)) hM dX12_newLabel_99 rfl rfl ?_
          refine sv_iload_n hM dX12_newLabel_102 rfl rfl ?_
          refine sv_iload hM dX12_newLabel_103 rfl rfl ?_
          refine sv_callV hM dX12_newLabel_105 sm_iv_1163 (by decide) (sm_a0 _) rfl rfl (Nat.le_of_ble_eq_true rfl) sm_h225 (Nat.le_of_ble_eq_true rfl) (Nat.le_of_ble_eq_true rfl) (F' := 1) (Nat.le_of_ble_eq_true rfl) rfl (t_field (639 : Int) p1 l4_151 (sv_sts (sv_sts (sv_up (sv_up (sv_up (sv_up (sv_up (sv_up S 81 r6 (1 : Int)) 82 r6 (1 : Int)) 83 r6 (0 : Int)) 84 r6 (0 : Int)) 85 r6 (0 : Int)) 86 r6 (0 : Int)) [68, 69, 70] g150) [68, 69, 70] g165) ok166 (⟨by decide, by decide⟩ : sv_R (639 : Int)) hp1 hl4_151 o158) (fun v S1 hq => ?_)
          obtain ⟨r175, rfl, hr175, ok172, md173, hpo174⟩ := hq
          obtain rfl : (sv_sts (sv_sts (sv_up (sv_up (sv_up (sv_up (sv_up (sv_up S 81 r6 (1 : Int)) 82 r6 (1 : Int)) 83 r6 (0 : Int)) 84 r6 (0 : Int)) 85 r6 (0 : Int)) 86 r6 (0 : Int)) [68, 69, 70] g150) [68, 69, 70] g165) = S1 := (funext fun j => md173 j (by intro q; cases q)).symm
          show sv_T sm_XS sm_cs sm_L sm_sh 2 (q_newLabel p1 p2 S) 252 108 [(0, .ref 0), (1, sv_I p1), (2, sv_I p2), (3, sv_I r6), (4, sv_I l4_151)] [sv_I r175, .ref 0] (sv_sts (sv_sts (sv_up (sv_up (sv_up (sv_up (sv_up (sv_up S 81 r6 (1 : Int)) 82 r6 (1 : Int)) 83 r6 (0 : Int)) 84 r6 (0 : Int)) 85 r6 (0 : Int)) 86 r6 (0 : Int)) [68, 69, 70] g150) [68, 69, 70] g165)
          have h := h r175 hr175 hpo174
          refine sv_sipush (d := (512 : Int)) hM dX12_newLabel_108 rfl rfl ?_
          refine sv_iconst (d := (0 : Int)) hM dX12_newLabel_111 rfl rfl ?_
          refine sv_iconst (d := (0 : Int)) hM dX12_newLabel_112 rfl rfl ?_
          obtain ⟨o176, h⟩ := h
          refine sv_callV hM dX12_newLabel_113 sm_iv_1056 (by decide) (sm_a0 _) rfl rfl (Nat.le_of_ble_eq_true rfl) sm_h205 (Nat.le_of_ble_eq_true rfl) (Nat.le_of_ble_eq_true rfl) (F' := 0) (Nat.le_of_ble_eq_true rfl) rfl (t_write r175 (512 : Int) (0 : Int) (0 : Int) (sv_sts (sv_sts (sv_up (sv_up (sv_up (sv_up (sv_up (sv_up S 81 r6 (1 : Int)) 82 r6 (1 : Int)) 83 r6 (0 : Int)) 84 r6 (0 : Int)) 85 r6 (0 : Int)) 86 r6 (0 : Int)) [68, 69, 70] g150) [68, 69, 70] g165) ok172 hr175 (⟨by decide, by decide⟩ : sv_R (512 : Int)) (⟨by decide, by decide⟩ : sv_R (0 : Int)) (⟨by decide, by decide⟩ : sv_R (0 : Int)) o176) (fun v S1 hq => ?_)
          obtain ⟨rfl, ok178, md179, hpo180⟩ := hq
          obtain ⟨g177, rfl⟩ : ∃ g, S1 = sv_sts (sv_sts (sv_sts (sv_up (sv_up (sv_up (sv_up (sv_up (sv_up S 81 r6 (1 : Int)) 82 r6 (1 : Int)) 83 r6 (0 : Int)) 84 r6 (0 : Int)) 85 r6 (0 : Int)) 86 r6 (0 : Int)) [68, 69, 70] g150) [68, 69, 70] g165) [68] g := ⟨_, md179.eq⟩
          show sv_T sm_XS sm_cs sm_L sm_sh 2 (q_newLabel p1 p2 S) 252 116 [(0, .ref 0), (1, sv_I p1), (2, sv_I p2), (3, sv_I r6), (4, sv_I l4_151)] [] (sv_sts (sv_sts (sv_sts (sv_up (sv_up (sv_up (sv_up (sv_up (sv_up S 81 r6 (1 : Int)) 82 r6 (1 : Int)) 83 r6 (0 : Int)) 84 r6 (0 : Int)) 85 r6 (0 : Int)) 86 r6 (0 : Int)) [68, 69, 70] g150) [68, 69, 70] g165) [68] g177)
          have md181 : sv_mod [68, 69, 70, 81, 82, 83, 84, 85, 86] S (sv_sts (sv_sts (sv_sts (sv_up (sv_up (sv_up (sv_up (sv_up (sv_up S 81 r6 (1 : Int)) 82 r6 (1 : Int)) 83 r6 (0 : Int)) 84 r6 (0 : Int)) 85 r6 (0 : Int)) 86 r6 (0 : Int)) [68, 69, 70] g150) [68, 69, 70] g165) [68] g177) := sv_mod.sts md169 (by decide)
          have md182 : sv_mod [68, 69, 70] (sv_up (sv_up (sv_up (sv_up (sv_up (sv_up S 81 r6 (1 : Int)) 82 r6 (1 : Int)) 83 r6 (0 : Int)) 84 r6 (0 : Int)) 85 r6 (0 : Int)) 86 r6 (0 : Int)) (sv_sts (sv_sts (sv_sts (sv_up (sv_up (sv_up (sv_up (sv_up (sv_up S 81 r6 (1 : Int)) 82 r6 (1 : Int)) 83 r6 (0 : Int)) 84 r6 (0 : Int)) 85 r6 (0 : Int)) 86 r6 (0 : Int)) [68, 69, 70] g150) [68, 69, 70] g165) [68] g177) := sv_mod.sts md170 (by decide)
          have h := h g177 hpo180
          refine sv_iinc (d := (1 : Int)) hM dX12_newLabel_116 rfl (by decide) rfl rfl ?_
          show sv_T sm_XS sm_cs sm_L sm_sh 2 (q_newLabel p1 p2 S) 252 119 [(0, .ref 0), (1, sv_I p1), (2, sv_I p2), (3, sv_I r6), (4, sv_I (l4_151 + (1 : Int)))] [] (sv_sts (sv_sts (sv_sts (sv_up (sv_up (sv_up (sv_up (sv_up (sv_up S 81 r6 (1 : Int)) 82 r6 (1 : Int)) 83 r6 (0 : Int)) 84 r6 (0 : Int)) 85 r6 (0 : Int)) 86 r6 (0 : Int)) [68, 69, 70] g150) [68, 69, 70] g165) [68] g177)
          refine sv_goto hM dX12_newLabel_119 (pc' := 74) rfl ?_
          obtain ⟨o183, h⟩ := h
          have eS := sv_mod.eq md182
          have hb := ih152 ((l4_151 + (1 : Int)), (sv_sts (sv_sts (sv_sts (sv_up (sv_up (sv_up (sv_up (sv_up (sv_up S 81 r6 (1 : Int)) 82 r6 (1 : Int)) 83 r6 (0 : Int)) 84 r6 (0 : Int)) 85 r6 (0 : Int)) 86 r6 (0 : Int)) [68, 69, 70] g150) [68, 69, 70] g165) [68] g177)) ⟨o183, (by rw [← eS]; exact ok178), h.1⟩ h.2
          have hb : sv_T sm_XS sm_cs sm_L sm_sh 2 (q_newLabel p1 p2 S) 252 74 [(0, .ref 0), (1, sv_I p1), (2, sv_I p2), (3, sv_I r6), (4, sv_I (l4_151 + (1 : Int)))] [] (sv_sts (sv_sts (sv_sts (sv_up (sv_up (sv_up (sv_up (sv_up (sv_up S 81 r6 (1 : Int)) 82 r6 (1 : Int)) 83 r6 (0 : Int)) 84 r6 (0 : Int)) 85 r6 (0 : Int)) 86 r6 (0 : Int)) [68, 69, 70] g150) [68, 69, 70] g165) [68] g177) := Eq.mpr (congrArg (fun Z => sv_T sm_XS sm_cs sm_L sm_sh 2 (q_newLabel p1 p2 S) 252 74 [(0, .ref 0), (1, sv_I p1), (2, sv_I p2), (3, sv_I r6), (4, sv_I (l4_151 + (1 : Int)))] [] Z) eS) hb
          exact sv_less (lv := [(0, .ref 0), (1, sv_I p1), (2, sv_I p2), (3, sv_I r6), (4, sv_I (l4_151 + (1 : Int)))]) (sv_Sub_cons rfl (sv_Sub_cons rfl (sv_Sub_cons rfl (sv_Sub_cons rfl (sv_Sub_cons rfl sv_Sub_nil))))) hb
      have eS := sv_mod.eq (sv_mod.rf (l := [68, 69, 70]) (S := (sv_up (sv_up (sv_up (sv_up (sv_up (sv_up S 81 r6 (1 : Int)) 82 r6 (1 : Int)) 83 r6 (0 : Int)) 84 r6 (0 : Int)) 85 r6 (0 : Int)) 86 r6 (0 : Int))))
      have hb := hJ ((0 : Int), (sv_up (sv_up (sv_up (sv_up (sv_up (sv_up S 81 r6 (1 : Int)) 82 r6 (1 : Int)) 83 r6 (0 : Int)) 84 r6 (0 : Int)) 85 r6 (0 : Int)) 86 r6 (0 : Int))) ⟨(⟨by decide, by decide⟩ : sv_R (0 : Int)), (by rw [← eS]; exact ok148), hin153⟩
      have hb : sv_T sm_XS sm_cs sm_L sm_sh 2 (q_newLabel p1 p2 S) 252 74 [(0, .ref 0), (1, sv_I p1), (2, sv_I p2), (3, sv_I r6), (4, sv_I (0 : Int))] [] (sv_up (sv_up (sv_up (sv_up (sv_up (sv_up S 81 r6 (1 : Int)) 82 r6 (1 : Int)) 83 r6 (0 : Int)) 84 r6 (0 : Int)) 85 r6 (0 : Int)) 86 r6 (0 : Int)) := Eq.mpr (congrArg (fun Z => sv_T sm_XS sm_cs sm_L sm_sh 2 (q_newLabel p1 p2 S) 252 74 [(0, .ref 0), (1, sv_I p1), (2, sv_I p2), (3, sv_I r6), (4, sv_I (0 : Int))] [] Z) eS) hb
      exact hb
def q_fresh_ (p1 : Int) (p2 : Int) (S : sv_S) : Option Value → sv_S → Prop := fun v S' => ∃ r : Int, v = some (sv_I r) ∧ sv_R r ∧ sm_ok S' ∧ sv_mod [68, 69, 70] S S' ∧ (sm_pt (S' 68) (S' 69) (S' 70) = sm_pt (S 68) (S 69) (S 70) ∧ 635640 ≤ r ∧ r < 647340)
theorem la_fresh__0 {x0 x1 x2 x3 x4 x5 x6 : Int} (h0 : x0 ≤ 127) (h1 : 0 ≤ x1) (h2 : x1 ≤ 11557) (h3 : 0 ≤ x2) (h4 : x2 < x0) (h5 : 0 ≤ x3) (h6 : x3 ≤ x4) : 0 ≤ x1 ∧ x1 ≤ 11557 ∧ (0 : Int) ≤ 639 ∧ ((639 : Int) = 639 ∨ 639 < x5 + 2 * x6) ∧ 0 ≤ x2 ∧ (x2 < x0 ∨ (639 : Int) = 639 ∧ x2 < 128) ∧ 0 ≤ x3 ∧ x3 ≤ x4 := by omega
theorem la_fresh__1 : (639 : Int) = 639 := by omega
theorem la_fresh__2 : ¬ ¬ (639 : Int) = 639 := by omega
theorem la_fresh__3 {x0 : Int} (h0 : 635640 ≤ x0) (h1 : x0 < 647340) : 0 ≤ x0 ∧ x0 < 647800 := by omega
theorem la_fresh__4 {x0 : Int} (h0 : 635640 ≤ x0) : 635639 ≤ x0 := by omega
set_option maxHeartbeats 2000000 in
theorem f_fresh_ : ∀ (p1 : Int) (p2 : Int) (S : sv_S), sm_ok S → sv_R p1 → sv_R p2 → (29 ≤ (S 1071 0) ∧ (S 1071 0) ≤ 127 ∧ 31 ≤ (S 1008 0) ∧ (S 1008 0) ≤ 90 ∧ 1 ≤ (S 1032 0) ∧ (S 1032 0) ≤ 11 ∧ 0 ≤ (S 1055 0) ∧ (S 1055 0) ≤ 19 ∧ (S 1071 0) = 29 + 6 * ((S 1032 0) - 1) + 2 * (S 1055 0) ∧ 0 ≤ (S 1046 0) ∧ (S 1046 0) + 2 * (S 1032 0) ≤ 500 ∧ sm_PD (S 1046 0) (S 1032 0) (S 1071 0) (S 1008 0) ∧ 0 ≤ (S 1071 0) * ((S 1008 0) + 1) ∧ (S 1071 0) * ((S 1008 0) + 1) ≤ 11557 ∧ 0 ≤ p1 ∧ p1 < (S 1071 0) ∧ 0 ≤ p2 ∧ p2 ≤ (S 1008 0)) → (29 ≤ (S 1071 0) ∧ (S 1071 0) ≤ 127 ∧ 31 ≤ (S 1008 0) ∧ (S 1008 0) ≤ 90 ∧ 1 ≤ (S 1032 0) ∧ (S 1032 0) ≤ 11 ∧ 0 ≤ (S 1055 0) ∧ (S 1055 0) ≤ 19 ∧ (S 1071 0) = 29 + 6 * ((S 1032 0) - 1) + 2 * (S 1055 0) ∧ 0 ≤ (S 1046 0) ∧ (S 1046 0) + 2 * (S 1032 0) ≤ 500 ∧ sm_PD (S 1046 0) (S 1032 0) (S 1071 0) (S 1008 0) ∧ 0 ≤ (S 1071 0) * ((S 1008 0) + 1) ∧ (S 1071 0) * ((S 1008 0) + 1) ≤ 11557 ∧ 0 ≤ (639 : Int) ∧ ((639 : Int) = 639 ∨ (639 : Int) < (S 1046 0) + 2 * (S 1032 0)) ∧ 0 ≤ p1 ∧ (p1 < (S 1071 0) ∨ ((639 : Int) = 639 ∧ p1 < 128)) ∧ 0 ≤ p2 ∧ p2 ≤ (S 1008 0)) ∧ (∀ r6 : Int, sv_R r6 → (((639 : Int) = 639 → 635640 ≤ r6 ∧ r6 < 647340) ∧ (¬ (639 : Int) = 639 → 0 ≤ r6 ∧ r6 < 464520)) → (0 ≤ r6 ∧ r6 < 647800) ∧ (∀ g8 : sv_S, (635639 ≤ r6 → sm_pt (g8 68) (g8 69) (g8 70) = sm_pt (S 68) (S 69) (S 70)) → (sm_pt (g8 68) (g8 69) (g8 70) = sm_pt (S 68) (S 69) (S 70) ∧ 635640 ≤ r6 ∧ r6 < 647340))) := by
  intro p1
  intro p2
  intro S
  intro h1_
  intro h2_
  intro h3_
  rintro ⟨h4_, ⟨h5_, ⟨h6_, ⟨h7_, ⟨h8_, ⟨h9_, ⟨h10_, ⟨h11_, ⟨h12_, ⟨h13_, ⟨h14_, ⟨h15_, ⟨h16_, ⟨h17_, ⟨h18_, ⟨h19_, ⟨h20_, h21_⟩⟩⟩⟩⟩⟩⟩⟩⟩⟩⟩⟩⟩⟩⟩⟩⟩
  refine ⟨⟨h4_, ⟨h5_, ⟨h6_, ⟨h7_, ⟨h8_, ⟨h9_, ⟨h10_, ⟨h11_, ⟨h12_, ⟨h13_, ⟨h14_, ⟨h15_, (la_fresh__0 h5_ h16_ h17_ h18_ h19_ h20_ h21_)⟩⟩⟩⟩⟩⟩⟩⟩⟩⟩⟩⟩, ?_⟩
  intro r6
  intro h22_
  rintro ⟨h23_, h24_⟩
  obtain ⟨h25_, h26_⟩ := (h23_ la_fresh__1)
  refine ⟨(la_fresh__3 h25_ h26_), ?_⟩
  intro g8
  intro h27_
  have h28_ := (h27_ (la_fresh__4 h25_))
  refine ⟨h28_, ?_⟩
  refine ⟨h25_, ?_⟩
  exact h26_
set_option maxRecDepth 8000 in
set_option maxHeartbeats 2000000 in
theorem t_fresh_ : ∀ (p1 : Int) (p2 : Int) (S : sv_S), sm_ok S → sv_R p1 → sv_R p2 → (29 ≤ (S 1071 0) ∧ (S 1071 0) ≤ 127 ∧ 31 ≤ (S 1008 0) ∧ (S 1008 0) ≤ 90 ∧ 1 ≤ (S 1032 0) ∧ (S 1032 0) ≤ 11 ∧ 0 ≤ (S 1055 0) ∧ (S 1055 0) ≤ 19 ∧ (S 1071 0) = 29 + 6 * ((S 1032 0) - 1) + 2 * (S 1055 0) ∧ 0 ≤ (S 1046 0) ∧ (S 1046 0) + 2 * (S 1032 0) ≤ 500 ∧ sm_PD (S 1046 0) (S 1032 0) (S 1071 0) (S 1008 0) ∧ 0 ≤ (S 1071 0) * ((S 1008 0) + 1) ∧ (S 1071 0) * ((S 1008 0) + 1) ≤ 11557 ∧ 0 ≤ p1 ∧ p1 < (S 1071 0) ∧ 0 ≤ p2 ∧ p2 ≤ (S 1008 0)) → sv_T sm_XS sm_cs sm_L sm_sh 2 (q_fresh_ p1 p2 S) 253 0 (lv_args 0 [.ref 0, sv_I p1, sv_I p2]) [] S := by
  intro p1 p2 S hok hp1 hp2 hpre
  have h := f_fresh_ p1 p2 S hok hp1 hp2 hpre
  have hM := sm_h253
  show sv_T sm_XS sm_cs sm_L sm_sh 2 (q_fresh_ p1 p2 S) 253 0 [(0, .ref 0), (1, sv_I p1), (2, sv_I p2)] [] S
  refine sv_aload_n hM dX12_fresh__0 rfl rfl ?_
  refine sv_sipush (d := (639 : Int)) hM dX12_fresh__1 rfl rfl ?_
  refine sv_iload_n hM dX12_fresh__4 rfl rfl ?_
  refine sv_iload_n hM dX12_fresh__5 rfl rfl ?_
  obtain ⟨o1, h⟩ := h
  refine sv_callV hM dX12_fresh__6 sm_iv_1163 (by decide) (sm_a0 _) rfl rfl (Nat.le_of_ble_eq_true rfl) sm_h225 (Nat.le_of_ble_eq_true rfl) (Nat.le_of_ble_eq_true rfl) (F' := 1) (Nat.le_of_ble_eq_true rfl) rfl (t_field (639 : Int) p1 p2 S hok (⟨by decide, by decide⟩ : sv_R (639 : Int)) hp1 hp2 o1) (fun v S1 hq => ?_)
  obtain ⟨r6, rfl, hr6, ok3, md4, hpo5⟩ := hq
  obtain rfl : S = S1 := (funext fun j => md4 j (by intro q; cases q)).symm
  show sv_T sm_XS sm_cs sm_L sm_sh 2 (q_fresh_ p1 p2 S) 253 9 [(0, .ref 0), (1, sv_I p1), (2, sv_I p2)] [sv_I r6] S
  have h := h r6 hr6 hpo5
  refine sv_istore_n hM dX12_fresh__9 (by decide) rfl ?_
  show sv_T sm_XS sm_cs sm_L sm_sh 2 (q_fresh_ p1 p2 S) 253 10 [(0, .ref 0), (1, sv_I p1), (2, sv_I p2), (3, sv_I r6)] [] S
  refine sv_aload_n hM dX12_fresh__10 rfl rfl ?_
  refine sv_iload_n hM dX12_fresh__11 rfl rfl ?_
  obtain ⟨o7, h⟩ := h
  refine sv_callV hM dX12_fresh__12 sm_iv_1066 (by decide) (sm_a0 _) rfl rfl (Nat.le_of_ble_eq_true rfl) sm_h206 (Nat.le_of_ble_eq_true rfl) (Nat.le_of_ble_eq_true rfl) (F' := 0) (Nat.le_of_ble_eq_true rfl) rfl (t_empty r6 S ok3 hr6 o7) (fun v S1 hq => ?_)
  obtain ⟨rfl, ok9, md10, hpo11⟩ := hq
  obtain ⟨g8, rfl⟩ : ∃ g, S1 = sv_sts S [68, 69, 70] g := ⟨_, md10.eq⟩
  show sv_T sm_XS sm_cs sm_L sm_sh 2 (q_fresh_ p1 p2 S) 253 15 [(0, .ref 0), (1, sv_I p1), (2, sv_I p2), (3, sv_I r6)] [] (sv_sts S [68, 69, 70] g8)
  have md12 : sv_mod [68, 69, 70] S (sv_sts S [68, 69, 70] g8) := sv_mod.sts sv_mod.rf (by decide)
  have h := h g8 hpo11
  refine sv_iload_n hM dX12_fresh__15 rfl rfl ?_
  exact sv_iret hM dX12_fresh__16 rfl rfl ⟨r6, rfl, hr6, ok9, md12, h⟩
def q_addNew (p1 : Int) (p2 : Int) (p3 : Int) (p4 : Int) (S : sv_S) : Option Value → sv_S → Prop := fun v S' => v = none ∧ sm_ok S' ∧ sv_mod [68, 69, 70, 1143, 1144, 5, 1011, 81, 82, 83, 84, 85, 86] S S' ∧ (sm_pt (S' 68) (S' 69) (S' 70) = sm_pt (S 68) (S 69) (S 70) ∧ sm_pl (S' 81) (S' 82) (S' 83) (S' 84) (S' 85) (S' 86) = sm_pl (S 81) (S 82) (S 83) (S 84) (S 85) (S 86))
theorem la_addNew_0 {x0 x1 x2 x3 x4 : Int} (h0 : x0 ≤ 127) (h1 : 0 ≤ x1) (h2 : x1 ≤ 11557) (h3 : 0 ≤ x2) (h4 : x2 < x0) : 0 ≤ x1 ∧ x1 ≤ 11557 ∧ (0 : Int) ≤ 639 ∧ ((639 : Int) = 639 ∨ 639 < x3 + 2 * x4) ∧ 0 ≤ x2 ∧ (x2 < x0 ∨ (639 : Int) = 639 ∧ x2 < 128) := by omega
theorem la_addNew_1 : (639 : Int) = 639 := by omega
theorem la_addNew_2 : ¬ ¬ (639 : Int) = 639 := by omega
theorem la_addNew_3 {x0 x1 x2 : Int} (h0 : x0 ≤ 127) (h1 : 0 ≤ x1) (h2 : x1 < x0) (h3 : x2 = 15000 + x1) : 0 ≤ x2 ∧ x2 < 15128 := by omega
theorem la_addNew_4 {x0 x1 : Int} (h0 : 31 ≤ x0) : (0 : Int) ≤ 0 ∧ 0 ≤ x0 + 1 ∧ x1 = x1 := by omega
theorem la_addNew_5 {x0 x1 : Int} (h0 : x0 ≤ x1 + 1) : 0 ≤ x1 + 1 - x0 := by omega
theorem la_addNew_6 {x0 x1 : Int} (h0 : 0 ≤ x0) (h1 : x1 = 15000 + x0) : 15000 ≤ x1 := by omega
theorem la_addNew_7 {x0 x1 x2 : Int} (h0 : x0 = x1) (h1 : x1 = x2) : x0 = x2 := by omega
theorem la_addNew_8 {x0 x1 x2 x3 x4 x5 x6 : Int} (h0 : x0 ≤ 127) (h1 : 0 ≤ x1) (h2 : x1 ≤ 11557) (h3 : 0 ≤ x2) (h4 : x2 < x0) (h5 : 0 ≤ x3) (h6 : ¬ x4 < x3) : 0 ≤ x1 ∧ x1 ≤ 11557 ∧ (0 : Int) ≤ 639 ∧ ((639 : Int) = 639 ∨ 639 < x5 + 2 * x6) ∧ 0 ≤ x2 ∧ (x2 < x0 ∨ (639 : Int) = 639 ∧ x2 < 128) ∧ 0 ≤ x3 ∧ x3 ≤ x4 := by omega
theorem la_addNew_9 {x0 : Int} (h0 : x0 = (-1)) : ¬ (0 ≤ x0 ∧ x0 < 647800) := by omega
theorem la_addNew_10 {x0 : Int} (h0 : 635640 ≤ x0) (h1 : x0 < 647340) : 635639 ≤ x0 ∧ x0 < 647790 := by omega
theorem la_addNew_11 {x0 x1 : Int} (h0 : x0 ≤ 90) (h1 : 0 ≤ x1) (h2 : ¬ x0 < x1) : sv_R (x1 + 1) := by omega
theorem la_addNew_12 {x0 x1 x2 x3 x4 : Int} (h0 : 0 ≤ x0) (h1 : x1 = x2) (h2 : ¬ x3 < x0) (h3 : x4 = x1) : 0 ≤ x0 + 1 ∧ x0 + 1 ≤ x3 + 1 ∧ x4 = x2 := by omega
theorem la_addNew_13 {x0 x1 : Int} : x0 + 1 - (x1 + 1) < x0 + 1 - x1 := by omega
theorem la_addNew_14 {x0 : Int} (h0 : 0 ≤ x0) : (-1) ≤ x0 := by omega
theorem la_addNew_15 {x0 : Int} (h0 : (-1) ≤ x0) (h1 : ¬ x0 = (-1)) : (-1) < x0 := by omega
theorem la_addNew_16 {x0 : Int} (h0 : 635640 ≤ x0) : 635639 ≤ x0 := by omega
theorem la_addNew_17 {x0 : Int} (h0 : x0 < 647340) : x0 < 647790 := by omega
theorem la_addNew_18 {x0 : Int} (h0 : 0 ≤ x0) (h1 : x0 ≤ 11557) : 0 ≤ x0 ∧ x0 ≤ 11557 := by omega
theorem la_addNew_19 {x0 : Int} (h0 : ¬ ¬ x0 = 3) : sv_R (x0 + 1) := by omega
theorem la_addNew_20 {x0 x1 x2 x3 x4 : Int} (h0 : 31 ≤ x0) (h1 : x1 = x2) (h2 : ¬ ¬ x3 = 3) (h3 : x4 = x1) : 0 ≤ x3 + 1 ∧ x3 + 1 ≤ x0 + 1 ∧ x4 = x2 := by omega
theorem la_addNew_21 {x0 : Int} (h0 : 0 ≤ x0) (h1 : ¬ x0 = 0) : 0 < x0 := by omega
theorem la_addNew_22 {x0 x1 : Int} (h0 : x0 ≤ 90) (h1 : ¬ x0 < x1) (h2 : 0 < x1) : sv_R (x1 + 1) := by omega
theorem la_addNew_23 {x0 x1 x2 x3 x4 : Int} (h0 : x0 = x1) (h1 : ¬ x2 < x3) (h2 : 0 < x3) (h3 : x4 = x0) : 0 ≤ x3 + 1 ∧ x3 + 1 ≤ x2 + 1 ∧ x4 = x1 := by omega
theorem la_addNew_24 {x0 : Int} (h0 : ¬ ¬ x0 = 0) : sv_R (x0 + 1) := by omega
theorem la_addNew_25 {x0 x1 x2 x3 x4 : Int} (h0 : 31 ≤ x0) (h1 : x1 = x2) (h2 : ¬ ¬ x3 = 0) (h3 : x4 = x1) : 0 ≤ x3 + 1 ∧ x3 + 1 ≤ x0 + 1 ∧ x4 = x2 := by omega
set_option maxHeartbeats 2000000 in
theorem f_addNew : ∀ (p1 : Int) (p2 : Int) (p3 : Int) (p4 : Int) (S : sv_S), sm_ok S → sv_R p1 → sv_R p2 → (0 ≤ p3 ∧ p3 ≤ 1) → sv_R p4 → (29 ≤ (S 1071 0) ∧ (S 1071 0) ≤ 127 ∧ 31 ≤ (S 1008 0) ∧ (S 1008 0) ≤ 90 ∧ 1 ≤ (S 1032 0) ∧ (S 1032 0) ≤ 11 ∧ 0 ≤ (S 1055 0) ∧ (S 1055 0) ≤ 19 ∧ (S 1071 0) = 29 + 6 * ((S 1032 0) - 1) + 2 * (S 1055 0) ∧ 0 ≤ (S 1046 0) ∧ (S 1046 0) + 2 * (S 1032 0) ≤ 500 ∧ sm_PD (S 1046 0) (S 1032 0) (S 1071 0) (S 1008 0) ∧ 0 ≤ (S 1071 0) * ((S 1008 0) + 1) ∧ (S 1071 0) * ((S 1008 0) + 1) ≤ 11557 ∧ 31 ≤ (S 1007 0) ∧ (S 1007 0) ≤ 400 ∧ sm_LN (S 4) 400 (S 1007 0) ∧ 0 ≤ p1 ∧ p1 < (S 1071 0) ∧ 0 ≤ p2 ∧ p2 ≤ 63 ∧ (p4 = -1 ∨ (0 ≤ p4 ∧ p4 < 647800))) → (29 ≤ (S 1071 0) ∧ (S 1071 0) ≤ 127 ∧ 31 ≤ (S 1008 0) ∧ (S 1008 0) ≤ 90 ∧ 1 ≤ (S 1032 0) ∧ (S 1032 0) ≤ 11 ∧ 0 ≤ (S 1055 0) ∧ (S 1055 0) ≤ 19 ∧ (S 1071 0) = 29 + 6 * ((S 1032 0) - 1) + 2 * (S 1055 0) ∧ 0 ≤ (S 1046 0) ∧ (S 1046 0) + 2 * (S 1032 0) ≤ 500 ∧ sm_PD (S 1046 0) (S 1032 0) (S 1071 0) (S 1008 0) ∧ 0 ≤ (S 1071 0) * ((S 1008 0) + 1) ∧ (S 1071 0) * ((S 1008 0) + 1) ≤ 11557 ∧ 0 ≤ (639 : Int) ∧ ((639 : Int) = 639 ∨ (639 : Int) < (S 1046 0) + 2 * (S 1032 0)) ∧ 0 ≤ p1 ∧ (p1 < (S 1071 0) ∨ ((639 : Int) = 639 ∧ p1 < 128))) ∧ (∀ r6 : Int, sv_R r6 → (((639 : Int) = 639 → r6 = 15000 + p1) ∧ (¬ (639 : Int) = 639 → 0 ≤ r6 ∧ r6 < 14520)) → (0 ≤ r6 ∧ r6 < 15128) ∧ (sv_RL (S 83 r6) → (∀ r11 : Int, sv_RL r11 → (∀ r12 : Int, sv_RL r12 → ((0 ≤ (0 : Int) ∧ (0 : Int) ≤ (S 1008 0) + 1 ∧ sm_pt (S 68) (S 69) (S 70) = sm_pt (S 68) (S 69) (S 70)) ∧ (∀ l6_16 : Int, sv_R l6_16 → ∀ g15 : sv_S, (0 ≤ l6_16 ∧ l6_16 ≤ (S 1008 0) + 1 ∧ sm_pt (g15 68) (g15 69) (g15 70) = sm_pt (S 68) (S 69) (S 70)) → (0 ≤ (S 1008 0) + 1 - l6_16) ∧ (sv_R (S 1008 0) → ((((S 1008 0) < l6_16) → (sm_pt (g15 68) (g15 69) (g15 70) = sm_pt (S 68) (S 69) (S 70) ∧ sm_pl (fun i' : Int => if i' = r6 then (1 : Int) else (S 81) i') (S 82) (fun i' : Int => if i' = r6 then r12 else (S 83) i') (S 84) (S 85) (S 86) = sm_pl (S 81) (S 82) (S 83) (S 84) (S 85) (S 86))) ∧ ((¬ ((S 1008 0) < l6_16)) → (29 ≤ (S 1071 0) ∧ (S 1071 0) ≤ 127 ∧ 31 ≤ (S 1008 0) ∧ (S 1008 0) ≤ 90 ∧ 1 ≤ (S 1032 0) ∧ (S 1032 0) ≤ 11 ∧ 0 ≤ (S 1055 0) ∧ (S 1055 0) ≤ 19 ∧ (S 1071 0) = 29 + 6 * ((S 1032 0) - 1) + 2 * (S 1055 0) ∧ 0 ≤ (S 1046 0) ∧ (S 1046 0) + 2 * (S 1032 0) ≤ 500 ∧ sm_PD (S 1046 0) (S 1032 0) (S 1071 0) (S 1008 0) ∧ 0 ≤ (S 1071 0) * ((S 1008 0) + 1) ∧ (S 1071 0) * ((S 1008 0) + 1) ≤ 11557 ∧ 0 ≤ (639 : Int) ∧ ((639 : Int) = 639 ∨ (639 : Int) < (S 1046 0) + 2 * (S 1032 0)) ∧ 0 ≤ p1 ∧ (p1 < (S 1071 0) ∨ ((639 : Int) = 639 ∧ p1 < 128)) ∧ 0 ≤ l6_16 ∧ l6_16 ≤ (S 1008 0)) ∧ (∀ r28 : Int, sv_R r28 → (((639 : Int) = 639 → 635640 ≤ r28 ∧ r28 < 647340) ∧ (¬ (639 : Int) = 639 → 0 ≤ r28 ∧ r28 < 464520)) → (((p3 = (0 : Int)) → (((p4 = (-1 : Int)) → (635639 ≤ r28 ∧ r28 < 647790) ∧ (∀ g30 : sv_S, (sm_pt (g30 68) (g30 69) (g30 70) = sm_pt (g15 68) (g15 69) (g15 70)) → (sv_R (l6_16 + (1 : Int))) ∧ ((0 ≤ (l6_16 + (1 : Int)) ∧ (l6_16 + (1 : Int)) ≤ (S 1008 0) + 1 ∧ sm_pt (g30 68) (g30 69) (g30 70) = sm_pt (S 68) (S 69) (S 70)) ∧ ((S 1008 0) + 1 - (l6_16 + (1 : Int))) < ((S 1008 0) + 1 - l6_16)))) ∧ ((¬ (p4 = (-1 : Int))) → (((¬ l6_16 = (3 : Int)) → (635639 ≤ r28 ∧ r28 < 647790) ∧ (∀ g38 : sv_S, (sm_pt (g38 68) (g38 69) (g38 70) = sm_pt (g15 68) (g15 69) (g15 70)) → (sv_R (l6_16 + (1 : Int))) ∧ ((0 ≤ (l6_16 + (1 : Int)) ∧ (l6_16 + (1 : Int)) ≤ (S 1008 0) + 1 ∧ sm_pt (g38 68) (g38 69) (g38 70) = sm_pt (S 68) (S 69) (S 70)) ∧ ((S 1008 0) + 1 - (l6_16 + (1 : Int))) < ((S 1008 0) + 1 - l6_16)))) ∧ ((¬ (¬ l6_16 = (3 : Int))) → (31 ≤ (S 1007 0) ∧ (S 1007 0) ≤ 400 ∧ sm_LN (S 4) 400 (S 1007 0) ∧ 0 ≤ p4 ∧ p4 < 647800 ∧ 635639 ≤ r28 ∧ r28 < 647790 ∧ 29 ≤ (S 1071 0) ∧ (S 1071 0) ≤ 127 ∧ 31 ≤ (S 1008 0) ∧ (S 1008 0) ≤ 90 ∧ 1 ≤ (S 1032 0) ∧ (S 1032 0) ≤ 11 ∧ 0 ≤ (S 1055 0) ∧ (S 1055 0) ≤ 19 ∧ (S 1071 0) = 29 + 6 * ((S 1032 0) - 1) + 2 * (S 1055 0) ∧ 0 ≤ (S 1046 0) ∧ (S 1046 0) + 2 * (S 1032 0) ≤ 500 ∧ sm_PD (S 1046 0) (S 1032 0) (S 1071 0) (S 1008 0) ∧ 0 ≤ (S 1071 0) * ((S 1008 0) + 1) ∧ (S 1071 0) * ((S 1008 0) + 1) ≤ 11557) ∧ (∀ g46 : sv_S, (sm_pt (g46 68) (g46 69) (g46 70) = sm_pt (g15 68) (g15 69) (g15 70)) → (sv_R (l6_16 + (1 : Int))) ∧ ((0 ≤ (l6_16 + (1 : Int)) ∧ (l6_16 + (1 : Int)) ≤ (S 1008 0) + 1 ∧ sm_pt (g46 68) (g46 69) (g46 70) = sm_pt (S 68) (S 69) (S 70)) ∧ ((S 1008 0) + 1 - (l6_16 + (1 : Int))) < ((S 1008 0) + 1 - l6_16)))))))) ∧ ((¬ (p3 = (0 : Int))) → (((¬ l6_16 = (0 : Int)) → (((p4 = (-1 : Int)) → (635639 ≤ r28 ∧ r28 < 647790) ∧ (∀ g54 : sv_S, (sm_pt (g54 68) (g54 69) (g54 70) = sm_pt (g15 68) (g15 69) (g15 70)) → (sv_R (l6_16 + (1 : Int))) ∧ ((0 ≤ (l6_16 + (1 : Int)) ∧ (l6_16 + (1 : Int)) ≤ (S 1008 0) + 1 ∧ sm_pt (g54 68) (g54 69) (g54 70) = sm_pt (S 68) (S 69) (S 70)) ∧ ((S 1008 0) + 1 - (l6_16 + (1 : Int))) < ((S 1008 0) + 1 - l6_16)))) ∧ ((¬ (p4 = (-1 : Int))) → (((¬ l6_16 = (3 : Int)) → (635639 ≤ r28 ∧ r28 < 647790) ∧ (∀ g62 : sv_S, (sm_pt (g62 68) (g62 69) (g62 70) = sm_pt (g15 68) (g15 69) (g15 70)) → (sv_R (l6_16 + (1 : Int))) ∧ ((0 ≤ (l6_16 + (1 : Int)) ∧ (l6_16 + (1 : Int)) ≤ (S 1008 0) + 1 ∧ sm_pt (g62 68) (g62 69) (g62 70) = sm_pt (S 68) (S 69) (S 70)) ∧ ((S 1008 0) + 1 - (l6_16 + (1 : Int))) < ((S 1008 0) + 1 - l6_16)))) ∧ ((¬ (¬ l6_16 = (3 : Int))) → (31 ≤ (S 1007 0) ∧ (S 1007 0) ≤ 400 ∧ sm_LN (S 4) 400 (S 1007 0) ∧ 0 ≤ p4 ∧ p4 < 647800 ∧ 635639 ≤ r28 ∧ r28 < 647790 ∧ 29 ≤ (S 1071 0) ∧ (S 1071 0) ≤ 127 ∧ 31 ≤ (S 1008 0) ∧ (S 1008 0) ≤ 90 ∧ 1 ≤ (S 1032 0) ∧ (S 1032 0) ≤ 11 ∧ 0 ≤ (S 1055 0) ∧ (S 1055 0) ≤ 19 ∧ (S 1071 0) = 29 + 6 * ((S 1032 0) - 1) + 2 * (S 1055 0) ∧ 0 ≤ (S 1046 0) ∧ (S 1046 0) + 2 * (S 1032 0) ≤ 500 ∧ sm_PD (S 1046 0) (S 1032 0) (S 1071 0) (S 1008 0) ∧ 0 ≤ (S 1071 0) * ((S 1008 0) + 1) ∧ (S 1071 0) * ((S 1008 0) + 1) ≤ 11557) ∧ (∀ g70 : sv_S, (sm_pt (g70 68) (g70 69) (g70 70) = sm_pt (g15 68) (g15 69) (g15 70)) → (sv_R (l6_16 + (1 : Int))) ∧ ((0 ≤ (l6_16 + (1 : Int)) ∧ (l6_16 + (1 : Int)) ≤ (S 1008 0) + 1 ∧ sm_pt (g70 68) (g70 69) (g70 70) = sm_pt (S 68) (S 69) (S 70)) ∧ ((S 1008 0) + 1 - (l6_16 + (1 : Int))) < ((S 1008 0) + 1 - l6_16)))))))) ∧ ((¬ (¬ l6_16 = (0 : Int))) → (635639 ≤ r28 ∧ r28 < 647790) ∧ (∀ g78 : sv_S, (sm_pt (g78 68) (g78 69) (g78 70) = sm_pt (g15 68) (g15 69) (g15 70)) → (sv_R (l6_16 + (1 : Int))) ∧ ((0 ≤ (l6_16 + (1 : Int)) ∧ (l6_16 + (1 : Int)) ≤ (S 1008 0) + 1 ∧ sm_pt (g78 68) (g78 69) (g78 70) = sm_pt (S 68) (S 69) (S 70)) ∧ ((S 1008 0) + 1 - (l6_16 + (1 : Int))) < ((S 1008 0) + 1 - l6_16))))))))))))))))) := by
  intro p1
  intro p2
  intro p3
  intro p4
  intro S
  intro h1_
  intro h2_
  intro h3_
  rintro ⟨h4_, h5_⟩
  intro h6_
  rintro ⟨h7_, ⟨h8_, ⟨h9_, ⟨h10_, ⟨h11_, ⟨h12_, ⟨h13_, ⟨h14_, ⟨h15_, ⟨h16_, ⟨h17_, ⟨h18_, ⟨h19_, ⟨h20_, ⟨h21_, ⟨h22_, ⟨h23_, ⟨h24_, ⟨h25_, ⟨h26_, ⟨h27_, h28_⟩⟩⟩⟩⟩⟩⟩⟩⟩⟩⟩⟩⟩⟩⟩⟩⟩⟩⟩⟩⟩
  refine ⟨⟨h7_, ⟨h8_, ⟨h9_, ⟨h10_, ⟨h11_, ⟨h12_, ⟨h13_, ⟨h14_, ⟨h15_, ⟨h16_, ⟨h17_, ⟨h18_, (la_addNew_0 h8_ h19_ h20_ h24_ h25_)⟩⟩⟩⟩⟩⟩⟩⟩⟩⟩⟩⟩, ?_⟩
  intro r6
  intro h29_
  rintro ⟨h30_, h31_⟩
  have h32_ := (h30_ la_addNew_1)
  refine ⟨(la_addNew_3 h8_ h24_ h25_ h32_), ?_⟩
  intro h33_
  intro r11
  intro h34_
  intro r12
  intro h35_
  refine ⟨(la_addNew_4 h9_), ?_⟩
  intro l6_16
  intro h36_
  intro g15
  rintro ⟨h37_, ⟨h38_, h39_⟩⟩
  refine ⟨(la_addNew_5 h38_), ?_⟩
  intro h40_
  refine ⟨?_, ?_⟩
  · skip
    intro h41_
    refine ⟨h39_, ?_⟩
    have e42_ : sm_pl (fun i' : Int => (if i' = r6 then 1 else (S 81) i')) (S 82) (fun i' : Int => (if i' = r6 then r12 else (S 83) i')) (S 84) (S 85) (S 86) = sm_pl (fun i' : Int => (if i' = r6 then 1 else (S 81) i')) (S 82) (S 83) (S 84) (S 85) (S 86) := sm_pl_A (la_addNew_6 h24_ h32_)
    have e43_ : sm_pl (fun i' : Int => (if i' = r6 then 1 else (S 81) i')) (S 82) (S 83) (S 84) (S 85) (S 86) = sm_pl (S 81) (S 82) (S 83) (S 84) (S 85) (S 86) := sm_pl_T (la_addNew_6 h24_ h32_)
    exact (la_addNew_7 e42_ e43_)
  intro h44_
  refine ⟨⟨h7_, ⟨h8_, ⟨h9_, ⟨h10_, ⟨h11_, ⟨h12_, ⟨h13_, ⟨h14_, ⟨h15_, ⟨h16_, ⟨h17_, ⟨h18_, (la_addNew_8 h8_ h19_ h20_ h24_ h25_ h37_ h44_)⟩⟩⟩⟩⟩⟩⟩⟩⟩⟩⟩⟩, ?_⟩
  intro r28
  intro h45_
  rintro ⟨h46_, h47_⟩
  obtain ⟨h48_, h49_⟩ := (h46_ la_addNew_1)
  refine ⟨?_, ?_⟩
  · skip
    intro h50_
    refine ⟨?_, ?_⟩
    · skip
      intro h51_
      have h52_ := (h28_.resolve_right (la_addNew_9 h51_))
      refine ⟨(la_addNew_10 h48_ h49_), ?_⟩
      intro g30
      intro h53_
      refine ⟨(la_addNew_11 h10_ h37_ h44_), ?_⟩
      refine ⟨(la_addNew_12 h37_ h39_ h44_ h53_), ?_⟩
      exact la_addNew_13
    intro h54_
    obtain ⟨h55_, h56_⟩ := (h28_.resolve_left h54_)
    refine ⟨?_, ?_⟩
    · skip
      intro h57_
      refine ⟨(la_addNew_10 h48_ h49_), ?_⟩
      intro g38
      intro h58_
      refine ⟨(la_addNew_11 h10_ h37_ h44_), ?_⟩
      refine ⟨(la_addNew_12 h37_ h39_ h44_ h58_), ?_⟩
      exact la_addNew_13
    intro h59_
    refine ⟨⟨h21_, ⟨h22_, ⟨h23_, ⟨h55_, ⟨h56_, ⟨(la_addNew_16 h48_), ⟨(la_addNew_17 h49_), ⟨h7_, ⟨h8_, ⟨h9_, ⟨h10_, ⟨h11_, ⟨h12_, ⟨h13_, ⟨h14_, ⟨h15_, ⟨h16_, ⟨h17_, ⟨h18_, (la_addNew_18 h19_ h20_)⟩⟩⟩⟩⟩⟩⟩⟩⟩⟩⟩⟩⟩⟩⟩⟩⟩⟩⟩, ?_⟩
    intro g46
    intro h60_
    refine ⟨(la_addNew_19 h59_), ?_⟩
    refine ⟨(la_addNew_20 h9_ h39_ h59_ h60_), ?_⟩
    exact la_addNew_13
  intro h61_
  refine ⟨?_, ?_⟩
  · skip
    intro h62_
    refine ⟨?_, ?_⟩
    · skip
      intro h63_
      have h64_ := (h28_.resolve_right (la_addNew_9 h63_))
      refine ⟨(la_addNew_10 h48_ h49_), ?_⟩
      intro g54
      intro h65_
      refine ⟨(la_addNew_22 h10_ h44_ (la_addNew_21 h37_ h62_)), ?_⟩
      refine ⟨(la_addNew_23 h39_ h44_ (la_addNew_21 h37_ h62_) h65_), ?_⟩
      exact la_addNew_13
    intro h66_
    obtain ⟨h67_, h68_⟩ := (h28_.resolve_left h66_)
    refine ⟨?_, ?_⟩
    · skip
      intro h69_
      refine ⟨(la_addNew_10 h48_ h49_), ?_⟩
      intro g62
      intro h70_
      refine ⟨(la_addNew_22 h10_ h44_ (la_addNew_21 h37_ h62_)), ?_⟩
      refine ⟨(la_addNew_23 h39_ h44_ (la_addNew_21 h37_ h62_) h70_), ?_⟩
      exact la_addNew_13
    intro h71_
    refine ⟨⟨h21_, ⟨h22_, ⟨h23_, ⟨h67_, ⟨h68_, ⟨(la_addNew_16 h48_), ⟨(la_addNew_17 h49_), ⟨h7_, ⟨h8_, ⟨h9_, ⟨h10_, ⟨h11_, ⟨h12_, ⟨h13_, ⟨h14_, ⟨h15_, ⟨h16_, ⟨h17_, ⟨h18_, (la_addNew_18 h19_ h20_)⟩⟩⟩⟩⟩⟩⟩⟩⟩⟩⟩⟩⟩⟩⟩⟩⟩⟩⟩, ?_⟩
    intro g70
    intro h72_
    refine ⟨(la_addNew_19 h71_), ?_⟩
    refine ⟨(la_addNew_20 h9_ h39_ h71_ h72_), ?_⟩
    exact la_addNew_13
  intro h73_
  refine ⟨(la_addNew_10 h48_ h49_), ?_⟩
  intro g78
  intro h74_
  refine ⟨(la_addNew_24 h73_), ?_⟩
  refine ⟨(la_addNew_25 h9_ h39_ h73_ h74_), ?_⟩
  exact la_addNew_13
set_option maxRecDepth 8000 in
set_option maxHeartbeats 2000000 in
theorem t_addNew : ∀ (p1 : Int) (p2 : Int) (p3 : Int) (p4 : Int) (S : sv_S), sm_ok S → sv_R p1 → sv_R p2 → (0 ≤ p3 ∧ p3 ≤ 1) → sv_R p4 → (29 ≤ (S 1071 0) ∧ (S 1071 0) ≤ 127 ∧ 31 ≤ (S 1008 0) ∧ (S 1008 0) ≤ 90 ∧ 1 ≤ (S 1032 0) ∧ (S 1032 0) ≤ 11 ∧ 0 ≤ (S 1055 0) ∧ (S 1055 0) ≤ 19 ∧ (S 1071 0) = 29 + 6 * ((S 1032 0) - 1) + 2 * (S 1055 0) ∧ 0 ≤ (S 1046 0) ∧ (S 1046 0) + 2 * (S 1032 0) ≤ 500 ∧ sm_PD (S 1046 0) (S 1032 0) (S 1071 0) (S 1008 0) ∧ 0 ≤ (S 1071 0) * ((S 1008 0) + 1) ∧ (S 1071 0) * ((S 1008 0) + 1) ≤ 11557 ∧ 31 ≤ (S 1007 0) ∧ (S 1007 0) ≤ 400 ∧ sm_LN (S 4) 400 (S 1007 0) ∧ 0 ≤ p1 ∧ p1 < (S 1071 0) ∧ 0 ≤ p2 ∧ p2 ≤ 63 ∧ (p4 = -1 ∨ (0 ≤ p4 ∧ p4 < 647800))) → sv_T sm_XS sm_cs sm_L sm_sh 6 (q_addNew p1 p2 p3 p4 S) 254 0 (lv_args 0 [.ref 0, sv_I p1, sv_I p2, sv_I p3, sv_I p4]) [] S := by
  intro p1 p2 p3 p4 S hok hp1 hp2 hp3 hp4 hpre
  have h := f_addNew p1 p2 p3 p4 S hok hp1 hp2 hp3 hp4 hpre
  have hM := sm_h254
  show sv_T sm_XS sm_cs sm_L sm_sh 6 (q_addNew p1 p2 p3 p4 S) 254 0 [(0, .ref 0), (1, sv_I p1), (2, sv_I p2), (3, sv_I p3), (4, sv_I p4)] [] S
  refine sv_aload_n hM dX12_addNew_0 rfl rfl ?_
  refine sv_sipush (d := (639 : Int)) hM dX12_addNew_1 rfl rfl ?_
  refine sv_iload_n hM dX12_addNew_4 rfl rfl ?_
  obtain ⟨o1, h⟩ := h
  refine sv_callV hM dX12_addNew_5 sm_iv_1101 (by decide) (sm_a0 _) rfl rfl (Nat.le_of_ble_eq_true rfl) sm_h226 (Nat.le_of_ble_eq_true rfl) (Nat.le_of_ble_eq_true rfl) (F' := 1) (Nat.le_of_ble_eq_true rfl) rfl (t_of (639 : Int) p1 S hok (⟨by decide, by decide⟩ : sv_R (639 : Int)) hp1 o1) (fun v S1 hq => ?_)
  obtain ⟨r6, rfl, hr6, ok3, md4, hpo5⟩ := hq
  obtain rfl : S = S1 := (funext fun j => md4 j (by intro q; cases q)).symm
  show sv_T sm_XS sm_cs sm_L sm_sh 6 (q_addNew p1 p2 p3 p4 S) 254 8 [(0, .ref 0), (1, sv_I p1), (2, sv_I p2), (3, sv_I p3), (4, sv_I p4)] [sv_I r6] S
  have h := h r6 hr6 hpo5
  refine sv_istore hM dX12_addNew_8 (by decide) rfl ?_
  show sv_T sm_XS sm_cs sm_L sm_sh 6 (q_addNew p1 p2 p3 p4 S) 254 10 [(0, .ref 0), (1, sv_I p1), (2, sv_I p2), (3, sv_I p3), (4, sv_I p4), (5, sv_I r6)] [] S
  refine sv_aload_n hM dX12_addNew_10 rfl rfl ?_
  refine sv_getA hM dX12_addNew_11 sm_fl_256 (sm_a0 _) sm_k133 rfl ?_
  refine sv_iload hM dX12_addNew_14 rfl rfl ?_
  refine sv_iconst (d := (1 : Int)) hM dX12_addNew_16 rfl rfl ?_
  obtain ⟨o7, h⟩ := h
  refine sv_zast sm_X hM dX12_addNew_17 (sm_a81 _) (by decide) o7.1 o7.2 (sv_nnZ (⟨by decide, by decide⟩ : 0 ≤ (1 : Int) ∧ (1 : Int) ≤ 1)) rfl ?_
  have ok8 : sm_ok (sv_up S 81 r6 (1 : Int)) := sm_upZ ok3 sm_r81 (⟨by decide, by decide⟩ : 0 ≤ (1 : Int) ∧ (1 : Int) ≤ 1)
  have md9 : sv_mod [68, 69, 70, 1143, 1144, 5, 1011, 81, 82, 83, 84, 85, 86] S (sv_up S 81 r6 (1 : Int)) := sv_mod.up sv_mod.rf (by decide)
  refine sv_aload_n hM dX12_addNew_18 rfl rfl ?_
  refine sv_getA hM dX12_addNew_19 sm_fl_262 (sm_a0 _) sm_k135 rfl ?_
  refine sv_iload hM dX12_addNew_22 rfl rfl ?_
  refine sv_aload_n hM dX12_addNew_24 rfl rfl ?_
  refine sv_getA hM dX12_addNew_25 sm_fl_262 (sm_a0 _) sm_k135 rfl ?_
  refine sv_iload hM dX12_addNew_28 rfl rfl ?_
  have k10 : sv_RL (S 83 r6) := sm_okJ ok8 sm_r83 r6
  have h := h k10
  refine sv_lald hM dX12_addNew_30 (sm_a83 _) (by decide) o7.1 o7.2 rfl (x := (S 83 r6)) rfl ?_
  refine sv_lconst (d := (1 : Int)) hM dX12_addNew_31 rfl rfl ?_
  refine sv_iload_n hM dX12_addNew_32 rfl rfl ?_
  refine sv_anyL hM dX12_addNew_33 rfl rfl (fun r11 hr11 _ => ?_)
  have h := h r11 hr11
  refine sv_anyL hM dX12_addNew_34 rfl rfl (fun r12 hr12 _ => ?_)
  have h := h r12 hr12
  refine sv_last sm_X hM dX12_addNew_35 (sm_a83 _) (by decide) o7.1 o7.2 rfl ?_
  have ok13 : sm_ok (sv_up (sv_up S 81 r6 (1 : Int)) 83 r6 r12) := sm_upJ ok8 sm_r83 hr12
  have md14 : sv_mod [68, 69, 70, 1143, 1144, 5, 1011, 81, 82, 83, 84, 85, 86] S (sv_up (sv_up S 81 r6 (1 : Int)) 83 r6 r12) := sv_mod.up md9 (by decide)
  refine sv_iconst (d := (0 : Int)) hM dX12_addNew_36 rfl rfl ?_
  refine sv_istore hM dX12_addNew_37 (by decide) rfl ?_
  show sv_T sm_XS sm_cs sm_L sm_sh 6 (q_addNew p1 p2 p3 p4 S) 254 39 [(0, .ref 0), (1, sv_I p1), (2, sv_I p2), (3, sv_I p3), (4, sv_I p4), (5, sv_I r6), (6, sv_I (0 : Int))] [] (sv_up (sv_up S 81 r6 (1 : Int)) 83 r6 r12)
  obtain ⟨hin18, h⟩ := h
  have hJ : ∀ a : Int × sv_S, (sv_R a.1 ∧ sm_ok (sv_sts (sv_up (sv_up S 81 r6 (1 : Int)) 83 r6 r12) [68, 69, 70, 1143, 1144, 5, 1011] a.2) ∧ (0 ≤ a.1 ∧ a.1 ≤ (S 1008 0) + 1 ∧ sm_pt (a.2 68) (a.2 69) (a.2 70) = sm_pt (S 68) (S 69) (S 70))) → sv_T sm_XS sm_cs sm_L sm_sh 6 (q_addNew p1 p2 p3 p4 S) 254 39 [(0, .ref 0), (1, sv_I p1), (2, sv_I p2), (3, sv_I p3), (4, sv_I p4), (5, sv_I r6), (6, sv_I a.1)] [] (sv_sts (sv_up (sv_up S 81 r6 (1 : Int)) 83 r6 r12) [68, 69, 70, 1143, 1144, 5, 1011] a.2) := by
    refine sv_loop (α := Int × sv_S) (fun a => sv_R a.1 ∧ sm_ok (sv_sts (sv_up (sv_up S 81 r6 (1 : Int)) 83 r6 r12) [68, 69, 70, 1143, 1144, 5, 1011] a.2) ∧ (0 ≤ a.1 ∧ a.1 ≤ (S 1008 0) + 1 ∧ sm_pt (a.2 68) (a.2 69) (a.2 70) = sm_pt (S 68) (S 69) (S 70))) (fun a => (S 1008 0) + 1 - a.1) (fun a => sv_T sm_XS sm_cs sm_L sm_sh 6 (q_addNew p1 p2 p3 p4 S) 254 39 [(0, .ref 0), (1, sv_I p1), (2, sv_I p2), (3, sv_I p3), (4, sv_I p4), (5, sv_I r6), (6, sv_I a.1)] [] (sv_sts (sv_up (sv_up S 81 r6 (1 : Int)) 83 r6 r12) [68, 69, 70, 1143, 1144, 5, 1011] a.2)) (fun a q => (h a.1 q.1 a.2 q.2.2).1) (fun a q ih17 => ?_)
    obtain ⟨l6_16, g15⟩ := a
    obtain ⟨hl6_16, ok19, hin18i⟩ := q
    have h := (h l6_16 hl6_16 g15 hin18i).2
    show sv_T sm_XS sm_cs sm_L sm_sh 6 (q_addNew p1 p2 p3 p4 S) 254 39 [(0, .ref 0), (1, sv_I p1), (2, sv_I p2), (3, sv_I p3), (4, sv_I p4), (5, sv_I r6), (6, sv_I l6_16)] [] (sv_sts (sv_up (sv_up S 81 r6 (1 : Int)) 83 r6 r12) [68, 69, 70, 1143, 1144, 5, 1011] g15)
    have md20 : sv_mod [68, 69, 70, 1143, 1144, 5, 1011, 81, 82, 83, 84, 85, 86] S (sv_sts (sv_up (sv_up S 81 r6 (1 : Int)) 83 r6 r12) [68, 69, 70, 1143, 1144, 5, 1011] g15) := sv_mod.sts md14 (by decide)
    have md21 : sv_mod [68, 69, 70, 1143, 1144, 5, 1011] (sv_up (sv_up S 81 r6 (1 : Int)) 83 r6 r12) (sv_sts (sv_up (sv_up S 81 r6 (1 : Int)) 83 r6 r12) [68, 69, 70, 1143, 1144, 5, 1011] g15) := sv_mod.sts sv_mod.rf (by decide)
    refine sv_iload hM dX12_addNew_39 rfl rfl ?_
    refine sv_aload_n hM dX12_addNew_41 rfl rfl ?_
    have k22 : sv_R (S 1008 0) := sm_okI ok19 sm_r1008 0
    have h := h k22
    refine sv_getI hM dX12_addNew_42 sm_fl_762 (sm_a0 _) sm_k8 rfl (x := (S 1008 0)) rfl ?_
    refine sv_icmp_gt hM dX12_addNew_45 hl6_16 k22 (t := 117) rfl rfl (fun hc => ?_) (fun hc => ?_)
    · have h := h.1 (hc)
      exact sv_vret hM dX12_addNew_117 rfl ⟨rfl, ok19, md20, h⟩
    · have h := h.2 (hc)
      refine sv_aload_n hM dX12_addNew_48 rfl rfl ?_
      refine sv_sipush (d := (639 : Int)) hM dX12_addNew_49 rfl rfl ?_
      refine sv_iload_n hM dX12_addNew_52 rfl rfl ?_
      refine sv_iload hM dX12_addNew_53 rfl rfl ?_
      obtain ⟨o23, h⟩ := h
      refine sv_callV hM dX12_addNew_55 sm_iv_1163 (by decide) (sm_a0 _) rfl rfl (Nat.le_of_ble_eq_true rfl) sm_h225 (Nat.le_of_ble_eq_true rfl) (Nat.le_of_ble_eq_true rfl) (F' := 1) (Nat.le_of_ble_eq_true rfl) rfl (t_field (639 : Int) p1 l6_16 (sv_sts (sv_up (sv_up S 81 r6 (1 : Int)) 83 r6 r12) [68, 69, 70, 1143, 1144, 5, 1011] g15) ok19 (⟨by decide, by decide⟩ : sv_R (639 : Int)) hp1 hl6_16 o23) (fun v S1 hq => ?_)
      obtain ⟨r28, rfl, hr28, ok25, md26, hpo27⟩ := hq
      obtain rfl : (sv_sts (sv_up (sv_up S 81 r6 (1 : Int)) 83 r6 r12) [68, 69, 70, 1143, 1144, 5, 1011] g15) = S1 := (funext fun j => md26 j (by intro q; cases q)).symm
      show sv_T sm_XS sm_cs sm_L sm_sh 6 (q_addNew p1 p2 p3 p4 S) 254 58 [(0, .ref 0), (1, sv_I p1), (2, sv_I p2), (3, sv_I p3), (4, sv_I p4), (5, sv_I r6), (6, sv_I l6_16)] [sv_I r28] (sv_sts (sv_up (sv_up S 81 r6 (1 : Int)) 83 r6 r12) [68, 69, 70, 1143, 1144, 5, 1011] g15)
      have h := h r28 hr28 hpo27
      refine sv_istore hM dX12_addNew_58 (by decide) rfl ?_
      show sv_T sm_XS sm_cs sm_L sm_sh 6 (q_addNew p1 p2 p3 p4 S) 254 60 [(0, .ref 0), (1, sv_I p1), (2, sv_I p2), (3, sv_I p3), (4, sv_I p4), (5, sv_I r6), (6, sv_I l6_16), (7, sv_I r28)] [] (sv_sts (sv_up (sv_up S 81 r6 (1 : Int)) 83 r6 r12) [68, 69, 70, 1143, 1144, 5, 1011] g15)
      refine sv_iload_n hM dX12_addNew_60 rfl rfl ?_
      refine sv_cond_eq hM dX12_addNew_61 (sv_R01 hp3) (t := 79) rfl rfl (fun hc => ?_) (fun hc => ?_)
      · have h := h.1 (hc)
        refine sv_iload hM dX12_addNew_79 rfl rfl ?_
        refine sv_iconst (d := (-1 : Int)) hM dX12_addNew_81 rfl rfl ?_
        refine sv_icmp_eq hM dX12_addNew_82 hp4 (⟨by decide, by decide⟩ : sv_R (-1 : Int)) (t := 102) rfl rfl (fun hc => ?_) (fun hc => ?_)
        · have h := h.1 (hc)
          refine sv_aload_n hM dX12_addNew_102 rfl rfl ?_
          refine sv_iload hM dX12_addNew_103 rfl rfl ?_
          refine sv_sipush (d := (512 : Int)) hM dX12_addNew_105 rfl rfl ?_
          obtain ⟨o29, h⟩ := h
          refine sv_callV hM dX12_addNew_108 sm_iv_1072 (by decide) (sm_a0 _) rfl rfl (Nat.le_of_ble_eq_true rfl) sm_h213 (Nat.le_of_ble_eq_true rfl) (Nat.le_of_ble_eq_true rfl) (F' := 2) (Nat.le_of_ble_eq_true rfl) rfl (t_addSort r28 (512 : Int) (sv_sts (sv_up (sv_up S 81 r6 (1 : Int)) 83 r6 r12) [68, 69, 70, 1143, 1144, 5, 1011] g15) ok25 hr28 (⟨by decide, by decide⟩ : sv_R (512 : Int)) o29) (fun v S1 hq => ?_)
          obtain ⟨rfl, ok31, md32, hpo33⟩ := hq
          obtain ⟨g30, rfl⟩ : ∃ g, S1 = sv_sts (sv_sts (sv_up (sv_up S 81 r6 (1 : Int)) 83 r6 r12) [68, 69, 70, 1143, 1144, 5, 1011] g15) [68, 69, 70] g := ⟨_, md32.eq⟩
          show sv_T sm_XS sm_cs sm_L sm_sh 6 (q_addNew p1 p2 p3 p4 S) 254 111 [(0, .ref 0), (1, sv_I p1), (2, sv_I p2), (3, sv_I p3), (4, sv_I p4), (5, sv_I r6), (6, sv_I l6_16), (7, sv_I r28)] [] (sv_sts (sv_sts (sv_up (sv_up S 81 r6 (1 : Int)) 83 r6 r12) [68, 69, 70, 1143, 1144, 5, 1011] g15) [68, 69, 70] g30)
          have md34 : sv_mod [68, 69, 70, 1143, 1144, 5, 1011, 81, 82, 83, 84, 85, 86] S (sv_sts (sv_sts (sv_up (sv_up S 81 r6 (1 : Int)) 83 r6 r12) [68, 69, 70, 1143, 1144, 5, 1011] g15) [68, 69, 70] g30) := sv_mod.sts md20 (by decide)
          have md35 : sv_mod [68, 69, 70, 1143, 1144, 5, 1011] (sv_up (sv_up S 81 r6 (1 : Int)) 83 r6 r12) (sv_sts (sv_sts (sv_up (sv_up S 81 r6 (1 : Int)) 83 r6 r12) [68, 69, 70, 1143, 1144, 5, 1011] g15) [68, 69, 70] g30) := sv_mod.sts md21 (by decide)
          have h := h g30 hpo33
          refine sv_iinc (d := (1 : Int)) hM dX12_addNew_111 rfl (by decide) rfl rfl ?_
          show sv_T sm_XS sm_cs sm_L sm_sh 6 (q_addNew p1 p2 p3 p4 S) 254 114 [(0, .ref 0), (1, sv_I p1), (2, sv_I p2), (3, sv_I p3), (4, sv_I p4), (5, sv_I r6), (6, sv_I (l6_16 + (1 : Int))), (7, sv_I r28)] [] (sv_sts (sv_sts (sv_up (sv_up S 81 r6 (1 : Int)) 83 r6 r12) [68, 69, 70, 1143, 1144, 5, 1011] g15) [68, 69, 70] g30)
          refine sv_goto hM dX12_addNew_114 (pc' := 39) rfl ?_
          obtain ⟨o36, h⟩ := h
          have eS := sv_mod.eq md35
          have hb := ih17 ((l6_16 + (1 : Int)), (sv_sts (sv_sts (sv_up (sv_up S 81 r6 (1 : Int)) 83 r6 r12) [68, 69, 70, 1143, 1144, 5, 1011] g15) [68, 69, 70] g30)) ⟨o36, (by rw [← eS]; exact ok31), h.1⟩ h.2
          have hb : sv_T sm_XS sm_cs sm_L sm_sh 6 (q_addNew p1 p2 p3 p4 S) 254 39 [(0, .ref 0), (1, sv_I p1), (2, sv_I p2), (3, sv_I p3), (4, sv_I p4), (5, sv_I r6), (6, sv_I (l6_16 + (1 : Int)))] [] (sv_sts (sv_sts (sv_up (sv_up S 81 r6 (1 : Int)) 83 r6 r12) [68, 69, 70, 1143, 1144, 5, 1011] g15) [68, 69, 70] g30) := Eq.mpr (congrArg (fun Z => sv_T sm_XS sm_cs sm_L sm_sh 6 (q_addNew p1 p2 p3 p4 S) 254 39 [(0, .ref 0), (1, sv_I p1), (2, sv_I p2), (3, sv_I p3), (4, sv_I p4), (5, sv_I r6), (6, sv_I (l6_16 + (1 : Int)))] [] Z) eS) hb
          exact sv_less (lv := [(0, .ref 0), (1, sv_I p1), (2, sv_I p2), (3, sv_I p3), (4, sv_I p4), (5, sv_I r6), (6, sv_I (l6_16 + (1 : Int)))]) (sv_Sub_cons rfl (sv_Sub_cons rfl (sv_Sub_cons rfl (sv_Sub_cons rfl (sv_Sub_cons rfl (sv_Sub_cons rfl (sv_Sub_cons rfl sv_Sub_nil))))))) hb
        · have h := h.2 (hc)
          refine sv_iload hM dX12_addNew_85 rfl rfl ?_
          refine sv_iconst (d := (3 : Int)) hM dX12_addNew_87 rfl rfl ?_
          refine sv_icmp_ne hM dX12_addNew_88 hl6_16 (⟨by decide, by decide⟩ : sv_R (3 : Int)) (t := 102) rfl rfl (fun hc => ?_) (fun hc => ?_)
          · have h := h.1 (hc)
            refine sv_aload_n hM dX12_addNew_102 rfl rfl ?_
            refine sv_iload hM dX12_addNew_103 rfl rfl ?_
            refine sv_sipush (d := (512 : Int)) hM dX12_addNew_105 rfl rfl ?_
            obtain ⟨o37, h⟩ := h
            refine sv_callV hM dX12_addNew_108 sm_iv_1072 (by decide) (sm_a0 _) rfl rfl (Nat.le_of_ble_eq_true rfl) sm_h213 (Nat.le_of_ble_eq_true rfl) (Nat.le_of_ble_eq_true rfl) (F' := 2) (Nat.le_of_ble_eq_true rfl) rfl (t_addSort r28 (512 : Int) (sv_sts (sv_up (sv_up S 81 r6 (1 : Int)) 83 r6 r12) [68, 69, 70, 1143, 1144, 5, 1011] g15) ok25 hr28 (⟨by decide, by decide⟩ : sv_R (512 : Int)) o37) (fun v S1 hq => ?_)
            obtain ⟨rfl, ok39, md40, hpo41⟩ := hq
            obtain ⟨g38, rfl⟩ : ∃ g, S1 = sv_sts (sv_sts (sv_up (sv_up S 81 r6 (1 : Int)) 83 r6 r12) [68, 69, 70, 1143, 1144, 5, 1011] g15) [68, 69, 70] g := ⟨_, md40.eq⟩
            show sv_T sm_XS sm_cs sm_L sm_sh 6 (q_addNew p1 p2 p3 p4 S) 254 111 [(0, .ref 0), (1, sv_I p1), (2, sv_I p2), (3, sv_I p3), (4, sv_I p4), (5, sv_I r6), (6, sv_I l6_16), (7, sv_I r28)] [] (sv_sts (sv_sts (sv_up (sv_up S 81 r6 (1 : Int)) 83 r6 r12) [68, 69, 70, 1143, 1144, 5, 1011] g15) [68, 69, 70] g38)
            have md42 : sv_mod [68, 69, 70, 1143, 1144, 5, 1011, 81, 82, 83, 84, 85, 86] S (sv_sts (sv_sts (sv_up (sv_up S 81 r6 (1 : Int)) 83 r6 r12) [68, 69, 70, 1143, 1144, 5, 1011] g15) [68, 69, 70] g38) := sv_mod.sts md20 (by decide)
            have md43 : sv_mod [68, 69, 70, 1143, 1144, 5, 1011] (sv_up (sv_up S 81 r6 (1 : Int)) 83 r6 r12) (sv_sts (sv_sts (sv_up (sv_up S 81 r6 (1 : Int)) 83 r6 r12) [68, 69, 70, 1143, 1144, 5, 1011] g15) [68, 69, 70] g38) := sv_mod.sts md21 (by decide)
            have h := h g38 hpo41
            refine sv_iinc (d := (1 : Int)) hM dX12_addNew_111 rfl (by decide) rfl rfl ?_
            show sv_T sm_XS sm_cs sm_L sm_sh 6 (q_addNew p1 p2 p3 p4 S) 254 114 [(0, .ref 0), (1, sv_I p1), (2, sv_I p2), (3, sv_I p3), (4, sv_I p4), (5, sv_I r6), (6, sv_I (l6_16 + (1 : Int))), (7, sv_I r28)] [] (sv_sts (sv_sts (sv_up (sv_up S 81 r6 (1 : Int)) 83 r6 r12) [68, 69, 70, 1143, 1144, 5, 1011] g15) [68, 69, 70] g38)
            refine sv_goto hM dX12_addNew_114 (pc' := 39) rfl ?_
            obtain ⟨o44, h⟩ := h
            have eS := sv_mod.eq md43
            have hb := ih17 ((l6_16 + (1 : Int)), (sv_sts (sv_sts (sv_up (sv_up S 81 r6 (1 : Int)) 83 r6 r12) [68, 69, 70, 1143, 1144, 5, 1011] g15) [68, 69, 70] g38)) ⟨o44, (by rw [← eS]; exact ok39), h.1⟩ h.2
            have hb : sv_T sm_XS sm_cs sm_L sm_sh 6 (q_addNew p1 p2 p3 p4 S) 254 39 [(0, .ref 0), (1, sv_I p1), (2, sv_I p2), (3, sv_I p3), (4, sv_I p4), (5, sv_I r6), (6, sv_I (l6_16 + (1 : Int)))] [] (sv_sts (sv_sts (sv_up (sv_up S 81 r6 (1 : Int)) 83 r6 r12) [68, 69, 70, 1143, 1144, 5, 1011] g15) [68, 69, 70] g38) := Eq.mpr (congrArg (fun Z => sv_T sm_XS sm_cs sm_L sm_sh 6 (q_addNew p1 p2 p3 p4 S) 254 39 [(0, .ref 0), (1, sv_I p1), (2, sv_I p2), (3, sv_I p3), (4, sv_I p4), (5, sv_I r6), (6, sv_I (l6_16 + (1 : Int)))] [] Z) eS) hb
            exact sv_less (lv := [(0, .ref 0), (1, sv_I p1), (2, sv_I p2), (3, sv_I p3), (4, sv_I p4), (5, sv_I r6), (6, sv_I (l6_16 + (1 : Int)))]) (sv_Sub_cons rfl (sv_Sub_cons rfl (sv_Sub_cons rfl (sv_Sub_cons rfl (sv_Sub_cons rfl (sv_Sub_cons rfl (sv_Sub_cons rfl sv_Sub_nil))))))) hb
          · have h := h.2 (hc)
            refine sv_aload_n hM dX12_addNew_91 rfl rfl ?_
            refine sv_iload hM dX12_addNew_92 rfl rfl ?_
            refine sv_iload hM dX12_addNew_94 rfl rfl ?_
            obtain ⟨o45, h⟩ := h
            refine sv_callV hM dX12_addNew_96 sm_iv_1172 (by decide) (sm_a0 _) rfl rfl (Nat.le_of_ble_eq_true rfl) sm_h248 (Nat.le_of_ble_eq_true rfl) (Nat.le_of_ble_eq_true rfl) (F' := 5) (Nat.le_of_ble_eq_true rfl) rfl (t_addTextOf p4 r28 (sv_sts (sv_up (sv_up S 81 r6 (1 : Int)) 83 r6 r12) [68, 69, 70, 1143, 1144, 5, 1011] g15) ok25 hp4 hr28 o45) (fun v S1 hq => ?_)
            obtain ⟨rfl, ok47, md48, hpo49⟩ := hq
            obtain ⟨g46, rfl⟩ : ∃ g, S1 = sv_sts (sv_sts (sv_up (sv_up S 81 r6 (1 : Int)) 83 r6 r12) [68, 69, 70, 1143, 1144, 5, 1011] g15) [1143, 1144, 5, 1011, 68, 69, 70] g := ⟨_, md48.eq⟩
            show sv_T sm_XS sm_cs sm_L sm_sh 6 (q_addNew p1 p2 p3 p4 S) 254 99 [(0, .ref 0), (1, sv_I p1), (2, sv_I p2), (3, sv_I p3), (4, sv_I p4), (5, sv_I r6), (6, sv_I l6_16), (7, sv_I r28)] [] (sv_sts (sv_sts (sv_up (sv_up S 81 r6 (1 : Int)) 83 r6 r12) [68, 69, 70, 1143, 1144, 5, 1011] g15) [1143, 1144, 5, 1011, 68, 69, 70] g46)
            have md50 : sv_mod [68, 69, 70, 1143, 1144, 5, 1011, 81, 82, 83, 84, 85, 86] S (sv_sts (sv_sts (sv_up (sv_up S 81 r6 (1 : Int)) 83 r6 r12) [68, 69, 70, 1143, 1144, 5, 1011] g15) [1143, 1144, 5, 1011, 68, 69, 70] g46) := sv_mod.sts md20 (by decide)
            have md51 : sv_mod [68, 69, 70, 1143, 1144, 5, 1011] (sv_up (sv_up S 81 r6 (1 : Int)) 83 r6 r12) (sv_sts (sv_sts (sv_up (sv_up S 81 r6 (1 : Int)) 83 r6 r12) [68, 69, 70, 1143, 1144, 5, 1011] g15) [1143, 1144, 5, 1011, 68, 69, 70] g46) := sv_mod.sts md21 (by decide)
            have h := h g46 hpo49
            refine sv_goto hM dX12_addNew_99 (pc' := 111) rfl ?_
            refine sv_iinc (d := (1 : Int)) hM dX12_addNew_111 rfl (by decide) rfl rfl ?_
            show sv_T sm_XS sm_cs sm_L sm_sh 6 (q_addNew p1 p2 p3 p4 S) 254 114 [(0, .ref 0), (1, sv_I p1), (2, sv_I p2), (3, sv_I p3), (4, sv_I p4), (5, sv_I r6), (6, sv_I (l6_16 + (1 : Int))), (7, sv_I r28)] [] (sv_sts (sv_sts (sv_up (sv_up S 81 r6 (1 : Int)) 83 r6 r12) [68, 69, 70, 1143, 1144, 5, 1011] g15) [1143, 1144, 5, 1011, 68, 69, 70] g46)
            refine sv_goto hM dX12_addNew_114 (pc' := 39) rfl ?_
            obtain ⟨o52, h⟩ := h
            have eS := sv_mod.eq md51
            have hb := ih17 ((l6_16 + (1 : Int)), (sv_sts (sv_sts (sv_up (sv_up S 81 r6 (1 : Int)) 83 r6 r12) [68, 69, 70, 1143, 1144, 5, 1011] g15) [1143, 1144, 5, 1011, 68, 69, 70] g46)) ⟨o52, (by rw [← eS]; exact ok47), h.1⟩ h.2
            have hb : sv_T sm_XS sm_cs sm_L sm_sh 6 (q_addNew p1 p2 p3 p4 S) 254 39 [(0, .ref 0), (1, sv_I p1), (2, sv_I p2), (3, sv_I p3), (4, sv_I p4), (5, sv_I r6), (6, sv_I (l6_16 + (1 : Int)))] [] (sv_sts (sv_sts (sv_up (sv_up S 81 r6 (1 : Int)) 83 r6 r12) [68, 69, 70, 1143, 1144, 5, 1011] g15) [1143, 1144, 5, 1011, 68, 69, 70] g46) := Eq.mpr (congrArg (fun Z => sv_T sm_XS sm_cs sm_L sm_sh 6 (q_addNew p1 p2 p3 p4 S) 254 39 [(0, .ref 0), (1, sv_I p1), (2, sv_I p2), (3, sv_I p3), (4, sv_I p4), (5, sv_I r6), (6, sv_I (l6_16 + (1 : Int)))] [] Z) eS) hb
            exact sv_less (lv := [(0, .ref 0), (1, sv_I p1), (2, sv_I p2), (3, sv_I p3), (4, sv_I p4), (5, sv_I r6), (6, sv_I (l6_16 + (1 : Int)))]) (sv_Sub_cons rfl (sv_Sub_cons rfl (sv_Sub_cons rfl (sv_Sub_cons rfl (sv_Sub_cons rfl (sv_Sub_cons rfl (sv_Sub_cons rfl sv_Sub_nil))))))) hb
      · have h := h.2 (hc)
        refine sv_iload hM dX12_addNew_64 rfl rfl ?_
        refine sv_cond_ne hM dX12_addNew_66 hl6_16 (t := 79) rfl rfl (fun hc => ?_) (fun hc => ?_)
        · have h := h.1 (hc)
          refine sv_iload hM dX12_addNew_79 rfl rfl ?_
          refine sv_iconst (d := (-1 : Int)) hM dX12_addNew_81 rfl rfl ?_
          refine sv_icmp_eq hM dX12_addNew_82 hp4 (⟨by decide, by decide⟩ : sv_R (-1 : Int)) (t := 102) rfl rfl (fun hc => ?_) (fun hc => ?_)
          · have h := h.1 (hc)
            refine sv_aload_n hM dX12_addNew_102 rfl rfl ?_
            refine sv_iload hM dX12_addNew_103 rfl rfl ?_
            refine sv_sipush (d := (512 : Int)) hM dX12_addNew_105 rfl rfl ?_
            obtain ⟨o53, h⟩ := h
            refine sv_callV hM dX12_addNew_108 sm_iv_1072 (by decide) (sm_a0 _) rfl rfl (Nat.le_of_ble_eq_true rfl) sm_h213 (Nat.le_of_ble_eq_true rfl) (Nat.le_of_ble_eq_true rfl) (F' := 2) (Nat.le_of_ble_eq_true rfl) rfl (t_addSort r28 (512 : Int) (sv_sts (sv_up (sv_up S 81 r6 (1 : Int)) 83 r6 r12) [68, 69, 70, 1143, 1144, 5, 1011] g15) ok25 hr28 (⟨by decide, by decide⟩ : sv_R (512 : Int)) o53) (fun v S1 hq => ?_)
            obtain ⟨rfl, ok55, md56, hpo57⟩ := hq
            obtain ⟨g54, rfl⟩ : ∃ g, S1 = sv_sts (sv_sts (sv_up (sv_up S 81 r6 (1 : Int)) 83 r6 r12) [68, 69, 70, 1143, 1144, 5, 1011] g15) [68, 69, 70] g := ⟨_, md56.eq⟩
            show sv_T sm_XS sm_cs sm_L sm_sh 6 (q_addNew p1 p2 p3 p4 S) 254 111 [(0, .ref 0), (1, sv_I p1), (2, sv_I p2), (3, sv_I p3), (4, sv_I p4), (5, sv_I r6), (6, sv_I l6_16), (7, sv_I r28)] [] (sv_sts (sv_sts (sv_up (sv_up S 81 r6 (1 : Int)) 83 r6 r12) [68, 69, 70, 1143, 1144, 5, 1011] g15) [68, 69, 70] g54)
            have md58 : sv_mod [68, 69, 70, 1143, 1144, 5, 1011, 81, 82, 83, 84, 85, 86] S (sv_sts (sv_sts (sv_up (sv_up S 81 r6 (1 : Int)) 83 r6 r12) [68, 69, 70, 1143, 1144, 5, 1011] g15) [68, 69, 70] g54) := sv_mod.sts md20 (by decide)
            have md59 : sv_mod [68, 69, 70, 1143, 1144, 5, 1011] (sv_up (sv_up S 81 r6 (1 : Int)) 83 r6 r12) (sv_sts (sv_sts (sv_up (sv_up S 81 r6 (1 : Int)) 83 r6 r12) [68, 69, 70, 1143, 1144, 5, 1011] g15) [68, 69, 70] g54) := sv_mod.sts md21 (by decide)
            have h := h g54 hpo57
            refine sv_iinc (d := (1 : Int)) hM dX12_addNew_111 rfl (by decide) rfl rfl ?_
            show sv_T sm_XS sm_cs sm_L sm_sh 6 (q_addNew p1 p2 p3 p4 S) 254 114 [(0, .ref 0), (1, sv_I p1), (2, sv_I p2), (3, sv_I p3), (4, sv_I p4), (5, sv_I r6), (6, sv_I (l6_16 + (1 : Int))), (7, sv_I r28)] [] (sv_sts (sv_sts (sv_up (sv_up S 81 r6 (1 : Int)) 83 r6 r12) [68, 69, 70, 1143, 1144, 5, 1011] g15) [68, 69, 70] g54)
            refine sv_goto hM dX12_addNew_114 (pc' := 39) rfl ?_
            obtain ⟨o60, h⟩ := h
            have eS := sv_mod.eq md59
            have hb := ih17 ((l6_16 + (1 : Int)), (sv_sts (sv_sts (sv_up (sv_up S 81 r6 (1 : Int)) 83 r6 r12) [68, 69, 70, 1143, 1144, 5, 1011] g15) [68, 69, 70] g54)) ⟨o60, (by rw [← eS]; exact ok55), h.1⟩ h.2
            have hb : sv_T sm_XS sm_cs sm_L sm_sh 6 (q_addNew p1 p2 p3 p4 S) 254 39 [(0, .ref 0), (1, sv_I p1), (2, sv_I p2), (3, sv_I p3), (4, sv_I p4), (5, sv_I r6), (6, sv_I (l6_16 + (1 : Int)))] [] (sv_sts (sv_sts (sv_up (sv_up S 81 r6 (1 : Int)) 83 r6 r12) [68, 69, 70, 1143, 1144, 5, 1011] g15) [68, 69, 70] g54) := Eq.mpr (congrArg (fun Z => sv_T sm_XS sm_cs sm_L sm_sh 6 (q_addNew p1 p2 p3 p4 S) 254 39 [(0, .ref 0), (1, sv_I p1), (2, sv_I p2), (3, sv_I p3), (4, sv_I p4), (5, sv_I r6), (6, sv_I (l6_16 + (1 : Int)))] [] Z) eS) hb
            exact sv_less (lv := [(0, .ref 0), (1, sv_I p1), (2, sv_I p2), (3, sv_I p3), (4, sv_I p4), (5, sv_I r6), (6, sv_I (l6_16 + (1 : Int)))]) (sv_Sub_cons rfl (sv_Sub_cons rfl (sv_Sub_cons rfl (sv_Sub_cons rfl (sv_Sub_cons rfl (sv_Sub_cons rfl (sv_Sub_cons rfl sv_Sub_nil))))))) hb
          · have h := h.2 (hc)
            refine sv_iload hM dX12_addNew_85 rfl rfl ?_
            refine sv_iconst (d := (3 : Int)) hM dX12_addNew_87 rfl rfl ?_
            refine sv_icmp_ne hM dX12_addNew_88 hl6_16 (⟨by decide, by decide⟩ : sv_R (3 : Int)) (t := 102) rfl rfl (fun hc => ?_) (fun hc => ?_)
            · have h := h.1 (hc)
              refine sv_aload_n hM dX12_addNew_102 rfl rfl ?_
              refine sv_iload hM dX12_addNew_103 rfl rfl ?_
              refine sv_sipush (d := (512 : Int)) hM dX12_addNew_105 rfl rfl ?_
              obtain ⟨o61, h⟩ := h
              refine sv_callV hM dX12_addNew_108 sm_iv_1072 (by decide) (sm_a0 _) rfl rfl (Nat.le_of_ble_eq_true rfl) sm_h213 (Nat.le_of_ble_eq_true rfl) (Nat.le_of_ble_eq_true rfl) (F' := 2) (Nat.le_of_ble_eq_true rfl) rfl (t_addSort r28 (512 : Int) (sv_sts (sv_up (sv_up S 81 r6 (1 : Int)) 83 r6 r12) [68, 69, 70, 1143, 1144, 5, 1011] g15) ok25 hr28 (⟨by decide, by decide⟩ : sv_R (512 : Int)) o61) (fun v S1 hq => ?_)
              obtain ⟨rfl, ok63, md64, hpo65⟩ := hq
              obtain ⟨g62, rfl⟩ : ∃ g, S1 = sv_sts (sv_sts (sv_up (sv_up S 81 r6 (1 : Int)) 83 r6 r12) [68, 69, 70, 1143, 1144, 5, 1011] g15) [68, 69, 70] g := ⟨_, md64.eq⟩
              show sv_T sm_XS sm_cs sm_L sm_sh 6 (q_addNew p1 p2 p3 p4 S) 254 111 [(0, .ref 0), (1, sv_I p1), (2, sv_I p2), (3, sv_I p3), (4, sv_I p4), (5, sv_I r6), (6, sv_I l6_16), (7, sv_I r28)] [] (sv_sts (sv_sts (sv_up (sv_up S 81 r6 (1 : Int)) 83 r6 r12) [68, 69, 70, 1143, 1144, 5, 1011] g15) [68, 69, 70] g62)
              have md66 : sv_mod [68, 69, 70, 1143, 1144, 5, 1011, 81, 82, 83, 84, 85, 86] S (sv_sts (sv_sts (sv_up (sv_up S 81 r6 (1 : Int)) 83 r6 r12) [68, 69, 70, 1143, 1144, 5, 1011] g15) [68, 69, 70] g62) := sv_mod.sts md20 (by decide)
              have md67 : sv_mod [68, 69, 70, 1143, 1144, 5, 1011] (sv_up (sv_up S 81 r6 (1 : Int)) 83 r6 r12) (sv_sts (sv_sts (sv_up (sv_up S 81 r6 (1 : Int)) 83 r6 r12) [68, 69, 70, 1143, 1144, 5, 1011] g15) [68, 69, 70] g62) := sv_mod.sts md21 (by decide)
              have h := h g62 hpo65
              refine sv_iinc (d := (1 : Int)) hM dX12_addNew_111 rfl (by decide) rfl rfl ?_
              show sv_T sm_XS sm_cs sm_L sm_sh 6 (q_addNew p1 p2 p3 p4 S) 254 114 [(0, .ref 0), (1, sv_I p1), (2, sv_I p2), (3, sv_I p3), (4, sv_I p4), (5, sv_I r6), (6, sv_I (l6_16 + (1 : Int))), (7, sv_I r28)] [] (sv_sts (sv_sts (sv_up (sv_up S 81 r6 (1 : Int)) 83 r6 r12) [68, 69, 70, 1143, 1144, 5, 1011] g15) [68, 69, 70] g62)
              refine sv_goto hM dX12_addNew_114 (pc' := 39) rfl ?_
              obtain ⟨o68, h⟩ := h
              have eS := sv_mod.eq md67
              have hb := ih17 ((l6_16 + (1 : Int)), (sv_sts (sv_sts (sv_up (sv_up S 81 r6 (1 : Int)) 83 r6 r12) [68, 69, 70, 1143, 1144, 5, 1011] g15) [68, 69, 70] g62)) ⟨o68, (by rw [← eS]; exact ok63), h.1⟩ h.2
              have hb : sv_T sm_XS sm_cs sm_L sm_sh 6 (q_addNew p1 p2 p3 p4 S) 254 39 [(0, .ref 0), (1, sv_I p1), (2, sv_I p2), (3, sv_I p3), (4, sv_I p4), (5, sv_I r6), (6, sv_I (l6_16 + (1 : Int)))] [] (sv_sts (sv_sts (sv_up (sv_up S 81 r6 (1 : Int)) 83 r6 r12) [68, 69, 70, 1143, 1144, 5, 1011] g15) [68, 69, 70] g62) := Eq.mpr (congrArg (fun Z => sv_T sm_XS sm_cs sm_L sm_sh 6 (q_addNew p1 p2 p3 p4 S) 254 39 [(0, .ref 0), (1, sv_I p1), (2, sv_I p2), (3, sv_I p3), (4, sv_I p4), (5, sv_I r6), (6, sv_I (l6_16 + (1 : Int)))] [] Z) eS) hb
              exact sv_less (lv := [(0, .ref 0), (1, sv_I p1), (2, sv_I p2), (3, sv_I p3), (4, sv_I p4), (5, sv_I r6), (6, sv_I (l6_16 + (1 : Int)))]) (sv_Sub_cons rfl (sv_Sub_cons rfl (sv_Sub_cons rfl (sv_Sub_cons rfl (sv_Sub_cons rfl (sv_Sub_cons rfl (sv_Sub_cons rfl sv_Sub_nil))))))) hb
            · have h := h.2 (hc)
              refine sv_aload_n hM dX12_addNew_91 rfl rfl ?_
              refine sv_iload hM dX12_addNew_92 rfl rfl ?_
              refine sv_iload hM dX12_addNew_94 rfl rfl ?_
              obtain ⟨o69, h⟩ := h
              refine sv_callV hM dX12_addNew_96 sm_iv_1172 (by decide) (sm_a0 _) rfl rfl (Nat.le_of_ble_eq_true rfl) sm_h248 (Nat.le_of_ble_eq_true rfl) (Nat.le_of_ble_eq_true rfl) (F' := 5) (Nat.le_of_ble_eq_true rfl) rfl (t_addTextOf p4 r28 (sv_sts (sv_up (sv_up S 81 r6 (1 : Int)) 83 r6 r12) [68, 69, 70, 1143, 1144, 5, 1011] g15) ok25 hp4 hr28 o69) (fun v S1 hq => ?_)
              obtain ⟨rfl, ok71, md72, hpo73⟩ := hq
              obtain ⟨g70, rfl⟩ : ∃ g, S1 = sv_sts (sv_sts (sv_up (sv_up S 81 r6 (1 : Int)) 83 r6 r12) [68, 69, 70, 1143, 1144, 5, 1011] g15) [1143, 1144, 5, 1011, 68, 69, 70] g := ⟨_, md72.eq⟩
              show sv_T sm_XS sm_cs sm_L sm_sh 6 (q_addNew p1 p2 p3 p4 S) 254 99 [(0, .ref 0), (1, sv_I p1), (2, sv_I p2), (3, sv_I p3), (4, sv_I p4), (5, sv_I r6), (6, sv_I l6_16), (7, sv_I r28)] [] (sv_sts (sv_sts (sv_up (sv_up S 81 r6 (1 : Int)) 83 r6 r12) [68, 69, 70, 1143, 1144, 5, 1011] g15) [1143, 1144, 5, 1011, 68, 69, 70] g70)
              have md74 : sv_mod [68, 69, 70, 1143, 1144, 5, 1011, 81, 82, 83, 84, 85, 86] S (sv_sts (sv_sts (sv_up (sv_up S 81 r6 (1 : Int)) 83 r6 r12) [68, 69, 70, 1143, 1144, 5, 1011] g15) [1143, 1144, 5, 1011, 68, 69, 70] g70) := sv_mod.sts md20 (by decide)
              have md75 : sv_mod [68, 69, 70, 1143, 1144, 5, 1011] (sv_up (sv_up S 81 r6 (1 : Int)) 83 r6 r12) (sv_sts (sv_sts (sv_up (sv_up S 81 r6 (1 : Int)) 83 r6 r12) [68, 69, 70, 1143, 1144, 5, 1011] g15) [1143, 1144, 5, 1011, 68, 69, 70] g70) := sv_mod.sts md21 (by decide)
              have h := h g70 hpo73
              refine sv_goto hM dX12_addNew_99 (pc' := 111) rfl ?_
              refine sv_iinc (d := (1 : Int)) hM dX12_addNew_111 rfl (by decide) rfl rfl ?_
              show sv_T sm_XS sm_cs sm_L sm_sh 6 (q_addNew p1 p2 p3 p4 S) 254 114 [(0, .ref 0), (1, sv_I p1), (2, sv_I p2), (3, sv_I p3), (4, sv_I p4), (5, sv_I r6), (6, sv_I (l6_16 + (1 : Int))), (7, sv_I r28)] [] (sv_sts (sv_sts (sv_up (sv_up S 81 r6 (1 : Int)) 83 r6 r12) [68, 69, 70, 1143, 1144, 5, 1011] g15) [1143, 1144, 5, 1011, 68, 69, 70] g70)
              refine sv_goto hM dX12_addNew_114 (pc' := 39) rfl ?_
              obtain ⟨o76, h⟩ := h
              have eS := sv_mod.eq md75
              have hb := ih17 ((l6_16 + (1 : Int)), (sv_sts (sv_sts (sv_up (sv_up S 81 r6 (1 : Int)) 83 r6 r12) [68, 69, 70, 1143, 1144, 5, 1011] g15) [1143, 1144, 5, 1011, 68, 69, 70] g70)) ⟨o76, (by rw [← eS]; exact ok71), h.1⟩ h.2
              have hb : sv_T sm_XS sm_cs sm_L sm_sh 6 (q_addNew p1 p2 p3 p4 S) 254 39 [(0, .ref 0), (1, sv_I p1), (2, sv_I p2), (3, sv_I p3), (4, sv_I p4), (5, sv_I r6), (6, sv_I (l6_16 + (1 : Int)))] [] (sv_sts (sv_sts (sv_up (sv_up S 81 r6 (1 : Int)) 83 r6 r12) [68, 69, 70, 1143, 1144, 5, 1011] g15) [1143, 1144, 5, 1011, 68, 69, 70] g70) := Eq.mpr (congrArg (fun Z => sv_T sm_XS sm_cs sm_L sm_sh 6 (q_addNew p1 p2 p3 p4 S) 254 39 [(0, .ref 0), (1, sv_I p1), (2, sv_I p2), (3, sv_I p3), (4, sv_I p4), (5, sv_I r6), (6, sv_I (l6_16 + (1 : Int)))] [] Z) eS) hb
              exact sv_less (lv := [(0, .ref 0), (1, sv_I p1), (2, sv_I p2), (3, sv_I p3), (4, sv_I p4), (5, sv_I r6), (6, sv_I (l6_16 + (1 : Int)))]) (sv_Sub_cons rfl (sv_Sub_cons rfl (sv_Sub_cons rfl (sv_Sub_cons rfl (sv_Sub_cons rfl (sv_Sub_cons rfl (sv_Sub_cons rfl sv_Sub_nil))))))) hb
        · have h := h.2 (hc)
          refine sv_aload_n hM dX12_addNew_69 rfl rfl ?_
          refine sv_iload hM dX12_addNew_70 rfl rfl ?_
          refine sv_iconst (d := (0 : Int)) hM dX12_addNew_72 rfl rfl ?_
          obtain ⟨o77, h⟩ := h
          refine sv_callV hM dX12_addNew_73 sm_iv_1075 (by decide) (sm_a0 _) rfl rfl (Nat.le_of_ble_eq_true rfl) sm_h214 (Nat.le_of_ble_eq_true rfl) (Nat.le_of_ble_eq_true rfl) (F' := 2) (Nat.le_of_ble_eq_true rfl) rfl (t_addNumber r28 (0 : Int) (sv_sts (sv_up (sv_up S 81 r6 (1 : Int)) 83 r6 r12) [68, 69, 70, 1143, 1144, 5, 1011] g15) ok25 hr28 (⟨by decide, by decide⟩ : sv_R (0 : Int)) o77) (fun v S1 hq => ?_)
          obtain ⟨rfl, ok79, md80, hpo81⟩ := hq
          obtain ⟨g78, rfl⟩ : ∃ g, S1 = sv_sts (sv_sts (sv_up (sv_up S 81 r6 (1 : Int)) 83 r6 r12) [68, 69, 70, 1143, 1144, 5, 1011] g15) [68, 69, 70] g := ⟨_, md80.eq⟩
          show sv_T sm_XS sm_cs sm_L sm_sh 6 (q_addNew p1 p2 p3 p4 S) 254 76 [(0, .ref 0), (1, sv_I p1), (2, sv_I p2), (3, sv_I p3), (4, sv_I p4), (5, sv_I r6), (6, sv_I l6_16), (7, sv_I r28)] [] (sv_sts (sv_sts (sv_up (sv_up S 81 r6 (1 : Int)) 83 r6 r12) [68, 69, 70, 1143, 1144, 5, 1011] g15) [68, 69, 70] g78)
          have md82 : sv_mod [68, 69, 70, 1143, 1144, 5, 1011, 81, 82, 83, 84, 85, 86] S (sv_sts (sv_sts (sv_up (sv_up S 81 r6 (1 : Int)) 83 r6 r12) [68, 69, 70, 1143, 1144, 5, 1011] g15) [68, 69, 70] g78) := sv_mod.sts md20 (by decide)
          have md83 : sv_mod [68, 69, 70, 1143, 1144, 5, 1011] (sv_up (sv_up S 81 r6 (1 : Int)) 83 r6 r12) (sv_sts (sv_sts (sv_up (sv_up S 81 r6 (1 : Int)) 83 r6 r12) [68, 69, 70, 1143, 1144, 5, 1011] g15) [68, 69, 70] g78) := sv_mod.sts md21 (by decide)
          have h := h g78 hpo81
          refine sv_goto hM dX12_addNew_76 (pc' := 111) rfl ?_
          refine sv_iinc (d := (1 : Int)) hM dX12_addNew_111 rfl (by decide) rfl rfl ?_
          show sv_T sm_XS sm_cs sm_L sm_sh 6 (q_addNew p1 p2 p3 p4 S) 254 114 [(0, .ref 0), (1, sv_I p1), (2, sv_I p2), (3, sv_I p3), (4, sv_I p4), (5, sv_I r6), (6, sv_I (l6_16 + (1 : Int))), (7, sv_I r28)] [] (sv_sts (sv_sts (sv_up (sv_up S 81 r6 (1 : Int)) 83 r6 r12) [68, 69, 70, 1143, 1144, 5, 1011] g15) [68, 69, 70] g78)
          refine sv_goto hM dX12_addNew_114 (pc' := 39) rfl ?_
          obtain ⟨o84, h⟩ := h
          have eS := sv_mod.eq md83
          have hb := ih17 ((l6_16 + (1 : Int)), (sv_sts (sv_sts (sv_up (sv_up S 81 r6 (1 : Int)) 83 r6 r12) [68, 69, 70, 1143, 1144, 5, 1011] g15) [68, 69, 70] g78)) ⟨o84, (by rw [← eS]; exact ok79), h.1⟩ h.2
          have hb : sv_T sm_XS sm_cs sm_L sm_sh 6 (q_addNew p1 p2 p3 p4 S) 254 39 [(0, .ref 0), (1, sv_I p1), (2, sv_I p2), (3, sv_I p3), (4, sv_I p4), (5, sv_I r6), (6, sv_I (l6_16 + (1 : Int)))] [] (sv_sts (sv_sts (sv_up (sv_up S 81 r6 (1 : Int)) 83 r6 r12) [68, 69, 70, 1143, 1144, 5, 1011] g15) [68, 69, 70] g78) := Eq.mpr (congrArg (fun Z => sv_T sm_XS sm_cs sm_L sm_sh 6 (q_addNew p1 p2 p3 p4 S) 254 39 [(0, .ref 0), (1, sv_I p1), (2, sv_I p2), (3, sv_I p3), (4, sv_I p4), (5, sv_I r6), (6, sv_I (l6_16 + (1 : Int)))] [] Z) eS) hb
          exact sv_less (lv := [(0, .ref 0), (1, sv_I p1), (2, sv_I p2), (3, sv_I p3), (4, sv_I p4), (5, sv_I r6), (6, sv_I (l6_16 + (1 : Int)))]) (sv_Sub_cons rfl (sv_Sub_cons rfl (sv_Sub_cons rfl (sv_Sub_cons rfl (sv_Sub_cons rfl (sv_Sub_cons rfl (sv_Sub_cons rfl sv_Sub_nil))))))) hb
  have eS := sv_mod.eq (sv_mod.rf (l := [68, 69, 70, 1143, 1144, 5, 1011]) (S := (sv_up (sv_up S 81 r6 (1 : Int)) 83 r6 r12)))
  have hb := hJ ((0 : Int), (sv_up (sv_up S 81 r6 (1 : Int)) 83 r6 r12)) ⟨(⟨by decide, by decide⟩ : sv_R (0 : Int)), (by rw [← eS]; exact ok13), hin18⟩
  have hb : sv_T sm_XS sm_cs sm_L sm_sh 6 (q_addNew p1 p2 p3 p4 S) 254 39 [(0, .ref 0), (1, sv_I p1), (2, sv_I p2), (3, sv_I p3), (4, sv_I p4), (5, sv_I r6), (6, sv_I (0 : Int))] [] (sv_up (sv_up S 81 r6 (1 : Int)) 83 r6 r12) := Eq.mpr (congrArg (fun Z => sv_T sm_XS sm_cs sm_L sm_sh 6 (q_addNew p1 p2 p3 p4 S) 254 39 [(0, .ref 0), (1, sv_I p1), (2, sv_I p2), (3, sv_I p3), (4, sv_I p4), (5, sv_I r6), (6, sv_I (0 : Int))] [] Z) eS) hb
  exact hb
def q_renameIn (p1 : Int) (p2 : Int) (S : sv_S) : Option Value → sv_S → Prop := fun v S' => v = none ∧ sm_ok S' ∧ sv_mod [69, 70] S S' ∧ (sm_pt (S' 68) (S' 69) (S' 70) = sm_pt (S 68) (S 69) (S 70))
theorem la_renameIn_0 {x0 : Int} (h0 : 635639 ≤ x0) (h1 : x0 < 647800) : 0 ≤ x0 ∧ x0 < 647800 := by omega
theorem la_renameIn_1 {x0 : Int} (h0 : 0 ≤ x0) (h1 : x0 < 127) : 0 ≤ x0 ∧ x0 < 128 := by omega
theorem la_renameIn_2 {x0 : Int} (h0 : x0 = 1) : 0 ≤ x0 := by omega
theorem la_renameIn_3 {x0 : Int} (h0 : 0 ≤ x0) (h1 : ¬ x0 = 0) : 0 < x0 := by omega
theorem la_renameIn_4 {x0 : Int} (h0 : x0 < 127) (h1 : 64 ≤ x0) : sv_R (x0 + 1) := by omega
theorem la_renameIn_5 {x0 : Int} (h0 : 635639 ≤ x0) (h1 : x0 < 647800) : 635639 ≤ x0 ∧ x0 < 647800 := by omega
theorem la_renameIn_6 {x0 x1 x2 : Int} (h0 : x0 = x1) (h1 : x1 = x2) : x0 = x2 := by omega
theorem la_renameIn_7 {x0 : Int} (h0 : 0 ≤ x0) (h1 : ¬ 64 ≤ x0) : sv_R (x0 + 1) := by omega
theorem la_renameIn_8 {x0 : Int} (h0 : ¬ ¬ x0 = 0) : ¬ x0 = 1 := by omega
theorem la_renameIn_9 {x0 : Int} : x0 = x0 := by omega
set_option maxHeartbeats 2000000 in
theorem f_renameIn : ∀ (p1 : Int) (p2 : Int) (S : sv_S), sm_ok S → sv_R p1 → sv_R p2 → (635639 ≤ p1 ∧ p1 < 647800 ∧ 0 ≤ p2 ∧ p2 < 127) → (0 ≤ p1 ∧ p1 < 647800) ∧ (sv_RL (S 69 p1) → (sv_RL (S 70 p1) → (0 ≤ p2 ∧ p2 < 128) ∧ (∀ r9 : Int, sv_R r9 → (r9 = sm_in (S 69 p1) (S 70 p1) p2 ∧ (r9 = 0 ∨ r9 = 1)) → (((¬ r9 = (0 : Int)) → ((((64 : Int) ≤ p2) → (∀ r10 : Int, sv_RL r10 → (∀ r11 : Int, sv_RL r11 → (∀ r12 : Int, sv_RL r12 → (sv_R (p2 + (1 : Int))) ∧ (635639 ≤ p1 ∧ p1 < 647800) ∧ (∀ g17 : sv_S, (sm_pt (S 68) (g17 69) (g17 70) = sm_pt (S 68) (S 69) (fun i' : Int => if i' = p1 then r12 else (S 70) i')) → (sm_pt (S 68) (g17 69) (g17 70) = sm_pt (S 68) (S 69) (S 70))))))) ∧ ((¬ ((64 : Int) ≤ p2)) → (∀ r22 : Int, sv_RL r22 → (∀ r23 : Int, sv_RL r23 → (∀ r24 : Int, sv_RL r24 → (sv_R (p2 + (1 : Int))) ∧ (635639 ≤ p1 ∧ p1 < 647800) ∧ (∀ g29 : sv_S, (sm_pt (S 68) (g29 69) (g29 70) = sm_pt (S 68) (fun i' : Int => if i' = p1 then r24 else (S 69) i') (S 70)) → (sm_pt (S 68) (g29 69) (g29 70) = sm_pt (S 68) (S 69) (S 70))))))))) ∧ ((¬ (¬ r9 = (0 : Int))) → (sm_pt (S 68) (S 69) (S 70) = sm_pt (S 68) (S 69) (S 70))))))) := by
  intro p1
  intro p2
  intro S
  intro h1_
  intro h2_
  intro h3_
  rintro ⟨h4_, ⟨h5_, ⟨h6_, h7_⟩⟩⟩
  refine ⟨(la_renameIn_0 h4_ h5_), ?_⟩
  intro h8_
  intro h9_
  refine ⟨(la_renameIn_1 h6_ h7_), ?_⟩
  intro r9
  intro h10_
  rintro ⟨h11_, h12_⟩
  refine ⟨?_, ?_⟩
  · skip
    intro h13_
    have h14_ := (h12_.resolve_left h13_)
    refine ⟨?_, ?_⟩
    · skip
      intro h15_
      intro r10
      intro h16_
      intro r11
      intro h17_
      intro r12
      intro h18_
      refine ⟨(la_renameIn_4 h7_ h15_), ?_⟩
      refine ⟨(la_renameIn_5 h4_ h5_), ?_⟩
      intro g17
      intro h19_
      have e20_ : sm_pt (S 68) (S 69) (fun i' : Int => (if i' = p1 then r12 else (S 70) i')) = sm_pt (S 68) (S 69) (S 70) := sm_pt_H h4_
      exact (la_renameIn_6 h19_ e20_)
    intro h21_
    intro r22
    intro h22_
    intro r23
    intro h23_
    intro r24
    intro h24_
    refine ⟨(la_renameIn_7 h6_ h21_), ?_⟩
    refine ⟨(la_renameIn_5 h4_ h5_), ?_⟩
    intro g29
    intro h25_
    have e26_ : sm_pt (S 68) (fun i' : Int => (if i' = p1 then r24 else (S 69) i')) (S 70) = sm_pt (S 68) (S 69) (S 70) := sm_pt_L h4_
    exact (la_renameIn_6 h25_ e26_)
  intro h27_
  have h28_ := (h12_.resolve_right (la_renameIn_8 h27_))
  exact la_renameIn_9
set_option maxRecDepth 8000 in
set_option maxHeartbeats 2000000 in
theorem t_renameIn : ∀ (p1 : Int) (p2 : Int) (S : sv_S), sm_ok S → sv_R p1 → sv_R p2 → (635639 ≤ p1 ∧ p1 < 647800 ∧ 0 ≤ p2 ∧ p2 < 127) → sv_T sm_XS sm_cs sm_L sm_sh 1 (q_renameIn p1 p2 S) 255 0 (lv_args 0 [.ref 0, sv_I p1, sv_I p2]) [] S := by
  intro p1 p2 S hok hp1 hp2 hpre
  have h := f_renameIn p1 p2 S hok hp1 hp2 hpre
  have hM := sm_h255
  show sv_T sm_XS sm_cs sm_L sm_sh 1 (q_renameIn p1 p2 S) 255 0 [(0, .ref 0), (1, sv_I p1), (2, sv_I p2)] [] S
  refine sv_aload_n hM dX12_renameIn_0 rfl rfl ?_
  refine sv_getA hM dX12_renameIn_1 sm_fl_220 (sm_a0 _) sm_k117 rfl ?_
  refine sv_iload_n hM dX12_renameIn_4 rfl rfl ?_
  obtain ⟨o1, h⟩ := h
  have k2 : sv_RL (S 69 p1) := sm_okJ hok sm_r69 p1
  have h := h k2
  refine sv_lald hM dX12_renameIn_5 (sm_a69 _) (by decide) o1.1 o1.2 rfl (x := (S 69 p1)) rfl ?_
  refine sv_aload_n hM dX12_renameIn_6 rfl rfl ?_
  refine sv_getA hM dX12_renameIn_7 sm_fl_223 (sm_a0 _) sm_k118 rfl ?_
  refine sv_iload_n hM dX12_renameIn_10 rfl rfl ?_
  have k3 : sv_RL (S 70 p1) := sm_okJ hok sm_r70 p1
  have h := h k3
  refine sv_lald hM dX12_renameIn_11 (sm_a70 _) (by decide) o1.1 o1.2 rfl (x := (S 70 p1)) rfl ?_
  refine sv_iload_n hM dX12_renameIn_12 rfl rfl ?_
  obtain ⟨o4, h⟩ := h
  refine sv_callS hM dX12_renameIn_13 sm_iv_1125 (Nat.le_of_ble_eq_true rfl) rfl rfl (Nat.le_of_ble_eq_true rfl) sm_h217 (Nat.le_of_ble_eq_true rfl) (Nat.le_of_ble_eq_true rfl) (F' := 0) (Nat.le_of_ble_eq_true rfl) rfl (t_isIn (S 69 p1) (S 70 p1) p2 S hok k2 k3 hp2 o4) (fun v S1 hq => ?_)
  obtain ⟨r9, rfl, hr9, ok6, md7, hpo8⟩ := hq
  obtain rfl : S = S1 := (funext fun j => md7 j (by intro q; cases q)).symm
  show sv_T sm_XS sm_cs sm_L sm_sh 1 (q_renameIn p1 p2 S) 255 16 [(0, .ref 0), (1, sv_I p1), (2, sv_I p2)] [sv_I r9] S
  have h := h r9 hr9 hpo8
  refine sv_cond_ne hM dX12_renameIn_16 hr9 (t := 20) rfl rfl (fun hc => ?_) (fun hc => ?_)
  · have h := h.1 (hc)
    refine sv_iload_n hM dX12_renameIn_20 rfl rfl ?_
    refine sv_bipush (d := (64 : Int)) hM dX12_renameIn_21 rfl rfl ?_
    refine sv_icmp_ge hM dX12_renameIn_23 hp2 (⟨by decide, by decide⟩ : sv_R (64 : Int)) (t := 49) rfl rfl (fun hc => ?_) (fun hc => ?_)
    · have h := h.1 (hc)
      refine sv_aload_n hM dX12_renameIn_49 rfl rfl ?_
      refine sv_getA hM dX12_renameIn_50 sm_fl_223 (sm_a0 _) sm_k118 rfl ?_
      refine sv_iload_n hM dX12_renameIn_53 rfl rfl ?_
      refine sv_aload_n hM dX12_renameIn_54 rfl rfl ?_
      refine sv_getA hM dX12_renameIn_55 sm_fl_223 (sm_a0 _) sm_k118 rfl ?_
      refine sv_iload_n hM dX12_renameIn_58 rfl rfl ?_
      refine sv_lald hM dX12_renameIn_59 (sm_a70 _) (by decide) o1.1 o1.2 rfl (x := (S 70 p1)) rfl ?_
      refine sv_lconst (d := (1 : Int)) hM dX12_renameIn_60 rfl rfl ?_
      refine sv_iload_n hM dX12_renameIn_61 rfl rfl ?_
      refine sv_bipush (d := (64 : Int)) hM dX12_renameIn_62 rfl rfl ?_
      refine sv_isub hM dX12_renameIn_64 rfl ?_
      refine sv_anyL hM dX12_renameIn_65 rfl rfl (fun r10 hr10 _ => ?_)
      have h := h r10 hr10
      refine sv_ldc2_w (d := (-1 : Int)) hM dX12_renameIn_66 sm_ck_1110 rfl rfl ?_
      refine sv_anyL hM dX12_renameIn_69 rfl rfl (fun r11 hr11 _ => ?_)
      have h := h r11 hr11
      refine sv_anyL hM dX12_renameIn_70 rfl rfl (fun r12 hr12 _ => ?_)
      have h := h r12 hr12
      refine sv_last sm_X hM dX12_renameIn_71 (sm_a70 _) (by decide) o1.1 o1.2 rfl ?_
      have ok13 : sm_ok (sv_up S 70 p1 r12) := sm_upJ ok6 sm_r70 hr12
      have md14 : sv_mod [69, 70] S (sv_up S 70 p1 r12) := sv_mod.up sv_mod.rf (by decide)
      refine sv_aload_n hM dX12_renameIn_72 rfl rfl ?_
      refine sv_iload_n hM dX12_renameIn_73 rfl rfl ?_
      refine sv_iload_n hM dX12_renameIn_74 rfl rfl ?_
      refine sv_iconst (d := (1 : Int)) hM dX12_renameIn_75 rfl rfl ?_
      refine sv_iadd hM dX12_renameIn_76 rfl ?_
      obtain ⟨o15, h⟩ := h
      obtain ⟨o16, h⟩ := h
      refine sv_callV hM dX12_renameIn_77 sm_iv_1081 (by decide) (sm_a0 _) rfl rfl (Nat.le_of_ble_eq_true rfl) sm_h216 (Nat.le_of_ble_eq_true rfl) (Nat.le_of_ble_eq_true rfl) (F' := 0) (Nat.le_of_ble_eq_true rfl) rfl (t_addLabel p1 (p2 + (1 : Int)) (sv_up S 70 p1 r12) ok13 hp1 o15 o16) (fun v S1 hq => ?_)
      obtain ⟨rfl, ok18, md19, hpo20⟩ := hq
      obtain ⟨g17, rfl⟩ : ∃ g, S1 = sv_sts (sv_up S 70 p1 r12) [69, 70] g := ⟨_, md19.eq⟩
      show sv_T sm_XS sm_cs sm_L sm_sh 1 (q_renameIn p1 p2 S) 255 80 [(0, .ref 0), (1, sv_I p1), (2, sv_I p2)] [] (sv_sts (sv_up S 70 p1 r12) [69, 70] g17)
      have md21 : sv_mod [69, 70] S (sv_sts (sv_up S 70 p1 r12) [69, 70] g17) := sv_mod.sts md14 (by decide)
      have h := h g17 hpo20
      exact sv_vret hM dX12_renameIn_80 rfl ⟨rfl, ok18, md21, h⟩
    · have h := h.2 (hc)
      refine sv_aload_n hM dX12_renameIn_26 rfl rfl ?_
      refine sv_getA hM dX12_renameIn_27 sm_fl_220 (sm_a0 _) sm_k117 rfl ?_
      refine sv_iload_n hM dX12_renameIn_30 rfl rfl ?_
      refine sv_aload_n hM dX12_renameIn_31 rfl rfl ?_
      refine sv_getA hM dX12_renameIn_32 sm_fl_220 (sm_a0 _) sm_k117 rfl ?_
      refine sv_iload_n hM dX12_renameIn_35 rfl rfl ?_
      refine sv_lald hM dX12_renameIn_36 (sm_a69 _) (by decide) o1.1 o1.2 rfl (x := (S 69 p1)) rfl ?_
      refine sv_lconst (d := (1 : Int)) hM dX12_renameIn_37 rfl rfl ?_
      refine sv_iload_n hM dX12_renameIn_38 rfl rfl ?_
      refine sv_anyL hM dX12_renameIn_39 rfl rfl (fun r22 hr22 _ => ?_)
      have h := h r22 hr22
      refine sv_ldc2_w (d := (-1 : Int)) hM dX12_renameIn_40 sm_ck_1110 rfl rfl ?_
      refine sv_anyL hM dX12_renameIn_43 rfl rfl (fun r23 hr23 _ => ?_)
      have h := h r23 hr23
      refine sv_anyL hM dX12_renameIn_44 rfl rfl (fun r24 hr24 _ => ?_)
      have h := h r24 hr24
      refine sv_last sm_X hM dX12_renameIn_45 (sm_a69 _) (by decide) o1.1 o1.2 rfl ?_
      have ok25 : sm_ok (sv_up S 69 p1 r24) := sm_upJ ok6 sm_r69 hr24
      have md26 : sv_mod [69, 70] S (sv_up S 69 p1 r24) := sv_mod.up sv_mod.rf (by decide)
      refine sv_goto hM dX12_renameIn_46 (pc' := 72) rfl ?_
      refine sv_aload_n hM dX12_renameIn_72 rfl rfl ?_
      refine sv_iload_n hM dX12_renameIn_73 rfl rfl ?_
      refine sv_iload_n hM dX12_renameIn_74 rfl rfl ?_
      refine sv_iconst (d := (1 : Int)) hM dX12_renameIn_75 rfl rfl ?_
      refine sv_iadd hM dX12_renameIn_76 rfl ?_
      obtain ⟨o27, h⟩ := h
      obtain ⟨o28, h⟩ := h
      refine sv_callV hM dX12_renameIn_77 sm_iv_1081 (by decide) (sm_a0 _) rfl rfl (Nat.le_of_ble_eq_true rfl) sm_h216 (Nat.le_of_ble_eq_true rfl) (Nat.le_of_ble_eq_true rfl) (F' := 0) (Nat.le_of_ble_eq_true rfl) rfl (t_addLabel p1 (p2 + (1 : Int)) (sv_up S 69 p1 r24) ok25 hp1 o27 o28) (fun v S1 hq => ?_)
      obtain ⟨rfl, ok30, md31, hpo32⟩ := hq
      obtain ⟨g29, rfl⟩ : ∃ g, S1 = sv_sts (sv_up S 69 p1 r24) [69, 70] g := ⟨_, md31.eq⟩
      show sv_T sm_XS sm_cs sm_L sm_sh 1 (q_renameIn p1 p2 S) 255 80 [(0, .ref 0), (1, sv_I p1), (2, sv_I p2)] [] (sv_sts (sv_up S 69 p1 r24) [69, 70] g29)
      have md33 : sv_mod [69, 70] S (sv_sts (sv_up S 69 p1 r24) [69, 70] g29) := sv_mod.sts md26 (by decide)
      have h := h g29 hpo32
      exact sv_vret hM dX12_renameIn_80 rfl ⟨rfl, ok30, md33, h⟩
  · have h := h.2 (hc)
    exact sv_vret hM dX12_renameIn_19 rfl ⟨rfl, ok6, sv_mod.rf, h⟩
