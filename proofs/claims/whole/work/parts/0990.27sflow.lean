theorem dX12_loadRest_0 : decode cX12_loadRest 0 = .ok (.iconst 0, 1) := by decide +kernel
theorem dX12_loadRest_1 : decode cX12_loadRest 1 = .ok (.istore_n 2, 1) := by decide +kernel
theorem dX12_loadRest_2 : decode cX12_loadRest 2 = .ok (.iload_n 2, 1) := by decide +kernel
theorem dX12_loadRest_3 : decode cX12_loadRest 3 = .ok (.aload_n 0, 1) := by decide +kernel
theorem dX12_loadRest_4 : decode cX12_loadRest 4 = .ok (.getfield 765, 3) := by decide +kernel
theorem dX12_loadRest_7 : decode cX12_loadRest 7 = .ok (.if_icmp .ge 104, 3) := by decide +kernel
theorem dX12_loadRest_10 : decode cX12_loadRest 10 = .ok (.aload_n 0, 1) := by decide +kernel
theorem dX12_loadRest_11 : decode cX12_loadRest 11 = .ok (.iload_n 1, 1) := by decide +kernel
theorem dX12_loadRest_12 : decode cX12_loadRest 12 = .ok (.iload_n 2, 1) := by decide +kernel
theorem dX12_loadRest_13 : decode cX12_loadRest 13 = .ok (.invokevirtual 1101, 3) := by decide +kernel
theorem dX12_loadRest_16 : decode cX12_loadRest 16 = .ok (.istore_n 3, 1) := by decide +kernel
theorem dX12_loadRest_17 : decode cX12_loadRest 17 = .ok (.aload_n 0, 1) := by decide +kernel
theorem dX12_loadRest_18 : decode cX12_loadRest 18 = .ok (.sipush 639, 3) := by decide +kernel
theorem dX12_loadRest_21 : decode cX12_loadRest 21 = .ok (.iload_n 2, 1) := by decide +kernel
theorem dX12_loadRest_22 : decode cX12_loadRest 22 = .ok (.invokevirtual 1101, 3) := by decide +kernel
theorem dX12_loadRest_25 : decode cX12_loadRest 25 = .ok (.istore 4, 2) := by decide +kernel
theorem dX12_loadRest_27 : decode cX12_loadRest 27 = .ok (.aload_n 0, 1) := by decide +kernel
theorem dX12_loadRest_28 : decode cX12_loadRest 28 = .ok (.getfield 256, 3) := by decide +kernel
theorem dX12_loadRest_31 : decode cX12_loadRest 31 = .ok (.iload 4, 2) := by decide +kernel
theorem dX12_loadRest_33 : decode cX12_loadRest 33 = .ok (.aload_n 0, 1) := by decide +kernel
theorem dX12_loadRest_34 : decode cX12_loadRest 34 = .ok (.getfield 256, 3) := by decide +kernel
theorem dX12_loadRest_37 : decode cX12_loadRest 37 = .ok (.iload_n 3, 1) := by decide +kernel
theorem dX12_loadRest_38 : decode cX12_loadRest 38 = .ok (.baload, 1) := by decide +kernel
theorem dX12_loadRest_39 : decode cX12_loadRest 39 = .ok (.bastore, 1) := by decide +kernel
theorem dX12_loadRest_40 : decode cX12_loadRest 40 = .ok (.aload_n 0, 1) := by decide +kernel
theorem dX12_loadRest_41 : decode cX12_loadRest 41 = .ok (.getfield 259, 3) := by decide +kernel
theorem dX12_loadRest_44 : decode cX12_loadRest 44 = .ok (.iload 4, 2) := by decide +kernel
theorem dX12_loadRest_46 : decode cX12_loadRest 46 = .ok (.aload_n 0, 1) := by decide +kernel
theorem dX12_loadRest_47 : decode cX12_loadRest 47 = .ok (.getfield 259, 3) := by decide +kernel
theorem dX12_loadRest_50 : decode cX12_loadRest 50 = .ok (.iload_n 3, 1) := by decide +kernel
theorem dX12_loadRest_51 : decode cX12_loadRest 51 = .ok (.baload, 1) := by decide +kernel
theorem dX12_loadRest_52 : decode cX12_loadRest 52 = .ok (.bastore, 1) := by decide +kernel
theorem dX12_loadRest_53 : decode cX12_loadRest 53 = .ok (.aload_n 0, 1) := by decide +kernel
theorem dX12_loadRest_54 : decode cX12_loadRest 54 = .ok (.getfield 262, 3) := by decide +kernel
theorem dX12_loadRest_57 : decode cX12_loadRest 57 = .ok (.iload 4, 2) := by decide +kernel
theorem dX12_loadRest_59 : decode cX12_loadRest 59 = .ok (.aload_n 0, 1) := by decide +kernel
theorem dX12_loadRest_60 : decode cX12_loadRest 60 = .ok (.getfield 262, 3) := by decide +kernel
theorem dX12_loadRest_63 : decode cX12_loadRest 63 = .ok (.iload_n 3, 1) := by decide +kernel
theorem dX12_loadRest_64 : decode cX12_loadRest 64 = .ok (.laload, 1) := by decide +kernel
theorem dX12_loadRest_65 : decode cX12_loadRest 65 = .ok (.lastore, 1) := by decide +kernel
theorem dX12_loadRest_66 : decode cX12_loadRest 66 = .ok (.aload_n 0, 1) := by decide +kernel
theorem dX12_loadRest_67 : decode cX12_loadRest 67 = .ok (.getfield 265, 3) := by decide +kernel
theorem dX12_loadRest_70 : decode cX12_loadRest 70 = .ok (.iload 4, 2) := by decide +kernel
theorem dX12_loadRest_72 : decode cX12_loadRest 72 = .ok (.aload_n 0, 1) := by decide +kernel
theorem dX12_loadRest_73 : decode cX12_loadRest 73 = .ok (.getfield 265, 3) := by decide +kernel
theorem dX12_loadRest_76 : decode cX12_loadRest 76 = .ok (.iload_n 3, 1) := by decide +kernel
theorem dX12_loadRest_77 : decode cX12_loadRest 77 = .ok (.laload, 1) := by decide +kernel
theorem dX12_loadRest_78 : decode cX12_loadRest 78 = .ok (.lastore, 1) := by decide +kernel
theorem dX12_loadRest_79 : decode cX12_loadRest 79 = .ok (.aload_n 0, 1) := by decide +kernel
theorem dX12_loadRest_80 : decode cX12_loadRest 80 = .ok (.getfield 268, 3) := by decide +kernel
theorem dX12_loadRest_83 : decode cX12_loadRest 83 = .ok (.iload 4, 2) := by decide +kernel
theorem dX12_loadRest_85 : decode cX12_loadRest 85 = .ok (.aload_n 0, 1) := by decide +kernel
theorem dX12_loadRest_86 : decode cX12_loadRest 86 = .ok (.getfield 268, 3) := by decide +kernel
theorem dX12_loadRest_89 : decode cX12_loadRest 89 = .ok (.iload_n 3, 1) := by decide +kernel
theorem dX12_loadRest_90 : decode cX12_loadRest 90 = .ok (.laload, 1) := by decide +kernel
theorem dX12_loadRest_91 : decode cX12_loadRest 91 = .ok (.lastore, 1) := by decide +kernel
theorem dX12_loadRest_92 : decode cX12_loadRest 92 = .ok (.aload_n 0, 1) := by decide +kernel
theorem dX12_loadRest_93 : decode cX12_loadRest 93 = .ok (.getfield 271, 3) := by decide +kernel
theorem dX12_loadRest_96 : decode cX12_loadRest 96 = .ok (.iload 4, 2) := by decide +kernel
theorem dX12_loadRest_98 : decode cX12_loadRest 98 = .ok (.aload_n 0, 1) := by decide +kernel
theorem dX12_loadRest_99 : decode cX12_loadRest 99 = .ok (.getfield 271, 3) := by decide +kernel
theorem dX12_loadRest_102 : decode cX12_loadRest 102 = .ok (.iload_n 3, 1) := by decide +kernel
theorem dX12_loadRest_103 : decode cX12_loadRest 103 = .ok (.laload, 1) := by decide +kernel
theorem dX12_loadRest_104 : decode cX12_loadRest 104 = .ok (.lastore, 1) := by decide +kernel
theorem dX12_loadRest_105 : decode cX12_loadRest 105 = .ok (.iinc 2 1, 3) := by decide +kernel
theorem dX12_loadRest_108 : decode cX12_loadRest 108 = .ok (.goto (-106), 3) := by decide +kernel
theorem dX12_loadRest_111 : decode cX12_loadRest 111 = .ok (.return_, 1) := by decide +kernel
theorem dX12_loadLabels_0 : decode cX12_loadLabels 0 = .ok (.aload_n 0, 1) := by decide +kernel
theorem dX12_loadLabels_1 : decode cX12_loadLabels 1 = .ok (.iload_n 1, 1) := by decide +kernel
theorem dX12_loadLabels_2 : decode cX12_loadLabels 2 = .ok (.invokevirtual 1085, 3) := by decide +kernel
theorem dX12_loadLabels_5 : decode cX12_loadLabels 5 = .ok (.istore_n 2, 1) := by decide +kernel
theorem dX12_loadLabels_6 : decode cX12_loadLabels 6 = .ok (.iconst 0, 1) := by decide +kernel
theorem dX12_loadLabels_7 : decode cX12_loadLabels 7 = .ok (.istore_n 3, 1) := by decide +kernel
theorem dX12_loadLabels_8 : decode cX12_loadLabels 8 = .ok (.iload_n 3, 1) := by decide +kernel
theorem dX12_loadLabels_9 : decode cX12_loadLabels 9 = .ok (.aload_n 0, 1) := by decide +kernel
theorem dX12_loadLabels_10 : decode cX12_loadLabels 10 = .ok (.getfield 765, 3) := by decide +kernel
theorem dX12_loadLabels_13 : decode cX12_loadLabels 13 = .ok (.aload_n 0, 1) := by decide +kernel
theorem dX12_loadLabels_14 : decode cX12_loadLabels 14 = .ok (.getfield 762, 3) := by decide +kernel
theorem dX12_loadLabels_17 : decode cX12_loadLabels 17 = .ok (.iconst 1, 1) := by decide +kernel
theorem dX12_loadLabels_18 : decode cX12_loadLabels 18 = .ok (.iadd, 1) := by decide +kernel
theorem dX12_loadLabels_19 : decode cX12_loadLabels 19 = .ok (.imul, 1) := by decide +kernel
theorem dX12_loadLabels_20 : decode cX12_loadLabels 20 = .ok (.if_icmp .ge 21, 3) := by decide +kernel
theorem dX12_loadLabels_23 : decode cX12_loadLabels 23 = .ok (.aload_n 0, 1) := by decide +kernel
theorem dX12_loadLabels_24 : decode cX12_loadLabels 24 = .ok (.iload_n 2, 1) := by decide +kernel
theorem dX12_loadLabels_25 : decode cX12_loadLabels 25 = .ok (.iload_n 3, 1) := by decide +kernel
theorem dX12_loadLabels_26 : decode cX12_loadLabels 26 = .ok (.iadd, 1) := by decide +kernel
theorem dX12_loadLabels_27 : decode cX12_loadLabels 27 = .ok (.ldc_w 1084, 3) := by decide +kernel
theorem dX12_loadLabels_30 : decode cX12_loadLabels 30 = .ok (.iload_n 3, 1) := by decide +kernel
theorem dX12_loadLabels_31 : decode cX12_loadLabels 31 = .ok (.iadd, 1) := by decide +kernel
theorem dX12_loadLabels_32 : decode cX12_loadLabels 32 = .ok (.invokevirtual 1092, 3) := by decide +kernel
theorem dX12_loadLabels_35 : decode cX12_loadLabels 35 = .ok (.iinc 3 1, 3) := by decide +kernel
theorem dX12_loadLabels_38 : decode cX12_loadLabels 38 = .ok (.goto (-30), 3) := by decide +kernel
theorem dX12_loadLabels_41 : decode cX12_loadLabels 41 = .ok (.aload_n 0, 1) := by decide +kernel
theorem dX12_loadLabels_42 : decode cX12_loadLabels 42 = .ok (.iload_n 1, 1) := by decide +kernel
theorem dX12_loadLabels_43 : decode cX12_loadLabels 43 = .ok (.invokevirtual 1095, 3) := by decide +kernel
theorem dX12_loadLabels_46 : decode cX12_loadLabels 46 = .ok (.return_, 1) := by decide +kernel
theorem dX12_clearState_0 : decode cX12_clearState 0 = .ok (.aload_n 0, 1) := by decide +kernel
theorem dX12_clearState_1 : decode cX12_clearState 1 = .ok (.iload_n 1, 1) := by decide +kernel
theorem dX12_clearState_2 : decode cX12_clearState 2 = .ok (.invokevirtual 1085, 3) := by decide +kernel
theorem dX12_clearState_5 : decode cX12_clearState 5 = .ok (.istore_n 2, 1) := by decide +kernel
theorem dX12_clearState_6 : decode cX12_clearState 6 = .ok (.iconst 0, 1) := by decide +kernel
theorem dX12_clearState_7 : decode cX12_clearState 7 = .ok (.istore_n 3, 1) := by decide +kernel
theorem dX12_clearState_8 : decode cX12_clearState 8 = .ok (.iload_n 3, 1) := by decide +kernel
theorem dX12_clearState_9 : decode cX12_clearState 9 = .ok (.aload_n 0, 1) := by decide +kernel
theorem dX12_clearState_10 : decode cX12_clearState 10 = .ok (.getfield 765, 3) := by decide +kernel
theorem dX12_clearState_13 : decode cX12_clearState 13 = .ok (.aload_n 0, 1) := by decide +kernel
theorem dX12_clearState_14 : decode cX12_clearState 14 = .ok (.getfield 762, 3) := by decide +kernel
theorem dX12_clearState_17 : decode cX12_clearState 17 = .ok (.iconst 1, 1) := by decide +kernel
theorem dX12_clearState_18 : decode cX12_clearState 18 = .ok (.iadd, 1) := by decide +kernel
theorem dX12_clearState_19 : decode cX12_clearState 19 = .ok (.imul, 1) := by decide +kernel
theorem dX12_clearState_20 : decode cX12_clearState 20 = .ok (.if_icmp .ge 16, 3) := by decide +kernel
theorem dX12_clearState_23 : decode cX12_clearState 23 = .ok (.aload_n 0, 1) := by decide +kernel
theorem dX12_clearState_24 : decode cX12_clearState 24 = .ok (.iload_n 2, 1) := by decide +kernel
theorem dX12_clearState_25 : decode cX12_clearState 25 = .ok (.iload_n 3, 1) := by decide +kernel
theorem dX12_clearState_26 : decode cX12_clearState 26 = .ok (.iadd, 1) := by decide +kernel
theorem dX12_clearState_27 : decode cX12_clearState 27 = .ok (.invokevirtual 1066, 3) := by decide +kernel
theorem dX12_clearState_30 : decode cX12_clearState 30 = .ok (.iinc 3 1, 3) := by decide +kernel
theorem dX12_clearState_33 : decode cX12_clearState 33 = .ok (.goto (-25), 3) := by decide +kernel
theorem dX12_clearState_36 : decode cX12_clearState 36 = .ok (.iconst 0, 1) := by decide +kernel
theorem dX12_clearState_37 : decode cX12_clearState 37 = .ok (.istore_n 3, 1) := by decide +kernel
theorem dX12_clearState_38 : decode cX12_clearState 38 = .ok (.iload_n 3, 1) := by decide +kernel
theorem dX12_clearState_39 : decode cX12_clearState 39 = .ok (.aload_n 0, 1) := by decide +kernel
theorem dX12_clearState_40 : decode cX12_clearState 40 = .ok (.getfield 765, 3) := by decide +kernel
theorem dX12_clearState_43 : decode cX12_clearState 43 = .ok (.if_icmp .ge 65, 3) := by decide +kernel
theorem dX12_clearState_46 : decode cX12_clearState 46 = .ok (.aload_n 0, 1) := by decide +kernel
theorem dX12_clearState_47 : decode cX12_clearState 47 = .ok (.iload_n 1, 1) := by decide +kernel
theorem dX12_clearState_48 : decode cX12_clearState 48 = .ok (.iload_n 3, 1) := by decide +kernel
theorem dX12_clearState_49 : decode cX12_clearState 49 = .ok (.invokevirtual 1101, 3) := by decide +kernel
theorem dX12_clearState_52 : decode cX12_clearState 52 = .ok (.istore 4, 2) := by decide +kernel
theorem dX12_clearState_54 : decode cX12_clearState 54 = .ok (.aload_n 0, 1) := by decide +kernel
theorem dX12_clearState_55 : decode cX12_clearState 55 = .ok (.getfield 256, 3) := by decide +kernel
theorem dX12_clearState_58 : decode cX12_clearState 58 = .ok (.iload 4, 2) := by decide +kernel
theorem dX12_clearState_60 : decode cX12_clearState 60 = .ok (.iconst 0, 1) := by decide +kernel
theorem dX12_clearState_61 : decode cX12_clearState 61 = .ok (.bastore, 1) := by decide +kernel
theorem dX12_clearState_62 : decode cX12_clearState 62 = .ok (.aload_n 0, 1) := by decide +kernel
theorem dX12_clearState_63 : decode cX12_clearState 63 = .ok (.getfield 259, 3) := by decide +kernel
theorem dX12_clearState_66 : decode cX12_clearState 66 = .ok (.iload 4, 2) := by decide +kernel
theorem dX12_clearState_68 : decode cX12_clearState 68 = .ok (.iconst 0, 1) := by decide +kernel
theorem dX12_clearState_69 : decode cX12_clearState 69 = .ok (.bastore, 1) := by decide +kernel
theorem dX12_clearState_70 : decode cX12_clearState 70 = .ok (.aload_n 0, 1) := by decide +kernel
theorem dX12_clearState_71 : decode cX12_clearState 71 = .ok (.getfield 262, 3) := by decide +kernel
theorem dX12_clearState_74 : decode cX12_clearState 74 = .ok (.iload 4, 2) := by decide +kernel
theorem dX12_clearState_76 : decode cX12_clearState 76 = .ok (.lconst 0, 1) := by decide +kernel
theorem dX12_clearState_77 : decode cX12_clearState 77 = .ok (.lastore, 1) := by decide +kernel
theorem dX12_clearState_78 : decode cX12_clearState 78 = .ok (.aload_n 0, 1) := by decide +kernel
theorem dX12_clearState_79 : decode cX12_clearState 79 = .ok (.getfield 265, 3) := by decide +kernel
theorem dX12_clearState_82 : decode cX12_clearState 82 = .ok (.iload 4, 2) := by decide +kernel
theorem dX12_clearState_84 : decode cX12_clearState 84 = .ok (.lconst 0, 1) := by decide +kernel
theorem dX12_clearState_85 : decode cX12_clearState 85 = .ok (.lastore, 1) := by decide +kernel
theorem dX12_clearState_86 : decode cX12_clearState 86 = .ok (.aload_n 0, 1) := by decide +kernel
theorem dX12_clearState_87 : decode cX12_clearState 87 = .ok (.getfield 268, 3) := by decide +kernel
theorem dX12_clearState_90 : decode cX12_clearState 90 = .ok (.iload 4, 2) := by decide +kernel
theorem dX12_clearState_92 : decode cX12_clearState 92 = .ok (.lconst 0, 1) := by decide +kernel
theorem dX12_clearState_93 : decode cX12_clearState 93 = .ok (.lastore, 1) := by decide +kernel
theorem dX12_clearState_94 : decode cX12_clearState 94 = .ok (.aload_n 0, 1) := by decide +kernel
theorem dX12_clearState_95 : decode cX12_clearState 95 = .ok (.getfield 271, 3) := by decide +kernel
theorem dX12_clearState_98 : decode cX12_clearState 98 = .ok (.iload 4, 2) := by decide +kernel
theorem dX12_clearState_100 : decode cX12_clearState 100 = .ok (.lconst 0, 1) := by decide +kernel
theorem dX12_clearState_101 : decode cX12_clearState 101 = .ok (.lastore, 1) := by decide +kernel
theorem dX12_clearState_102 : decode cX12_clearState 102 = .ok (.iinc 3 1, 3) := by decide +kernel
theorem dX12_clearState_105 : decode cX12_clearState 105 = .ok (.goto (-67), 3) := by decide +kernel
theorem dX12_clearState_108 : decode cX12_clearState 108 = .ok (.aload_n 0, 1) := by decide +kernel
theorem dX12_clearState_109 : decode cX12_clearState 109 = .ok (.aload_n 0, 1) := by decide +kernel
theorem dX12_clearState_110 : decode cX12_clearState 110 = .ok (.iload_n 1, 1) := by decide +kernel
theorem dX12_clearState_111 : decode cX12_clearState 111 = .ok (.invokevirtual 1098, 3) := by decide +kernel
theorem dX12_clearState_114 : decode cX12_clearState 114 = .ok (.invokevirtual 1066, 3) := by decide +kernel
theorem dX12_clearState_117 : decode cX12_clearState 117 = .ok (.aload_n 0, 1) := by decide +kernel
theorem dX12_clearState_118 : decode cX12_clearState 118 = .ok (.getfield 241, 3) := by decide +kernel
theorem dX12_clearState_121 : decode cX12_clearState 121 = .ok (.iload_n 1, 1) := by decide +kernel
theorem dX12_clearState_122 : decode cX12_clearState 122 = .ok (.lconst 0, 1) := by decide +kernel
theorem dX12_clearState_123 : decode cX12_clearState 123 = .ok (.lastore, 1) := by decide +kernel
theorem dX12_clearState_124 : decode cX12_clearState 124 = .ok (.aload_n 0, 1) := by decide +kernel
theorem dX12_clearState_125 : decode cX12_clearState 125 = .ok (.getfield 244, 3) := by decide +kernel
theorem dX12_clearState_128 : decode cX12_clearState 128 = .ok (.iload_n 1, 1) := by decide +kernel
theorem dX12_clearState_129 : decode cX12_clearState 129 = .ok (.lconst 0, 1) := by decide +kernel
theorem dX12_clearState_130 : decode cX12_clearState 130 = .ok (.lastore, 1) := by decide +kernel
theorem dX12_clearState_131 : decode cX12_clearState 131 = .ok (.return_, 1) := by decide +kernel
theorem dX12_load_0 : decode cX12_load 0 = .ok (.aload_n 0, 1) := by decide +kernel
theorem dX12_load_1 : decode cX12_load 1 = .ok (.iload_n 1, 1) := by decide +kernel
theorem dX12_load_2 : decode cX12_load 2 = .ok (.invokevirtual 1085, 3) := by decide +kernel
theorem dX12_load_5 : decode cX12_load 5 = .ok (.istore_n 2, 1) := by decide +kernel
theorem dX12_load_6 : decode cX12_load 6 = .ok (.iconst 0, 1) := by decide +kernel
theorem dX12_load_7 : decode cX12_load 7 = .ok (.istore_n 3, 1) := by decide +kernel
theorem dX12_load_8 : decode cX12_load 8 = .ok (.iload_n 3, 1) := by decide +kernel
theorem dX12_load_9 : decode cX12_load 9 = .ok (.aload_n 0, 1) := by decide +kernel
theorem dX12_load_10 : decode cX12_load 10 = .ok (.getfield 765, 3) := by decide +kernel
theorem dX12_load_13 : decode cX12_load 13 = .ok (.aload_n 0, 1) := by decide +kernel
theorem dX12_load_14 : decode cX12_load 14 = .ok (.getfield 762, 3) := by decide +kernel
theorem dX12_load_17 : decode cX12_load 17 = .ok (.iconst 1, 1) := by decide +kernel
theorem dX12_load_18 : decode cX12_load 18 = .ok (.iadd, 1) := by decide +kernel
theorem dX12_load_19 : decode cX12_load 19 = .ok (.imul, 1) := by decide +kernel
theorem dX12_load_20 : decode cX12_load 20 = .ok (.if_icmp .ge 21, 3) := by decide +kernel
theorem dX12_load_23 : decode cX12_load 23 = .ok (.aload_n 0, 1) := by decide +kernel
theorem dX12_load_24 : decode cX12_load 24 = .ok (.iload_n 2, 1) := by decide +kernel
theorem dX12_load_25 : decode cX12_load 25 = .ok (.iload_n 3, 1) := by decide +kernel
theorem dX12_load_26 : decode cX12_load 26 = .ok (.iadd, 1) := by decide +kernel
theorem dX12_load_27 : decode cX12_load 27 = .ok (.ldc_w 1084, 3) := by decide +kernel
theorem dX12_load_30 : decode cX12_load 30 = .ok (.iload_n 3, 1) := by decide +kernel
theorem dX12_load_31 : decode cX12_load 31 = .ok (.iadd, 1) := by decide +kernel
theorem dX12_load_32 : decode cX12_load 32 = .ok (.invokevirtual 1092, 3) := by decide +kernel
theorem dX12_load_35 : decode cX12_load 35 = .ok (.iinc 3 1, 3) := by decide +kernel
theorem dX12_load_38 : decode cX12_load 38 = .ok (.goto (-30), 3) := by decide +kernel
theorem dX12_load_41 : decode cX12_load 41 = .ok (.aload_n 0, 1) := by decide +kernel
theorem dX12_load_42 : decode cX12_load 42 = .ok (.iload_n 1, 1) := by decide +kernel
theorem dX12_load_43 : decode cX12_load 43 = .ok (.invokevirtual 1095, 3) := by decide +kernel
theorem dX12_load_46 : decode cX12_load 46 = .ok (.aload_n 0, 1) := by decide +kernel
theorem dX12_load_47 : decode cX12_load 47 = .ok (.getfield 235, 3) := by decide +kernel
theorem dX12_load_50 : decode cX12_load 50 = .ok (.sipush 639, 3) := by decide +kernel
theorem dX12_load_53 : decode cX12_load 53 = .ok (.aload_n 0, 1) := by decide +kernel
theorem dX12_load_54 : decode cX12_load 54 = .ok (.getfield 235, 3) := by decide +kernel
theorem dX12_load_57 : decode cX12_load 57 = .ok (.iload_n 1, 1) := by decide +kernel
theorem dX12_load_58 : decode cX12_load 58 = .ok (.iaload, 1) := by decide +kernel
theorem dX12_load_59 : decode cX12_load 59 = .ok (.iastore, 1) := by decide +kernel
theorem dX12_load_60 : decode cX12_load 60 = .ok (.iconst 0, 1) := by decide +kernel
theorem dX12_load_61 : decode cX12_load 61 = .ok (.istore_n 3, 1) := by decide +kernel
theorem dX12_load_62 : decode cX12_load 62 = .ok (.iload_n 3, 1) := by decide +kernel
theorem dX12_load_63 : decode cX12_load 63 = .ok (.aload_n 0, 1) := by decide +kernel
theorem dX12_load_64 : decode cX12_load 64 = .ok (.getfield 235, 3) := by decide +kernel
theorem dX12_load_67 : decode cX12_load 67 = .ok (.iload_n 1, 1) := by decide +kernel
theorem dX12_load_68 : decode cX12_load 68 = .ok (.iaload, 1) := by decide +kernel
theorem dX12_load_69 : decode cX12_load 69 = .ok (.if_icmp .ge 31, 3) := by decide +kernel
theorem dX12_load_72 : decode cX12_load 72 = .ok (.aload_n 0, 1) := by decide +kernel
theorem dX12_load_73 : decode cX12_load 73 = .ok (.aload_n 0, 1) := by decide +kernel
theorem dX12_load_74 : decode cX12_load 74 = .ok (.getfield 238, 3) := by decide +kernel
theorem dX12_load_77 : decode cX12_load 77 = .ok (.iload_n 1, 1) := by decide +kernel
theorem dX12_load_78 : decode cX12_load 78 = .ok (.iaload, 1) := by decide +kernel
theorem dX12_load_79 : decode cX12_load 79 = .ok (.iload_n 3, 1) := by decide +kernel
theorem dX12_load_80 : decode cX12_load 80 = .ok (.iadd, 1) := by decide +kernel
theorem dX12_load_81 : decode cX12_load 81 = .ok (.aload_n 0, 1) := by decide +kernel
theorem dX12_load_82 : decode cX12_load 82 = .ok (.getfield 238, 3) := by decide +kernel
theorem dX12_load_85 : decode cX12_load 85 = .ok (.sipush 639, 3) := by decide +kernel
theorem dX12_load_88 : decode cX12_load 88 = .ok (.iaload, 1) := by decide +kernel
theorem dX12_load_89 : decode cX12_load 89 = .ok (.iload_n 3, 1) := by decide +kernel
theorem dX12_load_90 : decode cX12_load 90 = .ok (.iadd, 1) := by decide +kernel
theorem dX12_load_91 : decode cX12_load 91 = .ok (.invokevirtual 1092, 3) := by decide +kernel
theorem dX12_load_94 : decode cX12_load 94 = .ok (.iinc 3 1, 3) := by decide +kernel
theorem dX12_load_97 : decode cX12_load 97 = .ok (.goto (-35), 3) := by decide +kernel
theorem dX12_load_100 : decode cX12_load 100 = .ok (.aload_n 0, 1) := by decide +kernel
theorem dX12_load_101 : decode cX12_load 101 = .ok (.aload_n 0, 1) := by decide +kernel
theorem dX12_load_102 : decode cX12_load 102 = .ok (.iload_n 1, 1) := by decide +kernel
theorem dX12_load_103 : decode cX12_load 103 = .ok (.invokevirtual 1098, 3) := by decide +kernel
theorem dX12_load_106 : decode cX12_load 106 = .ok (.aload_n 0, 1) := by decide +kernel
theorem dX12_load_107 : decode cX12_load 107 = .ok (.sipush 639, 3) := by decide +kernel
theorem dX12_load_110 : decode cX12_load 110 = .ok (.invokevirtual 1098, 3) := by decide +kernel
theorem dX12_load_113 : decode cX12_load 113 = .ok (.invokevirtual 1092, 3) := by decide +kernel
theorem dX12_load_116 : decode cX12_load 116 = .ok (.aload_n 0, 1) := by decide +kernel
theorem dX12_load_117 : decode cX12_load 117 = .ok (.getfield 241, 3) := by decide +kernel
theorem dX12_load_120 : decode cX12_load 120 = .ok (.sipush 639, 3) := by decide +kernel
theorem dX12_load_123 : decode cX12_load 123 = .ok (.aload_n 0, 1) := by decide +kernel
theorem dX12_load_124 : decode cX12_load 124 = .ok (.getfield 241, 3) := by decide +kernel
theorem dX12_load_127 : decode cX12_load 127 = .ok (.iload_n 1, 1) := by decide +kernel
theorem dX12_load_128 : decode cX12_load 128 = .ok (.laload, 1) := by decide +kernel
theorem dX12_load_129 : decode cX12_load 129 = .ok (.lastore, 1) := by decide +kernel
theorem dX12_load_130 : decode cX12_load 130 = .ok (.aload_n 0, 1) := by decide +kernel
theorem dX12_load_131 : decode cX12_load 131 = .ok (.getfield 244, 3) := by decide +kernel
theorem dX12_load_134 : decode cX12_load 134 = .ok (.sipush 639, 3) := by decide +kernel
theorem dX12_load_137 : decode cX12_load 137 = .ok (.aload_n 0, 1) := by decide +kernel
theorem dX12_load_138 : decode cX12_load 138 = .ok (.getfield 244, 3) := by decide +kernel
theorem dX12_load_141 : decode cX12_load 141 = .ok (.iload_n 1, 1) := by decide +kernel
theorem dX12_load_142 : decode cX12_load 142 = .ok (.laload, 1) := by decide +kernel
theorem dX12_load_143 : decode cX12_load 143 = .ok (.lastore, 1) := by decide +kernel
theorem dX12_load_144 : decode cX12_load 144 = .ok (.aload_n 0, 1) := by decide +kernel
theorem dX12_load_145 : decode cX12_load 145 = .ok (.getfield 247, 3) := by decide +kernel
theorem dX12_load_148 : decode cX12_load 148 = .ok (.sipush 639, 3) := by decide +kernel
theorem dX12_load_151 : decode cX12_load 151 = .ok (.aload_n 0, 1) := by decide +kernel
theorem dX12_load_152 : decode cX12_load 152 = .ok (.getfield 247, 3) := by decide +kernel
theorem dX12_load_155 : decode cX12_load 155 = .ok (.iload_n 1, 1) := by decide +kernel
theorem dX12_load_156 : decode cX12_load 156 = .ok (.iaload, 1) := by decide +kernel
theorem dX12_load_157 : decode cX12_load 157 = .ok (.iastore, 1) := by decide +kernel
theorem dX12_load_158 : decode cX12_load 158 = .ok (.iconst 0, 1) := by decide +kernel
theorem dX12_load_159 : decode cX12_load 159 = .ok (.istore_n 3, 1) := by decide +kernel
theorem dX12_load_160 : decode cX12_load 160 = .ok (.iload_n 3, 1) := by decide +kernel
theorem dX12_load_161 : decode cX12_load 161 = .ok (.aload_n 0, 1) := by decide +kernel
theorem dX12_load_162 : decode cX12_load 162 = .ok (.getfield 247, 3) := by decide +kernel
theorem dX12_load_165 : decode cX12_load 165 = .ok (.iload_n 1, 1) := by decide +kernel
theorem dX12_load_166 : decode cX12_load 166 = .ok (.iaload, 1) := by decide +kernel
theorem dX12_load_167 : decode cX12_load 167 = .ok (.if_icmp .ge 51, 3) := by decide +kernel
theorem dX12_load_170 : decode cX12_load 170 = .ok (.aload_n 0, 1) := by decide +kernel
theorem dX12_load_171 : decode cX12_load 171 = .ok (.getfield 250, 3) := by decide +kernel
theorem dX12_load_174 : decode cX12_load 174 = .ok (.sipush 25560, 3) := by decide +kernel
theorem dX12_load_177 : decode cX12_load 177 = .ok (.iload_n 3, 1) := by decide +kernel
theorem dX12_load_178 : decode cX12_load 178 = .ok (.iadd, 1) := by decide +kernel
theorem dX12_load_179 : decode cX12_load 179 = .ok (.aload_n 0, 1) := by decide +kernel
theorem dX12_load_180 : decode cX12_load 180 = .ok (.getfield 250, 3) := by decide +kernel
theorem dX12_load_183 : decode cX12_load 183 = .ok (.bipush 40, 2) := by decide +kernel
theorem dX12_load_185 : decode cX12_load 185 = .ok (.iload_n 1, 1) := by decide +kernel
theorem dX12_load_186 : decode cX12_load 186 = .ok (.imul, 1) := by decide +kernel
theorem dX12_load_187 : decode cX12_load 187 = .ok (.iload_n 3, 1) := by decide +kernel
theorem dX12_load_188 : decode cX12_load 188 = .ok (.iadd, 1) := by decide +kernel
theorem dX12_load_189 : decode cX12_load 189 = .ok (.iaload, 1) := by decide +kernel
theorem dX12_load_190 : decode cX12_load 190 = .ok (.iastore, 1) := by decide +kernel
theorem dX12_load_191 : decode cX12_load 191 = .ok (.aload_n 0, 1) := by decide +kernel
theorem dX12_load_192 : decode cX12_load 192 = .ok (.getfield 253, 3) := by decide +kernel
theorem dX12_load_195 : decode cX12_load 195 = .ok (.sipush 25560, 3) := by decide +kernel
theorem dX12_load_198 : decode cX12_load 198 = .ok (.iload_n 3, 1) := by decide +kernel
theorem dX12_load_199 : decode cX12_load 199 = .ok (.iadd, 1) := by decide +kernel
theorem dX12_load_200 : decode cX12_load 200 = .ok (.aload_n 0, 1) := by decide +kernel
theorem dX12_load_201 : decode cX12_load 201 = .ok (.getfield 253, 3) := by decide +kernel
theorem dX12_load_204 : decode cX12_load 204 = .ok (.bipush 40, 2) := by decide +kernel
theorem dX12_load_206 : decode cX12_load 206 = .ok (.iload_n 1, 1) := by decide +kernel
theorem dX12_load_207 : decode cX12_load 207 = .ok (.imul, 1) := by decide +kernel
theorem dX12_load_208 : decode cX12_load 208 = .ok (.iload_n 3, 1) := by decide +kernel
theorem dX12_load_209 : decode cX12_load 209 = .ok (.iadd, 1) := by decide +kernel
theorem dX12_load_210 : decode cX12_load 210 = .ok (.iaload, 1) := by decide +kernel
theorem dX12_load_211 : decode cX12_load 211 = .ok (.iastore, 1) := by decide +kernel
theorem dX12_load_212 : decode cX12_load 212 = .ok (.iinc 3 1, 3) := by decide +kernel
theorem dX12_load_215 : decode cX12_load 215 = .ok (.goto (-55), 3) := by decide +kernel
theorem dX12_load_218 : decode cX12_load 218 = .ok (.return_, 1) := by decide +kernel
/-! CODE IN ORDER. op operation, a, b words, fo whose; Ht height, Tr innermost open TRY (-1), Td how many are open, Ls innermost NAMES_OF whose LIST lies (-1) -/
def sm_dp (Td : Int → Int) (t : Int) : Int := if t < 0 then 0 else Td t + 1
def sm_tc (Tr Td : Int → Int) (t j : Int) : Int := if h : 0 ≤ Tr t ∧ Tr t < t then (if j = Td t then t else sm_tc Tr Td (Tr t) j) else t
termination_by t.toNat
decreasing_by omega
def sm_at (fo Ht Tr Ls : Int → Int) (n k m f h t l : Int) : Prop := 0 ≤ m ∧ m < n ∧ fo m = f ∧ Ht m = h ∧ Tr m = t ∧ Ls m = l
def sm_lo (Ht Tr Ls : Int → Int) (k m : Int) : Prop := 0 ≤ m ∧ (0 ≤ Tr k → Ht (Tr k) ≤ m) ∧ (0 ≤ Ls k → Ht (Ls k) ≤ m)
def sm_C1 (op a b fo Ht Tr Td Ls ar : Int → Int) (n nf ns si k : Int) : Prop :=
  (0 ≤ op k ∧ op k ≤ 30 ∧ 0 ≤ fo k ∧ fo k < nf ∧ 0 ≤ Ht k ∧ Ht k ≤ 396 ∧ Ht k ≤ k + 2 ∧ -1 ≤ Tr k ∧ Tr k < k ∧ 0 ≤ Td k ∧ Td k ≤ 40 ∧ -1 ≤ Ls k ∧ Ls k < k) ∧
  (0 ≤ Tr k → op (Tr k) = 27 ∧ fo (Tr k) = fo k ∧ Td k = Td (Tr k) + 1) ∧ (Tr k = -1 → Td k = 0) ∧
  (0 ≤ Ls k → op (Ls k) = 29 ∧ fo (Ls k) = fo k ∧ Ht (Ls k) ≤ Ht k ∧ 1 ≤ Ht (Ls k)) ∧
  (op k = 0 → (0 ≤ a k ∧ a k ≤ 6 ∧ (a k = 6 → 0 ≤ b k ∧ b k < ns)) ∧ sm_lo Ht Tr Ls k (Ht k) ∧ sm_at fo Ht Tr Ls n k (k + 1) (fo k) (Ht k + 1) (Tr k) (Ls k)) ∧
  ((op k = 1 ∨ op k = 3 ∨ op k = 5) → (0 ≤ a k ∧ 0 ≤ b k ∧ b k < ns) ∧ sm_lo Ht Tr Ls k (Ht k) ∧ sm_at fo Ht Tr Ls n k (k + 1) (fo k) (Ht k + 1) (Tr k) (Ls k)) ∧
  ((op k = 2 ∨ op k = 4) → (0 ≤ a k ∧ 0 ≤ b k ∧ b k < ns) ∧ sm_lo Ht Tr Ls k (Ht k - 1) ∧ sm_at fo Ht Tr Ls n k (k + 1) (fo k) (Ht k) (Tr k) (Ls k)) ∧
  (op k = 6 → sm_lo Ht Tr Ls k (Ht k) ∧ sm_at fo Ht Tr Ls n k (k + 1) (fo k) (Ht k + 1) (Tr k) (Ls k)) ∧
  ((op k = 7 ∨ op k = 8) → (0 ≤ a k ∧ a k < si) ∧ sm_lo Ht Tr Ls k (Ht k) ∧ sm_at fo Ht Tr Ls n k (k + 1) (fo k) (Ht k + 1) (Tr k) (Ls k)) ∧
  (op k = 9 → (1 ≤ a k ∧ a k < nf ∧ ar (a k) = fo k) ∧ sm_lo Ht Tr Ls k (Ht k) ∧ sm_at fo Ht Tr Ls n k (k + 1) (fo k) (Ht k + 1) (Tr k) (Ls k)) ∧
  ((op k = 10 ∨ op k = 12) → sm_lo Ht Tr Ls k (Ht k - 2) ∧ sm_at fo Ht Tr Ls n k (k + 1) (fo k) (Ht k - 1) (Tr k) (Ls k)) ∧
  (op k = 11 → sm_lo Ht Tr Ls k (Ht k - 3) ∧ sm_at fo Ht Tr Ls n k (k + 1) (fo k) (Ht k - 2) (Tr k) (Ls k)) ∧
  (op k = 13 → (0 ≤ a k ∧ a k ≤ 4) ∧ sm_lo Ht Tr Ls k (Ht k - 1) ∧ sm_at fo Ht Tr Ls n k (k + 1) (fo k) (Ht k) (Tr k) (Ls k)) ∧
  (op k = 14 → (0 ≤ a k ∧ a k ≤ 20) ∧ sm_lo Ht Tr Ls k (Ht k - 2) ∧ sm_at fo Ht Tr Ls n k (k + 1) (fo k) (Ht k - 1) (Tr k) (Ls k)) ∧
  (op k = 15 → (0 ≤ a k ∧ a k ≤ 8) ∧ sm_lo Ht Tr Ls k (Ht k - a k - 2) ∧ sm_at fo Ht Tr Ls n k (k + 1) (fo k) (Ht k - a k - 1) (Tr k) (Ls k)) ∧
  (op k = 16 → (0 ≤ a k ∧ a k ≤ 8 ∧ 0 ≤ b k ∧ b k < si) ∧ sm_lo Ht Tr Ls k (Ht k - a k - 1) ∧ sm_at fo Ht Tr Ls n k (k + 1) (fo k) (Ht k - a k) (Tr k) (Ls k)) ∧
  (op k = 17 → 1 ≤ Ht k ∧ (0 ≤ Tr k → Ht (Tr k) ≤ Ht k - 1) ∧ ((0 ≤ Ls k ∧ Ht (Ls k) = Ht k ∧ sm_at fo Ht Tr Ls n k (k + 1) (fo k) (Ht k - 1) (Tr k) (Ls (Ls k))) ∨ ((0 ≤ Ls k → Ht (Ls k) ≤ Ht k - 1) ∧ sm_at fo Ht Tr Ls n k (k + 1) (fo k) (Ht k - 1) (Tr k) (Ls k)))) ∧
  (op k = 18 → sm_lo Ht Tr Ls k (Ht k - 1) ∧ sm_at fo Ht Tr Ls n k (k + 1) (fo k) (Ht k + 1) (Tr k) (Ls k)) ∧
  (op k = 19 → sm_lo Ht Tr Ls k (Ht k - 2) ∧ sm_at fo Ht Tr Ls n k (k + 1) (fo k) (Ht k + 2) (Tr k) (Ls k)) ∧
  (op k = 20 → sm_lo Ht Tr Ls k (Ht k - 3) ∧ sm_at fo Ht Tr Ls n k (k + 1) (fo k) (Ht k + 1) (Tr k) (Ls k)) ∧
  (op k = 21 → sm_lo Ht Tr Ls k (Ht k) ∧ sm_at fo Ht Tr Ls n k (a k) (fo k) (Ht k) (Tr k) (Ls k)) ∧
  (op k = 22 → sm_lo Ht Tr Ls k (Ht k - 1) ∧ sm_at fo Ht Tr Ls n k (k + 1) (fo k) (Ht k - 1) (Tr k) (Ls k) ∧ sm_at fo Ht Tr Ls n k (a k) (fo k) (Ht k - 1) (Tr k) (Ls k)) ∧
  ((op k = 23 ∨ op k = 24) → sm_lo Ht Tr Ls k (Ht k - 1) ∧ sm_at fo Ht Tr Ls n k (k + 1) (fo k) (Ht k - 1) (Tr k) (Ls k) ∧ sm_at fo Ht Tr Ls n k (a k) (fo k) (Ht k) (Tr k) (Ls k)) ∧
  ((op k = 25 ∨ op k = 26) → sm_lo Ht Tr Ls k (Ht k - 1)) ∧
  (op k = 27 → Td k < 40 ∧ sm_lo Ht Tr Ls k (Ht k) ∧ sm_at fo Ht Tr Ls n k (k + 1) (fo k) (Ht k) k (Ls k) ∧ sm_at fo Ht Tr Ls n k (a k) (fo k) (Ht k + 1) (Tr k) (Ls k)) ∧
  (op k = 28 → 0 ≤ Tr k ∧ sm_lo Ht Tr Ls k (Ht k) ∧ sm_at fo Ht Tr Ls n k (k + 1) (fo k) (Ht k) (Tr (Tr k)) (Ls k)) ∧
  (op k = 29 → sm_lo Ht Tr Ls k (Ht k - 1) ∧ sm_at fo Ht Tr Ls n k (k + 1) (fo k) (Ht k) (Tr k) k) ∧
  (op k = 30 → 0 ≤ Ls k ∧ Ht (Ls k) = Ht k ∧ 1 ≤ Ht k ∧ (0 ≤ Tr k → Ht (Tr k) ≤ Ht k - 1) ∧ sm_at fo Ht Tr Ls n k (k + 1) (fo k) (Ht k + 1) (Tr k) (Ls k) ∧ sm_at fo Ht Tr Ls n k (a k) (fo k) (Ht k - 1) (Tr k) (Ls (Ls k)))
def sm_CT (op a b fo Ht Tr Td Ls ar : Int → Int) (n nf ns si : Int) : Prop := ∀ k : Int, 0 ≤ k → k < n → sm_C1 op a b fo Ht Tr Td Ls ar n nf ns si k
theorem sm_tc_top {Tr Td : Int → Int} {t : Int} (h : -1 ≤ Tr t ∧ Tr t < t) (h0 : 0 ≤ t) : sm_tc Tr Td t (Td t) = t := by
  rw [sm_tc.eq_def]
  split
  · rw [if_pos rfl]
  · rfl
theorem sm_tc_in {Tr Td : Int → Int} {t j : Int} (h : 0 ≤ Tr t ∧ Tr t < t) (hj : ¬ j = Td t) : sm_tc Tr Td t j = sm_tc Tr Td (Tr t) j := by
  rw [sm_tc.eq_def, dif_pos h, if_neg hj]
/-- the open tries' places and heights, from a base on -/
def sm_TC (tp th a Ht Tr Td : Int → Int) (base t : Int) : Prop := ∀ j : Int, 0 ≤ j → j < sm_dp Td t → tp (base + j) = a (sm_tc Tr Td t j) ∧ th (base + j) = Ht (sm_tc Tr Td t j)
def sm_ST (R H SA TR TP TH a Ht Tr Td : Int → Int) (n P stk : Int) : Prop := ∀ st : Int, 0 ≤ st → st < P → R st = 1 → H st = Ht st ∧ 465000 ≤ SA st ∧ SA st + H st ≤ stk ∧ 0 ≤ TR st ∧ TR st ≤ 40 ∧ (st < n → TR st = sm_dp Td (Tr st) ∧ sm_TC TP TH a Ht Tr Td (40 * st) (Tr st))
theorem sm_TC_0 {tp th a Ht Tr Td : Int → Int} {base t : Int} (h : t < 0) : sm_TC tp th a Ht Tr Td base t := fun j h0 h1 => by
  unfold sm_dp at h1
  rw [if_pos h] at h1
  omega
theorem sm_TC_push {tp th a Ht Tr Td : Int → Int} {base k x y i i2 : Int} (h : sm_TC tp th a Ht Tr Td base (Tr k)) (h0 : 0 ≤ k) (hk : -1 ≤ Tr k ∧ Tr k < k) (hd : Td k = sm_dp Td (Tr k)) (hx : x = a k) (hy : y = Ht k) (hi : i = base + Td k) (hi2 : i2 = base + Td k) : sm_TC (fun i' : Int => if i' = i then x else tp i') (fun i' : Int => if i' = i2 then y else th i') a Ht Tr Td base k := fun j j0 j1 => by
  have hdk : sm_dp Td k = Td k + 1 := if_neg (by omega)
  rw [hdk] at j1
  dsimp only
  by_cases hj : j = Td k
  · subst hj
    rw [if_pos (by omega), if_pos (by omega), sm_tc_top hk h0]
    exact ⟨hx, hy⟩
  · rw [if_neg (by omega), if_neg (by omega)]
    have ht : 0 ≤ Tr k := by
      by_cases q : Tr k < 0
      · unfold sm_dp at hd; rw [if_pos q] at hd; omega
      · omega
    rw [sm_tc_in ⟨ht, hk.2⟩ hj]
    exact h j j0 (by omega)
theorem sm_TC_pop {tp th a Ht Tr Td : Int → Int} {base k : Int} (h : sm_TC tp th a Ht Tr Td base k) (h0 : 0 ≤ k) (hk : -1 ≤ Tr k ∧ Tr k < k) (hd : Td k = sm_dp Td (Tr k)) : sm_TC tp th a Ht Tr Td base (Tr k) := fun j j0 j1 => by
  have hdk : sm_dp Td k = Td k + 1 := if_neg (by omega)
  have ht : 0 ≤ Tr k := by
    by_cases q : Tr k < 0
    · unfold sm_dp at j1; rw [if_pos q] at j1; omega
    · omega
  have := h j j0 (by omega)
  rw [sm_tc_in ⟨ht, hk.2⟩ (by omega)] at this
  exact this
theorem sm_TC_top {tp th a Ht Tr Td : Int → Int} {base k : Int} (h : sm_TC tp th a Ht Tr Td base k) (h0 : 0 ≤ k) (hk : -1 ≤ Tr k ∧ Tr k < k) (hd : 0 ≤ Td k) : tp (base + Td k) = a k ∧ th (base + Td k) = Ht k := by
  have hdk : sm_dp Td k = Td k + 1 := if_neg (by omega)
  have := h (Td k) hd (by omega)
  rw [sm_tc_top hk h0] at this
  exact this
theorem sm_TC_t {tp th a Ht Tr Td : Int → Int} {base t t' : Int} (h : sm_TC tp th a Ht Tr Td base t) (e : t = t') : sm_TC tp th a Ht Tr Td base t' := e ▸ h
/-- rows that are copied from b to c, forty at most; nothing else -/
def sm_CQ (tp th tp0 th0 : Int → Int) (c b k : Int) : Prop := (∀ j : Int, 0 ≤ j → j < k → tp (c + j) = tp0 (b + j) ∧ th (c + j) = th0 (b + j)) ∧ ∀ i : Int, (i < c ∨ c + 40 ≤ i) → tp i = tp0 i ∧ th i = th0 i
theorem sm_CQ_0 {tp th : Int → Int} {c b k : Int} (h : k = 0) : sm_CQ tp th tp th c b k := ⟨fun j h0 h1 => by omega, fun _ _ => ⟨rfl, rfl⟩⟩
theorem sm_CQ_up {tp th tp0 th0 : Int → Int} {c b k k' i i2 x y : Int} (h : sm_CQ tp th tp0 th0 c b k) (h0 : 0 ≤ k) (h1 : k < 40) (hd : b + 40 ≤ c ∨ c + 40 ≤ b) (hi : i = c + k) (hi2 : i2 = c + k) (hx : x = tp (b + k)) (hy : y = th (b + k)) (hk : k' = k + 1) : sm_CQ (fun i' : Int => if i' = i then x else tp i') (fun i' : Int => if i' = i2 then y else th i') tp0 th0 c b k' := by
  refine ⟨fun j j0 j1 => ?_, fun q hq => ?_⟩
  · dsimp only
    by_cases hj : j = k
    · subst hj
      rw [if_pos (by omega), if_pos (by omega), hx, hy]
      exact h.2 (b + j) (by omega)
    · rw [if_neg (by omega), if_neg (by omega)]
      exact h.1 j j0 (by omega)
  · dsimp only
    rw [if_neg (by omega), if_neg (by omega)]
    exact h.2 q hq
theorem sm_CQ_TC {tp th tp0 th0 a Ht Tr Td : Int → Int} {c b k t : Int} (h : sm_CQ tp th tp0 th0 c b k) (q : sm_TC tp0 th0 a Ht Tr Td b t) (hk : sm_dp Td t ≤ k) : sm_TC tp th a Ht Tr Td c t := fun j j0 j1 => by
  obtain ⟨e1, e2⟩ := h.1 j j0 (by omega)
  obtain ⟨f1, f2⟩ := q j j0 j1
  exact ⟨e1.trans f1, e2.trans f2⟩
theorem sm_CQ_k {tp th tp0 th0 a Ht Tr Td : Int → Int} {c b k d t : Int} (h : sm_CQ tp th tp0 th0 c b k) (q : sm_TC tp0 th0 a Ht Tr Td d t) (hd : d + 40 ≤ c ∨ c + 40 ≤ d) (ht : sm_dp Td t ≤ 40) : sm_TC tp th a Ht Tr Td d t := fun j j0 j1 => by
  obtain ⟨e1, e2⟩ := h.2 (d + j) (by omega)
  obtain ⟨f1, f2⟩ := q j j0 j1
  exact ⟨e1.trans f1, e2.trans f2⟩
theorem sm_ST_new {R H SA TR TP TH TP' TH' a Ht Tr Td : Int → Int} {n P stk st x hh d t stk' : Int} (h : sm_ST R H SA TR TP TH a Ht Tr Td n P stk) (q : sm_CQ TP' TH' TP TH (40 * st) 25560 d) (w : sm_TC TP TH a Ht Tr Td 25560 t) (h0 : 0 ≤ st) (h1 : st < 639) (hP : P ≤ 639) (hx : x = 1) (hh1 : hh = Ht st) (hh0 : 0 ≤ Ht st) (hd : d = sm_dp Td t) (hd2 : 0 ≤ d ∧ d ≤ 40) (ht : st < n → Tr st = t) (hs : 465000 ≤ stk) (hk : stk' = stk + hh) :
    sm_ST (fun i' : Int => if i' = st then x else R i') (fun i' : Int => if i' = st then hh else H i') (fun i' : Int => if i' = st then stk else SA i') (fun i' : Int => if i' = st then d else TR i') TP' TH' a Ht Tr Td n P stk' := fun s s0 s1 hr => by
  dsimp only at hr ⊢
  by_cases hq : s = st
  · subst hq
    rw [if_pos rfl, if_pos rfl, if_pos rfl]
    refine ⟨hh1, hs, by omega, hd2.1, hd2.2, fun hn => ?_⟩
    rw [ht hn]
    exact ⟨hd, sm_CQ_TC q w (by omega)⟩
  · rw [if_neg hq] at hr
    rw [if_neg hq, if_neg hq, if_neg hq]
    obtain ⟨a1, a2, a3, a4, a5, a6⟩ := h s s0 s1 hr
    refine ⟨a1, a2, by omega, a4, a5, fun hn => ?_⟩
    obtain ⟨b1, b2⟩ := a6 hn
    exact ⟨b1, sm_CQ_k q b2 (by omega) (by omega)⟩
theorem sm_ST_at {R H SA TR TP TH a Ht Tr Td : Int → Int} {n P stk : Int} (h : sm_ST R H SA TR TP TH a Ht Tr Td n P stk) (st : Int) (h0 : 0 ≤ st) (h1 : st < P) (h2 : R st = 1) : H st = Ht st ∧ 465000 ≤ SA st ∧ SA st + H st ≤ stk ∧ 0 ≤ TR st ∧ TR st ≤ 40 ∧ (st < n → TR st = sm_dp Td (Tr st) ∧ sm_TC TP TH a Ht Tr Td (40 * st) (Tr st)) := h st h0 h1 h2
theorem sm_ST_F {R H SA TR TP TH H' SA' TR' TP' TH' a Ht Tr Td : Int → Int} {n P stk : Int} (h : sm_ST R H SA TR TP TH a Ht Tr Td n P stk) (hP : P ≤ 639) (e1 : sm_F1 H H' 639) (e2 : sm_F1 SA SA' 639) (e3 : sm_F1 TR TR' 639) (e4 : sm_F1 TP TP' 25560) (e5 : sm_F1 TH TH' 25560) : sm_ST R H' SA' TR' TP' TH' a Ht Tr Td n P stk := fun s s0 s1 hr => by
  obtain ⟨a1, a2, a3, a4, a5, a6⟩ := h s s0 s1 hr
  rw [e1 s (by omega), e2 s (by omega), e3 s (by omega)]
  refine ⟨a1, a2, a3, a4, a5, fun hn => ?_⟩
  obtain ⟨b1, b2⟩ := a6 hn
  refine ⟨b1, fun j j0 j1 => ?_⟩
  rw [e4 (40 * s + j) (by omega), e5 (40 * s + j) (by omega)]
  exact b2 j j0 j1
theorem sm_CQ_F {tp th tp0 th0 : Int → Int} {c b k : Int} (h : sm_CQ tp th tp0 th0 c b k) : sm_F1 tp0 tp c ∧ sm_F1 th0 th c := ⟨fun i hi => (h.2 i (Or.inl hi)).1, fun i hi => (h.2 i (Or.inl hi)).2⟩
theorem sm_cn_b {R : Int → Int} (h : ∀ x, 0 ≤ R x ∧ R x ≤ 1) : 0 ≤ sm_cn R ∧ sm_cn R ≤ 640 := sm_cn_rg h
theorem sm_cn_r {R : Int → Int} {i x : Int} (h0 : 0 ≤ i) (h1 : i < 640) : sm_cn (fun i' : Int => if i' = i then x else R i') = sm_cn R + R i - x := by
  have := sm_su_up (f := fun y => 1 - R y) (g := fun y => 1 - (if y = i then x else R y)) h0 (fun y hy => by dsimp only; rw [if_neg hy]) _ 640 rfl h1
  dsimp only at this
  rw [if_pos rfl] at this
  unfold sm_cn
  omega
theorem sm_du_b {D : Int → Int} (h : ∀ x, 0 ≤ D x ∧ D x ≤ 1) : 0 ≤ sm_du D ∧ sm_du D ≤ 640 := sm_du_rg h
theorem sm_du_r {D : Int → Int} {i x : Int} (h0 : 0 ≤ i) (h1 : i < 640) : sm_du (fun i' : Int => if i' = i then x else D i') = sm_du D - D i + x := by
  have := sm_su_up (f := D) (g := fun y => if y = i then x else D y) h0 (fun y hy => by dsimp only; rw [if_neg hy]) _ 640 rfl h1
  dsimp only at this
  rw [if_pos rfl] at this
  exact this
def sm_rq (a b : Int) : Int := sm_pc a + sm_pc b
theorem sm_ps_A {A B : Int → Int} {i x : Int} (h : 639 ≤ i) : sm_ps (fun i' : Int => if i' = i then x else A i') B = sm_ps A B := sm_su_eq _ _ rfl (fun y h0 h1 => by dsimp only; rw [if_neg (by omega)])
theorem sm_ps_B {A B : Int → Int} {i x : Int} (h : 639 ≤ i) : sm_ps A (fun i' : Int => if i' = i then x else B i') = sm_ps A B := sm_su_eq _ _ rfl (fun y h0 h1 => by dsimp only; rw [if_neg (by omega)])
theorem sm_ps_a {A B : Int → Int} {i x : Int} (h0 : 0 ≤ i) (h1 : i < 639) : sm_ps (fun i' : Int => if i' = i then x else A i') B = sm_ps A B + sm_rq (A i) (B i) - sm_rq x (B i) := by
  have := sm_su_up (f := fun y => 128 - sm_pc (A y) - sm_pc (B y)) (g := fun y => 128 - sm_pc (if y = i then x else A y) - sm_pc (B y)) h0 (fun y hy => by dsimp only; rw [if_neg hy]) _ 639 rfl h1
  dsimp only at this
  rw [if_pos rfl] at this
  unfold sm_ps sm_rq
  omega
theorem sm_ps_b {A B : Int → Int} {i x : Int} (h0 : 0 ≤ i) (h1 : i < 639) : sm_ps A (fun i' : Int => if i' = i then x else B i') = sm_ps A B + sm_rq (A i) (B i) - sm_rq (A i) x := by
  have := sm_su_up (f := fun y => 128 - sm_pc (A y) - sm_pc (B y)) (g := fun y => 128 - sm_pc (A y) - sm_pc (if y = i then x else B y)) h0 (fun y hy => by dsimp only; rw [if_neg hy]) _ 639 rfl h1
  dsimp only at this
  rw [if_pos rfl] at this
  unfold sm_ps sm_rq
  omega
theorem sm_hs_up {R H : Int → Int} {i x : Int} (h0 : 0 ≤ i) (h1 : i < 640) (hr : R i = 0) (hx : x = 1) : sm_hs (fun i' : Int => if i' = i then x else R i') H = sm_hs R H - H i := by
  have := sm_su_up (f := fun y => if R y = 0 then H y else 0) (g := fun y => if (if y = i then x else R y) = 0 then H y else 0) h0 (fun y hy => by dsimp only; rw [if_neg hy]) _ 640 rfl h1
  dsimp only at this
  rw [if_pos rfl, if_pos hr, hx, if_neg (by decide)] at this
  unfold sm_hs
  dsimp only
  rw [hx]
  omega
theorem sm_rq_or {a b fa fb x y r : Int} (ra : sv_RL a) (rb : sv_RL b) (ea : sm_lor a fa = x) (eb : sm_lor b fb = y) (hr : r = 0 ∨ r = 1) (hq : r = 1 → ¬ x = a ∨ ¬ y = b) : sm_rq a b + r ≤ sm_rq x y := by
  have p := sm_lor_1 (x := 0) ra ea
  have q := sm_lor_1 (x := 0) rb eb
  unfold sm_rq
  rcases hr with hr | hr
  · omega
  · rcases hq hr with w | w
    · have := p.2 w; omega
    · have := q.2 w; omega
theorem sm_ct_0 {op a b fo Ht Tr Td Ls ar : Int → Int} {n nf ns si : Int} (h : sm_CT op a b fo Ht Tr Td Ls ar n nf ns si) (k : Int) (h0 : 0 ≤ k) (h1 : k < n) : (0 ≤ op k ∧ op k ≤ 30 ∧ 0 ≤ fo k ∧ fo k < nf ∧ 0 ≤ Ht k ∧ Ht k ≤ 396 ∧ Ht k ≤ k + 2 ∧ -1 ≤ Tr k ∧ Tr k < k ∧ 0 ≤ Td k ∧ Td k ≤ 40 ∧ -1 ≤ Ls k ∧ Ls k < k) := (h k h0 h1).1
theorem sm_ct_1 {op a b fo Ht Tr Td Ls ar : Int → Int} {n nf ns si : Int} (h : sm_CT op a b fo Ht Tr Td Ls ar n nf ns si) (k : Int) (h0 : 0 ≤ k) (h1 : k < n) : (0 ≤ Tr k → op (Tr k) = 27 ∧ fo (Tr k) = fo k ∧ Td k = Td (Tr k) + 1) := (h k h0 h1).2.1
theorem sm_ct_2 {op a b fo Ht Tr Td Ls ar : Int → Int} {n nf ns si : Int} (h : sm_CT op a b fo Ht Tr Td Ls ar n nf ns si) (k : Int) (h0 : 0 ≤ k) (h1 : k < n) : (Tr k = -1 → Td k = 0) := (h k h0 h1).2.2.1
theorem sm_ct_3 {op a b fo Ht Tr Td Ls ar : Int → Int} {n nf ns si : Int} (h : sm_CT op a b fo Ht Tr Td Ls ar n nf ns si) (k : Int) (h0 : 0 ≤ k) (h1 : k < n) : (0 ≤ Ls k → op (Ls k) = 29 ∧ fo (Ls k) = fo k ∧ Ht (Ls k) ≤ Ht k ∧ 1 ≤ Ht (Ls k)) := (h k h0 h1).2.2.2.1
theorem sm_ct_4 {op a b fo Ht Tr Td Ls ar : Int → Int} {n nf ns si : Int} (h : sm_CT op a b fo Ht Tr Td Ls ar n nf ns si) (k : Int) (h0 : 0 ≤ k) (h1 : k < n) : (op k = 0 → (0 ≤ a k ∧ a k ≤ 6 ∧ (a k = 6 → 0 ≤ b k ∧ b k < ns)) ∧ sm_lo Ht Tr Ls k (Ht k) ∧ sm_at fo Ht Tr Ls n k (k + 1) (fo k) (Ht k + 1) (Tr k) (Ls k)) := (h k h0 h1).2.2.2.2.1
theorem sm_ct_5 {op a b fo Ht Tr Td Ls ar : Int → Int} {n nf ns si : Int} (h : sm_CT op a b fo Ht Tr Td Ls ar n nf ns si) (k : Int) (h0 : 0 ≤ k) (h1 : k < n) : ((op k = 1 ∨ op k = 3 ∨ op k = 5) → (0 ≤ a k ∧ 0 ≤ b k ∧ b k < ns) ∧ sm_lo Ht Tr Ls k (Ht k) ∧ sm_at fo Ht Tr Ls n k (k + 1) (fo k) (Ht k + 1) (Tr k) (Ls k)) := (h k h0 h1).2.2.2.2.2.1
theorem sm_ct_6 {op a b fo Ht Tr Td Ls ar : Int → Int} {n nf ns si : Int} (h : sm_CT op a b fo Ht Tr Td Ls ar n nf ns si) (k : Int) (h0 : 0 ≤ k) (h1 : k < n) : ((op k = 2 ∨ op k = 4) → (0 ≤ a k ∧ 0 ≤ b k ∧ b k < ns) ∧ sm_lo Ht Tr Ls k (Ht k - 1) ∧ sm_at fo Ht Tr Ls n k (k + 1) (fo k) (Ht k) (Tr k) (Ls k)) := (h k h0 h1).2.2.2.2.2.2.1
theorem sm_ct_7 {op a b fo Ht Tr Td Ls ar : Int → Int} {n nf ns si : Int} (h : sm_CT op a b fo Ht Tr Td Ls ar n nf ns si) (k : Int) (h0 : 0 ≤ k) (h1 : k < n) : (op k = 6 → sm_lo Ht Tr Ls k (Ht k) ∧ sm_at fo Ht Tr Ls n k (k + 1) (fo k) (Ht k + 1) (Tr k) (Ls k)) := (h k h0 h1).2.2.2.2.2.2.2.1
theorem sm_ct_8 {op a b fo Ht Tr Td Ls ar : Int → Int} {n nf ns si : Int} (h : sm_CT op a b fo Ht Tr Td Ls ar n nf ns si) (k : Int) (h0 : 0 ≤ k) (h1 : k < n) : ((op k = 7 ∨ op k = 8) → (0 ≤ a k ∧ a k < si) ∧ sm_lo Ht Tr Ls k (Ht k) ∧ sm_at fo Ht Tr Ls n k (k + 1) (fo k) (Ht k + 1) (Tr k) (Ls k)) := (h k h0 h1).2.2.2.2.2.2.2.2.1
theorem sm_ct_9 {op a b fo Ht Tr Td Ls ar : Int → Int} {n nf ns si : Int} (h : sm_CT op a b fo Ht Tr Td Ls ar n nf ns si) (k : Int) (h0 : 0 ≤ k) (h1 : k < n) : (op k = 9 → (1 ≤ a k ∧ a k < nf ∧ ar (a k) = fo k) ∧ sm_lo Ht Tr Ls k (Ht k) ∧ sm_at fo Ht Tr Ls n k (k + 1) (fo k) (Ht k + 1) (Tr k) (Ls k)) := (h k h0 h1).2.2.2.2.2.2.2.2.2.1
theorem sm_ct_10 {op a b fo Ht Tr Td Ls ar : Int → Int} {n nf ns si : Int} (h : sm_CT op a b fo Ht Tr Td Ls ar n nf ns si) (k : Int) (h0 : 0 ≤ k) (h1 : k < n) : ((op k = 10 ∨ op k = 12) → sm_lo Ht Tr Ls k (Ht k - 2) ∧ sm_at fo Ht Tr Ls n k (k + 1) (fo k) (Ht k - 1) (Tr k) (Ls k)) := (h k h0 h1).2.2.2.2.2.2.2.2.2.2.1
theorem sm_ct_11 {op a b fo Ht Tr Td Ls ar : Int → Int} {n nf ns si : Int} (h : sm_CT op a b fo Ht Tr Td Ls ar n nf ns si) (k : Int) (h0 : 0 ≤ k) (h1 : k < n) : (op k = 11 → sm_lo Ht Tr Ls k (Ht k - 3) ∧ sm_at fo Ht Tr Ls n k (k + 1) (fo k) (Ht k - 2) (Tr k) (Ls k)) := (h k h0 h1).2.2.2.2.2.2.2.2.2.2.2.1
theorem sm_ct_12 {op a b fo Ht Tr Td Ls ar : Int → Int} {n nf ns si : Int} (h : sm_CT op a b fo Ht Tr Td Ls ar n nf ns si) (k : Int) (h0 : 0 ≤ k) (h1 : k < n) : (op k = 13 → (0 ≤ a k ∧ a k ≤ 4) ∧ sm_lo Ht Tr Ls k (Ht k - 1) ∧ sm_at fo Ht Tr Ls n k (k + 1) (fo k) (Ht k) (Tr k) (Ls k)) := (h k h0 h1).2.2.2.2.2.2.2.2.2.2.2.2.1
theorem sm_ct_13 {op a b fo Ht Tr Td Ls ar : Int → Int} {n nf ns si : Int} (h : sm_CT op a b fo Ht Tr Td Ls ar n nf ns si) (k : Int) (h0 : 0 ≤ k) (h1 : k < n) : (op k = 14 → (0 ≤ a k ∧ a k ≤ 20) ∧ sm_lo Ht Tr Ls k (Ht k - 2) ∧ sm_at fo Ht Tr Ls n k (k + 1) (fo k) (Ht k - 1) (Tr k) (Ls k)) := (h k h0 h1).2.2.2.2.2.2.2.2.2.2.2.2.2.1
theorem sm_ct_14 {op a b fo Ht Tr Td Ls ar : Int → Int} {n nf ns si : Int} (h : sm_CT op a b fo Ht Tr Td Ls ar n nf ns si) (k : Int) (h0 : 0 ≤ k) (h1 : k < n) : (op k = 15 → (0 ≤ a k ∧ a k ≤ 8) ∧ sm_lo Ht Tr Ls k (Ht k - a k - 2) ∧ sm_at fo Ht Tr Ls n k (k + 1) (fo k) (Ht k - a k - 1) (Tr k) (Ls k)) := (h k h0 h1).2.2.2.2.2.2.2.2.2.2.2.2.2.2.1
theorem sm_ct_15 {op a b fo Ht Tr Td Ls ar : Int → Int} {n nf ns si : Int} (h : sm_CT op a b fo Ht Tr Td Ls ar n nf ns si) (k : Int) (h0 : 0 ≤ k) (h1 : k < n) : (op k = 16 → (0 ≤ a k ∧ a k ≤ 8 ∧ 0 ≤ b k ∧ b k < si) ∧ sm_lo Ht Tr Ls k (Ht k - a k - 1) ∧ sm_at fo Ht Tr Ls n k (k + 1) (fo k) (Ht k - a k) (Tr k) (Ls k)) := (h k h0 h1).2.2.2.2.2.2.2.2.2.2.2.2.2.2.2.1
theorem sm_ct_16 {op a b fo Ht Tr Td Ls ar : Int → Int} {n nf ns si : Int} (h : sm_CT op a b fo Ht Tr Td Ls ar n nf ns si) (k : Int) (h0 : 0 ≤ k) (h1 : k < n) : (op k = 17 → 1 ≤ Ht k ∧ (0 ≤ Tr k → Ht (Tr k) ≤ Ht k - 1) ∧ ((0 ≤ Ls k ∧ Ht (Ls k) = Ht k ∧ sm_at fo Ht Tr Ls n k (k + 1) (fo k) (Ht k - 1) (Tr k) (Ls (Ls k))) ∨ ((0 ≤ Ls k → Ht (Ls k) ≤ Ht k - 1) ∧ sm_at fo Ht Tr Ls n k (k + 1) (fo k) (Ht k - 1) (Tr k) (Ls k)))) := (h k h0 h1).2.2.2.2.2.2.2.2.2.2.2.2.2.2.2.2.1
theorem sm_ct_17 {op a b fo Ht Tr Td Ls ar : Int → Int} {n nf ns si : Int} (h : sm_CT op a b fo Ht Tr Td Ls ar n nf ns si) (k : Int) (h0 : 0 ≤ k) (h1 : k < n) : (op k = 18 → sm_lo Ht Tr Ls k (Ht k - 1) ∧ sm_at fo Ht Tr Ls n k (k + 1) (fo k) (Ht k + 1) (Tr k) (Ls k)) := (h k h0 h1).2.2.2.2.2.2.2.2.2.2.2.2.2.2.2.2.2.1
theorem sm_ct_18 {op a b fo Ht Tr Td Ls ar : Int → Int} {n nf ns si : Int} (h : sm_CT op a b fo Ht Tr Td Ls ar n nf ns si) (k : Int) (h0 : 0 ≤ k) (h1 : k < n) : (op k = 19 → sm_lo Ht Tr Ls k (Ht k - 2) ∧ sm_at fo Ht Tr Ls n k (k + 1) (fo k) (Ht k + 2) (Tr k) (Ls k)) := (h k h0 h1).2.2.2.2.2.2.2.2.2.2.2.2.2.2.2.2.2.2.1
theorem sm_ct_19 {op a b fo Ht Tr Td Ls ar : Int → Int} {n nf ns si : Int} (h : sm_CT op a b fo Ht Tr Td Ls ar n nf ns si) (k : Int) (h0 : 0 ≤ k) (h1 : k < n) : (op k = 20 → sm_lo Ht Tr Ls k (Ht k - 3) ∧ sm_at fo Ht Tr Ls n k (k + 1) (fo k) (Ht k + 1) (Tr k) (Ls k)) := (h k h0 h1).2.2.2.2.2.2.2.2.2.2.2.2.2.2.2.2.2.2.2.1
theorem sm_ct_20 {op a b fo Ht Tr Td Ls ar : Int → Int} {n nf ns si : Int} (h : sm_CT op a b fo Ht Tr Td Ls ar n nf ns si) (k : Int) (h0 : 0 ≤ k) (h1 : k < n) : (op k = 21 → sm_lo Ht Tr Ls k (Ht k) ∧ sm_at fo Ht Tr Ls n k (a k) (fo k) (Ht k) (Tr k) (Ls k)) := (h k h0 h1).2.2.2.2.2.2.2.2.2.2.2.2.2.2.2.2.2.2.2.2.1
theorem sm_ct_21 {op a b fo Ht Tr Td Ls ar : Int → Int} {n nf ns si : Int} (h : sm_CT op a b fo Ht Tr Td Ls ar n nf ns si) (k : Int) (h0 : 0 ≤ k) (h1 : k < n) : (op k = 22 → sm_lo Ht Tr Ls k (Ht k - 1) ∧ sm_at fo Ht Tr Ls n k (k + 1) (fo k) (Ht k - 1) (Tr k) (Ls k) ∧ sm_at fo Ht Tr Ls n k (a k) (fo k) (Ht k - 1) (Tr k) (Ls k)) := (h k h0 h1).2.2.2.2.2.2.2.2.2.2.2.2.2.2.2.2.2.2.2.2.2.1
theorem sm_ct_22 {op a b fo Ht Tr Td Ls ar : Int → Int} {n nf ns si : Int} (h : sm_CT op a b fo Ht Tr Td Ls ar n nf ns si) (k : Int) (h0 : 0 ≤ k) (h1 : k < n) : ((op k = 23 ∨ op k = 24) → sm_lo Ht Tr Ls k (Ht k - 1) ∧ sm_at fo Ht Tr Ls n k (k + 1) (fo k) (Ht k - 1) (Tr k) (Ls k) ∧ sm_at fo Ht Tr Ls n k (a k) (fo k) (Ht k) (Tr k) (Ls k)) := (h k h0 h1).2.2.2.2.2.2.2.2.2.2.2.2.2.2.2.2.2.2.2.2.2.2.1
theorem sm_ct_23 {op a b fo Ht Tr Td Ls ar : Int → Int} {n nf ns si : Int} (h : sm_CT op a b fo Ht Tr Td Ls ar n nf ns si) (k : Int) (h0 : 0 ≤ k) (h1 : k < n) : ((op k = 25 ∨ op k = 26) → sm_lo Ht Tr Ls k (Ht k - 1)) := (h k h0 h1).2.2.2.2.2.2.2.2.2.2.2.2.2.2.2.2.2.2.2.2.2.2.2.1
theorem sm_ct_24 {op a b fo Ht Tr Td Ls ar : Int → Int} {n nf ns si : Int} (h : sm_CT op a b fo Ht Tr Td Ls ar n nf ns si) (k : Int) (h0 : 0 ≤ k) (h1 : k < n) : (op k = 27 → Td k < 40 ∧ sm_lo Ht Tr Ls k (Ht k) ∧ sm_at fo Ht Tr Ls n k (k + 1) (fo k) (Ht k) k (Ls k) ∧ sm_at fo Ht Tr Ls n k (a k) (fo k) (Ht k + 1) (Tr k) (Ls k)) := (h k h0 h1).2.2.2.2.2.2.2.2.2.2.2.2.2.2.2.2.2.2.2.2.2.2.2.2.1
theorem sm_ct_25 {op a b fo Ht Tr Td Ls ar : Int → Int} {n nf ns si : Int} (h : sm_CT op a b fo Ht Tr Td Ls ar n nf ns si) (k : Int) (h0 : 0 ≤ k) (h1 : k < n) : (op k = 28 → 0 ≤ Tr k ∧ sm_lo Ht Tr Ls k (Ht k) ∧ sm_at fo Ht Tr Ls n k (k + 1) (fo k) (Ht k) (Tr (Tr k)) (Ls k)) := (h k h0 h1).2.2.2.2.2.2.2.2.2.2.2.2.2.2.2.2.2.2.2.2.2.2.2.2.2.1
theorem sm_ct_26 {op a b fo Ht Tr Td Ls ar : Int → Int} {n nf ns si : Int} (h : sm_CT op a b fo Ht Tr Td Ls ar n nf ns si) (k : Int) (h0 : 0 ≤ k) (h1 : k < n) : (op k = 29 → sm_lo Ht Tr Ls k (Ht k - 1) ∧ sm_at fo Ht Tr Ls n k (k + 1) (fo k) (Ht k) (Tr k) k) := (h k h0 h1).2.2.2.2.2.2.2.2.2.2.2.2.2.2.2.2.2.2.2.2.2.2.2.2.2.2.1
theorem sm_ct_27 {op a b fo Ht Tr Td Ls ar : Int → Int} {n nf ns si : Int} (h : sm_CT op a b fo Ht Tr Td Ls ar n nf ns si) (k : Int) (h0 : 0 ≤ k) (h1 : k < n) : (op k = 30 → 0 ≤ Ls k ∧ Ht (Ls k) = Ht k ∧ 1 ≤ Ht k ∧ (0 ≤ Tr k → Ht (Tr k) ≤ Ht k - 1) ∧ sm_at fo Ht Tr Ls n k (k + 1) (fo k) (Ht k + 1) (Tr k) (Ls k) ∧ sm_at fo Ht Tr Ls n k (a k) (fo k) (Ht k - 1) (Tr k) (Ls (Ls k))) := (h k h0 h1).2.2.2.2.2.2.2.2.2.2.2.2.2.2.2.2.2.2.2.2.2.2.2.2.2.2.2
def sm_NH (H : Int → Int) : Prop := ∀ x : Int, 0 ≤ x → x < 640 → 0 ≤ H x ∧ H x ≤ 400
theorem sm_hs_0 {R H : Int → Int} (h : sm_NH H) : 0 ≤ sm_hs R H := by
  have := sm_su_r (f := fun x => if R x = 0 then H x else 0) (M := 400) _ 640 rfl (by decide) (fun x x0 x1 => by
    have := h x x0 x1
    dsimp only
    split <;> omega)
  exact this.1
theorem sm_NH_at {H : Int → Int} (h : sm_NH H) (x : Int) (h0 : 0 ≤ x) (h1 : x < 640) : 0 ≤ H x ∧ H x ≤ 400 := h x h0 h1
theorem sm_dp_k {op a b fo Ht Tr Td Ls ar : Int → Int} {n nf ns si : Int} (h : sm_CT op a b fo Ht Tr Td Ls ar n nf ns si) (k : Int) (h0 : 0 ≤ k) (h1 : k < n) : Td k = sm_dp Td (Tr k) := by
  have a0 := sm_ct_0 h k h0 h1
  have a1 := sm_ct_1 h k h0 h1
  have a2 := sm_ct_2 h k h0 h1
  unfold sm_dp
  split
  · exact a2 (by omega)
  · exact (a1 (by omega)).2.2
theorem sm_dp_n {Td : Int → Int} {t : Int} (h : t < 0) : sm_dp Td t = 0 := if_pos h
theorem sm_dp_s {Td : Int → Int} {t : Int} (h : 0 ≤ t) : sm_dp Td t = Td t + 1 := if_neg (by omega)
/-- what a toss finds: the handler of the innermost open try -/
theorem sm_TC_toss {tp th op a b fo Ht Tr Td Ls ar : Int → Int} {n nf ns si t : Int} (h : sm_CT op a b fo Ht Tr Td Ls ar n nf ns si) (q : sm_TC tp th a Ht Tr Td 25560 t) (h0 : 0 ≤ t) (h1 : t < n) (ho : op t = 27) : (0 ≤ Td t ∧ Td t < 40 ∧ sm_dp Td t = Td t + 1 ∧ Td t = sm_dp Td (Tr t) ∧ -1 ≤ Tr t ∧ Tr t < t) ∧ (tp (25560 + Td t) = a t ∧ th (25560 + Td t) = Ht t ∧ 0 ≤ Ht t ∧ Ht t ≤ 396) ∧ (0 ≤ a t ∧ a t < n ∧ Ht (a t) = Ht t + 1 ∧ Tr (a t) = Tr t) ∧ (0 ≤ Tr t → op (Tr t) = 27) ∧ sm_TC tp th a Ht Tr Td 25560 (Tr t) := by
  have a0 := sm_ct_0 h t h0 h1
  have a1 := sm_ct_1 h t h0 h1
  have a24 := sm_ct_24 h t h0 h1 ho
  have d := sm_dp_k h t h0 h1
  obtain ⟨e1, e2⟩ := sm_TC_top q h0 ⟨by omega, by omega⟩ (by omega)
  have m := a24.2.2.2
  unfold sm_at at m
  exact ⟨⟨by omega, a24.1, sm_dp_s h0, d, by omega, by omega⟩, ⟨e1, e2, by omega, by omega⟩, ⟨m.1, m.2.1, m.2.2.2.1, m.2.2.2.2.1⟩, fun z => (a1 z).1, sm_TC_pop q h0 ⟨by omega, by omega⟩ d⟩

def q_loadRest (p1 : Int) (S : sv_S) : Option Value → sv_S → Prop := fun v S' => v = none ∧ sm_ok S' ∧ sv_mod [81, 82, 83, 84, 85, 86] S S' ∧ (sm_pl (S' 81) (S' 82) (S' 83) (S' 84) (S' 85) (S' 86) = sm_pl (S 81) (S 82) (S 83) (S 84) (S 85) (S 86))
theorem la_loadRest_0 {x0 x1 : Int} (h0 : 29 ≤ x0) : (0 : Int) ≤ 0 ∧ 0 ≤ x0 ∧ x1 = x1 := by omega
theorem la_loadRest_1 {x0 x1 : Int} (h0 : x0 ≤ x1) : 0 ≤ x1 - x0 := by omega
theorem la_loadRest_2 {x0 x1 x2 x3 : Int} (h0 : x0 = x1) : x2 ≤ x3 → x0 = x1 := by omega
theorem la_loadRest_3 {x0 x1 x2 x3 x4 x5 : Int} (h0 : x0 ≤ 127) (h1 : x1 + 2 * x2 ≤ 500) (h2 : 0 ≤ x3) (h3 : x3 ≤ 11557) (h4 : 0 ≤ x4) (h5 : x4 < x1 + 2 * x2) (h6 : 0 ≤ x5) (h7 : ¬ x0 ≤ x5) : 0 ≤ x3 ∧ x3 ≤ 11557 ∧ 0 ≤ x4 ∧ (x4 = 639 ∨ x4 < x1 + 2 * x2) ∧ 0 ≤ x5 ∧ (x5 < x0 ∨ x4 = 639 ∧ x5 < 128) := by omega
theorem la_loadRest_4 {x0 x1 x2 : Int} (h0 : x0 + 2 * x1 ≤ 500) (h1 : x2 < x0 + 2 * x1) : ¬ x2 = 639 := by omega
theorem la_loadRest_5 {x0 x1 x2 x3 x4 : Int} (h0 : x0 ≤ 127) (h1 : 0 ≤ x1) (h2 : x1 ≤ 11557) (h3 : 0 ≤ x2) (h4 : ¬ x0 ≤ x2) : 0 ≤ x1 ∧ x1 ≤ 11557 ∧ (0 : Int) ≤ 639 ∧ ((639 : Int) = 639 ∨ 639 < x3 + 2 * x4) ∧ 0 ≤ x2 ∧ (x2 < x0 ∨ (639 : Int) = 639 ∧ x2 < 128) := by omega
theorem la_loadRest_6 : (639 : Int) = 639 := by omega
theorem la_loadRest_7 : ¬ ¬ (639 : Int) = 639 := by omega
theorem la_loadRest_8 {x0 : Int} (h0 : 0 ≤ x0) (h1 : x0 < 14520) : 0 ≤ x0 ∧ x0 < 15128 := by omega
theorem la_loadRest_9 {x0 x1 x2 : Int} (h0 : x0 ≤ 127) (h1 : 0 ≤ x1) (h2 : ¬ x0 ≤ x1) (h3 : x2 = 15000 + x1) : 0 ≤ x2 ∧ x2 < 15128 := by omega
theorem la_loadRest_10 {x0 x1 : Int} (h0 : x0 ≤ 127) (h1 : 0 ≤ x1) (h2 : ¬ x0 ≤ x1) : sv_R (x1 + 1) := by omega
theorem la_loadRest_11 {x0 : Int} (h0 : 0 ≤ x0) : 0 ≤ x0 + 1 := by omega
theorem la_loadRest_12 {x0 x1 : Int} (h0 : ¬ x0 ≤ x1) : x1 + 1 ≤ x0 := by omega
theorem la_loadRest_13 {x0 x1 : Int} (h0 : 0 ≤ x0) (h1 : x1 = 15000 + x0) : 15000 ≤ x1 := by omega
theorem la_loadRest_14 {x0 x1 x2 x3 x4 x5 x6 x7 : Int} (h0 : x0 = x1) (h1 : x2 = x3) (h2 : x3 = x4) (h3 : x4 = x5) (h4 : x5 = x6) (h5 : x6 = x7) (h6 : x7 = x0) : x2 = x1 := by omega
theorem la_loadRest_15 {x0 x1 : Int} : x0 - (x1 + 1) < x0 - x1 := by omega
set_option maxHeartbeats 2000000 in
theorem f_loadRest : ∀ (p1 : Int) (S : sv_S), sm_ok S → sv_R p1 → (29 ≤ (S 1071 0) ∧ (S 1071 0) ≤ 127 ∧ 31 ≤ (S 1008 0) ∧ (S 1008 0) ≤ 90 ∧ 1 ≤ (S 1032 0) ∧ (S 1032 0) ≤ 11 ∧ 0 ≤ (S 1055 0) ∧ (S 1055 0) ≤ 19 ∧ (S 1071 0) = 29 + 6 * ((S 1032 0) - 1) + 2 * (S 1055 0) ∧ 0 ≤ (S 1046 0) ∧ (S 1046 0) + 2 * (S 1032 0) ≤ 500 ∧ sm_PD (S 1046 0) (S 1032 0) (S 1071 0) (S 1008 0) ∧ 0 ≤ (S 1071 0) * ((S 1008 0) + 1) ∧ (S 1071 0) * ((S 1008 0) + 1) ≤ 11557 ∧ 0 ≤ p1 ∧ p1 < ((S 1046 0) + 2 * (S 1032 0))) → ((0 ≤ (0 : Int) ∧ (0 : Int) ≤ (S 1071 0) ∧ sm_pl (S 81) (S 82) (S 83) (S 84) (S 85) (S 86) = sm_pl (S 81) (S 82) (S 83) (S 84) (S 85) (S 86)) ∧ (∀ l2_2 : Int, sv_R l2_2 → ∀ g1 : sv_S, (0 ≤ l2_2 ∧ l2_2 ≤ (S 1071 0) ∧ sm_pl (g1 81) (g1 82) (g1 83) (g1 84) (g1 85) (g1 86) = sm_pl (S 81) (S 82) (S 83) (S 84) (S 85) (S 86)) → (0 ≤ (S 1071 0) - l2_2) ∧ (sv_R (S 1071 0) → ((((S 1071 0) ≤ l2_2) → (sm_pl (g1 81) (g1 82) (g1 83) (g1 84) (g1 85) (g1 86) = sm_pl (S 81) (S 82) (S 83) (S 84) (S 85) (S 86))) ∧ ((¬ ((S 1071 0) ≤ l2_2)) → (29 ≤ (S 1071 0) ∧ (S 1071 0) ≤ 127 ∧ 31 ≤ (S 1008 0) ∧ (S 1008 0) ≤ 90 ∧ 1 ≤ (S 1032 0) ∧ (S 1032 0) ≤ 11 ∧ 0 ≤ (S 1055 0) ∧ (S 1055 0) ≤ 19 ∧ (S 1071 0) = 29 + 6 * ((S 1032 0) - 1) + 2 * (S 1055 0) ∧ 0 ≤ (S 1046 0) ∧ (S 1046 0) + 2 * (S 1032 0) ≤ 500 ∧ sm_PD (S 1046 0) (S 1032 0) (S 1071 0) (S 1008 0) ∧ 0 ≤ (S 1071 0) * ((S 1008 0) + 1) ∧ (S 1071 0) * ((S 1008 0) + 1) ≤ 11557 ∧ 0 ≤ p1 ∧ (p1 = 639 ∨ p1 < (S 1046 0) + 2 * (S 1032 0)) ∧ 0 ≤ l2_2 ∧ (l2_2 < (S 1071 0) ∨ (p1 = 639 ∧ l2_2 < 128))) ∧ (∀ r14 : Int, sv_R r14 → ((p1 = 639 → r14 = 15000 + l2_2) ∧ (¬ p1 = 639 → 0 ≤ r14 ∧ r14 < 14520)) → (29 ≤ (S 1071 0) ∧ (S 1071 0) ≤ 127 ∧ 31 ≤ (S 1008 0) ∧ (S 1008 0) ≤ 90 ∧ 1 ≤ (S 1032 0) ∧ (S 1032 0) ≤ 11 ∧ 0 ≤ (S 1055 0) ∧ (S 1055 0) ≤ 19 ∧ (S 1071 0) = 29 + 6 * ((S 1032 0) - 1) + 2 * (S 1055 0) ∧ 0 ≤ (S 1046 0) ∧ (S 1046 0) + 2 * (S 1032 0) ≤ 500 ∧ sm_PD (S 1046 0) (S 1032 0) (S 1071 0) (S 1008 0) ∧ 0 ≤ (S 1071 0) * ((S 1008 0) + 1) ∧ (S 1071 0) * ((S 1008 0) + 1) ≤ 11557 ∧ 0 ≤ (639 : Int) ∧ ((639 : Int) = 639 ∨ (639 : Int) < (S 1046 0) + 2 * (S 1032 0)) ∧ 0 ≤ l2_2 ∧ (l2_2 < (S 1071 0) ∨ ((639 : Int) = 639 ∧ l2_2 < 128))) ∧ (∀ r20 : Int, sv_R r20 → (((639 : Int) = 639 → r20 = 15000 + l2_2) ∧ (¬ (639 : Int) = 639 → 0 ≤ r20 ∧ r20 < 14520)) → (0 ≤ r14 ∧ r14 < 15128) ∧ ((0 ≤ (g1 81 r14) ∧ (g1 81 r14) ≤ 1) → (0 ≤ r20 ∧ r20 < 15128) ∧ ((0 ≤ (g1 82 r14) ∧ (g1 82 r14) ≤ 1) → (sv_RL (g1 83 r14) → (sv_RL (g1 84 r14) → (sv_RL (g1 85 r14) → (sv_RL (g1 86 r14) → (sv_R (l2_2 + (1 : Int))) ∧ ((0 ≤ (l2_2 + (1 : Int)) ∧ (l2_2 + (1 : Int)) ≤ (S 1071 0) ∧ sm_pl (fun i' : Int => if i' = r20 then (g1 81 r14) else (g1 81) i') (fun i' : Int => if i' = r20 then (g1 82 r14) else (g1 82) i') (fun i' : Int => if i' = r20 then (g1 83 r14) else (g1 83) i') (fun i' : Int => if i' = r20 then (g1 84 r14) else (g1 84) i') (fun i' : Int => if i' = r20 then (g1 85 r14) else (g1 85) i') (fun i' : Int => if i' = r20 then (g1 86 r14) else (g1 86) i') = sm_pl (S 81) (S 82) (S 83) (S 84) (S 85) (S 86)) ∧ ((S 1071 0) - (l2_2 + (1 : Int))) < ((S 1071 0) - l2_2))))))))))))))) := by
  intro p1
  intro S
  intro h1_
  intro h2_
  rintro ⟨h3_, ⟨h4_, ⟨h5_, ⟨h6_, ⟨h7_, ⟨h8_, ⟨h9_, ⟨h10_, ⟨h11_, ⟨h12_, ⟨h13_, ⟨h14_, ⟨h15_, ⟨h16_, ⟨h17_, h18_⟩⟩⟩⟩⟩⟩⟩⟩⟩⟩⟩⟩⟩⟩⟩
  refine ⟨(la_loadRest_0 h3_), ?_⟩
  intro l2_2
  intro h19_
  intro g1
  rintro ⟨h20_, ⟨h21_, h22_⟩⟩
  refine ⟨(la_loadRest_1 h21_), ?_⟩
  intro h23_
  refine ⟨(la_loadRest_2 h22_), ?_⟩
  intro h24_
  refine ⟨⟨h3_, ⟨h4_, ⟨h5_, ⟨h6_, ⟨h7_, ⟨h8_, ⟨h9_, ⟨h10_, ⟨h11_, ⟨h12_, ⟨h13_, ⟨h14_, (la_loadRest_3 h4_ h13_ h15_ h16_ h17_ h18_ h20_ h24_)⟩⟩⟩⟩⟩⟩⟩⟩⟩⟩⟩⟩, ?_⟩
  intro r14
  intro h25_
  rintro ⟨h26_, h27_⟩
  obtain ⟨h28_, h29_⟩ := (h27_ (la_loadRest_4 h13_ h18_))
  refine ⟨⟨h3_, ⟨h4_, ⟨h5_, ⟨h6_, ⟨h7_, ⟨h8_, ⟨h9_, ⟨h10_, ⟨h11_, ⟨h12_, ⟨h13_, ⟨h14_, (la_loadRest_5 h4_ h15_ h16_ h20_ h24_)⟩⟩⟩⟩⟩⟩⟩⟩⟩⟩⟩⟩, ?_⟩
  intro r20
  intro h30_
  rintro ⟨h31_, h32_⟩
  have h33_ := (h31_ la_loadRest_6)
  refine ⟨(la_loadRest_8 h28_ h29_), ?_⟩
  rintro ⟨h34_, h35_⟩
  refine ⟨(la_loadRest_9 h4_ h20_ h24_ h33_), ?_⟩
  rintro ⟨h36_, h37_⟩
  intro h38_
  intro h39_
  intro h40_
  intro h41_
  refine ⟨(la_loadRest_10 h4_ h20_ h24_), ?_⟩
  refine ⟨?_, ?_⟩
  · skip
    refine ⟨(la_loadRest_11 h20_), ?_⟩
    refine ⟨(la_loadRest_12 h24_), ?_⟩
    have e42_ : sm_pl (fun i' : Int => (if i' = r20 then g1 81 r14 else (g1 81) i')) (fun i' : Int => (if i' = r20 then g1 82 r14 else (g1 82) i')) (fun i' : Int => (if i' = r20 then g1 83 r14 else (g1 83) i')) (fun i' : Int => (if i' = r20 then g1 84 r14 else (g1 84) i')) (fun i' : Int => (if i' = r20 then g1 85 r14 else (g1 85) i')) (fun i' : Int => (if i' = r20 then g1 86 r14 else (g1 86) i')) = sm_pl (fun i' : Int => (if i' = r20 then g1 81 r14 else (g1 81) i')) (fun i' : Int => (if i' = r20 then g1 82 r14 else (g1 82) i')) (fun i' : Int => (if i' = r20 then g1 83 r14 else (g1 83) i')) (fun i' : Int => (if i' = r20 then g1 84 r14 else (g1 84) i')) (fun i' : Int => (if i' = r20 then g1 85 r14 else (g1 85) i')) (g1 86) := sm_pl_D (la_loadRest_13 h20_ h33_)
    have e43_ : sm_pl (fun i' : Int => (if i' = r20 then g1 81 r14 else (g1 81) i')) (fun i' : Int => (if i' = r20 then g1 82 r14 else (g1 82) i')) (fun i' : Int => (if i' = r20 then g1 83 r14 else (g1 83) i')) (fun i' : Int => (if i' = r20 then g1 84 r14 else (g1 84) i')) (fun i' : Int => (if i' = r20 then g1 85 r14 else (g1 85) i')) (g1 86) = sm_pl (fun i' : Int => (if i' = r20 then g1 81 r14 else (g1 81) i')) (fun i' : Int => (if i' = r20 then g1 82 r14 else (g1 82) i')) (fun i' : Int => (if i' = r20 then g1 83 r14 else (g1 83) i')) (fun i' : Int => (if i' = r20 then g1 84 r14 else (g1 84) i')) (g1 85) (g1 86) := sm_pl_C (la_loadRest_13 h20_ h33_)
    have e44_ : sm_pl (fun i' : Int => (if i' = r20 then g1 81 r14 else (g1 81) i')) (fun i' : Int => (if i' = r20 then g1 82 r14 else (g1 82) i')) (fun i' : Int => (if i' = r20 then g1 83 r14 else (g1 83) i')) (fun i' : Int => (if i' = r20 then g1 84 r14 else (g1 84) i')) (g1 85) (g1 86) = sm_pl (fun i' : Int => (if i' = r20 then g1 81 r14 else (g1 81) i')) (fun i' : Int => (if i' = r20 then g1 82 r14 else (g1 82) i')) (fun i' : Int => (if i' = r20 then g1 83 r14 else (g1 83) i')) (g1 84) (g1 85) (g1 86) := sm_pl_B (la_loadRest_13 h20_ h33_)
    have e45_ : sm_pl (fun i' : Int => (if i' = r20 then g1 81 r14 else (g1 81) i')) (fun i' : Int => (if i' = r20 then g1 82 r14 else (g1 82) i')) (fun i' : Int => (if i' = r20 then g1 83 r14 else (g1 83) i')) (g1 84) (g1 85) (g1 86) = sm_pl (fun i' : Int => (if i' = r20 then g1 81 r14 else (g1 81) i')) (fun i' : Int => (if i' = r20 then g1 82 r14 else (g1 82) i')) (g1 83) (g1 84) (g1 85) (g1 86) := sm_pl_A (la_loadRest_13 h20_ h33_)
    have e46_ : sm_pl (fun i' : Int => (if i' = r20 then g1 81 r14 else (g1 81) i')) (fun i' : Int => (if i' = r20 then g1 82 r14 else (g1 82) i')) (g1 83) (g1 84) (g1 85) (g1 86) = sm_pl (fun i' : Int => (if i' = r20 then g1 81 r14 else (g1 81) i')) (g1 82) (g1 83) (g1 84) (g1 85) (g1 86) := sm_pl_N (la_loadRest_13 h20_ h33_)
    have e47_ : sm_pl (fun i' : Int => (if i' = r20 then g1 81 r14 else (g1 81) i')) (g1 82) (g1 83) (g1 84) (g1 85) (g1 86) = sm_pl (g1 81) (g1 82) (g1 83) (g1 84) (g1 85) (g1 86) := sm_pl_T (la_loadRest_13 h20_ h33_)
    exact (la_loadRest_14 h22_ e42_ e43_ e44_ e45_ e46_ e47_)
  exact la_loadRest_15
set_option maxRecDepth 8000 in
set_option maxHeartbeats 2000000 in
theorem t_loadRest : ∀ (p1 : Int) (S : sv_S), sm_ok S → sv_R p1 → (29 ≤ (S 1071 0) ∧ (S 1071 0) ≤ 127 ∧ 31 ≤ (S 1008 0) ∧ (S 1008 0) ≤ 90 ∧ 1 ≤ (S 1032 0) ∧ (S 1032 0) ≤ 11 ∧ 0 ≤ (S 1055 0) ∧ (S 1055 0) ≤ 19 ∧ (S 1071 0) = 29 + 6 * ((S 1032 0) - 1) + 2 * (S 1055 0) ∧ 0 ≤ (S 1046 0) ∧ (S 1046 0) + 2 * (S 1032 0) ≤ 500 ∧ sm_PD (S 1046 0) (S 1032 0) (S 1071 0) (S 1008 0) ∧ 0 ≤ (S 1071 0) * ((S 1008 0) + 1) ∧ (S 1071 0) * ((S 1008 0) + 1) ≤ 11557 ∧ 0 ≤ p1 ∧ p1 < ((S 1046 0) + 2 * (S 1032 0))) → sv_T sm_XS sm_cs sm_L sm_sh 2 (q_loadRest p1 S) 232 0 (lv_args 0 [.ref 0, sv_I p1]) [] S := by
  intro p1 S hok hp1 hpre
  have h := f_loadRest p1 S hok hp1 hpre
  have hM := sm_h232
  show sv_T sm_XS sm_cs sm_L sm_sh 2 (q_loadRest p1 S) 232 0 [(0, .ref 0), (1, sv_I p1)] [] S
  refine sv_iconst (d := (0 : Int)) hM dX12_loadRest_0 rfl rfl ?_
  refine sv_istore_n hM dX12_loadRest_1 (by decide) rfl ?_
  show sv_T sm_XS sm_cs sm_L sm_sh 2 (q_loadRest p1 S) 232 2 [(0, .ref 0), (1, sv_I p1), (2, sv_I (0 : Int))] [] S
  obtain ⟨hin4, h⟩ := h
  have hJ : ∀ a : Int × sv_S, (sv_R a.1 ∧ sm_ok (sv_sts S [81, 82, 83, 84, 85, 86] a.2) ∧ (0 ≤ a.1 ∧ a.1 ≤ (S 1071 0) ∧ sm_pl (a.2 81) (a.2 82) (a.2 83) (a.2 84) (a.2 85) (a.2 86) = sm_pl (S 81) (S 82) (S 83) (S 84) (S 85) (S 86))) → sv_T sm_XS sm_cs sm_L sm_sh 2 (q_loadRest p1 S) 232 2 [(0, .ref 0), (1, sv_I p1), (2, sv_I a.1)] [] (sv_sts S [81, 82, 83, 84, 85, 86] a.2) := by
    refine sv_loop (α := Int × sv_S) (fun a => sv_R a.1 ∧ sm_ok (sv_sts S [81, 82, 83, 84, 85, 86] a.2) ∧ (0 ≤ a.1 ∧ a.1 ≤ (S 1071 0) ∧ sm_pl (a.2 81) (a.2 82) (a.2 83) (a.2 84) (a.2 85) (a.2 86) = sm_pl (S 81) (S 82) (S 83) (S 84) (S 85) (S 86))) (fun a => (S 1071 0) - a.1) (fun a => sv_T sm_XS sm_cs sm_L sm_sh 2 (q_loadRest p1 S) 232 2 [(0, .ref 0), (1, sv_I p1), (2, sv_I a.1)] [] (sv_sts S [81, 82, 83, 84, 85, 86] a.2)) (fun a q => (h a.1 q.1 a.2 q.2.2).1) (fun a q ih3 => ?_)
    obtain ⟨l2_2, g1⟩ := a
    obtain ⟨hl2_2, ok5, hin4i⟩ := q
    have h := (h l2_2 hl2_2 g1 hin4i).2
    show sv_T sm_XS sm_cs sm_L sm_sh 2 (q_loadRest p1 S) 232 2 [(0, .ref 0), (1, sv_I p1), (2, sv_I l2_2)] [] (sv_sts S [81, 82, 83, 84, 85, 86] g1)
    have md6 : sv_mod [81, 82, 83, 84, 85, 86] S (sv_sts S [81, 82, 83, 84, 85, 86] g1) := sv_mod.sts sv_mod.rf (by decide)
    have md7 : sv_mod [81, 82, 83, 84, 85, 86] S (sv_sts S [81, 82, 83, 84, 85, 86] g1) := sv_mod.sts sv_mod.rf (by decide)
    refine sv_iload_n hM dX12_loadRest_2 rfl rfl ?_
    refine sv_aload_n hM dX12_loadRest_3 rfl rfl ?_
    have k8 : sv_R (S 1071 0) := sm_okI ok5 sm_r1071 0
    have h := h k8
    refine sv_getI hM dX12_loadRest_4 sm_fl_765 (sm_a0 _) sm_k71 rfl (x := (S 1071 0)) rfl ?_
    refine sv_icmp_ge hM dX12_loadRest_7 hl2_2 k8 (t := 111) rfl rfl (fun hc => ?_) (fun hc => ?_)
    · have h := h.1 (hc)
      exact sv_vret hM dX12_loadRest_111 rfl ⟨rfl, ok5, md6, h⟩
    · have h := h.2 (hc)
      refine sv_aload_n hM dX12_loadRest_10 rfl rfl ?_
      refine sv_iload_n hM dX12_loadRest_11 rfl rfl ?_
      refine sv_iload_n hM dX12_loadRest_12 rfl rfl ?_
      obtain ⟨o9, h⟩ := h
      refine sv_callV hM dX12_loadRest_13 sm_iv_1101 (by decide) (sm_a0 _) rfl rfl (Nat.le_of_ble_eq_true rfl) sm_h226 (Nat.le_of_ble_eq_true rfl) (Nat.le_of_ble_eq_true rfl) (F' := 1) (Nat.le_of_ble_eq_true rfl) rfl (t_of p1 l2_2 (sv_sts S [81, 82, 83, 84, 85, 86] g1) ok5 hp1 hl2_2 o9) (fun v S1 hq => ?_)
      obtain ⟨r14, rfl, hr14, ok11, md12, hpo13⟩ := hq
      obtain rfl : (sv_sts S [81, 82, 83, 84, 85, 86] g1) = S1 := (funext fun j => md12 j (by intro q; cases q)).symm
      show sv_T sm_XS sm_cs sm_L sm_sh 2 (q_loadRest p1 S) 232 16 [(0, .ref 0), (1, sv_I p1), (2, sv_I l2_2)] [sv_I r14] (sv_sts S [81, 82, 83, 84, 85, 86] g1)
      have h := h r14 hr14 hpo13
      refine sv_istore_n hM dX12_loadRest_16 (by decide) rfl ?_
      show sv_T sm_XS sm_cs sm_L sm_sh 2 (q_loadRest p1 S) 232 17 [(0, .ref 0), (1, sv_I p1), (2, sv_I l2_2), (3, sv_I r14)] [] (sv_sts S [81, 82, 83, 84, 85, 86] g1)
      refine sv_aload_n hM dX12_loadRest_17 rfl rfl ?_
      refine sv_sipush (d := (639 : Int)) hM dX12_loadRest_18 rfl rfl ?_
      refine sv_iload_n hM dX12_loadRest_21 rfl rfl ?_
      obtain ⟨o15, h⟩ := h
      refine sv_callV hM dX12_loadRest_22 sm_iv_1101 (by decide) (sm_a0 _) rfl rfl (Nat.le_of_ble_eq_true rfl) sm_h226 (Nat.le_of_ble_eq_true rfl) (Nat.le_of_ble_eq_true rfl) (F' := 1) (Nat.le_of_ble_eq_true rfl) rfl (t_of (639 : Int) l2_2 (sv_sts S [81, 82, 83, 84, 85, 86] g1) ok11 (⟨by decide, by decide⟩ : sv_R (639 : Int)) hl2_2 o15) (fun v S1 hq => ?_)
      obtain ⟨r20, rfl, hr20, ok17, md18, hpo19⟩ := hq
      obtain rfl : (sv_sts S [81, 82, 83, 84, 85, 86] g1) = S1 := (funext fun j => md18 j (by intro q; cases q)).symm
      show sv_T sm_XS sm_cs sm_L sm_sh 2 (q_loadRest p1 S) 232 25 [(0, .ref 0), (1, sv_I p1), (2, sv_I l2_2), (3, sv_I r14)] [sv_I r20] (sv_sts S [81, 82, 83, 84, 85, 86] g1)
      have h := h r20 hr20 hpo19
      refine sv_istore hM dX12_loadRest_25 (by decide) rfl ?_
      show sv_T sm_XS sm_cs sm_L sm_sh 2 (q_loadRest p1 S) 232 27 [(0, .ref 0), (1, sv_I p1), (2, sv_I l2_2), (3, sv_I r14), (4, sv_I r20)] [] (sv_sts S [81, 82, 83, 84, 85, 86] g1)
      refine sv_aload_n hM dX12_loadRest_27 rfl rfl ?_
      refine sv_getA hM dX12_loadRest_28 sm_fl_256 (sm_a0 _) sm_k133 rfl ?_
      refine sv_iload hM dX12_loadRest_31 rfl rfl ?_
      refine sv_aload_n hM dX12_loadRest_33 rfl rfl ?_
      refine sv_getA hM dX12_loadRest_34 sm_fl_256 (sm_a0 _) sm_k133 rfl ?_
      refine sv_iload_n hM dX12_loadRest_37 rfl rfl ?_
      obtain ⟨o21, h⟩ := h
      have k22 : (0 ≤ (g1 81 r14) ∧ (g1 81 r14) ≤ 1) := sm_okZ ok17 sm_r81 r14
      have h := h k22
      refine sv_zald hM dX12_loadRest_38 (sm_a81 _) (by decide) o21.1 o21.2 rfl (x := (g1 81 r14)) rfl ?_
      obtain ⟨o23, h⟩ := h
      refine sv_zast sm_X hM dX12_loadRest_39 (sm_a81 _) (by decide) o23.1 o23.2 (sv_nnZ k22) rfl ?_
      have ok24 : sm_ok (sv_up (sv_sts S [81, 82, 83, 84, 85, 86] g1) 81 r20 (g1 81 r14)) := sm_upZ ok17 sm_r81 k22
      have md25 : sv_mod [81, 82, 83, 84, 85, 86] S (sv_up (sv_sts S [81, 82, 83, 84, 85, 86] g1) 81 r20 (g1 81 r14)) := sv_mod.up md6 (by decide)
      have md26 : sv_mod [81, 82, 83, 84, 85, 86] S (sv_up (sv_sts S [81, 82, 83, 84, 85, 86] g1) 81 r20 (g1 81 r14)) := sv_mod.up md7 (by decide)
      refine sv_aload_n hM dX12_loadRest_40 rfl rfl ?_
      refine sv_getA hM dX12_loadRest_41 sm_fl_259 (sm_a0 _) sm_k134 rfl ?_
      refine sv_iload hM dX12_loadRest_44 rfl rfl ?_
      refine sv_aload_n hM dX12_loadRest_46 rfl rfl ?_
      refine sv_getA hM dX12_loadRest_47 sm_fl_259 (sm_a0 _) sm_k134 rfl ?_
      refine sv_iload_n hM dX12_loadRest_50 rfl rfl ?_
      have k27 : (0 ≤ (g1 82 r14) ∧ (g1 82 r14) ≤ 1) := sm_okZ ok24 sm_r82 r14
      have h := h k27
      refine sv_zald hM dX12_loadRest_51 (sm_a82 _) (by decide) o21.1 o21.2 rfl (x := (g1 82 r14)) rfl ?_
      refine sv_zast sm_X hM dX12_loadRest_52 (sm_a82 _) (by decide) o23.1 o23.2 (sv_nnZ k27) rfl ?_
      have ok28 : sm_ok (sv_up (sv_up (sv_sts S [81, 82, 83, 84, 85, 86] g1) 81 r20 (g1 81 r14)) 82 r20 (g1 82 r14)) := sm_upZ ok24 sm_r82 k27
      have md29 : sv_mod [81, 82, 83, 84, 85, 86] S (sv_up (sv_up (sv_sts S [81, 82, 83, 84, 85, 86] g1) 81 r20 (g1 81 r14)) 82 r20 (g1 82 r14)) := sv_mod.up md25 (by decide)
      have md30 : sv_mod [81, 82, 83, 84, 85, 86] S (sv_up (sv_up (sv_sts S [81, 82, 83, 84, 85, 86] g1) 81 r20 (g1 81 r14)) 82 r20 (g1 82 r14)) := sv_mod.up md26 (by decide)
      refine sv_aload_n hM dX12_loadRest_53 rfl rfl ?_
      refine sv_getA hM dX12_loadRest_54 sm_fl_262 (sm_a0 _) sm_k135 rfl ?_
      refine sv_iload hM dX12_loadRest_57 rfl rfl ?_
      refine sv_aload_n hM dX12_loadRest_59 rfl rfl ?_
      refine sv_getA hM dX12_loadRest_60 sm_fl_262 (sm_a0 _) sm_k135 rfl ?_
      refine sv_iload_n hM dX12_loadRest_63 rfl rfl ?_
      have k31 : sv_RL (g1 83 r14) := sm_okJ ok28 sm_r83 r14
      have h := h k31
      refine sv_lald hM dX12_loadRest_64 (sm_a83 _) (by decide) o21.1 o21.2 rfl (x := (g1 83 r14)) rfl ?_
      refine sv_last sm_X hM dX12_loadRest_65 (sm_a83 _) (by decide) o23.1 o23.2 rfl ?_
      have ok32 : sm_ok (sv_up (sv_up (sv_up (sv_sts S [81, 82, 83, 84, 85, 86] g1) 81 r20 (g1 81 r14)) 82 r20 (g1 82 r14)) 83 r20 (g1 83 r14)) := sm_upJ ok28 sm_r83 k31
      have md33 : sv_mod [81, 82, 83, 84, 85, 86] S (sv_up (sv_up (sv_up (sv_sts S [81, 82, 83, 84, 85, 86] g1) 81 r20 (g1 81 r14)) 82 r20 (g1 82 r14)) 83 r20 (g1 83 r14)) := sv_mod.up md29 (by decide)
      have md34 : sv_mod [81, 82, 83, 84, 85, 86] S (sv_up (sv_up (sv_up (sv_sts S [81, 82, 83, 84, 85, 86] g1) 81 r20 (g1 81 r14)) 82 r20 (g1 82 r14)) 83 r20 (g1 83 r14)) := sv_mod.up md30 (by decide)
      refine sv_aload_n hM dX12_loadRest_66 rfl rfl ?_
      refine sv_getA hM dX12_loadRest_67 sm_fl_265 (sm_a0 _) sm_k136 rfl ?_
      refine sv_iload hM dX12_loadRest_70 rfl rfl ?_
      refine sv_aload_n hM dX12_loadRest_72 rfl rfl ?_
      refine sv_getA hM dX12_loadRest_73 sm_fl_265 (sm_a0 _) sm_k136 rfl ?_
      refine sv_iload_n hM dX12_loadRest_76 rfl rfl ?_
      have k35 : sv_RL (g1 84 r14) := sm_okJ ok32 sm_r84 r14
      have h := h k35
      refine sv_lald hM dX12_loadRest_77 (sm_a84 _) (by decide) o21.1 o21.2 rfl (x := (g1 84 r14)) rfl ?_
      refine sv_last sm_X hM dX12_loadRest_78 (sm_a84 _) (by decide) o23.1 o23.2 rfl ?_
      have ok36 : sm_ok (sv_up (sv_up (sv_up (sv_up (sv_sts S [81, 82, 83, 84, 85, 86] g1) 81 r20 (g1 81 r14)) 82 r20 (g1 82 r14)) 83 r20 (g1 83 r14)) 84 r20 (g1 84 r14)) := sm_upJ ok32 sm_r84 k35
      have md37 : sv_mod [81, 82, 83, 84, 85, 86] S (sv_up (sv_up (sv_up (sv_up (sv_sts S [81, 82, 83, 84, 85, 86] g1) 81 r20 (g1 81 r14)) 82 r20 (g1 82 r14)) 83 r20 (g1 83 r14)) 84 r20 (g1 84 r14)) := sv_mod.up md33 (by decide)
      have md38 : sv_mod [81, 82, 83, 84, 85, 86] S (sv_up (sv_up (sv_up (sv_up (sv_sts S [81, 82, 83, 84, 85, 86] g1) 81 r20 (g1 81 r14)) 82 r20 (g1 82 r14)) 83 r20 (g1 83 r14)) 84 r20 (g1 84 r14)) := sv_mod.up md34 (by decide)
      refine sv_aload_n hM dX12_loadRest_79 rfl rfl ?_
      refine sv_getA hM dX12_loadRest_80 sm_fl_268 (sm_a0 _) sm_k137 rfl ?_
      refine sv_iload hM dX12_loadRest_83 rfl rfl ?_
      refine sv_aload_n hM dX12_loadRest_85 rfl rfl ?_
      refine sv_getA hM dX12_loadRest_86 sm_fl_268 (sm_a0 _) sm_k137 rfl ?_
      refine sv_iload_n hM dX12_loadRest_89 rfl rfl ?_
      have k39 : sv_RL (g1 85 r14) := sm_okJ ok36 sm_r85 r14
      have h := h k39
      refine sv_lald hM dX12_loadRest_90 (sm_a85 _) (by decide) o21.1 o21.2 rfl (x := (g1 85 r14)) rfl ?_
      refine sv_last sm_X hM dX12_loadRest_91 (sm_a85 _) (by decide) o23.1 o23.2 rfl ?_
      have ok40 : sm_ok (sv_up (sv_up (sv_up (sv_up (sv_up (sv_sts S [81, 82, 83, 84, 85, 86] g1) 81 r20 (g1 81 r14)) 82 r20 (g1 82 r14)) 83 r20 (g1 83 r14)) 84 r20 (g1 84 r14)) 85 r20 (g1 85 r14)) := sm_upJ ok36 sm_r85 k39
      have md41 : sv_mod [81, 82, 83, 84, 85, 86] S (sv_up (sv_up (sv_up (sv_up (sv_up (sv_sts S [81, 82, 83, 84, 85, 86] g1) 81 r20 (g1 81 r14)) 82 r20 (g1 82 r14)) 83 r20 (g1 83 r14)) 84 r20 (g1 84 r14)) 85 r20 (g1 85 r14)) := sv_mod.up md37 (by decide)
      have md42 : sv_mod [81, 82, 83, 84, 85, 86] S (sv_up (sv_up (sv_up (sv_up (sv_up (sv_sts S [81, 82, 83, 84, 85, 86] g1) 81 r20 (g1 81 r14)) 82 r20 (g1 82 r14)) 83 r20 (g1 83 r14)) 84 r20 (g1 84 r14)) 85 r20 (g1 85 r14)) := sv_mod.up md38 (by decide)
      refine sv_aload_n hM dX12_loadRest_92 rfl rfl ?_
      refine sv_getA hM dX12_loadRest_93 sm_fl_271 (sm_a0 _) sm_k138 rfl ?_
      refine sv_iload hM dX12_loadRest_96 rfl rfl ?_
      refine sv_aload_n hM dX12_loadRest_98 rfl rfl ?_
      refine sv_getA hM dX12_loadRest_99 sm_fl_271 (sm_a0 _) sm_k138 rfl ?_
      refine sv_iload_n hM dX12_loadRest_102 rfl rfl ?_
      have k43 : sv_RL (g1 86 r14) := sm_okJ ok40 sm_r86 r14
      have h := h k43
      refine sv_lald hM dX12_loadRest_103 (sm_a86 _) (by decide) o21.1 o21.2 rfl (x := (g1 86 r14)) rfl ?_
      refine sv_last sm_X hM dX12_loadRest_104 (sm_a86 _) (by decide) o23.1 o23.2 rfl ?_
      have ok44 : sm_ok (sv_up (sv_up (sv_up (sv_up (sv_up (sv_up (sv_sts S [81, 82, 83, 84, 85, 86] g1) 81 r20 (g1 81 r14)) 82 r20 (g1 82 r14)) 83 r20 (g1 83 r14)) 84 r20 (g1 84 r14)) 85 r20 (g1 85 r14)) 86 r20 (g1 86 r14)) := sm_upJ ok40 sm_r86 k43
      have md45 : sv_mod [81, 82, 83, 84, 85, 86] S (sv_up (sv_up (sv_up (sv_up (sv_up (sv_up (sv_sts S [81, 82, 83, 84, 85, 86] g1) 81 r20 (g1 81 r14)) 82 r20 (g1 82 r14)) 83 r20 (g1 83 r14)) 84 r20 (g1 84 r14)) 85 r20 (g1 85 r14)) 86 r20 (g1 86 r14)) := sv_mod.up md41 (by decide)
      have md46 : sv_mod [81, 82, 83, 84, 85, 86] S (sv_up (sv_up (sv_up (sv_up (sv_up (sv_up (sv_sts S [81, 82, 83, 84, 85, 86] g1) 81 r20 (g1 81 r14)) 82 r20 (g1 82 r14)) 83 r20 (g1 83 r14)) 84 r20 (g1 84 r14)) 85 r20 (g1 85 r14)) 86 r20 (g1 86 r14)) := sv_mod.up md42 (by decide)
      refine sv_iinc (d := (1 : Int)) hM dX12_loadRest_105 rfl (by decide) rfl rfl ?_
      show sv_T sm_XS sm_cs sm_L sm_sh 2 (q_loadRest p1 S) 232 108 [(0, .ref 0), (1, sv_I p1), (2, sv_I (l2_2 + (1 : Int))), (3, sv_I r14), (4, sv_I r20)] [] (sv_up (sv_up (sv_up (sv_up (sv_up (sv_up (sv_sts S [81, 82, 83, 84, 85, 86] g1) 81 r20 (g1 81 r14)) 82 r20 (g1 82 r14)) 83 r20 (g1 83 r14)) 84 r20 (g1 84 r14)) 85 r20 (g1 85 r14)) 86 r20 (g1 86 r14))
      refine sv_goto hM dX12_loadRest_108 (pc' := 2) rfl ?_
      obtain ⟨o47, h⟩ := h
      have eS := sv_mod.eq md46
      have hb := ih3 ((l2_2 + (1 : Int)), (sv_up (sv_up (sv_up (sv_up (sv_up (sv_up (sv_sts S [81, 82, 83, 84, 85, 86] g1) 81 r20 (g1 81 r14)) 82 r20 (g1 82 r14)) 83 r20 (g1 83 r14)) 84 r20 (g1 84 r14)) 85 r20 (g1 85 r14)) 86 r20 (g1 86 r14))) ⟨o47, (by rw [← eS]; exact ok44), h.1⟩ h.2
      have hb : sv_T sm_XS sm_cs sm_L sm_sh 2 (q_loadRest p1 S) 232 2 [(0, .ref 0), (1, sv_I p1), (2, sv_I (l2_2 + (1 : Int)))] [] (sv_up (sv_up (sv_up (sv_up (sv_up (sv_up (sv_sts S [81, 82, 83, 84, 85, 86] g1) 81 r20 (g1 81 r14)) 82 r20 (g1 82 r14)) 83 r20 (g1 83 r14)) 84 r20 (g1 84 r14)) 85 r20 (g1 85 r14)) 86 r20 (g1 86 r14)) := Eq.mpr (congrArg (fun Z => sv_T sm_XS sm_cs sm_L sm_sh 2 (q_loadRest p1 S) 232 2 [(0, .ref 0), (1, sv_I p1), (2, sv_I (l2_2 + (1 : Int)))] [] Z) eS) hb
      exact sv_less (lv := [(0, .ref 0), (1, sv_I p1), (2, sv_I (l2_2 + (1 : Int)))]) (sv_Sub_cons rfl (sv_Sub_cons rfl (sv_Sub_cons rfl sv_Sub_nil))) hb
  have eS := sv_mod.eq (sv_mod.rf (l := [81, 82, 83, 84, 85, 86]) (S := S))
  have hb := hJ ((0 : Int), S) ⟨(⟨by decide, by decide⟩ : sv_R (0 : Int)), (by rw [← eS]; exact hok), hin4⟩
  have hb : sv_T sm_XS sm_cs sm_L sm_sh 2 (q_loadRest p1 S) 232 2 [(0, .ref 0), (1, sv_I p1), (2, sv_I (0 : Int))] [] S := Eq.mpr (congrArg (fun Z => sv_T sm_XS sm_cs sm_L sm_sh 2 (q_loadRest p1 S) 232 2 [(0, .ref 0), (1, sv_I p1), (2, sv_I (0 : Int))] [] Z) eS) hb
  exact hb
def q_loadLabels (p1 : Int) (S : sv_S) : Option Value → sv_S → Prop := fun v S' => v = none ∧ sm_ok S' ∧ sv_mod [68, 69, 70, 81, 82, 83, 84, 85, 86] S S' ∧ (sm_pt (S' 68) (S' 69) (S' 70) = sm_pt (S 68) (S 69) (S 70) ∧ sm_pl (S' 81) (S' 82) (S' 83) (S' 84) (S' 85) (S' 86) = sm_pl (S 81) (S 82) (S 83) (S 84) (S 85) (S 86))
theorem la_loadLabels_0 {x0 x1 x2 x3 : Int} (h0 : x0 + 2 * x1 ≤ 500) (h1 : 0 ≤ x2) (h2 : x2 ≤ 11557) (h3 : 0 ≤ x3) (h4 : x3 < x0 + 2 * x1) : 0 ≤ x2 ∧ x2 ≤ 11557 ∧ 0 ≤ x3 ∧ (x3 = 639 ∨ x3 < x0 + 2 * x1) := by omega
theorem la_loadLabels_1 {x0 x1 x2 : Int} (h0 : x0 + 2 * x1 ≤ 500) (h1 : x2 < x0 + 2 * x1) : ¬ x2 = 639 := by omega
theorem la_loadLabels_2 {x0 x1 : Int} (h0 : 0 ≤ x0) : (0 : Int) ≤ 0 ∧ 0 ≤ x0 ∧ x1 = x1 := by omega
theorem la_loadLabels_3 {x0 x1 : Int} (h0 : x0 ≤ x1) : 0 ≤ x1 - x0 := by omega
theorem la_loadLabels_4 {x0 : Int} (h0 : 0 ≤ x0) (h1 : x0 ≤ 11557) : sv_R x0 := by omega
theorem la_loadLabels_5 {x0 x1 x2 x3 : Int} (h0 : 0 ≤ x0) (h1 : x0 ≤ 11557) (h2 : 0 ≤ x1) (h3 : x1 < x2 + 2 * x3) : 0 ≤ x0 ∧ x0 ≤ 11557 ∧ 0 ≤ x1 ∧ x1 < x2 + 2 * x3 := by omega
theorem la_loadLabels_6 {x0 x1 x2 : Int} (h0 : 0 ≤ x0) (h1 : x0 + x1 ≤ 464520) (h2 : 0 ≤ x2) (h3 : ¬ x1 ≤ x2) : sv_R (x0 + x2) := by omega
theorem la_loadLabels_7 {x0 x1 : Int} (h0 : x0 ≤ 11557) (h1 : 0 ≤ x1) (h2 : ¬ x0 ≤ x1) : sv_R (635640 + x1) := by omega
theorem la_loadLabels_8 {x0 x1 x2 : Int} (h0 : x0 ≤ 11557) (h1 : 0 ≤ x1) (h2 : x1 + x0 ≤ 464520) (h3 : 0 ≤ x2) (h4 : ¬ x0 ≤ x2) : 0 ≤ x1 + x2 ∧ x1 + x2 < 647800 ∧ 635639 ≤ 635640 + x2 ∧ 635640 + x2 < 647800 := by omega
theorem la_loadLabels_9 {x0 x1 : Int} (h0 : x0 ≤ 11557) (h1 : 0 ≤ x1) (h2 : ¬ x0 ≤ x1) : sv_R (x1 + 1) := by omega
theorem la_loadLabels_10 {x0 x1 x2 x3 x4 : Int} (h0 : 0 ≤ x0) (h1 : x1 = x2) (h2 : ¬ x3 ≤ x0) (h3 : x4 = x1) : 0 ≤ x0 + 1 ∧ x0 + 1 ≤ x3 ∧ x4 = x2 := by omega
theorem la_loadLabels_11 {x0 x1 : Int} : x0 - (x1 + 1) < x0 - x1 := by omega
set_option maxHeartbeats 2000000 in
theorem f_loadLabels : ∀ (p1 : Int) (S : sv_S), sm_ok S → sv_R p1 → (29 ≤ (S 1071 0) ∧ (S 1071 0) ≤ 127 ∧ 31 ≤ (S 1008 0) ∧ (S 1008 0) ≤ 90 ∧ 1 ≤ (S 1032 0) ∧ (S 1032 0) ≤ 11 ∧ 0 ≤ (S 1055 0) ∧ (S 1055 0) ≤ 19 ∧ (S 1071 0) = 29 + 6 * ((S 1032 0) - 1) + 2 * (S 1055 0) ∧ 0 ≤ (S 1046 0) ∧ (S 1046 0) + 2 * (S 1032 0) ≤ 500 ∧ sm_PD (S 1046 0) (S 1032 0) (S 1071 0) (S 1008 0) ∧ 0 ≤ (S 1071 0) * ((S 1008 0) + 1) ∧ (S 1071 0) * ((S 1008 0) + 1) ≤ 11557 ∧ 0 ≤ p1 ∧ p1 < ((S 1046 0) + 2 * (S 1032 0))) → (29 ≤ (S 1071 0) ∧ (S 1071 0) ≤ 127 ∧ 31 ≤ (S 1008 0) ∧ (S 1008 0) ≤ 90 ∧ 1 ≤ (S 1032 0) ∧ (S 1032 0) ≤ 11 ∧ 0 ≤ (S 1055 0) ∧ (S 1055 0) ≤ 19 ∧ (S 1071 0) = 29 + 6 * ((S 1032 0) - 1) + 2 * (S 1055 0) ∧ 0 ≤ (S 1046 0) ∧ (S 1046 0) + 2 * (S 1032 0) ≤ 500 ∧ sm_PD (S 1046 0) (S 1032 0) (S 1071 0) (S 1008 0) ∧ 0 ≤ (S 1071 0) * ((S 1008 0) + 1) ∧ (S 1071 0) * ((S 1008 0) + 1) ≤ 11557 ∧ 0 ≤ p1 ∧ (p1 = 639 ∨ p1 < (S 1046 0) + 2 * (S 1032 0))) ∧ (∀ r6 : Int, sv_R r6 → ((p1 = 639 → r6 = 635640) ∧ (¬ p1 = 639 → 0 ≤ r6 ∧ r6 + (S 1071 0) * ((S 1008 0) + 1) ≤ 464520)) → ((0 ≤ (0 : Int) ∧ (0 : Int) ≤ (S 1071 0) * ((S 1008 0) + 1) ∧ sm_pt (S 68) (S 69) (S 70) = sm_pt (S 68) (S 69) (S 70)) ∧ (∀ l3_8 : Int, sv_R l3_8 → ∀ g7 : sv_S, (0 ≤ l3_8 ∧ l3_8 ≤ (S 1071 0) * ((S 1008 0) + 1) ∧ sm_pt (g7 68) (g7 69) (g7 70) = sm_pt (S 68) (S 69) (S 70)) → (0 ≤ (S 1071 0) * ((S 1008 0) + 1) - l3_8) ∧ (sv_R (S 1071 0) → (sv_R (S 1008 0) → (sv_R ((S 1071 0) * ((S 1008 0) + (1 : Int)))) ∧ (((((S 1071 0) * ((S 1008 0) + (1 : Int))) ≤ l3_8) → (29 ≤ (S 1071 0) ∧ (S 1071 0) ≤ 127 ∧ 31 ≤ (S 1008 0) ∧ (S 1008 0) ≤ 90 ∧ 1 ≤ (S 1032 0) ∧ (S 1032 0) ≤ 11 ∧ 0 ≤ (S 1055 0) ∧ (S 1055 0) ≤ 19 ∧ (S 1071 0) = 29 + 6 * ((S 1032 0) - 1) + 2 * (S 1055 0) ∧ 0 ≤ (S 1046 0) ∧ (S 1046 0) + 2 * (S 1032 0) ≤ 500 ∧ sm_PD (S 1046 0) (S 1032 0) (S 1071 0) (S 1008 0) ∧ 0 ≤ (S 1071 0) * ((S 1008 0) + 1) ∧ (S 1071 0) * ((S 1008 0) + 1) ≤ 11557 ∧ 0 ≤ p1 ∧ p1 < ((S 1046 0) + 2 * (S 1032 0))) ∧ (∀ g18 : sv_S, (sm_pl (g18 81) (g18 82) (g18 83) (g18 84) (g18 85) (g18 86) = sm_pl (S 81) (S 82) (S 83) (S 84) (S 85) (S 86)) → (sm_pt (g7 68) (g7 69) (g7 70) = sm_pt (S 68) (S 69) (S 70) ∧ sm_pl (g18 81) (g18 82) (g18 83) (g18 84) (g18 85) (g18 86) = sm_pl (S 81) (S 82) (S 83) (S 84) (S 85) (S 86)))) ∧ ((¬ (((S 1071 0) * ((S 1008 0) + (1 : Int))) ≤ l3_8)) → (sv_R (r6 + l3_8)) ∧ (sv_R ((635640 : Int) + l3_8)) ∧ (0 ≤ (r6 + l3_8) ∧ (r6 + l3_8) < 647800 ∧ 635639 ≤ ((635640 : Int) + l3_8) ∧ ((635640 : Int) + l3_8) < 647800) ∧ (∀ g26 : sv_S, (sm_pt (g26 68) (g26 69) (g26 70) = sm_pt (g7 68) (g7 69) (g7 70)) → (sv_R (l3_8 + (1 : Int))) ∧ ((0 ≤ (l3_8 + (1 : Int)) ∧ (l3_8 + (1 : Int)) ≤ (S 1071 0) * ((S 1008 0) + 1) ∧ sm_pt (g26 68) (g26 69) (g26 70) = sm_pt (S 68) (S 69) (S 70)) ∧ ((S 1071 0) * ((S 1008 0) + 1) - (l3_8 + (1 : Int))) < ((S 1071 0) * ((S 1008 0) + 1) - l3_8)))))))))) := by
  intro p1
  intro S
  intro h1_
  intro h2_
  rintro ⟨h3_, ⟨h4_, ⟨h5_, ⟨h6_, ⟨h7_, ⟨h8_, ⟨h9_, ⟨h10_, ⟨h11_, ⟨h12_, ⟨h13_, ⟨h14_, ⟨h15_, ⟨h16_, ⟨h17_, h18_⟩⟩⟩⟩⟩⟩⟩⟩⟩⟩⟩⟩⟩⟩⟩
  refine ⟨⟨h3_, ⟨h4_, ⟨h5_, ⟨h6_, ⟨h7_, ⟨h8_, ⟨h9_, ⟨h10_, ⟨h11_, ⟨h12_, ⟨h13_, ⟨h14_, (la_loadLabels_0 h13_ h15_ h16_ h17_ h18_)⟩⟩⟩⟩⟩⟩⟩⟩⟩⟩⟩⟩, ?_⟩
  intro r6
  intro h19_
  rintro ⟨h20_, h21_⟩
  obtain ⟨h22_, h23_⟩ := (h21_ (la_loadLabels_1 h13_ h18_))
  refine ⟨(la_loadLabels_2 h15_), ?_⟩
  intro l3_8
  intro h24_
  intro g7
  rintro ⟨h25_, ⟨h26_, h27_⟩⟩
  refine ⟨(la_loadLabels_3 h26_), ?_⟩
  intro h28_
  intro h29_
  refine ⟨(la_loadLabels_4 h15_ h16_), ?_⟩
  refine ⟨?_, ?_⟩
  · skip
    intro h30_
    refine ⟨⟨h3_, ⟨h4_, ⟨h5_, ⟨h6_, ⟨h7_, ⟨h8_, ⟨h9_, ⟨h10_, ⟨h11_, ⟨h12_, ⟨h13_, ⟨h14_, (la_loadLabels_5 h15_ h16_ h17_ h18_)⟩⟩⟩⟩⟩⟩⟩⟩⟩⟩⟩⟩, ?_⟩
    intro g18
    intro h31_
    refine ⟨h27_, ?_⟩
    exact h31_
  intro h32_
  refine ⟨(la_loadLabels_6 h22_ h23_ h25_ h32_), ?_⟩
  refine ⟨(la_loadLabels_7 h16_ h25_ h32_), ?_⟩
  refine ⟨(la_loadLabels_8 h16_ h22_ h23_ h25_ h32_), ?_⟩
  intro g26
  intro h33_
  refine ⟨(la_loadLabels_9 h16_ h25_ h32_), ?_⟩
  refine ⟨(la_loadLabels_10 h25_ h27_ h32_ h33_), ?_⟩
  exact la_loadLabels_11
set_option maxRecDepth 8000 in
set_option maxHeartbeats 2000000 in
theorem t_loadLabels : ∀ (p1 : Int) (S : sv_S), sm_ok S → sv_R p1 → (29 ≤ (S 1071 0) ∧ (S 1071 0) ≤ 127 ∧ 31 ≤ (S 1008 0) ∧ (S 1008 0) ≤ 90 ∧ 1 ≤ (S 1032 0) ∧ (S 1032 0) ≤ 11 ∧ 0 ≤ (S 1055 0) ∧ (S 1055 0) ≤ 19 ∧ (S 1071 0) = 29 + 6 * ((S 1032 0) - 1) + 2 * (S 1055 0) ∧ 0 ≤ (S 1046 0) ∧ (S 1046 0) + 2 * (S 1032 0) ≤ 500 ∧ sm_PD (S 1046 0) (S 1032 0) (S 1071 0) (S 1008 0) ∧ 0 ≤ (S 1071 0) * ((S 1008 0) + 1) ∧ (S 1071 0) * ((S 1008 0) + 1) ≤ 11557 ∧ 0 ≤ p1 ∧ p1 < ((S 1046 0) + 2 * (S 1032 0))) → sv_T sm_XS sm_cs sm_L sm_sh 3 (q_loadLabels p1 S) 233 0 (lv_args 0 [.ref 0, sv_I p1]) [] S := by
  intro p1 S hok hp1 hpre
  have h := f_loadLabels p1 S hok hp1 hpre
  have hM := sm_h233
  show sv_T sm_XS sm_cs sm_L sm_sh 3 (q_loadLabels p1 S) 233 0 [(0, .ref 0), (1, sv_I p1)] [] S
  refine sv_aload_n hM dX12_loadLabels_0 rfl rfl ?_
  refine sv_iload_n hM dX12_loadLabels_1 rfl rfl ?_
  obtain ⟨o1, h⟩ := h
  refine sv_callV hM dX12_loadLabels_2 sm_iv_1085 (by decide) (sm_a0 _) rfl rfl (Nat.le_of_ble_eq_true rfl) sm_h223 (Nat.le_of_ble_eq_true rfl) (Nat.le_of_ble_eq_true rfl) (F' := 0) (Nat.le_of_ble_eq_true rfl) rfl (t_fieldsAt p1 S hok hp1 o1) (fun v S1 hq => ?_)
  obtain ⟨r6, rfl, hr6, ok3, md4, hpo5⟩ := hq
  obtain rfl : S = S1 := (funext fun j => md4 j (by intro q; cases q)).symm
  show sv_T sm_XS sm_cs sm_L sm_sh 3 (q_loadLabels p1 S) 233 5 [(0, .ref 0), (1, sv_I p1)] [sv_I r6] S
  have h := h r6 hr6 hpo5
  refine sv_istore_n hM dX12_loadLabels_5 (by decide) rfl ?_
  show sv_T sm_XS sm_cs sm_L sm_sh 3 (q_loadLabels p1 S) 233 6 [(0, .ref 0), (1, sv_I p1), (2, sv_I r6)] [] S
  refine sv_iconst (d := (0 : Int)) hM dX12_loadLabels_6 rfl rfl ?_
  refine sv_istore_n hM dX12_loadLabels_7 (by decide) rfl ?_
  show sv_T sm_XS sm_cs sm_L sm_sh 3 (q_loadLabels p1 S) 233 8 [(0, .ref 0), (1, sv_I p1), (2, sv_I r6), (3, sv_I (0 : Int))] [] S
  obtain ⟨hin10, h⟩ := h
  have hJ : ∀ a : Int × sv_S, (sv_R a.1 ∧ sm_ok (sv_sts S [68, 69, 70] a.2) ∧ (0 ≤ a.1 ∧ a.1 ≤ (S 1071 0) * ((S 1008 0) + 1) ∧ sm_pt (a.2 68) (a.2 69) (a.2 70) = sm_pt (S 68) (S 69) (S 70))) → sv_T sm_XS sm_cs sm_L sm_sh 3 (q_loadLabels p1 S) 233 8 [(0, .ref 0), (1, sv_I p1), (2, sv_I r6), (3, sv_I a.1)] [] (sv_sts S [68, 69, 70] a.2) := by
    refine sv_loop (α := Int × sv_S) (fun a => sv_R a.1 ∧ sm_ok (sv_sts S [68, 69, 70] a.2) ∧ (0 ≤ a.1 ∧ a.1 ≤ (S 1071 0) * ((S 1008 0) + 1) ∧ sm_pt (a.2 68) (a.2 69) (a.2 70) = sm_pt (S 68) (S 69) (S 70))) (fun a => (S 1071 0) * ((S 1008 0) + 1) - a.1) (fun a => sv_T sm_XS sm_cs sm_L sm_sh 3 (q_loadLabels p1 S) 233 8 [(0, .ref 0), (1, sv_I p1), (2, sv_I r6), (3, sv_I a.1)] [] (sv_sts S [68, 69, 70] a.2)) (fun a q => (h a.1 q.1 a.2 q.2.2).1) (fun a q ih9 => ?_)
    obtain ⟨l3_8, g7⟩ := a
    obtain ⟨hl3_8, ok11, hin10i⟩ := q
    have h := (h l3_8 hl3_8 g7 hin10i).2
    show sv_T sm_XS sm_cs sm_L sm_sh 3 (q_loadLabels p1 S) 233 8 [(0, .ref 0), (1, sv_I p1), (2, sv_I r6), (3, sv_I l3_8)] [] (sv_sts S [68, 69, 70] g7)
    have md12 : sv_mod [68, 69, 70, 81, 82, 83, 84, 85, 86] S (sv_sts S [68, 69, 70] g7) := sv_mod.sts sv_mod.rf (by decide)
    have md13 : sv_mod [68, 69, 70] S (sv_sts S [68, 69, 70] g7) := sv_mod.sts sv_mod.rf (by decide)
    refine sv_iload_n hM dX12_loadLabels_8 rfl rfl ?_
    refine sv_aload_n hM dX12_loadLabels_9 rfl rfl ?_
    have k14 : sv_R (S 1071 0) := sm_okI ok11 sm_r1071 0
    have h := h k14
    refine sv_getI hM dX12_loadLabels_10 sm_fl_765 (sm_a0 _) sm_k71 rfl (x := (S 1071 0)) rfl ?_
    refine sv_aload_n hM dX12_loadLabels_13 rfl rfl ?_
    have k15 : sv_R (S 1008 0) := sm_okI ok11 sm_r1008 0
    have h := h k15
    refine sv_getI hM dX12_loadLabels_14 sm_fl_762 (sm_a0 _) sm_k8 rfl (x := (S 1008 0)) rfl ?_
    refine sv_iconst (d := (1 : Int)) hM dX12_loadLabels_17 rfl rfl ?_
    refine sv_iadd hM dX12_loadLabels_18 rfl ?_
    refine sv_imul hM dX12_loadLabels_19 rfl ?_
    obtain ⟨o16, h⟩ := h
    refine sv_icmp_ge hM dX12_loadLabels_20 hl3_8 o16 (t := 41) rfl rfl (fun hc => ?_) (fun hc => ?_)
    · have h := h.1 (hc)
      refine sv_aload_n hM dX12_loadLabels_41 rfl rfl ?_
      refine sv_iload_n hM dX12_loadLabels_42 rfl rfl ?_
      obtain ⟨o17, h⟩ := h
      refine sv_callV hM dX12_loadLabels_43 sm_iv_1095 (by decide) (sm_a0 _) rfl rfl (Nat.le_of_ble_eq_true rfl) sm_h232 (Nat.le_of_ble_eq_true rfl) (Nat.le_of_ble_eq_true rfl) (F' := 2) (Nat.le_of_ble_eq_true rfl) rfl (t_loadRest p1 (sv_sts S [68, 69, 70] g7) ok11 hp1 o17) (fun v S1 hq => ?_)
      obtain ⟨rfl, ok19, md20, hpo21⟩ := hq
      obtain ⟨g18, rfl⟩ : ∃ g, S1 = sv_sts (sv_sts S [68, 69, 70] g7) [81, 82, 83, 84, 85, 86] g := ⟨_, md20.eq⟩
      show sv_T sm_XS sm_cs sm_L sm_sh 3 (q_loadLabels p1 S) 233 46 [(0, .ref 0), (1, sv_I p1), (2, sv_I r6), (3, sv_I l3_8)] [] (sv_sts (sv_sts S [68, 69, 70] g7) [81, 82, 83, 84, 85, 86] g18)
      have md22 : sv_mod [68, 69, 70, 81, 82, 83, 84, 85, 86] S (sv_sts (sv_sts S [68, 69, 70] g7) [81, 82, 83, 84, 85, 86] g18) := sv_mod.sts md12 (by decide)
      have h := h g18 hpo21
      exact sv_vret hM dX12_loadLabels_46 rfl ⟨rfl, ok19, md22, h⟩
    · have h := h.2 (hc)
      refine sv_aload_n hM dX12_loadLabels_23 rfl rfl ?_
      refine sv_iload_n hM dX12_loadLabels_24 rfl rfl ?_
      refine sv_iload_n hM dX12_loadLabels_25 rfl rfl ?_
      refine sv_iadd hM dX12_loadLabels_26 rfl ?_
      refine sv_ldc_w (d := (635640 : Int)) hM dX12_loadLabels_27 sm_ck_1084 rfl rfl ?_
      refine sv_iload_n hM dX12_loadLabels_30 rfl rfl ?_
      refine sv_iadd hM dX12_loadLabels_31 rfl ?_
      obtain ⟨o23, h⟩ := h
      obtain ⟨o24, h⟩ := h
      obtain ⟨o25, h⟩ := h
      refine sv_callV hM dX12_loadLabels_32 sm_iv_1092 (by decide) (sm_a0 _) rfl rfl (Nat.le_of_ble_eq_true rfl) sm_h207 (Nat.le_of_ble_eq_true rfl) (Nat.le_of_ble_eq_true rfl) (F' := 0) (Nat.le_of_ble_eq_true rfl) rfl (t_copySet (r6 + l3_8) ((635640 : Int) + l3_8) (sv_sts S [68, 69, 70] g7) ok11 o23 o24 o25) (fun v S1 hq => ?_)
      obtain ⟨rfl, ok27, md28, hpo29⟩ := hq
      obtain ⟨g26, rfl⟩ : ∃ g, S1 = sv_sts (sv_sts S [68, 69, 70] g7) [68, 69, 70] g := ⟨_, md28.eq⟩
      show sv_T sm_XS sm_cs sm_L sm_sh 3 (q_loadLabels p1 S) 233 35 [(0, .ref 0), (1, sv_I p1), (2, sv_I r6), (3, sv_I l3_8)] [] (sv_sts (sv_sts S [68, 69, 70] g7) [68, 69, 70] g26)
      have md30 : sv_mod [68, 69, 70, 81, 82, 83, 84, 85, 86] S (sv_sts (sv_sts S [68, 69, 70] g7) [68, 69, 70] g26) := sv_mod.sts md12 (by decide)
      have md31 : sv_mod [68, 69, 70] S (sv_sts (sv_sts S [68, 69, 70] g7) [68, 69, 70] g26) := sv_mod.sts md13 (by decide)
      have h := h g26 hpo29
      refine sv_iinc (d := (1 : Int)) hM dX12_loadLabels_35 rfl (by decide) rfl rfl ?_
      show sv_T sm_XS sm_cs sm_L sm_sh 3 (q_loadLabels p1 S) 233 38 [(0, .ref 0), (1, sv_I p1), (2, sv_I r6), (3, sv_I (l3_8 + (1 : Int)))] [] (sv_sts (sv_sts S [68, 69, 70] g7) [68, 69, 70] g26)
      refine sv_goto hM dX12_loadLabels_38 (pc' := 8) rfl ?_
      obtain ⟨o32, h⟩ := h
      have eS := sv_mod.eq md31
      have hb := ih9 ((l3_8 + (1 : Int)), (sv_sts (sv_sts S [68, 69, 70] g7) [68, 69, 70] g26)) ⟨o32, (by rw [← eS]; exact ok27), h.1⟩ h.2
      have hb : sv_T sm_XS sm_cs sm_L sm_sh 3 (q_loadLabels p1 S) 233 8 [(0, .ref 0), (1, sv_I p1), (2, sv_I r6), (3, sv_I (l3_8 + (1 : Int)))] [] (sv_sts (sv_sts S [68, 69, 70] g7) [68, 69, 70] g26) := Eq.mpr (congrArg (fun Z => sv_T sm_XS sm_cs sm_L sm_sh 3 (q_loadLabels p1 S) 233 8 [(0, .ref 0), (1, sv_I p1), (2, sv_I r6), (3, sv_I (l3_8 + (1 : Int)))] [] Z) eS) hb
      exact sv_less (lv := [(0, .ref 0), (1, sv_I p1), (2, sv_I r6), (3, sv_I (l3_8 + (1 : Int)))]) (sv_Sub_cons rfl (sv_Sub_cons rfl (sv_Sub_cons rfl (sv_Sub_cons rfl sv_Sub_nil)))) hb
  have eS := sv_mod.eq (sv_mod.rf (l := [68, 69, 70]) (S := S))
  have hb := hJ ((0 : Int), S) ⟨(⟨by decide, by decide⟩ : sv_R (0 : Int)), (by rw [← eS]; exact ok3), hin10⟩
  have hb : sv_T sm_XS sm_cs sm_L sm_sh 3 (q_loadLabels p1 S) 233 8 [(0, .ref 0), (1, sv_I p1), (2, sv_I r6), (3, sv_I (0 : Int))] [] S := Eq.mpr (congrArg (fun Z => sv_T sm_XS sm_cs sm_L sm_sh 3 (q_loadLabels p1 S) 233 8 [(0, .ref 0), (1, sv_I p1), (2, sv_I r6), (3, sv_I (0 : Int))] [] Z) eS) hb
  exact hb
def q_clearState (p1 : Int) (S : sv_S) : Option Value → sv_S → Prop := fun v S' => v = none ∧ sm_ok S' ∧ sv_mod [68, 69, 70, 81, 82, 83, 84, 85, 86, 76, 77] S S' ∧ (True)
theorem la_clearState_0 {x0 : Int} (h0 : 0 ≤ x0) : (0 : Int) ≤ 0 ∧ 0 ≤ x0 := by omega
theorem la_clearState_1 {x0 x1 : Int} (h0 : x0 ≤ x1) : 0 ≤ x1 - x0 := by omega
theorem la_clearState_2 {x0 : Int} (h0 : 0 ≤ x0) (h1 : x0 ≤ 11557) : sv_R x0 := by omega
theorem la_clearState_3 {x0 : Int} (h0 : 29 ≤ x0) : (0 : Int) ≤ 0 ∧ 0 ≤ x0 := by omega
theorem la_clearState_4 {x0 x1 x2 : Int} (h0 : x0 + 2 * x1 ≤ 500) (h1 : 0 ≤ x2) (h2 : x2 = 639 ∨ x2 < x0 + 2 * x1) : sv_R (635000 + x2) := by omega
theorem la_clearState_5 {x0 : Int} (h0 : 0 ≤ x0) : 0 ≤ 635000 + x0 := by omega
theorem la_clearState_6 {x0 x1 x2 : Int} (h0 : x0 + 2 * x1 ≤ 500) (h1 : x2 = 639 ∨ x2 < x0 + 2 * x1) : 635000 + x2 < 647800 := by omega
theorem la_clearState_7 {x0 x1 x2 : Int} (h0 : x0 + 2 * x1 ≤ 500) (h1 : x2 = 639 ∨ x2 < x0 + 2 * x1) : x2 < 640 := by omega
theorem la_clearState_8 {x0 x1 x2 : Int} (h0 : x0 ≤ 127) (h1 : 0 ≤ x1) (h2 : ¬ x0 ≤ x1) : 0 ≤ x1 ∧ (x1 < x0 ∨ x2 = 639 ∧ x1 < 128) := by omega
theorem la_clearState_9 {x0 x1 x2 : Int} (h0 : 0 ≤ x0) (h1 : x1 = 639 → x2 = 15000 + x0) (h2 : ¬ x1 = 639 → 0 ≤ x2 ∧ x2 < 14520) : 0 ≤ x2 := by omega
theorem la_clearState_10 {x0 x1 x2 x3 : Int} (h0 : x0 ≤ 127) (h1 : ¬ x0 ≤ x1) (h2 : x2 = 639 → x3 = 15000 + x1) (h3 : ¬ x2 = 639 → 0 ≤ x3 ∧ x3 < 14520) : x3 < 15128 := by omega
theorem la_clearState_11 {x0 x1 : Int} (h0 : x0 ≤ 127) (h1 : 0 ≤ x1) (h2 : ¬ x0 ≤ x1) : sv_R (x1 + 1) := by omega
theorem la_clearState_12 {x0 x1 : Int} (h0 : 0 ≤ x0) (h1 : ¬ x1 ≤ x0) : 0 ≤ x0 + 1 ∧ x0 + 1 ≤ x1 := by omega
theorem la_clearState_13 {x0 x1 : Int} : x0 - (x1 + 1) < x0 - x1 := by omega
theorem la_clearState_14 {x0 x1 x2 x3 : Int} (h0 : x0 ≤ 11557) (h1 : sv_R x1) (h2 : x2 = 639 → x1 = 635640) (h3 : ¬ x2 = 639 → 0 ≤ x1 ∧ x1 + x0 ≤ 464520) (h4 : 0 ≤ x3) (h5 : ¬ x0 ≤ x3) : sv_R (x1 + x3) := by omega
theorem la_clearState_15 {x0 x1 x2 x3 : Int} (h0 : x0 = 639 → x1 = 635640) (h1 : ¬ x0 = 639 → 0 ≤ x1 ∧ x1 + x2 ≤ 464520) (h2 : 0 ≤ x3) : 0 ≤ x1 + x3 := by omega
theorem la_clearState_16 {x0 x1 x2 x3 : Int} (h0 : x0 ≤ 11557) (h1 : x1 = 639 → x2 = 635640) (h2 : ¬ x1 = 639 → 0 ≤ x2 ∧ x2 + x0 ≤ 464520) (h3 : ¬ x0 ≤ x3) : x2 + x3 < 647800 := by omega
theorem la_clearState_17 {x0 x1 : Int} (h0 : x0 ≤ 11557) (h1 : 0 ≤ x1) (h2 : ¬ x0 ≤ x1) : sv_R (x1 + 1) := by omega
set_option maxHeartbeats 2000000 in
theorem f_clearState : ∀ (p1 : Int) (S : sv_S), sm_ok S → sv_R p1 → (29 ≤ (S 1071 0) ∧ (S 1071 0) ≤ 127 ∧ 31 ≤ (S 1008 0) ∧ (S 1008 0) ≤ 90 ∧ 1 ≤ (S 1032 0) ∧ (S 1032 0) ≤ 11 ∧ 0 ≤ (S 1055 0) ∧ (S 1055 0) ≤ 19 ∧ (S 1071 0) = 29 + 6 * ((S 1032 0) - 1) + 2 * (S 1055 0) ∧ 0 ≤ (S 1046 0) ∧ (S 1046 0) + 2 * (S 1032 0) ≤ 500 ∧ sm_PD (S 1046 0) (S 1032 0) (S 1071 0) (S 1008 0) ∧ 0 ≤ (S 1071 0) * ((S 1008 0) + 1) ∧ (S 1071 0) * ((S 1008 0) + 1) ≤ 11557 ∧ 0 ≤ p1 ∧ (p1 = 639 ∨ p1 < (S 1046 0) + 2 * (S 1032 0))) → (29 ≤ (S 1071 0) ∧ (S 1071 0) ≤ 127 ∧ 31 ≤ (S 1008 0) ∧ (S 1008 0) ≤ 90 ∧ 1 ≤ (S 1032 0) ∧ (S 1032 0) ≤ 11 ∧ 0 ≤ (S 1055 0) ∧ (S 1055 0) ≤ 19 ∧ (S 1071 0) = 29 + 6 * ((S 1032 0) - 1) + 2 * (S 1055 0) ∧ 0 ≤ (S 1046 0) ∧ (S 1046 0) + 2 * (S 1032 0) ≤ 500 ∧ sm_PD (S 1046 0) (S 1032 0) (S 1071 0) (S 1008 0) ∧ 0 ≤ (S 1071 0) * ((S 1008 0) + 1) ∧ (S 1071 0) * ((S 1008 0) + 1) ≤ 11557 ∧ 0 ≤ p1 ∧ (p1 = 639 ∨ p1 < (S 1046 0) + 2 * (S 1032 0))) ∧ (∀ r6 : Int, sv_R r6 → ((p1 = 639 → r6 = 635640) ∧ (¬ p1 = 639 → 0 ≤ r6 ∧ r6 + (S 1071 0) * ((S 1008 0) + 1) ≤ 464520)) → ((0 ≤ (0 : Int) ∧ (0 : Int) ≤ (S 1071 0) * ((S 1008 0) + 1)) ∧ (∀ l3_8 : Int, sv_R l3_8 → ∀ g7 : sv_S, (0 ≤ l3_8 ∧ l3_8 ≤ (S 1071 0) * ((S 1008 0) + 1)) → (0 ≤ (S 1071 0) * ((S 1008 0) + 1) - l3_8) ∧ (sv_R (S 1071 0) → (sv_R (S 1008 0) → (sv_R ((S 1071 0) * ((S 1008 0) + (1 : Int)))) ∧ (((((S 1071 0) * ((S 1008 0) + (1 : Int))) ≤ l3_8) → ((0 ≤ (0 : Int) ∧ (0 : Int) ≤ (S 1071 0)) ∧ (∀ l3_18 : Int, sv_R l3_18 → ∀ g17 : sv_S, (0 ≤ l3_18 ∧ l3_18 ≤ (S 1071 0)) → (0 ≤ (S 1071 0) - l3_18) ∧ ((((S 1071 0) ≤ l3_18) → (sv_R (635000 + p1)) ∧ (0 ≤ (635000 + p1) ∧ (635000 + p1) < 647800) ∧ (∀ g26 : sv_S, (635639 ≤ (635000 + p1) → sm_pt (g26 68) (g26 69) (g26 70) = sm_pt (g7 68) (g7 69) (g7 70)) → (0 ≤ p1 ∧ p1 < 640) ∧ (True))) ∧ ((¬ ((S 1071 0) ≤ l3_18)) → (29 ≤ (S 1071 0) ∧ (S 1071 0) ≤ 127 ∧ 31 ≤ (S 1008 0) ∧ (S 1008 0) ≤ 90 ∧ 1 ≤ (S 1032 0) ∧ (S 1032 0) ≤ 11 ∧ 0 ≤ (S 1055 0) ∧ (S 1055 0) ≤ 19 ∧ (S 1071 0) = 29 + 6 * ((S 1032 0) - 1) + 2 * (S 1055 0) ∧ 0 ≤ (S 1046 0) ∧ (S 1046 0) + 2 * (S 1032 0) ≤ 500 ∧ sm_PD (S 1046 0) (S 1032 0) (S 1071 0) (S 1008 0) ∧ 0 ≤ (S 1071 0) * ((S 1008 0) + 1) ∧ (S 1071 0) * ((S 1008 0) + 1) ≤ 11557 ∧ 0 ≤ p1 ∧ (p1 = 639 ∨ p1 < (S 1046 0) + 2 * (S 1032 0)) ∧ 0 ≤ l3_18 ∧ (l3_18 < (S 1071 0) ∨ (p1 = 639 ∧ l3_18 < 128))) ∧ (∀ r41 : Int, sv_R r41 → ((p1 = 639 → r41 = 15000 + l3_18) ∧ (¬ p1 = 639 → 0 ≤ r41 ∧ r41 < 14520)) → (0 ≤ r41 ∧ r41 < 15128) ∧ (sv_R (l3_18 + (1 : Int))) ∧ ((0 ≤ (l3_18 + (1 : Int)) ∧ (l3_18 + (1 : Int)) ≤ (S 1071 0)) ∧ ((S 1071 0) - (l3_18 + (1 : Int))) < ((S 1071 0) - l3_18)))))))) ∧ ((¬ (((S 1071 0) * ((S 1008 0) + (1 : Int))) ≤ l3_8)) → (sv_R (r6 + l3_8)) ∧ (0 ≤ (r6 + l3_8) ∧ (r6 + l3_8) < 647800) ∧ (∀ g64 : sv_S, (635639 ≤ (r6 + l3_8) → sm_pt (g64 68) (g64 69) (g64 70) = sm_pt (g7 68) (g7 69) (g7 70)) → (sv_R (l3_8 + (1 : Int))) ∧ ((0 ≤ (l3_8 + (1 : Int)) ∧ (l3_8 + (1 : Int)) ≤ (S 1071 0) * ((S 1008 0) + 1)) ∧ ((S 1071 0) * ((S 1008 0) + 1) - (l3_8 + (1 : Int))) < ((S 1071 0) * ((S 1008 0) + 1) - l3_8)))))))))) := by
  intro p1
  intro S
  intro h1_
  intro h2_
  rintro ⟨h3_, ⟨h4_, ⟨h5_, ⟨h6_, ⟨h7_, ⟨h8_, ⟨h9_, ⟨h10_, ⟨h11_, ⟨h12_, ⟨h13_, ⟨h14_, ⟨h15_, ⟨h16_, ⟨h17_, h18_⟩⟩⟩⟩⟩⟩⟩⟩⟩⟩⟩⟩⟩⟩⟩
  refine ⟨⟨h3_, ⟨h4_, ⟨h5_, ⟨h6_, ⟨h7_, ⟨h8_, ⟨h9_, ⟨h10_, ⟨h11_, ⟨h12_, ⟨h13_, ⟨h14_, ⟨h15_, ⟨h16_, ⟨h17_, h18_⟩⟩⟩⟩⟩⟩⟩⟩⟩⟩⟩⟩⟩⟩⟩, ?_⟩
  intro r6
  intro h19_
  rintro ⟨h20_, h21_⟩
  refine ⟨(la_clearState_0 h15_), ?_⟩
  intro l3_8
  intro h22_
  intro g7
  rintro ⟨h23_, h24_⟩
  refine ⟨(la_clearState_1 h24_), ?_⟩
  intro h25_
  intro h26_
  refine ⟨(la_clearState_2 h15_ h16_), ?_⟩
  refine ⟨?_, ?_⟩
  · skip
    intro h27_
    refine ⟨(la_clearState_3 h3_), ?_⟩
    intro l3_18
    intro h28_
    intro g17
    rintro ⟨h29_, h30_⟩
    refine ⟨(la_clearState_1 h30_), ?_⟩
    refine ⟨?_, ?_⟩
    · skip
      intro h31_
      refine ⟨?_, ?_⟩
      · skip
        exact (la_clearState_4 h13_ h17_ h18_)
      refine ⟨?_, ?_⟩
      · skip
        refine ⟨(la_clearState_5 h17_), ?_⟩
        exact (la_clearState_6 h13_ h18_)
      intro g26
      intro h32_
      refine ⟨?_, ?_⟩
      · skip
        refine ⟨h17_, ?_⟩
        exact (la_clearState_7 h13_ h18_)
      exact trivial
    intro h33_
    refine ⟨⟨h3_, ⟨h4_, ⟨h5_, ⟨h6_, ⟨h7_, ⟨h8_, ⟨h9_, ⟨h10_, ⟨h11_, ⟨h12_, ⟨h13_, ⟨h14_, ⟨h15_, ⟨h16_, ⟨h17_, ⟨h18_, (la_clearState_8 h4_ h29_ h33_)⟩⟩⟩⟩⟩⟩⟩⟩⟩⟩⟩⟩⟩⟩⟩⟩, ?_⟩
    intro r41
    intro h34_
    rintro ⟨h35_, h36_⟩
    refine ⟨?_, ?_⟩
    · skip
      refine ⟨?_, ?_⟩
      · skip
        exact (la_clearState_9 h29_ h35_ h36_)
      exact (la_clearState_10 h4_ h33_ h35_ h36_)
    refine ⟨(la_clearState_11 h4_ h29_ h33_), ?_⟩
    refine ⟨(la_clearState_12 h29_ h33_), ?_⟩
    exact la_clearState_13
  intro h37_
  refine ⟨?_, ?_⟩
  · skip
    exact (la_clearState_14 h16_ h19_ h20_ h21_ h23_ h37_)
  refine ⟨?_, ?_⟩
  · skip
    refine ⟨?_, ?_⟩
    · skip
      exact (la_clearState_15 h20_ h21_ h23_)
    exact (la_clearState_16 h16_ h20_ h21_ h37_)
  intro g64
  intro h38_
  refine ⟨(la_clearState_17 h16_ h23_ h37_), ?_⟩
  refine ⟨(la_clearState_12 h23_ h37_), ?_⟩
  exact la_clearState_13
set_option maxRecDepth 8000 in
set_option maxHeartbeats 2000000 in
theorem t_clearState : ∀ (p1 : Int) (S : sv_S), sm_ok S → sv_R p1 → (29 ≤ (S 1071 0) ∧ (S 1071 0) ≤ 127 ∧ 31 ≤ (S 1008 0) ∧ (S 1008 0) ≤ 90 ∧ 1 ≤ (S 1032 0) ∧ (S 1032 0) ≤ 11 ∧ 0 ≤ (S 1055 0) ∧ (S 1055 0) ≤ 19 ∧ (S 1071 0) = 29 + 6 * ((S 1032 0) - 1) + 2 * (S 1055 0) ∧ 0 ≤ (S 1046 0) ∧ (S 1046 0) + 2 * (S 1032 0) ≤ 500 ∧ sm_PD (S 1046 0) (S 1032 0) (S 1071 0) (S 1008 0) ∧ 0 ≤ (S 1071 0) * ((S 1008 0) + 1) ∧ (S 1071 0) * ((S 1008 0) + 1) ≤ 11557 ∧ 0 ≤ p1 ∧ (p1 = 639 ∨ p1 < (S 1046 0) + 2 * (S 1032 0))) → sv_T sm_XS sm_cs sm_L sm_sh 2 (q_clearState p1 S) 234 0 (lv_args 0 [.ref 0, sv_I p1]) [] S := by
  intro p1 S hok hp1 hpre
  have h := f_clearState p1 S hok hp1 hpre
  have hM := sm_h234
  show sv_T sm_XS sm_cs sm_L sm_sh 2 (q_clearState p1 S) 234 0 [(0, .ref 0), (1, sv_I p1)] [] S
  refine sv_aload_n hM dX12_clearState_0 rfl rfl ?_
  refine sv_iload_n hM dX12_clearState_1 rfl rfl ?_
  obtain ⟨o1, h⟩ := h
  refine sv_callV hM dX12_clearState_2 sm_iv_1085 (by decide) (sm_a0 _) rfl rfl (Nat.le_of_ble_eq_true rfl) sm_h223 (Nat.le_of_ble_eq_true rfl) (Nat.le_of_ble_eq_true rfl) (F' := 0) (Nat.le_of_ble_eq_true rfl) rfl (t_fieldsAt p1 S hok hp1 o1) (fun v S1 hq => ?_)
  obtain ⟨r6, rfl, hr6, ok3, md4, hpo5⟩ := hq
  obtain rfl : S = S1 := (funext fun j => md4 j (by intro q; cases q)).symm
  show sv_T sm_XS sm_cs sm_L sm_sh 2 (q_clearState p1 S) 234 5 [(0, .ref 0), (1, sv_I p1)] [sv_I r6] S
  have h := h r6 hr6 hpo5
  refine sv_istore_n hM dX12_clearState_5 (by decide) rfl ?_
  show sv_T sm_XS sm_cs sm_L sm_sh 2 (q_clearState p1 S) 234 6 [(0, .ref 0), (1, sv_I p1), (2, sv_I r6)] [] S
  refine sv_iconst (d := (0 : Int)) hM dX12_clearState_6 rfl rfl ?_
  refine sv_istore_n hM dX12_clearState_7 (by decide) rfl ?_
  show sv_T sm_XS sm_cs sm_L sm_sh 2 (q_clearState p1 S) 234 8 [(0, .ref 0), (1, sv_I p1), (2, sv_I r6), (3, sv_I (0 : Int))] [] S
  obtain ⟨hin10, h⟩ := h
  have hJ : ∀ a : Int × sv_S, (sv_R a.1 ∧ sm_ok (sv_sts S [68, 69, 70] a.2) ∧ (0 ≤ a.1 ∧ a.1 ≤ (S 1071 0) * ((S 1008 0) + 1))) → sv_T sm_XS sm_cs sm_L sm_sh 2 (q_clearState p1 S) 234 8 [(0, .ref 0), (1, sv_I p1), (2, sv_I r6), (3, sv_I a.1)] [] (sv_sts S [68, 69, 70] a.2) := by
    refine sv_loop (α := Int × sv_S) (fun a => sv_R a.1 ∧ sm_ok (sv_sts S [68, 69, 70] a.2) ∧ (0 ≤ a.1 ∧ a.1 ≤ (S 1071 0) * ((S 1008 0) + 1))) (fun a => (S 1071 0) * ((S 1008 0) + 1) - a.1) (fun a => sv_T sm_XS sm_cs sm_L sm_sh 2 (q_clearState p1 S) 234 8 [(0, .ref 0), (1, sv_I p1), (2, sv_I r6), (3, sv_I a.1)] [] (sv_sts S [68, 69, 70] a.2)) (fun a q => (h a.1 q.1 a.2 q.2.2).1) (fun a q ih9 => ?_)
    obtain ⟨l3_8, g7⟩ := a
    obtain ⟨hl3_8, ok11, hin10i⟩ := q
    have h := (h l3_8 hl3_8 g7 hin10i).2
    show sv_T sm_XS sm_cs sm_L sm_sh 2 (q_clearState p1 S) 234 8 [(0, .ref 0), (1, sv_I p1), (2, sv_I r6), (3, sv_I l3_8)] [] (sv_sts S [68, 69, 70] g7)
    have md12 : sv_mod [68, 69, 70, 81, 82, 83, 84, 85, 86, 76, 77] S (sv_sts S [68, 69, 70] g7) := sv_mod.sts sv_mod.rf (by decide)
    have md13 : sv_mod [68, 69, 70] S (sv_sts S [68, 69, 70] g7) := sv_mod.sts sv_mod.rf (by decide)
    refine sv_iload_n hM dX12_clearState_8 rfl rfl ?_
    refine sv_aload_n hM dX12_clearState_9 rfl rfl ?_
    have k14 : sv_R (S 1071 0) := sm_okI ok11 sm_r1071 0
    have h := h k14
    refine sv_getI hM dX12_clearState_10 sm_fl_765 (sm_a0 _) sm_k71 rfl (x := (S 1071 0)) rfl ?_
    refine sv_aload_n hM dX12_clearState_13 rfl rfl ?_
    have k15 : sv_R (S 1008 0) := sm_okI ok11 sm_r1008 0
    have h := h k15
    refine sv_getI hM dX12_clearState_14 sm_fl_762 (sm_a0 _) sm_k8 rfl (x := (S 1008 0)) rfl ?_
    refine sv_iconst (d := (1 : Int)) hM dX12_clearState_17 rfl rfl ?_
    refine sv_iadd hM dX12_clearState_18 rfl ?_
    refine sv_imul hM dX12_clearState_19 rfl ?_
    obtain ⟨o16, h⟩ := h
    refine sv_icmp_ge hM dX12_clearState_20 hl3_8 o16 (t := 36) rfl rfl (fun hc => ?_) (fun hc => ?_)
    · have h := h.1 (hc)
      refine sv_iconst (d := (0 : Int)) hM dX12_clearState_36 rfl rfl ?_
      refine sv_istore_n hM dX12_clearState_37 (by decide) rfl ?_
      show sv_T sm_XS sm_cs sm_L sm_sh 2 (q_clearState p1 S) 234 38 [(0, .ref 0), (1, sv_I p1), (2, sv_I r6), (3, sv_I (0 : Int))] [] (sv_sts S [68, 69, 70] g7)
      obtain ⟨hin20, h⟩ := h
      have hJ : ∀ a : Int × sv_S, (sv_R a.1 ∧ sm_ok (sv_sts (sv_sts S [68, 69, 70] g7) [81, 82, 83, 84, 85, 86] a.2) ∧ (0 ≤ a.1 ∧ a.1 ≤ (S 1071 0))) → sv_T sm_XS sm_cs sm_L sm_sh 2 (q_clearState p1 S) 234 38 [(0, .ref 0), (1, sv_I p1), (2, sv_I r6), (3, sv_I a.1)] [] (sv_sts (sv_sts S [68, 69, 70] g7) [81, 82, 83, 84, 85, 86] a.2) := by
        refine sv_loop (α := Int × sv_S) (fun a => sv_R a.1 ∧ sm_ok (sv_sts (sv_sts S [68, 69, 70] g7) [81, 82, 83, 84, 85, 86] a.2) ∧ (0 ≤ a.1 ∧ a.1 ≤ (S 1071 0))) (fun a => (S 1071 0) - a.1) (fun a => sv_T sm_XS sm_cs sm_L sm_sh 2 (q_clearState p1 S) 234 38 [(0, .ref 0), (1, sv_I p1), (2, sv_I r6), (3, sv_I a.1)] [] (sv_sts (sv_sts S [68, 69, 70] g7) [81, 82, 83, 84, 85, 86] a.2)) (fun a q => (h a.1 q.1 a.2 q.2.2).1) (fun a q ih19 => ?_)
        obtain ⟨l3_18, g17⟩ := a
        obtain ⟨hl3_18, ok21, hin20i⟩ := q
        have h := (h l3_18 hl3_18 g17 hin20i).2
        show sv_T sm_XS sm_cs sm_L sm_sh 2 (q_clearState p1 S) 234 38 [(0, .ref 0), (1, sv_I p1), (2, sv_I r6), (3, sv_I l3_18)] [] (sv_sts (sv_sts S [68, 69, 70] g7) [81, 82, 83, 84, 85, 86] g17)
        have md22 : sv_mod [68, 69, 70, 81, 82, 83, 84, 85, 86, 76, 77] S (sv_sts (sv_sts S [68, 69, 70] g7) [81, 82, 83, 84, 85, 86] g17) := sv_mod.sts md12 (by decide)
        have md23 : sv_mod [81, 82, 83, 84, 85, 86] (sv_sts S [68, 69, 70] g7) (sv_sts (sv_sts S [68, 69, 70] g7) [81, 82, 83, 84, 85, 86] g17) := sv_mod.sts sv_mod.rf (by decide)
        refine sv_iload_n hM dX12_clearState_38 rfl rfl ?_
        refine sv_aload_n hM dX12_clearState_39 rfl rfl ?_
        refine sv_getI hM dX12_clearState_40 sm_fl_765 (sm_a0 _) sm_k71 rfl (x := (S 1071 0)) rfl ?_
        refine sv_icmp_ge hM dX12_clearState_43 hl3_18 k14 (t := 108) rfl rfl (fun hc => ?_) (fun hc => ?_)
        · have h := h.1 (hc)
          refine sv_aload_n hM dX12_clearState_108 rfl rfl ?_
          refine sv_aload_n hM dX12_clearState_109 rfl rfl ?_
          refine sv_iload_n hM dX12_clearState_110 rfl rfl ?_
          refine sv_callV hM dX12_clearState_111 sm_iv_1098 (by decide) (sm_a0 _) rfl rfl (Nat.le_of_ble_eq_true rfl) sm_h227 (Nat.le_of_ble_eq_true rfl) (Nat.le_of_ble_eq_true rfl) (F' := 0) (Nat.le_of_ble_eq_true rfl) rfl (t_thisAt p1 (sv_sts (sv_sts S [68, 69, 70] g7) [81, 82, 83, 84, 85, 86] g17) ok21 hp1) (fun v S1 hq => ?_)
          obtain ⟨rfl, hS1⟩ := hq
          obtain rfl : (sv_sts (sv_sts S [68, 69, 70] g7) [81, 82, 83, 84, 85, 86] g17) = S1 := hS1.symm
          show sv_T sm_XS sm_cs sm_L sm_sh 2 (q_clearState p1 S) 234 114 [(0, .ref 0), (1, sv_I p1), (2, sv_I r6), (3, sv_I l3_18)] [sv_I (635000 + p1), .ref 0] (sv_sts (sv_sts S [68, 69, 70] g7) [81, 82, 83, 84, 85, 86] g17)
          obtain ⟨o24, h⟩ := h
          obtain ⟨o25, h⟩ := h
          refine sv_callV hM dX12_clearState_114 sm_iv_1066 (by decide) (sm_a0 _) rfl rfl (Nat.le_of_ble_eq_true rfl) sm_h206 (Nat.le_of_ble_eq_true rfl) (Nat.le_of_ble_eq_true rfl) (F' := 0) (Nat.le_of_ble_eq_true rfl) rfl (t_empty (635000 + p1) (sv_sts (sv_sts S [68, 69, 70] g7) [81, 82, 83, 84, 85, 86] g17) ok21 o24 o25) (fun v S1 hq => ?_)
          obtain ⟨rfl, ok27, md28, hpo29⟩ := hq
          obtain ⟨g26, rfl⟩ : ∃ g, S1 = sv_sts (sv_sts (sv_sts S [68, 69, 70] g7) [81, 82, 83, 84, 85, 86] g17) [68, 69, 70] g := ⟨_, md28.eq⟩
          show sv_T sm_XS sm_cs sm_L sm_sh 2 (q_clearState p1 S) 234 117 [(0, .ref 0), (1, sv_I p1), (2, sv_I r6), (3, sv_I l3_18)] [] (sv_sts (sv_sts (sv_sts S [68, 69, 70] g7) [81, 82, 83, 84, 85, 86] g17) [68, 69, 70] g26)
          have md30 : sv_mod [68, 69, 70, 81, 82, 83, 84, 85, 86, 76, 77] S (sv_sts (sv_sts (sv_sts S [68, 69, 70] g7) [81, 82, 83, 84, 85, 86] g17) [68, 69, 70] g26) := sv_mod.sts md22 (by decide)
          have h := h g26 hpo29
          refine sv_aload_n hM dX12_clearState_117 rfl rfl ?_
          refine sv_getA hM dX12_clearState_118 sm_fl_241 (sm_a0 _) sm_k128 rfl ?_
          refine sv_iload_n hM dX12_clearState_121 rfl rfl ?_
          refine sv_lconst (d := (0 : Int)) hM dX12_clearState_122 rfl rfl ?_
          obtain ⟨o31, h⟩ := h
          refine sv_last sm_X hM dX12_clearState_123 (sm_a76 _) (by decide) o31.1 o31.2 rfl ?_
          have ok32 : sm_ok (sv_up (sv_sts (sv_sts (sv_sts S [68, 69, 70] g7) [81, 82, 83, 84, 85, 86] g17) [68, 69, 70] g26) 76 p1 (0 : Int)) := sm_upJ ok27 sm_r76 (⟨by decide, by decide⟩ : sv_RL (0 : Int))
          have md33 : sv_mod [68, 69, 70, 81, 82, 83, 84, 85, 86, 76, 77] S (sv_up (sv_sts (sv_sts (sv_sts S [68, 69, 70] g7) [81, 82, 83, 84, 85, 86] g17) [68, 69, 70] g26) 76 p1 (0 : Int)) := sv_mod.up md30 (by decide)
          refine sv_aload_n hM dX12_clearState_124 rfl rfl ?_
          refine sv_getA hM dX12_clearState_125 sm_fl_244 (sm_a0 _) sm_k129 rfl ?_
          refine sv_iload_n hM dX12_clearState_128 rfl rfl ?_
          refine sv_lconst (d := (0 : Int)) hM dX12_clearState_129 rfl rfl ?_
          refine sv_last sm_X hM dX12_clearState_130 (sm_a77 _) (by decide) o31.1 o31.2 rfl ?_
          have ok34 : sm_ok (sv_up (sv_up (sv_sts (sv_sts (sv_sts S [68, 69, 70] g7) [81, 82, 83, 84, 85, 86] g17) [68, 69, 70] g26) 76 p1 (0 : Int)) 77 p1 (0 : Int)) := sm_upJ ok32 sm_r77 (⟨by decide, by decide⟩ : sv_RL (0 : Int))
          have md35 : sv_mod [68, 69, 70, 81, 82, 83, 84, 85, 86, 76, 77] S (sv_up (sv_up (sv_sts (sv_sts (sv_sts S [68, 69, 70] g7) [81, 82, 83, 84, 85, 86] g17) [68, 69, 70] g26) 76 p1 (0 : Int)) 77 p1 (0 : Int)) := sv_mod.up md33 (by decide)
          exact sv_vret hM dX12_clearState_131 rfl ⟨rfl, ok34, md35, h⟩
        · have h := h.2 (hc)
          refine sv_aload_n hM dX12_clearState_46 rfl rfl ?_
          refine sv_iload_n hM dX12_clearState_47 rfl rfl ?_
          refine sv_iload_n hM dX12_clearState_48 rfl rfl ?_
          obtain ⟨o36, h⟩ := h
          refine sv_callV hM dX12_clearState_49 sm_iv_1101 (by decide) (sm_a0 _) rfl rfl (Nat.le_of_ble_eq_true rfl) sm_h226 (Nat.le_of_ble_eq_true rfl) (Nat.le_of_ble_eq_true rfl) (F' := 1) (Nat.le_of_ble_eq_true rfl) rfl (t_of p1 l3_18 (sv_sts (sv_sts S [68, 69, 70] g7) [81, 82, 83, 84, 85, 86] g17) ok21 hp1 hl3_18 o36) (fun v S1 hq => ?_)
          obtain ⟨r41, rfl, hr41, ok38, md39, hpo40⟩ := hq
          obtain rfl : (sv_sts (sv_sts S [68, 69, 70] g7) [81, 82, 83, 84, 85, 86] g17) = S1 := (funext fun j => md39 j (by intro q; cases q)).symm
          show sv_T sm_XS sm_cs sm_L sm_sh 2 (q_clearState p1 S) 234 52 [(0, .ref 0), (1, sv_I p1), (2, sv_I r6), (3, sv_I l3_18)] [sv_I r41] (sv_sts (sv_sts S [68, 69, 70] g7) [81, 82, 83, 84, 85, 86] g17)
          have h := h r41 hr41 hpo40
          refine sv_istore hM dX12_clearState_52 (by decide) rfl ?_
          show sv_T sm_XS sm_cs sm_L sm_sh 2 (q_clearState p1 S) 234 54 [(0, .ref 0), (1, sv_I p1), (2, sv_I r6), (3, sv_I l3_18), (4, sv_I r41)] [] (sv_sts (sv_sts S [68, 69, 70] g7) [81, 82, 83, 84, 85, 86] g17)
          refine sv_aload_n hM dX12_clearState_54 rfl rfl ?_
          refine sv_getA hM dX12_clearState_55 sm_fl_256 (sm_a0 _) sm_k133 rfl ?_
          refine sv_iload hM dX12_clearState_58 rfl rfl ?_
          refine sv_iconst (d := (0 : Int)) hM dX12_clearState_60 rfl rfl ?_
          obtain ⟨o42, h⟩ := h
          refine sv_zast sm_X hM dX12_clearState_61 (sm_a81 _) (by decide) o42.1 o42.2 (sv_nnZ (⟨by decide, by decide⟩ : 0 ≤ (0 : Int) ∧ (0 : Int) ≤ 1)) rfl ?_
          have ok43 : sm_ok (sv_up (sv_sts (sv_sts S [68, 69, 70] g7) [81, 82, 83, 84, 85, 86] g17) 81 r41 (0 : Int)) := sm_upZ ok38 sm_r81 (⟨by decide, by decide⟩ : 0 ≤ (0 : Int) ∧ (0 : Int) ≤ 1)
          have md44 : sv_mod [68, 69, 70, 81, 82, 83, 84, 85, 86, 76, 77] S (sv_up (sv_sts (sv_sts S [68, 69, 70] g7) [81, 82, 83, 84, 85, 86] g17) 81 r41 (0 : Int)) := sv_mod.up md22 (by decide)
          have md45 : sv_mod [81, 82, 83, 84, 85, 86] (sv_sts S [68, 69, 70] g7) (sv_up (sv_sts (sv_sts S [68, 69, 70] g7) [81, 82, 83, 84, 85, 86] g17) 81 r41 (0 : Int)) := sv_mod.up md23 (by decide)
          refine sv_aload_n hM dX12_clearState_62 rfl rfl ?_
          refine sv_getA hM dX12_clearState_63 sm_fl_259 (sm_a0 _) sm_k134 rfl ?_
          refine sv_iload hM dX12_clearState_66 rfl rfl ?_
          refine sv_iconst (d := (0 : Int)) hM dX12_clearState_68 rfl rfl ?_
          refine sv_zast sm_X hM dX12_clearState_69 (sm_a82 _) (by decide) o42.1 o42.2 (sv_nnZ (⟨by decide, by decide⟩ : 0 ≤ (0 : Int) ∧ (0 : Int) ≤ 1)) rfl ?_
          have ok46 : sm_ok (sv_up (sv_up (sv_sts (sv_sts S [68, 69, 70] g7) [81, 82, 83, 84, 85, 86] g17) 81 r41 (0 : Int)) 82 r41 (0 : Int)) := sm_upZ ok43 sm_r82 (⟨by decide, by decide⟩ : 0 ≤ (0 : Int) ∧ (0 : Int) ≤ 1)
          have md47 : sv_mod [68, 69, 70, 81, 82, 83, 84, 85, 86, 76, 77] S (sv_up (sv_up (sv_sts (sv_sts S [68, 69, 70] g7) [81, 82, 83, 84, 85, 86] g17) 81 r41 (0 : Int)) 82 r41 (0 : Int)) := sv_mod.up md44 (by decide)
          have md48 : sv_mod [81, 82, 83, 84, 85, 86] (sv_sts S [68, 69, 70] g7) (sv_up (sv_up (sv_sts (sv_sts S [68, 69, 70] g7) [81, 82, 83, 84, 85, 86] g17) 81 r41 (0 : Int)) 82 r41 (0 : Int)) := sv_mod.up md45 (by decide)
          refine sv_aload_n hM dX12_clearState_70 rfl rfl ?_
          refine sv_getA hM dX12_clearState_71 sm_fl_262 (sm_a0 _) sm_k135 rfl ?_
          refine sv_iload hM dX12_clearState_74 rfl rfl ?_
          refine sv_lconst (d := (0 : Int)) hM dX12_clearState_76 rfl rfl ?_
          refine sv_last sm_X hM dX12_clearState_77 (sm_a83 _) (by decide) o42.1 o42.2 rfl ?_
          have ok49 : sm_ok (sv_up (sv_up (sv_up (sv_sts (sv_sts S [68, 69, 70] g7) [81, 82, 83, 84, 85, 86] g17) 81 r41 (0 : Int)) 82 r41 (0 : Int)) 83 r41 (0 : Int)) := sm_upJ ok46 sm_r83 (⟨by decide, by decide⟩ : sv_RL (0 : Int))
          have md50 : sv_mod [68, 69, 70, 81, 82, 83, 84, 85, 86, 76, 77] S (sv_up (sv_up (sv_up (sv_sts (sv_sts S [68, 69, 70] g7) [81, 82, 83, 84, 85, 86] g17) 81 r41 (0 : Int)) 82 r41 (0 : Int)) 83 r41 (0 : Int)) := sv_mod.up md47 (by decide)
          have md51 : sv_mod [81, 82, 83, 84, 85, 86] (sv_sts S [68, 69, 70] g7) (sv_up (sv_up (sv_up (sv_sts (sv_sts S [68, 69, 70] g7) [81, 82, 83, 84, 85, 86] g17) 81 r41 (0 : Int)) 82 r41 (0 : Int)) 83 r41 (0 : Int)) := sv_mod.up md48 (by decide)
          refine sv_aload_n hM dX12_clearState_78 rfl rfl ?_
          refine sv_getA hM dX12_clearState_79 sm_fl_265 (sm_a0 _) sm_k136 rfl ?_
          refine sv_iload hM dX12_clearState_82 rfl rfl ?_
          refine sv_lconst (d := (0 : Int)) hM dX12_clearState_84 rfl rfl ?_
          refine sv_last sm_X hM dX12_clearState_85 (sm_a84 _) (by decide) o42.1 o42.2 rfl ?_
          have ok52 : sm_ok (sv_up (sv_up (sv_up (sv_up (sv_sts (sv_sts S [68, 69, 70] g7) [81, 82, 83, 84, 85, 86] g17) 81 r41 (0 : Int)) 82 r41 (0 : Int)) 83 r41 (0 : Int)) 84 r41 (0 : Int)) := sm_upJ ok49 sm_r84 (⟨by decide, by decide⟩ : sv_RL (0 : Int))
          have md53 : sv_mod [68, 69, 70, 81, 82, 83, 84, 85, 86, 76, 77] S (sv_up (sv_up (sv_up (sv_up (sv_sts (sv_sts S [68, 69, 70] g7) [81, 82, 83, 84, 85, 86] g17) 81 r41 (0 : Int)) 82 r41 (0 : Int)) 83 r41 (0 : Int)) 84 r41 (0 : Int)) := sv_mod.up md50 (by decide)
          have md54 : sv_mod [81, 82, 83, 84, 85, 86] (sv_sts S [68, 69, 70] g7) (sv_up (sv_up (sv_up (sv_up (sv_sts (sv_sts S [68, 69, 70] g7) [81, 82, 83, 84, 85, 86] g17) 81 r41 (0 : Int)) 82 r41 (0 : Int)) 83 r41 (0 : Int)) 84 r41 (0 : Int)) := sv_mod.up md51 (by decide)
          refine sv_aload_n hM dX12_clearState_86 rfl rfl ?_
          refine sv_getA hM dX12_clearState_87 sm_fl_268 (sm_a0 _) sm_k137 rfl ?_
          refine sv_iload hM dX12_clearState_90 rfl rfl ?_
          refine sv_lconst (d := (0 : Int)) hM dX12_clearState_92 rfl rfl ?_
          refine sv_last sm_X hM dX12_clearState_93 (sm_a85 _) (by decide) o42.1 o42.2 rfl ?_
          have ok55 : sm_ok (sv_up (sv_up (sv_up (sv_up (sv_up (sv_sts (sv_sts S [68, 69, 70] g7) [81, 82, 83, 84, 85, 86] g17) 81 r41 (0 : Int)) 82 r41 (0 : Int)) 83 r41 (0 : Int)) 84 r41 (0 : Int)) 85 r41 (0 : Int)) := sm_upJ ok52 sm_r85 (⟨by decide, by decide⟩ : sv_RL (0 : Int))
          have md56 : sv_mod [68, 69, 70, 81, 82, 83, 84, 85, 86, 76, 77] S (sv_up (sv_up (sv_up (sv_up (sv_up (sv_sts (sv_sts S [68, 69, 70] g7) [81, 82, 83, 84, 85, 86] g17) 81 r41 (0 : Int)) 82 r41 (0 : Int)) 83 r41 (0 : Int)) 84 r41 (0 : Int)) 85 r41 (0 : Int)) := sv_mod.up md53 (by decide)
          have md57 : sv_mod [81, 82, 83, 84, 85, 86] (sv_sts S [68, 69, 70] g7) (sv_up (sv_up (sv_up (sv_up (sv_up (sv_sts (sv_sts S [68, 69, 70] g7) [81, 82, 83, 84, 85, 86] g17) 81 r41 (0 : Int)) 82 r41 (0 : Int)) 83 r41 (0 : Int)) 84 r41 (0 : Int)) 85 r41 (0 : Int)) := sv_mod.up md54 (by decide)
          refine sv_aload_n hM dX12_clearState_94 rfl rfl ?_
          refine sv_getA hM dX12_clearState_95 sm_fl_271 (sm_a0 _) sm_k138 rfl ?_
          refine sv_iload hM dX12_clearState_98 rfl rfl ?_
          refine sv_lconst (d := (0 : Int)) hM dX12_clearState_100 rfl rfl ?_
          refine sv_last sm_X hM dX12_clearState_101 (sm_a86 _) (by decide) o42.1 o42.2 rfl ?_
          have ok58 : sm_ok (sv_up (sv_up (sv_up (sv_up (sv_up (sv_up (sv_sts (sv_sts S [68, 69, 70] g7) [81, 82, 83, 84, 85, 86] g17) 81 r41 (0 : Int)) 82 r41 (0 : Int)) 83 r41 (0 : Int)) 84 r41 (0 : Int)) 85 r41 (0 : Int)) 86 r41 (0 : Int)) := sm_upJ ok55 sm_r86 (⟨by decide, by decide⟩ : sv_RL (0 : Int))
          have md59 : sv_mod [68, 69, 70, 81, 82, 83, 84, 85, 86, 76, 77] S (sv_up (sv_up (sv_up (sv_up (sv_up (sv_up (sv_sts (sv_sts S [68, 69, 70] g7) [81, 82, 83, 84, 85, 86] g17) 81 r41 (0 : Int)) 82 r41 (0 : Int)) 83 r41 (0 : Int)) 84 r41 (0 : Int)) 85 r41 (0 : Int)) 86 r41 (0 : Int)) := sv_mod.up md56 (by decide)
          have md60 : sv_mod [81, 82, 83, 84, 85, 86] (sv_sts S [68, 69, 70] g7) (sv_up (sv_up (sv_up (sv_up (sv_up (sv_up (sv_sts (sv_sts S [68, 69, 70] g7) [81, 82, 83, 84, 85, 86] g17) 81 r41 (0 : Int)) 82 r41 (0 : Int)) 83 r41 (0 : Int)) 84 r41 (0 : Int)) 85 r41 (0 : Int)) 86 r41 (0 : Int)) := sv_mod.up md57 (by decide)
          refine sv_iinc (d := (1 : Int)) hM dX12_clearState_102 rfl (by decide) rfl rfl ?_
          show sv_T sm_XS sm_cs sm_L sm_sh 2 (q_clearState p1 S) 234 105 [(0, .ref 0), (1, sv_I p1), (2, sv_I r6), (3, sv_I (l3_18 + (1 : Int))), (4, sv_I r41)] [] (sv_up (sv_up (sv_up (sv_up (sv_up (sv_up (sv_sts (sv_sts S [68, 69, 70] g7) [81, 82, 83, 84, 85, 86] g17) 81 r41 (0 : Int)) 82 r41 (0 : Int)) 83 r41 (0 : Int)) 84 r41 (0 : Int)) 85 r41 (0 : Int)) 86 r41 (0 : Int))
          refine sv_goto hM dX12_clearState_105 (pc' := 38) rfl ?_
          obtain ⟨o61, h⟩ := h
          have eS := sv_mod.eq md60
          have hb := ih19 ((l3_18 + (1 : Int)), (sv_up (sv_up (sv_up (sv_up (sv_up (sv_up (sv_sts (sv_sts S [68, 69, 70] g7) [81, 82, 83, 84, 85, 86] g17) 81 r41 (0 : Int)) 82 r41 (0 : Int)) 83 r41 (0 : Int)) 84 r41 (0 : Int)) 85 r41 (0 : Int)) 86 r41 (0 : Int))) ⟨o61, (by rw [← eS]; exact ok58), h.1⟩ h.2
          have hb : sv_T sm_XS sm_cs sm_L sm_sh 2 (q_clearState p1 S) 234 38 [(0, .ref 0), (1, sv_I p1), (2, sv_I r6), (3, sv_I (l3_18 + (1 : Int)))] [] (sv_up (sv_up (sv_up (sv_up (sv_up (sv_up (sv_sts (sv_sts S [68, 69, 70] g7) [81, 82, 83, 84, 85, 86] g17) 81 r41 (0 : Int)) 82 r41 (0 : Int)) 83 r41 (0 : Int)) 84 r41 (0 : Int)) 85 r41 (0 : Int)) 86 r41 (0 : Int)) := Eq.mpr (congrArg (fun Z => sv_T sm_XS sm_cs sm_L sm_sh 2 (q_clearState p1 S) 234 38 [(0, .ref 0), (1, sv_I p1), (2, sv_I r6), (3, sv_I (l3_18 + (1 : Int)))] [] Z) eS) hb
          exact sv_less (lv := [(0, .ref 0), (1, sv_I p1), (2, sv_I r6), (3, sv_I (l3_18 + (1 : Int)))]) (sv_Sub_cons rfl (sv_Sub_cons rfl (sv_Sub_cons rfl (sv_Sub_cons rfl sv_Sub_nil)))) hb
      have eS := sv_mod.eq (sv_mod.rf (l := [81, 82, 83, 84, 85, 86]) (S := (sv_sts S [68, 69, 70] g7)))
      have hb := hJ ((0 : Int), (sv_sts S [68, 69, 70] g7)) ⟨(⟨by decide, by decide⟩ : sv_R (0 : Int)), (by rw [← eS]; exact ok11), hin20⟩
      have hb : sv_T sm_XS sm_cs sm_L sm_sh 2 (q_clearState p1 S) 234 38 [(0, .ref 0), (1, sv_I p1), (2, sv_I r6), (3, sv_I (0 : Int))] [] (sv_sts S [68, 69, 70] g7) := Eq.mpr (congrArg (fun Z => sv_T sm_XS sm_cs sm_L sm_sh 2 (q_clearState p1 S) 234 38 [(0, .ref 0), (1, sv_I p1), (2, sv_I r6), (3, sv_I (0 : Int))] [] Z) eS) hb
      exact hb
    · have h := h.2 (hc)
      refine sv_aload_n hM dX12_clearState_23 rfl rfl ?_
      refine sv_iload_n hM dX12_clearState_24 rfl rfl ?_
      refine sv_iload_n hM dX12_clearState_25 rfl rfl ?_
      refine sv_iadd hM dX12_clearState_26 rfl ?_
      obtain ⟨o62, h⟩ := h
      obtain ⟨o63, h⟩ := h
      refine sv_callV hM dX12_clearState_27 sm_iv_1066 (by decide) (sm_a0 _) rfl rfl (Nat.le_of_ble_eq_true rfl) sm_h206 (Nat.le_of_ble_eq_true rfl) (Nat.le_of_ble_eq_true rfl) (F' := 0) (Nat.le_of_ble_eq_true rfl) rfl (t_empty (r6 + l3_8) (sv_sts S [68, 69, 70] g7) ok11 o62 o63) (fun v S1 hq => ?_)
      obtain ⟨rfl, ok65, md66, hpo67⟩ := hq
      obtain ⟨g64, rfl⟩ : ∃ g, S1 = sv_sts (sv_sts S [68, 69, 70] g7) [68, 69, 70] g := ⟨_, md66.eq⟩
      show sv_T sm_XS sm_cs sm_L sm_sh 2 (q_clearState p1 S) 234 30 [(0, .ref 0), (1, sv_I p1), (2, sv_I r6), (3, sv_I l3_8)] [] (sv_sts (sv_sts S [68, 69, 70] g7) [68, 69, 70] g64)
      have md68 : sv_mod [68, 69, 70, 81, 82, 83, 84, 85, 86, 76, 77] S (sv_sts (sv_sts S [68, 69, 70] g7) [68, 69, 70] g64) := sv_mod.sts md12 (by decide)
      have md69 : sv_mod [68, 69, 70] S (sv_sts (sv_sts S [68, 69, 70] g7) [68, 69, 70] g64) := sv_mod.sts md13 (by decide)
      have h := h g64 hpo67
      refine sv_iinc (d := (1 : Int)) hM dX12_clearState_30 rfl (by decide) rfl rfl ?_
      show sv_T sm_XS sm_cs sm_L sm_sh 2 (q_clearState p1 S) 234 33 [(0, .ref 0), (1, sv_I p1), (2, sv_I r6), (3, sv_I (l3_8 + (1 : Int)))] [] (sv_sts (sv_sts S [68, 69, 70] g7) [68, 69, 70] g64)
      refine sv_goto hM dX12_clearState_33 (pc' := 8) rfl ?_
      obtain ⟨o70, h⟩ := h
      have eS := sv_mod.eq md69
      have hb := ih9 ((l3_8 + (1 : Int)), (sv_sts (sv_sts S [68, 69, 70] g7) [68, 69, 70] g64)) ⟨o70, (by rw [← eS]; exact ok65), h.1⟩ h.2
      have hb : sv_T sm_XS sm_cs sm_L sm_sh 2 (q_clearState p1 S) 234 8 [(0, .ref 0), (1, sv_I p1), (2, sv_I r6), (3, sv_I (l3_8 + (1 : Int)))] [] (sv_sts (sv_sts S [68, 69, 70] g7) [68, 69, 70] g64) := Eq.mpr (congrArg (fun Z => sv_T sm_XS sm_cs sm_L sm_sh 2 (q_clearState p1 S) 234 8 [(0, .ref 0), (1, sv_I p1), (2, sv_I r6), (3, sv_I (l3_8 + (1 : Int)))] [] Z) eS) hb
      exact sv_less (lv := [(0, .ref 0), (1, sv_I p1), (2, sv_I r6), (3, sv_I (l3_8 + (1 : Int)))]) (sv_Sub_cons rfl (sv_Sub_cons rfl (sv_Sub_cons rfl (sv_Sub_cons rfl sv_Sub_nil)))) hb
  have eS := sv_mod.eq (sv_mod.rf (l := [68, 69, 70]) (S := S))
  have hb := hJ ((0 : Int), S) ⟨(⟨by decide, by decide⟩ : sv_R (0 : Int)), (by rw [← eS]; exact ok3), hin10⟩
  have hb : sv_T sm_XS sm_cs sm_L sm_sh 2 (q_clearState p1 S) 234 8 [(0, .ref 0), (1, sv_I p1), (2, sv_I r6), (3, sv_I (0 : Int))] [] S := Eq.mpr (congrArg (fun Z => sv_T sm_XS sm_cs sm_L sm_sh 2 (q_clearState p1 S) 234 8 [(0, .ref 0), (1, sv_I p1), (2, sv_I r6), (3, sv_I (0 : Int))] [] Z) eS) hb
  exact hb
def q_load (p1 : Int) (S : sv_S) : Option Value → sv_S → Prop := fun v S' => v = none ∧ sm_ok S' ∧ sv_mod [68, 69, 70, 81, 82, 83, 84, 85, 86, 74, 78, 79, 80, 76, 77, 1100031] S S' ∧ (sm_pt (S' 68) (S' 69) (S' 70) = sm_pt (S 68) (S 69) (S 70) ∧ sm_pl (S' 81) (S' 82) (S' 83) (S' 84) (S' 85) (S' 86) = sm_pl (S 81) (S 82) (S 83) (S 84) (S 85) (S 86) ∧ sm_ps (S' 76) (S' 77) = sm_ps (S 76) (S 77) ∧ sm_ST (S' 71) (S' 74) (S' 75) (S' 78) (S' 79) (S' 80) (S' 27) (S' 1100007) (S' 1100023) (S' 1100024) (S' 1046 0) ((S' 1046 0) + 2 * (S' 1032 0)) (S' 1127 0) ∧ 0 ≤ (S' 74 639) ∧ (S' 74 639) ≤ 400 ∧ 0 ≤ (S' 78 639) ∧ (S' 78 639) ≤ 40 ∧ (S' 78 639) = sm_dp (S' 1100024) (S' 1100031 0) ∧ -1 ≤ (S' 1100031 0) ∧ (S' 1100031 0) < (S' 1046 0) ∧ (0 ≤ (S' 1100031 0) → (S' 26 (S' 1100031 0)) = 27) ∧ sm_TC (S' 79) (S' 80) (S' 27) (S' 1100007) (S' 1100023) (S' 1100024) 25560 (S' 1100031 0) ∧ (S' 74 639) = (S' 1100007 p1) ∧ (S' 1100031 0) = (S' 1100023 p1))
theorem la_load_0 {x0 x1 x2 : Int} (h0 : 1 ≤ x0) (h1 : x1 < x2) : x1 < x2 + 2 * x0 := by omega
theorem la_load_1 {x0 x1 x2 : Int} (h0 : 1 ≤ x0) (h1 : x1 + 2 * x0 ≤ 500) (h2 : x2 < x1) : x2 < 640 := by omega
theorem la_load_2 {x0 x1 x2 x3 : Int} (h0 : 1 ≤ x0) (h1 : x1 + 2 * x0 ≤ 500) (h2 : 0 ≤ x2) (h3 : x2 ≤ 11557) (h4 : 0 ≤ x3) (h5 : x3 < x1) : 0 ≤ x2 ∧ x2 ≤ 11557 ∧ 0 ≤ x3 ∧ (x3 = 639 ∨ x3 < x1 + 2 * x0) := by omega
theorem la_load_3 {x0 x1 x2 : Int} (h0 : 1 ≤ x0) (h1 : x1 + 2 * x0 ≤ 500) (h2 : x2 < x1) : ¬ x2 = 639 := by omega
theorem la_load_4 {x0 x1 : Int} (h0 : 0 ≤ x0) : (0 : Int) ≤ 0 ∧ 0 ≤ x0 ∧ x1 = x1 := by omega
theorem la_load_5 {x0 x1 : Int} (h0 : x0 ≤ x1) : 0 ≤ x1 - x0 := by omega
theorem la_load_6 {x0 : Int} (h0 : 0 ≤ x0) (h1 : x0 ≤ 11557) : sv_R x0 := by omega
theorem la_load_7 {x0 x1 x2 x3 : Int} (h0 : 1 ≤ x0) (h1 : 0 ≤ x1) (h2 : x1 ≤ 11557) (h3 : 0 ≤ x2) (h4 : x2 < x3) : 0 ≤ x1 ∧ x1 ≤ 11557 ∧ 0 ≤ x2 ∧ x2 < x3 + 2 * x0 := by omega
theorem la_load_8 {x0 x1 x2 : Int} (h0 : 1 ≤ x0) (h1 : x1 + 2 * x0 ≤ 500) (h2 : 0 ≤ x2) (h3 : x2 < x1) : 0 ≤ x2 ∧ x2 < 640 := by omega
theorem la_load_9 : (0 : Int) ≤ 639 ∧ (639 : Int) < 640 := by omega
theorem la_load_10 : (0 : Int) ≤ 0 := by omega
theorem la_load_11 {x0 x1 : Int} (h0 : x0 < x1) : ¬ x1 ≤ x0 := by omega
theorem la_load_12 {x0 x1 x2 : Int} (h0 : x0 = x1) (h1 : 0 ≤ x1) (h2 : x2 = x0) : 0 ≤ x2 := by omega
theorem la_load_13 {x0 x1 x2 : Int} (h0 : 1 ≤ x0) (h1 : x1 + 2 * x0 ≤ 500) (h2 : 0 ≤ x2) (h3 : x2 < x1) : sv_R (635000 + x2) := by omega
theorem la_load_14 : sv_R (635000 + 639) := by omega
theorem la_load_15 {x0 x1 x2 : Int} (h0 : 1 ≤ x0) (h1 : x1 + 2 * x0 ≤ 500) (h2 : 0 ≤ x2) (h3 : x2 < x1) : 0 ≤ 635000 + x2 ∧ 635000 + x2 < 647800 ∧ (635639 : Int) ≤ 635000 + 639 ∧ (635000 + 639 : Int) < 647800 := by omega
theorem la_load_16 {x0 x1 : Int} (h0 : 0 ≤ x0) (h1 : x1 = x0) : 0 ≤ x1 := by omega
theorem la_load_17 {x0 x1 : Int} (h0 : sv_R x0) (h1 : (-1) ≤ x1) (h2 : x1 < x0) : sv_R x1 := by omega
theorem la_load_18 {x0 x1 x2 x3 x4 : Int} (h0 : x0 = x1) (h1 : x2 = x0) (h2 : x2 = x3) (h3 : x3 ≤ x4) : x1 ≤ x4 := by omega
theorem la_load_19 {x0 x1 x2 : Int} (h0 : x0 = x1) (h1 : x2 = x0) : x2 = x1 := by omega
theorem la_load_20 : (639 : Int) ≤ 639 := by omega
theorem la_load_21 {x0 x1 x2 : Int} (h0 : x0 = x1) (h1 : x1 = x2) : x0 = x2 := by omega
theorem la_load_22 {x0 x1 : Int} (h0 : x0 + 2 * x1 ≤ 500) : x0 + 2 * x1 ≤ 639 := by omega
theorem la_load_23 : (639 : Int) = 639 := by omega
theorem la_load_24 {x0 x1 x2 : Int} (h0 : x0 = x1) (h1 : x1 ≤ 400) (h2 : x2 = x0) : x2 ≤ 400 := by omega
theorem la_load_25 {x0 x1 : Int} (h0 : x0 ≤ 40) (h1 : x1 = x0) : x1 ≤ 40 := by omega
theorem la_load_26 {x0 x1 x2 : Int} (h0 : x0 < x1) (h1 : x2 < x0) : x2 < x1 := by omega
theorem la_load_27 {x0 : Int} : x0 = x0 := by omega
theorem la_load_28 {x0 x1 x2 x3 x4 x5 : Int} (h0 : 1 ≤ x0) (h1 : x1 + 2 * x0 ≤ 500) (h2 : 0 ≤ x2) (h3 : x2 < x1) (h4 : x3 ≤ 40) (h5 : 0 ≤ x4) (h6 : x4 ≤ x5) (h7 : x5 = x3) : 0 ≤ 40 * x2 + x4 ∧ 40 * x2 + x4 < 25600 := by omega
theorem la_load_29 {x0 x1 x2 x3 : Int} (h0 : x0 ≤ 40) (h1 : 0 ≤ x1) (h2 : x2 = x0) (h3 : x2 = x3) (h4 : ¬ x3 ≤ x1) : 0 ≤ 25560 + x1 ∧ 25560 + x1 < 25600 := by omega
theorem la_load_30 {x0 x1 x2 x3 : Int} (h0 : x0 ≤ 40) (h1 : x1 = x0) (h2 : x1 = x2) (h3 : ¬ x2 ≤ x3) : x3 < 40 := by omega
theorem la_load_31 {x0 x1 x2 : Int} (h0 : 1 ≤ x0) (h1 : x1 + 2 * x0 ≤ 500) (h2 : x2 < x1) : 40 * x2 + 40 ≤ 25560 ∨ 25560 + 40 ≤ 40 * x2 := by omega
theorem la_load_32 {x0 x1 x2 : Int} (h0 : x0 ≤ 40) (h1 : 0 ≤ x1) (h2 : x1 ≤ x2) (h3 : x2 = x0) : sv_R (x1 + 1) := by omega
theorem la_load_33 {x0 : Int} (h0 : 0 ≤ x0) : 0 ≤ x0 + 1 := by omega
theorem la_load_34 {x0 x1 x2 : Int} (h0 : x0 = x1) (h1 : ¬ x1 ≤ x2) : x2 + 1 ≤ x0 := by omega
theorem la_load_35 {x0 x1 : Int} : x0 - (x1 + 1) < x0 - x1 := by omega
theorem la_load_36 {x0 x1 x2 x3 x4 x5 : Int} (h0 : x0 + x1 ≤ 635000) (h1 : 465000 ≤ x2) (h2 : x2 + x3 ≤ x0) (h3 : 0 ≤ x1) (h4 : 0 ≤ x4) (h5 : x4 ≤ x5) (h6 : x5 = x3) : sv_R (x2 + x4) := by omega
theorem la_load_37 {x0 x1 x2 x3 x4 : Int} (h0 : x0 = 647340) (h1 : x1 = x2) (h2 : x2 ≤ 400) (h3 : 0 ≤ x3) (h4 : x3 ≤ x4) (h5 : x4 = x1) : sv_R (x0 + x3) := by omega
theorem la_load_38 {x0 x1 x2 x3 x4 x5 x6 x7 : Int} (h0 : x0 = 647340) (h1 : x1 + x2 ≤ 635000) (h2 : x3 = x4) (h3 : 465000 ≤ x5) (h4 : x5 + x3 ≤ x1) (h5 : x4 ≤ 400) (h6 : 0 ≤ x2) (h7 : 0 ≤ x6) (h8 : x6 ≤ x7) (h9 : x7 = x3) : 0 ≤ x5 + x6 ∧ x5 + x6 < 647800 ∧ 635639 ≤ x0 + x6 ∧ x0 + x6 < 647800 := by omega
theorem la_load_39 {x0 x1 : Int} (h0 : 0 ≤ x0) (h1 : sv_R x1) (h2 : ¬ x1 ≤ x0) : sv_R (x0 + 1) := by omega
theorem la_load_40 {x0 x1 x2 x3 x4 x5 : Int} (h0 : 0 ≤ x0) (h1 : x1 = x2) (h2 : x3 = x4) (h3 : ¬ x4 ≤ x0) (h4 : x5 = x1) : 0 ≤ x0 + 1 ∧ x0 + 1 ≤ x3 ∧ x5 = x2 := by omega
theorem la_load_41 {x0 x1 x2 : Int} (h0 : 0 ≤ x0) (h1 : x0 + x1 ≤ 464520) (h2 : 0 ≤ x2) (h3 : ¬ x1 ≤ x2) : sv_R (x0 + x2) := by omega
theorem la_load_42 {x0 x1 : Int} (h0 : x0 ≤ 11557) (h1 : 0 ≤ x1) (h2 : ¬ x0 ≤ x1) : sv_R (635640 + x1) := by omega
theorem la_load_43 {x0 x1 x2 : Int} (h0 : x0 ≤ 11557) (h1 : 0 ≤ x1) (h2 : x1 + x0 ≤ 464520) (h3 : 0 ≤ x2) (h4 : ¬ x0 ≤ x2) : 0 ≤ x1 + x2 ∧ x1 + x2 < 647800 ∧ 635639 ≤ 635640 + x2 ∧ 635640 + x2 < 647800 := by omega
theorem la_load_44 {x0 x1 : Int} (h0 : x0 ≤ 11557) (h1 : 0 ≤ x1) (h2 : ¬ x0 ≤ x1) : sv_R (x1 + 1) := by omega
theorem la_load_45 {x0 x1 x2 x3 x4 : Int} (h0 : 0 ≤ x0) (h1 : x1 = x2) (h2 : ¬ x3 ≤ x0) (h3 : x4 = x1) : 0 ≤ x0 + 1 ∧ x0 + 1 ≤ x3 ∧ x4 = x2 := by omega
set_option maxHeartbeats 2000000 in
theorem f_load : ∀ (p1 : Int) (S : sv_S), sm_ok S → sv_R p1 → (29 ≤ (S 1071 0) ∧ (S 1071 0) ≤ 127 ∧ 31 ≤ (S 1008 0) ∧ (S 1008 0) ≤ 90 ∧ 1 ≤ (S 1032 0) ∧ (S 1032 0) ≤ 11 ∧ 0 ≤ (S 1055 0) ∧ (S 1055 0) ≤ 19 ∧ (S 1071 0) = 29 + 6 * ((S 1032 0) - 1) + 2 * (S 1055 0) ∧ 0 ≤ (S 1046 0) ∧ (S 1046 0) + 2 * (S 1032 0) ≤ 500 ∧ sm_PD (S 1046 0) (S 1032 0) (S 1071 0) (S 1008 0) ∧ 0 ≤ (S 1071 0) * ((S 1008 0) + 1) ∧ (S 1071 0) * ((S 1008 0) + 1) ≤ 11557 ∧ 31 ≤ (S 1007 0) ∧ (S 1007 0) ≤ 400 ∧ sm_LN (S 4) 400 ∧ (S 75 639) = 647340 ∧ sm_ST (S 71) (S 74) (S 75) (S 78) (S 79) (S 80) (S 27) (S 1100007) (S 1100023) (S 1100024) (S 1046 0) ((S 1046 0) + 2 * (S 1032 0)) (S 1127 0) ∧ 465000 ≤ (S 1127 0) ∧ (S 1127 0) + sm_hs (S 71) (S 1100007) ≤ 635000 ∧ sm_NH (S 1100007) ∧ sm_CT (S 26) (S 27) (S 28) (S 29) (S 1100007) (S 1100023) (S 1100024) (S 1100025) (S 21) (S 1046 0) (S 1032 0) (S 1008 0) (S 1055 0) ∧ (∀ k : Int, (S 1046 0) ≤ k → k < ((S 1046 0) + 2 * (S 1032 0)) → (S 1100007 k) = 1) ∧ 0 ≤ p1 ∧ p1 < (S 1046 0) ∧ (S 71 p1) = 1) → ((sm_ST (S 71) (S 74) (S 75) (S 78) (S 79) (S 80) (S 27) (S 1100007) (S 1100023) (S 1100024) (S 1046 0) ((S 1046 0) + 2 * (S 1032 0)) (S 1127 0) → 0 ≤ p1 → p1 < ((S 1046 0) + 2 * (S 1032 0)) → (S 71 p1) = 1 → (S 74 p1) = (S 1100007 p1) ∧ 465000 ≤ (S 75 p1) ∧ (S 75 p1) + (S 74 p1) ≤ (S 1127 0) ∧ 0 ≤ (S 78 p1) ∧ (S 78 p1) ≤ 40 ∧ (p1 < (S 1046 0) → (S 78 p1) = sm_dp (S 1100024) (S 1100023 p1) ∧ sm_TC (S 79) (S 80) (S 27) (S 1100007) (S 1100023) (S 1100024) (40 * p1) (S 1100023 p1))) → ((sm_NH (S 1100007) → 0 ≤ p1 → p1 < 640 → 0 ≤ (S 1100007 p1) ∧ (S 1100007 p1) ≤ 400) → ((sm_CT (S 26) (S 27) (S 28) (S 29) (S 1100007) (S 1100023) (S 1100024) (S 1100025) (S 21) (S 1046 0) (S 1032 0) (S 1008 0) (S 1055 0) → 0 ≤ p1 → p1 < (S 1046 0) → -1 ≤ (S 1100023 p1) ∧ (S 1100023 p1) < p1 ∧ (0 ≤ (S 1100023 p1) → (S 26 (S 1100023 p1)) = 27)) → ((sm_NH (S 1100007) → 0 ≤ sm_hs (S 71) (S 1100007)) → (29 ≤ (S 1071 0) ∧ (S 1071 0) ≤ 127 ∧ 31 ≤ (S 1008 0) ∧ (S 1008 0) ≤ 90 ∧ 1 ≤ (S 1032 0) ∧ (S 1032 0) ≤ 11 ∧ 0 ≤ (S 1055 0) ∧ (S 1055 0) ≤ 19 ∧ (S 1071 0) = 29 + 6 * ((S 1032 0) - 1) + 2 * (S 1055 0) ∧ 0 ≤ (S 1046 0) ∧ (S 1046 0) + 2 * (S 1032 0) ≤ 500 ∧ sm_PD (S 1046 0) (S 1032 0) (S 1071 0) (S 1008 0) ∧ 0 ≤ (S 1071 0) * ((S 1008 0) + 1) ∧ (S 1071 0) * ((S 1008 0) + 1) ≤ 11557 ∧ 0 ≤ p1 ∧ (p1 = 639 ∨ p1 < (S 1046 0) + 2 * (S 1032 0))) ∧ (∀ r10 : Int, sv_R r10 → ((p1 = 639 → r10 = 635640) ∧ (¬ p1 = 639 → 0 ≤ r10 ∧ r10 + (S 1071 0) * ((S 1008 0) + 1) ≤ 464520)) → ((0 ≤ (0 : Int) ∧ (0 : Int) ≤ (S 1071 0) * ((S 1008 0) + 1) ∧ sm_pt (S 68) (S 69) (S 70) = sm_pt (S 68) (S 69) (S 70)) ∧ (∀ l3_12 : Int, sv_R l3_12 → ∀ g11 : sv_S, (0 ≤ l3_12 ∧ l3_12 ≤ (S 1071 0) * ((S 1008 0) + 1) ∧ sm_pt (g11 68) (g11 69) (g11 70) = sm_pt (S 68) (S 69) (S 70)) → (0 ≤ (S 1071 0) * ((S 1008 0) + 1) - l3_12) ∧ (sv_R (S 1071 0) → (sv_R (S 1008 0) → (sv_R ((S 1071 0) * ((S 1008 0) + (1 : Int)))) ∧ (((((S 1071 0) * ((S 1008 0) + (1 : Int))) ≤ l3_12) → (29 ≤ (S 1071 0) ∧ (S 1071 0) ≤ 127 ∧ 31 ≤ (S 1008 0) ∧ (S 1008 0) ≤ 90 ∧ 1 ≤ (S 1032 0) ∧ (S 1032 0) ≤ 11 ∧ 0 ≤ (S 1055 0) ∧ (S 1055 0) ≤ 19 ∧ (S 1071 0) = 29 + 6 * ((S 1032 0) - 1) + 2 * (S 1055 0) ∧ 0 ≤ (S 1046 0) ∧ (S 1046 0) + 2 * (S 1032 0) ≤ 500 ∧ sm_PD (S 1046 0) (S 1032 0) (S 1071 0) (S 1008 0) ∧ 0 ≤ (S 1071 0) * ((S 1008 0) + 1) ∧ (S 1071 0) * ((S 1008 0) + 1) ≤ 11557 ∧ 0 ≤ p1 ∧ p1 < ((S 1046 0) + 2 * (S 1032 0))) ∧ (∀ g22 : sv_S, (sm_pl (g22 81) (g22 82) (g22 83) (g22 84) (g22 85) (g22 86) = sm_pl (S 81) (S 82) (S 83) (S 84) (S 85) (S 86)) → (0 ≤ p1 ∧ p1 < 640) ∧ (sv_R (S 74 p1) → (0 ≤ (639 : Int) ∧ (639 : Int) < 640) ∧ ((0 ≤ (0 : Int) ∧ (0 : Int) ≤ (if p1 = (639 : Int) then (S 74 p1) else (S 74 p1)) ∧ sm_pt (g11 68) (g11 69) (g11 70) = sm_pt (S 68) (S 69) (S 70)) ∧ (∀ l3_33 : Int, sv_R l3_33 → ∀ g32 : sv_S, (0 ≤ l3_33 ∧ l3_33 ≤ (if p1 = (639 : Int) then (S 74 p1) else (S 74 p1)) ∧ sm_pt (g32 68) (g32 69) (g32 70) = sm_pt (S 68) (S 69) (S 70)) → (0 ≤ (if p1 = (639 : Int) then (S 74 p1) else (S 74 p1)) - l3_33) ∧ (∀ v39 : Int, (if p1 = (639 : Int) then (S 74 p1) else (S 74 p1)) = v39 → (sv_R v39 → (((v39 ≤ l3_33) → (sv_R (635000 + p1)) ∧ (sv_R (635000 + (639 : Int))) ∧ (0 ≤ (635000 + p1) ∧ (635000 + p1) < 647800 ∧ 635639 ≤ (635000 + (639 : Int)) ∧ (635000 + (639 : Int)) < 647800) ∧ (∀ g44 : sv_S, (sm_pt (g44 68) (g44 69) (g44 70) = sm_pt (g32 68) (g32 69) (g32 70)) → (sv_RL (S 76 p1) → (sv_RL (S 77 p1) → (sv_R (S 78 p1) → ((sm_CQ (S 79) (S 80) (S 79) (S 80) 25560 (40 * p1) 0) → ((0 ≤ (0 : Int) ∧ (0 : Int) ≤ (if p1 = (639 : Int) then (S 78 p1) else (S 78 p1)) ∧ sm_CQ (S 79) (S 80) (S 79) (S 80) 25560 (40 * p1) (0 : Int)) ∧ (∀ l3_61 : Int, sv_R l3_61 → ∀ g60 : sv_S, (0 ≤ l3_61 ∧ l3_61 ≤ (if p1 = (639 : Int) then (S 78 p1) else (S 78 p1)) ∧ sm_CQ (g60 79) (g60 80) (S 79) (S 80) 25560 (40 * p1) l3_61) → (0 ≤ (if p1 = (639 : Int) then (S 78 p1) else (S 78 p1)) - l3_61) ∧ (∀ v67 : Int, (if p1 = (639 : Int) then (S 78 p1) else (S 78 p1)) = v67 → (sv_R v67 → (((v67 ≤ l3_61) → (sv_R ((S 1100023 p1))) ∧ ((sm_CQ (g60 79) (g60 80) (S 79) (S 80) 25560 (40 * p1) l3_61 → sm_TC (S 79) (S 80) (S 27) (S 1100007) (S 1100023) (S 1100024) (40 * p1) (S 1100023 p1) → sm_dp (S 1100024) (S 1100023 p1) ≤ l3_61 → sm_TC (g60 79) (g60 80) (S 27) (S 1100007) (S 1100023) (S 1100024) 25560 (S 1100023 p1)) → ((sm_CQ (g60 79) (g60 80) (S 79) (S 80) 25560 (40 * p1) l3_61 → sm_F1 (S 79) (g60 79) 25560 ∧ sm_F1 (S 80) (g60 80) 25560) → (sm_pt (g44 68) (g44 69) (g44 70) = sm_pt (S 68) (S 69) (S 70) ∧ sm_pl (g22 81) (g22 82) (g22 83) (g22 84) (g22 85) (g22 86) = sm_pl (S 81) (S 82) (S 83) (S 84) (S 85) (S 86) ∧ sm_ps (fun i' : Int => if i' = (639 : Int) then (S 76 p1) else (S 76) i') (fun i' : Int => if i' = (639 : Int) then (S 77 p1) else (S 77) i') = sm_ps (S 76) (S 77) ∧ sm_ST (S 71) (fun i' : Int => if i' = (639 : Int) then (S 74 p1) else (S 74) i') (S 75) (fun i' : Int => if i' = (639 : Int) then (S 78 p1) else (S 78) i') (g60 79) (g60 80) (S 27) (S 1100007) (S 1100023) (S 1100024) (S 1046 0) ((S 1046 0) + 2 * (S 1032 0)) (S 1127 0) ∧ 0 ≤ (if 639 = (639 : Int) then (S 74 p1) else (S 74 639)) ∧ (if 639 = (639 : Int) then (S 74 p1) else (S 74 639)) ≤ 400 ∧ 0 ≤ (if 639 = (639 : Int) then (S 78 p1) else (S 78 639)) ∧ (if 639 = (639 : Int) then (S 78 p1) else (S 78 639)) ≤ 40 ∧ (if 639 = (639 : Int) then (S 78 p1) else (S 78 639)) = sm_dp (S 1100024) ((S 1100023 p1)) ∧ -1 ≤ ((S 1100023 p1)) ∧ ((S 1100023 p1)) < (S 1046 0) ∧ (0 ≤ ((S 1100023 p1)) → (S 26 ((S 1100023 p1))) = 27) ∧ sm_TC (g60 79) (g60 80) (S 27) (S 1100007) (S 1100023) (S 1100024) 25560 ((S 1100023 p1)) ∧ (if 639 = (639 : Int) then (S 74 p1) else (S 74 639)) = (S 1100007 p1) ∧ ((S 1100023 p1)) = (S 1100023 p1))))) ∧ ((¬ (v67 ≤ l3_61)) → (0 ≤ (((40 : Int) * p1) + l3_61) ∧ (((40 : Int) * p1) + l3_61) < 25600) ∧ (sv_R (g60 79 (((40 : Int) * p1) + l3_61)) → (0 ≤ ((25560 : Int) + l3_61) ∧ ((25560 : Int) + l3_61) < 25600) ∧ (sv_R (g60 80 (((40 : Int) * p1) + l3_61)) → ((sm_CQ (fun i' : Int => if i' = ((25560 : Int) + l3_61) then (g60 79 (((40 : Int) * p1) + l3_61)) else (g60 79) i') (fun i' : Int => if i' = ((25560 : Int) + l3_61) then (g60 80 (((40 : Int) * p1) + l3_61)) else (g60 80) i') (S 79) (S 80) 25560 (40 * p1) (l3_61 + 1) → True) → (sv_R (l3_61 + (1 : Int))) ∧ ((0 ≤ (l3_61 + (1 : Int)) ∧ (l3_61 + (1 : Int)) ≤ (if p1 = (639 : Int) then (S 78 p1) else (S 78 p1)) ∧ sm_CQ (fun i' : Int => if i' = ((25560 : Int) + l3_61) then (g60 79 (((40 : Int) * p1) + l3_61)) else (g60 79) i') (fun i' : Int => if i' = ((25560 : Int) + l3_61) then (g60 80 (((40 : Int) * p1) + l3_61)) else (g60 80) i') (S 79) (S 80) 25560 (40 * p1) (l3_61 + (1 : Int))) ∧ ((if p1 = (639 : Int) then (S 78 p1) else (S 78 p1)) - (l3_61 + (1 : Int))) < ((if p1 = (639 : Int) then (S 78 p1) else (S 78 p1)) - l3_61))))))))))))))))) ∧ ((¬ (v39 ≤ l3_33)) → (sv_R (S 75 p1) → (sv_R (S 75 (639 : Int)) → (sv_R ((S 75 p1) + l3_33)) ∧ (sv_R ((S 75 (639 : Int)) + l3_33)) ∧ (0 ≤ ((S 75 p1) + l3_33) ∧ ((S 75 p1) + l3_33) < 647800 ∧ 635639 ≤ ((S 75 (639 : Int)) + l3_33) ∧ ((S 75 (639 : Int)) + l3_33) < 647800) ∧ (∀ g91 : sv_S, (sm_pt (g91 68) (g91 69) (g91 70) = sm_pt (g32 68) (g32 69) (g32 70)) → (sv_R (l3_33 + (1 : Int))) ∧ ((0 ≤ (l3_33 + (1 : Int)) ∧ (l3_33 + (1 : Int)) ≤ (if p1 = (639 : Int) then (S 74 p1) else (S 74 p1)) ∧ sm_pt (g91 68) (g91 69) (g91 70) = sm_pt (S 68) (S 69) (S 70)) ∧ ((if p1 = (639 : Int) then (S 74 p1) else (S 74 p1)) - (l3_33 + (1 : Int))) < ((if p1 = (639 : Int) then (S 74 p1) else (S 74 p1)) - l3_33)))))))))))))) ∧ ((¬ (((S 1071 0) * ((S 1008 0) + (1 : Int))) ≤ l3_12)) → (sv_R (r10 + l3_12)) ∧ (sv_R ((635640 : Int) + l3_12)) ∧ (0 ≤ (r10 + l3_12) ∧ (r10 + l3_12) < 647800 ∧ 635639 ≤ ((635640 : Int) + l3_12) ∧ ((635640 : Int) + l3_12) < 647800) ∧ (∀ g101 : sv_S, (sm_pt (g101 68) (g101 69) (g101 70) = sm_pt (g11 68) (g11 69) (g11 70)) → (sv_R (l3_12 + (1 : Int))) ∧ ((0 ≤ (l3_12 + (1 : Int)) ∧ (l3_12 + (1 : Int)) ≤ (S 1071 0) * ((S 1008 0) + 1) ∧ sm_pt (g101 68) (g101 69) (g101 70) = sm_pt (S 68) (S 69) (S 70)) ∧ ((S 1071 0) * ((S 1008 0) + 1) - (l3_12 + (1 : Int))) < ((S 1071 0) * ((S 1008 0) + 1) - l3_12)))))))))))))) := by
  intro p1
  intro S
  intro h1_
  intro h2_
  rintro ⟨h3_, ⟨h4_, ⟨h5_, ⟨h6_, ⟨h7_, ⟨h8_, ⟨h9_, ⟨h10_, ⟨h11_, ⟨h12_, ⟨h13_, ⟨h14_, ⟨h15_, ⟨h16_, ⟨h17_, ⟨h18_, ⟨h19_, ⟨h20_, ⟨h21_, ⟨h22_, ⟨h23_, ⟨h24_, ⟨h25_, ⟨h26_, ⟨h27_, ⟨h28_, h29_⟩⟩⟩⟩⟩⟩⟩⟩⟩⟩⟩⟩⟩⟩⟩⟩⟩⟩⟩⟩⟩⟩⟩⟩⟩⟩
  intro h30_
  have h31_ := (h30_ h21_)
  have h32_ := (h31_ h27_)
  have h33_ := (h32_ (la_load_0 h7_ h28_))
  obtain ⟨h34_, ⟨h35_, ⟨h36_, ⟨h37_, ⟨h38_, h39_⟩⟩⟩⟩⟩ := (h33_ h29_)
  obtain ⟨h40_, h41_⟩ := (h39_ h28_)
  intro h42_
  have h43_ := (h42_ h24_)
  have h44_ := (h43_ h27_)
  obtain ⟨h45_, h46_⟩ := (h44_ (la_load_1 h7_ h13_ h28_))
  intro h47_
  have h48_ := (h47_ h25_)
  have h49_ := (h48_ h27_)
  obtain ⟨h50_, ⟨h51_, h52_⟩⟩ := (h49_ h28_)
  intro h53_
  have h54_ := (h53_ h24_)
  refine ⟨⟨h3_, ⟨h4_, ⟨h5_, ⟨h6_, ⟨h7_, ⟨h8_, ⟨h9_, ⟨h10_, ⟨h11_, ⟨h12_, ⟨h13_, ⟨h14_, (la_load_2 h7_ h13_ h15_ h16_ h27_ h28_)⟩⟩⟩⟩⟩⟩⟩⟩⟩⟩⟩⟩, ?_⟩
  intro r10
  intro h55_
  rintro ⟨h56_, h57_⟩
  obtain ⟨h58_, h59_⟩ := (h57_ (la_load_3 h7_ h13_ h28_))
  refine ⟨(la_load_4 h15_), ?_⟩
  intro l3_12
  intro h60_
  intro g11
  rintro ⟨h61_, ⟨h62_, h63_⟩⟩
  refine ⟨(la_load_5 h62_), ?_⟩
  intro h64_
  intro h65_
  refine ⟨(la_load_6 h15_ h16_), ?_⟩
  refine ⟨?_, ?_⟩
  · skip
    intro h66_
    refine ⟨⟨h3_, ⟨h4_, ⟨h5_, ⟨h6_, ⟨h7_, ⟨h8_, ⟨h9_, ⟨h10_, ⟨h11_, ⟨h12_, ⟨h13_, ⟨h14_, (la_load_7 h7_ h15_ h16_ h27_ h28_)⟩⟩⟩⟩⟩⟩⟩⟩⟩⟩⟩⟩, ?_⟩
    intro g22
    intro h67_
    refine ⟨(la_load_8 h7_ h13_ h27_ h28_), ?_⟩
    intro h68_
    refine ⟨la_load_9, ?_⟩
    refine ⟨?_, ?_⟩
    · skip
      refine ⟨la_load_10, ?_⟩
      refine ⟨?_, ?_⟩
      · skip
        have h69_ := (h26_ p1)
        have e70_ : (if p1 = 639 then S 74 p1 else S 74 p1 : Int) = S 74 p1 := if_neg (la_load_3 h7_ h13_ h28_)
        exact (la_load_12 h34_ h45_ e70_)
      exact h63_
    intro l3_33
    intro h71_
    intro g32
    rintro ⟨h72_, ⟨h73_, h74_⟩⟩
    have e75_ : (if p1 = 639 then S 74 p1 else S 74 p1 : Int) = S 74 p1 := if_neg (la_load_3 h7_ h13_ h28_)
    refine ⟨(la_load_5 h73_), ?_⟩
    intro v39
    intro h76_
    intro h77_
    refine ⟨?_, ?_⟩
    · skip
      intro h78_
      refine ⟨(la_load_13 h7_ h13_ h27_ h28_), ?_⟩
      refine ⟨la_load_14, ?_⟩
      refine ⟨(la_load_15 h7_ h13_ h27_ h28_), ?_⟩
      intro g44
      intro h79_
      intro h80_
      intro h81_
      intro h82_
      intro h83_
      refine ⟨?_, ?_⟩
      · skip
        refine ⟨la_load_10, ?_⟩
        refine ⟨?_, ?_⟩
        · skip
          have h84_ := (h26_ p1)
          have e85_ : (if p1 = 639 then S 78 p1 else S 78 p1 : Int) = S 78 p1 := if_neg (la_load_3 h7_ h13_ h28_)
          exact (la_load_16 h37_ e85_)
        exact h83_
      intro l3_61
      intro h86_
      intro g60
      rintro ⟨h87_, ⟨h88_, h89_⟩⟩
      have e90_ : (if p1 = 639 then S 78 p1 else S 78 p1 : Int) = S 78 p1 := if_neg (la_load_3 h7_ h13_ h28_)
      refine ⟨(la_load_5 h88_), ?_⟩
      intro v67
      intro h91_
      intro h92_
      refine ⟨?_, ?_⟩
      · skip
        intro h93_
        refine ⟨(la_load_17 h2_ h50_ h51_), ?_⟩
        intro h94_
        have h95_ := (h94_ h89_)
        have h96_ := (h95_ h41_)
        have h97_ := (h96_ (la_load_18 h40_ e90_ h91_ h93_))
        intro h98_
        obtain ⟨h99_, h100_⟩ := (h98_ h89_)
        refine ⟨(la_load_19 h74_ h79_), ?_⟩
        refine ⟨h67_, ?_⟩
        refine ⟨?_, ?_⟩
        · skip
          have e101_ : sm_ps (fun i' : Int => (if i' = 639 then S 76 p1 else (S 76) i')) (fun i' : Int => (if i' = 639 then S 77 p1 else (S 77) i')) = sm_ps (fun i' : Int => (if i' = 639 then S 76 p1 else (S 76) i')) (S 77) := sm_ps_B la_load_20
          have e102_ : sm_ps (fun i' : Int => (if i' = 639 then S 76 p1 else (S 76) i')) (S 77) = sm_ps (S 76) (S 77) := sm_ps_A la_load_20
          have h103_ := (h26_ p1)
          exact (la_load_21 e101_ e102_)
        refine ⟨(sm_ST_F h21_ (la_load_22 h13_) (sm_F1_up sm_F1_rf (Int.le_refl _)) sm_F1_rf (sm_F1_up sm_F1_rf (Int.le_refl _)) (sm_F1_le h99_ (Int.le_refl _)) (sm_F1_le h100_ (Int.le_refl _))), ?_⟩
        refine ⟨?_, ?_⟩
        · skip
          have h104_ := (h26_ p1)
          have e105_ : (if (639 : Int) = 639 then S 74 p1 else S 74 639 : Int) = S 74 p1 := if_pos la_load_23
          exact (la_load_12 h34_ h45_ e105_)
        refine ⟨?_, ?_⟩
        · skip
          have h106_ := (h26_ p1)
          have e107_ : (if (639 : Int) = 639 then S 74 p1 else S 74 639 : Int) = S 74 p1 := if_pos la_load_23
          exact (la_load_24 h34_ h46_ e107_)
        refine ⟨?_, ?_⟩
        · skip
          have h108_ := (h26_ p1)
          have e109_ : (if (639 : Int) = 639 then S 78 p1 else S 78 639 : Int) = S 78 p1 := if_pos la_load_23
          exact (la_load_16 h37_ e109_)
        refine ⟨?_, ?_⟩
        · skip
          have h110_ := (h26_ p1)
          have e111_ : (if (639 : Int) = 639 then S 78 p1 else S 78 639 : Int) = S 78 p1 := if_pos la_load_23
          exact (la_load_25 h38_ e111_)
        refine ⟨?_, ?_⟩
        · skip
          have h112_ := (h26_ p1)
          have e113_ : (if (639 : Int) = 639 then S 78 p1 else S 78 639 : Int) = S 78 p1 := if_pos la_load_23
          exact (la_load_19 h40_ e113_)
        refine ⟨h50_, ?_⟩
        refine ⟨(la_load_26 h28_ h51_), ?_⟩
        refine ⟨h52_, ?_⟩
        refine ⟨h97_, ?_⟩
        refine ⟨?_, ?_⟩
        · skip
          have h114_ := (h26_ p1)
          have e115_ : (if (639 : Int) = 639 then S 74 p1 else S 74 639 : Int) = S 74 p1 := if_pos la_load_23
          exact (la_load_19 h34_ e115_)
        exact la_load_27
      intro h116_
      refine ⟨(la_load_28 h7_ h13_ h27_ h28_ h38_ h87_ h88_ e90_), ?_⟩
      intro h117_
      refine ⟨(la_load_29 h38_ h87_ e90_ h91_ h116_), ?_⟩
      intro h118_
      intro h119_
      have h120_ := (h119_ (sm_CQ_up h89_ h87_ (la_load_30 h38_ e90_ h91_ h116_) (la_load_31 h7_ h13_ h28_) rfl rfl rfl rfl rfl))
      refine ⟨(la_load_32 h38_ h87_ h88_ e90_), ?_⟩
      refine ⟨⟨(la_load_33 h87_), ⟨(la_load_34 h91_ h116_), (sm_CQ_up h89_ h87_ (la_load_30 h38_ e90_ h91_ h116_) (la_load_31 h7_ h13_ h28_) rfl rfl rfl rfl rfl)⟩⟩, ?_⟩
      exact la_load_35
    intro h121_
    intro h122_
    intro h123_
    refine ⟨(la_load_36 h23_ h35_ h36_ h54_ h72_ h73_ e75_), ?_⟩
    refine ⟨(la_load_37 h20_ h34_ h46_ h72_ h73_ e75_), ?_⟩
    refine ⟨(la_load_38 h20_ h23_ h34_ h35_ h36_ h46_ h54_ h72_ h73_ e75_), ?_⟩
    intro g91
    intro h124_
    refine ⟨(la_load_39 h72_ h77_ h121_), ?_⟩
    refine ⟨(la_load_40 h72_ h74_ h76_ h121_ h124_), ?_⟩
    exact la_load_35
  intro h125_
  refine ⟨(la_load_41 h58_ h59_ h61_ h125_), ?_⟩
  refine ⟨(la_load_42 h16_ h61_ h125_), ?_⟩
  refine ⟨(la_load_43 h16_ h58_ h59_ h61_ h125_), ?_⟩
  intro g101
  intro h126_
  refine ⟨(la_load_44 h16_ h61_ h125_), ?_⟩
  refine ⟨(la_load_45 h61_ h63_ h125_ h126_), ?_⟩
  exact la_load_35
set_option maxRecDepth 8000 in
set_option maxHeartbeats 2000000 in
theorem t_load : ∀ (p1 : Int) (S : sv_S), sm_ok S → sv_R p1 → (29 ≤ (S 1071 0) ∧ (S 1071 0) ≤ 127 ∧ 31 ≤ (S 1008 0) ∧ (S 1008 0) ≤ 90 ∧ 1 ≤ (S 1032 0) ∧ (S 1032 0) ≤ 11 ∧ 0 ≤ (S 1055 0) ∧ (S 1055 0) ≤ 19 ∧ (S 1071 0) = 29 + 6 * ((S 1032 0) - 1) + 2 * (S 1055 0) ∧ 0 ≤ (S 1046 0) ∧ (S 1046 0) + 2 * (S 1032 0) ≤ 500 ∧ sm_PD (S 1046 0) (S 1032 0) (S 1071 0) (S 1008 0) ∧ 0 ≤ (S 1071 0) * ((S 1008 0) + 1) ∧ (S 1071 0) * ((S 1008 0) + 1) ≤ 11557 ∧ 31 ≤ (S 1007 0) ∧ (S 1007 0) ≤ 400 ∧ sm_LN (S 4) 400 ∧ (S 75 639) = 647340 ∧ sm_ST (S 71) (S 74) (S 75) (S 78) (S 79) (S 80) (S 27) (S 1100007) (S 1100023) (S 1100024) (S 1046 0) ((S 1046 0) + 2 * (S 1032 0)) (S 1127 0) ∧ 465000 ≤ (S 1127 0) ∧ (S 1127 0) + sm_hs (S 71) (S 1100007) ≤ 635000 ∧ sm_NH (S 1100007) ∧ sm_CT (S 26) (S 27) (S 28) (S 29) (S 1100007) (S 1100023) (S 1100024) (S 1100025) (S 21) (S 1046 0) (S 1032 0) (S 1008 0) (S 1055 0) ∧ (∀ k : Int, (S 1046 0) ≤ k → k < ((S 1046 0) + 2 * (S 1032 0)) → (S 1100007 k) = 1) ∧ 0 ≤ p1 ∧ p1 < (S 1046 0) ∧ (S 71 p1) = 1) → sv_T sm_XS sm_cs sm_L sm_sh 3 (q_load p1 S) 231 0 (lv_args 0 [.ref 0, sv_I p1]) [] S := by
  intro p1 S hok hp1 hpre
  have h := f_load p1 S hok hp1 hpre
  have hM := sm_h231
  show sv_T sm_XS sm_cs sm_L sm_sh 3 (q_load p1 S) 231 0 [(0, .ref 0), (1, sv_I p1)] [] S
  have k1 : (sm_ST (S 71) (S 74) (S 75) (S 78) (S 79) (S 80) (S 27) (S 1100007) (S 1100023) (S 1100024) (S 1046 0) ((S 1046 0) + 2 * (S 1032 0)) (S 1127 0) → 0 ≤ p1 → p1 < ((S 1046 0) + 2 * (S 1032 0)) → (S 71 p1) = 1 → (S 74 p1) = (S 1100007 p1) ∧ 465000 ≤ (S 75 p1) ∧ (S 75 p1) + (S 74 p1) ≤ (S 1127 0) ∧ 0 ≤ (S 78 p1) ∧ (S 78 p1) ≤ 40 ∧ (p1 < (S 1046 0) → (S 78 p1) = sm_dp (S 1100024) (S 1100023 p1) ∧ sm_TC (S 79) (S 80) (S 27) (S 1100007) (S 1100023) (S 1100024) (40 * p1) (S 1100023 p1))) := fun h h0 h1 h2 => sm_ST_at h p1 h0 h1 h2
  have h := h k1
  have k2 : (sm_NH (S 1100007) → 0 ≤ p1 → p1 < 640 → 0 ≤ (S 1100007 p1) ∧ (S 1100007 p1) ≤ 400) := fun h h0 h1 => sm_NH_at h p1 h0 h1
  have h := h k2
  have k3 : (sm_CT (S 26) (S 27) (S 28) (S 29) (S 1100007) (S 1100023) (S 1100024) (S 1100025) (S 21) (S 1046 0) (S 1032 0) (S 1008 0) (S 1055 0) → 0 ≤ p1 → p1 < (S 1046 0) → -1 ≤ (S 1100023 p1) ∧ (S 1100023 p1) < p1 ∧ (0 ≤ (S 1100023 p1) → (S 26 (S 1100023 p1)) = 27)) := fun h h0 h1 => ⟨(sm_ct_0 h p1 h0 h1).2.2.2.2.2.2.2.1, (sm_ct_0 h p1 h0 h1).2.2.2.2.2.2.2.2.1, fun q => (sm_ct_1 h p1 h0 h1 q).1⟩
  have h := h k3
  have k4 : (sm_NH (S 1100007) → 0 ≤ sm_hs (S 71) (S 1100007)) := sm_hs_0
  have h := h k4
  refine sv_aload_n hM dX12_load_0 rfl rfl ?_
  refine sv_iload_n hM dX12_load_1 rfl rfl ?_
  obtain ⟨o5, h⟩ := h
  refine sv_callV hM dX12_load_2 sm_iv_1085 (by decide) (sm_a0 _) rfl rfl (Nat.le_of_ble_eq_true rfl) sm_h223 (Nat.le_of_ble_eq_true rfl) (Nat.le_of_ble_eq_true rfl) (F' := 0) (Nat.le_of_ble_eq_true rfl) rfl (t_fieldsAt p1 S hok hp1 o5) (fun v S1 hq => ?_)
  obtain ⟨r10, rfl, hr10, ok7, md8, hpo9⟩ := hq
  obtain rfl : S = S1 := (funext fun j => md8 j (by intro q; cases q)).symm
  show sv_T sm_XS sm_cs sm_L sm_sh 3 (q_load p1 S) 231 5 [(0, .ref 0), (1, sv_I p1)] [sv_I r10] S
  have h := h r10 hr10 hpo9
  refine sv_istore_n hM dX12_load_5 (by decide) rfl ?_
  show sv_T sm_XS sm_cs sm_L sm_sh 3 (q_load p1 S) 231 6 [(0, .ref 0), (1, sv_I p1), (2, sv_I r10)] [] S
  refine sv_iconst (d := (0 : Int)) hM dX12_load_6 rfl rfl ?_
  refine sv_istore_n hM dX12_load_7 (by decide) rfl ?_
  show sv_T sm_XS sm_cs sm_L sm_sh 3 (q_load p1 S) 231 8 [(0, .ref 0), (1, sv_I p1), (2, sv_I r10), (3, sv_I (0 : Int))] [] S
  obtain ⟨hin14, h⟩ := h
  have hJ : ∀ a : Int × sv_S, (sv_R a.1 ∧ sm_ok (sv_sts S [68, 69, 70] a.2) ∧ (0 ≤ a.1 ∧ a.1 ≤ (S 1071 0) * ((S 1008 0) + 1) ∧ sm_pt (a.2 68) (a.2 69) (a.2 70) = sm_pt (S 68) (S 69) (S 70))) → sv_T sm_XS sm_cs sm_L sm_sh 3 (q_load p1 S) 231 8 [(0, .ref 0), (1, sv_I p1), (2, sv_I r10), (3, sv_I a.1)] [] (sv_sts S [68, 69, 70] a.2) := by
    refine sv_loop (α := Int × sv_S) (fun a => sv_R a.1 ∧ sm_ok (sv_sts S [68, 69, 70] a.2) ∧ (0 ≤ a.1 ∧ a.1 ≤ (S 1071 0) * ((S 1008 0) + 1) ∧ sm_pt (a.2 68) (a.2 69) (a.2 70) = sm_pt (S 68) (S 69) (S 70))) (fun a => (S 1071 0) * ((S 1008 0) + 1) - a.1) (fun a => sv_T sm_XS sm_cs sm_L sm_sh 3 (q_load p1 S) 231 8 [(0, .ref 0), (1, sv_I p1), (2, sv_I r10), (3, sv_I a.1)] [] (sv_sts S [68, 69, 70] a.2)) (fun a q => (h a.1 q.1 a.2 q.2.2).1) (fun a q ih13 => ?_)
    obtain ⟨l3_12, g11⟩ := a
    obtain ⟨hl3_12, ok15, hin14i⟩ := q
    have h := (h l3_12 hl3_12 g11 hin14i).2
    show sv_T sm_XS sm_cs sm_L sm_sh 3 (q_load p1 S) 231 8 [(0, .ref 0), (1, sv_I p1), (2, sv_I r10), (3, sv_I l3_12)] [] (sv_sts S [68, 69, 70] g11)
    have md16 : sv_mod [68, 69, 70, 81, 82, 83, 84, 85, 86, 74, 78, 79, 80, 76, 77, 1100031] S (sv_sts S [68, 69, 70] g11) := sv_mod.sts sv_mod.rf (by decide)
    have md17 : sv_mod [68, 69, 70] S (sv_sts S [68, 69, 70] g11) := sv_mod.sts sv_mod.rf (by decide)
    refine sv_iload_n hM dX12_load_8 rfl rfl ?_
    refine sv_aload_n hM dX12_load_9 rfl rfl ?_
    have k18 : sv_R (S 1071 0) := sm_okI ok15 sm_r1071 0
    have h := h k18
    refine sv_getI hM dX12_load_10 sm_fl_765 (sm_a0 _) sm_k71 rfl (x := (S 1071 0)) rfl ?_
    refine sv_aload_n hM dX12_load_13 rfl rfl ?_
    have k19 : sv_R (S 1008 0) := sm_okI ok15 sm_r1008 0
    have h := h k19
    refine sv_getI hM dX12_load_14 sm_fl_762 (sm_a0 _) sm_k8 rfl (x := (S 1008 0)) rfl ?_
    refine sv_iconst (d := (1 : Int)) hM dX12_load_17 rfl rfl ?_
    refine sv_iadd hM dX12_load_18 rfl ?_
    refine sv_imul hM dX12_load_19 rfl ?_
    obtain ⟨o20, h⟩ := h
    refine sv_icmp_ge hM dX12_load_20 hl3_12 o20 (t := 41) rfl rfl (fun hc => ?_) (fun hc => ?_)
    · have h := h.1 (hc)
      refine sv_aload_n hM dX12_load_41 rfl rfl ?_
      refine sv_iload_n hM dX12_load_42 rfl rfl ?_
      obtain ⟨o21, h⟩ := h
      refine sv_callV hM dX12_load_43 sm_iv_1095 (by decide) (sm_a0 _) rfl rfl (Nat.le_of_ble_eq_true rfl) sm_h232 (Nat.le_of_ble_eq_true rfl) (Nat.le_of_ble_eq_true rfl) (F' := 2) (Nat.le_of_ble_eq_true rfl) rfl (t_loadRest p1 (sv_sts S [68, 69, 70] g11) ok15 hp1 o21) (fun v S1 hq => ?_)
      obtain ⟨rfl, ok23, md24, hpo25⟩ := hq
      obtain ⟨g22, rfl⟩ : ∃ g, S1 = sv_sts (sv_sts S [68, 69, 70] g11) [81, 82, 83, 84, 85, 86] g := ⟨_, md24.eq⟩
      show sv_T sm_XS sm_cs sm_L sm_sh 3 (q_load p1 S) 231 46 [(0, .ref 0), (1, sv_I p1), (2, sv_I r10), (3, sv_I l3_12)] [] (sv_sts (sv_sts S [68, 69, 70] g11) [81, 82, 83, 84, 85, 86] g22)
      have md26 : sv_mod [68, 69, 70, 81, 82, 83, 84, 85, 86, 74, 78, 79, 80, 76, 77, 1100031] S (sv_sts (sv_sts S [68, 69, 70] g11) [81, 82, 83, 84, 85, 86] g22) := sv_mod.sts md16 (by decide)
      have h := h g22 hpo25
      refine sv_aload_n hM dX12_load_46 rfl rfl ?_
      refine sv_getA hM dX12_load_47 sm_fl_235 (sm_a0 _) sm_k125 rfl ?_
      refine sv_sipush (d := (639 : Int)) hM dX12_load_50 rfl rfl ?_
      refine sv_aload_n hM dX12_load_53 rfl rfl ?_
      refine sv_getA hM dX12_load_54 sm_fl_235 (sm_a0 _) sm_k125 rfl ?_
      refine sv_iload_n hM dX12_load_57 rfl rfl ?_
      obtain ⟨o27, h⟩ := h
      have k28 : sv_R (S 74 p1) := sm_okI ok23 sm_r74 p1
      have h := h k28
      refine sv_iald hM dX12_load_58 (sm_a74 _) (by decide) o27.1 o27.2 rfl (x := (S 74 p1)) rfl ?_
      obtain ⟨o29, h⟩ := h
      refine sv_iast sm_X hM dX12_load_59 (sm_a74 _) (by decide) o29.1 o29.2 rfl ?_
      have ok30 : sm_ok (sv_up (sv_sts (sv_sts S [68, 69, 70] g11) [81, 82, 83, 84, 85, 86] g22) 74 (639 : Int) (S 74 p1)) := sm_upI ok23 sm_r74 k28
      have md31 : sv_mod [68, 69, 70, 81, 82, 83, 84, 85, 86, 74, 78, 79, 80, 76, 77, 1100031] S (sv_up (sv_sts (sv_sts S [68, 69, 70] g11) [81, 82, 83, 84, 85, 86] g22) 74 (639 : Int) (S 74 p1)) := sv_mod.up md26 (by decide)
      refine sv_iconst (d := (0 : Int)) hM dX12_load_60 rfl rfl ?_
      refine sv_istore_n hM dX12_load_61 (by decide) rfl ?_
      show sv_T sm_XS sm_cs sm_L sm_sh 3 (q_load p1 S) 231 62 [(0, .ref 0), (1, sv_I p1), (2, sv_I r10), (3, sv_I (0 : Int))] [] (sv_up (sv_sts (sv_sts S [68, 69, 70] g11) [81, 82, 83, 84, 85, 86] g22) 74 (639 : Int) (S 74 p1))
      obtain ⟨hin35, h⟩ := h
      have hJ : ∀ a : Int × sv_S, (sv_R a.1 ∧ sm_ok (sv_sts (sv_up (sv_sts (sv_sts S [68, 69, 70] g11) [81, 82, 83, 84, 85, 86] g22) 74 (639 : Int) (S 74 p1)) [68, 69, 70] a.2) ∧ (0 ≤ a.1 ∧ a.1 ≤ (if p1 = (639 : Int) then (S 74 p1) else (S 74 p1)) ∧ sm_pt (a.2 68) (a.2 69) (a.2 70) = sm_pt (S 68) (S 69) (S 70))) → sv_T sm_XS sm_cs sm_L sm_sh 3 (q_load p1 S) 231 62 [(0, .ref 0), (1, sv_I p1), (2, sv_I r10), (3, sv_I a.1)] [] (sv_sts (sv_up (sv_sts (sv_sts S [68, 69, 70] g11) [81, 82, 83, 84, 85, 86] g22) 74 (639 : Int) (S 74 p1)) [68, 69, 70] a.2) := by
        refine sv_loop (α := Int × sv_S) (fun a => sv_R a.1 ∧ sm_ok (sv_sts (sv_up (sv_sts (sv_sts S [68, 69, 70] g11) [81, 82, 83, 84, 85, 86] g22) 74 (639 : Int) (S 74 p1)) [68, 69, 70] a.2) ∧ (0 ≤ a.1 ∧ a.1 ≤ (if p1 = (639 : Int) then (S 74 p1) else (S 74 p1)) ∧ sm_pt (a.2 68) (a.2 69) (a.2 70) = sm_pt (S 68) (S 69) (S 70))) (fun a => (if p1 = (639 : Int) then (S 74 p1) else (S 74 p1)) - a.1) (fun a => sv_T sm_XS sm_cs sm_L sm_sh 3 (q_load p1 S) 231 62 [(0, .ref 0), (1, sv_I p1), (2, sv_I r10), (3, sv_I a.1)] [] (sv_sts (sv_up (sv_sts (sv_sts S [68, 69, 70] g11) [81, 82, 83, 84, 85, 86] g22) 74 (639 : Int) (S 74 p1)) [68, 69, 70] a.2)) (fun a q => (h a.1 q.1 a.2 q.2.2).1) (fun a q ih34 => ?_)
        obtain ⟨l3_33, g32⟩ := a
        obtain ⟨hl3_33, ok36, hin35i⟩ := q
        have h := (h l3_33 hl3_33 g32 hin35i).2
        show sv_T sm_XS sm_cs sm_L sm_sh 3 (q_load p1 S) 231 62 [(0, .ref 0), (1, sv_I p1), (2, sv_I r10), (3, sv_I l3_33)] [] (sv_sts (sv_up (sv_sts (sv_sts S [68, 69, 70] g11) [81, 82, 83, 84, 85, 86] g22) 74 (639 : Int) (S 74 p1)) [68, 69, 70] g32)
        have md37 : sv_mod [68, 69, 70, 81, 82, 83, 84, 85, 86, 74, 78, 79, 80, 76, 77, 1100031] S (sv_sts (sv_up (sv_sts (sv_sts S [68, 69, 70] g11) [81, 82, 83, 84, 85, 86] g22) 74 (639 : Int) (S 74 p1)) [68, 69, 70] g32) := sv_mod.sts md31 (by decide)
        have md38 : sv_mod [68, 69, 70] (sv_up (sv_sts (sv_sts S [68, 69, 70] g11) [81, 82, 83, 84, 85, 86] g22) 74 (639 : Int) (S 74 p1)) (sv_sts (sv_up (sv_sts (sv_sts S [68, 69, 70] g11) [81, 82, 83, 84, 85, 86] g22) 74 (639 : Int) (S 74 p1)) [68, 69, 70] g32) := sv_mod.sts sv_mod.rf (by decide)
        refine sv_iload_n hM dX12_load_62 rfl rfl ?_
        refine sv_aload_n hM dX12_load_63 rfl rfl ?_
        refine sv_getA hM dX12_load_64 sm_fl_235 (sm_a0 _) sm_k125 rfl ?_
        refine sv_iload_n hM dX12_load_67 rfl rfl ?_
        obtain ⟨v39, ev39⟩ : ∃ x : Int, (if p1 = (639 : Int) then (S 74 p1) else (S 74 p1)) = x := ⟨_, rfl⟩
        have h := h v39 ev39
        have k40 : sv_R v39 := ev39 ▸ (sm_okI ok36 sm_r74 p1)
        have h := h k40
        refine sv_iald hM dX12_load_68 (sm_a74 _) (by decide) o27.1 o27.2 rfl (x := v39) ev39 ?_
        refine sv_icmp_ge hM dX12_load_69 hl3_33 k40 (t := 100) rfl rfl (fun hc => ?_) (fun hc => ?_)
        · have h := h.1 (hc)
          refine sv_aload_n hM dX12_load_100 rfl rfl ?_
          refine sv_aload_n hM dX12_load_101 rfl rfl ?_
          refine sv_iload_n hM dX12_load_102 rfl rfl ?_
          refine sv_callV hM dX12_load_103 sm_iv_1098 (by decide) (sm_a0 _) rfl rfl (Nat.le_of_ble_eq_true rfl) sm_h227 (Nat.le_of_ble_eq_true rfl) (Nat.le_of_ble_eq_true rfl) (F' := 0) (Nat.le_of_ble_eq_true rfl) rfl (t_thisAt p1 (sv_sts (sv_up (sv_sts (sv_sts S [68, 69, 70] g11) [81, 82, 83, 84, 85, 86] g22) 74 (639 : Int) (S 74 p1)) [68, 69, 70] g32) ok36 hp1) (fun v S1 hq => ?_)
          obtain ⟨rfl, hS1⟩ := hq
          obtain rfl : (sv_sts (sv_up (sv_sts (sv_sts S [68, 69, 70] g11) [81, 82, 83, 84, 85, 86] g22) 74 (639 : Int) (S 74 p1)) [68, 69, 70] g32) = S1 := hS1.symm
          show sv_T sm_XS sm_cs sm_L sm_sh 3 (q_load p1 S) 231 106 [(0, .ref 0), (1, sv_I p1), (2, sv_I r10), (3, sv_I l3_33)] [sv_I (635000 + p1), .ref 0] (sv_sts (sv_up (sv_sts (sv_sts S [68, 69, 70] g11) [81, 82, 83, 84, 85, 86] g22) 74 (639 : Int) (S 74 p1)) [68, 69, 70] g32)
          refine sv_aload_n hM dX12_load_106 rfl rfl ?_
          refine sv_sipush (d := (639 : Int)) hM dX12_load_107 rfl rfl ?_
          refine sv_callV hM dX12_load_110 sm_iv_1098 (by decide) (sm_a0 _) rfl rfl (Nat.le_of_ble_eq_true rfl) sm_h227 (Nat.le_of_ble_eq_true rfl) (Nat.le_of_ble_eq_true rfl) (F' := 0) (Nat.le_of_ble_eq_true rfl) rfl (t_thisAt (639 : Int) (sv_sts (sv_up (sv_sts (sv_sts S [68, 69, 70] g11) [81, 82, 83, 84, 85, 86] g22) 74 (639 : Int) (S 74 p1)) [68, 69, 70] g32) ok36 (⟨by decide, by decide⟩ : sv_R (639 : Int))) (fun v S1 hq => ?_)
          obtain ⟨rfl, hS1⟩ := hq
          obtain rfl : (sv_sts (sv_up (sv_sts (sv_sts S [68, 69, 70] g11) [81, 82, 83, 84, 85, 86] g22) 74 (639 : Int) (S 74 p1)) [68, 69, 70] g32) = S1 := hS1.symm
          show sv_T sm_XS sm_cs sm_L sm_sh 3 (q_load p1 S) 231 113 [(0, .ref 0), (1, sv_I p1), (2, sv_I r10), (3, sv_I l3_33)] [sv_I (635000 + (639 : Int)), sv_I (635000 + p1), .ref 0] (sv_sts (sv_up (sv_sts (sv_sts S [68, 69, 70] g11) [81, 82, 83, 84, 85, 86] g22) 74 (639 : Int) (S 74 p1)) [68, 69, 70] g32)
          obtain ⟨o41, h⟩ := h
          obtain ⟨o42, h⟩ := h
          obtain ⟨o43, h⟩ := h
          refine sv_callV hM dX12_load_113 sm_iv_1092 (by decide) (sm_a0 _) rfl rfl (Nat.le_of_ble_eq_true rfl) sm_h207 (Nat.le_of_ble_eq_true rfl) (Nat.le_of_ble_eq_true rfl) (F' := 0) (Nat.le_of_ble_eq_true rfl) rfl (t_copySet (635000 + p1) (635000 + (639 : Int)) (sv_sts (sv_up (sv_sts (sv_sts S [68, 69, 70] g11) [81, 82, 83, 84, 85, 86] g22) 74 (639 : Int) (S 74 p1)) [68, 69, 70] g32) ok36 o41 o42 o43) (fun v S1 hq => ?_)
          obtain ⟨rfl, ok45, md46, hpo47⟩ := hq
          obtain ⟨g44, rfl⟩ : ∃ g, S1 = sv_sts (sv_sts (sv_up (sv_sts (sv_sts S [68, 69, 70] g11) [81, 82, 83, 84, 85, 86] g22) 74 (639 : Int) (S 74 p1)) [68, 69, 70] g32) [68, 69, 70] g := ⟨_, md46.eq⟩
          show sv_T sm_XS sm_cs sm_L sm_sh 3 (q_load p1 S) 231 116 [(0, .ref 0), (1, sv_I p1), (2, sv_I r10), (3, sv_I l3_33)] [] (sv_sts (sv_sts (sv_up (sv_sts (sv_sts S [68, 69, 70] g11) [81, 82, 83, 84, 85, 86] g22) 74 (639 : Int) (S 74 p1)) [68, 69, 70] g32) [68, 69, 70] g44)
          have md48 : sv_mod [68, 69, 70, 81, 82, 83, 84, 85, 86, 74, 78, 79, 80, 76, 77, 1100031] S (sv_sts (sv_sts (sv_up (sv_sts (sv_sts S [68, 69, 70] g11) [81, 82, 83, 84, 85, 86] g22) 74 (639 : Int) (S 74 p1)) [68, 69, 70] g32) [68, 69, 70] g44) := sv_mod.sts md37 (by decide)
          have md49 : sv_mod [68, 69, 70] (sv_up (sv_sts (sv_sts S [68, 69, 70] g11) [81, 82, 83, 84, 85, 86] g22) 74 (639 : Int) (S 74 p1)) (sv_sts (sv_sts (sv_up (sv_sts (sv_sts S [68, 69, 70] g11) [81, 82, 83, 84, 85, 86] g22) 74 (639 : Int) (S 74 p1)) [68, 69, 70] g32) [68, 69, 70] g44) := sv_mod.sts md38 (by decide)
          have h := h g44 hpo47
          refine sv_aload_n hM dX12_load_116 rfl rfl ?_
          refine sv_getA hM dX12_load_117 sm_fl_241 (sm_a0 _) sm_k128 rfl ?_
          refine sv_sipush (d := (639 : Int)) hM dX12_load_120 rfl rfl ?_
          refine sv_aload_n hM dX12_load_123 rfl rfl ?_
          refine sv_getA hM dX12_load_124 sm_fl_241 (sm_a0 _) sm_k128 rfl ?_
          refine sv_iload_n hM dX12_load_127 rfl rfl ?_
          have k50 : sv_RL (S 76 p1) := sm_okJ ok45 sm_r76 p1
          have h := h k50
          refine sv_lald hM dX12_load_128 (sm_a76 _) (by decide) o27.1 o27.2 rfl (x := (S 76 p1)) rfl ?_
          refine sv_last sm_X hM dX12_load_129 (sm_a76 _) (by decide) o29.1 o29.2 rfl ?_
          have ok51 : sm_ok (sv_up (sv_sts (sv_sts (sv_up (sv_sts (sv_sts S [68, 69, 70] g11) [81, 82, 83, 84, 85, 86] g22) 74 (639 : Int) (S 74 p1)) [68, 69, 70] g32) [68, 69, 70] g44) 76 (639 : Int) (S 76 p1)) := sm_upJ ok45 sm_r76 k50
          have md52 : sv_mod [68, 69, 70, 81, 82, 83, 84, 85, 86, 74, 78, 79, 80, 76, 77, 1100031] S (sv_up (sv_sts (sv_sts (sv_up (sv_sts (sv_sts S [68, 69, 70] g11) [81, 82, 83, 84, 85, 86] g22) 74 (639 : Int) (S 74 p1)) [68, 69, 70] g32) [68, 69, 70] g44) 76 (639 : Int) (S 76 p1)) := sv_mod.up md48 (by decide)
          refine sv_aload_n hM dX12_load_130 rfl rfl ?_
          refine sv_getA hM dX12_load_131 sm_fl_244 (sm_a0 _) sm_k129 rfl ?_
          refine sv_sipush (d := (639 : Int)) hM dX12_load_134 rfl rfl ?_
          refine sv_aload_n hM dX12_load_137 rfl rfl ?_
          refine sv_getA hM dX12_load_138 sm_fl_244 (sm_a0 _) sm_k129 rfl ?_
          refine sv_iload_n hM dX12_load_141 rfl rfl ?_
          have k53 : sv_RL (S 77 p1) := sm_okJ ok51 sm_r77 p1
          have h := h k53
          refine sv_lald hM dX12_load_142 (sm_a77 _) (by decide) o27.1 o27.2 rfl (x := (S 77 p1)) rfl ?_
          refine sv_last sm_X hM dX12_load_143 (sm_a77 _) (by decide) o29.1 o29.2 rfl ?_
          have ok54 : sm_ok (sv_up (sv_up (sv_sts (sv_sts (sv_up (sv_sts (sv_sts S [68, 69, 70] g11) [81, 82, 83, 84, 85, 86] g22) 74 (639 : Int) (S 74 p1)) [68, 69, 70] g32) [68, 69, 70] g44) 76 (639 : Int) (S 76 p1)) 77 (639 : Int) (S 77 p1)) := sm_upJ ok51 sm_r77 k53
          have md55 : sv_mod [68, 69, 70, 81, 82, 83, 84, 85, 86, 74, 78, 79, 80, 76, 77, 1100031] S (sv_up (sv_up (sv_sts (sv_sts (sv_up (sv_sts (sv_sts S [68, 69, 70] g11) [81, 82, 83, 84, 85, 86] g22) 74 (639 : Int) (S 74 p1)) [68, 69, 70] g32) [68, 69, 70] g44) 76 (639 : Int) (S 76 p1)) 77 (639 : Int) (S 77 p1)) := sv_mod.up md52 (by decide)
          refine sv_aload_n hM dX12_load_144 rfl rfl ?_
          refine sv_getA hM dX12_load_145 sm_fl_247 (sm_a0 _) sm_k130 rfl ?_
          refine sv_sipush (d := (639 : Int)) hM dX12_load_148 rfl rfl ?_
          refine sv_aload_n hM dX12_load_151 rfl rfl ?_
          refine sv_getA hM dX12_load_152 sm_fl_247 (sm_a0 _) sm_k130 rfl ?_
          refine sv_iload_n hM dX12_load_155 rfl rfl ?_
          have k56 : sv_R (S 78 p1) := sm_okI ok54 sm_r78 p1
          have h := h k56
          refine sv_iald hM dX12_load_156 (sm_a78 _) (by decide) o27.1 o27.2 rfl (x := (S 78 p1)) rfl ?_
          refine sv_iast sm_X hM dX12_load_157 (sm_a78 _) (by decide) o29.1 o29.2 rfl ?_
          have ok57 : sm_ok (sv_up (sv_up (sv_up (sv_sts (sv_sts (sv_up (sv_sts (sv_sts S [68, 69, 70] g11) [81, 82, 83, 84, 85, 86] g22) 74 (639 : Int) (S 74 p1)) [68, 69, 70] g32) [68, 69, 70] g44) 76 (639 : Int) (S 76 p1)) 77 (639 : Int) (S 77 p1)) 78 (639 : Int) (S 78 p1)) := sm_upI ok54 sm_r78 k56
          have md58 : sv_mod [68, 69, 70, 81, 82, 83, 84, 85, 86, 74, 78, 79, 80, 76, 77, 1100031] S (sv_up (sv_up (sv_up (sv_sts (sv_sts (sv_up (sv_sts (sv_sts S [68, 69, 70] g11) [81, 82, 83, 84, 85, 86] g22) 74 (639 : Int) (S 74 p1)) [68, 69, 70] g32) [68, 69, 70] g44) 76 (639 : Int) (S 76 p1)) 77 (639 : Int) (S 77 p1)) 78 (639 : Int) (S 78 p1)) := sv_mod.up md55 (by decide)
          have k59 : (sm_CQ (S 79) (S 80) (S 79) (S 80) 25560 (40 * p1) 0) := sm_CQ_0 rfl
          have h := h k59
          refine sv_iconst (d := (0 : Int)) hM dX12_load_158 rfl rfl ?_
          refine sv_istore_n hM dX12_load_159 (by decide) rfl ?_
          show sv_T sm_XS sm_cs sm_L sm_sh 3 (q_load p1 S) 231 160 [(0, .ref 0), (1, sv_I p1), (2, sv_I r10), (3, sv_I (0 : Int))] [] (sv_up (sv_up (sv_up (sv_sts (sv_sts (sv_up (sv_sts (sv_sts S [68, 69, 70] g11) [81, 82, 83, 84, 85, 86] g22) 74 (639 : Int) (S 74 p1)) [68, 69, 70] g32) [68, 69, 70] g44) 76 (639 : Int) (S 76 p1)) 77 (639 : Int) (S 77 p1)) 78 (639 : Int) (S 78 p1))
          obtain ⟨hin63, h⟩ := h
          have hJ : ∀ a : Int × sv_S, (sv_R a.1 ∧ sm_ok (sv_sts (sv_up (sv_up (sv_up (sv_sts (sv_sts (sv_up (sv_sts (sv_sts S [68, 69, 70] g11) [81, 82, 83, 84, 85, 86] g22) 74 (639 : Int) (S 74 p1)) [68, 69, 70] g32) [68, 69, 70] g44) 76 (639 : Int) (S 76 p1)) 77 (639 : Int) (S 77 p1)) 78 (639 : Int) (S 78 p1)) [79, 80] a.2) ∧ (0 ≤ a.1 ∧ a.1 ≤ (if p1 = (639 : Int) then (S 78 p1) else (S 78 p1)) ∧ sm_CQ (a.2 79) (a.2 80) (S 79) (S 80) 25560 (40 * p1) a.1)) → sv_T sm_XS sm_cs sm_L sm_sh 3 (q_load p1 S) 231 160 [(0, .ref 0), (1, sv_I p1), (2, sv_I r10), (3, sv_I a.1)] [] (sv_sts (sv_up (sv_up (sv_up (sv_sts (sv_sts (sv_up (sv_sts (sv_sts S [68, 69, 70] g11) [81, 82, 83, 84, 85, 86] g22) 74 (639 : Int) (S 74 p1)) [68, 69, 70] g32) [68, 69, 70] g44) 76 (639 : Int) (S 76 p1)) 77 (639 : Int) (S 77 p1)) 78 (639 : Int) (S 78 p1)) [79, 80] a.2) := by
            refine sv_loop (α := Int × sv_S) (fun a => sv_R a.1 ∧ sm_ok (sv_sts (sv_up (sv_up (sv_up (sv_sts (sv_sts (sv_up (sv_sts (sv_sts S [68, 69, 70] g11) [81, 82, 83, 84, 85, 86] g22) 74 (639 : Int) (S 74 p1)) [68, 69, 70] g32) [68, 69, 70] g44) 76 (639 : Int) (S 76 p1)) 77 (639 : Int) (S 77 p1)) 78 (639 : Int) (S 78 p1)) [79, 80] a.2) ∧ (0 ≤ a.1 ∧ a.1 ≤ (if p1 = (639 : Int) then (S 78 p1) else (S 78 p1)) ∧ sm_CQ (a.2 79) (a.2 80) (S 79) (S 80) 25560 (40 * p1) a.1)) (fun a => (if p1 = (639 : Int) then (S 78 p1) else (S 78 p1)) - a.1) (fun a => sv_T sm_XS sm_cs sm_L sm_sh 3 (q_load p1 S) 231 160 [(0, .ref 0), (1, sv_I p1), (2, sv_I r10), (3, sv_I a.1)] [] (sv_sts (sv_up (sv_up (sv_up (sv_sts (sv_sts (sv_up (sv_sts (sv_sts S [68, 69, 70] g11) [81, 82, 83, 84, 85, 86] g22) 74 (639 : Int) (S 74 p1)) [68, 69, 70] g32) [68, 69, 70] g44) 76 (639 : Int) (S 76 p1)) 77 (639 : Int) (S 77 p1)) 78 (639 : Int) (S 78 p1)) [79, 80] a.2)) (fun a q => (h a.1 q.1 a.2 q.2.2).1) (fun a q ih62 => ?_)
            obtain ⟨l3_61, g60⟩ := a
            obtain ⟨hl3_61, ok64, hin63i⟩ := q
            have h := (h l3_61 hl3_61 g60 hin63i).2
            show sv_T sm_XS sm_cs sm_L sm_sh 3 (q_load p1 S) 231 160 [(0, .ref 0), (1, sv_I p1), (2, sv_I r10), (3, sv_I l3_61)] [] (sv_sts (sv_up (sv_up (sv_up (sv_sts (sv_sts (sv_up (sv_sts (sv_sts S [68, 69, 70] g11) [81, 82, 83, 84, 85, 86] g22) 74 (639 : Int) (S 74 p1)) [68, 69, 70] g32) [68, 69, 70] g44) 76 (639 : Int) (S 76 p1)) 77 (639 : Int) (S 77 p1)) 78 (639 : Int) (S 78 p1)) [79, 80] g60)
            have md65 : sv_mod [68, 69, 70, 81, 82, 83, 84, 85, 86, 74, 78, 79, 80, 76, 77, 1100031] S (sv_sts (sv_up (sv_up (sv_up (sv_sts (sv_sts (sv_up (sv_sts (sv_sts S [68, 69, 70] g11) [81, 82, 83, 84, 85, 86] g22) 74 (639 : Int) (S 74 p1)) [68, 69, 70] g32) [68, 69, 70] g44) 76 (639 : Int) (S 76 p1)) 77 (639 : Int) (S 77 p1)) 78 (639 : Int) (S 78 p1)) [79, 80] g60) := sv_mod.sts md58 (by decide)
            have md66 : sv_mod [79, 80] (sv_up (sv_up (sv_up (sv_sts (sv_sts (sv_up (sv_sts (sv_sts S [68, 69, 70] g11) [81, 82, 83, 84, 85, 86] g22) 74 (639 : Int) (S 74 p1)) [68, 69, 70] g32) [68, 69, 70] g44) 76 (639 : Int) (S 76 p1)) 77 (639 : Int) (S 77 p1)) 78 (639 : Int) (S 78 p1)) (sv_sts (sv_up (sv_up (sv_up (sv_sts (sv_sts (sv_up (sv_sts (sv_sts S [68, 69, 70] g11) [81, 82, 83, 84, 85, 86] g22) 74 (639 : Int) (S 74 p1)) [68, 69, 70] g32) [68, 69, 70] g44) 76 (639 : Int) (S 76 p1)) 77 (639 : Int) (S 77 p1)) 78 (639 : Int) (S 78 p1)) [79, 80] g60) := sv_mod.sts sv_mod.rf (by decide)
            refine sv_iload_n hM dX12_load_160 rfl rfl ?_
            refine sv_aload_n hM dX12_load_161 rfl rfl ?_
            refine sv_getA hM dX12_load_162 sm_fl_247 (sm_a0 _) sm_k130 rfl ?_
            refine sv_iload_n hM dX12_load_165 rfl rfl ?_
            obtain ⟨v67, ev67⟩ : ∃ x : Int, (if p1 = (639 : Int) then (S 78 p1) else (S 78 p1)) = x := ⟨_, rfl⟩
            have h := h v67 ev67
            have k68 : sv_R v67 := ev67 ▸ (sm_okI ok64 sm_r78 p1)
            have h := h k68
            refine sv_iald hM dX12_load_166 (sm_a78 _) (by decide) o27.1 o27.2 rfl (x := v67) ev67 ?_
            refine sv_icmp_ge hM dX12_load_167 hl3_61 k68 (t := 218) rfl rfl (fun hc => ?_) (fun hc => ?_)
            · have h := h.1 (hc)
              obtain ⟨o69, h⟩ := h
              refine sv_ghost sm_X 1100031 0 ((S 1100023 p1)) (by decide) ?_
              have ok70 : sm_ok (sv_up (sv_sts (sv_up (sv_up (sv_up (sv_sts (sv_sts (sv_up (sv_sts (sv_sts S [68, 69, 70] g11) [81, 82, 83, 84, 85, 86] g22) 74 (639 : Int) (S 74 p1)) [68, 69, 70] g32) [68, 69, 70] g44) 76 (639 : Int) (S 76 p1)) 77 (639 : Int) (S 77 p1)) 78 (639 : Int) (S 78 p1)) [79, 80] g60) 1100031 0 ((S 1100023 p1))) := sm_upI ok64 sm_r1100031 o69
              have md71 : sv_mod [68, 69, 70, 81, 82, 83, 84, 85, 86, 74, 78, 79, 80, 76, 77, 1100031] S (sv_up (sv_sts (sv_up (sv_up (sv_up (sv_sts (sv_sts (sv_up (sv_sts (sv_sts S [68, 69, 70] g11) [81, 82, 83, 84, 85, 86] g22) 74 (639 : Int) (S 74 p1)) [68, 69, 70] g32) [68, 69, 70] g44) 76 (639 : Int) (S 76 p1)) 77 (639 : Int) (S 77 p1)) 78 (639 : Int) (S 78 p1)) [79, 80] g60) 1100031 0 ((S 1100023 p1))) := sv_mod.up md65 (by decide)
              have k72 : (sm_CQ (g60 79) (g60 80) (S 79) (S 80) 25560 (40 * p1) l3_61 → sm_TC (S 79) (S 80) (S 27) (S 1100007) (S 1100023) (S 1100024) (40 * p1) (S 1100023 p1) → sm_dp (S 1100024) (S 1100023 p1) ≤ l3_61 → sm_TC (g60 79) (g60 80) (S 27) (S 1100007) (S 1100023) (S 1100024) 25560 (S 1100023 p1)) := sm_CQ_TC
              have h := h k72
              have k73 : (sm_CQ (g60 79) (g60 80) (S 79) (S 80) 25560 (40 * p1) l3_61 → sm_F1 (S 79) (g60 79) 25560 ∧ sm_F1 (S 80) (g60 80) 25560) := sm_CQ_F
              have h := h k73
              exact sv_vret hM dX12_load_218 rfl ⟨rfl, ok70, md71, h⟩
            · have h := h.2 (hc)
              refine sv_aload_n hM dX12_load_170 rfl rfl ?_
              refine sv_getA hM dX12_load_171 sm_fl_250 (sm_a0 _) sm_k131 rfl ?_
              refine sv_sipush (d := (25560 : Int)) hM dX12_load_174 rfl rfl ?_
              refine sv_iload_n hM dX12_load_177 rfl rfl ?_
              refine sv_iadd hM dX12_load_178 rfl ?_
              refine sv_aload_n hM dX12_load_179 rfl rfl ?_
              refine sv_getA hM dX12_load_180 sm_fl_250 (sm_a0 _) sm_k131 rfl ?_
              refine sv_bipush (d := (40 : Int)) hM dX12_load_183 rfl rfl ?_
              refine sv_iload_n hM dX12_load_185 rfl rfl ?_
              refine sv_imul hM dX12_load_186 rfl ?_
              refine sv_iload_n hM dX12_load_187 rfl rfl ?_
              refine sv_iadd hM dX12_load_188 rfl ?_
              obtain ⟨o74, h⟩ := h
              have k75 : sv_R (g60 79 (((40 : Int) * p1) + l3_61)) := sm_okI ok64 sm_r79 (((40 : Int) * p1) + l3_61)
              have h := h k75
              refine sv_iald hM dX12_load_189 (sm_a79 _) (by decide) o74.1 o74.2 rfl (x := (g60 79 (((40 : Int) * p1) + l3_61))) rfl ?_
              obtain ⟨o76, h⟩ := h
              refine sv_iast sm_X hM dX12_load_190 (sm_a79 _) (by decide) o76.1 o76.2 rfl ?_
              have ok77 : sm_ok (sv_up (sv_sts (sv_up (sv_up (sv_up (sv_sts (sv_sts (sv_up (sv_sts (sv_sts S [68, 69, 70] g11) [81, 82, 83, 84, 85, 86] g22) 74 (639 : Int) (S 74 p1)) [68, 69, 70] g32) [68, 69, 70] g44) 76 (639 : Int) (S 76 p1)) 77 (639 : Int) (S 77 p1)) 78 (639 : Int) (S 78 p1)) [79, 80] g60) 79 ((25560 : Int) + l3_61) (g60 79 (((40 : Int) * p1) + l3_61))) := sm_upI ok64 sm_r79 k75
              have md78 : sv_mod [68, 69, 70, 81, 82, 83, 84, 85, 86, 74, 78, 79, 80, 76, 77, 1100031] S (sv_up (sv_sts (sv_up (sv_up (sv_up (sv_sts (sv_sts (sv_up (sv_sts (sv_sts S [68, 69, 70] g11) [81, 82, 83, 84, 85, 86] g22) 74 (639 : Int) (S 74 p1)) [68, 69, 70] g32) [68, 69, 70] g44) 76 (639 : Int) (S 76 p1)) 77 (639 : Int) (S 77 p1)) 78 (639 : Int) (S 78 p1)) [79, 80] g60) 79 ((25560 : Int) + l3_61) (g60 79 (((40 : Int) * p1) + l3_61))) := sv_mod.up md65 (by decide)
              have md79 : sv_mod [79, 80] (sv_up (sv_up (sv_up (sv_sts (sv_sts (sv_up (sv_sts (sv_sts S [68, 69, 70] g11) [81, 82, 83, 84, 85, 86] g22) 74 (639 : Int) (S 74 p1)) [68, 69, 70] g32) [68, 69, 70] g44) 76 (639 : Int) (S 76 p1)) 77 (639 : Int) (S 77 p1)) 78 (639 : Int) (S 78 p1)) (sv_up (sv_sts (sv_up (sv_up (sv_up (sv_sts (sv_sts (sv_up (sv_sts (sv_sts S [68, 69, 70] g11) [81, 82, 83, 84, 85, 86] g22) 74 (639 : Int) (S 74 p1)) [68, 69, 70] g32) [68, 69, 70] g44) 76 (639 : Int) (S 76 p1)) 77 (639 : Int) (S 77 p1)) 78 (639 : Int) (S 78 p1)) [79, 80] g60) 79 ((25560 : Int) + l3_61) (g60 79 (((40 : Int) * p1) + l3_61))) := sv_mod.up md66 (by decide)
              refine sv_aload_n hM dX12_load_191 rfl rfl ?_
              refine sv_getA hM dX12_load_192 sm_fl_253 (sm_a0 _) sm_k132 rfl ?_
              refine sv_sipush (d := (25560 : Int)) hM dX12_load_195 rfl rfl ?_
              refine sv_iload_n hM dX12_load_198 rfl rfl ?_
              refine sv_iadd hM dX12_load_199 rfl ?_
              refine sv_aload_n hM dX12_load_200 rfl rfl ?_
              refine sv_getA hM dX12_load_201 sm_fl_253 (sm_a0 _) sm_k132 rfl ?_
              refine sv_bipush (d := (40 : Int)) hM dX12_load_204 rfl rfl ?_
              refine sv_iload_n hM dX12_load_206 rfl rfl ?_
              refine sv_imul hM dX12_load_207 rfl ?_
              refine sv_iload_n hM dX12_load_208 rfl rfl ?_
              refine sv_iadd hM dX12_load_209 rfl ?_
              have k80 : sv_R (g60 80 (((40 : Int) * p1) + l3_61)) := sm_okI ok77 sm_r80 (((40 : Int) * p1) + l3_61)
              have h := h k80
              refine sv_iald hM dX12_load_210 (sm_a80 _) (by decide) o74.1 o74.2 rfl (x := (g60 80 (((40 : Int) * p1) + l3_61))) rfl ?_
              refine sv_iast sm_X hM dX12_load_211 (sm_a80 _) (by decide) o76.1 o76.2 rfl ?_
              have ok81 : sm_ok (sv_up (sv_up (sv_sts (sv_up (sv_up (sv_up (sv_sts (sv_sts (sv_up (sv_sts (sv_sts S [68, 69, 70] g11) [81, 82, 83, 84, 85, 86] g22) 74 (639 : Int) (S 74 p1)) [68, 69, 70] g32) [68, 69, 70] g44) 76 (639 : Int) (S 76 p1)) 77 (639 : Int) (S 77 p1)) 78 (639 : Int) (S 78 p1)) [79, 80] g60) 79 ((25560 : Int) + l3_61) (g60 79 (((40 : Int) * p1) + l3_61))) 80 ((25560 : Int) + l3_61) (g60 80 (((40 : Int) * p1) + l3_61))) := sm_upI ok77 sm_r80 k80
              have md82 : sv_mod [68, 69, 70, 81, 82, 83, 84, 85, 86, 74, 78, 79, 80, 76, 77, 1100031] S (sv_up (sv_up (sv_sts (sv_up (sv_up (sv_up (sv_sts (sv_sts (sv_up (sv_sts (sv_sts S [68, 69, 70] g11) [81, 82, 83, 84, 85, 86] g22) 74 (639 : Int) (S 74 p1)) [68, 69, 70] g32) [68, 69, 70] g44) 76 (639 : Int) (S 76 p1)) 77 (639 : Int) (S 77 p1)) 78 (639 : Int) (S 78 p1)) [79, 80] g60) 79 ((25560 : Int) + l3_61) (g60 79 (((40 : Int) * p1) + l3_61))) 80 ((25560 : Int) + l3_61) (g60 80 (((40 : Int) * p1) + l3_61))) := sv_mod.up md78 (by decide)
              have md83 : sv_mod [79, 80] (sv_up (sv_up (sv_up (sv_sts (sv_sts (sv_up (sv_sts (sv_sts S [68, 69, 70] g11) [81, 82, 83, 84, 85, 86] g22) 74 (639 : Int) (S 74 p1)) [68, 69, 70] g32) [68, 69, 70] g44) 76 (639 : Int) (S 76 p1)) 77 (639 : Int) (S 77 p1)) 78 (639 : Int) (S 78 p1)) (sv_up (sv_up (sv_sts (sv_up (sv_up (sv_up (sv_sts (sv_sts (sv_up (sv_sts (sv_sts S [68, 69, 70] g11) [81, 82, 83, 84, 85, 86] g22) 74 (639 : Int) (S 74 p1)) [68, 69, 70] g32) [68, 69, 70] g44) 76 (639 : Int) (S 76 p1)) 77 (639 : Int) (S 77 p1)) 78 (639 : Int) (S 78 p1)) [79, 80] g60) 79 ((25560 : Int) + l3_61) (g60 79 (((40 : Int) * p1) + l3_61))) 80 ((25560 : Int) + l3_61) (g60 80 (((40 : Int) * p1) + l3_61))) := sv_mod.up md79 (by decide)
              have k84 : (sm_CQ (fun i' : Int => if i' = ((25560 : Int) + l3_61) then (g60 79 (((40 : Int) * p1) + l3_61)) else (g60 79) i') (fun i' : Int => if i' = ((25560 : Int) + l3_61) then (g60 80 (((40 : Int) * p1) + l3_61)) else (g60 80) i') (S 79) (S 80) 25560 (40 * p1) (l3_61 + 1) → True) := fun _ => trivial
              have h := h k84
              refine sv_iinc (d := (1 : Int)) hM dX12_load_212 rfl (by decide) rfl rfl ?_
              show sv_T sm_XS sm_cs sm_L sm_sh 3 (q_load p1 S) 231 215 [(0, .ref 0), (1, sv_I p1), (2, sv_I r10), (3, sv_I (l3_61 + (1 : Int)))] [] (sv_up (sv_up (sv_sts (sv_up (sv_up (sv_up (sv_sts (sv_sts (sv_up (sv_sts (sv_sts S [68, 69, 70] g11) [81, 82, 83, 84, 85, 86] g22) 74 (639 : Int) (S 74 p1)) [68, 69, 70] g32) [68, 69, 70] g44) 76 (639 : Int) (S 76 p1)) 77 (639 : Int) (S 77 p1)) 78 (639 : Int) (S 78 p1)) [79, 80] g60) 79 ((25560 : Int) + l3_61) (g60 79 (((40 : Int) * p1) + l3_61))) 80 ((25560 : Int) + l3_61) (g60 80 (((40 : Int) * p1) + l3_61)))
              refine sv_goto hM dX12_load_215 (pc' := 160) rfl ?_
              obtain ⟨o85, h⟩ := h
              have eS := sv_mod.eq md83
              have hb := ih62 ((l3_61 + (1 : Int)), (sv_up (sv_up (sv_sts (sv_up (sv_up (sv_up (sv_sts (sv_sts (sv_up (sv_sts (sv_sts S [68, 69, 70] g11) [81, 82, 83, 84, 85, 86] g22) 74 (639 : Int) (S 74 p1)) [68, 69, 70] g32) [68, 69, 70] g44) 76 (639 : Int) (S 76 p1)) 77 (639 : Int) (S 77 p1)) 78 (639 : Int) (S 78 p1)) [79, 80] g60) 79 ((25560 : Int) + l3_61) (g60 79 (((40 : Int) * p1) + l3_61))) 80 ((25560 : Int) + l3_61) (g60 80 (((40 : Int) * p1) + l3_61)))) ⟨o85, (by rw [← eS]; exact ok81), h.1⟩ h.2
              have hb : sv_T sm_XS sm_cs sm_L sm_sh 3 (q_load p1 S) 231 160 [(0, .ref 0), (1, sv_I p1), (2, sv_I r10), (3, sv_I (l3_61 + (1 : Int)))] [] (sv_up (sv_up (sv_sts (sv_up (sv_up (sv_up (sv_sts (sv_sts (sv_up (sv_sts (sv_sts S [68, 69, 70] g11) [81, 82, 83, 84, 85, 86] g22) 74 (639 : Int) (S 74 p1)) [68, 69, 70] g32) [68, 69, 70] g44) 76 (639 : Int) (S 76 p1)) 77 (639 : Int) (S 77 p1)) 78 (639 : Int) (S 78 p1)) [79, 80] g60) 79 ((25560 : Int) + l3_61) (g60 79 (((40 : Int) * p1) + l3_61))) 80 ((25560 : Int) + l3_61) (g60 80 (((40 : Int) * p1) + l3_61))) := Eq.mpr (congrArg (fun Z => sv_T sm_XS sm_cs sm_L sm_sh 3 (q_load p1 S) 231 160 [(0, .ref 0), (1, sv_I p1), (2, sv_I r10), (3, sv_I (l3_61 + (1 : Int)))] [] Z) eS) hb
              exact sv_less (lv := [(0, .ref 0), (1, sv_I p1), (2, sv_I r10), (3, sv_I (l3_61 + (1 : Int)))]) (sv_Sub_cons rfl (sv_Sub_cons rfl (sv_Sub_cons rfl (sv_Sub_cons rfl sv_Sub_nil)))) hb
          have eS := sv_mod.eq (sv_mod.rf (l := [79, 80]) (S := (sv_up (sv_up (sv_up (sv_sts (sv_sts (sv_up (sv_sts (sv_sts S [68, 69, 70] g11) [81, 82, 83, 84, 85, 86] g22) 74 (639 : Int) (S 74 p1)) [68, 69, 70] g32) [68, 69, 70] g44) 76 (639 : Int) (S 76 p1)) 77 (639 : Int) (S 77 p1)) 78 (639 : Int) (S 78 p1))))
          have hb := hJ ((0 : Int), (sv_up (sv_up (sv_up (sv_sts (sv_sts (sv_up (sv_sts (sv_sts S [68, 69, 70] g11) [81, 82, 83, 84, 85, 86] g22) 74 (639 : Int) (S 74 p1)) [68, 69, 70] g32) [68, 69, 70] g44) 76 (639 : Int) (S 76 p1)) 77 (639 : Int) (S 77 p1)) 78 (639 : Int) (S 78 p1))) ⟨(⟨by decide, by decide⟩ : sv_R (0 : Int)), (by rw [← eS]; exact ok57), hin63⟩
          have hb : sv_T sm_XS sm_cs sm_L sm_sh 3 (q_load p1 S) 231 160 [(0, .ref 0), (1, sv_I p1), (2, sv_I r10), (3, sv_I (0 : Int))] [] (sv_up (sv_up (sv_up (sv_sts (sv_sts (sv_up (sv_sts (sv_sts S [68, 69, 70] g11) [81, 82, 83, 84, 85, 86] g22) 74 (639 : Int) (S 74 p1)) [68, 69, 70] g32) [68, 69, 70] g44) 76 (639 : Int) (S 76 p1)) 77 (639 : Int) (S 77 p1)) 78 (639 : Int) (S 78 p1)) := Eq.mpr (congrArg (fun Z => sv_T sm_XS sm_cs sm_L sm_sh 3 (q_load p1 S) 231 160 [(0, .ref 0), (1, sv_I p1), (2, sv_I r10), (3, sv_I (0 : Int))] [] Z) eS) hb
          exact hb
        · have h := h.2 (hc)
          refine sv_aload_n hM dX12_load_72 rfl rfl ?_
          refine sv_aload_n hM dX12_load_73 rfl rfl ?_
          refine sv_getA hM dX12_load_74 sm_fl_238 (sm_a0 _) sm_k126 rfl ?_
          refine sv_iload_n hM dX12_load_77 rfl rfl ?_
          have k86 : sv_R (S 75 p1) := sm_okI ok36 sm_r75 p1
          have h := h k86
          refine sv_iald hM dX12_load_78 (sm_a75 _) (by decide) o27.1 o27.2 rfl (x := (S 75 p1)) rfl ?_
          refine sv_iload_n hM dX12_load_79 rfl rfl ?_
          refine sv_iadd hM dX12_load_80 rfl ?_
          refine sv_aload_n hM dX12_load_81 rfl rfl ?_
          refine sv_getA hM dX12_load_82 sm_fl_238 (sm_a0 _) sm_k126 rfl ?_
          refine sv_sipush (d := (639 : Int)) hM dX12_load_85 rfl rfl ?_
          have k87 : sv_R (S 75 (639 : Int)) := sm_okI ok36 sm_r75 (639 : Int)
          have h := h k87
          refine sv_iald hM dX12_load_88 (sm_a75 _) (by decide) o29.1 o29.2 rfl (x := (S 75 (639 : Int))) rfl ?_
          refine sv_iload_n hM dX12_load_89 rfl rfl ?_
          refine sv_iadd hM dX12_load_90 rfl ?_
          obtain ⟨o88, h⟩ := h
          obtain ⟨o89, h⟩ := h
          obtain ⟨o90, h⟩ := h
          refine sv_callV hM dX12_load_91 sm_iv_1092 (by decide) (sm_a0 _) rfl rfl (Nat.le_of_ble_eq_true rfl) sm_h207 (Nat.le_of_ble_eq_true rfl) (Nat.le_of_ble_eq_true rfl) (F' := 0) (Nat.le_of_ble_eq_true rfl) rfl (t_copySet ((S 75 p1) + l3_33) ((S 75 (639 : Int)) + l3_33) (sv_sts (sv_up (sv_sts (sv_sts S [68, 69, 70] g11) [81, 82, 83, 84, 85, 86] g22) 74 (639 : Int) (S 74 p1)) [68, 69, 70] g32) ok36 o88 o89 o90) (fun v S1 hq => ?_)
          obtain ⟨rfl, ok92, md93, hpo94⟩ := hq
          obtain ⟨g91, rfl⟩ : ∃ g, S1 = sv_sts (sv_sts (sv_up (sv_sts (sv_sts S [68, 69, 70] g11) [81, 82, 83, 84, 85, 86] g22) 74 (639 : Int) (S 74 p1)) [68, 69, 70] g32) [68, 69, 70] g := ⟨_, md93.eq⟩
          show sv_T sm_XS sm_cs sm_L sm_sh 3 (q_load p1 S) 231 94 [(0, .ref 0), (1, sv_I p1), (2, sv_I r10), (3, sv_I l3_33)] [] (sv_sts (sv_sts (sv_up (sv_sts (sv_sts S [68, 69, 70] g11) [81, 82, 83, 84, 85, 86] g22) 74 (639 : Int) (S 74 p1)) [68, 69, 70] g32) [68, 69, 70] g91)
          have md95 : sv_mod [68, 69, 70, 81, 82, 83, 84, 85, 86, 74, 78, 79, 80, 76, 77, 1100031] S (sv_sts (sv_sts (sv_up (sv_sts (sv_sts S [68, 69, 70] g11) [81, 82, 83, 84, 85, 86] g22) 74 (639 : Int) (S 74 p1)) [68, 69, 70] g32) [68, 69, 70] g91) := sv_mod.sts md37 (by decide)
          have md96 : sv_mod [68, 69, 70] (sv_up (sv_sts (sv_sts S [68, 69, 70] g11) [81, 82, 83, 84, 85, 86] g22) 74 (639 : Int) (S 74 p1)) (sv_sts (sv_sts (sv_up (sv_sts (sv_sts S [68, 69, 70] g11) [81, 82, 83, 84, 85, 86] g22) 74 (639 : Int) (S 74 p1)) [68, 69, 70] g32) [68, 69, 70] g91) := sv_mod.sts md38 (by decide)
          have h := h g91 hpo94
          refine sv_iinc (d := (1 : Int)) hM dX12_load_94 rfl (by decide) rfl rfl ?_
          show sv_T sm_XS sm_cs sm_L sm_sh 3 (q_load p1 S) 231 97 [(0, .ref 0), (1, sv_I p1), (2, sv_I r10), (3, sv_I (l3_33 + (1 : Int)))] [] (sv_sts (sv_sts (sv_up (sv_sts (sv_sts S [68, 69, 70] g11) [81, 82, 83, 84, 85, 86] g22) 74 (639 : Int) (S 74 p1)) [68, 69, 70] g32) [68, 69, 70] g91)
          refine sv_goto hM dX12_load_97 (pc' := 62) rfl ?_
          obtain ⟨o97, h⟩ := h
          have eS := sv_mod.eq md96
          have hb := ih34 ((l3_33 + (1 : Int)), (sv_sts (sv_sts (sv_up (sv_sts (sv_sts S [68, 69, 70] g11) [81, 82, 83, 84, 85, 86] g22) 74 (639 : Int) (S 74 p1)) [68, 69, 70] g32) [68, 69, 70] g91)) ⟨o97, (by rw [← eS]; exact ok92), h.1⟩ h.2
          have hb : sv_T sm_XS sm_cs sm_L sm_sh 3 (q_load p1 S) 231 62 [(0, .ref 0), (1, sv_I p1), (2, sv_I r10), (3, sv_I (l3_33 + (1 : Int)))] [] (sv_sts (sv_sts (sv_up (sv_sts (sv_sts S [68, 69, 70] g11) [81, 82, 83, 84, 85, 86] g22) 74 (639 : Int) (S 74 p1)) [68, 69, 70] g32) [68, 69, 70] g91) := Eq.mpr (congrArg (fun Z => sv_T sm_XS sm_cs sm_L sm_sh 3 (q_load p1 S) 231 62 [(0, .ref 0), (1, sv_I p1), (2, sv_I r10), (3, sv_I (l3_33 + (1 : Int)))] [] Z) eS) hb
          exact sv_less (lv := [(0, .ref 0), (1, sv_I p1), (2, sv_I r10), (3, sv_I (l3_33 + (1 : Int)))]) (sv_Sub_cons rfl (sv_Sub_cons rfl (sv_Sub_cons rfl (sv_Sub_cons rfl sv_Sub_nil)))) hb
      have eS := sv_mod.eq (sv_mod.rf (l := [68, 69, 70]) (S := (sv_up (sv_sts (sv_sts S [68, 69, 70] g11) [81, 82, 83, 84, 85, 86] g22) 74 (639 : Int) (S 74 p1))))
      have hb := hJ ((0 : Int), (sv_up (sv_sts (sv_sts S [68, 69, 70] g11) [81, 82, 83, 84, 85, 86] g22) 74 (639 : Int) (S 74 p1))) ⟨(⟨by decide, by decide⟩ : sv_R (0 : Int)), (by rw [← eS]; exact ok30), hin35⟩
      have hb : sv_T sm_XS sm_cs sm_L sm_sh 3 (q_load p1 S) 231 62 [(0, .ref 0), (1, sv_I p1), (2, sv_I r10), (3, sv_I (0 : Int))] [] (sv_up (sv_sts (sv_sts S [68, 69, 70] g11) [81, 82, 83, 84, 85, 86] g22) 74 (639 : Int) (S 74 p1)) := Eq.mpr (congrArg (fun Z => sv_T sm_XS sm_cs sm_L sm_sh 3 (q_load p1 S) 231 62 [(0, .ref 0), (1, sv_I p1), (2, sv_I r10), (3, sv_I (0 : Int))] [] Z) eS) hb
      exact hb
    · have h := h.2 (hc)
      refine sv_aload_n hM dX12_load_23 rfl rfl ?_
      refine sv_iload_n hM dX12_load_24 rfl rfl ?_
      refine sv_iload_n hM dX12_load_25 rfl rfl ?_
      refine sv_iadd hM dX12_load_26 rfl ?_
      refine sv_ldc_w (d := (635640 : Int)) hM dX12_load_27 sm_ck_1084 rfl rfl ?_
      refine sv_iload_n hM dX12_load_30 rfl rfl ?_
      refine sv_iadd hM dX12_load_31 rfl ?_
      obtain ⟨o98, h⟩ := h
      obtain ⟨o99, h⟩ := h
      obtain ⟨o100, h⟩ := h
      refine sv_callV hM dX12_load_32 sm_iv_1092 (by decide) (sm_a0 _) rfl rfl (Nat.le_of_ble_eq_true rfl) sm_h207 (Nat.le_of_ble_eq_true rfl) (Nat.le_of_ble_eq_true rfl) (F' := 0) (Nat.le_of_ble_eq_true rfl) rfl (t_copySet (r10 + l3_12) ((635640 : Int) + l3_12) (sv_sts S [68, 69, 70] g11) ok15 o98 o99 o100) (fun v S1 hq => ?_)
      obtain ⟨rfl, ok102, md103, hpo104⟩ := hq
      obtain ⟨g101, rfl⟩ : ∃ g, S1 = sv_sts (sv_sts S [68, 69, 70] g11) [68, 69, 70] g := ⟨_, md103.eq⟩
      show sv_T sm_XS sm_cs sm_L sm_sh 3 (q_load p1 S) 231 35 [(0, .ref 0), (1, sv_I p1), (2, sv_I r10), (3, sv_I l3_12)] [] (sv_sts (sv_sts S [68, 69, 70] g11) [68, 69, 70] g101)
      have md105 : sv_mod [68, 69, 70, 81, 82, 83, 84, 85, 86, 74, 78, 79, 80, 76, 77, 1100031] S (sv_sts (sv_sts S [68, 69, 70] g11) [68, 69, 70] g101) := sv_mod.sts md16 (by decide)
      have md106 : sv_mod [68, 69, 70] S (sv_sts (sv_sts S [68, 69, 70] g11) [68, 69, 70] g101) := sv_mod.sts md17 (by decide)
      have h := h g101 hpo104
      refine sv_iinc (d := (1 : Int)) hM dX12_load_35 rfl (by decide) rfl rfl ?_
      show sv_T sm_XS sm_cs sm_L sm_sh 3 (q_load p1 S) 231 38 [(0, .ref 0), (1, sv_I p1), (2, sv_I r10), (3, sv_I (l3_12 + (1 : Int)))] [] (sv_sts (sv_sts S [68, 69, 70] g11) [68, 69, 70] g101)
      refine sv_goto hM dX12_load_38 (pc' := 8) rfl ?_
      obtain ⟨o107, h⟩ := h
      have eS := sv_mod.eq md106
      have hb := ih13 ((l3_12 + (1 : Int)), (sv_sts (sv_sts S [68, 69, 70] g11) [68, 69, 70] g101)) ⟨o107, (by rw [← eS]; exact ok102), h.1⟩ h.2
      have hb : sv_T sm_XS sm_cs sm_L sm_sh 3 (q_load p1 S) 231 8 [(0, .ref 0), (1, sv_I p1), (2, sv_I r10), (3, sv_I (l3_12 + (1 : Int)))] [] (sv_sts (sv_sts S [68, 69, 70] g11) [68, 69, 70] g101) := Eq.mpr (congrArg (fun Z => sv_T sm_XS sm_cs sm_L sm_sh 3 (q_load p1 S) 231 8 [(0, .ref 0), (1, sv_I p1), (2, sv_I r10), (3, sv_I (l3_12 + (1 : Int)))] [] Z) eS) hb
      exact sv_less (lv := [(0, .ref 0), (1, sv_I p1), (2, sv_I r10), (3, sv_I (l3_12 + (1 : Int)))]) (sv_Sub_cons rfl (sv_Sub_cons rfl (sv_Sub_cons rfl (sv_Sub_cons rfl sv_Sub_nil)))) hb
  have eS := sv_mod.eq (sv_mod.rf (l := [68, 69, 70]) (S := S))
  have hb := hJ ((0 : Int), S) ⟨(⟨by decide, by decide⟩ : sv_R (0 : Int)), (by rw [← eS]; exact ok7), hin14⟩
  have hb : sv_T sm_XS sm_cs sm_L sm_sh 3 (q_load p1 S) 231 8 [(0, .ref 0), (1, sv_I p1), (2, sv_I r10), (3, sv_I (0 : Int))] [] S := Eq.mpr (congrArg (fun Z => sv_T sm_XS sm_cs sm_L sm_sh 3 (q_load p1 S) 231 8 [(0, .ref 0), (1, sv_I p1), (2, sv_I r10), (3, sv_I (0 : Int))] [] Z) eS) hb
  exact hb
