theorem dX12_loadRest_0 : decode cX12_loadRest 0 = .ok (.iconst 0, 1) := by decide +kernel
theorem dX12_loadRest_1 : decode cX12_loadRest 1 = .ok (.istore_n 2, 1) := by decide +kernel
theorem dX12_loadRest_2 : decode cX12_loadRest 2 = .ok (.iload_n 2, 1) := by decide +kernel
theorem dX12_loadRest_3 : decode cX12_loadRest 3 = .ok (.aload_n 0, 1) := by decide +kernel
theorem dX12_loadRest_4 : decode cX12_loadRest 4 = .ok (.getfield 765, 3) := by decide +kernel
theorem dX12_loadRest_7 : decode cX12_loadRest 7 = .ok (.if_icmp .ge 104, 3) := by decide +kernel
theorem dX12_loadRest_10 : decode cX12_loadRest 10 = .ok (.aload_n 0, 1) := by decide +kernel
theorem dX12_loadRest_11 : decode cX12_loadRest 11 = .ok (.iload_n 1, 1) := by decide +kernel
theorem dX12_loadRest_12 : decode cX12_loadRest 12 = .ok (.iload_n 2, 1) := by decide +kernel
theorem dX12_loadRest_13 : decode cX12_loadRest 13 = .ok (.invokevirtual 1101, 3) := by decide +kernel
theorem dX12_loadRest_16 : decode cX12_loadRest 16 = .ok (.istore_n 3, 1) := by decide +kernel
theorem dX12_loadRest_17 : decode cX12_loadRest 17 = .ok (.aload_n 0, 1) := by decide +kernel
theorem dX12_loadRest_18 : decode cX12_loadRest 18 = .ok (.sipush 639, 3) := by decide +kernel
theorem dX12_loadRest_21 : decode cX12_loadRest 21 = .ok (.iload_n 2, 1) := by decide +kernel
theorem dX12_loadRest_22 : decode cX12_loadRest 22 = .ok (.invokevirtual 1101, 3) := by decide +kernel
theorem dX12_loadRest_25 : decode cX12_loadRest 25 = .ok (.istore 4, 2) := by decide +kernel
theorem dX12_loadRest_27 : decode cX12_loadRest 27 = .ok (.aload_n 0, 1) := by decide +kernel
theorem dX12_loadRest_28 : decode cX12_loadRest 28 = .ok (.getfield 256, 3) := by decide +kernel
theorem dX12_loadRest_31 : decode cX12_loadRest 31 = .ok (.iload 4, 2) := by decide +kernel
theorem dX12_loadRest_33 : decode cX12_loadRest 33 = .ok (.aload_n 0, 1) := by decide +kernel
theorem dX12_loadRest_34 : decode cX12_loadRest 34 = .ok (.getfield 256, 3) := by decide +kernel
theorem dX12_loadRest_37 : decode cX12_loadRest 37 = .ok (.iload_n 3, 1) := by decide +kernel
theorem dX12_loadRest_38 : decode cX12_loadRest 38 = .ok (.baload, 1) := by decide +kernel
theorem dX12_loadRest_39 : decode cX12_loadRest 39 = .ok (.bastore, 1) := by decide +kernel
theorem dX12_loadRest_40 : decode cX12_loadRest 40 = .ok (.aload_n 0, 1) := by decide +kernel
theorem dX12_loadRest_41 : decode cX12_loadRest 41 = .ok (.getfield 259, 3) := by decide +kernel
theorem dX12_loadRest_44 : decode cX12_loadRest 44 = .ok (.iload 4, 2) := by decide +kernel
theorem dX12_loadRest_46 : decode cX12_loadRest 46 = .ok (.aload_n 0, 1) := by decide +kernel
theorem dX12_loadRest_47 : decode cX12_loadRest 47 = .ok (.getfield 259, 3) := by decide +kernel
theorem dX12_loadRest_50 : decode cX12_loadRest 50 = .ok (.iload_n 3, 1) := by decide +kernel
theorem dX12_loadRest_51 : decode cX12_loadRest 51 = .ok (.baload, 1) := by decide +kernel
theorem dX12_loadRest_52 : decode cX12_loadRest 52 = .ok (.bastore, 1) := by decide +kernel
theorem dX12_loadRest_53 : decode cX12_loadRest 53 = .ok (.aload_n 0, 1) := by decide +kernel
theorem dX12_loadRest_54 : decode cX12_loadRest 54 = .ok (.getfield 262, 3) := by decide +kernel
theorem dX12_loadRest_57 : decode cX12_loadRest 57 = .ok (.iload 4, 2) := by decide +kernel
theorem dX12_loadRest_59 : decode cX12_loadRest 59 = .ok (.aload_n 0, 1) := by decide +kernel
theorem dX12_loadRest_60 : decode cX12_loadRest 60 = .ok (.getfield 262, 3) := by decide +kernel
theorem dX12_loadRest_63 : decode cX12_loadRest 63 = .ok (.iload_n 3, 1) := by decide +kernel
theorem dX12_loadRest_64 : decode cX12_loadRest 64 = .ok (.laload, 1) := by decide +kernel
theorem dX12_loadRest_65 : decode cX12_loadRest 65 = .ok (.lastore, 1) := by decide +kernel
theorem dX12_loadRest_66 : decode cX12_loadRest 66 = .ok (.aload_n 0, 1) := by decide +kernel
theorem dX12_loadRest_67 : decode cX12_loadRest 67 = .ok (.getfield 265, 3) := by decide +kernel
theorem dX12_loadRest_70 : decode cX12_loadRest 70 = .ok (.iload 4, 2) := by decide +kernel
theorem dX12_loadRest_72 : decode cX12_loadRest 72 = .ok (.aload_n 0, 1) := by decide +kernel
theorem dX12_loadRest_73 : decode cX12_loadRest 73 = .ok (.getfield 265, 3) := by decide +kernel
theorem dX12_loadRest_76 : decode cX12_loadRest 76 = .ok (.iload_n 3, 1) := by decide +kernel
theorem dX12_loadRest_77 : decode cX12_loadRest 77 = .ok (.laload, 1) := by decide +kernel
theorem dX12_loadRest_78 : decode cX12_loadRest 78 = .ok (.lastore, 1) := by decide +kernel
theorem dX12_loadRest_79 : decode cX12_loadRest 79 = .ok (.aload_n 0, 1) := by decide +kernel
theorem dX12_loadRest_80 : decode cX12_loadRest 80 = .ok (.getfield 268, 3) := by decide +kernel
theorem dX12_loadRest_83 : decode cX12_loadRest 83 = .ok (.iload 4, 2) := by decide +kernel
theorem dX12_loadRest_85 : decode cX12_loadRest 85 = .ok (.aload_n 0, 1) := by decide +kernel
theorem dX12_loadRest_86 : decode cX12_loadRest 86 = .ok (.getfield 268, 3) := by decide +kernel
theorem dX12_loadRest_89 : decode cX12_loadRest 89 = .ok (.iload_n 3, 1) := by decide +kernel
theorem dX12_loadRest_90 : decode cX12_loadRest 90 = .ok (.laload, 1) := by decide +kernel
theorem dX12_loadRest_91 : decode cX12_loadRest 91 = .ok (.lastore, 1) := by decide +kernel
theorem dX12_loadRest_92 : decode cX12_loadRest 92 = .ok (.aload_n 0, 1) := by decide +kernel
theorem dX12_loadRest_93 : decode cX12_loadRest 93 = .ok (.getfield 271, 3) := by decide +kernel
theorem dX12_loadRest_96 : decode cX12_loadRest 96 = .ok (.iload 4, 2) := by decide +kernel
theorem dX12_loadRest_98 : decode cX12_loadRest 98 = .ok (.aload_n 0, 1) := by decide +kernel
theorem dX12_loadRest_99 : decode cX12_loadRest 99 = .ok (.getfield 271, 3) := by decide +kernel
theorem dX12_loadRest_102 : decode cX12_loadRest 102 = .ok (.iload_n 3, 1) := by decide +kernel
theorem dX12_loadRest_103 : decode cX12_loadRest 103 = .ok (.laload, 1) := by decide +kernel
theorem dX12_loadRest_104 : decode cX12_loadRest 104 = .ok (.lastore, 1) := by decide +kernel
theorem dX12_loadRest_105 : decode cX12_loadRest 105 = .ok (.iinc 2 1, 3) := by decide +kernel
theorem dX12_loadRest_108 : decode cX12_loadRest 108 = .ok (.goto (-106), 3) := by decide +kernel
theorem dX12_loadRest_111 : decode cX12_loadRest 111 = .ok (.return_, 1) := by decide +kernel
theorem dX12_loadLabels_0 : decode cX12_loadLabels 0 = .ok (.aload_n 0, 1) := by decide +kernel
theorem dX12_loadLabels_1 : decode cX12_loadLabels 1 = .ok (.iload_n 1, 1) := by decide +kernel
theorem dX12_loadLabels_2 : decode cX12_loadLabels 2 = .ok (.invokevirtual 1085, 3) := by decide +kernel
theorem dX12_loadLabels_5 : decode cX12_loadLabels 5 = .ok (.istore_n 2, 1) := by decide +kernel
theorem dX12_loadLabels_6 : decode cX12_loadLabels 6 = .ok (.iconst 0, 1) := by decide +kernel
theorem dX12_loadLabels_7 : decode cX12_loadLabels 7 = .ok (.istore_n 3, 1) := by decide +kernel
theorem dX12_loadLabels_8 : decode cX12_loadLabels 8 = .ok (.iload_n 3, 1) := by decide +kernel
theorem dX12_loadLabels_9 : decode cX12_loadLabels 9 = .ok (.aload_n 0, 1) := by decide +kernel
theorem dX12_loadLabels_10 : decode cX12_loadLabels 10 = .ok (.getfield 765, 3) := by decide +kernel
theorem dX12_loadLabels_13 : decode cX12_loadLabels 13 = .ok (.aload_n 0, 1) := by decide +kernel
theorem dX12_loadLabels_14 : decode cX12_loadLabels 14 = .ok (.getfield 762, 3) := by decide +kernel
theorem dX12_loadLabels_17 : decode cX12_loadLabels 17 = .ok (.iconst 1, 1) := by decide +kernel
theorem dX12_loadLabels_18 : decode cX12_loadLabels 18 = .ok (.iadd, 1) := by decide +kernel
theorem dX12_loadLabels_19 : decode cX12_loadLabels 19 = .ok (.imul, 1) := by decide +kernel
theorem dX12_loadLabels_20 : decode cX12_loadLabels 20 = .ok (.if_icmp .ge 21, 3) := by decide +kernel
theorem dX12_loadLabels_23 : decode cX12_loadLabels 23 = .ok (.aload_n 0, 1) := by decide +kernel
theorem dX12_loadLabels_24 : decode cX12_loadLabels 24 = .ok (.iload_n 2, 1) := by decide +kernel
theorem dX12_loadLabels_25 : decode cX12_loadLabels 25 = .ok (.iload_n 3, 1) := by decide +kernel
theorem dX12_loadLabels_26 : decode cX12_loadLabels 26 = .ok (.iadd, 1) := by decide +kernel
theorem dX12_loadLabels_27 : decode cX12_loadLabels 27 = .ok (.ldc_w 1084, 3) := by decide +kernel
theorem dX12_loadLabels_30 : decode cX12_loadLabels 30 = .ok (.iload_n 3, 1) := by decide +kernel
theorem dX12_loadLabels_31 : decode cX12_loadLabels 31 = .ok (.iadd, 1) := by decide +kernel
theorem dX12_loadLabels_32 : decode cX12_loadLabels 32 = .ok (.invokevirtual 1092, 3) := by decide +kernel
theorem dX12_loadLabels_35 : decode cX12_loadLabels 35 = .ok (.iinc 3 1, 3) := by decide +kernel
theorem dX12_loadLabels_38 : decode cX12_loadLabels 38 = .ok (.goto (-30), 3) := by decide +kernel
theorem dX12_loadLabels_41 : decode cX12_loadLabels 41 = .ok (.aload_n 0, 1) := by decide +kernel
theorem dX12_loadLabels_42 : decode cX12_loadLabels 42 = .ok (.iload_n 1, 1) := by decide +kernel
theorem dX12_loadLabels_43 : decode cX12_loadLabels 43 = .ok (.invokevirtual 1095, 3) := by decide +kernel
theorem dX12_loadLabels_46 : decode cX12_loadLabels 46 = .ok (.return_, 1) := by decide +kernel
theorem dX12_clearState_0 : decode cX12_clearState 0 = .ok (.aload_n 0, 1) := by decide +kernel
theorem dX12_clearState_1 : decode cX12_clearState 1 = .ok (.iload_n 1, 1) := by decide +kernel
theorem dX12_clearState_2 : decode cX12_clearState 2 = .ok (.invokevirtual 1085, 3) := by decide +kernel
theorem dX12_clearState_5 : decode cX12_clearState 5 = .ok (.istore_n 2, 1) := by decide +kernel
theorem dX12_clearState_6 : decode cX12_clearState 6 = .ok (.iconst 0, 1) := by decide +kernel
theorem dX12_clearState_7 : decode cX12_clearState 7 = .ok (.istore_n 3, 1) := by decide +kernel
theorem dX12_clearState_8 : decode cX12_clearState 8 = .ok (.iload_n 3, 1) := by decide +kernel
theorem dX12_clearState_9 : decode cX12_clearState 9 = .ok (.aload_n 0, 1) := by decide +kernel
theorem dX12_clearState_10 : decode cX12_clearState 10 = .ok (.getfield 765, 3) := by decide +kernel
theorem dX12_clearState_13 : decode cX12_clearState 13 = .ok (.aload_n 0, 1) := by decide +kernel
theorem dX12_clearState_14 : decode cX12_clearState 14 = .ok (.getfield 762, 3) := by decide +kernel
theorem dX12_clearState_17 : decode cX12_clearState 17 = .ok (.iconst 1, 1) := by decide +kernel
theorem dX12_clearState_18 : decode cX12_clearState 18 = .ok (.iadd, 1) := by decide +kernel
theorem dX12_clearState_19 : decode cX12_clearState 19 = .ok (.imul, 1) := by decide +kernel
theorem dX12_clearState_20 : decode cX12_clearState 20 = .ok (.if_icmp .ge 16, 3) := by decide +kernel
theorem dX12_clearState_23 : decode cX12_clearState 23 = .ok (.aload_n 0, 1) := by decide +kernel
theorem dX12_clearState_24 : decode cX12_clearState 24 = .ok (.iload_n 2, 1) := by decide +kernel
theorem dX12_clearState_25 : decode cX12_clearState 25 = .ok (.iload_n 3, 1) := by decide +kernel
theorem dX12_clearState_26 : decode cX12_clearState 26 = .ok (.iadd, 1) := by decide +kernel
theorem dX12_clearState_27 : decode cX12_clearState 27 = .ok (.invokevirtual 1066, 3) := by decide +kernel
theorem dX12_clearState_30 : decode cX12_clearState 30 = .ok (.iinc 3 1, 3) := by decide +kernel
theorem dX12_clearState_33 : decode cX12_clearState 33 = .ok (.goto (-25), 3) := by decide +kernel
theorem dX12_clearState_36 : decode cX12_clearState 36 = .ok (.iconst 0, 1) := by decide +kernel
theorem dX12_clearState_37 : decode cX12_clearState 37 = .ok (.istore_n 3, 1) := by decide +kernel
theorem dX12_clearState_38 : decode cX12_clearState 38 = .ok (.iload_n 3, 1) := by decide +kernel
theorem dX12_clearState_39 : decode cX12_clearState 39 = .ok (.aload_n 0, 1) := by decide +kernel
theorem dX12_clearState_40 : decode cX12_clearState 40 = .ok (.getfield 765, 3) := by decide +kernel
theorem dX12_clearState_43 : decode cX12_clearState 43 = .ok (.if_icmp .ge 65, 3) := by decide +kernel
theorem dX12_clearState_46 : decode cX12_clearState 46 = .ok (.aload_n 0, 1) := by decide +kernel
theorem dX12_clearState_47 : decode cX12_clearState 47 = .ok (.iload_n 1, 1) := by decide +kernel
theorem dX12_clearState_48 : decode cX12_clearState 48 = .ok (.iload_n 3, 1) := by decide +kernel
theorem dX12_clearState_49 : decode cX12_clearState 49 = .ok (.invokevirtual 1101, 3) := by decide +kernel
theorem dX12_clearState_52 : decode cX12_clearState 52 = .ok (.istore 4, 2) := by decide +kernel
theorem dX12_clearState_54 : decode cX12_clearState 54 = .ok (.aload_n 0, 1) := by decide +kernel
theorem dX12_clearState_55 : decode cX12_clearState 55 = .ok (.getfield 256, 3) := by decide +kernel
theorem dX12_clearState_58 : decode cX12_clearState 58 = .ok (.iload 4, 2) := by decide +kernel
theorem dX12_clearState_60 : decode cX12_clearState 60 = .ok (.iconst 0, 1) := by decide +kernel
theorem dX12_clearState_61 : decode cX12_clearState 61 = .ok (.bastore, 1) := by decide +kernel
theorem dX12_clearState_62 : decode cX12_clearState 62 = .ok (.aload_n 0, 1) := by decide +kernel
theorem dX12_clearState_63 : decode cX12_clearState 63 = .ok (.getfield 259, 3) := by decide +kernel
theorem dX12_clearState_66 : decode cX12_clearState 66 = .ok (.iload 4, 2) := by decide +kernel
theorem dX12_clearState_68 : decode cX12_clearState 68 = .ok (.iconst 0, 1) := by decide +kernel
theorem dX12_clearState_69 : decode cX12_clearState 69 = .ok (.bastore, 1) := by decide +kernel
theorem dX12_clearState_70 : decode cX12_clearState 70 = .ok (.aload_n 0, 1) := by decide +kernel
theorem dX12_clearState_71 : decode cX12_clearState 71 = .ok (.getfield 262, 3) := by decide +kernel
theorem dX12_clearState_74 : decode cX12_clearState 74 = .ok (.iload 4, 2) := by decide +kernel
theorem dX12_clearState_76 : decode cX12_clearState 76 = .ok (.lconst 0, 1) := by decide +kernel
theorem dX12_clearState_77 : decode cX12_clearState 77 = .ok (.lastore, 1) := by decide +kernel
theorem dX12_clearState_78 : decode cX12_clearState 78 = .ok (.aload_n 0, 1) := by decide +kernel
theorem dX12_clearState_79 : decode cX12_clearState 79 = .ok (.getfield 265, 3) := by decide +kernel
theorem dX12_clearState_82 : decode cX12_clearState 82 = .ok (.iload 4, 2) := by decide +kernel
theorem dX12_clearState_84 : decode cX12_clearState 84 = .ok (.lconst 0, 1) := by decide +kernel
theorem dX12_clearState_85 : decode cX12_clearState 85 = .ok (.lastore, 1) := by decide +kernel
theorem dX12_clearState_86 : decode cX12_clearState 86 = .ok (.aload_n 0, 1) := by decide +kernel
theorem dX12_clearState_87 : decode cX12_clearState 87 = .ok (.getfield 268, 3) := by decide +kernel
theorem dX12_clearState_90 : decode cX12_clearState 90 = .ok (.iload 4, 2) := by decide +kernel
theorem dX12_clearState_92 : decode cX12_clearState 92 = .ok (.lconst 0, 1) := by decide +kernel
theorem dX12_clearState_93 : decode cX12_clearState 93 = .ok (.lastore, 1) := by decide +kernel
theorem dX12_clearState_94 : decode cX12_clearState 94 = .ok (.aload_n 0, 1) := by decide +kernel
theorem dX12_clearState_95 : decode cX12_clearState 95 = .ok (.getfield 271, 3) := by decide +kernel
theorem dX12_clearState_98 : decode cX12_clearState 98 = .ok (.iload 4, 2) := by decide +kernel
theorem dX12_clearState_100 : decode cX12_clearState 100 = .ok (.lconst 0, 1) := by decide +kernel
theorem dX12_clearState_101 : decode cX12_clearState 101 = .ok (.lastore, 1) := by decide +kernel
theorem dX12_clearState_102 : decode cX12_clearState 102 = .ok (.iinc 3 1, 3) := by decide +kernel
theorem dX12_clearState_105 : decode cX12_clearState 105 = .ok (.goto (-67), 3) := by decide +kernel
theorem dX12_clearState_108 : decode cX12_clearState 108 = .ok (.aload_n 0, 1) := by decide +kernel
theorem dX12_clearState_109 : decode cX12_clearState 109 = .ok (.aload_n 0, 1) := by decide +kernel
theorem dX12_clearState_110 : decode cX12_clearState 110 = .ok (.iload_n 1, 1) := by decide +kernel
theorem dX12_clearState_111 : decode cX12_clearState 111 = .ok (.invokevirtual 1098, 3) := by decide +kernel
theorem dX12_clearState_114 : decode cX12_clearState 114 = .ok (.invokevirtual 1066, 3) := by decide +kernel
theorem dX12_clearState_117 : decode cX12_clearState 117 = .ok (.aload_n 0, 1) := by decide +kernel
theorem dX12_clearState_118 : decode cX12_clearState 118 = .ok (.getfield 241, 3) := by decide +kernel
theorem dX12_clearState_121 : decode cX12_clearState 121 = .ok (.iload_n 1, 1) := by decide +kernel
theorem dX12_clearState_122 : decode cX12_clearState 122 = .ok (.lconst 0, 1) := by decide +kernel
theorem dX12_clearState_123 : decode cX12_clearState 123 = .ok (.lastore, 1) := by decide +kernel
theorem dX12_clearState_124 : decode cX12_clearState 124 = .ok (.aload_n 0, 1) := by decide +kernel
theorem dX12_clearState_125 : decode cX12_clearState 125 = .ok (.getfield 244, 3) := by decide +kernel
theorem dX12_clearState_128 : decode cX12_clearState 128 = .ok (.iload_n 1, 1) := by decide +kernel
theorem dX12_clearState_129 : decode cX12_clearState 129 = .ok (.lconst 0, 1) := by decide +kernel
theorem dX12_clearState_130 : decode cX12_clearState 130 = .ok (.lastore, 1) := by decide +kernel
theorem dX12_clearState_131 : decode cX12_clearState 131 = .ok (.return_, 1) := by decide +kernel
theorem dX12_load_0 : decode cX12_load 0 = .ok (.aload_n 0, 1) := by decide +kernel
theorem dX12_load_1 : decode cX12_load 1 = .ok (.iload_n 1, 1) := by decide +kernel
theorem dX12_load_2 : decode cX12_load 2 = .ok (.invokevirtual 1085, 3) := by decide +kernel
theorem dX12_load_5 : decode cX12_load 5 = .ok (.istore_n 2, 1) := by decide +kernel
theorem dX12_load_6 : decode cX12_load 6 = .ok (.iconst 0, 1) := by decide +kernel
theorem dX12_load_7 : decode cX12_load 7 = .ok (.istore_n 3, 1) := by decide +kernel
theorem dX12_load_8 : decode cX12_load 8 = .ok (.iload_n 3, 1) := by decide +kernel
theorem dX12_load_9 : decode cX12_load 9 = .ok (.aload_n 0, 1) := by decide +kernel
theorem dX12_load_10 : decode cX12_load 10 = .ok (.getfield 765, 3) := by decide +kernel
theorem dX12_load_13 : decode cX12_load 13 = .ok (.aload_n 0, 1) := by decide +kernel
theorem dX12_load_14 : decode cX12_load 14 = .ok (.getfield 762, 3) := by decide +kernel
theorem dX12_load_17 : decode cX12_load 17 = .ok (.iconst 1, 1) := by decide +kernel
theorem dX12_load_18 : decode cX12_load 18 = .ok (.iadd, 1) := by decide +kernel
theorem dX12_load_19 : decode cX12_load 19 = .ok (.imul, 1) := by decide +kernel
theorem dX12_load_20 : decode cX12_load 20 = .ok (.if_icmp .ge 21, 3) := by decide +kernel
theorem dX12_load_23 : decode cX12_load 23 = .ok (.aload_n 0, 1) := by decide +kernel
theorem dX12_load_24 : decode cX12_load 24 = .ok (.iload_n 2, 1) := by decide +kernel
theorem dX12_load_25 : decode cX12_load 25 = .ok (.iload_n 3, 1) := by decide +kernel
theorem dX12_load_26 : decode cX12_load 26 = .ok (.iadd, 1) := by decide +kernel
theorem dX12_load_27 : decode cX12_load 27 = .ok (.ldc_w 1084, 3) := by decide +kernel
theorem dX12_load_30 : decode cX12_load 30 = .ok (.iload_n 3, 1) := by decide +kernel
theorem dX12_load_31 : decode cX12_load 31 = .ok (.iadd, 1) := by decide +kernel
theorem dX12_load_32 : decode cX12_load 32 = .ok (.invokevirtual 1092, 3) := by decide +kernel
theorem dX12_load_35 : decode cX12_load 35 = .ok (.iinc 3 1, 3) := by decide +kernel
theorem dX12_load_38 : decode cX12_load 38 = .ok (.goto (-30), 3) := by decide +kernel
theorem dX12_load_41 : decode cX12_load 41 = .ok (.aload_n 0, 1) := by decide +kernel
theorem dX12_load_42 : decode cX12_load 42 = .ok (.iload_n 1, 1) := by decide +kernel
theorem dX12_load_43 : decode cX12_load 43 = .ok (.invokevirtual 1095, 3) := by decide +kernel
theorem dX12_load_46 : decode cX12_load 46 = .ok (.aload_n 0, 1) := by decide +kernel
theorem dX12_load_47 : decode cX12_load 47 = .ok (.getfield 235, 3) := by decide +kernel
theorem dX12_load_50 : decode cX12_load 50 = .ok (.sipush 639, 3) := by decide +kernel
theorem dX12_load_53 : decode cX12_load 53 = .ok (.aload_n 0, 1) := by decide +kernel
theorem dX12_load_54 : decode cX12_load 54 = .ok (.getfield 235, 3) := by decide +kernel
theorem dX12_load_57 : decode cX12_load 57 = .ok (.iload_n 1, 1) := by decide +kernel
theorem dX12_load_58 : decode cX12_load 58 = .ok (.iaload, 1) := by decide +kernel
theorem dX12_load_59 : decode cX12_load 59 = .ok (.iastore, 1) := by decide +kernel
theorem dX12_load_60 : decode cX12_load 60 = .ok (.iconst 0, 1) := by decide +kernel
theorem dX12_load_61 : decode cX12_load 61 = .ok (.istore_n 3, 1) := by decide +kernel
theorem dX12_load_62 : decode cX12_load 62 = .ok (.iload_n 3, 1) := by decide +kernel
theorem dX12_load_63 : decode cX12_load 63 = .ok (.aload_n 0, 1) := by decide +kernel
theorem dX12_load_64 : decode cX12_load 64 = .ok (.getfield 235, 3) := by decide +kernel
theorem dX12_load_67 : decode cX12_load 67 = .ok (.iload_n 1, 1) := by decide +kernel
theorem dX12_load_68 : decode cX12_load 68 = .ok (.iaload, 1) := by decide +kernel
theorem dX12_load_69 : decode cX12_load 69 = .ok (.if_icmp .ge 31, 3) := by decide +kernel
theorem dX12_load_72 : decode cX12_load 72 = .ok (.aload_n 0, 1) := by decide +kernel
theorem dX12_load_73 : decode cX12_load 73 = .ok (.aload_n 0, 1) := by decide +kernel
theorem dX12_load_74 : decode cX12_load 74 = .ok (.getfield 238, 3) := by decide +kernel
theorem dX12_load_77 : decode cX12_load 77 = .ok (.iload_n 1, 1) := by decide +kernel
theorem dX12_load_78 : decode cX12_load 78 = .ok (.iaload, 1) := by decide +kernel
theorem dX12_load_79 : decode cX12_load 79 = .ok (.iload_n 3, 1) := by decide +kernel
theorem dX12_load_80 : decode cX12_load 80 = .ok (.iadd, 1) := by decide +kernel
theorem dX12_load_81 : decode cX12_load 81 = .ok (.aload_n 0, 1) := by decide +kernel
theorem dX12_load_82 : decode cX12_load 82 = .ok (.getfield 238, 3) := by decide +kernel
theorem dX12_load_85 : decode cX12_load 85 = .ok (.sipush 639, 3) := by decide +kernel
theorem dX12_load_88 : decode cX12_load 88 = .ok (.iaload, 1) := by decide +kernel
theorem dX12_load_89 : decode cX12_load 89 = .ok (.iload_n 3, 1) := by decide +kernel
theorem dX12_load_90 : decode cX12_load 90 = .ok (.iadd, 1) := by decide +kernel
theorem dX12_load_91 : decode cX12_load 91 = .ok (.invokevirtual 1092, 3) := by decide +kernel
theorem dX12_load_94 : decode cX12_load 94 = .ok (.iinc 3 1, 3) := by decide +kernel
theorem dX12_load_97 : decode cX12_load 97 = .ok (.goto (-35), 3) := by decide +kernel
theorem dX12_load_100 : decode cX12_load 100 = .ok (.aload_n 0, 1) := by decide +kernel
theorem dX12_load_101 : decode cX12_load 101 = .ok (.aload_n 0, 1) := by decide +kernel
theorem dX12_load_102 : decode cX12_load 102 = .ok (.iload_n 1, 1) := by decide +kernel
theorem dX12_load_103 : decode cX12_load 103 = .ok (.invokevirtual 1098, 3) := by decide +kernel
theorem dX12_load_106 : decode cX12_load 106 = .ok (.aload_n 0, 1) := by decide +kernel
theorem dX12_load_107 : decode cX12_load 107 = .ok (.sipush 639, 3) := by decide +kernel
theorem dX12_load_110 : decode cX12_load 110 = .ok (.invokevirtual 1098, 3) := by decide +kernel
theorem dX12_load_113 : decode cX12_load 113 = .ok (.invokevirtual 1092, 3) := by decide +kernel
theorem dX12_load_116 : decode cX12_load 116 = .ok (.aload_n 0, 1) := by decide +kernel
theorem dX12_load_117 : decode cX12_load 117 = .ok (.getfield 241, 3) := by decide +kernel
theorem dX12_load_120 : decode cX12_load 120 = .ok (.sipush 639, 3) := by decide +kernel
theorem dX12_load_123 : decode cX12_load 123 = .ok (.aload_n 0, 1) := by decide +kernel
theorem dX12_load_124 : decode cX12_load 124 = .ok (.getfield 241, 3) := by decide +kernel
theorem dX12_load_127 : decode cX12_load 127 = .ok (.iload_n 1, 1) := by decide +kernel
theorem dX12_load_128 : decode cX12_load 128 = .ok (.laload, 1) := by decide +kernel
theorem dX12_load_129 : decode cX12_load 129 = .ok (.lastore, 1) := by decide +kernel
theorem dX12_load_130 : decode cX12_load 130 = .ok (.aload_n 0, 1) := by decide +kernel
theorem dX12_load_131 : decode cX12_load 131 = .ok (.getfield 244, 3) := by decide +kernel
theorem dX12_load_134 : decode cX12_load 134 = .ok (.sipush 639, 3) := by decide +kernel
theorem dX12_load_137 : decode cX12_load 137 = .ok (.aload_n 0, 1) := by decide +kernel
theorem dX12_load_138 : decode cX12_load 138 = .ok (.getfield 244, 3) := by decide +kernel
theorem dX12_load_141 : decode cX12_load 141 = .ok (.iload_n 1, 1) := by decide +kernel
theorem dX12_load_142 : decode cX12_load 142 = .ok (.laload, 1) := by decide +kernel
theorem dX12_load_143 : decode cX12_load 143 = .ok (.lastore, 1) := by decide +kernel
theorem dX12_load_144 : decode cX12_load 144 = .ok (.aload_n 0, 1) := by decide +kernel
theorem dX12_load_145 : decode cX12_load 145 = .ok (.getfield 247, 3) := by decide +kernel
theorem dX12_load_148 : decode cX12_load 148 = .ok (.sipush 639, 3) := by decide +kernel
theorem dX12_load_151 : decode cX12_load 151 = .ok (.aload_n 0, 1) := by decide +kernel
theorem dX12_load_152 : decode cX12_load 152 = .ok (.getfield 247, 3) := by decide +kernel
theorem dX12_load_155 : decode cX12_load 155 = .ok (.iload_n 1, 1) := by decide +kernel
theorem dX12_load_156 : decode cX12_load 156 = .ok (.iaload, 1) := by decide +kernel
theorem dX12_load_157 : decode cX12_load 157 = .ok (.iastore, 1) := by decide +kernel
theorem dX12_load_158 : decode cX12_load 158 = .ok (.iconst 0, 1) := by decide +kernel
theorem dX12_load_159 : decode cX12_load 159 = .ok (.istore_n 3, 1) := by decide +kernel
theorem dX12_load_160 : decode cX12_load 160 = .ok (.iload_n 3, 1) := by decide +kernel
theorem dX12_load_161 : decode cX12_load 161 = .ok (.aload_n 0, 1) := by decide +kernel
theorem dX12_load_162 : decode cX12_load 162 = .ok (.getfield 247, 3) := by decide +kernel
theorem dX12_load_165 : decode cX12_load 165 = .ok (.iload_n 1, 1) := by decide +kernel
theorem dX12_load_166 : decode cX12_load 166 = .ok (.iaload, 1) := by decide +kernel
theorem dX12_load_167 : decode cX12_load 167 = .ok (.if_icmp .ge 51, 3) := by decide +kernel
theorem dX12_load_170 : decode cX12_load 170 = .ok (.aload_n 0, 1) := by decide +kernel
theorem dX12_load_171 : decode cX12_load 171 = .ok (.getfield 250, 3) := by decide +kernel
theorem dX12_load_174 : decode cX12_load 174 = .ok (.sipush 25560, 3) := by decide +kernel
theorem dX12_load_177 : decode cX12_load 177 = .ok (.iload_n 3, 1) := by decide +kernel
theorem dX12_load_178 : decode cX12_load 178 = .ok (.iadd, 1) := by decide +kernel
theorem dX12_load_179 : decode cX12_load 179 = .ok (.aload_n 0, 1) := by decide +kernel
theorem dX12_load_180 : decode cX12_load 180 = .ok (.getfield 250, 3) := by decide +kernel
theorem dX12_load_183 : decode cX12_load 183 = .ok (.bipush 40, 2) := by decide +kernel
theorem dX12_load_185 : decode cX12_load 185 = .ok (.iload_n 1, 1) := by decide +kernel
theorem dX12_load_186 : decode cX12_load 186 = .ok (.imul, 1) := by decide +kernel
theorem dX12_load_187 : decode cX12_load 187 = .ok (.iload_n 3, 1) := by decide +kernel
theorem dX12_load_188 : decode cX12_load 188 = .ok (.iadd, 1) := by decide +kernel
theorem dX12_load_189 : decode cX12_load 189 = .ok (.iaload, 1) := by decide +kernel
theorem dX12_load_190 : decode cX12_load 190 = .ok (.iastore, 1) := by decide +kernel
theorem dX12_load_191 : decode cX12_load 191 = .ok (.aload_n 0, 1) := by decide +kernel
theorem dX12_load_192 : decode cX12_load 192 = .ok (.getfield 253, 3) := by decide +kernel
theorem dX12_load_195 : decode cX12_load 195 = .ok (.sipush 25560, 3) := by decide +kernel
theorem dX12_load_198 : decode cX12_load 198 = .ok (.iload_n 3, 1) := by decide +kernel
theorem dX12_load_199 : decode cX12_load 199 = .ok (.iadd, 1) := by decide +kernel
theorem dX12_load_200 : decode cX12_load 200 = .ok (.aload_n 0, 1) := by decide +kernel
theorem dX12_load_201 : decode cX12_load 201 = .ok (.getfield 253, 3) := by decide +kernel
theorem dX12_load_204 : decode cX12_load 204 = .ok (.bipush 40, 2) := by decide +kernel
theorem dX12_load_206 : decode cX12_load 206 = .ok (.iload_n 1, 1) := by decide +kernel
theorem dX12_load_207 : decode cX12_load 207 = .ok (.imul, 1) := by decide +kernel
theorem dX12_load_208 : decode cX12_load 208 = .ok (.iload_n 3, 1) := by decide +kernel
theorem dX12_load_209 : decode cX12_load 209 = .ok (.iadd, 1) := by decide +kernel
theorem dX12_load_210 : decode cX12_load 210 = .ok (.iaload, 1) := by decide +kernel
theorem dX12_load_211 : decode cX12_load 211 = .ok (.iastore, 1) := by decide +kernel
theorem dX12_load_212 : decode cX12_load 212 = .ok (.iinc 3 1, 3) := by decide +kernel
theorem dX12_load_215 : decode cX12_load 215 = .ok (.goto (-55), 3) := by decide +kernel
theorem dX12_load_218 : decode cX12_load 218 = .ok (.return_, 1) := by decide +kernel
theorem dX12_flow_0 : decode cX12_flow 0 = .ok (.aload_n 0, 1) := by decide +kernel
theorem dX12_flow_1 : decode cX12_flow 1 = .ok (.getfield 226, 3) := by decide +kernel
theorem dX12_flow_4 : decode cX12_flow 4 = .ok (.iload_n 1, 1) := by decide +kernel
theorem dX12_flow_5 : decode cX12_flow 5 = .ok (.baload, 1) := by decide +kernel
theorem dX12_flow_6 : decode cX12_flow 6 = .ok (.ifCond .ne 7, 3) := by decide +kernel
theorem dX12_flow_9 : decode cX12_flow 9 = .ok (.iconst 1, 1) := by decide +kernel
theorem dX12_flow_10 : decode cX12_flow 10 = .ok (.goto 4, 3) := by decide +kernel
theorem dX12_flow_13 : decode cX12_flow 13 = .ok (.iconst 0, 1) := by decide +kernel
theorem dX12_flow_14 : decode cX12_flow 14 = .ok (.istore_n 2, 1) := by decide +kernel
theorem dX12_flow_15 : decode cX12_flow 15 = .ok (.iload_n 2, 1) := by decide +kernel
theorem dX12_flow_16 : decode cX12_flow 16 = .ok (.ifCond .eq 158, 3) := by decide +kernel
theorem dX12_flow_19 : decode cX12_flow 19 = .ok (.aload_n 0, 1) := by decide +kernel
theorem dX12_flow_20 : decode cX12_flow 20 = .ok (.getfield 226, 3) := by decide +kernel
theorem dX12_flow_23 : decode cX12_flow 23 = .ok (.iload_n 1, 1) := by decide +kernel
theorem dX12_flow_24 : decode cX12_flow 24 = .ok (.iconst 1, 1) := by decide +kernel
theorem dX12_flow_25 : decode cX12_flow 25 = .ok (.bastore, 1) := by decide +kernel
theorem dX12_flow_26 : decode cX12_flow 26 = .ok (.aload_n 0, 1) := by decide +kernel
theorem dX12_flow_27 : decode cX12_flow 27 = .ok (.iload_n 1, 1) := by decide +kernel
theorem dX12_flow_28 : decode cX12_flow 28 = .ok (.invokevirtual 1104, 3) := by decide +kernel
theorem dX12_flow_31 : decode cX12_flow 31 = .ok (.aload_n 0, 1) := by decide +kernel
theorem dX12_flow_32 : decode cX12_flow 32 = .ok (.getfield 235, 3) := by decide +kernel
theorem dX12_flow_35 : decode cX12_flow 35 = .ok (.iload_n 1, 1) := by decide +kernel
theorem dX12_flow_36 : decode cX12_flow 36 = .ok (.aload_n 0, 1) := by decide +kernel
theorem dX12_flow_37 : decode cX12_flow 37 = .ok (.getfield 235, 3) := by decide +kernel
theorem dX12_flow_40 : decode cX12_flow 40 = .ok (.sipush 639, 3) := by decide +kernel
theorem dX12_flow_43 : decode cX12_flow 43 = .ok (.iaload, 1) := by decide +kernel
theorem dX12_flow_44 : decode cX12_flow 44 = .ok (.iastore, 1) := by decide +kernel
theorem dX12_flow_45 : decode cX12_flow 45 = .ok (.aload_n 0, 1) := by decide +kernel
theorem dX12_flow_46 : decode cX12_flow 46 = .ok (.getfield 238, 3) := by decide +kernel
theorem dX12_flow_49 : decode cX12_flow 49 = .ok (.iload_n 1, 1) := by decide +kernel
theorem dX12_flow_50 : decode cX12_flow 50 = .ok (.aload_n 0, 1) := by decide +kernel
theorem dX12_flow_51 : decode cX12_flow 51 = .ok (.getfield 1107, 3) := by decide +kernel
theorem dX12_flow_54 : decode cX12_flow 54 = .ok (.iastore, 1) := by decide +kernel
theorem dX12_flow_55 : decode cX12_flow 55 = .ok (.aload_n 0, 1) := by decide +kernel
theorem dX12_flow_56 : decode cX12_flow 56 = .ok (.dup, 1) := by decide +kernel
theorem dX12_flow_57 : decode cX12_flow 57 = .ok (.getfield 1107, 3) := by decide +kernel
theorem dX12_flow_60 : decode cX12_flow 60 = .ok (.aload_n 0, 1) := by decide +kernel
theorem dX12_flow_61 : decode cX12_flow 61 = .ok (.getfield 235, 3) := by decide +kernel
theorem dX12_flow_64 : decode cX12_flow 64 = .ok (.iload_n 1, 1) := by decide +kernel
theorem dX12_flow_65 : decode cX12_flow 65 = .ok (.iaload, 1) := by decide +kernel
theorem dX12_flow_66 : decode cX12_flow 66 = .ok (.iadd, 1) := by decide +kernel
theorem dX12_flow_67 : decode cX12_flow 67 = .ok (.putfield 1107, 3) := by decide +kernel
theorem dX12_flow_70 : decode cX12_flow 70 = .ok (.iconst 0, 1) := by decide +kernel
theorem dX12_flow_71 : decode cX12_flow 71 = .ok (.istore_n 3, 1) := by decide +kernel
theorem dX12_flow_72 : decode cX12_flow 72 = .ok (.iload_n 3, 1) := by decide +kernel
theorem dX12_flow_73 : decode cX12_flow 73 = .ok (.aload_n 0, 1) := by decide +kernel
theorem dX12_flow_74 : decode cX12_flow 74 = .ok (.getfield 235, 3) := by decide +kernel
theorem dX12_flow_77 : decode cX12_flow 77 = .ok (.iload_n 1, 1) := by decide +kernel
theorem dX12_flow_78 : decode cX12_flow 78 = .ok (.iaload, 1) := by decide +kernel
theorem dX12_flow_79 : decode cX12_flow 79 = .ok (.if_icmp .ge 21, 3) := by decide +kernel
theorem dX12_flow_82 : decode cX12_flow 82 = .ok (.aload_n 0, 1) := by decide +kernel
theorem dX12_flow_83 : decode cX12_flow 83 = .ok (.aload_n 0, 1) := by decide +kernel
theorem dX12_flow_84 : decode cX12_flow 84 = .ok (.getfield 238, 3) := by decide +kernel
theorem dX12_flow_87 : decode cX12_flow 87 = .ok (.iload_n 1, 1) := by decide +kernel
theorem dX12_flow_88 : decode cX12_flow 88 = .ok (.iaload, 1) := by decide +kernel
theorem dX12_flow_89 : decode cX12_flow 89 = .ok (.iload_n 3, 1) := by decide +kernel
theorem dX12_flow_90 : decode cX12_flow 90 = .ok (.iadd, 1) := by decide +kernel
theorem dX12_flow_91 : decode cX12_flow 91 = .ok (.invokevirtual 1066, 3) := by decide +kernel
theorem dX12_flow_94 : decode cX12_flow 94 = .ok (.iinc 3 1, 3) := by decide +kernel
theorem dX12_flow_97 : decode cX12_flow 97 = .ok (.goto (-25), 3) := by decide +kernel
theorem dX12_flow_100 : decode cX12_flow 100 = .ok (.aload_n 0, 1) := by decide +kernel
theorem dX12_flow_101 : decode cX12_flow 101 = .ok (.getfield 247, 3) := by decide +kernel
theorem dX12_flow_104 : decode cX12_flow 104 = .ok (.iload_n 1, 1) := by decide +kernel
theorem dX12_flow_105 : decode cX12_flow 105 = .ok (.aload_n 0, 1) := by decide +kernel
theorem dX12_flow_106 : decode cX12_flow 106 = .ok (.getfield 247, 3) := by decide +kernel
theorem dX12_flow_109 : decode cX12_flow 109 = .ok (.sipush 639, 3) := by decide +kernel
theorem dX12_flow_112 : decode cX12_flow 112 = .ok (.iaload, 1) := by decide +kernel
theorem dX12_flow_113 : decode cX12_flow 113 = .ok (.iastore, 1) := by decide +kernel
theorem dX12_flow_114 : decode cX12_flow 114 = .ok (.iconst 0, 1) := by decide +kernel
theorem dX12_flow_115 : decode cX12_flow 115 = .ok (.istore_n 3, 1) := by decide +kernel
theorem dX12_flow_116 : decode cX12_flow 116 = .ok (.iload_n 3, 1) := by decide +kernel
theorem dX12_flow_117 : decode cX12_flow 117 = .ok (.aload_n 0, 1) := by decide +kernel
theorem dX12_flow_118 : decode cX12_flow 118 = .ok (.getfield 247, 3) := by decide +kernel
theorem dX12_flow_121 : decode cX12_flow 121 = .ok (.iload_n 1, 1) := by decide +kernel
theorem dX12_flow_122 : decode cX12_flow 122 = .ok (.iaload, 1) := by decide +kernel
theorem dX12_flow_123 : decode cX12_flow 123 = .ok (.if_icmp .ge 51, 3) := by decide +kernel
theorem dX12_flow_126 : decode cX12_flow 126 = .ok (.aload_n 0, 1) := by decide +kernel
theorem dX12_flow_127 : decode cX12_flow 127 = .ok (.getfield 250, 3) := by decide +kernel
theorem dX12_flow_130 : decode cX12_flow 130 = .ok (.bipush 40, 2) := by decide +kernel
theorem dX12_flow_132 : decode cX12_flow 132 = .ok (.iload_n 1, 1) := by decide +kernel
theorem dX12_flow_133 : decode cX12_flow 133 = .ok (.imul, 1) := by decide +kernel
theorem dX12_flow_134 : decode cX12_flow 134 = .ok (.iload_n 3, 1) := by decide +kernel
theorem dX12_flow_135 : decode cX12_flow 135 = .ok (.iadd, 1) := by decide +kernel
theorem dX12_flow_136 : decode cX12_flow 136 = .ok (.aload_n 0, 1) := by decide +kernel
theorem dX12_flow_137 : decode cX12_flow 137 = .ok (.getfield 250, 3) := by decide +kernel
theorem dX12_flow_140 : decode cX12_flow 140 = .ok (.sipush 25560, 3) := by decide +kernel
theorem dX12_flow_143 : decode cX12_flow 143 = .ok (.iload_n 3, 1) := by decide +kernel
theorem dX12_flow_144 : decode cX12_flow 144 = .ok (.iadd, 1) := by decide +kernel
theorem dX12_flow_145 : decode cX12_flow 145 = .ok (.iaload, 1) := by decide +kernel
theorem dX12_flow_146 : decode cX12_flow 146 = .ok (.iastore, 1) := by decide +kernel
theorem dX12_flow_147 : decode cX12_flow 147 = .ok (.aload_n 0, 1) := by decide +kernel
theorem dX12_flow_148 : decode cX12_flow 148 = .ok (.getfield 253, 3) := by decide +kernel
theorem dX12_flow_151 : decode cX12_flow 151 = .ok (.bipush 40, 2) := by decide +kernel
theorem dX12_flow_153 : decode cX12_flow 153 = .ok (.iload_n 1, 1) := by decide +kernel
theorem dX12_flow_154 : decode cX12_flow 154 = .ok (.imul, 1) := by decide +kernel
theorem dX12_flow_155 : decode cX12_flow 155 = .ok (.iload_n 3, 1) := by decide +kernel
theorem dX12_flow_156 : decode cX12_flow 156 = .ok (.iadd, 1) := by decide +kernel
theorem dX12_flow_157 : decode cX12_flow 157 = .ok (.aload_n 0, 1) := by decide +kernel
theorem dX12_flow_158 : decode cX12_flow 158 = .ok (.getfield 253, 3) := by decide +kernel
theorem dX12_flow_161 : decode cX12_flow 161 = .ok (.sipush 25560, 3) := by decide +kernel
theorem dX12_flow_164 : decode cX12_flow 164 = .ok (.iload_n 3, 1) := by decide +kernel
theorem dX12_flow_165 : decode cX12_flow 165 = .ok (.iadd, 1) := by decide +kernel
theorem dX12_flow_166 : decode cX12_flow 166 = .ok (.iaload, 1) := by decide +kernel
theorem dX12_flow_167 : decode cX12_flow 167 = .ok (.iastore, 1) := by decide +kernel
theorem dX12_flow_168 : decode cX12_flow 168 = .ok (.iinc 3 1, 3) := by decide +kernel
theorem dX12_flow_171 : decode cX12_flow 171 = .ok (.goto (-55), 3) := by decide +kernel
theorem dX12_flow_174 : decode cX12_flow 174 = .ok (.aload_n 0, 1) := by decide +kernel
theorem dX12_flow_175 : decode cX12_flow 175 = .ok (.iload_n 1, 1) := by decide +kernel
theorem dX12_flow_176 : decode cX12_flow 176 = .ok (.invokevirtual 1085, 3) := by decide +kernel
theorem dX12_flow_179 : decode cX12_flow 179 = .ok (.istore_n 3, 1) := by decide +kernel
theorem dX12_flow_180 : decode cX12_flow 180 = .ok (.iconst 0, 1) := by decide +kernel
theorem dX12_flow_181 : decode cX12_flow 181 = .ok (.istore 4, 2) := by decide +kernel
theorem dX12_flow_183 : decode cX12_flow 183 = .ok (.iload 4, 2) := by decide +kernel
theorem dX12_flow_185 : decode cX12_flow 185 = .ok (.aload_n 0, 1) := by decide +kernel
theorem dX12_flow_186 : decode cX12_flow 186 = .ok (.getfield 765, 3) := by decide +kernel
theorem dX12_flow_189 : decode cX12_flow 189 = .ok (.aload_n 0, 1) := by decide +kernel
theorem dX12_flow_190 : decode cX12_flow 190 = .ok (.getfield 762, 3) := by decide +kernel
theorem dX12_flow_193 : decode cX12_flow 193 = .ok (.iconst 1, 1) := by decide +kernel
theorem dX12_flow_194 : decode cX12_flow 194 = .ok (.iadd, 1) := by decide +kernel
theorem dX12_flow_195 : decode cX12_flow 195 = .ok (.imul, 1) := by decide +kernel
theorem dX12_flow_196 : decode cX12_flow 196 = .ok (.if_icmp .ge 36, 3) := by decide +kernel
theorem dX12_flow_199 : decode cX12_flow 199 = .ok (.aload_n 0, 1) := by decide +kernel
theorem dX12_flow_200 : decode cX12_flow 200 = .ok (.ldc_w 1084, 3) := by decide +kernel
theorem dX12_flow_203 : decode cX12_flow 203 = .ok (.iload 4, 2) := by decide +kernel
theorem dX12_flow_205 : decode cX12_flow 205 = .ok (.iadd, 1) := by decide +kernel
theorem dX12_flow_206 : decode cX12_flow 206 = .ok (.iload_n 3, 1) := by decide +kernel
theorem dX12_flow_207 : decode cX12_flow 207 = .ok (.iload 4, 2) := by decide +kernel
theorem dX12_flow_209 : decode cX12_flow 209 = .ok (.iadd, 1) := by decide +kernel
theorem dX12_flow_210 : decode cX12_flow 210 = .ok (.invokevirtual 1069, 3) := by decide +kernel
theorem dX12_flow_213 : decode cX12_flow 213 = .ok (.ifCond .ne 7, 3) := by decide +kernel
theorem dX12_flow_216 : decode cX12_flow 216 = .ok (.iload_n 2, 1) := by decide +kernel
theorem dX12_flow_217 : decode cX12_flow 217 = .ok (.ifCond .eq 7, 3) := by decide +kernel
theorem dX12_flow_220 : decode cX12_flow 220 = .ok (.iconst 1, 1) := by decide +kernel
theorem dX12_flow_221 : decode cX12_flow 221 = .ok (.goto 4, 3) := by decide +kernel
theorem dX12_flow_224 : decode cX12_flow 224 = .ok (.iconst 0, 1) := by decide +kernel
theorem dX12_flow_225 : decode cX12_flow 225 = .ok (.istore_n 2, 1) := by decide +kernel
theorem dX12_flow_226 : decode cX12_flow 226 = .ok (.iinc 4 1, 3) := by decide +kernel
theorem dX12_flow_229 : decode cX12_flow 229 = .ok (.goto (-46), 3) := by decide +kernel
theorem dX12_flow_232 : decode cX12_flow 232 = .ok (.iconst 0, 1) := by decide +kernel
theorem dX12_flow_233 : decode cX12_flow 233 = .ok (.istore 4, 2) := by decide +kernel
theorem dX12_flow_235 : decode cX12_flow 235 = .ok (.iload 4, 2) := by decide +kernel
theorem dX12_flow_237 : decode cX12_flow 237 = .ok (.aload_n 0, 1) := by decide +kernel
theorem dX12_flow_238 : decode cX12_flow 238 = .ok (.getfield 235, 3) := by decide +kernel
theorem dX12_flow_241 : decode cX12_flow 241 = .ok (.iload_n 1, 1) := by decide +kernel
theorem dX12_flow_242 : decode cX12_flow 242 = .ok (.iaload, 1) := by decide +kernel
theorem dX12_flow_243 : decode cX12_flow 243 = .ok (.if_icmp .ge 46, 3) := by decide +kernel
theorem dX12_flow_246 : decode cX12_flow 246 = .ok (.aload_n 0, 1) := by decide +kernel
theorem dX12_flow_247 : decode cX12_flow 247 = .ok (.aload_n 0, 1) := by decide +kernel
theorem dX12_flow_248 : decode cX12_flow 248 = .ok (.getfield 238, 3) := by decide +kernel
theorem dX12_flow_251 : decode cX12_flow 251 = .ok (.sipush 639, 3) := by decide +kernel
theorem dX12_flow_254 : decode cX12_flow 254 = .ok (.iaload, 1) := by decide +kernel
theorem dX12_flow_255 : decode cX12_flow 255 = .ok (.iload 4, 2) := by decide +kernel
theorem dX12_flow_257 : decode cX12_flow 257 = .ok (.iadd, 1) := by decide +kernel
theorem dX12_flow_258 : decode cX12_flow 258 = .ok (.aload_n 0, 1) := by decide +kernel
theorem dX12_flow_259 : decode cX12_flow 259 = .ok (.getfield 238, 3) := by decide +kernel
theorem dX12_flow_262 : decode cX12_flow 262 = .ok (.iload_n 1, 1) := by decide +kernel
theorem dX12_flow_263 : decode cX12_flow 263 = .ok (.iaload, 1) := by decide +kernel
theorem dX12_flow_264 : decode cX12_flow 264 = .ok (.iload 4, 2) := by decide +kernel
theorem dX12_flow_266 : decode cX12_flow 266 = .ok (.iadd, 1) := by decide +kernel
theorem dX12_flow_267 : decode cX12_flow 267 = .ok (.invokevirtual 1069, 3) := by decide +kernel
theorem dX12_flow_270 : decode cX12_flow 270 = .ok (.ifCond .ne 7, 3) := by decide +kernel
theorem dX12_flow_273 : decode cX12_flow 273 = .ok (.iload_n 2, 1) := by decide +kernel
theorem dX12_flow_274 : decode cX12_flow 274 = .ok (.ifCond .eq 7, 3) := by decide +kernel
theorem dX12_flow_277 : decode cX12_flow 277 = .ok (.iconst 1, 1) := by decide +kernel
theorem dX12_flow_278 : decode cX12_flow 278 = .ok (.goto 4, 3) := by decide +kernel
theorem dX12_flow_281 : decode cX12_flow 281 = .ok (.iconst 0, 1) := by decide +kernel
theorem dX12_flow_282 : decode cX12_flow 282 = .ok (.istore_n 2, 1) := by decide +kernel
theorem dX12_flow_283 : decode cX12_flow 283 = .ok (.iinc 4 1, 3) := by decide +kernel
theorem dX12_flow_286 : decode cX12_flow 286 = .ok (.goto (-51), 3) := by decide +kernel
theorem dX12_flow_289 : decode cX12_flow 289 = .ok (.aload_n 0, 1) := by decide +kernel
theorem dX12_flow_290 : decode cX12_flow 290 = .ok (.aload_n 0, 1) := by decide +kernel
theorem dX12_flow_291 : decode cX12_flow 291 = .ok (.sipush 639, 3) := by decide +kernel
theorem dX12_flow_294 : decode cX12_flow 294 = .ok (.invokevirtual 1098, 3) := by decide +kernel
theorem dX12_flow_297 : decode cX12_flow 297 = .ok (.aload_n 0, 1) := by decide +kernel
theorem dX12_flow_298 : decode cX12_flow 298 = .ok (.iload_n 1, 1) := by decide +kernel
theorem dX12_flow_299 : decode cX12_flow 299 = .ok (.invokevirtual 1098, 3) := by decide +kernel
theorem dX12_flow_302 : decode cX12_flow 302 = .ok (.invokevirtual 1069, 3) := by decide +kernel
theorem dX12_flow_305 : decode cX12_flow 305 = .ok (.ifCond .ne 7, 3) := by decide +kernel
theorem dX12_flow_308 : decode cX12_flow 308 = .ok (.iload_n 2, 1) := by decide +kernel
theorem dX12_flow_309 : decode cX12_flow 309 = .ok (.ifCond .eq 7, 3) := by decide +kernel
theorem dX12_flow_312 : decode cX12_flow 312 = .ok (.iconst 1, 1) := by decide +kernel
theorem dX12_flow_313 : decode cX12_flow 313 = .ok (.goto 4, 3) := by decide +kernel
theorem dX12_flow_316 : decode cX12_flow 316 = .ok (.iconst 0, 1) := by decide +kernel
theorem dX12_flow_317 : decode cX12_flow 317 = .ok (.istore_n 2, 1) := by decide +kernel
theorem dX12_flow_318 : decode cX12_flow 318 = .ok (.iload_n 2, 1) := by decide +kernel
theorem dX12_flow_319 : decode cX12_flow 319 = .ok (.ifCond .ne 51, 3) := by decide +kernel
theorem dX12_flow_322 : decode cX12_flow 322 = .ok (.aload_n 0, 1) := by decide +kernel
theorem dX12_flow_323 : decode cX12_flow 323 = .ok (.getfield 241, 3) := by decide +kernel
theorem dX12_flow_326 : decode cX12_flow 326 = .ok (.sipush 639, 3) := by decide +kernel
theorem dX12_flow_329 : decode cX12_flow 329 = .ok (.laload, 1) := by decide +kernel
theorem dX12_flow_330 : decode cX12_flow 330 = .ok (.aload_n 0, 1) := by decide +kernel
theorem dX12_flow_331 : decode cX12_flow 331 = .ok (.getfield 241, 3) := by decide +kernel
theorem dX12_flow_334 : decode cX12_flow 334 = .ok (.iload_n 1, 1) := by decide +kernel
theorem dX12_flow_335 : decode cX12_flow 335 = .ok (.laload, 1) := by decide +kernel
theorem dX12_flow_336 : decode cX12_flow 336 = .ok (.ldc2_w 1110, 3) := by decide +kernel
theorem dX12_flow_339 : decode cX12_flow 339 = .ok (.lxor, 1) := by decide +kernel
theorem dX12_flow_340 : decode cX12_flow 340 = .ok (.land, 1) := by decide +kernel
theorem dX12_flow_341 : decode cX12_flow 341 = .ok (.lconst 0, 1) := by decide +kernel
theorem dX12_flow_342 : decode cX12_flow 342 = .ok (.lcmp, 1) := by decide +kernel
theorem dX12_flow_343 : decode cX12_flow 343 = .ok (.ifCond .ne 27, 3) := by decide +kernel
theorem dX12_flow_346 : decode cX12_flow 346 = .ok (.aload_n 0, 1) := by decide +kernel
theorem dX12_flow_347 : decode cX12_flow 347 = .ok (.getfield 244, 3) := by decide +kernel
theorem dX12_flow_350 : decode cX12_flow 350 = .ok (.sipush 639, 3) := by decide +kernel
theorem dX12_flow_353 : decode cX12_flow 353 = .ok (.laload, 1) := by decide +kernel
theorem dX12_flow_354 : decode cX12_flow 354 = .ok (.aload_n 0, 1) := by decide +kernel
theorem dX12_flow_355 : decode cX12_flow 355 = .ok (.getfield 244, 3) := by decide +kernel
theorem dX12_flow_358 : decode cX12_flow 358 = .ok (.iload_n 1, 1) := by decide +kernel
theorem dX12_flow_359 : decode cX12_flow 359 = .ok (.laload, 1) := by decide +kernel
theorem dX12_flow_360 : decode cX12_flow 360 = .ok (.ldc2_w 1110, 3) := by decide +kernel
theorem dX12_flow_363 : decode cX12_flow 363 = .ok (.lxor, 1) := by decide +kernel
theorem dX12_flow_364 : decode cX12_flow 364 = .ok (.land, 1) := by decide +kernel
theorem dX12_flow_365 : decode cX12_flow 365 = .ok (.lconst 0, 1) := by decide +kernel
theorem dX12_flow_366 : decode cX12_flow 366 = .ok (.lcmp, 1) := by decide +kernel
theorem dX12_flow_367 : decode cX12_flow 367 = .ok (.ifCond .eq 7, 3) := by decide +kernel
theorem dX12_flow_370 : decode cX12_flow 370 = .ok (.iconst 1, 1) := by decide +kernel
theorem dX12_flow_371 : decode cX12_flow 371 = .ok (.goto 4, 3) := by decide +kernel
theorem dX12_flow_374 : decode cX12_flow 374 = .ok (.iconst 0, 1) := by decide +kernel
theorem dX12_flow_375 : decode cX12_flow 375 = .ok (.istore_n 2, 1) := by decide +kernel
theorem dX12_flow_376 : decode cX12_flow 376 = .ok (.aload_n 0, 1) := by decide +kernel
theorem dX12_flow_377 : decode cX12_flow 377 = .ok (.getfield 241, 3) := by decide +kernel
theorem dX12_flow_380 : decode cX12_flow 380 = .ok (.iload_n 1, 1) := by decide +kernel
theorem dX12_flow_381 : decode cX12_flow 381 = .ok (.aload_n 0, 1) := by decide +kernel
theorem dX12_flow_382 : decode cX12_flow 382 = .ok (.getfield 241, 3) := by decide +kernel
theorem dX12_flow_385 : decode cX12_flow 385 = .ok (.iload_n 1, 1) := by decide +kernel
theorem dX12_flow_386 : decode cX12_flow 386 = .ok (.laload, 1) := by decide +kernel
theorem dX12_flow_387 : decode cX12_flow 387 = .ok (.aload_n 0, 1) := by decide +kernel
theorem dX12_flow_388 : decode cX12_flow 388 = .ok (.getfield 241, 3) := by decide +kernel
theorem dX12_flow_391 : decode cX12_flow 391 = .ok (.sipush 639, 3) := by decide +kernel
theorem dX12_flow_394 : decode cX12_flow 394 = .ok (.laload, 1) := by decide +kernel
theorem dX12_flow_395 : decode cX12_flow 395 = .ok (.lor, 1) := by decide +kernel
theorem dX12_flow_396 : decode cX12_flow 396 = .ok (.lastore, 1) := by decide +kernel
theorem dX12_flow_397 : decode cX12_flow 397 = .ok (.aload_n 0, 1) := by decide +kernel
theorem dX12_flow_398 : decode cX12_flow 398 = .ok (.getfield 244, 3) := by decide +kernel
theorem dX12_flow_401 : decode cX12_flow 401 = .ok (.iload_n 1, 1) := by decide +kernel
theorem dX12_flow_402 : decode cX12_flow 402 = .ok (.aload_n 0, 1) := by decide +kernel
theorem dX12_flow_403 : decode cX12_flow 403 = .ok (.getfield 244, 3) := by decide +kernel
theorem dX12_flow_406 : decode cX12_flow 406 = .ok (.iload_n 1, 1) := by decide +kernel
theorem dX12_flow_407 : decode cX12_flow 407 = .ok (.laload, 1) := by decide +kernel
theorem dX12_flow_408 : decode cX12_flow 408 = .ok (.aload_n 0, 1) := by decide +kernel
theorem dX12_flow_409 : decode cX12_flow 409 = .ok (.getfield 244, 3) := by decide +kernel
theorem dX12_flow_412 : decode cX12_flow 412 = .ok (.sipush 639, 3) := by decide +kernel
theorem dX12_flow_415 : decode cX12_flow 415 = .ok (.laload, 1) := by decide +kernel
theorem dX12_flow_416 : decode cX12_flow 416 = .ok (.lor, 1) := by decide +kernel
theorem dX12_flow_417 : decode cX12_flow 417 = .ok (.lastore, 1) := by decide +kernel
theorem dX12_flow_418 : decode cX12_flow 418 = .ok (.iconst 0, 1) := by decide +kernel
theorem dX12_flow_419 : decode cX12_flow 419 = .ok (.istore 4, 2) := by decide +kernel
theorem dX12_flow_421 : decode cX12_flow 421 = .ok (.iload 4, 2) := by decide +kernel
theorem dX12_flow_423 : decode cX12_flow 423 = .ok (.aload_n 0, 1) := by decide +kernel
theorem dX12_flow_424 : decode cX12_flow 424 = .ok (.getfield 765, 3) := by decide +kernel
theorem dX12_flow_427 : decode cX12_flow 427 = .ok (.if_icmp .ge 42, 3) := by decide +kernel
theorem dX12_flow_430 : decode cX12_flow 430 = .ok (.aload_n 0, 1) := by decide +kernel
theorem dX12_flow_431 : decode cX12_flow 431 = .ok (.aload_n 0, 1) := by decide +kernel
theorem dX12_flow_432 : decode cX12_flow 432 = .ok (.sipush 639, 3) := by decide +kernel
theorem dX12_flow_435 : decode cX12_flow 435 = .ok (.iload 4, 2) := by decide +kernel
theorem dX12_flow_437 : decode cX12_flow 437 = .ok (.invokevirtual 1101, 3) := by decide +kernel
theorem dX12_flow_440 : decode cX12_flow 440 = .ok (.aload_n 0, 1) := by decide +kernel
theorem dX12_flow_441 : decode cX12_flow 441 = .ok (.iload_n 1, 1) := by decide +kernel
theorem dX12_flow_442 : decode cX12_flow 442 = .ok (.iload 4, 2) := by decide +kernel
theorem dX12_flow_444 : decode cX12_flow 444 = .ok (.invokevirtual 1101, 3) := by decide +kernel
theorem dX12_flow_447 : decode cX12_flow 447 = .ok (.invokevirtual 1112, 3) := by decide +kernel
theorem dX12_flow_450 : decode cX12_flow 450 = .ok (.ifCond .ne 7, 3) := by decide +kernel
theorem dX12_flow_453 : decode cX12_flow 453 = .ok (.iload_n 2, 1) := by decide +kernel
theorem dX12_flow_454 : decode cX12_flow 454 = .ok (.ifCond .eq 7, 3) := by decide +kernel
theorem dX12_flow_457 : decode cX12_flow 457 = .ok (.iconst 1, 1) := by decide +kernel
theorem dX12_flow_458 : decode cX12_flow 458 = .ok (.goto 4, 3) := by decide +kernel
theorem dX12_flow_461 : decode cX12_flow 461 = .ok (.iconst 0, 1) := by decide +kernel
theorem dX12_flow_462 : decode cX12_flow 462 = .ok (.istore_n 2, 1) := by decide +kernel
theorem dX12_flow_463 : decode cX12_flow 463 = .ok (.iinc 4 1, 3) := by decide +kernel
theorem dX12_flow_466 : decode cX12_flow 466 = .ok (.goto (-45), 3) := by decide +kernel
theorem dX12_flow_469 : decode cX12_flow 469 = .ok (.iload_n 2, 1) := by decide +kernel
theorem dX12_flow_470 : decode cX12_flow 470 = .ok (.ifCond .ne 4, 3) := by decide +kernel
theorem dX12_flow_473 : decode cX12_flow 473 = .ok (.return_, 1) := by decide +kernel
theorem dX12_flow_474 : decode cX12_flow 474 = .ok (.iload_n 1, 1) := by decide +kernel
theorem dX12_flow_475 : decode cX12_flow 475 = .ok (.aload_n 0, 1) := by decide +kernel
theorem dX12_flow_476 : decode cX12_flow 476 = .ok (.getfield 606, 3) := by decide +kernel
theorem dX12_flow_479 : decode cX12_flow 479 = .ok (.if_icmp .ge 13, 3) := by decide +kernel
theorem dX12_flow_482 : decode cX12_flow 482 = .ok (.aload_n 0, 1) := by decide +kernel
theorem dX12_flow_483 : decode cX12_flow 483 = .ok (.getfield 229, 3) := by decide +kernel
theorem dX12_flow_486 : decode cX12_flow 486 = .ok (.iload_n 1, 1) := by decide +kernel
theorem dX12_flow_487 : decode cX12_flow 487 = .ok (.iconst 1, 1) := by decide +kernel
theorem dX12_flow_488 : decode cX12_flow 488 = .ok (.bastore, 1) := by decide +kernel
theorem dX12_flow_489 : decode cX12_flow 489 = .ok (.goto 77, 3) := by decide +kernel
theorem dX12_flow_492 : decode cX12_flow 492 = .ok (.iconst 0, 1) := by decide +kernel
theorem dX12_flow_493 : decode cX12_flow 493 = .ok (.istore 4, 2) := by decide +kernel
theorem dX12_flow_495 : decode cX12_flow 495 = .ok (.iload 4, 2) := by decide +kernel
theorem dX12_flow_497 : decode cX12_flow 497 = .ok (.aload_n 0, 1) := by decide +kernel
theorem dX12_flow_498 : decode cX12_flow 498 = .ok (.getfield 606, 3) := by decide +kernel
theorem dX12_flow_501 : decode cX12_flow 501 = .ok (.if_icmp .ge 65, 3) := by decide +kernel
theorem dX12_flow_504 : decode cX12_flow 504 = .ok (.aload_n 0, 1) := by decide +kernel
theorem dX12_flow_505 : decode cX12_flow 505 = .ok (.getfield 229, 3) := by decide +kernel
theorem dX12_flow_508 : decode cX12_flow 508 = .ok (.iload 4, 2) := by decide +kernel
theorem dX12_flow_510 : decode cX12_flow 510 = .ok (.aload_n 0, 1) := by decide +kernel
theorem dX12_flow_511 : decode cX12_flow 511 = .ok (.getfield 229, 3) := by decide +kernel
theorem dX12_flow_514 : decode cX12_flow 514 = .ok (.iload 4, 2) := by decide +kernel
theorem dX12_flow_516 : decode cX12_flow 516 = .ok (.baload, 1) := by decide +kernel
theorem dX12_flow_517 : decode cX12_flow 517 = .ok (.ifCond .ne 37, 3) := by decide +kernel
theorem dX12_flow_520 : decode cX12_flow 520 = .ok (.aload_n 0, 1) := by decide +kernel
theorem dX12_flow_521 : decode cX12_flow 521 = .ok (.getfield 226, 3) := by decide +kernel
theorem dX12_flow_524 : decode cX12_flow 524 = .ok (.iload 4, 2) := by decide +kernel
theorem dX12_flow_526 : decode cX12_flow 526 = .ok (.baload, 1) := by decide +kernel
theorem dX12_flow_527 : decode cX12_flow 527 = .ok (.ifCond .eq 31, 3) := by decide +kernel
theorem dX12_flow_530 : decode cX12_flow 530 = .ok (.aload_n 0, 1) := by decide +kernel
theorem dX12_flow_531 : decode cX12_flow 531 = .ok (.getfield 89, 3) := by decide +kernel
theorem dX12_flow_534 : decode cX12_flow 534 = .ok (.iload 4, 2) := by decide +kernel
theorem dX12_flow_536 : decode cX12_flow 536 = .ok (.iaload, 1) := by decide +kernel
theorem dX12_flow_537 : decode cX12_flow 537 = .ok (.bipush 15, 2) := by decide +kernel
theorem dX12_flow_539 : decode cX12_flow 539 = .ok (.if_icmp .eq 15, 3) := by decide +kernel
theorem dX12_flow_542 : decode cX12_flow 542 = .ok (.aload_n 0, 1) := by decide +kernel
theorem dX12_flow_543 : decode cX12_flow 543 = .ok (.getfield 89, 3) := by decide +kernel
theorem dX12_flow_546 : decode cX12_flow 546 = .ok (.iload 4, 2) := by decide +kernel
theorem dX12_flow_548 : decode cX12_flow 548 = .ok (.iaload, 1) := by decide +kernel
theorem dX12_flow_549 : decode cX12_flow 549 = .ok (.bipush 16, 2) := by decide +kernel
theorem dX12_flow_551 : decode cX12_flow 551 = .ok (.if_icmp .ne 7, 3) := by decide +kernel
theorem dX12_flow_554 : decode cX12_flow 554 = .ok (.iconst 1, 1) := by decide +kernel
theorem dX12_flow_555 : decode cX12_flow 555 = .ok (.goto 4, 3) := by decide +kernel
theorem dX12_flow_558 : decode cX12_flow 558 = .ok (.iconst 0, 1) := by decide +kernel
theorem dX12_flow_559 : decode cX12_flow 559 = .ok (.bastore, 1) := by decide +kernel
theorem dX12_flow_560 : decode cX12_flow 560 = .ok (.iinc 4 1, 3) := by decide +kernel
theorem dX12_flow_563 : decode cX12_flow 563 = .ok (.goto (-68), 3) := by decide +kernel
theorem dX12_flow_566 : decode cX12_flow 566 = .ok (.return_, 1) := by decide +kernel

def q_loadRest (p1 : Int) (S : sv_S) : Option Value → sv_S → Prop := fun v S' => v = none ∧ sm_ok S' ∧ sv_mod [81, 82, 83, 84, 85, 86] S S' ∧ (sm_pl (S' 81) (S' 82) (S' 83) (S' 84) (S' 85) (S' 86) = sm_pl (S 81) (S 82) (S 83) (S 84) (S 85) (S 86))
theorem la_loadRest_0 {x0 x1 : Int} (h0 : 29 ≤ x0) : (0 : Int) ≤ 0 ∧ 0 ≤ x0 ∧ x1 = x1 := by omega
theorem la_loadRest_1 {x0 x1 : Int} (h0 : x0 ≤ x1) : 0 ≤ x1 - x0 := by omega
theorem la_loadRest_2 {x0 x1 x2 x3 : Int} (h0 : x0 = x1) : x2 ≤ x3 → x0 = x1 := by omega
theorem la_loadRest_3 {x0 x1 x2 x3 x4 x5 : Int} (h0 : x0 ≤ 127) (h1 : x1 + 2 * x2 ≤ 500) (h2 : 0 ≤ x3) (h3 : x3 ≤ 11557) (h4 : 0 ≤ x4) (h5 : x4 < x1 + 2 * x2) (h6 : 0 ≤ x5) (h7 : ¬ x0 ≤ x5) : 0 ≤ x3 ∧ x3 ≤ 11557 ∧ 0 ≤ x4 ∧ (x4 = 639 ∨ x4 < x1 + 2 * x2) ∧ 0 ≤ x5 ∧ (x5 < x0 ∨ x4 = 639 ∧ x5 < 128) := by omega
theorem la_loadRest_4 {x0 x1 x2 : Int} (h0 : x0 + 2 * x1 ≤ 500) (h1 : x2 < x0 + 2 * x1) : ¬ x2 = 639 := by omega
theorem la_loadRest_5 {x0 x1 x2 x3 x4 : Int} (h0 : x0 ≤ 127) (h1 : 0 ≤ x1) (h2 : x1 ≤ 11557) (h3 : 0 ≤ x2) (h4 : ¬ x0 ≤ x2) : 0 ≤ x1 ∧ x1 ≤ 11557 ∧ (0 : Int) ≤ 639 ∧ ((639 : Int) = 639 ∨ 639 < x3 + 2 * x4) ∧ 0 ≤ x2 ∧ (x2 < x0 ∨ (639 : Int) = 639 ∧ x2 < 128) := by omega
theorem la_loadRest_6 : (639 : Int) = 639 := by omega
theorem la_loadRest_7 : ¬ ¬ (639 : Int) = 639 := by omega
theorem la_loadRest_8 {x0 : Int} (h0 : 0 ≤ x0) (h1 : x0 < 14520) : 0 ≤ x0 ∧ x0 < 15128 := by omega
theorem la_loadRest_9 {x0 x1 x2 : Int} (h0 : x0 ≤ 127) (h1 : 0 ≤ x1) (h2 : ¬ x0 ≤ x1) (h3 : x2 = 15000 + x1) : 0 ≤ x2 ∧ x2 < 15128 := by omega
theorem la_loadRest_10 {x0 x1 : Int} (h0 : x0 ≤ 127) (h1 : 0 ≤ x1) (h2 : ¬ x0 ≤ x1) : sv_R (x1 + 1) := by omega
theorem la_loadRest_11 {x0 : Int} (h0 : 0 ≤ x0) : 0 ≤ x0 + 1 := by omega
theorem la_loadRest_12 {x0 x1 : Int} (h0 : ¬ x0 ≤ x1) : x1 + 1 ≤ x0 := by omega
theorem la_loadRest_13 {x0 x1 : Int} (h0 : 0 ≤ x0) (h1 : x1 = 15000 + x0) : 15000 ≤ x1 := by omega
theorem la_loadRest_14 {x0 x1 x2 x3 x4 x5 x6 x7 : Int} (h0 : x0 = x1) (h1 : x2 = x3) (h2 : x3 = x4) (h3 : x4 = x5) (h4 : x5 = x6) (h5 : x6 = x7) (h6 : x7 = x0) : x2 = x1 := by omega
theorem la_loadRest_15 {x0 x1 : Int} : x0 - (x1 + 1) < x0 - x1 := by omega
set_option maxHeartbeats 2000000 in
theorem f_loadRest : ∀ (p1 : Int) (S : sv_S), sm_ok S → sv_R p1 → (29 ≤ (S 1071 0) ∧ (S 1071 0) ≤ 127 ∧ 31 ≤ (S 1008 0) ∧ (S 1008 0) ≤ 90 ∧ 1 ≤ (S 1032 0) ∧ (S 1032 0) ≤ 11 ∧ 0 ≤ (S 1055 0) ∧ (S 1055 0) ≤ 19 ∧ (S 1071 0) = 29 + 6 * ((S 1032 0) - 1) + 2 * (S 1055 0) ∧ 0 ≤ (S 1046 0) ∧ (S 1046 0) + 2 * (S 1032 0) ≤ 500 ∧ sm_PD (S 1046 0) (S 1032 0) (S 1071 0) (S 1008 0) ∧ 0 ≤ (S 1071 0) * ((S 1008 0) + 1) ∧ (S 1071 0) * ((S 1008 0) + 1) ≤ 11557 ∧ 0 ≤ p1 ∧ p1 < ((S 1046 0) + 2 * (S 1032 0))) → ((0 ≤ (0 : Int) ∧ (0 : Int) ≤ (S 1071 0) ∧ sm_pl (S 81) (S 82) (S 83) (S 84) (S 85) (S 86) = sm_pl (S 81) (S 82) (S 83) (S 84) (S 85) (S 86)) ∧ (∀ l2_2 : Int, sv_R l2_2 → ∀ g1 : sv_S, (0 ≤ l2_2 ∧ l2_2 ≤ (S 1071 0) ∧ sm_pl (g1 81) (g1 82) (g1 83) (g1 84) (g1 85) (g1 86) = sm_pl (S 81) (S 82) (S 83) (S 84) (S 85) (S 86)) → (0 ≤ (S 1071 0) - l2_2) ∧ (sv_R (S 1071 0) → ((((S 1071 0) ≤ l2_2) → (sm_pl (g1 81) (g1 82) (g1 83) (g1 84) (g1 85) (g1 86) = sm_pl (S 81) (S 82) (S 83) (S 84) (S 85) (S 86))) ∧ ((¬ ((S 1071 0) ≤ l2_2)) → (29 ≤ (S 1071 0) ∧ (S 1071 0) ≤ 127 ∧ 31 ≤ (S 1008 0) ∧ (S 1008 0) ≤ 90 ∧ 1 ≤ (S 1032 0) ∧ (S 1032 0) ≤ 11 ∧ 0 ≤ (S 1055 0) ∧ (S 1055 0) ≤ 19 ∧ (S 1071 0) = 29 + 6 * ((S 1032 0) - 1) + 2 * (S 1055 0) ∧ 0 ≤ (S 1046 0) ∧ (S 1046 0) + 2 * (S 1032 0) ≤ 500 ∧ sm_PD (S 1046 0) (S 1032 0) (S 1071 0) (S 1008 0) ∧ 0 ≤ (S 1071 0) * ((S 1008 0) + 1) ∧ (S 1071 0) * ((S 1008 0) + 1) ≤ 11557 ∧ 0 ≤ p1 ∧ (p1 = 639 ∨ p1 < (S 1046 0) + 2 * (S 1032 0)) ∧ 0 ≤ l2_2 ∧ (l2_2 < (S 1071 0) ∨ (p1 = 639 ∧ l2_2 < 128))) ∧ (∀ r14 : Int, sv_R r14 → ((p1 = 639 → r14 = 15000 + l2_2) ∧ (¬ p1 = 639 → 0 ≤ r14 ∧ r14 < 14520)) → (29 ≤ (S 1071 0) ∧ (S 1071 0) ≤ 127 ∧ 31 ≤ (S 1008 0) ∧ (S 1008 0) ≤ 90 ∧ 1 ≤ (S 1032 0) ∧ (S 1032 0) ≤ 11 ∧ 0 ≤ (S 1055 0) ∧ (S 1055 0) ≤ 19 ∧ (S 1071 0) = 29 + 6 * ((S 1032 0) - 1) + 2 * (S 1055 0) ∧ 0 ≤ (S 1046 0) ∧ (S 1046 0) + 2 * (S 1032 0) ≤ 500 ∧ sm_PD (S 1046 0) (S 1032 0) (S 1071 0) (S 1008 0) ∧ 0 ≤ (S 1071 0) * ((S 1008 0) + 1) ∧ (S 1071 0) * ((S 1008 0) + 1) ≤ 11557 ∧ 0 ≤ (639 : Int) ∧ ((639 : Int) = 639 ∨ (639 : Int) < (S 1046 0) + 2 * (S 1032 0)) ∧ 0 ≤ l2_2 ∧ (l2_2 < (S 1071 0) ∨ ((639 : Int) = 639 ∧ l2_2 < 128))) ∧ (∀ r20 : Int, sv_R r20 → (((639 : Int) = 639 → r20 = 15000 + l2_2) ∧ (¬ (639 : Int) = 639 → 0 ≤ r20 ∧ r20 < 14520)) → (0 ≤ r14 ∧ r14 < 15128) ∧ ((0 ≤ (g1 81 r14) ∧ (g1 81 r14) ≤ 1) → (0 ≤ r20 ∧ r20 < 15128) ∧ ((0 ≤ (g1 82 r14) ∧ (g1 82 r14) ≤ 1) → (sv_RL (g1 83 r14) → (sv_RL (g1 84 r14) → (sv_RL (g1 85 r14) → (sv_RL (g1 86 r14) → (sv_R (l2_2 + (1 : Int))) ∧ ((0 ≤ (l2_2 + (1 : Int)) ∧ (l2_2 + (1 : Int)) ≤ (S 1071 0) ∧ sm_pl (fun i' : Int => if i' = r20 then (g1 81 r14) else (g1 81) i') (fun i' : Int => if i' = r20 then (g1 82 r14) else (g1 82) i') (fun i' : Int => if i' = r20 then (g1 83 r14) else (g1 83) i') (fun i' : Int => if i' = r20 then (g1 84 r14) else (g1 84) i') (fun i' : Int => if i' = r20 then (g1 85 r14) else (g1 85) i') (fun i' : Int => if i' = r20 then (g1 86 r14) else (g1 86) i') = sm_pl (S 81) (S 82) (S 83) (S 84) (S 85) (S 86)) ∧ ((S 1071 0) - (l2_2 + (1 : Int))) < ((S 1071 0) - l2_2))))))))))))))) := by
  intro p1
  intro S
  intro h1_
  intro h2_
  rintro ⟨h3_, ⟨h4_, ⟨h5_, ⟨h6_, ⟨h7_, ⟨h8_, ⟨h9_, ⟨h10_, ⟨h11_, ⟨h12_, ⟨h13_, ⟨h14_, ⟨h15_, ⟨h16_, ⟨h17_, h18_⟩⟩⟩⟩⟩⟩⟩⟩⟩⟩⟩⟩⟩⟩⟩
  refine ⟨(la_loadRest_0 h3_), ?_⟩
  intro l2_2
  intro h19_
  intro g1
  rintro ⟨h20_, ⟨h21_, h22_⟩⟩
  refine ⟨(la_loadRest_1 h21_), ?_⟩
  intro h23_
  refine ⟨(la_loadRest_2 h22_), ?_⟩
  intro h24_
  refine ⟨⟨h3_, ⟨h4_, ⟨h5_, ⟨h6_, ⟨h7_, ⟨h8_, ⟨h9_, ⟨h10_, ⟨h11_, ⟨h12_, ⟨h13_, ⟨h14_, (la_loadRest_3 h4_ h13_ h15_ h16_ h17_ h18_ h20_ h24_)⟩⟩⟩⟩⟩⟩⟩⟩⟩⟩⟩⟩, ?_⟩
  intro r14
  intro h25_
  rintro ⟨h26_, h27_⟩
  obtain ⟨h28_, h29_⟩ := (h27_ (la_loadRest_4 h13_ h18_))
  refine ⟨⟨h3_, ⟨h4_, ⟨h5_, ⟨h6_, ⟨h7_, ⟨h8_, ⟨h9_, ⟨h10_, ⟨h11_, ⟨h12_, ⟨h13_, ⟨h14_, (la_loadRest_5 h4_ h15_ h16_ h20_ h24_)⟩⟩⟩⟩⟩⟩⟩⟩⟩⟩⟩⟩, ?_⟩
  intro r20
  intro h30_
  rintro ⟨h31_, h32_⟩
  have h33_ := (h31_ la_loadRest_6)
  refine ⟨(la_loadRest_8 h28_ h29_), ?_⟩
  rintro ⟨h34_, h35_⟩
  refine ⟨(la_loadRest_9 h4_ h20_ h24_ h33_), ?_⟩
  rintro ⟨h36_, h37_⟩
  intro h38_
  intro h39_
  intro h40_
  intro h41_
  refine ⟨(la_loadRest_10 h4_ h20_ h24_), ?_⟩
  refine ⟨?_, ?_⟩
  · skip
    refine ⟨(la_loadRest_11 h20_), ?_⟩
    refine ⟨(la_loadRest_12 h24_), ?_⟩
    have e42_ : sm_pl (fun i' : Int => (if i' = r20 then g1 81 r14 else (g1 81) i')) (fun i' : Int => (if i' = r20 then g1 82 r14 else (g1 82) i')) (fun i' : Int => (if i' = r20 then g1 83 r14 else (g1 83) i')) (fun i' : Int => (if i' = r20 then g1 84 r14 else (g1 84) i')) (fun i' : Int => (if i' = r20 then g1 85 r14 else (g1 85) i')) (fun i' : Int => (if i' = r20 then g1 86 r14 else (g1 86) i')) = sm_pl (fun i' : Int => (if i' = r20 then g1 81 r14 else (g1 81) i')) (fun i' : Int => (if i' = r20 then g1 82 r14 else (g1 82) i')) (fun i' : Int => (if i' = r20 then g1 83 r14 else (g1 83) i')) (fun i' : Int => (if i' = r20 then g1 84 r14 else (g1 84) i')) (fun i' : Int => (if i' = r20 then g1 85 r14 else (g1 85) i')) (g1 86) := sm_pl_D (la_loadRest_13 h20_ h33_)
    have e43_ : sm_pl (fun i' : Int => (if i' = r20 then g1 81 r14 else (g1 81) i')) (fun i' : Int => (if i' = r20 then g1 82 r14 else (g1 82) i')) (fun i' : Int => (if i' = r20 then g1 83 r14 else (g1 83) i')) (fun i' : Int => (if i' = r20 then g1 84 r14 else (g1 84) i')) (fun i' : Int => (if i' = r20 then g1 85 r14 else (g1 85) i')) (g1 86) = sm_pl (fun i' : Int => (if i' = r20 then g1 81 r14 else (g1 81) i')) (fun i' : Int => (if i' = r20 then g1 82 r14 else (g1 82) i')) (fun i' : Int => (if i' = r20 then g1 83 r14 else (g1 83) i')) (fun i' : Int => (if i' = r20 then g1 84 r14 else (g1 84) i')) (g1 85) (g1 86) := sm_pl_C (la_loadRest_13 h20_ h33_)
    have e44_ : sm_pl (fun i' : Int => (if i' = r20 then g1 81 r14 else (g1 81) i')) (fun i' : Int => (if i' = r20 then g1 82 r14 else (g1 82) i')) (fun i' : Int => (if i' = r20 then g1 83 r14 else (g1 83) i')) (fun i' : Int => (if i' = r20 then g1 84 r14 else (g1 84) i')) (g1 85) (g1 86) = sm_pl (fun i' : Int => (if i' = r20 then g1 81 r14 else (g1 81) i')) (fun i' : Int => (if i' = r20 then g1 82 r14 else (g1 82) i')) (fun i' : Int => (if i' = r20 then g1 83 r14 else (g1 83) i')) (g1 84) (g1 85) (g1 86) := sm_pl_B (la_loadRest_13 h20_ h33_)
    have e45_ : sm_pl (fun i' : Int => (if i' = r20 then g1 81 r14 else (g1 81) i')) (fun i' : Int => (if i' = r20 then g1 82 r14 else (g1 82) i')) (fun i' : Int => (if i' = r20 then g1 83 r14 else (g1 83) i')) (g1 84) (g1 85) (g1 86) = sm_pl (fun i' : Int => (if i' = r20 then g1 81 r14 else (g1 81) i')) (fun i' : Int => (if i' = r20 then g1 82 r14 else (g1 82) i')) (g1 83) (g1 84) (g1 85) (g1 86) := sm_pl_A (la_loadRest_13 h20_ h33_)
    have e46_ : sm_pl (fun i' : Int => (if i' = r20 then g1 81 r14 else (g1 81) i')) (fun i' : Int => (if i' = r20 then g1 82 r14 else (g1 82) i')) (g1 83) (g1 84) (g1 85) (g1 86) = sm_pl (fun i' : Int => (if i' = r20 then g1 81 r14 else (g1 81) i')) (g1 82) (g1 83) (g1 84) (g1 85) (g1 86) := sm_pl_N (la_loadRest_13 h20_ h33_)
    have e47_ : sm_pl (fun i' : Int => (if i' = r20 then g1 81 r14 else (g1 81) i')) (g1 82) (g1 83) (g1 84) (g1 85) (g1 86) = sm_pl (g1 81) (g1 82) (g1 83) (g1 84) (g1 85) (g1 86) := sm_pl_T (la_loadRest_13 h20_ h33_)
    exact (la_loadRest_14 h22_ e42_ e43_ e44_ e45_ e46_ e47_)
  exact la_loadRest_15
set_option maxRecDepth 8000 in
set_option maxHeartbeats 2000000 in
theorem t_loadRest : ∀ (p1 : Int) (S : sv_S), sm_ok S → sv_R p1 → (29 ≤ (S 1071 0) ∧ (S 1071 0) ≤ 127 ∧ 31 ≤ (S 1008 0) ∧ (S 1008 0) ≤ 90 ∧ 1 ≤ (S 1032 0) ∧ (S 1032 0) ≤ 11 ∧ 0 ≤ (S 1055 0) ∧ (S 1055 0) ≤ 19 ∧ (S 1071 0) = 29 + 6 * ((S 1032 0) - 1) + 2 * (S 1055 0) ∧ 0 ≤ (S 1046 0) ∧ (S 1046 0) + 2 * (S 1032 0) ≤ 500 ∧ sm_PD (S 1046 0) (S 1032 0) (S 1071 0) (S 1008 0) ∧ 0 ≤ (S 1071 0) * ((S 1008 0) + 1) ∧ (S 1071 0) * ((S 1008 0) + 1) ≤ 11557 ∧ 0 ≤ p1 ∧ p1 < ((S 1046 0) + 2 * (S 1032 0))) → sv_T sm_XS sm_cs sm_L sm_sh 2 (q_loadRest p1 S) 232 0 (lv_args 0 [.ref 0, sv_I p1]) [] S := by
  intro p1 S hok hp1 hpre
  have h := f_loadRest p1 S hok hp1 hpre
  have hM := sm_h232
  show sv_T sm_XS sm_cs sm_L sm_sh 2 (q_loadRest p1 S) 232 0 [(0, .ref 0), (1, sv_I p1)] [] S
  refine sv_iconst (d := (0 : Int)) hM dX12_loadRest_0 rfl rfl ?_
  refine sv_istore_n hM dX12_loadRest_1 (by decide) rfl ?_
  show sv_T sm_XS sm_cs sm_L sm_sh 2 (q_loadRest p1 S) 232 2 [(0, .ref 0), (1, sv_I p1), (2, sv_I (0 : Int))] [] S
  obtain ⟨hin4, h⟩ := h
  have hJ : ∀ a : Int × sv_S, (sv_R a.1 ∧ sm_ok (sv_sts S [81, 82, 83, 84, 85, 86] a.2) ∧ (0 ≤ a.1 ∧ a.1 ≤ (S 1071 0) ∧ sm_pl (a.2 81) (a.2 82) (a.2 83) (a.2 84) (a.2 85) (a.2 86) = sm_pl (S 81) (S 82) (S 83) (S 84) (S 85) (S 86))) → sv_T sm_XS sm_cs sm_L sm_sh 2 (q_loadRest p1 S) 232 2 [(0, .ref 0), (1, sv_I p1), (2, sv_I a.1)] [] (sv_sts S [81, 82, 83, 84, 85, 86] a.2) := by
    refine sv_loop (α := Int × sv_S) (fun a => sv_R a.1 ∧ sm_ok (sv_sts S [81, 82, 83, 84, 85, 86] a.2) ∧ (0 ≤ a.1 ∧ a.1 ≤ (S 1071 0) ∧ sm_pl (a.2 81) (a.2 82) (a.2 83) (a.2 84) (a.2 85) (a.2 86) = sm_pl (S 81) (S 82) (S 83) (S 84) (S 85) (S 86))) (fun a => (S 1071 0) - a.1) (fun a => sv_T sm_XS sm_cs sm_L sm_sh 2 (q_loadRest p1 S) 232 2 [(0, .ref 0), (1, sv_I p1), (2, sv_I a.1)] [] (sv_sts S [81, 82, 83, 84, 85, 86] a.2)) (fun a q => (h a.1 q.1 a.2 q.2.2).1) (fun a q ih3 => ?_)
    obtain ⟨l2_2, g1⟩ := a
    obtain ⟨hl2_2, ok5, hin4i⟩ := q
    have h := (h l2_2 hl2_2 g1 hin4i).2
    show sv_T sm_XS sm_cs sm_L sm_sh 2 (q_loadRest p1 S) 232 2 [(0, .ref 0), (1, sv_I p1), (2, sv_I l2_2)] [] (sv_sts S [81, 82, 83, 84, 85, 86] g1)
    have md6 : sv_mod [81, 82, 83, 84, 85, 86] S (sv_sts S [81, 82, 83, 84, 85, 86] g1) := sv_mod.sts sv_mod.rf (by decide)
    have md7 : sv_mod [81, 82, 83, 84, 85, 86] S (sv_sts S [81, 82, 83, 84, 85, 86] g1) := sv_mod.sts sv_mod.rf (by decide)
    refine sv_iload_n hM dX12_loadRest_2 rfl rfl ?_
    refine sv_aload_n hM dX12_loadRest_3 rfl rfl ?_
    have k8 : sv_R (S 1071 0) := sm_okI ok5 sm_r1071 0
    have h := h k8
    refine sv_getI hM dX12_loadRest_4 sm_fl_765 (sm_a0 _) sm_k71 rfl (x := (S 1071 0)) rfl ?_
    refine sv_icmp_ge hM dX12_loadRest_7 hl2_2 k8 (t := 111) rfl rfl (fun hc => ?_) (fun hc => ?_)
    · have h := h.1 (hc)
      exact sv_vret hM dX12_loadRest_111 rfl ⟨rfl, ok5, md6, h⟩
    · have h := h.2 (hc)
      refine sv_aload_n hM dX12_loadRest_10 rfl rfl ?_
      refine sv_iload_n hM dX12_loadRest_11 rfl rfl ?_
      refine sv_iload_n hM dX12_loadRest_12 rfl rfl ?_
      obtain ⟨o9, h⟩ := h
      refine sv_callV hM dX12_loadRest_13 sm_iv_1101 (by decide) (sm_a0 _) rfl rfl (Nat.le_of_ble_eq_true rfl) sm_h226 (Nat.le_of_ble_eq_true rfl) (Nat.le_of_ble_eq_true rfl) (F' := 1) (Nat.le_of_ble_eq_true rfl) rfl (t_of p1 l2_2 (sv_sts S [81, 82, 83, 84, 85, 86] g1) ok5 hp1 hl2_2 o9) (fun v S1 hq => ?_)
      obtain ⟨r14, rfl, hr14, ok11, md12, hpo13⟩ := hq
      obtain rfl : (sv_sts S [81, 82, 83, 84, 85, 86] g1) = S1 := (funext fun j => md12 j (by intro q; cases q)).symm
      show sv_T sm_XS sm_cs sm_L sm_sh 2 (q_loadRest p1 S) 232 16 [(0, .ref 0), (1, sv_I p1), (2, sv_I l2_2)] [sv_I r14] (sv_sts S [81, 82, 83, 84, 85, 86] g1)
      have h := h r14 hr14 hpo13
      refine sv_istore_n hM dX12_loadRest_16 (by decide) rfl ?_
      show sv_T sm_XS sm_cs sm_L sm_sh 2 (q_loadRest p1 S) 232 17 [(0, .ref 0), (1, sv_I p1), (2, sv_I l2_2), (3, sv_I r14)] [] (sv_sts S [81, 82, 83, 84, 85, 86] g1)
      refine sv_aload_n hM dX12_loadRest_17 rfl rfl ?_
      refine sv_sipush (d := (639 : Int)) hM dX12_loadRest_18 rfl rfl ?_
      refine sv_iload_n hM dX12_loadRest_21 rfl rfl ?_
      obtain ⟨o15, h⟩ := h
      refine sv_callV hM dX12_loadRest_22 sm_iv_1101 (by decide) (sm_a0 _) rfl rfl (Nat.le_of_ble_eq_true rfl) sm_h226 (Nat.le_of_ble_eq_true rfl) (Nat.le_of_ble_eq_true rfl) (F' := 1) (Nat.le_of_ble_eq_true rfl) rfl (t_of (639 : Int) l2_2 (sv_sts S [81, 82, 83, 84, 85, 86] g1) ok11 (⟨by decide, by decide⟩ : sv_R (639 : Int)) hl2_2 o15) (fun v S1 hq => ?_)
      obtain ⟨r20, rfl, hr20, ok17, md18, hpo19⟩ := hq
      obtain rfl : (sv_sts S [81, 82, 83, 84, 85, 86] g1) = S1 := (funext fun j => md18 j (by intro q; cases q)).symm
      show sv_T sm_XS sm_cs sm_L sm_sh 2 (q_loadRest p1 S) 232 25 [(0, .ref 0), (1, sv_I p1), (2, sv_I l2_2), (3, sv_I r14)] [sv_I r20] (sv_sts S [81, 82, 83, 84, 85, 86] g1)
      have h := h r20 hr20 hpo19
      refine sv_istore hM dX12_loadRest_25 (by decide) rfl ?_
      show sv_T sm_XS sm_cs sm_L sm_sh 2 (q_loadRest p1 S) 232 27 [(0, .ref 0), (1, sv_I p1), (2, sv_I l2_2), (3, sv_I r14), (4, sv_I r20)] [] (sv_sts S [81, 82, 83, 84, 85, 86] g1)
      refine sv_aload_n hM dX12_loadRest_27 rfl rfl ?_
      refine sv_getA hM dX12_loadRest_28 sm_fl_256 (sm_a0 _) sm_k133 rfl ?_
      refine sv_iload hM dX12_loadRest_31 rfl rfl ?_
      refine sv_aload_n hM dX12_loadRest_33 rfl rfl ?_
      refine sv_getA hM dX12_loadRest_34 sm_fl_256 (sm_a0 _) sm_k133 rfl ?_
      refine sv_iload_n hM dX12_loadRest_37 rfl rfl ?_
      obtain ⟨o21, h⟩ := h
      have k22 : (0 ≤ (g1 81 r14) ∧ (g1 81 r14) ≤ 1) := sm_okZ ok17 sm_r81 r14
      have h := h k22
      refine sv_zald hM dX12_loadRest_38 (sm_a81 _) (by decide) o21.1 o21.2 rfl (x := (g1 81 r14)) rfl ?_
      obtain ⟨o23, h⟩ := h
      refine sv_zast sm_X hM dX12_loadRest_39 (sm_a81 _) (by decide) o23.1 o23.2 (sv_nnZ k22) rfl ?_
      have ok24 : sm_ok (sv_up (sv_sts S [81, 82, 83, 84, 85, 86] g1) 81 r20 (g1 81 r14)) := sm_upZ ok17 sm_r81 k22
      have md25 : sv_mod [81, 82, 83, 84, 85, 86] S (sv_up (sv_sts S [81, 82, 83, 84, 85, 86] g1) 81 r20 (g1 81 r14)) := sv_mod.up md6 (by decide)
      have md26 : sv_mod [81, 82, 83, 84, 85, 86] S (sv_up (sv_sts S [81, 82, 83, 84, 85, 86] g1) 81 r20 (g1 81 r14)) := sv_mod.up md7 (by decide)
      refine sv_aload_n hM dX12_loadRest_40 rfl rfl ?_
      refine sv_getA hM dX12_loadRest_41 sm_fl_259 (sm_a0 _) sm_k134 rfl ?_
      refine sv_iload hM dX12_loadRest_44 rfl rfl ?_
      refine sv_aload_n hM dX12_loadRest_46 rfl rfl ?_
      refine sv_getA hM dX12_loadRest_47 sm_fl_259 (sm_a0 _) sm_k134 rfl ?_
      refine sv_iload_n hM dX12_loadRest_50 rfl rfl ?_
      have k27 : (0 ≤ (g1 82 r14) ∧ (g1 82 r14) ≤ 1) := sm_okZ ok24 sm_r82 r14
      have h := h k27
      refine sv_zald hM dX12_loadRest_51 (sm_a82 _) (by decide) o21.1 o21.2 rfl (x := (g1 82 r14)) rfl ?_
      refine sv_zast sm_X hM dX12_loadRest_52 (sm_a82 _) (by decide) o23.1 o23.2 (sv_nnZ k27) rfl ?_
      have ok28 : sm_ok (sv_up (sv_up (sv_sts S [81, 82, 83, 84, 85, 86] g1) 81 r20 (g1 81 r14)) 82 r20 (g1 82 r14)) := sm_upZ ok24 sm_r82 k27
      have md29 : sv_mod [81, 82, 83, 84, 85, 86] S (sv_up (sv_up (sv_sts S [81, 82, 83, 84, 85, 86] g1) 81 r20 (g1 81 r14)) 82 r20 (g1 82 r14)) := sv_mod.up md25 (by decide)
      have md30 : sv_mod [81, 82, 83, 84, 85, 86] S (sv_up (sv_up (sv_sts S [81, 82, 83, 84, 85, 86] g1) 81 r20 (g1 81 r14)) 82 r20 (g1 82 r14)) := sv_mod.up md26 (by decide)
      refine sv_aload_n hM dX12_loadRest_53 rfl rfl ?_
      refine sv_getA hM dX12_loadRest_54 sm_fl_262 (sm_a0 _) sm_k135 rfl ?_
      refine sv_iload hM dX12_loadRest_57 rfl rfl ?_
      refine sv_aload_n hM dX12_loadRest_59 rfl rfl ?_
      refine sv_getA hM dX12_loadRest_60 sm_fl_262 (sm_a0 _) sm_k135 rfl ?_
      refine sv_iload_n hM dX12_loadRest_63 rfl rfl ?_
      have k31 : sv_RL (g1 83 r14) := sm_okJ ok28 sm_r83 r14
      have h := h k31
      refine sv_lald hM dX12_loadRest_64 (sm_a83 _) (by decide) o21.1 o21.2 rfl (x := (g1 83 r14)) rfl ?_
      refine sv_last sm_X hM dX12_loadRest_65 (sm_a83 _) (by decide) o23.1 o23.2 rfl ?_
      have ok32 : sm_ok (sv_up (sv_up (sv_up (sv_sts S [81, 82, 83, 84, 85, 86] g1) 81 r20 (g1 81 r14)) 82 r20 (g1 82 r14)) 83 r20 (g1 83 r14)) := sm_upJ ok28 sm_r83 k31
      have md33 : sv_mod [81, 82, 83, 84, 85, 86] S (sv_up (sv_up (sv_up (sv_sts S [81, 82, 83, 84, 85, 86] g1) 81 r20 (g1 81 r14)) 82 r20 (g1 82 r14)) 83 r20 (g1 83 r14)) := sv_mod.up md29 (by decide)
      have md34 : sv_mod [81, 82, 83, 84, 85, 86] S (sv_up (sv_up (sv_up (sv_sts S [81, 82, 83, 84, 85, 86] g1) 81 r20 (g1 81 r14)) 82 r20 (g1 82 r14)) 83 r20 (g1 83 r14)) := sv_mod.up md30 (by decide)
      refine sv_aload_n hM dX12_loadRest_66 rfl rfl ?_
      refine sv_getA hM dX12_loadRest_67 sm_fl_265 (sm_a0 _) sm_k136 rfl ?_
      refine sv_iload hM dX12_loadRest_70 rfl rfl ?_
      refine sv_aload_n hM dX12_loadRest_72 rfl rfl ?_
      refine sv_getA hM dX12_loadRest_73 sm_fl_265 (sm_a0 _) sm_k136 rfl ?_
      refine sv_iload_n hM dX12_loadRest_76 rfl rfl ?_
      have k35 : sv_RL (g1 84 r14) := sm_okJ ok32 sm_r84 r14
      have h := h k35
      refine sv_lald hM dX12_loadRest_77 (sm_a84 _) (by decide) o21.1 o21.2 rfl (x := (g1 84 r14)) rfl ?_
      refine sv_last sm_X hM dX12_loadRest_78 (sm_a84 _) (by decide) o23.1 o23.2 rfl ?_
      have ok36 : sm_ok (sv_up (sv_up (sv_up (sv_up (sv_sts S [81, 82, 83, 84, 85, 86] g1) 81 r20 (g1 81 r14)) 82 r20 (g1 82 r14)) 83 r20 (g1 83 r14)) 84 r20 (g1 84 r14)) := sm_upJ ok32 sm_r84 k35
      have md37 : sv_mod [81, 82, 83, 84, 85, 86] S (sv_up (sv_up (sv_up (sv_up (sv_sts S [81, 82, 83, 84, 85, 86] g1) 81 r20 (g1 81 r14)) 82 r20 (g1 82 r14)) 83 r20 (g1 83 r14)) 84 r20 (g1 84 r14)) := sv_mod.up md33 (by decide)
      have md38 : sv_mod [81, 82, 83, 84, 85, 86] S (sv_up (sv_up (sv_up (sv_up (sv_sts S [81, 82, 83, 84, 85, 86] g1) 81 r20 (g1 81 r14)) 82 r20 (g1 82 r14)) 83 r20 (g1 83 r14)) 84 r20 (g1 84 r14)) := sv_mod.up md34 (by decide)
      refine sv_aload_n hM dX12_loadRest_79 rfl rfl ?_
      refine sv_getA hM dX12_loadRest_80 sm_fl_268 (sm_a0 _) sm_k137 rfl ?_
      refine sv_iload hM dX12_loadRest_83 rfl rfl ?_
      refine sv_aload_n hM dX12_loadRest_85 rfl rfl ?_
      refine sv_getA hM dX12_loadRest_86 sm_fl_268 (sm_a0 _) sm_k137 rfl ?_
      refine sv_iload_n hM dX12_loadRest_89 rfl rfl ?_
      have k39 : sv_RL (g1 85 r14) := sm_okJ ok36 sm_r85 r14
      have h := h k39
      refine sv_lald hM dX12_loadRest_90 (sm_a85 _) (by decide) o21.1 o21.2 rfl (x := (g1 85 r14)) rfl ?_
      refine sv_last sm_X hM dX12_loadRest_91 (sm_a85 _) (by decide) o23.1 o23.2 rfl ?_
      have ok40 : sm_ok (sv_up (sv_up (sv_up (sv_up (sv_up (sv_sts S [81, 82, 83, 84, 85, 86] g1) 81 r20 (g1 81 r14)) 82 r20 (g1 82 r14)) 83 r20 (g1 83 r14)) 84 r20 (g1 84 r14)) 85 r20 (g1 85 r14)) := sm_upJ ok36 sm_r85 k39
      have md41 : sv_mod [81, 82, 83, 84, 85, 86] S (sv_up (sv_up (sv_up (sv_up (sv_up (sv_sts S [81, 82, 83, 84, 85, 86] g1) 81 r20 (g1 81 r14)) 82 r20 (g1 82 r14)) 83 r20 (g1 83 r14)) 84 r20 (g1 84 r14)) 85 r20 (g1 85 r14)) := sv_mod.up md37 (by decide)
      have md42 : sv_mod [81, 82, 83, 84, 85, 86] S (sv_up (sv_up (sv_up (sv_up (sv_up (sv_sts S [81, 82, 83, 84, 85, 86] g1) 81 r20 (g1 81 r14)) 82 r20 (g1 82 r14)) 83 r20 (g1 83 r14)) 84 r20 (g1 84 r14)) 85 r20 (g1 85 r14)) := sv_mod.up md38 (by decide)
      refine sv_aload_n hM dX12_loadRest_92 rfl rfl ?_
      refine sv_getA hM dX12_loadRest_93 sm_fl_271 (sm_a0 _) sm_k138 rfl ?_
      refine sv_iload hM dX12_loadRest_96 rfl rfl ?_
      refine sv_aload_n hM dX12_loadRest_98 rfl rfl ?_
      refine sv_getA hM dX12_loadRest_99 sm_fl_271 (sm_a0 _) sm_k138 rfl ?_
      refine sv_iload_n hM dX12_loadRest_102 rfl rfl ?_
      have k43 : sv_RL (g1 86 r14) := sm_okJ ok40 sm_r86 r14
      have h := h k43
      refine sv_lald hM dX12_loadRest_103 (sm_a86 _) (by decide) o21.1 o21.2 rfl (x := (g1 86 r14)) rfl ?_
      refine sv_last sm_X hM dX12_loadRest_104 (sm_a86 _) (by decide) o23.1 o23.2 rfl ?_
      have ok44 : sm_ok (sv_up (sv_up (sv_up (sv_up (sv_up (sv_up (sv_sts S [81, 82, 83, 84, 85, 86] g1) 81 r20 (g1 81 r14)) 82 r20 (g1 82 r14)) 83 r20 (g1 83 r14)) 84 r20 (g1 84 r14)) 85 r20 (g1 85 r14)) 86 r20 (g1 86 r14)) := sm_upJ ok40 sm_r86 k43
      have md45 : sv_mod [81, 82, 83, 84, 85, 86] S (sv_up (sv_up (sv_up (sv_up (sv_up (sv_up (sv_sts S [81, 82, 83, 84, 85, 86] g1) 81 r20 (g1 81 r14)) 82 r20 (g1 82 r14)) 83 r20 (g1 83 r14)) 84 r20 (g1 84 r14)) 85 r20 (g1 85 r14)) 86 r20 (g1 86 r14)) := sv_mod.up md41 (by decide)
      have md46 : sv_mod [81, 82, 83, 84, 85, 86] S (sv_up (sv_up (sv_up (sv_up (sv_up (sv_up (sv_sts S [81, 82, 83, 84, 85, 86] g1) 81 r20 (g1 81 r14)) 82 r20 (g1 82 r14)) 83 r20 (g1 83 r14)) 84 r20 (g1 84 r14)) 85 r20 (g1 85 r14)) 86 r20 (g1 86 r14)) := sv_mod.up md42 (by decide)
      refine sv_iinc (d := (1 : Int)) hM dX12_loadRest_105 rfl (by decide) rfl rfl ?_
      show sv_T sm_XS sm_cs sm_L sm_sh 2 (q_loadRest p1 S) 232 108 [(0, .ref 0), (1, sv_I p1), (2, sv_I (l2_2 + (1 : Int))), (3, sv_I r14), (4, sv_I r20)] [] (sv_up (sv_up (sv_up (sv_up (sv_up (sv_up (sv_sts S [81, 82, 83, 84, 85, 86] g1) 81 r20 (g1 81 r14)) 82 r20 (g1 82 r14)) 83 r20 (g1 83 r14)) 84 r20 (g1 84 r14)) 85 r20 (g1 85 r14)) 86 r20 (g1 86 r14))
      refine sv_goto hM dX12_loadRest_108 (pc' := 2) rfl ?_
      obtain ⟨o47, h⟩ := h
      have eS := sv_mod.eq md46
      have hb := ih3 ((l2_2 + (1 : Int)), (sv_up (sv_up (sv_up (sv_up (sv_up (sv_up (sv_sts S [81, 82, 83, 84, 85, 86] g1) 81 r20 (g1 81 r14)) 82 r20 (g1 82 r14)) 83 r20 (g1 83 r14)) 84 r20 (g1 84 r14)) 85 r20 (g1 85 r14)) 86 r20 (g1 86 r14))) ⟨o47, (by rw [← eS]; exact ok44), h.1⟩ h.2
      have hb : sv_T sm_XS sm_cs sm_L sm_sh 2 (q_loadRest p1 S) 232 2 [(0, .ref 0), (1, sv_I p1), (2, sv_I (l2_2 + (1 : Int)))] [] (sv_up (sv_up (sv_up (sv_up (sv_up (sv_up (sv_sts S [81, 82, 83, 84, 85, 86] g1) 81 r20 (g1 81 r14)) 82 r20 (g1 82 r14)) 83 r20 (g1 83 r14)) 84 r20 (g1 84 r14)) 85 r20 (g1 85 r14)) 86 r20 (g1 86 r14)) := Eq.mpr (congrArg (fun Z => sv_T sm_XS sm_cs sm_L sm_sh 2 (q_loadRest p1 S) 232 2 [(0, .ref 0), (1, sv_I p1), (2, sv_I (l2_2 + (1 : Int)))] [] Z) eS) hb
      exact sv_less (lv := [(0, .ref 0), (1, sv_I p1), (2, sv_I (l2_2 + (1 : Int)))]) (sv_Sub_cons rfl (sv_Sub_cons rfl (sv_Sub_cons rfl sv_Sub_nil))) hb
  have eS := sv_mod.eq (sv_mod.rf (l := [81, 82, 83, 84, 85, 86]) (S := S))
  have hb := hJ ((0 : Int), S) ⟨(⟨by decide, by decide⟩ : sv_R (0 : Int)), (by rw [← eS]; exact hok), hin4⟩
  have hb : sv_T sm_XS sm_cs sm_L sm_sh 2 (q_loadRest p1 S) 232 2 [(0, .ref 0), (1, sv_I p1), (2, sv_I (0 : Int))] [] S := Eq.mpr (congrArg (fun Z => sv_T sm_XS sm_cs sm_L sm_sh 2 (q_loadRest p1 S) 232 2 [(0, .ref 0), (1, sv_I p1), (2, sv_I (0 : Int))] [] Z) eS) hb
  exact hb
def q_loadLabels (p1 : Int) (S : sv_S) : Option Value → sv_S → Prop := fun v S' => v = none ∧ sm_ok S' ∧ sv_mod [68, 69, 70, 81, 82, 83, 84, 85, 86] S S' ∧ (sm_pt (S' 68) (S' 69) (S' 70) = sm_pt (S 68) (S 69) (S 70) ∧ sm_pl (S' 81) (S' 82) (S' 83) (S' 84) (S' 85) (S' 86) = sm_pl (S 81) (S 82) (S 83) (S 84) (S 85) (S 86))
theorem la_loadLabels_0 {x0 x1 x2 x3 : Int} (h0 : x0 + 2 * x1 ≤ 500) (h1 : 0 ≤ x2) (h2 : x2 ≤ 11557) (h3 : 0 ≤ x3) (h4 : x3 < x0 + 2 * x1) : 0 ≤ x2 ∧ x2 ≤ 11557 ∧ 0 ≤ x3 ∧ (x3 = 639 ∨ x3 < x0 + 2 * x1) := by omega
theorem la_loadLabels_1 {x0 x1 x2 : Int} (h0 : x0 + 2 * x1 ≤ 500) (h1 : x2 < x0 + 2 * x1) : ¬ x2 = 639 := by omega
theorem la_loadLabels_2 {x0 x1 : Int} (h0 : 0 ≤ x0) : (0 : Int) ≤ 0 ∧ 0 ≤ x0 ∧ x1 = x1 := by omega
theorem la_loadLabels_3 {x0 x1 : Int} (h0 : x0 ≤ x1) : 0 ≤ x1 - x0 := by omega
theorem la_loadLabels_4 {x0 : Int} (h0 : 0 ≤ x0) (h1 : x0 ≤ 11557) : sv_R x0 := by omega
theorem la_loadLabels_5 {x0 x1 x2 x3 : Int} (h0 : 0 ≤ x0) (h1 : x0 ≤ 11557) (h2 : 0 ≤ x1) (h3 : x1 < x2 + 2 * x3) : 0 ≤ x0 ∧ x0 ≤ 11557 ∧ 0 ≤ x1 ∧ x1 < x2 + 2 * x3 := by omega
theorem la_loadLabels_6 {x0 x1 x2 : Int} (h0 : 0 ≤ x0) (h1 : x0 + x1 ≤ 464520) (h2 : 0 ≤ x2) (h3 : ¬ x1 ≤ x2) : sv_R (x0 + x2) := by omega
theorem la_loadLabels_7 {x0 x1 : Int} (h0 : x0 ≤ 11557) (h1 : 0 ≤ x1) (h2 : ¬ x0 ≤ x1) : sv_R (635640 + x1) := by omega
theorem la_loadLabels_8 {x0 x1 x2 : Int} (h0 : x0 ≤ 11557) (h1 : 0 ≤ x1) (h2 : x1 + x0 ≤ 464520) (h3 : 0 ≤ x2) (h4 : ¬ x0 ≤ x2) : 0 ≤ x1 + x2 ∧ x1 + x2 < 647800 ∧ 635639 ≤ 635640 + x2 ∧ 635640 + x2 < 647800 := by omega
theorem la_loadLabels_9 {x0 x1 : Int} (h0 : x0 ≤ 11557) (h1 : 0 ≤ x1) (h2 : ¬ x0 ≤ x1) : sv_R (x1 + 1) := by omega
theorem la_loadLabels_10 {x0 x1 x2 x3 x4 : Int} (h0 : 0 ≤ x0) (h1 : x1 = x2) (h2 : ¬ x3 ≤ x0) (h3 : x4 = x1) : 0 ≤ x0 + 1 ∧ x0 + 1 ≤ x3 ∧ x4 = x2 := by omega
theorem la_loadLabels_11 {x0 x1 : Int} : x0 - (x1 + 1) < x0 - x1 := by omega
set_option maxHeartbeats 2000000 in
theorem f_loadLabels : ∀ (p1 : Int) (S : sv_S), sm_ok S → sv_R p1 → (29 ≤ (S 1071 0) ∧ (S 1071 0) ≤ 127 ∧ 31 ≤ (S 1008 0) ∧ (S 1008 0) ≤ 90 ∧ 1 ≤ (S 1032 0) ∧ (S 1032 0) ≤ 11 ∧ 0 ≤ (S 1055 0) ∧ (S 1055 0) ≤ 19 ∧ (S 1071 0) = 29 + 6 * ((S 1032 0) - 1) + 2 * (S 1055 0) ∧ 0 ≤ (S 1046 0) ∧ (S 1046 0) + 2 * (S 1032 0) ≤ 500 ∧ sm_PD (S 1046 0) (S 1032 0) (S 1071 0) (S 1008 0) ∧ 0 ≤ (S 1071 0) * ((S 1008 0) + 1) ∧ (S 1071 0) * ((S 1008 0) + 1) ≤ 11557 ∧ 0 ≤ p1 ∧ p1 < ((S 1046 0) + 2 * (S 1032 0))) → (29 ≤ (S 1071 0) ∧ (S 1071 0) ≤ 127 ∧ 31 ≤ (S 1008 0) ∧ (S 1008 0) ≤ 90 ∧ 1 ≤ (S 1032 0) ∧ (S 1032 0) ≤ 11 ∧ 0 ≤ (S 1055 0) ∧ (S 1055 0) ≤ 19 ∧ (S 1071 0) = 29 + 6 * ((S 1032 0) - 1) + 2 * (S 1055 0) ∧ 0 ≤ (S 1046 0) ∧ (S 1046 0) + 2 * (S 1032 0) ≤ 500 ∧ sm_PD (S 1046 0) (S 1032 0) (S 1071 0) (S 1008 0) ∧ 0 ≤ (S 1071 0) * ((S 1008 0) + 1) ∧ (S 1071 0) * ((S 1008 0) + 1) ≤ 11557 ∧ 0 ≤ p1 ∧ (p1 = 639 ∨ p1 < (S 1046 0) + 2 * (S 1032 0))) ∧ (∀ r6 : Int, sv_R r6 → ((p1 = 639 → r6 = 635640) ∧ (¬ p1 = 639 → 0 ≤ r6 ∧ r6 + (S 1071 0) * ((S 1008 0) + 1) ≤ 464520)) → ((0 ≤ (0 : Int) ∧ (0 : Int) ≤ (S 1071 0) * ((S 1008 0) + 1) ∧ sm_pt (S 68) (S 69) (S 70) = sm_pt (S 68) (S 69) (S 70)) ∧ (∀ l3_8 : Int, sv_R l3_8 → ∀ g7 : sv_S, (0 ≤ l3_8 ∧ l3_8 ≤ (S 1071 0) * ((S 1008 0) + 1) ∧ sm_pt (g7 68) (g7 69) (g7 70) = sm_pt (S 68) (S 69) (S 70)) → (0 ≤ (S 1071 0) * ((S 1008 0) + 1) - l3_8) ∧ (sv_R (S 1071 0) → (sv_R (S 1008 0) → (sv_R ((S 1071 0) * ((S 1008 0) + (1 : Int)))) ∧ (((((S 1071 0) * ((S 1008 0) + (1 : Int))) ≤ l3_8) → (29 ≤ (S 1071 0) ∧ (S 1071 0) ≤ 127 ∧ 31 ≤ (S 1008 0) ∧ (S 1008 0) ≤ 90 ∧ 1 ≤ (S 1032 0) ∧ (S 1032 0) ≤ 11 ∧ 0 ≤ (S 1055 0) ∧ (S 1055 0) ≤ 19 ∧ (S 1071 0) = 29 + 6 * ((S 1032 0) - 1) + 2 * (S 1055 0) ∧ 0 ≤ (S 1046 0) ∧ (S 1046 0) + 2 * (S 1032 0) ≤ 500 ∧ sm_PD (S 1046 0) (S 1032 0) (S 1071 0) (S 1008 0) ∧ 0 ≤ (S 1071 0) * ((S 1008 0) + 1) ∧ (S 1071 0) * ((S 1008 0) + 1) ≤ 11557 ∧ 0 ≤ p1 ∧ p1 < ((S 1046 0) + 2 * (S 1032 0))) ∧ (∀ g18 : sv_S, (sm_pl (g18 81) (g18 82) (g18 83) (g18 84) (g18 85) (g18 86) = sm_pl (S 81) (S 82) (S 83) (S 84) (S 85) (S 86)) → (sm_pt (g7 68) (g7 69) (g7 70) = sm_pt (S 68) (S 69) (S 70) ∧ sm_pl (g18 81) (g18 82) (g18 83) (g18 84) (g18 85) (g18 86) = sm_pl (S 81) (S 82) (S 83) (S 84) (S 85) (S 86)))) ∧ ((¬ (((S 1071 0) * ((S 1008 0) + (1 : Int))) ≤ l3_8)) → (sv_R (r6 + l3_8)) ∧ (sv_R ((635640 : Int) + l3_8)) ∧ (0 ≤ (r6 + l3_8) ∧ (r6 + l3_8) < 647800 ∧ 635639 ≤ ((635640 : Int) + l3_8) ∧ ((635640 : Int) + l3_8) < 647800) ∧ (∀ g26 : sv_S, (sm_pt (g26 68) (g26 69) (g26 70) = sm_pt (g7 68) (g7 69) (g7 70)) → (sv_R (l3_8 + (1 : Int))) ∧ ((0 ≤ (l3_8 + (1 : Int)) ∧ (l3_8 + (1 : Int)) ≤ (S 1071 0) * ((S 1008 0) + 1) ∧ sm_pt (g26 68) (g26 69) (g26 70) = sm_pt (S 68) (S 69) (S 70)) ∧ ((S 1071 0) * ((S 1008 0) + 1) - (l3_8 + (1 : Int))) < ((S 1071 0) * ((S 1008 0) + 1) - l3_8)))))))))) := by
  intro p1
  intro S
  intro h1_
  intro h2_
  rintro ⟨h3_, ⟨h4_, ⟨h5_, ⟨h6_, ⟨h7_, ⟨h8_, ⟨h9_, ⟨h10_, ⟨h11_, ⟨h12_, ⟨h13_, ⟨h14_, ⟨h15_, ⟨h16_, ⟨h17_, h18_⟩⟩⟩⟩⟩⟩⟩⟩⟩⟩⟩⟩⟩⟩⟩
  refine ⟨⟨h3_, ⟨h4_, ⟨h5_, ⟨h6_, ⟨h7_, ⟨h8_, ⟨h9_, ⟨h10_, ⟨h11_, ⟨h12_, ⟨h13_, ⟨h14_, (la_loadLabels_0 h13_ h15_ h16_ h17_ h18_)⟩⟩⟩⟩⟩⟩⟩⟩⟩⟩⟩⟩, ?_⟩
  intro r6
  intro h19_
  rintro ⟨h20_, h21_⟩
  obtain ⟨h22_, h23_⟩ := (h21_ (la_loadLabels_1 h13_ h18_))
  refine ⟨(la_loadLabels_2 h15_), ?_⟩
  intro l3_8
  intro h24_
  intro g7
  rintro ⟨h25_, ⟨h26_, h27_⟩⟩
  refine ⟨(la_loadLabels_3 h26_), ?_⟩
  intro h28_
  intro h29_
  refine ⟨(la_loadLabels_4 h15_ h16_), ?_⟩
  refine ⟨?_, ?_⟩
  · skip
    intro h30_
    refine ⟨⟨h3_, ⟨h4_, ⟨h5_, ⟨h6_, ⟨h7_, ⟨h8_, ⟨h9_, ⟨h10_, ⟨h11_, ⟨h12_, ⟨h13_, ⟨h14_, (la_loadLabels_5 h15_ h16_ h17_ h18_)⟩⟩⟩⟩⟩⟩⟩⟩⟩⟩⟩⟩, ?_⟩
    intro g18
    intro h31_
    refine ⟨h27_, ?_⟩
    exact h31_
  intro h32_
  refine ⟨(la_loadLabels_6 h22_ h23_ h25_ h32_), ?_⟩
  refine ⟨(la_loadLabels_7 h16_ h25_ h32_), ?_⟩
  refine ⟨(la_loadLabels_8 h16_ h22_ h23_ h25_ h32_), ?_⟩
  intro g26
  intro h33_
  refine ⟨(la_loadLabels_9 h16_ h25_ h32_), ?_⟩
  refine ⟨(la_loadLabels_10 h25_ h27_ h32_ h33_), ?_⟩
  exact la_loadLabels_11
set_option maxRecDepth 8000 in
set_option maxHeartbeats 2000000 in
theorem t_loadLabels : ∀ (p1 : Int) (S : sv_S), sm_ok S → sv_R p1 → (29 ≤ (S 1071 0) ∧ (S 1071 0) ≤ 127 ∧ 31 ≤ (S 1008 0) ∧ (S 1008 0) ≤ 90 ∧ 1 ≤ (S 1032 0) ∧ (S 1032 0) ≤ 11 ∧ 0 ≤ (S 1055 0) ∧ (S 1055 0) ≤ 19 ∧ (S 1071 0) = 29 + 6 * ((S 1032 0) - 1) + 2 * (S 1055 0) ∧ 0 ≤ (S 1046 0) ∧ (S 1046 0) + 2 * (S 1032 0) ≤ 500 ∧ sm_PD (S 1046 0) (S 1032 0) (S 1071 0) (S 1008 0) ∧ 0 ≤ (S 1071 0) * ((S 1008 0) + 1) ∧ (S 1071 0) * ((S 1008 0) + 1) ≤ 11557 ∧ 0 ≤ p1 ∧ p1 < ((S 1046 0) + 2 * (S 1032 0))) → sv_T sm_XS sm_cs sm_L sm_sh 3 (q_loadLabels p1 S) 233 0 (lv_args 0 [.ref 0, sv_I p1]) [] S := by
  intro p1 S hok hp1 hpre
  have h := f_loadLabels p1 S hok hp1 hpre
  have hM := sm_h233
  show sv_T sm_XS sm_cs sm_L sm_sh 3 (q_loadLabels p1 S) 233 0 [(0, .ref 0), (1, sv_I p1)] [] S
  refine sv_aload_n hM dX12_loadLabels_0 rfl rfl ?_
  refine sv_iload_n hM dX12_loadLabels_1 rfl rfl ?_
  obtain ⟨o1, h⟩ := h
  refine sv_callV hM dX12_loadLabels_2 sm_iv_1085 (by decide) (sm_a0 _) rfl rfl (Nat.le_of_ble_eq_true rfl) sm_h223 (Nat.le_of_ble_eq_true rfl) (Nat.le_of_ble_eq_true rfl) (F' := 0) (Nat.le_of_ble_eq_true rfl) rfl (t_fieldsAt p1 S hok hp1 o1) (fun v S1 hq => ?_)
  obtain ⟨r6, rfl, hr6, ok3, md4, hpo5⟩ := hq
  obtain rfl : S = S1 := (funext fun j => md4 j (by intro q; cases q)).symm
  show sv_T sm_XS sm_cs sm_L sm_sh 3 (q_loadLabels p1 S) 233 5 [(0, .ref 0), (1, sv_I p1)] [sv_I r6] S
  have h := h r6 hr6 hpo5
  refine sv_istore_n hM dX12_loadLabels_5 (by decide) rfl ?_
  show sv_T sm_XS sm_cs sm_L sm_sh 3 (q_loadLabels p1 S) 233 6 [(0, .ref 0), (1, sv_I p1), (2, sv_I r6)] [] S
  refine sv_iconst (d := (0 : Int)) hM dX12_loadLabels_6 rfl rfl ?_
  refine sv_istore_n hM dX12_loadLabels_7 (by decide) rfl ?_
  show sv_T sm_XS sm_cs sm_L sm_sh 3 (q_loadLabels p1 S) 233 8 [(0, .ref 0), (1, sv_I p1), (2, sv_I r6), (3, sv_I (0 : Int))] [] S
  obtain ⟨hin10, h⟩ := h
  have hJ : ∀ a : Int × sv_S, (sv_R a.1 ∧ sm_ok (sv_sts S [68, 69, 70] a.2) ∧ (0 ≤ a.1 ∧ a.1 ≤ (S 1071 0) * ((S 1008 0) + 1) ∧ sm_pt (a.2 68) (a.2 69) (a.2 70) = sm_pt (S 68) (S 69) (S 70))) → sv_T sm_XS sm_cs sm_L sm_sh 3 (q_loadLabels p1 S) 233 8 [(0, .ref 0), (1, sv_I p1), (2, sv_I r6), (3, sv_I a.1)] [] (sv_sts S [68, 69, 70] a.2) := by
    refine sv_loop (α := Int × sv_S) (fun a => sv_R a.1 ∧ sm_ok (sv_sts S [68, 69, 70] a.2) ∧ (0 ≤ a.1 ∧ a.1 ≤ (S 1071 0) * ((S 1008 0) + 1) ∧ sm_pt (a.2 68) (a.2 69) (a.2 70) = sm_pt (S 68) (S 69) (S 70))) (fun a => (S 1071 0) * ((S 1008 0) + 1) - a.1) (fun a => sv_T sm_XS sm_cs sm_L sm_sh 3 (q_loadLabels p1 S) 233 8 [(0, .ref 0), (1, sv_I p1), (2, sv_I r6), (3, sv_I a.1)] [] (sv_sts S [68, 69, 70] a.2)) (fun a q => (h a.1 q.1 a.2 q.2.2).1) (fun a q ih9 => ?_)
    obtain ⟨l3_8, g7⟩ := a
    obtain ⟨hl3_8, ok11, hin10i⟩ := q
    have h := (h l3_8 hl3_8 g7 hin10i).2
    show sv_T sm_XS sm_cs sm_L sm_sh 3 (q_loadLabels p1 S) 233 8 [(0, .ref 0), (1, sv_I p1), (2, sv_I r6), (3, sv_I l3_8)] [] (sv_sts S [68, 69, 70] g7)
    have md12 : sv_mod [68, 69, 70, 81, 82, 83, 84, 85, 86] S (sv_sts S [68, 69, 70] g7) := sv_mod.sts sv_mod.rf (by decide)
    have md13 : sv_mod [68, 69, 70] S (sv_sts S [68, 69, 70] g7) := sv_mod.sts sv_mod.rf (by decide)
    refine sv_iload_n hM dX12_loadLabels_8 rfl rfl ?_
    refine sv_aload_n hM dX12_loadLabels_9 rfl rfl ?_
    have k14 : sv_R (S 1071 0) := sm_okI ok11 sm_r1071 0
    have h := h k14
    refine sv_getI hM dX12_loadLabels_10 sm_fl_765 (sm_a0 _) sm_k71 rfl (x := (S 1071 0)) rfl ?_
    refine sv_aload_n hM dX12_loadLabels_13 rfl rfl ?_
    have k15 : sv_R (S 1008 0) := sm_okI ok11 sm_r1008 0
    have h := h k15
    refine sv_getI hM dX12_loadLabels_14 sm_fl_762 (sm_a0 _) sm_k8 rfl (x := (S 1008 0)) rfl ?_
    refine sv_iconst (d := (1 : Int)) hM dX12_loadLabels_17 rfl rfl ?_
    refine sv_iadd hM dX12_loadLabels_18 rfl ?_
    refine sv_imul hM dX12_loadLabels_19 rfl ?_
    obtain ⟨o16, h⟩ := h
    refine sv_icmp_ge hM dX12_loadLabels_20 hl3_8 o16 (t := 41) rfl rfl (fun hc => ?_) (fun hc => ?_)
    · have h := h.1 (hc)
      refine sv_aload_n hM dX12_loadLabels_41 rfl rfl ?_
      refine sv_iload_n hM dX12_loadLabels_42 rfl rfl ?_
      obtain ⟨o17, h⟩ := h
      refine sv_callV hM dX12_loadLabels_43 sm_iv_1095 (by decide) (sm_a0 _) rfl rfl (Nat.le_of_ble_eq_true rfl) sm_h232 (Nat.le_of_ble_eq_true rfl) (Nat.le_of_ble_eq_true rfl) (F' := 2) (Nat.le_of_ble_eq_true rfl) rfl (t_loadRest p1 (sv_sts S [68, 69, 70] g7) ok11 hp1 o17) (fun v S1 hq => ?_)
      obtain ⟨rfl, ok19, md20, hpo21⟩ := hq
      obtain ⟨g18, rfl⟩ : ∃ g, S1 = sv_sts (sv_sts S [68, 69, 70] g7) [81, 82, 83, 84, 85, 86] g := ⟨_, md20.eq⟩
      show sv_T sm_XS sm_cs sm_L sm_sh 3 (q_loadLabels p1 S) 233 46 [(0, .ref 0), (1, sv_I p1), (2, sv_I r6), (3, sv_I l3_8)] [] (sv_sts (sv_sts S [68, 69, 70] g7) [81, 82, 83, 84, 85, 86] g18)
      have md22 : sv_mod [68, 69, 70, 81, 82, 83, 84, 85, 86] S (sv_sts (sv_sts S [68, 69, 70] g7) [81, 82, 83, 84, 85, 86] g18) := sv_mod.sts md12 (by decide)
      have h := h g18 hpo21
      exact sv_vret hM dX12_loadLabels_46 rfl ⟨rfl, ok19, md22, h⟩
    · have h := h.2 (hc)
      refine sv_aload_n hM dX12_loadLabels_23 rfl rfl ?_
      refine sv_iload_n hM dX12_loadLabels_24 rfl rfl ?_
      refine sv_iload_n hM dX12_loadLabels_25 rfl rfl ?_
      refine sv_iadd hM dX12_loadLabels_26 rfl ?_
      refine sv_ldc_w (d := (635640 : Int)) hM dX12_loadLabels_27 sm_ck_1084 rfl rfl ?_
      refine sv_iload_n hM dX12_loadLabels_30 rfl rfl ?_
      refine sv_iadd hM dX12_loadLabels_31 rfl ?_
      obtain ⟨o23, h⟩ := h
      obtain ⟨o24, h⟩ := h
      obtain ⟨o25, h⟩ := h
      refine sv_callV hM dX12_loadLabels_32 sm_iv_1092 (by decide) (sm_a0 _) rfl rfl (Nat.le_of_ble_eq_true rfl) sm_h207 (Nat.le_of_ble_eq_true rfl) (Nat.le_of_ble_eq_true rfl) (F' := 0) (Nat.le_of_ble_eq_true rfl) rfl (t_copySet (r6 + l3_8) ((635640 : Int) + l3_8) (sv_sts S [68, 69, 70] g7) ok11 o23 o24 o25) (fun v S1 hq => ?_)
      obtain ⟨rfl, ok27, md28, hpo29⟩ := hq
      obtain ⟨g26, rfl⟩ : ∃ g, S1 = sv_sts (sv_sts S [68, 69, 70] g7) [68, 69, 70] g := ⟨_, md28.eq⟩
      show sv_T sm_XS sm_cs sm_L sm_sh 3 (q_loadLabels p1 S) 233 35 [(0, .ref 0), (1, sv_I p1), (2, sv_I r6), (3, sv_I l3_8)] [] (sv_sts (sv_sts S [68, 69, 70] g7) [68, 69, 70] g26)
      have md30 : sv_mod [68, 69, 70, 81, 82, 83, 84, 85, 86] S (sv_sts (sv_sts S [68, 69, 70] g7) [68, 69, 70] g26) := sv_mod.sts md12 (by decide)
      have md31 : sv_mod [68, 69, 70] S (sv_sts (sv_sts S [68, 69, 70] g7) [68, 69, 70] g26) := sv_mod.sts md13 (by decide)
      have h := h g26 hpo29
      refine sv_iinc (d := (1 : Int)) hM dX12_loadLabels_35 rfl (by decide) rfl rfl ?_
      show sv_T sm_XS sm_cs sm_L sm_sh 3 (q_loadLabels p1 S) 233 38 [(0, .ref 0), (1, sv_I p1), (2, sv_I r6), (3, sv_I (l3_8 + (1 : Int)))] [] (sv_sts (sv_sts S [68, 69, 70] g7) [68, 69, 70] g26)
      refine sv_goto hM dX12_loadLabels_38 (pc' := 8) rfl ?_
      obtain ⟨o32, h⟩ := h
      have eS := sv_mod.eq md31
      have hb := ih9 ((l3_8 + (1 : Int)), (sv_sts (sv_sts S [68, 69, 70] g7) [68, 69, 70] g26)) ⟨o32, (by rw [← eS]; exact ok27), h.1⟩ h.2
      have hb : sv_T sm_XS sm_cs sm_L sm_sh 3 (q_loadLabels p1 S) 233 8 [(0, .ref 0), (1, sv_I p1), (2, sv_I r6), (3, sv_I (l3_8 + (1 : Int)))] [] (sv_sts (sv_sts S [68, 69, 70] g7) [68, 69, 70] g26) := Eq.mpr (congrArg (fun Z => sv_T sm_XS sm_cs sm_L sm_sh 3 (q_loadLabels p1 S) 233 8 [(0, .ref 0), (1, sv_I p1), (2, sv_I r6), (3, sv_I (l3_8 + (1 : Int)))] [] Z) eS) hb
      exact sv_less (lv := [(0, .ref 0), (1, sv_I p1), (2, sv_I r6), (3, sv_I (l3_8 + (1 : Int)))]) (sv_Sub_cons rfl (sv_Sub_cons rfl (sv_Sub_cons rfl (sv_Sub_cons rfl sv_Sub_nil)))) hb
  have eS := sv_mod.eq (sv_mod.rf (l := [68, 69, 70]) (S := S))
  have hb := hJ ((0 : Int), S) ⟨(⟨by decide, by decide⟩ : sv_R (0 : Int)), (by rw [← eS]; exact ok3), hin10⟩
  have hb : sv_T sm_XS sm_cs sm_L sm_sh 3 (q_loadLabels p1 S) 233 8 [(0, .ref 0), (1, sv_I p1), (2, sv_I r6), (3, sv_I (0 : Int))] [] S := Eq.mpr (congrArg (fun Z => sv_T sm_XS sm_cs sm_L sm_sh 3 (q_loadLabels p1 S) 233 8 [(0, .ref 0), (1, sv_I p1), (2, sv_I r6), (3, sv_I (0 : Int))] [] Z) eS) hb
  exact hb
def q_clearState (p1 : Int) (S : sv_S) : Option Value → sv_S → Prop := fun v S' => v = none ∧ sm_ok S' ∧ sv_mod [68, 69, 70, 81, 82, 83, 84, 85, 86, 76, 77] S S' ∧ (True)
theorem la_clearState_0 {x0 : Int} (h0 : 0 ≤ x0) : (0 : Int) ≤ 0 ∧ 0 ≤ x0 := by omega
theorem la_clearState_1 {x0 x1 : Int} (h0 : x0 ≤ x1) : 0 ≤ x1 - x0 := by omega
theorem la_clearState_2 {x0 : Int} (h0 : 0 ≤ x0) (h1 : x0 ≤ 11557) : sv_R x0 := by omega
theorem la_clearState_3 {x0 : Int} (h0 : 29 ≤ x0) : (0 : Int) ≤ 0 ∧ 0 ≤ x0 := by omega
theorem la_clearState_4 {x0 x1 x2 : Int} (h0 : x0 + 2 * x1 ≤ 500) (h1 : 0 ≤ x2) (h2 : x2 = 639 ∨ x2 < x0 + 2 * x1) : sv_R (635000 + x2) := by omega
theorem la_clearState_5 {x0 : Int} (h0 : 0 ≤ x0) : 0 ≤ 635000 + x0 := by omega
theorem la_clearState_6 {x0 x1 x2 : Int} (h0 : x0 + 2 * x1 ≤ 500) (h1 : x2 = 639 ∨ x2 < x0 + 2 * x1) : 635000 + x2 < 647800 := by omega
theorem la_clearState_7 {x0 x1 x2 : Int} (h0 : x0 + 2 * x1 ≤ 500) (h1 : x2 = 639 ∨ x2 < x0 + 2 * x1) : x2 < 640 := by omega
theorem la_clearState_8 {x0 x1 x2 : Int} (h0 : x0 ≤ 127) (h1 : 0 ≤ x1) (h2 : ¬ x0 ≤ x1) : 0 ≤ x1 ∧ (x1 < x0 ∨ x2 = 639 ∧ x1 < 128) := by omega
theorem la_clearState_9 {x0 x1 x2 : Int} (h0 : 0 ≤ x0) (h1 : x1 = 639 → x2 = 15000 + x0) (h2 : ¬ x1 = 639 → 0 ≤ x2 ∧ x2 < 14520) : 0 ≤ x2 := by omega
theorem la_clearState_10 {x0 x1 x2 x3 : Int} (h0 : x0 ≤ 127) (h1 : ¬ x0 ≤ x1) (h2 : x2 = 639 → x3 = 15000 + x1) (h3 : ¬ x2 = 639 → 0 ≤ x3 ∧ x3 < 14520) : x3 < 15128 := by omega
theorem la_clearState_11 {x0 x1 : Int} (h0 : x0 ≤ 127) (h1 : 0 ≤ x1) (h2 : ¬ x0 ≤ x1) : sv_R (x1 + 1) := by omega
theorem la_clearState_12 {x0 x1 : Int} (h0 : 0 ≤ x0) (h1 : ¬ x1 ≤ x0) : 0 ≤ x0 + 1 ∧ x0 + 1 ≤ x1 := by omega
theorem la_clearState_13 {x0 x1 : Int} : x0 - (x1 + 1) < x0 - x1 := by omega
theorem la_clearState_14 {x0 x1 x2 x3 : Int} (h0 : x0 ≤ 11557) (h1 : sv_R x1) (h2 : x2 = 639 → x1 = 635640) (h3 : ¬ x2 = 639 → 0 ≤ x1 ∧ x1 + x0 ≤ 464520) (h4 : 0 ≤ x3) (h5 : ¬ x0 ≤ x3) : sv_R (x1 + x3) := by omega
theorem la_clearState_15 {x0 x1 x2 x3 : Int} (h0 : x0 = 639 → x1 = 635640) (h1 : ¬ x0 = 639 → 0 ≤ x1 ∧ x1 + x2 ≤ 464520) (h2 : 0 ≤ x3) : 0 ≤ x1 + x3 := by omega
theorem la_clearState_16 {x0 x1 x2 x3 : Int} (h0 : x0 ≤ 11557) (h1 : x1 = 639 → x2 = 635640) (h2 : ¬ x1 = 639 → 0 ≤ x2 ∧ x2 + x0 ≤ 464520) (h3 : ¬ x0 ≤ x3) : x2 + x3 < 647800 := by omega
theorem la_clearState_17 {x0 x1 : Int} (h0 : x0 ≤ 11557) (h1 : 0 ≤ x1) (h2 : ¬ x0 ≤ x1) : sv_R (x1 + 1) := by omega
set_option maxHeartbeats 2000000 in
theorem f_clearState : ∀ (p1 : Int) (S : sv_S), sm_ok S → sv_R p1 → (29 ≤ (S 1071 0) ∧ (S 1071 0) ≤ 127 ∧ 31 ≤ (S 1008 0) ∧ (S 1008 0) ≤ 90 ∧ 1 ≤ (S 1032 0) ∧ (S 1032 0) ≤ 11 ∧ 0 ≤ (S 1055 0) ∧ (S 1055 0) ≤ 19 ∧ (S 1071 0) = 29 + 6 * ((S 1032 0) - 1) + 2 * (S 1055 0) ∧ 0 ≤ (S 1046 0) ∧ (S 1046 0) + 2 * (S 1032 0) ≤ 500 ∧ sm_PD (S 1046 0) (S 1032 0) (S 1071 0) (S 1008 0) ∧ 0 ≤ (S 1071 0) * ((S 1008 0) + 1) ∧ (S 1071 0) * ((S 1008 0) + 1) ≤ 11557 ∧ 0 ≤ p1 ∧ (p1 = 639 ∨ p1 < (S 1046 0) + 2 * (S 1032 0))) → (29 ≤ (S 1071 0) ∧ (S 1071 0) ≤ 127 ∧ 31 ≤ (S 1008 0) ∧ (S 1008 0) ≤ 90 ∧ 1 ≤ (S 1032 0) ∧ (S 1032 0) ≤ 11 ∧ 0 ≤ (S 1055 0) ∧ (S 1055 0) ≤ 19 ∧ (S 1071 0) = 29 + 6 * ((S 1032 0) - 1) + 2 * (S 1055 0) ∧ 0 ≤ (S 1046 0) ∧ (S 1046 0) + 2 * (S 1032 0) ≤ 500 ∧ sm_PD (S 1046 0) (S 1032 0) (S 1071 0) (S 1008 0) ∧ 0 ≤ (S 1071 0) * ((S 1008 0) + 1) ∧ (S 1071 0) * ((S 1008 0) + 1) ≤ 11557 ∧ 0 ≤ p1 ∧ (p1 = 639 ∨ p1 < (S 1046 0) + 2 * (S 1032 0))) ∧ (∀ r6 : Int, sv_R r6 → ((p1 = 639 → r6 = 635640) ∧ (¬ p1 = 639 → 0 ≤ r6 ∧ r6 + (S 1071 0) * ((S 1008 0) + 1) ≤ 464520)) → ((0 ≤ (0 : Int) ∧ (0 : Int) ≤ (S 1071 0) * ((S 1008 0) + 1)) ∧ (∀ l3_8 : Int, sv_R l3_8 → ∀ g7 : sv_S, (0 ≤ l3_8 ∧ l3_8 ≤ (S 1071 0) * ((S 1008 0) + 1)) → (0 ≤ (S 1071 0) * ((S 1008 0) + 1) - l3_8) ∧ (sv_R (S 1071 0) → (sv_R (S 1008 0) → (sv_R ((S 1071 0) * ((S 1008 0) + (1 : Int)))) ∧ (((((S 1071 0) * ((S 1008 0) + (1 : Int))) ≤ l3_8) → ((0 ≤ (0 : Int) ∧ (0 : Int) ≤ (S 1071 0)) ∧ (∀ l3_18 : Int, sv_R l3_18 → ∀ g17 : sv_S, (0 ≤ l3_18 ∧ l3_18 ≤ (S 1071 0)) → (0 ≤ (S 1071 0) - l3_18) ∧ ((((S 1071 0) ≤ l3_18) → (sv_R (635000 + p1)) ∧ (0 ≤ (635000 + p1) ∧ (635000 + p1) < 647800) ∧ (∀ g26 : sv_S, (635639 ≤ (635000 + p1) → sm_pt (g26 68) (g26 69) (g26 70) = sm_pt (g7 68) (g7 69) (g7 70)) → (0 ≤ p1 ∧ p1 < 640) ∧ (True))) ∧ ((¬ ((S 1071 0) ≤ l3_18)) → (29 ≤ (S 1071 0) ∧ (S 1071 0) ≤ 127 ∧ 31 ≤ (S 1008 0) ∧ (S 1008 0) ≤ 90 ∧ 1 ≤ (S 1032 0) ∧ (S 1032 0) ≤ 11 ∧ 0 ≤ (S 1055 0) ∧ (S 1055 0) ≤ 19 ∧ (S 1071 0) = 29 + 6 * ((S 1032 0) - 1) + 2 * (S 1055 0) ∧ 0 ≤ (S 1046 0) ∧ (S 1046 0) + 2 * (S 1032 0) ≤ 500 ∧ sm_PD (S 1046 0) (S 1032 0) (S 1071 0) (S 1008 0) ∧ 0 ≤ (S 1071 0) * ((S 1008 0) + 1) ∧ (S 1071 0) * ((S 1008 0) + 1) ≤ 11557 ∧ 0 ≤ p1 ∧ (p1 = 639 ∨ p1 < (S 1046 0) + 2 * (S 1032 0)) ∧ 0 ≤ l3_18 ∧ (l3_18 < (S 1071 0) ∨ (p1 = 639 ∧ l3_18 < 128))) ∧ (∀ r41 : Int, sv_R r41 → ((p1 = 639 → r41 = 15000 + l3_18) ∧ (¬ p1 = 639 → 0 ≤ r41 ∧ r41 < 14520)) → (0 ≤ r41 ∧ r41 < 15128) ∧ (sv_R (l3_18 + (1 : Int))) ∧ ((0 ≤ (l3_18 + (1 : Int)) ∧ (l3_18 + (1 : Int)) ≤ (S 1071 0)) ∧ ((S 1071 0) - (l3_18 + (1 : Int))) < ((S 1071 0) - l3_18)))))))) ∧ ((¬ (((S 1071 0) * ((S 1008 0) + (1 : Int))) ≤ l3_8)) → (sv_R (r6 + l3_8)) ∧ (0 ≤ (r6 + l3_8) ∧ (r6 + l3_8) < 647800) ∧ (∀ g64 : sv_S, (635639 ≤ (r6 + l3_8) → sm_pt (g64 68) (g64 69) (g64 70) = sm_pt (g7 68) (g7 69) (g7 70)) → (sv_R (l3_8 + (1 : Int))) ∧ ((0 ≤ (l3_8 + (1 : Int)) ∧ (l3_8 + (1 : Int)) ≤ (S 1071 0) * ((S 1008 0) + 1)) ∧ ((S 1071 0) * ((S 1008 0) + 1) - (l3_8 + (1 : Int))) < ((S 1071 0) * ((S 1008 0) + 1) - l3_8)))))))))) := by
  intro p1
  intro S
  intro h1_
  intro h2_
  rintro ⟨h3_, ⟨h4_, ⟨h5_, ⟨h6_, ⟨h7_, ⟨h8_, ⟨h9_, ⟨h10_, ⟨h11_, ⟨h12_, ⟨h13_, ⟨h14_, ⟨h15_, ⟨h16_, ⟨h17_, h18_⟩⟩⟩⟩⟩⟩⟩⟩⟩⟩⟩⟩⟩⟩⟩
  refine ⟨⟨h3_, ⟨h4_, ⟨h5_, ⟨h6_, ⟨h7_, ⟨h8_, ⟨h9_, ⟨h10_, ⟨h11_, ⟨h12_, ⟨h13_, ⟨h14_, ⟨h15_, ⟨h16_, ⟨h17_, h18_⟩⟩⟩⟩⟩⟩⟩⟩⟩⟩⟩⟩⟩⟩⟩, ?_⟩
  intro r6
  intro h19_
  rintro ⟨h20_, h21_⟩
  refine ⟨(la_clearState_0 h15_), ?_⟩
  intro l3_8
  intro h22_
  intro g7
  rintro ⟨h23_, h24_⟩
  refine ⟨(la_clearState_1 h24_), ?_⟩
  intro h25_
  intro h26_
  refine ⟨(la_clearState_2 h15_ h16_), ?_⟩
  refine ⟨?_, ?_⟩
  · skip
    intro h27_
    refine ⟨(la_clearState_3 h3_), ?_⟩
    intro l3_18
    intro h28_
    intro g17
    rintro ⟨h29_, h30_⟩
    refine ⟨(la_clearState_1 h30_), ?_⟩
    refine ⟨?_, ?_⟩
    · skip
      intro h31_
      refine ⟨?_, ?_⟩
      · skip
        exact (la_clearState_4 h13_ h17_ h18_)
      refine ⟨?_, ?_⟩
      · skip
        refine ⟨(la_clearState_5 h17_), ?_⟩
        exact (la_clearState_6 h13_ h18_)
      intro g26
      intro h32_
      refine ⟨?_, ?_⟩
      · skip
        refine ⟨h17_, ?_⟩
        exact (la_clearState_7 h13_ h18_)
      exact trivial
    intro h33_
    refine ⟨⟨h3_, ⟨h4_, ⟨h5_, ⟨h6_, ⟨h7_, ⟨h8_, ⟨h9_, ⟨h10_, ⟨h11_, ⟨h12_, ⟨h13_, ⟨h14_, ⟨h15_, ⟨h16_, ⟨h17_, ⟨h18_, (la_clearState_8 h4_ h29_ h33_)⟩⟩⟩⟩⟩⟩⟩⟩⟩⟩⟩⟩⟩⟩⟩⟩, ?_⟩
    intro r41
    intro h34_
    rintro ⟨h35_, h36_⟩
    refine ⟨?_, ?_⟩
    · skip
      refine ⟨?_, ?_⟩
      · skip
        exact (la_clearState_9 h29_ h35_ h36_)
      exact (la_clearState_10 h4_ h33_ h35_ h36_)
    refine ⟨(la_clearState_11 h4_ h29_ h33_), ?_⟩
    refine ⟨(la_clearState_12 h29_ h33_), ?_⟩
    exact la_clearState_13
  intro h37_
  refine ⟨?_, ?_⟩
  · skip
    exact (la_clearState_14 h16_ h19_ h20_ h21_ h23_ h37_)
  refine ⟨?_, ?_⟩
  · skip
    refine ⟨?_, ?_⟩
    · skip
      exact (la_clearState_15 h20_ h21_ h23_)
    exact (la_clearState_16 h16_ h20_ h21_ h37_)
  intro g64
  intro h38_
  refine ⟨(la_clearState_17 h16_ h23_ h37_), ?_⟩
  refine ⟨(la_clearState_12 h23_ h37_), ?_⟩
  exact la_clearState_13
set_option maxRecDepth 8000 in
set_option maxHeartbeats 2000000 in
theorem t_clearState : ∀ (p1 : Int) (S : sv_S), sm_ok S → sv_R p1 → (29 ≤ (S 1071 0) ∧ (S 1071 0) ≤ 127 ∧ 31 ≤ (S 1008 0) ∧ (S 1008 0) ≤ 90 ∧ 1 ≤ (S 1032 0) ∧ (S 1032 0) ≤ 11 ∧ 0 ≤ (S 1055 0) ∧ (S 1055 0) ≤ 19 ∧ (S 1071 0) = 29 + 6 * ((S 1032 0) - 1) + 2 * (S 1055 0) ∧ 0 ≤ (S 1046 0) ∧ (S 1046 0) + 2 * (S 1032 0) ≤ 500 ∧ sm_PD (S 1046 0) (S 1032 0) (S 1071 0) (S 1008 0) ∧ 0 ≤ (S 1071 0) * ((S 1008 0) + 1) ∧ (S 1071 0) * ((S 1008 0) + 1) ≤ 11557 ∧ 0 ≤ p1 ∧ (p1 = 639 ∨ p1 < (S 1046 0) + 2 * (S 1032 0))) → sv_T sm_XS sm_cs sm_L sm_sh 2 (q_clearState p1 S) 234 0 (lv_args 0 [.ref 0, sv_I p1]) [] S := by
  intro p1 S hok hp1 hpre
  have h := f_clearState p1 S hok hp1 hpre
  have hM := sm_h234
  show sv_T sm_XS sm_cs sm_L sm_sh 2 (q_clearState p1 S) 234 0 [(0, .ref 0), (1, sv_I p1)] [] S
  refine sv_aload_n hM dX12_clearState_0 rfl rfl ?_
  refine sv_iload_n hM dX12_clearState_1 rfl rfl ?_
  obtain ⟨o1, h⟩ := h
  refine sv_callV hM dX12_clearState_2 sm_iv_1085 (by decide) (sm_a0 _) rfl rfl (Nat.le_of_ble_eq_true rfl) sm_h223 (Nat.le_of_ble_eq_true rfl) (Nat.le_of_ble_eq_true rfl) (F' := 0) (Nat.le_of_ble_eq_true rfl) rfl (t_fieldsAt p1 S hok hp1 o1) (fun v S1 hq => ?_)
  obtain ⟨r6, rfl, hr6, ok3, md4, hpo5⟩ := hq
  obtain rfl : S = S1 := (funext fun j => md4 j (by intro q; cases q)).symm
  show sv_T sm_XS sm_cs sm_L sm_sh 2 (q_clearState p1 S) 234 5 [(0, .ref 0), (1, sv_I p1)] [sv_I r6] S
  have h := h r6 hr6 hpo5
  refine sv_istore_n hM dX12_clearState_5 (by decide) rfl ?_
  show sv_T sm_XS sm_cs sm_L sm_sh 2 (q_clearState p1 S) 234 6 [(0, .ref 0), (1, sv_I p1), (2, sv_I r6)] [] S
  refine sv_iconst (d := (0 : Int)) hM dX12_clearState_6 rfl rfl ?_
  refine sv_istore_n hM dX12_clearState_7 (by decide) rfl ?_
  show sv_T sm_XS sm_cs sm_L sm_sh 2 (q_clearState p1 S) 234 8 [(0, .ref 0), (1, sv_I p1), (2, sv_I r6), (3, sv_I (0 : Int))] [] S
  obtain ⟨hin10, h⟩ := h
  have hJ : ∀ a : Int × sv_S, (sv_R a.1 ∧ sm_ok (sv_sts S [68, 69, 70] a.2) ∧ (0 ≤ a.1 ∧ a.1 ≤ (S 1071 0) * ((S 1008 0) + 1))) → sv_T sm_XS sm_cs sm_L sm_sh 2 (q_clearState p1 S) 234 8 [(0, .ref 0), (1, sv_I p1), (2, sv_I r6), (3, sv_I a.1)] [] (sv_sts S [68, 69, 70] a.2) := by
    refine sv_loop (α := Int × sv_S) (fun a => sv_R a.1 ∧ sm_ok (sv_sts S [68, 69, 70] a.2) ∧ (0 ≤ a.1 ∧ a.1 ≤ (S 1071 0) * ((S 1008 0) + 1))) (fun a => (S 1071 0) * ((S 1008 0) + 1) - a.1) (fun a => sv_T sm_XS sm_cs sm_L sm_sh 2 (q_clearState p1 S) 234 8 [(0, .ref 0), (1, sv_I p1), (2, sv_I r6), (3, sv_I a.1)] [] (sv_sts S [68, 69, 70] a.2)) (fun a q => (h a.1 q.1 a.2 q.2.2).1) (fun a q ih9 => ?_)
    obtain ⟨l3_8, g7⟩ := a
    obtain ⟨hl3_8, ok11, hin10i⟩ := q
    have h := (h l3_8 hl3_8 g7 hin10i).2
    show sv_T sm_XS sm_cs sm_L sm_sh 2 (q_clearState p1 S) 234 8 [(0, .ref 0), (1, sv_I p1), (2, sv_I r6), (3, sv_I l3_8)] [] (sv_sts S [68, 69, 70] g7)
    have md12 : sv_mod [68, 69, 70, 81, 82, 83, 84, 85, 86, 76, 77] S (sv_sts S [68, 69, 70] g7) := sv_mod.sts sv_mod.rf (by decide)
    have md13 : sv_mod [68, 69, 70] S (sv_sts S [68, 69, 70] g7) := sv_mod.sts sv_mod.rf (by decide)
    refine sv_iload_n hM dX12_clearState_8 rfl rfl ?_
    refine sv_aload_n hM dX12_clearState_9 rfl rfl ?_
    have k14 : sv_R (S 1071 0) := sm_okI ok11 sm_r1071 0
    have h := h k14
    refine sv_getI hM dX12_clearState_10 sm_fl_765 (sm_a0 _) sm_k71 rfl (x := (S 1071 0)) rfl ?_
    refine sv_aload_n hM dX12_clearState_13 rfl rfl ?_
    have k15 : sv_R (S 1008 0) := sm_okI ok11 sm_r1008 0
    have h := h k15
    refine sv_getI hM dX12_clearState_14 sm_fl_762 (sm_a0 _) sm_k8 rfl (x := (S 1008 0)) rfl ?_
    refine sv_iconst (d := (1 : Int)) hM dX12_clearState_17 rfl rfl ?_
    refine sv_iadd hM dX12_clearState_18 rfl ?_
    refine sv_imul hM dX12_clearState_19 rfl ?_
    obtain ⟨o16, h⟩ := h
    refine sv_icmp_ge hM dX12_clearState_20 hl3_8 o16 (t := 36) rfl rfl (fun hc => ?_) (fun hc => ?_)
    · have h := h.1 (hc)
      refine sv_iconst (d := (0 : Int)) hM dX12_clearState_36 rfl rfl ?_
      refine sv_istore_n hM dX12_clearState_37 (by decide) rfl ?_
      show sv_T sm_XS sm_cs sm_L sm_sh 2 (q_clearState p1 S) 234 38 [(0, .ref 0), (1, sv_I p1), (2, sv_I r6), (3, sv_I (0 : Int))] [] (sv_sts S [68, 69, 70] g7)
      obtain ⟨hin20, h⟩ := h
      have hJ : ∀ a : Int × sv_S, (sv_R a.1 ∧ sm_ok (sv_sts (sv_sts S [68, 69, 70] g7) [81, 82, 83, 84, 85, 86] a.2) ∧ (0 ≤ a.1 ∧ a.1 ≤ (S 1071 0))) → sv_T sm_XS sm_cs sm_L sm_sh 2 (q_clearState p1 S) 234 38 [(0, .ref 0), (1, sv_I p1), (2, sv_I r6), (3, sv_I a.1)] [] (sv_sts (sv_sts S [68, 69, 70] g7) [81, 82, 83, 84, 85, 86] a.2) := by
        refine sv_loop (α := Int × sv_S) (fun a => sv_R a.1 ∧ sm_ok (sv_sts (sv_sts S [68, 69, 70] g7) [81, 82, 83, 84, 85, 86] a.2) ∧ (0 ≤ a.1 ∧ a.1 ≤ (S 1071 0))) (fun a => (S 1071 0) - a.1) (fun a => sv_T sm_XS sm_cs sm_L sm_sh 2 (q_clearState p1 S) 234 38 [(0, .ref 0), (1, sv_I p1), (2, sv_I r6), (3, sv_I a.1)] [] (sv_sts (sv_sts S [68, 69, 70] g7) [81, 82, 83, 84, 85, 86] a.2)) (fun a q => (h a.1 q.1 a.2 q.2.2).1) (fun a q ih19 => ?_)
        obtain ⟨l3_18, g17⟩ := a
        obtain ⟨hl3_18, ok21, hin20i⟩ := q
        have h := (h l3_18 hl3_18 g17 hin20i).2
        show sv_T sm_XS sm_cs sm_L sm_sh 2 (q_clearState p1 S) 234 38 [(0, .ref 0), (1, sv_I p1), (2, sv_I r6), (3, sv_I l3_18)] [] (sv_sts (sv_sts S [68, 69, 70] g7) [81, 82, 83, 84, 85, 86] g17)
        have md22 : sv_mod [68, 69, 70, 81, 82, 83, 84, 85, 86, 76, 77] S (sv_sts (sv_sts S [68, 69, 70] g7) [81, 82, 83, 84, 85, 86] g17) := sv_mod.sts md12 (by decide)
        have md23 : sv_mod [81, 82, 83, 84, 85, 86] (sv_sts S [68, 69, 70] g7) (sv_sts (sv_sts S [68, 69, 70] g7) [81, 82, 83, 84, 85, 86] g17) := sv_mod.sts sv_mod.rf (by decide)
        refine sv_iload_n hM dX12_clearState_38 rfl rfl ?_
        refine sv_aload_n hM dX12_clearState_39 rfl rfl ?_
        refine sv_getI hM dX12_clearState_40 sm_fl_765 (sm_a0 _) sm_k71 rfl (x := (S 1071 0)) rfl ?_
        refine sv_icmp_ge hM dX12_clearState_43 hl3_18 k14 (t := 108) rfl rfl (fun hc => ?_) (fun hc => ?_)
        · have h := h.1 (hc)
          refine sv_aload_n hM dX12_clearState_108 rfl rfl ?_
          refine sv_aload_n hM dX12_clearState_109 rfl rfl ?_
          refine sv_iload_n hM dX12_clearState_110 rfl rfl ?_
          refine sv_callV hM dX12_clearState_111 sm_iv_1098 (by decide) (sm_a0 _) rfl rfl (Nat.le_of_ble_eq_true rfl) sm_h227 (Nat.le_of_ble_eq_true rfl) (Nat.le_of_ble_eq_true rfl) (F' := 0) (Nat.le_of_ble_eq_true rfl) rfl (t_thisAt p1 (sv_sts (sv_sts S [68, 69, 70] g7) [81, 82, 83, 84, 85, 86] g17) ok21 hp1) (fun v S1 hq => ?_)
          obtain ⟨rfl, hS1⟩ := hq
          obtain rfl : (sv_sts (sv_sts S [68, 69, 70] g7) [81, 82, 83, 84, 85, 86] g17) = S1 := hS1.symm
          show sv_T sm_XS sm_cs sm_L sm_sh 2 (q_clearState p1 S) 234 114 [(0, .ref 0), (1, sv_I p1), (2, sv_I r6), (3, sv_I l3_18)] [sv_I (635000 + p1), .ref 0] (sv_sts (sv_sts S [68, 69, 70] g7) [81, 82, 83, 84, 85, 86] g17)
          obtain ⟨o24, h⟩ := h
          obtain ⟨o25, h⟩ := h
          refine sv_callV hM dX12_clearState_114 sm_iv_1066 (by decide) (sm_a0 _) rfl rfl (Nat.le_of_ble_eq_true rfl) sm_h206 (Nat.le_of_ble_eq_true rfl) (Nat.le_of_ble_eq_true rfl) (F' := 0) (Nat.le_of_ble_eq_true rfl) rfl (t_empty (635000 + p1) (sv_sts (sv_sts S [68, 69, 70] g7) [81, 82, 83, 84, 85, 86] g17) ok21 o24 o25) (fun v S1 hq => ?_)
          obtain ⟨rfl, ok27, md28, hpo29⟩ := hq
          obtain ⟨g26, rfl⟩ : ∃ g, S1 = sv_sts (sv_sts (sv_sts S [68, 69, 70] g7) [81, 82, 83, 84, 85, 86] g17) [68, 69, 70] g := ⟨_, md28.eq⟩
          show sv_T sm_XS sm_cs sm_L sm_sh 2 (q_clearState p1 S) 234 117 [(0, .ref 0), (1, sv_I p1), (2, sv_I r6), (3, sv_I l3_18)] [] (sv_sts (sv_sts (sv_sts S [68, 69, 70] g7) [81, 82, 83, 84, 85, 86] g17) [68, 69, 70] g26)
          have md30 : sv_mod [68, 69, 70, 81, 82, 83, 84, 85, 86, 76, 77] S (sv_sts (sv_sts (sv_sts S [68, 69, 70] g7) [81, 82, 83, 84, 85, 86] g17) [68, 69, 70] g26) := sv_mod.sts md22 (by decide)
          have h := h g26 hpo29
          refine sv_aload_n hM dX12_clearState_117 rfl rfl ?_
          refine sv_getA hM dX12_clearState_118 sm_fl_241 (sm_a0 _) sm_k128 rfl ?_
          refine sv_iload_n hM dX12_clearState_121 rfl rfl ?_
          refine sv_lconst (d := (0 : Int)) hM dX12_clearState_122 rfl rfl ?_
          obtain ⟨o31, h⟩ := h
          refine sv_last sm_X hM dX12_clearState_123 (sm_a76 _) (by decide) o31.1 o31.2 rfl ?_
          have ok32 : sm_ok (sv_up (sv_sts (sv_sts (sv_sts S [68, 69, 70] g7) [81, 82, 83, 84, 85, 86] g17) [68, 69, 70] g26) 76 p1 (0 : Int)) := sm_upJ ok27 sm_r76 (⟨by decide, by decide⟩ : sv_RL (0 : Int))
          have md33 : sv_mod [68, 69, 70, 81, 82, 83, 84, 85, 86, 76, 77] S (sv_up (sv_sts (sv_sts (sv_sts S [68, 69, 70] g7) [81, 82, 83, 84, 85, 86] g17) [68, 69, 70] g26) 76 p1 (0 : Int)) := sv_mod.up md30 (by decide)
          refine sv_aload_n hM dX12_clearState_124 rfl rfl ?_
          refine sv_getA hM dX12_clearState_125 sm_fl_244 (sm_a0 _) sm_k129 rfl ?_
          refine sv_iload_n hM dX12_clearState_128 rfl rfl ?_
          refine sv_lconst (d := (0 : Int)) hM dX12_clearState_129 rfl rfl ?_
          refine sv_last sm_X hM dX12_clearState_130 (sm_a77 _) (by decide) o31.1 o31.2 rfl ?_
          have ok34 : sm_ok (sv_up (sv_up (sv_sts (sv_sts (sv_sts S [68, 69, 70] g7) [81, 82, 83, 84, 85, 86] g17) [68, 69, 70] g26) 76 p1 (0 : Int)) 77 p1 (0 : Int)) := sm_upJ ok32 sm_r77 (⟨by decide, by decide⟩ : sv_RL (0 : Int))
          have md35 : sv_mod [68, 69, 70, 81, 82, 83, 84, 85, 86, 76, 77] S (sv_up (sv_up (sv_sts (sv_sts (sv_sts S [68, 69, 70] g7) [81, 82, 83, 84, 85, 86] g17) [68, 69, 70] g26) 76 p1 (0 : Int)) 77 p1 (0 : Int)) := sv_mod.up md33 (by decide)
          exact sv_vret hM dX12_clearState_131 rfl ⟨rfl, ok34, md35, h⟩
        · have h := h.2 (hc)
          refine sv_aload_n hM dX12_clearState_46 rfl rfl ?_
          refine sv_iload_n hM dX12_clearState_47 rfl rfl ?_
          refine sv_iload_n hM dX12_clearState_48 rfl rfl ?_
          obtain ⟨o36, h⟩ := h
          refine sv_callV hM dX12_clearState_49 sm_iv_1101 (by decide) (sm_a0 _) rfl rfl (Nat.le_of_ble_eq_true rfl) sm_h226 (Nat.le_of_ble_eq_true rfl) (Nat.le_of_ble_eq_true rfl) (F' := 1) (Nat.le_of_ble_eq_true rfl) rfl (t_of p1 l3_18 (sv_sts (sv_sts S [68, 69, 70] g7) [81, 82, 83, 84, 85, 86] g17) ok21 hp1 hl3_18 o36) (fun v S1 hq => ?_)
          obtain ⟨r41, rfl, hr41, ok38, md39, hpo40⟩ := hq
          obtain rfl : (sv_sts (sv_sts S [68, 69, 70] g7) [81, 82, 83, 84, 85, 86] g17) = S1 := (funext fun j => md39 j (by intro q; cases q)).symm
          show sv_T sm_XS sm_cs sm_L sm_sh 2 (q_clearState p1 S) 234 52 [(0, .ref 0), (1, sv_I p1), (2, sv_I r6), (3, sv_I l3_18)] [sv_I r41] (sv_sts (sv_sts S [68, 69, 70] g7) [81, 82, 83, 84, 85, 86] g17)
          have h := h r41 hr41 hpo40
          refine sv_istore hM dX12_clearState_52 (by decide) rfl ?_
          show sv_T sm_XS sm_cs sm_L sm_sh 2 (q_clearState p1 S) 234 54 [(0, .ref 0), (1, sv_I p1), (2, sv_I r6), (3, sv_I l3_18), (4, sv_I r41)] [] (sv_sts (sv_sts S [68, 69, 70] g7) [81, 82, 83, 84, 85, 86] g17)
          refine sv_aload_n hM dX12_clearState_54 rfl rfl ?_
          refine sv_getA hM dX12_clearState_55 sm_fl_256 (sm_a0 _) sm_k133 rfl ?_
          refine sv_iload hM dX12_clearState_58 rfl rfl ?_
          refine sv_iconst (d := (0 : Int)) hM dX12_clearState_60 rfl rfl ?_
          obtain ⟨o42, h⟩ := h
          refine sv_zast sm_X hM dX12_clearState_61 (sm_a81 _) (by decide) o42.1 o42.2 (sv_nnZ (⟨by decide, by decide⟩ : 0 ≤ (0 : Int) ∧ (0 : Int) ≤ 1)) rfl ?_
          have ok43 : sm_ok (sv_up (sv_sts (sv_sts S [68, 69, 70] g7) [81, 82, 83, 84, 85, 86] g17) 81 r41 (0 : Int)) := sm_upZ ok38 sm_r81 (⟨by decide, by decide⟩ : 0 ≤ (0 : Int) ∧ (0 : Int) ≤ 1)
          have md44 : sv_mod [68, 69, 70, 81, 82, 83, 84, 85, 86, 76, 77] S (sv_up (sv_sts (sv_sts S [68, 69, 70] g7) [81, 82, 83, 84, 85, 86] g17) 81 r41 (0 : Int)) := sv_mod.up md22 (by decide)
          have md45 : sv_mod [81, 82, 83, 84, 85, 86] (sv_sts S [68, 69, 70] g7) (sv_up (sv_sts (sv_sts S [68, 69, 70] g7) [81, 82, 83, 84, 85, 86] g17) 81 r41 (0 : Int)) := sv_mod.up md23 (by decide)
          refine sv_aload_n hM dX12_clearState_62 rfl rfl ?_
          refine sv_getA hM dX12_clearState_63 sm_fl_259 (sm_a0 _) sm_k134 rfl ?_
          refine sv_iload hM dX12_clearState_66 rfl rfl ?_
          refine sv_iconst (d := (0 : Int)) hM dX12_clearState_68 rfl rfl ?_
          refine sv_zast sm_X hM dX12_clearState_69 (sm_a82 _) (by decide) o42.1 o42.2 (sv_nnZ (⟨by decide, by decide⟩ : 0 ≤ (0 : Int) ∧ (0 : Int) ≤ 1)) rfl ?_
          have ok46 : sm_ok (sv_up (sv_up (sv_sts (sv_sts S [68, 69, 70] g7) [81, 82, 83, 84, 85, 86] g17) 81 r41 (0 : Int)) 82 r41 (0 : Int)) := sm_upZ ok43 sm_r82 (⟨by decide, by decide⟩ : 0 ≤ (0 : Int) ∧ (0 : Int) ≤ 1)
          have md47 : sv_mod [68, 69, 70, 81, 82, 83, 84, 85, 86, 76, 77] S (sv_up (sv_up (sv_sts (sv_sts S [68, 69, 70] g7) [81, 82, 83, 84, 85, 86] g17) 81 r41 (0 : Int)) 82 r41 (0 : Int)) := sv_mod.up md44 (by decide)
          have md48 : sv_mod [81, 82, 83, 84, 85, 86] (sv_sts S [68, 69, 70] g7) (sv_up (sv_up (sv_sts (sv_sts S [68, 69, 70] g7) [81, 82, 83, 84, 85, 86] g17) 81 r41 (0 : Int)) 82 r41 (0 : Int)) := sv_mod.up md45 (by decide)
          refine sv_aload_n hM dX12_clearState_70 rfl rfl ?_
          refine sv_getA hM dX12_clearState_71 sm_fl_262 (sm_a0 _) sm_k135 rfl ?_
          refine sv_iload hM dX12_clearState_74 rfl rfl ?_
          refine sv_lconst (d := (0 : Int)) hM dX12_clearState_76 rfl rfl ?_
          refine sv_last sm_X hM dX12_clearState_77 (sm_a83 _) (by decide) o42.1 o42.2 rfl ?_
          have ok49 : sm_ok (sv_up (sv_up (sv_up (sv_sts (sv_sts S [68, 69, 70] g7) [81, 82, 83, 84, 85, 86] g17) 81 r41 (0 : Int)) 82 r41 (0 : Int)) 83 r41 (0 : Int)) := sm_upJ ok46 sm_r83 (⟨by decide, by decide⟩ : sv_RL (0 : Int))
          have md50 : sv_mod [68, 69, 70, 81, 82, 83, 84, 85, 86, 76, 77] S (sv_up (sv_up (sv_up (sv_sts (sv_sts S [68, 69, 70] g7) [81, 82, 83, 84, 85, 86] g17) 81 r41 (0 : Int)) 82 r41 (0 : Int)) 83 r41 (0 : Int)) := sv_mod.up md47 (by decide)
          have md51 : sv_mod [81, 82, 83, 84, 85, 86] (sv_sts S [68, 69, 70] g7) (sv_up (sv_up (sv_up (sv_sts (sv_sts S [68, 69, 70] g7) [81, 82, 83, 84, 85, 86] g17) 81 r41 (0 : Int)) 82 r41 (0 : Int)) 83 r41 (0 : Int)) := sv_mod.up md48 (by decide)
          refine sv_aload_n hM dX12_clearState_78 rfl rfl ?_
          refine sv_getA hM dX12_clearState_79 sm_fl_265 (sm_a0 _) sm_k136 rfl ?_
          refine sv_iload hM dX12_clearState_82 rfl rfl ?_
          refine sv_lconst (d := (0 : Int)) hM dX12_clearState_84 rfl rfl ?_
          refine sv_last sm_X hM dX12_clearState_85 (sm_a84 _) (by decide) o42.1 o42.2 rfl ?_
          have ok52 : sm_ok (sv_up (sv_up (sv_up (sv_up (sv_sts (sv_sts S [68, 69, 70] g7) [81, 82, 83, 84, 85, 86] g17) 81 r41 (0 : Int)) 82 r41 (0 : Int)) 83 r41 (0 : Int)) 84 r41 (0 : Int)) := sm_upJ ok49 sm_r84 (⟨by decide, by decide⟩ : sv_RL (0 : Int))
          have md53 : sv_mod [68, 69, 70, 81, 82, 83, 84, 85, 86, 76, 77] S (sv_up (sv_up (sv_up (sv_up (sv_sts (sv_sts S [68, 69, 70] g7) [81, 82, 83, 84, 85, 86] g17) 81 r41 (0 : Int)) 82 r41 (0 : Int)) 83 r41 (0 : Int)) 84 r41 (0 : Int)) := sv_mod.up md50 (by decide)
          have md54 : sv_mod [81, 82, 83, 84, 85, 86] (sv_sts S [68, 69, 70] g7) (sv_up (sv_up (sv_up (sv_up (sv_sts (sv_sts S [68, 69, 70] g7) [81, 82, 83, 84, 85, 86] g17) 81 r41 (0 : Int)) 82 r41 (0 : Int)) 83 r41 (0 : Int)) 84 r41 (0 : Int)) := sv_mod.up md51 (by decide)
          refine sv_aload_n hM dX12_clearState_86 rfl rfl ?_
          refine sv_getA hM dX12_clearState_87 sm_fl_268 (sm_a0 _) sm_k137 rfl ?_
          refine sv_iload hM dX12_clearState_90 rfl rfl ?_
          refine sv_lconst (d := (0 : Int)) hM dX12_clearState_92 rfl rfl ?_
          refine sv_last sm_X hM dX12_clearState_93 (sm_a85 _) (by decide) o42.1 o42.2 rfl ?_
          have ok55 : sm_ok (sv_up (sv_up (sv_up (sv_up (sv_up (sv_sts (sv_sts S [68, 69, 70] g7) [81, 82, 83, 84, 85, 86] g17) 81 r41 (0 : Int)) 82 r41 (0 : Int)) 83 r41 (0 : Int)) 84 r41 (0 : Int)) 85 r41 (0 : Int)) := sm_upJ ok52 sm_r85 (⟨by decide, by decide⟩ : sv_RL (0 : Int))
          have md56 : sv_mod [68, 69, 70, 81, 82, 83, 84, 85, 86, 76, 77] S (sv_up (sv_up (sv_up (sv_up (sv_up (sv_sts (sv_sts S [68, 69, 70] g7) [81, 82, 83, 84, 85, 86] g17) 81 r41 (0 : Int)) 82 r41 (0 : Int)) 83 r41 (0 : Int)) 84 r41 (0 : Int)) 85 r41 (0 : Int)) := sv_mod.up md53 (by decide)
          have md57 : sv_mod [81, 82, 83, 84, 85, 86] (sv_sts S [68, 69, 70] g7) (sv_up (sv_up (sv_up (sv_up (sv_up (sv_sts (sv_sts S [68, 69, 70] g7) [81, 82, 83, 84, 85, 86] g17) 81 r41 (0 : Int)) 82 r41 (0 : Int)) 83 r41 (0 : Int)) 84 r41 (0 : Int)) 85 r41 (0 : Int)) := sv_mod.up md54 (by decide)
          refine sv_aload_n hM dX12_clearState_94 rfl rfl ?_
          refine sv_getA hM dX12_clearState_95 sm_fl_271 (sm_a0 _) sm_k138 rfl ?_
          refine sv_iload hM dX12_clearState_98 rfl rfl ?_
          refine sv_lconst (d := (0 : Int)) hM dX12_clearState_100 rfl rfl ?_
          refine sv_last sm_X hM dX12_clearState_101 (sm_a86 _) (by decide) o42.1 o42.2 rfl ?_
          have ok58 : sm_ok (sv_up (sv_up (sv_up (sv_up (sv_up (sv_up (sv_sts (sv_sts S [68, 69, 70] g7) [81, 82, 83, 84, 85, 86] g17) 81 r41 (0 : Int)) 82 r41 (0 : Int)) 83 r41 (0 : Int)) 84 r41 (0 : Int)) 85 r41 (0 : Int)) 86 r41 (0 : Int)) := sm_upJ ok55 sm_r86 (⟨by decide, by decide⟩ : sv_RL (0 : Int))
          have md59 : sv_mod [68, 69, 70, 81, 82, 83, 84, 85, 86, 76, 77] S (sv_up (sv_up (sv_up (sv_up (sv_up (sv_up (sv_sts (sv_sts S [68, 69, 70] g7) [81, 82, 83, 84, 85, 86] g17) 81 r41 (0 : Int)) 82 r41 (0 : Int)) 83 r41 (0 : Int)) 84 r41 (0 : Int)) 85 r41 (0 : Int)) 86 r41 (0 : Int)) := sv_mod.up md56 (by decide)
          have md60 : sv_mod [81, 82, 83, 84, 85, 86] (sv_sts S [68, 69, 70] g7) (sv_up (sv_up (sv_up (sv_up (sv_up (sv_up (sv_sts (sv_sts S [68, 69, 70] g7) [81, 82, 83, 84, 85, 86] g17) 81 r41 (0 : Int)) 82 r41 (0 : Int)) 83 r41 (0 : Int)) 84 r41 (0 : Int)) 85 r41 (0 : Int)) 86 r41 (0 : Int)) := sv_mod.up md57 (by decide)
          refine sv_iinc (d := (1 : Int)) hM dX12_clearState_102 rfl (by decide) rfl rfl ?_
          show sv_T sm_XS sm_cs sm_L sm_sh 2 (q_clearState p1 S) 234 105 [(0, .ref 0), (1, sv_I p1), (2, sv_I r6), (3, sv_I (l3_18 + (1 : Int))), (4, sv_I r41)] [] (sv_up (sv_up (sv_up (sv_up (sv_up (sv_up (sv_sts (sv_sts S [68, 69, 70] g7) [81, 82, 83, 84, 85, 86] g17) 81 r41 (0 : Int)) 82 r41 (0 : Int)) 83 r41 (0 : Int)) 84 r41 (0 : Int)) 85 r41 (0 : Int)) 86 r41 (0 : Int))
          refine sv_goto hM dX12_clearState_105 (pc' := 38) rfl ?_
          obtain ⟨o61, h⟩ := h
          have eS := sv_mod.eq md60
          have hb := ih19 ((l3_18 + (1 : Int)), (sv_up (sv_up (sv_up (sv_up (sv_up (sv_up (sv_sts (sv_sts S [68, 69, 70] g7) [81, 82, 83, 84, 85, 86] g17) 81 r41 (0 : Int)) 82 r41 (0 : Int)) 83 r41 (0 : Int)) 84 r41 (0 : Int)) 85 r41 (0 : Int)) 86 r41 (0 : Int))) ⟨o61, (by rw [← eS]; exact ok58), h.1⟩ h.2
          have hb : sv_T sm_XS sm_cs sm_L sm_sh 2 (q_clearState p1 S) 234 38 [(0, .ref 0), (1, sv_I p1), (2, sv_I r6), (3, sv_I (l3_18 + (1 : Int)))] [] (sv_up (sv_up (sv_up (sv_up (sv_up (sv_up (sv_sts (sv_sts S [68, 69, 70] g7) [81, 82, 83, 84, 85, 86] g17) 81 r41 (0 : Int)) 82 r41 (0 : Int)) 83 r41 (0 : Int)) 84 r41 (0 : Int)) 85 r41 (0 : Int)) 86 r41 (0 : Int)) := Eq.mpr (congrArg (fun Z => sv_T sm_XS sm_cs sm_L sm_sh 2 (q_clearState p1 S) 234 38 [(0, .ref 0), (1, sv_I p1), (2, sv_I r6), (3, sv_I (l3_18 + (1 : Int)))] [] Z) eS) hb
          exact sv_less (lv := [(0, .ref 0), (1, sv_I p1), (2, sv_I r6), (3, sv_I (l3_18 + (1 : Int)))]) (sv_Sub_cons rfl (sv_Sub_cons rfl (sv_Sub_cons rfl (sv_Sub_cons rfl sv_Sub_nil)))) hb
      have eS := sv_mod.eq (sv_mod.rf (l := [81, 82, 83, 84, 85, 86]) (S := (sv_sts S [68, 69, 70] g7)))
      have hb := hJ ((0 : Int), (sv_sts S [68, 69, 70] g7)) ⟨(⟨by decide, by decide⟩ : sv_R (0 : Int)), (by rw [← eS]; exact ok11), hin20⟩
      have hb : sv_T sm_XS sm_cs sm_L sm_sh 2 (q_clearState p1 S) 234 38 [(0, .ref 0), (1, sv_I p1), (2, sv_I r6), (3, sv_I (0 : Int))] [] (sv_sts S [68, 69, 70] g7) := Eq.mpr (congrArg (fun Z => sv_T sm_XS sm_cs sm_L sm_sh 2 (q_clearState p1 S) 234 38 [(0, .ref 0), (1, sv_I p1), (2, sv_I r6), (3, sv_I (0 : Int))] [] Z) eS) hb
      exact hb
    · have h := h.2 (hc)
      refine sv_aload_n hM dX12_clearState_23 rfl rfl ?_
      refine sv_iload_n hM dX12_clearState_24 rfl rfl ?_
      refine sv_iload_n hM dX12_clearState_25 rfl rfl ?_
      refine sv_iadd hM dX12_clearState_26 rfl ?_
      obtain ⟨o62, h⟩ := h
      obtain ⟨o63, h⟩ := h
      refine sv_callV hM dX12_clearState_27 sm_iv_1066 (by decide) (sm_a0 _) rfl rfl (Nat.le_of_ble_eq_true rfl) sm_h206 (Nat.le_of_ble_eq_true rfl) (Nat.le_of_ble_eq_true rfl) (F' := 0) (Nat.le_of_ble_eq_true rfl) rfl (t_empty (r6 + l3_8) (sv_sts S [68, 69, 70] g7) ok11 o62 o63) (fun v S1 hq => ?_)
      obtain ⟨rfl, ok65, md66, hpo67⟩ := hq
      obtain ⟨g64, rfl⟩ : ∃ g, S1 = sv_sts (sv_sts S [68, 69, 70] g7) [68, 69, 70] g := ⟨_, md66.eq⟩
      show sv_T sm_XS sm_cs sm_L sm_sh 2 (q_clearState p1 S) 234 30 [(0, .ref 0), (1, sv_I p1), (2, sv_I r6), (3, sv_I l3_8)] [] (sv_sts (sv_sts S [68, 69, 70] g7) [68, 69, 70] g64)
      have md68 : sv_mod [68, 69, 70, 81, 82, 83, 84, 85, 86, 76, 77] S (sv_sts (sv_sts S [68, 69, 70] g7) [68, 69, 70] g64) := sv_mod.sts md12 (by decide)
      have md69 : sv_mod [68, 69, 70] S (sv_sts (sv_sts S [68, 69, 70] g7) [68, 69, 70] g64) := sv_mod.sts md13 (by decide)
      have h := h g64 hpo67
      refine sv_iinc (d := (1 : Int)) hM dX12_clearState_30 rfl (by decide) rfl rfl ?_
      show sv_T sm_XS sm_cs sm_L sm_sh 2 (q_clearState p1 S) 234 33 [(0, .ref 0), (1, sv_I p1), (2, sv_I r6), (3, sv_I (l3_8 + (1 : Int)))] [] (sv_sts (sv_sts S [68, 69, 70] g7) [68, 69, 70] g64)
      refine sv_goto hM dX12_clearState_33 (pc' := 8) rfl ?_
      obtain ⟨o70, h⟩ := h
      have eS := sv_mod.eq md69
      have hb := ih9 ((l3_8 + (1 : Int)), (sv_sts (sv_sts S [68, 69, 70] g7) [68, 69, 70] g64)) ⟨o70, (by rw [← eS]; exact ok65), h.1⟩ h.2
      have hb : sv_T sm_XS sm_cs sm_L sm_sh 2 (q_clearState p1 S) 234 8 [(0, .ref 0), (1, sv_I p1), (2, sv_I r6), (3, sv_I (l3_8 + (1 : Int)))] [] (sv_sts (sv_sts S [68, 69, 70] g7) [68, 69, 70] g64) := Eq.mpr (congrArg (fun Z => sv_T sm_XS sm_cs sm_L sm_sh 2 (q_clearState p1 S) 234 8 [(0, .ref 0), (1, sv_I p1), (2, sv_I r6), (3, sv_I (l3_8 + (1 : Int)))] [] Z) eS) hb
      exact sv_less (lv := [(0, .ref 0), (1, sv_I p1), (2, sv_I r6), (3, sv_I (l3_8 + (1 : Int)))]) (sv_Sub_cons rfl (sv_Sub_cons rfl (sv_Sub_cons rfl (sv_Sub_cons rfl sv_Sub_nil)))) hb
  have eS := sv_mod.eq (sv_mod.rf (l := [68, 69, 70]) (S := S))
  have hb := hJ ((0 : Int), S) ⟨(⟨by decide, by decide⟩ : sv_R (0 : Int)), (by rw [← eS]; exact ok3), hin10⟩
  have hb : sv_T sm_XS sm_cs sm_L sm_sh 2 (q_clearState p1 S) 234 8 [(0, .ref 0), (1, sv_I p1), (2, sv_I r6), (3, sv_I (0 : Int))] [] S := Eq.mpr (congrArg (fun Z => sv_T sm_XS sm_cs sm_L sm_sh 2 (q_clearState p1 S) 234 8 [(0, .ref 0), (1, sv_I p1), (2, sv_I r6), (3, sv_I (0 : Int))] [] Z) eS) hb
  exact hb
def q_load (p1 : Int) (S : sv_S) : Option Value → sv_S → Prop := fun v S' => v = none ∧ sm_ok S' ∧ sv_mod [68, 69, 70, 81, 82, 83, 84, 85, 86, 74, 78, 79, 80, 76, 77, 1100031] S S' ∧ (sm_pt (S' 68) (S' 69) (S' 70) = sm_pt (S 68) (S 69) (S 70) ∧ sm_pl (S' 81) (S' 82) (S' 83) (S' 84) (S' 85) (S' 86) = sm_pl (S 81) (S 82) (S 83) (S 84) (S 85) (S 86) ∧ sm_ps (S' 76) (S' 77) = sm_ps (S 76) (S 77) ∧ sm_ST (S' 71) (S' 74) (S' 75) (S' 78) (S' 79) (S' 80) (S' 27) (S' 1100007) (S' 1100023) (S' 1100024) (S' 1046 0) ((S' 1046 0) + 2 * (S' 1032 0)) (S' 1127 0) ∧ 0 ≤ (S' 74 639) ∧ (S' 74 639) ≤ 400 ∧ 0 ≤ (S' 78 639) ∧ (S' 78 639) ≤ 40 ∧ (S' 78 639) = sm_dp (S' 1100024) (S' 1100031 0) ∧ -1 ≤ (S' 1100031 0) ∧ (S' 1100031 0) < (S' 1046 0) ∧ (0 ≤ (S' 1100031 0) → (S' 26 (S' 1100031 0)) = 27) ∧ sm_TC (S' 79) (S' 80) (S' 27) (S' 1100007) (S' 1100023) (S' 1100024) 25560 (S' 1100031 0) ∧ (S' 74 639) = (S' 1100007 p1) ∧ (S' 1100031 0) = (S' 1100023 p1))
theorem la_load_0 {x0 x1 x2 : Int} (h0 : 1 ≤ x0) (h1 : x1 < x2) : x1 < x2 + 2 * x0 := by omega
theorem la_load_1 {x0 x1 x2 : Int} (h0 : 1 ≤ x0) (h1 : x1 + 2 * x0 ≤ 500) (h2 : x2 < x1) : x2 < 640 := by omega
theorem la_load_2 {x0 x1 x2 x3 : Int} (h0 : 1 ≤ x0) (h1 : x1 + 2 * x0 ≤ 500) (h2 : 0 ≤ x2) (h3 : x2 ≤ 11557) (h4 : 0 ≤ x3) (h5 : x3 < x1) : 0 ≤ x2 ∧ x2 ≤ 11557 ∧ 0 ≤ x3 ∧ (x3 = 639 ∨ x3 < x1 + 2 * x0) := by omega
theorem la_load_3 {x0 x1 x2 : Int} (h0 : 1 ≤ x0) (h1 : x1 + 2 * x0 ≤ 500) (h2 : x2 < x1) : ¬ x2 = 639 := by omega
theorem la_load_4 {x0 x1 : Int} (h0 : 0 ≤ x0) : (0 : Int) ≤ 0 ∧ 0 ≤ x0 ∧ x1 = x1 := by omega
theorem la_load_5 {x0 x1 : Int} (h0 : x0 ≤ x1) : 0 ≤ x1 - x0 := by omega
theorem la_load_6 {x0 : Int} (h0 : 0 ≤ x0) (h1 : x0 ≤ 11557) : sv_R x0 := by omega
theorem la_load_7 {x0 x1 x2 x3 : Int} (h0 : 1 ≤ x0) (h1 : 0 ≤ x1) (h2 : x1 ≤ 11557) (h3 : 0 ≤ x2) (h4 : x2 < x3) : 0 ≤ x1 ∧ x1 ≤ 11557 ∧ 0 ≤ x2 ∧ x2 < x3 + 2 * x0 := by omega
theorem la_load_8 {x0 x1 x2 : Int} (h0 : 1 ≤ x0) (h1 : x1 + 2 * x0 ≤ 500) (h2 : 0 ≤ x2) (h3 : x2 < x1) : 0 ≤ x2 ∧ x2 < 640 := by omega
theorem la_load_9 : (0 : Int) ≤ 639 ∧ (639 : Int) < 640 := by omega
theorem la_load_10 : (0 : Int) ≤ 0 := by omega
theorem la_load_11 {x0 x1 : Int} (h0 : x0 < x1) : ¬ x1 ≤ x0 := by omega
theorem la_load_12 {x0 x1 x2 : Int} (h0 : x0 = x1) (h1 : 0 ≤ x1) (h2 : x2 = x0) : 0 ≤ x2 := by omega
theorem la_load_13 {x0 x1 x2 : Int} (h0 : 1 ≤ x0) (h1 : x1 + 2 * x0 ≤ 500) (h2 : 0 ≤ x2) (h3 : x2 < x1) : sv_R (635000 + x2) := by omega
theorem la_load_14 : sv_R (635000 + 639) := by omega
theorem la_load_15 {x0 x1 x2 : Int} (h0 : 1 ≤ x0) (h1 : x1 + 2 * x0 ≤ 500) (h2 : 0 ≤ x2) (h3 : x2 < x1) : 0 ≤ 635000 + x2 ∧ 635000 + x2 < 647800 ∧ (635639 : Int) ≤ 635000 + 639 ∧ (635000 + 639 : Int) < 647800 := by omega
theorem la_load_16 {x0 x1 : Int} (h0 : 0 ≤ x0) (h1 : x1 = x0) : 0 ≤ x1 := by omega
theorem la_load_17 {x0 x1 : Int} (h0 : sv_R x0) (h1 : (-1) ≤ x1) (h2 : x1 < x0) : sv_R x1 := by omega
theorem la_load_18 {x0 x1 x2 x3 x4 : Int} (h0 : x0 = x1) (h1 : x2 = x0) (h2 : x2 = x3) (h3 : x3 ≤ x4) : x1 ≤ x4 := by omega
theorem la_load_19 {x0 x1 x2 : Int} (h0 : x0 = x1) (h1 : x2 = x0) : x2 = x1 := by omega
theorem la_load_20 : (639 : Int) ≤ 639 := by omega
theorem la_load_21 {x0 x1 x2 : Int} (h0 : x0 = x1) (h1 : x1 = x2) : x0 = x2 := by omega
theorem la_load_22 {x0 x1 : Int} (h0 : x0 + 2 * x1 ≤ 500) : x0 + 2 * x1 ≤ 639 := by omega
theorem la_load_23 : (639 : Int) = 639 := by omega
theorem la_load_24 {x0 x1 x2 : Int} (h0 : x0 = x1) (h1 : x1 ≤ 400) (h2 : x2 = x0) : x2 ≤ 400 := by omega
theorem la_load_25 {x0 x1 : Int} (h0 : x0 ≤ 40) (h1 : x1 = x0) : x1 ≤ 40 := by omega
theorem la_load_26 {x0 x1 x2 : Int} (h0 : x0 < x1) (h1 : x2 < x0) : x2 < x1 := by omega
theorem la_load_27 {x0 : Int} : x0 = x0 := by omega
theorem la_load_28 {x0 x1 x2 x3 x4 x5 : Int} (h0 : 1 ≤ x0) (h1 : x1 + 2 * x0 ≤ 500) (h2 : 0 ≤ x2) (h3 : x2 < x1) (h4 : x3 ≤ 40) (h5 : 0 ≤ x4) (h6 : x4 ≤ x5) (h7 : x5 = x3) : 0 ≤ 40 * x2 + x4 ∧ 40 * x2 + x4 < 25600 := by omega
theorem la_load_29 {x0 x1 x2 x3 : Int} (h0 : x0 ≤ 40) (h1 : 0 ≤ x1) (h2 : x2 = x0) (h3 : x2 = x3) (h4 : ¬ x3 ≤ x1) : 0 ≤ 25560 + x1 ∧ 25560 + x1 < 25600 := by omega
theorem la_load_30 {x0 x1 x2 x3 : Int} (h0 : x0 ≤ 40) (h1 : x1 = x0) (h2 : x1 = x2) (h3 : ¬ x2 ≤ x3) : x3 < 40 := by omega
theorem la_load_31 {x0 x1 x2 : Int} (h0 : 1 ≤ x0) (h1 : x1 + 2 * x0 ≤ 500) (h2 : x2 < x1) : 40 * x2 + 40 ≤ 25560 ∨ 25560 + 40 ≤ 40 * x2 := by omega
theorem la_load_32 {x0 x1 x2 : Int} (h0 : x0 ≤ 40) (h1 : 0 ≤ x1) (h2 : x1 ≤ x2) (h3 : x2 = x0) : sv_R (x1 + 1) := by omega
theorem la_load_33 {x0 : Int} (h0 : 0 ≤ x0) : 0 ≤ x0 + 1 := by omega
theorem la_load_34 {x0 x1 x2 : Int} (h0 : x0 = x1) (h1 : ¬ x1 ≤ x2) : x2 + 1 ≤ x0 := by omega
theorem la_load_35 {x0 x1 : Int} : x0 - (x1 + 1) < x0 - x1 := by omega
theorem la_load_36 {x0 x1 x2 x3 x4 x5 : Int} (h0 : x0 + x1 ≤ 635000) (h1 : 465000 ≤ x2) (h2 : x2 + x3 ≤ x0) (h3 : 0 ≤ x1) (h4 : 0 ≤ x4) (h5 : x4 ≤ x5) (h6 : x5 = x3) : sv_R (x2 + x4) := by omega
theorem la_load_37 {x0 x1 x2 x3 x4 : Int} (h0 : x0 = 647340) (h1 : x1 = x2) (h2 : x2 ≤ 400) (h3 : 0 ≤ x3) (h4 : x3 ≤ x4) (h5 : x4 = x1) : sv_R (x0 + x3) := by omega
theorem la_load_38 {x0 x1 x2 x3 x4 x5 x6 x7 : Int} (h0 : x0 = 647340) (h1 : x1 + x2 ≤ 635000) (h2 : x3 = x4) (h3 : 465000 ≤ x5) (h4 : x5 + x3 ≤ x1) (h5 : x4 ≤ 400) (h6 : 0 ≤ x2) (h7 : 0 ≤ x6) (h8 : x6 ≤ x7) (h9 : x7 = x3) : 0 ≤ x5 + x6 ∧ x5 + x6 < 647800 ∧ 635639 ≤ x0 + x6 ∧ x0 + x6 < 647800 := by omega
theorem la_load_39 {x0 x1 : Int} (h0 : 0 ≤ x0) (h1 : sv_R x1) (h2 : ¬ x1 ≤ x0) : sv_R (x0 + 1) := by omega
theorem la_load_40 {x0 x1 x2 x3 x4 x5 : Int} (h0 : 0 ≤ x0) (h1 : x1 = x2) (h2 : x3 = x4) (h3 : ¬ x4 ≤ x0) (h4 : x5 = x1) : 0 ≤ x0 + 1 ∧ x0 + 1 ≤ x3 ∧ x5 = x2 := by omega
theorem la_load_41 {x0 x1 x2 : Int} (h0 : 0 ≤ x0) (h1 : x0 + x1 ≤ 464520) (h2 : 0 ≤ x2) (h3 : ¬ x1 ≤ x2) : sv_R (x0 + x2) := by omega
theorem la_load_42 {x0 x1 : Int} (h0 : x0 ≤ 11557) (h1 : 0 ≤ x1) (h2 : ¬ x0 ≤ x1) : sv_R (635640 + x1) := by omega
theorem la_load_43 {x0 x1 x2 : Int} (h0 : x0 ≤ 11557) (h1 : 0 ≤ x1) (h2 : x1 + x0 ≤ 464520) (h3 : 0 ≤ x2) (h4 : ¬ x0 ≤ x2) : 0 ≤ x1 + x2 ∧ x1 + x2 < 647800 ∧ 635639 ≤ 635640 + x2 ∧ 635640 + x2 < 647800 := by omega
theorem la_load_44 {x0 x1 : Int} (h0 : x0 ≤ 11557) (h1 : 0 ≤ x1) (h2 : ¬ x0 ≤ x1) : sv_R (x1 + 1) := by omega
theorem la_load_45 {x0 x1 x2 x3 x4 : Int} (h0 : 0 ≤ x0) (h1 : x1 = x2) (h2 : ¬ x3 ≤ x0) (h3 : x4 = x1) : 0 ≤ x0 + 1 ∧ x0 + 1 ≤ x3 ∧ x4 = x2 := by omega
set_option maxHeartbeats 2000000 in
theorem f_load : ∀ (p1 : Int) (S : sv_S), sm_ok S → sv_R p1 → (29 ≤ (S 1071 0) ∧ (S 1071 0) ≤ 127 ∧ 31 ≤ (S 1008 0) ∧ (S 1008 0) ≤ 90 ∧ 1 ≤ (S 1032 0) ∧ (S 1032 0) ≤ 11 ∧ 0 ≤ (S 1055 0) ∧ (S 1055 0) ≤ 19 ∧ (S 1071 0) = 29 + 6 * ((S 1032 0) - 1) + 2 * (S 1055 0) ∧ 0 ≤ (S 1046 0) ∧ (S 1046 0) + 2 * (S 1032 0) ≤ 500 ∧ sm_PD (S 1046 0) (S 1032 0) (S 1071 0) (S 1008 0) ∧ 0 ≤ (S 1071 0) * ((S 1008 0) + 1) ∧ (S 1071 0) * ((S 1008 0) + 1) ≤ 11557 ∧ 31 ≤ (S 1007 0) ∧ (S 1007 0) ≤ 400 ∧ sm_LN (S 4) 400 (S 1007 0) ∧ (S 75 639) = 647340 ∧ sm_ST (S 71) (S 74) (S 75) (S 78) (S 79) (S 80) (S 27) (S 1100007) (S 1100023) (S 1100024) (S 1046 0) ((S 1046 0) + 2 * (S 1032 0)) (S 1127 0) ∧ 465000 ≤ (S 1127 0) ∧ (S 1127 0) + sm_hs (S 71) (S 1100007) ≤ 635000 ∧ sm_NH (S 1100007) ∧ sm_CT (S 26) (S 27) (S 28) (S 29) (S 1100007) (S 1100023) (S 1100024) (S 1100025) (S 21) (S 1046 0) (S 1032 0) (S 1008 0) (S 1055 0) ∧ (∀ k : Int, (S 1046 0) ≤ k → k < ((S 1046 0) + 2 * (S 1032 0)) → (S 1100007 k) = 1) ∧ sm_DR (S 72) (S 71) (S 1046 0) ∧ 0 ≤ p1 ∧ p1 < (S 1046 0) ∧ (S 71 p1) = 1) → ((sm_ST (S 71) (S 74) (S 75) (S 78) (S 79) (S 80) (S 27) (S 1100007) (S 1100023) (S 1100024) (S 1046 0) ((S 1046 0) + 2 * (S 1032 0)) (S 1127 0) → 0 ≤ p1 → p1 < ((S 1046 0) + 2 * (S 1032 0)) → (S 71 p1) = 1 → (S 74 p1) = (S 1100007 p1) ∧ 465000 ≤ (S 75 p1) ∧ (S 75 p1) + (S 74 p1) ≤ (S 1127 0) ∧ 0 ≤ (S 78 p1) ∧ (S 78 p1) ≤ 40 ∧ (p1 < (S 1046 0) → (S 78 p1) = sm_dp (S 1100024) (S 1100023 p1) ∧ sm_TC (S 79) (S 80) (S 27) (S 1100007) (S 1100023) (S 1100024) (40 * p1) (S 1100023 p1))) → ((sm_NH (S 1100007) → 0 ≤ p1 → p1 < 640 → 0 ≤ (S 1100007 p1) ∧ (S 1100007 p1) ≤ 400) → ((sm_CT (S 26) (S 27) (S 28) (S 29) (S 1100007) (S 1100023) (S 1100024) (S 1100025) (S 21) (S 1046 0) (S 1032 0) (S 1008 0) (S 1055 0) → 0 ≤ p1 → p1 < (S 1046 0) → -1 ≤ (S 1100023 p1) ∧ (S 1100023 p1) < p1 ∧ (0 ≤ (S 1100023 p1) → (S 26 (S 1100023 p1)) = 27)) → ((sm_NH (S 1100007) → 0 ≤ sm_hs (S 71) (S 1100007)) → (29 ≤ (S 1071 0) ∧ (S 1071 0) ≤ 127 ∧ 31 ≤ (S 1008 0) ∧ (S 1008 0) ≤ 90 ∧ 1 ≤ (S 1032 0) ∧ (S 1032 0) ≤ 11 ∧ 0 ≤ (S 1055 0) ∧ (S 1055 0) ≤ 19 ∧ (S 1071 0) = 29 + 6 * ((S 1032 0) - 1) + 2 * (S 1055 0) ∧ 0 ≤ (S 1046 0) ∧ (S 1046 0) + 2 * (S 1032 0) ≤ 500 ∧ sm_PD (S 1046 0) (S 1032 0) (S 1071 0) (S 1008 0) ∧ 0 ≤ (S 1071 0) * ((S 1008 0) + 1) ∧ (S 1071 0) * ((S 1008 0) + 1) ≤ 11557 ∧ 0 ≤ p1 ∧ (p1 = 639 ∨ p1 < (S 1046 0) + 2 * (S 1032 0))) ∧ (∀ r10 : Int, sv_R r10 → ((p1 = 639 → r10 = 635640) ∧ (¬ p1 = 639 → 0 ≤ r10 ∧ r10 + (S 1071 0) * ((S 1008 0) + 1) ≤ 464520)) → ((0 ≤ (0 : Int) ∧ (0 : Int) ≤ (S 1071 0) * ((S 1008 0) + 1) ∧ sm_pt (S 68) (S 69) (S 70) = sm_pt (S 68) (S 69) (S 70)) ∧ (∀ l3_12 : Int, sv_R l3_12 → ∀ g11 : sv_S, (0 ≤ l3_12 ∧ l3_12 ≤ (S 1071 0) * ((S 1008 0) + 1) ∧ sm_pt (g11 68) (g11 69) (g11 70) = sm_pt (S 68) (S 69) (S 70)) → (0 ≤ (S 1071 0) * ((S 1008 0) + 1) - l3_12) ∧ (sv_R (S 1071 0) → (sv_R (S 1008 0) → (sv_R ((S 1071 0) * ((S 1008 0) + (1 : Int)))) ∧ (((((S 1071 0) * ((S 1008 0) + (1 : Int))) ≤ l3_12) → (29 ≤ (S 1071 0) ∧ (S 1071 0) ≤ 127 ∧ 31 ≤ (S 1008 0) ∧ (S 1008 0) ≤ 90 ∧ 1 ≤ (S 1032 0) ∧ (S 1032 0) ≤ 11 ∧ 0 ≤ (S 1055 0) ∧ (S 1055 0) ≤ 19 ∧ (S 1071 0) = 29 + 6 * ((S 1032 0) - 1) + 2 * (S 1055 0) ∧ 0 ≤ (S 1046 0) ∧ (S 1046 0) + 2 * (S 1032 0) ≤ 500 ∧ sm_PD (S 1046 0) (S 1032 0) (S 1071 0) (S 1008 0) ∧ 0 ≤ (S 1071 0) * ((S 1008 0) + 1) ∧ (S 1071 0) * ((S 1008 0) + 1) ≤ 11557 ∧ 0 ≤ p1 ∧ p1 < ((S 1046 0) + 2 * (S 1032 0))) ∧ (∀ g22 : sv_S, (sm_pl (g22 81) (g22 82) (g22 83) (g22 84) (g22 85) (g22 86) = sm_pl (S 81) (S 82) (S 83) (S 84) (S 85) (S 86)) → (0 ≤ p1 ∧ p1 < 640) ∧ (sv_R (S 74 p1) → (0 ≤ (639 : Int) ∧ (639 : Int) < 640) ∧ ((0 ≤ (0 : Int) ∧ (0 : Int) ≤ (if p1 = (639 : Int) then (S 74 p1) else (S 74 p1)) ∧ sm_pt (g11 68) (g11 69) (g11 70) = sm_pt (S 68) (S 69) (S 70)) ∧ (∀ l3_33 : Int, sv_R l3_33 → ∀ g32 : sv_S, (0 ≤ l3_33 ∧ l3_33 ≤ (if p1 = (639 : Int) then (S 74 p1) else (S 74 p1)) ∧ sm_pt (g32 68) (g32 69) (g32 70) = sm_pt (S 68) (S 69) (S 70)) → (0 ≤ (if p1 = (639 : Int) then (S 74 p1) else (S 74 p1)) - l3_33) ∧ (∀ v39 : Int, (if p1 = (639 : Int) then (S 74 p1) else (S 74 p1)) = v39 → (sv_R v39 → (((v39 ≤ l3_33) → (sv_R (635000 + p1)) ∧ (sv_R (635000 + (639 : Int))) ∧ (0 ≤ (635000 + p1) ∧ (635000 + p1) < 647800 ∧ 635639 ≤ (635000 + (639 : Int)) ∧ (635000 + (639 : Int)) < 647800) ∧ (∀ g44 : sv_S, (sm_pt (g44 68) (g44 69) (g44 70) = sm_pt (g32 68) (g32 69) (g32 70)) → (sv_RL (S 76 p1) → (sv_RL (S 77 p1) → (sv_R (S 78 p1) → ((sm_CQ (S 79) (S 80) (S 79) (S 80) 25560 (40 * p1) 0) → ((0 ≤ (0 : Int) ∧ (0 : Int) ≤ (if p1 = (639 : Int) then (S 78 p1) else (S 78 p1)) ∧ sm_CQ (S 79) (S 80) (S 79) (S 80) 25560 (40 * p1) (0 : Int)) ∧ (∀ l3_61 : Int, sv_R l3_61 → ∀ g60 : sv_S, (0 ≤ l3_61 ∧ l3_61 ≤ (if p1 = (639 : Int) then (S 78 p1) else (S 78 p1)) ∧ sm_CQ (g60 79) (g60 80) (S 79) (S 80) 25560 (40 * p1) l3_61) → (0 ≤ (if p1 = (639 : Int) then (S 78 p1) else (S 78 p1)) - l3_61) ∧ (∀ v67 : Int, (if p1 = (639 : Int) then (S 78 p1) else (S 78 p1)) = v67 → (sv_R v67 → (((v67 ≤ l3_61) → (sv_R ((S 1100023 p1))) ∧ ((sm_CQ (g60 79) (g60 80) (S 79) (S 80) 25560 (40 * p1) l3_61 → sm_TC (S 79) (S 80) (S 27) (S 1100007) (S 1100023) (S 1100024) (40 * p1) (S 1100023 p1) → sm_dp (S 1100024) (S 1100023 p1) ≤ l3_61 → sm_TC (g60 79) (g60 80) (S 27) (S 1100007) (S 1100023) (S 1100024) 25560 (S 1100023 p1)) → ((sm_CQ (g60 79) (g60 80) (S 79) (S 80) 25560 (40 * p1) l3_61 → sm_F1 (S 79) (g60 79) 25560 ∧ sm_F1 (S 80) (g60 80) 25560) → (sm_pt (g44 68) (g44 69) (g44 70) = sm_pt (S 68) (S 69) (S 70) ∧ sm_pl (g22 81) (g22 82) (g22 83) (g22 84) (g22 85) (g22 86) = sm_pl (S 81) (S 82) (S 83) (S 84) (S 85) (S 86) ∧ sm_ps (fun i' : Int => if i' = (639 : Int) then (S 76 p1) else (S 76) i') (fun i' : Int => if i' = (639 : Int) then (S 77 p1) else (S 77) i') = sm_ps (S 76) (S 77) ∧ sm_ST (S 71) (fun i' : Int => if i' = (639 : Int) then (S 74 p1) else (S 74) i') (S 75) (fun i' : Int => if i' = (639 : Int) then (S 78 p1) else (S 78) i') (g60 79) (g60 80) (S 27) (S 1100007) (S 1100023) (S 1100024) (S 1046 0) ((S 1046 0) + 2 * (S 1032 0)) (S 1127 0) ∧ 0 ≤ (if 639 = (639 : Int) then (S 74 p1) else (S 74 639)) ∧ (if 639 = (639 : Int) then (S 74 p1) else (S 74 639)) ≤ 400 ∧ 0 ≤ (if 639 = (639 : Int) then (S 78 p1) else (S 78 639)) ∧ (if 639 = (639 : Int) then (S 78 p1) else (S 78 639)) ≤ 40 ∧ (if 639 = (639 : Int) then (S 78 p1) else (S 78 639)) = sm_dp (S 1100024) ((S 1100023 p1)) ∧ -1 ≤ ((S 1100023 p1)) ∧ ((S 1100023 p1)) < (S 1046 0) ∧ (0 ≤ ((S 1100023 p1)) → (S 26 ((S 1100023 p1))) = 27) ∧ sm_TC (g60 79) (g60 80) (S 27) (S 1100007) (S 1100023) (S 1100024) 25560 ((S 1100023 p1)) ∧ (if 639 = (639 : Int) then (S 74 p1) else (S 74 639)) = (S 1100007 p1) ∧ ((S 1100023 p1)) = (S 1100023 p1))))) ∧ ((¬ (v67 ≤ l3_61)) → (0 ≤ (((40 : Int) * p1) + l3_61) ∧ (((40 : Int) * p1) + l3_61) < 25600) ∧ (sv_R (g60 79 (((40 : Int) * p1) + l3_61)) → (0 ≤ ((25560 : Int) + l3_61) ∧ ((25560 : Int) + l3_61) < 25600) ∧ (sv_R (g60 80 (((40 : Int) * p1) + l3_61)) → ((sm_CQ (fun i' : Int => if i' = ((25560 : Int) + l3_61) then (g60 79 (((40 : Int) * p1) + l3_61)) else (g60 79) i') (fun i' : Int => if i' = ((25560 : Int) + l3_61) then (g60 80 (((40 : Int) * p1) + l3_61)) else (g60 80) i') (S 79) (S 80) 25560 (40 * p1) (l3_61 + 1) → True) → (sv_R (l3_61 + (1 : Int))) ∧ ((0 ≤ (l3_61 + (1 : Int)) ∧ (l3_61 + (1 : Int)) ≤ (if p1 = (639 : Int) then (S 78 p1) else (S 78 p1)) ∧ sm_CQ (fun i' : Int => if i' = ((25560 : Int) + l3_61) then (g60 79 (((40 : Int) * p1) + l3_61)) else (g60 79) i') (fun i' : Int => if i' = ((25560 : Int) + l3_61) then (g60 80 (((40 : Int) * p1) + l3_61)) else (g60 80) i') (S 79) (S 80) 25560 (40 * p1) (l3_61 + (1 : Int))) ∧ ((if p1 = (639 : Int) then (S 78 p1) else (S 78 p1)) - (l3_61 + (1 : Int))) < ((if p1 = (639 : Int) then (S 78 p1) else (S 78 p1)) - l3_61))))))))))))))))) ∧ ((¬ (v39 ≤ l3_33)) → (sv_R (S 75 p1) → (sv_R (S 75 (639 : Int)) → (sv_R ((S 75 p1) + l3_33)) ∧ (sv_R ((S 75 (639 : Int)) + l3_33)) ∧ (0 ≤ ((S 75 p1) + l3_33) ∧ ((S 75 p1) + l3_33) < 647800 ∧ 635639 ≤ ((S 75 (639 : Int)) + l3_33) ∧ ((S 75 (639 : Int)) + l3_33) < 647800) ∧ (∀ g91 : sv_S, (sm_pt (g91 68) (g91 69) (g91 70) = sm_pt (g32 68) (g32 69) (g32 70)) → (sv_R (l3_33 + (1 : Int))) ∧ ((0 ≤ (l3_33 + (1 : Int)) ∧ (l3_33 + (1 : Int)) ≤ (if p1 = (639 : Int) then (S 74 p1) else (S 74 p1)) ∧ sm_pt (g91 68) (g91 69) (g91 70) = sm_pt (S 68) (S 69) (S 70)) ∧ ((if p1 = (639 : Int) then (S 74 p1) else (S 74 p1)) - (l3_33 + (1 : Int))) < ((if p1 = (639 : Int) then (S 74 p1) else (S 74 p1)) - l3_33)))))))))))))) ∧ ((¬ (((S 1071 0) * ((S 1008 0) + (1 : Int))) ≤ l3_12)) → (sv_R (r10 + l3_12)) ∧ (sv_R ((635640 : Int) + l3_12)) ∧ (0 ≤ (r10 + l3_12) ∧ (r10 + l3_12) < 647800 ∧ 635639 ≤ ((635640 : Int) + l3_12) ∧ ((635640 : Int) + l3_12) < 647800) ∧ (∀ g101 : sv_S, (sm_pt (g101 68) (g101 69) (g101 70) = sm_pt (g11 68) (g11 69) (g11 70)) → (sv_R (l3_12 + (1 : Int))) ∧ ((0 ≤ (l3_12 + (1 : Int)) ∧ (l3_12 + (1 : Int)) ≤ (S 1071 0) * ((S 1008 0) + 1) ∧ sm_pt (g101 68) (g101 69) (g101 70) = sm_pt (S 68) (S 69) (S 70)) ∧ ((S 1071 0) * ((S 1008 0) + 1) - (l3_12 + (1 : Int))) < ((S 1071 0) * ((S 1008 0) + 1) - l3_12)))))))))))))) := by
  intro p1
  intro S
  intro h1_
  intro h2_
  rintro ⟨h3_, ⟨h4_, ⟨h5_, ⟨h6_, ⟨h7_, ⟨h8_, ⟨h9_, ⟨h10_, ⟨h11_, ⟨h12_, ⟨h13_, ⟨h14_, ⟨h15_, ⟨h16_, ⟨h17_, ⟨h18_, ⟨h19_, ⟨h20_, ⟨h21_, ⟨h22_, ⟨h23_, ⟨h24_, ⟨h25_, ⟨h26_, ⟨h27_, ⟨h28_, ⟨h29_, h30_⟩⟩⟩⟩⟩⟩⟩⟩⟩⟩⟩⟩⟩⟩⟩⟩⟩⟩⟩⟩⟩⟩⟩⟩⟩⟩⟩
  intro h31_
  have h32_ := (h31_ h21_)
  have h33_ := (h32_ h28_)
  have h34_ := (h33_ (la_load_0 h7_ h29_))
  obtain ⟨h35_, ⟨h36_, ⟨h37_, ⟨h38_, ⟨h39_, h40_⟩⟩⟩⟩⟩ := (h34_ h30_)
  obtain ⟨h41_, h42_⟩ := (h40_ h29_)
  intro h43_
  have h44_ := (h43_ h24_)
  have h45_ := (h44_ h28_)
  obtain ⟨h46_, h47_⟩ := (h45_ (la_load_1 h7_ h13_ h29_))
  intro h48_
  have h49_ := (h48_ h25_)
  have h50_ := (h49_ h28_)
  obtain ⟨h51_, ⟨h52_, h53_⟩⟩ := (h50_ h29_)
  intro h54_
  have h55_ := (h54_ h24_)
  refine ⟨⟨h3_, ⟨h4_, ⟨h5_, ⟨h6_, ⟨h7_, ⟨h8_, ⟨h9_, ⟨h10_, ⟨h11_, ⟨h12_, ⟨h13_, ⟨h14_, (la_load_2 h7_ h13_ h15_ h16_ h28_ h29_)⟩⟩⟩⟩⟩⟩⟩⟩⟩⟩⟩⟩, ?_⟩
  intro r10
  intro h56_
  rintro ⟨h57_, h58_⟩
  obtain ⟨h59_, h60_⟩ := (h58_ (la_load_3 h7_ h13_ h29_))
  refine ⟨(la_load_4 h15_), ?_⟩
  intro l3_12
  intro h61_
  intro g11
  rintro ⟨h62_, ⟨h63_, h64_⟩⟩
  refine ⟨(la_load_5 h63_), ?_⟩
  intro h65_
  intro h66_
  refine ⟨(la_load_6 h15_ h16_), ?_⟩
  refine ⟨?_, ?_⟩
  · skip
    intro h67_
    refine ⟨⟨h3_, ⟨h4_, ⟨h5_, ⟨h6_, ⟨h7_, ⟨h8_, ⟨h9_, ⟨h10_, ⟨h11_, ⟨h12_, ⟨h13_, ⟨h14_, (la_load_7 h7_ h15_ h16_ h28_ h29_)⟩⟩⟩⟩⟩⟩⟩⟩⟩⟩⟩⟩, ?_⟩
    intro g22
    intro h68_
    refine ⟨(la_load_8 h7_ h13_ h28_ h29_), ?_⟩
    intro h69_
    refine ⟨la_load_9, ?_⟩
    refine ⟨?_, ?_⟩
    · skip
      refine ⟨la_load_10, ?_⟩
      refine ⟨?_, ?_⟩
      · skip
        have h70_ := (h26_ p1)
        have e71_ : (if p1 = 639 then S 74 p1 else S 74 p1 : Int) = S 74 p1 := if_neg (la_load_3 h7_ h13_ h29_)
        exact (la_load_12 h35_ h46_ e71_)
      exact h64_
    intro l3_33
    intro h72_
    intro g32
    rintro ⟨h73_, ⟨h74_, h75_⟩⟩
    have e76_ : (if p1 = 639 then S 74 p1 else S 74 p1 : Int) = S 74 p1 := if_neg (la_load_3 h7_ h13_ h29_)
    refine ⟨(la_load_5 h74_), ?_⟩
    intro v39
    intro h77_
    intro h78_
    refine ⟨?_, ?_⟩
    · skip
      intro h79_
      refine ⟨(la_load_13 h7_ h13_ h28_ h29_), ?_⟩
      refine ⟨la_load_14, ?_⟩
      refine ⟨(la_load_15 h7_ h13_ h28_ h29_), ?_⟩
      intro g44
      intro h80_
      intro h81_
      intro h82_
      intro h83_
      intro h84_
      refine ⟨?_, ?_⟩
      · skip
        refine ⟨la_load_10, ?_⟩
        refine ⟨?_, ?_⟩
        · skip
          have h85_ := (h26_ p1)
          have e86_ : (if p1 = 639 then S 78 p1 else S 78 p1 : Int) = S 78 p1 := if_neg (la_load_3 h7_ h13_ h29_)
          exact (la_load_16 h38_ e86_)
        exact h84_
      intro l3_61
      intro h87_
      intro g60
      rintro ⟨h88_, ⟨h89_, h90_⟩⟩
      have e91_ : (if p1 = 639 then S 78 p1 else S 78 p1 : Int) = S 78 p1 := if_neg (la_load_3 h7_ h13_ h29_)
      refine ⟨(la_load_5 h89_), ?_⟩
      intro v67
      intro h92_
      intro h93_
      refine ⟨?_, ?_⟩
      · skip
        intro h94_
        refine ⟨(la_load_17 h2_ h51_ h52_), ?_⟩
        intro h95_
        have h96_ := (h95_ h90_)
        have h97_ := (h96_ h42_)
        have h98_ := (h97_ (la_load_18 h41_ e91_ h92_ h94_))
        intro h99_
        obtain ⟨h100_, h101_⟩ := (h99_ h90_)
        refine ⟨(la_load_19 h75_ h80_), ?_⟩
        refine ⟨h68_, ?_⟩
        refine ⟨?_, ?_⟩
        · skip
          have e102_ : sm_ps (fun i' : Int => (if i' = 639 then S 76 p1 else (S 76) i')) (fun i' : Int => (if i' = 639 then S 77 p1 else (S 77) i')) = sm_ps (fun i' : Int => (if i' = 639 then S 76 p1 else (S 76) i')) (S 77) := sm_ps_B la_load_20
          have e103_ : sm_ps (fun i' : Int => (if i' = 639 then S 76 p1 else (S 76) i')) (S 77) = sm_ps (S 76) (S 77) := sm_ps_A la_load_20
          have h104_ := (h26_ p1)
          exact (la_load_21 e102_ e103_)
        refine ⟨(sm_ST_F h21_ (la_load_22 h13_) (sm_F1_up sm_F1_rf (Int.le_refl _)) sm_F1_rf (sm_F1_up sm_F1_rf (Int.le_refl _)) (sm_F1_le h100_ (Int.le_refl _)) (sm_F1_le h101_ (Int.le_refl _))), ?_⟩
        refine ⟨?_, ?_⟩
        · skip
          have h105_ := (h26_ p1)
          have e106_ : (if (639 : Int) = 639 then S 74 p1 else S 74 639 : Int) = S 74 p1 := if_pos la_load_23
          exact (la_load_12 h35_ h46_ e106_)
        refine ⟨?_, ?_⟩
        · skip
          have h107_ := (h26_ p1)
          have e108_ : (if (639 : Int) = 639 then S 74 p1 else S 74 639 : Int) = S 74 p1 := if_pos la_load_23
          exact (la_load_24 h35_ h47_ e108_)
        refine ⟨?_, ?_⟩
        · skip
          have h109_ := (h26_ p1)
          have e110_ : (if (639 : Int) = 639 then S 78 p1 else S 78 639 : Int) = S 78 p1 := if_pos la_load_23
          exact (la_load_16 h38_ e110_)
        refine ⟨?_, ?_⟩
        · skip
          have h111_ := (h26_ p1)
          have e112_ : (if (639 : Int) = 639 then S 78 p1 else S 78 639 : Int) = S 78 p1 := if_pos la_load_23
          exact (la_load_25 h39_ e112_)
        refine ⟨?_, ?_⟩
        · skip
          have h113_ := (h26_ p1)
          have e114_ : (if (639 : Int) = 639 then S 78 p1 else S 78 639 : Int) = S 78 p1 := if_pos la_load_23
          exact (la_load_19 h41_ e114_)
        refine ⟨h51_, ?_⟩
        refine ⟨(la_load_26 h29_ h52_), ?_⟩
        refine ⟨h53_, ?_⟩
        refine ⟨h98_, ?_⟩
        refine ⟨?_, ?_⟩
        · skip
          have h115_ := (h26_ p1)
          have e116_ : (if (639 : Int) = 639 then S 74 p1 else S 74 639 : Int) = S 74 p1 := if_pos la_load_23
          exact (la_load_19 h35_ e116_)
        exact la_load_27
      intro h117_
      refine ⟨(la_load_28 h7_ h13_ h28_ h29_ h39_ h88_ h89_ e91_), ?_⟩
      intro h118_
      refine ⟨(la_load_29 h39_ h88_ e91_ h92_ h117_), ?_⟩
      intro h119_
      intro h120_
      have h121_ := (h120_ (sm_CQ_up h90_ h88_ (la_load_30 h39_ e91_ h92_ h117_) (la_load_31 h7_ h13_ h29_) rfl rfl rfl rfl rfl))
      refine ⟨(la_load_32 h39_ h88_ h89_ e91_), ?_⟩
      refine ⟨⟨(la_load_33 h88_), ⟨(la_load_34 h92_ h117_), (sm_CQ_up h90_ h88_ (la_load_30 h39_ e91_ h92_ h117_) (la_load_31 h7_ h13_ h29_) rfl rfl rfl rfl rfl)⟩⟩, ?_⟩
      exact la_load_35
    intro h122_
    intro h123_
    intro h124_
    refine ⟨(la_load_36 h23_ h36_ h37_ h55_ h73_ h74_ e76_), ?_⟩
    refine ⟨(la_load_37 h20_ h35_ h47_ h73_ h74_ e76_), ?_⟩
    refine ⟨(la_load_38 h20_ h23_ h35_ h36_ h37_ h47_ h55_ h73_ h74_ e76_), ?_⟩
    intro g91
    intro h125_
    refine ⟨(la_load_39 h73_ h78_ h122_), ?_⟩
    refine ⟨(la_load_40 h73_ h75_ h77_ h122_ h125_), ?_⟩
    exact la_load_35
  intro h126_
  refine ⟨(la_load_41 h59_ h60_ h62_ h126_), ?_⟩
  refine ⟨(la_load_42 h16_ h62_ h126_), ?_⟩
  refine ⟨(la_load_43 h16_ h59_ h60_ h62_ h126_), ?_⟩
  intro g101
  intro h127_
  refine ⟨(la_load_44 h16_ h62_ h126_), ?_⟩
  refine ⟨(la_load_45 h62_ h64_ h126_ h127_), ?_⟩
  exact la_load_35
set_option maxRecDepth 8000 in
set_option maxHeartbeats 2000000 in
theorem t_load : ∀ (p1 : Int) (S : sv_S), sm_ok S → sv_R p1 → (29 ≤ (S 1071 0) ∧ (S 1071 0) ≤ 127 ∧ 31 ≤ (S 1008 0) ∧ (S 1008 0) ≤ 90 ∧ 1 ≤ (S 1032 0) ∧ (S 1032 0) ≤ 11 ∧ 0 ≤ (S 1055 0) ∧ (S 1055 0) ≤ 19 ∧ (S 1071 0) = 29 + 6 * ((S 1032 0) - 1) + 2 * (S 1055 0) ∧ 0 ≤ (S 1046 0) ∧ (S 1046 0) + 2 * (S 1032 0) ≤ 500 ∧ sm_PD (S 1046 0) (S 1032 0) (S 1071 0) (S 1008 0) ∧ 0 ≤ (S 1071 0) * ((S 1008 0) + 1) ∧ (S 1071 0) * ((S 1008 0) + 1) ≤ 11557 ∧ 31 ≤ (S 1007 0) ∧ (S 1007 0) ≤ 400 ∧ sm_LN (S 4) 400 (S 1007 0) ∧ (S 75 639) = 647340 ∧ sm_ST (S 71) (S 74) (S 75) (S 78) (S 79) (S 80) (S 27) (S 1100007) (S 1100023) (S 1100024) (S 1046 0) ((S 1046 0) + 2 * (S 1032 0)) (S 1127 0) ∧ 465000 ≤ (S 1127 0) ∧ (S 1127 0) + sm_hs (S 71) (S 1100007) ≤ 635000 ∧ sm_NH (S 1100007) ∧ sm_CT (S 26) (S 27) (S 28) (S 29) (S 1100007) (S 1100023) (S 1100024) (S 1100025) (S 21) (S 1046 0) (S 1032 0) (S 1008 0) (S 1055 0) ∧ (∀ k : Int, (S 1046 0) ≤ k → k < ((S 1046 0) + 2 * (S 1032 0)) → (S 1100007 k) = 1) ∧ sm_DR (S 72) (S 71) (S 1046 0) ∧ 0 ≤ p1 ∧ p1 < (S 1046 0) ∧ (S 71 p1) = 1) → sv_T sm_XS sm_cs sm_L sm_sh 3 (q_load p1 S) 231 0 (lv_args 0 [.ref 0, sv_I p1]) [] S := by
  intro p1 S hok hp1 hpre
  have h := f_load p1 S hok hp1 hpre
  have hM := sm_h231
  show sv_T sm_XS sm_cs sm_L sm_sh 3 (q_load p1 S) 231 0 [(0, .ref 0), (1, sv_I p1)] [] S
  have k1 : (sm_ST (S 71) (S 74) (S 75) (S 78) (S 79) (S 80) (S 27) (S 1100007) (S 1100023) (S 1100024) (S 1046 0) ((S 1046 0) + 2 * (S 1032 0)) (S 1127 0) → 0 ≤ p1 → p1 < ((S 1046 0) + 2 * (S 1032 0)) → (S 71 p1) = 1 → (S 74 p1) = (S 1100007 p1) ∧ 465000 ≤ (S 75 p1) ∧ (S 75 p1) + (S 74 p1) ≤ (S 1127 0) ∧ 0 ≤ (S 78 p1) ∧ (S 78 p1) ≤ 40 ∧ (p1 < (S 1046 0) → (S 78 p1) = sm_dp (S 1100024) (S 1100023 p1) ∧ sm_TC (S 79) (S 80) (S 27) (S 1100007) (S 1100023) (S 1100024) (40 * p1) (S 1100023 p1))) := fun h h0 h1 h2 => sm_ST_at h p1 h0 h1 h2
  have h := h k1
  have k2 : (sm_NH (S 1100007) → 0 ≤ p1 → p1 < 640 → 0 ≤ (S 1100007 p1) ∧ (S 1100007 p1) ≤ 400) := fun h h0 h1 => sm_NH_at h p1 h0 h1
  have h := h k2
  have k3 : (sm_CT (S 26) (S 27) (S 28) (S 29) (S 1100007) (S 1100023) (S 1100024) (S 1100025) (S 21) (S 1046 0) (S 1032 0) (S 1008 0) (S 1055 0) → 0 ≤ p1 → p1 < (S 1046 0) → -1 ≤ (S 1100023 p1) ∧ (S 1100023 p1) < p1 ∧ (0 ≤ (S 1100023 p1) → (S 26 (S 1100023 p1)) = 27)) := fun h h0 h1 => ⟨(sm_ct_0 h p1 h0 h1).2.2.2.2.2.2.2.1, (sm_ct_0 h p1 h0 h1).2.2.2.2.2.2.2.2.1, fun q => (sm_ct_1 h p1 h0 h1 q).1⟩
  have h := h k3
  have k4 : (sm_NH (S 1100007) → 0 ≤ sm_hs (S 71) (S 1100007)) := sm_hs_0
  have h := h k4
  refine sv_aload_n hM dX12_load_0 rfl rfl ?_
  refine sv_iload_n hM dX12_load_1 rfl rfl ?_
  obtain ⟨o5, h⟩ := h
  refine sv_callV hM dX12_load_2 sm_iv_1085 (by decide) (sm_a0 _) rfl rfl (Nat.le_of_ble_eq_true rfl) sm_h223 (Nat.le_of_ble_eq_true rfl) (Nat.le_of_ble_eq_true rfl) (F' := 0) (Nat.le_of_ble_eq_true rfl) rfl (t_fieldsAt p1 S hok hp1 o5) (fun v S1 hq => ?_)
  obtain ⟨r10, rfl, hr10, ok7, md8, hpo9⟩ := hq
  obtain rfl : S = S1 := (funext fun j => md8 j (by intro q; cases q)).symm
  show sv_T sm_XS sm_cs sm_L sm_sh 3 (q_load p1 S) 231 5 [(0, .ref 0), (1, sv_I p1)] [sv_I r10] S
  have h := h r10 hr10 hpo9
  refine sv_istore_n hM dX12_load_5 (by decide) rfl ?_
  show sv_T sm_XS sm_cs sm_L sm_sh 3 (q_load p1 S) 231 6 [(0, .ref 0), (1, sv_I p1), (2, sv_I r10)] [] S
  refine sv_iconst (d := (0 : Int)) hM dX12_load_6 rfl rfl ?_
  refine sv_istore_n hM dX12_load_7 (by decide) rfl ?_
  show sv_T sm_XS sm_cs sm_L sm_sh 3 (q_load p1 S) 231 8 [(0, .ref 0), (1, sv_I p1), (2, sv_I r10), (3, sv_I (0 : Int))] [] S
  obtain ⟨hin14, h⟩ := h
  have hJ : ∀ a : Int × sv_S, (sv_R a.1 ∧ sm_ok (sv_sts S [68, 69, 70] a.2) ∧ (0 ≤ a.1 ∧ a.1 ≤ (S 1071 0) * ((S 1008 0) + 1) ∧ sm_pt (a.2 68) (a.2 69) (a.2 70) = sm_pt (S 68) (S 69) (S 70))) → sv_T sm_XS sm_cs sm_L sm_sh 3 (q_load p1 S) 231 8 [(0, .ref 0), (1, sv_I p1), (2, sv_I r10), (3, sv_I a.1)] [] (sv_sts S [68, 69, 70] a.2) := by
    refine sv_loop (α := Int × sv_S) (fun a => sv_R a.1 ∧ sm_ok (sv_sts S [68, 69, 70] a.2) ∧ (0 ≤ a.1 ∧ a.1 ≤ (S 1071 0) * ((S 1008 0) + 1) ∧ sm_pt (a.2 68) (a.2 69) (a.2 70) = sm_pt (S 68) (S 69) (S 70))) (fun a => (S 1071 0) * ((S 1008 0) + 1) - a.1) (fun a => sv_T sm_XS sm_cs sm_L sm_sh 3 (q_load p1 S) 231 8 [(0, .ref 0), (1, sv_I p1), (2, sv_I r10), (3, sv_I a.1)] [] (sv_sts S [68, 69, 70] a.2)) (fun a q => (h a.1 q.1 a.2 q.2.2).1) (fun a q ih13 => ?_)
    obtain ⟨l3_12, g11⟩ := a
    obtain ⟨hl3_12, ok15, hin14i⟩ := q
    have h := (h l3_12 hl3_12 g11 hin14i).2
    show sv_T sm_XS sm_cs sm_L sm_sh 3 (q_load p1 S) 231 8 [(0, .ref 0), (1, sv_I p1), (2, sv_I r10), (3, sv_I l3_12)] [] (sv_sts S [68, 69, 70] g11)
    have md16 : sv_mod [68, 69, 70, 81, 82, 83, 84, 85, 86, 74, 78, 79, 80, 76, 77, 1100031] S (sv_sts S [68, 69, 70] g11) := sv_mod.sts sv_mod.rf (by decide)
    have md17 : sv_mod [68, 69, 70] S (sv_sts S [68, 69, 70] g11) := sv_mod.sts sv_mod.rf (by decide)
    refine sv_iload_n hM dX12_load_8 rfl rfl ?_
    refine sv_aload_n hM dX12_load_9 rfl rfl ?_
    have k18 : sv_R (S 1071 0) := sm_okI ok15 sm_r1071 0
    have h := h k18
    refine sv_getI hM dX12_load_10 sm_fl_765 (sm_a0 _) sm_k71 rfl (x := (S 1071 0)) rfl ?_
    refine sv_aload_n hM dX12_load_13 rfl rfl ?_
    have k19 : sv_R (S 1008 0) := sm_okI ok15 sm_r1008 0
    have h := h k19
    refine sv_getI hM dX12_load_14 sm_fl_762 (sm_a0 _) sm_k8 rfl (x := (S 1008 0)) rfl ?_
    refine sv_iconst (d := (1 : Int)) hM dX12_load_17 rfl rfl ?_
    refine sv_iadd hM dX12_load_18 rfl ?_
    refine sv_imul hM dX12_load_19 rfl ?_
    obtain ⟨o20, h⟩ := h
    refine sv_icmp_ge hM dX12_load_20 hl3_12 o20 (t := 41) rfl rfl (fun hc => ?_) (fun hc => ?_)
    · have h := h.1 (hc)
      refine sv_aload_n hM dX12_load_41 rfl rfl ?_
      refine sv_iload_n hM dX12_load_42 rfl rfl ?_
      obtain ⟨o21, h⟩ := h
      refine sv_callV hM dX12_load_43 sm_iv_1095 (by decide) (sm_a0 _) rfl rfl (Nat.le_of_ble_eq_true rfl) sm_h232 (Nat.le_of_ble_eq_true rfl) (Nat.le_of_ble_eq_true rfl) (F' := 2) (Nat.le_of_ble_eq_true rfl) rfl (t_loadRest p1 (sv_sts S [68, 69, 70] g11) ok15 hp1 o21) (fun v S1 hq => ?_)
      obtain ⟨rfl, ok23, md24, hpo25⟩ := hq
      obtain ⟨g22, rfl⟩ : ∃ g, S1 = sv_sts (sv_sts S [68, 69, 70] g11) [81, 82, 83, 84, 85, 86] g := ⟨_, md24.eq⟩
      show sv_T sm_XS sm_cs sm_L sm_sh 3 (q_load p1 S) 231 46 [(0, .ref 0), (1, sv_I p1), (2, sv_I r10), (3, sv_I l3_12)] [] (sv_sts (sv_sts S [68, 69, 70] g11) [81, 82, 83, 84, 85, 86] g22)
      have md26 : sv_mod [68, 69, 70, 81, 82, 83, 84, 85, 86, 74, 78, 79, 80, 76, 77, 1100031] S (sv_sts (sv_sts S [68, 69, 70] g11) [81, 82, 83, 84, 85, 86] g22) := sv_mod.sts md16 (by decide)
      have h := h g22 hpo25
      refine sv_aload_n hM dX12_load_46 rfl rfl ?_
      refine sv_getA hM dX12_load_47 sm_fl_235 (sm_a0 _) sm_k125 rfl ?_
      refine sv_sipush (d := (639 : Int)) hM dX12_load_50 rfl rfl ?_
      refine sv_aload_n hM dX12_load_53 rfl rfl ?_
      refine sv_getA hM dX12_load_54 sm_fl_235 (sm_a0 _) sm_k125 rfl ?_
      refine sv_iload_n hM dX12_load_57 rfl rfl ?_
      obtain ⟨o27, h⟩ := h
      have k28 : sv_R (S 74 p1) := sm_okI ok23 sm_r74 p1
      have h := h k28
      refine sv_iald hM dX12_load_58 (sm_a74 _) (by decide) o27.1 o27.2 rfl (x := (S 74 p1)) rfl ?_
      obtain ⟨o29, h⟩ := h
      refine sv_iast sm_X hM dX12_load_59 (sm_a74 _) (by decide) o29.1 o29.2 rfl ?_
      have ok30 : sm_ok (sv_up (sv_sts (sv_sts S [68, 69, 70] g11) [81, 82, 83, 84, 85, 86] g22) 74 (639 : Int) (S 74 p1)) := sm_upI ok23 sm_r74 k28
      have md31 : sv_mod [68, 69, 70, 81, 82, 83, 84, 85, 86, 74, 78, 79, 80, 76, 77, 1100031] S (sv_up (sv_sts (sv_sts S [68, 69, 70] g11) [81, 82, 83, 84, 85, 86] g22) 74 (639 : Int) (S 74 p1)) := sv_mod.up md26 (by decide)
      refine sv_iconst (d := (0 : Int)) hM dX12_load_60 rfl rfl ?_
      refine sv_istore_n hM dX12_load_61 (by decide) rfl ?_
      show sv_T sm_XS sm_cs sm_L sm_sh 3 (q_load p1 S) 231 62 [(0, .ref 0), (1, sv_I p1), (2, sv_I r10), (3, sv_I (0 : Int))] [] (sv_up (sv_sts (sv_sts S [68, 69, 70] g11) [81, 82, 83, 84, 85, 86] g22) 74 (639 : Int) (S 74 p1))
      obtain ⟨hin35, h⟩ := h
      have hJ : ∀ a : Int × sv_S, (sv_R a.1 ∧ sm_ok (sv_sts (sv_up (sv_sts (sv_sts S [68, 69, 70] g11) [81, 82, 83, 84, 85, 86] g22) 74 (639 : Int) (S 74 p1)) [68, 69, 70] a.2) ∧ (0 ≤ a.1 ∧ a.1 ≤ (if p1 = (639 : Int) then (S 74 p1) else (S 74 p1)) ∧ sm_pt (a.2 68) (a.2 69) (a.2 70) = sm_pt (S 68) (S 69) (S 70))) → sv_T sm_XS sm_cs sm_L sm_sh 3 (q_load p1 S) 231 62 [(0, .ref 0), (1, sv_I p1), (2, sv_I r10), (3, sv_I a.1)] [] (sv_sts (sv_up (sv_sts (sv_sts S [68, 69, 70] g11) [81, 82, 83, 84, 85, 86] g22) 74 (639 : Int) (S 74 p1)) [68, 69, 70] a.2) := by
        refine sv_loop (α := Int × sv_S) (fun a => sv_R a.1 ∧ sm_ok (sv_sts (sv_up (sv_sts (sv_sts S [68, 69, 70] g11) [81, 82, 83, 84, 85, 86] g22) 74 (639 : Int) (S 74 p1)) [68, 69, 70] a.2) ∧ (0 ≤ a.1 ∧ a.1 ≤ (if p1 = (639 : Int) then (S 74 p1) else (S 74 p1)) ∧ sm_pt (a.2 68) (a.2 69) (a.2 70) = sm_pt (S 68) (S 69) (S 70))) (fun a => (if p1 = (639 : Int) then (S 74 p1) else (S 74 p1)) - a.1) (fun a => sv_T sm_XS sm_cs sm_L sm_sh 3 (q_load p1 S) 231 62 [(0, .ref 0), (1, sv_I p1), (2, sv_I r10), (3, sv_I a.1)] [] (sv_sts (sv_up (sv_sts (sv_sts S [68, 69, 70] g11) [81, 82, 83, 84, 85, 86] g22) 74 (639 : Int) (S 74 p1)) [68, 69, 70] a.2)) (fun a q => (h a.1 q.1 a.2 q.2.2).1) (fun a q ih34 => ?_)
        obtain ⟨l3_33, g32⟩ := a
        obtain ⟨hl3_33, ok36, hin35i⟩ := q
        have h := (h l3_33 hl3_33 g32 hin35i).2
        show sv_T sm_XS sm_cs sm_L sm_sh 3 (q_load p1 S) 231 62 [(0, .ref 0), (1, sv_I p1), (2, sv_I r10), (3, sv_I l3_33)] [] (sv_sts (sv_up (sv_sts (sv_sts S [68, 69, 70] g11) [81, 82, 83, 84, 85, 86] g22) 74 (639 : Int) (S 74 p1)) [68, 69, 70] g32)
        have md37 : sv_mod [68, 69, 70, 81, 82, 83, 84, 85, 86, 74, 78, 79, 80, 76, 77, 1100031] S (sv_sts (sv_up (sv_sts (sv_sts S [68, 69, 70] g11) [81, 82, 83, 84, 85, 86] g22) 74 (639 : Int) (S 74 p1)) [68, 69, 70] g32) := sv_mod.sts md31 (by decide)
        have md38 : sv_mod [68, 69, 70] (sv_up (sv_sts (sv_sts S [68, 69, 70] g11) [81, 82, 83, 84, 85, 86] g22) 74 (639 : Int) (S 74 p1)) (sv_sts (sv_up (sv_sts (sv_sts S [68, 69, 70] g11) [81, 82, 83, 84, 85, 86] g22) 74 (639 : Int) (S 74 p1)) [68, 69, 70] g32) := sv_mod.sts sv_mod.rf (by decide)
        refine sv_iload_n hM dX12_load_62 rfl rfl ?_
        refine sv_aload_n hM dX12_load_63 rfl rfl ?_
        refine sv_getA hM dX12_load_64 sm_fl_235 (sm_a0 _) sm_k125 rfl ?_
        refine sv_iload_n hM dX12_load_67 rfl rfl ?_
        obtain ⟨v39, ev39⟩ : ∃ x : Int, (if p1 = (639 : Int) then (S 74 p1) else (S 74 p1)) = x := ⟨_, rfl⟩
        have h := h v39 ev39
        have k40 : sv_R v39 := ev39 ▸ (sm_okI ok36 sm_r74 p1)
        have h := h k40
        refine sv_iald hM dX12_load_68 (sm_a74 _) (by decide) o27.1 o27.2 rfl (x := v39) ev39 ?_
        refine sv_icmp_ge hM dX12_load_69 hl3_33 k40 (t := 100) rfl rfl (fun hc => ?_) (fun hc => ?_)
        · have h := h.1 (hc)
          refine sv_aload_n hM dX12_load_100 rfl rfl ?_
          refine sv_aload_n hM dX12_load_101 rfl rfl ?_
          refine sv_iload_n hM dX12_load_102 rfl rfl ?_
          refine sv_callV hM dX12_load_103 sm_iv_1098 (by decide) (sm_a0 _) rfl rfl (Nat.le_of_ble_eq_true rfl) sm_h227 (Nat.le_of_ble_eq_true rfl) (Nat.le_of_ble_eq_true rfl) (F' := 0) (Nat.le_of_ble_eq_true rfl) rfl (t_thisAt p1 (sv_sts (sv_up (sv_sts (sv_sts S [68, 69, 70] g11) [81, 82, 83, 84, 85, 86] g22) 74 (639 : Int) (S 74 p1)) [68, 69, 70] g32) ok36 hp1) (fun v S1 hq => ?_)
          obtain ⟨rfl, hS1⟩ := hq
          obtain rfl : (sv_sts (sv_up (sv_sts (sv_sts S [68, 69, 70] g11) [81, 82, 83, 84, 85, 86] g22) 74 (639 : Int) (S 74 p1)) [68, 69, 70] g32) = S1 := hS1.symm
          show sv_T sm_XS sm_cs sm_L sm_sh 3 (q_load p1 S) 231 106 [(0, .ref 0), (1, sv_I p1), (2, sv_I r10), (3, sv_I l3_33)] [sv_I (635000 + p1), .ref 0] (sv_sts (sv_up (sv_sts (sv_sts S [68, 69, 70] g11) [81, 82, 83, 84, 85, 86] g22) 74 (639 : Int) (S 74 p1)) [68, 69, 70] g32)
          refine sv_aload_n hM dX12_load_106 rfl rfl ?_
          refine sv_sipush (d := (639 : Int)) hM dX12_load_107 rfl rfl ?_
          refine sv_callV hM dX12_load_110 sm_iv_1098 (by decide) (sm_a0 _) rfl rfl (Nat.le_of_ble_eq_true rfl) sm_h227 (Nat.le_of_ble_eq_true rfl) (Nat.le_of_ble_eq_true rfl) (F' := 0) (Nat.le_of_ble_eq_true rfl) rfl (t_thisAt (639 : Int) (sv_sts (sv_up (sv_sts (sv_sts S [68, 69, 70] g11) [81, 82, 83, 84, 85, 86] g22) 74 (639 : Int) (S 74 p1)) [68, 69, 70] g32) ok36 (⟨by decide, by decide⟩ : sv_R (639 : Int))) (fun v S1 hq => ?_)
          obtain ⟨rfl, hS1⟩ := hq
          obtain rfl : (sv_sts (sv_up (sv_sts (sv_sts S [68, 69, 70] g11) [81, 82, 83, 84, 85, 86] g22) 74 (639 : Int) (S 74 p1)) [68, 69, 70] g32) = S1 := hS1.symm
          show sv_T sm_XS sm_cs sm_L sm_sh 3 (q_load p1 S) 231 113 [(0, .ref 0), (1, sv_I p1), (2, sv_I r10), (3, sv_I l3_33)] [sv_I (635000 + (639 : Int)), sv_I (635000 + p1), .ref 0] (sv_sts (sv_up (sv_sts (sv_sts S [68, 69, 70] g11) [81, 82, 83, 84, 85, 86] g22) 74 (639 : Int) (S 74 p1)) [68, 69, 70] g32)
          obtain ⟨o41, h⟩ := h
          obtain ⟨o42, h⟩ := h
          obtain ⟨o43, h⟩ := h
          refine sv_callV hM dX12_load_113 sm_iv_1092 (by decide) (sm_a0 _) rfl rfl (Nat.le_of_ble_eq_true rfl) sm_h207 (Nat.le_of_ble_eq_true rfl) (Nat.le_of_ble_eq_true rfl) (F' := 0) (Nat.le_of_ble_eq_true rfl) rfl (t_copySet (635000 + p1) (635000 + (639 : Int)) (sv_sts (sv_up (sv_sts (sv_sts S [68, 69, 70] g11) [81, 82, 83, 84, 85, 86] g22) 74 (639 : Int) (S 74 p1)) [68, 69, 70] g32) ok36 o41 o42 o43) (fun v S1 hq => ?_)
          obtain ⟨rfl, ok45, md46, hpo47⟩ := hq
          obtain ⟨g44, rfl⟩ : ∃ g, S1 = sv_sts (sv_sts (sv_up (sv_sts (sv_sts S [68, 69, 70] g11) [81, 82, 83, 84, 85, 86] g22) 74 (639 : Int) (S 74 p1)) [68, 69, 70] g32) [68, 69, 70] g := ⟨_, md46.eq⟩
          show sv_T sm_XS sm_cs sm_L sm_sh 3 (q_load p1 S) 231 116 [(0, .ref 0), (1, sv_I p1), (2, sv_I r10), (3, sv_I l3_33)] [] (sv_sts (sv_sts (sv_up (sv_sts (sv_sts S [68, 69, 70] g11) [81, 82, 83, 84, 85, 86] g22) 74 (639 : Int) (S 74 p1)) [68, 69, 70] g32) [68, 69, 70] g44)
          have md48 : sv_mod [68, 69, 70, 81, 82, 83, 84, 85, 86, 74, 78, 79, 80, 76, 77, 1100031] S (sv_sts (sv_sts (sv_up (sv_sts (sv_sts S [68, 69, 70] g11) [81, 82, 83, 84, 85, 86] g22) 74 (639 : Int) (S 74 p1)) [68, 69, 70] g32) [68, 69, 70] g44) := sv_mod.sts md37 (by decide)
          have md49 : sv_mod [68, 69, 70] (sv_up (sv_sts (sv_sts S [68, 69, 70] g11) [81, 82, 83, 84, 85, 86] g22) 74 (639 : Int) (S 74 p1)) (sv_sts (sv_sts (sv_up (sv_sts (sv_sts S [68, 69, 70] g11) [81, 82, 83, 84, 85, 86] g22) 74 (639 : Int) (S 74 p1)) [68, 69, 70] g32) [68, 69, 70] g44) := sv_mod.sts md38 (by decide)
          have h := h g44 hpo47
          refine sv_aload_n hM dX12_load_116 rfl rfl ?_
          refine sv_getA hM dX12_load_117 sm_fl_241 (sm_a0 _) sm_k128 rfl ?_
          refine sv_sipush (d := (639 : Int)) hM dX12_load_120 rfl rfl ?_
          refine sv_aload_n hM dX12_load_123 rfl rfl ?_
          refine sv_getA hM dX12_load_124 sm_fl_241 (sm_a0 _) sm_k128 rfl ?_
          refine sv_iload_n hM dX12_load_127 rfl rfl ?_
          have k50 : sv_RL (S 76 p1) := sm_okJ ok45 sm_r76 p1
          have h := h k50
          refine sv_lald hM dX12_load_128 (sm_a76 _) (by decide) o27.1 o27.2 rfl (x := (S 76 p1)) rfl ?_
          refine sv_last sm_X hM dX12_load_129 (sm_a76 _) (by decide) o29.1 o29.2 rfl ?_
          have ok51 : sm_ok (sv_up (sv_sts (sv_sts (sv_up (sv_sts (sv_sts S [68, 69, 70] g11) [81, 82, 83, 84, 85, 86] g22) 74 (639 : Int) (S 74 p1)) [68, 69, 70] g32) [68, 69, 70] g44) 76 (639 : Int) (S 76 p1)) := sm_upJ ok45 sm_r76 k50
          have md52 : sv_mod [68, 69, 70, 81, 82, 83, 84, 85, 86, 74, 78, 79, 80, 76, 77, 1100031] S (sv_up (sv_sts (sv_sts (sv_up (sv_sts (sv_sts S [68, 69, 70] g11) [81, 82, 83, 84, 85, 86] g22) 74 (639 : Int) (S 74 p1)) [68, 69, 70] g32) [68, 69, 70] g44) 76 (639 : Int) (S 76 p1)) := sv_mod.up md48 (by decide)
          refine sv_aload_n hM dX12_load_130 rfl rfl ?_
          refine sv_getA hM dX12_load_131 sm_fl_244 (sm_a0 _) sm_k129 rfl ?_
          refine sv_sipush (d := (639 : Int)) hM dX12_load_134 rfl rfl ?_
          refine sv_aload_n hM dX12_load_137 rfl rfl ?_
          refine sv_getA hM dX12_load_138 sm_fl_244 (sm_a0 _) sm_k129 rfl ?_
          refine sv_iload_n hM dX12_load_141 rfl rfl ?_
          have k53 : sv_RL (S 77 p1) := sm_okJ ok51 sm_r77 p1
          have h := h k53
          refine sv_lald hM dX12_load_142 (sm_a77 _) (by decide) o27.1 o27.2 rfl (x := (S 77 p1)) rfl ?_
          refine sv_last sm_X hM dX12_load_143 (sm_a77 _) (by decide) o29.1 o29.2 rfl ?_
          have ok54 : sm_ok (sv_up (sv_up (sv_sts (sv_sts (sv_up (sv_sts (sv_sts S [68, 69, 70] g11) [81, 82, 83, 84, 85, 86] g22) 74 (639 : Int) (S 74 p1)) [68, 69, 70] g32) [68, 69, 70] g44) 76 (639 : Int) (S 76 p1)) 77 (639 : Int) (S 77 p1)) := sm_upJ ok51 sm_r77 k53
          have md55 : sv_mod [68, 69, 70, 81, 82, 83, 84, 85, 86, 74, 78, 79, 80, 76, 77, 1100031] S (sv_up (sv_up (sv_sts (sv_sts (sv_up (sv_sts (sv_sts S [68, 69, 70] g11) [81, 82, 83, 84, 85, 86] g22) 74 (639 : Int) (S 74 p1)) [68, 69, 70] g32) [68, 69, 70] g44) 76 (639 : Int) (S 76 p1)) 77 (639 : Int) (S 77 p1)) := sv_mod.up md52 (by decide)
          refine sv_aload_n hM dX12_load_144 rfl rfl ?_
          refine sv_getA hM dX12_load_145 sm_fl_247 (sm_a0 _) sm_k130 rfl ?_
          refine sv_sipush (d := (639 : Int)) hM dX12_load_148 rfl rfl ?_
          refine sv_aload_n hM dX12_load_151 rfl rfl ?_
          refine sv_getA hM dX12_load_152 sm_fl_247 (sm_a0 _) sm_k130 rfl ?_
          refine sv_iload_n hM dX12_load_155 rfl rfl ?_
          have k56 : sv_R (S 78 p1) := sm_okI ok54 sm_r78 p1
          have h := h k56
          refine sv_iald hM dX12_load_156 (sm_a78 _) (by decide) o27.1 o27.2 rfl (x := (S 78 p1)) rfl ?_
          refine sv_iast sm_X hM dX12_load_157 (sm_a78 _) (by decide) o29.1 o29.2 rfl ?_
          have ok57 : sm_ok (sv_up (sv_up (sv_up (sv_sts (sv_sts (sv_up (sv_sts (sv_sts S [68, 69, 70] g11) [81, 82, 83, 84, 85, 86] g22) 74 (639 : Int) (S 74 p1)) [68, 69, 70] g32) [68, 69, 70] g44) 76 (639 : Int) (S 76 p1)) 77 (639 : Int) (S 77 p1)) 78 (639 : Int) (S 78 p1)) := sm_upI ok54 sm_r78 k56
          have md58 : sv_mod [68, 69, 70, 81, 82, 83, 84, 85, 86, 74, 78, 79, 80, 76, 77, 1100031] S (sv_up (sv_up (sv_up (sv_sts (sv_sts (sv_up (sv_sts (sv_sts S [68, 69, 70] g11) [81, 82, 83, 84, 85, 86] g22) 74 (639 : Int) (S 74 p1)) [68, 69, 70] g32) [68, 69, 70] g44) 76 (639 : Int) (S 76 p1)) 77 (639 : Int) (S 77 p1)) 78 (639 : Int) (S 78 p1)) := sv_mod.up md55 (by decide)
          have k59 : (sm_CQ (S 79) (S 80) (S 79) (S 80) 25560 (40 * p1) 0) := sm_CQ_0 rfl
          have h := h k59
          refine sv_iconst (d := (0 : Int)) hM dX12_load_158 rfl rfl ?_
          refine sv_istore_n hM dX12_load_159 (by decide) rfl ?_
          show sv_T sm_XS sm_cs sm_L sm_sh 3 (q_load p1 S) 231 160 [(0, .ref 0), (1, sv_I p1), (2, sv_I r10), (3, sv_I (0 : Int))] [] (sv_up (sv_up (sv_up (sv_sts (sv_sts (sv_up (sv_sts (sv_sts S [68, 69, 70] g11) [81, 82, 83, 84, 85, 86] g22) 74 (639 : Int) (S 74 p1)) [68, 69, 70] g32) [68, 69, 70] g44) 76 (639 : Int) (S 76 p1)) 77 (639 : Int) (S 77 p1)) 78 (639 : Int) (S 78 p1))
          obtain ⟨hin63, h⟩ := h
          have hJ : ∀ a : Int × sv_S, (sv_R a.1 ∧ sm_ok (sv_sts (sv_up (sv_up (sv_up (sv_sts (sv_sts (sv_up (sv_sts (sv_sts S [68, 69, 70] g11) [81, 82, 83, 84, 85, 86] g22) 74 (639 : Int) (S 74 p1)) [68, 69, 70] g32) [68, 69, 70] g44) 76 (639 : Int) (S 76 p1)) 77 (639 : Int) (S 77 p1)) 78 (639 : Int) (S 78 p1)) [79, 80] a.2) ∧ (0 ≤ a.1 ∧ a.1 ≤ (if p1 = (639 : Int) then (S 78 p1) else (S 78 p1)) ∧ sm_CQ (a.2 79) (a.2 80) (S 79) (S 80) 25560 (40 * p1) a.1)) → sv_T sm_XS sm_cs sm_L sm_sh 3 (q_load p1 S) 231 160 [(0, .ref 0), (1, sv_I p1), (2, sv_I r10), (3, sv_I a.1)] [] (sv_sts (sv_up (sv_up (sv_up (sv_sts (sv_sts (sv_up (sv_sts (sv_sts S [68, 69, 70] g11) [81, 82, 83, 84, 85, 86] g22) 74 (639 : Int) (S 74 p1)) [68, 69, 70] g32) [68, 69, 70] g44) 76 (639 : Int) (S 76 p1)) 77 (639 : Int) (S 77 p1)) 78 (639 : Int) (S 78 p1)) [79, 80] a.2) := by
            refine sv_loop (α := Int × sv_S) (fun a => sv_R a.1 ∧ sm_ok (sv_sts (sv_up (sv_up (sv_up (sv_sts (sv_sts (sv_up (sv_sts (sv_sts S [68, 69, 70] g11) [81, 82, 83, 84, 85, 86] g22) 74 (639 : Int) (S 74 p1)) [68, 69, 70] g32) [68, 69, 70] g44) 76 (639 : Int) (S 76 p1)) 77 (639 : Int) (S 77 p1)) 78 (639 : Int) (S 78 p1)) [79, 80] a.2) ∧ (0 ≤ a.1 ∧ a.1 ≤ (if p1 = (639 : Int) then (S 78 p1) else (S 78 p1)) ∧ sm_CQ (a.2 79) (a.2 80) (S 79) (S 80) 25560 (40 * p1) a.1)) (fun a => (if p1 = (639 : Int) then (S 78 p1) else (S 78 p1)) - a.1) (fun a => sv_T sm_XS sm_cs sm_L sm_sh 3 (q_load p1 S) 231 160 [(0, .ref 0), (1, sv_I p1), (2, sv_I r10), (3, sv_I a.1)] [] (sv_sts (sv_up (sv_up (sv_up (sv_sts (sv_sts (sv_up (sv_sts (sv_sts S [68, 69, 70] g11) [81, 82, 83, 84, 85, 86] g22) 74 (639 : Int) (S 74 p1)) [68, 69, 70] g32) [68, 69, 70] g44) 76 (639 : Int) (S 76 p1)) 77 (639 : Int) (S 77 p1)) 78 (639 : Int) (S 78 p1)) [79, 80] a.2)) (fun a q => (h a.1 q.1 a.2 q.2.2).1) (fun a q ih62 => ?_)
            obtain ⟨l3_61, g60⟩ := a
            obtain ⟨hl3_61, ok64, hin63i⟩ := q
            have h := (h l3_61 hl3_61 g60 hin63i).2
            show sv_T sm_XS sm_cs sm_L sm_sh 3 (q_load p1 S) 231 160 [(0, .ref 0), (1, sv_I p1), (2, sv_I r10), (3, sv_I l3_61)] [] (sv_sts (sv_up (sv_up (sv_up (sv_sts (sv_sts (sv_up (sv_sts (sv_sts S [68, 69, 70] g11) [81, 82, 83, 84, 85, 86] g22) 74 (639 : Int) (S 74 p1)) [68, 69, 70] g32) [68, 69, 70] g44) 76 (639 : Int) (S 76 p1)) 77 (639 : Int) (S 77 p1)) 78 (639 : Int) (S 78 p1)) [79, 80] g60)
            have md65 : sv_mod [68, 69, 70, 81, 82, 83, 84, 85, 86, 74, 78, 79, 80, 76, 77, 1100031] S (sv_sts (sv_up (sv_up (sv_up (sv_sts (sv_sts (sv_up (sv_sts (sv_sts S [68, 69, 70] g11) [81, 82, 83, 84, 85, 86] g22) 74 (639 : Int) (S 74 p1)) [68, 69, 70] g32) [68, 69, 70] g44) 76 (639 : Int) (S 76 p1)) 77 (639 : Int) (S 77 p1)) 78 (639 : Int) (S 78 p1)) [79, 80] g60) := sv_mod.sts md58 (by decide)
            have md66 : sv_mod [79, 80] (sv_up (sv_up (sv_up (sv_sts (sv_sts (sv_up (sv_sts (sv_sts S [68, 69, 70] g11) [81, 82, 83, 84, 85, 86] g22) 74 (639 : Int) (S 74 p1)) [68, 69, 70] g32) [68, 69, 70] g44) 76 (639 : Int) (S 76 p1)) 77 (639 : Int) (S 77 p1)) 78 (639 : Int) (S 78 p1)) (sv_sts (sv_up (sv_up (sv_up (sv_sts (sv_sts (sv_up (sv_sts (sv_sts S [68, 69, 70] g11) [81, 82, 83, 84, 85, 86] g22) 74 (639 : Int) (S 74 p1)) [68, 69, 70] g32) [68, 69, 70] g44) 76 (639 : Int) (S 76 p1)) 77 (639 : Int) (S 77 p1)) 78 (639 : Int) (S 78 p1)) [79, 80] g60) := sv_mod.sts sv_mod.rf (by decide)
            refine sv_iload_n hM dX12_load_160 rfl rfl ?_
            refine sv_aload_n hM dX12_load_161 rfl rfl ?_
            refine sv_getA hM dX12_load_162 sm_fl_247 (sm_a0 _) sm_k130 rfl ?_
            refine sv_iload_n hM dX12_load_165 rfl rfl ?_
            obtain ⟨v67, ev67⟩ : ∃ x : Int, (if p1 = (639 : Int) then (S 78 p1) else (S 78 p1)) = x := ⟨_, rfl⟩
            have h := h v67 ev67
            have k68 : sv_R v67 := ev67 ▸ (sm_okI ok64 sm_r78 p1)
            have h := h k68
            refine sv_iald hM dX12_load_166 (sm_a78 _) (by decide) o27.1 o27.2 rfl (x := v67) ev67 ?_
            refine sv_icmp_ge hM dX12_load_167 hl3_61 k68 (t := 218) rfl rfl (fun hc => ?_) (fun hc => ?_)
            · have h := h.1 (hc)
              obtain ⟨o69, h⟩ := h
              refine sv_ghost sm_X 1100031 0 ((S 1100023 p1)) (by decide) ?_
              have ok70 : sm_ok (sv_up (sv_sts (sv_up (sv_up (sv_up (sv_sts (sv_sts (sv_up (sv_sts (sv_sts S [68, 69, 70] g11) [81, 82, 83, 84, 85, 86] g22) 74 (639 : Int) (S 74 p1)) [68, 69, 70] g32) [68, 69, 70] g44) 76 (639 : Int) (S 76 p1)) 77 (639 : Int) (S 77 p1)) 78 (639 : Int) (S 78 p1)) [79, 80] g60) 1100031 0 ((S 1100023 p1))) := sm_upI ok64 sm_r1100031 o69
              have md71 : sv_mod [68, 69, 70, 81, 82, 83, 84, 85, 86, 74, 78, 79, 80, 76, 77, 1100031] S (sv_up (sv_sts (sv_up (sv_up (sv_up (sv_sts (sv_sts (sv_up (sv_sts (sv_sts S [68, 69, 70] g11) [81, 82, 83, 84, 85, 86] g22) 74 (639 : Int) (S 74 p1)) [68, 69, 70] g32) [68, 69, 70] g44) 76 (639 : Int) (S 76 p1)) 77 (639 : Int) (S 77 p1)) 78 (639 : Int) (S 78 p1)) [79, 80] g60) 1100031 0 ((S 1100023 p1))) := sv_mod.up md65 (by decide)
              have k72 : (sm_CQ (g60 79) (g60 80) (S 79) (S 80) 25560 (40 * p1) l3_61 → sm_TC (S 79) (S 80) (S 27) (S 1100007) (S 1100023) (S 1100024) (40 * p1) (S 1100023 p1) → sm_dp (S 1100024) (S 1100023 p1) ≤ l3_61 → sm_TC (g60 79) (g60 80) (S 27) (S 1100007) (S 1100023) (S 1100024) 25560 (S 1100023 p1)) := sm_CQ_TC
              have h := h k72
              have k73 : (sm_CQ (g60 79) (g60 80) (S 79) (S 80) 25560 (40 * p1) l3_61 → sm_F1 (S 79) (g60 79) 25560 ∧ sm_F1 (S 80) (g60 80) 25560) := sm_CQ_F
              have h := h k73
              exact sv_vret hM dX12_load_218 rfl ⟨rfl, ok70, md71, h⟩
            · have h := h.2 (hc)
              refine sv_aload_n hM dX12_load_170 rfl rfl ?_
              refine sv_getA hM dX12_load_171 sm_fl_250 (sm_a0 _) sm_k131 rfl ?_
              refine sv_sipush (d := (25560 : Int)) hM dX12_load_174 rfl rfl ?_
              refine sv_iload_n hM dX12_load_177 rfl rfl ?_
              refine sv_iadd hM dX12_load_178 rfl ?_
              refine sv_aload_n hM dX12_load_179 rfl rfl ?_
              refine sv_getA hM dX12_load_180 sm_fl_250 (sm_a0 _) sm_k131 rfl ?_
              refine sv_bipush (d := (40 : Int)) hM dX12_load_183 rfl rfl ?_
              refine sv_iload_n hM dX12_load_185 rfl rfl ?_
              refine sv_imul hM dX12_load_186 rfl ?_
              refine sv_iload_n hM dX12_load_187 rfl rfl ?_
              refine sv_iadd hM dX12_load_188 rfl ?_
              obtain ⟨o74, h⟩ := h
              have k75 : sv_R (g60 79 (((40 : Int) * p1) + l3_61)) := sm_okI ok64 sm_r79 (((40 : Int) * p1) + l3_61)
              have h := h k75
              refine sv_iald hM dX12_load_189 (sm_a79 _) (by decide) o74.1 o74.2 rfl (x := (g60 79 (((40 : Int) * p1) + l3_61))) rfl ?_
              obtain ⟨o76, h⟩ := h
              refine sv_iast sm_X hM dX12_load_190 (sm_a79 _) (by decide) o76.1 o76.2 rfl ?_
              have ok77 : sm_ok (sv_up (sv_sts (sv_up (sv_up (sv_up (sv_sts (sv_sts (sv_up (sv_sts (sv_sts S [68, 69, 70] g11) [81, 82, 83, 84, 85, 86] g22) 74 (639 : Int) (S 74 p1)) [68, 69, 70] g32) [68, 69, 70] g44) 76 (639 : Int) (S 76 p1)) 77 (639 : Int) (S 77 p1)) 78 (639 : Int) (S 78 p1)) [79, 80] g60) 79 ((25560 : Int) + l3_61) (g60 79 (((40 : Int) * p1) + l3_61))) := sm_upI ok64 sm_r79 k75
              have md78 : sv_mod [68, 69, 70, 81, 82, 83, 84, 85, 86, 74, 78, 79, 80, 76, 77, 1100031] S (sv_up (sv_sts (sv_up (sv_up (sv_up (sv_sts (sv_sts (sv_up (sv_sts (sv_sts S [68, 69, 70] g11) [81, 82, 83, 84, 85, 86] g22) 74 (639 : Int) (S 74 p1)) [68, 69, 70] g32) [68, 69, 70] g44) 76 (639 : Int) (S 76 p1)) 77 (639 : Int) (S 77 p1)) 78 (639 : Int) (S 78 p1)) [79, 80] g60) 79 ((25560 : Int) + l3_61) (g60 79 (((40 : Int) * p1) + l3_61))) := sv_mod.up md65 (by decide)
              have md79 : sv_mod [79, 80] (sv_up (sv_up (sv_up (sv_sts (sv_sts (sv_up (sv_sts (sv_sts S [68, 69, 70] g11) [81, 82, 83, 84, 85, 86] g22) 74 (639 : Int) (S 74 p1)) [68, 69, 70] g32) [68, 69, 70] g44) 76 (639 : Int) (S 76 p1)) 77 (639 : Int) (S 77 p1)) 78 (639 : Int) (S 78 p1)) (sv_up (sv_sts (sv_up (sv_up (sv_up (sv_sts (sv_sts (sv_up (sv_sts (sv_sts S [68, 69, 70] g11) [81, 82, 83, 84, 85, 86] g22) 74 (639 : Int) (S 74 p1)) [68, 69, 70] g32) [68, 69, 70] g44) 76 (639 : Int) (S 76 p1)) 77 (639 : Int) (S 77 p1)) 78 (639 : Int) (S 78 p1)) [79, 80] g60) 79 ((25560 : Int) + l3_61) (g60 79 (((40 : Int) * p1) + l3_61))) := sv_mod.up md66 (by decide)
              refine sv_aload_n hM dX12_load_191 rfl rfl ?_
              refine sv_getA hM dX12_load_192 sm_fl_253 (sm_a0 _) sm_k132 rfl ?_
              refine sv_sipush (d := (25560 : Int)) hM dX12_load_195 rfl rfl ?_
              refine sv_iload_n hM dX12_load_198 rfl rfl ?_
              refine sv_iadd hM dX12_load_199 rfl ?_
              refine sv_aload_n hM dX12_load_200 rfl rfl ?_
              refine sv_getA hM dX12_load_201 sm_fl_253 (sm_a0 _) sm_k132 rfl ?_
              refine sv_bipush (d := (40 : Int)) hM dX12_load_204 rfl rfl ?_
              refine sv_iload_n hM dX12_load_206 rfl rfl ?_
              refine sv_imul hM dX12_load_207 rfl ?_
              refine sv_iload_n hM dX12_load_208 rfl rfl ?_
              refine sv_iadd hM dX12_load_209 rfl ?_
              have k80 : sv_R (g60 80 (((40 : Int) * p1) + l3_61)) := sm_okI ok77 sm_r80 (((40 : Int) * p1) + l3_61)
              have h := h k80
              refine sv_iald hM dX12_load_210 (sm_a80 _) (by decide) o74.1 o74.2 rfl (x := (g60 80 (((40 : Int) * p1) + l3_61))) rfl ?_
              refine sv_iast sm_X hM dX12_load_211 (sm_a80 _) (by decide) o76.1 o76.2 rfl ?_
              have ok81 : sm_ok (sv_up (sv_up (sv_sts (sv_up (sv_up (sv_up (sv_sts (sv_sts (sv_up (sv_sts (sv_sts S [68, 69, 70] g11) [81, 82, 83, 84, 85, 86] g22) 74 (639 : Int) (S 74 p1)) [68, 69, 70] g32) [68, 69, 70] g44) 76 (639 : Int) (S 76 p1)) 77 (639 : Int) (S 77 p1)) 78 (639 : Int) (S 78 p1)) [79, 80] g60) 79 ((25560 : Int) + l3_61) (g60 79 (((40 : Int) * p1) + l3_61))) 80 ((25560 : Int) + l3_61) (g60 80 (((40 : Int) * p1) + l3_61))) := sm_upI ok77 sm_r80 k80
              have md82 : sv_mod [68, 69, 70, 81, 82, 83, 84, 85, 86, 74, 78, 79, 80, 76, 77, 1100031] S (sv_up (sv_up (sv_sts (sv_up (sv_up (sv_up (sv_sts (sv_sts (sv_up (sv_sts (sv_sts S [68, 69, 70] g11) [81, 82, 83, 84, 85, 86] g22) 74 (639 : Int) (S 74 p1)) [68, 69, 70] g32) [68, 69, 70] g44) 76 (639 : Int) (S 76 p1)) 77 (639 : Int) (S 77 p1)) 78 (639 : Int) (S 78 p1)) [79, 80] g60) 79 ((25560 : Int) + l3_61) (g60 79 (((40 : Int) * p1) + l3_61))) 80 ((25560 : Int) + l3_61) (g60 80 (((40 : Int) * p1) + l3_61))) := sv_mod.up md78 (by decide)
              have md83 : sv_mod [79, 80] (sv_up (sv_up (sv_up (sv_sts (sv_sts (sv_up (sv_sts (sv_sts S [68, 69, 70] g11) [81, 82, 83, 84, 85, 86] g22) 74 (639 : Int) (S 74 p1)) [68, 69, 70] g32) [68, 69, 70] g44) 76 (639 : Int) (S 76 p1)) 77 (639 : Int) (S 77 p1)) 78 (639 : Int) (S 78 p1)) (sv_up (sv_up (sv_sts (sv_up (sv_up (sv_up (sv_sts (sv_sts (sv_up (sv_sts (sv_sts S [68, 69, 70] g11) [81, 82, 83, 84, 85, 86] g22) 74 (639 : Int) (S 74 p1)) [68, 69, 70] g32) [68, 69, 70] g44) 76 (639 : Int) (S 76 p1)) 77 (639 : Int) (S 77 p1)) 78 (639 : Int) (S 78 p1)) [79, 80] g60) 79 ((25560 : Int) + l3_61) (g60 79 (((40 : Int) * p1) + l3_61))) 80 ((25560 : Int) + l3_61) (g60 80 (((40 : Int) * p1) + l3_61))) := sv_mod.up md79 (by decide)
              have k84 : (sm_CQ (fun i' : Int => if i' = ((25560 : Int) + l3_61) then (g60 79 (((40 : Int) * p1) + l3_61)) else (g60 79) i') (fun i' : Int => if i' = ((25560 : Int) + l3_61) then (g60 80 (((40 : Int) * p1) + l3_61)) else (g60 80) i') (S 79) (S 80) 25560 (40 * p1) (l3_61 + 1) → True) := fun _ => trivial
              have h := h k84
              refine sv_iinc (d := (1 : Int)) hM dX12_load_212 rfl (by decide) rfl rfl ?_
              show sv_T sm_XS sm_cs sm_L sm_sh 3 (q_load p1 S) 231 215 [(0, .ref 0), (1, sv_I p1), (2, sv_I r10), (3, sv_I (l3_61 + (1 : Int)))] [] (sv_up (sv_up (sv_sts (sv_up (sv_up (sv_up (sv_sts (sv_sts (sv_up (sv_sts (sv_sts S [68, 69, 70] g11) [81, 82, 83, 84, 85, 86] g22) 74 (639 : Int) (S 74 p1)) [68, 69, 70] g32) [68, 69, 70] g44) 76 (639 : Int) (S 76 p1)) 77 (639 : Int) (S 77 p1)) 78 (639 : Int) (S 78 p1)) [79, 80] g60) 79 ((25560 : Int) + l3_61) (g60 79 (((40 : Int) * p1) + l3_61))) 80 ((25560 : Int) + l3_61) (g60 80 (((40 : Int) * p1) + l3_61)))
              refine sv_goto hM dX12_load_215 (pc' := 160) rfl ?_
              obtain ⟨o85, h⟩ := h
              have eS := sv_mod.eq md83
              have hb := ih62 ((l3_61 + (1 : Int)), (sv_up (sv_up (sv_sts (sv_up (sv_up (sv_up (sv_sts (sv_sts (sv_up (sv_sts (sv_sts S [68, 69, 70] g11) [81, 82, 83, 84, 85, 86] g22) 74 (639 : Int) (S 74 p1)) [68, 69, 70] g32) [68, 69, 70] g44) 76 (639 : Int) (S 76 p1)) 77 (639 : Int) (S 77 p1)) 78 (639 : Int) (S 78 p1)) [79, 80] g60) 79 ((25560 : Int) + l3_61) (g60 79 (((40 : Int) * p1) + l3_61))) 80 ((25560 : Int) + l3_61) (g60 80 (((40 : Int) * p1) + l3_61)))) ⟨o85, (by rw [← eS]; exact ok81), h.1⟩ h.2
              have hb : sv_T sm_XS sm_cs sm_L sm_sh 3 (q_load p1 S) 231 160 [(0, .ref 0), (1, sv_I p1), (2, sv_I r10), (3, sv_I (l3_61 + (1 : Int)))] [] (sv_up (sv_up (sv_sts (sv_up (sv_up (sv_up (sv_sts (sv_sts (sv_up (sv_sts (sv_sts S [68, 69, 70] g11) [81, 82, 83, 84, 85, 86] g22) 74 (639 : Int) (S 74 p1)) [68, 69, 70] g32) [68, 69, 70] g44) 76 (639 : Int) (S 76 p1)) 77 (639 : Int) (S 77 p1)) 78 (639 : Int) (S 78 p1)) [79, 80] g60) 79 ((25560 : Int) + l3_61) (g60 79 (((40 : Int) * p1) + l3_61))) 80 ((25560 : Int) + l3_61) (g60 80 (((40 : Int) * p1) + l3_61))) := Eq.mpr (congrArg (fun Z => sv_T sm_XS sm_cs sm_L sm_sh 3 (q_load p1 S) 231 160 [(0, .ref 0), (1, sv_I p1), (2, sv_I r10), (3, sv_I (l3_61 + (1 : Int)))] [] Z) eS) hb
              exact sv_less (lv := [(0, .ref 0), (1, sv_I p1), (2, sv_I r10), (3, sv_I (l3_61 + (1 : Int)))]) (sv_Sub_cons rfl (sv_Sub_cons rfl (sv_Sub_cons rfl (sv_Sub_cons rfl sv_Sub_nil)))) hb
          have eS := sv_mod.eq (sv_mod.rf (l := [79, 80]) (S := (sv_up (sv_up (sv_up (sv_sts (sv_sts (sv_up (sv_sts (sv_sts S [68, 69, 70] g11) [81, 82, 83, 84, 85, 86] g22) 74 (639 : Int) (S 74 p1)) [68, 69, 70] g32) [68, 69, 70] g44) 76 (639 : Int) (S 76 p1)) 77 (639 : Int) (S 77 p1)) 78 (639 : Int) (S 78 p1))))
          have hb := hJ ((0 : Int), (sv_up (sv_up (sv_up (sv_sts (sv_sts (sv_up (sv_sts (sv_sts S [68, 69, 70] g11) [81, 82, 83, 84, 85, 86] g22) 74 (639 : Int) (S 74 p1)) [68, 69, 70] g32) [68, 69, 70] g44) 76 (639 : Int) (S 76 p1)) 77 (639 : Int) (S 77 p1)) 78 (639 : Int) (S 78 p1))) ⟨(⟨by decide, by decide⟩ : sv_R (0 : Int)), (by rw [← eS]; exact ok57), hin63⟩
          have hb : sv_T sm_XS sm_cs sm_L sm_sh 3 (q_load p1 S) 231 160 [(0, .ref 0), (1, sv_I p1), (2, sv_I r10), (3, sv_I (0 : Int))] [] (sv_up (sv_up (sv_up (sv_sts (sv_sts (sv_up (sv_sts (sv_sts S [68, 69, 70] g11) [81, 82, 83, 84, 85, 86] g22) 74 (639 : Int) (S 74 p1)) [68, 69, 70] g32) [68, 69, 70] g44) 76 (639 : Int) (S 76 p1)) 77 (639 : Int) (S 77 p1)) 78 (639 : Int) (S 78 p1)) := Eq.mpr (congrArg (fun Z => sv_T sm_XS sm_cs sm_L sm_sh 3 (q_load p1 S) 231 160 [(0, .ref 0), (1, sv_I p1), (2, sv_I r10), (3, sv_I (0 : Int))] [] Z) eS) hb
          exact hb
        · have h := h.2 (hc)
          refine sv_aload_n hM dX12_load_72 rfl rfl ?_
          refine sv_aload_n hM dX12_load_73 rfl rfl ?_
          refine sv_getA hM dX12_load_74 sm_fl_238 (sm_a0 _) sm_k126 rfl ?_
          refine sv_iload_n hM dX12_load_77 rfl rfl ?_
          have k86 : sv_R (S 75 p1) := sm_okI ok36 sm_r75 p1
          have h := h k86
          refine sv_iald hM dX12_load_78 (sm_a75 _) (by decide) o27.1 o27.2 rfl (x := (S 75 p1)) rfl ?_
          refine sv_iload_n hM dX12_load_79 rfl rfl ?_
          refine sv_iadd hM dX12_load_80 rfl ?_
          refine sv_aload_n hM dX12_load_81 rfl rfl ?_
          refine sv_getA hM dX12_load_82 sm_fl_238 (sm_a0 _) sm_k126 rfl ?_
          refine sv_sipush (d := (639 : Int)) hM dX12_load_85 rfl rfl ?_
          have k87 : sv_R (S 75 (639 : Int)) := sm_okI ok36 sm_r75 (639 : Int)
          have h := h k87
          refine sv_iald hM dX12_load_88 (sm_a75 _) (by decide) o29.1 o29.2 rfl (x := (S 75 (639 : Int))) rfl ?_
          refine sv_iload_n hM dX12_load_89 rfl rfl ?_
          refine sv_iadd hM dX12_load_90 rfl ?_
          obtain ⟨o88, h⟩ := h
          obtain ⟨o89, h⟩ := h
          obtain ⟨o90, h⟩ := h
          refine sv_callV hM dX12_load_91 sm_iv_1092 (by decide) (sm_a0 _) rfl rfl (Nat.le_of_ble_eq_true rfl) sm_h207 (Nat.le_of_ble_eq_true rfl) (Nat.le_of_ble_eq_true rfl) (F' := 0) (Nat.le_of_ble_eq_true rfl) rfl (t_copySet ((S 75 p1) + l3_33) ((S 75 (639 : Int)) + l3_33) (sv_sts (sv_up (sv_sts (sv_sts S [68, 69, 70] g11) [81, 82, 83, 84, 85, 86] g22) 74 (639 : Int) (S 74 p1)) [68, 69, 70] g32) ok36 o88 o89 o90) (fun v S1 hq => ?_)
          obtain ⟨rfl, ok92, md93, hpo94⟩ := hq
          obtain ⟨g91, rfl⟩ : ∃ g, S1 = sv_sts (sv_sts (sv_up (sv_sts (sv_sts S [68, 69, 70] g11) [81, 82, 83, 84, 85, 86] g22) 74 (639 : Int) (S 74 p1)) [68, 69, 70] g32) [68, 69, 70] g := ⟨_, md93.eq⟩
          show sv_T sm_XS sm_cs sm_L sm_sh 3 (q_load p1 S) 231 94 [(0, .ref 0), (1, sv_I p1), (2, sv_I r10), (3, sv_I l3_33)] [] (sv_sts (sv_sts (sv_up (sv_sts (sv_sts S [68, 69, 70] g11) [81, 82, 83, 84, 85, 86] g22) 74 (639 : Int) (S 74 p1)) [68, 69, 70] g32) [68, 69, 70] g91)
          have md95 : sv_mod [68, 69, 70, 81, 82, 83, 84, 85, 86, 74, 78, 79, 80, 76, 77, 1100031] S (sv_sts (sv_sts (sv_up (sv_sts (sv_sts S [68, 69, 70] g11) [81, 82, 83, 84, 85, 86] g22) 74 (639 : Int) (S 74 p1)) [68, 69, 70] g32) [68, 69, 70] g91) := sv_mod.sts md37 (by decide)
          have md96 : sv_mod [68, 69, 70] (sv_up (sv_sts (sv_sts S [68, 69, 70] g11) [81, 82, 83, 84, 85, 86] g22) 74 (639 : Int) (S 74 p1)) (sv_sts (sv_sts (sv_up (sv_sts (sv_sts S [68, 69, 70] g11) [81, 82, 83, 84, 85, 86] g22) 74 (639 : Int) (S 74 p1)) [68, 69, 70] g32) [68, 69, 70] g91) := sv_mod.sts md38 (by decide)
          have h := h g91 hpo94
          refine sv_iinc (d := (1 : Int)) hM dX12_load_94 rfl (by decide) rfl rfl ?_
          show sv_T sm_XS sm_cs sm_L sm_sh 3 (q_load p1 S) 231 97 [(0, .ref 0), (1, sv_I p1), (2, sv_I r10), (3, sv_I (l3_33 + (1 : Int)))] [] (sv_sts (sv_sts (sv_up (sv_sts (sv_sts S [68, 69, 70] g11) [81, 82, 83, 84, 85, 86] g22) 74 (639 : Int) (S 74 p1)) [68, 69, 70] g32) [68, 69, 70] g91)
          refine sv_goto hM dX12_load_97 (pc' := 62) rfl ?_
          obtain ⟨o97, h⟩ := h
          have eS := sv_mod.eq md96
          have hb := ih34 ((l3_33 + (1 : Int)), (sv_sts (sv_sts (sv_up (sv_sts (sv_sts S [68, 69, 70] g11) [81, 82, 83, 84, 85, 86] g22) 74 (639 : Int) (S 74 p1)) [68, 69, 70] g32) [68, 69, 70] g91)) ⟨o97, (by rw [← eS]; exact ok92), h.1⟩ h.2
          have hb : sv_T sm_XS sm_cs sm_L sm_sh 3 (q_load p1 S) 231 62 [(0, .ref 0), (1, sv_I p1), (2, sv_I r10), (3, sv_I (l3_33 + (1 : Int)))] [] (sv_sts (sv_sts (sv_up (sv_sts (sv_sts S [68, 69, 70] g11) [81, 82, 83, 84, 85, 86] g22) 74 (639 : Int) (S 74 p1)) [68, 69, 70] g32) [68, 69, 70] g91) := Eq.mpr (congrArg (fun Z => sv_T sm_XS sm_cs sm_L sm_sh 3 (q_load p1 S) 231 62 [(0, .ref 0), (1, sv_I p1), (2, sv_I r10), (3, sv_I (l3_33 + (1 : Int)))] [] Z) eS) hb
          exact sv_less (lv := [(0, .ref 0), (1, sv_I p1), (2, sv_I r10), (3, sv_I (l3_33 + (1 : Int)))]) (sv_Sub_cons rfl (sv_Sub_cons rfl (sv_Sub_cons rfl (sv_Sub_cons rfl sv_Sub_nil)))) hb
      have eS := sv_mod.eq (sv_mod.rf (l := [68, 69, 70]) (S := (sv_up (sv_sts (sv_sts S [68, 69, 70] g11) [81, 82, 83, 84, 85, 86] g22) 74 (639 : Int) (S 74 p1))))
      have hb := hJ ((0 : Int), (sv_up (sv_sts (sv_sts S [68, 69, 70] g11) [81, 82, 83, 84, 85, 86] g22) 74 (639 : Int) (S 74 p1))) ⟨(⟨by decide, by decide⟩ : sv_R (0 : Int)), (by rw [← eS]; exact ok30), hin35⟩
      have hb : sv_T sm_XS sm_cs sm_L sm_sh 3 (q_load p1 S) 231 62 [(0, .ref 0), (1, sv_I p1), (2, sv_I r10), (3, sv_I (0 : Int))] [] (sv_up (sv_sts (sv_sts S [68, 69, 70] g11) [81, 82, 83, 84, 85, 86] g22) 74 (639 : Int) (S 74 p1)) := Eq.mpr (congrArg (fun Z => sv_T sm_XS sm_cs sm_L sm_sh 3 (q_load p1 S) 231 62 [(0, .ref 0), (1, sv_I p1), (2, sv_I r10), (3, sv_I (0 : Int))] [] Z) eS) hb
      exact hb
    · have h := h.2 (hc)
      refine sv_aload_n hM dX12_load_23 rfl rfl ?_
      refine sv_iload_n hM dX12_load_24 rfl rfl ?_
      refine sv_iload_n hM dX12_load_25 rfl rfl ?_
      refine sv_iadd hM dX12_load_26 rfl ?_
      refine sv_ldc_w (d := (635640 : Int)) hM dX12_load_27 sm_ck_1084 rfl rfl ?_
      refine sv_iload_n hM dX12_load_30 rfl rfl ?_
      refine sv_iadd hM dX12_load_31 rfl ?_
      obtain ⟨o98, h⟩ := h
      obtain ⟨o99, h⟩ := h
      obtain ⟨o100, h⟩ := h
      refine sv_callV hM dX12_load_32 sm_iv_1092 (by decide) (sm_a0 _) rfl rfl (Nat.le_of_ble_eq_true rfl) sm_h207 (Nat.le_of_ble_eq_true rfl) (Nat.le_of_ble_eq_true rfl) (F' := 0) (Nat.le_of_ble_eq_true rfl) rfl (t_copySet (r10 + l3_12) ((635640 : Int) + l3_12) (sv_sts S [68, 69, 70] g11) ok15 o98 o99 o100) (fun v S1 hq => ?_)
      obtain ⟨rfl, ok102, md103, hpo104⟩ := hq
      obtain ⟨g101, rfl⟩ : ∃ g, S1 = sv_sts (sv_sts S [68, 69, 70] g11) [68, 69, 70] g := ⟨_, md103.eq⟩
      show sv_T sm_XS sm_cs sm_L sm_sh 3 (q_load p1 S) 231 35 [(0, .ref 0), (1, sv_I p1), (2, sv_I r10), (3, sv_I l3_12)] [] (sv_sts (sv_sts S [68, 69, 70] g11) [68, 69, 70] g101)
      have md105 : sv_mod [68, 69, 70, 81, 82, 83, 84, 85, 86, 74, 78, 79, 80, 76, 77, 1100031] S (sv_sts (sv_sts S [68, 69, 70] g11) [68, 69, 70] g101) := sv_mod.sts md16 (by decide)
      have md106 : sv_mod [68, 69, 70] S (sv_sts (sv_sts S [68, 69, 70] g11) [68, 69, 70] g101) := sv_mod.sts md17 (by decide)
      have h := h g101 hpo104
      refine sv_iinc (d := (1 : Int)) hM dX12_load_35 rfl (by decide) rfl rfl ?_
      show sv_T sm_XS sm_cs sm_L sm_sh 3 (q_load p1 S) 231 38 [(0, .ref 0), (1, sv_I p1), (2, sv_I r10), (3, sv_I (l3_12 + (1 : Int)))] [] (sv_sts (sv_sts S [68, 69, 70] g11) [68, 69, 70] g101)
      refine sv_goto hM dX12_load_38 (pc' := 8) rfl ?_
      obtain ⟨o107, h⟩ := h
      have eS := sv_mod.eq md106
      have hb := ih13 ((l3_12 + (1 : Int)), (sv_sts (sv_sts S [68, 69, 70] g11) [68, 69, 70] g101)) ⟨o107, (by rw [← eS]; exact ok102), h.1⟩ h.2
      have hb : sv_T sm_XS sm_cs sm_L sm_sh 3 (q_load p1 S) 231 8 [(0, .ref 0), (1, sv_I p1), (2, sv_I r10), (3, sv_I (l3_12 + (1 : Int)))] [] (sv_sts (sv_sts S [68, 69, 70] g11) [68, 69, 70] g101) := Eq.mpr (congrArg (fun Z => sv_T sm_XS sm_cs sm_L sm_sh 3 (q_load p1 S) 231 8 [(0, .ref 0), (1, sv_I p1), (2, sv_I r10), (3, sv_I (l3_12 + (1 : Int)))] [] Z) eS) hb
      exact sv_less (lv := [(0, .ref 0), (1, sv_I p1), (2, sv_I r10), (3, sv_I (l3_12 + (1 : Int)))]) (sv_Sub_cons rfl (sv_Sub_cons rfl (sv_Sub_cons rfl (sv_Sub_cons rfl sv_Sub_nil)))) hb
  have eS := sv_mod.eq (sv_mod.rf (l := [68, 69, 70]) (S := S))
  have hb := hJ ((0 : Int), S) ⟨(⟨by decide, by decide⟩ : sv_R (0 : Int)), (by rw [← eS]; exact ok7), hin14⟩
  have hb : sv_T sm_XS sm_cs sm_L sm_sh 3 (q_load p1 S) 231 8 [(0, .ref 0), (1, sv_I p1), (2, sv_I r10), (3, sv_I (0 : Int))] [] S := Eq.mpr (congrArg (fun Z => sv_T sm_XS sm_cs sm_L sm_sh 3 (q_load p1 S) 231 8 [(0, .ref 0), (1, sv_I p1), (2, sv_I r10), (3, sv_I (0 : Int))] [] Z) eS) hb
  exact hb
def q_flow (p1 : Int) (S : sv_S) : Option Value → sv_S → Prop := fun v S' => v = none ∧ sm_ok S' ∧ sv_mod [68, 69, 70, 81, 82, 83, 84, 85, 86, 71, 74, 75, 1127, 78, 79, 80, 72, 76, 77] S S' ∧ (sm_ST (S' 71) (S' 74) (S' 75) (S' 78) (S' 79) (S' 80) (S' 27) (S' 1100007) (S' 1100023) (S' 1100024) (S' 1046 0) ((S' 1046 0) + 2 * (S' 1032 0)) (S' 1127 0) ∧ 465000 ≤ (S' 1127 0) ∧ (S' 1127 0) + sm_hs (S' 71) (S' 1100007) ≤ 635000 ∧ (S' 75 639) = 647340 ∧ (S' 74 639) = (S 74 639) ∧ (S' 78 639) = (S 78 639) ∧ sm_TC (S' 79) (S' 80) (S' 27) (S' 1100007) (S' 1100023) (S' 1100024) 25560 (S' 1100031 0) ∧ (∀ k : Int, (S 71 k) = 1 → (S' 71 k) = 1) ∧ sm_DR (S' 72) (S' 71) (S' 1046 0) ∧ (641 * (sm_cm (S' 71) + sm_pt (S' 68) (S' 69) (S' 70) + sm_pl (S' 81) (S' 82) (S' 83) (S' 84) (S' 85) (S' 86) + sm_ps (S' 76) (S' 77)) + sm_du (S' 72)) ≤ (641 * (sm_cm (S 71) + sm_pt (S 68) (S 69) (S 70) + sm_pl (S 81) (S 82) (S 83) (S 84) (S 85) (S 86) + sm_ps (S 76) (S 77)) + sm_du (S 72)) ∧ (S' 71 p1) = 1)
theorem la_flow_0 {x0 x1 x2 : Int} (h0 : x0 + 2 * x1 ≤ 500) (h1 : x2 < x0 + 2 * x1) : x2 < 640 := by omega
theorem la_flow_1 {x0 x1 x2 x3 : Int} (h0 : x0 + 2 * x1 ≤ 500) (h1 : 0 ≤ x2) (h2 : x2 ≤ 11557) (h3 : 0 ≤ x3) (h4 : x3 < x0 + 2 * x1) : 0 ≤ x2 ∧ x2 ≤ 11557 ∧ 0 ≤ x3 ∧ (x3 = 639 ∨ x3 < x0 + 2 * x1) := by omega
theorem la_flow_2 {x0 x1 x2 : Int} (h0 : x0 + 2 * x1 ≤ 500) (h1 : x2 < x0 + 2 * x1) : ¬ x2 = 639 := by omega
theorem la_flow_3 {x0 x1 x2 x3 x4 x5 x6 x7 x8 x9 : Int} (h0 : 0 ≤ x0) (h1 : x1 + x2 + x3 + x4 + x5 ≤ x6 + x7 + x8 + x9) : (0 : Int) ≤ 0 ∧ 0 ≤ x0 ∧ x1 + x2 + x3 + x4 + x5 ≤ x6 + x7 + x8 + x9 := by omega
theorem la_flow_4 {x0 x1 : Int} (h0 : x0 ≤ x1) : 0 ≤ x1 - x0 := by omega
theorem la_flow_5 {x0 : Int} (h0 : 0 ≤ x0) (h1 : x0 ≤ 11557) : sv_R x0 := by omega
theorem la_flow_6 {x0 x1 x2 x3 x4 x5 x6 x7 x8 x9 x10 : Int} (h0 : 0 ≤ x0) (h1 : x1 = x0) (h2 : x2 + x3 + x4 + x5 + x6 ≤ x7 + x8 + x9 + x10) : (0 : Int) ≤ 0 ∧ 0 ≤ x1 ∧ x2 + x3 + x4 + x5 + x6 ≤ x7 + x8 + x9 + x10 := by omega
theorem la_flow_7 {x0 x1 x2 : Int} (h0 : x0 + 2 * x1 ≤ 500) (h1 : 0 ≤ x2) (h2 : x2 < x0 + 2 * x1) : 0 ≤ x2 ∧ x2 < 640 := by omega
theorem la_flow_8 : (0 : Int) ≤ 639 ∧ (639 : Int) < 640 := by omega
theorem la_flow_9 : (0 : Int) ≤ 0 := by omega
theorem la_flow_10 {x0 : Int} (h0 : 29 ≤ x0) : 0 ≤ x0 := by omega
theorem la_flow_11 {x0 x1 x2 : Int} (h0 : x0 + 2 * x1 ≤ 500) (h1 : x2 < x0 + 2 * x1) : x2 < 639 := by omega
theorem la_flow_12 {x0 : Int} : x0 = x0 := by omega
theorem la_flow_13 {x0 x1 x2 x3 x4 x5 x6 x7 x8 x9 x10 x11 x12 x13 x14 x15 x16 x17 x18 : Int} (h0 : x0 = 0 ∨ x0 = 1) (h1 : x1 + x2 + x3 + x4 + x0 ≤ x5 + x6 + x7 + x8) (h2 : x9 = 0 ∨ x9 = 1) (h3 : x9 = 1 → x0 = 1 ∨ ¬ x10 = 0 ∨ ¬ x11 = 0) (h4 : x12 ≤ x13) (h5 : ¬ x10 = 0 ∨ ¬ x11 = 0 → x12 + 1 ≤ x13) (h6 : x14 = x15 + x16 - x17) (h7 : x15 = x4 + x12 - x18) (h8 : x17 = x13) (h9 : x16 = x18) : x1 + x2 + x3 + x14 + x9 ≤ x5 + x6 + x7 + x8 := by omega
theorem la_flow_14 {x0 : Int} (h0 : x0 = 1) : 0 ≤ x0 := by omega
theorem la_flow_15 {x0 : Int} (h0 : 0 ≤ x0) (h1 : ¬ x0 = 0) : 0 < x0 := by omega
theorem la_flow_16 {x0 x1 : Int} (h0 : x0 ≤ x1) : ¬ x1 < x0 := by omega
theorem la_flow_17 {x0 x1 x2 x3 x4 x5 x6 x7 x8 x9 x10 : Int} (h0 : 0 ≤ x0) (h1 : x1 + x2 + x3 + x4 + x5 ≤ x6 + x7 + x8 + x9) (h2 : 0 < x5) (h3 : x10 ≤ 640) : 641 * (x1 + x2 + x3 + x4) + x10 ≤ 641 * (x6 + x7 + x8 + x9) + x0 := by omega
theorem la_flow_18 {x0 x1 x2 : Int} (h0 : 1 ≤ x0) (h1 : x1 + 2 * x0 ≤ 500) (h2 : 0 ≤ x2) (h3 : ¬ x1 ≤ x2) : 0 ≤ x2 ∧ x2 < 640 := by omega
theorem la_flow_19 {x0 x1 x2 : Int} (h0 : 1 ≤ x0) (h1 : x1 + 2 * x0 ≤ 500) (h2 : 0 ≤ x2) (h3 : ¬ x1 ≤ x2) : sv_R (x2 + 1) := by omega
theorem la_flow_20 {x0 : Int} (h0 : 0 ≤ x0) : 0 ≤ x0 + 1 := by omega
theorem la_flow_21 {x0 x1 : Int} (h0 : ¬ x0 ≤ x1) : x1 + 1 ≤ x0 := by omega
theorem la_flow_22 {x0 x1 : Int} (h0 : ¬ x0 ≤ x1) : x1 < x0 := by omega
theorem la_flow_23 {x0 : Int} (h0 : x0 ≤ 1) (h1 : 0 < x0) : x0 = 1 := by omega
theorem la_flow_24 {x0 x1 : Int} : x0 - (x1 + 1) < x0 - x1 := by omega
theorem la_flow_25 {x0 x1 x2 : Int} (h0 : 1 ≤ x0) (h1 : x1 + 2 * x0 ≤ 500) (h2 : 0 ≤ x2) (h3 : ¬ x1 ≤ x2) : 0 ≤ x2 ∧ x2 < 600 := by omega
theorem la_flow_26 {x0 : Int} (h0 : ¬ ¬ x0 = 16) : 15 ≤ x0 := by omega
theorem la_flow_27 {x0 : Int} (h0 : 15 ≤ x0) (h1 : ¬ x0 = 15) : 15 < x0 := by omega
theorem la_flow_28 {x0 : Int} (h0 : ¬ ¬ x0 = 0) : ¬ x0 = 1 := by omega
theorem la_flow_29 {x0 x1 x2 x3 x4 x5 x6 x7 x8 x9 : Int} (h0 : x0 + x1 + x2 + x3 + x4 ≤ x5 + x6 + x7 + x8) (h1 : ¬ ¬ x4 = 0) : 641 * (x0 + x1 + x2 + x3) + x9 ≤ 641 * (x5 + x6 + x7 + x8) + x9 := by omega
theorem la_flow_30 {x0 x1 : Int} (h0 : x0 ≤ 127) (h1 : 0 ≤ x1) (h2 : ¬ x0 ≤ x1) : sv_R (x1 + 1) := by omega
theorem la_flow_31 {x0 x1 x2 x3 x4 x5 x6 x7 x8 x9 x10 : Int} (h0 : 0 ≤ x0) (h1 : ¬ x1 ≤ x0) (h2 : x2 + x3 + x4 + x5 + x6 ≤ x7 + x8 + x9 + x10) : 0 ≤ x0 + 1 ∧ x0 + 1 ≤ x1 ∧ x2 + x3 + x4 + x5 + x6 ≤ x7 + x8 + x9 + x10 := by omega
theorem la_flow_32 {x0 x1 x2 x3 x4 : Int} (h0 : x0 ≤ 127) (h1 : 0 ≤ x1) (h2 : x1 ≤ 11557) (h3 : 0 ≤ x2) (h4 : ¬ x0 ≤ x2) : 0 ≤ x1 ∧ x1 ≤ 11557 ∧ (0 : Int) ≤ 639 ∧ ((639 : Int) = 639 ∨ 639 < x3 + 2 * x4) ∧ 0 ≤ x2 ∧ (x2 < x0 ∨ (639 : Int) = 639 ∧ x2 < 128) := by omega
theorem la_flow_33 : (639 : Int) = 639 := by omega
theorem la_flow_34 : ¬ ¬ (639 : Int) = 639 := by omega
theorem la_flow_35 {x0 x1 x2 x3 x4 x5 : Int} (h0 : x0 ≤ 127) (h1 : x1 + 2 * x2 ≤ 500) (h2 : 0 ≤ x3) (h3 : x3 ≤ 11557) (h4 : 0 ≤ x4) (h5 : x4 < x1 + 2 * x2) (h6 : 0 ≤ x5) (h7 : ¬ x0 ≤ x5) : 0 ≤ x3 ∧ x3 ≤ 11557 ∧ 0 ≤ x4 ∧ (x4 = 639 ∨ x4 < x1 + 2 * x2) ∧ 0 ≤ x5 ∧ (x5 < x0 ∨ x4 = 639 ∧ x5 < 128) := by omega
theorem la_flow_36 {x0 x1 x2 x3 : Int} (h0 : x0 ≤ 127) (h1 : 0 ≤ x1) (h2 : ¬ x0 ≤ x1) (h3 : x2 = 15000 + x1) (h4 : 0 ≤ x3) (h5 : x3 < 14520) : 0 ≤ x2 ∧ x2 < 15128 ∧ 0 ≤ x3 ∧ x3 < 15128 := by omega
theorem la_flow_37 {x0 : Int} (h0 : x0 < 14520) : ¬ 15000 ≤ x0 := by omega
theorem la_flow_38 {x0 : Int} (h0 : x0 < 14520) : x0 < 15000 := by omega
theorem la_flow_39 {x0 x1 x2 x3 x4 x5 x6 x7 x8 x9 x10 : Int} (h0 : x0 = 0 ∨ x0 = 1) (h1 : x1 + x2 + x3 + x4 + x0 ≤ x5 + x6 + x7 + x8) (h2 : x9 = 0 ∨ x9 = 1) (h3 : x10 + x9 ≤ x3) : ¬ x9 = 0 → ((1 : Int) = 0 ∨ (1 : Int) = 1) ∧ x1 + x2 + x10 + x4 + 1 ≤ x5 + x6 + x7 + x8 := by omega
theorem la_flow_40 {x0 x1 x2 x3 x4 x5 x6 x7 x8 x9 x10 : Int} (h0 : x0 + x1 + x2 + x3 + x4 ≤ x5 + x6 + x7 + x8) (h1 : x9 + x10 ≤ x2) (h2 : ¬ ¬ x10 = 0) : x4 = 0 → ((0 : Int) = 0 ∨ (0 : Int) = 1) ∧ x0 + x1 + x9 + x3 + 0 ≤ x5 + x6 + x7 + x8 := by omega
theorem la_flow_41 : (1 : Int) = 0 ∨ (1 : Int) = 1 := by omega
theorem la_flow_42 {x0 x1 x2 x3 x4 x5 x6 x7 x8 x9 x10 : Int} (h0 : x0 + x1 + x2 + x3 + x4 ≤ x5 + x6 + x7 + x8) (h1 : x9 + x10 ≤ x2) (h2 : ¬ ¬ x10 = 0) (h3 : x4 = 1) : x0 + x1 + x9 + x3 + 1 ≤ x5 + x6 + x7 + x8 := by omega
theorem la_flow_43 {x0 x1 x2 : Int} (h0 : x0 = 0 ∨ x0 = 1) : ¬ x0 = 0 → ((1 : Int) = 0 ∨ (1 : Int) = 1) ∧ ((1 : Int) = 1 → x0 = 1 ∨ ¬ x1 = 0 ∨ ¬ x2 = 0) := by omega
theorem la_flow_44 {x0 x1 x2 : Int} (h0 : ¬ ¬ x0 = 0) : ¬ x1 = 0 → ((1 : Int) = 0 ∨ (1 : Int) = 1) ∧ ((1 : Int) = 1 → x0 = 1 ∨ ¬ x1 = 0 ∨ ¬ x2 = 0) := by omega
theorem la_flow_45 {x0 x1 x2 : Int} : x0 = 0 → ((0 : Int) = 0 ∨ (0 : Int) = 1) ∧ ((0 : Int) = 1 → x1 = 1 ∨ ¬ x2 = 0 ∨ ¬ x0 = 0) := by omega
theorem la_flow_46 {x0 x1 x2 : Int} (h0 : x0 = 0) (h1 : ¬ x1 = 0) : x0 = 1 ∨ ¬ x2 = 0 ∨ ¬ x1 = 0 := by omega
theorem la_flow_47 : sv_R (635000 + 639) := by omega
theorem la_flow_48 {x0 x1 x2 : Int} (h0 : x0 + 2 * x1 ≤ 500) (h1 : 0 ≤ x2) (h2 : x2 < x0 + 2 * x1) : sv_R (635000 + x2) := by omega
theorem la_flow_49 {x0 x1 x2 : Int} (h0 : x0 + 2 * x1 ≤ 500) (h1 : 0 ≤ x2) (h2 : x2 < x0 + 2 * x1) : (0 : Int) ≤ 635000 + 639 ∧ (635000 + 639 : Int) < 647800 ∧ 0 ≤ 635000 + x2 ∧ 635000 + x2 < 647800 := by omega
theorem la_flow_50 {x0 x1 x2 : Int} (h0 : x0 + 2 * x1 ≤ 500) (h1 : x2 < x0 + 2 * x1) : ¬ 635639 ≤ 635000 + x2 := by omega
theorem la_flow_51 {x0 x1 x2 : Int} (h0 : x0 + 2 * x1 ≤ 500) (h1 : x2 < x0 + 2 * x1) : 635000 + x2 < 635639 := by omega
theorem la_flow_52 {x0 x1 x2 x3 x4 x5 x6 x7 x8 x9 x10 : Int} (h0 : x0 = 0 ∨ x0 = 1) (h1 : x1 + x2 + x3 + x4 + x0 ≤ x5 + x6 + x7 + x8) (h2 : x9 = 0 ∨ x9 = 1) (h3 : x10 + x9 ≤ x2) : ¬ x9 = 0 → ((1 : Int) = 0 ∨ (1 : Int) = 1) ∧ x1 + x10 + x3 + x4 + 1 ≤ x5 + x6 + x7 + x8 := by omega
theorem la_flow_53 {x0 x1 x2 x3 x4 x5 x6 x7 x8 x9 x10 : Int} (h0 : x0 + x1 + x2 + x3 + x4 ≤ x5 + x6 + x7 + x8) (h1 : x9 + x10 ≤ x1) (h2 : ¬ ¬ x10 = 0) : x4 = 0 → ((0 : Int) = 0 ∨ (0 : Int) = 1) ∧ x0 + x9 + x2 + x3 + 0 ≤ x5 + x6 + x7 + x8 := by omega
theorem la_flow_54 {x0 x1 x2 x3 x4 x5 x6 x7 x8 x9 x10 : Int} (h0 : x0 + x1 + x2 + x3 + x4 ≤ x5 + x6 + x7 + x8) (h1 : x9 + x10 ≤ x1) (h2 : ¬ ¬ x10 = 0) (h3 : 0 < x4) : x0 + x9 + x2 + x3 + 1 ≤ x5 + x6 + x7 + x8 := by omega
theorem la_flow_55 {x0 x1 x2 : Int} (h0 : x0 ≤ 400) (h1 : x1 = x0) (h2 : 0 ≤ x2) (h3 : ¬ x1 ≤ x2) : sv_R (x2 + 1) := by omega
theorem la_flow_56 {x0 x1 x2 x3 : Int} (h0 : x0 ≤ 400) (h1 : x1 = 647340) (h2 : x2 = x0) (h3 : 0 ≤ x3) (h4 : ¬ x2 ≤ x3) : sv_R (x1 + x3) := by omega
theorem la_flow_57 {x0 x1 x2 x3 x4 : Int} (h0 : x0 + x1 ≤ 635000) (h1 : 465000 ≤ x2) (h2 : x2 + x3 ≤ x0) (h3 : 0 ≤ x1) (h4 : 0 ≤ x4) (h5 : ¬ x3 ≤ x4) : sv_R (x2 + x4) := by omega
theorem la_flow_58 {x0 x1 x2 x3 x4 x5 x6 : Int} (h0 : x0 ≤ 400) (h1 : x1 + x2 ≤ 635000) (h2 : x3 = 647340) (h3 : x4 = x0) (h4 : 465000 ≤ x5) (h5 : x5 + x4 ≤ x1) (h6 : 0 ≤ x2) (h7 : 0 ≤ x6) (h8 : ¬ x4 ≤ x6) : 0 ≤ x3 + x6 ∧ x3 + x6 < 647800 ∧ 0 ≤ x5 + x6 ∧ x5 + x6 < 647800 := by omega
theorem la_flow_59 {x0 x1 x2 x3 x4 : Int} (h0 : x0 + x1 ≤ 635000) (h1 : x2 + x3 ≤ x0) (h2 : 0 ≤ x1) (h3 : ¬ x3 ≤ x4) : ¬ 635639 ≤ x2 + x4 := by omega
theorem la_flow_60 {x0 x1 x2 x3 x4 : Int} (h0 : x0 + x1 ≤ 635000) (h1 : x2 + x3 ≤ x0) (h2 : 0 ≤ x1) (h3 : ¬ x3 ≤ x4) : x2 + x4 < 635639 := by omega
theorem la_flow_61 {x0 x1 : Int} (h0 : x0 ≤ 11557) (h1 : 0 ≤ x1) (h2 : ¬ x0 ≤ x1) : sv_R (x1 + 1) := by omega
theorem la_flow_62 {x0 x1 : Int} (h0 : x0 ≤ 11557) (h1 : 0 ≤ x1) (h2 : ¬ x0 ≤ x1) : sv_R (635640 + x1) := by omega
theorem la_flow_63 {x0 x1 x2 : Int} (h0 : 0 ≤ x0) (h1 : x0 + x1 ≤ 464520) (h2 : 0 ≤ x2) (h3 : ¬ x1 ≤ x2) : sv_R (x0 + x2) := by omega
theorem la_flow_64 {x0 x1 x2 : Int} (h0 : x0 ≤ 11557) (h1 : 0 ≤ x1) (h2 : x1 + x0 ≤ 464520) (h3 : 0 ≤ x2) (h4 : ¬ x0 ≤ x2) : 0 ≤ 635640 + x2 ∧ 635640 + x2 < 647800 ∧ 0 ≤ x1 + x2 ∧ x1 + x2 < 647800 := by omega
theorem la_flow_65 {x0 x1 x2 : Int} (h0 : x0 + x1 ≤ 464520) (h1 : ¬ x1 ≤ x2) : ¬ 635639 ≤ x0 + x2 := by omega
theorem la_flow_66 {x0 x1 x2 : Int} (h0 : x0 + x1 ≤ 464520) (h1 : ¬ x1 ≤ x2) : x0 + x2 < 635639 := by omega
theorem la_flow_67 {x0 x1 x2 x3 x4 x5 x6 x7 x8 x9 x10 : Int} (h0 : x0 + x1 + x2 + x3 + x4 ≤ x5 + x6 + x7 + x8) (h1 : x9 + x10 ≤ x1) (h2 : x10 = 0) (h3 : 0 < x4) : x0 + x9 + x2 + x3 + 1 ≤ x5 + x6 + x7 + x8 := by omega
theorem la_flow_68 {x0 : Int} (h0 : x0 = 0) : ¬ x0 = 1 := by omega
theorem la_flow_69 {x0 x1 x2 x3 x4 : Int} (h0 : x0 = 0) : x1 + x2 + x3 + x4 + x0 ≤ x1 + x2 + x3 + x4 := by omega
theorem la_flow_70 {x0 x1 x2 x3 x4 : Int} (h0 : 465000 ≤ x0) (h1 : x0 + x1 ≤ 635000) (h2 : 0 ≤ x2) (h3 : x2 ≤ 400) (h4 : 0 ≤ x1) (h5 : x3 = x4) (h6 : x3 = x2) : sv_R (x0 + x4) := by omega
theorem la_flow_71 {x0 x1 x2 : Int} (h0 : x0 < x1) (h1 : x2 = x1 - x0) : 0 ≤ x2 := by omega
theorem la_flow_72 {x0 : Int} (h0 : x0 = 0) : 0 ≤ x0 := by omega
theorem la_flow_73 {x0 x1 : Int} (h0 : 0 ≤ x0) (h1 : x1 = x0) : 0 ≤ x1 := by omega
theorem la_flow_74 {x0 x1 x2 x3 : Int} (h0 : x0 ≤ x1) (h1 : x1 = x2) (h2 : x1 = x3) (h3 : x3 ≤ x0) : x2 = x0 := by omega
theorem la_flow_75 {x0 x1 : Int} (h0 : x0 + 2 * x1 ≤ 500) : x0 + 2 * x1 ≤ 639 := by omega
theorem la_flow_76 : (1 : Int) = 1 := by omega
theorem la_flow_77 {x0 : Int} (h0 : 0 ≤ x0) (h1 : x0 ≤ 40) : 0 ≤ x0 ∧ x0 ≤ 40 := by omega
theorem la_flow_78 {x0 x1 x2 x3 : Int} (h0 : x0 = x1) (h1 : x0 = x2) : x3 + x1 = x3 + x2 := by omega
theorem la_flow_79 {x0 x1 x2 x3 : Int} (h0 : 465000 ≤ x0) (h1 : 0 ≤ x1) (h2 : x2 = x3) (h3 : x2 = x1) : 465000 ≤ x0 + x3 := by omega
theorem la_flow_80 {x0 x1 x2 x3 x4 x5 x6 : Int} (h0 : x0 + x1 ≤ 635000) (h1 : x2 = x3) (h2 : x4 = x1 - x3) (h3 : x5 = x6) (h4 : x5 = x2) : x0 + x6 + x4 ≤ 635000 := by omega
theorem la_flow_81 {x0 x1 x2 : Int} (h0 : x0 + 2 * x1 ≤ 500) (h1 : x2 < x0 + 2 * x1) : ¬ 639 = x2 := by omega
theorem la_flow_82 {x0 x1 : Int} (h0 : x0 = 647340) (h1 : x1 = x0) : x1 = 647340 := by omega
theorem la_flow_83 {x0 x1 x2 : Int} (h0 : x0 + 2 * x1 ≤ 500) (h1 : x2 < x0 + 2 * x1) : 25560 + 40 ≤ 40 * x2 ∨ 40 * x2 + 40 ≤ 25560 := by omega
theorem la_flow_84 {x0 x1 : Int} (h0 : x0 ≤ 40) (h1 : x0 = x1) : x1 ≤ 40 := by omega
theorem la_flow_85 {x0 x1 : Int} (h0 : x0 = 1) (h1 : x1 = x0) : x1 = 1 := by omega
theorem la_flow_86 {x0 x1 x2 x3 x4 x5 x6 x7 x8 : Int} (h0 : 0 ≤ x0) (h1 : x1 = 1) (h2 : x2 = x3 - 100000000) (h3 : x4 ≤ 3870000) (h4 : x5 ≤ 88989600) (h5 : x6 ≤ 81792) (h6 : 0 ≤ x7) (h7 : 0 ≤ x8) : x2 + x5 + x4 + x6 + x1 ≤ x3 + x8 + x0 + x7 := by omega
theorem la_flow_87 {x0 x1 x2 x3 : Int} (h0 : x0 ≤ 40) (h1 : 0 ≤ x1) (h2 : x2 = x0) (h3 : x2 = x3) (h4 : ¬ x3 ≤ x1) : 0 ≤ 25560 + x1 ∧ 25560 + x1 < 25600 := by omega
theorem la_flow_88 {x0 x1 x2 x3 x4 x5 : Int} (h0 : x0 + 2 * x1 ≤ 500) (h1 : x2 ≤ 40) (h2 : 0 ≤ x3) (h3 : x3 < x0 + 2 * x1) (h4 : 0 ≤ x4) (h5 : x4 ≤ x5) (h6 : x5 = x2) : 0 ≤ 40 * x3 + x4 ∧ 40 * x3 + x4 < 25600 := by omega
theorem la_flow_89 {x0 x1 x2 : Int} (h0 : x0 ≤ 40) (h1 : 0 ≤ x1) (h2 : x1 ≤ x2) (h3 : x2 = x0) : sv_R (x1 + 1) := by omega
theorem la_flow_90 {x0 x1 x2 : Int} (h0 : x0 = x1) (h1 : ¬ x1 ≤ x2) : x2 + 1 ≤ x0 := by omega
theorem la_flow_91 {x0 x1 x2 x3 : Int} (h0 : x0 ≤ 40) (h1 : x1 = x0) (h2 : x1 = x2) (h3 : ¬ x2 ≤ x3) : x3 < 40 := by omega
theorem la_flow_92 {x0 x1 x2 x3 x4 x5 x6 x7 : Int} (h0 : 465000 ≤ x0) (h1 : x0 + x1 ≤ 635000) (h2 : x2 ≤ 400) (h3 : 0 ≤ x1) (h4 : x3 = x2) (h5 : 0 ≤ x4) (h6 : x3 = x5) (h7 : ¬ x5 ≤ x4) (h8 : x6 = x7) (h9 : x6 = x0) : sv_R (x7 + x4) := by omega
theorem la_flow_93 {x0 x1 x2 x3 x4 x5 x6 x7 : Int} (h0 : 465000 ≤ x0) (h1 : x0 + x1 ≤ 635000) (h2 : x2 ≤ 400) (h3 : 0 ≤ x1) (h4 : x3 = x2) (h5 : 0 ≤ x4) (h6 : x3 = x5) (h7 : ¬ x5 ≤ x4) (h8 : x6 = x7) (h9 : x6 = x0) : 0 ≤ x7 + x4 ∧ x7 + x4 < 647800 := by omega
theorem la_flow_94 {x0 x1 x2 x3 x4 x5 x6 x7 : Int} (h0 : x0 + x1 ≤ 635000) (h1 : x2 ≤ 400) (h2 : 0 ≤ x1) (h3 : x3 = x2) (h4 : x3 = x4) (h5 : ¬ x4 ≤ x5) (h6 : x6 = x7) (h7 : x6 = x0) : ¬ 635639 ≤ x7 + x5 := by omega
theorem la_flow_95 {x0 x1 : Int} (h0 : 0 ≤ x0) (h1 : sv_R x1) (h2 : ¬ x1 ≤ x0) : sv_R (x0 + 1) := by omega
theorem la_flow_96 {x0 x1 x2 : Int} (h0 : x0 = x1) (h1 : ¬ x1 ≤ x2) : x2 < x0 := by omega
theorem la_flow_97 {x0 x1 x2 x3 : Int} (h0 : x0 = x1 - x2) (h1 : x3 = x1 - (x2 + 1)) : x3 < x0 := by omega
theorem la_flow_98 {x0 x1 x2 x3 x4 : Int} (h0 : x0 = x1) (h1 : ¬ x1 ≤ x2) (h2 : x3 = x0 - x2) (h3 : x4 = 0) : x4 < x3 := by omega
theorem la_flow_99 {x0 : Int} (h0 : 0 ≤ x0) (h1 : x0 ≤ 1) : ¬ x0 = 0 → ((0 : Int) = 0 ∨ (0 : Int) = 1) ∧ ((0 : Int) = 1 → x0 = 0) ∧ ((0 : Int) = 0 → x0 = 1) := by omega
theorem la_flow_100 {x0 : Int} (h0 : 0 ≤ x0) (h1 : ¬ ¬ x0 = 0) : (1 : Int) = 1 → x0 = 0 := by omega
theorem la_flow_101 {x0 : Int} (h0 : (1 : Int) = 0) : x0 = 1 := by omega
set_option maxHeartbeats 2000000 in
theorem f_flow : ∀ (p1 : Int) (S : sv_S), sm_ok S → sv_R p1 → (29 ≤ (S 1071 0) ∧ (S 1071 0) ≤ 127 ∧ 31 ≤ (S 1008 0) ∧ (S 1008 0) ≤ 90 ∧ 1 ≤ (S 1032 0) ∧ (S 1032 0) ≤ 11 ∧ 0 ≤ (S 1055 0) ∧ (S 1055 0) ≤ 19 ∧ (S 1071 0) = 29 + 6 * ((S 1032 0) - 1) + 2 * (S 1055 0) ∧ 0 ≤ (S 1046 0) ∧ (S 1046 0) + 2 * (S 1032 0) ≤ 500 ∧ sm_PD (S 1046 0) (S 1032 0) (S 1071 0) (S 1008 0) ∧ 0 ≤ (S 1071 0) * ((S 1008 0) + 1) ∧ (S 1071 0) * ((S 1008 0) + 1) ≤ 11557 ∧ 31 ≤ (S 1007 0) ∧ (S 1007 0) ≤ 400 ∧ sm_LN (S 4) 400 (S 1007 0) ∧ (S 75 639) = 647340 ∧ sm_ST (S 71) (S 74) (S 75) (S 78) (S 79) (S 80) (S 27) (S 1100007) (S 1100023) (S 1100024) (S 1046 0) ((S 1046 0) + 2 * (S 1032 0)) (S 1127 0) ∧ 465000 ≤ (S 1127 0) ∧ (S 1127 0) + sm_hs (S 71) (S 1100007) ≤ 635000 ∧ sm_NH (S 1100007) ∧ sm_CT (S 26) (S 27) (S 28) (S 29) (S 1100007) (S 1100023) (S 1100024) (S 1100025) (S 21) (S 1046 0) (S 1032 0) (S 1008 0) (S 1055 0) ∧ (∀ k : Int, (S 1046 0) ≤ k → k < ((S 1046 0) + 2 * (S 1032 0)) → (S 1100007 k) = 1) ∧ sm_DR (S 72) (S 71) (S 1046 0) ∧ 0 ≤ (S 74 639) ∧ (S 74 639) ≤ 400 ∧ 0 ≤ (S 78 639) ∧ (S 78 639) ≤ 40 ∧ (S 78 639) = sm_dp (S 1100024) (S 1100031 0) ∧ -1 ≤ (S 1100031 0) ∧ (S 1100031 0) < (S 1046 0) ∧ (0 ≤ (S 1100031 0) → (S 26 (S 1100031 0)) = 27) ∧ sm_TC (S 79) (S 80) (S 27) (S 1100007) (S 1100023) (S 1100024) 25560 (S 1100031 0) ∧ 0 ≤ p1 ∧ p1 < ((S 1046 0) + 2 * (S 1032 0)) ∧ (S 74 639) = (S 1100007 p1) ∧ (p1 < (S 1046 0) → (S 1100023 p1) = (S 1100031 0))) → ((sm_NH (S 1100007) → 0 ≤ p1 → p1 < 640 → 0 ≤ (S 1100007 p1) ∧ (S 1100007 p1) ≤ 400) → ((sm_NH (S 1100007) → 0 ≤ sm_hs (S 71) (S 1100007)) → ((0 ≤ sm_pl (S 81) (S 82) (S 83) (S 84) (S 85) (S 86) ∧ sm_pl (S 81) (S 82) (S 83) (S 84) (S 85) (S 86) ≤ 3870000) → ((0 ≤ sm_du (S 72) ∧ sm_du (S 72) ≤ 640) → ((∀ s5 : Int, sv_R s5 → ((s5 = 0 ∨ s5 = 1) ∧ (s5 = 1 → (S 71 p1) = 0) ∧ (s5 = 0 → (S 71 p1) = 1)) → ((∀ g7 : sv_S, (sm_ST (g7 71) (g7 74) (g7 75) (g7 78) (g7 79) (g7 80) (S 27) (S 1100007) (S 1100023) (S 1100024) (S 1046 0) ((S 1046 0) + 2 * (S 1032 0)) (g7 1127 0) ∧ 465000 ≤ (g7 1127 0) ∧ (g7 1127 0) + sm_hs (g7 71) (S 1100007) ≤ 635000 ∧ (g7 75 639) = 647340 ∧ (g7 74 639) = (S 74 639) ∧ (g7 78 639) = (S 78 639) ∧ sm_TC (g7 79) (g7 80) (S 27) (S 1100007) (S 1100023) (S 1100024) 25560 (S 1100031 0) ∧ (∀ k : Int, (S 71 k) = 1 → (g7 71 k) = 1) ∧ sm_DR (S 72) (g7 71) (S 1046 0) ∧ (g7 71 p1) = 1 ∧ (sm_cm (g7 71) + sm_pt (g7 68) (g7 69) (g7 70) + sm_pl (g7 81) (g7 82) (g7 83) (g7 84) (g7 85) (g7 86) + sm_ps (g7 76) (g7 77)) + s5 ≤ (sm_cm (S 71) + sm_pt (S 68) (S 69) (S 70) + sm_pl (S 81) (S 82) (S 83) (S 84) (S 85) (S 86) + sm_ps (S 76) (S 77))) → (29 ≤ (S 1071 0) ∧ (S 1071 0) ≤ 127 ∧ 31 ≤ (S 1008 0) ∧ (S 1008 0) ≤ 90 ∧ 1 ≤ (S 1032 0) ∧ (S 1032 0) ≤ 11 ∧ 0 ≤ (S 1055 0) ∧ (S 1055 0) ≤ 19 ∧ (S 1071 0) = 29 + 6 * ((S 1032 0) - 1) + 2 * (S 1055 0) ∧ 0 ≤ (S 1046 0) ∧ (S 1046 0) + 2 * (S 1032 0) ≤ 500 ∧ sm_PD (S 1046 0) (S 1032 0) (S 1071 0) (S 1008 0) ∧ 0 ≤ (S 1071 0) * ((S 1008 0) + 1) ∧ (S 1071 0) * ((S 1008 0) + 1) ≤ 11557 ∧ 0 ≤ p1 ∧ (p1 = 639 ∨ p1 < (S 1046 0) + 2 * (S 1032 0))) ∧ (∀ r17 : Int, sv_R r17 → ((p1 = 639 → r17 = 635640) ∧ (¬ p1 = 639 → 0 ≤ r17 ∧ r17 + (S 1071 0) * ((S 1008 0) + 1) ≤ 464520)) → ((sm_ST (g7 71) (g7 74) (g7 75) (g7 78) (g7 79) (g7 80) (S 27) (S 1100007) (S 1100023) (S 1100024) (S 1046 0) ((S 1046 0) + 2 * (S 1032 0)) (g7 1127 0) → 0 ≤ p1 → p1 < ((S 1046 0) + 2 * (S 1032 0)) → (g7 71 p1) = 1 → (g7 74 p1) = (S 1100007 p1) ∧ 465000 ≤ (g7 75 p1) ∧ (g7 75 p1) + (g7 74 p1) ≤ (g7 1127 0) ∧ 0 ≤ (g7 78 p1) ∧ (g7 78 p1) ≤ 40) → ((sm_NH (S 1100007) → 0 ≤ sm_hs (g7 71) (S 1100007)) → (((s5 = 0 ∨ s5 = 1) ∧ 0 ≤ (0 : Int) ∧ (0 : Int) ≤ (S 1071 0) * ((S 1008 0) + 1) ∧ (sm_cm (g7 71) + sm_pt (g7 68) (g7 69) (g7 70) + sm_pl (g7 81) (g7 82) (g7 83) (g7 84) (g7 85) (g7 86) + sm_ps (g7 76) (g7 77)) + s5 ≤ (sm_cm (S 71) + sm_pt (S 68) (S 69) (S 70) + sm_pl (S 81) (S 82) (S 83) (S 84) (S 85) (S 86) + sm_ps (S 76) (S 77))) ∧ (∀ l2_21 : Int, sv_R l2_21 → ∀ l4_22 : Int, sv_R l4_22 → ∀ g20 : sv_S, ((l2_21 = 0 ∨ l2_21 = 1) ∧ 0 ≤ l4_22 ∧ l4_22 ≤ (S 1071 0) * ((S 1008 0) + 1) ∧ (sm_cm (g7 71) + sm_pt (g20 68) (g20 69) (g20 70) + sm_pl (g7 81) (g7 82) (g7 83) (g7 84) (g7 85) (g7 86) + sm_ps (g7 76) (g7 77)) + l2_21 ≤ (sm_cm (S 71) + sm_pt (S 68) (S 69) (S 70) + sm_pl (S 81) (S 82) (S 83) (S 84) (S 85) (S 86) + sm_ps (S 76) (S 77))) → (0 ≤ (S 1071 0) * ((S 1008 0) + 1) - l4_22) ∧ (sv_R (S 1071 0) → (sv_R (S 1008 0) → (sv_R ((S 1071 0) * ((S 1008 0) + (1 : Int)))) ∧ (((((S 1071 0) * ((S 1008 0) + (1 : Int))) ≤ l4_22) → (((l2_21 = 0 ∨ l2_21 = 1) ∧ 0 ≤ (0 : Int) ∧ (0 : Int) ≤ (g7 74 p1) ∧ (sm_cm (g7 71) + sm_pt (g20 68) (g20 69) (g20 70) + sm_pl (g7 81) (g7 82) (g7 83) (g7 84) (g7 85) (g7 86) + sm_ps (g7 76) (g7 77)) + l2_21 ≤ (sm_cm (S 71) + sm_pt (S 68) (S 69) (S 70) + sm_pl (S 81) (S 82) (S 83) (S 84) (S 85) (S 86) + sm_ps (S 76) (S 77))) ∧ (∀ l2_32 : Int, sv_R l2_32 → ∀ l4_33 : Int, sv_R l4_33 → ∀ g31 : sv_S, ((l2_32 = 0 ∨ l2_32 = 1) ∧ 0 ≤ l4_33 ∧ l4_33 ≤ (g7 74 p1) ∧ (sm_cm (g7 71) + sm_pt (g31 68) (g31 69) (g31 70) + sm_pl (g7 81) (g7 82) (g7 83) (g7 84) (g7 85) (g7 86) + sm_ps (g7 76) (g7 77)) + l2_32 ≤ (sm_cm (S 71) + sm_pt (S 68) (S 69) (S 70) + sm_pl (S 81) (S 82) (S 83) (S 84) (S 85) (S 86) + sm_ps (S 76) (S 77))) → (0 ≤ (g7 74 p1) - l4_33) ∧ (0 ≤ p1 ∧ p1 < 640) ∧ (sv_R (g7 74 p1) → ((((g7 74 p1) ≤ l4_33) → ((∀ s43 : Int, sv_R s43 → ∀ g42 : sv_S, ((s43 = 0 ∨ s43 = 1) ∧ (sm_cm (g7 71) + sm_pt (g42 68) (g42 69) (g42 70) + sm_pl (g7 81) (g7 82) (g7 83) (g7 84) (g7 85) (g7 86) + sm_ps (g7 76) (g7 77)) + s43 ≤ (sm_cm (S 71) + sm_pt (S 68) (S 69) (S 70) + sm_pl (S 81) (S 82) (S 83) (S 84) (S 85) (S 86) + sm_ps (S 76) (S 77))) → ((∀ s50 : Int, sv_R s50 → ((s50 = 0 ∨ s50 = 1) ∧ (s50 = 1 → s43 = 1 ∨ ¬ sm_land (g7 76 639) (sm_lxor (g7 76 p1) (-1)) = 0 ∨ ¬ sm_land (g7 77 639) (sm_lxor (g7 77 p1) (-1)) = 0)) → ((sv_RL (g7 76 p1) → sv_RL (g7 77 p1) → sm_rq (g7 76 p1) (g7 77 p1) ≤ sm_rq (sm_lor (g7 76 p1) (g7 76 639)) (sm_lor (g7 77 p1) (g7 77 639))) → ((sv_RL (g7 76 p1) → sv_RL (g7 77 p1) → (¬ sm_land (g7 76 639) (sm_lxor (g7 76 p1) (-1)) = 0 ∨ ¬ sm_land (g7 77 639) (sm_lxor (g7 77 p1) (-1)) = 0) → sm_rq (g7 76 p1) (g7 77 p1) + 1 ≤ sm_rq (sm_lor (g7 76 p1) (g7 76 639)) (sm_lor (g7 77 p1) (g7 77 639))) → (sv_RL (g7 76 p1) → (0 ≤ (639 : Int) ∧ (639 : Int) < 640) ∧ (sv_RL (g7 76 (639 : Int)) → (sv_RL (sm_lor (g7 76 p1) (g7 76 (639 : Int))) → (sv_RL (g7 77 p1) → (sv_RL (g7 77 (639 : Int)) → (sv_RL (sm_lor (g7 77 p1) (g7 77 (639 : Int))) → (((s50 = 0 ∨ s50 = 1) ∧ 0 ≤ (0 : Int) ∧ (0 : Int) ≤ (S 1071 0) ∧ (sm_cm (g7 71) + sm_pt (g42 68) (g42 69) (g42 70) + sm_pl (g7 81) (g7 82) (g7 83) (g7 84) (g7 85) (g7 86) + sm_ps (fun i' : Int => if i' = p1 then (sm_lor (g7 76 p1) (g7 76 (639 : Int))) else (g7 76) i') (fun i' : Int => if i' = p1 then (sm_lor (g7 77 p1) (g7 77 (639 : Int))) else (g7 77) i')) + s50 ≤ (sm_cm (S 71) + sm_pt (S 68) (S 69) (S 70) + sm_pl (S 81) (S 82) (S 83) (S 84) (S 85) (S 86) + sm_ps (S 76) (S 77))) ∧ (∀ l2_68 : Int, sv_R l2_68 → ∀ l4_69 : Int, sv_R l4_69 → ∀ g67 : sv_S, ((l2_68 = 0 ∨ l2_68 = 1) ∧ 0 ≤ l4_69 ∧ l4_69 ≤ (S 1071 0) ∧ (sm_cm (g7 71) + sm_pt (g42 68) (g42 69) (g42 70) + sm_pl (g67 81) (g67 82) (g67 83) (g67 84) (g67 85) (g67 86) + sm_ps (fun i' : Int => if i' = p1 then (sm_lor (g7 76 p1) (g7 76 (639 : Int))) else (g7 76) i') (fun i' : Int => if i' = p1 then (sm_lor (g7 77 p1) (g7 77 (639 : Int))) else (g7 77) i')) + l2_68 ≤ (sm_cm (S 71) + sm_pt (S 68) (S 69) (S 70) + sm_pl (S 81) (S 82) (S 83) (S 84) (S 85) (S 86) + sm_ps (S 76) (S 77))) → (0 ≤ (S 1071 0) - l4_69) ∧ ((((S 1071 0) ≤ l4_69) → (((¬ l2_68 = (0 : Int)) → ((0 ≤ sm_du (S 72) ∧ sm_du (S 72) ≤ 640) → (sv_R (S 1046 0) → ((((S 1046 0) ≤ p1) → ((0 ≤ sm_du (S 72) ∧ sm_du (S 72) ≤ 640) → ((0 ≤ (0 : Int) ∧ (0 : Int) ≤ (S 1046 0) ∧ sm_DR (S 72) (g7 71) (S 1046 0)) ∧ (∀ l4_79 : Int, sv_R l4_79 → ∀ g78 : sv_S, (0 ≤ l4_79 ∧ l4_79 ≤ (S 1046 0) ∧ sm_DR (g78 72) (g7 71) (S 1046 0)) → (0 ≤ (S 1046 0) - l4_79) ∧ ((((S 1046 0) ≤ l4_79) → ((0 ≤ sm_du (g78 72) ∧ sm_du (g78 72) ≤ 640) → (sm_ST (g7 71) (g7 74) (g7 75) (g7 78) (g7 79) (g7 80) (S 27) (S 1100007) (S 1100023) (S 1100024) (S 1046 0) ((S 1046 0) + 2 * (S 1032 0)) (g7 1127 0) ∧ 465000 ≤ (g7 1127 0) ∧ (g7 1127 0) + sm_hs (g7 71) (S 1100007) ≤ 635000 ∧ (g7 75 639) = 647340 ∧ (g7 74 639) = (S 74 639) ∧ (g7 78 639) = (S 78 639) ∧ sm_TC (g7 79) (g7 80) (S 27) (S 1100007) (S 1100023) (S 1100024) 25560 (S 1100031 0) ∧ (∀ k : Int, (S 71 k) = 1 → (g7 71 k) = 1) ∧ sm_DR (g78 72) (g7 71) (S 1046 0) ∧ (641 * (sm_cm (g7 71) + sm_pt (g42 68) (g42 69) (g42 70) + sm_pl (g67 81) (g67 82) (g67 83) (g67 84) (g67 85) (g67 86) + sm_ps (fun i' : Int => if i' = p1 then (sm_lor (g7 76 p1) (g7 76 (639 : Int))) else (g7 76) i') (fun i' : Int => if i' = p1 then (sm_lor (g7 77 p1) (g7 77 (639 : Int))) else (g7 77) i')) + sm_du (g78 72)) ≤ (641 * (sm_cm (S 71) + sm_pt (S 68) (S 69) (S 70) + sm_pl (S 81) (S 82) (S 83) (S 84) (S 85) (S 86) + sm_ps (S 76) (S 77)) + sm_du (S 72)) ∧ (g7 71 p1) = 1))) ∧ ((¬ ((S 1046 0) ≤ l4_79)) → (0 ≤ l4_79 ∧ l4_79 < 640) ∧ ((0 ≤ (g78 72 l4_79) ∧ (g78 72 l4_79) ≤ 1) → (((¬ (g78 72 l4_79) = (0 : Int)) → ((0 ≤ sm_du (fun i' : Int => if i' = l4_79 then (1 : Int) else (g78 72) i') ∧ sm_du (fun i' : Int => if i' = l4_79 then (1 : Int) else (g78 72) i') ≤ 640) → (sv_R (l4_79 + (1 : Int))) ∧ ((0 ≤ (l4_79 + (1 : Int)) ∧ (l4_79 + (1 : Int)) ≤ (S 1046 0) ∧ sm_DR (fun i' : Int => if i' = l4_79 then (1 : Int) else (g78 72) i') (g7 71) (S 1046 0)) ∧ ((S 1046 0) - (l4_79 + (1 : Int))) < ((S 1046 0) - l4_79)))) ∧ ((¬ (¬ (g78 72 l4_79) = (0 : Int))) → ((0 ≤ (g7 71 l4_79) ∧ (g7 71 l4_79) ≤ 1) → ((((g7 71 l4_79) = (0 : Int)) → ((0 ≤ sm_du (fun i' : Int => if i' = l4_79 then (0 : Int) else (g78 72) i') ∧ sm_du (fun i' : Int => if i' = l4_79 then (0 : Int) else (g78 72) i') ≤ 640) → (sv_R (l4_79 + (1 : Int))) ∧ ((0 ≤ (l4_79 + (1 : Int)) ∧ (l4_79 + (1 : Int)) ≤ (S 1046 0) ∧ sm_DR (fun i' : Int => if i' = l4_79 then (0 : Int) else (g78 72) i') (g7 71) (S 1046 0)) ∧ ((S 1046 0) - (l4_79 + (1 : Int))) < ((S 1046 0) - l4_79)))) ∧ ((¬ ((g7 71 l4_79) = (0 : Int))) → (0 ≤ l4_79 ∧ l4_79 < 600) ∧ (sv_R (S 26 l4_79) → ((((S 26 l4_79) = (15 : Int)) → ((0 ≤ sm_du (fun i' : Int => if i' = l4_79 then (1 : Int) else (g78 72) i') ∧ sm_du (fun i' : Int => if i' = l4_79 then (1 : Int) else (g78 72) i') ≤ 640) → (sv_R (l4_79 + (1 : Int))) ∧ ((0 ≤ (l4_79 + (1 : Int)) ∧ (l4_79 + (1 : Int)) ≤ (S 1046 0) ∧ sm_DR (fun i' : Int => if i' = l4_79 then (1 : Int) else (g78 72) i') (g7 71) (S 1046 0)) ∧ ((S 1046 0) - (l4_79 + (1 : Int))) < ((S 1046 0) - l4_79)))) ∧ ((¬ ((S 26 l4_79) = (15 : Int))) → (((¬ (S 26 l4_79) = (16 : Int)) → ((0 ≤ sm_du (fun i' : Int => if i' = l4_79 then (0 : Int) else (g78 72) i') ∧ sm_du (fun i' : Int => if i' = l4_79 then (0 : Int) else (g78 72) i') ≤ 640) → (sv_R (l4_79 + (1 : Int))) ∧ ((0 ≤ (l4_79 + (1 : Int)) ∧ (l4_79 + (1 : Int)) ≤ (S 1046 0) ∧ sm_DR (fun i' : Int => if i' = l4_79 then (0 : Int) else (g78 72) i') (g7 71) (S 1046 0)) ∧ ((S 1046 0) - (l4_79 + (1 : Int))) < ((S 1046 0) - l4_79)))) ∧ ((¬ (¬ (S 26 l4_79) = (16 : Int))) → ((0 ≤ sm_du (fun i' : Int => if i' = l4_79 then (1 : Int) else (g78 72) i') ∧ sm_du (fun i' : Int => if i' = l4_79 then (1 : Int) else (g78 72) i') ≤ 640) → (sv_R (l4_79 + (1 : Int))) ∧ ((0 ≤ (l4_79 + (1 : Int)) ∧ (l4_79 + (1 : Int)) ≤ (S 1046 0) ∧ sm_DR (fun i' : Int => if i' = l4_79 then (1 : Int) else (g78 72) i') (g7 71) (S 1046 0)) ∧ ((S 1046 0) - (l4_79 + (1 : Int))) < ((S 1046 0) - l4_79)))))))))))))))))))) ∧ ((¬ ((S 1046 0) ≤ p1)) → ((0 ≤ sm_du (fun i' : Int => if i' = p1 then 1 else (S 72) i') ∧ sm_du (fun i' : Int => if i' = p1 then 1 else (S 72) i') ≤ 640) → ((0 ≤ sm_du (fun i' : Int => if i' = p1 then (1 : Int) else (S 72) i') ∧ sm_du (fun i' : Int => if i' = p1 then (1 : Int) else (S 72) i') ≤ 640) → (sm_ST (g7 71) (g7 74) (g7 75) (g7 78) (g7 79) (g7 80) (S 27) (S 1100007) (S 1100023) (S 1100024) (S 1046 0) ((S 1046 0) + 2 * (S 1032 0)) (g7 1127 0) ∧ 465000 ≤ (g7 1127 0) ∧ (g7 1127 0) + sm_hs (g7 71) (S 1100007) ≤ 635000 ∧ (g7 75 639) = 647340 ∧ (g7 74 639) = (S 74 639) ∧ (g7 78 639) = (S 78 639) ∧ sm_TC (g7 79) (g7 80) (S 27) (S 1100007) (S 1100023) (S 1100024) 25560 (S 1100031 0) ∧ (∀ k : Int, (S 71 k) = 1 → (g7 71 k) = 1) ∧ sm_DR (fun i' : Int => if i' = p1 then (1 : Int) else (S 72) i') (g7 71) (S 1046 0) ∧ (641 * (sm_cm (g7 71) + sm_pt (g42 68) (g42 69) (g42 70) + sm_pl (g67 81) (g67 82) (g67 83) (g67 84) (g67 85) (g67 86) + sm_ps (fun i' : Int => if i' = p1 then (sm_lor (g7 76 p1) (g7 76 (639 : Int))) else (g7 76) i') (fun i' : Int => if i' = p1 then (sm_lor (g7 77 p1) (g7 77 (639 : Int))) else (g7 77) i')) + sm_du (fun i' : Int => if i' = p1 then (1 : Int) else (S 72) i')) ≤ (641 * (sm_cm (S 71) + sm_pt (S 68) (S 69) (S 70) + sm_pl (S 81) (S 82) (S 83) (S 84) (S 85) (S 86) + sm_ps (S 76) (S 77)) + sm_du (S 72)) ∧ (g7 71 p1) = 1)))))))) ∧ ((¬ (¬ l2_68 = (0 : Int))) → (sm_ST (g7 71) (g7 74) (g7 75) (g7 78) (g7 79) (g7 80) (S 27) (S 1100007) (S 1100023) (S 1100024) (S 1046 0) ((S 1046 0) + 2 * (S 1032 0)) (g7 1127 0) ∧ 465000 ≤ (g7 1127 0) ∧ (g7 1127 0) + sm_hs (g7 71) (S 1100007) ≤ 635000 ∧ (g7 75 639) = 647340 ∧ (g7 74 639) = (S 74 639) ∧ (g7 78 639) = (S 78 639) ∧ sm_TC (g7 79) (g7 80) (S 27) (S 1100007) (S 1100023) (S 1100024) 25560 (S 1100031 0) ∧ (∀ k : Int, (S 71 k) = 1 → (g7 71 k) = 1) ∧ sm_DR (S 72) (g7 71) (S 1046 0) ∧ (641 * (sm_cm (g7 71) + sm_pt (g42 68) (g42 69) (g42 70) + sm_pl (g67 81) (g67 82) (g67 83) (g67 84) (g67 85) (g67 86) + sm_ps (fun i' : Int => if i' = p1 then (sm_lor (g7 76 p1) (g7 76 (639 : Int))) else (g7 76) i') (fun i' : Int => if i' = p1 then (sm_lor (g7 77 p1) (g7 77 (639 : Int))) else (g7 77) i')) + sm_du (S 72)) ≤ (641 * (sm_cm (S 71) + sm_pt (S 68) (S 69) (S 70) + sm_pl (S 81) (S 82) (S 83) (S 84) (S 85) (S 86) + sm_ps (S 76) (S 77)) + sm_du (S 72)) ∧ (g7 71 p1) = 1)))) ∧ ((¬ ((S 1071 0) ≤ l4_69)) → ((∀ s121 : Int, sv_R s121 → ∀ g120 : sv_S, ((s121 = 0 ∨ s121 = 1) ∧ (sm_cm (g7 71) + sm_pt (g42 68) (g42 69) (g42 70) + sm_pl (g120 81) (g120 82) (g120 83) (g120 84) (g120 85) (g120 86) + sm_ps (fun i' : Int => if i' = p1 then (sm_lor (g7 76 p1) (g7 76 (639 : Int))) else (g7 76) i') (fun i' : Int => if i' = p1 then (sm_lor (g7 77 p1) (g7 77 (639 : Int))) else (g7 77) i')) + s121 ≤ (sm_cm (S 71) + sm_pt (S 68) (S 69) (S 70) + sm_pl (S 81) (S 82) (S 83) (S 84) (S 85) (S 86) + sm_ps (S 76) (S 77))) → (sv_R (l4_69 + (1 : Int))) ∧ (((s121 = 0 ∨ s121 = 1) ∧ 0 ≤ (l4_69 + (1 : Int)) ∧ (l4_69 + (1 : Int)) ≤ (S 1071 0) ∧ (sm_cm (g7 71) + sm_pt (g42 68) (g42 69) (g42 70) + sm_pl (g120 81) (g120 82) (g120 83) (g120 84) (g120 85) (g120 86) + sm_ps (fun i' : Int => if i' = p1 then (sm_lor (g7 76 p1) (g7 76 (639 : Int))) else (g7 76) i') (fun i' : Int => if i' = p1 then (sm_lor (g7 77 p1) (g7 77 (639 : Int))) else (g7 77) i')) + s121 ≤ (sm_cm (S 71) + sm_pt (S 68) (S 69) (S 70) + sm_pl (S 81) (S 82) (S 83) (S 84) (S 85) (S 86) + sm_ps (S 76) (S 77))) ∧ ((S 1071 0) - (l4_69 + (1 : Int))) < ((S 1071 0) - l4_69))) ∧ (29 ≤ (S 1071 0) ∧ (S 1071 0) ≤ 127 ∧ 31 ≤ (S 1008 0) ∧ (S 1008 0) ≤ 90 ∧ 1 ≤ (S 1032 0) ∧ (S 1032 0) ≤ 11 ∧ 0 ≤ (S 1055 0) ∧ (S 1055 0) ≤ 19 ∧ (S 1071 0) = 29 + 6 * ((S 1032 0) - 1) + 2 * (S 1055 0) ∧ 0 ≤ (S 1046 0) ∧ (S 1046 0) + 2 * (S 1032 0) ≤ 500 ∧ sm_PD (S 1046 0) (S 1032 0) (S 1071 0) (S 1008 0) ∧ 0 ≤ (S 1071 0) * ((S 1008 0) + 1) ∧ (S 1071 0) * ((S 1008 0) + 1) ≤ 11557 ∧ 0 ≤ (639 : Int) ∧ ((639 : Int) = 639 ∨ (639 : Int) < (S 1046 0) + 2 * (S 1032 0)) ∧ 0 ≤ l4_69 ∧ (l4_69 < (S 1071 0) ∨ ((639 : Int) = 639 ∧ l4_69 < 128))) ∧ (∀ r134 : Int, sv_R r134 → (((639 : Int) = 639 → r134 = 15000 + l4_69) ∧ (¬ (639 : Int) = 639 → 0 ≤ r134 ∧ r134 < 14520)) → (29 ≤ (S 1071 0) ∧ (S 1071 0) ≤ 127 ∧ 31 ≤ (S 1008 0) ∧ (S 1008 0) ≤ 90 ∧ 1 ≤ (S 1032 0) ∧ (S 1032 0) ≤ 11 ∧ 0 ≤ (S 1055 0) ∧ (S 1055 0) ≤ 19 ∧ (S 1071 0) = 29 + 6 * ((S 1032 0) - 1) + 2 * (S 1055 0) ∧ 0 ≤ (S 1046 0) ∧ (S 1046 0) + 2 * (S 1032 0) ≤ 500 ∧ sm_PD (S 1046 0) (S 1032 0) (S 1071 0) (S 1008 0) ∧ 0 ≤ (S 1071 0) * ((S 1008 0) + 1) ∧ (S 1071 0) * ((S 1008 0) + 1) ≤ 11557 ∧ 0 ≤ p1 ∧ (p1 = 639 ∨ p1 < (S 1046 0) + 2 * (S 1032 0)) ∧ 0 ≤ l4_69 ∧ (l4_69 < (S 1071 0) ∨ (p1 = 639 ∧ l4_69 < 128))) ∧ (∀ r140 : Int, sv_R r140 → ((p1 = 639 → r140 = 15000 + l4_69) ∧ (¬ p1 = 639 → 0 ≤ r140 ∧ r140 < 14520)) → (0 ≤ r134 ∧ r134 < 15128 ∧ 0 ≤ r140 ∧ r140 < 15128) ∧ (∀ r146 : Int, sv_R r146 → ∀ g142 : sv_S, ((15000 ≤ r140 → sm_pl (g142 81) (g142 82) (g142 83) (g142 84) (g142 85) (g142 86) = sm_pl (g67 81) (g67 82) (g67 83) (g67 84) (g67 85) (g67 86)) ∧ (r146 = 0 ∨ r146 = 1) ∧ (r140 < 15000 → sm_pl (g142 81) (g142 82) (g142 83) (g142 84) (g142 85) (g142 86) + r146 ≤ sm_pl (g67 81) (g67 82) (g67 83) (g67 84) (g67 85) (g67 86))) → (((¬ r146 = (0 : Int)) → (((1 : Int) = 0 ∨ (1 : Int) = 1) ∧ (sm_cm (g7 71) + sm_pt (g42 68) (g42 69) (g42 70) + sm_pl (g142 81) (g142 82) (g142 83) (g142 84) (g142 85) (g142 86) + sm_ps (fun i' : Int => if i' = p1 then (sm_lor (g7 76 p1) (g7 76 (639 : Int))) else (g7 76) i') (fun i' : Int => if i' = p1 then (sm_lor (g7 77 p1) (g7 77 (639 : Int))) else (g7 77) i')) + (1 : Int) ≤ (sm_cm (S 71) + sm_pt (S 68) (S 69) (S 70) + sm_pl (S 81) (S 82) (S 83) (S 84) (S 85) (S 86) + sm_ps (S 76) (S 77)))) ∧ ((¬ (¬ r146 = (0 : Int))) → (((l2_68 = (0 : Int)) → (((0 : Int) = 0 ∨ (0 : Int) = 1) ∧ (sm_cm (g7 71) + sm_pt (g42 68) (g42 69) (g42 70) + sm_pl (g142 81) (g142 82) (g142 83) (g142 84) (g142 85) (g142 86) + sm_ps (fun i' : Int => if i' = p1 then (sm_lor (g7 76 p1) (g7 76 (639 : Int))) else (g7 76) i') (fun i' : Int => if i' = p1 then (sm_lor (g7 77 p1) (g7 77 (639 : Int))) else (g7 77) i')) + (0 : Int) ≤ (sm_cm (S 71) + sm_pt (S 68) (S 69) (S 70) + sm_pl (S 81) (S 82) (S 83) (S 84) (S 85) (S 86) + sm_ps (S 76) (S 77)))) ∧ ((¬ (l2_68 = (0 : Int))) → (((1 : Int) = 0 ∨ (1 : Int) = 1) ∧ (sm_cm (g7 71) + sm_pt (g42 68) (g42 69) (g42 70) + sm_pl (g142 81) (g142 82) (g142 83) (g142 84) (g142 85) (g142 86) + sm_ps (fun i' : Int => if i' = p1 then (sm_lor (g7 76 p1) (g7 76 (639 : Int))) else (g7 76) i') (fun i' : Int => if i' = p1 then (sm_lor (g7 77 p1) (g7 77 (639 : Int))) else (g7 77) i')) + (1 : Int) ≤ (sm_cm (S 71) + sm_pt (S 68) (S 69) (S 70) + sm_pl (S 81) (S 82) (S 83) (S 84) (S 85) (S 86) + sm_ps (S 76) (S 77)))))))))))))))))))))))) ∧ (((¬ s43 = (0 : Int)) → (((1 : Int) = 0 ∨ (1 : Int) = 1) ∧ ((1 : Int) = 1 → s43 = 1 ∨ ¬ sm_land (g7 76 639) (sm_lxor (g7 76 p1) (-1)) = 0 ∨ ¬ sm_land (g7 77 639) (sm_lxor (g7 77 p1) (-1)) = 0))) ∧ ((¬ (¬ s43 = (0 : Int))) → (0 ≤ (639 : Int) ∧ (639 : Int) < 640) ∧ (sv_RL (g7 76 (639 : Int)) → (sv_RL (g7 76 p1) → (sv_RL (sm_lxor (g7 76 p1) (-1 : Int)) → (sv_RL (sm_land (g7 76 (639 : Int)) (sm_lxor (g7 76 p1) (-1 : Int))) → (((¬ (sm_land (g7 76 (639 : Int)) (sm_lxor (g7 76 p1) (-1 : Int))) = (0 : Int)) → (((1 : Int) = 0 ∨ (1 : Int) = 1) ∧ ((1 : Int) = 1 → s43 = 1 ∨ ¬ sm_land (g7 76 639) (sm_lxor (g7 76 p1) (-1)) = 0 ∨ ¬ sm_land (g7 77 639) (sm_lxor (g7 77 p1) (-1)) = 0))) ∧ ((¬ (¬ (sm_land (g7 76 (639 : Int)) (sm_lxor (g7 76 p1) (-1 : Int))) = (0 : Int))) → (sv_RL (g7 77 (639 : Int)) → (sv_RL (g7 77 p1) → (sv_RL (sm_lxor (g7 77 p1) (-1 : Int)) → (sv_RL (sm_land (g7 77 (639 : Int)) (sm_lxor (g7 77 p1) (-1 : Int))) → ((((sm_land (g7 77 (639 : Int)) (sm_lxor (g7 77 p1) (-1 : Int))) = (0 : Int)) → (((0 : Int) = 0 ∨ (0 : Int) = 1) ∧ ((0 : Int) = 1 → s43 = 1 ∨ ¬ sm_land (g7 76 639) (sm_lxor (g7 76 p1) (-1)) = 0 ∨ ¬ sm_land (g7 77 639) (sm_lxor (g7 77 p1) (-1)) = 0))) ∧ ((¬ ((sm_land (g7 77 (639 : Int)) (sm_lxor (g7 77 p1) (-1 : Int))) = (0 : Int))) → (((1 : Int) = 0 ∨ (1 : Int) = 1) ∧ ((1 : Int) = 1 → s43 = 1 ∨ ¬ sm_land (g7 76 639) (sm_lxor (g7 76 p1) (-1)) = 0 ∨ ¬ sm_land (g7 77 639) (sm_lxor (g7 77 p1) (-1)) = 0)))))))))))))))))) ∧ (sv_R (635000 + (639 : Int))) ∧ (sv_R (635000 + p1)) ∧ (0 ≤ (635000 + (639 : Int)) ∧ (635000 + (639 : Int)) < 647800 ∧ 0 ≤ (635000 + p1) ∧ (635000 + p1) < 647800) ∧ (∀ r172 : Int, sv_R r172 → ∀ g168 : sv_S, ((635639 ≤ (635000 + p1) → sm_pt (g168 68) (g168 69) (g168 70) = sm_pt (g31 68) (g31 69) (g31 70)) ∧ (r172 = 0 ∨ r172 = 1) ∧ ((635000 + p1) < 635639 → sm_pt (g168 68) (g168 69) (g168 70) + r172 ≤ sm_pt (g31 68) (g31 69) (g31 70))) → (((¬ r172 = (0 : Int)) → (((1 : Int) = 0 ∨ (1 : Int) = 1) ∧ (sm_cm (g7 71) + sm_pt (g168 68) (g168 69) (g168 70) + sm_pl (g7 81) (g7 82) (g7 83) (g7 84) (g7 85) (g7 86) + sm_ps (g7 76) (g7 77)) + (1 : Int) ≤ (sm_cm (S 71) + sm_pt (S 68) (S 69) (S 70) + sm_pl (S 81) (S 82) (S 83) (S 84) (S 85) (S 86) + sm_ps (S 76) (S 77)))) ∧ ((¬ (¬ r172 = (0 : Int))) → (((l2_32 = (0 : Int)) → (((0 : Int) = 0 ∨ (0 : Int) = 1) ∧ (sm_cm (g7 71) + sm_pt (g168 68) (g168 69) (g168 70) + sm_pl (g7 81) (g7 82) (g7 83) (g7 84) (g7 85) (g7 86) + sm_ps (g7 76) (g7 77)) + (0 : Int) ≤ (sm_cm (S 71) + sm_pt (S 68) (S 69) (S 70) + sm_pl (S 81) (S 82) (S 83) (S 84) (S 85) (S 86) + sm_ps (S 76) (S 77)))) ∧ ((¬ (l2_32 = (0 : Int))) → (((1 : Int) = 0 ∨ (1 : Int) = 1) ∧ (sm_cm (g7 71) + sm_pt (g168 68) (g168 69) (g168 70) + sm_pl (g7 81) (g7 82) (g7 83) (g7 84) (g7 85) (g7 86) + sm_ps (g7 76) (g7 77)) + (1 : Int) ≤ (sm_cm (S 71) + sm_pt (S 68) (S 69) (S 70) + sm_pl (S 81) (S 82) (S 83) (S 84) (S 85) (S 86) + sm_ps (S 76) (S 77)))))))))) ∧ ((¬ ((g7 74 p1) ≤ l4_33)) → ((∀ s178 : Int, sv_R s178 → ∀ g177 : sv_S, ((s178 = 0 ∨ s178 = 1) ∧ (sm_cm (g7 71) + sm_pt (g177 68) (g177 69) (g177 70) + sm_pl (g7 81) (g7 82) (g7 83) (g7 84) (g7 85) (g7 86) + sm_ps (g7 76) (g7 77)) + s178 ≤ (sm_cm (S 71) + sm_pt (S 68) (S 69) (S 70) + sm_pl (S 81) (S 82) (S 83) (S 84) (S 85) (S 86) + sm_ps (S 76) (S 77))) → (sv_R (l4_33 + (1 : Int))) ∧ (((s178 = 0 ∨ s178 = 1) ∧ 0 ≤ (l4_33 + (1 : Int)) ∧ (l4_33 + (1 : Int)) ≤ (g7 74 p1) ∧ (sm_cm (g7 71) + sm_pt (g177 68) (g177 69) (g177 70) + sm_pl (g7 81) (g7 82) (g7 83) (g7 84) (g7 85) (g7 86) + sm_ps (g7 76) (g7 77)) + s178 ≤ (sm_cm (S 71) + sm_pt (S 68) (S 69) (S 70) + sm_pl (S 81) (S 82) (S 83) (S 84) (S 85) (S 86) + sm_ps (S 76) (S 77))) ∧ ((g7 74 p1) - (l4_33 + (1 : Int))) < ((g7 74 p1) - l4_33))) ∧ (0 ≤ (639 : Int) ∧ (639 : Int) < 640) ∧ (sv_R (g7 75 (639 : Int)) → (sv_R (g7 75 p1) → (sv_R ((g7 75 (639 : Int)) + l4_33)) ∧ (sv_R ((g7 75 p1) + l4_33)) ∧ (0 ≤ ((g7 75 (639 : Int)) + l4_33) ∧ ((g7 75 (639 : Int)) + l4_33) < 647800 ∧ 0 ≤ ((g7 75 p1) + l4_33) ∧ ((g7 75 p1) + l4_33) < 647800) ∧ (∀ r197 : Int, sv_R r197 → ∀ g193 : sv_S, ((635639 ≤ ((g7 75 p1) + l4_33) → sm_pt (g193 68) (g193 69) (g193 70) = sm_pt (g31 68) (g31 69) (g31 70)) ∧ (r197 = 0 ∨ r197 = 1) ∧ (((g7 75 p1) + l4_33) < 635639 → sm_pt (g193 68) (g193 69) (g193 70) + r197 ≤ sm_pt (g31 68) (g31 69) (g31 70))) → (((¬ r197 = (0 : Int)) → (((1 : Int) = 0 ∨ (1 : Int) = 1) ∧ (sm_cm (g7 71) + sm_pt (g193 68) (g193 69) (g193 70) + sm_pl (g7 81) (g7 82) (g7 83) (g7 84) (g7 85) (g7 86) + sm_ps (g7 76) (g7 77)) + (1 : Int) ≤ (sm_cm (S 71) + sm_pt (S 68) (S 69) (S 70) + sm_pl (S 81) (S 82) (S 83) (S 84) (S 85) (S 86) + sm_ps (S 76) (S 77)))) ∧ ((¬ (¬ r197 = (0 : Int))) → (((l2_32 = (0 : Int)) → (((0 : Int) = 0 ∨ (0 : Int) = 1) ∧ (sm_cm (g7 71) + sm_pt (g193 68) (g193 69) (g193 70) + sm_pl (g7 81) (g7 82) (g7 83) (g7 84) (g7 85) (g7 86) + sm_ps (g7 76) (g7 77)) + (0 : Int) ≤ (sm_cm (S 71) + sm_pt (S 68) (S 69) (S 70) + sm_pl (S 81) (S 82) (S 83) (S 84) (S 85) (S 86) + sm_ps (S 76) (S 77)))) ∧ ((¬ (l2_32 = (0 : Int))) → (((1 : Int) = 0 ∨ (1 : Int) = 1) ∧ (sm_cm (g7 71) + sm_pt (g193 68) (g193 69) (g193 70) + sm_pl (g7 81) (g7 82) (g7 83) (g7 84) (g7 85) (g7 86) + sm_ps (g7 76) (g7 77)) + (1 : Int) ≤ (sm_cm (S 71) + sm_pt (S 68) (S 69) (S 70) + sm_pl (S 81) (S 82) (S 83) (S 84) (S 85) (S 86) + sm_ps (S 76) (S 77))))))))))))))))) ∧ ((¬ (((S 1071 0) * ((S 1008 0) + (1 : Int))) ≤ l4_22)) → ((∀ s203 : Int, sv_R s203 → ∀ g202 : sv_S, ((s203 = 0 ∨ s203 = 1) ∧ (sm_cm (g7 71) + sm_pt (g202 68) (g202 69) (g202 70) + sm_pl (g7 81) (g7 82) (g7 83) (g7 84) (g7 85) (g7 86) + sm_ps (g7 76) (g7 77)) + s203 ≤ (sm_cm (S 71) + sm_pt (S 68) (S 69) (S 70) + sm_pl (S 81) (S 82) (S 83) (S 84) (S 85) (S 86) + sm_ps (S 76) (S 77))) → (sv_R (l4_22 + (1 : Int))) ∧ (((s203 = 0 ∨ s203 = 1) ∧ 0 ≤ (l4_22 + (1 : Int)) ∧ (l4_22 + (1 : Int)) ≤ (S 1071 0) * ((S 1008 0) + 1) ∧ (sm_cm (g7 71) + sm_pt (g202 68) (g202 69) (g202 70) + sm_pl (g7 81) (g7 82) (g7 83) (g7 84) (g7 85) (g7 86) + sm_ps (g7 76) (g7 77)) + s203 ≤ (sm_cm (S 71) + sm_pt (S 68) (S 69) (S 70) + sm_pl (S 81) (S 82) (S 83) (S 84) (S 85) (S 86) + sm_ps (S 76) (S 77))) ∧ ((S 1071 0) * ((S 1008 0) + 1) - (l4_22 + (1 : Int))) < ((S 1071 0) * ((S 1008 0) + 1) - l4_22))) ∧ (sv_R ((635640 : Int) + l4_22)) ∧ (sv_R (r17 + l4_22)) ∧ (0 ≤ ((635640 : Int) + l4_22) ∧ ((635640 : Int) + l4_22) < 647800 ∧ 0 ≤ (r17 + l4_22) ∧ (r17 + l4_22) < 647800) ∧ (∀ r218 : Int, sv_R r218 → ∀ g214 : sv_S, ((635639 ≤ (r17 + l4_22) → sm_pt (g214 68) (g214 69) (g214 70) = sm_pt (g20 68) (g20 69) (g20 70)) ∧ (r218 = 0 ∨ r218 = 1) ∧ ((r17 + l4_22) < 635639 → sm_pt (g214 68) (g214 69) (g214 70) + r218 ≤ sm_pt (g20 68) (g20 69) (g20 70))) → (((¬ r218 = (0 : Int)) → (((1 : Int) = 0 ∨ (1 : Int) = 1) ∧ (sm_cm (g7 71) + sm_pt (g214 68) (g214 69) (g214 70) + sm_pl (g7 81) (g7 82) (g7 83) (g7 84) (g7 85) (g7 86) + sm_ps (g7 76) (g7 77)) + (1 : Int) ≤ (sm_cm (S 71) + sm_pt (S 68) (S 69) (S 70) + sm_pl (S 81) (S 82) (S 83) (S 84) (S 85) (S 86) + sm_ps (S 76) (S 77)))) ∧ ((¬ (¬ r218 = (0 : Int))) → (((l2_21 = (0 : Int)) → (((0 : Int) = 0 ∨ (0 : Int) = 1) ∧ (sm_cm (g7 71) + sm_pt (g214 68) (g214 69) (g214 70) + sm_pl (g7 81) (g7 82) (g7 83) (g7 84) (g7 85) (g7 86) + sm_ps (g7 76) (g7 77)) + (0 : Int) ≤ (sm_cm (S 71) + sm_pt (S 68) (S 69) (S 70) + sm_pl (S 81) (S 82) (S 83) (S 84) (S 85) (S 86) + sm_ps (S 76) (S 77)))) ∧ ((¬ (l2_21 = (0 : Int))) → (((1 : Int) = 0 ∨ (1 : Int) = 1) ∧ (sm_cm (g7 71) + sm_pt (g214 68) (g214 69) (g214 70) + sm_pl (g7 81) (g7 82) (g7 83) (g7 84) (g7 85) (g7 86) + sm_ps (g7 76) (g7 77)) + (1 : Int) ≤ (sm_cm (S 71) + sm_pt (S 68) (S 69) (S 70) + sm_pl (S 81) (S 82) (S 83) (S 84) (S 85) (S 86) + sm_ps (S 76) (S 77))))))))))))))))))) ∧ (((s5 = (0 : Int)) → (sm_ST (S 71) (S 74) (S 75) (S 78) (S 79) (S 80) (S 27) (S 1100007) (S 1100023) (S 1100024) (S 1046 0) ((S 1046 0) + 2 * (S 1032 0)) (S 1127 0) ∧ 465000 ≤ (S 1127 0) ∧ (S 1127 0) + sm_hs (S 71) (S 1100007) ≤ 635000 ∧ (S 75 639) = 647340 ∧ (S 74 639) = (S 74 639) ∧ (S 78 639) = (S 78 639) ∧ sm_TC (S 79) (S 80) (S 27) (S 1100007) (S 1100023) (S 1100024) 25560 (S 1100031 0) ∧ (∀ k : Int, (S 71 k) = 1 → (S 71 k) = 1) ∧ sm_DR (S 72) (S 71) (S 1046 0) ∧ (S 71 p1) = 1 ∧ (sm_cm (S 71) + sm_pt (S 68) (S 69) (S 70) + sm_pl (S 81) (S 82) (S 83) (S 84) (S 85) (S 86) + sm_ps (S 76) (S 77)) + s5 ≤ (sm_cm (S 71) + sm_pt (S 68) (S 69) (S 70) + sm_pl (S 81) (S 82) (S 83) (S 84) (S 85) (S 86) + sm_ps (S 76) (S 77)))) ∧ ((¬ (s5 = (0 : Int))) → (((S 71 p1) = 0 → 0 ≤ p1 → p1 < 640 → sm_cm (fun i' : Int => if i' = p1 then 1 else (S 71) i') = sm_cm (S 71) - 100000000) → ((sm_NH (S 1100007) → (S 71 p1) = 0 → 0 ≤ p1 → p1 < 640 → sm_hs (fun i' : Int => if i' = p1 then 1 else (S 71) i') (S 1100007) = sm_hs (S 71) (S 1100007) - (S 1100007 p1)) → (0 ≤ p1 ∧ p1 < 640) ∧ (29 ≤ (S 1071 0) ∧ (S 1071 0) ≤ 127 ∧ 31 ≤ (S 1008 0) ∧ (S 1008 0) ≤ 90 ∧ 1 ≤ (S 1032 0) ∧ (S 1032 0) ≤ 11 ∧ 0 ≤ (S 1055 0) ∧ (S 1055 0) ≤ 19 ∧ (S 1071 0) = 29 + 6 * ((S 1032 0) - 1) + 2 * (S 1055 0) ∧ 0 ≤ (S 1046 0) ∧ (S 1046 0) + 2 * (S 1032 0) ≤ 500 ∧ sm_PD (S 1046 0) (S 1032 0) (S 1071 0) (S 1008 0) ∧ 0 ≤ (S 1071 0) * ((S 1008 0) + 1) ∧ (S 1071 0) * ((S 1008 0) + 1) ≤ 11557 ∧ 0 ≤ p1 ∧ (p1 = 639 ∨ p1 < (S 1046 0) + 2 * (S 1032 0))) ∧ (∀ g230 : sv_S, (True) → ((0 ≤ sm_pl (g230 81) (g230 82) (g230 83) (g230 84) (g230 85) (g230 86) ∧ sm_pl (g230 81) (g230 82) (g230 83) (g230 84) (g230 85) (g230 86) ≤ 3870000) → (0 ≤ (639 : Int) ∧ (639 : Int) < 640) ∧ (sv_R (S 74 (639 : Int)) → (sv_R (S 1127 0) → (∀ v246 : Int, (if p1 = p1 then (S 74 (639 : Int)) else (S 74 p1)) = v246 → (sv_R v246 → (sv_R ((S 1127 0) + v246)) ∧ ((0 ≤ (0 : Int)) ∧ (∀ l3_253 : Int, sv_R l3_253 → ∀ g252 : sv_S, (0 ≤ l3_253) → (0 ≤ (if l3_253 < (if p1 = p1 then (S 74 (639 : Int)) else (S 74 p1)) then (if p1 = p1 then (S 74 (639 : Int)) else (S 74 p1)) - l3_253 else 0)) ∧ (∀ v260 : Int, (if p1 = p1 then (S 74 (639 : Int)) else (S 74 p1)) = v260 → (sv_R v260 → (((v260 ≤ l3_253) → (sv_R (S 78 (639 : Int)) → ((sm_CQ (S 79) (S 80) (S 79) (S 80) (40 * p1) 25560 0) → ((0 ≤ (0 : Int) ∧ (0 : Int) ≤ (if p1 = p1 then (S 78 (639 : Int)) else (S 78 p1)) ∧ sm_CQ (S 79) (S 80) (S 79) (S 80) (40 * p1) 25560 (0 : Int)) ∧ (∀ l3_268 : Int, sv_R l3_268 → ∀ g267 : sv_S, (0 ≤ l3_268 ∧ l3_268 ≤ (if p1 = p1 then (S 78 (639 : Int)) else (S 78 p1)) ∧ sm_CQ (g267 79) (g267 80) (S 79) (S 80) (40 * p1) 25560 l3_268) → (0 ≤ (if p1 = p1 then (S 78 (639 : Int)) else (S 78 p1)) - l3_268) ∧ (∀ v275 : Int, (if p1 = p1 then (S 78 (639 : Int)) else (S 78 p1)) = v275 → (sv_R v275 → (((v275 ≤ l3_268) → (sm_ST (fun i' : Int => if i' = p1 then (1 : Int) else (S 71) i') (fun i' : Int => if i' = p1 then (S 74 (639 : Int)) else (S 74) i') (fun i' : Int => if i' = p1 then (S 1127 0) else (S 75) i') (fun i' : Int => if i' = p1 then (S 78 (639 : Int)) else (S 78) i') (g267 79) (g267 80) (S 27) (S 1100007) (S 1100023) (S 1100024) (S 1046 0) ((S 1046 0) + 2 * (S 1032 0)) ((S 1127 0) + v246) ∧ 465000 ≤ ((S 1127 0) + v246) ∧ ((S 1127 0) + v246) + sm_hs (fun i' : Int => if i' = p1 then (1 : Int) else (S 71) i') (S 1100007) ≤ 635000 ∧ (if 639 = p1 then (S 1127 0) else (S 75 639)) = 647340 ∧ (if 639 = p1 then (S 74 (639 : Int)) else (S 74 639)) = (S 74 639) ∧ (if 639 = p1 then (S 78 (639 : Int)) else (S 78 639)) = (S 78 639) ∧ sm_TC (g267 79) (g267 80) (S 27) (S 1100007) (S 1100023) (S 1100024) 25560 (S 1100031 0) ∧ (∀ k : Int, (S 71 k) = 1 → (if k = p1 then (1 : Int) else (S 71 k)) = 1) ∧ sm_DR (S 72) (fun i' : Int => if i' = p1 then (1 : Int) else (S 71) i') (S 1046 0) ∧ (if p1 = p1 then (1 : Int) else (S 71 p1)) = 1 ∧ (sm_cm (fun i' : Int => if i' = p1 then (1 : Int) else (S 71) i') + sm_pt (g252 68) (g252 69) (g252 70) + sm_pl (g230 81) (g230 82) (g230 83) (g230 84) (g230 85) (g230 86) + sm_ps (g230 76) (g230 77)) + s5 ≤ (sm_cm (S 71) + sm_pt (S 68) (S 69) (S 70) + sm_pl (S 81) (S 82) (S 83) (S 84) (S 85) (S 86) + sm_ps (S 76) (S 77)))) ∧ ((¬ (v275 ≤ l3_268)) → (0 ≤ ((25560 : Int) + l3_268) ∧ ((25560 : Int) + l3_268) < 25600) ∧ (sv_R (g267 79 ((25560 : Int) + l3_268)) → (0 ≤ (((40 : Int) * p1) + l3_268) ∧ (((40 : Int) * p1) + l3_268) < 25600) ∧ (sv_R (g267 80 ((25560 : Int) + l3_268)) → (sv_R (l3_268 + (1 : Int))) ∧ ((0 ≤ (l3_268 + (1 : Int)) ∧ (l3_268 + (1 : Int)) ≤ (if p1 = p1 then (S 78 (639 : Int)) else (S 78 p1)) ∧ sm_CQ (fun i' : Int => if i' = (((40 : Int) * p1) + l3_268) then (g267 79 ((25560 : Int) + l3_268)) else (g267 79) i') (fun i' : Int => if i' = (((40 : Int) * p1) + l3_268) then (g267 80 ((25560 : Int) + l3_268)) else (g267 80) i') (S 79) (S 80) (40 * p1) 25560 (l3_268 + (1 : Int))) ∧ ((if p1 = p1 then (S 78 (639 : Int)) else (S 78 p1)) - (l3_268 + (1 : Int))) < ((if p1 = p1 then (S 78 (639 : Int)) else (S 78 p1)) - l3_268))))))))))))) ∧ ((¬ (v260 ≤ l3_253)) → (∀ v290 : Int, (if p1 = p1 then (S 1127 0) else (S 75 p1)) = v290 → (sv_R v290 → (sv_R (v290 + l3_253)) ∧ (0 ≤ (v290 + l3_253) ∧ (v290 + l3_253) < 647800) ∧ (∀ g294 : sv_S, (635639 ≤ (v290 + l3_253) → sm_pt (g294 68) (g294 69) (g294 70) = sm_pt (g252 68) (g252 69) (g252 70)) → (sv_R (l3_253 + (1 : Int))) ∧ ((0 ≤ (l3_253 + (1 : Int))) ∧ ((if (l3_253 + (1 : Int)) < (if p1 = p1 then (S 74 (639 : Int)) else (S 74 p1)) then (if p1 = p1 then (S 74 (639 : Int)) else (S 74 p1)) - (l3_253 + (1 : Int)) else 0)) < ((if l3_253 < (if p1 = p1 then (S 74 (639 : Int)) else (S 74 p1)) then (if p1 = p1 then (S 74 (639 : Int)) else (S 74 p1)) - l3_253 else 0)))))))))))))))))))))))) ∧ ((sm_NH (S 1100007) → 0 ≤ p1 → p1 < 640 → 0 ≤ (S 1100007 p1) ∧ (S 1100007 p1) ≤ 400) → ((sm_NH (S 1100007) → 0 ≤ sm_hs (S 71) (S 1100007)) → ((0 ≤ sm_pl (S 81) (S 82) (S 83) (S 84) (S 85) (S 86) ∧ sm_pl (S 81) (S 82) (S 83) (S 84) (S 85) (S 86) ≤ 3870000) → ((0 ≤ sm_du (S 72) ∧ sm_du (S 72) ≤ 640) → (0 ≤ p1 ∧ p1 < 640) ∧ ((0 ≤ (S 71 p1) ∧ (S 71 p1) ≤ 1) → (((¬ (S 71 p1) = (0 : Int)) → (((0 : Int) = 0 ∨ (0 : Int) = 1) ∧ ((0 : Int) = 1 → (S 71 p1) = 0) ∧ ((0 : Int) = 0 → (S 71 p1) = 1))) ∧ ((¬ (¬ (S 71 p1) = (0 : Int))) → (((1 : Int) = 0 ∨ (1 : Int) = 1) ∧ ((1 : Int) = 1 → (S 71 p1) = 0) ∧ ((1 : Int) = 0 → (S 71 p1) = 1)))))))))))))) := by
  intro p1
  intro S
  intro h1_
  intro h2_
  rintro ⟨h3_, ⟨h4_, ⟨h5_, ⟨h6_, ⟨h7_, ⟨h8_, ⟨h9_, ⟨h10_, ⟨h11_, ⟨h12_, ⟨h13_, ⟨h14_, ⟨h15_, ⟨h16_, ⟨h17_, ⟨h18_, ⟨h19_, ⟨h20_, ⟨h21_, ⟨h22_, ⟨h23_, ⟨h24_, ⟨h25_, ⟨h26_, ⟨h27_, ⟨h28_, ⟨h29_, ⟨h30_, ⟨h31_, ⟨h32_, ⟨h33_, ⟨h34_, ⟨h35_, ⟨h36_, ⟨h37_, ⟨h38_, ⟨h39_, h40_⟩⟩⟩⟩⟩⟩⟩⟩⟩⟩⟩⟩⟩⟩⟩⟩⟩⟩⟩⟩⟩⟩⟩⟩⟩⟩⟩⟩⟩⟩⟩⟩⟩⟩⟩⟩⟩
  intro h41_
  have h42_ := (h41_ h24_)
  have h43_ := (h42_ h37_)
  obtain ⟨h44_, h45_⟩ := (h43_ (la_flow_0 h13_ h38_))
  intro h46_
  have h47_ := (h46_ h24_)
  rintro ⟨h48_, h49_⟩
  rintro ⟨h50_, h51_⟩
  refine ⟨?_, ?_⟩
  · skip
    intro s5
    intro h52_
    rintro ⟨h53_, ⟨h54_, h55_⟩⟩
    refine ⟨?_, ?_⟩
    · skip
      intro g7
      rintro ⟨h56_, ⟨h57_, ⟨h58_, ⟨h59_, ⟨h60_, ⟨h61_, ⟨h62_, ⟨h63_, ⟨h64_, ⟨h65_, h66_⟩⟩⟩⟩⟩⟩⟩⟩⟩⟩
      refine ⟨⟨h3_, ⟨h4_, ⟨h5_, ⟨h6_, ⟨h7_, ⟨h8_, ⟨h9_, ⟨h10_, ⟨h11_, ⟨h12_, ⟨h13_, ⟨h14_, (la_flow_1 h13_ h15_ h16_ h37_ h38_)⟩⟩⟩⟩⟩⟩⟩⟩⟩⟩⟩⟩, ?_⟩
      intro r17
      intro h67_
      rintro ⟨h68_, h69_⟩
      obtain ⟨h70_, h71_⟩ := (h69_ (la_flow_2 h13_ h38_))
      intro h72_
      have h73_ := (h72_ h56_)
      have h74_ := (h73_ h37_)
      have h75_ := (h74_ h38_)
      obtain ⟨h76_, ⟨h77_, ⟨h78_, ⟨h79_, h80_⟩⟩⟩⟩ := (h75_ h65_)
      intro h81_
      have h82_ := (h81_ h24_)
      refine ⟨⟨h53_, (la_flow_3 h15_ h66_)⟩, ?_⟩
      intro l2_21
      intro h83_
      intro l4_22
      intro h84_
      intro g20
      rintro ⟨h85_, ⟨h86_, ⟨h87_, h88_⟩⟩⟩
      refine ⟨(la_flow_4 h87_), ?_⟩
      intro h89_
      intro h90_
      refine ⟨(la_flow_5 h15_ h16_), ?_⟩
      refine ⟨?_, ?_⟩
      · skip
        intro h91_
        refine ⟨⟨h85_, (la_flow_6 h44_ h76_ h88_)⟩, ?_⟩
        intro l2_32
        intro h92_
        intro l4_33
        intro h93_
        intro g31
        rintro ⟨h94_, ⟨h95_, ⟨h96_, h97_⟩⟩⟩
        refine ⟨(la_flow_4 h96_), ?_⟩
        refine ⟨(la_flow_7 h13_ h37_ h38_), ?_⟩
        intro h98_
        refine ⟨?_, ?_⟩
        · skip
          intro h99_
          refine ⟨?_, ?_⟩
          · skip
            intro s43
            intro h100_
            intro g42
            rintro ⟨h101_, h102_⟩
            refine ⟨?_, ?_⟩
            · skip
              intro s50
              intro h103_
              rintro ⟨h104_, h105_⟩
              intro h106_
              intro h107_
              intro h108_
              have h109_ := (h106_ h108_)
              have h110_ := (h107_ h108_)
              refine ⟨la_flow_8, ?_⟩
              intro h111_
              intro h112_
              intro h113_
              have h114_ := (h109_ h113_)
              have h115_ := (h110_ h113_)
              intro h116_
              intro h117_
              refine ⟨?_, ?_⟩
              · skip
                refine ⟨h104_, ?_⟩
                refine ⟨la_flow_9, ?_⟩
                refine ⟨(la_flow_10 h3_), ?_⟩
                have e118_ : sm_ps (fun i' : Int => (if i' = p1 then sm_lor (g7 76 p1) (g7 76 639) else (g7 76) i')) (fun i' : Int => (if i' = p1 then sm_lor (g7 77 p1) (g7 77 639) else (g7 77) i')) = sm_ps (fun i' : Int => (if i' = p1 then sm_lor (g7 76 p1) (g7 76 639) else (g7 76) i')) (g7 77) + sm_rq (if p1 = p1 then sm_lor (g7 76 p1) (g7 76 639) else g7 76 p1) (g7 77 p1) - sm_rq (if p1 = p1 then sm_lor (g7 76 p1) (g7 76 639) else g7 76 p1) (sm_lor (g7 77 p1) (g7 77 639)) := sm_ps_b h37_ (la_flow_11 h13_ h38_)
                have e119_ : sm_ps (fun i' : Int => (if i' = p1 then sm_lor (g7 76 p1) (g7 76 639) else (g7 76) i')) (g7 77) = sm_ps (g7 76) (g7 77) + sm_rq (g7 76 p1) (g7 77 p1) - sm_rq (sm_lor (g7 76 p1) (g7 76 639)) (g7 77 p1) := sm_ps_a h37_ (la_flow_11 h13_ h38_)
                have e120_ : sm_rq (if p1 = p1 then sm_lor (g7 76 p1) (g7 76 639) else g7 76 p1) (sm_lor (g7 77 p1) (g7 77 639)) = sm_rq (sm_lor (g7 76 p1) (g7 76 639)) (sm_lor (g7 77 p1) (g7 77 639)) := congrArg (fun z_ : Int => sm_rq z_ (sm_lor (g7 77 p1) (g7 77 639))) (if_pos la_flow_12)
                have e121_ : sm_rq (if p1 = p1 then sm_lor (g7 76 p1) (g7 76 639) else g7 76 p1) (g7 77 p1) = sm_rq (sm_lor (g7 76 p1) (g7 76 639)) (g7 77 p1) := congrArg (fun z_ : Int => sm_rq z_ (g7 77 p1)) (if_pos la_flow_12)
                have h122_ := (h26_ p1)
                have h123_ := (h63_ p1)
                have e124_ : (if p1 = p1 then sm_lor (g7 76 p1) (g7 76 639) else g7 76 p1 : Int) = sm_lor (g7 76 p1) (g7 76 639) := if_pos la_flow_12
                exact (la_flow_13 h101_ h102_ h104_ h105_ h114_ h115_ e118_ e119_ e120_ e121_)
              intro l2_68
              intro h125_
              intro l4_69
              intro h126_
              intro g67
              rintro ⟨h127_, ⟨h128_, ⟨h129_, h130_⟩⟩⟩
              refine ⟨(la_flow_4 h129_), ?_⟩
              refine ⟨?_, ?_⟩
              · skip
                intro h131_
                refine ⟨?_, ?_⟩
                · skip
                  intro h132_
                  have h133_ := (h127_.resolve_left h132_)
                  rintro ⟨h134_, h135_⟩
                  intro h136_
                  refine ⟨?_, ?_⟩
                  · skip
                    intro h137_
                    rintro ⟨h138_, h139_⟩
                    refine ⟨⟨la_flow_9, ⟨h12_, h64_⟩⟩, ?_⟩
                    intro l4_79
                    intro h140_
                    intro g78
                    rintro ⟨h141_, ⟨h142_, h143_⟩⟩
                    refine ⟨(la_flow_4 h142_), ?_⟩
                    refine ⟨?_, ?_⟩
                    · skip
                      intro h144_
                      rintro ⟨h145_, h146_⟩
                      refine ⟨h56_, ?_⟩
                      refine ⟨h57_, ?_⟩
                      refine ⟨h58_, ?_⟩
                      refine ⟨h59_, ?_⟩
                      refine ⟨h60_, ?_⟩
                      refine ⟨h61_, ?_⟩
                      refine ⟨h62_, ?_⟩
                      refine ⟨h63_, ?_⟩
                      refine ⟨h143_, ?_⟩
                      refine ⟨(la_flow_17 h50_ h130_ (la_flow_15 (la_flow_14 h133_) h132_) h146_), ?_⟩
                      exact h65_
                    intro h147_
                    refine ⟨(la_flow_18 h7_ h13_ h141_ h147_), ?_⟩
                    rintro ⟨h148_, h149_⟩
                    refine ⟨?_, ?_⟩
                    · skip
                      intro h150_
                      rintro ⟨h151_, h152_⟩
                      refine ⟨(la_flow_19 h7_ h13_ h141_ h147_), ?_⟩
                      refine ⟨⟨(la_flow_20 h141_), ⟨(la_flow_21 h147_), (sm_DR_d h143_ (Or.inr (sm_DR_at h143_ l4_79 h141_ (la_flow_22 h147_) (la_flow_23 h149_ (la_flow_15 h148_ h150_)))))⟩⟩, ?_⟩
                      exact la_flow_24
                    intro h153_
                    rintro ⟨h154_, h155_⟩
                    refine ⟨?_, ?_⟩
                    · skip
                      intro h156_
                      rintro ⟨h157_, h158_⟩
                      refine ⟨(la_flow_19 h7_ h13_ h141_ h147_), ?_⟩
                      refine ⟨⟨(la_flow_20 h141_), ⟨(la_flow_21 h147_), (sm_DR_d h143_ (Or.inl rfl))⟩⟩, ?_⟩
                      exact la_flow_24
                    intro h159_
                    refine ⟨(la_flow_25 h7_ h13_ h141_ h147_), ?_⟩
                    intro h160_
                    refine ⟨?_, ?_⟩
                    · skip
                      intro h161_
                      rintro ⟨h162_, h163_⟩
                      refine ⟨(la_flow_19 h7_ h13_ h141_ h147_), ?_⟩
                      refine ⟨⟨(la_flow_20 h141_), ⟨(la_flow_21 h147_), (sm_DR_d h143_ (Or.inr (la_flow_23 h155_ (la_flow_15 h154_ h159_))))⟩⟩, ?_⟩
                      exact la_flow_24
                    intro h164_
                    refine ⟨?_, ?_⟩
                    · skip
                      intro h165_
                      rintro ⟨h166_, h167_⟩
                      refine ⟨(la_flow_19 h7_ h13_ h141_ h147_), ?_⟩
                      refine ⟨⟨(la_flow_20 h141_), ⟨(la_flow_21 h147_), (sm_DR_d h143_ (Or.inl rfl))⟩⟩, ?_⟩
                      exact la_flow_24
                    intro h168_
                    rintro ⟨h169_, h170_⟩
                    refine ⟨(la_flow_19 h7_ h13_ h141_ h147_), ?_⟩
                    refine ⟨⟨(la_flow_20 h141_), ⟨(la_flow_21 h147_), (sm_DR_d h143_ (Or.inr (la_flow_23 h155_ (la_flow_15 h154_ h159_))))⟩⟩, ?_⟩
                    exact la_flow_24
                  intro h171_
                  have h172_ := (h40_ (la_flow_22 h171_))
                  rintro ⟨h173_, h174_⟩
                  rintro ⟨h175_, h176_⟩
                  refine ⟨h56_, ?_⟩
                  refine ⟨h57_, ?_⟩
                  refine ⟨h58_, ?_⟩
                  refine ⟨h59_, ?_⟩
                  refine ⟨h60_, ?_⟩
                  refine ⟨h61_, ?_⟩
                  refine ⟨h62_, ?_⟩
                  refine ⟨h63_, ?_⟩
                  refine ⟨(sm_DR_d h64_ (Or.inr h65_)), ?_⟩
                  refine ⟨(la_flow_17 h50_ h130_ (la_flow_15 (la_flow_14 h133_) h132_) h174_), ?_⟩
                  exact h65_
                intro h177_
                have h178_ := (h127_.resolve_right (la_flow_28 h177_))
                refine ⟨h56_, ?_⟩
                refine ⟨h57_, ?_⟩
                refine ⟨h58_, ?_⟩
                refine ⟨h59_, ?_⟩
                refine ⟨h60_, ?_⟩
                refine ⟨h61_, ?_⟩
                refine ⟨h62_, ?_⟩
                refine ⟨h63_, ?_⟩
                refine ⟨h64_, ?_⟩
                refine ⟨(la_flow_29 h130_ h177_), ?_⟩
                exact h65_
              intro h179_
              refine ⟨?_, ?_⟩
              · skip
                intro s121
                intro h180_
                intro g120
                rintro ⟨h181_, h182_⟩
                refine ⟨(la_flow_30 h4_ h128_ h179_), ?_⟩
                refine ⟨⟨h181_, (la_flow_31 h128_ h179_ h182_)⟩, ?_⟩
                exact la_flow_24
              refine ⟨⟨h3_, ⟨h4_, ⟨h5_, ⟨h6_, ⟨h7_, ⟨h8_, ⟨h9_, ⟨h10_, ⟨h11_, ⟨h12_, ⟨h13_, ⟨h14_, (la_flow_32 h4_ h15_ h16_ h128_ h179_)⟩⟩⟩⟩⟩⟩⟩⟩⟩⟩⟩⟩, ?_⟩
              intro r134
              intro h183_
              rintro ⟨h184_, h185_⟩
              have h186_ := (h184_ la_flow_33)
              refine ⟨⟨h3_, ⟨h4_, ⟨h5_, ⟨h6_, ⟨h7_, ⟨h8_, ⟨h9_, ⟨h10_, ⟨h11_, ⟨h12_, ⟨h13_, ⟨h14_, (la_flow_35 h4_ h13_ h15_ h16_ h37_ h38_ h128_ h179_)⟩⟩⟩⟩⟩⟩⟩⟩⟩⟩⟩⟩, ?_⟩
              intro r140
              intro h187_
              rintro ⟨h188_, h189_⟩
              obtain ⟨h190_, h191_⟩ := (h189_ (la_flow_2 h13_ h38_))
              refine ⟨(la_flow_36 h4_ h128_ h179_ h186_ h190_ h191_), ?_⟩
              intro r146
              intro h192_
              intro g142
              rintro ⟨h193_, ⟨h194_, h195_⟩⟩
              have h196_ := (h195_ (la_flow_38 h191_))
              refine ⟨(la_flow_39 h127_ h130_ h194_ h196_), ?_⟩
              intro h197_
              have h198_ := (h194_.resolve_right (la_flow_28 h197_))
              refine ⟨(la_flow_40 h130_ h196_ h197_), ?_⟩
              intro h199_
              have h200_ := (h127_.resolve_left h199_)
              refine ⟨la_flow_41, ?_⟩
              exact (la_flow_42 h130_ h196_ h197_ h200_)
            refine ⟨(la_flow_43 h101_), ?_⟩
            intro h201_
            have h202_ := (h101_.resolve_right (la_flow_28 h201_))
            refine ⟨la_flow_8, ?_⟩
            intro h203_
            intro h204_
            intro h205_
            intro h206_
            refine ⟨(la_flow_44 h201_), ?_⟩
            intro h207_
            intro h208_
            intro h209_
            intro h210_
            intro h211_
            refine ⟨la_flow_45, ?_⟩
            intro h212_
            refine ⟨la_flow_41, ?_⟩
            intro h213_
            have h214_ := (h26_ p1)
            have h215_ := (h63_ p1)
            exact (la_flow_46 h202_ h212_)
          refine ⟨la_flow_47, ?_⟩
          refine ⟨(la_flow_48 h13_ h37_ h38_), ?_⟩
          refine ⟨(la_flow_49 h13_ h37_ h38_), ?_⟩
          intro r172
          intro h216_
          intro g168
          rintro ⟨h217_, ⟨h218_, h219_⟩⟩
          have h220_ := (h219_ (la_flow_51 h13_ h38_))
          refine ⟨(la_flow_52 h94_ h97_ h218_ h220_), ?_⟩
          intro h221_
          have h222_ := (h218_.resolve_right (la_flow_28 h221_))
          refine ⟨(la_flow_53 h97_ h220_ h221_), ?_⟩
          intro h223_
          have h224_ := (h94_.resolve_left h223_)
          refine ⟨la_flow_41, ?_⟩
          exact (la_flow_54 h97_ h220_ h221_ (la_flow_15 (la_flow_14 h224_) h223_))
        intro h225_
        refine ⟨?_, ?_⟩
        · skip
          intro s178
          intro h226_
          intro g177
          rintro ⟨h227_, h228_⟩
          refine ⟨(la_flow_55 h45_ h76_ h95_ h225_), ?_⟩
          refine ⟨⟨h227_, (la_flow_31 h95_ h225_ h228_)⟩, ?_⟩
          exact la_flow_24
        refine ⟨la_flow_8, ?_⟩
        intro h229_
        intro h230_
        refine ⟨(la_flow_56 h45_ h59_ h76_ h95_ h225_), ?_⟩
        refine ⟨(la_flow_57 h58_ h77_ h78_ h82_ h95_ h225_), ?_⟩
        refine ⟨(la_flow_58 h45_ h58_ h59_ h76_ h77_ h78_ h82_ h95_ h225_), ?_⟩
        intro r197
        intro h231_
        intro g193
        rintro ⟨h232_, ⟨h233_, h234_⟩⟩
        have h235_ := (h234_ (la_flow_60 h58_ h78_ h82_ h225_))
        refine ⟨(la_flow_52 h94_ h97_ h233_ h235_), ?_⟩
        intro h236_
        have h237_ := (h233_.resolve_right (la_flow_28 h236_))
        refine ⟨(la_flow_53 h97_ h235_ h236_), ?_⟩
        intro h238_
        have h239_ := (h94_.resolve_left h238_)
        refine ⟨la_flow_41, ?_⟩
        exact (la_flow_54 h97_ h235_ h236_ (la_flow_15 (la_flow_14 h239_) h238_))
      intro h240_
      refine ⟨?_, ?_⟩
      · skip
        intro s203
        intro h241_
        intro g202
        rintro ⟨h242_, h243_⟩
        refine ⟨(la_flow_61 h16_ h86_ h240_), ?_⟩
        refine ⟨⟨h242_, (la_flow_31 h86_ h240_ h243_)⟩, ?_⟩
        exact la_flow_24
      refine ⟨(la_flow_62 h16_ h86_ h240_), ?_⟩
      refine ⟨(la_flow_63 h70_ h71_ h86_ h240_), ?_⟩
      refine ⟨(la_flow_64 h16_ h70_ h71_ h86_ h240_), ?_⟩
      intro r218
      intro h244_
      intro g214
      rintro ⟨h245_, ⟨h246_, h247_⟩⟩
      have h248_ := (h247_ (la_flow_66 h71_ h240_))
      refine ⟨(la_flow_52 h85_ h88_ h246_ h248_), ?_⟩
      intro h249_
      have h250_ := (h246_.resolve_right (la_flow_28 h249_))
      refine ⟨(la_flow_53 h88_ h248_ h249_), ?_⟩
      intro h251_
      have h252_ := (h85_.resolve_left h251_)
      refine ⟨la_flow_41, ?_⟩
      exact (la_flow_67 h88_ h248_ h250_ (la_flow_15 (la_flow_14 h252_) h251_))
    refine ⟨?_, ?_⟩
    · skip
      intro h253_
      have h254_ := (h53_.resolve_right (la_flow_68 h253_))
      have h255_ := (h55_ h253_)
      refine ⟨h21_, ?_⟩
      refine ⟨h22_, ?_⟩
      refine ⟨h23_, ?_⟩
      refine ⟨h20_, ?_⟩
      refine ⟨la_flow_12, ?_⟩
      refine ⟨la_flow_12, ?_⟩
      refine ⟨h36_, ?_⟩
      refine ⟨?_, ?_⟩
      · skip
        intro k
        intro h256_
        exact h256_
      refine ⟨h27_, ?_⟩
      refine ⟨h255_, ?_⟩
      exact (la_flow_69 h253_)
    intro h257_
    have h258_ := (h53_.resolve_left h257_)
    have h259_ := (h54_ h258_)
    intro h260_
    have h261_ := (h260_ h259_)
    have h262_ := (h261_ h37_)
    have h263_ := (h262_ (la_flow_0 h13_ h38_))
    intro h264_
    have h265_ := (h264_ h24_)
    have h266_ := (h265_ h259_)
    have h267_ := (h266_ h37_)
    have h268_ := (h267_ (la_flow_0 h13_ h38_))
    refine ⟨(la_flow_7 h13_ h37_ h38_), ?_⟩
    refine ⟨⟨h3_, ⟨h4_, ⟨h5_, ⟨h6_, ⟨h7_, ⟨h8_, ⟨h9_, ⟨h10_, ⟨h11_, ⟨h12_, ⟨h13_, ⟨h14_, (la_flow_1 h13_ h15_ h16_ h37_ h38_)⟩⟩⟩⟩⟩⟩⟩⟩⟩⟩⟩⟩, ?_⟩
    intro g230
    intro _
    rintro ⟨h269_, h270_⟩
    refine ⟨la_flow_8, ?_⟩
    intro h271_
    intro h272_
    intro v246
    intro h273_
    have e274_ : (if p1 = p1 then S 74 639 else S 74 p1 : Int) = S 74 639 := if_pos la_flow_12
    intro h275_
    refine ⟨(la_flow_70 h22_ h23_ h28_ h29_ h47_ h273_ e274_), ?_⟩
    refine ⟨la_flow_9, ?_⟩
    intro l3_253
    intro h276_
    intro g252
    intro h277_
    refine ⟨?_, ?_⟩
    · skip
      have h278_ := (h26_ p1)
      by_cases c279_ : l3_253 < (if p1 = p1 then S 74 639 else S 74 p1)
      · skip
        have e280_ : (if l3_253 < (if p1 = p1 then S 74 639 else S 74 p1) then (if p1 = p1 then S 74 639 else S 74 p1) - l3_253 else 0 : Int) = (if p1 = p1 then S 74 639 else S 74 p1) - l3_253 := if_pos c279_
        exact (la_flow_71 c279_ e280_)
      · skip
        have e281_ : (if l3_253 < (if p1 = p1 then S 74 639 else S 74 p1) then (if p1 = p1 then S 74 639 else S 74 p1) - l3_253 else 0 : Int) = 0 := if_neg c279_
        exact (la_flow_72 e281_)
    intro v260
    intro h282_
    intro h283_
    refine ⟨?_, ?_⟩
    · skip
      intro h284_
      intro h285_
      intro h286_
      refine ⟨?_, ?_⟩
      · skip
        refine ⟨la_flow_9, ?_⟩
        refine ⟨?_, ?_⟩
        · skip
          have h287_ := (h26_ p1)
          have e288_ : (if p1 = p1 then S 78 639 else S 78 p1 : Int) = S 78 639 := if_pos la_flow_12
          exact (la_flow_73 h30_ e288_)
        exact h286_
      intro l3_268
      intro h289_
      intro g267
      rintro ⟨h290_, ⟨h291_, h292_⟩⟩
      have e293_ : (if p1 = p1 then S 78 639 else S 78 p1 : Int) = S 78 639 := if_pos la_flow_12
      refine ⟨(la_flow_4 h291_), ?_⟩
      intro v275
      intro h294_
      intro h295_
      refine ⟨?_, ?_⟩
      · skip
        intro h296_
        refine ⟨(sm_ST_new h21_ (sm_CQ_eq h292_ (la_flow_74 h291_ e293_ h294_ h296_)) h36_ h37_ (la_flow_11 h13_ h38_) (la_flow_75 h13_) la_flow_76 h39_ h44_ h32_ (la_flow_77 h30_ h31_) h40_ h22_ (la_flow_78 h273_ e274_)), ?_⟩
        refine ⟨(la_flow_79 h22_ h28_ h273_ e274_), ?_⟩
        refine ⟨(la_flow_80 h23_ h39_ h268_ h273_ e274_), ?_⟩
        refine ⟨?_, ?_⟩
        · skip
          have h297_ := (h26_ p1)
          have e298_ : (if 639 = p1 then S 1127 0 else S 75 639 : Int) = S 75 639 := if_neg (la_flow_81 h13_ h38_)
          exact (la_flow_82 h20_ e298_)
        refine ⟨?_, ?_⟩
        · skip
          have h299_ := (h26_ p1)
          have e300_ : (if 639 = p1 then S 74 639 else S 74 639 : Int) = S 74 639 := if_neg (la_flow_81 h13_ h38_)
          exact e300_
        refine ⟨?_, ?_⟩
        · skip
          have h301_ := (h26_ p1)
          have e302_ : (if 639 = p1 then S 78 639 else S 78 639 : Int) = S 78 639 := if_neg (la_flow_81 h13_ h38_)
          exact e302_
        refine ⟨(sm_CQ_k h292_ h36_ (la_flow_83 h13_ h38_) (la_flow_84 h31_ h32_)), ?_⟩
        refine ⟨?_, ?_⟩
        · skip
          intro kv1
          intro h303_
          have h304_ := (h26_ p1)
          by_cases c305_ : kv1 = p1
          · skip
            have e306_ : (if kv1 = p1 then 1 else S 71 kv1 : Int) = 1 := if_pos c305_
            exact e306_
          · skip
            have e307_ : (if kv1 = p1 then 1 else S 71 kv1 : Int) = S 71 kv1 := if_neg c305_
            exact (la_flow_85 h303_ e307_)
        refine ⟨(sm_DR_r h27_ rfl), ?_⟩
        refine ⟨?_, ?_⟩
        · skip
          have h308_ := (h26_ p1)
          have e309_ : (if p1 = p1 then 1 else S 71 p1 : Int) = 1 := if_pos la_flow_12
          exact e309_
        have h310_ := (h26_ p1)
        exact (la_flow_86 h48_ h258_ h263_ h270_ (sm_pt_r (g252 68) (g252 69) (g252 70)).2 (sm_ps_r (g230 76) (g230 77)).2 (sm_ps_r (S 76) (S 77)).1 (sm_pt_r (S 68) (S 69) (S 70)).1)
      intro h311_
      refine ⟨(la_flow_87 h31_ h290_ e293_ h294_ h311_), ?_⟩
      intro h312_
      refine ⟨(la_flow_88 h13_ h31_ h37_ h38_ h290_ h291_ e293_), ?_⟩
      intro h313_
      refine ⟨(la_flow_89 h31_ h290_ h291_ e293_), ?_⟩
      refine ⟨⟨(la_flow_20 h290_), ⟨(la_flow_90 h294_ h311_), (sm_CQ_up h292_ h290_ (la_flow_91 h31_ e293_ h294_ h311_) (la_flow_83 h13_ h38_) rfl rfl rfl rfl rfl)⟩⟩, ?_⟩
      exact la_flow_24
    intro h314_
    intro v290
    intro h315_
    have e316_ : (if p1 = p1 then S 1127 0 else S 75 p1 : Int) = S 1127 0 := if_pos la_flow_12
    intro h317_
    refine ⟨(la_flow_92 h22_ h23_ h29_ h47_ e274_ h277_ h282_ h314_ h315_ e316_), ?_⟩
    refine ⟨(la_flow_93 h22_ h23_ h29_ h47_ e274_ h277_ h282_ h314_ h315_ e316_), ?_⟩
    intro g294
    intro h318_
    refine ⟨(la_flow_95 h277_ h283_ h314_), ?_⟩
    refine ⟨(la_flow_20 h277_), ?_⟩
    have h319_ := (h26_ p1)
    have e320_ : (if l3_253 < (if p1 = p1 then S 74 639 else S 74 p1) then (if p1 = p1 then S 74 639 else S 74 p1) - l3_253 else 0 : Int) = (if p1 = p1 then S 74 639 else S 74 p1) - l3_253 := if_pos (la_flow_96 h282_ h314_)
    by_cases c321_ : l3_253 + 1 < (if p1 = p1 then S 74 639 else S 74 p1)
    · skip
      have e322_ : (if l3_253 + 1 < (if p1 = p1 then S 74 639 else S 74 p1) then (if p1 = p1 then S 74 639 else S 74 p1) - (l3_253 + 1) else 0 : Int) = (if p1 = p1 then S 74 639 else S 74 p1) - (l3_253 + 1) := if_pos c321_
      exact (la_flow_97 e320_ e322_)
    · skip
      have e323_ : (if l3_253 + 1 < (if p1 = p1 then S 74 639 else S 74 p1) then (if p1 = p1 then S 74 639 else S 74 p1) - (l3_253 + 1) else 0 : Int) = 0 := if_neg c321_
      exact (la_flow_98 h282_ h314_ e320_ e323_)
  intro h324_
  intro h325_
  rintro ⟨h326_, h327_⟩
  rintro ⟨h328_, h329_⟩
  refine ⟨(la_flow_7 h13_ h37_ h38_), ?_⟩
  rintro ⟨h330_, h331_⟩
  refine ⟨(la_flow_99 h330_ h331_), ?_⟩
  intro h332_
  refine ⟨la_flow_41, ?_⟩
  refine ⟨(la_flow_100 h330_ h332_), ?_⟩
  intro h333_
  exact (la_flow_101 h333_)
set_option maxRecDepth 8000 in
set_option maxHeartbeats 2000000 in
theorem t_flow : ∀ (p1 : Int) (S : sv_S), sm_ok S → sv_R p1 → (29 ≤ (S 1071 0) ∧ (S 1071 0) ≤ 127 ∧ 31 ≤ (S 1008 0) ∧ (S 1008 0) ≤ 90 ∧ 1 ≤ (S 1032 0) ∧ (S 1032 0) ≤ 11 ∧ 0 ≤ (S 1055 0) ∧ (S 1055 0) ≤ 19 ∧ (S 1071 0) = 29 + 6 * ((S 1032 0) - 1) + 2 * (S 1055 0) ∧ 0 ≤ (S 1046 0) ∧ (S 1046 0) + 2 * (S 1032 0) ≤ 500 ∧ sm_PD (S 1046 0) (S 1032 0) (S 1071 0) (S 1008 0) ∧ 0 ≤ (S 1071 0) * ((S 1008 0) + 1) ∧ (S 1071 0) * ((S 1008 0) + 1) ≤ 11557 ∧ 31 ≤ (S 1007 0) ∧ (S 1007 0) ≤ 400 ∧ sm_LN (S 4) 400 (S 1007 0) ∧ (S 75 639) = 647340 ∧ sm_ST (S 71) (S 74) (S 75) (S 78) (S 79) (S 80) (S 27) (S 1100007) (S 1100023) (S 1100024) (S 1046 0) ((S 1046 0) + 2 * (S 1032 0)) (S 1127 0) ∧ 465000 ≤ (S 1127 0) ∧ (S 1127 0) + sm_hs (S 71) (S 1100007) ≤ 635000 ∧ sm_NH (S 1100007) ∧ sm_CT (S 26) (S 27) (S 28) (S 29) (S 1100007) (S 1100023) (S 1100024) (S 1100025) (S 21) (S 1046 0) (S 1032 0) (S 1008 0) (S 1055 0) ∧ (∀ k : Int, (S 1046 0) ≤ k → k < ((S 1046 0) + 2 * (S 1032 0)) → (S 1100007 k) = 1) ∧ sm_DR (S 72) (S 71) (S 1046 0) ∧ 0 ≤ (S 74 639) ∧ (S 74 639) ≤ 400 ∧ 0 ≤ (S 78 639) ∧ (S 78 639) ≤ 40 ∧ (S 78 639) = sm_dp (S 1100024) (S 1100031 0) ∧ -1 ≤ (S 1100031 0) ∧ (S 1100031 0) < (S 1046 0) ∧ (0 ≤ (S 1100031 0) → (S 26 (S 1100031 0)) = 27) ∧ sm_TC (S 79) (S 80) (S 27) (S 1100007) (S 1100023) (S 1100024) 25560 (S 1100031 0) ∧ 0 ≤ p1 ∧ p1 < ((S 1046 0) + 2 * (S 1032 0)) ∧ (S 74 639) = (S 1100007 p1) ∧ (p1 < (S 1046 0) → (S 1100023 p1) = (S 1100031 0))) → sv_T sm_XS sm_cs sm_L sm_sh 3 (q_flow p1 S) 235 0 (lv_args 0 [.ref 0, sv_I p1]) [] S := by
  intro p1 S hok hp1 hpre
  have h := f_flow p1 S hok hp1 hpre
  have hM := sm_h235
  show sv_T sm_XS sm_cs sm_L sm_sh 3 (q_flow p1 S) 235 0 [(0, .ref 0), (1, sv_I p1)] [] S
  have k1 : (sm_NH (S 1100007) → 0 ≤ p1 → p1 < 640 → 0 ≤ (S 1100007 p1) ∧ (S 1100007 p1) ≤ 400) := fun h h0 h1 => sm_NH_at h p1 h0 h1
  have h := h k1
  have k2 : (sm_NH (S 1100007) → 0 ≤ sm_hs (S 71) (S 1100007)) := sm_hs_0
  have h := h k2
  have k3 : (0 ≤ sm_pl (S 81) (S 82) (S 83) (S 84) (S 85) (S 86) ∧ sm_pl (S 81) (S 82) (S 83) (S 84) (S 85) (S 86) ≤ 3870000) := sm_pl_r _ _ _ _ (fun x_ => sm_okZ hok sm_r81 x_) (fun x_ => sm_okZ hok sm_r82 x_)
  have h := h k3
  have k4 : (0 ≤ sm_du (S 72) ∧ sm_du (S 72) ≤ 640) := sm_du_b (fun x_ => sm_okZ hok sm_r72 x_)
  have h := h k4
  have J302 : ∀ s5 : Int, sv_R s5 → ((s5 = 0 ∨ s5 = 1) ∧ (s5 = 1 → (S 71 p1) = 0) ∧ (s5 = 0 → (S 71 p1) = 1)) → sv_T sm_XS sm_cs sm_L sm_sh 3 (q_flow p1 S) 235 14 [(0, .ref 0), (1, sv_I p1)] [sv_I s5] S := by
    intro s5 hs5 hin6
    have h := h.1 s5 hs5 hin6
    refine sv_istore_n hM dX12_flow_14 (by decide) rfl ?_
    show sv_T sm_XS sm_cs sm_L sm_sh 3 (q_flow p1 S) 235 15 [(0, .ref 0), (1, sv_I p1), (2, sv_I s5)] [] S
    have J222 : ∀ g7 : sv_S, sm_ok (sv_sts S [68, 69, 70, 81, 82, 83, 84, 85, 86, 71, 74, 75, 1127, 78, 79, 80, 76, 77] g7) → (sm_ST (g7 71) (g7 74) (g7 75) (g7 78) (g7 79) (g7 80) (S 27) (S 1100007) (S 1100023) (S 1100024) (S 1046 0) ((S 1046 0) + 2 * (S 1032 0)) (g7 1127 0) ∧ 465000 ≤ (g7 1127 0) ∧ (g7 1127 0) + sm_hs (g7 71) (S 1100007) ≤ 635000 ∧ (g7 75 639) = 647340 ∧ (g7 74 639) = (S 74 639) ∧ (g7 78 639) = (S 78 639) ∧ sm_TC (g7 79) (g7 80) (S 27) (S 1100007) (S 1100023) (S 1100024) 25560 (S 1100031 0) ∧ (∀ k : Int, (S 71 k) = 1 → (g7 71 k) = 1) ∧ sm_DR (S 72) (g7 71) (S 1046 0) ∧ (g7 71 p1) = 1 ∧ (sm_cm (g7 71) + sm_pt (g7 68) (g7 69) (g7 70) + sm_pl (g7 81) (g7 82) (g7 83) (g7 84) (g7 85) (g7 86) + sm_ps (g7 76) (g7 77)) + s5 ≤ (sm_cm (S 71) + sm_pt (S 68) (S 69) (S 70) + sm_pl (S 81) (S 82) (S 83) (S 84) (S 85) (S 86) + sm_ps (S 76) (S 77))) → sv_T sm_XS sm_cs sm_L sm_sh 3 (q_flow p1 S) 235 174 [(0, .ref 0), (1, sv_I p1), (2, sv_I s5)] [] (sv_sts S [68, 69, 70, 81, 82, 83, 84, 85, 86, 71, 74, 75, 1127, 78, 79, 80, 76, 77] g7) := by
      intro  g7 ok8 hin9
      have h := h.1 g7 hin9
      have md10 : sv_mod [68, 69, 70, 81, 82, 83, 84, 85, 86, 71, 74, 75, 1127, 78, 79, 80, 72, 76, 77] S (sv_sts S [68, 69, 70, 81, 82, 83, 84, 85, 86, 71, 74, 75, 1127, 78, 79, 80, 76, 77] g7) := sv_mod.sts sv_mod.rf (by decide)
      have md11 : sv_mod [68, 69, 70, 81, 82, 83, 84, 85, 86, 71, 74, 75, 1127, 78, 79, 80, 76, 77] S (sv_sts S [68, 69, 70, 81, 82, 83, 84, 85, 86, 71, 74, 75, 1127, 78, 79, 80, 76, 77] g7) := sv_mod.sts sv_mod.rf (by decide)
      refine sv_aload_n hM dX12_flow_174 rfl rfl ?_
      refine sv_iload_n hM dX12_flow_175 rfl rfl ?_
      obtain ⟨o12, h⟩ := h
      refine sv_callV hM dX12_flow_176 sm_iv_1085 (by decide) (sm_a0 _) rfl rfl (Nat.le_of_ble_eq_true rfl) sm_h223 (Nat.le_of_ble_eq_true rfl) (Nat.le_of_ble_eq_true rfl) (F' := 0) (Nat.le_of_ble_eq_true rfl) rfl (t_fieldsAt p1 (sv_sts S [68, 69, 70, 81, 82, 83, 84, 85, 86, 71, 74, 75, 1127, 78, 79, 80, 76, 77] g7) ok8 hp1 o12) (fun v S1 hq => ?_)
      obtain ⟨r17, rfl, hr17, ok14, md15, hpo16⟩ := hq
      obtain rfl : (sv_sts S [68, 69, 70, 81, 82, 83, 84, 85, 86, 71, 74, 75, 1127, 78, 79, 80, 76, 77] g7) = S1 := (funext fun j => md15 j (by intro q; cases q)).symm
      show sv_T sm_XS sm_cs sm_L sm_sh 3 (q_flow p1 S) 235 179 [(0, .ref 0), (1, sv_I p1), (2, sv_I s5)] [sv_I r17] (sv_sts S [68, 69, 70, 81, 82, 83, 84, 85, 86, 71, 74, 75, 1127, 78, 79, 80, 76, 77] g7)
      have h := h r17 hr17 hpo16
      refine sv_istore_n hM dX12_flow_179 (by decide) rfl ?_
      show sv_T sm_XS sm_cs sm_L sm_sh 3 (q_flow p1 S) 235 180 [(0, .ref 0), (1, sv_I p1), (2, sv_I s5), (3, sv_I r17)] [] (sv_sts S [68, 69, 70, 81, 82, 83, 84, 85, 86, 71, 74, 75, 1127, 78, 79, 80, 76, 77] g7)
      have k18 : (sm_ST (g7 71) (g7 74) (g7 75) (g7 78) (g7 79) (g7 80) (S 27) (S 1100007) (S 1100023) (S 1100024) (S 1046 0) ((S 1046 0) + 2 * (S 1032 0)) (g7 1127 0) → 0 ≤ p1 → p1 < ((S 1046 0) + 2 * (S 1032 0)) → (g7 71 p1) = 1 → (g7 74 p1) = (S 1100007 p1) ∧ 465000 ≤ (g7 75 p1) ∧ (g7 75 p1) + (g7 74 p1) ≤ (g7 1127 0) ∧ 0 ≤ (g7 78 p1) ∧ (g7 78 p1) ≤ 40) := fun h h0 h1 h2 => ⟨(sm_ST_at h p1 h0 h1 h2).1, (sm_ST_at h p1 h0 h1 h2).2.1, (sm_ST_at h p1 h0 h1 h2).2.2.1, (sm_ST_at h p1 h0 h1 h2).2.2.2.1, (sm_ST_at h p1 h0 h1 h2).2.2.2.2.1⟩
      have h := h k18
      have k19 : (sm_NH (S 1100007) → 0 ≤ sm_hs (g7 71) (S 1100007)) := sm_hs_0
      have h := h k19
      refine sv_iconst (d := (0 : Int)) hM dX12_flow_180 rfl rfl ?_
      refine sv_istore hM dX12_flow_181 (by decide) rfl ?_
      show sv_T sm_XS sm_cs sm_L sm_sh 3 (q_flow p1 S) 235 183 [(0, .ref 0), (1, sv_I p1), (2, sv_I s5), (3, sv_I r17), (4, sv_I (0 : Int))] [] (sv_sts S [68, 69, 70, 81, 82, 83, 84, 85, 86, 71, 74, 75, 1127, 78, 79, 80, 76, 77] g7)
      obtain ⟨hin24, h⟩ := h
      have hJ : ∀ a : Int × Int × sv_S, (sv_R a.1 ∧ sv_R a.2.1 ∧ sm_ok (sv_sts (sv_sts S [68, 69, 70, 81, 82, 83, 84, 85, 86, 71, 74, 75, 1127, 78, 79, 80, 76, 77] g7) [68, 69, 70] a.2.2) ∧ ((a.1 = 0 ∨ a.1 = 1) ∧ 0 ≤ a.2.1 ∧ a.2.1 ≤ (S 1071 0) * ((S 1008 0) + 1) ∧ (sm_cm (g7 71) + sm_pt (a.2.2 68) (a.2.2 69) (a.2.2 70) + sm_pl (g7 81) (g7 82) (g7 83) (g7 84) (g7 85) (g7 86) + sm_ps (g7 76) (g7 77)) + a.1 ≤ (sm_cm (S 71) + sm_pt (S 68) (S 69) (S 70) + sm_pl (S 81) (S 82) (S 83) (S 84) (S 85) (S 86) + sm_ps (S 76) (S 77)))) → sv_T sm_XS sm_cs sm_L sm_sh 3 (q_flow p1 S) 235 183 [(0, .ref 0), (1, sv_I p1), (2, sv_I a.1), (3, sv_I r17), (4, sv_I a.2.1)] [] (sv_sts (sv_sts S [68, 69, 70, 81, 82, 83, 84, 85, 86, 71, 74, 75, 1127, 78, 79, 80, 76, 77] g7) [68, 69, 70] a.2.2) := by
        refine sv_loop (α := Int × Int × sv_S) (fun a => sv_R a.1 ∧ sv_R a.2.1 ∧ sm_ok (sv_sts (sv_sts S [68, 69, 70, 81, 82, 83, 84, 85, 86, 71, 74, 75, 1127, 78, 79, 80, 76, 77] g7) [68, 69, 70] a.2.2) ∧ ((a.1 = 0 ∨ a.1 = 1) ∧ 0 ≤ a.2.1 ∧ a.2.1 ≤ (S 1071 0) * ((S 1008 0) + 1) ∧ (sm_cm (g7 71) + sm_pt (a.2.2 68) (a.2.2 69) (a.2.2 70) + sm_pl (g7 81) (g7 82) (g7 83) (g7 84) (g7 85) (g7 86) + sm_ps (g7 76) (g7 77)) + a.1 ≤ (sm_cm (S 71) + sm_pt (S 68) (S 69) (S 70) + sm_pl (S 81) (S 82) (S 83) (S 84) (S 85) (S 86) + sm_ps (S 76) (S 77)))) (fun a => (S 1071 0) * ((S 1008 0) + 1) - a.2.1) (fun a => sv_T sm_XS sm_cs sm_L sm_sh 3 (q_flow p1 S) 235 183 [(0, .ref 0), (1, sv_I p1), (2, sv_I a.1), (3, sv_I r17), (4, sv_I a.2.1)] [] (sv_sts (sv_sts S [68, 69, 70, 81, 82, 83, 84, 85, 86, 71, 74, 75, 1127, 78, 79, 80, 76, 77] g7) [68, 69, 70] a.2.2)) (fun a q => (h a.1 q.1 a.2.1 q.2.1 a.2.2 q.2.2.2).1) (fun a q ih23 => ?_)
        obtain ⟨l2_21, l4_22, g20⟩ := a
        obtain ⟨hl2_21, hl4_22, ok25, hin24i⟩ := q
        have h := (h l2_21 hl2_21 l4_22 hl4_22 g20 hin24i).2
        show sv_T sm_XS sm_cs sm_L sm_sh 3 (q_flow p1 S) 235 183 [(0, .ref 0), (1, sv_I p1), (2, sv_I l2_21), (3, sv_I r17), (4, sv_I l4_22)] [] (sv_sts (sv_sts S [68, 69, 70, 81, 82, 83, 84, 85, 86, 71, 74, 75, 1127, 78, 79, 80, 76, 77] g7) [68, 69, 70] g20)
        have md26 : sv_mod [68, 69, 70, 81, 82, 83, 84, 85, 86, 71, 74, 75, 1127, 78, 79, 80, 72, 76, 77] S (sv_sts (sv_sts S [68, 69, 70, 81, 82, 83, 84, 85, 86, 71, 74, 75, 1127, 78, 79, 80, 76, 77] g7) [68, 69, 70] g20) := sv_mod.sts md10 (by decide)
        have md27 : sv_mod [68, 69, 70] (sv_sts S [68, 69, 70, 81, 82, 83, 84, 85, 86, 71, 74, 75, 1127, 78, 79, 80, 76, 77] g7) (sv_sts (sv_sts S [68, 69, 70, 81, 82, 83, 84, 85, 86, 71, 74, 75, 1127, 78, 79, 80, 76, 77] g7) [68, 69, 70] g20) := sv_mod.sts sv_mod.rf (by decide)
        refine sv_iload hM dX12_flow_183 rfl rfl ?_
        refine sv_aload_n hM dX12_flow_185 rfl rfl ?_
        have k28 : sv_R (S 1071 0) := sm_okI ok25 sm_r1071 0
        have h := h k28
        refine sv_getI hM dX12_flow_186 sm_fl_765 (sm_a0 _) sm_k71 rfl (x := (S 1071 0)) rfl ?_
        refine sv_aload_n hM dX12_flow_189 rfl rfl ?_
        have k29 : sv_R (S 1008 0) := sm_okI ok25 sm_r1008 0
        have h := h k29
        refine sv_getI hM dX12_flow_190 sm_fl_762 (sm_a0 _) sm_k8 rfl (x := (S 1008 0)) rfl ?_
        refine sv_iconst (d := (1 : Int)) hM dX12_flow_193 rfl rfl ?_
        refine sv_iadd hM dX12_flow_194 rfl ?_
        refine sv_imul hM dX12_flow_195 rfl ?_
        obtain ⟨o30, h⟩ := h
        refine sv_icmp_ge hM dX12_flow_196 hl4_22 o30 (t := 232) rfl rfl (fun hc => ?_) (fun hc => ?_)
        · have h := h.1 (hc)
          refine sv_iconst (d := (0 : Int)) hM dX12_flow_232 rfl rfl ?_
          refine sv_istore hM dX12_flow_233 (by decide) rfl ?_
          show sv_T sm_XS sm_cs sm_L sm_sh 3 (q_flow p1 S) 235 235 [(0, .ref 0), (1, sv_I p1), (2, sv_I l2_21), (3, sv_I r17), (4, sv_I (0 : Int))] [] (sv_sts (sv_sts S [68, 69, 70, 81, 82, 83, 84, 85, 86, 71, 74, 75, 1127, 78, 79, 80, 76, 77] g7) [68, 69, 70] g20)
          obtain ⟨hin35, h⟩ := h
          have hJ : ∀ a : Int × Int × sv_S, (sv_R a.1 ∧ sv_R a.2.1 ∧ sm_ok (sv_sts (sv_sts (sv_sts S [68, 69, 70, 81, 82, 83, 84, 85, 86, 71, 74, 75, 1127, 78, 79, 80, 76, 77] g7) [68, 69, 70] g20) [68, 69, 70] a.2.2) ∧ ((a.1 = 0 ∨ a.1 = 1) ∧ 0 ≤ a.2.1 ∧ a.2.1 ≤ (g7 74 p1) ∧ (sm_cm (g7 71) + sm_pt (a.2.2 68) (a.2.2 69) (a.2.2 70) + sm_pl (g7 81) (g7 82) (g7 83) (g7 84) (g7 85) (g7 86) + sm_ps (g7 76) (g7 77)) + a.1 ≤ (sm_cm (S 71) + sm_pt (S 68) (S 69) (S 70) + sm_pl (S 81) (S 82) (S 83) (S 84) (S 85) (S 86) + sm_ps (S 76) (S 77)))) → sv_T sm_XS sm_cs sm_L sm_sh 3 (q_flow p1 S) 235 235 [(0, .ref 0), (1, sv_I p1), (2, sv_I a.1), (3, sv_I r17), (4, sv_I a.2.1)] [] (sv_sts (sv_sts (sv_sts S [68, 69, 70, 81, 82, 83, 84, 85, 86, 71, 74, 75, 1127, 78, 79, 80, 76, 77] g7) [68, 69, 70] g20) [68, 69, 70] a.2.2) := by
            refine sv_loop (α := Int × Int × sv_S) (fun a => sv_R a.1 ∧ sv_R a.2.1 ∧ sm_ok (sv_sts (sv_sts (sv_sts S [68, 69, 70, 81, 82, 83, 84, 85, 86, 71, 74, 75, 1127, 78, 79, 80, 76, 77] g7) [68, 69, 70] g20) [68, 69, 70] a.2.2) ∧ ((a.1 = 0 ∨ a.1 = 1) ∧ 0 ≤ a.2.1 ∧ a.2.1 ≤ (g7 74 p1) ∧ (sm_cm (g7 71) + sm_pt (a.2.2 68) (a.2.2 69) (a.2.2 70) + sm_pl (g7 81) (g7 82) (g7 83) (g7 84) (g7 85) (g7 86) + sm_ps (g7 76) (g7 77)) + a.1 ≤ (sm_cm (S 71) + sm_pt (S 68) (S 69) (S 70) + sm_pl (S 81) (S 82) (S 83) (S 84) (S 85) (S 86) + sm_ps (S 76) (S 77)))) (fun a => (g7 74 p1) - a.2.1) (fun a => sv_T sm_XS sm_cs sm_L sm_sh 3 (q_flow p1 S) 235 235 [(0, .ref 0), (1, sv_I p1), (2, sv_I a.1), (3, sv_I r17), (4, sv_I a.2.1)] [] (sv_sts (sv_sts (sv_sts S [68, 69, 70, 81, 82, 83, 84, 85, 86, 71, 74, 75, 1127, 78, 79, 80, 76, 77] g7) [68, 69, 70] g20) [68, 69, 70] a.2.2)) (fun a q => (h a.1 q.1 a.2.1 q.2.1 a.2.2 q.2.2.2).1) (fun a q ih34 => ?_)
            obtain ⟨l2_32, l4_33, g31⟩ := a
            obtain ⟨hl2_32, hl4_33, ok36, hin35i⟩ := q
            have h := (h l2_32 hl2_32 l4_33 hl4_33 g31 hin35i).2
            show sv_T sm_XS sm_cs sm_L sm_sh 3 (q_flow p1 S) 235 235 [(0, .ref 0), (1, sv_I p1), (2, sv_I l2_32), (3, sv_I r17), (4, sv_I l4_33)] [] (sv_sts (sv_sts (sv_sts S [68, 69, 70, 81, 82, 83, 84, 85, 86, 71, 74, 75, 1127, 78, 79, 80, 76, 77] g7) [68, 69, 70] g20) [68, 69, 70] g31)
            have md37 : sv_mod [68, 69, 70, 81, 82, 83, 84, 85, 86, 71, 74, 75, 1127, 78, 79, 80, 72, 76, 77] S (sv_sts (sv_sts (sv_sts S [68, 69, 70, 81, 82, 83, 84, 85, 86, 71, 74, 75, 1127, 78, 79, 80, 76, 77] g7) [68, 69, 70] g20) [68, 69, 70] g31) := sv_mod.sts md26 (by decide)
            have md38 : sv_mod [68, 69, 70] (sv_sts S [68, 69, 70, 81, 82, 83, 84, 85, 86, 71, 74, 75, 1127, 78, 79, 80, 76, 77] g7) (sv_sts (sv_sts (sv_sts S [68, 69, 70, 81, 82, 83, 84, 85, 86, 71, 74, 75, 1127, 78, 79, 80, 76, 77] g7) [68, 69, 70] g20) [68, 69, 70] g31) := sv_mod.sts md27 (by decide)
            have md39 : sv_mod [68, 69, 70] (sv_sts (sv_sts S [68, 69, 70, 81, 82, 83, 84, 85, 86, 71, 74, 75, 1127, 78, 79, 80, 76, 77] g7) [68, 69, 70] g20) (sv_sts (sv_sts (sv_sts S [68, 69, 70, 81, 82, 83, 84, 85, 86, 71, 74, 75, 1127, 78, 79, 80, 76, 77] g7) [68, 69, 70] g20) [68, 69, 70] g31) := sv_mod.sts sv_mod.rf (by decide)
            refine sv_iload hM dX12_flow_235 rfl rfl ?_
            refine sv_aload_n hM dX12_flow_237 rfl rfl ?_
            refine sv_getA hM dX12_flow_238 sm_fl_235 (sm_a0 _) sm_k125 rfl ?_
            refine sv_iload_n hM dX12_flow_241 rfl rfl ?_
            obtain ⟨o40, h⟩ := h
            have k41 : sv_R (g7 74 p1) := sm_okI ok36 sm_r74 p1
            have h := h k41
            refine sv_iald hM dX12_flow_242 (sm_a74 _) (by decide) o40.1 o40.2 rfl (x := (g7 74 p1)) rfl ?_
            refine sv_icmp_ge hM dX12_flow_243 hl4_33 k41 (t := 289) rfl rfl (fun hc => ?_) (fun hc => ?_)
            · have h := h.1 (hc)
              have J164 : ∀ s43 : Int, sv_R s43 → ∀ g42 : sv_S, sm_ok (sv_sts (sv_sts (sv_sts (sv_sts S [68, 69, 70, 81, 82, 83, 84, 85, 86, 71, 74, 75, 1127, 78, 79, 80, 76, 77] g7) [68, 69, 70] g20) [68, 69, 70] g31) [68, 69, 70] g42) → ((s43 = 0 ∨ s43 = 1) ∧ (sm_cm (g7 71) + sm_pt (g42 68) (g42 69) (g42 70) + sm_pl (g7 81) (g7 82) (g7 83) (g7 84) (g7 85) (g7 86) + sm_ps (g7 76) (g7 77)) + s43 ≤ (sm_cm (S 71) + sm_pt (S 68) (S 69) (S 70) + sm_pl (S 81) (S 82) (S 83) (S 84) (S 85) (S 86) + sm_ps (S 76) (S 77))) → sv_T sm_XS sm_cs sm_L sm_sh 3 (q_flow p1 S) 235 317 [(0, .ref 0), (1, sv_I p1), (2, sv_I l2_32), (3, sv_I r17), (4, sv_I l4_33)] [sv_I s43] (sv_sts (sv_sts (sv_sts (sv_sts S [68, 69, 70, 81, 82, 83, 84, 85, 86, 71, 74, 75, 1127, 78, 79, 80, 76, 77] g7) [68, 69, 70] g20) [68, 69, 70] g31) [68, 69, 70] g42) := by
                intro s43 hs43 g42 ok44 hin45
                have h := h.1 s43 hs43 g42 hin45
                have md46 : sv_mod [68, 69, 70, 81, 82, 83, 84, 85, 86, 71, 74, 75, 1127, 78, 79, 80, 72, 76, 77] S (sv_sts (sv_sts (sv_sts (sv_sts S [68, 69, 70, 81, 82, 83, 84, 85, 86, 71, 74, 75, 1127, 78, 79, 80, 76, 77] g7) [68, 69, 70] g20) [68, 69, 70] g31) [68, 69, 70] g42) := sv_mod.sts md37 (by decide)
                have md47 : sv_mod [68, 69, 70] (sv_sts S [68, 69, 70, 81, 82, 83, 84, 85, 86, 71, 74, 75, 1127, 78, 79, 80, 76, 77] g7) (sv_sts (sv_sts (sv_sts (sv_sts S [68, 69, 70, 81, 82, 83, 84, 85, 86, 71, 74, 75, 1127, 78, 79, 80, 76, 77] g7) [68, 69, 70] g20) [68, 69, 70] g31) [68, 69, 70] g42) := sv_mod.sts md38 (by decide)
                have md48 : sv_mod [68, 69, 70] (sv_sts (sv_sts S [68, 69, 70, 81, 82, 83, 84, 85, 86, 71, 74, 75, 1127, 78, 79, 80, 76, 77] g7) [68, 69, 70] g20) (sv_sts (sv_sts (sv_sts (sv_sts S [68, 69, 70, 81, 82, 83, 84, 85, 86, 71, 74, 75, 1127, 78, 79, 80, 76, 77] g7) [68, 69, 70] g20) [68, 69, 70] g31) [68, 69, 70] g42) := sv_mod.sts md39 (by decide)
                have md49 : sv_mod [68, 69, 70] (sv_sts (sv_sts (sv_sts S [68, 69, 70, 81, 82, 83, 84, 85, 86, 71, 74, 75, 1127, 78, 79, 80, 76, 77] g7) [68, 69, 70] g20) [68, 69, 70] g31) (sv_sts (sv_sts (sv_sts (sv_sts S [68, 69, 70, 81, 82, 83, 84, 85, 86, 71, 74, 75, 1127, 78, 79, 80, 76, 77] g7) [68, 69, 70] g20) [68, 69, 70] g31) [68, 69, 70] g42) := sv_mod.sts sv_mod.rf (by decide)
                refine sv_istore_n hM dX12_flow_317 (by decide) rfl ?_
                show sv_T sm_XS sm_cs sm_L sm_sh 3 (q_flow p1 S) 235 318 [(0, .ref 0), (1, sv_I p1), (2, sv_I s43), (3, sv_I r17), (4, sv_I l4_33)] [] (sv_sts (sv_sts (sv_sts (sv_sts S [68, 69, 70, 81, 82, 83, 84, 85, 86, 71, 74, 75, 1127, 78, 79, 80, 76, 77] g7) [68, 69, 70] g20) [68, 69, 70] g31) [68, 69, 70] g42)
                have J150 : ∀ s50 : Int, sv_R s50 → ((s50 = 0 ∨ s50 = 1) ∧ (s50 = 1 → s43 = 1 ∨ ¬ sm_land (g7 76 639) (sm_lxor (g7 76 p1) (-1)) = 0 ∨ ¬ sm_land (g7 77 639) (sm_lxor (g7 77 p1) (-1)) = 0)) → sv_T sm_XS sm_cs sm_L sm_sh 3 (q_flow p1 S) 235 375 [(0, .ref 0), (1, sv_I p1), (2, sv_I s43), (3, sv_I r17), (4, sv_I l4_33)] [sv_I s50] (sv_sts (sv_sts (sv_sts (sv_sts S [68, 69, 70, 81, 82, 83, 84, 85, 86, 71, 74, 75, 1127, 78, 79, 80, 76, 77] g7) [68, 69, 70] g20) [68, 69, 70] g31) [68, 69, 70] g42) := by
                  intro s50 hs50 hin51
                  have h := h.1 s50 hs50 hin51
                  refine sv_istore_n hM dX12_flow_375 (by decide) rfl ?_
                  show sv_T sm_XS sm_cs sm_L sm_sh 3 (q_flow p1 S) 235 376 [(0, .ref 0), (1, sv_I p1), (2, sv_I s50), (3, sv_I r17), (4, sv_I l4_33)] [] (sv_sts (sv_sts (sv_sts (sv_sts S [68, 69, 70, 81, 82, 83, 84, 85, 86, 71, 74, 75, 1127, 78, 79, 80, 76, 77] g7) [68, 69, 70] g20) [68, 69, 70] g31) [68, 69, 70] g42)
                  have k52 : (sv_RL (g7 76 p1) → sv_RL (g7 77 p1) → sm_rq (g7 76 p1) (g7 77 p1) ≤ sm_rq (sm_lor (g7 76 p1) (g7 76 639)) (sm_lor (g7 77 p1) (g7 77 639))) := fun a b => Int.le_trans (Int.le_of_eq (Int.add_zero _).symm) (sm_rq_or (r := 0) a b rfl rfl (Or.inl rfl) (fun q => absurd q (by decide)))
                  have h := h k52
                  have k53 : (sv_RL (g7 76 p1) → sv_RL (g7 77 p1) → (¬ sm_land (g7 76 639) (sm_lxor (g7 76 p1) (-1)) = 0 ∨ ¬ sm_land (g7 77 639) (sm_lxor (g7 77 p1) (-1)) = 0) → sm_rq (g7 76 p1) (g7 77 p1) + 1 ≤ sm_rq (sm_lor (g7 76 p1) (g7 76 639)) (sm_lor (g7 77 p1) (g7 77 639))) := fun a b h => sm_rq_or (r := 1) a b rfl rfl (Or.inr rfl) (fun _ => h.imp (fun q => sm_lor_ne a rfl rfl q rfl) (fun q => sm_lor_ne b rfl rfl q rfl))
                  have h := h k53
                  refine sv_aload_n hM dX12_flow_376 rfl rfl ?_
                  refine sv_getA hM dX12_flow_377 sm_fl_241 (sm_a0 _) sm_k128 rfl ?_
                  refine sv_iload_n hM dX12_flow_380 rfl rfl ?_
                  refine sv_aload_n hM dX12_flow_381 rfl rfl ?_
                  refine sv_getA hM dX12_flow_382 sm_fl_241 (sm_a0 _) sm_k128 rfl ?_
                  refine sv_iload_n hM dX12_flow_385 rfl rfl ?_
                  have k54 : sv_RL (g7 76 p1) := sm_okJ ok44 sm_r76 p1
                  have h := h k54
                  refine sv_lald hM dX12_flow_386 (sm_a76 _) (by decide) o40.1 o40.2 rfl (x := (g7 76 p1)) rfl ?_
                  refine sv_aload_n hM dX12_flow_387 rfl rfl ?_
                  refine sv_getA hM dX12_flow_388 sm_fl_241 (sm_a0 _) sm_k128 rfl ?_
                  refine sv_sipush (d := (639 : Int)) hM dX12_flow_391 rfl rfl ?_
                  obtain ⟨o55, h⟩ := h
                  have k56 : sv_RL (g7 76 (639 : Int)) := sm_okJ ok44 sm_r76 (639 : Int)
                  have h := h k56
                  refine sv_lald hM dX12_flow_394 (sm_a76 _) (by decide) o55.1 o55.2 rfl (x := (g7 76 (639 : Int))) rfl ?_
                  refine sv_anyL hM dX12_flow_395 rfl rfl (fun r57 hr57 er57 => ?_)
                  have er57v : (sm_lor (g7 76 p1) (g7 76 (639 : Int))) = r57 := er57
                  have k58 : sv_RL (sm_lor (g7 76 p1) (g7 76 (639 : Int))) := er57v.symm ▸ hr57
                  rw [← er57v]
                  have h := h k58
                  refine sv_last sm_X hM dX12_flow_396 (sm_a76 _) (by decide) o40.1 o40.2 rfl ?_
                  have ok59 : sm_ok (sv_up (sv_sts (sv_sts (sv_sts (sv_sts S [68, 69, 70, 81, 82, 83, 84, 85, 86, 71, 74, 75, 1127, 78, 79, 80, 76, 77] g7) [68, 69, 70] g20) [68, 69, 70] g31) [68, 69, 70] g42) 76 p1 (sm_lor (g7 76 p1) (g7 76 (639 : Int)))) := sm_upJ ok44 sm_r76 k58
                  have md60 : sv_mod [68, 69, 70, 81, 82, 83, 84, 85, 86, 71, 74, 75, 1127, 78, 79, 80, 72, 76, 77] S (sv_up (sv_sts (sv_sts (sv_sts (sv_sts S [68, 69, 70, 81, 82, 83, 84, 85, 86, 71, 74, 75, 1127, 78, 79, 80, 76, 77] g7) [68, 69, 70] g20) [68, 69, 70] g31) [68, 69, 70] g42) 76 p1 (sm_lor (g7 76 p1) (g7 76 (639 : Int)))) := sv_mod.up md46 (by decide)
                  refine sv_aload_n hM dX12_flow_397 rfl rfl ?_
                  refine sv_getA hM dX12_flow_398 sm_fl_244 (sm_a0 _) sm_k129 rfl ?_
                  refine sv_iload_n hM dX12_flow_401 rfl rfl ?_
                  refine sv_aload_n hM dX12_flow_402 rfl rfl ?_
                  refine sv_getA hM dX12_flow_403 sm_fl_244 (sm_a0 _) sm_k129 rfl ?_
                  refine sv_iload_n hM dX12_flow_406 rfl rfl ?_
                  have k61 : sv_RL (g7 77 p1) := sm_okJ ok59 sm_r77 p1
                  have h := h k61
                  refine sv_lald hM dX12_flow_407 (sm_a77 _) (by decide) o40.1 o40.2 rfl (x := (g7 77 p1)) rfl ?_
                  refine sv_aload_n hM dX12_flow_408 rfl rfl ?_
                  refine sv_getA hM dX12_flow_409 sm_fl_244 (sm_a0 _) sm_k129 rfl ?_
                  refine sv_sipush (d := (639 : Int)) hM dX12_flow_412 rfl rfl ?_
                  have k62 : sv_RL (g7 77 (639 : Int)) := sm_okJ ok59 sm_r77 (639 : Int)
                  have h := h k62
                  refine sv_lald hM dX12_flow_415 (sm_a77 _) (by decide) o55.1 o55.2 rfl (x := (g7 77 (639 : Int))) rfl ?_
                  refine sv_anyL hM dX12_flow_416 rfl rfl (fun r63 hr63 er63 => ?_)
                  have er63v : (sm_lor (g7 77 p1) (g7 77 (639 : Int))) = r63 := er63
                  have k64 : sv_RL (sm_lor (g7 77 p1) (g7 77 (639 : Int))) := er63v.symm ▸ hr63
                  rw [← er63v]
                  have h := h k64
                  refine sv_last sm_X hM dX12_flow_417 (sm_a77 _) (by decide) o40.1 o40.2 rfl ?_
                  have ok65 : sm_ok (sv_up (sv_up (sv_sts (sv_sts (sv_sts (sv_sts S [68, 69, 70, 81, 82, 83, 84, 85, 86, 71, 74, 75, 1127, 78, 79, 80, 76, 77] g7) [68, 69, 70] g20) [68, 69, 70] g31) [68, 69, 70] g42) 76 p1 (sm_lor (g7 76 p1) (g7 76 (639 : Int)))) 77 p1 (sm_lor (g7 77 p1) (g7 77 (639 : Int)))) := sm_upJ ok59 sm_r77 k64
                  have md66 : sv_mod [68, 69, 70, 81, 82, 83, 84, 85, 86, 71, 74, 75, 1127, 78, 79, 80, 72, 76, 77] S (sv_up (sv_up (sv_sts (sv_sts (sv_sts (sv_sts S [68, 69, 70, 81, 82, 83, 84, 85, 86, 71, 74, 75, 1127, 78, 79, 80, 76, 77] g7) [68, 69, 70] g20) [68, 69, 70] g31) [68, 69, 70] g42) 76 p1 (sm_lor (g7 76 p1) (g7 76 (639 : Int)))) 77 p1 (sm_lor (g7 77 p1) (g7 77 (639 : Int)))) := sv_mod.up md60 (by decide)
                  refine sv_iconst (d := (0 : Int)) hM dX12_flow_418 rfl rfl ?_
                  refine sv_istore hM dX12_flow_419 (by decide) rfl ?_
                  show sv_T sm_XS sm_cs sm_L sm_sh 3 (q_flow p1 S) 235 421 [(0, .ref 0), (1, sv_I p1), (2, sv_I s50), (3, sv_I r17), (4, sv_I (0 : Int))] [] (sv_up (sv_up (sv_sts (sv_sts (sv_sts (sv_sts S [68, 69, 70, 81, 82, 83, 84, 85, 86, 71, 74, 75, 1127, 78, 79, 80, 76, 77] g7) [68, 69, 70] g20) [68, 69, 70] g31) [68, 69, 70] g42) 76 p1 (sm_lor (g7 76 p1) (g7 76 (639 : Int)))) 77 p1 (sm_lor (g7 77 p1) (g7 77 (639 : Int))))
                  obtain ⟨hin71, h⟩ := h
                  have hJ : ∀ a : Int × Int × sv_S, (sv_R a.1 ∧ sv_R a.2.1 ∧ sm_ok (sv_sts (sv_up (sv_up (sv_sts (sv_sts (sv_sts (sv_sts S [68, 69, 70, 81, 82, 83, 84, 85, 86, 71, 74, 75, 1127, 78, 79, 80, 76, 77] g7) [68, 69, 70] g20) [68, 69, 70] g31) [68, 69, 70] g42) 76 p1 (sm_lor (g7 76 p1) (g7 76 (639 : Int)))) 77 p1 (sm_lor (g7 77 p1) (g7 77 (639 : Int)))) [81, 82, 83, 84, 85, 86] a.2.2) ∧ ((a.1 = 0 ∨ a.1 = 1) ∧ 0 ≤ a.2.1 ∧ a.2.1 ≤ (S 1071 0) ∧ (sm_cm (g7 71) + sm_pt (g42 68) (g42 69) (g42 70) + sm_pl (a.2.2 81) (a.2.2 82) (a.2.2 83) (a.2.2 84) (a.2.2 85) (a.2.2 86) + sm_ps (fun i' : Int => if i' = p1 then (sm_lor (g7 76 p1) (g7 76 (639 : Int))) else (g7 76) i') (fun i' : Int => if i' = p1 then (sm_lor (g7 77 p1) (g7 77 (639 : Int))) else (g7 77) i')) + a.1 ≤ (sm_cm (S 71) + sm_pt (S 68) (S 69) (S 70) + sm_pl (S 81) (S 82) (S 83) (S 84) (S 85) (S 86) + sm_ps (S 76) (S 77)))) → sv_T sm_XS sm_cs sm_L sm_sh 3 (q_flow p1 S) 235 421 [(0, .ref 0), (1, sv_I p1), (2, sv_I a.1), (3, sv_I r17), (4, sv_I a.2.1)] [] (sv_sts (sv_up (sv_up (sv_sts (sv_sts (sv_sts (sv_sts S [68, 69, 70, 81, 82, 83, 84, 85, 86, 71, 74, 75, 1127, 78, 79, 80, 76, 77] g7) [68, 69, 70] g20) [68, 69, 70] g31) [68, 69, 70] g42) 76 p1 (sm_lor (g7 76 p1) (g7 76 (639 : Int)))) 77 p1 (sm_lor (g7 77 p1) (g7 77 (639 : Int)))) [81, 82, 83, 84, 85, 86] a.2.2) := by
                    refine sv_loop (α := Int × Int × sv_S) (fun a => sv_R a.1 ∧ sv_R a.2.1 ∧ sm_ok (sv_sts (sv_up (sv_up (sv_sts (sv_sts (sv_sts (sv_sts S [68, 69, 70, 81, 82, 83, 84, 85, 86, 71, 74, 75, 1127, 78, 79, 80, 76, 77] g7) [68, 69, 70] g20) [68, 69, 70] g31) [68, 69, 70] g42) 76 p1 (sm_lor (g7 76 p1) (g7 76 (639 : Int)))) 77 p1 (sm_lor (g7 77 p1) (g7 77 (639 : Int)))) [81, 82, 83, 84, 85, 86] a.2.2) ∧ ((a.1 = 0 ∨ a.1 = 1) ∧ 0 ≤ a.2.1 ∧ a.2.1 ≤ (S 1071 0) ∧ (sm_cm (g7 71) + sm_pt (g42 68) (g42 69) (g42 70) + sm_pl (a.2.2 81) (a.2.2 82) (a.2.2 83) (a.2.2 84) (a.2.2 85) (a.2.2 86) + sm_ps (fun i' : Int => if i' = p1 then (sm_lor (g7 76 p1) (g7 76 (639 : Int))) else (g7 76) i') (fun i' : Int => if i' = p1 then (sm_lor (g7 77 p1) (g7 77 (639 : Int))) else (g7 77) i')) + a.1 ≤ (sm_cm (S 71) + sm_pt (S 68) (S 69) (S 70) + sm_pl (S 81) (S 82) (S 83) (S 84) (S 85) (S 86) + sm_ps (S 76) (S 77)))) (fun a => (S 1071 0) - a.2.1) (fun a => sv_T sm_XS sm_cs sm_L sm_sh 3 (q_flow p1 S) 235 421 [(0, .ref 0), (1, sv_I p1), (2, sv_I a.1), (3, sv_I r17), (4, sv_I a.2.1)] [] (sv_sts (sv_up (sv_up (sv_sts (sv_sts (sv_sts (sv_sts S [68, 69, 70, 81, 82, 83, 84, 85, 86, 71, 74, 75, 1127, 78, 79, 80, 76, 77] g7) [68, 69, 70] g20) [68, 69, 70] g31) [68, 69, 70] g42) 76 p1 (sm_lor (g7 76 p1) (g7 76 (639 : Int)))) 77 p1 (sm_lor (g7 77 p1) (g7 77 (639 : Int)))) [81, 82, 83, 84, 85, 86] a.2.2)) (fun a q => (h a.1 q.1 a.2.1 q.2.1 a.2.2 q.2.2.2).1) (fun a q ih70 => ?_)
                    obtain ⟨l2_68, l4_69, g67⟩ := a
                    obtain ⟨hl2_68, hl4_69, ok72, hin71i⟩ := q
                    have h := (h l2_68 hl2_68 l4_69 hl4_69 g67 hin71i).2
                    show sv_T sm_XS sm_cs sm_L sm_sh 3 (q_flow p1 S) 235 421 [(0, .ref 0), (1, sv_I p1), (2, sv_I l2_68), (3, sv_I r17), (4, sv_I l4_69)] [] (sv_sts (sv_up (sv_up (sv_sts (sv_sts (sv_sts (sv_sts S [68, 69, 70, 81, 82, 83, 84, 85, 86, 71, 74, 75, 1127, 78, 79, 80, 76, 77] g7) [68, 69, 70] g20) [68, 69, 70] g31) [68, 69, 70] g42) 76 p1 (sm_lor (g7 76 p1) (g7 76 (639 : Int)))) 77 p1 (sm_lor (g7 77 p1) (g7 77 (639 : Int)))) [81, 82, 83, 84, 85, 86] g67)
                    have md73 : sv_mod [68, 69, 70, 81, 82, 83, 84, 85, 86, 71, 74, 75, 1127, 78, 79, 80, 72, 76, 77] S (sv_sts (sv_up (sv_up (sv_sts (sv_sts (sv_sts (sv_sts S [68, 69, 70, 81, 82, 83, 84, 85, 86, 71, 74, 75, 1127, 78, 79, 80, 76, 77] g7) [68, 69, 70] g20) [68, 69, 70] g31) [68, 69, 70] g42) 76 p1 (sm_lor (g7 76 p1) (g7 76 (639 : Int)))) 77 p1 (sm_lor (g7 77 p1) (g7 77 (639 : Int)))) [81, 82, 83, 84, 85, 86] g67) := sv_mod.sts md66 (by decide)
                    have md74 : sv_mod [81, 82, 83, 84, 85, 86] (sv_up (sv_up (sv_sts (sv_sts (sv_sts (sv_sts S [68, 69, 70, 81, 82, 83, 84, 85, 86, 71, 74, 75, 1127, 78, 79, 80, 76, 77] g7) [68, 69, 70] g20) [68, 69, 70] g31) [68, 69, 70] g42) 76 p1 (sm_lor (g7 76 p1) (g7 76 (639 : Int)))) 77 p1 (sm_lor (g7 77 p1) (g7 77 (639 : Int)))) (sv_sts (sv_up (sv_up (sv_sts (sv_sts (sv_sts (sv_sts S [68, 69, 70, 81, 82, 83, 84, 85, 86, 71, 74, 75, 1127, 78, 79, 80, 76, 77] g7) [68, 69, 70] g20) [68, 69, 70] g31) [68, 69, 70] g42) 76 p1 (sm_lor (g7 76 p1) (g7 76 (639 : Int)))) 77 p1 (sm_lor (g7 77 p1) (g7 77 (639 : Int)))) [81, 82, 83, 84, 85, 86] g67) := sv_mod.sts sv_mod.rf (by decide)
                    refine sv_iload hM dX12_flow_421 rfl rfl ?_
                    refine sv_aload_n hM dX12_flow_423 rfl rfl ?_
                    refine sv_getI hM dX12_flow_424 sm_fl_765 (sm_a0 _) sm_k71 rfl (x := (S 1071 0)) rfl ?_
                    refine sv_icmp_ge hM dX12_flow_427 hl4_69 k28 (t := 469) rfl rfl (fun hc => ?_) (fun hc => ?_)
                    · have h := h.1 (hc)
                      refine sv_iload_n hM dX12_flow_469 rfl rfl ?_
                      refine sv_cond_ne hM dX12_flow_470 hl2_68 (t := 474) rfl rfl (fun hc => ?_) (fun hc => ?_)
                      · have h := h.1 (hc)
                        have k75 : (0 ≤ sm_du (S 72) ∧ sm_du (S 72) ≤ 640) := sm_du_b (fun x_ => sm_okZ ok72 sm_r72 x_)
                        have h := h k75
                        refine sv_iload_n hM dX12_flow_474 rfl rfl ?_
                        refine sv_aload_n hM dX12_flow_475 rfl rfl ?_
                        have k76 : sv_R (S 1046 0) := sm_okI ok72 sm_r1046 0
                        have h := h k76
                        refine sv_getI hM dX12_flow_476 sm_fl_606 (sm_a0 _) sm_k46 rfl (x := (S 1046 0)) rfl ?_
                        refine sv_icmp_ge hM dX12_flow_479 hp1 k76 (t := 492) rfl rfl (fun hc => ?_) (fun hc => ?_)
                        · have h := h.1 (hc)
                          have k77 : (0 ≤ sm_du (S 72) ∧ sm_du (S 72) ≤ 640) := sm_du_b (fun x_ => sm_okZ ok72 sm_r72 x_)
                          have h := h k77
                          refine sv_iconst (d := (0 : Int)) hM dX12_flow_492 rfl rfl ?_
                          refine sv_istore hM dX12_flow_493 (by decide) rfl ?_
                          show sv_T sm_XS sm_cs sm_L sm_sh 3 (q_flow p1 S) 235 495 [(0, .ref 0), (1, sv_I p1), (2, sv_I l2_68), (3, sv_I r17), (4, sv_I (0 : Int))] [] (sv_sts (sv_up (sv_up (sv_sts (sv_sts (sv_sts (sv_sts S [68, 69, 70, 81, 82, 83, 84, 85, 86, 71, 74, 75, 1127, 78, 79, 80, 76, 77] g7) [68, 69, 70] g20) [68, 69, 70] g31) [68, 69, 70] g42) 76 p1 (sm_lor (g7 76 p1) (g7 76 (639 : Int)))) 77 p1 (sm_lor (g7 77 p1) (g7 77 (639 : Int)))) [81, 82, 83, 84, 85, 86] g67)
                          obtain ⟨hin81, h⟩ := h
                          have hJ : ∀ a : Int × sv_S, (sv_R a.1 ∧ sm_ok (sv_sts (sv_sts (sv_up (sv_up (sv_sts (sv_sts (sv_sts (sv_sts S [68, 69, 70, 81, 82, 83, 84, 85, 86, 71, 74, 75, 1127, 78, 79, 80, 76, 77] g7) [68, 69, 70] g20) [68, 69, 70] g31) [68, 69, 70] g42) 76 p1 (sm_lor (g7 76 p1) (g7 76 (639 : Int)))) 77 p1 (sm_lor (g7 77 p1) (g7 77 (639 : Int)))) [81, 82, 83, 84, 85, 86] g67) [72] a.2) ∧ (0 ≤ a.1 ∧ a.1 ≤ (S 1046 0) ∧ sm_DR (a.2 72) (g7 71) (S 1046 0))) → sv_T sm_XS sm_cs sm_L sm_sh 3 (q_flow p1 S) 235 495 [(0, .ref 0), (1, sv_I p1), (2, sv_I l2_68), (3, sv_I r17), (4, sv_I a.1)] [] (sv_sts (sv_sts (sv_up (sv_up (sv_sts (sv_sts (sv_sts (sv_sts S [68, 69, 70, 81, 82, 83, 84, 85, 86, 71, 74, 75, 1127, 78, 79, 80, 76, 77] g7) [68, 69, 70] g20) [68, 69, 70] g31) [68, 69, 70] g42) 76 p1 (sm_lor (g7 76 p1) (g7 76 (639 : Int)))) 77 p1 (sm_lor (g7 77 p1) (g7 77 (639 : Int)))) [81, 82, 83, 84, 85, 86] g67) [72] a.2) := by
                            refine sv_loop (α := Int × sv_S) (fun a => sv_R a.1 ∧ sm_ok (sv_sts (sv_sts (sv_up (sv_up (sv_sts (sv_sts (sv_sts (sv_sts S [68, 69, 70, 81, 82, 83, 84, 85, 86, 71, 74, 75, 1127, 78, 79, 80, 76, 77] g7) [68, 69, 70] g20) [68, 69, 70] g31) [68, 69, 70] g42) 76 p1 (sm_lor (g7 76 p1) (g7 76 (639 : Int)))) 77 p1 (sm_lor (g7 77 p1) (g7 77 (639 : Int)))) [81, 82, 83, 84, 85, 86] g67) [72] a.2) ∧ (0 ≤ a.1 ∧ a.1 ≤ (S 1046 0) ∧ sm_DR (a.2 72) (g7 71) (S 1046 0))) (fun a => (S 1046 0) - a.1) (fun a => sv_T sm_XS sm_cs sm_L sm_sh 3 (q_flow p1 S) 235 495 [(0, .ref 0), (1, sv_I p1), (2, sv_I l2_68), (3, sv_I r17), (4, sv_I a.1)] [] (sv_sts (sv_sts (sv_up (sv_up (sv_sts (sv_sts (sv_sts (sv_sts S [68, 69, 70, 81, 82, 83, 84, 85, 86, 71, 74, 75, 1127, 78, 79, 80, 76, 77] g7) [68, 69, 70] g20) [68, 69, 70] g31) [68, 69, 70] g42) 76 p1 (sm_lor (g7 76 p1) (g7 76 (639 : Int)))) 77 p1 (sm_lor (g7 77 p1) (g7 77 (639 : Int)))) [81, 82, 83, 84, 85, 86] g67) [72] a.2)) (fun a q => (h a.1 q.1 a.2 q.2.2).1) (fun a q ih80 => ?_)
                            obtain ⟨l4_79, g78⟩ := a
                            obtain ⟨hl4_79, ok82, hin81i⟩ := q
                            have h := (h l4_79 hl4_79 g78 hin81i).2
                            show sv_T sm_XS sm_cs sm_L sm_sh 3 (q_flow p1 S) 235 495 [(0, .ref 0), (1, sv_I p1), (2, sv_I l2_68), (3, sv_I r17), (4, sv_I l4_79)] [] (sv_sts (sv_sts (sv_up (sv_up (sv_sts (sv_sts (sv_sts (sv_sts S [68, 69, 70, 81, 82, 83, 84, 85, 86, 71, 74, 75, 1127, 78, 79, 80, 76, 77] g7) [68, 69, 70] g20) [68, 69, 70] g31) [68, 69, 70] g42) 76 p1 (sm_lor (g7 76 p1) (g7 76 (639 : Int)))) 77 p1 (sm_lor (g7 77 p1) (g7 77 (639 : Int)))) [81, 82, 83, 84, 85, 86] g67) [72] g78)
                            have md83 : sv_mod [68, 69, 70, 81, 82, 83, 84, 85, 86, 71, 74, 75, 1127, 78, 79, 80, 72, 76, 77] S (sv_sts (sv_sts (sv_up (sv_up (sv_sts (sv_sts (sv_sts (sv_sts S [68, 69, 70, 81, 82, 83, 84, 85, 86, 71, 74, 75, 1127, 78, 79, 80, 76, 77] g7) [68, 69, 70] g20) [68, 69, 70] g31) [68, 69, 70] g42) 76 p1 (sm_lor (g7 76 p1) (g7 76 (639 : Int)))) 77 p1 (sm_lor (g7 77 p1) (g7 77 (639 : Int)))) [81, 82, 83, 84, 85, 86] g67) [72] g78) := sv_mod.sts md73 (by decide)
                            have md84 : sv_mod [72] (sv_sts (sv_up (sv_up (sv_sts (sv_sts (sv_sts (sv_sts S [68, 69, 70, 81, 82, 83, 84, 85, 86, 71, 74, 75, 1127, 78, 79, 80, 76, 77] g7) [68, 69, 70] g20) [68, 69, 70] g31) [68, 69, 70] g42) 76 p1 (sm_lor (g7 76 p1) (g7 76 (639 : Int)))) 77 p1 (sm_lor (g7 77 p1) (g7 77 (639 : Int)))) [81, 82, 83, 84, 85, 86] g67) (sv_sts (sv_sts (sv_up (sv_up (sv_sts (sv_sts (sv_sts (sv_sts S [68, 69, 70, 81, 82, 83, 84, 85, 86, 71, 74, 75, 1127, 78, 79, 80, 76, 77] g7) [68, 69, 70] g20) [68, 69, 70] g31) [68, 69, 70] g42) 76 p1 (sm_lor (g7 76 p1) (g7 76 (639 : Int)))) 77 p1 (sm_lor (g7 77 p1) (g7 77 (639 : Int)))) [81, 82, 83, 84, 85, 86] g67) [72] g78) := sv_mod.sts sv_mod.rf (by decide)
                            refine sv_iload hM dX12_flow_495 rfl rfl ?_
                            refine sv_aload_n hM dX12_flow_497 rfl rfl ?_
                            refine sv_getI hM dX12_flow_498 sm_fl_606 (sm_a0 _) sm_k46 rfl (x := (S 1046 0)) rfl ?_
                            refine sv_icmp_ge hM dX12_flow_501 hl4_79 k76 (t := 566) rfl rfl (fun hc => ?_) (fun hc => ?_)
                            · have h := h.1 (hc)
                              have k85 : (0 ≤ sm_du (g78 72) ∧ sm_du (g78 72) ≤ 640) := sm_du_b (fun x_ => sm_okZ ok82 sm_r72 x_)
                              have h := h k85
                              exact sv_vret hM dX12_flow_566 rfl ⟨rfl, ok82, md83, h⟩
                            · have h := h.2 (hc)
                              refine sv_aload_n hM dX12_flow_504 rfl rfl ?_
                              refine sv_getA hM dX12_flow_505 sm_fl_229 (sm_a0 _) sm_k123 rfl ?_
                              refine sv_iload hM dX12_flow_508 rfl rfl ?_
                              refine sv_aload_n hM dX12_flow_510 rfl rfl ?_
                              refine sv_getA hM dX12_flow_511 sm_fl_229 (sm_a0 _) sm_k123 rfl ?_
                              refine sv_iload hM dX12_flow_514 rfl rfl ?_
                              obtain ⟨o86, h⟩ := h
                              have k87 : (0 ≤ (g78 72 l4_79) ∧ (g78 72 l4_79) ≤ 1) := sm_okZ ok82 sm_r72 l4_79
                              have h := h k87
                              refine sv_zald hM dX12_flow_516 (sm_a72 _) (by decide) o86.1 o86.2 rfl (x := (g78 72 l4_79)) rfl ?_
                              refine sv_cond_ne hM dX12_flow_517 (sv_R01 k87) (t := 554) rfl rfl (fun hc => ?_) (fun hc => ?_)
                              · have h := h.1 (hc)
                                refine sv_iconst (d := (1 : Int)) hM dX12_flow_554 rfl rfl ?_
                                refine sv_goto hM dX12_flow_555 (pc' := 559) rfl ?_
                                refine sv_zast sm_X hM dX12_flow_559 (sm_a72 _) (by decide) o86.1 o86.2 (sv_nnZ (⟨by decide, by decide⟩ : 0 ≤ (1 : Int) ∧ (1 : Int) ≤ 1)) rfl ?_
                                have ok88 : sm_ok (sv_up (sv_sts (sv_sts (sv_up (sv_up (sv_sts (sv_sts (sv_sts (sv_sts S [68, 69, 70, 81, 82, 83, 84, 85, 86, 71, 74, 75, 1127, 78, 79, 80, 76, 77] g7) [68, 69, 70] g20) [68, 69, 70] g31) [68, 69, 70] g42) 76 p1 (sm_lor (g7 76 p1) (g7 76 (639 : Int)))) 77 p1 (sm_lor (g7 77 p1) (g7 77 (639 : Int)))) [81, 82, 83, 84, 85, 86] g67) [72] g78) 72 l4_79 (1 : Int)) := sm_upZ ok82 sm_r72 (⟨by decide, by decide⟩ : 0 ≤ (1 : Int) ∧ (1 : Int) ≤ 1)
                                have md89 : sv_mod [68, 69, 70, 81, 82, 83, 84, 85, 86, 71, 74, 75, 1127, 78, 79, 80, 72, 76, 77] S (sv_up (sv_sts (sv_sts (sv_up (sv_up (sv_sts (sv_sts (sv_sts (sv_sts S [68, 69, 70, 81, 82, 83, 84, 85, 86, 71, 74, 75, 1127, 78, 79, 80, 76, 77] g7) [68, 69, 70] g20) [68, 69, 70] g31) [68, 69, 70] g42) 76 p1 (sm_lor (g7 76 p1) (g7 76 (639 : Int)))) 77 p1 (sm_lor (g7 77 p1) (g7 77 (639 : Int)))) [81, 82, 83, 84, 85, 86] g67) [72] g78) 72 l4_79 (1 : Int)) := sv_mod.up md83 (by decide)
                                have md90 : sv_mod [72] (sv_sts (sv_up (sv_up (sv_sts (sv_sts (sv_sts (sv_sts S [68, 69, 70, 81, 82, 83, 84, 85, 86, 71, 74, 75, 1127, 78, 79, 80, 76, 77] g7) [68, 69, 70] g20) [68, 69, 70] g31) [68, 69, 70] g42) 76 p1 (sm_lor (g7 76 p1) (g7 76 (639 : Int)))) 77 p1 (sm_lor (g7 77 p1) (g7 77 (639 : Int)))) [81, 82, 83, 84, 85, 86] g67) (sv_up (sv_sts (sv_sts (sv_up (sv_up (sv_sts (sv_sts (sv_sts (sv_sts S [68, 69, 70, 81, 82, 83, 84, 85, 86, 71, 74, 75, 1127, 78, 79, 80, 76, 77] g7) [68, 69, 70] g20) [68, 69, 70] g31) [68, 69, 70] g42) 76 p1 (sm_lor (g7 76 p1) (g7 76 (639 : Int)))) 77 p1 (sm_lor (g7 77 p1) (g7 77 (639 : Int)))) [81, 82, 83, 84, 85, 86] g67) [72] g78) 72 l4_79 (1 : Int)) := sv_mod.up md84 (by decide)
                                have k91 : (0 ≤ sm_du (fun i' : Int => if i' = l4_79 then (1 : Int) else (g78 72) i') ∧ sm_du (fun i' : Int => if i' = l4_79 then (1 : Int) else (g78 72) i') ≤ 640) := sm_du_b (fun x_ => sm_okZ ok88 sm_r72 x_)
                                have h := h k91
                                refine sv_iinc (d := (1 : Int)) hM dX12_flow_560 rfl (by decide) rfl rfl ?_
                                show sv_T sm_XS sm_cs sm_L sm_sh 3 (q_flow p1 S) 235 563 [(0, .ref 0), (1, sv_I p1), (2, sv_I l2_68), (3, sv_I r17), (4, sv_I (l4_79 + (1 : Int)))] [] (sv_up (sv_sts (sv_sts (sv_up (sv_up (sv_sts (sv_sts (sv_sts (sv_sts S [68, 69, 70, 81, 82, 83, 84, 85, 86, 71, 74, 75, 1127, 78, 79, 80, 76, 77] g7) [68, 69, 70] g20) [68, 69, 70] g31) [68, 69, 70] g42) 76 p1 (sm_lor (g7 76 p1) (g7 76 (639 : Int)))) 77 p1 (sm_lor (g7 77 p1) (g7 77 (639 : Int)))) [81, 82, 83, 84, 85, 86] g67) [72] g78) 72 l4_79 (1 : Int))
                                refine sv_goto hM dX12_flow_563 (pc' := 495) rfl ?_
                                obtain ⟨o92, h⟩ := h
                                have eS := sv_mod.eq md90
                                have hb := ih80 ((l4_79 + (1 : Int)), (sv_up (sv_sts (sv_sts (sv_up (sv_up (sv_sts (sv_sts (sv_sts (sv_sts S [68, 69, 70, 81, 82, 83, 84, 85, 86, 71, 74, 75, 1127, 78, 79, 80, 76, 77] g7) [68, 69, 70] g20) [68, 69, 70] g31) [68, 69, 70] g42) 76 p1 (sm_lor (g7 76 p1) (g7 76 (639 : Int)))) 77 p1 (sm_lor (g7 77 p1) (g7 77 (639 : Int)))) [81, 82, 83, 84, 85, 86] g67) [72] g78) 72 l4_79 (1 : Int))) ⟨o92, (by rw [← eS]; exact ok88), h.1⟩ h.2
                                have hb : sv_T sm_XS sm_cs sm_L sm_sh 3 (q_flow p1 S) 235 495 [(0, .ref 0), (1, sv_I p1), (2, sv_I l2_68), (3, sv_I r17), (4, sv_I (l4_79 + (1 : Int)))] [] (sv_up (sv_sts (sv_sts (sv_up (sv_up (sv_sts (sv_sts (sv_sts (sv_sts S [68, 69, 70, 81, 82, 83, 84, 85, 86, 71, 74, 75, 1127, 78, 79, 80, 76, 77] g7) [68, 69, 70] g20) [68, 69, 70] g31) [68, 69, 70] g42) 76 p1 (sm_lor (g7 76 p1) (g7 76 (639 : Int)))) 77 p1 (sm_lor (g7 77 p1) (g7 77 (639 : Int)))) [81, 82, 83, 84, 85, 86] g67) [72] g78) 72 l4_79 (1 : Int)) := Eq.mpr (congrArg (fun Z => sv_T sm_XS sm_cs sm_L sm_sh 3 (q_flow p1 S) 235 495 [(0, .ref 0), (1, sv_I p1), (2, sv_I l2_68), (3, sv_I r17), (4, sv_I (l4_79 + (1 : Int)))] [] Z) eS) hb
                                exact sv_less (lv := [(0, .ref 0), (1, sv_I p1), (2, sv_I l2_68), (3, sv_I r17), (4, sv_I (l4_79 + (1 : Int)))]) (sv_Sub_cons rfl (sv_Sub_cons rfl (sv_Sub_cons rfl (sv_Sub_cons rfl (sv_Sub_cons rfl sv_Sub_nil))))) hb
                              · have h := h.2 (hc)
                                refine sv_aload_n hM dX12_flow_520 rfl rfl ?_
                                refine sv_getA hM dX12_flow_521 sm_fl_226 (sm_a0 _) sm_k122 rfl ?_
                                refine sv_iload hM dX12_flow_524 rfl rfl ?_
                                have k93 : (0 ≤ (g7 71 l4_79) ∧ (g7 71 l4_79) ≤ 1) := sm_okZ ok82 sm_r71 l4_79
                                have h := h k93
                                refine sv_zald hM dX12_flow_526 (sm_a71 _) (by decide) o86.1 o86.2 rfl (x := (g7 71 l4_79)) rfl ?_
                                refine sv_cond_eq hM dX12_flow_527 (sv_R01 k93) (t := 558) rfl rfl (fun hc => ?_) (fun hc => ?_)
                                · have h := h.1 (hc)
                                  refine sv_iconst (d := (0 : Int)) hM dX12_flow_558 rfl rfl ?_
                                  refine sv_zast sm_X hM dX12_flow_559 (sm_a72 _) (by decide) o86.1 o86.2 (sv_nnZ (⟨by decide, by decide⟩ : 0 ≤ (0 : Int) ∧ (0 : Int) ≤ 1)) rfl ?_
                                  have ok94 : sm_ok (sv_up (sv_sts (sv_sts (sv_up (sv_up (sv_sts (sv_sts (sv_sts (sv_sts S [68, 69, 70, 81, 82, 83, 84, 85, 86, 71, 74, 75, 1127, 78, 79, 80, 76, 77] g7) [68, 69, 70] g20) [68, 69, 70] g31) [68, 69, 70] g42) 76 p1 (sm_lor (g7 76 p1) (g7 76 (639 : Int)))) 77 p1 (sm_lor (g7 77 p1) (g7 77 (639 : Int)))) [81, 82, 83, 84, 85, 86] g67) [72] g78) 72 l4_79 (0 : Int)) := sm_upZ ok82 sm_r72 (⟨by decide, by decide⟩ : 0 ≤ (0 : Int) ∧ (0 : Int) ≤ 1)
                                  have md95 : sv_mod [68, 69, 70, 81, 82, 83, 84, 85, 86, 71, 74, 75, 1127, 78, 79, 80, 72, 76, 77] S (sv_up (sv_sts (sv_sts (sv_up (sv_up (sv_sts (sv_sts (sv_sts (sv_sts S [68, 69, 70, 81, 82, 83, 84, 85, 86, 71, 74, 75, 1127, 78, 79, 80, 76, 77] g7) [68, 69, 70] g20) [68, 69, 70] g31) [68, 69, 70] g42) 76 p1 (sm_lor (g7 76 p1) (g7 76 (639 : Int)))) 77 p1 (sm_lor (g7 77 p1) (g7 77 (639 : Int)))) [81, 82, 83, 84, 85, 86] g67) [72] g78) 72 l4_79 (0 : Int)) := sv_mod.up md83 (by decide)
                                  have md96 : sv_mod [72] (sv_sts (sv_up (sv_up (sv_sts (sv_sts (sv_sts (sv_sts S [68, 69, 70, 81, 82, 83, 84, 85, 86, 71, 74, 75, 1127, 78, 79, 80, 76, 77] g7) [68, 69, 70] g20) [68, 69, 70] g31) [68, 69, 70] g42) 76 p1 (sm_lor (g7 76 p1) (g7 76 (639 : Int)))) 77 p1 (sm_lor (g7 77 p1) (g7 77 (639 : Int)))) [81, 82, 83, 84, 85, 86] g67) (sv_up (sv_sts (sv_sts (sv_up (sv_up (sv_sts (sv_sts (sv_sts (sv_sts S [68, 69, 70, 81, 82, 83, 84, 85, 86, 71, 74, 75, 1127, 78, 79, 80, 76, 77] g7) [68, 69, 70] g20) [68, 69, 70] g31) [68, 69, 70] g42) 76 p1 (sm_lor (g7 76 p1) (g7 76 (639 : Int)))) 77 p1 (sm_lor (g7 77 p1) (g7 77 (639 : Int)))) [81, 82, 83, 84, 85, 86] g67) [72] g78) 72 l4_79 (0 : Int)) := sv_mod.up md84 (by decide)
                                  have k97 : (0 ≤ sm_du (fun i' : Int => if i' = l4_79 then (0 : Int) else (g78 72) i') ∧ sm_du (fun i' : Int => if i' = l4_79 then (0 : Int) else (g78 72) i') ≤ 640) := sm_du_b (fun x_ => sm_okZ ok94 sm_r72 x_)
                                  have h := h k97
                                  refine sv_iinc (d := (1 : Int)) hM dX12_flow_560 rfl (by decide) rfl rfl ?_
                                  show sv_T sm_XS sm_cs sm_L sm_sh 3 (q_flow p1 S) 235 563 [(0, .ref 0), (1, sv_I p1), (2, sv_I l2_68), (3, sv_I r17), (4, sv_I (l4_79 + (1 : Int)))] [] (sv_up (sv_sts (sv_sts (sv_up (sv_up (sv_sts (sv_sts (sv_sts (sv_sts S [68, 69, 70, 81, 82, 83, 84, 85, 86, 71, 74, 75, 1127, 78, 79, 80, 76, 77] g7) [68, 69, 70] g20) [68, 69, 70] g31) [68, 69, 70] g42) 76 p1 (sm_lor (g7 76 p1) (g7 76 (639 : Int)))) 77 p1 (sm_lor (g7 77 p1) (g7 77 (639 : Int)))) [81, 82, 83, 84, 85, 86] g67) [72] g78) 72 l4_79 (0 : Int))
                                  refine sv_goto hM dX12_flow_563 (pc' := 495) rfl ?_
                                  obtain ⟨o98, h⟩ := h
                                  have eS := sv_mod.eq md96
                                  have hb := ih80 ((l4_79 + (1 : Int)), (sv_up (sv_sts (sv_sts (sv_up (sv_up (sv_sts (sv_sts (sv_sts (sv_sts S [68, 69, 70, 81, 82, 83, 84, 85, 86, 71, 74, 75, 1127, 78, 79, 80, 76, 77] g7) [68, 69, 70] g20) [68, 69, 70] g31) [68, 69, 70] g42) 76 p1 (sm_lor (g7 76 p1) (g7 76 (639 : Int)))) 77 p1 (sm_lor (g7 77 p1) (g7 77 (639 : Int)))) [81, 82, 83, 84, 85, 86] g67) [72] g78) 72 l4_79 (0 : Int))) ⟨o98, (by rw [← eS]; exact ok94), h.1⟩ h.2
                                  have hb : sv_T sm_XS sm_cs sm_L sm_sh 3 (q_flow p1 S) 235 495 [(0, .ref 0), (1, sv_I p1), (2, sv_I l2_68), (3, sv_I r17), (4, sv_I (l4_79 + (1 : Int)))] [] (sv_up (sv_sts (sv_sts (sv_up (sv_up (sv_sts (sv_sts (sv_sts (sv_sts S [68, 69, 70, 81, 82, 83, 84, 85, 86, 71, 74, 75, 1127, 78, 79, 80, 76, 77] g7) [68, 69, 70] g20) [68, 69, 70] g31) [68, 69, 70] g42) 76 p1 (sm_lor (g7 76 p1) (g7 76 (639 : Int)))) 77 p1 (sm_lor (g7 77 p1) (g7 77 (639 : Int)))) [81, 82, 83, 84, 85, 86] g67) [72] g78) 72 l4_79 (0 : Int)) := Eq.mpr (congrArg (fun Z => sv_T sm_XS sm_cs sm_L sm_sh 3 (q_flow p1 S) 235 495 [(0, .ref 0), (1, sv_I p1), (2, sv_I l2_68), (3, sv_I r17), (4, sv_I (l4_79 + (1 : Int)))] [] Z) eS) hb
                                  exact sv_less (lv := [(0, .ref 0), (1, sv_I p1), (2, sv_I l2_68), (3, sv_I r17), (4, sv_I (l4_79 + (1 : Int)))]) (sv_Sub_cons rfl (sv_Sub_cons rfl (sv_Sub_cons rfl (sv_Sub_cons rfl (sv_Sub_cons rfl sv_Sub_nil))))) hb
                                · have h := h.2 (hc)
                                  refine sv_aload_n hM dX12_flow_530 rfl rfl ?_
                                  refine sv_getA hM dX12_flow_531 sm_fl_89 (sm_a0 _) sm_k48 rfl ?_
                                  refine sv_iload hM dX12_flow_534 rfl rfl ?_
                                  obtain ⟨o99, h⟩ := h
                                  have k100 : sv_R (S 26 l4_79) := sm_okI ok82 sm_r26 l4_79
                                  have h := h k100
                                  refine sv_iald hM dX12_flow_536 (sm_a26 _) (by decide) o99.1 o99.2 rfl (x := (S 26 l4_79)) rfl ?_
                                  refine sv_bipush (d := (15 : Int)) hM dX12_flow_537 rfl rfl ?_
                                  refine sv_icmp_eq hM dX12_flow_539 k100 (⟨by decide, by decide⟩ : sv_R (15 : Int)) (t := 554) rfl rfl (fun hc => ?_) (fun hc => ?_)
                                  · have h := h.1 (hc)
                                    refine sv_iconst (d := (1 : Int)) hM dX12_flow_554 rfl rfl ?_
                                    refine sv_goto hM dX12_flow_555 (pc' := 559) rfl ?_
                                    refine sv_zast sm_X hM dX12_flow_559 (sm_a72 _) (by decide) o86.1 o86.2 (sv_nnZ (⟨by decide, by decide⟩ : 0 ≤ (1 : Int) ∧ (1 : Int) ≤ 1)) rfl ?_
                                    have ok101 : sm_ok (sv_up (sv_sts (sv_sts (sv_up (sv_up (sv_sts (sv_sts (sv_sts (sv_sts S [68, 69, 70, 81, 82, 83, 84, 85, 86, 71, 74, 75, 1127, 78, 79, 80, 76, 77] g7) [68, 69, 70] g20) [68, 69, 70] g31) [68, 69, 70] g42) 76 p1 (sm_lor (g7 76 p1) (g7 76 (639 : Int)))) 77 p1 (sm_lor (g7 77 p1) (g7 77 (639 : Int)))) [81, 82, 83, 84, 85, 86] g67) [72] g78) 72 l4_79 (1 : Int)) := sm_upZ ok82 sm_r72 (⟨by decide, by decide⟩ : 0 ≤ (1 : Int) ∧ (1 : Int) ≤ 1)
                                    have md102 : sv_mod [68, 69, 70, 81, 82, 83, 84, 85, 86, 71, 74, 75, 1127, 78, 79, 80, 72, 76, 77] S (sv_up (sv_sts (sv_sts (sv_up (sv_up (sv_sts (sv_sts (sv_sts (sv_sts S [68, 69, 70, 81, 82, 83, 84, 85, 86, 71, 74, 75, 1127, 78, 79, 80, 76, 77] g7) [68, 69, 70] g20) [68, 69, 70] g31) [68, 69, 70] g42) 76 p1 (sm_lor (g7 76 p1) (g7 76 (639 : Int)))) 77 p1 (sm_lor (g7 77 p1) (g7 77 (639 : Int)))) [81, 82, 83, 84, 85, 86] g67) [72] g78) 72 l4_79 (1 : Int)) := sv_mod.up md83 (by decide)
                                    have md103 : sv_mod [72] (sv_sts (sv_up (sv_up (sv_sts (sv_sts (sv_sts (sv_sts S [68, 69, 70, 81, 82, 83, 84, 85, 86, 71, 74, 75, 1127, 78, 79, 80, 76, 77] g7) [68, 69, 70] g20) [68, 69, 70] g31) [68, 69, 70] g42) 76 p1 (sm_lor (g7 76 p1) (g7 76 (639 : Int)))) 77 p1 (sm_lor (g7 77 p1) (g7 77 (639 : Int)))) [81, 82, 83, 84, 85, 86] g67) (sv_up (sv_sts (sv_sts (sv_up (sv_up (sv_sts (sv_sts (sv_sts (sv_sts S [68, 69, 70, 81, 82, 83, 84, 85, 86, 71, 74, 75, 1127, 78, 79, 80, 76, 77] g7) [68, 69, 70] g20) [68, 69, 70] g31) [68, 69, 70] g42) 76 p1 (sm_lor (g7 76 p1) (g7 76 (639 : Int)))) 77 p1 (sm_lor (g7 77 p1) (g7 77 (639 : Int)))) [81, 82, 83, 84, 85, 86] g67) [72] g78) 72 l4_79 (1 : Int)) := sv_mod.up md84 (by decide)
                                    have k104 : (0 ≤ sm_du (fun i' : Int => if i' = l4_79 then (1 : Int) else (g78 72) i') ∧ sm_du (fun i' : Int => if i' = l4_79 then (1 : Int) else (g78 72) i') ≤ 640) := sm_du_b (fun x_ => sm_okZ ok101 sm_r72 x_)
                                    have h := h k104
                                    refine sv_iinc (d := (1 : Int)) hM dX12_flow_560 rfl (by decide) rfl rfl ?_
                                    show sv_T sm_XS sm_cs sm_L sm_sh 3 (q_flow p1 S) 235 563 [(0, .ref 0), (1, sv_I p1), (2, sv_I l2_68), (3, sv_I r17), (4, sv_I (l4_79 + (1 : Int)))] [] (sv_up (sv_sts (sv_sts (sv_up (sv_up (sv_sts (sv_sts (sv_sts (sv_sts S [68, 69, 70, 81, 82, 83, 84, 85, 86, 71, 74, 75, 1127, 78, 79, 80, 76, 77] g7) [68, 69, 70] g20) [68, 69, 70] g31) [68, 69, 70] g42) 76 p1 (sm_lor (g7 76 p1) (g7 76 (639 : Int)))) 77 p1 (sm_lor (g7 77 p1) (g7 77 (639 : Int)))) [81, 82, 83, 84, 85, 86] g67) [72] g78) 72 l4_79 (1 : Int))
                                    refine sv_goto hM dX12_flow_563 (pc' := 495) rfl ?_
                                    obtain ⟨o105, h⟩ := h
                                    have eS := sv_mod.eq md103
                                    have hb := ih80 ((l4_79 + (1 : Int)), (sv_up (sv_sts (sv_sts (sv_up (sv_up (sv_sts (sv_sts (sv_sts (sv_sts S [68, 69, 70, 81, 82, 83, 84, 85, 86, 71, 74, 75, 1127, 78, 79, 80, 76, 77] g7) [68, 69, 70] g20) [68, 69, 70] g31) [68, 69, 70] g42) 76 p1 (sm_lor (g7 76 p1) (g7 76 (639 : Int)))) 77 p1 (sm_lor (g7 77 p1) (g7 77 (639 : Int)))) [81, 82, 83, 84, 85, 86] g67) [72] g78) 72 l4_79 (1 : Int))) ⟨o105, (by rw [← eS]; exact ok101), h.1⟩ h.2
                                    have hb : sv_T sm_XS sm_cs sm_L sm_sh 3 (q_flow p1 S) 235 495 [(0, .ref 0), (1, sv_I p1), (2, sv_I l2_68), (3, sv_I r17), (4, sv_I (l4_79 + (1 : Int)))] [] (sv_up (sv_sts (sv_sts (sv_up (sv_up (sv_sts (sv_sts (sv_sts (sv_sts S [68, 69, 70, 81, 82, 83, 84, 85, 86, 71, 74, 75, 1127, 78, 79, 80, 76, 77] g7) [68, 69, 70] g20) [68, 69, 70] g31) [68, 69, 70] g42) 76 p1 (sm_lor (g7 76 p1) (g7 76 (639 : Int)))) 77 p1 (sm_lor (g7 77 p1) (g7 77 (639 : Int)))) [81, 82, 83, 84, 85, 86] g67) [72] g78) 72 l4_79 (1 : Int)) := Eq.mpr (congrArg (fun Z => sv_T sm_XS sm_cs sm_L sm_sh 3 (q_flow p1 S) 235 495 [(0, .ref 0), (1, sv_I p1), (2, sv_I l2_68), (3, sv_I r17), (4, sv_I (l4_79 + (1 : Int)))] [] Z) eS) hb
                                    exact sv_less (lv := [(0, .ref 0), (1, sv_I p1), (2, sv_I l2_68), (3, sv_I r17), (4, sv_I (l4_79 + (1 : Int)))]) (sv_Sub_cons rfl (sv_Sub_cons rfl (sv_Sub_cons rfl (sv_Sub_cons rfl (sv_Sub_cons rfl sv_Sub_nil))))) hb
                                  · have h := h.2 (hc)
                                    refine sv_aload_n hM dX12_flow_542 rfl rfl ?_
                                    refine sv_getA hM dX12_flow_543 sm_fl_89 (sm_a0 _) sm_k48 rfl ?_
                                    refine sv_iload hM dX12_flow_546 rfl rfl ?_
                                    refine sv_iald hM dX12_flow_548 (sm_a26 _) (by decide) o99.1 o99.2 rfl (x := (S 26 l4_79)) rfl ?_
                                    refine sv_bipush (d := (16 : Int)) hM dX12_flow_549 rfl rfl ?_
                                    refine sv_icmp_ne hM dX12_flow_551 k100 (⟨by decide, by decide⟩ : sv_R (16 : Int)) (t := 558) rfl rfl (fun hc => ?_) (fun hc => ?_)
                                    · have h := h.1 (hc)
                                      refine sv_iconst (d := (0 : Int)) hM dX12_flow_558 rfl rfl ?_
                                      refine sv_zast sm_X hM dX12_flow_559 (sm_a72 _) (by decide) o86.1 o86.2 (sv_nnZ (⟨by decide, by decide⟩ : 0 ≤ (0 : Int) ∧ (0 : Int) ≤ 1)) rfl ?_
                                      have ok106 : sm_ok (sv_up (sv_sts (sv_sts (sv_up (sv_up (sv_sts (sv_sts (sv_sts (sv_sts S [68, 69, 70, 81, 82, 83, 84, 85, 86, 71, 74, 75, 1127, 78, 79, 80, 76, 77] g7) [68, 69, 70] g20) [68, 69, 70] g31) [68, 69, 70] g42) 76 p1 (sm_lor (g7 76 p1) (g7 76 (639 : Int)))) 77 p1 (sm_lor (g7 77 p1) (g7 77 (639 : Int)))) [81, 82, 83, 84, 85, 86] g67) [72] g78) 72 l4_79 (0 : Int)) := sm_upZ ok82 sm_r72 (⟨by decide, by decide⟩ : 0 ≤ (0 : Int) ∧ (0 : Int) ≤ 1)
                                      have md107 : sv_mod [68, 69, 70, 81, 82, 83, 84, 85, 86, 71, 74, 75, 1127, 78, 79, 80, 72, 76, 77] S (sv_up (sv_sts (sv_sts (sv_up (sv_up (sv_sts (sv_sts (sv_sts (sv_sts S [68, 69, 70, 81, 82, 83, 84, 85, 86, 71, 74, 75, 1127, 78, 79, 80, 76, 77] g7) [68, 69, 70] g20) [68, 69, 70] g31) [68, 69, 70] g42) 76 p1 (sm_lor (g7 76 p1) (g7 76 (639 : Int)))) 77 p1 (sm_lor (g7 77 p1) (g7 77 (639 : Int)))) [81, 82, 83, 84, 85, 86] g67) [72] g78) 72 l4_79 (0 : Int)) := sv_mod.up md83 (by decide)
                                      have md108 : sv_mod [72] (sv_sts (sv_up (sv_up (sv_sts (sv_sts (sv_sts (sv_sts S [68, 69, 70, 81, 82, 83, 84, 85, 86, 71, 74, 75, 1127, 78, 79, 80, 76, 77] g7) [68, 69, 70] g20) [68, 69, 70] g31) [68, 69, 70] g42) 76 p1 (sm_lor (g7 76 p1) (g7 76 (639 : Int)))) 77 p1 (sm_lor (g7 77 p1) (g7 77 (639 : Int)))) [81, 82, 83, 84, 85, 86] g67) (sv_up (sv_sts (sv_sts (sv_up (sv_up (sv_sts (sv_sts (sv_sts (sv_sts S [68, 69, 70, 81, 82, 83, 84, 85, 86, 71, 74, 75, 1127, 78, 79, 80, 76, 77] g7) [68, 69, 70] g20) [68, 69, 70] g31) [68, 69, 70] g42) 76 p1 (sm_lor (g7 76 p1) (g7 76 (639 : Int)))) 77 p1 (sm_lor (g7 77 p1) (g7 77 (639 : Int)))) [81, 82, 83, 84, 85, 86] g67) [72] g78) 72 l4_79 (0 : Int)) := sv_mod.up md84 (by decide)
                                      have k109 : (0 ≤ sm_du (fun i' : Int => if i' = l4_79 then (0 : Int) else (g78 72) i') ∧ sm_du (fun i' : Int => if i' = l4_79 then (0 : Int) else (g78 72) i') ≤ 640) := sm_du_b (fun x_ => sm_okZ ok106 sm_r72 x_)
                                      have h := h k109
                                      refine sv_iinc (d := (1 : Int)) hM dX12_flow_560 rfl (by decide) rfl rfl ?_
                                      show sv_T sm_XS sm_cs sm_L sm_sh 3 (q_flow p1 S) 235 563 [(0, .ref 0), (1, sv_I p1), (2, sv_I l2_68), (3, sv_I r17), (4, sv_I (l4_79 + (1 : Int)))] [] (sv_up (sv_sts (sv_sts (sv_up (sv_up (sv_sts (sv_sts (sv_sts (sv_sts S [68, 69, 70, 81, 82, 83, 84, 85, 86, 71, 74, 75, 1127, 78, 79, 80, 76, 77] g7) [68, 69, 70] g20) [68, 69, 70] g31) [68, 69, 70] g42) 76 p1 (sm_lor (g7 76 p1) (g7 76 (639 : Int)))) 77 p1 (sm_lor (g7 77 p1) (g7 77 (639 : Int)))) [81, 82, 83, 84, 85, 86] g67) [72] g78) 72 l4_79 (0 : Int))
                                      refine sv_goto hM dX12_flow_563 (pc' := 495) rfl ?_
                                      obtain ⟨o110, h⟩ := h
                                      have eS := sv_mod.eq md108
                                      have hb := ih80 ((l4_79 + (1 : Int)), (sv_up (sv_sts (sv_sts (sv_up (sv_up (sv_sts (sv_sts (sv_sts (sv_sts S [68, 69, 70, 81, 82, 83, 84, 85, 86, 71, 74, 75, 1127, 78, 79, 80, 76, 77] g7) [68, 69, 70] g20) [68, 69, 70] g31) [68, 69, 70] g42) 76 p1 (sm_lor (g7 76 p1) (g7 76 (639 : Int)))) 77 p1 (sm_lor (g7 77 p1) (g7 77 (639 : Int)))) [81, 82, 83, 84, 85, 86] g67) [72] g78) 72 l4_79 (0 : Int))) ⟨o110, (by rw [← eS]; exact ok106), h.1⟩ h.2
                                      have hb : sv_T sm_XS sm_cs sm_L sm_sh 3 (q_flow p1 S) 235 495 [(0, .ref 0), (1, sv_I p1), (2, sv_I l2_68), (3, sv_I r17), (4, sv_I (l4_79 + (1 : Int)))] [] (sv_up (sv_sts (sv_sts (sv_up (sv_up (sv_sts (sv_sts (sv_sts (sv_sts S [68, 69, 70, 81, 82, 83, 84, 85, 86, 71, 74, 75, 1127, 78, 79, 80, 76, 77] g7) [68, 69, 70] g20) [68, 69, 70] g31) [68, 69, 70] g42) 76 p1 (sm_lor (g7 76 p1) (g7 76 (639 : Int)))) 77 p1 (sm_lor (g7 77 p1) (g7 77 (639 : Int)))) [81, 82, 83, 84, 85, 86] g67) [72] g78) 72 l4_79 (0 : Int)) := Eq.mpr (congrArg (fun Z => sv_T sm_XS sm_cs sm_L sm_sh 3 (q_flow p1 S) 235 495 [(0, .ref 0), (1, sv_I p1), (2, sv_I l2_68), (3, sv_I r17), (4, sv_I (l4_79 + (1 : Int)))] [] Z) eS) hb
                                      exact sv_less (lv := [(0, .ref 0), (1, sv_I p1), (2, sv_I l2_68), (3, sv_I r17), (4, sv_I (l4_79 + (1 : Int)))]) (sv_Sub_cons rfl (sv_Sub_cons rfl (sv_Sub_cons rfl (sv_Sub_cons rfl (sv_Sub_cons rfl sv_Sub_nil))))) hb
                                    · have h := h.2 (hc)
                                      refine sv_iconst (d := (1 : Int)) hM dX12_flow_554 rfl rfl ?_
                                      refine sv_goto hM dX12_flow_555 (pc' := 559) rfl ?_
                                      refine sv_zast sm_X hM dX12_flow_559 (sm_a72 _) (by decide) o86.1 o86.2 (sv_nnZ (⟨by decide, by decide⟩ : 0 ≤ (1 : Int) ∧ (1 : Int) ≤ 1)) rfl ?_
                                      have ok111 : sm_ok (sv_up (sv_sts (sv_sts (sv_up (sv_up (sv_sts (sv_sts (sv_sts (sv_sts S [68, 69, 70, 81, 82, 83, 84, 85, 86, 71, 74, 75, 1127, 78, 79, 80, 76, 77] g7) [68, 69, 70] g20) [68, 69, 70] g31) [68, 69, 70] g42) 76 p1 (sm_lor (g7 76 p1) (g7 76 (639 : Int)))) 77 p1 (sm_lor (g7 77 p1) (g7 77 (639 : Int)))) [81, 82, 83, 84, 85, 86] g67) [72] g78) 72 l4_79 (1 : Int)) := sm_upZ ok82 sm_r72 (⟨by decide, by decide⟩ : 0 ≤ (1 : Int) ∧ (1 : Int) ≤ 1)
                                      have md112 : sv_mod [68, 69, 70, 81, 82, 83, 84, 85, 86, 71, 74, 75, 1127, 78, 79, 80, 72, 76, 77] S (sv_up (sv_sts (sv_sts (sv_up (sv_up (sv_sts (sv_sts (sv_sts (sv_sts S [68, 69, 70, 81, 82, 83, 84, 85, 86, 71, 74, 75, 1127, 78, 79, 80, 76, 77] g7) [68, 69, 70] g20) [68, 69, 70] g31) [68, 69, 70] g42) 76 p1 (sm_lor (g7 76 p1) (g7 76 (639 : Int)))) 77 p1 (sm_lor (g7 77 p1) (g7 77 (639 : Int)))) [81, 82, 83, 84, 85, 86] g67) [72] g78) 72 l4_79 (1 : Int)) := sv_mod.up md83 (by decide)
                                      have md113 : sv_mod [72] (sv_sts (sv_up (sv_up (sv_sts (sv_sts (sv_sts (sv_sts S [68, 69, 70, 81, 82, 83, 84, 85, 86, 71, 74, 75, 1127, 78, 79, 80, 76, 77] g7) [68, 69, 70] g20) [68, 69, 70] g31) [68, 69, 70] g42) 76 p1 (sm_lor (g7 76 p1) (g7 76 (639 : Int)))) 77 p1 (sm_lor (g7 77 p1) (g7 77 (639 : Int)))) [81, 82, 83, 84, 85, 86] g67) (sv_up (sv_sts (sv_sts (sv_up (sv_up (sv_sts (sv_sts (sv_sts (sv_sts S [68, 69, 70, 81, 82, 83, 84, 85, 86, 71, 74, 75, 1127, 78, 79, 80, 76, 77] g7) [68, 69, 70] g20) [68, 69, 70] g31) [68, 69, 70] g42) 76 p1 (sm_lor (g7 76 p1) (g7 76 (639 : Int)))) 77 p1 (sm_lor (g7 77 p1) (g7 77 (639 : Int)))) [81, 82, 83, 84, 85, 86] g67) [72] g78) 72 l4_79 (1 : Int)) := sv_mod.up md84 (by decide)
                                      have k114 : (0 ≤ sm_du (fun i' : Int => if i' = l4_79 then (1 : Int) else (g78 72) i') ∧ sm_du (fun i' : Int => if i' = l4_79 then (1 : Int) else (g78 72) i') ≤ 640) := sm_du_b (fun x_ => sm_okZ ok111 sm_r72 x_)
                                      have h := h k114
                                      refine sv_iinc (d := (1 : Int)) hM dX12_flow_560 rfl (by decide) rfl rfl ?_
                                      show sv_T sm_XS sm_cs sm_L sm_sh 3 (q_flow p1 S) 235 563 [(0, .ref 0), (1, sv_I p1), (2, sv_I l2_68), (3, sv_I r17), (4, sv_I (l4_79 + (1 : Int)))] [] (sv_up (sv_sts (sv_sts (sv_up (sv_up (sv_sts (sv_sts (sv_sts (sv_sts S [68, 69, 70, 81, 82, 83, 84, 85, 86, 71, 74, 75, 1127, 78, 79, 80, 76, 77] g7) [68, 69, 70] g20) [68, 69, 70] g31) [68, 69, 70] g42) 76 p1 (sm_lor (g7 76 p1) (g7 76 (639 : Int)))) 77 p1 (sm_lor (g7 77 p1) (g7 77 (639 : Int)))) [81, 82, 83, 84, 85, 86] g67) [72] g78) 72 l4_79 (1 : Int))
                                      refine sv_goto hM dX12_flow_563 (pc' := 495) rfl ?_
                                      obtain ⟨o115, h⟩ := h
                                      have eS := sv_mod.eq md113
                                      have hb := ih80 ((l4_79 + (1 : Int)), (sv_up (sv_sts (sv_sts (sv_up (sv_up (sv_sts (sv_sts (sv_sts (sv_sts S [68, 69, 70, 81, 82, 83, 84, 85, 86, 71, 74, 75, 1127, 78, 79, 80, 76, 77] g7) [68, 69, 70] g20) [68, 69, 70] g31) [68, 69, 70] g42) 76 p1 (sm_lor (g7 76 p1) (g7 76 (639 : Int)))) 77 p1 (sm_lor (g7 77 p1) (g7 77 (639 : Int)))) [81, 82, 83, 84, 85, 86] g67) [72] g78) 72 l4_79 (1 : Int))) ⟨o115, (by rw [← eS]; exact ok111), h.1⟩ h.2
                                      have hb : sv_T sm_XS sm_cs sm_L sm_sh 3 (q_flow p1 S) 235 495 [(0, .ref 0), (1, sv_I p1), (2, sv_I l2_68), (3, sv_I r17), (4, sv_I (l4_79 + (1 : Int)))] [] (sv_up (sv_sts (sv_sts (sv_up (sv_up (sv_sts (sv_sts (sv_sts (sv_sts S [68, 69, 70, 81, 82, 83, 84, 85, 86, 71, 74, 75, 1127, 78, 79, 80, 76, 77] g7) [68, 69, 70] g20) [68, 69, 70] g31) [68, 69, 70] g42) 76 p1 (sm_lor (g7 76 p1) (g7 76 (639 : Int)))) 77 p1 (sm_lor (g7 77 p1) (g7 77 (639 : Int)))) [81, 82, 83, 84, 85, 86] g67) [72] g78) 72 l4_79 (1 : Int)) := Eq.mpr (congrArg (fun Z => sv_T sm_XS sm_cs sm_L sm_sh 3 (q_flow p1 S) 235 495 [(0, .ref 0), (1, sv_I p1), (2, sv_I l2_68), (3, sv_I r17), (4, sv_I (l4_79 + (1 : Int)))] [] Z) eS) hb
                                      exact sv_less (lv := [(0, .ref 0), (1, sv_I p1), (2, sv_I l2_68), (3, sv_I r17), (4, sv_I (l4_79 + (1 : Int)))]) (sv_Sub_cons rfl (sv_Sub_cons rfl (sv_Sub_cons rfl (sv_Sub_cons rfl (sv_Sub_cons rfl sv_Sub_nil))))) hb
                          have eS := sv_mod.eq (sv_mod.rf (l := [72]) (S := (sv_sts (sv_up (sv_up (sv_sts (sv_sts (sv_sts (sv_sts S [68, 69, 70, 81, 82, 83, 84, 85, 86, 71, 74, 75, 1127, 78, 79, 80, 76, 77] g7) [68, 69, 70] g20) [68, 69, 70] g31) [68, 69, 70] g42) 76 p1 (sm_lor (g7 76 p1) (g7 76 (639 : Int)))) 77 p1 (sm_lor (g7 77 p1) (g7 77 (639 : Int)))) [81, 82, 83, 84, 85, 86] g67)))
                          have hb := hJ ((0 : Int), (sv_sts (sv_up (sv_up (sv_sts (sv_sts (sv_sts (sv_sts S [68, 69, 70, 81, 82, 83, 84, 85, 86, 71, 74, 75, 1127, 78, 79, 80, 76, 77] g7) [68, 69, 70] g20) [68, 69, 70] g31) [68, 69, 70] g42) 76 p1 (sm_lor (g7 76 p1) (g7 76 (639 : Int)))) 77 p1 (sm_lor (g7 77 p1) (g7 77 (639 : Int)))) [81, 82, 83, 84, 85, 86] g67)) ⟨(⟨by decide, by decide⟩ : sv_R (0 : Int)), (by rw [← eS]; exact ok72), hin81⟩
                          have hb : sv_T sm_XS sm_cs sm_L sm_sh 3 (q_flow p1 S) 235 495 [(0, .ref 0), (1, sv_I p1), (2, sv_I l2_68), (3, sv_I r17), (4, sv_I (0 : Int))] [] (sv_sts (sv_up (sv_up (sv_sts (sv_sts (sv_sts (sv_sts S [68, 69, 70, 81, 82, 83, 84, 85, 86, 71, 74, 75, 1127, 78, 79, 80, 76, 77] g7) [68, 69, 70] g20) [68, 69, 70] g31) [68, 69, 70] g42) 76 p1 (sm_lor (g7 76 p1) (g7 76 (639 : Int)))) 77 p1 (sm_lor (g7 77 p1) (g7 77 (639 : Int)))) [81, 82, 83, 84, 85, 86] g67) := Eq.mpr (congrArg (fun Z => sv_T sm_XS sm_cs sm_L sm_sh 3 (q_flow p1 S) 235 495 [(0, .ref 0), (1, sv_I p1), (2, sv_I l2_68), (3, sv_I r17), (4, sv_I (0 : Int))] [] Z) eS) hb
                          exact hb
                        · have h := h.2 (hc)
                          have k116 : (0 ≤ sm_du (fun i' : Int => if i' = p1 then 1 else (S 72) i') ∧ sm_du (fun i' : Int => if i' = p1 then 1 else (S 72) i') ≤ 640) := sm_du_b (fun x_ => sm_01 ((fun x_ => sm_okZ ok72 sm_r72 x_) x_))
                          have h := h k116
                          refine sv_aload_n hM dX12_flow_482 rfl rfl ?_
                          refine sv_getA hM dX12_flow_483 sm_fl_229 (sm_a0 _) sm_k123 rfl ?_
                          refine sv_iload_n hM dX12_flow_486 rfl rfl ?_
                          refine sv_iconst (d := (1 : Int)) hM dX12_flow_487 rfl rfl ?_
                          refine sv_zast sm_X hM dX12_flow_488 (sm_a72 _) (by decide) o40.1 o40.2 (sv_nnZ (⟨by decide, by decide⟩ : 0 ≤ (1 : Int) ∧ (1 : Int) ≤ 1)) rfl ?_
                          have ok117 : sm_ok (sv_up (sv_sts (sv_up (sv_up (sv_sts (sv_sts (sv_sts (sv_sts S [68, 69, 70, 81, 82, 83, 84, 85, 86, 71, 74, 75, 1127, 78, 79, 80, 76, 77] g7) [68, 69, 70] g20) [68, 69, 70] g31) [68, 69, 70] g42) 76 p1 (sm_lor (g7 76 p1) (g7 76 (639 : Int)))) 77 p1 (sm_lor (g7 77 p1) (g7 77 (639 : Int)))) [81, 82, 83, 84, 85, 86] g67) 72 p1 (1 : Int)) := sm_upZ ok72 sm_r72 (⟨by decide, by decide⟩ : 0 ≤ (1 : Int) ∧ (1 : Int) ≤ 1)
                          have md118 : sv_mod [68, 69, 70, 81, 82, 83, 84, 85, 86, 71, 74, 75, 1127, 78, 79, 80, 72, 76, 77] S (sv_up (sv_sts (sv_up (sv_up (sv_sts (sv_sts (sv_sts (sv_sts S [68, 69, 70, 81, 82, 83, 84, 85, 86, 71, 74, 75, 1127, 78, 79, 80, 76, 77] g7) [68, 69, 70] g20) [68, 69, 70] g31) [68, 69, 70] g42) 76 p1 (sm_lor (g7 76 p1) (g7 76 (639 : Int)))) 77 p1 (sm_lor (g7 77 p1) (g7 77 (639 : Int)))) [81, 82, 83, 84, 85, 86] g67) 72 p1 (1 : Int)) := sv_mod.up md73 (by decide)
                          refine sv_goto hM dX12_flow_489 (pc' := 566) rfl ?_
                          have k119 : (0 ≤ sm_du (fun i' : Int => if i' = p1 then (1 : Int) else (S 72) i') ∧ sm_du (fun i' : Int => if i' = p1 then (1 : Int) else (S 72) i') ≤ 640) := sm_du_b (fun x_ => sm_okZ ok117 sm_r72 x_)
                          have h := h k119
                          exact sv_vret hM dX12_flow_566 rfl ⟨rfl, ok117, md118, h⟩
                      · have h := h.2 (hc)
                        exact sv_vret hM dX12_flow_473 rfl ⟨rfl, ok72, md73, h⟩
                    · have h := h.2 (hc)
                      have J128 : ∀ s121 : Int, sv_R s121 → ∀ g120 : sv_S, sm_ok (sv_sts (sv_sts (sv_up (sv_up (sv_sts (sv_sts (sv_sts (sv_sts S [68, 69, 70, 81, 82, 83, 84, 85, 86, 71, 74, 75, 1127, 78, 79, 80, 76, 77] g7) [68, 69, 70] g20) [68, 69, 70] g31) [68, 69, 70] g42) 76 p1 (sm_lor (g7 76 p1) (g7 76 (639 : Int)))) 77 p1 (sm_lor (g7 77 p1) (g7 77 (639 : Int)))) [81, 82, 83, 84, 85, 86] g67) [81, 82, 83, 84, 85, 86] g120) → ((s121 = 0 ∨ s121 = 1) ∧ (sm_cm (g7 71) + sm_pt (g42 68) (g42 69) (g42 70) + sm_pl (g120 81) (g120 82) (g120 83) (g120 84) (g120 85) (g120 86) + sm_ps (fun i' : Int => if i' = p1 then (sm_lor (g7 76 p1) (g7 76 (639 : Int))) else (g7 76) i') (fun i' : Int => if i' = p1 then (sm_lor (g7 77 p1) (g7 77 (639 : Int))) else (g7 77) i')) + s121 ≤ (sm_cm (S 71) + sm_pt (S 68) (S 69) (S 70) + sm_pl (S 81) (S 82) (S 83) (S 84) (S 85) (S 86) + sm_ps (S 76) (S 77))) → sv_T sm_XS sm_cs sm_L sm_sh 3 (q_flow p1 S) 235 462 [(0, .ref 0), (1, sv_I p1), (2, sv_I l2_68), (3, sv_I r17), (4, sv_I l4_69)] [sv_I s121] (sv_sts (sv_sts (sv_up (sv_up (sv_sts (sv_sts (sv_sts (sv_sts S [68, 69, 70, 81, 82, 83, 84, 85, 86, 71, 74, 75, 1127, 78, 79, 80, 76, 77] g7) [68, 69, 70] g20) [68, 69, 70] g31) [68, 69, 70] g42) 76 p1 (sm_lor (g7 76 p1) (g7 76 (639 : Int)))) 77 p1 (sm_lor (g7 77 p1) (g7 77 (639 : Int)))) [81, 82, 83, 84, 85, 86] g67) [81, 82, 83, 84, 85, 86] g120) := by
                        intro s121 hs121 g120 ok122 hin123
                        have h := h.1 s121 hs121 g120 hin123
                        have md124 : sv_mod [68, 69, 70, 81, 82, 83, 84, 85, 86, 71, 74, 75, 1127, 78, 79, 80, 72, 76, 77] S (sv_sts (sv_sts (sv_up (sv_up (sv_sts (sv_sts (sv_sts (sv_sts S [68, 69, 70, 81, 82, 83, 84, 85, 86, 71, 74, 75, 1127, 78, 79, 80, 76, 77] g7) [68, 69, 70] g20) [68, 69, 70] g31) [68, 69, 70] g42) 76 p1 (sm_lor (g7 76 p1) (g7 76 (639 : Int)))) 77 p1 (sm_lor (g7 77 p1) (g7 77 (639 : Int)))) [81, 82, 83, 84, 85, 86] g67) [81, 82, 83, 84, 85, 86] g120) := sv_mod.sts md73 (by decide)
                        have md125 : sv_mod [81, 82, 83, 84, 85, 86] (sv_up (sv_up (sv_sts (sv_sts (sv_sts (sv_sts S [68, 69, 70, 81, 82, 83, 84, 85, 86, 71, 74, 75, 1127, 78, 79, 80, 76, 77] g7) [68, 69, 70] g20) [68, 69, 70] g31) [68, 69, 70] g42) 76 p1 (sm_lor (g7 76 p1) (g7 76 (639 : Int)))) 77 p1 (sm_lor (g7 77 p1) (g7 77 (639 : Int)))) (sv_sts (sv_sts (sv_up (sv_up (sv_sts (sv_sts (sv_sts (sv_sts S [68, 69, 70, 81, 82, 83, 84, 85, 86, 71, 74, 75, 1127, 78, 79, 80, 76, 77] g7) [68, 69, 70] g20) [68, 69, 70] g31) [68, 69, 70] g42) 76 p1 (sm_lor (g7 76 p1) (g7 76 (639 : Int)))) 77 p1 (sm_lor (g7 77 p1) (g7 77 (639 : Int)))) [81, 82, 83, 84, 85, 86] g67) [81, 82, 83, 84, 85, 86] g120) := sv_mod.sts md74 (by decide)
                        have md126 : sv_mod [81, 82, 83, 84, 85, 86] (sv_sts (sv_up (sv_up (sv_sts (sv_sts (sv_sts (sv_sts S [68, 69, 70, 81, 82, 83, 84, 85, 86, 71, 74, 75, 1127, 78, 79, 80, 76, 77] g7) [68, 69, 70] g20) [68, 69, 70] g31) [68, 69, 70] g42) 76 p1 (sm_lor (g7 76 p1) (g7 76 (639 : Int)))) 77 p1 (sm_lor (g7 77 p1) (g7 77 (639 : Int)))) [81, 82, 83, 84, 85, 86] g67) (sv_sts (sv_sts (sv_up (sv_up (sv_sts (sv_sts (sv_sts (sv_sts S [68, 69, 70, 81, 82, 83, 84, 85, 86, 71, 74, 75, 1127, 78, 79, 80, 76, 77] g7) [68, 69, 70] g20) [68, 69, 70] g31) [68, 69, 70] g42) 76 p1 (sm_lor (g7 76 p1) (g7 76 (639 : Int)))) 77 p1 (sm_lor (g7 77 p1) (g7 77 (639 : Int)))) [81, 82, 83, 84, 85, 86] g67) [81, 82, 83, 84, 85, 86] g120) := sv_mod.sts sv_mod.rf (by decide)
                        refine sv_istore_n hM dX12_flow_462 (by decide) rfl ?_
                        show sv_T sm_XS sm_cs sm_L sm_sh 3 (q_flow p1 S) 235 463 [(0, .ref 0), (1, sv_I p1), (2, sv_I s121), (3, sv_I r17), (4, sv_I l4_69)] [] (sv_sts (sv_sts (sv_up (sv_up (sv_sts (sv_sts (sv_sts (sv_sts S [68, 69, 70, 81, 82, 83, 84, 85, 86, 71, 74, 75, 1127, 78, 79, 80, 76, 77] g7) [68, 69, 70] g20) [68, 69, 70] g31) [68, 69, 70] g42) 76 p1 (sm_lor (g7 76 p1) (g7 76 (639 : Int)))) 77 p1 (sm_lor (g7 77 p1) (g7 77 (639 : Int)))) [81, 82, 83, 84, 85, 86] g67) [81, 82, 83, 84, 85, 86] g120)
                        refine sv_iinc (d := (1 : Int)) hM dX12_flow_463 rfl (by decide) rfl rfl ?_
                        show sv_T sm_XS sm_cs sm_L sm_sh 3 (q_flow p1 S) 235 466 [(0, .ref 0), (1, sv_I p1), (2, sv_I s121), (3, sv_I r17), (4, sv_I (l4_69 + (1 : Int)))] [] (sv_sts (sv_sts (sv_up (sv_up (sv_sts (sv_sts (sv_sts (sv_sts S [68, 69, 70, 81, 82, 83, 84, 85, 86, 71, 74, 75, 1127, 78, 79, 80, 76, 77] g7) [68, 69, 70] g20) [68, 69, 70] g31) [68, 69, 70] g42) 76 p1 (sm_lor (g7 76 p1) (g7 76 (639 : Int)))) 77 p1 (sm_lor (g7 77 p1) (g7 77 (639 : Int)))) [81, 82, 83, 84, 85, 86] g67) [81, 82, 83, 84, 85, 86] g120)
                        refine sv_goto hM dX12_flow_466 (pc' := 421) rfl ?_
                        obtain ⟨o127, h⟩ := h
                        have eS := sv_mod.eq md125
                        have hb := ih70 (s121, (l4_69 + (1 : Int)), (sv_sts (sv_sts (sv_up (sv_up (sv_sts (sv_sts (sv_sts (sv_sts S [68, 69, 70, 81, 82, 83, 84, 85, 86, 71, 74, 75, 1127, 78, 79, 80, 76, 77] g7) [68, 69, 70] g20) [68, 69, 70] g31) [68, 69, 70] g42) 76 p1 (sm_lor (g7 76 p1) (g7 76 (639 : Int)))) 77 p1 (sm_lor (g7 77 p1) (g7 77 (639 : Int)))) [81, 82, 83, 84, 85, 86] g67) [81, 82, 83, 84, 85, 86] g120)) ⟨hs121, o127, (by rw [← eS]; exact ok122), h.1⟩ h.2
                        have hb : sv_T sm_XS sm_cs sm_L sm_sh 3 (q_flow p1 S) 235 421 [(0, .ref 0), (1, sv_I p1), (2, sv_I s121), (3, sv_I r17), (4, sv_I (l4_69 + (1 : Int)))] [] (sv_sts (sv_sts (sv_up (sv_up (sv_sts (sv_sts (sv_sts (sv_sts S [68, 69, 70, 81, 82, 83, 84, 85, 86, 71, 74, 75, 1127, 78, 79, 80, 76, 77] g7) [68, 69, 70] g20) [68, 69, 70] g31) [68, 69, 70] g42) 76 p1 (sm_lor (g7 76 p1) (g7 76 (639 : Int)))) 77 p1 (sm_lor (g7 77 p1) (g7 77 (639 : Int)))) [81, 82, 83, 84, 85, 86] g67) [81, 82, 83, 84, 85, 86] g120) := Eq.mpr (congrArg (fun Z => sv_T sm_XS sm_cs sm_L sm_sh 3 (q_flow p1 S) 235 421 [(0, .ref 0), (1, sv_I p1), (2, sv_I s121), (3, sv_I r17), (4, sv_I (l4_69 + (1 : Int)))] [] Z) eS) hb
                        exact sv_less (lv := [(0, .ref 0), (1, sv_I p1), (2, sv_I s121), (3, sv_I r17), (4, sv_I (l4_69 + (1 : Int)))]) (sv_Sub_cons rfl (sv_Sub_cons rfl (sv_Sub_cons rfl (sv_Sub_cons rfl (sv_Sub_cons rfl sv_Sub_nil))))) hb
                      have h := h.2
                      refine sv_aload_n hM dX12_flow_430 rfl rfl ?_
                      refine sv_aload_n hM dX12_flow_431 rfl rfl ?_
                      refine sv_sipush (d := (639 : Int)) hM dX12_flow_432 rfl rfl ?_
                      refine sv_iload hM dX12_flow_435 rfl rfl ?_
                      obtain ⟨o129, h⟩ := h
                      refine sv_callV hM dX12_flow_437 sm_iv_1101 (by decide) (sm_a0 _) rfl rfl (Nat.le_of_ble_eq_true rfl) sm_h226 (Nat.le_of_ble_eq_true rfl) (Nat.le_of_ble_eq_true rfl) (F' := 1) (Nat.le_of_ble_eq_true rfl) rfl (t_of (639 : Int) l4_69 (sv_sts (sv_up (sv_up (sv_sts (sv_sts (sv_sts (sv_sts S [68, 69, 70, 81, 82, 83, 84, 85, 86, 71, 74, 75, 1127, 78, 79, 80, 76, 77] g7) [68, 69, 70] g20) [68, 69, 70] g31) [68, 69, 70] g42) 76 p1 (sm_lor (g7 76 p1) (g7 76 (639 : Int)))) 77 p1 (sm_lor (g7 77 p1) (g7 77 (639 : Int)))) [81, 82, 83, 84, 85, 86] g67) ok72 (⟨by decide, by decide⟩ : sv_R (639 : Int)) hl4_69 o129) (fun v S1 hq => ?_)
                      obtain ⟨r134, rfl, hr134, ok131, md132, hpo133⟩ := hq
                      obtain rfl : (sv_sts (sv_up (sv_up (sv_sts (sv_sts (sv_sts (sv_sts S [68, 69, 70, 81, 82, 83, 84, 85, 86, 71, 74, 75, 1127, 78, 79, 80, 76, 77] g7) [68, 69, 70] g20) [68, 69, 70] g31) [68, 69, 70] g42) 76 p1 (sm_lor (g7 76 p1) (g7 76 (639 : Int)))) 77 p1 (sm_lor (g7 77 p1) (g7 77 (639 : Int)))) [81, 82, 83, 84, 85, 86] g67) = S1 := (funext fun j => md132 j (by intro q; cases q)).symm
                      show sv_T sm_XS sm_cs sm_L sm_sh 3 (q_flow p1 S) 235 440 [(0, .ref 0), (1, sv_I p1), (2, sv_I l2_68), (3, sv_I r17), (4, sv_I l4_69)] [sv_I r134, .ref 0] (sv_sts (sv_up (sv_up (sv_sts (sv_sts (sv_sts (sv_sts S [68, 69, 70, 81, 82, 83, 84, 85, 86, 71, 74, 75, 1127, 78, 79, 80, 76, 77] g7) [68, 69, 70] g20) [68, 69, 70] g31) [68, 69, 70] g42) 76 p1 (sm_lor (g7 76 p1) (g7 76 (639 : Int)))) 77 p1 (sm_lor (g7 77 p1) (g7 77 (639 : Int)))) [81, 82, 83, 84, 85, 86] g67)
                      have h := h r134 hr134 hpo133
                      refine sv_aload_n hM dX12_flow_440 rfl rfl ?_
                      refine sv_iload_n hM dX12_flow_441 rfl rfl ?_
                      refine sv_iload hM dX12_flow_442 rfl rfl ?_
                      obtain ⟨o135, h⟩ := h
                      refine sv_callV hM dX12_flow_444 sm_iv_1101 (by decide) (sm_a0 _) rfl rfl (Nat.le_of_ble_eq_true rfl) sm_h226 (Nat.le_of_ble_eq_true rfl) (Nat.le_of_ble_eq_true rfl) (F' := 1) (Nat.le_of_ble_eq_true rfl) rfl (t_of p1 l4_69 (sv_sts (sv_up (sv_up (sv_sts (sv_sts (sv_sts (sv_sts S [68, 69, 70, 81, 82, 83, 84, 85, 86, 71, 74, 75, 1127, 78, 79, 80, 76, 77] g7) [68, 69, 70] g20) [68, 69, 70] g31) [68, 69, 70] g42) 76 p1 (sm_lor (g7 76 p1) (g7 76 (639 : Int)))) 77 p1 (sm_lor (g7 77 p1) (g7 77 (639 : Int)))) [81, 82, 83, 84, 85, 86] g67) ok131 hp1 hl4_69 o135) (fun v S1 hq => ?_)
                      obtain ⟨r140, rfl, hr140, ok137, md138, hpo139⟩ := hq
                      obtain rfl : (sv_sts (sv_up (sv_up (sv_sts (sv_sts (sv_sts (sv_sts S [68, 69, 70, 81, 82, 83, 84, 85, 86, 71, 74, 75, 1127, 78, 79, 80, 76, 77] g7) [68, 69, 70] g20) [68, 69, 70] g31) [68, 69, 70] g42) 76 p1 (sm_lor (g7 76 p1) (g7 76 (639 : Int)))) 77 p1 (sm_lor (g7 77 p1) (g7 77 (639 : Int)))) [81, 82, 83, 84, 85, 86] g67) = S1 := (funext fun j => md138 j (by intro q; cases q)).symm
                      show sv_T sm_XS sm_cs sm_L sm_sh 3 (q_flow p1 S) 235 447 [(0, .ref 0), (1, sv_I p1), (2, sv_I l2_68), (3, sv_I r17), (4, sv_I l4_69)] [sv_I r140, sv_I r134, .ref 0] (sv_sts (sv_up (sv_up (sv_sts (sv_sts (sv_sts (sv_sts S [68, 69, 70, 81, 82, 83, 84, 85, 86, 71, 74, 75, 1127, 78, 79, 80, 76, 77] g7) [68, 69, 70] g20) [68, 69, 70] g31) [68, 69, 70] g42) 76 p1 (sm_lor (g7 76 p1) (g7 76 (639 : Int)))) 77 p1 (sm_lor (g7 77 p1) (g7 77 (639 : Int)))) [81, 82, 83, 84, 85, 86] g67)
                      have h := h r140 hr140 hpo139
                      obtain ⟨o141, h⟩ := h
                      refine sv_callV hM dX12_flow_447 sm_iv_1112 (by decide) (sm_a0 _) rfl rfl (Nat.le_of_ble_eq_true rfl) sm_h236 (Nat.le_of_ble_eq_true rfl) (Nat.le_of_ble_eq_true rfl) (F' := 0) (Nat.le_of_ble_eq_true rfl) rfl (t_joinLabel r134 r140 (sv_sts (sv_up (sv_up (sv_sts (sv_sts (sv_sts (sv_sts S [68, 69, 70, 81, 82, 83, 84, 85, 86, 71, 74, 75, 1127, 78, 79, 80, 76, 77] g7) [68, 69, 70] g20) [68, 69, 70] g31) [68, 69, 70] g42) 76 p1 (sm_lor (g7 76 p1) (g7 76 (639 : Int)))) 77 p1 (sm_lor (g7 77 p1) (g7 77 (639 : Int)))) [81, 82, 83, 84, 85, 86] g67) ok137 hr134 hr140 o141) (fun v S1 hq => ?_)
                      obtain ⟨r146, rfl, hr146, ok143, md144, hpo145⟩ := hq
                      obtain ⟨g142, rfl⟩ : ∃ g, S1 = sv_sts (sv_sts (sv_up (sv_up (sv_sts (sv_sts (sv_sts (sv_sts S [68, 69, 70, 81, 82, 83, 84, 85, 86, 71, 74, 75, 1127, 78, 79, 80, 76, 77] g7) [68, 69, 70] g20) [68, 69, 70] g31) [68, 69, 70] g42) 76 p1 (sm_lor (g7 76 p1) (g7 76 (639 : Int)))) 77 p1 (sm_lor (g7 77 p1) (g7 77 (639 : Int)))) [81, 82, 83, 84, 85, 86] g67) [81, 82, 83, 84, 85, 86] g := ⟨_, md144.eq⟩
                      show sv_T sm_XS sm_cs sm_L sm_sh 3 (q_flow p1 S) 235 450 [(0, .ref 0), (1, sv_I p1), (2, sv_I l2_68), (3, sv_I r17), (4, sv_I l4_69)] [sv_I r146] (sv_sts (sv_sts (sv_up (sv_up (sv_sts (sv_sts (sv_sts (sv_sts S [68, 69, 70, 81, 82, 83, 84, 85, 86, 71, 74, 75, 1127, 78, 79, 80, 76, 77] g7) [68, 69, 70] g20) [68, 69, 70] g31) [68, 69, 70] g42) 76 p1 (sm_lor (g7 76 p1) (g7 76 (639 : Int)))) 77 p1 (sm_lor (g7 77 p1) (g7 77 (639 : Int)))) [81, 82, 83, 84, 85, 86] g67) [81, 82, 83, 84, 85, 86] g142)
                      have md147 : sv_mod [68, 69, 70, 81, 82, 83, 84, 85, 86, 71, 74, 75, 1127, 78, 79, 80, 72, 76, 77] S (sv_sts (sv_sts (sv_up (sv_up (sv_sts (sv_sts (sv_sts (sv_sts S [68, 69, 70, 81, 82, 83, 84, 85, 86, 71, 74, 75, 1127, 78, 79, 80, 76, 77] g7) [68, 69, 70] g20) [68, 69, 70] g31) [68, 69, 70] g42) 76 p1 (sm_lor (g7 76 p1) (g7 76 (639 : Int)))) 77 p1 (sm_lor (g7 77 p1) (g7 77 (639 : Int)))) [81, 82, 83, 84, 85, 86] g67) [81, 82, 83, 84, 85, 86] g142) := sv_mod.sts md73 (by decide)
                      have md148 : sv_mod [81, 82, 83, 84, 85, 86] (sv_up (sv_up (sv_sts (sv_sts (sv_sts (sv_sts S [68, 69, 70, 81, 82, 83, 84, 85, 86, 71, 74, 75, 1127, 78, 79, 80, 76, 77] g7) [68, 69, 70] g20) [68, 69, 70] g31) [68, 69, 70] g42) 76 p1 (sm_lor (g7 76 p1) (g7 76 (639 : Int)))) 77 p1 (sm_lor (g7 77 p1) (g7 77 (639 : Int)))) (sv_sts (sv_sts (sv_up (sv_up (sv_sts (sv_sts (sv_sts (sv_sts S [68, 69, 70, 81, 82, 83, 84, 85, 86, 71, 74, 75, 1127, 78, 79, 80, 76, 77] g7) [68, 69, 70] g20) [68, 69, 70] g31) [68, 69, 70] g42) 76 p1 (sm_lor (g7 76 p1) (g7 76 (639 : Int)))) 77 p1 (sm_lor (g7 77 p1) (g7 77 (639 : Int)))) [81, 82, 83, 84, 85, 86] g67) [81, 82, 83, 84, 85, 86] g142) := sv_mod.sts md74 (by decide)
                      have md149 : sv_mod [81, 82, 83, 84, 85, 86] (sv_sts (sv_up (sv_up (sv_sts (sv_sts (sv_sts (sv_sts S [68, 69, 70, 81, 82, 83, 84, 85, 86, 71, 74, 75, 1127, 78, 79, 80, 76, 77] g7) [68, 69, 70] g20) [68, 69, 70] g31) [68, 69, 70] g42) 76 p1 (sm_lor (g7 76 p1) (g7 76 (639 : Int)))) 77 p1 (sm_lor (g7 77 p1) (g7 77 (639 : Int)))) [81, 82, 83, 84, 85, 86] g67) (sv_sts (sv_sts (sv_up (sv_up (sv_sts (sv_sts (sv_sts (sv_sts S [68, 69, 70, 81, 82, 83, 84, 85, 86, 71, 74, 75, 1127, 78, 79, 80, 76, 77] g7) [68, 69, 70] g20) [68, 69, 70] g31) [68, 69, 70] g42) 76 p1 (sm_lor (g7 76 p1) (g7 76 (639 : Int)))) 77 p1 (sm_lor (g7 77 p1) (g7 77 (639 : Int)))) [81, 82, 83, 84, 85, 86] g67) [81, 82, 83, 84, 85, 86] g142) := sv_mod.sts (sv_mod.rf (l := [81, 82, 83, 84, 85, 86]) (S := (sv_sts (sv_up (sv_up (sv_sts (sv_sts (sv_sts (sv_sts S [68, 69, 70, 81, 82, 83, 84, 85, 86, 71, 74, 75, 1127, 78, 79, 80, 76, 77] g7) [68, 69, 70] g20) [68, 69, 70] g31) [68, 69, 70] g42) 76 p1 (sm_lor (g7 76 p1) (g7 76 (639 : Int)))) 77 p1 (sm_lor (g7 77 p1) (g7 77 (639 : Int)))) [81, 82, 83, 84, 85, 86] g67))) (by decide)
                      have h := h r146 hr146 g142 hpo145
                      refine sv_cond_ne hM dX12_flow_450 hr146 (t := 457) rfl rfl (fun hc => ?_) (fun hc => ?_)
                      · have h := h.1 (hc)
                        refine sv_iconst (d := (1 : Int)) hM dX12_flow_457 rfl rfl ?_
                        refine sv_goto hM dX12_flow_458 (pc' := 462) rfl ?_
                        have eS := sv_mod.eq md149
                        have hb := J128 (1 : Int) (⟨by decide, by decide⟩ : sv_R (1 : Int)) (sv_sts (sv_sts (sv_up (sv_up (sv_sts (sv_sts (sv_sts (sv_sts S [68, 69, 70, 81, 82, 83, 84, 85, 86, 71, 74, 75, 1127, 78, 79, 80, 76, 77] g7) [68, 69, 70] g20) [68, 69, 70] g31) [68, 69, 70] g42) 76 p1 (sm_lor (g7 76 p1) (g7 76 (639 : Int)))) 77 p1 (sm_lor (g7 77 p1) (g7 77 (639 : Int)))) [81, 82, 83, 84, 85, 86] g67) [81, 82, 83, 84, 85, 86] g142) (by rw [← eS]; exact ok143) h
                        have hb : sv_T sm_XS sm_cs sm_L sm_sh 3 (q_flow p1 S) 235 462 [(0, .ref 0), (1, sv_I p1), (2, sv_I l2_68), (3, sv_I r17), (4, sv_I l4_69)] [sv_I (1 : Int)] (sv_sts (sv_sts (sv_up (sv_up (sv_sts (sv_sts (sv_sts (sv_sts S [68, 69, 70, 81, 82, 83, 84, 85, 86, 71, 74, 75, 1127, 78, 79, 80, 76, 77] g7) [68, 69, 70] g20) [68, 69, 70] g31) [68, 69, 70] g42) 76 p1 (sm_lor (g7 76 p1) (g7 76 (639 : Int)))) 77 p1 (sm_lor (g7 77 p1) (g7 77 (639 : Int)))) [81, 82, 83, 84, 85, 86] g67) [81, 82, 83, 84, 85, 86] g142) := Eq.mpr (congrArg (fun Z => sv_T sm_XS sm_cs sm_L sm_sh 3 (q_flow p1 S) 235 462 [(0, .ref 0), (1, sv_I p1), (2, sv_I l2_68), (3, sv_I r17), (4, sv_I l4_69)] [sv_I (1 : Int)] Z) eS) hb
                        exact sv_less (lv := [(0, .ref 0), (1, sv_I p1), (2, sv_I l2_68), (3, sv_I r17), (4, sv_I l4_69)]) (sv_Sub_cons rfl (sv_Sub_cons rfl (sv_Sub_cons rfl (sv_Sub_cons rfl (sv_Sub_cons rfl sv_Sub_nil))))) hb
                      · have h := h.2 (hc)
                        refine sv_iload_n hM dX12_flow_453 rfl rfl ?_
                        refine sv_cond_eq hM dX12_flow_454 hl2_68 (t := 461) rfl rfl (fun hc => ?_) (fun hc => ?_)
                        · have h := h.1 (hc)
                          refine sv_iconst (d := (0 : Int)) hM dX12_flow_461 rfl rfl ?_
                          have eS := sv_mod.eq md149
                          have hb := J128 (0 : Int) (⟨by decide, by decide⟩ : sv_R (0 : Int)) (sv_sts (sv_sts (sv_up (sv_up (sv_sts (sv_sts (sv_sts (sv_sts S [68, 69, 70, 81, 82, 83, 84, 85, 86, 71, 74, 75, 1127, 78, 79, 80, 76, 77] g7) [68, 69, 70] g20) [68, 69, 70] g31) [68, 69, 70] g42) 76 p1 (sm_lor (g7 76 p1) (g7 76 (639 : Int)))) 77 p1 (sm_lor (g7 77 p1) (g7 77 (639 : Int)))) [81, 82, 83, 84, 85, 86] g67) [81, 82, 83, 84, 85, 86] g142) (by rw [← eS]; exact ok143) h
                          have hb : sv_T sm_XS sm_cs sm_L sm_sh 3 (q_flow p1 S) 235 462 [(0, .ref 0), (1, sv_I p1), (2, sv_I l2_68), (3, sv_I r17), (4, sv_I l4_69)] [sv_I (0 : Int)] (sv_sts (sv_sts (sv_up (sv_up (sv_sts (sv_sts (sv_sts (sv_sts S [68, 69, 70, 81, 82, 83, 84, 85, 86, 71, 74, 75, 1127, 78, 79, 80, 76, 77] g7) [68, 69, 70] g20) [68, 69, 70] g31) [68, 69, 70] g42) 76 p1 (sm_lor (g7 76 p1) (g7 76 (639 : Int)))) 77 p1 (sm_lor (g7 77 p1) (g7 77 (639 : Int)))) [81, 82, 83, 84, 85, 86] g67) [81, 82, 83, 84, 85, 86] g142) := Eq.mpr (congrArg (fun Z => sv_T sm_XS sm_cs sm_L sm_sh 3 (q_flow p1 S) 235 462 [(0, .ref 0), (1, sv_I p1), (2, sv_I l2_68), (3, sv_I r17), (4, sv_I l4_69)] [sv_I (0 : Int)] Z) eS) hb
                          exact sv_less (lv := [(0, .ref 0), (1, sv_I p1), (2, sv_I l2_68), (3, sv_I r17), (4, sv_I l4_69)]) (sv_Sub_cons rfl (sv_Sub_cons rfl (sv_Sub_cons rfl (sv_Sub_cons rfl (sv_Sub_cons rfl sv_Sub_nil))))) hb
                        · have h := h.2 (hc)
                          refine sv_iconst (d := (1 : Int)) hM dX12_flow_457 rfl rfl ?_
                          refine sv_goto hM dX12_flow_458 (pc' := 462) rfl ?_
                          have eS := sv_mod.eq md149
                          have hb := J128 (1 : Int) (⟨by decide, by decide⟩ : sv_R (1 : Int)) (sv_sts (sv_sts (sv_up (sv_up (sv_sts (sv_sts (sv_sts (sv_sts S [68, 69, 70, 81, 82, 83, 84, 85, 86, 71, 74, 75, 1127, 78, 79, 80, 76, 77] g7) [68, 69, 70] g20) [68, 69, 70] g31) [68, 69, 70] g42) 76 p1 (sm_lor (g7 76 p1) (g7 76 (639 : Int)))) 77 p1 (sm_lor (g7 77 p1) (g7 77 (639 : Int)))) [81, 82, 83, 84, 85, 86] g67) [81, 82, 83, 84, 85, 86] g142) (by rw [← eS]; exact ok143) h
                          have hb : sv_T sm_XS sm_cs sm_L sm_sh 3 (q_flow p1 S) 235 462 [(0, .ref 0), (1, sv_I p1), (2, sv_I l2_68), (3, sv_I r17), (4, sv_I l4_69)] [sv_I (1 : Int)] (sv_sts (sv_sts (sv_up (sv_up (sv_sts (sv_sts (sv_sts (sv_sts S [68, 69, 70, 81, 82, 83, 84, 85, 86, 71, 74, 75, 1127, 78, 79, 80, 76, 77] g7) [68, 69, 70] g20) [68, 69, 70] g31) [68, 69, 70] g42) 76 p1 (sm_lor (g7 76 p1) (g7 76 (639 : Int)))) 77 p1 (sm_lor (g7 77 p1) (g7 77 (639 : Int)))) [81, 82, 83, 84, 85, 86] g67) [81, 82, 83, 84, 85, 86] g142) := Eq.mpr (congrArg (fun Z => sv_T sm_XS sm_cs sm_L sm_sh 3 (q_flow p1 S) 235 462 [(0, .ref 0), (1, sv_I p1), (2, sv_I l2_68), (3, sv_I r17), (4, sv_I l4_69)] [sv_I (1 : Int)] Z) eS) hb
                          exact sv_less (lv := [(0, .ref 0), (1, sv_I p1), (2, sv_I l2_68), (3, sv_I r17), (4, sv_I l4_69)]) (sv_Sub_cons rfl (sv_Sub_cons rfl (sv_Sub_cons rfl (sv_Sub_cons rfl (sv_Sub_cons rfl sv_Sub_nil))))) hb
                  have eS := sv_mod.eq (sv_mod.rf (l := [81, 82, 83, 84, 85, 86]) (S := (sv_up (sv_up (sv_sts (sv_sts (sv_sts (sv_sts S [68, 69, 70, 81, 82, 83, 84, 85, 86, 71, 74, 75, 1127, 78, 79, 80, 76, 77] g7) [68, 69, 70] g20) [68, 69, 70] g31) [68, 69, 70] g42) 76 p1 (sm_lor (g7 76 p1) (g7 76 (639 : Int)))) 77 p1 (sm_lor (g7 77 p1) (g7 77 (639 : Int))))))
                  have hb := hJ (s50, (0 : Int), (sv_up (sv_up (sv_sts (sv_sts (sv_sts (sv_sts S [68, 69, 70, 81, 82, 83, 84, 85, 86, 71, 74, 75, 1127, 78, 79, 80, 76, 77] g7) [68, 69, 70] g20) [68, 69, 70] g31) [68, 69, 70] g42) 76 p1 (sm_lor (g7 76 p1) (g7 76 (639 : Int)))) 77 p1 (sm_lor (g7 77 p1) (g7 77 (639 : Int))))) ⟨hs50, (⟨by decide, by decide⟩ : sv_R (0 : Int)), (by rw [← eS]; exact ok65), hin71⟩
                  have hb : sv_T sm_XS sm_cs sm_L sm_sh 3 (q_flow p1 S) 235 421 [(0, .ref 0), (1, sv_I p1), (2, sv_I s50), (3, sv_I r17), (4, sv_I (0 : Int))] [] (sv_up (sv_up (sv_sts (sv_sts (sv_sts (sv_sts S [68, 69, 70, 81, 82, 83, 84, 85, 86, 71, 74, 75, 1127, 78, 79, 80, 76, 77] g7) [68, 69, 70] g20) [68, 69, 70] g31) [68, 69, 70] g42) 76 p1 (sm_lor (g7 76 p1) (g7 76 (639 : Int)))) 77 p1 (sm_lor (g7 77 p1) (g7 77 (639 : Int)))) := Eq.mpr (congrArg (fun Z => sv_T sm_XS sm_cs sm_L sm_sh 3 (q_flow p1 S) 235 421 [(0, .ref 0), (1, sv_I p1), (2, sv_I s50), (3, sv_I r17), (4, sv_I (0 : Int))] [] Z) eS) hb
                  exact hb
                have h := h.2
                refine sv_iload_n hM dX12_flow_318 rfl rfl ?_
                refine sv_cond_ne hM dX12_flow_319 hs43 (t := 370) rfl rfl (fun hc => ?_) (fun hc => ?_)
                · have h := h.1 (hc)
                  refine sv_iconst (d := (1 : Int)) hM dX12_flow_370 rfl rfl ?_
                  refine sv_goto hM dX12_flow_371 (pc' := 375) rfl ?_
                  have hb := J150 (1 : Int) (⟨by decide, by decide⟩ : sv_R (1 : Int)) h
                  exact sv_less (lv := [(0, .ref 0), (1, sv_I p1), (2, sv_I s43), (3, sv_I r17), (4, sv_I l4_33)]) (sv_Sub_cons rfl (sv_Sub_cons rfl (sv_Sub_cons rfl (sv_Sub_cons rfl (sv_Sub_cons rfl sv_Sub_nil))))) hb
                · have h := h.2 (hc)
                  refine sv_aload_n hM dX12_flow_322 rfl rfl ?_
                  refine sv_getA hM dX12_flow_323 sm_fl_241 (sm_a0 _) sm_k128 rfl ?_
                  refine sv_sipush (d := (639 : Int)) hM dX12_flow_326 rfl rfl ?_
                  obtain ⟨o151, h⟩ := h
                  have k152 : sv_RL (g7 76 (639 : Int)) := sm_okJ ok44 sm_r76 (639 : Int)
                  have h := h k152
                  refine sv_lald hM dX12_flow_329 (sm_a76 _) (by decide) o151.1 o151.2 rfl (x := (g7 76 (639 : Int))) rfl ?_
                  refine sv_aload_n hM dX12_flow_330 rfl rfl ?_
                  refine sv_getA hM dX12_flow_331 sm_fl_241 (sm_a0 _) sm_k128 rfl ?_
                  refine sv_iload_n hM dX12_flow_334 rfl rfl ?_
                  have k153 : sv_RL (g7 76 p1) := sm_okJ ok44 sm_r76 p1
                  have h := h k153
                  refine sv_lald hM dX12_flow_335 (sm_a76 _) (by decide) o40.1 o40.2 rfl (x := (g7 76 p1)) rfl ?_
                  refine sv_ldc2_w (d := (-1 : Int)) hM dX12_flow_336 sm_ck_1110 rfl rfl ?_
                  refine sv_anyL hM dX12_flow_339 rfl rfl (fun r154 hr154 er154 => ?_)
                  have er154v : (sm_lxor (g7 76 p1) (-1 : Int)) = r154 := er154
                  have k155 : sv_RL (sm_lxor (g7 76 p1) (-1 : Int)) := er154v.symm ▸ hr154
                  rw [← er154v]
                  have h := h k155
                  refine sv_anyL hM dX12_flow_340 rfl rfl (fun r156 hr156 er156 => ?_)
                  have er156v : (sm_land (g7 76 (639 : Int)) (sm_lxor (g7 76 p1) (-1 : Int))) = r156 := er156
                  have k157 : sv_RL (sm_land (g7 76 (639 : Int)) (sm_lxor (g7 76 p1) (-1 : Int))) := er156v.symm ▸ hr156
                  rw [← er156v]
                  have h := h k157
                  refine sv_lconst (d := (0 : Int)) hM dX12_flow_341 rfl rfl ?_
                  refine sv_lcmp hM dX12_flow_342 k157 (⟨by decide, by decide⟩ : sv_RL (0 : Int)) rfl ?_
                  refine sv_cond_ne hM dX12_flow_343 sv_Rcmp (t := 370) rfl rfl (fun hc => ?_) (fun hc => ?_)
                  · have h := h.1 ((sv_cmp_ne).mp hc)
                    refine sv_iconst (d := (1 : Int)) hM dX12_flow_370 rfl rfl ?_
                    refine sv_goto hM dX12_flow_371 (pc' := 375) rfl ?_
                    have hb := J150 (1 : Int) (⟨by decide, by decide⟩ : sv_R (1 : Int)) h
                    exact sv_less (lv := [(0, .ref 0), (1, sv_I p1), (2, sv_I s43), (3, sv_I r17), (4, sv_I l4_33)]) (sv_Sub_cons rfl (sv_Sub_cons rfl (sv_Sub_cons rfl (sv_Sub_cons rfl (sv_Sub_cons rfl sv_Sub_nil))))) hb
                  · have h := h.2 (fun q => hc ((sv_cmp_ne).mpr q))
                    refine sv_aload_n hM dX12_flow_346 rfl rfl ?_
                    refine sv_getA hM dX12_flow_347 sm_fl_244 (sm_a0 _) sm_k129 rfl ?_
                    refine sv_sipush (d := (639 : Int)) hM dX12_flow_350 rfl rfl ?_
                    have k158 : sv_RL (g7 77 (639 : Int)) := sm_okJ ok44 sm_r77 (639 : Int)
                    have h := h k158
                    refine sv_lald hM dX12_flow_353 (sm_a77 _) (by decide) o151.1 o151.2 rfl (x := (g7 77 (639 : Int))) rfl ?_
                    refine sv_aload_n hM dX12_flow_354 rfl rfl ?_
                    refine sv_getA hM dX12_flow_355 sm_fl_244 (sm_a0 _) sm_k129 rfl ?_
                    refine sv_iload_n hM dX12_flow_358 rfl rfl ?_
                    have k159 : sv_RL (g7 77 p1) := sm_okJ ok44 sm_r77 p1
                    have h := h k159
                    refine sv_lald hM dX12_flow_359 (sm_a77 _) (by decide) o40.1 o40.2 rfl (x := (g7 77 p1)) rfl ?_
                    refine sv_ldc2_w (d := (-1 : Int)) hM dX12_flow_360 sm_ck_1110 rfl rfl ?_
                    refine sv_anyL hM dX12_flow_363 rfl rfl (fun r160 hr160 er160 => ?_)
                    have er160v : (sm_lxor (g7 77 p1) (-1 : Int)) = r160 := er160
                    have k161 : sv_RL (sm_lxor (g7 77 p1) (-1 : Int)) := er160v.symm ▸ hr160
                    rw [← er160v]
                    have h := h k161
                    refine sv_anyL hM dX12_flow_364 rfl rfl (fun r162 hr162 er162 => ?_)
                    have er162v : (sm_land (g7 77 (639 : Int)) (sm_lxor (g7 77 p1) (-1 : Int))) = r162 := er162
                    have k163 : sv_RL (sm_land (g7 77 (639 : Int)) (sm_lxor (g7 77 p1) (-1 : Int))) := er162v.symm ▸ hr162
                    rw [← er162v]
                    have h := h k163
                    refine sv_lconst (d := (0 : Int)) hM dX12_flow_365 rfl rfl ?_
                    refine sv_lcmp hM dX12_flow_366 k163 (⟨by decide, by decide⟩ : sv_RL (0 : Int)) rfl ?_
                    refine sv_cond_eq hM dX12_flow_367 sv_Rcmp (t := 374) rfl rfl (fun hc => ?_) (fun hc => ?_)
                    · have h := h.1 ((sv_cmp_eq).mp hc)
                      refine sv_iconst (d := (0 : Int)) hM dX12_flow_374 rfl rfl ?_
                      have hb := J150 (0 : Int) (⟨by decide, by decide⟩ : sv_R (0 : Int)) h
                      exact sv_less (lv := [(0, .ref 0), (1, sv_I p1), (2, sv_I s43), (3, sv_I r17), (4, sv_I l4_33)]) (sv_Sub_cons rfl (sv_Sub_cons rfl (sv_Sub_cons rfl (sv_Sub_cons rfl (sv_Sub_cons rfl sv_Sub_nil))))) hb
                    · have h := h.2 (fun q => hc ((sv_cmp_eq).mpr q))
                      refine sv_iconst (d := (1 : Int)) hM dX12_flow_370 rfl rfl ?_
                      refine sv_goto hM dX12_flow_371 (pc' := 375) rfl ?_
                      have hb := J150 (1 : Int) (⟨by decide, by decide⟩ : sv_R (1 : Int)) h
                      exact sv_less (lv := [(0, .ref 0), (1, sv_I p1), (2, sv_I s43), (3, sv_I r17), (4, sv_I l4_33)]) (sv_Sub_cons rfl (sv_Sub_cons rfl (sv_Sub_cons rfl (sv_Sub_cons rfl (sv_Sub_cons rfl sv_Sub_nil))))) hb
              have h := h.2
              refine sv_aload_n hM dX12_flow_289 rfl rfl ?_
              refine sv_aload_n hM dX12_flow_290 rfl rfl ?_
              refine sv_sipush (d := (639 : Int)) hM dX12_flow_291 rfl rfl ?_
              refine sv_callV hM dX12_flow_294 sm_iv_1098 (by decide) (sm_a0 _) rfl rfl (Nat.le_of_ble_eq_true rfl) sm_h227 (Nat.le_of_ble_eq_true rfl) (Nat.le_of_ble_eq_true rfl) (F' := 0) (Nat.le_of_ble_eq_true rfl) rfl (t_thisAt (639 : Int) (sv_sts (sv_sts (sv_sts S [68, 69, 70, 81, 82, 83, 84, 85, 86, 71, 74, 75, 1127, 78, 79, 80, 76, 77] g7) [68, 69, 70] g20) [68, 69, 70] g31) ok36 (⟨by decide, by decide⟩ : sv_R (639 : Int))) (fun v S1 hq => ?_)
              obtain ⟨rfl, hS1⟩ := hq
              obtain rfl : (sv_sts (sv_sts (sv_sts S [68, 69, 70, 81, 82, 83, 84, 85, 86, 71, 74, 75, 1127, 78, 79, 80, 76, 77] g7) [68, 69, 70] g20) [68, 69, 70] g31) = S1 := hS1.symm
              show sv_T sm_XS sm_cs sm_L sm_sh 3 (q_flow p1 S) 235 297 [(0, .ref 0), (1, sv_I p1), (2, sv_I l2_32), (3, sv_I r17), (4, sv_I l4_33)] [sv_I (635000 + (639 : Int)), .ref 0] (sv_sts (sv_sts (sv_sts S [68, 69, 70, 81, 82, 83, 84, 85, 86, 71, 74, 75, 1127, 78, 79, 80, 76, 77] g7) [68, 69, 70] g20) [68, 69, 70] g31)
              refine sv_aload_n hM dX12_flow_297 rfl rfl ?_
              refine sv_iload_n hM dX12_flow_298 rfl rfl ?_
              refine sv_callV hM dX12_flow_299 sm_iv_1098 (by decide) (sm_a0 _) rfl rfl (Nat.le_of_ble_eq_true rfl) sm_h227 (Nat.le_of_ble_eq_true rfl) (Nat.le_of_ble_eq_true rfl) (F' := 0) (Nat.le_of_ble_eq_true rfl) rfl (t_thisAt p1 (sv_sts (sv_sts (sv_sts S [68, 69, 70, 81, 82, 83, 84, 85, 86, 71, 74, 75, 1127, 78, 79, 80, 76, 77] g7) [68, 69, 70] g20) [68, 69, 70] g31) ok36 hp1) (fun v S1 hq => ?_)
              obtain ⟨rfl, hS1⟩ := hq
              obtain rfl : (sv_sts (sv_sts (sv_sts S [68, 69, 70, 81, 82, 83, 84, 85, 86, 71, 74, 75, 1127, 78, 79, 80, 76, 77] g7) [68, 69, 70] g20) [68, 69, 70] g31) = S1 := hS1.symm
              show sv_T sm_XS sm_cs sm_L sm_sh 3 (q_flow p1 S) 235 302 [(0, .ref 0), (1, sv_I p1), (2, sv_I l2_32), (3, sv_I r17), (4, sv_I l4_33)] [sv_I (635000 + p1), sv_I (635000 + (639 : Int)), .ref 0] (sv_sts (sv_sts (sv_sts S [68, 69, 70, 81, 82, 83, 84, 85, 86, 71, 74, 75, 1127, 78, 79, 80, 76, 77] g7) [68, 69, 70] g20) [68, 69, 70] g31)
              obtain ⟨o165, h⟩ := h
              obtain ⟨o166, h⟩ := h
              obtain ⟨o167, h⟩ := h
              refine sv_callV hM dX12_flow_302 sm_iv_1069 (by decide) (sm_a0 _) rfl rfl (Nat.le_of_ble_eq_true rfl) sm_h208 (Nat.le_of_ble_eq_true rfl) (Nat.le_of_ble_eq_true rfl) (F' := 1) (Nat.le_of_ble_eq_true rfl) rfl (t_join (635000 + (639 : Int)) (635000 + p1) (sv_sts (sv_sts (sv_sts S [68, 69, 70, 81, 82, 83, 84, 85, 86, 71, 74, 75, 1127, 78, 79, 80, 76, 77] g7) [68, 69, 70] g20) [68, 69, 70] g31) ok36 o165 o166 o167) (fun v S1 hq => ?_)
              obtain ⟨r172, rfl, hr172, ok169, md170, hpo171⟩ := hq
              obtain ⟨g168, rfl⟩ : ∃ g, S1 = sv_sts (sv_sts (sv_sts (sv_sts S [68, 69, 70, 81, 82, 83, 84, 85, 86, 71, 74, 75, 1127, 78, 79, 80, 76, 77] g7) [68, 69, 70] g20) [68, 69, 70] g31) [68, 69, 70] g := ⟨_, md170.eq⟩
              show sv_T sm_XS sm_cs sm_L sm_sh 3 (q_flow p1 S) 235 305 [(0, .ref 0), (1, sv_I p1), (2, sv_I l2_32), (3, sv_I r17), (4, sv_I l4_33)] [sv_I r172] (sv_sts (sv_sts (sv_sts (sv_sts S [68, 69, 70, 81, 82, 83, 84, 85, 86, 71, 74, 75, 1127, 78, 79, 80, 76, 77] g7) [68, 69, 70] g20) [68, 69, 70] g31) [68, 69, 70] g168)
              have md173 : sv_mod [68, 69, 70, 81, 82, 83, 84, 85, 86, 71, 74, 75, 1127, 78, 79, 80, 72, 76, 77] S (sv_sts (sv_sts (sv_sts (sv_sts S [68, 69, 70, 81, 82, 83, 84, 85, 86, 71, 74, 75, 1127, 78, 79, 80, 76, 77] g7) [68, 69, 70] g20) [68, 69, 70] g31) [68, 69, 70] g168) := sv_mod.sts md37 (by decide)
              have md174 : sv_mod [68, 69, 70] (sv_sts S [68, 69, 70, 81, 82, 83, 84, 85, 86, 71, 74, 75, 1127, 78, 79, 80, 76, 77] g7) (sv_sts (sv_sts (sv_sts (sv_sts S [68, 69, 70, 81, 82, 83, 84, 85, 86, 71, 74, 75, 1127, 78, 79, 80, 76, 77] g7) [68, 69, 70] g20) [68, 69, 70] g31) [68, 69, 70] g168) := sv_mod.sts md38 (by decide)
              have md175 : sv_mod [68, 69, 70] (sv_sts (sv_sts S [68, 69, 70, 81, 82, 83, 84, 85, 86, 71, 74, 75, 1127, 78, 79, 80, 76, 77] g7) [68, 69, 70] g20) (sv_sts (sv_sts (sv_sts (sv_sts S [68, 69, 70, 81, 82, 83, 84, 85, 86, 71, 74, 75, 1127, 78, 79, 80, 76, 77] g7) [68, 69, 70] g20) [68, 69, 70] g31) [68, 69, 70] g168) := sv_mod.sts md39 (by decide)
              have md176 : sv_mod [68, 69, 70] (sv_sts (sv_sts (sv_sts S [68, 69, 70, 81, 82, 83, 84, 85, 86, 71, 74, 75, 1127, 78, 79, 80, 76, 77] g7) [68, 69, 70] g20) [68, 69, 70] g31) (sv_sts (sv_sts (sv_sts (sv_sts S [68, 69, 70, 81, 82, 83, 84, 85, 86, 71, 74, 75, 1127, 78, 79, 80, 76, 77] g7) [68, 69, 70] g20) [68, 69, 70] g31) [68, 69, 70] g168) := sv_mod.sts (sv_mod.rf (l := [68, 69, 70]) (S := (sv_sts (sv_sts (sv_sts S [68, 69, 70, 81, 82, 83, 84, 85, 86, 71, 74, 75, 1127, 78, 79, 80, 76, 77] g7) [68, 69, 70] g20) [68, 69, 70] g31))) (by decide)
              have h := h r172 hr172 g168 hpo171
              refine sv_cond_ne hM dX12_flow_305 hr172 (t := 312) rfl rfl (fun hc => ?_) (fun hc => ?_)
              · have h := h.1 (hc)
                refine sv_iconst (d := (1 : Int)) hM dX12_flow_312 rfl rfl ?_
                refine sv_goto hM dX12_flow_313 (pc' := 317) rfl ?_
                have eS := sv_mod.eq md176
                have hb := J164 (1 : Int) (⟨by decide, by decide⟩ : sv_R (1 : Int)) (sv_sts (sv_sts (sv_sts (sv_sts S [68, 69, 70, 81, 82, 83, 84, 85, 86, 71, 74, 75, 1127, 78, 79, 80, 76, 77] g7) [68, 69, 70] g20) [68, 69, 70] g31) [68, 69, 70] g168) (by rw [← eS]; exact ok169) h
                have hb : sv_T sm_XS sm_cs sm_L sm_sh 3 (q_flow p1 S) 235 317 [(0, .ref 0), (1, sv_I p1), (2, sv_I l2_32), (3, sv_I r17), (4, sv_I l4_33)] [sv_I (1 : Int)] (sv_sts (sv_sts (sv_sts (sv_sts S [68, 69, 70, 81, 82, 83, 84, 85, 86, 71, 74, 75, 1127, 78, 79, 80, 76, 77] g7) [68, 69, 70] g20) [68, 69, 70] g31) [68, 69, 70] g168) := Eq.mpr (congrArg (fun Z => sv_T sm_XS sm_cs sm_L sm_sh 3 (q_flow p1 S) 235 317 [(0, .ref 0), (1, sv_I p1), (2, sv_I l2_32), (3, sv_I r17), (4, sv_I l4_33)] [sv_I (1 : Int)] Z) eS) hb
                exact sv_less (lv := [(0, .ref 0), (1, sv_I p1), (2, sv_I l2_32), (3, sv_I r17), (4, sv_I l4_33)]) (sv_Sub_cons rfl (sv_Sub_cons rfl (sv_Sub_cons rfl (sv_Sub_cons rfl (sv_Sub_cons rfl sv_Sub_nil))))) hb
              · have h := h.2 (hc)
                refine sv_iload_n hM dX12_flow_308 rfl rfl ?_
                refine sv_cond_eq hM dX12_flow_309 hl2_32 (t := 316) rfl rfl (fun hc => ?_) (fun hc => ?_)
                · have h := h.1 (hc)
                  refine sv_iconst (d := (0 : Int)) hM dX12_flow_316 rfl rfl ?_
                  have eS := sv_mod.eq md176
                  have hb := J164 (0 : Int) (⟨by decide, by decide⟩ : sv_R (0 : Int)) (sv_sts (sv_sts (sv_sts (sv_sts S [68, 69, 70, 81, 82, 83, 84, 85, 86, 71, 74, 75, 1127, 78, 79, 80, 76, 77] g7) [68, 69, 70] g20) [68, 69, 70] g31) [68, 69, 70] g168) (by rw [← eS]; exact ok169) h
                  have hb : sv_T sm_XS sm_cs sm_L sm_sh 3 (q_flow p1 S) 235 317 [(0, .ref 0), (1, sv_I p1), (2, sv_I l2_32), (3, sv_I r17), (4, sv_I l4_33)] [sv_I (0 : Int)] (sv_sts (sv_sts (sv_sts (sv_sts S [68, 69, 70, 81, 82, 83, 84, 85, 86, 71, 74, 75, 1127, 78, 79, 80, 76, 77] g7) [68, 69, 70] g20) [68, 69, 70] g31) [68, 69, 70] g168) := Eq.mpr (congrArg (fun Z => sv_T sm_XS sm_cs sm_L sm_sh 3 (q_flow p1 S) 235 317 [(0, .ref 0), (1, sv_I p1), (2, sv_I l2_32), (3, sv_I r17), (4, sv_I l4_33)] [sv_I (0 : Int)] Z) eS) hb
                  exact sv_less (lv := [(0, .ref 0), (1, sv_I p1), (2, sv_I l2_32), (3, sv_I r17), (4, sv_I l4_33)]) (sv_Sub_cons rfl (sv_Sub_cons rfl (sv_Sub_cons rfl (sv_Sub_cons rfl (sv_Sub_cons rfl sv_Sub_nil))))) hb
                · have h := h.2 (hc)
                  refine sv_iconst (d := (1 : Int)) hM dX12_flow_312 rfl rfl ?_
                  refine sv_goto hM dX12_flow_313 (pc' := 317) rfl ?_
                  have eS := sv_mod.eq md176
                  have hb := J164 (1 : Int) (⟨by decide, by decide⟩ : sv_R (1 : Int)) (sv_sts (sv_sts (sv_sts (sv_sts S [68, 69, 70, 81, 82, 83, 84, 85, 86, 71, 74, 75, 1127, 78, 79, 80, 76, 77] g7) [68, 69, 70] g20) [68, 69, 70] g31) [68, 69, 70] g168) (by rw [← eS]; exact ok169) h
                  have hb : sv_T sm_XS sm_cs sm_L sm_sh 3 (q_flow p1 S) 235 317 [(0, .ref 0), (1, sv_I p1), (2, sv_I l2_32), (3, sv_I r17), (4, sv_I l4_33)] [sv_I (1 : Int)] (sv_sts (sv_sts (sv_sts (sv_sts S [68, 69, 70, 81, 82, 83, 84, 85, 86, 71, 74, 75, 1127, 78, 79, 80, 76, 77] g7) [68, 69, 70] g20) [68, 69, 70] g31) [68, 69, 70] g168) := Eq.mpr (congrArg (fun Z => sv_T sm_XS sm_cs sm_L sm_sh 3 (q_flow p1 S) 235 317 [(0, .ref 0), (1, sv_I p1), (2, sv_I l2_32), (3, sv_I r17), (4, sv_I l4_33)] [sv_I (1 : Int)] Z) eS) hb
                  exact sv_less (lv := [(0, .ref 0), (1, sv_I p1), (2, sv_I l2_32), (3, sv_I r17), (4, sv_I l4_33)]) (sv_Sub_cons rfl (sv_Sub_cons rfl (sv_Sub_cons rfl (sv_Sub_cons rfl (sv_Sub_cons rfl sv_Sub_nil))))) hb
            · have h := h.2 (hc)
              have J186 : ∀ s178 : Int, sv_R s178 → ∀ g177 : sv_S, sm_ok (sv_sts (sv_sts (sv_sts (sv_sts S [68, 69, 70, 81, 82, 83, 84, 85, 86, 71, 74, 75, 1127, 78, 79, 80, 76, 77] g7) [68, 69, 70] g20) [68, 69, 70] g31) [68, 69, 70] g177) → ((s178 = 0 ∨ s178 = 1) ∧ (sm_cm (g7 71) + sm_pt (g177 68) (g177 69) (g177 70) + sm_pl (g7 81) (g7 82) (g7 83) (g7 84) (g7 85) (g7 86) + sm_ps (g7 76) (g7 77)) + s178 ≤ (sm_cm (S 71) + sm_pt (S 68) (S 69) (S 70) + sm_pl (S 81) (S 82) (S 83) (S 84) (S 85) (S 86) + sm_ps (S 76) (S 77))) → sv_T sm_XS sm_cs sm_L sm_sh 3 (q_flow p1 S) 235 282 [(0, .ref 0), (1, sv_I p1), (2, sv_I l2_32), (3, sv_I r17), (4, sv_I l4_33)] [sv_I s178] (sv_sts (sv_sts (sv_sts (sv_sts S [68, 69, 70, 81, 82, 83, 84, 85, 86, 71, 74, 75, 1127, 78, 79, 80, 76, 77] g7) [68, 69, 70] g20) [68, 69, 70] g31) [68, 69, 70] g177) := by
                intro s178 hs178 g177 ok179 hin180
                have h := h.1 s178 hs178 g177 hin180
                have md181 : sv_mod [68, 69, 70, 81, 82, 83, 84, 85, 86, 71, 74, 75, 1127, 78, 79, 80, 72, 76, 77] S (sv_sts (sv_sts (sv_sts (sv_sts S [68, 69, 70, 81, 82, 83, 84, 85, 86, 71, 74, 75, 1127, 78, 79, 80, 76, 77] g7) [68, 69, 70] g20) [68, 69, 70] g31) [68, 69, 70] g177) := sv_mod.sts md37 (by decide)
                have md182 : sv_mod [68, 69, 70] (sv_sts S [68, 69, 70, 81, 82, 83, 84, 85, 86, 71, 74, 75, 1127, 78, 79, 80, 76, 77] g7) (sv_sts (sv_sts (sv_sts (sv_sts S [68, 69, 70, 81, 82, 83, 84, 85, 86, 71, 74, 75, 1127, 78, 79, 80, 76, 77] g7) [68, 69, 70] g20) [68, 69, 70] g31) [68, 69, 70] g177) := sv_mod.sts md38 (by decide)
                have md183 : sv_mod [68, 69, 70] (sv_sts (sv_sts S [68, 69, 70, 81, 82, 83, 84, 85, 86, 71, 74, 75, 1127, 78, 79, 80, 76, 77] g7) [68, 69, 70] g20) (sv_sts (sv_sts (sv_sts (sv_sts S [68, 69, 70, 81, 82, 83, 84, 85, 86, 71, 74, 75, 1127, 78, 79, 80, 76, 77] g7) [68, 69, 70] g20) [68, 69, 70] g31) [68, 69, 70] g177) := sv_mod.sts md39 (by decide)
                have md184 : sv_mod [68, 69, 70] (sv_sts (sv_sts (sv_sts S [68, 69, 70, 81, 82, 83, 84, 85, 86, 71, 74, 75, 1127, 78, 79, 80, 76, 77] g7) [68, 69, 70] g20) [68, 69, 70] g31) (sv_sts (sv_sts (sv_sts (sv_sts S [68, 69, 70, 81, 82, 83, 84, 85, 86, 71, 74, 75, 1127, 78, 79, 80, 76, 77] g7) [68, 69, 70] g20) [68, 69, 70] g31) [68, 69, 70] g177) := sv_mod.sts sv_mod.rf (by decide)
                refine sv_istore_n hM dX12_flow_282 (by decide) rfl ?_
                show sv_T sm_XS sm_cs sm_L sm_sh 3 (q_flow p1 S) 235 283 [(0, .ref 0), (1, sv_I p1), (2, sv_I s178), (3, sv_I r17), (4, sv_I l4_33)] [] (sv_sts (sv_sts (sv_sts (sv_sts S [68, 69, 70, 81, 82, 83, 84, 85, 86, 71, 74, 75, 1127, 78, 79, 80, 76, 77] g7) [68, 69, 70] g20) [68, 69, 70] g31) [68, 69, 70] g177)
                refine sv_iinc (d := (1 : Int)) hM dX12_flow_283 rfl (by decide) rfl rfl ?_
                show sv_T sm_XS sm_cs sm_L sm_sh 3 (q_flow p1 S) 235 286 [(0, .ref 0), (1, sv_I p1), (2, sv_I s178), (3, sv_I r17), (4, sv_I (l4_33 + (1 : Int)))] [] (sv_sts (sv_sts (sv_sts (sv_sts S [68, 69, 70, 81, 82, 83, 84, 85, 86, 71, 74, 75, 1127, 78, 79, 80, 76, 77] g7) [68, 69, 70] g20) [68, 69, 70] g31) [68, 69, 70] g177)
                refine sv_goto hM dX12_flow_286 (pc' := 235) rfl ?_
                obtain ⟨o185, h⟩ := h
                have eS := sv_mod.eq md183
                have hb := ih34 (s178, (l4_33 + (1 : Int)), (sv_sts (sv_sts (sv_sts (sv_sts S [68, 69, 70, 81, 82, 83, 84, 85, 86, 71, 74, 75, 1127, 78, 79, 80, 76, 77] g7) [68, 69, 70] g20) [68, 69, 70] g31) [68, 69, 70] g177)) ⟨hs178, o185, (by rw [← eS]; exact ok179), h.1⟩ h.2
                have hb : sv_T sm_XS sm_cs sm_L sm_sh 3 (q_flow p1 S) 235 235 [(0, .ref 0), (1, sv_I p1), (2, sv_I s178), (3, sv_I r17), (4, sv_I (l4_33 + (1 : Int)))] [] (sv_sts (sv_sts (sv_sts (sv_sts S [68, 69, 70, 81, 82, 83, 84, 85, 86, 71, 74, 75, 1127, 78, 79, 80, 76, 77] g7) [68, 69, 70] g20) [68, 69, 70] g31) [68, 69, 70] g177) := Eq.mpr (congrArg (fun Z => sv_T sm_XS sm_cs sm_L sm_sh 3 (q_flow p1 S) 235 235 [(0, .ref 0), (1, sv_I p1), (2, sv_I s178), (3, sv_I r17), (4, sv_I (l4_33 + (1 : Int)))] [] Z) eS) hb
                exact sv_less (lv := [(0, .ref 0), (1, sv_I p1), (2, sv_I s178), (3, sv_I r17), (4, sv_I (l4_33 + (1 : Int)))]) (sv_Sub_cons rfl (sv_Sub_cons rfl (sv_Sub_cons rfl (sv_Sub_cons rfl (sv_Sub_cons rfl sv_Sub_nil))))) hb
              have h := h.2
              refine sv_aload_n hM dX12_flow_246 rfl rfl ?_
              refine sv_aload_n hM dX12_flow_247 rfl rfl ?_
              refine sv_getA hM dX12_flow_248 sm_fl_238 (sm_a0 _) sm_k126 rfl ?_
              refine sv_sipush (d := (639 : Int)) hM dX12_flow_251 rfl rfl ?_
              obtain ⟨o187, h⟩ := h
              have k188 : sv_R (g7 75 (639 : Int)) := sm_okI ok36 sm_r75 (639 : Int)
              have h := h k188
              refine sv_iald hM dX12_flow_254 (sm_a75 _) (by decide) o187.1 o187.2 rfl (x := (g7 75 (639 : Int))) rfl ?_
              refine sv_iload hM dX12_flow_255 rfl rfl ?_
              refine sv_iadd hM dX12_flow_257 rfl ?_
              refine sv_aload_n hM dX12_flow_258 rfl rfl ?_
              refine sv_getA hM dX12_flow_259 sm_fl_238 (sm_a0 _) sm_k126 rfl ?_
              refine sv_iload_n hM dX12_flow_262 rfl rfl ?_
              have k189 : sv_R (g7 75 p1) := sm_okI ok36 sm_r75 p1
              have h := h k189
              refine sv_iald hM dX12_flow_263 (sm_a75 _) (by decide) o40.1 o40.2 rfl (x := (g7 75 p1)) rfl ?_
              refine sv_iload hM dX12_flow_264 rfl rfl ?_
              refine sv_iadd hM dX12_flow_266 rfl ?_
              obtain ⟨o190, h⟩ := h
              obtain ⟨o191, h⟩ := h
              obtain ⟨o192, h⟩ := h
              refine sv_callV hM dX12_flow_267 sm_iv_1069 (by decide) (sm_a0 _) rfl rfl (Nat.le_of_ble_eq_true rfl) sm_h208 (Nat.le_of_ble_eq_true rfl) (Nat.le_of_ble_eq_true rfl) (F' := 1) (Nat.le_of_ble_eq_true rfl) rfl (t_join ((g7 75 (639 : Int)) + l4_33) ((g7 75 p1) + l4_33) (sv_sts (sv_sts (sv_sts S [68, 69, 70, 81, 82, 83, 84, 85, 86, 71, 74, 75, 1127, 78, 79, 80, 76, 77] g7) [68, 69, 70] g20) [68, 69, 70] g31) ok36 o190 o191 o192) (fun v S1 hq => ?_)
              obtain ⟨r197, rfl, hr197, ok194, md195, hpo196⟩ := hq
              obtain ⟨g193, rfl⟩ : ∃ g, S1 = sv_sts (sv_sts (sv_sts (sv_sts S [68, 69, 70, 81, 82, 83, 84, 85, 86, 71, 74, 75, 1127, 78, 79, 80, 76, 77] g7) [68, 69, 70] g20) [68, 69, 70] g31) [68, 69, 70] g := ⟨_, md195.eq⟩
              show sv_T sm_XS sm_cs sm_L sm_sh 3 (q_flow p1 S) 235 270 [(0, .ref 0), (1, sv_I p1), (2, sv_I l2_32), (3, sv_I r17), (4, sv_I l4_33)] [sv_I r197] (sv_sts (sv_sts (sv_sts (sv_sts S [68, 69, 70, 81, 82, 83, 84, 85, 86, 71, 74, 75, 1127, 78, 79, 80, 76, 77] g7) [68, 69, 70] g20) [68, 69, 70] g31) [68, 69, 70] g193)
              have md198 : sv_mod [68, 69, 70, 81, 82, 83, 84, 85, 86, 71, 74, 75, 1127, 78, 79, 80, 72, 76, 77] S (sv_sts (sv_sts (sv_sts (sv_sts S [68, 69, 70, 81, 82, 83, 84, 85, 86, 71, 74, 75, 1127, 78, 79, 80, 76, 77] g7) [68, 69, 70] g20) [68, 69, 70] g31) [68, 69, 70] g193) := sv_mod.sts md37 (by decide)
              have md199 : sv_mod [68, 69, 70] (sv_sts S [68, 69, 70, 81, 82, 83, 84, 85, 86, 71, 74, 75, 1127, 78, 79, 80, 76, 77] g7) (sv_sts (sv_sts (sv_sts (sv_sts S [68, 69, 70, 81, 82, 83, 84, 85, 86, 71, 74, 75, 1127, 78, 79, 80, 76, 77] g7) [68, 69, 70] g20) [68, 69, 70] g31) [68, 69, 70] g193) := sv_mod.sts md38 (by decide)
              have md200 : sv_mod [68, 69, 70] (sv_sts (sv_sts S [68, 69, 70, 81, 82, 83, 84, 85, 86, 71, 74, 75, 1127, 78, 79, 80, 76, 77] g7) [68, 69, 70] g20) (sv_sts (sv_sts (sv_sts (sv_sts S [68, 69, 70, 81, 82, 83, 84, 85, 86, 71, 74, 75, 1127, 78, 79, 80, 76, 77] g7) [68, 69, 70] g20) [68, 69, 70] g31) [68, 69, 70] g193) := sv_mod.sts md39 (by decide)
              have md201 : sv_mod [68, 69, 70] (sv_sts (sv_sts (sv_sts S [68, 69, 70, 81, 82, 83, 84, 85, 86, 71, 74, 75, 1127, 78, 79, 80, 76, 77] g7) [68, 69, 70] g20) [68, 69, 70] g31) (sv_sts (sv_sts (sv_sts (sv_sts S [68, 69, 70, 81, 82, 83, 84, 85, 86, 71, 74, 75, 1127, 78, 79, 80, 76, 77] g7) [68, 69, 70] g20) [68, 69, 70] g31) [68, 69, 70] g193) := sv_mod.sts (sv_mod.rf (l := [68, 69, 70]) (S := (sv_sts (sv_sts (sv_sts S [68, 69, 70, 81, 82, 83, 84, 85, 86, 71, 74, 75, 1127, 78, 79, 80, 76, 77] g7) [68, 69, 70] g20) [68, 69, 70] g31))) (by decide)
              have h := h r197 hr197 g193 hpo196
              refine sv_cond_ne hM dX12_flow_270 hr197 (t := 277) rfl rfl (fun hc => ?_) (fun hc => ?_)
              · have h := h.1 (hc)
                refine sv_iconst (d := (1 : Int)) hM dX12_flow_277 rfl rfl ?_
                refine sv_goto hM dX12_flow_278 (pc' := 282) rfl ?_
                have eS := sv_mod.eq md201
                have hb := J186 (1 : Int) (⟨by decide, by decide⟩ : sv_R (1 : Int)) (sv_sts (sv_sts (sv_sts (sv_sts S [68, 69, 70, 81, 82, 83, 84, 85, 86, 71, 74, 75, 1127, 78, 79, 80, 76, 77] g7) [68, 69, 70] g20) [68, 69, 70] g31) [68, 69, 70] g193) (by rw [← eS]; exact ok194) h
                have hb : sv_T sm_XS sm_cs sm_L sm_sh 3 (q_flow p1 S) 235 282 [(0, .ref 0), (1, sv_I p1), (2, sv_I l2_32), (3, sv_I r17), (4, sv_I l4_33)] [sv_I (1 : Int)] (sv_sts (sv_sts (sv_sts (sv_sts S [68, 69, 70, 81, 82, 83, 84, 85, 86, 71, 74, 75, 1127, 78, 79, 80, 76, 77] g7) [68, 69, 70] g20) [68, 69, 70] g31) [68, 69, 70] g193) := Eq.mpr (congrArg (fun Z => sv_T sm_XS sm_cs sm_L sm_sh 3 (q_flow p1 S) 235 282 [(0, .ref 0), (1, sv_I p1), (2, sv_I l2_32), (3, sv_I r17), (4, sv_I l4_33)] [sv_I (1 : Int)] Z) eS) hb
                exact sv_less (lv := [(0, .ref 0), (1, sv_I p1), (2, sv_I l2_32), (3, sv_I r17), (4, sv_I l4_33)]) (sv_Sub_cons rfl (sv_Sub_cons rfl (sv_Sub_cons rfl (sv_Sub_cons rfl (sv_Sub_cons rfl sv_Sub_nil))))) hb
              · have h := h.2 (hc)
                refine sv_iload_n hM dX12_flow_273 rfl rfl ?_
                refine sv_cond_eq hM dX12_flow_274 hl2_32 (t := 281) rfl rfl (fun hc => ?_) (fun hc => ?_)
                · have h := h.1 (hc)
                  refine sv_iconst (d := (0 : Int)) hM dX12_flow_281 rfl rfl ?_
                  have eS := sv_mod.eq md201
                  have hb := J186 (0 : Int) (⟨by decide, by decide⟩ : sv_R (0 : Int)) (sv_sts (sv_sts (sv_sts (sv_sts S [68, 69, 70, 81, 82, 83, 84, 85, 86, 71, 74, 75, 1127, 78, 79, 80, 76, 77] g7) [68, 69, 70] g20) [68, 69, 70] g31) [68, 69, 70] g193) (by rw [← eS]; exact ok194) h
                  have hb : sv_T sm_XS sm_cs sm_L sm_sh 3 (q_flow p1 S) 235 282 [(0, .ref 0), (1, sv_I p1), (2, sv_I l2_32), (3, sv_I r17), (4, sv_I l4_33)] [sv_I (0 : Int)] (sv_sts (sv_sts (sv_sts (sv_sts S [68, 69, 70, 81, 82, 83, 84, 85, 86, 71, 74, 75, 1127, 78, 79, 80, 76, 77] g7) [68, 69, 70] g20) [68, 69, 70] g31) [68, 69, 70] g193) := Eq.mpr (congrArg (fun Z => sv_T sm_XS sm_cs sm_L sm_sh 3 (q_flow p1 S) 235 282 [(0, .ref 0), (1, sv_I p1), (2, sv_I l2_32), (3, sv_I r17), (4, sv_I l4_33)] [sv_I (0 : Int)] Z) eS) hb
                  exact sv_less (lv := [(0, .ref 0), (1, sv_I p1), (2, sv_I l2_32), (3, sv_I r17), (4, sv_I l4_33)]) (sv_Sub_cons rfl (sv_Sub_cons rfl (sv_Sub_cons rfl (sv_Sub_cons rfl (sv_Sub_cons rfl sv_Sub_nil))))) hb
                · have h := h.2 (hc)
                  refine sv_iconst (d := (1 : Int)) hM dX12_flow_277 rfl rfl ?_
                  refine sv_goto hM dX12_flow_278 (pc' := 282) rfl ?_
                  have eS := sv_mod.eq md201
                  have hb := J186 (1 : Int) (⟨by decide, by decide⟩ : sv_R (1 : Int)) (sv_sts (sv_sts (sv_sts (sv_sts S [68, 69, 70, 81, 82, 83, 84, 85, 86, 71, 74, 75, 1127, 78, 79, 80, 76, 77] g7) [68, 69, 70] g20) [68, 69, 70] g31) [68, 69, 70] g193) (by rw [← eS]; exact ok194) h
                  have hb : sv_T sm_XS sm_cs sm_L sm_sh 3 (q_flow p1 S) 235 282 [(0, .ref 0), (1, sv_I p1), (2, sv_I l2_32), (3, sv_I r17), (4, sv_I l4_33)] [sv_I (1 : Int)] (sv_sts (sv_sts (sv_sts (sv_sts S [68, 69, 70, 81, 82, 83, 84, 85, 86, 71, 74, 75, 1127, 78, 79, 80, 76, 77] g7) [68, 69, 70] g20) [68, 69, 70] g31) [68, 69, 70] g193) := Eq.mpr (congrArg (fun Z => sv_T sm_XS sm_cs sm_L sm_sh 3 (q_flow p1 S) 235 282 [(0, .ref 0), (1, sv_I p1), (2, sv_I l2_32), (3, sv_I r17), (4, sv_I l4_33)] [sv_I (1 : Int)] Z) eS) hb
                  exact sv_less (lv := [(0, .ref 0), (1, sv_I p1), (2, sv_I l2_32), (3, sv_I r17), (4, sv_I l4_33)]) (sv_Sub_cons rfl (sv_Sub_cons rfl (sv_Sub_cons rfl (sv_Sub_cons rfl (sv_Sub_cons rfl sv_Sub_nil))))) hb
          have eS := sv_mod.eq (sv_mod.rf (l := [68, 69, 70]) (S := (sv_sts (sv_sts S [68, 69, 70, 81, 82, 83, 84, 85, 86, 71, 74, 75, 1127, 78, 79, 80, 76, 77] g7) [68, 69, 70] g20)))
          have hb := hJ (l2_21, (0 : Int), (sv_sts (sv_sts S [68, 69, 70, 81, 82, 83, 84, 85, 86, 71, 74, 75, 1127, 78, 79, 80, 76, 77] g7) [68, 69, 70] g20)) ⟨hl2_21, (⟨by decide, by decide⟩ : sv_R (0 : Int)), (by rw [← eS]; exact ok25), hin35⟩
          have hb : sv_T sm_XS sm_cs sm_L sm_sh 3 (q_flow p1 S) 235 235 [(0, .ref 0), (1, sv_I p1), (2, sv_I l2_21), (3, sv_I r17), (4, sv_I (0 : Int))] [] (sv_sts (sv_sts S [68, 69, 70, 81, 82, 83, 84, 85, 86, 71, 74, 75, 1127, 78, 79, 80, 76, 77] g7) [68, 69, 70] g20) := Eq.mpr (congrArg (fun Z => sv_T sm_XS sm_cs sm_L sm_sh 3 (q_flow p1 S) 235 235 [(0, .ref 0), (1, sv_I p1), (2, sv_I l2_21), (3, sv_I r17), (4, sv_I (0 : Int))] [] Z) eS) hb
          exact hb
        · have h := h.2 (hc)
          have J210 : ∀ s203 : Int, sv_R s203 → ∀ g202 : sv_S, sm_ok (sv_sts (sv_sts (sv_sts S [68, 69, 70, 81, 82, 83, 84, 85, 86, 71, 74, 75, 1127, 78, 79, 80, 76, 77] g7) [68, 69, 70] g20) [68, 69, 70] g202) → ((s203 = 0 ∨ s203 = 1) ∧ (sm_cm (g7 71) + sm_pt (g202 68) (g202 69) (g202 70) + sm_pl (g7 81) (g7 82) (g7 83) (g7 84) (g7 85) (g7 86) + sm_ps (g7 76) (g7 77)) + s203 ≤ (sm_cm (S 71) + sm_pt (S 68) (S 69) (S 70) + sm_pl (S 81) (S 82) (S 83) (S 84) (S 85) (S 86) + sm_ps (S 76) (S 77))) → sv_T sm_XS sm_cs sm_L sm_sh 3 (q_flow p1 S) 235 225 [(0, .ref 0), (1, sv_I p1), (2, sv_I l2_21), (3, sv_I r17), (4, sv_I l4_22)] [sv_I s203] (sv_sts (sv_sts (sv_sts S [68, 69, 70, 81, 82, 83, 84, 85, 86, 71, 74, 75, 1127, 78, 79, 80, 76, 77] g7) [68, 69, 70] g20) [68, 69, 70] g202) := by
            intro s203 hs203 g202 ok204 hin205
            have h := h.1 s203 hs203 g202 hin205
            have md206 : sv_mod [68, 69, 70, 81, 82, 83, 84, 85, 86, 71, 74, 75, 1127, 78, 79, 80, 72, 76, 77] S (sv_sts (sv_sts (sv_sts S [68, 69, 70, 81, 82, 83, 84, 85, 86, 71, 74, 75, 1127, 78, 79, 80, 76, 77] g7) [68, 69, 70] g20) [68, 69, 70] g202) := sv_mod.sts md26 (by decide)
            have md207 : sv_mod [68, 69, 70] (sv_sts S [68, 69, 70, 81, 82, 83, 84, 85, 86, 71, 74, 75, 1127, 78, 79, 80, 76, 77] g7) (sv_sts (sv_sts (sv_sts S [68, 69, 70, 81, 82, 83, 84, 85, 86, 71, 74, 75, 1127, 78, 79, 80, 76, 77] g7) [68, 69, 70] g20) [68, 69, 70] g202) := sv_mod.sts md27 (by decide)
            have md208 : sv_mod [68, 69, 70] (sv_sts (sv_sts S [68, 69, 70, 81, 82, 83, 84, 85, 86, 71, 74, 75, 1127, 78, 79, 80, 76, 77] g7) [68, 69, 70] g20) (sv_sts (sv_sts (sv_sts S [68, 69, 70, 81, 82, 83, 84, 85, 86, 71, 74, 75, 1127, 78, 79, 80, 76, 77] g7) [68, 69, 70] g20) [68, 69, 70] g202) := sv_mod.sts sv_mod.rf (by decide)
            refine sv_istore_n hM dX12_flow_225 (by decide) rfl ?_
            show sv_T sm_XS sm_cs sm_L sm_sh 3 (q_flow p1 S) 235 226 [(0, .ref 0), (1, sv_I p1), (2, sv_I s203), (3, sv_I r17), (4, sv_I l4_22)] [] (sv_sts (sv_sts (sv_sts S [68, 69, 70, 81, 82, 83, 84, 85, 86, 71, 74, 75, 1127, 78, 79, 80, 76, 77] g7) [68, 69, 70] g20) [68, 69, 70] g202)
            refine sv_iinc (d := (1 : Int)) hM dX12_flow_226 rfl (by decide) rfl rfl ?_
            show sv_T sm_XS sm_cs sm_L sm_sh 3 (q_flow p1 S) 235 229 [(0, .ref 0), (1, sv_I p1), (2, sv_I s203), (3, sv_I r17), (4, sv_I (l4_22 + (1 : Int)))] [] (sv_sts (sv_sts (sv_sts S [68, 69, 70, 81, 82, 83, 84, 85, 86, 71, 74, 75, 1127, 78, 79, 80, 76, 77] g7) [68, 69, 70] g20) [68, 69, 70] g202)
            refine sv_goto hM dX12_flow_229 (pc' := 183) rfl ?_
            obtain ⟨o209, h⟩ := h
            have eS := sv_mod.eq md207
            have hb := ih23 (s203, (l4_22 + (1 : Int)), (sv_sts (sv_sts (sv_sts S [68, 69, 70, 81, 82, 83, 84, 85, 86, 71, 74, 75, 1127, 78, 79, 80, 76, 77] g7) [68, 69, 70] g20) [68, 69, 70] g202)) ⟨hs203, o209, (by rw [← eS]; exact ok204), h.1⟩ h.2
            have hb : sv_T sm_XS sm_cs sm_L sm_sh 3 (q_flow p1 S) 235 183 [(0, .ref 0), (1, sv_I p1), (2, sv_I s203), (3, sv_I r17), (4, sv_I (l4_22 + (1 : Int)))] [] (sv_sts (sv_sts (sv_sts S [68, 69, 70, 81, 82, 83, 84, 85, 86, 71, 74, 75, 1127, 78, 79, 80, 76, 77] g7) [68, 69, 70] g20) [68, 69, 70] g202) := Eq.mpr (congrArg (fun Z => sv_T sm_XS sm_cs sm_L sm_sh 3 (q_flow p1 S) 235 183 [(0, .ref 0), (1, sv_I p1), (2, sv_I s203), (3, sv_I r17), (4, sv_I (l4_22 + (1 : Int)))] [] Z) eS) hb
            exact sv_less (lv := [(0, .ref 0), (1, sv_I p1), (2, sv_I s203), (3, sv_I r17), (4, sv_I (l4_22 + (1 : Int)))]) (sv_Sub_cons rfl (sv_Sub_cons rfl (sv_Sub_cons rfl (sv_Sub_cons rfl (sv_Sub_cons rfl sv_Sub_nil))))) hb
          have h := h.2
          refine sv_aload_n hM dX12_flow_199 rfl rfl ?_
          refine sv_ldc_w (d := (635640 : Int)) hM dX12_flow_200 sm_ck_1084 rfl rfl ?_
          refine sv_iload hM dX12_flow_203 rfl rfl ?_
          refine sv_iadd hM dX12_flow_205 rfl ?_
          refine sv_iload_n hM dX12_flow_206 rfl rfl ?_
          refine sv_iload hM dX12_flow_207 rfl rfl ?_
          refine sv_iadd hM dX12_flow_209 rfl ?_
          obtain ⟨o211, h⟩ := h
          obtain ⟨o212, h⟩ := h
          obtain ⟨o213, h⟩ := h
          refine sv_callV hM dX12_flow_210 sm_iv_1069 (by decide) (sm_a0 _) rfl rfl (Nat.le_of_ble_eq_true rfl) sm_h208 (Nat.le_of_ble_eq_true rfl) (Nat.le_of_ble_eq_true rfl) (F' := 1) (Nat.le_of_ble_eq_true rfl) rfl (t_join ((635640 : Int) + l4_22) (r17 + l4_22) (sv_sts (sv_sts S [68, 69, 70, 81, 82, 83, 84, 85, 86, 71, 74, 75, 1127, 78, 79, 80, 76, 77] g7) [68, 69, 70] g20) ok25 o211 o212 o213) (fun v S1 hq => ?_)
          obtain ⟨r218, rfl, hr218, ok215, md216, hpo217⟩ := hq
          obtain ⟨g214, rfl⟩ : ∃ g, S1 = sv_sts (sv_sts (sv_sts S [68, 69, 70, 81, 82, 83, 84, 85, 86, 71, 74, 75, 1127, 78, 79, 80, 76, 77] g7) [68, 69, 70] g20) [68, 69, 70] g := ⟨_, md216.eq⟩
          show sv_T sm_XS sm_cs sm_L sm_sh 3 (q_flow p1 S) 235 213 [(0, .ref 0), (1, sv_I p1), (2, sv_I l2_21), (3, sv_I r17), (4, sv_I l4_22)] [sv_I r218] (sv_sts (sv_sts (sv_sts S [68, 69, 70, 81, 82, 83, 84, 85, 86, 71, 74, 75, 1127, 78, 79, 80, 76, 77] g7) [68, 69, 70] g20) [68, 69, 70] g214)
          have md219 : sv_mod [68, 69, 70, 81, 82, 83, 84, 85, 86, 71, 74, 75, 1127, 78, 79, 80, 72, 76, 77] S (sv_sts (sv_sts (sv_sts S [68, 69, 70, 81, 82, 83, 84, 85, 86, 71, 74, 75, 1127, 78, 79, 80, 76, 77] g7) [68, 69, 70] g20) [68, 69, 70] g214) := sv_mod.sts md26 (by decide)
          have md220 : sv_mod [68, 69, 70] (sv_sts S [68, 69, 70, 81, 82, 83, 84, 85, 86, 71, 74, 75, 1127, 78, 79, 80, 76, 77] g7) (sv_sts (sv_sts (sv_sts S [68, 69, 70, 81, 82, 83, 84, 85, 86, 71, 74, 75, 1127, 78, 79, 80, 76, 77] g7) [68, 69, 70] g20) [68, 69, 70] g214) := sv_mod.sts md27 (by decide)
          have md221 : sv_mod [68, 69, 70] (sv_sts (sv_sts S [68, 69, 70, 81, 82, 83, 84, 85, 86, 71, 74, 75, 1127, 78, 79, 80, 76, 77] g7) [68, 69, 70] g20) (sv_sts (sv_sts (sv_sts S [68, 69, 70, 81, 82, 83, 84, 85, 86, 71, 74, 75, 1127, 78, 79, 80, 76, 77] g7) [68, 69, 70] g20) [68, 69, 70] g214) := sv_mod.sts (sv_mod.rf (l := [68, 69, 70]) (S := (sv_sts (sv_sts S [68, 69, 70, 81, 82, 83, 84, 85, 86, 71, 74, 75, 1127, 78, 79, 80, 76, 77] g7) [68, 69, 70] g20))) (by decide)
          have h := h r218 hr218 g214 hpo217
          refine sv_cond_ne hM dX12_flow_213 hr218 (t := 220) rfl rfl (fun hc => ?_) (fun hc => ?_)
          · have h := h.1 (hc)
            refine sv_iconst (d := (1 : Int)) hM dX12_flow_220 rfl rfl ?_
            refine sv_goto hM dX12_flow_221 (pc' := 225) rfl ?_
            have eS := sv_mod.eq md221
            have hb := J210 (1 : Int) (⟨by decide, by decide⟩ : sv_R (1 : Int)) (sv_sts (sv_sts (sv_sts S [68, 69, 70, 81, 82, 83, 84, 85, 86, 71, 74, 75, 1127, 78, 79, 80, 76, 77] g7) [68, 69, 70] g20) [68, 69, 70] g214) (by rw [← eS]; exact ok215) h
            have hb : sv_T sm_XS sm_cs sm_L sm_sh 3 (q_flow p1 S) 235 225 [(0, .ref 0), (1, sv_I p1), (2, sv_I l2_21), (3, sv_I r17), (4, sv_I l4_22)] [sv_I (1 : Int)] (sv_sts (sv_sts (sv_sts S [68, 69, 70, 81, 82, 83, 84, 85, 86, 71, 74, 75, 1127, 78, 79, 80, 76, 77] g7) [68, 69, 70] g20) [68, 69, 70] g214) := Eq.mpr (congrArg (fun Z => sv_T sm_XS sm_cs sm_L sm_sh 3 (q_flow p1 S) 235 225 [(0, .ref 0), (1, sv_I p1), (2, sv_I l2_21), (3, sv_I r17), (4, sv_I l4_22)] [sv_I (1 : Int)] Z) eS) hb
            exact sv_less (lv := [(0, .ref 0), (1, sv_I p1), (2, sv_I l2_21), (3, sv_I r17), (4, sv_I l4_22)]) (sv_Sub_cons rfl (sv_Sub_cons rfl (sv_Sub_cons rfl (sv_Sub_cons rfl (sv_Sub_cons rfl sv_Sub_nil))))) hb
          · have h := h.2 (hc)
            refine sv_iload_n hM dX12_flow_216 rfl rfl ?_
            refine sv_cond_eq hM dX12_flow_217 hl2_21 (t := 224) rfl rfl (fun hc => ?_) (fun hc => ?_)
            · have h := h.1 (hc)
              refine sv_iconst (d := (0 : Int)) hM dX12_flow_224 rfl rfl ?_
              have eS := sv_mod.eq md221
              have hb := J210 (0 : Int) (⟨by decide, by decide⟩ : sv_R (0 : Int)) (sv_sts (sv_sts (sv_sts S [68, 69, 70, 81, 82, 83, 84, 85, 86, 71, 74, 75, 1127, 78, 79, 80, 76, 77] g7) [68, 69, 70] g20) [68, 69, 70] g214) (by rw [← eS]; exact ok215) h
              have hb : sv_T sm_XS sm_cs sm_L sm_sh 3 (q_flow p1 S) 235 225 [(0, .ref 0), (1, sv_I p1), (2, sv_I l2_21), (3, sv_I r17), (4, sv_I l4_22)] [sv_I (0 : Int)] (sv_sts (sv_sts (sv_sts S [68, 69, 70, 81, 82, 83, 84, 85, 86, 71, 74, 75, 1127, 78, 79, 80, 76, 77] g7) [68, 69, 70] g20) [68, 69, 70] g214) := Eq.mpr (congrArg (fun Z => sv_T sm_XS sm_cs sm_L sm_sh 3 (q_flow p1 S) 235 225 [(0, .ref 0), (1, sv_I p1), (2, sv_I l2_21), (3, sv_I r17), (4, sv_I l4_22)] [sv_I (0 : Int)] Z) eS) hb
              exact sv_less (lv := [(0, .ref 0), (1, sv_I p1), (2, sv_I l2_21), (3, sv_I r17), (4, sv_I l4_22)]) (sv_Sub_cons rfl (sv_Sub_cons rfl (sv_Sub_cons rfl (sv_Sub_cons rfl (sv_Sub_cons rfl sv_Sub_nil))))) hb
            · have h := h.2 (hc)
              refine sv_iconst (d := (1 : Int)) hM dX12_flow_220 rfl rfl ?_
              refine sv_goto hM dX12_flow_221 (pc' := 225) rfl ?_
              have eS := sv_mod.eq md221
              have hb := J210 (1 : Int) (⟨by decide, by decide⟩ : sv_R (1 : Int)) (sv_sts (sv_sts (sv_sts S [68, 69, 70, 81, 82, 83, 84, 85, 86, 71, 74, 75, 1127, 78, 79, 80, 76, 77] g7) [68, 69, 70] g20) [68, 69, 70] g214) (by rw [← eS]; exact ok215) h
              have hb : sv_T sm_XS sm_cs sm_L sm_sh 3 (q_flow p1 S) 235 225 [(0, .ref 0), (1, sv_I p1), (2, sv_I l2_21), (3, sv_I r17), (4, sv_I l4_22)] [sv_I (1 : Int)] (sv_sts (sv_sts (sv_sts S [68, 69, 70, 81, 82, 83, 84, 85, 86, 71, 74, 75, 1127, 78, 79, 80, 76, 77] g7) [68, 69, 70] g20) [68, 69, 70] g214) := Eq.mpr (congrArg (fun Z => sv_T sm_XS sm_cs sm_L sm_sh 3 (q_flow p1 S) 235 225 [(0, .ref 0), (1, sv_I p1), (2, sv_I l2_21), (3, sv_I r17), (4, sv_I l4_22)] [sv_I (1 : Int)] Z) eS) hb
              exact sv_less (lv := [(0, .ref 0), (1, sv_I p1), (2, sv_I l2_21), (3, sv_I r17), (4, sv_I l4_22)]) (sv_Sub_cons rfl (sv_Sub_cons rfl (sv_Sub_cons rfl (sv_Sub_cons rfl (sv_Sub_cons rfl sv_Sub_nil))))) hb
      have eS := sv_mod.eq (sv_mod.rf (l := [68, 69, 70]) (S := (sv_sts S [68, 69, 70, 81, 82, 83, 84, 85, 86, 71, 74, 75, 1127, 78, 79, 80, 76, 77] g7)))
      have hb := hJ (s5, (0 : Int), (sv_sts S [68, 69, 70, 81, 82, 83, 84, 85, 86, 71, 74, 75, 1127, 78, 79, 80, 76, 77] g7)) ⟨hs5, (⟨by decide, by decide⟩ : sv_R (0 : Int)), (by rw [← eS]; exact ok14), hin24⟩
      have hb : sv_T sm_XS sm_cs sm_L sm_sh 3 (q_flow p1 S) 235 183 [(0, .ref 0), (1, sv_I p1), (2, sv_I s5), (3, sv_I r17), (4, sv_I (0 : Int))] [] (sv_sts S [68, 69, 70, 81, 82, 83, 84, 85, 86, 71, 74, 75, 1127, 78, 79, 80, 76, 77] g7) := Eq.mpr (congrArg (fun Z => sv_T sm_XS sm_cs sm_L sm_sh 3 (q_flow p1 S) 235 183 [(0, .ref 0), (1, sv_I p1), (2, sv_I s5), (3, sv_I r17), (4, sv_I (0 : Int))] [] Z) eS) hb
      exact hb
    have h := h.2
    refine sv_iload_n hM dX12_flow_15 rfl rfl ?_
    refine sv_cond_eq hM dX12_flow_16 hs5 (t := 174) rfl rfl (fun hc => ?_) (fun hc => ?_)
    · have h := h.1 (hc)
      have eS := sv_mod.eq (sv_mod.rf (l := [68, 69, 70, 81, 82, 83, 84, 85, 86, 71, 74, 75, 1127, 78, 79, 80, 76, 77]) (S := S))
      have hb := J222 S (by rw [← eS]; exact hok) h
      have hb : sv_T sm_XS sm_cs sm_L sm_sh 3 (q_flow p1 S) 235 174 [(0, .ref 0), (1, sv_I p1), (2, sv_I s5)] [] S := Eq.mpr (congrArg (fun Z => sv_T sm_XS sm_cs sm_L sm_sh 3 (q_flow p1 S) 235 174 [(0, .ref 0), (1, sv_I p1), (2, sv_I s5)] [] Z) eS) hb
      exact sv_less (lv := [(0, .ref 0), (1, sv_I p1), (2, sv_I s5)]) (sv_Sub_cons rfl (sv_Sub_cons rfl (sv_Sub_cons rfl sv_Sub_nil))) hb
    · have h := h.2 (hc)
      have k223 : ((S 71 p1) = 0 → 0 ≤ p1 → p1 < 640 → sm_cm (fun i' : Int => if i' = p1 then 1 else (S 71) i') = sm_cm (S 71) - 100000000) := fun h h0 h1 => sm_cm_up h0 h1 h
      have h := h k223
      have k224 : (sm_NH (S 1100007) → (S 71 p1) = 0 → 0 ≤ p1 → p1 < 640 → sm_hs (fun i' : Int => if i' = p1 then 1 else (S 71) i') (S 1100007) = sm_hs (S 71) (S 1100007) - (S 1100007 p1)) := fun _ h h0 h1 => sm_hs_up h0 h1 h rfl
      have h := h k224
      refine sv_aload_n hM dX12_flow_19 rfl rfl ?_
      refine sv_getA hM dX12_flow_20 sm_fl_226 (sm_a0 _) sm_k122 rfl ?_
      refine sv_iload_n hM dX12_flow_23 rfl rfl ?_
      refine sv_iconst (d := (1 : Int)) hM dX12_flow_24 rfl rfl ?_
      obtain ⟨o225, h⟩ := h
      refine sv_zast sm_X hM dX12_flow_25 (sm_a71 _) (by decide) o225.1 o225.2 (sv_nnZ (⟨by decide, by decide⟩ : 0 ≤ (1 : Int) ∧ (1 : Int) ≤ 1)) rfl ?_
      have ok226 : sm_ok (sv_up S 71 p1 (1 : Int)) := sm_upZ hok sm_r71 (⟨by decide, by decide⟩ : 0 ≤ (1 : Int) ∧ (1 : Int) ≤ 1)
      have md227 : sv_mod [68, 69, 70, 81, 82, 83, 84, 85, 86, 71, 74, 75, 1127, 78, 79, 80, 72, 76, 77] S (sv_up S 71 p1 (1 : Int)) := sv_mod.up sv_mod.rf (by decide)
      have md228 : sv_mod [68, 69, 70, 81, 82, 83, 84, 85, 86, 71, 74, 75, 1127, 78, 79, 80, 76, 77] S (sv_up S 71 p1 (1 : Int)) := sv_mod.up (sv_mod.rf (l := [68, 69, 70, 81, 82, 83, 84, 85, 86, 71, 74, 75, 1127, 78, 79, 80, 76, 77]) (S := S)) (by decide)
      refine sv_aload_n hM dX12_flow_26 rfl rfl ?_
      refine sv_iload_n hM dX12_flow_27 rfl rfl ?_
      obtain ⟨o229, h⟩ := h
      refine sv_callV hM dX12_flow_28 sm_iv_1104 (by decide) (sm_a0 _) rfl rfl (Nat.le_of_ble_eq_true rfl) sm_h234 (Nat.le_of_ble_eq_true rfl) (Nat.le_of_ble_eq_true rfl) (F' := 2) (Nat.le_of_ble_eq_true rfl) rfl (t_clearState p1 (sv_up S 71 p1 (1 : Int)) ok226 hp1 o229) (fun v S1 hq => ?_)
      obtain ⟨rfl, ok231, md232, hpo233⟩ := hq
      obtain ⟨g230, rfl⟩ : ∃ g, S1 = sv_sts (sv_up S 71 p1 (1 : Int)) [68, 69, 70, 81, 82, 83, 84, 85, 86, 76, 77] g := ⟨_, md232.eq⟩
      show sv_T sm_XS sm_cs sm_L sm_sh 3 (q_flow p1 S) 235 31 [(0, .ref 0), (1, sv_I p1), (2, sv_I s5)] [] (sv_sts (sv_up S 71 p1 (1 : Int)) [68, 69, 70, 81, 82, 83, 84, 85, 86, 76, 77] g230)
      have md234 : sv_mod [68, 69, 70, 81, 82, 83, 84, 85, 86, 71, 74, 75, 1127, 78, 79, 80, 72, 76, 77] S (sv_sts (sv_up S 71 p1 (1 : Int)) [68, 69, 70, 81, 82, 83, 84, 85, 86, 76, 77] g230) := sv_mod.sts md227 (by decide)
      have md235 : sv_mod [68, 69, 70, 81, 82, 83, 84, 85, 86, 71, 74, 75, 1127, 78, 79, 80, 76, 77] S (sv_sts (sv_up S 71 p1 (1 : Int)) [68, 69, 70, 81, 82, 83, 84, 85, 86, 76, 77] g230) := sv_mod.sts md228 (by decide)
      have h := h g230 hpo233
      have k236 : (0 ≤ sm_pl (g230 81) (g230 82) (g230 83) (g230 84) (g230 85) (g230 86) ∧ sm_pl (g230 81) (g230 82) (g230 83) (g230 84) (g230 85) (g230 86) ≤ 3870000) := sm_pl_r _ _ _ _ (fun x_ => sm_okZ ok231 sm_r81 x_) (fun x_ => sm_okZ ok231 sm_r82 x_)
      have h := h k236
      refine sv_aload_n hM dX12_flow_31 rfl rfl ?_
      refine sv_getA hM dX12_flow_32 sm_fl_235 (sm_a0 _) sm_k125 rfl ?_
      refine sv_iload_n hM dX12_flow_35 rfl rfl ?_
      refine sv_aload_n hM dX12_flow_36 rfl rfl ?_
      refine sv_getA hM dX12_flow_37 sm_fl_235 (sm_a0 _) sm_k125 rfl ?_
      refine sv_sipush (d := (639 : Int)) hM dX12_flow_40 rfl rfl ?_
      obtain ⟨o237, h⟩ := h
      have k238 : sv_R (S 74 (639 : Int)) := sm_okI ok231 sm_r74 (639 : Int)
      have h := h k238
      refine sv_iald hM dX12_flow_43 (sm_a74 _) (by decide) o237.1 o237.2 rfl (x := (S 74 (639 : Int))) rfl ?_
      refine sv_iast sm_X hM dX12_flow_44 (sm_a74 _) (by decide) o225.1 o225.2 rfl ?_
      have ok239 : sm_ok (sv_up (sv_sts (sv_up S 71 p1 (1 : Int)) [68, 69, 70, 81, 82, 83, 84, 85, 86, 76, 77] g230) 74 p1 (S 74 (639 : Int))) := sm_upI ok231 sm_r74 k238
      have md240 : sv_mod [68, 69, 70, 81, 82, 83, 84, 85, 86, 71, 74, 75, 1127, 78, 79, 80, 72, 76, 77] S (sv_up (sv_sts (sv_up S 71 p1 (1 : Int)) [68, 69, 70, 81, 82, 83, 84, 85, 86, 76, 77] g230) 74 p1 (S 74 (639 : Int))) := sv_mod.up md234 (by decide)
      have md241 : sv_mod [68, 69, 70, 81, 82, 83, 84, 85, 86, 71, 74, 75, 1127, 78, 79, 80, 76, 77] S (sv_up (sv_sts (sv_up S 71 p1 (1 : Int)) [68, 69, 70, 81, 82, 83, 84, 85, 86, 76, 77] g230) 74 p1 (S 74 (639 : Int))) := sv_mod.up md235 (by decide)
      refine sv_aload_n hM dX12_flow_45 rfl rfl ?_
      refine sv_getA hM dX12_flow_46 sm_fl_238 (sm_a0 _) sm_k126 rfl ?_
      refine sv_iload_n hM dX12_flow_49 rfl rfl ?_
      refine sv_aload_n hM dX12_flow_50 rfl rfl ?_
      have k242 : sv_R (S 1127 0) := sm_okI ok239 sm_r1127 0
      have h := h k242
      refine sv_getI hM dX12_flow_51 sm_fl_1107 (sm_a0 _) sm_k127 rfl (x := (S 1127 0)) rfl ?_
      refine sv_iast sm_X hM dX12_flow_54 (sm_a75 _) (by decide) o225.1 o225.2 rfl ?_
      have ok243 : sm_ok (sv_up (sv_up (sv_sts (sv_up S 71 p1 (1 : Int)) [68, 69, 70, 81, 82, 83, 84, 85, 86, 76, 77] g230) 74 p1 (S 74 (639 : Int))) 75 p1 (S 1127 0)) := sm_upI ok239 sm_r75 k242
      have md244 : sv_mod [68, 69, 70, 81, 82, 83, 84, 85, 86, 71, 74, 75, 1127, 78, 79, 80, 72, 76, 77] S (sv_up (sv_up (sv_sts (sv_up S 71 p1 (1 : Int)) [68, 69, 70, 81, 82, 83, 84, 85, 86, 76, 77] g230) 74 p1 (S 74 (639 : Int))) 75 p1 (S 1127 0)) := sv_mod.up md240 (by decide)
      have md245 : sv_mod [68, 69, 70, 81, 82, 83, 84, 85, 86, 71, 74, 75, 1127, 78, 79, 80, 76, 77] S (sv_up (sv_up (sv_sts (sv_up S 71 p1 (1 : Int)) [68, 69, 70, 81, 82, 83, 84, 85, 86, 76, 77] g230) 74 p1 (S 74 (639 : Int))) 75 p1 (S 1127 0)) := sv_mod.up md241 (by decide)
      refine sv_aload_n hM dX12_flow_55 rfl rfl ?_
      refine sv_dupA hM dX12_flow_56 rfl ?_
      refine sv_getI hM dX12_flow_57 sm_fl_1107 (sm_a0 _) sm_k127 rfl (x := (S 1127 0)) rfl ?_
      refine sv_aload_n hM dX12_flow_60 rfl rfl ?_
      refine sv_getA hM dX12_flow_61 sm_fl_235 (sm_a0 _) sm_k125 rfl ?_
      refine sv_iload_n hM dX12_flow_64 rfl rfl ?_
      obtain ⟨v246, ev246⟩ : ∃ x : Int, (if p1 = p1 then (S 74 (639 : Int)) else (S 74 p1)) = x := ⟨_, rfl⟩
      have h := h v246 ev246
      have k247 : sv_R v246 := ev246 ▸ (sm_okI ok243 sm_r74 p1)
      have h := h k247
      refine sv_iald hM dX12_flow_65 (sm_a74 _) (by decide) o225.1 o225.2 rfl (x := v246) ev246 ?_
      refine sv_iadd hM dX12_flow_66 rfl ?_
      obtain ⟨o248, h⟩ := h
      refine sv_putI sm_X hM dX12_flow_67 sm_fp_1107 (sm_a0 _) sm_q127 (Or.inl rfl) rfl rfl rfl rfl ?_
      have ok249 : sm_ok (sv_up (sv_up (sv_up (sv_sts (sv_up S 71 p1 (1 : Int)) [68, 69, 70, 81, 82, 83, 84, 85, 86, 76, 77] g230) 74 p1 (S 74 (639 : Int))) 75 p1 (S 1127 0)) 1127 0 ((S 1127 0) + v246)) := sm_upI ok243 sm_r1127 o248
      have md250 : sv_mod [68, 69, 70, 81, 82, 83, 84, 85, 86, 71, 74, 75, 1127, 78, 79, 80, 72, 76, 77] S (sv_up (sv_up (sv_up (sv_sts (sv_up S 71 p1 (1 : Int)) [68, 69, 70, 81, 82, 83, 84, 85, 86, 76, 77] g230) 74 p1 (S 74 (639 : Int))) 75 p1 (S 1127 0)) 1127 0 ((S 1127 0) + v246)) := sv_mod.up md244 (by decide)
      have md251 : sv_mod [68, 69, 70, 81, 82, 83, 84, 85, 86, 71, 74, 75, 1127, 78, 79, 80, 76, 77] S (sv_up (sv_up (sv_up (sv_sts (sv_up S 71 p1 (1 : Int)) [68, 69, 70, 81, 82, 83, 84, 85, 86, 76, 77] g230) 74 p1 (S 74 (639 : Int))) 75 p1 (S 1127 0)) 1127 0 ((S 1127 0) + v246)) := sv_mod.up md245 (by decide)
      refine sv_iconst (d := (0 : Int)) hM dX12_flow_70 rfl rfl ?_
      refine sv_istore_n hM dX12_flow_71 (by decide) rfl ?_
      show sv_T sm_XS sm_cs sm_L sm_sh 3 (q_flow p1 S) 235 72 [(0, .ref 0), (1, sv_I p1), (2, sv_I s5), (3, sv_I (0 : Int))] [] (sv_up (sv_up (sv_up (sv_sts (sv_up S 71 p1 (1 : Int)) [68, 69, 70, 81, 82, 83, 84, 85, 86, 76, 77] g230) 74 p1 (S 74 (639 : Int))) 75 p1 (S 1127 0)) 1127 0 ((S 1127 0) + v246))
      obtain ⟨hin255, h⟩ := h
      have hJ : ∀ a : Int × sv_S, (sv_R a.1 ∧ sm_ok (sv_sts (sv_up (sv_up (sv_up (sv_sts (sv_up S 71 p1 (1 : Int)) [68, 69, 70, 81, 82, 83, 84, 85, 86, 76, 77] g230) 74 p1 (S 74 (639 : Int))) 75 p1 (S 1127 0)) 1127 0 ((S 1127 0) + v246)) [68, 69, 70] a.2) ∧ (0 ≤ a.1)) → sv_T sm_XS sm_cs sm_L sm_sh 3 (q_flow p1 S) 235 72 [(0, .ref 0), (1, sv_I p1), (2, sv_I s5), (3, sv_I a.1)] [] (sv_sts (sv_up (sv_up (sv_up (sv_sts (sv_up S 71 p1 (1 : Int)) [68, 69, 70, 81, 82, 83, 84, 85, 86, 76, 77] g230) 74 p1 (S 74 (639 : Int))) 75 p1 (S 1127 0)) 1127 0 ((S 1127 0) + v246)) [68, 69, 70] a.2) := by
        refine sv_loop (α := Int × sv_S) (fun a => sv_R a.1 ∧ sm_ok (sv_sts (sv_up (sv_up (sv_up (sv_sts (sv_up S 71 p1 (1 : Int)) [68, 69, 70, 81, 82, 83, 84, 85, 86, 76, 77] g230) 74 p1 (S 74 (639 : Int))) 75 p1 (S 1127 0)) 1127 0 ((S 1127 0) + v246)) [68, 69, 70] a.2) ∧ (0 ≤ a.1)) (fun a => (if a.1 < (if p1 = p1 then (S 74 (639 : Int)) else (S 74 p1)) then (if p1 = p1 then (S 74 (639 : Int)) else (S 74 p1)) - a.1 else 0)) (fun a => sv_T sm_XS sm_cs sm_L sm_sh 3 (q_flow p1 S) 235 72 [(0, .ref 0), (1, sv_I p1), (2, sv_I s5), (3, sv_I a.1)] [] (sv_sts (sv_up (sv_up (sv_up (sv_sts (sv_up S 71 p1 (1 : Int)) [68, 69, 70, 81, 82, 83, 84, 85, 86, 76, 77] g230) 74 p1 (S 74 (639 : Int))) 75 p1 (S 1127 0)) 1127 0 ((S 1127 0) + v246)) [68, 69, 70] a.2)) (fun a q => (h a.1 q.1 a.2 q.2.2).1) (fun a q ih254 => ?_)
        obtain ⟨l3_253, g252⟩ := a
        obtain ⟨hl3_253, ok256, hin255i⟩ := q
        have h := (h l3_253 hl3_253 g252 hin255i).2
        show sv_T sm_XS sm_cs sm_L sm_sh 3 (q_flow p1 S) 235 72 [(0, .ref 0), (1, sv_I p1), (2, sv_I s5), (3, sv_I l3_253)] [] (sv_sts (sv_up (sv_up (sv_up (sv_sts (sv_up S 71 p1 (1 : Int)) [68, 69, 70, 81, 82, 83, 84, 85, 86, 76, 77] g230) 74 p1 (S 74 (639 : Int))) 75 p1 (S 1127 0)) 1127 0 ((S 1127 0) + v246)) [68, 69, 70] g252)
        have md257 : sv_mod [68, 69, 70, 81, 82, 83, 84, 85, 86, 71, 74, 75, 1127, 78, 79, 80, 72, 76, 77] S (sv_sts (sv_up (sv_up (sv_up (sv_sts (sv_up S 71 p1 (1 : Int)) [68, 69, 70, 81, 82, 83, 84, 85, 86, 76, 77] g230) 74 p1 (S 74 (639 : Int))) 75 p1 (S 1127 0)) 1127 0 ((S 1127 0) + v246)) [68, 69, 70] g252) := sv_mod.sts md250 (by decide)
        have md258 : sv_mod [68, 69, 70, 81, 82, 83, 84, 85, 86, 71, 74, 75, 1127, 78, 79, 80, 76, 77] S (sv_sts (sv_up (sv_up (sv_up (sv_sts (sv_up S 71 p1 (1 : Int)) [68, 69, 70, 81, 82, 83, 84, 85, 86, 76, 77] g230) 74 p1 (S 74 (639 : Int))) 75 p1 (S 1127 0)) 1127 0 ((S 1127 0) + v246)) [68, 69, 70] g252) := sv_mod.sts md251 (by decide)
        have md259 : sv_mod [68, 69, 70] (sv_up (sv_up (sv_up (sv_sts (sv_up S 71 p1 (1 : Int)) [68, 69, 70, 81, 82, 83, 84, 85, 86, 76, 77] g230) 74 p1 (S 74 (639 : Int))) 75 p1 (S 1127 0)) 1127 0 ((S 1127 0) + v246)) (sv_sts (sv_up (sv_up (sv_up (sv_sts (sv_up S 71 p1 (1 : Int)) [68, 69, 70, 81, 82, 83, 84, 85, 86, 76, 77] g230) 74 p1 (S 74 (639 : Int))) 75 p1 (S 1127 0)) 1127 0 ((S 1127 0) + v246)) [68, 69, 70] g252) := sv_mod.sts sv_mod.rf (by decide)
        refine sv_iload_n hM dX12_flow_72 rfl rfl ?_
        refine sv_aload_n hM dX12_flow_73 rfl rfl ?_
        refine sv_getA hM dX12_flow_74 sm_fl_235 (sm_a0 _) sm_k125 rfl ?_
        refine sv_iload_n hM dX12_flow_77 rfl rfl ?_
        obtain ⟨v260, ev260⟩ : ∃ x : Int, (if p1 = p1 then (S 74 (639 : Int)) else (S 74 p1)) = x := ⟨_, rfl⟩
        have h := h v260 ev260
        have k261 : sv_R v260 := ev260 ▸ (sm_okI ok256 sm_r74 p1)
        have h := h k261
        refine sv_iald hM dX12_flow_78 (sm_a74 _) (by decide) o225.1 o225.2 rfl (x := v260) ev260 ?_
        refine sv_icmp_ge hM dX12_flow_79 hl3_253 k261 (t := 100) rfl rfl (fun hc => ?_) (fun hc => ?_)
        · have h := h.1 (hc)
          refine sv_aload_n hM dX12_flow_100 rfl rfl ?_
          refine sv_getA hM dX12_flow_101 sm_fl_247 (sm_a0 _) sm_k130 rfl ?_
          refine sv_iload_n hM dX12_flow_104 rfl rfl ?_
          refine sv_aload_n hM dX12_flow_105 rfl rfl ?_
          refine sv_getA hM dX12_flow_106 sm_fl_247 (sm_a0 _) sm_k130 rfl ?_
          refine sv_sipush (d := (639 : Int)) hM dX12_flow_109 rfl rfl ?_
          have k262 : sv_R (S 78 (639 : Int)) := sm_okI ok256 sm_r78 (639 : Int)
          have h := h k262
          refine sv_iald hM dX12_flow_112 (sm_a78 _) (by decide) o237.1 o237.2 rfl (x := (S 78 (639 : Int))) rfl ?_
          refine sv_iast sm_X hM dX12_flow_113 (sm_a78 _) (by decide) o225.1 o225.2 rfl ?_
          have ok263 : sm_ok (sv_up (sv_sts (sv_up (sv_up (sv_up (sv_sts (sv_up S 71 p1 (1 : Int)) [68, 69, 70, 81, 82, 83, 84, 85, 86, 76, 77] g230) 74 p1 (S 74 (639 : Int))) 75 p1 (S 1127 0)) 1127 0 ((S 1127 0) + v246)) [68, 69, 70] g252) 78 p1 (S 78 (639 : Int))) := sm_upI ok256 sm_r78 k262
          have md264 : sv_mod [68, 69, 70, 81, 82, 83, 84, 85, 86, 71, 74, 75, 1127, 78, 79, 80, 72, 76, 77] S (sv_up (sv_sts (sv_up (sv_up (sv_up (sv_sts (sv_up S 71 p1 (1 : Int)) [68, 69, 70, 81, 82, 83, 84, 85, 86, 76, 77] g230) 74 p1 (S 74 (639 : Int))) 75 p1 (S 1127 0)) 1127 0 ((S 1127 0) + v246)) [68, 69, 70] g252) 78 p1 (S 78 (639 : Int))) := sv_mod.up md257 (by decide)
          have md265 : sv_mod [68, 69, 70, 81, 82, 83, 84, 85, 86, 71, 74, 75, 1127, 78, 79, 80, 76, 77] S (sv_up (sv_sts (sv_up (sv_up (sv_up (sv_sts (sv_up S 71 p1 (1 : Int)) [68, 69, 70, 81, 82, 83, 84, 85, 86, 76, 77] g230) 74 p1 (S 74 (639 : Int))) 75 p1 (S 1127 0)) 1127 0 ((S 1127 0) + v246)) [68, 69, 70] g252) 78 p1 (S 78 (639 : Int))) := sv_mod.up md258 (by decide)
          have k266 : (sm_CQ (S 79) (S 80) (S 79) (S 80) (40 * p1) 25560 0) := sm_CQ_0 rfl
          have h := h k266
          refine sv_iconst (d := (0 : Int)) hM dX12_flow_114 rfl rfl ?_
          refine sv_istore_n hM dX12_flow_115 (by decide) rfl ?_
          show sv_T sm_XS sm_cs sm_L sm_sh 3 (q_flow p1 S) 235 116 [(0, .ref 0), (1, sv_I p1), (2, sv_I s5), (3, sv_I (0 : Int))] [] (sv_up (sv_sts (sv_up (sv_up (sv_up (sv_sts (sv_up S 71 p1 (1 : Int)) [68, 69, 70, 81, 82, 83, 84, 85, 86, 76, 77] g230) 74 p1 (S 74 (639 : Int))) 75 p1 (S 1127 0)) 1127 0 ((S 1127 0) + v246)) [68, 69, 70] g252) 78 p1 (S 78 (639 : Int)))
          obtain ⟨hin270, h⟩ := h
          have hJ : ∀ a : Int × sv_S, (sv_R a.1 ∧ sm_ok (sv_sts (sv_up (sv_sts (sv_up (sv_up (sv_up (sv_sts (sv_up S 71 p1 (1 : Int)) [68, 69, 70, 81, 82, 83, 84, 85, 86, 76, 77] g230) 74 p1 (S 74 (639 : Int))) 75 p1 (S 1127 0)) 1127 0 ((S 1127 0) + v246)) [68, 69, 70] g252) 78 p1 (S 78 (639 : Int))) [79, 80] a.2) ∧ (0 ≤ a.1 ∧ a.1 ≤ (if p1 = p1 then (S 78 (639 : Int)) else (S 78 p1)) ∧ sm_CQ (a.2 79) (a.2 80) (S 79) (S 80) (40 * p1) 25560 a.1)) → sv_T sm_XS sm_cs sm_L sm_sh 3 (q_flow p1 S) 235 116 [(0, .ref 0), (1, sv_I p1), (2, sv_I s5), (3, sv_I a.1)] [] (sv_sts (sv_up (sv_sts (sv_up (sv_up (sv_up (sv_sts (sv_up S 71 p1 (1 : Int)) [68, 69, 70, 81, 82, 83, 84, 85, 86, 76, 77] g230) 74 p1 (S 74 (639 : Int))) 75 p1 (S 1127 0)) 1127 0 ((S 1127 0) + v246)) [68, 69, 70] g252) 78 p1 (S 78 (639 : Int))) [79, 80] a.2) := by
            refine sv_loop (α := Int × sv_S) (fun a => sv_R a.1 ∧ sm_ok (sv_sts (sv_up (sv_sts (sv_up (sv_up (sv_up (sv_sts (sv_up S 71 p1 (1 : Int)) [68, 69, 70, 81, 82, 83, 84, 85, 86, 76, 77] g230) 74 p1 (S 74 (639 : Int))) 75 p1 (S 1127 0)) 1127 0 ((S 1127 0) + v246)) [68, 69, 70] g252) 78 p1 (S 78 (639 : Int))) [79, 80] a.2) ∧ (0 ≤ a.1 ∧ a.1 ≤ (if p1 = p1 then (S 78 (639 : Int)) else (S 78 p1)) ∧ sm_CQ (a.2 79) (a.2 80) (S 79) (S 80) (40 * p1) 25560 a.1)) (fun a => (if p1 = p1 then (S 78 (639 : Int)) else (S 78 p1)) - a.1) (fun a => sv_T sm_XS sm_cs sm_L sm_sh 3 (q_flow p1 S) 235 116 [(0, .ref 0), (1, sv_I p1), (2, sv_I s5), (3, sv_I a.1)] [] (sv_sts (sv_up (sv_sts (sv_up (sv_up (sv_up (sv_sts (sv_up S 71 p1 (1 : Int)) [68, 69, 70, 81, 82, 83, 84, 85, 86, 76, 77] g230) 74 p1 (S 74 (639 : Int))) 75 p1 (S 1127 0)) 1127 0 ((S 1127 0) + v246)) [68, 69, 70] g252) 78 p1 (S 78 (639 : Int))) [79, 80] a.2)) (fun a q => (h a.1 q.1 a.2 q.2.2).1) (fun a q ih269 => ?_)
            obtain ⟨l3_268, g267⟩ := a
            obtain ⟨hl3_268, ok271, hin270i⟩ := q
            have h := (h l3_268 hl3_268 g267 hin270i).2
            show sv_T sm_XS sm_cs sm_L sm_sh 3 (q_flow p1 S) 235 116 [(0, .ref 0), (1, sv_I p1), (2, sv_I s5), (3, sv_I l3_268)] [] (sv_sts (sv_up (sv_sts (sv_up (sv_up (sv_up (sv_sts (sv_up S 71 p1 (1 : Int)) [68, 69, 70, 81, 82, 83, 84, 85, 86, 76, 77] g230) 74 p1 (S 74 (639 : Int))) 75 p1 (S 1127 0)) 1127 0 ((S 1127 0) + v246)) [68, 69, 70] g252) 78 p1 (S 78 (639 : Int))) [79, 80] g267)
            have md272 : sv_mod [68, 69, 70, 81, 82, 83, 84, 85, 86, 71, 74, 75, 1127, 78, 79, 80, 72, 76, 77] S (sv_sts (sv_up (sv_sts (sv_up (sv_up (sv_up (sv_sts (sv_up S 71 p1 (1 : Int)) [68, 69, 70, 81, 82, 83, 84, 85, 86, 76, 77] g230) 74 p1 (S 74 (639 : Int))) 75 p1 (S 1127 0)) 1127 0 ((S 1127 0) + v246)) [68, 69, 70] g252) 78 p1 (S 78 (639 : Int))) [79, 80] g267) := sv_mod.sts md264 (by decide)
            have md273 : sv_mod [68, 69, 70, 81, 82, 83, 84, 85, 86, 71, 74, 75, 1127, 78, 79, 80, 76, 77] S (sv_sts (sv_up (sv_sts (sv_up (sv_up (sv_up (sv_sts (sv_up S 71 p1 (1 : Int)) [68, 69, 70, 81, 82, 83, 84, 85, 86, 76, 77] g230) 74 p1 (S 74 (639 : Int))) 75 p1 (S 1127 0)) 1127 0 ((S 1127 0) + v246)) [68, 69, 70] g252) 78 p1 (S 78 (639 : Int))) [79, 80] g267) := sv_mod.sts md265 (by decide)
            have md274 : sv_mod [79, 80] (sv_up (sv_sts (sv_up (sv_up (sv_up (sv_sts (sv_up S 71 p1 (1 : Int)) [68, 69, 70, 81, 82, 83, 84, 85, 86, 76, 77] g230) 74 p1 (S 74 (639 : Int))) 75 p1 (S 1127 0)) 1127 0 ((S 1127 0) + v246)) [68, 69, 70] g252) 78 p1 (S 78 (639 : Int))) (sv_sts (sv_up (sv_sts (sv_up (sv_up (sv_up (sv_sts (sv_up S 71 p1 (1 : Int)) [68, 69, 70, 81, 82, 83, 84, 85, 86, 76, 77] g230) 74 p1 (S 74 (639 : Int))) 75 p1 (S 1127 0)) 1127 0 ((S 1127 0) + v246)) [68, 69, 70] g252) 78 p1 (S 78 (639 : Int))) [79, 80] g267) := sv_mod.sts sv_mod.rf (by decide)
            refine sv_iload_n hM dX12_flow_116 rfl rfl ?_
            refine sv_aload_n hM dX12_flow_117 rfl rfl ?_
            refine sv_getA hM dX12_flow_118 sm_fl_247 (sm_a0 _) sm_k130 rfl ?_
            refine sv_iload_n hM dX12_flow_121 rfl rfl ?_
            obtain ⟨v275, ev275⟩ : ∃ x : Int, (if p1 = p1 then (S 78 (639 : Int)) else (S 78 p1)) = x := ⟨_, rfl⟩
            have h := h v275 ev275
            have k276 : sv_R v275 := ev275 ▸ (sm_okI ok271 sm_r78 p1)
            have h := h k276
            refine sv_iald hM dX12_flow_122 (sm_a78 _) (by decide) o225.1 o225.2 rfl (x := v275) ev275 ?_
            refine sv_icmp_ge hM dX12_flow_123 hl3_268 k276 (t := 174) rfl rfl (fun hc => ?_) (fun hc => ?_)
            · have h := h.1 (hc)
              have eS := sv_mod.eq md273
              have hb := J222 (sv_sts (sv_up (sv_sts (sv_up (sv_up (sv_up (sv_sts (sv_up S 71 p1 (1 : Int)) [68, 69, 70, 81, 82, 83, 84, 85, 86, 76, 77] g230) 74 p1 (S 74 (639 : Int))) 75 p1 (S 1127 0)) 1127 0 ((S 1127 0) + v246)) [68, 69, 70] g252) 78 p1 (S 78 (639 : Int))) [79, 80] g267) (by rw [← eS]; exact ok271) h
              have hb : sv_T sm_XS sm_cs sm_L sm_sh 3 (q_flow p1 S) 235 174 [(0, .ref 0), (1, sv_I p1), (2, sv_I s5)] [] (sv_sts (sv_up (sv_sts (sv_up (sv_up (sv_up (sv_sts (sv_up S 71 p1 (1 : Int)) [68, 69, 70, 81, 82, 83, 84, 85, 86, 76, 77] g230) 74 p1 (S 74 (639 : Int))) 75 p1 (S 1127 0)) 1127 0 ((S 1127 0) + v246)) [68, 69, 70] g252) 78 p1 (S 78 (639 : Int))) [79, 80] g267) := Eq.mpr (congrArg (fun Z => sv_T sm_XS sm_cs sm_L sm_sh 3 (q_flow p1 S) 235 174 [(0, .ref 0), (1, sv_I p1), (2, sv_I s5)] [] Z) eS) hb
              exact sv_less (lv := [(0, .ref 0), (1, sv_I p1), (2, sv_I s5)]) (sv_Sub_cons rfl (sv_Sub_cons rfl (sv_Sub_cons rfl sv_Sub_nil))) hb
            · have h := h.2 (hc)
              refine sv_aload_n hM dX12_flow_126 rfl rfl ?_
              refine sv_getA hM dX12_flow_127 sm_fl_250 (sm_a0 _) sm_k131 rfl ?_
              refine sv_bipush (d := (40 : Int)) hM dX12_flow_130 rfl rfl ?_
              refine sv_iload_n hM dX12_flow_132 rfl rfl ?_
              refine sv_imul hM dX12_flow_133 rfl ?_
              refine sv_iload_n hM dX12_flow_134 rfl rfl ?_
              refine sv_iadd hM dX12_flow_135 rfl ?_
              refine sv_aload_n hM dX12_flow_136 rfl rfl ?_
              refine sv_getA hM dX12_flow_137 sm_fl_250 (sm_a0 _) sm_k131 rfl ?_
              refine sv_sipush (d := (25560 : Int)) hM dX12_flow_140 rfl rfl ?_
              refine sv_iload_n hM dX12_flow_143 rfl rfl ?_
              refine sv_iadd hM dX12_flow_144 rfl ?_
              obtain ⟨o277, h⟩ := h
              have k278 : sv_R (g267 79 ((25560 : Int) + l3_268)) := sm_okI ok271 sm_r79 ((25560 : Int) + l3_268)
              have h := h k278
              refine sv_iald hM dX12_flow_145 (sm_a79 _) (by decide) o277.1 o277.2 rfl (x := (g267 79 ((25560 : Int) + l3_268))) rfl ?_
              obtain ⟨o279, h⟩ := h
              refine sv_iast sm_X hM dX12_flow_146 (sm_a79 _) (by decide) o279.1 o279.2 rfl ?_
              have ok280 : sm_ok (sv_up (sv_sts (sv_up (sv_sts (sv_up (sv_up (sv_up (sv_sts (sv_up S 71 p1 (1 : Int)) [68, 69, 70, 81, 82, 83, 84, 85, 86, 76, 77] g230) 74 p1 (S 74 (639 : Int))) 75 p1 (S 1127 0)) 1127 0 ((S 1127 0) + v246)) [68, 69, 70] g252) 78 p1 (S 78 (639 : Int))) [79, 80] g267) 79 (((40 : Int) * p1) + l3_268) (g267 79 ((25560 : Int) + l3_268))) := sm_upI ok271 sm_r79 k278
              have md281 : sv_mod [68, 69, 70, 81, 82, 83, 84, 85, 86, 71, 74, 75, 1127, 78, 79, 80, 72, 76, 77] S (sv_up (sv_sts (sv_up (sv_sts (sv_up (sv_up (sv_up (sv_sts (sv_up S 71 p1 (1 : Int)) [68, 69, 70, 81, 82, 83, 84, 85, 86, 76, 77] g230) 74 p1 (S 74 (639 : Int))) 75 p1 (S 1127 0)) 1127 0 ((S 1127 0) + v246)) [68, 69, 70] g252) 78 p1 (S 78 (639 : Int))) [79, 80] g267) 79 (((40 : Int) * p1) + l3_268) (g267 79 ((25560 : Int) + l3_268))) := sv_mod.up md272 (by decide)
              have md282 : sv_mod [68, 69, 70, 81, 82, 83, 84, 85, 86, 71, 74, 75, 1127, 78, 79, 80, 76, 77] S (sv_up (sv_sts (sv_up (sv_sts (sv_up (sv_up (sv_up (sv_sts (sv_up S 71 p1 (1 : Int)) [68, 69, 70, 81, 82, 83, 84, 85, 86, 76, 77] g230) 74 p1 (S 74 (639 : Int))) 75 p1 (S 1127 0)) 1127 0 ((S 1127 0) + v246)) [68, 69, 70] g252) 78 p1 (S 78 (639 : Int))) [79, 80] g267) 79 (((40 : Int) * p1) + l3_268) (g267 79 ((25560 : Int) + l3_268))) := sv_mod.up md273 (by decide)
              have md283 : sv_mod [79, 80] (sv_up (sv_sts (sv_up (sv_up (sv_up (sv_sts (sv_up S 71 p1 (1 : Int)) [68, 69, 70, 81, 82, 83, 84, 85, 86, 76, 77] g230) 74 p1 (S 74 (639 : Int))) 75 p1 (S 1127 0)) 1127 0 ((S 1127 0) + v246)) [68, 69, 70] g252) 78 p1 (S 78 (639 : Int))) (sv_up (sv_sts (sv_up (sv_sts (sv_up (sv_up (sv_up (sv_sts (sv_up S 71 p1 (1 : Int)) [68, 69, 70, 81, 82, 83, 84, 85, 86, 76, 77] g230) 74 p1 (S 74 (639 : Int))) 75 p1 (S 1127 0)) 1127 0 ((S 1127 0) + v246)) [68, 69, 70] g252) 78 p1 (S 78 (639 : Int))) [79, 80] g267) 79 (((40 : Int) * p1) + l3_268) (g267 79 ((25560 : Int) + l3_268))) := sv_mod.up md274 (by decide)
              refine sv_aload_n hM dX12_flow_147 rfl rfl ?_
              refine sv_getA hM dX12_flow_148 sm_fl_253 (sm_a0 _) sm_k132 rfl ?_
              refine sv_bipush (d := (40 : Int)) hM dX12_flow_151 rfl rfl ?_
              refine sv_iload_n hM dX12_flow_153 rfl rfl ?_
              refine sv_imul hM dX12_flow_154 rfl ?_
              refine sv_iload_n hM dX12_flow_155 rfl rfl ?_
              refine sv_iadd hM dX12_flow_156 rfl ?_
              refine sv_aload_n hM dX12_flow_157 rfl rfl ?_
              refine sv_getA hM dX12_flow_158 sm_fl_253 (sm_a0 _) sm_k132 rfl ?_
              refine sv_sipush (d := (25560 : Int)) hM dX12_flow_161 rfl rfl ?_
              refine sv_iload_n hM dX12_flow_164 rfl rfl ?_
              refine sv_iadd hM dX12_flow_165 rfl ?_
              have k284 : sv_R (g267 80 ((25560 : Int) + l3_268)) := sm_okI ok280 sm_r80 ((25560 : Int) + l3_268)
              have h := h k284
              refine sv_iald hM dX12_flow_166 (sm_a80 _) (by decide) o277.1 o277.2 rfl (x := (g267 80 ((25560 : Int) + l3_268))) rfl ?_
              refine sv_iast sm_X hM dX12_flow_167 (sm_a80 _) (by decide) o279.1 o279.2 rfl ?_
              have ok285 : sm_ok (sv_up (sv_up (sv_sts (sv_up (sv_sts (sv_up (sv_up (sv_up (sv_sts (sv_up S 71 p1 (1 : Int)) [68, 69, 70, 81, 82, 83, 84, 85, 86, 76, 77] g230) 74 p1 (S 74 (639 : Int))) 75 p1 (S 1127 0)) 1127 0 ((S 1127 0) + v246)) [68, 69, 70] g252) 78 p1 (S 78 (639 : Int))) [79, 80] g267) 79 (((40 : Int) * p1) + l3_268) (g267 79 ((25560 : Int) + l3_268))) 80 (((40 : Int) * p1) + l3_268) (g267 80 ((25560 : Int) + l3_268))) := sm_upI ok280 sm_r80 k284
              have md286 : sv_mod [68, 69, 70, 81, 82, 83, 84, 85, 86, 71, 74, 75, 1127, 78, 79, 80, 72, 76, 77] S (sv_up (sv_up (sv_sts (sv_up (sv_sts (sv_up (sv_up (sv_up (sv_sts (sv_up S 71 p1 (1 : Int)) [68, 69, 70, 81, 82, 83, 84, 85, 86, 76, 77] g230) 74 p1 (S 74 (639 : Int))) 75 p1 (S 1127 0)) 1127 0 ((S 1127 0) + v246)) [68, 69, 70] g252) 78 p1 (S 78 (639 : Int))) [79, 80] g267) 79 (((40 : Int) * p1) + l3_268) (g267 79 ((25560 : Int) + l3_268))) 80 (((40 : Int) * p1) + l3_268) (g267 80 ((25560 : Int) + l3_268))) := sv_mod.up md281 (by decide)
              have md287 : sv_mod [68, 69, 70, 81, 82, 83, 84, 85, 86, 71, 74, 75, 1127, 78, 79, 80, 76, 77] S (sv_up (sv_up (sv_sts (sv_up (sv_sts (sv_up (sv_up (sv_up (sv_sts (sv_up S 71 p1 (1 : Int)) [68, 69, 70, 81, 82, 83, 84, 85, 86, 76, 77] g230) 74 p1 (S 74 (639 : Int))) 75 p1 (S 1127 0)) 1127 0 ((S 1127 0) + v246)) [68, 69, 70] g252) 78 p1 (S 78 (639 : Int))) [79, 80] g267) 79 (((40 : Int) * p1) + l3_268) (g267 79 ((25560 : Int) + l3_268))) 80 (((40 : Int) * p1) + l3_268) (g267 80 ((25560 : Int) + l3_268))) := sv_mod.up md282 (by decide)
              have md288 : sv_mod [79, 80] (sv_up (sv_sts (sv_up (sv_up (sv_up (sv_sts (sv_up S 71 p1 (1 : Int)) [68, 69, 70, 81, 82, 83, 84, 85, 86, 76, 77] g230) 74 p1 (S 74 (639 : Int))) 75 p1 (S 1127 0)) 1127 0 ((S 1127 0) + v246)) [68, 69, 70] g252) 78 p1 (S 78 (639 : Int))) (sv_up (sv_up (sv_sts (sv_up (sv_sts (sv_up (sv_up (sv_up (sv_sts (sv_up S 71 p1 (1 : Int)) [68, 69, 70, 81, 82, 83, 84, 85, 86, 76, 77] g230) 74 p1 (S 74 (639 : Int))) 75 p1 (S 1127 0)) 1127 0 ((S 1127 0) + v246)) [68, 69, 70] g252) 78 p1 (S 78 (639 : Int))) [79, 80] g267) 79 (((40 : Int) * p1) + l3_268) (g267 79 ((25560 : Int) + l3_268))) 80 (((40 : Int) * p1) + l3_268) (g267 80 ((25560 : Int) + l3_268))) := sv_mod.up md283 (by decide)
              refine sv_iinc (d := (1 : Int)) hM dX12_flow_168 rfl (by decide) rfl rfl ?_
              show sv_T sm_XS sm_cs sm_L sm_sh 3 (q_flow p1 S) 235 171 [(0, .ref 0), (1, sv_I p1), (2, sv_I s5), (3, sv_I (l3_268 + (1 : Int)))] [] (sv_up (sv_up (sv_sts (sv_up (sv_sts (sv_up (sv_up (sv_up (sv_sts (sv_up S 71 p1 (1 : Int)) [68, 69, 70, 81, 82, 83, 84, 85, 86, 76, 77] g230) 74 p1 (S 74 (639 : Int))) 75 p1 (S 1127 0)) 1127 0 ((S 1127 0) + v246)) [68, 69, 70] g252) 78 p1 (S 78 (639 : Int))) [79, 80] g267) 79 (((40 : Int) * p1) + l3_268) (g267 79 ((25560 : Int) + l3_268))) 80 (((40 : Int) * p1) + l3_268) (g267 80 ((25560 : Int) + l3_268)))
              refine sv_goto hM dX12_flow_171 (pc' := 116) rfl ?_
              obtain ⟨o289, h⟩ := h
              have eS := sv_mod.eq md288
              have hb := ih269 ((l3_268 + (1 : Int)), (sv_up (sv_up (sv_sts (sv_up (sv_sts (sv_up (sv_up (sv_up (sv_sts (sv_up S 71 p1 (1 : Int)) [68, 69, 70, 81, 82, 83, 84, 85, 86, 76, 77] g230) 74 p1 (S 74 (639 : Int))) 75 p1 (S 1127 0)) 1127 0 ((S 1127 0) + v246)) [68, 69, 70] g252) 78 p1 (S 78 (639 : Int))) [79, 80] g267) 79 (((40 : Int) * p1) + l3_268) (g267 79 ((25560 : Int) + l3_268))) 80 (((40 : Int) * p1) + l3_268) (g267 80 ((25560 : Int) + l3_268)))) ⟨o289, (by rw [← eS]; exact ok285), h.1⟩ h.2
              have hb : sv_T sm_XS sm_cs sm_L sm_sh 3 (q_flow p1 S) 235 116 [(0, .ref 0), (1, sv_I p1), (2, sv_I s5), (3, sv_I (l3_268 + (1 : Int)))] [] (sv_up (sv_up (sv_sts (sv_up (sv_sts (sv_up (sv_up (sv_up (sv_sts (sv_up S 71 p1 (1 : Int)) [68, 69, 70, 81, 82, 83, 84, 85, 86, 76, 77] g230) 74 p1 (S 74 (639 : Int))) 75 p1 (S 1127 0)) 1127 0 ((S 1127 0) + v246)) [68, 69, 70] g252) 78 p1 (S 78 (639 : Int))) [79, 80] g267) 79 (((40 : Int) * p1) + l3_268) (g267 79 ((25560 : Int) + l3_268))) 80 (((40 : Int) * p1) + l3_268) (g267 80 ((25560 : Int) + l3_268))) := Eq.mpr (congrArg (fun Z => sv_T sm_XS sm_cs sm_L sm_sh 3 (q_flow p1 S) 235 116 [(0, .ref 0), (1, sv_I p1), (2, sv_I s5), (3, sv_I (l3_268 + (1 : Int)))] [] Z) eS) hb
              exact sv_less (lv := [(0, .ref 0), (1, sv_I p1), (2, sv_I s5), (3, sv_I (l3_268 + (1 : Int)))]) (sv_Sub_cons rfl (sv_Sub_cons rfl (sv_Sub_cons rfl (sv_Sub_cons rfl sv_Sub_nil)))) hb
          have eS := sv_mod.eq (sv_mod.rf (l := [79, 80]) (S := (sv_up (sv_sts (sv_up (sv_up (sv_up (sv_sts (sv_up S 71 p1 (1 : Int)) [68, 69, 70, 81, 82, 83, 84, 85, 86, 76, 77] g230) 74 p1 (S 74 (639 : Int))) 75 p1 (S 1127 0)) 1127 0 ((S 1127 0) + v246)) [68, 69, 70] g252) 78 p1 (S 78 (639 : Int)))))
          have hb := hJ ((0 : Int), (sv_up (sv_sts (sv_up (sv_up (sv_up (sv_sts (sv_up S 71 p1 (1 : Int)) [68, 69, 70, 81, 82, 83, 84, 85, 86, 76, 77] g230) 74 p1 (S 74 (639 : Int))) 75 p1 (S 1127 0)) 1127 0 ((S 1127 0) + v246)) [68, 69, 70] g252) 78 p1 (S 78 (639 : Int)))) ⟨(⟨by decide, by decide⟩ : sv_R (0 : Int)), (by rw [← eS]; exact ok263), hin270⟩
          have hb : sv_T sm_XS sm_cs sm_L sm_sh 3 (q_flow p1 S) 235 116 [(0, .ref 0), (1, sv_I p1), (2, sv_I s5), (3, sv_I (0 : Int))] [] (sv_up (sv_sts (sv_up (sv_up (sv_up (sv_sts (sv_up S 71 p1 (1 : Int)) [68, 69, 70, 81, 82, 83, 84, 85, 86, 76, 77] g230) 74 p1 (S 74 (639 : Int))) 75 p1 (S 1127 0)) 1127 0 ((S 1127 0) + v246)) [68, 69, 70] g252) 78 p1 (S 78 (639 : Int))) := Eq.mpr (congrArg (fun Z => sv_T sm_XS sm_cs sm_L sm_sh 3 (q_flow p1 S) 235 116 [(0, .ref 0), (1, sv_I p1), (2, sv_I s5), (3, sv_I (0 : Int))] [] Z) eS) hb
          exact hb
        · have h := h.2 (hc)
          refine sv_aload_n hM dX12_flow_82 rfl rfl ?_
          refine sv_aload_n hM dX12_flow_83 rfl rfl ?_
          refine sv_getA hM dX12_flow_84 sm_fl_238 (sm_a0 _) sm_k126 rfl ?_
          refine sv_iload_n hM dX12_flow_87 rfl rfl ?_
          obtain ⟨v290, ev290⟩ : ∃ x : Int, (if p1 = p1 then (S 1127 0) else (S 75 p1)) = x := ⟨_, rfl⟩
          have h := h v290 ev290
          have k291 : sv_R v290 := ev290 ▸ (sm_okI ok256 sm_r75 p1)
          have h := h k291
          refine sv_iald hM dX12_flow_88 (sm_a75 _) (by decide) o225.1 o225.2 rfl (x := v290) ev290 ?_
          refine sv_iload_n hM dX12_flow_89 rfl rfl ?_
          refine sv_iadd hM dX12_flow_90 rfl ?_
          obtain ⟨o292, h⟩ := h
          obtain ⟨o293, h⟩ := h
          refine sv_callV hM dX12_flow_91 sm_iv_1066 (by decide) (sm_a0 _) rfl rfl (Nat.le_of_ble_eq_true rfl) sm_h206 (Nat.le_of_ble_eq_true rfl) (Nat.le_of_ble_eq_true rfl) (F' := 0) (Nat.le_of_ble_eq_true rfl) rfl (t_empty (v290 + l3_253) (sv_sts (sv_up (sv_up (sv_up (sv_sts (sv_up S 71 p1 (1 : Int)) [68, 69, 70, 81, 82, 83, 84, 85, 86, 76, 77] g230) 74 p1 (S 74 (639 : Int))) 75 p1 (S 1127 0)) 1127 0 ((S 1127 0) + v246)) [68, 69, 70] g252) ok256 o292 o293) (fun v S1 hq => ?_)
          obtain ⟨rfl, ok295, md296, hpo297⟩ := hq
          obtain ⟨g294, rfl⟩ : ∃ g, S1 = sv_sts (sv_sts (sv_up (sv_up (sv_up (sv_sts (sv_up S 71 p1 (1 : Int)) [68, 69, 70, 81, 82, 83, 84, 85, 86, 76, 77] g230) 74 p1 (S 74 (639 : Int))) 75 p1 (S 1127 0)) 1127 0 ((S 1127 0) + v246)) [68, 69, 70] g252) [68, 69, 70] g := ⟨_, md296.eq⟩
          show sv_T sm_XS sm_cs sm_L sm_sh 3 (q_flow p1 S) 235 94 [(0, .ref 0), (1, sv_I p1), (2, sv_I s5), (3, sv_I l3_253)] [] (sv_sts (sv_sts (sv_up (sv_up (sv_up (sv_sts (sv_up S 71 p1 (1 : Int)) [68, 69, 70, 81, 82, 83, 84, 85, 86, 76, 77] g230) 74 p1 (S 74 (639 : Int))) 75 p1 (S 1127 0)) 1127 0 ((S 1127 0) + v246)) [68, 69, 70] g252) [68, 69, 70] g294)
          have md298 : sv_mod [68, 69, 70, 81, 82, 83, 84, 85, 86, 71, 74, 75, 1127, 78, 79, 80, 72, 76, 77] S (sv_sts (sv_sts (sv_up (sv_up (sv_up (sv_sts (sv_up S 71 p1 (1 : Int)) [68, 69, 70, 81, 82, 83, 84, 85, 86, 76, 77] g230) 74 p1 (S 74 (639 : Int))) 75 p1 (S 1127 0)) 1127 0 ((S 1127 0) + v246)) [68, 69, 70] g252) [68, 69, 70] g294) := sv_mod.sts md257 (by decide)
          have md299 : sv_mod [68, 69, 70, 81, 82, 83, 84, 85, 86, 71, 74, 75, 1127, 78, 79, 80, 76, 77] S (sv_sts (sv_sts (sv_up (sv_up (sv_up (sv_sts (sv_up S 71 p1 (1 : Int)) [68, 69, 70, 81, 82, 83, 84, 85, 86, 76, 77] g230) 74 p1 (S 74 (639 : Int))) 75 p1 (S 1127 0)) 1127 0 ((S 1127 0) + v246)) [68, 69, 70] g252) [68, 69, 70] g294) := sv_mod.sts md258 (by decide)
          have md300 : sv_mod [68, 69, 70] (sv_up (sv_up (sv_up (sv_sts (sv_up S 71 p1 (1 : Int)) [68, 69, 70, 81, 82, 83, 84, 85, 86, 76, 77] g230) 74 p1 (S 74 (639 : Int))) 75 p1 (S 1127 0)) 1127 0 ((S 1127 0) + v246)) (sv_sts (sv_sts (sv_up (sv_up (sv_up (sv_sts (sv_up S 71 p1 (1 : Int)) [68, 69, 70, 81, 82, 83, 84, 85, 86, 76, 77] g230) 74 p1 (S 74 (639 : Int))) 75 p1 (S 1127 0)) 1127 0 ((S 1127 0) + v246)) [68, 69, 70] g252) [68, 69, 70] g294) := sv_mod.sts md259 (by decide)
          have h := h g294 hpo297
          refine sv_iinc (d := (1 : Int)) hM dX12_flow_94 rfl (by decide) rfl rfl ?_
          show sv_T sm_XS sm_cs sm_L sm_sh 3 (q_flow p1 S) 235 97 [(0, .ref 0), (1, sv_I p1), (2, sv_I s5), (3, sv_I (l3_253 + (1 : Int)))] [] (sv_sts (sv_sts (sv_up (sv_up (sv_up (sv_sts (sv_up S 71 p1 (1 : Int)) [68, 69, 70, 81, 82, 83, 84, 85, 86, 76, 77] g230) 74 p1 (S 74 (639 : Int))) 75 p1 (S 1127 0)) 1127 0 ((S 1127 0) + v246)) [68, 69, 70] g252) [68, 69, 70] g294)
          refine sv_goto hM dX12_flow_97 (pc' := 72) rfl ?_
          obtain ⟨o301, h⟩ := h
          have eS := sv_mod.eq md300
          have hb := ih254 ((l3_253 + (1 : Int)), (sv_sts (sv_sts (sv_up (sv_up (sv_up (sv_sts (sv_up S 71 p1 (1 : Int)) [68, 69, 70, 81, 82, 83, 84, 85, 86, 76, 77] g230) 74 p1 (S 74 (639 : Int))) 75 p1 (S 1127 0)) 1127 0 ((S 1127 0) + v246)) [68, 69, 70] g252) [68, 69, 70] g294)) ⟨o301, (by rw [← eS]; exact ok295), h.1⟩ h.2
          have hb : sv_T sm_XS sm_cs sm_L sm_sh 3 (q_flow p1 S) 235 72 [(0, .ref 0), (1, sv_I p1), (2, sv_I s5), (3, sv_I (l3_253 + (1 : Int)))] [] (sv_sts (sv_sts (sv_up (sv_up (sv_up (sv_sts (sv_up S 71 p1 (1 : Int)) [68, 69, 70, 81, 82, 83, 84, 85, 86, 76, 77] g230) 74 p1 (S 74 (639 : Int))) 75 p1 (S 1127 0)) 1127 0 ((S 1127 0) + v246)) [68, 69, 70] g252) [68, 69, 70] g294) := Eq.mpr (congrArg (fun Z => sv_T sm_XS sm_cs sm_L sm_sh 3 (q_flow p1 S) 235 72 [(0, .ref 0), (1, sv_I p1), (2, sv_I s5), (3, sv_I (l3_253 + (1 : Int)))] [] Z) eS) hb
          exact sv_less (lv := [(0, .ref 0), (1, sv_I p1), (2, sv_I s5), (3, sv_I (l3_253 + (1 : Int)))]) (sv_Sub_cons rfl (sv_Sub_cons rfl (sv_Sub_cons rfl (sv_Sub_cons rfl sv_Sub_nil)))) hb
      have eS := sv_mod.eq (sv_mod.rf (l := [68, 69, 70]) (S := (sv_up (sv_up (sv_up (sv_sts (sv_up S 71 p1 (1 : Int)) [68, 69, 70, 81, 82, 83, 84, 85, 86, 76, 77] g230) 74 p1 (S 74 (639 : Int))) 75 p1 (S 1127 0)) 1127 0 ((S 1127 0) + v246))))
      have hb := hJ ((0 : Int), (sv_up (sv_up (sv_up (sv_sts (sv_up S 71 p1 (1 : Int)) [68, 69, 70, 81, 82, 83, 84, 85, 86, 76, 77] g230) 74 p1 (S 74 (639 : Int))) 75 p1 (S 1127 0)) 1127 0 ((S 1127 0) + v246))) ⟨(⟨by decide, by decide⟩ : sv_R (0 : Int)), (by rw [← eS]; exact ok249), hin255⟩
      have hb : sv_T sm_XS sm_cs sm_L sm_sh 3 (q_flow p1 S) 235 72 [(0, .ref 0), (1, sv_I p1), (2, sv_I s5), (3, sv_I (0 : Int))] [] (sv_up (sv_up (sv_up (sv_sts (sv_up S 71 p1 (1 : Int)) [68, 69, 70, 81, 82, 83, 84, 85, 86, 76, 77] g230) 74 p1 (S 74 (639 : Int))) 75 p1 (S 1127 0)) 1127 0 ((S 1127 0) + v246)) := Eq.mpr (congrArg (fun Z => sv_T sm_XS sm_cs sm_L sm_sh 3 (q_flow p1 S) 235 72 [(0, .ref 0), (1, sv_I p1), (2, sv_I s5), (3, sv_I (0 : Int))] [] Z) eS) hb
      exact hb
  have h := h.2
  have k303 : (sm_NH (S 1100007) → 0 ≤ p1 → p1 < 640 → 0 ≤ (S 1100007 p1) ∧ (S 1100007 p1) ≤ 400) := fun h h0 h1 => sm_NH_at h p1 h0 h1
  have h := h k303
  have k304 : (sm_NH (S 1100007) → 0 ≤ sm_hs (S 71) (S 1100007)) := sm_hs_0
  have h := h k304
  have k305 : (0 ≤ sm_pl (S 81) (S 82) (S 83) (S 84) (S 85) (S 86) ∧ sm_pl (S 81) (S 82) (S 83) (S 84) (S 85) (S 86) ≤ 3870000) := sm_pl_r _ _ _ _ (fun x_ => sm_okZ hok sm_r81 x_) (fun x_ => sm_okZ hok sm_r82 x_)
  have h := h k305
  have k306 : (0 ≤ sm_du (S 72) ∧ sm_du (S 72) ≤ 640) := sm_du_b (fun x_ => sm_okZ hok sm_r72 x_)
  have h := h k306
  refine sv_aload_n hM dX12_flow_0 rfl rfl ?_
  refine sv_getA hM dX12_flow_1 sm_fl_226 (sm_a0 _) sm_k122 rfl ?_
  refine sv_iload_n hM dX12_flow_4 rfl rfl ?_
  obtain ⟨o307, h⟩ := h
  have k308 : (0 ≤ (S 71 p1) ∧ (S 71 p1) ≤ 1) := sm_okZ hok sm_r71 p1
  have h := h k308
  refine sv_zald hM dX12_flow_5 (sm_a71 _) (by decide) o307.1 o307.2 rfl (x := (S 71 p1)) rfl ?_
  refine sv_cond_ne hM dX12_flow_6 (sv_R01 k308) (t := 13) rfl rfl (fun hc => ?_) (fun hc => ?_)
  · have h := h.1 (hc)
    refine sv_iconst (d := (0 : Int)) hM dX12_flow_13 rfl rfl ?_
    have hb := J302 (0 : Int) (⟨by decide, by decide⟩ : sv_R (0 : Int)) h
    exact sv_less (lv := [(0, .ref 0), (1, sv_I p1)]) (sv_Sub_cons rfl (sv_Sub_cons rfl sv_Sub_nil)) hb
  · have h := h.2 (hc)
    refine sv_iconst (d := (1 : Int)) hM dX12_flow_9 rfl rfl ?_
    refine sv_goto hM dX12_flow_10 (pc' := 14) rfl ?_
    have hb := J302 (1 : Int) (⟨by decide, by decide⟩ : sv_R (1 : Int)) h
    exact sv_less (lv := [(0, .ref 0), (1, sv_I p1)]) (sv_Sub_cons rfl (sv_Sub_cons rfl sv_Sub_nil)) hb
