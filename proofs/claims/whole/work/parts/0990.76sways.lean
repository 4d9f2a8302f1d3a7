theorem dX12_on_0 : decode cX12_on 0 = .ok (.aload_n 0, 1) := by decide +kernel
theorem dX12_on_1 : decode cX12_on 1 = .ok (.iconst 1, 1) := by decide +kernel
theorem dX12_on_2 : decode cX12_on 2 = .ok (.putfield 1185, 3) := by decide +kernel
theorem dX12_on_5 : decode cX12_on 5 = .ok (.aload_n 0, 1) := by decide +kernel
theorem dX12_on_6 : decode cX12_on 6 = .ok (.aload_n 0, 1) := by decide +kernel
theorem dX12_on_7 : decode cX12_on 7 = .ok (.getfield 1188, 3) := by decide +kernel
theorem dX12_on_10 : decode cX12_on 10 = .ok (.iconst 1, 1) := by decide +kernel
theorem dX12_on_11 : decode cX12_on 11 = .ok (.iadd, 1) := by decide +kernel
theorem dX12_on_12 : decode cX12_on 12 = .ok (.invokevirtual 1191, 3) := by decide +kernel
theorem dX12_on_15 : decode cX12_on 15 = .ok (.return_, 1) := by decide +kernel
theorem dX12_to_0 : decode cX12_to 0 = .ok (.aload_n 0, 1) := by decide +kernel
theorem dX12_to_1 : decode cX12_to 1 = .ok (.iconst 1, 1) := by decide +kernel
theorem dX12_to_2 : decode cX12_to 2 = .ok (.putfield 1185, 3) := by decide +kernel
theorem dX12_to_5 : decode cX12_to 5 = .ok (.aload_n 0, 1) := by decide +kernel
theorem dX12_to_6 : decode cX12_to 6 = .ok (.iload_n 1, 1) := by decide +kernel
theorem dX12_to_7 : decode cX12_to 7 = .ok (.invokevirtual 1191, 3) := by decide +kernel
theorem dX12_to_10 : decode cX12_to 10 = .ok (.return_, 1) := by decide +kernel
theorem dX12_tossSet_0 : decode cX12_tossSet 0 = .ok (.aload_n 0, 1) := by decide +kernel
theorem dX12_tossSet_1 : decode cX12_tossSet 1 = .ok (.getfield 247, 3) := by decide +kernel
theorem dX12_tossSet_4 : decode cX12_tossSet 4 = .ok (.sipush 639, 3) := by decide +kernel
theorem dX12_tossSet_7 : decode cX12_tossSet 7 = .ok (.iaload, 1) := by decide +kernel
theorem dX12_tossSet_8 : decode cX12_tossSet 8 = .ok (.ifCond .ne 44, 3) := by decide +kernel
theorem dX12_tossSet_11 : decode cX12_tossSet 11 = .ok (.aload_n 0, 1) := by decide +kernel
theorem dX12_tossSet_12 : decode cX12_tossSet 12 = .ok (.getfield 235, 3) := by decide +kernel
theorem dX12_tossSet_15 : decode cX12_tossSet 15 = .ok (.sipush 639, 3) := by decide +kernel
theorem dX12_tossSet_18 : decode cX12_tossSet 18 = .ok (.iconst 0, 1) := by decide +kernel
theorem dX12_tossSet_19 : decode cX12_tossSet 19 = .ok (.iastore, 1) := by decide +kernel
theorem dX12_tossSet_20 : decode cX12_tossSet 20 = .ok (.aload_n 0, 1) := by decide +kernel
theorem dX12_tossSet_21 : decode cX12_tossSet 21 = .ok (.iload_n 1, 1) := by decide +kernel
theorem dX12_tossSet_22 : decode cX12_tossSet 22 = .ok (.aload_n 0, 1) := by decide +kernel
theorem dX12_tossSet_23 : decode cX12_tossSet 23 = .ok (.invokevirtual 1201, 3) := by decide +kernel
theorem dX12_tossSet_26 : decode cX12_tossSet 26 = .ok (.invokevirtual 1092, 3) := by decide +kernel
theorem dX12_tossSet_29 : decode cX12_tossSet 29 = .ok (.aload_n 0, 1) := by decide +kernel
theorem dX12_tossSet_30 : decode cX12_tossSet 30 = .ok (.aload_n 0, 1) := by decide +kernel
theorem dX12_tossSet_31 : decode cX12_tossSet 31 = .ok (.getfield 606, 3) := by decide +kernel
theorem dX12_tossSet_34 : decode cX12_tossSet 34 = .ok (.iconst 2, 1) := by decide +kernel
theorem dX12_tossSet_35 : decode cX12_tossSet 35 = .ok (.aload_n 0, 1) := by decide +kernel
theorem dX12_tossSet_36 : decode cX12_tossSet 36 = .ok (.getfield 98, 3) := by decide +kernel
theorem dX12_tossSet_39 : decode cX12_tossSet 39 = .ok (.aload_n 0, 1) := by decide +kernel
theorem dX12_tossSet_40 : decode cX12_tossSet 40 = .ok (.getfield 1188, 3) := by decide +kernel
theorem dX12_tossSet_43 : decode cX12_tossSet 43 = .ok (.iaload, 1) := by decide +kernel
theorem dX12_tossSet_44 : decode cX12_tossSet 44 = .ok (.imul, 1) := by decide +kernel
theorem dX12_tossSet_45 : decode cX12_tossSet 45 = .ok (.iadd, 1) := by decide +kernel
theorem dX12_tossSet_46 : decode cX12_tossSet 46 = .ok (.iconst 1, 1) := by decide +kernel
theorem dX12_tossSet_47 : decode cX12_tossSet 47 = .ok (.iadd, 1) := by decide +kernel
theorem dX12_tossSet_48 : decode cX12_tossSet 48 = .ok (.invokevirtual 1191, 3) := by decide +kernel
theorem dX12_tossSet_51 : decode cX12_tossSet 51 = .ok (.return_, 1) := by decide +kernel
theorem dX12_tossSet_52 : decode cX12_tossSet 52 = .ok (.aload_n 0, 1) := by decide +kernel
theorem dX12_tossSet_53 : decode cX12_tossSet 53 = .ok (.getfield 247, 3) := by decide +kernel
theorem dX12_tossSet_56 : decode cX12_tossSet 56 = .ok (.sipush 639, 3) := by decide +kernel
theorem dX12_tossSet_59 : decode cX12_tossSet 59 = .ok (.dup2, 1) := by decide +kernel
theorem dX12_tossSet_60 : decode cX12_tossSet 60 = .ok (.iaload, 1) := by decide +kernel
theorem dX12_tossSet_61 : decode cX12_tossSet 61 = .ok (.iconst 1, 1) := by decide +kernel
theorem dX12_tossSet_62 : decode cX12_tossSet 62 = .ok (.isub, 1) := by decide +kernel
theorem dX12_tossSet_63 : decode cX12_tossSet 63 = .ok (.iastore, 1) := by decide +kernel
theorem dX12_tossSet_64 : decode cX12_tossSet 64 = .ok (.sipush 25560, 3) := by decide +kernel
theorem dX12_tossSet_67 : decode cX12_tossSet 67 = .ok (.aload_n 0, 1) := by decide +kernel
theorem dX12_tossSet_68 : decode cX12_tossSet 68 = .ok (.getfield 247, 3) := by decide +kernel
theorem dX12_tossSet_71 : decode cX12_tossSet 71 = .ok (.sipush 639, 3) := by decide +kernel
theorem dX12_tossSet_74 : decode cX12_tossSet 74 = .ok (.iaload, 1) := by decide +kernel
theorem dX12_tossSet_75 : decode cX12_tossSet 75 = .ok (.iadd, 1) := by decide +kernel
theorem dX12_tossSet_76 : decode cX12_tossSet 76 = .ok (.istore_n 2, 1) := by decide +kernel
theorem dX12_tossSet_77 : decode cX12_tossSet 77 = .ok (.aload_n 0, 1) := by decide +kernel
theorem dX12_tossSet_78 : decode cX12_tossSet 78 = .ok (.getfield 235, 3) := by decide +kernel
theorem dX12_tossSet_81 : decode cX12_tossSet 81 = .ok (.sipush 639, 3) := by decide +kernel
theorem dX12_tossSet_84 : decode cX12_tossSet 84 = .ok (.aload_n 0, 1) := by decide +kernel
theorem dX12_tossSet_85 : decode cX12_tossSet 85 = .ok (.getfield 253, 3) := by decide +kernel
theorem dX12_tossSet_88 : decode cX12_tossSet 88 = .ok (.iload_n 2, 1) := by decide +kernel
theorem dX12_tossSet_89 : decode cX12_tossSet 89 = .ok (.iaload, 1) := by decide +kernel
theorem dX12_tossSet_90 : decode cX12_tossSet 90 = .ok (.iastore, 1) := by decide +kernel
theorem dX12_tossSet_91 : decode cX12_tossSet 91 = .ok (.aload_n 0, 1) := by decide +kernel
theorem dX12_tossSet_92 : decode cX12_tossSet 92 = .ok (.iload_n 1, 1) := by decide +kernel
theorem dX12_tossSet_93 : decode cX12_tossSet 93 = .ok (.aload_n 0, 1) := by decide +kernel
theorem dX12_tossSet_94 : decode cX12_tossSet 94 = .ok (.invokevirtual 1201, 3) := by decide +kernel
theorem dX12_tossSet_97 : decode cX12_tossSet 97 = .ok (.invokevirtual 1092, 3) := by decide +kernel
theorem dX12_tossSet_100 : decode cX12_tossSet 100 = .ok (.aload_n 0, 1) := by decide +kernel
theorem dX12_tossSet_101 : decode cX12_tossSet 101 = .ok (.aload_n 0, 1) := by decide +kernel
theorem dX12_tossSet_102 : decode cX12_tossSet 102 = .ok (.getfield 250, 3) := by decide +kernel
theorem dX12_tossSet_105 : decode cX12_tossSet 105 = .ok (.iload_n 2, 1) := by decide +kernel
theorem dX12_tossSet_106 : decode cX12_tossSet 106 = .ok (.iaload, 1) := by decide +kernel
theorem dX12_tossSet_107 : decode cX12_tossSet 107 = .ok (.invokevirtual 1191, 3) := by decide +kernel
theorem dX12_tossSet_110 : decode cX12_tossSet 110 = .ok (.return_, 1) := by decide +kernel
theorem dX12_tossTop_0 : decode cX12_tossTop 0 = .ok (.ldc_w 1194, 3) := by decide +kernel
theorem dX12_tossTop_3 : decode cX12_tossTop 3 = .ok (.istore_n 1, 1) := by decide +kernel
theorem dX12_tossTop_4 : decode cX12_tossTop 4 = .ok (.aload_n 0, 1) := by decide +kernel
theorem dX12_tossTop_5 : decode cX12_tossTop 5 = .ok (.aload_n 0, 1) := by decide +kernel
theorem dX12_tossTop_6 : decode cX12_tossTop 6 = .ok (.iconst 0, 1) := by decide +kernel
theorem dX12_tossTop_7 : decode cX12_tossTop 7 = .ok (.invokevirtual 1195, 3) := by decide +kernel
theorem dX12_tossTop_10 : decode cX12_tossTop 10 = .ok (.iload_n 1, 1) := by decide +kernel
theorem dX12_tossTop_11 : decode cX12_tossTop 11 = .ok (.invokevirtual 1092, 3) := by decide +kernel
theorem dX12_tossTop_14 : decode cX12_tossTop 14 = .ok (.aload_n 0, 1) := by decide +kernel
theorem dX12_tossTop_15 : decode cX12_tossTop 15 = .ok (.iload_n 1, 1) := by decide +kernel
theorem dX12_tossTop_16 : decode cX12_tossTop 16 = .ok (.invokevirtual 1198, 3) := by decide +kernel
theorem dX12_tossTop_19 : decode cX12_tossTop 19 = .ok (.return_, 1) := by decide +kernel
theorem dX12_errorNow_0 : decode cX12_errorNow 0 = .ok (.aload_n 0, 1) := by decide +kernel
theorem dX12_errorNow_1 : decode cX12_errorNow 1 = .ok (.iload_n 1, 1) := by decide +kernel
theorem dX12_errorNow_2 : decode cX12_errorNow 2 = .ok (.bipush 20, 2) := by decide +kernel
theorem dX12_errorNow_4 : decode cX12_errorNow 4 = .ok (.iadd, 1) := by decide +kernel
theorem dX12_errorNow_5 : decode cX12_errorNow 5 = .ok (.iload_n 1, 1) := by decide +kernel
theorem dX12_errorNow_6 : decode cX12_errorNow 6 = .ok (.iconst 0, 1) := by decide +kernel
theorem dX12_errorNow_7 : decode cX12_errorNow 7 = .ok (.iconst (-1), 1) := by decide +kernel
theorem dX12_errorNow_8 : decode cX12_errorNow 8 = .ok (.invokevirtual 1204, 3) := by decide +kernel
theorem dX12_errorNow_11 : decode cX12_errorNow 11 = .ok (.ldc_w 1194, 3) := by decide +kernel
theorem dX12_errorNow_14 : decode cX12_errorNow 14 = .ok (.istore_n 2, 1) := by decide +kernel
theorem dX12_errorNow_15 : decode cX12_errorNow 15 = .ok (.aload_n 0, 1) := by decide +kernel
theorem dX12_errorNow_16 : decode cX12_errorNow 16 = .ok (.iload_n 2, 1) := by decide +kernel
theorem dX12_errorNow_17 : decode cX12_errorNow 17 = .ok (.invokevirtual 1066, 3) := by decide +kernel
theorem dX12_errorNow_20 : decode cX12_errorNow 20 = .ok (.aload_n 0, 1) := by decide +kernel
theorem dX12_errorNow_21 : decode cX12_errorNow 21 = .ok (.iload_n 2, 1) := by decide +kernel
theorem dX12_errorNow_22 : decode cX12_errorNow 22 = .ok (.iload_n 1, 1) := by decide +kernel
theorem dX12_errorNow_23 : decode cX12_errorNow 23 = .ok (.bipush 20, 2) := by decide +kernel
theorem dX12_errorNow_25 : decode cX12_errorNow 25 = .ok (.iadd, 1) := by decide +kernel
theorem dX12_errorNow_26 : decode cX12_errorNow 26 = .ok (.invokevirtual 1081, 3) := by decide +kernel
theorem dX12_errorNow_29 : decode cX12_errorNow 29 = .ok (.aload_n 0, 1) := by decide +kernel
theorem dX12_errorNow_30 : decode cX12_errorNow 30 = .ok (.aload_n 0, 1) := by decide +kernel
theorem dX12_errorNow_31 : decode cX12_errorNow 31 = .ok (.getfield 1208, 3) := by decide +kernel
theorem dX12_errorNow_34 : decode cX12_errorNow 34 = .ok (.iload_n 1, 1) := by decide +kernel
theorem dX12_errorNow_35 : decode cX12_errorNow 35 = .ok (.bipush 6, 2) := by decide +kernel
theorem dX12_errorNow_37 : decode cX12_errorNow 37 = .ok (.if_icmp .ne 7, 3) := by decide +kernel
theorem dX12_errorNow_40 : decode cX12_errorNow 40 = .ok (.iconst 1, 1) := by decide +kernel
theorem dX12_errorNow_41 : decode cX12_errorNow 41 = .ok (.goto 14, 3) := by decide +kernel
theorem dX12_errorNow_44 : decode cX12_errorNow 44 = .ok (.iload_n 1, 1) := by decide +kernel
theorem dX12_errorNow_45 : decode cX12_errorNow 45 = .ok (.bipush 7, 2) := by decide +kernel
theorem dX12_errorNow_47 : decode cX12_errorNow 47 = .ok (.if_icmp .ne 7, 3) := by decide +kernel
theorem dX12_errorNow_50 : decode cX12_errorNow 50 = .ok (.iconst 2, 1) := by decide +kernel
theorem dX12_errorNow_51 : decode cX12_errorNow 51 = .ok (.goto 4, 3) := by decide +kernel
theorem dX12_errorNow_54 : decode cX12_errorNow 54 = .ok (.iconst 0, 1) := by decide +kernel
theorem dX12_errorNow_55 : decode cX12_errorNow 55 = .ok (.ior, 1) := by decide +kernel
theorem dX12_errorNow_56 : decode cX12_errorNow 56 = .ok (.putfield 1208, 3) := by decide +kernel
theorem dX12_errorNow_59 : decode cX12_errorNow 59 = .ok (.aload_n 0, 1) := by decide +kernel
theorem dX12_errorNow_60 : decode cX12_errorNow 60 = .ok (.iload_n 2, 1) := by decide +kernel
theorem dX12_errorNow_61 : decode cX12_errorNow 61 = .ok (.invokevirtual 1198, 3) := by decide +kernel
theorem dX12_errorNow_64 : decode cX12_errorNow 64 = .ok (.return_, 1) := by decide +kernel
theorem dX12_error__0 : decode cX12_error_ 0 = .ok (.aload_n 0, 1) := by decide +kernel
theorem dX12_error__1 : decode cX12_error_ 1 = .ok (.iload_n 1, 1) := by decide +kernel
theorem dX12_error__2 : decode cX12_error_ 2 = .ok (.invokevirtual 1211, 3) := by decide +kernel
theorem dX12_error__5 : decode cX12_error_ 5 = .ok (.aload_n 0, 1) := by decide +kernel
theorem dX12_error__6 : decode cX12_error_ 6 = .ok (.iload_n 2, 1) := by decide +kernel
theorem dX12_error__7 : decode cX12_error_ 7 = .ok (.invokevirtual 1214, 3) := by decide +kernel
theorem dX12_error__10 : decode cX12_error_ 10 = .ok (.return_, 1) := by decide +kernel
theorem dX12_comeBack_0 : decode cX12_comeBack 0 = .ok (.iconst 0, 1) := by decide +kernel
theorem dX12_comeBack_1 : decode cX12_comeBack 1 = .ok (.istore_n 2, 1) := by decide +kernel
theorem dX12_comeBack_2 : decode cX12_comeBack 2 = .ok (.iload_n 2, 1) := by decide +kernel
theorem dX12_comeBack_3 : decode cX12_comeBack 3 = .ok (.aload_n 0, 1) := by decide +kernel
theorem dX12_comeBack_4 : decode cX12_comeBack 4 = .ok (.getfield 235, 3) := by decide +kernel
theorem dX12_comeBack_7 : decode cX12_comeBack 7 = .ok (.sipush 639, 3) := by decide +kernel
theorem dX12_comeBack_10 : decode cX12_comeBack 10 = .ok (.iaload, 1) := by decide +kernel
theorem dX12_comeBack_11 : decode cX12_comeBack 11 = .ok (.if_icmp .ge 23, 3) := by decide +kernel
theorem dX12_comeBack_14 : decode cX12_comeBack 14 = .ok (.aload_n 0, 1) := by decide +kernel
theorem dX12_comeBack_15 : decode cX12_comeBack 15 = .ok (.aload_n 0, 1) := by decide +kernel
theorem dX12_comeBack_16 : decode cX12_comeBack 16 = .ok (.getfield 238, 3) := by decide +kernel
theorem dX12_comeBack_19 : decode cX12_comeBack 19 = .ok (.sipush 639, 3) := by decide +kernel
theorem dX12_comeBack_22 : decode cX12_comeBack 22 = .ok (.iaload, 1) := by decide +kernel
theorem dX12_comeBack_23 : decode cX12_comeBack 23 = .ok (.iload_n 2, 1) := by decide +kernel
theorem dX12_comeBack_24 : decode cX12_comeBack 24 = .ok (.iadd, 1) := by decide +kernel
theorem dX12_comeBack_25 : decode cX12_comeBack 25 = .ok (.invokevirtual 1350, 3) := by decide +kernel
theorem dX12_comeBack_28 : decode cX12_comeBack 28 = .ok (.iinc 2 1, 3) := by decide +kernel
theorem dX12_comeBack_31 : decode cX12_comeBack 31 = .ok (.goto (-29), 3) := by decide +kernel
theorem dX12_comeBack_34 : decode cX12_comeBack 34 = .ok (.aload_n 0, 1) := by decide +kernel
theorem dX12_comeBack_35 : decode cX12_comeBack 35 = .ok (.aload_n 0, 1) := by decide +kernel
theorem dX12_comeBack_36 : decode cX12_comeBack 36 = .ok (.sipush 639, 3) := by decide +kernel
theorem dX12_comeBack_39 : decode cX12_comeBack 39 = .ok (.invokevirtual 1098, 3) := by decide +kernel
theorem dX12_comeBack_42 : decode cX12_comeBack 42 = .ok (.invokevirtual 1350, 3) := by decide +kernel
theorem dX12_comeBack_45 : decode cX12_comeBack 45 = .ok (.ldc_w 1353, 3) := by decide +kernel
theorem dX12_comeBack_48 : decode cX12_comeBack 48 = .ok (.istore_n 2, 1) := by decide +kernel
theorem dX12_comeBack_49 : decode cX12_comeBack 49 = .ok (.aload_n 0, 1) := by decide +kernel
theorem dX12_comeBack_50 : decode cX12_comeBack 50 = .ok (.iload_n 2, 1) := by decide +kernel
theorem dX12_comeBack_51 : decode cX12_comeBack 51 = .ok (.invokevirtual 1066, 3) := by decide +kernel
theorem dX12_comeBack_54 : decode cX12_comeBack 54 = .ok (.aload_n 0, 1) := by decide +kernel
theorem dX12_comeBack_55 : decode cX12_comeBack 55 = .ok (.getfield 220, 3) := by decide +kernel
theorem dX12_comeBack_58 : decode cX12_comeBack 58 = .ok (.iload_n 2, 1) := by decide +kernel
theorem dX12_comeBack_59 : decode cX12_comeBack 59 = .ok (.aload_n 0, 1) := by decide +kernel
theorem dX12_comeBack_60 : decode cX12_comeBack 60 = .ok (.getfield 241, 3) := by decide +kernel
theorem dX12_comeBack_63 : decode cX12_comeBack 63 = .ok (.sipush 639, 3) := by decide +kernel
theorem dX12_comeBack_66 : decode cX12_comeBack 66 = .ok (.laload, 1) := by decide +kernel
theorem dX12_comeBack_67 : decode cX12_comeBack 67 = .ok (.lastore, 1) := by decide +kernel
theorem dX12_comeBack_68 : decode cX12_comeBack 68 = .ok (.aload_n 0, 1) := by decide +kernel
theorem dX12_comeBack_69 : decode cX12_comeBack 69 = .ok (.getfield 223, 3) := by decide +kernel
theorem dX12_comeBack_72 : decode cX12_comeBack 72 = .ok (.iload_n 2, 1) := by decide +kernel
theorem dX12_comeBack_73 : decode cX12_comeBack 73 = .ok (.aload_n 0, 1) := by decide +kernel
theorem dX12_comeBack_74 : decode cX12_comeBack 74 = .ok (.getfield 244, 3) := by decide +kernel
theorem dX12_comeBack_77 : decode cX12_comeBack 77 = .ok (.sipush 639, 3) := by decide +kernel
theorem dX12_comeBack_80 : decode cX12_comeBack 80 = .ok (.laload, 1) := by decide +kernel
theorem dX12_comeBack_81 : decode cX12_comeBack 81 = .ok (.lastore, 1) := by decide +kernel
theorem dX12_comeBack_82 : decode cX12_comeBack 82 = .ok (.aload_n 0, 1) := by decide +kernel
theorem dX12_comeBack_83 : decode cX12_comeBack 83 = .ok (.iload_n 2, 1) := by decide +kernel
theorem dX12_comeBack_84 : decode cX12_comeBack 84 = .ok (.invokevirtual 1350, 3) := by decide +kernel
theorem dX12_comeBack_87 : decode cX12_comeBack 87 = .ok (.aload_n 0, 1) := by decide +kernel
theorem dX12_comeBack_88 : decode cX12_comeBack 88 = .ok (.getfield 241, 3) := by decide +kernel
theorem dX12_comeBack_91 : decode cX12_comeBack 91 = .ok (.sipush 639, 3) := by decide +kernel
theorem dX12_comeBack_94 : decode cX12_comeBack 94 = .ok (.aload_n 0, 1) := by decide +kernel
theorem dX12_comeBack_95 : decode cX12_comeBack 95 = .ok (.getfield 220, 3) := by decide +kernel
theorem dX12_comeBack_98 : decode cX12_comeBack 98 = .ok (.iload_n 2, 1) := by decide +kernel
theorem dX12_comeBack_99 : decode cX12_comeBack 99 = .ok (.laload, 1) := by decide +kernel
theorem dX12_comeBack_100 : decode cX12_comeBack 100 = .ok (.lastore, 1) := by decide +kernel
theorem dX12_comeBack_101 : decode cX12_comeBack 101 = .ok (.aload_n 0, 1) := by decide +kernel
theorem dX12_comeBack_102 : decode cX12_comeBack 102 = .ok (.getfield 244, 3) := by decide +kernel
theorem dX12_comeBack_105 : decode cX12_comeBack 105 = .ok (.sipush 639, 3) := by decide +kernel
theorem dX12_comeBack_108 : decode cX12_comeBack 108 = .ok (.aload_n 0, 1) := by decide +kernel
theorem dX12_comeBack_109 : decode cX12_comeBack 109 = .ok (.getfield 223, 3) := by decide +kernel
theorem dX12_comeBack_112 : decode cX12_comeBack 112 = .ok (.iload_n 2, 1) := by decide +kernel
theorem dX12_comeBack_113 : decode cX12_comeBack 113 = .ok (.laload, 1) := by decide +kernel
theorem dX12_comeBack_114 : decode cX12_comeBack 114 = .ok (.lastore, 1) := by decide +kernel
theorem dX12_comeBack_115 : decode cX12_comeBack 115 = .ok (.aload_n 0, 1) := by decide +kernel
theorem dX12_comeBack_116 : decode cX12_comeBack 116 = .ok (.iload_n 1, 1) := by decide +kernel
theorem dX12_comeBack_117 : decode cX12_comeBack 117 = .ok (.invokevirtual 1354, 3) := by decide +kernel
theorem dX12_comeBack_120 : decode cX12_comeBack 120 = .ok (.return_, 1) := by decide +kernel
theorem dX12_replace_0 : decode cX12_replace 0 = .ok (.aload_n 0, 1) := by decide +kernel
theorem dX12_replace_1 : decode cX12_replace 1 = .ok (.getfield 235, 3) := by decide +kernel
theorem dX12_replace_4 : decode cX12_replace 4 = .ok (.sipush 639, 3) := by decide +kernel
theorem dX12_replace_7 : decode cX12_replace 7 = .ok (.dup2, 1) := by decide +kernel
theorem dX12_replace_8 : decode cX12_replace 8 = .ok (.iaload, 1) := by decide +kernel
theorem dX12_replace_9 : decode cX12_replace 9 = .ok (.iload_n 1, 1) := by decide +kernel
theorem dX12_replace_10 : decode cX12_replace 10 = .ok (.isub, 1) := by decide +kernel
theorem dX12_replace_11 : decode cX12_replace 11 = .ok (.iastore, 1) := by decide +kernel
theorem dX12_replace_12 : decode cX12_replace 12 = .ok (.aload_n 0, 1) := by decide +kernel
theorem dX12_replace_13 : decode cX12_replace 13 = .ok (.iload_n 2, 1) := by decide +kernel
theorem dX12_replace_14 : decode cX12_replace 14 = .ok (.aload_n 0, 1) := by decide +kernel
theorem dX12_replace_15 : decode cX12_replace 15 = .ok (.invokevirtual 1201, 3) := by decide +kernel
theorem dX12_replace_18 : decode cX12_replace 18 = .ok (.invokevirtual 1092, 3) := by decide +kernel
theorem dX12_replace_21 : decode cX12_replace 21 = .ok (.aload_n 0, 1) := by decide +kernel
theorem dX12_replace_22 : decode cX12_replace 22 = .ok (.iload_n 2, 1) := by decide +kernel
theorem dX12_replace_23 : decode cX12_replace 23 = .ok (.invokevirtual 1231, 3) := by decide +kernel
theorem dX12_replace_26 : decode cX12_replace 26 = .ok (.ifCond .ne 7, 3) := by decide +kernel
theorem dX12_replace_29 : decode cX12_replace 29 = .ok (.aload_n 0, 1) := by decide +kernel
theorem dX12_replace_30 : decode cX12_replace 30 = .ok (.invokevirtual 1222, 3) := by decide +kernel
theorem dX12_replace_33 : decode cX12_replace 33 = .ok (.return_, 1) := by decide +kernel
theorem dX12_unarySet_0 : decode cX12_unarySet 0 = .ok (.aload_n 0, 1) := by decide +kernel
theorem dX12_unarySet_1 : decode cX12_unarySet 1 = .ok (.iload_n 3, 1) := by decide +kernel
theorem dX12_unarySet_2 : decode cX12_unarySet 2 = .ok (.invokevirtual 1066, 3) := by decide +kernel
theorem dX12_unarySet_5 : decode cX12_unarySet 5 = .ok (.iload_n 1, 1) := by decide +kernel
theorem dX12_unarySet_6 : decode cX12_unarySet 6 = .ok (.iconst 4, 1) := by decide +kernel
theorem dX12_unarySet_7 : decode cX12_unarySet 7 = .ok (.if_icmp .ne 12, 3) := by decide +kernel
theorem dX12_unarySet_10 : decode cX12_unarySet 10 = .ok (.aload_n 0, 1) := by decide +kernel
theorem dX12_unarySet_11 : decode cX12_unarySet 11 = .ok (.iload_n 2, 1) := by decide +kernel
theorem dX12_unarySet_12 : decode cX12_unarySet 12 = .ok (.iload_n 3, 1) := by decide +kernel
theorem dX12_unarySet_13 : decode cX12_unarySet 13 = .ok (.invokevirtual 1289, 3) := by decide +kernel
theorem dX12_unarySet_16 : decode cX12_unarySet 16 = .ok (.goto 96, 3) := by decide +kernel
theorem dX12_unarySet_19 : decode cX12_unarySet 19 = .ok (.aload_n 0, 1) := by decide +kernel
theorem dX12_unarySet_20 : decode cX12_unarySet 20 = .ok (.iload_n 2, 1) := by decide +kernel
theorem dX12_unarySet_21 : decode cX12_unarySet 21 = .ok (.invokevirtual 1294, 3) := by decide +kernel
theorem dX12_unarySet_24 : decode cX12_unarySet 24 = .ok (.ifCond .eq 34, 3) := by decide +kernel
theorem dX12_unarySet_27 : decode cX12_unarySet 27 = .ok (.aload_n 0, 1) := by decide +kernel
theorem dX12_unarySet_28 : decode cX12_unarySet 28 = .ok (.iload_n 1, 1) := by decide +kernel
theorem dX12_unarySet_29 : decode cX12_unarySet 29 = .ok (.aload_n 0, 1) := by decide +kernel
theorem dX12_unarySet_30 : decode cX12_unarySet 30 = .ok (.iload_n 2, 1) := by decide +kernel
theorem dX12_unarySet_31 : decode cX12_unarySet 31 = .ok (.invokevirtual 1297, 3) := by decide +kernel
theorem dX12_unarySet_34 : decode cX12_unarySet 34 = .ok (.aload_n 0, 1) := by decide +kernel
theorem dX12_unarySet_35 : decode cX12_unarySet 35 = .ok (.iload_n 2, 1) := by decide +kernel
theorem dX12_unarySet_36 : decode cX12_unarySet 36 = .ok (.invokevirtual 1300, 3) := by decide +kernel
theorem dX12_unarySet_39 : decode cX12_unarySet 39 = .ok (.invokevirtual 940, 3) := by decide +kernel
theorem dX12_unarySet_42 : decode cX12_unarySet 42 = .ok (.aload_n 0, 1) := by decide +kernel
theorem dX12_unarySet_43 : decode cX12_unarySet 43 = .ok (.iload_n 3, 1) := by decide +kernel
theorem dX12_unarySet_44 : decode cX12_unarySet 44 = .ok (.aload_n 0, 1) := by decide +kernel
theorem dX12_unarySet_45 : decode cX12_unarySet 45 = .ok (.getfield 788, 3) := by decide +kernel
theorem dX12_unarySet_48 : decode cX12_unarySet 48 = .ok (.aload_n 0, 1) := by decide +kernel
theorem dX12_unarySet_49 : decode cX12_unarySet 49 = .ok (.getfield 791, 3) := by decide +kernel
theorem dX12_unarySet_52 : decode cX12_unarySet 52 = .ok (.invokevirtual 1219, 3) := by decide +kernel
theorem dX12_unarySet_55 : decode cX12_unarySet 55 = .ok (.goto 57, 3) := by decide +kernel
theorem dX12_unarySet_58 : decode cX12_unarySet 58 = .ok (.iload_n 1, 1) := by decide +kernel
theorem dX12_unarySet_59 : decode cX12_unarySet 59 = .ok (.iconst 3, 1) := by decide +kernel
theorem dX12_unarySet_60 : decode cX12_unarySet 60 = .ok (.if_icmp .ge 23, 3) := by decide +kernel
theorem dX12_unarySet_63 : decode cX12_unarySet 63 = .ok (.aload_n 0, 1) := by decide +kernel
theorem dX12_unarySet_64 : decode cX12_unarySet 64 = .ok (.iload_n 3, 1) := by decide +kernel
theorem dX12_unarySet_65 : decode cX12_unarySet 65 = .ok (.iload_n 1, 1) := by decide +kernel
theorem dX12_unarySet_66 : decode cX12_unarySet 66 = .ok (.iconst 2, 1) := by decide +kernel
theorem dX12_unarySet_67 : decode cX12_unarySet 67 = .ok (.if_icmp .ne 8, 3) := by decide +kernel
theorem dX12_unarySet_70 : decode cX12_unarySet 70 = .ok (.bipush 64, 2) := by decide +kernel
theorem dX12_unarySet_72 : decode cX12_unarySet 72 = .ok (.goto 5, 3) := by decide +kernel
theorem dX12_unarySet_75 : decode cX12_unarySet 75 = .ok (.bipush 80, 2) := by decide +kernel
theorem dX12_unarySet_77 : decode cX12_unarySet 77 = .ok (.invokevirtual 1072, 3) := by decide +kernel
theorem dX12_unarySet_80 : decode cX12_unarySet 80 = .ok (.goto 32, 3) := by decide +kernel
theorem dX12_unarySet_83 : decode cX12_unarySet 83 = .ok (.aload_n 0, 1) := by decide +kernel
theorem dX12_unarySet_84 : decode cX12_unarySet 84 = .ok (.iload_n 2, 1) := by decide +kernel
theorem dX12_unarySet_85 : decode cX12_unarySet 85 = .ok (.invokevirtual 1286, 3) := by decide +kernel
theorem dX12_unarySet_88 : decode cX12_unarySet 88 = .ok (.ifCond .eq 9, 3) := by decide +kernel
theorem dX12_unarySet_91 : decode cX12_unarySet 91 = .ok (.aload_n 0, 1) := by decide +kernel
theorem dX12_unarySet_92 : decode cX12_unarySet 92 = .ok (.iload_n 3, 1) := by decide +kernel
theorem dX12_unarySet_93 : decode cX12_unarySet 93 = .ok (.iconst 4, 1) := by decide +kernel
theorem dX12_unarySet_94 : decode cX12_unarySet 94 = .ok (.invokevirtual 1072, 3) := by decide +kernel
theorem dX12_unarySet_97 : decode cX12_unarySet 97 = .ok (.aload_n 0, 1) := by decide +kernel
theorem dX12_unarySet_98 : decode cX12_unarySet 98 = .ok (.iload_n 2, 1) := by decide +kernel
theorem dX12_unarySet_99 : decode cX12_unarySet 99 = .ok (.invokevirtual 1283, 3) := by decide +kernel
theorem dX12_unarySet_102 : decode cX12_unarySet 102 = .ok (.ifCond .eq 10, 3) := by decide +kernel
theorem dX12_unarySet_105 : decode cX12_unarySet 105 = .ok (.aload_n 0, 1) := by decide +kernel
theorem dX12_unarySet_106 : decode cX12_unarySet 106 = .ok (.iload_n 3, 1) := by decide +kernel
theorem dX12_unarySet_107 : decode cX12_unarySet 107 = .ok (.bipush 8, 2) := by decide +kernel
theorem dX12_unarySet_109 : decode cX12_unarySet 109 = .ok (.invokevirtual 1072, 3) := by decide +kernel
theorem dX12_unarySet_112 : decode cX12_unarySet 112 = .ok (.return_, 1) := by decide +kernel
theorem dX12_binarySet_0 : decode cX12_binarySet 0 = .ok (.aload_n 0, 1) := by decide +kernel
theorem dX12_binarySet_1 : decode cX12_binarySet 1 = .ok (.iload 4, 2) := by decide +kernel
theorem dX12_binarySet_3 : decode cX12_binarySet 3 = .ok (.invokevirtual 1066, 3) := by decide +kernel
theorem dX12_binarySet_6 : decode cX12_binarySet 6 = .ok (.aload_n 0, 1) := by decide +kernel
theorem dX12_binarySet_7 : decode cX12_binarySet 7 = .ok (.iload_n 2, 1) := by decide +kernel
theorem dX12_binarySet_8 : decode cX12_binarySet 8 = .ok (.invokevirtual 1294, 3) := by decide +kernel
theorem dX12_binarySet_11 : decode cX12_binarySet 11 = .ok (.ifCond .eq 108, 3) := by decide +kernel
theorem dX12_binarySet_14 : decode cX12_binarySet 14 = .ok (.aload_n 0, 1) := by decide +kernel
theorem dX12_binarySet_15 : decode cX12_binarySet 15 = .ok (.iload_n 3, 1) := by decide +kernel
theorem dX12_binarySet_16 : decode cX12_binarySet 16 = .ok (.invokevirtual 1294, 3) := by decide +kernel
theorem dX12_binarySet_19 : decode cX12_binarySet 19 = .ok (.ifCond .eq 100, 3) := by decide +kernel
theorem dX12_binarySet_22 : decode cX12_binarySet 22 = .ok (.aload_n 0, 1) := by decide +kernel
theorem dX12_binarySet_23 : decode cX12_binarySet 23 = .ok (.iload_n 2, 1) := by decide +kernel
theorem dX12_binarySet_24 : decode cX12_binarySet 24 = .ok (.invokevirtual 1297, 3) := by decide +kernel
theorem dX12_binarySet_27 : decode cX12_binarySet 27 = .ok (.istore 5, 2) := by decide +kernel
theorem dX12_binarySet_29 : decode cX12_binarySet 29 = .ok (.aload_n 0, 1) := by decide +kernel
theorem dX12_binarySet_30 : decode cX12_binarySet 30 = .ok (.iload_n 3, 1) := by decide +kernel
theorem dX12_binarySet_31 : decode cX12_binarySet 31 = .ok (.invokevirtual 1297, 3) := by decide +kernel
theorem dX12_binarySet_34 : decode cX12_binarySet 34 = .ok (.istore 6, 2) := by decide +kernel
theorem dX12_binarySet_36 : decode cX12_binarySet 36 = .ok (.aload_n 0, 1) := by decide +kernel
theorem dX12_binarySet_37 : decode cX12_binarySet 37 = .ok (.iload_n 1, 1) := by decide +kernel
theorem dX12_binarySet_38 : decode cX12_binarySet 38 = .ok (.iload 5, 2) := by decide +kernel
theorem dX12_binarySet_40 : decode cX12_binarySet 40 = .ok (.aload_n 0, 1) := by decide +kernel
theorem dX12_binarySet_41 : decode cX12_binarySet 41 = .ok (.iload_n 2, 1) := by decide +kernel
theorem dX12_binarySet_42 : decode cX12_binarySet 42 = .ok (.invokevirtual 1300, 3) := by decide +kernel
theorem dX12_binarySet_45 : decode cX12_binarySet 45 = .ok (.iload 6, 2) := by decide +kernel
theorem dX12_binarySet_47 : decode cX12_binarySet 47 = .ok (.aload_n 0, 1) := by decide +kernel
theorem dX12_binarySet_48 : decode cX12_binarySet 48 = .ok (.iload_n 3, 1) := by decide +kernel
theorem dX12_binarySet_49 : decode cX12_binarySet 49 = .ok (.invokevirtual 1300, 3) := by decide +kernel
theorem dX12_binarySet_52 : decode cX12_binarySet 52 = .ok (.invokevirtual 990, 3) := by decide +kernel
theorem dX12_binarySet_55 : decode cX12_binarySet 55 = .ok (.aload_n 0, 1) := by decide +kernel
theorem dX12_binarySet_56 : decode cX12_binarySet 56 = .ok (.iload_n 1, 1) := by decide +kernel
theorem dX12_binarySet_57 : decode cX12_binarySet 57 = .ok (.iload 5, 2) := by decide +kernel
theorem dX12_binarySet_59 : decode cX12_binarySet 59 = .ok (.iload 6, 2) := by decide +kernel
theorem dX12_binarySet_61 : decode cX12_binarySet 61 = .ok (.invokevirtual 830, 3) := by decide +kernel
theorem dX12_binarySet_64 : decode cX12_binarySet 64 = .ok (.ifCond .eq 38, 3) := by decide +kernel
theorem dX12_binarySet_67 : decode cX12_binarySet 67 = .ok (.aload_n 0, 1) := by decide +kernel
theorem dX12_binarySet_68 : decode cX12_binarySet 68 = .ok (.aload_n 0, 1) := by decide +kernel
theorem dX12_binarySet_69 : decode cX12_binarySet 69 = .ok (.getfield 299, 3) := by decide +kernel
theorem dX12_binarySet_72 : decode cX12_binarySet 72 = .ok (.bipush 60, 2) := by decide +kernel
theorem dX12_binarySet_74 : decode cX12_binarySet 74 = .ok (.if_icmp .le 8, 3) := by decide +kernel
theorem dX12_binarySet_77 : decode cX12_binarySet 77 = .ok (.bipush 60, 2) := by decide +kernel
theorem dX12_binarySet_79 : decode cX12_binarySet 79 = .ok (.goto 7, 3) := by decide +kernel
theorem dX12_binarySet_82 : decode cX12_binarySet 82 = .ok (.aload_n 0, 1) := by decide +kernel
theorem dX12_binarySet_83 : decode cX12_binarySet 83 = .ok (.getfield 299, 3) := by decide +kernel
theorem dX12_binarySet_86 : decode cX12_binarySet 86 = .ok (.putfield 299, 3) := by decide +kernel
theorem dX12_binarySet_89 : decode cX12_binarySet 89 = .ok (.aload_n 0, 1) := by decide +kernel
theorem dX12_binarySet_90 : decode cX12_binarySet 90 = .ok (.iload 4, 2) := by decide +kernel
theorem dX12_binarySet_92 : decode cX12_binarySet 92 = .ok (.aload_n 0, 1) := by decide +kernel
theorem dX12_binarySet_93 : decode cX12_binarySet 93 = .ok (.invokevirtual 1144, 3) := by decide +kernel
theorem dX12_binarySet_96 : decode cX12_binarySet 96 = .ok (.invokevirtual 1078, 3) := by decide +kernel
theorem dX12_binarySet_99 : decode cX12_binarySet 99 = .ok (.goto 17, 3) := by decide +kernel
theorem dX12_binarySet_102 : decode cX12_binarySet 102 = .ok (.aload_n 0, 1) := by decide +kernel
theorem dX12_binarySet_103 : decode cX12_binarySet 103 = .ok (.iload 4, 2) := by decide +kernel
theorem dX12_binarySet_105 : decode cX12_binarySet 105 = .ok (.aload_n 0, 1) := by decide +kernel
theorem dX12_binarySet_106 : decode cX12_binarySet 106 = .ok (.getfield 788, 3) := by decide +kernel
theorem dX12_binarySet_109 : decode cX12_binarySet 109 = .ok (.aload_n 0, 1) := by decide +kernel
theorem dX12_binarySet_110 : decode cX12_binarySet 110 = .ok (.getfield 791, 3) := by decide +kernel
theorem dX12_binarySet_113 : decode cX12_binarySet 113 = .ok (.invokevirtual 1219, 3) := by decide +kernel
theorem dX12_binarySet_116 : decode cX12_binarySet 116 = .ok (.goto 118, 3) := by decide +kernel
theorem dX12_binarySet_119 : decode cX12_binarySet 119 = .ok (.iload_n 1, 1) := by decide +kernel
theorem dX12_binarySet_120 : decode cX12_binarySet 120 = .ok (.ifCond .ne 85, 3) := by decide +kernel
theorem dX12_binarySet_123 : decode cX12_binarySet 123 = .ok (.sipush 384, 3) := by decide +kernel
theorem dX12_binarySet_126 : decode cX12_binarySet 126 = .ok (.istore 5, 2) := by decide +kernel
theorem dX12_binarySet_128 : decode cX12_binarySet 128 = .ok (.aload_n 0, 1) := by decide +kernel
theorem dX12_binarySet_129 : decode cX12_binarySet 129 = .ok (.iload_n 2, 1) := by decide +kernel
theorem dX12_binarySet_130 : decode cX12_binarySet 130 = .ok (.invokevirtual 1047, 3) := by decide +kernel
theorem dX12_binarySet_133 : decode cX12_binarySet 133 = .ok (.aload_n 0, 1) := by decide +kernel
theorem dX12_binarySet_134 : decode cX12_binarySet 134 = .ok (.iload_n 3, 1) := by decide +kernel
theorem dX12_binarySet_135 : decode cX12_binarySet 135 = .ok (.invokevirtual 1047, 3) := by decide +kernel
theorem dX12_binarySet_138 : decode cX12_binarySet 138 = .ok (.ior, 1) := by decide +kernel
theorem dX12_binarySet_139 : decode cX12_binarySet 139 = .ok (.iload 5, 2) := by decide +kernel
theorem dX12_binarySet_141 : decode cX12_binarySet 141 = .ok (.iand, 1) := by decide +kernel
theorem dX12_binarySet_142 : decode cX12_binarySet 142 = .ok (.ifCond .ne 19, 3) := by decide +kernel
theorem dX12_binarySet_145 : decode cX12_binarySet 145 = .ok (.aload_n 0, 1) := by decide +kernel
theorem dX12_binarySet_146 : decode cX12_binarySet 146 = .ok (.iload_n 2, 1) := by decide +kernel
theorem dX12_binarySet_147 : decode cX12_binarySet 147 = .ok (.invokevirtual 1062, 3) := by decide +kernel
theorem dX12_binarySet_150 : decode cX12_binarySet 150 = .ok (.ifCond .ne 11, 3) := by decide +kernel
theorem dX12_binarySet_153 : decode cX12_binarySet 153 = .ok (.aload_n 0, 1) := by decide +kernel
theorem dX12_binarySet_154 : decode cX12_binarySet 154 = .ok (.iload_n 3, 1) := by decide +kernel
theorem dX12_binarySet_155 : decode cX12_binarySet 155 = .ok (.invokevirtual 1062, 3) := by decide +kernel
theorem dX12_binarySet_158 : decode cX12_binarySet 158 = .ok (.ifCond .eq 10, 3) := by decide +kernel
theorem dX12_binarySet_161 : decode cX12_binarySet 161 = .ok (.aload_n 0, 1) := by decide +kernel
theorem dX12_binarySet_162 : decode cX12_binarySet 162 = .ok (.iload 4, 2) := by decide +kernel
theorem dX12_binarySet_164 : decode cX12_binarySet 164 = .ok (.iconst (-1), 1) := by decide +kernel
theorem dX12_binarySet_165 : decode cX12_binarySet 165 = .ok (.invokevirtual 1078, 3) := by decide +kernel
theorem dX12_binarySet_168 : decode cX12_binarySet 168 = .ok (.aload_n 0, 1) := by decide +kernel
theorem dX12_binarySet_169 : decode cX12_binarySet 169 = .ok (.iload_n 2, 1) := by decide +kernel
theorem dX12_binarySet_170 : decode cX12_binarySet 170 = .ok (.invokevirtual 1059, 3) := by decide +kernel
theorem dX12_binarySet_173 : decode cX12_binarySet 173 = .ok (.iload 5, 2) := by decide +kernel
theorem dX12_binarySet_175 : decode cX12_binarySet 175 = .ok (.iconst (-1), 1) := by decide +kernel
theorem dX12_binarySet_176 : decode cX12_binarySet 176 = .ok (.ixor, 1) := by decide +kernel
theorem dX12_binarySet_177 : decode cX12_binarySet 177 = .ok (.iand, 1) := by decide +kernel
theorem dX12_binarySet_178 : decode cX12_binarySet 178 = .ok (.ifCond .eq 24, 3) := by decide +kernel
theorem dX12_binarySet_181 : decode cX12_binarySet 181 = .ok (.aload_n 0, 1) := by decide +kernel
theorem dX12_binarySet_182 : decode cX12_binarySet 182 = .ok (.iload_n 3, 1) := by decide +kernel
theorem dX12_binarySet_183 : decode cX12_binarySet 183 = .ok (.invokevirtual 1059, 3) := by decide +kernel
theorem dX12_binarySet_186 : decode cX12_binarySet 186 = .ok (.iload 5, 2) := by decide +kernel
theorem dX12_binarySet_188 : decode cX12_binarySet 188 = .ok (.iconst (-1), 1) := by decide +kernel
theorem dX12_binarySet_189 : decode cX12_binarySet 189 = .ok (.ixor, 1) := by decide +kernel
theorem dX12_binarySet_190 : decode cX12_binarySet 190 = .ok (.iand, 1) := by decide +kernel
theorem dX12_binarySet_191 : decode cX12_binarySet 191 = .ok (.ifCond .eq 11, 3) := by decide +kernel
theorem dX12_binarySet_194 : decode cX12_binarySet 194 = .ok (.aload_n 0, 1) := by decide +kernel
theorem dX12_binarySet_195 : decode cX12_binarySet 195 = .ok (.iload 4, 2) := by decide +kernel
theorem dX12_binarySet_197 : decode cX12_binarySet 197 = .ok (.bipush 80, 2) := by decide +kernel
theorem dX12_binarySet_199 : decode cX12_binarySet 199 = .ok (.invokevirtual 1072, 3) := by decide +kernel
theorem dX12_binarySet_202 : decode cX12_binarySet 202 = .ok (.goto 32, 3) := by decide +kernel
theorem dX12_binarySet_205 : decode cX12_binarySet 205 = .ok (.aload_n 0, 1) := by decide +kernel
theorem dX12_binarySet_206 : decode cX12_binarySet 206 = .ok (.iload 4, 2) := by decide +kernel
theorem dX12_binarySet_208 : decode cX12_binarySet 208 = .ok (.iload_n 1, 1) := by decide +kernel
theorem dX12_binarySet_209 : decode cX12_binarySet 209 = .ok (.iconst 5, 1) := by decide +kernel
theorem dX12_binarySet_210 : decode cX12_binarySet 210 = .ok (.if_icmp .ge 8, 3) := by decide +kernel
theorem dX12_binarySet_213 : decode cX12_binarySet 213 = .ok (.bipush 80, 2) := by decide +kernel
theorem dX12_binarySet_215 : decode cX12_binarySet 215 = .ok (.goto 16, 3) := by decide +kernel
theorem dX12_binarySet_218 : decode cX12_binarySet 218 = .ok (.iload_n 1, 1) := by decide +kernel
theorem dX12_binarySet_219 : decode cX12_binarySet 219 = .ok (.bipush 11, 2) := by decide +kernel
theorem dX12_binarySet_221 : decode cX12_binarySet 221 = .ok (.if_icmp .ge 8, 3) := by decide +kernel
theorem dX12_binarySet_224 : decode cX12_binarySet 224 = .ok (.bipush 64, 2) := by decide +kernel
theorem dX12_binarySet_226 : decode cX12_binarySet 226 = .ok (.goto 5, 3) := by decide +kernel
theorem dX12_binarySet_229 : decode cX12_binarySet 229 = .ok (.bipush 12, 2) := by decide +kernel
theorem dX12_binarySet_231 : decode cX12_binarySet 231 = .ok (.invokevirtual 1072, 3) := by decide +kernel
theorem dX12_binarySet_234 : decode cX12_binarySet 234 = .ok (.return_, 1) := by decide +kernel
theorem dX12_getOfString_0 : decode cX12_getOfString 0 = .ok (.aload_n 0, 1) := by decide +kernel
theorem dX12_getOfString_1 : decode cX12_getOfString 1 = .ok (.iconst 0, 1) := by decide +kernel
theorem dX12_getOfString_2 : decode cX12_getOfString 2 = .ok (.invokevirtual 1153, 3) := by decide +kernel
theorem dX12_getOfString_5 : decode cX12_getOfString 5 = .ok (.ifCond .eq 36, 3) := by decide +kernel
theorem dX12_getOfString_8 : decode cX12_getOfString 8 = .ok (.aload_n 0, 1) := by decide +kernel
theorem dX12_getOfString_9 : decode cX12_getOfString 9 = .ok (.iload_n 1, 1) := by decide +kernel
theorem dX12_getOfString_10 : decode cX12_getOfString 10 = .ok (.invokevirtual 1294, 3) := by decide +kernel
theorem dX12_getOfString_13 : decode cX12_getOfString 13 = .ok (.ifCond .eq 21, 3) := by decide +kernel
theorem dX12_getOfString_16 : decode cX12_getOfString 16 = .ok (.aload_n 0, 1) := by decide +kernel
theorem dX12_getOfString_17 : decode cX12_getOfString 17 = .ok (.iload_n 2, 1) := by decide +kernel
theorem dX12_getOfString_18 : decode cX12_getOfString 18 = .ok (.aload_n 0, 1) := by decide +kernel
theorem dX12_getOfString_19 : decode cX12_getOfString 19 = .ok (.getfield 20, 3) := by decide +kernel
theorem dX12_getOfString_22 : decode cX12_getOfString 22 = .ok (.aload_n 0, 1) := by decide +kernel
theorem dX12_getOfString_23 : decode cX12_getOfString 23 = .ok (.iload_n 1, 1) := by decide +kernel
theorem dX12_getOfString_24 : decode cX12_getOfString 24 = .ok (.invokevirtual 1053, 3) := by decide +kernel
theorem dX12_getOfString_27 : decode cX12_getOfString 27 = .ok (.iaload, 1) := by decide +kernel
theorem dX12_getOfString_28 : decode cX12_getOfString 28 = .ok (.invokevirtual 1075, 3) := by decide +kernel
theorem dX12_getOfString_31 : decode cX12_getOfString 31 = .ok (.goto 10, 3) := by decide +kernel
theorem dX12_getOfString_34 : decode cX12_getOfString 34 = .ok (.aload_n 0, 1) := by decide +kernel
theorem dX12_getOfString_35 : decode cX12_getOfString 35 = .ok (.iload_n 2, 1) := by decide +kernel
theorem dX12_getOfString_36 : decode cX12_getOfString 36 = .ok (.bipush 64, 2) := by decide +kernel
theorem dX12_getOfString_38 : decode cX12_getOfString 38 = .ok (.invokevirtual 1072, 3) := by decide +kernel
theorem dX12_getOfString_41 : decode cX12_getOfString 41 = .ok (.aload_n 0, 1) := by decide +kernel
theorem dX12_getOfString_42 : decode cX12_getOfString 42 = .ok (.aload_n 0, 1) := by decide +kernel
theorem dX12_getOfString_43 : decode cX12_getOfString 43 = .ok (.getfield 1118, 3) := by decide +kernel
theorem dX12_getOfString_46 : decode cX12_getOfString 46 = .ok (.ldc2_w 1310, 3) := by decide +kernel
theorem dX12_getOfString_49 : decode cX12_getOfString 49 = .ok (.land, 1) := by decide +kernel
theorem dX12_getOfString_50 : decode cX12_getOfString 50 = .ok (.putfield 1118, 3) := by decide +kernel
theorem dX12_getOfString_53 : decode cX12_getOfString 53 = .ok (.aload_n 0, 1) := by decide +kernel
theorem dX12_getOfString_54 : decode cX12_getOfString 54 = .ok (.ldc2_w 1312, 3) := by decide +kernel
theorem dX12_getOfString_57 : decode cX12_getOfString 57 = .ok (.lconst 0, 1) := by decide +kernel
theorem dX12_getOfString_58 : decode cX12_getOfString 58 = .ok (.iload_n 2, 1) := by decide +kernel
theorem dX12_getOfString_59 : decode cX12_getOfString 59 = .ok (.iconst 1, 1) := by decide +kernel
theorem dX12_getOfString_60 : decode cX12_getOfString 60 = .ok (.iadd, 1) := by decide +kernel
theorem dX12_getOfString_61 : decode cX12_getOfString 61 = .ok (.invokevirtual 1306, 3) := by decide +kernel
theorem dX12_getOfString_64 : decode cX12_getOfString 64 = .ok (.aload_n 0, 1) := by decide +kernel
theorem dX12_getOfString_65 : decode cX12_getOfString 65 = .ok (.iload_n 2, 1) := by decide +kernel
theorem dX12_getOfString_66 : decode cX12_getOfString 66 = .ok (.iconst 1, 1) := by decide +kernel
theorem dX12_getOfString_67 : decode cX12_getOfString 67 = .ok (.iadd, 1) := by decide +kernel
theorem dX12_getOfString_68 : decode cX12_getOfString 68 = .ok (.iload_n 2, 1) := by decide +kernel
theorem dX12_getOfString_69 : decode cX12_getOfString 69 = .ok (.invokevirtual 1069, 3) := by decide +kernel
theorem dX12_getOfString_72 : decode cX12_getOfString 72 = .ok (.istore_n 3, 1) := by decide +kernel
theorem dX12_getOfString_73 : decode cX12_getOfString 73 = .ok (.aload_n 0, 1) := by decide +kernel
theorem dX12_getOfString_74 : decode cX12_getOfString 74 = .ok (.getfield 1156, 3) := by decide +kernel
theorem dX12_getOfString_77 : decode cX12_getOfString 77 = .ok (.ifCond .eq 9, 3) := by decide +kernel
theorem dX12_getOfString_80 : decode cX12_getOfString 80 = .ok (.aload_n 0, 1) := by decide +kernel
theorem dX12_getOfString_81 : decode cX12_getOfString 81 = .ok (.iload_n 2, 1) := by decide +kernel
theorem dX12_getOfString_82 : decode cX12_getOfString 82 = .ok (.iconst 1, 1) := by decide +kernel
theorem dX12_getOfString_83 : decode cX12_getOfString 83 = .ok (.invokevirtual 1072, 3) := by decide +kernel
theorem dX12_getOfString_86 : decode cX12_getOfString 86 = .ok (.return_, 1) := by decide +kernel
theorem dX12_isMadeBySet_0 : decode cX12_isMadeBySet 0 = .ok (.lconst 0, 1) := by decide +kernel
theorem dX12_isMadeBySet_1 : decode cX12_isMadeBySet 1 = .ok (.lstore 4, 2) := by decide +kernel
theorem dX12_isMadeBySet_3 : decode cX12_isMadeBySet 3 = .ok (.lconst 0, 1) := by decide +kernel
theorem dX12_isMadeBySet_4 : decode cX12_isMadeBySet 4 = .ok (.lstore 6, 2) := by decide +kernel
theorem dX12_isMadeBySet_6 : decode cX12_isMadeBySet 6 = .ok (.aload_n 0, 1) := by decide +kernel
theorem dX12_isMadeBySet_7 : decode cX12_isMadeBySet 7 = .ok (.iload_n 2, 1) := by decide +kernel
theorem dX12_isMadeBySet_8 : decode cX12_isMadeBySet 8 = .ok (.invokevirtual 1059, 3) := by decide +kernel
theorem dX12_isMadeBySet_11 : decode cX12_isMadeBySet 11 = .ok (.ifCond .eq 7, 3) := by decide +kernel
theorem dX12_isMadeBySet_14 : decode cX12_isMadeBySet 14 = .ok (.iconst 1, 1) := by decide +kernel
theorem dX12_isMadeBySet_15 : decode cX12_isMadeBySet 15 = .ok (.goto 4, 3) := by decide +kernel
theorem dX12_isMadeBySet_18 : decode cX12_isMadeBySet 18 = .ok (.iconst 0, 1) := by decide +kernel
theorem dX12_isMadeBySet_19 : decode cX12_isMadeBySet 19 = .ok (.istore 8, 2) := by decide +kernel
theorem dX12_isMadeBySet_21 : decode cX12_isMadeBySet 21 = .ok (.iconst 0, 1) := by decide +kernel
theorem dX12_isMadeBySet_22 : decode cX12_isMadeBySet 22 = .ok (.istore 9, 2) := by decide +kernel
theorem dX12_isMadeBySet_24 : decode cX12_isMadeBySet 24 = .ok (.iload 9, 2) := by decide +kernel
theorem dX12_isMadeBySet_26 : decode cX12_isMadeBySet 26 = .ok (.aload_n 0, 1) := by decide +kernel
theorem dX12_isMadeBySet_27 : decode cX12_isMadeBySet 27 = .ok (.getfield 765, 3) := by decide +kernel
theorem dX12_isMadeBySet_30 : decode cX12_isMadeBySet 30 = .ok (.if_icmp .ge 96, 3) := by decide +kernel
theorem dX12_isMadeBySet_33 : decode cX12_isMadeBySet 33 = .ok (.aload_n 0, 1) := by decide +kernel
theorem dX12_isMadeBySet_34 : decode cX12_isMadeBySet 34 = .ok (.getfield 220, 3) := by decide +kernel
theorem dX12_isMadeBySet_37 : decode cX12_isMadeBySet 37 = .ok (.iload_n 2, 1) := by decide +kernel
theorem dX12_isMadeBySet_38 : decode cX12_isMadeBySet 38 = .ok (.laload, 1) := by decide +kernel
theorem dX12_isMadeBySet_39 : decode cX12_isMadeBySet 39 = .ok (.aload_n 0, 1) := by decide +kernel
theorem dX12_isMadeBySet_40 : decode cX12_isMadeBySet 40 = .ok (.getfield 223, 3) := by decide +kernel
theorem dX12_isMadeBySet_43 : decode cX12_isMadeBySet 43 = .ok (.iload_n 2, 1) := by decide +kernel
theorem dX12_isMadeBySet_44 : decode cX12_isMadeBySet 44 = .ok (.laload, 1) := by decide +kernel
theorem dX12_isMadeBySet_45 : decode cX12_isMadeBySet 45 = .ok (.iload 9, 2) := by decide +kernel
theorem dX12_isMadeBySet_47 : decode cX12_isMadeBySet 47 = .ok (.invokestatic 1125, 3) := by decide +kernel
theorem dX12_isMadeBySet_50 : decode cX12_isMadeBySet 50 = .ok (.ifCond .ne 6, 3) := by decide +kernel
theorem dX12_isMadeBySet_53 : decode cX12_isMadeBySet 53 = .ok (.goto 67, 3) := by decide +kernel
theorem dX12_isMadeBySet_56 : decode cX12_isMadeBySet 56 = .ok (.iload 8, 2) := by decide +kernel
theorem dX12_isMadeBySet_58 : decode cX12_isMadeBySet 58 = .ok (.ifCond .ne 12, 3) := by decide +kernel
theorem dX12_isMadeBySet_61 : decode cX12_isMadeBySet 61 = .ok (.aload_n 0, 1) := by decide +kernel
theorem dX12_isMadeBySet_62 : decode cX12_isMadeBySet 62 = .ok (.iload 9, 2) := by decide +kernel
theorem dX12_isMadeBySet_64 : decode cX12_isMadeBySet 64 = .ok (.invokevirtual 1115, 3) := by decide +kernel
theorem dX12_isMadeBySet_67 : decode cX12_isMadeBySet 67 = .ok (.ifCond .ne 7, 3) := by decide +kernel
theorem dX12_isMadeBySet_70 : decode cX12_isMadeBySet 70 = .ok (.iconst 1, 1) := by decide +kernel
theorem dX12_isMadeBySet_71 : decode cX12_isMadeBySet 71 = .ok (.goto 4, 3) := by decide +kernel
theorem dX12_isMadeBySet_74 : decode cX12_isMadeBySet 74 = .ok (.iconst 0, 1) := by decide +kernel
theorem dX12_isMadeBySet_75 : decode cX12_isMadeBySet 75 = .ok (.istore 8, 2) := by decide +kernel
theorem dX12_isMadeBySet_77 : decode cX12_isMadeBySet 77 = .ok (.aload_n 0, 1) := by decide +kernel
theorem dX12_isMadeBySet_78 : decode cX12_isMadeBySet 78 = .ok (.iload 9, 2) := by decide +kernel
theorem dX12_isMadeBySet_80 : decode cX12_isMadeBySet 80 = .ok (.invokevirtual 1115, 3) := by decide +kernel
theorem dX12_isMadeBySet_83 : decode cX12_isMadeBySet 83 = .ok (.ifCond .ne 6, 3) := by decide +kernel
theorem dX12_isMadeBySet_86 : decode cX12_isMadeBySet 86 = .ok (.goto 34, 3) := by decide +kernel
theorem dX12_isMadeBySet_89 : decode cX12_isMadeBySet 89 = .ok (.iload 9, 2) := by decide +kernel
theorem dX12_isMadeBySet_91 : decode cX12_isMadeBySet 91 = .ok (.bipush 64, 2) := by decide +kernel
theorem dX12_isMadeBySet_93 : decode cX12_isMadeBySet 93 = .ok (.if_icmp .ge 15, 3) := by decide +kernel
theorem dX12_isMadeBySet_96 : decode cX12_isMadeBySet 96 = .ok (.lload 4, 2) := by decide +kernel
theorem dX12_isMadeBySet_98 : decode cX12_isMadeBySet 98 = .ok (.lconst 1, 1) := by decide +kernel
theorem dX12_isMadeBySet_99 : decode cX12_isMadeBySet 99 = .ok (.iload 9, 2) := by decide +kernel
theorem dX12_isMadeBySet_101 : decode cX12_isMadeBySet 101 = .ok (.lshl, 1) := by decide +kernel
theorem dX12_isMadeBySet_102 : decode cX12_isMadeBySet 102 = .ok (.lor, 1) := by decide +kernel
theorem dX12_isMadeBySet_103 : decode cX12_isMadeBySet 103 = .ok (.lstore 4, 2) := by decide +kernel
theorem dX12_isMadeBySet_105 : decode cX12_isMadeBySet 105 = .ok (.goto 15, 3) := by decide +kernel
theorem dX12_isMadeBySet_108 : decode cX12_isMadeBySet 108 = .ok (.lload 6, 2) := by decide +kernel
theorem dX12_isMadeBySet_110 : decode cX12_isMadeBySet 110 = .ok (.lconst 1, 1) := by decide +kernel
theorem dX12_isMadeBySet_111 : decode cX12_isMadeBySet 111 = .ok (.iload 9, 2) := by decide +kernel
theorem dX12_isMadeBySet_113 : decode cX12_isMadeBySet 113 = .ok (.bipush 64, 2) := by decide +kernel
theorem dX12_isMadeBySet_115 : decode cX12_isMadeBySet 115 = .ok (.isub, 1) := by decide +kernel
theorem dX12_isMadeBySet_116 : decode cX12_isMadeBySet 116 = .ok (.lshl, 1) := by decide +kernel
theorem dX12_isMadeBySet_117 : decode cX12_isMadeBySet 117 = .ok (.lor, 1) := by decide +kernel
theorem dX12_isMadeBySet_118 : decode cX12_isMadeBySet 118 = .ok (.lstore 6, 2) := by decide +kernel
theorem dX12_isMadeBySet_120 : decode cX12_isMadeBySet 120 = .ok (.iinc 9 1, 3) := by decide +kernel
theorem dX12_isMadeBySet_123 : decode cX12_isMadeBySet 123 = .ok (.goto (-99), 3) := by decide +kernel
theorem dX12_isMadeBySet_126 : decode cX12_isMadeBySet 126 = .ok (.aload_n 0, 1) := by decide +kernel
theorem dX12_isMadeBySet_127 : decode cX12_isMadeBySet 127 = .ok (.invokevirtual 1135, 3) := by decide +kernel
theorem dX12_isMadeBySet_130 : decode cX12_isMadeBySet 130 = .ok (.aload_n 0, 1) := by decide +kernel
theorem dX12_isMadeBySet_131 : decode cX12_isMadeBySet 131 = .ok (.iconst 1, 1) := by decide +kernel
theorem dX12_isMadeBySet_132 : decode cX12_isMadeBySet 132 = .ok (.invokevirtual 1138, 3) := by decide +kernel
theorem dX12_isMadeBySet_135 : decode cX12_isMadeBySet 135 = .ok (.aload_n 0, 1) := by decide +kernel
theorem dX12_isMadeBySet_136 : decode cX12_isMadeBySet 136 = .ok (.lload 4, 2) := by decide +kernel
theorem dX12_isMadeBySet_138 : decode cX12_isMadeBySet 138 = .ok (.lload 6, 2) := by decide +kernel
theorem dX12_isMadeBySet_140 : decode cX12_isMadeBySet 140 = .ok (.iload_n 3, 1) := by decide +kernel
theorem dX12_isMadeBySet_141 : decode cX12_isMadeBySet 141 = .ok (.iconst 1, 1) := by decide +kernel
theorem dX12_isMadeBySet_142 : decode cX12_isMadeBySet 142 = .ok (.iadd, 1) := by decide +kernel
theorem dX12_isMadeBySet_143 : decode cX12_isMadeBySet 143 = .ok (.invokevirtual 1306, 3) := by decide +kernel
theorem dX12_isMadeBySet_146 : decode cX12_isMadeBySet 146 = .ok (.aload_n 0, 1) := by decide +kernel
theorem dX12_isMadeBySet_147 : decode cX12_isMadeBySet 147 = .ok (.iload_n 3, 1) := by decide +kernel
theorem dX12_isMadeBySet_148 : decode cX12_isMadeBySet 148 = .ok (.iconst 1, 1) := by decide +kernel
theorem dX12_isMadeBySet_149 : decode cX12_isMadeBySet 149 = .ok (.iadd, 1) := by decide +kernel
theorem dX12_isMadeBySet_150 : decode cX12_isMadeBySet 150 = .ok (.invokevirtual 1062, 3) := by decide +kernel
theorem dX12_isMadeBySet_153 : decode cX12_isMadeBySet 153 = .ok (.ifCond .eq 23, 3) := by decide +kernel
theorem dX12_isMadeBySet_156 : decode cX12_isMadeBySet 156 = .ok (.aload_n 0, 1) := by decide +kernel
theorem dX12_isMadeBySet_157 : decode cX12_isMadeBySet 157 = .ok (.iload_n 3, 1) := by decide +kernel
theorem dX12_isMadeBySet_158 : decode cX12_isMadeBySet 158 = .ok (.aload_n 0, 1) := by decide +kernel
theorem dX12_isMadeBySet_159 : decode cX12_isMadeBySet 159 = .ok (.iload_n 1, 1) := by decide +kernel
theorem dX12_isMadeBySet_160 : decode cX12_isMadeBySet 160 = .ok (.invokevirtual 1062, 3) := by decide +kernel
theorem dX12_isMadeBySet_163 : decode cX12_isMadeBySet 163 = .ok (.ifCond .eq 8, 3) := by decide +kernel
theorem dX12_isMadeBySet_166 : decode cX12_isMadeBySet 166 = .ok (.bipush 12, 2) := by decide +kernel
theorem dX12_isMadeBySet_168 : decode cX12_isMadeBySet 168 = .ok (.goto 5, 3) := by decide +kernel
theorem dX12_isMadeBySet_171 : decode cX12_isMadeBySet 171 = .ok (.bipush 8, 2) := by decide +kernel
theorem dX12_isMadeBySet_173 : decode cX12_isMadeBySet 173 = .ok (.invokevirtual 1072, 3) := by decide +kernel
theorem dX12_isMadeBySet_176 : decode cX12_isMadeBySet 176 = .ok (.iload 8, 2) := by decide +kernel
theorem dX12_isMadeBySet_178 : decode cX12_isMadeBySet 178 = .ok (.ifCond .ne 20, 3) := by decide +kernel
theorem dX12_isMadeBySet_181 : decode cX12_isMadeBySet 181 = .ok (.aload_n 0, 1) := by decide +kernel
theorem dX12_isMadeBySet_182 : decode cX12_isMadeBySet 182 = .ok (.iload_n 3, 1) := by decide +kernel
theorem dX12_isMadeBySet_183 : decode cX12_isMadeBySet 183 = .ok (.iconst 1, 1) := by decide +kernel
theorem dX12_isMadeBySet_184 : decode cX12_isMadeBySet 184 = .ok (.iadd, 1) := by decide +kernel
theorem dX12_isMadeBySet_185 : decode cX12_isMadeBySet 185 = .ok (.invokevirtual 1059, 3) := by decide +kernel
theorem dX12_isMadeBySet_188 : decode cX12_isMadeBySet 188 = .ok (.ifCond .ne 10, 3) := by decide +kernel
theorem dX12_isMadeBySet_191 : decode cX12_isMadeBySet 191 = .ok (.aload_n 0, 1) := by decide +kernel
theorem dX12_isMadeBySet_192 : decode cX12_isMadeBySet 192 = .ok (.getfield 1156, 3) := by decide +kernel
theorem dX12_isMadeBySet_195 : decode cX12_isMadeBySet 195 = .ok (.ifCond .eq 7, 3) := by decide +kernel
theorem dX12_isMadeBySet_198 : decode cX12_isMadeBySet 198 = .ok (.iconst 1, 1) := by decide +kernel
theorem dX12_isMadeBySet_199 : decode cX12_isMadeBySet 199 = .ok (.goto 4, 3) := by decide +kernel
theorem dX12_isMadeBySet_202 : decode cX12_isMadeBySet 202 = .ok (.iconst 0, 1) := by decide +kernel
theorem dX12_isMadeBySet_203 : decode cX12_isMadeBySet 203 = .ok (.ireturn, 1) := by decide +kernel
theorem dX12_isNaNOf_0 : decode cX12_isNaNOf 0 = .ok (.aload_n 0, 1) := by decide +kernel
theorem dX12_isNaNOf_1 : decode cX12_isNaNOf 1 = .ok (.iload_n 1, 1) := by decide +kernel
theorem dX12_isNaNOf_2 : decode cX12_isNaNOf 2 = .ok (.invokevirtual 1294, 3) := by decide +kernel
theorem dX12_isNaNOf_5 : decode cX12_isNaNOf 5 = .ok (.ifCond .ne 11, 3) := by decide +kernel
theorem dX12_isNaNOf_8 : decode cX12_isNaNOf 8 = .ok (.aload_n 0, 1) := by decide +kernel
theorem dX12_isNaNOf_9 : decode cX12_isNaNOf 9 = .ok (.iload_n 2, 1) := by decide +kernel
theorem dX12_isNaNOf_10 : decode cX12_isNaNOf 10 = .ok (.bipush 12, 2) := by decide +kernel
theorem dX12_isNaNOf_12 : decode cX12_isNaNOf 12 = .ok (.invokevirtual 1072, 3) := by decide +kernel
theorem dX12_isNaNOf_15 : decode cX12_isNaNOf 15 = .ok (.return_, 1) := by decide +kernel
theorem dX12_isNaNOf_16 : decode cX12_isNaNOf 16 = .ok (.aload_n 0, 1) := by decide +kernel
theorem dX12_isNaNOf_17 : decode cX12_isNaNOf 17 = .ok (.aload_n 0, 1) := by decide +kernel
theorem dX12_isNaNOf_18 : decode cX12_isNaNOf 18 = .ok (.iload_n 1, 1) := by decide +kernel
theorem dX12_isNaNOf_19 : decode cX12_isNaNOf 19 = .ok (.invokevirtual 1297, 3) := by decide +kernel
theorem dX12_isNaNOf_22 : decode cX12_isNaNOf 22 = .ok (.aload_n 0, 1) := by decide +kernel
theorem dX12_isNaNOf_23 : decode cX12_isNaNOf 23 = .ok (.iload_n 1, 1) := by decide +kernel
theorem dX12_isNaNOf_24 : decode cX12_isNaNOf 24 = .ok (.invokevirtual 1300, 3) := by decide +kernel
theorem dX12_isNaNOf_27 : decode cX12_isNaNOf 27 = .ok (.invokevirtual 816, 3) := by decide +kernel
theorem dX12_isNaNOf_30 : decode cX12_isNaNOf 30 = .ok (.istore_n 3, 1) := by decide +kernel
theorem dX12_isNaNOf_31 : decode cX12_isNaNOf 31 = .ok (.aload_n 0, 1) := by decide +kernel
theorem dX12_isNaNOf_32 : decode cX12_isNaNOf 32 = .ok (.iload_n 2, 1) := by decide +kernel
theorem dX12_isNaNOf_33 : decode cX12_isNaNOf 33 = .ok (.aload_n 0, 1) := by decide +kernel
theorem dX12_isNaNOf_34 : decode cX12_isNaNOf 34 = .ok (.getfield 806, 3) := by decide +kernel
theorem dX12_isNaNOf_37 : decode cX12_isNaNOf 37 = .ok (.ifCond .eq 8, 3) := by decide +kernel
theorem dX12_isNaNOf_40 : decode cX12_isNaNOf 40 = .ok (.bipush 8, 2) := by decide +kernel
theorem dX12_isNaNOf_42 : decode cX12_isNaNOf 42 = .ok (.goto 4, 3) := by decide +kernel
theorem dX12_isNaNOf_45 : decode cX12_isNaNOf 45 = .ok (.iconst 4, 1) := by decide +kernel
theorem dX12_isNaNOf_46 : decode cX12_isNaNOf 46 = .ok (.invokevirtual 1072, 3) := by decide +kernel
theorem dX12_isNaNOf_49 : decode cX12_isNaNOf 49 = .ok (.return_, 1) := by decide +kernel
theorem dX12_rowWays_0 : decode cX12_rowWays 0 = .ok (.aload_n 0, 1) := by decide +kernel
theorem dX12_rowWays_1 : decode cX12_rowWays 1 = .ok (.iload_n 2, 1) := by decide +kernel
theorem dX12_rowWays_2 : decode cX12_rowWays 2 = .ok (.invokevirtual 1059, 3) := by decide +kernel
theorem dX12_rowWays_5 : decode cX12_rowWays 5 = .ok (.ifCond .eq 7, 3) := by decide +kernel
theorem dX12_rowWays_8 : decode cX12_rowWays 8 = .ok (.iconst 1, 1) := by decide +kernel
theorem dX12_rowWays_9 : decode cX12_rowWays 9 = .ok (.goto 4, 3) := by decide +kernel
theorem dX12_rowWays_12 : decode cX12_rowWays 12 = .ok (.iconst 0, 1) := by decide +kernel
theorem dX12_rowWays_13 : decode cX12_rowWays 13 = .ok (.istore 5, 2) := by decide +kernel
theorem dX12_rowWays_15 : decode cX12_rowWays 15 = .ok (.iconst 0, 1) := by decide +kernel
theorem dX12_rowWays_16 : decode cX12_rowWays 16 = .ok (.istore 6, 2) := by decide +kernel
theorem dX12_rowWays_18 : decode cX12_rowWays 18 = .ok (.iload 6, 2) := by decide +kernel
theorem dX12_rowWays_20 : decode cX12_rowWays 20 = .ok (.aload_n 0, 1) := by decide +kernel
theorem dX12_rowWays_21 : decode cX12_rowWays 21 = .ok (.getfield 765, 3) := by decide +kernel
theorem dX12_rowWays_24 : decode cX12_rowWays 24 = .ok (.if_icmp .ge 205, 3) := by decide +kernel
theorem dX12_rowWays_27 : decode cX12_rowWays 27 = .ok (.aload_n 0, 1) := by decide +kernel
theorem dX12_rowWays_28 : decode cX12_rowWays 28 = .ok (.getfield 220, 3) := by decide +kernel
theorem dX12_rowWays_31 : decode cX12_rowWays 31 = .ok (.iload_n 2, 1) := by decide +kernel
theorem dX12_rowWays_32 : decode cX12_rowWays 32 = .ok (.laload, 1) := by decide +kernel
theorem dX12_rowWays_33 : decode cX12_rowWays 33 = .ok (.aload_n 0, 1) := by decide +kernel
theorem dX12_rowWays_34 : decode cX12_rowWays 34 = .ok (.getfield 223, 3) := by decide +kernel
theorem dX12_rowWays_37 : decode cX12_rowWays 37 = .ok (.iload_n 2, 1) := by decide +kernel
theorem dX12_rowWays_38 : decode cX12_rowWays 38 = .ok (.laload, 1) := by decide +kernel
theorem dX12_rowWays_39 : decode cX12_rowWays 39 = .ok (.iload 6, 2) := by decide +kernel
theorem dX12_rowWays_41 : decode cX12_rowWays 41 = .ok (.invokestatic 1125, 3) := by decide +kernel
theorem dX12_rowWays_44 : decode cX12_rowWays 44 = .ok (.ifCond .ne 6, 3) := by decide +kernel
theorem dX12_rowWays_47 : decode cX12_rowWays 47 = .ok (.goto 176, 3) := by decide +kernel
theorem dX12_rowWays_50 : decode cX12_rowWays 50 = .ok (.aload_n 0, 1) := by decide +kernel
theorem dX12_rowWays_51 : decode cX12_rowWays 51 = .ok (.iload 6, 2) := by decide +kernel
theorem dX12_rowWays_53 : decode cX12_rowWays 53 = .ok (.invokevirtual 1169, 3) := by decide +kernel
theorem dX12_rowWays_56 : decode cX12_rowWays 56 = .ok (.ifCond .ne 9, 3) := by decide +kernel
theorem dX12_rowWays_59 : decode cX12_rowWays 59 = .ok (.iconst 1, 1) := by decide +kernel
theorem dX12_rowWays_60 : decode cX12_rowWays 60 = .ok (.istore 5, 2) := by decide +kernel
theorem dX12_rowWays_62 : decode cX12_rowWays 62 = .ok (.goto 161, 3) := by decide +kernel
theorem dX12_rowWays_65 : decode cX12_rowWays 65 = .ok (.aload_n 0, 1) := by decide +kernel
theorem dX12_rowWays_66 : decode cX12_rowWays 66 = .ok (.iload 4, 2) := by decide +kernel
theorem dX12_rowWays_68 : decode cX12_rowWays 68 = .ok (.iload_n 1, 1) := by decide +kernel
theorem dX12_rowWays_69 : decode cX12_rowWays 69 = .ok (.bipush 18, 2) := by decide +kernel
theorem dX12_rowWays_71 : decode cX12_rowWays 71 = .ok (.if_icmp .ne 8, 3) := by decide +kernel
theorem dX12_rowWays_74 : decode cX12_rowWays 74 = .ok (.bipush 64, 2) := by decide +kernel
theorem dX12_rowWays_76 : decode cX12_rowWays 76 = .ok (.goto 4, 3) := by decide +kernel
theorem dX12_rowWays_79 : decode cX12_rowWays 79 = .ok (.iconst 1, 1) := by decide +kernel
theorem dX12_rowWays_80 : decode cX12_rowWays 80 = .ok (.invokevirtual 1072, 3) := by decide +kernel
theorem dX12_rowWays_83 : decode cX12_rowWays 83 = .ok (.aload_n 0, 1) := by decide +kernel
theorem dX12_rowWays_84 : decode cX12_rowWays 84 = .ok (.getfield 256, 3) := by decide +kernel
theorem dX12_rowWays_87 : decode cX12_rowWays 87 = .ok (.aload_n 0, 1) := by decide +kernel
theorem dX12_rowWays_88 : decode cX12_rowWays 88 = .ok (.sipush 639, 3) := by decide +kernel
theorem dX12_rowWays_91 : decode cX12_rowWays 91 = .ok (.iload 6, 2) := by decide +kernel
theorem dX12_rowWays_93 : decode cX12_rowWays 93 = .ok (.invokevirtual 1101, 3) := by decide +kernel
theorem dX12_rowWays_96 : decode cX12_rowWays 96 = .ok (.baload, 1) := by decide +kernel
theorem dX12_rowWays_97 : decode cX12_rowWays 97 = .ok (.ifCond .ne 6, 3) := by decide +kernel
theorem dX12_rowWays_100 : decode cX12_rowWays 100 = .ok (.goto 123, 3) := by decide +kernel
theorem dX12_rowWays_103 : decode cX12_rowWays 103 = .ok (.iconst 0, 1) := by decide +kernel
theorem dX12_rowWays_104 : decode cX12_rowWays 104 = .ok (.istore 7, 2) := by decide +kernel
theorem dX12_rowWays_106 : decode cX12_rowWays 106 = .ok (.iload 7, 2) := by decide +kernel
theorem dX12_rowWays_108 : decode cX12_rowWays 108 = .ok (.aload_n 0, 1) := by decide +kernel
theorem dX12_rowWays_109 : decode cX12_rowWays 109 = .ok (.getfield 762, 3) := by decide +kernel
theorem dX12_rowWays_112 : decode cX12_rowWays 112 = .ok (.if_icmp .gt 95, 3) := by decide +kernel
theorem dX12_rowWays_115 : decode cX12_rowWays 115 = .ok (.iload 7, 2) := by decide +kernel
theorem dX12_rowWays_117 : decode cX12_rowWays 117 = .ok (.aload_n 0, 1) := by decide +kernel
theorem dX12_rowWays_118 : decode cX12_rowWays 118 = .ok (.getfield 762, 3) := by decide +kernel
theorem dX12_rowWays_121 : decode cX12_rowWays 121 = .ok (.if_icmp .ge 32, 3) := by decide +kernel
theorem dX12_rowWays_124 : decode cX12_rowWays 124 = .ok (.aload_n 0, 1) := by decide +kernel
theorem dX12_rowWays_125 : decode cX12_rowWays 125 = .ok (.getfield 277, 3) := by decide +kernel
theorem dX12_rowWays_128 : decode cX12_rowWays 128 = .ok (.iload 7, 2) := by decide +kernel
theorem dX12_rowWays_130 : decode cX12_rowWays 130 = .ok (.baload, 1) := by decide +kernel
theorem dX12_rowWays_131 : decode cX12_rowWays 131 = .ok (.ifCond .ne 22, 3) := by decide +kernel
theorem dX12_rowWays_134 : decode cX12_rowWays 134 = .ok (.iload_n 1, 1) := by decide +kernel
theorem dX12_rowWays_135 : decode cX12_rowWays 135 = .ok (.bipush 18, 2) := by decide +kernel
theorem dX12_rowWays_137 : decode cX12_rowWays 137 = .ok (.if_icmp .ne 64, 3) := by decide +kernel
theorem dX12_rowWays_140 : decode cX12_rowWays 140 = .ok (.aload_n 0, 1) := by decide +kernel
theorem dX12_rowWays_141 : decode cX12_rowWays 141 = .ok (.getfield 280, 3) := by decide +kernel
theorem dX12_rowWays_144 : decode cX12_rowWays 144 = .ok (.iload 7, 2) := by decide +kernel
theorem dX12_rowWays_146 : decode cX12_rowWays 146 = .ok (.baload, 1) := by decide +kernel
theorem dX12_rowWays_147 : decode cX12_rowWays 147 = .ok (.ifCond .ne 6, 3) := by decide +kernel
theorem dX12_rowWays_150 : decode cX12_rowWays 150 = .ok (.goto 51, 3) := by decide +kernel
theorem dX12_rowWays_153 : decode cX12_rowWays 153 = .ok (.aload_n 0, 1) := by decide +kernel
theorem dX12_rowWays_154 : decode cX12_rowWays 154 = .ok (.sipush 639, 3) := by decide +kernel
theorem dX12_rowWays_157 : decode cX12_rowWays 157 = .ok (.iload 6, 2) := by decide +kernel
theorem dX12_rowWays_159 : decode cX12_rowWays 159 = .ok (.iload 7, 2) := by decide +kernel
theorem dX12_rowWays_161 : decode cX12_rowWays 161 = .ok (.invokevirtual 1163, 3) := by decide +kernel
theorem dX12_rowWays_164 : decode cX12_rowWays 164 = .ok (.istore 8, 2) := by decide +kernel
theorem dX12_rowWays_166 : decode cX12_rowWays 166 = .ok (.iload_n 1, 1) := by decide +kernel
theorem dX12_rowWays_167 : decode cX12_rowWays 167 = .ok (.bipush 18, 2) := by decide +kernel
theorem dX12_rowWays_169 : decode cX12_rowWays 169 = .ok (.if_icmp .ne 15, 3) := by decide +kernel
theorem dX12_rowWays_172 : decode cX12_rowWays 172 = .ok (.aload_n 0, 1) := by decide +kernel
theorem dX12_rowWays_173 : decode cX12_rowWays 173 = .ok (.iload_n 3, 1) := by decide +kernel
theorem dX12_rowWays_174 : decode cX12_rowWays 174 = .ok (.iload 8, 2) := by decide +kernel
theorem dX12_rowWays_176 : decode cX12_rowWays 176 = .ok (.invokevirtual 1069, 3) := by decide +kernel
theorem dX12_rowWays_179 : decode cX12_rowWays 179 = .ok (.istore 9, 2) := by decide +kernel
theorem dX12_rowWays_181 : decode cX12_rowWays 181 = .ok (.goto 20, 3) := by decide +kernel
theorem dX12_rowWays_184 : decode cX12_rowWays 184 = .ok (.aload_n 0, 1) := by decide +kernel
theorem dX12_rowWays_185 : decode cX12_rowWays 185 = .ok (.iload 8, 2) := by decide +kernel
theorem dX12_rowWays_187 : decode cX12_rowWays 187 = .ok (.iload 4, 2) := by decide +kernel
theorem dX12_rowWays_189 : decode cX12_rowWays 189 = .ok (.invokevirtual 1228, 3) := by decide +kernel
theorem dX12_rowWays_192 : decode cX12_rowWays 192 = .ok (.aload_n 0, 1) := by decide +kernel
theorem dX12_rowWays_193 : decode cX12_rowWays 193 = .ok (.iload 8, 2) := by decide +kernel
theorem dX12_rowWays_195 : decode cX12_rowWays 195 = .ok (.sipush 512, 3) := by decide +kernel
theorem dX12_rowWays_198 : decode cX12_rowWays 198 = .ok (.invokevirtual 1072, 3) := by decide +kernel
theorem dX12_rowWays_201 : decode cX12_rowWays 201 = .ok (.iinc 7 1, 3) := by decide +kernel
theorem dX12_rowWays_204 : decode cX12_rowWays 204 = .ok (.goto (-98), 3) := by decide +kernel
theorem dX12_rowWays_207 : decode cX12_rowWays 207 = .ok (.aload_n 0, 1) := by decide +kernel
theorem dX12_rowWays_208 : decode cX12_rowWays 208 = .ok (.aload_n 0, 1) := by decide +kernel
theorem dX12_rowWays_209 : decode cX12_rowWays 209 = .ok (.sipush 639, 3) := by decide +kernel
theorem dX12_rowWays_212 : decode cX12_rowWays 212 = .ok (.iload 6, 2) := by decide +kernel
theorem dX12_rowWays_214 : decode cX12_rowWays 214 = .ok (.iconst 0, 1) := by decide +kernel
theorem dX12_rowWays_215 : decode cX12_rowWays 215 = .ok (.invokevirtual 1163, 3) := by decide +kernel
theorem dX12_rowWays_218 : decode cX12_rowWays 218 = .ok (.bipush 64, 2) := by decide +kernel
theorem dX12_rowWays_220 : decode cX12_rowWays 220 = .ok (.invokevirtual 1072, 3) := by decide +kernel
theorem dX12_rowWays_223 : decode cX12_rowWays 223 = .ok (.iinc 6 1, 3) := by decide +kernel
theorem dX12_rowWays_226 : decode cX12_rowWays 226 = .ok (.goto (-208), 3) := by decide +kernel
theorem dX12_rowWays_229 : decode cX12_rowWays 229 = .ok (.iload 5, 2) := by decide +kernel
theorem dX12_rowWays_231 : decode cX12_rowWays 231 = .ok (.ireturn, 1) := by decide +kernel
theorem dX12_ownWays_0 : decode cX12_ownWays 0 = .ok (.aload_n 0, 1) := by decide +kernel
theorem dX12_ownWays_1 : decode cX12_ownWays 1 = .ok (.iload_n 2, 1) := by decide +kernel
theorem dX12_ownWays_2 : decode cX12_ownWays 2 = .ok (.invokevirtual 1147, 3) := by decide +kernel
theorem dX12_ownWays_5 : decode cX12_ownWays 5 = .ok (.iconst 0, 1) := by decide +kernel
theorem dX12_ownWays_6 : decode cX12_ownWays 6 = .ok (.istore 4, 2) := by decide +kernel
theorem dX12_ownWays_8 : decode cX12_ownWays 8 = .ok (.iload 4, 2) := by decide +kernel
theorem dX12_ownWays_10 : decode cX12_ownWays 10 = .ok (.aload_n 0, 1) := by decide +kernel
theorem dX12_ownWays_11 : decode cX12_ownWays 11 = .ok (.getfield 765, 3) := by decide +kernel
theorem dX12_ownWays_14 : decode cX12_ownWays 14 = .ok (.if_icmp .ge 115, 3) := by decide +kernel
theorem dX12_ownWays_17 : decode cX12_ownWays 17 = .ok (.aload_n 0, 1) := by decide +kernel
theorem dX12_ownWays_18 : decode cX12_ownWays 18 = .ok (.getfield 220, 3) := by decide +kernel
theorem dX12_ownWays_21 : decode cX12_ownWays 21 = .ok (.iload_n 1, 1) := by decide +kernel
theorem dX12_ownWays_22 : decode cX12_ownWays 22 = .ok (.laload, 1) := by decide +kernel
theorem dX12_ownWays_23 : decode cX12_ownWays 23 = .ok (.aload_n 0, 1) := by decide +kernel
theorem dX12_ownWays_24 : decode cX12_ownWays 24 = .ok (.getfield 223, 3) := by decide +kernel
theorem dX12_ownWays_27 : decode cX12_ownWays 27 = .ok (.iload_n 1, 1) := by decide +kernel
theorem dX12_ownWays_28 : decode cX12_ownWays 28 = .ok (.laload, 1) := by decide +kernel
theorem dX12_ownWays_29 : decode cX12_ownWays 29 = .ok (.iload 4, 2) := by decide +kernel
theorem dX12_ownWays_31 : decode cX12_ownWays 31 = .ok (.invokestatic 1125, 3) := by decide +kernel
theorem dX12_ownWays_34 : decode cX12_ownWays 34 = .ok (.ifCond .ne 6, 3) := by decide +kernel
theorem dX12_ownWays_37 : decode cX12_ownWays 37 = .ok (.goto 86, 3) := by decide +kernel
theorem dX12_ownWays_40 : decode cX12_ownWays 40 = .ok (.iconst 0, 1) := by decide +kernel
theorem dX12_ownWays_41 : decode cX12_ownWays 41 = .ok (.istore 5, 2) := by decide +kernel
theorem dX12_ownWays_43 : decode cX12_ownWays 43 = .ok (.iload 5, 2) := by decide +kernel
theorem dX12_ownWays_45 : decode cX12_ownWays 45 = .ok (.aload_n 0, 1) := by decide +kernel
theorem dX12_ownWays_46 : decode cX12_ownWays 46 = .ok (.getfield 762, 3) := by decide +kernel
theorem dX12_ownWays_49 : decode cX12_ownWays 49 = .ok (.if_icmp .gt 74, 3) := by decide +kernel
theorem dX12_ownWays_52 : decode cX12_ownWays 52 = .ok (.aload_n 0, 1) := by decide +kernel
theorem dX12_ownWays_53 : decode cX12_ownWays 53 = .ok (.iload 5, 2) := by decide +kernel
theorem dX12_ownWays_55 : decode cX12_ownWays 55 = .ok (.invokevirtual 1153, 3) := by decide +kernel
theorem dX12_ownWays_58 : decode cX12_ownWays 58 = .ok (.ifCond .ne 6, 3) := by decide +kernel
theorem dX12_ownWays_61 : decode cX12_ownWays 61 = .ok (.goto 56, 3) := by decide +kernel
theorem dX12_ownWays_64 : decode cX12_ownWays 64 = .ok (.aload_n 0, 1) := by decide +kernel
theorem dX12_ownWays_65 : decode cX12_ownWays 65 = .ok (.aload_n 0, 1) := by decide +kernel
theorem dX12_ownWays_66 : decode cX12_ownWays 66 = .ok (.sipush 639, 3) := by decide +kernel
theorem dX12_ownWays_69 : decode cX12_ownWays 69 = .ok (.iload 4, 2) := by decide +kernel
theorem dX12_ownWays_71 : decode cX12_ownWays 71 = .ok (.iload 5, 2) := by decide +kernel
theorem dX12_ownWays_73 : decode cX12_ownWays 73 = .ok (.invokevirtual 1163, 3) := by decide +kernel
theorem dX12_ownWays_76 : decode cX12_ownWays 76 = .ok (.invokevirtual 1231, 3) := by decide +kernel
theorem dX12_ownWays_79 : decode cX12_ownWays 79 = .ok (.ifCond .ne 9, 3) := by decide +kernel
theorem dX12_ownWays_82 : decode cX12_ownWays 82 = .ok (.aload_n 0, 1) := by decide +kernel
theorem dX12_ownWays_83 : decode cX12_ownWays 83 = .ok (.iload_n 3, 1) := by decide +kernel
theorem dX12_ownWays_84 : decode cX12_ownWays 84 = .ok (.iconst 4, 1) := by decide +kernel
theorem dX12_ownWays_85 : decode cX12_ownWays 85 = .ok (.invokevirtual 1072, 3) := by decide +kernel
theorem dX12_ownWays_88 : decode cX12_ownWays 88 = .ok (.aload_n 0, 1) := by decide +kernel
theorem dX12_ownWays_89 : decode cX12_ownWays 89 = .ok (.aload_n 0, 1) := by decide +kernel
theorem dX12_ownWays_90 : decode cX12_ownWays 90 = .ok (.sipush 639, 3) := by decide +kernel
theorem dX12_ownWays_93 : decode cX12_ownWays 93 = .ok (.iload 4, 2) := by decide +kernel
theorem dX12_ownWays_95 : decode cX12_ownWays 95 = .ok (.iload 5, 2) := by decide +kernel
theorem dX12_ownWays_97 : decode cX12_ownWays 97 = .ok (.invokevirtual 1163, 3) := by decide +kernel
theorem dX12_ownWays_100 : decode cX12_ownWays 100 = .ok (.invokevirtual 1047, 3) := by decide +kernel
theorem dX12_ownWays_103 : decode cX12_ownWays 103 = .ok (.sipush 512, 3) := by decide +kernel
theorem dX12_ownWays_106 : decode cX12_ownWays 106 = .ok (.iand, 1) := by decide +kernel
theorem dX12_ownWays_107 : decode cX12_ownWays 107 = .ok (.ifCond .eq 10, 3) := by decide +kernel
theorem dX12_ownWays_110 : decode cX12_ownWays 110 = .ok (.aload_n 0, 1) := by decide +kernel
theorem dX12_ownWays_111 : decode cX12_ownWays 111 = .ok (.iload_n 3, 1) := by decide +kernel
theorem dX12_ownWays_112 : decode cX12_ownWays 112 = .ok (.bipush 8, 2) := by decide +kernel
theorem dX12_ownWays_114 : decode cX12_ownWays 114 = .ok (.invokevirtual 1072, 3) := by decide +kernel
theorem dX12_ownWays_117 : decode cX12_ownWays 117 = .ok (.iinc 5 1, 3) := by decide +kernel
theorem dX12_ownWays_120 : decode cX12_ownWays 120 = .ok (.goto (-77), 3) := by decide +kernel
theorem dX12_ownWays_123 : decode cX12_ownWays 123 = .ok (.iinc 4 1, 3) := by decide +kernel
theorem dX12_ownWays_126 : decode cX12_ownWays 126 = .ok (.goto (-118), 3) := by decide +kernel
theorem dX12_ownWays_129 : decode cX12_ownWays 129 = .ok (.aload_n 0, 1) := by decide +kernel
theorem dX12_ownWays_130 : decode cX12_ownWays 130 = .ok (.iload_n 1, 1) := by decide +kernel
theorem dX12_ownWays_131 : decode cX12_ownWays 131 = .ok (.invokevirtual 1059, 3) := by decide +kernel
theorem dX12_ownWays_134 : decode cX12_ownWays 134 = .ok (.ifCond .eq 7, 3) := by decide +kernel
theorem dX12_ownWays_137 : decode cX12_ownWays 137 = .ok (.iconst 1, 1) := by decide +kernel
theorem dX12_ownWays_138 : decode cX12_ownWays 138 = .ok (.goto 4, 3) := by decide +kernel
theorem dX12_ownWays_141 : decode cX12_ownWays 141 = .ok (.iconst 0, 1) := by decide +kernel
theorem dX12_ownWays_142 : decode cX12_ownWays 142 = .ok (.ireturn, 1) := by decide +kernel
theorem dX12_hasField_0 : decode cX12_hasField 0 = .ok (.aload_n 0, 1) := by decide +kernel
theorem dX12_hasField_1 : decode cX12_hasField 1 = .ok (.aload_n 0, 1) := by decide +kernel
theorem dX12_hasField_2 : decode cX12_hasField 2 = .ok (.iload_n 1, 1) := by decide +kernel
theorem dX12_hasField_3 : decode cX12_hasField 3 = .ok (.iload_n 2, 1) := by decide +kernel
theorem dX12_hasField_4 : decode cX12_hasField 4 = .ok (.invokevirtual 1244, 3) := by decide +kernel
theorem dX12_hasField_7 : decode cX12_hasField 7 = .ok (.iload_n 3, 1) := by decide +kernel
theorem dX12_hasField_8 : decode cX12_hasField 8 = .ok (.invokevirtual 1081, 3) := by decide +kernel
theorem dX12_hasField_11 : decode cX12_hasField 11 = .ok (.return_, 1) := by decide +kernel

def q_on (S : sv_S) : Option Value → sv_S → Prop := fun v S' => v = none ∧ sm_ok S' ∧ sv_mod [68, 69, 70, 81, 82, 83, 84, 85, 86, 71, 74, 75, 1127, 78, 79, 80, 72, 76, 77, 1150] S S' ∧ (sm_ST (S' 71) (S' 74) (S' 75) (S' 78) (S' 79) (S' 80) (S' 27) (S' 1100007) (S' 1100023) (S' 1100024) (S' 1046 0) ((S' 1046 0) + 2 * (S' 1032 0)) (S' 1127 0) ∧ 465000 ≤ (S' 1127 0) ∧ (S' 1127 0) + sm_hs (S' 71) (S' 1100007) ≤ 635000 ∧ (S' 75 639) = 647340 ∧ (S' 74 639) = (S 74 639) ∧ (S' 78 639) = (S 78 639) ∧ sm_TC (S' 79) (S' 80) (S' 27) (S' 1100007) (S' 1100023) (S' 1100024) 25560 (S' 1100031 0) ∧ (∀ k : Int, (S 71 k) = 1 → (S' 71 k) = 1) ∧ sm_DR (S' 72) (S' 71) (S' 1046 0) ∧ (641 * (sm_cm (S' 71) + sm_pt (S' 68) (S' 69) (S' 70) + sm_pl (S' 81) (S' 82) (S' 83) (S' 84) (S' 85) (S' 86) + sm_ps (S' 76) (S' 77)) + sm_du (S' 72)) ≤ (641 * (sm_cm (S 71) + sm_pt (S 68) (S 69) (S 70) + sm_pl (S 81) (S 82) (S 83) (S 84) (S 85) (S 86) + sm_ps (S 76) (S 77)) + sm_du (S 72)))
theorem la_on_0 {x0 x1 x2 : Int} (h0 : 1 ≤ x0) (h1 : x1 + 2 * x0 ≤ 500) (h2 : 0 ≤ x2) (h3 : x2 + 1 < x1) : sv_R (x2 + 1) := by omega
theorem la_on_1 {x0 x1 x2 x3 x4 x5 x6 : Int} (h0 : 1 ≤ x0) (h1 : 0 ≤ x1) (h2 : x1 + 1 < x2) (h3 : x3 = x4) (h4 : x5 = x6) : 0 ≤ x1 + 1 ∧ x1 + 1 < x2 + 2 * x0 ∧ x3 = x4 ∧ (x1 + 1 < x2 → x5 = x6) := by omega
set_option maxHeartbeats 2000000 in
theorem f_on : ∀ (S : sv_S), sm_ok S → (29 ≤ (S 1071 0) ∧ (S 1071 0) ≤ 127 ∧ 31 ≤ (S 1008 0) ∧ (S 1008 0) ≤ 90 ∧ 1 ≤ (S 1032 0) ∧ (S 1032 0) ≤ 11 ∧ 0 ≤ (S 1055 0) ∧ (S 1055 0) ≤ 19 ∧ (S 1071 0) = 29 + 6 * ((S 1032 0) - 1) + 2 * (S 1055 0) ∧ 0 ≤ (S 1046 0) ∧ (S 1046 0) + 2 * (S 1032 0) ≤ 500 ∧ sm_PD (S 1046 0) (S 1032 0) (S 1071 0) (S 1008 0) ∧ 0 ≤ (S 1071 0) * ((S 1008 0) + 1) ∧ (S 1071 0) * ((S 1008 0) + 1) ≤ 11557 ∧ 31 ≤ (S 1007 0) ∧ (S 1007 0) ≤ 400 ∧ sm_LN (S 4) 400 (S 1007 0) ∧ (S 75 639) = 647340 ∧ sm_ST (S 71) (S 74) (S 75) (S 78) (S 79) (S 80) (S 27) (S 1100007) (S 1100023) (S 1100024) (S 1046 0) ((S 1046 0) + 2 * (S 1032 0)) (S 1127 0) ∧ 465000 ≤ (S 1127 0) ∧ (S 1127 0) + sm_hs (S 71) (S 1100007) ≤ 635000 ∧ sm_NH (S 1100007) ∧ sm_CT (S 26) (S 27) (S 28) (S 29) (S 1100007) (S 1100023) (S 1100024) (S 1100025) (S 21) (S 1046 0) (S 1032 0) (S 1008 0) (S 1055 0) ∧ (∀ k : Int, (S 1046 0) ≤ k → k < ((S 1046 0) + 2 * (S 1032 0)) → (S 1100007 k) = 1) ∧ sm_DR (S 72) (S 71) (S 1046 0) ∧ 0 ≤ (S 74 639) ∧ (S 74 639) ≤ 400 ∧ 0 ≤ (S 78 639) ∧ (S 78 639) ≤ 40 ∧ (S 78 639) = sm_dp (S 1100024) (S 1100031 0) ∧ -1 ≤ (S 1100031 0) ∧ (S 1100031 0) < (S 1046 0) ∧ (0 ≤ (S 1100031 0) → (S 26 (S 1100031 0)) = 27) ∧ sm_TC (S 79) (S 80) (S 27) (S 1100007) (S 1100023) (S 1100024) 25560 (S 1100031 0) ∧ 0 ≤ (S 1148 0) ∧ (S 1148 0) + 1 < (S 1046 0) ∧ (S 74 639) = (S 1100007 ((S 1148 0) + 1)) ∧ (S 1100023 ((S 1148 0) + 1)) = (S 1100031 0)) → (sv_R (S 1148 0) → (sv_R ((S 1148 0) + (1 : Int))) ∧ (29 ≤ (S 1071 0) ∧ (S 1071 0) ≤ 127 ∧ 31 ≤ (S 1008 0) ∧ (S 1008 0) ≤ 90 ∧ 1 ≤ (S 1032 0) ∧ (S 1032 0) ≤ 11 ∧ 0 ≤ (S 1055 0) ∧ (S 1055 0) ≤ 19 ∧ (S 1071 0) = 29 + 6 * ((S 1032 0) - 1) + 2 * (S 1055 0) ∧ 0 ≤ (S 1046 0) ∧ (S 1046 0) + 2 * (S 1032 0) ≤ 500 ∧ sm_PD (S 1046 0) (S 1032 0) (S 1071 0) (S 1008 0) ∧ 0 ≤ (S 1071 0) * ((S 1008 0) + 1) ∧ (S 1071 0) * ((S 1008 0) + 1) ≤ 11557 ∧ 31 ≤ (S 1007 0) ∧ (S 1007 0) ≤ 400 ∧ sm_LN (S 4) 400 (S 1007 0) ∧ (S 75 639) = 647340 ∧ sm_ST (S 71) (S 74) (S 75) (S 78) (S 79) (S 80) (S 27) (S 1100007) (S 1100023) (S 1100024) (S 1046 0) ((S 1046 0) + 2 * (S 1032 0)) (S 1127 0) ∧ 465000 ≤ (S 1127 0) ∧ (S 1127 0) + sm_hs (S 71) (S 1100007) ≤ 635000 ∧ sm_NH (S 1100007) ∧ sm_CT (S 26) (S 27) (S 28) (S 29) (S 1100007) (S 1100023) (S 1100024) (S 1100025) (S 21) (S 1046 0) (S 1032 0) (S 1008 0) (S 1055 0) ∧ (∀ k : Int, (S 1046 0) ≤ k → k < ((S 1046 0) + 2 * (S 1032 0)) → (S 1100007 k) = 1) ∧ sm_DR (S 72) (S 71) (S 1046 0) ∧ 0 ≤ (S 74 639) ∧ (S 74 639) ≤ 400 ∧ 0 ≤ (S 78 639) ∧ (S 78 639) ≤ 40 ∧ (S 78 639) = sm_dp (S 1100024) (S 1100031 0) ∧ -1 ≤ (S 1100031 0) ∧ (S 1100031 0) < (S 1046 0) ∧ (0 ≤ (S 1100031 0) → (S 26 (S 1100031 0)) = 27) ∧ sm_TC (S 79) (S 80) (S 27) (S 1100007) (S 1100023) (S 1100024) 25560 (S 1100031 0) ∧ 0 ≤ ((S 1148 0) + (1 : Int)) ∧ ((S 1148 0) + (1 : Int)) < ((S 1046 0) + 2 * (S 1032 0)) ∧ (S 74 639) = (S 1100007 ((S 1148 0) + (1 : Int))) ∧ (((S 1148 0) + (1 : Int)) < (S 1046 0) → (S 1100023 ((S 1148 0) + (1 : Int))) = (S 1100031 0))) ∧ (∀ g6 : sv_S, (sm_ST (g6 71) (g6 74) (g6 75) (g6 78) (g6 79) (g6 80) (S 27) (S 1100007) (S 1100023) (S 1100024) (S 1046 0) ((S 1046 0) + 2 * (S 1032 0)) (g6 1127 0) ∧ 465000 ≤ (g6 1127 0) ∧ (g6 1127 0) + sm_hs (g6 71) (S 1100007) ≤ 635000 ∧ (g6 75 639) = 647340 ∧ (g6 74 639) = (S 74 639) ∧ (g6 78 639) = (S 78 639) ∧ sm_TC (g6 79) (g6 80) (S 27) (S 1100007) (S 1100023) (S 1100024) 25560 (S 1100031 0) ∧ (∀ k : Int, (S 71 k) = 1 → (g6 71 k) = 1) ∧ sm_DR (g6 72) (g6 71) (S 1046 0) ∧ (641 * (sm_cm (g6 71) + sm_pt (g6 68) (g6 69) (g6 70) + sm_pl (g6 81) (g6 82) (g6 83) (g6 84) (g6 85) (g6 86) + sm_ps (g6 76) (g6 77)) + sm_du (g6 72)) ≤ (641 * (sm_cm (S 71) + sm_pt (S 68) (S 69) (S 70) + sm_pl (S 81) (S 82) (S 83) (S 84) (S 85) (S 86) + sm_ps (S 76) (S 77)) + sm_du (S 72)) ∧ (g6 71 ((S 1148 0) + (1 : Int))) = 1) → (sm_ST (g6 71) (g6 74) (g6 75) (g6 78) (g6 79) (g6 80) (S 27) (S 1100007) (S 1100023) (S 1100024) (S 1046 0) ((S 1046 0) + 2 * (S 1032 0)) (g6 1127 0) ∧ 465000 ≤ (g6 1127 0) ∧ (g6 1127 0) + sm_hs (g6 71) (S 1100007) ≤ 635000 ∧ (g6 75 639) = 647340 ∧ (g6 74 639) = (S 74 639) ∧ (g6 78 639) = (S 78 639) ∧ sm_TC (g6 79) (g6 80) (S 27) (S 1100007) (S 1100023) (S 1100024) 25560 (S 1100031 0) ∧ (∀ k : Int, (S 71 k) = 1 → (g6 71 k) = 1) ∧ sm_DR (g6 72) (g6 71) (S 1046 0) ∧ (641 * (sm_cm (g6 71) + sm_pt (g6 68) (g6 69) (g6 70) + sm_pl (g6 81) (g6 82) (g6 83) (g6 84) (g6 85) (g6 86) + sm_ps (g6 76) (g6 77)) + sm_du (g6 72)) ≤ (641 * (sm_cm (S 71) + sm_pt (S 68) (S 69) (S 70) + sm_pl (S 81) (S 82) (S 83) (S 84) (S 85) (S 86) + sm_ps (S 76) (S 77)) + sm_du (S 72))))) := by
  intro S
  intro h1_
  rintro ⟨h2_, ⟨h3_, ⟨h4_, ⟨h5_, ⟨h6_, ⟨h7_, ⟨h8_, ⟨h9_, ⟨h10_, ⟨h11_, ⟨h12_, ⟨h13_, ⟨h14_, ⟨h15_, ⟨h16_, ⟨h17_, ⟨h18_, ⟨h19_, ⟨h20_, ⟨h21_, ⟨h22_, ⟨h23_, ⟨h24_, ⟨h25_, ⟨h26_, ⟨h27_, ⟨h28_, ⟨h29_, ⟨h30_, ⟨h31_, ⟨h32_, ⟨h33_, ⟨h34_, ⟨h35_, ⟨h36_, ⟨h37_, ⟨h38_, h39_⟩⟩⟩⟩⟩⟩⟩⟩⟩⟩⟩⟩⟩⟩⟩⟩⟩⟩⟩⟩⟩⟩⟩⟩⟩⟩⟩⟩⟩⟩⟩⟩⟩⟩⟩⟩⟩
  intro h40_
  refine ⟨(la_on_0 h6_ h12_ h36_ h37_), ?_⟩
  refine ⟨⟨h2_, ⟨h3_, ⟨h4_, ⟨h5_, ⟨h6_, ⟨h7_, ⟨h8_, ⟨h9_, ⟨h10_, ⟨h11_, ⟨h12_, ⟨h13_, ⟨h14_, ⟨h15_, ⟨h16_, ⟨h17_, ⟨h18_, ⟨h19_, ⟨h20_, ⟨h21_, ⟨h22_, ⟨h23_, ⟨h24_, ⟨h25_, ⟨h26_, ⟨h27_, ⟨h28_, ⟨h29_, ⟨h30_, ⟨h31_, ⟨h32_, ⟨h33_, ⟨h34_, ⟨h35_, (la_on_1 h6_ h36_ h37_ h38_ h39_)⟩⟩⟩⟩⟩⟩⟩⟩⟩⟩⟩⟩⟩⟩⟩⟩⟩⟩⟩⟩⟩⟩⟩⟩⟩⟩⟩⟩⟩⟩⟩⟩⟩⟩, ?_⟩
  intro g6
  rintro ⟨h41_, ⟨h42_, ⟨h43_, ⟨h44_, ⟨h45_, ⟨h46_, ⟨h47_, ⟨h48_, ⟨h49_, ⟨h50_, h51_⟩⟩⟩⟩⟩⟩⟩⟩⟩⟩
  refine ⟨h41_, ?_⟩
  refine ⟨h42_, ?_⟩
  refine ⟨h43_, ?_⟩
  refine ⟨h44_, ?_⟩
  refine ⟨h45_, ?_⟩
  refine ⟨h46_, ?_⟩
  refine ⟨h47_, ?_⟩
  refine ⟨h48_, ?_⟩
  refine ⟨h49_, ?_⟩
  exact h50_
set_option maxRecDepth 8000 in
set_option maxHeartbeats 2000000 in
theorem t_on : ∀ (S : sv_S), sm_ok S → (29 ≤ (S 1071 0) ∧ (S 1071 0) ≤ 127 ∧ 31 ≤ (S 1008 0) ∧ (S 1008 0) ≤ 90 ∧ 1 ≤ (S 1032 0) ∧ (S 1032 0) ≤ 11 ∧ 0 ≤ (S 1055 0) ∧ (S 1055 0) ≤ 19 ∧ (S 1071 0) = 29 + 6 * ((S 1032 0) - 1) + 2 * (S 1055 0) ∧ 0 ≤ (S 1046 0) ∧ (S 1046 0) + 2 * (S 1032 0) ≤ 500 ∧ sm_PD (S 1046 0) (S 1032 0) (S 1071 0) (S 1008 0) ∧ 0 ≤ (S 1071 0) * ((S 1008 0) + 1) ∧ (S 1071 0) * ((S 1008 0) + 1) ≤ 11557 ∧ 31 ≤ (S 1007 0) ∧ (S 1007 0) ≤ 400 ∧ sm_LN (S 4) 400 (S 1007 0) ∧ (S 75 639) = 647340 ∧ sm_ST (S 71) (S 74) (S 75) (S 78) (S 79) (S 80) (S 27) (S 1100007) (S 1100023) (S 1100024) (S 1046 0) ((S 1046 0) + 2 * (S 1032 0)) (S 1127 0) ∧ 465000 ≤ (S 1127 0) ∧ (S 1127 0) + sm_hs (S 71) (S 1100007) ≤ 635000 ∧ sm_NH (S 1100007) ∧ sm_CT (S 26) (S 27) (S 28) (S 29) (S 1100007) (S 1100023) (S 1100024) (S 1100025) (S 21) (S 1046 0) (S 1032 0) (S 1008 0) (S 1055 0) ∧ (∀ k : Int, (S 1046 0) ≤ k → k < ((S 1046 0) + 2 * (S 1032 0)) → (S 1100007 k) = 1) ∧ sm_DR (S 72) (S 71) (S 1046 0) ∧ 0 ≤ (S 74 639) ∧ (S 74 639) ≤ 400 ∧ 0 ≤ (S 78 639) ∧ (S 78 639) ≤ 40 ∧ (S 78 639) = sm_dp (S 1100024) (S 1100031 0) ∧ -1 ≤ (S 1100031 0) ∧ (S 1100031 0) < (S 1046 0) ∧ (0 ≤ (S 1100031 0) → (S 26 (S 1100031 0)) = 27) ∧ sm_TC (S 79) (S 80) (S 27) (S 1100007) (S 1100023) (S 1100024) 25560 (S 1100031 0) ∧ 0 ≤ (S 1148 0) ∧ (S 1148 0) + 1 < (S 1046 0) ∧ (S 74 639) = (S 1100007 ((S 1148 0) + 1)) ∧ (S 1100023 ((S 1148 0) + 1)) = (S 1100031 0)) → sv_T sm_XS sm_cs sm_L sm_sh 4 (q_on S) 258 0 (lv_args 0 [.ref 0]) [] S := by
  intro S hok hpre
  have h := f_on S hok hpre
  have hM := sm_h258
  show sv_T sm_XS sm_cs sm_L sm_sh 4 (q_on S) 258 0 [(0, .ref 0)] [] S
  refine sv_aload_n hM dX12_on_0 rfl rfl ?_
  refine sv_iconst (d := (1 : Int)) hM dX12_on_1 rfl rfl ?_
  refine sv_putI sm_X hM dX12_on_2 sm_fp_1185 (sm_a0 _) sm_q150 (Or.inr rfl) rfl (sv_nz (⟨by decide, by decide⟩ : 0 ≤ (1 : Int) ∧ (1 : Int) ≤ 1)) (sv_fz (⟨by decide, by decide⟩ : 0 ≤ (1 : Int) ∧ (1 : Int) ≤ 1)) rfl ?_
  have ok1 : sm_ok (sv_up S 1150 0 (1 : Int)) := sm_upZ hok sm_r1150 (⟨by decide, by decide⟩ : 0 ≤ (1 : Int) ∧ (1 : Int) ≤ 1)
  have md2 : sv_mod [68, 69, 70, 81, 82, 83, 84, 85, 86, 71, 74, 75, 1127, 78, 79, 80, 72, 76, 77, 1150] S (sv_up S 1150 0 (1 : Int)) := sv_mod.up sv_mod.rf (by decide)
  refine sv_aload_n hM dX12_on_5 rfl rfl ?_
  refine sv_aload_n hM dX12_on_6 rfl rfl ?_
  have k3 : sv_R (S 1148 0) := sm_okI ok1 sm_r1148 0
  have h := h k3
  refine sv_getI hM dX12_on_7 sm_fl_1188 (sm_a0 _) sm_k148 rfl (x := (S 1148 0)) rfl ?_
  refine sv_iconst (d := (1 : Int)) hM dX12_on_10 rfl rfl ?_
  refine sv_iadd hM dX12_on_11 rfl ?_
  obtain ⟨o4, h⟩ := h
  obtain ⟨o5, h⟩ := h
  refine sv_callV hM dX12_on_12 sm_iv_1191 (by decide) (sm_a0 _) rfl rfl (Nat.le_of_ble_eq_true rfl) sm_h235 (Nat.le_of_ble_eq_true rfl) (Nat.le_of_ble_eq_true rfl) (F' := 3) (Nat.le_of_ble_eq_true rfl) rfl (t_flow ((S 1148 0) + (1 : Int)) (sv_up S 1150 0 (1 : Int)) ok1 o4 o5) (fun v S1 hq => ?_)
  obtain ⟨rfl, ok7, md8, hpo9⟩ := hq
  obtain ⟨g6, rfl⟩ : ∃ g, S1 = sv_sts (sv_up S 1150 0 (1 : Int)) [68, 69, 70, 81, 82, 83, 84, 85, 86, 71, 74, 75, 1127, 78, 79, 80, 72, 76, 77] g := ⟨_, md8.eq⟩
  show sv_T sm_XS sm_cs sm_L sm_sh 4 (q_on S) 258 15 [(0, .ref 0)] [] (sv_sts (sv_up S 1150 0 (1 : Int)) [68, 69, 70, 81, 82, 83, 84, 85, 86, 71, 74, 75, 1127, 78, 79, 80, 72, 76, 77] g6)
  have md10 : sv_mod [68, 69, 70, 81, 82, 83, 84, 85, 86, 71, 74, 75, 1127, 78, 79, 80, 72, 76, 77, 1150] S (sv_sts (sv_up S 1150 0 (1 : Int)) [68, 69, 70, 81, 82, 83, 84, 85, 86, 71, 74, 75, 1127, 78, 79, 80, 72, 76, 77] g6) := sv_mod.sts md2 (by decide)
  have h := h g6 hpo9
  exact sv_vret hM dX12_on_15 rfl ⟨rfl, ok7, md10, h⟩
def q_to (p1 : Int) (S : sv_S) : Option Value → sv_S → Prop := fun v S' => v = none ∧ sm_ok S' ∧ sv_mod [68, 69, 70, 81, 82, 83, 84, 85, 86, 71, 74, 75, 1127, 78, 79, 80, 72, 76, 77, 1150] S S' ∧ (sm_ST (S' 71) (S' 74) (S' 75) (S' 78) (S' 79) (S' 80) (S' 27) (S' 1100007) (S' 1100023) (S' 1100024) (S' 1046 0) ((S' 1046 0) + 2 * (S' 1032 0)) (S' 1127 0) ∧ 465000 ≤ (S' 1127 0) ∧ (S' 1127 0) + sm_hs (S' 71) (S' 1100007) ≤ 635000 ∧ (S' 75 639) = 647340 ∧ (S' 74 639) = (S 74 639) ∧ (S' 78 639) = (S 78 639) ∧ sm_TC (S' 79) (S' 80) (S' 27) (S' 1100007) (S' 1100023) (S' 1100024) 25560 (S' 1100031 0) ∧ (∀ k : Int, (S 71 k) = 1 → (S' 71 k) = 1) ∧ sm_DR (S' 72) (S' 71) (S' 1046 0) ∧ (641 * (sm_cm (S' 71) + sm_pt (S' 68) (S' 69) (S' 70) + sm_pl (S' 81) (S' 82) (S' 83) (S' 84) (S' 85) (S' 86) + sm_ps (S' 76) (S' 77)) + sm_du (S' 72)) ≤ (641 * (sm_cm (S 71) + sm_pt (S 68) (S 69) (S 70) + sm_pl (S 81) (S 82) (S 83) (S 84) (S 85) (S 86) + sm_ps (S 76) (S 77)) + sm_du (S 72)))
theorem la_to_0 {x0 x1 x2 x3 x4 x5 x6 : Int} (h0 : 1 ≤ x0) (h1 : 0 ≤ x1) (h2 : x1 < x2) (h3 : x3 = x4) (h4 : x5 = x6) : 0 ≤ x1 ∧ x1 < x2 + 2 * x0 ∧ x3 = x4 ∧ (x1 < x2 → x5 = x6) := by omega
set_option maxHeartbeats 2000000 in
theorem f_to : ∀ (p1 : Int) (S : sv_S), sm_ok S → sv_R p1 → (29 ≤ (S 1071 0) ∧ (S 1071 0) ≤ 127 ∧ 31 ≤ (S 1008 0) ∧ (S 1008 0) ≤ 90 ∧ 1 ≤ (S 1032 0) ∧ (S 1032 0) ≤ 11 ∧ 0 ≤ (S 1055 0) ∧ (S 1055 0) ≤ 19 ∧ (S 1071 0) = 29 + 6 * ((S 1032 0) - 1) + 2 * (S 1055 0) ∧ 0 ≤ (S 1046 0) ∧ (S 1046 0) + 2 * (S 1032 0) ≤ 500 ∧ sm_PD (S 1046 0) (S 1032 0) (S 1071 0) (S 1008 0) ∧ 0 ≤ (S 1071 0) * ((S 1008 0) + 1) ∧ (S 1071 0) * ((S 1008 0) + 1) ≤ 11557 ∧ 31 ≤ (S 1007 0) ∧ (S 1007 0) ≤ 400 ∧ sm_LN (S 4) 400 (S 1007 0) ∧ (S 75 639) = 647340 ∧ sm_ST (S 71) (S 74) (S 75) (S 78) (S 79) (S 80) (S 27) (S 1100007) (S 1100023) (S 1100024) (S 1046 0) ((S 1046 0) + 2 * (S 1032 0)) (S 1127 0) ∧ 465000 ≤ (S 1127 0) ∧ (S 1127 0) + sm_hs (S 71) (S 1100007) ≤ 635000 ∧ sm_NH (S 1100007) ∧ sm_CT (S 26) (S 27) (S 28) (S 29) (S 1100007) (S 1100023) (S 1100024) (S 1100025) (S 21) (S 1046 0) (S 1032 0) (S 1008 0) (S 1055 0) ∧ (∀ k : Int, (S 1046 0) ≤ k → k < ((S 1046 0) + 2 * (S 1032 0)) → (S 1100007 k) = 1) ∧ sm_DR (S 72) (S 71) (S 1046 0) ∧ 0 ≤ (S 74 639) ∧ (S 74 639) ≤ 400 ∧ 0 ≤ (S 78 639) ∧ (S 78 639) ≤ 40 ∧ (S 78 639) = sm_dp (S 1100024) (S 1100031 0) ∧ -1 ≤ (S 1100031 0) ∧ (S 1100031 0) < (S 1046 0) ∧ (0 ≤ (S 1100031 0) → (S 26 (S 1100031 0)) = 27) ∧ sm_TC (S 79) (S 80) (S 27) (S 1100007) (S 1100023) (S 1100024) 25560 (S 1100031 0) ∧ 0 ≤ p1 ∧ p1 < (S 1046 0) ∧ (S 74 639) = (S 1100007 p1) ∧ (S 1100023 p1) = (S 1100031 0)) → (29 ≤ (S 1071 0) ∧ (S 1071 0) ≤ 127 ∧ 31 ≤ (S 1008 0) ∧ (S 1008 0) ≤ 90 ∧ 1 ≤ (S 1032 0) ∧ (S 1032 0) ≤ 11 ∧ 0 ≤ (S 1055 0) ∧ (S 1055 0) ≤ 19 ∧ (S 1071 0) = 29 + 6 * ((S 1032 0) - 1) + 2 * (S 1055 0) ∧ 0 ≤ (S 1046 0) ∧ (S 1046 0) + 2 * (S 1032 0) ≤ 500 ∧ sm_PD (S 1046 0) (S 1032 0) (S 1071 0) (S 1008 0) ∧ 0 ≤ (S 1071 0) * ((S 1008 0) + 1) ∧ (S 1071 0) * ((S 1008 0) + 1) ≤ 11557 ∧ 31 ≤ (S 1007 0) ∧ (S 1007 0) ≤ 400 ∧ sm_LN (S 4) 400 (S 1007 0) ∧ (S 75 639) = 647340 ∧ sm_ST (S 71) (S 74) (S 75) (S 78) (S 79) (S 80) (S 27) (S 1100007) (S 1100023) (S 1100024) (S 1046 0) ((S 1046 0) + 2 * (S 1032 0)) (S 1127 0) ∧ 465000 ≤ (S 1127 0) ∧ (S 1127 0) + sm_hs (S 71) (S 1100007) ≤ 635000 ∧ sm_NH (S 1100007) ∧ sm_CT (S 26) (S 27) (S 28) (S 29) (S 1100007) (S 1100023) (S 1100024) (S 1100025) (S 21) (S 1046 0) (S 1032 0) (S 1008 0) (S 1055 0) ∧ (∀ k : Int, (S 1046 0) ≤ k → k < ((S 1046 0) + 2 * (S 1032 0)) → (S 1100007 k) = 1) ∧ sm_DR (S 72) (S 71) (S 1046 0) ∧ 0 ≤ (S 74 639) ∧ (S 74 639) ≤ 400 ∧ 0 ≤ (S 78 639) ∧ (S 78 639) ≤ 40 ∧ (S 78 639) = sm_dp (S 1100024) (S 1100031 0) ∧ -1 ≤ (S 1100031 0) ∧ (S 1100031 0) < (S 1046 0) ∧ (0 ≤ (S 1100031 0) → (S 26 (S 1100031 0)) = 27) ∧ sm_TC (S 79) (S 80) (S 27) (S 1100007) (S 1100023) (S 1100024) 25560 (S 1100031 0) ∧ 0 ≤ p1 ∧ p1 < ((S 1046 0) + 2 * (S 1032 0)) ∧ (S 74 639) = (S 1100007 p1) ∧ (p1 < (S 1046 0) → (S 1100023 p1) = (S 1100031 0))) ∧ (∀ g4 : sv_S, (sm_ST (g4 71) (g4 74) (g4 75) (g4 78) (g4 79) (g4 80) (S 27) (S 1100007) (S 1100023) (S 1100024) (S 1046 0) ((S 1046 0) + 2 * (S 1032 0)) (g4 1127 0) ∧ 465000 ≤ (g4 1127 0) ∧ (g4 1127 0) + sm_hs (g4 71) (S 1100007) ≤ 635000 ∧ (g4 75 639) = 647340 ∧ (g4 74 639) = (S 74 639) ∧ (g4 78 639) = (S 78 639) ∧ sm_TC (g4 79) (g4 80) (S 27) (S 1100007) (S 1100023) (S 1100024) 25560 (S 1100031 0) ∧ (∀ k : Int, (S 71 k) = 1 → (g4 71 k) = 1) ∧ sm_DR (g4 72) (g4 71) (S 1046 0) ∧ (641 * (sm_cm (g4 71) + sm_pt (g4 68) (g4 69) (g4 70) + sm_pl (g4 81) (g4 82) (g4 83) (g4 84) (g4 85) (g4 86) + sm_ps (g4 76) (g4 77)) + sm_du (g4 72)) ≤ (641 * (sm_cm (S 71) + sm_pt (S 68) (S 69) (S 70) + sm_pl (S 81) (S 82) (S 83) (S 84) (S 85) (S 86) + sm_ps (S 76) (S 77)) + sm_du (S 72)) ∧ (g4 71 p1) = 1) → (sm_ST (g4 71) (g4 74) (g4 75) (g4 78) (g4 79) (g4 80) (S 27) (S 1100007) (S 1100023) (S 1100024) (S 1046 0) ((S 1046 0) + 2 * (S 1032 0)) (g4 1127 0) ∧ 465000 ≤ (g4 1127 0) ∧ (g4 1127 0) + sm_hs (g4 71) (S 1100007) ≤ 635000 ∧ (g4 75 639) = 647340 ∧ (g4 74 639) = (S 74 639) ∧ (g4 78 639) = (S 78 639) ∧ sm_TC (g4 79) (g4 80) (S 27) (S 1100007) (S 1100023) (S 1100024) 25560 (S 1100031 0) ∧ (∀ k : Int, (S 71 k) = 1 → (g4 71 k) = 1) ∧ sm_DR (g4 72) (g4 71) (S 1046 0) ∧ (641 * (sm_cm (g4 71) + sm_pt (g4 68) (g4 69) (g4 70) + sm_pl (g4 81) (g4 82) (g4 83) (g4 84) (g4 85) (g4 86) + sm_ps (g4 76) (g4 77)) + sm_du (g4 72)) ≤ (641 * (sm_cm (S 71) + sm_pt (S 68) (S 69) (S 70) + sm_pl (S 81) (S 82) (S 83) (S 84) (S 85) (S 86) + sm_ps (S 76) (S 77)) + sm_du (S 72)))) := by
  intro p1
  intro S
  intro h1_
  intro h2_
  rintro ⟨h3_, ⟨h4_, ⟨h5_, ⟨h6_, ⟨h7_, ⟨h8_, ⟨h9_, ⟨h10_, ⟨h11_, ⟨h12_, ⟨h13_, ⟨h14_, ⟨h15_, ⟨h16_, ⟨h17_, ⟨h18_, ⟨h19_, ⟨h20_, ⟨h21_, ⟨h22_, ⟨h23_, ⟨h24_, ⟨h25_, ⟨h26_, ⟨h27_, ⟨h28_, ⟨h29_, ⟨h30_, ⟨h31_, ⟨h32_, ⟨h33_, ⟨h34_, ⟨h35_, ⟨h36_, ⟨h37_, ⟨h38_, ⟨h39_, h40_⟩⟩⟩⟩⟩⟩⟩⟩⟩⟩⟩⟩⟩⟩⟩⟩⟩⟩⟩⟩⟩⟩⟩⟩⟩⟩⟩⟩⟩⟩⟩⟩⟩⟩⟩⟩⟩
  refine ⟨⟨h3_, ⟨h4_, ⟨h5_, ⟨h6_, ⟨h7_, ⟨h8_, ⟨h9_, ⟨h10_, ⟨h11_, ⟨h12_, ⟨h13_, ⟨h14_, ⟨h15_, ⟨h16_, ⟨h17_, ⟨h18_, ⟨h19_, ⟨h20_, ⟨h21_, ⟨h22_, ⟨h23_, ⟨h24_, ⟨h25_, ⟨h26_, ⟨h27_, ⟨h28_, ⟨h29_, ⟨h30_, ⟨h31_, ⟨h32_, ⟨h33_, ⟨h34_, ⟨h35_, ⟨h36_, (la_to_0 h7_ h37_ h38_ h39_ h40_)⟩⟩⟩⟩⟩⟩⟩⟩⟩⟩⟩⟩⟩⟩⟩⟩⟩⟩⟩⟩⟩⟩⟩⟩⟩⟩⟩⟩⟩⟩⟩⟩⟩⟩, ?_⟩
  intro g4
  rintro ⟨h41_, ⟨h42_, ⟨h43_, ⟨h44_, ⟨h45_, ⟨h46_, ⟨h47_, ⟨h48_, ⟨h49_, ⟨h50_, h51_⟩⟩⟩⟩⟩⟩⟩⟩⟩⟩
  refine ⟨h41_, ?_⟩
  refine ⟨h42_, ?_⟩
  refine ⟨h43_, ?_⟩
  refine ⟨h44_, ?_⟩
  refine ⟨h45_, ?_⟩
  refine ⟨h46_, ?_⟩
  refine ⟨h47_, ?_⟩
  refine ⟨h48_, ?_⟩
  refine ⟨h49_, ?_⟩
  exact h50_
set_option maxRecDepth 8000 in
set_option maxHeartbeats 2000000 in
theorem t_to : ∀ (p1 : Int) (S : sv_S), sm_ok S → sv_R p1 → (29 ≤ (S 1071 0) ∧ (S 1071 0) ≤ 127 ∧ 31 ≤ (S 1008 0) ∧ (S 1008 0) ≤ 90 ∧ 1 ≤ (S 1032 0) ∧ (S 1032 0) ≤ 11 ∧ 0 ≤ (S 1055 0) ∧ (S 1055 0) ≤ 19 ∧ (S 1071 0) = 29 + 6 * ((S 1032 0) - 1) + 2 * (S 1055 0) ∧ 0 ≤ (S 1046 0) ∧ (S 1046 0) + 2 * (S 1032 0) ≤ 500 ∧ sm_PD (S 1046 0) (S 1032 0) (S 1071 0) (S 1008 0) ∧ 0 ≤ (S 1071 0) * ((S 1008 0) + 1) ∧ (S 1071 0) * ((S 1008 0) + 1) ≤ 11557 ∧ 31 ≤ (S 1007 0) ∧ (S 1007 0) ≤ 400 ∧ sm_LN (S 4) 400 (S 1007 0) ∧ (S 75 639) = 647340 ∧ sm_ST (S 71) (S 74) (S 75) (S 78) (S 79) (S 80) (S 27) (S 1100007) (S 1100023) (S 1100024) (S 1046 0) ((S 1046 0) + 2 * (S 1032 0)) (S 1127 0) ∧ 465000 ≤ (S 1127 0) ∧ (S 1127 0) + sm_hs (S 71) (S 1100007) ≤ 635000 ∧ sm_NH (S 1100007) ∧ sm_CT (S 26) (S 27) (S 28) (S 29) (S 1100007) (S 1100023) (S 1100024) (S 1100025) (S 21) (S 1046 0) (S 1032 0) (S 1008 0) (S 1055 0) ∧ (∀ k : Int, (S 1046 0) ≤ k → k < ((S 1046 0) + 2 * (S 1032 0)) → (S 1100007 k) = 1) ∧ sm_DR (S 72) (S 71) (S 1046 0) ∧ 0 ≤ (S 74 639) ∧ (S 74 639) ≤ 400 ∧ 0 ≤ (S 78 639) ∧ (S 78 639) ≤ 40 ∧ (S 78 639) = sm_dp (S 1100024) (S 1100031 0) ∧ -1 ≤ (S 1100031 0) ∧ (S 1100031 0) < (S 1046 0) ∧ (0 ≤ (S 1100031 0) → (S 26 (S 1100031 0)) = 27) ∧ sm_TC (S 79) (S 80) (S 27) (S 1100007) (S 1100023) (S 1100024) 25560 (S 1100031 0) ∧ 0 ≤ p1 ∧ p1 < (S 1046 0) ∧ (S 74 639) = (S 1100007 p1) ∧ (S 1100023 p1) = (S 1100031 0)) → sv_T sm_XS sm_cs sm_L sm_sh 4 (q_to p1 S) 259 0 (lv_args 0 [.ref 0, sv_I p1]) [] S := by
  intro p1 S hok hp1 hpre
  have h := f_to p1 S hok hp1 hpre
  have hM := sm_h259
  show sv_T sm_XS sm_cs sm_L sm_sh 4 (q_to p1 S) 259 0 [(0, .ref 0), (1, sv_I p1)] [] S
  refine sv_aload_n hM dX12_to_0 rfl rfl ?_
  refine sv_iconst (d := (1 : Int)) hM dX12_to_1 rfl rfl ?_
  refine sv_putI sm_X hM dX12_to_2 sm_fp_1185 (sm_a0 _) sm_q150 (Or.inr rfl) rfl (sv_nz (⟨by decide, by decide⟩ : 0 ≤ (1 : Int) ∧ (1 : Int) ≤ 1)) (sv_fz (⟨by decide, by decide⟩ : 0 ≤ (1 : Int) ∧ (1 : Int) ≤ 1)) rfl ?_
  have ok1 : sm_ok (sv_up S 1150 0 (1 : Int)) := sm_upZ hok sm_r1150 (⟨by decide, by decide⟩ : 0 ≤ (1 : Int) ∧ (1 : Int) ≤ 1)
  have md2 : sv_mod [68, 69, 70, 81, 82, 83, 84, 85, 86, 71, 74, 75, 1127, 78, 79, 80, 72, 76, 77, 1150] S (sv_up S 1150 0 (1 : Int)) := sv_mod.up sv_mod.rf (by decide)
  refine sv_aload_n hM dX12_to_5 rfl rfl ?_
  refine sv_iload_n hM dX12_to_6 rfl rfl ?_
  obtain ⟨o3, h⟩ := h
  refine sv_callV hM dX12_to_7 sm_iv_1191 (by decide) (sm_a0 _) rfl rfl (Nat.le_of_ble_eq_true rfl) sm_h235 (Nat.le_of_ble_eq_true rfl) (Nat.le_of_ble_eq_true rfl) (F' := 3) (Nat.le_of_ble_eq_true rfl) rfl (t_flow p1 (sv_up S 1150 0 (1 : Int)) ok1 hp1 o3) (fun v S1 hq => ?_)
  obtain ⟨rfl, ok5, md6, hpo7⟩ := hq
  obtain ⟨g4, rfl⟩ : ∃ g, S1 = sv_sts (sv_up S 1150 0 (1 : Int)) [68, 69, 70, 81, 82, 83, 84, 85, 86, 71, 74, 75, 1127, 78, 79, 80, 72, 76, 77] g := ⟨_, md6.eq⟩
  show sv_T sm_XS sm_cs sm_L sm_sh 4 (q_to p1 S) 259 10 [(0, .ref 0), (1, sv_I p1)] [] (sv_sts (sv_up S 1150 0 (1 : Int)) [68, 69, 70, 81, 82, 83, 84, 85, 86, 71, 74, 75, 1127, 78, 79, 80, 72, 76, 77] g4)
  have md8 : sv_mod [68, 69, 70, 81, 82, 83, 84, 85, 86, 71, 74, 75, 1127, 78, 79, 80, 72, 76, 77, 1150] S (sv_sts (sv_up S 1150 0 (1 : Int)) [68, 69, 70, 81, 82, 83, 84, 85, 86, 71, 74, 75, 1127, 78, 79, 80, 72, 76, 77] g4) := sv_mod.sts md2 (by decide)
  have h := h g4 hpo7
  exact sv_vret hM dX12_to_10 rfl ⟨rfl, ok5, md8, h⟩
def q_tossSet (p1 : Int) (S : sv_S) : Option Value → sv_S → Prop := fun v S' => v = none ∧ sm_ok S' ∧ sv_mod [68, 69, 70, 81, 82, 83, 84, 85, 86, 71, 74, 75, 1127, 78, 79, 80, 72, 76, 77, 1100031] S S' ∧ (sm_ST (S' 71) (S' 74) (S' 75) (S' 78) (S' 79) (S' 80) (S' 27) (S' 1100007) (S' 1100023) (S' 1100024) (S' 1046 0) ((S' 1046 0) + 2 * (S' 1032 0)) (S' 1127 0) ∧ 465000 ≤ (S' 1127 0) ∧ (S' 1127 0) + sm_hs (S' 71) (S' 1100007) ≤ 635000 ∧ (S' 75 639) = 647340 ∧ (∀ k : Int, (S 71 k) = 1 → (S' 71 k) = 1) ∧ sm_DR (S' 72) (S' 71) (S' 1046 0) ∧ (641 * (sm_cm (S' 71) + sm_pt (S' 68) (S' 69) (S' 70) + sm_pl (S' 81) (S' 82) (S' 83) (S' 84) (S' 85) (S' 86) + sm_ps (S' 76) (S' 77)) + sm_du (S' 72)) ≤ (641 * (sm_cm (S 71) + sm_pt (S 68) (S 69) (S 70) + sm_pl (S 81) (S 82) (S 83) (S 84) (S 85) (S 86) + sm_ps (S 76) (S 77)) + sm_du (S 72)))
theorem la_tossSet_0 : (0 : Int) ≤ 639 ∧ (639 : Int) < 640 := by omega
theorem la_tossSet_1 {x0 : Int} (h0 : 0 ≤ x0) (h1 : ¬ x0 = 0) : 0 < x0 := by omega
theorem la_tossSet_2 {x0 x1 : Int} (h0 : x0 = x1) (h1 : 0 < x0) : ¬ x1 = 0 := by omega
theorem la_tossSet_3 {x0 : Int} (h0 : ¬ x0 < 0) : 0 ≤ x0 := by omega
theorem la_tossSet_4 {x0 : Int} (h0 : x0 ≤ 40) (h1 : 0 < x0) : sv_R (x0 - 1) := by omega
theorem la_tossSet_5 {x0 x1 : Int} (h0 : x0 ≤ 40) (h1 : 0 < x0) (h2 : 25560 + (x0 - 1) = x1) : 0 ≤ x1 ∧ x1 < 25600 := by omega
theorem la_tossSet_6 {x0 x1 x2 x3 : Int} (h0 : 1 ≤ x0) (h1 : x1 + 2 * x0 ≤ 500) (h2 : x2 < x1) (h3 : (-1) ≤ x3) (h4 : x3 < x2) : sv_R x3 := by omega
theorem la_tossSet_7 : (639 : Int) = 639 := by omega
theorem la_tossSet_8 {x0 x1 : Int} (h0 : x0 < x1) : ¬ x1 ≤ x0 := by omega
theorem la_tossSet_9 {x0 x1 x2 x3 : Int} (h0 : x0 = x1) (h1 : x1 = x2 + 1) (h2 : 25560 + (x0 - 1) = x3) : x3 = 25560 + x2 := by omega
theorem la_tossSet_10 {x0 x1 x2 x3 : Int} (h0 : x0 = x1) (h1 : 0 ≤ x1) (h2 : x2 = x3) (h3 : x3 = x0) : 0 ≤ x2 := by omega
theorem la_tossSet_11 {x0 x1 x2 x3 : Int} (h0 : x0 = x1) (h1 : x1 ≤ 396) (h2 : x2 = x3) (h3 : x3 = x0) : x2 ≤ 400 := by omega
theorem la_tossSet_12 {x0 x1 x2 x3 : Int} (h0 : x0 = x1) (h1 : x1 ≤ 396) (h2 : x2 = x3) (h3 : x3 = x0) : x2 < 400 := by omega
theorem la_tossSet_13 {x0 x1 x2 x3 x4 : Int} (h0 : x0 = x1) (h1 : 0 ≤ x1) (h2 : x2 = 647340 + x3) (h3 : x3 = x4) (h4 : x4 = x0) : 635639 ≤ x2 := by omega
theorem la_tossSet_14 {x0 x1 x2 x3 x4 : Int} (h0 : x0 = x1) (h1 : x1 ≤ 396) (h2 : x2 = 647340 + x3) (h3 : x3 = x4) (h4 : x4 = x0) : x2 < 647800 := by omega
theorem la_tossSet_15 {x0 x1 : Int} (h0 : x0 + 2 * x1 ≤ 500) : x0 + 2 * x1 ≤ 639 := by omega
theorem la_tossSet_16 {x0 x1 x2 x3 x4 : Int} (h0 : x0 = x1) (h1 : 0 ≤ x1) (h2 : x2 = x3 + 1) (h3 : x3 = x4) (h4 : x4 = x0) : 0 ≤ x2 := by omega
theorem la_tossSet_17 {x0 x1 x2 x3 x4 : Int} (h0 : x0 = x1) (h1 : x1 ≤ 396) (h2 : x2 = x3 + 1) (h3 : x3 = x4) (h4 : x4 = x0) : x2 ≤ 400 := by omega
theorem la_tossSet_18 {x0 x1 : Int} (h0 : 0 < x0) (h1 : x1 = x0 - 1) : 0 ≤ x1 := by omega
theorem la_tossSet_19 {x0 x1 : Int} (h0 : x0 ≤ 40) (h1 : x1 = x0 - 1) : x1 ≤ 40 := by omega
theorem la_tossSet_20 {x0 x1 x2 x3 x4 : Int} (h0 : x0 = x1) (h1 : x1 = x2 + 1) (h2 : x2 = x3) (h3 : x4 = x0 - 1) : x4 = x3 := by omega
theorem la_tossSet_21 {x0 x1 x2 : Int} (h0 : x0 < x1) (h1 : x2 < x0) : x2 < x1 := by omega
theorem la_tossSet_22 {x0 x1 x2 : Int} (h0 : x0 = x1) (h1 : 0 ≤ x1) (h2 : x2 = x0) : 0 ≤ x2 := by omega
theorem la_tossSet_23 {x0 x1 x2 x3 x4 : Int} (h0 : 1 ≤ x0) (h1 : x1 = x2) (h2 : x2 < x3) (h3 : x4 = x1) : x4 < x3 + 2 * x0 := by omega
theorem la_tossSet_24 {x0 x1 x2 x3 : Int} (h0 : x0 = x1) (h1 : x1 < x2) (h2 : x3 = x0) : ¬ x2 ≤ x3 := by omega
theorem la_tossSet_25 {x0 x1 x2 : Int} (h0 : x0 = x1) (h1 : x2 = x0) : x2 = x1 := by omega
theorem la_tossSet_26 {x0 x1 x2 x3 x4 x5 x6 : Int} (h0 : x0 = x1) (h1 : x2 = x1 + 1) (h2 : x3 = x4 + 1) (h3 : x4 = x5) (h4 : x5 = x0) (h5 : x6 = x2) : x3 = x6 := by omega
theorem la_tossSet_27 {x0 x1 x2 x3 x4 x5 x6 x7 x8 x9 x10 x11 : Int} (h0 : x0 = x1) (h1 : x2 = x0) (h2 : 641 * (x3 + x4 + x5 + x6) + x7 ≤ 641 * (x8 + x2 + x9 + x10) + x11) : 641 * (x3 + x4 + x5 + x6) + x7 ≤ 641 * (x8 + x1 + x9 + x10) + x11 := by omega
theorem la_tossSet_28 {x0 : Int} (h0 : x0 = 0) : 0 ≤ x0 := by omega
theorem la_tossSet_29 {x0 : Int} (h0 : x0 = 0) : x0 ≤ 400 := by omega
theorem la_tossSet_30 {x0 : Int} (h0 : x0 = 0) : x0 < 400 := by omega
theorem la_tossSet_31 {x0 x1 x2 : Int} (h0 : 0 ≤ x0) (h1 : x0 < 647800) (h2 : x1 = 647340 + x2) (h3 : x2 = 0) : 0 ≤ x0 ∧ x0 < 647800 ∧ 635639 ≤ x1 ∧ x1 < 647800 := by omega
theorem la_tossSet_32 {x0 x1 x2 : Int} (h0 : 1 ≤ x0) (h1 : x1 + 2 * x0 ≤ 500) (h2 : 0 ≤ x2) (h3 : x2 < x1) : 0 ≤ x2 ∧ x2 < 600 := by omega
theorem la_tossSet_33 {x0 x1 x2 : Int} (h0 : 0 ≤ x0) (h1 : x0 + 2 * x1 ≤ 500) (h2 : 0 ≤ x2) (h3 : x2 < x1) : sv_R (x0 + 2 * x2 + 1) := by omega
theorem la_tossSet_34 {x0 x1 : Int} (h0 : x0 = x1 + 1) (h1 : x1 = 0) : 0 ≤ x0 := by omega
theorem la_tossSet_35 {x0 x1 : Int} (h0 : x0 = x1 + 1) (h1 : x1 = 0) : x0 ≤ 400 := by omega
theorem la_tossSet_36 {x0 x1 x2 : Int} (h0 : 0 ≤ x0) (h1 : x0 < x1) (h2 : 0 ≤ x2) : 0 ≤ x1 + 2 * x2 + 1 := by omega
theorem la_tossSet_37 {x0 x1 x2 : Int} (h0 : x0 < x1) : x2 + 2 * x0 + 1 < x2 + 2 * x1 := by omega
theorem la_tossSet_38 {x0 x1 : Int} (h0 : 0 ≤ x0) : x1 ≤ x1 + 2 * x0 + 1 := by omega
theorem la_tossSet_39 {x0 x1 x2 : Int} (h0 : x0 = x1 + 1) (h1 : x1 = 0) (h2 : x2 = 1) : x0 = x2 := by omega
theorem la_tossSet_40 {x0 x1 x2 : Int} (h0 : 0 ≤ x0) (h1 : x1 + 2 * x0 + 1 < x1) : 0 ≤ x2 := by omega
theorem la_tossSet_41 {x0 x1 x2 : Int} (h0 : 0 ≤ x0) (h1 : x1 + 2 * x0 + 1 < x1) : x2 < 0 := by omega
theorem la_tossSet_42 {x0 x1 x2 x3 : Int} (h0 : 0 ≤ x0) (h1 : x1 + 2 * x0 + 1 < x1) : x2 = x3 := by omega
set_option maxHeartbeats 2000000 in
theorem f_tossSet : ∀ (p1 : Int) (S : sv_S), sm_ok S → sv_R p1 → (29 ≤ (S 1071 0) ∧ (S 1071 0) ≤ 127 ∧ 31 ≤ (S 1008 0) ∧ (S 1008 0) ≤ 90 ∧ 1 ≤ (S 1032 0) ∧ (S 1032 0) ≤ 11 ∧ 0 ≤ (S 1055 0) ∧ (S 1055 0) ≤ 19 ∧ (S 1071 0) = 29 + 6 * ((S 1032 0) - 1) + 2 * (S 1055 0) ∧ 0 ≤ (S 1046 0) ∧ (S 1046 0) + 2 * (S 1032 0) ≤ 500 ∧ sm_PD (S 1046 0) (S 1032 0) (S 1071 0) (S 1008 0) ∧ 0 ≤ (S 1071 0) * ((S 1008 0) + 1) ∧ (S 1071 0) * ((S 1008 0) + 1) ≤ 11557 ∧ 31 ≤ (S 1007 0) ∧ (S 1007 0) ≤ 400 ∧ sm_LN (S 4) 400 (S 1007 0) ∧ (S 75 639) = 647340 ∧ sm_ST (S 71) (S 74) (S 75) (S 78) (S 79) (S 80) (S 27) (S 1100007) (S 1100023) (S 1100024) (S 1046 0) ((S 1046 0) + 2 * (S 1032 0)) (S 1127 0) ∧ 465000 ≤ (S 1127 0) ∧ (S 1127 0) + sm_hs (S 71) (S 1100007) ≤ 635000 ∧ sm_NH (S 1100007) ∧ sm_CT (S 26) (S 27) (S 28) (S 29) (S 1100007) (S 1100023) (S 1100024) (S 1100025) (S 21) (S 1046 0) (S 1032 0) (S 1008 0) (S 1055 0) ∧ (∀ k : Int, (S 1046 0) ≤ k → k < ((S 1046 0) + 2 * (S 1032 0)) → (S 1100007 k) = 1) ∧ sm_DR (S 72) (S 71) (S 1046 0) ∧ 0 ≤ (S 74 639) ∧ (S 74 639) ≤ 400 ∧ 0 ≤ (S 78 639) ∧ (S 78 639) ≤ 40 ∧ (S 78 639) = sm_dp (S 1100024) (S 1100031 0) ∧ -1 ≤ (S 1100031 0) ∧ (S 1100031 0) < (S 1046 0) ∧ (0 ≤ (S 1100031 0) → (S 26 (S 1100031 0)) = 27) ∧ sm_TC (S 79) (S 80) (S 27) (S 1100007) (S 1100023) (S 1100024) 25560 (S 1100031 0) ∧ 0 ≤ (S 1148 0) ∧ (S 1148 0) < (S 1046 0) ∧ 0 ≤ p1 ∧ p1 < 647800) → (((S 1100031 0) < 0 → sm_dp (S 1100024) (S 1100031 0) = 0) → ((0 ≤ (S 1100031 0) → sm_dp (S 1100024) (S 1100031 0) = (S 1100024 (S 1100031 0)) + 1) → ((sm_CT (S 26) (S 27) (S 28) (S 29) (S 1100007) (S 1100023) (S 1100024) (S 1100025) (S 21) (S 1046 0) (S 1032 0) (S 1008 0) (S 1055 0) → sm_TC (S 79) (S 80) (S 27) (S 1100007) (S 1100023) (S 1100024) 25560 (S 1100031 0) → 0 ≤ (S 1100031 0) → (S 1100031 0) < (S 1046 0) → (S 26 (S 1100031 0)) = 27 → (0 ≤ (S 1100024 (S 1100031 0)) ∧ (S 1100024 (S 1100031 0)) < 40 ∧ sm_dp (S 1100024) (S 1100031 0) = (S 1100024 (S 1100031 0)) + 1 ∧ (S 1100024 (S 1100031 0)) = sm_dp (S 1100024) (S 1100023 (S 1100031 0)) ∧ -1 ≤ (S 1100023 (S 1100031 0)) ∧ (S 1100023 (S 1100031 0)) < (S 1100031 0)) ∧ ((S 79 (25560 + (S 1100024 (S 1100031 0)))) = (S 27 (S 1100031 0)) ∧ (S 80 (25560 + (S 1100024 (S 1100031 0)))) = (S 1100007 (S 1100031 0)) ∧ 0 ≤ (S 1100007 (S 1100031 0)) ∧ (S 1100007 (S 1100031 0)) ≤ 396) ∧ (0 ≤ (S 27 (S 1100031 0)) ∧ (S 27 (S 1100031 0)) < (S 1046 0) ∧ (S 1100007 (S 27 (S 1100031 0))) = (S 1100007 (S 1100031 0)) + 1 ∧ (S 1100023 (S 27 (S 1100031 0))) = (S 1100023 (S 1100031 0))) ∧ (0 ≤ (S 1100023 (S 1100031 0)) → (S 26 (S 1100023 (S 1100031 0))) = 27) ∧ sm_TC (S 79) (S 80) (S 27) (S 1100007) (S 1100023) (S 1100024) 25560 (S 1100023 (S 1100031 0))) → ((sm_CT (S 26) (S 27) (S 28) (S 29) (S 1100007) (S 1100023) (S 1100024) (S 1100025) (S 21) (S 1046 0) (S 1032 0) (S 1008 0) (S 1055 0) → 0 ≤ (S 1148 0) → (S 1148 0) < (S 1046 0) → 0 ≤ (S 29 (S 1148 0)) ∧ (S 29 (S 1148 0)) < (S 1032 0) ∧ 0 ≤ (S 1100007 (S 1148 0)) ∧ (S 1100007 (S 1148 0)) ≤ 396 ∧ -1 ≤ (S 1100023 (S 1148 0)) ∧ (S 1100023 (S 1148 0)) < (S 1148 0) ∧ 0 ≤ (S 26 (S 1148 0)) ∧ (S 26 (S 1148 0)) ≤ 30) → (0 ≤ (639 : Int) ∧ (639 : Int) < 640) ∧ (sv_R (S 78 (639 : Int)) → (((¬ (S 78 (639 : Int)) = (0 : Int)) → (sv_R ((S 78 (639 : Int)) - (1 : Int))) ∧ (∀ x10 : Int, ((25560 : Int) + ((S 78 (639 : Int)) - (1 : Int))) = x10 → (0 ≤ x10 ∧ x10 < 25600) ∧ (sv_R (S 80 x10) → (sv_R ((S 1100023 (S 1100031 0)))) ∧ ((S 75 639) = 647340 ∧ 0 ≤ (if 639 = (639 : Int) then (S 80 x10) else (S 74 639)) ∧ (if 639 = (639 : Int) then (S 80 x10) else (S 74 639)) ≤ 400 ∧ (if 639 = (639 : Int) then (S 80 x10) else (S 74 639)) < 400) ∧ (∀ r24 : Int, sv_R r24 → ∀ g20 : sv_S, (r24 = 647340 + (if 639 = (639 : Int) then (S 80 x10) else (S 74 639)) ∧ (g20 74 639) = (if 639 = (639 : Int) then (S 80 x10) else (S 74 639)) + 1 ∧ sm_F1 (fun i' : Int => if i' = (639 : Int) then (S 80 x10) else (S 74) i') (g20 74) 639 ∧ sm_pt (g20 68) (g20 69) (g20 70) = sm_pt (S 68) (S 69) (S 70)) → (0 ≤ p1 ∧ p1 < 647800 ∧ 635639 ≤ r24 ∧ r24 < 647800) ∧ (∀ g27 : sv_S, (sm_pt (g27 68) (g27 69) (g27 70) = sm_pt (g20 68) (g20 69) (g20 70)) → (sv_R (S 79 x10) → (29 ≤ (S 1071 0) ∧ (S 1071 0) ≤ 127 ∧ 31 ≤ (S 1008 0) ∧ (S 1008 0) ≤ 90 ∧ 1 ≤ (S 1032 0) ∧ (S 1032 0) ≤ 11 ∧ 0 ≤ (S 1055 0) ∧ (S 1055 0) ≤ 19 ∧ (S 1071 0) = 29 + 6 * ((S 1032 0) - 1) + 2 * (S 1055 0) ∧ 0 ≤ (S 1046 0) ∧ (S 1046 0) + 2 * (S 1032 0) ≤ 500 ∧ sm_PD (S 1046 0) (S 1032 0) (S 1071 0) (S 1008 0) ∧ 0 ≤ (S 1071 0) * ((S 1008 0) + 1) ∧ (S 1071 0) * ((S 1008 0) + 1) ≤ 11557 ∧ 31 ≤ (S 1007 0) ∧ (S 1007 0) ≤ 400 ∧ sm_LN (S 4) 400 (S 1007 0) ∧ (S 75 639) = 647340 ∧ sm_ST (S 71) (g20 74) (S 75) (fun i' : Int => if i' = (639 : Int) then ((S 78 (639 : Int)) - (1 : Int)) else (S 78) i') (S 79) (S 80) (S 27) (S 1100007) (S 1100023) (S 1100024) (S 1046 0) ((S 1046 0) + 2 * (S 1032 0)) (S 1127 0) ∧ 465000 ≤ (S 1127 0) ∧ (S 1127 0) + sm_hs (S 71) (S 1100007) ≤ 635000 ∧ sm_NH (S 1100007) ∧ sm_CT (S 26) (S 27) (S 28) (S 29) (S 1100007) (S 1100023) (S 1100024) (S 1100025) (S 21) (S 1046 0) (S 1032 0) (S 1008 0) (S 1055 0) ∧ (∀ k : Int, (S 1046 0) ≤ k → k < ((S 1046 0) + 2 * (S 1032 0)) → (S 1100007 k) = 1) ∧ sm_DR (S 72) (S 71) (S 1046 0) ∧ 0 ≤ (g20 74 639) ∧ (g20 74 639) ≤ 400 ∧ 0 ≤ (if 639 = (639 : Int) then ((S 78 (639 : Int)) - (1 : Int)) else (S 78 639)) ∧ (if 639 = (639 : Int) then ((S 78 (639 : Int)) - (1 : Int)) else (S 78 639)) ≤ 40 ∧ (if 639 = (639 : Int) then ((S 78 (639 : Int)) - (1 : Int)) else (S 78 639)) = sm_dp (S 1100024) ((S 1100023 (S 1100031 0))) ∧ -1 ≤ ((S 1100023 (S 1100031 0))) ∧ ((S 1100023 (S 1100031 0))) < (S 1046 0) ∧ (0 ≤ ((S 1100023 (S 1100031 0))) → (S 26 ((S 1100023 (S 1100031 0)))) = 27) ∧ sm_TC (S 79) (S 80) (S 27) (S 1100007) (S 1100023) (S 1100024) 25560 ((S 1100023 (S 1100031 0))) ∧ 0 ≤ (S 79 x10) ∧ (S 79 x10) < ((S 1046 0) + 2 * (S 1032 0)) ∧ (g20 74 639) = (S 1100007 (S 79 x10)) ∧ ((S 79 x10) < (S 1046 0) → (S 1100023 (S 79 x10)) = ((S 1100023 (S 1100031 0))))) ∧ (∀ g34 : sv_S, (sm_ST (g34 71) (g34 74) (g34 75) (g34 78) (g34 79) (g34 80) (S 27) (S 1100007) (S 1100023) (S 1100024) (S 1046 0) ((S 1046 0) + 2 * (S 1032 0)) (g34 1127 0) ∧ 465000 ≤ (g34 1127 0) ∧ (g34 1127 0) + sm_hs (g34 71) (S 1100007) ≤ 635000 ∧ (g34 75 639) = 647340 ∧ (g34 74 639) = (g20 74 639) ∧ (g34 78 639) = (if 639 = (639 : Int) then ((S 78 (639 : Int)) - (1 : Int)) else (S 78 639)) ∧ sm_TC (g34 79) (g34 80) (S 27) (S 1100007) (S 1100023) (S 1100024) 25560 ((S 1100023 (S 1100031 0))) ∧ (∀ k : Int, (S 71 k) = 1 → (g34 71 k) = 1) ∧ sm_DR (g34 72) (g34 71) (S 1046 0) ∧ (641 * (sm_cm (g34 71) + sm_pt (g34 68) (g34 69) (g34 70) + sm_pl (g34 81) (g34 82) (g34 83) (g34 84) (g34 85) (g34 86) + sm_ps (g34 76) (g34 77)) + sm_du (g34 72)) ≤ (641 * (sm_cm (S 71) + sm_pt (g27 68) (g27 69) (g27 70) + sm_pl (S 81) (S 82) (S 83) (S 84) (S 85) (S 86) + sm_ps (S 76) (S 77)) + sm_du (S 72)) ∧ (g34 71 (S 79 x10)) = 1) → (sm_ST (g34 71) (g34 74) (g34 75) (g34 78) (g34 79) (g34 80) (S 27) (S 1100007) (S 1100023) (S 1100024) (S 1046 0) ((S 1046 0) + 2 * (S 1032 0)) (g34 1127 0) ∧ 465000 ≤ (g34 1127 0) ∧ (g34 1127 0) + sm_hs (g34 71) (S 1100007) ≤ 635000 ∧ (g34 75 639) = 647340 ∧ (∀ k : Int, (S 71 k) = 1 → (g34 71 k) = 1) ∧ sm_DR (g34 72) (g34 71) (S 1046 0) ∧ (641 * (sm_cm (g34 71) + sm_pt (g34 68) (g34 69) (g34 70) + sm_pl (g34 81) (g34 82) (g34 83) (g34 84) (g34 85) (g34 86) + sm_ps (g34 76) (g34 77)) + sm_du (g34 72)) ≤ (641 * (sm_cm (S 71) + sm_pt (S 68) (S 69) (S 70) + sm_pl (S 81) (S 82) (S 83) (S 84) (S 85) (S 86) + sm_ps (S 76) (S 77)) + sm_du (S 72)))))))))) ∧ ((¬ (¬ (S 78 (639 : Int)) = (0 : Int))) → ((S 75 639) = 647340 ∧ 0 ≤ (if 639 = (639 : Int) then (0 : Int) else (S 74 639)) ∧ (if 639 = (639 : Int) then (0 : Int) else (S 74 639)) ≤ 400 ∧ (if 639 = (639 : Int) then (0 : Int) else (S 74 639)) < 400) ∧ (∀ r46 : Int, sv_R r46 → ∀ g42 : sv_S, (r46 = 647340 + (if 639 = (639 : Int) then (0 : Int) else (S 74 639)) ∧ (g42 74 639) = (if 639 = (639 : Int) then (0 : Int) else (S 74 639)) + 1 ∧ sm_F1 (fun i' : Int => if i' = (639 : Int) then (0 : Int) else (S 74) i') (g42 74) 639 ∧ sm_pt (g42 68) (g42 69) (g42 70) = sm_pt (S 68) (S 69) (S 70)) → (0 ≤ p1 ∧ p1 < 647800 ∧ 635639 ≤ r46 ∧ r46 < 647800) ∧ (∀ g49 : sv_S, (sm_pt (g49 68) (g49 69) (g49 70) = sm_pt (g42 68) (g42 69) (g42 70)) → (sv_R (S 1046 0) → (sv_R (S 1148 0) → (0 ≤ (S 1148 0) ∧ (S 1148 0) < 600) ∧ (sv_R (S 29 (S 1148 0)) → (sv_R (((S 1046 0) + ((2 : Int) * (S 29 (S 1148 0)))) + (1 : Int))) ∧ (29 ≤ (S 1071 0) ∧ (S 1071 0) ≤ 127 ∧ 31 ≤ (S 1008 0) ∧ (S 1008 0) ≤ 90 ∧ 1 ≤ (S 1032 0) ∧ (S 1032 0) ≤ 11 ∧ 0 ≤ (S 1055 0) ∧ (S 1055 0) ≤ 19 ∧ (S 1071 0) = 29 + 6 * ((S 1032 0) - 1) + 2 * (S 1055 0) ∧ 0 ≤ (S 1046 0) ∧ (S 1046 0) + 2 * (S 1032 0) ≤ 500 ∧ sm_PD (S 1046 0) (S 1032 0) (S 1071 0) (S 1008 0) ∧ 0 ≤ (S 1071 0) * ((S 1008 0) + 1) ∧ (S 1071 0) * ((S 1008 0) + 1) ≤ 11557 ∧ 31 ≤ (S 1007 0) ∧ (S 1007 0) ≤ 400 ∧ sm_LN (S 4) 400 (S 1007 0) ∧ (S 75 639) = 647340 ∧ sm_ST (S 71) (g42 74) (S 75) (S 78) (S 79) (S 80) (S 27) (S 1100007) (S 1100023) (S 1100024) (S 1046 0) ((S 1046 0) + 2 * (S 1032 0)) (S 1127 0) ∧ 465000 ≤ (S 1127 0) ∧ (S 1127 0) + sm_hs (S 71) (S 1100007) ≤ 635000 ∧ sm_NH (S 1100007) ∧ sm_CT (S 26) (S 27) (S 28) (S 29) (S 1100007) (S 1100023) (S 1100024) (S 1100025) (S 21) (S 1046 0) (S 1032 0) (S 1008 0) (S 1055 0) ∧ (∀ k : Int, (S 1046 0) ≤ k → k < ((S 1046 0) + 2 * (S 1032 0)) → (S 1100007 k) = 1) ∧ sm_DR (S 72) (S 71) (S 1046 0) ∧ 0 ≤ (g42 74 639) ∧ (g42 74 639) ≤ 400 ∧ 0 ≤ (S 78 639) ∧ (S 78 639) ≤ 40 ∧ (S 78 639) = sm_dp (S 1100024) (S 1100031 0) ∧ -1 ≤ (S 1100031 0) ∧ (S 1100031 0) < (S 1046 0) ∧ (0 ≤ (S 1100031 0) → (S 26 (S 1100031 0)) = 27) ∧ sm_TC (S 79) (S 80) (S 27) (S 1100007) (S 1100023) (S 1100024) 25560 (S 1100031 0) ∧ 0 ≤ (((S 1046 0) + ((2 : Int) * (S 29 (S 1148 0)))) + (1 : Int)) ∧ (((S 1046 0) + ((2 : Int) * (S 29 (S 1148 0)))) + (1 : Int)) < ((S 1046 0) + 2 * (S 1032 0)) ∧ (g42 74 639) = (S 1100007 (((S 1046 0) + ((2 : Int) * (S 29 (S 1148 0)))) + (1 : Int))) ∧ ((((S 1046 0) + ((2 : Int) * (S 29 (S 1148 0)))) + (1 : Int)) < (S 1046 0) → (S 1100023 (((S 1046 0) + ((2 : Int) * (S 29 (S 1148 0)))) + (1 : Int))) = (S 1100031 0))) ∧ (∀ g60 : sv_S, (sm_ST (g60 71) (g60 74) (g60 75) (g60 78) (g60 79) (g60 80) (S 27) (S 1100007) (S 1100023) (S 1100024) (S 1046 0) ((S 1046 0) + 2 * (S 1032 0)) (g60 1127 0) ∧ 465000 ≤ (g60 1127 0) ∧ (g60 1127 0) + sm_hs (g60 71) (S 1100007) ≤ 635000 ∧ (g60 75 639) = 647340 ∧ (g60 74 639) = (g42 74 639) ∧ (g60 78 639) = (S 78 639) ∧ sm_TC (g60 79) (g60 80) (S 27) (S 1100007) (S 1100023) (S 1100024) 25560 (S 1100031 0) ∧ (∀ k : Int, (S 71 k) = 1 → (g60 71 k) = 1) ∧ sm_DR (g60 72) (g60 71) (S 1046 0) ∧ (641 * (sm_cm (g60 71) + sm_pt (g60 68) (g60 69) (g60 70) + sm_pl (g60 81) (g60 82) (g60 83) (g60 84) (g60 85) (g60 86) + sm_ps (g60 76) (g60 77)) + sm_du (g60 72)) ≤ (641 * (sm_cm (S 71) + sm_pt (g49 68) (g49 69) (g49 70) + sm_pl (S 81) (S 82) (S 83) (S 84) (S 85) (S 86) + sm_ps (S 76) (S 77)) + sm_du (S 72)) ∧ (g60 71 (((S 1046 0) + ((2 : Int) * (S 29 (S 1148 0)))) + (1 : Int))) = 1) → (sm_ST (g60 71) (g60 74) (g60 75) (g60 78) (g60 79) (g60 80) (S 27) (S 1100007) (S 1100023) (S 1100024) (S 1046 0) ((S 1046 0) + 2 * (S 1032 0)) (g60 1127 0) ∧ 465000 ≤ (g60 1127 0) ∧ (g60 1127 0) + sm_hs (g60 71) (S 1100007) ≤ 635000 ∧ (g60 75 639) = 647340 ∧ (∀ k : Int, (S 71 k) = 1 → (g60 71 k) = 1) ∧ sm_DR (g60 72) (g60 71) (S 1046 0) ∧ (641 * (sm_cm (g60 71) + sm_pt (g60 68) (g60 69) (g60 70) + sm_pl (g60 81) (g60 82) (g60 83) (g60 84) (g60 85) (g60 86) + sm_ps (g60 76) (g60 77)) + sm_du (g60 72)) ≤ (641 * (sm_cm (S 71) + sm_pt (S 68) (S 69) (S 70) + sm_pl (S 81) (S 82) (S 83) (S 84) (S 85) (S 86) + sm_ps (S 76) (S 77)) + sm_du (S 72)))))))))))))))) := by
  intro p1
  intro S
  intro h1_
  intro h2_
  rintro ⟨h3_, ⟨h4_, ⟨h5_, ⟨h6_, ⟨h7_, ⟨h8_, ⟨h9_, ⟨h10_, ⟨h11_, ⟨h12_, ⟨h13_, ⟨h14_, ⟨h15_, ⟨h16_, ⟨h17_, ⟨h18_, ⟨h19_, ⟨h20_, ⟨h21_, ⟨h22_, ⟨h23_, ⟨h24_, ⟨h25_, ⟨h26_, ⟨h27_, ⟨h28_, ⟨h29_, ⟨h30_, ⟨h31_, ⟨h32_, ⟨h33_, ⟨h34_, ⟨h35_, ⟨h36_, ⟨h37_, ⟨h38_, ⟨h39_, h40_⟩⟩⟩⟩⟩⟩⟩⟩⟩⟩⟩⟩⟩⟩⟩⟩⟩⟩⟩⟩⟩⟩⟩⟩⟩⟩⟩⟩⟩⟩⟩⟩⟩⟩⟩⟩⟩
  intro h41_
  intro h42_
  intro h43_
  have h44_ := (h43_ h25_)
  have h45_ := (h44_ h36_)
  intro h46_
  have h47_ := (h46_ h25_)
  have h48_ := (h47_ h37_)
  obtain ⟨h49_, ⟨h50_, ⟨h51_, ⟨h52_, ⟨h53_, ⟨h54_, ⟨h55_, h56_⟩⟩⟩⟩⟩⟩⟩ := (h48_ h38_)
  refine ⟨la_tossSet_0, ?_⟩
  intro h57_
  refine ⟨?_, ?_⟩
  · skip
    intro h58_
    have h59_ : ¬ (S 1100031 0 < 0) := fun q_ => (la_tossSet_2 h32_ (la_tossSet_1 h30_ h58_)) (h41_ q_)
    have h60_ := (h42_ (la_tossSet_3 h59_))
    have h61_ := (h45_ (la_tossSet_3 h59_))
    have h62_ := (h35_ (la_tossSet_3 h59_))
    have h63_ := (h61_ h34_)
    obtain ⟨⟨h64_, ⟨h65_, ⟨h66_, ⟨h67_, ⟨h68_, h69_⟩⟩⟩⟩⟩, ⟨⟨h70_, ⟨h71_, ⟨h72_, h73_⟩⟩⟩, ⟨⟨h74_, ⟨h75_, ⟨h76_, h77_⟩⟩⟩, ⟨h78_, h79_⟩⟩⟩⟩ := (h63_ h62_)
    refine ⟨(la_tossSet_4 h31_ (la_tossSet_1 h30_ h58_)), ?_⟩
    intro x10
    intro h80_
    refine ⟨(la_tossSet_5 h31_ (la_tossSet_1 h30_ h58_) h80_), ?_⟩
    intro h81_
    refine ⟨(la_tossSet_6 h7_ h13_ h34_ h68_ h69_), ?_⟩
    refine ⟨?_, ?_⟩
    · skip
      refine ⟨h20_, ?_⟩
      refine ⟨?_, ?_⟩
      · skip
        have h82_ := (h26_ (S 27 (S 1100031 0)))
        have h83_ := (h26_ (S 1100031 0))
        have h84_ := (h26_ (S 1148 0))
        have e85_ : (if (639 : Int) = 639 then S 80 x10 else S 74 639 : Int) = S 80 x10 := if_pos la_tossSet_7
        have e86_ : S 80 x10 = S 80 (25560 + S 1100024 (S 1100031 0)) := congrArg ((S 80)) (la_tossSet_9 h32_ h60_ h80_)
        exact (la_tossSet_10 h71_ h72_ e85_ e86_)
      refine ⟨?_, ?_⟩
      · skip
        have h87_ := (h26_ (S 27 (S 1100031 0)))
        have h88_ := (h26_ (S 1100031 0))
        have h89_ := (h26_ (S 1148 0))
        have e90_ : (if (639 : Int) = 639 then S 80 x10 else S 74 639 : Int) = S 80 x10 := if_pos la_tossSet_7
        have e91_ : S 80 x10 = S 80 (25560 + S 1100024 (S 1100031 0)) := congrArg ((S 80)) (la_tossSet_9 h32_ h60_ h80_)
        exact (la_tossSet_11 h71_ h73_ e90_ e91_)
      have h92_ := (h26_ (S 27 (S 1100031 0)))
      have h93_ := (h26_ (S 1100031 0))
      have h94_ := (h26_ (S 1148 0))
      have e95_ : (if (639 : Int) = 639 then S 80 x10 else S 74 639 : Int) = S 80 x10 := if_pos la_tossSet_7
      have e96_ : S 80 x10 = S 80 (25560 + S 1100024 (S 1100031 0)) := congrArg ((S 80)) (la_tossSet_9 h32_ h60_ h80_)
      exact (la_tossSet_12 h71_ h73_ e95_ e96_)
    intro r24
    intro h97_
    intro g20
    rintro ⟨h98_, ⟨h99_, ⟨h100_, h101_⟩⟩⟩
    have e102_ : (if (639 : Int) = 639 then S 80 x10 else S 74 639 : Int) = S 80 x10 := if_pos la_tossSet_7
    refine ⟨?_, ?_⟩
    · skip
      refine ⟨h39_, ?_⟩
      refine ⟨h40_, ?_⟩
      refine ⟨?_, ?_⟩
      · skip
        have h103_ := (h26_ (S 27 (S 1100031 0)))
        have h104_ := (h26_ (S 1100031 0))
        have h105_ := (h26_ (S 1148 0))
        have e106_ : S 80 x10 = S 80 (25560 + S 1100024 (S 1100031 0)) := congrArg ((S 80)) (la_tossSet_9 h32_ h60_ h80_)
        exact (la_tossSet_13 h71_ h72_ h98_ e102_ e106_)
      have h107_ := (h26_ (S 27 (S 1100031 0)))
      have h108_ := (h26_ (S 1100031 0))
      have h109_ := (h26_ (S 1148 0))
      have e110_ : S 80 x10 = S 80 (25560 + S 1100024 (S 1100031 0)) := congrArg ((S 80)) (la_tossSet_9 h32_ h60_ h80_)
      exact (la_tossSet_14 h71_ h73_ h98_ e102_ e110_)
    intro g27
    intro h111_
    intro h112_
    refine ⟨?_, ?_⟩
    · skip
      refine ⟨h3_, ?_⟩
      refine ⟨h4_, ?_⟩
      refine ⟨h5_, ?_⟩
      refine ⟨h6_, ?_⟩
      refine ⟨h7_, ?_⟩
      refine ⟨h8_, ?_⟩
      refine ⟨h9_, ?_⟩
      refine ⟨h10_, ?_⟩
      refine ⟨h11_, ?_⟩
      refine ⟨h12_, ?_⟩
      refine ⟨h13_, ?_⟩
      refine ⟨h14_, ?_⟩
      refine ⟨h15_, ?_⟩
      refine ⟨h16_, ?_⟩
      refine ⟨h17_, ?_⟩
      refine ⟨h18_, ?_⟩
      refine ⟨h19_, ?_⟩
      refine ⟨h20_, ?_⟩
      refine ⟨(sm_ST_F h21_ (la_tossSet_15 h13_) (sm_F1_tr (sm_F1_up sm_F1_rf (Int.le_refl _)) h100_ (Int.le_refl _)) sm_F1_rf (sm_F1_up sm_F1_rf (Int.le_refl _)) sm_F1_rf sm_F1_rf), ?_⟩
      refine ⟨h22_, ?_⟩
      refine ⟨h23_, ?_⟩
      refine ⟨h24_, ?_⟩
      refine ⟨h25_, ?_⟩
      refine ⟨h26_, ?_⟩
      refine ⟨h27_, ?_⟩
      refine ⟨?_, ?_⟩
      · skip
        have h113_ := (h26_ (S 27 (S 1100031 0)))
        have h114_ := (h26_ (S 1100031 0))
        have h115_ := (h26_ (S 1148 0))
        have e116_ : S 79 x10 = S 79 (25560 + S 1100024 (S 1100031 0)) := congrArg ((S 79)) (la_tossSet_9 h32_ h60_ h80_)
        have e117_ : S 80 x10 = S 80 (25560 + S 1100024 (S 1100031 0)) := congrArg ((S 80)) (la_tossSet_9 h32_ h60_ h80_)
        exact (la_tossSet_16 h71_ h72_ h99_ e102_ e117_)
      refine ⟨?_, ?_⟩
      · skip
        have h118_ := (h26_ (S 27 (S 1100031 0)))
        have h119_ := (h26_ (S 1100031 0))
        have h120_ := (h26_ (S 1148 0))
        have e121_ : S 79 x10 = S 79 (25560 + S 1100024 (S 1100031 0)) := congrArg ((S 79)) (la_tossSet_9 h32_ h60_ h80_)
        have e122_ : S 80 x10 = S 80 (25560 + S 1100024 (S 1100031 0)) := congrArg ((S 80)) (la_tossSet_9 h32_ h60_ h80_)
        exact (la_tossSet_17 h71_ h73_ h99_ e102_ e122_)
      refine ⟨?_, ?_⟩
      · skip
        have h123_ := (h26_ (S 27 (S 1100031 0)))
        have h124_ := (h26_ (S 1100031 0))
        have h125_ := (h26_ (S 1148 0))
        have e126_ : (if (639 : Int) = 639 then S 78 639 - 1 else S 78 639 : Int) = S 78 639 - 1 := if_pos la_tossSet_7
        have e127_ : S 79 x10 = S 79 (25560 + S 1100024 (S 1100031 0)) := congrArg ((S 79)) (la_tossSet_9 h32_ h60_ h80_)
        have e128_ : S 80 x10 = S 80 (25560 + S 1100024 (S 1100031 0)) := congrArg ((S 80)) (la_tossSet_9 h32_ h60_ h80_)
        exact (la_tossSet_18 (la_tossSet_1 h30_ h58_) e126_)
      refine ⟨?_, ?_⟩
      · skip
        have h129_ := (h26_ (S 27 (S 1100031 0)))
        have h130_ := (h26_ (S 1100031 0))
        have h131_ := (h26_ (S 1148 0))
        have e132_ : (if (639 : Int) = 639 then S 78 639 - 1 else S 78 639 : Int) = S 78 639 - 1 := if_pos la_tossSet_7
        have e133_ : S 79 x10 = S 79 (25560 + S 1100024 (S 1100031 0)) := congrArg ((S 79)) (la_tossSet_9 h32_ h60_ h80_)
        have e134_ : S 80 x10 = S 80 (25560 + S 1100024 (S 1100031 0)) := congrArg ((S 80)) (la_tossSet_9 h32_ h60_ h80_)
        exact (la_tossSet_19 h31_ e132_)
      refine ⟨?_, ?_⟩
      · skip
        have h135_ := (h26_ (S 27 (S 1100031 0)))
        have h136_ := (h26_ (S 1100031 0))
        have h137_ := (h26_ (S 1148 0))
        have e138_ : (if (639 : Int) = 639 then S 78 639 - 1 else S 78 639 : Int) = S 78 639 - 1 := if_pos la_tossSet_7
        have e139_ : S 79 x10 = S 79 (25560 + S 1100024 (S 1100031 0)) := congrArg ((S 79)) (la_tossSet_9 h32_ h60_ h80_)
        have e140_ : S 80 x10 = S 80 (25560 + S 1100024 (S 1100031 0)) := congrArg ((S 80)) (la_tossSet_9 h32_ h60_ h80_)
        exact (la_tossSet_20 h32_ h60_ h67_ e138_)
      refine ⟨h68_, ?_⟩
      refine ⟨(la_tossSet_21 h34_ h69_), ?_⟩
      refine ⟨h78_, ?_⟩
      refine ⟨h79_, ?_⟩
      refine ⟨?_, ?_⟩
      · skip
        have h141_ := (h26_ (S 27 (S 1100031 0)))
        have h142_ := (h26_ (S 1100031 0))
        have h143_ := (h26_ (S 1148 0))
        have e144_ : S 79 x10 = S 79 (25560 + S 1100024 (S 1100031 0)) := congrArg ((S 79)) (la_tossSet_9 h32_ h60_ h80_)
        have e145_ : S 80 x10 = S 80 (25560 + S 1100024 (S 1100031 0)) := congrArg ((S 80)) (la_tossSet_9 h32_ h60_ h80_)
        exact (la_tossSet_22 h70_ h74_ e144_)
      refine ⟨?_, ?_⟩
      · skip
        have h146_ := (h26_ (S 27 (S 1100031 0)))
        have h147_ := (h26_ (S 1100031 0))
        have h148_ := (h26_ (S 1148 0))
        have e149_ : S 79 x10 = S 79 (25560 + S 1100024 (S 1100031 0)) := congrArg ((S 79)) (la_tossSet_9 h32_ h60_ h80_)
        have e150_ : S 80 x10 = S 80 (25560 + S 1100024 (S 1100031 0)) := congrArg ((S 80)) (la_tossSet_9 h32_ h60_ h80_)
        exact (la_tossSet_23 h7_ h70_ h75_ e149_)
      refine ⟨?_, ?_⟩
      · skip
        have h151_ := (h26_ (S 27 (S 1100031 0)))
        have h152_ := (h26_ (S 1100031 0))
        have h153_ := (h26_ (S 1148 0))
        have h154_ := (h26_ (S 79 x10))
        have e155_ : S 79 x10 = S 79 (25560 + S 1100024 (S 1100031 0)) := congrArg ((S 79)) (la_tossSet_9 h32_ h60_ h80_)
        have e156_ : S 80 x10 = S 80 (25560 + S 1100024 (S 1100031 0)) := congrArg ((S 80)) (la_tossSet_9 h32_ h60_ h80_)
        have e157_ : S 1100007 (S 79 x10) = S 1100007 (S 27 (S 1100031 0)) := congrArg ((S 1100007)) (la_tossSet_25 h70_ e155_)
        exact (la_tossSet_26 h71_ h76_ h99_ e102_ e156_ e157_)
      intro h158_
      have h159_ := (h26_ (S 27 (S 1100031 0)))
      have h160_ := (h26_ (S 1100031 0))
      have h161_ := (h26_ (S 1148 0))
      have e162_ : S 79 x10 = S 79 (25560 + S 1100024 (S 1100031 0)) := congrArg ((S 79)) (la_tossSet_9 h32_ h60_ h80_)
      have e163_ : S 80 x10 = S 80 (25560 + S 1100024 (S 1100031 0)) := congrArg ((S 80)) (la_tossSet_9 h32_ h60_ h80_)
      have e164_ : S 1100023 (S 79 x10) = S 1100023 (S 27 (S 1100031 0)) := congrArg ((S 1100023)) (la_tossSet_25 h70_ e162_)
      exact (la_tossSet_25 h77_ e164_)
    intro g34
    rintro ⟨h165_, ⟨h166_, ⟨h167_, ⟨h168_, ⟨h169_, ⟨h170_, ⟨h171_, ⟨h172_, ⟨h173_, ⟨h174_, h175_⟩⟩⟩⟩⟩⟩⟩⟩⟩⟩
    have e176_ : (if (639 : Int) = 639 then S 78 639 - 1 else S 78 639 : Int) = S 78 639 - 1 := if_pos la_tossSet_7
    refine ⟨h165_, ?_⟩
    refine ⟨h166_, ?_⟩
    refine ⟨h167_, ?_⟩
    refine ⟨h168_, ?_⟩
    refine ⟨h172_, ?_⟩
    refine ⟨h173_, ?_⟩
    exact (la_tossSet_27 h101_ h111_ h174_)
  intro h177_
  refine ⟨?_, ?_⟩
  · skip
    refine ⟨h20_, ?_⟩
    refine ⟨?_, ?_⟩
    · skip
      have h178_ := (h26_ (S 1148 0))
      have e179_ : (if (639 : Int) = 639 then 0 else S 74 639 : Int) = 0 := if_pos la_tossSet_7
      exact (la_tossSet_28 e179_)
    refine ⟨?_, ?_⟩
    · skip
      have h180_ := (h26_ (S 1148 0))
      have e181_ : (if (639 : Int) = 639 then 0 else S 74 639 : Int) = 0 := if_pos la_tossSet_7
      exact (la_tossSet_29 e181_)
    have h182_ := (h26_ (S 1148 0))
    have e183_ : (if (639 : Int) = 639 then 0 else S 74 639 : Int) = 0 := if_pos la_tossSet_7
    exact (la_tossSet_30 e183_)
  intro r46
  intro h184_
  intro g42
  rintro ⟨h185_, ⟨h186_, ⟨h187_, h188_⟩⟩⟩
  have e189_ : (if (639 : Int) = 639 then 0 else S 74 639 : Int) = 0 := if_pos la_tossSet_7
  refine ⟨(la_tossSet_31 h39_ h40_ h185_ e189_), ?_⟩
  intro g49
  intro h190_
  intro h191_
  intro h192_
  refine ⟨(la_tossSet_32 h7_ h13_ h37_ h38_), ?_⟩
  intro h193_
  refine ⟨(la_tossSet_33 h12_ h13_ h49_ h50_), ?_⟩
  refine ⟨?_, ?_⟩
  · skip
    refine ⟨h3_, ?_⟩
    refine ⟨h4_, ?_⟩
    refine ⟨h5_, ?_⟩
    refine ⟨h6_, ?_⟩
    refine ⟨h7_, ?_⟩
    refine ⟨h8_, ?_⟩
    refine ⟨h9_, ?_⟩
    refine ⟨h10_, ?_⟩
    refine ⟨h11_, ?_⟩
    refine ⟨h12_, ?_⟩
    refine ⟨h13_, ?_⟩
    refine ⟨h14_, ?_⟩
    refine ⟨h15_, ?_⟩
    refine ⟨h16_, ?_⟩
    refine ⟨h17_, ?_⟩
    refine ⟨h18_, ?_⟩
    refine ⟨h19_, ?_⟩
    refine ⟨h20_, ?_⟩
    refine ⟨(sm_ST_F h21_ (la_tossSet_15 h13_) (sm_F1_tr (sm_F1_up sm_F1_rf (Int.le_refl _)) h187_ (Int.le_refl _)) sm_F1_rf sm_F1_rf sm_F1_rf sm_F1_rf), ?_⟩
    refine ⟨h22_, ?_⟩
    refine ⟨h23_, ?_⟩
    refine ⟨h24_, ?_⟩
    refine ⟨h25_, ?_⟩
    refine ⟨h26_, ?_⟩
    refine ⟨h27_, ?_⟩
    refine ⟨(la_tossSet_34 h186_ e189_), ?_⟩
    refine ⟨(la_tossSet_35 h186_ e189_), ?_⟩
    refine ⟨h30_, ?_⟩
    refine ⟨h31_, ?_⟩
    refine ⟨h32_, ?_⟩
    refine ⟨h33_, ?_⟩
    refine ⟨h34_, ?_⟩
    refine ⟨h35_, ?_⟩
    refine ⟨h36_, ?_⟩
    refine ⟨(la_tossSet_36 h37_ h38_ h49_), ?_⟩
    refine ⟨(la_tossSet_37 h50_), ?_⟩
    refine ⟨?_, ?_⟩
    · skip
      have h194_ := (h26_ (S 1148 0))
      have h195_ := (((h26_ (S 1046 0 + 2 * S 29 (S 1148 0) + 1)) (la_tossSet_38 h49_)) (la_tossSet_37 h50_))
      exact (la_tossSet_39 h186_ e189_ h195_)
    intro h196_
    have h197_ := (h35_ (la_tossSet_40 h49_ h196_))
    have h198_ := (h41_ (la_tossSet_41 h49_ h196_))
    have h199_ := (h42_ (la_tossSet_40 h49_ h196_))
    have h200_ := (h45_ (la_tossSet_40 h49_ h196_))
    have h201_ := (h200_ h34_)
    obtain ⟨⟨h202_, ⟨h203_, ⟨h204_, ⟨h205_, ⟨h206_, h207_⟩⟩⟩⟩⟩, ⟨⟨h208_, ⟨h209_, ⟨h210_, h211_⟩⟩⟩, ⟨⟨h212_, ⟨h213_, ⟨h214_, h215_⟩⟩⟩, ⟨h216_, h217_⟩⟩⟩⟩ := (h201_ h197_)
    have h218_ := (h216_ (la_tossSet_40 h49_ h196_))
    exact (la_tossSet_42 h49_ h196_)
  intro g60
  rintro ⟨h219_, ⟨h220_, ⟨h221_, ⟨h222_, ⟨h223_, ⟨h224_, ⟨h225_, ⟨h226_, ⟨h227_, ⟨h228_, h229_⟩⟩⟩⟩⟩⟩⟩⟩⟩⟩
  refine ⟨h219_, ?_⟩
  refine ⟨h220_, ?_⟩
  refine ⟨h221_, ?_⟩
  refine ⟨h222_, ?_⟩
  refine ⟨h226_, ?_⟩
  refine ⟨h227_, ?_⟩
  exact (la_tossSet_27 h188_ h190_ h228_)
set_option maxRecDepth 8000 in
set_option maxHeartbeats 2000000 in
theorem t_tossSet : ∀ (p1 : Int) (S : sv_S), sm_ok S → sv_R p1 → (29 ≤ (S 1071 0) ∧ (S 1071 0) ≤ 127 ∧ 31 ≤ (S 1008 0) ∧ (S 1008 0) ≤ 90 ∧ 1 ≤ (S 1032 0) ∧ (S 1032 0) ≤ 11 ∧ 0 ≤ (S 1055 0) ∧ (S 1055 0) ≤ 19 ∧ (S 1071 0) = 29 + 6 * ((S 1032 0) - 1) + 2 * (S 1055 0) ∧ 0 ≤ (S 1046 0) ∧ (S 1046 0) + 2 * (S 1032 0) ≤ 500 ∧ sm_PD (S 1046 0) (S 1032 0) (S 1071 0) (S 1008 0) ∧ 0 ≤ (S 1071 0) * ((S 1008 0) + 1) ∧ (S 1071 0) * ((S 1008 0) + 1) ≤ 11557 ∧ 31 ≤ (S 1007 0) ∧ (S 1007 0) ≤ 400 ∧ sm_LN (S 4) 400 (S 1007 0) ∧ (S 75 639) = 647340 ∧ sm_ST (S 71) (S 74) (S 75) (S 78) (S 79) (S 80) (S 27) (S 1100007) (S 1100023) (S 1100024) (S 1046 0) ((S 1046 0) + 2 * (S 1032 0)) (S 1127 0) ∧ 465000 ≤ (S 1127 0) ∧ (S 1127 0) + sm_hs (S 71) (S 1100007) ≤ 635000 ∧ sm_NH (S 1100007) ∧ sm_CT (S 26) (S 27) (S 28) (S 29) (S 1100007) (S 1100023) (S 1100024) (S 1100025) (S 21) (S 1046 0) (S 1032 0) (S 1008 0) (S 1055 0) ∧ (∀ k : Int, (S 1046 0) ≤ k → k < ((S 1046 0) + 2 * (S 1032 0)) → (S 1100007 k) = 1) ∧ sm_DR (S 72) (S 71) (S 1046 0) ∧ 0 ≤ (S 74 639) ∧ (S 74 639) ≤ 400 ∧ 0 ≤ (S 78 639) ∧ (S 78 639) ≤ 40 ∧ (S 78 639) = sm_dp (S 1100024) (S 1100031 0) ∧ -1 ≤ (S 1100031 0) ∧ (S 1100031 0) < (S 1046 0) ∧ (0 ≤ (S 1100031 0) → (S 26 (S 1100031 0)) = 27) ∧ sm_TC (S 79) (S 80) (S 27) (S 1100007) (S 1100023) (S 1100024) 25560 (S 1100031 0) ∧ 0 ≤ (S 1148 0) ∧ (S 1148 0) < (S 1046 0) ∧ 0 ≤ p1 ∧ p1 < 647800) → sv_T sm_XS sm_cs sm_L sm_sh 4 (q_tossSet p1 S) 261 0 (lv_args 0 [.ref 0, sv_I p1]) [] S := by
  intro p1 S hok hp1 hpre
  have h := f_tossSet p1 S hok hp1 hpre
  have hM := sm_h261
  show sv_T sm_XS sm_cs sm_L sm_sh 4 (q_tossSet p1 S) 261 0 [(0, .ref 0), (1, sv_I p1)] [] S
  have k1 : ((S 1100031 0) < 0 → sm_dp (S 1100024) (S 1100031 0) = 0) := sm_dp_n
  have h := h k1
  have k2 : (0 ≤ (S 1100031 0) → sm_dp (S 1100024) (S 1100031 0) = (S 1100024 (S 1100031 0)) + 1) := sm_dp_s
  have h := h k2
  have k3 : (sm_CT (S 26) (S 27) (S 28) (S 29) (S 1100007) (S 1100023) (S 1100024) (S 1100025) (S 21) (S 1046 0) (S 1032 0) (S 1008 0) (S 1055 0) → sm_TC (S 79) (S 80) (S 27) (S 1100007) (S 1100023) (S 1100024) 25560 (S 1100031 0) → 0 ≤ (S 1100031 0) → (S 1100031 0) < (S 1046 0) → (S 26 (S 1100031 0)) = 27 → (0 ≤ (S 1100024 (S 1100031 0)) ∧ (S 1100024 (S 1100031 0)) < 40 ∧ sm_dp (S 1100024) (S 1100031 0) = (S 1100024 (S 1100031 0)) + 1 ∧ (S 1100024 (S 1100031 0)) = sm_dp (S 1100024) (S 1100023 (S 1100031 0)) ∧ -1 ≤ (S 1100023 (S 1100031 0)) ∧ (S 1100023 (S 1100031 0)) < (S 1100031 0)) ∧ ((S 79 (25560 + (S 1100024 (S 1100031 0)))) = (S 27 (S 1100031 0)) ∧ (S 80 (25560 + (S 1100024 (S 1100031 0)))) = (S 1100007 (S 1100031 0)) ∧ 0 ≤ (S 1100007 (S 1100031 0)) ∧ (S 1100007 (S 1100031 0)) ≤ 396) ∧ (0 ≤ (S 27 (S 1100031 0)) ∧ (S 27 (S 1100031 0)) < (S 1046 0) ∧ (S 1100007 (S 27 (S 1100031 0))) = (S 1100007 (S 1100031 0)) + 1 ∧ (S 1100023 (S 27 (S 1100031 0))) = (S 1100023 (S 1100031 0))) ∧ (0 ≤ (S 1100023 (S 1100031 0)) → (S 26 (S 1100023 (S 1100031 0))) = 27) ∧ sm_TC (S 79) (S 80) (S 27) (S 1100007) (S 1100023) (S 1100024) 25560 (S 1100023 (S 1100031 0))) := sm_TC_toss
  have h := h k3
  have k4 : (sm_CT (S 26) (S 27) (S 28) (S 29) (S 1100007) (S 1100023) (S 1100024) (S 1100025) (S 21) (S 1046 0) (S 1032 0) (S 1008 0) (S 1055 0) → 0 ≤ (S 1148 0) → (S 1148 0) < (S 1046 0) → 0 ≤ (S 29 (S 1148 0)) ∧ (S 29 (S 1148 0)) < (S 1032 0) ∧ 0 ≤ (S 1100007 (S 1148 0)) ∧ (S 1100007 (S 1148 0)) ≤ 396 ∧ -1 ≤ (S 1100023 (S 1148 0)) ∧ (S 1100023 (S 1148 0)) < (S 1148 0) ∧ 0 ≤ (S 26 (S 1148 0)) ∧ (S 26 (S 1148 0)) ≤ 30) := fun h h0 h1 => by have q := sm_ct_0 h _ h0 h1; exact ⟨q.2.2.1, q.2.2.2.1, q.2.2.2.2.1, q.2.2.2.2.2.1, q.2.2.2.2.2.2.2.1, q.2.2.2.2.2.2.2.2.1, q.1, q.2.1⟩
  have h := h k4
  refine sv_aload_n hM dX12_tossSet_0 rfl rfl ?_
  refine sv_getA hM dX12_tossSet_1 sm_fl_247 (sm_a0 _) sm_k130 rfl ?_
  refine sv_sipush (d := (639 : Int)) hM dX12_tossSet_4 rfl rfl ?_
  obtain ⟨o5, h⟩ := h
  have k6 : sv_R (S 78 (639 : Int)) := sm_okI hok sm_r78 (639 : Int)
  have h := h k6
  refine sv_iald hM dX12_tossSet_7 (sm_a78 _) (by decide) o5.1 o5.2 rfl (x := (S 78 (639 : Int))) rfl ?_
  refine sv_cond_ne hM dX12_tossSet_8 k6 (t := 52) rfl rfl (fun hc => ?_) (fun hc => ?_)
  · have h := h.1 (hc)
    refine sv_aload_n hM dX12_tossSet_52 rfl rfl ?_
    refine sv_getA hM dX12_tossSet_53 sm_fl_247 (sm_a0 _) sm_k130 rfl ?_
    refine sv_sipush (d := (639 : Int)) hM dX12_tossSet_56 rfl rfl ?_
    refine sv_dup2 hM dX12_tossSet_59 rfl ?_
    refine sv_iald hM dX12_tossSet_60 (sm_a78 _) (by decide) o5.1 o5.2 rfl (x := (S 78 (639 : Int))) rfl ?_
    refine sv_iconst (d := (1 : Int)) hM dX12_tossSet_61 rfl rfl ?_
    refine sv_isub hM dX12_tossSet_62 rfl ?_
    obtain ⟨o7, h⟩ := h
    refine sv_iast sm_X hM dX12_tossSet_63 (sm_a78 _) (by decide) o5.1 o5.2 rfl ?_
    have ok8 : sm_ok (sv_up S 78 (639 : Int) ((S 78 (639 : Int)) - (1 : Int))) := sm_upI hok sm_r78 o7
    have md9 : sv_mod [68, 69, 70, 81, 82, 83, 84, 85, 86, 71, 74, 75, 1127, 78, 79, 80, 72, 76, 77, 1100031] S (sv_up S 78 (639 : Int) ((S 78 (639 : Int)) - (1 : Int))) := sv_mod.up sv_mod.rf (by decide)
    refine sv_sipush (d := (25560 : Int)) hM dX12_tossSet_64 rfl rfl ?_
    refine sv_aload_n hM dX12_tossSet_67 rfl rfl ?_
    refine sv_getA hM dX12_tossSet_68 sm_fl_247 (sm_a0 _) sm_k130 rfl ?_
    refine sv_sipush (d := (639 : Int)) hM dX12_tossSet_71 rfl rfl ?_
    refine sv_iald hM dX12_tossSet_74 (sm_a78 _) (by decide) o5.1 o5.2 rfl (x := ((S 78 (639 : Int)) - (1 : Int))) rfl ?_
    refine sv_iadd hM dX12_tossSet_75 rfl ?_
    obtain ⟨x10, e11⟩ : ∃ x : Int, ((25560 : Int) + ((S 78 (639 : Int)) - (1 : Int))) = x := ⟨_, rfl⟩
    have h := h x10 e11
    refine sv_nameI e11 ?_
    refine sv_istore_n hM dX12_tossSet_76 (by decide) rfl ?_
    show sv_T sm_XS sm_cs sm_L sm_sh 4 (q_tossSet p1 S) 261 77 [(0, .ref 0), (1, sv_I p1), (2, sv_I x10)] [] (sv_up S 78 (639 : Int) ((S 78 (639 : Int)) - (1 : Int)))
    refine sv_aload_n hM dX12_tossSet_77 rfl rfl ?_
    refine sv_getA hM dX12_tossSet_78 sm_fl_235 (sm_a0 _) sm_k125 rfl ?_
    refine sv_sipush (d := (639 : Int)) hM dX12_tossSet_81 rfl rfl ?_
    refine sv_aload_n hM dX12_tossSet_84 rfl rfl ?_
    refine sv_getA hM dX12_tossSet_85 sm_fl_253 (sm_a0 _) sm_k132 rfl ?_
    refine sv_iload_n hM dX12_tossSet_88 rfl rfl ?_
    obtain ⟨o12, h⟩ := h
    have k13 : sv_R (S 80 x10) := sm_okI ok8 sm_r80 x10
    have h := h k13
    refine sv_iald hM dX12_tossSet_89 (sm_a80 _) (by decide) o12.1 o12.2 rfl (x := (S 80 x10)) rfl ?_
    refine sv_iast sm_X hM dX12_tossSet_90 (sm_a74 _) (by decide) o5.1 o5.2 rfl ?_
    have ok14 : sm_ok (sv_up (sv_up S 78 (639 : Int) ((S 78 (639 : Int)) - (1 : Int))) 74 (639 : Int) (S 80 x10)) := sm_upI ok8 sm_r74 k13
    have md15 : sv_mod [68, 69, 70, 81, 82, 83, 84, 85, 86, 71, 74, 75, 1127, 78, 79, 80, 72, 76, 77, 1100031] S (sv_up (sv_up S 78 (639 : Int) ((S 78 (639 : Int)) - (1 : Int))) 74 (639 : Int) (S 80 x10)) := sv_mod.up md9 (by decide)
    obtain ⟨o16, h⟩ := h
    refine sv_ghost sm_X 1100031 0 ((S 1100023 (S 1100031 0))) (by decide) ?_
    have ok17 : sm_ok (sv_up (sv_up (sv_up S 78 (639 : Int) ((S 78 (639 : Int)) - (1 : Int))) 74 (639 : Int) (S 80 x10)) 1100031 0 ((S 1100023 (S 1100031 0)))) := sm_upI ok14 sm_r1100031 o16
    have md18 : sv_mod [68, 69, 70, 81, 82, 83, 84, 85, 86, 71, 74, 75, 1127, 78, 79, 80, 72, 76, 77, 1100031] S (sv_up (sv_up (sv_up S 78 (639 : Int) ((S 78 (639 : Int)) - (1 : Int))) 74 (639 : Int) (S 80 x10)) 1100031 0 ((S 1100023 (S 1100031 0)))) := sv_mod.up md15 (by decide)
    refine sv_aload_n hM dX12_tossSet_91 rfl rfl ?_
    refine sv_iload_n hM dX12_tossSet_92 rfl rfl ?_
    refine sv_aload_n hM dX12_tossSet_93 rfl rfl ?_
    obtain ⟨o19, h⟩ := h
    refine sv_callV hM dX12_tossSet_94 sm_iv_1201 (by decide) (sm_a0 _) rfl rfl (Nat.le_of_ble_eq_true rfl) sm_h230 (Nat.le_of_ble_eq_true rfl) (Nat.le_of_ble_eq_true rfl) (F' := 1) (Nat.le_of_ble_eq_true rfl) rfl (t_pushSet  (sv_up (sv_up (sv_up S 78 (639 : Int) ((S 78 (639 : Int)) - (1 : Int))) 74 (639 : Int) (S 80 x10)) 1100031 0 ((S 1100023 (S 1100031 0)))) ok17 o19) (fun v S1 hq => ?_)
    obtain ⟨r24, rfl, hr24, ok21, md22, hpo23⟩ := hq
    obtain ⟨g20, rfl⟩ : ∃ g, S1 = sv_sts (sv_up (sv_up (sv_up S 78 (639 : Int) ((S 78 (639 : Int)) - (1 : Int))) 74 (639 : Int) (S 80 x10)) 1100031 0 ((S 1100023 (S 1100031 0)))) [68, 69, 70, 74] g := ⟨_, md22.eq⟩
    show sv_T sm_XS sm_cs sm_L sm_sh 4 (q_tossSet p1 S) 261 97 [(0, .ref 0), (1, sv_I p1), (2, sv_I x10)] [sv_I r24, sv_I p1, .ref 0] (sv_sts (sv_up (sv_up (sv_up S 78 (639 : Int) ((S 78 (639 : Int)) - (1 : Int))) 74 (639 : Int) (S 80 x10)) 1100031 0 ((S 1100023 (S 1100031 0)))) [68, 69, 70, 74] g20)
    have md25 : sv_mod [68, 69, 70, 81, 82, 83, 84, 85, 86, 71, 74, 75, 1127, 78, 79, 80, 72, 76, 77, 1100031] S (sv_sts (sv_up (sv_up (sv_up S 78 (639 : Int) ((S 78 (639 : Int)) - (1 : Int))) 74 (639 : Int) (S 80 x10)) 1100031 0 ((S 1100023 (S 1100031 0)))) [68, 69, 70, 74] g20) := sv_mod.sts md18 (by decide)
    have h := h r24 hr24 g20 hpo23
    obtain ⟨o26, h⟩ := h
    refine sv_callV hM dX12_tossSet_97 sm_iv_1092 (by decide) (sm_a0 _) rfl rfl (Nat.le_of_ble_eq_true rfl) sm_h207 (Nat.le_of_ble_eq_true rfl) (Nat.le_of_ble_eq_true rfl) (F' := 0) (Nat.le_of_ble_eq_true rfl) rfl (t_copySet p1 r24 (sv_sts (sv_up (sv_up (sv_up S 78 (639 : Int) ((S 78 (639 : Int)) - (1 : Int))) 74 (639 : Int) (S 80 x10)) 1100031 0 ((S 1100023 (S 1100031 0)))) [68, 69, 70, 74] g20) ok21 hp1 hr24 o26) (fun v S1 hq => ?_)
    obtain ⟨rfl, ok28, md29, hpo30⟩ := hq
    obtain ⟨g27, rfl⟩ : ∃ g, S1 = sv_sts (sv_sts (sv_up (sv_up (sv_up S 78 (639 : Int) ((S 78 (639 : Int)) - (1 : Int))) 74 (639 : Int) (S 80 x10)) 1100031 0 ((S 1100023 (S 1100031 0)))) [68, 69, 70, 74] g20) [68, 69, 70] g := ⟨_, md29.eq⟩
    show sv_T sm_XS sm_cs sm_L sm_sh 4 (q_tossSet p1 S) 261 100 [(0, .ref 0), (1, sv_I p1), (2, sv_I x10)] [] (sv_sts (sv_sts (sv_up (sv_up (sv_up S 78 (639 : Int) ((S 78 (639 : Int)) - (1 : Int))) 74 (639 : Int) (S 80 x10)) 1100031 0 ((S 1100023 (S 1100031 0)))) [68, 69, 70, 74] g20) [68, 69, 70] g27)
    have md31 : sv_mod [68, 69, 70, 81, 82, 83, 84, 85, 86, 71, 74, 75, 1127, 78, 79, 80, 72, 76, 77, 1100031] S (sv_sts (sv_sts (sv_up (sv_up (sv_up S 78 (639 : Int) ((S 78 (639 : Int)) - (1 : Int))) 74 (639 : Int) (S 80 x10)) 1100031 0 ((S 1100023 (S 1100031 0)))) [68, 69, 70, 74] g20) [68, 69, 70] g27) := sv_mod.sts md25 (by decide)
    have h := h g27 hpo30
    refine sv_aload_n hM dX12_tossSet_100 rfl rfl ?_
    refine sv_aload_n hM dX12_tossSet_101 rfl rfl ?_
    refine sv_getA hM dX12_tossSet_102 sm_fl_250 (sm_a0 _) sm_k131 rfl ?_
    refine sv_iload_n hM dX12_tossSet_105 rfl rfl ?_
    have k32 : sv_R (S 79 x10) := sm_okI ok28 sm_r79 x10
    have h := h k32
    refine sv_iald hM dX12_tossSet_106 (sm_a79 _) (by decide) o12.1 o12.2 rfl (x := (S 79 x10)) rfl ?_
    obtain ⟨o33, h⟩ := h
    refine sv_callV hM dX12_tossSet_107 sm_iv_1191 (by decide) (sm_a0 _) rfl rfl (Nat.le_of_ble_eq_true rfl) sm_h235 (Nat.le_of_ble_eq_true rfl) (Nat.le_of_ble_eq_true rfl) (F' := 3) (Nat.le_of_ble_eq_true rfl) rfl (t_flow (S 79 x10) (sv_sts (sv_sts (sv_up (sv_up (sv_up S 78 (639 : Int) ((S 78 (639 : Int)) - (1 : Int))) 74 (639 : Int) (S 80 x10)) 1100031 0 ((S 1100023 (S 1100031 0)))) [68, 69, 70, 74] g20) [68, 69, 70] g27) ok28 k32 o33) (fun v S1 hq => ?_)
    obtain ⟨rfl, ok35, md36, hpo37⟩ := hq
    obtain ⟨g34, rfl⟩ : ∃ g, S1 = sv_sts (sv_sts (sv_sts (sv_up (sv_up (sv_up S 78 (639 : Int) ((S 78 (639 : Int)) - (1 : Int))) 74 (639 : Int) (S 80 x10)) 1100031 0 ((S 1100023 (S 1100031 0)))) [68, 69, 70, 74] g20) [68, 69, 70] g27) [68, 69, 70, 81, 82, 83, 84, 85, 86, 71, 74, 75, 1127, 78, 79, 80, 72, 76, 77] g := ⟨_, md36.eq⟩
    show sv_T sm_XS sm_cs sm_L sm_sh 4 (q_tossSet p1 S) 261 110 [(0, .ref 0), (1, sv_I p1), (2, sv_I x10)] [] (sv_sts (sv_sts (sv_sts (sv_up (sv_up (sv_up S 78 (639 : Int) ((S 78 (639 : Int)) - (1 : Int))) 74 (639 : Int) (S 80 x10)) 1100031 0 ((S 1100023 (S 1100031 0)))) [68, 69, 70, 74] g20) [68, 69, 70] g27) [68, 69, 70, 81, 82, 83, 84, 85, 86, 71, 74, 75, 1127, 78, 79, 80, 72, 76, 77] g34)
    have md38 : sv_mod [68, 69, 70, 81, 82, 83, 84, 85, 86, 71, 74, 75, 1127, 78, 79, 80, 72, 76, 77, 1100031] S (sv_sts (sv_sts (sv_sts (sv_up (sv_up (sv_up S 78 (639 : Int) ((S 78 (639 : Int)) - (1 : Int))) 74 (639 : Int) (S 80 x10)) 1100031 0 ((S 1100023 (S 1100031 0)))) [68, 69, 70, 74] g20) [68, 69, 70] g27) [68, 69, 70, 81, 82, 83, 84, 85, 86, 71, 74, 75, 1127, 78, 79, 80, 72, 76, 77] g34) := sv_mod.sts md31 (by decide)
    have h := h g34 hpo37
    exact sv_vret hM dX12_tossSet_110 rfl ⟨rfl, ok35, md38, h⟩
  · have h := h.2 (hc)
    refine sv_aload_n hM dX12_tossSet_11 rfl rfl ?_
    refine sv_getA hM dX12_tossSet_12 sm_fl_235 (sm_a0 _) sm_k125 rfl ?_
    refine sv_sipush (d := (639 : Int)) hM dX12_tossSet_15 rfl rfl ?_
    refine sv_iconst (d := (0 : Int)) hM dX12_tossSet_18 rfl rfl ?_
    refine sv_iast sm_X hM dX12_tossSet_19 (sm_a74 _) (by decide) o5.1 o5.2 rfl ?_
    have ok39 : sm_ok (sv_up S 74 (639 : Int) (0 : Int)) := sm_upI hok sm_r74 (⟨by decide, by decide⟩ : sv_R (0 : Int))
    have md40 : sv_mod [68, 69, 70, 81, 82, 83, 84, 85, 86, 71, 74, 75, 1127, 78, 79, 80, 72, 76, 77, 1100031] S (sv_up S 74 (639 : Int) (0 : Int)) := sv_mod.up sv_mod.rf (by decide)
    refine sv_aload_n hM dX12_tossSet_20 rfl rfl ?_
    refine sv_iload_n hM dX12_tossSet_21 rfl rfl ?_
    refine sv_aload_n hM dX12_tossSet_22 rfl rfl ?_
    obtain ⟨o41, h⟩ := h
    refine sv_callV hM dX12_tossSet_23 sm_iv_1201 (by decide) (sm_a0 _) rfl rfl (Nat.le_of_ble_eq_true rfl) sm_h230 (Nat.le_of_ble_eq_true rfl) (Nat.le_of_ble_eq_true rfl) (F' := 1) (Nat.le_of_ble_eq_true rfl) rfl (t_pushSet  (sv_up S 74 (639 : Int) (0 : Int)) ok39 o41) (fun v S1 hq => ?_)
    obtain ⟨r46, rfl, hr46, ok43, md44, hpo45⟩ := hq
    obtain ⟨g42, rfl⟩ : ∃ g, S1 = sv_sts (sv_up S 74 (639 : Int) (0 : Int)) [68, 69, 70, 74] g := ⟨_, md44.eq⟩
    show sv_T sm_XS sm_cs sm_L sm_sh 4 (q_tossSet p1 S) 261 26 [(0, .ref 0), (1, sv_I p1)] [sv_I r46, sv_I p1, .ref 0] (sv_sts (sv_up S 74 (639 : Int) (0 : Int)) [68, 69, 70, 74] g42)
    have md47 : sv_mod [68, 69, 70, 81, 82, 83, 84, 85, 86, 71, 74, 75, 1127, 78, 79, 80, 72, 76, 77, 1100031] S (sv_sts (sv_up S 74 (639 : Int) (0 : Int)) [68, 69, 70, 74] g42) := sv_mod.sts md40 (by decide)
    have h := h r46 hr46 g42 hpo45
    obtain ⟨o48, h⟩ := h
    refine sv_callV hM dX12_tossSet_26 sm_iv_1092 (by decide) (sm_a0 _) rfl rfl (Nat.le_of_ble_eq_true rfl) sm_h207 (Nat.le_of_ble_eq_true rfl) (Nat.le_of_ble_eq_true rfl) (F' := 0) (Nat.le_of_ble_eq_true rfl) rfl (t_copySet p1 r46 (sv_sts (sv_up S 74 (639 : Int) (0 : Int)) [68, 69, 70, 74] g42) ok43 hp1 hr46 o48) (fun v S1 hq => ?_)
    obtain ⟨rfl, ok50, md51, hpo52⟩ := hq
    obtain ⟨g49, rfl⟩ : ∃ g, S1 = sv_sts (sv_sts (sv_up S 74 (639 : Int) (0 : Int)) [68, 69, 70, 74] g42) [68, 69, 70] g := ⟨_, md51.eq⟩
    show sv_T sm_XS sm_cs sm_L sm_sh 4 (q_tossSet p1 S) 261 29 [(0, .ref 0), (1, sv_I p1)] [] (sv_sts (sv_sts (sv_up S 74 (639 : Int) (0 : Int)) [68, 69, 70, 74] g42) [68, 69, 70] g49)
    have md53 : sv_mod [68, 69, 70, 81, 82, 83, 84, 85, 86, 71, 74, 75, 1127, 78, 79, 80, 72, 76, 77, 1100031] S (sv_sts (sv_sts (sv_up S 74 (639 : Int) (0 : Int)) [68, 69, 70, 74] g42) [68, 69, 70] g49) := sv_mod.sts md47 (by decide)
    have h := h g49 hpo52
    refine sv_aload_n hM dX12_tossSet_29 rfl rfl ?_
    refine sv_aload_n hM dX12_tossSet_30 rfl rfl ?_
    have k54 : sv_R (S 1046 0) := sm_okI ok50 sm_r1046 0
    have h := h k54
    refine sv_getI hM dX12_tossSet_31 sm_fl_606 (sm_a0 _) sm_k46 rfl (x := (S 1046 0)) rfl ?_
    refine sv_iconst (d := (2 : Int)) hM dX12_tossSet_34 rfl rfl ?_
    refine sv_aload_n hM dX12_tossSet_35 rfl rfl ?_
    refine sv_getA hM dX12_tossSet_36 sm_fl_98 (sm_a0 _) sm_k51 rfl ?_
    refine sv_aload_n hM dX12_tossSet_39 rfl rfl ?_
    have k55 : sv_R (S 1148 0) := sm_okI ok50 sm_r1148 0
    have h := h k55
    refine sv_getI hM dX12_tossSet_40 sm_fl_1188 (sm_a0 _) sm_k148 rfl (x := (S 1148 0)) rfl ?_
    obtain ⟨o56, h⟩ := h
    have k57 : sv_R (S 29 (S 1148 0)) := sm_okI ok50 sm_r29 (S 1148 0)
    have h := h k57
    refine sv_iald hM dX12_tossSet_43 (sm_a29 _) (by decide) o56.1 o56.2 rfl (x := (S 29 (S 1148 0))) rfl ?_
    refine sv_imul hM dX12_tossSet_44 rfl ?_
    refine sv_iadd hM dX12_tossSet_45 rfl ?_
    refine sv_iconst (d := (1 : Int)) hM dX12_tossSet_46 rfl rfl ?_
    refine sv_iadd hM dX12_tossSet_47 rfl ?_
    obtain ⟨o58, h⟩ := h
    obtain ⟨o59, h⟩ := h
    refine sv_callV hM dX12_tossSet_48 sm_iv_1191 (by decide) (sm_a0 _) rfl rfl (Nat.le_of_ble_eq_true rfl) sm_h235 (Nat.le_of_ble_eq_true rfl) (Nat.le_of_ble_eq_true rfl) (F' := 3) (Nat.le_of_ble_eq_true rfl) rfl (t_flow (((S 1046 0) + ((2 : Int) * (S 29 (S 1148 0)))) + (1 : Int)) (sv_sts (sv_sts (sv_up S 74 (639 : Int) (0 : Int)) [68, 69, 70, 74] g42) [68, 69, 70] g49) ok50 o58 o59) (fun v S1 hq => ?_)
    obtain ⟨rfl, ok61, md62, hpo63⟩ := hq
    obtain ⟨g60, rfl⟩ : ∃ g, S1 = sv_sts (sv_sts (sv_sts (sv_up S 74 (639 : Int) (0 : Int)) [68, 69, 70, 74] g42) [68, 69, 70] g49) [68, 69, 70, 81, 82, 83, 84, 85, 86, 71, 74, 75, 1127, 78, 79, 80, 72, 76, 77] g := ⟨_, md62.eq⟩
    show sv_T sm_XS sm_cs sm_L sm_sh 4 (q_tossSet p1 S) 261 51 [(0, .ref 0), (1, sv_I p1)] [] (sv_sts (sv_sts (sv_sts (sv_up S 74 (639 : Int) (0 : Int)) [68, 69, 70, 74] g42) [68, 69, 70] g49) [68, 69, 70, 81, 82, 83, 84, 85, 86, 71, 74, 75, 1127, 78, 79, 80, 72, 76, 77] g60)
    have md64 : sv_mod [68, 69, 70, 81, 82, 83, 84, 85, 86, 71, 74, 75, 1127, 78, 79, 80, 72, 76, 77, 1100031] S (sv_sts (sv_sts (sv_sts (sv_up S 74 (639 : Int) (0 : Int)) [68, 69, 70, 74] g42) [68, 69, 70] g49) [68, 69, 70, 81, 82, 83, 84, 85, 86, 71, 74, 75, 1127, 78, 79, 80, 72, 76, 77] g60) := sv_mod.sts md53 (by decide)
    have h := h g60 hpo63
    exact sv_vret hM dX12_tossSet_51 rfl ⟨rfl, ok61, md64, h⟩
def q_tossTop (S : sv_S) : Option Value → sv_S → Prop := fun v S' => v = none ∧ sm_ok S' ∧ sv_mod [68, 69, 70, 81, 82, 83, 84, 85, 86, 71, 74, 75, 1127, 78, 79, 80, 72, 76, 77, 1100031] S S' ∧ (sm_ST (S' 71) (S' 74) (S' 75) (S' 78) (S' 79) (S' 80) (S' 27) (S' 1100007) (S' 1100023) (S' 1100024) (S' 1046 0) ((S' 1046 0) + 2 * (S' 1032 0)) (S' 1127 0) ∧ 465000 ≤ (S' 1127 0) ∧ (S' 1127 0) + sm_hs (S' 71) (S' 1100007) ≤ 635000 ∧ (S' 75 639) = 647340 ∧ (∀ k : Int, (S 71 k) = 1 → (S' 71 k) = 1) ∧ sm_DR (S' 72) (S' 71) (S' 1046 0) ∧ (641 * (sm_cm (S' 71) + sm_pt (S' 68) (S' 69) (S' 70) + sm_pl (S' 81) (S' 82) (S' 83) (S' 84) (S' 85) (S' 86) + sm_ps (S' 76) (S' 77)) + sm_du (S' 72)) ≤ (641 * (sm_cm (S 71) + sm_pt (S 68) (S 69) (S 70) + sm_pl (S 81) (S 82) (S 83) (S 84) (S 85) (S 86) + sm_ps (S 76) (S 77)) + sm_du (S 72)))
theorem la_tossTop_0 {x0 x1 : Int} (h0 : x0 = 647340) (h1 : 0 ≤ x1) (h2 : x1 ≤ 400) : x0 = 647340 ∧ 0 ≤ x1 ∧ x1 ≤ 400 ∧ ((-1) : Int) ≤ 0 ∧ (0 : Int) ≤ 1000 := by omega
theorem la_tossTop_1 {x0 x1 : Int} (h0 : 0 ≤ x0) (h1 : x0 ≤ 400) (h2 : x1 = 647339 + x0 - 0) : 0 ≤ x1 ∧ x1 < 647800 ∧ (635639 : Int) ≤ 647792 ∧ (647792 : Int) < 647800 := by omega
theorem la_tossTop_2 {x0 x1 : Int} (h0 : 0 ≤ x0) (h1 : x0 < x1) : 0 ≤ x0 ∧ x0 < x1 ∧ (0 : Int) ≤ 647792 ∧ (647792 : Int) < 647800 := by omega
theorem la_tossTop_3 {x0 x1 x2 x3 x4 x5 x6 x7 x8 x9 x10 : Int} (h0 : x0 = x1) (h1 : 641 * (x2 + x3 + x4 + x5) + x6 ≤ 641 * (x7 + x0 + x8 + x9) + x10) : 641 * (x2 + x3 + x4 + x5) + x6 ≤ 641 * (x7 + x1 + x8 + x9) + x10 := by omega
set_option maxHeartbeats 2000000 in
theorem f_tossTop : ∀ (S : sv_S), sm_ok S → (29 ≤ (S 1071 0) ∧ (S 1071 0) ≤ 127 ∧ 31 ≤ (S 1008 0) ∧ (S 1008 0) ≤ 90 ∧ 1 ≤ (S 1032 0) ∧ (S 1032 0) ≤ 11 ∧ 0 ≤ (S 1055 0) ∧ (S 1055 0) ≤ 19 ∧ (S 1071 0) = 29 + 6 * ((S 1032 0) - 1) + 2 * (S 1055 0) ∧ 0 ≤ (S 1046 0) ∧ (S 1046 0) + 2 * (S 1032 0) ≤ 500 ∧ sm_PD (S 1046 0) (S 1032 0) (S 1071 0) (S 1008 0) ∧ 0 ≤ (S 1071 0) * ((S 1008 0) + 1) ∧ (S 1071 0) * ((S 1008 0) + 1) ≤ 11557 ∧ 31 ≤ (S 1007 0) ∧ (S 1007 0) ≤ 400 ∧ sm_LN (S 4) 400 (S 1007 0) ∧ (S 75 639) = 647340 ∧ sm_ST (S 71) (S 74) (S 75) (S 78) (S 79) (S 80) (S 27) (S 1100007) (S 1100023) (S 1100024) (S 1046 0) ((S 1046 0) + 2 * (S 1032 0)) (S 1127 0) ∧ 465000 ≤ (S 1127 0) ∧ (S 1127 0) + sm_hs (S 71) (S 1100007) ≤ 635000 ∧ sm_NH (S 1100007) ∧ sm_CT (S 26) (S 27) (S 28) (S 29) (S 1100007) (S 1100023) (S 1100024) (S 1100025) (S 21) (S 1046 0) (S 1032 0) (S 1008 0) (S 1055 0) ∧ (∀ k : Int, (S 1046 0) ≤ k → k < ((S 1046 0) + 2 * (S 1032 0)) → (S 1100007 k) = 1) ∧ sm_DR (S 72) (S 71) (S 1046 0) ∧ 0 ≤ (S 74 639) ∧ (S 74 639) ≤ 400 ∧ 0 ≤ (S 78 639) ∧ (S 78 639) ≤ 40 ∧ (S 78 639) = sm_dp (S 1100024) (S 1100031 0) ∧ -1 ≤ (S 1100031 0) ∧ (S 1100031 0) < (S 1046 0) ∧ (0 ≤ (S 1100031 0) → (S 26 (S 1100031 0)) = 27) ∧ sm_TC (S 79) (S 80) (S 27) (S 1100007) (S 1100023) (S 1100024) 25560 (S 1100031 0) ∧ 0 ≤ (S 1148 0) ∧ (S 1148 0) < (S 1046 0)) → ((S 75 639) = 647340 ∧ 0 ≤ (S 74 639) ∧ (S 74 639) ≤ 400 ∧ -1 ≤ (0 : Int) ∧ (0 : Int) ≤ 1000) ∧ (∀ r6 : Int, sv_R r6 → (r6 = 647339 + (S 74 639) - (0 : Int)) → (0 ≤ r6 ∧ r6 < 647800 ∧ 635639 ≤ (647792 : Int) ∧ (647792 : Int) < 647800) ∧ (∀ g8 : sv_S, (sm_pt (g8 68) (g8 69) (g8 70) = sm_pt (S 68) (S 69) (S 70)) → (29 ≤ (S 1071 0) ∧ (S 1071 0) ≤ 127 ∧ 31 ≤ (S 1008 0) ∧ (S 1008 0) ≤ 90 ∧ 1 ≤ (S 1032 0) ∧ (S 1032 0) ≤ 11 ∧ 0 ≤ (S 1055 0) ∧ (S 1055 0) ≤ 19 ∧ (S 1071 0) = 29 + 6 * ((S 1032 0) - 1) + 2 * (S 1055 0) ∧ 0 ≤ (S 1046 0) ∧ (S 1046 0) + 2 * (S 1032 0) ≤ 500 ∧ sm_PD (S 1046 0) (S 1032 0) (S 1071 0) (S 1008 0) ∧ 0 ≤ (S 1071 0) * ((S 1008 0) + 1) ∧ (S 1071 0) * ((S 1008 0) + 1) ≤ 11557 ∧ 31 ≤ (S 1007 0) ∧ (S 1007 0) ≤ 400 ∧ sm_LN (S 4) 400 (S 1007 0) ∧ (S 75 639) = 647340 ∧ sm_ST (S 71) (S 74) (S 75) (S 78) (S 79) (S 80) (S 27) (S 1100007) (S 1100023) (S 1100024) (S 1046 0) ((S 1046 0) + 2 * (S 1032 0)) (S 1127 0) ∧ 465000 ≤ (S 1127 0) ∧ (S 1127 0) + sm_hs (S 71) (S 1100007) ≤ 635000 ∧ sm_NH (S 1100007) ∧ sm_CT (S 26) (S 27) (S 28) (S 29) (S 1100007) (S 1100023) (S 1100024) (S 1100025) (S 21) (S 1046 0) (S 1032 0) (S 1008 0) (S 1055 0) ∧ (∀ k : Int, (S 1046 0) ≤ k → k < ((S 1046 0) + 2 * (S 1032 0)) → (S 1100007 k) = 1) ∧ sm_DR (S 72) (S 71) (S 1046 0) ∧ 0 ≤ (S 74 639) ∧ (S 74 639) ≤ 400 ∧ 0 ≤ (S 78 639) ∧ (S 78 639) ≤ 40 ∧ (S 78 639) = sm_dp (S 1100024) (S 1100031 0) ∧ -1 ≤ (S 1100031 0) ∧ (S 1100031 0) < (S 1046 0) ∧ (0 ≤ (S 1100031 0) → (S 26 (S 1100031 0)) = 27) ∧ sm_TC (S 79) (S 80) (S 27) (S 1100007) (S 1100023) (S 1100024) 25560 (S 1100031 0) ∧ 0 ≤ (S 1148 0) ∧ (S 1148 0) < (S 1046 0) ∧ 0 ≤ (647792 : Int) ∧ (647792 : Int) < 647800) ∧ (∀ g14 : sv_S, (sm_ST (g14 71) (g14 74) (g14 75) (g14 78) (g14 79) (g14 80) (S 27) (S 1100007) (S 1100023) (S 1100024) (S 1046 0) ((S 1046 0) + 2 * (S 1032 0)) (g14 1127 0) ∧ 465000 ≤ (g14 1127 0) ∧ (g14 1127 0) + sm_hs (g14 71) (S 1100007) ≤ 635000 ∧ (g14 75 639) = 647340 ∧ (∀ k : Int, (S 71 k) = 1 → (g14 71 k) = 1) ∧ sm_DR (g14 72) (g14 71) (S 1046 0) ∧ (641 * (sm_cm (g14 71) + sm_pt (g14 68) (g14 69) (g14 70) + sm_pl (g14 81) (g14 82) (g14 83) (g14 84) (g14 85) (g14 86) + sm_ps (g14 76) (g14 77)) + sm_du (g14 72)) ≤ (641 * (sm_cm (S 71) + sm_pt (g8 68) (g8 69) (g8 70) + sm_pl (S 81) (S 82) (S 83) (S 84) (S 85) (S 86) + sm_ps (S 76) (S 77)) + sm_du (S 72))) → (sm_ST (g14 71) (g14 74) (g14 75) (g14 78) (g14 79) (g14 80) (S 27) (S 1100007) (S 1100023) (S 1100024) (S 1046 0) ((S 1046 0) + 2 * (S 1032 0)) (g14 1127 0) ∧ 465000 ≤ (g14 1127 0) ∧ (g14 1127 0) + sm_hs (g14 71) (S 1100007) ≤ 635000 ∧ (g14 75 639) = 647340 ∧ (∀ k : Int, (S 71 k) = 1 → (g14 71 k) = 1) ∧ sm_DR (g14 72) (g14 71) (S 1046 0) ∧ (641 * (sm_cm (g14 71) + sm_pt (g14 68) (g14 69) (g14 70) + sm_pl (g14 81) (g14 82) (g14 83) (g14 84) (g14 85) (g14 86) + sm_ps (g14 76) (g14 77)) + sm_du (g14 72)) ≤ (641 * (sm_cm (S 71) + sm_pt (S 68) (S 69) (S 70) + sm_pl (S 81) (S 82) (S 83) (S 84) (S 85) (S 86) + sm_ps (S 76) (S 77)) + sm_du (S 72)))))) := by
  intro S
  intro h1_
  rintro ⟨h2_, ⟨h3_, ⟨h4_, ⟨h5_, ⟨h6_, ⟨h7_, ⟨h8_, ⟨h9_, ⟨h10_, ⟨h11_, ⟨h12_, ⟨h13_, ⟨h14_, ⟨h15_, ⟨h16_, ⟨h17_, ⟨h18_, ⟨h19_, ⟨h20_, ⟨h21_, ⟨h22_, ⟨h23_, ⟨h24_, ⟨h25_, ⟨h26_, ⟨h27_, ⟨h28_, ⟨h29_, ⟨h30_, ⟨h31_, ⟨h32_, ⟨h33_, ⟨h34_, ⟨h35_, ⟨h36_, h37_⟩⟩⟩⟩⟩⟩⟩⟩⟩⟩⟩⟩⟩⟩⟩⟩⟩⟩⟩⟩⟩⟩⟩⟩⟩⟩⟩⟩⟩⟩⟩⟩⟩⟩⟩
  refine ⟨(la_tossTop_0 h19_ h27_ h28_), ?_⟩
  intro r6
  intro h38_
  intro h39_
  refine ⟨(la_tossTop_1 h27_ h28_ h39_), ?_⟩
  intro g8
  intro h40_
  refine ⟨⟨h2_, ⟨h3_, ⟨h4_, ⟨h5_, ⟨h6_, ⟨h7_, ⟨h8_, ⟨h9_, ⟨h10_, ⟨h11_, ⟨h12_, ⟨h13_, ⟨h14_, ⟨h15_, ⟨h16_, ⟨h17_, ⟨h18_, ⟨h19_, ⟨h20_, ⟨h21_, ⟨h22_, ⟨h23_, ⟨h24_, ⟨h25_, ⟨h26_, ⟨h27_, ⟨h28_, ⟨h29_, ⟨h30_, ⟨h31_, ⟨h32_, ⟨h33_, ⟨h34_, ⟨h35_, (la_tossTop_2 h36_ h37_)⟩⟩⟩⟩⟩⟩⟩⟩⟩⟩⟩⟩⟩⟩⟩⟩⟩⟩⟩⟩⟩⟩⟩⟩⟩⟩⟩⟩⟩⟩⟩⟩⟩⟩, ?_⟩
  intro g14
  rintro ⟨h41_, ⟨h42_, ⟨h43_, ⟨h44_, ⟨h45_, ⟨h46_, h47_⟩⟩⟩⟩⟩⟩
  refine ⟨h41_, ?_⟩
  refine ⟨h42_, ?_⟩
  refine ⟨h43_, ?_⟩
  refine ⟨h44_, ?_⟩
  refine ⟨h45_, ?_⟩
  refine ⟨h46_, ?_⟩
  exact (la_tossTop_3 h40_ h47_)
set_option maxRecDepth 8000 in
set_option maxHeartbeats 2000000 in
theorem t_tossTop : ∀ (S : sv_S), sm_ok S → (29 ≤ (S 1071 0) ∧ (S 1071 0) ≤ 127 ∧ 31 ≤ (S 1008 0) ∧ (S 1008 0) ≤ 90 ∧ 1 ≤ (S 1032 0) ∧ (S 1032 0) ≤ 11 ∧ 0 ≤ (S 1055 0) ∧ (S 1055 0) ≤ 19 ∧ (S 1071 0) = 29 + 6 * ((S 1032 0) - 1) + 2 * (S 1055 0) ∧ 0 ≤ (S 1046 0) ∧ (S 1046 0) + 2 * (S 1032 0) ≤ 500 ∧ sm_PD (S 1046 0) (S 1032 0) (S 1071 0) (S 1008 0) ∧ 0 ≤ (S 1071 0) * ((S 1008 0) + 1) ∧ (S 1071 0) * ((S 1008 0) + 1) ≤ 11557 ∧ 31 ≤ (S 1007 0) ∧ (S 1007 0) ≤ 400 ∧ sm_LN (S 4) 400 (S 1007 0) ∧ (S 75 639) = 647340 ∧ sm_ST (S 71) (S 74) (S 75) (S 78) (S 79) (S 80) (S 27) (S 1100007) (S 1100023) (S 1100024) (S 1046 0) ((S 1046 0) + 2 * (S 1032 0)) (S 1127 0) ∧ 465000 ≤ (S 1127 0) ∧ (S 1127 0) + sm_hs (S 71) (S 1100007) ≤ 635000 ∧ sm_NH (S 1100007) ∧ sm_CT (S 26) (S 27) (S 28) (S 29) (S 1100007) (S 1100023) (S 1100024) (S 1100025) (S 21) (S 1046 0) (S 1032 0) (S 1008 0) (S 1055 0) ∧ (∀ k : Int, (S 1046 0) ≤ k → k < ((S 1046 0) + 2 * (S 1032 0)) → (S 1100007 k) = 1) ∧ sm_DR (S 72) (S 71) (S 1046 0) ∧ 0 ≤ (S 74 639) ∧ (S 74 639) ≤ 400 ∧ 0 ≤ (S 78 639) ∧ (S 78 639) ≤ 40 ∧ (S 78 639) = sm_dp (S 1100024) (S 1100031 0) ∧ -1 ≤ (S 1100031 0) ∧ (S 1100031 0) < (S 1046 0) ∧ (0 ≤ (S 1100031 0) → (S 26 (S 1100031 0)) = 27) ∧ sm_TC (S 79) (S 80) (S 27) (S 1100007) (S 1100023) (S 1100024) 25560 (S 1100031 0) ∧ 0 ≤ (S 1148 0) ∧ (S 1148 0) < (S 1046 0)) → sv_T sm_XS sm_cs sm_L sm_sh 5 (q_tossTop S) 260 0 (lv_args 0 [.ref 0]) [] S := by
  intro S hok hpre
  have h := f_tossTop S hok hpre
  have hM := sm_h260
  show sv_T sm_XS sm_cs sm_L sm_sh 5 (q_tossTop S) 260 0 [(0, .ref 0)] [] S
  refine sv_ldc_w (d := (647792 : Int)) hM dX12_tossTop_0 sm_ck_1194 rfl rfl ?_
  refine sv_istore_n hM dX12_tossTop_3 (by decide) rfl ?_
  show sv_T sm_XS sm_cs sm_L sm_sh 5 (q_tossTop S) 260 4 [(0, .ref 0), (1, sv_I (647792 : Int))] [] S
  refine sv_aload_n hM dX12_tossTop_4 rfl rfl ?_
  refine sv_aload_n hM dX12_tossTop_5 rfl rfl ?_
  refine sv_iconst (d := (0 : Int)) hM dX12_tossTop_6 rfl rfl ?_
  obtain ⟨o1, h⟩ := h
  refine sv_callV hM dX12_tossTop_7 sm_iv_1195 (by decide) (sm_a0 _) rfl rfl (Nat.le_of_ble_eq_true rfl) sm_h229 (Nat.le_of_ble_eq_true rfl) (Nat.le_of_ble_eq_true rfl) (F' := 0) (Nat.le_of_ble_eq_true rfl) rfl (t_fromTop (0 : Int) S hok (⟨by decide, by decide⟩ : sv_R (0 : Int)) o1) (fun v S1 hq => ?_)
  obtain ⟨r6, rfl, hr6, ok3, md4, hpo5⟩ := hq
  obtain rfl : S = S1 := (funext fun j => md4 j (by intro q; cases q)).symm
  show sv_T sm_XS sm_cs sm_L sm_sh 5 (q_tossTop S) 260 10 [(0, .ref 0), (1, sv_I (647792 : Int))] [sv_I r6, .ref 0] S
  have h := h r6 hr6 hpo5
  refine sv_iload_n hM dX12_tossTop_10 rfl rfl ?_
  obtain ⟨o7, h⟩ := h
  refine sv_callV hM dX12_tossTop_11 sm_iv_1092 (by decide) (sm_a0 _) rfl rfl (Nat.le_of_ble_eq_true rfl) sm_h207 (Nat.le_of_ble_eq_true rfl) (Nat.le_of_ble_eq_true rfl) (F' := 0) (Nat.le_of_ble_eq_true rfl) rfl (t_copySet r6 (647792 : Int) S ok3 hr6 (⟨by decide, by decide⟩ : sv_R (647792 : Int)) o7) (fun v S1 hq => ?_)
  obtain ⟨rfl, ok9, md10, hpo11⟩ := hq
  obtain ⟨g8, rfl⟩ : ∃ g, S1 = sv_sts S [68, 69, 70] g := ⟨_, md10.eq⟩
  show sv_T sm_XS sm_cs sm_L sm_sh 5 (q_tossTop S) 260 14 [(0, .ref 0), (1, sv_I (647792 : Int))] [] (sv_sts S [68, 69, 70] g8)
  have md12 : sv_mod [68, 69, 70, 81, 82, 83, 84, 85, 86, 71, 74, 75, 1127, 78, 79, 80, 72, 76, 77, 1100031] S (sv_sts S [68, 69, 70] g8) := sv_mod.sts sv_mod.rf (by decide)
  have h := h g8 hpo11
  refine sv_aload_n hM dX12_tossTop_14 rfl rfl ?_
  refine sv_iload_n hM dX12_tossTop_15 rfl rfl ?_
  obtain ⟨o13, h⟩ := h
  refine sv_callV hM dX12_tossTop_16 sm_iv_1198 (by decide) (sm_a0 _) rfl rfl (Nat.le_of_ble_eq_true rfl) sm_h261 (Nat.le_of_ble_eq_true rfl) (Nat.le_of_ble_eq_true rfl) (F' := 4) (Nat.le_of_ble_eq_true rfl) rfl (t_tossSet (647792 : Int) (sv_sts S [68, 69, 70] g8) ok9 (⟨by decide, by decide⟩ : sv_R (647792 : Int)) o13) (fun v S1 hq => ?_)
  obtain ⟨rfl, ok15, md16, hpo17⟩ := hq
  obtain ⟨g14, rfl⟩ : ∃ g, S1 = sv_sts (sv_sts S [68, 69, 70] g8) [68, 69, 70, 81, 82, 83, 84, 85, 86, 71, 74, 75, 1127, 78, 79, 80, 72, 76, 77, 1100031] g := ⟨_, md16.eq⟩
  show sv_T sm_XS sm_cs sm_L sm_sh 5 (q_tossTop S) 260 19 [(0, .ref 0), (1, sv_I (647792 : Int))] [] (sv_sts (sv_sts S [68, 69, 70] g8) [68, 69, 70, 81, 82, 83, 84, 85, 86, 71, 74, 75, 1127, 78, 79, 80, 72, 76, 77, 1100031] g14)
  have md18 : sv_mod [68, 69, 70, 81, 82, 83, 84, 85, 86, 71, 74, 75, 1127, 78, 79, 80, 72, 76, 77, 1100031] S (sv_sts (sv_sts S [68, 69, 70] g8) [68, 69, 70, 81, 82, 83, 84, 85, 86, 71, 74, 75, 1127, 78, 79, 80, 72, 76, 77, 1100031] g14) := sv_mod.sts md12 (by decide)
  have h := h g14 hpo17
  exact sv_vret hM dX12_tossTop_19 rfl ⟨rfl, ok15, md18, h⟩
def q_errorNow (p1 : Int) (S : sv_S) : Option Value → sv_S → Prop := fun v S' => v = none ∧ sm_ok S' ∧ sv_mod [68, 69, 70, 81, 82, 83, 84, 85, 86, 71, 74, 75, 1127, 78, 79, 80, 72, 76, 77, 1143, 1144, 5, 1011, 1150, 1149, 1145, 1113, 1111, 1112, 1100031] S S' ∧ (sm_ST (S' 71) (S' 74) (S' 75) (S' 78) (S' 79) (S' 80) (S' 27) (S' 1100007) (S' 1100023) (S' 1100024) (S' 1046 0) ((S' 1046 0) + 2 * (S' 1032 0)) (S' 1127 0) ∧ 465000 ≤ (S' 1127 0) ∧ (S' 1127 0) + sm_hs (S' 71) (S' 1100007) ≤ 635000 ∧ (S' 75 639) = 647340 ∧ (∀ k : Int, (S 71 k) = 1 → (S' 71 k) = 1) ∧ sm_DR (S' 72) (S' 71) (S' 1046 0) ∧ (641 * (sm_cm (S' 71) + sm_pt (S' 68) (S' 69) (S' 70) + sm_pl (S' 81) (S' 82) (S' 83) (S' 84) (S' 85) (S' 86) + sm_ps (S' 76) (S' 77)) + sm_du (S' 72)) ≤ (641 * (sm_cm (S 71) + sm_pt (S 68) (S 69) (S 70) + sm_pl (S 81) (S 82) (S 83) (S 84) (S 85) (S 86) + sm_ps (S 76) (S 77)) + sm_du (S 72)))
theorem la_errorNow_0 {x0 : Int} (h0 : 6 ≤ x0) (h1 : x0 ≤ 8) : sv_R (x0 + 20) := by omega
theorem la_errorNow_1 {x0 x1 : Int} (h0 : 29 ≤ x0) (h1 : 6 ≤ x1) (h2 : x1 ≤ 8) : 0 ≤ x1 + 20 ∧ x1 + 20 < x0 ∧ 0 ≤ x1 ∧ x1 ≤ 63 ∧ (((-1) : Int) = (-1) ∨ (0 : Int) ≤ (-1) ∧ ((-1) : Int) < 647800) := by omega
theorem la_errorNow_2 : (0 : Int) ≤ 647792 ∧ (647792 : Int) < 647800 := by omega
theorem la_errorNow_3 : (635639 : Int) ≤ 647792 := by omega
theorem la_errorNow_4 : (635639 : Int) ≤ 647792 ∧ (647792 : Int) < 647800 := by omega
theorem la_errorNow_5 {x0 : Int} (h0 : 6 ≤ x0) (h1 : ¬ x0 = 6) : 6 < x0 := by omega
theorem la_errorNow_6 {x0 : Int} (h0 : 6 < x0) : 7 ≤ x0 := by omega
theorem la_errorNow_7 {x0 : Int} (h0 : 7 ≤ x0) (h1 : ¬ x0 = 7) : 7 < x0 := by omega
theorem la_errorNow_8 {x0 x1 : Int} (h0 : 0 ≤ x0) (h1 : x0 < x1) : 0 ≤ x0 ∧ x0 < x1 ∧ (0 : Int) ≤ 647792 ∧ (647792 : Int) < 647800 := by omega
theorem la_errorNow_9 {x0 x1 x2 x3 x4 x5 x6 x7 x8 x9 x10 x11 x12 x13 : Int} (h0 : x0 = x1) (h1 : x2 = x3) (h2 : x4 = x0) (h3 : x5 = x4) (h4 : 641 * (x6 + x7 + x8 + x9) + x10 ≤ 641 * (x11 + x5 + x2 + x12) + x13) : 641 * (x6 + x7 + x8 + x9) + x10 ≤ 641 * (x11 + x1 + x3 + x12) + x13 := by omega
set_option maxHeartbeats 2000000 in
theorem f_errorNow : ∀ (p1 : Int) (S : sv_S), sm_ok S → sv_R p1 → (29 ≤ (S 1071 0) ∧ (S 1071 0) ≤ 127 ∧ 31 ≤ (S 1008 0) ∧ (S 1008 0) ≤ 90 ∧ 1 ≤ (S 1032 0) ∧ (S 1032 0) ≤ 11 ∧ 0 ≤ (S 1055 0) ∧ (S 1055 0) ≤ 19 ∧ (S 1071 0) = 29 + 6 * ((S 1032 0) - 1) + 2 * (S 1055 0) ∧ 0 ≤ (S 1046 0) ∧ (S 1046 0) + 2 * (S 1032 0) ≤ 500 ∧ sm_PD (S 1046 0) (S 1032 0) (S 1071 0) (S 1008 0) ∧ 0 ≤ (S 1071 0) * ((S 1008 0) + 1) ∧ (S 1071 0) * ((S 1008 0) + 1) ≤ 11557 ∧ 31 ≤ (S 1007 0) ∧ (S 1007 0) ≤ 400 ∧ sm_LN (S 4) 400 (S 1007 0) ∧ (S 75 639) = 647340 ∧ sm_ST (S 71) (S 74) (S 75) (S 78) (S 79) (S 80) (S 27) (S 1100007) (S 1100023) (S 1100024) (S 1046 0) ((S 1046 0) + 2 * (S 1032 0)) (S 1127 0) ∧ 465000 ≤ (S 1127 0) ∧ (S 1127 0) + sm_hs (S 71) (S 1100007) ≤ 635000 ∧ sm_NH (S 1100007) ∧ sm_CT (S 26) (S 27) (S 28) (S 29) (S 1100007) (S 1100023) (S 1100024) (S 1100025) (S 21) (S 1046 0) (S 1032 0) (S 1008 0) (S 1055 0) ∧ (∀ k : Int, (S 1046 0) ≤ k → k < ((S 1046 0) + 2 * (S 1032 0)) → (S 1100007 k) = 1) ∧ sm_DR (S 72) (S 71) (S 1046 0) ∧ 0 ≤ (S 74 639) ∧ (S 74 639) ≤ 400 ∧ 0 ≤ (S 78 639) ∧ (S 78 639) ≤ 40 ∧ (S 78 639) = sm_dp (S 1100024) (S 1100031 0) ∧ -1 ≤ (S 1100031 0) ∧ (S 1100031 0) < (S 1046 0) ∧ (0 ≤ (S 1100031 0) → (S 26 (S 1100031 0)) = 27) ∧ sm_TC (S 79) (S 80) (S 27) (S 1100007) (S 1100023) (S 1100024) 25560 (S 1100031 0) ∧ 0 ≤ (S 1148 0) ∧ (S 1148 0) < (S 1046 0) ∧ 6 ≤ p1 ∧ p1 ≤ 8) → (sv_R (p1 + (20 : Int))) ∧ (29 ≤ (S 1071 0) ∧ (S 1071 0) ≤ 127 ∧ 31 ≤ (S 1008 0) ∧ (S 1008 0) ≤ 90 ∧ 1 ≤ (S 1032 0) ∧ (S 1032 0) ≤ 11 ∧ 0 ≤ (S 1055 0) ∧ (S 1055 0) ≤ 19 ∧ (S 1071 0) = 29 + 6 * ((S 1032 0) - 1) + 2 * (S 1055 0) ∧ 0 ≤ (S 1046 0) ∧ (S 1046 0) + 2 * (S 1032 0) ≤ 500 ∧ sm_PD (S 1046 0) (S 1032 0) (S 1071 0) (S 1008 0) ∧ 0 ≤ (S 1071 0) * ((S 1008 0) + 1) ∧ (S 1071 0) * ((S 1008 0) + 1) ≤ 11557 ∧ 31 ≤ (S 1007 0) ∧ (S 1007 0) ≤ 400 ∧ sm_LN (S 4) 400 (S 1007 0) ∧ 0 ≤ (p1 + (20 : Int)) ∧ (p1 + (20 : Int)) < (S 1071 0) ∧ 0 ≤ p1 ∧ p1 ≤ 63 ∧ ((-1 : Int) = -1 ∨ (0 ≤ (-1 : Int) ∧ (-1 : Int) < 647800))) ∧ (∀ g3 : sv_S, (sm_pt (g3 68) (g3 69) (g3 70) = sm_pt (S 68) (S 69) (S 70) ∧ sm_pl (g3 81) (g3 82) (g3 83) (g3 84) (g3 85) (g3 86) = sm_pl (S 81) (S 82) (S 83) (S 84) (S 85) (S 86)) → (0 ≤ (647792 : Int) ∧ (647792 : Int) < 647800) ∧ (∀ g9 : sv_S, (635639 ≤ (647792 : Int) → sm_pt (g9 68) (g9 69) (g9 70) = sm_pt (g3 68) (g3 69) (g3 70)) → (635639 ≤ (647792 : Int) ∧ (647792 : Int) < 647800) ∧ (∀ g15 : sv_S, (sm_pt (g9 68) (g15 69) (g15 70) = sm_pt (g9 68) (g9 69) (g9 70)) → (sv_R (S 1149 0) → (((¬ p1 = (6 : Int)) → (((¬ p1 = (7 : Int)) → (∀ r21 : Int, sv_R r21 → (29 ≤ (S 1071 0) ∧ (S 1071 0) ≤ 127 ∧ 31 ≤ (S 1008 0) ∧ (S 1008 0) ≤ 90 ∧ 1 ≤ (S 1032 0) ∧ (S 1032 0) ≤ 11 ∧ 0 ≤ (S 1055 0) ∧ (S 1055 0) ≤ 19 ∧ (S 1071 0) = 29 + 6 * ((S 1032 0) - 1) + 2 * (S 1055 0) ∧ 0 ≤ (S 1046 0) ∧ (S 1046 0) + 2 * (S 1032 0) ≤ 500 ∧ sm_PD (S 1046 0) (S 1032 0) (S 1071 0) (S 1008 0) ∧ 0 ≤ (S 1071 0) * ((S 1008 0) + 1) ∧ (S 1071 0) * ((S 1008 0) + 1) ≤ 11557 ∧ 31 ≤ (S 1007 0) ∧ (S 1007 0) ≤ 400 ∧ sm_LN (S 4) 400 (S 1007 0) ∧ (S 75 639) = 647340 ∧ sm_ST (S 71) (S 74) (S 75) (S 78) (S 79) (S 80) (S 27) (S 1100007) (S 1100023) (S 1100024) (S 1046 0) ((S 1046 0) + 2 * (S 1032 0)) (S 1127 0) ∧ 465000 ≤ (S 1127 0) ∧ (S 1127 0) + sm_hs (S 71) (S 1100007) ≤ 635000 ∧ sm_NH (S 1100007) ∧ sm_CT (S 26) (S 27) (S 28) (S 29) (S 1100007) (S 1100023) (S 1100024) (S 1100025) (S 21) (S 1046 0) (S 1032 0) (S 1008 0) (S 1055 0) ∧ (∀ k : Int, (S 1046 0) ≤ k → k < ((S 1046 0) + 2 * (S 1032 0)) → (S 1100007 k) = 1) ∧ sm_DR (S 72) (S 71) (S 1046 0) ∧ 0 ≤ (S 74 639) ∧ (S 74 639) ≤ 400 ∧ 0 ≤ (S 78 639) ∧ (S 78 639) ≤ 40 ∧ (S 78 639) = sm_dp (S 1100024) (S 1100031 0) ∧ -1 ≤ (S 1100031 0) ∧ (S 1100031 0) < (S 1046 0) ∧ (0 ≤ (S 1100031 0) → (S 26 (S 1100031 0)) = 27) ∧ sm_TC (S 79) (S 80) (S 27) (S 1100007) (S 1100023) (S 1100024) 25560 (S 1100031 0) ∧ 0 ≤ (S 1148 0) ∧ (S 1148 0) < (S 1046 0) ∧ 0 ≤ (647792 : Int) ∧ (647792 : Int) < 647800) ∧ (∀ g25 : sv_S, (sm_ST (g25 71) (g25 74) (g25 75) (g25 78) (g25 79) (g25 80) (S 27) (S 1100007) (S 1100023) (S 1100024) (S 1046 0) ((S 1046 0) + 2 * (S 1032 0)) (g25 1127 0) ∧ 465000 ≤ (g25 1127 0) ∧ (g25 1127 0) + sm_hs (g25 71) (S 1100007) ≤ 635000 ∧ (g25 75 639) = 647340 ∧ (∀ k : Int, (S 71 k) = 1 → (g25 71 k) = 1) ∧ sm_DR (g25 72) (g25 71) (S 1046 0) ∧ (641 * (sm_cm (g25 71) + sm_pt (g25 68) (g25 69) (g25 70) + sm_pl (g25 81) (g25 82) (g25 83) (g25 84) (g25 85) (g25 86) + sm_ps (g25 76) (g25 77)) + sm_du (g25 72)) ≤ (641 * (sm_cm (S 71) + sm_pt (g9 68) (g15 69) (g15 70) + sm_pl (g3 81) (g3 82) (g3 83) (g3 84) (g3 85) (g3 86) + sm_ps (S 76) (S 77)) + sm_du (S 72))) → (sm_ST (g25 71) (g25 74) (g25 75) (g25 78) (g25 79) (g25 80) (S 27) (S 1100007) (S 1100023) (S 1100024) (S 1046 0) ((S 1046 0) + 2 * (S 1032 0)) (g25 1127 0) ∧ 465000 ≤ (g25 1127 0) ∧ (g25 1127 0) + sm_hs (g25 71) (S 1100007) ≤ 635000 ∧ (g25 75 639) = 647340 ∧ (∀ k : Int, (S 71 k) = 1 → (g25 71 k) = 1) ∧ sm_DR (g25 72) (g25 71) (S 1046 0) ∧ (641 * (sm_cm (g25 71) + sm_pt (g25 68) (g25 69) (g25 70) + sm_pl (g25 81) (g25 82) (g25 83) (g25 84) (g25 85) (g25 86) + sm_ps (g25 76) (g25 77)) + sm_du (g25 72)) ≤ (641 * (sm_cm (S 71) + sm_pt (S 68) (S 69) (S 70) + sm_pl (S 81) (S 82) (S 83) (S 84) (S 85) (S 86) + sm_ps (S 76) (S 77)) + sm_du (S 72)))))) ∧ ((¬ (¬ p1 = (7 : Int))) → (∀ r30 : Int, sv_R r30 → (29 ≤ (S 1071 0) ∧ (S 1071 0) ≤ 127 ∧ 31 ≤ (S 1008 0) ∧ (S 1008 0) ≤ 90 ∧ 1 ≤ (S 1032 0) ∧ (S 1032 0) ≤ 11 ∧ 0 ≤ (S 1055 0) ∧ (S 1055 0) ≤ 19 ∧ (S 1071 0) = 29 + 6 * ((S 1032 0) - 1) + 2 * (S 1055 0) ∧ 0 ≤ (S 1046 0) ∧ (S 1046 0) + 2 * (S 1032 0) ≤ 500 ∧ sm_PD (S 1046 0) (S 1032 0) (S 1071 0) (S 1008 0) ∧ 0 ≤ (S 1071 0) * ((S 1008 0) + 1) ∧ (S 1071 0) * ((S 1008 0) + 1) ≤ 11557 ∧ 31 ≤ (S 1007 0) ∧ (S 1007 0) ≤ 400 ∧ sm_LN (S 4) 400 (S 1007 0) ∧ (S 75 639) = 647340 ∧ sm_ST (S 71) (S 74) (S 75) (S 78) (S 79) (S 80) (S 27) (S 1100007) (S 1100023) (S 1100024) (S 1046 0) ((S 1046 0) + 2 * (S 1032 0)) (S 1127 0) ∧ 465000 ≤ (S 1127 0) ∧ (S 1127 0) + sm_hs (S 71) (S 1100007) ≤ 635000 ∧ sm_NH (S 1100007) ∧ sm_CT (S 26) (S 27) (S 28) (S 29) (S 1100007) (S 1100023) (S 1100024) (S 1100025) (S 21) (S 1046 0) (S 1032 0) (S 1008 0) (S 1055 0) ∧ (∀ k : Int, (S 1046 0) ≤ k → k < ((S 1046 0) + 2 * (S 1032 0)) → (S 1100007 k) = 1) ∧ sm_DR (S 72) (S 71) (S 1046 0) ∧ 0 ≤ (S 74 639) ∧ (S 74 639) ≤ 400 ∧ 0 ≤ (S 78 639) ∧ (S 78 639) ≤ 40 ∧ (S 78 639) = sm_dp (S 1100024) (S 1100031 0) ∧ -1 ≤ (S 1100031 0) ∧ (S 1100031 0) < (S 1046 0) ∧ (0 ≤ (S 1100031 0) → (S 26 (S 1100031 0)) = 27) ∧ sm_TC (S 79) (S 80) (S 27) (S 1100007) (S 1100023) (S 1100024) 25560 (S 1100031 0) ∧ 0 ≤ (S 1148 0) ∧ (S 1148 0) < (S 1046 0) ∧ 0 ≤ (647792 : Int) ∧ (647792 : Int) < 647800) ∧ (∀ g34 : sv_S, (sm_ST (g34 71) (g34 74) (g34 75) (g34 78) (g34 79) (g34 80) (S 27) (S 1100007) (S 1100023) (S 1100024) (S 1046 0) ((S 1046 0) + 2 * (S 1032 0)) (g34 1127 0) ∧ 465000 ≤ (g34 1127 0) ∧ (g34 1127 0) + sm_hs (g34 71) (S 1100007) ≤ 635000 ∧ (g34 75 639) = 647340 ∧ (∀ k : Int, (S 71 k) = 1 → (g34 71 k) = 1) ∧ sm_DR (g34 72) (g34 71) (S 1046 0) ∧ (641 * (sm_cm (g34 71) + sm_pt (g34 68) (g34 69) (g34 70) + sm_pl (g34 81) (g34 82) (g34 83) (g34 84) (g34 85) (g34 86) + sm_ps (g34 76) (g34 77)) + sm_du (g34 72)) ≤ (641 * (sm_cm (S 71) + sm_pt (g9 68) (g15 69) (g15 70) + sm_pl (g3 81) (g3 82) (g3 83) (g3 84) (g3 85) (g3 86) + sm_ps (S 76) (S 77)) + sm_du (S 72))) → (sm_ST (g34 71) (g34 74) (g34 75) (g34 78) (g34 79) (g34 80) (S 27) (S 1100007) (S 1100023) (S 1100024) (S 1046 0) ((S 1046 0) + 2 * (S 1032 0)) (g34 1127 0) ∧ 465000 ≤ (g34 1127 0) ∧ (g34 1127 0) + sm_hs (g34 71) (S 1100007) ≤ 635000 ∧ (g34 75 639) = 647340 ∧ (∀ k : Int, (S 71 k) = 1 → (g34 71 k) = 1) ∧ sm_DR (g34 72) (g34 71) (S 1046 0) ∧ (641 * (sm_cm (g34 71) + sm_pt (g34 68) (g34 69) (g34 70) + sm_pl (g34 81) (g34 82) (g34 83) (g34 84) (g34 85) (g34 86) + sm_ps (g34 76) (g34 77)) + sm_du (g34 72)) ≤ (641 * (sm_cm (S 71) + sm_pt (S 68) (S 69) (S 70) + sm_pl (S 81) (S 82) (S 83) (S 84) (S 85) (S 86) + sm_ps (S 76) (S 77)) + sm_du (S 72)))))))) ∧ ((¬ (¬ p1 = (6 : Int))) → (∀ r39 : Int, sv_R r39 → (29 ≤ (S 1071 0) ∧ (S 1071 0) ≤ 127 ∧ 31 ≤ (S 1008 0) ∧ (S 1008 0) ≤ 90 ∧ 1 ≤ (S 1032 0) ∧ (S 1032 0) ≤ 11 ∧ 0 ≤ (S 1055 0) ∧ (S 1055 0) ≤ 19 ∧ (S 1071 0) = 29 + 6 * ((S 1032 0) - 1) + 2 * (S 1055 0) ∧ 0 ≤ (S 1046 0) ∧ (S 1046 0) + 2 * (S 1032 0) ≤ 500 ∧ sm_PD (S 1046 0) (S 1032 0) (S 1071 0) (S 1008 0) ∧ 0 ≤ (S 1071 0) * ((S 1008 0) + 1) ∧ (S 1071 0) * ((S 1008 0) + 1) ≤ 11557 ∧ 31 ≤ (S 1007 0) ∧ (S 1007 0) ≤ 400 ∧ sm_LN (S 4) 400 (S 1007 0) ∧ (S 75 639) = 647340 ∧ sm_ST (S 71) (S 74) (S 75) (S 78) (S 79) (S 80) (S 27) (S 1100007) (S 1100023) (S 1100024) (S 1046 0) ((S 1046 0) + 2 * (S 1032 0)) (S 1127 0) ∧ 465000 ≤ (S 1127 0) ∧ (S 1127 0) + sm_hs (S 71) (S 1100007) ≤ 635000 ∧ sm_NH (S 1100007) ∧ sm_CT (S 26) (S 27) (S 28) (S 29) (S 1100007) (S 1100023) (S 1100024) (S 1100025) (S 21) (S 1046 0) (S 1032 0) (S 1008 0) (S 1055 0) ∧ (∀ k : Int, (S 1046 0) ≤ k → k < ((S 1046 0) + 2 * (S 1032 0)) → (S 1100007 k) = 1) ∧ sm_DR (S 72) (S 71) (S 1046 0) ∧ 0 ≤ (S 74 639) ∧ (S 74 639) ≤ 400 ∧ 0 ≤ (S 78 639) ∧ (S 78 639) ≤ 40 ∧ (S 78 639) = sm_dp (S 1100024) (S 1100031 0) ∧ -1 ≤ (S 1100031 0) ∧ (S 1100031 0) < (S 1046 0) ∧ (0 ≤ (S 1100031 0) → (S 26 (S 1100031 0)) = 27) ∧ sm_TC (S 79) (S 80) (S 27) (S 1100007) (S 1100023) (S 1100024) 25560 (S 1100031 0) ∧ 0 ≤ (S 1148 0) ∧ (S 1148 0) < (S 1046 0) ∧ 0 ≤ (647792 : Int) ∧ (647792 : Int) < 647800) ∧ (∀ g43 : sv_S, (sm_ST (g43 71) (g43 74) (g43 75) (g43 78) (g43 79) (g43 80) (S 27) (S 1100007) (S 1100023) (S 1100024) (S 1046 0) ((S 1046 0) + 2 * (S 1032 0)) (g43 1127 0) ∧ 465000 ≤ (g43 1127 0) ∧ (g43 1127 0) + sm_hs (g43 71) (S 1100007) ≤ 635000 ∧ (g43 75 639) = 647340 ∧ (∀ k : Int, (S 71 k) = 1 → (g43 71 k) = 1) ∧ sm_DR (g43 72) (g43 71) (S 1046 0) ∧ (641 * (sm_cm (g43 71) + sm_pt (g43 68) (g43 69) (g43 70) + sm_pl (g43 81) (g43 82) (g43 83) (g43 84) (g43 85) (g43 86) + sm_ps (g43 76) (g43 77)) + sm_du (g43 72)) ≤ (641 * (sm_cm (S 71) + sm_pt (g9 68) (g15 69) (g15 70) + sm_pl (g3 81) (g3 82) (g3 83) (g3 84) (g3 85) (g3 86) + sm_ps (S 76) (S 77)) + sm_du (S 72))) → (sm_ST (g43 71) (g43 74) (g43 75) (g43 78) (g43 79) (g43 80) (S 27) (S 1100007) (S 1100023) (S 1100024) (S 1046 0) ((S 1046 0) + 2 * (S 1032 0)) (g43 1127 0) ∧ 465000 ≤ (g43 1127 0) ∧ (g43 1127 0) + sm_hs (g43 71) (S 1100007) ≤ 635000 ∧ (g43 75 639) = 647340 ∧ (∀ k : Int, (S 71 k) = 1 → (g43 71 k) = 1) ∧ sm_DR (g43 72) (g43 71) (S 1046 0) ∧ (641 * (sm_cm (g43 71) + sm_pt (g43 68) (g43 69) (g43 70) + sm_pl (g43 81) (g43 82) (g43 83) (g43 84) (g43 85) (g43 86) + sm_ps (g43 76) (g43 77)) + sm_du (g43 72)) ≤ (641 * (sm_cm (S 71) + sm_pt (S 68) (S 69) (S 70) + sm_pl (S 81) (S 82) (S 83) (S 84) (S 85) (S 86) + sm_ps (S 76) (S 77)) + sm_du (S 72))))))))))) := by
  intro p1
  intro S
  intro h1_
  intro h2_
  rintro ⟨h3_, ⟨h4_, ⟨h5_, ⟨h6_, ⟨h7_, ⟨h8_, ⟨h9_, ⟨h10_, ⟨h11_, ⟨h12_, ⟨h13_, ⟨h14_, ⟨h15_, ⟨h16_, ⟨h17_, ⟨h18_, ⟨h19_, ⟨h20_, ⟨h21_, ⟨h22_, ⟨h23_, ⟨h24_, ⟨h25_, ⟨h26_, ⟨h27_, ⟨h28_, ⟨h29_, ⟨h30_, ⟨h31_, ⟨h32_, ⟨h33_, ⟨h34_, ⟨h35_, ⟨h36_, ⟨h37_, ⟨h38_, ⟨h39_, h40_⟩⟩⟩⟩⟩⟩⟩⟩⟩⟩⟩⟩⟩⟩⟩⟩⟩⟩⟩⟩⟩⟩⟩⟩⟩⟩⟩⟩⟩⟩⟩⟩⟩⟩⟩⟩⟩
  refine ⟨(la_errorNow_0 h39_ h40_), ?_⟩
  refine ⟨⟨h3_, ⟨h4_, ⟨h5_, ⟨h6_, ⟨h7_, ⟨h8_, ⟨h9_, ⟨h10_, ⟨h11_, ⟨h12_, ⟨h13_, ⟨h14_, ⟨h15_, ⟨h16_, ⟨h17_, ⟨h18_, ⟨h19_, (la_errorNow_1 h3_ h39_ h40_)⟩⟩⟩⟩⟩⟩⟩⟩⟩⟩⟩⟩⟩⟩⟩⟩⟩, ?_⟩
  intro g3
  rintro ⟨h41_, h42_⟩
  refine ⟨la_errorNow_2, ?_⟩
  intro g9
  intro h43_
  have h44_ := (h43_ la_errorNow_3)
  refine ⟨la_errorNow_4, ?_⟩
  intro g15
  intro h45_
  intro h46_
  refine ⟨?_, ?_⟩
  · skip
    intro h47_
    refine ⟨?_, ?_⟩
    · skip
      intro h48_
      intro r21
      intro h49_
      refine ⟨⟨h3_, ⟨h4_, ⟨h5_, ⟨h6_, ⟨h7_, ⟨h8_, ⟨h9_, ⟨h10_, ⟨h11_, ⟨h12_, ⟨h13_, ⟨h14_, ⟨h15_, ⟨h16_, ⟨h17_, ⟨h18_, ⟨h19_, ⟨h20_, ⟨h21_, ⟨h22_, ⟨h23_, ⟨h24_, ⟨h25_, ⟨h26_, ⟨h27_, ⟨h28_, ⟨h29_, ⟨h30_, ⟨h31_, ⟨h32_, ⟨h33_, ⟨h34_, ⟨h35_, ⟨h36_, (la_errorNow_8 h37_ h38_)⟩⟩⟩⟩⟩⟩⟩⟩⟩⟩⟩⟩⟩⟩⟩⟩⟩⟩⟩⟩⟩⟩⟩⟩⟩⟩⟩⟩⟩⟩⟩⟩⟩⟩, ?_⟩
      intro g25
      rintro ⟨h50_, ⟨h51_, ⟨h52_, ⟨h53_, ⟨h54_, ⟨h55_, h56_⟩⟩⟩⟩⟩⟩
      refine ⟨h50_, ?_⟩
      refine ⟨h51_, ?_⟩
      refine ⟨h52_, ?_⟩
      refine ⟨h53_, ?_⟩
      refine ⟨h54_, ?_⟩
      refine ⟨h55_, ?_⟩
      exact (la_errorNow_9 h41_ h42_ h44_ h45_ h56_)
    intro h57_
    intro r30
    intro h58_
    refine ⟨⟨h3_, ⟨h4_, ⟨h5_, ⟨h6_, ⟨h7_, ⟨h8_, ⟨h9_, ⟨h10_, ⟨h11_, ⟨h12_, ⟨h13_, ⟨h14_, ⟨h15_, ⟨h16_, ⟨h17_, ⟨h18_, ⟨h19_, ⟨h20_, ⟨h21_, ⟨h22_, ⟨h23_, ⟨h24_, ⟨h25_, ⟨h26_, ⟨h27_, ⟨h28_, ⟨h29_, ⟨h30_, ⟨h31_, ⟨h32_, ⟨h33_, ⟨h34_, ⟨h35_, ⟨h36_, (la_errorNow_8 h37_ h38_)⟩⟩⟩⟩⟩⟩⟩⟩⟩⟩⟩⟩⟩⟩⟩⟩⟩⟩⟩⟩⟩⟩⟩⟩⟩⟩⟩⟩⟩⟩⟩⟩⟩⟩, ?_⟩
    intro g34
    rintro ⟨h59_, ⟨h60_, ⟨h61_, ⟨h62_, ⟨h63_, ⟨h64_, h65_⟩⟩⟩⟩⟩⟩
    refine ⟨h59_, ?_⟩
    refine ⟨h60_, ?_⟩
    refine ⟨h61_, ?_⟩
    refine ⟨h62_, ?_⟩
    refine ⟨h63_, ?_⟩
    refine ⟨h64_, ?_⟩
    exact (la_errorNow_9 h41_ h42_ h44_ h45_ h65_)
  intro h66_
  intro r39
  intro h67_
  refine ⟨⟨h3_, ⟨h4_, ⟨h5_, ⟨h6_, ⟨h7_, ⟨h8_, ⟨h9_, ⟨h10_, ⟨h11_, ⟨h12_, ⟨h13_, ⟨h14_, ⟨h15_, ⟨h16_, ⟨h17_, ⟨h18_, ⟨h19_, ⟨h20_, ⟨h21_, ⟨h22_, ⟨h23_, ⟨h24_, ⟨h25_, ⟨h26_, ⟨h27_, ⟨h28_, ⟨h29_, ⟨h30_, ⟨h31_, ⟨h32_, ⟨h33_, ⟨h34_, ⟨h35_, ⟨h36_, (la_errorNow_8 h37_ h38_)⟩⟩⟩⟩⟩⟩⟩⟩⟩⟩⟩⟩⟩⟩⟩⟩⟩⟩⟩⟩⟩⟩⟩⟩⟩⟩⟩⟩⟩⟩⟩⟩⟩⟩, ?_⟩
  intro g43
  rintro ⟨h68_, ⟨h69_, ⟨h70_, ⟨h71_, ⟨h72_, ⟨h73_, h74_⟩⟩⟩⟩⟩⟩
  refine ⟨h68_, ?_⟩
  refine ⟨h69_, ?_⟩
  refine ⟨h70_, ?_⟩
  refine ⟨h71_, ?_⟩
  refine ⟨h72_, ?_⟩
  refine ⟨h73_, ?_⟩
  exact (la_errorNow_9 h41_ h42_ h44_ h45_ h74_)
set_option maxRecDepth 8000 in
set_option maxHeartbeats 2000000 in
theorem t_errorNow : ∀ (p1 : Int) (S : sv_S), sm_ok S → sv_R p1 → (29 ≤ (S 1071 0) ∧ (S 1071 0) ≤ 127 ∧ 31 ≤ (S 1008 0) ∧ (S 1008 0) ≤ 90 ∧ 1 ≤ (S 1032 0) ∧ (S 1032 0) ≤ 11 ∧ 0 ≤ (S 1055 0) ∧ (S 1055 0) ≤ 19 ∧ (S 1071 0) = 29 + 6 * ((S 1032 0) - 1) + 2 * (S 1055 0) ∧ 0 ≤ (S 1046 0) ∧ (S 1046 0) + 2 * (S 1032 0) ≤ 500 ∧ sm_PD (S 1046 0) (S 1032 0) (S 1071 0) (S 1008 0) ∧ 0 ≤ (S 1071 0) * ((S 1008 0) + 1) ∧ (S 1071 0) * ((S 1008 0) + 1) ≤ 11557 ∧ 31 ≤ (S 1007 0) ∧ (S 1007 0) ≤ 400 ∧ sm_LN (S 4) 400 (S 1007 0) ∧ (S 75 639) = 647340 ∧ sm_ST (S 71) (S 74) (S 75) (S 78) (S 79) (S 80) (S 27) (S 1100007) (S 1100023) (S 1100024) (S 1046 0) ((S 1046 0) + 2 * (S 1032 0)) (S 1127 0) ∧ 465000 ≤ (S 1127 0) ∧ (S 1127 0) + sm_hs (S 71) (S 1100007) ≤ 635000 ∧ sm_NH (S 1100007) ∧ sm_CT (S 26) (S 27) (S 28) (S 29) (S 1100007) (S 1100023) (S 1100024) (S 1100025) (S 21) (S 1046 0) (S 1032 0) (S 1008 0) (S 1055 0) ∧ (∀ k : Int, (S 1046 0) ≤ k → k < ((S 1046 0) + 2 * (S 1032 0)) → (S 1100007 k) = 1) ∧ sm_DR (S 72) (S 71) (S 1046 0) ∧ 0 ≤ (S 74 639) ∧ (S 74 639) ≤ 400 ∧ 0 ≤ (S 78 639) ∧ (S 78 639) ≤ 40 ∧ (S 78 639) = sm_dp (S 1100024) (S 1100031 0) ∧ -1 ≤ (S 1100031 0) ∧ (S 1100031 0) < (S 1046 0) ∧ (0 ≤ (S 1100031 0) → (S 26 (S 1100031 0)) = 27) ∧ sm_TC (S 79) (S 80) (S 27) (S 1100007) (S 1100023) (S 1100024) 25560 (S 1100031 0) ∧ 0 ≤ (S 1148 0) ∧ (S 1148 0) < (S 1046 0) ∧ 6 ≤ p1 ∧ p1 ≤ 8) → sv_T sm_XS sm_cs sm_L sm_sh 7 (q_errorNow p1 S) 262 0 (lv_args 0 [.ref 0, sv_I p1]) [] S := by
  intro p1 S hok hp1 hpre
  have h := f_errorNow p1 S hok hp1 hpre
  have hM := sm_h262
  show sv_T sm_XS sm_cs sm_L sm_sh 7 (q_errorNow p1 S) 262 0 [(0, .ref 0), (1, sv_I p1)] [] S
  refine sv_aload_n hM dX12_errorNow_0 rfl rfl ?_
  refine sv_iload_n hM dX12_errorNow_1 rfl rfl ?_
  refine sv_bipush (d := (20 : Int)) hM dX12_errorNow_2 rfl rfl ?_
  refine sv_iadd hM dX12_errorNow_4 rfl ?_
  refine sv_iload_n hM dX12_errorNow_5 rfl rfl ?_
  refine sv_iconst (d := (0 : Int)) hM dX12_errorNow_6 rfl rfl ?_
  refine sv_iconst (d := (-1 : Int)) hM dX12_errorNow_7 rfl rfl ?_
  obtain ⟨o1, h⟩ := h
  obtain ⟨o2, h⟩ := h
  refine sv_callV hM dX12_errorNow_8 sm_iv_1204 (by decide) (sm_a0 _) rfl rfl (Nat.le_of_ble_eq_true rfl) sm_h254 (Nat.le_of_ble_eq_true rfl) (Nat.le_of_ble_eq_true rfl) (F' := 6) (Nat.le_of_ble_eq_true rfl) rfl (t_addNew (p1 + (20 : Int)) p1 (0 : Int) (-1 : Int) S hok o1 hp1 (⟨by decide, by decide⟩ : 0 ≤ (0 : Int) ∧ (0 : Int) ≤ 1) (⟨by decide, by decide⟩ : sv_R (-1 : Int)) o2) (fun v S1 hq => ?_)
  obtain ⟨rfl, ok4, md5, hpo6⟩ := hq
  obtain ⟨g3, rfl⟩ : ∃ g, S1 = sv_sts S [68, 69, 70, 1143, 1144, 5, 1011, 81, 82, 83, 84, 85, 86] g := ⟨_, md5.eq⟩
  show sv_T sm_XS sm_cs sm_L sm_sh 7 (q_errorNow p1 S) 262 11 [(0, .ref 0), (1, sv_I p1)] [] (sv_sts S [68, 69, 70, 1143, 1144, 5, 1011, 81, 82, 83, 84, 85, 86] g3)
  have md7 : sv_mod [68, 69, 70, 81, 82, 83, 84, 85, 86, 71, 74, 75, 1127, 78, 79, 80, 72, 76, 77, 1143, 1144, 5, 1011, 1150, 1149, 1145, 1113, 1111, 1112, 1100031] S (sv_sts S [68, 69, 70, 1143, 1144, 5, 1011, 81, 82, 83, 84, 85, 86] g3) := sv_mod.sts sv_mod.rf (by decide)
  have h := h g3 hpo6
  refine sv_ldc_w (d := (647792 : Int)) hM dX12_errorNow_11 sm_ck_1194 rfl rfl ?_
  refine sv_istore_n hM dX12_errorNow_14 (by decide) rfl ?_
  show sv_T sm_XS sm_cs sm_L sm_sh 7 (q_errorNow p1 S) 262 15 [(0, .ref 0), (1, sv_I p1), (2, sv_I (647792 : Int))] [] (sv_sts S [68, 69, 70, 1143, 1144, 5, 1011, 81, 82, 83, 84, 85, 86] g3)
  refine sv_aload_n hM dX12_errorNow_15 rfl rfl ?_
  refine sv_iload_n hM dX12_errorNow_16 rfl rfl ?_
  obtain ⟨o8, h⟩ := h
  refine sv_callV hM dX12_errorNow_17 sm_iv_1066 (by decide) (sm_a0 _) rfl rfl (Nat.le_of_ble_eq_true rfl) sm_h206 (Nat.le_of_ble_eq_true rfl) (Nat.le_of_ble_eq_true rfl) (F' := 0) (Nat.le_of_ble_eq_true rfl) rfl (t_empty (647792 : Int) (sv_sts S [68, 69, 70, 1143, 1144, 5, 1011, 81, 82, 83, 84, 85, 86] g3) ok4 (⟨by decide, by decide⟩ : sv_R (647792 : Int)) o8) (fun v S1 hq => ?_)
  obtain ⟨rfl, ok10, md11, hpo12⟩ := hq
  obtain ⟨g9, rfl⟩ : ∃ g, S1 = sv_sts (sv_sts S [68, 69, 70, 1143, 1144, 5, 1011, 81, 82, 83, 84, 85, 86] g3) [68, 69, 70] g := ⟨_, md11.eq⟩
  show sv_T sm_XS sm_cs sm_L sm_sh 7 (q_errorNow p1 S) 262 20 [(0, .ref 0), (1, sv_I p1), (2, sv_I (647792 : Int))] [] (sv_sts (sv_sts S [68, 69, 70, 1143, 1144, 5, 1011, 81, 82, 83, 84, 85, 86] g3) [68, 69, 70] g9)
  have md13 : sv_mod [68, 69, 70, 81, 82, 83, 84, 85, 86, 71, 74, 75, 1127, 78, 79, 80, 72, 76, 77, 1143, 1144, 5, 1011, 1150, 1149, 1145, 1113, 1111, 1112, 1100031] S (sv_sts (sv_sts S [68, 69, 70, 1143, 1144, 5, 1011, 81, 82, 83, 84, 85, 86] g3) [68, 69, 70] g9) := sv_mod.sts md7 (by decide)
  have h := h g9 hpo12
  refine sv_aload_n hM dX12_errorNow_20 rfl rfl ?_
  refine sv_iload_n hM dX12_errorNow_21 rfl rfl ?_
  refine sv_iload_n hM dX12_errorNow_22 rfl rfl ?_
  refine sv_bipush (d := (20 : Int)) hM dX12_errorNow_23 rfl rfl ?_
  refine sv_iadd hM dX12_errorNow_25 rfl ?_
  obtain ⟨o14, h⟩ := h
  refine sv_callV hM dX12_errorNow_26 sm_iv_1081 (by decide) (sm_a0 _) rfl rfl (Nat.le_of_ble_eq_true rfl) sm_h216 (Nat.le_of_ble_eq_true rfl) (Nat.le_of_ble_eq_true rfl) (F' := 0) (Nat.le_of_ble_eq_true rfl) rfl (t_addLabel (647792 : Int) (p1 + (20 : Int)) (sv_sts (sv_sts S [68, 69, 70, 1143, 1144, 5, 1011, 81, 82, 83, 84, 85, 86] g3) [68, 69, 70] g9) ok10 (⟨by decide, by decide⟩ : sv_R (647792 : Int)) o1 o14) (fun v S1 hq => ?_)
  obtain ⟨rfl, ok16, md17, hpo18⟩ := hq
  obtain ⟨g15, rfl⟩ : ∃ g, S1 = sv_sts (sv_sts (sv_sts S [68, 69, 70, 1143, 1144, 5, 1011, 81, 82, 83, 84, 85, 86] g3) [68, 69, 70] g9) [69, 70] g := ⟨_, md17.eq⟩
  show sv_T sm_XS sm_cs sm_L sm_sh 7 (q_errorNow p1 S) 262 29 [(0, .ref 0), (1, sv_I p1), (2, sv_I (647792 : Int))] [] (sv_sts (sv_sts (sv_sts S [68, 69, 70, 1143, 1144, 5, 1011, 81, 82, 83, 84, 85, 86] g3) [68, 69, 70] g9) [69, 70] g15)
  have md19 : sv_mod [68, 69, 70, 81, 82, 83, 84, 85, 86, 71, 74, 75, 1127, 78, 79, 80, 72, 76, 77, 1143, 1144, 5, 1011, 1150, 1149, 1145, 1113, 1111, 1112, 1100031] S (sv_sts (sv_sts (sv_sts S [68, 69, 70, 1143, 1144, 5, 1011, 81, 82, 83, 84, 85, 86] g3) [68, 69, 70] g9) [69, 70] g15) := sv_mod.sts md13 (by decide)
  have h := h g15 hpo18
  refine sv_aload_n hM dX12_errorNow_29 rfl rfl ?_
  refine sv_aload_n hM dX12_errorNow_30 rfl rfl ?_
  have k20 : sv_R (S 1149 0) := sm_okI ok16 sm_r1149 0
  have h := h k20
  refine sv_getI hM dX12_errorNow_31 sm_fl_1208 (sm_a0 _) sm_k149 rfl (x := (S 1149 0)) rfl ?_
  refine sv_iload_n hM dX12_errorNow_34 rfl rfl ?_
  refine sv_bipush (d := (6 : Int)) hM dX12_errorNow_35 rfl rfl ?_
  refine sv_icmp_ne hM dX12_errorNow_37 hp1 (⟨by decide, by decide⟩ : sv_R (6 : Int)) (t := 44) rfl rfl (fun hc => ?_) (fun hc => ?_)
  · have h := h.1 (hc)
    refine sv_iload_n hM dX12_errorNow_44 rfl rfl ?_
    refine sv_bipush (d := (7 : Int)) hM dX12_errorNow_45 rfl rfl ?_
    refine sv_icmp_ne hM dX12_errorNow_47 hp1 (⟨by decide, by decide⟩ : sv_R (7 : Int)) (t := 54) rfl rfl (fun hc => ?_) (fun hc => ?_)
    · have h := h.1 (hc)
      refine sv_iconst (d := (0 : Int)) hM dX12_errorNow_54 rfl rfl ?_
      refine sv_anyI hM dX12_errorNow_55 rfl rfl (fun r21 hr21 _ => ?_)
      have h := h r21 hr21
      refine sv_putI sm_X hM dX12_errorNow_56 sm_fp_1208 (sm_a0 _) sm_q149 (Or.inl rfl) rfl rfl rfl rfl ?_
      have ok22 : sm_ok (sv_up (sv_sts (sv_sts (sv_sts S [68, 69, 70, 1143, 1144, 5, 1011, 81, 82, 83, 84, 85, 86] g3) [68, 69, 70] g9) [69, 70] g15) 1149 0 r21) := sm_upI ok16 sm_r1149 hr21
      have md23 : sv_mod [68, 69, 70, 81, 82, 83, 84, 85, 86, 71, 74, 75, 1127, 78, 79, 80, 72, 76, 77, 1143, 1144, 5, 1011, 1150, 1149, 1145, 1113, 1111, 1112, 1100031] S (sv_up (sv_sts (sv_sts (sv_sts S [68, 69, 70, 1143, 1144, 5, 1011, 81, 82, 83, 84, 85, 86] g3) [68, 69, 70] g9) [69, 70] g15) 1149 0 r21) := sv_mod.up md19 (by decide)
      refine sv_aload_n hM dX12_errorNow_59 rfl rfl ?_
      refine sv_iload_n hM dX12_errorNow_60 rfl rfl ?_
      obtain ⟨o24, h⟩ := h
      refine sv_callV hM dX12_errorNow_61 sm_iv_1198 (by decide) (sm_a0 _) rfl rfl (Nat.le_of_ble_eq_true rfl) sm_h261 (Nat.le_of_ble_eq_true rfl) (Nat.le_of_ble_eq_true rfl) (F' := 4) (Nat.le_of_ble_eq_true rfl) rfl (t_tossSet (647792 : Int) (sv_up (sv_sts (sv_sts (sv_sts S [68, 69, 70, 1143, 1144, 5, 1011, 81, 82, 83, 84, 85, 86] g3) [68, 69, 70] g9) [69, 70] g15) 1149 0 r21) ok22 (⟨by decide, by decide⟩ : sv_R (647792 : Int)) o24) (fun v S1 hq => ?_)
      obtain ⟨rfl, ok26, md27, hpo28⟩ := hq
      obtain ⟨g25, rfl⟩ : ∃ g, S1 = sv_sts (sv_up (sv_sts (sv_sts (sv_sts S [68, 69, 70, 1143, 1144, 5, 1011, 81, 82, 83, 84, 85, 86] g3) [68, 69, 70] g9) [69, 70] g15) 1149 0 r21) [68, 69, 70, 81, 82, 83, 84, 85, 86, 71, 74, 75, 1127, 78, 79, 80, 72, 76, 77, 1100031] g := ⟨_, md27.eq⟩
      show sv_T sm_XS sm_cs sm_L sm_sh 7 (q_errorNow p1 S) 262 64 [(0, .ref 0), (1, sv_I p1), (2, sv_I (647792 : Int))] [] (sv_sts (sv_up (sv_sts (sv_sts (sv_sts S [68, 69, 70, 1143, 1144, 5, 1011, 81, 82, 83, 84, 85, 86] g3) [68, 69, 70] g9) [69, 70] g15) 1149 0 r21) [68, 69, 70, 81, 82, 83, 84, 85, 86, 71, 74, 75, 1127, 78, 79, 80, 72, 76, 77, 1100031] g25)
      have md29 : sv_mod [68, 69, 70, 81, 82, 83, 84, 85, 86, 71, 74, 75, 1127, 78, 79, 80, 72, 76, 77, 1143, 1144, 5, 1011, 1150, 1149, 1145, 1113, 1111, 1112, 1100031] S (sv_sts (sv_up (sv_sts (sv_sts (sv_sts S [68, 69, 70, 1143, 1144, 5, 1011, 81, 82, 83, 84, 85, 86] g3) [68, 69, 70] g9) [69, 70] g15) 1149 0 r21) [68, 69, 70, 81, 82, 83, 84, 85, 86, 71, 74, 75, 1127, 78, 79, 80, 72, 76, 77, 1100031] g25) := sv_mod.sts md23 (by decide)
      have h := h g25 hpo28
      exact sv_vret hM dX12_errorNow_64 rfl ⟨rfl, ok26, md29, h⟩
    · have h := h.2 (hc)
      refine sv_iconst (d := (2 : Int)) hM dX12_errorNow_50 rfl rfl ?_
      refine sv_goto hM dX12_errorNow_51 (pc' := 55) rfl ?_
      refine sv_anyI hM dX12_errorNow_55 rfl rfl (fun r30 hr30 _ => ?_)
      have h := h r30 hr30
      refine sv_putI sm_X hM dX12_errorNow_56 sm_fp_1208 (sm_a0 _) sm_q149 (Or.inl rfl) rfl rfl rfl rfl ?_
      have ok31 : sm_ok (sv_up (sv_sts (sv_sts (sv_sts S [68, 69, 70, 1143, 1144, 5, 1011, 81, 82, 83, 84, 85, 86] g3) [68, 69, 70] g9) [69, 70] g15) 1149 0 r30) := sm_upI ok16 sm_r1149 hr30
      have md32 : sv_mod [68, 69, 70, 81, 82, 83, 84, 85, 86, 71, 74, 75, 1127, 78, 79, 80, 72, 76, 77, 1143, 1144, 5, 1011, 1150, 1149, 1145, 1113, 1111, 1112, 1100031] S (sv_up (sv_sts (sv_sts (sv_sts S [68, 69, 70, 1143, 1144, 5, 1011, 81, 82, 83, 84, 85, 86] g3) [68, 69, 70] g9) [69, 70] g15) 1149 0 r30) := sv_mod.up md19 (by decide)
      refine sv_aload_n hM dX12_errorNow_59 rfl rfl ?_
      refine sv_iload_n hM dX12_errorNow_60 rfl rfl ?_
      obtain ⟨o33, h⟩ := h
      refine sv_callV hM dX12_errorNow_61 sm_iv_1198 (by decide) (sm_a0 _) rfl rfl (Nat.le_of_ble_eq_true rfl) sm_h261 (Nat.le_of_ble_eq_true rfl) (Nat.le_of_ble_eq_true rfl) (F' := 4) (Nat.le_of_ble_eq_true rfl) rfl (t_tossSet (647792 : Int) (sv_up (sv_sts (sv_sts (sv_sts S [68, 69, 70, 1143, 1144, 5, 1011, 81, 82, 83, 84, 85, 86] g3) [68, 69, 70] g9) [69, 70] g15) 1149 0 r30) ok31 (⟨by decide, by decide⟩ : sv_R (647792 : Int)) o33) (fun v S1 hq => ?_)
      obtain ⟨rfl, ok35, md36, hpo37⟩ := hq
      obtain ⟨g34, rfl⟩ : ∃ g, S1 = sv_sts (sv_up (sv_sts (sv_sts (sv_sts S [68, 69, 70, 1143, 1144, 5, 1011, 81, 82, 83, 84, 85, 86] g3) [68, 69, 70] g9) [69, 70] g15) 1149 0 r30) [68, 69, 70, 81, 82, 83, 84, 85, 86, 71, 74, 75, 1127, 78, 79, 80, 72, 76, 77, 1100031] g := ⟨_, md36.eq⟩
      show sv_T sm_XS sm_cs sm_L sm_sh 7 (q_errorNow p1 S) 262 64 [(0, .ref 0), (1, sv_I p1), (2, sv_I (647792 : Int))] [] (sv_sts (sv_up (sv_sts (sv_sts (sv_sts S [68, 69, 70, 1143, 1144, 5, 1011, 81, 82, 83, 84, 85, 86] g3) [68, 69, 70] g9) [69, 70] g15) 1149 0 r30) [68, 69, 70, 81, 82, 83, 84, 85, 86, 71, 74, 75, 1127, 78, 79, 80, 72, 76, 77, 1100031] g34)
      have md38 : sv_mod [68, 69, 70, 81, 82, 83, 84, 85, 86, 71, 74, 75, 1127, 78, 79, 80, 72, 76, 77, 1143, 1144, 5, 1011, 1150, 1149, 1145, 1113, 1111, 1112, 1100031] S (sv_sts (sv_up (sv_sts (sv_sts (sv_sts S [68, 69, 70, 1143, 1144, 5, 1011, 81, 82, 83, 84, 85, 86] g3) [68, 69, 70] g9) [69, 70] g15) 1149 0 r30) [68, 69, 70, 81, 82, 83, 84, 85, 86, 71, 74, 75, 1127, 78, 79, 80, 72, 76, 77, 1100031] g34) := sv_mod.sts md32 (by decide)
      have h := h g34 hpo37
      exact sv_vret hM dX12_errorNow_64 rfl ⟨rfl, ok35, md38, h⟩
  · have h := h.2 (hc)
    refine sv_iconst (d := (1 : Int)) hM dX12_errorNow_40 rfl rfl ?_
    refine sv_goto hM dX12_errorNow_41 (pc' := 55) rfl ?_
    refine sv_anyI hM dX12_errorNow_55 rfl rfl (fun r39 hr39 _ => ?_)
    have h := h r39 hr39
    refine sv_putI sm_X hM dX12_errorNow_56 sm_fp_1208 (sm_a0 _) sm_q149 (Or.inl rfl) rfl rfl rfl rfl ?_
    have ok40 : sm_ok (sv_up (sv_sts (sv_sts (sv_sts S [68, 69, 70, 1143, 1144, 5, 1011, 81, 82, 83, 84, 85, 86] g3) [68, 69, 70] g9) [69, 70] g15) 1149 0 r39) := sm_upI ok16 sm_r1149 hr39
    have md41 : sv_mod [68, 69, 70, 81, 82, 83, 84, 85, 86, 71, 74, 75, 1127, 78, 79, 80, 72, 76, 77, 1143, 1144, 5, 1011, 1150, 1149, 1145, 1113, 1111, 1112, 1100031] S (sv_up (sv_sts (sv_sts (sv_sts S [68, 69, 70, 1143, 1144, 5, 1011, 81, 82, 83, 84, 85, 86] g3) [68, 69, 70] g9) [69, 70] g15) 1149 0 r39) := sv_mod.up md19 (by decide)
    refine sv_aload_n hM dX12_errorNow_59 rfl rfl ?_
    refine sv_iload_n hM dX12_errorNow_60 rfl rfl ?_
    obtain ⟨o42, h⟩ := h
    refine sv_callV hM dX12_errorNow_61 sm_iv_1198 (by decide) (sm_a0 _) rfl rfl (Nat.le_of_ble_eq_true rfl) sm_h261 (Nat.le_of_ble_eq_true rfl) (Nat.le_of_ble_eq_true rfl) (F' := 4) (Nat.le_of_ble_eq_true rfl) rfl (t_tossSet (647792 : Int) (sv_up (sv_sts (sv_sts (sv_sts S [68, 69, 70, 1143, 1144, 5, 1011, 81, 82, 83, 84, 85, 86] g3) [68, 69, 70] g9) [69, 70] g15) 1149 0 r39) ok40 (⟨by decide, by decide⟩ : sv_R (647792 : Int)) o42) (fun v S1 hq => ?_)
    obtain ⟨rfl, ok44, md45, hpo46⟩ := hq
    obtain ⟨g43, rfl⟩ : ∃ g, S1 = sv_sts (sv_up (sv_sts (sv_sts (sv_sts S [68, 69, 70, 1143, 1144, 5, 1011, 81, 82, 83, 84, 85, 86] g3) [68, 69, 70] g9) [69, 70] g15) 1149 0 r39) [68, 69, 70, 81, 82, 83, 84, 85, 86, 71, 74, 75, 1127, 78, 79, 80, 72, 76, 77, 1100031] g := ⟨_, md45.eq⟩
    show sv_T sm_XS sm_cs sm_L sm_sh 7 (q_errorNow p1 S) 262 64 [(0, .ref 0), (1, sv_I p1), (2, sv_I (647792 : Int))] [] (sv_sts (sv_up (sv_sts (sv_sts (sv_sts S [68, 69, 70, 1143, 1144, 5, 1011, 81, 82, 83, 84, 85, 86] g3) [68, 69, 70] g9) [69, 70] g15) 1149 0 r39) [68, 69, 70, 81, 82, 83, 84, 85, 86, 71, 74, 75, 1127, 78, 79, 80, 72, 76, 77, 1100031] g43)
    have md47 : sv_mod [68, 69, 70, 81, 82, 83, 84, 85, 86, 71, 74, 75, 1127, 78, 79, 80, 72, 76, 77, 1143, 1144, 5, 1011, 1150, 1149, 1145, 1113, 1111, 1112, 1100031] S (sv_sts (sv_up (sv_sts (sv_sts (sv_sts S [68, 69, 70, 1143, 1144, 5, 1011, 81, 82, 83, 84, 85, 86] g3) [68, 69, 70] g9) [69, 70] g15) 1149 0 r39) [68, 69, 70, 81, 82, 83, 84, 85, 86, 71, 74, 75, 1127, 78, 79, 80, 72, 76, 77, 1100031] g43) := sv_mod.sts md41 (by decide)
    have h := h g43 hpo46
    exact sv_vret hM dX12_errorNow_64 rfl ⟨rfl, ok44, md47, h⟩
def q_error_ (p1 : Int) (p2 : Int) (S : sv_S) : Option Value → sv_S → Prop := fun v S' => v = none ∧ sm_ok S' ∧ sv_mod [68, 69, 70, 81, 82, 83, 84, 85, 86, 71, 74, 75, 1127, 78, 79, 80, 72, 76, 77, 1143, 1144, 5, 1011, 1150, 1149, 1145, 1113, 1111, 1112, 1100031] S S' ∧ (sm_ST (S' 71) (S' 74) (S' 75) (S' 78) (S' 79) (S' 80) (S' 27) (S' 1100007) (S' 1100023) (S' 1100024) (S' 1046 0) ((S' 1046 0) + 2 * (S' 1032 0)) (S' 1127 0) ∧ 465000 ≤ (S' 1127 0) ∧ (S' 1127 0) + sm_hs (S' 71) (S' 1100007) ≤ 635000 ∧ (S' 75 639) = 647340 ∧ (∀ k : Int, (S 71 k) = 1 → (S' 71 k) = 1) ∧ sm_DR (S' 72) (S' 71) (S' 1046 0) ∧ (641 * (sm_cm (S' 71) + sm_pt (S' 68) (S' 69) (S' 70) + sm_pl (S' 81) (S' 82) (S' 83) (S' 84) (S' 85) (S' 86) + sm_ps (S' 76) (S' 77)) + sm_du (S' 72)) ≤ (641 * (sm_cm (S 71) + sm_pt (S 68) (S 69) (S 70) + sm_pl (S 81) (S 82) (S 83) (S 84) (S 85) (S 86) + sm_ps (S 76) (S 77)) + sm_du (S 72)))
theorem la_error__0 {x0 x1 : Int} (h0 : 0 ≤ x0) (h1 : x1 = x0) : 0 ≤ x1 := by omega
theorem la_error__1 {x0 x1 x2 : Int} (h0 : x0 < x1) (h1 : x2 = x0) : x2 < x1 := by omega
theorem la_error__2 {x0 x1 : Int} (h0 : x0 = 1) (h1 : x1 = x0) : x1 = 1 := by omega
theorem la_error__3 {x0 x1 x2 : Int} (h0 : 0 ≤ x0) (h1 : x0 < x1) (h2 : 6 ≤ x2) (h3 : x2 ≤ 8) : 0 ≤ x0 ∧ x0 < x1 ∧ 6 ≤ x2 ∧ x2 ≤ 8 := by omega
theorem la_error__4 {x0 x1 x2 x3 x4 x5 x6 x7 x8 x9 x10 x11 x12 : Int} (h0 : x0 = x1) (h1 : x2 = x3) (h2 : x4 = x5) (h3 : 641 * (x6 + x7 + x8 + x9) + x10 ≤ 641 * (x11 + x0 + x2 + x4) + x12) : 641 * (x6 + x7 + x8 + x9) + x10 ≤ 641 * (x11 + x1 + x3 + x5) + x12 := by omega
set_option maxHeartbeats 2000000 in
theorem f_error_ : ∀ (p1 : Int) (p2 : Int) (S : sv_S), sm_ok S → sv_R p1 → sv_R p2 → (29 ≤ (S 1071 0) ∧ (S 1071 0) ≤ 127 ∧ 31 ≤ (S 1008 0) ∧ (S 1008 0) ≤ 90 ∧ 1 ≤ (S 1032 0) ∧ (S 1032 0) ≤ 11 ∧ 0 ≤ (S 1055 0) ∧ (S 1055 0) ≤ 19 ∧ (S 1071 0) = 29 + 6 * ((S 1032 0) - 1) + 2 * (S 1055 0) ∧ 0 ≤ (S 1046 0) ∧ (S 1046 0) + 2 * (S 1032 0) ≤ 500 ∧ sm_PD (S 1046 0) (S 1032 0) (S 1071 0) (S 1008 0) ∧ 0 ≤ (S 1071 0) * ((S 1008 0) + 1) ∧ (S 1071 0) * ((S 1008 0) + 1) ≤ 11557 ∧ 31 ≤ (S 1007 0) ∧ (S 1007 0) ≤ 400 ∧ sm_LN (S 4) 400 (S 1007 0) ∧ (S 75 639) = 647340 ∧ sm_ST (S 71) (S 74) (S 75) (S 78) (S 79) (S 80) (S 27) (S 1100007) (S 1100023) (S 1100024) (S 1046 0) ((S 1046 0) + 2 * (S 1032 0)) (S 1127 0) ∧ 465000 ≤ (S 1127 0) ∧ (S 1127 0) + sm_hs (S 71) (S 1100007) ≤ 635000 ∧ sm_NH (S 1100007) ∧ sm_CT (S 26) (S 27) (S 28) (S 29) (S 1100007) (S 1100023) (S 1100024) (S 1100025) (S 21) (S 1046 0) (S 1032 0) (S 1008 0) (S 1055 0) ∧ (∀ k : Int, (S 1046 0) ≤ k → k < ((S 1046 0) + 2 * (S 1032 0)) → (S 1100007 k) = 1) ∧ sm_DR (S 72) (S 71) (S 1046 0) ∧ 0 ≤ (S 1148 0) ∧ (S 1148 0) < (S 1046 0) ∧ (S 71 (S 1148 0)) = 1 ∧ p1 = (S 1148 0) ∧ 6 ≤ p2 ∧ p2 ≤ 8) → (29 ≤ (S 1071 0) ∧ (S 1071 0) ≤ 127 ∧ 31 ≤ (S 1008 0) ∧ (S 1008 0) ≤ 90 ∧ 1 ≤ (S 1032 0) ∧ (S 1032 0) ≤ 11 ∧ 0 ≤ (S 1055 0) ∧ (S 1055 0) ≤ 19 ∧ (S 1071 0) = 29 + 6 * ((S 1032 0) - 1) + 2 * (S 1055 0) ∧ 0 ≤ (S 1046 0) ∧ (S 1046 0) + 2 * (S 1032 0) ≤ 500 ∧ sm_PD (S 1046 0) (S 1032 0) (S 1071 0) (S 1008 0) ∧ 0 ≤ (S 1071 0) * ((S 1008 0) + 1) ∧ (S 1071 0) * ((S 1008 0) + 1) ≤ 11557 ∧ 31 ≤ (S 1007 0) ∧ (S 1007 0) ≤ 400 ∧ sm_LN (S 4) 400 (S 1007 0) ∧ (S 75 639) = 647340 ∧ sm_ST (S 71) (S 74) (S 75) (S 78) (S 79) (S 80) (S 27) (S 1100007) (S 1100023) (S 1100024) (S 1046 0) ((S 1046 0) + 2 * (S 1032 0)) (S 1127 0) ∧ 465000 ≤ (S 1127 0) ∧ (S 1127 0) + sm_hs (S 71) (S 1100007) ≤ 635000 ∧ sm_NH (S 1100007) ∧ sm_CT (S 26) (S 27) (S 28) (S 29) (S 1100007) (S 1100023) (S 1100024) (S 1100025) (S 21) (S 1046 0) (S 1032 0) (S 1008 0) (S 1055 0) ∧ (∀ k : Int, (S 1046 0) ≤ k → k < ((S 1046 0) + 2 * (S 1032 0)) → (S 1100007 k) = 1) ∧ sm_DR (S 72) (S 71) (S 1046 0) ∧ 0 ≤ p1 ∧ p1 < (S 1046 0) ∧ (S 71 p1) = 1) ∧ (∀ g2 : sv_S, (sm_pt (g2 68) (g2 69) (g2 70) = sm_pt (S 68) (S 69) (S 70) ∧ sm_pl (g2 81) (g2 82) (g2 83) (g2 84) (g2 85) (g2 86) = sm_pl (S 81) (S 82) (S 83) (S 84) (S 85) (S 86) ∧ sm_ps (g2 76) (g2 77) = sm_ps (S 76) (S 77) ∧ sm_ST (S 71) (g2 74) (S 75) (g2 78) (g2 79) (g2 80) (S 27) (S 1100007) (S 1100023) (S 1100024) (S 1046 0) ((S 1046 0) + 2 * (S 1032 0)) (S 1127 0) ∧ 0 ≤ (g2 74 639) ∧ (g2 74 639) ≤ 400 ∧ 0 ≤ (g2 78 639) ∧ (g2 78 639) ≤ 40 ∧ (g2 78 639) = sm_dp (S 1100024) (g2 1100031 0) ∧ -1 ≤ (g2 1100031 0) ∧ (g2 1100031 0) < (S 1046 0) ∧ (0 ≤ (g2 1100031 0) → (S 26 (g2 1100031 0)) = 27) ∧ sm_TC (g2 79) (g2 80) (S 27) (S 1100007) (S 1100023) (S 1100024) 25560 (g2 1100031 0) ∧ (g2 74 639) = (S 1100007 p1) ∧ (g2 1100031 0) = (S 1100023 p1)) → (29 ≤ (S 1071 0) ∧ (S 1071 0) ≤ 127 ∧ 31 ≤ (S 1008 0) ∧ (S 1008 0) ≤ 90 ∧ 1 ≤ (S 1032 0) ∧ (S 1032 0) ≤ 11 ∧ 0 ≤ (S 1055 0) ∧ (S 1055 0) ≤ 19 ∧ (S 1071 0) = 29 + 6 * ((S 1032 0) - 1) + 2 * (S 1055 0) ∧ 0 ≤ (S 1046 0) ∧ (S 1046 0) + 2 * (S 1032 0) ≤ 500 ∧ sm_PD (S 1046 0) (S 1032 0) (S 1071 0) (S 1008 0) ∧ 0 ≤ (S 1071 0) * ((S 1008 0) + 1) ∧ (S 1071 0) * ((S 1008 0) + 1) ≤ 11557 ∧ 31 ≤ (S 1007 0) ∧ (S 1007 0) ≤ 400 ∧ sm_LN (S 4) 400 (S 1007 0) ∧ (S 75 639) = 647340 ∧ sm_ST (S 71) (g2 74) (S 75) (g2 78) (g2 79) (g2 80) (S 27) (S 1100007) (S 1100023) (S 1100024) (S 1046 0) ((S 1046 0) + 2 * (S 1032 0)) (S 1127 0) ∧ 465000 ≤ (S 1127 0) ∧ (S 1127 0) + sm_hs (S 71) (S 1100007) ≤ 635000 ∧ sm_NH (S 1100007) ∧ sm_CT (S 26) (S 27) (S 28) (S 29) (S 1100007) (S 1100023) (S 1100024) (S 1100025) (S 21) (S 1046 0) (S 1032 0) (S 1008 0) (S 1055 0) ∧ (∀ k : Int, (S 1046 0) ≤ k → k < ((S 1046 0) + 2 * (S 1032 0)) → (S 1100007 k) = 1) ∧ sm_DR (S 72) (S 71) (S 1046 0) ∧ 0 ≤ (g2 74 639) ∧ (g2 74 639) ≤ 400 ∧ 0 ≤ (g2 78 639) ∧ (g2 78 639) ≤ 40 ∧ (g2 78 639) = sm_dp (S 1100024) (g2 1100031 0) ∧ -1 ≤ (g2 1100031 0) ∧ (g2 1100031 0) < (S 1046 0) ∧ (0 ≤ (g2 1100031 0) → (S 26 (g2 1100031 0)) = 27) ∧ sm_TC (g2 79) (g2 80) (S 27) (S 1100007) (S 1100023) (S 1100024) 25560 (g2 1100031 0) ∧ 0 ≤ (S 1148 0) ∧ (S 1148 0) < (S 1046 0) ∧ 6 ≤ p2 ∧ p2 ≤ 8) ∧ (∀ g8 : sv_S, (sm_ST (g8 71) (g8 74) (g8 75) (g8 78) (g8 79) (g8 80) (S 27) (S 1100007) (S 1100023) (S 1100024) (S 1046 0) ((S 1046 0) + 2 * (S 1032 0)) (g8 1127 0) ∧ 465000 ≤ (g8 1127 0) ∧ (g8 1127 0) + sm_hs (g8 71) (S 1100007) ≤ 635000 ∧ (g8 75 639) = 647340 ∧ (∀ k : Int, (S 71 k) = 1 → (g8 71 k) = 1) ∧ sm_DR (g8 72) (g8 71) (S 1046 0) ∧ (641 * (sm_cm (g8 71) + sm_pt (g8 68) (g8 69) (g8 70) + sm_pl (g8 81) (g8 82) (g8 83) (g8 84) (g8 85) (g8 86) + sm_ps (g8 76) (g8 77)) + sm_du (g8 72)) ≤ (641 * (sm_cm (S 71) + sm_pt (g2 68) (g2 69) (g2 70) + sm_pl (g2 81) (g2 82) (g2 83) (g2 84) (g2 85) (g2 86) + sm_ps (g2 76) (g2 77)) + sm_du (S 72))) → (sm_ST (g8 71) (g8 74) (g8 75) (g8 78) (g8 79) (g8 80) (S 27) (S 1100007) (S 1100023) (S 1100024) (S 1046 0) ((S 1046 0) + 2 * (S 1032 0)) (g8 1127 0) ∧ 465000 ≤ (g8 1127 0) ∧ (g8 1127 0) + sm_hs (g8 71) (S 1100007) ≤ 635000 ∧ (g8 75 639) = 647340 ∧ (∀ k : Int, (S 71 k) = 1 → (g8 71 k) = 1) ∧ sm_DR (g8 72) (g8 71) (S 1046 0) ∧ (641 * (sm_cm (g8 71) + sm_pt (g8 68) (g8 69) (g8 70) + sm_pl (g8 81) (g8 82) (g8 83) (g8 84) (g8 85) (g8 86) + sm_ps (g8 76) (g8 77)) + sm_du (g8 72)) ≤ (641 * (sm_cm (S 71) + sm_pt (S 68) (S 69) (S 70) + sm_pl (S 81) (S 82) (S 83) (S 84) (S 85) (S 86) + sm_ps (S 76) (S 77)) + sm_du (S 72))))) := by
  intro p1
  intro p2
  intro S
  intro h1_
  intro h2_
  intro h3_
  rintro ⟨h4_, ⟨h5_, ⟨h6_, ⟨h7_, ⟨h8_, ⟨h9_, ⟨h10_, ⟨h11_, ⟨h12_, ⟨h13_, ⟨h14_, ⟨h15_, ⟨h16_, ⟨h17_, ⟨h18_, ⟨h19_, ⟨h20_, ⟨h21_, ⟨h22_, ⟨h23_, ⟨h24_, ⟨h25_, ⟨h26_, ⟨h27_, ⟨h28_, ⟨h29_, ⟨h30_, ⟨h31_, ⟨h32_, ⟨h33_, h34_⟩⟩⟩⟩⟩⟩⟩⟩⟩⟩⟩⟩⟩⟩⟩⟩⟩⟩⟩⟩⟩⟩⟩⟩⟩⟩⟩⟩⟩⟩
  refine ⟨?_, ?_⟩
  · skip
    refine ⟨h4_, ?_⟩
    refine ⟨h5_, ?_⟩
    refine ⟨h6_, ?_⟩
    refine ⟨h7_, ?_⟩
    refine ⟨h8_, ?_⟩
    refine ⟨h9_, ?_⟩
    refine ⟨h10_, ?_⟩
    refine ⟨h11_, ?_⟩
    refine ⟨h12_, ?_⟩
    refine ⟨h13_, ?_⟩
    refine ⟨h14_, ?_⟩
    refine ⟨h15_, ?_⟩
    refine ⟨h16_, ?_⟩
    refine ⟨h17_, ?_⟩
    refine ⟨h18_, ?_⟩
    refine ⟨h19_, ?_⟩
    refine ⟨h20_, ?_⟩
    refine ⟨h21_, ?_⟩
    refine ⟨h22_, ?_⟩
    refine ⟨h23_, ?_⟩
    refine ⟨h24_, ?_⟩
    refine ⟨h25_, ?_⟩
    refine ⟨h26_, ?_⟩
    refine ⟨h27_, ?_⟩
    refine ⟨h28_, ?_⟩
    refine ⟨(la_error__0 h29_ h32_), ?_⟩
    refine ⟨(la_error__1 h30_ h32_), ?_⟩
    have e35_ : S 71 p1 = S 71 (S 1148 0) := congrArg ((S 71)) h32_
    exact (la_error__2 h31_ e35_)
  intro g2
  rintro ⟨h36_, ⟨h37_, ⟨h38_, ⟨h39_, ⟨h40_, ⟨h41_, ⟨h42_, ⟨h43_, ⟨h44_, ⟨h45_, ⟨h46_, ⟨h47_, ⟨h48_, ⟨h49_, h50_⟩⟩⟩⟩⟩⟩⟩⟩⟩⟩⟩⟩⟩⟩
  refine ⟨⟨h4_, ⟨h5_, ⟨h6_, ⟨h7_, ⟨h8_, ⟨h9_, ⟨h10_, ⟨h11_, ⟨h12_, ⟨h13_, ⟨h14_, ⟨h15_, ⟨h16_, ⟨h17_, ⟨h18_, ⟨h19_, ⟨h20_, ⟨h21_, ⟨h39_, ⟨h23_, ⟨h24_, ⟨h25_, ⟨h26_, ⟨h27_, ⟨h28_, ⟨h40_, ⟨h41_, ⟨h42_, ⟨h43_, ⟨h44_, ⟨h45_, ⟨h46_, ⟨h47_, ⟨h48_, (la_error__3 h29_ h30_ h33_ h34_)⟩⟩⟩⟩⟩⟩⟩⟩⟩⟩⟩⟩⟩⟩⟩⟩⟩⟩⟩⟩⟩⟩⟩⟩⟩⟩⟩⟩⟩⟩⟩⟩⟩⟩, ?_⟩
  intro g8
  rintro ⟨h51_, ⟨h52_, ⟨h53_, ⟨h54_, ⟨h55_, ⟨h56_, h57_⟩⟩⟩⟩⟩⟩
  refine ⟨h51_, ?_⟩
  refine ⟨h52_, ?_⟩
  refine ⟨h53_, ?_⟩
  refine ⟨h54_, ?_⟩
  refine ⟨h55_, ?_⟩
  refine ⟨h56_, ?_⟩
  exact (la_error__4 h36_ h37_ h38_ h57_)
set_option maxRecDepth 8000 in
set_option maxHeartbeats 2000000 in
theorem t_error_ : ∀ (p1 : Int) (p2 : Int) (S : sv_S), sm_ok S → sv_R p1 → sv_R p2 → (29 ≤ (S 1071 0) ∧ (S 1071 0) ≤ 127 ∧ 31 ≤ (S 1008 0) ∧ (S 1008 0) ≤ 90 ∧ 1 ≤ (S 1032 0) ∧ (S 1032 0) ≤ 11 ∧ 0 ≤ (S 1055 0) ∧ (S 1055 0) ≤ 19 ∧ (S 1071 0) = 29 + 6 * ((S 1032 0) - 1) + 2 * (S 1055 0) ∧ 0 ≤ (S 1046 0) ∧ (S 1046 0) + 2 * (S 1032 0) ≤ 500 ∧ sm_PD (S 1046 0) (S 1032 0) (S 1071 0) (S 1008 0) ∧ 0 ≤ (S 1071 0) * ((S 1008 0) + 1) ∧ (S 1071 0) * ((S 1008 0) + 1) ≤ 11557 ∧ 31 ≤ (S 1007 0) ∧ (S 1007 0) ≤ 400 ∧ sm_LN (S 4) 400 (S 1007 0) ∧ (S 75 639) = 647340 ∧ sm_ST (S 71) (S 74) (S 75) (S 78) (S 79) (S 80) (S 27) (S 1100007) (S 1100023) (S 1100024) (S 1046 0) ((S 1046 0) + 2 * (S 1032 0)) (S 1127 0) ∧ 465000 ≤ (S 1127 0) ∧ (S 1127 0) + sm_hs (S 71) (S 1100007) ≤ 635000 ∧ sm_NH (S 1100007) ∧ sm_CT (S 26) (S 27) (S 28) (S 29) (S 1100007) (S 1100023) (S 1100024) (S 1100025) (S 21) (S 1046 0) (S 1032 0) (S 1008 0) (S 1055 0) ∧ (∀ k : Int, (S 1046 0) ≤ k → k < ((S 1046 0) + 2 * (S 1032 0)) → (S 1100007 k) = 1) ∧ sm_DR (S 72) (S 71) (S 1046 0) ∧ 0 ≤ (S 1148 0) ∧ (S 1148 0) < (S 1046 0) ∧ (S 71 (S 1148 0)) = 1 ∧ p1 = (S 1148 0) ∧ 6 ≤ p2 ∧ p2 ≤ 8) → sv_T sm_XS sm_cs sm_L sm_sh 8 (q_error_ p1 p2 S) 263 0 (lv_args 0 [.ref 0, sv_I p1, sv_I p2]) [] S := by
  intro p1 p2 S hok hp1 hp2 hpre
  have h := f_error_ p1 p2 S hok hp1 hp2 hpre
  have hM := sm_h263
  show sv_T sm_XS sm_cs sm_L sm_sh 8 (q_error_ p1 p2 S) 263 0 [(0, .ref 0), (1, sv_I p1), (2, sv_I p2)] [] S
  refine sv_aload_n hM dX12_error__0 rfl rfl ?_
  refine sv_iload_n hM dX12_error__1 rfl rfl ?_
  obtain ⟨o1, h⟩ := h
  refine sv_callV hM dX12_error__2 sm_iv_1211 (by decide) (sm_a0 _) rfl rfl (Nat.le_of_ble_eq_true rfl) sm_h231 (Nat.le_of_ble_eq_true rfl) (Nat.le_of_ble_eq_true rfl) (F' := 3) (Nat.le_of_ble_eq_true rfl) rfl (t_load p1 S hok hp1 o1) (fun v S1 hq => ?_)
  obtain ⟨rfl, ok3, md4, hpo5⟩ := hq
  obtain ⟨g2, rfl⟩ : ∃ g, S1 = sv_sts S [68, 69, 70, 81, 82, 83, 84, 85, 86, 74, 78, 79, 80, 76, 77, 1100031] g := ⟨_, md4.eq⟩
  show sv_T sm_XS sm_cs sm_L sm_sh 8 (q_error_ p1 p2 S) 263 5 [(0, .ref 0), (1, sv_I p1), (2, sv_I p2)] [] (sv_sts S [68, 69, 70, 81, 82, 83, 84, 85, 86, 74, 78, 79, 80, 76, 77, 1100031] g2)
  have md6 : sv_mod [68, 69, 70, 81, 82, 83, 84, 85, 86, 71, 74, 75, 1127, 78, 79, 80, 72, 76, 77, 1143, 1144, 5, 1011, 1150, 1149, 1145, 1113, 1111, 1112, 1100031] S (sv_sts S [68, 69, 70, 81, 82, 83, 84, 85, 86, 74, 78, 79, 80, 76, 77, 1100031] g2) := sv_mod.sts sv_mod.rf (by decide)
  have h := h g2 hpo5
  refine sv_aload_n hM dX12_error__5 rfl rfl ?_
  refine sv_iload_n hM dX12_error__6 rfl rfl ?_
  obtain ⟨o7, h⟩ := h
  refine sv_callV hM dX12_error__7 sm_iv_1214 (by decide) (sm_a0 _) rfl rfl (Nat.le_of_ble_eq_true rfl) sm_h262 (Nat.le_of_ble_eq_true rfl) (Nat.le_of_ble_eq_true rfl) (F' := 7) (Nat.le_of_ble_eq_true rfl) rfl (t_errorNow p2 (sv_sts S [68, 69, 70, 81, 82, 83, 84, 85, 86, 74, 78, 79, 80, 76, 77, 1100031] g2) ok3 hp2 o7) (fun v S1 hq => ?_)
  obtain ⟨rfl, ok9, md10, hpo11⟩ := hq
  obtain ⟨g8, rfl⟩ : ∃ g, S1 = sv_sts (sv_sts S [68, 69, 70, 81, 82, 83, 84, 85, 86, 74, 78, 79, 80, 76, 77, 1100031] g2) [68, 69, 70, 81, 82, 83, 84, 85, 86, 71, 74, 75, 1127, 78, 79, 80, 72, 76, 77, 1143, 1144, 5, 1011, 1150, 1149, 1145, 1113, 1111, 1112, 1100031] g := ⟨_, md10.eq⟩
  show sv_T sm_XS sm_cs sm_L sm_sh 8 (q_error_ p1 p2 S) 263 10 [(0, .ref 0), (1, sv_I p1), (2, sv_I p2)] [] (sv_sts (sv_sts S [68, 69, 70, 81, 82, 83, 84, 85, 86, 74, 78, 79, 80, 76, 77, 1100031] g2) [68, 69, 70, 81, 82, 83, 84, 85, 86, 71, 74, 75, 1127, 78, 79, 80, 72, 76, 77, 1143, 1144, 5, 1011, 1150, 1149, 1145, 1113, 1111, 1112, 1100031] g8)
  have md12 : sv_mod [68, 69, 70, 81, 82, 83, 84, 85, 86, 71, 74, 75, 1127, 78, 79, 80, 72, 76, 77, 1143, 1144, 5, 1011, 1150, 1149, 1145, 1113, 1111, 1112, 1100031] S (sv_sts (sv_sts S [68, 69, 70, 81, 82, 83, 84, 85, 86, 74, 78, 79, 80, 76, 77, 1100031] g2) [68, 69, 70, 81, 82, 83, 84, 85, 86, 71, 74, 75, 1127, 78, 79, 80, 72, 76, 77, 1143, 1144, 5, 1011, 1150, 1149, 1145, 1113, 1111, 1112, 1100031] g8) := sv_mod.sts md6 (by decide)
  have h := h g8 hpo11
  exact sv_vret hM dX12_error__10 rfl ⟨rfl, ok9, md12, h⟩
def q_comeBack (p1 : Int) (S : sv_S) : Option Value → sv_S → Prop := fun v S' => v = none ∧ sm_ok S' ∧ sv_mod [68, 69, 70, 81, 82, 83, 84, 85, 86, 76, 77] S S' ∧ (sm_pt (S' 68) (S' 69) (S' 70) = sm_pt (S 68) (S 69) (S 70) ∧ sm_pl (S' 81) (S' 82) (S' 83) (S' 84) (S' 85) (S' 86) = sm_pl (S 81) (S 82) (S 83) (S 84) (S 85) (S 86) ∧ sm_ps (S' 76) (S' 77) = sm_ps (S 76) (S 77))
theorem la_comeBack_0 {x0 x1 : Int} (h0 : 0 ≤ x0) : (0 : Int) ≤ 0 ∧ 0 ≤ x0 ∧ x1 = x1 := by omega
theorem la_comeBack_1 {x0 x1 : Int} (h0 : x0 ≤ x1) : 0 ≤ x1 - x0 := by omega
theorem la_comeBack_2 : (0 : Int) ≤ 639 ∧ (639 : Int) < 640 := by omega
theorem la_comeBack_3 : sv_R (635000 + 639) := by omega
theorem la_comeBack_4 {x0 : Int} (h0 : 29 ≤ x0) (h1 : x0 ≤ 127) : 29 ≤ x0 ∧ x0 ≤ 127 ∧ (635639 : Int) ≤ 635000 + 639 ∧ (635000 + 639 : Int) < 647800 := by omega
theorem la_comeBack_5 : (0 : Int) ≤ 647752 ∧ (647752 : Int) < 647800 := by omega
theorem la_comeBack_6 : (635639 : Int) ≤ 647752 := by omega
theorem la_comeBack_7 {x0 : Int} (h0 : 29 ≤ x0) (h1 : x0 ≤ 127) : 29 ≤ x0 ∧ x0 ≤ 127 ∧ (635639 : Int) ≤ 647752 ∧ (647752 : Int) < 647800 := by omega
theorem la_comeBack_8 {x0 x1 x2 x3 : Int} (h0 : 0 ≤ x0) (h1 : x0 ≤ 11557) (h2 : 0 ≤ x1) (h3 : x1 < x2 + 2 * x3) : 0 ≤ x0 ∧ x0 ≤ 11557 ∧ 0 ≤ x1 ∧ x1 < x2 + 2 * x3 := by omega
theorem la_comeBack_9 {x0 x1 x2 x3 x4 x5 x6 x7 : Int} (h0 : x0 = x1) (h1 : x2 = x0) (h2 : x3 = x2) (h3 : x4 = x5) (h4 : x6 = x4) (h5 : x5 = x7) (h6 : x7 = x3) : x6 = x1 := by omega
theorem la_comeBack_10 : (639 : Int) ≤ 639 := by omega
theorem la_comeBack_11 {x0 x1 x2 : Int} (h0 : x0 = x1) (h1 : x1 = x2) : x0 = x2 := by omega
theorem la_comeBack_12 {x0 x1 x2 : Int} (h0 : x0 = 647340) (h1 : x1 ≤ 400) (h2 : 0 ≤ x2) (h3 : ¬ x1 ≤ x2) : sv_R (x0 + x2) := by omega
theorem la_comeBack_13 {x0 x1 x2 x3 : Int} (h0 : 29 ≤ x0) (h1 : x0 ≤ 127) (h2 : x1 = 647340) (h3 : x2 ≤ 400) (h4 : 0 ≤ x3) (h5 : ¬ x2 ≤ x3) : 29 ≤ x0 ∧ x0 ≤ 127 ∧ 635639 ≤ x1 + x3 ∧ x1 + x3 < 647800 := by omega
theorem la_comeBack_14 {x0 x1 : Int} (h0 : x0 ≤ 400) (h1 : 0 ≤ x1) (h2 : ¬ x0 ≤ x1) : sv_R (x1 + 1) := by omega
theorem la_comeBack_15 {x0 x1 x2 x3 x4 : Int} (h0 : 0 ≤ x0) (h1 : x1 = x2) (h2 : ¬ x3 ≤ x0) (h3 : x4 = x1) : 0 ≤ x0 + 1 ∧ x0 + 1 ≤ x3 ∧ x4 = x2 := by omega
theorem la_comeBack_16 {x0 x1 : Int} : x0 - (x1 + 1) < x0 - x1 := by omega
set_option maxHeartbeats 2000000 in
theorem f_comeBack : ∀ (p1 : Int) (S : sv_S), sm_ok S → sv_R p1 → (29 ≤ (S 1071 0) ∧ (S 1071 0) ≤ 127 ∧ 31 ≤ (S 1008 0) ∧ (S 1008 0) ≤ 90 ∧ 1 ≤ (S 1032 0) ∧ (S 1032 0) ≤ 11 ∧ 0 ≤ (S 1055 0) ∧ (S 1055 0) ≤ 19 ∧ (S 1071 0) = 29 + 6 * ((S 1032 0) - 1) + 2 * (S 1055 0) ∧ 0 ≤ (S 1046 0) ∧ (S 1046 0) + 2 * (S 1032 0) ≤ 500 ∧ sm_PD (S 1046 0) (S 1032 0) (S 1071 0) (S 1008 0) ∧ 0 ≤ (S 1071 0) * ((S 1008 0) + 1) ∧ (S 1071 0) * ((S 1008 0) + 1) ≤ 11557 ∧ (S 75 639) = 647340 ∧ 0 ≤ (S 74 639) ∧ (S 74 639) ≤ 400 ∧ 0 ≤ p1 ∧ p1 < ((S 1046 0) + 2 * (S 1032 0))) → ((0 ≤ (0 : Int) ∧ (0 : Int) ≤ (S 74 639) ∧ sm_pt (S 68) (S 69) (S 70) = sm_pt (S 68) (S 69) (S 70)) ∧ (∀ l2_2 : Int, sv_R l2_2 → ∀ g1 : sv_S, (0 ≤ l2_2 ∧ l2_2 ≤ (S 74 639) ∧ sm_pt (S 68) (g1 69) (g1 70) = sm_pt (S 68) (S 69) (S 70)) → (0 ≤ (S 74 639) - l2_2) ∧ (0 ≤ (639 : Int) ∧ (639 : Int) < 640) ∧ (sv_R (S 74 (639 : Int)) → ((((S 74 (639 : Int)) ≤ l2_2) → (sv_R (635000 + (639 : Int))) ∧ (29 ≤ (S 1071 0) ∧ (S 1071 0) ≤ 127 ∧ 635639 ≤ (635000 + (639 : Int)) ∧ (635000 + (639 : Int)) < 647800) ∧ (∀ g12 : sv_S, (sm_pt (S 68) (g12 69) (g12 70) = sm_pt (S 68) (g1 69) (g1 70)) → (0 ≤ (647752 : Int) ∧ (647752 : Int) < 647800) ∧ (∀ g19 : sv_S, (635639 ≤ (647752 : Int) → sm_pt (g19 68) (g19 69) (g19 70) = sm_pt (S 68) (g12 69) (g12 70)) → (sv_RL (S 76 (639 : Int)) → (sv_RL (S 77 (639 : Int)) → (29 ≤ (S 1071 0) ∧ (S 1071 0) ≤ 127 ∧ 635639 ≤ (647752 : Int) ∧ (647752 : Int) < 647800) ∧ (∀ g31 : sv_S, (sm_pt (g19 68) (g31 69) (g31 70) = sm_pt (g19 68) (fun i' : Int => if i' = (647752 : Int) then (S 76 (639 : Int)) else (g19 69) i') (fun i' : Int => if i' = (647752 : Int) then (S 77 (639 : Int)) else (g19 70) i')) → (sv_RL (g31 69 (647752 : Int)) → (sv_RL (g31 70 (647752 : Int)) → (29 ≤ (S 1071 0) ∧ (S 1071 0) ≤ 127 ∧ 31 ≤ (S 1008 0) ∧ (S 1008 0) ≤ 90 ∧ 1 ≤ (S 1032 0) ∧ (S 1032 0) ≤ 11 ∧ 0 ≤ (S 1055 0) ∧ (S 1055 0) ≤ 19 ∧ (S 1071 0) = 29 + 6 * ((S 1032 0) - 1) + 2 * (S 1055 0) ∧ 0 ≤ (S 1046 0) ∧ (S 1046 0) + 2 * (S 1032 0) ≤ 500 ∧ sm_PD (S 1046 0) (S 1032 0) (S 1071 0) (S 1008 0) ∧ 0 ≤ (S 1071 0) * ((S 1008 0) + 1) ∧ (S 1071 0) * ((S 1008 0) + 1) ≤ 11557 ∧ 0 ≤ p1 ∧ p1 < ((S 1046 0) + 2 * (S 1032 0))) ∧ (∀ g43 : sv_S, (sm_pt (g43 68) (g43 69) (g43 70) = sm_pt (g19 68) (g31 69) (g31 70) ∧ sm_pl (g43 81) (g43 82) (g43 83) (g43 84) (g43 85) (g43 86) = sm_pl (S 81) (S 82) (S 83) (S 84) (S 85) (S 86)) → (sm_pt (g43 68) (g43 69) (g43 70) = sm_pt (S 68) (S 69) (S 70) ∧ sm_pl (g43 81) (g43 82) (g43 83) (g43 84) (g43 85) (g43 86) = sm_pl (S 81) (S 82) (S 83) (S 84) (S 85) (S 86) ∧ sm_ps (fun i' : Int => if i' = (639 : Int) then (g31 69 (647752 : Int)) else (S 76) i') (fun i' : Int => if i' = (639 : Int) then (g31 70 (647752 : Int)) else (S 77) i') = sm_ps (S 76) (S 77))))))))))) ∧ ((¬ ((S 74 (639 : Int)) ≤ l2_2)) → (sv_R (S 75 (639 : Int)) → (sv_R ((S 75 (639 : Int)) + l2_2)) ∧ (29 ≤ (S 1071 0) ∧ (S 1071 0) ≤ 127 ∧ 635639 ≤ ((S 75 (639 : Int)) + l2_2) ∧ ((S 75 (639 : Int)) + l2_2) < 647800) ∧ (∀ g51 : sv_S, (sm_pt (S 68) (g51 69) (g51 70) = sm_pt (S 68) (g1 69) (g1 70)) → (sv_R (l2_2 + (1 : Int))) ∧ ((0 ≤ (l2_2 + (1 : Int)) ∧ (l2_2 + (1 : Int)) ≤ (S 74 639) ∧ sm_pt (S 68) (g51 69) (g51 70) = sm_pt (S 68) (S 69) (S 70)) ∧ ((S 74 639) - (l2_2 + (1 : Int))) < ((S 74 639) - l2_2))))))))) := by
  intro p1
  intro S
  intro h1_
  intro h2_
  rintro ⟨h3_, ⟨h4_, ⟨h5_, ⟨h6_, ⟨h7_, ⟨h8_, ⟨h9_, ⟨h10_, ⟨h11_, ⟨h12_, ⟨h13_, ⟨h14_, ⟨h15_, ⟨h16_, ⟨h17_, ⟨h18_, ⟨h19_, ⟨h20_, h21_⟩⟩⟩⟩⟩⟩⟩⟩⟩⟩⟩⟩⟩⟩⟩⟩⟩⟩
  refine ⟨(la_comeBack_0 h18_), ?_⟩
  intro l2_2
  intro h22_
  intro g1
  rintro ⟨h23_, ⟨h24_, h25_⟩⟩
  refine ⟨(la_comeBack_1 h24_), ?_⟩
  refine ⟨la_comeBack_2, ?_⟩
  intro h26_
  refine ⟨?_, ?_⟩
  · skip
    intro h27_
    refine ⟨la_comeBack_3, ?_⟩
    refine ⟨(la_comeBack_4 h3_ h4_), ?_⟩
    intro g12
    intro h28_
    refine ⟨la_comeBack_5, ?_⟩
    intro g19
    intro h29_
    have h30_ := (h29_ la_comeBack_6)
    intro h31_
    intro h32_
    refine ⟨(la_comeBack_7 h3_ h4_), ?_⟩
    intro g31
    intro h33_
    intro h34_
    intro h35_
    refine ⟨⟨h3_, ⟨h4_, ⟨h5_, ⟨h6_, ⟨h7_, ⟨h8_, ⟨h9_, ⟨h10_, ⟨h11_, ⟨h12_, ⟨h13_, ⟨h14_, (la_comeBack_8 h15_ h16_ h20_ h21_)⟩⟩⟩⟩⟩⟩⟩⟩⟩⟩⟩⟩, ?_⟩
    intro g43
    rintro ⟨h36_, h37_⟩
    refine ⟨?_, ?_⟩
    · skip
      have e38_ : sm_pt (g19 68) (fun i' : Int => (if i' = 647752 then S 76 639 else (g19 69) i')) (fun i' : Int => (if i' = 647752 then S 77 639 else (g19 70) i')) = sm_pt (g19 68) (fun i' : Int => (if i' = 647752 then S 76 639 else (g19 69) i')) (g19 70) := sm_pt_H la_comeBack_6
      have e39_ : sm_pt (g19 68) (fun i' : Int => (if i' = 647752 then S 76 639 else (g19 69) i')) (g19 70) = sm_pt (g19 68) (g19 69) (g19 70) := sm_pt_L la_comeBack_6
      exact (la_comeBack_9 h25_ h28_ h30_ h33_ h36_ e38_ e39_)
    refine ⟨h37_, ?_⟩
    have e40_ : sm_pt (g19 68) (fun i' : Int => (if i' = 647752 then S 76 639 else (g19 69) i')) (fun i' : Int => (if i' = 647752 then S 77 639 else (g19 70) i')) = sm_pt (g19 68) (fun i' : Int => (if i' = 647752 then S 76 639 else (g19 69) i')) (g19 70) := sm_pt_H la_comeBack_6
    have e41_ : sm_pt (g19 68) (fun i' : Int => (if i' = 647752 then S 76 639 else (g19 69) i')) (g19 70) = sm_pt (g19 68) (g19 69) (g19 70) := sm_pt_L la_comeBack_6
    have e42_ : sm_ps (fun i' : Int => (if i' = 639 then g31 69 647752 else (S 76) i')) (fun i' : Int => (if i' = 639 then g31 70 647752 else (S 77) i')) = sm_ps (fun i' : Int => (if i' = 639 then g31 69 647752 else (S 76) i')) (S 77) := sm_ps_B la_comeBack_10
    have e43_ : sm_ps (fun i' : Int => (if i' = 639 then g31 69 647752 else (S 76) i')) (S 77) = sm_ps (S 76) (S 77) := sm_ps_A la_comeBack_10
    exact (la_comeBack_11 e42_ e43_)
  intro h44_
  intro h45_
  refine ⟨(la_comeBack_12 h17_ h19_ h23_ h44_), ?_⟩
  refine ⟨(la_comeBack_13 h3_ h4_ h17_ h19_ h23_ h44_), ?_⟩
  intro g51
  intro h46_
  refine ⟨(la_comeBack_14 h19_ h23_ h44_), ?_⟩
  refine ⟨(la_comeBack_15 h23_ h25_ h44_ h46_), ?_⟩
  exact la_comeBack_16
set_option maxRecDepth 8000 in
set_option maxHeartbeats 2000000 in
theorem t_comeBack : ∀ (p1 : Int) (S : sv_S), sm_ok S → sv_R p1 → (29 ≤ (S 1071 0) ∧ (S 1071 0) ≤ 127 ∧ 31 ≤ (S 1008 0) ∧ (S 1008 0) ≤ 90 ∧ 1 ≤ (S 1032 0) ∧ (S 1032 0) ≤ 11 ∧ 0 ≤ (S 1055 0) ∧ (S 1055 0) ≤ 19 ∧ (S 1071 0) = 29 + 6 * ((S 1032 0) - 1) + 2 * (S 1055 0) ∧ 0 ≤ (S 1046 0) ∧ (S 1046 0) + 2 * (S 1032 0) ≤ 500 ∧ sm_PD (S 1046 0) (S 1032 0) (S 1071 0) (S 1008 0) ∧ 0 ≤ (S 1071 0) * ((S 1008 0) + 1) ∧ (S 1071 0) * ((S 1008 0) + 1) ≤ 11557 ∧ (S 75 639) = 647340 ∧ 0 ≤ (S 74 639) ∧ (S 74 639) ≤ 400 ∧ 0 ≤ p1 ∧ p1 < ((S 1046 0) + 2 * (S 1032 0))) → sv_T sm_XS sm_cs sm_L sm_sh 4 (q_comeBack p1 S) 285 0 (lv_args 0 [.ref 0, sv_I p1]) [] S := by
  intro p1 S hok hp1 hpre
  have h := f_comeBack p1 S hok hp1 hpre
  have hM := sm_h285
  show sv_T sm_XS sm_cs sm_L sm_sh 4 (q_comeBack p1 S) 285 0 [(0, .ref 0), (1, sv_I p1)] [] S
  refine sv_iconst (d := (0 : Int)) hM dX12_comeBack_0 rfl rfl ?_
  refine sv_istore_n hM dX12_comeBack_1 (by decide) rfl ?_
  show sv_T sm_XS sm_cs sm_L sm_sh 4 (q_comeBack p1 S) 285 2 [(0, .ref 0), (1, sv_I p1), (2, sv_I (0 : Int))] [] S
  obtain ⟨hin4, h⟩ := h
  have hJ : ∀ a : Int × sv_S, (sv_R a.1 ∧ sm_ok (sv_sts S [69, 70] a.2) ∧ (0 ≤ a.1 ∧ a.1 ≤ (S 74 639) ∧ sm_pt (S 68) (a.2 69) (a.2 70) = sm_pt (S 68) (S 69) (S 70))) → sv_T sm_XS sm_cs sm_L sm_sh 4 (q_comeBack p1 S) 285 2 [(0, .ref 0), (1, sv_I p1), (2, sv_I a.1)] [] (sv_sts S [69, 70] a.2) := by
    refine sv_loop (α := Int × sv_S) (fun a => sv_R a.1 ∧ sm_ok (sv_sts S [69, 70] a.2) ∧ (0 ≤ a.1 ∧ a.1 ≤ (S 74 639) ∧ sm_pt (S 68) (a.2 69) (a.2 70) = sm_pt (S 68) (S 69) (S 70))) (fun a => (S 74 639) - a.1) (fun a => sv_T sm_XS sm_cs sm_L sm_sh 4 (q_comeBack p1 S) 285 2 [(0, .ref 0), (1, sv_I p1), (2, sv_I a.1)] [] (sv_sts S [69, 70] a.2)) (fun a q => (h a.1 q.1 a.2 q.2.2).1) (fun a q ih3 => ?_)
    obtain ⟨l2_2, g1⟩ := a
    obtain ⟨hl2_2, ok5, hin4i⟩ := q
    have h := (h l2_2 hl2_2 g1 hin4i).2
    show sv_T sm_XS sm_cs sm_L sm_sh 4 (q_comeBack p1 S) 285 2 [(0, .ref 0), (1, sv_I p1), (2, sv_I l2_2)] [] (sv_sts S [69, 70] g1)
    have md6 : sv_mod [68, 69, 70, 81, 82, 83, 84, 85, 86, 76, 77] S (sv_sts S [69, 70] g1) := sv_mod.sts sv_mod.rf (by decide)
    have md7 : sv_mod [69, 70] S (sv_sts S [69, 70] g1) := sv_mod.sts sv_mod.rf (by decide)
    refine sv_iload_n hM dX12_comeBack_2 rfl rfl ?_
    refine sv_aload_n hM dX12_comeBack_3 rfl rfl ?_
    refine sv_getA hM dX12_comeBack_4 sm_fl_235 (sm_a0 _) sm_k125 rfl ?_
    refine sv_sipush (d := (639 : Int)) hM dX12_comeBack_7 rfl rfl ?_
    obtain ⟨o8, h⟩ := h
    have k9 : sv_R (S 74 (639 : Int)) := sm_okI ok5 sm_r74 (639 : Int)
    have h := h k9
    refine sv_iald hM dX12_comeBack_10 (sm_a74 _) (by decide) o8.1 o8.2 rfl (x := (S 74 (639 : Int))) rfl ?_
    refine sv_icmp_ge hM dX12_comeBack_11 hl2_2 k9 (t := 34) rfl rfl (fun hc => ?_) (fun hc => ?_)
    · have h := h.1 (hc)
      refine sv_aload_n hM dX12_comeBack_34 rfl rfl ?_
      refine sv_aload_n hM dX12_comeBack_35 rfl rfl ?_
      refine sv_sipush (d := (639 : Int)) hM dX12_comeBack_36 rfl rfl ?_
      refine sv_callV hM dX12_comeBack_39 sm_iv_1098 (by decide) (sm_a0 _) rfl rfl (Nat.le_of_ble_eq_true rfl) sm_h227 (Nat.le_of_ble_eq_true rfl) (Nat.le_of_ble_eq_true rfl) (F' := 0) (Nat.le_of_ble_eq_true rfl) rfl (t_thisAt (639 : Int) (sv_sts S [69, 70] g1) ok5 (⟨by decide, by decide⟩ : sv_R (639 : Int))) (fun v S1 hq => ?_)
      obtain ⟨rfl, hS1⟩ := hq
      obtain rfl : (sv_sts S [69, 70] g1) = S1 := hS1.symm
      show sv_T sm_XS sm_cs sm_L sm_sh 4 (q_comeBack p1 S) 285 42 [(0, .ref 0), (1, sv_I p1), (2, sv_I l2_2)] [sv_I (635000 + (639 : Int)), .ref 0] (sv_sts S [69, 70] g1)
      obtain ⟨o10, h⟩ := h
      obtain ⟨o11, h⟩ := h
      refine sv_callV hM dX12_comeBack_42 sm_iv_1350 (by decide) (sm_a0 _) rfl rfl (Nat.le_of_ble_eq_true rfl) sm_h257 (Nat.le_of_ble_eq_true rfl) (Nat.le_of_ble_eq_true rfl) (F' := 1) (Nat.le_of_ble_eq_true rfl) rfl (t_age (635000 + (639 : Int)) (sv_sts S [69, 70] g1) ok5 o10 o11) (fun v S1 hq => ?_)
      obtain ⟨rfl, ok13, md14, hpo15⟩ := hq
      obtain ⟨g12, rfl⟩ : ∃ g, S1 = sv_sts (sv_sts S [69, 70] g1) [69, 70] g := ⟨_, md14.eq⟩
      show sv_T sm_XS sm_cs sm_L sm_sh 4 (q_comeBack p1 S) 285 45 [(0, .ref 0), (1, sv_I p1), (2, sv_I l2_2)] [] (sv_sts (sv_sts S [69, 70] g1) [69, 70] g12)
      have md16 : sv_mod [68, 69, 70, 81, 82, 83, 84, 85, 86, 76, 77] S (sv_sts (sv_sts S [69, 70] g1) [69, 70] g12) := sv_mod.sts md6 (by decide)
      have md17 : sv_mod [69, 70] S (sv_sts (sv_sts S [69, 70] g1) [69, 70] g12) := sv_mod.sts md7 (by decide)
      have h := h g12 hpo15
      refine sv_ldc_w (d := (647752 : Int)) hM dX12_comeBack_45 sm_ck_1353 rfl rfl ?_
      refine sv_istore_n hM dX12_comeBack_48 (by decide) rfl ?_
      show sv_T sm_XS sm_cs sm_L sm_sh 4 (q_comeBack p1 S) 285 49 [(0, .ref 0), (1, sv_I p1), (2, sv_I (647752 : Int))] [] (sv_sts (sv_sts S [69, 70] g1) [69, 70] g12)
      refine sv_aload_n hM dX12_comeBack_49 rfl rfl ?_
      refine sv_iload_n hM dX12_comeBack_50 rfl rfl ?_
      obtain ⟨o18, h⟩ := h
      refine sv_callV hM dX12_comeBack_51 sm_iv_1066 (by decide) (sm_a0 _) rfl rfl (Nat.le_of_ble_eq_true rfl) sm_h206 (Nat.le_of_ble_eq_true rfl) (Nat.le_of_ble_eq_true rfl) (F' := 0) (Nat.le_of_ble_eq_true rfl) rfl (t_empty (647752 : Int) (sv_sts (sv_sts S [69, 70] g1) [69, 70] g12) ok13 (⟨by decide, by decide⟩ : sv_R (647752 : Int)) o18) (fun v S1 hq => ?_)
      obtain ⟨rfl, ok20, md21, hpo22⟩ := hq
      obtain ⟨g19, rfl⟩ : ∃ g, S1 = sv_sts (sv_sts (sv_sts S [69, 70] g1) [69, 70] g12) [68, 69, 70] g := ⟨_, md21.eq⟩
      show sv_T sm_XS sm_cs sm_L sm_sh 4 (q_comeBack p1 S) 285 54 [(0, .ref 0), (1, sv_I p1), (2, sv_I (647752 : Int))] [] (sv_sts (sv_sts (sv_sts S [69, 70] g1) [69, 70] g12) [68, 69, 70] g19)
      have md23 : sv_mod [68, 69, 70, 81, 82, 83, 84, 85, 86, 76, 77] S (sv_sts (sv_sts (sv_sts S [69, 70] g1) [69, 70] g12) [68, 69, 70] g19) := sv_mod.sts md16 (by decide)
      have h := h g19 hpo22
      refine sv_aload_n hM dX12_comeBack_54 rfl rfl ?_
      refine sv_getA hM dX12_comeBack_55 sm_fl_220 (sm_a0 _) sm_k117 rfl ?_
      refine sv_iload_n hM dX12_comeBack_58 rfl rfl ?_
      refine sv_aload_n hM dX12_comeBack_59 rfl rfl ?_
      refine sv_getA hM dX12_comeBack_60 sm_fl_241 (sm_a0 _) sm_k128 rfl ?_
      refine sv_sipush (d := (639 : Int)) hM dX12_comeBack_63 rfl rfl ?_
      have k24 : sv_RL (S 76 (639 : Int)) := sm_okJ ok20 sm_r76 (639 : Int)
      have h := h k24
      refine sv_lald hM dX12_comeBack_66 (sm_a76 _) (by decide) o8.1 o8.2 rfl (x := (S 76 (639 : Int))) rfl ?_
      refine sv_last sm_X hM dX12_comeBack_67 (sm_a69 _) (by decide) o18.1 o18.2 rfl ?_
      have ok25 : sm_ok (sv_up (sv_sts (sv_sts (sv_sts S [69, 70] g1) [69, 70] g12) [68, 69, 70] g19) 69 (647752 : Int) (S 76 (639 : Int))) := sm_upJ ok20 sm_r69 k24
      have md26 : sv_mod [68, 69, 70, 81, 82, 83, 84, 85, 86, 76, 77] S (sv_up (sv_sts (sv_sts (sv_sts S [69, 70] g1) [69, 70] g12) [68, 69, 70] g19) 69 (647752 : Int) (S 76 (639 : Int))) := sv_mod.up md23 (by decide)
      refine sv_aload_n hM dX12_comeBack_68 rfl rfl ?_
      refine sv_getA hM dX12_comeBack_69 sm_fl_223 (sm_a0 _) sm_k118 rfl ?_
      refine sv_iload_n hM dX12_comeBack_72 rfl rfl ?_
      refine sv_aload_n hM dX12_comeBack_73 rfl rfl ?_
      refine sv_getA hM dX12_comeBack_74 sm_fl_244 (sm_a0 _) sm_k129 rfl ?_
      refine sv_sipush (d := (639 : Int)) hM dX12_comeBack_77 rfl rfl ?_
      have k27 : sv_RL (S 77 (639 : Int)) := sm_okJ ok25 sm_r77 (639 : Int)
      have h := h k27
      refine sv_lald hM dX12_comeBack_80 (sm_a77 _) (by decide) o8.1 o8.2 rfl (x := (S 77 (639 : Int))) rfl ?_
      refine sv_last sm_X hM dX12_comeBack_81 (sm_a70 _) (by decide) o18.1 o18.2 rfl ?_
      have ok28 : sm_ok (sv_up (sv_up (sv_sts (sv_sts (sv_sts S [69, 70] g1) [69, 70] g12) [68, 69, 70] g19) 69 (647752 : Int) (S 76 (639 : Int))) 70 (647752 : Int) (S 77 (639 : Int))) := sm_upJ ok25 sm_r70 k27
      have md29 : sv_mod [68, 69, 70, 81, 82, 83, 84, 85, 86, 76, 77] S (sv_up (sv_up (sv_sts (sv_sts (sv_sts S [69, 70] g1) [69, 70] g12) [68, 69, 70] g19) 69 (647752 : Int) (S 76 (639 : Int))) 70 (647752 : Int) (S 77 (639 : Int))) := sv_mod.up md26 (by decide)
      refine sv_aload_n hM dX12_comeBack_82 rfl rfl ?_
      refine sv_iload_n hM dX12_comeBack_83 rfl rfl ?_
      obtain ⟨o30, h⟩ := h
      refine sv_callV hM dX12_comeBack_84 sm_iv_1350 (by decide) (sm_a0 _) rfl rfl (Nat.le_of_ble_eq_true rfl) sm_h257 (Nat.le_of_ble_eq_true rfl) (Nat.le_of_ble_eq_true rfl) (F' := 1) (Nat.le_of_ble_eq_true rfl) rfl (t_age (647752 : Int) (sv_up (sv_up (sv_sts (sv_sts (sv_sts S [69, 70] g1) [69, 70] g12) [68, 69, 70] g19) 69 (647752 : Int) (S 76 (639 : Int))) 70 (647752 : Int) (S 77 (639 : Int))) ok28 (⟨by decide, by decide⟩ : sv_R (647752 : Int)) o30) (fun v S1 hq => ?_)
      obtain ⟨rfl, ok32, md33, hpo34⟩ := hq
      obtain ⟨g31, rfl⟩ : ∃ g, S1 = sv_sts (sv_up (sv_up (sv_sts (sv_sts (sv_sts S [69, 70] g1) [69, 70] g12) [68, 69, 70] g19) 69 (647752 : Int) (S 76 (639 : Int))) 70 (647752 : Int) (S 77 (639 : Int))) [69, 70] g := ⟨_, md33.eq⟩
      show sv_T sm_XS sm_cs sm_L sm_sh 4 (q_comeBack p1 S) 285 87 [(0, .ref 0), (1, sv_I p1), (2, sv_I (647752 : Int))] [] (sv_sts (sv_up (sv_up (sv_sts (sv_sts (sv_sts S [69, 70] g1) [69, 70] g12) [68, 69, 70] g19) 69 (647752 : Int) (S 76 (639 : Int))) 70 (647752 : Int) (S 77 (639 : Int))) [69, 70] g31)
      have md35 : sv_mod [68, 69, 70, 81, 82, 83, 84, 85, 86, 76, 77] S (sv_sts (sv_up (sv_up (sv_sts (sv_sts (sv_sts S [69, 70] g1) [69, 70] g12) [68, 69, 70] g19) 69 (647752 : Int) (S 76 (639 : Int))) 70 (647752 : Int) (S 77 (639 : Int))) [69, 70] g31) := sv_mod.sts md29 (by decide)
      have h := h g31 hpo34
      refine sv_aload_n hM dX12_comeBack_87 rfl rfl ?_
      refine sv_getA hM dX12_comeBack_88 sm_fl_241 (sm_a0 _) sm_k128 rfl ?_
      refine sv_sipush (d := (639 : Int)) hM dX12_comeBack_91 rfl rfl ?_
      refine sv_aload_n hM dX12_comeBack_94 rfl rfl ?_
      refine sv_getA hM dX12_comeBack_95 sm_fl_220 (sm_a0 _) sm_k117 rfl ?_
      refine sv_iload_n hM dX12_comeBack_98 rfl rfl ?_
      have k36 : sv_RL (g31 69 (647752 : Int)) := sm_okJ ok32 sm_r69 (647752 : Int)
      have h := h k36
      refine sv_lald hM dX12_comeBack_99 (sm_a69 _) (by decide) o18.1 o18.2 rfl (x := (g31 69 (647752 : Int))) rfl ?_
      refine sv_last sm_X hM dX12_comeBack_100 (sm_a76 _) (by decide) o8.1 o8.2 rfl ?_
      have ok37 : sm_ok (sv_up (sv_sts (sv_up (sv_up (sv_sts (sv_sts (sv_sts S [69, 70] g1) [69, 70] g12) [68, 69, 70] g19) 69 (647752 : Int) (S 76 (639 : Int))) 70 (647752 : Int) (S 77 (639 : Int))) [69, 70] g31) 76 (639 : Int) (g31 69 (647752 : Int))) := sm_upJ ok32 sm_r76 k36
      have md38 : sv_mod [68, 69, 70, 81, 82, 83, 84, 85, 86, 76, 77] S (sv_up (sv_sts (sv_up (sv_up (sv_sts (sv_sts (sv_sts S [69, 70] g1) [69, 70] g12) [68, 69, 70] g19) 69 (647752 : Int) (S 76 (639 : Int))) 70 (647752 : Int) (S 77 (639 : Int))) [69, 70] g31) 76 (639 : Int) (g31 69 (647752 : Int))) := sv_mod.up md35 (by decide)
      refine sv_aload_n hM dX12_comeBack_101 rfl rfl ?_
      refine sv_getA hM dX12_comeBack_102 sm_fl_244 (sm_a0 _) sm_k129 rfl ?_
      refine sv_sipush (d := (639 : Int)) hM dX12_comeBack_105 rfl rfl ?_
      refine sv_aload_n hM dX12_comeBack_108 rfl rfl ?_
      refine sv_getA hM dX12_comeBack_109 sm_fl_223 (sm_a0 _) sm_k118 rfl ?_
      refine sv_iload_n hM dX12_comeBack_112 rfl rfl ?_
      have k39 : sv_RL (g31 70 (647752 : Int)) := sm_okJ ok37 sm_r70 (647752 : Int)
      have h := h k39
      refine sv_lald hM dX12_comeBack_113 (sm_a70 _) (by decide) o18.1 o18.2 rfl (x := (g31 70 (647752 : Int))) rfl ?_
      refine sv_last sm_X hM dX12_comeBack_114 (sm_a77 _) (by decide) o8.1 o8.2 rfl ?_
      have ok40 : sm_ok (sv_up (sv_up (sv_sts (sv_up (sv_up (sv_sts (sv_sts (sv_sts S [69, 70] g1) [69, 70] g12) [68, 69, 70] g19) 69 (647752 : Int) (S 76 (639 : Int))) 70 (647752 : Int) (S 77 (639 : Int))) [69, 70] g31) 76 (639 : Int) (g31 69 (647752 : Int))) 77 (639 : Int) (g31 70 (647752 : Int))) := sm_upJ ok37 sm_r77 k39
      have md41 : sv_mod [68, 69, 70, 81, 82, 83, 84, 85, 86, 76, 77] S (sv_up (sv_up (sv_sts (sv_up (sv_up (sv_sts (sv_sts (sv_sts S [69, 70] g1) [69, 70] g12) [68, 69, 70] g19) 69 (647752 : Int) (S 76 (639 : Int))) 70 (647752 : Int) (S 77 (639 : Int))) [69, 70] g31) 76 (639 : Int) (g31 69 (647752 : Int))) 77 (639 : Int) (g31 70 (647752 : Int))) := sv_mod.up md38 (by decide)
      refine sv_aload_n hM dX12_comeBack_115 rfl rfl ?_
      refine sv_iload_n hM dX12_comeBack_116 rfl rfl ?_
      obtain ⟨o42, h⟩ := h
      refine sv_callV hM dX12_comeBack_117 sm_iv_1354 (by decide) (sm_a0 _) rfl rfl (Nat.le_of_ble_eq_true rfl) sm_h233 (Nat.le_of_ble_eq_true rfl) (Nat.le_of_ble_eq_true rfl) (F' := 3) (Nat.le_of_ble_eq_true rfl) rfl (t_loadLabels p1 (sv_up (sv_up (sv_sts (sv_up (sv_up (sv_sts (sv_sts (sv_sts S [69, 70] g1) [69, 70] g12) [68, 69, 70] g19) 69 (647752 : Int) (S 76 (639 : Int))) 70 (647752 : Int) (S 77 (639 : Int))) [69, 70] g31) 76 (639 : Int) (g31 69 (647752 : Int))) 77 (639 : Int) (g31 70 (647752 : Int))) ok40 hp1 o42) (fun v S1 hq => ?_)
      obtain ⟨rfl, ok44, md45, hpo46⟩ := hq
      obtain ⟨g43, rfl⟩ : ∃ g, S1 = sv_sts (sv_up (sv_up (sv_sts (sv_up (sv_up (sv_sts (sv_sts (sv_sts S [69, 70] g1) [69, 70] g12) [68, 69, 70] g19) 69 (647752 : Int) (S 76 (639 : Int))) 70 (647752 : Int) (S 77 (639 : Int))) [69, 70] g31) 76 (639 : Int) (g31 69 (647752 : Int))) 77 (639 : Int) (g31 70 (647752 : Int))) [68, 69, 70, 81, 82, 83, 84, 85, 86] g := ⟨_, md45.eq⟩
      show sv_T sm_XS sm_cs sm_L sm_sh 4 (q_comeBack p1 S) 285 120 [(0, .ref 0), (1, sv_I p1), (2, sv_I (647752 : Int))] [] (sv_sts (sv_up (sv_up (sv_sts (sv_up (sv_up (sv_sts (sv_sts (sv_sts S [69, 70] g1) [69, 70] g12) [68, 69, 70] g19) 69 (647752 : Int) (S 76 (639 : Int))) 70 (647752 : Int) (S 77 (639 : Int))) [69, 70] g31) 76 (639 : Int) (g31 69 (647752 : Int))) 77 (639 : Int) (g31 70 (647752 : Int))) [68, 69, 70, 81, 82, 83, 84, 85, 86] g43)
      have md47 : sv_mod [68, 69, 70, 81, 82, 83, 84, 85, 86, 76, 77] S (sv_sts (sv_up (sv_up (sv_sts (sv_up (sv_up (sv_sts (sv_sts (sv_sts S [69, 70] g1) [69, 70] g12) [68, 69, 70] g19) 69 (647752 : Int) (S 76 (639 : Int))) 70 (647752 : Int) (S 77 (639 : Int))) [69, 70] g31) 76 (639 : Int) (g31 69 (647752 : Int))) 77 (639 : Int) (g31 70 (647752 : Int))) [68, 69, 70, 81, 82, 83, 84, 85, 86] g43) := sv_mod.sts md41 (by decide)
      have h := h g43 hpo46
      exact sv_vret hM dX12_comeBack_120 rfl ⟨rfl, ok44, md47, h⟩
    · have h := h.2 (hc)
      refine sv_aload_n hM dX12_comeBack_14 rfl rfl ?_
      refine sv_aload_n hM dX12_comeBack_15 rfl rfl ?_
      refine sv_getA hM dX12_comeBack_16 sm_fl_238 (sm_a0 _) sm_k126 rfl ?_
      refine sv_sipush (d := (639 : Int)) hM dX12_comeBack_19 rfl rfl ?_
      have k48 : sv_R (S 75 (639 : Int)) := sm_okI ok5 sm_r75 (639 : Int)
      have h := h k48
      refine sv_iald hM dX12_comeBack_22 (sm_a75 _) (by decide) o8.1 o8.2 rfl (x := (S 75 (639 : Int))) rfl ?_
      refine sv_iload_n hM dX12_comeBack_23 rfl rfl ?_
      refine sv_iadd hM dX12_comeBack_24 rfl ?_
      obtain ⟨o49, h⟩ := h
      obtain ⟨o50, h⟩ := h
      refine sv_callV hM dX12_comeBack_25 sm_iv_1350 (by decide) (sm_a0 _) rfl rfl (Nat.le_of_ble_eq_true rfl) sm_h257 (Nat.le_of_ble_eq_true rfl) (Nat.le_of_ble_eq_true rfl) (F' := 1) (Nat.le_of_ble_eq_true rfl) rfl (t_age ((S 75 (639 : Int)) + l2_2) (sv_sts S [69, 70] g1) ok5 o49 o50) (fun v S1 hq => ?_)
      obtain ⟨rfl, ok52, md53, hpo54⟩ := hq
      obtain ⟨g51, rfl⟩ : ∃ g, S1 = sv_sts (sv_sts S [69, 70] g1) [69, 70] g := ⟨_, md53.eq⟩
      show sv_T sm_XS sm_cs sm_L sm_sh 4 (q_comeBack p1 S) 285 28 [(0, .ref 0), (1, sv_I p1), (2, sv_I l2_2)] [] (sv_sts (sv_sts S [69, 70] g1) [69, 70] g51)
      have md55 : sv_mod [68, 69, 70, 81, 82, 83, 84, 85, 86, 76, 77] S (sv_sts (sv_sts S [69, 70] g1) [69, 70] g51) := sv_mod.sts md6 (by decide)
      have md56 : sv_mod [69, 70] S (sv_sts (sv_sts S [69, 70] g1) [69, 70] g51) := sv_mod.sts md7 (by decide)
      have h := h g51 hpo54
      refine sv_iinc (d := (1 : Int)) hM dX12_comeBack_28 rfl (by decide) rfl rfl ?_
      show sv_T sm_XS sm_cs sm_L sm_sh 4 (q_comeBack p1 S) 285 31 [(0, .ref 0), (1, sv_I p1), (2, sv_I (l2_2 + (1 : Int)))] [] (sv_sts (sv_sts S [69, 70] g1) [69, 70] g51)
      refine sv_goto hM dX12_comeBack_31 (pc' := 2) rfl ?_
      obtain ⟨o57, h⟩ := h
      have eS := sv_mod.eq md56
      have hb := ih3 ((l2_2 + (1 : Int)), (sv_sts (sv_sts S [69, 70] g1) [69, 70] g51)) ⟨o57, (by rw [← eS]; exact ok52), h.1⟩ h.2
      have hb : sv_T sm_XS sm_cs sm_L sm_sh 4 (q_comeBack p1 S) 285 2 [(0, .ref 0), (1, sv_I p1), (2, sv_I (l2_2 + (1 : Int)))] [] (sv_sts (sv_sts S [69, 70] g1) [69, 70] g51) := Eq.mpr (congrArg (fun Z => sv_T sm_XS sm_cs sm_L sm_sh 4 (q_comeBack p1 S) 285 2 [(0, .ref 0), (1, sv_I p1), (2, sv_I (l2_2 + (1 : Int)))] [] Z) eS) hb
      exact sv_less (lv := [(0, .ref 0), (1, sv_I p1), (2, sv_I (l2_2 + (1 : Int)))]) (sv_Sub_cons rfl (sv_Sub_cons rfl (sv_Sub_cons rfl sv_Sub_nil))) hb
  have eS := sv_mod.eq (sv_mod.rf (l := [69, 70]) (S := S))
  have hb := hJ ((0 : Int), S) ⟨(⟨by decide, by decide⟩ : sv_R (0 : Int)), (by rw [← eS]; exact hok), hin4⟩
  have hb : sv_T sm_XS sm_cs sm_L sm_sh 4 (q_comeBack p1 S) 285 2 [(0, .ref 0), (1, sv_I p1), (2, sv_I (0 : Int))] [] S := Eq.mpr (congrArg (fun Z => sv_T sm_XS sm_cs sm_L sm_sh 4 (q_comeBack p1 S) 285 2 [(0, .ref 0), (1, sv_I p1), (2, sv_I (0 : Int))] [] Z) eS) hb
  exact hb
def q_replace (p1 : Int) (p2 : Int) (S : sv_S) : Option Value → sv_S → Prop := fun v S' => v = none ∧ sm_ok S' ∧ sv_mod [68, 69, 70, 81, 82, 83, 84, 85, 86, 71, 74, 75, 1127, 78, 79, 80, 72, 76, 77, 1150] S S' ∧ (sm_ST (S' 71) (S' 74) (S' 75) (S' 78) (S' 79) (S' 80) (S' 27) (S' 1100007) (S' 1100023) (S' 1100024) (S' 1046 0) ((S' 1046 0) + 2 * (S' 1032 0)) (S' 1127 0) ∧ 465000 ≤ (S' 1127 0) ∧ (S' 1127 0) + sm_hs (S' 71) (S' 1100007) ≤ 635000 ∧ (S' 75 639) = 647340 ∧ (∀ k : Int, (S 71 k) = 1 → (S' 71 k) = 1) ∧ sm_DR (S' 72) (S' 71) (S' 1046 0) ∧ (641 * (sm_cm (S' 71) + sm_pt (S' 68) (S' 69) (S' 70) + sm_pl (S' 81) (S' 82) (S' 83) (S' 84) (S' 85) (S' 86) + sm_ps (S' 76) (S' 77)) + sm_du (S' 72)) ≤ (641 * (sm_cm (S 71) + sm_pt (S 68) (S 69) (S 70) + sm_pl (S 81) (S 82) (S 83) (S 84) (S 85) (S 86) + sm_ps (S 76) (S 77)) + sm_du (S 72)))
theorem la_replace_0 : (0 : Int) ≤ 639 ∧ (639 : Int) < 640 := by omega
theorem la_replace_1 {x0 x1 : Int} (h0 : x0 ≤ x1) (h1 : x1 - x0 ≤ 399) : sv_R (x1 - x0) := by omega
theorem la_replace_2 : (639 : Int) = 639 := by omega
theorem la_replace_3 {x0 x1 : Int} (h0 : x0 + 1 < x1) : ¬ x1 ≤ x0 + 1 := by omega
theorem la_replace_4 {x0 x1 x2 : Int} (h0 : x0 ≤ x1) (h1 : x2 = x1 - x0) : 0 ≤ x2 := by omega
theorem la_replace_5 {x0 x1 x2 : Int} (h0 : x0 - x1 ≤ 399) (h1 : x2 = x0 - x1) : x2 ≤ 400 := by omega
theorem la_replace_6 {x0 x1 x2 : Int} (h0 : x0 - x1 ≤ 399) (h1 : x2 = x0 - x1) : x2 < 400 := by omega
theorem la_replace_7 {x0 x1 x2 x3 x4 : Int} (h0 : x0 ≤ x1) (h1 : x1 - x0 ≤ 399) (h2 : 0 ≤ x2) (h3 : x2 < 647800) (h4 : x3 = 647340 + x4) (h5 : x4 = x1 - x0) : 0 ≤ x2 ∧ x2 < 647800 ∧ 635639 ≤ x3 ∧ x3 < 647800 := by omega
theorem la_replace_8 {x0 : Int} (h0 : 0 ≤ x0) (h1 : x0 < 647800) : 0 ≤ x0 ∧ x0 < 647800 := by omega
theorem la_replace_9 {x0 : Int} (h0 : x0 = 1) : 0 ≤ x0 := by omega
theorem la_replace_10 {x0 : Int} (h0 : 0 ≤ x0) (h1 : ¬ x0 = 0) : 0 < x0 := by omega
theorem la_replace_11 {x0 x1 : Int} (h0 : x0 + 2 * x1 ≤ 500) : x0 + 2 * x1 ≤ 639 := by omega
theorem la_replace_12 {x0 x1 x2 x3 x4 x5 x6 : Int} (h0 : x0 = x1) (h1 : x2 = x0) : 641 * (x3 + x2 + x4 + x5) + x6 ≤ 641 * (x3 + x1 + x4 + x5) + x6 := by omega
theorem la_replace_13 {x0 : Int} (h0 : ¬ ¬ x0 = 0) : ¬ x0 = 1 := by omega
theorem la_replace_14 {x0 x1 x2 x3 : Int} (h0 : x0 ≤ x1) (h1 : x2 = x3 + 1) (h2 : x3 = x1 - x0) : 0 ≤ x2 := by omega
theorem la_replace_15 {x0 x1 x2 x3 : Int} (h0 : x0 - x1 ≤ 399) (h1 : x2 = x3 + 1) (h2 : x3 = x0 - x1) : x2 ≤ 400 := by omega
theorem la_replace_16 {x0 x1 x2 x3 x4 x5 x6 x7 x8 : Int} (h0 : 0 ≤ x0) (h1 : x0 + 1 < x1) (h2 : x2 = x3 - x4 + 1) (h3 : x5 = x6) (h4 : x7 = x8 + 1) (h5 : x8 = x3 - x4) : 0 ≤ x0 ∧ x0 + 1 < x1 ∧ x7 = x2 ∧ x5 = x6 := by omega
theorem la_replace_17 {x0 x1 x2 x3 x4 x5 x6 x7 x8 x9 x10 x11 : Int} (h0 : x0 = x1) (h1 : x2 = x0) (h2 : 641 * (x3 + x4 + x5 + x6) + x7 ≤ 641 * (x8 + x2 + x9 + x10) + x11) : 641 * (x3 + x4 + x5 + x6) + x7 ≤ 641 * (x8 + x1 + x9 + x10) + x11 := by omega
set_option maxHeartbeats 2000000 in
theorem f_replace : ∀ (p1 : Int) (p2 : Int) (S : sv_S), sm_ok S → sv_R p1 → sv_R p2 → (29 ≤ (S 1071 0) ∧ (S 1071 0) ≤ 127 ∧ 31 ≤ (S 1008 0) ∧ (S 1008 0) ≤ 90 ∧ 1 ≤ (S 1032 0) ∧ (S 1032 0) ≤ 11 ∧ 0 ≤ (S 1055 0) ∧ (S 1055 0) ≤ 19 ∧ (S 1071 0) = 29 + 6 * ((S 1032 0) - 1) + 2 * (S 1055 0) ∧ 0 ≤ (S 1046 0) ∧ (S 1046 0) + 2 * (S 1032 0) ≤ 500 ∧ sm_PD (S 1046 0) (S 1032 0) (S 1071 0) (S 1008 0) ∧ 0 ≤ (S 1071 0) * ((S 1008 0) + 1) ∧ (S 1071 0) * ((S 1008 0) + 1) ≤ 11557 ∧ 31 ≤ (S 1007 0) ∧ (S 1007 0) ≤ 400 ∧ sm_LN (S 4) 400 (S 1007 0) ∧ (S 75 639) = 647340 ∧ sm_ST (S 71) (S 74) (S 75) (S 78) (S 79) (S 80) (S 27) (S 1100007) (S 1100023) (S 1100024) (S 1046 0) ((S 1046 0) + 2 * (S 1032 0)) (S 1127 0) ∧ 465000 ≤ (S 1127 0) ∧ (S 1127 0) + sm_hs (S 71) (S 1100007) ≤ 635000 ∧ sm_NH (S 1100007) ∧ sm_CT (S 26) (S 27) (S 28) (S 29) (S 1100007) (S 1100023) (S 1100024) (S 1100025) (S 21) (S 1046 0) (S 1032 0) (S 1008 0) (S 1055 0) ∧ (∀ k : Int, (S 1046 0) ≤ k → k < ((S 1046 0) + 2 * (S 1032 0)) → (S 1100007 k) = 1) ∧ sm_DR (S 72) (S 71) (S 1046 0) ∧ 0 ≤ (S 74 639) ∧ (S 74 639) ≤ 400 ∧ 0 ≤ (S 78 639) ∧ (S 78 639) ≤ 40 ∧ (S 78 639) = sm_dp (S 1100024) (S 1100031 0) ∧ -1 ≤ (S 1100031 0) ∧ (S 1100031 0) < (S 1046 0) ∧ (0 ≤ (S 1100031 0) → (S 26 (S 1100031 0)) = 27) ∧ sm_TC (S 79) (S 80) (S 27) (S 1100007) (S 1100023) (S 1100024) 25560 (S 1100031 0) ∧ 0 ≤ (S 1148 0) ∧ (S 1148 0) + 1 < (S 1046 0) ∧ 0 ≤ p1 ∧ p1 ≤ (S 74 639) ∧ (S 74 639) - p1 ≤ 399 ∧ 0 ≤ p2 ∧ p2 < 647800 ∧ (S 1100007 ((S 1148 0) + 1)) = (S 74 639) - p1 + 1 ∧ (S 1100023 ((S 1148 0) + 1)) = (S 1100031 0)) → (0 ≤ (639 : Int) ∧ (639 : Int) < 640) ∧ (sv_R (S 74 (639 : Int)) → (sv_R ((S 74 (639 : Int)) - p1)) ∧ ((S 75 639) = 647340 ∧ 0 ≤ (if 639 = (639 : Int) then ((S 74 (639 : Int)) - p1) else (S 74 639)) ∧ (if 639 = (639 : Int) then ((S 74 (639 : Int)) - p1) else (S 74 639)) ≤ 400 ∧ (if 639 = (639 : Int) then ((S 74 (639 : Int)) - p1) else (S 74 639)) < 400) ∧ (∀ r11 : Int, sv_R r11 → ∀ g7 : sv_S, (r11 = 647340 + (if 639 = (639 : Int) then ((S 74 (639 : Int)) - p1) else (S 74 639)) ∧ (g7 74 639) = (if 639 = (639 : Int) then ((S 74 (639 : Int)) - p1) else (S 74 639)) + 1 ∧ sm_F1 (fun i' : Int => if i' = (639 : Int) then ((S 74 (639 : Int)) - p1) else (S 74) i') (g7 74) 639 ∧ sm_pt (g7 68) (g7 69) (g7 70) = sm_pt (S 68) (S 69) (S 70)) → (0 ≤ p2 ∧ p2 < 647800 ∧ 635639 ≤ r11 ∧ r11 < 647800) ∧ (∀ g14 : sv_S, (sm_pt (g14 68) (g14 69) (g14 70) = sm_pt (g7 68) (g7 69) (g7 70)) → (0 ≤ p2 ∧ p2 < 647800) ∧ (∀ r24 : Int, sv_R r24 → (r24 = 0 ∨ r24 = 1) → (((¬ r24 = (0 : Int)) → (sm_ST (S 71) (g7 74) (S 75) (S 78) (S 79) (S 80) (S 27) (S 1100007) (S 1100023) (S 1100024) (S 1046 0) ((S 1046 0) + 2 * (S 1032 0)) (S 1127 0) ∧ 465000 ≤ (S 1127 0) ∧ (S 1127 0) + sm_hs (S 71) (S 1100007) ≤ 635000 ∧ (S 75 639) = 647340 ∧ (∀ k : Int, (S 71 k) = 1 → (S 71 k) = 1) ∧ sm_DR (S 72) (S 71) (S 1046 0) ∧ (641 * (sm_cm (S 71) + sm_pt (g14 68) (g14 69) (g14 70) + sm_pl (S 81) (S 82) (S 83) (S 84) (S 85) (S 86) + sm_ps (S 76) (S 77)) + sm_du (S 72)) ≤ (641 * (sm_cm (S 71) + sm_pt (S 68) (S 69) (S 70) + sm_pl (S 81) (S 82) (S 83) (S 84) (S 85) (S 86) + sm_ps (S 76) (S 77)) + sm_du (S 72)))) ∧ ((¬ (¬ r24 = (0 : Int))) → (29 ≤ (S 1071 0) ∧ (S 1071 0) ≤ 127 ∧ 31 ≤ (S 1008 0) ∧ (S 1008 0) ≤ 90 ∧ 1 ≤ (S 1032 0) ∧ (S 1032 0) ≤ 11 ∧ 0 ≤ (S 1055 0) ∧ (S 1055 0) ≤ 19 ∧ (S 1071 0) = 29 + 6 * ((S 1032 0) - 1) + 2 * (S 1055 0) ∧ 0 ≤ (S 1046 0) ∧ (S 1046 0) + 2 * (S 1032 0) ≤ 500 ∧ sm_PD (S 1046 0) (S 1032 0) (S 1071 0) (S 1008 0) ∧ 0 ≤ (S 1071 0) * ((S 1008 0) + 1) ∧ (S 1071 0) * ((S 1008 0) + 1) ≤ 11557 ∧ 31 ≤ (S 1007 0) ∧ (S 1007 0) ≤ 400 ∧ sm_LN (S 4) 400 (S 1007 0) ∧ (S 75 639) = 647340 ∧ sm_ST (S 71) (g7 74) (S 75) (S 78) (S 79) (S 80) (S 27) (S 1100007) (S 1100023) (S 1100024) (S 1046 0) ((S 1046 0) + 2 * (S 1032 0)) (S 1127 0) ∧ 465000 ≤ (S 1127 0) ∧ (S 1127 0) + sm_hs (S 71) (S 1100007) ≤ 635000 ∧ sm_NH (S 1100007) ∧ sm_CT (S 26) (S 27) (S 28) (S 29) (S 1100007) (S 1100023) (S 1100024) (S 1100025) (S 21) (S 1046 0) (S 1032 0) (S 1008 0) (S 1055 0) ∧ (∀ k : Int, (S 1046 0) ≤ k → k < ((S 1046 0) + 2 * (S 1032 0)) → (S 1100007 k) = 1) ∧ sm_DR (S 72) (S 71) (S 1046 0) ∧ 0 ≤ (g7 74 639) ∧ (g7 74 639) ≤ 400 ∧ 0 ≤ (S 78 639) ∧ (S 78 639) ≤ 40 ∧ (S 78 639) = sm_dp (S 1100024) (S 1100031 0) ∧ -1 ≤ (S 1100031 0) ∧ (S 1100031 0) < (S 1046 0) ∧ (0 ≤ (S 1100031 0) → (S 26 (S 1100031 0)) = 27) ∧ sm_TC (S 79) (S 80) (S 27) (S 1100007) (S 1100023) (S 1100024) 25560 (S 1100031 0) ∧ 0 ≤ (S 1148 0) ∧ (S 1148 0) + 1 < (S 1046 0) ∧ (g7 74 639) = (S 1100007 ((S 1148 0) + 1)) ∧ (S 1100023 ((S 1148 0) + 1)) = (S 1100031 0)) ∧ (∀ g26 : sv_S, (sm_ST (g26 71) (g26 74) (g26 75) (g26 78) (g26 79) (g26 80) (S 27) (S 1100007) (S 1100023) (S 1100024) (S 1046 0) ((S 1046 0) + 2 * (S 1032 0)) (g26 1127 0) ∧ 465000 ≤ (g26 1127 0) ∧ (g26 1127 0) + sm_hs (g26 71) (S 1100007) ≤ 635000 ∧ (g26 75 639) = 647340 ∧ (g26 74 639) = (g7 74 639) ∧ (g26 78 639) = (S 78 639) ∧ sm_TC (g26 79) (g26 80) (S 27) (S 1100007) (S 1100023) (S 1100024) 25560 (S 1100031 0) ∧ (∀ k : Int, (S 71 k) = 1 → (g26 71 k) = 1) ∧ sm_DR (g26 72) (g26 71) (S 1046 0) ∧ (641 * (sm_cm (g26 71) + sm_pt (g26 68) (g26 69) (g26 70) + sm_pl (g26 81) (g26 82) (g26 83) (g26 84) (g26 85) (g26 86) + sm_ps (g26 76) (g26 77)) + sm_du (g26 72)) ≤ (641 * (sm_cm (S 71) + sm_pt (g14 68) (g14 69) (g14 70) + sm_pl (S 81) (S 82) (S 83) (S 84) (S 85) (S 86) + sm_ps (S 76) (S 77)) + sm_du (S 72))) → (sm_ST (g26 71) (g26 74) (g26 75) (g26 78) (g26 79) (g26 80) (S 27) (S 1100007) (S 1100023) (S 1100024) (S 1046 0) ((S 1046 0) + 2 * (S 1032 0)) (g26 1127 0) ∧ 465000 ≤ (g26 1127 0) ∧ (g26 1127 0) + sm_hs (g26 71) (S 1100007) ≤ 635000 ∧ (g26 75 639) = 647340 ∧ (∀ k : Int, (S 71 k) = 1 → (g26 71 k) = 1) ∧ sm_DR (g26 72) (g26 71) (S 1046 0) ∧ (641 * (sm_cm (g26 71) + sm_pt (g26 68) (g26 69) (g26 70) + sm_pl (g26 81) (g26 82) (g26 83) (g26 84) (g26 85) (g26 86) + sm_ps (g26 76) (g26 77)) + sm_du (g26 72)) ≤ (641 * (sm_cm (S 71) + sm_pt (S 68) (S 69) (S 70) + sm_pl (S 81) (S 82) (S 83) (S 84) (S 85) (S 86) + sm_ps (S 76) (S 77)) + sm_du (S 72)))))))))) := by
  intro p1
  intro p2
  intro S
  intro h1_
  intro h2_
  intro h3_
  rintro ⟨h4_, ⟨h5_, ⟨h6_, ⟨h7_, ⟨h8_, ⟨h9_, ⟨h10_, ⟨h11_, ⟨h12_, ⟨h13_, ⟨h14_, ⟨h15_, ⟨h16_, ⟨h17_, ⟨h18_, ⟨h19_, ⟨h20_, ⟨h21_, ⟨h22_, ⟨h23_, ⟨h24_, ⟨h25_, ⟨h26_, ⟨h27_, ⟨h28_, ⟨h29_, ⟨h30_, ⟨h31_, ⟨h32_, ⟨h33_, ⟨h34_, ⟨h35_, ⟨h36_, ⟨h37_, ⟨h38_, ⟨h39_, ⟨h40_, ⟨h41_, ⟨h42_, ⟨h43_, ⟨h44_, ⟨h45_, h46_⟩⟩⟩⟩⟩⟩⟩⟩⟩⟩⟩⟩⟩⟩⟩⟩⟩⟩⟩⟩⟩⟩⟩⟩⟩⟩⟩⟩⟩⟩⟩⟩⟩⟩⟩⟩⟩⟩⟩⟩⟩⟩
  refine ⟨la_replace_0, ?_⟩
  intro h47_
  refine ⟨(la_replace_1 h41_ h42_), ?_⟩
  refine ⟨?_, ?_⟩
  · skip
    refine ⟨h21_, ?_⟩
    refine ⟨?_, ?_⟩
    · skip
      have h48_ := (h27_ (S 1148 0 + 1))
      have e49_ : (if (639 : Int) = 639 then S 74 639 - p1 else S 74 639 : Int) = S 74 639 - p1 := if_pos la_replace_2
      exact (la_replace_4 h41_ e49_)
    refine ⟨?_, ?_⟩
    · skip
      have h50_ := (h27_ (S 1148 0 + 1))
      have e51_ : (if (639 : Int) = 639 then S 74 639 - p1 else S 74 639 : Int) = S 74 639 - p1 := if_pos la_replace_2
      exact (la_replace_5 h42_ e51_)
    have h52_ := (h27_ (S 1148 0 + 1))
    have e53_ : (if (639 : Int) = 639 then S 74 639 - p1 else S 74 639 : Int) = S 74 639 - p1 := if_pos la_replace_2
    exact (la_replace_6 h42_ e53_)
  intro r11
  intro h54_
  intro g7
  rintro ⟨h55_, ⟨h56_, ⟨h57_, h58_⟩⟩⟩
  have e59_ : (if (639 : Int) = 639 then S 74 639 - p1 else S 74 639 : Int) = S 74 639 - p1 := if_pos la_replace_2
  refine ⟨(la_replace_7 h41_ h42_ h43_ h44_ h55_ e59_), ?_⟩
  intro g14
  intro h60_
  refine ⟨(la_replace_8 h43_ h44_), ?_⟩
  intro r24
  intro h61_
  intro h62_
  refine ⟨?_, ?_⟩
  · skip
    intro h63_
    have h64_ := (h62_.resolve_left h63_)
    refine ⟨(sm_ST_F h22_ (la_replace_11 h14_) (sm_F1_tr (sm_F1_up sm_F1_rf (Int.le_refl _)) h57_ (Int.le_refl _)) sm_F1_rf sm_F1_rf sm_F1_rf sm_F1_rf), ?_⟩
    refine ⟨h23_, ?_⟩
    refine ⟨h24_, ?_⟩
    refine ⟨h21_, ?_⟩
    refine ⟨?_, ?_⟩
    · skip
      intro k
      intro h65_
      exact h65_
    refine ⟨h28_, ?_⟩
    exact (la_replace_12 h58_ h60_)
  intro h66_
  have h67_ := (h62_.resolve_right (la_replace_13 h66_))
  refine ⟨⟨h4_, ⟨h5_, ⟨h6_, ⟨h7_, ⟨h8_, ⟨h9_, ⟨h10_, ⟨h11_, ⟨h12_, ⟨h13_, ⟨h14_, ⟨h15_, ⟨h16_, ⟨h17_, ⟨h18_, ⟨h19_, ⟨h20_, ⟨h21_, ⟨(sm_ST_F h22_ (la_replace_11 h14_) (sm_F1_tr (sm_F1_up sm_F1_rf (Int.le_refl _)) h57_ (Int.le_refl _)) sm_F1_rf sm_F1_rf sm_F1_rf sm_F1_rf), ⟨h23_, ⟨h24_, ⟨h25_, ⟨h26_, ⟨h27_, ⟨h28_, ⟨(la_replace_14 h41_ h56_ e59_), ⟨(la_replace_15 h42_ h56_ e59_), ⟨h31_, ⟨h32_, ⟨h33_, ⟨h34_, ⟨h35_, ⟨h36_, ⟨h37_, (la_replace_16 h38_ h39_ h45_ h46_ h56_ e59_)⟩⟩⟩⟩⟩⟩⟩⟩⟩⟩⟩⟩⟩⟩⟩⟩⟩⟩⟩⟩⟩⟩⟩⟩⟩⟩⟩⟩⟩⟩⟩⟩⟩⟩, ?_⟩
  intro g26
  rintro ⟨h68_, ⟨h69_, ⟨h70_, ⟨h71_, ⟨h72_, ⟨h73_, ⟨h74_, ⟨h75_, ⟨h76_, h77_⟩⟩⟩⟩⟩⟩⟩⟩⟩
  refine ⟨h68_, ?_⟩
  refine ⟨h69_, ?_⟩
  refine ⟨h70_, ?_⟩
  refine ⟨h71_, ?_⟩
  refine ⟨h75_, ?_⟩
  refine ⟨h76_, ?_⟩
  exact (la_replace_17 h58_ h60_ h77_)
set_option maxRecDepth 8000 in
set_option maxHeartbeats 2000000 in
theorem t_replace : ∀ (p1 : Int) (p2 : Int) (S : sv_S), sm_ok S → sv_R p1 → sv_R p2 → (29 ≤ (S 1071 0) ∧ (S 1071 0) ≤ 127 ∧ 31 ≤ (S 1008 0) ∧ (S 1008 0) ≤ 90 ∧ 1 ≤ (S 1032 0) ∧ (S 1032 0) ≤ 11 ∧ 0 ≤ (S 1055 0) ∧ (S 1055 0) ≤ 19 ∧ (S 1071 0) = 29 + 6 * ((S 1032 0) - 1) + 2 * (S 1055 0) ∧ 0 ≤ (S 1046 0) ∧ (S 1046 0) + 2 * (S 1032 0) ≤ 500 ∧ sm_PD (S 1046 0) (S 1032 0) (S 1071 0) (S 1008 0) ∧ 0 ≤ (S 1071 0) * ((S 1008 0) + 1) ∧ (S 1071 0) * ((S 1008 0) + 1) ≤ 11557 ∧ 31 ≤ (S 1007 0) ∧ (S 1007 0) ≤ 400 ∧ sm_LN (S 4) 400 (S 1007 0) ∧ (S 75 639) = 647340 ∧ sm_ST (S 71) (S 74) (S 75) (S 78) (S 79) (S 80) (S 27) (S 1100007) (S 1100023) (S 1100024) (S 1046 0) ((S 1046 0) + 2 * (S 1032 0)) (S 1127 0) ∧ 465000 ≤ (S 1127 0) ∧ (S 1127 0) + sm_hs (S 71) (S 1100007) ≤ 635000 ∧ sm_NH (S 1100007) ∧ sm_CT (S 26) (S 27) (S 28) (S 29) (S 1100007) (S 1100023) (S 1100024) (S 1100025) (S 21) (S 1046 0) (S 1032 0) (S 1008 0) (S 1055 0) ∧ (∀ k : Int, (S 1046 0) ≤ k → k < ((S 1046 0) + 2 * (S 1032 0)) → (S 1100007 k) = 1) ∧ sm_DR (S 72) (S 71) (S 1046 0) ∧ 0 ≤ (S 74 639) ∧ (S 74 639) ≤ 400 ∧ 0 ≤ (S 78 639) ∧ (S 78 639) ≤ 40 ∧ (S 78 639) = sm_dp (S 1100024) (S 1100031 0) ∧ -1 ≤ (S 1100031 0) ∧ (S 1100031 0) < (S 1046 0) ∧ (0 ≤ (S 1100031 0) → (S 26 (S 1100031 0)) = 27) ∧ sm_TC (S 79) (S 80) (S 27) (S 1100007) (S 1100023) (S 1100024) 25560 (S 1100031 0) ∧ 0 ≤ (S 1148 0) ∧ (S 1148 0) + 1 < (S 1046 0) ∧ 0 ≤ p1 ∧ p1 ≤ (S 74 639) ∧ (S 74 639) - p1 ≤ 399 ∧ 0 ≤ p2 ∧ p2 < 647800 ∧ (S 1100007 ((S 1148 0) + 1)) = (S 74 639) - p1 + 1 ∧ (S 1100023 ((S 1148 0) + 1)) = (S 1100031 0)) → sv_T sm_XS sm_cs sm_L sm_sh 5 (q_replace p1 p2 S) 267 0 (lv_args 0 [.ref 0, sv_I p1, sv_I p2]) [] S := by
  intro p1 p2 S hok hp1 hp2 hpre
  have h := f_replace p1 p2 S hok hp1 hp2 hpre
  have hM := sm_h267
  show sv_T sm_XS sm_cs sm_L sm_sh 5 (q_replace p1 p2 S) 267 0 [(0, .ref 0), (1, sv_I p1), (2, sv_I p2)] [] S
  refine sv_aload_n hM dX12_replace_0 rfl rfl ?_
  refine sv_getA hM dX12_replace_1 sm_fl_235 (sm_a0 _) sm_k125 rfl ?_
  refine sv_sipush (d := (639 : Int)) hM dX12_replace_4 rfl rfl ?_
  refine sv_dup2 hM dX12_replace_7 rfl ?_
  obtain ⟨o1, h⟩ := h
  have k2 : sv_R (S 74 (639 : Int)) := sm_okI hok sm_r74 (639 : Int)
  have h := h k2
  refine sv_iald hM dX12_replace_8 (sm_a74 _) (by decide) o1.1 o1.2 rfl (x := (S 74 (639 : Int))) rfl ?_
  refine sv_iload_n hM dX12_replace_9 rfl rfl ?_
  refine sv_isub hM dX12_replace_10 rfl ?_
  obtain ⟨o3, h⟩ := h
  refine sv_iast sm_X hM dX12_replace_11 (sm_a74 _) (by decide) o1.1 o1.2 rfl ?_
  have ok4 : sm_ok (sv_up S 74 (639 : Int) ((S 74 (639 : Int)) - p1)) := sm_upI hok sm_r74 o3
  have md5 : sv_mod [68, 69, 70, 81, 82, 83, 84, 85, 86, 71, 74, 75, 1127, 78, 79, 80, 72, 76, 77, 1150] S (sv_up S 74 (639 : Int) ((S 74 (639 : Int)) - p1)) := sv_mod.up sv_mod.rf (by decide)
  refine sv_aload_n hM dX12_replace_12 rfl rfl ?_
  refine sv_iload_n hM dX12_replace_13 rfl rfl ?_
  refine sv_aload_n hM dX12_replace_14 rfl rfl ?_
  obtain ⟨o6, h⟩ := h
  refine sv_callV hM dX12_replace_15 sm_iv_1201 (by decide) (sm_a0 _) rfl rfl (Nat.le_of_ble_eq_true rfl) sm_h230 (Nat.le_of_ble_eq_true rfl) (Nat.le_of_ble_eq_true rfl) (F' := 1) (Nat.le_of_ble_eq_true rfl) rfl (t_pushSet  (sv_up S 74 (639 : Int) ((S 74 (639 : Int)) - p1)) ok4 o6) (fun v S1 hq => ?_)
  obtain ⟨r11, rfl, hr11, ok8, md9, hpo10⟩ := hq
  obtain ⟨g7, rfl⟩ : ∃ g, S1 = sv_sts (sv_up S 74 (639 : Int) ((S 74 (639 : Int)) - p1)) [68, 69, 70, 74] g := ⟨_, md9.eq⟩
  show sv_T sm_XS sm_cs sm_L sm_sh 5 (q_replace p1 p2 S) 267 18 [(0, .ref 0), (1, sv_I p1), (2, sv_I p2)] [sv_I r11, sv_I p2, .ref 0] (sv_sts (sv_up S 74 (639 : Int) ((S 74 (639 : Int)) - p1)) [68, 69, 70, 74] g7)
  have md12 : sv_mod [68, 69, 70, 81, 82, 83, 84, 85, 86, 71, 74, 75, 1127, 78, 79, 80, 72, 76, 77, 1150] S (sv_sts (sv_up S 74 (639 : Int) ((S 74 (639 : Int)) - p1)) [68, 69, 70, 74] g7) := sv_mod.sts md5 (by decide)
  have h := h r11 hr11 g7 hpo10
  obtain ⟨o13, h⟩ := h
  refine sv_callV hM dX12_replace_18 sm_iv_1092 (by decide) (sm_a0 _) rfl rfl (Nat.le_of_ble_eq_true rfl) sm_h207 (Nat.le_of_ble_eq_true rfl) (Nat.le_of_ble_eq_true rfl) (F' := 0) (Nat.le_of_ble_eq_true rfl) rfl (t_copySet p2 r11 (sv_sts (sv_up S 74 (639 : Int) ((S 74 (639 : Int)) - p1)) [68, 69, 70, 74] g7) ok8 hp2 hr11 o13) (fun v S1 hq => ?_)
  obtain ⟨rfl, ok15, md16, hpo17⟩ := hq
  obtain ⟨g14, rfl⟩ : ∃ g, S1 = sv_sts (sv_sts (sv_up S 74 (639 : Int) ((S 74 (639 : Int)) - p1)) [68, 69, 70, 74] g7) [68, 69, 70] g := ⟨_, md16.eq⟩
  show sv_T sm_XS sm_cs sm_L sm_sh 5 (q_replace p1 p2 S) 267 21 [(0, .ref 0), (1, sv_I p1), (2, sv_I p2)] [] (sv_sts (sv_sts (sv_up S 74 (639 : Int) ((S 74 (639 : Int)) - p1)) [68, 69, 70, 74] g7) [68, 69, 70] g14)
  have md18 : sv_mod [68, 69, 70, 81, 82, 83, 84, 85, 86, 71, 74, 75, 1127, 78, 79, 80, 72, 76, 77, 1150] S (sv_sts (sv_sts (sv_up S 74 (639 : Int) ((S 74 (639 : Int)) - p1)) [68, 69, 70, 74] g7) [68, 69, 70] g14) := sv_mod.sts md12 (by decide)
  have h := h g14 hpo17
  refine sv_aload_n hM dX12_replace_21 rfl rfl ?_
  refine sv_iload_n hM dX12_replace_22 rfl rfl ?_
  obtain ⟨o19, h⟩ := h
  refine sv_callV hM dX12_replace_23 sm_iv_1231 (by decide) (sm_a0 _) rfl rfl (Nat.le_of_ble_eq_true rfl) sm_h211 (Nat.le_of_ble_eq_true rfl) (Nat.le_of_ble_eq_true rfl) (F' := 2) (Nat.le_of_ble_eq_true rfl) rfl (t_isEmpty p2 (sv_sts (sv_sts (sv_up S 74 (639 : Int) ((S 74 (639 : Int)) - p1)) [68, 69, 70, 74] g7) [68, 69, 70] g14) ok15 hp2 o19) (fun v S1 hq => ?_)
  obtain ⟨r24, rfl, hr24, ok21, md22, hpo23⟩ := hq
  obtain rfl : (sv_sts (sv_sts (sv_up S 74 (639 : Int) ((S 74 (639 : Int)) - p1)) [68, 69, 70, 74] g7) [68, 69, 70] g14) = S1 := (funext fun j => md22 j (by intro q; cases q)).symm
  show sv_T sm_XS sm_cs sm_L sm_sh 5 (q_replace p1 p2 S) 267 26 [(0, .ref 0), (1, sv_I p1), (2, sv_I p2)] [sv_I r24] (sv_sts (sv_sts (sv_up S 74 (639 : Int) ((S 74 (639 : Int)) - p1)) [68, 69, 70, 74] g7) [68, 69, 70] g14)
  have h := h r24 hr24 hpo23
  refine sv_cond_ne hM dX12_replace_26 hr24 (t := 33) rfl rfl (fun hc => ?_) (fun hc => ?_)
  · have h := h.1 (hc)
    exact sv_vret hM dX12_replace_33 rfl ⟨rfl, ok21, md18, h⟩
  · have h := h.2 (hc)
    refine sv_aload_n hM dX12_replace_29 rfl rfl ?_
    obtain ⟨o25, h⟩ := h
    refine sv_callV hM dX12_replace_30 sm_iv_1222 (by decide) (sm_a0 _) rfl rfl (Nat.le_of_ble_eq_true rfl) sm_h258 (Nat.le_of_ble_eq_true rfl) (Nat.le_of_ble_eq_true rfl) (F' := 4) (Nat.le_of_ble_eq_true rfl) rfl (t_on  (sv_sts (sv_sts (sv_up S 74 (639 : Int) ((S 74 (639 : Int)) - p1)) [68, 69, 70, 74] g7) [68, 69, 70] g14) ok21 o25) (fun v S1 hq => ?_)
    obtain ⟨rfl, ok27, md28, hpo29⟩ := hq
    obtain ⟨g26, rfl⟩ : ∃ g, S1 = sv_sts (sv_sts (sv_sts (sv_up S 74 (639 : Int) ((S 74 (639 : Int)) - p1)) [68, 69, 70, 74] g7) [68, 69, 70] g14) [68, 69, 70, 81, 82, 83, 84, 85, 86, 71, 74, 75, 1127, 78, 79, 80, 72, 76, 77, 1150] g := ⟨_, md28.eq⟩
    show sv_T sm_XS sm_cs sm_L sm_sh 5 (q_replace p1 p2 S) 267 33 [(0, .ref 0), (1, sv_I p1), (2, sv_I p2)] [] (sv_sts (sv_sts (sv_sts (sv_up S 74 (639 : Int) ((S 74 (639 : Int)) - p1)) [68, 69, 70, 74] g7) [68, 69, 70] g14) [68, 69, 70, 81, 82, 83, 84, 85, 86, 71, 74, 75, 1127, 78, 79, 80, 72, 76, 77, 1150] g26)
    have md30 : sv_mod [68, 69, 70, 81, 82, 83, 84, 85, 86, 71, 74, 75, 1127, 78, 79, 80, 72, 76, 77, 1150] S (sv_sts (sv_sts (sv_sts (sv_up S 74 (639 : Int) ((S 74 (639 : Int)) - p1)) [68, 69, 70, 74] g7) [68, 69, 70] g14) [68, 69, 70, 81, 82, 83, 84, 85, 86, 71, 74, 75, 1127, 78, 79, 80, 72, 76, 77, 1150] g26) := sv_mod.sts md18 (by decide)
    have h := h g26 hpo29
    exact sv_vret hM dX12_replace_33 rfl ⟨rfl, ok27, md30, h⟩
def q_unarySet (p1 : Int) (p2 : Int) (p3 : Int) (S : sv_S) : Option Value → sv_S → Prop := fun v S' => v = none ∧ sm_ok S' ∧ sv_mod [68, 69, 70, 1113, 1111, 1112] S S' ∧ (sm_pt (S' 68) (S' 69) (S' 70) = sm_pt (S 68) (S 69) (S 70))
theorem la_unarySet_0 {x0 : Int} (h0 : 635639 ≤ x0) (h1 : x0 < 647790) : 0 ≤ x0 ∧ x0 < 647800 := by omega
theorem la_unarySet_1 {x0 : Int} (h0 : 0 ≤ x0) (h1 : x0 < 647800) : 0 ≤ x0 ∧ x0 < 647800 := by omega
theorem la_unarySet_2 {x0 : Int} (h0 : x0 = 0) : ¬ x0 = 1 := by omega
theorem la_unarySet_3 {x0 x1 x2 : Int} (h0 : x0 = x1) : x2 = 0 → x0 = x1 := by omega
theorem la_unarySet_4 {x0 : Int} (h0 : x0 = 1) : 0 ≤ x0 := by omega
theorem la_unarySet_5 {x0 : Int} (h0 : 0 ≤ x0) (h1 : ¬ x0 = 0) : 0 < x0 := by omega
theorem la_unarySet_6 {x0 : Int} (h0 : 635639 ≤ x0) (h1 : x0 < 647790) : 635639 ≤ x0 ∧ x0 < 647790 := by omega
theorem la_unarySet_7 {x0 x1 x2 : Int} (h0 : x0 = x1) (h1 : x2 = x0) : x2 = x1 := by omega
theorem la_unarySet_8 {x0 x1 x2 x3 : Int} (h0 : x0 = x1) (h1 : x2 = x0) : x3 = 0 → x2 = x1 := by omega
theorem la_unarySet_9 {x0 x1 x2 x3 : Int} (h0 : x0 = x1) (h1 : x2 = x0) (h2 : x3 = x2) : x3 = x1 := by omega
theorem la_unarySet_10 {x0 : Int} (h0 : ¬ 3 ≤ x0) : x0 ≤ 4 := by omega
theorem la_unarySet_11 {x0 : Int} (h0 : x0 ≤ 4) (h1 : ¬ x0 = 4) : x0 < 4 := by omega
theorem la_unarySet_12 {x0 : Int} (h0 : ¬ 3 ≤ x0) : x0 ≤ 2 := by omega
theorem la_unarySet_13 {x0 : Int} (h0 : x0 ≤ 2) (h1 : ¬ x0 = 2) : x0 < 2 := by omega
theorem la_unarySet_14 {x0 x1 x2 : Int} (h0 : x0 = 6 → x1 = 128) (h1 : x1 = 128 → 0 ≤ x2 ∧ x2 ≤ 127) : x0 = 6 → 0 ≤ x2 ∧ x2 < 400 := by omega
theorem la_unarySet_15 {x0 x1 x2 : Int} (h0 : 0 ≤ x0) (h1 : x0 ≤ 11557) (h2 : 0 ≤ x1) (h3 : x1 < 647800) (h4 : 635639 ≤ x2) (h5 : x2 < 647790) : 0 ≤ x0 ∧ x0 ≤ 11557 ∧ 0 ≤ x1 ∧ x1 < 647800 ∧ 635639 ≤ x2 ∧ x2 < 647790 := by omega
set_option maxHeartbeats 2000000 in
theorem f_unarySet : ∀ (p1 : Int) (p2 : Int) (p3 : Int) (S : sv_S), sm_ok S → sv_R p1 → sv_R p2 → sv_R p3 → (29 ≤ (S 1071 0) ∧ (S 1071 0) ≤ 127 ∧ 31 ≤ (S 1008 0) ∧ (S 1008 0) ≤ 90 ∧ 1 ≤ (S 1032 0) ∧ (S 1032 0) ≤ 11 ∧ 0 ≤ (S 1055 0) ∧ (S 1055 0) ≤ 19 ∧ (S 1071 0) = 29 + 6 * ((S 1032 0) - 1) + 2 * (S 1055 0) ∧ 0 ≤ (S 1046 0) ∧ (S 1046 0) + 2 * (S 1032 0) ≤ 500 ∧ sm_PD (S 1046 0) (S 1032 0) (S 1071 0) (S 1008 0) ∧ 0 ≤ (S 1071 0) * ((S 1008 0) + 1) ∧ (S 1071 0) * ((S 1008 0) + 1) ≤ 11557 ∧ 31 ≤ (S 1007 0) ∧ (S 1007 0) ≤ 400 ∧ sm_LN (S 4) 400 (S 1007 0) ∧ 0 ≤ p2 ∧ p2 < 647800 ∧ 635639 ≤ p3 ∧ p3 < 647790) → (0 ≤ p3 ∧ p3 < 647800) ∧ (∀ g2 : sv_S, (635639 ≤ p3 → sm_pt (g2 68) (g2 69) (g2 70) = sm_pt (S 68) (S 69) (S 70)) → (((¬ p1 = (4 : Int)) → (0 ≤ p2 ∧ p2 < 647800) ∧ (∀ r12 : Int, sv_R r12 → (r12 = 0 ∨ r12 = 1) → (((r12 = (0 : Int)) → ((((3 : Int) ≤ p1) → (∀ r17 : Int, sv_R r17 → (r17 = 0 ∨ r17 = 1) → (((r17 = (0 : Int)) → (∀ r22 : Int, sv_R r22 → (r22 = 0 ∨ r22 = 1) → (((r22 = (0 : Int)) → (sm_pt (g2 68) (g2 69) (g2 70) = sm_pt (S 68) (S 69) (S 70))) ∧ ((¬ (r22 = (0 : Int))) → (635639 ≤ p3 ∧ p3 < 647790) ∧ (∀ g24 : sv_S, (sm_pt (g24 68) (g24 69) (g24 70) = sm_pt (g2 68) (g2 69) (g2 70)) → (sm_pt (g24 68) (g24 69) (g24 70) = sm_pt (S 68) (S 69) (S 70))))))) ∧ ((¬ (r17 = (0 : Int))) → (635639 ≤ p3 ∧ p3 < 647790) ∧ (∀ g30 : sv_S, (sm_pt (g30 68) (g30 69) (g30 70) = sm_pt (g2 68) (g2 69) (g2 70)) → (∀ r39 : Int, sv_R r39 → (r39 = 0 ∨ r39 = 1) → (((r39 = (0 : Int)) → (sm_pt (g30 68) (g30 69) (g30 70) = sm_pt (S 68) (S 69) (S 70))) ∧ ((¬ (r39 = (0 : Int))) → (∀ g40 : sv_S, (sm_pt (g40 68) (g40 69) (g40 70) = sm_pt (g30 68) (g30 69) (g30 70)) → (sm_pt (g40 68) (g40 69) (g40 70) = sm_pt (S 68) (S 69) (S 70))))))))))) ∧ ((¬ ((3 : Int) ≤ p1)) → (((¬ p1 = (2 : Int)) → (635639 ≤ p3 ∧ p3 < 647790) ∧ (∀ g46 : sv_S, (sm_pt (g46 68) (g46 69) (g46 70) = sm_pt (g2 68) (g2 69) (g2 70)) → (sm_pt (g46 68) (g46 69) (g46 70) = sm_pt (S 68) (S 69) (S 70)))) ∧ ((¬ (¬ p1 = (2 : Int))) → (635639 ≤ p3 ∧ p3 < 647790) ∧ (∀ g52 : sv_S, (sm_pt (g52 68) (g52 69) (g52 70) = sm_pt (g2 68) (g2 69) (g2 70)) → (sm_pt (g52 68) (g52 69) (g52 70) = sm_pt (S 68) (S 69) (S 70)))))))) ∧ ((¬ (r12 = (0 : Int))) → (∀ r61 : Int, sv_R r61 → (0 ≤ r61 ∧ r61 ≤ 6 ∧ (r61 = 6 → sm_iand ((g2 68 p2) % 1024) (-513) = 128)) → (∀ r66 : Int, sv_R r66 → (sm_iand ((g2 68 p2) % 1024) (-513) = 128 → 0 ≤ r66 ∧ r66 ≤ 127) → (31 ≤ (S 1007 0) ∧ (S 1007 0) ≤ 400 ∧ sm_LN (S 4) 400 (S 1007 0) ∧ (r61 = 6 → 0 ≤ r66 ∧ r66 < 400)) ∧ (∀ g68 : sv_S, (2 ≤ (g68 1111 0) ∧ (g68 1111 0) ≤ 5) → (sv_R (g68 1111 0) → (sv_R (g68 1112 0) → (635639 ≤ p3 ∧ p3 < 647790) ∧ (∀ g76 : sv_S, (sm_pt (g76 68) (g76 69) (g76 70) = sm_pt (g2 68) (g2 69) (g2 70)) → (sm_pt (g76 68) (g76 69) (g76 70) = sm_pt (S 68) (S 69) (S 70)))))))))))) ∧ ((¬ (¬ p1 = (4 : Int))) → (29 ≤ (S 1071 0) ∧ (S 1071 0) ≤ 127 ∧ 31 ≤ (S 1008 0) ∧ (S 1008 0) ≤ 90 ∧ 1 ≤ (S 1032 0) ∧ (S 1032 0) ≤ 11 ∧ 0 ≤ (S 1055 0) ∧ (S 1055 0) ≤ 19 ∧ (S 1071 0) = 29 + 6 * ((S 1032 0) - 1) + 2 * (S 1055 0) ∧ 0 ≤ (S 1046 0) ∧ (S 1046 0) + 2 * (S 1032 0) ≤ 500 ∧ sm_PD (S 1046 0) (S 1032 0) (S 1071 0) (S 1008 0) ∧ 0 ≤ (S 1071 0) * ((S 1008 0) + 1) ∧ (S 1071 0) * ((S 1008 0) + 1) ≤ 11557 ∧ 0 ≤ p2 ∧ p2 < 647800 ∧ 635639 ≤ p3 ∧ p3 < 647790) ∧ (∀ g82 : sv_S, (sm_pt (g82 68) (g82 69) (g82 70) = sm_pt (g2 68) (g2 69) (g2 70)) → (sm_pt (g82 68) (g82 69) (g82 70) = sm_pt (S 68) (S 69) (S 70)))))) := by
  intro p1
  intro p2
  intro p3
  intro S
  intro h1_
  intro h2_
  intro h3_
  intro h4_
  rintro ⟨h5_, ⟨h6_, ⟨h7_, ⟨h8_, ⟨h9_, ⟨h10_, ⟨h11_, ⟨h12_, ⟨h13_, ⟨h14_, ⟨h15_, ⟨h16_, ⟨h17_, ⟨h18_, ⟨h19_, ⟨h20_, ⟨h21_, ⟨h22_, ⟨h23_, ⟨h24_, h25_⟩⟩⟩⟩⟩⟩⟩⟩⟩⟩⟩⟩⟩⟩⟩⟩⟩⟩⟩⟩
  refine ⟨(la_unarySet_0 h24_ h25_), ?_⟩
  intro g2
  intro h26_
  have h27_ := (h26_ h24_)
  refine ⟨?_, ?_⟩
  · skip
    intro h28_
    refine ⟨(la_unarySet_1 h22_ h23_), ?_⟩
    intro r12
    intro h29_
    intro h30_
    refine ⟨?_, ?_⟩
    · skip
      intro h31_
      have h32_ := (h30_.resolve_right (la_unarySet_2 h31_))
      refine ⟨?_, ?_⟩
      · skip
        intro h33_
        intro r17
        intro h34_
        intro h35_
        refine ⟨?_, ?_⟩
        · skip
          intro h36_
          have h37_ := (h35_.resolve_right (la_unarySet_2 h36_))
          intro r22
          intro h38_
          intro h39_
          refine ⟨(la_unarySet_3 h27_), ?_⟩
          intro h40_
          have h41_ := (h39_.resolve_left h40_)
          refine ⟨(la_unarySet_6 h24_ h25_), ?_⟩
          intro g24
          intro h42_
          exact (la_unarySet_7 h27_ h42_)
        intro h43_
        have h44_ := (h35_.resolve_left h43_)
        refine ⟨(la_unarySet_6 h24_ h25_), ?_⟩
        intro g30
        intro h45_
        intro r39
        intro h46_
        intro h47_
        refine ⟨(la_unarySet_8 h27_ h45_), ?_⟩
        intro h48_
        have h49_ := (h47_.resolve_left h48_)
        intro g40
        intro h50_
        exact (la_unarySet_9 h27_ h45_ h50_)
      intro h51_
      refine ⟨?_, ?_⟩
      · skip
        intro h52_
        refine ⟨(la_unarySet_6 h24_ h25_), ?_⟩
        intro g46
        intro h53_
        exact (la_unarySet_7 h27_ h53_)
      intro h54_
      refine ⟨(la_unarySet_6 h24_ h25_), ?_⟩
      intro g52
      intro h55_
      exact (la_unarySet_7 h27_ h55_)
    intro h56_
    have h57_ := (h30_.resolve_left h56_)
    intro r61
    intro h58_
    rintro ⟨h59_, ⟨h60_, h61_⟩⟩
    intro r66
    intro h62_
    intro h63_
    refine ⟨⟨h19_, ⟨h20_, ⟨h21_, (la_unarySet_14 h61_ h63_)⟩⟩⟩, ?_⟩
    intro g68
    rintro ⟨h64_, h65_⟩
    intro h66_
    intro h67_
    refine ⟨(la_unarySet_6 h24_ h25_), ?_⟩
    intro g76
    intro h68_
    exact (la_unarySet_7 h27_ h68_)
  intro h69_
  refine ⟨⟨h5_, ⟨h6_, ⟨h7_, ⟨h8_, ⟨h9_, ⟨h10_, ⟨h11_, ⟨h12_, ⟨h13_, ⟨h14_, ⟨h15_, ⟨h16_, (la_unarySet_15 h17_ h18_ h22_ h23_ h24_ h25_)⟩⟩⟩⟩⟩⟩⟩⟩⟩⟩⟩⟩, ?_⟩
  intro g82
  intro h70_
  exact (la_unarySet_7 h27_ h70_)
set_option maxRecDepth 8000 in
set_option maxHeartbeats 2000000 in
theorem t_unarySet : ∀ (p1 : Int) (p2 : Int) (p3 : Int) (S : sv_S), sm_ok S → sv_R p1 → sv_R p2 → sv_R p3 → (29 ≤ (S 1071 0) ∧ (S 1071 0) ≤ 127 ∧ 31 ≤ (S 1008 0) ∧ (S 1008 0) ≤ 90 ∧ 1 ≤ (S 1032 0) ∧ (S 1032 0) ≤ 11 ∧ 0 ≤ (S 1055 0) ∧ (S 1055 0) ≤ 19 ∧ (S 1071 0) = 29 + 6 * ((S 1032 0) - 1) + 2 * (S 1055 0) ∧ 0 ≤ (S 1046 0) ∧ (S 1046 0) + 2 * (S 1032 0) ≤ 500 ∧ sm_PD (S 1046 0) (S 1032 0) (S 1071 0) (S 1008 0) ∧ 0 ≤ (S 1071 0) * ((S 1008 0) + 1) ∧ (S 1071 0) * ((S 1008 0) + 1) ≤ 11557 ∧ 31 ≤ (S 1007 0) ∧ (S 1007 0) ≤ 400 ∧ sm_LN (S 4) 400 (S 1007 0) ∧ 0 ≤ p2 ∧ p2 < 647800 ∧ 635639 ≤ p3 ∧ p3 < 647790) → sv_T sm_XS sm_cs sm_L sm_sh 4 (q_unarySet p1 p2 p3 S) 272 0 (lv_args 0 [.ref 0, sv_I p1, sv_I p2, sv_I p3]) [] S := by
  intro p1 p2 p3 S hok hp1 hp2 hp3 hpre
  have h := f_unarySet p1 p2 p3 S hok hp1 hp2 hp3 hpre
  have hM := sm_h272
  show sv_T sm_XS sm_cs sm_L sm_sh 4 (q_unarySet p1 p2 p3 S) 272 0 [(0, .ref 0), (1, sv_I p1), (2, sv_I p2), (3, sv_I p3)] [] S
  refine sv_aload_n hM dX12_unarySet_0 rfl rfl ?_
  refine sv_iload_n hM dX12_unarySet_1 rfl rfl ?_
  obtain ⟨o1, h⟩ := h
  refine sv_callV hM dX12_unarySet_2 sm_iv_1066 (by decide) (sm_a0 _) rfl rfl (Nat.le_of_ble_eq_true rfl) sm_h206 (Nat.le_of_ble_eq_true rfl) (Nat.le_of_ble_eq_true rfl) (F' := 0) (Nat.le_of_ble_eq_true rfl) rfl (t_empty p3 S hok hp3 o1) (fun v S1 hq => ?_)
  obtain ⟨rfl, ok3, md4, hpo5⟩ := hq
  obtain ⟨g2, rfl⟩ : ∃ g, S1 = sv_sts S [68, 69, 70] g := ⟨_, md4.eq⟩
  show sv_T sm_XS sm_cs sm_L sm_sh 4 (q_unarySet p1 p2 p3 S) 272 5 [(0, .ref 0), (1, sv_I p1), (2, sv_I p2), (3, sv_I p3)] [] (sv_sts S [68, 69, 70] g2)
  have md6 : sv_mod [68, 69, 70, 1113, 1111, 1112] S (sv_sts S [68, 69, 70] g2) := sv_mod.sts sv_mod.rf (by decide)
  have h := h g2 hpo5
  refine sv_iload_n hM dX12_unarySet_5 rfl rfl ?_
  refine sv_iconst (d := (4 : Int)) hM dX12_unarySet_6 rfl rfl ?_
  refine sv_icmp_ne hM dX12_unarySet_7 hp1 (⟨by decide, by decide⟩ : sv_R (4 : Int)) (t := 19) rfl rfl (fun hc => ?_) (fun hc => ?_)
  · have h := h.1 (hc)
    refine sv_aload_n hM dX12_unarySet_19 rfl rfl ?_
    refine sv_iload_n hM dX12_unarySet_20 rfl rfl ?_
    obtain ⟨o7, h⟩ := h
    refine sv_callV hM dX12_unarySet_21 sm_iv_1294 (by decide) (sm_a0 _) rfl rfl (Nat.le_of_ble_eq_true rfl) sm_h212 (Nat.le_of_ble_eq_true rfl) (Nat.le_of_ble_eq_true rfl) (F' := 2) (Nat.le_of_ble_eq_true rfl) rfl (t_isAlone p2 (sv_sts S [68, 69, 70] g2) ok3 hp2 o7) (fun v S1 hq => ?_)
    obtain ⟨r12, rfl, hr12, ok9, md10, hpo11⟩ := hq
    obtain rfl : (sv_sts S [68, 69, 70] g2) = S1 := (funext fun j => md10 j (by intro q; cases q)).symm
    show sv_T sm_XS sm_cs sm_L sm_sh 4 (q_unarySet p1 p2 p3 S) 272 24 [(0, .ref 0), (1, sv_I p1), (2, sv_I p2), (3, sv_I p3)] [sv_I r12] (sv_sts S [68, 69, 70] g2)
    have h := h r12 hr12 hpo11
    refine sv_cond_eq hM dX12_unarySet_24 hr12 (t := 58) rfl rfl (fun hc => ?_) (fun hc => ?_)
    · have h := h.1 (hc)
      refine sv_iload_n hM dX12_unarySet_58 rfl rfl ?_
      refine sv_iconst (d := (3 : Int)) hM dX12_unarySet_59 rfl rfl ?_
      refine sv_icmp_ge hM dX12_unarySet_60 hp1 (⟨by decide, by decide⟩ : sv_R (3 : Int)) (t := 83) rfl rfl (fun hc => ?_) (fun hc => ?_)
      · have h := h.1 (hc)
        refine sv_aload_n hM dX12_unarySet_83 rfl rfl ?_
        refine sv_iload_n hM dX12_unarySet_84 rfl rfl ?_
        refine sv_callV hM dX12_unarySet_85 sm_iv_1286 (by decide) (sm_a0 _) rfl rfl (Nat.le_of_ble_eq_true rfl) sm_h222 (Nat.le_of_ble_eq_true rfl) (Nat.le_of_ble_eq_true rfl) (F' := 1) (Nat.le_of_ble_eq_true rfl) rfl (t_mayBeFalse p2 (sv_sts S [68, 69, 70] g2) ok9 hp2 o7) (fun v S1 hq => ?_)
        obtain ⟨r17, rfl, hr17, ok14, md15, hpo16⟩ := hq
        obtain rfl : (sv_sts S [68, 69, 70] g2) = S1 := (funext fun j => md15 j (by intro q; cases q)).symm
        show sv_T sm_XS sm_cs sm_L sm_sh 4 (q_unarySet p1 p2 p3 S) 272 88 [(0, .ref 0), (1, sv_I p1), (2, sv_I p2), (3, sv_I p3)] [sv_I r17] (sv_sts S [68, 69, 70] g2)
        have h := h r17 hr17 hpo16
        refine sv_cond_eq hM dX12_unarySet_88 hr17 (t := 97) rfl rfl (fun hc => ?_) (fun hc => ?_)
        · have h := h.1 (hc)
          refine sv_aload_n hM dX12_unarySet_97 rfl rfl ?_
          refine sv_iload_n hM dX12_unarySet_98 rfl rfl ?_
          refine sv_callV hM dX12_unarySet_99 sm_iv_1283 (by decide) (sm_a0 _) rfl rfl (Nat.le_of_ble_eq_true rfl) sm_h221 (Nat.le_of_ble_eq_true rfl) (Nat.le_of_ble_eq_true rfl) (F' := 1) (Nat.le_of_ble_eq_true rfl) rfl (t_mayBeTrue p2 (sv_sts S [68, 69, 70] g2) ok14 hp2 o7) (fun v S1 hq => ?_)
          obtain ⟨r22, rfl, hr22, ok19, md20, hpo21⟩ := hq
          obtain rfl : (sv_sts S [68, 69, 70] g2) = S1 := (funext fun j => md20 j (by intro q; cases q)).symm
          show sv_T sm_XS sm_cs sm_L sm_sh 4 (q_unarySet p1 p2 p3 S) 272 102 [(0, .ref 0), (1, sv_I p1), (2, sv_I p2), (3, sv_I p3)] [sv_I r22] (sv_sts S [68, 69, 70] g2)
          have h := h r22 hr22 hpo21
          refine sv_cond_eq hM dX12_unarySet_102 hr22 (t := 112) rfl rfl (fun hc => ?_) (fun hc => ?_)
          · have h := h.1 (hc)
            exact sv_vret hM dX12_unarySet_112 rfl ⟨rfl, ok19, md6, h⟩
          · have h := h.2 (hc)
            refine sv_aload_n hM dX12_unarySet_105 rfl rfl ?_
            refine sv_iload_n hM dX12_unarySet_106 rfl rfl ?_
            refine sv_bipush (d := (8 : Int)) hM dX12_unarySet_107 rfl rfl ?_
            obtain ⟨o23, h⟩ := h
            refine sv_callV hM dX12_unarySet_109 sm_iv_1072 (by decide) (sm_a0 _) rfl rfl (Nat.le_of_ble_eq_true rfl) sm_h213 (Nat.le_of_ble_eq_true rfl) (Nat.le_of_ble_eq_true rfl) (F' := 2) (Nat.le_of_ble_eq_true rfl) rfl (t_addSort p3 (8 : Int) (sv_sts S [68, 69, 70] g2) ok19 hp3 (⟨by decide, by decide⟩ : sv_R (8 : Int)) o23) (fun v S1 hq => ?_)
            obtain ⟨rfl, ok25, md26, hpo27⟩ := hq
            obtain ⟨g24, rfl⟩ : ∃ g, S1 = sv_sts (sv_sts S [68, 69, 70] g2) [68, 69, 70] g := ⟨_, md26.eq⟩
            show sv_T sm_XS sm_cs sm_L sm_sh 4 (q_unarySet p1 p2 p3 S) 272 112 [(0, .ref 0), (1, sv_I p1), (2, sv_I p2), (3, sv_I p3)] [] (sv_sts (sv_sts S [68, 69, 70] g2) [68, 69, 70] g24)
            have md28 : sv_mod [68, 69, 70, 1113, 1111, 1112] S (sv_sts (sv_sts S [68, 69, 70] g2) [68, 69, 70] g24) := sv_mod.sts md6 (by decide)
            have h := h g24 hpo27
            exact sv_vret hM dX12_unarySet_112 rfl ⟨rfl, ok25, md28, h⟩
        · have h := h.2 (hc)
          refine sv_aload_n hM dX12_unarySet_91 rfl rfl ?_
          refine sv_iload_n hM dX12_unarySet_92 rfl rfl ?_
          refine sv_iconst (d := (4 : Int)) hM dX12_unarySet_93 rfl rfl ?_
          obtain ⟨o29, h⟩ := h
          refine sv_callV hM dX12_unarySet_94 sm_iv_1072 (by decide) (sm_a0 _) rfl rfl (Nat.le_of_ble_eq_true rfl) sm_h213 (Nat.le_of_ble_eq_true rfl) (Nat.le_of_ble_eq_true rfl) (F' := 2) (Nat.le_of_ble_eq_true rfl) rfl (t_addSort p3 (4 : Int) (sv_sts S [68, 69, 70] g2) ok14 hp3 (⟨by decide, by decide⟩ : sv_R (4 : Int)) o29) (fun v S1 hq => ?_)
          obtain ⟨rfl, ok31, md32, hpo33⟩ := hq
          obtain ⟨g30, rfl⟩ : ∃ g, S1 = sv_sts (sv_sts S [68, 69, 70] g2) [68, 69, 70] g := ⟨_, md32.eq⟩
          show sv_T sm_XS sm_cs sm_L sm_sh 4 (q_unarySet p1 p2 p3 S) 272 97 [(0, .ref 0), (1, sv_I p1), (2, sv_I p2), (3, sv_I p3)] [] (sv_sts (sv_sts S [68, 69, 70] g2) [68, 69, 70] g30)
          have md34 : sv_mod [68, 69, 70, 1113, 1111, 1112] S (sv_sts (sv_sts S [68, 69, 70] g2) [68, 69, 70] g30) := sv_mod.sts md6 (by decide)
          have h := h g30 hpo33
          refine sv_aload_n hM dX12_unarySet_97 rfl rfl ?_
          refine sv_iload_n hM dX12_unarySet_98 rfl rfl ?_
          refine sv_callV hM dX12_unarySet_99 sm_iv_1283 (by decide) (sm_a0 _) rfl rfl (Nat.le_of_ble_eq_true rfl) sm_h221 (Nat.le_of_ble_eq_true rfl) (Nat.le_of_ble_eq_true rfl) (F' := 1) (Nat.le_of_ble_eq_true rfl) rfl (t_mayBeTrue p2 (sv_sts (sv_sts S [68, 69, 70] g2) [68, 69, 70] g30) ok31 hp2 o7) (fun v S1 hq => ?_)
          obtain ⟨r39, rfl, hr39, ok36, md37, hpo38⟩ := hq
          obtain rfl : (sv_sts (sv_sts S [68, 69, 70] g2) [68, 69, 70] g30) = S1 := (funext fun j => md37 j (by intro q; cases q)).symm
          show sv_T sm_XS sm_cs sm_L sm_sh 4 (q_unarySet p1 p2 p3 S) 272 102 [(0, .ref 0), (1, sv_I p1), (2, sv_I p2), (3, sv_I p3)] [sv_I r39] (sv_sts (sv_sts S [68, 69, 70] g2) [68, 69, 70] g30)
          have h := h r39 hr39 hpo38
          refine sv_cond_eq hM dX12_unarySet_102 hr39 (t := 112) rfl rfl (fun hc => ?_) (fun hc => ?_)
          · have h := h.1 (hc)
            exact sv_vret hM dX12_unarySet_112 rfl ⟨rfl, ok36, md34, h⟩
          · have h := h.2 (hc)
            refine sv_aload_n hM dX12_unarySet_105 rfl rfl ?_
            refine sv_iload_n hM dX12_unarySet_106 rfl rfl ?_
            refine sv_bipush (d := (8 : Int)) hM dX12_unarySet_107 rfl rfl ?_
            refine sv_callV hM dX12_unarySet_109 sm_iv_1072 (by decide) (sm_a0 _) rfl rfl (Nat.le_of_ble_eq_true rfl) sm_h213 (Nat.le_of_ble_eq_true rfl) (Nat.le_of_ble_eq_true rfl) (F' := 2) (Nat.le_of_ble_eq_true rfl) rfl (t_addSort p3 (8 : Int) (sv_sts (sv_sts S [68, 69, 70] g2) [68, 69, 70] g30) ok36 hp3 (⟨by decide, by decide⟩ : sv_R (8 : Int)) o29) (fun v S1 hq => ?_)
            obtain ⟨rfl, ok41, md42, hpo43⟩ := hq
            obtain ⟨g40, rfl⟩ : ∃ g, S1 = sv_sts (sv_sts (sv_sts S [68, 69, 70] g2) [68, 69, 70] g30) [68, 69, 70] g := ⟨_, md42.eq⟩
            show sv_T sm_XS sm_cs sm_L sm_sh 4 (q_unarySet p1 p2 p3 S) 272 112 [(0, .ref 0), (1, sv_I p1), (2, sv_I p2), (3, sv_I p3)] [] (sv_sts (sv_sts (sv_sts S [68, 69, 70] g2) [68, 69, 70] g30) [68, 69, 70] g40)
            have md44 : sv_mod [68, 69, 70, 1113, 1111, 1112] S (sv_sts (sv_sts (sv_sts S [68, 69, 70] g2) [68, 69, 70] g30) [68, 69, 70] g40) := sv_mod.sts md34 (by decide)
            have h := h g40 hpo43
            exact sv_vret hM dX12_unarySet_112 rfl ⟨rfl, ok41, md44, h⟩
      · have h := h.2 (hc)
        refine sv_aload_n hM dX12_unarySet_63 rfl rfl ?_
        refine sv_iload_n hM dX12_unarySet_64 rfl rfl ?_
        refine sv_iload_n hM dX12_unarySet_65 rfl rfl ?_
        refine sv_iconst (d := (2 : Int)) hM dX12_unarySet_66 rfl rfl ?_
        refine sv_icmp_ne hM dX12_unarySet_67 hp1 (⟨by decide, by decide⟩ : sv_R (2 : Int)) (t := 75) rfl rfl (fun hc => ?_) (fun hc => ?_)
        · have h := h.1 (hc)
          refine sv_bipush (d := (80 : Int)) hM dX12_unarySet_75 rfl rfl ?_
          obtain ⟨o45, h⟩ := h
          refine sv_callV hM dX12_unarySet_77 sm_iv_1072 (by decide) (sm_a0 _) rfl rfl (Nat.le_of_ble_eq_true rfl) sm_h213 (Nat.le_of_ble_eq_true rfl) (Nat.le_of_ble_eq_true rfl) (F' := 2) (Nat.le_of_ble_eq_true rfl) rfl (t_addSort p3 (80 : Int) (sv_sts S [68, 69, 70] g2) ok9 hp3 (⟨by decide, by decide⟩ : sv_R (80 : Int)) o45) (fun v S1 hq => ?_)
          obtain ⟨rfl, ok47, md48, hpo49⟩ := hq
          obtain ⟨g46, rfl⟩ : ∃ g, S1 = sv_sts (sv_sts S [68, 69, 70] g2) [68, 69, 70] g := ⟨_, md48.eq⟩
          show sv_T sm_XS sm_cs sm_L sm_sh 4 (q_unarySet p1 p2 p3 S) 272 80 [(0, .ref 0), (1, sv_I p1), (2, sv_I p2), (3, sv_I p3)] [] (sv_sts (sv_sts S [68, 69, 70] g2) [68, 69, 70] g46)
          have md50 : sv_mod [68, 69, 70, 1113, 1111, 1112] S (sv_sts (sv_sts S [68, 69, 70] g2) [68, 69, 70] g46) := sv_mod.sts md6 (by decide)
          have h := h g46 hpo49
          refine sv_goto hM dX12_unarySet_80 (pc' := 112) rfl ?_
          exact sv_vret hM dX12_unarySet_112 rfl ⟨rfl, ok47, md50, h⟩
        · have h := h.2 (hc)
          refine sv_bipush (d := (64 : Int)) hM dX12_unarySet_70 rfl rfl ?_
          refine sv_goto hM dX12_unarySet_72 (pc' := 77) rfl ?_
          obtain ⟨o51, h⟩ := h
          refine sv_callV hM dX12_unarySet_77 sm_iv_1072 (by decide) (sm_a0 _) rfl rfl (Nat.le_of_ble_eq_true rfl) sm_h213 (Nat.le_of_ble_eq_true rfl) (Nat.le_of_ble_eq_true rfl) (F' := 2) (Nat.le_of_ble_eq_true rfl) rfl (t_addSort p3 (64 : Int) (sv_sts S [68, 69, 70] g2) ok9 hp3 (⟨by decide, by decide⟩ : sv_R (64 : Int)) o51) (fun v S1 hq => ?_)
          obtain ⟨rfl, ok53, md54, hpo55⟩ := hq
          obtain ⟨g52, rfl⟩ : ∃ g, S1 = sv_sts (sv_sts S [68, 69, 70] g2) [68, 69, 70] g := ⟨_, md54.eq⟩
          show sv_T sm_XS sm_cs sm_L sm_sh 4 (q_unarySet p1 p2 p3 S) 272 80 [(0, .ref 0), (1, sv_I p1), (2, sv_I p2), (3, sv_I p3)] [] (sv_sts (sv_sts S [68, 69, 70] g2) [68, 69, 70] g52)
          have md56 : sv_mod [68, 69, 70, 1113, 1111, 1112] S (sv_sts (sv_sts S [68, 69, 70] g2) [68, 69, 70] g52) := sv_mod.sts md6 (by decide)
          have h := h g52 hpo55
          refine sv_goto hM dX12_unarySet_80 (pc' := 112) rfl ?_
          exact sv_vret hM dX12_unarySet_112 rfl ⟨rfl, ok53, md56, h⟩
    · have h := h.2 (hc)
      refine sv_aload_n hM dX12_unarySet_27 rfl rfl ?_
      refine sv_iload_n hM dX12_unarySet_28 rfl rfl ?_
      refine sv_aload_n hM dX12_unarySet_29 rfl rfl ?_
      refine sv_iload_n hM dX12_unarySet_30 rfl rfl ?_
      refine sv_callV hM dX12_unarySet_31 sm_iv_1297 (by decide) (sm_a0 _) rfl rfl (Nat.le_of_ble_eq_true rfl) sm_h219 (Nat.le_of_ble_eq_true rfl) (Nat.le_of_ble_eq_true rfl) (F' := 2) (Nat.le_of_ble_eq_true rfl) rfl (t_sortOfAlone p2 (sv_sts S [68, 69, 70] g2) ok9 hp2 o7) (fun v S1 hq => ?_)
      obtain ⟨r61, rfl, hr61, ok58, md59, hpo60⟩ := hq
      obtain rfl : (sv_sts S [68, 69, 70] g2) = S1 := (funext fun j => md59 j (by intro q; cases q)).symm
      show sv_T sm_XS sm_cs sm_L sm_sh 4 (q_unarySet p1 p2 p3 S) 272 34 [(0, .ref 0), (1, sv_I p1), (2, sv_I p2), (3, sv_I p3)] [sv_I r61, sv_I p1, .ref 0] (sv_sts S [68, 69, 70] g2)
      have h := h r61 hr61 hpo60
      refine sv_aload_n hM dX12_unarySet_34 rfl rfl ?_
      refine sv_iload_n hM dX12_unarySet_35 rfl rfl ?_
      refine sv_callV hM dX12_unarySet_36 sm_iv_1300 (by decide) (sm_a0 _) rfl rfl (Nat.le_of_ble_eq_true rfl) sm_h220 (Nat.le_of_ble_eq_true rfl) (Nat.le_of_ble_eq_true rfl) (F' := 2) (Nat.le_of_ble_eq_true rfl) rfl (t_valueOfAlone p2 (sv_sts S [68, 69, 70] g2) ok58 hp2 o7) (fun v S1 hq => ?_)
      obtain ⟨r66, rfl, hr66, ok63, md64, hpo65⟩ := hq
      obtain rfl : (sv_sts S [68, 69, 70] g2) = S1 := (funext fun j => md64 j (by intro q; cases q)).symm
      show sv_T sm_XS sm_cs sm_L sm_sh 4 (q_unarySet p1 p2 p3 S) 272 39 [(0, .ref 0), (1, sv_I p1), (2, sv_I p2), (3, sv_I p3)] [sv_I r66, sv_I r61, sv_I p1, .ref 0] (sv_sts S [68, 69, 70] g2)
      have h := h r66 hr66 hpo65
      obtain ⟨o67, h⟩ := h
      refine sv_callV hM dX12_unarySet_39 sm_iv_940 (by decide) (sm_a0 _) rfl rfl (Nat.le_of_ble_eq_true rfl) sm_h135 (Nat.le_of_ble_eq_true rfl) (Nat.le_of_ble_eq_true rfl) (F' := 3) (Nat.le_of_ble_eq_true rfl) rfl (t_unaryOf p1 r61 r66 (sv_sts S [68, 69, 70] g2) ok63 hp1 hr61 hr66 o67) (fun v S1 hq => ?_)
      obtain ⟨rfl, ok69, md70, hpo71⟩ := hq
      obtain ⟨g68, rfl⟩ : ∃ g, S1 = sv_sts (sv_sts S [68, 69, 70] g2) [1113, 1111, 1112] g := ⟨_, md70.eq⟩
      show sv_T sm_XS sm_cs sm_L sm_sh 4 (q_unarySet p1 p2 p3 S) 272 42 [(0, .ref 0), (1, sv_I p1), (2, sv_I p2), (3, sv_I p3)] [] (sv_sts (sv_sts S [68, 69, 70] g2) [1113, 1111, 1112] g68)
      have md72 : sv_mod [68, 69, 70, 1113, 1111, 1112] S (sv_sts (sv_sts S [68, 69, 70] g2) [1113, 1111, 1112] g68) := sv_mod.sts md6 (by decide)
      have h := h g68 hpo71
      refine sv_aload_n hM dX12_unarySet_42 rfl rfl ?_
      refine sv_iload_n hM dX12_unarySet_43 rfl rfl ?_
      refine sv_aload_n hM dX12_unarySet_44 rfl rfl ?_
      have k73 : sv_R (g68 1111 0) := sm_okI ok69 sm_r1111 0
      have h := h k73
      refine sv_getI hM dX12_unarySet_45 sm_fl_788 (sm_a0 _) sm_k111 rfl (x := (g68 1111 0)) rfl ?_
      refine sv_aload_n hM dX12_unarySet_48 rfl rfl ?_
      have k74 : sv_R (g68 1112 0) := sm_okI ok69 sm_r1112 0
      have h := h k74
      refine sv_getI hM dX12_unarySet_49 sm_fl_791 (sm_a0 _) sm_k112 rfl (x := (g68 1112 0)) rfl ?_
      obtain ⟨o75, h⟩ := h
      refine sv_callV hM dX12_unarySet_52 sm_iv_1219 (by decide) (sm_a0 _) rfl rfl (Nat.le_of_ble_eq_true rfl) sm_h218 (Nat.le_of_ble_eq_true rfl) (Nat.le_of_ble_eq_true rfl) (F' := 3) (Nat.le_of_ble_eq_true rfl) rfl (t_addValue p3 (g68 1111 0) (g68 1112 0) (sv_sts (sv_sts S [68, 69, 70] g2) [1113, 1111, 1112] g68) ok69 hp3 k73 k74 o75) (fun v S1 hq => ?_)
      obtain ⟨rfl, ok77, md78, hpo79⟩ := hq
      obtain ⟨g76, rfl⟩ : ∃ g, S1 = sv_sts (sv_sts (sv_sts S [68, 69, 70] g2) [1113, 1111, 1112] g68) [68, 69, 70] g := ⟨_, md78.eq⟩
      show sv_T sm_XS sm_cs sm_L sm_sh 4 (q_unarySet p1 p2 p3 S) 272 55 [(0, .ref 0), (1, sv_I p1), (2, sv_I p2), (3, sv_I p3)] [] (sv_sts (sv_sts (sv_sts S [68, 69, 70] g2) [1113, 1111, 1112] g68) [68, 69, 70] g76)
      have md80 : sv_mod [68, 69, 70, 1113, 1111, 1112] S (sv_sts (sv_sts (sv_sts S [68, 69, 70] g2) [1113, 1111, 1112] g68) [68, 69, 70] g76) := sv_mod.sts md72 (by decide)
      have h := h g76 hpo79
      refine sv_goto hM dX12_unarySet_55 (pc' := 112) rfl ?_
      exact sv_vret hM dX12_unarySet_112 rfl ⟨rfl, ok77, md80, h⟩
  · have h := h.2 (hc)
    refine sv_aload_n hM dX12_unarySet_10 rfl rfl ?_
    refine sv_iload_n hM dX12_unarySet_11 rfl rfl ?_
    refine sv_iload_n hM dX12_unarySet_12 rfl rfl ?_
    obtain ⟨o81, h⟩ := h
    refine sv_callV hM dX12_unarySet_13 sm_iv_1289 (by decide) (sm_a0 _) rfl rfl (Nat.le_of_ble_eq_true rfl) sm_h271 (Nat.le_of_ble_eq_true rfl) (Nat.le_of_ble_eq_true rfl) (F' := 3) (Nat.le_of_ble_eq_true rfl) rfl (t_typesOf p2 p3 (sv_sts S [68, 69, 70] g2) ok3 hp2 hp3 o81) (fun v S1 hq => ?_)
    obtain ⟨rfl, ok83, md84, hpo85⟩ := hq
    obtain ⟨g82, rfl⟩ : ∃ g, S1 = sv_sts (sv_sts S [68, 69, 70] g2) [68, 69, 70] g := ⟨_, md84.eq⟩
    show sv_T sm_XS sm_cs sm_L sm_sh 4 (q_unarySet p1 p2 p3 S) 272 16 [(0, .ref 0), (1, sv_I p1), (2, sv_I p2), (3, sv_I p3)] [] (sv_sts (sv_sts S [68, 69, 70] g2) [68, 69, 70] g82)
    have md86 : sv_mod [68, 69, 70, 1113, 1111, 1112] S (sv_sts (sv_sts S [68, 69, 70] g2) [68, 69, 70] g82) := sv_mod.sts md6 (by decide)
    have h := h g82 hpo85
    refine sv_goto hM dX12_unarySet_16 (pc' := 112) rfl ?_
    exact sv_vret hM dX12_unarySet_112 rfl ⟨rfl, ok83, md86, h⟩
def q_binarySet (p1 : Int) (p2 : Int) (p3 : Int) (p4 : Int) (S : sv_S) : Option Value → sv_S → Prop := fun v S' => v = none ∧ sm_ok S' ∧ sv_mod [68, 69, 70, 1113, 1111, 1112, 5, 1011] S S' ∧ (sm_pt (S' 68) (S' 69) (S' 70) = sm_pt (S 68) (S 69) (S 70))
theorem la_binarySet_0 {x0 : Int} (h0 : 635639 ≤ x0) (h1 : x0 < 647790) : 0 ≤ x0 ∧ x0 < 647800 := by omega
theorem la_binarySet_1 {x0 : Int} (h0 : 0 ≤ x0) (h1 : x0 < 647800) : 0 ≤ x0 ∧ x0 < 647800 := by omega
theorem la_binarySet_2 {x0 : Int} (h0 : x0 = 0) : ¬ x0 = 1 := by omega
theorem la_binarySet_3 {x0 : Int} (h0 : 0 ≤ x0) (h1 : ¬ x0 = 0) : 0 < x0 := by omega
theorem la_binarySet_4 {x0 : Int} (h0 : 635639 ≤ x0) (h1 : x0 < 647790) : 635639 ≤ x0 ∧ x0 < 647790 := by omega
theorem la_binarySet_5 {x0 x1 x2 : Int} (h0 : x0 = x1) (h1 : x2 = x0) : x2 = x1 := by omega
theorem la_binarySet_6 {x0 x1 x2 x3 : Int} (h0 : x0 = x1) (h1 : x2 = x0) : x3 = 0 → x2 = x1 := by omega
theorem la_binarySet_7 {x0 x1 x2 x3 : Int} (h0 : x0 = x1) (h1 : x2 = x0) (h2 : x3 = x2) : x3 = x1 := by omega
theorem la_binarySet_8 {x0 : Int} (h0 : x0 = 1) : 0 ≤ x0 := by omega
theorem la_binarySet_9 {x0 : Int} (h0 : ¬ ¬ x0 = 0) : ¬ x0 = 1 := by omega
theorem la_binarySet_10 {x0 x1 x2 : Int} (h0 : x0 = x1) : x2 = 0 → x0 = x1 := by omega
theorem la_binarySet_11 {x0 x1 x2 x3 x4 x5 x6 : Int} (h0 : 0 ≤ x0) (h1 : x0 ≤ 18) (h2 : x1 = 6 → x2 = 128) (h3 : x3 = 6 → x4 = 128) (h4 : x2 = 128 → 0 ≤ x5 ∧ x5 ≤ 127) (h5 : x4 = 128 → 0 ≤ x6 ∧ x6 ≤ 127) : 0 ≤ x0 ∧ x0 ≤ 18 ∧ (x1 = 6 → 0 ≤ x5 ∧ x5 < 400) ∧ (x3 = 6 → 0 ≤ x6 ∧ x6 < 400) := by omega
theorem la_binarySet_12 {x0 x1 x2 x3 x4 : Int} (h0 : 31 ≤ x0) (h1 : x0 ≤ 90) (h2 : 0 ≤ x1) (h3 : x1 = 0 ∧ (6 ≤ x2 ∨ 6 ≤ x3) → 0 ≤ x4 ∧ x4 ≤ 180) (h4 : x1 = 0) (h5 : 6 ≤ x2 ∨ 6 ≤ x3) (h6 : x4 ≤ 60) : 0 ≤ x4 ∧ x4 ≤ 200 ∧ 31 ≤ x0 ∧ x0 ≤ 90 := by omega
theorem la_binarySet_13 {x0 : Int} (h0 : 31 ≤ x0) (h1 : x0 ≤ 90) : (0 : Int) ≤ 60 ∧ (60 : Int) ≤ 200 ∧ 31 ≤ x0 ∧ x0 ≤ 90 := by omega
set_option maxHeartbeats 2000000 in
theorem f_binarySet : ∀ (p1 : Int) (p2 : Int) (p3 : Int) (p4 : Int) (S : sv_S), sm_ok S → sv_R p1 → sv_R p2 → sv_R p3 → sv_R p4 → (29 ≤ (S 1071 0) ∧ (S 1071 0) ≤ 127 ∧ 31 ≤ (S 1008 0) ∧ (S 1008 0) ≤ 90 ∧ 1 ≤ (S 1032 0) ∧ (S 1032 0) ≤ 11 ∧ 0 ≤ (S 1055 0) ∧ (S 1055 0) ≤ 19 ∧ (S 1071 0) = 29 + 6 * ((S 1032 0) - 1) + 2 * (S 1055 0) ∧ 0 ≤ (S 1046 0) ∧ (S 1046 0) + 2 * (S 1032 0) ≤ 500 ∧ sm_PD (S 1046 0) (S 1032 0) (S 1071 0) (S 1008 0) ∧ 0 ≤ (S 1071 0) * ((S 1008 0) + 1) ∧ (S 1071 0) * ((S 1008 0) + 1) ≤ 11557 ∧ 31 ≤ (S 1007 0) ∧ (S 1007 0) ≤ 400 ∧ sm_LN (S 4) 400 (S 1007 0) ∧ 0 ≤ p1 ∧ p1 ≤ 18 ∧ 0 ≤ p2 ∧ p2 < 647800 ∧ 0 ≤ p3 ∧ p3 < 647800 ∧ 635639 ≤ p4 ∧ p4 < 647790) → (0 ≤ p4 ∧ p4 < 647800) ∧ (∀ g2 : sv_S, (635639 ≤ p4 → sm_pt (g2 68) (g2 69) (g2 70) = sm_pt (S 68) (S 69) (S 70)) → (0 ≤ p2 ∧ p2 < 647800) ∧ (∀ r12 : Int, sv_R r12 → (r12 = 0 ∨ r12 = 1) → (((r12 = (0 : Int)) → (((¬ p1 = (0 : Int)) → ((((5 : Int) ≤ p1) → ((((11 : Int) ≤ p1) → (635639 ≤ p4 ∧ p4 < 647790) ∧ (∀ g14 : sv_S, (sm_pt (g14 68) (g14 69) (g14 70) = sm_pt (g2 68) (g2 69) (g2 70)) → (sm_pt (g14 68) (g14 69) (g14 70) = sm_pt (S 68) (S 69) (S 70)))) ∧ ((¬ ((11 : Int) ≤ p1)) → (635639 ≤ p4 ∧ p4 < 647790) ∧ (∀ g20 : sv_S, (sm_pt (g20 68) (g20 69) (g20 70) = sm_pt (g2 68) (g2 69) (g2 70)) → (sm_pt (g20 68) (g20 69) (g20 70) = sm_pt (S 68) (S 69) (S 70)))))) ∧ ((¬ ((5 : Int) ≤ p1)) → (635639 ≤ p4 ∧ p4 < 647790) ∧ (∀ g26 : sv_S, (sm_pt (g26 68) (g26 69) (g26 70) = sm_pt (g2 68) (g2 69) (g2 70)) → (sm_pt (g26 68) (g26 69) (g26 70) = sm_pt (S 68) (S 69) (S 70)))))) ∧ ((¬ (¬ p1 = (0 : Int))) → (∀ r35 : Int, sv_R r35 → (r35 = (g2 68 p2) % 1024 ∧ 0 ≤ r35 ∧ r35 ≤ 1023) → (0 ≤ p3 ∧ p3 < 647800) ∧ (∀ r41 : Int, sv_R r41 → (r41 = (g2 68 p3) % 1024 ∧ 0 ≤ r41 ∧ r41 ≤ 1023) → (∀ r42 : Int, sv_R r42 → (∀ r43 : Int, (0 ≤ r43 ∧ r43 ≤ (384 : Int)) → (((¬ r43 = (0 : Int)) → (635639 ≤ p4 ∧ p4 < 647790) ∧ (∀ g45 : sv_S, (sm_pt (g45 68) (g45 69) (g45 70) = sm_pt (g2 68) (g2 69) (g2 70)) → (∀ r54 : Int, sv_R r54 → (sm_iand ((g45 68 p2) % 1024) (-513) = r54) → (∀ r55 : Int, sv_R r55 → (∀ r56 : Int, sv_R r56 → (((r56 = (0 : Int)) → (sm_pt (g45 68) (g45 69) (g45 70) = sm_pt (S 68) (S 69) (S 70))) ∧ ((¬ (r56 = (0 : Int))) → (∀ r61 : Int, sv_R r61 → (sm_iand ((g45 68 p3) % 1024) (-513) = r61) → (∀ r62 : Int, sv_R r62 → (∀ r63 : Int, sv_R r63 → (((r63 = (0 : Int)) → (sm_pt (g45 68) (g45 69) (g45 70) = sm_pt (S 68) (S 69) (S 70))) ∧ ((¬ (r63 = (0 : Int))) → (∀ g64 : sv_S, (sm_pt (g64 68) (g64 69) (g64 70) = sm_pt (g45 68) (g45 69) (g45 70)) → (sm_pt (g64 68) (g64 69) (g64 70) = sm_pt (S 68) (S 69) (S 70))))))))))))))) ∧ ((¬ (¬ r43 = (0 : Int))) → (∀ r73 : Int, sv_R r73 → (r73 = 0 ∨ r73 = 1) → (((¬ r73 = (0 : Int)) → (635639 ≤ p4 ∧ p4 < 647790) ∧ (∀ g75 : sv_S, (sm_pt (g75 68) (g75 69) (g75 70) = sm_pt (g2 68) (g2 69) (g2 70)) → (∀ r84 : Int, sv_R r84 → (sm_iand ((g75 68 p2) % 1024) (-513) = r84) → (∀ r85 : Int, sv_R r85 → (∀ r86 : Int, sv_R r86 → (((r86 = (0 : Int)) → (sm_pt (g75 68) (g75 69) (g75 70) = sm_pt (S 68) (S 69) (S 70))) ∧ ((¬ (r86 = (0 : Int))) → (∀ r91 : Int, sv_R r91 → (sm_iand ((g75 68 p3) % 1024) (-513) = r91) → (∀ r92 : Int, sv_R r92 → (∀ r93 : Int, sv_R r93 → (((r93 = (0 : Int)) → (sm_pt (g75 68) (g75 69) (g75 70) = sm_pt (S 68) (S 69) (S 70))) ∧ ((¬ (r93 = (0 : Int))) → (∀ g94 : sv_S, (sm_pt (g94 68) (g94 69) (g94 70) = sm_pt (g75 68) (g75 69) (g75 70)) → (sm_pt (g94 68) (g94 69) (g94 70) = sm_pt (S 68) (S 69) (S 70))))))))))))))) ∧ ((¬ (¬ r73 = (0 : Int))) → (∀ r103 : Int, sv_R r103 → (r103 = 0 ∨ r103 = 1) → (((r103 = (0 : Int)) → (∀ r108 : Int, sv_R r108 → (sm_iand ((g2 68 p2) % 1024) (-513) = r108) → (∀ r109 : Int, sv_R r109 → (∀ r110 : Int, sv_R r110 → (((r110 = (0 : Int)) → (sm_pt (g2 68) (g2 69) (g2 70) = sm_pt (S 68) (S 69) (S 70))) ∧ ((¬ (r110 = (0 : Int))) → (∀ r115 : Int, sv_R r115 → (sm_iand ((g2 68 p3) % 1024) (-513) = r115) → (∀ r116 : Int, sv_R r116 → (∀ r117 : Int, sv_R r117 → (((r117 = (0 : Int)) → (sm_pt (g2 68) (g2 69) (g2 70) = sm_pt (S 68) (S 69) (S 70))) ∧ ((¬ (r117 = (0 : Int))) → (635639 ≤ p4 ∧ p4 < 647790) ∧ (∀ g119 : sv_S, (sm_pt (g119 68) (g119 69) (g119 70) = sm_pt (g2 68) (g2 69) (g2 70)) → (sm_pt (g119 68) (g119 69) (g119 70) = sm_pt (S 68) (S 69) (S 70)))))))))))))) ∧ ((¬ (r103 = (0 : Int))) → (635639 ≤ p4 ∧ p4 < 647790) ∧ (∀ g125 : sv_S, (sm_pt (g125 68) (g125 69) (g125 70) = sm_pt (g2 68) (g2 69) (g2 70)) → (∀ r134 : Int, sv_R r134 → (sm_iand ((g125 68 p2) % 1024) (-513) = r134) → (∀ r135 : Int, sv_R r135 → (∀ r136 : Int, sv_R r136 → (((r136 = (0 : Int)) → (sm_pt (g125 68) (g125 69) (g125 70) = sm_pt (S 68) (S 69) (S 70))) ∧ ((¬ (r136 = (0 : Int))) → (∀ r141 : Int, sv_R r141 → (sm_iand ((g125 68 p3) % 1024) (-513) = r141) → (∀ r142 : Int, sv_R r142 → (∀ r143 : Int, sv_R r143 → (((r143 = (0 : Int)) → (sm_pt (g125 68) (g125 69) (g125 70) = sm_pt (S 68) (S 69) (S 70))) ∧ ((¬ (r143 = (0 : Int))) → (∀ g144 : sv_S, (sm_pt (g144 68) (g144 69) (g144 70) = sm_pt (g125 68) (g125 69) (g125 70)) → (sm_pt (g144 68) (g144 69) (g144 70) = sm_pt (S 68) (S 69) (S 70))))))))))))))))))))))))))))) ∧ ((¬ (r12 = (0 : Int))) → (0 ≤ p3 ∧ p3 < 647800) ∧ (∀ r154 : Int, sv_R r154 → (r154 = 0 ∨ r154 = 1) → (((r154 = (0 : Int)) → (((¬ p1 = (0 : Int)) → ((((5 : Int) ≤ p1) → ((((11 : Int) ≤ p1) → (635639 ≤ p4 ∧ p4 < 647790) ∧ (∀ g156 : sv_S, (sm_pt (g156 68) (g156 69) (g156 70) = sm_pt (g2 68) (g2 69) (g2 70)) → (sm_pt (g156 68) (g156 69) (g156 70) = sm_pt (S 68) (S 69) (S 70)))) ∧ ((¬ ((11 : Int) ≤ p1)) → (635639 ≤ p4 ∧ p4 < 647790) ∧ (∀ g162 : sv_S, (sm_pt (g162 68) (g162 69) (g162 70) = sm_pt (g2 68) (g2 69) (g2 70)) → (sm_pt (g162 68) (g162 69) (g162 70) = sm_pt (S 68) (S 69) (S 70)))))) ∧ ((¬ ((5 : Int) ≤ p1)) → (635639 ≤ p4 ∧ p4 < 647790) ∧ (∀ g168 : sv_S, (sm_pt (g168 68) (g168 69) (g168 70) = sm_pt (g2 68) (g2 69) (g2 70)) → (sm_pt (g168 68) (g168 69) (g168 70) = sm_pt (S 68) (S 69) (S 70)))))) ∧ ((¬ (¬ p1 = (0 : Int))) → (∀ r177 : Int, sv_R r177 → (r177 = (g2 68 p2) % 1024 ∧ 0 ≤ r177 ∧ r177 ≤ 1023) → (∀ r182 : Int, sv_R r182 → (r182 = (g2 68 p3) % 1024 ∧ 0 ≤ r182 ∧ r182 ≤ 1023) → (∀ r183 : Int, sv_R r183 → (∀ r184 : Int, (0 ≤ r184 ∧ r184 ≤ (384 : Int)) → (((¬ r184 = (0 : Int)) → (635639 ≤ p4 ∧ p4 < 647790) ∧ (∀ g186 : sv_S, (sm_pt (g186 68) (g186 69) (g186 70) = sm_pt (g2 68) (g2 69) (g2 70)) → (∀ r195 : Int, sv_R r195 → (sm_iand ((g186 68 p2) % 1024) (-513) = r195) → (∀ r196 : Int, sv_R r196 → (∀ r197 : Int, sv_R r197 → (((r197 = (0 : Int)) → (sm_pt (g186 68) (g186 69) (g186 70) = sm_pt (S 68) (S 69) (S 70))) ∧ ((¬ (r197 = (0 : Int))) → (∀ r202 : Int, sv_R r202 → (sm_iand ((g186 68 p3) % 1024) (-513) = r202) → (∀ r203 : Int, sv_R r203 → (∀ r204 : Int, sv_R r204 → (((r204 = (0 : Int)) → (sm_pt (g186 68) (g186 69) (g186 70) = sm_pt (S 68) (S 69) (S 70))) ∧ ((¬ (r204 = (0 : Int))) → (∀ g205 : sv_S, (sm_pt (g205 68) (g205 69) (g205 70) = sm_pt (g186 68) (g186 69) (g186 70)) → (sm_pt (g205 68) (g205 69) (g205 70) = sm_pt (S 68) (S 69) (S 70))))))))))))))) ∧ ((¬ (¬ r184 = (0 : Int))) → (∀ r214 : Int, sv_R r214 → (r214 = 0 ∨ r214 = 1) → (((¬ r214 = (0 : Int)) → (635639 ≤ p4 ∧ p4 < 647790) ∧ (∀ g216 : sv_S, (sm_pt (g216 68) (g216 69) (g216 70) = sm_pt (g2 68) (g2 69) (g2 70)) → (∀ r225 : Int, sv_R r225 → (sm_iand ((g216 68 p2) % 1024) (-513) = r225) → (∀ r226 : Int, sv_R r226 → (∀ r227 : Int, sv_R r227 → (((r227 = (0 : Int)) → (sm_pt (g216 68) (g216 69) (g216 70) = sm_pt (S 68) (S 69) (S 70))) ∧ ((¬ (r227 = (0 : Int))) → (∀ r232 : Int, sv_R r232 → (sm_iand ((g216 68 p3) % 1024) (-513) = r232) → (∀ r233 : Int, sv_R r233 → (∀ r234 : Int, sv_R r234 → (((r234 = (0 : Int)) → (sm_pt (g216 68) (g216 69) (g216 70) = sm_pt (S 68) (S 69) (S 70))) ∧ ((¬ (r234 = (0 : Int))) → (∀ g235 : sv_S, (sm_pt (g235 68) (g235 69) (g235 70) = sm_pt (g216 68) (g216 69) (g216 70)) → (sm_pt (g235 68) (g235 69) (g235 70) = sm_pt (S 68) (S 69) (S 70))))))))))))))) ∧ ((¬ (¬ r214 = (0 : Int))) → (∀ r244 : Int, sv_R r244 → (r244 = 0 ∨ r244 = 1) → (((r244 = (0 : Int)) → (∀ r249 : Int, sv_R r249 → (sm_iand ((g2 68 p2) % 1024) (-513) = r249) → (∀ r250 : Int, sv_R r250 → (∀ r251 : Int, sv_R r251 → (((r251 = (0 : Int)) → (sm_pt (g2 68) (g2 69) (g2 70) = sm_pt (S 68) (S 69) (S 70))) ∧ ((¬ (r251 = (0 : Int))) → (∀ r256 : Int, sv_R r256 → (sm_iand ((g2 68 p3) % 1024) (-513) = r256) → (∀ r257 : Int, sv_R r257 → (∀ r258 : Int, sv_R r258 → (((r258 = (0 : Int)) → (sm_pt (g2 68) (g2 69) (g2 70) = sm_pt (S 68) (S 69) (S 70))) ∧ ((¬ (r258 = (0 : Int))) → (635639 ≤ p4 ∧ p4 < 647790) ∧ (∀ g260 : sv_S, (sm_pt (g260 68) (g260 69) (g260 70) = sm_pt (g2 68) (g2 69) (g2 70)) → (sm_pt (g260 68) (g260 69) (g260 70) = sm_pt (S 68) (S 69) (S 70)))))))))))))) ∧ ((¬ (r244 = (0 : Int))) → (635639 ≤ p4 ∧ p4 < 647790) ∧ (∀ g266 : sv_S, (sm_pt (g266 68) (g266 69) (g266 70) = sm_pt (g2 68) (g2 69) (g2 70)) → (∀ r275 : Int, sv_R r275 → (sm_iand ((g266 68 p2) % 1024) (-513) = r275) → (∀ r276 : Int, sv_R r276 → (∀ r277 : Int, sv_R r277 → (((r277 = (0 : Int)) → (sm_pt (g266 68) (g266 69) (g266 70) = sm_pt (S 68) (S 69) (S 70))) ∧ ((¬ (r277 = (0 : Int))) → (∀ r282 : Int, sv_R r282 → (sm_iand ((g266 68 p3) % 1024) (-513) = r282) → (∀ r283 : Int, sv_R r283 → (∀ r284 : Int, sv_R r284 → (((r284 = (0 : Int)) → (sm_pt (g266 68) (g266 69) (g266 70) = sm_pt (S 68) (S 69) (S 70))) ∧ ((¬ (r284 = (0 : Int))) → (∀ g285 : sv_S, (sm_pt (g285 68) (g285 69) (g285 70) = sm_pt (g266 68) (g266 69) (g266 70)) → (sm_pt (g285 68) (g285 69) (g285 70) = sm_pt (S 68) (S 69) (S 70))))))))))))))))))))))))))))) ∧ ((¬ (r154 = (0 : Int))) → (∀ r294 : Int, sv_R r294 → (0 ≤ r294 ∧ r294 ≤ 6 ∧ (r294 = 6 → sm_iand ((g2 68 p2) % 1024) (-513) = 128)) → (∀ r299 : Int, sv_R r299 → (0 ≤ r299 ∧ r299 ≤ 6 ∧ (r299 = 6 → sm_iand ((g2 68 p3) % 1024) (-513) = 128)) → (∀ r304 : Int, sv_R r304 → (sm_iand ((g2 68 p2) % 1024) (-513) = 128 → 0 ≤ r304 ∧ r304 ≤ 127) → (∀ r309 : Int, sv_R r309 → (sm_iand ((g2 68 p3) % 1024) (-513) = 128 → 0 ≤ r309 ∧ r309 ≤ 127) → (31 ≤ (S 1007 0) ∧ (S 1007 0) ≤ 400 ∧ sm_LN (S 4) 400 (S 1007 0) ∧ 0 ≤ p1 ∧ p1 ≤ 18 ∧ (r294 = 6 → 0 ≤ r304 ∧ r304 < 400) ∧ (r299 = 6 → 0 ≤ r309 ∧ r309 < 400)) ∧ (∀ g311 : sv_S, ((p1 = 0 ∧ (6 ≤ r294 ∨ 6 ≤ r299) → 0 ≤ (g311 1011 0) ∧ (g311 1011 0) ≤ 180) ∧ (¬ (p1 = 0 ∧ (6 ≤ r294 ∨ 6 ≤ r299)) → 2 ≤ (g311 1111 0) ∧ (g311 1111 0) ≤ 5)) → (∀ r320 : Int, sv_R r320 → ((r320 = 0 ∨ r320 = 1) ∧ (r320 = 1 → p1 = 0 ∧ (6 ≤ r294 ∨ 6 ≤ r299)) ∧ (r320 = 0 → ¬ (p1 = 0 ∧ (6 ≤ r294 ∨ 6 ≤ r299)))) → (((r320 = (0 : Int)) → (sv_R (g311 1111 0) → (sv_R (g311 1112 0) → (635639 ≤ p4 ∧ p4 < 647790) ∧ (∀ g324 : sv_S, (sm_pt (g324 68) (g324 69) (g324 70) = sm_pt (g2 68) (g2 69) (g2 70)) → (sm_pt (g324 68) (g324 69) (g324 70) = sm_pt (S 68) (S 69) (S 70)))))) ∧ ((¬ (r320 = (0 : Int))) → (sv_R (g311 1011 0) → ((((g311 1011 0) ≤ (60 : Int)) → (31 ≤ (S 1007 0) ∧ (S 1007 0) ≤ 400 ∧ sm_LN (S 4) 400 (S 1007 0) ∧ 0 ≤ (g311 1011 0) ∧ (g311 1011 0) ≤ 200 ∧ 31 ≤ (S 1008 0) ∧ (S 1008 0) ≤ 90) ∧ (∀ r337 : Int, sv_R r337 → (-1 ≤ r337 ∧ r337 < (S 1008 0)) → (635639 ≤ p4 ∧ p4 < 647790) ∧ (∀ g339 : sv_S, (sm_pt (g339 68) (g339 69) (g339 70) = sm_pt (g2 68) (g2 69) (g2 70)) → (sm_pt (g339 68) (g339 69) (g339 70) = sm_pt (S 68) (S 69) (S 70))))) ∧ ((¬ ((g311 1011 0) ≤ (60 : Int))) → (31 ≤ (S 1007 0) ∧ (S 1007 0) ≤ 400 ∧ sm_LN (S 4) 400 (S 1007 0) ∧ 0 ≤ (60 : Int) ∧ (60 : Int) ≤ 200 ∧ 31 ≤ (S 1008 0) ∧ (S 1008 0) ≤ 90) ∧ (∀ r351 : Int, sv_R r351 → (-1 ≤ r351 ∧ r351 < (S 1008 0)) → (635639 ≤ p4 ∧ p4 < 647790) ∧ (∀ g353 : sv_S, (sm_pt (g353 68) (g353 69) (g353 70) = sm_pt (g2 68) (g2 69) (g2 70)) → (sm_pt (g353 68) (g353 69) (g353 70) = sm_pt (S 68) (S 69) (S 70)))))))))))))))))))))) := by
  intro p1
  intro p2
  intro p3
  intro p4
  intro S
  intro h1_
  intro h2_
  intro h3_
  intro h4_
  intro h5_
  rintro ⟨h6_, ⟨h7_, ⟨h8_, ⟨h9_, ⟨h10_, ⟨h11_, ⟨h12_, ⟨h13_, ⟨h14_, ⟨h15_, ⟨h16_, ⟨h17_, ⟨h18_, ⟨h19_, ⟨h20_, ⟨h21_, ⟨h22_, ⟨h23_, ⟨h24_, ⟨h25_, ⟨h26_, ⟨h27_, ⟨h28_, ⟨h29_, h30_⟩⟩⟩⟩⟩⟩⟩⟩⟩⟩⟩⟩⟩⟩⟩⟩⟩⟩⟩⟩⟩⟩⟩⟩
  refine ⟨(la_binarySet_0 h29_ h30_), ?_⟩
  intro g2
  intro h31_
  have h32_ := (h31_ h29_)
  refine ⟨(la_binarySet_1 h25_ h26_), ?_⟩
  intro r12
  intro h33_
  intro h34_
  refine ⟨?_, ?_⟩
  · skip
    intro h35_
    have h36_ := (h34_.resolve_right (la_binarySet_2 h35_))
    refine ⟨?_, ?_⟩
    · skip
      intro h37_
      refine ⟨?_, ?_⟩
      · skip
        intro h38_
        refine ⟨?_, ?_⟩
        · skip
          intro h39_
          refine ⟨(la_binarySet_4 h29_ h30_), ?_⟩
          intro g14
          intro h40_
          exact (la_binarySet_5 h32_ h40_)
        intro h41_
        refine ⟨(la_binarySet_4 h29_ h30_), ?_⟩
        intro g20
        intro h42_
        exact (la_binarySet_5 h32_ h42_)
      intro h43_
      refine ⟨(la_binarySet_4 h29_ h30_), ?_⟩
      intro g26
      intro h44_
      exact (la_binarySet_5 h32_ h44_)
    intro h45_
    intro r35
    intro h46_
    rintro ⟨h47_, ⟨h48_, h49_⟩⟩
    refine ⟨(la_binarySet_1 h27_ h28_), ?_⟩
    intro r41
    intro h50_
    rintro ⟨h51_, ⟨h52_, h53_⟩⟩
    intro r42
    intro h54_
    intro r43
    rintro ⟨h55_, h56_⟩
    refine ⟨?_, ?_⟩
    · skip
      intro h57_
      refine ⟨(la_binarySet_4 h29_ h30_), ?_⟩
      intro g45
      intro h58_
      intro r54
      intro h59_
      intro h60_
      intro r55
      intro h61_
      intro r56
      intro h62_
      refine ⟨(la_binarySet_6 h32_ h58_), ?_⟩
      intro h63_
      intro r61
      intro h64_
      intro h65_
      intro r62
      intro h66_
      intro r63
      intro h67_
      refine ⟨(la_binarySet_6 h32_ h58_), ?_⟩
      intro h68_
      intro g64
      intro h69_
      exact (la_binarySet_7 h32_ h58_ h69_)
    intro h70_
    intro r73
    intro h71_
    intro h72_
    refine ⟨?_, ?_⟩
    · skip
      intro h73_
      have h74_ := (h72_.resolve_left h73_)
      refine ⟨(la_binarySet_4 h29_ h30_), ?_⟩
      intro g75
      intro h75_
      intro r84
      intro h76_
      intro h77_
      intro r85
      intro h78_
      intro r86
      intro h79_
      refine ⟨(la_binarySet_6 h32_ h75_), ?_⟩
      intro h80_
      intro r91
      intro h81_
      intro h82_
      intro r92
      intro h83_
      intro r93
      intro h84_
      refine ⟨(la_binarySet_6 h32_ h75_), ?_⟩
      intro h85_
      intro g94
      intro h86_
      exact (la_binarySet_7 h32_ h75_ h86_)
    intro h87_
    have h88_ := (h72_.resolve_right (la_binarySet_9 h87_))
    intro r103
    intro h89_
    intro h90_
    refine ⟨?_, ?_⟩
    · skip
      intro h91_
      have h92_ := (h90_.resolve_right (la_binarySet_2 h91_))
      intro r108
      intro h93_
      intro h94_
      intro r109
      intro h95_
      intro r110
      intro h96_
      refine ⟨(la_binarySet_10 h32_), ?_⟩
      intro h97_
      intro r115
      intro h98_
      intro h99_
      intro r116
      intro h100_
      intro r117
      intro h101_
      refine ⟨(la_binarySet_10 h32_), ?_⟩
      intro h102_
      refine ⟨(la_binarySet_4 h29_ h30_), ?_⟩
      intro g119
      intro h103_
      exact (la_binarySet_5 h32_ h103_)
    intro h104_
    have h105_ := (h90_.resolve_left h104_)
    refine ⟨(la_binarySet_4 h29_ h30_), ?_⟩
    intro g125
    intro h106_
    intro r134
    intro h107_
    intro h108_
    intro r135
    intro h109_
    intro r136
    intro h110_
    refine ⟨(la_binarySet_6 h32_ h106_), ?_⟩
    intro h111_
    intro r141
    intro h112_
    intro h113_
    intro r142
    intro h114_
    intro r143
    intro h115_
    refine ⟨(la_binarySet_6 h32_ h106_), ?_⟩
    intro h116_
    intro g144
    intro h117_
    exact (la_binarySet_7 h32_ h106_ h117_)
  intro h118_
  have h119_ := (h34_.resolve_left h118_)
  refine ⟨(la_binarySet_1 h27_ h28_), ?_⟩
  intro r154
  intro h120_
  intro h121_
  refine ⟨?_, ?_⟩
  · skip
    intro h122_
    have h123_ := (h121_.resolve_right (la_binarySet_2 h122_))
    refine ⟨?_, ?_⟩
    · skip
      intro h124_
      refine ⟨?_, ?_⟩
      · skip
        intro h125_
        refine ⟨?_, ?_⟩
        · skip
          intro h126_
          refine ⟨(la_binarySet_4 h29_ h30_), ?_⟩
          intro g156
          intro h127_
          exact (la_binarySet_5 h32_ h127_)
        intro h128_
        refine ⟨(la_binarySet_4 h29_ h30_), ?_⟩
        intro g162
        intro h129_
        exact (la_binarySet_5 h32_ h129_)
      intro h130_
      refine ⟨(la_binarySet_4 h29_ h30_), ?_⟩
      intro g168
      intro h131_
      exact (la_binarySet_5 h32_ h131_)
    intro h132_
    intro r177
    intro h133_
    rintro ⟨h134_, ⟨h135_, h136_⟩⟩
    intro r182
    intro h137_
    rintro ⟨h138_, ⟨h139_, h140_⟩⟩
    intro r183
    intro h141_
    intro r184
    rintro ⟨h142_, h143_⟩
    refine ⟨?_, ?_⟩
    · skip
      intro h144_
      refine ⟨(la_binarySet_4 h29_ h30_), ?_⟩
      intro g186
      intro h145_
      intro r195
      intro h146_
      intro h147_
      intro r196
      intro h148_
      intro r197
      intro h149_
      refine ⟨(la_binarySet_6 h32_ h145_), ?_⟩
      intro h150_
      intro r202
      intro h151_
      intro h152_
      intro r203
      intro h153_
      intro r204
      intro h154_
      refine ⟨(la_binarySet_6 h32_ h145_), ?_⟩
      intro h155_
      intro g205
      intro h156_
      exact (la_binarySet_7 h32_ h145_ h156_)
    intro h157_
    intro r214
    intro h158_
    intro h159_
    refine ⟨?_, ?_⟩
    · skip
      intro h160_
      have h161_ := (h159_.resolve_left h160_)
      refine ⟨(la_binarySet_4 h29_ h30_), ?_⟩
      intro g216
      intro h162_
      intro r225
      intro h163_
      intro h164_
      intro r226
      intro h165_
      intro r227
      intro h166_
      refine ⟨(la_binarySet_6 h32_ h162_), ?_⟩
      intro h167_
      intro r232
      intro h168_
      intro h169_
      intro r233
      intro h170_
      intro r234
      intro h171_
      refine ⟨(la_binarySet_6 h32_ h162_), ?_⟩
      intro h172_
      intro g235
      intro h173_
      exact (la_binarySet_7 h32_ h162_ h173_)
    intro h174_
    have h175_ := (h159_.resolve_right (la_binarySet_9 h174_))
    intro r244
    intro h176_
    intro h177_
    refine ⟨?_, ?_⟩
    · skip
      intro h178_
      have h179_ := (h177_.resolve_right (la_binarySet_2 h178_))
      intro r249
      intro h180_
      intro h181_
      intro r250
      intro h182_
      intro r251
      intro h183_
      refine ⟨(la_binarySet_10 h32_), ?_⟩
      intro h184_
      intro r256
      intro h185_
      intro h186_
      intro r257
      intro h187_
      intro r258
      intro h188_
      refine ⟨(la_binarySet_10 h32_), ?_⟩
      intro h189_
      refine ⟨(la_binarySet_4 h29_ h30_), ?_⟩
      intro g260
      intro h190_
      exact (la_binarySet_5 h32_ h190_)
    intro h191_
    have h192_ := (h177_.resolve_left h191_)
    refine ⟨(la_binarySet_4 h29_ h30_), ?_⟩
    intro g266
    intro h193_
    intro r275
    intro h194_
    intro h195_
    intro r276
    intro h196_
    intro r277
    intro h197_
    refine ⟨(la_binarySet_6 h32_ h193_), ?_⟩
    intro h198_
    intro r282
    intro h199_
    intro h200_
    intro r283
    intro h201_
    intro r284
    intro h202_
    refine ⟨(la_binarySet_6 h32_ h193_), ?_⟩
    intro h203_
    intro g285
    intro h204_
    exact (la_binarySet_7 h32_ h193_ h204_)
  intro h205_
  have h206_ := (h121_.resolve_left h205_)
  intro r294
  intro h207_
  rintro ⟨h208_, ⟨h209_, h210_⟩⟩
  intro r299
  intro h211_
  rintro ⟨h212_, ⟨h213_, h214_⟩⟩
  intro r304
  intro h215_
  intro h216_
  intro r309
  intro h217_
  intro h218_
  refine ⟨⟨h20_, ⟨h21_, ⟨h22_, (la_binarySet_11 h23_ h24_ h210_ h214_ h216_ h218_)⟩⟩⟩, ?_⟩
  intro g311
  rintro ⟨h219_, h220_⟩
  intro r320
  intro h221_
  rintro ⟨h222_, ⟨h223_, h224_⟩⟩
  refine ⟨?_, ?_⟩
  · skip
    intro h225_
    have h226_ := (h222_.resolve_right (la_binarySet_2 h225_))
    have h227_ := (h224_ h225_)
    obtain ⟨h228_, h229_⟩ := (h220_ h227_)
    intro h230_
    intro h231_
    refine ⟨(la_binarySet_4 h29_ h30_), ?_⟩
    intro g324
    intro h232_
    exact (la_binarySet_5 h32_ h232_)
  intro h233_
  have h234_ := (h222_.resolve_left h233_)
  obtain ⟨h235_, h236_⟩ := (h223_ h234_)
  intro h237_
  refine ⟨?_, ?_⟩
  · skip
    intro h238_
    refine ⟨⟨h20_, ⟨h21_, ⟨h22_, (la_binarySet_12 h8_ h9_ h23_ h219_ h235_ h236_ h238_)⟩⟩⟩, ?_⟩
    intro r337
    intro h239_
    rintro ⟨h240_, h241_⟩
    refine ⟨(la_binarySet_4 h29_ h30_), ?_⟩
    intro g339
    intro h242_
    exact (la_binarySet_5 h32_ h242_)
  intro h243_
  refine ⟨⟨h20_, ⟨h21_, ⟨h22_, (la_binarySet_13 h8_ h9_)⟩⟩⟩, ?_⟩
  intro r351
  intro h244_
  rintro ⟨h245_, h246_⟩
  refine ⟨(la_binarySet_4 h29_ h30_), ?_⟩
  intro g353
  intro h247_
  exact (la_binarySet_5 h32_ h247_)
set_option maxRecDepth 8000 in
set_option maxHeartbeats 2000000 in
theorem t_binarySet : ∀ (p1 : Int) (p2 : Int) (p3 : Int) (p4 : Int) (S : sv_S), sm_ok S → sv_R p1 → sv_R p2 → sv_R p3 → sv_R p4 → (29 ≤ (S 1071 0) ∧ (S 1071 0) ≤ 127 ∧ 31 ≤ (S 1008 0) ∧ (S 1008 0) ≤ 90 ∧ 1 ≤ (S 1032 0) ∧ (S 1032 0) ≤ 11 ∧ 0 ≤ (S 1055 0) ∧ (S 1055 0) ≤ 19 ∧ (S 1071 0) = 29 + 6 * ((S 1032 0) - 1) + 2 * (S 1055 0) ∧ 0 ≤ (S 1046 0) ∧ (S 1046 0) + 2 * (S 1032 0) ≤ 500 ∧ sm_PD (S 1046 0) (S 1032 0) (S 1071 0) (S 1008 0) ∧ 0 ≤ (S 1071 0) * ((S 1008 0) + 1) ∧ (S 1071 0) * ((S 1008 0) + 1) ≤ 11557 ∧ 31 ≤ (S 1007 0) ∧ (S 1007 0) ≤ 400 ∧ sm_LN (S 4) 400 (S 1007 0) ∧ 0 ≤ p1 ∧ p1 ≤ 18 ∧ 0 ≤ p2 ∧ p2 < 647800 ∧ 0 ≤ p3 ∧ p3 < 647800 ∧ 635639 ≤ p4 ∧ p4 < 647790) → sv_T sm_XS sm_cs sm_L sm_sh 5 (q_binarySet p1 p2 p3 p4 S) 273 0 (lv_args 0 [.ref 0, sv_I p1, sv_I p2, sv_I p3, sv_I p4]) [] S := by
  intro p1 p2 p3 p4 S hok hp1 hp2 hp3 hp4 hpre
  have h := f_binarySet p1 p2 p3 p4 S hok hp1 hp2 hp3 hp4 hpre
  have hM := sm_h273
  show sv_T sm_XS sm_cs sm_L sm_sh 5 (q_binarySet p1 p2 p3 p4 S) 273 0 [(0, .ref 0), (1, sv_I p1), (2, sv_I p2), (3, sv_I p3), (4, sv_I p4)] [] S
  refine sv_aload_n hM dX12_binarySet_0 rfl rfl ?_
  refine sv_iload hM dX12_binarySet_1 rfl rfl ?_
  obtain ⟨o1, h⟩ := h
  refine sv_callV hM dX12_binarySet_3 sm_iv_1066 (by decide) (sm_a0 _) rfl rfl (Nat.le_of_ble_eq_true rfl) sm_h206 (Nat.le_of_ble_eq_true rfl) (Nat.le_of_ble_eq_true rfl) (F' := 0) (Nat.le_of_ble_eq_true rfl) rfl (t_empty p4 S hok hp4 o1) (fun v S1 hq => ?_)
  obtain ⟨rfl, ok3, md4, hpo5⟩ := hq
  obtain ⟨g2, rfl⟩ : ∃ g, S1 = sv_sts S [68, 69, 70] g := ⟨_, md4.eq⟩
  show sv_T sm_XS sm_cs sm_L sm_sh 5 (q_binarySet p1 p2 p3 p4 S) 273 6 [(0, .ref 0), (1, sv_I p1), (2, sv_I p2), (3, sv_I p3), (4, sv_I p4)] [] (sv_sts S [68, 69, 70] g2)
  have md6 : sv_mod [68, 69, 70, 1113, 1111, 1112, 5, 1011] S (sv_sts S [68, 69, 70] g2) := sv_mod.sts sv_mod.rf (by decide)
  have h := h g2 hpo5
  refine sv_aload_n hM dX12_binarySet_6 rfl rfl ?_
  refine sv_iload_n hM dX12_binarySet_7 rfl rfl ?_
  obtain ⟨o7, h⟩ := h
  refine sv_callV hM dX12_binarySet_8 sm_iv_1294 (by decide) (sm_a0 _) rfl rfl (Nat.le_of_ble_eq_true rfl) sm_h212 (Nat.le_of_ble_eq_true rfl) (Nat.le_of_ble_eq_true rfl) (F' := 2) (Nat.le_of_ble_eq_true rfl) rfl (t_isAlone p2 (sv_sts S [68, 69, 70] g2) ok3 hp2 o7) (fun v S1 hq => ?_)
  obtain ⟨r12, rfl, hr12, ok9, md10, hpo11⟩ := hq
  obtain rfl : (sv_sts S [68, 69, 70] g2) = S1 := (funext fun j => md10 j (by intro q; cases q)).symm
  show sv_T sm_XS sm_cs sm_L sm_sh 5 (q_binarySet p1 p2 p3 p4 S) 273 11 [(0, .ref 0), (1, sv_I p1), (2, sv_I p2), (3, sv_I p3), (4, sv_I p4)] [sv_I r12] (sv_sts S [68, 69, 70] g2)
  have h := h r12 hr12 hpo11
  refine sv_cond_eq hM dX12_binarySet_11 hr12 (t := 119) rfl rfl (fun hc => ?_) (fun hc => ?_)
  · have h := h.1 (hc)
    refine sv_iload_n hM dX12_binarySet_119 rfl rfl ?_
    refine sv_cond_ne hM dX12_binarySet_120 hp1 (t := 205) rfl rfl (fun hc => ?_) (fun hc => ?_)
    · have h := h.1 (hc)
      refine sv_aload_n hM dX12_binarySet_205 rfl rfl ?_
      refine sv_iload hM dX12_binarySet_206 rfl rfl ?_
      refine sv_iload_n hM dX12_binarySet_208 rfl rfl ?_
      refine sv_iconst (d := (5 : Int)) hM dX12_binarySet_209 rfl rfl ?_
      refine sv_icmp_ge hM dX12_binarySet_210 hp1 (⟨by decide, by decide⟩ : sv_R (5 : Int)) (t := 218) rfl rfl (fun hc => ?_) (fun hc => ?_)
      · have h := h.1 (hc)
        refine sv_iload_n hM dX12_binarySet_218 rfl rfl ?_
        refine sv_bipush (d := (11 : Int)) hM dX12_binarySet_219 rfl rfl ?_
        refine sv_icmp_ge hM dX12_binarySet_221 hp1 (⟨by decide, by decide⟩ : sv_R (11 : Int)) (t := 229) rfl rfl (fun hc => ?_) (fun hc => ?_)
        · have h := h.1 (hc)
          refine sv_bipush (d := (12 : Int)) hM dX12_binarySet_229 rfl rfl ?_
          obtain ⟨o13, h⟩ := h
          refine sv_callV hM dX12_binarySet_231 sm_iv_1072 (by decide) (sm_a0 _) rfl rfl (Nat.le_of_ble_eq_true rfl) sm_h213 (Nat.le_of_ble_eq_true rfl) (Nat.le_of_ble_eq_true rfl) (F' := 2) (Nat.le_of_ble_eq_true rfl) rfl (t_addSort p4 (12 : Int) (sv_sts S [68, 69, 70] g2) ok9 hp4 (⟨by decide, by decide⟩ : sv_R (12 : Int)) o13) (fun v S1 hq => ?_)
          obtain ⟨rfl, ok15, md16, hpo17⟩ := hq
          obtain ⟨g14, rfl⟩ : ∃ g, S1 = sv_sts (sv_sts S [68, 69, 70] g2) [68, 69, 70] g := ⟨_, md16.eq⟩
          show sv_T sm_XS sm_cs sm_L sm_sh 5 (q_binarySet p1 p2 p3 p4 S) 273 234 [(0, .ref 0), (1, sv_I p1), (2, sv_I p2), (3, sv_I p3), (4, sv_I p4)] [] (sv_sts (sv_sts S [68, 69, 70] g2) [68, 69, 70] g14)
          have md18 : sv_mod [68, 69, 70, 1113, 1111, 1112, 5, 1011] S (sv_sts (sv_sts S [68, 69, 70] g2) [68, 69, 70] g14) := sv_mod.sts md6 (by decide)
          have h := h g14 hpo17
          exact sv_vret hM dX12_binarySet_234 rfl ⟨rfl, ok15, md18, h⟩
        · have h := h.2 (hc)
          refine sv_bipush (d := (64 : Int)) hM dX12_binarySet_224 rfl rfl ?_
          refine sv_goto hM dX12_binarySet_226 (pc' := 231) rfl ?_
          obtain ⟨o19, h⟩ := h
          refine sv_callV hM dX12_binarySet_231 sm_iv_1072 (by decide) (sm_a0 _) rfl rfl (Nat.le_of_ble_eq_true rfl) sm_h213 (Nat.le_of_ble_eq_true rfl) (Nat.le_of_ble_eq_true rfl) (F' := 2) (Nat.le_of_ble_eq_true rfl) rfl (t_addSort p4 (64 : Int) (sv_sts S [68, 69, 70] g2) ok9 hp4 (⟨by decide, by decide⟩ : sv_R (64 : Int)) o19) (fun v S1 hq => ?_)
          obtain ⟨rfl, ok21, md22, hpo23⟩ := hq
          obtain ⟨g20, rfl⟩ : ∃ g, S1 = sv_sts (sv_sts S [68, 69, 70] g2) [68, 69, 70] g := ⟨_, md22.eq⟩
          show sv_T sm_XS sm_cs sm_L sm_sh 5 (q_binarySet p1 p2 p3 p4 S) 273 234 [(0, .ref 0), (1, sv_I p1), (2, sv_I p2), (3, sv_I p3), (4, sv_I p4)] [] (sv_sts (sv_sts S [68, 69, 70] g2) [68, 69, 70] g20)
          have md24 : sv_mod [68, 69, 70, 1113, 1111, 1112, 5, 1011] S (sv_sts (sv_sts S [68, 69, 70] g2) [68, 69, 70] g20) := sv_mod.sts md6 (by decide)
          have h := h g20 hpo23
          exact sv_vret hM dX12_binarySet_234 rfl ⟨rfl, ok21, md24, h⟩
      · have h := h.2 (hc)
        refine sv_bipush (d := (80 : Int)) hM dX12_binarySet_213 rfl rfl ?_
        refine sv_goto hM dX12_binarySet_215 (pc' := 231) rfl ?_
        obtain ⟨o25, h⟩ := h
        refine sv_callV hM dX12_binarySet_231 sm_iv_1072 (by decide) (sm_a0 _) rfl rfl (Nat.le_of_ble_eq_true rfl) sm_h213 (Nat.le_of_ble_eq_true rfl) (Nat.le_of_ble_eq_true rfl) (F' := 2) (Nat.le_of_ble_eq_true rfl) rfl (t_addSort p4 (80 : Int) (sv_sts S [68, 69, 70] g2) ok9 hp4 (⟨by decide, by decide⟩ : sv_R (80 : Int)) o25) (fun v S1 hq => ?_)
        obtain ⟨rfl, ok27, md28, hpo29⟩ := hq
        obtain ⟨g26, rfl⟩ : ∃ g, S1 = sv_sts (sv_sts S [68, 69, 70] g2) [68, 69, 70] g := ⟨_, md28.eq⟩
        show sv_T sm_XS sm_cs sm_L sm_sh 5 (q_binarySet p1 p2 p3 p4 S) 273 234 [(0, .ref 0), (1, sv_I p1), (2, sv_I p2), (3, sv_I p3), (4, sv_I p4)] [] (sv_sts (sv_sts S [68, 69, 70] g2) [68, 69, 70] g26)
        have md30 : sv_mod [68, 69, 70, 1113, 1111, 1112, 5, 1011] S (sv_sts (sv_sts S [68, 69, 70] g2) [68, 69, 70] g26) := sv_mod.sts md6 (by decide)
        have h := h g26 hpo29
        exact sv_vret hM dX12_binarySet_234 rfl ⟨rfl, ok27, md30, h⟩
    · have h := h.2 (hc)
      refine sv_sipush (d := (384 : Int)) hM dX12_binarySet_123 rfl rfl ?_
      refine sv_istore hM dX12_binarySet_126 (by decide) rfl ?_
      show sv_T sm_XS sm_cs sm_L sm_sh 5 (q_binarySet p1 p2 p3 p4 S) 273 128 [(0, .ref 0), (1, sv_I p1), (2, sv_I p2), (3, sv_I p3), (4, sv_I p4), (5, sv_I (384 : Int))] [] (sv_sts S [68, 69, 70] g2)
      refine sv_aload_n hM dX12_binarySet_128 rfl rfl ?_
      refine sv_iload_n hM dX12_binarySet_129 rfl rfl ?_
      refine sv_callV hM dX12_binarySet_130 sm_iv_1047 (by decide) (sm_a0 _) rfl rfl (Nat.le_of_ble_eq_true rfl) sm_h202 (Nat.le_of_ble_eq_true rfl) (Nat.le_of_ble_eq_true rfl) (F' := 0) (Nat.le_of_ble_eq_true rfl) rfl (t_has p2 (sv_sts S [68, 69, 70] g2) ok9 hp2 o7) (fun v S1 hq => ?_)
      obtain ⟨r35, rfl, hr35, ok32, md33, hpo34⟩ := hq
      obtain rfl : (sv_sts S [68, 69, 70] g2) = S1 := (funext fun j => md33 j (by intro q; cases q)).symm
      show sv_T sm_XS sm_cs sm_L sm_sh 5 (q_binarySet p1 p2 p3 p4 S) 273 133 [(0, .ref 0), (1, sv_I p1), (2, sv_I p2), (3, sv_I p3), (4, sv_I p4), (5, sv_I (384 : Int))] [sv_I r35] (sv_sts S [68, 69, 70] g2)
      have h := h r35 hr35 hpo34
      refine sv_aload_n hM dX12_binarySet_133 rfl rfl ?_
      refine sv_iload_n hM dX12_binarySet_134 rfl rfl ?_
      obtain ⟨o36, h⟩ := h
      refine sv_callV hM dX12_binarySet_135 sm_iv_1047 (by decide) (sm_a0 _) rfl rfl (Nat.le_of_ble_eq_true rfl) sm_h202 (Nat.le_of_ble_eq_true rfl) (Nat.le_of_ble_eq_true rfl) (F' := 0) (Nat.le_of_ble_eq_true rfl) rfl (t_has p3 (sv_sts S [68, 69, 70] g2) ok32 hp3 o36) (fun v S1 hq => ?_)
      obtain ⟨r41, rfl, hr41, ok38, md39, hpo40⟩ := hq
      obtain rfl : (sv_sts S [68, 69, 70] g2) = S1 := (funext fun j => md39 j (by intro q; cases q)).symm
      show sv_T sm_XS sm_cs sm_L sm_sh 5 (q_binarySet p1 p2 p3 p4 S) 273 138 [(0, .ref 0), (1, sv_I p1), (2, sv_I p2), (3, sv_I p3), (4, sv_I p4), (5, sv_I (384 : Int))] [sv_I r41, sv_I r35] (sv_sts S [68, 69, 70] g2)
      have h := h r41 hr41 hpo40
      refine sv_anyI hM dX12_binarySet_138 rfl rfl (fun r42 hr42 _ => ?_)
      have h := h r42 hr42
      refine sv_iload hM dX12_binarySet_139 rfl rfl ?_
      refine sv_iand hM dX12_binarySet_141 ⟨by decide, by decide⟩ rfl (fun r43 hr43 => ?_)
      have h := h r43 hr43
      refine sv_cond_ne hM dX12_binarySet_142 (⟨by omega, by omega⟩ : sv_R r43) (t := 161) rfl rfl (fun hc => ?_) (fun hc => ?_)
      · have h := h.1 (hc)
        refine sv_aload_n hM dX12_binarySet_161 rfl rfl ?_
        refine sv_iload hM dX12_binarySet_162 rfl rfl ?_
        refine sv_iconst (d := (-1 : Int)) hM dX12_binarySet_164 rfl rfl ?_
        obtain ⟨o44, h⟩ := h
        refine sv_callV hM dX12_binarySet_165 sm_iv_1078 (by decide) (sm_a0 _) rfl rfl (Nat.le_of_ble_eq_true rfl) sm_h215 (Nat.le_of_ble_eq_true rfl) (Nat.le_of_ble_eq_true rfl) (F' := 2) (Nat.le_of_ble_eq_true rfl) rfl (t_addString p4 (-1 : Int) (sv_sts S [68, 69, 70] g2) ok38 hp4 (⟨by decide, by decide⟩ : sv_R (-1 : Int)) o44) (fun v S1 hq => ?_)
        obtain ⟨rfl, ok46, md47, hpo48⟩ := hq
        obtain ⟨g45, rfl⟩ : ∃ g, S1 = sv_sts (sv_sts S [68, 69, 70] g2) [68, 69, 70] g := ⟨_, md47.eq⟩
        show sv_T sm_XS sm_cs sm_L sm_sh 5 (q_binarySet p1 p2 p3 p4 S) 273 168 [(0, .ref 0), (1, sv_I p1), (2, sv_I p2), (3, sv_I p3), (4, sv_I p4), (5, sv_I (384 : Int))] [] (sv_sts (sv_sts S [68, 69, 70] g2) [68, 69, 70] g45)
        have md49 : sv_mod [68, 69, 70, 1113, 1111, 1112, 5, 1011] S (sv_sts (sv_sts S [68, 69, 70] g2) [68, 69, 70] g45) := sv_mod.sts md6 (by decide)
        have h := h g45 hpo48
        refine sv_aload_n hM dX12_binarySet_168 rfl rfl ?_
        refine sv_iload_n hM dX12_binarySet_169 rfl rfl ?_
        refine sv_callV hM dX12_binarySet_170 sm_iv_1059 (by decide) (sm_a0 _) rfl rfl (Nat.le_of_ble_eq_true rfl) sm_h210 (Nat.le_of_ble_eq_true rfl) (Nat.le_of_ble_eq_true rfl) (F' := 1) (Nat.le_of_ble_eq_true rfl) rfl (t_plainly p2 (sv_sts (sv_sts S [68, 69, 70] g2) [68, 69, 70] g45) ok46 hp2 o7) (fun v S1 hq => ?_)
        obtain ⟨r54, rfl, hr54, ok51, md52, hpo53⟩ := hq
        obtain rfl : (sv_sts (sv_sts S [68, 69, 70] g2) [68, 69, 70] g45) = S1 := (funext fun j => md52 j (by intro q; cases q)).symm
        show sv_T sm_XS sm_cs sm_L sm_sh 5 (q_binarySet p1 p2 p3 p4 S) 273 173 [(0, .ref 0), (1, sv_I p1), (2, sv_I p2), (3, sv_I p3), (4, sv_I p4), (5, sv_I (384 : Int))] [sv_I r54] (sv_sts (sv_sts S [68, 69, 70] g2) [68, 69, 70] g45)
        have h := h r54 hr54 hpo53
        refine sv_iload hM dX12_binarySet_173 rfl rfl ?_
        refine sv_iconst (d := (-1 : Int)) hM dX12_binarySet_175 rfl rfl ?_
        refine sv_anyI hM dX12_binarySet_176 rfl rfl (fun r55 hr55 _ => ?_)
        have h := h r55 hr55
        refine sv_anyI hM dX12_binarySet_177 rfl rfl (fun r56 hr56 _ => ?_)
        have h := h r56 hr56
        refine sv_cond_eq hM dX12_binarySet_178 hr56 (t := 202) rfl rfl (fun hc => ?_) (fun hc => ?_)
        · have h := h.1 (hc)
          refine sv_goto hM dX12_binarySet_202 (pc' := 234) rfl ?_
          exact sv_vret hM dX12_binarySet_234 rfl ⟨rfl, ok51, md49, h⟩
        · have h := h.2 (hc)
          refine sv_aload_n hM dX12_binarySet_181 rfl rfl ?_
          refine sv_iload_n hM dX12_binarySet_182 rfl rfl ?_
          refine sv_callV hM dX12_binarySet_183 sm_iv_1059 (by decide) (sm_a0 _) rfl rfl (Nat.le_of_ble_eq_true rfl) sm_h210 (Nat.le_of_ble_eq_true rfl) (Nat.le_of_ble_eq_true rfl) (F' := 1) (Nat.le_of_ble_eq_true rfl) rfl (t_plainly p3 (sv_sts (sv_sts S [68, 69, 70] g2) [68, 69, 70] g45) ok51 hp3 o36) (fun v S1 hq => ?_)
          obtain ⟨r61, rfl, hr61, ok58, md59, hpo60⟩ := hq
          obtain rfl : (sv_sts (sv_sts S [68, 69, 70] g2) [68, 69, 70] g45) = S1 := (funext fun j => md59 j (by intro q; cases q)).symm
          show sv_T sm_XS sm_cs sm_L sm_sh 5 (q_binarySet p1 p2 p3 p4 S) 273 186 [(0, .ref 0), (1, sv_I p1), (2, sv_I p2), (3, sv_I p3), (4, sv_I p4), (5, sv_I (384 : Int))] [sv_I r61] (sv_sts (sv_sts S [68, 69, 70] g2) [68, 69, 70] g45)
          have h := h r61 hr61 hpo60
          refine sv_iload hM dX12_binarySet_186 rfl rfl ?_
          refine sv_iconst (d := (-1 : Int)) hM dX12_binarySet_188 rfl rfl ?_
          refine sv_anyI hM dX12_binarySet_189 rfl rfl (fun r62 hr62 _ => ?_)
          have h := h r62 hr62
          refine sv_anyI hM dX12_binarySet_190 rfl rfl (fun r63 hr63 _ => ?_)
          have h := h r63 hr63
          refine sv_cond_eq hM dX12_binarySet_191 hr63 (t := 202) rfl rfl (fun hc => ?_) (fun hc => ?_)
          · have h := h.1 (hc)
            refine sv_goto hM dX12_binarySet_202 (pc' := 234) rfl ?_
            exact sv_vret hM dX12_binarySet_234 rfl ⟨rfl, ok58, md49, h⟩
          · have h := h.2 (hc)
            refine sv_aload_n hM dX12_binarySet_194 rfl rfl ?_
            refine sv_iload hM dX12_binarySet_195 rfl rfl ?_
            refine sv_bipush (d := (80 : Int)) hM dX12_binarySet_197 rfl rfl ?_
            refine sv_callV hM dX12_binarySet_199 sm_iv_1072 (by decide) (sm_a0 _) rfl rfl (Nat.le_of_ble_eq_true rfl) sm_h213 (Nat.le_of_ble_eq_true rfl) (Nat.le_of_ble_eq_true rfl) (F' := 2) (Nat.le_of_ble_eq_true rfl) rfl (t_addSort p4 (80 : Int) (sv_sts (sv_sts S [68, 69, 70] g2) [68, 69, 70] g45) ok58 hp4 (⟨by decide, by decide⟩ : sv_R (80 : Int)) o44) (fun v S1 hq => ?_)
            obtain ⟨rfl, ok65, md66, hpo67⟩ := hq
            obtain ⟨g64, rfl⟩ : ∃ g, S1 = sv_sts (sv_sts (sv_sts S [68, 69, 70] g2) [68, 69, 70] g45) [68, 69, 70] g := ⟨_, md66.eq⟩
            show sv_T sm_XS sm_cs sm_L sm_sh 5 (q_binarySet p1 p2 p3 p4 S) 273 202 [(0, .ref 0), (1, sv_I p1), (2, sv_I p2), (3, sv_I p3), (4, sv_I p4), (5, sv_I (384 : Int))] [] (sv_sts (sv_sts (sv_sts S [68, 69, 70] g2) [68, 69, 70] g45) [68, 69, 70] g64)
            have md68 : sv_mod [68, 69, 70, 1113, 1111, 1112, 5, 1011] S (sv_sts (sv_sts (sv_sts S [68, 69, 70] g2) [68, 69, 70] g45) [68, 69, 70] g64) := sv_mod.sts md49 (by decide)
            have h := h g64 hpo67
            refine sv_goto hM dX12_binarySet_202 (pc' := 234) rfl ?_
            exact sv_vret hM dX12_binarySet_234 rfl ⟨rfl, ok65, md68, h⟩
      · have h := h.2 (hc)
        refine sv_aload_n hM dX12_binarySet_145 rfl rfl ?_
        refine sv_iload_n hM dX12_binarySet_146 rfl rfl ?_
        refine sv_callV hM dX12_binarySet_147 sm_iv_1062 (by decide) (sm_a0 _) rfl rfl (Nat.le_of_ble_eq_true rfl) sm_h209 (Nat.le_of_ble_eq_true rfl) (Nat.le_of_ble_eq_true rfl) (F' := 0) (Nat.le_of_ble_eq_true rfl) rfl (t_hasLabels p2 (sv_sts S [68, 69, 70] g2) ok38 hp2 o7) (fun v S1 hq => ?_)
        obtain ⟨r73, rfl, hr73, ok70, md71, hpo72⟩ := hq
        obtain rfl : (sv_sts S [68, 69, 70] g2) = S1 := (funext fun j => md71 j (by intro q; cases q)).symm
        show sv_T sm_XS sm_cs sm_L sm_sh 5 (q_binarySet p1 p2 p3 p4 S) 273 150 [(0, .ref 0), (1, sv_I p1), (2, sv_I p2), (3, sv_I p3), (4, sv_I p4), (5, sv_I (384 : Int))] [sv_I r73] (sv_sts S [68, 69, 70] g2)
        have h := h r73 hr73 hpo72
        refine sv_cond_ne hM dX12_binarySet_150 hr73 (t := 161) rfl rfl (fun hc => ?_) (fun hc => ?_)
        · have h := h.1 (hc)
          refine sv_aload_n hM dX12_binarySet_161 rfl rfl ?_
          refine sv_iload hM dX12_binarySet_162 rfl rfl ?_
          refine sv_iconst (d := (-1 : Int)) hM dX12_binarySet_164 rfl rfl ?_
          obtain ⟨o74, h⟩ := h
          refine sv_callV hM dX12_binarySet_165 sm_iv_1078 (by decide) (sm_a0 _) rfl rfl (Nat.le_of_ble_eq_true rfl) sm_h215 (Nat.le_of_ble_eq_true rfl) (Nat.le_of_ble_eq_true rfl) (F' := 2) (Nat.le_of_ble_eq_true rfl) rfl (t_addString p4 (-1 : Int) (sv_sts S [68, 69, 70] g2) ok70 hp4 (⟨by decide, by decide⟩ : sv_R (-1 : Int)) o74) (fun v S1 hq => ?_)
          obtain ⟨rfl, ok76, md77, hpo78⟩ := hq
          obtain ⟨g75, rfl⟩ : ∃ g, S1 = sv_sts (sv_sts S [68, 69, 70] g2) [68, 69, 70] g := ⟨_, md77.eq⟩
          show sv_T sm_XS sm_cs sm_L sm_sh 5 (q_binarySet p1 p2 p3 p4 S) 273 168 [(0, .ref 0), (1, sv_I p1), (2, sv_I p2), (3, sv_I p3), (4, sv_I p4), (5, sv_I (384 : Int))] [] (sv_sts (sv_sts S [68, 69, 70] g2) [68, 69, 70] g75)
          have md79 : sv_mod [68, 69, 70, 1113, 1111, 1112, 5, 1011] S (sv_sts (sv_sts S [68, 69, 70] g2) [68, 69, 70] g75) := sv_mod.sts md6 (by decide)
          have h := h g75 hpo78
          refine sv_aload_n hM dX12_binarySet_168 rfl rfl ?_
          refine sv_iload_n hM dX12_binarySet_169 rfl rfl ?_
          refine sv_callV hM dX12_binarySet_170 sm_iv_1059 (by decide) (sm_a0 _) rfl rfl (Nat.le_of_ble_eq_true rfl) sm_h210 (Nat.le_of_ble_eq_true rfl) (Nat.le_of_ble_eq_true rfl) (F' := 1) (Nat.le_of_ble_eq_true rfl) rfl (t_plainly p2 (sv_sts (sv_sts S [68, 69, 70] g2) [68, 69, 70] g75) ok76 hp2 o7) (fun v S1 hq => ?_)
          obtain ⟨r84, rfl, hr84, ok81, md82, hpo83⟩ := hq
          obtain rfl : (sv_sts (sv_sts S [68, 69, 70] g2) [68, 69, 70] g75) = S1 := (funext fun j => md82 j (by intro q; cases q)).symm
          show sv_T sm_XS sm_cs sm_L sm_sh 5 (q_binarySet p1 p2 p3 p4 S) 273 173 [(0, .ref 0), (1, sv_I p1), (2, sv_I p2), (3, sv_I p3), (4, sv_I p4), (5, sv_I (384 : Int))] [sv_I r84] (sv_sts (sv_sts S [68, 69, 70] g2) [68, 69, 70] g75)
          have h := h r84 hr84 hpo83
          refine sv_iload hM dX12_binarySet_173 rfl rfl ?_
          refine sv_iconst (d := (-1 : Int)) hM dX12_binarySet_175 rfl rfl ?_
          refine sv_anyI hM dX12_binarySet_176 rfl rfl (fun r85 hr85 _ => ?_)
          have h := h r85 hr85
          refine sv_anyI hM dX12_binarySet_177 rfl rfl (fun r86 hr86 _ => ?_)
          have h := h r86 hr86
          refine sv_cond_eq hM dX12_binarySet_178 hr86 (t := 202) rfl rfl (fun hc => ?_) (fun hc => ?_)
          · have h := h.1 (hc)
            refine sv_goto hM dX12_binarySet_202 (pc' := 234) rfl ?_
            exact sv_vret hM dX12_binarySet_234 rfl ⟨rfl, ok81, md79, h⟩
          · have h := h.2 (hc)
            refine sv_aload_n hM dX12_binarySet_181 rfl rfl ?_
            refine sv_iload_n hM dX12_binarySet_182 rfl rfl ?_
            refine sv_callV hM dX12_binarySet_183 sm_iv_1059 (by decide) (sm_a0 _) rfl rfl (Nat.le_of_ble_eq_true rfl) sm_h210 (Nat.le_of_ble_eq_true rfl) (Nat.le_of_ble_eq_true rfl) (F' := 1) (Nat.le_of_ble_eq_true rfl) rfl (t_plainly p3 (sv_sts (sv_sts S [68, 69, 70] g2) [68, 69, 70] g75) ok81 hp3 o36) (fun v S1 hq => ?_)
            obtain ⟨r91, rfl, hr91, ok88, md89, hpo90⟩ := hq
            obtain rfl : (sv_sts (sv_sts S [68, 69, 70] g2) [68, 69, 70] g75) = S1 := (funext fun j => md89 j (by intro q; cases q)).symm
            show sv_T sm_XS sm_cs sm_L sm_sh 5 (q_binarySet p1 p2 p3 p4 S) 273 186 [(0, .ref 0), (1, sv_I p1), (2, sv_I p2), (3, sv_I p3), (4, sv_I p4), (5, sv_I (384 : Int))] [sv_I r91] (sv_sts (sv_sts S [68, 69, 70] g2) [68, 69, 70] g75)
            have h := h r91 hr91 hpo90
            refine sv_iload hM dX12_binarySet_186 rfl rfl ?_
            refine sv_iconst (d := (-1 : Int)) hM dX12_binarySet_188 rfl rfl ?_
            refine sv_anyI hM dX12_binarySet_189 rfl rfl (fun r92 hr92 _ => ?_)
            have h := h r92 hr92
            refine sv_anyI hM dX12_binarySet_190 rfl rfl (fun r93 hr93 _ => ?_)
            have h := h r93 hr93
            refine sv_cond_eq hM dX12_binarySet_191 hr93 (t := 202) rfl rfl (fun hc => ?_) (fun hc => ?_)
            · have h := h.1 (hc)
              refine sv_goto hM dX12_binarySet_202 (pc' := 234) rfl ?_
              exact sv_vret hM dX12_binarySet_234 rfl ⟨rfl, ok88, md79, h⟩
            · have h := h.2 (hc)
              refine sv_aload_n hM dX12_binarySet_194 rfl rfl ?_
              refine sv_iload hM dX12_binarySet_195 rfl rfl ?_
              refine sv_bipush (d := (80 : Int)) hM dX12_binarySet_197 rfl rfl ?_
              refine sv_callV hM dX12_binarySet_199 sm_iv_1072 (by decide) (sm_a0 _) rfl rfl (Nat.le_of_ble_eq_true rfl) sm_h213 (Nat.le_of_ble_eq_true rfl) (Nat.le_of_ble_eq_true rfl) (F' := 2) (Nat.le_of_ble_eq_true rfl) rfl (t_addSort p4 (80 : Int) (sv_sts (sv_sts S [68, 69, 70] g2) [68, 69, 70] g75) ok88 hp4 (⟨by decide, by decide⟩ : sv_R (80 : Int)) o74) (fun v S1 hq => ?_)
              obtain ⟨rfl, ok95, md96, hpo97⟩ := hq
              obtain ⟨g94, rfl⟩ : ∃ g, S1 = sv_sts (sv_sts (sv_sts S [68, 69, 70] g2) [68, 69, 70] g75) [68, 69, 70] g := ⟨_, md96.eq⟩
              show sv_T sm_XS sm_cs sm_L sm_sh 5 (q_binarySet p1 p2 p3 p4 S) 273 202 [(0, .ref 0), (1, sv_I p1), (2, sv_I p2), (3, sv_I p3), (4, sv_I p4), (5, sv_I (384 : Int))] [] (sv_sts (sv_sts (sv_sts S [68, 69, 70] g2) [68, 69, 70] g75) [68, 69, 70] g94)
              have md98 : sv_mod [68, 69, 70, 1113, 1111, 1112, 5, 1011] S (sv_sts (sv_sts (sv_sts S [68, 69, 70] g2) [68, 69, 70] g75) [68, 69, 70] g94) := sv_mod.sts md79 (by decide)
              have h := h g94 hpo97
              refine sv_goto hM dX12_binarySet_202 (pc' := 234) rfl ?_
              exact sv_vret hM dX12_binarySet_234 rfl ⟨rfl, ok95, md98, h⟩
        · have h := h.2 (hc)
          refine sv_aload_n hM dX12_binarySet_153 rfl rfl ?_
          refine sv_iload_n hM dX12_binarySet_154 rfl rfl ?_
          refine sv_callV hM dX12_binarySet_155 sm_iv_1062 (by decide) (sm_a0 _) rfl rfl (Nat.le_of_ble_eq_true rfl) sm_h209 (Nat.le_of_ble_eq_true rfl) (Nat.le_of_ble_eq_true rfl) (F' := 0) (Nat.le_of_ble_eq_true rfl) rfl (t_hasLabels p3 (sv_sts S [68, 69, 70] g2) ok70 hp3 o36) (fun v S1 hq => ?_)
          obtain ⟨r103, rfl, hr103, ok100, md101, hpo102⟩ := hq
          obtain rfl : (sv_sts S [68, 69, 70] g2) = S1 := (funext fun j => md101 j (by intro q; cases q)).symm
          show sv_T sm_XS sm_cs sm_L sm_sh 5 (q_binarySet p1 p2 p3 p4 S) 273 158 [(0, .ref 0), (1, sv_I p1), (2, sv_I p2), (3, sv_I p3), (4, sv_I p4), (5, sv_I (384 : Int))] [sv_I r103] (sv_sts S [68, 69, 70] g2)
          have h := h r103 hr103 hpo102
          refine sv_cond_eq hM dX12_binarySet_158 hr103 (t := 168) rfl rfl (fun hc => ?_) (fun hc => ?_)
          · have h := h.1 (hc)
            refine sv_aload_n hM dX12_binarySet_168 rfl rfl ?_
            refine sv_iload_n hM dX12_binarySet_169 rfl rfl ?_
            refine sv_callV hM dX12_binarySet_170 sm_iv_1059 (by decide) (sm_a0 _) rfl rfl (Nat.le_of_ble_eq_true rfl) sm_h210 (Nat.le_of_ble_eq_true rfl) (Nat.le_of_ble_eq_true rfl) (F' := 1) (Nat.le_of_ble_eq_true rfl) rfl (t_plainly p2 (sv_sts S [68, 69, 70] g2) ok100 hp2 o7) (fun v S1 hq => ?_)
            obtain ⟨r108, rfl, hr108, ok105, md106, hpo107⟩ := hq
            obtain rfl : (sv_sts S [68, 69, 70] g2) = S1 := (funext fun j => md106 j (by intro q; cases q)).symm
            show sv_T sm_XS sm_cs sm_L sm_sh 5 (q_binarySet p1 p2 p3 p4 S) 273 173 [(0, .ref 0), (1, sv_I p1), (2, sv_I p2), (3, sv_I p3), (4, sv_I p4), (5, sv_I (384 : Int))] [sv_I r108] (sv_sts S [68, 69, 70] g2)
            have h := h r108 hr108 hpo107
            refine sv_iload hM dX12_binarySet_173 rfl rfl ?_
            refine sv_iconst (d := (-1 : Int)) hM dX12_binarySet_175 rfl rfl ?_
            refine sv_anyI hM dX12_binarySet_176 rfl rfl (fun r109 hr109 _ => ?_)
            have h := h r109 hr109
            refine sv_anyI hM dX12_binarySet_177 rfl rfl (fun r110 hr110 _ => ?_)
            have h := h r110 hr110
            refine sv_cond_eq hM dX12_binarySet_178 hr110 (t := 202) rfl rfl (fun hc => ?_) (fun hc => ?_)
            · have h := h.1 (hc)
              refine sv_goto hM dX12_binarySet_202 (pc' := 234) rfl ?_
              exact sv_vret hM dX12_binarySet_234 rfl ⟨rfl, ok105, md6, h⟩
            · have h := h.2 (hc)
              refine sv_aload_n hM dX12_binarySet_181 rfl rfl ?_
              refine sv_iload_n hM dX12_binarySet_182 rfl rfl ?_
              refine sv_callV hM dX12_binarySet_183 sm_iv_1059 (by decide) (sm_a0 _) rfl rfl (Nat.le_of_ble_eq_true rfl) sm_h210 (Nat.le_of_ble_eq_true rfl) (Nat.le_of_ble_eq_true rfl) (F' := 1) (Nat.le_of_ble_eq_true rfl) rfl (t_plainly p3 (sv_sts S [68, 69, 70] g2) ok105 hp3 o36) (fun v S1 hq => ?_)
              obtain ⟨r115, rfl, hr115, ok112, md113, hpo114⟩ := hq
              obtain rfl : (sv_sts S [68, 69, 70] g2) = S1 := (funext fun j => md113 j (by intro q; cases q)).symm
              show sv_T sm_XS sm_cs sm_L sm_sh 5 (q_binarySet p1 p2 p3 p4 S) 273 186 [(0, .ref 0), (1, sv_I p1), (2, sv_I p2), (3, sv_I p3), (4, sv_I p4), (5, sv_I (384 : Int))] [sv_I r115] (sv_sts S [68, 69, 70] g2)
              have h := h r115 hr115 hpo114
              refine sv_iload hM dX12_binarySet_186 rfl rfl ?_
              refine sv_iconst (d := (-1 : Int)) hM dX12_binarySet_188 rfl rfl ?_
              refine sv_anyI hM dX12_binarySet_189 rfl rfl (fun r116 hr116 _ => ?_)
              have h := h r116 hr116
              refine sv_anyI hM dX12_binarySet_190 rfl rfl (fun r117 hr117 _ => ?_)
              have h := h r117 hr117
              refine sv_cond_eq hM dX12_binarySet_191 hr117 (t := 202) rfl rfl (fun hc => ?_) (fun hc => ?_)
              · have h := h.1 (hc)
                refine sv_goto hM dX12_binarySet_202 (pc' := 234) rfl ?_
                exact sv_vret hM dX12_binarySet_234 rfl ⟨rfl, ok112, md6, h⟩
              · have h := h.2 (hc)
                refine sv_aload_n hM dX12_binarySet_194 rfl rfl ?_
                refine sv_iload hM dX12_binarySet_195 rfl rfl ?_
                refine sv_bipush (d := (80 : Int)) hM dX12_binarySet_197 rfl rfl ?_
                obtain ⟨o118, h⟩ := h
                refine sv_callV hM dX12_binarySet_199 sm_iv_1072 (by decide) (sm_a0 _) rfl rfl (Nat.le_of_ble_eq_true rfl) sm_h213 (Nat.le_of_ble_eq_true rfl) (Nat.le_of_ble_eq_true rfl) (F' := 2) (Nat.le_of_ble_eq_true rfl) rfl (t_addSort p4 (80 : Int) (sv_sts S [68, 69, 70] g2) ok112 hp4 (⟨by decide, by decide⟩ : sv_R (80 : Int)) o118) (fun v S1 hq => ?_)
                obtain ⟨rfl, ok120, md121, hpo122⟩ := hq
                obtain ⟨g119, rfl⟩ : ∃ g, S1 = sv_sts (sv_sts S [68, 69, 70] g2) [68, 69, 70] g := ⟨_, md121.eq⟩
                show sv_T sm_XS sm_cs sm_L sm_sh 5 (q_binarySet p1 p2 p3 p4 S) 273 202 [(0, .ref 0), (1, sv_I p1), (2, sv_I p2), (3, sv_I p3), (4, sv_I p4), (5, sv_I (384 : Int))] [] (sv_sts (sv_sts S [68, 69, 70] g2) [68, 69, 70] g119)
                have md123 : sv_mod [68, 69, 70, 1113, 1111, 1112, 5, 1011] S (sv_sts (sv_sts S [68, 69, 70] g2) [68, 69, 70] g119) := sv_mod.sts md6 (by decide)
                have h := h g119 hpo122
                refine sv_goto hM dX12_binarySet_202 (pc' := 234) rfl ?_
                exact sv_vret hM dX12_binarySet_234 rfl ⟨rfl, ok120, md123, h⟩
          · have h := h.2 (hc)
            refine sv_aload_n hM dX12_binarySet_161 rfl rfl ?_
            refine sv_iload hM dX12_binarySet_162 rfl rfl ?_
            refine sv_iconst (d := (-1 : Int)) hM dX12_binarySet_164 rfl rfl ?_
            obtain ⟨o124, h⟩ := h
            refine sv_callV hM dX12_binarySet_165 sm_iv_1078 (by decide) (sm_a0 _) rfl rfl (Nat.le_of_ble_eq_true rfl) sm_h215 (Nat.le_of_ble_eq_true rfl) (Nat.le_of_ble_eq_true rfl) (F' := 2) (Nat.le_of_ble_eq_true rfl) rfl (t_addString p4 (-1 : Int) (sv_sts S [68, 69, 70] g2) ok100 hp4 (⟨by decide, by decide⟩ : sv_R (-1 : Int)) o124) (fun v S1 hq => ?_)
            obtain ⟨rfl, ok126, md127, hpo128⟩ := hq
            obtain ⟨g125, rfl⟩ : ∃ g, S1 = sv_sts (sv_sts S [68, 69, 70] g2) [68, 69, 70] g := ⟨_, md127.eq⟩
            show sv_T sm_XS sm_cs sm_L sm_sh 5 (q_binarySet p1 p2 p3 p4 S) 273 168 [(0, .ref 0), (1, sv_I p1), (2, sv_I p2), (3, sv_I p3), (4, sv_I p4), (5, sv_I (384 : Int))] [] (sv_sts (sv_sts S [68, 69, 70] g2) [68, 69, 70] g125)
            have md129 : sv_mod [68, 69, 70, 1113, 1111, 1112, 5, 1011] S (sv_sts (sv_sts S [68, 69, 70] g2) [68, 69, 70] g125) := sv_mod.sts md6 (by decide)
            have h := h g125 hpo128
            refine sv_aload_n hM dX12_binarySet_168 rfl rfl ?_
            refine sv_iload_n hM dX12_binarySet_169 rfl rfl ?_
            refine sv_callV hM dX12_binarySet_170 sm_iv_1059 (by decide) (sm_a0 _) rfl rfl (Nat.le_of_ble_eq_true rfl) sm_h210 (Nat.le_of_ble_eq_true rfl) (Nat.le_of_ble_eq_true rfl) (F' := 1) (Nat.le_of_ble_eq_true rfl) rfl (t_plainly p2 (sv_sts (sv_sts S [68, 69, 70] g2) [68, 69, 70] g125) ok126 hp2 o7) (fun v S1 hq => ?_)
            obtain ⟨r134, rfl, hr134, ok131, md132, hpo133⟩ := hq
            obtain rfl : (sv_sts (sv_sts S [68, 69, 70] g2) [68, 69, 70] g125) = S1 := (funext fun j => md132 j (by intro q; cases q)).symm
            show sv_T sm_XS sm_cs sm_L sm_sh 5 (q_binarySet p1 p2 p3 p4 S) 273 173 [(0, .ref 0), (1, sv_I p1), (2, sv_I p2), (3, sv_I p3), (4, sv_I p4), (5, sv_I (384 : Int))] [sv_I r134] (sv_sts (sv_sts S [68, 69, 70] g2) [68, 69, 70] g125)
            have h := h r134 hr134 hpo133
            refine sv_iload hM dX12_binarySet_173 rfl rfl ?_
            refine sv_iconst (d := (-1 : Int)) hM dX12_binarySet_175 rfl rfl ?_
            refine sv_anyI hM dX12_binarySet_176 rfl rfl (fun r135 hr135 _ => ?_)
            have h := h r135 hr135
            refine sv_anyI hM dX12_binarySet_177 rfl rfl (fun r136 hr136 _ => ?_)
            have h := h r136 hr136
            refine sv_cond_eq hM dX12_binarySet_178 hr136 (t := 202) rfl rfl (fun hc => ?_) (fun hc => ?_)
            · have h := h.1 (hc)
              refine sv_goto hM dX12_binarySet_202 (pc' := 234) rfl ?_
              exact sv_vret hM dX12_binarySet_234 rfl ⟨rfl, ok131, md129, h⟩
            · have h := h.2 (hc)
              refine sv_aload_n hM dX12_binarySet_181 rfl rfl ?_
              refine sv_iload_n hM dX12_binarySet_182 rfl rfl ?_
              refine sv_callV hM dX12_binarySet_183 sm_iv_1059 (by decide) (sm_a0 _) rfl rfl (Nat.le_of_ble_eq_true rfl) sm_h210 (Nat.le_of_ble_eq_true rfl) (Nat.le_of_ble_eq_true rfl) (F' := 1) (Nat.le_of_ble_eq_true rfl) rfl (t_plainly p3 (sv_sts (sv_sts S [68, 69, 70] g2) [68, 69, 70] g125) ok131 hp3 o36) (fun v S1 hq => ?_)
              obtain ⟨r141, rfl, hr141, ok138, md139, hpo140⟩ := hq
              obtain rfl : (sv_sts (sv_sts S [68, 69, 70] g2) [68, 69, 70] g125) = S1 := (funext fun j => md139 j (by intro q; cases q)).symm
              show sv_T sm_XS sm_cs sm_L sm_sh 5 (q_binarySet p1 p2 p3 p4 S) 273 186 [(0, .ref 0), (1, sv_I p1), (2, sv_I p2), (3, sv_I p3), (4, sv_I p4), (5, sv_I (384 : Int))] [sv_I r141] (sv_sts (sv_sts S [68, 69, 70] g2) [68, 69, 70] g125)
              have h := h r141 hr141 hpo140
              refine sv_iload hM dX12_binarySet_186 rfl rfl ?_
              refine sv_iconst (d := (-1 : Int)) hM dX12_binarySet_188 rfl rfl ?_
              refine sv_anyI hM dX12_binarySet_189 rfl rfl (fun r142 hr142 _ => ?_)
              have h := h r142 hr142
              refine sv_anyI hM dX12_binarySet_190 rfl rfl (fun r143 hr143 _ => ?_)
              have h := h r143 hr143
              refine sv_cond_eq hM dX12_binarySet_191 hr143 (t := 202) rfl rfl (fun hc => ?_) (fun hc => ?_)
              · have h := h.1 (hc)
                refine sv_goto hM dX12_binarySet_202 (pc' := 234) rfl ?_
                exact sv_vret hM dX12_binarySet_234 rfl ⟨rfl, ok138, md129, h⟩
              · have h := h.2 (hc)
                refine sv_aload_n hM dX12_binarySet_194 rfl rfl ?_
                refine sv_iload hM dX12_binarySet_195 rfl rfl ?_
                refine sv_bipush (d := (80 : Int)) hM dX12_binarySet_197 rfl rfl ?_
                refine sv_callV hM dX12_binarySet_199 sm_iv_1072 (by decide) (sm_a0 _) rfl rfl (Nat.le_of_ble_eq_true rfl) sm_h213 (Nat.le_of_ble_eq_true rfl) (Nat.le_of_ble_eq_true rfl) (F' := 2) (Nat.le_of_ble_eq_true rfl) rfl (t_addSort p4 (80 : Int) (sv_sts (sv_sts S [68, 69, 70] g2) [68, 69, 70] g125) ok138 hp4 (⟨by decide, by decide⟩ : sv_R (80 : Int)) o124) (fun v S1 hq => ?_)
                obtain ⟨rfl, ok145, md146, hpo147⟩ := hq
                obtain ⟨g144, rfl⟩ : ∃ g, S1 = sv_sts (sv_sts (sv_sts S [68, 69, 70] g2) [68, 69, 70] g125) [68, 69, 70] g := ⟨_, md146.eq⟩
                show sv_T sm_XS sm_cs sm_L sm_sh 5 (q_binarySet p1 p2 p3 p4 S) 273 202 [(0, .ref 0), (1, sv_I p1), (2, sv_I p2), (3, sv_I p3), (4, sv_I p4), (5, sv_I (384 : Int))] [] (sv_sts (sv_sts (sv_sts S [68, 69, 70] g2) [68, 69, 70] g125) [68, 69, 70] g144)
                have md148 : sv_mod [68, 69, 70, 1113, 1111, 1112, 5, 1011] S (sv_sts (sv_sts (sv_sts S [68, 69, 70] g2) [68, 69, 70] g125) [68, 69, 70] g144) := sv_mod.sts md129 (by decide)
                have h := h g144 hpo147
                refine sv_goto hM dX12_binarySet_202 (pc' := 234) rfl ?_
                exact sv_vret hM dX12_binarySet_234 rfl ⟨rfl, ok145, md148, h⟩
  · have h := h.2 (hc)
    refine sv_aload_n hM dX12_binarySet_14 rfl rfl ?_
    refine sv_iload_n hM dX12_binarySet_15 rfl rfl ?_
    obtain ⟨o149, h⟩ := h
    refine sv_callV hM dX12_binarySet_16 sm_iv_1294 (by decide) (sm_a0 _) rfl rfl (Nat.le_of_ble_eq_true rfl) sm_h212 (Nat.le_of_ble_eq_true rfl) (Nat.le_of_ble_eq_true rfl) (F' := 2) (Nat.le_of_ble_eq_true rfl) rfl (t_isAlone p3 (sv_sts S [68, 69, 70] g2) ok9 hp3 o149) (fun v S1 hq => ?_)
    obtain ⟨r154, rfl, hr154, ok151, md152, hpo153⟩ := hq
    obtain rfl : (sv_sts S [68, 69, 70] g2) = S1 := (funext fun j => md152 j (by intro q; cases q)).symm
    show sv_T sm_XS sm_cs sm_L sm_sh 5 (q_binarySet p1 p2 p3 p4 S) 273 19 [(0, .ref 0), (1, sv_I p1), (2, sv_I p2), (3, sv_I p3), (4, sv_I p4)] [sv_I r154] (sv_sts S [68, 69, 70] g2)
    have h := h r154 hr154 hpo153
    refine sv_cond_eq hM dX12_binarySet_19 hr154 (t := 119) rfl rfl (fun hc => ?_) (fun hc => ?_)
    · have h := h.1 (hc)
      refine sv_iload_n hM dX12_binarySet_119 rfl rfl ?_
      refine sv_cond_ne hM dX12_binarySet_120 hp1 (t := 205) rfl rfl (fun hc => ?_) (fun hc => ?_)
      · have h := h.1 (hc)
        refine sv_aload_n hM dX12_binarySet_205 rfl rfl ?_
        refine sv_iload hM dX12_binarySet_206 rfl rfl ?_
        refine sv_iload_n hM dX12_binarySet_208 rfl rfl ?_
        refine sv_iconst (d := (5 : Int)) hM dX12_binarySet_209 rfl rfl ?_
        refine sv_icmp_ge hM dX12_binarySet_210 hp1 (⟨by decide, by decide⟩ : sv_R (5 : Int)) (t := 218) rfl rfl (fun hc => ?_) (fun hc => ?_)
        · have h := h.1 (hc)
          refine sv_iload_n hM dX12_binarySet_218 rfl rfl ?_
          refine sv_bipush (d := (11 : Int)) hM dX12_binarySet_219 rfl rfl ?_
          refine sv_icmp_ge hM dX12_binarySet_221 hp1 (⟨by decide, by decide⟩ : sv_R (11 : Int)) (t := 229) rfl rfl (fun hc => ?_) (fun hc => ?_)
          · have h := h.1 (hc)
            refine sv_bipush (d := (12 : Int)) hM dX12_binarySet_229 rfl rfl ?_
            obtain ⟨o155, h⟩ := h
            refine sv_callV hM dX12_binarySet_231 sm_iv_1072 (by decide) (sm_a0 _) rfl rfl (Nat.le_of_ble_eq_true rfl) sm_h213 (Nat.le_of_ble_eq_true rfl) (Nat.le_of_ble_eq_true rfl) (F' := 2) (Nat.le_of_ble_eq_true rfl) rfl (t_addSort p4 (12 : Int) (sv_sts S [68, 69, 70] g2) ok151 hp4 (⟨by decide, by decide⟩ : sv_R (12 : Int)) o155) (fun v S1 hq => ?_)
            obtain ⟨rfl, ok157, md158, hpo159⟩ := hq
            obtain ⟨g156, rfl⟩ : ∃ g, S1 = sv_sts (sv_sts S [68, 69, 70] g2) [68, 69, 70] g := ⟨_, md158.eq⟩
            show sv_T sm_XS sm_cs sm_L sm_sh 5 (q_binarySet p1 p2 p3 p4 S) 273 234 [(0, .ref 0), (1, sv_I p1), (2, sv_I p2), (3, sv_I p3), (4, sv_I p4)] [] (sv_sts (sv_sts S [68, 69, 70] g2) [68, 69, 70] g156)
            have md160 : sv_mod [68, 69, 70, 1113, 1111, 1112, 5, 1011] S (sv_sts (sv_sts S [68, 69, 70] g2) [68, 69, 70] g156) := sv_mod.sts md6 (by decide)
            have h := h g156 hpo159
            exact sv_vret hM dX12_binarySet_234 rfl ⟨rfl, ok157, md160, h⟩
          · have h := h.2 (hc)
            refine sv_bipush (d := (64 : Int)) hM dX12_binarySet_224 rfl rfl ?_
            refine sv_goto hM dX12_binarySet_226 (pc' := 231) rfl ?_
            obtain ⟨o161, h⟩ := h
            refine sv_callV hM dX12_binarySet_231 sm_iv_1072 (by decide) (sm_a0 _) rfl rfl (Nat.le_of_ble_eq_true rfl) sm_h213 (Nat.le_of_ble_eq_true rfl) (Nat.le_of_ble_eq_true rfl) (F' := 2) (Nat.le_of_ble_eq_true rfl) rfl (t_addSort p4 (64 : Int) (sv_sts S [68, 69, 70] g2) ok151 hp4 (⟨by decide, by decide⟩ : sv_R (64 : Int)) o161) (fun v S1 hq => ?_)
            obtain ⟨rfl, ok163, md164, hpo165⟩ := hq
            obtain ⟨g162, rfl⟩ : ∃ g, S1 = sv_sts (sv_sts S [68, 69, 70] g2) [68, 69, 70] g := ⟨_, md164.eq⟩
            show sv_T sm_XS sm_cs sm_L sm_sh 5 (q_binarySet p1 p2 p3 p4 S) 273 234 [(0, .ref 0), (1, sv_I p1), (2, sv_I p2), (3, sv_I p3), (4, sv_I p4)] [] (sv_sts (sv_sts S [68, 69, 70] g2) [68, 69, 70] g162)
            have md166 : sv_mod [68, 69, 70, 1113, 1111, 1112, 5, 1011] S (sv_sts (sv_sts S [68, 69, 70] g2) [68, 69, 70] g162) := sv_mod.sts md6 (by decide)
            have h := h g162 hpo165
            exact sv_vret hM dX12_binarySet_234 rfl ⟨rfl, ok163, md166, h⟩
        · have h := h.2 (hc)
          refine sv_bipush (d := (80 : Int)) hM dX12_binarySet_213 rfl rfl ?_
          refine sv_goto hM dX12_binarySet_215 (pc' := 231) rfl ?_
          obtain ⟨o167, h⟩ := h
          refine sv_callV hM dX12_binarySet_231 sm_iv_1072 (by decide) (sm_a0 _) rfl rfl (Nat.le_of_ble_eq_true rfl) sm_h213 (Nat.le_of_ble_eq_true rfl) (Nat.le_of_ble_eq_true rfl) (F' := 2) (Nat.le_of_ble_eq_true rfl) rfl (t_addSort p4 (80 : Int) (sv_sts S [68, 69, 70] g2) ok151 hp4 (⟨by decide, by decide⟩ : sv_R (80 : Int)) o167) (fun v S1 hq => ?_)
          obtain ⟨rfl, ok169, md170, hpo171⟩ := hq
          obtain ⟨g168, rfl⟩ : ∃ g, S1 = sv_sts (sv_sts S [68, 69, 70] g2) [68, 69, 70] g := ⟨_, md170.eq⟩
          show sv_T sm_XS sm_cs sm_L sm_sh 5 (q_binarySet p1 p2 p3 p4 S) 273 234 [(0, .ref 0), (1, sv_I p1), (2, sv_I p2), (3, sv_I p3), (4, sv_I p4)] [] (sv_sts (sv_sts S [68, 69, 70] g2) [68, 69, 70] g168)
          have md172 : sv_mod [68, 69, 70, 1113, 1111, 1112, 5, 1011] S (sv_sts (sv_sts S [68, 69, 70] g2) [68, 69, 70] g168) := sv_mod.sts md6 (by decide)
          have h := h g168 hpo171
          exact sv_vret hM dX12_binarySet_234 rfl ⟨rfl, ok169, md172, h⟩
      · have h := h.2 (hc)
        refine sv_sipush (d := (384 : Int)) hM dX12_binarySet_123 rfl rfl ?_
        refine sv_istore hM dX12_binarySet_126 (by decide) rfl ?_
        show sv_T sm_XS sm_cs sm_L sm_sh 5 (q_binarySet p1 p2 p3 p4 S) 273 128 [(0, .ref 0), (1, sv_I p1), (2, sv_I p2), (3, sv_I p3), (4, sv_I p4), (5, sv_I (384 : Int))] [] (sv_sts S [68, 69, 70] g2)
        refine sv_aload_n hM dX12_binarySet_128 rfl rfl ?_
        refine sv_iload_n hM dX12_binarySet_129 rfl rfl ?_
        refine sv_callV hM dX12_binarySet_130 sm_iv_1047 (by decide) (sm_a0 _) rfl rfl (Nat.le_of_ble_eq_true rfl) sm_h202 (Nat.le_of_ble_eq_true rfl) (Nat.le_of_ble_eq_true rfl) (F' := 0) (Nat.le_of_ble_eq_true rfl) rfl (t_has p2 (sv_sts S [68, 69, 70] g2) ok151 hp2 o7) (fun v S1 hq => ?_)
        obtain ⟨r177, rfl, hr177, ok174, md175, hpo176⟩ := hq
        obtain rfl : (sv_sts S [68, 69, 70] g2) = S1 := (funext fun j => md175 j (by intro q; cases q)).symm
        show sv_T sm_XS sm_cs sm_L sm_sh 5 (q_binarySet p1 p2 p3 p4 S) 273 133 [(0, .ref 0), (1, sv_I p1), (2, sv_I p2), (3, sv_I p3), (4, sv_I p4), (5, sv_I (384 : Int))] [sv_I r177] (sv_sts S [68, 69, 70] g2)
        have h := h r177 hr177 hpo176
        refine sv_aload_n hM dX12_binarySet_133 rfl rfl ?_
        refine sv_iload_n hM dX12_binarySet_134 rfl rfl ?_
        refine sv_callV hM dX12_binarySet_135 sm_iv_1047 (by decide) (sm_a0 _) rfl rfl (Nat.le_of_ble_eq_true rfl) sm_h202 (Nat.le_of_ble_eq_true rfl) (Nat.le_of_ble_eq_true rfl) (F' := 0) (Nat.le_of_ble_eq_true rfl) rfl (t_has p3 (sv_sts S [68, 69, 70] g2) ok174 hp3 o149) (fun v S1 hq => ?_)
        obtain ⟨r182, rfl, hr182, ok179, md180, hpo181⟩ := hq
        obtain rfl : (sv_sts S [68, 69, 70] g2) = S1 := (funext fun j => md180 j (by intro q; cases q)).symm
        show sv_T sm_XS sm_cs sm_L sm_sh 5 (q_binarySet p1 p2 p3 p4 S) 273 138 [(0, .ref 0), (1, sv_I p1), (2, sv_I p2), (3, sv_I p3), (4, sv_I p4), (5, sv_I (384 : Int))] [sv_I r182, sv_I r177] (sv_sts S [68, 69, 70] g2)
        have h := h r182 hr182 hpo181
        refine sv_anyI hM dX12_binarySet_138 rfl rfl (fun r183 hr183 _ => ?_)
        have h := h r183 hr183
        refine sv_iload hM dX12_binarySet_139 rfl rfl ?_
        refine sv_iand hM dX12_binarySet_141 ⟨by decide, by decide⟩ rfl (fun r184 hr184 => ?_)
        have h := h r184 hr184
        refine sv_cond_ne hM dX12_binarySet_142 (⟨by omega, by omega⟩ : sv_R r184) (t := 161) rfl rfl (fun hc => ?_) (fun hc => ?_)
        · have h := h.1 (hc)
          refine sv_aload_n hM dX12_binarySet_161 rfl rfl ?_
          refine sv_iload hM dX12_binarySet_162 rfl rfl ?_
          refine sv_iconst (d := (-1 : Int)) hM dX12_binarySet_164 rfl rfl ?_
          obtain ⟨o185, h⟩ := h
          refine sv_callV hM dX12_binarySet_165 sm_iv_1078 (by decide) (sm_a0 _) rfl rfl (Nat.le_of_ble_eq_true rfl) sm_h215 (Nat.le_of_ble_eq_true rfl) (Nat.le_of_ble_eq_true rfl) (F' := 2) (Nat.le_of_ble_eq_true rfl) rfl (t_addString p4 (-1 : Int) (sv_sts S [68, 69, 70] g2) ok179 hp4 (⟨by decide, by decide⟩ : sv_R (-1 : Int)) o185) (fun v S1 hq => ?_)
          obtain ⟨rfl, ok187, md188, hpo189⟩ := hq
          obtain ⟨g186, rfl⟩ : ∃ g, S1 = sv_sts (sv_sts S [68, 69, 70] g2) [68, 69, 70] g := ⟨_, md188.eq⟩
          show sv_T sm_XS sm_cs sm_L sm_sh 5 (q_binarySet p1 p2 p3 p4 S) 273 168 [(0, .ref 0), (1, sv_I p1), (2, sv_I p2), (3, sv_I p3), (4, sv_I p4), (5, sv_I (384 : Int))] [] (sv_sts (sv_sts S [68, 69, 70] g2) [68, 69, 70] g186)
          have md190 : sv_mod [68, 69, 70, 1113, 1111, 1112, 5, 1011] S (sv_sts (sv_sts S [68, 69, 70] g2) [68, 69, 70] g186) := sv_mod.sts md6 (by decide)
          have h := h g186 hpo189
          refine sv_aload_n hM dX12_binarySet_168 rfl rfl ?_
          refine sv_iload_n hM dX12_binarySet_169 rfl rfl ?_
          refine sv_callV hM dX12_binarySet_170 sm_iv_1059 (by decide) (sm_a0 _) rfl rfl (Nat.le_of_ble_eq_true rfl) sm_h210 (Nat.le_of_ble_eq_true rfl) (Nat.le_of_ble_eq_true rfl) (F' := 1) (Nat.le_of_ble_eq_true rfl) rfl (t_plainly p2 (sv_sts (sv_sts S [68, 69, 70] g2) [68, 69, 70] g186) ok187 hp2 o7) (fun v S1 hq => ?_)
          obtain ⟨r195, rfl, hr195, ok192, md193, hpo194⟩ := hq
          obtain rfl : (sv_sts (sv_sts S [68, 69, 70] g2) [68, 69, 70] g186) = S1 := (funext fun j => md193 j (by intro q; cases q)).symm
          show sv_T sm_XS sm_cs sm_L sm_sh 5 (q_binarySet p1 p2 p3 p4 S) 273 173 [(0, .ref 0), (1, sv_I p1), (2, sv_I p2), (3, sv_I p3), (4, sv_I p4), (5, sv_I (384 : Int))] [sv_I r195] (sv_sts (sv_sts S [68, 69, 70] g2) [68, 69, 70] g186)
          have h := h r195 hr195 hpo194
          refine sv_iload hM dX12_binarySet_173 rfl rfl ?_
          refine sv_iconst (d := (-1 : Int)) hM dX12_binarySet_175 rfl rfl ?_
          refine sv_anyI hM dX12_binarySet_176 rfl rfl (fun r196 hr196 _ => ?_)
          have h := h r196 hr196
          refine sv_anyI hM dX12_binarySet_177 rfl rfl (fun r197 hr197 _ => ?_)
          have h := h r197 hr197
          refine sv_cond_eq hM dX12_binarySet_178 hr197 (t := 202) rfl rfl (fun hc => ?_) (fun hc => ?_)
          · have h := h.1 (hc)
            refine sv_goto hM dX12_binarySet_202 (pc' := 234) rfl ?_
            exact sv_vret hM dX12_binarySet_234 rfl ⟨rfl, ok192, md190, h⟩
          · have h := h.2 (hc)
            refine sv_aload_n hM dX12_binarySet_181 rfl rfl ?_
            refine sv_iload_n hM dX12_binarySet_182 rfl rfl ?_
            refine sv_callV hM dX12_binarySet_183 sm_iv_1059 (by decide) (sm_a0 _) rfl rfl (Nat.le_of_ble_eq_true rfl) sm_h210 (Nat.le_of_ble_eq_true rfl) (Nat.le_of_ble_eq_true rfl) (F' := 1) (Nat.le_of_ble_eq_true rfl) rfl (t_plainly p3 (sv_sts (sv_sts S [68, 69, 70] g2) [68, 69, 70] g186) ok192 hp3 o149) (fun v S1 hq => ?_)
            obtain ⟨r202, rfl, hr202, ok199, md200, hpo201⟩ := hq
            obtain rfl : (sv_sts (sv_sts S [68, 69, 70] g2) [68, 69, 70] g186) = S1 := (funext fun j => md200 j (by intro q; cases q)).symm
            show sv_T sm_XS sm_cs sm_L sm_sh 5 (q_binarySet p1 p2 p3 p4 S) 273 186 [(0, .ref 0), (1, sv_I p1), (2, sv_I p2), (3, sv_I p3), (4, sv_I p4), (5, sv_I (384 : Int))] [sv_I r202] (sv_sts (sv_sts S [68, 69, 70] g2) [68, 69, 70] g186)
            have h := h r202 hr202 hpo201
            refine sv_iload hM dX12_binarySet_186 rfl rfl ?_
            refine sv_iconst (d := (-1 : Int)) hM dX12_binarySet_188 rfl rfl ?_
            refine sv_anyI hM dX12_binarySet_189 rfl rfl (fun r203 hr203 _ => ?_)
            have h := h r203 hr203
            refine sv_anyI hM dX12_binarySet_190 rfl rfl (fun r204 hr204 _ => ?_)
            have h := h r204 hr204
            refine sv_cond_eq hM dX12_binarySet_191 hr204 (t := 202) rfl rfl (fun hc => ?_) (fun hc => ?_)
            · have h := h.1 (hc)
              refine sv_goto hM dX12_binarySet_202 (pc' := 234) rfl ?_
              exact sv_vret hM dX12_binarySet_234 rfl ⟨rfl, ok199, md190, h⟩
            · have h := h.2 (hc)
              refine sv_aload_n hM dX12_binarySet_194 rfl rfl ?_
              refine sv_iload hM dX12_binarySet_195 rfl rfl ?_
              refine sv_bipush (d := (80 : Int)) hM dX12_binarySet_197 rfl rfl ?_
              refine sv_callV hM dX12_binarySet_199 sm_iv_1072 (by decide) (sm_a0 _) rfl rfl (Nat.le_of_ble_eq_true rfl) sm_h213 (Nat.le_of_ble_eq_true rfl) (Nat.le_of_ble_eq_true rfl) (F' := 2) (Nat.le_of_ble_eq_true rfl) rfl (t_addSort p4 (80 : Int) (sv_sts (sv_sts S [68, 69, 70] g2) [68, 69, 70] g186) ok199 hp4 (⟨by decide, by decide⟩ : sv_R (80 : Int)) o185) (fun v S1 hq => ?_)
              obtain ⟨rfl, ok206, md207, hpo208⟩ := hq
              obtain ⟨g205, rfl⟩ : ∃ g, S1 = sv_sts (sv_sts (sv_sts S [68, 69, 70] g2) [68, 69, 70] g186) [68, 69, 70] g := ⟨_, md207.eq⟩
              show sv_T sm_XS sm_cs sm_L sm_sh 5 (q_binarySet p1 p2 p3 p4 S) 273 202 [(0, .ref 0), (1, sv_I p1), (2, sv_I p2), (3, sv_I p3), (4, sv_I p4), (5, sv_I (384 : Int))] [] (sv_sts (sv_sts (sv_sts S [68, 69, 70] g2) [68, 69, 70] g186) [68, 69, 70] g205)
              have md209 : sv_mod [68, 69, 70, 1113, 1111, 1112, 5, 1011] S (sv_sts (sv_sts (sv_sts S [68, 69, 70] g2) [68, 69, 70] g186) [68, 69, 70] g205) := sv_mod.sts md190 (by decide)
              have h := h g205 hpo208
              refine sv_goto hM dX12_binarySet_202 (pc' := 234) rfl ?_
              exact sv_vret hM dX12_binarySet_234 rfl ⟨rfl, ok206, md209, h⟩
        · have h := h.2 (hc)
          refine sv_aload_n hM dX12_binarySet_145 rfl rfl ?_
          refine sv_iload_n hM dX12_binarySet_146 rfl rfl ?_
          refine sv_callV hM dX12_binarySet_147 sm_iv_1062 (by decide) (sm_a0 _) rfl rfl (Nat.le_of_ble_eq_true rfl) sm_h209 (Nat.le_of_ble_eq_true rfl) (Nat.le_of_ble_eq_true rfl) (F' := 0) (Nat.le_of_ble_eq_true rfl) rfl (t_hasLabels p2 (sv_sts S [68, 69, 70] g2) ok179 hp2 o7) (fun v S1 hq => ?_)
          obtain ⟨r214, rfl, hr214, ok211, md212, hpo213⟩ := hq
          obtain rfl : (sv_sts S [68, 69, 70] g2) = S1 := (funext fun j => md212 j (by intro q; cases q)).symm
          show sv_T sm_XS sm_cs sm_L sm_sh 5 (q_binarySet p1 p2 p3 p4 S) 273 150 [(0, .ref 0), (1, sv_I p1), (2, sv_I p2), (3, sv_I p3), (4, sv_I p4), (5, sv_I (384 : Int))] [sv_I r214] (sv_sts S [68, 69, 70] g2)
          have h := h r214 hr214 hpo213
          refine sv_cond_ne hM dX12_binarySet_150 hr214 (t := 161) rfl rfl (fun hc => ?_) (fun hc => ?_)
          · have h := h.1 (hc)
            refine sv_aload_n hM dX12_binarySet_161 rfl rfl ?_
            refine sv_iload hM dX12_binarySet_162 rfl rfl ?_
            refine sv_iconst (d := (-1 : Int)) hM dX12_binarySet_164 rfl rfl ?_
            obtain ⟨o215, h⟩ := h
            refine sv_callV hM dX12_binarySet_165 sm_iv_1078 (by decide) (sm_a0 _) rfl rfl (Nat.le_of_ble_eq_true rfl) sm_h215 (Nat.le_of_ble_eq_true rfl) (Nat.le_of_ble_eq_true rfl) (F' := 2) (Nat.le_of_ble_eq_true rfl) rfl (t_addString p4 (-1 : Int) (sv_sts S [68, 69, 70] g2) ok211 hp4 (⟨by decide, by decide⟩ : sv_R (-1 : Int)) o215) (fun v S1 hq => ?_)
            obtain ⟨rfl, ok217, md218, hpo219⟩ := hq
            obtain ⟨g216, rfl⟩ : ∃ g, S1 = sv_sts (sv_sts S [68, 69, 70] g2) [68, 69, 70] g := ⟨_, md218.eq⟩
            show sv_T sm_XS sm_cs sm_L sm_sh 5 (q_binarySet p1 p2 p3 p4 S) 273 168 [(0, .ref 0), (1, sv_I p1), (2, sv_I p2), (3, sv_I p3), (4, sv_I p4), (5, sv_I (384 : Int))] [] (sv_sts (sv_sts S [68, 69, 70] g2) [68, 69, 70] g216)
            have md220 : sv_mod [68, 69, 70, 1113, 1111, 1112, 5, 1011] S (sv_sts (sv_sts S [68, 69, 70] g2) [68, 69, 70] g216) := sv_mod.sts md6 (by decide)
            have h := h g216 hpo219
            refine sv_aload_n hM dX12_binarySet_168 rfl rfl ?_
            refine sv_iload_n hM dX12_binarySet_169 rfl rfl ?_
            refine sv_callV hM dX12_binarySet_170 sm_iv_1059 (by decide) (sm_a0 _) rfl rfl (Nat.le_of_ble_eq_true rfl) sm_h210 (Nat.le_of_ble_eq_true rfl) (Nat.le_of_ble_eq_true rfl) (F' := 1) (Nat.le_of_ble_eq_true rfl) rfl (t_plainly p2 (sv_sts (sv_sts S [68, 69, 70] g2) [68, 69, 70] g216) ok217 hp2 o7) (fun v S1 hq => ?_)
            obtain ⟨r225, rfl, hr225, ok222, md223, hpo224⟩ := hq
            obtain rfl : (sv_sts (sv_sts S [68, 69, 70] g2) [68, 69, 70] g216) = S1 := (funext fun j => md223 j (by intro q; cases q)).symm
            show sv_T sm_XS sm_cs sm_L sm_sh 5 (q_binarySet p1 p2 p3 p4 S) 273 173 [(0, .ref 0), (1, sv_I p1), (2, sv_I p2), (3, sv_I p3), (4, sv_I p4), (5, sv_I (384 : Int))] [sv_I r225] (sv_sts (sv_sts S [68, 69, 70] g2) [68, 69, 70] g216)
            have h := h r225 hr225 hpo224
            refine sv_iload hM dX12_binarySet_173 rfl rfl ?_
            refine sv_iconst (d := (-1 : Int)) hM dX12_binarySet_175 rfl rfl ?_
            refine sv_anyI hM dX12_binarySet_176 rfl rfl (fun r226 hr226 _ => ?_)
            have h := h r226 hr226
            refine sv_anyI hM dX12_binarySet_177 rfl rfl (fun r227 hr227 _ => ?_)
            have h := h r227 hr227
            refine sv_cond_eq hM dX12_binarySet_178 hr227 (t := 202) rfl rfl (fun hc => ?_) (fun hc => ?_)
            · have h := h.1 (hc)
              refine sv_goto hM dX12_binarySet_202 (pc' := 234) rfl ?_
              exact sv_vret hM dX12_binarySet_234 rfl ⟨rfl, ok222, md220, h⟩
            · have h := h.2 (hc)
              refine sv_aload_n hM dX12_binarySet_181 rfl rfl ?_
              refine sv_iload_n hM dX12_binarySet_182 rfl rfl ?_
              refine sv_callV hM dX12_binarySet_183 sm_iv_1059 (by decide) (sm_a0 _) rfl rfl (Nat.le_of_ble_eq_true rfl) sm_h210 (Nat.le_of_ble_eq_true rfl) (Nat.le_of_ble_eq_true rfl) (F' := 1) (Nat.le_of_ble_eq_true rfl) rfl (t_plainly p3 (sv_sts (sv_sts S [68, 69, 70] g2) [68, 69, 70] g216) ok222 hp3 o149) (fun v S1 hq => ?_)
              obtain ⟨r232, rfl, hr232, ok229, md230, hpo231⟩ := hq
              obtain rfl : (sv_sts (sv_sts S [68, 69, 70] g2) [68, 69, 70] g216) = S1 := (funext fun j => md230 j (by intro q; cases q)).symm
              show sv_T sm_XS sm_cs sm_L sm_sh 5 (q_binarySet p1 p2 p3 p4 S) 273 186 [(0, .ref 0), (1, sv_I p1), (2, sv_I p2), (3, sv_I p3), (4, sv_I p4), (5, sv_I (384 : Int))] [sv_I r232] (sv_sts (sv_sts S [68, 69, 70] g2) [68, 69, 70] g216)
              have h := h r232 hr232 hpo231
              refine sv_iload hM dX12_binarySet_186 rfl rfl ?_
              refine sv_iconst (d := (-1 : Int)) hM dX12_binarySet_188 rfl rfl ?_
              refine sv_anyI hM dX12_binarySet_189 rfl rfl (fun r233 hr233 _ => ?_)
              have h := h r233 hr233
              refine sv_anyI hM dX12_binarySet_190 rfl rfl (fun r234 hr234 _ => ?_)
              have h := h r234 hr234
              refine sv_cond_eq hM dX12_binarySet_191 hr234 (t := 202) rfl rfl (fun hc => ?_) (fun hc => ?_)
              · have h := h.1 (hc)
                refine sv_goto hM dX12_binarySet_202 (pc' := 234) rfl ?_
                exact sv_vret hM dX12_binarySet_234 rfl ⟨rfl, ok229, md220, h⟩
              · have h := h.2 (hc)
                refine sv_aload_n hM dX12_binarySet_194 rfl rfl ?_
                refine sv_iload hM dX12_binarySet_195 rfl rfl ?_
                refine sv_bipush (d := (80 : Int)) hM dX12_binarySet_197 rfl rfl ?_
                refine sv_callV hM dX12_binarySet_199 sm_iv_1072 (by decide) (sm_a0 _) rfl rfl (Nat.le_of_ble_eq_true rfl) sm_h213 (Nat.le_of_ble_eq_true rfl) (Nat.le_of_ble_eq_true rfl) (F' := 2) (Nat.le_of_ble_eq_true rfl) rfl (t_addSort p4 (80 : Int) (sv_sts (sv_sts S [68, 69, 70] g2) [68, 69, 70] g216) ok229 hp4 (⟨by decide, by decide⟩ : sv_R (80 : Int)) o215) (fun v S1 hq => ?_)
                obtain ⟨rfl, ok236, md237, hpo238⟩ := hq
                obtain ⟨g235, rfl⟩ : ∃ g, S1 = sv_sts (sv_sts (sv_sts S [68, 69, 70] g2) [68, 69, 70] g216) [68, 69, 70] g := ⟨_, md237.eq⟩
                show sv_T sm_XS sm_cs sm_L sm_sh 5 (q_binarySet p1 p2 p3 p4 S) 273 202 [(0, .ref 0), (1, sv_I p1), (2, sv_I p2), (3, sv_I p3), (4, sv_I p4), (5, sv_I (384 : Int))] [] (sv_sts (sv_sts (sv_sts S [68, 69, 70] g2) [68, 69, 70] g216) [68, 69, 70] g235)
                have md239 : sv_mod [68, 69, 70, 1113, 1111, 1112, 5, 1011] S (sv_sts (sv_sts (sv_sts S [68, 69, 70] g2) [68, 69, 70] g216) [68, 69, 70] g235) := sv_mod.sts md220 (by decide)
                have h := h g235 hpo238
                refine sv_goto hM dX12_binarySet_202 (pc' := 234) rfl ?_
                exact sv_vret hM dX12_binarySet_234 rfl ⟨rfl, ok236, md239, h⟩
          · have h := h.2 (hc)
            refine sv_aload_n hM dX12_binarySet_153 rfl rfl ?_
            refine sv_iload_n hM dX12_binarySet_154 rfl rfl ?_
            refine sv_callV hM dX12_binarySet_155 sm_iv_1062 (by decide) (sm_a0 _) rfl rfl (Nat.le_of_ble_eq_true rfl) sm_h209 (Nat.le_of_ble_eq_true rfl) (Nat.le_of_ble_eq_true rfl) (F' := 0) (Nat.le_of_ble_eq_true rfl) rfl (t_hasLabels p3 (sv_sts S [68, 69, 70] g2) ok211 hp3 o149) (fun v S1 hq => ?_)
            obtain ⟨r244, rfl, hr244, ok241, md242, hpo243⟩ := hq
            obtain rfl : (sv_sts S [68, 69, 70] g2) = S1 := (funext fun j => md242 j (by intro q; cases q)).symm
            show sv_T sm_XS sm_cs sm_L sm_sh 5 (q_binarySet p1 p2 p3 p4 S) 273 158 [(0, .ref 0), (1, sv_I p1), (2, sv_I p2), (3, sv_I p3), (4, sv_I p4), (5, sv_I (384 : Int))] [sv_I r244] (sv_sts S [68, 69, 70] g2)
            have h := h r244 hr244 hpo243
            refine sv_cond_eq hM dX12_binarySet_158 hr244 (t := 168) rfl rfl (fun hc => ?_) (fun hc => ?_)
            · have h := h.1 (hc)
              refine sv_aload_n hM dX12_binarySet_168 rfl rfl ?_
              refine sv_iload_n hM dX12_binarySet_169 rfl rfl ?_
              refine sv_callV hM dX12_binarySet_170 sm_iv_1059 (by decide) (sm_a0 _) rfl rfl (Nat.le_of_ble_eq_true rfl) sm_h210 (Nat.le_of_ble_eq_true rfl) (Nat.le_of_ble_eq_true rfl) (F' := 1) (Nat.le_of_ble_eq_true rfl) rfl (t_plainly p2 (sv_sts S [68, 69, 70] g2) ok241 hp2 o7) (fun v S1 hq => ?_)
              obtain ⟨r249, rfl, hr249, ok246, md247, hpo248⟩ := hq
              obtain rfl : (sv_sts S [68, 69, 70] g2) = S1 := (funext fun j => md247 j (by intro q; cases q)).symm
              show sv_T sm_XS sm_cs sm_L sm_sh 5 (q_binarySet p1 p2 p3 p4 S) 273 173 [(0, .ref 0), (1, sv_I p1), (2, sv_I p2), (3, sv_I p3), (4, sv_I p4), (5, sv_I (384 : Int))] [sv_I r249] (sv_sts S [68, 69, 70] g2)
              have h := h r249 hr249 hpo248
              refine sv_iload hM dX12_binarySet_173 rfl rfl ?_
              refine sv_iconst (d := (-1 : Int)) hM dX12_binarySet_175 rfl rfl ?_
              refine sv_anyI hM dX12_binarySet_176 rfl rfl (fun r250 hr250 _ => ?_)
              have h := h r250 hr250
              refine sv_anyI hM dX12_binarySet_177 rfl rfl (fun r251 hr251 _ => ?_)
              have h := h r251 hr251
              refine sv_cond_eq hM dX12_binarySet_178 hr251 (t := 202) rfl rfl (fun hc => ?_) (fun hc => ?_)
              · have h := h.1 (hc)
                refine sv_goto hM dX12_binarySet_202 (pc' := 234) rfl ?_
                exact sv_vret hM dX12_binarySet_234 rfl ⟨rfl, ok246, md6, h⟩
              · have h := h.2 (hc)
                refine sv_aload_n hM dX12_binarySet_181 rfl rfl ?_
                refine sv_iload_n hM dX12_binarySet_182 rfl rfl ?_
                refine sv_callV hM dX12_binarySet_183 sm_iv_1059 (by decide) (sm_a0 _) rfl rfl (Nat.le_of_ble_eq_true rfl) sm_h210 (Nat.le_of_ble_eq_true rfl) (Nat.le_of_ble_eq_true rfl) (F' := 1) (Nat.le_of_ble_eq_true rfl) rfl (t_plainly p3 (sv_sts S [68, 69, 70] g2) ok246 hp3 o149) (fun v S1 hq => ?_)
                obtain ⟨r256, rfl, hr256, ok253, md254, hpo255⟩ := hq
                obtain rfl : (sv_sts S [68, 69, 70] g2) = S1 := (funext fun j => md254 j (by intro q; cases q)).symm
                show sv_T sm_XS sm_cs sm_L sm_sh 5 (q_binarySet p1 p2 p3 p4 S) 273 186 [(0, .ref 0), (1, sv_I p1), (2, sv_I p2), (3, sv_I p3), (4, sv_I p4), (5, sv_I (384 : Int))] [sv_I r256] (sv_sts S [68, 69, 70] g2)
                have h := h r256 hr256 hpo255
                refine sv_iload hM dX12_binarySet_186 rfl rfl ?_
                refine sv_iconst (d := (-1 : Int)) hM dX12_binarySet_188 rfl rfl ?_
                refine sv_anyI hM dX12_binarySet_189 rfl rfl (fun r257 hr257 _ => ?_)
                have h := h r257 hr257
                refine sv_anyI hM dX12_binarySet_190 rfl rfl (fun r258 hr258 _ => ?_)
                have h := h r258 hr258
                refine sv_cond_eq hM dX12_binarySet_191 hr258 (t := 202) rfl rfl (fun hc => ?_) (fun hc => ?_)
                · have h := h.1 (hc)
                  refine sv_goto hM dX12_binarySet_202 (pc' := 234) rfl ?_
                  exact sv_vret hM dX12_binarySet_234 rfl ⟨rfl, ok253, md6, h⟩
                · have h := h.2 (hc)
                  refine sv_aload_n hM dX12_binarySet_194 rfl rfl ?_
                  refine sv_iload hM dX12_binarySet_195 rfl rfl ?_
                  refine sv_bipush (d := (80 : Int)) hM dX12_binarySet_197 rfl rfl ?_
                  obtain ⟨o259, h⟩ := h
                  refine sv_callV hM dX12_binarySet_199 sm_iv_1072 (by decide) (sm_a0 _) rfl rfl (Nat.le_of_ble_eq_true rfl) sm_h213 (Nat.le_of_ble_eq_true rfl) (Nat.le_of_ble_eq_true rfl) (F' := 2) (Nat.le_of_ble_eq_true rfl) rfl (t_addSort p4 (80 : Int) (sv_sts S [68, 69, 70] g2) ok253 hp4 (⟨by decide, by decide⟩ : sv_R (80 : Int)) o259) (fun v S1 hq => ?_)
                  obtain ⟨rfl, ok261, md262, hpo263⟩ := hq
                  obtain ⟨g260, rfl⟩ : ∃ g, S1 = sv_sts (sv_sts S [68, 69, 70] g2) [68, 69, 70] g := ⟨_, md262.eq⟩
                  show sv_T sm_XS sm_cs sm_L sm_sh 5 (q_binarySet p1 p2 p3 p4 S) 273 202 [(0, .ref 0), (1, sv_I p1), (2, sv_I p2), (3, sv_I p3), (4, sv_I p4), (5, sv_I (384 : Int))] [] (sv_sts (sv_sts S [68, 69, 70] g2) [68, 69, 70] g260)
                  have md264 : sv_mod [68, 69, 70, 1113, 1111, 1112, 5, 1011] S (sv_sts (sv_sts S [68, 69, 70] g2) [68, 69, 70] g260) := sv_mod.sts md6 (by decide)
                  have h := h g260 hpo263
                  refine sv_goto hM dX12_binarySet_202 (pc' := 234) rfl ?_
                  exact sv_vret hM dX12_binarySet_234 rfl ⟨rfl, ok261, md264, h⟩
            · have h := h.2 (hc)
              refine sv_aload_n hM dX12_binarySet_161 rfl rfl ?_
              refine sv_iload hM dX12_binarySet_162 rfl rfl ?_
              refine sv_iconst (d := (-1 : Int)) hM dX12_binarySet_164 rfl rfl ?_
              obtain ⟨o265, h⟩ := h
              refine sv_callV hM dX12_binarySet_165 sm_iv_1078 (by decide) (sm_a0 _) rfl rfl (Nat.le_of_ble_eq_true rfl) sm_h215 (Nat.le_of_ble_eq_true rfl) (Nat.le_of_ble_eq_true rfl) (F' := 2) (Nat.le_of_ble_eq_true rfl) rfl (t_addString p4 (-1 : Int) (sv_sts S [68, 69, 70] g2) ok241 hp4 (⟨by decide, by decide⟩ : sv_R (-1 : Int)) o265) (fun v S1 hq => ?_)
              obtain ⟨rfl, ok267, md268, hpo269⟩ := hq
              obtain ⟨g266, rfl⟩ : ∃ g, S1 = sv_sts (sv_sts S [68, 69, 70] g2) [68, 69, 70] g := ⟨_, md268.eq⟩
              show sv_T sm_XS sm_cs sm_L sm_sh 5 (q_binarySet p1 p2 p3 p4 S) 273 168 [(0, .ref 0), (1, sv_I p1), (2, sv_I p2), (3, sv_I p3), (4, sv_I p4), (5, sv_I (384 : Int))] [] (sv_sts (sv_sts S [68, 69, 70] g2) [68, 69, 70] g266)
              have md270 : sv_mod [68, 69, 70, 1113, 1111, 1112, 5, 1011] S (sv_sts (sv_sts S [68, 69, 70] g2) [68, 69, 70] g266) := sv_mod.sts md6 (by decide)
              have h := h g266 hpo269
              refine sv_aload_n hM dX12_binarySet_168 rfl rfl ?_
              refine sv_iload_n hM dX12_binarySet_169 rfl rfl ?_
              refine sv_callV hM dX12_binarySet_170 sm_iv_1059 (by decide) (sm_a0 _) rfl rfl (Nat.le_of_ble_eq_true rfl) sm_h210 (Nat.le_of_ble_eq_true rfl) (Nat.le_of_ble_eq_true rfl) (F' := 1) (Nat.le_of_ble_eq_true rfl) rfl (t_plainly p2 (sv_sts (sv_sts S [68, 69, 70] g2) [68, 69, 70] g266) ok267 hp2 o7) (fun v S1 hq => ?_)
              obtain ⟨r275, rfl, hr275, ok272, md273, hpo274⟩ := hq
              obtain rfl : (sv_sts (sv_sts S [68, 69, 70] g2) [68, 69, 70] g266) = S1 := (funext fun j => md273 j (by intro q; cases q)).symm
              show sv_T sm_XS sm_cs sm_L sm_sh 5 (q_binarySet p1 p2 p3 p4 S) 273 173 [(0, .ref 0), (1, sv_I p1), (2, sv_I p2), (3, sv_I p3), (4, sv_I p4), (5, sv_I (384 : Int))] [sv_I r275] (sv_sts (sv_sts S [68, 69, 70] g2) [68, 69, 70] g266)
              have h := h r275 hr275 hpo274
              refine sv_iload hM dX12_binarySet_173 rfl rfl ?_
              refine sv_iconst (d := (-1 : Int)) hM dX12_binarySet_175 rfl rfl ?_
              refine sv_anyI hM dX12_binarySet_176 rfl rfl (fun r276 hr276 _ => ?_)
              have h := h r276 hr276
              refine sv_anyI hM dX12_binarySet_177 rfl rfl (fun r277 hr277 _ => ?_)
              have h := h r277 hr277
              refine sv_cond_eq hM dX12_binarySet_178 hr277 (t := 202) rfl rfl (fun hc => ?_) (fun hc => ?_)
              · have h := h.1 (hc)
                refine sv_goto hM dX12_binarySet_202 (pc' := 234) rfl ?_
                exact sv_vret hM dX12_binarySet_234 rfl ⟨rfl, ok272, md270, h⟩
              · have h := h.2 (hc)
                refine sv_aload_n hM dX12_binarySet_181 rfl rfl ?_
                refine sv_iload_n hM dX12_binarySet_182 rfl rfl ?_
                refine sv_callV hM dX12_binarySet_183 sm_iv_1059 (by decide) (sm_a0 _) rfl rfl (Nat.le_of_ble_eq_true rfl) sm_h210 (Nat.le_of_ble_eq_true rfl) (Nat.le_of_ble_eq_true rfl) (F' := 1) (Nat.le_of_ble_eq_true rfl) rfl (t_plainly p3 (sv_sts (sv_sts S [68, 69, 70] g2) [68, 69, 70] g266) ok272 hp3 o149) (fun v S1 hq => ?_)
                obtain ⟨r282, rfl, hr282, ok279, md280, hpo281⟩ := hq
                obtain rfl : (sv_sts (sv_sts S [68, 69, 70] g2) [68, 69, 70] g266) = S1 := (funext fun j => md280 j (by intro q; cases q)).symm
                show sv_T sm_XS sm_cs sm_L sm_sh 5 (q_binarySet p1 p2 p3 p4 S) 273 186 [(0, .ref 0), (1, sv_I p1), (2, sv_I p2), (3, sv_I p3), (4, sv_I p4), (5, sv_I (384 : Int))] [sv_I r282] (sv_sts (sv_sts S [68, 69, 70] g2) [68, 69, 70] g266)
                have h := h r282 hr282 hpo281
                refine sv_iload hM dX12_binarySet_186 rfl rfl ?_
                refine sv_iconst (d := (-1 : Int)) hM dX12_binarySet_188 rfl rfl ?_
                refine sv_anyI hM dX12_binarySet_189 rfl rfl (fun r283 hr283 _ => ?_)
                have h := h r283 hr283
                refine sv_anyI hM dX12_binarySet_190 rfl rfl (fun r284 hr284 _ => ?_)
                have h := h r284 hr284
                refine sv_cond_eq hM dX12_binarySet_191 hr284 (t := 202) rfl rfl (fun hc => ?_) (fun hc => ?_)
                · have h := h.1 (hc)
                  refine sv_goto hM dX12_binarySet_202 (pc' := 234) rfl ?_
                  exact sv_vret hM dX12_binarySet_234 rfl ⟨rfl, ok279, md270, h⟩
                · have h := h.2 (hc)
                  refine sv_aload_n hM dX12_binarySet_194 rfl rfl ?_
                  refine sv_iload hM dX12_binarySet_195 rfl rfl ?_
                  refine sv_bipush (d := (80 : Int)) hM dX12_binarySet_197 rfl rfl ?_
                  refine sv_callV hM dX12_binarySet_199 sm_iv_1072 (by decide) (sm_a0 _) rfl rfl (Nat.le_of_ble_eq_true rfl) sm_h213 (Nat.le_of_ble_eq_true rfl) (Nat.le_of_ble_eq_true rfl) (F' := 2) (Nat.le_of_ble_eq_true rfl) rfl (t_addSort p4 (80 : Int) (sv_sts (sv_sts S [68, 69, 70] g2) [68, 69, 70] g266) ok279 hp4 (⟨by decide, by decide⟩ : sv_R (80 : Int)) o265) (fun v S1 hq => ?_)
                  obtain ⟨rfl, ok286, md287, hpo288⟩ := hq
                  obtain ⟨g285, rfl⟩ : ∃ g, S1 = sv_sts (sv_sts (sv_sts S [68, 69, 70] g2) [68, 69, 70] g266) [68, 69, 70] g := ⟨_, md287.eq⟩
                  show sv_T sm_XS sm_cs sm_L sm_sh 5 (q_binarySet p1 p2 p3 p4 S) 273 202 [(0, .ref 0), (1, sv_I p1), (2, sv_I p2), (3, sv_I p3), (4, sv_I p4), (5, sv_I (384 : Int))] [] (sv_sts (sv_sts (sv_sts S [68, 69, 70] g2) [68, 69, 70] g266) [68, 69, 70] g285)
                  have md289 : sv_mod [68, 69, 70, 1113, 1111, 1112, 5, 1011] S (sv_sts (sv_sts (sv_sts S [68, 69, 70] g2) [68, 69, 70] g266) [68, 69, 70] g285) := sv_mod.sts md270 (by decide)
                  have h := h g285 hpo288
                  refine sv_goto hM dX12_binarySet_202 (pc' := 234) rfl ?_
                  exact sv_vret hM dX12_binarySet_234 rfl ⟨rfl, ok286, md289, h⟩
    · have h := h.2 (hc)
      refine sv_aload_n hM dX12_binarySet_22 rfl rfl ?_
      refine sv_iload_n hM dX12_binarySet_23 rfl rfl ?_
      refine sv_callV hM dX12_binarySet_24 sm_iv_1297 (by decide) (sm_a0 _) rfl rfl (Nat.le_of_ble_eq_true rfl) sm_h219 (Nat.le_of_ble_eq_true rfl) (Nat.le_of_ble_eq_true rfl) (F' := 2) (Nat.le_of_ble_eq_true rfl) rfl (t_sortOfAlone p2 (sv_sts S [68, 69, 70] g2) ok151 hp2 o7) (fun v S1 hq => ?_)
      obtain ⟨r294, rfl, hr294, ok291, md292, hpo293⟩ := hq
      obtain rfl : (sv_sts S [68, 69, 70] g2) = S1 := (funext fun j => md292 j (by intro q; cases q)).symm
      show sv_T sm_XS sm_cs sm_L sm_sh 5 (q_binarySet p1 p2 p3 p4 S) 273 27 [(0, .ref 0), (1, sv_I p1), (2, sv_I p2), (3, sv_I p3), (4, sv_I p4)] [sv_I r294] (sv_sts S [68, 69, 70] g2)
      have h := h r294 hr294 hpo293
      refine sv_istore hM dX12_binarySet_27 (by decide) rfl ?_
      show sv_T sm_XS sm_cs sm_L sm_sh 5 (q_binarySet p1 p2 p3 p4 S) 273 29 [(0, .ref 0), (1, sv_I p1), (2, sv_I p2), (3, sv_I p3), (4, sv_I p4), (5, sv_I r294)] [] (sv_sts S [68, 69, 70] g2)
      refine sv_aload_n hM dX12_binarySet_29 rfl rfl ?_
      refine sv_iload_n hM dX12_binarySet_30 rfl rfl ?_
      refine sv_callV hM dX12_binarySet_31 sm_iv_1297 (by decide) (sm_a0 _) rfl rfl (Nat.le_of_ble_eq_true rfl) sm_h219 (Nat.le_of_ble_eq_true rfl) (Nat.le_of_ble_eq_true rfl) (F' := 2) (Nat.le_of_ble_eq_true rfl) rfl (t_sortOfAlone p3 (sv_sts S [68, 69, 70] g2) ok291 hp3 o149) (fun v S1 hq => ?_)
      obtain ⟨r299, rfl, hr299, ok296, md297, hpo298⟩ := hq
      obtain rfl : (sv_sts S [68, 69, 70] g2) = S1 := (funext fun j => md297 j (by intro q; cases q)).symm
      show sv_T sm_XS sm_cs sm_L sm_sh 5 (q_binarySet p1 p2 p3 p4 S) 273 34 [(0, .ref 0), (1, sv_I p1), (2, sv_I p2), (3, sv_I p3), (4, sv_I p4), (5, sv_I r294)] [sv_I r299] (sv_sts S [68, 69, 70] g2)
      have h := h r299 hr299 hpo298
      refine sv_istore hM dX12_binarySet_34 (by decide) rfl ?_
      show sv_T sm_XS sm_cs sm_L sm_sh 5 (q_binarySet p1 p2 p3 p4 S) 273 36 [(0, .ref 0), (1, sv_I p1), (2, sv_I p2), (3, sv_I p3), (4, sv_I p4), (5, sv_I r294), (6, sv_I r299)] [] (sv_sts S [68, 69, 70] g2)
      refine sv_aload_n hM dX12_binarySet_36 rfl rfl ?_
      refine sv_iload_n hM dX12_binarySet_37 rfl rfl ?_
      refine sv_iload hM dX12_binarySet_38 rfl rfl ?_
      refine sv_aload_n hM dX12_binarySet_40 rfl rfl ?_
      refine sv_iload_n hM dX12_binarySet_41 rfl rfl ?_
      refine sv_callV hM dX12_binarySet_42 sm_iv_1300 (by decide) (sm_a0 _) rfl rfl (Nat.le_of_ble_eq_true rfl) sm_h220 (Nat.le_of_ble_eq_true rfl) (Nat.le_of_ble_eq_true rfl) (F' := 2) (Nat.le_of_ble_eq_true rfl) rfl (t_valueOfAlone p2 (sv_sts S [68, 69, 70] g2) ok296 hp2 o7) (fun v S1 hq => ?_)
      obtain ⟨r304, rfl, hr304, ok301, md302, hpo303⟩ := hq
      obtain rfl : (sv_sts S [68, 69, 70] g2) = S1 := (funext fun j => md302 j (by intro q; cases q)).symm
      show sv_T sm_XS sm_cs sm_L sm_sh 5 (q_binarySet p1 p2 p3 p4 S) 273 45 [(0, .ref 0), (1, sv_I p1), (2, sv_I p2), (3, sv_I p3), (4, sv_I p4), (5, sv_I r294), (6, sv_I r299)] [sv_I r304, sv_I r294, sv_I p1, .ref 0] (sv_sts S [68, 69, 70] g2)
      have h := h r304 hr304 hpo303
      refine sv_iload hM dX12_binarySet_45 rfl rfl ?_
      refine sv_aload_n hM dX12_binarySet_47 rfl rfl ?_
      refine sv_iload_n hM dX12_binarySet_48 rfl rfl ?_
      refine sv_callV hM dX12_binarySet_49 sm_iv_1300 (by decide) (sm_a0 _) rfl rfl (Nat.le_of_ble_eq_true rfl) sm_h220 (Nat.le_of_ble_eq_true rfl) (Nat.le_of_ble_eq_true rfl) (F' := 2) (Nat.le_of_ble_eq_true rfl) rfl (t_valueOfAlone p3 (sv_sts S [68, 69, 70] g2) ok301 hp3 o149) (fun v S1 hq => ?_)
      obtain ⟨r309, rfl, hr309, ok306, md307, hpo308⟩ := hq
      obtain rfl : (sv_sts S [68, 69, 70] g2) = S1 := (funext fun j => md307 j (by intro q; cases q)).symm
      show sv_T sm_XS sm_cs sm_L sm_sh 5 (q_binarySet p1 p2 p3 p4 S) 273 52 [(0, .ref 0), (1, sv_I p1), (2, sv_I p2), (3, sv_I p3), (4, sv_I p4), (5, sv_I r294), (6, sv_I r299)] [sv_I r309, sv_I r299, sv_I r304, sv_I r294, sv_I p1, .ref 0] (sv_sts S [68, 69, 70] g2)
      have h := h r309 hr309 hpo308
      obtain ⟨o310, h⟩ := h
      refine sv_callV hM dX12_binarySet_52 sm_iv_990 (by decide) (sm_a0 _) rfl rfl (Nat.le_of_ble_eq_true rfl) sm_h137 (Nat.le_of_ble_eq_true rfl) (Nat.le_of_ble_eq_true rfl) (F' := 4) (Nat.le_of_ble_eq_true rfl) rfl (t_binaryOf_ p1 r294 r304 r299 r309 (sv_sts S [68, 69, 70] g2) ok306 hp1 hr294 hr304 hr299 hr309 o310) (fun v S1 hq => ?_)
      obtain ⟨rfl, ok312, md313, hpo314⟩ := hq
      obtain ⟨g311, rfl⟩ : ∃ g, S1 = sv_sts (sv_sts S [68, 69, 70] g2) [5, 1011, 1113, 1111, 1112] g := ⟨_, md313.eq⟩
      show sv_T sm_XS sm_cs sm_L sm_sh 5 (q_binarySet p1 p2 p3 p4 S) 273 55 [(0, .ref 0), (1, sv_I p1), (2, sv_I p2), (3, sv_I p3), (4, sv_I p4), (5, sv_I r294), (6, sv_I r299)] [] (sv_sts (sv_sts S [68, 69, 70] g2) [5, 1011, 1113, 1111, 1112] g311)
      have md315 : sv_mod [68, 69, 70, 1113, 1111, 1112, 5, 1011] S (sv_sts (sv_sts S [68, 69, 70] g2) [5, 1011, 1113, 1111, 1112] g311) := sv_mod.sts md6 (by decide)
      have h := h g311 hpo314
      refine sv_aload_n hM dX12_binarySet_55 rfl rfl ?_
      refine sv_iload_n hM dX12_binarySet_56 rfl rfl ?_
      refine sv_iload hM dX12_binarySet_57 rfl rfl ?_
      refine sv_iload hM dX12_binarySet_59 rfl rfl ?_
      refine sv_callV hM dX12_binarySet_61 sm_iv_830 (by decide) (sm_a0 _) rfl rfl (Nat.le_of_ble_eq_true rfl) sm_h136 (Nat.le_of_ble_eq_true rfl) (Nat.le_of_ble_eq_true rfl) (F' := 0) (Nat.le_of_ble_eq_true rfl) rfl (t_joinsTexts p1 r294 r299 (sv_sts (sv_sts S [68, 69, 70] g2) [5, 1011, 1113, 1111, 1112] g311) ok312 hp1 hr294 hr299) (fun v S1 hq => ?_)
      obtain ⟨r320, rfl, hr320, ok317, md318, hpo319⟩ := hq
      obtain rfl : (sv_sts (sv_sts S [68, 69, 70] g2) [5, 1011, 1113, 1111, 1112] g311) = S1 := (funext fun j => md318 j (by intro q; cases q)).symm
      show sv_T sm_XS sm_cs sm_L sm_sh 5 (q_binarySet p1 p2 p3 p4 S) 273 64 [(0, .ref 0), (1, sv_I p1), (2, sv_I p2), (3, sv_I p3), (4, sv_I p4), (5, sv_I r294), (6, sv_I r299)] [sv_I r320] (sv_sts (sv_sts S [68, 69, 70] g2) [5, 1011, 1113, 1111, 1112] g311)
      have h := h r320 hr320 hpo319
      refine sv_cond_eq hM dX12_binarySet_64 hr320 (t := 102) rfl rfl (fun hc => ?_) (fun hc => ?_)
      · have h := h.1 (hc)
        refine sv_aload_n hM dX12_binarySet_102 rfl rfl ?_
        refine sv_iload hM dX12_binarySet_103 rfl rfl ?_
        refine sv_aload_n hM dX12_binarySet_105 rfl rfl ?_
        have k321 : sv_R (g311 1111 0) := sm_okI ok317 sm_r1111 0
        have h := h k321
        refine sv_getI hM dX12_binarySet_106 sm_fl_788 (sm_a0 _) sm_k111 rfl (x := (g311 1111 0)) rfl ?_
        refine sv_aload_n hM dX12_binarySet_109 rfl rfl ?_
        have k322 : sv_R (g311 1112 0) := sm_okI ok317 sm_r1112 0
        have h := h k322
        refine sv_getI hM dX12_binarySet_110 sm_fl_791 (sm_a0 _) sm_k112 rfl (x := (g311 1112 0)) rfl ?_
        obtain ⟨o323, h⟩ := h
        refine sv_callV hM dX12_binarySet_113 sm_iv_1219 (by decide) (sm_a0 _) rfl rfl (Nat.le_of_ble_eq_true rfl) sm_h218 (Nat.le_of_ble_eq_true rfl) (Nat.le_of_ble_eq_true rfl) (F' := 3) (Nat.le_of_ble_eq_true rfl) rfl (t_addValue p4 (g311 1111 0) (g311 1112 0) (sv_sts (sv_sts S [68, 69, 70] g2) [5, 1011, 1113, 1111, 1112] g311) ok317 hp4 k321 k322 o323) (fun v S1 hq => ?_)
        obtain ⟨rfl, ok325, md326, hpo327⟩ := hq
        obtain ⟨g324, rfl⟩ : ∃ g, S1 = sv_sts (sv_sts (sv_sts S [68, 69, 70] g2) [5, 1011, 1113, 1111, 1112] g311) [68, 69, 70] g := ⟨_, md326.eq⟩
        show sv_T sm_XS sm_cs sm_L sm_sh 5 (q_binarySet p1 p2 p3 p4 S) 273 116 [(0, .ref 0), (1, sv_I p1), (2, sv_I p2), (3, sv_I p3), (4, sv_I p4), (5, sv_I r294), (6, sv_I r299)] [] (sv_sts (sv_sts (sv_sts S [68, 69, 70] g2) [5, 1011, 1113, 1111, 1112] g311) [68, 69, 70] g324)
        have md328 : sv_mod [68, 69, 70, 1113, 1111, 1112, 5, 1011] S (sv_sts (sv_sts (sv_sts S [68, 69, 70] g2) [5, 1011, 1113, 1111, 1112] g311) [68, 69, 70] g324) := sv_mod.sts md315 (by decide)
        have h := h g324 hpo327
        refine sv_goto hM dX12_binarySet_116 (pc' := 234) rfl ?_
        exact sv_vret hM dX12_binarySet_234 rfl ⟨rfl, ok325, md328, h⟩
      · have h := h.2 (hc)
        refine sv_aload_n hM dX12_binarySet_67 rfl rfl ?_
        refine sv_aload_n hM dX12_binarySet_68 rfl rfl ?_
        have k329 : sv_R (g311 1011 0) := sm_okI ok317 sm_r1011 0
        have h := h k329
        refine sv_getI hM dX12_binarySet_69 sm_fl_299 (sm_a0 _) sm_k11 rfl (x := (g311 1011 0)) rfl ?_
        refine sv_bipush (d := (60 : Int)) hM dX12_binarySet_72 rfl rfl ?_
        refine sv_icmp_le hM dX12_binarySet_74 k329 (⟨by decide, by decide⟩ : sv_R (60 : Int)) (t := 82) rfl rfl (fun hc => ?_) (fun hc => ?_)
        · have h := h.1 (hc)
          refine sv_aload_n hM dX12_binarySet_82 rfl rfl ?_
          refine sv_getI hM dX12_binarySet_83 sm_fl_299 (sm_a0 _) sm_k11 rfl (x := (g311 1011 0)) rfl ?_
          refine sv_putI sm_X hM dX12_binarySet_86 sm_fp_299 (sm_a0 _) sm_q11 (Or.inl rfl) rfl rfl rfl rfl ?_
          have ok330 : sm_ok (sv_up (sv_sts (sv_sts S [68, 69, 70] g2) [5, 1011, 1113, 1111, 1112] g311) 1011 0 (g311 1011 0)) := sm_upI ok317 sm_r1011 k329
          have md331 : sv_mod [68, 69, 70, 1113, 1111, 1112, 5, 1011] S (sv_up (sv_sts (sv_sts S [68, 69, 70] g2) [5, 1011, 1113, 1111, 1112] g311) 1011 0 (g311 1011 0)) := sv_mod.up md315 (by decide)
          refine sv_aload_n hM dX12_binarySet_89 rfl rfl ?_
          refine sv_iload hM dX12_binarySet_90 rfl rfl ?_
          refine sv_aload_n hM dX12_binarySet_92 rfl rfl ?_
          obtain ⟨o332, h⟩ := h
          refine sv_callV hM dX12_binarySet_93 sm_iv_1144 (by decide) (sm_a0 _) rfl rfl (Nat.le_of_ble_eq_true rfl) sm_h246 (Nat.le_of_ble_eq_true rfl) (Nat.le_of_ble_eq_true rfl) (F' := 1) (Nat.le_of_ble_eq_true rfl) rfl (t_findName  (sv_up (sv_sts (sv_sts S [68, 69, 70] g2) [5, 1011, 1113, 1111, 1112] g311) 1011 0 (g311 1011 0)) ok330 o332) (fun v S1 hq => ?_)
          obtain ⟨r337, rfl, hr337, ok334, md335, hpo336⟩ := hq
          obtain rfl : (sv_up (sv_sts (sv_sts S [68, 69, 70] g2) [5, 1011, 1113, 1111, 1112] g311) 1011 0 (g311 1011 0)) = S1 := (funext fun j => md335 j (by intro q; cases q)).symm
          show sv_T sm_XS sm_cs sm_L sm_sh 5 (q_binarySet p1 p2 p3 p4 S) 273 96 [(0, .ref 0), (1, sv_I p1), (2, sv_I p2), (3, sv_I p3), (4, sv_I p4), (5, sv_I r294), (6, sv_I r299)] [sv_I r337, sv_I p4, .ref 0] (sv_up (sv_sts (sv_sts S [68, 69, 70] g2) [5, 1011, 1113, 1111, 1112] g311) 1011 0 (g311 1011 0))
          have h := h r337 hr337 hpo336
          obtain ⟨o338, h⟩ := h
          refine sv_callV hM dX12_binarySet_96 sm_iv_1078 (by decide) (sm_a0 _) rfl rfl (Nat.le_of_ble_eq_true rfl) sm_h215 (Nat.le_of_ble_eq_true rfl) (Nat.le_of_ble_eq_true rfl) (F' := 2) (Nat.le_of_ble_eq_true rfl) rfl (t_addString p4 r337 (sv_up (sv_sts (sv_sts S [68, 69, 70] g2) [5, 1011, 1113, 1111, 1112] g311) 1011 0 (g311 1011 0)) ok334 hp4 hr337 o338) (fun v S1 hq => ?_)
          obtain ⟨rfl, ok340, md341, hpo342⟩ := hq
          obtain ⟨g339, rfl⟩ : ∃ g, S1 = sv_sts (sv_up (sv_sts (sv_sts S [68, 69, 70] g2) [5, 1011, 1113, 1111, 1112] g311) 1011 0 (g311 1011 0)) [68, 69, 70] g := ⟨_, md341.eq⟩
          show sv_T sm_XS sm_cs sm_L sm_sh 5 (q_binarySet p1 p2 p3 p4 S) 273 99 [(0, .ref 0), (1, sv_I p1), (2, sv_I p2), (3, sv_I p3), (4, sv_I p4), (5, sv_I r294), (6, sv_I r299)] [] (sv_sts (sv_up (sv_sts (sv_sts S [68, 69, 70] g2) [5, 1011, 1113, 1111, 1112] g311) 1011 0 (g311 1011 0)) [68, 69, 70] g339)
          have md343 : sv_mod [68, 69, 70, 1113, 1111, 1112, 5, 1011] S (sv_sts (sv_up (sv_sts (sv_sts S [68, 69, 70] g2) [5, 1011, 1113, 1111, 1112] g311) 1011 0 (g311 1011 0)) [68, 69, 70] g339) := sv_mod.sts md331 (by decide)
          have h := h g339 hpo342
          refine sv_goto hM dX12_binarySet_99 (pc' := 116) rfl ?_
          refine sv_goto hM dX12_binarySet_116 (pc' := 234) rfl ?_
          exact sv_vret hM dX12_binarySet_234 rfl ⟨rfl, ok340, md343, h⟩
        · have h := h.2 (hc)
          refine sv_bipush (d := (60 : Int)) hM dX12_binarySet_77 rfl rfl ?_
          refine sv_goto hM dX12_binarySet_79 (pc' := 86) rfl ?_
          refine sv_putI sm_X hM dX12_binarySet_86 sm_fp_299 (sm_a0 _) sm_q11 (Or.inl rfl) rfl rfl rfl rfl ?_
          have ok344 : sm_ok (sv_up (sv_sts (sv_sts S [68, 69, 70] g2) [5, 1011, 1113, 1111, 1112] g311) 1011 0 (60 : Int)) := sm_upI ok317 sm_r1011 (⟨by decide, by decide⟩ : sv_R (60 : Int))
          have md345 : sv_mod [68, 69, 70, 1113, 1111, 1112, 5, 1011] S (sv_up (sv_sts (sv_sts S [68, 69, 70] g2) [5, 1011, 1113, 1111, 1112] g311) 1011 0 (60 : Int)) := sv_mod.up md315 (by decide)
          refine sv_aload_n hM dX12_binarySet_89 rfl rfl ?_
          refine sv_iload hM dX12_binarySet_90 rfl rfl ?_
          refine sv_aload_n hM dX12_binarySet_92 rfl rfl ?_
          obtain ⟨o346, h⟩ := h
          refine sv_callV hM dX12_binarySet_93 sm_iv_1144 (by decide) (sm_a0 _) rfl rfl (Nat.le_of_ble_eq_true rfl) sm_h246 (Nat.le_of_ble_eq_true rfl) (Nat.le_of_ble_eq_true rfl) (F' := 1) (Nat.le_of_ble_eq_true rfl) rfl (t_findName  (sv_up (sv_sts (sv_sts S [68, 69, 70] g2) [5, 1011, 1113, 1111, 1112] g311) 1011 0 (60 : Int)) ok344 o346) (fun v S1 hq => ?_)
          obtain ⟨r351, rfl, hr351, ok348, md349, hpo350⟩ := hq
          obtain rfl : (sv_up (sv_sts (sv_sts S [68, 69, 70] g2) [5, 1011, 1113, 1111, 1112] g311) 1011 0 (60 : Int)) = S1 := (funext fun j => md349 j (by intro q; cases q)).symm
          show sv_T sm_XS sm_cs sm_L sm_sh 5 (q_binarySet p1 p2 p3 p4 S) 273 96 [(0, .ref 0), (1, sv_I p1), (2, sv_I p2), (3, sv_I p3), (4, sv_I p4), (5, sv_I r294), (6, sv_I r299)] [sv_I r351, sv_I p4, .ref 0] (sv_up (sv_sts (sv_sts S [68, 69, 70] g2) [5, 1011, 1113, 1111, 1112] g311) 1011 0 (60 : Int))
          have h := h r351 hr351 hpo350
          obtain ⟨o352, h⟩ := h
          refine sv_callV hM dX12_binarySet_96 sm_iv_1078 (by decide) (sm_a0 _) rfl rfl (Nat.le_of_ble_eq_true rfl) sm_h215 (Nat.le_of_ble_eq_true rfl) (Nat.le_of_ble_eq_true rfl) (F' := 2) (Nat.le_of_ble_eq_true rfl) rfl (t_addString p4 r351 (sv_up (sv_sts (sv_sts S [68, 69, 70] g2) [5, 1011, 1113, 1111, 1112] g311) 1011 0 (60 : Int)) ok348 hp4 hr351 o352) (fun v S1 hq => ?_)
          obtain ⟨rfl, ok354, md355, hpo356⟩ := hq
          obtain ⟨g353, rfl⟩ : ∃ g, S1 = sv_sts (sv_up (sv_sts (sv_sts S [68, 69, 70] g2) [5, 1011, 1113, 1111, 1112] g311) 1011 0 (60 : Int)) [68, 69, 70] g := ⟨_, md355.eq⟩
          show sv_T sm_XS sm_cs sm_L sm_sh 5 (q_binarySet p1 p2 p3 p4 S) 273 99 [(0, .ref 0), (1, sv_I p1), (2, sv_I p2), (3, sv_I p3), (4, sv_I p4), (5, sv_I r294), (6, sv_I r299)] [] (sv_sts (sv_up (sv_sts (sv_sts S [68, 69, 70] g2) [5, 1011, 1113, 1111, 1112] g311) 1011 0 (60 : Int)) [68, 69, 70] g353)
          have md357 : sv_mod [68, 69, 70, 1113, 1111, 1112, 5, 1011] S (sv_sts (sv_up (sv_sts (sv_sts S [68, 69, 70] g2) [5, 1011, 1113, 1111, 1112] g311) 1011 0 (60 : Int)) [68, 69, 70] g353) := sv_mod.sts md345 (by decide)
          have h := h g353 hpo356
          refine sv_goto hM dX12_binarySet_99 (pc' := 116) rfl ?_
          refine sv_goto hM dX12_binarySet_116 (pc' := 234) rfl ?_
          exact sv_vret hM dX12_binarySet_234 rfl ⟨rfl, ok354, md357, h⟩
def q_getOfString (p1 : Int) (p2 : Int) (S : sv_S) : Option Value → sv_S → Prop := fun v S' => v = none ∧ sm_ok S' ∧ sv_mod [68, 69, 70, 1143, 1144, 1145] S S' ∧ (sm_pt (S' 68) (S' 69) (S' 70) = sm_pt (S 68) (S 69) (S 70))
theorem la_getOfString_0 : (0 : Int) ≤ 0 ∧ (0 : Int) < 128 := by omega
theorem la_getOfString_1 {x0 : Int} (h0 : x0 = 0) : ¬ x0 = 1 := by omega
theorem la_getOfString_2 {x0 : Int} (h0 : x0 + 1 < 647790) (h1 : 635639 ≤ x0) : sv_R (x0 + 1) := by omega
theorem la_getOfString_3 {x0 x1 : Int} (h0 : 0 ≤ x0) (h1 : x0 ≤ 11557) (h2 : x1 + 1 < 647790) (h3 : 635639 ≤ x1) : 0 ≤ x0 ∧ x0 ≤ 11557 ∧ 635639 ≤ x1 + 1 ∧ x1 + 1 < 647790 := by omega
theorem la_getOfString_4 {x0 : Int} (h0 : x0 + 1 < 647790) (h1 : 635639 ≤ x0) : 0 ≤ x0 + 1 ∧ x0 + 1 < 647800 ∧ 0 ≤ x0 ∧ x0 < 647800 := by omega
theorem la_getOfString_5 {x0 : Int} (h0 : 635639 ≤ x0) : ¬ x0 < 635639 := by omega
theorem la_getOfString_6 {x0 x1 x2 x3 : Int} (h0 : x0 = x1) (h1 : x2 = x0) : x3 = 0 → x2 = x1 := by omega
theorem la_getOfString_7 {x0 : Int} (h0 : 0 ≤ x0) (h1 : ¬ x0 = 0) : 0 < x0 := by omega
theorem la_getOfString_8 {x0 : Int} (h0 : x0 + 1 < 647790) (h1 : 635639 ≤ x0) : 635639 ≤ x0 ∧ x0 < 647790 := by omega
theorem la_getOfString_9 {x0 x1 x2 x3 : Int} (h0 : x0 = x1) (h1 : x2 = x0) (h2 : x3 = x2) : x3 = x1 := by omega
theorem la_getOfString_10 {x0 : Int} (h0 : x0 = 1) : 0 ≤ x0 := by omega
theorem la_getOfString_11 {x0 : Int} (h0 : 0 ≤ x0) (h1 : x0 < 647800) : 0 ≤ x0 ∧ x0 < 647800 := by omega
theorem la_getOfString_12 {x0 x1 x2 x3 x4 : Int} (h0 : x0 = x1) (h1 : x2 = x0) (h2 : x3 = x2) : x4 = 0 → x3 = x1 := by omega
theorem la_getOfString_13 {x0 x1 x2 x3 x4 : Int} (h0 : x0 = x1) (h1 : x2 = x0) (h2 : x3 = x2) (h3 : x4 = x3) : x4 = x1 := by omega
theorem la_getOfString_14 {x0 : Int} (h0 : 0 ≤ x0) (h1 : x0 ≤ 127) : 0 ≤ x0 ∧ x0 < 400 := by omega
set_option maxHeartbeats 2000000 in
theorem f_getOfString : ∀ (p1 : Int) (p2 : Int) (S : sv_S), sm_ok S → sv_R p1 → sv_R p2 → (29 ≤ (S 1071 0) ∧ (S 1071 0) ≤ 127 ∧ 31 ≤ (S 1008 0) ∧ (S 1008 0) ≤ 90 ∧ 1 ≤ (S 1032 0) ∧ (S 1032 0) ≤ 11 ∧ 0 ≤ (S 1055 0) ∧ (S 1055 0) ≤ 19 ∧ (S 1071 0) = 29 + 6 * ((S 1032 0) - 1) + 2 * (S 1055 0) ∧ 0 ≤ (S 1046 0) ∧ (S 1046 0) + 2 * (S 1032 0) ≤ 500 ∧ sm_PD (S 1046 0) (S 1032 0) (S 1071 0) (S 1008 0) ∧ 0 ≤ (S 1071 0) * ((S 1008 0) + 1) ∧ (S 1071 0) * ((S 1008 0) + 1) ≤ 11557 ∧ 31 ≤ (S 1007 0) ∧ (S 1007 0) ≤ 400 ∧ sm_LN (S 4) 400 (S 1007 0) ∧ 0 ≤ p1 ∧ p1 < 647800 ∧ 635639 ≤ p2 + 1 ∧ p2 + 1 < 647790 ∧ 635639 ≤ p2 ∧ p2 < 647790) → (0 ≤ (0 : Int) ∧ (0 : Int) < 128) ∧ (∀ r6 : Int, sv_R r6 → (r6 = 0 ∨ r6 = 1) → (((r6 = (0 : Int)) → (sv_RL (S 1143 0) → (∀ r8 : Int, sv_RL r8 → (sv_R (p2 + (1 : Int))) ∧ (29 ≤ (S 1071 0) ∧ (S 1071 0) ≤ 127 ∧ 31 ≤ (S 1008 0) ∧ (S 1008 0) ≤ 90 ∧ 1 ≤ (S 1032 0) ∧ (S 1032 0) ≤ 11 ∧ 0 ≤ (S 1055 0) ∧ (S 1055 0) ≤ 19 ∧ (S 1071 0) = 29 + 6 * ((S 1032 0) - 1) + 2 * (S 1055 0) ∧ 0 ≤ (S 1046 0) ∧ (S 1046 0) + 2 * (S 1032 0) ≤ 500 ∧ sm_PD (S 1046 0) (S 1032 0) (S 1071 0) (S 1008 0) ∧ 0 ≤ (S 1071 0) * ((S 1008 0) + 1) ∧ (S 1071 0) * ((S 1008 0) + 1) ≤ 11557 ∧ 635639 ≤ (p2 + (1 : Int)) ∧ (p2 + (1 : Int)) < 647790) ∧ (∀ g13 : sv_S, (sm_pt (g13 68) (g13 69) (g13 70) = sm_pt (S 68) (S 69) (S 70)) → (0 ≤ (p2 + (1 : Int)) ∧ (p2 + (1 : Int)) < 647800 ∧ 0 ≤ p2 ∧ p2 < 647800) ∧ (∀ r23 : Int, sv_R r23 → ∀ g19 : sv_S, ((635639 ≤ p2 → sm_pt (g19 68) (g19 69) (g19 70) = sm_pt (g13 68) (g13 69) (g13 70)) ∧ (r23 = 0 ∨ r23 = 1) ∧ (p2 < 635639 → sm_pt (g19 68) (g19 69) (g19 70) + r23 ≤ sm_pt (g13 68) (g13 69) (g13 70))) → ((0 ≤ (g13 1145 0) ∧ (g13 1145 0) ≤ 1) → ((((g13 1145 0) = (0 : Int)) → (sm_pt (g19 68) (g19 69) (g19 70) = sm_pt (S 68) (S 69) (S 70))) ∧ ((¬ ((g13 1145 0) = (0 : Int))) → (635639 ≤ p2 ∧ p2 < 647790) ∧ (∀ g27 : sv_S, (sm_pt (g27 68) (g27 69) (g27 70) = sm_pt (g19 68) (g19 69) (g19 70)) → (sm_pt (g27 68) (g27 69) (g27 70) = sm_pt (S 68) (S 69) (S 70))))))))))) ∧ ((¬ (r6 = (0 : Int))) → (0 ≤ p1 ∧ p1 < 647800) ∧ (∀ r37 : Int, sv_R r37 → (r37 = 0 ∨ r37 = 1) → (((r37 = (0 : Int)) → (635639 ≤ p2 ∧ p2 < 647790) ∧ (∀ g39 : sv_S, (sm_pt (g39 68) (g39 69) (g39 70) = sm_pt (S 68) (S 69) (S 70)) → (sv_RL (S 1143 0) → (∀ r45 : Int, sv_RL r45 → (sv_R (p2 + (1 : Int))) ∧ (29 ≤ (S 1071 0) ∧ (S 1071 0) ≤ 127 ∧ 31 ≤ (S 1008 0) ∧ (S 1008 0) ≤ 90 ∧ 1 ≤ (S 1032 0) ∧ (S 1032 0) ≤ 11 ∧ 0 ≤ (S 1055 0) ∧ (S 1055 0) ≤ 19 ∧ (S 1071 0) = 29 + 6 * ((S 1032 0) - 1) + 2 * (S 1055 0) ∧ 0 ≤ (S 1046 0) ∧ (S 1046 0) + 2 * (S 1032 0) ≤ 500 ∧ sm_PD (S 1046 0) (S 1032 0) (S 1071 0) (S 1008 0) ∧ 0 ≤ (S 1071 0) * ((S 1008 0) + 1) ∧ (S 1071 0) * ((S 1008 0) + 1) ≤ 11557 ∧ 635639 ≤ (p2 + (1 : Int)) ∧ (p2 + (1 : Int)) < 647790) ∧ (∀ g50 : sv_S, (sm_pt (g50 68) (g50 69) (g50 70) = sm_pt (g39 68) (g39 69) (g39 70)) → (0 ≤ (p2 + (1 : Int)) ∧ (p2 + (1 : Int)) < 647800 ∧ 0 ≤ p2 ∧ p2 < 647800) ∧ (∀ r60 : Int, sv_R r60 → ∀ g56 : sv_S, ((635639 ≤ p2 → sm_pt (g56 68) (g56 69) (g56 70) = sm_pt (g50 68) (g50 69) (g50 70)) ∧ (r60 = 0 ∨ r60 = 1) ∧ (p2 < 635639 → sm_pt (g56 68) (g56 69) (g56 70) + r60 ≤ sm_pt (g50 68) (g50 69) (g50 70))) → ((0 ≤ (g50 1145 0) ∧ (g50 1145 0) ≤ 1) → ((((g50 1145 0) = (0 : Int)) → (sm_pt (g56 68) (g56 69) (g56 70) = sm_pt (S 68) (S 69) (S 70))) ∧ ((¬ ((g50 1145 0) = (0 : Int))) → (∀ g63 : sv_S, (sm_pt (g63 68) (g63 69) (g63 70) = sm_pt (g56 68) (g56 69) (g56 70)) → (sm_pt (g63 68) (g63 69) (g63 70) = sm_pt (S 68) (S 69) (S 70)))))))))))) ∧ ((¬ (r37 = (0 : Int))) → (∀ r72 : Int, sv_R r72 → (0 ≤ r72 ∧ r72 ≤ 127) → (0 ≤ r72 ∧ r72 < 400) ∧ (sv_R (S 4 r72) → (635639 ≤ p2 ∧ p2 < 647790) ∧ (∀ g76 : sv_S, (sm_pt (g76 68) (g76 69) (g76 70) = sm_pt (S 68) (S 69) (S 70)) → (sv_RL (S 1143 0) → (∀ r82 : Int, sv_RL r82 → (sv_R (p2 + (1 : Int))) ∧ (29 ≤ (S 1071 0) ∧ (S 1071 0) ≤ 127 ∧ 31 ≤ (S 1008 0) ∧ (S 1008 0) ≤ 90 ∧ 1 ≤ (S 1032 0) ∧ (S 1032 0) ≤ 11 ∧ 0 ≤ (S 1055 0) ∧ (S 1055 0) ≤ 19 ∧ (S 1071 0) = 29 + 6 * ((S 1032 0) - 1) + 2 * (S 1055 0) ∧ 0 ≤ (S 1046 0) ∧ (S 1046 0) + 2 * (S 1032 0) ≤ 500 ∧ sm_PD (S 1046 0) (S 1032 0) (S 1071 0) (S 1008 0) ∧ 0 ≤ (S 1071 0) * ((S 1008 0) + 1) ∧ (S 1071 0) * ((S 1008 0) + 1) ≤ 11557 ∧ 635639 ≤ (p2 + (1 : Int)) ∧ (p2 + (1 : Int)) < 647790) ∧ (∀ g87 : sv_S, (sm_pt (g87 68) (g87 69) (g87 70) = sm_pt (g76 68) (g76 69) (g76 70)) → (0 ≤ (p2 + (1 : Int)) ∧ (p2 + (1 : Int)) < 647800 ∧ 0 ≤ p2 ∧ p2 < 647800) ∧ (∀ r97 : Int, sv_R r97 → ∀ g93 : sv_S, ((635639 ≤ p2 → sm_pt (g93 68) (g93 69) (g93 70) = sm_pt (g87 68) (g87 69) (g87 70)) ∧ (r97 = 0 ∨ r97 = 1) ∧ (p2 < 635639 → sm_pt (g93 68) (g93 69) (g93 70) + r97 ≤ sm_pt (g87 68) (g87 69) (g87 70))) → ((0 ≤ (g87 1145 0) ∧ (g87 1145 0) ≤ 1) → ((((g87 1145 0) = (0 : Int)) → (sm_pt (g93 68) (g93 69) (g93 70) = sm_pt (S 68) (S 69) (S 70))) ∧ ((¬ ((g87 1145 0) = (0 : Int))) → (∀ g100 : sv_S, (sm_pt (g100 68) (g100 69) (g100 70) = sm_pt (g93 68) (g93 69) (g93 70)) → (sm_pt (g100 68) (g100 69) (g100 70) = sm_pt (S 68) (S 69) (S 70))))))))))))))))))) := by
  intro p1
  intro p2
  intro S
  intro h1_
  intro h2_
  intro h3_
  rintro ⟨h4_, ⟨h5_, ⟨h6_, ⟨h7_, ⟨h8_, ⟨h9_, ⟨h10_, ⟨h11_, ⟨h12_, ⟨h13_, ⟨h14_, ⟨h15_, ⟨h16_, ⟨h17_, ⟨h18_, ⟨h19_, ⟨h20_, ⟨h21_, ⟨h22_, ⟨h23_, ⟨h24_, ⟨h25_, h26_⟩⟩⟩⟩⟩⟩⟩⟩⟩⟩⟩⟩⟩⟩⟩⟩⟩⟩⟩⟩⟩⟩
  refine ⟨la_getOfString_0, ?_⟩
  intro r6
  intro h27_
  intro h28_
  refine ⟨?_, ?_⟩
  · skip
    intro h29_
    have h30_ := (h28_.resolve_right (la_getOfString_1 h29_))
    intro h31_
    intro r8
    intro h32_
    refine ⟨(la_getOfString_2 h24_ h25_), ?_⟩
    refine ⟨⟨h4_, ⟨h5_, ⟨h6_, ⟨h7_, ⟨h8_, ⟨h9_, ⟨h10_, ⟨h11_, ⟨h12_, ⟨h13_, ⟨h14_, ⟨h15_, (la_getOfString_3 h16_ h17_ h24_ h25_)⟩⟩⟩⟩⟩⟩⟩⟩⟩⟩⟩⟩, ?_⟩
    intro g13
    intro h33_
    refine ⟨(la_getOfString_4 h24_ h25_), ?_⟩
    intro r23
    intro h34_
    intro g19
    rintro ⟨h35_, ⟨h36_, h37_⟩⟩
    have h38_ := (h35_ h25_)
    rintro ⟨h39_, h40_⟩
    refine ⟨(la_getOfString_6 h33_ h38_), ?_⟩
    intro h41_
    refine ⟨(la_getOfString_8 h24_ h25_), ?_⟩
    intro g27
    intro h42_
    exact (la_getOfString_9 h33_ h38_ h42_)
  intro h43_
  have h44_ := (h28_.resolve_left h43_)
  refine ⟨(la_getOfString_11 h21_ h22_), ?_⟩
  intro r37
  intro h45_
  intro h46_
  refine ⟨?_, ?_⟩
  · skip
    intro h47_
    have h48_ := (h46_.resolve_right (la_getOfString_1 h47_))
    refine ⟨(la_getOfString_8 h24_ h25_), ?_⟩
    intro g39
    intro h49_
    intro h50_
    intro r45
    intro h51_
    refine ⟨(la_getOfString_2 h24_ h25_), ?_⟩
    refine ⟨⟨h4_, ⟨h5_, ⟨h6_, ⟨h7_, ⟨h8_, ⟨h9_, ⟨h10_, ⟨h11_, ⟨h12_, ⟨h13_, ⟨h14_, ⟨h15_, (la_getOfString_3 h16_ h17_ h24_ h25_)⟩⟩⟩⟩⟩⟩⟩⟩⟩⟩⟩⟩, ?_⟩
    intro g50
    intro h52_
    refine ⟨(la_getOfString_4 h24_ h25_), ?_⟩
    intro r60
    intro h53_
    intro g56
    rintro ⟨h54_, ⟨h55_, h56_⟩⟩
    have h57_ := (h54_ h25_)
    rintro ⟨h58_, h59_⟩
    refine ⟨(la_getOfString_12 h49_ h52_ h57_), ?_⟩
    intro h60_
    intro g63
    intro h61_
    exact (la_getOfString_13 h49_ h52_ h57_ h61_)
  intro h62_
  have h63_ := (h46_.resolve_left h62_)
  intro r72
  intro h64_
  rintro ⟨h65_, h66_⟩
  refine ⟨(la_getOfString_14 h65_ h66_), ?_⟩
  intro h67_
  refine ⟨(la_getOfString_8 h24_ h25_), ?_⟩
  intro g76
  intro h68_
  intro h69_
  intro r82
  intro h70_
  refine ⟨(la_getOfString_2 h24_ h25_), ?_⟩
  refine ⟨⟨h4_, ⟨h5_, ⟨h6_, ⟨h7_, ⟨h8_, ⟨h9_, ⟨h10_, ⟨h11_, ⟨h12_, ⟨h13_, ⟨h14_, ⟨h15_, (la_getOfString_3 h16_ h17_ h24_ h25_)⟩⟩⟩⟩⟩⟩⟩⟩⟩⟩⟩⟩, ?_⟩
  intro g87
  intro h71_
  refine ⟨(la_getOfString_4 h24_ h25_), ?_⟩
  intro r97
  intro h72_
  intro g93
  rintro ⟨h73_, ⟨h74_, h75_⟩⟩
  have h76_ := (h73_ h25_)
  rintro ⟨h77_, h78_⟩
  refine ⟨(la_getOfString_12 h68_ h71_ h76_), ?_⟩
  intro h79_
  intro g100
  intro h80_
  exact (la_getOfString_13 h68_ h71_ h76_ h80_)
set_option maxRecDepth 8000 in
set_option maxHeartbeats 2000000 in
theorem t_getOfString : ∀ (p1 : Int) (p2 : Int) (S : sv_S), sm_ok S → sv_R p1 → sv_R p2 → (29 ≤ (S 1071 0) ∧ (S 1071 0) ≤ 127 ∧ 31 ≤ (S 1008 0) ∧ (S 1008 0) ≤ 90 ∧ 1 ≤ (S 1032 0) ∧ (S 1032 0) ≤ 11 ∧ 0 ≤ (S 1055 0) ∧ (S 1055 0) ≤ 19 ∧ (S 1071 0) = 29 + 6 * ((S 1032 0) - 1) + 2 * (S 1055 0) ∧ 0 ≤ (S 1046 0) ∧ (S 1046 0) + 2 * (S 1032 0) ≤ 500 ∧ sm_PD (S 1046 0) (S 1032 0) (S 1071 0) (S 1008 0) ∧ 0 ≤ (S 1071 0) * ((S 1008 0) + 1) ∧ (S 1071 0) * ((S 1008 0) + 1) ≤ 11557 ∧ 31 ≤ (S 1007 0) ∧ (S 1007 0) ≤ 400 ∧ sm_LN (S 4) 400 (S 1007 0) ∧ 0 ≤ p1 ∧ p1 < 647800 ∧ 635639 ≤ p2 + 1 ∧ p2 + 1 < 647790 ∧ 635639 ≤ p2 ∧ p2 < 647790) → sv_T sm_XS sm_cs sm_L sm_sh 4 (q_getOfString p1 p2 S) 275 0 (lv_args 0 [.ref 0, sv_I p1, sv_I p2]) [] S := by
  intro p1 p2 S hok hp1 hp2 hpre
  have h := f_getOfString p1 p2 S hok hp1 hp2 hpre
  have hM := sm_h275
  show sv_T sm_XS sm_cs sm_L sm_sh 4 (q_getOfString p1 p2 S) 275 0 [(0, .ref 0), (1, sv_I p1), (2, sv_I p2)] [] S
  refine sv_aload_n hM dX12_getOfString_0 rfl rfl ?_
  refine sv_iconst (d := (0 : Int)) hM dX12_getOfString_1 rfl rfl ?_
  obtain ⟨o1, h⟩ := h
  refine sv_callV hM dX12_getOfString_2 sm_iv_1153 (by decide) (sm_a0 _) rfl rfl (Nat.le_of_ble_eq_true rfl) sm_h242 (Nat.le_of_ble_eq_true rfl) (Nat.le_of_ble_eq_true rfl) (F' := 1) (Nat.le_of_ble_eq_true rfl) rfl (t_hasKey (0 : Int) S hok (⟨by decide, by decide⟩ : sv_R (0 : Int)) o1) (fun v S1 hq => ?_)
  obtain ⟨r6, rfl, hr6, ok3, md4, hpo5⟩ := hq
  obtain rfl : S = S1 := (funext fun j => md4 j (by intro q; cases q)).symm
  show sv_T sm_XS sm_cs sm_L sm_sh 4 (q_getOfString p1 p2 S) 275 5 [(0, .ref 0), (1, sv_I p1), (2, sv_I p2)] [sv_I r6] S
  have h := h r6 hr6 hpo5
  refine sv_cond_eq hM dX12_getOfString_5 hr6 (t := 41) rfl rfl (fun hc => ?_) (fun hc => ?_)
  · have h := h.1 (hc)
    refine sv_aload_n hM dX12_getOfString_41 rfl rfl ?_
    refine sv_aload_n hM dX12_getOfString_42 rfl rfl ?_
    have k7 : sv_RL (S 1143 0) := sm_okJ ok3 sm_r1143 0
    have h := h k7
    refine sv_getL hM dX12_getOfString_43 sm_fl_1118 (sm_a0 _) sm_k143 rfl (x := (S 1143 0)) rfl ?_
    refine sv_ldc2_w (d := (-2 : Int)) hM dX12_getOfString_46 sm_ck_1310 rfl rfl ?_
    refine sv_anyL hM dX12_getOfString_49 rfl rfl (fun r8 hr8 _ => ?_)
    have h := h r8 hr8
    refine sv_putL sm_X hM dX12_getOfString_50 sm_fp_1118 (sm_a0 _) sm_q143 rfl rfl ?_
    have ok9 : sm_ok (sv_up S 1143 0 r8) := sm_upJ ok3 sm_r1143 hr8
    have md10 : sv_mod [68, 69, 70, 1143, 1144, 1145] S (sv_up S 1143 0 r8) := sv_mod.up sv_mod.rf (by decide)
    refine sv_aload_n hM dX12_getOfString_53 rfl rfl ?_
    refine sv_ldc2_w (d := (16 : Int)) hM dX12_getOfString_54 sm_ck_1312 rfl rfl ?_
    refine sv_lconst (d := (0 : Int)) hM dX12_getOfString_57 rfl rfl ?_
    refine sv_iload_n hM dX12_getOfString_58 rfl rfl ?_
    refine sv_iconst (d := (1 : Int)) hM dX12_getOfString_59 rfl rfl ?_
    refine sv_iadd hM dX12_getOfString_60 rfl ?_
    obtain ⟨o11, h⟩ := h
    obtain ⟨o12, h⟩ := h
    refine sv_callV hM dX12_getOfString_61 sm_iv_1306 (by decide) (sm_a0 _) rfl rfl (Nat.le_of_ble_eq_true rfl) sm_h249 (Nat.le_of_ble_eq_true rfl) (Nat.le_of_ble_eq_true rfl) (F' := 3) (Nat.le_of_ble_eq_true rfl) rfl (t_readFrom (16 : Int) (0 : Int) (p2 + (1 : Int)) (sv_up S 1143 0 r8) ok9 (⟨by decide, by decide⟩ : sv_RL (16 : Int)) (⟨by decide, by decide⟩ : sv_RL (0 : Int)) o11 o12) (fun v S1 hq => ?_)
    obtain ⟨rfl, ok14, md15, hpo16⟩ := hq
    obtain ⟨g13, rfl⟩ : ∃ g, S1 = sv_sts (sv_up S 1143 0 r8) [68, 69, 70, 1145] g := ⟨_, md15.eq⟩
    show sv_T sm_XS sm_cs sm_L sm_sh 4 (q_getOfString p1 p2 S) 275 64 [(0, .ref 0), (1, sv_I p1), (2, sv_I p2)] [] (sv_sts (sv_up S 1143 0 r8) [68, 69, 70, 1145] g13)
    have md17 : sv_mod [68, 69, 70, 1143, 1144, 1145] S (sv_sts (sv_up S 1143 0 r8) [68, 69, 70, 1145] g13) := sv_mod.sts md10 (by decide)
    have h := h g13 hpo16
    refine sv_aload_n hM dX12_getOfString_64 rfl rfl ?_
    refine sv_iload_n hM dX12_getOfString_65 rfl rfl ?_
    refine sv_iconst (d := (1 : Int)) hM dX12_getOfString_66 rfl rfl ?_
    refine sv_iadd hM dX12_getOfString_67 rfl ?_
    refine sv_iload_n hM dX12_getOfString_68 rfl rfl ?_
    obtain ⟨o18, h⟩ := h
    refine sv_callV hM dX12_getOfString_69 sm_iv_1069 (by decide) (sm_a0 _) rfl rfl (Nat.le_of_ble_eq_true rfl) sm_h208 (Nat.le_of_ble_eq_true rfl) (Nat.le_of_ble_eq_true rfl) (F' := 1) (Nat.le_of_ble_eq_true rfl) rfl (t_join (p2 + (1 : Int)) p2 (sv_sts (sv_up S 1143 0 r8) [68, 69, 70, 1145] g13) ok14 o11 hp2 o18) (fun v S1 hq => ?_)
    obtain ⟨r23, rfl, hr23, ok20, md21, hpo22⟩ := hq
    obtain ⟨g19, rfl⟩ : ∃ g, S1 = sv_sts (sv_sts (sv_up S 1143 0 r8) [68, 69, 70, 1145] g13) [68, 69, 70] g := ⟨_, md21.eq⟩
    show sv_T sm_XS sm_cs sm_L sm_sh 4 (q_getOfString p1 p2 S) 275 72 [(0, .ref 0), (1, sv_I p1), (2, sv_I p2)] [sv_I r23] (sv_sts (sv_sts (sv_up S 1143 0 r8) [68, 69, 70, 1145] g13) [68, 69, 70] g19)
    have md24 : sv_mod [68, 69, 70, 1143, 1144, 1145] S (sv_sts (sv_sts (sv_up S 1143 0 r8) [68, 69, 70, 1145] g13) [68, 69, 70] g19) := sv_mod.sts md17 (by decide)
    have h := h r23 hr23 g19 hpo22
    refine sv_istore_n hM dX12_getOfString_72 (by decide) rfl ?_
    show sv_T sm_XS sm_cs sm_L sm_sh 4 (q_getOfString p1 p2 S) 275 73 [(0, .ref 0), (1, sv_I p1), (2, sv_I p2), (3, sv_I r23)] [] (sv_sts (sv_sts (sv_up S 1143 0 r8) [68, 69, 70, 1145] g13) [68, 69, 70] g19)
    refine sv_aload_n hM dX12_getOfString_73 rfl rfl ?_
    have k25 : (0 ≤ (g13 1145 0) ∧ (g13 1145 0) ≤ 1) := sm_okZ ok20 sm_r1145 0
    have h := h k25
    refine sv_getI hM dX12_getOfString_74 sm_fl_1156 (sm_a0 _) sm_k145 rfl (x := (g13 1145 0)) rfl ?_
    refine sv_cond_eq hM dX12_getOfString_77 (sv_R01 k25) (t := 86) rfl rfl (fun hc => ?_) (fun hc => ?_)
    · have h := h.1 (hc)
      exact sv_vret hM dX12_getOfString_86 rfl ⟨rfl, ok20, md24, h⟩
    · have h := h.2 (hc)
      refine sv_aload_n hM dX12_getOfString_80 rfl rfl ?_
      refine sv_iload_n hM dX12_getOfString_81 rfl rfl ?_
      refine sv_iconst (d := (1 : Int)) hM dX12_getOfString_82 rfl rfl ?_
      obtain ⟨o26, h⟩ := h
      refine sv_callV hM dX12_getOfString_83 sm_iv_1072 (by decide) (sm_a0 _) rfl rfl (Nat.le_of_ble_eq_true rfl) sm_h213 (Nat.le_of_ble_eq_true rfl) (Nat.le_of_ble_eq_true rfl) (F' := 2) (Nat.le_of_ble_eq_true rfl) rfl (t_addSort p2 (1 : Int) (sv_sts (sv_sts (sv_up S 1143 0 r8) [68, 69, 70, 1145] g13) [68, 69, 70] g19) ok20 hp2 (⟨by decide, by decide⟩ : sv_R (1 : Int)) o26) (fun v S1 hq => ?_)
      obtain ⟨rfl, ok28, md29, hpo30⟩ := hq
      obtain ⟨g27, rfl⟩ : ∃ g, S1 = sv_sts (sv_sts (sv_sts (sv_up S 1143 0 r8) [68, 69, 70, 1145] g13) [68, 69, 70] g19) [68, 69, 70] g := ⟨_, md29.eq⟩
      show sv_T sm_XS sm_cs sm_L sm_sh 4 (q_getOfString p1 p2 S) 275 86 [(0, .ref 0), (1, sv_I p1), (2, sv_I p2), (3, sv_I r23)] [] (sv_sts (sv_sts (sv_sts (sv_up S 1143 0 r8) [68, 69, 70, 1145] g13) [68, 69, 70] g19) [68, 69, 70] g27)
      have md31 : sv_mod [68, 69, 70, 1143, 1144, 1145] S (sv_sts (sv_sts (sv_sts (sv_up S 1143 0 r8) [68, 69, 70, 1145] g13) [68, 69, 70] g19) [68, 69, 70] g27) := sv_mod.sts md24 (by decide)
      have h := h g27 hpo30
      exact sv_vret hM dX12_getOfString_86 rfl ⟨rfl, ok28, md31, h⟩
  · have h := h.2 (hc)
    refine sv_aload_n hM dX12_getOfString_8 rfl rfl ?_
    refine sv_iload_n hM dX12_getOfString_9 rfl rfl ?_
    obtain ⟨o32, h⟩ := h
    refine sv_callV hM dX12_getOfString_10 sm_iv_1294 (by decide) (sm_a0 _) rfl rfl (Nat.le_of_ble_eq_true rfl) sm_h212 (Nat.le_of_ble_eq_true rfl) (Nat.le_of_ble_eq_true rfl) (F' := 2) (Nat.le_of_ble_eq_true rfl) rfl (t_isAlone p1 S ok3 hp1 o32) (fun v S1 hq => ?_)
    obtain ⟨r37, rfl, hr37, ok34, md35, hpo36⟩ := hq
    obtain rfl : S = S1 := (funext fun j => md35 j (by intro q; cases q)).symm
    show sv_T sm_XS sm_cs sm_L sm_sh 4 (q_getOfString p1 p2 S) 275 13 [(0, .ref 0), (1, sv_I p1), (2, sv_I p2)] [sv_I r37] S
    have h := h r37 hr37 hpo36
    refine sv_cond_eq hM dX12_getOfString_13 hr37 (t := 34) rfl rfl (fun hc => ?_) (fun hc => ?_)
    · have h := h.1 (hc)
      refine sv_aload_n hM dX12_getOfString_34 rfl rfl ?_
      refine sv_iload_n hM dX12_getOfString_35 rfl rfl ?_
      refine sv_bipush (d := (64 : Int)) hM dX12_getOfString_36 rfl rfl ?_
      obtain ⟨o38, h⟩ := h
      refine sv_callV hM dX12_getOfString_38 sm_iv_1072 (by decide) (sm_a0 _) rfl rfl (Nat.le_of_ble_eq_true rfl) sm_h213 (Nat.le_of_ble_eq_true rfl) (Nat.le_of_ble_eq_true rfl) (F' := 2) (Nat.le_of_ble_eq_true rfl) rfl (t_addSort p2 (64 : Int) S ok34 hp2 (⟨by decide, by decide⟩ : sv_R (64 : Int)) o38) (fun v S1 hq => ?_)
      obtain ⟨rfl, ok40, md41, hpo42⟩ := hq
      obtain ⟨g39, rfl⟩ : ∃ g, S1 = sv_sts S [68, 69, 70] g := ⟨_, md41.eq⟩
      show sv_T sm_XS sm_cs sm_L sm_sh 4 (q_getOfString p1 p2 S) 275 41 [(0, .ref 0), (1, sv_I p1), (2, sv_I p2)] [] (sv_sts S [68, 69, 70] g39)
      have md43 : sv_mod [68, 69, 70, 1143, 1144, 1145] S (sv_sts S [68, 69, 70] g39) := sv_mod.sts sv_mod.rf (by decide)
      have h := h g39 hpo42
      refine sv_aload_n hM dX12_getOfString_41 rfl rfl ?_
      refine sv_aload_n hM dX12_getOfString_42 rfl rfl ?_
      have k44 : sv_RL (S 1143 0) := sm_okJ ok40 sm_r1143 0
      have h := h k44
      refine sv_getL hM dX12_getOfString_43 sm_fl_1118 (sm_a0 _) sm_k143 rfl (x := (S 1143 0)) rfl ?_
      refine sv_ldc2_w (d := (-2 : Int)) hM dX12_getOfString_46 sm_ck_1310 rfl rfl ?_
      refine sv_anyL hM dX12_getOfString_49 rfl rfl (fun r45 hr45 _ => ?_)
      have h := h r45 hr45
      refine sv_putL sm_X hM dX12_getOfString_50 sm_fp_1118 (sm_a0 _) sm_q143 rfl rfl ?_
      have ok46 : sm_ok (sv_up (sv_sts S [68, 69, 70] g39) 1143 0 r45) := sm_upJ ok40 sm_r1143 hr45
      have md47 : sv_mod [68, 69, 70, 1143, 1144, 1145] S (sv_up (sv_sts S [68, 69, 70] g39) 1143 0 r45) := sv_mod.up md43 (by decide)
      refine sv_aload_n hM dX12_getOfString_53 rfl rfl ?_
      refine sv_ldc2_w (d := (16 : Int)) hM dX12_getOfString_54 sm_ck_1312 rfl rfl ?_
      refine sv_lconst (d := (0 : Int)) hM dX12_getOfString_57 rfl rfl ?_
      refine sv_iload_n hM dX12_getOfString_58 rfl rfl ?_
      refine sv_iconst (d := (1 : Int)) hM dX12_getOfString_59 rfl rfl ?_
      refine sv_iadd hM dX12_getOfString_60 rfl ?_
      obtain ⟨o48, h⟩ := h
      obtain ⟨o49, h⟩ := h
      refine sv_callV hM dX12_getOfString_61 sm_iv_1306 (by decide) (sm_a0 _) rfl rfl (Nat.le_of_ble_eq_true rfl) sm_h249 (Nat.le_of_ble_eq_true rfl) (Nat.le_of_ble_eq_true rfl) (F' := 3) (Nat.le_of_ble_eq_true rfl) rfl (t_readFrom (16 : Int) (0 : Int) (p2 + (1 : Int)) (sv_up (sv_sts S [68, 69, 70] g39) 1143 0 r45) ok46 (⟨by decide, by decide⟩ : sv_RL (16 : Int)) (⟨by decide, by decide⟩ : sv_RL (0 : Int)) o48 o49) (fun v S1 hq => ?_)
      obtain ⟨rfl, ok51, md52, hpo53⟩ := hq
      obtain ⟨g50, rfl⟩ : ∃ g, S1 = sv_sts (sv_up (sv_sts S [68, 69, 70] g39) 1143 0 r45) [68, 69, 70, 1145] g := ⟨_, md52.eq⟩
      show sv_T sm_XS sm_cs sm_L sm_sh 4 (q_getOfString p1 p2 S) 275 64 [(0, .ref 0), (1, sv_I p1), (2, sv_I p2)] [] (sv_sts (sv_up (sv_sts S [68, 69, 70] g39) 1143 0 r45) [68, 69, 70, 1145] g50)
      have md54 : sv_mod [68, 69, 70, 1143, 1144, 1145] S (sv_sts (sv_up (sv_sts S [68, 69, 70] g39) 1143 0 r45) [68, 69, 70, 1145] g50) := sv_mod.sts md47 (by decide)
      have h := h g50 hpo53
      refine sv_aload_n hM dX12_getOfString_64 rfl rfl ?_
      refine sv_iload_n hM dX12_getOfString_65 rfl rfl ?_
      refine sv_iconst (d := (1 : Int)) hM dX12_getOfString_66 rfl rfl ?_
      refine sv_iadd hM dX12_getOfString_67 rfl ?_
      refine sv_iload_n hM dX12_getOfString_68 rfl rfl ?_
      obtain ⟨o55, h⟩ := h
      refine sv_callV hM dX12_getOfString_69 sm_iv_1069 (by decide) (sm_a0 _) rfl rfl (Nat.le_of_ble_eq_true rfl) sm_h208 (Nat.le_of_ble_eq_true rfl) (Nat.le_of_ble_eq_true rfl) (F' := 1) (Nat.le_of_ble_eq_true rfl) rfl (t_join (p2 + (1 : Int)) p2 (sv_sts (sv_up (sv_sts S [68, 69, 70] g39) 1143 0 r45) [68, 69, 70, 1145] g50) ok51 o48 hp2 o55) (fun v S1 hq => ?_)
      obtain ⟨r60, rfl, hr60, ok57, md58, hpo59⟩ := hq
      obtain ⟨g56, rfl⟩ : ∃ g, S1 = sv_sts (sv_sts (sv_up (sv_sts S [68, 69, 70] g39) 1143 0 r45) [68, 69, 70, 1145] g50) [68, 69, 70] g := ⟨_, md58.eq⟩
      show sv_T sm_XS sm_cs sm_L sm_sh 4 (q_getOfString p1 p2 S) 275 72 [(0, .ref 0), (1, sv_I p1), (2, sv_I p2)] [sv_I r60] (sv_sts (sv_sts (sv_up (sv_sts S [68, 69, 70] g39) 1143 0 r45) [68, 69, 70, 1145] g50) [68, 69, 70] g56)
      have md61 : sv_mod [68, 69, 70, 1143, 1144, 1145] S (sv_sts (sv_sts (sv_up (sv_sts S [68, 69, 70] g39) 1143 0 r45) [68, 69, 70, 1145] g50) [68, 69, 70] g56) := sv_mod.sts md54 (by decide)
      have h := h r60 hr60 g56 hpo59
      refine sv_istore_n hM dX12_getOfString_72 (by decide) rfl ?_
      show sv_T sm_XS sm_cs sm_L sm_sh 4 (q_getOfString p1 p2 S) 275 73 [(0, .ref 0), (1, sv_I p1), (2, sv_I p2), (3, sv_I r60)] [] (sv_sts (sv_sts (sv_up (sv_sts S [68, 69, 70] g39) 1143 0 r45) [68, 69, 70, 1145] g50) [68, 69, 70] g56)
      refine sv_aload_n hM dX12_getOfString_73 rfl rfl ?_
      have k62 : (0 ≤ (g50 1145 0) ∧ (g50 1145 0) ≤ 1) := sm_okZ ok57 sm_r1145 0
      have h := h k62
      refine sv_getI hM dX12_getOfString_74 sm_fl_1156 (sm_a0 _) sm_k145 rfl (x := (g50 1145 0)) rfl ?_
      refine sv_cond_eq hM dX12_getOfString_77 (sv_R01 k62) (t := 86) rfl rfl (fun hc => ?_) (fun hc => ?_)
      · have h := h.1 (hc)
        exact sv_vret hM dX12_getOfString_86 rfl ⟨rfl, ok57, md61, h⟩
      · have h := h.2 (hc)
        refine sv_aload_n hM dX12_getOfString_80 rfl rfl ?_
        refine sv_iload_n hM dX12_getOfString_81 rfl rfl ?_
        refine sv_iconst (d := (1 : Int)) hM dX12_getOfString_82 rfl rfl ?_
        refine sv_callV hM dX12_getOfString_83 sm_iv_1072 (by decide) (sm_a0 _) rfl rfl (Nat.le_of_ble_eq_true rfl) sm_h213 (Nat.le_of_ble_eq_true rfl) (Nat.le_of_ble_eq_true rfl) (F' := 2) (Nat.le_of_ble_eq_true rfl) rfl (t_addSort p2 (1 : Int) (sv_sts (sv_sts (sv_up (sv_sts S [68, 69, 70] g39) 1143 0 r45) [68, 69, 70, 1145] g50) [68, 69, 70] g56) ok57 hp2 (⟨by decide, by decide⟩ : sv_R (1 : Int)) o38) (fun v S1 hq => ?_)
        obtain ⟨rfl, ok64, md65, hpo66⟩ := hq
        obtain ⟨g63, rfl⟩ : ∃ g, S1 = sv_sts (sv_sts (sv_sts (sv_up (sv_sts S [68, 69, 70] g39) 1143 0 r45) [68, 69, 70, 1145] g50) [68, 69, 70] g56) [68, 69, 70] g := ⟨_, md65.eq⟩
        show sv_T sm_XS sm_cs sm_L sm_sh 4 (q_getOfString p1 p2 S) 275 86 [(0, .ref 0), (1, sv_I p1), (2, sv_I p2), (3, sv_I r60)] [] (sv_sts (sv_sts (sv_sts (sv_up (sv_sts S [68, 69, 70] g39) 1143 0 r45) [68, 69, 70, 1145] g50) [68, 69, 70] g56) [68, 69, 70] g63)
        have md67 : sv_mod [68, 69, 70, 1143, 1144, 1145] S (sv_sts (sv_sts (sv_sts (sv_up (sv_sts S [68, 69, 70] g39) 1143 0 r45) [68, 69, 70, 1145] g50) [68, 69, 70] g56) [68, 69, 70] g63) := sv_mod.sts md61 (by decide)
        have h := h g63 hpo66
        exact sv_vret hM dX12_getOfString_86 rfl ⟨rfl, ok64, md67, h⟩
    · have h := h.2 (hc)
      refine sv_aload_n hM dX12_getOfString_16 rfl rfl ?_
      refine sv_iload_n hM dX12_getOfString_17 rfl rfl ?_
      refine sv_aload_n hM dX12_getOfString_18 rfl rfl ?_
      refine sv_getA hM dX12_getOfString_19 sm_fl_20 (sm_a0 _) sm_k6 rfl ?_
      refine sv_aload_n hM dX12_getOfString_22 rfl rfl ?_
      refine sv_iload_n hM dX12_getOfString_23 rfl rfl ?_
      refine sv_callV hM dX12_getOfString_24 sm_iv_1053 (by decide) (sm_a0 _) rfl rfl (Nat.le_of_ble_eq_true rfl) sm_h203 (Nat.le_of_ble_eq_true rfl) (Nat.le_of_ble_eq_true rfl) (F' := 0) (Nat.le_of_ble_eq_true rfl) rfl (t_name p1 S ok34 hp1 o32) (fun v S1 hq => ?_)
      obtain ⟨r72, rfl, hr72, ok69, md70, hpo71⟩ := hq
      obtain rfl : S = S1 := (funext fun j => md70 j (by intro q; cases q)).symm
      show sv_T sm_XS sm_cs sm_L sm_sh 4 (q_getOfString p1 p2 S) 275 27 [(0, .ref 0), (1, sv_I p1), (2, sv_I p2)] [sv_I r72, .ref 4, sv_I p2, .ref 0] S
      have h := h r72 hr72 hpo71
      obtain ⟨o73, h⟩ := h
      have k74 : sv_R (S 4 r72) := sm_okI ok69 sm_r4 r72
      have h := h k74
      refine sv_iald hM dX12_getOfString_27 (sm_a4 _) (by decide) o73.1 o73.2 rfl (x := (S 4 r72)) rfl ?_
      obtain ⟨o75, h⟩ := h
      refine sv_callV hM dX12_getOfString_28 sm_iv_1075 (by decide) (sm_a0 _) rfl rfl (Nat.le_of_ble_eq_true rfl) sm_h214 (Nat.le_of_ble_eq_true rfl) (Nat.le_of_ble_eq_true rfl) (F' := 2) (Nat.le_of_ble_eq_true rfl) rfl (t_addNumber p2 (S 4 r72) S ok69 hp2 k74 o75) (fun v S1 hq => ?_)
      obtain ⟨rfl, ok77, md78, hpo79⟩ := hq
      obtain ⟨g76, rfl⟩ : ∃ g, S1 = sv_sts S [68, 69, 70] g := ⟨_, md78.eq⟩
      show sv_T sm_XS sm_cs sm_L sm_sh 4 (q_getOfString p1 p2 S) 275 31 [(0, .ref 0), (1, sv_I p1), (2, sv_I p2)] [] (sv_sts S [68, 69, 70] g76)
      have md80 : sv_mod [68, 69, 70, 1143, 1144, 1145] S (sv_sts S [68, 69, 70] g76) := sv_mod.sts sv_mod.rf (by decide)
      have h := h g76 hpo79
      refine sv_goto hM dX12_getOfString_31 (pc' := 41) rfl ?_
      refine sv_aload_n hM dX12_getOfString_41 rfl rfl ?_
      refine sv_aload_n hM dX12_getOfString_42 rfl rfl ?_
      have k81 : sv_RL (S 1143 0) := sm_okJ ok77 sm_r1143 0
      have h := h k81
      refine sv_getL hM dX12_getOfString_43 sm_fl_1118 (sm_a0 _) sm_k143 rfl (x := (S 1143 0)) rfl ?_
      refine sv_ldc2_w (d := (-2 : Int)) hM dX12_getOfString_46 sm_ck_1310 rfl rfl ?_
      refine sv_anyL hM dX12_getOfString_49 rfl rfl (fun r82 hr82 _ => ?_)
      have h := h r82 hr82
      refine sv_putL sm_X hM dX12_getOfString_50 sm_fp_1118 (sm_a0 _) sm_q143 rfl rfl ?_
      have ok83 : sm_ok (sv_up (sv_sts S [68, 69, 70] g76) 1143 0 r82) := sm_upJ ok77 sm_r1143 hr82
      have md84 : sv_mod [68, 69, 70, 1143, 1144, 1145] S (sv_up (sv_sts S [68, 69, 70] g76) 1143 0 r82) := sv_mod.up md80 (by decide)
      refine sv_aload_n hM dX12_getOfString_53 rfl rfl ?_
      refine sv_ldc2_w (d := (16 : Int)) hM dX12_getOfString_54 sm_ck_1312 rfl rfl ?_
      refine sv_lconst (d := (0 : Int)) hM dX12_getOfString_57 rfl rfl ?_
      refine sv_iload_n hM dX12_getOfString_58 rfl rfl ?_
      refine sv_iconst (d := (1 : Int)) hM dX12_getOfString_59 rfl rfl ?_
      refine sv_iadd hM dX12_getOfString_60 rfl ?_
      obtain ⟨o85, h⟩ := h
      obtain ⟨o86, h⟩ := h
      refine sv_callV hM dX12_getOfString_61 sm_iv_1306 (by decide) (sm_a0 _) rfl rfl (Nat.le_of_ble_eq_true rfl) sm_h249 (Nat.le_of_ble_eq_true rfl) (Nat.le_of_ble_eq_true rfl) (F' := 3) (Nat.le_of_ble_eq_true rfl) rfl (t_readFrom (16 : Int) (0 : Int) (p2 + (1 : Int)) (sv_up (sv_sts S [68, 69, 70] g76) 1143 0 r82) ok83 (⟨by decide, by decide⟩ : sv_RL (16 : Int)) (⟨by decide, by decide⟩ : sv_RL (0 : Int)) o85 o86) (fun v S1 hq => ?_)
      obtain ⟨rfl, ok88, md89, hpo90⟩ := hq
      obtain ⟨g87, rfl⟩ : ∃ g, S1 = sv_sts (sv_up (sv_sts S [68, 69, 70] g76) 1143 0 r82) [68, 69, 70, 1145] g := ⟨_, md89.eq⟩
      show sv_T sm_XS sm_cs sm_L sm_sh 4 (q_getOfString p1 p2 S) 275 64 [(0, .ref 0), (1, sv_I p1), (2, sv_I p2)] [] (sv_sts (sv_up (sv_sts S [68, 69, 70] g76) 1143 0 r82) [68, 69, 70, 1145] g87)
      have md91 : sv_mod [68, 69, 70, 1143, 1144, 1145] S (sv_sts (sv_up (sv_sts S [68, 69, 70] g76) 1143 0 r82) [68, 69, 70, 1145] g87) := sv_mod.sts md84 (by decide)
      have h := h g87 hpo90
      refine sv_aload_n hM dX12_getOfString_64 rfl rfl ?_
      refine sv_iload_n hM dX12_getOfString_65 rfl rfl ?_
      refine sv_iconst (d := (1 : Int)) hM dX12_getOfString_66 rfl rfl ?_
      refine sv_iadd hM dX12_getOfString_67 rfl ?_
      refine sv_iload_n hM dX12_getOfString_68 rfl rfl ?_
      obtain ⟨o92, h⟩ := h
      refine sv_callV hM dX12_getOfString_69 sm_iv_1069 (by decide) (sm_a0 _) rfl rfl (Nat.le_of_ble_eq_true rfl) sm_h208 (Nat.le_of_ble_eq_true rfl) (Nat.le_of_ble_eq_true rfl) (F' := 1) (Nat.le_of_ble_eq_true rfl) rfl (t_join (p2 + (1 : Int)) p2 (sv_sts (sv_up (sv_sts S [68, 69, 70] g76) 1143 0 r82) [68, 69, 70, 1145] g87) ok88 o85 hp2 o92) (fun v S1 hq => ?_)
      obtain ⟨r97, rfl, hr97, ok94, md95, hpo96⟩ := hq
      obtain ⟨g93, rfl⟩ : ∃ g, S1 = sv_sts (sv_sts (sv_up (sv_sts S [68, 69, 70] g76) 1143 0 r82) [68, 69, 70, 1145] g87) [68, 69, 70] g := ⟨_, md95.eq⟩
      show sv_T sm_XS sm_cs sm_L sm_sh 4 (q_getOfString p1 p2 S) 275 72 [(0, .ref 0), (1, sv_I p1), (2, sv_I p2)] [sv_I r97] (sv_sts (sv_sts (sv_up (sv_sts S [68, 69, 70] g76) 1143 0 r82) [68, 69, 70, 1145] g87) [68, 69, 70] g93)
      have md98 : sv_mod [68, 69, 70, 1143, 1144, 1145] S (sv_sts (sv_sts (sv_up (sv_sts S [68, 69, 70] g76) 1143 0 r82) [68, 69, 70, 1145] g87) [68, 69, 70] g93) := sv_mod.sts md91 (by decide)
      have h := h r97 hr97 g93 hpo96
      refine sv_istore_n hM dX12_getOfString_72 (by decide) rfl ?_
      show sv_T sm_XS sm_cs sm_L sm_sh 4 (q_getOfString p1 p2 S) 275 73 [(0, .ref 0), (1, sv_I p1), (2, sv_I p2), (3, sv_I r97)] [] (sv_sts (sv_sts (sv_up (sv_sts S [68, 69, 70] g76) 1143 0 r82) [68, 69, 70, 1145] g87) [68, 69, 70] g93)
      refine sv_aload_n hM dX12_getOfString_73 rfl rfl ?_
      have k99 : (0 ≤ (g87 1145 0) ∧ (g87 1145 0) ≤ 1) := sm_okZ ok94 sm_r1145 0
      have h := h k99
      refine sv_getI hM dX12_getOfString_74 sm_fl_1156 (sm_a0 _) sm_k145 rfl (x := (g87 1145 0)) rfl ?_
      refine sv_cond_eq hM dX12_getOfString_77 (sv_R01 k99) (t := 86) rfl rfl (fun hc => ?_) (fun hc => ?_)
      · have h := h.1 (hc)
        exact sv_vret hM dX12_getOfString_86 rfl ⟨rfl, ok94, md98, h⟩
      · have h := h.2 (hc)
        refine sv_aload_n hM dX12_getOfString_80 rfl rfl ?_
        refine sv_iload_n hM dX12_getOfString_81 rfl rfl ?_
        refine sv_iconst (d := (1 : Int)) hM dX12_getOfString_82 rfl rfl ?_
        refine sv_callV hM dX12_getOfString_83 sm_iv_1072 (by decide) (sm_a0 _) rfl rfl (Nat.le_of_ble_eq_true rfl) sm_h213 (Nat.le_of_ble_eq_true rfl) (Nat.le_of_ble_eq_true rfl) (F' := 2) (Nat.le_of_ble_eq_true rfl) rfl (t_addSort p2 (1 : Int) (sv_sts (sv_sts (sv_up (sv_sts S [68, 69, 70] g76) 1143 0 r82) [68, 69, 70, 1145] g87) [68, 69, 70] g93) ok94 hp2 (⟨by decide, by decide⟩ : sv_R (1 : Int)) o75) (fun v S1 hq => ?_)
        obtain ⟨rfl, ok101, md102, hpo103⟩ := hq
        obtain ⟨g100, rfl⟩ : ∃ g, S1 = sv_sts (sv_sts (sv_sts (sv_up (sv_sts S [68, 69, 70] g76) 1143 0 r82) [68, 69, 70, 1145] g87) [68, 69, 70] g93) [68, 69, 70] g := ⟨_, md102.eq⟩
        show sv_T sm_XS sm_cs sm_L sm_sh 4 (q_getOfString p1 p2 S) 275 86 [(0, .ref 0), (1, sv_I p1), (2, sv_I p2), (3, sv_I r97)] [] (sv_sts (sv_sts (sv_sts (sv_up (sv_sts S [68, 69, 70] g76) 1143 0 r82) [68, 69, 70, 1145] g87) [68, 69, 70] g93) [68, 69, 70] g100)
        have md104 : sv_mod [68, 69, 70, 1143, 1144, 1145] S (sv_sts (sv_sts (sv_sts (sv_up (sv_sts S [68, 69, 70] g76) 1143 0 r82) [68, 69, 70, 1145] g87) [68, 69, 70] g93) [68, 69, 70] g100) := sv_mod.sts md98 (by decide)
        have h := h g100 hpo103
        exact sv_vret hM dX12_getOfString_86 rfl ⟨rfl, ok101, md104, h⟩
def q_isMadeBySet (p1 : Int) (p2 : Int) (p3 : Int) (S : sv_S) : Option Value → sv_S → Prop := fun v S' => ∃ r : Int, v = some (sv_I r) ∧ sv_R r ∧ sm_ok S' ∧ sv_mod [68, 69, 70, 1143, 1144, 1145] S S' ∧ (sm_pt (S' 68) (S' 69) (S' 70) = sm_pt (S 68) (S 69) (S 70) ∧ (r = 0 ∨ r = 1))
theorem la_isMadeBySet_0 : (0 : Int) ≤ 0 := by omega
theorem la_isMadeBySet_1 {x0 : Int} (h0 : 29 ≤ x0) : 0 ≤ x0 := by omega
theorem la_isMadeBySet_2 {x0 x1 : Int} (h0 : x0 ≤ x1) : 0 ≤ x1 - x0 := by omega
theorem la_isMadeBySet_3 : (0 : Int) ≤ 1 ∧ (1 : Int) ≤ 1000 := by omega
theorem la_isMadeBySet_4 {x0 : Int} (h0 : x0 + 1 < 647790) (h1 : 635639 ≤ x0) : sv_R (x0 + 1) := by omega
theorem la_isMadeBySet_5 {x0 x1 : Int} (h0 : 0 ≤ x0) (h1 : x0 ≤ 11557) (h2 : x1 + 1 < 647790) (h3 : 635639 ≤ x1) : 0 ≤ x0 ∧ x0 ≤ 11557 ∧ 635639 ≤ x1 + 1 ∧ x1 + 1 < 647790 := by omega
theorem la_isMadeBySet_6 {x0 : Int} (h0 : x0 + 1 < 647790) (h1 : 635639 ≤ x0) : 0 ≤ x0 + 1 ∧ x0 + 1 < 647800 := by omega
theorem la_isMadeBySet_7 {x0 : Int} (h0 : x0 = 0) : ¬ x0 = 1 := by omega
theorem la_isMadeBySet_8 {x0 x1 x2 : Int} (h0 : x0 = x1) : ¬ x2 = 0 → x0 = x1 ∧ ((1 : Int) = 0 ∨ (1 : Int) = 1) := by omega
theorem la_isMadeBySet_9 {x0 : Int} (h0 : ¬ ¬ x0 = 0) : ¬ x0 = 1 := by omega
theorem la_isMadeBySet_10 {x0 x1 x2 : Int} (h0 : x0 = x1) : x2 = 0 → x0 = x1 ∧ ((0 : Int) = 0 ∨ (0 : Int) = 1) := by omega
theorem la_isMadeBySet_11 {x0 : Int} (h0 : 0 ≤ x0) (h1 : ¬ x0 = 0) : 0 < x0 := by omega
theorem la_isMadeBySet_12 : (1 : Int) = 0 ∨ (1 : Int) = 1 := by omega
theorem la_isMadeBySet_13 {x0 : Int} (h0 : x0 = 1) : 0 ≤ x0 := by omega
theorem la_isMadeBySet_14 {x0 : Int} (h0 : 0 ≤ x0) (h1 : x0 < 647800) : 0 ≤ x0 ∧ x0 < 647800 := by omega
theorem la_isMadeBySet_15 {x0 : Int} (h0 : x0 + 1 < 647790) (h1 : 635639 ≤ x0) : 635639 ≤ x0 ∧ x0 < 647790 := by omega
theorem la_isMadeBySet_16 {x0 x1 x2 x3 : Int} (h0 : x0 = x1) (h1 : x2 = x0) : ¬ x3 = 0 → x2 = x1 ∧ ((1 : Int) = 0 ∨ (1 : Int) = 1) := by omega
theorem la_isMadeBySet_17 {x0 x1 x2 x3 : Int} (h0 : x0 = x1) (h1 : x2 = x0) : x3 = 0 → x2 = x1 ∧ ((0 : Int) = 0 ∨ (0 : Int) = 1) := by omega
theorem la_isMadeBySet_18 {x0 x1 x2 : Int} (h0 : x0 = x1) (h1 : x2 = x0) : x2 = x1 := by omega
theorem la_isMadeBySet_19 {x0 x1 : Int} (h0 : x0 ≤ 127) (h1 : 0 ≤ x1) (h2 : ¬ x0 ≤ x1) : 0 ≤ x1 ∧ x1 < 128 := by omega
theorem la_isMadeBySet_20 {x0 x1 x2 : Int} (h0 : x0 ≤ 127) (h1 : 1 ≤ x1) (h2 : x1 ≤ 11) (h3 : 0 ≤ x2) (h4 : ¬ x0 ≤ x2) : 1 ≤ x1 ∧ x1 ≤ 11 ∧ 0 ≤ x2 ∧ x2 ≤ 200 := by omega
theorem la_isMadeBySet_21 {x0 x1 : Int} (h0 : x0 ≤ 127) (h1 : ¬ x0 ≤ x1) (h2 : 64 ≤ x1) : sv_R (x1 + 1) := by omega
theorem la_isMadeBySet_22 {x0 x1 : Int} (h0 : ¬ x0 ≤ x1) (h1 : 64 ≤ x1) : 0 ≤ x1 + 1 ∧ x1 + 1 ≤ x0 ∧ ((1 : Int) = 0 ∨ (1 : Int) = 1) := by omega
theorem la_isMadeBySet_23 {x0 x1 : Int} : x0 - (x1 + 1) < x0 - x1 := by omega
theorem la_isMadeBySet_24 {x0 : Int} (h0 : 0 ≤ x0) (h1 : ¬ 64 ≤ x0) : sv_R (x0 + 1) := by omega
theorem la_isMadeBySet_25 {x0 x1 : Int} (h0 : 0 ≤ x0) (h1 : ¬ x1 ≤ x0) : 0 ≤ x0 + 1 ∧ x0 + 1 ≤ x1 ∧ ((1 : Int) = 0 ∨ (1 : Int) = 1) := by omega
theorem la_isMadeBySet_26 {x0 x1 : Int} (h0 : x0 ≤ 127) (h1 : 0 ≤ x1) (h2 : ¬ x0 ≤ x1) : sv_R (x1 + 1) := by omega
theorem la_isMadeBySet_27 {x0 x1 : Int} (h0 : ¬ x0 ≤ x1) (h1 : 64 ≤ x1) : 0 ≤ x1 + 1 ∧ x1 + 1 ≤ x0 ∧ ((0 : Int) = 0 ∨ (0 : Int) = 1) := by omega
theorem la_isMadeBySet_28 {x0 x1 : Int} (h0 : 0 ≤ x0) (h1 : ¬ x1 ≤ x0) : 0 ≤ x0 + 1 ∧ x0 + 1 ≤ x1 ∧ ((0 : Int) = 0 ∨ (0 : Int) = 1) := by omega
theorem la_isMadeBySet_29 {x0 : Int} (h0 : 0 ≤ x0) : 0 ≤ x0 + 1 := by omega
theorem la_isMadeBySet_30 {x0 x1 : Int} (h0 : ¬ x0 ≤ x1) : x1 + 1 ≤ x0 := by omega
theorem la_isMadeBySet_31 {x0 : Int} : x0 = 0 → (0 : Int) = 0 ∨ (0 : Int) = 1 := by omega
set_option maxHeartbeats 2000000 in
theorem f_isMadeBySet : ∀ (p1 : Int) (p2 : Int) (p3 : Int) (S : sv_S), sm_ok S → sv_R p1 → sv_R p2 → sv_R p3 → (29 ≤ (S 1071 0) ∧ (S 1071 0) ≤ 127 ∧ 31 ≤ (S 1008 0) ∧ (S 1008 0) ≤ 90 ∧ 1 ≤ (S 1032 0) ∧ (S 1032 0) ≤ 11 ∧ 0 ≤ (S 1055 0) ∧ (S 1055 0) ≤ 19 ∧ (S 1071 0) = 29 + 6 * ((S 1032 0) - 1) + 2 * (S 1055 0) ∧ 0 ≤ (S 1046 0) ∧ (S 1046 0) + 2 * (S 1032 0) ≤ 500 ∧ sm_PD (S 1046 0) (S 1032 0) (S 1071 0) (S 1008 0) ∧ 0 ≤ (S 1071 0) * ((S 1008 0) + 1) ∧ (S 1071 0) * ((S 1008 0) + 1) ≤ 11557 ∧ 31 ≤ (S 1007 0) ∧ (S 1007 0) ≤ 400 ∧ sm_LN (S 4) 400 (S 1007 0) ∧ 0 ≤ p1 ∧ p1 < 647800 ∧ 0 ≤ p2 ∧ p2 < 647800 ∧ 635639 ≤ p3 + 1 ∧ p3 + 1 < 647790 ∧ 635639 ≤ p3 ∧ p3 < 647790) → ((∀ s1 : Int, sv_R s1 → (s1 = 0 ∨ s1 = 1) → ((0 ≤ (0 : Int) ∧ (0 : Int) ≤ (S 1071 0) ∧ (s1 = 0 ∨ s1 = 1)) ∧ (∀ l4_3 : Int, sv_RL l4_3 → ∀ l6_4 : Int, sv_RL l6_4 → ∀ l8_5 : Int, sv_R l8_5 → ∀ l9_6 : Int, sv_R l9_6 → (0 ≤ l9_6 ∧ l9_6 ≤ (S 1071 0) ∧ (l8_5 = 0 ∨ l8_5 = 1)) → (0 ≤ (S 1071 0) - l9_6) ∧ (sv_R (S 1071 0) → ((((S 1071 0) ≤ l9_6) → (∀ g11 : sv_S, (True) → (0 ≤ (1 : Int) ∧ (1 : Int) ≤ 1000) ∧ (∀ g17 : sv_S, (True) → (sv_R (p3 + (1 : Int))) ∧ (29 ≤ (S 1071 0) ∧ (S 1071 0) ≤ 127 ∧ 31 ≤ (S 1008 0) ∧ (S 1008 0) ≤ 90 ∧ 1 ≤ (S 1032 0) ∧ (S 1032 0) ≤ 11 ∧ 0 ≤ (S 1055 0) ∧ (S 1055 0) ≤ 19 ∧ (S 1071 0) = 29 + 6 * ((S 1032 0) - 1) + 2 * (S 1055 0) ∧ 0 ≤ (S 1046 0) ∧ (S 1046 0) + 2 * (S 1032 0) ≤ 500 ∧ sm_PD (S 1046 0) (S 1032 0) (S 1071 0) (S 1008 0) ∧ 0 ≤ (S 1071 0) * ((S 1008 0) + 1) ∧ (S 1071 0) * ((S 1008 0) + 1) ≤ 11557 ∧ 635639 ≤ (p3 + (1 : Int)) ∧ (p3 + (1 : Int)) < 647790) ∧ (∀ g24 : sv_S, (sm_pt (g24 68) (g24 69) (g24 70) = sm_pt (S 68) (S 69) (S 70)) → (0 ≤ (p3 + (1 : Int)) ∧ (p3 + (1 : Int)) < 647800) ∧ (∀ r34 : Int, sv_R r34 → (r34 = 0 ∨ r34 = 1) → (((r34 = (0 : Int)) → (((¬ l8_5 = (0 : Int)) → (sm_pt (g24 68) (g24 69) (g24 70) = sm_pt (S 68) (S 69) (S 70) ∧ ((1 : Int) = 0 ∨ (1 : Int) = 1))) ∧ ((¬ (¬ l8_5 = (0 : Int))) → (∀ r39 : Int, sv_R r39 → (sm_iand ((g24 68 (p3 + (1 : Int))) % 1024) (-513) = r39) → (((¬ r39 = (0 : Int)) → (sm_pt (g24 68) (g24 69) (g24 70) = sm_pt (S 68) (S 69) (S 70) ∧ ((1 : Int) = 0 ∨ (1 : Int) = 1))) ∧ ((¬ (¬ r39 = (0 : Int))) → ((0 ≤ (g24 1145 0) ∧ (g24 1145 0) ≤ 1) → ((((g24 1145 0) = (0 : Int)) → (sm_pt (g24 68) (g24 69) (g24 70) = sm_pt (S 68) (S 69) (S 70) ∧ ((0 : Int) = 0 ∨ (0 : Int) = 1))) ∧ ((¬ ((g24 1145 0) = (0 : Int))) → (sm_pt (g24 68) (g24 69) (g24 70) = sm_pt (S 68) (S 69) (S 70) ∧ ((1 : Int) = 0 ∨ (1 : Int) = 1))))))))))) ∧ ((¬ (r34 = (0 : Int))) → (0 ≤ p1 ∧ p1 < 647800) ∧ (∀ r46 : Int, sv_R r46 → (r46 = 0 ∨ r46 = 1) → (((r46 = (0 : Int)) → (635639 ≤ p3 ∧ p3 < 647790) ∧ (∀ g48 : sv_S, (sm_pt (g48 68) (g48 69) (g48 70) = sm_pt (g24 68) (g24 69) (g24 70)) → (((¬ l8_5 = (0 : Int)) → (sm_pt (g48 68) (g48 69) (g48 70) = sm_pt (S 68) (S 69) (S 70) ∧ ((1 : Int) = 0 ∨ (1 : Int) = 1))) ∧ ((¬ (¬ l8_5 = (0 : Int))) → (∀ r57 : Int, sv_R r57 → (sm_iand ((g48 68 (p3 + (1 : Int))) % 1024) (-513) = r57) → (((¬ r57 = (0 : Int)) → (sm_pt (g48 68) (g48 69) (g48 70) = sm_pt (S 68) (S 69) (S 70) ∧ ((1 : Int) = 0 ∨ (1 : Int) = 1))) ∧ ((¬ (¬ r57 = (0 : Int))) → ((0 ≤ (g24 1145 0) ∧ (g24 1145 0) ≤ 1) → ((((g24 1145 0) = (0 : Int)) → (sm_pt (g48 68) (g48 69) (g48 70) = sm_pt (S 68) (S 69) (S 70) ∧ ((0 : Int) = 0 ∨ (0 : Int) = 1))) ∧ ((¬ ((g24 1145 0) = (0 : Int))) → (sm_pt (g48 68) (g48 69) (g48 70) = sm_pt (S 68) (S 69) (S 70) ∧ ((1 : Int) = 0 ∨ (1 : Int) = 1)))))))))))) ∧ ((¬ (r46 = (0 : Int))) → (635639 ≤ p3 ∧ p3 < 647790) ∧ (∀ g60 : sv_S, (sm_pt (g60 68) (g60 69) (g60 70) = sm_pt (g24 68) (g24 69) (g24 70)) → (((¬ l8_5 = (0 : Int)) → (sm_pt (g60 68) (g60 69) (g60 70) = sm_pt (S 68) (S 69) (S 70) ∧ ((1 : Int) = 0 ∨ (1 : Int) = 1))) ∧ ((¬ (¬ l8_5 = (0 : Int))) → (∀ r69 : Int, sv_R r69 → (sm_iand ((g60 68 (p3 + (1 : Int))) % 1024) (-513) = r69) → (((¬ r69 = (0 : Int)) → (sm_pt (g60 68) (g60 69) (g60 70) = sm_pt (S 68) (S 69) (S 70) ∧ ((1 : Int) = 0 ∨ (1 : Int) = 1))) ∧ ((¬ (¬ r69 = (0 : Int))) → ((0 ≤ (g24 1145 0) ∧ (g24 1145 0) ≤ 1) → ((((g24 1145 0) = (0 : Int)) → (sm_pt (g60 68) (g60 69) (g60 70) = sm_pt (S 68) (S 69) (S 70) ∧ ((0 : Int) = 0 ∨ (0 : Int) = 1))) ∧ ((¬ ((g24 1145 0) = (0 : Int))) → (sm_pt (g60 68) (g60 69) (g60 70) = sm_pt (S 68) (S 69) (S 70) ∧ ((1 : Int) = 0 ∨ (1 : Int) = 1))))))))))))))))))))) ∧ ((¬ ((S 1071 0) ≤ l9_6)) → (0 ≤ p2 ∧ p2 < 647800) ∧ (sv_RL (S 69 p2) → (sv_RL (S 70 p2) → (0 ≤ l9_6 ∧ l9_6 < 128) ∧ (∀ r79 : Int, sv_R r79 → (r79 = sm_in (S 69 p2) (S 70 p2) l9_6 ∧ (r79 = 0 ∨ r79 = 1)) → (((¬ r79 = (0 : Int)) → (((¬ l8_5 = (0 : Int)) → (1 ≤ (S 1032 0) ∧ (S 1032 0) ≤ 11 ∧ 0 ≤ l9_6 ∧ l9_6 ≤ 200) ∧ (∀ r85 : Int, sv_R r85 → ((r85 = 0 ∨ r85 = 1) ∧ (r85 = 1 → l9_6 < 29 + 6 * ((S 1032 0) - 1))) → (((¬ r85 = (0 : Int)) → ((((64 : Int) ≤ l9_6) → (∀ r86 : Int, sv_RL r86 → (∀ r87 : Int, sv_RL r87 → (sv_R (l9_6 + (1 : Int))) ∧ ((0 ≤ (l9_6 + (1 : Int)) ∧ (l9_6 + (1 : Int)) ≤ (S 1071 0) ∧ ((1 : Int) = 0 ∨ (1 : Int) = 1)) ∧ ((S 1071 0) - (l9_6 + (1 : Int))) < ((S 1071 0) - l9_6))))) ∧ ((¬ ((64 : Int) ≤ l9_6)) → (∀ r89 : Int, sv_RL r89 → (∀ r90 : Int, sv_RL r90 → (sv_R (l9_6 + (1 : Int))) ∧ ((0 ≤ (l9_6 + (1 : Int)) ∧ (l9_6 + (1 : Int)) ≤ (S 1071 0) ∧ ((1 : Int) = 0 ∨ (1 : Int) = 1)) ∧ ((S 1071 0) - (l9_6 + (1 : Int))) < ((S 1071 0) - l9_6))))))) ∧ ((¬ (¬ r85 = (0 : Int))) → (sv_R (l9_6 + (1 : Int))) ∧ ((0 ≤ (l9_6 + (1 : Int)) ∧ (l9_6 + (1 : Int)) ≤ (S 1071 0) ∧ ((1 : Int) = 0 ∨ (1 : Int) = 1)) ∧ ((S 1071 0) - (l9_6 + (1 : Int))) < ((S 1071 0) - l9_6)))))) ∧ ((¬ (¬ l8_5 = (0 : Int))) → (1 ≤ (S 1032 0) ∧ (S 1032 0) ≤ 11 ∧ 0 ≤ l9_6 ∧ l9_6 ≤ 200) ∧ (∀ r98 : Int, sv_R r98 → ((r98 = 0 ∨ r98 = 1) ∧ (r98 = 1 → l9_6 < 29 + 6 * ((S 1032 0) - 1))) → (((¬ r98 = (0 : Int)) → (∀ r103 : Int, sv_R r103 → ((r103 = 0 ∨ r103 = 1) ∧ (r103 = 1 → l9_6 < 29 + 6 * ((S 1032 0) - 1))) → (((¬ r103 = (0 : Int)) → ((((64 : Int) ≤ l9_6) → (∀ r104 : Int, sv_RL r104 → (∀ r105 : Int, sv_RL r105 → (sv_R (l9_6 + (1 : Int))) ∧ ((0 ≤ (l9_6 + (1 : Int)) ∧ (l9_6 + (1 : Int)) ≤ (S 1071 0) ∧ ((0 : Int) = 0 ∨ (0 : Int) = 1)) ∧ ((S 1071 0) - (l9_6 + (1 : Int))) < ((S 1071 0) - l9_6))))) ∧ ((¬ ((64 : Int) ≤ l9_6)) → (∀ r107 : Int, sv_RL r107 → (∀ r108 : Int, sv_RL r108 → (sv_R (l9_6 + (1 : Int))) ∧ ((0 ≤ (l9_6 + (1 : Int)) ∧ (l9_6 + (1 : Int)) ≤ (S 1071 0) ∧ ((0 : Int) = 0 ∨ (0 : Int) = 1)) ∧ ((S 1071 0) - (l9_6 + (1 : Int))) < ((S 1071 0) - l9_6))))))) ∧ ((¬ (¬ r103 = (0 : Int))) → (sv_R (l9_6 + (1 : Int))) ∧ ((0 ≤ (l9_6 + (1 : Int)) ∧ (l9_6 + (1 : Int)) ≤ (S 1071 0) ∧ ((0 : Int) = 0 ∨ (0 : Int) = 1)) ∧ ((S 1071 0) - (l9_6 + (1 : Int))) < ((S 1071 0) - l9_6)))))) ∧ ((¬ (¬ r98 = (0 : Int))) → (∀ r115 : Int, sv_R r115 → ((r115 = 0 ∨ r115 = 1) ∧ (r115 = 1 → l9_6 < 29 + 6 * ((S 1032 0) - 1))) → (((¬ r115 = (0 : Int)) → ((((64 : Int) ≤ l9_6) → (∀ r116 : Int, sv_RL r116 → (∀ r117 : Int, sv_RL r117 → (sv_R (l9_6 + (1 : Int))) ∧ ((0 ≤ (l9_6 + (1 : Int)) ∧ (l9_6 + (1 : Int)) ≤ (S 1071 0) ∧ ((1 : Int) = 0 ∨ (1 : Int) = 1)) ∧ ((S 1071 0) - (l9_6 + (1 : Int))) < ((S 1071 0) - l9_6))))) ∧ ((¬ ((64 : Int) ≤ l9_6)) → (∀ r119 : Int, sv_RL r119 → (∀ r120 : Int, sv_RL r120 → (sv_R (l9_6 + (1 : Int))) ∧ ((0 ≤ (l9_6 + (1 : Int)) ∧ (l9_6 + (1 : Int)) ≤ (S 1071 0) ∧ ((1 : Int) = 0 ∨ (1 : Int) = 1)) ∧ ((S 1071 0) - (l9_6 + (1 : Int))) < ((S 1071 0) - l9_6))))))) ∧ ((¬ (¬ r115 = (0 : Int))) → (sv_R (l9_6 + (1 : Int))) ∧ ((0 ≤ (l9_6 + (1 : Int)) ∧ (l9_6 + (1 : Int)) ≤ (S 1071 0) ∧ ((1 : Int) = 0 ∨ (1 : Int) = 1)) ∧ ((S 1071 0) - (l9_6 + (1 : Int))) < ((S 1071 0) - l9_6))))))))))) ∧ ((¬ (¬ r79 = (0 : Int))) → (sv_R (l9_6 + (1 : Int))) ∧ ((0 ≤ (l9_6 + (1 : Int)) ∧ (l9_6 + (1 : Int)) ≤ (S 1071 0) ∧ (l8_5 = 0 ∨ l8_5 = 1)) ∧ ((S 1071 0) - (l9_6 + (1 : Int))) < ((S 1071 0) - l9_6))))))))))))) ∧ (0 ≤ p2 ∧ p2 < 647800) ∧ (∀ r130 : Int, sv_R r130 → (sm_iand ((S 68 p2) % 1024) (-513) = r130) → (((r130 = (0 : Int)) → ((0 : Int) = 0 ∨ (0 : Int) = 1)) ∧ ((¬ (r130 = (0 : Int))) → ((1 : Int) = 0 ∨ (1 : Int) = 1))))) := by
  intro p1
  intro p2
  intro p3
  intro S
  intro h1_
  intro h2_
  intro h3_
  intro h4_
  rintro ⟨h5_, ⟨h6_, ⟨h7_, ⟨h8_, ⟨h9_, ⟨h10_, ⟨h11_, ⟨h12_, ⟨h13_, ⟨h14_, ⟨h15_, ⟨h16_, ⟨h17_, ⟨h18_, ⟨h19_, ⟨h20_, ⟨h21_, ⟨h22_, ⟨h23_, ⟨h24_, ⟨h25_, ⟨h26_, ⟨h27_, ⟨h28_, h29_⟩⟩⟩⟩⟩⟩⟩⟩⟩⟩⟩⟩⟩⟩⟩⟩⟩⟩⟩⟩⟩⟩⟩⟩
  refine ⟨?_, ?_⟩
  · skip
    intro s1
    intro h30_
    intro h31_
    refine ⟨⟨la_isMadeBySet_0, ⟨(la_isMadeBySet_1 h5_), h31_⟩⟩, ?_⟩
    intro l4_3
    intro h32_
    intro l6_4
    intro h33_
    intro l8_5
    intro h34_
    intro l9_6
    intro h35_
    rintro ⟨h36_, ⟨h37_, h38_⟩⟩
    refine ⟨(la_isMadeBySet_2 h37_), ?_⟩
    intro h39_
    refine ⟨?_, ?_⟩
    · skip
      intro h40_
      intro g11
      intro _
      refine ⟨la_isMadeBySet_3, ?_⟩
      intro g17
      intro _
      refine ⟨(la_isMadeBySet_4 h27_ h28_), ?_⟩
      refine ⟨⟨h5_, ⟨h6_, ⟨h7_, ⟨h8_, ⟨h9_, ⟨h10_, ⟨h11_, ⟨h12_, ⟨h13_, ⟨h14_, ⟨h15_, ⟨h16_, (la_isMadeBySet_5 h17_ h18_ h27_ h28_)⟩⟩⟩⟩⟩⟩⟩⟩⟩⟩⟩⟩, ?_⟩
      intro g24
      intro h41_
      refine ⟨(la_isMadeBySet_6 h27_ h28_), ?_⟩
      intro r34
      intro h42_
      intro h43_
      refine ⟨?_, ?_⟩
      · skip
        intro h44_
        have h45_ := (h43_.resolve_right (la_isMadeBySet_7 h44_))
        refine ⟨(la_isMadeBySet_8 h41_), ?_⟩
        intro h46_
        have h47_ := (h38_.resolve_right (la_isMadeBySet_9 h46_))
        intro r39
        intro h48_
        intro h49_
        refine ⟨(la_isMadeBySet_8 h41_), ?_⟩
        intro h50_
        rintro ⟨h51_, h52_⟩
        refine ⟨(la_isMadeBySet_10 h41_), ?_⟩
        intro h53_
        refine ⟨h41_, ?_⟩
        exact la_isMadeBySet_12
      intro h54_
      have h55_ := (h43_.resolve_left h54_)
      refine ⟨(la_isMadeBySet_14 h22_ h23_), ?_⟩
      intro r46
      intro h56_
      intro h57_
      refine ⟨?_, ?_⟩
      · skip
        intro h58_
        have h59_ := (h57_.resolve_right (la_isMadeBySet_7 h58_))
        refine ⟨(la_isMadeBySet_15 h27_ h28_), ?_⟩
        intro g48
        intro h60_
        refine ⟨(la_isMadeBySet_16 h41_ h60_), ?_⟩
        intro h61_
        have h62_ := (h38_.resolve_right (la_isMadeBySet_9 h61_))
        intro r57
        intro h63_
        intro h64_
        refine ⟨(la_isMadeBySet_16 h41_ h60_), ?_⟩
        intro h65_
        rintro ⟨h66_, h67_⟩
        refine ⟨(la_isMadeBySet_17 h41_ h60_), ?_⟩
        intro h68_
        refine ⟨(la_isMadeBySet_18 h41_ h60_), ?_⟩
        exact la_isMadeBySet_12
      intro h69_
      have h70_ := (h57_.resolve_left h69_)
      refine ⟨(la_isMadeBySet_15 h27_ h28_), ?_⟩
      intro g60
      intro h71_
      refine ⟨(la_isMadeBySet_16 h41_ h71_), ?_⟩
      intro h72_
      have h73_ := (h38_.resolve_right (la_isMadeBySet_9 h72_))
      intro r69
      intro h74_
      intro h75_
      refine ⟨(la_isMadeBySet_16 h41_ h71_), ?_⟩
      intro h76_
      rintro ⟨h77_, h78_⟩
      refine ⟨(la_isMadeBySet_17 h41_ h71_), ?_⟩
      intro h79_
      refine ⟨(la_isMadeBySet_18 h41_ h71_), ?_⟩
      exact la_isMadeBySet_12
    intro h80_
    refine ⟨(la_isMadeBySet_14 h24_ h25_), ?_⟩
    intro h81_
    intro h82_
    refine ⟨(la_isMadeBySet_19 h6_ h36_ h80_), ?_⟩
    intro r79
    intro h83_
    rintro ⟨h84_, h85_⟩
    refine ⟨?_, ?_⟩
    · skip
      intro h86_
      have h87_ := (h85_.resolve_left h86_)
      refine ⟨?_, ?_⟩
      · skip
        intro h88_
        have h89_ := (h38_.resolve_left h88_)
        refine ⟨(la_isMadeBySet_20 h6_ h9_ h10_ h36_ h80_), ?_⟩
        intro r85
        intro h90_
        rintro ⟨h91_, h92_⟩
        refine ⟨?_, ?_⟩
        · skip
          intro h93_
          have h94_ := (h91_.resolve_left h93_)
          have h95_ := (h92_ h94_)
          refine ⟨?_, ?_⟩
          · skip
            intro h96_
            intro r86
            intro h97_
            intro r87
            intro h98_
            refine ⟨(la_isMadeBySet_21 h6_ h80_ h96_), ?_⟩
            refine ⟨(la_isMadeBySet_22 h80_ h96_), ?_⟩
            exact la_isMadeBySet_23
          intro h99_
          intro r89
          intro h100_
          intro r90
          intro h101_
          refine ⟨(la_isMadeBySet_24 h36_ h99_), ?_⟩
          refine ⟨(la_isMadeBySet_25 h36_ h80_), ?_⟩
          exact la_isMadeBySet_23
        intro h102_
        have h103_ := (h91_.resolve_right (la_isMadeBySet_9 h102_))
        refine ⟨(la_isMadeBySet_26 h6_ h36_ h80_), ?_⟩
        refine ⟨(la_isMadeBySet_25 h36_ h80_), ?_⟩
        exact la_isMadeBySet_23
      intro h104_
      have h105_ := (h38_.resolve_right (la_isMadeBySet_9 h104_))
      refine ⟨(la_isMadeBySet_20 h6_ h9_ h10_ h36_ h80_), ?_⟩
      intro r98
      intro h106_
      rintro ⟨h107_, h108_⟩
      refine ⟨?_, ?_⟩
      · skip
        intro h109_
        have h110_ := (h107_.resolve_left h109_)
        have h111_ := (h108_ h110_)
        intro r103
        intro h112_
        rintro ⟨h113_, h114_⟩
        refine ⟨?_, ?_⟩
        · skip
          intro h115_
          have h116_ := (h113_.resolve_left h115_)
          have h117_ := (h114_ h116_)
          refine ⟨?_, ?_⟩
          · skip
            intro h118_
            intro r104
            intro h119_
            intro r105
            intro h120_
            refine ⟨(la_isMadeBySet_21 h6_ h80_ h118_), ?_⟩
            refine ⟨(la_isMadeBySet_27 h80_ h118_), ?_⟩
            exact la_isMadeBySet_23
          intro h121_
          intro r107
          intro h122_
          intro r108
          intro h123_
          refine ⟨(la_isMadeBySet_24 h36_ h121_), ?_⟩
          refine ⟨(la_isMadeBySet_28 h36_ h80_), ?_⟩
          exact la_isMadeBySet_23
        intro h124_
        have h125_ := (h113_.resolve_right (la_isMadeBySet_9 h124_))
        refine ⟨(la_isMadeBySet_26 h6_ h36_ h80_), ?_⟩
        refine ⟨(la_isMadeBySet_28 h36_ h80_), ?_⟩
        exact la_isMadeBySet_23
      intro h126_
      have h127_ := (h107_.resolve_right (la_isMadeBySet_9 h126_))
      intro r115
      intro h128_
      rintro ⟨h129_, h130_⟩
      refine ⟨?_, ?_⟩
      · skip
        intro h131_
        have h132_ := (h129_.resolve_left h131_)
        have h133_ := (h130_ h132_)
        refine ⟨?_, ?_⟩
        · skip
          intro h134_
          intro r116
          intro h135_
          intro r117
          intro h136_
          refine ⟨(la_isMadeBySet_21 h6_ h80_ h134_), ?_⟩
          refine ⟨(la_isMadeBySet_22 h80_ h134_), ?_⟩
          exact la_isMadeBySet_23
        intro h137_
        intro r119
        intro h138_
        intro r120
        intro h139_
        refine ⟨(la_isMadeBySet_24 h36_ h137_), ?_⟩
        refine ⟨(la_isMadeBySet_25 h36_ h80_), ?_⟩
        exact la_isMadeBySet_23
      intro h140_
      have h141_ := (h129_.resolve_right (la_isMadeBySet_9 h140_))
      refine ⟨(la_isMadeBySet_26 h6_ h36_ h80_), ?_⟩
      refine ⟨(la_isMadeBySet_25 h36_ h80_), ?_⟩
      exact la_isMadeBySet_23
    intro h142_
    have h143_ := (h85_.resolve_right (la_isMadeBySet_9 h142_))
    refine ⟨(la_isMadeBySet_26 h6_ h36_ h80_), ?_⟩
    refine ⟨⟨(la_isMadeBySet_29 h36_), ⟨(la_isMadeBySet_30 h80_), h38_⟩⟩, ?_⟩
    exact la_isMadeBySet_23
  refine ⟨(la_isMadeBySet_14 h24_ h25_), ?_⟩
  intro r130
  intro h144_
  intro h145_
  refine ⟨la_isMadeBySet_31, ?_⟩
  intro h146_
  exact la_isMadeBySet_12
set_option maxRecDepth 8000 in
set_option maxHeartbeats 2000000 in
theorem t_isMadeBySet : ∀ (p1 : Int) (p2 : Int) (p3 : Int) (S : sv_S), sm_ok S → sv_R p1 → sv_R p2 → sv_R p3 → (29 ≤ (S 1071 0) ∧ (S 1071 0) ≤ 127 ∧ 31 ≤ (S 1008 0) ∧ (S 1008 0) ≤ 90 ∧ 1 ≤ (S 1032 0) ∧ (S 1032 0) ≤ 11 ∧ 0 ≤ (S 1055 0) ∧ (S 1055 0) ≤ 19 ∧ (S 1071 0) = 29 + 6 * ((S 1032 0) - 1) + 2 * (S 1055 0) ∧ 0 ≤ (S 1046 0) ∧ (S 1046 0) + 2 * (S 1032 0) ≤ 500 ∧ sm_PD (S 1046 0) (S 1032 0) (S 1071 0) (S 1008 0) ∧ 0 ≤ (S 1071 0) * ((S 1008 0) + 1) ∧ (S 1071 0) * ((S 1008 0) + 1) ≤ 11557 ∧ 31 ≤ (S 1007 0) ∧ (S 1007 0) ≤ 400 ∧ sm_LN (S 4) 400 (S 1007 0) ∧ 0 ≤ p1 ∧ p1 < 647800 ∧ 0 ≤ p2 ∧ p2 < 647800 ∧ 635639 ≤ p3 + 1 ∧ p3 + 1 < 647790 ∧ 635639 ≤ p3 ∧ p3 < 647790) → sv_T sm_XS sm_cs sm_L sm_sh 4 (q_isMadeBySet p1 p2 p3 S) 279 0 (lv_args 0 [.ref 0, sv_I p1, sv_I p2, sv_I p3]) [] S := by
  intro p1 p2 p3 S hok hp1 hp2 hp3 hpre
  have h := f_isMadeBySet p1 p2 p3 S hok hp1 hp2 hp3 hpre
  have hM := sm_h279
  show sv_T sm_XS sm_cs sm_L sm_sh 4 (q_isMadeBySet p1 p2 p3 S) 279 0 [(0, .ref 0), (1, sv_I p1), (2, sv_I p2), (3, sv_I p3)] [] S
  refine sv_lconst (d := (0 : Int)) hM dX12_isMadeBySet_0 rfl rfl ?_
  refine sv_lstore hM dX12_isMadeBySet_1 (by decide) rfl ?_
  show sv_T sm_XS sm_cs sm_L sm_sh 4 (q_isMadeBySet p1 p2 p3 S) 279 3 [(0, .ref 0), (1, sv_I p1), (2, sv_I p2), (3, sv_I p3), (4, sv_L (0 : Int))] [] S
  refine sv_lconst (d := (0 : Int)) hM dX12_isMadeBySet_3 rfl rfl ?_
  refine sv_lstore hM dX12_isMadeBySet_4 (by decide) rfl ?_
  show sv_T sm_XS sm_cs sm_L sm_sh 4 (q_isMadeBySet p1 p2 p3 S) 279 6 [(0, .ref 0), (1, sv_I p1), (2, sv_I p2), (3, sv_I p3), (4, sv_L (0 : Int)), (6, sv_L (0 : Int))] [] S
  have J124 : ∀ s1 : Int, sv_R s1 → (s1 = 0 ∨ s1 = 1) → sv_T sm_XS sm_cs sm_L sm_sh 4 (q_isMadeBySet p1 p2 p3 S) 279 19 [(0, .ref 0), (1, sv_I p1), (2, sv_I p2), (3, sv_I p3), (4, sv_L (0 : Int)), (6, sv_L (0 : Int))] [sv_I s1] S := by
    intro s1 hs1 hin2
    have h := h.1 s1 hs1 hin2
    refine sv_istore hM dX12_isMadeBySet_19 (by decide) rfl ?_
    show sv_T sm_XS sm_cs sm_L sm_sh 4 (q_isMadeBySet p1 p2 p3 S) 279 21 [(0, .ref 0), (1, sv_I p1), (2, sv_I p2), (3, sv_I p3), (4, sv_L (0 : Int)), (6, sv_L (0 : Int)), (8, sv_I s1)] [] S
    refine sv_iconst (d := (0 : Int)) hM dX12_isMadeBySet_21 rfl rfl ?_
    refine sv_istore hM dX12_isMadeBySet_22 (by decide) rfl ?_
    show sv_T sm_XS sm_cs sm_L sm_sh 4 (q_isMadeBySet p1 p2 p3 S) 279 24 [(0, .ref 0), (1, sv_I p1), (2, sv_I p2), (3, sv_I p3), (4, sv_L (0 : Int)), (6, sv_L (0 : Int)), (8, sv_I s1), (9, sv_I (0 : Int))] [] S
    obtain ⟨hin8, h⟩ := h
    have hJ : ∀ a : Int × Int × Int × Int × Unit, (sv_RL a.1 ∧ sv_RL a.2.1 ∧ sv_R a.2.2.1 ∧ sv_R a.2.2.2.1 ∧ sm_ok S ∧ (0 ≤ a.2.2.2.1 ∧ a.2.2.2.1 ≤ (S 1071 0) ∧ (a.2.2.1 = 0 ∨ a.2.2.1 = 1))) → sv_T sm_XS sm_cs sm_L sm_sh 4 (q_isMadeBySet p1 p2 p3 S) 279 24 [(0, .ref 0), (1, sv_I p1), (2, sv_I p2), (3, sv_I p3), (4, sv_L a.1), (6, sv_L a.2.1), (8, sv_I a.2.2.1), (9, sv_I a.2.2.2.1)] [] S := by
      refine sv_loop (α := Int × Int × Int × Int × Unit) (fun a => sv_RL a.1 ∧ sv_RL a.2.1 ∧ sv_R a.2.2.1 ∧ sv_R a.2.2.2.1 ∧ sm_ok S ∧ (0 ≤ a.2.2.2.1 ∧ a.2.2.2.1 ≤ (S 1071 0) ∧ (a.2.2.1 = 0 ∨ a.2.2.1 = 1))) (fun a => (S 1071 0) - a.2.2.2.1) (fun a => sv_T sm_XS sm_cs sm_L sm_sh 4 (q_isMadeBySet p1 p2 p3 S) 279 24 [(0, .ref 0), (1, sv_I p1), (2, sv_I p2), (3, sv_I p3), (4, sv_L a.1), (6, sv_L a.2.1), (8, sv_I a.2.2.1), (9, sv_I a.2.2.2.1)] [] S) (fun a q => (h a.1 q.1 a.2.1 q.2.1 a.2.2.1 q.2.2.1 a.2.2.2.1 q.2.2.2.1 q.2.2.2.2.2).1) (fun a q ih7 => ?_)
      obtain ⟨l4_3, l6_4, l8_5, l9_6, _u⟩ := a
      obtain ⟨hl4_3, hl6_4, hl8_5, hl9_6, ok9, hin8i⟩ := q
      have h := (h l4_3 hl4_3 l6_4 hl6_4 l8_5 hl8_5 l9_6 hl9_6 hin8i).2
      show sv_T sm_XS sm_cs sm_L sm_sh 4 (q_isMadeBySet p1 p2 p3 S) 279 24 [(0, .ref 0), (1, sv_I p1), (2, sv_I p2), (3, sv_I p3), (4, sv_L l4_3), (6, sv_L l6_4), (8, sv_I l8_5), (9, sv_I l9_6)] [] S
      refine sv_iload hM dX12_isMadeBySet_24 rfl rfl ?_
      refine sv_aload_n hM dX12_isMadeBySet_26 rfl rfl ?_
      have k10 : sv_R (S 1071 0) := sm_okI ok9 sm_r1071 0
      have h := h k10
      refine sv_getI hM dX12_isMadeBySet_27 sm_fl_765 (sm_a0 _) sm_k71 rfl (x := (S 1071 0)) rfl ?_
      refine sv_icmp_ge hM dX12_isMadeBySet_30 hl9_6 k10 (t := 126) rfl rfl (fun hc => ?_) (fun hc => ?_)
      · have h := h.1 (hc)
        refine sv_aload_n hM dX12_isMadeBySet_126 rfl rfl ?_
        refine sv_callV hM dX12_isMadeBySet_127 sm_iv_1135 (by decide) (sm_a0 _) rfl rfl (Nat.le_of_ble_eq_true rfl) sm_h244 (Nat.le_of_ble_eq_true rfl) (Nat.le_of_ble_eq_true rfl) (F' := 0) (Nat.le_of_ble_eq_true rfl) rfl (t_noKeys  S ok9) (fun v S1 hq => ?_)
        obtain ⟨rfl, ok12, md13, hpo14⟩ := hq
        obtain ⟨g11, rfl⟩ : ∃ g, S1 = sv_sts S [1143, 1144] g := ⟨_, md13.eq⟩
        show sv_T sm_XS sm_cs sm_L sm_sh 4 (q_isMadeBySet p1 p2 p3 S) 279 130 [(0, .ref 0), (1, sv_I p1), (2, sv_I p2), (3, sv_I p3), (4, sv_L l4_3), (6, sv_L l6_4), (8, sv_I l8_5), (9, sv_I l9_6)] [] (sv_sts S [1143, 1144] g11)
        have md15 : sv_mod [68, 69, 70, 1143, 1144, 1145] S (sv_sts S [1143, 1144] g11) := sv_mod.sts sv_mod.rf (by decide)
        have h := h g11 hpo14
        refine sv_aload_n hM dX12_isMadeBySet_130 rfl rfl ?_
        refine sv_iconst (d := (1 : Int)) hM dX12_isMadeBySet_131 rfl rfl ?_
        obtain ⟨o16, h⟩ := h
        refine sv_callV hM dX12_isMadeBySet_132 sm_iv_1138 (by decide) (sm_a0 _) rfl rfl (Nat.le_of_ble_eq_true rfl) sm_h241 (Nat.le_of_ble_eq_true rfl) (Nat.le_of_ble_eq_true rfl) (F' := 0) (Nat.le_of_ble_eq_true rfl) rfl (t_addKey (1 : Int) (sv_sts S [1143, 1144] g11) ok12 (⟨by decide, by decide⟩ : sv_R (1 : Int)) o16) (fun v S1 hq => ?_)
        obtain ⟨rfl, ok18, md19, hpo20⟩ := hq
        obtain ⟨g17, rfl⟩ : ∃ g, S1 = sv_sts (sv_sts S [1143, 1144] g11) [1143, 1144] g := ⟨_, md19.eq⟩
        show sv_T sm_XS sm_cs sm_L sm_sh 4 (q_isMadeBySet p1 p2 p3 S) 279 135 [(0, .ref 0), (1, sv_I p1), (2, sv_I p2), (3, sv_I p3), (4, sv_L l4_3), (6, sv_L l6_4), (8, sv_I l8_5), (9, sv_I l9_6)] [] (sv_sts (sv_sts S [1143, 1144] g11) [1143, 1144] g17)
        have md21 : sv_mod [68, 69, 70, 1143, 1144, 1145] S (sv_sts (sv_sts S [1143, 1144] g11) [1143, 1144] g17) := sv_mod.sts md15 (by decide)
        have h := h g17 hpo20
        refine sv_aload_n hM dX12_isMadeBySet_135 rfl rfl ?_
        refine sv_lload hM dX12_isMadeBySet_136 rfl rfl ?_
        refine sv_lload hM dX12_isMadeBySet_138 rfl rfl ?_
        refine sv_iload_n hM dX12_isMadeBySet_140 rfl rfl ?_
        refine sv_iconst (d := (1 : Int)) hM dX12_isMadeBySet_141 rfl rfl ?_
        refine sv_iadd hM dX12_isMadeBySet_142 rfl ?_
        obtain ⟨o22, h⟩ := h
        obtain ⟨o23, h⟩ := h
        refine sv_callV hM dX12_isMadeBySet_143 sm_iv_1306 (by decide) (sm_a0 _) rfl rfl (Nat.le_of_ble_eq_true rfl) sm_h249 (Nat.le_of_ble_eq_true rfl) (Nat.le_of_ble_eq_true rfl) (F' := 3) (Nat.le_of_ble_eq_true rfl) rfl (t_readFrom l4_3 l6_4 (p3 + (1 : Int)) (sv_sts (sv_sts S [1143, 1144] g11) [1143, 1144] g17) ok18 hl4_3 hl6_4 o22 o23) (fun v S1 hq => ?_)
        obtain ⟨rfl, ok25, md26, hpo27⟩ := hq
        obtain ⟨g24, rfl⟩ : ∃ g, S1 = sv_sts (sv_sts (sv_sts S [1143, 1144] g11) [1143, 1144] g17) [68, 69, 70, 1145] g := ⟨_, md26.eq⟩
        show sv_T sm_XS sm_cs sm_L sm_sh 4 (q_isMadeBySet p1 p2 p3 S) 279 146 [(0, .ref 0), (1, sv_I p1), (2, sv_I p2), (3, sv_I p3), (4, sv_L l4_3), (6, sv_L l6_4), (8, sv_I l8_5), (9, sv_I l9_6)] [] (sv_sts (sv_sts (sv_sts S [1143, 1144] g11) [1143, 1144] g17) [68, 69, 70, 1145] g24)
        have md28 : sv_mod [68, 69, 70, 1143, 1144, 1145] S (sv_sts (sv_sts (sv_sts S [1143, 1144] g11) [1143, 1144] g17) [68, 69, 70, 1145] g24) := sv_mod.sts md21 (by decide)
        have h := h g24 hpo27
        refine sv_aload_n hM dX12_isMadeBySet_146 rfl rfl ?_
        refine sv_iload_n hM dX12_isMadeBySet_147 rfl rfl ?_
        refine sv_iconst (d := (1 : Int)) hM dX12_isMadeBySet_148 rfl rfl ?_
        refine sv_iadd hM dX12_isMadeBySet_149 rfl ?_
        obtain ⟨o29, h⟩ := h
        refine sv_callV hM dX12_isMadeBySet_150 sm_iv_1062 (by decide) (sm_a0 _) rfl rfl (Nat.le_of_ble_eq_true rfl) sm_h209 (Nat.le_of_ble_eq_true rfl) (Nat.le_of_ble_eq_true rfl) (F' := 0) (Nat.le_of_ble_eq_true rfl) rfl (t_hasLabels (p3 + (1 : Int)) (sv_sts (sv_sts (sv_sts S [1143, 1144] g11) [1143, 1144] g17) [68, 69, 70, 1145] g24) ok25 o22 o29) (fun v S1 hq => ?_)
        obtain ⟨r34, rfl, hr34, ok31, md32, hpo33⟩ := hq
        obtain rfl : (sv_sts (sv_sts (sv_sts S [1143, 1144] g11) [1143, 1144] g17) [68, 69, 70, 1145] g24) = S1 := (funext fun j => md32 j (by intro q; cases q)).symm
        show sv_T sm_XS sm_cs sm_L sm_sh 4 (q_isMadeBySet p1 p2 p3 S) 279 153 [(0, .ref 0), (1, sv_I p1), (2, sv_I p2), (3, sv_I p3), (4, sv_L l4_3), (6, sv_L l6_4), (8, sv_I l8_5), (9, sv_I l9_6)] [sv_I r34] (sv_sts (sv_sts (sv_sts S [1143, 1144] g11) [1143, 1144] g17) [68, 69, 70, 1145] g24)
        have h := h r34 hr34 hpo33
        refine sv_cond_eq hM dX12_isMadeBySet_153 hr34 (t := 176) rfl rfl (fun hc => ?_) (fun hc => ?_)
        · have h := h.1 (hc)
          refine sv_iload hM dX12_isMadeBySet_176 rfl rfl ?_
          refine sv_cond_ne hM dX12_isMadeBySet_178 hl8_5 (t := 198) rfl rfl (fun hc => ?_) (fun hc => ?_)
          · have h := h.1 (hc)
            refine sv_iconst (d := (1 : Int)) hM dX12_isMadeBySet_198 rfl rfl ?_
            refine sv_goto hM dX12_isMadeBySet_199 (pc' := 203) rfl ?_
            exact sv_iret hM dX12_isMadeBySet_203 rfl (sv_nz (⟨by decide, by decide⟩ : 0 ≤ (1 : Int) ∧ (1 : Int) ≤ 1)) ⟨(1 : Int), rfl, sv_R01 (⟨by decide, by decide⟩ : 0 ≤ (1 : Int) ∧ (1 : Int) ≤ 1), ok31, md28, h⟩
          · have h := h.2 (hc)
            refine sv_aload_n hM dX12_isMadeBySet_181 rfl rfl ?_
            refine sv_iload_n hM dX12_isMadeBySet_182 rfl rfl ?_
            refine sv_iconst (d := (1 : Int)) hM dX12_isMadeBySet_183 rfl rfl ?_
            refine sv_iadd hM dX12_isMadeBySet_184 rfl ?_
            refine sv_callV hM dX12_isMadeBySet_185 sm_iv_1059 (by decide) (sm_a0 _) rfl rfl (Nat.le_of_ble_eq_true rfl) sm_h210 (Nat.le_of_ble_eq_true rfl) (Nat.le_of_ble_eq_true rfl) (F' := 1) (Nat.le_of_ble_eq_true rfl) rfl (t_plainly (p3 + (1 : Int)) (sv_sts (sv_sts (sv_sts S [1143, 1144] g11) [1143, 1144] g17) [68, 69, 70, 1145] g24) ok31 o22 o29) (fun v S1 hq => ?_)
            obtain ⟨r39, rfl, hr39, ok36, md37, hpo38⟩ := hq
            obtain rfl : (sv_sts (sv_sts (sv_sts S [1143, 1144] g11) [1143, 1144] g17) [68, 69, 70, 1145] g24) = S1 := (funext fun j => md37 j (by intro q; cases q)).symm
            show sv_T sm_XS sm_cs sm_L sm_sh 4 (q_isMadeBySet p1 p2 p3 S) 279 188 [(0, .ref 0), (1, sv_I p1), (2, sv_I p2), (3, sv_I p3), (4, sv_L l4_3), (6, sv_L l6_4), (8, sv_I l8_5), (9, sv_I l9_6)] [sv_I r39] (sv_sts (sv_sts (sv_sts S [1143, 1144] g11) [1143, 1144] g17) [68, 69, 70, 1145] g24)
            have h := h r39 hr39 hpo38
            refine sv_cond_ne hM dX12_isMadeBySet_188 hr39 (t := 198) rfl rfl (fun hc => ?_) (fun hc => ?_)
            · have h := h.1 (hc)
              refine sv_iconst (d := (1 : Int)) hM dX12_isMadeBySet_198 rfl rfl ?_
              refine sv_goto hM dX12_isMadeBySet_199 (pc' := 203) rfl ?_
              exact sv_iret hM dX12_isMadeBySet_203 rfl (sv_nz (⟨by decide, by decide⟩ : 0 ≤ (1 : Int) ∧ (1 : Int) ≤ 1)) ⟨(1 : Int), rfl, sv_R01 (⟨by decide, by decide⟩ : 0 ≤ (1 : Int) ∧ (1 : Int) ≤ 1), ok36, md28, h⟩
            · have h := h.2 (hc)
              refine sv_aload_n hM dX12_isMadeBySet_191 rfl rfl ?_
              have k40 : (0 ≤ (g24 1145 0) ∧ (g24 1145 0) ≤ 1) := sm_okZ ok36 sm_r1145 0
              have h := h k40
              refine sv_getI hM dX12_isMadeBySet_192 sm_fl_1156 (sm_a0 _) sm_k145 rfl (x := (g24 1145 0)) rfl ?_
              refine sv_cond_eq hM dX12_isMadeBySet_195 (sv_R01 k40) (t := 202) rfl rfl (fun hc => ?_) (fun hc => ?_)
              · have h := h.1 (hc)
                refine sv_iconst (d := (0 : Int)) hM dX12_isMadeBySet_202 rfl rfl ?_
                exact sv_iret hM dX12_isMadeBySet_203 rfl (sv_nz (⟨by decide, by decide⟩ : 0 ≤ (0 : Int) ∧ (0 : Int) ≤ 1)) ⟨(0 : Int), rfl, sv_R01 (⟨by decide, by decide⟩ : 0 ≤ (0 : Int) ∧ (0 : Int) ≤ 1), ok36, md28, h⟩
              · have h := h.2 (hc)
                refine sv_iconst (d := (1 : Int)) hM dX12_isMadeBySet_198 rfl rfl ?_
                refine sv_goto hM dX12_isMadeBySet_199 (pc' := 203) rfl ?_
                exact sv_iret hM dX12_isMadeBySet_203 rfl (sv_nz (⟨by decide, by decide⟩ : 0 ≤ (1 : Int) ∧ (1 : Int) ≤ 1)) ⟨(1 : Int), rfl, sv_R01 (⟨by decide, by decide⟩ : 0 ≤ (1 : Int) ∧ (1 : Int) ≤ 1), ok36, md28, h⟩
        · have h := h.2 (hc)
          refine sv_aload_n hM dX12_isMadeBySet_156 rfl rfl ?_
          refine sv_iload_n hM dX12_isMadeBySet_157 rfl rfl ?_
          refine sv_aload_n hM dX12_isMadeBySet_158 rfl rfl ?_
          refine sv_iload_n hM dX12_isMadeBySet_159 rfl rfl ?_
          obtain ⟨o41, h⟩ := h
          refine sv_callV hM dX12_isMadeBySet_160 sm_iv_1062 (by decide) (sm_a0 _) rfl rfl (Nat.le_of_ble_eq_true rfl) sm_h209 (Nat.le_of_ble_eq_true rfl) (Nat.le_of_ble_eq_true rfl) (F' := 0) (Nat.le_of_ble_eq_true rfl) rfl (t_hasLabels p1 (sv_sts (sv_sts (sv_sts S [1143, 1144] g11) [1143, 1144] g17) [68, 69, 70, 1145] g24) ok31 hp1 o41) (fun v S1 hq => ?_)
          obtain ⟨r46, rfl, hr46, ok43, md44, hpo45⟩ := hq
          obtain rfl : (sv_sts (sv_sts (sv_sts S [1143, 1144] g11) [1143, 1144] g17) [68, 69, 70, 1145] g24) = S1 := (funext fun j => md44 j (by intro q; cases q)).symm
          show sv_T sm_XS sm_cs sm_L sm_sh 4 (q_isMadeBySet p1 p2 p3 S) 279 163 [(0, .ref 0), (1, sv_I p1), (2, sv_I p2), (3, sv_I p3), (4, sv_L l4_3), (6, sv_L l6_4), (8, sv_I l8_5), (9, sv_I l9_6)] [sv_I r46, sv_I p3, .ref 0] (sv_sts (sv_sts (sv_sts S [1143, 1144] g11) [1143, 1144] g17) [68, 69, 70, 1145] g24)
          have h := h r46 hr46 hpo45
          refine sv_cond_eq hM dX12_isMadeBySet_163 hr46 (t := 171) rfl rfl (fun hc => ?_) (fun hc => ?_)
          · have h := h.1 (hc)
            refine sv_bipush (d := (8 : Int)) hM dX12_isMadeBySet_171 rfl rfl ?_
            obtain ⟨o47, h⟩ := h
            refine sv_callV hM dX12_isMadeBySet_173 sm_iv_1072 (by decide) (sm_a0 _) rfl rfl (Nat.le_of_ble_eq_true rfl) sm_h213 (Nat.le_of_ble_eq_true rfl) (Nat.le_of_ble_eq_true rfl) (F' := 2) (Nat.le_of_ble_eq_true rfl) rfl (t_addSort p3 (8 : Int) (sv_sts (sv_sts (sv_sts S [1143, 1144] g11) [1143, 1144] g17) [68, 69, 70, 1145] g24) ok43 hp3 (⟨by decide, by decide⟩ : sv_R (8 : Int)) o47) (fun v S1 hq => ?_)
            obtain ⟨rfl, ok49, md50, hpo51⟩ := hq
            obtain ⟨g48, rfl⟩ : ∃ g, S1 = sv_sts (sv_sts (sv_sts (sv_sts S [1143, 1144] g11) [1143, 1144] g17) [68, 69, 70, 1145] g24) [68, 69, 70] g := ⟨_, md50.eq⟩
            show sv_T sm_XS sm_cs sm_L sm_sh 4 (q_isMadeBySet p1 p2 p3 S) 279 176 [(0, .ref 0), (1, sv_I p1), (2, sv_I p2), (3, sv_I p3), (4, sv_L l4_3), (6, sv_L l6_4), (8, sv_I l8_5), (9, sv_I l9_6)] [] (sv_sts (sv_sts (sv_sts (sv_sts S [1143, 1144] g11) [1143, 1144] g17) [68, 69, 70, 1145] g24) [68, 69, 70] g48)
            have md52 : sv_mod [68, 69, 70, 1143, 1144, 1145] S (sv_sts (sv_sts (sv_sts (sv_sts S [1143, 1144] g11) [1143, 1144] g17) [68, 69, 70, 1145] g24) [68, 69, 70] g48) := sv_mod.sts md28 (by decide)
            have h := h g48 hpo51
            refine sv_iload hM dX12_isMadeBySet_176 rfl rfl ?_
            refine sv_cond_ne hM dX12_isMadeBySet_178 hl8_5 (t := 198) rfl rfl (fun hc => ?_) (fun hc => ?_)
            · have h := h.1 (hc)
              refine sv_iconst (d := (1 : Int)) hM dX12_isMadeBySet_198 rfl rfl ?_
              refine sv_goto hM dX12_isMadeBySet_199 (pc' := 203) rfl ?_
              exact sv_iret hM dX12_isMadeBySet_203 rfl (sv_nz (⟨by decide, by decide⟩ : 0 ≤ (1 : Int) ∧ (1 : Int) ≤ 1)) ⟨(1 : Int), rfl, sv_R01 (⟨by decide, by decide⟩ : 0 ≤ (1 : Int) ∧ (1 : Int) ≤ 1), ok49, md52, h⟩
            · have h := h.2 (hc)
              refine sv_aload_n hM dX12_isMadeBySet_181 rfl rfl ?_
              refine sv_iload_n hM dX12_isMadeBySet_182 rfl rfl ?_
              refine sv_iconst (d := (1 : Int)) hM dX12_isMadeBySet_183 rfl rfl ?_
              refine sv_iadd hM dX12_isMadeBySet_184 rfl ?_
              refine sv_callV hM dX12_isMadeBySet_185 sm_iv_1059 (by decide) (sm_a0 _) rfl rfl (Nat.le_of_ble_eq_true rfl) sm_h210 (Nat.le_of_ble_eq_true rfl) (Nat.le_of_ble_eq_true rfl) (F' := 1) (Nat.le_of_ble_eq_true rfl) rfl (t_plainly (p3 + (1 : Int)) (sv_sts (sv_sts (sv_sts (sv_sts S [1143, 1144] g11) [1143, 1144] g17) [68, 69, 70, 1145] g24) [68, 69, 70] g48) ok49 o22 o29) (fun v S1 hq => ?_)
              obtain ⟨r57, rfl, hr57, ok54, md55, hpo56⟩ := hq
              obtain rfl : (sv_sts (sv_sts (sv_sts (sv_sts S [1143, 1144] g11) [1143, 1144] g17) [68, 69, 70, 1145] g24) [68, 69, 70] g48) = S1 := (funext fun j => md55 j (by intro q; cases q)).symm
              show sv_T sm_XS sm_cs sm_L sm_sh 4 (q_isMadeBySet p1 p2 p3 S) 279 188 [(0, .ref 0), (1, sv_I p1), (2, sv_I p2), (3, sv_I p3), (4, sv_L l4_3), (6, sv_L l6_4), (8, sv_I l8_5), (9, sv_I l9_6)] [sv_I r57] (sv_sts (sv_sts (sv_sts (sv_sts S [1143, 1144] g11) [1143, 1144] g17) [68, 69, 70, 1145] g24) [68, 69, 70] g48)
              have h := h r57 hr57 hpo56
              refine sv_cond_ne hM dX12_isMadeBySet_188 hr57 (t := 198) rfl rfl (fun hc => ?_) (fun hc => ?_)
              · have h := h.1 (hc)
                refine sv_iconst (d := (1 : Int)) hM dX12_isMadeBySet_198 rfl rfl ?_
                refine sv_goto hM dX12_isMadeBySet_199 (pc' := 203) rfl ?_
                exact sv_iret hM dX12_isMadeBySet_203 rfl (sv_nz (⟨by decide, by decide⟩ : 0 ≤ (1 : Int) ∧ (1 : Int) ≤ 1)) ⟨(1 : Int), rfl, sv_R01 (⟨by decide, by decide⟩ : 0 ≤ (1 : Int) ∧ (1 : Int) ≤ 1), ok54, md52, h⟩
              · have h := h.2 (hc)
                refine sv_aload_n hM dX12_isMadeBySet_191 rfl rfl ?_
                have k58 : (0 ≤ (g24 1145 0) ∧ (g24 1145 0) ≤ 1) := sm_okZ ok54 sm_r1145 0
                have h := h k58
                refine sv_getI hM dX12_isMadeBySet_192 sm_fl_1156 (sm_a0 _) sm_k145 rfl (x := (g24 1145 0)) rfl ?_
                refine sv_cond_eq hM dX12_isMadeBySet_195 (sv_R01 k58) (t := 202) rfl rfl (fun hc => ?_) (fun hc => ?_)
                · have h := h.1 (hc)
                  refine sv_iconst (d := (0 : Int)) hM dX12_isMadeBySet_202 rfl rfl ?_
                  exact sv_iret hM dX12_isMadeBySet_203 rfl (sv_nz (⟨by decide, by decide⟩ : 0 ≤ (0 : Int) ∧ (0 : Int) ≤ 1)) ⟨(0 : Int), rfl, sv_R01 (⟨by decide, by decide⟩ : 0 ≤ (0 : Int) ∧ (0 : Int) ≤ 1), ok54, md52, h⟩
                · have h := h.2 (hc)
                  refine sv_iconst (d := (1 : Int)) hM dX12_isMadeBySet_198 rfl rfl ?_
                  refine sv_goto hM dX12_isMadeBySet_199 (pc' := 203) rfl ?_
                  exact sv_iret hM dX12_isMadeBySet_203 rfl (sv_nz (⟨by decide, by decide⟩ : 0 ≤ (1 : Int) ∧ (1 : Int) ≤ 1)) ⟨(1 : Int), rfl, sv_R01 (⟨by decide, by decide⟩ : 0 ≤ (1 : Int) ∧ (1 : Int) ≤ 1), ok54, md52, h⟩
          · have h := h.2 (hc)
            refine sv_bipush (d := (12 : Int)) hM dX12_isMadeBySet_166 rfl rfl ?_
            refine sv_goto hM dX12_isMadeBySet_168 (pc' := 173) rfl ?_
            obtain ⟨o59, h⟩ := h
            refine sv_callV hM dX12_isMadeBySet_173 sm_iv_1072 (by decide) (sm_a0 _) rfl rfl (Nat.le_of_ble_eq_true rfl) sm_h213 (Nat.le_of_ble_eq_true rfl) (Nat.le_of_ble_eq_true rfl) (F' := 2) (Nat.le_of_ble_eq_true rfl) rfl (t_addSort p3 (12 : Int) (sv_sts (sv_sts (sv_sts S [1143, 1144] g11) [1143, 1144] g17) [68, 69, 70, 1145] g24) ok43 hp3 (⟨by decide, by decide⟩ : sv_R (12 : Int)) o59) (fun v S1 hq => ?_)
            obtain ⟨rfl, ok61, md62, hpo63⟩ := hq
            obtain ⟨g60, rfl⟩ : ∃ g, S1 = sv_sts (sv_sts (sv_sts (sv_sts S [1143, 1144] g11) [1143, 1144] g17) [68, 69, 70, 1145] g24) [68, 69, 70] g := ⟨_, md62.eq⟩
            show sv_T sm_XS sm_cs sm_L sm_sh 4 (q_isMadeBySet p1 p2 p3 S) 279 176 [(0, .ref 0), (1, sv_I p1), (2, sv_I p2), (3, sv_I p3), (4, sv_L l4_3), (6, sv_L l6_4), (8, sv_I l8_5), (9, sv_I l9_6)] [] (sv_sts (sv_sts (sv_sts (sv_sts S [1143, 1144] g11) [1143, 1144] g17) [68, 69, 70, 1145] g24) [68, 69, 70] g60)
            have md64 : sv_mod [68, 69, 70, 1143, 1144, 1145] S (sv_sts (sv_sts (sv_sts (sv_sts S [1143, 1144] g11) [1143, 1144] g17) [68, 69, 70, 1145] g24) [68, 69, 70] g60) := sv_mod.sts md28 (by decide)
            have h := h g60 hpo63
            refine sv_iload hM dX12_isMadeBySet_176 rfl rfl ?_
            refine sv_cond_ne hM dX12_isMadeBySet_178 hl8_5 (t := 198) rfl rfl (fun hc => ?_) (fun hc => ?_)
            · have h := h.1 (hc)
              refine sv_iconst (d := (1 : Int)) hM dX12_isMadeBySet_198 rfl rfl ?_
              refine sv_goto hM dX12_isMadeBySet_199 (pc' := 203) rfl ?_
              exact sv_iret hM dX12_isMadeBySet_203 rfl (sv_nz (⟨by decide, by decide⟩ : 0 ≤ (1 : Int) ∧ (1 : Int) ≤ 1)) ⟨(1 : Int), rfl, sv_R01 (⟨by decide, by decide⟩ : 0 ≤ (1 : Int) ∧ (1 : Int) ≤ 1), ok61, md64, h⟩
            · have h := h.2 (hc)
              refine sv_aload_n hM dX12_isMadeBySet_181 rfl rfl ?_
              refine sv_iload_n hM dX12_isMadeBySet_182 rfl rfl ?_
              refine sv_iconst (d := (1 : Int)) hM dX12_isMadeBySet_183 rfl rfl ?_
              refine sv_iadd hM dX12_isMadeBySet_184 rfl ?_
              refine sv_callV hM dX12_isMadeBySet_185 sm_iv_1059 (by decide) (sm_a0 _) rfl rfl (Nat.le_of_ble_eq_true rfl) sm_h210 (Nat.le_of_ble_eq_true rfl) (Nat.le_of_ble_eq_true rfl) (F' := 1) (Nat.le_of_ble_eq_true rfl) rfl (t_plainly (p3 + (1 : Int)) (sv_sts (sv_sts (sv_sts (sv_sts S [1143, 1144] g11) [1143, 1144] g17) [68, 69, 70, 1145] g24) [68, 69, 70] g60) ok61 o22 o29) (fun v S1 hq => ?_)
              obtain ⟨r69, rfl, hr69, ok66, md67, hpo68⟩ := hq
              obtain rfl : (sv_sts (sv_sts (sv_sts (sv_sts S [1143, 1144] g11) [1143, 1144] g17) [68, 69, 70, 1145] g24) [68, 69, 70] g60) = S1 := (funext fun j => md67 j (by intro q; cases q)).symm
              show sv_T sm_XS sm_cs sm_L sm_sh 4 (q_isMadeBySet p1 p2 p3 S) 279 188 [(0, .ref 0), (1, sv_I p1), (2, sv_I p2), (3, sv_I p3), (4, sv_L l4_3), (6, sv_L l6_4), (8, sv_I l8_5), (9, sv_I l9_6)] [sv_I r69] (sv_sts (sv_sts (sv_sts (sv_sts S [1143, 1144] g11) [1143, 1144] g17) [68, 69, 70, 1145] g24) [68, 69, 70] g60)
              have h := h r69 hr69 hpo68
              refine sv_cond_ne hM dX12_isMadeBySet_188 hr69 (t := 198) rfl rfl (fun hc => ?_) (fun hc => ?_)
              · have h := h.1 (hc)
                refine sv_iconst (d := (1 : Int)) hM dX12_isMadeBySet_198 rfl rfl ?_
                refine sv_goto hM dX12_isMadeBySet_199 (pc' := 203) rfl ?_
                exact sv_iret hM dX12_isMadeBySet_203 rfl (sv_nz (⟨by decide, by decide⟩ : 0 ≤ (1 : Int) ∧ (1 : Int) ≤ 1)) ⟨(1 : Int), rfl, sv_R01 (⟨by decide, by decide⟩ : 0 ≤ (1 : Int) ∧ (1 : Int) ≤ 1), ok66, md64, h⟩
              · have h := h.2 (hc)
                refine sv_aload_n hM dX12_isMadeBySet_191 rfl rfl ?_
                have k70 : (0 ≤ (g24 1145 0) ∧ (g24 1145 0) ≤ 1) := sm_okZ ok66 sm_r1145 0
                have h := h k70
                refine sv_getI hM dX12_isMadeBySet_192 sm_fl_1156 (sm_a0 _) sm_k145 rfl (x := (g24 1145 0)) rfl ?_
                refine sv_cond_eq hM dX12_isMadeBySet_195 (sv_R01 k70) (t := 202) rfl rfl (fun hc => ?_) (fun hc => ?_)
                · have h := h.1 (hc)
                  refine sv_iconst (d := (0 : Int)) hM dX12_isMadeBySet_202 rfl rfl ?_
                  exact sv_iret hM dX12_isMadeBySet_203 rfl (sv_nz (⟨by decide, by decide⟩ : 0 ≤ (0 : Int) ∧ (0 : Int) ≤ 1)) ⟨(0 : Int), rfl, sv_R01 (⟨by decide, by decide⟩ : 0 ≤ (0 : Int) ∧ (0 : Int) ≤ 1), ok66, md64, h⟩
                · have h := h.2 (hc)
                  refine sv_iconst (d := (1 : Int)) hM dX12_isMadeBySet_198 rfl rfl ?_
                  refine sv_goto hM dX12_isMadeBySet_199 (pc' := 203) rfl ?_
                  exact sv_iret hM dX12_isMadeBySet_203 rfl (sv_nz (⟨by decide, by decide⟩ : 0 ≤ (1 : Int) ∧ (1 : Int) ≤ 1)) ⟨(1 : Int), rfl, sv_R01 (⟨by decide, by decide⟩ : 0 ≤ (1 : Int) ∧ (1 : Int) ≤ 1), ok66, md64, h⟩
      · have h := h.2 (hc)
        refine sv_aload_n hM dX12_isMadeBySet_33 rfl rfl ?_
        refine sv_getA hM dX12_isMadeBySet_34 sm_fl_220 (sm_a0 _) sm_k117 rfl ?_
        refine sv_iload_n hM dX12_isMadeBySet_37 rfl rfl ?_
        obtain ⟨o71, h⟩ := h
        have k72 : sv_RL (S 69 p2) := sm_okJ ok9 sm_r69 p2
        have h := h k72
        refine sv_lald hM dX12_isMadeBySet_38 (sm_a69 _) (by decide) o71.1 o71.2 rfl (x := (S 69 p2)) rfl ?_
        refine sv_aload_n hM dX12_isMadeBySet_39 rfl rfl ?_
        refine sv_getA hM dX12_isMadeBySet_40 sm_fl_223 (sm_a0 _) sm_k118 rfl ?_
        refine sv_iload_n hM dX12_isMadeBySet_43 rfl rfl ?_
        have k73 : sv_RL (S 70 p2) := sm_okJ ok9 sm_r70 p2
        have h := h k73
        refine sv_lald hM dX12_isMadeBySet_44 (sm_a70 _) (by decide) o71.1 o71.2 rfl (x := (S 70 p2)) rfl ?_
        refine sv_iload hM dX12_isMadeBySet_45 rfl rfl ?_
        obtain ⟨o74, h⟩ := h
        refine sv_callS hM dX12_isMadeBySet_47 sm_iv_1125 (Nat.le_of_ble_eq_true rfl) rfl rfl (Nat.le_of_ble_eq_true rfl) sm_h217 (Nat.le_of_ble_eq_true rfl) (Nat.le_of_ble_eq_true rfl) (F' := 0) (Nat.le_of_ble_eq_true rfl) rfl (t_isIn (S 69 p2) (S 70 p2) l9_6 S ok9 k72 k73 hl9_6 o74) (fun v S1 hq => ?_)
        obtain ⟨r79, rfl, hr79, ok76, md77, hpo78⟩ := hq
        obtain rfl : S = S1 := (funext fun j => md77 j (by intro q; cases q)).symm
        show sv_T sm_XS sm_cs sm_L sm_sh 4 (q_isMadeBySet p1 p2 p3 S) 279 50 [(0, .ref 0), (1, sv_I p1), (2, sv_I p2), (3, sv_I p3), (4, sv_L l4_3), (6, sv_L l6_4), (8, sv_I l8_5), (9, sv_I l9_6)] [sv_I r79] S
        have h := h r79 hr79 hpo78
        refine sv_cond_ne hM dX12_isMadeBySet_50 hr79 (t := 56) rfl rfl (fun hc => ?_) (fun hc => ?_)
        · have h := h.1 (hc)
          refine sv_iload hM dX12_isMadeBySet_56 rfl rfl ?_
          refine sv_cond_ne hM dX12_isMadeBySet_58 hl8_5 (t := 70) rfl rfl (fun hc => ?_) (fun hc => ?_)
          · have h := h.1 (hc)
            refine sv_iconst (d := (1 : Int)) hM dX12_isMadeBySet_70 rfl rfl ?_
            refine sv_goto hM dX12_isMadeBySet_71 (pc' := 75) rfl ?_
            refine sv_istore hM dX12_isMadeBySet_75 (by decide) rfl ?_
            show sv_T sm_XS sm_cs sm_L sm_sh 4 (q_isMadeBySet p1 p2 p3 S) 279 77 [(0, .ref 0), (1, sv_I p1), (2, sv_I p2), (3, sv_I p3), (4, sv_L l4_3), (6, sv_L l6_4), (8, sv_I (1 : Int)), (9, sv_I l9_6)] [] S
            refine sv_aload_n hM dX12_isMadeBySet_77 rfl rfl ?_
            refine sv_iload hM dX12_isMadeBySet_78 rfl rfl ?_
            obtain ⟨o80, h⟩ := h
            refine sv_callV hM dX12_isMadeBySet_80 sm_iv_1115 (by decide) (sm_a0 _) rfl rfl (Nat.le_of_ble_eq_true rfl) sm_h237 (Nat.le_of_ble_eq_true rfl) (Nat.le_of_ble_eq_true rfl) (F' := 0) (Nat.le_of_ble_eq_true rfl) rfl (t_isFunctionLabel l9_6 S ok76 hl9_6 o80) (fun v S1 hq => ?_)
            obtain ⟨r85, rfl, hr85, ok82, md83, hpo84⟩ := hq
            obtain rfl : S = S1 := (funext fun j => md83 j (by intro q; cases q)).symm
            show sv_T sm_XS sm_cs sm_L sm_sh 4 (q_isMadeBySet p1 p2 p3 S) 279 83 [(0, .ref 0), (1, sv_I p1), (2, sv_I p2), (3, sv_I p3), (4, sv_L l4_3), (6, sv_L l6_4), (8, sv_I (1 : Int)), (9, sv_I l9_6)] [sv_I r85] S
            have h := h r85 hr85 hpo84
            refine sv_cond_ne hM dX12_isMadeBySet_83 hr85 (t := 89) rfl rfl (fun hc => ?_) (fun hc => ?_)
            · have h := h.1 (hc)
              refine sv_iload hM dX12_isMadeBySet_89 rfl rfl ?_
              refine sv_bipush (d := (64 : Int)) hM dX12_isMadeBySet_91 rfl rfl ?_
              refine sv_icmp_ge hM dX12_isMadeBySet_93 hl9_6 (⟨by decide, by decide⟩ : sv_R (64 : Int)) (t := 108) rfl rfl (fun hc => ?_) (fun hc => ?_)
              · have h := h.1 (hc)
                refine sv_lload hM dX12_isMadeBySet_108 rfl rfl ?_
                refine sv_lconst (d := (1 : Int)) hM dX12_isMadeBySet_110 rfl rfl ?_
                refine sv_iload hM dX12_isMadeBySet_111 rfl rfl ?_
                refine sv_bipush (d := (64 : Int)) hM dX12_isMadeBySet_113 rfl rfl ?_
                refine sv_isub hM dX12_isMadeBySet_115 rfl ?_
                refine sv_anyL hM dX12_isMadeBySet_116 rfl rfl (fun r86 hr86 _ => ?_)
                have h := h r86 hr86
                refine sv_anyL hM dX12_isMadeBySet_117 rfl rfl (fun r87 hr87 _ => ?_)
                have h := h r87 hr87
                refine sv_lstore hM dX12_isMadeBySet_118 (by decide) rfl ?_
                show sv_T sm_XS sm_cs sm_L sm_sh 4 (q_isMadeBySet p1 p2 p3 S) 279 120 [(0, .ref 0), (1, sv_I p1), (2, sv_I p2), (3, sv_I p3), (4, sv_L l4_3), (6, sv_L r87), (8, sv_I (1 : Int)), (9, sv_I l9_6)] [] S
                refine sv_iinc (d := (1 : Int)) hM dX12_isMadeBySet_120 rfl (by decide) rfl rfl ?_
                show sv_T sm_XS sm_cs sm_L sm_sh 4 (q_isMadeBySet p1 p2 p3 S) 279 123 [(0, .ref 0), (1, sv_I p1), (2, sv_I p2), (3, sv_I p3), (4, sv_L l4_3), (6, sv_L r87), (8, sv_I (1 : Int)), (9, sv_I (l9_6 + (1 : Int)))] [] S
                refine sv_goto hM dX12_isMadeBySet_123 (pc' := 24) rfl ?_
                obtain ⟨o88, h⟩ := h
                have hb := ih7 (l4_3, r87, (1 : Int), (l9_6 + (1 : Int)), ()) ⟨hl4_3, hr87, (⟨by decide, by decide⟩ : sv_R (1 : Int)), o88, ok82, h.1⟩ h.2
                exact sv_less (lv := [(0, .ref 0), (1, sv_I p1), (2, sv_I p2), (3, sv_I p3), (4, sv_L l4_3), (6, sv_L r87), (8, sv_I (1 : Int)), (9, sv_I (l9_6 + (1 : Int)))]) (sv_Sub_cons rfl (sv_Sub_cons rfl (sv_Sub_cons rfl (sv_Sub_cons rfl (sv_Sub_cons rfl (sv_Sub_cons rfl (sv_Sub_cons rfl (sv_Sub_cons rfl sv_Sub_nil)))))))) hb
              · have h := h.2 (hc)
                refine sv_lload hM dX12_isMadeBySet_96 rfl rfl ?_
                refine sv_lconst (d := (1 : Int)) hM dX12_isMadeBySet_98 rfl rfl ?_
                refine sv_iload hM dX12_isMadeBySet_99 rfl rfl ?_
                refine sv_anyL hM dX12_isMadeBySet_101 rfl rfl (fun r89 hr89 _ => ?_)
                have h := h r89 hr89
                refine sv_anyL hM dX12_isMadeBySet_102 rfl rfl (fun r90 hr90 _ => ?_)
                have h := h r90 hr90
                refine sv_lstore hM dX12_isMadeBySet_103 (by decide) rfl ?_
                show sv_T sm_XS sm_cs sm_L sm_sh 4 (q_isMadeBySet p1 p2 p3 S) 279 105 [(0, .ref 0), (1, sv_I p1), (2, sv_I p2), (3, sv_I p3), (4, sv_L r90), (6, sv_L l6_4), (8, sv_I (1 : Int)), (9, sv_I l9_6)] [] S
                refine sv_goto hM dX12_isMadeBySet_105 (pc' := 120) rfl ?_
                refine sv_iinc (d := (1 : Int)) hM dX12_isMadeBySet_120 rfl (by decide) rfl rfl ?_
                show sv_T sm_XS sm_cs sm_L sm_sh 4 (q_isMadeBySet p1 p2 p3 S) 279 123 [(0, .ref 0), (1, sv_I p1), (2, sv_I p2), (3, sv_I p3), (4, sv_L r90), (6, sv_L l6_4), (8, sv_I (1 : Int)), (9, sv_I (l9_6 + (1 : Int)))] [] S
                refine sv_goto hM dX12_isMadeBySet_123 (pc' := 24) rfl ?_
                obtain ⟨o91, h⟩ := h
                have hb := ih7 (r90, l6_4, (1 : Int), (l9_6 + (1 : Int)), ()) ⟨hr90, hl6_4, (⟨by decide, by decide⟩ : sv_R (1 : Int)), o91, ok82, h.1⟩ h.2
                exact sv_less (lv := [(0, .ref 0), (1, sv_I p1), (2, sv_I p2), (3, sv_I p3), (4, sv_L r90), (6, sv_L l6_4), (8, sv_I (1 : Int)), (9, sv_I (l9_6 + (1 : Int)))]) (sv_Sub_cons rfl (sv_Sub_cons rfl (sv_Sub_cons rfl (sv_Sub_cons rfl (sv_Sub_cons rfl (sv_Sub_cons rfl (sv_Sub_cons rfl (sv_Sub_cons rfl sv_Sub_nil)))))))) hb
            · have h := h.2 (hc)
              refine sv_goto hM dX12_isMadeBySet_86 (pc' := 120) rfl ?_
              refine sv_iinc (d := (1 : Int)) hM dX12_isMadeBySet_120 rfl (by decide) rfl rfl ?_
              show sv_T sm_XS sm_cs sm_L sm_sh 4 (q_isMadeBySet p1 p2 p3 S) 279 123 [(0, .ref 0), (1, sv_I p1), (2, sv_I p2), (3, sv_I p3), (4, sv_L l4_3), (6, sv_L l6_4), (8, sv_I (1 : Int)), (9, sv_I (l9_6 + (1 : Int)))] [] S
              refine sv_goto hM dX12_isMadeBySet_123 (pc' := 24) rfl ?_
              obtain ⟨o92, h⟩ := h
              have hb := ih7 (l4_3, l6_4, (1 : Int), (l9_6 + (1 : Int)), ()) ⟨hl4_3, hl6_4, (⟨by decide, by decide⟩ : sv_R (1 : Int)), o92, ok82, h.1⟩ h.2
              exact sv_less (lv := [(0, .ref 0), (1, sv_I p1), (2, sv_I p2), (3, sv_I p3), (4, sv_L l4_3), (6, sv_L l6_4), (8, sv_I (1 : Int)), (9, sv_I (l9_6 + (1 : Int)))]) (sv_Sub_cons rfl (sv_Sub_cons rfl (sv_Sub_cons rfl (sv_Sub_cons rfl (sv_Sub_cons rfl (sv_Sub_cons rfl (sv_Sub_cons rfl (sv_Sub_cons rfl sv_Sub_nil)))))))) hb
          · have h := h.2 (hc)
            refine sv_aload_n hM dX12_isMadeBySet_61 rfl rfl ?_
            refine sv_iload hM dX12_isMadeBySet_62 rfl rfl ?_
            obtain ⟨o93, h⟩ := h
            refine sv_callV hM dX12_isMadeBySet_64 sm_iv_1115 (by decide) (sm_a0 _) rfl rfl (Nat.le_of_ble_eq_true rfl) sm_h237 (Nat.le_of_ble_eq_true rfl) (Nat.le_of_ble_eq_true rfl) (F' := 0) (Nat.le_of_ble_eq_true rfl) rfl (t_isFunctionLabel l9_6 S ok76 hl9_6 o93) (fun v S1 hq => ?_)
            obtain ⟨r98, rfl, hr98, ok95, md96, hpo97⟩ := hq
            obtain rfl : S = S1 := (funext fun j => md96 j (by intro q; cases q)).symm
            show sv_T sm_XS sm_cs sm_L sm_sh 4 (q_isMadeBySet p1 p2 p3 S) 279 67 [(0, .ref 0), (1, sv_I p1), (2, sv_I p2), (3, sv_I p3), (4, sv_L l4_3), (6, sv_L l6_4), (8, sv_I l8_5), (9, sv_I l9_6)] [sv_I r98] S
            have h := h r98 hr98 hpo97
            refine sv_cond_ne hM dX12_isMadeBySet_67 hr98 (t := 74) rfl rfl (fun hc => ?_) (fun hc => ?_)
            · have h := h.1 (hc)
              refine sv_iconst (d := (0 : Int)) hM dX12_isMadeBySet_74 rfl rfl ?_
              refine sv_istore hM dX12_isMadeBySet_75 (by decide) rfl ?_
              show sv_T sm_XS sm_cs sm_L sm_sh 4 (q_isMadeBySet p1 p2 p3 S) 279 77 [(0, .ref 0), (1, sv_I p1), (2, sv_I p2), (3, sv_I p3), (4, sv_L l4_3), (6, sv_L l6_4), (8, sv_I (0 : Int)), (9, sv_I l9_6)] [] S
              refine sv_aload_n hM dX12_isMadeBySet_77 rfl rfl ?_
              refine sv_iload hM dX12_isMadeBySet_78 rfl rfl ?_
              refine sv_callV hM dX12_isMadeBySet_80 sm_iv_1115 (by decide) (sm_a0 _) rfl rfl (Nat.le_of_ble_eq_true rfl) sm_h237 (Nat.le_of_ble_eq_true rfl) (Nat.le_of_ble_eq_true rfl) (F' := 0) (Nat.le_of_ble_eq_true rfl) rfl (t_isFunctionLabel l9_6 S ok95 hl9_6 o93) (fun v S1 hq => ?_)
              obtain ⟨r103, rfl, hr103, ok100, md101, hpo102⟩ := hq
              obtain rfl : S = S1 := (funext fun j => md101 j (by intro q; cases q)).symm
              show sv_T sm_XS sm_cs sm_L sm_sh 4 (q_isMadeBySet p1 p2 p3 S) 279 83 [(0, .ref 0), (1, sv_I p1), (2, sv_I p2), (3, sv_I p3), (4, sv_L l4_3), (6, sv_L l6_4), (8, sv_I (0 : Int)), (9, sv_I l9_6)] [sv_I r103] S
              have h := h r103 hr103 hpo102
              refine sv_cond_ne hM dX12_isMadeBySet_83 hr103 (t := 89) rfl rfl (fun hc => ?_) (fun hc => ?_)
              · have h := h.1 (hc)
                refine sv_iload hM dX12_isMadeBySet_89 rfl rfl ?_
                refine sv_bipush (d := (64 : Int)) hM dX12_isMadeBySet_91 rfl rfl ?_
                refine sv_icmp_ge hM dX12_isMadeBySet_93 hl9_6 (⟨by decide, by decide⟩ : sv_R (64 : Int)) (t := 108) rfl rfl (fun hc => ?_) (fun hc => ?_)
                · have h := h.1 (hc)
                  refine sv_lload hM dX12_isMadeBySet_108 rfl rfl ?_
                  refine sv_lconst (d := (1 : Int)) hM dX12_isMadeBySet_110 rfl rfl ?_
                  refine sv_iload hM dX12_isMadeBySet_111 rfl rfl ?_
                  refine sv_bipush (d := (64 : Int)) hM dX12_isMadeBySet_113 rfl rfl ?_
                  refine sv_isub hM dX12_isMadeBySet_115 rfl ?_
                  refine sv_anyL hM dX12_isMadeBySet_116 rfl rfl (fun r104 hr104 _ => ?_)
                  have h := h r104 hr104
                  refine sv_anyL hM dX12_isMadeBySet_117 rfl rfl (fun r105 hr105 _ => ?_)
                  have h := h r105 hr105
                  refine sv_lstore hM dX12_isMadeBySet_118 (by decide) rfl ?_
                  show sv_T sm_XS sm_cs sm_L sm_sh 4 (q_isMadeBySet p1 p2 p3 S) 279 120 [(0, .ref 0), (1, sv_I p1), (2, sv_I p2), (3, sv_I p3), (4, sv_L l4_3), (6, sv_L r105), (8, sv_I (0 : Int)), (9, sv_I l9_6)] [] S
                  refine sv_iinc (d := (1 : Int)) hM dX12_isMadeBySet_120 rfl (by decide) rfl rfl ?_
                  show sv_T sm_XS sm_cs sm_L sm_sh 4 (q_isMadeBySet p1 p2 p3 S) 279 123 [(0, .ref 0), (1, sv_I p1), (2, sv_I p2), (3, sv_I p3), (4, sv_L l4_3), (6, sv_L r105), (8, sv_I (0 : Int)), (9, sv_I (l9_6 + (1 : Int)))] [] S
                  refine sv_goto hM dX12_isMadeBySet_123 (pc' := 24) rfl ?_
                  obtain ⟨o106, h⟩ := h
                  have hb := ih7 (l4_3, r105, (0 : Int), (l9_6 + (1 : Int)), ()) ⟨hl4_3, hr105, (⟨by decide, by decide⟩ : sv_R (0 : Int)), o106, ok100, h.1⟩ h.2
                  exact sv_less (lv := [(0, .ref 0), (1, sv_I p1), (2, sv_I p2), (3, sv_I p3), (4, sv_L l4_3), (6, sv_L r105), (8, sv_I (0 : Int)), (9, sv_I (l9_6 + (1 : Int)))]) (sv_Sub_cons rfl (sv_Sub_cons rfl (sv_Sub_cons rfl (sv_Sub_cons rfl (sv_Sub_cons rfl (sv_Sub_cons rfl (sv_Sub_cons rfl (sv_Sub_cons rfl sv_Sub_nil)))))))) hb
                · have h := h.2 (hc)
                  refine sv_lload hM dX12_isMadeBySet_96 rfl rfl ?_
                  refine sv_lconst (d := (1 : Int)) hM dX12_isMadeBySet_98 rfl rfl ?_
                  refine sv_iload hM dX12_isMadeBySet_99 rfl rfl ?_
                  refine sv_anyL hM dX12_isMadeBySet_101 rfl rfl (fun r107 hr107 _ => ?_)
                  have h := h r107 hr107
                  refine sv_anyL hM dX12_isMadeBySet_102 rfl rfl (fun r108 hr108 _ => ?_)
                  have h := h r108 hr108
                  refine sv_lstore hM dX12_isMadeBySet_103 (by decide) rfl ?_
                  show sv_T sm_XS sm_cs sm_L sm_sh 4 (q_isMadeBySet p1 p2 p3 S) 279 105 [(0, .ref 0), (1, sv_I p1), (2, sv_I p2), (3, sv_I p3), (4, sv_L r108), (6, sv_L l6_4), (8, sv_I (0 : Int)), (9, sv_I l9_6)] [] S
                  refine sv_goto hM dX12_isMadeBySet_105 (pc' := 120) rfl ?_
                  refine sv_iinc (d := (1 : Int)) hM dX12_isMadeBySet_120 rfl (by decide) rfl rfl ?_
                  show sv_T sm_XS sm_cs sm_L sm_sh 4 (q_isMadeBySet p1 p2 p3 S) 279 123 [(0, .ref 0), (1, sv_I p1), (2, sv_I p2), (3, sv_I p3), (4, sv_L r108), (6, sv_L l6_4), (8, sv_I (0 : Int)), (9, sv_I (l9_6 + (1 : Int)))] [] S
                  refine sv_goto hM dX12_isMadeBySet_123 (pc' := 24) rfl ?_
                  obtain ⟨o109, h⟩ := h
                  have hb := ih7 (r108, l6_4, (0 : Int), (l9_6 + (1 : Int)), ()) ⟨hr108, hl6_4, (⟨by decide, by decide⟩ : sv_R (0 : Int)), o109, ok100, h.1⟩ h.2
                  exact sv_less (lv := [(0, .ref 0), (1, sv_I p1), (2, sv_I p2), (3, sv_I p3), (4, sv_L r108), (6, sv_L l6_4), (8, sv_I (0 : Int)), (9, sv_I (l9_6 + (1 : Int)))]) (sv_Sub_cons rfl (sv_Sub_cons rfl (sv_Sub_cons rfl (sv_Sub_cons rfl (sv_Sub_cons rfl (sv_Sub_cons rfl (sv_Sub_cons rfl (sv_Sub_cons rfl sv_Sub_nil)))))))) hb
              · have h := h.2 (hc)
                refine sv_goto hM dX12_isMadeBySet_86 (pc' := 120) rfl ?_
                refine sv_iinc (d := (1 : Int)) hM dX12_isMadeBySet_120 rfl (by decide) rfl rfl ?_
                show sv_T sm_XS sm_cs sm_L sm_sh 4 (q_isMadeBySet p1 p2 p3 S) 279 123 [(0, .ref 0), (1, sv_I p1), (2, sv_I p2), (3, sv_I p3), (4, sv_L l4_3), (6, sv_L l6_4), (8, sv_I (0 : Int)), (9, sv_I (l9_6 + (1 : Int)))] [] S
                refine sv_goto hM dX12_isMadeBySet_123 (pc' := 24) rfl ?_
                obtain ⟨o110, h⟩ := h
                have hb := ih7 (l4_3, l6_4, (0 : Int), (l9_6 + (1 : Int)), ()) ⟨hl4_3, hl6_4, (⟨by decide, by decide⟩ : sv_R (0 : Int)), o110, ok100, h.1⟩ h.2
                exact sv_less (lv := [(0, .ref 0), (1, sv_I p1), (2, sv_I p2), (3, sv_I p3), (4, sv_L l4_3), (6, sv_L l6_4), (8, sv_I (0 : Int)), (9, sv_I (l9_6 + (1 : Int)))]) (sv_Sub_cons rfl (sv_Sub_cons rfl (sv_Sub_cons rfl (sv_Sub_cons rfl (sv_Sub_cons rfl (sv_Sub_cons rfl (sv_Sub_cons rfl (sv_Sub_cons rfl sv_Sub_nil)))))))) hb
            · have h := h.2 (hc)
              refine sv_iconst (d := (1 : Int)) hM dX12_isMadeBySet_70 rfl rfl ?_
              refine sv_goto hM dX12_isMadeBySet_71 (pc' := 75) rfl ?_
              refine sv_istore hM dX12_isMadeBySet_75 (by decide) rfl ?_
              show sv_T sm_XS sm_cs sm_L sm_sh 4 (q_isMadeBySet p1 p2 p3 S) 279 77 [(0, .ref 0), (1, sv_I p1), (2, sv_I p2), (3, sv_I p3), (4, sv_L l4_3), (6, sv_L l6_4), (8, sv_I (1 : Int)), (9, sv_I l9_6)] [] S
              refine sv_aload_n hM dX12_isMadeBySet_77 rfl rfl ?_
              refine sv_iload hM dX12_isMadeBySet_78 rfl rfl ?_
              refine sv_callV hM dX12_isMadeBySet_80 sm_iv_1115 (by decide) (sm_a0 _) rfl rfl (Nat.le_of_ble_eq_true rfl) sm_h237 (Nat.le_of_ble_eq_true rfl) (Nat.le_of_ble_eq_true rfl) (F' := 0) (Nat.le_of_ble_eq_true rfl) rfl (t_isFunctionLabel l9_6 S ok95 hl9_6 o93) (fun v S1 hq => ?_)
              obtain ⟨r115, rfl, hr115, ok112, md113, hpo114⟩ := hq
              obtain rfl : S = S1 := (funext fun j => md113 j (by intro q; cases q)).symm
              show sv_T sm_XS sm_cs sm_L sm_sh 4 (q_isMadeBySet p1 p2 p3 S) 279 83 [(0, .ref 0), (1, sv_I p1), (2, sv_I p2), (3, sv_I p3), (4, sv_L l4_3), (6, sv_L l6_4), (8, sv_I (1 : Int)), (9, sv_I l9_6)] [sv_I r115] S
              have h := h r115 hr115 hpo114
              refine sv_cond_ne hM dX12_isMadeBySet_83 hr115 (t := 89) rfl rfl (fun hc => ?_) (fun hc => ?_)
              · have h := h.1 (hc)
                refine sv_iload hM dX12_isMadeBySet_89 rfl rfl ?_
                refine sv_bipush (d := (64 : Int)) hM dX12_isMadeBySet_91 rfl rfl ?_
                refine sv_icmp_ge hM dX12_isMadeBySet_93 hl9_6 (⟨by decide, by decide⟩ : sv_R (64 : Int)) (t := 108) rfl rfl (fun hc => ?_) (fun hc => ?_)
                · have h := h.1 (hc)
                  refine sv_lload hM dX12_isMadeBySet_108 rfl rfl ?_
                  refine sv_lconst (d := (1 : Int)) hM dX12_isMadeBySet_110 rfl rfl ?_
                  refine sv_iload hM dX12_isMadeBySet_111 rfl rfl ?_
                  refine sv_bipush (d := (64 : Int)) hM dX12_isMadeBySet_113 rfl rfl ?_
                  refine sv_isub hM dX12_isMadeBySet_115 rfl ?_
                  refine sv_anyL hM dX12_isMadeBySet_116 rfl rfl (fun r116 hr116 _ => ?_)
                  have h := h r116 hr116
                  refine sv_anyL hM dX12_isMadeBySet_117 rfl rfl (fun r117 hr117 _ => ?_)
                  have h := h r117 hr117
                  refine sv_lstore hM dX12_isMadeBySet_118 (by decide) rfl ?_
                  show sv_T sm_XS sm_cs sm_L sm_sh 4 (q_isMadeBySet p1 p2 p3 S) 279 120 [(0, .ref 0), (1, sv_I p1), (2, sv_I p2), (3, sv_I p3), (4, sv_L l4_3), (6, sv_L r117), (8, sv_I (1 : Int)), (9, sv_I l9_6)] [] S
                  refine sv_iinc (d := (1 : Int)) hM dX12_isMadeBySet_120 rfl (by decide) rfl rfl ?_
                  show sv_T sm_XS sm_cs sm_L sm_sh 4 (q_isMadeBySet p1 p2 p3 S) 279 123 [(0, .ref 0), (1, sv_I p1), (2, sv_I p2), (3, sv_I p3), (4, sv_L l4_3), (6, sv_L r117), (8, sv_I (1 : Int)), (9, sv_I (l9_6 + (1 : Int)))] [] S
                  refine sv_goto hM dX12_isMadeBySet_123 (pc' := 24) rfl ?_
                  obtain ⟨o118, h⟩ := h
                  have hb := ih7 (l4_3, r117, (1 : Int), (l9_6 + (1 : Int)), ()) ⟨hl4_3, hr117, (⟨by decide, by decide⟩ : sv_R (1 : Int)), o118, ok112, h.1⟩ h.2
                  exact sv_less (lv := [(0, .ref 0), (1, sv_I p1), (2, sv_I p2), (3, sv_I p3), (4, sv_L l4_3), (6, sv_L r117), (8, sv_I (1 : Int)), (9, sv_I (l9_6 + (1 : Int)))]) (sv_Sub_cons rfl (sv_Sub_cons rfl (sv_Sub_cons rfl (sv_Sub_cons rfl (sv_Sub_cons rfl (sv_Sub_cons rfl (sv_Sub_cons rfl (sv_Sub_cons rfl sv_Sub_nil)))))))) hb
                · have h := h.2 (hc)
                  refine sv_lload hM dX12_isMadeBySet_96 rfl rfl ?_
                  refine sv_lconst (d := (1 : Int)) hM dX12_isMadeBySet_98 rfl rfl ?_
                  refine sv_iload hM dX12_isMadeBySet_99 rfl rfl ?_
                  refine sv_anyL hM dX12_isMadeBySet_101 rfl rfl (fun r119 hr119 _ => ?_)
                  have h := h r119 hr119
                  refine sv_anyL hM dX12_isMadeBySet_102 rfl rfl (fun r120 hr120 _ => ?_)
                  have h := h r120 hr120
                  refine sv_lstore hM dX12_isMadeBySet_103 (by decide) rfl ?_
                  show sv_T sm_XS sm_cs sm_L sm_sh 4 (q_isMadeBySet p1 p2 p3 S) 279 105 [(0, .ref 0), (1, sv_I p1), (2, sv_I p2), (3, sv_I p3), (4, sv_L r120), (6, sv_L l6_4), (8, sv_I (1 : Int)), (9, sv_I l9_6)] [] S
                  refine sv_goto hM dX12_isMadeBySet_105 (pc' := 120) rfl ?_
                  refine sv_iinc (d := (1 : Int)) hM dX12_isMadeBySet_120 rfl (by decide) rfl rfl ?_
                  show sv_T sm_XS sm_cs sm_L sm_sh 4 (q_isMadeBySet p1 p2 p3 S) 279 123 [(0, .ref 0), (1, sv_I p1), (2, sv_I p2), (3, sv_I p3), (4, sv_L r120), (6, sv_L l6_4), (8, sv_I (1 : Int)), (9, sv_I (l9_6 + (1 : Int)))] [] S
                  refine sv_goto hM dX12_isMadeBySet_123 (pc' := 24) rfl ?_
                  obtain ⟨o121, h⟩ := h
                  have hb := ih7 (r120, l6_4, (1 : Int), (l9_6 + (1 : Int)), ()) ⟨hr120, hl6_4, (⟨by decide, by decide⟩ : sv_R (1 : Int)), o121, ok112, h.1⟩ h.2
                  exact sv_less (lv := [(0, .ref 0), (1, sv_I p1), (2, sv_I p2), (3, sv_I p3), (4, sv_L r120), (6, sv_L l6_4), (8, sv_I (1 : Int)), (9, sv_I (l9_6 + (1 : Int)))]) (sv_Sub_cons rfl (sv_Sub_cons rfl (sv_Sub_cons rfl (sv_Sub_cons rfl (sv_Sub_cons rfl (sv_Sub_cons rfl (sv_Sub_cons rfl (sv_Sub_cons rfl sv_Sub_nil)))))))) hb
              · have h := h.2 (hc)
                refine sv_goto hM dX12_isMadeBySet_86 (pc' := 120) rfl ?_
                refine sv_iinc (d := (1 : Int)) hM dX12_isMadeBySet_120 rfl (by decide) rfl rfl ?_
                show sv_T sm_XS sm_cs sm_L sm_sh 4 (q_isMadeBySet p1 p2 p3 S) 279 123 [(0, .ref 0), (1, sv_I p1), (2, sv_I p2), (3, sv_I p3), (4, sv_L l4_3), (6, sv_L l6_4), (8, sv_I (1 : Int)), (9, sv_I (l9_6 + (1 : Int)))] [] S
                refine sv_goto hM dX12_isMadeBySet_123 (pc' := 24) rfl ?_
                obtain ⟨o122, h⟩ := h
                have hb := ih7 (l4_3, l6_4, (1 : Int), (l9_6 + (1 : Int)), ()) ⟨hl4_3, hl6_4, (⟨by decide, by decide⟩ : sv_R (1 : Int)), o122, ok112, h.1⟩ h.2
                exact sv_less (lv := [(0, .ref 0), (1, sv_I p1), (2, sv_I p2), (3, sv_I p3), (4, sv_L l4_3), (6, sv_L l6_4), (8, sv_I (1 : Int)), (9, sv_I (l9_6 + (1 : Int)))]) (sv_Sub_cons rfl (sv_Sub_cons rfl (sv_Sub_cons rfl (sv_Sub_cons rfl (sv_Sub_cons rfl (sv_Sub_cons rfl (sv_Sub_cons rfl (sv_Sub_cons rfl sv_Sub_nil)))))))) hb
        · have h := h.2 (hc)
          refine sv_goto hM dX12_isMadeBySet_53 (pc' := 120) rfl ?_
          refine sv_iinc (d := (1 : Int)) hM dX12_isMadeBySet_120 rfl (by decide) rfl rfl ?_
          show sv_T sm_XS sm_cs sm_L sm_sh 4 (q_isMadeBySet p1 p2 p3 S) 279 123 [(0, .ref 0), (1, sv_I p1), (2, sv_I p2), (3, sv_I p3), (4, sv_L l4_3), (6, sv_L l6_4), (8, sv_I l8_5), (9, sv_I (l9_6 + (1 : Int)))] [] S
          refine sv_goto hM dX12_isMadeBySet_123 (pc' := 24) rfl ?_
          obtain ⟨o123, h⟩ := h
          have hb := ih7 (l4_3, l6_4, l8_5, (l9_6 + (1 : Int)), ()) ⟨hl4_3, hl6_4, hl8_5, o123, ok76, h.1⟩ h.2
          exact sv_less (lv := [(0, .ref 0), (1, sv_I p1), (2, sv_I p2), (3, sv_I p3), (4, sv_L l4_3), (6, sv_L l6_4), (8, sv_I l8_5), (9, sv_I (l9_6 + (1 : Int)))]) (sv_Sub_cons rfl (sv_Sub_cons rfl (sv_Sub_cons rfl (sv_Sub_cons rfl (sv_Sub_cons rfl (sv_Sub_cons rfl (sv_Sub_cons rfl (sv_Sub_cons rfl sv_Sub_nil)))))))) hb
    exact hJ ((0 : Int), (0 : Int), s1, (0 : Int), ()) ⟨(⟨by decide, by decide⟩ : sv_RL (0 : Int)), (⟨by decide, by decide⟩ : sv_RL (0 : Int)), hs1, (⟨by decide, by decide⟩ : sv_R (0 : Int)), hok, hin8⟩
  have h := h.2
  refine sv_aload_n hM dX12_isMadeBySet_6 rfl rfl ?_
  refine sv_iload_n hM dX12_isMadeBySet_7 rfl rfl ?_
  obtain ⟨o125, h⟩ := h
  refine sv_callV hM dX12_isMadeBySet_8 sm_iv_1059 (by decide) (sm_a0 _) rfl rfl (Nat.le_of_ble_eq_true rfl) sm_h210 (Nat.le_of_ble_eq_true rfl) (Nat.le_of_ble_eq_true rfl) (F' := 1) (Nat.le_of_ble_eq_true rfl) rfl (t_plainly p2 S hok hp2 o125) (fun v S1 hq => ?_)
  obtain ⟨r130, rfl, hr130, ok127, md128, hpo129⟩ := hq
  obtain rfl : S = S1 := (funext fun j => md128 j (by intro q; cases q)).symm
  show sv_T sm_XS sm_cs sm_L sm_sh 4 (q_isMadeBySet p1 p2 p3 S) 279 11 [(0, .ref 0), (1, sv_I p1), (2, sv_I p2), (3, sv_I p3), (4, sv_L (0 : Int)), (6, sv_L (0 : Int))] [sv_I r130] S
  have h := h r130 hr130 hpo129
  refine sv_cond_eq hM dX12_isMadeBySet_11 hr130 (t := 18) rfl rfl (fun hc => ?_) (fun hc => ?_)
  · have h := h.1 (hc)
    refine sv_iconst (d := (0 : Int)) hM dX12_isMadeBySet_18 rfl rfl ?_
    have hb := J124 (0 : Int) (⟨by decide, by decide⟩ : sv_R (0 : Int)) h
    exact sv_less (lv := [(0, .ref 0), (1, sv_I p1), (2, sv_I p2), (3, sv_I p3), (4, sv_L (0 : Int)), (6, sv_L (0 : Int))]) (sv_Sub_cons rfl (sv_Sub_cons rfl (sv_Sub_cons rfl (sv_Sub_cons rfl (sv_Sub_cons rfl (sv_Sub_cons rfl sv_Sub_nil)))))) hb
  · have h := h.2 (hc)
    refine sv_iconst (d := (1 : Int)) hM dX12_isMadeBySet_14 rfl rfl ?_
    refine sv_goto hM dX12_isMadeBySet_15 (pc' := 19) rfl ?_
    have hb := J124 (1 : Int) (⟨by decide, by decide⟩ : sv_R (1 : Int)) h
    exact sv_less (lv := [(0, .ref 0), (1, sv_I p1), (2, sv_I p2), (3, sv_I p3), (4, sv_L (0 : Int)), (6, sv_L (0 : Int))]) (sv_Sub_cons rfl (sv_Sub_cons rfl (sv_Sub_cons rfl (sv_Sub_cons rfl (sv_Sub_cons rfl (sv_Sub_cons rfl sv_Sub_nil)))))) hb
def q_isNaNOf (p1 : Int) (p2 : Int) (S : sv_S) : Option Value → sv_S → Prop := fun v S' => v = none ∧ sm_ok S' ∧ sv_mod [68, 69, 70, 1113] S S' ∧ (sm_pt (S' 68) (S' 69) (S' 70) = sm_pt (S 68) (S 69) (S 70))
theorem la_isNaNOf_0 {x0 : Int} (h0 : 0 ≤ x0) (h1 : x0 < 647800) : 0 ≤ x0 ∧ x0 < 647800 := by omega
theorem la_isNaNOf_1 {x0 : Int} (h0 : x0 = 1) : 0 ≤ x0 := by omega
theorem la_isNaNOf_2 {x0 : Int} (h0 : 0 ≤ x0) (h1 : ¬ x0 = 0) : 0 < x0 := by omega
theorem la_isNaNOf_3 {x0 x1 x2 : Int} (h0 : x0 = 6 → x1 = 128) (h1 : x1 = 128 → 0 ≤ x2 ∧ x2 ≤ 127) : x0 = 6 → 0 ≤ x2 ∧ x2 < 400 := by omega
theorem la_isNaNOf_4 {x0 : Int} (h0 : 635639 ≤ x0) (h1 : x0 < 647790) : 635639 ≤ x0 ∧ x0 < 647790 := by omega
theorem la_isNaNOf_5 {x0 : Int} (h0 : ¬ ¬ x0 = 0) : ¬ x0 = 1 := by omega
set_option maxHeartbeats 2000000 in
theorem f_isNaNOf : ∀ (p1 : Int) (p2 : Int) (S : sv_S), sm_ok S → sv_R p1 → sv_R p2 → (29 ≤ (S 1071 0) ∧ (S 1071 0) ≤ 127 ∧ 31 ≤ (S 1008 0) ∧ (S 1008 0) ≤ 90 ∧ 1 ≤ (S 1032 0) ∧ (S 1032 0) ≤ 11 ∧ 0 ≤ (S 1055 0) ∧ (S 1055 0) ≤ 19 ∧ (S 1071 0) = 29 + 6 * ((S 1032 0) - 1) + 2 * (S 1055 0) ∧ 0 ≤ (S 1046 0) ∧ (S 1046 0) + 2 * (S 1032 0) ≤ 500 ∧ sm_PD (S 1046 0) (S 1032 0) (S 1071 0) (S 1008 0) ∧ 0 ≤ (S 1071 0) * ((S 1008 0) + 1) ∧ (S 1071 0) * ((S 1008 0) + 1) ≤ 11557 ∧ 31 ≤ (S 1007 0) ∧ (S 1007 0) ≤ 400 ∧ sm_LN (S 4) 400 (S 1007 0) ∧ 0 ≤ p1 ∧ p1 < 647800 ∧ 635639 ≤ p2 ∧ p2 < 647790) → (0 ≤ p1 ∧ p1 < 647800) ∧ (∀ r6 : Int, sv_R r6 → (r6 = 0 ∨ r6 = 1) → (((¬ r6 = (0 : Int)) → (∀ r11 : Int, sv_R r11 → (0 ≤ r11 ∧ r11 ≤ 6 ∧ (r11 = 6 → sm_iand ((S 68 p1) % 1024) (-513) = 128)) → (∀ r16 : Int, sv_R r16 → (sm_iand ((S 68 p1) % 1024) (-513) = 128 → 0 ≤ r16 ∧ r16 ≤ 127) → (31 ≤ (S 1007 0) ∧ (S 1007 0) ≤ 400 ∧ sm_LN (S 4) 400 (S 1007 0) ∧ (r11 = 6 → 0 ≤ r16 ∧ r16 < 400)) ∧ (∀ r22 : Int, sv_R r22 → ∀ g18 : sv_S, (True) → ((0 ≤ (g18 1113 0) ∧ (g18 1113 0) ≤ 1) → ((((g18 1113 0) = (0 : Int)) → (635639 ≤ p2 ∧ p2 < 647790) ∧ (∀ g26 : sv_S, (sm_pt (g26 68) (g26 69) (g26 70) = sm_pt (S 68) (S 69) (S 70)) → (sm_pt (g26 68) (g26 69) (g26 70) = sm_pt (S 68) (S 69) (S 70)))) ∧ ((¬ ((g18 1113 0) = (0 : Int))) → (635639 ≤ p2 ∧ p2 < 647790) ∧ (∀ g32 : sv_S, (sm_pt (g32 68) (g32 69) (g32 70) = sm_pt (S 68) (S 69) (S 70)) → (sm_pt (g32 68) (g32 69) (g32 70) = sm_pt (S 68) (S 69) (S 70)))))))))) ∧ ((¬ (¬ r6 = (0 : Int))) → (635639 ≤ p2 ∧ p2 < 647790) ∧ (∀ g38 : sv_S, (sm_pt (g38 68) (g38 69) (g38 70) = sm_pt (S 68) (S 69) (S 70)) → (sm_pt (g38 68) (g38 69) (g38 70) = sm_pt (S 68) (S 69) (S 70)))))) := by
  intro p1
  intro p2
  intro S
  intro h1_
  intro h2_
  intro h3_
  rintro ⟨h4_, ⟨h5_, ⟨h6_, ⟨h7_, ⟨h8_, ⟨h9_, ⟨h10_, ⟨h11_, ⟨h12_, ⟨h13_, ⟨h14_, ⟨h15_, ⟨h16_, ⟨h17_, ⟨h18_, ⟨h19_, ⟨h20_, ⟨h21_, ⟨h22_, ⟨h23_, h24_⟩⟩⟩⟩⟩⟩⟩⟩⟩⟩⟩⟩⟩⟩⟩⟩⟩⟩⟩⟩
  refine ⟨(la_isNaNOf_0 h21_ h22_), ?_⟩
  intro r6
  intro h25_
  intro h26_
  refine ⟨?_, ?_⟩
  · skip
    intro h27_
    have h28_ := (h26_.resolve_left h27_)
    intro r11
    intro h29_
    rintro ⟨h30_, ⟨h31_, h32_⟩⟩
    intro r16
    intro h33_
    intro h34_
    refine ⟨⟨h18_, ⟨h19_, ⟨h20_, (la_isNaNOf_3 h32_ h34_)⟩⟩⟩, ?_⟩
    intro r22
    intro h35_
    intro g18
    intro _
    rintro ⟨h36_, h37_⟩
    refine ⟨?_, ?_⟩
    · skip
      intro h38_
      refine ⟨(la_isNaNOf_4 h23_ h24_), ?_⟩
      intro g26
      intro h39_
      exact h39_
    intro h40_
    refine ⟨(la_isNaNOf_4 h23_ h24_), ?_⟩
    intro g32
    intro h41_
    exact h41_
  intro h42_
  have h43_ := (h26_.resolve_right (la_isNaNOf_5 h42_))
  refine ⟨(la_isNaNOf_4 h23_ h24_), ?_⟩
  intro g38
  intro h44_
  exact h44_
set_option maxRecDepth 8000 in
set_option maxHeartbeats 2000000 in
theorem t_isNaNOf : ∀ (p1 : Int) (p2 : Int) (S : sv_S), sm_ok S → sv_R p1 → sv_R p2 → (29 ≤ (S 1071 0) ∧ (S 1071 0) ≤ 127 ∧ 31 ≤ (S 1008 0) ∧ (S 1008 0) ≤ 90 ∧ 1 ≤ (S 1032 0) ∧ (S 1032 0) ≤ 11 ∧ 0 ≤ (S 1055 0) ∧ (S 1055 0) ≤ 19 ∧ (S 1071 0) = 29 + 6 * ((S 1032 0) - 1) + 2 * (S 1055 0) ∧ 0 ≤ (S 1046 0) ∧ (S 1046 0) + 2 * (S 1032 0) ≤ 500 ∧ sm_PD (S 1046 0) (S 1032 0) (S 1071 0) (S 1008 0) ∧ 0 ≤ (S 1071 0) * ((S 1008 0) + 1) ∧ (S 1071 0) * ((S 1008 0) + 1) ≤ 11557 ∧ 31 ≤ (S 1007 0) ∧ (S 1007 0) ≤ 400 ∧ sm_LN (S 4) 400 (S 1007 0) ∧ 0 ≤ p1 ∧ p1 < 647800 ∧ 635639 ≤ p2 ∧ p2 < 647790) → sv_T sm_XS sm_cs sm_L sm_sh 3 (q_isNaNOf p1 p2 S) 288 0 (lv_args 0 [.ref 0, sv_I p1, sv_I p2]) [] S := by
  intro p1 p2 S hok hp1 hp2 hpre
  have h := f_isNaNOf p1 p2 S hok hp1 hp2 hpre
  have hM := sm_h288
  show sv_T sm_XS sm_cs sm_L sm_sh 3 (q_isNaNOf p1 p2 S) 288 0 [(0, .ref 0), (1, sv_I p1), (2, sv_I p2)] [] S
  refine sv_aload_n hM dX12_isNaNOf_0 rfl rfl ?_
  refine sv_iload_n hM dX12_isNaNOf_1 rfl rfl ?_
  obtain ⟨o1, h⟩ := h
  refine sv_callV hM dX12_isNaNOf_2 sm_iv_1294 (by decide) (sm_a0 _) rfl rfl (Nat.le_of_ble_eq_true rfl) sm_h212 (Nat.le_of_ble_eq_true rfl) (Nat.le_of_ble_eq_true rfl) (F' := 2) (Nat.le_of_ble_eq_true rfl) rfl (t_isAlone p1 S hok hp1 o1) (fun v S1 hq => ?_)
  obtain ⟨r6, rfl, hr6, ok3, md4, hpo5⟩ := hq
  obtain rfl : S = S1 := (funext fun j => md4 j (by intro q; cases q)).symm
  show sv_T sm_XS sm_cs sm_L sm_sh 3 (q_isNaNOf p1 p2 S) 288 5 [(0, .ref 0), (1, sv_I p1), (2, sv_I p2)] [sv_I r6] S
  have h := h r6 hr6 hpo5
  refine sv_cond_ne hM dX12_isNaNOf_5 hr6 (t := 16) rfl rfl (fun hc => ?_) (fun hc => ?_)
  · have h := h.1 (hc)
    refine sv_aload_n hM dX12_isNaNOf_16 rfl rfl ?_
    refine sv_aload_n hM dX12_isNaNOf_17 rfl rfl ?_
    refine sv_iload_n hM dX12_isNaNOf_18 rfl rfl ?_
    refine sv_callV hM dX12_isNaNOf_19 sm_iv_1297 (by decide) (sm_a0 _) rfl rfl (Nat.le_of_ble_eq_true rfl) sm_h219 (Nat.le_of_ble_eq_true rfl) (Nat.le_of_ble_eq_true rfl) (F' := 2) (Nat.le_of_ble_eq_true rfl) rfl (t_sortOfAlone p1 S ok3 hp1 o1) (fun v S1 hq => ?_)
    obtain ⟨r11, rfl, hr11, ok8, md9, hpo10⟩ := hq
    obtain rfl : S = S1 := (funext fun j => md9 j (by intro q; cases q)).symm
    show sv_T sm_XS sm_cs sm_L sm_sh 3 (q_isNaNOf p1 p2 S) 288 22 [(0, .ref 0), (1, sv_I p1), (2, sv_I p2)] [sv_I r11, .ref 0] S
    have h := h r11 hr11 hpo10
    refine sv_aload_n hM dX12_isNaNOf_22 rfl rfl ?_
    refine sv_iload_n hM dX12_isNaNOf_23 rfl rfl ?_
    refine sv_callV hM dX12_isNaNOf_24 sm_iv_1300 (by decide) (sm_a0 _) rfl rfl (Nat.le_of_ble_eq_true rfl) sm_h220 (Nat.le_of_ble_eq_true rfl) (Nat.le_of_ble_eq_true rfl) (F' := 2) (Nat.le_of_ble_eq_true rfl) rfl (t_valueOfAlone p1 S ok8 hp1 o1) (fun v S1 hq => ?_)
    obtain ⟨r16, rfl, hr16, ok13, md14, hpo15⟩ := hq
    obtain rfl : S = S1 := (funext fun j => md14 j (by intro q; cases q)).symm
    show sv_T sm_XS sm_cs sm_L sm_sh 3 (q_isNaNOf p1 p2 S) 288 27 [(0, .ref 0), (1, sv_I p1), (2, sv_I p2)] [sv_I r16, sv_I r11, .ref 0] S
    have h := h r16 hr16 hpo15
    obtain ⟨o17, h⟩ := h
    refine sv_callV hM dX12_isNaNOf_27 sm_iv_816 (by decide) (sm_a0 _) rfl rfl (Nat.le_of_ble_eq_true rfl) sm_h127 (Nat.le_of_ble_eq_true rfl) (Nat.le_of_ble_eq_true rfl) (F' := 2) (Nat.le_of_ble_eq_true rfl) rfl (t_numberOf r11 r16 S ok13 hr11 hr16 o17) (fun v S1 hq => ?_)
    obtain ⟨r22, rfl, hr22, ok19, md20, hpo21⟩ := hq
    obtain ⟨g18, rfl⟩ : ∃ g, S1 = sv_sts S [1113] g := ⟨_, md20.eq⟩
    show sv_T sm_XS sm_cs sm_L sm_sh 3 (q_isNaNOf p1 p2 S) 288 30 [(0, .ref 0), (1, sv_I p1), (2, sv_I p2)] [sv_I r22] (sv_sts S [1113] g18)
    have md23 : sv_mod [68, 69, 70, 1113] S (sv_sts S [1113] g18) := sv_mod.sts sv_mod.rf (by decide)
    have h := h r22 hr22 g18 hpo21
    refine sv_istore_n hM dX12_isNaNOf_30 (by decide) rfl ?_
    show sv_T sm_XS sm_cs sm_L sm_sh 3 (q_isNaNOf p1 p2 S) 288 31 [(0, .ref 0), (1, sv_I p1), (2, sv_I p2), (3, sv_I r22)] [] (sv_sts S [1113] g18)
    refine sv_aload_n hM dX12_isNaNOf_31 rfl rfl ?_
    refine sv_iload_n hM dX12_isNaNOf_32 rfl rfl ?_
    refine sv_aload_n hM dX12_isNaNOf_33 rfl rfl ?_
    have k24 : (0 ≤ (g18 1113 0) ∧ (g18 1113 0) ≤ 1) := sm_okZ ok19 sm_r1113 0
    have h := h k24
    refine sv_getI hM dX12_isNaNOf_34 sm_fl_806 (sm_a0 _) sm_k113 rfl (x := (g18 1113 0)) rfl ?_
    refine sv_cond_eq hM dX12_isNaNOf_37 (sv_R01 k24) (t := 45) rfl rfl (fun hc => ?_) (fun hc => ?_)
    · have h := h.1 (hc)
      refine sv_iconst (d := (4 : Int)) hM dX12_isNaNOf_45 rfl rfl ?_
      obtain ⟨o25, h⟩ := h
      refine sv_callV hM dX12_isNaNOf_46 sm_iv_1072 (by decide) (sm_a0 _) rfl rfl (Nat.le_of_ble_eq_true rfl) sm_h213 (Nat.le_of_ble_eq_true rfl) (Nat.le_of_ble_eq_true rfl) (F' := 2) (Nat.le_of_ble_eq_true rfl) rfl (t_addSort p2 (4 : Int) (sv_sts S [1113] g18) ok19 hp2 (⟨by decide, by decide⟩ : sv_R (4 : Int)) o25) (fun v S1 hq => ?_)
      obtain ⟨rfl, ok27, md28, hpo29⟩ := hq
      obtain ⟨g26, rfl⟩ : ∃ g, S1 = sv_sts (sv_sts S [1113] g18) [68, 69, 70] g := ⟨_, md28.eq⟩
      show sv_T sm_XS sm_cs sm_L sm_sh 3 (q_isNaNOf p1 p2 S) 288 49 [(0, .ref 0), (1, sv_I p1), (2, sv_I p2), (3, sv_I r22)] [] (sv_sts (sv_sts S [1113] g18) [68, 69, 70] g26)
      have md30 : sv_mod [68, 69, 70, 1113] S (sv_sts (sv_sts S [1113] g18) [68, 69, 70] g26) := sv_mod.sts md23 (by decide)
      have h := h g26 hpo29
      exact sv_vret hM dX12_isNaNOf_49 rfl ⟨rfl, ok27, md30, h⟩
    · have h := h.2 (hc)
      refine sv_bipush (d := (8 : Int)) hM dX12_isNaNOf_40 rfl rfl ?_
      refine sv_goto hM dX12_isNaNOf_42 (pc' := 46) rfl ?_
      obtain ⟨o31, h⟩ := h
      refine sv_callV hM dX12_isNaNOf_46 sm_iv_1072 (by decide) (sm_a0 _) rfl rfl (Nat.le_of_ble_eq_true rfl) sm_h213 (Nat.le_of_ble_eq_true rfl) (Nat.le_of_ble_eq_true rfl) (F' := 2) (Nat.le_of_ble_eq_true rfl) rfl (t_addSort p2 (8 : Int) (sv_sts S [1113] g18) ok19 hp2 (⟨by decide, by decide⟩ : sv_R (8 : Int)) o31) (fun v S1 hq => ?_)
      obtain ⟨rfl, ok33, md34, hpo35⟩ := hq
      obtain ⟨g32, rfl⟩ : ∃ g, S1 = sv_sts (sv_sts S [1113] g18) [68, 69, 70] g := ⟨_, md34.eq⟩
      show sv_T sm_XS sm_cs sm_L sm_sh 3 (q_isNaNOf p1 p2 S) 288 49 [(0, .ref 0), (1, sv_I p1), (2, sv_I p2), (3, sv_I r22)] [] (sv_sts (sv_sts S [1113] g18) [68, 69, 70] g32)
      have md36 : sv_mod [68, 69, 70, 1113] S (sv_sts (sv_sts S [1113] g18) [68, 69, 70] g32) := sv_mod.sts md23 (by decide)
      have h := h g32 hpo35
      exact sv_vret hM dX12_isNaNOf_49 rfl ⟨rfl, ok33, md36, h⟩
  · have h := h.2 (hc)
    refine sv_aload_n hM dX12_isNaNOf_8 rfl rfl ?_
    refine sv_iload_n hM dX12_isNaNOf_9 rfl rfl ?_
    refine sv_bipush (d := (12 : Int)) hM dX12_isNaNOf_10 rfl rfl ?_
    obtain ⟨o37, h⟩ := h
    refine sv_callV hM dX12_isNaNOf_12 sm_iv_1072 (by decide) (sm_a0 _) rfl rfl (Nat.le_of_ble_eq_true rfl) sm_h213 (Nat.le_of_ble_eq_true rfl) (Nat.le_of_ble_eq_true rfl) (F' := 2) (Nat.le_of_ble_eq_true rfl) rfl (t_addSort p2 (12 : Int) S ok3 hp2 (⟨by decide, by decide⟩ : sv_R (12 : Int)) o37) (fun v S1 hq => ?_)
    obtain ⟨rfl, ok39, md40, hpo41⟩ := hq
    obtain ⟨g38, rfl⟩ : ∃ g, S1 = sv_sts S [68, 69, 70] g := ⟨_, md40.eq⟩
    show sv_T sm_XS sm_cs sm_L sm_sh 3 (q_isNaNOf p1 p2 S) 288 15 [(0, .ref 0), (1, sv_I p1), (2, sv_I p2)] [] (sv_sts S [68, 69, 70] g38)
    have md42 : sv_mod [68, 69, 70, 1113] S (sv_sts S [68, 69, 70] g38) := sv_mod.sts sv_mod.rf (by decide)
    have h := h g38 hpo41
    exact sv_vret hM dX12_isNaNOf_15 rfl ⟨rfl, ok39, md42, h⟩
def q_rowWays (p1 : Int) (p2 : Int) (p3 : Int) (p4 : Int) (S : sv_S) : Option Value → sv_S → Prop := fun v S' => ∃ r : Int, v = some (sv_I r) ∧ sv_R r ∧ sm_ok S' ∧ sv_mod [68, 69, 70] S S' ∧ (sm_pt (S' 68) (S' 69) (S' 70) = sm_pt (S 68) (S 69) (S 70) ∧ (r = 0 ∨ r = 1))
theorem la_rowWays_0 {x0 : Int} (h0 : 0 ≤ x0) (h1 : x0 < 647800) : 0 ≤ x0 ∧ x0 < 647800 := by omega
theorem la_rowWays_1 {x0 x1 : Int} (h0 : 29 ≤ x0) : (0 : Int) ≤ 0 ∧ 0 ≤ x0 ∧ ((0 : Int) = 0 ∨ (0 : Int) = 1) ∧ x1 = x1 := by omega
theorem la_rowWays_2 {x0 x1 : Int} (h0 : x0 ≤ x1) : 0 ≤ x1 - x0 := by omega
theorem la_rowWays_3 {x0 x1 x2 x3 x4 : Int} (h0 : x0 = 0 ∨ x0 = 1) (h1 : x1 = x2) : x3 ≤ x4 → (0 ≤ x0 ∧ x0 ≤ 1) ∧ x1 = x2 ∧ (x0 = 0 ∨ x0 = 1) := by omega
theorem la_rowWays_4 {x0 x1 : Int} (h0 : x0 ≤ 127) (h1 : 0 ≤ x1) (h2 : ¬ x0 ≤ x1) : 0 ≤ x1 ∧ x1 < 128 := by omega
theorem la_rowWays_5 {x0 : Int} (h0 : x0 = 1) : 0 ≤ x0 := by omega
theorem la_rowWays_6 {x0 : Int} (h0 : 0 ≤ x0) (h1 : ¬ x0 = 0) : 0 < x0 := by omega
theorem la_rowWays_7 {x0 x1 x2 : Int} (h0 : 0 ≤ x0) (h1 : x0 ≤ 11557) (h2 : 0 ≤ x1) (h3 : ¬ x2 ≤ x1) : 0 ≤ x0 ∧ x0 ≤ 11557 ∧ 0 ≤ x1 ∧ x1 < x2 := by omega
theorem la_rowWays_8 {x0 : Int} (h0 : 635639 ≤ x0) (h1 : x0 < 647790) : 635639 ≤ x0 ∧ x0 < 647790 := by omega
theorem la_rowWays_9 {x0 x1 x2 x3 x4 : Int} (h0 : x0 ≤ 127) (h1 : 0 ≤ x1) (h2 : x1 ≤ 11557) (h3 : 0 ≤ x2) (h4 : ¬ x0 ≤ x2) : 0 ≤ x1 ∧ x1 ≤ 11557 ∧ (0 : Int) ≤ 639 ∧ ((639 : Int) = 639 ∨ 639 < x3 + 2 * x4) ∧ 0 ≤ x2 ∧ (x2 < x0 ∨ (639 : Int) = 639 ∧ x2 < 128) := by omega
theorem la_rowWays_10 : (639 : Int) = 639 := by omega
theorem la_rowWays_11 : ¬ ¬ (639 : Int) = 639 := by omega
theorem la_rowWays_12 {x0 x1 x2 : Int} (h0 : x0 ≤ 127) (h1 : 0 ≤ x1) (h2 : ¬ x0 ≤ x1) (h3 : x2 = 15000 + x1) : 0 ≤ x2 ∧ x2 < 15128 := by omega
theorem la_rowWays_13 {x0 x1 x2 x3 : Int} (h0 : 31 ≤ x0) (h1 : x1 = x2) (h2 : x3 = x1) : (0 : Int) ≤ 0 ∧ 0 ≤ x0 + 1 ∧ x3 = x2 := by omega
theorem la_rowWays_14 {x0 x1 : Int} (h0 : x0 ≤ x1 + 1) : 0 ≤ x1 + 1 - x0 := by omega
theorem la_rowWays_15 {x0 x1 x2 x3 x4 x5 : Int} (h0 : x0 ≤ 127) (h1 : 31 ≤ x1) (h2 : 0 ≤ x2) (h3 : x2 ≤ 11557) (h4 : 0 ≤ x3) (h5 : ¬ x0 ≤ x3) : 0 ≤ x2 ∧ x2 ≤ 11557 ∧ (0 : Int) ≤ 639 ∧ ((639 : Int) = 639 ∨ 639 < x4 + 2 * x5) ∧ 0 ≤ x3 ∧ (x3 < x0 ∨ (639 : Int) = 639 ∧ x3 < 128) ∧ (0 : Int) ≤ 0 ∧ 0 ≤ x1 := by omega
theorem la_rowWays_16 {x0 : Int} (h0 : 635640 ≤ x0) (h1 : x0 < 647340) : 635639 ≤ x0 ∧ x0 < 647790 := by omega
theorem la_rowWays_17 {x0 x1 : Int} (h0 : x0 ≤ 127) (h1 : 0 ≤ x1) (h2 : ¬ x0 ≤ x1) : sv_R (x1 + 1) := by omega
theorem la_rowWays_18 {x0 : Int} (h0 : 0 ≤ x0) : 0 ≤ x0 + 1 := by omega
theorem la_rowWays_19 {x0 x1 : Int} (h0 : ¬ x0 ≤ x1) : x1 + 1 ≤ x0 := by omega
theorem la_rowWays_20 {x0 x1 x2 : Int} (h0 : x0 = x1) (h1 : x2 = x0) : x2 = x1 := by omega
theorem la_rowWays_21 {x0 x1 : Int} : x0 - (x1 + 1) < x0 - x1 := by omega
theorem la_rowWays_22 {x0 x1 x2 x3 x4 x5 x6 : Int} (h0 : x0 ≤ 127) (h1 : 31 ≤ x1) (h2 : 0 ≤ x2) (h3 : x2 ≤ 11557) (h4 : 0 ≤ x3) (h5 : ¬ x0 ≤ x3) (h6 : ¬ x1 < x4) (h7 : x1 ≤ x4) : 0 ≤ x2 ∧ x2 ≤ 11557 ∧ (0 : Int) ≤ 639 ∧ ((639 : Int) = 639 ∨ 639 < x5 + 2 * x6) ∧ 0 ≤ x3 ∧ (x3 < x0 ∨ (639 : Int) = 639 ∧ x3 < 128) ∧ 0 ≤ x4 ∧ x4 ≤ x1 := by omega
theorem la_rowWays_23 {x0 x1 : Int} (h0 : 635639 ≤ x0) (h1 : x0 < 647790) (h2 : 635640 ≤ x1) (h3 : x1 < 647340) : 0 ≤ x1 ∧ x1 < 647800 ∧ 635639 ≤ x0 ∧ x0 < 647790 := by omega
theorem la_rowWays_24 {x0 x1 : Int} (h0 : x0 ≤ 90) (h1 : 0 ≤ x1) (h2 : ¬ x0 < x1) : sv_R (x1 + 1) := by omega
theorem la_rowWays_25 {x0 x1 x2 x3 x4 x5 : Int} (h0 : 31 ≤ x0) (h1 : x1 = x2) (h2 : ¬ x0 < x3) (h3 : x0 ≤ x3) (h4 : x4 = x1) (h5 : x5 = x4) : 0 ≤ x3 + 1 ∧ x3 + 1 ≤ x0 + 1 ∧ x5 = x2 := by omega
theorem la_rowWays_26 {x0 x1 : Int} : x0 + 1 - (x1 + 1) < x0 + 1 - x1 := by omega
theorem la_rowWays_27 {x0 : Int} (h0 : ¬ ¬ x0 = 18) : x0 ≤ 18 := by omega
theorem la_rowWays_28 {x0 : Int} (h0 : x0 ≤ 18) (h1 : ¬ x0 = 18) : x0 < 18 := by omega
theorem la_rowWays_29 {x0 x1 : Int} (h0 : 0 ≤ x0) (h1 : x0 < 647800) (h2 : 635640 ≤ x1) (h3 : x1 < 647340) : 0 ≤ x0 ∧ x0 < 647800 ∧ 0 ≤ x1 ∧ x1 < 647800 := by omega
theorem la_rowWays_30 {x0 : Int} (h0 : 635640 ≤ x0) : 635639 ≤ x0 := by omega
theorem la_rowWays_31 {x0 : Int} (h0 : 635640 ≤ x0) : ¬ x0 < 635639 := by omega
theorem la_rowWays_32 {x0 x1 x2 x3 x4 : Int} (h0 : 31 ≤ x0) (h1 : x1 = x2) (h2 : ¬ x0 < x3) (h3 : x0 ≤ x3) (h4 : x4 = x1) : 0 ≤ x3 + 1 ∧ x3 + 1 ≤ x0 + 1 ∧ x4 = x2 := by omega
theorem la_rowWays_33 {x0 x1 : Int} (h0 : x0 ≤ 90) (h1 : 0 ≤ x1) (h2 : ¬ x0 ≤ x1) : 0 ≤ x1 ∧ x1 < 90 := by omega
theorem la_rowWays_34 {x0 x1 x2 x3 x4 x5 x6 : Int} (h0 : x0 ≤ 127) (h1 : 0 ≤ x1) (h2 : x1 ≤ 11557) (h3 : 0 ≤ x2) (h4 : ¬ x0 ≤ x2) (h5 : 0 ≤ x3) (h6 : ¬ x4 ≤ x3) : 0 ≤ x1 ∧ x1 ≤ 11557 ∧ (0 : Int) ≤ 639 ∧ ((639 : Int) = 639 ∨ 639 < x5 + 2 * x6) ∧ 0 ≤ x2 ∧ (x2 < x0 ∨ (639 : Int) = 639 ∧ x2 < 128) ∧ 0 ≤ x3 ∧ x3 ≤ x4 := by omega
theorem la_rowWays_35 {x0 x1 : Int} (h0 : x0 ≤ 90) (h1 : 0 ≤ x1) (h2 : ¬ x0 ≤ x1) : sv_R (x1 + 1) := by omega
theorem la_rowWays_36 {x0 x1 x2 x3 x4 x5 : Int} (h0 : 0 ≤ x0) (h1 : x1 = x2) (h2 : ¬ x3 ≤ x0) (h3 : x4 = x1) (h4 : x5 = x4) : 0 ≤ x0 + 1 ∧ x0 + 1 ≤ x3 + 1 ∧ x5 = x2 := by omega
theorem la_rowWays_37 {x0 x1 x2 x3 x4 : Int} (h0 : 0 ≤ x0) (h1 : x1 = x2) (h2 : ¬ x3 ≤ x0) (h3 : x4 = x1) : 0 ≤ x0 + 1 ∧ x0 + 1 ≤ x3 + 1 ∧ x4 = x2 := by omega
theorem la_rowWays_38 {x0 x1 x2 x3 x4 : Int} (h0 : x0 ≤ 90) (h1 : 0 ≤ x1) (h2 : x2 = x3) (h3 : ¬ x0 ≤ x1) : ¬ x4 = 18 → sv_R (x1 + 1) ∧ (0 ≤ x1 + 1 ∧ x1 + 1 ≤ x0 + 1 ∧ x2 = x3) ∧ x0 + 1 - (x1 + 1) < x0 + 1 - x1 := by omega
theorem la_rowWays_39 {x0 x1 x2 x3 : Int} (h0 : 0 ≤ x0) (h1 : x1 = x2) (h2 : ¬ x3 ≤ x0) : 0 ≤ x0 + 1 ∧ x0 + 1 ≤ x3 + 1 ∧ x1 = x2 := by omega
theorem la_rowWays_40 {x0 x1 x2 x3 x4 : Int} (h0 : x0 ≤ 90) (h1 : ¬ ¬ x1 = 18) (h2 : 0 ≤ x2) (h3 : ¬ x0 ≤ x2) : ¬ x1 = 18 → sv_R (x2 + 1) ∧ (0 ≤ x2 + 1 ∧ x2 + 1 ≤ x0 + 1 ∧ x3 = x4) ∧ x0 + 1 - (x2 + 1) < x0 + 1 - x2 := by omega
theorem la_rowWays_41 {x0 : Int} (h0 : ¬ ¬ x0 = 0) : ¬ x0 = 1 := by omega
theorem la_rowWays_42 {x0 x1 x2 x3 : Int} (h0 : 0 ≤ x0) (h1 : x1 = x2) (h2 : ¬ x3 ≤ x0) : 0 ≤ x0 + 1 ∧ x0 + 1 ≤ x3 ∧ ((1 : Int) = 0 ∨ (1 : Int) = 1) ∧ x1 = x2 := by omega
theorem la_rowWays_43 {x0 x1 : Int} (h0 : 29 ≤ x0) : (0 : Int) ≤ 0 ∧ 0 ≤ x0 ∧ ((1 : Int) = 0 ∨ (1 : Int) = 1) ∧ x1 = x1 := by omega
set_option maxHeartbeats 2000000 in
theorem f_rowWays : ∀ (p1 : Int) (p2 : Int) (p3 : Int) (p4 : Int) (S : sv_S), sm_ok S → sv_R p1 → sv_R p2 → sv_R p3 → sv_R p4 → (29 ≤ (S 1071 0) ∧ (S 1071 0) ≤ 127 ∧ 31 ≤ (S 1008 0) ∧ (S 1008 0) ≤ 90 ∧ 1 ≤ (S 1032 0) ∧ (S 1032 0) ≤ 11 ∧ 0 ≤ (S 1055 0) ∧ (S 1055 0) ≤ 19 ∧ (S 1071 0) = 29 + 6 * ((S 1032 0) - 1) + 2 * (S 1055 0) ∧ 0 ≤ (S 1046 0) ∧ (S 1046 0) + 2 * (S 1032 0) ≤ 500 ∧ sm_PD (S 1046 0) (S 1032 0) (S 1071 0) (S 1008 0) ∧ 0 ≤ (S 1071 0) * ((S 1008 0) + 1) ∧ (S 1071 0) * ((S 1008 0) + 1) ≤ 11557 ∧ 31 ≤ (S 1007 0) ∧ (S 1007 0) ≤ 400 ∧ sm_LN (S 4) 400 (S 1007 0) ∧ 0 ≤ p2 ∧ p2 < 647800 ∧ 0 ≤ p3 ∧ p3 < 647800 ∧ 635639 ≤ p4 ∧ p4 < 647790) → (0 ≤ p2 ∧ p2 < 647800) ∧ (∀ r6 : Int, sv_R r6 → (sm_iand ((S 68 p2) % 1024) (-513) = r6) → (((r6 = (0 : Int)) → ((0 ≤ (0 : Int) ∧ (0 : Int) ≤ (S 1071 0) ∧ ((0 : Int) = 0 ∨ (0 : Int) = 1) ∧ sm_pt (S 68) (S 69) (S 70) = sm_pt (S 68) (S 69) (S 70)) ∧ (∀ l5_8 : Int, sv_R l5_8 → ∀ l6_9 : Int, sv_R l6_9 → ∀ g7 : sv_S, (0 ≤ l6_9 ∧ l6_9 ≤ (S 1071 0) ∧ (l5_8 = 0 ∨ l5_8 = 1) ∧ sm_pt (g7 68) (g7 69) (g7 70) = sm_pt (S 68) (S 69) (S 70)) → (0 ≤ (S 1071 0) - l6_9) ∧ (sv_R (S 1071 0) → ((((S 1071 0) ≤ l6_9) → (0 ≤ l5_8 ∧ l5_8 ≤ 1) ∧ (sm_pt (g7 68) (g7 69) (g7 70) = sm_pt (S 68) (S 69) (S 70) ∧ (l5_8 = 0 ∨ l5_8 = 1))) ∧ ((¬ ((S 1071 0) ≤ l6_9)) → (sv_RL (g7 69 p2) → (sv_RL (g7 70 p2) → (0 ≤ l6_9 ∧ l6_9 < 128) ∧ (∀ r24 : Int, sv_R r24 → (r24 = sm_in (g7 69 p2) (g7 70 p2) l6_9 ∧ (r24 = 0 ∨ r24 = 1)) → (((¬ r24 = (0 : Int)) → (29 ≤ (S 1071 0) ∧ (S 1071 0) ≤ 127 ∧ 31 ≤ (S 1008 0) ∧ (S 1008 0) ≤ 90 ∧ 1 ≤ (S 1032 0) ∧ (S 1032 0) ≤ 11 ∧ 0 ≤ (S 1055 0) ∧ (S 1055 0) ≤ 19 ∧ (S 1071 0) = 29 + 6 * ((S 1032 0) - 1) + 2 * (S 1055 0) ∧ 0 ≤ (S 1046 0) ∧ (S 1046 0) + 2 * (S 1032 0) ≤ 500 ∧ sm_PD (S 1046 0) (S 1032 0) (S 1071 0) (S 1008 0) ∧ 0 ≤ (S 1071 0) * ((S 1008 0) + 1) ∧ (S 1071 0) * ((S 1008 0) + 1) ≤ 11557 ∧ 0 ≤ l6_9 ∧ l6_9 < (S 1071 0)) ∧ (∀ r30 : Int, sv_R r30 → (r30 = 0 ∨ r30 = 1) → (((¬ r30 = (0 : Int)) → (((¬ p1 = (18 : Int)) → (635639 ≤ p4 ∧ p4 < 647790) ∧ (∀ g32 : sv_S, (sm_pt (g32 68) (g32 69) (g32 70) = sm_pt (g7 68) (g7 69) (g7 70)) → (29 ≤ (S 1071 0) ∧ (S 1071 0) ≤ 127 ∧ 31 ≤ (S 1008 0) ∧ (S 1008 0) ≤ 90 ∧ 1 ≤ (S 1032 0) ∧ (S 1032 0) ≤ 11 ∧ 0 ≤ (S 1055 0) ∧ (S 1055 0) ≤ 19 ∧ (S 1071 0) = 29 + 6 * ((S 1032 0) - 1) + 2 * (S 1055 0) ∧ 0 ≤ (S 1046 0) ∧ (S 1046 0) + 2 * (S 1032 0) ≤ 500 ∧ sm_PD (S 1046 0) (S 1032 0) (S 1071 0) (S 1008 0) ∧ 0 ≤ (S 1071 0) * ((S 1008 0) + 1) ∧ (S 1071 0) * ((S 1008 0) + 1) ≤ 11557 ∧ 0 ≤ (639 : Int) ∧ ((639 : Int) = 639 ∨ (639 : Int) < (S 1046 0) + 2 * (S 1032 0)) ∧ 0 ≤ l6_9 ∧ (l6_9 < (S 1071 0) ∨ ((639 : Int) = 639 ∧ l6_9 < 128))) ∧ (∀ r43 : Int, sv_R r43 → (((639 : Int) = 639 → r43 = 15000 + l6_9) ∧ (¬ (639 : Int) = 639 → 0 ≤ r43 ∧ r43 < 14520)) → (0 ≤ r43 ∧ r43 < 15128) ∧ ((0 ≤ (S 81 r43) ∧ (S 81 r43) ≤ 1) → (((¬ (S 81 r43) = (0 : Int)) → ((0 ≤ (0 : Int) ∧ (0 : Int) ≤ (S 1008 0) + 1 ∧ sm_pt (g32 68) (g32 69) (g32 70) = sm_pt (S 68) (S 69) (S 70)) ∧ (∀ l7_47 : Int, sv_R l7_47 → ∀ g46 : sv_S, (0 ≤ l7_47 ∧ l7_47 ≤ (S 1008 0) + 1 ∧ sm_pt (g46 68) (g46 69) (g46 70) = sm_pt (S 68) (S 69) (S 70)) → (0 ≤ (S 1008 0) + 1 - l7_47) ∧ (sv_R (S 1008 0) → ((((S 1008 0) < l7_47) → (29 ≤ (S 1071 0) ∧ (S 1071 0) ≤ 127 ∧ 31 ≤ (S 1008 0) ∧ (S 1008 0) ≤ 90 ∧ 1 ≤ (S 1032 0) ∧ (S 1032 0) ≤ 11 ∧ 0 ≤ (S 1055 0) ∧ (S 1055 0) ≤ 19 ∧ (S 1071 0) = 29 + 6 * ((S 1032 0) - 1) + 2 * (S 1055 0) ∧ 0 ≤ (S 1046 0) ∧ (S 1046 0) + 2 * (S 1032 0) ≤ 500 ∧ sm_PD (S 1046 0) (S 1032 0) (S 1071 0) (S 1008 0) ∧ 0 ≤ (S 1071 0) * ((S 1008 0) + 1) ∧ (S 1071 0) * ((S 1008 0) + 1) ≤ 11557 ∧ 0 ≤ (639 : Int) ∧ ((639 : Int) = 639 ∨ (639 : Int) < (S 1046 0) + 2 * (S 1032 0)) ∧ 0 ≤ l6_9 ∧ (l6_9 < (S 1071 0) ∨ ((639 : Int) = 639 ∧ l6_9 < 128)) ∧ 0 ≤ (0 : Int) ∧ (0 : Int) ≤ (S 1008 0)) ∧ (∀ r60 : Int, sv_R r60 → (((639 : Int) = 639 → 635640 ≤ r60 ∧ r60 < 647340) ∧ (¬ (639 : Int) = 639 → 0 ≤ r60 ∧ r60 < 464520)) → (635639 ≤ r60 ∧ r60 < 647790) ∧ (∀ g62 : sv_S, (sm_pt (g62 68) (g62 69) (g62 70) = sm_pt (g46 68) (g46 69) (g46 70)) → (sv_R (l6_9 + (1 : Int))) ∧ ((0 ≤ (l6_9 + (1 : Int)) ∧ (l6_9 + (1 : Int)) ≤ (S 1071 0) ∧ (l5_8 = 0 ∨ l5_8 = 1) ∧ sm_pt (g62 68) (g62 69) (g62 70) = sm_pt (S 68) (S 69) (S 70)) ∧ ((S 1071 0) - (l6_9 + (1 : Int))) < ((S 1071 0) - l6_9))))) ∧ ((¬ ((S 1008 0) < l7_47)) → ((((S 1008 0) ≤ l7_47) → (29 ≤ (S 1071 0) ∧ (S 1071 0) ≤ 127 ∧ 31 ≤ (S 1008 0) ∧ (S 1008 0) ≤ 90 ∧ 1 ≤ (S 1032 0) ∧ (S 1032 0) ≤ 11 ∧ 0 ≤ (S 1055 0) ∧ (S 1055 0) ≤ 19 ∧ (S 1071 0) = 29 + 6 * ((S 1032 0) - 1) + 2 * (S 1055 0) ∧ 0 ≤ (S 1046 0) ∧ (S 1046 0) + 2 * (S 1032 0) ≤ 500 ∧ sm_PD (S 1046 0) (S 1032 0) (S 1071 0) (S 1008 0) ∧ 0 ≤ (S 1071 0) * ((S 1008 0) + 1) ∧ (S 1071 0) * ((S 1008 0) + 1) ≤ 11557 ∧ 0 ≤ (639 : Int) ∧ ((639 : Int) = 639 ∨ (639 : Int) < (S 1046 0) + 2 * (S 1032 0)) ∧ 0 ≤ l6_9 ∧ (l6_9 < (S 1071 0) ∨ ((639 : Int) = 639 ∧ l6_9 < 128)) ∧ 0 ≤ l7_47 ∧ l7_47 ≤ (S 1008 0)) ∧ (∀ r75 : Int, sv_R r75 → (((639 : Int) = 639 → 635640 ≤ r75 ∧ r75 < 647340) ∧ (¬ (639 : Int) = 639 → 0 ≤ r75 ∧ r75 < 464520)) → (((¬ p1 = (18 : Int)) → (0 ≤ r75 ∧ r75 < 647800 ∧ 635639 ≤ p4 ∧ p4 < 647790) ∧ (∀ g77 : sv_S, (sm_pt (g77 68) (g77 69) (g77 70) = sm_pt (g46 68) (g46 69) (g46 70)) → (635639 ≤ r75 ∧ r75 < 647790) ∧ (∀ g85 : sv_S, (sm_pt (g85 68) (g85 69) (g85 70) = sm_pt (g77 68) (g77 69) (g77 70)) → (sv_R (l7_47 + (1 : Int))) ∧ ((0 ≤ (l7_47 + (1 : Int)) ∧ (l7_47 + (1 : Int)) ≤ (S 1008 0) + 1 ∧ sm_pt (g85 68) (g85 69) (g85 70) = sm_pt (S 68) (S 69) (S 70)) ∧ ((S 1008 0) + 1 - (l7_47 + (1 : Int))) < ((S 1008 0) + 1 - l7_47))))) ∧ ((¬ (¬ p1 = (18 : Int))) → (0 ≤ p3 ∧ p3 < 647800 ∧ 0 ≤ r75 ∧ r75 < 647800) ∧ (∀ r98 : Int, sv_R r98 → ∀ g94 : sv_S, ((635639 ≤ r75 → sm_pt (g94 68) (g94 69) (g94 70) = sm_pt (g46 68) (g46 69) (g46 70)) ∧ (r98 = 0 ∨ r98 = 1) ∧ (r75 < 635639 → sm_pt (g94 68) (g94 69) (g94 70) + r98 ≤ sm_pt (g46 68) (g46 69) (g46 70))) → (sv_R (l7_47 + (1 : Int))) ∧ ((0 ≤ (l7_47 + (1 : Int)) ∧ (l7_47 + (1 : Int)) ≤ (S 1008 0) + 1 ∧ sm_pt (g94 68) (g94 69) (g94 70) = sm_pt (S 68) (S 69) (S 70)) ∧ ((S 1008 0) + 1 - (l7_47 + (1 : Int))) < ((S 1008 0) + 1 - l7_47))))))) ∧ ((¬ ((S 1008 0) ≤ l7_47)) → (0 ≤ l7_47 ∧ l7_47 < 90) ∧ ((0 ≤ (S 88 l7_47) ∧ (S 88 l7_47) ≤ 1) → (((¬ (S 88 l7_47) = (0 : Int)) → (29 ≤ (S 1071 0) ∧ (S 1071 0) ≤ 127 ∧ 31 ≤ (S 1008 0) ∧ (S 1008 0) ≤ 90 ∧ 1 ≤ (S 1032 0) ∧ (S 1032 0) ≤ 11 ∧ 0 ≤ (S 1055 0) ∧ (S 1055 0) ≤ 19 ∧ (S 1071 0) = 29 + 6 * ((S 1032 0) - 1) + 2 * (S 1055 0) ∧ 0 ≤ (S 1046 0) ∧ (S 1046 0) + 2 * (S 1032 0) ≤ 500 ∧ sm_PD (S 1046 0) (S 1032 0) (S 1071 0) (S 1008 0) ∧ 0 ≤ (S 1071 0) * ((S 1008 0) + 1) ∧ (S 1071 0) * ((S 1008 0) + 1) ≤ 11557 ∧ 0 ≤ (639 : Int) ∧ ((639 : Int) = 639 ∨ (639 : Int) < (S 1046 0) + 2 * (S 1032 0)) ∧ 0 ≤ l6_9 ∧ (l6_9 < (S 1071 0) ∨ ((639 : Int) = 639 ∧ l6_9 < 128)) ∧ 0 ≤ l7_47 ∧ l7_47 ≤ (S 1008 0)) ∧ (∀ r110 : Int, sv_R r110 → (((639 : Int) = 639 → 635640 ≤ r110 ∧ r110 < 647340) ∧ (¬ (639 : Int) = 639 → 0 ≤ r110 ∧ r110 < 464520)) → (((¬ p1 = (18 : Int)) → (0 ≤ r110 ∧ r110 < 647800 ∧ 635639 ≤ p4 ∧ p4 < 647790) ∧ (∀ g112 : sv_S, (sm_pt (g112 68) (g112 69) (g112 70) = sm_pt (g46 68) (g46 69) (g46 70)) → (635639 ≤ r110 ∧ r110 < 647790) ∧ (∀ g120 : sv_S, (sm_pt (g120 68) (g120 69) (g120 70) = sm_pt (g112 68) (g112 69) (g112 70)) → (sv_R (l7_47 + (1 : Int))) ∧ ((0 ≤ (l7_47 + (1 : Int)) ∧ (l7_47 + (1 : Int)) ≤ (S 1008 0) + 1 ∧ sm_pt (g120 68) (g120 69) (g120 70) = sm_pt (S 68) (S 69) (S 70)) ∧ ((S 1008 0) + 1 - (l7_47 + (1 : Int))) < ((S 1008 0) + 1 - l7_47))))) ∧ ((¬ (¬ p1 = (18 : Int))) → (0 ≤ p3 ∧ p3 < 647800 ∧ 0 ≤ r110 ∧ r110 < 647800) ∧ (∀ r133 : Int, sv_R r133 → ∀ g129 : sv_S, ((635639 ≤ r110 → sm_pt (g129 68) (g129 69) (g129 70) = sm_pt (g46 68) (g46 69) (g46 70)) ∧ (r133 = 0 ∨ r133 = 1) ∧ (r110 < 635639 → sm_pt (g129 68) (g129 69) (g129 70) + r133 ≤ sm_pt (g46 68) (g46 69) (g46 70))) → (sv_R (l7_47 + (1 : Int))) ∧ ((0 ≤ (l7_47 + (1 : Int)) ∧ (l7_47 + (1 : Int)) ≤ (S 1008 0) + 1 ∧ sm_pt (g129 68) (g129 69) (g129 70) = sm_pt (S 68) (S 69) (S 70)) ∧ ((S 1008 0) + 1 - (l7_47 + (1 : Int))) < ((S 1008 0) + 1 - l7_47))))))) ∧ ((¬ (¬ (S 88 l7_47) = (0 : Int))) → (((¬ p1 = (18 : Int)) → (sv_R (l7_47 + (1 : Int))) ∧ ((0 ≤ (l7_47 + (1 : Int)) ∧ (l7_47 + (1 : Int)) ≤ (S 1008 0) + 1 ∧ sm_pt (g46 68) (g46 69) (g46 70) = sm_pt (S 68) (S 69) (S 70)) ∧ ((S 1008 0) + 1 - (l7_47 + (1 : Int))) < ((S 1008 0) + 1 - l7_47))) ∧ ((¬ (¬ p1 = (18 : Int))) → ((0 ≤ (S 89 l7_47) ∧ (S 89 l7_47) ≤ 1) → (((¬ (S 89 l7_47) = (0 : Int)) → (29 ≤ (S 1071 0) ∧ (S 1071 0) ≤ 127 ∧ 31 ≤ (S 1008 0) ∧ (S 1008 0) ≤ 90 ∧ 1 ≤ (S 1032 0) ∧ (S 1032 0) ≤ 11 ∧ 0 ≤ (S 1055 0) ∧ (S 1055 0) ≤ 19 ∧ (S 1071 0) = 29 + 6 * ((S 1032 0) - 1) + 2 * (S 1055 0) ∧ 0 ≤ (S 1046 0) ∧ (S 1046 0) + 2 * (S 1032 0) ≤ 500 ∧ sm_PD (S 1046 0) (S 1032 0) (S 1071 0) (S 1008 0) ∧ 0 ≤ (S 1071 0) * ((S 1008 0) + 1) ∧ (S 1071 0) * ((S 1008 0) + 1) ≤ 11557 ∧ 0 ≤ (639 : Int) ∧ ((639 : Int) = 639 ∨ (639 : Int) < (S 1046 0) + 2 * (S 1032 0)) ∧ 0 ≤ l6_9 ∧ (l6_9 < (S 1071 0) ∨ ((639 : Int) = 639 ∧ l6_9 < 128)) ∧ 0 ≤ l7_47 ∧ l7_47 ≤ (S 1008 0)) ∧ (∀ r145 : Int, sv_R r145 → (((639 : Int) = 639 → 635640 ≤ r145 ∧ r145 < 647340) ∧ (¬ (639 : Int) = 639 → 0 ≤ r145 ∧ r145 < 464520)) → (((¬ p1 = (18 : Int)) → (0 ≤ r145 ∧ r145 < 647800 ∧ 635639 ≤ p4 ∧ p4 < 647790) ∧ (∀ g147 : sv_S, (sm_pt (g147 68) (g147 69) (g147 70) = sm_pt (g46 68) (g46 69) (g46 70)) → (635639 ≤ r145 ∧ r145 < 647790) ∧ (∀ g155 : sv_S, (sm_pt (g155 68) (g155 69) (g155 70) = sm_pt (g147 68) (g147 69) (g147 70)) → (sv_R (l7_47 + (1 : Int))) ∧ ((0 ≤ (l7_47 + (1 : Int)) ∧ (l7_47 + (1 : Int)) ≤ (S 1008 0) + 1 ∧ sm_pt (g155 68) (g155 69) (g155 70) = sm_pt (S 68) (S 69) (S 70)) ∧ ((S 1008 0) + 1 - (l7_47 + (1 : Int))) < ((S 1008 0) + 1 - l7_47))))) ∧ ((¬ (¬ p1 = (18 : Int))) → (0 ≤ p3 ∧ p3 < 647800 ∧ 0 ≤ r145 ∧ r145 < 647800) ∧ (∀ r168 : Int, sv_R r168 → ∀ g164 : sv_S, ((635639 ≤ r145 → sm_pt (g164 68) (g164 69) (g164 70) = sm_pt (g46 68) (g46 69) (g46 70)) ∧ (r168 = 0 ∨ r168 = 1) ∧ (r145 < 635639 → sm_pt (g164 68) (g164 69) (g164 70) + r168 ≤ sm_pt (g46 68) (g46 69) (g46 70))) → (sv_R (l7_47 + (1 : Int))) ∧ ((0 ≤ (l7_47 + (1 : Int)) ∧ (l7_47 + (1 : Int)) ≤ (S 1008 0) + 1 ∧ sm_pt (g164 68) (g164 69) (g164 70) = sm_pt (S 68) (S 69) (S 70)) ∧ ((S 1008 0) + 1 - (l7_47 + (1 : Int))) < ((S 1008 0) + 1 - l7_47))))))) ∧ ((¬ (¬ (S 89 l7_47) = (0 : Int))) → (sv_R (l7_47 + (1 : Int))) ∧ ((0 ≤ (l7_47 + (1 : Int)) ∧ (l7_47 + (1 : Int)) ≤ (S 1008 0) + 1 ∧ sm_pt (g46 68) (g46 69) (g46 70) = sm_pt (S 68) (S 69) (S 70)) ∧ ((S 1008 0) + 1 - (l7_47 + (1 : Int))) < ((S 1008 0) + 1 - l7_47)))))))))))))))))) ∧ ((¬ (¬ (S 81 r43) = (0 : Int))) → (sv_R (l6_9 + (1 : Int))) ∧ ((0 ≤ (l6_9 + (1 : Int)) ∧ (l6_9 + (1 : Int)) ≤ (S 1071 0) ∧ (l5_8 = 0 ∨ l5_8 = 1) ∧ sm_pt (g32 68) (g32 69) (g32 70) = sm_pt (S 68) (S 69) (S 70)) ∧ ((S 1071 0) - (l6_9 + (1 : Int))) < ((S 1071 0) - l6_9)))))))) ∧ ((¬ (¬ p1 = (18 : Int))) → (635639 ≤ p4 ∧ p4 < 647790) ∧ (∀ g176 : sv_S, (sm_pt (g176 68) (g176 69) (g176 70) = sm_pt (g7 68) (g7 69) (g7 70)) → (29 ≤ (S 1071 0) ∧ (S 1071 0) ≤ 127 ∧ 31 ≤ (S 1008 0) ∧ (S 1008 0) ≤ 90 ∧ 1 ≤ (S 1032 0) ∧ (S 1032 0) ≤ 11 ∧ 0 ≤ (S 1055 0) ∧ (S 1055 0) ≤ 19 ∧ (S 1071 0) = 29 + 6 * ((S 1032 0) - 1) + 2 * (S 1055 0) ∧ 0 ≤ (S 1046 0) ∧ (S 1046 0) + 2 * (S 1032 0) ≤ 500 ∧ sm_PD (S 1046 0) (S 1032 0) (S 1071 0) (S 1008 0) ∧ 0 ≤ (S 1071 0) * ((S 1008 0) + 1) ∧ (S 1071 0) * ((S 1008 0) + 1) ≤ 11557 ∧ 0 ≤ (639 : Int) ∧ ((639 : Int) = 639 ∨ (639 : Int) < (S 1046 0) + 2 * (S 1032 0)) ∧ 0 ≤ l6_9 ∧ (l6_9 < (S 1071 0) ∨ ((639 : Int) = 639 ∧ l6_9 < 128))) ∧ (∀ r187 : Int, sv_R r187 → (((639 : Int) = 639 → r187 = 15000 + l6_9) ∧ (¬ (639 : Int) = 639 → 0 ≤ r187 ∧ r187 < 14520)) → (0 ≤ r187 ∧ r187 < 15128) ∧ ((0 ≤ (S 81 r187) ∧ (S 81 r187) ≤ 1) → (((¬ (S 81 r187) = (0 : Int)) → ((0 ≤ (0 : Int) ∧ (0 : Int) ≤ (S 1008 0) + 1 ∧ sm_pt (g176 68) (g176 69) (g176 70) = sm_pt (S 68) (S 69) (S 70)) ∧ (∀ l7_191 : Int, sv_R l7_191 → ∀ g190 : sv_S, (0 ≤ l7_191 ∧ l7_191 ≤ (S 1008 0) + 1 ∧ sm_pt (g190 68) (g190 69) (g190 70) = sm_pt (S 68) (S 69) (S 70)) → (0 ≤ (S 1008 0) + 1 - l7_191) ∧ (sv_R (S 1008 0) → ((((S 1008 0) < l7_191) → (29 ≤ (S 1071 0) ∧ (S 1071 0) ≤ 127 ∧ 31 ≤ (S 1008 0) ∧ (S 1008 0) ≤ 90 ∧ 1 ≤ (S 1032 0) ∧ (S 1032 0) ≤ 11 ∧ 0 ≤ (S 1055 0) ∧ (S 1055 0) ≤ 19 ∧ (S 1071 0) = 29 + 6 * ((S 1032 0) - 1) + 2 * (S 1055 0) ∧ 0 ≤ (S 1046 0) ∧ (S 1046 0) + 2 * (S 1032 0) ≤ 500 ∧ sm_PD (S 1046 0) (S 1032 0) (S 1071 0) (S 1008 0) ∧ 0 ≤ (S 1071 0) * ((S 1008 0) + 1) ∧ (S 1071 0) * ((S 1008 0) + 1) ≤ 11557 ∧ 0 ≤ (639 : Int) ∧ ((639 : Int) = 639 ∨ (639 : Int) < (S 1046 0) + 2 * (S 1032 0)) ∧ 0 ≤ l6_9 ∧ (l6_9 < (S 1071 0) ∨ ((639 : Int) = 639 ∧ l6_9 < 128)) ∧ 0 ≤ (0 : Int) ∧ (0 : Int) ≤ (S 1008 0)) ∧ (∀ r204 : Int, sv_R r204 → (((639 : Int) = 639 → 635640 ≤ r204 ∧ r204 < 647340) ∧ (¬ (639 : Int) = 639 → 0 ≤ r204 ∧ r204 < 464520)) → (635639 ≤ r204 ∧ r204 < 647790) ∧ (∀ g206 : sv_S, (sm_pt (g206 68) (g206 69) (g206 70) = sm_pt (g190 68) (g190 69) (g190 70)) → (sv_R (l6_9 + (1 : Int))) ∧ ((0 ≤ (l6_9 + (1 : Int)) ∧ (l6_9 + (1 : Int)) ≤ (S 1071 0) ∧ (l5_8 = 0 ∨ l5_8 = 1) ∧ sm_pt (g206 68) (g206 69) (g206 70) = sm_pt (S 68) (S 69) (S 70)) ∧ ((S 1071 0) - (l6_9 + (1 : Int))) < ((S 1071 0) - l6_9))))) ∧ ((¬ ((S 1008 0) < l7_191)) → ((((S 1008 0) ≤ l7_191) → (29 ≤ (S 1071 0) ∧ (S 1071 0) ≤ 127 ∧ 31 ≤ (S 1008 0) ∧ (S 1008 0) ≤ 90 ∧ 1 ≤ (S 1032 0) ∧ (S 1032 0) ≤ 11 ∧ 0 ≤ (S 1055 0) ∧ (S 1055 0) ≤ 19 ∧ (S 1071 0) = 29 + 6 * ((S 1032 0) - 1) + 2 * (S 1055 0) ∧ 0 ≤ (S 1046 0) ∧ (S 1046 0) + 2 * (S 1032 0) ≤ 500 ∧ sm_PD (S 1046 0) (S 1032 0) (S 1071 0) (S 1008 0) ∧ 0 ≤ (S 1071 0) * ((S 1008 0) + 1) ∧ (S 1071 0) * ((S 1008 0) + 1) ≤ 11557 ∧ 0 ≤ (639 : Int) ∧ ((639 : Int) = 639 ∨ (639 : Int) < (S 1046 0) + 2 * (S 1032 0)) ∧ 0 ≤ l6_9 ∧ (l6_9 < (S 1071 0) ∨ ((639 : Int) = 639 ∧ l6_9 < 128)) ∧ 0 ≤ l7_191 ∧ l7_191 ≤ (S 1008 0)) ∧ (∀ r219 : Int, sv_R r219 → (((639 : Int) = 639 → 635640 ≤ r219 ∧ r219 < 647340) ∧ (¬ (639 : Int) = 639 → 0 ≤ r219 ∧ r219 < 464520)) → (((¬ p1 = (18 : Int)) → (0 ≤ r219 ∧ r219 < 647800 ∧ 635639 ≤ p4 ∧ p4 < 647790) ∧ (∀ g221 : sv_S, (sm_pt (g221 68) (g221 69) (g221 70) = sm_pt (g190 68) (g190 69) (g190 70)) → (635639 ≤ r219 ∧ r219 < 647790) ∧ (∀ g229 : sv_S, (sm_pt (g229 68) (g229 69) (g229 70) = sm_pt (g221 68) (g221 69) (g221 70)) → (sv_R (l7_191 + (1 : Int))) ∧ ((0 ≤ (l7_191 + (1 : Int)) ∧ (l7_191 + (1 : Int)) ≤ (S 1008 0) + 1 ∧ sm_pt (g229 68) (g229 69) (g229 70) = sm_pt (S 68) (S 69) (S 70)) ∧ ((S 1008 0) + 1 - (l7_191 + (1 : Int))) < ((S 1008 0) + 1 - l7_191))))) ∧ ((¬ (¬ p1 = (18 : Int))) → (0 ≤ p3 ∧ p3 < 647800 ∧ 0 ≤ r219 ∧ r219 < 647800) ∧ (∀ r242 : Int, sv_R r242 → ∀ g238 : sv_S, ((635639 ≤ r219 → sm_pt (g238 68) (g238 69) (g238 70) = sm_pt (g190 68) (g190 69) (g190 70)) ∧ (r242 = 0 ∨ r242 = 1) ∧ (r219 < 635639 → sm_pt (g238 68) (g238 69) (g238 70) + r242 ≤ sm_pt (g190 68) (g190 69) (g190 70))) → (sv_R (l7_191 + (1 : Int))) ∧ ((0 ≤ (l7_191 + (1 : Int)) ∧ (l7_191 + (1 : Int)) ≤ (S 1008 0) + 1 ∧ sm_pt (g238 68) (g238 69) (g238 70) = sm_pt (S 68) (S 69) (S 70)) ∧ ((S 1008 0) + 1 - (l7_191 + (1 : Int))) < ((S 1008 0) + 1 - l7_191))))))) ∧ ((¬ ((S 1008 0) ≤ l7_191)) → (0 ≤ l7_191 ∧ l7_191 < 90) ∧ ((0 ≤ (S 88 l7_191) ∧ (S 88 l7_191) ≤ 1) → (((¬ (S 88 l7_191) = (0 : Int)) → (29 ≤ (S 1071 0) ∧ (S 1071 0) ≤ 127 ∧ 31 ≤ (S 1008 0) ∧ (S 1008 0) ≤ 90 ∧ 1 ≤ (S 1032 0) ∧ (S 1032 0) ≤ 11 ∧ 0 ≤ (S 1055 0) ∧ (S 1055 0) ≤ 19 ∧ (S 1071 0) = 29 + 6 * ((S 1032 0) - 1) + 2 * (S 1055 0) ∧ 0 ≤ (S 1046 0) ∧ (S 1046 0) + 2 * (S 1032 0) ≤ 500 ∧ sm_PD (S 1046 0) (S 1032 0) (S 1071 0) (S 1008 0) ∧ 0 ≤ (S 1071 0) * ((S 1008 0) + 1) ∧ (S 1071 0) * ((S 1008 0) + 1) ≤ 11557 ∧ 0 ≤ (639 : Int) ∧ ((639 : Int) = 639 ∨ (639 : Int) < (S 1046 0) + 2 * (S 1032 0)) ∧ 0 ≤ l6_9 ∧ (l6_9 < (S 1071 0) ∨ ((639 : Int) = 639 ∧ l6_9 < 128)) ∧ 0 ≤ l7_191 ∧ l7_191 ≤ (S 1008 0)) ∧ (∀ r254 : Int, sv_R r254 → (((639 : Int) = 639 → 635640 ≤ r254 ∧ r254 < 647340) ∧ (¬ (639 : Int) = 639 → 0 ≤ r254 ∧ r254 < 464520)) → (((¬ p1 = (18 : Int)) → (0 ≤ r254 ∧ r254 < 647800 ∧ 635639 ≤ p4 ∧ p4 < 647790) ∧ (∀ g256 : sv_S, (sm_pt (g256 68) (g256 69) (g256 70) = sm_pt (g190 68) (g190 69) (g190 70)) → (635639 ≤ r254 ∧ r254 < 647790) ∧ (∀ g264 : sv_S, (sm_pt (g264 68) (g264 69) (g264 70) = sm_pt (g256 68) (g256 69) (g256 70)) → (sv_R (l7_191 + (1 : Int))) ∧ ((0 ≤ (l7_191 + (1 : Int)) ∧ (l7_191 + (1 : Int)) ≤ (S 1008 0) + 1 ∧ sm_pt (g264 68) (g264 69) (g264 70) = sm_pt (S 68) (S 69) (S 70)) ∧ ((S 1008 0) + 1 - (l7_191 + (1 : Int))) < ((S 1008 0) + 1 - l7_191))))) ∧ ((¬ (¬ p1 = (18 : Int))) → (0 ≤ p3 ∧ p3 < 647800 ∧ 0 ≤ r254 ∧ r254 < 647800) ∧ (∀ r277 : Int, sv_R r277 → ∀ g273 : sv_S, ((635639 ≤ r254 → sm_pt (g273 68) (g273 69) (g273 70) = sm_pt (g190 68) (g190 69) (g190 70)) ∧ (r277 = 0 ∨ r277 = 1) ∧ (r254 < 635639 → sm_pt (g273 68) (g273 69) (g273 70) + r277 ≤ sm_pt (g190 68) (g190 69) (g190 70))) → (sv_R (l7_191 + (1 : Int))) ∧ ((0 ≤ (l7_191 + (1 : Int)) ∧ (l7_191 + (1 : Int)) ≤ (S 1008 0) + 1 ∧ sm_pt (g273 68) (g273 69) (g273 70) = sm_pt (S 68) (S 69) (S 70)) ∧ ((S 1008 0) + 1 - (l7_191 + (1 : Int))) < ((S 1008 0) + 1 - l7_191))))))) ∧ ((¬ (¬ (S 88 l7_191) = (0 : Int))) → (((¬ p1 = (18 : Int)) → (sv_R (l7_191 + (1 : Int))) ∧ ((0 ≤ (l7_191 + (1 : Int)) ∧ (l7_191 + (1 : Int)) ≤ (S 1008 0) + 1 ∧ sm_pt (g190 68) (g190 69) (g190 70) = sm_pt (S 68) (S 69) (S 70)) ∧ ((S 1008 0) + 1 - (l7_191 + (1 : Int))) < ((S 1008 0) + 1 - l7_191))) ∧ ((¬ (¬ p1 = (18 : Int))) → ((0 ≤ (S 89 l7_191) ∧ (S 89 l7_191) ≤ 1) → (((¬ (S 89 l7_191) = (0 : Int)) → (29 ≤ (S 1071 0) ∧ (S 1071 0) ≤ 127 ∧ 31 ≤ (S 1008 0) ∧ (S 1008 0) ≤ 90 ∧ 1 ≤ (S 1032 0) ∧ (S 1032 0) ≤ 11 ∧ 0 ≤ (S 1055 0) ∧ (S 1055 0) ≤ 19 ∧ (S 1071 0) = 29 + 6 * ((S 1032 0) - 1) + 2 * (S 1055 0) ∧ 0 ≤ (S 1046 0) ∧ (S 1046 0) + 2 * (S 1032 0) ≤ 500 ∧ sm_PD (S 1046 0) (S 1032 0) (S 1071 0) (S 1008 0) ∧ 0 ≤ (S 1071 0) * ((S 1008 0) + 1) ∧ (S 1071 0) * ((S 1008 0) + 1) ≤ 11557 ∧ 0 ≤ (639 : Int) ∧ ((639 : Int) = 639 ∨ (639 : Int) < (S 1046 0) + 2 * (S 1032 0)) ∧ 0 ≤ l6_9 ∧ (l6_9 < (S 1071 0) ∨ ((639 : Int) = 639 ∧ l6_9 < 128)) ∧ 0 ≤ l7_191 ∧ l7_191 ≤ (S 1008 0)) ∧ (∀ r289 : Int, sv_R r289 → (((639 : Int) = 639 → 635640 ≤ r289 ∧ r289 < 647340) ∧ (¬ (639 : Int) = 639 → 0 ≤ r289 ∧ r289 < 464520)) → (((¬ p1 = (18 : Int)) → (0 ≤ r289 ∧ r289 < 647800 ∧ 635639 ≤ p4 ∧ p4 < 647790) ∧ (∀ g291 : sv_S, (sm_pt (g291 68) (g291 69) (g291 70) = sm_pt (g190 68) (g190 69) (g190 70)) → (635639 ≤ r289 ∧ r289 < 647790) ∧ (∀ g299 : sv_S, (sm_pt (g299 68) (g299 69) (g299 70) = sm_pt (g291 68) (g291 69) (g291 70)) → (sv_R (l7_191 + (1 : Int))) ∧ ((0 ≤ (l7_191 + (1 : Int)) ∧ (l7_191 + (1 : Int)) ≤ (S 1008 0) + 1 ∧ sm_pt (g299 68) (g299 69) (g299 70) = sm_pt (S 68) (S 69) (S 70)) ∧ ((S 1008 0) + 1 - (l7_191 + (1 : Int))) < ((S 1008 0) + 1 - l7_191))))) ∧ ((¬ (¬ p1 = (18 : Int))) → (0 ≤ p3 ∧ p3 < 647800 ∧ 0 ≤ r289 ∧ r289 < 647800) ∧ (∀ r312 : Int, sv_R r312 → ∀ g308 : sv_S, ((635639 ≤ r289 → sm_pt (g308 68) (g308 69) (g308 70) = sm_pt (g190 68) (g190 69) (g190 70)) ∧ (r312 = 0 ∨ r312 = 1) ∧ (r289 < 635639 → sm_pt (g308 68) (g308 69) (g308 70) + r312 ≤ sm_pt (g190 68) (g190 69) (g190 70))) → (sv_R (l7_191 + (1 : Int))) ∧ ((0 ≤ (l7_191 + (1 : Int)) ∧ (l7_191 + (1 : Int)) ≤ (S 1008 0) + 1 ∧ sm_pt (g308 68) (g308 69) (g308 70) = sm_pt (S 68) (S 69) (S 70)) ∧ ((S 1008 0) + 1 - (l7_191 + (1 : Int))) < ((S 1008 0) + 1 - l7_191))))))) ∧ ((¬ (¬ (S 89 l7_191) = (0 : Int))) → (sv_R (l7_191 + (1 : Int))) ∧ ((0 ≤ (l7_191 + (1 : Int)) ∧ (l7_191 + (1 : Int)) ≤ (S 1008 0) + 1 ∧ sm_pt (g190 68) (g190 69) (g190 70) = sm_pt (S 68) (S 69) (S 70)) ∧ ((S 1008 0) + 1 - (l7_191 + (1 : Int))) < ((S 1008 0) + 1 - l7_191)))))))))))))))))) ∧ ((¬ (¬ (S 81 r187) = (0 : Int))) → (sv_R (l6_9 + (1 : Int))) ∧ ((0 ≤ (l6_9 + (1 : Int)) ∧ (l6_9 + (1 : Int)) ≤ (S 1071 0) ∧ (l5_8 = 0 ∨ l5_8 = 1) ∧ sm_pt (g176 68) (g176 69) (g176 70) = sm_pt (S 68) (S 69) (S 70)) ∧ ((S 1071 0) - (l6_9 + (1 : Int))) < ((S 1071 0) - l6_9)))))))))) ∧ ((¬ (¬ r30 = (0 : Int))) → (sv_R (l6_9 + (1 : Int))) ∧ ((0 ≤ (l6_9 + (1 : Int)) ∧ (l6_9 + (1 : Int)) ≤ (S 1071 0) ∧ ((1 : Int) = 0 ∨ (1 : Int) = 1) ∧ sm_pt (g7 68) (g7 69) (g7 70) = sm_pt (S 68) (S 69) (S 70)) ∧ ((S 1071 0) - (l6_9 + (1 : Int))) < ((S 1071 0) - l6_9)))))) ∧ ((¬ (¬ r24 = (0 : Int))) → (sv_R (l6_9 + (1 : Int))) ∧ ((0 ≤ (l6_9 + (1 : Int)) ∧ (l6_9 + (1 : Int)) ≤ (S 1071 0) ∧ (l5_8 = 0 ∨ l5_8 = 1) ∧ sm_pt (g7 68) (g7 69) (g7 70) = sm_pt (S 68) (S 69) (S 70)) ∧ ((S 1071 0) - (l6_9 + (1 : Int))) < ((S 1071 0) - l6_9))))))))))))) ∧ ((¬ (r6 = (0 : Int))) → ((0 ≤ (0 : Int) ∧ (0 : Int) ≤ (S 1071 0) ∧ ((1 : Int) = 0 ∨ (1 : Int) = 1) ∧ sm_pt (S 68) (S 69) (S 70) = sm_pt (S 68) (S 69) (S 70)) ∧ (∀ l5_322 : Int, sv_R l5_322 → ∀ l6_323 : Int, sv_R l6_323 → ∀ g321 : sv_S, (0 ≤ l6_323 ∧ l6_323 ≤ (S 1071 0) ∧ (l5_322 = 0 ∨ l5_322 = 1) ∧ sm_pt (g321 68) (g321 69) (g321 70) = sm_pt (S 68) (S 69) (S 70)) → (0 ≤ (S 1071 0) - l6_323) ∧ (sv_R (S 1071 0) → ((((S 1071 0) ≤ l6_323) → (0 ≤ l5_322 ∧ l5_322 ≤ 1) ∧ (sm_pt (g321 68) (g321 69) (g321 70) = sm_pt (S 68) (S 69) (S 70) ∧ (l5_322 = 0 ∨ l5_322 = 1))) ∧ ((¬ ((S 1071 0) ≤ l6_323)) → (sv_RL (g321 69 p2) → (sv_RL (g321 70 p2) → (0 ≤ l6_323 ∧ l6_323 < 128) ∧ (∀ r338 : Int, sv_R r338 → (r338 = sm_in (g321 69 p2) (g321 70 p2) l6_323 ∧ (r338 = 0 ∨ r338 = 1)) → (((¬ r338 = (0 : Int)) → (29 ≤ (S 1071 0) ∧ (S 1071 0) ≤ 127 ∧ 31 ≤ (S 1008 0) ∧ (S 1008 0) ≤ 90 ∧ 1 ≤ (S 1032 0) ∧ (S 1032 0) ≤ 11 ∧ 0 ≤ (S 1055 0) ∧ (S 1055 0) ≤ 19 ∧ (S 1071 0) = 29 + 6 * ((S 1032 0) - 1) + 2 * (S 1055 0) ∧ 0 ≤ (S 1046 0) ∧ (S 1046 0) + 2 * (S 1032 0) ≤ 500 ∧ sm_PD (S 1046 0) (S 1032 0) (S 1071 0) (S 1008 0) ∧ 0 ≤ (S 1071 0) * ((S 1008 0) + 1) ∧ (S 1071 0) * ((S 1008 0) + 1) ≤ 11557 ∧ 0 ≤ l6_323 ∧ l6_323 < (S 1071 0)) ∧ (∀ r344 : Int, sv_R r344 → (r344 = 0 ∨ r344 = 1) → (((¬ r344 = (0 : Int)) → (((¬ p1 = (18 : Int)) → (635639 ≤ p4 ∧ p4 < 647790) ∧ (∀ g346 : sv_S, (sm_pt (g346 68) (g346 69) (g346 70) = sm_pt (g321 68) (g321 69) (g321 70)) → (29 ≤ (S 1071 0) ∧ (S 1071 0) ≤ 127 ∧ 31 ≤ (S 1008 0) ∧ (S 1008 0) ≤ 90 ∧ 1 ≤ (S 1032 0) ∧ (S 1032 0) ≤ 11 ∧ 0 ≤ (S 1055 0) ∧ (S 1055 0) ≤ 19 ∧ (S 1071 0) = 29 + 6 * ((S 1032 0) - 1) + 2 * (S 1055 0) ∧ 0 ≤ (S 1046 0) ∧ (S 1046 0) + 2 * (S 1032 0) ≤ 500 ∧ sm_PD (S 1046 0) (S 1032 0) (S 1071 0) (S 1008 0) ∧ 0 ≤ (S 1071 0) * ((S 1008 0) + 1) ∧ (S 1071 0) * ((S 1008 0) + 1) ≤ 11557 ∧ 0 ≤ (639 : Int) ∧ ((639 : Int) = 639 ∨ (639 : Int) < (S 1046 0) + 2 * (S 1032 0)) ∧ 0 ≤ l6_323 ∧ (l6_323 < (S 1071 0) ∨ ((639 : Int) = 639 ∧ l6_323 < 128))) ∧ (∀ r357 : Int, sv_R r357 → (((639 : Int) = 639 → r357 = 15000 + l6_323) ∧ (¬ (639 : Int) = 639 → 0 ≤ r357 ∧ r357 < 14520)) → (0 ≤ r357 ∧ r357 < 15128) ∧ ((0 ≤ (S 81 r357) ∧ (S 81 r357) ≤ 1) → (((¬ (S 81 r357) = (0 : Int)) → ((0 ≤ (0 : Int) ∧ (0 : Int) ≤ (S 1008 0) + 1 ∧ sm_pt (g346 68) (g346 69) (g346 70) = sm_pt (S 68) (S 69) (S 70)) ∧ (∀ l7_361 : Int, sv_R l7_361 → ∀ g360 : sv_S, (0 ≤ l7_361 ∧ l7_361 ≤ (S 1008 0) + 1 ∧ sm_pt (g360 68) (g360 69) (g360 70) = sm_pt (S 68) (S 69) (S 70)) → (0 ≤ (S 1008 0) + 1 - l7_361) ∧ (sv_R (S 1008 0) → ((((S 1008 0) < l7_361) → (29 ≤ (S 1071 0) ∧ (S 1071 0) ≤ 127 ∧ 31 ≤ (S 1008 0) ∧ (S 1008 0) ≤ 90 ∧ 1 ≤ (S 1032 0) ∧ (S 1032 0) ≤ 11 ∧ 0 ≤ (S 1055 0) ∧ (S 1055 0) ≤ 19 ∧ (S 1071 0) = 29 + 6 * ((S 1032 0) - 1) + 2 * (S 1055 0) ∧ 0 ≤ (S 1046 0) ∧ (S 1046 0) + 2 * (S 1032 0) ≤ 500 ∧ sm_PD (S 1046 0) (S 1032 0) (S 1071 0) (S 1008 0) ∧ 0 ≤ (S 1071 0) * ((S 1008 0) + 1) ∧ (S 1071 0) * ((S 1008 0) + 1) ≤ 11557 ∧ 0 ≤ (639 : Int) ∧ ((639 : Int) = 639 ∨ (639 : Int) < (S 1046 0) + 2 * (S 1032 0)) ∧ 0 ≤ l6_323 ∧ (l6_323 < (S 1071 0) ∨ ((639 : Int) = 639 ∧ l6_323 < 128)) ∧ 0 ≤ (0 : Int) ∧ (0 : Int) ≤ (S 1008 0)) ∧ (∀ r374 : Int, sv_R r374 → (((639 : Int) = 639 → 635640 ≤ r374 ∧ r374 < 647340) ∧ (¬ (639 : Int) = 639 → 0 ≤ r374 ∧ r374 < 464520)) → (635639 ≤ r374 ∧ r374 < 647790) ∧ (∀ g376 : sv_S, (sm_pt (g376 68) (g376 69) (g376 70) = sm_pt (g360 68) (g360 69) (g360 70)) → (sv_R (l6_323 + (1 : Int))) ∧ ((0 ≤ (l6_323 + (1 : Int)) ∧ (l6_323 + (1 : Int)) ≤ (S 1071 0) ∧ (l5_322 = 0 ∨ l5_322 = 1) ∧ sm_pt (g376 68) (g376 69) (g376 70) = sm_pt (S 68) (S 69) (S 70)) ∧ ((S 1071 0) - (l6_323 + (1 : Int))) < ((S 1071 0) - l6_323))))) ∧ ((¬ ((S 1008 0) < l7_361)) → ((((S 1008 0) ≤ l7_361) → (29 ≤ (S 1071 0) ∧ (S 1071 0) ≤ 127 ∧ 31 ≤ (S 1008 0) ∧ (S 1008 0) ≤ 90 ∧ 1 ≤ (S 1032 0) ∧ (S 1032 0) ≤ 11 ∧ 0 ≤ (S 1055 0) ∧ (S 1055 0) ≤ 19 ∧ (S 1071 0) = 29 + 6 * ((S 1032 0) - 1) + 2 * (S 1055 0) ∧ 0 ≤ (S 1046 0) ∧ (S 1046 0) + 2 * (S 1032 0) ≤ 500 ∧ sm_PD (S 1046 0) (S 1032 0) (S 1071 0) (S 1008 0) ∧ 0 ≤ (S 1071 0) * ((S 1008 0) + 1) ∧ (S 1071 0) * ((S 1008 0) + 1) ≤ 11557 ∧ 0 ≤ (639 : Int) ∧ ((639 : Int) = 639 ∨ (639 : Int) < (S 1046 0) + 2 * (S 1032 0)) ∧ 0 ≤ l6_323 ∧ (l6_323 < (S 1071 0) ∨ ((639 : Int) = 639 ∧ l6_323 < 128)) ∧ 0 ≤ l7_361 ∧ l7_361 ≤ (S 1008 0)) ∧ (∀ r389 : Int, sv_R r389 → (((639 : Int) = 639 → 635640 ≤ r389 ∧ r389 < 647340) ∧ (¬ (639 : Int) = 639 → 0 ≤ r389 ∧ r389 < 464520)) → (((¬ p1 = (18 : Int)) → (0 ≤ r389 ∧ r389 < 647800 ∧ 635639 ≤ p4 ∧ p4 < 647790) ∧ (∀ g391 : sv_S, (sm_pt (g391 68) (g391 69) (g391 70) = sm_pt (g360 68) (g360 69) (g360 70)) → (635639 ≤ r389 ∧ r389 < 647790) ∧ (∀ g399 : sv_S, (sm_pt (g399 68) (g399 69) (g399 70) = sm_pt (g391 68) (g391 69) (g391 70)) → (sv_R (l7_361 + (1 : Int))) ∧ ((0 ≤ (l7_361 + (1 : Int)) ∧ (l7_361 + (1 : Int)) ≤ (S 1008 0) + 1 ∧ sm_pt (g399 68) (g399 69) (g399 70) = sm_pt (S 68) (S 69) (S 70)) ∧ ((S 1008 0) + 1 - (l7_361 + (1 : Int))) < ((S 1008 0) + 1 - l7_361))))) ∧ ((¬ (¬ p1 = (18 : Int))) → (0 ≤ p3 ∧ p3 < 647800 ∧ 0 ≤ r389 ∧ r389 < 647800) ∧ (∀ r412 : Int, sv_R r412 → ∀ g408 : sv_S, ((635639 ≤ r389 → sm_pt (g408 68) (g408 69) (g408 70) = sm_pt (g360 68) (g360 69) (g360 70)) ∧ (r412 = 0 ∨ r412 = 1) ∧ (r389 < 635639 → sm_pt (g408 68) (g408 69) (g408 70) + r412 ≤ sm_pt (g360 68) (g360 69) (g360 70))) → (sv_R (l7_361 + (1 : Int))) ∧ ((0 ≤ (l7_361 + (1 : Int)) ∧ (l7_361 + (1 : Int)) ≤ (S 1008 0) + 1 ∧ sm_pt (g408 68) (g408 69) (g408 70) = sm_pt (S 68) (S 69) (S 70)) ∧ ((S 1008 0) + 1 - (l7_361 + (1 : Int))) < ((S 1008 0) + 1 - l7_361))))))) ∧ ((¬ ((S 1008 0) ≤ l7_361)) → (0 ≤ l7_361 ∧ l7_361 < 90) ∧ ((0 ≤ (S 88 l7_361) ∧ (S 88 l7_361) ≤ 1) → (((¬ (S 88 l7_361) = (0 : Int)) → (29 ≤ (S 1071 0) ∧ (S 1071 0) ≤ 127 ∧ 31 ≤ (S 1008 0) ∧ (S 1008 0) ≤ 90 ∧ 1 ≤ (S 1032 0) ∧ (S 1032 0) ≤ 11 ∧ 0 ≤ (S 1055 0) ∧ (S 1055 0) ≤ 19 ∧ (S 1071 0) = 29 + 6 * ((S 1032 0) - 1) + 2 * (S 1055 0) ∧ 0 ≤ (S 1046 0) ∧ (S 1046 0) + 2 * (S 1032 0) ≤ 500 ∧ sm_PD (S 1046 0) (S 1032 0) (S 1071 0) (S 1008 0) ∧ 0 ≤ (S 1071 0) * ((S 1008 0) + 1) ∧ (S 1071 0) * ((S 1008 0) + 1) ≤ 11557 ∧ 0 ≤ (639 : Int) ∧ ((639 : Int) = 639 ∨ (639 : Int) < (S 1046 0) + 2 * (S 1032 0)) ∧ 0 ≤ l6_323 ∧ (l6_323 < (S 1071 0) ∨ ((639 : Int) = 639 ∧ l6_323 < 128)) ∧ 0 ≤ l7_361 ∧ l7_361 ≤ (S 1008 0)) ∧ (∀ r424 : Int, sv_R r424 → (((639 : Int) = 639 → 635640 ≤ r424 ∧ r424 < 647340) ∧ (¬ (639 : Int) = 639 → 0 ≤ r424 ∧ r424 < 464520)) → (((¬ p1 = (18 : Int)) → (0 ≤ r424 ∧ r424 < 647800 ∧ 635639 ≤ p4 ∧ p4 < 647790) ∧ (∀ g426 : sv_S, (sm_pt (g426 68) (g426 69) (g426 70) = sm_pt (g360 68) (g360 69) (g360 70)) → (635639 ≤ r424 ∧ r424 < 647790) ∧ (∀ g434 : sv_S, (sm_pt (g434 68) (g434 69) (g434 70) = sm_pt (g426 68) (g426 69) (g426 70)) → (sv_R (l7_361 + (1 : Int))) ∧ ((0 ≤ (l7_361 + (1 : Int)) ∧ (l7_361 + (1 : Int)) ≤ (S 1008 0) + 1 ∧ sm_pt (g434 68) (g434 69) (g434 70) = sm_pt (S 68) (S 69) (S 70)) ∧ ((S 1008 0) + 1 - (l7_361 + (1 : Int))) < ((S 1008 0) + 1 - l7_361))))) ∧ ((¬ (¬ p1 = (18 : Int))) → (0 ≤ p3 ∧ p3 < 647800 ∧ 0 ≤ r424 ∧ r424 < 647800) ∧ (∀ r447 : Int, sv_R r447 → ∀ g443 : sv_S, ((635639 ≤ r424 → sm_pt (g443 68) (g443 69) (g443 70) = sm_pt (g360 68) (g360 69) (g360 70)) ∧ (r447 = 0 ∨ r447 = 1) ∧ (r424 < 635639 → sm_pt (g443 68) (g443 69) (g443 70) + r447 ≤ sm_pt (g360 68) (g360 69) (g360 70))) → (sv_R (l7_361 + (1 : Int))) ∧ ((0 ≤ (l7_361 + (1 : Int)) ∧ (l7_361 + (1 : Int)) ≤ (S 1008 0) + 1 ∧ sm_pt (g443 68) (g443 69) (g443 70) = sm_pt (S 68) (S 69) (S 70)) ∧ ((S 1008 0) + 1 - (l7_361 + (1 : Int))) < ((S 1008 0) + 1 - l7_361))))))) ∧ ((¬ (¬ (S 88 l7_361) = (0 : Int))) → (((¬ p1 = (18 : Int)) → (sv_R (l7_361 + (1 : Int))) ∧ ((0 ≤ (l7_361 + (1 : Int)) ∧ (l7_361 + (1 : Int)) ≤ (S 1008 0) + 1 ∧ sm_pt (g360 68) (g360 69) (g360 70) = sm_pt (S 68) (S 69) (S 70)) ∧ ((S 1008 0) + 1 - (l7_361 + (1 : Int))) < ((S 1008 0) + 1 - l7_361))) ∧ ((¬ (¬ p1 = (18 : Int))) → ((0 ≤ (S 89 l7_361) ∧ (S 89 l7_361) ≤ 1) → (((¬ (S 89 l7_361) = (0 : Int)) → (29 ≤ (S 1071 0) ∧ (S 1071 0) ≤ 127 ∧ 31 ≤ (S 1008 0) ∧ (S 1008 0) ≤ 90 ∧ 1 ≤ (S 1032 0) ∧ (S 1032 0) ≤ 11 ∧ 0 ≤ (S 1055 0) ∧ (S 1055 0) ≤ 19 ∧ (S 1071 0) = 29 + 6 * ((S 1032 0) - 1) + 2 * (S 1055 0) ∧ 0 ≤ (S 1046 0) ∧ (S 1046 0) + 2 * (S 1032 0) ≤ 500 ∧ sm_PD (S 1046 0) (S 1032 0) (S 1071 0) (S 1008 0) ∧ 0 ≤ (S 1071 0) * ((S 1008 0) + 1) ∧ (S 1071 0) * ((S 1008 0) + 1) ≤ 11557 ∧ 0 ≤ (639 : Int) ∧ ((639 : Int) = 639 ∨ (639 : Int) < (S 1046 0) + 2 * (S 1032 0)) ∧ 0 ≤ l6_323 ∧ (l6_323 < (S 1071 0) ∨ ((639 : Int) = 639 ∧ l6_323 < 128)) ∧ 0 ≤ l7_361 ∧ l7_361 ≤ (S 1008 0)) ∧ (∀ r459 : Int, sv_R r459 → (((639 : Int) = 639 → 635640 ≤ r459 ∧ r459 < 647340) ∧ (¬ (639 : Int) = 639 → 0 ≤ r459 ∧ r459 < 464520)) → (((¬ p1 = (18 : Int)) → (0 ≤ r459 ∧ r459 < 647800 ∧ 635639 ≤ p4 ∧ p4 < 647790) ∧ (∀ g461 : sv_S, (sm_pt (g461 68) (g461 69) (g461 70) = sm_pt (g360 68) (g360 69) (g360 70)) → (635639 ≤ r459 ∧ r459 < 647790) ∧ (∀ g469 : sv_S, (sm_pt (g469 68) (g469 69) (g469 70) = sm_pt (g461 68) (g461 69) (g461 70)) → (sv_R (l7_361 + (1 : Int))) ∧ ((0 ≤ (l7_361 + (1 : Int)) ∧ (l7_361 + (1 : Int)) ≤ (S 1008 0) + 1 ∧ sm_pt (g469 68) (g469 69) (g469 70) = sm_pt (S 68) (S 69) (S 70)) ∧ ((S 1008 0) + 1 - (l7_361 + (1 : Int))) < ((S 1008 0) + 1 - l7_361))))) ∧ ((¬ (¬ p1 = (18 : Int))) → (0 ≤ p3 ∧ p3 < 647800 ∧ 0 ≤ r459 ∧ r459 < 647800) ∧ (∀ r482 : Int, sv_R r482 → ∀ g478 : sv_S, ((635639 ≤ r459 → sm_pt (g478 68) (g478 69) (g478 70) = sm_pt (g360 68) (g360 69) (g360 70)) ∧ (r482 = 0 ∨ r482 = 1) ∧ (r459 < 635639 → sm_pt (g478 68) (g478 69) (g478 70) + r482 ≤ sm_pt (g360 68) (g360 69) (g360 70))) → (sv_R (l7_361 + (1 : Int))) ∧ ((0 ≤ (l7_361 + (1 : Int)) ∧ (l7_361 + (1 : Int)) ≤ (S 1008 0) + 1 ∧ sm_pt (g478 68) (g478 69) (g478 70) = sm_pt (S 68) (S 69) (S 70)) ∧ ((S 1008 0) + 1 - (l7_361 + (1 : Int))) < ((S 1008 0) + 1 - l7_361))))))) ∧ ((¬ (¬ (S 89 l7_361) = (0 : Int))) → (sv_R (l7_361 + (1 : Int))) ∧ ((0 ≤ (l7_361 + (1 : Int)) ∧ (l7_361 + (1 : Int)) ≤ (S 1008 0) + 1 ∧ sm_pt (g360 68) (g360 69) (g360 70) = sm_pt (S 68) (S 69) (S 70)) ∧ ((S 1008 0) + 1 - (l7_361 + (1 : Int))) < ((S 1008 0) + 1 - l7_361)))))))))))))))))) ∧ ((¬ (¬ (S 81 r357) = (0 : Int))) → (sv_R (l6_323 + (1 : Int))) ∧ ((0 ≤ (l6_323 + (1 : Int)) ∧ (l6_323 + (1 : Int)) ≤ (S 1071 0) ∧ (l5_322 = 0 ∨ l5_322 = 1) ∧ sm_pt (g346 68) (g346 69) (g346 70) = sm_pt (S 68) (S 69) (S 70)) ∧ ((S 1071 0) - (l6_323 + (1 : Int))) < ((S 1071 0) - l6_323)))))))) ∧ ((¬ (¬ p1 = (18 : Int))) → (635639 ≤ p4 ∧ p4 < 647790) ∧ (∀ g490 : sv_S, (sm_pt (g490 68) (g490 69) (g490 70) = sm_pt (g321 68) (g321 69) (g321 70)) → (29 ≤ (S 1071 0) ∧ (S 1071 0) ≤ 127 ∧ 31 ≤ (S 1008 0) ∧ (S 1008 0) ≤ 90 ∧ 1 ≤ (S 1032 0) ∧ (S 1032 0) ≤ 11 ∧ 0 ≤ (S 1055 0) ∧ (S 1055 0) ≤ 19 ∧ (S 1071 0) = 29 + 6 * ((S 1032 0) - 1) + 2 * (S 1055 0) ∧ 0 ≤ (S 1046 0) ∧ (S 1046 0) + 2 * (S 1032 0) ≤ 500 ∧ sm_PD (S 1046 0) (S 1032 0) (S 1071 0) (S 1008 0) ∧ 0 ≤ (S 1071 0) * ((S 1008 0) + 1) ∧ (S 1071 0) * ((S 1008 0) + 1) ≤ 11557 ∧ 0 ≤ (639 : Int) ∧ ((639 : Int) = 639 ∨ (639 : Int) < (S 1046 0) + 2 * (S 1032 0)) ∧ 0 ≤ l6_323 ∧ (l6_323 < (S 1071 0) ∨ ((639 : Int) = 639 ∧ l6_323 < 128))) ∧ (∀ r501 : Int, sv_R r501 → (((639 : Int) = 639 → r501 = 15000 + l6_323) ∧ (¬ (639 : Int) = 639 → 0 ≤ r501 ∧ r501 < 14520)) → (0 ≤ r501 ∧ r501 < 15128) ∧ ((0 ≤ (S 81 r501) ∧ (S 81 r501) ≤ 1) → (((¬ (S 81 r501) = (0 : Int)) → ((0 ≤ (0 : Int) ∧ (0 : Int) ≤ (S 1008 0) + 1 ∧ sm_pt (g490 68) (g490 69) (g490 70) = sm_pt (S 68) (S 69) (S 70)) ∧ (∀ l7_505 : Int, sv_R l7_505 → ∀ g504 : sv_S, (0 ≤ l7_505 ∧ l7_505 ≤ (S 1008 0) + 1 ∧ sm_pt (g504 68) (g504 69) (g504 70) = sm_pt (S 68) (S 69) (S 70)) → (0 ≤ (S 1008 0) + 1 - l7_505) ∧ (sv_R (S 1008 0) → ((((S 1008 0) < l7_505) → (29 ≤ (S 1071 0) ∧ (S 1071 0) ≤ 127 ∧ 31 ≤ (S 1008 0) ∧ (S 1008 0) ≤ 90 ∧ 1 ≤ (S 1032 0) ∧ (S 1032 0) ≤ 11 ∧ 0 ≤ (S 1055 0) ∧ (S 1055 0) ≤ 19 ∧ (S 1071 0) = 29 + 6 * ((S 1032 0) - 1) + 2 * (S 1055 0) ∧ 0 ≤ (S 1046 0) ∧ (S 1046 0) + 2 * (S 1032 0) ≤ 500 ∧ sm_PD (S 1046 0) (S 1032 0) (S 1071 0) (S 1008 0) ∧ 0 ≤ (S 1071 0) * ((S 1008 0) + 1) ∧ (S 1071 0) * ((S 1008 0) + 1) ≤ 11557 ∧ 0 ≤ (639 : Int) ∧ ((639 : Int) = 639 ∨ (639 : Int) < (S 1046 0) + 2 * (S 1032 0)) ∧ 0 ≤ l6_323 ∧ (l6_323 < (S 1071 0) ∨ ((639 : Int) = 639 ∧ l6_323 < 128)) ∧ 0 ≤ (0 : Int) ∧ (0 : Int) ≤ (S 1008 0)) ∧ (∀ r518 : Int, sv_R r518 → (((639 : Int) = 639 → 635640 ≤ r518 ∧ r518 < 647340) ∧ (¬ (639 : Int) = 639 → 0 ≤ r518 ∧ r518 < 464520)) → (635639 ≤ r518 ∧ r518 < 647790) ∧ (∀ g520 : sv_S, (sm_pt (g520 68) (g520 69) (g520 70) = sm_pt (g504 68) (g504 69) (g504 70)) → (sv_R (l6_323 + (1 : Int))) ∧ ((0 ≤ (l6_323 + (1 : Int)) ∧ (l6_323 + (1 : Int)) ≤ (S 1071 0) ∧ (l5_322 = 0 ∨ l5_322 = 1) ∧ sm_pt (g520 68) (g520 69) (g520 70) = sm_pt (S 68) (S 69) (S 70)) ∧ ((S 1071 0) - (l6_323 + (1 : Int))) < ((S 1071 0) - l6_323))))) ∧ ((¬ ((S 1008 0) < l7_505)) → ((((S 1008 0) ≤ l7_505) → (29 ≤ (S 1071 0) ∧ (S 1071 0) ≤ 127 ∧ 31 ≤ (S 1008 0) ∧ (S 1008 0) ≤ 90 ∧ 1 ≤ (S 1032 0) ∧ (S 1032 0) ≤ 11 ∧ 0 ≤ (S 1055 0) ∧ (S 1055 0) ≤ 19 ∧ (S 1071 0) = 29 + 6 * ((S 1032 0) - 1) + 2 * (S 1055 0) ∧ 0 ≤ (S 1046 0) ∧ (S 1046 0) + 2 * (S 1032 0) ≤ 500 ∧ sm_PD (S 1046 0) (S 1032 0) (S 1071 0) (S 1008 0) ∧ 0 ≤ (S 1071 0) * ((S 1008 0) + 1) ∧ (S 1071 0) * ((S 1008 0) + 1) ≤ 11557 ∧ 0 ≤ (639 : Int) ∧ ((639 : Int) = 639 ∨ (639 : Int) < (S 1046 0) + 2 * (S 1032 0)) ∧ 0 ≤ l6_323 ∧ (l6_323 < (S 1071 0) ∨ ((639 : Int) = 639 ∧ l6_323 < 128)) ∧ 0 ≤ l7_505 ∧ l7_505 ≤ (S 1008 0)) ∧ (∀ r533 : Int, sv_R r533 → (((639 : Int) = 639 → 635640 ≤ r533 ∧ r533 < 647340) ∧ (¬ (639 : Int) = 639 → 0 ≤ r533 ∧ r533 < 464520)) → (((¬ p1 = (18 : Int)) → (0 ≤ r533 ∧ r533 < 647800 ∧ 635639 ≤ p4 ∧ p4 < 647790) ∧ (∀ g535 : sv_S, (sm_pt (g535 68) (g535 69) (g535 70) = sm_pt (g504 68) (g504 69) (g504 70)) → (635639 ≤ r533 ∧ r533 < 647790) ∧ (∀ g543 : sv_S, (sm_pt (g543 68) (g543 69) (g543 70) = sm_pt (g535 68) (g535 69) (g535 70)) → (sv_R (l7_505 + (1 : Int))) ∧ ((0 ≤ (l7_505 + (1 : Int)) ∧ (l7_505 + (1 : Int)) ≤ (S 1008 0) + 1 ∧ sm_pt (g543 68) (g543 69) (g543 70) = sm_pt (S 68) (S 69) (S 70)) ∧ ((S 1008 0) + 1 - (l7_505 + (1 : Int))) < ((S 1008 0) + 1 - l7_505))))) ∧ ((¬ (¬ p1 = (18 : Int))) → (0 ≤ p3 ∧ p3 < 647800 ∧ 0 ≤ r533 ∧ r533 < 647800) ∧ (∀ r556 : Int, sv_R r556 → ∀ g552 : sv_S, ((635639 ≤ r533 → sm_pt (g552 68) (g552 69) (g552 70) = sm_pt (g504 68) (g504 69) (g504 70)) ∧ (r556 = 0 ∨ r556 = 1) ∧ (r533 < 635639 → sm_pt (g552 68) (g552 69) (g552 70) + r556 ≤ sm_pt (g504 68) (g504 69) (g504 70))) → (sv_R (l7_505 + (1 : Int))) ∧ ((0 ≤ (l7_505 + (1 : Int)) ∧ (l7_505 + (1 : Int)) ≤ (S 1008 0) + 1 ∧ sm_pt (g552 68) (g552 69) (g552 70) = sm_pt (S 68) (S 69) (S 70)) ∧ ((S 1008 0) + 1 - (l7_505 + (1 : Int))) < ((S 1008 0) + 1 - l7_505))))))) ∧ ((¬ ((S 1008 0) ≤ l7_505)) → (0 ≤ l7_505 ∧ l7_505 < 90) ∧ ((0 ≤ (S 88 l7_505) ∧ (S 88 l7_505) ≤ 1) → (((¬ (S 88 l7_505) = (0 : Int)) → (29 ≤ (S 1071 0) ∧ (S 1071 0) ≤ 127 ∧ 31 ≤ (S 1008 0) ∧ (S 1008 0) ≤ 90 ∧ 1 ≤ (S 1032 0) ∧ (S 1032 0) ≤ 11 ∧ 0 ≤ (S 1055 0) ∧ (S 1055 0) ≤ 19 ∧ (S 1071 0) = 29 + 6 * ((S 1032 0) - 1) + 2 * (S 1055 0) ∧ 0 ≤ (S 1046 0) ∧ (S 1046 0) + 2 * (S 1032 0) ≤ 500 ∧ sm_PD (S 1046 0) (S 1032 0) (S 1071 0) (S 1008 0) ∧ 0 ≤ (S 1071 0) * ((S 1008 0) + 1) ∧ (S 1071 0) * ((S 1008 0) + 1) ≤ 11557 ∧ 0 ≤ (639 : Int) ∧ ((639 : Int) = 639 ∨ (639 : Int) < (S 1046 0) + 2 * (S 1032 0)) ∧ 0 ≤ l6_323 ∧ (l6_323 < (S 1071 0) ∨ ((639 : Int) = 639 ∧ l6_323 < 128)) ∧ 0 ≤ l7_505 ∧ l7_505 ≤ (S 1008 0)) ∧ (∀ r568 : Int, sv_R r568 → (((639 : Int) = 639 → 635640 ≤ r568 ∧ r568 < 647340) ∧ (¬ (639 : Int) = 639 → 0 ≤ r568 ∧ r568 < 464520)) → (((¬ p1 = (18 : Int)) → (0 ≤ r568 ∧ r568 < 647800 ∧ 635639 ≤ p4 ∧ p4 < 647790) ∧ (∀ g570 : sv_S, (sm_pt (g570 68) (g570 69) (g570 70) = sm_pt (g504 68) (g504 69) (g504 70)) → (635639 ≤ r568 ∧ r568 < 647790) ∧ (∀ g578 : sv_S, (sm_pt (g578 68) (g578 69) (g578 70) = sm_pt (g570 68) (g570 69) (g570 70)) → (sv_R (l7_505 + (1 : Int))) ∧ ((0 ≤ (l7_505 + (1 : Int)) ∧ (l7_505 + (1 : Int)) ≤ (S 1008 0) + 1 ∧ sm_pt (g578 68) (g578 69) (g578 70) = sm_pt (S 68) (S 69) (S 70)) ∧ ((S 1008 0) + 1 - (l7_505 + (1 : Int))) < ((S 1008 0) + 1 - l7_505))))) ∧ ((¬ (¬ p1 = (18 : Int))) → (0 ≤ p3 ∧ p3 < 647800 ∧ 0 ≤ r568 ∧ r568 < 647800) ∧ (∀ r591 : Int, sv_R r591 → ∀ g587 : sv_S, ((635639 ≤ r568 → sm_pt (g587 68) (g587 69) (g587 70) = sm_pt (g504 68) (g504 69) (g504 70)) ∧ (r591 = 0 ∨ r591 = 1) ∧ (r568 < 635639 → sm_pt (g587 68) (g587 69) (g587 70) + r591 ≤ sm_pt (g504 68) (g504 69) (g504 70))) → (sv_R (l7_505 + (1 : Int))) ∧ ((0 ≤ (l7_505 + (1 : Int)) ∧ (l7_505 + (1 : Int)) ≤ (S 1008 0) + 1 ∧ sm_pt (g587 68) (g587 69) (g587 70) = sm_pt (S 68) (S 69) (S 70)) ∧ ((S 1008 0) + 1 - (l7_505 + (1 : Int))) < ((S 1008 0) + 1 - l7_505))))))) ∧ ((¬ (¬ (S 88 l7_505) = (0 : Int))) → (((¬ p1 = (18 : Int)) → (sv_R (l7_505 + (1 : Int))) ∧ ((0 ≤ (l7_505 + (1 : Int)) ∧ (l7_505 + (1 : Int)) ≤ (S 1008 0) + 1 ∧ sm_pt (g504 68) (g504 69) (g504 70) = sm_pt (S 68) (S 69) (S 70)) ∧ ((S 1008 0) + 1 - (l7_505 + (1 : Int))) < ((S 1008 0) + 1 - l7_505))) ∧ ((¬ (¬ p1 = (18 : Int))) → ((0 ≤ (S 89 l7_505) ∧ (S 89 l7_505) ≤ 1) → (((¬ (S 89 l7_505) = (0 : Int)) → (29 ≤ (S 1071 0) ∧ (S 1071 0) ≤ 127 ∧ 31 ≤ (S 1008 0) ∧ (S 1008 0) ≤ 90 ∧ 1 ≤ (S 1032 0) ∧ (S 1032 0) ≤ 11 ∧ 0 ≤ (S 1055 0) ∧ (S 1055 0) ≤ 19 ∧ (S 1071 0) = 29 + 6 * ((S 1032 0) - 1) + 2 * (S 1055 0) ∧ 0 ≤ (S 1046 0) ∧ (S 1046 0) + 2 * (S 1032 0) ≤ 500 ∧ sm_PD (S 1046 0) (S 1032 0) (S 1071 0) (S 1008 0) ∧ 0 ≤ (S 1071 0) * ((S 1008 0) + 1) ∧ (S 1071 0) * ((S 1008 0) + 1) ≤ 11557 ∧ 0 ≤ (639 : Int) ∧ ((639 : Int) = 639 ∨ (639 : Int) < (S 1046 0) + 2 * (S 1032 0)) ∧ 0 ≤ l6_323 ∧ (l6_323 < (S 1071 0) ∨ ((639 : Int) = 639 ∧ l6_323 < 128)) ∧ 0 ≤ l7_505 ∧ l7_505 ≤ (S 1008 0)) ∧ (∀ r603 : Int, sv_R r603 → (((639 : Int) = 639 → 635640 ≤ r603 ∧ r603 < 647340) ∧ (¬ (639 : Int) = 639 → 0 ≤ r603 ∧ r603 < 464520)) → (((¬ p1 = (18 : Int)) → (0 ≤ r603 ∧ r603 < 647800 ∧ 635639 ≤ p4 ∧ p4 < 647790) ∧ (∀ g605 : sv_S, (sm_pt (g605 68) (g605 69) (g605 70) = sm_pt (g504 68) (g504 69) (g504 70)) → (635639 ≤ r603 ∧ r603 < 647790) ∧ (∀ g613 : sv_S, (sm_pt (g613 68) (g613 69) (g613 70) = sm_pt (g605 68) (g605 69) (g605 70)) → (sv_R (l7_505 + (1 : Int))) ∧ ((0 ≤ (l7_505 + (1 : Int)) ∧ (l7_505 + (1 : Int)) ≤ (S 1008 0) + 1 ∧ sm_pt (g613 68) (g613 69) (g613 70) = sm_pt (S 68) (S 69) (S 70)) ∧ ((S 1008 0) + 1 - (l7_505 + (1 : Int))) < ((S 1008 0) + 1 - l7_505))))) ∧ ((¬ (¬ p1 = (18 : Int))) → (0 ≤ p3 ∧ p3 < 647800 ∧ 0 ≤ r603 ∧ r603 < 647800) ∧ (∀ r626 : Int, sv_R r626 → ∀ g622 : sv_S, ((635639 ≤ r603 → sm_pt (g622 68) (g622 69) (g622 70) = sm_pt (g504 68) (g504 69) (g504 70)) ∧ (r626 = 0 ∨ r626 = 1) ∧ (r603 < 635639 → sm_pt (g622 68) (g622 69) (g622 70) + r626 ≤ sm_pt (g504 68) (g504 69) (g504 70))) → (sv_R (l7_505 + (1 : Int))) ∧ ((0 ≤ (l7_505 + (1 : Int)) ∧ (l7_505 + (1 : Int)) ≤ (S 1008 0) + 1 ∧ sm_pt (g622 68) (g622 69) (g622 70) = sm_pt (S 68) (S 69) (S 70)) ∧ ((S 1008 0) + 1 - (l7_505 + (1 : Int))) < ((S 1008 0) + 1 - l7_505))))))) ∧ ((¬ (¬ (S 89 l7_505) = (0 : Int))) → (sv_R (l7_505 + (1 : Int))) ∧ ((0 ≤ (l7_505 + (1 : Int)) ∧ (l7_505 + (1 : Int)) ≤ (S 1008 0) + 1 ∧ sm_pt (g504 68) (g504 69) (g504 70) = sm_pt (S 68) (S 69) (S 70)) ∧ ((S 1008 0) + 1 - (l7_505 + (1 : Int))) < ((S 1008 0) + 1 - l7_505)))))))))))))))))) ∧ ((¬ (¬ (S 81 r501) = (0 : Int))) → (sv_R (l6_323 + (1 : Int))) ∧ ((0 ≤ (l6_323 + (1 : Int)) ∧ (l6_323 + (1 : Int)) ≤ (S 1071 0) ∧ (l5_322 = 0 ∨ l5_322 = 1) ∧ sm_pt (g490 68) (g490 69) (g490 70) = sm_pt (S 68) (S 69) (S 70)) ∧ ((S 1071 0) - (l6_323 + (1 : Int))) < ((S 1071 0) - l6_323)))))))))) ∧ ((¬ (¬ r344 = (0 : Int))) → (sv_R (l6_323 + (1 : Int))) ∧ ((0 ≤ (l6_323 + (1 : Int)) ∧ (l6_323 + (1 : Int)) ≤ (S 1071 0) ∧ ((1 : Int) = 0 ∨ (1 : Int) = 1) ∧ sm_pt (g321 68) (g321 69) (g321 70) = sm_pt (S 68) (S 69) (S 70)) ∧ ((S 1071 0) - (l6_323 + (1 : Int))) < ((S 1071 0) - l6_323)))))) ∧ ((¬ (¬ r338 = (0 : Int))) → (sv_R (l6_323 + (1 : Int))) ∧ ((0 ≤ (l6_323 + (1 : Int)) ∧ (l6_323 + (1 : Int)) ≤ (S 1071 0) ∧ (l5_322 = 0 ∨ l5_322 = 1) ∧ sm_pt (g321 68) (g321 69) (g321 70) = sm_pt (S 68) (S 69) (S 70)) ∧ ((S 1071 0) - (l6_323 + (1 : Int))) < ((S 1071 0) - l6_323))))))))))))))) := by
  intro p1
  intro p2
  intro p3
  intro p4
  intro S
  intro h1_
  intro h2_
  intro h3_
  intro h4_
  intro h5_
  rintro ⟨h6_, ⟨h7_, ⟨h8_, ⟨h9_, ⟨h10_, ⟨h11_, ⟨h12_, ⟨h13_, ⟨h14_, ⟨h15_, ⟨h16_, ⟨h17_, ⟨h18_, ⟨h19_, ⟨h20_, ⟨h21_, ⟨h22_, ⟨h23_, ⟨h24_, ⟨h25_, ⟨h26_, ⟨h27_, h28_⟩⟩⟩⟩⟩⟩⟩⟩⟩⟩⟩⟩⟩⟩⟩⟩⟩⟩⟩⟩⟩⟩
  refine ⟨(la_rowWays_0 h23_ h24_), ?_⟩
  intro r6
  intro h29_
  intro h30_
  refine ⟨?_, ?_⟩
  · skip
    intro h31_
    refine ⟨(la_rowWays_1 h6_), ?_⟩
    intro l5_8
    intro h32_
    intro l6_9
    intro h33_
    intro g7
    rintro ⟨h34_, ⟨h35_, ⟨h36_, h37_⟩⟩⟩
    refine ⟨(la_rowWays_2 h35_), ?_⟩
    intro h38_
    refine ⟨(la_rowWays_3 h36_ h37_), ?_⟩
    intro h39_
    intro h40_
    intro h41_
    refine ⟨(la_rowWays_4 h7_ h34_ h39_), ?_⟩
    intro r24
    intro h42_
    rintro ⟨h43_, h44_⟩
    refine ⟨?_, ?_⟩
    · skip
      intro h45_
      have h46_ := (h44_.resolve_left h45_)
      refine ⟨⟨h6_, ⟨h7_, ⟨h8_, ⟨h9_, ⟨h10_, ⟨h11_, ⟨h12_, ⟨h13_, ⟨h14_, ⟨h15_, ⟨h16_, ⟨h17_, (la_rowWays_7 h18_ h19_ h34_ h39_)⟩⟩⟩⟩⟩⟩⟩⟩⟩⟩⟩⟩, ?_⟩
      intro r30
      intro h47_
      intro h48_
      refine ⟨?_, ?_⟩
      · skip
        intro h49_
        have h50_ := (h48_.resolve_left h49_)
        refine ⟨?_, ?_⟩
        · skip
          intro h51_
          refine ⟨(la_rowWays_8 h27_ h28_), ?_⟩
          intro g32
          intro h52_
          refine ⟨⟨h6_, ⟨h7_, ⟨h8_, ⟨h9_, ⟨h10_, ⟨h11_, ⟨h12_, ⟨h13_, ⟨h14_, ⟨h15_, ⟨h16_, ⟨h17_, (la_rowWays_9 h7_ h18_ h19_ h34_ h39_)⟩⟩⟩⟩⟩⟩⟩⟩⟩⟩⟩⟩, ?_⟩
          intro r43
          intro h53_
          rintro ⟨h54_, h55_⟩
          have h56_ := (h54_ la_rowWays_10)
          refine ⟨(la_rowWays_12 h7_ h34_ h39_ h56_), ?_⟩
          rintro ⟨h57_, h58_⟩
          refine ⟨?_, ?_⟩
          · skip
            intro h59_
            refine ⟨(la_rowWays_13 h8_ h37_ h52_), ?_⟩
            intro l7_47
            intro h60_
            intro g46
            rintro ⟨h61_, ⟨h62_, h63_⟩⟩
            refine ⟨(la_rowWays_14 h62_), ?_⟩
            intro h64_
            refine ⟨?_, ?_⟩
            · skip
              intro h65_
              refine ⟨⟨h6_, ⟨h7_, ⟨h8_, ⟨h9_, ⟨h10_, ⟨h11_, ⟨h12_, ⟨h13_, ⟨h14_, ⟨h15_, ⟨h16_, ⟨h17_, (la_rowWays_15 h7_ h8_ h18_ h19_ h34_ h39_)⟩⟩⟩⟩⟩⟩⟩⟩⟩⟩⟩⟩, ?_⟩
              intro r60
              intro h66_
              rintro ⟨h67_, h68_⟩
              obtain ⟨h69_, h70_⟩ := (h67_ la_rowWays_10)
              refine ⟨(la_rowWays_16 h69_ h70_), ?_⟩
              intro g62
              intro h71_
              refine ⟨(la_rowWays_17 h7_ h34_ h39_), ?_⟩
              refine ⟨⟨(la_rowWays_18 h34_), ⟨(la_rowWays_19 h39_), ⟨h36_, (la_rowWays_20 h63_ h71_)⟩⟩⟩, ?_⟩
              exact la_rowWays_21
            intro h72_
            refine ⟨?_, ?_⟩
            · skip
              intro h73_
              refine ⟨⟨h6_, ⟨h7_, ⟨h8_, ⟨h9_, ⟨h10_, ⟨h11_, ⟨h12_, ⟨h13_, ⟨h14_, ⟨h15_, ⟨h16_, ⟨h17_, (la_rowWays_22 h7_ h8_ h18_ h19_ h34_ h39_ h72_ h73_)⟩⟩⟩⟩⟩⟩⟩⟩⟩⟩⟩⟩, ?_⟩
              intro r75
              intro h74_
              rintro ⟨h75_, h76_⟩
              obtain ⟨h77_, h78_⟩ := (h75_ la_rowWays_10)
              refine ⟨?_, ?_⟩
              · skip
                intro h79_
                refine ⟨(la_rowWays_23 h27_ h28_ h77_ h78_), ?_⟩
                intro g77
                intro h80_
                refine ⟨(la_rowWays_16 h77_ h78_), ?_⟩
                intro g85
                intro h81_
                refine ⟨(la_rowWays_24 h9_ h61_ h72_), ?_⟩
                refine ⟨(la_rowWays_25 h8_ h63_ h72_ h73_ h80_ h81_), ?_⟩
                exact la_rowWays_26
              intro h82_
              refine ⟨(la_rowWays_29 h25_ h26_ h77_ h78_), ?_⟩
              intro r98
              intro h83_
              intro g94
              rintro ⟨h84_, ⟨h85_, h86_⟩⟩
              have h87_ := (h84_ (la_rowWays_30 h77_))
              refine ⟨(la_rowWays_24 h9_ h61_ h72_), ?_⟩
              refine ⟨(la_rowWays_32 h8_ h63_ h72_ h73_ h87_), ?_⟩
              exact la_rowWays_26
            intro h88_
            refine ⟨(la_rowWays_33 h9_ h61_ h88_), ?_⟩
            rintro ⟨h89_, h90_⟩
            refine ⟨?_, ?_⟩
            · skip
              intro h91_
              refine ⟨⟨h6_, ⟨h7_, ⟨h8_, ⟨h9_, ⟨h10_, ⟨h11_, ⟨h12_, ⟨h13_, ⟨h14_, ⟨h15_, ⟨h16_, ⟨h17_, (la_rowWays_34 h7_ h18_ h19_ h34_ h39_ h61_ h88_)⟩⟩⟩⟩⟩⟩⟩⟩⟩⟩⟩⟩, ?_⟩
              intro r110
              intro h92_
              rintro ⟨h93_, h94_⟩
              obtain ⟨h95_, h96_⟩ := (h93_ la_rowWays_10)
              refine ⟨?_, ?_⟩
              · skip
                intro h97_
                refine ⟨(la_rowWays_23 h27_ h28_ h95_ h96_), ?_⟩
                intro g112
                intro h98_
                refine ⟨(la_rowWays_16 h95_ h96_), ?_⟩
                intro g120
                intro h99_
                refine ⟨(la_rowWays_35 h9_ h61_ h88_), ?_⟩
                refine ⟨(la_rowWays_36 h61_ h63_ h88_ h98_ h99_), ?_⟩
                exact la_rowWays_26
              intro h100_
              refine ⟨(la_rowWays_29 h25_ h26_ h95_ h96_), ?_⟩
              intro r133
              intro h101_
              intro g129
              rintro ⟨h102_, ⟨h103_, h104_⟩⟩
              have h105_ := (h102_ (la_rowWays_30 h95_))
              refine ⟨(la_rowWays_35 h9_ h61_ h88_), ?_⟩
              refine ⟨(la_rowWays_37 h61_ h63_ h88_ h105_), ?_⟩
              exact la_rowWays_26
            intro h106_
            refine ⟨(la_rowWays_38 h9_ h61_ h63_ h88_), ?_⟩
            intro h107_
            rintro ⟨h108_, h109_⟩
            refine ⟨?_, ?_⟩
            · skip
              intro h110_
              refine ⟨⟨h6_, ⟨h7_, ⟨h8_, ⟨h9_, ⟨h10_, ⟨h11_, ⟨h12_, ⟨h13_, ⟨h14_, ⟨h15_, ⟨h16_, ⟨h17_, (la_rowWays_34 h7_ h18_ h19_ h34_ h39_ h61_ h88_)⟩⟩⟩⟩⟩⟩⟩⟩⟩⟩⟩⟩, ?_⟩
              intro r145
              intro h111_
              rintro ⟨h112_, h113_⟩
              obtain ⟨h114_, h115_⟩ := (h112_ la_rowWays_10)
              refine ⟨?_, ?_⟩
              · skip
                intro h116_
                refine ⟨(la_rowWays_23 h27_ h28_ h114_ h115_), ?_⟩
                intro g147
                intro h117_
                refine ⟨(la_rowWays_16 h114_ h115_), ?_⟩
                intro g155
                intro h118_
                refine ⟨(la_rowWays_35 h9_ h61_ h88_), ?_⟩
                refine ⟨(la_rowWays_36 h61_ h63_ h88_ h117_ h118_), ?_⟩
                exact la_rowWays_26
              intro h119_
              refine ⟨(la_rowWays_29 h25_ h26_ h114_ h115_), ?_⟩
              intro r168
              intro h120_
              intro g164
              rintro ⟨h121_, ⟨h122_, h123_⟩⟩
              have h124_ := (h121_ (la_rowWays_30 h114_))
              refine ⟨(la_rowWays_35 h9_ h61_ h88_), ?_⟩
              refine ⟨(la_rowWays_37 h61_ h63_ h88_ h124_), ?_⟩
              exact la_rowWays_26
            intro h125_
            refine ⟨(la_rowWays_35 h9_ h61_ h88_), ?_⟩
            refine ⟨(la_rowWays_39 h61_ h63_ h88_), ?_⟩
            exact la_rowWays_26
          intro h126_
          refine ⟨(la_rowWays_17 h7_ h34_ h39_), ?_⟩
          refine ⟨⟨(la_rowWays_18 h34_), ⟨(la_rowWays_19 h39_), ⟨h36_, (la_rowWays_20 h37_ h52_)⟩⟩⟩, ?_⟩
          exact la_rowWays_21
        intro h127_
        refine ⟨(la_rowWays_8 h27_ h28_), ?_⟩
        intro g176
        intro h128_
        refine ⟨⟨h6_, ⟨h7_, ⟨h8_, ⟨h9_, ⟨h10_, ⟨h11_, ⟨h12_, ⟨h13_, ⟨h14_, ⟨h15_, ⟨h16_, ⟨h17_, (la_rowWays_9 h7_ h18_ h19_ h34_ h39_)⟩⟩⟩⟩⟩⟩⟩⟩⟩⟩⟩⟩, ?_⟩
        intro r187
        intro h129_
        rintro ⟨h130_, h131_⟩
        have h132_ := (h130_ la_rowWays_10)
        refine ⟨(la_rowWays_12 h7_ h34_ h39_ h132_), ?_⟩
        rintro ⟨h133_, h134_⟩
        refine ⟨?_, ?_⟩
        · skip
          intro h135_
          refine ⟨(la_rowWays_13 h8_ h37_ h128_), ?_⟩
          intro l7_191
          intro h136_
          intro g190
          rintro ⟨h137_, ⟨h138_, h139_⟩⟩
          refine ⟨(la_rowWays_14 h138_), ?_⟩
          intro h140_
          refine ⟨?_, ?_⟩
          · skip
            intro h141_
            refine ⟨⟨h6_, ⟨h7_, ⟨h8_, ⟨h9_, ⟨h10_, ⟨h11_, ⟨h12_, ⟨h13_, ⟨h14_, ⟨h15_, ⟨h16_, ⟨h17_, (la_rowWays_15 h7_ h8_ h18_ h19_ h34_ h39_)⟩⟩⟩⟩⟩⟩⟩⟩⟩⟩⟩⟩, ?_⟩
            intro r204
            intro h142_
            rintro ⟨h143_, h144_⟩
            obtain ⟨h145_, h146_⟩ := (h143_ la_rowWays_10)
            refine ⟨(la_rowWays_16 h145_ h146_), ?_⟩
            intro g206
            intro h147_
            refine ⟨(la_rowWays_17 h7_ h34_ h39_), ?_⟩
            refine ⟨⟨(la_rowWays_18 h34_), ⟨(la_rowWays_19 h39_), ⟨h36_, (la_rowWays_20 h139_ h147_)⟩⟩⟩, ?_⟩
            exact la_rowWays_21
          intro h148_
          refine ⟨?_, ?_⟩
          · skip
            intro h149_
            refine ⟨⟨h6_, ⟨h7_, ⟨h8_, ⟨h9_, ⟨h10_, ⟨h11_, ⟨h12_, ⟨h13_, ⟨h14_, ⟨h15_, ⟨h16_, ⟨h17_, (la_rowWays_22 h7_ h8_ h18_ h19_ h34_ h39_ h148_ h149_)⟩⟩⟩⟩⟩⟩⟩⟩⟩⟩⟩⟩, ?_⟩
            intro r219
            intro h150_
            rintro ⟨h151_, h152_⟩
            obtain ⟨h153_, h154_⟩ := (h151_ la_rowWays_10)
            refine ⟨?_, ?_⟩
            · skip
              intro h155_
              refine ⟨(la_rowWays_23 h27_ h28_ h153_ h154_), ?_⟩
              intro g221
              intro h156_
              refine ⟨(la_rowWays_16 h153_ h154_), ?_⟩
              intro g229
              intro h157_
              refine ⟨(la_rowWays_24 h9_ h137_ h148_), ?_⟩
              refine ⟨(la_rowWays_25 h8_ h139_ h148_ h149_ h156_ h157_), ?_⟩
              exact la_rowWays_26
            intro h158_
            refine ⟨(la_rowWays_29 h25_ h26_ h153_ h154_), ?_⟩
            intro r242
            intro h159_
            intro g238
            rintro ⟨h160_, ⟨h161_, h162_⟩⟩
            have h163_ := (h160_ (la_rowWays_30 h153_))
            refine ⟨(la_rowWays_24 h9_ h137_ h148_), ?_⟩
            refine ⟨(la_rowWays_32 h8_ h139_ h148_ h149_ h163_), ?_⟩
            exact la_rowWays_26
          intro h164_
          refine ⟨(la_rowWays_33 h9_ h137_ h164_), ?_⟩
          rintro ⟨h165_, h166_⟩
          refine ⟨?_, ?_⟩
          · skip
            intro h167_
            refine ⟨⟨h6_, ⟨h7_, ⟨h8_, ⟨h9_, ⟨h10_, ⟨h11_, ⟨h12_, ⟨h13_, ⟨h14_, ⟨h15_, ⟨h16_, ⟨h17_, (la_rowWays_34 h7_ h18_ h19_ h34_ h39_ h137_ h164_)⟩⟩⟩⟩⟩⟩⟩⟩⟩⟩⟩⟩, ?_⟩
            intro r254
            intro h168_
            rintro ⟨h169_, h170_⟩
            obtain ⟨h171_, h172_⟩ := (h169_ la_rowWays_10)
            refine ⟨?_, ?_⟩
            · skip
              intro h173_
              refine ⟨(la_rowWays_23 h27_ h28_ h171_ h172_), ?_⟩
              intro g256
              intro h174_
              refine ⟨(la_rowWays_16 h171_ h172_), ?_⟩
              intro g264
              intro h175_
              refine ⟨(la_rowWays_35 h9_ h137_ h164_), ?_⟩
              refine ⟨(la_rowWays_36 h137_ h139_ h164_ h174_ h175_), ?_⟩
              exact la_rowWays_26
            intro h176_
            refine ⟨(la_rowWays_29 h25_ h26_ h171_ h172_), ?_⟩
            intro r277
            intro h177_
            intro g273
            rintro ⟨h178_, ⟨h179_, h180_⟩⟩
            have h181_ := (h178_ (la_rowWays_30 h171_))
            refine ⟨(la_rowWays_35 h9_ h137_ h164_), ?_⟩
            refine ⟨(la_rowWays_37 h137_ h139_ h164_ h181_), ?_⟩
            exact la_rowWays_26
          intro h182_
          refine ⟨(la_rowWays_40 h9_ h127_ h137_ h164_), ?_⟩
          intro h183_
          rintro ⟨h184_, h185_⟩
          refine ⟨?_, ?_⟩
          · skip
            intro h186_
            refine ⟨⟨h6_, ⟨h7_, ⟨h8_, ⟨h9_, ⟨h10_, ⟨h11_, ⟨h12_, ⟨h13_, ⟨h14_, ⟨h15_, ⟨h16_, ⟨h17_, (la_rowWays_34 h7_ h18_ h19_ h34_ h39_ h137_ h164_)⟩⟩⟩⟩⟩⟩⟩⟩⟩⟩⟩⟩, ?_⟩
            intro r289
            intro h187_
            rintro ⟨h188_, h189_⟩
            obtain ⟨h190_, h191_⟩ := (h188_ la_rowWays_10)
            refine ⟨?_, ?_⟩
            · skip
              intro h192_
              refine ⟨(la_rowWays_23 h27_ h28_ h190_ h191_), ?_⟩
              intro g291
              intro h193_
              refine ⟨(la_rowWays_16 h190_ h191_), ?_⟩
              intro g299
              intro h194_
              refine ⟨(la_rowWays_35 h9_ h137_ h164_), ?_⟩
              refine ⟨(la_rowWays_36 h137_ h139_ h164_ h193_ h194_), ?_⟩
              exact la_rowWays_26
            intro h195_
            refine ⟨(la_rowWays_29 h25_ h26_ h190_ h191_), ?_⟩
            intro r312
            intro h196_
            intro g308
            rintro ⟨h197_, ⟨h198_, h199_⟩⟩
            have h200_ := (h197_ (la_rowWays_30 h190_))
            refine ⟨(la_rowWays_35 h9_ h137_ h164_), ?_⟩
            refine ⟨(la_rowWays_37 h137_ h139_ h164_ h200_), ?_⟩
            exact la_rowWays_26
          intro h201_
          refine ⟨(la_rowWays_35 h9_ h137_ h164_), ?_⟩
          refine ⟨(la_rowWays_39 h137_ h139_ h164_), ?_⟩
          exact la_rowWays_26
        intro h202_
        refine ⟨(la_rowWays_17 h7_ h34_ h39_), ?_⟩
        refine ⟨⟨(la_rowWays_18 h34_), ⟨(la_rowWays_19 h39_), ⟨h36_, (la_rowWays_20 h37_ h128_)⟩⟩⟩, ?_⟩
        exact la_rowWays_21
      intro h203_
      have h204_ := (h48_.resolve_right (la_rowWays_41 h203_))
      refine ⟨(la_rowWays_17 h7_ h34_ h39_), ?_⟩
      refine ⟨(la_rowWays_42 h34_ h37_ h39_), ?_⟩
      exact la_rowWays_21
    intro h205_
    have h206_ := (h44_.resolve_right (la_rowWays_41 h205_))
    refine ⟨(la_rowWays_17 h7_ h34_ h39_), ?_⟩
    refine ⟨⟨(la_rowWays_18 h34_), ⟨(la_rowWays_19 h39_), ⟨h36_, h37_⟩⟩⟩, ?_⟩
    exact la_rowWays_21
  intro h207_
  refine ⟨(la_rowWays_43 h6_), ?_⟩
  intro l5_322
  intro h208_
  intro l6_323
  intro h209_
  intro g321
  rintro ⟨h210_, ⟨h211_, ⟨h212_, h213_⟩⟩⟩
  refine ⟨(la_rowWays_2 h211_), ?_⟩
  intro h214_
  refine ⟨(la_rowWays_3 h212_ h213_), ?_⟩
  intro h215_
  intro h216_
  intro h217_
  refine ⟨(la_rowWays_4 h7_ h210_ h215_), ?_⟩
  intro r338
  intro h218_
  rintro ⟨h219_, h220_⟩
  refine ⟨?_, ?_⟩
  · skip
    intro h221_
    have h222_ := (h220_.resolve_left h221_)
    refine ⟨⟨h6_, ⟨h7_, ⟨h8_, ⟨h9_, ⟨h10_, ⟨h11_, ⟨h12_, ⟨h13_, ⟨h14_, ⟨h15_, ⟨h16_, ⟨h17_, (la_rowWays_7 h18_ h19_ h210_ h215_)⟩⟩⟩⟩⟩⟩⟩⟩⟩⟩⟩⟩, ?_⟩
    intro r344
    intro h223_
    intro h224_
    refine ⟨?_, ?_⟩
    · skip
      intro h225_
      have h226_ := (h224_.resolve_left h225_)
      refine ⟨?_, ?_⟩
      · skip
        intro h227_
        refine ⟨(la_rowWays_8 h27_ h28_), ?_⟩
        intro g346
        intro h228_
        refine ⟨⟨h6_, ⟨h7_, ⟨h8_, ⟨h9_, ⟨h10_, ⟨h11_, ⟨h12_, ⟨h13_, ⟨h14_, ⟨h15_, ⟨h16_, ⟨h17_, (la_rowWays_9 h7_ h18_ h19_ h210_ h215_)⟩⟩⟩⟩⟩⟩⟩⟩⟩⟩⟩⟩, ?_⟩
        intro r357
        intro h229_
        rintro ⟨h230_, h231_⟩
        have h232_ := (h230_ la_rowWays_10)
        refine ⟨(la_rowWays_12 h7_ h210_ h215_ h232_), ?_⟩
        rintro ⟨h233_, h234_⟩
        refine ⟨?_, ?_⟩
        · skip
          intro h235_
          refine ⟨(la_rowWays_13 h8_ h213_ h228_), ?_⟩
          intro l7_361
          intro h236_
          intro g360
          rintro ⟨h237_, ⟨h238_, h239_⟩⟩
          refine ⟨(la_rowWays_14 h238_), ?_⟩
          intro h240_
          refine ⟨?_, ?_⟩
          · skip
            intro h241_
            refine ⟨⟨h6_, ⟨h7_, ⟨h8_, ⟨h9_, ⟨h10_, ⟨h11_, ⟨h12_, ⟨h13_, ⟨h14_, ⟨h15_, ⟨h16_, ⟨h17_, (la_rowWays_15 h7_ h8_ h18_ h19_ h210_ h215_)⟩⟩⟩⟩⟩⟩⟩⟩⟩⟩⟩⟩, ?_⟩
            intro r374
            intro h242_
            rintro ⟨h243_, h244_⟩
            obtain ⟨h245_, h246_⟩ := (h243_ la_rowWays_10)
            refine ⟨(la_rowWays_16 h245_ h246_), ?_⟩
            intro g376
            intro h247_
            refine ⟨(la_rowWays_17 h7_ h210_ h215_), ?_⟩
            refine ⟨⟨(la_rowWays_18 h210_), ⟨(la_rowWays_19 h215_), ⟨h212_, (la_rowWays_20 h239_ h247_)⟩⟩⟩, ?_⟩
            exact la_rowWays_21
          intro h248_
          refine ⟨?_, ?_⟩
          · skip
            intro h249_
            refine ⟨⟨h6_, ⟨h7_, ⟨h8_, ⟨h9_, ⟨h10_, ⟨h11_, ⟨h12_, ⟨h13_, ⟨h14_, ⟨h15_, ⟨h16_, ⟨h17_, (la_rowWays_22 h7_ h8_ h18_ h19_ h210_ h215_ h248_ h249_)⟩⟩⟩⟩⟩⟩⟩⟩⟩⟩⟩⟩, ?_⟩
            intro r389
            intro h250_
            rintro ⟨h251_, h252_⟩
            obtain ⟨h253_, h254_⟩ := (h251_ la_rowWays_10)
            refine ⟨?_, ?_⟩
            · skip
              intro h255_
              refine ⟨(la_rowWays_23 h27_ h28_ h253_ h254_), ?_⟩
              intro g391
              intro h256_
              refine ⟨(la_rowWays_16 h253_ h254_), ?_⟩
              intro g399
              intro h257_
              refine ⟨(la_rowWays_24 h9_ h237_ h248_), ?_⟩
              refine ⟨(la_rowWays_25 h8_ h239_ h248_ h249_ h256_ h257_), ?_⟩
              exact la_rowWays_26
            intro h258_
            refine ⟨(la_rowWays_29 h25_ h26_ h253_ h254_), ?_⟩
            intro r412
            intro h259_
            intro g408
            rintro ⟨h260_, ⟨h261_, h262_⟩⟩
            have h263_ := (h260_ (la_rowWays_30 h253_))
            refine ⟨(la_rowWays_24 h9_ h237_ h248_), ?_⟩
            refine ⟨(la_rowWays_32 h8_ h239_ h248_ h249_ h263_), ?_⟩
            exact la_rowWays_26
          intro h264_
          refine ⟨(la_rowWays_33 h9_ h237_ h264_), ?_⟩
          rintro ⟨h265_, h266_⟩
          refine ⟨?_, ?_⟩
          · skip
            intro h267_
            refine ⟨⟨h6_, ⟨h7_, ⟨h8_, ⟨h9_, ⟨h10_, ⟨h11_, ⟨h12_, ⟨h13_, ⟨h14_, ⟨h15_, ⟨h16_, ⟨h17_, (la_rowWays_34 h7_ h18_ h19_ h210_ h215_ h237_ h264_)⟩⟩⟩⟩⟩⟩⟩⟩⟩⟩⟩⟩, ?_⟩
            intro r424
            intro h268_
            rintro ⟨h269_, h270_⟩
            obtain ⟨h271_, h272_⟩ := (h269_ la_rowWays_10)
            refine ⟨?_, ?_⟩
            · skip
              intro h273_
              refine ⟨(la_rowWays_23 h27_ h28_ h271_ h272_), ?_⟩
              intro g426
              intro h274_
              refine ⟨(la_rowWays_16 h271_ h272_), ?_⟩
              intro g434
              intro h275_
              refine ⟨(la_rowWays_35 h9_ h237_ h264_), ?_⟩
              refine ⟨(la_rowWays_36 h237_ h239_ h264_ h274_ h275_), ?_⟩
              exact la_rowWays_26
            intro h276_
            refine ⟨(la_rowWays_29 h25_ h26_ h271_ h272_), ?_⟩
            intro r447
            intro h277_
            intro g443
            rintro ⟨h278_, ⟨h279_, h280_⟩⟩
            have h281_ := (h278_ (la_rowWays_30 h271_))
            refine ⟨(la_rowWays_35 h9_ h237_ h264_), ?_⟩
            refine ⟨(la_rowWays_37 h237_ h239_ h264_ h281_), ?_⟩
            exact la_rowWays_26
          intro h282_
          refine ⟨(la_rowWays_38 h9_ h237_ h239_ h264_), ?_⟩
          intro h283_
          rintro ⟨h284_, h285_⟩
          refine ⟨?_, ?_⟩
          · skip
            intro h286_
            refine ⟨⟨h6_, ⟨h7_, ⟨h8_, ⟨h9_, ⟨h10_, ⟨h11_, ⟨h12_, ⟨h13_, ⟨h14_, ⟨h15_, ⟨h16_, ⟨h17_, (la_rowWays_34 h7_ h18_ h19_ h210_ h215_ h237_ h264_)⟩⟩⟩⟩⟩⟩⟩⟩⟩⟩⟩⟩, ?_⟩
            intro r459
            intro h287_
            rintro ⟨h288_, h289_⟩
            obtain ⟨h290_, h291_⟩ := (h288_ la_rowWays_10)
            refine ⟨?_, ?_⟩
            · skip
              intro h292_
              refine ⟨(la_rowWays_23 h27_ h28_ h290_ h291_), ?_⟩
              intro g461
              intro h293_
              refine ⟨(la_rowWays_16 h290_ h291_), ?_⟩
              intro g469
              intro h294_
              refine ⟨(la_rowWays_35 h9_ h237_ h264_), ?_⟩
              refine ⟨(la_rowWays_36 h237_ h239_ h264_ h293_ h294_), ?_⟩
              exact la_rowWays_26
            intro h295_
            refine ⟨(la_rowWays_29 h25_ h26_ h290_ h291_), ?_⟩
            intro r482
            intro h296_
            intro g478
            rintro ⟨h297_, ⟨h298_, h299_⟩⟩
            have h300_ := (h297_ (la_rowWays_30 h290_))
            refine ⟨(la_rowWays_35 h9_ h237_ h264_), ?_⟩
            refine ⟨(la_rowWays_37 h237_ h239_ h264_ h300_), ?_⟩
            exact la_rowWays_26
          intro h301_
          refine ⟨(la_rowWays_35 h9_ h237_ h264_), ?_⟩
          refine ⟨(la_rowWays_39 h237_ h239_ h264_), ?_⟩
          exact la_rowWays_26
        intro h302_
        refine ⟨(la_rowWays_17 h7_ h210_ h215_), ?_⟩
        refine ⟨⟨(la_rowWays_18 h210_), ⟨(la_rowWays_19 h215_), ⟨h212_, (la_rowWays_20 h213_ h228_)⟩⟩⟩, ?_⟩
        exact la_rowWays_21
      intro h303_
      refine ⟨(la_rowWays_8 h27_ h28_), ?_⟩
      intro g490
      intro h304_
      refine ⟨⟨h6_, ⟨h7_, ⟨h8_, ⟨h9_, ⟨h10_, ⟨h11_, ⟨h12_, ⟨h13_, ⟨h14_, ⟨h15_, ⟨h16_, ⟨h17_, (la_rowWays_9 h7_ h18_ h19_ h210_ h215_)⟩⟩⟩⟩⟩⟩⟩⟩⟩⟩⟩⟩, ?_⟩
      intro r501
      intro h305_
      rintro ⟨h306_, h307_⟩
      have h308_ := (h306_ la_rowWays_10)
      refine ⟨(la_rowWays_12 h7_ h210_ h215_ h308_), ?_⟩
      rintro ⟨h309_, h310_⟩
      refine ⟨?_, ?_⟩
      · skip
        intro h311_
        refine ⟨(la_rowWays_13 h8_ h213_ h304_), ?_⟩
        intro l7_505
        intro h312_
        intro g504
        rintro ⟨h313_, ⟨h314_, h315_⟩⟩
        refine ⟨(la_rowWays_14 h314_), ?_⟩
        intro h316_
        refine ⟨?_, ?_⟩
        · skip
          intro h317_
          refine ⟨⟨h6_, ⟨h7_, ⟨h8_, ⟨h9_, ⟨h10_, ⟨h11_, ⟨h12_, ⟨h13_, ⟨h14_, ⟨h15_, ⟨h16_, ⟨h17_, (la_rowWays_15 h7_ h8_ h18_ h19_ h210_ h215_)⟩⟩⟩⟩⟩⟩⟩⟩⟩⟩⟩⟩, ?_⟩
          intro r518
          intro h318_
          rintro ⟨h319_, h320_⟩
          obtain ⟨h321_, h322_⟩ := (h319_ la_rowWays_10)
          refine ⟨(la_rowWays_16 h321_ h322_), ?_⟩
          intro g520
          intro h323_
          refine ⟨(la_rowWays_17 h7_ h210_ h215_), ?_⟩
          refine ⟨⟨(la_rowWays_18 h210_), ⟨(la_rowWays_19 h215_), ⟨h212_, (la_rowWays_20 h315_ h323_)⟩⟩⟩, ?_⟩
          exact la_rowWays_21
        intro h324_
        refine ⟨?_, ?_⟩
        · skip
          intro h325_
          refine ⟨⟨h6_, ⟨h7_, ⟨h8_, ⟨h9_, ⟨h10_, ⟨h11_, ⟨h12_, ⟨h13_, ⟨h14_, ⟨h15_, ⟨h16_, ⟨h17_, (la_rowWays_22 h7_ h8_ h18_ h19_ h210_ h215_ h324_ h325_)⟩⟩⟩⟩⟩⟩⟩⟩⟩⟩⟩⟩, ?_⟩
          intro r533
          intro h326_
          rintro ⟨h327_, h328_⟩
          obtain ⟨h329_, h330_⟩ := (h327_ la_rowWays_10)
          refine ⟨?_, ?_⟩
          · skip
            intro h331_
            refine ⟨(la_rowWays_23 h27_ h28_ h329_ h330_), ?_⟩
            intro g535
            intro h332_
            refine ⟨(la_rowWays_16 h329_ h330_), ?_⟩
            intro g543
            intro h333_
            refine ⟨(la_rowWays_24 h9_ h313_ h324_), ?_⟩
            refine ⟨(la_rowWays_25 h8_ h315_ h324_ h325_ h332_ h333_), ?_⟩
            exact la_rowWays_26
          intro h334_
          refine ⟨(la_rowWays_29 h25_ h26_ h329_ h330_), ?_⟩
          intro r556
          intro h335_
          intro g552
          rintro ⟨h336_, ⟨h337_, h338_⟩⟩
          have h339_ := (h336_ (la_rowWays_30 h329_))
          refine ⟨(la_rowWays_24 h9_ h313_ h324_), ?_⟩
          refine ⟨(la_rowWays_32 h8_ h315_ h324_ h325_ h339_), ?_⟩
          exact la_rowWays_26
        intro h340_
        refine ⟨(la_rowWays_33 h9_ h313_ h340_), ?_⟩
        rintro ⟨h341_, h342_⟩
        refine ⟨?_, ?_⟩
        · skip
          intro h343_
          refine ⟨⟨h6_, ⟨h7_, ⟨h8_, ⟨h9_, ⟨h10_, ⟨h11_, ⟨h12_, ⟨h13_, ⟨h14_, ⟨h15_, ⟨h16_, ⟨h17_, (la_rowWays_34 h7_ h18_ h19_ h210_ h215_ h313_ h340_)⟩⟩⟩⟩⟩⟩⟩⟩⟩⟩⟩⟩, ?_⟩
          intro r568
          intro h344_
          rintro ⟨h345_, h346_⟩
          obtain ⟨h347_, h348_⟩ := (h345_ la_rowWays_10)
          refine ⟨?_, ?_⟩
          · skip
            intro h349_
            refine ⟨(la_rowWays_23 h27_ h28_ h347_ h348_), ?_⟩
            intro g570
            intro h350_
            refine ⟨(la_rowWays_16 h347_ h348_), ?_⟩
            intro g578
            intro h351_
            refine ⟨(la_rowWays_35 h9_ h313_ h340_), ?_⟩
            refine ⟨(la_rowWays_36 h313_ h315_ h340_ h350_ h351_), ?_⟩
            exact la_rowWays_26
          intro h352_
          refine ⟨(la_rowWays_29 h25_ h26_ h347_ h348_), ?_⟩
          intro r591
          intro h353_
          intro g587
          rintro ⟨h354_, ⟨h355_, h356_⟩⟩
          have h357_ := (h354_ (la_rowWays_30 h347_))
          refine ⟨(la_rowWays_35 h9_ h313_ h340_), ?_⟩
          refine ⟨(la_rowWays_37 h313_ h315_ h340_ h357_), ?_⟩
          exact la_rowWays_26
        intro h358_
        refine ⟨(la_rowWays_40 h9_ h303_ h313_ h340_), ?_⟩
        intro h359_
        rintro ⟨h360_, h361_⟩
        refine ⟨?_, ?_⟩
        · skip
          intro h362_
          refine ⟨⟨h6_, ⟨h7_, ⟨h8_, ⟨h9_, ⟨h10_, ⟨h11_, ⟨h12_, ⟨h13_, ⟨h14_, ⟨h15_, ⟨h16_, ⟨h17_, (la_rowWays_34 h7_ h18_ h19_ h210_ h215_ h313_ h340_)⟩⟩⟩⟩⟩⟩⟩⟩⟩⟩⟩⟩, ?_⟩
          intro r603
          intro h363_
          rintro ⟨h364_, h365_⟩
          obtain ⟨h366_, h367_⟩ := (h364_ la_rowWays_10)
          refine ⟨?_, ?_⟩
          · skip
            intro h368_
            refine ⟨(la_rowWays_23 h27_ h28_ h366_ h367_), ?_⟩
            intro g605
            intro h369_
            refine ⟨(la_rowWays_16 h366_ h367_), ?_⟩
            intro g613
            intro h370_
            refine ⟨(la_rowWays_35 h9_ h313_ h340_), ?_⟩
            refine ⟨(la_rowWays_36 h313_ h315_ h340_ h369_ h370_), ?_⟩
            exact la_rowWays_26
          intro h371_
          refine ⟨(la_rowWays_29 h25_ h26_ h366_ h367_), ?_⟩
          intro r626
          intro h372_
          intro g622
          rintro ⟨h373_, ⟨h374_, h375_⟩⟩
          have h376_ := (h373_ (la_rowWays_30 h366_))
          refine ⟨(la_rowWays_35 h9_ h313_ h340_), ?_⟩
          refine ⟨(la_rowWays_37 h313_ h315_ h340_ h376_), ?_⟩
          exact la_rowWays_26
        intro h377_
        refine ⟨(la_rowWays_35 h9_ h313_ h340_), ?_⟩
        refine ⟨(la_rowWays_39 h313_ h315_ h340_), ?_⟩
        exact la_rowWays_26
      intro h378_
      refine ⟨(la_rowWays_17 h7_ h210_ h215_), ?_⟩
      refine ⟨⟨(la_rowWays_18 h210_), ⟨(la_rowWays_19 h215_), ⟨h212_, (la_rowWays_20 h213_ h304_)⟩⟩⟩, ?_⟩
      exact la_rowWays_21
    intro h379_
    have h380_ := (h224_.resolve_right (la_rowWays_41 h379_))
    refine ⟨(la_rowWays_17 h7_ h210_ h215_), ?_⟩
    refine ⟨(la_rowWays_42 h210_ h213_ h215_), ?_⟩
    exact la_rowWays_21
  intro h381_
  have h382_ := (h220_.resolve_right (la_rowWays_41 h381_))
  refine ⟨(la_rowWays_17 h7_ h210_ h215_), ?_⟩
  refine ⟨⟨(la_rowWays_18 h210_), ⟨(la_rowWays_19 h215_), ⟨h212_, h213_⟩⟩⟩, ?_⟩
  exact la_rowWays_21
set_option maxRecDepth 8000 in
set_option maxHeartbeats 2000000 in
theorem t_rowWays : ∀ (p1 : Int) (p2 : Int) (p3 : Int) (p4 : Int) (S : sv_S), sm_ok S → sv_R p1 → sv_R p2 → sv_R p3 → sv_R p4 → (29 ≤ (S 1071 0) ∧ (S 1071 0) ≤ 127 ∧ 31 ≤ (S 1008 0) ∧ (S 1008 0) ≤ 90 ∧ 1 ≤ (S 1032 0) ∧ (S 1032 0) ≤ 11 ∧ 0 ≤ (S 1055 0) ∧ (S 1055 0) ≤ 19 ∧ (S 1071 0) = 29 + 6 * ((S 1032 0) - 1) + 2 * (S 1055 0) ∧ 0 ≤ (S 1046 0) ∧ (S 1046 0) + 2 * (S 1032 0) ≤ 500 ∧ sm_PD (S 1046 0) (S 1032 0) (S 1071 0) (S 1008 0) ∧ 0 ≤ (S 1071 0) * ((S 1008 0) + 1) ∧ (S 1071 0) * ((S 1008 0) + 1) ≤ 11557 ∧ 31 ≤ (S 1007 0) ∧ (S 1007 0) ≤ 400 ∧ sm_LN (S 4) 400 (S 1007 0) ∧ 0 ≤ p2 ∧ p2 < 647800 ∧ 0 ≤ p3 ∧ p3 < 647800 ∧ 635639 ≤ p4 ∧ p4 < 647790) → sv_T sm_XS sm_cs sm_L sm_sh 3 (q_rowWays p1 p2 p3 p4 S) 289 0 (lv_args 0 [.ref 0, sv_I p1, sv_I p2, sv_I p3, sv_I p4]) [] S := by
  intro p1 p2 p3 p4 S hok hp1 hp2 hp3 hp4 hpre
  have h := f_rowWays p1 p2 p3 p4 S hok hp1 hp2 hp3 hp4 hpre
  have hM := sm_h289
  show sv_T sm_XS sm_cs sm_L sm_sh 3 (q_rowWays p1 p2 p3 p4 S) 289 0 [(0, .ref 0), (1, sv_I p1), (2, sv_I p2), (3, sv_I p3), (4, sv_I p4)] [] S
  refine sv_aload_n hM dX12_rowWays_0 rfl rfl ?_
  refine sv_iload_n hM dX12_rowWays_1 rfl rfl ?_
  obtain ⟨o1, h⟩ := h
  refine sv_callV hM dX12_rowWays_2 sm_iv_1059 (by decide) (sm_a0 _) rfl rfl (Nat.le_of_ble_eq_true rfl) sm_h210 (Nat.le_of_ble_eq_true rfl) (Nat.le_of_ble_eq_true rfl) (F' := 1) (Nat.le_of_ble_eq_true rfl) rfl (t_plainly p2 S hok hp2 o1) (fun v S1 hq => ?_)
  obtain ⟨r6, rfl, hr6, ok3, md4, hpo5⟩ := hq
  obtain rfl : S = S1 := (funext fun j => md4 j (by intro q; cases q)).symm
  show sv_T sm_XS sm_cs sm_L sm_sh 3 (q_rowWays p1 p2 p3 p4 S) 289 5 [(0, .ref 0), (1, sv_I p1), (2, sv_I p2), (3, sv_I p3), (4, sv_I p4)] [sv_I r6] S
  have h := h r6 hr6 hpo5
  refine sv_cond_eq hM dX12_rowWays_5 hr6 (t := 12) rfl rfl (fun hc => ?_) (fun hc => ?_)
  · have h := h.1 (hc)
    refine sv_iconst (d := (0 : Int)) hM dX12_rowWays_12 rfl rfl ?_
    refine sv_istore hM dX12_rowWays_13 (by decide) rfl ?_
    show sv_T sm_XS sm_cs sm_L sm_sh 3 (q_rowWays p1 p2 p3 p4 S) 289 15 [(0, .ref 0), (1, sv_I p1), (2, sv_I p2), (3, sv_I p3), (4, sv_I p4), (5, sv_I (0 : Int))] [] S
    refine sv_iconst (d := (0 : Int)) hM dX12_rowWays_15 rfl rfl ?_
    refine sv_istore hM dX12_rowWays_16 (by decide) rfl ?_
    show sv_T sm_XS sm_cs sm_L sm_sh 3 (q_rowWays p1 p2 p3 p4 S) 289 18 [(0, .ref 0), (1, sv_I p1), (2, sv_I p2), (3, sv_I p3), (4, sv_I p4), (5, sv_I (0 : Int)), (6, sv_I (0 : Int))] [] S
    obtain ⟨hin11, h⟩ := h
    have hJ : ∀ a : Int × Int × sv_S, (sv_R a.1 ∧ sv_R a.2.1 ∧ sm_ok (sv_sts S [68, 69, 70] a.2.2) ∧ (0 ≤ a.2.1 ∧ a.2.1 ≤ (S 1071 0) ∧ (a.1 = 0 ∨ a.1 = 1) ∧ sm_pt (a.2.2 68) (a.2.2 69) (a.2.2 70) = sm_pt (S 68) (S 69) (S 70))) → sv_T sm_XS sm_cs sm_L sm_sh 3 (q_rowWays p1 p2 p3 p4 S) 289 18 [(0, .ref 0), (1, sv_I p1), (2, sv_I p2), (3, sv_I p3), (4, sv_I p4), (5, sv_I a.1), (6, sv_I a.2.1)] [] (sv_sts S [68, 69, 70] a.2.2) := by
      refine sv_loop (α := Int × Int × sv_S) (fun a => sv_R a.1 ∧ sv_R a.2.1 ∧ sm_ok (sv_sts S [68, 69, 70] a.2.2) ∧ (0 ≤ a.2.1 ∧ a.2.1 ≤ (S 1071 0) ∧ (a.1 = 0 ∨ a.1 = 1) ∧ sm_pt (a.2.2 68) (a.2.2 69) (a.2.2 70) = sm_pt (S 68) (S 69) (S 70))) (fun a => (S 1071 0) - a.2.1) (fun a => sv_T sm_XS sm_cs sm_L sm_sh 3 (q_rowWays p1 p2 p3 p4 S) 289 18 [(0, .ref 0), (1, sv_I p1), (2, sv_I p2), (3, sv_I p3), (4, sv_I p4), (5, sv_I a.1), (6, sv_I a.2.1)] [] (sv_sts S [68, 69, 70] a.2.2)) (fun a q => (h a.1 q.1 a.2.1 q.2.1 a.2.2 q.2.2.2).1) (fun a q ih10 => ?_)
      obtain ⟨l5_8, l6_9, g7⟩ := a
      obtain ⟨hl5_8, hl6_9, ok12, hin11i⟩ := q
      have h := (h l5_8 hl5_8 l6_9 hl6_9 g7 hin11i).2
      show sv_T sm_XS sm_cs sm_L sm_sh 3 (q_rowWays p1 p2 p3 p4 S) 289 18 [(0, .ref 0), (1, sv_I p1), (2, sv_I p2), (3, sv_I p3), (4, sv_I p4), (5, sv_I l5_8), (6, sv_I l6_9)] [] (sv_sts S [68, 69, 70] g7)
      have md13 : sv_mod [68, 69, 70] S (sv_sts S [68, 69, 70] g7) := sv_mod.sts sv_mod.rf (by decide)
      have md14 : sv_mod [68, 69, 70] S (sv_sts S [68, 69, 70] g7) := sv_mod.sts sv_mod.rf (by decide)
      refine sv_iload hM dX12_rowWays_18 rfl rfl ?_
      refine sv_aload_n hM dX12_rowWays_20 rfl rfl ?_
      have k15 : sv_R (S 1071 0) := sm_okI ok12 sm_r1071 0
      have h := h k15
      refine sv_getI hM dX12_rowWays_21 sm_fl_765 (sm_a0 _) sm_k71 rfl (x := (S 1071 0)) rfl ?_
      refine sv_icmp_ge hM dX12_rowWays_24 hl6_9 k15 (t := 229) rfl rfl (fun hc => ?_) (fun hc => ?_)
      · have h := h.1 (hc)
        refine sv_iload hM dX12_rowWays_229 rfl rfl ?_
        obtain ⟨o16, h⟩ := h
        exact sv_iret hM dX12_rowWays_231 rfl (sv_nz o16) ⟨l5_8, rfl, sv_R01 o16, ok12, md13, h⟩
      · have h := h.2 (hc)
        refine sv_aload_n hM dX12_rowWays_27 rfl rfl ?_
        refine sv_getA hM dX12_rowWays_28 sm_fl_220 (sm_a0 _) sm_k117 rfl ?_
        refine sv_iload_n hM dX12_rowWays_31 rfl rfl ?_
        have k17 : sv_RL (g7 69 p2) := sm_okJ ok12 sm_r69 p2
        have h := h k17
        refine sv_lald hM dX12_rowWays_32 (sm_a69 _) (by decide) o1.1 o1.2 rfl (x := (g7 69 p2)) rfl ?_
        refine sv_aload_n hM dX12_rowWays_33 rfl rfl ?_
        refine sv_getA hM dX12_rowWays_34 sm_fl_223 (sm_a0 _) sm_k118 rfl ?_
        refine sv_iload_n hM dX12_rowWays_37 rfl rfl ?_
        have k18 : sv_RL (g7 70 p2) := sm_okJ ok12 sm_r70 p2
        have h := h k18
        refine sv_lald hM dX12_rowWays_38 (sm_a70 _) (by decide) o1.1 o1.2 rfl (x := (g7 70 p2)) rfl ?_
        refine sv_iload hM dX12_rowWays_39 rfl rfl ?_
        obtain ⟨o19, h⟩ := h
        refine sv_callS hM dX12_rowWays_41 sm_iv_1125 (Nat.le_of_ble_eq_true rfl) rfl rfl (Nat.le_of_ble_eq_true rfl) sm_h217 (Nat.le_of_ble_eq_true rfl) (Nat.le_of_ble_eq_true rfl) (F' := 0) (Nat.le_of_ble_eq_true rfl) rfl (t_isIn (g7 69 p2) (g7 70 p2) l6_9 (sv_sts S [68, 69, 70] g7) ok12 k17 k18 hl6_9 o19) (fun v S1 hq => ?_)
        obtain ⟨r24, rfl, hr24, ok21, md22, hpo23⟩ := hq
        obtain rfl : (sv_sts S [68, 69, 70] g7) = S1 := (funext fun j => md22 j (by intro q; cases q)).symm
        show sv_T sm_XS sm_cs sm_L sm_sh 3 (q_rowWays p1 p2 p3 p4 S) 289 44 [(0, .ref 0), (1, sv_I p1), (2, sv_I p2), (3, sv_I p3), (4, sv_I p4), (5, sv_I l5_8), (6, sv_I l6_9)] [sv_I r24] (sv_sts S [68, 69, 70] g7)
        have h := h r24 hr24 hpo23
        refine sv_cond_ne hM dX12_rowWays_44 hr24 (t := 50) rfl rfl (fun hc => ?_) (fun hc => ?_)
        · have h := h.1 (hc)
          refine sv_aload_n hM dX12_rowWays_50 rfl rfl ?_
          refine sv_iload hM dX12_rowWays_51 rfl rfl ?_
          obtain ⟨o25, h⟩ := h
          refine sv_callV hM dX12_rowWays_53 sm_iv_1169 (by decide) (sm_a0 _) rfl rfl (Nat.le_of_ble_eq_true rfl) sm_h239 (Nat.le_of_ble_eq_true rfl) (Nat.le_of_ble_eq_true rfl) (F' := 0) (Nat.le_of_ble_eq_true rfl) rfl (t_isArrayLabel l6_9 (sv_sts S [68, 69, 70] g7) ok21 hl6_9 o25) (fun v S1 hq => ?_)
          obtain ⟨r30, rfl, hr30, ok27, md28, hpo29⟩ := hq
          obtain rfl : (sv_sts S [68, 69, 70] g7) = S1 := (funext fun j => md28 j (by intro q; cases q)).symm
          show sv_T sm_XS sm_cs sm_L sm_sh 3 (q_rowWays p1 p2 p3 p4 S) 289 56 [(0, .ref 0), (1, sv_I p1), (2, sv_I p2), (3, sv_I p3), (4, sv_I p4), (5, sv_I l5_8), (6, sv_I l6_9)] [sv_I r30] (sv_sts S [68, 69, 70] g7)
          have h := h r30 hr30 hpo29
          refine sv_cond_ne hM dX12_rowWays_56 hr30 (t := 65) rfl rfl (fun hc => ?_) (fun hc => ?_)
          · have h := h.1 (hc)
            refine sv_aload_n hM dX12_rowWays_65 rfl rfl ?_
            refine sv_iload hM dX12_rowWays_66 rfl rfl ?_
            refine sv_iload_n hM dX12_rowWays_68 rfl rfl ?_
            refine sv_bipush (d := (18 : Int)) hM dX12_rowWays_69 rfl rfl ?_
            refine sv_icmp_ne hM dX12_rowWays_71 hp1 (⟨by decide, by decide⟩ : sv_R (18 : Int)) (t := 79) rfl rfl (fun hc => ?_) (fun hc => ?_)
            · have h := h.1 (hc)
              refine sv_iconst (d := (1 : Int)) hM dX12_rowWays_79 rfl rfl ?_
              obtain ⟨o31, h⟩ := h
              refine sv_callV hM dX12_rowWays_80 sm_iv_1072 (by decide) (sm_a0 _) rfl rfl (Nat.le_of_ble_eq_true rfl) sm_h213 (Nat.le_of_ble_eq_true rfl) (Nat.le_of_ble_eq_true rfl) (F' := 2) (Nat.le_of_ble_eq_true rfl) rfl (t_addSort p4 (1 : Int) (sv_sts S [68, 69, 70] g7) ok27 hp4 (⟨by decide, by decide⟩ : sv_R (1 : Int)) o31) (fun v S1 hq => ?_)
              obtain ⟨rfl, ok33, md34, hpo35⟩ := hq
              obtain ⟨g32, rfl⟩ : ∃ g, S1 = sv_sts (sv_sts S [68, 69, 70] g7) [68, 69, 70] g := ⟨_, md34.eq⟩
              show sv_T sm_XS sm_cs sm_L sm_sh 3 (q_rowWays p1 p2 p3 p4 S) 289 83 [(0, .ref 0), (1, sv_I p1), (2, sv_I p2), (3, sv_I p3), (4, sv_I p4), (5, sv_I l5_8), (6, sv_I l6_9)] [] (sv_sts (sv_sts S [68, 69, 70] g7) [68, 69, 70] g32)
              have md36 : sv_mod [68, 69, 70] S (sv_sts (sv_sts S [68, 69, 70] g7) [68, 69, 70] g32) := sv_mod.sts md13 (by decide)
              have md37 : sv_mod [68, 69, 70] S (sv_sts (sv_sts S [68, 69, 70] g7) [68, 69, 70] g32) := sv_mod.sts md14 (by decide)
              have h := h g32 hpo35
              refine sv_aload_n hM dX12_rowWays_83 rfl rfl ?_
              refine sv_getA hM dX12_rowWays_84 sm_fl_256 (sm_a0 _) sm_k133 rfl ?_
              refine sv_aload_n hM dX12_rowWays_87 rfl rfl ?_
              refine sv_sipush (d := (639 : Int)) hM dX12_rowWays_88 rfl rfl ?_
              refine sv_iload hM dX12_rowWays_91 rfl rfl ?_
              obtain ⟨o38, h⟩ := h
              refine sv_callV hM dX12_rowWays_93 sm_iv_1101 (by decide) (sm_a0 _) rfl rfl (Nat.le_of_ble_eq_true rfl) sm_h226 (Nat.le_of_ble_eq_true rfl) (Nat.le_of_ble_eq_true rfl) (F' := 1) (Nat.le_of_ble_eq_true rfl) rfl (t_of (639 : Int) l6_9 (sv_sts (sv_sts S [68, 69, 70] g7) [68, 69, 70] g32) ok33 (⟨by decide, by decide⟩ : sv_R (639 : Int)) hl6_9 o38) (fun v S1 hq => ?_)
              obtain ⟨r43, rfl, hr43, ok40, md41, hpo42⟩ := hq
              obtain rfl : (sv_sts (sv_sts S [68, 69, 70] g7) [68, 69, 70] g32) = S1 := (funext fun j => md41 j (by intro q; cases q)).symm
              show sv_T sm_XS sm_cs sm_L sm_sh 3 (q_rowWays p1 p2 p3 p4 S) 289 96 [(0, .ref 0), (1, sv_I p1), (2, sv_I p2), (3, sv_I p3), (4, sv_I p4), (5, sv_I l5_8), (6, sv_I l6_9)] [sv_I r43, .ref 81] (sv_sts (sv_sts S [68, 69, 70] g7) [68, 69, 70] g32)
              have h := h r43 hr43 hpo42
              obtain ⟨o44, h⟩ := h
              have k45 : (0 ≤ (S 81 r43) ∧ (S 81 r43) ≤ 1) := sm_okZ ok40 sm_r81 r43
              have h := h k45
              refine sv_zald hM dX12_rowWays_96 (sm_a81 _) (by decide) o44.1 o44.2 rfl (x := (S 81 r43)) rfl ?_
              refine sv_cond_ne hM dX12_rowWays_97 (sv_R01 k45) (t := 103) rfl rfl (fun hc => ?_) (fun hc => ?_)
              · have h := h.1 (hc)
                refine sv_iconst (d := (0 : Int)) hM dX12_rowWays_103 rfl rfl ?_
                refine sv_istore hM dX12_rowWays_104 (by decide) rfl ?_
                show sv_T sm_XS sm_cs sm_L sm_sh 3 (q_rowWays p1 p2 p3 p4 S) 289 106 [(0, .ref 0), (1, sv_I p1), (2, sv_I p2), (3, sv_I p3), (4, sv_I p4), (5, sv_I l5_8), (6, sv_I l6_9), (7, sv_I (0 : Int))] [] (sv_sts (sv_sts S [68, 69, 70] g7) [68, 69, 70] g32)
                obtain ⟨hin49, h⟩ := h
                have hJ : ∀ a : Int × sv_S, (sv_R a.1 ∧ sm_ok (sv_sts (sv_sts (sv_sts S [68, 69, 70] g7) [68, 69, 70] g32) [68, 69, 70] a.2) ∧ (0 ≤ a.1 ∧ a.1 ≤ (S 1008 0) + 1 ∧ sm_pt (a.2 68) (a.2 69) (a.2 70) = sm_pt (S 68) (S 69) (S 70))) → sv_T sm_XS sm_cs sm_L sm_sh 3 (q_rowWays p1 p2 p3 p4 S) 289 106 [(0, .ref 0), (1, sv_I p1), (2, sv_I p2), (3, sv_I p3), (4, sv_I p4), (5, sv_I l5_8), (6, sv_I l6_9), (7, sv_I a.1)] [] (sv_sts (sv_sts (sv_sts S [68, 69, 70] g7) [68, 69, 70] g32) [68, 69, 70] a.2) := by
                  refine sv_loop (α := Int × sv_S) (fun a => sv_R a.1 ∧ sm_ok (sv_sts (sv_sts (sv_sts S [68, 69, 70] g7) [68, 69, 70] g32) [68, 69, 70] a.2) ∧ (0 ≤ a.1 ∧ a.1 ≤ (S 1008 0) + 1 ∧ sm_pt (a.2 68) (a.2 69) (a.2 70) = sm_pt (S 68) (S 69) (S 70))) (fun a => (S 1008 0) + 1 - a.1) (fun a => sv_T sm_XS sm_cs sm_L sm_sh 3 (q_rowWays p1 p2 p3 p4 S) 289 106 [(0, .ref 0), (1, sv_I p1), (2, sv_I p2), (3, sv_I p3), (4, sv_I p4), (5, sv_I l5_8), (6, sv_I l6_9), (7, sv_I a.1)] [] (sv_sts (sv_sts (sv_sts S [68, 69, 70] g7) [68, 69, 70] g32) [68, 69, 70] a.2)) (fun a q => (h a.1 q.1 a.2 q.2.2).1) (fun a q ih48 => ?_)
                  obtain ⟨l7_47, g46⟩ := a
                  obtain ⟨hl7_47, ok50, hin49i⟩ := q
                  have h := (h l7_47 hl7_47 g46 hin49i).2
                  show sv_T sm_XS sm_cs sm_L sm_sh 3 (q_rowWays p1 p2 p3 p4 S) 289 106 [(0, .ref 0), (1, sv_I p1), (2, sv_I p2), (3, sv_I p3), (4, sv_I p4), (5, sv_I l5_8), (6, sv_I l6_9), (7, sv_I l7_47)] [] (sv_sts (sv_sts (sv_sts S [68, 69, 70] g7) [68, 69, 70] g32) [68, 69, 70] g46)
                  have md51 : sv_mod [68, 69, 70] S (sv_sts (sv_sts (sv_sts S [68, 69, 70] g7) [68, 69, 70] g32) [68, 69, 70] g46) := sv_mod.sts md36 (by decide)
                  have md52 : sv_mod [68, 69, 70] S (sv_sts (sv_sts (sv_sts S [68, 69, 70] g7) [68, 69, 70] g32) [68, 69, 70] g46) := sv_mod.sts md37 (by decide)
                  have md53 : sv_mod [68, 69, 70] (sv_sts (sv_sts S [68, 69, 70] g7) [68, 69, 70] g32) (sv_sts (sv_sts (sv_sts S [68, 69, 70] g7) [68, 69, 70] g32) [68, 69, 70] g46) := sv_mod.sts sv_mod.rf (by decide)
                  refine sv_iload hM dX12_rowWays_106 rfl rfl ?_
                  refine sv_aload_n hM dX12_rowWays_108 rfl rfl ?_
                  have k54 : sv_R (S 1008 0) := sm_okI ok50 sm_r1008 0
                  have h := h k54
                  refine sv_getI hM dX12_rowWays_109 sm_fl_762 (sm_a0 _) sm_k8 rfl (x := (S 1008 0)) rfl ?_
                  refine sv_icmp_gt hM dX12_rowWays_112 hl7_47 k54 (t := 207) rfl rfl (fun hc => ?_) (fun hc => ?_)
                  · have h := h.1 (hc)
                    refine sv_aload_n hM dX12_rowWays_207 rfl rfl ?_
                    refine sv_aload_n hM dX12_rowWays_208 rfl rfl ?_
                    refine sv_sipush (d := (639 : Int)) hM dX12_rowWays_209 rfl rfl ?_
                    refine sv_iload hM dX12_rowWays_212 rfl rfl ?_
                    refine sv_iconst (d := (0 : Int)) hM dX12_rowWays_214 rfl rfl ?_
                    obtain ⟨o55, h⟩ := h
                    refine sv_callV hM dX12_rowWays_215 sm_iv_1163 (by decide) (sm_a0 _) rfl rfl (Nat.le_of_ble_eq_true rfl) sm_h225 (Nat.le_of_ble_eq_true rfl) (Nat.le_of_ble_eq_true rfl) (F' := 1) (Nat.le_of_ble_eq_true rfl) rfl (t_field (639 : Int) l6_9 (0 : Int) (sv_sts (sv_sts (sv_sts S [68, 69, 70] g7) [68, 69, 70] g32) [68, 69, 70] g46) ok50 (⟨by decide, by decide⟩ : sv_R (639 : Int)) hl6_9 (⟨by decide, by decide⟩ : sv_R (0 : Int)) o55) (fun v S1 hq => ?_)
                    obtain ⟨r60, rfl, hr60, ok57, md58, hpo59⟩ := hq
                    obtain rfl : (sv_sts (sv_sts (sv_sts S [68, 69, 70] g7) [68, 69, 70] g32) [68, 69, 70] g46) = S1 := (funext fun j => md58 j (by intro q; cases q)).symm
                    show sv_T sm_XS sm_cs sm_L sm_sh 3 (q_rowWays p1 p2 p3 p4 S) 289 218 [(0, .ref 0), (1, sv_I p1), (2, sv_I p2), (3, sv_I p3), (4, sv_I p4), (5, sv_I l5_8), (6, sv_I l6_9), (7, sv_I l7_47)] [sv_I r60, .ref 0] (sv_sts (sv_sts (sv_sts S [68, 69, 70] g7) [68, 69, 70] g32) [68, 69, 70] g46)
                    have h := h r60 hr60 hpo59
                    refine sv_bipush (d := (64 : Int)) hM dX12_rowWays_218 rfl rfl ?_
                    obtain ⟨o61, h⟩ := h
                    refine sv_callV hM dX12_rowWays_220 sm_iv_1072 (by decide) (sm_a0 _) rfl rfl (Nat.le_of_ble_eq_true rfl) sm_h213 (Nat.le_of_ble_eq_true rfl) (Nat.le_of_ble_eq_true rfl) (F' := 2) (Nat.le_of_ble_eq_true rfl) rfl (t_addSort r60 (64 : Int) (sv_sts (sv_sts (sv_sts S [68, 69, 70] g7) [68, 69, 70] g32) [68, 69, 70] g46) ok57 hr60 (⟨by decide, by decide⟩ : sv_R (64 : Int)) o61) (fun v S1 hq => ?_)
                    obtain ⟨rfl, ok63, md64, hpo65⟩ := hq
                    obtain ⟨g62, rfl⟩ : ∃ g, S1 = sv_sts (sv_sts (sv_sts (sv_sts S [68, 69, 70] g7) [68, 69, 70] g32) [68, 69, 70] g46) [68, 69, 70] g := ⟨_, md64.eq⟩
                    show sv_T sm_XS sm_cs sm_L sm_sh 3 (q_rowWays p1 p2 p3 p4 S) 289 223 [(0, .ref 0), (1, sv_I p1), (2, sv_I p2), (3, sv_I p3), (4, sv_I p4), (5, sv_I l5_8), (6, sv_I l6_9), (7, sv_I l7_47)] [] (sv_sts (sv_sts (sv_sts (sv_sts S [68, 69, 70] g7) [68, 69, 70] g32) [68, 69, 70] g46) [68, 69, 70] g62)
                    have md66 : sv_mod [68, 69, 70] S (sv_sts (sv_sts (sv_sts (sv_sts S [68, 69, 70] g7) [68, 69, 70] g32) [68, 69, 70] g46) [68, 69, 70] g62) := sv_mod.sts md51 (by decide)
                    have md67 : sv_mod [68, 69, 70] S (sv_sts (sv_sts (sv_sts (sv_sts S [68, 69, 70] g7) [68, 69, 70] g32) [68, 69, 70] g46) [68, 69, 70] g62) := sv_mod.sts md52 (by decide)
                    have md68 : sv_mod [68, 69, 70] (sv_sts (sv_sts S [68, 69, 70] g7) [68, 69, 70] g32) (sv_sts (sv_sts (sv_sts (sv_sts S [68, 69, 70] g7) [68, 69, 70] g32) [68, 69, 70] g46) [68, 69, 70] g62) := sv_mod.sts md53 (by decide)
                    have h := h g62 hpo65
                    refine sv_iinc (d := (1 : Int)) hM dX12_rowWays_223 rfl (by decide) rfl rfl ?_
                    show sv_T sm_XS sm_cs sm_L sm_sh 3 (q_rowWays p1 p2 p3 p4 S) 289 226 [(0, .ref 0), (1, sv_I p1), (2, sv_I p2), (3, sv_I p3), (4, sv_I p4), (5, sv_I l5_8), (6, sv_I (l6_9 + (1 : Int))), (7, sv_I l7_47)] [] (sv_sts (sv_sts (sv_sts (sv_sts S [68, 69, 70] g7) [68, 69, 70] g32) [68, 69, 70] g46) [68, 69, 70] g62)
                    refine sv_goto hM dX12_rowWays_226 (pc' := 18) rfl ?_
                    obtain ⟨o69, h⟩ := h
                    have eS := sv_mod.eq md67
                    have hb := ih10 (l5_8, (l6_9 + (1 : Int)), (sv_sts (sv_sts (sv_sts (sv_sts S [68, 69, 70] g7) [68, 69, 70] g32) [68, 69, 70] g46) [68, 69, 70] g62)) ⟨hl5_8, o69, (by rw [← eS]; exact ok63), h.1⟩ h.2
                    have hb : sv_T sm_XS sm_cs sm_L sm_sh 3 (q_rowWays p1 p2 p3 p4 S) 289 18 [(0, .ref 0), (1, sv_I p1), (2, sv_I p2), (3, sv_I p3), (4, sv_I p4), (5, sv_I l5_8), (6, sv_I (l6_9 + (1 : Int)))] [] (sv_sts (sv_sts (sv_sts (sv_sts S [68, 69, 70] g7) [68, 69, 70] g32) [68, 69, 70] g46) [68, 69, 70] g62) := Eq.mpr (congrArg (fun Z => sv_T sm_XS sm_cs sm_L sm_sh 3 (q_rowWays p1 p2 p3 p4 S) 289 18 [(0, .ref 0), (1, sv_I p1), (2, sv_I p2), (3, sv_I p3), (4, sv_I p4), (5, sv_I l5_8), (6, sv_I (l6_9 + (1 : Int)))] [] Z) eS) hb
                    exact sv_less (lv := [(0, .ref 0), (1, sv_I p1), (2, sv_I p2), (3, sv_I p3), (4, sv_I p4), (5, sv_I l5_8), (6, sv_I (l6_9 + (1 : Int)))]) (sv_Sub_cons rfl (sv_Sub_cons rfl (sv_Sub_cons rfl (sv_Sub_cons rfl (sv_Sub_cons rfl (sv_Sub_cons rfl (sv_Sub_cons rfl sv_Sub_nil))))))) hb
                  · have h := h.2 (hc)
                    refine sv_iload hM dX12_rowWays_115 rfl rfl ?_
                    refine sv_aload_n hM dX12_rowWays_117 rfl rfl ?_
                    refine sv_getI hM dX12_rowWays_118 sm_fl_762 (sm_a0 _) sm_k8 rfl (x := (S 1008 0)) rfl ?_
                    refine sv_icmp_ge hM dX12_rowWays_121 hl7_47 k54 (t := 153) rfl rfl (fun hc => ?_) (fun hc => ?_)
                    · have h := h.1 (hc)
                      refine sv_aload_n hM dX12_rowWays_153 rfl rfl ?_
                      refine sv_sipush (d := (639 : Int)) hM dX12_rowWays_154 rfl rfl ?_
                      refine sv_iload hM dX12_rowWays_157 rfl rfl ?_
                      refine sv_iload hM dX12_rowWays_159 rfl rfl ?_
                      obtain ⟨o70, h⟩ := h
                      refine sv_callV hM dX12_rowWays_161 sm_iv_1163 (by decide) (sm_a0 _) rfl rfl (Nat.le_of_ble_eq_true rfl) sm_h225 (Nat.le_of_ble_eq_true rfl) (Nat.le_of_ble_eq_true rfl) (F' := 1) (Nat.le_of_ble_eq_true rfl) rfl (t_field (639 : Int) l6_9 l7_47 (sv_sts (sv_sts (sv_sts S [68, 69, 70] g7) [68, 69, 70] g32) [68, 69, 70] g46) ok50 (⟨by decide, by decide⟩ : sv_R (639 : Int)) hl6_9 hl7_47 o70) (fun v S1 hq => ?_)
                      obtain ⟨r75, rfl, hr75, ok72, md73, hpo74⟩ := hq
                      obtain rfl : (sv_sts (sv_sts (sv_sts S [68, 69, 70] g7) [68, 69, 70] g32) [68, 69, 70] g46) = S1 := (funext fun j => md73 j (by intro q; cases q)).symm
                      show sv_T sm_XS sm_cs sm_L sm_sh 3 (q_rowWays p1 p2 p3 p4 S) 289 164 [(0, .ref 0), (1, sv_I p1), (2, sv_I p2), (3, sv_I p3), (4, sv_I p4), (5, sv_I l5_8), (6, sv_I l6_9), (7, sv_I l7_47)] [sv_I r75] (sv_sts (sv_sts (sv_sts S [68, 69, 70] g7) [68, 69, 70] g32) [68, 69, 70] g46)
                      have h := h r75 hr75 hpo74
                      refine sv_istore hM dX12_rowWays_164 (by decide) rfl ?_
                      show sv_T sm_XS sm_cs sm_L sm_sh 3 (q_rowWays p1 p2 p3 p4 S) 289 166 [(0, .ref 0), (1, sv_I p1), (2, sv_I p2), (3, sv_I p3), (4, sv_I p4), (5, sv_I l5_8), (6, sv_I l6_9), (7, sv_I l7_47), (8, sv_I r75)] [] (sv_sts (sv_sts (sv_sts S [68, 69, 70] g7) [68, 69, 70] g32) [68, 69, 70] g46)
                      refine sv_iload_n hM dX12_rowWays_166 rfl rfl ?_
                      refine sv_bipush (d := (18 : Int)) hM dX12_rowWays_167 rfl rfl ?_
                      refine sv_icmp_ne hM dX12_rowWays_169 hp1 (⟨by decide, by decide⟩ : sv_R (18 : Int)) (t := 184) rfl rfl (fun hc => ?_) (fun hc => ?_)
                      · have h := h.1 (hc)
                        refine sv_aload_n hM dX12_rowWays_184 rfl rfl ?_
                        refine sv_iload hM dX12_rowWays_185 rfl rfl ?_
                        refine sv_iload hM dX12_rowWays_187 rfl rfl ?_
                        obtain ⟨o76, h⟩ := h
                        refine sv_callV hM dX12_rowWays_189 sm_iv_1228 (by decide) (sm_a0 _) rfl rfl (Nat.le_of_ble_eq_true rfl) sm_h266 (Nat.le_of_ble_eq_true rfl) (Nat.le_of_ble_eq_true rfl) (F' := 2) (Nat.le_of_ble_eq_true rfl) rfl (t_joinPlain r75 p4 (sv_sts (sv_sts (sv_sts S [68, 69, 70] g7) [68, 69, 70] g32) [68, 69, 70] g46) ok72 hr75 hp4 o76) (fun v S1 hq => ?_)
                        obtain ⟨rfl, ok78, md79, hpo80⟩ := hq
                        obtain ⟨g77, rfl⟩ : ∃ g, S1 = sv_sts (sv_sts (sv_sts (sv_sts S [68, 69, 70] g7) [68, 69, 70] g32) [68, 69, 70] g46) [68, 69, 70] g := ⟨_, md79.eq⟩
                        show sv_T sm_XS sm_cs sm_L sm_sh 3 (q_rowWays p1 p2 p3 p4 S) 289 192 [(0, .ref 0), (1, sv_I p1), (2, sv_I p2), (3, sv_I p3), (4, sv_I p4), (5, sv_I l5_8), (6, sv_I l6_9), (7, sv_I l7_47), (8, sv_I r75)] [] (sv_sts (sv_sts (sv_sts (sv_sts S [68, 69, 70] g7) [68, 69, 70] g32) [68, 69, 70] g46) [68, 69, 70] g77)
                        have md81 : sv_mod [68, 69, 70] S (sv_sts (sv_sts (sv_sts (sv_sts S [68, 69, 70] g7) [68, 69, 70] g32) [68, 69, 70] g46) [68, 69, 70] g77) := sv_mod.sts md51 (by decide)
                        have md82 : sv_mod [68, 69, 70] S (sv_sts (sv_sts (sv_sts (sv_sts S [68, 69, 70] g7) [68, 69, 70] g32) [68, 69, 70] g46) [68, 69, 70] g77) := sv_mod.sts md52 (by decide)
                        have md83 : sv_mod [68, 69, 70] (sv_sts (sv_sts S [68, 69, 70] g7) [68, 69, 70] g32) (sv_sts (sv_sts (sv_sts (sv_sts S [68, 69, 70] g7) [68, 69, 70] g32) [68, 69, 70] g46) [68, 69, 70] g77) := sv_mod.sts md53 (by decide)
                        have h := h g77 hpo80
                        refine sv_aload_n hM dX12_rowWays_192 rfl rfl ?_
                        refine sv_iload hM dX12_rowWays_193 rfl rfl ?_
                        refine sv_sipush (d := (512 : Int)) hM dX12_rowWays_195 rfl rfl ?_
                        obtain ⟨o84, h⟩ := h
                        refine sv_callV hM dX12_rowWays_198 sm_iv_1072 (by decide) (sm_a0 _) rfl rfl (Nat.le_of_ble_eq_true rfl) sm_h213 (Nat.le_of_ble_eq_true rfl) (Nat.le_of_ble_eq_true rfl) (F' := 2) (Nat.le_of_ble_eq_true rfl) rfl (t_addSort r75 (512 : Int) (sv_sts (sv_sts (sv_sts (sv_sts S [68, 69, 70] g7) [68, 69, 70] g32) [68, 69, 70] g46) [68, 69, 70] g77) ok78 hr75 (⟨by decide, by decide⟩ : sv_R (512 : Int)) o84) (fun v S1 hq => ?_)
                        obtain ⟨rfl, ok86, md87, hpo88⟩ := hq
                        obtain ⟨g85, rfl⟩ : ∃ g, S1 = sv_sts (sv_sts (sv_sts (sv_sts (sv_sts S [68, 69, 70] g7) [68, 69, 70] g32) [68, 69, 70] g46) [68, 69, 70] g77) [68, 69, 70] g := ⟨_, md87.eq⟩
                        show sv_T sm_XS sm_cs sm_L sm_sh 3 (q_rowWays p1 p2 p3 p4 S) 289 201 [(0, .ref 0), (1, sv_I p1), (2, sv_I p2), (3, sv_I p3), (4, sv_I p4), (5, sv_I l5_8), (6, sv_I l6_9), (7, sv_I l7_47), (8, sv_I r75)] [] (sv_sts (sv_sts (sv_sts (sv_sts (sv_sts S [68, 69, 70] g7) [68, 69, 70] g32) [68, 69, 70] g46) [68, 69, 70] g77) [68, 69, 70] g85)
                        have md89 : sv_mod [68, 69, 70] S (sv_sts (sv_sts (sv_sts (sv_sts (sv_sts S [68, 69, 70] g7) [68, 69, 70] g32) [68, 69, 70] g46) [68, 69, 70] g77) [68, 69, 70] g85) := sv_mod.sts md81 (by decide)
                        have md90 : sv_mod [68, 69, 70] S (sv_sts (sv_sts (sv_sts (sv_sts (sv_sts S [68, 69, 70] g7) [68, 69, 70] g32) [68, 69, 70] g46) [68, 69, 70] g77) [68, 69, 70] g85) := sv_mod.sts md82 (by decide)
                        have md91 : sv_mod [68, 69, 70] (sv_sts (sv_sts S [68, 69, 70] g7) [68, 69, 70] g32) (sv_sts (sv_sts (sv_sts (sv_sts (sv_sts S [68, 69, 70] g7) [68, 69, 70] g32) [68, 69, 70] g46) [68, 69, 70] g77) [68, 69, 70] g85) := sv_mod.sts md83 (by decide)
                        have h := h g85 hpo88
                        refine sv_iinc (d := (1 : Int)) hM dX12_rowWays_201 rfl (by decide) rfl rfl ?_
                        show sv_T sm_XS sm_cs sm_L sm_sh 3 (q_rowWays p1 p2 p3 p4 S) 289 204 [(0, .ref 0), (1, sv_I p1), (2, sv_I p2), (3, sv_I p3), (4, sv_I p4), (5, sv_I l5_8), (6, sv_I l6_9), (7, sv_I (l7_47 + (1 : Int))), (8, sv_I r75)] [] (sv_sts (sv_sts (sv_sts (sv_sts (sv_sts S [68, 69, 70] g7) [68, 69, 70] g32) [68, 69, 70] g46) [68, 69, 70] g77) [68, 69, 70] g85)
                        refine sv_goto hM dX12_rowWays_204 (pc' := 106) rfl ?_
                        obtain ⟨o92, h⟩ := h
                        have eS := sv_mod.eq md91
                        have hb := ih48 ((l7_47 + (1 : Int)), (sv_sts (sv_sts (sv_sts (sv_sts (sv_sts S [68, 69, 70] g7) [68, 69, 70] g32) [68, 69, 70] g46) [68, 69, 70] g77) [68, 69, 70] g85)) ⟨o92, (by rw [← eS]; exact ok86), h.1⟩ h.2
                        have hb : sv_T sm_XS sm_cs sm_L sm_sh 3 (q_rowWays p1 p2 p3 p4 S) 289 106 [(0, .ref 0), (1, sv_I p1), (2, sv_I p2), (3, sv_I p3), (4, sv_I p4), (5, sv_I l5_8), (6, sv_I l6_9), (7, sv_I (l7_47 + (1 : Int)))] [] (sv_sts (sv_sts (sv_sts (sv_sts (sv_sts S [68, 69, 70] g7) [68, 69, 70] g32) [68, 69, 70] g46) [68, 69, 70] g77) [68, 69, 70] g85) := Eq.mpr (congrArg (fun Z => sv_T sm_XS sm_cs sm_L sm_sh 3 (q_rowWays p1 p2 p3 p4 S) 289 106 [(0, .ref 0), (1, sv_I p1), (2, sv_I p2), (3, sv_I p3), (4, sv_I p4), (5, sv_I l5_8), (6, sv_I l6_9), (7, sv_I (l7_47 + (1 : Int)))] [] Z) eS) hb
                        exact sv_less (lv := [(0, .ref 0), (1, sv_I p1), (2, sv_I p2), (3, sv_I p3), (4, sv_I p4), (5, sv_I l5_8), (6, sv_I l6_9), (7, sv_I (l7_47 + (1 : Int)))]) (sv_Sub_cons rfl (sv_Sub_cons rfl (sv_Sub_cons rfl (sv_Sub_cons rfl (sv_Sub_cons rfl (sv_Sub_cons rfl (sv_Sub_cons rfl (sv_Sub_cons rfl sv_Sub_nil)))))))) hb
                      · have h := h.2 (hc)
                        refine sv_aload_n hM dX12_rowWays_172 rfl rfl ?_
                        refine sv_iload_n hM dX12_rowWays_173 rfl rfl ?_
                        refine sv_iload hM dX12_rowWays_174 rfl rfl ?_
                        obtain ⟨o93, h⟩ := h
                        refine sv_callV hM dX12_rowWays_176 sm_iv_1069 (by decide) (sm_a0 _) rfl rfl (Nat.le_of_ble_eq_true rfl) sm_h208 (Nat.le_of_ble_eq_true rfl) (Nat.le_of_ble_eq_true rfl) (F' := 1) (Nat.le_of_ble_eq_true rfl) rfl (t_join p3 r75 (sv_sts (sv_sts (sv_sts S [68, 69, 70] g7) [68, 69, 70] g32) [68, 69, 70] g46) ok72 hp3 hr75 o93) (fun v S1 hq => ?_)
                        obtain ⟨r98, rfl, hr98, ok95, md96, hpo97⟩ := hq
                        obtain ⟨g94, rfl⟩ : ∃ g, S1 = sv_sts (sv_sts (sv_sts (sv_sts S [68, 69, 70] g7) [68, 69, 70] g32) [68, 69, 70] g46) [68, 69, 70] g := ⟨_, md96.eq⟩
                        show sv_T sm_XS sm_cs sm_L sm_sh 3 (q_rowWays p1 p2 p3 p4 S) 289 179 [(0, .ref 0), (1, sv_I p1), (2, sv_I p2), (3, sv_I p3), (4, sv_I p4), (5, sv_I l5_8), (6, sv_I l6_9), (7, sv_I l7_47), (8, sv_I r75)] [sv_I r98] (sv_sts (sv_sts (sv_sts (sv_sts S [68, 69, 70] g7) [68, 69, 70] g32) [68, 69, 70] g46) [68, 69, 70] g94)
                        have md99 : sv_mod [68, 69, 70] S (sv_sts (sv_sts (sv_sts (sv_sts S [68, 69, 70] g7) [68, 69, 70] g32) [68, 69, 70] g46) [68, 69, 70] g94) := sv_mod.sts md51 (by decide)
                        have md100 : sv_mod [68, 69, 70] S (sv_sts (sv_sts (sv_sts (sv_sts S [68, 69, 70] g7) [68, 69, 70] g32) [68, 69, 70] g46) [68, 69, 70] g94) := sv_mod.sts md52 (by decide)
                        have md101 : sv_mod [68, 69, 70] (sv_sts (sv_sts S [68, 69, 70] g7) [68, 69, 70] g32) (sv_sts (sv_sts (sv_sts (sv_sts S [68, 69, 70] g7) [68, 69, 70] g32) [68, 69, 70] g46) [68, 69, 70] g94) := sv_mod.sts md53 (by decide)
                        have h := h r98 hr98 g94 hpo97
                        refine sv_istore hM dX12_rowWays_179 (by decide) rfl ?_
                        show sv_T sm_XS sm_cs sm_L sm_sh 3 (q_rowWays p1 p2 p3 p4 S) 289 181 [(0, .ref 0), (1, sv_I p1), (2, sv_I p2), (3, sv_I p3), (4, sv_I p4), (5, sv_I l5_8), (6, sv_I l6_9), (7, sv_I l7_47), (8, sv_I r75), (9, sv_I r98)] [] (sv_sts (sv_sts (sv_sts (sv_sts S [68, 69, 70] g7) [68, 69, 70] g32) [68, 69, 70] g46) [68, 69, 70] g94)
                        refine sv_goto hM dX12_rowWays_181 (pc' := 201) rfl ?_
                        refine sv_iinc (d := (1 : Int)) hM dX12_rowWays_201 rfl (by decide) rfl rfl ?_
                        show sv_T sm_XS sm_cs sm_L sm_sh 3 (q_rowWays p1 p2 p3 p4 S) 289 204 [(0, .ref 0), (1, sv_I p1), (2, sv_I p2), (3, sv_I p3), (4, sv_I p4), (5, sv_I l5_8), (6, sv_I l6_9), (7, sv_I (l7_47 + (1 : Int))), (8, sv_I r75), (9, sv_I r98)] [] (sv_sts (sv_sts (sv_sts (sv_sts S [68, 69, 70] g7) [68, 69, 70] g32) [68, 69, 70] g46) [68, 69, 70] g94)
                        refine sv_goto hM dX12_rowWays_204 (pc' := 106) rfl ?_
                        obtain ⟨o102, h⟩ := h
                        have eS := sv_mod.eq md101
                        have hb := ih48 ((l7_47 + (1 : Int)), (sv_sts (sv_sts (sv_sts (sv_sts S [68, 69, 70] g7) [68, 69, 70] g32) [68, 69, 70] g46) [68, 69, 70] g94)) ⟨o102, (by rw [← eS]; exact ok95), h.1⟩ h.2
                        have hb : sv_T sm_XS sm_cs sm_L sm_sh 3 (q_rowWays p1 p2 p3 p4 S) 289 106 [(0, .ref 0), (1, sv_I p1), (2, sv_I p2), (3, sv_I p3), (4, sv_I p4), (5, sv_I l5_8), (6, sv_I l6_9), (7, sv_I (l7_47 + (1 : Int)))] [] (sv_sts (sv_sts (sv_sts (sv_sts S [68, 69, 70] g7) [68, 69, 70] g32) [68, 69, 70] g46) [68, 69, 70] g94) := Eq.mpr (congrArg (fun Z => sv_T sm_XS sm_cs sm_L sm_sh 3 (q_rowWays p1 p2 p3 p4 S) 289 106 [(0, .ref 0), (1, sv_I p1), (2, sv_I p2), (3, sv_I p3), (4, sv_I p4), (5, sv_I l5_8), (6, sv_I l6_9), (7, sv_I (l7_47 + (1 : Int)))] [] Z) eS) hb
                        exact sv_less (lv := [(0, .ref 0), (1, sv_I p1), (2, sv_I p2), (3, sv_I p3), (4, sv_I p4), (5, sv_I l5_8), (6, sv_I l6_9), (7, sv_I (l7_47 + (1 : Int)))]) (sv_Sub_cons rfl (sv_Sub_cons rfl (sv_Sub_cons rfl (sv_Sub_cons rfl (sv_Sub_cons rfl (sv_Sub_cons rfl (sv_Sub_cons rfl (sv_Sub_cons rfl sv_Sub_nil)))))))) hb
                    · have h := h.2 (hc)
                      refine sv_aload_n hM dX12_rowWays_124 rfl rfl ?_
                      refine sv_getA hM dX12_rowWays_125 sm_fl_277 (sm_a0 _) sm_k140 rfl ?_
                      refine sv_iload hM dX12_rowWays_128 rfl rfl ?_
                      obtain ⟨o103, h⟩ := h
                      have k104 : (0 ≤ (S 88 l7_47) ∧ (S 88 l7_47) ≤ 1) := sm_okZ ok50 sm_r88 l7_47
                      have h := h k104
                      refine sv_zald hM dX12_rowWays_130 (sm_a88 _) (by decide) o103.1 o103.2 rfl (x := (S 88 l7_47)) rfl ?_
                      refine sv_cond_ne hM dX12_rowWays_131 (sv_R01 k104) (t := 153) rfl rfl (fun hc => ?_) (fun hc => ?_)
                      · have h := h.1 (hc)
                        refine sv_aload_n hM dX12_rowWays_153 rfl rfl ?_
                        refine sv_sipush (d := (639 : Int)) hM dX12_rowWays_154 rfl rfl ?_
                        refine sv_iload hM dX12_rowWays_157 rfl rfl ?_
                        refine sv_iload hM dX12_rowWays_159 rfl rfl ?_
                        obtain ⟨o105, h⟩ := h
                        refine sv_callV hM dX12_rowWays_161 sm_iv_1163 (by decide) (sm_a0 _) rfl rfl (Nat.le_of_ble_eq_true rfl) sm_h225 (Nat.le_of_ble_eq_true rfl) (Nat.le_of_ble_eq_true rfl) (F' := 1) (Nat.le_of_ble_eq_true rfl) rfl (t_field (639 : Int) l6_9 l7_47 (sv_sts (sv_sts (sv_sts S [68, 69, 70] g7) [68, 69, 70] g32) [68, 69, 70] g46) ok50 (⟨by decide, by decide⟩ : sv_R (639 : Int)) hl6_9 hl7_47 o105) (fun v S1 hq => ?_)
                        obtain ⟨r110, rfl, hr110, ok107, md108, hpo109⟩ := hq
                        obtain rfl : (sv_sts (sv_sts (sv_sts S [68, 69, 70] g7) [68, 69, 70] g32) [68, 69, 70] g46) = S1 := (funext fun j => md108 j (by intro q; cases q)).symm
                        show sv_T sm_XS sm_cs sm_L sm_sh 3 (q_rowWays p1 p2 p3 p4 S) 289 164 [(0, .ref 0), (1, sv_I p1), (2, sv_I p2), (3, sv_I p3), (4, sv_I p4), (5, sv_I l5_8), (6, sv_I l6_9), (7, sv_I l7_47)] [sv_I r110] (sv_sts (sv_sts (sv_sts S [68, 69, 70] g7) [68, 69, 70] g32) [68, 69, 70] g46)
                        have h := h r110 hr110 hpo109
                        refine sv_istore hM dX12_rowWays_164 (by decide) rfl ?_
                        show sv_T sm_XS sm_cs sm_L sm_sh 3 (q_rowWays p1 p2 p3 p4 S) 289 166 [(0, .ref 0), (1, sv_I p1), (2, sv_I p2), (3, sv_I p3), (4, sv_I p4), (5, sv_I l5_8), (6, sv_I l6_9), (7, sv_I l7_47), (8, sv_I r110)] [] (sv_sts (sv_sts (sv_sts S [68, 69, 70] g7) [68, 69, 70] g32) [68, 69, 70] g46)
                        refine sv_iload_n hM dX12_rowWays_166 rfl rfl ?_
                        refine sv_bipush (d := (18 : Int)) hM dX12_rowWays_167 rfl rfl ?_
                        refine sv_icmp_ne hM dX12_rowWays_169 hp1 (⟨by decide, by decide⟩ : sv_R (18 : Int)) (t := 184) rfl rfl (fun hc => ?_) (fun hc => ?_)
                        · have h := h.1 (hc)
                          refine sv_aload_n hM dX12_rowWays_184 rfl rfl ?_
                          refine sv_iload hM dX12_rowWays_185 rfl rfl ?_
                          refine sv_iload hM dX12_rowWays_187 rfl rfl ?_
                          obtain ⟨o111, h⟩ := h
                          refine sv_callV hM dX12_rowWays_189 sm_iv_1228 (by decide) (sm_a0 _) rfl rfl (Nat.le_of_ble_eq_true rfl) sm_h266 (Nat.le_of_ble_eq_true rfl) (Nat.le_of_ble_eq_true rfl) (F' := 2) (Nat.le_of_ble_eq_true rfl) rfl (t_joinPlain r110 p4 (sv_sts (sv_sts (sv_sts S [68, 69, 70] g7) [68, 69, 70] g32) [68, 69, 70] g46) ok107 hr110 hp4 o111) (fun v S1 hq => ?_)
                          obtain ⟨rfl, ok113, md114, hpo115⟩ := hq
                          obtain ⟨g112, rfl⟩ : ∃ g, S1 = sv_sts (sv_sts (sv_sts (sv_sts S [68, 69, 70] g7) [68, 69, 70] g32) [68, 69, 70] g46) [68, 69, 70] g := ⟨_, md114.eq⟩
                          show sv_T sm_XS sm_cs sm_L sm_sh 3 (q_rowWays p1 p2 p3 p4 S) 289 192 [(0, .ref 0), (1, sv_I p1), (2, sv_I p2), (3, sv_I p3), (4, sv_I p4), (5, sv_I l5_8), (6, sv_I l6_9), (7, sv_I l7_47), (8, sv_I r110)] [] (sv_sts (sv_sts (sv_sts (sv_sts S [68, 69, 70] g7) [68, 69, 70] g32) [68, 69, 70] g46) [68, 69, 70] g112)
                          have md116 : sv_mod [68, 69, 70] S (sv_sts (sv_sts (sv_sts (sv_sts S [68, 69, 70] g7) [68, 69, 70] g32) [68, 69, 70] g46) [68, 69, 70] g112) := sv_mod.sts md51 (by decide)
                          have md117 : sv_mod [68, 69, 70] S (sv_sts (sv_sts (sv_sts (sv_sts S [68, 69, 70] g7) [68, 69, 70] g32) [68, 69, 70] g46) [68, 69, 70] g112) := sv_mod.sts md52 (by decide)
                          have md118 : sv_mod [68, 69, 70] (sv_sts (sv_sts S [68, 69, 70] g7) [68, 69, 70] g32) (sv_sts (sv_sts (sv_sts (sv_sts S [68, 69, 70] g7) [68, 69, 70] g32) [68, 69, 70] g46) [68, 69, 70] g112) := sv_mod.sts md53 (by decide)
                          have h := h g112 hpo115
                          refine sv_aload_n hM dX12_rowWays_192 rfl rfl ?_
                          refine sv_iload hM dX12_rowWays_193 rfl rfl ?_
                          refine sv_sipush (d := (512 : Int)) hM dX12_rowWays_195 rfl rfl ?_
                          obtain ⟨o119, h⟩ := h
                          refine sv_callV hM dX12_rowWays_198 sm_iv_1072 (by decide) (sm_a0 _) rfl rfl (Nat.le_of_ble_eq_true rfl) sm_h213 (Nat.le_of_ble_eq_true rfl) (Nat.le_of_ble_eq_true rfl) (F' := 2) (Nat.le_of_ble_eq_true rfl) rfl (t_addSort r110 (512 : Int) (sv_sts (sv_sts (sv_sts (sv_sts S [68, 69, 70] g7) [68, 69, 70] g32) [68, 69, 70] g46) [68, 69, 70] g112) ok113 hr110 (⟨by decide, by decide⟩ : sv_R (512 : Int)) o119) (fun v S1 hq => ?_)
                          obtain ⟨rfl, ok121, md122, hpo123⟩ := hq
                          obtain ⟨g120, rfl⟩ : ∃ g, S1 = sv_sts (sv_sts (sv_sts (sv_sts (sv_sts S [68, 69, 70] g7) [68, 69, 70] g32) [68, 69, 70] g46) [68, 69, 70] g112) [68, 69, 70] g := ⟨_, md122.eq⟩
                          show sv_T sm_XS sm_cs sm_L sm_sh 3 (q_rowWays p1 p2 p3 p4 S) 289 201 [(0, .ref 0), (1, sv_I p1), (2, sv_I p2), (3, sv_I p3), (4, sv_I p4), (5, sv_I l5_8), (6, sv_I l6_9), (7, sv_I l7_47), (8, sv_I r110)] [] (sv_sts (sv_sts (sv_sts (sv_sts (sv_sts S [68, 69, 70] g7) [68, 69, 70] g32) [68, 69, 70] g46) [68, 69, 70] g112) [68, 69, 70] g120)
                          have md124 : sv_mod [68, 69, 70] S (sv_sts (sv_sts (sv_sts (sv_sts (sv_sts S [68, 69, 70] g7) [68, 69, 70] g32) [68, 69, 70] g46) [68, 69, 70] g112) [68, 69, 70] g120) := sv_mod.sts md116 (by decide)
                          have md125 : sv_mod [68, 69, 70] S (sv_sts (sv_sts (sv_sts (sv_sts (sv_sts S [68, 69, 70] g7) [68, 69, 70] g32) [68, 69, 70] g46) [68, 69, 70] g112) [68, 69, 70] g120) := sv_mod.sts md117 (by decide)
                          have md126 : sv_mod [68, 69, 70] (sv_sts (sv_sts S [68, 69, 70] g7) [68, 69, 70] g32) (sv_sts (sv_sts (sv_sts (sv_sts (sv_sts S [68, 69, 70] g7) [68, 69, 70] g32) [68, 69, 70] g46) [68, 69, 70] g112) [68, 69, 70] g120) := sv_mod.sts md118 (by decide)
                          have h := h g120 hpo123
                          refine sv_iinc (d := (1 : Int)) hM dX12_rowWays_201 rfl (by decide) rfl rfl ?_
                          show sv_T sm_XS sm_cs sm_L sm_sh 3 (q_rowWays p1 p2 p3 p4 S) 289 204 [(0, .ref 0), (1, sv_I p1), (2, sv_I p2), (3, sv_I p3), (4, sv_I p4), (5, sv_I l5_8), (6, sv_I l6_9), (7, sv_I (l7_47 + (1 : Int))), (8, sv_I r110)] [] (sv_sts (sv_sts (sv_sts (sv_sts (sv_sts S [68, 69, 70] g7) [68, 69, 70] g32) [68, 69, 70] g46) [68, 69, 70] g112) [68, 69, 70] g120)
                          refine sv_goto hM dX12_rowWays_204 (pc' := 106) rfl ?_
                          obtain ⟨o127, h⟩ := h
                          have eS := sv_mod.eq md126
                          have hb := ih48 ((l7_47 + (1 : Int)), (sv_sts (sv_sts (sv_sts (sv_sts (sv_sts S [68, 69, 70] g7) [68, 69, 70] g32) [68, 69, 70] g46) [68, 69, 70] g112) [68, 69, 70] g120)) ⟨o127, (by rw [← eS]; exact ok121), h.1⟩ h.2
                          have hb : sv_T sm_XS sm_cs sm_L sm_sh 3 (q_rowWays p1 p2 p3 p4 S) 289 106 [(0, .ref 0), (1, sv_I p1), (2, sv_I p2), (3, sv_I p3), (4, sv_I p4), (5, sv_I l5_8), (6, sv_I l6_9), (7, sv_I (l7_47 + (1 : Int)))] [] (sv_sts (sv_sts (sv_sts (sv_sts (sv_sts S [68, 69, 70] g7) [68, 69, 70] g32) [68, 69, 70] g46) [68, 69, 70] g112) [68, 69, 70] g120) := Eq.mpr (congrArg (fun Z => sv_T sm_XS sm_cs sm_L sm_sh 3 (q_rowWays p1 p2 p3 p4 S) 289 106 [(0, .ref 0), (1, sv_I p1), (2, sv_I p2), (3, sv_I p3), (4, sv_I p4), (5, sv_I l5_8), (6, sv_I l6_9), (7, sv_I (l7_47 + (1 : Int)))] [] Z) eS) hb
                          exact sv_less (lv := [(0, .ref 0), (1, sv_I p1), (2, sv_I p2), (3, sv_I p3), (4, sv_I p4), (5, sv_I l5_8), (6, sv_I l6_9), (7, sv_I (l7_47 + (1 : Int)))]) (sv_Sub_cons rfl (sv_Sub_cons rfl (sv_Sub_cons rfl (sv_Sub_cons rfl (sv_Sub_cons rfl (sv_Sub_cons rfl (sv_Sub_cons rfl (sv_Sub_cons rfl sv_Sub_nil)))))))) hb
                        · have h := h.2 (hc)
                          refine sv_aload_n hM dX12_rowWays_172 rfl rfl ?_
                          refine sv_iload_n hM dX12_rowWays_173 rfl rfl ?_
                          refine sv_iload hM dX12_rowWays_174 rfl rfl ?_
                          obtain ⟨o128, h⟩ := h
                          refine sv_callV hM dX12_rowWays_176 sm_iv_1069 (by decide) (sm_a0 _) rfl rfl (Nat.le_of_ble_eq_true rfl) sm_h208 (Nat.le_of_ble_eq_true rfl) (Nat.le_of_ble_eq_true rfl) (F' := 1) (Nat.le_of_ble_eq_true rfl) rfl (t_join p3 r110 (sv_sts (sv_sts (sv_sts S [68, 69, 70] g7) [68, 69, 70] g32) [68, 69, 70] g46) ok107 hp3 hr110 o128) (fun v S1 hq => ?_)
                          obtain ⟨r133, rfl, hr133, ok130, md131, hpo132⟩ := hq
                          obtain ⟨g129, rfl⟩ : ∃ g, S1 = sv_sts (sv_sts (sv_sts (sv_sts S [68, 69, 70] g7) [68, 69, 70] g32) [68, 69, 70] g46) [68, 69, 70] g := ⟨_, md131.eq⟩
                          show sv_T sm_XS sm_cs sm_L sm_sh 3 (q_rowWays p1 p2 p3 p4 S) 289 179 [(0, .ref 0), (1, sv_I p1), (2, sv_I p2), (3, sv_I p3), (4, sv_I p4), (5, sv_I l5_8), (6, sv_I l6_9), (7, sv_I l7_47), (8, sv_I r110)] [sv_I r133] (sv_sts (sv_sts (sv_sts (sv_sts S [68, 69, 70] g7) [68, 69, 70] g32) [68, 69, 70] g46) [68, 69, 70] g129)
                          have md134 : sv_mod [68, 69, 70] S (sv_sts (sv_sts (sv_sts (sv_sts S [68, 69, 70] g7) [68, 69, 70] g32) [68, 69, 70] g46) [68, 69, 70] g129) := sv_mod.sts md51 (by decide)
                          have md135 : sv_mod [68, 69, 70] S (sv_sts (sv_sts (sv_sts (sv_sts S [68, 69, 70] g7) [68, 69, 70] g32) [68, 69, 70] g46) [68, 69, 70] g129) := sv_mod.sts md52 (by decide)
                          have md136 : sv_mod [68, 69, 70] (sv_sts (sv_sts S [68, 69, 70] g7) [68, 69, 70] g32) (sv_sts (sv_sts (sv_sts (sv_sts S [68, 69, 70] g7) [68, 69, 70] g32) [68, 69, 70] g46) [68, 69, 70] g129) := sv_mod.sts md53 (by decide)
                          have h := h r133 hr133 g129 hpo132
                          refine sv_istore hM dX12_rowWays_179 (by decide) rfl ?_
                          show sv_T sm_XS sm_cs sm_L sm_sh 3 (q_rowWays p1 p2 p3 p4 S) 289 181 [(0, .ref 0), (1, sv_I p1), (2, sv_I p2), (3, sv_I p3), (4, sv_I p4), (5, sv_I l5_8), (6, sv_I l6_9), (7, sv_I l7_47), (8, sv_I r110), (9, sv_I r133)] [] (sv_sts (sv_sts (sv_sts (sv_sts S [68, 69, 70] g7) [68, 69, 70] g32) [68, 69, 70] g46) [68, 69, 70] g129)
                          refine sv_goto hM dX12_rowWays_181 (pc' := 201) rfl ?_
                          refine sv_iinc (d := (1 : Int)) hM dX12_rowWays_201 rfl (by decide) rfl rfl ?_
                          show sv_T sm_XS sm_cs sm_L sm_sh 3 (q_rowWays p1 p2 p3 p4 S) 289 204 [(0, .ref 0), (1, sv_I p1), (2, sv_I p2), (3, sv_I p3), (4, sv_I p4), (5, sv_I l5_8), (6, sv_I l6_9), (7, sv_I (l7_47 + (1 : Int))), (8, sv_I r110), (9, sv_I r133)] [] (sv_sts (sv_sts (sv_sts (sv_sts S [68, 69, 70] g7) [68, 69, 70] g32) [68, 69, 70] g46) [68, 69, 70] g129)
                          refine sv_goto hM dX12_rowWays_204 (pc' := 106) rfl ?_
                          obtain ⟨o137, h⟩ := h
                          have eS := sv_mod.eq md136
                          have hb := ih48 ((l7_47 + (1 : Int)), (sv_sts (sv_sts (sv_sts (sv_sts S [68, 69, 70] g7) [68, 69, 70] g32) [68, 69, 70] g46) [68, 69, 70] g129)) ⟨o137, (by rw [← eS]; exact ok130), h.1⟩ h.2
                          have hb : sv_T sm_XS sm_cs sm_L sm_sh 3 (q_rowWays p1 p2 p3 p4 S) 289 106 [(0, .ref 0), (1, sv_I p1), (2, sv_I p2), (3, sv_I p3), (4, sv_I p4), (5, sv_I l5_8), (6, sv_I l6_9), (7, sv_I (l7_47 + (1 : Int)))] [] (sv_sts (sv_sts (sv_sts (sv_sts S [68, 69, 70] g7) [68, 69, 70] g32) [68, 69, 70] g46) [68, 69, 70] g129) := Eq.mpr (congrArg (fun Z => sv_T sm_XS sm_cs sm_L sm_sh 3 (q_rowWays p1 p2 p3 p4 S) 289 106 [(0, .ref 0), (1, sv_I p1), (2, sv_I p2), (3, sv_I p3), (4, sv_I p4), (5, sv_I l5_8), (6, sv_I l6_9), (7, sv_I (l7_47 + (1 : Int)))] [] Z) eS) hb
                          exact sv_less (lv := [(0, .ref 0), (1, sv_I p1), (2, sv_I p2), (3, sv_I p3), (4, sv_I p4), (5, sv_I l5_8), (6, sv_I l6_9), (7, sv_I (l7_47 + (1 : Int)))]) (sv_Sub_cons rfl (sv_Sub_cons rfl (sv_Sub_cons rfl (sv_Sub_cons rfl (sv_Sub_cons rfl (sv_Sub_cons rfl (sv_Sub_cons rfl (sv_Sub_cons rfl sv_Sub_nil)))))))) hb
                      · have h := h.2 (hc)
                        refine sv_iload_n hM dX12_rowWays_134 rfl rfl ?_
                        refine sv_bipush (d := (18 : Int)) hM dX12_rowWays_135 rfl rfl ?_
                        refine sv_icmp_ne hM dX12_rowWays_137 hp1 (⟨by decide, by decide⟩ : sv_R (18 : Int)) (t := 201) rfl rfl (fun hc => ?_) (fun hc => ?_)
                        · have h := h.1 (hc)
                          refine sv_iinc (d := (1 : Int)) hM dX12_rowWays_201 rfl (by decide) rfl rfl ?_
                          show sv_T sm_XS sm_cs sm_L sm_sh 3 (q_rowWays p1 p2 p3 p4 S) 289 204 [(0, .ref 0), (1, sv_I p1), (2, sv_I p2), (3, sv_I p3), (4, sv_I p4), (5, sv_I l5_8), (6, sv_I l6_9), (7, sv_I (l7_47 + (1 : Int)))] [] (sv_sts (sv_sts (sv_sts S [68, 69, 70] g7) [68, 69, 70] g32) [68, 69, 70] g46)
                          refine sv_goto hM dX12_rowWays_204 (pc' := 106) rfl ?_
                          obtain ⟨o138, h⟩ := h
                          have eS := sv_mod.eq md53
                          have hb := ih48 ((l7_47 + (1 : Int)), (sv_sts (sv_sts (sv_sts S [68, 69, 70] g7) [68, 69, 70] g32) [68, 69, 70] g46)) ⟨o138, (by rw [← eS]; exact ok50), h.1⟩ h.2
                          have hb : sv_T sm_XS sm_cs sm_L sm_sh 3 (q_rowWays p1 p2 p3 p4 S) 289 106 [(0, .ref 0), (1, sv_I p1), (2, sv_I p2), (3, sv_I p3), (4, sv_I p4), (5, sv_I l5_8), (6, sv_I l6_9), (7, sv_I (l7_47 + (1 : Int)))] [] (sv_sts (sv_sts (sv_sts S [68, 69, 70] g7) [68, 69, 70] g32) [68, 69, 70] g46) := Eq.mpr (congrArg (fun Z => sv_T sm_XS sm_cs sm_L sm_sh 3 (q_rowWays p1 p2 p3 p4 S) 289 106 [(0, .ref 0), (1, sv_I p1), (2, sv_I p2), (3, sv_I p3), (4, sv_I p4), (5, sv_I l5_8), (6, sv_I l6_9), (7, sv_I (l7_47 + (1 : Int)))] [] Z) eS) hb
                          exact sv_less (lv := [(0, .ref 0), (1, sv_I p1), (2, sv_I p2), (3, sv_I p3), (4, sv_I p4), (5, sv_I l5_8), (6, sv_I l6_9), (7, sv_I (l7_47 + (1 : Int)))]) (sv_Sub_cons rfl (sv_Sub_cons rfl (sv_Sub_cons rfl (sv_Sub_cons rfl (sv_Sub_cons rfl (sv_Sub_cons rfl (sv_Sub_cons rfl (sv_Sub_cons rfl sv_Sub_nil)))))))) hb
                        · have h := h.2 (hc)
                          refine sv_aload_n hM dX12_rowWays_140 rfl rfl ?_
                          refine sv_getA hM dX12_rowWays_141 sm_fl_280 (sm_a0 _) sm_k141 rfl ?_
                          refine sv_iload hM dX12_rowWays_144 rfl rfl ?_
                          have k139 : (0 ≤ (S 89 l7_47) ∧ (S 89 l7_47) ≤ 1) := sm_okZ ok50 sm_r89 l7_47
                          have h := h k139
                          refine sv_zald hM dX12_rowWays_146 (sm_a89 _) (by decide) o103.1 o103.2 rfl (x := (S 89 l7_47)) rfl ?_
                          refine sv_cond_ne hM dX12_rowWays_147 (sv_R01 k139) (t := 153) rfl rfl (fun hc => ?_) (fun hc => ?_)
                          · have h := h.1 (hc)
                            refine sv_aload_n hM dX12_rowWays_153 rfl rfl ?_
                            refine sv_sipush (d := (639 : Int)) hM dX12_rowWays_154 rfl rfl ?_
                            refine sv_iload hM dX12_rowWays_157 rfl rfl ?_
                            refine sv_iload hM dX12_rowWays_159 rfl rfl ?_
                            obtain ⟨o140, h⟩ := h
                            refine sv_callV hM dX12_rowWays_161 sm_iv_1163 (by decide) (sm_a0 _) rfl rfl (Nat.le_of_ble_eq_true rfl) sm_h225 (Nat.le_of_ble_eq_true rfl) (Nat.le_of_ble_eq_true rfl) (F' := 1) (Nat.le_of_ble_eq_true rfl) rfl (t_field (639 : Int) l6_9 l7_47 (sv_sts (sv_sts (sv_sts S [68, 69, 70] g7) [68, 69, 70] g32) [68, 69, 70] g46) ok50 (⟨by decide, by decide⟩ : sv_R (639 : Int)) hl6_9 hl7_47 o140) (fun v S1 hq => ?_)
                            obtain ⟨r145, rfl, hr145, ok142, md143, hpo144⟩ := hq
                            obtain rfl : (sv_sts (sv_sts (sv_sts S [68, 69, 70] g7) [68, 69, 70] g32) [68, 69, 70] g46) = S1 := (funext fun j => md143 j (by intro q; cases q)).symm
                            show sv_T sm_XS sm_cs sm_L sm_sh 3 (q_rowWays p1 p2 p3 p4 S) 289 164 [(0, .ref 0), (1, sv_I p1), (2, sv_I p2), (3, sv_I p3), (4, sv_I p4), (5, sv_I l5_8), (6, sv_I l6_9), (7, sv_I l7_47)] [sv_I r145] (sv_sts (sv_sts (sv_sts S [68, 69, 70] g7) [68, 69, 70] g32) [68, 69, 70] g46)
                            have h := h r145 hr145 hpo144
                            refine sv_istore hM dX12_rowWays_164 (by decide) rfl ?_
                            show sv_T sm_XS sm_cs sm_L sm_sh 3 (q_rowWays p1 p2 p3 p4 S) 289 166 [(0, .ref 0), (1, sv_I p1), (2, sv_I p2), (3, sv_I p3), (4, sv_I p4), (5, sv_I l5_8), (6, sv_I l6_9), (7, sv_I l7_47), (8, sv_I r145)] [] (sv_sts (sv_sts (sv_sts S [68, 69, 70] g7) [68, 69, 70] g32) [68, 69, 70] g46)
                            refine sv_iload_n hM dX12_rowWays_166 rfl rfl ?_
                            refine sv_bipush (d := (18 : Int)) hM dX12_rowWays_167 rfl rfl ?_
                            refine sv_icmp_ne hM dX12_rowWays_169 hp1 (⟨by decide, by decide⟩ : sv_R (18 : Int)) (t := 184) rfl rfl (fun hc => ?_) (fun hc => ?_)
                            · have h := h.1 (hc)
                              refine sv_aload_n hM dX12_rowWays_184 rfl rfl ?_
                              refine sv_iload hM dX12_rowWays_185 rfl rfl ?_
                              refine sv_iload hM dX12_rowWays_187 rfl rfl ?_
                              obtain ⟨o146, h⟩ := h
                              refine sv_callV hM dX12_rowWays_189 sm_iv_1228 (by decide) (sm_a0 _) rfl rfl (Nat.le_of_ble_eq_true rfl) sm_h266 (Nat.le_of_ble_eq_true rfl) (Nat.le_of_ble_eq_true rfl) (F' := 2) (Nat.le_of_ble_eq_true rfl) rfl (t_joinPlain r145 p4 (sv_sts (sv_sts (sv_sts S [68, 69, 70] g7) [68, 69, 70] g32) [68, 69, 70] g46) ok142 hr145 hp4 o146) (fun v S1 hq => ?_)
                              obtain ⟨rfl, ok148, md149, hpo150⟩ := hq
                              obtain ⟨g147, rfl⟩ : ∃ g, S1 = sv_sts (sv_sts (sv_sts (sv_sts S [68, 69, 70] g7) [68, 69, 70] g32) [68, 69, 70] g46) [68, 69, 70] g := ⟨_, md149.eq⟩
                              show sv_T sm_XS sm_cs sm_L sm_sh 3 (q_rowWays p1 p2 p3 p4 S) 289 192 [(0, .ref 0), (1, sv_I p1), (2, sv_I p2), (3, sv_I p3), (4, sv_I p4), (5, sv_I l5_8), (6, sv_I l6_9), (7, sv_I l7_47), (8, sv_I r145)] [] (sv_sts (sv_sts (sv_sts (sv_sts S [68, 69, 70] g7) [68, 69, 70] g32) [68, 69, 70] g46) [68, 69, 70] g147)
                              have md151 : sv_mod [68, 69, 70] S (sv_sts (sv_sts (sv_sts (sv_sts S [68, 69, 70] g7) [68, 69, 70] g32) [68, 69, 70] g46) [68, 69, 70] g147) := sv_mod.sts md51 (by decide)
                              have md152 : sv_mod [68, 69, 70] S (sv_sts (sv_sts (sv_sts (sv_sts S [68, 69, 70] g7) [68, 69, 70] g32) [68, 69, 70] g46) [68, 69, 70] g147) := sv_mod.sts md52 (by decide)
                              have md153 : sv_mod [68, 69, 70] (sv_sts (sv_sts S [68, 69, 70] g7) [68, 69, 70] g32) (sv_sts (sv_sts (sv_sts (sv_sts S [68, 69, 70] g7) [68, 69, 70] g32) [68, 69, 70] g46) [68, 69, 70] g147) := sv_mod.sts md53 (by decide)
                              have h := h g147 hpo150
                              refine sv_aload_n hM dX12_rowWays_192 rfl rfl ?_
                              refine sv_iload hM dX12_rowWays_193 rfl rfl ?_
                              refine sv_sipush (d := (512 : Int)) hM dX12_rowWays_195 rfl rfl ?_
                              obtain ⟨o154, h⟩ := h
                              refine sv_callV hM dX12_rowWays_198 sm_iv_1072 (by decide) (sm_a0 _) rfl rfl (Nat.le_of_ble_eq_true rfl) sm_h213 (Nat.le_of_ble_eq_true rfl) (Nat.le_of_ble_eq_true rfl) (F' := 2) (Nat.le_of_ble_eq_true rfl) rfl (t_addSort r145 (512 : Int) (sv_sts (sv_sts (sv_sts (sv_sts S [68, 69, 70] g7) [68, 69, 70] g32) [68, 69, 70] g46) [68, 69, 70] g147) ok148 hr145 (⟨by decide, by decide⟩ : sv_R (512 : Int)) o154) (fun v S1 hq => ?_)
                              obtain ⟨rfl, ok156, md157, hpo158⟩ := hq
                              obtain ⟨g155, rfl⟩ : ∃ g, S1 = sv_sts (sv_sts (sv_sts (sv_sts (sv_sts S [68, 69, 70] g7) [68, 69, 70] g32) [68, 69, 70] g46) [68, 69, 70] g147) [68, 69, 70] g := ⟨_, md157.eq⟩
                              show sv_T sm_XS sm_cs sm_L sm_sh 3 (q_rowWays p1 p2 p3 p4 S) 289 201 [(0, .ref 0), (1, sv_I p1), (2, sv_I p2), (3, sv_I p3), (4, sv_I p4), (5, sv_I l5_8), (6, sv_I l6_9), (7, sv_I l7_47), (8, sv_I r145)] [] (sv_sts (sv_sts (sv_sts (sv_sts (sv_sts S [68, 69, 70] g7) [68, 69, 70] g32) [68, 69, 70] g46) [68, 69, 70] g147) [68, 69, 70] g155)
                              have md159 : sv_mod [68, 69, 70] S (sv_sts (sv_sts (sv_sts (sv_sts (sv_sts S [68, 69, 70] g7) [68, 69, 70] g32) [68, 69, 70] g46) [68, 69, 70] g147) [68, 69, 70] g155) := sv_mod.sts md151 (by decide)
                              have md160 : sv_mod [68, 69, 70] S (sv_sts (sv_sts (sv_sts (sv_sts (sv_sts S [68, 69, 70] g7) [68, 69, 70] g32) [68, 69, 70] g46) [68, 69, 70] g147) [68, 69, 70] g155) := sv_mod.sts md152 (by decide)
                              have md161 : sv_mod [68, 69, 70] (sv_sts (sv_sts S [68, 69, 70] g7) [68, 69, 70] g32) (sv_sts (sv_sts (sv_sts (sv_sts (sv_sts S [68, 69, 70] g7) [68, 69, 70] g32) [68, 69, 70] g46) [68, 69, 70] g147) [68, 69, 70] g155) := sv_mod.sts md153 (by decide)
                              have h := h g155 hpo158
                              refine sv_iinc (d := (1 : Int)) hM dX12_rowWays_201 rfl (by decide) rfl rfl ?_
                              show sv_T sm_XS sm_cs sm_L sm_sh 3 (q_rowWays p1 p2 p3 p4 S) 289 204 [(0, .ref 0), (1, sv_I p1), (2, sv_I p2), (3, sv_I p3), (4, sv_I p4), (5, sv_I l5_8), (6, sv_I l6_9), (7, sv_I (l7_47 + (1 : Int))), (8, sv_I r145)] [] (sv_sts (sv_sts (sv_sts (sv_sts (sv_sts S [68, 69, 70] g7) [68, 69, 70] g32) [68, 69, 70] g46) [68, 69, 70] g147) [68, 69, 70] g155)
                              refine sv_goto hM dX12_rowWays_204 (pc' := 106) rfl ?_
                              obtain ⟨o162, h⟩ := h
                              have eS := sv_mod.eq md161
                              have hb := ih48 ((l7_47 + (1 : Int)), (sv_sts (sv_sts (sv_sts (sv_sts (sv_sts S [68, 69, 70] g7) [68, 69, 70] g32) [68, 69, 70] g46) [68, 69, 70] g147) [68, 69, 70] g155)) ⟨o162, (by rw [← eS]; exact ok156), h.1⟩ h.2
                              have hb : sv_T sm_XS sm_cs sm_L sm_sh 3 (q_rowWays p1 p2 p3 p4 S) 289 106 [(0, .ref 0), (1, sv_I p1), (2, sv_I p2), (3, sv_I p3), (4, sv_I p4), (5, sv_I l5_8), (6, sv_I l6_9), (7, sv_I (l7_47 + (1 : Int)))] [] (sv_sts (sv_sts (sv_sts (sv_sts (sv_sts S [68, 69, 70] g7) [68, 69, 70] g32) [68, 69, 70] g46) [68, 69, 70] g147) [68, 69, 70] g155) := Eq.mpr (congrArg (fun Z => sv_T sm_XS sm_cs sm_L sm_sh 3 (q_rowWays p1 p2 p3 p4 S) 289 106 [(0, .ref 0), (1, sv_I p1), (2, sv_I p2), (3, sv_I p3), (4, sv_I p4), (5, sv_I l5_8), (6, sv_I l6_9), (7, sv_I (l7_47 + (1 : Int)))] [] Z) eS) hb
                              exact sv_less (lv := [(0, .ref 0), (1, sv_I p1), (2, sv_I p2), (3, sv_I p3), (4, sv_I p4), (5, sv_I l5_8), (6, sv_I l6_9), (7, sv_I (l7_47 + (1 : Int)))]) (sv_Sub_cons rfl (sv_Sub_cons rfl (sv_Sub_cons rfl (sv_Sub_cons rfl (sv_Sub_cons rfl (sv_Sub_cons rfl (sv_Sub_cons rfl (sv_Sub_cons rfl sv_Sub_nil)))))))) hb
                            · have h := h.2 (hc)
                              refine sv_aload_n hM dX12_rowWays_172 rfl rfl ?_
                              refine sv_iload_n hM dX12_rowWays_173 rfl rfl ?_
                              refine sv_iload hM dX12_rowWays_174 rfl rfl ?_
                              obtain ⟨o163, h⟩ := h
                              refine sv_callV hM dX12_rowWays_176 sm_iv_1069 (by decide) (sm_a0 _) rfl rfl (Nat.le_of_ble_eq_true rfl) sm_h208 (Nat.le_of_ble_eq_true rfl) (Nat.le_of_ble_eq_true rfl) (F' := 1) (Nat.le_of_ble_eq_true rfl) rfl (t_join p3 r145 (sv_sts (sv_sts (sv_sts S [68, 69, 70] g7) [68, 69, 70] g32) [68, 69, 70] g46) ok142 hp3 hr145 o163) (fun v S1 hq => ?_)
                              obtain ⟨r168, rfl, hr168, ok165, md166, hpo167⟩ := hq
                              obtain ⟨g164, rfl⟩ : ∃ g, S1 = sv_sts (sv_sts (sv_sts (sv_sts S [68, 69, 70] g7) [68, 69, 70] g32) [68, 69, 70] g46) [68, 69, 70] g := ⟨_, md166.eq⟩
                              show sv_T sm_XS sm_cs sm_L sm_sh 3 (q_rowWays p1 p2 p3 p4 S) 289 179 [(0, .ref 0), (1, sv_I p1), (2, sv_I p2), (3, sv_I p3), (4, sv_I p4), (5, sv_I l5_8), (6, sv_I l6_9), (7, sv_I l7_47), (8, sv_I r145)] [sv_I r168] (sv_sts (sv_sts (sv_sts (sv_sts S [68, 69, 70] g7) [68, 69, 70] g32) [68, 69, 70] g46) [68, 69, 70] g164)
                              have md169 : sv_mod [68, 69, 70] S (sv_sts (sv_sts (sv_sts (sv_sts S [68, 69, 70] g7) [68, 69, 70] g32) [68, 69, 70] g46) [68, 69, 70] g164) := sv_mod.sts md51 (by decide)
                              have md170 : sv_mod [68, 69, 70] S (sv_sts (sv_sts (sv_sts (sv_sts S [68, 69, 70] g7) [68, 69, 70] g32) [68, 69, 70] g46) [68, 69, 70] g164) := sv_mod.sts md52 (by decide)
                              have md171 : sv_mod [68, 69, 70] (sv_sts (sv_sts S [68, 69, 70] g7) [68, 69, 70] g32) (sv_sts (sv_sts (sv_sts (sv_sts S [68, 69, 70] g7) [68, 69, 70] g32) [68, 69, 70] g46) [68, 69, 70] g164) := sv_mod.sts md53 (by decide)
                              have h := h r168 hr168 g164 hpo167
                              refine sv_istore hM dX12_rowWays_179 (by decide) rfl ?_
                              show sv_T sm_XS sm_cs sm_L sm_sh 3 (q_rowWays p1 p2 p3 p4 S) 289 181 [(0, .ref 0), (1, sv_I p1), (2, sv_I p2), (3, sv_I p3), (4, sv_I p4), (5, sv_I l5_8), (6, sv_I l6_9), (7, sv_I l7_47), (8, sv_I r145), (9, sv_I r168)] [] (sv_sts (sv_sts (sv_sts (sv_sts S [68, 69, 70] g7) [68, 69, 70] g32) [68, 69, 70] g46) [68, 69, 70] g164)
                              refine sv_goto hM dX12_rowWays_181 (pc' := 201) rfl ?_
                              refine sv_iinc (d := (1 : Int)) hM dX12_rowWays_201 rfl (by decide) rfl rfl ?_
                              show sv_T sm_XS sm_cs sm_L sm_sh 3 (q_rowWays p1 p2 p3 p4 S) 289 204 [(0, .ref 0), (1, sv_I p1), (2, sv_I p2), (3, sv_I p3), (4, sv_I p4), (5, sv_I l5_8), (6, sv_I l6_9), (7, sv_I (l7_47 + (1 : Int))), (8, sv_I r145), (9, sv_I r168)] [] (sv_sts (sv_sts (sv_sts (sv_sts S [68, 69, 70] g7) [68, 69, 70] g32) [68, 69, 70] g46) [68, 69, 70] g164)
                              refine sv_goto hM dX12_rowWays_204 (pc' := 106) rfl ?_
                              obtain ⟨o172, h⟩ := h
                              have eS := sv_mod.eq md171
                              have hb := ih48 ((l7_47 + (1 : Int)), (sv_sts (sv_sts (sv_sts (sv_sts S [68, 69, 70] g7) [68, 69, 70] g32) [68, 69, 70] g46) [68, 69, 70] g164)) ⟨o172, (by rw [← eS]; exact ok165), h.1⟩ h.2
                              have hb : sv_T sm_XS sm_cs sm_L sm_sh 3 (q_rowWays p1 p2 p3 p4 S) 289 106 [(0, .ref 0), (1, sv_I p1), (2, sv_I p2), (3, sv_I p3), (4, sv_I p4), (5, sv_I l5_8), (6, sv_I l6_9), (7, sv_I (l7_47 + (1 : Int)))] [] (sv_sts (sv_sts (sv_sts (sv_sts S [68, 69, 70] g7) [68, 69, 70] g32) [68, 69, 70] g46) [68, 69, 70] g164) := Eq.mpr (congrArg (fun Z => sv_T sm_XS sm_cs sm_L sm_sh 3 (q_rowWays p1 p2 p3 p4 S) 289 106 [(0, .ref 0), (1, sv_I p1), (2, sv_I p2), (3, sv_I p3), (4, sv_I p4), (5, sv_I l5_8), (6, sv_I l6_9), (7, sv_I (l7_47 + (1 : Int)))] [] Z) eS) hb
                              exact sv_less (lv := [(0, .ref 0), (1, sv_I p1), (2, sv_I p2), (3, sv_I p3), (4, sv_I p4), (5, sv_I l5_8), (6, sv_I l6_9), (7, sv_I (l7_47 + (1 : Int)))]) (sv_Sub_cons rfl (sv_Sub_cons rfl (sv_Sub_cons rfl (sv_Sub_cons rfl (sv_Sub_cons rfl (sv_Sub_cons rfl (sv_Sub_cons rfl (sv_Sub_cons rfl sv_Sub_nil)))))))) hb
                          · have h := h.2 (hc)
                            refine sv_goto hM dX12_rowWays_150 (pc' := 201) rfl ?_
                            refine sv_iinc (d := (1 : Int)) hM dX12_rowWays_201 rfl (by decide) rfl rfl ?_
                            show sv_T sm_XS sm_cs sm_L sm_sh 3 (q_rowWays p1 p2 p3 p4 S) 289 204 [(0, .ref 0), (1, sv_I p1), (2, sv_I p2), (3, sv_I p3), (4, sv_I p4), (5, sv_I l5_8), (6, sv_I l6_9), (7, sv_I (l7_47 + (1 : Int)))] [] (sv_sts (sv_sts (sv_sts S [68, 69, 70] g7) [68, 69, 70] g32) [68, 69, 70] g46)
                            refine sv_goto hM dX12_rowWays_204 (pc' := 106) rfl ?_
                            obtain ⟨o173, h⟩ := h
                            have eS := sv_mod.eq md53
                            have hb := ih48 ((l7_47 + (1 : Int)), (sv_sts (sv_sts (sv_sts S [68, 69, 70] g7) [68, 69, 70] g32) [68, 69, 70] g46)) ⟨o173, (by rw [← eS]; exact ok50), h.1⟩ h.2
                            have hb : sv_T sm_XS sm_cs sm_L sm_sh 3 (q_rowWays p1 p2 p3 p4 S) 289 106 [(0, .ref 0), (1, sv_I p1), (2, sv_I p2), (3, sv_I p3), (4, sv_I p4), (5, sv_I l5_8), (6, sv_I l6_9), (7, sv_I (l7_47 + (1 : Int)))] [] (sv_sts (sv_sts (sv_sts S [68, 69, 70] g7) [68, 69, 70] g32) [68, 69, 70] g46) := Eq.mpr (congrArg (fun Z => sv_T sm_XS sm_cs sm_L sm_sh 3 (q_rowWays p1 p2 p3 p4 S) 289 106 [(0, .ref 0), (1, sv_I p1), (2, sv_I p2), (3, sv_I p3), (4, sv_I p4), (5, sv_I l5_8), (6, sv_I l6_9), (7, sv_I (l7_47 + (1 : Int)))] [] Z) eS) hb
                            exact sv_less (lv := [(0, .ref 0), (1, sv_I p1), (2, sv_I p2), (3, sv_I p3), (4, sv_I p4), (5, sv_I l5_8), (6, sv_I l6_9), (7, sv_I (l7_47 + (1 : Int)))]) (sv_Sub_cons rfl (sv_Sub_cons rfl (sv_Sub_cons rfl (sv_Sub_cons rfl (sv_Sub_cons rfl (sv_Sub_cons rfl (sv_Sub_cons rfl (sv_Sub_cons rfl sv_Sub_nil)))))))) hb
                have eS := sv_mod.eq (sv_mod.rf (l := [68, 69, 70]) (S := (sv_sts (sv_sts S [68, 69, 70] g7) [68, 69, 70] g32)))
                have hb := hJ ((0 : Int), (sv_sts (sv_sts S [68, 69, 70] g7) [68, 69, 70] g32)) ⟨(⟨by decide, by decide⟩ : sv_R (0 : Int)), (by rw [← eS]; exact ok40), hin49⟩
                have hb : sv_T sm_XS sm_cs sm_L sm_sh 3 (q_rowWays p1 p2 p3 p4 S) 289 106 [(0, .ref 0), (1, sv_I p1), (2, sv_I p2), (3, sv_I p3), (4, sv_I p4), (5, sv_I l5_8), (6, sv_I l6_9), (7, sv_I (0 : Int))] [] (sv_sts (sv_sts S [68, 69, 70] g7) [68, 69, 70] g32) := Eq.mpr (congrArg (fun Z => sv_T sm_XS sm_cs sm_L sm_sh 3 (q_rowWays p1 p2 p3 p4 S) 289 106 [(0, .ref 0), (1, sv_I p1), (2, sv_I p2), (3, sv_I p3), (4, sv_I p4), (5, sv_I l5_8), (6, sv_I l6_9), (7, sv_I (0 : Int))] [] Z) eS) hb
                exact hb
              · have h := h.2 (hc)
                refine sv_goto hM dX12_rowWays_100 (pc' := 223) rfl ?_
                refine sv_iinc (d := (1 : Int)) hM dX12_rowWays_223 rfl (by decide) rfl rfl ?_
                show sv_T sm_XS sm_cs sm_L sm_sh 3 (q_rowWays p1 p2 p3 p4 S) 289 226 [(0, .ref 0), (1, sv_I p1), (2, sv_I p2), (3, sv_I p3), (4, sv_I p4), (5, sv_I l5_8), (6, sv_I (l6_9 + (1 : Int)))] [] (sv_sts (sv_sts S [68, 69, 70] g7) [68, 69, 70] g32)
                refine sv_goto hM dX12_rowWays_226 (pc' := 18) rfl ?_
                obtain ⟨o174, h⟩ := h
                have eS := sv_mod.eq md37
                have hb := ih10 (l5_8, (l6_9 + (1 : Int)), (sv_sts (sv_sts S [68, 69, 70] g7) [68, 69, 70] g32)) ⟨hl5_8, o174, (by rw [← eS]; exact ok40), h.1⟩ h.2
                have hb : sv_T sm_XS sm_cs sm_L sm_sh 3 (q_rowWays p1 p2 p3 p4 S) 289 18 [(0, .ref 0), (1, sv_I p1), (2, sv_I p2), (3, sv_I p3), (4, sv_I p4), (5, sv_I l5_8), (6, sv_I (l6_9 + (1 : Int)))] [] (sv_sts (sv_sts S [68, 69, 70] g7) [68, 69, 70] g32) := Eq.mpr (congrArg (fun Z => sv_T sm_XS sm_cs sm_L sm_sh 3 (q_rowWays p1 p2 p3 p4 S) 289 18 [(0, .ref 0), (1, sv_I p1), (2, sv_I p2), (3, sv_I p3), (4, sv_I p4), (5, sv_I l5_8), (6, sv_I (l6_9 + (1 : Int)))] [] Z) eS) hb
                exact sv_less (lv := [(0, .ref 0), (1, sv_I p1), (2, sv_I p2), (3, sv_I p3), (4, sv_I p4), (5, sv_I l5_8), (6, sv_I (l6_9 + (1 : Int)))]) (sv_Sub_cons rfl (sv_Sub_cons rfl (sv_Sub_cons rfl (sv_Sub_cons rfl (sv_Sub_cons rfl (sv_Sub_cons rfl (sv_Sub_cons rfl sv_Sub_nil))))))) hb
            · have h := h.2 (hc)
              refine sv_bipush (d := (64 : Int)) hM dX12_rowWays_74 rfl rfl ?_
              refine sv_goto hM dX12_rowWays_76 (pc' := 80) rfl ?_
              obtain ⟨o175, h⟩ := h
              refine sv_callV hM dX12_rowWays_80 sm_iv_1072 (by decide) (sm_a0 _) rfl rfl (Nat.le_of_ble_eq_true rfl) sm_h213 (Nat.le_of_ble_eq_true rfl) (Nat.le_of_ble_eq_true rfl) (F' := 2) (Nat.le_of_ble_eq_true rfl) rfl (t_addSort p4 (64 : Int) (sv_sts S [68, 69, 70] g7) ok27 hp4 (⟨by decide, by decide⟩ : sv_R (64 : Int)) o175) (fun v S1 hq => ?_)
              obtain ⟨rfl, ok177, md178, hpo179⟩ := hq
              obtain ⟨g176, rfl⟩ : ∃ g, S1 = sv_sts (sv_sts S [68, 69, 70] g7) [68, 69, 70] g := ⟨_, md178.eq⟩
              show sv_T sm_XS sm_cs sm_L sm_sh 3 (q_rowWays p1 p2 p3 p4 S) 289 83 [(0, .ref 0), (1, sv_I p1), (2, sv_I p2), (3, sv_I p3), (4, sv_I p4), (5, sv_I l5_8), (6, sv_I l6_9)] [] (sv_sts (sv_sts S [68, 69, 70] g7) [68, 69, 70] g176)
              have md180 : sv_mod [68, 69, 70] S (sv_sts (sv_sts S [68, 69, 70] g7) [68, 69, 70] g176) := sv_mod.sts md13 (by decide)
              have md181 : sv_mod [68, 69, 70] S (sv_sts (sv_sts S [68, 69, 70] g7) [68, 69, 70] g176) := sv_mod.sts md14 (by decide)
              have h := h g176 hpo179
              refine sv_aload_n hM dX12_rowWays_83 rfl rfl ?_
              refine sv_getA hM dX12_rowWays_84 sm_fl_256 (sm_a0 _) sm_k133 rfl ?_
              refine sv_aload_n hM dX12_rowWays_87 rfl rfl ?_
              refine sv_sipush (d := (639 : Int)) hM dX12_rowWays_88 rfl rfl ?_
              refine sv_iload hM dX12_rowWays_91 rfl rfl ?_
              obtain ⟨o182, h⟩ := h
              refine sv_callV hM dX12_rowWays_93 sm_iv_1101 (by decide) (sm_a0 _) rfl rfl (Nat.le_of_ble_eq_true rfl) sm_h226 (Nat.le_of_ble_eq_true rfl) (Nat.le_of_ble_eq_true rfl) (F' := 1) (Nat.le_of_ble_eq_true rfl) rfl (t_of (639 : Int) l6_9 (sv_sts (sv_sts S [68, 69, 70] g7) [68, 69, 70] g176) ok177 (⟨by decide, by decide⟩ : sv_R (639 : Int)) hl6_9 o182) (fun v S1 hq => ?_)
              obtain ⟨r187, rfl, hr187, ok184, md185, hpo186⟩ := hq
              obtain rfl : (sv_sts (sv_sts S [68, 69, 70] g7) [68, 69, 70] g176) = S1 := (funext fun j => md185 j (by intro q; cases q)).symm
              show sv_T sm_XS sm_cs sm_L sm_sh 3 (q_rowWays p1 p2 p3 p4 S) 289 96 [(0, .ref 0), (1, sv_I p1), (2, sv_I p2), (3, sv_I p3), (4, sv_I p4), (5, sv_I l5_8), (6, sv_I l6_9)] [sv_I r187, .ref 81] (sv_sts (sv_sts S [68, 69, 70] g7) [68, 69, 70] g176)
              have h := h r187 hr187 hpo186
              obtain ⟨o188, h⟩ := h
              have k189 : (0 ≤ (S 81 r187) ∧ (S 81 r187) ≤ 1) := sm_okZ ok184 sm_r81 r187
              have h := h k189
              refine sv_zald hM dX12_rowWays_96 (sm_a81 _) (by decide) o188.1 o188.2 rfl (x := (S 81 r187)) rfl ?_
              refine sv_cond_ne hM dX12_rowWays_97 (sv_R01 k189) (t := 103) rfl rfl (fun hc => ?_) (fun hc => ?_)
              · have h := h.1 (hc)
                refine sv_iconst (d := (0 : Int)) hM dX12_rowWays_103 rfl rfl ?_
                refine sv_istore hM dX12_rowWays_104 (by decide) rfl ?_
                show sv_T sm_XS sm_cs sm_L sm_sh 3 (q_rowWays p1 p2 p3 p4 S) 289 106 [(0, .ref 0), (1, sv_I p1), (2, sv_I p2), (3, sv_I p3), (4, sv_I p4), (5, sv_I l5_8), (6, sv_I l6_9), (7, sv_I (0 : Int))] [] (sv_sts (sv_sts S [68, 69, 70] g7) [68, 69, 70] g176)
                obtain ⟨hin193, h⟩ := h
                have hJ : ∀ a : Int × sv_S, (sv_R a.1 ∧ sm_ok (sv_sts (sv_sts (sv_sts S [68, 69, 70] g7) [68, 69, 70] g176) [68, 69, 70] a.2) ∧ (0 ≤ a.1 ∧ a.1 ≤ (S 1008 0) + 1 ∧ sm_pt (a.2 68) (a.2 69) (a.2 70) = sm_pt (S 68) (S 69) (S 70))) → sv_T sm_XS sm_cs sm_L sm_sh 3 (q_rowWays p1 p2 p3 p4 S) 289 106 [(0, .ref 0), (1, sv_I p1), (2, sv_I p2), (3, sv_I p3), (4, sv_I p4), (5, sv_I l5_8), (6, sv_I l6_9), (7, sv_I a.1)] [] (sv_sts (sv_sts (sv_sts S [68, 69, 70] g7) [68, 69, 70] g176) [68, 69, 70] a.2) := by
                  refine sv_loop (α := Int × sv_S) (fun a => sv_R a.1 ∧ sm_ok (sv_sts (sv_sts (sv_sts S [68, 69, 70] g7) [68, 69, 70] g176) [68, 69, 70] a.2) ∧ (0 ≤ a.1 ∧ a.1 ≤ (S 1008 0) + 1 ∧ sm_pt (a.2 68) (a.2 69) (a.2 70) = sm_pt (S 68) (S 69) (S 70))) (fun a => (S 1008 0) + 1 - a.1) (fun a => sv_T sm_XS sm_cs sm_L sm_sh 3 (q_rowWays p1 p2 p3 p4 S) 289 106 [(0, .ref 0), (1, sv_I p1), (2, sv_I p2), (3, sv_I p3), (4, sv_I p4), (5, sv_I l5_8), (6, sv_I l6_9), (7, sv_I a.1)] [] (sv_sts (sv_sts (sv_sts S [68, 69, 70] g7) [68, 69, 70] g176) [68, 69, 70] a.2)) (fun a q => (h a.1 q.1 a.2 q.2.2).1) (fun a q ih192 => ?_)
                  obtain ⟨l7_191, g190⟩ := a
                  obtain ⟨hl7_191, ok194, hin193i⟩ := q
                  have h := (h l7_191 hl7_191 g190 hin193i).2
                  show sv_T sm_XS sm_cs sm_L sm_sh 3 (q_rowWays p1 p2 p3 p4 S) 289 106 [(0, .ref 0), (1, sv_I p1), (2, sv_I p2), (3, sv_I p3), (4, sv_I p4), (5, sv_I l5_8), (6, sv_I l6_9), (7, sv_I l7_191)] [] (sv_sts (sv_sts (sv_sts S [68, 69, 70] g7) [68, 69, 70] g176) [68, 69, 70] g190)
                  have md195 : sv_mod [68, 69, 70] S (sv_sts (sv_sts (sv_sts S [68, 69, 70] g7) [68, 69, 70] g176) [68, 69, 70] g190) := sv_mod.sts md180 (by decide)
                  have md196 : sv_mod [68, 69, 70] S (sv_sts (sv_sts (sv_sts S [68, 69, 70] g7) [68, 69, 70] g176) [68, 69, 70] g190) := sv_mod.sts md181 (by decide)
                  have md197 : sv_mod [68, 69, 70] (sv_sts (sv_sts S [68, 69, 70] g7) [68, 69, 70] g176) (sv_sts (sv_sts (sv_sts S [68, 69, 70] g7) [68, 69, 70] g176) [68, 69, 70] g190) := sv_mod.sts sv_mod.rf (by decide)
                  refine sv_iload hM dX12_rowWays_106 rfl rfl ?_
                  refine sv_aload_n hM dX12_rowWays_108 rfl rfl ?_
                  have k198 : sv_R (S 1008 0) := sm_okI ok194 sm_r1008 0
                  have h := h k198
                  refine sv_getI hM dX12_rowWays_109 sm_fl_762 (sm_a0 _) sm_k8 rfl (x := (S 1008 0)) rfl ?_
                  refine sv_icmp_gt hM dX12_rowWays_112 hl7_191 k198 (t := 207) rfl rfl (fun hc => ?_) (fun hc => ?_)
                  · have h := h.1 (hc)
                    refine sv_aload_n hM dX12_rowWays_207 rfl rfl ?_
                    refine sv_aload_n hM dX12_rowWays_208 rfl rfl ?_
                    refine sv_sipush (d := (639 : Int)) hM dX12_rowWays_209 rfl rfl ?_
                    refine sv_iload hM dX12_rowWays_212 rfl rfl ?_
                    refine sv_iconst (d := (0 : Int)) hM dX12_rowWays_214 rfl rfl ?_
                    obtain ⟨o199, h⟩ := h
                    refine sv_callV hM dX12_rowWays_215 sm_iv_1163 (by decide) (sm_a0 _) rfl rfl (Nat.le_of_ble_eq_true rfl) sm_h225 (Nat.le_of_ble_eq_true rfl) (Nat.le_of_ble_eq_true rfl) (F' := 1) (Nat.le_of_ble_eq_true rfl) rfl (t_field (639 : Int) l6_9 (0 : Int) (sv_sts (sv_sts (sv_sts S [68, 69, 70] g7) [68, 69, 70] g176) [68, 69, 70] g190) ok194 (⟨by decide, by decide⟩ : sv_R (639 : Int)) hl6_9 (⟨by decide, by decide⟩ : sv_R (0 : Int)) o199) (fun v S1 hq => ?_)
                    obtain ⟨r204, rfl, hr204, ok201, md202, hpo203⟩ := hq
                    obtain rfl : (sv_sts (sv_sts (sv_sts S [68, 69, 70] g7) [68, 69, 70] g176) [68, 69, 70] g190) = S1 := (funext fun j => md202 j (by intro q; cases q)).symm
                    show sv_T sm_XS sm_cs sm_L sm_sh 3 (q_rowWays p1 p2 p3 p4 S) 289 218 [(0, .ref 0), (1, sv_I p1), (2, sv_I p2), (3, sv_I p3), (4, sv_I p4), (5, sv_I l5_8), (6, sv_I l6_9), (7, sv_I l7_191)] [sv_I r204, .ref 0] (sv_sts (sv_sts (sv_sts S [68, 69, 70] g7) [68, 69, 70] g176) [68, 69, 70] g190)
                    have h := h r204 hr204 hpo203
                    refine sv_bipush (d := (64 : Int)) hM dX12_rowWays_218 rfl rfl ?_
                    obtain ⟨o205, h⟩ := h
                    refine sv_callV hM dX12_rowWays_220 sm_iv_1072 (by decide) (sm_a0 _) rfl rfl (Nat.le_of_ble_eq_true rfl) sm_h213 (Nat.le_of_ble_eq_true rfl) (Nat.le_of_ble_eq_true rfl) (F' := 2) (Nat.le_of_ble_eq_true rfl) rfl (t_addSort r204 (64 : Int) (sv_sts (sv_sts (sv_sts S [68, 69, 70] g7) [68, 69, 70] g176) [68, 69, 70] g190) ok201 hr204 (⟨by decide, by decide⟩ : sv_R (64 : Int)) o205) (fun v S1 hq => ?_)
                    obtain ⟨rfl, ok207, md208, hpo209⟩ := hq
                    obtain ⟨g206, rfl⟩ : ∃ g, S1 = sv_sts (sv_sts (sv_sts (sv_sts S [68, 69, 70] g7) [68, 69, 70] g176) [68, 69, 70] g190) [68, 69, 70] g := ⟨_, md208.eq⟩
                    show sv_T sm_XS sm_cs sm_L sm_sh 3 (q_rowWays p1 p2 p3 p4 S) 289 223 [(0, .ref 0), (1, sv_I p1), (2, sv_I p2), (3, sv_I p3), (4, sv_I p4), (5, sv_I l5_8), (6, sv_I l6_9), (7, sv_I l7_191)] [] (sv_sts (sv_sts (sv_sts (sv_sts S [68, 69, 70] g7) [68, 69, 70] g176) [68, 69, 70] g190) [68, 69, 70] g206)
                    have md210 : sv_mod [68, 69, 70] S (sv_sts (sv_sts (sv_sts (sv_sts S [68, 69, 70] g7) [68, 69, 70] g176) [68, 69, 70] g190) [68, 69, 70] g206) := sv_mod.sts md195 (by decide)
                    have md211 : sv_mod [68, 69, 70] S (sv_sts (sv_sts (sv_sts (sv_sts S [68, 69, 70] g7) [68, 69, 70] g176) [68, 69, 70] g190) [68, 69, 70] g206) := sv_mod.sts md196 (by decide)
                    have md212 : sv_mod [68, 69, 70] (sv_sts (sv_sts S [68, 69, 70] g7) [68, 69, 70] g176) (sv_sts (sv_sts (sv_sts (sv_sts S [68, 69, 70] g7) [68, 69, 70] g176) [68, 69, 70] g190) [68, 69, 70] g206) := sv_mod.sts md197 (by decide)
                    have h := h g206 hpo209
                    refine sv_iinc (d := (1 : Int)) hM dX12_rowWays_223 rfl (by decide) rfl rfl ?_
                    show sv_T sm_XS sm_cs sm_L sm_sh 3 (q_rowWays p1 p2 p3 p4 S) 289 226 [(0, .ref 0), (1, sv_I p1), (2, sv_I p2), (3, sv_I p3), (4, sv_I p4), (5, sv_I l5_8), (6, sv_I (l6_9 + (1 : Int))), (7, sv_I l7_191)] [] (sv_sts (sv_sts (sv_sts (sv_sts S [68, 69, 70] g7) [68, 69, 70] g176) [68, 69, 70] g190) [68, 69, 70] g206)
                    refine sv_goto hM dX12_rowWays_226 (pc' := 18) rfl ?_
                    obtain ⟨o213, h⟩ := h
                    have eS := sv_mod.eq md211
                    have hb := ih10 (l5_8, (l6_9 + (1 : Int)), (sv_sts (sv_sts (sv_sts (sv_sts S [68, 69, 70] g7) [68, 69, 70] g176) [68, 69, 70] g190) [68, 69, 70] g206)) ⟨hl5_8, o213, (by rw [← eS]; exact ok207), h.1⟩ h.2
                    have hb : sv_T sm_XS sm_cs sm_L sm_sh 3 (q_rowWays p1 p2 p3 p4 S) 289 18 [(0, .ref 0), (1, sv_I p1), (2, sv_I p2), (3, sv_I p3), (4, sv_I p4), (5, sv_I l5_8), (6, sv_I (l6_9 + (1 : Int)))] [] (sv_sts (sv_sts (sv_sts (sv_sts S [68, 69, 70] g7) [68, 69, 70] g176) [68, 69, 70] g190) [68, 69, 70] g206) := Eq.mpr (congrArg (fun Z => sv_T sm_XS sm_cs sm_L sm_sh 3 (q_rowWays p1 p2 p3 p4 S) 289 18 [(0, .ref 0), (1, sv_I p1), (2, sv_I p2), (3, sv_I p3), (4, sv_I p4), (5, sv_I l5_8), (6, sv_I (l6_9 + (1 : Int)))] [] Z) eS) hb
                    exact sv_less (lv := [(0, .ref 0), (1, sv_I p1), (2, sv_I p2), (3, sv_I p3), (4, sv_I p4), (5, sv_I l5_8), (6, sv_I (l6_9 + (1 : Int)))]) (sv_Sub_cons rfl (sv_Sub_cons rfl (sv_Sub_cons rfl (sv_Sub_cons rfl (sv_Sub_cons rfl (sv_Sub_cons rfl (sv_Sub_cons rfl sv_Sub_nil))))))) hb
                  · have h := h.2 (hc)
                    refine sv_iload hM dX12_rowWays_115 rfl rfl ?_
                    refine sv_aload_n hM dX12_rowWays_117 rfl rfl ?_
                    refine sv_getI hM dX12_rowWays_118 sm_fl_762 (sm_a0 _) sm_k8 rfl (x := (S 1008 0)) rfl ?_
                    refine sv_icmp_ge hM dX12_rowWays_121 hl7_191 k198 (t := 153) rfl rfl (fun hc => ?_) (fun hc => ?_)
                    · have h := h.1 (hc)
                      refine sv_aload_n hM dX12_rowWays_153 rfl rfl ?_
                      refine sv_sipush (d := (639 : Int)) hM dX12_rowWays_154 rfl rfl ?_
                      refine sv_iload hM dX12_rowWays_157 rfl rfl ?_
                      refine sv_iload hM dX12_rowWays_159 rfl rfl ?_
                      obtain ⟨o214, h⟩ := h
                      refine sv_callV hM dX12_rowWays_161 sm_iv_1163 (by decide) (sm_a0 _) rfl rfl (Nat.le_of_ble_eq_true rfl) sm_h225 (Nat.le_of_ble_eq_true rfl) (Nat.le_of_ble_eq_true rfl) (F' := 1) (Nat.le_of_ble_eq_true rfl) rfl (t_field (639 : Int) l6_9 l7_191 (sv_sts (sv_sts (sv_sts S [68, 69, 70] g7) [68, 69, 70] g176) [68, 69, 70] g190) ok194 (⟨by decide, by decide⟩ : sv_R (639 : Int)) hl6_9 hl7_191 o214) (fun v S1 hq => ?_)
                      obtain ⟨r219, rfl, hr219, ok216, md217, hpo218⟩ := hq
                      obtain rfl : (sv_sts (sv_sts (sv_sts S [68, 69, 70] g7) [68, 69, 70] g176) [68, 69, 70] g190) = S1 := (funext fun j => md217 j (by intro q; cases q)).symm
                      show sv_T sm_XS sm_cs sm_L sm_sh 3 (q_rowWays p1 p2 p3 p4 S) 289 164 [(0, .ref 0), (1, sv_I p1), (2, sv_I p2), (3, sv_I p3), (4, sv_I p4), (5, sv_I l5_8), (6, sv_I l6_9), (7, sv_I l7_191)] [sv_I r219] (sv_sts (sv_sts (sv_sts S [68, 69, 70] g7) [68, 69, 70] g176) [68, 69, 70] g190)
                      have h := h r219 hr219 hpo218
                      refine sv_istore hM dX12_rowWays_164 (by decide) rfl ?_
                      show sv_T sm_XS sm_cs sm_L sm_sh 3 (q_rowWays p1 p2 p3 p4 S) 289 166 [(0, .ref 0), (1, sv_I p1), (2, sv_I p2), (3, sv_I p3), (4, sv_I p4), (5, sv_I l5_8), (6, sv_I l6_9), (7, sv_I l7_191), (8, sv_I r219)] [] (sv_sts (sv_sts (sv_sts S [68, 69, 70] g7) [68, 69, 70] g176) [68, 69, 70] g190)
                      refine sv_iload_n hM dX12_rowWays_166 rfl rfl ?_
                      refine sv_bipush (d := (18 : Int)) hM dX12_rowWays_167 rfl rfl ?_
                      refine sv_icmp_ne hM dX12_rowWays_169 hp1 (⟨by decide, by decide⟩ : sv_R (18 : Int)) (t := 184) rfl rfl (fun hc => ?_) (fun hc => ?_)
                      · have h := h.1 (hc)
                        refine sv_aload_n hM dX12_rowWays_184 rfl rfl ?_
                        refine sv_iload hM dX12_rowWays_185 rfl rfl ?_
                        refine sv_iload hM dX12_rowWays_187 rfl rfl ?_
                        obtain ⟨o220, h⟩ := h
                        refine sv_callV hM dX12_rowWays_189 sm_iv_1228 (by decide) (sm_a0 _) rfl rfl (Nat.le_of_ble_eq_true rfl) sm_h266 (Nat.le_of_ble_eq_true rfl) (Nat.le_of_ble_eq_true rfl) (F' := 2) (Nat.le_of_ble_eq_true rfl) rfl (t_joinPlain r219 p4 (sv_sts (sv_sts (sv_sts S [68, 69, 70] g7) [68, 69, 70] g176) [68, 69, 70] g190) ok216 hr219 hp4 o220) (fun v S1 hq => ?_)
                        obtain ⟨rfl, ok222, md223, hpo224⟩ := hq
                        obtain ⟨g221, rfl⟩ : ∃ g, S1 = sv_sts (sv_sts (sv_sts (sv_sts S [68, 69, 70] g7) [68, 69, 70] g176) [68, 69, 70] g190) [68, 69, 70] g := ⟨_, md223.eq⟩
                        show sv_T sm_XS sm_cs sm_L sm_sh 3 (q_rowWays p1 p2 p3 p4 S) 289 192 [(0, .ref 0), (1, sv_I p1), (2, sv_I p2), (3, sv_I p3), (4, sv_I p4), (5, sv_I l5_8), (6, sv_I l6_9), (7, sv_I l7_191), (8, sv_I r219)] [] (sv_sts (sv_sts (sv_sts (sv_sts S [68, 69, 70] g7) [68, 69, 70] g176) [68, 69, 70] g190) [68, 69, 70] g221)
                        have md225 : sv_mod [68, 69, 70] S (sv_sts (sv_sts (sv_sts (sv_sts S [68, 69, 70] g7) [68, 69, 70] g176) [68, 69, 70] g190) [68, 69, 70] g221) := sv_mod.sts md195 (by decide)
                        have md226 : sv_mod [68, 69, 70] S (sv_sts (sv_sts (sv_sts (sv_sts S [68, 69, 70] g7) [68, 69, 70] g176) [68, 69, 70] g190) [68, 69, 70] g221) := sv_mod.sts md196 (by decide)
                        have md227 : sv_mod [68, 69, 70] (sv_sts (sv_sts S [68, 69, 70] g7) [68, 69, 70] g176) (sv_sts (sv_sts (sv_sts (sv_sts S [68, 69, 70] g7) [68, 69, 70] g176) [68, 69, 70] g190) [68, 69, 70] g221) := sv_mod.sts md197 (by decide)
                        have h := h g221 hpo224
                        refine sv_aload_n hM dX12_rowWays_192 rfl rfl ?_
                        refine sv_iload hM dX12_rowWays_193 rfl rfl ?_
                        refine sv_sipush (d := (512 : Int)) hM dX12_rowWays_195 rfl rfl ?_
                        obtain ⟨o228, h⟩ := h
                        refine sv_callV hM dX12_rowWays_198 sm_iv_1072 (by decide) (sm_a0 _) rfl rfl (Nat.le_of_ble_eq_true rfl) sm_h213 (Nat.le_of_ble_eq_true rfl) (Nat.le_of_ble_eq_true rfl) (F' := 2) (Nat.le_of_ble_eq_true rfl) rfl (t_addSort r219 (512 : Int) (sv_sts (sv_sts (sv_sts (sv_sts S [68, 69, 70] g7) [68, 69, 70] g176) [68, 69, 70] g190) [68, 69, 70] g221) ok222 hr219 (⟨by decide, by decide⟩ : sv_R (512 : Int)) o228) (fun v S1 hq => ?_)
                        obtain ⟨rfl, ok230, md231, hpo232⟩ := hq
                        obtain ⟨g229, rfl⟩ : ∃ g, S1 = sv_sts (sv_sts (sv_sts (sv_sts (sv_sts S [68, 69, 70] g7) [68, 69, 70] g176) [68, 69, 70] g190) [68, 69, 70] g221) [68, 69, 70] g := ⟨_, md231.eq⟩
                        show sv_T sm_XS sm_cs sm_L sm_sh 3 (q_rowWays p1 p2 p3 p4 S) 289 201 [(0, .ref 0), (1, sv_I p1), (2, sv_I p2), (3, sv_I p3), (4, sv_I p4), (5, sv_I l5_8), (6, sv_I l6_9), (7, sv_I l7_191), (8, sv_I r219)] [] (sv_sts (sv_sts (sv_sts (sv_sts (sv_sts S [68, 69, 70] g7) [68, 69, 70] g176) [68, 69, 70] g190) [68, 69, 70] g221) [68, 69, 70] g229)
                        have md233 : sv_mod [68, 69, 70] S (sv_sts (sv_sts (sv_sts (sv_sts (sv_sts S [68, 69, 70] g7) [68, 69, 70] g176) [68, 69, 70] g190) [68, 69, 70] g221) [68, 69, 70] g229) := sv_mod.sts md225 (by decide)
                        have md234 : sv_mod [68, 69, 70] S (sv_sts (sv_sts (sv_sts (sv_sts (sv_sts S [68, 69, 70] g7) [68, 69, 70] g176) [68, 69, 70] g190) [68, 69, 70] g221) [68, 69, 70] g229) := sv_mod.sts md226 (by decide)
                        have md235 : sv_mod [68, 69, 70] (sv_sts (sv_sts S [68, 69, 70] g7) [68, 69, 70] g176) (sv_sts (sv_sts (sv_sts (sv_sts (sv_sts S [68, 69, 70] g7) [68, 69, 70] g176) [68, 69, 70] g190) [68, 69, 70] g221) [68, 69, 70] g229) := sv_mod.sts md227 (by decide)
                        have h := h g229 hpo232
                        refine sv_iinc (d := (1 : Int)) hM dX12_rowWays_201 rfl (by decide) rfl rfl ?_
                        show sv_T sm_XS sm_cs sm_L sm_sh 3 (q_rowWays p1 p2 p3 p4 S) 289 204 [(0, .ref 0), (1, sv_I p1), (2, sv_I p2), (3, sv_I p3), (4, sv_I p4), (5, sv_I l5_8), (6, sv_I l6_9), (7, sv_I (l7_191 + (1 : Int))), (8, sv_I r219)] [] (sv_sts (sv_sts (sv_sts (sv_sts (sv_sts S [68, 69, 70] g7) [68, 69, 70] g176) [68, 69, 70] g190) [68, 69, 70] g221) [68, 69, 70] g229)
                        refine sv_goto hM dX12_rowWays_204 (pc' := 106) rfl ?_
                        obtain ⟨o236, h⟩ := h
                        have eS := sv_mod.eq md235
                        have hb := ih192 ((l7_191 + (1 : Int)), (sv_sts (sv_sts (sv_sts (sv_sts (sv_sts S [68, 69, 70] g7) [68, 69, 70] g176) [68, 69, 70] g190) [68, 69, 70] g221) [68, 69, 70] g229)) ⟨o236, (by rw [← eS]; exact ok230), h.1⟩ h.2
                        have hb : sv_T sm_XS sm_cs sm_L sm_sh 3 (q_rowWays p1 p2 p3 p4 S) 289 106 [(0, .ref 0), (1, sv_I p1), (2, sv_I p2), (3, sv_I p3), (4, sv_I p4), (5, sv_I l5_8), (6, sv_I l6_9), (7, sv_I (l7_191 + (1 : Int)))] [] (sv_sts (sv_sts (sv_sts (sv_sts (sv_sts S [68, 69, 70] g7) [68, 69, 70] g176) [68, 69, 70] g190) [68, 69, 70] g221) [68, 69, 70] g229) := Eq.mpr (congrArg (fun Z => sv_T sm_XS sm_cs sm_L sm_sh 3 (q_rowWays p1 p2 p3 p4 S) 289 106 [(0, .ref 0), (1, sv_I p1), (2, sv_I p2), (3, sv_I p3), (4, sv_I p4), (5, sv_I l5_8), (6, sv_I l6_9), (7, sv_I (l7_191 + (1 : Int)))] [] Z) eS) hb
                        exact sv_less (lv := [(0, .ref 0), (1, sv_I p1), (2, sv_I p2), (3, sv_I p3), (4, sv_I p4), (5, sv_I l5_8), (6, sv_I l6_9), (7, sv_I (l7_191 + (1 : Int)))]) (sv_Sub_cons rfl (sv_Sub_cons rfl (sv_Sub_cons rfl (sv_Sub_cons rfl (sv_Sub_cons rfl (sv_Sub_cons rfl (sv_Sub_cons rfl (sv_Sub_cons rfl sv_Sub_nil)))))))) hb
                      · have h := h.2 (hc)
                        refine sv_aload_n hM dX12_rowWays_172 rfl rfl ?_
                        refine sv_iload_n hM dX12_rowWays_173 rfl rfl ?_
                        refine sv_iload hM dX12_rowWays_174 rfl rfl ?_
                        obtain ⟨o237, h⟩ := h
                        refine sv_callV hM dX12_rowWays_176 sm_iv_1069 (by decide) (sm_a0 _) rfl rfl (Nat.le_of_ble_eq_true rfl) sm_h208 (Nat.le_of_ble_eq_true rfl) (Nat.le_of_ble_eq_true rfl) (F' := 1) (Nat.le_of_ble_eq_true rfl) rfl (t_join p3 r219 (sv_sts (sv_sts (sv_sts S [68, 69, 70] g7) [68, 69, 70] g176) [68, 69, 70] g190) ok216 hp3 hr219 o237) (fun v S1 hq => ?_)
                        obtain ⟨r242, rfl, hr242, ok239, md240, hpo241⟩ := hq
                        obtain ⟨g238, rfl⟩ : ∃ g, S1 = sv_sts (sv_sts (sv_sts (sv_sts S [68, 69, 70] g7) [68, 69, 70] g176) [68, 69, 70] g190) [68, 69, 70] g := ⟨_, md240.eq⟩
                        show sv_T sm_XS sm_cs sm_L sm_sh 3 (q_rowWays p1 p2 p3 p4 S) 289 179 [(0, .ref 0), (1, sv_I p1), (2, sv_I p2), (3, sv_I p3), (4, sv_I p4), (5, sv_I l5_8), (6, sv_I l6_9), (7, sv_I l7_191), (8, sv_I r219)] [sv_I r242] (sv_sts (sv_sts (sv_sts (sv_sts S [68, 69, 70] g7) [68, 69, 70] g176) [68, 69, 70] g190) [68, 69, 70] g238)
                        have md243 : sv_mod [68, 69, 70] S (sv_sts (sv_sts (sv_sts (sv_sts S [68, 69, 70] g7) [68, 69, 70] g176) [68, 69, 70] g190) [68, 69, 70] g238) := sv_mod.sts md195 (by decide)
                        have md244 : sv_mod [68, 69, 70] S (sv_sts (sv_sts (sv_sts (sv_sts S [68, 69, 70] g7) [68, 69, 70] g176) [68, 69, 70] g190) [68, 69, 70] g238) := sv_mod.sts md196 (by decide)
                        have md245 : sv_mod [68, 69, 70] (sv_sts (sv_sts S [68, 69, 70] g7) [68, 69, 70] g176) (sv_sts (sv_sts (sv_sts (sv_sts S [68, 69, 70] g7) [68, 69, 70] g176) [68, 69, 70] g190) [68, 69, 70] g238) := sv_mod.sts md197 (by decide)
                        have h := h r242 hr242 g238 hpo241
                        refine sv_istore hM dX12_rowWays_179 (by decide) rfl ?_
                        show sv_T sm_XS sm_cs sm_L sm_sh 3 (q_rowWays p1 p2 p3 p4 S) 289 181 [(0, .ref 0), (1, sv_I p1), (2, sv_I p2), (3, sv_I p3), (4, sv_I p4), (5, sv_I l5_8), (6, sv_I l6_9), (7, sv_I l7_191), (8, sv_I r219), (9, sv_I r242)] [] (sv_sts (sv_sts (sv_sts (sv_sts S [68, 69, 70] g7) [68, 69, 70] g176) [68, 69, 70] g190) [68, 69, 70] g238)
                        refine sv_goto hM dX12_rowWays_181 (pc' := 201) rfl ?_
                        refine sv_iinc (d := (1 : Int)) hM dX12_rowWays_201 rfl (by decide) rfl rfl ?_
                        show sv_T sm_XS sm_cs sm_L sm_sh 3 (q_rowWays p1 p2 p3 p4 S) 289 204 [(0, .ref 0), (1, sv_I p1), (2, sv_I p2), (3, sv_I p3), (4, sv_I p4), (5, sv_I l5_8), (6, sv_I l6_9), (7, sv_I (l7_191 + (1 : Int))), (8, sv_I r219), (9, sv_I r242)] [] (sv_sts (sv_sts (sv_sts (sv_sts S [68, 69, 70] g7) [68, 69, 70] g176) [68, 69, 70] g190) [68, 69, 70] g238)
                        refine sv_goto hM dX12_rowWays_204 (pc' := 106) rfl ?_
                        obtain ⟨o246, h⟩ := h
                        have eS := sv_mod.eq md245
                        have hb := ih192 ((l7_191 + (1 : Int)), (sv_sts (sv_sts (sv_sts (sv_sts S [68, 69, 70] g7) [68, 69, 70] g176) [68, 69, 70] g190) [68, 69, 70] g238)) ⟨o246, (by rw [← eS]; exact ok239), h.1⟩ h.2
                        have hb : sv_T sm_XS sm_cs sm_L sm_sh 3 (q_rowWays p1 p2 p3 p4 S) 289 106 [(0, .ref 0), (1, sv_I p1), (2, sv_I p2), (3, sv_I p3), (4, sv_I p4), (5, sv_I l5_8), (6, sv_I l6_9), (7, sv_I (l7_191 + (1 : Int)))] [] (sv_sts (sv_sts (sv_sts (sv_sts S [68, 69, 70] g7) [68, 69, 70] g176) [68, 69, 70] g190) [68, 69, 70] g238) := Eq.mpr (congrArg (fun Z => sv_T sm_XS sm_cs sm_L sm_sh 3 (q_rowWays p1 p2 p3 p4 S) 289 106 [(0, .ref 0), (1, sv_I p1), (2, sv_I p2), (3, sv_I p3), (4, sv_I p4), (5, sv_I l5_8), (6, sv_I l6_9), (7, sv_I (l7_191 + (1 : Int)))] [] Z) eS) hb
                        exact sv_less (lv := [(0, .ref 0), (1, sv_I p1), (2, sv_I p2), (3, sv_I p3), (4, sv_I p4), (5, sv_I l5_8), (6, sv_I l6_9), (7, sv_I (l7_191 + (1 : Int)))]) (sv_Sub_cons rfl (sv_Sub_cons rfl (sv_Sub_cons rfl (sv_Sub_cons rfl (sv_Sub_cons rfl (sv_Sub_cons rfl (sv_Sub_cons rfl (sv_Sub_cons rfl sv_Sub_nil)))))))) hb
                    · have h := h.2 (hc)
                      refine sv_aload_n hM dX12_rowWays_124 rfl rfl ?_
                      refine sv_getA hM dX12_rowWays_125 sm_fl_277 (sm_a0 _) sm_k140 rfl ?_
                      refine sv_iload hM dX12_rowWays_128 rfl rfl ?_
                      obtain ⟨o247, h⟩ := h
                      have k248 : (0 ≤ (S 88 l7_191) ∧ (S 88 l7_191) ≤ 1) := sm_okZ ok194 sm_r88 l7_191
                      have h := h k248
                      refine sv_zald hM dX12_rowWays_130 (sm_a88 _) (by decide) o247.1 o247.2 rfl (x := (S 88 l7_191)) rfl ?_
                      refine sv_cond_ne hM dX12_rowWays_131 (sv_R01 k248) (t := 153) rfl rfl (fun hc => ?_) (fun hc => ?_)
                      · have h := h.1 (hc)
                        refine sv_aload_n hM dX12_rowWays_153 rfl rfl ?_
                        refine sv_sipush (d := (639 : Int)) hM dX12_rowWays_154 rfl rfl ?_
                        refine sv_iload hM dX12_rowWays_157 rfl rfl ?_
                        refine sv_iload hM dX12_rowWays_159 rfl rfl ?_
                        obtain ⟨o249, h⟩ := h
                        refine sv_callV hM dX12_rowWays_161 sm_iv_1163 (by decide) (sm_a0 _) rfl rfl (Nat.le_of_ble_eq_true rfl) sm_h225 (Nat.le_of_ble_eq_true rfl) (Nat.le_of_ble_eq_true rfl) (F' := 1) (Nat.le_of_ble_eq_true rfl) rfl (t_field (639 : Int) l6_9 l7_191 (sv_sts (sv_sts (sv_sts S [68, 69, 70] g7) [68, 69, 70] g176) [68, 69, 70] g190) ok194 (⟨by decide, by decide⟩ : sv_R (639 : Int)) hl6_9 hl7_191 o249) (fun v S1 hq => ?_)
                        obtain ⟨r254, rfl, hr254, ok251, md252, hpo253⟩ := hq
                        obtain rfl : (sv_sts (sv_sts (sv_sts S [68, 69, 70] g7) [68, 69, 70] g176) [68, 69, 70] g190) = S1 := (funext fun j => md252 j (by intro q; cases q)).symm
                        show sv_T sm_XS sm_cs sm_L sm_sh 3 (q_rowWays p1 p2 p3 p4 S) 289 164 [(0, .ref 0), (1, sv_I p1), (2, sv_I p2), (3, sv_I p3), (4, sv_I p4), (5, sv_I l5_8), (6, sv_I l6_9), (7, sv_I l7_191)] [sv_I r254] (sv_sts (sv_sts (sv_sts S [68, 69, 70] g7) [68, 69, 70] g176) [68, 69, 70] g190)
                        have h := h r254 hr254 hpo253
                        refine sv_istore hM dX12_rowWays_164 (by decide) rfl ?_
                        show sv_T sm_XS sm_cs sm_L sm_sh 3 (q_rowWays p1 p2 p3 p4 S) 289 166 [(0, .ref 0), (1, sv_I p1), (2, sv_I p2), (3, sv_I p3), (4, sv_I p4), (5, sv_I l5_8), (6, sv_I l6_9), (7, sv_I l7_191), (8, sv_I r254)] [] (sv_sts (sv_sts (sv_sts S [68, 69, 70] g7) [68, 69, 70] g176) [68, 69, 70] g190)
                        refine sv_iload_n hM dX12_rowWays_166 rfl rfl ?_
                        refine sv_bipush (d := (18 : Int)) hM dX12_rowWays_167 rfl rfl ?_
                        refine sv_icmp_ne hM dX12_rowWays_169 hp1 (⟨by decide, by decide⟩ : sv_R (18 : Int)) (t := 184) rfl rfl (fun hc => ?_) (fun hc => ?_)
                        · have h := h.1 (hc)
                          refine sv_aload_n hM dX12_rowWays_184 rfl rfl ?_
                          refine sv_iload hM dX12_rowWays_185 rfl rfl ?_
                          refine sv_iload hM dX12_rowWays_187 rfl rfl ?_
                          obtain ⟨o255, h⟩ := h
                          refine sv_callV hM dX12_rowWays_189 sm_iv_1228 (by decide) (sm_a0 _) rfl rfl (Nat.le_of_ble_eq_true rfl) sm_h266 (Nat.le_of_ble_eq_true rfl) (Nat.le_of_ble_eq_true rfl) (F' := 2) (Nat.le_of_ble_eq_true rfl) rfl (t_joinPlain r254 p4 (sv_sts (sv_sts (sv_sts S [68, 69, 70] g7) [68, 69, 70] g176) [68, 69, 70] g190) ok251 hr254 hp4 o255) (fun v S1 hq => ?_)
                          obtain ⟨rfl, ok257, md258, hpo259⟩ := hq
                          obtain ⟨g256, rfl⟩ : ∃ g, S1 = sv_sts (sv_sts (sv_sts (sv_sts S [68, 69, 70] g7) [68, 69, 70] g176) [68, 69, 70] g190) [68, 69, 70] g := ⟨_, md258.eq⟩
                          show sv_T sm_XS sm_cs sm_L sm_sh 3 (q_rowWays p1 p2 p3 p4 S) 289 192 [(0, .ref 0), (1, sv_I p1), (2, sv_I p2), (3, sv_I p3), (4, sv_I p4), (5, sv_I l5_8), (6, sv_I l6_9), (7, sv_I l7_191), (8, sv_I r254)] [] (sv_sts (sv_sts (sv_sts (sv_sts S [68, 69, 70] g7) [68, 69, 70] g176) [68, 69, 70] g190) [68, 69, 70] g256)
                          have md260 : sv_mod [68, 69, 70] S (sv_sts (sv_sts (sv_sts (sv_sts S [68, 69, 70] g7) [68, 69, 70] g176) [68, 69, 70] g190) [68, 69, 70] g256) := sv_mod.sts md195 (by decide)
                          have md261 : sv_mod [68, 69, 70] S (sv_sts (sv_sts (sv_sts (sv_sts S [68, 69, 70] g7) [68, 69, 70] g176) [68, 69, 70] g190) [68, 69, 70] g256) := sv_mod.sts md196 (by decide)
                          have md262 : sv_mod [68, 69, 70] (sv_sts (sv_sts S [68, 69, 70] g7) [68, 69, 70] g176) (sv_sts (sv_sts (sv_sts (sv_sts S [68, 69, 70] g7) [68, 69, 70] g176) [68, 69, 70] g190) [68, 69, 70] g256) := sv_mod.sts md197 (by decide)
                          have h := h g256 hpo259
                          refine sv_aload_n hM dX12_rowWays_192 rfl rfl ?_
                          refine sv_iload hM dX12_rowWays_193 rfl rfl ?_
                          refine sv_sipush (d := (512 : Int)) hM dX12_rowWays_195 rfl rfl ?_
                          obtain ⟨o263, h⟩ := h
                          refine sv_callV hM dX12_rowWays_198 sm_iv_1072 (by decide) (sm_a0 _) rfl rfl (Nat.le_of_ble_eq_true rfl) sm_h213 (Nat.le_of_ble_eq_true rfl) (Nat.le_of_ble_eq_true rfl) (F' := 2) (Nat.le_of_ble_eq_true rfl) rfl (t_addSort r254 (512 : Int) (sv_sts (sv_sts (sv_sts (sv_sts S [68, 69, 70] g7) [68, 69, 70] g176) [68, 69, 70] g190) [68, 69, 70] g256) ok257 hr254 (⟨by decide, by decide⟩ : sv_R (512 : Int)) o263) (fun v S1 hq => ?_)
                          obtain ⟨rfl, ok265, md266, hpo267⟩ := hq
                          obtain ⟨g264, rfl⟩ : ∃ g, S1 = sv_sts (sv_sts (sv_sts (sv_sts (sv_sts S [68, 69, 70] g7) [68, 69, 70] g176) [68, 69, 70] g190) [68, 69, 70] g256) [68, 69, 70] g := ⟨_, md266.eq⟩
                          show sv_T sm_XS sm_cs sm_L sm_sh 3 (q_rowWays p1 p2 p3 p4 S) 289 201 [(0, .ref 0), (1, sv_I p1), (2, sv_I p2), (3, sv_I p3), (4, sv_I p4), (5, sv_I l5_8), (6, sv_I l6_9), (7, sv_I l7_191), (8, sv_I r254)] [] (sv_sts (sv_sts (sv_sts (sv_sts (sv_sts S [68, 69, 70] g7) [68, 69, 70] g176) [68, 69, 70] g190) [68, 69, 70] g256) [68, 69, 70] g264)
                          have md268 : sv_mod [68, 69, 70] S (sv_sts (sv_sts (sv_sts (sv_sts (sv_sts S [68, 69, 70] g7) [68, 69, 70] g176) [68, 69, 70] g190) [68, 69, 70] g256) [68, 69, 70] g264) := sv_mod.sts md260 (by decide)
                          have md269 : sv_mod [68, 69, 70] S (sv_sts (sv_sts (sv_sts (sv_sts (sv_sts S [68, 69, 70] g7) [68, 69, 70] g176) [68, 69, 70] g190) [68, 69, 70] g256) [68, 69, 70] g264) := sv_mod.sts md261 (by decide)
                          have md270 : sv_mod [68, 69, 70] (sv_sts (sv_sts S [68, 69, 70] g7) [68, 69, 70] g176) (sv_sts (sv_sts (sv_sts (sv_sts (sv_sts S [68, 69, 70] g7) [68, 69, 70] g176) [68, 69, 70] g190) [68, 69, 70] g256) [68, 69, 70] g264) := sv_mod.sts md262 (by decide)
                          have h := h g264 hpo267
                          refine sv_iinc (d := (1 : Int)) hM dX12_rowWays_201 rfl (by decide) rfl rfl ?_
                          show sv_T sm_XS sm_cs sm_L sm_sh 3 (q_rowWays p1 p2 p3 p4 S) 289 204 [(0, .ref 0), (1, sv_I p1), (2, sv_I p2), (3, sv_I p3), (4, sv_I p4), (5, sv_I l5_8), (6, sv_I l6_9), (7, sv_I (l7_191 + (1 : Int))), (8, sv_I r254)] [] (sv_sts (sv_sts (sv_sts (sv_sts (sv_sts S [68, 69, 70] g7) [68, 69, 70] g176) [68, 69, 70] g190) [68, 69, 70] g256) [68, 69, 70] g264)
                          refine sv_goto hM dX12_rowWays_204 (pc' := 106) rfl ?_
                          obtain ⟨o271, h⟩ := h
                          have eS := sv_mod.eq md270
                          have hb := ih192 ((l7_191 + (1 : Int)), (sv_sts (sv_sts (sv_sts (sv_sts (sv_sts S [68, 69, 70] g7) [68, 69, 70] g176) [68, 69, 70] g190) [68, 69, 70] g256) [68, 69, 70] g264)) ⟨o271, (by rw [← eS]; exact ok265), h.1⟩ h.2
                          have hb : sv_T sm_XS sm_cs sm_L sm_sh 3 (q_rowWays p1 p2 p3 p4 S) 289 106 [(0, .ref 0), (1, sv_I p1), (2, sv_I p2), (3, sv_I p3), (4, sv_I p4), (5, sv_I l5_8), (6, sv_I l6_9), (7, sv_I (l7_191 + (1 : Int)))] [] (sv_sts (sv_sts (sv_sts (sv_sts (sv_sts S [68, 69, 70] g7) [68, 69, 70] g176) [68, 69, 70] g190) [68, 69, 70] g256) [68, 69, 70] g264) := Eq.mpr (congrArg (fun Z => sv_T sm_XS sm_cs sm_L sm_sh 3 (q_rowWays p1 p2 p3 p4 S) 289 106 [(0, .ref 0), (1, sv_I p1), (2, sv_I p2), (3, sv_I p3), (4, sv_I p4), (5, sv_I l5_8), (6, sv_I l6_9), (7, sv_I (l7_191 + (1 : Int)))] [] Z) eS) hb
                          exact sv_less (lv := [(0, .ref 0), (1, sv_I p1), (2, sv_I p2), (3, sv_I p3), (4, sv_I p4), (5, sv_I l5_8), (6, sv_I l6_9), (7, sv_I (l7_191 + (1 : Int)))]) (sv_Sub_cons rfl (sv_Sub_cons rfl (sv_Sub_cons rfl (sv_Sub_cons rfl (sv_Sub_cons rfl (sv_Sub_cons rfl (sv_Sub_cons rfl (sv_Sub_cons rfl sv_Sub_nil)))))))) hb
                        · have h := h.2 (hc)
                          refine sv_aload_n hM dX12_rowWays_172 rfl rfl ?_
                          refine sv_iload_n hM dX12_rowWays_173 rfl rfl ?_
                          refine sv_iload hM dX12_rowWays_174 rfl rfl ?_
                          obtain ⟨o272, h⟩ := h
                          refine sv_callV hM dX12_rowWays_176 sm_iv_1069 (by decide) (sm_a0 _) rfl rfl (Nat.le_of_ble_eq_true rfl) sm_h208 (Nat.le_of_ble_eq_true rfl) (Nat.le_of_ble_eq_true rfl) (F' := 1) (Nat.le_of_ble_eq_true rfl) rfl (t_join p3 r254 (sv_sts (sv_sts (sv_sts S [68, 69, 70] g7) [68, 69, 70] g176) [68, 69, 70] g190) ok251 hp3 hr254 o272) (fun v S1 hq => ?_)
                          obtain ⟨r277, rfl, hr277, ok274, md275, hpo276⟩ := hq
                          obtain ⟨g273, rfl⟩ : ∃ g, S1 = sv_sts (sv_sts (sv_sts (sv_sts S [68, 69, 70] g7) [68, 69, 70] g176) [68, 69, 70] g190) [68, 69, 70] g := ⟨_, md275.eq⟩
                          show sv_T sm_XS sm_cs sm_L sm_sh 3 (q_rowWays p1 p2 p3 p4 S) 289 179 [(0, .ref 0), (1, sv_I p1), (2, sv_I p2), (3, sv_I p3), (4, sv_I p4), (5, sv_I l5_8), (6, sv_I l6_9), (7, sv_I l7_191), (8, sv_I r254)] [sv_I r277] (sv_sts (sv_sts (sv_sts (sv_sts S [68, 69, 70] g7) [68, 69, 70] g176) [68, 69, 70] g190) [68, 69, 70] g273)
                          have md278 : sv_mod [68, 69, 70] S (sv_sts (sv_sts (sv_sts (sv_sts S [68, 69, 70] g7) [68, 69, 70] g176) [68, 69, 70] g190) [68, 69, 70] g273) := sv_mod.sts md195 (by decide)
                          have md279 : sv_mod [68, 69, 70] S (sv_sts (sv_sts (sv_sts (sv_sts S [68, 69, 70] g7) [68, 69, 70] g176) [68, 69, 70] g190) [68, 69, 70] g273) := sv_mod.sts md196 (by decide)
                          have md280 : sv_mod [68, 69, 70] (sv_sts (sv_sts S [68, 69, 70] g7) [68, 69, 70] g176) (sv_sts (sv_sts (sv_sts (sv_sts S [68, 69, 70] g7) [68, 69, 70] g176) [68, 69, 70] g190) [68, 69, 70] g273) := sv_mod.sts md197 (by decide)
                          have h := h r277 hr277 g273 hpo276
                          refine sv_istore hM dX12_rowWays_179 (by decide) rfl ?_
                          show sv_T sm_XS sm_cs sm_L sm_sh 3 (q_rowWays p1 p2 p3 p4 S) 289 181 [(0, .ref 0), (1, sv_I p1), (2, sv_I p2), (3, sv_I p3), (4, sv_I p4), (5, sv_I l5_8), (6, sv_I l6_9), (7, sv_I l7_191), (8, sv_I r254), (9, sv_I r277)] [] (sv_sts (sv_sts (sv_sts (sv_sts S [68, 69, 70] g7) [68, 69, 70] g176) [68, 69, 70] g190) [68, 69, 70] g273)
                          refine sv_goto hM dX12_rowWays_181 (pc' := 201) rfl ?_
                          refine sv_iinc (d := (1 : Int)) hM dX12_rowWays_201 rfl (by decide) rfl rfl ?_
                          show sv_T sm_XS sm_cs sm_L sm_sh 3 (q_rowWays p1 p2 p3 p4 S) 289 204 [(0, .ref 0), (1, sv_I p1), (2, sv_I p2), (3, sv_I p3), (4, sv_I p4), (5, sv_I l5_8), (6, sv_I l6_9), (7, sv_I (l7_191 + (1 : Int))), (8, sv_I r254), (9, sv_I r277)] [] (sv_sts (sv_sts (sv_sts (sv_sts S [68, 69, 70] g7) [68, 69, 70] g176) [68, 69, 70] g190) [68, 69, 70] g273)
                          refine sv_goto hM dX12_rowWays_204 (pc' := 106) rfl ?_
                          obtain ⟨o281, h⟩ := h
                          have eS := sv_mod.eq md280
                          have hb := ih192 ((l7_191 + (1 : Int)), (sv_sts (sv_sts (sv_sts (sv_sts S [68, 69, 70] g7) [68, 69, 70] g176) [68, 69, 70] g190) [68, 69, 70] g273)) ⟨o281, (by rw [← eS]; exact ok274), h.1⟩ h.2
                          have hb : sv_T sm_XS sm_cs sm_L sm_sh 3 (q_rowWays p1 p2 p3 p4 S) 289 106 [(0, .ref 0), (1, sv_I p1), (2, sv_I p2), (3, sv_I p3), (4, sv_I p4), (5, sv_I l5_8), (6, sv_I l6_9), (7, sv_I (l7_191 + (1 : Int)))] [] (sv_sts (sv_sts (sv_sts (sv_sts S [68, 69, 70] g7) [68, 69, 70] g176) [68, 69, 70] g190) [68, 69, 70] g273) := Eq.mpr (congrArg (fun Z => sv_T sm_XS sm_cs sm_L sm_sh 3 (q_rowWays p1 p2 p3 p4 S) 289 106 [(0, .ref 0), (1, sv_I p1), (2, sv_I p2), (3, sv_I p3), (4, sv_I p4), (5, sv_I l5_8), (6, sv_I l6_9), (7, sv_I (l7_191 + (1 : Int)))] [] Z) eS) hb
                          exact sv_less (lv := [(0, .ref 0), (1, sv_I p1), (2, sv_I p2), (3, sv_I p3), (4, sv_I p4), (5, sv_I l5_8), (6, sv_I l6_9), (7, sv_I (l7_191 + (1 : Int)))]) (sv_Sub_cons rfl (sv_Sub_cons rfl (sv_Sub_cons rfl (sv_Sub_cons rfl (sv_Sub_cons rfl (sv_Sub_cons rfl (sv_Sub_cons rfl (sv_Sub_cons rfl sv_Sub_nil)))))))) hb
                      · have h := h.2 (hc)
                        refine sv_iload_n hM dX12_rowWays_134 rfl rfl ?_
                        refine sv_bipush (d := (18 : Int)) hM dX12_rowWays_135 rfl rfl ?_
                        refine sv_icmp_ne hM dX12_rowWays_137 hp1 (⟨by decide, by decide⟩ : sv_R (18 : Int)) (t := 201) rfl rfl (fun hc => ?_) (fun hc => ?_)
                        · have h := h.1 (hc)
                          refine sv_iinc (d := (1 : Int)) hM dX12_rowWays_201 rfl (by decide) rfl rfl ?_
                          show sv_T sm_XS sm_cs sm_L sm_sh 3 (q_rowWays p1 p2 p3 p4 S) 289 204 [(0, .ref 0), (1, sv_I p1), (2, sv_I p2), (3, sv_I p3), (4, sv_I p4), (5, sv_I l5_8), (6, sv_I l6_9), (7, sv_I (l7_191 + (1 : Int)))] [] (sv_sts (sv_sts (sv_sts S [68, 69, 70] g7) [68, 69, 70] g176) [68, 69, 70] g190)
                          refine sv_goto hM dX12_rowWays_204 (pc' := 106) rfl ?_
                          obtain ⟨o282, h⟩ := h
                          have eS := sv_mod.eq md197
                          have hb := ih192 ((l7_191 + (1 : Int)), (sv_sts (sv_sts (sv_sts S [68, 69, 70] g7) [68, 69, 70] g176) [68, 69, 70] g190)) ⟨o282, (by rw [← eS]; exact ok194), h.1⟩ h.2
                          have hb : sv_T sm_XS sm_cs sm_L sm_sh 3 (q_rowWays p1 p2 p3 p4 S) 289 106 [(0, .ref 0), (1, sv_I p1), (2, sv_I p2), (3, sv_I p3), (4, sv_I p4), (5, sv_I l5_8), (6, sv_I l6_9), (7, sv_I (l7_191 + (1 : Int)))] [] (sv_sts (sv_sts (sv_sts S [68, 69, 70] g7) [68, 69, 70] g176) [68, 69, 70] g190) := Eq.mpr (congrArg (fun Z => sv_T sm_XS sm_cs sm_L sm_sh 3 (q_rowWays p1 p2 p3 p4 S) 289 106 [(0, .ref 0), (1, sv_I p1), (2, sv_I p2), (3, sv_I p3), (4, sv_I p4), (5, sv_I l5_8), (6, sv_I l6_9), (7, sv_I (l7_191 + (1 : Int)))] [] Z) eS) hb
                          exact sv_less (lv := [(0, .ref 0), (1, sv_I p1), (2, sv_I p2), (3, sv_I p3), (4, sv_I p4), (5, sv_I l5_8), (6, sv_I l6_9), (7, sv_I (l7_191 + (1 : Int)))]) (sv_Sub_cons rfl (sv_Sub_cons rfl (sv_Sub_cons rfl (sv_Sub_cons rfl (sv_Sub_cons rfl (sv_Sub_cons rfl (sv_Sub_cons rfl (sv_Sub_cons rfl sv_Sub_nil)))))))) hb
                        · have h := h.2 (hc)
                          refine sv_aload_n hM dX12_rowWays_140 rfl rfl ?_
                          refine sv_getA hM dX12_rowWays_141 sm_fl_280 (sm_a0 _) sm_k141 rfl ?_
                          refine sv_iload hM dX12_rowWays_144 rfl rfl ?_
                          have k283 : (0 ≤ (S 89 l7_191) ∧ (S 89 l7_191) ≤ 1) := sm_okZ ok194 sm_r89 l7_191
                          have h := h k283
                          refine sv_zald hM dX12_rowWays_146 (sm_a89 _) (by decide) o247.1 o247.2 rfl (x := (S 89 l7_191)) rfl ?_
                          refine sv_cond_ne hM dX12_rowWays_147 (sv_R01 k283) (t := 153) rfl rfl (fun hc => ?_) (fun hc => ?_)
                          · have h := h.1 (hc)
                            refine sv_aload_n hM dX12_rowWays_153 rfl rfl ?_
                            refine sv_sipush (d := (639 : Int)) hM dX12_rowWays_154 rfl rfl ?_
                            refine sv_iload hM dX12_rowWays_157 rfl rfl ?_
                            refine sv_iload hM dX12_rowWays_159 rfl rfl ?_
                            obtain ⟨o284, h⟩ := h
                            refine sv_callV hM dX12_rowWays_161 sm_iv_1163 (by decide) (sm_a0 _) rfl rfl (Nat.le_of_ble_eq_true rfl) sm_h225 (Nat.le_of_ble_eq_true rfl) (Nat.le_of_ble_eq_true rfl) (F' := 1) (Nat.le_of_ble_eq_true rfl) rfl (t_field (639 : Int) l6_9 l7_191 (sv_sts (sv_sts (sv_sts S [68, 69, 70] g7) [68, 69, 70] g176) [68, 69, 70] g190) ok194 (⟨by decide, by decide⟩ : sv_R (639 : Int)) hl6_9 hl7_191 o284) (fun v S1 hq => ?_)
                            obtain ⟨r289, rfl, hr289, ok286, md287, hpo288⟩ := hq
                            obtain rfl : (sv_sts (sv_sts (sv_sts S [68, 69, 70] g7) [68, 69, 70] g176) [68, 69, 70] g190) = S1 := (funext fun j => md287 j (by intro q; cases q)).symm
                            show sv_T sm_XS sm_cs sm_L sm_sh 3 (q_rowWays p1 p2 p3 p4 S) 289 164 [(0, .ref 0), (1, sv_I p1), (2, sv_I p2), (3, sv_I p3), (4, sv_I p4), (5, sv_I l5_8), (6, sv_I l6_9), (7, sv_I l7_191)] [sv_I r289] (sv_sts (sv_sts (sv_sts S [68, 69, 70] g7) [68, 69, 70] g176) [68, 69, 70] g190)
                            have h := h r289 hr289 hpo288
                            refine sv_istore hM dX12_rowWays_164 (by decide) rfl ?_
                            show sv_T sm_XS sm_cs sm_L sm_sh 3 (q_rowWays p1 p2 p3 p4 S) 289 166 [(0, .ref 0), (1, sv_I p1), (2, sv_I p2), (3, sv_I p3), (4, sv_I p4), (5, sv_I l5_8), (6, sv_I l6_9), (7, sv_I l7_191), (8, sv_I r289)] [] (sv_sts (sv_sts (sv_sts S [68, 69, 70] g7) [68, 69, 70] g176) [68, 69, 70] g190)
                            refine sv_iload_n hM dX12_rowWays_166 rfl rfl ?_
                            refine sv_bipush (d := (18 : Int)) hM dX12_rowWays_167 rfl rfl ?_
                            refine sv_icmp_ne hM dX12_rowWays_169 hp1 (⟨by decide, by decide⟩ : sv_R (18 : Int)) (t := 184) rfl rfl (fun hc => ?_) (fun hc => ?_)
                            · have h := h.1 (hc)
                              refine sv_aload_n hM dX12_rowWays_184 rfl rfl ?_
                              refine sv_iload hM dX12_rowWays_185 rfl rfl ?_
                              refine sv_iload hM dX12_rowWays_187 rfl rfl ?_
                              obtain ⟨o290, h⟩ := h
                              refine sv_callV hM dX12_rowWays_189 sm_iv_1228 (by decide) (sm_a0 _) rfl rfl (Nat.le_of_ble_eq_true rfl) sm_h266 (Nat.le_of_ble_eq_true rfl) (Nat.le_of_ble_eq_true rfl) (F' := 2) (Nat.le_of_ble_eq_true rfl) rfl (t_joinPlain r289 p4 (sv_sts (sv_sts (sv_sts S [68, 69, 70] g7) [68, 69, 70] g176) [68, 69, 70] g190) ok286 hr289 hp4 o290) (fun v S1 hq => ?_)
                              obtain ⟨rfl, ok292, md293, hpo294⟩ := hq
                              obtain ⟨g291, rfl⟩ : ∃ g, S1 = sv_sts (sv_sts (sv_sts (sv_sts S [68, 69, 70] g7) [68, 69, 70] g176) [68, 69, 70] g190) [68, 69, 70] g := ⟨_, md293.eq⟩
                              show sv_T sm_XS sm_cs sm_L sm_sh 3 (q_rowWays p1 p2 p3 p4 S) 289 192 [(0, .ref 0), (1, sv_I p1), (2, sv_I p2), (3, sv_I p3), (4, sv_I p4), (5, sv_I l5_8), (6, sv_I l6_9), (7, sv_I l7_191), (8, sv_I r289)] [] (sv_sts (sv_sts (sv_sts (sv_sts S [68, 69, 70] g7) [68, 69, 70] g176) [68, 69, 70] g190) [68, 69, 70] g291)
                              have md295 : sv_mod [68, 69, 70] S (sv_sts (sv_sts (sv_sts (sv_sts S [68, 69, 70] g7) [68, 69, 70] g176) [68, 69, 70] g190) [68, 69, 70] g291) := sv_mod.sts md195 (by decide)
                              have md296 : sv_mod [68, 69, 70] S (sv_sts (sv_sts (sv_sts (sv_sts S [68, 69, 70] g7) [68, 69, 70] g176) [68, 69, 70] g190) [68, 69, 70] g291) := sv_mod.sts md196 (by decide)
                              have md297 : sv_mod [68, 69, 70] (sv_sts (sv_sts S [68, 69, 70] g7) [68, 69, 70] g176) (sv_sts (sv_sts (sv_sts (sv_sts S [68, 69, 70] g7) [68, 69, 70] g176) [68, 69, 70] g190) [68, 69, 70] g291) := sv_mod.sts md197 (by decide)
                              have h := h g291 hpo294
                              refine sv_aload_n hM dX12_rowWays_192 rfl rfl ?_
                              refine sv_iload hM dX12_rowWays_193 rfl rfl ?_
                              refine sv_sipush (d := (512 : Int)) hM dX12_rowWays_195 rfl rfl ?_
                              obtain ⟨o298, h⟩ := h
                              refine sv_callV hM dX12_rowWays_198 sm_iv_1072 (by decide) (sm_a0 _) rfl rfl (Nat.le_of_ble_eq_true rfl) sm_h213 (Nat.le_of_ble_eq_true rfl) (Nat.le_of_ble_eq_true rfl) (F' := 2) (Nat.le_of_ble_eq_true rfl) rfl (t_addSort r289 (512 : Int) (sv_sts (sv_sts (sv_sts (sv_sts S [68, 69, 70] g7) [68, 69, 70] g176) [68, 69, 70] g190) [68, 69, 70] g291) ok292 hr289 (⟨by decide, by decide⟩ : sv_R (512 : Int)) o298) (fun v S1 hq => ?_)
                              obtain ⟨rfl, ok300, md301, hpo302⟩ := hq
                              obtain ⟨g299, rfl⟩ : ∃ g, S1 = sv_sts (sv_sts (sv_sts (sv_sts (sv_sts S [68, 69, 70] g7) [68, 69, 70] g176) [68, 69, 70] g190) [68, 69, 70] g291) [68, 69, 70] g := ⟨_, md301.eq⟩
                              show sv_T sm_XS sm_cs sm_L sm_sh 3 (q_rowWays p1 p2 p3 p4 S) 289 201 [(0, .ref 0), (1, sv_I p1), (2, sv_I p2), (3, sv_I p3), (4, sv_I p4), (5, sv_I l5_8), (6, sv_I l6_9), (7, sv_I l7_191), (8, sv_I r289)] [] (sv_sts (sv_sts (sv_sts (sv_sts (sv_sts S [68, 69, 70] g7) [68, 69, 70] g176) [68, 69, 70] g190) [68, 69, 70] g291) [68, 69, 70] g299)
                              have md303 : sv_mod [68, 69, 70] S (sv_sts (sv_sts (sv_sts (sv_sts (sv_sts S [68, 69, 70] g7) [68, 69, 70] g176) [68, 69, 70] g190) [68, 69, 70] g291) [68, 69, 70] g299) := sv_mod.sts md295 (by decide)
                              have md304 : sv_mod [68, 69, 70] S (sv_sts (sv_sts (sv_sts (sv_sts (sv_sts S [68, 69, 70] g7) [68, 69, 70] g176) [68, 69, 70] g190) [68, 69, 70] g291) [68, 69, 70] g299) := sv_mod.sts md296 (by decide)
                              have md305 : sv_mod [68, 69, 70] (sv_sts (sv_sts S [68, 69, 70] g7) [68, 69, 70] g176) (sv_sts (sv_sts (sv_sts (sv_sts (sv_sts S [68, 69, 70] g7) [68, 69, 70] g176) [68, 69, 70] g190) [68, 69, 70] g291) [68, 69, 70] g299) := sv_mod.sts md297 (by decide)
                              have h := h g299 hpo302
                              refine sv_iinc (d := (1 : Int)) hM dX12_rowWays_201 rfl (by decide) rfl rfl ?_
                              show sv_T sm_XS sm_cs sm_L sm_sh 3 (q_rowWays p1 p2 p3 p4 S) 289 204 [(0, .ref 0), (1, sv_I p1), (2, sv_I p2), (3, sv_I p3), (4, sv_I p4), (5, sv_I l5_8), (6, sv_I l6_9), (7, sv_I (l7_191 + (1 : Int))), (8, sv_I r289)] [] (sv_sts (sv_sts (sv_sts (sv_sts (sv_sts S [68, 69, 70] g7) [68, 69, 70] g176) [68, 69, 70] g190) [68, 69, 70] g291) [68, 69, 70] g299)
                              refine sv_goto hM dX12_rowWays_204 (pc' := 106) rfl ?_
                              obtain ⟨o306, h⟩ := h
                              have eS := sv_mod.eq md305
                              have hb := ih192 ((l7_191 + (1 : Int)), (sv_sts (sv_sts (sv_sts (sv_sts (sv_sts S [68, 69, 70] g7) [68, 69, 70] g176) [68, 69, 70] g190) [68, 69, 70] g291) [68, 69, 70] g299)) ⟨o306, (by rw [← eS]; exact ok300), h.1⟩ h.2
                              have hb : sv_T sm_XS sm_cs sm_L sm_sh 3 (q_rowWays p1 p2 p3 p4 S) 289 106 [(0, .ref 0), (1, sv_I p1), (2, sv_I p2), (3, sv_I p3), (4, sv_I p4), (5, sv_I l5_8), (6, sv_I l6_9), (7, sv_I (l7_191 + (1 : Int)))] [] (sv_sts (sv_sts (sv_sts (sv_sts (sv_sts S [68, 69, 70] g7) [68, 69, 70] g176) [68, 69, 70] g190) [68, 69, 70] g291) [68, 69, 70] g299) := Eq.mpr (congrArg (fun Z => sv_T sm_XS sm_cs sm_L sm_sh 3 (q_rowWays p1 p2 p3 p4 S) 289 106 [(0, .ref 0), (1, sv_I p1), (2, sv_I p2), (3, sv_I p3), (4, sv_I p4), (5, sv_I l5_8), (6, sv_I l6_9), (7, sv_I (l7_191 + (1 : Int)))] [] Z) eS) hb
                              exact sv_less (lv := [(0, .ref 0), (1, sv_I p1), (2, sv_I p2), (3, sv_I p3), (4, sv_I p4), (5, sv_I l5_8), (6, sv_I l6_9), (7, sv_I (l7_191 + (1 : Int)))]) (sv_Sub_cons rfl (sv_Sub_cons rfl (sv_Sub_cons rfl (sv_Sub_cons rfl (sv_Sub_cons rfl (sv_Sub_cons rfl (sv_Sub_cons rfl (sv_Sub_cons rfl sv_Sub_nil)))))))) hb
                            · have h := h.2 (hc)
                              refine sv_aload_n hM dX12_rowWays_172 rfl rfl ?_
                              refine sv_iload_n hM dX12_rowWays_173 rfl rfl ?_
                              refine sv_iload hM dX12_rowWays_174 rfl rfl ?_
                              obtain ⟨o307, h⟩ := h
                              refine sv_callV hM dX12_rowWays_176 sm_iv_1069 (by decide) (sm_a0 _) rfl rfl (Nat.le_of_ble_eq_true rfl) sm_h208 (Nat.le_of_ble_eq_true rfl) (Nat.le_of_ble_eq_true rfl) (F' := 1) (Nat.le_of_ble_eq_true rfl) rfl (t_join p3 r289 (sv_sts (sv_sts (sv_sts S [68, 69, 70] g7) [68, 69, 70] g176) [68, 69, 70] g190) ok286 hp3 hr289 o307) (fun v S1 hq => ?_)
                              obtain ⟨r312, rfl, hr312, ok309, md310, hpo311⟩ := hq
                              obtain ⟨g308, rfl⟩ : ∃ g, S1 = sv_sts (sv_sts (sv_sts (sv_sts S [68, 69, 70] g7) [68, 69, 70] g176) [68, 69, 70] g190) [68, 69, 70] g := ⟨_, md310.eq⟩
                              show sv_T sm_XS sm_cs sm_L sm_sh 3 (q_rowWays p1 p2 p3 p4 S) 289 179 [(0, .ref 0), (1, sv_I p1), (2, sv_I p2), (3, sv_I p3), (4, sv_I p4), (5, sv_I l5_8), (6, sv_I l6_9), (7, sv_I l7_191), (8, sv_I r289)] [sv_I r312] (sv_sts (sv_sts (sv_sts (sv_sts S [68, 69, 70] g7) [68, 69, 70] g176) [68, 69, 70] g190) [68, 69, 70] g308)
                              have md313 : sv_mod [68, 69, 70] S (sv_sts (sv_sts (sv_sts (sv_sts S [68, 69, 70] g7) [68, 69, 70] g176) [68, 69, 70] g190) [68, 69, 70] g308) := sv_mod.sts md195 (by decide)
                              have md314 : sv_mod [68, 69, 70] S (sv_sts (sv_sts (sv_sts (sv_sts S [68, 69, 70] g7) [68, 69, 70] g176) [68, 69, 70] g190) [68, 69, 70] g308) := sv_mod.sts md196 (by decide)
                              have md315 : sv_mod [68, 69, 70] (sv_sts (sv_sts S [68, 69, 70] g7) [68, 69, 70] g176) (sv_sts (sv_sts (sv_sts (sv_sts S [68, 69, 70] g7) [68, 69, 70] g176) [68, 69, 70] g190) [68, 69, 70] g308) := sv_mod.sts md197 (by decide)
                              have h := h r312 hr312 g308 hpo311
                              refine sv_istore hM dX12_rowWays_179 (by decide) rfl ?_
                              show sv_T sm_XS sm_cs sm_L sm_sh 3 (q_rowWays p1 p2 p3 p4 S) 289 181 [(0, .ref 0), (1, sv_I p1), (2, sv_I p2), (3, sv_I p3), (4, sv_I p4), (5, sv_I l5_8), (6, sv_I l6_9), (7, sv_I l7_191), (8, sv_I r289), (9, sv_I r312)] [] (sv_sts (sv_sts (sv_sts (sv_sts S [68, 69, 70] g7) [68, 69, 70] g176) [68, 69, 70] g190) [68, 69, 70] g308)
                              refine sv_goto hM dX12_rowWays_181 (pc' := 201) rfl ?_
                              refine sv_iinc (d := (1 : Int)) hM dX12_rowWays_201 rfl (by decide) rfl rfl ?_
                              show sv_T sm_XS sm_cs sm_L sm_sh 3 (q_rowWays p1 p2 p3 p4 S) 289 204 [(0, .ref 0), (1, sv_I p1), (2, sv_I p2), (3, sv_I p3), (4, sv_I p4), (5, sv_I l5_8), (6, sv_I l6_9), (7, sv_I (l7_191 + (1 : Int))), (8, sv_I r289), (9, sv_I r312)] [] (sv_sts (sv_sts (sv_sts (sv_sts S [68, 69, 70] g7) [68, 69, 70] g176) [68, 69, 70] g190) [68, 69, 70] g308)
                              refine sv_goto hM dX12_rowWays_204 (pc' := 106) rfl ?_
                              obtain ⟨o316, h⟩ := h
                              have eS := sv_mod.eq md315
                              have hb := ih192 ((l7_191 + (1 : Int)), (sv_sts (sv_sts (sv_sts (sv_sts S [68, 69, 70] g7) [68, 69, 70] g176) [68, 69, 70] g190) [68, 69, 70] g308)) ⟨o316, (by rw [← eS]; exact ok309), h.1⟩ h.2
                              have hb : sv_T sm_XS sm_cs sm_L sm_sh 3 (q_rowWays p1 p2 p3 p4 S) 289 106 [(0, .ref 0), (1, sv_I p1), (2, sv_I p2), (3, sv_I p3), (4, sv_I p4), (5, sv_I l5_8), (6, sv_I l6_9), (7, sv_I (l7_191 + (1 : Int)))] [] (sv_sts (sv_sts (sv_sts (sv_sts S [68, 69, 70] g7) [68, 69, 70] g176) [68, 69, 70] g190) [68, 69, 70] g308) := Eq.mpr (congrArg (fun Z => sv_T sm_XS sm_cs sm_L sm_sh 3 (q_rowWays p1 p2 p3 p4 S) 289 106 [(0, .ref 0), (1, sv_I p1), (2, sv_I p2), (3, sv_I p3), (4, sv_I p4), (5, sv_I l5_8), (6, sv_I l6_9), (7, sv_I (l7_191 + (1 : Int)))] [] Z) eS) hb
                              exact sv_less (lv := [(0, .ref 0), (1, sv_I p1), (2, sv_I p2), (3, sv_I p3), (4, sv_I p4), (5, sv_I l5_8), (6, sv_I l6_9), (7, sv_I (l7_191 + (1 : Int)))]) (sv_Sub_cons rfl (sv_Sub_cons rfl (sv_Sub_cons rfl (sv_Sub_cons rfl (sv_Sub_cons rfl (sv_Sub_cons rfl (sv_Sub_cons rfl (sv_Sub_cons rfl sv_Sub_nil)))))))) hb
                          · have h := h.2 (hc)
                            refine sv_goto hM dX12_rowWays_150 (pc' := 201) rfl ?_
                            refine sv_iinc (d := (1 : Int)) hM dX12_rowWays_201 rfl (by decide) rfl rfl ?_
                            show sv_T sm_XS sm_cs sm_L sm_sh 3 (q_rowWays p1 p2 p3 p4 S) 289 204 [(0, .ref 0), (1, sv_I p1), (2, sv_I p2), (3, sv_I p3), (4, sv_I p4), (5, sv_I l5_8), (6, sv_I l6_9), (7, sv_I (l7_191 + (1 : Int)))] [] (sv_sts (sv_sts (sv_sts S [68, 69, 70] g7) [68, 69, 70] g176) [68, 69, 70] g190)
                            refine sv_goto hM dX12_rowWays_204 (pc' := 106) rfl ?_
                            obtain ⟨o317, h⟩ := h
                            have eS := sv_mod.eq md197
                            have hb := ih192 ((l7_191 + (1 : Int)), (sv_sts (sv_sts (sv_sts S [68, 69, 70] g7) [68, 69, 70] g176) [68, 69, 70] g190)) ⟨o317, (by rw [← eS]; exact ok194), h.1⟩ h.2
                            have hb : sv_T sm_XS sm_cs sm_L sm_sh 3 (q_rowWays p1 p2 p3 p4 S) 289 106 [(0, .ref 0), (1, sv_I p1), (2, sv_I p2), (3, sv_I p3), (4, sv_I p4), (5, sv_I l5_8), (6, sv_I l6_9), (7, sv_I (l7_191 + (1 : Int)))] [] (sv_sts (sv_sts (sv_sts S [68, 69, 70] g7) [68, 69, 70] g176) [68, 69, 70] g190) := Eq.mpr (congrArg (fun Z => sv_T sm_XS sm_cs sm_L sm_sh 3 (q_rowWays p1 p2 p3 p4 S) 289 106 [(0, .ref 0), (1, sv_I p1), (2, sv_I p2), (3, sv_I p3), (4, sv_I p4), (5, sv_I l5_8), (6, sv_I l6_9), (7, sv_I (l7_191 + (1 : Int)))] [] Z) eS) hb
                            exact sv_less (lv := [(0, .ref 0), (1, sv_I p1), (2, sv_I p2), (3, sv_I p3), (4, sv_I p4), (5, sv_I l5_8), (6, sv_I l6_9), (7, sv_I (l7_191 + (1 : Int)))]) (sv_Sub_cons rfl (sv_Sub_cons rfl (sv_Sub_cons rfl (sv_Sub_cons rfl (sv_Sub_cons rfl (sv_Sub_cons rfl (sv_Sub_cons rfl (sv_Sub_cons rfl sv_Sub_nil)))))))) hb
                have eS := sv_mod.eq (sv_mod.rf (l := [68, 69, 70]) (S := (sv_sts (sv_sts S [68, 69, 70] g7) [68, 69, 70] g176)))
                have hb := hJ ((0 : Int), (sv_sts (sv_sts S [68, 69, 70] g7) [68, 69, 70] g176)) ⟨(⟨by decide, by decide⟩ : sv_R (0 : Int)), (by rw [← eS]; exact ok184), hin193⟩
                have hb : sv_T sm_XS sm_cs sm_L sm_sh 3 (q_rowWays p1 p2 p3 p4 S) 289 106 [(0, .ref 0), (1, sv_I p1), (2, sv_I p2), (3, sv_I p3), (4, sv_I p4), (5, sv_I l5_8), (6, sv_I l6_9), (7, sv_I (0 : Int))] [] (sv_sts (sv_sts S [68, 69, 70] g7) [68, 69, 70] g176) := Eq.mpr (congrArg (fun Z => sv_T sm_XS sm_cs sm_L sm_sh 3 (q_rowWays p1 p2 p3 p4 S) 289 106 [(0, .ref 0), (1, sv_I p1), (2, sv_I p2), (3, sv_I p3), (4, sv_I p4), (5, sv_I l5_8), (6, sv_I l6_9), (7, sv_I (0 : Int))] [] Z) eS) hb
                exact hb
              · have h := h.2 (hc)
                refine sv_goto hM dX12_rowWays_100 (pc' := 223) rfl ?_
                refine sv_iinc (d := (1 : Int)) hM dX12_rowWays_223 rfl (by decide) rfl rfl ?_
                show sv_T sm_XS sm_cs sm_L sm_sh 3 (q_rowWays p1 p2 p3 p4 S) 289 226 [(0, .ref 0), (1, sv_I p1), (2, sv_I p2), (3, sv_I p3), (4, sv_I p4), (5, sv_I l5_8), (6, sv_I (l6_9 + (1 : Int)))] [] (sv_sts (sv_sts S [68, 69, 70] g7) [68, 69, 70] g176)
                refine sv_goto hM dX12_rowWays_226 (pc' := 18) rfl ?_
                obtain ⟨o318, h⟩ := h
                have eS := sv_mod.eq md181
                have hb := ih10 (l5_8, (l6_9 + (1 : Int)), (sv_sts (sv_sts S [68, 69, 70] g7) [68, 69, 70] g176)) ⟨hl5_8, o318, (by rw [← eS]; exact ok184), h.1⟩ h.2
                have hb : sv_T sm_XS sm_cs sm_L sm_sh 3 (q_rowWays p1 p2 p3 p4 S) 289 18 [(0, .ref 0), (1, sv_I p1), (2, sv_I p2), (3, sv_I p3), (4, sv_I p4), (5, sv_I l5_8), (6, sv_I (l6_9 + (1 : Int)))] [] (sv_sts (sv_sts S [68, 69, 70] g7) [68, 69, 70] g176) := Eq.mpr (congrArg (fun Z => sv_T sm_XS sm_cs sm_L sm_sh 3 (q_rowWays p1 p2 p3 p4 S) 289 18 [(0, .ref 0), (1, sv_I p1), (2, sv_I p2), (3, sv_I p3), (4, sv_I p4), (5, sv_I l5_8), (6, sv_I (l6_9 + (1 : Int)))] [] Z) eS) hb
                exact sv_less (lv := [(0, .ref 0), (1, sv_I p1), (2, sv_I p2), (3, sv_I p3), (4, sv_I p4), (5, sv_I l5_8), (6, sv_I (l6_9 + (1 : Int)))]) (sv_Sub_cons rfl (sv_Sub_cons rfl (sv_Sub_cons rfl (sv_Sub_cons rfl (sv_Sub_cons rfl (sv_Sub_cons rfl (sv_Sub_cons rfl sv_Sub_nil))))))) hb
          · have h := h.2 (hc)
            refine sv_iconst (d := (1 : Int)) hM dX12_rowWays_59 rfl rfl ?_
            refine sv_istore hM dX12_rowWays_60 (by decide) rfl ?_
            show sv_T sm_XS sm_cs sm_L sm_sh 3 (q_rowWays p1 p2 p3 p4 S) 289 62 [(0, .ref 0), (1, sv_I p1), (2, sv_I p2), (3, sv_I p3), (4, sv_I p4), (5, sv_I (1 : Int)), (6, sv_I l6_9)] [] (sv_sts S [68, 69, 70] g7)
            refine sv_goto hM dX12_rowWays_62 (pc' := 223) rfl ?_
            refine sv_iinc (d := (1 : Int)) hM dX12_rowWays_223 rfl (by decide) rfl rfl ?_
            show sv_T sm_XS sm_cs sm_L sm_sh 3 (q_rowWays p1 p2 p3 p4 S) 289 226 [(0, .ref 0), (1, sv_I p1), (2, sv_I p2), (3, sv_I p3), (4, sv_I p4), (5, sv_I (1 : Int)), (6, sv_I (l6_9 + (1 : Int)))] [] (sv_sts S [68, 69, 70] g7)
            refine sv_goto hM dX12_rowWays_226 (pc' := 18) rfl ?_
            obtain ⟨o319, h⟩ := h
            have eS := sv_mod.eq md14
            have hb := ih10 ((1 : Int), (l6_9 + (1 : Int)), (sv_sts S [68, 69, 70] g7)) ⟨(⟨by decide, by decide⟩ : sv_R (1 : Int)), o319, (by rw [← eS]; exact ok27), h.1⟩ h.2
            have hb : sv_T sm_XS sm_cs sm_L sm_sh 3 (q_rowWays p1 p2 p3 p4 S) 289 18 [(0, .ref 0), (1, sv_I p1), (2, sv_I p2), (3, sv_I p3), (4, sv_I p4), (5, sv_I (1 : Int)), (6, sv_I (l6_9 + (1 : Int)))] [] (sv_sts S [68, 69, 70] g7) := Eq.mpr (congrArg (fun Z => sv_T sm_XS sm_cs sm_L sm_sh 3 (q_rowWays p1 p2 p3 p4 S) 289 18 [(0, .ref 0), (1, sv_I p1), (2, sv_I p2), (3, sv_I p3), (4, sv_I p4), (5, sv_I (1 : Int)), (6, sv_I (l6_9 + (1 : Int)))] [] Z) eS) hb
            exact sv_less (lv := [(0, .ref 0), (1, sv_I p1), (2, sv_I p2), (3, sv_I p3), (4, sv_I p4), (5, sv_I (1 : Int)), (6, sv_I (l6_9 + (1 : Int)))]) (sv_Sub_cons rfl (sv_Sub_cons rfl (sv_Sub_cons rfl (sv_Sub_cons rfl (sv_Sub_cons rfl (sv_Sub_cons rfl (sv_Sub_cons rfl sv_Sub_nil))))))) hb
        · have h := h.2 (hc)
          refine sv_goto hM dX12_rowWays_47 (pc' := 223) rfl ?_
          refine sv_iinc (d := (1 : Int)) hM dX12_rowWays_223 rfl (by decide) rfl rfl ?_
          show sv_T sm_XS sm_cs sm_L sm_sh 3 (q_rowWays p1 p2 p3 p4 S) 289 226 [(0, .ref 0), (1, sv_I p1), (2, sv_I p2), (3, sv_I p3), (4, sv_I p4), (5, sv_I l5_8), (6, sv_I (l6_9 + (1 : Int)))] [] (sv_sts S [68, 69, 70] g7)
          refine sv_goto hM dX12_rowWays_226 (pc' := 18) rfl ?_
          obtain ⟨o320, h⟩ := h
          have eS := sv_mod.eq md14
          have hb := ih10 (l5_8, (l6_9 + (1 : Int)), (sv_sts S [68, 69, 70] g7)) ⟨hl5_8, o320, (by rw [← eS]; exact ok21), h.1⟩ h.2
          have hb : sv_T sm_XS sm_cs sm_L sm_sh 3 (q_rowWays p1 p2 p3 p4 S) 289 18 [(0, .ref 0), (1, sv_I p1), (2, sv_I p2), (3, sv_I p3), (4, sv_I p4), (5, sv_I l5_8), (6, sv_I (l6_9 + (1 : Int)))] [] (sv_sts S [68, 69, 70] g7) := Eq.mpr (congrArg (fun Z => sv_T sm_XS sm_cs sm_L sm_sh 3 (q_rowWays p1 p2 p3 p4 S) 289 18 [(0, .ref 0), (1, sv_I p1), (2, sv_I p2), (3, sv_I p3), (4, sv_I p4), (5, sv_I l5_8), (6, sv_I (l6_9 + (1 : Int)))] [] Z) eS) hb
          exact sv_less (lv := [(0, .ref 0), (1, sv_I p1), (2, sv_I p2), (3, sv_I p3), (4, sv_I p4), (5, sv_I l5_8), (6, sv_I (l6_9 + (1 : Int)))]) (sv_Sub_cons rfl (sv_Sub_cons rfl (sv_Sub_cons rfl (sv_Sub_cons rfl (sv_Sub_cons rfl (sv_Sub_cons rfl (sv_Sub_cons rfl sv_Sub_nil))))))) hb
    have eS := sv_mod.eq (sv_mod.rf (l := [68, 69, 70]) (S := S))
    have hb := hJ ((0 : Int), (0 : Int), S) ⟨(⟨by decide, by decide⟩ : sv_R (0 : Int)), (⟨by decide, by decide⟩ : sv_R (0 : Int)), (by rw [← eS]; exact ok3), hin11⟩
    have hb : sv_T sm_XS sm_cs sm_L sm_sh 3 (q_rowWays p1 p2 p3 p4 S) 289 18 [(0, .ref 0), (1, sv_I p1), (2, sv_I p2), (3, sv_I p3), (4, sv_I p4), (5, sv_I (0 : Int)), (6, sv_I (0 : Int))] [] S := Eq.mpr (congrArg (fun Z => sv_T sm_XS sm_cs sm_L sm_sh 3 (q_rowWays p1 p2 p3 p4 S) 289 18 [(0, .ref 0), (1, sv_I p1), (2, sv_I p2), (3, sv_I p3), (4, sv_I p4), (5, sv_I (0 : Int)), (6, sv_I (0 : Int))] [] Z) eS) hb
    exact hb
  · have h := h.2 (hc)
    refine sv_iconst (d := (1 : Int)) hM dX12_rowWays_8 rfl rfl ?_
    refine sv_goto hM dX12_rowWays_9 (pc' := 13) rfl ?_
    refine sv_istore hM dX12_rowWays_13 (by decide) rfl ?_
    show sv_T sm_XS sm_cs sm_L sm_sh 3 (q_rowWays p1 p2 p3 p4 S) 289 15 [(0, .ref 0), (1, sv_I p1), (2, sv_I p2), (3, sv_I p3), (4, sv_I p4), (5, sv_I (1 : Int))] [] S
    refine sv_iconst (d := (0 : Int)) hM dX12_rowWays_15 rfl rfl ?_
    refine sv_istore hM dX12_rowWays_16 (by decide) rfl ?_
    show sv_T sm_XS sm_cs sm_L sm_sh 3 (q_rowWays p1 p2 p3 p4 S) 289 18 [(0, .ref 0), (1, sv_I p1), (2, sv_I p2), (3, sv_I p3), (4, sv_I p4), (5, sv_I (1 : Int)), (6, sv_I (0 : Int))] [] S
    obtain ⟨hin325, h⟩ := h
    have hJ : ∀ a : Int × Int × sv_S, (sv_R a.1 ∧ sv_R a.2.1 ∧ sm_ok (sv_sts S [68, 69, 70] a.2.2) ∧ (0 ≤ a.2.1 ∧ a.2.1 ≤ (S 1071 0) ∧ (a.1 = 0 ∨ a.1 = 1) ∧ sm_pt (a.2.2 68) (a.2.2 69) (a.2.2 70) = sm_pt (S 68) (S 69) (S 70))) → sv_T sm_XS sm_cs sm_L sm_sh 3 (q_rowWays p1 p2 p3 p4 S) 289 18 [(0, .ref 0), (1, sv_I p1), (2, sv_I p2), (3, sv_I p3), (4, sv_I p4), (5, sv_I a.1), (6, sv_I a.2.1)] [] (sv_sts S [68, 69, 70] a.2.2) := by
      refine sv_loop (α := Int × Int × sv_S) (fun a => sv_R a.1 ∧ sv_R a.2.1 ∧ sm_ok (sv_sts S [68, 69, 70] a.2.2) ∧ (0 ≤ a.2.1 ∧ a.2.1 ≤ (S 1071 0) ∧ (a.1 = 0 ∨ a.1 = 1) ∧ sm_pt (a.2.2 68) (a.2.2 69) (a.2.2 70) = sm_pt (S 68) (S 69) (S 70))) (fun a => (S 1071 0) - a.2.1) (fun a => sv_T sm_XS sm_cs sm_L sm_sh 3 (q_rowWays p1 p2 p3 p4 S) 289 18 [(0, .ref 0), (1, sv_I p1), (2, sv_I p2), (3, sv_I p3), (4, sv_I p4), (5, sv_I a.1), (6, sv_I a.2.1)] [] (sv_sts S [68, 69, 70] a.2.2)) (fun a q => (h a.1 q.1 a.2.1 q.2.1 a.2.2 q.2.2.2).1) (fun a q ih324 => ?_)
      obtain ⟨l5_322, l6_323, g321⟩ := a
      obtain ⟨hl5_322, hl6_323, ok326, hin325i⟩ := q
      have h := (h l5_322 hl5_322 l6_323 hl6_323 g321 hin325i).2
      show sv_T sm_XS sm_cs sm_L sm_sh 3 (q_rowWays p1 p2 p3 p4 S) 289 18 [(0, .ref 0), (1, sv_I p1), (2, sv_I p2), (3, sv_I p3), (4, sv_I p4), (5, sv_I l5_322), (6, sv_I l6_323)] [] (sv_sts S [68, 69, 70] g321)
      have md327 : sv_mod [68, 69, 70] S (sv_sts S [68, 69, 70] g321) := sv_mod.sts sv_mod.rf (by decide)
      have md328 : sv_mod [68, 69, 70] S (sv_sts S [68, 69, 70] g321) := sv_mod.sts sv_mod.rf (by decide)
      refine sv_iload hM dX12_rowWays_18 rfl rfl ?_
      refine sv_aload_n hM dX12_rowWays_20 rfl rfl ?_
      have k329 : sv_R (S 1071 0) := sm_okI ok326 sm_r1071 0
      have h := h k329
      refine sv_getI hM dX12_rowWays_21 sm_fl_765 (sm_a0 _) sm_k71 rfl (x := (S 1071 0)) rfl ?_
      refine sv_icmp_ge hM dX12_rowWays_24 hl6_323 k329 (t := 229) rfl rfl (fun hc => ?_) (fun hc => ?_)
      · have h := h.1 (hc)
        refine sv_iload hM dX12_rowWays_229 rfl rfl ?_
        obtain ⟨o330, h⟩ := h
        exact sv_iret hM dX12_rowWays_231 rfl (sv_nz o330) ⟨l5_322, rfl, sv_R01 o330, ok326, md327, h⟩
      · have h := h.2 (hc)
        refine sv_aload_n hM dX12_rowWays_27 rfl rfl ?_
        refine sv_getA hM dX12_rowWays_28 sm_fl_220 (sm_a0 _) sm_k117 rfl ?_
        refine sv_iload_n hM dX12_rowWays_31 rfl rfl ?_
        have k331 : sv_RL (g321 69 p2) := sm_okJ ok326 sm_r69 p2
        have h := h k331
        refine sv_lald hM dX12_rowWays_32 (sm_a69 _) (by decide) o1.1 o1.2 rfl (x := (g321 69 p2)) rfl ?_
        refine sv_aload_n hM dX12_rowWays_33 rfl rfl ?_
        refine sv_getA hM dX12_rowWays_34 sm_fl_223 (sm_a0 _) sm_k118 rfl ?_
        refine sv_iload_n hM dX12_rowWays_37 rfl rfl ?_
        have k332 : sv_RL (g321 70 p2) := sm_okJ ok326 sm_r70 p2
        have h := h k332
        refine sv_lald hM dX12_rowWays_38 (sm_a70 _) (by decide) o1.1 o1.2 rfl (x := (g321 70 p2)) rfl ?_
        refine sv_iload hM dX12_rowWays_39 rfl rfl ?_
        obtain ⟨o333, h⟩ := h
        refine sv_callS hM dX12_rowWays_41 sm_iv_1125 (Nat.le_of_ble_eq_true rfl) rfl rfl (Nat.le_of_ble_eq_true rfl) sm_h217 (Nat.le_of_ble_eq_true rfl) (Nat.le_of_ble_eq_true rfl) (F' := 0) (Nat.le_of_ble_eq_true rfl) rfl (t_isIn (g321 69 p2) (g321 70 p2) l6_323 (sv_sts S [68, 69, 70] g321) ok326 k331 k332 hl6_323 o333) (fun v S1 hq => ?_)
        obtain ⟨r338, rfl, hr338, ok335, md336, hpo337⟩ := hq
        obtain rfl : (sv_sts S [68, 69, 70] g321) = S1 := (funext fun j => md336 j (by intro q; cases q)).symm
        show sv_T sm_XS sm_cs sm_L sm_sh 3 (q_rowWays p1 p2 p3 p4 S) 289 44 [(0, .ref 0), (1, sv_I p1), (2, sv_I p2), (3, sv_I p3), (4, sv_I p4), (5, sv_I l5_322), (6, sv_I l6_323)] [sv_I r338] (sv_sts S [68, 69, 70] g321)
        have h := h r338 hr338 hpo337
        refine sv_cond_ne hM dX12_rowWays_44 hr338 (t := 50) rfl rfl (fun hc => ?_) (fun hc => ?_)
        · have h := h.1 (hc)
          refine sv_aload_n hM dX12_rowWays_50 rfl rfl ?_
          refine sv_iload hM dX12_rowWays_51 rfl rfl ?_
          obtain ⟨o339, h⟩ := h
          refine sv_callV hM dX12_rowWays_53 sm_iv_1169 (by decide) (sm_a0 _) rfl rfl (Nat.le_of_ble_eq_true rfl) sm_h239 (Nat.le_of_ble_eq_true rfl) (Nat.le_of_ble_eq_true rfl) (F' := 0) (Nat.le_of_ble_eq_true rfl) rfl (t_isArrayLabel l6_323 (sv_sts S [68, 69, 70] g321) ok335 hl6_323 o339) (fun v S1 hq => ?_)
          obtain ⟨r344, rfl, hr344, ok341, md342, hpo343⟩ := hq
          obtain rfl : (sv_sts S [68, 69, 70] g321) = S1 := (funext fun j => md342 j (by intro q; cases q)).symm
          show sv_T sm_XS sm_cs sm_L sm_sh 3 (q_rowWays p1 p2 p3 p4 S) 289 56 [(0, .ref 0), (1, sv_I p1), (2, sv_I p2), (3, sv_I p3), (4, sv_I p4), (5, sv_I l5_322), (6, sv_I l6_323)] [sv_I r344] (sv_sts S [68, 69, 70] g321)
          have h := h r344 hr344 hpo343
          refine sv_cond_ne hM dX12_rowWays_56 hr344 (t := 65) rfl rfl (fun hc => ?_) (fun hc => ?_)
          · have h := h.1 (hc)
            refine sv_aload_n hM dX12_rowWays_65 rfl rfl ?_
            refine sv_iload hM dX12_rowWays_66 rfl rfl ?_
            refine sv_iload_n hM dX12_rowWays_68 rfl rfl ?_
            refine sv_bipush (d := (18 : Int)) hM dX12_rowWays_69 rfl rfl ?_
            refine sv_icmp_ne hM dX12_rowWays_71 hp1 (⟨by decide, by decide⟩ : sv_R (18 : Int)) (t := 79) rfl rfl (fun hc => ?_) (fun hc => ?_)
            · have h := h.1 (hc)
              refine sv_iconst (d := (1 : Int)) hM dX12_rowWays_79 rfl rfl ?_
              obtain ⟨o345, h⟩ := h
              refine sv_callV hM dX12_rowWays_80 sm_iv_1072 (by decide) (sm_a0 _) rfl rfl (Nat.le_of_ble_eq_true rfl) sm_h213 (Nat.le_of_ble_eq_true rfl) (Nat.le_of_ble_eq_true rfl) (F' := 2) (Nat.le_of_ble_eq_true rfl) rfl (t_addSort p4 (1 : Int) (sv_sts S [68, 69, 70] g321) ok341 hp4 (⟨by decide, by decide⟩ : sv_R (1 : Int)) o345) (fun v S1 hq => ?_)
              obtain ⟨rfl, ok347, md348, hpo349⟩ := hq
              obtain ⟨g346, rfl⟩ : ∃ g, S1 = sv_sts (sv_sts S [68, 69, 70] g321) [68, 69, 70] g := ⟨_, md348.eq⟩
              show sv_T sm_XS sm_cs sm_L sm_sh 3 (q_rowWays p1 p2 p3 p4 S) 289 83 [(0, .ref 0), (1, sv_I p1), (2, sv_I p2), (3, sv_I p3), (4, sv_I p4), (5, sv_I l5_322), (6, sv_I l6_323)] [] (sv_sts (sv_sts S [68, 69, 70] g321) [68, 69, 70] g346)
              have md350 : sv_mod [68, 69, 70] S (sv_sts (sv_sts S [68, 69, 70] g321) [68, 69, 70] g346) := sv_mod.sts md327 (by decide)
              have md351 : sv_mod [68, 69, 70] S (sv_sts (sv_sts S [68, 69, 70] g321) [68, 69, 70] g346) := sv_mod.sts md328 (by decide)
              have h := h g346 hpo349
              refine sv_aload_n hM dX12_rowWays_83 rfl rfl ?_
              refine sv_getA hM dX12_rowWays_84 sm_fl_256 (sm_a0 _) sm_k133 rfl ?_
              refine sv_aload_n hM dX12_rowWays_87 rfl rfl ?_
              refine sv_sipush (d := (639 : Int)) hM dX12_rowWays_88 rfl rfl ?_
              refine sv_iload hM dX12_rowWays_91 rfl rfl ?_
              obtain ⟨o352, h⟩ := h
              refine sv_callV hM dX12_rowWays_93 sm_iv_1101 (by decide) (sm_a0 _) rfl rfl (Nat.le_of_ble_eq_true rfl) sm_h226 (Nat.le_of_ble_eq_true rfl) (Nat.le_of_ble_eq_true rfl) (F' := 1) (Nat.le_of_ble_eq_true rfl) rfl (t_of (639 : Int) l6_323 (sv_sts (sv_sts S [68, 69, 70] g321) [68, 69, 70] g346) ok347 (⟨by decide, by decide⟩ : sv_R (639 : Int)) hl6_323 o352) (fun v S1 hq => ?_)
              obtain ⟨r357, rfl, hr357, ok354, md355, hpo356⟩ := hq
              obtain rfl : (sv_sts (sv_sts S [68, 69, 70] g321) [68, 69, 70] g346) = S1 := (funext fun j => md355 j (by intro q; cases q)).symm
              show sv_T sm_XS sm_cs sm_L sm_sh 3 (q_rowWays p1 p2 p3 p4 S) 289 96 [(0, .ref 0), (1, sv_I p1), (2, sv_I p2), (3, sv_I p3), (4, sv_I p4), (5, sv_I l5_322), (6, sv_I l6_323)] [sv_I r357, .ref 81] (sv_sts (sv_sts S [68, 69, 70] g321) [68, 69, 70] g346)
              have h := h r357 hr357 hpo356
              obtain ⟨o358, h⟩ := h
              have k359 : (0 ≤ (S 81 r357) ∧ (S 81 r357) ≤ 1) := sm_okZ ok354 sm_r81 r357
              have h := h k359
              refine sv_zald hM dX12_rowWays_96 (sm_a81 _) (by decide) o358.1 o358.2 rfl (x := (S 81 r357)) rfl ?_
              refine sv_cond_ne hM dX12_rowWays_97 (sv_R01 k359) (t := 103) rfl rfl (fun hc => ?_) (fun hc => ?_)
              · have h := h.1 (hc)
                refine sv_iconst (d := (0 : Int)) hM dX12_rowWays_103 rfl rfl ?_
                refine sv_istore hM dX12_rowWays_104 (by decide) rfl ?_
                show sv_T sm_XS sm_cs sm_L sm_sh 3 (q_rowWays p1 p2 p3 p4 S) 289 106 [(0, .ref 0), (1, sv_I p1), (2, sv_I p2), (3, sv_I p3), (4, sv_I p4), (5, sv_I l5_322), (6, sv_I l6_323), (7, sv_I (0 : Int))] [] (sv_sts (sv_sts S [68, 69, 70] g321) [68, 69, 70] g346)
                obtain ⟨hin363, h⟩ := h
                have hJ : ∀ a : Int × sv_S, (sv_R a.1 ∧ sm_ok (sv_sts (sv_sts (sv_sts S [68, 69, 70] g321) [68, 69, 70] g346) [68, 69, 70] a.2) ∧ (0 ≤ a.1 ∧ a.1 ≤ (S 1008 0) + 1 ∧ sm_pt (a.2 68) (a.2 69) (a.2 70) = sm_pt (S 68) (S 69) (S 70))) → sv_T sm_XS sm_cs sm_L sm_sh 3 (q_rowWays p1 p2 p3 p4 S) 289 106 [(0, .ref 0), (1, sv_I p1), (2, sv_I p2), (3, sv_I p3), (4, sv_I p4), (5, sv_I l5_322), (6, sv_I l6_323), (7, sv_I a.1)] [] (sv_sts (sv_sts (sv_sts S [68, 69, 70] g321) [68, 69, 70] g346) [68, 69, 70] a.2) := by
                  refine sv_loop (α := Int × sv_S) (fun a => sv_R a.1 ∧ sm_ok (sv_sts (sv_sts (sv_sts S [68, 69, 70] g321) [68, 69, 70] g346) [68, 69, 70] a.2) ∧ (0 ≤ a.1 ∧ a.1 ≤ (S 1008 0) + 1 ∧ sm_pt (a.2 68) (a.2 69) (a.2 70) = sm_pt (S 68) (S 69) (S 70))) (fun a => (S 1008 0) + 1 - a.1) (fun a => sv_T sm_XS sm_cs sm_L sm_sh 3 (q_rowWays p1 p2 p3 p4 S) 289 106 [(0, .ref 0), (1, sv_I p1), (2, sv_I p2), (3, sv_I p3), (4, sv_I p4), (5, sv_I l5_322), (6, sv_I l6_323), (7, sv_I a.1)] [] (sv_sts (sv_sts (sv_sts S [68, 69, 70] g321) [68, 69, 70] g346) [68, 69, 70] a.2)) (fun a q => (h a.1 q.1 a.2 q.2.2).1) (fun a q ih362 => ?_)
                  obtain ⟨l7_361, g360⟩ := a
                  obtain ⟨hl7_361, ok364, hin363i⟩ := q
                  have h := (h l7_361 hl7_361 g360 hin363i).2
                  show sv_T sm_XS sm_cs sm_L sm_sh 3 (q_rowWays p1 p2 p3 p4 S) 289 106 [(0, .ref 0), (1, sv_I p1), (2, sv_I p2), (3, sv_I p3), (4, sv_I p4), (5, sv_I l5_322), (6, sv_I l6_323), (7, sv_I l7_361)] [] (sv_sts (sv_sts (sv_sts S [68, 69, 70] g321) [68, 69, 70] g346) [68, 69, 70] g360)
                  have md365 : sv_mod [68, 69, 70] S (sv_sts (sv_sts (sv_sts S [68, 69, 70] g321) [68, 69, 70] g346) [68, 69, 70] g360) := sv_mod.sts md350 (by decide)
                  have md366 : sv_mod [68, 69, 70] S (sv_sts (sv_sts (sv_sts S [68, 69, 70] g321) [68, 69, 70] g346) [68, 69, 70] g360) := sv_mod.sts md351 (by decide)
                  have md367 : sv_mod [68, 69, 70] (sv_sts (sv_sts S [68, 69, 70] g321) [68, 69, 70] g346) (sv_sts (sv_sts (sv_sts S [68, 69, 70] g321) [68, 69, 70] g346) [68, 69, 70] g360) := sv_mod.sts sv_mod.rf (by decide)
                  refine sv_iload hM dX12_rowWays_106 rfl rfl ?_
                  refine sv_aload_n hM dX12_rowWays_108 rfl rfl ?_
                  have k368 : sv_R (S 1008 0) := sm_okI ok364 sm_r1008 0
                  have h := h k368
                  refine sv_getI hM dX12_rowWays_109 sm_fl_762 (sm_a0 _) sm_k8 rfl (x := (S 1008 0)) rfl ?_
                  refine sv_icmp_gt hM dX12_rowWays_112 hl7_361 k368 (t := 207) rfl rfl (fun hc => ?_) (fun hc => ?_)
                  · have h := h.1 (hc)
                    refine sv_aload_n hM dX12_rowWays_207 rfl rfl ?_
                    refine sv_aload_n hM dX12_rowWays_208 rfl rfl ?_
                    refine sv_sipush (d := (639 : Int)) hM dX12_rowWays_209 rfl rfl ?_
                    refine sv_iload hM dX12_rowWays_212 rfl rfl ?_
                    refine sv_iconst (d := (0 : Int)) hM dX12_rowWays_214 rfl rfl ?_
                    obtain ⟨o369, h⟩ := h
                    refine sv_callV hM dX12_rowWays_215 sm_iv_1163 (by decide) (sm_a0 _) rfl rfl (Nat.le_of_ble_eq_true rfl) sm_h225 (Nat.le_of_ble_eq_true rfl) (Nat.le_of_ble_eq_true rfl) (F' := 1) (Nat.le_of_ble_eq_true rfl) rfl (t_field (639 : Int) l6_323 (0 : Int) (sv_sts (sv_sts (sv_sts S [68, 69, 70] g321) [68, 69, 70] g346) [68, 69, 70] g360) ok364 (⟨by decide, by decide⟩ : sv_R (639 : Int)) hl6_323 (⟨by decide, by decide⟩ : sv_R (0 : Int)) o369) (fun v S1 hq => ?_)
                    obtain ⟨r374, rfl, hr374, ok371, md372, hpo373⟩ := hq
                    obtain rfl : (sv_sts (sv_sts (sv_sts S [68, 69, 70] g321) [68, 69, 70] g346) [68, 69, 70] g360) = S1 := (funext fun j => md372 j (by intro q; cases q)).symm
                    show sv_T sm_XS sm_cs sm_L sm_sh 3 (q_rowWays p1 p2 p3 p4 S) 289 218 [(0, .ref 0), (1, sv_I p1), (2, sv_I p2), (3, sv_I p3), (4, sv_I p4), (5, sv_I l5_322), (6, sv_I l6_323), (7, sv_I l7_361)] [sv_I r374, .ref 0] (sv_sts (sv_sts (sv_sts S [68, 69, 70] g321) [68, 69, 70] g346) [68, 69, 70] g360)
                    have h := h r374 hr374 hpo373
                    refine sv_bipush (d := (64 : Int)) hM dX12_rowWays_218 rfl rfl ?_
                    obtain ⟨o375, h⟩ := h
                    refine sv_callV hM dX12_rowWays_220 sm_iv_1072 (by decide) (sm_a0 _) rfl rfl (Nat.le_of_ble_eq_true rfl) sm_h213 (Nat.le_of_ble_eq_true rfl) (Nat.le_of_ble_eq_true rfl) (F' := 2) (Nat.le_of_ble_eq_true rfl) rfl (t_addSort r374 (64 : Int) (sv_sts (sv_sts (sv_sts S [68, 69, 70] g321) [68, 69, 70] g346) [68, 69, 70] g360) ok371 hr374 (⟨by decide, by decide⟩ : sv_R (64 : Int)) o375) (fun v S1 hq => ?_)
                    obtain ⟨rfl, ok377, md378, hpo379⟩ := hq
                    obtain ⟨g376, rfl⟩ : ∃ g, S1 = sv_sts (sv_sts (sv_sts (sv_sts S [68, 69, 70] g321) [68, 69, 70] g346) [68, 69, 70] g360) [68, 69, 70] g := ⟨_, md378.eq⟩
                    show sv_T sm_XS sm_cs sm_L sm_sh 3 (q_rowWays p1 p2 p3 p4 S) 289 223 [(0, .ref 0), (1, sv_I p1), (2, sv_I p2), (3, sv_I p3), (4, sv_I p4), (5, sv_I l5_322), (6, sv_I l6_323), (7, sv_I l7_361)] [] (sv_sts (sv_sts (sv_sts (sv_sts S [68, 69, 70] g321) [68, 69, 70] g346) [68, 69, 70] g360) [68, 69, 70] g376)
                    have md380 : sv_mod [68, 69, 70] S (sv_sts (sv_sts (sv_sts (sv_sts S [68, 69, 70] g321) [68, 69, 70] g346) [68, 69, 70] g360) [68, 69, 70] g376) := sv_mod.sts md365 (by decide)
                    have md381 : sv_mod [68, 69, 70] S (sv_sts (sv_sts (sv_sts (sv_sts S [68, 69, 70] g321) [68, 69, 70] g346) [68, 69, 70] g360) [68, 69, 70] g376) := sv_mod.sts md366 (by decide)
                    have md382 : sv_mod [68, 69, 70] (sv_sts (sv_sts S [68, 69, 70] g321) [68, 69, 70] g346) (sv_sts (sv_sts (sv_sts (sv_sts S [68, 69, 70] g321) [68, 69, 70] g346) [68, 69, 70] g360) [68, 69, 70] g376) := sv_mod.sts md367 (by decide)
                    have h := h g376 hpo379
                    refine sv_iinc (d := (1 : Int)) hM dX12_rowWays_223 rfl (by decide) rfl rfl ?_
                    show sv_T sm_XS sm_cs sm_L sm_sh 3 (q_rowWays p1 p2 p3 p4 S) 289 226 [(0, .ref 0), (1, sv_I p1), (2, sv_I p2), (3, sv_I p3), (4, sv_I p4), (5, sv_I l5_322), (6, sv_I (l6_323 + (1 : Int))), (7, sv_I l7_361)] [] (sv_sts (sv_sts (sv_sts (sv_sts S [68, 69, 70] g321) [68, 69, 70] g346) [68, 69, 70] g360) [68, 69, 70] g376)
                    refine sv_goto hM dX12_rowWays_226 (pc' := 18) rfl ?_
                    obtain ⟨o383, h⟩ := h
                    have eS := sv_mod.eq md381
                    have hb := ih324 (l5_322, (l6_323 + (1 : Int)), (sv_sts (sv_sts (sv_sts (sv_sts S [68, 69, 70] g321) [68, 69, 70] g346) [68, 69, 70] g360) [68, 69, 70] g376)) ⟨hl5_322, o383, (by rw [← eS]; exact ok377), h.1⟩ h.2
                    have hb : sv_T sm_XS sm_cs sm_L sm_sh 3 (q_rowWays p1 p2 p3 p4 S) 289 18 [(0, .ref 0), (1, sv_I p1), (2, sv_I p2), (3, sv_I p3), (4, sv_I p4), (5, sv_I l5_322), (6, sv_I (l6_323 + (1 : Int)))] [] (sv_sts (sv_sts (sv_sts (sv_sts S [68, 69, 70] g321) [68, 69, 70] g346) [68, 69, 70] g360) [68, 69, 70] g376) := Eq.mpr (congrArg (fun Z => sv_T sm_XS sm_cs sm_L sm_sh 3 (q_rowWays p1 p2 p3 p4 S) 289 18 [(0, .ref 0), (1, sv_I p1), (2, sv_I p2), (3, sv_I p3), (4, sv_I p4), (5, sv_I l5_322), (6, sv_I (l6_323 + (1 : Int)))] [] Z) eS) hb
                    exact sv_less (lv := [(0, .ref 0), (1, sv_I p1), (2, sv_I p2), (3, sv_I p3), (4, sv_I p4), (5, sv_I l5_322), (6, sv_I (l6_323 + (1 : Int)))]) (sv_Sub_cons rfl (sv_Sub_cons rfl (sv_Sub_cons rfl (sv_Sub_cons rfl (sv_Sub_cons rfl (sv_Sub_cons rfl (sv_Sub_cons rfl sv_Sub_nil))))))) hb
                  · have h := h.2 (hc)
                    refine sv_iload hM dX12_rowWays_115 rfl rfl ?_
                    refine sv_aload_n hM dX12_rowWays_117 rfl rfl ?_
                    refine sv_getI hM dX12_rowWays_118 sm_fl_762 (sm_a0 _) sm_k8 rfl (x := (S 1008 0)) rfl ?_
                    refine sv_icmp_ge hM dX12_rowWays_121 hl7_361 k368 (t := 153) rfl rfl (fun hc => ?_) (fun hc => ?_)
                    · have h := h.1 (hc)
                      refine sv_aload_n hM dX12_rowWays_153 rfl rfl ?_
                      refine sv_sipush (d := (639 : Int)) hM dX12_rowWays_154 rfl rfl ?_
                      refine sv_iload hM dX12_rowWays_157 rfl rfl ?_
                      refine sv_iload hM dX12_rowWays_159 rfl rfl ?_
                      obtain ⟨o384, h⟩ := h
                      refine sv_callV hM dX12_rowWays_161 sm_iv_1163 (by decide) (sm_a0 _) rfl rfl (Nat.le_of_ble_eq_true rfl) sm_h225 (Nat.le_of_ble_eq_true rfl) (Nat.le_of_ble_eq_true rfl) (F' := 1) (Nat.le_of_ble_eq_true rfl) rfl (t_field (639 : Int) l6_323 l7_361 (sv_sts (sv_sts (sv_sts S [68, 69, 70] g321) [68, 69, 70] g346) [68, 69, 70] g360) ok364 (⟨by decide, by decide⟩ : sv_R (639 : Int)) hl6_323 hl7_361 o384) (fun v S1 hq => ?_)
                      obtain ⟨r389, rfl, hr389, ok386, md387, hpo388⟩ := hq
                      obtain rfl : (sv_sts (sv_sts (sv_sts S [68, 69, 70] g321) [68, 69, 70] g346) [68, 69, 70] g360) = S1 := (funext fun j => md387 j (by intro q; cases q)).symm
                      show sv_T sm_XS sm_cs sm_L sm_sh 3 (q_rowWays p1 p2 p3 p4 S) 289 164 [(0, .ref 0), (1, sv_I p1), (2, sv_I p2), (3, sv_I p3), (4, sv_I p4), (5, sv_I l5_322), (6, sv_I l6_323), (7, sv_I l7_361)] [sv_I r389] (sv_sts (sv_sts (sv_sts S [68, 69, 70] g321) [68, 69, 70] g346) [68, 69, 70] g360)
                      have h := h r389 hr389 hpo388
                      refine sv_istore hM dX12_rowWays_164 (by decide) rfl ?_
                      show sv_T sm_XS sm_cs sm_L sm_sh 3 (q_rowWays p1 p2 p3 p4 S) 289 166 [(0, .ref 0), (1, sv_I p1), (2, sv_I p2), (3, sv_I p3), (4, sv_I p4), (5, sv_I l5_322), (6, sv_I l6_323), (7, sv_I l7_361), (8, sv_I r389)] [] (sv_sts (sv_sts (sv_sts S [68, 69, 70] g321) [68, 69, 70] g346) [68, 69, 70] g360)
                      refine sv_iload_n hM dX12_rowWays_166 rfl rfl ?_
                      refine sv_bipush (d := (18 : Int)) hM dX12_rowWays_167 rfl rfl ?_
                      refine sv_icmp_ne hM dX12_rowWays_169 hp1 (⟨by decide, by decide⟩ : sv_R (18 : Int)) (t := 184) rfl rfl (fun hc => ?_) (fun hc => ?_)
                      · have h := h.1 (hc)
                        refine sv_aload_n hM dX12_rowWays_184 rfl rfl ?_
                        refine sv_iload hM dX12_rowWays_185 rfl rfl ?_
                        refine sv_iload hM dX12_rowWays_187 rfl rfl ?_
                        obtain ⟨o390, h⟩ := h
                        refine sv_callV hM dX12_rowWays_189 sm_iv_1228 (by decide) (sm_a0 _) rfl rfl (Nat.le_of_ble_eq_true rfl) sm_h266 (Nat.le_of_ble_eq_true rfl) (Nat.le_of_ble_eq_true rfl) (F' := 2) (Nat.le_of_ble_eq_true rfl) rfl (t_joinPlain r389 p4 (sv_sts (sv_sts (sv_sts S [68, 69, 70] g321) [68, 69, 70] g346) [68, 69, 70] g360) ok386 hr389 hp4 o390) (fun v S1 hq => ?_)
                        obtain ⟨rfl, ok392, md393, hpo394⟩ := hq
                        obtain ⟨g391, rfl⟩ : ∃ g, S1 = sv_sts (sv_sts (sv_sts (sv_sts S [68, 69, 70] g321) [68, 69, 70] g346) [68, 69, 70] g360) [68, 69, 70] g := ⟨_, md393.eq⟩
                        show sv_T sm_XS sm_cs sm_L sm_sh 3 (q_rowWays p1 p2 p3 p4 S) 289 192 [(0, .ref 0), (1, sv_I p1), (2, sv_I p2), (3, sv_I p3), (4, sv_I p4), (5, sv_I l5_322), (6, sv_I l6_323), (7, sv_I l7_361), (8, sv_I r389)] [] (sv_sts (sv_sts (sv_sts (sv_sts S [68, 69, 70] g321) [68, 69, 70] g346) [68, 69, 70] g360) [68, 69, 70] g391)
                        have md395 : sv_mod [68, 69, 70] S (sv_sts (sv_sts (sv_sts (sv_sts S [68, 69, 70] g321) [68, 69, 70] g346) [68, 69, 70] g360) [68, 69, 70] g391) := sv_mod.sts md365 (by decide)
                        have md396 : sv_mod [68, 69, 70] S (sv_sts (sv_sts (sv_sts (sv_sts S [68, 69, 70] g321) [68, 69, 70] g346) [68, 69, 70] g360) [68, 69, 70] g391) := sv_mod.sts md366 (by decide)
                        have md397 : sv_mod [68, 69, 70] (sv_sts (sv_sts S [68, 69, 70] g321) [68, 69, 70] g346) (sv_sts (sv_sts (sv_sts (sv_sts S [68, 69, 70] g321) [68, 69, 70] g346) [68, 69, 70] g360) [68, 69, 70] g391) := sv_mod.sts md367 (by decide)
                        have h := h g391 hpo394
                        refine sv_aload_n hM dX12_rowWays_192 rfl rfl ?_
                        refine sv_iload hM dX12_rowWays_193 rfl rfl ?_
                        refine sv_sipush (d := (512 : Int)) hM dX12_rowWays_195 rfl rfl ?_
                        obtain ⟨o398, h⟩ := h
                        refine sv_callV hM dX12_rowWays_198 sm_iv_1072 (by decide) (sm_a0 _) rfl rfl (Nat.le_of_ble_eq_true rfl) sm_h213 (Nat.le_of_ble_eq_true rfl) (Nat.le_of_ble_eq_true rfl) (F' := 2) (Nat.le_of_ble_eq_true rfl) rfl (t_addSort r389 (512 : Int) (sv_sts (sv_sts (sv_sts (sv_sts S [68, 69, 70] g321) [68, 69, 70] g346) [68, 69, 70] g360) [68, 69, 70] g391) ok392 hr389 (⟨by decide, by decide⟩ : sv_R (512 : Int)) o398) (fun v S1 hq => ?_)
                        obtain ⟨rfl, ok400, md401, hpo402⟩ := hq
                        obtain ⟨g399, rfl⟩ : ∃ g, S1 = sv_sts (sv_sts (sv_sts (sv_sts (sv_sts S [68, 69, 70] g321) [68, 69, 70] g346) [68, 69, 70] g360) [68, 69, 70] g391) [68, 69, 70] g := ⟨_, md401.eq⟩
                        show sv_T sm_XS sm_cs sm_L sm_sh 3 (q_rowWays p1 p2 p3 p4 S) 289 201 [(0, .ref 0), (1, sv_I p1), (2, sv_I p2), (3, sv_I p3), (4, sv_I p4), (5, sv_I l5_322), (6, sv_I l6_323), (7, sv_I l7_361), (8, sv_I r389)] [] (sv_sts (sv_sts (sv_sts (sv_sts (sv_sts S [68, 69, 70] g321) [68, 69, 70] g346) [68, 69, 70] g360) [68, 69, 70] g391) [68, 69, 70] g399)
                        have md403 : sv_mod [68, 69, 70] S (sv_sts (sv_sts (sv_sts (sv_sts (sv_sts S [68, 69, 70] g321) [68, 69, 70] g346) [68, 69, 70] g360) [68, 69, 70] g391) [68, 69, 70] g399) := sv_mod.sts md395 (by decide)
                        have md404 : sv_mod [68, 69, 70] S (sv_sts (sv_sts (sv_sts (sv_sts (sv_sts S [68, 69, 70] g321) [68, 69, 70] g346) [68, 69, 70] g360) [68, 69, 70] g391) [68, 69, 70] g399) := sv_mod.sts md396 (by decide)
                        have md405 : sv_mod [68, 69, 70] (sv_sts (sv_sts S [68, 69, 70] g321) [68, 69, 70] g346) (sv_sts (sv_sts (sv_sts (sv_sts (sv_sts S [68, 69, 70] g321) [68, 69, 70] g346) [68, 69, 70] g360) [68, 69, 70] g391) [68, 69, 70] g399) := sv_mod.sts md397 (by decide)
                        have h := h g399 hpo402
                        refine sv_iinc (d := (1 : Int)) hM dX12_rowWays_201 rfl (by decide) rfl rfl ?_
                        show sv_T sm_XS sm_cs sm_L sm_sh 3 (q_rowWays p1 p2 p3 p4 S) 289 204 [(0, .ref 0), (1, sv_I p1), (2, sv_I p2), (3, sv_I p3), (4, sv_I p4), (5, sv_I l5_322), (6, sv_I l6_323), (7, sv_I (l7_361 + (1 : Int))), (8, sv_I r389)] [] (sv_sts (sv_sts (sv_sts (sv_sts (sv_sts S [68, 69, 70] g321) [68, 69, 70] g346) [68, 69, 70] g360) [68, 69, 70] g391) [68, 69, 70] g399)
                        refine sv_goto hM dX12_rowWays_204 (pc' := 106) rfl ?_
                        obtain ⟨o406, h⟩ := h
                        have eS := sv_mod.eq md405
                        have hb := ih362 ((l7_361 + (1 : Int)), (sv_sts (sv_sts (sv_sts (sv_sts (sv_sts S [68, 69, 70] g321) [68, 69, 70] g346) [68, 69, 70] g360) [68, 69, 70] g391) [68, 69, 70] g399)) ⟨o406, (by rw [← eS]; exact ok400), h.1⟩ h.2
                        have hb : sv_T sm_XS sm_cs sm_L sm_sh 3 (q_rowWays p1 p2 p3 p4 S) 289 106 [(0, .ref 0), (1, sv_I p1), (2, sv_I p2), (3, sv_I p3), (4, sv_I p4), (5, sv_I l5_322), (6, sv_I l6_323), (7, sv_I (l7_361 + (1 : Int)))] [] (sv_sts (sv_sts (sv_sts (sv_sts (sv_sts S [68, 69, 70] g321) [68, 69, 70] g346) [68, 69, 70] g360) [68, 69, 70] g391) [68, 69, 70] g399) := Eq.mpr (congrArg (fun Z => sv_T sm_XS sm_cs sm_L sm_sh 3 (q_rowWays p1 p2 p3 p4 S) 289 106 [(0, .ref 0), (1, sv_I p1), (2, sv_I p2), (3, sv_I p3), (4, sv_I p4), (5, sv_I l5_322), (6, sv_I l6_323), (7, sv_I (l7_361 + (1 : Int)))] [] Z) eS) hb
                        exact sv_less (lv := [(0, .ref 0), (1, sv_I p1), (2, sv_I p2), (3, sv_I p3), (4, sv_I p4), (5, sv_I l5_322), (6, sv_I l6_323), (7, sv_I (l7_361 + (1 : Int)))]) (sv_Sub_cons rfl (sv_Sub_cons rfl (sv_Sub_cons rfl (sv_Sub_cons rfl (sv_Sub_cons rfl (sv_Sub_cons rfl (sv_Sub_cons rfl (sv_Sub_cons rfl sv_Sub_nil)))))))) hb
                      · have h := h.2 (hc)
                        refine sv_aload_n hM dX12_rowWays_172 rfl rfl ?_
                        refine sv_iload_n hM dX12_rowWays_173 rfl rfl ?_
                        refine sv_iload hM dX12_rowWays_174 rfl rfl ?_
                        obtain ⟨o407, h⟩ := h
                        refine sv_callV hM dX12_rowWays_176 sm_iv_1069 (by decide) (sm_a0 _) rfl rfl (Nat.le_of_ble_eq_true rfl) sm_h208 (Nat.le_of_ble_eq_true rfl) (Nat.le_of_ble_eq_true rfl) (F' := 1) (Nat.le_of_ble_eq_true rfl) rfl (t_join p3 r389 (sv_sts (sv_sts (sv_sts S [68, 69, 70] g321) [68, 69, 70] g346) [68, 69, 70] g360) ok386 hp3 hr389 o407) (fun v S1 hq => ?_)
                        obtain ⟨r412, rfl, hr412, ok409, md410, hpo411⟩ := hq
                        obtain ⟨g408, rfl⟩ : ∃ g, S1 = sv_sts (sv_sts (sv_sts (sv_sts S [68, 69, 70] g321) [68, 69, 70] g346) [68, 69, 70] g360) [68, 69, 70] g := ⟨_, md410.eq⟩
                        show sv_T sm_XS sm_cs sm_L sm_sh 3 (q_rowWays p1 p2 p3 p4 S) 289 179 [(0, .ref 0), (1, sv_I p1), (2, sv_I p2), (3, sv_I p3), (4, sv_I p4), (5, sv_I l5_322), (6, sv_I l6_323), (7, sv_I l7_361), (8, sv_I r389)] [sv_I r412] (sv_sts (sv_sts (sv_sts (sv_sts S [68, 69, 70] g321) [68, 69, 70] g346) [68, 69, 70] g360) [68, 69, 70] g408)
                        have md413 : sv_mod [68, 69, 70] S (sv_sts (sv_sts (sv_sts (sv_sts S [68, 69, 70] g321) [68, 69, 70] g346) [68, 69, 70] g360) [68, 69, 70] g408) := sv_mod.sts md365 (by decide)
                        have md414 : sv_mod [68, 69, 70] S (sv_sts (sv_sts (sv_sts (sv_sts S [68, 69, 70] g321) [68, 69, 70] g346) [68, 69, 70] g360) [68, 69, 70] g408) := sv_mod.sts md366 (by decide)
                        have md415 : sv_mod [68, 69, 70] (sv_sts (sv_sts S [68, 69, 70] g321) [68, 69, 70] g346) (sv_sts (sv_sts (sv_sts (sv_sts S [68, 69, 70] g321) [68, 69, 70] g346) [68, 69, 70] g360) [68, 69, 70] g408) := sv_mod.sts md367 (by decide)
                        have h := h r412 hr412 g408 hpo411
                        refine sv_istore hM dX12_rowWays_179 (by decide) rfl ?_
                        show sv_T sm_XS sm_cs sm_L sm_sh 3 (q_rowWays p1 p2 p3 p4 S) 289 181 [(0, .ref 0), (1, sv_I p1), (2, sv_I p2), (3, sv_I p3), (4, sv_I p4), (5, sv_I l5_322), (6, sv_I l6_323), (7, sv_I l7_361), (8, sv_I r389), (9, sv_I r412)] [] (sv_sts (sv_sts (sv_sts (sv_sts S [68, 69, 70] g321) [68, 69, 70] g346) [68, 69, 70] g360) [68, 69, 70] g408)
                        refine sv_goto hM dX12_rowWays_181 (pc' := 201) rfl ?_
                        refine sv_iinc (d := (1 : Int)) hM dX12_rowWays_201 rfl (by decide) rfl rfl ?_
                        show sv_T sm_XS sm_cs sm_L sm_sh 3 (q_rowWays p1 p2 p3 p4 S) 289 204 [(0, .ref 0), (1, sv_I p1), (2, sv_I p2), (3, sv_I p3), (4, sv_I p4), (5, sv_I l5_322), (6, sv_I l6_323), (7, sv_I (l7_361 + (1 : Int))), (8, sv_I r389), (9, sv_I r412)] [] (sv_sts (sv_sts (sv_sts (sv_sts S [68, 69, 70] g321) [68, 69, 70] g346) [68, 69, 70] g360) [68, 69, 70] g408)
                        refine sv_goto hM dX12_rowWays_204 (pc' := 106) rfl ?_
                        obtain ⟨o416, h⟩ := h
                        have eS := sv_mod.eq md415
                        have hb := ih362 ((l7_361 + (1 : Int)), (sv_sts (sv_sts (sv_sts (sv_sts S [68, 69, 70] g321) [68, 69, 70] g346) [68, 69, 70] g360) [68, 69, 70] g408)) ⟨o416, (by rw [← eS]; exact ok409), h.1⟩ h.2
                        have hb : sv_T sm_XS sm_cs sm_L sm_sh 3 (q_rowWays p1 p2 p3 p4 S) 289 106 [(0, .ref 0), (1, sv_I p1), (2, sv_I p2), (3, sv_I p3), (4, sv_I p4), (5, sv_I l5_322), (6, sv_I l6_323), (7, sv_I (l7_361 + (1 : Int)))] [] (sv_sts (sv_sts (sv_sts (sv_sts S [68, 69, 70] g321) [68, 69, 70] g346) [68, 69, 70] g360) [68, 69, 70] g408) := Eq.mpr (congrArg (fun Z => sv_T sm_XS sm_cs sm_L sm_sh 3 (q_rowWays p1 p2 p3 p4 S) 289 106 [(0, .ref 0), (1, sv_I p1), (2, sv_I p2), (3, sv_I p3), (4, sv_I p4), (5, sv_I l5_322), (6, sv_I l6_323), (7, sv_I (l7_361 + (1 : Int)))] [] Z) eS) hb
                        exact sv_less (lv := [(0, .ref 0), (1, sv_I p1), (2, sv_I p2), (3, sv_I p3), (4, sv_I p4), (5, sv_I l5_322), (6, sv_I l6_323), (7, sv_I (l7_361 + (1 : Int)))]) (sv_Sub_cons rfl (sv_Sub_cons rfl (sv_Sub_cons rfl (sv_Sub_cons rfl (sv_Sub_cons rfl (sv_Sub_cons rfl (sv_Sub_cons rfl (sv_Sub_cons rfl sv_Sub_nil)))))))) hb
                    · have h := h.2 (hc)
                      refine sv_aload_n hM dX12_rowWays_124 rfl rfl ?_
                      refine sv_getA hM dX12_rowWays_125 sm_fl_277 (sm_a0 _) sm_k140 rfl ?_
                      refine sv_iload hM dX12_rowWays_128 rfl rfl ?_
                      obtain ⟨o417, h⟩ := h
                      have k418 : (0 ≤ (S 88 l7_361) ∧ (S 88 l7_361) ≤ 1) := sm_okZ ok364 sm_r88 l7_361
                      have h := h k418
                      refine sv_zald hM dX12_rowWays_130 (sm_a88 _) (by decide) o417.1 o417.2 rfl (x := (S 88 l7_361)) rfl ?_
                      refine sv_cond_ne hM dX12_rowWays_131 (sv_R01 k418) (t := 153) rfl rfl (fun hc => ?_) (fun hc => ?_)
                      · have h := h.1 (hc)
                        refine sv_aload_n hM dX12_rowWays_153 rfl rfl ?_
                        refine sv_sipush (d := (639 : Int)) hM dX12_rowWays_154 rfl rfl ?_
                        refine sv_iload hM dX12_rowWays_157 rfl rfl ?_
                        refine sv_iload hM dX12_rowWays_159 rfl rfl ?_
                        obtain ⟨o419, h⟩ := h
                        refine sv_callV hM dX12_rowWays_161 sm_iv_1163 (by decide) (sm_a0 _) rfl rfl (Nat.le_of_ble_eq_true rfl) sm_h225 (Nat.le_of_ble_eq_true rfl) (Nat.le_of_ble_eq_true rfl) (F' := 1) (Nat.le_of_ble_eq_true rfl) rfl (t_field (639 : Int) l6_323 l7_361 (sv_sts (sv_sts (sv_sts S [68, 69, 70] g321) [68, 69, 70] g346) [68, 69, 70] g360) ok364 (⟨by decide, by decide⟩ : sv_R (639 : Int)) hl6_323 hl7_361 o419) (fun v S1 hq => ?_)
                        obtain ⟨r424, rfl, hr424, ok421, md422, hpo423⟩ := hq
                        obtain rfl : (sv_sts (sv_sts (sv_sts S [68, 69, 70] g321) [68, 69, 70] g346) [68, 69, 70] g360) = S1 := (funext fun j => md422 j (by intro q; cases q)).symm
                        show sv_T sm_XS sm_cs sm_L sm_sh 3 (q_rowWays p1 p2 p3 p4 S) 289 164 [(0, .ref 0), (1, sv_I p1), (2, sv_I p2), (3, sv_I p3), (4, sv_I p4), (5, sv_I l5_322), (6, sv_I l6_323), (7, sv_I l7_361)] [sv_I r424] (sv_sts (sv_sts (sv_sts S [68, 69, 70] g321) [68, 69, 70] g346) [68, 69, 70] g360)
                        have h := h r424 hr424 hpo423
                        refine sv_istore hM dX12_rowWays_164 (by decide) rfl ?_
                        show sv_T sm_XS sm_cs sm_L sm_sh 3 (q_rowWays p1 p2 p3 p4 S) 289 166 [(0, .ref 0), (1, sv_I p1), (2, sv_I p2), (3, sv_I p3), (4, sv_I p4), (5, sv_I l5_322), (6, sv_I l6_323), (7, sv_I l7_361), (8, sv_I r424)] [] (sv_sts (sv_sts (sv_sts S [68, 69, 70] g321) [68, 69, 70] g346) [68, 69, 70] g360)
                        refine sv_iload_n hM dX12_rowWays_166 rfl rfl ?_
                        refine sv_bipush (d := (18 : Int)) hM dX12_rowWays_167 rfl rfl ?_
                        refine sv_icmp_ne hM dX12_rowWays_169 hp1 (⟨by decide, by decide⟩ : sv_R (18 : Int)) (t := 184) rfl rfl (fun hc => ?_) (fun hc => ?_)
                        · have h := h.1 (hc)
                          refine sv_aload_n hM dX12_rowWays_184 rfl rfl ?_
                          refine sv_iload hM dX12_rowWays_185 rfl rfl ?_
                          refine sv_iload hM dX12_rowWays_187 rfl rfl ?_
                          obtain ⟨o425, h⟩ := h
                          refine sv_callV hM dX12_rowWays_189 sm_iv_1228 (by decide) (sm_a0 _) rfl rfl (Nat.le_of_ble_eq_true rfl) sm_h266 (Nat.le_of_ble_eq_true rfl) (Nat.le_of_ble_eq_true rfl) (F' := 2) (Nat.le_of_ble_eq_true rfl) rfl (t_joinPlain r424 p4 (sv_sts (sv_sts (sv_sts S [68, 69, 70] g321) [68, 69, 70] g346) [68, 69, 70] g360) ok421 hr424 hp4 o425) (fun v S1 hq => ?_)
                          obtain ⟨rfl, ok427, md428, hpo429⟩ := hq
                          obtain ⟨g426, rfl⟩ : ∃ g, S1 = sv_sts (sv_sts (sv_sts (sv_sts S [68, 69, 70] g321) [68, 69, 70] g346) [68, 69, 70] g360) [68, 69, 70] g := ⟨_, md428.eq⟩
                          show sv_T sm_XS sm_cs sm_L sm_sh 3 (q_rowWays p1 p2 p3 p4 S) 289 192 [(0, .ref 0), (1, sv_I p1), (2, sv_I p2), (3, sv_I p3), (4, sv_I p4), (5, sv_I l5_322), (6, sv_I l6_323), (7, sv_I l7_361), (8, sv_I r424)] [] (sv_sts (sv_sts (sv_sts (sv_sts S [68, 69, 70] g321) [68, 69, 70] g346) [68, 69, 70] g360) [68, 69, 70] g426)
                          have md430 : sv_mod [68, 69, 70] S (sv_sts (sv_sts (sv_sts (sv_sts S [68, 69, 70] g321) [68, 69, 70] g346) [68, 69, 70] g360) [68, 69, 70] g426) := sv_mod.sts md365 (by decide)
                          have md431 : sv_mod [68, 69, 70] S (sv_sts (sv_sts (sv_sts (sv_sts S [68, 69, 70] g321) [68, 69, 70] g346) [68, 69, 70] g360) [68, 69, 70] g426) := sv_mod.sts md366 (by decide)
                          have md432 : sv_mod [68, 69, 70] (sv_sts (sv_sts S [68, 69, 70] g321) [68, 69, 70] g346) (sv_sts (sv_sts (sv_sts (sv_sts S [68, 69, 70] g321) [68, 69, 70] g346) [68, 69, 70] g360) [68, 69, 70] g426) := sv_mod.sts md367 (by decide)
                          have h := h g426 hpo429
                          refine sv_aload_n hM dX12_rowWays_192 rfl rfl ?_
                          refine sv_iload hM dX12_rowWays_193 rfl rfl ?_
                          refine sv_sipush (d := (512 : Int)) hM dX12_rowWays_195 rfl rfl ?_
                          obtain ⟨o433, h⟩ := h
                          refine sv_callV hM dX12_rowWays_198 sm_iv_1072 (by decide) (sm_a0 _) rfl rfl (Nat.le_of_ble_eq_true rfl) sm_h213 (Nat.le_of_ble_eq_true rfl) (Nat.le_of_ble_eq_true rfl) (F' := 2) (Nat.le_of_ble_eq_true rfl) rfl (t_addSort r424 (512 : Int) (sv_sts (sv_sts (sv_sts (sv_sts S [68, 69, 70] g321) [68, 69, 70] g346) [68, 69, 70] g360) [68, 69, 70] g426) ok427 hr424 (⟨by decide, by decide⟩ : sv_R (512 : Int)) o433) (fun v S1 hq => ?_)
                          obtain ⟨rfl, ok435, md436, hpo437⟩ := hq
                          obtain ⟨g434, rfl⟩ : ∃ g, S1 = sv_sts (sv_sts (sv_sts (sv_sts (sv_sts S [68, 69, 70] g321) [68, 69, 70] g346) [68, 69, 70] g360) [68, 69, 70] g426) [68, 69, 70] g := ⟨_, md436.eq⟩
                          show sv_T sm_XS sm_cs sm_L sm_sh 3 (q_rowWays p1 p2 p3 p4 S) 289 201 [(0, .ref 0), (1, sv_I p1), (2, sv_I p2), (3, sv_I p3), (4, sv_I p4), (5, sv_I l5_322), (6, sv_I l6_323), (7, sv_I l7_361), (8, sv_I r424)] [] (sv_sts (sv_sts (sv_sts (sv_sts (sv_sts S [68, 69, 70] g321) [68, 69, 70] g346) [68, 69, 70] g360) [68, 69, 70] g426) [68, 69, 70] g434)
                          have md438 : sv_mod [68, 69, 70] S (sv_sts (sv_sts (sv_sts (sv_sts (sv_sts S [68, 69, 70] g321) [68, 69, 70] g346) [68, 69, 70] g360) [68, 69, 70] g426) [68, 69, 70] g434) := sv_mod.sts md430 (by decide)
                          have md439 : sv_mod [68, 69, 70] S (sv_sts (sv_sts (sv_sts (sv_sts (sv_sts S [68, 69, 70] g321) [68, 69, 70] g346) [68, 69, 70] g360) [68, 69, 70] g426) [68, 69, 70] g434) := sv_mod.sts md431 (by decide)
                          have md440 : sv_mod [68, 69, 70] (sv_sts (sv_sts S [68, 69, 70] g321) [68, 69, 70] g346) (sv_sts (sv_sts (sv_sts (sv_sts (sv_sts S [68, 69, 70] g321) [68, 69, 70] g346) [68, 69, 70] g360) [68, 69, 70] g426) [68, 69, 70] g434) := sv_mod.sts md432 (by decide)
                          have h := h g434 hpo437
                          refine sv_iinc (d := (1 : Int)) hM dX12_rowWays_201 rfl (by decide) rfl rfl ?_
                          show sv_T sm_XS sm_cs sm_L sm_sh 3 (q_rowWays p1 p2 p3 p4 S) 289 204 [(0, .ref 0), (1, sv_I p1), (2, sv_I p2), (3, sv_I p3), (4, sv_I p4), (5, sv_I l5_322), (6, sv_I l6_323), (7, sv_I (l7_361 + (1 : Int))), (8, sv_I r424)] [] (sv_sts (sv_sts (sv_sts (sv_sts (sv_sts S [68, 69, 70] g321) [68, 69, 70] g346) [68, 69, 70] g360) [68, 69, 70] g426) [68, 69, 70] g434)
                          refine sv_goto hM dX12_rowWays_204 (pc' := 106) rfl ?_
                          obtain ⟨o441, h⟩ := h
                          have eS := sv_mod.eq md440
                          have hb := ih362 ((l7_361 + (1 : Int)), (sv_sts (sv_sts (sv_sts (sv_sts (sv_sts S [68, 69, 70] g321) [68, 69, 70] g346) [68, 69, 70] g360) [68, 69, 70] g426) [68, 69, 70] g434)) ⟨o441, (by rw [← eS]; exact ok435), h.1⟩ h.2
                          have hb : sv_T sm_XS sm_cs sm_L sm_sh 3 (q_rowWays p1 p2 p3 p4 S) 289 106 [(0, .ref 0), (1, sv_I p1), (2, sv_I p2), (3, sv_I p3), (4, sv_I p4), (5, sv_I l5_322), (6, sv_I l6_323), (7, sv_I (l7_361 + (1 : Int)))] [] (sv_sts (sv_sts (sv_sts (sv_sts (sv_sts S [68, 69, 70] g321) [68, 69, 70] g346) [68, 69, 70] g360) [68, 69, 70] g426) [68, 69, 70] g434) := Eq.mpr (congrArg (fun Z => sv_T sm_XS sm_cs sm_L sm_sh 3 (q_rowWays p1 p2 p3 p4 S) 289 106 [(0, .ref 0), (1, sv_I p1), (2, sv_I p2), (3, sv_I p3), (4, sv_I p4), (5, sv_I l5_322), (6, sv_I l6_323), (7, sv_I (l7_361 + (1 : Int)))] [] Z) eS) hb
                          exact sv_less (lv := [(0, .ref 0), (1, sv_I p1), (2, sv_I p2), (3, sv_I p3), (4, sv_I p4), (5, sv_I l5_322), (6, sv_I l6_323), (7, sv_I (l7_361 + (1 : Int)))]) (sv_Sub_cons rfl (sv_Sub_cons rfl (sv_Sub_cons rfl (sv_Sub_cons rfl (sv_Sub_cons rfl (sv_Sub_cons rfl (sv_Sub_cons rfl (sv_Sub_cons rfl sv_Sub_nil)))))))) hb
                        · have h := h.2 (hc)
                          refine sv_aload_n hM dX12_rowWays_172 rfl rfl ?_
                          refine sv_iload_n hM dX12_rowWays_173 rfl rfl ?_
                          refine sv_iload hM dX12_rowWays_174 rfl rfl ?_
                          obtain ⟨o442, h⟩ := h
                          refine sv_callV hM dX12_rowWays_176 sm_iv_1069 (by decide) (sm_a0 _) rfl rfl (Nat.le_of_ble_eq_true rfl) sm_h208 (Nat.le_of_ble_eq_true rfl) (Nat.le_of_ble_eq_true rfl) (F' := 1) (Nat.le_of_ble_eq_true rfl) rfl (t_join p3 r424 (sv_sts (sv_sts (sv_sts S [68, 69, 70] g321) [68, 69, 70] g346) [68, 69, 70] g360) ok421 hp3 hr424 o442) (fun v S1 hq => ?_)
                          obtain ⟨r447, rfl, hr447, ok444, md445, hpo446⟩ := hq
                          obtain ⟨g443, rfl⟩ : ∃ g, S1 = sv_sts (sv_sts (sv_sts (sv_sts S [68, 69, 70] g321) [68, 69, 70] g346) [68, 69, 70] g360) [68, 69, 70] g := ⟨_, md445.eq⟩
                          show sv_T sm_XS sm_cs sm_L sm_sh 3 (q_rowWays p1 p2 p3 p4 S) 289 179 [(0, .ref 0), (1, sv_I p1), (2, sv_I p2), (3, sv_I p3), (4, sv_I p4), (5, sv_I l5_322), (6, sv_I l6_323), (7, sv_I l7_361), (8, sv_I r424)] [sv_I r447] (sv_sts (sv_sts (sv_sts (sv_sts S [68, 69, 70] g321) [68, 69, 70] g346) [68, 69, 70] g360) [68, 69, 70] g443)
                          have md448 : sv_mod [68, 69, 70] S (sv_sts (sv_sts (sv_sts (sv_sts S [68, 69, 70] g321) [68, 69, 70] g346) [68, 69, 70] g360) [68, 69, 70] g443) := sv_mod.sts md365 (by decide)
                          have md449 : sv_mod [68, 69, 70] S (sv_sts (sv_sts (sv_sts (sv_sts S [68, 69, 70] g321) [68, 69, 70] g346) [68, 69, 70] g360) [68, 69, 70] g443) := sv_mod.sts md366 (by decide)
                          have md450 : sv_mod [68, 69, 70] (sv_sts (sv_sts S [68, 69, 70] g321) [68, 69, 70] g346) (sv_sts (sv_sts (sv_sts (sv_sts S [68, 69, 70] g321) [68, 69, 70] g346) [68, 69, 70] g360) [68, 69, 70] g443) := sv_mod.sts md367 (by decide)
                          have h := h r447 hr447 g443 hpo446
                          refine sv_istore hM dX12_rowWays_179 (by decide) rfl ?_
                          show sv_T sm_XS sm_cs sm_L sm_sh 3 (q_rowWays p1 p2 p3 p4 S) 289 181 [(0, .ref 0), (1, sv_I p1), (2, sv_I p2), (3, sv_I p3), (4, sv_I p4), (5, sv_I l5_322), (6, sv_I l6_323), (7, sv_I l7_361), (8, sv_I r424), (9, sv_I r447)] [] (sv_sts (sv_sts (sv_sts (sv_sts S [68, 69, 70] g321) [68, 69, 70] g346) [68, 69, 70] g360) [68, 69, 70] g443)
                          refine sv_goto hM dX12_rowWays_181 (pc' := 201) rfl ?_
                          refine sv_iinc (d := (1 : Int)) hM dX12_rowWays_201 rfl (by decide) rfl rfl ?_
                          show sv_T sm_XS sm_cs sm_L sm_sh 3 (q_rowWays p1 p2 p3 p4 S) 289 204 [(0, .ref 0), (1, sv_I p1), (2, sv_I p2), (3, sv_I p3), (4, sv_I p4), (5, sv_I l5_322), (6, sv_I l6_323), (7, sv_I (l7_361 + (1 : Int))), (8, sv_I r424), (9, sv_I r447)] [] (sv_sts (sv_sts (sv_sts (sv_sts S [68, 69, 70] g321) [68, 69, 70] g346) [68, 69, 70] g360) [68, 69, 70] g443)
                          refine sv_goto hM dX12_rowWays_204 (pc' := 106) rfl ?_
                          obtain ⟨o451, h⟩ := h
                          have eS := sv_mod.eq md450
                          have hb := ih362 ((l7_361 + (1 : Int)), (sv_sts (sv_sts (sv_sts (sv_sts S [68, 69, 70] g321) [68, 69, 70] g346) [68, 69, 70] g360) [68, 69, 70] g443)) ⟨o451, (by rw [← eS]; exact ok444), h.1⟩ h.2
                          have hb : sv_T sm_XS sm_cs sm_L sm_sh 3 (q_rowWays p1 p2 p3 p4 S) 289 106 [(0, .ref 0), (1, sv_I p1), (2, sv_I p2), (3, sv_I p3), (4, sv_I p4), (5, sv_I l5_322), (6, sv_I l6_323), (7, sv_I (l7_361 + (1 : Int)))] [] (sv_sts (sv_sts (sv_sts (sv_sts S [68, 69, 70] g321) [68, 69, 70] g346) [68, 69, 70] g360) [68, 69, 70] g443) := Eq.mpr (congrArg (fun Z => sv_T sm_XS sm_cs sm_L sm_sh 3 (q_rowWays p1 p2 p3 p4 S) 289 106 [(0, .ref 0), (1, sv_I p1), (2, sv_I p2), (3, sv_I p3), (4, sv_I p4), (5, sv_I l5_322), (6, sv_I l6_323), (7, sv_I (l7_361 + (1 : Int)))] [] Z) eS) hb
                          exact sv_less (lv := [(0, .ref 0), (1, sv_I p1), (2, sv_I p2), (3, sv_I p3), (4, sv_I p4), (5, sv_I l5_322), (6, sv_I l6_323), (7, sv_I (l7_361 + (1 : Int)))]) (sv_Sub_cons rfl (sv_Sub_cons rfl (sv_Sub_cons rfl (sv_Sub_cons rfl (sv_Sub_cons rfl (sv_Sub_cons rfl (sv_Sub_cons rfl (sv_Sub_cons rfl sv_Sub_nil)))))))) hb
                      · have h := h.2 (hc)
                        refine sv_iload_n hM dX12_rowWays_134 rfl rfl ?_
                        refine sv_bipush (d := (18 : Int)) hM dX12_rowWays_135 rfl rfl ?_
                        refine sv_icmp_ne hM dX12_rowWays_137 hp1 (⟨by decide, by decide⟩ : sv_R (18 : Int)) (t := 201) rfl rfl (fun hc => ?_) (fun hc => ?_)
                        · have h := h.1 (hc)
                          refine sv_iinc (d := (1 : Int)) hM dX12_rowWays_201 rfl (by decide) rfl rfl ?_
                          show sv_T sm_XS sm_cs sm_L sm_sh 3 (q_rowWays p1 p2 p3 p4 S) 289 204 [(0, .ref 0), (1, sv_I p1), (2, sv_I p2), (3, sv_I p3), (4, sv_I p4), (5, sv_I l5_322), (6, sv_I l6_323), (7, sv_I (l7_361 + (1 : Int)))] [] (sv_sts (sv_sts (sv_sts S [68, 69, 70] g321) [68, 69, 70] g346) [68, 69, 70] g360)
                          refine sv_goto hM dX12_rowWays_204 (pc' := 106) rfl ?_
                          obtain ⟨o452, h⟩ := h
                          have eS := sv_mod.eq md367
                          have hb := ih362 ((l7_361 + (1 : Int)), (sv_sts (sv_sts (sv_sts S [68, 69, 70] g321) [68, 69, 70] g346) [68, 69, 70] g360)) ⟨o452, (by rw [← eS]; exact ok364), h.1⟩ h.2
                          have hb : sv_T sm_XS sm_cs sm_L sm_sh 3 (q_rowWays p1 p2 p3 p4 S) 289 106 [(0, .ref 0), (1, sv_I p1), (2, sv_I p2), (3, sv_I p3), (4, sv_I p4), (5, sv_I l5_322), (6, sv_I l6_323), (7, sv_I (l7_361 + (1 : Int)))] [] (sv_sts (sv_sts (sv_sts S [68, 69, 70] g321) [68, 69, 70] g346) [68, 69, 70] g360) := Eq.mpr (congrArg (fun Z => sv_T sm_XS sm_cs sm_L sm_sh 3 (q_rowWays p1 p2 p3 p4 S) 289 106 [(0, .ref 0), (1, sv_I p1), (2, sv_I p2), (3, sv_I p3), (4, sv_I p4), (5, sv_I l5_322), (6, sv_I l6_323), (7, sv_I (l7_361 + (1 : Int)))] [] Z) eS) hb
                          exact sv_less (lv := [(0, .ref 0), (1, sv_I p1), (2, sv_I p2), (3, sv_I p3), (4, sv_I p4), (5, sv_I l5_322), (6, sv_I l6_323), (7, sv_I (l7_361 + (1 : Int)))]) (sv_Sub_cons rfl (sv_Sub_cons rfl (sv_Sub_cons rfl (sv_Sub_cons rfl (sv_Sub_cons rfl (sv_Sub_cons rfl (sv_Sub_cons rfl (sv_Sub_cons rfl sv_Sub_nil)))))))) hb
                        · have h := h.2 (hc)
                          refine sv_aload_n hM dX12_rowWays_140 rfl rfl ?_
                          refine sv_getA hM dX12_rowWays_141 sm_fl_280 (sm_a0 _) sm_k141 rfl ?_
                          refine sv_iload hM dX12_rowWays_144 rfl rfl ?_
                          have k453 : (0 ≤ (S 89 l7_361) ∧ (S 89 l7_361) ≤ 1) := sm_okZ ok364 sm_r89 l7_361
                          have h := h k453
                          refine sv_zald hM dX12_rowWays_146 (sm_a89 _) (by decide) o417.1 o417.2 rfl (x := (S 89 l7_361)) rfl ?_
                          refine sv_cond_ne hM dX12_rowWays_147 (sv_R01 k453) (t := 153) rfl rfl (fun hc => ?_) (fun hc => ?_)
                          · have h := h.1 (hc)
                            refine sv_aload_n hM dX12_rowWays_153 rfl rfl ?_
                            refine sv_sipush (d := (639 : Int)) hM dX12_rowWays_154 rfl rfl ?_
                            refine sv_iload hM dX12_rowWays_157 rfl rfl ?_
                            refine sv_iload hM dX12_rowWays_159 rfl rfl ?_
                            obtain ⟨o454, h⟩ := h
                            refine sv_callV hM dX12_rowWays_161 sm_iv_1163 (by decide) (sm_a0 _) rfl rfl (Nat.le_of_ble_eq_true rfl) sm_h225 (Nat.le_of_ble_eq_true rfl) (Nat.le_of_ble_eq_true rfl) (F' := 1) (Nat.le_of_ble_eq_true rfl) rfl (t_field (639 : Int) l6_323 l7_361 (sv_sts (sv_sts (sv_sts S [68, 69, 70] g321) [68, 69, 70] g346) [68, 69, 70] g360) ok364 (⟨by decide, by decide⟩ : sv_R (639 : Int)) hl6_323 hl7_361 o454) (fun v S1 hq => ?_)
                            obtain ⟨r459, rfl, hr459, ok456, md457, hpo458⟩ := hq
                            obtain rfl : (sv_sts (sv_sts (sv_sts S [68, 69, 70] g321) [68, 69, 70] g346) [68, 69, 70] g360) = S1 := (funext fun j => md457 j (by intro q; cases q)).symm
                            show sv_T sm_XS sm_cs sm_L sm_sh 3 (q_rowWays p1 p2 p3 p4 S) 289 164 [(0, .ref 0), (1, sv_I p1), (2, sv_I p2), (3, sv_I p3), (4, sv_I p4), (5, sv_I l5_322), (6, sv_I l6_323), (7, sv_I l7_361)] [sv_I r459] (sv_sts (sv_sts (sv_sts S [68, 69, 70] g321) [68, 69, 70] g346) [68, 69, 70] g360)
                            have h := h r459 hr459 hpo458
                            refine sv_istore hM dX12_rowWays_164 (by decide) rfl ?_
                            show sv_T sm_XS sm_cs sm_L sm_sh 3 (q_rowWays p1 p2 p3 p4 S) 289 166 [(0, .ref 0), (1, sv_I p1), (2, sv_I p2), (3, sv_I p3), (4, sv_I p4), (5, sv_I l5_322), (6, sv_I l6_323), (7, sv_I l7_361), (8, sv_I r459)] [] (sv_sts (sv_sts (sv_sts S [68, 69, 70] g321) [68, 69, 70] g346) [68, 69, 70] g360)
                            refine sv_iload_n hM dX12_rowWays_166 rfl rfl ?_
                            refine sv_bipush (d := (18 : Int)) hM dX12_rowWays_167 rfl rfl ?_
                            refine sv_icmp_ne hM dX12_rowWays_169 hp1 (⟨by decide, by decide⟩ : sv_R (18 : Int)) (t := 184) rfl rfl (fun hc => ?_) (fun hc => ?_)
                            · have h := h.1 (hc)
                              refine sv_aload_n hM dX12_rowWays_184 rfl rfl ?_
                              refine sv_iload hM dX12_rowWays_185 rfl rfl ?_
                              refine sv_iload hM dX12_rowWays_187 rfl rfl ?_
                              obtain ⟨o460, h⟩ := h
                              refine sv_callV hM dX12_rowWays_189 sm_iv_1228 (by decide) (sm_a0 _) rfl rfl (Nat.le_of_ble_eq_true rfl) sm_h266 (Nat.le_of_ble_eq_true rfl) (Nat.le_of_ble_eq_true rfl) (F' := 2) (Nat.le_of_ble_eq_true rfl) rfl (t_joinPlain r459 p4 (sv_sts (sv_sts (sv_sts S [68, 69, 70] g321) [68, 69, 70] g346) [68, 69, 70] g360) ok456 hr459 hp4 o460) (fun v S1 hq => ?_)
                              obtain ⟨rfl, ok462, md463, hpo464⟩ := hq
                              obtain ⟨g461, rfl⟩ : ∃ g, S1 = sv_sts (sv_sts (sv_sts (sv_sts S [68, 69, 70] g321) [68, 69, 70] g346) [68, 69, 70] g360) [68, 69, 70] g := ⟨_, md463.eq⟩
                              show sv_T sm_XS sm_cs sm_L sm_sh 3 (q_rowWays p1 p2 p3 p4 S) 289 192 [(0, .ref 0), (1, sv_I p1), (2, sv_I p2), (3, sv_I p3), (4, sv_I p4), (5, sv_I l5_322), (6, sv_I l6_323), (7, sv_I l7_361), (8, sv_I r459)] [] (sv_sts (sv_sts (sv_sts (sv_sts S [68, 69, 70] g321) [68, 69, 70] g346) [68, 69, 70] g360) [68, 69, 70] g461)
                              have md465 : sv_mod [68, 69, 70] S (sv_sts (sv_sts (sv_sts (sv_sts S [68, 69, 70] g321) [68, 69, 70] g346) [68, 69, 70] g360) [68, 69, 70] g461) := sv_mod.sts md365 (by decide)
                              have md466 : sv_mod [68, 69, 70] S (sv_sts (sv_sts (sv_sts (sv_sts S [68, 69, 70] g321) [68, 69, 70] g346) [68, 69, 70] g360) [68, 69, 70] g461) := sv_mod.sts md366 (by decide)
                              have md467 : sv_mod [68, 69, 70] (sv_sts (sv_sts S [68, 69, 70] g321) [68, 69, 70] g346) (sv_sts (sv_sts (sv_sts (sv_sts S [68, 69, 70] g321) [68, 69, 70] g346) [68, 69, 70] g360) [68, 69, 70] g461) := sv_mod.sts md367 (by decide)
                              have h := h g461 hpo464
                              refine sv_aload_n hM dX12_rowWays_192 rfl rfl ?_
                              refine sv_iload hM dX12_rowWays_193 rfl rfl ?_
                              refine sv_sipush (d := (512 : Int)) hM dX12_rowWays_195 rfl rfl ?_
                              obtain ⟨o468, h⟩ := h
                              refine sv_callV hM dX12_rowWays_198 sm_iv_1072 (by decide) (sm_a0 _) rfl rfl (Nat.le_of_ble_eq_true rfl) sm_h213 (Nat.le_of_ble_eq_true rfl) (Nat.le_of_ble_eq_true rfl) (F' := 2) (Nat.le_of_ble_eq_true rfl) rfl (t_addSort r459 (512 : Int) (sv_sts (sv_sts (sv_sts (sv_sts S [68, 69, 70] g321) [68, 69, 70] g346) [68, 69, 70] g360) [68, 69, 70] g461) ok462 hr459 (⟨by decide, by decide⟩ : sv_R (512 : Int)) o468) (fun v S1 hq => ?_)
                              obtain ⟨rfl, ok470, md471, hpo472⟩ := hq
                              obtain ⟨g469, rfl⟩ : ∃ g, S1 = sv_sts (sv_sts (sv_sts (sv_sts (sv_sts S [68, 69, 70] g321) [68, 69, 70] g346) [68, 69, 70] g360) [68, 69, 70] g461) [68, 69, 70] g := ⟨_, md471.eq⟩
                              show sv_T sm_XS sm_cs sm_L sm_sh 3 (q_rowWays p1 p2 p3 p4 S) 289 201 [(0, .ref 0), (1, sv_I p1), (2, sv_I p2), (3, sv_I p3), (4, sv_I p4), (5, sv_I l5_322), (6, sv_I l6_323), (7, sv_I l7_361), (8, sv_I r459)] [] (sv_sts (sv_sts (sv_sts (sv_sts (sv_sts S [68, 69, 70] g321) [68, 69, 70] g346) [68, 69, 70] g360) [68, 69, 70] g461) [68, 69, 70] g469)
                              have md473 : sv_mod [68, 69, 70] S (sv_sts (sv_sts (sv_sts (sv_sts (sv_sts S [68, 69, 70] g321) [68, 69, 70] g346) [68, 69, 70] g360) [68, 69, 70] g461) [68, 69, 70] g469) := sv_mod.sts md465 (by decide)
                              have md474 : sv_mod [68, 69, 70] S (sv_sts (sv_sts (sv_sts (sv_sts (sv_sts S [68, 69, 70] g321) [68, 69, 70] g346) [68, 69, 70] g360) [68, 69, 70] g461) [68, 69, 70] g469) := sv_mod.sts md466 (by decide)
                              have md475 : sv_mod [68, 69, 70] (sv_sts (sv_sts S [68, 69, 70] g321) [68, 69, 70] g346) (sv_sts (sv_sts (sv_sts (sv_sts (sv_sts S [68, 69, 70] g321) [68, 69, 70] g346) [68, 69, 70] g360) [68, 69, 70] g461) [68, 69, 70] g469) := sv_mod.sts md467 (by decide)
                              have h := h g469 hpo472
                              refine sv_iinc (d := (1 : Int)) hM dX12_rowWays_201 rfl (by decide) rfl rfl ?_
                              show sv_T sm_XS sm_cs sm_L sm_sh 3 (q_rowWays p1 p2 p3 p4 S) 289 204 [(0, .ref 0), (1, sv_I p1), (2, sv_I p2), (3, sv_I p3), (4, sv_I p4), (5, sv_I l5_322), (6, sv_I l6_323), (7, sv_I (l7_361 + (1 : Int))), (8, sv_I r459)] [] (sv_sts (sv_sts (sv_sts (sv_sts (sv_sts S [68, 69, 70] g321) [68, 69, 70] g346) [68, 69, 70] g360) [68, 69, 70] g461) [68, 69, 70] g469)
                              refine sv_goto hM dX12_rowWays_204 (pc' := 106) rfl ?_
                              obtain ⟨o476, h⟩ := h
                              have eS := sv_mod.eq md475
                              have hb := ih362 ((l7_361 + (1 : Int)), (sv_sts (sv_sts (sv_sts (sv_sts (sv_sts S [68, 69, 70] g321) [68, 69, 70] g346) [68, 69, 70] g360) [68, 69, 70] g461) [68, 69, 70] g469)) ⟨o476, (by rw [← eS]; exact ok470), h.1⟩ h.2
                              have hb : sv_T sm_XS sm_cs sm_L sm_sh 3 (q_rowWays p1 p2 p3 p4 S) 289 106 [(0, .ref 0), (1, sv_I p1), (2, sv_I p2), (3, sv_I p3), (4, sv_I p4), (5, sv_I l5_322), (6, sv_I l6_323), (7, sv_I (l7_361 + (1 : Int)))] [] (sv_sts (sv_sts (sv_sts (sv_sts (sv_sts S [68, 69, 70] g321) [68, 69, 70] g346) [68, 69, 70] g360) [68, 69, 70] g461) [68, 69, 70] g469) := Eq.mpr (congrArg (fun Z => sv_T sm_XS sm_cs sm_L sm_sh 3 (q_rowWays p1 p2 p3 p4 S) 289 106 [(0, .ref 0), (1, sv_I p1), (2, sv_I p2), (3, sv_I p3), (4, sv_I p4), (5, sv_I l5_322), (6, sv_I l6_323), (7, sv_I (l7_361 + (1 : Int)))] [] Z) eS) hb
                              exact sv_less (lv := [(0, .ref 0), (1, sv_I p1), (2, sv_I p2), (3, sv_I p3), (4, sv_I p4), (5, sv_I l5_322), (6, sv_I l6_323), (7, sv_I (l7_361 + (1 : Int)))]) (sv_Sub_cons rfl (sv_Sub_cons rfl (sv_Sub_cons rfl (sv_Sub_cons rfl (sv_Sub_cons rfl (sv_Sub_cons rfl (sv_Sub_cons rfl (sv_Sub_cons rfl sv_Sub_nil)))))))) hb
                            · have h := h.2 (hc)
                              refine sv_aload_n hM dX12_rowWays_172 rfl rfl ?_
                              refine sv_iload_n hM dX12_rowWays_173 rfl rfl ?_
                              refine sv_iload hM dX12_rowWays_174 rfl rfl ?_
                              obtain ⟨o477, h⟩ := h
                              refine sv_callV hM dX12_rowWays_176 sm_iv_1069 (by decide) (sm_a0 _) rfl rfl (Nat.le_of_ble_eq_true rfl) sm_h208 (Nat.le_of_ble_eq_true rfl) (Nat.le_of_ble_eq_true rfl) (F' := 1) (Nat.le_of_ble_eq_true rfl) rfl (t_join p3 r459 (sv_sts (sv_sts (sv_sts S [68, 69, 70] g321) [68, 69, 70] g346) [68, 69, 70] g360) ok456 hp3 hr459 o477) (fun v S1 hq => ?_)
                              obtain ⟨r482, rfl, hr482, ok479, md480, hpo481⟩ := hq
                              obtain ⟨g478, rfl⟩ : ∃ g, S1 = sv_sts (sv_sts (sv_sts (sv_sts S [68, 69, 70] g321) [68, 69, 70] g346) [68, 69, 70] g360) [68, 69, 70] g := ⟨_, md480.eq⟩
                              show sv_T sm_XS sm_cs sm_L sm_sh 3 (q_rowWays p1 p2 p3 p4 S) 289 179 [(0, .ref 0), (1, sv_I p1), (2, sv_I p2), (3, sv_I p3), (4, sv_I p4), (5, sv_I l5_322), (6, sv_I l6_323), (7, sv_I l7_361), (8, sv_I r459)] [sv_I r482] (sv_sts (sv_sts (sv_sts (sv_sts S [68, 69, 70] g321) [68, 69, 70] g346) [68, 69, 70] g360) [68, 69, 70] g478)
                              have md483 : sv_mod [68, 69, 70] S (sv_sts (sv_sts (sv_sts (sv_sts S [68, 69, 70] g321) [68, 69, 70] g346) [68, 69, 70] g360) [68, 69, 70] g478) := sv_mod.sts md365 (by decide)
                              have md484 : sv_mod [68, 69, 70] S (sv_sts (sv_sts (sv_sts (sv_sts S [68, 69, 70] g321) [68, 69, 70] g346) [68, 69, 70] g360) [68, 69, 70] g478) := sv_mod.sts md366 (by decide)
                              have md485 : sv_mod [68, 69, 70] (sv_sts (sv_sts S [68, 69, 70] g321) [68, 69, 70] g346) (sv_sts (sv_sts (sv_sts (sv_sts S [68, 69, 70] g321) [68, 69, 70] g346) [68, 69, 70] g360) [68, 69, 70] g478) := sv_mod.sts md367 (by decide)
                              have h := h r482 hr482 g478 hpo481
                              refine sv_istore hM dX12_rowWays_179 (by decide) rfl ?_
                              show sv_T sm_XS sm_cs sm_L sm_sh 3 (q_rowWays p1 p2 p3 p4 S) 289 181 [(0, .ref 0), (1, sv_I p1), (2, sv_I p2), (3, sv_I p3), (4, sv_I p4), (5, sv_I l5_322), (6, sv_I l6_323), (7, sv_I l7_361), (8, sv_I r459), (9, sv_I r482)] [] (sv_sts (sv_sts (sv_sts (sv_sts S [68, 69, 70] g321) [68, 69, 70] g346) [68, 69, 70] g360) [68, 69, 70] g478)
                              refine sv_goto hM dX12_rowWays_181 (pc' := 201) rfl ?_
                              refine sv_iinc (d := (1 : Int)) hM dX12_rowWays_201 rfl (by decide) rfl rfl ?_
                              show sv_T sm_XS sm_cs sm_L sm_sh 3 (q_rowWays p1 p2 p3 p4 S) 289 204 [(0, .ref 0), (1, sv_I p1), (2, sv_I p2), (3, sv_I p3), (4, sv_I p4), (5, sv_I l5_322), (6, sv_I l6_323), (7, sv_I (l7_361 + (1 : Int))), (8, sv_I r459), (9, sv_I r482)] [] (sv_sts (sv_sts (sv_sts (sv_sts S [68, 69, 70] g321) [68, 69, 70] g346) [68, 69, 70] g360) [68, 69, 70] g478)
                              refine sv_goto hM dX12_rowWays_204 (pc' := 106) rfl ?_
                              obtain ⟨o486, h⟩ := h
                              have eS := sv_mod.eq md485
                              have hb := ih362 ((l7_361 + (1 : Int)), (sv_sts (sv_sts (sv_sts (sv_sts S [68, 69, 70] g321) [68, 69, 70] g346) [68, 69, 70] g360) [68, 69, 70] g478)) ⟨o486, (by rw [← eS]; exact ok479), h.1⟩ h.2
                              have hb : sv_T sm_XS sm_cs sm_L sm_sh 3 (q_rowWays p1 p2 p3 p4 S) 289 106 [(0, .ref 0), (1, sv_I p1), (2, sv_I p2), (3, sv_I p3), (4, sv_I p4), (5, sv_I l5_322), (6, sv_I l6_323), (7, sv_I (l7_361 + (1 : Int)))] [] (sv_sts (sv_sts (sv_sts (sv_sts S [68, 69, 70] g321) [68, 69, 70] g346) [68, 69, 70] g360) [68, 69, 70] g478) := Eq.mpr (congrArg (fun Z => sv_T sm_XS sm_cs sm_L sm_sh 3 (q_rowWays p1 p2 p3 p4 S) 289 106 [(0, .ref 0), (1, sv_I p1), (2, sv_I p2), (3, sv_I p3), (4, sv_I p4), (5, sv_I l5_322), (6, sv_I l6_323), (7, sv_I (l7_361 + (1 : Int)))] [] Z) eS) hb
                              exact sv_less (lv := [(0, .ref 0), (1, sv_I p1), (2, sv_I p2), (3, sv_I p3), (4, sv_I p4), (5, sv_I l5_322), (6, sv_I l6_323), (7, sv_I (l7_361 + (1 : Int)))]) (sv_Sub_cons rfl (sv_Sub_cons rfl (sv_Sub_cons rfl (sv_Sub_cons rfl (sv_Sub_cons rfl (sv_Sub_cons rfl (sv_Sub_cons rfl (sv_Sub_cons rfl sv_Sub_nil)))))))) hb
                          · have h := h.2 (hc)
                            refine sv_goto hM dX12_rowWays_150 (pc' := 201) rfl ?_
                            refine sv_iinc (d := (1 : Int)) hM dX12_rowWays_201 rfl (by decide) rfl rfl ?_
                            show sv_T sm_XS sm_cs sm_L sm_sh 3 (q_rowWays p1 p2 p3 p4 S) 289 204 [(0, .ref 0), (1, sv_I p1), (2, sv_I p2), (3, sv_I p3), (4, sv_I p4), (5, sv_I l5_322), (6, sv_I l6_323), (7, sv_I (l7_361 + (1 : Int)))] [] (sv_sts (sv_sts (sv_sts S [68, 69, 70] g321) [68, 69, 70] g346) [68, 69, 70] g360)
                            refine sv_goto hM dX12_rowWays_204 (pc' := 106) rfl ?_
                            obtain ⟨o487, h⟩ := h
                            have eS := sv_mod.eq md367
                            have hb := ih362 ((l7_361 + (1 : Int)), (sv_sts (sv_sts (sv_sts S [68, 69, 70] g321) [68, 69, 70] g346) [68, 69, 70] g360)) ⟨o487, (by rw [← eS]; exact ok364), h.1⟩ h.2
                            have hb : sv_T sm_XS sm_cs sm_L sm_sh 3 (q_rowWays p1 p2 p3 p4 S) 289 106 [(0, .ref 0), (1, sv_I p1), (2, sv_I p2), (3, sv_I p3), (4, sv_I p4), (5, sv_I l5_322), (6, sv_I l6_323), (7, sv_I (l7_361 + (1 : Int)))] [] (sv_sts (sv_sts (sv_sts S [68, 69, 70] g321) [68, 69, 70] g346) [68, 69, 70] g360) := Eq.mpr (congrArg (fun Z => sv_T sm_XS sm_cs sm_L sm_sh 3 (q_rowWays p1 p2 p3 p4 S) 289 106 [(0, .ref 0), (1, sv_I p1), (2, sv_I p2), (3, sv_I p3), (4, sv_I p4), (5, sv_I l5_322), (6, sv_I l6_323), (7, sv_I (l7_361 + (1 : Int)))] [] Z) eS) hb
                            exact sv_less (lv := [(0, .ref 0), (1, sv_I p1), (2, sv_I p2), (3, sv_I p3), (4, sv_I p4), (5, sv_I l5_322), (6, sv_I l6_323), (7, sv_I (l7_361 + (1 : Int)))]) (sv_Sub_cons rfl (sv_Sub_cons rfl (sv_Sub_cons rfl (sv_Sub_cons rfl (sv_Sub_cons rfl (sv_Sub_cons rfl (sv_Sub_cons rfl (sv_Sub_cons rfl sv_Sub_nil)))))))) hb
                have eS := sv_mod.eq (sv_mod.rf (l := [68, 69, 70]) (S := (sv_sts (sv_sts S [68, 69, 70] g321) [68, 69, 70] g346)))
                have hb := hJ ((0 : Int), (sv_sts (sv_sts S [68, 69, 70] g321) [68, 69, 70] g346)) ⟨(⟨by decide, by decide⟩ : sv_R (0 : Int)), (by rw [← eS]; exact ok354), hin363⟩
                have hb : sv_T sm_XS sm_cs sm_L sm_sh 3 (q_rowWays p1 p2 p3 p4 S) 289 106 [(0, .ref 0), (1, sv_I p1), (2, sv_I p2), (3, sv_I p3), (4, sv_I p4), (5, sv_I l5_322), (6, sv_I l6_323), (7, sv_I (0 : Int))] [] (sv_sts (sv_sts S [68, 69, 70] g321) [68, 69, 70] g346) := Eq.mpr (congrArg (fun Z => sv_T sm_XS sm_cs sm_L sm_sh 3 (q_rowWays p1 p2 p3 p4 S) 289 106 [(0, .ref 0), (1, sv_I p1), (2, sv_I p2), (3, sv_I p3), (4, sv_I p4), (5, sv_I l5_322), (6, sv_I l6_323), (7, sv_I (0 : Int))] [] Z) eS) hb
                exact hb
              · have h := h.2 (hc)
                refine sv_goto hM dX12_rowWays_100 (pc' := 223) rfl ?_
                refine sv_iinc (d := (1 : Int)) hM dX12_rowWays_223 rfl (by decide) rfl rfl ?_
                show sv_T sm_XS sm_cs sm_L sm_sh 3 (q_rowWays p1 p2 p3 p4 S) 289 226 [(0, .ref 0), (1, sv_I p1), (2, sv_I p2), (3, sv_I p3), (4, sv_I p4), (5, sv_I l5_322), (6, sv_I (l6_323 + (1 : Int)))] [] (sv_sts (sv_sts S [68, 69, 70] g321) [68, 69, 70] g346)
                refine sv_goto hM dX12_rowWays_226 (pc' := 18) rfl ?_
                obtain ⟨o488, h⟩ := h
                have eS := sv_mod.eq md351
                have hb := ih324 (l5_322, (l6_323 + (1 : Int)), (sv_sts (sv_sts S [68, 69, 70] g321) [68, 69, 70] g346)) ⟨hl5_322, o488, (by rw [← eS]; exact ok354), h.1⟩ h.2
                have hb : sv_T sm_XS sm_cs sm_L sm_sh 3 (q_rowWays p1 p2 p3 p4 S) 289 18 [(0, .ref 0), (1, sv_I p1), (2, sv_I p2), (3, sv_I p3), (4, sv_I p4), (5, sv_I l5_322), (6, sv_I (l6_323 + (1 : Int)))] [] (sv_sts (sv_sts S [68, 69, 70] g321) [68, 69, 70] g346) := Eq.mpr (congrArg (fun Z => sv_T sm_XS sm_cs sm_L sm_sh 3 (q_rowWays p1 p2 p3 p4 S) 289 18 [(0, .ref 0), (1, sv_I p1), (2, sv_I p2), (3, sv_I p3), (4, sv_I p4), (5, sv_I l5_322), (6, sv_I (l6_323 + (1 : Int)))] [] Z) eS) hb
                exact sv_less (lv := [(0, .ref 0), (1, sv_I p1), (2, sv_I p2), (3, sv_I p3), (4, sv_I p4), (5, sv_I l5_322), (6, sv_I (l6_323 + (1 : Int)))]) (sv_Sub_cons rfl (sv_Sub_cons rfl (sv_Sub_cons rfl (sv_Sub_cons rfl (sv_Sub_cons rfl (sv_Sub_cons rfl (sv_Sub_cons rfl sv_Sub_nil))))))) hb
            · have h := h.2 (hc)
              refine sv_bipush (d := (64 : Int)) hM dX12_rowWays_74 rfl rfl ?_
              refine sv_goto hM dX12_rowWays_76 (pc' := 80) rfl ?_
              obtain ⟨o489, h⟩ := h
              refine sv_callV hM dX12_rowWays_80 sm_iv_1072 (by decide) (sm_a0 _) rfl rfl (Nat.le_of_ble_eq_true rfl) sm_h213 (Nat.le_of_ble_eq_true rfl) (Nat.le_of_ble_eq_true rfl) (F' := 2) (Nat.le_of_ble_eq_true rfl) rfl (t_addSort p4 (64 : Int) (sv_sts S [68, 69, 70] g321) ok341 hp4 (⟨by decide, by decide⟩ : sv_R (64 : Int)) o489) (fun v S1 hq => ?_)
              obtain ⟨rfl, ok491, md492, hpo493⟩ := hq
              obtain ⟨g490, rfl⟩ : ∃ g, S1 = sv_sts (sv_sts S [68, 69, 70] g321) [68, 69, 70] g := ⟨_, md492.eq⟩
              show sv_T sm_XS sm_cs sm_L sm_sh 3 (q_rowWays p1 p2 p3 p4 S) 289 83 [(0, .ref 0), (1, sv_I p1), (2, sv_I p2), (3, sv_I p3), (4, sv_I p4), (5, sv_I l5_322), (6, sv_I l6_323)] [] (sv_sts (sv_sts S [68, 69, 70] g321) [68, 69, 70] g490)
              have md494 : sv_mod [68, 69, 70] S (sv_sts (sv_sts S [68, 69, 70] g321) [68, 69, 70] g490) := sv_mod.sts md327 (by decide)
              have md495 : sv_mod [68, 69, 70] S (sv_sts (sv_sts S [68, 69, 70] g321) [68, 69, 70] g490) := sv_mod.sts md328 (by decide)
              have h := h g490 hpo493
              refine sv_aload_n hM dX12_rowWays_83 rfl rfl ?_
              refine sv_getA hM dX12_rowWays_84 sm_fl_256 (sm_a0 _) sm_k133 rfl ?_
              refine sv_aload_n hM dX12_rowWays_87 rfl rfl ?_
              refine sv_sipush (d := (639 : Int)) hM dX12_rowWays_88 rfl rfl ?_
              refine sv_iload hM dX12_rowWays_91 rfl rfl ?_
              obtain ⟨o496, h⟩ := h
              refine sv_callV hM dX12_rowWays_93 sm_iv_1101 (by decide) (sm_a0 _) rfl rfl (Nat.le_of_ble_eq_true rfl) sm_h226 (Nat.le_of_ble_eq_true rfl) (Nat.le_of_ble_eq_true rfl) (F' := 1) (Nat.le_of_ble_eq_true rfl) rfl (t_of (639 : Int) l6_323 (sv_sts (sv_sts S [68, 69, 70] g321) [68, 69, 70] g490) ok491 (⟨by decide, by decide⟩ : sv_R (639 : Int)) hl6_323 o496) (fun v S1 hq => ?_)
              obtain ⟨r501, rfl, hr501, ok498, md499, hpo500⟩ := hq
              obtain rfl : (sv_sts (sv_sts S [68, 69, 70] g321) [68, 69, 70] g490) = S1 := (funext fun j => md499 j (by intro q; cases q)).symm
              show sv_T sm_XS sm_cs sm_L sm_sh 3 (q_rowWays p1 p2 p3 p4 S) 289 96 [(0, .ref 0), (1, sv_I p1), (2, sv_I p2), (3, sv_I p3), (4, sv_I p4), (5, sv_I l5_322), (6, sv_I l6_323)] [sv_I r501, .ref 81] (sv_sts (sv_sts S [68, 69, 70] g321) [68, 69, 70] g490)
              have h := h r501 hr501 hpo500
              obtain ⟨o502, h⟩ := h
              have k503 : (0 ≤ (S 81 r501) ∧ (S 81 r501) ≤ 1) := sm_okZ ok498 sm_r81 r501
              have h := h k503
              refine sv_zald hM dX12_rowWays_96 (sm_a81 _) (by decide) o502.1 o502.2 rfl (x := (S 81 r501)) rfl ?_
              refine sv_cond_ne hM dX12_rowWays_97 (sv_R01 k503) (t := 103) rfl rfl (fun hc => ?_) (fun hc => ?_)
              · have h := h.1 (hc)
                refine sv_iconst (d := (0 : Int)) hM dX12_rowWays_103 rfl rfl ?_
                refine sv_istore hM dX12_rowWays_104 (by decide) rfl ?_
                show sv_T sm_XS sm_cs sm_L sm_sh 3 (q_rowWays p1 p2 p3 p4 S) 289 106 [(0, .ref 0), (1, sv_I p1), (2, sv_I p2), (3, sv_I p3), (4, sv_I p4), (5, sv_I l5_322), (6, sv_I l6_323), (7, sv_I (0 : Int))] [] (sv_sts (sv_sts S [68, 69, 70] g321) [68, 69, 70] g490)
                obtain ⟨hin507, h⟩ := h
                have hJ : ∀ a : Int × sv_S, (sv_R a.1 ∧ sm_ok (sv_sts (sv_sts (sv_sts S [68, 69, 70] g321) [68, 69, 70] g490) [68, 69, 70] a.2) ∧ (0 ≤ a.1 ∧ a.1 ≤ (S 1008 0) + 1 ∧ sm_pt (a.2 68) (a.2 69) (a.2 70) = sm_pt (S 68) (S 69) (S 70))) → sv_T sm_XS sm_cs sm_L sm_sh 3 (q_rowWays p1 p2 p3 p4 S) 289 106 [(0, .ref 0), (1, sv_I p1), (2, sv_I p2), (3, sv_I p3), (4, sv_I p4), (5, sv_I l5_322), (6, sv_I l6_323), (7, sv_I a.1)] [] (sv_sts (sv_sts (sv_sts S [68, 69, 70] g321) [68, 69, 70] g490) [68, 69, 70] a.2) := by
                  refine sv_loop (α := Int × sv_S) (fun a => sv_R a.1 ∧ sm_ok (sv_sts (sv_sts (sv_sts S [68, 69, 70] g321) [68, 69, 70] g490) [68, 69, 70] a.2) ∧ (0 ≤ a.1 ∧ a.1 ≤ (S 1008 0) + 1 ∧ sm_pt (a.2 68) (a.2 69) (a.2 70) = sm_pt (S 68) (S 69) (S 70))) (fun a => (S 1008 0) + 1 - a.1) (fun a => sv_T sm_XS sm_cs sm_L sm_sh 3 (q_rowWays p1 p2 p3 p4 S) 289 106 [(0, .ref 0), (1, sv_I p1), (2, sv_I p2), (3, sv_I p3), (4, sv_I p4), (5, sv_I l5_322), (6, sv_I l6_323), (7, sv_I a.1)] [] (sv_sts (sv_sts (sv_sts S [68, 69, 70] g321) [68, 69, 70] g490) [68, 69, 70] a.2)) (fun a q => (h a.1 q.1 a.2 q.2.2).1) (fun a q ih506 => ?_)
                  obtain ⟨l7_505, g504⟩ := a
                  obtain ⟨hl7_505, ok508, hin507i⟩ := q
                  have h := (h l7_505 hl7_505 g504 hin507i).2
                  show sv_T sm_XS sm_cs sm_L sm_sh 3 (q_rowWays p1 p2 p3 p4 S) 289 106 [(0, .ref 0), (1, sv_I p1), (2, sv_I p2), (3, sv_I p3), (4, sv_I p4), (5, sv_I l5_322), (6, sv_I l6_323), (7, sv_I l7_505)] [] (sv_sts (sv_sts (sv_sts S [68, 69, 70] g321) [68, 69, 70] g490) [68, 69, 70] g504)
                  have md509 : sv_mod [68, 69, 70] S (sv_sts (sv_sts (sv_sts S [68, 69, 70] g321) [68, 69, 70] g490) [68, 69, 70] g504) := sv_mod.sts md494 (by decide)
                  have md510 : sv_mod [68, 69, 70] S (sv_sts (sv_sts (sv_sts S [68, 69, 70] g321) [68, 69, 70] g490) [68, 69, 70] g504) := sv_mod.sts md495 (by decide)
                  have md511 : sv_mod [68, 69, 70] (sv_sts (sv_sts S [68, 69, 70] g321) [68, 69, 70] g490) (sv_sts (sv_sts (sv_sts S [68, 69, 70] g321) [68, 69, 70] g490) [68, 69, 70] g504) := sv_mod.sts sv_mod.rf (by decide)
                  refine sv_iload hM dX12_rowWays_106 rfl rfl ?_
                  refine sv_aload_n hM dX12_rowWays_108 rfl rfl ?_
                  have k512 : sv_R (S 1008 0) := sm_okI ok508 sm_r1008 0
                  have h := h k512
                  refine sv_getI hM dX12_rowWays_109 sm_fl_762 (sm_a0 _) sm_k8 rfl (x := (S 1008 0)) rfl ?_
                  refine sv_icmp_gt hM dX12_rowWays_112 hl7_505 k512 (t := 207) rfl rfl (fun hc => ?_) (fun hc => ?_)
                  · have h := h.1 (hc)
                    refine sv_aload_n hM dX12_rowWays_207 rfl rfl ?_
                    refine sv_aload_n hM dX12_rowWays_208 rfl rfl ?_
                    refine sv_sipush (d := (639 : Int)) hM dX12_rowWays_209 rfl rfl ?_
                    refine sv_iload hM dX12_rowWays_212 rfl rfl ?_
                    refine sv_iconst (d := (0 : Int)) hM dX12_rowWays_214 rfl rfl ?_
                    obtain ⟨o513, h⟩ := h
                    refine sv_callV hM dX12_rowWays_215 sm_iv_1163 (by decide) (sm_a0 _) rfl rfl (Nat.le_of_ble_eq_true rfl) sm_h225 (Nat.le_of_ble_eq_true rfl) (Nat.le_of_ble_eq_true rfl) (F' := 1) (Nat.le_of_ble_eq_true rfl) rfl (t_field (639 : Int) l6_323 (0 : Int) (sv_sts (sv_sts (sv_sts S [68, 69, 70] g321) [68, 69, 70] g490) [68, 69, 70] g504) ok508 (⟨by decide, by decide⟩ : sv_R (639 : Int)) hl6_323 (⟨by decide, by decide⟩ : sv_R (0 : Int)) o513) (fun v S1 hq => ?_)
                    obtain ⟨r518, rfl, hr518, ok515, md516, hpo517⟩ := hq
                    obtain rfl : (sv_sts (sv_sts (sv_sts S [68, 69, 70] g321) [68, 69, 70] g490) [68, 69, 70] g504) = S1 := (funext fun j => md516 j (by intro q; cases q)).symm
                    show sv_T sm_XS sm_cs sm_L sm_sh 3 (q_rowWays p1 p2 p3 p4 S) 289 218 [(0, .ref 0), (1, sv_I p1), (2, sv_I p2), (3, sv_I p3), (4, sv_I p4), (5, sv_I l5_322), (6, sv_I l6_323), (7, sv_I l7_505)] [sv_I r518, .ref 0] (sv_sts (sv_sts (sv_sts S [68, 69, 70] g321) [68, 69, 70] g490) [68, 69, 70] g504)
                    have h := h r518 hr518 hpo517
                    refine sv_bipush (d := (64 : Int)) hM dX12_rowWays_218 rfl rfl ?_
                    obtain ⟨o519, h⟩ := h
                    refine sv_callV hM dX12_rowWays_220 sm_iv_1072 (by decide) (sm_a0 _) rfl rfl (Nat.le_of_ble_eq_true rfl) sm_h213 (Nat.le_of_ble_eq_true rfl) (Nat.le_of_ble_eq_true rfl) (F' := 2) (Nat.le_of_ble_eq_true rfl) rfl (t_addSort r518 (64 : Int) (sv_sts (sv_sts (sv_sts S [68, 69, 70] g321) [68, 69, 70] g490) [68, 69, 70] g504) ok515 hr518 (⟨by decide, by decide⟩ : sv_R (64 : Int)) o519) (fun v S1 hq => ?_)
                    obtain ⟨rfl, ok521, md522, hpo523⟩ := hq
                    obtain ⟨g520, rfl⟩ : ∃ g, S1 = sv_sts (sv_sts (sv_sts (sv_sts S [68, 69, 70] g321) [68, 69, 70] g490) [68, 69, 70] g504) [68, 69, 70] g := ⟨_, md522.eq⟩
                    show sv_T sm_XS sm_cs sm_L sm_sh 3 (q_rowWays p1 p2 p3 p4 S) 289 223 [(0, .ref 0), (1, sv_I p1), (2, sv_I p2), (3, sv_I p3), (4, sv_I p4), (5, sv_I l5_322), (6, sv_I l6_323), (7, sv_I l7_505)] [] (sv_sts (sv_sts (sv_sts (sv_sts S [68, 69, 70] g321) [68, 69, 70] g490) [68, 69, 70] g504) [68, 69, 70] g520)
                    have md524 : sv_mod [68, 69, 70] S (sv_sts (sv_sts (sv_sts (sv_sts S [68, 69, 70] g321) [68, 69, 70] g490) [68, 69, 70] g504) [68, 69, 70] g520) := sv_mod.sts md509 (by decide)
                    have md525 : sv_mod [68, 69, 70] S (sv_sts (sv_sts (sv_sts (sv_sts S [68, 69, 70] g321) [68, 69, 70] g490) [68, 69, 70] g504) [68, 69, 70] g520) := sv_mod.sts md510 (by decide)
                    have md526 : sv_mod [68, 69, 70] (sv_sts (sv_sts S [68, 69, 70] g321) [68, 69, 70] g490) (sv_sts (sv_sts (sv_sts (sv_sts S [68, 69, 70] g321) [68, 69, 70] g490) [68, 69, 70] g504) [68, 69, 70] g520) := sv_mod.sts md511 (by decide)
                    have h := h g520 hpo523
                    refine sv_iinc (d := (1 : Int)) hM dX12_rowWays_223 rfl (by decide) rfl rfl ?_
                    show sv_T sm_XS sm_cs sm_L sm_sh 3 (q_rowWays p1 p2 p3 p4 S) 289 226 [(0, .ref 0), (1, sv_I p1), (2, sv_I p2), (3, sv_I p3), (4, sv_I p4), (5, sv_I l5_322), (6, sv_I (l6_323 + (1 : Int))), (7, sv_I l7_505)] [] (sv_sts (sv_sts (sv_sts (sv_sts S [68, 69, 70] g321) [68, 69, 70] g490) [68, 69, 70] g504) [68, 69, 70] g520)
                    refine sv_goto hM dX12_rowWays_226 (pc' := 18) rfl ?_
                    obtain ⟨o527, h⟩ := h
                    have eS := sv_mod.eq md525
                    have hb := ih324 (l5_322, (l6_323 + (1 : Int)), (sv_sts (sv_sts (sv_sts (sv_sts S [68, 69, 70] g321) [68, 69, 70] g490) [68, 69, 70] g504) [68, 69, 70] g520)) ⟨hl5_322, o527, (by rw [← eS]; exact ok521), h.1⟩ h.2
                    have hb : sv_T sm_XS sm_cs sm_L sm_sh 3 (q_rowWays p1 p2 p3 p4 S) 289 18 [(0, .ref 0), (1, sv_I p1), (2, sv_I p2), (3, sv_I p3), (4, sv_I p4), (5, sv_I l5_322), (6, sv_I (l6_323 + (1 : Int)))] [] (sv_sts (sv_sts (sv_sts (sv_sts S [68, 69, 70] g321) [68, 69, 70] g490) [68, 69, 70] g504) [68, 69, 70] g520) := Eq.mpr (congrArg (fun Z => sv_T sm_XS sm_cs sm_L sm_sh 3 (q_rowWays p1 p2 p3 p4 S) 289 18 [(0, .ref 0), (1, sv_I p1), (2, sv_I p2), (3, sv_I p3), (4, sv_I p4), (5, sv_I l5_322), (6, sv_I (l6_323 + (1 : Int)))] [] Z) eS) hb
                    exact sv_less (lv := [(0, .ref 0), (1, sv_I p1), (2, sv_I p2), (3, sv_I p3), (4, sv_I p4), (5, sv_I l5_322), (6, sv_I (l6_323 + (1 : Int)))]) (sv_Sub_cons rfl (sv_Sub_cons rfl (sv_Sub_cons rfl (sv_Sub_cons rfl (sv_Sub_cons rfl (sv_Sub_cons rfl (sv_Sub_cons rfl sv_Sub_nil))))))) hb
                  · have h := h.2 (hc)
                    refine sv_iload hM dX12_rowWays_115 rfl rfl ?_
                    refine sv_aload_n hM dX12_rowWays_117 rfl rfl ?_
                    refine sv_getI hM dX12_rowWays_118 sm_fl_762 (sm_a0 _) sm_k8 rfl (x := (S 1008 0)) rfl ?_
                    refine sv_icmp_ge hM dX12_rowWays_121 hl7_505 k512 (t := 153) rfl rfl (fun hc => ?_) (fun hc => ?_)
                    · have h := h.1 (hc)
                      refine sv_aload_n hM dX12_rowWays_153 rfl rfl ?_
                      refine sv_sipush (d := (639 : Int)) hM dX12_rowWays_154 rfl rfl ?_
                      refine sv_iload hM dX12_rowWays_157 rfl rfl ?_
                      refine sv_iload hM dX12_rowWays_159 rfl rfl ?_
                      obtain ⟨o528, h⟩ := h
                      refine sv_callV hM dX12_rowWays_161 sm_iv_1163 (by decide) (sm_a0 _) rfl rfl (Nat.le_of_ble_eq_true rfl) sm_h225 (Nat.le_of_ble_eq_true rfl) (Nat.le_of_ble_eq_true rfl) (F' := 1) (Nat.le_of_ble_eq_true rfl) rfl (t_field (639 : Int) l6_323 l7_505 (sv_sts (sv_sts (sv_sts S [68, 69, 70] g321) [68, 69, 70] g490) [68, 69, 70] g504) ok508 (⟨by decide, by decide⟩ : sv_R (639 : Int)) hl6_323 hl7_505 o528) (fun v S1 hq => ?_)
                      obtain ⟨r533, rfl, hr533, ok530, md531, hpo532⟩ := hq
                      obtain rfl : (sv_sts (sv_sts (sv_sts S [68, 69, 70] g321) [68, 69, 70] g490) [68, 69, 70] g504) = S1 := (funext fun j => md531 j (by intro q; cases q)).symm
                      show sv_T sm_XS sm_cs sm_L sm_sh 3 (q_rowWays p1 p2 p3 p4 S) 289 164 [(0, .ref 0), (1, sv_I p1), (2, sv_I p2), (3, sv_I p3), (4, sv_I p4), (5, sv_I l5_322), (6, sv_I l6_323), (7, sv_I l7_505)] [sv_I r533] (sv_sts (sv_sts (sv_sts S [68, 69, 70] g321) [68, 69, 70] g490) [68, 69, 70] g504)
                      have h := h r533 hr533 hpo532
                      refine sv_istore hM dX12_rowWays_164 (by decide) rfl ?_
                      show sv_T sm_XS sm_cs sm_L sm_sh 3 (q_rowWays p1 p2 p3 p4 S) 289 166 [(0, .ref 0), (1, sv_I p1), (2, sv_I p2), (3, sv_I p3), (4, sv_I p4), (5, sv_I l5_322), (6, sv_I l6_323), (7, sv_I l7_505), (8, sv_I r533)] [] (sv_sts (sv_sts (sv_sts S [68, 69, 70] g321) [68, 69, 70] g490) [68, 69, 70] g504)
                      refine sv_iload_n hM dX12_rowWays_166 rfl rfl ?_
                      refine sv_bipush (d := (18 : Int)) hM dX12_rowWays_167 rfl rfl ?_
                      refine sv_icmp_ne hM dX12_rowWays_169 hp1 (⟨by decide, by decide⟩ : sv_R (18 : Int)) (t := 184) rfl rfl (fun hc => ?_) (fun hc => ?_)
                      · have h := h.1 (hc)
                        refine sv_aload_n hM dX12_rowWays_184 rfl rfl ?_
                        refine sv_iload hM dX12_rowWays_185 rfl rfl ?_
                        refine sv_iload hM dX12_rowWays_187 rfl rfl ?_
                        obtain ⟨o534, h⟩ := h
                        refine sv_callV hM dX12_rowWays_189 sm_iv_1228 (by decide) (sm_a0 _) rfl rfl (Nat.le_of_ble_eq_true rfl) sm_h266 (Nat.le_of_ble_eq_true rfl) (Nat.le_of_ble_eq_true rfl) (F' := 2) (Nat.le_of_ble_eq_true rfl) rfl (t_joinPlain r533 p4 (sv_sts (sv_sts (sv_sts S [68, 69, 70] g321) [68, 69, 70] g490) [68, 69, 70] g504) ok530 hr533 hp4 o534) (fun v S1 hq => ?_)
                        obtain ⟨rfl, ok536, md537, hpo538⟩ := hq
                        obtain ⟨g535, rfl⟩ : ∃ g, S1 = sv_sts (sv_sts (sv_sts (sv_sts S [68, 69, 70] g321) [68, 69, 70] g490) [68, 69, 70] g504) [68, 69, 70] g := ⟨_, md537.eq⟩
                        show sv_T sm_XS sm_cs sm_L sm_sh 3 (q_rowWays p1 p2 p3 p4 S) 289 192 [(0, .ref 0), (1, sv_I p1), (2, sv_I p2), (3, sv_I p3), (4, sv_I p4), (5, sv_I l5_322), (6, sv_I l6_323), (7, sv_I l7_505), (8, sv_I r533)] [] (sv_sts (sv_sts (sv_sts (sv_sts S [68, 69, 70] g321) [68, 69, 70] g490) [68, 69, 70] g504) [68, 69, 70] g535)
                        have md539 : sv_mod [68, 69, 70] S (sv_sts (sv_sts (sv_sts (sv_sts S [68, 69, 70] g321) [68, 69, 70] g490) [68, 69, 70] g504) [68, 69, 70] g535) := sv_mod.sts md509 (by decide)
                        have md540 : sv_mod [68, 69, 70] S (sv_sts (sv_sts (sv_sts (sv_sts S [68, 69, 70] g321) [68, 69, 70] g490) [68, 69, 70] g504) [68, 69, 70] g535) := sv_mod.sts md510 (by decide)
                        have md541 : sv_mod [68, 69, 70] (sv_sts (sv_sts S [68, 69, 70] g321) [68, 69, 70] g490) (sv_sts (sv_sts (sv_sts (sv_sts S [68, 69, 70] g321) [68, 69, 70] g490) [68, 69, 70] g504) [68, 69, 70] g535) := sv_mod.sts md511 (by decide)
                        have h := h g535 hpo538
                        refine sv_aload_n hM dX12_rowWays_192 rfl rfl ?_
                        refine sv_iload hM dX12_rowWays_193 rfl rfl ?_
                        refine sv_sipush (d := (512 : Int)) hM dX12_rowWays_195 rfl rfl ?_
                        obtain ⟨o542, h⟩ := h
                        refine sv_callV hM dX12_rowWays_198 sm_iv_1072 (by decide) (sm_a0 _) rfl rfl (Nat.le_of_ble_eq_true rfl) sm_h213 (Nat.le_of_ble_eq_true rfl) (Nat.le_of_ble_eq_true rfl) (F' := 2) (Nat.le_of_ble_eq_true rfl) rfl (t_addSort r533 (512 : Int) (sv_sts (sv_sts (sv_sts (sv_sts S [68, 69, 70] g321) [68, 69, 70] g490) [68, 69, 70] g504) [68, 69, 70] g535) ok536 hr533 (⟨by decide, by decide⟩ : sv_R (512 : Int)) o542) (fun v S1 hq => ?_)
                        obtain ⟨rfl, ok544, md545, hpo546⟩ := hq
                        obtain ⟨g543, rfl⟩ : ∃ g, S1 = sv_sts (sv_sts (sv_sts (sv_sts (sv_sts S [68, 69, 70] g321) [68, 69, 70] g490) [68, 69, 70] g504) [68, 69, 70] g535) [68, 69, 70] g := ⟨_, md545.eq⟩
                        show sv_T sm_XS sm_cs sm_L sm_sh 3 (q_rowWays p1 p2 p3 p4 S) 289 201 [(0, .ref 0), (1, sv_I p1), (2, sv_I p2), (3, sv_I p3), (4, sv_I p4), (5, sv_I l5_322), (6, sv_I l6_323), (7, sv_I l7_505), (8, sv_I r533)] [] (sv_sts (sv_sts (sv_sts (sv_sts (sv_sts S [68, 69, 70] g321) [68, 69, 70] g490) [68, 69, 70] g504) [68, 69, 70] g535) [68, 69, 70] g543)
                        have md547 : sv_mod [68, 69, 70] S (sv_sts (sv_sts (sv_sts (sv_sts (sv_sts S [68, 69, 70] g321) [68, 69, 70] g490) [68, 69, 70] g504) [68, 69, 70] g535) [68, 69, 70] g543) := sv_mod.sts md539 (by decide)
                        have md548 : sv_mod [68, 69, 70] S (sv_sts (sv_sts (sv_sts (sv_sts (sv_sts S [68, 69, 70] g321) [68, 69, 70] g490) [68, 69, 70] g504) [68, 69, 70] g535) [68, 69, 70] g543) := sv_mod.sts md540 (by decide)
                        have md549 : sv_mod [68, 69, 70] (sv_sts (sv_sts S [68, 69, 70] g321) [68, 69, 70] g490) (sv_sts (sv_sts (sv_sts (sv_sts (sv_sts S [68, 69, 70] g321) [68, 69, 70] g490) [68, 69, 70] g504) [68, 69, 70] g535) [68, 69, 70] g543) := sv_mod.sts md541 (by decide)
                        have h := h g543 hpo546
                        refine sv_iinc (d := (1 : Int)) hM dX12_rowWays_201 rfl (by decide) rfl rfl ?_
                        show sv_T sm_XS sm_cs sm_L sm_sh 3 (q_rowWays p1 p2 p3 p4 S) 289 204 [(0, .ref 0), (1, sv_I p1), (2, sv_I p2), (3, sv_I p3), (4, sv_I p4), (5, sv_I l5_322), (6, sv_I l6_323), (7, sv_I (l7_505 + (1 : Int))), (8, sv_I r533)] [] (sv_sts (sv_sts (sv_sts (sv_sts (sv_sts S [68, 69, 70] g321) [68, 69, 70] g490) [68, 69, 70] g504) [68, 69, 70] g535) [68, 69, 70] g543)
                        refine sv_goto hM dX12_rowWays_204 (pc' := 106) rfl ?_
                        obtain ⟨o550, h⟩ := h
                        have eS := sv_mod.eq md549
                        have hb := ih506 ((l7_505 + (1 : Int)), (sv_sts (sv_sts (sv_sts (sv_sts (sv_sts S [68, 69, 70] g321) [68, 69, 70] g490) [68, 69, 70] g504) [68, 69, 70] g535) [68, 69, 70] g543)) ⟨o550, (by rw [← eS]; exact ok544), h.1⟩ h.2
                        have hb : sv_T sm_XS sm_cs sm_L sm_sh 3 (q_rowWays p1 p2 p3 p4 S) 289 106 [(0, .ref 0), (1, sv_I p1), (2, sv_I p2), (3, sv_I p3), (4, sv_I p4), (5, sv_I l5_322), (6, sv_I l6_323), (7, sv_I (l7_505 + (1 : Int)))] [] (sv_sts (sv_sts (sv_sts (sv_sts (sv_sts S [68, 69, 70] g321) [68, 69, 70] g490) [68, 69, 70] g504) [68, 69, 70] g535) [68, 69, 70] g543) := Eq.mpr (congrArg (fun Z => sv_T sm_XS sm_cs sm_L sm_sh 3 (q_rowWays p1 p2 p3 p4 S) 289 106 [(0, .ref 0), (1, sv_I p1), (2, sv_I p2), (3, sv_I p3), (4, sv_I p4), (5, sv_I l5_322), (6, sv_I l6_323), (7, sv_I (l7_505 + (1 : Int)))] [] Z) eS) hb
                        exact sv_less (lv := [(0, .ref 0), (1, sv_I p1), (2, sv_I p2), (3, sv_I p3), (4, sv_I p4), (5, sv_I l5_322), (6, sv_I l6_323), (7, sv_I (l7_505 + (1 : Int)))]) (sv_Sub_cons rfl (sv_Sub_cons rfl (sv_Sub_cons rfl (sv_Sub_cons rfl (sv_Sub_cons rfl (sv_Sub_cons rfl (sv_Sub_cons rfl (sv_Sub_cons rfl sv_Sub_nil)))))))) hb
                      · have h := h.2 (hc)
                        refine sv_aload_n hM dX12_rowWays_172 rfl rfl ?_
                        refine sv_iload_n hM dX12_rowWays_173 rfl rfl ?_
                        refine sv_iload hM dX12_rowWays_174 rfl rfl ?_
                        obtain ⟨o551, h⟩ := h
                        refine sv_callV hM dX12_rowWays_176 sm_iv_1069 (by decide) (sm_a0 _) rfl rfl (Nat.le_of_ble_eq_true rfl) sm_h208 (Nat.le_of_ble_eq_true rfl) (Nat.le_of_ble_eq_true rfl) (F' := 1) (Nat.le_of_ble_eq_true rfl) rfl (t_join p3 r533 (sv_sts (sv_sts (sv_sts S [68, 69, 70] g321) [68, 69, 70] g490) [68, 69, 70] g504) ok530 hp3 hr533 o551) (fun v S1 hq => ?_)
                        obtain ⟨r556, rfl, hr556, ok553, md554, hpo555⟩ := hq
                        obtain ⟨g552, rfl⟩ : ∃ g, S1 = sv_sts (sv_sts (sv_sts (sv_sts S [68, 69, 70] g321) [68, 69, 70] g490) [68, 69, 70] g504) [68, 69, 70] g := ⟨_, md554.eq⟩
                        show sv_T sm_XS sm_cs sm_L sm_sh 3 (q_rowWays p1 p2 p3 p4 S) 289 179 [(0, .ref 0), (1, sv_I p1), (2, sv_I p2), (3, sv_I p3), (4, sv_I p4), (5, sv_I l5_322), (6, sv_I l6_323), (7, sv_I l7_505), (8, sv_I r533)] [sv_I r556] (sv_sts (sv_sts (sv_sts (sv_sts S [68, 69, 70] g321) [68, 69, 70] g490) [68, 69, 70] g504) [68, 69, 70] g552)
                        have md557 : sv_mod [68, 69, 70] S (sv_sts (sv_sts (sv_sts (sv_sts S [68, 69, 70] g321) [68, 69, 70] g490) [68, 69, 70] g504) [68, 69, 70] g552) := sv_mod.sts md509 (by decide)
                        have md558 : sv_mod [68, 69, 70] S (sv_sts (sv_sts (sv_sts (sv_sts S [68, 69, 70] g321) [68, 69, 70] g490) [68, 69, 70] g504) [68, 69, 70] g552) := sv_mod.sts md510 (by decide)
                        have md559 : sv_mod [68, 69, 70] (sv_sts (sv_sts S [68, 69, 70] g321) [68, 69, 70] g490) (sv_sts (sv_sts (sv_sts (sv_sts S [68, 69, 70] g321) [68, 69, 70] g490) [68, 69, 70] g504) [68, 69, 70] g552) := sv_mod.sts md511 (by decide)
                        have h := h r556 hr556 g552 hpo555
                        refine sv_istore hM dX12_rowWays_179 (by decide) rfl ?_
                        show sv_T sm_XS sm_cs sm_L sm_sh 3 (q_rowWays p1 p2 p3 p4 S) 289 181 [(0, .ref 0), (1, sv_I p1), (2, sv_I p2), (3, sv_I p3), (4, sv_I p4), (5, sv_I l5_322), (6, sv_I l6_323), (7, sv_I l7_505), (8, sv_I r533), (9, sv_I r556)] [] (sv_sts (sv_sts (sv_sts (sv_sts S [68, 69, 70] g321) [68, 69, 70] g490) [68, 69, 70] g504) [68, 69, 70] g552)
                        refine sv_goto hM dX12_rowWays_181 (pc' := 201) rfl ?_
                        refine sv_iinc (d := (1 : Int)) hM dX12_rowWays_201 rfl (by decide) rfl rfl ?_
                        show sv_T sm_XS sm_cs sm_L sm_sh 3 (q_rowWays p1 p2 p3 p4 S) 289 204 [(0, .ref 0), (1, sv_I p1), (2, sv_I p2), (3, sv_I p3), (4, sv_I p4), (5, sv_I l5_322), (6, sv_I l6_323), (7, sv_I (l7_505 + (1 : Int))), (8, sv_I r533), (9, sv_I r556)] [] (sv_sts (sv_sts (sv_sts (sv_sts S [68, 69, 70] g321) [68, 69, 70] g490) [68, 69, 70] g504) [68, 69, 70] g552)
                        refine sv_goto hM dX12_rowWays_204 (pc' := 106) rfl ?_
                        obtain ⟨o560, h⟩ := h
                        have eS := sv_mod.eq md559
                        have hb := ih506 ((l7_505 + (1 : Int)), (sv_sts (sv_sts (sv_sts (sv_sts S [68, 69, 70] g321) [68, 69, 70] g490) [68, 69, 70] g504) [68, 69, 70] g552)) ⟨o560, (by rw [← eS]; exact ok553), h.1⟩ h.2
                        have hb : sv_T sm_XS sm_cs sm_L sm_sh 3 (q_rowWays p1 p2 p3 p4 S) 289 106 [(0, .ref 0), (1, sv_I p1), (2, sv_I p2), (3, sv_I p3), (4, sv_I p4), (5, sv_I l5_322), (6, sv_I l6_323), (7, sv_I (l7_505 + (1 : Int)))] [] (sv_sts (sv_sts (sv_sts (sv_sts S [68, 69, 70] g321) [68, 69, 70] g490) [68, 69, 70] g504) [68, 69, 70] g552) := Eq.mpr (congrArg (fun Z => sv_T sm_XS sm_cs sm_L sm_sh 3 (q_rowWays p1 p2 p3 p4 S) 289 106 [(0, .ref 0), (1, sv_I p1), (2, sv_I p2), (3, sv_I p3), (4, sv_I p4), (5, sv_I l5_322), (6, sv_I l6_323), (7, sv_I (l7_505 + (1 : Int)))] [] Z) eS) hb
                        exact sv_less (lv := [(0, .ref 0), (1, sv_I p1), (2, sv_I p2), (3, sv_I p3), (4, sv_I p4), (5, sv_I l5_322), (6, sv_I l6_323), (7, sv_I (l7_505 + (1 : Int)))]) (sv_Sub_cons rfl (sv_Sub_cons rfl (sv_Sub_cons rfl (sv_Sub_cons rfl (sv_Sub_cons rfl (sv_Sub_cons rfl (sv_Sub_cons rfl (sv_Sub_cons rfl sv_Sub_nil)))))))) hb
                    · have h := h.2 (hc)
                      refine sv_aload_n hM dX12_rowWays_124 rfl rfl ?_
                      refine sv_getA hM dX12_rowWays_125 sm_fl_277 (sm_a0 _) sm_k140 rfl ?_
                      refine sv_iload hM dX12_rowWays_128 rfl rfl ?_
                      obtain ⟨o561, h⟩ := h
                      have k562 : (0 ≤ (S 88 l7_505) ∧ (S 88 l7_505) ≤ 1) := sm_okZ ok508 sm_r88 l7_505
                      have h := h k562
                      refine sv_zald hM dX12_rowWays_130 (sm_a88 _) (by decide) o561.1 o561.2 rfl (x := (S 88 l7_505)) rfl ?_
                      refine sv_cond_ne hM dX12_rowWays_131 (sv_R01 k562) (t := 153) rfl rfl (fun hc => ?_) (fun hc => ?_)
                      · have h := h.1 (hc)
                        refine sv_aload_n hM dX12_rowWays_153 rfl rfl ?_
                        refine sv_sipush (d := (639 : Int)) hM dX12_rowWays_154 rfl rfl ?_
                        refine sv_iload hM dX12_rowWays_157 rfl rfl ?_
                        refine sv_iload hM dX12_rowWays_159 rfl rfl ?_
                        obtain ⟨o563, h⟩ := h
                        refine sv_callV hM dX12_rowWays_161 sm_iv_1163 (by decide) (sm_a0 _) rfl rfl (Nat.le_of_ble_eq_true rfl) sm_h225 (Nat.le_of_ble_eq_true rfl) (Nat.le_of_ble_eq_true rfl) (F' := 1) (Nat.le_of_ble_eq_true rfl) rfl (t_field (639 : Int) l6_323 l7_505 (sv_sts (sv_sts (sv_sts S [68, 69, 70] g321) [68, 69, 70] g490) [68, 69, 70] g504) ok508 (⟨by decide, by decide⟩ : sv_R (639 : Int)) hl6_323 hl7_505 o563) (fun v S1 hq => ?_)
                        obtain ⟨r568, rfl, hr568, ok565, md566, hpo567⟩ := hq
                        obtain rfl : (sv_sts (sv_sts (sv_sts S [68, 69, 70] g321) [68, 69, 70] g490) [68, 69, 70] g504) = S1 := (funext fun j => md566 j (by intro q; cases q)).symm
                        show sv_T sm_XS sm_cs sm_L sm_sh 3 (q_rowWays p1 p2 p3 p4 S) 289 164 [(0, .ref 0), (1, sv_I p1), (2, sv_I p2), (3, sv_I p3), (4, sv_I p4), (5, sv_I l5_322), (6, sv_I l6_323), (7, sv_I l7_505)] [sv_I r568] (sv_sts (sv_sts (sv_sts S [68, 69, 70] g321) [68, 69, 70] g490) [68, 69, 70] g504)
                        have h := h r568 hr568 hpo567
                        refine sv_istore hM dX12_rowWays_164 (by decide) rfl ?_
                        show sv_T sm_XS sm_cs sm_L sm_sh 3 (q_rowWays p1 p2 p3 p4 S) 289 166 [(0, .ref 0), (1, sv_I p1), (2, sv_I p2), (3, sv_I p3), (4, sv_I p4), (5, sv_I l5_322), (6, sv_I l6_323), (7, sv_I l7_505), (8, sv_I r568)] [] (sv_sts (sv_sts (sv_sts S [68, 69, 70] g321) [68, 69, 70] g490) [68, 69, 70] g504)
                        refine sv_iload_n hM dX12_rowWays_166 rfl rfl ?_
                        refine sv_bipush (d := (18 : Int)) hM dX12_rowWays_167 rfl rfl ?_
                        refine sv_icmp_ne hM dX12_rowWays_169 hp1 (⟨by decide, by decide⟩ : sv_R (18 : Int)) (t := 184) rfl rfl (fun hc => ?_) (fun hc => ?_)
                        · have h := h.1 (hc)
                          refine sv_aload_n hM dX12_rowWays_184 rfl rfl ?_
                          refine sv_iload hM dX12_rowWays_185 rfl rfl ?_
                          refine sv_iload hM dX12_rowWays_187 rfl rfl ?_
                          obtain ⟨o569, h⟩ := h
                          refine sv_callV hM dX12_rowWays_189 sm_iv_1228 (by decide) (sm_a0 _) rfl rfl (Nat.le_of_ble_eq_true rfl) sm_h266 (Nat.le_of_ble_eq_true rfl) (Nat.le_of_ble_eq_true rfl) (F' := 2) (Nat.le_of_ble_eq_true rfl) rfl (t_joinPlain r568 p4 (sv_sts (sv_sts (sv_sts S [68, 69, 70] g321) [68, 69, 70] g490) [68, 69, 70] g504) ok565 hr568 hp4 o569) (fun v S1 hq => ?_)
                          obtain ⟨rfl, ok571, md572, hpo573⟩ := hq
                          obtain ⟨g570, rfl⟩ : ∃ g, S1 = sv_sts (sv_sts (sv_sts (sv_sts S [68, 69, 70] g321) [68, 69, 70] g490) [68, 69, 70] g504) [68, 69, 70] g := ⟨_, md572.eq⟩
                          show sv_T sm_XS sm_cs sm_L sm_sh 3 (q_rowWays p1 p2 p3 p4 S) 289 192 [(0, .ref 0), (1, sv_I p1), (2, sv_I p2), (3, sv_I p3), (4, sv_I p4), (5, sv_I l5_322), (6, sv_I l6_323), (7, sv_I l7_505), (8, sv_I r568)] [] (sv_sts (sv_sts (sv_sts (sv_sts S [68, 69, 70] g321) [68, 69, 70] g490) [68, 69, 70] g504) [68, 69, 70] g570)
                          have md574 : sv_mod [68, 69, 70] S (sv_sts (sv_sts (sv_sts (sv_sts S [68, 69, 70] g321) [68, 69, 70] g490) [68, 69, 70] g504) [68, 69, 70] g570) := sv_mod.sts md509 (by decide)
                          have md575 : sv_mod [68, 69, 70] S (sv_sts (sv_sts (sv_sts (sv_sts S [68, 69, 70] g321) [68, 69, 70] g490) [68, 69, 70] g504) [68, 69, 70] g570) := sv_mod.sts md510 (by decide)
                          have md576 : sv_mod [68, 69, 70] (sv_sts (sv_sts S [68, 69, 70] g321) [68, 69, 70] g490) (sv_sts (sv_sts (sv_sts (sv_sts S [68, 69, 70] g321) [68, 69, 70] g490) [68, 69, 70] g504) [68, 69, 70] g570) := sv_mod.sts md511 (by decide)
                          have h := h g570 hpo573
                          refine sv_aload_n hM dX12_rowWays_192 rfl rfl ?_
                          refine sv_iload hM dX12_rowWays_193 rfl rfl ?_
                          refine sv_sipush (d := (512 : Int)) hM dX12_rowWays_195 rfl rfl ?_
                          obtain ⟨o577, h⟩ := h
                          refine sv_callV hM dX12_rowWays_198 sm_iv_1072 (by decide) (sm_a0 _) rfl rfl (Nat.le_of_ble_eq_true rfl) sm_h213 (Nat.le_of_ble_eq_true rfl) (Nat.le_of_ble_eq_true rfl) (F' := 2) (Nat.le_of_ble_eq_true rfl) rfl (t_addSort r568 (512 : Int) (sv_sts (sv_sts (sv_sts (sv_sts S [68, 69, 70] g321) [68, 69, 70] g490) [68, 69, 70] g504) [68, 69, 70] g570) ok571 hr568 (⟨by decide, by decide⟩ : sv_R (512 : Int)) o577) (fun v S1 hq => ?_)
                          obtain ⟨rfl, ok579, md580, hpo581⟩ := hq
                          obtain ⟨g578, rfl⟩ : ∃ g, S1 = sv_sts (sv_sts (sv_sts (sv_sts (sv_sts S [68, 69, 70] g321) [68, 69, 70] g490) [68, 69, 70] g504) [68, 69, 70] g570) [68, 69, 70] g := ⟨_, md580.eq⟩
                          show sv_T sm_XS sm_cs sm_L sm_sh 3 (q_rowWays p1 p2 p3 p4 S) 289 201 [(0, .ref 0), (1, sv_I p1), (2, sv_I p2), (3, sv_I p3), (4, sv_I p4), (5, sv_I l5_322), (6, sv_I l6_323), (7, sv_I l7_505), (8, sv_I r568)] [] (sv_sts (sv_sts (sv_sts (sv_sts (sv_sts S [68, 69, 70] g321) [68, 69, 70] g490) [68, 69, 70] g504) [68, 69, 70] g570) [68, 69, 70] g578)
                          have md582 : sv_mod [68, 69, 70] S (sv_sts (sv_sts (sv_sts (sv_sts (sv_sts S [68, 69, 70] g321) [68, 69, 70] g490) [68, 69, 70] g504) [68, 69, 70] g570) [68, 69, 70] g578) := sv_mod.sts md574 (by decide)
                          have md583 : sv_mod [68, 69, 70] S (sv_sts (sv_sts (sv_sts (sv_sts (sv_sts S [68, 69, 70] g321) [68, 69, 70] g490) [68, 69, 70] g504) [68, 69, 70] g570) [68, 69, 70] g578) := sv_mod.sts md575 (by decide)
                          have md584 : sv_mod [68, 69, 70] (sv_sts (sv_sts S [68, 69, 70] g321) [68, 69, 70] g490) (sv_sts (sv_sts (sv_sts (sv_sts (sv_sts S [68, 69, 70] g321) [68, 69, 70] g490) [68, 69, 70] g504) [68, 69, 70] g570) [68, 69, 70] g578) := sv_mod.sts md576 (by decide)
                          have h := h g578 hpo581
                          refine sv_iinc (d := (1 : Int)) hM dX12_rowWays_201 rfl (by decide) rfl rfl ?_
                          show sv_T sm_XS sm_cs sm_L sm_sh 3 (q_rowWays p1 p2 p3 p4 S) 289 204 [(0, .ref 0), (1, sv_I p1), (2, sv_I p2), (3, sv_I p3), (4, sv_I p4), (5, sv_I l5_322), (6, sv_I l6_323), (7, sv_I (l7_505 + (1 : Int))), (8, sv_I r568)] [] (sv_sts (sv_sts (sv_sts (sv_sts (sv_sts S [68, 69, 70] g321) [68, 69, 70] g490) [68, 69, 70] g504) [68, 69, 70] g570) [68, 69, 70] g578)
                          refine sv_goto hM dX12_rowWays_204 (pc' := 106) rfl ?_
                          obtain ⟨o585, h⟩ := h
                          have eS := sv_mod.eq md584
                          have hb := ih506 ((l7_505 + (1 : Int)), (sv_sts (sv_sts (sv_sts (sv_sts (sv_sts S [68, 69, 70] g321) [68, 69, 70] g490) [68, 69, 70] g504) [68, 69, 70] g570) [68, 69, 70] g578)) ⟨o585, (by rw [← eS]; exact ok579), h.1⟩ h.2
                          have hb : sv_T sm_XS sm_cs sm_L sm_sh 3 (q_rowWays p1 p2 p3 p4 S) 289 106 [(0, .ref 0), (1, sv_I p1), (2, sv_I p2), (3, sv_I p3), (4, sv_I p4), (5, sv_I l5_322), (6, sv_I l6_323), (7, sv_I (l7_505 + (1 : Int)))] [] (sv_sts (sv_sts (sv_sts (sv_sts (sv_sts S [68, 69, 70] g321) [68, 69, 70] g490) [68, 69, 70] g504) [68, 69, 70] g570) [68, 69, 70] g578) := Eq.mpr (congrArg (fun Z => sv_T sm_XS sm_cs sm_L sm_sh 3 (q_rowWays p1 p2 p3 p4 S) 289 106 [(0, .ref 0), (1, sv_I p1), (2, sv_I p2), (3, sv_I p3), (4, sv_I p4), (5, sv_I l5_322), (6, sv_I l6_323), (7, sv_I (l7_505 + (1 : Int)))] [] Z) eS) hb
                          exact sv_less (lv := [(0, .ref 0), (1, sv_I p1), (2, sv_I p2), (3, sv_I p3), (4, sv_I p4), (5, sv_I l5_322), (6, sv_I l6_323), (7, sv_I (l7_505 + (1 : Int)))]) (sv_Sub_cons rfl (sv_Sub_cons rfl (sv_Sub_cons rfl (sv_Sub_cons rfl (sv_Sub_cons rfl (sv_Sub_cons rfl (sv_Sub_cons rfl (sv_Sub_cons rfl sv_Sub_nil)))))))) hb
                        · have h := h.2 (hc)
                          refine sv_aload_n hM dX12_rowWays_172 rfl rfl ?_
                          refine sv_iload_n hM dX12_rowWays_173 rfl rfl ?_
                          refine sv_iload hM dX12_rowWays_174 rfl rfl ?_
                          obtain ⟨o586, h⟩ := h
                          refine sv_callV hM dX12_rowWays_176 sm_iv_1069 (by decide) (sm_a0 _) rfl rfl (Nat.le_of_ble_eq_true rfl) sm_h208 (Nat.le_of_ble_eq_true rfl) (Nat.le_of_ble_eq_true rfl) (F' := 1) (Nat.le_of_ble_eq_true rfl) rfl (t_join p3 r568 (sv_sts (sv_sts (sv_sts S [68, 69, 70] g321) [68, 69, 70] g490) [68, 69, 70] g504) ok565 hp3 hr568 o586) (fun v S1 hq => ?_)
                          obtain ⟨r591, rfl, hr591, ok588, md589, hpo590⟩ := hq
                          obtain ⟨g587, rfl⟩ : ∃ g, S1 = sv_sts (sv_sts (sv_sts (sv_sts S [68, 69, 70] g321) [68, 69, 70] g490) [68, 69, 70] g504) [68, 69, 70] g := ⟨_, md589.eq⟩
                          show sv_T sm_XS sm_cs sm_L sm_sh 3 (q_rowWays p1 p2 p3 p4 S) 289 179 [(0, .ref 0), (1, sv_I p1), (2, sv_I p2), (3, sv_I p3), (4, sv_I p4), (5, sv_I l5_322), (6, sv_I l6_323), (7, sv_I l7_505), (8, sv_I r568)] [sv_I r591] (sv_sts (sv_sts (sv_sts (sv_sts S [68, 69, 70] g321) [68, 69, 70] g490) [68, 69, 70] g504) [68, 69, 70] g587)
                          have md592 : sv_mod [68, 69, 70] S (sv_sts (sv_sts (sv_sts (sv_sts S [68, 69, 70] g321) [68, 69, 70] g490) [68, 69, 70] g504) [68, 69, 70] g587) := sv_mod.sts md509 (by decide)
                          have md593 : sv_mod [68, 69, 70] S (sv_sts (sv_sts (sv_sts (sv_sts S [68, 69, 70] g321) [68, 69, 70] g490) [68, 69, 70] g504) [68, 69, 70] g587) := sv_mod.sts md510 (by decide)
                          have md594 : sv_mod [68, 69, 70] (sv_sts (sv_sts S [68, 69, 70] g321) [68, 69, 70] g490) (sv_sts (sv_sts (sv_sts (sv_sts S [68, 69, 70] g321) [68, 69, 70] g490) [68, 69, 70] g504) [68, 69, 70] g587) := sv_mod.sts md511 (by decide)
                          have h := h r591 hr591 g587 hpo590
                          refine sv_istore hM dX12_rowWays_179 (by decide) rfl ?_
                          show sv_T sm_XS sm_cs sm_L sm_sh 3 (q_rowWays p1 p2 p3 p4 S) 289 181 [(0, .ref 0), (1, sv_I p1), (2, sv_I p2), (3, sv_I p3), (4, sv_I p4), (5, sv_I l5_322), (6, sv_I l6_323), (7, sv_I l7_505), (8, sv_I r568), (9, sv_I r591)] [] (sv_sts (sv_sts (sv_sts (sv_sts S [68, 69, 70] g321) [68, 69, 70] g490) [68, 69, 70] g504) [68, 69, 70] g587)
                          refine sv_goto hM dX12_rowWays_181 (pc' := 201) rfl ?_
                          refine sv_iinc (d := (1 : Int)) hM dX12_rowWays_201 rfl (by decide) rfl rfl ?_
                          show sv_T sm_XS sm_cs sm_L sm_sh 3 (q_rowWays p1 p2 p3 p4 S) 289 204 [(0, .ref 0), (1, sv_I p1), (2, sv_I p2), (3, sv_I p3), (4, sv_I p4), (5, sv_I l5_322), (6, sv_I l6_323), (7, sv_I (l7_505 + (1 : Int))), (8, sv_I r568), (9, sv_I r591)] [] (sv_sts (sv_sts (sv_sts (sv_sts S [68, 69, 70] g321) [68, 69, 70] g490) [68, 69, 70] g504) [68, 69, 70] g587)
                          refine sv_goto hM dX12_rowWays_204 (pc' := 106) rfl ?_
                          obtain ⟨o595, h⟩ := h
                          have eS := sv_mod.eq md594
                          have hb := ih506 ((l7_505 + (1 : Int)), (sv_sts (sv_sts (sv_sts (sv_sts S [68, 69, 70] g321) [68, 69, 70] g490) [68, 69, 70] g504) [68, 69, 70] g587)) ⟨o595, (by rw [← eS]; exact ok588), h.1⟩ h.2
                          have hb : sv_T sm_XS sm_cs sm_L sm_sh 3 (q_rowWays p1 p2 p3 p4 S) 289 106 [(0, .ref 0), (1, sv_I p1), (2, sv_I p2), (3, sv_I p3), (4, sv_I p4), (5, sv_I l5_322), (6, sv_I l6_323), (7, sv_I (l7_505 + (1 : Int)))] [] (sv_sts (sv_sts (sv_sts (sv_sts S [68, 69, 70] g321) [68, 69, 70] g490) [68, 69, 70] g504) [68, 69, 70] g587) := Eq.mpr (congrArg (fun Z => sv_T sm_XS sm_cs sm_L sm_sh 3 (q_rowWays p1 p2 p3 p4 S) 289 106 [(0, .ref 0), (1, sv_I p1), (2, sv_I p2), (3, sv_I p3), (4, sv_I p4), (5, sv_I l5_322), (6, sv_I l6_323), (7, sv_I (l7_505 + (1 : Int)))] [] Z) eS) hb
                          exact sv_less (lv := [(0, .ref 0), (1, sv_I p1), (2, sv_I p2), (3, sv_I p3), (4, sv_I p4), (5, sv_I l5_322), (6, sv_I l6_323), (7, sv_I (l7_505 + (1 : Int)))]) (sv_Sub_cons rfl (sv_Sub_cons rfl (sv_Sub_cons rfl (sv_Sub_cons rfl (sv_Sub_cons rfl (sv_Sub_cons rfl (sv_Sub_cons rfl (sv_Sub_cons rfl sv_Sub_nil)))))))) hb
                      · have h := h.2 (hc)
                        refine sv_iload_n hM dX12_rowWays_134 rfl rfl ?_
                        refine sv_bipush (d := (18 : Int)) hM dX12_rowWays_135 rfl rfl ?_
                        refine sv_icmp_ne hM dX12_rowWays_137 hp1 (⟨by decide, by decide⟩ : sv_R (18 : Int)) (t := 201) rfl rfl (fun hc => ?_) (fun hc => ?_)
                        · have h := h.1 (hc)
                          refine sv_iinc (d := (1 : Int)) hM dX12_rowWays_201 rfl (by decide) rfl rfl ?_
                          show sv_T sm_XS sm_cs sm_L sm_sh 3 (q_rowWays p1 p2 p3 p4 S) 289 204 [(0, .ref 0), (1, sv_I p1), (2, sv_I p2), (3, sv_I p3), (4, sv_I p4), (5, sv_I l5_322), (6, sv_I l6_323), (7, sv_I (l7_505 + (1 : Int)))] [] (sv_sts (sv_sts (sv_sts S [68, 69, 70] g321) [68, 69, 70] g490) [68, 69, 70] g504)
                          refine sv_goto hM dX12_rowWays_204 (pc' := 106) rfl ?_
                          obtain ⟨o596, h⟩ := h
                          have eS := sv_mod.eq md511
                          have hb := ih506 ((l7_505 + (1 : Int)), (sv_sts (sv_sts (sv_sts S [68, 69, 70] g321) [68, 69, 70] g490) [68, 69, 70] g504)) ⟨o596, (by rw [← eS]; exact ok508), h.1⟩ h.2
                          have hb : sv_T sm_XS sm_cs sm_L sm_sh 3 (q_rowWays p1 p2 p3 p4 S) 289 106 [(0, .ref 0), (1, sv_I p1), (2, sv_I p2), (3, sv_I p3), (4, sv_I p4), (5, sv_I l5_322), (6, sv_I l6_323), (7, sv_I (l7_505 + (1 : Int)))] [] (sv_sts (sv_sts (sv_sts S [68, 69, 70] g321) [68, 69, 70] g490) [68, 69, 70] g504) := Eq.mpr (congrArg (fun Z => sv_T sm_XS sm_cs sm_L sm_sh 3 (q_rowWays p1 p2 p3 p4 S) 289 106 [(0, .ref 0), (1, sv_I p1), (2, sv_I p2), (3, sv_I p3), (4, sv_I p4), (5, sv_I l5_322), (6, sv_I l6_323), (7, sv_I (l7_505 + (1 : Int)))] [] Z) eS) hb
                          exact sv_less (lv := [(0, .ref 0), (1, sv_I p1), (2, sv_I p2), (3, sv_I p3), (4, sv_I p4), (5, sv_I l5_322), (6, sv_I l6_323), (7, sv_I (l7_505 + (1 : Int)))]) (sv_Sub_cons rfl (sv_Sub_cons rfl (sv_Sub_cons rfl (sv_Sub_cons rfl (sv_Sub_cons rfl (sv_Sub_cons rfl (sv_Sub_cons rfl (sv_Sub_cons rfl sv_Sub_nil)))))))) hb
                        · have h := h.2 (hc)
                          refine sv_aload_n hM dX12_rowWays_140 rfl rfl ?_
                          refine sv_getA hM dX12_rowWays_141 sm_fl_280 (sm_a0 _) sm_k141 rfl ?_
                          refine sv_iload hM dX12_rowWays_144 rfl rfl ?_
                          have k597 : (0 ≤ (S 89 l7_505) ∧ (S 89 l7_505) ≤ 1) := sm_okZ ok508 sm_r89 l7_505
                          have h := h k597
                          refine sv_zald hM dX12_rowWays_146 (sm_a89 _) (by decide) o561.1 o561.2 rfl (x := (S 89 l7_505)) rfl ?_
                          refine sv_cond_ne hM dX12_rowWays_147 (sv_R01 k597) (t := 153) rfl rfl (fun hc => ?_) (fun hc => ?_)
                          · have h := h.1 (hc)
                            refine sv_aload_n hM dX12_rowWays_153 rfl rfl ?_
                            refine sv_sipush (d := (639 : Int)) hM dX12_rowWays_154 rfl rfl ?_
                            refine sv_iload hM dX12_rowWays_157 rfl rfl ?_
                            refine sv_iload hM dX12_rowWays_159 rfl rfl ?_
                            obtain ⟨o598, h⟩ := h
                            refine sv_callV hM dX12_rowWays_161 sm_iv_1163 (by decide) (sm_a0 _) rfl rfl (Nat.le_of_ble_eq_true rfl) sm_h225 (Nat.le_of_ble_eq_true rfl) (Nat.le_of_ble_eq_true rfl) (F' := 1) (Nat.le_of_ble_eq_true rfl) rfl (t_field (639 : Int) l6_323 l7_505 (sv_sts (sv_sts (sv_sts S [68, 69, 70] g321) [68, 69, 70] g490) [68, 69, 70] g504) ok508 (⟨by decide, by decide⟩ : sv_R (639 : Int)) hl6_323 hl7_505 o598) (fun v S1 hq => ?_)
                            obtain ⟨r603, rfl, hr603, ok600, md601, hpo602⟩ := hq
                            obtain rfl : (sv_sts (sv_sts (sv_sts S [68, 69, 70] g321) [68, 69, 70] g490) [68, 69, 70] g504) = S1 := (funext fun j => md601 j (by intro q; cases q)).symm
                            show sv_T sm_XS sm_cs sm_L sm_sh 3 (q_rowWays p1 p2 p3 p4 S) 289 164 [(0, .ref 0), (1, sv_I p1), (2, sv_I p2), (3, sv_I p3), (4, sv_I p4), (5, sv_I l5_322), (6, sv_I l6_323), (7, sv_I l7_505)] [sv_I r603] (sv_sts (sv_sts (sv_sts S [68, 69, 70] g321) [68, 69, 70] g490) [68, 69, 70] g504)
                            have h := h r603 hr603 hpo602
                            refine sv_istore hM dX12_rowWays_164 (by decide) rfl ?_
                            show sv_T sm_XS sm_cs sm_L sm_sh 3 (q_rowWays p1 p2 p3 p4 S) 289 166 [(0, .ref 0), (1, sv_I p1), (2, sv_I p2), (3, sv_I p3), (4, sv_I p4), (5, sv_I l5_322), (6, sv_I l6_323), (7, sv_I l7_505), (8, sv_I r603)] [] (sv_sts (sv_sts (sv_sts S [68, 69, 70] g321) [68, 69, 70] g490) [68, 69, 70] g504)
                            refine sv_iload_n hM dX12_rowWays_166 rfl rfl ?_
                            refine sv_bipush (d := (18 : Int)) hM dX12_rowWays_167 rfl rfl ?_
                            refine sv_icmp_ne hM dX12_rowWays_169 hp1 (⟨by decide, by decide⟩ : sv_R (18 : Int)) (t := 184) rfl rfl (fun hc => ?_) (fun hc => ?_)
                            · have h := h.1 (hc)
                              refine sv_aload_n hM dX12_rowWays_184 rfl rfl ?_
                              refine sv_iload hM dX12_rowWays_185 rfl rfl ?_
                              refine sv_iload hM dX12_rowWays_187 rfl rfl ?_
                              obtain ⟨o604, h⟩ := h
                              refine sv_callV hM dX12_rowWays_189 sm_iv_1228 (by decide) (sm_a0 _) rfl rfl (Nat.le_of_ble_eq_true rfl) sm_h266 (Nat.le_of_ble_eq_true rfl) (Nat.le_of_ble_eq_true rfl) (F' := 2) (Nat.le_of_ble_eq_true rfl) rfl (t_joinPlain r603 p4 (sv_sts (sv_sts (sv_sts S [68, 69, 70] g321) [68, 69, 70] g490) [68, 69, 70] g504) ok600 hr603 hp4 o604) (fun v S1 hq => ?_)
                              obtain ⟨rfl, ok606, md607, hpo608⟩ := hq
                              obtain ⟨g605, rfl⟩ : ∃ g, S1 = sv_sts (sv_sts (sv_sts (sv_sts S [68, 69, 70] g321) [68, 69, 70] g490) [68, 69, 70] g504) [68, 69, 70] g := ⟨_, md607.eq⟩
                              show sv_T sm_XS sm_cs sm_L sm_sh 3 (q_rowWays p1 p2 p3 p4 S) 289 192 [(0, .ref 0), (1, sv_I p1), (2, sv_I p2), (3, sv_I p3), (4, sv_I p4), (5, sv_I l5_322), (6, sv_I l6_323), (7, sv_I l7_505), (8, sv_I r603)] [] (sv_sts (sv_sts (sv_sts (sv_sts S [68, 69, 70] g321) [68, 69, 70] g490) [68, 69, 70] g504) [68, 69, 70] g605)
                              have md609 : sv_mod [68, 69, 70] S (sv_sts (sv_sts (sv_sts (sv_sts S [68, 69, 70] g321) [68, 69, 70] g490) [68, 69, 70] g504) [68, 69, 70] g605) := sv_mod.sts md509 (by decide)
                              have md610 : sv_mod [68, 69, 70] S (sv_sts (sv_sts (sv_sts (sv_sts S [68, 69, 70] g321) [68, 69, 70] g490) [68, 69, 70] g504) [68, 69, 70] g605) := sv_mod.sts md510 (by decide)
                              have md611 : sv_mod [68, 69, 70] (sv_sts (sv_sts S [68, 69, 70] g321) [68, 69, 70] g490) (sv_sts (sv_sts (sv_sts (sv_sts S [68, 69, 70] g321) [68, 69, 70] g490) [68, 69, 70] g504) [68, 69, 70] g605) := sv_mod.sts md511 (by decide)
                              have h := h g605 hpo608
                              refine sv_aload_n hM dX12_rowWays_192 rfl rfl ?_
                              refine sv_iload hM dX12_rowWays_193 rfl rfl ?_
                              refine sv_sipush (d := (512 : Int)) hM dX12_rowWays_195 rfl rfl ?_
                              obtain ⟨o612, h⟩ := h
                              refine sv_callV hM dX12_rowWays_198 sm_iv_1072 (by decide) (sm_a0 _) rfl rfl (Nat.le_of_ble_eq_true rfl) sm_h213 (Nat.le_of_ble_eq_true rfl) (Nat.le_of_ble_eq_true rfl) (F' := 2) (Nat.le_of_ble_eq_true rfl) rfl (t_addSort r603 (512 : Int) (sv_sts (sv_sts (sv_sts (sv_sts S [68, 69, 70] g321) [68, 69, 70] g490) [68, 69, 70] g504) [68, 69, 70] g605) ok606 hr603 (⟨by decide, by decide⟩ : sv_R (512 : Int)) o612) (fun v S1 hq => ?_)
                              obtain ⟨rfl, ok614, md615, hpo616⟩ := hq
                              obtain ⟨g613, rfl⟩ : ∃ g, S1 = sv_sts (sv_sts (sv_sts (sv_sts (sv_sts S [68, 69, 70] g321) [68, 69, 70] g490) [68, 69, 70] g504) [68, 69, 70] g605) [68, 69, 70] g := ⟨_, md615.eq⟩
                              show sv_T sm_XS sm_cs sm_L sm_sh 3 (q_rowWays p1 p2 p3 p4 S) 289 201 [(0, .ref 0), (1, sv_I p1), (2, sv_I p2), (3, sv_I p3), (4, sv_I p4), (5, sv_I l5_322), (6, sv_I l6_323), (7, sv_I l7_505), (8, sv_I r603)] [] (sv_sts (sv_sts (sv_sts (sv_sts (sv_sts S [68, 69, 70] g321) [68, 69, 70] g490) [68, 69, 70] g504) [68, 69, 70] g605) [68, 69, 70] g613)
                              have md617 : sv_mod [68, 69, 70] S (sv_sts (sv_sts (sv_sts (sv_sts (sv_sts S [68, 69, 70] g321) [68, 69, 70] g490) [68, 69, 70] g504) [68, 69, 70] g605) [68, 69, 70] g613) := sv_mod.sts md609 (by decide)
                              have md618 : sv_mod [68, 69, 70] S (sv_sts (sv_sts (sv_sts (sv_sts (sv_sts S [68, 69, 70] g321) [68, 69, 70] g490) [68, 69, 70] g504) [68, 69, 70] g605) [68, 69, 70] g613) := sv_mod.sts md610 (by decide)
                              have md619 : sv_mod [68, 69, 70] (sv_sts (sv_sts S [68, 69, 70] g321) [68, 69, 70] g490) (sv_sts (sv_sts (sv_sts (sv_sts (sv_sts S [68, 69, 70] g321) [68, 69, 70] g490) [68, 69, 70] g504) [68, 69, 70] g605) [68, 69, 70] g613) := sv_mod.sts md611 (by decide)
                              have h := h g613 hpo616
                              refine sv_iinc (d := (1 : Int)) hM dX12_rowWays_201 rfl (by decide) rfl rfl ?_
                              show sv_T sm_XS sm_cs sm_L sm_sh 3 (q_rowWays p1 p2 p3 p4 S) 289 204 [(0, .ref 0), (1, sv_I p1), (2, sv_I p2), (3, sv_I p3), (4, sv_I p4), (5, sv_I l5_322), (6, sv_I l6_323), (7, sv_I (l7_505 + (1 : Int))), (8, sv_I r603)] [] (sv_sts (sv_sts (sv_sts (sv_sts (sv_sts S [68, 69, 70] g321) [68, 69, 70] g490) [68, 69, 70] g504) [68, 69, 70] g605) [68, 69, 70] g613)
                              refine sv_goto hM dX12_rowWays_204 (pc' := 106) rfl ?_
                              obtain ⟨o620, h⟩ := h
                              have eS := sv_mod.eq md619
                              have hb := ih506 ((l7_505 + (1 : Int)), (sv_sts (sv_sts (sv_sts (sv_sts (sv_sts S [68, 69, 70] g321) [68, 69, 70] g490) [68, 69, 70] g504) [68, 69, 70] g605) [68, 69, 70] g613)) ⟨o620, (by rw [← eS]; exact ok614), h.1⟩ h.2
                              have hb : sv_T sm_XS sm_cs sm_L sm_sh 3 (q_rowWays p1 p2 p3 p4 S) 289 106 [(0, .ref 0), (1, sv_I p1), (2, sv_I p2), (3, sv_I p3), (4, sv_I p4), (5, sv_I l5_322), (6, sv_I l6_323), (7, sv_I (l7_505 + (1 : Int)))] [] (sv_sts (sv_sts (sv_sts (sv_sts (sv_sts S [68, 69, 70] g321) [68, 69, 70] g490) [68, 69, 70] g504) [68, 69, 70] g605) [68, 69, 70] g613) := Eq.mpr (congrArg (fun Z => sv_T sm_XS sm_cs sm_L sm_sh 3 (q_rowWays p1 p2 p3 p4 S) 289 106 [(0, .ref 0), (1, sv_I p1), (2, sv_I p2), (3, sv_I p3), (4, sv_I p4), (5, sv_I l5_322), (6, sv_I l6_323), (7, sv_I (l7_505 + (1 : Int)))] [] Z) eS) hb
                              exact sv_less (lv := [(0, .ref 0), (1, sv_I p1), (2, sv_I p2), (3, sv_I p3), (4, sv_I p4), (5, sv_I l5_322), (6, sv_I l6_323), (7, sv_I (l7_505 + (1 : Int)))]) (sv_Sub_cons rfl (sv_Sub_cons rfl (sv_Sub_cons rfl (sv_Sub_cons rfl (sv_Sub_cons rfl (sv_Sub_cons rfl (sv_Sub_cons rfl (sv_Sub_cons rfl sv_Sub_nil)))))))) hb
                            · have h := h.2 (hc)
                              refine sv_aload_n hM dX12_rowWays_172 rfl rfl ?_
                              refine sv_iload_n hM dX12_rowWays_173 rfl rfl ?_
                              refine sv_iload hM dX12_rowWays_174 rfl rfl ?_
                              obtain ⟨o621, h⟩ := h
                              refine sv_callV hM dX12_rowWays_176 sm_iv_1069 (by decide) (sm_a0 _) rfl rfl (Nat.le_of_ble_eq_true rfl) sm_h208 (Nat.le_of_ble_eq_true rfl) (Nat.le_of_ble_eq_true rfl) (F' := 1) (Nat.le_of_ble_eq_true rfl) rfl (t_join p3 r603 (sv_sts (sv_sts (sv_sts S [68, 69, 70] g321) [68, 69, 70] g490) [68, 69, 70] g504) ok600 hp3 hr603 o621) (fun v S1 hq => ?_)
                              obtain ⟨r626, rfl, hr626, ok623, md624, hpo625⟩ := hq
                              obtain ⟨g622, rfl⟩ : ∃ g, S1 = sv_sts (sv_sts (sv_sts (sv_sts S [68, 69, 70] g321) [68, 69, 70] g490) [68, 69, 70] g504) [68, 69, 70] g := ⟨_, md624.eq⟩
                              show sv_T sm_XS sm_cs sm_L sm_sh 3 (q_rowWays p1 p2 p3 p4 S) 289 179 [(0, .ref 0), (1, sv_I p1), (2, sv_I p2), (3, sv_I p3), (4, sv_I p4), (5, sv_I l5_322), (6, sv_I l6_323), (7, sv_I l7_505), (8, sv_I r603)] [sv_I r626] (sv_sts (sv_sts (sv_sts (sv_sts S [68, 69, 70] g321) [68, 69, 70] g490) [68, 69, 70] g504) [68, 69, 70] g622)
                              have md627 : sv_mod [68, 69, 70] S (sv_sts (sv_sts (sv_sts (sv_sts S [68, 69, 70] g321) [68, 69, 70] g490) [68, 69, 70] g504) [68, 69, 70] g622) := sv_mod.sts md509 (by decide)
                              have md628 : sv_mod [68, 69, 70] S (sv_sts (sv_sts (sv_sts (sv_sts S [68, 69, 70] g321) [68, 69, 70] g490) [68, 69, 70] g504) [68, 69, 70] g622) := sv_mod.sts md510 (by decide)
                              have md629 : sv_mod [68, 69, 70] (sv_sts (sv_sts S [68, 69, 70] g321) [68, 69, 70] g490) (sv_sts (sv_sts (sv_sts (sv_sts S [68, 69, 70] g321) [68, 69, 70] g490) [68, 69, 70] g504) [68, 69, 70] g622) := sv_mod.sts md511 (by decide)
                              have h := h r626 hr626 g622 hpo625
                              refine sv_istore hM dX12_rowWays_179 (by decide) rfl ?_
                              show sv_T sm_XS sm_cs sm_L sm_sh 3 (q_rowWays p1 p2 p3 p4 S) 289 181 [(0, .ref 0), (1, sv_I p1), (2, sv_I p2), (3, sv_I p3), (4, sv_I p4), (5, sv_I l5_322), (6, sv_I l6_323), (7, sv_I l7_505), (8, sv_I r603), (9, sv_I r626)] [] (sv_sts (sv_sts (sv_sts (sv_sts S [68, 69, 70] g321) [68, 69, 70] g490) [68, 69, 70] g504) [68, 69, 70] g622)
                              refine sv_goto hM dX12_rowWays_181 (pc' := 201) rfl ?_
                              refine sv_iinc (d := (1 : Int)) hM dX12_rowWays_201 rfl (by decide) rfl rfl ?_
                              show sv_T sm_XS sm_cs sm_L sm_sh 3 (q_rowWays p1 p2 p3 p4 S) 289 204 [(0, .ref 0), (1, sv_I p1), (2, sv_I p2), (3, sv_I p3), (4, sv_I p4), (5, sv_I l5_322), (6, sv_I l6_323), (7, sv_I (l7_505 + (1 : Int))), (8, sv_I r603), (9, sv_I r626)] [] (sv_sts (sv_sts (sv_sts (sv_sts S [68, 69, 70] g321) [68, 69, 70] g490) [68, 69, 70] g504) [68, 69, 70] g622)
                              refine sv_goto hM dX12_rowWays_204 (pc' := 106) rfl ?_
                              obtain ⟨o630, h⟩ := h
                              have eS := sv_mod.eq md629
                              have hb := ih506 ((l7_505 + (1 : Int)), (sv_sts (sv_sts (sv_sts (sv_sts S [68, 69, 70] g321) [68, 69, 70] g490) [68, 69, 70] g504) [68, 69, 70] g622)) ⟨o630, (by rw [← eS]; exact ok623), h.1⟩ h.2
                              have hb : sv_T sm_XS sm_cs sm_L sm_sh 3 (q_rowWays p1 p2 p3 p4 S) 289 106 [(0, .ref 0), (1, sv_I p1), (2, sv_I p2), (3, sv_I p3), (4, sv_I p4), (5, sv_I l5_322), (6, sv_I l6_323), (7, sv_I (l7_505 + (1 : Int)))] [] (sv_sts (sv_sts (sv_sts (sv_sts S [68, 69, 70] g321) [68, 69, 70] g490) [68, 69, 70] g504) [68, 69, 70] g622) := Eq.mpr (congrArg (fun Z => sv_T sm_XS sm_cs sm_L sm_sh 3 (q_rowWays p1 p2 p3 p4 S) 289 106 [(0, .ref 0), (1, sv_I p1), (2, sv_I p2), (3, sv_I p3), (4, sv_I p4), (5, sv_I l5_322), (6, sv_I l6_323), (7, sv_I (l7_505 + (1 : Int)))] [] Z) eS) hb
                              exact sv_less (lv := [(0, .ref 0), (1, sv_I p1), (2, sv_I p2), (3, sv_I p3), (4, sv_I p4), (5, sv_I l5_322), (6, sv_I l6_323), (7, sv_I (l7_505 + (1 : Int)))]) (sv_Sub_cons rfl (sv_Sub_cons rfl (sv_Sub_cons rfl (sv_Sub_cons rfl (sv_Sub_cons rfl (sv_Sub_cons rfl (sv_Sub_cons rfl (sv_Sub_cons rfl sv_Sub_nil)))))))) hb
                          · have h := h.2 (hc)
                            refine sv_goto hM dX12_rowWays_150 (pc' := 201) rfl ?_
                            refine sv_iinc (d := (1 : Int)) hM dX12_rowWays_201 rfl (by decide) rfl rfl ?_
                            show sv_T sm_XS sm_cs sm_L sm_sh 3 (q_rowWays p1 p2 p3 p4 S) 289 204 [(0, .ref 0), (1, sv_I p1), (2, sv_I p2), (3, sv_I p3), (4, sv_I p4), (5, sv_I l5_322), (6, sv_I l6_323), (7, sv_I (l7_505 + (1 : Int)))] [] (sv_sts (sv_sts (sv_sts S [68, 69, 70] g321) [68, 69, 70] g490) [68, 69, 70] g504)
                            refine sv_goto hM dX12_rowWays_204 (pc' := 106) rfl ?_
                            obtain ⟨o631, h⟩ := h
                            have eS := sv_mod.eq md511
                            have hb := ih506 ((l7_505 + (1 : Int)), (sv_sts (sv_sts (sv_sts S [68, 69, 70] g321) [68, 69, 70] g490) [68, 69, 70] g504)) ⟨o631, (by rw [← eS]; exact ok508), h.1⟩ h.2
                            have hb : sv_T sm_XS sm_cs sm_L sm_sh 3 (q_rowWays p1 p2 p3 p4 S) 289 106 [(0, .ref 0), (1, sv_I p1), (2, sv_I p2), (3, sv_I p3), (4, sv_I p4), (5, sv_I l5_322), (6, sv_I l6_323), (7, sv_I (l7_505 + (1 : Int)))] [] (sv_sts (sv_sts (sv_sts S [68, 69, 70] g321) [68, 69, 70] g490) [68, 69, 70] g504) := Eq.mpr (congrArg (fun Z => sv_T sm_XS sm_cs sm_L sm_sh 3 (q_rowWays p1 p2 p3 p4 S) 289 106 [(0, .ref 0), (1, sv_I p1), (2, sv_I p2), (3, sv_I p3), (4, sv_I p4), (5, sv_I l5_322), (6, sv_I l6_323), (7, sv_I (l7_505 + (1 : Int)))] [] Z) eS) hb
                            exact sv_less (lv := [(0, .ref 0), (1, sv_I p1), (2, sv_I p2), (3, sv_I p3), (4, sv_I p4), (5, sv_I l5_322), (6, sv_I l6_323), (7, sv_I (l7_505 + (1 : Int)))]) (sv_Sub_cons rfl (sv_Sub_cons rfl (sv_Sub_cons rfl (sv_Sub_cons rfl (sv_Sub_cons rfl (sv_Sub_cons rfl (sv_Sub_cons rfl (sv_Sub_cons rfl sv_Sub_nil)))))))) hb
                have eS := sv_mod.eq (sv_mod.rf (l := [68, 69, 70]) (S := (sv_sts (sv_sts S [68, 69, 70] g321) [68, 69, 70] g490)))
                have hb := hJ ((0 : Int), (sv_sts (sv_sts S [68, 69, 70] g321) [68, 69, 70] g490)) ⟨(⟨by decide, by decide⟩ : sv_R (0 : Int)), (by rw [← eS]; exact ok498), hin507⟩
                have hb : sv_T sm_XS sm_cs sm_L sm_sh 3 (q_rowWays p1 p2 p3 p4 S) 289 106 [(0, .ref 0), (1, sv_I p1), (2, sv_I p2), (3, sv_I p3), (4, sv_I p4), (5, sv_I l5_322), (6, sv_I l6_323), (7, sv_I (0 : Int))] [] (sv_sts (sv_sts S [68, 69, 70] g321) [68, 69, 70] g490) := Eq.mpr (congrArg (fun Z => sv_T sm_XS sm_cs sm_L sm_sh 3 (q_rowWays p1 p2 p3 p4 S) 289 106 [(0, .ref 0), (1, sv_I p1), (2, sv_I p2), (3, sv_I p3), (4, sv_I p4), (5, sv_I l5_322), (6, sv_I l6_323), (7, sv_I (0 : Int))] [] Z) eS) hb
                exact hb
              · have h := h.2 (hc)
                refine sv_goto hM dX12_rowWays_100 (pc' := 223) rfl ?_
                refine sv_iinc (d := (1 : Int)) hM dX12_rowWays_223 rfl (by decide) rfl rfl ?_
                show sv_T sm_XS sm_cs sm_L sm_sh 3 (q_rowWays p1 p2 p3 p4 S) 289 226 [(0, .ref 0), (1, sv_I p1), (2, sv_I p2), (3, sv_I p3), (4, sv_I p4), (5, sv_I l5_322), (6, sv_I (l6_323 + (1 : Int)))] [] (sv_sts (sv_sts S [68, 69, 70] g321) [68, 69, 70] g490)
                refine sv_goto hM dX12_rowWays_226 (pc' := 18) rfl ?_
                obtain ⟨o632, h⟩ := h
                have eS := sv_mod.eq md495
                have hb := ih324 (l5_322, (l6_323 + (1 : Int)), (sv_sts (sv_sts S [68, 69, 70] g321) [68, 69, 70] g490)) ⟨hl5_322, o632, (by rw [← eS]; exact ok498), h.1⟩ h.2
                have hb : sv_T sm_XS sm_cs sm_L sm_sh 3 (q_rowWays p1 p2 p3 p4 S) 289 18 [(0, .ref 0), (1, sv_I p1), (2, sv_I p2), (3, sv_I p3), (4, sv_I p4), (5, sv_I l5_322), (6, sv_I (l6_323 + (1 : Int)))] [] (sv_sts (sv_sts S [68, 69, 70] g321) [68, 69, 70] g490) := Eq.mpr (congrArg (fun Z => sv_T sm_XS sm_cs sm_L sm_sh 3 (q_rowWays p1 p2 p3 p4 S) 289 18 [(0, .ref 0), (1, sv_I p1), (2, sv_I p2), (3, sv_I p3), (4, sv_I p4), (5, sv_I l5_322), (6, sv_I (l6_323 + (1 : Int)))] [] Z) eS) hb
                exact sv_less (lv := [(0, .ref 0), (1, sv_I p1), (2, sv_I p2), (3, sv_I p3), (4, sv_I p4), (5, sv_I l5_322), (6, sv_I (l6_323 + (1 : Int)))]) (sv_Sub_cons rfl (sv_Sub_cons rfl (sv_Sub_cons rfl (sv_Sub_cons rfl (sv_Sub_cons rfl (sv_Sub_cons rfl (sv_Sub_cons rfl sv_Sub_nil))))))) hb
          · have h := h.2 (hc)
            refine sv_iconst (d := (1 : Int)) hM dX12_rowWays_59 rfl rfl ?_
            refine sv_istore hM dX12_rowWays_60 (by decide) rfl ?_
            show sv_T sm_XS sm_cs sm_L sm_sh 3 (q_rowWays p1 p2 p3 p4 S) 289 62 [(0, .ref 0), (1, sv_I p1), (2, sv_I p2), (3, sv_I p3), (4, sv_I p4), (5, sv_I (1 : Int)), (6, sv_I l6_323)] [] (sv_sts S [68, 69, 70] g321)
            refine sv_goto hM dX12_rowWays_62 (pc' := 223) rfl ?_
            refine sv_iinc (d := (1 : Int)) hM dX12_rowWays_223 rfl (by decide) rfl rfl ?_
            show sv_T sm_XS sm_cs sm_L sm_sh 3 (q_rowWays p1 p2 p3 p4 S) 289 226 [(0, .ref 0), (1, sv_I p1), (2, sv_I p2), (3, sv_I p3), (4, sv_I p4), (5, sv_I (1 : Int)), (6, sv_I (l6_323 + (1 : Int)))] [] (sv_sts S [68, 69, 70] g321)
            refine sv_goto hM dX12_rowWays_226 (pc' := 18) rfl ?_
            obtain ⟨o633, h⟩ := h
            have eS := sv_mod.eq md328
            have hb := ih324 ((1 : Int), (l6_323 + (1 : Int)), (sv_sts S [68, 69, 70] g321)) ⟨(⟨by decide, by decide⟩ : sv_R (1 : Int)), o633, (by rw [← eS]; exact ok341), h.1⟩ h.2
            have hb : sv_T sm_XS sm_cs sm_L sm_sh 3 (q_rowWays p1 p2 p3 p4 S) 289 18 [(0, .ref 0), (1, sv_I p1), (2, sv_I p2), (3, sv_I p3), (4, sv_I p4), (5, sv_I (1 : Int)), (6, sv_I (l6_323 + (1 : Int)))] [] (sv_sts S [68, 69, 70] g321) := Eq.mpr (congrArg (fun Z => sv_T sm_XS sm_cs sm_L sm_sh 3 (q_rowWays p1 p2 p3 p4 S) 289 18 [(0, .ref 0), (1, sv_I p1), (2, sv_I p2), (3, sv_I p3), (4, sv_I p4), (5, sv_I (1 : Int)), (6, sv_I (l6_323 + (1 : Int)))] [] Z) eS) hb
            exact sv_less (lv := [(0, .ref 0), (1, sv_I p1), (2, sv_I p2), (3, sv_I p3), (4, sv_I p4), (5, sv_I (1 : Int)), (6, sv_I (l6_323 + (1 : Int)))]) (sv_Sub_cons rfl (sv_Sub_cons rfl (sv_Sub_cons rfl (sv_Sub_cons rfl (sv_Sub_cons rfl (sv_Sub_cons rfl (sv_Sub_cons rfl sv_Sub_nil))))))) hb
        · have h := h.2 (hc)
          refine sv_goto hM dX12_rowWays_47 (pc' := 223) rfl ?_
          refine sv_iinc (d := (1 : Int)) hM dX12_rowWays_223 rfl (by decide) rfl rfl ?_
          show sv_T sm_XS sm_cs sm_L sm_sh 3 (q_rowWays p1 p2 p3 p4 S) 289 226 [(0, .ref 0), (1, sv_I p1), (2, sv_I p2), (3, sv_I p3), (4, sv_I p4), (5, sv_I l5_322), (6, sv_I (l6_323 + (1 : Int)))] [] (sv_sts S [68, 69, 70] g321)
          refine sv_goto hM dX12_rowWays_226 (pc' := 18) rfl ?_
          obtain ⟨o634, h⟩ := h
          have eS := sv_mod.eq md328
          have hb := ih324 (l5_322, (l6_323 + (1 : Int)), (sv_sts S [68, 69, 70] g321)) ⟨hl5_322, o634, (by rw [← eS]; exact ok335), h.1⟩ h.2
          have hb : sv_T sm_XS sm_cs sm_L sm_sh 3 (q_rowWays p1 p2 p3 p4 S) 289 18 [(0, .ref 0), (1, sv_I p1), (2, sv_I p2), (3, sv_I p3), (4, sv_I p4), (5, sv_I l5_322), (6, sv_I (l6_323 + (1 : Int)))] [] (sv_sts S [68, 69, 70] g321) := Eq.mpr (congrArg (fun Z => sv_T sm_XS sm_cs sm_L sm_sh 3 (q_rowWays p1 p2 p3 p4 S) 289 18 [(0, .ref 0), (1, sv_I p1), (2, sv_I p2), (3, sv_I p3), (4, sv_I p4), (5, sv_I l5_322), (6, sv_I (l6_323 + (1 : Int)))] [] Z) eS) hb
          exact sv_less (lv := [(0, .ref 0), (1, sv_I p1), (2, sv_I p2), (3, sv_I p3), (4, sv_I p4), (5, sv_I l5_322), (6, sv_I (l6_323 + (1 : Int)))]) (sv_Sub_cons rfl (sv_Sub_cons rfl (sv_Sub_cons rfl (sv_Sub_cons rfl (sv_Sub_cons rfl (sv_Sub_cons rfl (sv_Sub_cons rfl sv_Sub_nil))))))) hb
    have eS := sv_mod.eq (sv_mod.rf (l := [68, 69, 70]) (S := S))
    have hb := hJ ((1 : Int), (0 : Int), S) ⟨(⟨by decide, by decide⟩ : sv_R (1 : Int)), (⟨by decide, by decide⟩ : sv_R (0 : Int)), (by rw [← eS]; exact ok3), hin325⟩
    have hb : sv_T sm_XS sm_cs sm_L sm_sh 3 (q_rowWays p1 p2 p3 p4 S) 289 18 [(0, .ref 0), (1, sv_I p1), (2, sv_I p2), (3, sv_I p3), (4, sv_I p4), (5, sv_I (1 : Int)), (6, sv_I (0 : Int))] [] S := Eq.mpr (congrArg (fun Z => sv_T sm_XS sm_cs sm_L sm_sh 3 (q_rowWays p1 p2 p3 p4 S) 289 18 [(0, .ref 0), (1, sv_I p1), (2, sv_I p2), (3, sv_I p3), (4, sv_I p4), (5, sv_I (1 : Int)), (6, sv_I (0 : Int))] [] Z) eS) hb
    exact hb
def q_ownWays (p1 : Int) (p2 : Int) (p3 : Int) (S : sv_S) : Option Value → sv_S → Prop := fun v S' => ∃ r : Int, v = some (sv_I r) ∧ sv_R r ∧ sm_ok S' ∧ sv_mod [68, 69, 70, 1143, 1144, 5, 1011] S S' ∧ (sm_pt (S' 68) (S' 69) (S' 70) = sm_pt (S 68) (S 69) (S 70) ∧ (r = 0 ∨ r = 1))
theorem la_ownWays_0 {x0 : Int} (h0 : 0 ≤ x0) (h1 : x0 ≤ 11557) : 0 ≤ x0 ∧ x0 ≤ 11557 := by omega
theorem la_ownWays_1 {x0 x1 : Int} (h0 : 29 ≤ x0) : (0 : Int) ≤ 0 ∧ 0 ≤ x0 ∧ x1 = x1 := by omega
theorem la_ownWays_2 {x0 x1 : Int} (h0 : x0 ≤ x1) : 0 ≤ x1 - x0 := by omega
theorem la_ownWays_3 {x0 : Int} (h0 : 0 ≤ x0) (h1 : x0 < 647800) : 0 ≤ x0 ∧ x0 < 647800 := by omega
theorem la_ownWays_4 {x0 x1 x2 : Int} (h0 : x0 = x1) : x2 = 0 → x0 = x1 ∧ ((0 : Int) = 0 ∨ (0 : Int) = 1) := by omega
theorem la_ownWays_5 : (1 : Int) = 0 ∨ (1 : Int) = 1 := by omega
theorem la_ownWays_6 {x0 x1 : Int} (h0 : x0 ≤ 127) (h1 : 0 ≤ x1) (h2 : ¬ x0 ≤ x1) : 0 ≤ x1 ∧ x1 < 128 := by omega
theorem la_ownWays_7 {x0 : Int} (h0 : x0 = 1) : 0 ≤ x0 := by omega
theorem la_ownWays_8 {x0 : Int} (h0 : 0 ≤ x0) (h1 : ¬ x0 = 0) : 0 < x0 := by omega
theorem la_ownWays_9 {x0 x1 x2 : Int} (h0 : 31 ≤ x0) (h1 : x1 = x2) : (0 : Int) ≤ 0 ∧ 0 ≤ x0 + 1 ∧ x1 = x2 := by omega
theorem la_ownWays_10 {x0 x1 : Int} (h0 : x0 ≤ x1 + 1) : 0 ≤ x1 + 1 - x0 := by omega
theorem la_ownWays_11 {x0 x1 x2 x3 x4 x5 : Int} (h0 : x0 ≤ 127) (h1 : 0 ≤ x1) (h2 : ¬ x0 ≤ x1) (h3 : x2 = x3) : x4 < x5 → sv_R (x1 + 1) ∧ (0 ≤ x1 + 1 ∧ x1 + 1 ≤ x0 ∧ x2 = x3) ∧ x0 - (x1 + 1) < x0 - x1 := by omega
theorem la_ownWays_12 {x0 x1 : Int} (h0 : x0 ≤ 90) (h1 : 0 ≤ x1) (h2 : ¬ x0 < x1) : 0 ≤ x1 ∧ x1 < 128 := by omega
theorem la_ownWays_13 {x0 x1 x2 x3 x4 x5 x6 : Int} (h0 : x0 ≤ 127) (h1 : 0 ≤ x1) (h2 : x1 ≤ 11557) (h3 : 0 ≤ x2) (h4 : ¬ x0 ≤ x2) (h5 : 0 ≤ x3) (h6 : ¬ x4 < x3) : 0 ≤ x1 ∧ x1 ≤ 11557 ∧ (0 : Int) ≤ 639 ∧ ((639 : Int) = 639 ∨ 639 < x5 + 2 * x6) ∧ 0 ≤ x2 ∧ (x2 < x0 ∨ (639 : Int) = 639 ∧ x2 < 128) ∧ 0 ≤ x3 ∧ x3 ≤ x4 := by omega
theorem la_ownWays_14 : (639 : Int) = 639 := by omega
theorem la_ownWays_15 : ¬ ¬ (639 : Int) = 639 := by omega
theorem la_ownWays_16 {x0 : Int} (h0 : 635640 ≤ x0) (h1 : x0 < 647340) : 0 ≤ x0 ∧ x0 < 647800 := by omega
theorem la_ownWays_17 {x0 x1 x2 x3 x4 : Int} (h0 : x0 ≤ 90) (h1 : 0 ≤ x1) (h2 : x2 = x3) (h3 : ¬ x0 < x1) : x4 = 0 → sv_R (x1 + 1) ∧ (0 ≤ x1 + 1 ∧ x1 + 1 ≤ x0 + 1 ∧ x2 = x3) ∧ x0 + 1 - (x1 + 1) < x0 + 1 - x1 := by omega
theorem la_ownWays_18 {x0 : Int} (h0 : 635639 ≤ x0) (h1 : x0 < 647790) : 635639 ≤ x0 ∧ x0 < 647790 := by omega
theorem la_ownWays_19 {x0 x1 : Int} (h0 : x0 ≤ 90) (h1 : 0 ≤ x1) (h2 : ¬ x0 < x1) : sv_R (x1 + 1) := by omega
theorem la_ownWays_20 {x0 x1 x2 x3 x4 : Int} (h0 : 0 ≤ x0) (h1 : x1 = x2) (h2 : ¬ x3 < x0) (h3 : x4 = x1) : 0 ≤ x0 + 1 ∧ x0 + 1 ≤ x3 + 1 ∧ x4 = x2 := by omega
theorem la_ownWays_21 {x0 x1 : Int} : x0 + 1 - (x1 + 1) < x0 + 1 - x1 := by omega
theorem la_ownWays_22 {x0 : Int} (h0 : ¬ ¬ x0 = 0) : ¬ x0 = 1 := by omega
theorem la_ownWays_23 {x0 x1 x2 x3 x4 x5 : Int} (h0 : x0 ≤ 90) (h1 : 0 ≤ x1) (h2 : x2 = x3) (h3 : ¬ x0 < x1) (h4 : x4 = x2) : x5 = 0 → sv_R (x1 + 1) ∧ (0 ≤ x1 + 1 ∧ x1 + 1 ≤ x0 + 1 ∧ x4 = x3) ∧ x0 + 1 - (x1 + 1) < x0 + 1 - x1 := by omega
theorem la_ownWays_24 {x0 x1 x2 x3 x4 x5 : Int} (h0 : 0 ≤ x0) (h1 : x1 = x2) (h2 : ¬ x3 < x0) (h3 : x4 = x1) (h4 : x5 = x4) : 0 ≤ x0 + 1 ∧ x0 + 1 ≤ x3 + 1 ∧ x5 = x2 := by omega
theorem la_ownWays_25 {x0 x1 x2 x3 : Int} (h0 : 0 ≤ x0) (h1 : x1 = x2) (h2 : ¬ x3 < x0) : 0 ≤ x0 + 1 ∧ x0 + 1 ≤ x3 + 1 ∧ x1 = x2 := by omega
theorem la_ownWays_26 {x0 x1 : Int} (h0 : x0 ≤ 127) (h1 : 0 ≤ x1) (h2 : ¬ x0 ≤ x1) : sv_R (x1 + 1) := by omega
theorem la_ownWays_27 {x0 x1 x2 x3 : Int} (h0 : 0 ≤ x0) (h1 : x1 = x2) (h2 : ¬ x3 ≤ x0) : 0 ≤ x0 + 1 ∧ x0 + 1 ≤ x3 ∧ x1 = x2 := by omega
theorem la_ownWays_28 {x0 x1 : Int} : x0 - (x1 + 1) < x0 - x1 := by omega
set_option maxHeartbeats 2000000 in
theorem f_ownWays : ∀ (p1 : Int) (p2 : Int) (p3 : Int) (S : sv_S), sm_ok S → sv_R p1 → sv_R p2 → sv_R p3 → (29 ≤ (S 1071 0) ∧ (S 1071 0) ≤ 127 ∧ 31 ≤ (S 1008 0) ∧ (S 1008 0) ≤ 90 ∧ 1 ≤ (S 1032 0) ∧ (S 1032 0) ≤ 11 ∧ 0 ≤ (S 1055 0) ∧ (S 1055 0) ≤ 19 ∧ (S 1071 0) = 29 + 6 * ((S 1032 0) - 1) + 2 * (S 1055 0) ∧ 0 ≤ (S 1046 0) ∧ (S 1046 0) + 2 * (S 1032 0) ≤ 500 ∧ sm_PD (S 1046 0) (S 1032 0) (S 1071 0) (S 1008 0) ∧ 0 ≤ (S 1071 0) * ((S 1008 0) + 1) ∧ (S 1071 0) * ((S 1008 0) + 1) ≤ 11557 ∧ 31 ≤ (S 1007 0) ∧ (S 1007 0) ≤ 400 ∧ sm_LN (S 4) 400 (S 1007 0) ∧ 0 ≤ p1 ∧ p1 < 647800 ∧ 0 ≤ p2 ∧ p2 < 647800 ∧ 635639 ≤ p3 ∧ p3 < 647790) → (31 ≤ (S 1007 0) ∧ (S 1007 0) ≤ 400 ∧ sm_LN (S 4) 400 (S 1007 0) ∧ 0 ≤ p2 ∧ p2 < 647800 ∧ 29 ≤ (S 1071 0) ∧ (S 1071 0) ≤ 127 ∧ 31 ≤ (S 1008 0) ∧ (S 1008 0) ≤ 90 ∧ 1 ≤ (S 1032 0) ∧ (S 1032 0) ≤ 11 ∧ 0 ≤ (S 1055 0) ∧ (S 1055 0) ≤ 19 ∧ (S 1071 0) = 29 + 6 * ((S 1032 0) - 1) + 2 * (S 1055 0) ∧ 0 ≤ (S 1046 0) ∧ (S 1046 0) + 2 * (S 1032 0) ≤ 500 ∧ sm_PD (S 1046 0) (S 1032 0) (S 1071 0) (S 1008 0) ∧ 0 ≤ (S 1071 0) * ((S 1008 0) + 1) ∧ (S 1071 0) * ((S 1008 0) + 1) ≤ 11557) ∧ (∀ g2 : sv_S, (True) → ((0 ≤ (0 : Int) ∧ (0 : Int) ≤ (S 1071 0) ∧ sm_pt (S 68) (S 69) (S 70) = sm_pt (S 68) (S 69) (S 70)) ∧ (∀ l4_8 : Int, sv_R l4_8 → ∀ g7 : sv_S, (0 ≤ l4_8 ∧ l4_8 ≤ (S 1071 0) ∧ sm_pt (g7 68) (g7 69) (g7 70) = sm_pt (S 68) (S 69) (S 70)) → (0 ≤ (S 1071 0) - l4_8) ∧ (sv_R (S 1071 0) → ((((S 1071 0) ≤ l4_8) → (0 ≤ p1 ∧ p1 < 647800) ∧ (∀ r20 : Int, sv_R r20 → (sm_iand ((g7 68 p1) % 1024) (-513) = r20) → (((r20 = (0 : Int)) → (sm_pt (g7 68) (g7 69) (g7 70) = sm_pt (S 68) (S 69) (S 70) ∧ ((0 : Int) = 0 ∨ (0 : Int) = 1))) ∧ ((¬ (r20 = (0 : Int))) → (sm_pt (g7 68) (g7 69) (g7 70) = sm_pt (S 68) (S 69) (S 70) ∧ ((1 : Int) = 0 ∨ (1 : Int) = 1)))))) ∧ ((¬ ((S 1071 0) ≤ l4_8)) → (0 ≤ p1 ∧ p1 < 647800) ∧ (sv_RL (g7 69 p1) → (sv_RL (g7 70 p1) → (0 ≤ l4_8 ∧ l4_8 < 128) ∧ (∀ r29 : Int, sv_R r29 → (r29 = sm_in (g7 69 p1) (g7 70 p1) l4_8 ∧ (r29 = 0 ∨ r29 = 1)) → (((¬ r29 = (0 : Int)) → ((0 ≤ (0 : Int) ∧ (0 : Int) ≤ (S 1008 0) + 1 ∧ sm_pt (g7 68) (g7 69) (g7 70) = sm_pt (S 68) (S 69) (S 70)) ∧ (∀ l5_31 : Int, sv_R l5_31 → ∀ g30 : sv_S, (0 ≤ l5_31 ∧ l5_31 ≤ (S 1008 0) + 1 ∧ sm_pt (g30 68) (g30 69) (g30 70) = sm_pt (S 68) (S 69) (S 70)) → (0 ≤ (S 1008 0) + 1 - l5_31) ∧ (sv_R (S 1008 0) → ((((S 1008 0) < l5_31) → (sv_R (l4_8 + (1 : Int))) ∧ ((0 ≤ (l4_8 + (1 : Int)) ∧ (l4_8 + (1 : Int)) ≤ (S 1071 0) ∧ sm_pt (g30 68) (g30 69) (g30 70) = sm_pt (S 68) (S 69) (S 70)) ∧ ((S 1071 0) - (l4_8 + (1 : Int))) < ((S 1071 0) - l4_8))) ∧ ((¬ ((S 1008 0) < l5_31)) → (0 ≤ l5_31 ∧ l5_31 < 128) ∧ (∀ r45 : Int, sv_R r45 → (r45 = 0 ∨ r45 = 1) → (((¬ r45 = (0 : Int)) → (29 ≤ (S 1071 0) ∧ (S 1071 0) ≤ 127 ∧ 31 ≤ (S 1008 0) ∧ (S 1008 0) ≤ 90 ∧ 1 ≤ (S 1032 0) ∧ (S 1032 0) ≤ 11 ∧ 0 ≤ (S 1055 0) ∧ (S 1055 0) ≤ 19 ∧ (S 1071 0) = 29 + 6 * ((S 1032 0) - 1) + 2 * (S 1055 0) ∧ 0 ≤ (S 1046 0) ∧ (S 1046 0) + 2 * (S 1032 0) ≤ 500 ∧ sm_PD (S 1046 0) (S 1032 0) (S 1071 0) (S 1008 0) ∧ 0 ≤ (S 1071 0) * ((S 1008 0) + 1) ∧ (S 1071 0) * ((S 1008 0) + 1) ≤ 11557 ∧ 0 ≤ (639 : Int) ∧ ((639 : Int) = 639 ∨ (639 : Int) < (S 1046 0) + 2 * (S 1032 0)) ∧ 0 ≤ l4_8 ∧ (l4_8 < (S 1071 0) ∨ ((639 : Int) = 639 ∧ l4_8 < 128)) ∧ 0 ≤ l5_31 ∧ l5_31 ≤ (S 1008 0)) ∧ (∀ r51 : Int, sv_R r51 → (((639 : Int) = 639 → 635640 ≤ r51 ∧ r51 < 647340) ∧ (¬ (639 : Int) = 639 → 0 ≤ r51 ∧ r51 < 464520)) → (0 ≤ r51 ∧ r51 < 647800) ∧ (∀ r57 : Int, sv_R r57 → (r57 = 0 ∨ r57 = 1) → (((¬ r57 = (0 : Int)) → (∀ r62 : Int, sv_R r62 → (((639 : Int) = 639 → 635640 ≤ r62 ∧ r62 < 647340) ∧ (¬ (639 : Int) = 639 → 0 ≤ r62 ∧ r62 < 464520)) → (0 ≤ r62 ∧ r62 < 647800) ∧ (∀ r68 : Int, sv_R r68 → (r68 = (g30 68 r62) % 1024 ∧ 0 ≤ r68 ∧ r68 ≤ 1023) → (∀ r69 : Int, (0 ≤ r69 ∧ r69 ≤ (512 : Int)) → (((r69 = (0 : Int)) → (sv_R (l5_31 + (1 : Int))) ∧ ((0 ≤ (l5_31 + (1 : Int)) ∧ (l5_31 + (1 : Int)) ≤ (S 1008 0) + 1 ∧ sm_pt (g30 68) (g30 69) (g30 70) = sm_pt (S 68) (S 69) (S 70)) ∧ ((S 1008 0) + 1 - (l5_31 + (1 : Int))) < ((S 1008 0) + 1 - l5_31))) ∧ ((¬ (r69 = (0 : Int))) → (635639 ≤ p3 ∧ p3 < 647790) ∧ (∀ g72 : sv_S, (sm_pt (g72 68) (g72 69) (g72 70) = sm_pt (g30 68) (g30 69) (g30 70)) → (sv_R (l5_31 + (1 : Int))) ∧ ((0 ≤ (l5_31 + (1 : Int)) ∧ (l5_31 + (1 : Int)) ≤ (S 1008 0) + 1 ∧ sm_pt (g72 68) (g72 69) (g72 70) = sm_pt (S 68) (S 69) (S 70)) ∧ ((S 1008 0) + 1 - (l5_31 + (1 : Int))) < ((S 1008 0) + 1 - l5_31))))))))) ∧ ((¬ (¬ r57 = (0 : Int))) → (635639 ≤ p3 ∧ p3 < 647790) ∧ (∀ g81 : sv_S, (sm_pt (g81 68) (g81 69) (g81 70) = sm_pt (g30 68) (g30 69) (g30 70)) → (∀ r92 : Int, sv_R r92 → (((639 : Int) = 639 → 635640 ≤ r92 ∧ r92 < 647340) ∧ (¬ (639 : Int) = 639 → 0 ≤ r92 ∧ r92 < 464520)) → (0 ≤ r92 ∧ r92 < 647800) ∧ (∀ r98 : Int, sv_R r98 → (r98 = (g81 68 r92) % 1024 ∧ 0 ≤ r98 ∧ r98 ≤ 1023) → (∀ r99 : Int, (0 ≤ r99 ∧ r99 ≤ (512 : Int)) → (((r99 = (0 : Int)) → (sv_R (l5_31 + (1 : Int))) ∧ ((0 ≤ (l5_31 + (1 : Int)) ∧ (l5_31 + (1 : Int)) ≤ (S 1008 0) + 1 ∧ sm_pt (g81 68) (g81 69) (g81 70) = sm_pt (S 68) (S 69) (S 70)) ∧ ((S 1008 0) + 1 - (l5_31 + (1 : Int))) < ((S 1008 0) + 1 - l5_31))) ∧ ((¬ (r99 = (0 : Int))) → (∀ g101 : sv_S, (sm_pt (g101 68) (g101 69) (g101 70) = sm_pt (g81 68) (g81 69) (g81 70)) → (sv_R (l5_31 + (1 : Int))) ∧ ((0 ≤ (l5_31 + (1 : Int)) ∧ (l5_31 + (1 : Int)) ≤ (S 1008 0) + 1 ∧ sm_pt (g101 68) (g101 69) (g101 70) = sm_pt (S 68) (S 69) (S 70)) ∧ ((S 1008 0) + 1 - (l5_31 + (1 : Int))) < ((S 1008 0) + 1 - l5_31)))))))))))))) ∧ ((¬ (¬ r45 = (0 : Int))) → (sv_R (l5_31 + (1 : Int))) ∧ ((0 ≤ (l5_31 + (1 : Int)) ∧ (l5_31 + (1 : Int)) ≤ (S 1008 0) + 1 ∧ sm_pt (g30 68) (g30 69) (g30 70) = sm_pt (S 68) (S 69) (S 70)) ∧ ((S 1008 0) + 1 - (l5_31 + (1 : Int))) < ((S 1008 0) + 1 - l5_31))))))))))) ∧ ((¬ (¬ r29 = (0 : Int))) → (sv_R (l4_8 + (1 : Int))) ∧ ((0 ≤ (l4_8 + (1 : Int)) ∧ (l4_8 + (1 : Int)) ≤ (S 1071 0) ∧ sm_pt (g7 68) (g7 69) (g7 70) = sm_pt (S 68) (S 69) (S 70)) ∧ ((S 1071 0) - (l4_8 + (1 : Int))) < ((S 1071 0) - l4_8))))))))))))) := by
  intro p1
  intro p2
  intro p3
  intro S
  intro h1_
  intro h2_
  intro h3_
  intro h4_
  rintro ⟨h5_, ⟨h6_, ⟨h7_, ⟨h8_, ⟨h9_, ⟨h10_, ⟨h11_, ⟨h12_, ⟨h13_, ⟨h14_, ⟨h15_, ⟨h16_, ⟨h17_, ⟨h18_, ⟨h19_, ⟨h20_, ⟨h21_, ⟨h22_, ⟨h23_, ⟨h24_, ⟨h25_, ⟨h26_, h27_⟩⟩⟩⟩⟩⟩⟩⟩⟩⟩⟩⟩⟩⟩⟩⟩⟩⟩⟩⟩⟩⟩
  refine ⟨⟨h19_, ⟨h20_, ⟨h21_, ⟨h24_, ⟨h25_, ⟨h5_, ⟨h6_, ⟨h7_, ⟨h8_, ⟨h9_, ⟨h10_, ⟨h11_, ⟨h12_, ⟨h13_, ⟨h14_, ⟨h15_, ⟨h16_, (la_ownWays_0 h17_ h18_)⟩⟩⟩⟩⟩⟩⟩⟩⟩⟩⟩⟩⟩⟩⟩⟩⟩, ?_⟩
  intro g2
  intro _
  refine ⟨(la_ownWays_1 h5_), ?_⟩
  intro l4_8
  intro h28_
  intro g7
  rintro ⟨h29_, ⟨h30_, h31_⟩⟩
  refine ⟨(la_ownWays_2 h30_), ?_⟩
  intro h32_
  refine ⟨?_, ?_⟩
  · skip
    intro h33_
    refine ⟨(la_ownWays_3 h22_ h23_), ?_⟩
    intro r20
    intro h34_
    intro h35_
    refine ⟨(la_ownWays_4 h31_), ?_⟩
    intro h36_
    refine ⟨h31_, ?_⟩
    exact la_ownWays_5
  intro h37_
  refine ⟨(la_ownWays_3 h22_ h23_), ?_⟩
  intro h38_
  intro h39_
  refine ⟨(la_ownWays_6 h6_ h29_ h37_), ?_⟩
  intro r29
  intro h40_
  rintro ⟨h41_, h42_⟩
  refine ⟨?_, ?_⟩
  · skip
    intro h43_
    have h44_ := (h42_.resolve_left h43_)
    refine ⟨(la_ownWays_9 h7_ h31_), ?_⟩
    intro l5_31
    intro h45_
    intro g30
    rintro ⟨h46_, ⟨h47_, h48_⟩⟩
    refine ⟨(la_ownWays_10 h47_), ?_⟩
    intro h49_
    refine ⟨(la_ownWays_11 h6_ h29_ h37_ h48_), ?_⟩
    intro h50_
    refine ⟨(la_ownWays_12 h8_ h46_ h50_), ?_⟩
    intro r45
    intro h51_
    intro h52_
    refine ⟨?_, ?_⟩
    · skip
      intro h53_
      have h54_ := (h52_.resolve_left h53_)
      refine ⟨⟨h5_, ⟨h6_, ⟨h7_, ⟨h8_, ⟨h9_, ⟨h10_, ⟨h11_, ⟨h12_, ⟨h13_, ⟨h14_, ⟨h15_, ⟨h16_, (la_ownWays_13 h6_ h17_ h18_ h29_ h37_ h46_ h50_)⟩⟩⟩⟩⟩⟩⟩⟩⟩⟩⟩⟩, ?_⟩
      intro r51
      intro h55_
      rintro ⟨h56_, h57_⟩
      obtain ⟨h58_, h59_⟩ := (h56_ la_ownWays_14)
      refine ⟨(la_ownWays_16 h58_ h59_), ?_⟩
      intro r57
      intro h60_
      intro h61_
      refine ⟨?_, ?_⟩
      · skip
        intro h62_
        have h63_ := (h61_.resolve_left h62_)
        intro r62
        intro h64_
        rintro ⟨h65_, h66_⟩
        obtain ⟨h67_, h68_⟩ := (h65_ la_ownWays_14)
        refine ⟨(la_ownWays_16 h67_ h68_), ?_⟩
        intro r68
        intro h69_
        rintro ⟨h70_, ⟨h71_, h72_⟩⟩
        intro r69
        rintro ⟨h73_, h74_⟩
        refine ⟨(la_ownWays_17 h8_ h46_ h48_ h50_), ?_⟩
        intro h75_
        refine ⟨(la_ownWays_18 h26_ h27_), ?_⟩
        intro g72
        intro h76_
        refine ⟨(la_ownWays_19 h8_ h46_ h50_), ?_⟩
        refine ⟨(la_ownWays_20 h46_ h48_ h50_ h76_), ?_⟩
        exact la_ownWays_21
      intro h77_
      have h78_ := (h61_.resolve_right (la_ownWays_22 h77_))
      refine ⟨(la_ownWays_18 h26_ h27_), ?_⟩
      intro g81
      intro h79_
      intro r92
      intro h80_
      rintro ⟨h81_, h82_⟩
      obtain ⟨h83_, h84_⟩ := (h81_ la_ownWays_14)
      refine ⟨(la_ownWays_16 h83_ h84_), ?_⟩
      intro r98
      intro h85_
      rintro ⟨h86_, ⟨h87_, h88_⟩⟩
      intro r99
      rintro ⟨h89_, h90_⟩
      refine ⟨(la_ownWays_23 h8_ h46_ h48_ h50_ h79_), ?_⟩
      intro h91_
      intro g101
      intro h92_
      refine ⟨(la_ownWays_19 h8_ h46_ h50_), ?_⟩
      refine ⟨(la_ownWays_24 h46_ h48_ h50_ h79_ h92_), ?_⟩
      exact la_ownWays_21
    intro h93_
    have h94_ := (h52_.resolve_right (la_ownWays_22 h93_))
    refine ⟨(la_ownWays_19 h8_ h46_ h50_), ?_⟩
    refine ⟨(la_ownWays_25 h46_ h48_ h50_), ?_⟩
    exact la_ownWays_21
  intro h95_
  have h96_ := (h42_.resolve_right (la_ownWays_22 h95_))
  refine ⟨(la_ownWays_26 h6_ h29_ h37_), ?_⟩
  refine ⟨(la_ownWays_27 h29_ h31_ h37_), ?_⟩
  exact la_ownWays_28
set_option maxRecDepth 8000 in
set_option maxHeartbeats 2000000 in
theorem t_ownWays : ∀ (p1 : Int) (p2 : Int) (p3 : Int) (S : sv_S), sm_ok S → sv_R p1 → sv_R p2 → sv_R p3 → (29 ≤ (S 1071 0) ∧ (S 1071 0) ≤ 127 ∧ 31 ≤ (S 1008 0) ∧ (S 1008 0) ≤ 90 ∧ 1 ≤ (S 1032 0) ∧ (S 1032 0) ≤ 11 ∧ 0 ≤ (S 1055 0) ∧ (S 1055 0) ≤ 19 ∧ (S 1071 0) = 29 + 6 * ((S 1032 0) - 1) + 2 * (S 1055 0) ∧ 0 ≤ (S 1046 0) ∧ (S 1046 0) + 2 * (S 1032 0) ≤ 500 ∧ sm_PD (S 1046 0) (S 1032 0) (S 1071 0) (S 1008 0) ∧ 0 ≤ (S 1071 0) * ((S 1008 0) + 1) ∧ (S 1071 0) * ((S 1008 0) + 1) ≤ 11557 ∧ 31 ≤ (S 1007 0) ∧ (S 1007 0) ≤ 400 ∧ sm_LN (S 4) 400 (S 1007 0) ∧ 0 ≤ p1 ∧ p1 < 647800 ∧ 0 ≤ p2 ∧ p2 < 647800 ∧ 635639 ≤ p3 ∧ p3 < 647790) → sv_T sm_XS sm_cs sm_L sm_sh 4 (q_ownWays p1 p2 p3 S) 290 0 (lv_args 0 [.ref 0, sv_I p1, sv_I p2, sv_I p3]) [] S := by
  intro p1 p2 p3 S hok hp1 hp2 hp3 hpre
  have h := f_ownWays p1 p2 p3 S hok hp1 hp2 hp3 hpre
  have hM := sm_h290
  show sv_T sm_XS sm_cs sm_L sm_sh 4 (q_ownWays p1 p2 p3 S) 290 0 [(0, .ref 0), (1, sv_I p1), (2, sv_I p2), (3, sv_I p3)] [] S
  refine sv_aload_n hM dX12_ownWays_0 rfl rfl ?_
  refine sv_iload_n hM dX12_ownWays_1 rfl rfl ?_
  obtain ⟨o1, h⟩ := h
  refine sv_callV hM dX12_ownWays_2 sm_iv_1147 (by decide) (sm_a0 _) rfl rfl (Nat.le_of_ble_eq_true rfl) sm_h245 (Nat.le_of_ble_eq_true rfl) (Nat.le_of_ble_eq_true rfl) (F' := 3) (Nat.le_of_ble_eq_true rfl) rfl (t_keysOf p2 S hok hp2 o1) (fun v S1 hq => ?_)
  obtain ⟨rfl, ok3, md4, hpo5⟩ := hq
  obtain ⟨g2, rfl⟩ : ∃ g, S1 = sv_sts S [1143, 1144, 5, 1011] g := ⟨_, md4.eq⟩
  show sv_T sm_XS sm_cs sm_L sm_sh 4 (q_ownWays p1 p2 p3 S) 290 5 [(0, .ref 0), (1, sv_I p1), (2, sv_I p2), (3, sv_I p3)] [] (sv_sts S [1143, 1144, 5, 1011] g2)
  have md6 : sv_mod [68, 69, 70, 1143, 1144, 5, 1011] S (sv_sts S [1143, 1144, 5, 1011] g2) := sv_mod.sts sv_mod.rf (by decide)
  have h := h g2 hpo5
  refine sv_iconst (d := (0 : Int)) hM dX12_ownWays_5 rfl rfl ?_
  refine sv_istore hM dX12_ownWays_6 (by decide) rfl ?_
  show sv_T sm_XS sm_cs sm_L sm_sh 4 (q_ownWays p1 p2 p3 S) 290 8 [(0, .ref 0), (1, sv_I p1), (2, sv_I p2), (3, sv_I p3), (4, sv_I (0 : Int))] [] (sv_sts S [1143, 1144, 5, 1011] g2)
  obtain ⟨hin10, h⟩ := h
  have hJ : ∀ a : Int × sv_S, (sv_R a.1 ∧ sm_ok (sv_sts (sv_sts S [1143, 1144, 5, 1011] g2) [68, 69, 70] a.2) ∧ (0 ≤ a.1 ∧ a.1 ≤ (S 1071 0) ∧ sm_pt (a.2 68) (a.2 69) (a.2 70) = sm_pt (S 68) (S 69) (S 70))) → sv_T sm_XS sm_cs sm_L sm_sh 4 (q_ownWays p1 p2 p3 S) 290 8 [(0, .ref 0), (1, sv_I p1), (2, sv_I p2), (3, sv_I p3), (4, sv_I a.1)] [] (sv_sts (sv_sts S [1143, 1144, 5, 1011] g2) [68, 69, 70] a.2) := by
    refine sv_loop (α := Int × sv_S) (fun a => sv_R a.1 ∧ sm_ok (sv_sts (sv_sts S [1143, 1144, 5, 1011] g2) [68, 69, 70] a.2) ∧ (0 ≤ a.1 ∧ a.1 ≤ (S 1071 0) ∧ sm_pt (a.2 68) (a.2 69) (a.2 70) = sm_pt (S 68) (S 69) (S 70))) (fun a => (S 1071 0) - a.1) (fun a => sv_T sm_XS sm_cs sm_L sm_sh 4 (q_ownWays p1 p2 p3 S) 290 8 [(0, .ref 0), (1, sv_I p1), (2, sv_I p2), (3, sv_I p3), (4, sv_I a.1)] [] (sv_sts (sv_sts S [1143, 1144, 5, 1011] g2) [68, 69, 70] a.2)) (fun a q => (h a.1 q.1 a.2 q.2.2).1) (fun a q ih9 => ?_)
    obtain ⟨l4_8, g7⟩ := a
    obtain ⟨hl4_8, ok11, hin10i⟩ := q
    have h := (h l4_8 hl4_8 g7 hin10i).2
    show sv_T sm_XS sm_cs sm_L sm_sh 4 (q_ownWays p1 p2 p3 S) 290 8 [(0, .ref 0), (1, sv_I p1), (2, sv_I p2), (3, sv_I p3), (4, sv_I l4_8)] [] (sv_sts (sv_sts S [1143, 1144, 5, 1011] g2) [68, 69, 70] g7)
    have md12 : sv_mod [68, 69, 70, 1143, 1144, 5, 1011] S (sv_sts (sv_sts S [1143, 1144, 5, 1011] g2) [68, 69, 70] g7) := sv_mod.sts md6 (by decide)
    have md13 : sv_mod [68, 69, 70] (sv_sts S [1143, 1144, 5, 1011] g2) (sv_sts (sv_sts S [1143, 1144, 5, 1011] g2) [68, 69, 70] g7) := sv_mod.sts sv_mod.rf (by decide)
    refine sv_iload hM dX12_ownWays_8 rfl rfl ?_
    refine sv_aload_n hM dX12_ownWays_10 rfl rfl ?_
    have k14 : sv_R (S 1071 0) := sm_okI ok11 sm_r1071 0
    have h := h k14
    refine sv_getI hM dX12_ownWays_11 sm_fl_765 (sm_a0 _) sm_k71 rfl (x := (S 1071 0)) rfl ?_
    refine sv_icmp_ge hM dX12_ownWays_14 hl4_8 k14 (t := 129) rfl rfl (fun hc => ?_) (fun hc => ?_)
    · have h := h.1 (hc)
      refine sv_aload_n hM dX12_ownWays_129 rfl rfl ?_
      refine sv_iload_n hM dX12_ownWays_130 rfl rfl ?_
      obtain ⟨o15, h⟩ := h
      refine sv_callV hM dX12_ownWays_131 sm_iv_1059 (by decide) (sm_a0 _) rfl rfl (Nat.le_of_ble_eq_true rfl) sm_h210 (Nat.le_of_ble_eq_true rfl) (Nat.le_of_ble_eq_true rfl) (F' := 1) (Nat.le_of_ble_eq_true rfl) rfl (t_plainly p1 (sv_sts (sv_sts S [1143, 1144, 5, 1011] g2) [68, 69, 70] g7) ok11 hp1 o15) (fun v S1 hq => ?_)
      obtain ⟨r20, rfl, hr20, ok17, md18, hpo19⟩ := hq
      obtain rfl : (sv_sts (sv_sts S [1143, 1144, 5, 1011] g2) [68, 69, 70] g7) = S1 := (funext fun j => md18 j (by intro q; cases q)).symm
      show sv_T sm_XS sm_cs sm_L sm_sh 4 (q_ownWays p1 p2 p3 S) 290 134 [(0, .ref 0), (1, sv_I p1), (2, sv_I p2), (3, sv_I p3), (4, sv_I l4_8)] [sv_I r20] (sv_sts (sv_sts S [1143, 1144, 5, 1011] g2) [68, 69, 70] g7)
      have h := h r20 hr20 hpo19
      refine sv_cond_eq hM dX12_ownWays_134 hr20 (t := 141) rfl rfl (fun hc => ?_) (fun hc => ?_)
      · have h := h.1 (hc)
        refine sv_iconst (d := (0 : Int)) hM dX12_ownWays_141 rfl rfl ?_
        exact sv_iret hM dX12_ownWays_142 rfl (sv_nz (⟨by decide, by decide⟩ : 0 ≤ (0 : Int) ∧ (0 : Int) ≤ 1)) ⟨(0 : Int), rfl, sv_R01 (⟨by decide, by decide⟩ : 0 ≤ (0 : Int) ∧ (0 : Int) ≤ 1), ok17, md12, h⟩
      · have h := h.2 (hc)
        refine sv_iconst (d := (1 : Int)) hM dX12_ownWays_137 rfl rfl ?_
        refine sv_goto hM dX12_ownWays_138 (pc' := 142) rfl ?_
        exact sv_iret hM dX12_ownWays_142 rfl (sv_nz (⟨by decide, by decide⟩ : 0 ≤ (1 : Int) ∧ (1 : Int) ≤ 1)) ⟨(1 : Int), rfl, sv_R01 (⟨by decide, by decide⟩ : 0 ≤ (1 : Int) ∧ (1 : Int) ≤ 1), ok17, md12, h⟩
    · have h := h.2 (hc)
      refine sv_aload_n hM dX12_ownWays_17 rfl rfl ?_
      refine sv_getA hM dX12_ownWays_18 sm_fl_220 (sm_a0 _) sm_k117 rfl ?_
      refine sv_iload_n hM dX12_ownWays_21 rfl rfl ?_
      obtain ⟨o21, h⟩ := h
      have k22 : sv_RL (g7 69 p1) := sm_okJ ok11 sm_r69 p1
      have h := h k22
      refine sv_lald hM dX12_ownWays_22 (sm_a69 _) (by decide) o21.1 o21.2 rfl (x := (g7 69 p1)) rfl ?_
      refine sv_aload_n hM dX12_ownWays_23 rfl rfl ?_
      refine sv_getA hM dX12_ownWays_24 sm_fl_223 (sm_a0 _) sm_k118 rfl ?_
      refine sv_iload_n hM dX12_ownWays_27 rfl rfl ?_
      have k23 : sv_RL (g7 70 p1) := sm_okJ ok11 sm_r70 p1
      have h := h k23
      refine sv_lald hM dX12_ownWays_28 (sm_a70 _) (by decide) o21.1 o21.2 rfl (x := (g7 70 p1)) rfl ?_
      refine sv_iload hM dX12_ownWays_29 rfl rfl ?_
      obtain ⟨o24, h⟩ := h
      refine sv_callS hM dX12_ownWays_31 sm_iv_1125 (Nat.le_of_ble_eq_true rfl) rfl rfl (Nat.le_of_ble_eq_true rfl) sm_h217 (Nat.le_of_ble_eq_true rfl) (Nat.le_of_ble_eq_true rfl) (F' := 0) (Nat.le_of_ble_eq_true rfl) rfl (t_isIn (g7 69 p1) (g7 70 p1) l4_8 (sv_sts (sv_sts S [1143, 1144, 5, 1011] g2) [68, 69, 70] g7) ok11 k22 k23 hl4_8 o24) (fun v S1 hq => ?_)
      obtain ⟨r29, rfl, hr29, ok26, md27, hpo28⟩ := hq
      obtain rfl : (sv_sts (sv_sts S [1143, 1144, 5, 1011] g2) [68, 69, 70] g7) = S1 := (funext fun j => md27 j (by intro q; cases q)).symm
      show sv_T sm_XS sm_cs sm_L sm_sh 4 (q_ownWays p1 p2 p3 S) 290 34 [(0, .ref 0), (1, sv_I p1), (2, sv_I p2), (3, sv_I p3), (4, sv_I l4_8)] [sv_I r29] (sv_sts (sv_sts S [1143, 1144, 5, 1011] g2) [68, 69, 70] g7)
      have h := h r29 hr29 hpo28
      refine sv_cond_ne hM dX12_ownWays_34 hr29 (t := 40) rfl rfl (fun hc => ?_) (fun hc => ?_)
      · have h := h.1 (hc)
        refine sv_iconst (d := (0 : Int)) hM dX12_ownWays_40 rfl rfl ?_
        refine sv_istore hM dX12_ownWays_41 (by decide) rfl ?_
        show sv_T sm_XS sm_cs sm_L sm_sh 4 (q_ownWays p1 p2 p3 S) 290 43 [(0, .ref 0), (1, sv_I p1), (2, sv_I p2), (3, sv_I p3), (4, sv_I l4_8), (5, sv_I (0 : Int))] [] (sv_sts (sv_sts S [1143, 1144, 5, 1011] g2) [68, 69, 70] g7)
        obtain ⟨hin33, h⟩ := h
        have hJ : ∀ a : Int × sv_S, (sv_R a.1 ∧ sm_ok (sv_sts (sv_sts (sv_sts S [1143, 1144, 5, 1011] g2) [68, 69, 70] g7) [68, 69, 70] a.2) ∧ (0 ≤ a.1 ∧ a.1 ≤ (S 1008 0) + 1 ∧ sm_pt (a.2 68) (a.2 69) (a.2 70) = sm_pt (S 68) (S 69) (S 70))) → sv_T sm_XS sm_cs sm_L sm_sh 4 (q_ownWays p1 p2 p3 S) 290 43 [(0, .ref 0), (1, sv_I p1), (2, sv_I p2), (3, sv_I p3), (4, sv_I l4_8), (5, sv_I a.1)] [] (sv_sts (sv_sts (sv_sts S [1143, 1144, 5, 1011] g2) [68, 69, 70] g7) [68, 69, 70] a.2) := by
          refine sv_loop (α := Int × sv_S) (fun a => sv_R a.1 ∧ sm_ok (sv_sts (sv_sts (sv_sts S [1143, 1144, 5, 1011] g2) [68, 69, 70] g7) [68, 69, 70] a.2) ∧ (0 ≤ a.1 ∧ a.1 ≤ (S 1008 0) + 1 ∧ sm_pt (a.2 68) (a.2 69) (a.2 70) = sm_pt (S 68) (S 69) (S 70))) (fun a => (S 1008 0) + 1 - a.1) (fun a => sv_T sm_XS sm_cs sm_L sm_sh 4 (q_ownWays p1 p2 p3 S) 290 43 [(0, .ref 0), (1, sv_I p1), (2, sv_I p2), (3, sv_I p3), (4, sv_I l4_8), (5, sv_I a.1)] [] (sv_sts (sv_sts (sv_sts S [1143, 1144, 5, 1011] g2) [68, 69, 70] g7) [68, 69, 70] a.2)) (fun a q => (h a.1 q.1 a.2 q.2.2).1) (fun a q ih32 => ?_)
          obtain ⟨l5_31, g30⟩ := a
          obtain ⟨hl5_31, ok34, hin33i⟩ := q
          have h := (h l5_31 hl5_31 g30 hin33i).2
          show sv_T sm_XS sm_cs sm_L sm_sh 4 (q_ownWays p1 p2 p3 S) 290 43 [(0, .ref 0), (1, sv_I p1), (2, sv_I p2), (3, sv_I p3), (4, sv_I l4_8), (5, sv_I l5_31)] [] (sv_sts (sv_sts (sv_sts S [1143, 1144, 5, 1011] g2) [68, 69, 70] g7) [68, 69, 70] g30)
          have md35 : sv_mod [68, 69, 70, 1143, 1144, 5, 1011] S (sv_sts (sv_sts (sv_sts S [1143, 1144, 5, 1011] g2) [68, 69, 70] g7) [68, 69, 70] g30) := sv_mod.sts md12 (by decide)
          have md36 : sv_mod [68, 69, 70] (sv_sts S [1143, 1144, 5, 1011] g2) (sv_sts (sv_sts (sv_sts S [1143, 1144, 5, 1011] g2) [68, 69, 70] g7) [68, 69, 70] g30) := sv_mod.sts md13 (by decide)
          have md37 : sv_mod [68, 69, 70] (sv_sts (sv_sts S [1143, 1144, 5, 1011] g2) [68, 69, 70] g7) (sv_sts (sv_sts (sv_sts S [1143, 1144, 5, 1011] g2) [68, 69, 70] g7) [68, 69, 70] g30) := sv_mod.sts sv_mod.rf (by decide)
          refine sv_iload hM dX12_ownWays_43 rfl rfl ?_
          refine sv_aload_n hM dX12_ownWays_45 rfl rfl ?_
          have k38 : sv_R (S 1008 0) := sm_okI ok34 sm_r1008 0
          have h := h k38
          refine sv_getI hM dX12_ownWays_46 sm_fl_762 (sm_a0 _) sm_k8 rfl (x := (S 1008 0)) rfl ?_
          refine sv_icmp_gt hM dX12_ownWays_49 hl5_31 k38 (t := 123) rfl rfl (fun hc => ?_) (fun hc => ?_)
          · have h := h.1 (hc)
            refine sv_iinc (d := (1 : Int)) hM dX12_ownWays_123 rfl (by decide) rfl rfl ?_
            show sv_T sm_XS sm_cs sm_L sm_sh 4 (q_ownWays p1 p2 p3 S) 290 126 [(0, .ref 0), (1, sv_I p1), (2, sv_I p2), (3, sv_I p3), (4, sv_I (l4_8 + (1 : Int))), (5, sv_I l5_31)] [] (sv_sts (sv_sts (sv_sts S [1143, 1144, 5, 1011] g2) [68, 69, 70] g7) [68, 69, 70] g30)
            refine sv_goto hM dX12_ownWays_126 (pc' := 8) rfl ?_
            obtain ⟨o39, h⟩ := h
            have eS := sv_mod.eq md36
            have hb := ih9 ((l4_8 + (1 : Int)), (sv_sts (sv_sts (sv_sts S [1143, 1144, 5, 1011] g2) [68, 69, 70] g7) [68, 69, 70] g30)) ⟨o39, (by rw [← eS]; exact ok34), h.1⟩ h.2
            have hb : sv_T sm_XS sm_cs sm_L sm_sh 4 (q_ownWays p1 p2 p3 S) 290 8 [(0, .ref 0), (1, sv_I p1), (2, sv_I p2), (3, sv_I p3), (4, sv_I (l4_8 + (1 : Int)))] [] (sv_sts (sv_sts (sv_sts S [1143, 1144, 5, 1011] g2) [68, 69, 70] g7) [68, 69, 70] g30) := Eq.mpr (congrArg (fun Z => sv_T sm_XS sm_cs sm_L sm_sh 4 (q_ownWays p1 p2 p3 S) 290 8 [(0, .ref 0), (1, sv_I p1), (2, sv_I p2), (3, sv_I p3), (4, sv_I (l4_8 + (1 : Int)))] [] Z) eS) hb
            exact sv_less (lv := [(0, .ref 0), (1, sv_I p1), (2, sv_I p2), (3, sv_I p3), (4, sv_I (l4_8 + (1 : Int)))]) (sv_Sub_cons rfl (sv_Sub_cons rfl (sv_Sub_cons rfl (sv_Sub_cons rfl (sv_Sub_cons rfl sv_Sub_nil))))) hb
          · have h := h.2 (hc)
            refine sv_aload_n hM dX12_ownWays_52 rfl rfl ?_
            refine sv_iload hM dX12_ownWays_53 rfl rfl ?_
            obtain ⟨o40, h⟩ := h
            refine sv_callV hM dX12_ownWays_55 sm_iv_1153 (by decide) (sm_a0 _) rfl rfl (Nat.le_of_ble_eq_true rfl) sm_h242 (Nat.le_of_ble_eq_true rfl) (Nat.le_of_ble_eq_true rfl) (F' := 1) (Nat.le_of_ble_eq_true rfl) rfl (t_hasKey l5_31 (sv_sts (sv_sts (sv_sts S [1143, 1144, 5, 1011] g2) [68, 69, 70] g7) [68, 69, 70] g30) ok34 hl5_31 o40) (fun v S1 hq => ?_)
            obtain ⟨r45, rfl, hr45, ok42, md43, hpo44⟩ := hq
            obtain rfl : (sv_sts (sv_sts (sv_sts S [1143, 1144, 5, 1011] g2) [68, 69, 70] g7) [68, 69, 70] g30) = S1 := (funext fun j => md43 j (by intro q; cases q)).symm
            show sv_T sm_XS sm_cs sm_L sm_sh 4 (q_ownWays p1 p2 p3 S) 290 58 [(0, .ref 0), (1, sv_I p1), (2, sv_I p2), (3, sv_I p3), (4, sv_I l4_8), (5, sv_I l5_31)] [sv_I r45] (sv_sts (sv_sts (sv_sts S [1143, 1144, 5, 1011] g2) [68, 69, 70] g7) [68, 69, 70] g30)
            have h := h r45 hr45 hpo44
            refine sv_cond_ne hM dX12_ownWays_58 hr45 (t := 64) rfl rfl (fun hc => ?_) (fun hc => ?_)
            · have h := h.1 (hc)
              refine sv_aload_n hM dX12_ownWays_64 rfl rfl ?_
              refine sv_aload_n hM dX12_ownWays_65 rfl rfl ?_
              refine sv_sipush (d := (639 : Int)) hM dX12_ownWays_66 rfl rfl ?_
              refine sv_iload hM dX12_ownWays_69 rfl rfl ?_
              refine sv_iload hM dX12_ownWays_71 rfl rfl ?_
              obtain ⟨o46, h⟩ := h
              refine sv_callV hM dX12_ownWays_73 sm_iv_1163 (by decide) (sm_a0 _) rfl rfl (Nat.le_of_ble_eq_true rfl) sm_h225 (Nat.le_of_ble_eq_true rfl) (Nat.le_of_ble_eq_true rfl) (F' := 1) (Nat.le_of_ble_eq_true rfl) rfl (t_field (639 : Int) l4_8 l5_31 (sv_sts (sv_sts (sv_sts S [1143, 1144, 5, 1011] g2) [68, 69, 70] g7) [68, 69, 70] g30) ok42 (⟨by decide, by decide⟩ : sv_R (639 : Int)) hl4_8 hl5_31 o46) (fun v S1 hq => ?_)
              obtain ⟨r51, rfl, hr51, ok48, md49, hpo50⟩ := hq
              obtain rfl : (sv_sts (sv_sts (sv_sts S [1143, 1144, 5, 1011] g2) [68, 69, 70] g7) [68, 69, 70] g30) = S1 := (funext fun j => md49 j (by intro q; cases q)).symm
              show sv_T sm_XS sm_cs sm_L sm_sh 4 (q_ownWays p1 p2 p3 S) 290 76 [(0, .ref 0), (1, sv_I p1), (2, sv_I p2), (3, sv_I p3), (4, sv_I l4_8), (5, sv_I l5_31)] [sv_I r51, .ref 0] (sv_sts (sv_sts (sv_sts S [1143, 1144, 5, 1011] g2) [68, 69, 70] g7) [68, 69, 70] g30)
              have h := h r51 hr51 hpo50
              obtain ⟨o52, h⟩ := h
              refine sv_callV hM dX12_ownWays_76 sm_iv_1231 (by decide) (sm_a0 _) rfl rfl (Nat.le_of_ble_eq_true rfl) sm_h211 (Nat.le_of_ble_eq_true rfl) (Nat.le_of_ble_eq_true rfl) (F' := 2) (Nat.le_of_ble_eq_true rfl) rfl (t_isEmpty r51 (sv_sts (sv_sts (sv_sts S [1143, 1144, 5, 1011] g2) [68, 69, 70] g7) [68, 69, 70] g30) ok48 hr51 o52) (fun v S1 hq => ?_)
              obtain ⟨r57, rfl, hr57, ok54, md55, hpo56⟩ := hq
              obtain rfl : (sv_sts (sv_sts (sv_sts S [1143, 1144, 5, 1011] g2) [68, 69, 70] g7) [68, 69, 70] g30) = S1 := (funext fun j => md55 j (by intro q; cases q)).symm
              show sv_T sm_XS sm_cs sm_L sm_sh 4 (q_ownWays p1 p2 p3 S) 290 79 [(0, .ref 0), (1, sv_I p1), (2, sv_I p2), (3, sv_I p3), (4, sv_I l4_8), (5, sv_I l5_31)] [sv_I r57] (sv_sts (sv_sts (sv_sts S [1143, 1144, 5, 1011] g2) [68, 69, 70] g7) [68, 69, 70] g30)
              have h := h r57 hr57 hpo56
              refine sv_cond_ne hM dX12_ownWays_79 hr57 (t := 88) rfl rfl (fun hc => ?_) (fun hc => ?_)
              · have h := h.1 (hc)
                refine sv_aload_n hM dX12_ownWays_88 rfl rfl ?_
                refine sv_aload_n hM dX12_ownWays_89 rfl rfl ?_
                refine sv_sipush (d := (639 : Int)) hM dX12_ownWays_90 rfl rfl ?_
                refine sv_iload hM dX12_ownWays_93 rfl rfl ?_
                refine sv_iload hM dX12_ownWays_95 rfl rfl ?_
                refine sv_callV hM dX12_ownWays_97 sm_iv_1163 (by decide) (sm_a0 _) rfl rfl (Nat.le_of_ble_eq_true rfl) sm_h225 (Nat.le_of_ble_eq_true rfl) (Nat.le_of_ble_eq_true rfl) (F' := 1) (Nat.le_of_ble_eq_true rfl) rfl (t_field (639 : Int) l4_8 l5_31 (sv_sts (sv_sts (sv_sts S [1143, 1144, 5, 1011] g2) [68, 69, 70] g7) [68, 69, 70] g30) ok54 (⟨by decide, by decide⟩ : sv_R (639 : Int)) hl4_8 hl5_31 o46) (fun v S1 hq => ?_)
                obtain ⟨r62, rfl, hr62, ok59, md60, hpo61⟩ := hq
                obtain rfl : (sv_sts (sv_sts (sv_sts S [1143, 1144, 5, 1011] g2) [68, 69, 70] g7) [68, 69, 70] g30) = S1 := (funext fun j => md60 j (by intro q; cases q)).symm
                show sv_T sm_XS sm_cs sm_L sm_sh 4 (q_ownWays p1 p2 p3 S) 290 100 [(0, .ref 0), (1, sv_I p1), (2, sv_I p2), (3, sv_I p3), (4, sv_I l4_8), (5, sv_I l5_31)] [sv_I r62, .ref 0] (sv_sts (sv_sts (sv_sts S [1143, 1144, 5, 1011] g2) [68, 69, 70] g7) [68, 69, 70] g30)
                have h := h r62 hr62 hpo61
                obtain ⟨o63, h⟩ := h
                refine sv_callV hM dX12_ownWays_100 sm_iv_1047 (by decide) (sm_a0 _) rfl rfl (Nat.le_of_ble_eq_true rfl) sm_h202 (Nat.le_of_ble_eq_true rfl) (Nat.le_of_ble_eq_true rfl) (F' := 0) (Nat.le_of_ble_eq_true rfl) rfl (t_has r62 (sv_sts (sv_sts (sv_sts S [1143, 1144, 5, 1011] g2) [68, 69, 70] g7) [68, 69, 70] g30) ok59 hr62 o63) (fun v S1 hq => ?_)
                obtain ⟨r68, rfl, hr68, ok65, md66, hpo67⟩ := hq
                obtain rfl : (sv_sts (sv_sts (sv_sts S [1143, 1144, 5, 1011] g2) [68, 69, 70] g7) [68, 69, 70] g30) = S1 := (funext fun j => md66 j (by intro q; cases q)).symm
                show sv_T sm_XS sm_cs sm_L sm_sh 4 (q_ownWays p1 p2 p3 S) 290 103 [(0, .ref 0), (1, sv_I p1), (2, sv_I p2), (3, sv_I p3), (4, sv_I l4_8), (5, sv_I l5_31)] [sv_I r68] (sv_sts (sv_sts (sv_sts S [1143, 1144, 5, 1011] g2) [68, 69, 70] g7) [68, 69, 70] g30)
                have h := h r68 hr68 hpo67
                refine sv_sipush (d := (512 : Int)) hM dX12_ownWays_103 rfl rfl ?_
                refine sv_iand hM dX12_ownWays_106 ⟨by decide, by decide⟩ rfl (fun r69 hr69 => ?_)
                have h := h r69 hr69
                refine sv_cond_eq hM dX12_ownWays_107 (⟨by omega, by omega⟩ : sv_R r69) (t := 117) rfl rfl (fun hc => ?_) (fun hc => ?_)
                · have h := h.1 (hc)
                  refine sv_iinc (d := (1 : Int)) hM dX12_ownWays_117 rfl (by decide) rfl rfl ?_
                  show sv_T sm_XS sm_cs sm_L sm_sh 4 (q_ownWays p1 p2 p3 S) 290 120 [(0, .ref 0), (1, sv_I p1), (2, sv_I p2), (3, sv_I p3), (4, sv_I l4_8), (5, sv_I (l5_31 + (1 : Int)))] [] (sv_sts (sv_sts (sv_sts S [1143, 1144, 5, 1011] g2) [68, 69, 70] g7) [68, 69, 70] g30)
                  refine sv_goto hM dX12_ownWays_120 (pc' := 43) rfl ?_
                  obtain ⟨o70, h⟩ := h
                  have eS := sv_mod.eq md37
                  have hb := ih32 ((l5_31 + (1 : Int)), (sv_sts (sv_sts (sv_sts S [1143, 1144, 5, 1011] g2) [68, 69, 70] g7) [68, 69, 70] g30)) ⟨o70, (by rw [← eS]; exact ok65), h.1⟩ h.2
                  have hb : sv_T sm_XS sm_cs sm_L sm_sh 4 (q_ownWays p1 p2 p3 S) 290 43 [(0, .ref 0), (1, sv_I p1), (2, sv_I p2), (3, sv_I p3), (4, sv_I l4_8), (5, sv_I (l5_31 + (1 : Int)))] [] (sv_sts (sv_sts (sv_sts S [1143, 1144, 5, 1011] g2) [68, 69, 70] g7) [68, 69, 70] g30) := Eq.mpr (congrArg (fun Z => sv_T sm_XS sm_cs sm_L sm_sh 4 (q_ownWays p1 p2 p3 S) 290 43 [(0, .ref 0), (1, sv_I p1), (2, sv_I p2), (3, sv_I p3), (4, sv_I l4_8), (5, sv_I (l5_31 + (1 : Int)))] [] Z) eS) hb
                  exact sv_less (lv := [(0, .ref 0), (1, sv_I p1), (2, sv_I p2), (3, sv_I p3), (4, sv_I l4_8), (5, sv_I (l5_31 + (1 : Int)))]) (sv_Sub_cons rfl (sv_Sub_cons rfl (sv_Sub_cons rfl (sv_Sub_cons rfl (sv_Sub_cons rfl (sv_Sub_cons rfl sv_Sub_nil)))))) hb
                · have h := h.2 (hc)
                  refine sv_aload_n hM dX12_ownWays_110 rfl rfl ?_
                  refine sv_iload_n hM dX12_ownWays_111 rfl rfl ?_
                  refine sv_bipush (d := (8 : Int)) hM dX12_ownWays_112 rfl rfl ?_
                  obtain ⟨o71, h⟩ := h
                  refine sv_callV hM dX12_ownWays_114 sm_iv_1072 (by decide) (sm_a0 _) rfl rfl (Nat.le_of_ble_eq_true rfl) sm_h213 (Nat.le_of_ble_eq_true rfl) (Nat.le_of_ble_eq_true rfl) (F' := 2) (Nat.le_of_ble_eq_true rfl) rfl (t_addSort p3 (8 : Int) (sv_sts (sv_sts (sv_sts S [1143, 1144, 5, 1011] g2) [68, 69, 70] g7) [68, 69, 70] g30) ok65 hp3 (⟨by decide, by decide⟩ : sv_R (8 : Int)) o71) (fun v S1 hq => ?_)
                  obtain ⟨rfl, ok73, md74, hpo75⟩ := hq
                  obtain ⟨g72, rfl⟩ : ∃ g, S1 = sv_sts (sv_sts (sv_sts (sv_sts S [1143, 1144, 5, 1011] g2) [68, 69, 70] g7) [68, 69, 70] g30) [68, 69, 70] g := ⟨_, md74.eq⟩
                  show sv_T sm_XS sm_cs sm_L sm_sh 4 (q_ownWays p1 p2 p3 S) 290 117 [(0, .ref 0), (1, sv_I p1), (2, sv_I p2), (3, sv_I p3), (4, sv_I l4_8), (5, sv_I l5_31)] [] (sv_sts (sv_sts (sv_sts (sv_sts S [1143, 1144, 5, 1011] g2) [68, 69, 70] g7) [68, 69, 70] g30) [68, 69, 70] g72)
                  have md76 : sv_mod [68, 69, 70, 1143, 1144, 5, 1011] S (sv_sts (sv_sts (sv_sts (sv_sts S [1143, 1144, 5, 1011] g2) [68, 69, 70] g7) [68, 69, 70] g30) [68, 69, 70] g72) := sv_mod.sts md35 (by decide)
                  have md77 : sv_mod [68, 69, 70] (sv_sts S [1143, 1144, 5, 1011] g2) (sv_sts (sv_sts (sv_sts (sv_sts S [1143, 1144, 5, 1011] g2) [68, 69, 70] g7) [68, 69, 70] g30) [68, 69, 70] g72) := sv_mod.sts md36 (by decide)
                  have md78 : sv_mod [68, 69, 70] (sv_sts (sv_sts S [1143, 1144, 5, 1011] g2) [68, 69, 70] g7) (sv_sts (sv_sts (sv_sts (sv_sts S [1143, 1144, 5, 1011] g2) [68, 69, 70] g7) [68, 69, 70] g30) [68, 69, 70] g72) := sv_mod.sts md37 (by decide)
                  have h := h g72 hpo75
                  refine sv_iinc (d := (1 : Int)) hM dX12_ownWays_117 rfl (by decide) rfl rfl ?_
                  show sv_T sm_XS sm_cs sm_L sm_sh 4 (q_ownWays p1 p2 p3 S) 290 120 [(0, .ref 0), (1, sv_I p1), (2, sv_I p2), (3, sv_I p3), (4, sv_I l4_8), (5, sv_I (l5_31 + (1 : Int)))] [] (sv_sts (sv_sts (sv_sts (sv_sts S [1143, 1144, 5, 1011] g2) [68, 69, 70] g7) [68, 69, 70] g30) [68, 69, 70] g72)
                  refine sv_goto hM dX12_ownWays_120 (pc' := 43) rfl ?_
                  obtain ⟨o79, h⟩ := h
                  have eS := sv_mod.eq md78
                  have hb := ih32 ((l5_31 + (1 : Int)), (sv_sts (sv_sts (sv_sts (sv_sts S [1143, 1144, 5, 1011] g2) [68, 69, 70] g7) [68, 69, 70] g30) [68, 69, 70] g72)) ⟨o79, (by rw [← eS]; exact ok73), h.1⟩ h.2
                  have hb : sv_T sm_XS sm_cs sm_L sm_sh 4 (q_ownWays p1 p2 p3 S) 290 43 [(0, .ref 0), (1, sv_I p1), (2, sv_I p2), (3, sv_I p3), (4, sv_I l4_8), (5, sv_I (l5_31 + (1 : Int)))] [] (sv_sts (sv_sts (sv_sts (sv_sts S [1143, 1144, 5, 1011] g2) [68, 69, 70] g7) [68, 69, 70] g30) [68, 69, 70] g72) := Eq.mpr (congrArg (fun Z => sv_T sm_XS sm_cs sm_L sm_sh 4 (q_ownWays p1 p2 p3 S) 290 43 [(0, .ref 0), (1, sv_I p1), (2, sv_I p2), (3, sv_I p3), (4, sv_I l4_8), (5, sv_I (l5_31 + (1 : Int)))] [] Z) eS) hb
                  exact sv_less (lv := [(0, .ref 0), (1, sv_I p1), (2, sv_I p2), (3, sv_I p3), (4, sv_I l4_8), (5, sv_I (l5_31 + (1 : Int)))]) (sv_Sub_cons rfl (sv_Sub_cons rfl (sv_Sub_cons rfl (sv_Sub_cons rfl (sv_Sub_cons rfl (sv_Sub_cons rfl sv_Sub_nil)))))) hb
              · have h := h.2 (hc)
                refine sv_aload_n hM dX12_ownWays_82 rfl rfl ?_
                refine sv_iload_n hM dX12_ownWays_83 rfl rfl ?_
                refine sv_iconst (d := (4 : Int)) hM dX12_ownWays_84 rfl rfl ?_
                obtain ⟨o80, h⟩ := h
                refine sv_callV hM dX12_ownWays_85 sm_iv_1072 (by decide) (sm_a0 _) rfl rfl (Nat.le_of_ble_eq_true rfl) sm_h213 (Nat.le_of_ble_eq_true rfl) (Nat.le_of_ble_eq_true rfl) (F' := 2) (Nat.le_of_ble_eq_true rfl) rfl (t_addSort p3 (4 : Int) (sv_sts (sv_sts (sv_sts S [1143, 1144, 5, 1011] g2) [68, 69, 70] g7) [68, 69, 70] g30) ok54 hp3 (⟨by decide, by decide⟩ : sv_R (4 : Int)) o80) (fun v S1 hq => ?_)
                obtain ⟨rfl, ok82, md83, hpo84⟩ := hq
                obtain ⟨g81, rfl⟩ : ∃ g, S1 = sv_sts (sv_sts (sv_sts (sv_sts S [1143, 1144, 5, 1011] g2) [68, 69, 70] g7) [68, 69, 70] g30) [68, 69, 70] g := ⟨_, md83.eq⟩
                show sv_T sm_XS sm_cs sm_L sm_sh 4 (q_ownWays p1 p2 p3 S) 290 88 [(0, .ref 0), (1, sv_I p1), (2, sv_I p2), (3, sv_I p3), (4, sv_I l4_8), (5, sv_I l5_31)] [] (sv_sts (sv_sts (sv_sts (sv_sts S [1143, 1144, 5, 1011] g2) [68, 69, 70] g7) [68, 69, 70] g30) [68, 69, 70] g81)
                have md85 : sv_mod [68, 69, 70, 1143, 1144, 5, 1011] S (sv_sts (sv_sts (sv_sts (sv_sts S [1143, 1144, 5, 1011] g2) [68, 69, 70] g7) [68, 69, 70] g30) [68, 69, 70] g81) := sv_mod.sts md35 (by decide)
                have md86 : sv_mod [68, 69, 70] (sv_sts S [1143, 1144, 5, 1011] g2) (sv_sts (sv_sts (sv_sts (sv_sts S [1143, 1144, 5, 1011] g2) [68, 69, 70] g7) [68, 69, 70] g30) [68, 69, 70] g81) := sv_mod.sts md36 (by decide)
                have md87 : sv_mod [68, 69, 70] (sv_sts (sv_sts S [1143, 1144, 5, 1011] g2) [68, 69, 70] g7) (sv_sts (sv_sts (sv_sts (sv_sts S [1143, 1144, 5, 1011] g2) [68, 69, 70] g7) [68, 69, 70] g30) [68, 69, 70] g81) := sv_mod.sts md37 (by decide)
                have h := h g81 hpo84
                refine sv_aload_n hM dX12_ownWays_88 rfl rfl ?_
                refine sv_aload_n hM dX12_ownWays_89 rfl rfl ?_
                refine sv_sipush (d := (639 : Int)) hM dX12_ownWays_90 rfl rfl ?_
                refine sv_iload hM dX12_ownWays_93 rfl rfl ?_
                refine sv_iload hM dX12_ownWays_95 rfl rfl ?_
                refine sv_callV hM dX12_ownWays_97 sm_iv_1163 (by decide) (sm_a0 _) rfl rfl (Nat.le_of_ble_eq_true rfl) sm_h225 (Nat.le_of_ble_eq_true rfl) (Nat.le_of_ble_eq_true rfl) (F' := 1) (Nat.le_of_ble_eq_true rfl) rfl (t_field (639 : Int) l4_8 l5_31 (sv_sts (sv_sts (sv_sts (sv_sts S [1143, 1144, 5, 1011] g2) [68, 69, 70] g7) [68, 69, 70] g30) [68, 69, 70] g81) ok82 (⟨by decide, by decide⟩ : sv_R (639 : Int)) hl4_8 hl5_31 o46) (fun v S1 hq => ?_)
                obtain ⟨r92, rfl, hr92, ok89, md90, hpo91⟩ := hq
                obtain rfl : (sv_sts (sv_sts (sv_sts (sv_sts S [1143, 1144, 5, 1011] g2) [68, 69, 70] g7) [68, 69, 70] g30) [68, 69, 70] g81) = S1 := (funext fun j => md90 j (by intro q; cases q)).symm
                show sv_T sm_XS sm_cs sm_L sm_sh 4 (q_ownWays p1 p2 p3 S) 290 100 [(0, .ref 0), (1, sv_I p1), (2, sv_I p2), (3, sv_I p3), (4, sv_I l4_8), (5, sv_I l5_31)] [sv_I r92, .ref 0] (sv_sts (sv_sts (sv_sts (sv_sts S [1143, 1144, 5, 1011] g2) [68, 69, 70] g7) [68, 69, 70] g30) [68, 69, 70] g81)
                have h := h r92 hr92 hpo91
                obtain ⟨o93, h⟩ := h
                refine sv_callV hM dX12_ownWays_100 sm_iv_1047 (by decide) (sm_a0 _) rfl rfl (Nat.le_of_ble_eq_true rfl) sm_h202 (Nat.le_of_ble_eq_true rfl) (Nat.le_of_ble_eq_true rfl) (F' := 0) (Nat.le_of_ble_eq_true rfl) rfl (t_has r92 (sv_sts (sv_sts (sv_sts (sv_sts S [1143, 1144, 5, 1011] g2) [68, 69, 70] g7) [68, 69, 70] g30) [68, 69, 70] g81) ok89 hr92 o93) (fun v S1 hq => ?_)
                obtain ⟨r98, rfl, hr98, ok95, md96, hpo97⟩ := hq
                obtain rfl : (sv_sts (sv_sts (sv_sts (sv_sts S [1143, 1144, 5, 1011] g2) [68, 69, 70] g7) [68, 69, 70] g30) [68, 69, 70] g81) = S1 := (funext fun j => md96 j (by intro q; cases q)).symm
                show sv_T sm_XS sm_cs sm_L sm_sh 4 (q_ownWays p1 p2 p3 S) 290 103 [(0, .ref 0), (1, sv_I p1), (2, sv_I p2), (3, sv_I p3), (4, sv_I l4_8), (5, sv_I l5_31)] [sv_I r98] (sv_sts (sv_sts (sv_sts (sv_sts S [1143, 1144, 5, 1011] g2) [68, 69, 70] g7) [68, 69, 70] g30) [68, 69, 70] g81)
                have h := h r98 hr98 hpo97
                refine sv_sipush (d := (512 : Int)) hM dX12_ownWays_103 rfl rfl ?_
                refine sv_iand hM dX12_ownWays_106 ⟨by decide, by decide⟩ rfl (fun r99 hr99 => ?_)
                have h := h r99 hr99
                refine sv_cond_eq hM dX12_ownWays_107 (⟨by omega, by omega⟩ : sv_R r99) (t := 117) rfl rfl (fun hc => ?_) (fun hc => ?_)
                · have h := h.1 (hc)
                  refine sv_iinc (d := (1 : Int)) hM dX12_ownWays_117 rfl (by decide) rfl rfl ?_
                  show sv_T sm_XS sm_cs sm_L sm_sh 4 (q_ownWays p1 p2 p3 S) 290 120 [(0, .ref 0), (1, sv_I p1), (2, sv_I p2), (3, sv_I p3), (4, sv_I l4_8), (5, sv_I (l5_31 + (1 : Int)))] [] (sv_sts (sv_sts (sv_sts (sv_sts S [1143, 1144, 5, 1011] g2) [68, 69, 70] g7) [68, 69, 70] g30) [68, 69, 70] g81)
                  refine sv_goto hM dX12_ownWays_120 (pc' := 43) rfl ?_
                  obtain ⟨o100, h⟩ := h
                  have eS := sv_mod.eq md87
                  have hb := ih32 ((l5_31 + (1 : Int)), (sv_sts (sv_sts (sv_sts (sv_sts S [1143, 1144, 5, 1011] g2) [68, 69, 70] g7) [68, 69, 70] g30) [68, 69, 70] g81)) ⟨o100, (by rw [← eS]; exact ok95), h.1⟩ h.2
                  have hb : sv_T sm_XS sm_cs sm_L sm_sh 4 (q_ownWays p1 p2 p3 S) 290 43 [(0, .ref 0), (1, sv_I p1), (2, sv_I p2), (3, sv_I p3), (4, sv_I l4_8), (5, sv_I (l5_31 + (1 : Int)))] [] (sv_sts (sv_sts (sv_sts (sv_sts S [1143, 1144, 5, 1011] g2) [68, 69, 70] g7) [68, 69, 70] g30) [68, 69, 70] g81) := Eq.mpr (congrArg (fun Z => sv_T sm_XS sm_cs sm_L sm_sh 4 (q_ownWays p1 p2 p3 S) 290 43 [(0, .ref 0), (1, sv_I p1), (2, sv_I p2), (3, sv_I p3), (4, sv_I l4_8), (5, sv_I (l5_31 + (1 : Int)))] [] Z) eS) hb
                  exact sv_less (lv := [(0, .ref 0), (1, sv_I p1), (2, sv_I p2), (3, sv_I p3), (4, sv_I l4_8), (5, sv_I (l5_31 + (1 : Int)))]) (sv_Sub_cons rfl (sv_Sub_cons rfl (sv_Sub_cons rfl (sv_Sub_cons rfl (sv_Sub_cons rfl (sv_Sub_cons rfl sv_Sub_nil)))))) hb
                · have h := h.2 (hc)
                  refine sv_aload_n hM dX12_ownWays_110 rfl rfl ?_
                  refine sv_iload_n hM dX12_ownWays_111 rfl rfl ?_
                  refine sv_bipush (d := (8 : Int)) hM dX12_ownWays_112 rfl rfl ?_
                  refine sv_callV hM dX12_ownWays_114 sm_iv_1072 (by decide) (sm_a0 _) rfl rfl (Nat.le_of_ble_eq_true rfl) sm_h213 (Nat.le_of_ble_eq_true rfl) (Nat.le_of_ble_eq_true rfl) (F' := 2) (Nat.le_of_ble_eq_true rfl) rfl (t_addSort p3 (8 : Int) (sv_sts (sv_sts (sv_sts (sv_sts S [1143, 1144, 5, 1011] g2) [68, 69, 70] g7) [68, 69, 70] g30) [68, 69, 70] g81) ok95 hp3 (⟨by decide, by decide⟩ : sv_R (8 : Int)) o80) (fun v S1 hq => ?_)
                  obtain ⟨rfl, ok102, md103, hpo104⟩ := hq
                  obtain ⟨g101, rfl⟩ : ∃ g, S1 = sv_sts (sv_sts (sv_sts (sv_sts (sv_sts S [1143, 1144, 5, 1011] g2) [68, 69, 70] g7) [68, 69, 70] g30) [68, 69, 70] g81) [68, 69, 70] g := ⟨_, md103.eq⟩
                  show sv_T sm_XS sm_cs sm_L sm_sh 4 (q_ownWays p1 p2 p3 S) 290 117 [(0, .ref 0), (1, sv_I p1), (2, sv_I p2), (3, sv_I p3), (4, sv_I l4_8), (5, sv_I l5_31)] [] (sv_sts (sv_sts (sv_sts (sv_sts (sv_sts S [1143, 1144, 5, 1011] g2) [68, 69, 70] g7) [68, 69, 70] g30) [68, 69, 70] g81) [68, 69, 70] g101)
                  have md105 : sv_mod [68, 69, 70, 1143, 1144, 5, 1011] S (sv_sts (sv_sts (sv_sts (sv_sts (sv_sts S [1143, 1144, 5, 1011] g2) [68, 69, 70] g7) [68, 69, 70] g30) [68, 69, 70] g81) [68, 69, 70] g101) := sv_mod.sts md85 (by decide)
                  have md106 : sv_mod [68, 69, 70] (sv_sts S [1143, 1144, 5, 1011] g2) (sv_sts (sv_sts (sv_sts (sv_sts (sv_sts S [1143, 1144, 5, 1011] g2) [68, 69, 70] g7) [68, 69, 70] g30) [68, 69, 70] g81) [68, 69, 70] g101) := sv_mod.sts md86 (by decide)
                  have md107 : sv_mod [68, 69, 70] (sv_sts (sv_sts S [1143, 1144, 5, 1011] g2) [68, 69, 70] g7) (sv_sts (sv_sts (sv_sts (sv_sts (sv_sts S [1143, 1144, 5, 1011] g2) [68, 69, 70] g7) [68, 69, 70] g30) [68, 69, 70] g81) [68, 69, 70] g101) := sv_mod.sts md87 (by decide)
                  have h := h g101 hpo104
                  refine sv_iinc (d := (1 : Int)) hM dX12_ownWays_117 rfl (by decide) rfl rfl ?_
                  show sv_T sm_XS sm_cs sm_L sm_sh 4 (q_ownWays p1 p2 p3 S) 290 120 [(0, .ref 0), (1, sv_I p1), (2, sv_I p2), (3, sv_I p3), (4, sv_I l4_8), (5, sv_I (l5_31 + (1 : Int)))] [] (sv_sts (sv_sts (sv_sts (sv_sts (sv_sts S [1143, 1144, 5, 1011] g2) [68, 69, 70] g7) [68, 69, 70] g30) [68, 69, 70] g81) [68, 69, 70] g101)
                  refine sv_goto hM dX12_ownWays_120 (pc' := 43) rfl ?_
                  obtain ⟨o108, h⟩ := h
                  have eS := sv_mod.eq md107
                  have hb := ih32 ((l5_31 + (1 : Int)), (sv_sts (sv_sts (sv_sts (sv_sts (sv_sts S [1143, 1144, 5, 1011] g2) [68, 69, 70] g7) [68, 69, 70] g30) [68, 69, 70] g81) [68, 69, 70] g101)) ⟨o108, (by rw [← eS]; exact ok102), h.1⟩ h.2
                  have hb : sv_T sm_XS sm_cs sm_L sm_sh 4 (q_ownWays p1 p2 p3 S) 290 43 [(0, .ref 0), (1, sv_I p1), (2, sv_I p2), (3, sv_I p3), (4, sv_I l4_8), (5, sv_I (l5_31 + (1 : Int)))] [] (sv_sts (sv_sts (sv_sts (sv_sts (sv_sts S [1143, 1144, 5, 1011] g2) [68, 69, 70] g7) [68, 69, 70] g30) [68, 69, 70] g81) [68, 69, 70] g101) := Eq.mpr (congrArg (fun Z => sv_T sm_XS sm_cs sm_L sm_sh 4 (q_ownWays p1 p2 p3 S) 290 43 [(0, .ref 0), (1, sv_I p1), (2, sv_I p2), (3, sv_I p3), (4, sv_I l4_8), (5, sv_I (l5_31 + (1 : Int)))] [] Z) eS) hb
                  exact sv_less (lv := [(0, .ref 0), (1, sv_I p1), (2, sv_I p2), (3, sv_I p3), (4, sv_I l4_8), (5, sv_I (l5_31 + (1 : Int)))]) (sv_Sub_cons rfl (sv_Sub_cons rfl (sv_Sub_cons rfl (sv_Sub_cons rfl (sv_Sub_cons rfl (sv_Sub_cons rfl sv_Sub_nil)))))) hb
            · have h := h.2 (hc)
              refine sv_goto hM dX12_ownWays_61 (pc' := 117) rfl ?_
              refine sv_iinc (d := (1 : Int)) hM dX12_ownWays_117 rfl (by decide) rfl rfl ?_
              show sv_T sm_XS sm_cs sm_L sm_sh 4 (q_ownWays p1 p2 p3 S) 290 120 [(0, .ref 0), (1, sv_I p1), (2, sv_I p2), (3, sv_I p3), (4, sv_I l4_8), (5, sv_I (l5_31 + (1 : Int)))] [] (sv_sts (sv_sts (sv_sts S [1143, 1144, 5, 1011] g2) [68, 69, 70] g7) [68, 69, 70] g30)
              refine sv_goto hM dX12_ownWays_120 (pc' := 43) rfl ?_
              obtain ⟨o109, h⟩ := h
              have eS := sv_mod.eq md37
              have hb := ih32 ((l5_31 + (1 : Int)), (sv_sts (sv_sts (sv_sts S [1143, 1144, 5, 1011] g2) [68, 69, 70] g7) [68, 69, 70] g30)) ⟨o109, (by rw [← eS]; exact ok42), h.1⟩ h.2
              have hb : sv_T sm_XS sm_cs sm_L sm_sh 4 (q_ownWays p1 p2 p3 S) 290 43 [(0, .ref 0), (1, sv_I p1), (2, sv_I p2), (3, sv_I p3), (4, sv_I l4_8), (5, sv_I (l5_31 + (1 : Int)))] [] (sv_sts (sv_sts (sv_sts S [1143, 1144, 5, 1011] g2) [68, 69, 70] g7) [68, 69, 70] g30) := Eq.mpr (congrArg (fun Z => sv_T sm_XS sm_cs sm_L sm_sh 4 (q_ownWays p1 p2 p3 S) 290 43 [(0, .ref 0), (1, sv_I p1), (2, sv_I p2), (3, sv_I p3), (4, sv_I l4_8), (5, sv_I (l5_31 + (1 : Int)))] [] Z) eS) hb
              exact sv_less (lv := [(0, .ref 0), (1, sv_I p1), (2, sv_I p2), (3, sv_I p3), (4, sv_I l4_8), (5, sv_I (l5_31 + (1 : Int)))]) (sv_Sub_cons rfl (sv_Sub_cons rfl (sv_Sub_cons rfl (sv_Sub_cons rfl (sv_Sub_cons rfl (sv_Sub_cons rfl sv_Sub_nil)))))) hb
        have eS := sv_mod.eq (sv_mod.rf (l := [68, 69, 70]) (S := (sv_sts (sv_sts S [1143, 1144, 5, 1011] g2) [68, 69, 70] g7)))
        have hb := hJ ((0 : Int), (sv_sts (sv_sts S [1143, 1144, 5, 1011] g2) [68, 69, 70] g7)) ⟨(⟨by decide, by decide⟩ : sv_R (0 : Int)), (by rw [← eS]; exact ok26), hin33⟩
        have hb : sv_T sm_XS sm_cs sm_L sm_sh 4 (q_ownWays p1 p2 p3 S) 290 43 [(0, .ref 0), (1, sv_I p1), (2, sv_I p2), (3, sv_I p3), (4, sv_I l4_8), (5, sv_I (0 : Int))] [] (sv_sts (sv_sts S [1143, 1144, 5, 1011] g2) [68, 69, 70] g7) := Eq.mpr (congrArg (fun Z => sv_T sm_XS sm_cs sm_L sm_sh 4 (q_ownWays p1 p2 p3 S) 290 43 [(0, .ref 0), (1, sv_I p1), (2, sv_I p2), (3, sv_I p3), (4, sv_I l4_8), (5, sv_I (0 : Int))] [] Z) eS) hb
        exact hb
      · have h := h.2 (hc)
        refine sv_goto hM dX12_ownWays_37 (pc' := 123) rfl ?_
        refine sv_iinc (d := (1 : Int)) hM dX12_ownWays_123 rfl (by decide) rfl rfl ?_
        show sv_T sm_XS sm_cs sm_L sm_sh 4 (q_ownWays p1 p2 p3 S) 290 126 [(0, .ref 0), (1, sv_I p1), (2, sv_I p2), (3, sv_I p3), (4, sv_I (l4_8 + (1 : Int)))] [] (sv_sts (sv_sts S [1143, 1144, 5, 1011] g2) [68, 69, 70] g7)
        refine sv_goto hM dX12_ownWays_126 (pc' := 8) rfl ?_
        obtain ⟨o110, h⟩ := h
        have eS := sv_mod.eq md13
        have hb := ih9 ((l4_8 + (1 : Int)), (sv_sts (sv_sts S [1143, 1144, 5, 1011] g2) [68, 69, 70] g7)) ⟨o110, (by rw [← eS]; exact ok26), h.1⟩ h.2
        have hb : sv_T sm_XS sm_cs sm_L sm_sh 4 (q_ownWays p1 p2 p3 S) 290 8 [(0, .ref 0), (1, sv_I p1), (2, sv_I p2), (3, sv_I p3), (4, sv_I (l4_8 + (1 : Int)))] [] (sv_sts (sv_sts S [1143, 1144, 5, 1011] g2) [68, 69, 70] g7) := Eq.mpr (congrArg (fun Z => sv_T sm_XS sm_cs sm_L sm_sh 4 (q_ownWays p1 p2 p3 S) 290 8 [(0, .ref 0), (1, sv_I p1), (2, sv_I p2), (3, sv_I p3), (4, sv_I (l4_8 + (1 : Int)))] [] Z) eS) hb
        exact sv_less (lv := [(0, .ref 0), (1, sv_I p1), (2, sv_I p2), (3, sv_I p3), (4, sv_I (l4_8 + (1 : Int)))]) (sv_Sub_cons rfl (sv_Sub_cons rfl (sv_Sub_cons rfl (sv_Sub_cons rfl (sv_Sub_cons rfl sv_Sub_nil))))) hb
  have eS := sv_mod.eq (sv_mod.rf (l := [68, 69, 70]) (S := (sv_sts S [1143, 1144, 5, 1011] g2)))
  have hb := hJ ((0 : Int), (sv_sts S [1143, 1144, 5, 1011] g2)) ⟨(⟨by decide, by decide⟩ : sv_R (0 : Int)), (by rw [← eS]; exact ok3), hin10⟩
  have hb : sv_T sm_XS sm_cs sm_L sm_sh 4 (q_ownWays p1 p2 p3 S) 290 8 [(0, .ref 0), (1, sv_I p1), (2, sv_I p2), (3, sv_I p3), (4, sv_I (0 : Int))] [] (sv_sts S [1143, 1144, 5, 1011] g2) := Eq.mpr (congrArg (fun Z => sv_T sm_XS sm_cs sm_L sm_sh 4 (q_ownWays p1 p2 p3 S) 290 8 [(0, .ref 0), (1, sv_I p1), (2, sv_I p2), (3, sv_I p3), (4, sv_I (0 : Int))] [] Z) eS) hb
  exact hb
def q_hasField (p1 : Int) (p2 : Int) (p3 : Int) (S : sv_S) : Option Value → sv_S → Prop := fun v S' => v = none ∧ sm_ok S' ∧ sv_mod [68, 69, 70] S S' ∧ (sm_pt (S' 68) (S' 69) (S' 70) = sm_pt (S 68) (S 69) (S 70))
theorem la_hasField_0 {x0 x1 x2 x3 x4 : Int} (h0 : 0 ≤ x0) (h1 : x0 ≤ 11557) (h2 : 0 ≤ x1) (h3 : x1 < x2) (h4 : 0 ≤ x3) (h5 : x3 ≤ x4) : 0 ≤ x0 ∧ x0 ≤ 11557 ∧ 0 ≤ x1 ∧ x1 < x2 ∧ 0 ≤ x3 ∧ x3 ≤ x4 := by omega
theorem la_hasField_1 {x0 : Int} (h0 : 635640 ≤ x0) (h1 : x0 < 647340) : 635639 ≤ x0 ∧ x0 < 647800 := by omega
theorem la_hasField_2 {x0 x1 x2 : Int} (h0 : x0 = x1) (h1 : x2 = x0) : x2 = x1 := by omega
set_option maxHeartbeats 2000000 in
theorem f_hasField : ∀ (p1 : Int) (p2 : Int) (p3 : Int) (S : sv_S), sm_ok S → sv_R p1 → sv_R p2 → sv_R p3 → (29 ≤ (S 1071 0) ∧ (S 1071 0) ≤ 127 ∧ 31 ≤ (S 1008 0) ∧ (S 1008 0) ≤ 90 ∧ 1 ≤ (S 1032 0) ∧ (S 1032 0) ≤ 11 ∧ 0 ≤ (S 1055 0) ∧ (S 1055 0) ≤ 19 ∧ (S 1071 0) = 29 + 6 * ((S 1032 0) - 1) + 2 * (S 1055 0) ∧ 0 ≤ (S 1046 0) ∧ (S 1046 0) + 2 * (S 1032 0) ≤ 500 ∧ sm_PD (S 1046 0) (S 1032 0) (S 1071 0) (S 1008 0) ∧ 0 ≤ (S 1071 0) * ((S 1008 0) + 1) ∧ (S 1071 0) * ((S 1008 0) + 1) ≤ 11557 ∧ 0 ≤ p1 ∧ p1 < (S 1071 0) ∧ 0 ≤ p2 ∧ p2 ≤ (S 1008 0)) → (29 ≤ (S 1071 0) ∧ (S 1071 0) ≤ 127 ∧ 31 ≤ (S 1008 0) ∧ (S 1008 0) ≤ 90 ∧ 1 ≤ (S 1032 0) ∧ (S 1032 0) ≤ 11 ∧ 0 ≤ (S 1055 0) ∧ (S 1055 0) ≤ 19 ∧ (S 1071 0) = 29 + 6 * ((S 1032 0) - 1) + 2 * (S 1055 0) ∧ 0 ≤ (S 1046 0) ∧ (S 1046 0) + 2 * (S 1032 0) ≤ 500 ∧ sm_PD (S 1046 0) (S 1032 0) (S 1071 0) (S 1008 0) ∧ 0 ≤ (S 1071 0) * ((S 1008 0) + 1) ∧ (S 1071 0) * ((S 1008 0) + 1) ≤ 11557 ∧ 0 ≤ p1 ∧ p1 < (S 1071 0) ∧ 0 ≤ p2 ∧ p2 ≤ (S 1008 0)) ∧ (∀ r6 : Int, sv_R r6 → ∀ g2 : sv_S, (sm_pt (g2 68) (g2 69) (g2 70) = sm_pt (S 68) (S 69) (S 70) ∧ 635640 ≤ r6 ∧ r6 < 647340) → (635639 ≤ r6 ∧ r6 < 647800) ∧ (∀ g9 : sv_S, (sm_pt (g2 68) (g9 69) (g9 70) = sm_pt (g2 68) (g2 69) (g2 70)) → (sm_pt (g2 68) (g9 69) (g9 70) = sm_pt (S 68) (S 69) (S 70)))) := by
  intro p1
  intro p2
  intro p3
  intro S
  intro h1_
  intro h2_
  intro h3_
  intro h4_
  rintro ⟨h5_, ⟨h6_, ⟨h7_, ⟨h8_, ⟨h9_, ⟨h10_, ⟨h11_, ⟨h12_, ⟨h13_, ⟨h14_, ⟨h15_, ⟨h16_, ⟨h17_, ⟨h18_, ⟨h19_, ⟨h20_, ⟨h21_, h22_⟩⟩⟩⟩⟩⟩⟩⟩⟩⟩⟩⟩⟩⟩⟩⟩⟩
  refine ⟨⟨h5_, ⟨h6_, ⟨h7_, ⟨h8_, ⟨h9_, ⟨h10_, ⟨h11_, ⟨h12_, ⟨h13_, ⟨h14_, ⟨h15_, ⟨h16_, (la_hasField_0 h17_ h18_ h19_ h20_ h21_ h22_)⟩⟩⟩⟩⟩⟩⟩⟩⟩⟩⟩⟩, ?_⟩
  intro r6
  intro h23_
  intro g2
  rintro ⟨h24_, ⟨h25_, h26_⟩⟩
  refine ⟨(la_hasField_1 h25_ h26_), ?_⟩
  intro g9
  intro h27_
  exact (la_hasField_2 h24_ h27_)
set_option maxRecDepth 8000 in
set_option maxHeartbeats 2000000 in
theorem t_hasField : ∀ (p1 : Int) (p2 : Int) (p3 : Int) (S : sv_S), sm_ok S → sv_R p1 → sv_R p2 → sv_R p3 → (29 ≤ (S 1071 0) ∧ (S 1071 0) ≤ 127 ∧ 31 ≤ (S 1008 0) ∧ (S 1008 0) ≤ 90 ∧ 1 ≤ (S 1032 0) ∧ (S 1032 0) ≤ 11 ∧ 0 ≤ (S 1055 0) ∧ (S 1055 0) ≤ 19 ∧ (S 1071 0) = 29 + 6 * ((S 1032 0) - 1) + 2 * (S 1055 0) ∧ 0 ≤ (S 1046 0) ∧ (S 1046 0) + 2 * (S 1032 0) ≤ 500 ∧ sm_PD (S 1046 0) (S 1032 0) (S 1071 0) (S 1008 0) ∧ 0 ≤ (S 1071 0) * ((S 1008 0) + 1) ∧ (S 1071 0) * ((S 1008 0) + 1) ≤ 11557 ∧ 0 ≤ p1 ∧ p1 < (S 1071 0) ∧ 0 ≤ p2 ∧ p2 ≤ (S 1008 0)) → sv_T sm_XS sm_cs sm_L sm_sh 3 (q_hasField p1 p2 p3 S) 292 0 (lv_args 0 [.ref 0, sv_I p1, sv_I p2, sv_I p3]) [] S := by
  intro p1 p2 p3 S hok hp1 hp2 hp3 hpre
  have h := f_hasField p1 p2 p3 S hok hp1 hp2 hp3 hpre
  have hM := sm_h292
  show sv_T sm_XS sm_cs sm_L sm_sh 3 (q_hasField p1 p2 p3 S) 292 0 [(0, .ref 0), (1, sv_I p1), (2, sv_I p2), (3, sv_I p3)] [] S
  refine sv_aload_n hM dX12_hasField_0 rfl rfl ?_
  refine sv_aload_n hM dX12_hasField_1 rfl rfl ?_
  refine sv_iload_n hM dX12_hasField_2 rfl rfl ?_
  refine sv_iload_n hM dX12_hasField_3 rfl rfl ?_
  obtain ⟨o1, h⟩ := h
  refine sv_callV hM dX12_hasField_4 sm_iv_1244 (by decide) (sm_a0 _) rfl rfl (Nat.le_of_ble_eq_true rfl) sm_h253 (Nat.le_of_ble_eq_true rfl) (Nat.le_of_ble_eq_true rfl) (F' := 2) (Nat.le_of_ble_eq_true rfl) rfl (t_fresh_ p1 p2 S hok hp1 hp2 o1) (fun v S1 hq => ?_)
  obtain ⟨r6, rfl, hr6, ok3, md4, hpo5⟩ := hq
  obtain ⟨g2, rfl⟩ : ∃ g, S1 = sv_sts S [68, 69, 70] g := ⟨_, md4.eq⟩
  show sv_T sm_XS sm_cs sm_L sm_sh 3 (q_hasField p1 p2 p3 S) 292 7 [(0, .ref 0), (1, sv_I p1), (2, sv_I p2), (3, sv_I p3)] [sv_I r6, .ref 0] (sv_sts S [68, 69, 70] g2)
  have md7 : sv_mod [68, 69, 70] S (sv_sts S [68, 69, 70] g2) := sv_mod.sts sv_mod.rf (by decide)
  have h := h r6 hr6 g2 hpo5
  refine sv_iload_n hM dX12_hasField_7 rfl rfl ?_
  obtain ⟨o8, h⟩ := h
  refine sv_callV hM dX12_hasField_8 sm_iv_1081 (by decide) (sm_a0 _) rfl rfl (Nat.le_of_ble_eq_true rfl) sm_h216 (Nat.le_of_ble_eq_true rfl) (Nat.le_of_ble_eq_true rfl) (F' := 0) (Nat.le_of_ble_eq_true rfl) rfl (t_addLabel r6 p3 (sv_sts S [68, 69, 70] g2) ok3 hr6 hp3 o8) (fun v S1 hq => ?_)
  obtain ⟨rfl, ok10, md11, hpo12⟩ := hq
  obtain ⟨g9, rfl⟩ : ∃ g, S1 = sv_sts (sv_sts S [68, 69, 70] g2) [69, 70] g := ⟨_, md11.eq⟩
  show sv_T sm_XS sm_cs sm_L sm_sh 3 (q_hasField p1 p2 p3 S) 292 11 [(0, .ref 0), (1, sv_I p1), (2, sv_I p2), (3, sv_I p3)] [] (sv_sts (sv_sts S [68, 69, 70] g2) [69, 70] g9)
  have md13 : sv_mod [68, 69, 70] S (sv_sts (sv_sts S [68, 69, 70] g2) [69, 70] g9) := sv_mod.sts md7 (by decide)
  have h := h g9 hpo12
  exact sv_vret hM dX12_hasField_11 rfl ⟨rfl, ok10, md13, h⟩
