theorem dX4_frameAt_0 : decode cX4_frameAt 0 = .ok (.aload_n 0, 1) := by decide +kernel
theorem dX4_frameAt_1 : decode cX4_frameAt 1 = .ok (.getfield 40, 3) := by decide +kernel
theorem dX4_frameAt_4 : decode cX4_frameAt 4 = .ok (.ifCond .eq 29, 3) := by decide +kernel
theorem dX4_frameAt_7 : decode cX4_frameAt 7 = .ok (.iload_n 1, 1) := by decide +kernel
theorem dX4_frameAt_8 : decode cX4_frameAt 8 = .ok (.ifCond .lt 25, 3) := by decide +kernel
theorem dX4_frameAt_11 : decode cX4_frameAt 11 = .ok (.iload_n 1, 1) := by decide +kernel
theorem dX4_frameAt_12 : decode cX4_frameAt 12 = .ok (.aload_n 0, 1) := by decide +kernel
theorem dX4_frameAt_13 : decode cX4_frameAt 13 = .ok (.getfield 44, 3) := by decide +kernel
theorem dX4_frameAt_16 : decode cX4_frameAt 16 = .ok (.if_icmp .ge 17, 3) := by decide +kernel
theorem dX4_frameAt_19 : decode cX4_frameAt 19 = .ok (.bipush 8, 2) := by decide +kernel
theorem dX4_frameAt_21 : decode cX4_frameAt 21 = .ok (.aload_n 0, 1) := by decide +kernel
theorem dX4_frameAt_22 : decode cX4_frameAt 22 = .ok (.getfield 44, 3) := by decide +kernel
theorem dX4_frameAt_25 : decode cX4_frameAt 25 = .ok (.iconst 1, 1) := by decide +kernel
theorem dX4_frameAt_26 : decode cX4_frameAt 26 = .ok (.isub, 1) := by decide +kernel
theorem dX4_frameAt_27 : decode cX4_frameAt 27 = .ok (.iload_n 1, 1) := by decide +kernel
theorem dX4_frameAt_28 : decode cX4_frameAt 28 = .ok (.isub, 1) := by decide +kernel
theorem dX4_frameAt_29 : decode cX4_frameAt 29 = .ok (.imul, 1) := by decide +kernel
theorem dX4_frameAt_30 : decode cX4_frameAt 30 = .ok (.goto 4, 3) := by decide +kernel
theorem dX4_frameAt_33 : decode cX4_frameAt 33 = .ok (.iconst (-1), 1) := by decide +kernel
theorem dX4_frameAt_34 : decode cX4_frameAt 34 = .ok (.ireturn, 1) := by decide +kernel
theorem dX4_frameFact_0 : decode cX4_frameFact 0 = .ok (.aload_n 0, 1) := by decide +kernel
theorem dX4_frameFact_1 : decode cX4_frameFact 1 = .ok (.iload_n 1, 1) := by decide +kernel
theorem dX4_frameFact_2 : decode cX4_frameFact 2 = .ok (.invokevirtual 79, 3) := by decide +kernel
theorem dX4_frameFact_5 : decode cX4_frameFact 5 = .ok (.istore_n 3, 1) := by decide +kernel
theorem dX4_frameFact_6 : decode cX4_frameFact 6 = .ok (.iload_n 3, 1) := by decide +kernel
theorem dX4_frameFact_7 : decode cX4_frameFact 7 = .ok (.ifCond .ge 5, 3) := by decide +kernel
theorem dX4_frameFact_10 : decode cX4_frameFact 10 = .ok (.iconst (-1), 1) := by decide +kernel
theorem dX4_frameFact_11 : decode cX4_frameFact 11 = .ok (.ireturn, 1) := by decide +kernel
theorem dX4_frameFact_12 : decode cX4_frameFact 12 = .ok (.iload_n 2, 1) := by decide +kernel
theorem dX4_frameFact_13 : decode cX4_frameFact 13 = .ok (.tableswitch 102 0 4 #[35, 44, 53, 73, 82], 35) := by decide +kernel
theorem dX4_frameFact_48 : decode cX4_frameFact 48 = .ok (.aload_n 0, 1) := by decide +kernel
theorem dX4_frameFact_49 : decode cX4_frameFact 49 = .ok (.getfield 18, 3) := by decide +kernel
theorem dX4_frameFact_52 : decode cX4_frameFact 52 = .ok (.iload_n 3, 1) := by decide +kernel
theorem dX4_frameFact_53 : decode cX4_frameFact 53 = .ok (.iconst 0, 1) := by decide +kernel
theorem dX4_frameFact_54 : decode cX4_frameFact 54 = .ok (.iadd, 1) := by decide +kernel
theorem dX4_frameFact_55 : decode cX4_frameFact 55 = .ok (.iaload, 1) := by decide +kernel
theorem dX4_frameFact_56 : decode cX4_frameFact 56 = .ok (.ireturn, 1) := by decide +kernel
theorem dX4_frameFact_57 : decode cX4_frameFact 57 = .ok (.aload_n 0, 1) := by decide +kernel
theorem dX4_frameFact_58 : decode cX4_frameFact 58 = .ok (.getfield 18, 3) := by decide +kernel
theorem dX4_frameFact_61 : decode cX4_frameFact 61 = .ok (.iload_n 3, 1) := by decide +kernel
theorem dX4_frameFact_62 : decode cX4_frameFact 62 = .ok (.iconst 1, 1) := by decide +kernel
theorem dX4_frameFact_63 : decode cX4_frameFact 63 = .ok (.iadd, 1) := by decide +kernel
theorem dX4_frameFact_64 : decode cX4_frameFact 64 = .ok (.iaload, 1) := by decide +kernel
theorem dX4_frameFact_65 : decode cX4_frameFact 65 = .ok (.ireturn, 1) := by decide +kernel
theorem dX4_frameFact_66 : decode cX4_frameFact 66 = .ok (.aload_n 0, 1) := by decide +kernel
theorem dX4_frameFact_67 : decode cX4_frameFact 67 = .ok (.iload_n 3, 1) := by decide +kernel
theorem dX4_frameFact_68 : decode cX4_frameFact 68 = .ok (.iconst 3, 1) := by decide +kernel
theorem dX4_frameFact_69 : decode cX4_frameFact 69 = .ok (.aload_n 0, 1) := by decide +kernel
theorem dX4_frameFact_70 : decode cX4_frameFact 70 = .ok (.getfield 62, 3) := by decide +kernel
theorem dX4_frameFact_73 : decode cX4_frameFact 73 = .ok (.invokevirtual 83, 3) := by decide +kernel
theorem dX4_frameFact_76 : decode cX4_frameFact 76 = .ok (.aload_n 0, 1) := by decide +kernel
theorem dX4_frameFact_77 : decode cX4_frameFact 77 = .ok (.getfield 18, 3) := by decide +kernel
theorem dX4_frameFact_80 : decode cX4_frameFact 80 = .ok (.iload_n 3, 1) := by decide +kernel
theorem dX4_frameFact_81 : decode cX4_frameFact 81 = .ok (.iconst 3, 1) := by decide +kernel
theorem dX4_frameFact_82 : decode cX4_frameFact 82 = .ok (.iadd, 1) := by decide +kernel
theorem dX4_frameFact_83 : decode cX4_frameFact 83 = .ok (.iaload, 1) := by decide +kernel
theorem dX4_frameFact_84 : decode cX4_frameFact 84 = .ok (.isub, 1) := by decide +kernel
theorem dX4_frameFact_85 : decode cX4_frameFact 85 = .ok (.ireturn, 1) := by decide +kernel
theorem dX4_frameFact_86 : decode cX4_frameFact 86 = .ok (.aload_n 0, 1) := by decide +kernel
theorem dX4_frameFact_87 : decode cX4_frameFact 87 = .ok (.getfield 18, 3) := by decide +kernel
theorem dX4_frameFact_90 : decode cX4_frameFact 90 = .ok (.iload_n 3, 1) := by decide +kernel
theorem dX4_frameFact_91 : decode cX4_frameFact 91 = .ok (.iconst 2, 1) := by decide +kernel
theorem dX4_frameFact_92 : decode cX4_frameFact 92 = .ok (.iadd, 1) := by decide +kernel
theorem dX4_frameFact_93 : decode cX4_frameFact 93 = .ok (.iaload, 1) := by decide +kernel
theorem dX4_frameFact_94 : decode cX4_frameFact 94 = .ok (.ireturn, 1) := by decide +kernel
theorem dX4_frameFact_95 : decode cX4_frameFact 95 = .ok (.aload_n 0, 1) := by decide +kernel
theorem dX4_frameFact_96 : decode cX4_frameFact 96 = .ok (.iload_n 3, 1) := by decide +kernel
theorem dX4_frameFact_97 : decode cX4_frameFact 97 = .ok (.iconst 4, 1) := by decide +kernel
theorem dX4_frameFact_98 : decode cX4_frameFact 98 = .ok (.aload_n 0, 1) := by decide +kernel
theorem dX4_frameFact_99 : decode cX4_frameFact 99 = .ok (.getfield 65, 3) := by decide +kernel
theorem dX4_frameFact_102 : decode cX4_frameFact 102 = .ok (.invokevirtual 83, 3) := by decide +kernel
theorem dX4_frameFact_105 : decode cX4_frameFact 105 = .ok (.aload_n 0, 1) := by decide +kernel
theorem dX4_frameFact_106 : decode cX4_frameFact 106 = .ok (.getfield 18, 3) := by decide +kernel
theorem dX4_frameFact_109 : decode cX4_frameFact 109 = .ok (.iload_n 3, 1) := by decide +kernel
theorem dX4_frameFact_110 : decode cX4_frameFact 110 = .ok (.iconst 4, 1) := by decide +kernel
theorem dX4_frameFact_111 : decode cX4_frameFact 111 = .ok (.iadd, 1) := by decide +kernel
theorem dX4_frameFact_112 : decode cX4_frameFact 112 = .ok (.iaload, 1) := by decide +kernel
theorem dX4_frameFact_113 : decode cX4_frameFact 113 = .ok (.isub, 1) := by decide +kernel
theorem dX4_frameFact_114 : decode cX4_frameFact 114 = .ok (.ireturn, 1) := by decide +kernel
theorem dX4_frameFact_115 : decode cX4_frameFact 115 = .ok (.iconst (-1), 1) := by decide +kernel
theorem dX4_frameFact_116 : decode cX4_frameFact 116 = .ok (.ireturn, 1) := by decide +kernel
theorem dX4_valueFact_0 : decode cX4_valueFact 0 = .ok (.aload_n 0, 1) := by decide +kernel
theorem dX4_valueFact_1 : decode cX4_valueFact 1 = .ok (.iload_n 1, 1) := by decide +kernel
theorem dX4_valueFact_2 : decode cX4_valueFact 2 = .ok (.invokevirtual 79, 3) := by decide +kernel
theorem dX4_valueFact_5 : decode cX4_valueFact 5 = .ok (.istore 4, 2) := by decide +kernel
theorem dX4_valueFact_7 : decode cX4_valueFact 7 = .ok (.iload 4, 2) := by decide +kernel
theorem dX4_valueFact_9 : decode cX4_valueFact 9 = .ok (.ifCond .lt 8, 3) := by decide +kernel
theorem dX4_valueFact_12 : decode cX4_valueFact 12 = .ok (.iload_n 2, 1) := by decide +kernel
theorem dX4_valueFact_13 : decode cX4_valueFact 13 = .ok (.iconst (-1), 1) := by decide +kernel
theorem dX4_valueFact_14 : decode cX4_valueFact 14 = .ok (.if_icmp .ge 5, 3) := by decide +kernel
theorem dX4_valueFact_17 : decode cX4_valueFact 17 = .ok (.iconst (-1), 1) := by decide +kernel
theorem dX4_valueFact_18 : decode cX4_valueFact 18 = .ok (.ireturn, 1) := by decide +kernel
theorem dX4_valueFact_19 : decode cX4_valueFact 19 = .ok (.iload_n 2, 1) := by decide +kernel
theorem dX4_valueFact_20 : decode cX4_valueFact 20 = .ok (.iconst (-1), 1) := by decide +kernel
theorem dX4_valueFact_21 : decode cX4_valueFact 21 = .ok (.if_icmp .ne 28, 3) := by decide +kernel
theorem dX4_valueFact_24 : decode cX4_valueFact 24 = .ok (.aload_n 0, 1) := by decide +kernel
theorem dX4_valueFact_25 : decode cX4_valueFact 25 = .ok (.aload_n 0, 1) := by decide +kernel
theorem dX4_valueFact_26 : decode cX4_valueFact 26 = .ok (.getfield 18, 3) := by decide +kernel
theorem dX4_valueFact_29 : decode cX4_valueFact 29 = .ok (.iload 4, 2) := by decide +kernel
theorem dX4_valueFact_31 : decode cX4_valueFact 31 = .ok (.iconst 5, 1) := by decide +kernel
theorem dX4_valueFact_32 : decode cX4_valueFact 32 = .ok (.iadd, 1) := by decide +kernel
theorem dX4_valueFact_33 : decode cX4_valueFact 33 = .ok (.iaload, 1) := by decide +kernel
theorem dX4_valueFact_34 : decode cX4_valueFact 34 = .ok (.aload_n 0, 1) := by decide +kernel
theorem dX4_valueFact_35 : decode cX4_valueFact 35 = .ok (.getfield 18, 3) := by decide +kernel
theorem dX4_valueFact_38 : decode cX4_valueFact 38 = .ok (.iload 4, 2) := by decide +kernel
theorem dX4_valueFact_40 : decode cX4_valueFact 40 = .ok (.bipush 6, 2) := by decide +kernel
theorem dX4_valueFact_42 : decode cX4_valueFact 42 = .ok (.iadd, 1) := by decide +kernel
theorem dX4_valueFact_43 : decode cX4_valueFact 43 = .ok (.iaload, 1) := by decide +kernel
theorem dX4_valueFact_44 : decode cX4_valueFact 44 = .ok (.iload_n 3, 1) := by decide +kernel
theorem dX4_valueFact_45 : decode cX4_valueFact 45 = .ok (.invokevirtual 87, 3) := by decide +kernel
theorem dX4_valueFact_48 : decode cX4_valueFact 48 = .ok (.ireturn, 1) := by decide +kernel
theorem dX4_valueFact_49 : decode cX4_valueFact 49 = .ok (.aload_n 0, 1) := by decide +kernel
theorem dX4_valueFact_50 : decode cX4_valueFact 50 = .ok (.getfield 18, 3) := by decide +kernel
theorem dX4_valueFact_53 : decode cX4_valueFact 53 = .ok (.iload 4, 2) := by decide +kernel
theorem dX4_valueFact_55 : decode cX4_valueFact 55 = .ok (.iconst 3, 1) := by decide +kernel
theorem dX4_valueFact_56 : decode cX4_valueFact 56 = .ok (.iadd, 1) := by decide +kernel
theorem dX4_valueFact_57 : decode cX4_valueFact 57 = .ok (.iaload, 1) := by decide +kernel
theorem dX4_valueFact_58 : decode cX4_valueFact 58 = .ok (.istore 5, 2) := by decide +kernel
theorem dX4_valueFact_60 : decode cX4_valueFact 60 = .ok (.iload_n 2, 1) := by decide +kernel
theorem dX4_valueFact_61 : decode cX4_valueFact 61 = .ok (.aload_n 0, 1) := by decide +kernel
theorem dX4_valueFact_62 : decode cX4_valueFact 62 = .ok (.iload 4, 2) := by decide +kernel
theorem dX4_valueFact_64 : decode cX4_valueFact 64 = .ok (.iconst 3, 1) := by decide +kernel
theorem dX4_valueFact_65 : decode cX4_valueFact 65 = .ok (.aload_n 0, 1) := by decide +kernel
theorem dX4_valueFact_66 : decode cX4_valueFact 66 = .ok (.getfield 62, 3) := by decide +kernel
theorem dX4_valueFact_69 : decode cX4_valueFact 69 = .ok (.invokevirtual 83, 3) := by decide +kernel
theorem dX4_valueFact_72 : decode cX4_valueFact 72 = .ok (.iload 5, 2) := by decide +kernel
theorem dX4_valueFact_74 : decode cX4_valueFact 74 = .ok (.isub, 1) := by decide +kernel
theorem dX4_valueFact_75 : decode cX4_valueFact 75 = .ok (.if_icmp .lt 5, 3) := by decide +kernel
theorem dX4_valueFact_78 : decode cX4_valueFact 78 = .ok (.iconst (-1), 1) := by decide +kernel
theorem dX4_valueFact_79 : decode cX4_valueFact 79 = .ok (.ireturn, 1) := by decide +kernel
theorem dX4_valueFact_80 : decode cX4_valueFact 80 = .ok (.iload 5, 2) := by decide +kernel
theorem dX4_valueFact_82 : decode cX4_valueFact 82 = .ok (.iload_n 2, 1) := by decide +kernel
theorem dX4_valueFact_83 : decode cX4_valueFact 83 = .ok (.iadd, 1) := by decide +kernel
theorem dX4_valueFact_84 : decode cX4_valueFact 84 = .ok (.istore 6, 2) := by decide +kernel
theorem dX4_valueFact_86 : decode cX4_valueFact 86 = .ok (.aload_n 0, 1) := by decide +kernel
theorem dX4_valueFact_87 : decode cX4_valueFact 87 = .ok (.aload_n 0, 1) := by decide +kernel
theorem dX4_valueFact_88 : decode cX4_valueFact 88 = .ok (.iload 6, 2) := by decide +kernel
theorem dX4_valueFact_90 : decode cX4_valueFact 90 = .ok (.invokevirtual 90, 3) := by decide +kernel
theorem dX4_valueFact_93 : decode cX4_valueFact 93 = .ok (.aload_n 0, 1) := by decide +kernel
theorem dX4_valueFact_94 : decode cX4_valueFact 94 = .ok (.iload 6, 2) := by decide +kernel
theorem dX4_valueFact_96 : decode cX4_valueFact 96 = .ok (.invokevirtual 90, 3) := by decide +kernel
theorem dX4_valueFact_99 : decode cX4_valueFact 99 = .ok (.bipush 8, 2) := by decide +kernel
theorem dX4_valueFact_101 : decode cX4_valueFact 101 = .ok (.if_icmp .ne 17, 3) := by decide +kernel
theorem dX4_valueFact_104 : decode cX4_valueFact 104 = .ok (.iload_n 3, 1) := by decide +kernel
theorem dX4_valueFact_105 : decode cX4_valueFact 105 = .ok (.iconst 1, 1) := by decide +kernel
theorem dX4_valueFact_106 : decode cX4_valueFact 106 = .ok (.if_icmp .ne 12, 3) := by decide +kernel
theorem dX4_valueFact_109 : decode cX4_valueFact 109 = .ok (.aload_n 0, 1) := by decide +kernel
theorem dX4_valueFact_110 : decode cX4_valueFact 110 = .ok (.iload 6, 2) := by decide +kernel
theorem dX4_valueFact_112 : decode cX4_valueFact 112 = .ok (.invokevirtual 93, 3) := by decide +kernel
theorem dX4_valueFact_115 : decode cX4_valueFact 115 = .ok (.goto 9, 3) := by decide +kernel
theorem dX4_valueFact_118 : decode cX4_valueFact 118 = .ok (.aload_n 0, 1) := by decide +kernel
theorem dX4_valueFact_119 : decode cX4_valueFact 119 = .ok (.iload 6, 2) := by decide +kernel
theorem dX4_valueFact_121 : decode cX4_valueFact 121 = .ok (.invokevirtual 96, 3) := by decide +kernel
theorem dX4_valueFact_124 : decode cX4_valueFact 124 = .ok (.iload_n 3, 1) := by decide +kernel
theorem dX4_valueFact_125 : decode cX4_valueFact 125 = .ok (.invokevirtual 87, 3) := by decide +kernel
theorem dX4_valueFact_128 : decode cX4_valueFact 128 = .ok (.ireturn, 1) := by decide +kernel
theorem dX4_objectFact_0 : decode cX4_objectFact 0 = .ok (.aload_n 0, 1) := by decide +kernel
theorem dX4_objectFact_1 : decode cX4_objectFact 1 = .ok (.getfield 40, 3) := by decide +kernel
theorem dX4_objectFact_4 : decode cX4_objectFact 4 = .ok (.ifCond .eq 14, 3) := by decide +kernel
theorem dX4_objectFact_7 : decode cX4_objectFact 7 = .ok (.aload_n 0, 1) := by decide +kernel
theorem dX4_objectFact_8 : decode cX4_objectFact 8 = .ok (.getfield 14, 3) := by decide +kernel
theorem dX4_objectFact_11 : decode cX4_objectFact 11 = .ok (.iload_n 1, 1) := by decide +kernel
theorem dX4_objectFact_12 : decode cX4_objectFact 12 = .ok (.invokevirtual 110, 3) := by decide +kernel
theorem dX4_objectFact_15 : decode cX4_objectFact 15 = .ok (.ifCond .ne 5, 3) := by decide +kernel
theorem dX4_objectFact_18 : decode cX4_objectFact 18 = .ok (.iconst (-1), 1) := by decide +kernel
theorem dX4_objectFact_19 : decode cX4_objectFact 19 = .ok (.ireturn, 1) := by decide +kernel
theorem dX4_objectFact_20 : decode cX4_objectFact 20 = .ok (.iload_n 2, 1) := by decide +kernel
theorem dX4_objectFact_21 : decode cX4_objectFact 21 = .ok (.tableswitch 80 0 4 #[35, 44, 53, 62, 71], 35) := by decide +kernel
theorem dX4_objectFact_56 : decode cX4_objectFact 56 = .ok (.aload_n 0, 1) := by decide +kernel
theorem dX4_objectFact_57 : decode cX4_objectFact 57 = .ok (.getfield 14, 3) := by decide +kernel
theorem dX4_objectFact_60 : decode cX4_objectFact 60 = .ok (.iload_n 1, 1) := by decide +kernel
theorem dX4_objectFact_61 : decode cX4_objectFact 61 = .ok (.invokevirtual 113, 3) := by decide +kernel
theorem dX4_objectFact_64 : decode cX4_objectFact 64 = .ok (.ireturn, 1) := by decide +kernel
theorem dX4_objectFact_65 : decode cX4_objectFact 65 = .ok (.aload_n 0, 1) := by decide +kernel
theorem dX4_objectFact_66 : decode cX4_objectFact 66 = .ok (.getfield 14, 3) := by decide +kernel
theorem dX4_objectFact_69 : decode cX4_objectFact 69 = .ok (.iload_n 1, 1) := by decide +kernel
theorem dX4_objectFact_70 : decode cX4_objectFact 70 = .ok (.invokevirtual 116, 3) := by decide +kernel
theorem dX4_objectFact_73 : decode cX4_objectFact 73 = .ok (.ireturn, 1) := by decide +kernel
theorem dX4_objectFact_74 : decode cX4_objectFact 74 = .ok (.aload_n 0, 1) := by decide +kernel
theorem dX4_objectFact_75 : decode cX4_objectFact 75 = .ok (.getfield 14, 3) := by decide +kernel
theorem dX4_objectFact_78 : decode cX4_objectFact 78 = .ok (.iload_n 1, 1) := by decide +kernel
theorem dX4_objectFact_79 : decode cX4_objectFact 79 = .ok (.invokevirtual 119, 3) := by decide +kernel
theorem dX4_objectFact_82 : decode cX4_objectFact 82 = .ok (.ireturn, 1) := by decide +kernel
theorem dX4_objectFact_83 : decode cX4_objectFact 83 = .ok (.aload_n 0, 1) := by decide +kernel
theorem dX4_objectFact_84 : decode cX4_objectFact 84 = .ok (.getfield 14, 3) := by decide +kernel
theorem dX4_objectFact_87 : decode cX4_objectFact 87 = .ok (.iload_n 1, 1) := by decide +kernel
theorem dX4_objectFact_88 : decode cX4_objectFact 88 = .ok (.invokevirtual 122, 3) := by decide +kernel
theorem dX4_objectFact_91 : decode cX4_objectFact 91 = .ok (.ireturn, 1) := by decide +kernel
theorem dX4_objectFact_92 : decode cX4_objectFact 92 = .ok (.aload_n 0, 1) := by decide +kernel
theorem dX4_objectFact_93 : decode cX4_objectFact 93 = .ok (.getfield 14, 3) := by decide +kernel
theorem dX4_objectFact_96 : decode cX4_objectFact 96 = .ok (.iload_n 1, 1) := by decide +kernel
theorem dX4_objectFact_97 : decode cX4_objectFact 97 = .ok (.invokevirtual 125, 3) := by decide +kernel
theorem dX4_objectFact_100 : decode cX4_objectFact 100 = .ok (.ireturn, 1) := by decide +kernel
theorem dX4_objectFact_101 : decode cX4_objectFact 101 = .ok (.iconst (-1), 1) := by decide +kernel
theorem dX4_objectFact_102 : decode cX4_objectFact 102 = .ok (.ireturn, 1) := by decide +kernel
theorem dX4_propertyFact_0 : decode cX4_propertyFact 0 = .ok (.aload_n 0, 1) := by decide +kernel
theorem dX4_propertyFact_1 : decode cX4_propertyFact 1 = .ok (.getfield 40, 3) := by decide +kernel
theorem dX4_propertyFact_4 : decode cX4_propertyFact 4 = .ok (.ifCond .eq 19, 3) := by decide +kernel
theorem dX4_propertyFact_7 : decode cX4_propertyFact 7 = .ok (.iload_n 2, 1) := by decide +kernel
theorem dX4_propertyFact_8 : decode cX4_propertyFact 8 = .ok (.ifCond .lt 15, 3) := by decide +kernel
theorem dX4_propertyFact_11 : decode cX4_propertyFact 11 = .ok (.iload_n 2, 1) := by decide +kernel
theorem dX4_propertyFact_12 : decode cX4_propertyFact 12 = .ok (.aload_n 0, 1) := by decide +kernel
theorem dX4_propertyFact_13 : decode cX4_propertyFact 13 = .ok (.getfield 14, 3) := by decide +kernel
theorem dX4_propertyFact_16 : decode cX4_propertyFact 16 = .ok (.iload_n 1, 1) := by decide +kernel
theorem dX4_propertyFact_17 : decode cX4_propertyFact 17 = .ok (.invokevirtual 122, 3) := by decide +kernel
theorem dX4_propertyFact_20 : decode cX4_propertyFact 20 = .ok (.if_icmp .lt 5, 3) := by decide +kernel
theorem dX4_propertyFact_23 : decode cX4_propertyFact 23 = .ok (.iconst (-1), 1) := by decide +kernel
theorem dX4_propertyFact_24 : decode cX4_propertyFact 24 = .ok (.ireturn, 1) := by decide +kernel
theorem dX4_propertyFact_25 : decode cX4_propertyFact 25 = .ok (.aload_n 0, 1) := by decide +kernel
theorem dX4_propertyFact_26 : decode cX4_propertyFact 26 = .ok (.getfield 14, 3) := by decide +kernel
theorem dX4_propertyFact_29 : decode cX4_propertyFact 29 = .ok (.iload_n 1, 1) := by decide +kernel
theorem dX4_propertyFact_30 : decode cX4_propertyFact 30 = .ok (.invokevirtual 128, 3) := by decide +kernel
theorem dX4_propertyFact_33 : decode cX4_propertyFact 33 = .ok (.istore 4, 2) := by decide +kernel
theorem dX4_propertyFact_35 : decode cX4_propertyFact 35 = .ok (.iconst 0, 1) := by decide +kernel
theorem dX4_propertyFact_36 : decode cX4_propertyFact 36 = .ok (.istore 5, 2) := by decide +kernel
theorem dX4_propertyFact_38 : decode cX4_propertyFact 38 = .ok (.iload 5, 2) := by decide +kernel
theorem dX4_propertyFact_40 : decode cX4_propertyFact 40 = .ok (.iload_n 2, 1) := by decide +kernel
theorem dX4_propertyFact_41 : decode cX4_propertyFact 41 = .ok (.if_icmp .ge 25, 3) := by decide +kernel
theorem dX4_propertyFact_44 : decode cX4_propertyFact 44 = .ok (.iload 4, 2) := by decide +kernel
theorem dX4_propertyFact_46 : decode cX4_propertyFact 46 = .ok (.ifCond .lt 20, 3) := by decide +kernel
theorem dX4_propertyFact_49 : decode cX4_propertyFact 49 = .ok (.aload_n 0, 1) := by decide +kernel
theorem dX4_propertyFact_50 : decode cX4_propertyFact 50 = .ok (.getfield 14, 3) := by decide +kernel
theorem dX4_propertyFact_53 : decode cX4_propertyFact 53 = .ok (.iload 4, 2) := by decide +kernel
theorem dX4_propertyFact_55 : decode cX4_propertyFact 55 = .ok (.invokevirtual 131, 3) := by decide +kernel
theorem dX4_propertyFact_58 : decode cX4_propertyFact 58 = .ok (.istore 4, 2) := by decide +kernel
theorem dX4_propertyFact_60 : decode cX4_propertyFact 60 = .ok (.iinc 5 1, 3) := by decide +kernel
theorem dX4_propertyFact_63 : decode cX4_propertyFact 63 = .ok (.goto (-25), 3) := by decide +kernel
theorem dX4_propertyFact_66 : decode cX4_propertyFact 66 = .ok (.iload 4, 2) := by decide +kernel
theorem dX4_propertyFact_68 : decode cX4_propertyFact 68 = .ok (.ifCond .lt 12, 3) := by decide +kernel
theorem dX4_propertyFact_71 : decode cX4_propertyFact 71 = .ok (.iload_n 3, 1) := by decide +kernel
theorem dX4_propertyFact_72 : decode cX4_propertyFact 72 = .ok (.ifCond .lt 8, 3) := by decide +kernel
theorem dX4_propertyFact_75 : decode cX4_propertyFact 75 = .ok (.iload_n 3, 1) := by decide +kernel
theorem dX4_propertyFact_76 : decode cX4_propertyFact 76 = .ok (.iconst 2, 1) := by decide +kernel
theorem dX4_propertyFact_77 : decode cX4_propertyFact 77 = .ok (.if_icmp .le 5, 3) := by decide +kernel
theorem dX4_propertyFact_80 : decode cX4_propertyFact 80 = .ok (.iconst (-1), 1) := by decide +kernel
theorem dX4_propertyFact_81 : decode cX4_propertyFact 81 = .ok (.ireturn, 1) := by decide +kernel
theorem dX4_propertyFact_82 : decode cX4_propertyFact 82 = .ok (.iload_n 3, 1) := by decide +kernel
theorem dX4_propertyFact_83 : decode cX4_propertyFact 83 = .ok (.ifCond .ne 15, 3) := by decide +kernel
theorem dX4_propertyFact_86 : decode cX4_propertyFact 86 = .ok (.aload_n 0, 1) := by decide +kernel
theorem dX4_propertyFact_87 : decode cX4_propertyFact 87 = .ok (.getfield 14, 3) := by decide +kernel
theorem dX4_propertyFact_90 : decode cX4_propertyFact 90 = .ok (.iload 4, 2) := by decide +kernel
theorem dX4_propertyFact_92 : decode cX4_propertyFact 92 = .ok (.invokevirtual 134, 3) := by decide +kernel
theorem dX4_propertyFact_95 : decode cX4_propertyFact 95 = .ok (.goto 28, 3) := by decide +kernel
theorem dX4_propertyFact_98 : decode cX4_propertyFact 98 = .ok (.aload_n 0, 1) := by decide +kernel
theorem dX4_propertyFact_99 : decode cX4_propertyFact 99 = .ok (.aload_n 0, 1) := by decide +kernel
theorem dX4_propertyFact_100 : decode cX4_propertyFact 100 = .ok (.getfield 14, 3) := by decide +kernel
theorem dX4_propertyFact_103 : decode cX4_propertyFact 103 = .ok (.iload 4, 2) := by decide +kernel
theorem dX4_propertyFact_105 : decode cX4_propertyFact 105 = .ok (.invokevirtual 137, 3) := by decide +kernel
theorem dX4_propertyFact_108 : decode cX4_propertyFact 108 = .ok (.aload_n 0, 1) := by decide +kernel
theorem dX4_propertyFact_109 : decode cX4_propertyFact 109 = .ok (.getfield 14, 3) := by decide +kernel
theorem dX4_propertyFact_112 : decode cX4_propertyFact 112 = .ok (.iload 4, 2) := by decide +kernel
theorem dX4_propertyFact_114 : decode cX4_propertyFact 114 = .ok (.invokevirtual 140, 3) := by decide +kernel
theorem dX4_propertyFact_117 : decode cX4_propertyFact 117 = .ok (.iload_n 3, 1) := by decide +kernel
theorem dX4_propertyFact_118 : decode cX4_propertyFact 118 = .ok (.iconst 1, 1) := by decide +kernel
theorem dX4_propertyFact_119 : decode cX4_propertyFact 119 = .ok (.isub, 1) := by decide +kernel
theorem dX4_propertyFact_120 : decode cX4_propertyFact 120 = .ok (.invokevirtual 87, 3) := by decide +kernel
theorem dX4_propertyFact_123 : decode cX4_propertyFact 123 = .ok (.ireturn, 1) := by decide +kernel
theorem dX4_printedSign_0 : decode cX4_printedSign 0 = .ok (.aload_n 0, 1) := by decide +kernel
theorem dX4_printedSign_1 : decode cX4_printedSign 1 = .ok (.getfield 40, 3) := by decide +kernel
theorem dX4_printedSign_4 : decode cX4_printedSign 4 = .ok (.ifCond .eq 15, 3) := by decide +kernel
theorem dX4_printedSign_7 : decode cX4_printedSign 7 = .ok (.iload_n 1, 1) := by decide +kernel
theorem dX4_printedSign_8 : decode cX4_printedSign 8 = .ok (.ifCond .lt 11, 3) := by decide +kernel
theorem dX4_printedSign_11 : decode cX4_printedSign 11 = .ok (.iload_n 1, 1) := by decide +kernel
theorem dX4_printedSign_12 : decode cX4_printedSign 12 = .ok (.aload_n 0, 1) := by decide +kernel
theorem dX4_printedSign_13 : decode cX4_printedSign 13 = .ok (.getfield 68, 3) := by decide +kernel
theorem dX4_printedSign_16 : decode cX4_printedSign 16 = .ok (.if_icmp .lt 5, 3) := by decide +kernel
theorem dX4_printedSign_19 : decode cX4_printedSign 19 = .ok (.iconst (-1), 1) := by decide +kernel
theorem dX4_printedSign_20 : decode cX4_printedSign 20 = .ok (.ireturn, 1) := by decide +kernel
theorem dX4_printedSign_21 : decode cX4_printedSign 21 = .ok (.iload_n 2, 1) := by decide +kernel
theorem dX4_printedSign_22 : decode cX4_printedSign 22 = .ok (.iconst (-1), 1) := by decide +kernel
theorem dX4_printedSign_23 : decode cX4_printedSign 23 = .ok (.if_icmp .ne 12, 3) := by decide +kernel
theorem dX4_printedSign_26 : decode cX4_printedSign 26 = .ok (.aload_n 0, 1) := by decide +kernel
theorem dX4_printedSign_27 : decode cX4_printedSign 27 = .ok (.getfield 29, 3) := by decide +kernel
theorem dX4_printedSign_30 : decode cX4_printedSign 30 = .ok (.iload_n 1, 1) := by decide +kernel
theorem dX4_printedSign_31 : decode cX4_printedSign 31 = .ok (.iaload, 1) := by decide +kernel
theorem dX4_printedSign_32 : decode cX4_printedSign 32 = .ok (.goto 17, 3) := by decide +kernel
theorem dX4_printedSign_35 : decode cX4_printedSign 35 = .ok (.aload_n 0, 1) := by decide +kernel
theorem dX4_printedSign_36 : decode cX4_printedSign 36 = .ok (.getfield 36, 3) := by decide +kernel
theorem dX4_printedSign_39 : decode cX4_printedSign 39 = .ok (.aload_n 0, 1) := by decide +kernel
theorem dX4_printedSign_40 : decode cX4_printedSign 40 = .ok (.getfield 29, 3) := by decide +kernel
theorem dX4_printedSign_43 : decode cX4_printedSign 43 = .ok (.iload_n 1, 1) := by decide +kernel
theorem dX4_printedSign_44 : decode cX4_printedSign 44 = .ok (.iaload, 1) := by decide +kernel
theorem dX4_printedSign_45 : decode cX4_printedSign 45 = .ok (.iload_n 2, 1) := by decide +kernel
theorem dX4_printedSign_46 : decode cX4_printedSign 46 = .ok (.invokevirtual 143, 3) := by decide +kernel
theorem dX4_printedSign_49 : decode cX4_printedSign 49 = .ok (.ireturn, 1) := by decide +kernel
theorem dX4_uncaughtFact_0 : decode cX4_uncaughtFact 0 = .ok (.aload_n 0, 1) := by decide +kernel
theorem dX4_uncaughtFact_1 : decode cX4_uncaughtFact 1 = .ok (.getfield 40, 3) := by decide +kernel
theorem dX4_uncaughtFact_4 : decode cX4_uncaughtFact 4 = .ok (.iconst 3, 1) := by decide +kernel
theorem dX4_uncaughtFact_5 : decode cX4_uncaughtFact 5 = .ok (.if_icmp .ne 19, 3) := by decide +kernel
theorem dX4_uncaughtFact_8 : decode cX4_uncaughtFact 8 = .ok (.aload_n 0, 1) := by decide +kernel
theorem dX4_uncaughtFact_9 : decode cX4_uncaughtFact 9 = .ok (.aload_n 0, 1) := by decide +kernel
theorem dX4_uncaughtFact_10 : decode cX4_uncaughtFact 10 = .ok (.getfield 146, 3) := by decide +kernel
theorem dX4_uncaughtFact_13 : decode cX4_uncaughtFact 13 = .ok (.aload_n 0, 1) := by decide +kernel
theorem dX4_uncaughtFact_14 : decode cX4_uncaughtFact 14 = .ok (.getfield 149, 3) := by decide +kernel
theorem dX4_uncaughtFact_17 : decode cX4_uncaughtFact 17 = .ok (.iload_n 1, 1) := by decide +kernel
theorem dX4_uncaughtFact_18 : decode cX4_uncaughtFact 18 = .ok (.invokevirtual 87, 3) := by decide +kernel
theorem dX4_uncaughtFact_21 : decode cX4_uncaughtFact 21 = .ok (.goto 4, 3) := by decide +kernel
theorem dX4_uncaughtFact_24 : decode cX4_uncaughtFact 24 = .ok (.iconst (-1), 1) := by decide +kernel
theorem dX4_uncaughtFact_25 : decode cX4_uncaughtFact 25 = .ok (.ireturn, 1) := by decide +kernel
theorem dX8_isReached_0 : decode cX8_isReached 0 = .ok (.aload_n 0, 1) := by decide +kernel
theorem dX8_isReached_1 : decode cX8_isReached 1 = .ok (.getfield 82, 3) := by decide +kernel
theorem dX8_isReached_4 : decode cX8_isReached 4 = .ok (.ifCond .eq 31, 3) := by decide +kernel
theorem dX8_isReached_7 : decode cX8_isReached 7 = .ok (.iload_n 1, 1) := by decide +kernel
theorem dX8_isReached_8 : decode cX8_isReached 8 = .ok (.ifCond .lt 27, 3) := by decide +kernel
theorem dX8_isReached_11 : decode cX8_isReached 11 = .ok (.iload_n 1, 1) := by decide +kernel
theorem dX8_isReached_12 : decode cX8_isReached 12 = .ok (.aload_n 0, 1) := by decide +kernel
theorem dX8_isReached_13 : decode cX8_isReached 13 = .ok (.getfield 74, 3) := by decide +kernel
theorem dX8_isReached_16 : decode cX8_isReached 16 = .ok (.getfield 86, 3) := by decide +kernel
theorem dX8_isReached_19 : decode cX8_isReached 19 = .ok (.if_icmp .ge 16, 3) := by decide +kernel
theorem dX8_isReached_22 : decode cX8_isReached 22 = .ok (.aload_n 0, 1) := by decide +kernel
theorem dX8_isReached_23 : decode cX8_isReached 23 = .ok (.getfield 27, 3) := by decide +kernel
theorem dX8_isReached_26 : decode cX8_isReached 26 = .ok (.iload_n 1, 1) := by decide +kernel
theorem dX8_isReached_27 : decode cX8_isReached 27 = .ok (.baload, 1) := by decide +kernel
theorem dX8_isReached_28 : decode cX8_isReached 28 = .ok (.ifCond .eq 7, 3) := by decide +kernel
theorem dX8_isReached_31 : decode cX8_isReached 31 = .ok (.iconst 1, 1) := by decide +kernel
theorem dX8_isReached_32 : decode cX8_isReached 32 = .ok (.goto 4, 3) := by decide +kernel
theorem dX8_isReached_35 : decode cX8_isReached 35 = .ok (.iconst 0, 1) := by decide +kernel
theorem dX8_isReached_36 : decode cX8_isReached 36 = .ok (.ireturn, 1) := by decide +kernel
theorem dX8_resultFact_0 : decode cX8_resultFact 0 = .ok (.aload_n 0, 1) := by decide +kernel
theorem dX8_resultFact_1 : decode cX8_resultFact 1 = .ok (.getfield 82, 3) := by decide +kernel
theorem dX8_resultFact_4 : decode cX8_resultFact 4 = .ok (.ifCond .eq 27, 3) := by decide +kernel
theorem dX8_resultFact_7 : decode cX8_resultFact 7 = .ok (.iload_n 1, 1) := by decide +kernel
theorem dX8_resultFact_8 : decode cX8_resultFact 8 = .ok (.ifCond .lt 23, 3) := by decide +kernel
theorem dX8_resultFact_11 : decode cX8_resultFact 11 = .ok (.iload_n 1, 1) := by decide +kernel
theorem dX8_resultFact_12 : decode cX8_resultFact 12 = .ok (.aload_n 0, 1) := by decide +kernel
theorem dX8_resultFact_13 : decode cX8_resultFact 13 = .ok (.getfield 74, 3) := by decide +kernel
theorem dX8_resultFact_16 : decode cX8_resultFact 16 = .ok (.getfield 123, 3) := by decide +kernel
theorem dX8_resultFact_19 : decode cX8_resultFact 19 = .ok (.if_icmp .ge 12, 3) := by decide +kernel
theorem dX8_resultFact_22 : decode cX8_resultFact 22 = .ok (.iload_n 2, 1) := by decide +kernel
theorem dX8_resultFact_23 : decode cX8_resultFact 23 = .ok (.ifCond .lt 8, 3) := by decide +kernel
theorem dX8_resultFact_26 : decode cX8_resultFact 26 = .ok (.iload_n 2, 1) := by decide +kernel
theorem dX8_resultFact_27 : decode cX8_resultFact 27 = .ok (.iconst 1, 1) := by decide +kernel
theorem dX8_resultFact_28 : decode cX8_resultFact 28 = .ok (.if_icmp .le 5, 3) := by decide +kernel
theorem dX8_resultFact_31 : decode cX8_resultFact 31 = .ok (.lconst 0, 1) := by decide +kernel
theorem dX8_resultFact_32 : decode cX8_resultFact 32 = .ok (.lreturn, 1) := by decide +kernel
theorem dX8_resultFact_33 : decode cX8_resultFact 33 = .ok (.aload_n 0, 1) := by decide +kernel
theorem dX8_resultFact_34 : decode cX8_resultFact 34 = .ok (.iload_n 1, 1) := by decide +kernel
theorem dX8_resultFact_35 : decode cX8_resultFact 35 = .ok (.invokevirtual 126, 3) := by decide +kernel
theorem dX8_resultFact_38 : decode cX8_resultFact 38 = .ok (.iload_n 2, 1) := by decide +kernel
theorem dX8_resultFact_39 : decode cX8_resultFact 39 = .ok (.iadd, 1) := by decide +kernel
theorem dX8_resultFact_40 : decode cX8_resultFact 40 = .ok (.istore 4, 2) := by decide +kernel
theorem dX8_resultFact_42 : decode cX8_resultFact 42 = .ok (.aload_n 0, 1) := by decide +kernel
theorem dX8_resultFact_43 : decode cX8_resultFact 43 = .ok (.getfield 27, 3) := by decide +kernel
theorem dX8_resultFact_46 : decode cX8_resultFact 46 = .ok (.iload 4, 2) := by decide +kernel
theorem dX8_resultFact_48 : decode cX8_resultFact 48 = .ok (.baload, 1) := by decide +kernel
theorem dX8_resultFact_49 : decode cX8_resultFact 49 = .ok (.ifCond .eq 17, 3) := by decide +kernel
theorem dX8_resultFact_52 : decode cX8_resultFact 52 = .ok (.aload_n 0, 1) := by decide +kernel
theorem dX8_resultFact_53 : decode cX8_resultFact 53 = .ok (.aload_n 0, 1) := by decide +kernel
theorem dX8_resultFact_54 : decode cX8_resultFact 54 = .ok (.iload 4, 2) := by decide +kernel
theorem dX8_resultFact_56 : decode cX8_resultFact 56 = .ok (.invokevirtual 103, 3) := by decide +kernel
theorem dX8_resultFact_59 : decode cX8_resultFact 59 = .ok (.iload_n 3, 1) := by decide +kernel
theorem dX8_resultFact_60 : decode cX8_resultFact 60 = .ok (.invokevirtual 107, 3) := by decide +kernel
theorem dX8_resultFact_63 : decode cX8_resultFact 63 = .ok (.goto 4, 3) := by decide +kernel
theorem dX8_resultFact_66 : decode cX8_resultFact 66 = .ok (.lconst 0, 1) := by decide +kernel
theorem dX8_resultFact_67 : decode cX8_resultFact 67 = .ok (.lreturn, 1) := by decide +kernel
theorem dX11_feed_0 : decode cX11_feed 0 = .ok (.aload_n 0, 1) := by decide +kernel
theorem dX11_feed_1 : decode cX11_feed 1 = .ok (.getfield 61, 3) := by decide +kernel
theorem dX11_feed_4 : decode cX11_feed 4 = .ok (.sipush 3980, 3) := by decide +kernel
theorem dX11_feed_7 : decode cX11_feed 7 = .ok (.if_icmp .le 5, 3) := by decide +kernel
theorem dX11_feed_10 : decode cX11_feed 10 = .ok (.iconst (-1), 1) := by decide +kernel
theorem dX11_feed_11 : decode cX11_feed 11 = .ok (.ireturn, 1) := by decide +kernel
theorem dX11_feed_12 : decode cX11_feed 12 = .ok (.aload_n 0, 1) := by decide +kernel
theorem dX11_feed_13 : decode cX11_feed 13 = .ok (.iload_n 1, 1) := by decide +kernel
theorem dX11_feed_14 : decode cX11_feed 14 = .ok (.invokevirtual 69, 3) := by decide +kernel
theorem dX11_feed_17 : decode cX11_feed 17 = .ok (.aload_n 0, 1) := by decide +kernel
theorem dX11_feed_18 : decode cX11_feed 18 = .ok (.iload_n 2, 1) := by decide +kernel
theorem dX11_feed_19 : decode cX11_feed 19 = .ok (.invokevirtual 69, 3) := by decide +kernel
theorem dX11_feed_22 : decode cX11_feed 22 = .ok (.aload_n 0, 1) := by decide +kernel
theorem dX11_feed_23 : decode cX11_feed 23 = .ok (.iload_n 3, 1) := by decide +kernel
theorem dX11_feed_24 : decode cX11_feed 24 = .ok (.invokevirtual 69, 3) := by decide +kernel
theorem dX11_feed_27 : decode cX11_feed 27 = .ok (.aload_n 0, 1) := by decide +kernel
theorem dX11_feed_28 : decode cX11_feed 28 = .ok (.iload 4, 2) := by decide +kernel
theorem dX11_feed_30 : decode cX11_feed 30 = .ok (.invokevirtual 69, 3) := by decide +kernel
theorem dX11_feed_33 : decode cX11_feed 33 = .ok (.aload_n 0, 1) := by decide +kernel
theorem dX11_feed_34 : decode cX11_feed 34 = .ok (.iload 5, 2) := by decide +kernel
theorem dX11_feed_36 : decode cX11_feed 36 = .ok (.invokevirtual 69, 3) := by decide +kernel
theorem dX11_feed_39 : decode cX11_feed 39 = .ok (.aload_n 0, 1) := by decide +kernel
theorem dX11_feed_40 : decode cX11_feed 40 = .ok (.getfield 61, 3) := by decide +kernel
theorem dX11_feed_43 : decode cX11_feed 43 = .ok (.ireturn, 1) := by decide +kernel
theorem dX11_feedWord_0 : decode cX11_feedWord 0 = .ok (.bipush 24, 2) := by decide +kernel
theorem dX11_feedWord_2 : decode cX11_feedWord 2 = .ok (.istore_n 2, 1) := by decide +kernel
theorem dX11_feedWord_3 : decode cX11_feedWord 3 = .ok (.iload_n 2, 1) := by decide +kernel
theorem dX11_feedWord_4 : decode cX11_feedWord 4 = .ok (.ifCond .lt 45, 3) := by decide +kernel
theorem dX11_feedWord_7 : decode cX11_feedWord 7 = .ok (.aload_n 0, 1) := by decide +kernel
theorem dX11_feedWord_8 : decode cX11_feedWord 8 = .ok (.getfield 61, 3) := by decide +kernel
theorem dX11_feedWord_11 : decode cX11_feedWord 11 = .ok (.sipush 4000, 3) := by decide +kernel
theorem dX11_feedWord_14 : decode cX11_feedWord 14 = .ok (.if_icmp .ge 29, 3) := by decide +kernel
theorem dX11_feedWord_17 : decode cX11_feedWord 17 = .ok (.aload_n 0, 1) := by decide +kernel
theorem dX11_feedWord_18 : decode cX11_feedWord 18 = .ok (.getfield 9, 3) := by decide +kernel
theorem dX11_feedWord_21 : decode cX11_feedWord 21 = .ok (.aload_n 0, 1) := by decide +kernel
theorem dX11_feedWord_22 : decode cX11_feedWord 22 = .ok (.getfield 61, 3) := by decide +kernel
theorem dX11_feedWord_25 : decode cX11_feedWord 25 = .ok (.iload_n 1, 1) := by decide +kernel
theorem dX11_feedWord_26 : decode cX11_feedWord 26 = .ok (.iload_n 2, 1) := by decide +kernel
theorem dX11_feedWord_27 : decode cX11_feedWord 27 = .ok (.iushr, 1) := by decide +kernel
theorem dX11_feedWord_28 : decode cX11_feedWord 28 = .ok (.sipush 255, 3) := by decide +kernel
theorem dX11_feedWord_31 : decode cX11_feedWord 31 = .ok (.iand, 1) := by decide +kernel
theorem dX11_feedWord_32 : decode cX11_feedWord 32 = .ok (.iastore, 1) := by decide +kernel
theorem dX11_feedWord_33 : decode cX11_feedWord 33 = .ok (.aload_n 0, 1) := by decide +kernel
theorem dX11_feedWord_34 : decode cX11_feedWord 34 = .ok (.dup, 1) := by decide +kernel
theorem dX11_feedWord_35 : decode cX11_feedWord 35 = .ok (.getfield 61, 3) := by decide +kernel
theorem dX11_feedWord_38 : decode cX11_feedWord 38 = .ok (.iconst 1, 1) := by decide +kernel
theorem dX11_feedWord_39 : decode cX11_feedWord 39 = .ok (.iadd, 1) := by decide +kernel
theorem dX11_feedWord_40 : decode cX11_feedWord 40 = .ok (.putfield 61, 3) := by decide +kernel
theorem dX11_feedWord_43 : decode cX11_feedWord 43 = .ok (.iinc 2 (-8), 3) := by decide +kernel
theorem dX11_feedWord_46 : decode cX11_feedWord 46 = .ok (.goto (-43), 3) := by decide +kernel
theorem dX11_feedWord_49 : decode cX11_feedWord 49 = .ok (.return_, 1) := by decide +kernel
theorem dX11_back_0 : decode cX11_back 0 = .ok (.iload_n 1, 1) := by decide +kernel
theorem dX11_back_1 : decode cX11_back 1 = .ok (.ifCond .lt 11, 3) := by decide +kernel
theorem dX11_back_4 : decode cX11_back 4 = .ok (.iload_n 1, 1) := by decide +kernel
theorem dX11_back_5 : decode cX11_back 5 = .ok (.aload_n 0, 1) := by decide +kernel
theorem dX11_back_6 : decode cX11_back 6 = .ok (.getfield 61, 3) := by decide +kernel
theorem dX11_back_9 : decode cX11_back 9 = .ok (.if_icmp .le 5, 3) := by decide +kernel
theorem dX11_back_12 : decode cX11_back 12 = .ok (.iconst (-1), 1) := by decide +kernel
theorem dX11_back_13 : decode cX11_back 13 = .ok (.ireturn, 1) := by decide +kernel
theorem dX11_back_14 : decode cX11_back 14 = .ok (.aload_n 0, 1) := by decide +kernel
theorem dX11_back_15 : decode cX11_back 15 = .ok (.dup, 1) := by decide +kernel
theorem dX11_back_16 : decode cX11_back 16 = .ok (.getfield 61, 3) := by decide +kernel
theorem dX11_back_19 : decode cX11_back 19 = .ok (.iload_n 1, 1) := by decide +kernel
theorem dX11_back_20 : decode cX11_back 20 = .ok (.isub, 1) := by decide +kernel
theorem dX11_back_21 : decode cX11_back 21 = .ok (.putfield 61, 3) := by decide +kernel
theorem dX11_back_24 : decode cX11_back 24 = .ok (.aload_n 0, 1) := by decide +kernel
theorem dX11_back_25 : decode cX11_back 25 = .ok (.getfield 61, 3) := by decide +kernel
theorem dX11_back_28 : decode cX11_back 28 = .ok (.ireturn, 1) := by decide +kernel
theorem dX11_letter_0 : decode cX11_letter 0 = .ok (.aload_n 0, 1) := by decide +kernel
theorem dX11_letter_1 : decode cX11_letter 1 = .ok (.getfield 65, 3) := by decide +kernel
theorem dX11_letter_4 : decode cX11_letter 4 = .ok (.ifCond .eq 15, 3) := by decide +kernel
theorem dX11_letter_7 : decode cX11_letter 7 = .ok (.aload_n 0, 1) := by decide +kernel
theorem dX11_letter_8 : decode cX11_letter 8 = .ok (.getfield 16, 3) := by decide +kernel
theorem dX11_letter_11 : decode cX11_letter 11 = .ok (.iload_n 1, 1) := by decide +kernel
theorem dX11_letter_12 : decode cX11_letter 12 = .ok (.iload_n 2, 1) := by decide +kernel
theorem dX11_letter_13 : decode cX11_letter 13 = .ok (.invokevirtual 99, 3) := by decide +kernel
theorem dX11_letter_16 : decode cX11_letter 16 = .ok (.goto 4, 3) := by decide +kernel
theorem dX11_letter_19 : decode cX11_letter 19 = .ok (.iconst (-1), 1) := by decide +kernel
theorem dX11_letter_20 : decode cX11_letter 20 = .ok (.ireturn, 1) := by decide +kernel
theorem dX11_instruction_0 : decode cX11_instruction 0 = .ok (.aload_n 0, 1) := by decide +kernel
theorem dX11_instruction_1 : decode cX11_instruction 1 = .ok (.getfield 65, 3) := by decide +kernel
theorem dX11_instruction_4 : decode cX11_instruction 4 = .ok (.ifCond .eq 18, 3) := by decide +kernel
theorem dX11_instruction_7 : decode cX11_instruction 7 = .ok (.iload_n 1, 1) := by decide +kernel
theorem dX11_instruction_8 : decode cX11_instruction 8 = .ok (.ifCond .lt 14, 3) := by decide +kernel
theorem dX11_instruction_11 : decode cX11_instruction 11 = .ok (.iload_n 1, 1) := by decide +kernel
theorem dX11_instruction_12 : decode cX11_instruction 12 = .ok (.aload_n 0, 1) := by decide +kernel
theorem dX11_instruction_13 : decode cX11_instruction 13 = .ok (.getfield 23, 3) := by decide +kernel
theorem dX11_instruction_16 : decode cX11_instruction 16 = .ok (.getfield 103, 3) := by decide +kernel
theorem dX11_instruction_19 : decode cX11_instruction 19 = .ok (.if_icmp .lt 5, 3) := by decide +kernel
theorem dX11_instruction_22 : decode cX11_instruction 22 = .ok (.iconst (-1), 1) := by decide +kernel
theorem dX11_instruction_23 : decode cX11_instruction 23 = .ok (.ireturn, 1) := by decide +kernel
theorem dX11_instruction_24 : decode cX11_instruction 24 = .ok (.iload_n 2, 1) := by decide +kernel
theorem dX11_instruction_25 : decode cX11_instruction 25 = .ok (.tableswitch 71 0 3 #[31, 41, 51, 61], 31) := by decide +kernel
theorem dX11_instruction_56 : decode cX11_instruction 56 = .ok (.aload_n 0, 1) := by decide +kernel
theorem dX11_instruction_57 : decode cX11_instruction 57 = .ok (.getfield 23, 3) := by decide +kernel
theorem dX11_instruction_60 : decode cX11_instruction 60 = .ok (.getfield 104, 3) := by decide +kernel
theorem dX11_instruction_63 : decode cX11_instruction 63 = .ok (.iload_n 1, 1) := by decide +kernel
theorem dX11_instruction_64 : decode cX11_instruction 64 = .ok (.iaload, 1) := by decide +kernel
theorem dX11_instruction_65 : decode cX11_instruction 65 = .ok (.ireturn, 1) := by decide +kernel
theorem dX11_instruction_66 : decode cX11_instruction 66 = .ok (.aload_n 0, 1) := by decide +kernel
theorem dX11_instruction_67 : decode cX11_instruction 67 = .ok (.getfield 23, 3) := by decide +kernel
theorem dX11_instruction_70 : decode cX11_instruction 70 = .ok (.getfield 107, 3) := by decide +kernel
theorem dX11_instruction_73 : decode cX11_instruction 73 = .ok (.iload_n 1, 1) := by decide +kernel
theorem dX11_instruction_74 : decode cX11_instruction 74 = .ok (.iaload, 1) := by decide +kernel
theorem dX11_instruction_75 : decode cX11_instruction 75 = .ok (.ireturn, 1) := by decide +kernel
theorem dX11_instruction_76 : decode cX11_instruction 76 = .ok (.aload_n 0, 1) := by decide +kernel
theorem dX11_instruction_77 : decode cX11_instruction 77 = .ok (.getfield 23, 3) := by decide +kernel
theorem dX11_instruction_80 : decode cX11_instruction 80 = .ok (.getfield 110, 3) := by decide +kernel
theorem dX11_instruction_83 : decode cX11_instruction 83 = .ok (.iload_n 1, 1) := by decide +kernel
theorem dX11_instruction_84 : decode cX11_instruction 84 = .ok (.iaload, 1) := by decide +kernel
theorem dX11_instruction_85 : decode cX11_instruction 85 = .ok (.ireturn, 1) := by decide +kernel
theorem dX11_instruction_86 : decode cX11_instruction 86 = .ok (.aload_n 0, 1) := by decide +kernel
theorem dX11_instruction_87 : decode cX11_instruction 87 = .ok (.getfield 23, 3) := by decide +kernel
theorem dX11_instruction_90 : decode cX11_instruction 90 = .ok (.getfield 113, 3) := by decide +kernel
theorem dX11_instruction_93 : decode cX11_instruction 93 = .ok (.iload_n 1, 1) := by decide +kernel
theorem dX11_instruction_94 : decode cX11_instruction 94 = .ok (.iaload, 1) := by decide +kernel
theorem dX11_instruction_95 : decode cX11_instruction 95 = .ok (.ireturn, 1) := by decide +kernel
theorem dX11_instruction_96 : decode cX11_instruction 96 = .ok (.iconst (-1), 1) := by decide +kernel
theorem dX11_instruction_97 : decode cX11_instruction 97 = .ok (.ireturn, 1) := by decide +kernel
theorem dX11_frame_0 : decode cX11_frame 0 = .ok (.aload_n 0, 1) := by decide +kernel
theorem dX11_frame_1 : decode cX11_frame 1 = .ok (.getfield 50, 3) := by decide +kernel
theorem dX11_frame_4 : decode cX11_frame 4 = .ok (.iload_n 1, 1) := by decide +kernel
theorem dX11_frame_5 : decode cX11_frame 5 = .ok (.iload_n 2, 1) := by decide +kernel
theorem dX11_frame_6 : decode cX11_frame 6 = .ok (.invokevirtual 140, 3) := by decide +kernel
theorem dX11_frame_9 : decode cX11_frame 9 = .ok (.ireturn, 1) := by decide +kernel
theorem dX11_value_0 : decode cX11_value 0 = .ok (.aload_n 0, 1) := by decide +kernel
theorem dX11_value_1 : decode cX11_value 1 = .ok (.getfield 50, 3) := by decide +kernel
theorem dX11_value_4 : decode cX11_value 4 = .ok (.iload_n 1, 1) := by decide +kernel
theorem dX11_value_5 : decode cX11_value 5 = .ok (.iload_n 2, 1) := by decide +kernel
theorem dX11_value_6 : decode cX11_value 6 = .ok (.iload_n 3, 1) := by decide +kernel
theorem dX11_value_7 : decode cX11_value 7 = .ok (.invokevirtual 143, 3) := by decide +kernel
theorem dX11_value_10 : decode cX11_value 10 = .ok (.ireturn, 1) := by decide +kernel
theorem dX11_object_0 : decode cX11_object 0 = .ok (.aload_n 0, 1) := by decide +kernel
theorem dX11_object_1 : decode cX11_object 1 = .ok (.getfield 50, 3) := by decide +kernel
theorem dX11_object_4 : decode cX11_object 4 = .ok (.iload_n 1, 1) := by decide +kernel
theorem dX11_object_5 : decode cX11_object 5 = .ok (.iload_n 2, 1) := by decide +kernel
theorem dX11_object_6 : decode cX11_object 6 = .ok (.invokevirtual 147, 3) := by decide +kernel
theorem dX11_object_9 : decode cX11_object 9 = .ok (.ireturn, 1) := by decide +kernel
theorem dX11_property_0 : decode cX11_property 0 = .ok (.aload_n 0, 1) := by decide +kernel
theorem dX11_property_1 : decode cX11_property 1 = .ok (.getfield 50, 3) := by decide +kernel
theorem dX11_property_4 : decode cX11_property 4 = .ok (.iload_n 1, 1) := by decide +kernel
theorem dX11_property_5 : decode cX11_property 5 = .ok (.iload_n 2, 1) := by decide +kernel
theorem dX11_property_6 : decode cX11_property 6 = .ok (.iload_n 3, 1) := by decide +kernel
theorem dX11_property_7 : decode cX11_property 7 = .ok (.invokevirtual 150, 3) := by decide +kernel
theorem dX11_property_10 : decode cX11_property 10 = .ok (.ireturn, 1) := by decide +kernel
theorem dX11_printed_0 : decode cX11_printed 0 = .ok (.aload_n 0, 1) := by decide +kernel
theorem dX11_printed_1 : decode cX11_printed 1 = .ok (.getfield 50, 3) := by decide +kernel
theorem dX11_printed_4 : decode cX11_printed 4 = .ok (.iload_n 1, 1) := by decide +kernel
theorem dX11_printed_5 : decode cX11_printed 5 = .ok (.iload_n 2, 1) := by decide +kernel
theorem dX11_printed_6 : decode cX11_printed 6 = .ok (.invokevirtual 153, 3) := by decide +kernel
theorem dX11_printed_9 : decode cX11_printed 9 = .ok (.ireturn, 1) := by decide +kernel
theorem dX11_uncaught_0 : decode cX11_uncaught 0 = .ok (.aload_n 0, 1) := by decide +kernel
theorem dX11_uncaught_1 : decode cX11_uncaught 1 = .ok (.getfield 50, 3) := by decide +kernel
theorem dX11_uncaught_4 : decode cX11_uncaught 4 = .ok (.iload_n 1, 1) := by decide +kernel
theorem dX11_uncaught_5 : decode cX11_uncaught 5 = .ok (.invokevirtual 156, 3) := by decide +kernel
theorem dX11_uncaught_8 : decode cX11_uncaught 8 = .ok (.ireturn, 1) := by decide +kernel
theorem dX11_height_0 : decode cX11_height 0 = .ok (.aload_n 0, 1) := by decide +kernel
theorem dX11_height_1 : decode cX11_height 1 = .ok (.getfield 57, 3) := by decide +kernel
theorem dX11_height_4 : decode cX11_height 4 = .ok (.iload_n 1, 1) := by decide +kernel
theorem dX11_height_5 : decode cX11_height 5 = .ok (.invokevirtual 165, 3) := by decide +kernel
theorem dX11_height_8 : decode cX11_height 8 = .ok (.ifCond .eq 15, 3) := by decide +kernel
theorem dX11_height_11 : decode cX11_height 11 = .ok (.aload_n 0, 1) := by decide +kernel
theorem dX11_height_12 : decode cX11_height 12 = .ok (.getfield 23, 3) := by decide +kernel
theorem dX11_height_15 : decode cX11_height 15 = .ok (.getfield 168, 3) := by decide +kernel
theorem dX11_height_18 : decode cX11_height 18 = .ok (.iload_n 1, 1) := by decide +kernel
theorem dX11_height_19 : decode cX11_height 19 = .ok (.iaload, 1) := by decide +kernel
theorem dX11_height_20 : decode cX11_height 20 = .ok (.goto 4, 3) := by decide +kernel
theorem dX11_height_23 : decode cX11_height 23 = .ok (.iconst (-1), 1) := by decide +kernel
theorem dX11_height_24 : decode cX11_height 24 = .ok (.ireturn, 1) := by decide +kernel
theorem dX11_slot_0 : decode cX11_slot 0 = .ok (.aload_n 0, 1) := by decide +kernel
theorem dX11_slot_1 : decode cX11_slot 1 = .ok (.getfield 57, 3) := by decide +kernel
theorem dX11_slot_4 : decode cX11_slot 4 = .ok (.iload_n 1, 1) := by decide +kernel
theorem dX11_slot_5 : decode cX11_slot 5 = .ok (.invokevirtual 165, 3) := by decide +kernel
theorem dX11_slot_8 : decode cX11_slot 8 = .ok (.ifCond .eq 16, 3) := by decide +kernel
theorem dX11_slot_11 : decode cX11_slot 11 = .ok (.aload_n 0, 1) := by decide +kernel
theorem dX11_slot_12 : decode cX11_slot 12 = .ok (.getfield 57, 3) := by decide +kernel
theorem dX11_slot_15 : decode cX11_slot 15 = .ok (.iload_n 1, 1) := by decide +kernel
theorem dX11_slot_16 : decode cX11_slot 16 = .ok (.iload_n 2, 1) := by decide +kernel
theorem dX11_slot_17 : decode cX11_slot 17 = .ok (.iload_n 3, 1) := by decide +kernel
theorem dX11_slot_18 : decode cX11_slot 18 = .ok (.invokevirtual 171, 3) := by decide +kernel
theorem dX11_slot_21 : decode cX11_slot 21 = .ok (.goto 4, 3) := by decide +kernel
theorem dX11_slot_24 : decode cX11_slot 24 = .ok (.lconst 0, 1) := by decide +kernel
theorem dX11_slot_25 : decode cX11_slot 25 = .ok (.lreturn, 1) := by decide +kernel
theorem dX11_field_0 : decode cX11_field 0 = .ok (.aload_n 0, 1) := by decide +kernel
theorem dX11_field_1 : decode cX11_field 1 = .ok (.getfield 57, 3) := by decide +kernel
theorem dX11_field_4 : decode cX11_field 4 = .ok (.iload_n 1, 1) := by decide +kernel
theorem dX11_field_5 : decode cX11_field 5 = .ok (.invokevirtual 165, 3) := by decide +kernel
theorem dX11_field_8 : decode cX11_field 8 = .ok (.ifCond .eq 18, 3) := by decide +kernel
theorem dX11_field_11 : decode cX11_field 11 = .ok (.aload_n 0, 1) := by decide +kernel
theorem dX11_field_12 : decode cX11_field 12 = .ok (.getfield 57, 3) := by decide +kernel
theorem dX11_field_15 : decode cX11_field 15 = .ok (.iload_n 1, 1) := by decide +kernel
theorem dX11_field_16 : decode cX11_field 16 = .ok (.iload_n 2, 1) := by decide +kernel
theorem dX11_field_17 : decode cX11_field 17 = .ok (.iload_n 3, 1) := by decide +kernel
theorem dX11_field_18 : decode cX11_field 18 = .ok (.iload 4, 2) := by decide +kernel
theorem dX11_field_20 : decode cX11_field 20 = .ok (.invokevirtual 175, 3) := by decide +kernel
theorem dX11_field_23 : decode cX11_field 23 = .ok (.goto 4, 3) := by decide +kernel
theorem dX11_field_26 : decode cX11_field 26 = .ok (.lconst 0, 1) := by decide +kernel
theorem dX11_field_27 : decode cX11_field 27 = .ok (.lreturn, 1) := by decide +kernel
theorem dX11_link_0 : decode cX11_link 0 = .ok (.aload_n 0, 1) := by decide +kernel
theorem dX11_link_1 : decode cX11_link 1 = .ok (.getfield 57, 3) := by decide +kernel
theorem dX11_link_4 : decode cX11_link 4 = .ok (.iload_n 1, 1) := by decide +kernel
theorem dX11_link_5 : decode cX11_link 5 = .ok (.invokevirtual 165, 3) := by decide +kernel
theorem dX11_link_8 : decode cX11_link 8 = .ok (.ifCond .eq 16, 3) := by decide +kernel
theorem dX11_link_11 : decode cX11_link 11 = .ok (.aload_n 0, 1) := by decide +kernel
theorem dX11_link_12 : decode cX11_link 12 = .ok (.getfield 57, 3) := by decide +kernel
theorem dX11_link_15 : decode cX11_link 15 = .ok (.iload_n 1, 1) := by decide +kernel
theorem dX11_link_16 : decode cX11_link 16 = .ok (.iload_n 2, 1) := by decide +kernel
theorem dX11_link_17 : decode cX11_link 17 = .ok (.iload_n 3, 1) := by decide +kernel
theorem dX11_link_18 : decode cX11_link 18 = .ok (.invokevirtual 179, 3) := by decide +kernel
theorem dX11_link_21 : decode cX11_link 21 = .ok (.goto 4, 3) := by decide +kernel
theorem dX11_link_24 : decode cX11_link 24 = .ok (.lconst 0, 1) := by decide +kernel
theorem dX11_link_25 : decode cX11_link 25 = .ok (.lreturn, 1) := by decide +kernel
theorem dX11_result_0 : decode cX11_result 0 = .ok (.aload_n 0, 1) := by decide +kernel
theorem dX11_result_1 : decode cX11_result 1 = .ok (.getfield 57, 3) := by decide +kernel
theorem dX11_result_4 : decode cX11_result 4 = .ok (.iload_n 1, 1) := by decide +kernel
theorem dX11_result_5 : decode cX11_result 5 = .ok (.iload_n 2, 1) := by decide +kernel
theorem dX11_result_6 : decode cX11_result 6 = .ok (.iload_n 3, 1) := by decide +kernel
theorem dX11_result_7 : decode cX11_result 7 = .ok (.invokevirtual 182, 3) := by decide +kernel
theorem dX11_result_10 : decode cX11_result 10 = .ok (.lreturn, 1) := by decide +kernel
theorem dX11_warns_0 : decode cX11_warns 0 = .ok (.aload_n 0, 1) := by decide +kernel
theorem dX11_warns_1 : decode cX11_warns 1 = .ok (.getfield 57, 3) := by decide +kernel
theorem dX11_warns_4 : decode cX11_warns 4 = .ok (.iload_n 1, 1) := by decide +kernel
theorem dX11_warns_5 : decode cX11_warns 5 = .ok (.invokevirtual 165, 3) := by decide +kernel
theorem dX11_warns_8 : decode cX11_warns 8 = .ok (.ifCond .eq 14, 3) := by decide +kernel
theorem dX11_warns_11 : decode cX11_warns 11 = .ok (.aload_n 0, 1) := by decide +kernel
theorem dX11_warns_12 : decode cX11_warns 12 = .ok (.getfield 57, 3) := by decide +kernel
theorem dX11_warns_15 : decode cX11_warns 15 = .ok (.iload_n 1, 1) := by decide +kernel
theorem dX11_warns_16 : decode cX11_warns 16 = .ok (.invokevirtual 185, 3) := by decide +kernel
theorem dX11_warns_19 : decode cX11_warns 19 = .ok (.goto 4, 3) := by decide +kernel
theorem dX11_warns_22 : decode cX11_warns 22 = .ok (.iconst (-1), 1) := by decide +kernel
theorem dX11_warns_23 : decode cX11_warns 23 = .ok (.ireturn, 1) := by decide +kernel
