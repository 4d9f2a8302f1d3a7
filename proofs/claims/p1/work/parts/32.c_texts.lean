def wsJ7_fill_53178 : List Cond := .code yJ7_fill_53178 cJ7_fill_53178 4 none :: ([])
theorem dX1_init_0 : decode cX1_init 0 = .ok (.aload_n 0, 1) := by decide +kernel
theorem dX1_init_1 : decode cX1_init 1 = .ok (.invokespecial 3, 3) := by decide +kernel
theorem dX1_init_4 : decode cX1_init 4 = .ok (.aload_n 0, 1) := by decide +kernel
theorem dX1_init_5 : decode cX1_init 5 = .ok (.sipush 600, 3) := by decide +kernel
theorem dX1_init_8 : decode cX1_init 8 = .ok (.newarray .int, 2) := by decide +kernel
theorem dX1_init_10 : decode cX1_init 10 = .ok (.putfield 9, 3) := by decide +kernel
theorem dX1_init_13 : decode cX1_init 13 = .ok (.aload_n 0, 1) := by decide +kernel
theorem dX1_init_14 : decode cX1_init 14 = .ok (.sipush 600, 3) := by decide +kernel
theorem dX1_init_17 : decode cX1_init 17 = .ok (.newarray .int, 2) := by decide +kernel
theorem dX1_init_19 : decode cX1_init 19 = .ok (.putfield 15, 3) := by decide +kernel
theorem dX1_init_22 : decode cX1_init 22 = .ok (.aload_n 0, 1) := by decide +kernel
theorem dX1_init_23 : decode cX1_init 23 = .ok (.sipush 600, 3) := by decide +kernel
theorem dX1_init_26 : decode cX1_init 26 = .ok (.newarray .int, 2) := by decide +kernel
theorem dX1_init_28 : decode cX1_init 28 = .ok (.putfield 18, 3) := by decide +kernel
theorem dX1_init_31 : decode cX1_init 31 = .ok (.aload_n 0, 1) := by decide +kernel
theorem dX1_init_32 : decode cX1_init 32 = .ok (.sipush 600, 3) := by decide +kernel
theorem dX1_init_35 : decode cX1_init 35 = .ok (.newarray .int, 2) := by decide +kernel
theorem dX1_init_37 : decode cX1_init 37 = .ok (.putfield 21, 3) := by decide +kernel
theorem dX1_init_40 : decode cX1_init 40 = .ok (.aload_n 0, 1) := by decide +kernel
theorem dX1_init_41 : decode cX1_init 41 = .ok (.sipush 600, 3) := by decide +kernel
theorem dX1_init_44 : decode cX1_init 44 = .ok (.newarray .int, 2) := by decide +kernel
theorem dX1_init_46 : decode cX1_init 46 = .ok (.putfield 24, 3) := by decide +kernel
theorem dX1_init_49 : decode cX1_init 49 = .ok (.aload_n 0, 1) := by decide +kernel
theorem dX1_init_50 : decode cX1_init 50 = .ok (.sipush 600, 3) := by decide +kernel
theorem dX1_init_53 : decode cX1_init 53 = .ok (.newarray .int, 2) := by decide +kernel
theorem dX1_init_55 : decode cX1_init 55 = .ok (.putfield 27, 3) := by decide +kernel
theorem dX1_init_58 : decode cX1_init 58 = .ok (.aload_n 0, 1) := by decide +kernel
theorem dX1_init_59 : decode cX1_init 59 = .ok (.bipush 11, 2) := by decide +kernel
theorem dX1_init_61 : decode cX1_init 61 = .ok (.newarray .int, 2) := by decide +kernel
theorem dX1_init_63 : decode cX1_init 63 = .ok (.putfield 30, 3) := by decide +kernel
theorem dX1_init_66 : decode cX1_init 66 = .ok (.aload_n 0, 1) := by decide +kernel
theorem dX1_init_67 : decode cX1_init 67 = .ok (.bipush 11, 2) := by decide +kernel
theorem dX1_init_69 : decode cX1_init 69 = .ok (.newarray .int, 2) := by decide +kernel
theorem dX1_init_71 : decode cX1_init 71 = .ok (.putfield 33, 3) := by decide +kernel
theorem dX1_init_74 : decode cX1_init 74 = .ok (.aload_n 0, 1) := by decide +kernel
theorem dX1_init_75 : decode cX1_init 75 = .ok (.bipush 11, 2) := by decide +kernel
theorem dX1_init_77 : decode cX1_init 77 = .ok (.newarray .int, 2) := by decide +kernel
theorem dX1_init_79 : decode cX1_init 79 = .ok (.putfield 36, 3) := by decide +kernel
theorem dX1_init_82 : decode cX1_init 82 = .ok (.aload_n 0, 1) := by decide +kernel
theorem dX1_init_83 : decode cX1_init 83 = .ok (.bipush 11, 2) := by decide +kernel
theorem dX1_init_85 : decode cX1_init 85 = .ok (.newarray .int, 2) := by decide +kernel
theorem dX1_init_87 : decode cX1_init 87 = .ok (.putfield 39, 3) := by decide +kernel
theorem dX1_init_90 : decode cX1_init 90 = .ok (.aload_n 0, 1) := by decide +kernel
theorem dX1_init_91 : decode cX1_init 91 = .ok (.bipush 11, 2) := by decide +kernel
theorem dX1_init_93 : decode cX1_init 93 = .ok (.newarray .int, 2) := by decide +kernel
theorem dX1_init_95 : decode cX1_init 95 = .ok (.putfield 42, 3) := by decide +kernel
theorem dX1_init_98 : decode cX1_init 98 = .ok (.aload_n 0, 1) := by decide +kernel
theorem dX1_init_99 : decode cX1_init 99 = .ok (.bipush 11, 2) := by decide +kernel
theorem dX1_init_101 : decode cX1_init 101 = .ok (.bipush 90, 2) := by decide +kernel
theorem dX1_init_103 : decode cX1_init 103 = .ok (.multianewarray 45 2, 4) := by decide +kernel
theorem dX1_init_107 : decode cX1_init 107 = .ok (.putfield 47, 3) := by decide +kernel
theorem dX1_init_110 : decode cX1_init 110 = .ok (.aload_n 0, 1) := by decide +kernel
theorem dX1_init_111 : decode cX1_init 111 = .ok (.bipush 11, 2) := by decide +kernel
theorem dX1_init_113 : decode cX1_init 113 = .ok (.newarray .int, 2) := by decide +kernel
theorem dX1_init_115 : decode cX1_init 115 = .ok (.putfield 50, 3) := by decide +kernel
theorem dX1_init_118 : decode cX1_init 118 = .ok (.return_, 1) := by decide +kernel
theorem dX9_init_0 : decode cX9_init 0 = .ok (.aload_n 0, 1) := by decide +kernel
theorem dX9_init_1 : decode cX9_init 1 = .ok (.invokespecial 3, 3) := by decide +kernel
theorem dX9_init_4 : decode cX9_init 4 = .ok (.aload_n 0, 1) := by decide +kernel
theorem dX9_init_5 : decode cX9_init 5 = .ok (.sipush 24000, 3) := by decide +kernel
theorem dX9_init_8 : decode cX9_init 8 = .ok (.newarray .char, 2) := by decide +kernel
theorem dX9_init_10 : decode cX9_init 10 = .ok (.putfield 11, 3) := by decide +kernel
theorem dX9_init_13 : decode cX9_init 13 = .ok (.aload_n 0, 1) := by decide +kernel
theorem dX9_init_14 : decode cX9_init 14 = .ok (.sipush 400, 3) := by decide +kernel
theorem dX9_init_17 : decode cX9_init 17 = .ok (.newarray .int, 2) := by decide +kernel
theorem dX9_init_19 : decode cX9_init 19 = .ok (.putfield 15, 3) := by decide +kernel
theorem dX9_init_22 : decode cX9_init 22 = .ok (.aload_n 0, 1) := by decide +kernel
theorem dX9_init_23 : decode cX9_init 23 = .ok (.sipush 400, 3) := by decide +kernel
theorem dX9_init_26 : decode cX9_init 26 = .ok (.newarray .int, 2) := by decide +kernel
theorem dX9_init_28 : decode cX9_init 28 = .ok (.putfield 19, 3) := by decide +kernel
theorem dX9_init_31 : decode cX9_init 31 = .ok (.aload_n 0, 1) := by decide +kernel
theorem dX9_init_32 : decode cX9_init 32 = .ok (.sipush 128, 3) := by decide +kernel
theorem dX9_init_35 : decode cX9_init 35 = .ok (.newarray .int, 2) := by decide +kernel
theorem dX9_init_37 : decode cX9_init 37 = .ok (.putfield 22, 3) := by decide +kernel
theorem dX9_init_40 : decode cX9_init 40 = .ok (.aload_n 0, 1) := by decide +kernel
theorem dX9_init_41 : decode cX9_init 41 = .ok (.bipush 60, 2) := by decide +kernel
theorem dX9_init_43 : decode cX9_init 43 = .ok (.newarray .char, 2) := by decide +kernel
theorem dX9_init_45 : decode cX9_init 45 = .ok (.putfield 25, 3) := by decide +kernel
theorem dX9_init_48 : decode cX9_init 48 = .ok (.aload_n 0, 1) := by decide +kernel
theorem dX9_init_49 : decode cX9_init 49 = .ok (.getfield 22, 3) := by decide +kernel
theorem dX9_init_52 : decode cX9_init 52 = .ok (.iconst (-1), 1) := by decide +kernel
theorem dX9_init_53 : decode cX9_init 53 = .ok (.invokestatic 28, 3) := by decide +kernel
theorem dX9_init_56 : decode cX9_init 56 = .ok (.aload_n 0, 1) := by decide +kernel
theorem dX9_init_57 : decode cX9_init 57 = .ok (.invokevirtual 34, 3) := by decide +kernel
theorem dX9_init_60 : decode cX9_init 60 = .ok (.iconst 0, 1) := by decide +kernel
theorem dX9_init_61 : decode cX9_init 61 = .ok (.istore_n 1, 1) := by decide +kernel
theorem dX9_init_62 : decode cX9_init 62 = .ok (.iload_n 1, 1) := by decide +kernel
theorem dX9_init_63 : decode cX9_init 63 = .ok (.ldc 37, 2) := by decide +kernel
theorem dX9_init_65 : decode cX9_init 65 = .ok (.invokevirtual 39, 3) := by decide +kernel
theorem dX9_init_68 : decode cX9_init 68 = .ok (.if_icmp .ge 42, 3) := by decide +kernel
theorem dX9_init_71 : decode cX9_init 71 = .ok (.ldc 37, 2) := by decide +kernel
theorem dX9_init_73 : decode cX9_init 73 = .ok (.iload_n 1, 1) := by decide +kernel
theorem dX9_init_74 : decode cX9_init 74 = .ok (.invokevirtual 45, 3) := by decide +kernel
theorem dX9_init_77 : decode cX9_init 77 = .ok (.bipush 32, 2) := by decide +kernel
theorem dX9_init_79 : decode cX9_init 79 = .ok (.if_icmp .ne 15, 3) := by decide +kernel
theorem dX9_init_82 : decode cX9_init 82 = .ok (.aload_n 0, 1) := by decide +kernel
theorem dX9_init_83 : decode cX9_init 83 = .ok (.invokevirtual 49, 3) := by decide +kernel
theorem dX9_init_86 : decode cX9_init 86 = .ok (.pop, 1) := by decide +kernel
theorem dX9_init_87 : decode cX9_init 87 = .ok (.aload_n 0, 1) := by decide +kernel
theorem dX9_init_88 : decode cX9_init 88 = .ok (.invokevirtual 34, 3) := by decide +kernel
theorem dX9_init_91 : decode cX9_init 91 = .ok (.goto 13, 3) := by decide +kernel
theorem dX9_init_94 : decode cX9_init 94 = .ok (.aload_n 0, 1) := by decide +kernel
theorem dX9_init_95 : decode cX9_init 95 = .ok (.ldc 37, 2) := by decide +kernel
theorem dX9_init_97 : decode cX9_init 97 = .ok (.iload_n 1, 1) := by decide +kernel
theorem dX9_init_98 : decode cX9_init 98 = .ok (.invokevirtual 45, 3) := by decide +kernel
theorem dX9_init_101 : decode cX9_init 101 = .ok (.invokevirtual 52, 3) := by decide +kernel
theorem dX9_init_104 : decode cX9_init 104 = .ok (.iinc 1 1, 3) := by decide +kernel
theorem dX9_init_107 : decode cX9_init 107 = .ok (.goto (-45), 3) := by decide +kernel
theorem dX9_init_110 : decode cX9_init 110 = .ok (.aload_n 0, 1) := by decide +kernel
theorem dX9_init_111 : decode cX9_init 111 = .ok (.invokevirtual 49, 3) := by decide +kernel
theorem dX9_init_114 : decode cX9_init 114 = .ok (.pop, 1) := by decide +kernel
theorem dX9_init_115 : decode cX9_init 115 = .ok (.aload_n 0, 1) := by decide +kernel
theorem dX9_init_116 : decode cX9_init 116 = .ok (.invokevirtual 34, 3) := by decide +kernel
theorem dX9_init_119 : decode cX9_init 119 = .ok (.aload_n 0, 1) := by decide +kernel
theorem dX9_init_120 : decode cX9_init 120 = .ok (.invokevirtual 49, 3) := by decide +kernel
theorem dX9_init_123 : decode cX9_init 123 = .ok (.pop, 1) := by decide +kernel
theorem dX9_init_124 : decode cX9_init 124 = .ok (.aload_n 0, 1) := by decide +kernel
theorem dX9_init_125 : decode cX9_init 125 = .ok (.aload_n 0, 1) := by decide +kernel
theorem dX9_init_126 : decode cX9_init 126 = .ok (.getfield 56, 3) := by decide +kernel
theorem dX9_init_129 : decode cX9_init 129 = .ok (.putfield 60, 3) := by decide +kernel
theorem dX9_init_132 : decode cX9_init 132 = .ok (.return_, 1) := by decide +kernel
theorem dX9_clear_0 : decode cX9_clear 0 = .ok (.aload_n 0, 1) := by decide +kernel
theorem dX9_clear_1 : decode cX9_clear 1 = .ok (.iconst 0, 1) := by decide +kernel
theorem dX9_clear_2 : decode cX9_clear 2 = .ok (.putfield 63, 3) := by decide +kernel
theorem dX9_clear_5 : decode cX9_clear 5 = .ok (.aload_n 0, 1) := by decide +kernel
theorem dX9_clear_6 : decode cX9_clear 6 = .ok (.iconst 0, 1) := by decide +kernel
theorem dX9_clear_7 : decode cX9_clear 7 = .ok (.putfield 66, 3) := by decide +kernel
theorem dX9_clear_10 : decode cX9_clear 10 = .ok (.return_, 1) := by decide +kernel
theorem dX9_add_0 : decode cX9_add 0 = .ok (.aload_n 0, 1) := by decide +kernel
theorem dX9_add_1 : decode cX9_add 1 = .ok (.getfield 63, 3) := by decide +kernel
theorem dX9_add_4 : decode cX9_add 4 = .ok (.bipush 60, 2) := by decide +kernel
theorem dX9_add_6 : decode cX9_add 6 = .ok (.if_icmp .ge 36, 3) := by decide +kernel
theorem dX9_add_9 : decode cX9_add 9 = .ok (.aload_n 0, 1) := by decide +kernel
theorem dX9_add_10 : decode cX9_add 10 = .ok (.getfield 25, 3) := by decide +kernel
theorem dX9_add_13 : decode cX9_add 13 = .ok (.aload_n 0, 1) := by decide +kernel
theorem dX9_add_14 : decode cX9_add 14 = .ok (.getfield 63, 3) := by decide +kernel
theorem dX9_add_17 : decode cX9_add 17 = .ok (.iload_n 1, 1) := by decide +kernel
theorem dX9_add_18 : decode cX9_add 18 = .ok (.castore, 1) := by decide +kernel
theorem dX9_add_19 : decode cX9_add 19 = .ok (.aload_n 0, 1) := by decide +kernel
theorem dX9_add_20 : decode cX9_add 20 = .ok (.dup, 1) := by decide +kernel
theorem dX9_add_21 : decode cX9_add 21 = .ok (.getfield 63, 3) := by decide +kernel
theorem dX9_add_24 : decode cX9_add 24 = .ok (.iconst 1, 1) := by decide +kernel
theorem dX9_add_25 : decode cX9_add 25 = .ok (.iadd, 1) := by decide +kernel
theorem dX9_add_26 : decode cX9_add 26 = .ok (.putfield 63, 3) := by decide +kernel
theorem dX9_add_29 : decode cX9_add 29 = .ok (.aload_n 0, 1) := by decide +kernel
theorem dX9_add_30 : decode cX9_add 30 = .ok (.aload_n 0, 1) := by decide +kernel
theorem dX9_add_31 : decode cX9_add 31 = .ok (.getfield 66, 3) := by decide +kernel
theorem dX9_add_34 : decode cX9_add 34 = .ok (.bipush 31, 2) := by decide +kernel
theorem dX9_add_36 : decode cX9_add 36 = .ok (.imul, 1) := by decide +kernel
theorem dX9_add_37 : decode cX9_add 37 = .ok (.iload_n 1, 1) := by decide +kernel
theorem dX9_add_38 : decode cX9_add 38 = .ok (.iadd, 1) := by decide +kernel
theorem dX9_add_39 : decode cX9_add 39 = .ok (.putfield 66, 3) := by decide +kernel
theorem dX9_add_42 : decode cX9_add 42 = .ok (.return_, 1) := by decide +kernel
theorem dX9_keep_0 : decode cX9_keep 0 = .ok (.aload_n 0, 1) := by decide +kernel
theorem dX9_keep_1 : decode cX9_keep 1 = .ok (.getfield 56, 3) := by decide +kernel
theorem dX9_keep_4 : decode cX9_keep 4 = .ok (.sipush 400, 3) := by decide +kernel
theorem dX9_keep_7 : decode cX9_keep 7 = .ok (.if_icmp .lt 5, 3) := by decide +kernel
theorem dX9_keep_10 : decode cX9_keep 10 = .ok (.iconst (-1), 1) := by decide +kernel
theorem dX9_keep_11 : decode cX9_keep 11 = .ok (.ireturn, 1) := by decide +kernel
theorem dX9_keep_12 : decode cX9_keep 12 = .ok (.aload_n 0, 1) := by decide +kernel
theorem dX9_keep_13 : decode cX9_keep 13 = .ok (.getfield 56, 3) := by decide +kernel
theorem dX9_keep_16 : decode cX9_keep 16 = .ok (.istore_n 1, 1) := by decide +kernel
theorem dX9_keep_17 : decode cX9_keep 17 = .ok (.iconst 0, 1) := by decide +kernel
theorem dX9_keep_18 : decode cX9_keep 18 = .ok (.istore_n 2, 1) := by decide +kernel
theorem dX9_keep_19 : decode cX9_keep 19 = .ok (.iload_n 2, 1) := by decide +kernel
theorem dX9_keep_20 : decode cX9_keep 20 = .ok (.aload_n 0, 1) := by decide +kernel
theorem dX9_keep_21 : decode cX9_keep 21 = .ok (.getfield 63, 3) := by decide +kernel
theorem dX9_keep_24 : decode cX9_keep 24 = .ok (.if_icmp .ge 26, 3) := by decide +kernel
theorem dX9_keep_27 : decode cX9_keep 27 = .ok (.aload_n 0, 1) := by decide +kernel
theorem dX9_keep_28 : decode cX9_keep 28 = .ok (.getfield 11, 3) := by decide +kernel
theorem dX9_keep_31 : decode cX9_keep 31 = .ok (.iload_n 1, 1) := by decide +kernel
theorem dX9_keep_32 : decode cX9_keep 32 = .ok (.bipush 60, 2) := by decide +kernel
theorem dX9_keep_34 : decode cX9_keep 34 = .ok (.imul, 1) := by decide +kernel
theorem dX9_keep_35 : decode cX9_keep 35 = .ok (.iload_n 2, 1) := by decide +kernel
theorem dX9_keep_36 : decode cX9_keep 36 = .ok (.iadd, 1) := by decide +kernel
theorem dX9_keep_37 : decode cX9_keep 37 = .ok (.aload_n 0, 1) := by decide +kernel
theorem dX9_keep_38 : decode cX9_keep 38 = .ok (.getfield 25, 3) := by decide +kernel
theorem dX9_keep_41 : decode cX9_keep 41 = .ok (.iload_n 2, 1) := by decide +kernel
theorem dX9_keep_42 : decode cX9_keep 42 = .ok (.caload, 1) := by decide +kernel
theorem dX9_keep_43 : decode cX9_keep 43 = .ok (.castore, 1) := by decide +kernel
theorem dX9_keep_44 : decode cX9_keep 44 = .ok (.iinc 2 1, 3) := by decide +kernel
theorem dX9_keep_47 : decode cX9_keep 47 = .ok (.goto (-28), 3) := by decide +kernel
theorem dX9_keep_50 : decode cX9_keep 50 = .ok (.aload_n 0, 1) := by decide +kernel
theorem dX9_keep_51 : decode cX9_keep 51 = .ok (.getfield 15, 3) := by decide +kernel
theorem dX9_keep_54 : decode cX9_keep 54 = .ok (.iload_n 1, 1) := by decide +kernel
theorem dX9_keep_55 : decode cX9_keep 55 = .ok (.aload_n 0, 1) := by decide +kernel
theorem dX9_keep_56 : decode cX9_keep 56 = .ok (.getfield 63, 3) := by decide +kernel
theorem dX9_keep_59 : decode cX9_keep 59 = .ok (.iastore, 1) := by decide +kernel
theorem dX9_keep_60 : decode cX9_keep 60 = .ok (.aload_n 0, 1) := by decide +kernel
theorem dX9_keep_61 : decode cX9_keep 61 = .ok (.getfield 19, 3) := by decide +kernel
theorem dX9_keep_64 : decode cX9_keep 64 = .ok (.iload_n 1, 1) := by decide +kernel
theorem dX9_keep_65 : decode cX9_keep 65 = .ok (.aload_n 0, 1) := by decide +kernel
theorem dX9_keep_66 : decode cX9_keep 66 = .ok (.getfield 22, 3) := by decide +kernel
theorem dX9_keep_69 : decode cX9_keep 69 = .ok (.aload_n 0, 1) := by decide +kernel
theorem dX9_keep_70 : decode cX9_keep 70 = .ok (.getfield 66, 3) := by decide +kernel
theorem dX9_keep_73 : decode cX9_keep 73 = .ok (.bipush 127, 2) := by decide +kernel
theorem dX9_keep_75 : decode cX9_keep 75 = .ok (.iand, 1) := by decide +kernel
theorem dX9_keep_76 : decode cX9_keep 76 = .ok (.iaload, 1) := by decide +kernel
theorem dX9_keep_77 : decode cX9_keep 77 = .ok (.iastore, 1) := by decide +kernel
theorem dX9_keep_78 : decode cX9_keep 78 = .ok (.aload_n 0, 1) := by decide +kernel
theorem dX9_keep_79 : decode cX9_keep 79 = .ok (.getfield 22, 3) := by decide +kernel
theorem dX9_keep_82 : decode cX9_keep 82 = .ok (.aload_n 0, 1) := by decide +kernel
theorem dX9_keep_83 : decode cX9_keep 83 = .ok (.getfield 66, 3) := by decide +kernel
theorem dX9_keep_86 : decode cX9_keep 86 = .ok (.bipush 127, 2) := by decide +kernel
theorem dX9_keep_88 : decode cX9_keep 88 = .ok (.iand, 1) := by decide +kernel
theorem dX9_keep_89 : decode cX9_keep 89 = .ok (.iload_n 1, 1) := by decide +kernel
theorem dX9_keep_90 : decode cX9_keep 90 = .ok (.iastore, 1) := by decide +kernel
theorem dX9_keep_91 : decode cX9_keep 91 = .ok (.aload_n 0, 1) := by decide +kernel
theorem dX9_keep_92 : decode cX9_keep 92 = .ok (.dup, 1) := by decide +kernel
theorem dX9_keep_93 : decode cX9_keep 93 = .ok (.getfield 56, 3) := by decide +kernel
theorem dX9_keep_96 : decode cX9_keep 96 = .ok (.iconst 1, 1) := by decide +kernel
theorem dX9_keep_97 : decode cX9_keep 97 = .ok (.iadd, 1) := by decide +kernel
theorem dX9_keep_98 : decode cX9_keep 98 = .ok (.putfield 56, 3) := by decide +kernel
theorem dX9_keep_101 : decode cX9_keep 101 = .ok (.iload_n 1, 1) := by decide +kernel
theorem dX9_keep_102 : decode cX9_keep 102 = .ok (.ireturn, 1) := by decide +kernel
theorem dX11_init_0 : decode cX11_init 0 = .ok (.aload_n 0, 1) := by decide +kernel
theorem dX11_init_1 : decode cX11_init 1 = .ok (.invokespecial 3, 3) := by decide +kernel
theorem dX11_init_4 : decode cX11_init 4 = .ok (.aload_n 0, 1) := by decide +kernel
theorem dX11_init_5 : decode cX11_init 5 = .ok (.sipush 4000, 3) := by decide +kernel
theorem dX11_init_8 : decode cX11_init 8 = .ok (.newarray .int, 2) := by decide +kernel
theorem dX11_init_10 : decode cX11_init 10 = .ok (.putfield 9, 3) := by decide +kernel
theorem dX11_init_13 : decode cX11_init 13 = .ok (.aload_n 0, 1) := by decide +kernel
theorem dX11_init_14 : decode cX11_init 14 = .ok (.new 13, 3) := by decide +kernel
theorem dX11_init_17 : decode cX11_init 17 = .ok (.dup, 1) := by decide +kernel
theorem dX11_init_18 : decode cX11_init 18 = .ok (.invokespecial 15, 3) := by decide +kernel
theorem dX11_init_21 : decode cX11_init 21 = .ok (.putfield 16, 3) := by decide +kernel
theorem dX11_init_24 : decode cX11_init 24 = .ok (.aload_n 0, 1) := by decide +kernel
theorem dX11_init_25 : decode cX11_init 25 = .ok (.new 20, 3) := by decide +kernel
theorem dX11_init_28 : decode cX11_init 28 = .ok (.dup, 1) := by decide +kernel
theorem dX11_init_29 : decode cX11_init 29 = .ok (.invokespecial 22, 3) := by decide +kernel
theorem dX11_init_32 : decode cX11_init 32 = .ok (.putfield 23, 3) := by decide +kernel
theorem dX11_init_35 : decode cX11_init 35 = .ok (.aload_n 0, 1) := by decide +kernel
theorem dX11_init_36 : decode cX11_init 36 = .ok (.new 27, 3) := by decide +kernel
theorem dX11_init_39 : decode cX11_init 39 = .ok (.dup, 1) := by decide +kernel
theorem dX11_init_40 : decode cX11_init 40 = .ok (.aload_n 0, 1) := by decide +kernel
theorem dX11_init_41 : decode cX11_init 41 = .ok (.getfield 23, 3) := by decide +kernel
theorem dX11_init_44 : decode cX11_init 44 = .ok (.invokespecial 29, 3) := by decide +kernel
theorem dX11_init_47 : decode cX11_init 47 = .ok (.putfield 32, 3) := by decide +kernel
theorem dX11_init_50 : decode cX11_init 50 = .ok (.aload_n 0, 1) := by decide +kernel
theorem dX11_init_51 : decode cX11_init 51 = .ok (.new 36, 3) := by decide +kernel
theorem dX11_init_54 : decode cX11_init 54 = .ok (.dup, 1) := by decide +kernel
theorem dX11_init_55 : decode cX11_init 55 = .ok (.aload_n 0, 1) := by decide +kernel
theorem dX11_init_56 : decode cX11_init 56 = .ok (.getfield 9, 3) := by decide +kernel
theorem dX11_init_59 : decode cX11_init 59 = .ok (.aload_n 0, 1) := by decide +kernel
theorem dX11_init_60 : decode cX11_init 60 = .ok (.getfield 16, 3) := by decide +kernel
theorem dX11_init_63 : decode cX11_init 63 = .ok (.aload_n 0, 1) := by decide +kernel
theorem dX11_init_64 : decode cX11_init 64 = .ok (.getfield 23, 3) := by decide +kernel
theorem dX11_init_67 : decode cX11_init 67 = .ok (.aload_n 0, 1) := by decide +kernel
theorem dX11_init_68 : decode cX11_init 68 = .ok (.getfield 32, 3) := by decide +kernel
theorem dX11_init_71 : decode cX11_init 71 = .ok (.invokespecial 38, 3) := by decide +kernel
theorem dX11_init_74 : decode cX11_init 74 = .ok (.putfield 41, 3) := by decide +kernel
theorem dX11_init_77 : decode cX11_init 77 = .ok (.aload_n 0, 1) := by decide +kernel
theorem dX11_init_78 : decode cX11_init 78 = .ok (.new 45, 3) := by decide +kernel
theorem dX11_init_81 : decode cX11_init 81 = .ok (.dup, 1) := by decide +kernel
theorem dX11_init_82 : decode cX11_init 82 = .ok (.aload_n 0, 1) := by decide +kernel
theorem dX11_init_83 : decode cX11_init 83 = .ok (.getfield 23, 3) := by decide +kernel
theorem dX11_init_86 : decode cX11_init 86 = .ok (.aload_n 0, 1) := by decide +kernel
theorem dX11_init_87 : decode cX11_init 87 = .ok (.getfield 16, 3) := by decide +kernel
theorem dX11_init_90 : decode cX11_init 90 = .ok (.invokespecial 47, 3) := by decide +kernel
theorem dX11_init_93 : decode cX11_init 93 = .ok (.putfield 50, 3) := by decide +kernel
theorem dX11_init_96 : decode cX11_init 96 = .ok (.aload_n 0, 1) := by decide +kernel
theorem dX11_init_97 : decode cX11_init 97 = .ok (.new 54, 3) := by decide +kernel
theorem dX11_init_100 : decode cX11_init 100 = .ok (.dup, 1) := by decide +kernel
theorem dX11_init_101 : decode cX11_init 101 = .ok (.aload_n 0, 1) := by decide +kernel
theorem dX11_init_102 : decode cX11_init 102 = .ok (.getfield 23, 3) := by decide +kernel
theorem dX11_init_105 : decode cX11_init 105 = .ok (.aload_n 0, 1) := by decide +kernel
theorem dX11_init_106 : decode cX11_init 106 = .ok (.getfield 16, 3) := by decide +kernel
theorem dX11_init_109 : decode cX11_init 109 = .ok (.invokespecial 56, 3) := by decide +kernel
theorem dX11_init_112 : decode cX11_init 112 = .ok (.putfield 57, 3) := by decide +kernel
theorem dX11_init_115 : decode cX11_init 115 = .ok (.aload_n 0, 1) := by decide +kernel
theorem dX11_init_116 : decode cX11_init 116 = .ok (.iconst 0, 1) := by decide +kernel
theorem dX11_init_117 : decode cX11_init 117 = .ok (.putfield 61, 3) := by decide +kernel
theorem dX11_init_120 : decode cX11_init 120 = .ok (.aload_n 0, 1) := by decide +kernel
theorem dX11_init_121 : decode cX11_init 121 = .ok (.iconst 0, 1) := by decide +kernel
theorem dX11_init_122 : decode cX11_init 122 = .ok (.putfield 65, 3) := by decide +kernel
theorem dX11_init_125 : decode cX11_init 125 = .ok (.return_, 1) := by decide +kernel
theorem dJ7_fill_53178_0 : decode cJ7_fill_53178 0 = .ok (.iconst 0, 1) := by decide +kernel
theorem dJ7_fill_53178_1 : decode cJ7_fill_53178 1 = .ok (.istore_n 2, 1) := by decide +kernel
theorem dJ7_fill_53178_2 : decode cJ7_fill_53178 2 = .ok (.aload_n 0, 1) := by decide +kernel
theorem dJ7_fill_53178_3 : decode cJ7_fill_53178 3 = .ok (.arraylength, 1) := by decide +kernel
theorem dJ7_fill_53178_4 : decode cJ7_fill_53178 4 = .ok (.istore_n 3, 1) := by decide +kernel
theorem dJ7_fill_53178_5 : decode cJ7_fill_53178 5 = .ok (.iload_n 2, 1) := by decide +kernel
theorem dJ7_fill_53178_6 : decode cJ7_fill_53178 6 = .ok (.iload_n 3, 1) := by decide +kernel
theorem dJ7_fill_53178_7 : decode cJ7_fill_53178 7 = .ok (.if_icmp .ge 13, 3) := by decide +kernel
theorem dJ7_fill_53178_10 : decode cJ7_fill_53178 10 = .ok (.aload_n 0, 1) := by decide +kernel
theorem dJ7_fill_53178_11 : decode cJ7_fill_53178 11 = .ok (.iload_n 2, 1) := by decide +kernel
theorem dJ7_fill_53178_12 : decode cJ7_fill_53178 12 = .ok (.iload_n 1, 1) := by decide +kernel
theorem dJ7_fill_53178_13 : decode cJ7_fill_53178 13 = .ok (.iastore, 1) := by decide +kernel
theorem dJ7_fill_53178_14 : decode cJ7_fill_53178 14 = .ok (.iinc 2 1, 3) := by decide +kernel
theorem dJ7_fill_53178_17 : decode cJ7_fill_53178 17 = .ok (.goto (-12), 3) := by decide +kernel
theorem dJ7_fill_53178_20 : decode cJ7_fill_53178 20 = .ok (.return_, 1) := by decide +kernel
theorem rngT {q k : Nat} (hq : q < 400) (hk : k < 60) : vp_in (nI q * 60 + nI k) 24000 := by
  have e : nI q * (60 : Int32) + nI k = nI (q * 60 + k) := by
    rw [show (60 : Int32) = nI 60 from rfl, pk_mul, nI_add]
  rw [e]
  exact vp_in_nI (by omega) (by omega)
/-- the first strings' bytes -/
def byC : List Int32 := [108, 101, 110, 103, 116, 104, 32, 112, 114, 111, 116, 111, 116, 121, 112, 101, 32, 99, 111, 110, 115, 116, 114, 117, 99, 116, 111, 114, 32, 109, 101, 115, 115, 97, 103, 101, 32, 110, 97, 109, 101, 32, 112, 114, 105, 110, 116, 32, 79, 98, 106, 101, 99, 116, 32, 65, 114, 114, 97, 121, 32, 83, 116, 114, 105, 110, 103, 32, 105, 115, 78, 97, 78, 32, 69, 114, 114, 111, 114, 32, 84, 121, 112, 101, 69, 114, 114, 111, 114, 32, 82, 101, 102, 101, 114, 101, 110, 99, 101, 69, 114, 114, 111, 114, 32, 82, 97, 110, 103, 101, 69, 114, 114, 111, 114, 32, 112, 117, 115, 104, 32, 112, 111, 112, 32, 99, 97, 108, 108, 32, 104, 97, 115, 79, 119, 110, 80, 114, 111, 112, 101, 114, 116, 121, 32, 99, 104, 97, 114, 65, 116, 32, 117, 110, 100, 101, 102, 105, 110, 101, 100, 32, 111, 98, 106, 101, 99, 116, 32, 98, 111, 111, 108, 101, 97, 110, 32, 110, 117, 109, 98, 101, 114, 32, 115, 116, 114, 105, 110, 103, 32, 102, 117, 110, 99, 116, 105, 111, 110, 32, 110, 117, 108, 108, 32, 116, 114, 117, 101, 32, 102, 97, 108, 115, 101, 32, 78, 97, 78, 32, 91, 111, 98, 106, 101, 99, 116, 93]
/-- how many strings are whole behind k signs -/
def nmC : Nat → Nat
  | 0 => 0
  | k + 1 => if chr (byC.getD k 0) = 32 then nmC k + 1 else nmC k
theorem nmC_y {k : Nat} (h : chr (byC.getD k 0) = 32) : nmC (k + 1) = nmC k + 1 := by rw [nmC, if_pos h]
theorem nmC_n {k : Nat} (h : ¬ chr (byC.getD k 0) = 32) : nmC (k + 1) = nmC k := by rw [nmC, if_neg h]
theorem nmC_b : ∀ k, k < 229 → nmC k < 300 := by decide +kernel
theorem nmC_e : nmC 228 = 29 := by decide +kernel
def txC : String := "length prototype constructor message name print Object Array String isNaN Error TypeError ReferenceError RangeError push pop call hasOwnProperty charAt undefined object boolean number string function null true false NaN [object]"
/-- what Texts() reads of the start -/
def tE (aS aV : Nat) (A : Nat → Prop) (U : State) (H : Heap) : Prop := sE aS aV 228 byC A U H ∧ vk_R RX9 37 txC aS U
theorem tE.kept {aS aV : Nat} {A : Nat → Prop} {U : State} {H H1 : Heap} (h : tE aS aV A U H) (hq : ∀ a : Nat, a < H.size → ¬ A a → H1[a]? = H[a]?) : tE aS aV A U H1 := ⟨h.1.kept hq, h.2⟩
theorem tE.narrow {aS aV : Nat} {A B : Nat → Prop} {U : State} {H : Heap} (h : tE aS aV A U H) (hAB : ∀ q, B q → A q) : tE aS aV B U H := ⟨h.1.narrow hAB, h.2⟩
theorem tE.same {aS aV : Nat} {A : Nat → Prop} {u U : State} {H : Heap} (hv : U.vm = u.vm) (h : tE aS aV A u H) : tE aS aV A U H := ⟨sE.moved (by rw [hv]; exact Vm.Alike.refl u.vm) h.1, vk_R.same hv h.2⟩
theorem tE.warm {aS aV : Nat} {A : Nat → Prop} {s U : State} {H : Heap} (hW : s.WarmedH U.vm) (h : tE aS aV A s H) : tE aS aV A U H := ⟨sE.moved hW.alike h.1, vk_R.warm hW h.2⟩
set_option maxHeartbeats 8000000 in
set_option maxRecDepth 100000 in
theorem k_J7_fill_53178 (l : Launch) (dC : Nat → ClassId) (dI : Nat → Nat → Nat) (sz : Nat) (qa n : Nat) (ka : ClassId) (f : Nat → Int32) (v : Int32) (hn : n < 2 ^ 31) : Met l yJ7_fill_53178 wsJ7_fill_53178 ({ frames := 0, cells := 0, slots := 0, locals := 0 }) (va_Pc [.ref qa, .int v] (fun U => U.heap.size = sz ∧ va_P (dC, dI) vwCl [(qa, .inl (ka, n, .inl f))] U.heap ∧ va_K (dC, dI) vwCl [(ka, .int)] U ∧ va_D (fun _ => True) [(qa, .inl (ka, n, .inl f))])) (va_Qv (fun g : Nat → Int32 => ∀ j, j < n → g j = v) (fun (g : Nat → Int32) t9 => va_P (dC, dI) vwCl [(qa, .inl (ka, n, .inl g))] t9.heap ∧ va_K (dC, dI) vwCl [(ka, .int)] t9 ∧ va_D (va_A [(qa, .inl (ka, n, .inl f))] sz) [(qa, .inl (ka, n, .inl g))]) (va_A [(qa, .inl (ka, n, .inl f))] sz)) 0 0 (va_A [(qa, .inl (ka, n, .inl f))] sz) := by
  refine Met.ofW (cc := cJ7_fill_53178) (maxL := 4) (ret := none) (by decide) rfl ?_
  intro p e s m args below meth c s₁ B hml hv
  obtain ⟨rfl, hsz, hP, hK, hD0⟩ := hv
  have hx := B.exec
  have hb := B.bytes
  have hr := B.returns
  have hts := atoms_spec (ws := wsJ7_fill_53178) B.pre
  have hown : s.vm.findClass RJ7 = some m.cls := findClass_of_methodNamed B.named
  have hlocks := B.notSynchronized
  subst hsz
  have hD := hD0.self (sz := s.heap.size)
  generalize hAe : va_A [(qa, .inl (ka, n, .inl f))] s.heap.size = A at hD ⊢
  have hA : ∀ q : Nat, s.heap.size ≤ q → A q := fun q h => by rw [← hAe]; exact Or.inr h
  have hS : va_S A s.heap s.heap [] := va_S.rf
  have hP : va_P (dC, dI) vwCl [(qa, .inl (ka, n, .inl f))] s.heap := hP
  have hl := lv_entry ([.ref qa, .int v]) (n := 4) (Nat.le_of_ble_eq_true rfl)
  rw [lg_entry_eq]
  generalize (lg_sl ([.ref qa, .int v]) ++ List.replicate (4 - (lg_sl ([.ref qa, .int v])).length) Slot.unset).toArray = ls at hl ⊢
  have hl : lv_has ls 4 [(0, .ref qa), (1, .int v)] := hl
  refine lv_iconst (v := 0) hx hb dJ7_fill_53178_0 (by decide) ?_
  refine lv_istore_n (lv' := [(2, .int 0), (0, .ref qa), (1, .int v)]) hx hb dJ7_fill_53178_1 rfl hl (by decide) rfl (fun ls hl => ?_)
  refine lv_aload_n hx hb dJ7_fill_53178_2 rfl (lv_at hl 1 rfl) ?_
  refine va_alen (v := nI n) hx hb hK hP 0 0 rfl rfl rfl dJ7_fill_53178_3 ?_
  refine lv_istore_n (lv' := [(3, .int (nI n)), (2, .int 0), (0, .ref qa), (1, .int v)]) hx hb dJ7_fill_53178_4 rfl hl (by decide) rfl (fun ls hl => ?_)
  refine (?_ : ∀ (m9 k : Nat) (g : Nat → Int32) (H : Heap) (locs : List Loc) (ls : Array Slot), n < k + m9 → k ≤ n → (∀ j, j < k → g j = v) → va_P (dC, dI) vwCl [(qa, .inl (ka, n, .inl g))] H → va_D A [(qa, .inl (ka, n, .inl g))] → va_S A s.heap H locs → lv_has ls 4 [(0, .ref qa), (1, .int v), (2, .int (nI k)), (3, .int (nI n))] → W p l e _ s m _ below meth c H locs _ _ _ (F0 m 5 ls [])) (n + 1) 0 f s.heap _ ls (by omega) (by omega) (fun j hj => absurd hj (by omega)) hP hD hS (lv_sub hl [2, 3, 1, 0] rfl)
  intro m9
  induction m9 with
  | zero =>
    intro k g H locs ls h1 h2
    exact absurd h1 (by omega)
  | succ m9 ih =>
    intro k g H locs ls hm hk hg hP hD hS hl
    rcases Nat.lt_or_ge k n with hkt | hkt
    · skip
      refine lv_iload_n hx hb dJ7_fill_53178_5 rfl (lv_at hl 2 rfl) ?_
      refine lv_iload_n hx hb dJ7_fill_53178_6 rfl (lv_at hl 3 rfl) ?_
      refine lv_icmp_ge (tgt := 20) hx hb dJ7_fill_53178_7 (by decide) (fun c1_7 => absurd c1_7 (nI_ge hkt hn)) (fun _ => ?_)
      refine lv_aload_n hx hb dJ7_fill_53178_10 rfl (lv_at hl 0 rfl) ?_
      refine lv_iload_n hx hb dJ7_fill_53178_11 rfl (lv_at hl 2 rfl) ?_
      refine lv_iload_n hx hb dJ7_fill_53178_12 rfl (lv_at hl 1 rfl) ?_
      refine va_iast hx hb hK hP hD hS 0 0 rfl rfl (vp_in_nI hkt hn) dJ7_fill_53178_13 (fun H locs hP hD hS => ?_)
      have hP : va_P (dC, dI) vwCl [(qa, .inl (ka, n, .inl (upd g ((nI k) : Int32).toNatClampNeg v)))] H := hP
      have hD : va_D A [(qa, .inl (ka, n, .inl (upd g ((nI k) : Int32).toNatClampNeg v)))] := hD
      refine lv_iinc (v := nI (k + 1)) (lv' := [(2, .int (nI (k + 1))), (0, .ref qa), (1, .int v), (3, .int (nI n))]) hx hb dJ7_fill_53178_14 hl (k := 2) rfl (nI_1 k) (by decide) rfl (fun ls hl => ?_)
      refine lv_goto (tgt := 5) hx hb dJ7_fill_53178_17 (by decide) ?_
      have hg2 : ∀ j, j < k + 1 → (upd g (nI k : Int32).toNatClampNeg v) j = v := by
        intro j hj
        rw [nI_clamp (by omega)]
        by_cases e : j = k
        · subst e; exact pk_us
        · rw [pk_un e]; exact hg j (by omega)
      exact ih (k + 1) _ H locs ls (by omega) (by omega) hg2 hP hD hS (lv_sub hl [1, 2, 0, 3] rfl)
    · skip
      refine lv_iload_n hx hb dJ7_fill_53178_5 rfl (lv_at hl 2 rfl) ?_
      refine lv_iload_n hx hb dJ7_fill_53178_6 rfl (lv_at hl 3 rfl) ?_
      refine lv_icmp_ge (tgt := 20) hx hb dJ7_fill_53178_7 (by decide) (fun _ => ?_) (fun c2_7 => absurd (nI_le hkt (by omega)) c2_7)
      exact W.vret hx hb hr (fun t ht hW => ⟨⟨g, rfl, (fun j hj => hg j (by omega)), by rw [ht]; exact hP, va_K.moved hW.alike hK, hD⟩, hS.F ht⟩) hS.2.2 dJ7_fill_53178_20

def vb_k_X9_clear : List Cond := .code yX9_clear cX9_clear 1 none :: ([.fieldLink RX9 63 "ScriptTypes$Texts" "madeLength" "I", .fieldLink RX9 66 "ScriptTypes$Texts" "madeHash" "I"] ++ [])
def vw_k_X9_clear : List Cond := vb_k_X9_clear ++ wsAll
set_option maxHeartbeats 8000000 in
set_option maxRecDepth 100000 in
theorem k_X9_clear (l : Launch) (dC : Nat → ClassId) (dI : Nat → Nat → Nat) (sz : Nat) (h0 qs ql qn qh qm : Nat) (tl hh cnt nm kd dt : Int32) : Met l yX9_clear vw_k_X9_clear ({ frames := 0, cells := 0, slots := 0, locals := 0 }) (va_Pc [.ref h0] (fun U => U.heap.size = sz ∧ va_P (dC, dI) vwCl [(h0, .inr (11, [.ref qs, .ref ql, .ref qn, .ref qh, .ref qm, .int tl, .int hh, .int cnt, .int nm, .int kd, .int dt]))] U.heap ∧ va_K (dC, dI) vwCl [] U ∧ va_D (fun _ => True) [(h0, .inr (11, [.ref qs, .ref ql, .ref qn, .ref qh, .ref qm, .int tl, .int hh, .int cnt, .int nm, .int kd, .int dt]))])) (va_Qv (fun _ : Unit => True) (fun (_ : Unit) t9 => va_P (dC, dI) vwCl [(h0, .inr (11, [.ref qs, .ref ql, .ref qn, .ref qh, .ref qm, .int 0, .int 0, .int cnt, .int nm, .int kd, .int dt]))] t9.heap ∧ va_K (dC, dI) vwCl [] t9 ∧ va_D (va_A [(h0, .inr (11, [.ref qs, .ref ql, .ref qn, .ref qh, .ref qm, .int tl, .int hh, .int cnt, .int nm, .int kd, .int dt]))] sz) [(h0, .inr (11, [.ref qs, .ref ql, .ref qn, .ref qh, .ref qm, .int 0, .int 0, .int cnt, .int nm, .int kd, .int dt]))]) (va_A [(h0, .inr (11, [.ref qs, .ref ql, .ref qn, .ref qh, .ref qm, .int tl, .int hh, .int cnt, .int nm, .int kd, .int dt]))] sz)) 0 0 (va_A [(h0, .inr (11, [.ref qs, .ref ql, .ref qn, .ref qh, .ref qm, .int tl, .int hh, .int cnt, .int nm, .int kd, .int dt]))] sz) := by
  refine Met.ofW (cc := cX9_clear) (maxL := 1) (ret := none) (by decide) rfl ?_
  intro p e s m args below meth c s₁ B hml hv
  obtain ⟨rfl, hsz, hP, hK, hD0⟩ := hv
  have hx := B.exec
  have hb := B.bytes
  have hr := B.returns
  have hts := atoms_spec (ws := vw_k_X9_clear) B.pre
  have hown : s.vm.findClass RX9 = some m.cls := findClass_of_methodNamed B.named
  have hlocks := B.notSynchronized
  subst hsz
  have hD := hD0.self (sz := s.heap.size)
  generalize hAe : va_A [(h0, .inr (11, [.ref qs, .ref ql, .ref qn, .ref qh, .ref qm, .int tl, .int hh, .int cnt, .int nm, .int kd, .int dt]))] s.heap.size = A at hD ⊢
  have hA : ∀ q : Nat, s.heap.size ≤ q → A q := fun q h => by rw [← hAe]; exact Or.inr h
  have hS : va_S A s.heap s.heap [] := va_S.rf
  have hP : va_P (dC, dI) vwCl [(h0, .inr (11, [.ref qs, .ref ql, .ref qn, .ref qh, .ref qm, .int tl, .int hh, .int cnt, .int nm, .int kd, .int dt]))] s.heap := hP
  have hl := lv_entry ([.ref h0]) (n := 1) (Nat.le_of_ble_eq_true rfl)
  rw [lg_entry_eq]
  generalize (lg_sl ([.ref h0]) ++ List.replicate (1 - (lg_sl ([.ref h0])).length) Slot.unset).toArray = ls at hl ⊢
  have hl : lv_has ls 1 [(0, .ref h0)] := hl
  have hwX9 : ∀ w ∈ wsX90, w ∈ vw_k_X9_clear := (fun w h => List.mem_append_right _ (List.mem_append_right _ (List.mem_append_right _ (List.mem_append_right _ (List.mem_append_right _ (List.mem_append_right _ (List.mem_append_right _ (List.mem_append_right _ (List.mem_append_right _ (List.mem_append_right _ (List.mem_append_left _ h)))))))))))
  refine lv_aload_n hx hb dX9_clear_0 rfl (lv_at hl 0 rfl) ?_
  refine lv_iconst (v := 0) hx hb dX9_clear_1 (by decide) ?_
  refine va_put (D := (dC, dI)) (ci := 11) (v := .int 0) (ty := tyX9 5) (C := RX9) (T := TX9) (N := 11) hx hb hts hwX9 tyX9 tyX9_ok nmX9 hown hK hP hD hS 0 rfl rfl 5 (Nat.le_of_ble_eq_true rfl) (hts (.fieldLink RX9 63 "ScriptTypes$Texts" "madeLength" "I") (List.mem_of_getElem? (i := 1) (by decide +kernel))) (fun _ h9 => h9) rfl (tyX9_ok 5 (Nat.le_of_ble_eq_true rfl)) rfl rfl (Nat.le_of_ble_eq_true rfl) dX9_clear_2 (fun H locs hP hD hS => ?_)
  have hP : va_P (dC, dI) vwCl [(h0, .inr (11, [.ref qs, .ref ql, .ref qn, .ref qh, .ref qm, .int 0, .int hh, .int cnt, .int nm, .int kd, .int dt]))] H := hP
  have hD : va_D A [(h0, .inr (11, [.ref qs, .ref ql, .ref qn, .ref qh, .ref qm, .int 0, .int hh, .int cnt, .int nm, .int kd, .int dt]))] := hD
  refine lv_aload_n hx hb dX9_clear_5 rfl (lv_at hl 0 rfl) ?_
  refine lv_iconst (v := 0) hx hb dX9_clear_6 (by decide) ?_
  refine va_put (D := (dC, dI)) (ci := 11) (v := .int 0) (ty := tyX9 6) (C := RX9) (T := TX9) (N := 11) hx hb hts hwX9 tyX9 tyX9_ok nmX9 hown hK hP hD hS 0 rfl rfl 6 (Nat.le_of_ble_eq_true rfl) (hts (.fieldLink RX9 66 "ScriptTypes$Texts" "madeHash" "I") (List.mem_of_getElem? (i := 2) (by decide +kernel))) (fun _ h9 => h9) rfl (tyX9_ok 6 (Nat.le_of_ble_eq_true rfl)) rfl rfl (Nat.le_of_ble_eq_true rfl) dX9_clear_7 (fun H locs hP hD hS => ?_)
  have hP : va_P (dC, dI) vwCl [(h0, .inr (11, [.ref qs, .ref ql, .ref qn, .ref qh, .ref qm, .int 0, .int 0, .int cnt, .int nm, .int kd, .int dt]))] H := hP
  have hD : va_D A [(h0, .inr (11, [.ref qs, .ref ql, .ref qn, .ref qh, .ref qm, .int 0, .int 0, .int cnt, .int nm, .int kd, .int dt]))] := hD
  exact W.vret hx hb hr (fun t ht hW => ⟨⟨(), rfl, trivial, by rw [ht]; exact hP, va_K.moved hW.alike hK, hD⟩, hS.F ht⟩) hS.2.2 dX9_clear_10

def vb_k_X9_add : List Cond := .code yX9_add cX9_add 2 none :: ([.fieldLink RX9 63 "ScriptTypes$Texts" "madeLength" "I", .fieldLink RX9 25 "ScriptTypes$Texts" "made" "[C", .fieldLink RX9 66 "ScriptTypes$Texts" "madeHash" "I"] ++ [])
def vw_k_X9_add : List Cond := vb_k_X9_add ++ wsAll
set_option maxHeartbeats 8000000 in
set_option maxRecDepth 100000 in
theorem k_X9_add (l : Launch) (dC : Nat → ClassId) (dI : Nat → Nat → Nat) (sz : Nat) (h0 qs ql qn qh qm : Nat) (kM : ClassId) (fm : Nat → Int32) (tl : Nat) (htl : tl ≤ 60) (hh cnt nm kd dt ch : Int32) : Met l yX9_add vw_k_X9_add ({ frames := 0, cells := 0, slots := 0, locals := 0 }) (va_Pc [.ref h0, .int ch] (fun U => U.heap.size = sz ∧ va_P (dC, dI) vwCl [(h0, .inr (11, [.ref qs, .ref ql, .ref qn, .ref qh, .ref qm, .int (nI tl), .int hh, .int cnt, .int nm, .int kd, .int dt])), (qm, .inl (kM, 60, .inl fm))] U.heap ∧ va_K (dC, dI) vwCl [(kM, .char)] U ∧ va_D (fun _ => True) [(h0, .inr (11, [.ref qs, .ref ql, .ref qn, .ref qh, .ref qm, .int (nI tl), .int hh, .int cnt, .int nm, .int kd, .int dt])), (qm, .inl (kM, 60, .inl fm))])) (va_Qv (fun u : Nat × Int32 × (Nat → Int32) => u.1 ≤ 60) (fun (u : Nat × Int32 × (Nat → Int32)) t9 => va_P (dC, dI) vwCl [(h0, .inr (11, [.ref qs, .ref ql, .ref qn, .ref qh, .ref qm, .int (nI u.1), .int u.2.1, .int cnt, .int nm, .int kd, .int dt])), (qm, .inl (kM, 60, .inl u.2.2))] t9.heap ∧ va_K (dC, dI) vwCl [(kM, .char)] t9 ∧ va_D (va_A [(h0, .inr (11, [.ref qs, .ref ql, .ref qn, .ref qh, .ref qm, .int (nI tl), .int hh, .int cnt, .int nm, .int kd, .int dt])), (qm, .inl (kM, 60, .inl fm))] sz) [(h0, .inr (11, [.ref qs, .ref ql, .ref qn, .ref qh, .ref qm, .int (nI u.1), .int u.2.1, .int cnt, .int nm, .int kd, .int dt])), (qm, .inl (kM, 60, .inl u.2.2))]) (va_A [(h0, .inr (11, [.ref qs, .ref ql, .ref qn, .ref qh, .ref qm, .int (nI tl), .int hh, .int cnt, .int nm, .int kd, .int dt])), (qm, .inl (kM, 60, .inl fm))] sz)) 0 0 (va_A [(h0, .inr (11, [.ref qs, .ref ql, .ref qn, .ref qh, .ref qm, .int (nI tl), .int hh, .int cnt, .int nm, .int kd, .int dt])), (qm, .inl (kM, 60, .inl fm))] sz) := by
  refine Met.ofW (cc := cX9_add) (maxL := 2) (ret := none) (by decide) rfl ?_
  intro p e s m args below meth c s₁ B hml hv
  obtain ⟨rfl, hsz, hP, hK, hD0⟩ := hv
  have hx := B.exec
  have hb := B.bytes
  have hr := B.returns
  have hts := atoms_spec (ws := vw_k_X9_add) B.pre
  have hown : s.vm.findClass RX9 = some m.cls := findClass_of_methodNamed B.named
  have hlocks := B.notSynchronized
  subst hsz
  have hD := hD0.self (sz := s.heap.size)
  generalize hAe : va_A [(h0, .inr (11, [.ref qs, .ref ql, .ref qn, .ref qh, .ref qm, .int (nI tl), .int hh, .int cnt, .int nm, .int kd, .int dt])), (qm, .inl (kM, 60, .inl fm))] s.heap.size = A at hD ⊢
  have hA : ∀ q : Nat, s.heap.size ≤ q → A q := fun q h => by rw [← hAe]; exact Or.inr h
  have hS : va_S A s.heap s.heap [] := va_S.rf
  have hP : va_P (dC, dI) vwCl [(h0, .inr (11, [.ref qs, .ref ql, .ref qn, .ref qh, .ref qm, .int (nI tl), .int hh, .int cnt, .int nm, .int kd, .int dt])), (qm, .inl (kM, 60, .inl fm))] s.heap := hP
  have hl := lv_entry ([.ref h0, .int ch]) (n := 2) (Nat.le_of_ble_eq_true rfl)
  rw [lg_entry_eq]
  generalize (lg_sl ([.ref h0, .int ch]) ++ List.replicate (2 - (lg_sl ([.ref h0, .int ch])).length) Slot.unset).toArray = ls at hl ⊢
  have hl : lv_has ls 2 [(0, .ref h0), (1, .int ch)] := hl
  have hwX9 : ∀ w ∈ wsX90, w ∈ vw_k_X9_add := (fun w h => List.mem_append_right _ (List.mem_append_right _ (List.mem_append_right _ (List.mem_append_right _ (List.mem_append_right _ (List.mem_append_right _ (List.mem_append_right _ (List.mem_append_right _ (List.mem_append_right _ (List.mem_append_right _ (List.mem_append_left _ h)))))))))))
  refine lv_aload_n hx hb dX9_add_0 rfl (lv_at hl 0 rfl) ?_
  refine va_get (D := (dC, dI)) (ci := 11) (v := .int (nI tl)) (C := RX9) (T := TX9) (N := 11) hx hb hts hwX9 hown hK hP 0 rfl rfl 5 (Nat.le_of_ble_eq_true rfl) (hts (.fieldLink RX9 63 "ScriptTypes$Texts" "madeLength" "I") (List.mem_of_getElem? (i := 1) (by decide +kernel))) (fun _ h9 => h9) rfl dX9_add_1 ?_
  refine lv_bipush (v := 60) hx hb dX9_add_4 (by decide) ?_
  rcases Nat.lt_or_ge tl 60 with ht6 | ht6
  · skip
    refine lv_icmp_ge (tgt := 42) hx hb dX9_add_6 (by decide) (fun c1_6 => absurd c1_6 (nI_ge (b := 60) (a := tl) ht6 (by omega))) (fun _ => ?_)
    refine lv_aload_n hx hb dX9_add_9 rfl (lv_at hl 0 rfl) ?_
    refine va_get (D := (dC, dI)) (ci := 11) (v := .ref qm) (C := RX9) (T := TX9) (N := 11) hx hb hts hwX9 hown hK hP 0 rfl rfl 4 (Nat.le_of_ble_eq_true rfl) (hts (.fieldLink RX9 25 "ScriptTypes$Texts" "made" "[C") (List.mem_of_getElem? (i := 2) (by decide +kernel))) (fun _ h9 => h9) rfl dX9_add_10 ?_
    refine lv_aload_n hx hb dX9_add_13 rfl (lv_at hl 0 rfl) ?_
    refine va_get (D := (dC, dI)) (ci := 11) (v := .int (nI tl)) (C := RX9) (T := TX9) (N := 11) hx hb hts hwX9 hown hK hP 0 rfl rfl 5 (Nat.le_of_ble_eq_true rfl) (hts (.fieldLink RX9 63 "ScriptTypes$Texts" "madeLength" "I") (List.mem_of_getElem? (i := 1) (by decide +kernel))) (fun _ h9 => h9) rfl dX9_add_14 ?_
    refine lv_iload_n hx hb dX9_add_17 rfl (lv_at hl 1 rfl) ?_
    refine va_cast hx hb hK hP hD hS 1 0 rfl rfl (vp_in_nI ht6 (by omega)) dX9_add_18 (fun H locs hP hD hS => ?_)
    obtain ⟨g_2, eg_2⟩ : ∃ z9 : Nat → Int32, z9 = upd fm ((nI tl) : Int32).toNatClampNeg (vp_nar .char ch) := ⟨_, rfl⟩
    have hP : va_P (dC, dI) vwCl [(h0, .inr (11, [.ref qs, .ref ql, .ref qn, .ref qh, .ref qm, .int (nI tl), .int hh, .int cnt, .int nm, .int kd, .int dt])), (qm, .inl (kM, 60, .inl g_2))] H := by rw [eg_2]; exact hP
    have hD : va_D A [(h0, .inr (11, [.ref qs, .ref ql, .ref qn, .ref qh, .ref qm, .int (nI tl), .int hh, .int cnt, .int nm, .int kd, .int dt])), (qm, .inl (kM, 60, .inl g_2))] := by rw [eg_2]; exact hD
    refine lv_aload_n hx hb dX9_add_19 rfl (lv_at hl 0 rfl) ?_
    refine lv_dup hx hb dX9_add_20 rfl ?_
    refine va_get (D := (dC, dI)) (ci := 11) (v := .int (nI tl)) (C := RX9) (T := TX9) (N := 11) hx hb hts hwX9 hown hK hP 0 rfl rfl 5 (Nat.le_of_ble_eq_true rfl) (hts (.fieldLink RX9 63 "ScriptTypes$Texts" "madeLength" "I") (List.mem_of_getElem? (i := 1) (by decide +kernel))) (fun _ h9 => h9) rfl dX9_add_21 ?_
    refine lv_iconst (v := 1) hx hb dX9_add_24 (by decide) ?_
    refine lv_iadd hx hb dX9_add_25 ?_
    refine lv_topi (fun f_3 ef_3 => ?_)
    obtain rfl : f_3 = (nI (tl + 1)) := by rw [ef_3]; exact nI_1 tl
    refine va_put (D := (dC, dI)) (ci := 11) (v := .int (nI (tl + 1))) (ty := tyX9 5) (C := RX9) (T := TX9) (N := 11) hx hb hts hwX9 tyX9 tyX9_ok nmX9 hown hK hP hD hS 0 rfl rfl 5 (Nat.le_of_ble_eq_true rfl) (hts (.fieldLink RX9 63 "ScriptTypes$Texts" "madeLength" "I") (List.mem_of_getElem? (i := 1) (by decide +kernel))) (fun _ h9 => h9) rfl (tyX9_ok 5 (Nat.le_of_ble_eq_true rfl)) rfl rfl (Nat.le_of_ble_eq_true rfl) dX9_add_26 (fun H locs hP hD hS => ?_)
    have hP : va_P (dC, dI) vwCl [(h0, .inr (11, [.ref qs, .ref ql, .ref qn, .ref qh, .ref qm, .int (nI (tl + 1)), .int hh, .int cnt, .int nm, .int kd, .int dt])), (qm, .inl (kM, 60, .inl g_2))] H := hP
    have hD : va_D A [(h0, .inr (11, [.ref qs, .ref ql, .ref qn, .ref qh, .ref qm, .int (nI (tl + 1)), .int hh, .int cnt, .int nm, .int kd, .int dt])), (qm, .inl (kM, 60, .inl g_2))] := hD
    refine lv_aload_n hx hb dX9_add_29 rfl (lv_at hl 0 rfl) ?_
    refine lv_aload_n hx hb dX9_add_30 rfl (lv_at hl 0 rfl) ?_
    refine va_get (D := (dC, dI)) (ci := 11) (v := .int hh) (C := RX9) (T := TX9) (N := 11) hx hb hts hwX9 hown hK hP 0 rfl rfl 6 (Nat.le_of_ble_eq_true rfl) (hts (.fieldLink RX9 66 "ScriptTypes$Texts" "madeHash" "I") (List.mem_of_getElem? (i := 3) (by decide +kernel))) (fun _ h9 => h9) rfl dX9_add_31 ?_
    refine lv_bipush (v := 31) hx hb dX9_add_34 (by decide) ?_
    refine lv_imul hx hb dX9_add_36 ?_
    refine lv_topi (fun f_4 ef_4 => ?_)
    refine lv_iload_n hx hb dX9_add_37 rfl (lv_at hl 1 rfl) ?_
    refine lv_iadd hx hb dX9_add_38 ?_
    refine lv_topi (fun f_5 ef_5 => ?_)
    refine va_put (D := (dC, dI)) (ci := 11) (v := .int f_5) (ty := tyX9 6) (C := RX9) (T := TX9) (N := 11) hx hb hts hwX9 tyX9 tyX9_ok nmX9 hown hK hP hD hS 0 rfl rfl 6 (Nat.le_of_ble_eq_true rfl) (hts (.fieldLink RX9 66 "ScriptTypes$Texts" "madeHash" "I") (List.mem_of_getElem? (i := 3) (by decide +kernel))) (fun _ h9 => h9) rfl (tyX9_ok 6 (Nat.le_of_ble_eq_true rfl)) rfl rfl (Nat.le_of_ble_eq_true rfl) dX9_add_39 (fun H locs hP hD hS => ?_)
    have hP : va_P (dC, dI) vwCl [(h0, .inr (11, [.ref qs, .ref ql, .ref qn, .ref qh, .ref qm, .int (nI (tl + 1)), .int f_5, .int cnt, .int nm, .int kd, .int dt])), (qm, .inl (kM, 60, .inl g_2))] H := hP
    have hD : va_D A [(h0, .inr (11, [.ref qs, .ref ql, .ref qn, .ref qh, .ref qm, .int (nI (tl + 1)), .int f_5, .int cnt, .int nm, .int kd, .int dt])), (qm, .inl (kM, 60, .inl g_2))] := hD
    exact W.vret hx hb hr (fun t ht hW => ⟨⟨(tl + 1, f_5, g_2), rfl, (by first | exact htl | omega), by rw [ht]; exact hP, va_K.moved hW.alike hK, hD⟩, hS.F ht⟩) hS.2.2 dX9_add_42
  · skip
    refine lv_icmp_ge (tgt := 42) hx hb dX9_add_6 (by decide) (fun _ => ?_) (fun c6_6 => absurd (nI_le (a := 60) (b := tl) ht6 (by omega)) c6_6)
    exact W.vret hx hb hr (fun t ht hW => ⟨⟨(tl, hh, fm), rfl, (by first | exact htl | omega), by rw [ht]; exact hP, va_K.moved hW.alike hK, hD⟩, hS.F ht⟩) hS.2.2 dX9_add_42

def vb_k_X9_keep : List Cond := .code yX9_keep cX9_keep 3 (some .int) :: ([.fieldLink RX9 56 "ScriptTypes$Texts" "count" "I", .fieldLink RX9 63 "ScriptTypes$Texts" "madeLength" "I", .fieldLink RX9 11 "ScriptTypes$Texts" "signs" "[C", .fieldLink RX9 25 "ScriptTypes$Texts" "made" "[C", .fieldLink RX9 15 "ScriptTypes$Texts" "lengths" "[I", .fieldLink RX9 19 "ScriptTypes$Texts" "next" "[I", .fieldLink RX9 22 "ScriptTypes$Texts" "heads" "[I", .fieldLink RX9 66 "ScriptTypes$Texts" "madeHash" "I"] ++ [])
def vw_k_X9_keep : List Cond := vb_k_X9_keep ++ wsAll
set_option maxHeartbeats 8000000 in
set_option maxRecDepth 100000 in
theorem k_X9_keep (l : Launch) (dC : Nat → ClassId) (dI : Nat → Nat → Nat) (sz : Nat) (h0 qs ql qn qh qm : Nat) (kC kL kN kH kM : ClassId) (fs fl fn fh fm : Nat → Int32) (tl q : Nat) (htl : tl ≤ 60) (hq : q < 400) (hh nm kd dt : Int32) : Met l yX9_keep vw_k_X9_keep ({ frames := 0, cells := 0, slots := 0, locals := 0 }) (va_Pc [.ref h0] (fun U => U.heap.size = sz ∧ va_P (dC, dI) vwCl [(h0, .inr (11, [.ref qs, .ref ql, .ref qn, .ref qh, .ref qm, .int (nI tl), .int hh, .int (nI q), .int nm, .int kd, .int dt])), (qs, .inl (kC, 24000, .inl fs)), (ql, .inl (kL, 400, .inl fl)), (qn, .inl (kN, 400, .inl fn)), (qh, .inl (kH, 128, .inl fh)), (qm, .inl (kM, 60, .inl fm))] U.heap ∧ va_K (dC, dI) vwCl [(kC, .char), (kL, .int), (kN, .int), (kH, .int), (kM, .char)] U ∧ va_D (fun _ => True) [(h0, .inr (11, [.ref qs, .ref ql, .ref qn, .ref qh, .ref qm, .int (nI tl), .int hh, .int (nI q), .int nm, .int kd, .int dt])), (qs, .inl (kC, 24000, .inl fs)), (ql, .inl (kL, 400, .inl fl)), (qn, .inl (kN, 400, .inl fn)), (qh, .inl (kH, 128, .inl fh)), (qm, .inl (kM, 60, .inl fm))])) (va_Qi (fun (r : Int32) (_ : (Nat → Int32) × (Nat → Int32) × (Nat → Int32) × (Nat → Int32)) => True) (fun (u : (Nat → Int32) × (Nat → Int32) × (Nat → Int32) × (Nat → Int32)) t9 => va_P (dC, dI) vwCl [(h0, .inr (11, [.ref qs, .ref ql, .ref qn, .ref qh, .ref qm, .int (nI tl), .int hh, .int (nI (q + 1)), .int nm, .int kd, .int dt])), (qs, .inl (kC, 24000, .inl u.1)), (ql, .inl (kL, 400, .inl u.2.1)), (qn, .inl (kN, 400, .inl u.2.2.1)), (qh, .inl (kH, 128, .inl u.2.2.2)), (qm, .inl (kM, 60, .inl fm))] t9.heap ∧ va_K (dC, dI) vwCl [(kC, .char), (kL, .int), (kN, .int), (kH, .int), (kM, .char)] t9 ∧ va_D (va_A [(h0, .inr (11, [.ref qs, .ref ql, .ref qn, .ref qh, .ref qm, .int (nI tl), .int hh, .int (nI q), .int nm, .int kd, .int dt])), (qs, .inl (kC, 24000, .inl fs)), (ql, .inl (kL, 400, .inl fl)), (qn, .inl (kN, 400, .inl fn)), (qh, .inl (kH, 128, .inl fh)), (qm, .inl (kM, 60, .inl fm))] sz) [(h0, .inr (11, [.ref qs, .ref ql, .ref qn, .ref qh, .ref qm, .int (nI tl), .int hh, .int (nI (q + 1)), .int nm, .int kd, .int dt])), (qs, .inl (kC, 24000, .inl u.1)), (ql, .inl (kL, 400, .inl u.2.1)), (qn, .inl (kN, 400, .inl u.2.2.1)), (qh, .inl (kH, 128, .inl u.2.2.2)), (qm, .inl (kM, 60, .inl fm))]) (va_A [(h0, .inr (11, [.ref qs, .ref ql, .ref qn, .ref qh, .ref qm, .int (nI tl), .int hh, .int (nI q), .int nm, .int kd, .int dt])), (qs, .inl (kC, 24000, .inl fs)), (ql, .inl (kL, 400, .inl fl)), (qn, .inl (kN, 400, .inl fn)), (qh, .inl (kH, 128, .inl fh)), (qm, .inl (kM, 60, .inl fm))] sz)) 0 0 (va_A [(h0, .inr (11, [.ref qs, .ref ql, .ref qn, .ref qh, .ref qm, .int (nI tl), .int hh, .int (nI q), .int nm, .int kd, .int dt])), (qs, .inl (kC, 24000, .inl fs)), (ql, .inl (kL, 400, .inl fl)), (qn, .inl (kN, 400, .inl fn)), (qh, .inl (kH, 128, .inl fh)), (qm, .inl (kM, 60, .inl fm))] sz) := by
  refine Met.ofW (cc := cX9_keep) (maxL := 3) (ret := (some .int)) (by decide) rfl ?_
  intro p e s m args below meth c s₁ B hml hv
  obtain ⟨rfl, hsz, hP, hK, hD0⟩ := hv
  have hx := B.exec
  have hb := B.bytes
  have hr := B.returns
  have hts := atoms_spec (ws := vw_k_X9_keep) B.pre
  have hown : s.vm.findClass RX9 = some m.cls := findClass_of_methodNamed B.named
  have hlocks := B.notSynchronized
  subst hsz
  have hD := hD0.self (sz := s.heap.size)
  generalize hAe : va_A [(h0, .inr (11, [.ref qs, .ref ql, .ref qn, .ref qh, .ref qm, .int (nI tl), .int hh, .int (nI q), .int nm, .int kd, .int dt])), (qs, .inl (kC, 24000, .inl fs)), (ql, .inl (kL, 400, .inl fl)), (qn, .inl (kN, 400, .inl fn)), (qh, .inl (kH, 128, .inl fh)), (qm, .inl (kM, 60, .inl fm))] s.heap.size = A at hD ⊢
  have hA : ∀ q : Nat, s.heap.size ≤ q → A q := fun q h => by rw [← hAe]; exact Or.inr h
  have hS : va_S A s.heap s.heap [] := va_S.rf
  have hP : va_P (dC, dI) vwCl [(h0, .inr (11, [.ref qs, .ref ql, .ref qn, .ref qh, .ref qm, .int (nI tl), .int hh, .int (nI q), .int nm, .int kd, .int dt])), (qs, .inl (kC, 24000, .inl fs)), (ql, .inl (kL, 400, .inl fl)), (qn, .inl (kN, 400, .inl fn)), (qh, .inl (kH, 128, .inl fh)), (qm, .inl (kM, 60, .inl fm))] s.heap := hP
  have hl := lv_entry ([.ref h0]) (n := 3) (Nat.le_of_ble_eq_true rfl)
  rw [lg_entry_eq]
  generalize (lg_sl ([.ref h0]) ++ List.replicate (3 - (lg_sl ([.ref h0])).length) Slot.unset).toArray = ls at hl ⊢
  have hl : lv_has ls 3 [(0, .ref h0)] := hl
  have hwX9 : ∀ w ∈ wsX90, w ∈ vw_k_X9_keep := (fun w h => List.mem_append_right _ (List.mem_append_right _ (List.mem_append_right _ (List.mem_append_right _ (List.mem_append_right _ (List.mem_append_right _ (List.mem_append_right _ (List.mem_append_right _ (List.mem_append_right _ (List.mem_append_right _ (List.mem_append_left _ h)))))))))))
  refine lv_aload_n hx hb dX9_keep_0 rfl (lv_at hl 0 rfl) ?_
  refine va_get (D := (dC, dI)) (ci := 11) (v := .int (nI q)) (C := RX9) (T := TX9) (N := 11) hx hb hts hwX9 hown hK hP 0 rfl rfl 7 (Nat.le_of_ble_eq_true rfl) (hts (.fieldLink RX9 56 "ScriptTypes$Texts" "count" "I") (List.mem_of_getElem? (i := 1) (by decide +kernel))) (fun _ h9 => h9) rfl dX9_keep_1 ?_
  refine lv_sipush (v := 400) hx hb dX9_keep_4 (by decide) ?_
  refine lv_icmp_lt (tgt := 12) hx hb dX9_keep_7 (by decide) (fun _ => ?_) (fun c1_7 => absurd (nI_lt (a := q) (b := 400) hq (by decide)) c1_7)
  refine lv_aload_n hx hb dX9_keep_12 rfl (lv_at hl 0 rfl) ?_
  refine va_get (D := (dC, dI)) (ci := 11) (v := .int (nI q)) (C := RX9) (T := TX9) (N := 11) hx hb hts hwX9 hown hK hP 0 rfl rfl 7 (Nat.le_of_ble_eq_true rfl) (hts (.fieldLink RX9 56 "ScriptTypes$Texts" "count" "I") (List.mem_of_getElem? (i := 1) (by decide +kernel))) (fun _ h9 => h9) rfl dX9_keep_13 ?_
  refine lv_istore_n (lv' := [(1, .int (nI q)), (0, .ref h0)]) hx hb dX9_keep_16 rfl hl (by decide) rfl (fun ls hl => ?_)
  refine lv_iconst (v := 0) hx hb dX9_keep_17 (by decide) ?_
  refine lv_istore_n (lv' := [(2, .int 0), (1, .int (nI q)), (0, .ref h0)]) hx hb dX9_keep_18 rfl hl (by decide) rfl (fun ls hl => ?_)
  refine (?_ : ∀ (m9 k : Nat) (g : Nat → Int32) (H : Heap) (locs : List Loc) (ls : Array Slot), tl < k + m9 → k ≤ tl → va_P (dC, dI) vwCl [(h0, .inr (11, [.ref qs, .ref ql, .ref qn, .ref qh, .ref qm, .int (nI tl), .int hh, .int (nI q), .int nm, .int kd, .int dt])), (qs, .inl (kC, 24000, .inl g)), (ql, .inl (kL, 400, .inl fl)), (qn, .inl (kN, 400, .inl fn)), (qh, .inl (kH, 128, .inl fh)), (qm, .inl (kM, 60, .inl fm))] H → va_D A [(h0, .inr (11, [.ref qs, .ref ql, .ref qn, .ref qh, .ref qm, .int (nI tl), .int hh, .int (nI q), .int nm, .int kd, .int dt])), (qs, .inl (kC, 24000, .inl g)), (ql, .inl (kL, 400, .inl fl)), (qn, .inl (kN, 400, .inl fn)), (qh, .inl (kH, 128, .inl fh)), (qm, .inl (kM, 60, .inl fm))] → va_S A s.heap H locs → lv_has ls 3 [(0, .ref h0), (1, .int (nI q)), (2, .int (nI k))] → W p l e _ s m _ below meth c H locs _ _ _ (F0 m 19 ls [])) (tl + 1) 0 fs s.heap _ ls (by omega) (by omega) hP hD hS (lv_sub hl [2, 1, 0] rfl)
  intro m9
  induction m9 with
  | zero =>
    intro k g H locs ls h1 h2
    exact absurd h1 (by omega)
  | succ m9 ih =>
    intro k g H locs ls hm hk hP hD hS hl
    rcases Nat.lt_or_ge k tl with hkt | hkt
    · skip
      refine lv_iload_n hx hb dX9_keep_19 rfl (lv_at hl 2 rfl) ?_
      refine lv_aload_n hx hb dX9_keep_20 rfl (lv_at hl 0 rfl) ?_
      refine va_get (D := (dC, dI)) (ci := 11) (v := .int (nI tl)) (C := RX9) (T := TX9) (N := 11) hx hb hts hwX9 hown hK hP 0 rfl rfl 5 (Nat.le_of_ble_eq_true rfl) (hts (.fieldLink RX9 63 "ScriptTypes$Texts" "madeLength" "I") (List.mem_of_getElem? (i := 2) (by decide +kernel))) (fun _ h9 => h9) rfl dX9_keep_21 ?_
      refine lv_icmp_ge (tgt := 50) hx hb dX9_keep_24 (by decide) (fun c2_24 => absurd c2_24 (nI_ge hkt (by omega))) (fun _ => ?_)
      refine lv_aload_n hx hb dX9_keep_27 rfl (lv_at hl 0 rfl) ?_
      refine va_get (D := (dC, dI)) (ci := 11) (v := .ref qs) (C := RX9) (T := TX9) (N := 11) hx hb hts hwX9 hown hK hP 0 rfl rfl 0 (Nat.le_of_ble_eq_true rfl) (hts (.fieldLink RX9 11 "ScriptTypes$Texts" "signs" "[C") (List.mem_of_getElem? (i := 3) (by decide +kernel))) (fun _ h9 => h9) rfl dX9_keep_28 ?_
      refine lv_iload_n hx hb dX9_keep_31 rfl (lv_at hl 1 rfl) ?_
      refine lv_bipush (v := 60) hx hb dX9_keep_32 (by decide) ?_
      refine lv_imul hx hb dX9_keep_34 ?_
      refine lv_topi (fun f_3 ef_3 => ?_)
      refine lv_iload_n hx hb dX9_keep_35 rfl (lv_at hl 2 rfl) ?_
      refine lv_iadd hx hb dX9_keep_36 ?_
      refine lv_topi (fun f_4 ef_4 => ?_)
      refine lv_aload_n hx hb dX9_keep_37 rfl (lv_at hl 0 rfl) ?_
      refine va_get (D := (dC, dI)) (ci := 11) (v := .ref qm) (C := RX9) (T := TX9) (N := 11) hx hb hts hwX9 hown hK hP 0 rfl rfl 4 (Nat.le_of_ble_eq_true rfl) (hts (.fieldLink RX9 25 "ScriptTypes$Texts" "made" "[C") (List.mem_of_getElem? (i := 4) (by decide +kernel))) (fun _ h9 => h9) rfl dX9_keep_38 ?_
      refine lv_iload_n hx hb dX9_keep_41 rfl (lv_at hl 2 rfl) ?_
      refine va_cald hx hb hK hP 5 4 rfl rfl (vp_in_nI (by omega) (by omega)) dX9_keep_42 ?_
      refine lv_topi (fun f_5 ef_5 => ?_)
      refine va_cast hx hb hK hP hD hS 1 0 rfl rfl (by rw [ef_4, ef_3]; exact rngT hq (by omega)) dX9_keep_43 (fun H locs hP hD hS => ?_)
      obtain ⟨g_6, eg_6⟩ : ∃ z9 : Nat → Int32, z9 = upd g (f_4 : Int32).toNatClampNeg (vp_nar .char f_5) := ⟨_, rfl⟩
      have hP : va_P (dC, dI) vwCl [(h0, .inr (11, [.ref qs, .ref ql, .ref qn, .ref qh, .ref qm, .int (nI tl), .int hh, .int (nI q), .int nm, .int kd, .int dt])), (qs, .inl (kC, 24000, .inl g_6)), (ql, .inl (kL, 400, .inl fl)), (qn, .inl (kN, 400, .inl fn)), (qh, .inl (kH, 128, .inl fh)), (qm, .inl (kM, 60, .inl fm))] H := by rw [eg_6]; exact hP
      have hD : va_D A [(h0, .inr (11, [.ref qs, .ref ql, .ref qn, .ref qh, .ref qm, .int (nI tl), .int hh, .int (nI q), .int nm, .int kd, .int dt])), (qs, .inl (kC, 24000, .inl g_6)), (ql, .inl (kL, 400, .inl fl)), (qn, .inl (kN, 400, .inl fn)), (qh, .inl (kH, 128, .inl fh)), (qm, .inl (kM, 60, .inl fm))] := by rw [eg_6]; exact hD
      refine lv_iinc (v := nI (k + 1)) (lv' := [(2, .int (nI (k + 1))), (0, .ref h0), (1, .int (nI q))]) hx hb dX9_keep_44 hl (k := 2) rfl (nI_1 k) (by decide) rfl (fun ls hl => ?_)
      refine lv_goto (tgt := 19) hx hb dX9_keep_47 (by decide) ?_
      exact ih (k + 1) g_6 H locs ls (by omega) (by omega) hP hD hS (lv_sub hl [1, 2, 0] rfl)
    · skip
      refine lv_iload_n hx hb dX9_keep_19 rfl (lv_at hl 2 rfl) ?_
      refine lv_aload_n hx hb dX9_keep_20 rfl (lv_at hl 0 rfl) ?_
      refine va_get (D := (dC, dI)) (ci := 11) (v := .int (nI tl)) (C := RX9) (T := TX9) (N := 11) hx hb hts hwX9 hown hK hP 0 rfl rfl 5 (Nat.le_of_ble_eq_true rfl) (hts (.fieldLink RX9 63 "ScriptTypes$Texts" "madeLength" "I") (List.mem_of_getElem? (i := 2) (by decide +kernel))) (fun _ h9 => h9) rfl dX9_keep_21 ?_
      refine lv_icmp_ge (tgt := 50) hx hb dX9_keep_24 (by decide) (fun _ => ?_) (fun c7_24 => absurd (nI_le hkt (by omega)) c7_24)
      refine lv_aload_n hx hb dX9_keep_50 rfl (lv_at hl 0 rfl) ?_
      refine va_get (D := (dC, dI)) (ci := 11) (v := .ref ql) (C := RX9) (T := TX9) (N := 11) hx hb hts hwX9 hown hK hP 0 rfl rfl 1 (Nat.le_of_ble_eq_true rfl) (hts (.fieldLink RX9 15 "ScriptTypes$Texts" "lengths" "[I") (List.mem_of_getElem? (i := 5) (by decide +kernel))) (fun _ h9 => h9) rfl dX9_keep_51 ?_
      refine lv_iload_n hx hb dX9_keep_54 rfl (lv_at hl 1 rfl) ?_
      refine lv_aload_n hx hb dX9_keep_55 rfl (lv_at hl 0 rfl) ?_
      refine va_get (D := (dC, dI)) (ci := 11) (v := .int (nI tl)) (C := RX9) (T := TX9) (N := 11) hx hb hts hwX9 hown hK hP 0 rfl rfl 5 (Nat.le_of_ble_eq_true rfl) (hts (.fieldLink RX9 63 "ScriptTypes$Texts" "madeLength" "I") (List.mem_of_getElem? (i := 2) (by decide +kernel))) (fun _ h9 => h9) rfl dX9_keep_56 ?_
      refine va_iast hx hb hK hP hD hS 2 1 rfl rfl (vp_in_nI hq (by decide)) dX9_keep_59 (fun H locs hP hD hS => ?_)
      obtain ⟨g_8, eg_8⟩ : ∃ z9 : Nat → Int32, z9 = upd fl ((nI q) : Int32).toNatClampNeg (nI tl) := ⟨_, rfl⟩
      have hP : va_P (dC, dI) vwCl [(h0, .inr (11, [.ref qs, .ref ql, .ref qn, .ref qh, .ref qm, .int (nI tl), .int hh, .int (nI q), .int nm, .int kd, .int dt])), (qs, .inl (kC, 24000, .inl g)), (ql, .inl (kL, 400, .inl g_8)), (qn, .inl (kN, 400, .inl fn)), (qh, .inl (kH, 128, .inl fh)), (qm, .inl (kM, 60, .inl fm))] H := by rw [eg_8]; exact hP
      have hD : va_D A [(h0, .inr (11, [.ref qs, .ref ql, .ref qn, .ref qh, .ref qm, .int (nI tl), .int hh, .int (nI q), .int nm, .int kd, .int dt])), (qs, .inl (kC, 24000, .inl g)), (ql, .inl (kL, 400, .inl g_8)), (qn, .inl (kN, 400, .inl fn)), (qh, .inl (kH, 128, .inl fh)), (qm, .inl (kM, 60, .inl fm))] := by rw [eg_8]; exact hD
      refine lv_aload_n hx hb dX9_keep_60 rfl (lv_at hl 0 rfl) ?_
      refine va_get (D := (dC, dI)) (ci := 11) (v := .ref qn) (C := RX9) (T := TX9) (N := 11) hx hb hts hwX9 hown hK hP 0 rfl rfl 2 (Nat.le_of_ble_eq_true rfl) (hts (.fieldLink RX9 19 "ScriptTypes$Texts" "next" "[I") (List.mem_of_getElem? (i := 6) (by decide +kernel))) (fun _ h9 => h9) rfl dX9_keep_61 ?_
      refine lv_iload_n hx hb dX9_keep_64 rfl (lv_at hl 1 rfl) ?_
      refine lv_aload_n hx hb dX9_keep_65 rfl (lv_at hl 0 rfl) ?_
      refine va_get (D := (dC, dI)) (ci := 11) (v := .ref qh) (C := RX9) (T := TX9) (N := 11) hx hb hts hwX9 hown hK hP 0 rfl rfl 3 (Nat.le_of_ble_eq_true rfl) (hts (.fieldLink RX9 22 "ScriptTypes$Texts" "heads" "[I") (List.mem_of_getElem? (i := 7) (by decide +kernel))) (fun _ h9 => h9) rfl dX9_keep_66 ?_
      refine lv_aload_n hx hb dX9_keep_69 rfl (lv_at hl 0 rfl) ?_
      refine va_get (D := (dC, dI)) (ci := 11) (v := .int hh) (C := RX9) (T := TX9) (N := 11) hx hb hts hwX9 hown hK hP 0 rfl rfl 6 (Nat.le_of_ble_eq_true rfl) (hts (.fieldLink RX9 66 "ScriptTypes$Texts" "madeHash" "I") (List.mem_of_getElem? (i := 8) (by decide +kernel))) (fun _ h9 => h9) rfl dX9_keep_70 ?_
      refine lv_bipush (v := 127) hx hb dX9_keep_73 (by decide) ?_
      refine lv_iand hx hb dX9_keep_75 ?_
      refine lv_topi (fun f_9 ef_9 => ?_)
      refine va_iald hx hb hK hP 4 3 rfl rfl (by rw [ef_9]; exact pk_andIn _ 7 (by decide) (by decide)) dX9_keep_76 ?_
      refine lv_topi (fun f_10 ef_10 => ?_)
      refine va_iast hx hb hK hP hD hS 3 2 rfl rfl (vp_in_nI hq (by decide)) dX9_keep_77 (fun H locs hP hD hS => ?_)
      obtain ⟨g_11, eg_11⟩ : ∃ z9 : Nat → Int32, z9 = upd fn ((nI q) : Int32).toNatClampNeg f_10 := ⟨_, rfl⟩
      have hP : va_P (dC, dI) vwCl [(h0, .inr (11, [.ref qs, .ref ql, .ref qn, .ref qh, .ref qm, .int (nI tl), .int hh, .int (nI q), .int nm, .int kd, .int dt])), (qs, .inl (kC, 24000, .inl g)), (ql, .inl (kL, 400, .inl g_8)), (qn, .inl (kN, 400, .inl g_11)), (qh, .inl (kH, 128, .inl fh)), (qm, .inl (kM, 60, .inl fm))] H := by rw [eg_11]; exact hP
      have hD : va_D A [(h0, .inr (11, [.ref qs, .ref ql, .ref qn, .ref qh, .ref qm, .int (nI tl), .int hh, .int (nI q), .int nm, .int kd, .int dt])), (qs, .inl (kC, 24000, .inl g)), (ql, .inl (kL, 400, .inl g_8)), (qn, .inl (kN, 400, .inl g_11)), (qh, .inl (kH, 128, .inl fh)), (qm, .inl (kM, 60, .inl fm))] := by rw [eg_11]; exact hD
      refine lv_aload_n hx hb dX9_keep_78 rfl (lv_at hl 0 rfl) ?_
      refine va_get (D := (dC, dI)) (ci := 11) (v := .ref qh) (C := RX9) (T := TX9) (N := 11) hx hb hts hwX9 hown hK hP 0 rfl rfl 3 (Nat.le_of_ble_eq_true rfl) (hts (.fieldLink RX9 22 "ScriptTypes$Texts" "heads" "[I") (List.mem_of_getElem? (i := 7) (by decide +kernel))) (fun _ h9 => h9) rfl dX9_keep_79 ?_
      refine lv_aload_n hx hb dX9_keep_82 rfl (lv_at hl 0 rfl) ?_
      refine va_get (D := (dC, dI)) (ci := 11) (v := .int hh) (C := RX9) (T := TX9) (N := 11) hx hb hts hwX9 hown hK hP 0 rfl rfl 6 (Nat.le_of_ble_eq_true rfl) (hts (.fieldLink RX9 66 "ScriptTypes$Texts" "madeHash" "I") (List.mem_of_getElem? (i := 8) (by decide +kernel))) (fun _ h9 => h9) rfl dX9_keep_83 ?_
      refine lv_bipush (v := 127) hx hb dX9_keep_86 (by decide) ?_
      refine lv_iand hx hb dX9_keep_88 ?_
      refine lv_topi (fun f_12 ef_12 => ?_)
      refine lv_iload_n hx hb dX9_keep_89 rfl (lv_at hl 1 rfl) ?_
      refine va_iast hx hb hK hP hD hS 4 3 rfl rfl (by rw [ef_12]; exact pk_andIn _ 7 (by decide) (by decide)) dX9_keep_90 (fun H locs hP hD hS => ?_)
      obtain ⟨g_13, eg_13⟩ : ∃ z9 : Nat → Int32, z9 = upd fh (f_12 : Int32).toNatClampNeg (nI q) := ⟨_, rfl⟩
      have hP : va_P (dC, dI) vwCl [(h0, .inr (11, [.ref qs, .ref ql, .ref qn, .ref qh, .ref qm, .int (nI tl), .int hh, .int (nI q), .int nm, .int kd, .int dt])), (qs, .inl (kC, 24000, .inl g)), (ql, .inl (kL, 400, .inl g_8)), (qn, .inl (kN, 400, .inl g_11)), (qh, .inl (kH, 128, .inl g_13)), (qm, .inl (kM, 60, .inl fm))] H := by rw [eg_13]; exact hP
      have hD : va_D A [(h0, .inr (11, [.ref qs, .ref ql, .ref qn, .ref qh, .ref qm, .int (nI tl), .int hh, .int (nI q), .int nm, .int kd, .int dt])), (qs, .inl (kC, 24000, .inl g)), (ql, .inl (kL, 400, .inl g_8)), (qn, .inl (kN, 400, .inl g_11)), (qh, .inl (kH, 128, .inl g_13)), (qm, .inl (kM, 60, .inl fm))] := by rw [eg_13]; exact hD
      refine lv_aload_n hx hb dX9_keep_91 rfl (lv_at hl 0 rfl) ?_
      refine lv_dup hx hb dX9_keep_92 rfl ?_
      refine va_get (D := (dC, dI)) (ci := 11) (v := .int (nI q)) (C := RX9) (T := TX9) (N := 11) hx hb hts hwX9 hown hK hP 0 rfl rfl 7 (Nat.le_of_ble_eq_true rfl) (hts (.fieldLink RX9 56 "ScriptTypes$Texts" "count" "I") (List.mem_of_getElem? (i := 1) (by decide +kernel))) (fun _ h9 => h9) rfl dX9_keep_93 ?_
      refine lv_iconst (v := 1) hx hb dX9_keep_96 (by decide) ?_
      refine lv_iadd hx hb dX9_keep_97 ?_
      refine lv_topi (fun f_14 ef_14 => ?_)
      obtain rfl : f_14 = (nI (q + 1)) := by rw [ef_14]; exact nI_1 q
      refine va_put (D := (dC, dI)) (ci := 11) (v := .int (nI (q + 1))) (ty := tyX9 7) (C := RX9) (T := TX9) (N := 11) hx hb hts hwX9 tyX9 tyX9_ok nmX9 hown hK hP hD hS 0 rfl rfl 7 (Nat.le_of_ble_eq_true rfl) (hts (.fieldLink RX9 56 "ScriptTypes$Texts" "count" "I") (List.mem_of_getElem? (i := 1) (by decide +kernel))) (fun _ h9 => h9) rfl (tyX9_ok 7 (Nat.le_of_ble_eq_true rfl)) rfl rfl (Nat.le_of_ble_eq_true rfl) dX9_keep_98 (fun H locs hP hD hS => ?_)
      have hP : va_P (dC, dI) vwCl [(h0, .inr (11, [.ref qs, .ref ql, .ref qn, .ref qh, .ref qm, .int (nI tl), .int hh, .int (nI (q + 1)), .int nm, .int kd, .int dt])), (qs, .inl (kC, 24000, .inl g)), (ql, .inl (kL, 400, .inl g_8)), (qn, .inl (kN, 400, .inl g_11)), (qh, .inl (kH, 128, .inl g_13)), (qm, .inl (kM, 60, .inl fm))] H := hP
      have hD : va_D A [(h0, .inr (11, [.ref qs, .ref ql, .ref qn, .ref qh, .ref qm, .int (nI tl), .int hh, .int (nI (q + 1)), .int nm, .int kd, .int dt])), (qs, .inl (kC, 24000, .inl g)), (ql, .inl (kL, 400, .inl g_8)), (qn, .inl (kN, 400, .inl g_11)), (qh, .inl (kH, 128, .inl g_13)), (qm, .inl (kM, 60, .inl fm))] := hD
      refine lv_iload_n hx hb dX9_keep_101 rfl (lv_at hl 1 rfl) ?_
      exact W.iret (v := (nI q)) hx hb hr (fun t ht hW => ⟨⟨(nI q), (g, g_8, g_11, g_13), rfl, trivial, by rw [ht]; exact hP, va_K.moved hW.alike hK, hD⟩, hS.F ht⟩) hS.2.2 dX9_keep_102
