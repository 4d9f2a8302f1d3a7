theorem dX12_delete_0 : decode cX12_delete 0 = .ok (.aload_n 0, 1) := by decide +kernel
theorem dX12_delete_1 : decode cX12_delete 1 = .ok (.iconst 1, 1) := by decide +kernel
theorem dX12_delete_2 : decode cX12_delete 2 = .ok (.invokevirtual 910, 3) := by decide +kernel
theorem dX12_delete_5 : decode cX12_delete 5 = .ok (.istore_n 1, 1) := by decide +kernel
theorem dX12_delete_6 : decode cX12_delete 6 = .ok (.aload_n 0, 1) := by decide +kernel
theorem dX12_delete_7 : decode cX12_delete 7 = .ok (.iconst 1, 1) := by decide +kernel
theorem dX12_delete_8 : decode cX12_delete 8 = .ok (.invokevirtual 913, 3) := by decide +kernel
theorem dX12_delete_11 : decode cX12_delete 11 = .ok (.istore_n 2, 1) := by decide +kernel
theorem dX12_delete_12 : decode cX12_delete 12 = .ok (.aload_n 0, 1) := by decide +kernel
theorem dX12_delete_13 : decode cX12_delete 13 = .ok (.aload_n 0, 1) := by decide +kernel
theorem dX12_delete_14 : decode cX12_delete 14 = .ok (.iconst 0, 1) := by decide +kernel
theorem dX12_delete_15 : decode cX12_delete 15 = .ok (.invokevirtual 910, 3) := by decide +kernel
theorem dX12_delete_18 : decode cX12_delete 18 = .ok (.aload_n 0, 1) := by decide +kernel
theorem dX12_delete_19 : decode cX12_delete 19 = .ok (.iconst 0, 1) := by decide +kernel
theorem dX12_delete_20 : decode cX12_delete 20 = .ok (.invokevirtual 913, 3) := by decide +kernel
theorem dX12_delete_23 : decode cX12_delete 23 = .ok (.invokevirtual 969, 3) := by decide +kernel
theorem dX12_delete_26 : decode cX12_delete 26 = .ok (.istore_n 3, 1) := by decide +kernel
theorem dX12_delete_27 : decode cX12_delete 27 = .ok (.aload_n 0, 1) := by decide +kernel
theorem dX12_delete_28 : decode cX12_delete 28 = .ok (.getfield 794, 3) := by decide +kernel
theorem dX12_delete_31 : decode cX12_delete 31 = .ok (.ifCond .eq 4, 3) := by decide +kernel
theorem dX12_delete_34 : decode cX12_delete 34 = .ok (.return_, 1) := by decide +kernel
theorem dX12_delete_35 : decode cX12_delete 35 = .ok (.iload_n 1, 1) := by decide +kernel
theorem dX12_delete_36 : decode cX12_delete 36 = .ok (.iconst 1, 1) := by decide +kernel
theorem dX12_delete_37 : decode cX12_delete 37 = .ok (.if_icmp .gt 10, 3) := by decide +kernel
theorem dX12_delete_40 : decode cX12_delete 40 = .ok (.aload_n 0, 1) := by decide +kernel
theorem dX12_delete_41 : decode cX12_delete 41 = .ok (.bipush 6, 2) := by decide +kernel
theorem dX12_delete_43 : decode cX12_delete 43 = .ok (.invokevirtual 966, 3) := by decide +kernel
theorem dX12_delete_46 : decode cX12_delete 46 = .ok (.return_, 1) := by decide +kernel
theorem dX12_delete_47 : decode cX12_delete 47 = .ok (.iload_n 1, 1) := by decide +kernel
theorem dX12_delete_48 : decode cX12_delete 48 = .ok (.bipush 7, 2) := by decide +kernel
theorem dX12_delete_50 : decode cX12_delete 50 = .ok (.if_icmp .ne 21, 3) := by decide +kernel
theorem dX12_delete_53 : decode cX12_delete 53 = .ok (.aload_n 0, 1) := by decide +kernel
theorem dX12_delete_54 : decode cX12_delete 54 = .ok (.getfield 143, 3) := by decide +kernel
theorem dX12_delete_57 : decode cX12_delete 57 = .ok (.iload_n 2, 1) := by decide +kernel
theorem dX12_delete_58 : decode cX12_delete 58 = .ok (.iaload, 1) := by decide +kernel
theorem dX12_delete_59 : decode cX12_delete 59 = .ok (.iconst 2, 1) := by decide +kernel
theorem dX12_delete_60 : decode cX12_delete 60 = .ok (.if_icmp .ne 11, 3) := by decide +kernel
theorem dX12_delete_63 : decode cX12_delete 63 = .ok (.iload_n 3, 1) := by decide +kernel
theorem dX12_delete_64 : decode cX12_delete 64 = .ok (.ifCond .ne 7, 3) := by decide +kernel
theorem dX12_delete_67 : decode cX12_delete 67 = .ok (.iconst 1, 1) := by decide +kernel
theorem dX12_delete_68 : decode cX12_delete 68 = .ok (.goto 4, 3) := by decide +kernel
theorem dX12_delete_71 : decode cX12_delete 71 = .ok (.iconst 0, 1) := by decide +kernel
theorem dX12_delete_72 : decode cX12_delete 72 = .ok (.istore 4, 2) := by decide +kernel
theorem dX12_delete_74 : decode cX12_delete 74 = .ok (.iload_n 1, 1) := by decide +kernel
theorem dX12_delete_75 : decode cX12_delete 75 = .ok (.bipush 7, 2) := by decide +kernel
theorem dX12_delete_77 : decode cX12_delete 77 = .ok (.if_icmp .ne 14, 3) := by decide +kernel
theorem dX12_delete_80 : decode cX12_delete 80 = .ok (.iload 4, 2) := by decide +kernel
theorem dX12_delete_82 : decode cX12_delete 82 = .ok (.ifCond .ne 9, 3) := by decide +kernel
theorem dX12_delete_85 : decode cX12_delete 85 = .ok (.aload_n 0, 1) := by decide +kernel
theorem dX12_delete_86 : decode cX12_delete 86 = .ok (.iload_n 2, 1) := by decide +kernel
theorem dX12_delete_87 : decode cX12_delete 87 = .ok (.iload_n 3, 1) := by decide +kernel
theorem dX12_delete_88 : decode cX12_delete 88 = .ok (.invokevirtual 981, 3) := by decide +kernel
theorem dX12_delete_91 : decode cX12_delete 91 = .ok (.aload_n 0, 1) := by decide +kernel
theorem dX12_delete_92 : decode cX12_delete 92 = .ok (.iload 4, 2) := by decide +kernel
theorem dX12_delete_94 : decode cX12_delete 94 = .ok (.ifCond .ne 7, 3) := by decide +kernel
theorem dX12_delete_97 : decode cX12_delete 97 = .ok (.iconst 1, 1) := by decide +kernel
theorem dX12_delete_98 : decode cX12_delete 98 = .ok (.goto 4, 3) := by decide +kernel
theorem dX12_delete_101 : decode cX12_delete 101 = .ok (.iconst 0, 1) := by decide +kernel
theorem dX12_delete_102 : decode cX12_delete 102 = .ok (.invokevirtual 827, 3) := by decide +kernel
theorem dX12_delete_105 : decode cX12_delete 105 = .ok (.aload_n 0, 1) := by decide +kernel
theorem dX12_delete_106 : decode cX12_delete 106 = .ok (.iconst 2, 1) := by decide +kernel
theorem dX12_delete_107 : decode cX12_delete 107 = .ok (.invokevirtual 904, 3) := by decide +kernel
theorem dX12_delete_110 : decode cX12_delete 110 = .ok (.return_, 1) := by decide +kernel
theorem dX12_newArray_0 : decode cX12_newArray 0 = .ok (.aload_n 0, 1) := by decide +kernel
theorem dX12_newArray_1 : decode cX12_newArray 1 = .ok (.iconst 3, 1) := by decide +kernel
theorem dX12_newArray_2 : decode cX12_newArray 2 = .ok (.iload_n 1, 1) := by decide +kernel
theorem dX12_newArray_3 : decode cX12_newArray 3 = .ok (.iconst 2, 1) := by decide +kernel
theorem dX12_newArray_4 : decode cX12_newArray 4 = .ok (.invokevirtual 858, 3) := by decide +kernel
theorem dX12_newArray_7 : decode cX12_newArray 7 = .ok (.istore_n 2, 1) := by decide +kernel
theorem dX12_newArray_8 : decode cX12_newArray 8 = .ok (.aload_n 0, 1) := by decide +kernel
theorem dX12_newArray_9 : decode cX12_newArray 9 = .ok (.getfield 794, 3) := by decide +kernel
theorem dX12_newArray_12 : decode cX12_newArray 12 = .ok (.ifCond .ne 11, 3) := by decide +kernel
theorem dX12_newArray_15 : decode cX12_newArray 15 = .ok (.aload_n 0, 1) := by decide +kernel
theorem dX12_newArray_16 : decode cX12_newArray 16 = .ok (.iload_n 2, 1) := by decide +kernel
theorem dX12_newArray_17 : decode cX12_newArray 17 = .ok (.iconst 0, 1) := by decide +kernel
theorem dX12_newArray_18 : decode cX12_newArray 18 = .ok (.iconst 5, 1) := by decide +kernel
theorem dX12_newArray_19 : decode cX12_newArray 19 = .ok (.iconst 0, 1) := by decide +kernel
theorem dX12_newArray_20 : decode cX12_newArray 20 = .ok (.invokevirtual 870, 3) := by decide +kernel
theorem dX12_newArray_23 : decode cX12_newArray 23 = .ok (.iload_n 2, 1) := by decide +kernel
theorem dX12_newArray_24 : decode cX12_newArray 24 = .ok (.ireturn, 1) := by decide +kernel
theorem dX12_makeFunction_0 : decode cX12_makeFunction 0 = .ok (.bipush 29, 2) := by decide +kernel
theorem dX12_makeFunction_2 : decode cX12_makeFunction 2 = .ok (.bipush 6, 2) := by decide +kernel
theorem dX12_makeFunction_4 : decode cX12_makeFunction 4 = .ok (.iload_n 1, 1) := by decide +kernel
theorem dX12_makeFunction_5 : decode cX12_makeFunction 5 = .ok (.iconst 1, 1) := by decide +kernel
theorem dX12_makeFunction_6 : decode cX12_makeFunction 6 = .ok (.isub, 1) := by decide +kernel
theorem dX12_makeFunction_7 : decode cX12_makeFunction 7 = .ok (.imul, 1) := by decide +kernel
theorem dX12_makeFunction_8 : decode cX12_makeFunction 8 = .ok (.iadd, 1) := by decide +kernel
theorem dX12_makeFunction_9 : decode cX12_makeFunction 9 = .ok (.istore_n 2, 1) := by decide +kernel
theorem dX12_makeFunction_10 : decode cX12_makeFunction 10 = .ok (.aload_n 0, 1) := by decide +kernel
theorem dX12_makeFunction_11 : decode cX12_makeFunction 11 = .ok (.iconst 2, 1) := by decide +kernel
theorem dX12_makeFunction_12 : decode cX12_makeFunction 12 = .ok (.iload_n 2, 1) := by decide +kernel
theorem dX12_makeFunction_13 : decode cX12_makeFunction 13 = .ok (.iconst 2, 1) := by decide +kernel
theorem dX12_makeFunction_14 : decode cX12_makeFunction 14 = .ok (.iadd, 1) := by decide +kernel
theorem dX12_makeFunction_15 : decode cX12_makeFunction 15 = .ok (.iconst 1, 1) := by decide +kernel
theorem dX12_makeFunction_16 : decode cX12_makeFunction 16 = .ok (.invokevirtual 858, 3) := by decide +kernel
theorem dX12_makeFunction_19 : decode cX12_makeFunction 19 = .ok (.istore_n 3, 1) := by decide +kernel
theorem dX12_makeFunction_20 : decode cX12_makeFunction 20 = .ok (.aload_n 0, 1) := by decide +kernel
theorem dX12_makeFunction_21 : decode cX12_makeFunction 21 = .ok (.getfield 794, 3) := by decide +kernel
theorem dX12_makeFunction_24 : decode cX12_makeFunction 24 = .ok (.ifCond .eq 4, 3) := by decide +kernel
theorem dX12_makeFunction_27 : decode cX12_makeFunction 27 = .ok (.return_, 1) := by decide +kernel
theorem dX12_makeFunction_28 : decode cX12_makeFunction 28 = .ok (.aload_n 0, 1) := by decide +kernel
theorem dX12_makeFunction_29 : decode cX12_makeFunction 29 = .ok (.getfield 140, 3) := by decide +kernel
theorem dX12_makeFunction_32 : decode cX12_makeFunction 32 = .ok (.iload_n 3, 1) := by decide +kernel
theorem dX12_makeFunction_33 : decode cX12_makeFunction 33 = .ok (.aload_n 0, 1) := by decide +kernel
theorem dX12_makeFunction_34 : decode cX12_makeFunction 34 = .ok (.getfield 173, 3) := by decide +kernel
theorem dX12_makeFunction_37 : decode cX12_makeFunction 37 = .ok (.aload_n 0, 1) := by decide +kernel
theorem dX12_makeFunction_38 : decode cX12_makeFunction 38 = .ok (.getfield 872, 3) := by decide +kernel
theorem dX12_makeFunction_41 : decode cX12_makeFunction 41 = .ok (.iconst 1, 1) := by decide +kernel
theorem dX12_makeFunction_42 : decode cX12_makeFunction 42 = .ok (.isub, 1) := by decide +kernel
theorem dX12_makeFunction_43 : decode cX12_makeFunction 43 = .ok (.iaload, 1) := by decide +kernel
theorem dX12_makeFunction_44 : decode cX12_makeFunction 44 = .ok (.iastore, 1) := by decide +kernel
theorem dX12_makeFunction_45 : decode cX12_makeFunction 45 = .ok (.aload_n 0, 1) := by decide +kernel
theorem dX12_makeFunction_46 : decode cX12_makeFunction 46 = .ok (.getfield 146, 3) := by decide +kernel
theorem dX12_makeFunction_49 : decode cX12_makeFunction 49 = .ok (.iload_n 3, 1) := by decide +kernel
theorem dX12_makeFunction_50 : decode cX12_makeFunction 50 = .ok (.iload_n 1, 1) := by decide +kernel
theorem dX12_makeFunction_51 : decode cX12_makeFunction 51 = .ok (.iastore, 1) := by decide +kernel
theorem dX12_makeFunction_52 : decode cX12_makeFunction 52 = .ok (.aload_n 0, 1) := by decide +kernel
theorem dX12_makeFunction_53 : decode cX12_makeFunction 53 = .ok (.iconst 1, 1) := by decide +kernel
theorem dX12_makeFunction_54 : decode cX12_makeFunction 54 = .ok (.iload_n 2, 1) := by decide +kernel
theorem dX12_makeFunction_55 : decode cX12_makeFunction 55 = .ok (.iconst 4, 1) := by decide +kernel
theorem dX12_makeFunction_56 : decode cX12_makeFunction 56 = .ok (.iadd, 1) := by decide +kernel
theorem dX12_makeFunction_57 : decode cX12_makeFunction 57 = .ok (.iconst 0, 1) := by decide +kernel
theorem dX12_makeFunction_58 : decode cX12_makeFunction 58 = .ok (.invokevirtual 858, 3) := by decide +kernel
theorem dX12_makeFunction_61 : decode cX12_makeFunction 61 = .ok (.istore 4, 2) := by decide +kernel
theorem dX12_makeFunction_63 : decode cX12_makeFunction 63 = .ok (.aload_n 0, 1) := by decide +kernel
theorem dX12_makeFunction_64 : decode cX12_makeFunction 64 = .ok (.getfield 794, 3) := by decide +kernel
theorem dX12_makeFunction_67 : decode cX12_makeFunction 67 = .ok (.ifCond .eq 4, 3) := by decide +kernel
theorem dX12_makeFunction_70 : decode cX12_makeFunction 70 = .ok (.return_, 1) := by decide +kernel
theorem dX12_makeFunction_71 : decode cX12_makeFunction 71 = .ok (.aload_n 0, 1) := by decide +kernel
theorem dX12_makeFunction_72 : decode cX12_makeFunction 72 = .ok (.iload_n 3, 1) := by decide +kernel
theorem dX12_makeFunction_73 : decode cX12_makeFunction 73 = .ok (.iconst 1, 1) := by decide +kernel
theorem dX12_makeFunction_74 : decode cX12_makeFunction 74 = .ok (.bipush 7, 2) := by decide +kernel
theorem dX12_makeFunction_76 : decode cX12_makeFunction 76 = .ok (.iload 4, 2) := by decide +kernel
theorem dX12_makeFunction_78 : decode cX12_makeFunction 78 = .ok (.invokevirtual 870, 3) := by decide +kernel
theorem dX12_makeFunction_81 : decode cX12_makeFunction 81 = .ok (.aload_n 0, 1) := by decide +kernel
theorem dX12_makeFunction_82 : decode cX12_makeFunction 82 = .ok (.getfield 794, 3) := by decide +kernel
theorem dX12_makeFunction_85 : decode cX12_makeFunction 85 = .ok (.ifCond .eq 4, 3) := by decide +kernel
theorem dX12_makeFunction_88 : decode cX12_makeFunction 88 = .ok (.return_, 1) := by decide +kernel
theorem dX12_makeFunction_89 : decode cX12_makeFunction 89 = .ok (.aload_n 0, 1) := by decide +kernel
theorem dX12_makeFunction_90 : decode cX12_makeFunction 90 = .ok (.iload 4, 2) := by decide +kernel
theorem dX12_makeFunction_92 : decode cX12_makeFunction 92 = .ok (.iconst 2, 1) := by decide +kernel
theorem dX12_makeFunction_93 : decode cX12_makeFunction 93 = .ok (.bipush 7, 2) := by decide +kernel
theorem dX12_makeFunction_95 : decode cX12_makeFunction 95 = .ok (.iload_n 3, 1) := by decide +kernel
theorem dX12_makeFunction_96 : decode cX12_makeFunction 96 = .ok (.invokevirtual 870, 3) := by decide +kernel
theorem dX12_makeFunction_99 : decode cX12_makeFunction 99 = .ok (.aload_n 0, 1) := by decide +kernel
theorem dX12_makeFunction_100 : decode cX12_makeFunction 100 = .ok (.bipush 7, 2) := by decide +kernel
theorem dX12_makeFunction_102 : decode cX12_makeFunction 102 = .ok (.iload_n 3, 1) := by decide +kernel
theorem dX12_makeFunction_103 : decode cX12_makeFunction 103 = .ok (.invokevirtual 822, 3) := by decide +kernel
theorem dX12_makeFunction_106 : decode cX12_makeFunction 106 = .ok (.aload_n 0, 1) := by decide +kernel
theorem dX12_makeFunction_107 : decode cX12_makeFunction 107 = .ok (.iconst 0, 1) := by decide +kernel
theorem dX12_makeFunction_108 : decode cX12_makeFunction 108 = .ok (.invokevirtual 904, 3) := by decide +kernel
theorem dX12_makeFunction_111 : decode cX12_makeFunction 111 = .ok (.return_, 1) := by decide +kernel
theorem dX12_putInto_0 : decode cX12_putInto 0 = .ok (.aload_n 0, 1) := by decide +kernel
theorem dX12_putInto_1 : decode cX12_putInto 1 = .ok (.iconst 2, 1) := by decide +kernel
theorem dX12_putInto_2 : decode cX12_putInto 2 = .ok (.invokevirtual 910, 3) := by decide +kernel
theorem dX12_putInto_5 : decode cX12_putInto 5 = .ok (.istore_n 1, 1) := by decide +kernel
theorem dX12_putInto_6 : decode cX12_putInto 6 = .ok (.aload_n 0, 1) := by decide +kernel
theorem dX12_putInto_7 : decode cX12_putInto 7 = .ok (.iconst 2, 1) := by decide +kernel
theorem dX12_putInto_8 : decode cX12_putInto 8 = .ok (.invokevirtual 913, 3) := by decide +kernel
theorem dX12_putInto_11 : decode cX12_putInto 11 = .ok (.istore_n 2, 1) := by decide +kernel
theorem dX12_putInto_12 : decode cX12_putInto 12 = .ok (.aload_n 0, 1) := by decide +kernel
theorem dX12_putInto_13 : decode cX12_putInto 13 = .ok (.aload_n 0, 1) := by decide +kernel
theorem dX12_putInto_14 : decode cX12_putInto 14 = .ok (.iconst 1, 1) := by decide +kernel
theorem dX12_putInto_15 : decode cX12_putInto 15 = .ok (.invokevirtual 910, 3) := by decide +kernel
theorem dX12_putInto_18 : decode cX12_putInto 18 = .ok (.aload_n 0, 1) := by decide +kernel
theorem dX12_putInto_19 : decode cX12_putInto 19 = .ok (.iconst 1, 1) := by decide +kernel
theorem dX12_putInto_20 : decode cX12_putInto 20 = .ok (.invokevirtual 913, 3) := by decide +kernel
theorem dX12_putInto_23 : decode cX12_putInto 23 = .ok (.invokevirtual 969, 3) := by decide +kernel
theorem dX12_putInto_26 : decode cX12_putInto 26 = .ok (.istore_n 3, 1) := by decide +kernel
theorem dX12_putInto_27 : decode cX12_putInto 27 = .ok (.aload_n 0, 1) := by decide +kernel
theorem dX12_putInto_28 : decode cX12_putInto 28 = .ok (.getfield 794, 3) := by decide +kernel
theorem dX12_putInto_31 : decode cX12_putInto 31 = .ok (.ifCond .eq 4, 3) := by decide +kernel
theorem dX12_putInto_34 : decode cX12_putInto 34 = .ok (.return_, 1) := by decide +kernel
theorem dX12_putInto_35 : decode cX12_putInto 35 = .ok (.iload_n 1, 1) := by decide +kernel
theorem dX12_putInto_36 : decode cX12_putInto 36 = .ok (.iconst 1, 1) := by decide +kernel
theorem dX12_putInto_37 : decode cX12_putInto 37 = .ok (.if_icmp .gt 10, 3) := by decide +kernel
theorem dX12_putInto_40 : decode cX12_putInto 40 = .ok (.aload_n 0, 1) := by decide +kernel
theorem dX12_putInto_41 : decode cX12_putInto 41 = .ok (.bipush 6, 2) := by decide +kernel
theorem dX12_putInto_43 : decode cX12_putInto 43 = .ok (.invokevirtual 966, 3) := by decide +kernel
theorem dX12_putInto_46 : decode cX12_putInto 46 = .ok (.return_, 1) := by decide +kernel
theorem dX12_putInto_47 : decode cX12_putInto 47 = .ok (.iload_n 1, 1) := by decide +kernel
theorem dX12_putInto_48 : decode cX12_putInto 48 = .ok (.bipush 7, 2) := by decide +kernel
theorem dX12_putInto_50 : decode cX12_putInto 50 = .ok (.if_icmp .ne 21, 3) := by decide +kernel
theorem dX12_putInto_53 : decode cX12_putInto 53 = .ok (.aload_n 0, 1) := by decide +kernel
theorem dX12_putInto_54 : decode cX12_putInto 54 = .ok (.getfield 143, 3) := by decide +kernel
theorem dX12_putInto_57 : decode cX12_putInto 57 = .ok (.iload_n 2, 1) := by decide +kernel
theorem dX12_putInto_58 : decode cX12_putInto 58 = .ok (.iaload, 1) := by decide +kernel
theorem dX12_putInto_59 : decode cX12_putInto 59 = .ok (.iconst 2, 1) := by decide +kernel
theorem dX12_putInto_60 : decode cX12_putInto 60 = .ok (.if_icmp .ne 11, 3) := by decide +kernel
theorem dX12_putInto_63 : decode cX12_putInto 63 = .ok (.iload_n 3, 1) := by decide +kernel
theorem dX12_putInto_64 : decode cX12_putInto 64 = .ok (.ifCond .ne 7, 3) := by decide +kernel
theorem dX12_putInto_67 : decode cX12_putInto 67 = .ok (.iconst 1, 1) := by decide +kernel
theorem dX12_putInto_68 : decode cX12_putInto 68 = .ok (.goto 4, 3) := by decide +kernel
theorem dX12_putInto_71 : decode cX12_putInto 71 = .ok (.iconst 0, 1) := by decide +kernel
theorem dX12_putInto_72 : decode cX12_putInto 72 = .ok (.istore 4, 2) := by decide +kernel
theorem dX12_putInto_74 : decode cX12_putInto 74 = .ok (.iload_n 1, 1) := by decide +kernel
theorem dX12_putInto_75 : decode cX12_putInto 75 = .ok (.bipush 7, 2) := by decide +kernel
theorem dX12_putInto_77 : decode cX12_putInto 77 = .ok (.if_icmp .ne 78, 3) := by decide +kernel
theorem dX12_putInto_80 : decode cX12_putInto 80 = .ok (.iload 4, 2) := by decide +kernel
theorem dX12_putInto_82 : decode cX12_putInto 82 = .ok (.ifCond .ne 73, 3) := by decide +kernel
theorem dX12_putInto_85 : decode cX12_putInto 85 = .ok (.aload_n 0, 1) := by decide +kernel
theorem dX12_putInto_86 : decode cX12_putInto 86 = .ok (.iload_n 2, 1) := by decide +kernel
theorem dX12_putInto_87 : decode cX12_putInto 87 = .ok (.iload_n 3, 1) := by decide +kernel
theorem dX12_putInto_88 : decode cX12_putInto 88 = .ok (.aload_n 0, 1) := by decide +kernel
theorem dX12_putInto_89 : decode cX12_putInto 89 = .ok (.iconst 0, 1) := by decide +kernel
theorem dX12_putInto_90 : decode cX12_putInto 90 = .ok (.invokevirtual 910, 3) := by decide +kernel
theorem dX12_putInto_93 : decode cX12_putInto 93 = .ok (.aload_n 0, 1) := by decide +kernel
theorem dX12_putInto_94 : decode cX12_putInto 94 = .ok (.iconst 0, 1) := by decide +kernel
theorem dX12_putInto_95 : decode cX12_putInto 95 = .ok (.invokevirtual 913, 3) := by decide +kernel
theorem dX12_putInto_98 : decode cX12_putInto 98 = .ok (.invokevirtual 870, 3) := by decide +kernel
theorem dX12_putInto_101 : decode cX12_putInto 101 = .ok (.aload_n 0, 1) := by decide +kernel
theorem dX12_putInto_102 : decode cX12_putInto 102 = .ok (.getfield 143, 3) := by decide +kernel
theorem dX12_putInto_105 : decode cX12_putInto 105 = .ok (.iload_n 2, 1) := by decide +kernel
theorem dX12_putInto_106 : decode cX12_putInto 106 = .ok (.iaload, 1) := by decide +kernel
theorem dX12_putInto_107 : decode cX12_putInto 107 = .ok (.iconst 2, 1) := by decide +kernel
theorem dX12_putInto_108 : decode cX12_putInto 108 = .ok (.if_icmp .ne 11, 3) := by decide +kernel
theorem dX12_putInto_111 : decode cX12_putInto 111 = .ok (.aload_n 0, 1) := by decide +kernel
theorem dX12_putInto_112 : decode cX12_putInto 112 = .ok (.iload_n 3, 1) := by decide +kernel
theorem dX12_putInto_113 : decode cX12_putInto 113 = .ok (.invokevirtual 975, 3) := by decide +kernel
theorem dX12_putInto_116 : decode cX12_putInto 116 = .ok (.goto 4, 3) := by decide +kernel
theorem dX12_putInto_119 : decode cX12_putInto 119 = .ok (.iconst (-1), 1) := by decide +kernel
theorem dX12_putInto_120 : decode cX12_putInto 120 = .ok (.istore 5, 2) := by decide +kernel
theorem dX12_putInto_122 : decode cX12_putInto 122 = .ok (.aload_n 0, 1) := by decide +kernel
theorem dX12_putInto_123 : decode cX12_putInto 123 = .ok (.getfield 794, 3) := by decide +kernel
theorem dX12_putInto_126 : decode cX12_putInto 126 = .ok (.ifCond .ne 29, 3) := by decide +kernel
theorem dX12_putInto_129 : decode cX12_putInto 129 = .ok (.iload 5, 2) := by decide +kernel
theorem dX12_putInto_131 : decode cX12_putInto 131 = .ok (.ifCond .lt 24, 3) := by decide +kernel
theorem dX12_putInto_134 : decode cX12_putInto 134 = .ok (.iload 5, 2) := by decide +kernel
theorem dX12_putInto_136 : decode cX12_putInto 136 = .ok (.aload_n 0, 1) := by decide +kernel
theorem dX12_putInto_137 : decode cX12_putInto 137 = .ok (.iload_n 2, 1) := by decide +kernel
theorem dX12_putInto_138 : decode cX12_putInto 138 = .ok (.invokevirtual 978, 3) := by decide +kernel
theorem dX12_putInto_141 : decode cX12_putInto 141 = .ok (.if_icmp .lt 14, 3) := by decide +kernel
theorem dX12_putInto_144 : decode cX12_putInto 144 = .ok (.aload_n 0, 1) := by decide +kernel
theorem dX12_putInto_145 : decode cX12_putInto 145 = .ok (.iload_n 2, 1) := by decide +kernel
theorem dX12_putInto_146 : decode cX12_putInto 146 = .ok (.iconst 0, 1) := by decide +kernel
theorem dX12_putInto_147 : decode cX12_putInto 147 = .ok (.iconst 5, 1) := by decide +kernel
theorem dX12_putInto_148 : decode cX12_putInto 148 = .ok (.iload 5, 2) := by decide +kernel
theorem dX12_putInto_150 : decode cX12_putInto 150 = .ok (.iconst 1, 1) := by decide +kernel
theorem dX12_putInto_151 : decode cX12_putInto 151 = .ok (.iadd, 1) := by decide +kernel
theorem dX12_putInto_152 : decode cX12_putInto 152 = .ok (.invokevirtual 870, 3) := by decide +kernel
theorem dX12_putInto_155 : decode cX12_putInto 155 = .ok (.aload_n 0, 1) := by decide +kernel
theorem dX12_putInto_156 : decode cX12_putInto 156 = .ok (.aload_n 0, 1) := by decide +kernel
theorem dX12_putInto_157 : decode cX12_putInto 157 = .ok (.iconst 0, 1) := by decide +kernel
theorem dX12_putInto_158 : decode cX12_putInto 158 = .ok (.invokevirtual 910, 3) := by decide +kernel
theorem dX12_putInto_161 : decode cX12_putInto 161 = .ok (.aload_n 0, 1) := by decide +kernel
theorem dX12_putInto_162 : decode cX12_putInto 162 = .ok (.iconst 0, 1) := by decide +kernel
theorem dX12_putInto_163 : decode cX12_putInto 163 = .ok (.invokevirtual 913, 3) := by decide +kernel
theorem dX12_putInto_166 : decode cX12_putInto 166 = .ok (.invokevirtual 822, 3) := by decide +kernel
theorem dX12_putInto_169 : decode cX12_putInto 169 = .ok (.aload_n 0, 1) := by decide +kernel
theorem dX12_putInto_170 : decode cX12_putInto 170 = .ok (.iconst 3, 1) := by decide +kernel
theorem dX12_putInto_171 : decode cX12_putInto 171 = .ok (.invokevirtual 904, 3) := by decide +kernel
theorem dX12_putInto_174 : decode cX12_putInto 174 = .ok (.return_, 1) := by decide +kernel
theorem dX12_isMadeBy_0 : decode cX12_isMadeBy 0 = .ok (.aload_n 0, 1) := by decide +kernel
theorem dX12_isMadeBy_1 : decode cX12_isMadeBy 1 = .ok (.iload_n 3, 1) := by decide +kernel
theorem dX12_isMadeBy_2 : decode cX12_isMadeBy 2 = .ok (.iload 4, 2) := by decide +kernel
theorem dX12_isMadeBy_4 : decode cX12_isMadeBy 4 = .ok (.invokevirtual 992, 3) := by decide +kernel
theorem dX12_isMadeBy_7 : decode cX12_isMadeBy 7 = .ok (.istore 5, 2) := by decide +kernel
theorem dX12_isMadeBy_9 : decode cX12_isMadeBy 9 = .ok (.iload 5, 2) := by decide +kernel
theorem dX12_isMadeBy_11 : decode cX12_isMadeBy 11 = .ok (.ifCond .eq 28, 3) := by decide +kernel
theorem dX12_isMadeBy_14 : decode cX12_isMadeBy 14 = .ok (.aload_n 0, 1) := by decide +kernel
theorem dX12_isMadeBy_15 : decode cX12_isMadeBy 15 = .ok (.iload 4, 2) := by decide +kernel
theorem dX12_isMadeBy_17 : decode cX12_isMadeBy 17 = .ok (.iconst 1, 1) := by decide +kernel
theorem dX12_isMadeBy_18 : decode cX12_isMadeBy 18 = .ok (.invokevirtual 972, 3) := by decide +kernel
theorem dX12_isMadeBy_21 : decode cX12_isMadeBy 21 = .ok (.istore 6, 2) := by decide +kernel
theorem dX12_isMadeBy_23 : decode cX12_isMadeBy 23 = .ok (.aload_n 0, 1) := by decide +kernel
theorem dX12_isMadeBy_24 : decode cX12_isMadeBy 24 = .ok (.getfield 788, 3) := by decide +kernel
theorem dX12_isMadeBy_27 : decode cX12_isMadeBy 27 = .ok (.bipush 7, 2) := by decide +kernel
theorem dX12_isMadeBy_29 : decode cX12_isMadeBy 29 = .ok (.if_icmp .ne 7, 3) := by decide +kernel
theorem dX12_isMadeBy_32 : decode cX12_isMadeBy 32 = .ok (.iconst 1, 1) := by decide +kernel
theorem dX12_isMadeBy_33 : decode cX12_isMadeBy 33 = .ok (.goto 4, 3) := by decide +kernel
theorem dX12_isMadeBy_36 : decode cX12_isMadeBy 36 = .ok (.iconst 0, 1) := by decide +kernel
theorem dX12_isMadeBy_37 : decode cX12_isMadeBy 37 = .ok (.istore 5, 2) := by decide +kernel
theorem dX12_isMadeBy_39 : decode cX12_isMadeBy 39 = .ok (.iload 5, 2) := by decide +kernel
theorem dX12_isMadeBy_41 : decode cX12_isMadeBy 41 = .ok (.ifCond .ne 10, 3) := by decide +kernel
theorem dX12_isMadeBy_44 : decode cX12_isMadeBy 44 = .ok (.aload_n 0, 1) := by decide +kernel
theorem dX12_isMadeBy_45 : decode cX12_isMadeBy 45 = .ok (.bipush 6, 2) := by decide +kernel
theorem dX12_isMadeBy_47 : decode cX12_isMadeBy 47 = .ok (.invokevirtual 966, 3) := by decide +kernel
theorem dX12_isMadeBy_50 : decode cX12_isMadeBy 50 = .ok (.return_, 1) := by decide +kernel
theorem dX12_isMadeBy_51 : decode cX12_isMadeBy 51 = .ok (.aload_n 0, 1) := by decide +kernel
theorem dX12_isMadeBy_52 : decode cX12_isMadeBy 52 = .ok (.getfield 791, 3) := by decide +kernel
theorem dX12_isMadeBy_55 : decode cX12_isMadeBy 55 = .ok (.istore 6, 2) := by decide +kernel
theorem dX12_isMadeBy_57 : decode cX12_isMadeBy 57 = .ok (.iconst 0, 1) := by decide +kernel
theorem dX12_isMadeBy_58 : decode cX12_isMadeBy 58 = .ok (.istore 7, 2) := by decide +kernel
theorem dX12_isMadeBy_60 : decode cX12_isMadeBy 60 = .ok (.iload_n 1, 1) := by decide +kernel
theorem dX12_isMadeBy_61 : decode cX12_isMadeBy 61 = .ok (.bipush 7, 2) := by decide +kernel
theorem dX12_isMadeBy_63 : decode cX12_isMadeBy 63 = .ok (.if_icmp .ne 12, 3) := by decide +kernel
theorem dX12_isMadeBy_66 : decode cX12_isMadeBy 66 = .ok (.aload_n 0, 1) := by decide +kernel
theorem dX12_isMadeBy_67 : decode cX12_isMadeBy 67 = .ok (.getfield 137, 3) := by decide +kernel
theorem dX12_isMadeBy_70 : decode cX12_isMadeBy 70 = .ok (.iload_n 2, 1) := by decide +kernel
theorem dX12_isMadeBy_71 : decode cX12_isMadeBy 71 = .ok (.iaload, 1) := by decide +kernel
theorem dX12_isMadeBy_72 : decode cX12_isMadeBy 72 = .ok (.goto 4, 3) := by decide +kernel
theorem dX12_isMadeBy_75 : decode cX12_isMadeBy 75 = .ok (.iconst (-1), 1) := by decide +kernel
theorem dX12_isMadeBy_76 : decode cX12_isMadeBy 76 = .ok (.istore 8, 2) := by decide +kernel
theorem dX12_isMadeBy_78 : decode cX12_isMadeBy 78 = .ok (.iload 8, 2) := by decide +kernel
theorem dX12_isMadeBy_80 : decode cX12_isMadeBy 80 = .ok (.iconst (-1), 1) := by decide +kernel
theorem dX12_isMadeBy_81 : decode cX12_isMadeBy 81 = .ok (.if_icmp .eq 34, 3) := by decide +kernel
theorem dX12_isMadeBy_84 : decode cX12_isMadeBy 84 = .ok (.iload 7, 2) := by decide +kernel
theorem dX12_isMadeBy_86 : decode cX12_isMadeBy 86 = .ok (.ifCond .ne 10, 3) := by decide +kernel
theorem dX12_isMadeBy_89 : decode cX12_isMadeBy 89 = .ok (.iload 8, 2) := by decide +kernel
theorem dX12_isMadeBy_91 : decode cX12_isMadeBy 91 = .ok (.iload 6, 2) := by decide +kernel
theorem dX12_isMadeBy_93 : decode cX12_isMadeBy 93 = .ok (.if_icmp .ne 7, 3) := by decide +kernel
theorem dX12_isMadeBy_96 : decode cX12_isMadeBy 96 = .ok (.iconst 1, 1) := by decide +kernel
theorem dX12_isMadeBy_97 : decode cX12_isMadeBy 97 = .ok (.goto 4, 3) := by decide +kernel
theorem dX12_isMadeBy_100 : decode cX12_isMadeBy 100 = .ok (.iconst 0, 1) := by decide +kernel
theorem dX12_isMadeBy_101 : decode cX12_isMadeBy 101 = .ok (.istore 7, 2) := by decide +kernel
theorem dX12_isMadeBy_103 : decode cX12_isMadeBy 103 = .ok (.aload_n 0, 1) := by decide +kernel
theorem dX12_isMadeBy_104 : decode cX12_isMadeBy 104 = .ok (.getfield 137, 3) := by decide +kernel
theorem dX12_isMadeBy_107 : decode cX12_isMadeBy 107 = .ok (.iload 8, 2) := by decide +kernel
theorem dX12_isMadeBy_109 : decode cX12_isMadeBy 109 = .ok (.iaload, 1) := by decide +kernel
theorem dX12_isMadeBy_110 : decode cX12_isMadeBy 110 = .ok (.istore 8, 2) := by decide +kernel
theorem dX12_isMadeBy_112 : decode cX12_isMadeBy 112 = .ok (.goto (-34), 3) := by decide +kernel
theorem dX12_isMadeBy_115 : decode cX12_isMadeBy 115 = .ok (.aload_n 0, 1) := by decide +kernel
theorem dX12_isMadeBy_116 : decode cX12_isMadeBy 116 = .ok (.iload 7, 2) := by decide +kernel
theorem dX12_isMadeBy_118 : decode cX12_isMadeBy 118 = .ok (.invokevirtual 827, 3) := by decide +kernel
theorem dX12_isMadeBy_121 : decode cX12_isMadeBy 121 = .ok (.aload_n 0, 1) := by decide +kernel
theorem dX12_isMadeBy_122 : decode cX12_isMadeBy 122 = .ok (.iconst 2, 1) := by decide +kernel
theorem dX12_isMadeBy_123 : decode cX12_isMadeBy 123 = .ok (.invokevirtual 904, 3) := by decide +kernel
theorem dX12_isMadeBy_126 : decode cX12_isMadeBy 126 = .ok (.return_, 1) := by decide +kernel
theorem dX12_binary__0 : decode cX12_binary_ 0 = .ok (.aload_n 0, 1) := by decide +kernel
theorem dX12_binary__1 : decode cX12_binary_ 1 = .ok (.iconst 1, 1) := by decide +kernel
theorem dX12_binary__2 : decode cX12_binary_ 2 = .ok (.invokevirtual 910, 3) := by decide +kernel
theorem dX12_binary__5 : decode cX12_binary_ 5 = .ok (.istore_n 2, 1) := by decide +kernel
theorem dX12_binary__6 : decode cX12_binary_ 6 = .ok (.aload_n 0, 1) := by decide +kernel
theorem dX12_binary__7 : decode cX12_binary_ 7 = .ok (.iconst 1, 1) := by decide +kernel
theorem dX12_binary__8 : decode cX12_binary_ 8 = .ok (.invokevirtual 913, 3) := by decide +kernel
theorem dX12_binary__11 : decode cX12_binary_ 11 = .ok (.istore_n 3, 1) := by decide +kernel
theorem dX12_binary__12 : decode cX12_binary_ 12 = .ok (.aload_n 0, 1) := by decide +kernel
theorem dX12_binary__13 : decode cX12_binary_ 13 = .ok (.iconst 0, 1) := by decide +kernel
theorem dX12_binary__14 : decode cX12_binary_ 14 = .ok (.invokevirtual 910, 3) := by decide +kernel
theorem dX12_binary__17 : decode cX12_binary_ 17 = .ok (.istore 4, 2) := by decide +kernel
theorem dX12_binary__19 : decode cX12_binary_ 19 = .ok (.aload_n 0, 1) := by decide +kernel
theorem dX12_binary__20 : decode cX12_binary_ 20 = .ok (.iconst 0, 1) := by decide +kernel
theorem dX12_binary__21 : decode cX12_binary_ 21 = .ok (.invokevirtual 913, 3) := by decide +kernel
theorem dX12_binary__24 : decode cX12_binary_ 24 = .ok (.istore 5, 2) := by decide +kernel
theorem dX12_binary__26 : decode cX12_binary_ 26 = .ok (.iload_n 1, 1) := by decide +kernel
theorem dX12_binary__27 : decode cX12_binary_ 27 = .ok (.bipush 19, 2) := by decide +kernel
theorem dX12_binary__29 : decode cX12_binary_ 29 = .ok (.if_icmp .ne 14, 3) := by decide +kernel
theorem dX12_binary__32 : decode cX12_binary_ 32 = .ok (.aload_n 0, 1) := by decide +kernel
theorem dX12_binary__33 : decode cX12_binary_ 33 = .ok (.iload_n 2, 1) := by decide +kernel
theorem dX12_binary__34 : decode cX12_binary_ 34 = .ok (.iload_n 3, 1) := by decide +kernel
theorem dX12_binary__35 : decode cX12_binary_ 35 = .ok (.iload 4, 2) := by decide +kernel
theorem dX12_binary__37 : decode cX12_binary_ 37 = .ok (.iload 5, 2) := by decide +kernel
theorem dX12_binary__39 : decode cX12_binary_ 39 = .ok (.invokevirtual 984, 3) := by decide +kernel
theorem dX12_binary__42 : decode cX12_binary_ 42 = .ok (.return_, 1) := by decide +kernel
theorem dX12_binary__43 : decode cX12_binary_ 43 = .ok (.iload_n 1, 1) := by decide +kernel
theorem dX12_binary__44 : decode cX12_binary_ 44 = .ok (.bipush 20, 2) := by decide +kernel
theorem dX12_binary__46 : decode cX12_binary_ 46 = .ok (.if_icmp .ne 14, 3) := by decide +kernel
theorem dX12_binary__49 : decode cX12_binary_ 49 = .ok (.aload_n 0, 1) := by decide +kernel
theorem dX12_binary__50 : decode cX12_binary_ 50 = .ok (.iload_n 2, 1) := by decide +kernel
theorem dX12_binary__51 : decode cX12_binary_ 51 = .ok (.iload_n 3, 1) := by decide +kernel
theorem dX12_binary__52 : decode cX12_binary_ 52 = .ok (.iload 4, 2) := by decide +kernel
theorem dX12_binary__54 : decode cX12_binary_ 54 = .ok (.iload 5, 2) := by decide +kernel
theorem dX12_binary__56 : decode cX12_binary_ 56 = .ok (.invokevirtual 987, 3) := by decide +kernel
theorem dX12_binary__59 : decode cX12_binary_ 59 = .ok (.return_, 1) := by decide +kernel
theorem dX12_binary__60 : decode cX12_binary_ 60 = .ok (.aload_n 0, 1) := by decide +kernel
theorem dX12_binary__61 : decode cX12_binary_ 61 = .ok (.iload_n 1, 1) := by decide +kernel
theorem dX12_binary__62 : decode cX12_binary_ 62 = .ok (.iload_n 2, 1) := by decide +kernel
theorem dX12_binary__63 : decode cX12_binary_ 63 = .ok (.iload_n 3, 1) := by decide +kernel
theorem dX12_binary__64 : decode cX12_binary_ 64 = .ok (.iload 4, 2) := by decide +kernel
theorem dX12_binary__66 : decode cX12_binary_ 66 = .ok (.iload 5, 2) := by decide +kernel
theorem dX12_binary__68 : decode cX12_binary_ 68 = .ok (.invokevirtual 990, 3) := by decide +kernel
theorem dX12_binary__71 : decode cX12_binary_ 71 = .ok (.aload_n 0, 1) := by decide +kernel
theorem dX12_binary__72 : decode cX12_binary_ 72 = .ok (.iload_n 1, 1) := by decide +kernel
theorem dX12_binary__73 : decode cX12_binary_ 73 = .ok (.iload_n 2, 1) := by decide +kernel
theorem dX12_binary__74 : decode cX12_binary_ 74 = .ok (.iload 4, 2) := by decide +kernel
theorem dX12_binary__76 : decode cX12_binary_ 76 = .ok (.invokevirtual 830, 3) := by decide +kernel
theorem dX12_binary__79 : decode cX12_binary_ 79 = .ok (.ifCond .eq 13, 3) := by decide +kernel
theorem dX12_binary__82 : decode cX12_binary_ 82 = .ok (.aload_n 0, 1) := by decide +kernel
theorem dX12_binary__83 : decode cX12_binary_ 83 = .ok (.bipush 6, 2) := by decide +kernel
theorem dX12_binary__85 : decode cX12_binary_ 85 = .ok (.aload_n 0, 1) := by decide +kernel
theorem dX12_binary__86 : decode cX12_binary_ 86 = .ok (.invokevirtual 803, 3) := by decide +kernel
theorem dX12_binary__89 : decode cX12_binary_ 89 = .ok (.invokevirtual 822, 3) := by decide +kernel
theorem dX12_binary__92 : decode cX12_binary_ 92 = .ok (.aload_n 0, 1) := by decide +kernel
theorem dX12_binary__93 : decode cX12_binary_ 93 = .ok (.iconst 2, 1) := by decide +kernel
theorem dX12_binary__94 : decode cX12_binary_ 94 = .ok (.invokevirtual 904, 3) := by decide +kernel
theorem dX12_binary__97 : decode cX12_binary_ 97 = .ok (.return_, 1) := by decide +kernel

def q_delete (S : sv_S) : Option Value → sv_S → Prop := fun v S' => v = none ∧ sm_ok S' ∧ sv_mod [1076, 41, 42, 43, 44, 45, 46, 47, 1075, 1100029, 1092, 60, 58, 57, 63, 64, 1073, 1109, 1110, 1111, 1112, 5, 1011, 3, 4, 1007, 52, 1085, 1084, 1100020, 1100021, 1100022] S S' ∧ (sm_PL (S' 1100020) (S' 51) (S' 52) (S' 46) (S' 47) (S' 1076 0) (S' 1086 0) ∧ sm_FR (S' 1100020) (S' 52) (S' 1100021) (S' 1100022) (3000 - (S' 1084 0)) (S' 1085 0) ∧ sm_PV (S' 1100020) (S' 48) (S' 49) (S' 50) (S' 44) (S' 1076 0) (S' 1007 0) ∧ sm_AL (S' 1100020) (S' 48) (S' 49) (S' 50) (S' 44) (S' 1076 0) (S' 1100032 0) ∧ sm_SV (S' 1100020) (S' 48) (S' 1100029) (S' 32) (S' 33) (S' 1076 0) (S' 1032 0) ∧ 0 ≤ (S' 1076 0) ∧ (S' 1076 0) ≤ 300 ∧ 0 ≤ (S' 1084 0) ∧ (S' 1084 0) ≤ 3000 ∧ 0 ≤ (S' 1086 0) ∧ sm_SC (S' 1100029) (S' 44) (S' 45) (S' 43) (S' 21) (S' 1076 0) (S' 1032 0) ∧ sm_PO (S' 42) (S' 1076 0) ∧ ((S' 1075 0) = 0 → (S' 1100032 0) = -1 ∧ sm_FO (S' 44) (S' 45) (S' 1076 0)) ∧ 23 ≤ (S' 1076 0) ∧ 31 ≤ (S' 1007 0) ∧ (S' 1007 0) ≤ 400 ∧ sm_LN (S' 4) 400 (S' 1007 0) ∧ (S' 1008 0) ≤ (S' 1007 0) ∧ ((S 1075 0) = 1 → (S' 1075 0) = 1) ∧ 0 ≤ (S' 1092 0) ∧ (S' 1092 0) ≤ 24 ∧ (S 1007 0) ≤ (S' 1007 0) ∧ (¬ (S' 1075 0) = 0 → sm_LX (S' 58) (S' 63) (S' 64) (S' 1092 0) (S' 1076 0)) ∧ ((S' 1075 0) = 0 → (S' 1073 0) = 1 → 1 ≤ (S' 1092 0) ∧ (S' 1092 0) ≤ 24 ∧ 0 ≤ (S' 57 ((S' 1092 0) - 1)) ∧ (S' 57 ((S' 1092 0) - 1)) < (S' 1046 0) ∧ (S' 29 (S' 57 ((S' 1092 0) - 1))) = (S' 53 ((S' 1092 0) - 1)) ∧ 0 ≤ (S' 53 ((S' 1092 0) - 1)) ∧ (S' 53 ((S' 1092 0) - 1)) < (S' 1032 0) ∧ (S' 60 ((S' 1092 0) - 1)) = sm_dp (S' 1100024) (S' 1100023 (S' 57 ((S' 1092 0) - 1))) ∧ sm_TC (S' 61) (S' 62) (S' 27) (S' 1100007) (S' 1100023) (S' 1100024) (40 * ((S' 1092 0) - 1)) (S' 1100023 (S' 57 ((S' 1092 0) - 1))) ∧ sm_LK (S' 1100029) (S' 1076 0) (S' 54 ((S' 1092 0) - 1)) (S' 53 ((S' 1092 0) - 1)) ∧ sm_VO (S' 44) (S' 1076 0) (S' 1007 0) ((S' 55 ((S' 1092 0) - 1))) ((S' 56 ((S' 1092 0) - 1))) ∧ sm_FW (S' 44) (S' 1076 0) (S' 59 ((S' 1092 0) - 1)) ∧ sm_FL (S' 53) (S' 54) (S' 55) (S' 56) (S' 57) (S' 58) (S' 59) (S' 60) (S' 61) (S' 62) (S' 63) (S' 64) (S' 27) (S' 29) (S' 1100007) (S' 1100023) (S' 1100024) (S' 1100025) (S' 26) (S' 1100029) (S' 44) (S' 1046 0) (S' 1032 0) (S' 1076 0) (S' 1007 0) (((S' 1092 0) - 1)) ∧ (S' 58 ((S' 1092 0) - 1)) = (S' 1100007 (S' 57 ((S' 1092 0) - 1))) ∧ sm_SK (S' 63) (S' 64) (S' 44) (S' 1100007) (S' 1100025) (S' 1076 0) (S' 1007 0) (400 * ((S' 1092 0) - 1)) ((S' 58 ((S' 1092 0) - 1))) ((S' 1100025 (S' 57 ((S' 1092 0) - 1))))) ∧ ((S' 1073 0) = 1 ∨ (S' 1092 0) = 0 ∧ (S' 1075 0) = 0 ∧ ((S' 1073 0) = 2 ∨ (S' 1073 0) = 3)))
theorem la_delete_0 {x0 : Int} (h0 : 2 ≤ x0) : 0 ≤ x0 - 1 := by omega
theorem la_delete_1 {x0 : Int} : x0 - 1 < x0 := by omega
theorem la_delete_2 {x0 : Int} (h0 : 2 ≤ x0) : 0 ≤ x0 - 2 := by omega
theorem la_delete_3 {x0 : Int} : x0 - 2 < x0 := by omega
theorem la_delete_4 {x0 x1 : Int} (h0 : 1 ≤ x0) (h1 : x0 ≤ 24) (h2 : x1 ≤ 396) (h3 : 2 ≤ x1) : 1 ≤ x0 ∧ x0 ≤ 24 ∧ 0 ≤ x1 ∧ x1 ≤ 400 ∧ (0 : Int) ≤ 1 ∧ 1 < x1 := by omega
theorem la_delete_5 {x0 x1 : Int} (h0 : 1 ≤ x0) (h1 : x0 ≤ 24) (h2 : x1 ≤ 396) (h3 : 2 ≤ x1) : 1 ≤ x0 ∧ x0 ≤ 24 ∧ 0 ≤ x1 ∧ x1 ≤ 400 ∧ (0 : Int) ≤ 0 ∧ 0 < x1 := by omega
theorem la_delete_6 {x0 x1 : Int} : 400 * (x0 - 1) + x1 - 1 - 0 = 400 * (x0 - 1) + (x1 - 1) := by omega
theorem la_delete_7 {x0 x1 : Int} : 400 * (x0 - 1) + x1 - 1 - 1 = 400 * (x0 - 1) + (x1 - 2) := by omega
theorem la_delete_8 {x0 x1 : Int} (h0 : x0 = 6) (h1 : x0 = x1) : x1 = 6 := by omega
theorem la_delete_9 {x0 x1 : Int} (h0 : x0 = 6) (h1 : x0 = x1) : ¬ x1 = 7 := by omega
theorem la_delete_10 {x0 x1 : Int} (h0 : x0 = x1) (h1 : 0 ≤ x1) : 0 ≤ x0 := by omega
theorem la_delete_11 {x0 x1 x2 : Int} (h0 : x0 = x1) (h1 : x1 < x2) : x0 < x2 := by omega
theorem la_delete_12 {x0 : Int} (h0 : x0 = 0) : ¬ x0 = 1 := by omega
theorem la_delete_13 {x0 : Int} (h0 : x0 = 1) : 0 ≤ x0 := by omega
theorem la_delete_14 {x0 : Int} (h0 : 0 ≤ x0) (h1 : ¬ x0 = 0) : 0 < x0 := by omega
theorem la_delete_15 {x0 x1 : Int} (h0 : 31 ≤ x0) (h1 : x0 ≤ x1) : 31 ≤ x1 := by omega
theorem la_delete_16 {x0 x1 x2 : Int} (h0 : x0 ≤ x1) (h1 : x1 ≤ x2) : x0 ≤ x2 := by omega
theorem la_delete_17 {x0 : Int} : x0 ≤ x0 := by omega
theorem la_delete_18 : (0 : Int) ≤ 2 := by omega
theorem la_delete_19 {x0 : Int} (h0 : x0 ≤ 396) : x0 - 2 ≤ 399 := by omega
theorem la_delete_20 {x0 : Int} (h0 : x0 = 2 ∨ x0 = 3) : 0 ≤ x0 := by omega
theorem la_delete_21 {x0 : Int} (h0 : x0 = 2 ∨ x0 = 3) : x0 ≤ 7 := by omega
theorem la_delete_22 {x0 x1 x2 x3 : Int} (h0 : 31 ≤ x0) (h1 : x0 ≤ x1) (h2 : x2 = 0) : x3 = 6 → 0 ≤ x2 ∧ x2 < x1 := by omega
theorem la_delete_23 {x0 x1 x2 x3 : Int} (h0 : 23 ≤ x0) (h1 : x1 = 2 ∨ x1 = 3) (h2 : x2 = 0) : x1 = 7 → 0 ≤ x2 ∧ x2 < x0 ∧ ¬ x3 = 3 := by omega
theorem la_delete_24 {x0 x1 : Int} (h0 : x0 = x1 + (-1)) : x0 = x1 - 2 + 1 := by omega
theorem la_delete_25 {x0 : Int} (h0 : x0 = 0) : x0 ≤ 0 := by omega
theorem la_delete_26 {x0 : Int} (h0 : x0 ≤ 0) (h1 : ¬ x0 = 0) : x0 < 0 := by omega
theorem la_delete_27 {x0 x1 : Int} (h0 : x0 = 0) (h1 : x0 < 0) : x1 = 5 := by omega
theorem la_delete_28 {x0 x1 : Int} (h0 : x0 = 0) (h1 : x0 < 0) : 0 ≤ x1 := by omega
theorem la_delete_29 {x0 x1 : Int} (h0 : x0 = 0) (h1 : x0 < 0) : x1 ≤ 100 := by omega
theorem la_delete_30 {x0 : Int} (h0 : 0 ≤ x0) (h1 : x0 = 0) : ¬ ¬ x0 = 0 := by omega
theorem la_delete_31 {x0 : Int} (h0 : 1 ≤ x0) : 0 ≤ x0 := by omega
theorem la_delete_32 {x0 x1 x2 : Int} (h0 : x0 = 1) (h1 : 1 ≤ x1) (h2 : 0 ≤ x2) (h3 : x2 = 0) : x0 = 1 ∨ x1 = 0 ∧ x2 = 0 ∧ (x0 = 2 ∨ x0 = 3) := by omega
theorem la_delete_33 {x0 : Int} (h0 : ¬ ¬ x0 = 0) : ¬ x0 = 1 := by omega
theorem la_delete_34 {x0 : Int} (h0 : ¬ ¬ x0 = 7) : x0 = 7 := by omega
theorem la_delete_35 {x0 x1 : Int} (h0 : x0 < x1) (h1 : x1 ≤ 400) : x0 < 400 := by omega
theorem la_delete_36 {x0 x1 x2 : Int} (h0 : x0 = x1) (h1 : ¬ ¬ x1 = 7) (h2 : x0 = x2) : ¬ x2 = 6 := by omega
theorem la_delete_37 {x0 x1 x2 : Int} (h0 : x0 ≤ 7) (h1 : x1 = x2) (h2 : ¬ ¬ x2 = 7) (h3 : x1 = x0) : x0 = 7 := by omega
theorem la_delete_38 {x0 x1 x2 : Int} (h0 : x0 = x1) (h1 : x0 = x2) (h2 : 0 ≤ x2) : 0 ≤ x1 := by omega
theorem la_delete_39 {x0 x1 x2 x3 : Int} (h0 : x0 = x1) (h1 : x0 = x2) (h2 : x2 < x3) : x1 < x3 := by omega
theorem la_delete_40 {x0 x1 x2 : Int} (h0 : x0 = x1) (h1 : x0 = x2) : x1 = x2 := by omega
theorem la_delete_41 {x0 x1 x2 : Int} (h0 : ¬ x0 = 3) (h1 : ¬ x1 = 3 → x2 < 1) (h2 : x1 = x0) : x2 < 1 := by omega
theorem la_delete_42 {x0 : Int} (h0 : ¬ ¬ x0 = 0) : x0 ≤ 0 := by omega
theorem la_delete_43 {x0 x1 x2 : Int} : ¬ x0 = 7 → ((0 : Int) = 0 ∨ (0 : Int) = 1) ∧ ((0 : Int) = 0 → ¬ (x0 = 7 ∧ x1 = 2 ∧ x2 = 0)) := by omega
theorem la_delete_44 {x0 x1 x2 x3 : Int} (h0 : x0 ≤ 300) (h1 : x1 = x2) (h2 : x1 = x3) (h3 : x3 < x0) : x2 < 300 := by omega
theorem la_delete_45 {x0 x1 x2 : Int} : ¬ x0 = 2 → ((0 : Int) = 0 ∨ (0 : Int) = 1) ∧ ((0 : Int) = 0 → ¬ (x1 = 7 ∧ x0 = 2 ∧ x2 = 0)) := by omega
theorem la_delete_46 {x0 x1 x2 : Int} : ¬ x0 = 0 → ((0 : Int) = 0 ∨ (0 : Int) = 1) ∧ ((0 : Int) = 0 → ¬ (x1 = 7 ∧ x2 = 2 ∧ x0 = 0)) := by omega
theorem la_delete_47 : (1 : Int) = 0 ∨ (1 : Int) = 1 := by omega
theorem la_delete_48 {x0 x1 x2 : Int} (h0 : (1 : Int) = 0) : ¬ (x0 = 7 ∧ x1 = 2 ∧ x2 = 0) := by omega
theorem la_delete_49 {x0 x1 : Int} (h0 : 0 ≤ x0) (h1 : x1 = x0) : 0 ≤ x1 := by omega
theorem la_delete_50 {x0 x1 x2 : Int} (h0 : x0 = x1) (h1 : x1 + 1 < x2) : x0 < x2 := by omega
theorem la_delete_51 {x0 x1 x2 : Int} (h0 : x0 = x1) (h1 : ¬ 1 < x1) (h2 : x0 = x2) : ¬ x2 = 6 := by omega
theorem la_delete_52 {x0 x1 x2 : Int} (h0 : x0 = x1) (h1 : ¬ 1 < x1) (h2 : x0 = x2) : ¬ x2 = 7 := by omega
theorem la_delete_53 {x0 x1 x2 : Int} (h0 : x0 = x1) (h1 : x2 = x0) : x2 = x1 := by omega
theorem la_delete_54 {x0 x1 x2 : Int} (h0 : x0 = x1) (h1 : x2 = x1) : x0 = x2 := by omega
theorem la_delete_55 {x0 x1 : Int} (h0 : x0 = x1) : x1 = x0 := by omega
theorem la_delete_56 {x0 : Int} : x0 = x0 - 1 + 1 := by omega
theorem la_delete_57 {x0 x1 x2 : Int} (h0 : x0 = x1) (h1 : x2 = x1) : x2 = x0 := by omega
theorem la_delete_58 {x0 x1 : Int} (h0 : 0 ≤ x0) (h1 : x0 = x1) : 0 ≤ x1 := by omega
theorem la_delete_59 {x0 x1 x2 : Int} (h0 : x0 ≤ x1) (h1 : x2 = x0) : x2 ≤ x1 := by omega
theorem la_delete_60 : (6 : Int) ≤ 6 := by omega
theorem la_delete_61 : (6 : Int) ≤ 8 := by omega
theorem la_delete_62 {x0 x1 : Int} (h0 : x0 = 0) : x0 = 1 → x1 = 1 := by omega
theorem la_delete_63 {x0 x1 : Int} (h0 : 0 < x0) (h1 : x0 = 0) : x1 = 5 := by omega
theorem la_delete_64 {x0 x1 : Int} (h0 : 0 < x0) (h1 : x0 = 0) : 0 ≤ x1 := by omega
theorem la_delete_65 {x0 x1 : Int} (h0 : 0 < x0) (h1 : x0 = 0) : x1 ≤ 100 := by omega
theorem la_delete_66 {x0 x1 x2 : Int} (h0 : x0 = 1) (h1 : 1 ≤ x1) (h2 : 0 < x2) : x0 = 1 ∨ x1 = 0 ∧ x2 = 0 ∧ (x0 = 2 ∨ x0 = 3) := by omega
set_option maxHeartbeats 2000000 in
theorem f_delete : ∀ (S : sv_S), sm_ok S → ((S 1075 0) = 0 ∧ (S 1073 0) = 1 ∧ sm_LX (S 58) (S 63) (S 64) (S 1092 0) (S 1076 0) ∧ sm_PL (S 1100020) (S 51) (S 52) (S 46) (S 47) (S 1076 0) (S 1086 0) ∧ sm_FR (S 1100020) (S 52) (S 1100021) (S 1100022) (3000 - (S 1084 0)) (S 1085 0) ∧ sm_PV (S 1100020) (S 48) (S 49) (S 50) (S 44) (S 1076 0) (S 1007 0) ∧ sm_AL (S 1100020) (S 48) (S 49) (S 50) (S 44) (S 1076 0) (S 1100032 0) ∧ sm_SV (S 1100020) (S 48) (S 1100029) (S 32) (S 33) (S 1076 0) (S 1032 0) ∧ 0 ≤ (S 1076 0) ∧ (S 1076 0) ≤ 300 ∧ 0 ≤ (S 1084 0) ∧ (S 1084 0) ≤ 3000 ∧ 0 ≤ (S 1086 0) ∧ sm_SC (S 1100029) (S 44) (S 45) (S 43) (S 21) (S 1076 0) (S 1032 0) ∧ sm_PO (S 42) (S 1076 0) ∧ (S 1100032 0) = -1 ∧ sm_FO (S 44) (S 45) (S 1076 0) ∧ 23 ≤ (S 1076 0) ∧ 31 ≤ (S 1007 0) ∧ (S 1007 0) ≤ 400 ∧ sm_LN (S 4) 400 (S 1007 0) ∧ sm_CT (S 26) (S 27) (S 28) (S 29) (S 1100007) (S 1100023) (S 1100024) (S 1100025) (S 21) (S 1046 0) (S 1032 0) (S 1008 0) (S 1055 0) ∧ sm_LS (S 26) (S 1100007) (S 1100025) (S 1046 0) ∧ sm_CL (S 1100007) (S 1100023) (S 1100025) (S 1046 0) ∧ 1 ≤ (S 1032 0) ∧ (S 1032 0) ≤ 11 ∧ 0 ≤ (S 1046 0) ∧ (S 1046 0) ≤ 600 ∧ 31 ≤ (S 1008 0) ∧ (S 1008 0) ≤ (S 1007 0) ∧ 0 ≤ (S 1055 0) ∧ (S 1055 0) ≤ 19 ∧ 1 ≤ (S 1092 0) ∧ (S 1092 0) ≤ 24 ∧ 0 ≤ (S 1100033 0) ∧ (S 1100033 0) < (S 1046 0) ∧ (S 29 (S 1100033 0)) = (S 53 ((S 1092 0) - 1)) ∧ 0 ≤ (S 53 ((S 1092 0) - 1)) ∧ (S 53 ((S 1092 0) - 1)) < (S 1032 0) ∧ (S 60 ((S 1092 0) - 1)) = sm_dp (S 1100024) (S 1100023 (S 1100033 0)) ∧ sm_TC (S 61) (S 62) (S 27) (S 1100007) (S 1100023) (S 1100024) (40 * ((S 1092 0) - 1)) (S 1100023 (S 1100033 0)) ∧ sm_LK (S 1100029) (S 1076 0) (S 54 ((S 1092 0) - 1)) (S 53 ((S 1092 0) - 1)) ∧ sm_VO (S 44) (S 1076 0) (S 1007 0) ((S 55 ((S 1092 0) - 1))) ((S 56 ((S 1092 0) - 1))) ∧ sm_FW (S 44) (S 1076 0) (S 59 ((S 1092 0) - 1)) ∧ sm_FL (S 53) (S 54) (S 55) (S 56) (S 57) (S 58) (S 59) (S 60) (S 61) (S 62) (S 63) (S 64) (S 27) (S 29) (S 1100007) (S 1100023) (S 1100024) (S 1100025) (S 26) (S 1100029) (S 44) (S 1046 0) (S 1032 0) (S 1076 0) (S 1007 0) (((S 1092 0) - 1)) ∧ (S 57 ((S 1092 0) - 1)) = (S 1100033 0) ∧ 0 ≤ (S 58 ((S 1092 0) - 1)) ∧ (S 58 ((S 1092 0) - 1)) ≤ 400 ∧ sm_SK (S 63) (S 64) (S 44) (S 1100007) (S 1100025) (S 1076 0) (S 1007 0) (400 * ((S 1092 0) - 1)) ((S 58 ((S 1092 0) - 1))) ((S 1100034 0)) ∧ -1 ≤ (S 1100034 0) ∧ (S 1100034 0) < (S 1046 0) ∧ (0 ≤ (S 1100034 0) → (S 26 (S 1100034 0)) = 29) ∧ (S 58 ((S 1092 0) - 1)) = (S 1100007 (S 1100033 0)) ∧ (S 1100034 0) = (S 1100025 (S 1100033 0)) ∧ (0 ≤ (S 1100023 (S 1100033 0)) → (S 1100007 (S 1100023 (S 1100033 0))) ≤ (S 58 ((S 1092 0) - 1))) ∧ (S 58 ((S 1092 0) - 1)) ≤ 396 ∧ 2 ≤ (S 58 ((S 1092 0) - 1)) ∧ (0 ≤ (S 1100034 0) → (S 1100007 (S 1100034 0)) ≤ (S 58 ((S 1092 0) - 1)) - 2) ∧ (S 1100033 0) + 1 < (S 1046 0) ∧ (S 29 ((S 1100033 0) + 1)) = (S 29 (S 1100033 0)) ∧ (S 1100007 ((S 1100033 0) + 1)) = (S 58 ((S 1092 0) - 1)) + (-1) ∧ (S 1100023 ((S 1100033 0) + 1)) = (S 1100023 (S 1100033 0)) ∧ (S 1100025 ((S 1100033 0) + 1)) = (S 1100034 0)) → ((sm_SK (S 63) (S 64) (S 44) (S 1100007) (S 1100025) (S 1076 0) (S 1007 0) (400 * ((S 1092 0) - 1)) ((S 58 ((S 1092 0) - 1))) ((S 1100034 0)) → sm_LS (S 26) (S 1100007) (S 1100025) (S 1046 0) → 0 ≤ (S 58 ((S 1092 0) - 1)) - 1 → (S 58 ((S 1092 0) - 1)) - 1 < (S 58 ((S 1092 0) - 1)) → (S 1100034 0) < (S 1046 0) → (0 ≤ (S 1100034 0) → (S 26 (S 1100034 0)) = 29) → (0 ≤ (S 1100034 0) → (S 1100007 (S 1100034 0)) ≤ (S 58 ((S 1092 0) - 1)) - 2) → sm_VO (S 44) (S 1076 0) (S 1007 0) ((S 63 (400 * ((S 1092 0) - 1) + ((S 58 ((S 1092 0) - 1)) - 1)))) ((S 64 (400 * ((S 1092 0) - 1) + ((S 58 ((S 1092 0) - 1)) - 1))))) → ((sm_SK (S 63) (S 64) (S 44) (S 1100007) (S 1100025) (S 1076 0) (S 1007 0) (400 * ((S 1092 0) - 1)) ((S 58 ((S 1092 0) - 1))) ((S 1100034 0)) → sm_LS (S 26) (S 1100007) (S 1100025) (S 1046 0) → 0 ≤ (S 58 ((S 1092 0) - 1)) - 2 → (S 58 ((S 1092 0) - 1)) - 2 < (S 58 ((S 1092 0) - 1)) → (S 1100034 0) < (S 1046 0) → (0 ≤ (S 1100034 0) → (S 26 (S 1100034 0)) = 29) → (0 ≤ (S 1100034 0) → (S 1100007 (S 1100034 0)) ≤ (S 58 ((S 1092 0) - 1)) - 2) → sm_VO (S 44) (S 1076 0) (S 1007 0) ((S 63 (400 * ((S 1092 0) - 1) + ((S 58 ((S 1092 0) - 1)) - 2)))) ((S 64 (400 * ((S 1092 0) - 1) + ((S 58 ((S 1092 0) - 1)) - 2))))) → (1 ≤ (S 1092 0) ∧ (S 1092 0) ≤ 24 ∧ 0 ≤ (S 58 ((S 1092 0) - 1)) ∧ (S 58 ((S 1092 0) - 1)) ≤ 400 ∧ 0 ≤ (1 : Int) ∧ (1 : Int) < (S 58 ((S 1092 0) - 1))) ∧ (∀ x4 : Int, ((S 63 ((400 * ((S 1092 0) - 1) + (S 58 ((S 1092 0) - 1))) - 1 - (1 : Int)))) = x4 → (∀ x6 : Int, ((S 64 ((400 * ((S 1092 0) - 1) + (S 58 ((S 1092 0) - 1))) - 1 - (1 : Int)))) = x6 → (1 ≤ (S 1092 0) ∧ (S 1092 0) ≤ 24 ∧ 0 ≤ (S 58 ((S 1092 0) - 1)) ∧ (S 58 ((S 1092 0) - 1)) ≤ 400 ∧ 0 ≤ (0 : Int) ∧ (0 : Int) < (S 58 ((S 1092 0) - 1))) ∧ (31 ≤ (S 1007 0) ∧ (S 1007 0) ≤ 400 ∧ sm_LN (S 4) 400 (S 1007 0) ∧ (((S 63 ((400 * ((S 1092 0) - 1) + (S 58 ((S 1092 0) - 1))) - 1 - (0 : Int)))) = 6 → 0 ≤ ((S 64 ((400 * ((S 1092 0) - 1) + (S 58 ((S 1092 0) - 1))) - 1 - (0 : Int)))) ∧ ((S 64 ((400 * ((S 1092 0) - 1) + (S 58 ((S 1092 0) - 1))) - 1 - (0 : Int)))) < (S 1007 0))) ∧ (∀ r14 : Int, sv_R r14 → ∀ g10 : sv_S, (0 ≤ r14 ∧ r14 < (g10 1007 0) ∧ (((S 63 ((400 * ((S 1092 0) - 1) + (S 58 ((S 1092 0) - 1))) - 1 - (0 : Int)))) = 5 → 0 ≤ ((S 64 ((400 * ((S 1092 0) - 1) + (S 58 ((S 1092 0) - 1))) - 1 - (0 : Int)))) → ((S 64 ((400 * ((S 1092 0) - 1) + (S 58 ((S 1092 0) - 1))) - 1 - (0 : Int)))) ≤ 100 → (g10 1075 0) = 0 → (g10 4 r14) ≤ 3) ∧ (S 1007 0) ≤ (g10 1007 0) ∧ (g10 1007 0) ≤ 400 ∧ sm_LN (g10 4) 400 (g10 1007 0) ∧ ((S 1075 0) = 1 → (g10 1075 0) = 1)) → ((0 ≤ (g10 1075 0) ∧ (g10 1075 0) ≤ 1) → ((((g10 1075 0) = (0 : Int)) → ((((1 : Int) < x4) → ((∀ s17 : Int, sv_R s17 → ((s17 = 0 ∨ s17 = 1) ∧ (s17 = 0 → ¬ (x4 = 7 ∧ (S 44 x6) = 2 ∧ r14 = 0))) → (((¬ x4 = (7 : Int)) → (((¬ s17 = (0 : Int)) → (∀ g19 : sv_S, (((g19 1111 0) = 2 ∨ (g19 1111 0) = 3) ∧ (g19 1112 0) = 0) → (((g10 1075 0) = 0 → (S 1073 0) = 1 → sm_PL (S 1100020) (S 51) (S 52) (S 46) (S 47) (S 1076 0) (S 1086 0) ∧ sm_FR (S 1100020) (S 52) (S 1100021) (S 1100022) (3000 - (S 1084 0)) (S 1085 0) ∧ sm_PV (S 1100020) (S 48) (S 49) (S 50) (S 44) (S 1076 0) (g10 1007 0) ∧ sm_AL (S 1100020) (S 48) (S 49) (S 50) (S 44) (S 1076 0) (S 1100032 0) ∧ sm_SV (S 1100020) (S 48) (S 1100029) (S 32) (S 33) (S 1076 0) (S 1032 0) ∧ 0 ≤ (S 1076 0) ∧ (S 1076 0) ≤ 300 ∧ 0 ≤ (S 1084 0) ∧ (S 1084 0) ≤ 3000 ∧ 0 ≤ (S 1086 0) ∧ sm_SC (S 1100029) (S 44) (S 45) (S 43) (S 21) (S 1076 0) (S 1032 0) ∧ sm_PO (S 42) (S 1076 0) ∧ (S 1100032 0) = -1 ∧ sm_FO (S 44) (S 45) (S 1076 0) ∧ 23 ≤ (S 1076 0) ∧ 31 ≤ (g10 1007 0) ∧ (g10 1007 0) ≤ 400 ∧ sm_LN (g10 4) 400 (g10 1007 0) ∧ sm_CT (S 26) (S 27) (S 28) (S 29) (S 1100007) (S 1100023) (S 1100024) (S 1100025) (S 21) (S 1046 0) (S 1032 0) (S 1008 0) (S 1055 0) ∧ sm_LS (S 26) (S 1100007) (S 1100025) (S 1046 0) ∧ sm_CL (S 1100007) (S 1100023) (S 1100025) (S 1046 0) ∧ 1 ≤ (S 1032 0) ∧ (S 1032 0) ≤ 11 ∧ 0 ≤ (S 1046 0) ∧ (S 1046 0) ≤ 600 ∧ 31 ≤ (S 1008 0) ∧ (S 1008 0) ≤ (g10 1007 0) ∧ 0 ≤ (S 1055 0) ∧ (S 1055 0) ≤ 19 ∧ 1 ≤ (S 1092 0) ∧ (S 1092 0) ≤ 24 ∧ 0 ≤ (S 1100033 0) ∧ (S 1100033 0) < (S 1046 0) ∧ (S 29 (S 1100033 0)) = (S 53 ((S 1092 0) - 1)) ∧ 0 ≤ (S 53 ((S 1092 0) - 1)) ∧ (S 53 ((S 1092 0) - 1)) < (S 1032 0) ∧ (S 60 ((S 1092 0) - 1)) = sm_dp (S 1100024) (S 1100023 (S 1100033 0)) ∧ sm_TC (S 61) (S 62) (S 27) (S 1100007) (S 1100023) (S 1100024) (40 * ((S 1092 0) - 1)) (S 1100023 (S 1100033 0)) ∧ sm_LK (S 1100029) (S 1076 0) (S 54 ((S 1092 0) - 1)) (S 53 ((S 1092 0) - 1)) ∧ sm_VO (S 44) (S 1076 0) (g10 1007 0) ((S 55 ((S 1092 0) - 1))) ((S 56 ((S 1092 0) - 1))) ∧ sm_FW (S 44) (S 1076 0) (S 59 ((S 1092 0) - 1)) ∧ sm_FL (S 53) (S 54) (S 55) (S 56) (S 57) (S 58) (S 59) (S 60) (S 61) (S 62) (S 63) (S 64) (S 27) (S 29) (S 1100007) (S 1100023) (S 1100024) (S 1100025) (S 26) (S 1100029) (S 44) (S 1046 0) (S 1032 0) (S 1076 0) (g10 1007 0) (((S 1092 0) - 1)) ∧ (S 57 ((S 1092 0) - 1)) = (S 1100033 0) ∧ 0 ≤ (S 58 ((S 1092 0) - 1)) ∧ (S 58 ((S 1092 0) - 1)) ≤ 400 ∧ sm_SK (S 63) (S 64) (S 44) (S 1100007) (S 1100025) (S 1076 0) (g10 1007 0) (400 * ((S 1092 0) - 1)) ((S 58 ((S 1092 0) - 1))) ((S 1100034 0)) ∧ -1 ≤ (S 1100034 0) ∧ (S 1100034 0) < (S 1046 0) ∧ (0 ≤ (S 1100034 0) → (S 26 (S 1100034 0)) = 29) ∧ 0 ≤ (2 : Int) ∧ (2 : Int) ≤ (S 58 ((S 1092 0) - 1)) ∧ (S 58 ((S 1092 0) - 1)) - (2 : Int) ≤ 399 ∧ sm_VO (S 44) (S 1076 0) (g10 1007 0) ((g19 1111 0)) ((g19 1112 0)) ∧ (0 ≤ (S 1100034 0) → (S 1100007 (S 1100034 0)) ≤ (S 58 ((S 1092 0) - 1)) - (2 : Int)) ∧ (S 1100033 0) + 1 < (S 1046 0) ∧ (S 29 ((S 1100033 0) + 1)) = (S 29 (S 1100033 0)) ∧ (S 1100007 ((S 1100033 0) + 1)) = (S 58 ((S 1092 0) - 1)) - (2 : Int) + 1 ∧ (S 1100023 ((S 1100033 0) + 1)) = (S 1100023 (S 1100033 0)) ∧ (S 1100025 ((S 1100033 0) + 1)) = (S 1100034 0)) ∧ (¬ (g10 1075 0) = 0 → sm_LX (S 58) (S 63) (S 64) (S 1092 0) (S 1076 0))) ∧ (∀ g25 : sv_S, (((g10 1075 0) = 0 → (S 1073 0) = 1 → 1 ≤ (S 1092 0) ∧ (S 1092 0) ≤ 24 ∧ 0 ≤ (g25 57 ((S 1092 0) - 1)) ∧ (g25 57 ((S 1092 0) - 1)) < (S 1046 0) ∧ (S 29 (g25 57 ((S 1092 0) - 1))) = (S 53 ((S 1092 0) - 1)) ∧ 0 ≤ (S 53 ((S 1092 0) - 1)) ∧ (S 53 ((S 1092 0) - 1)) < (S 1032 0) ∧ (S 60 ((S 1092 0) - 1)) = sm_dp (S 1100024) (S 1100023 (g25 57 ((S 1092 0) - 1))) ∧ sm_TC (S 61) (S 62) (S 27) (S 1100007) (S 1100023) (S 1100024) (40 * ((S 1092 0) - 1)) (S 1100023 (g25 57 ((S 1092 0) - 1))) ∧ sm_LK (S 1100029) (S 1076 0) (S 54 ((S 1092 0) - 1)) (S 53 ((S 1092 0) - 1)) ∧ sm_VO (S 44) (S 1076 0) (g10 1007 0) ((S 55 ((S 1092 0) - 1))) ((S 56 ((S 1092 0) - 1))) ∧ sm_FW (S 44) (S 1076 0) (S 59 ((S 1092 0) - 1)) ∧ sm_FL (S 53) (S 54) (S 55) (S 56) (g25 57) (g25 58) (S 59) (S 60) (S 61) (S 62) (g25 63) (g25 64) (S 27) (S 29) (S 1100007) (S 1100023) (S 1100024) (S 1100025) (S 26) (S 1100029) (S 44) (S 1046 0) (S 1032 0) (S 1076 0) (g10 1007 0) (((S 1092 0) - 1)) ∧ (g25 58 ((S 1092 0) - 1)) = (S 1100007 (g25 57 ((S 1092 0) - 1))) ∧ sm_SK (g25 63) (g25 64) (S 44) (S 1100007) (S 1100025) (S 1076 0) (g10 1007 0) (400 * ((S 1092 0) - 1)) ((g25 58 ((S 1092 0) - 1))) ((S 1100025 (g25 57 ((S 1092 0) - 1))))) ∧ (¬ (g10 1075 0) = 0 → sm_LX (g25 58) (g25 63) (g25 64) (S 1092 0) (S 1076 0))) → (sm_PL (S 1100020) (S 51) (S 52) (S 46) (S 47) (S 1076 0) (S 1086 0) ∧ sm_FR (S 1100020) (S 52) (S 1100021) (S 1100022) (3000 - (S 1084 0)) (S 1085 0) ∧ sm_PV (S 1100020) (S 48) (S 49) (S 50) (S 44) (S 1076 0) (g10 1007 0) ∧ sm_AL (S 1100020) (S 48) (S 49) (S 50) (S 44) (S 1076 0) (S 1100032 0) ∧ sm_SV (S 1100020) (S 48) (S 1100029) (S 32) (S 33) (S 1076 0) (S 1032 0) ∧ 0 ≤ (S 1076 0) ∧ (S 1076 0) ≤ 300 ∧ 0 ≤ (S 1084 0) ∧ (S 1084 0) ≤ 3000 ∧ 0 ≤ (S 1086 0) ∧ sm_SC (S 1100029) (S 44) (S 45) (S 43) (S 21) (S 1076 0) (S 1032 0) ∧ sm_PO (S 42) (S 1076 0) ∧ ((g10 1075 0) = 0 → (S 1100032 0) = -1 ∧ sm_FO (S 44) (S 45) (S 1076 0)) ∧ 23 ≤ (S 1076 0) ∧ 31 ≤ (g10 1007 0) ∧ (g10 1007 0) ≤ 400 ∧ sm_LN (g10 4) 400 (g10 1007 0) ∧ (S 1008 0) ≤ (g10 1007 0) ∧ ((S 1075 0) = 1 → (g10 1075 0) = 1) ∧ 0 ≤ (S 1092 0) ∧ (S 1092 0) ≤ 24 ∧ (S 1007 0) ≤ (g10 1007 0) ∧ (¬ (g10 1075 0) = 0 → sm_LX (g25 58) (g25 63) (g25 64) (S 1092 0) (S 1076 0)) ∧ ((g10 1075 0) = 0 → (S 1073 0) = 1 → 1 ≤ (S 1092 0) ∧ (S 1092 0) ≤ 24 ∧ 0 ≤ (g25 57 ((S 1092 0) - 1)) ∧ (g25 57 ((S 1092 0) - 1)) < (S 1046 0) ∧ (S 29 (g25 57 ((S 1092 0) - 1))) = (S 53 ((S 1092 0) - 1)) ∧ 0 ≤ (S 53 ((S 1092 0) - 1)) ∧ (S 53 ((S 1092 0) - 1)) < (S 1032 0) ∧ (S 60 ((S 1092 0) - 1)) = sm_dp (S 1100024) (S 1100023 (g25 57 ((S 1092 0) - 1))) ∧ sm_TC (S 61) (S 62) (S 27) (S 1100007) (S 1100023) (S 1100024) (40 * ((S 1092 0) - 1)) (S 1100023 (g25 57 ((S 1092 0) - 1))) ∧ sm_LK (S 1100029) (S 1076 0) (S 54 ((S 1092 0) - 1)) (S 53 ((S 1092 0) - 1)) ∧ sm_VO (S 44) (S 1076 0) (g10 1007 0) ((S 55 ((S 1092 0) - 1))) ((S 56 ((S 1092 0) - 1))) ∧ sm_FW (S 44) (S 1076 0) (S 59 ((S 1092 0) - 1)) ∧ sm_FL (S 53) (S 54) (S 55) (S 56) (g25 57) (g25 58) (S 59) (S 60) (S 61) (S 62) (g25 63) (g25 64) (S 27) (S 29) (S 1100007) (S 1100023) (S 1100024) (S 1100025) (S 26) (S 1100029) (S 44) (S 1046 0) (S 1032 0) (S 1076 0) (g10 1007 0) (((S 1092 0) - 1)) ∧ (g25 58 ((S 1092 0) - 1)) = (S 1100007 (g25 57 ((S 1092 0) - 1))) ∧ sm_SK (g25 63) (g25 64) (S 44) (S 1100007) (S 1100025) (S 1076 0) (g10 1007 0) (400 * ((S 1092 0) - 1)) ((g25 58 ((S 1092 0) - 1))) ((S 1100025 (g25 57 ((S 1092 0) - 1))))) ∧ ((S 1073 0) = 1 ∨ (S 1092 0) = 0 ∧ (g10 1075 0) = 0 ∧ ((S 1073 0) = 2 ∨ (S 1073 0) = 3)))))) ∧ ((¬ (¬ s17 = (0 : Int))) → (∀ g30 : sv_S, (((g30 1111 0) = 2 ∨ (g30 1111 0) = 3) ∧ (g30 1112 0) = 0) → (((g10 1075 0) = 0 → (S 1073 0) = 1 → sm_PL (S 1100020) (S 51) (S 52) (S 46) (S 47) (S 1076 0) (S 1086 0) ∧ sm_FR (S 1100020) (S 52) (S 1100021) (S 1100022) (3000 - (S 1084 0)) (S 1085 0) ∧ sm_PV (S 1100020) (S 48) (S 49) (S 50) (S 44) (S 1076 0) (g10 1007 0) ∧ sm_AL (S 1100020) (S 48) (S 49) (S 50) (S 44) (S 1076 0) (S 1100032 0) ∧ sm_SV (S 1100020) (S 48) (S 1100029) (S 32) (S 33) (S 1076 0) (S 1032 0) ∧ 0 ≤ (S 1076 0) ∧ (S 1076 0) ≤ 300 ∧ 0 ≤ (S 1084 0) ∧ (S 1084 0) ≤ 3000 ∧ 0 ≤ (S 1086 0) ∧ sm_SC (S 1100029) (S 44) (S 45) (S 43) (S 21) (S 1076 0) (S 1032 0) ∧ sm_PO (S 42) (S 1076 0) ∧ (S 1100032 0) = -1 ∧ sm_FO (S 44) (S 45) (S 1076 0) ∧ 23 ≤ (S 1076 0) ∧ 31 ≤ (g10 1007 0) ∧ (g10 1007 0) ≤ 400 ∧ sm_LN (g10 4) 400 (g10 1007 0) ∧ sm_CT (S 26) (S 27) (S 28) (S 29) (S 1100007) (S 1100023) (S 1100024) (S 1100025) (S 21) (S 1046 0) (S 1032 0) (S 1008 0) (S 1055 0) ∧ sm_LS (S 26) (S 1100007) (S 1100025) (S 1046 0) ∧ sm_CL (S 1100007) (S 1100023) (S 1100025) (S 1046 0) ∧ 1 ≤ (S 1032 0) ∧ (S 1032 0) ≤ 11 ∧ 0 ≤ (S 1046 0) ∧ (S 1046 0) ≤ 600 ∧ 31 ≤ (S 1008 0) ∧ (S 1008 0) ≤ (g10 1007 0) ∧ 0 ≤ (S 1055 0) ∧ (S 1055 0) ≤ 19 ∧ 1 ≤ (S 1092 0) ∧ (S 1092 0) ≤ 24 ∧ 0 ≤ (S 1100033 0) ∧ (S 1100033 0) < (S 1046 0) ∧ (S 29 (S 1100033 0)) = (S 53 ((S 1092 0) - 1)) ∧ 0 ≤ (S 53 ((S 1092 0) - 1)) ∧ (S 53 ((S 1092 0) - 1)) < (S 1032 0) ∧ (S 60 ((S 1092 0) - 1)) = sm_dp (S 1100024) (S 1100023 (S 1100033 0)) ∧ sm_TC (S 61) (S 62) (S 27) (S 1100007) (S 1100023) (S 1100024) (40 * ((S 1092 0) - 1)) (S 1100023 (S 1100033 0)) ∧ sm_LK (S 1100029) (S 1076 0) (S 54 ((S 1092 0) - 1)) (S 53 ((S 1092 0) - 1)) ∧ sm_VO (S 44) (S 1076 0) (g10 1007 0) ((S 55 ((S 1092 0) - 1))) ((S 56 ((S 1092 0) - 1))) ∧ sm_FW (S 44) (S 1076 0) (S 59 ((S 1092 0) - 1)) ∧ sm_FL (S 53) (S 54) (S 55) (S 56) (S 57) (S 58) (S 59) (S 60) (S 61) (S 62) (S 63) (S 64) (S 27) (S 29) (S 1100007) (S 1100023) (S 1100024) (S 1100025) (S 26) (S 1100029) (S 44) (S 1046 0) (S 1032 0) (S 1076 0) (g10 1007 0) (((S 1092 0) - 1)) ∧ (S 57 ((S 1092 0) - 1)) = (S 1100033 0) ∧ 0 ≤ (S 58 ((S 1092 0) - 1)) ∧ (S 58 ((S 1092 0) - 1)) ≤ 400 ∧ sm_SK (S 63) (S 64) (S 44) (S 1100007) (S 1100025) (S 1076 0) (g10 1007 0) (400 * ((S 1092 0) - 1)) ((S 58 ((S 1092 0) - 1))) ((S 1100034 0)) ∧ -1 ≤ (S 1100034 0) ∧ (S 1100034 0) < (S 1046 0) ∧ (0 ≤ (S 1100034 0) → (S 26 (S 1100034 0)) = 29) ∧ 0 ≤ (2 : Int) ∧ (2 : Int) ≤ (S 58 ((S 1092 0) - 1)) ∧ (S 58 ((S 1092 0) - 1)) - (2 : Int) ≤ 399 ∧ sm_VO (S 44) (S 1076 0) (g10 1007 0) ((g30 1111 0)) ((g30 1112 0)) ∧ (0 ≤ (S 1100034 0) → (S 1100007 (S 1100034 0)) ≤ (S 58 ((S 1092 0) - 1)) - (2 : Int)) ∧ (S 1100033 0) + 1 < (S 1046 0) ∧ (S 29 ((S 1100033 0) + 1)) = (S 29 (S 1100033 0)) ∧ (S 1100007 ((S 1100033 0) + 1)) = (S 58 ((S 1092 0) - 1)) - (2 : Int) + 1 ∧ (S 1100023 ((S 1100033 0) + 1)) = (S 1100023 (S 1100033 0)) ∧ (S 1100025 ((S 1100033 0) + 1)) = (S 1100034 0)) ∧ (¬ (g10 1075 0) = 0 → sm_LX (S 58) (S 63) (S 64) (S 1092 0) (S 1076 0))) ∧ (∀ g36 : sv_S, (((g10 1075 0) = 0 → (S 1073 0) = 1 → 1 ≤ (S 1092 0) ∧ (S 1092 0) ≤ 24 ∧ 0 ≤ (g36 57 ((S 1092 0) - 1)) ∧ (g36 57 ((S 1092 0) - 1)) < (S 1046 0) ∧ (S 29 (g36 57 ((S 1092 0) - 1))) = (S 53 ((S 1092 0) - 1)) ∧ 0 ≤ (S 53 ((S 1092 0) - 1)) ∧ (S 53 ((S 1092 0) - 1)) < (S 1032 0) ∧ (S 60 ((S 1092 0) - 1)) = sm_dp (S 1100024) (S 1100023 (g36 57 ((S 1092 0) - 1))) ∧ sm_TC (S 61) (S 62) (S 27) (S 1100007) (S 1100023) (S 1100024) (40 * ((S 1092 0) - 1)) (S 1100023 (g36 57 ((S 1092 0) - 1))) ∧ sm_LK (S 1100029) (S 1076 0) (S 54 ((S 1092 0) - 1)) (S 53 ((S 1092 0) - 1)) ∧ sm_VO (S 44) (S 1076 0) (g10 1007 0) ((S 55 ((S 1092 0) - 1))) ((S 56 ((S 1092 0) - 1))) ∧ sm_FW (S 44) (S 1076 0) (S 59 ((S 1092 0) - 1)) ∧ sm_FL (S 53) (S 54) (S 55) (S 56) (g36 57) (g36 58) (S 59) (S 60) (S 61) (S 62) (g36 63) (g36 64) (S 27) (S 29) (S 1100007) (S 1100023) (S 1100024) (S 1100025) (S 26) (S 1100029) (S 44) (S 1046 0) (S 1032 0) (S 1076 0) (g10 1007 0) (((S 1092 0) - 1)) ∧ (g36 58 ((S 1092 0) - 1)) = (S 1100007 (g36 57 ((S 1092 0) - 1))) ∧ sm_SK (g36 63) (g36 64) (S 44) (S 1100007) (S 1100025) (S 1076 0) (g10 1007 0) (400 * ((S 1092 0) - 1)) ((g36 58 ((S 1092 0) - 1))) ((S 1100025 (g36 57 ((S 1092 0) - 1))))) ∧ (¬ (g10 1075 0) = 0 → sm_LX (g36 58) (g36 63) (g36 64) (S 1092 0) (S 1076 0))) → (sm_PL (S 1100020) (S 51) (S 52) (S 46) (S 47) (S 1076 0) (S 1086 0) ∧ sm_FR (S 1100020) (S 52) (S 1100021) (S 1100022) (3000 - (S 1084 0)) (S 1085 0) ∧ sm_PV (S 1100020) (S 48) (S 49) (S 50) (S 44) (S 1076 0) (g10 1007 0) ∧ sm_AL (S 1100020) (S 48) (S 49) (S 50) (S 44) (S 1076 0) (S 1100032 0) ∧ sm_SV (S 1100020) (S 48) (S 1100029) (S 32) (S 33) (S 1076 0) (S 1032 0) ∧ 0 ≤ (S 1076 0) ∧ (S 1076 0) ≤ 300 ∧ 0 ≤ (S 1084 0) ∧ (S 1084 0) ≤ 3000 ∧ 0 ≤ (S 1086 0) ∧ sm_SC (S 1100029) (S 44) (S 45) (S 43) (S 21) (S 1076 0) (S 1032 0) ∧ sm_PO (S 42) (S 1076 0) ∧ ((g10 1075 0) = 0 → (S 1100032 0) = -1 ∧ sm_FO (S 44) (S 45) (S 1076 0)) ∧ 23 ≤ (S 1076 0) ∧ 31 ≤ (g10 1007 0) ∧ (g10 1007 0) ≤ 400 ∧ sm_LN (g10 4) 400 (g10 1007 0) ∧ (S 1008 0) ≤ (g10 1007 0) ∧ ((S 1075 0) = 1 → (g10 1075 0) = 1) ∧ 0 ≤ (S 1092 0) ∧ (S 1092 0) ≤ 24 ∧ (S 1007 0) ≤ (g10 1007 0) ∧ (¬ (g10 1075 0) = 0 → sm_LX (g36 58) (g36 63) (g36 64) (S 1092 0) (S 1076 0)) ∧ ((g10 1075 0) = 0 → (S 1073 0) = 1 → 1 ≤ (S 1092 0) ∧ (S 1092 0) ≤ 24 ∧ 0 ≤ (g36 57 ((S 1092 0) - 1)) ∧ (g36 57 ((S 1092 0) - 1)) < (S 1046 0) ∧ (S 29 (g36 57 ((S 1092 0) - 1))) = (S 53 ((S 1092 0) - 1)) ∧ 0 ≤ (S 53 ((S 1092 0) - 1)) ∧ (S 53 ((S 1092 0) - 1)) < (S 1032 0) ∧ (S 60 ((S 1092 0) - 1)) = sm_dp (S 1100024) (S 1100023 (g36 57 ((S 1092 0) - 1))) ∧ sm_TC (S 61) (S 62) (S 27) (S 1100007) (S 1100023) (S 1100024) (40 * ((S 1092 0) - 1)) (S 1100023 (g36 57 ((S 1092 0) - 1))) ∧ sm_LK (S 1100029) (S 1076 0) (S 54 ((S 1092 0) - 1)) (S 53 ((S 1092 0) - 1)) ∧ sm_VO (S 44) (S 1076 0) (g10 1007 0) ((S 55 ((S 1092 0) - 1))) ((S 56 ((S 1092 0) - 1))) ∧ sm_FW (S 44) (S 1076 0) (S 59 ((S 1092 0) - 1)) ∧ sm_FL (S 53) (S 54) (S 55) (S 56) (g36 57) (g36 58) (S 59) (S 60) (S 61) (S 62) (g36 63) (g36 64) (S 27) (S 29) (S 1100007) (S 1100023) (S 1100024) (S 1100025) (S 26) (S 1100029) (S 44) (S 1046 0) (S 1032 0) (S 1076 0) (g10 1007 0) (((S 1092 0) - 1)) ∧ (g36 58 ((S 1092 0) - 1)) = (S 1100007 (g36 57 ((S 1092 0) - 1))) ∧ sm_SK (g36 63) (g36 64) (S 44) (S 1100007) (S 1100025) (S 1076 0) (g10 1007 0) (400 * ((S 1092 0) - 1)) ((g36 58 ((S 1092 0) - 1))) ((S 1100025 (g36 57 ((S 1092 0) - 1))))) ∧ ((S 1073 0) = 1 ∨ (S 1092 0) = 0 ∧ (g10 1075 0) = 0 ∧ ((S 1073 0) = 2 ∨ (S 1073 0) = 3)))))))) ∧ ((¬ (¬ x4 = (7 : Int))) → (((¬ s17 = (0 : Int)) → (((¬ s17 = (0 : Int)) → (∀ g41 : sv_S, (((g41 1111 0) = 2 ∨ (g41 1111 0) = 3) ∧ (g41 1112 0) = 0) → (((g10 1075 0) = 0 → (S 1073 0) = 1 → sm_PL (S 1100020) (S 51) (S 52) (S 46) (S 47) (S 1076 0) (S 1086 0) ∧ sm_FR (S 1100020) (S 52) (S 1100021) (S 1100022) (3000 - (S 1084 0)) (S 1085 0) ∧ sm_PV (S 1100020) (S 48) (S 49) (S 50) (S 44) (S 1076 0) (g10 1007 0) ∧ sm_AL (S 1100020) (S 48) (S 49) (S 50) (S 44) (S 1076 0) (S 1100032 0) ∧ sm_SV (S 1100020) (S 48) (S 1100029) (S 32) (S 33) (S 1076 0) (S 1032 0) ∧ 0 ≤ (S 1076 0) ∧ (S 1076 0) ≤ 300 ∧ 0 ≤ (S 1084 0) ∧ (S 1084 0) ≤ 3000 ∧ 0 ≤ (S 1086 0) ∧ sm_SC (S 1100029) (S 44) (S 45) (S 43) (S 21) (S 1076 0) (S 1032 0) ∧ sm_PO (S 42) (S 1076 0) ∧ (S 1100032 0) = -1 ∧ sm_FO (S 44) (S 45) (S 1076 0) ∧ 23 ≤ (S 1076 0) ∧ 31 ≤ (g10 1007 0) ∧ (g10 1007 0) ≤ 400 ∧ sm_LN (g10 4) 400 (g10 1007 0) ∧ sm_CT (S 26) (S 27) (S 28) (S 29) (S 1100007) (S 1100023) (S 1100024) (S 1100025) (S 21) (S 1046 0) (S 1032 0) (S 1008 0) (S 1055 0) ∧ sm_LS (S 26) (S 1100007) (S 1100025) (S 1046 0) ∧ sm_CL (S 1100007) (S 1100023) (S 1100025) (S 1046 0) ∧ 1 ≤ (S 1032 0) ∧ (S 1032 0) ≤ 11 ∧ 0 ≤ (S 1046 0) ∧ (S 1046 0) ≤ 600 ∧ 31 ≤ (S 1008 0) ∧ (S 1008 0) ≤ (g10 1007 0) ∧ 0 ≤ (S 1055 0) ∧ (S 1055 0) ≤ 19 ∧ 1 ≤ (S 1092 0) ∧ (S 1092 0) ≤ 24 ∧ 0 ≤ (S 1100033 0) ∧ (S 1100033 0) < (S 1046 0) ∧ (S 29 (S 1100033 0)) = (S 53 ((S 1092 0) - 1)) ∧ 0 ≤ (S 53 ((S 1092 0) - 1)) ∧ (S 53 ((S 1092 0) - 1)) < (S 1032 0) ∧ (S 60 ((S 1092 0) - 1)) = sm_dp (S 1100024) (S 1100023 (S 1100033 0)) ∧ sm_TC (S 61) (S 62) (S 27) (S 1100007) (S 1100023) (S 1100024) (40 * ((S 1092 0) - 1)) (S 1100023 (S 1100033 0)) ∧ sm_LK (S 1100029) (S 1076 0) (S 54 ((S 1092 0) - 1)) (S 53 ((S 1092 0) - 1)) ∧ sm_VO (S 44) (S 1076 0) (g10 1007 0) ((S 55 ((S 1092 0) - 1))) ((S 56 ((S 1092 0) - 1))) ∧ sm_FW (S 44) (S 1076 0) (S 59 ((S 1092 0) - 1)) ∧ sm_FL (S 53) (S 54) (S 55) (S 56) (S 57) (S 58) (S 59) (S 60) (S 61) (S 62) (S 63) (S 64) (S 27) (S 29) (S 1100007) (S 1100023) (S 1100024) (S 1100025) (S 26) (S 1100029) (S 44) (S 1046 0) (S 1032 0) (S 1076 0) (g10 1007 0) (((S 1092 0) - 1)) ∧ (S 57 ((S 1092 0) - 1)) = (S 1100033 0) ∧ 0 ≤ (S 58 ((S 1092 0) - 1)) ∧ (S 58 ((S 1092 0) - 1)) ≤ 400 ∧ sm_SK (S 63) (S 64) (S 44) (S 1100007) (S 1100025) (S 1076 0) (g10 1007 0) (400 * ((S 1092 0) - 1)) ((S 58 ((S 1092 0) - 1))) ((S 1100034 0)) ∧ -1 ≤ (S 1100034 0) ∧ (S 1100034 0) < (S 1046 0) ∧ (0 ≤ (S 1100034 0) → (S 26 (S 1100034 0)) = 29) ∧ 0 ≤ (2 : Int) ∧ (2 : Int) ≤ (S 58 ((S 1092 0) - 1)) ∧ (S 58 ((S 1092 0) - 1)) - (2 : Int) ≤ 399 ∧ sm_VO (S 44) (S 1076 0) (g10 1007 0) ((g41 1111 0)) ((g41 1112 0)) ∧ (0 ≤ (S 1100034 0) → (S 1100007 (S 1100034 0)) ≤ (S 58 ((S 1092 0) - 1)) - (2 : Int)) ∧ (S 1100033 0) + 1 < (S 1046 0) ∧ (S 29 ((S 1100033 0) + 1)) = (S 29 (S 1100033 0)) ∧ (S 1100007 ((S 1100033 0) + 1)) = (S 58 ((S 1092 0) - 1)) - (2 : Int) + 1 ∧ (S 1100023 ((S 1100033 0) + 1)) = (S 1100023 (S 1100033 0)) ∧ (S 1100025 ((S 1100033 0) + 1)) = (S 1100034 0)) ∧ (¬ (g10 1075 0) = 0 → sm_LX (S 58) (S 63) (S 64) (S 1092 0) (S 1076 0))) ∧ (∀ g47 : sv_S, (((g10 1075 0) = 0 → (S 1073 0) = 1 → 1 ≤ (S 1092 0) ∧ (S 1092 0) ≤ 24 ∧ 0 ≤ (g47 57 ((S 1092 0) - 1)) ∧ (g47 57 ((S 1092 0) - 1)) < (S 1046 0) ∧ (S 29 (g47 57 ((S 1092 0) - 1))) = (S 53 ((S 1092 0) - 1)) ∧ 0 ≤ (S 53 ((S 1092 0) - 1)) ∧ (S 53 ((S 1092 0) - 1)) < (S 1032 0) ∧ (S 60 ((S 1092 0) - 1)) = sm_dp (S 1100024) (S 1100023 (g47 57 ((S 1092 0) - 1))) ∧ sm_TC (S 61) (S 62) (S 27) (S 1100007) (S 1100023) (S 1100024) (40 * ((S 1092 0) - 1)) (S 1100023 (g47 57 ((S 1092 0) - 1))) ∧ sm_LK (S 1100029) (S 1076 0) (S 54 ((S 1092 0) - 1)) (S 53 ((S 1092 0) - 1)) ∧ sm_VO (S 44) (S 1076 0) (g10 1007 0) ((S 55 ((S 1092 0) - 1))) ((S 56 ((S 1092 0) - 1))) ∧ sm_FW (S 44) (S 1076 0) (S 59 ((S 1092 0) - 1)) ∧ sm_FL (S 53) (S 54) (S 55) (S 56) (g47 57) (g47 58) (S 59) (S 60) (S 61) (S 62) (g47 63) (g47 64) (S 27) (S 29) (S 1100007) (S 1100023) (S 1100024) (S 1100025) (S 26) (S 1100029) (S 44) (S 1046 0) (S 1032 0) (S 1076 0) (g10 1007 0) (((S 1092 0) - 1)) ∧ (g47 58 ((S 1092 0) - 1)) = (S 1100007 (g47 57 ((S 1092 0) - 1))) ∧ sm_SK (g47 63) (g47 64) (S 44) (S 1100007) (S 1100025) (S 1076 0) (g10 1007 0) (400 * ((S 1092 0) - 1)) ((g47 58 ((S 1092 0) - 1))) ((S 1100025 (g47 57 ((S 1092 0) - 1))))) ∧ (¬ (g10 1075 0) = 0 → sm_LX (g47 58) (g47 63) (g47 64) (S 1092 0) (S 1076 0))) → (sm_PL (S 1100020) (S 51) (S 52) (S 46) (S 47) (S 1076 0) (S 1086 0) ∧ sm_FR (S 1100020) (S 52) (S 1100021) (S 1100022) (3000 - (S 1084 0)) (S 1085 0) ∧ sm_PV (S 1100020) (S 48) (S 49) (S 50) (S 44) (S 1076 0) (g10 1007 0) ∧ sm_AL (S 1100020) (S 48) (S 49) (S 50) (S 44) (S 1076 0) (S 1100032 0) ∧ sm_SV (S 1100020) (S 48) (S 1100029) (S 32) (S 33) (S 1076 0) (S 1032 0) ∧ 0 ≤ (S 1076 0) ∧ (S 1076 0) ≤ 300 ∧ 0 ≤ (S 1084 0) ∧ (S 1084 0) ≤ 3000 ∧ 0 ≤ (S 1086 0) ∧ sm_SC (S 1100029) (S 44) (S 45) (S 43) (S 21) (S 1076 0) (S 1032 0) ∧ sm_PO (S 42) (S 1076 0) ∧ ((g10 1075 0) = 0 → (S 1100032 0) = -1 ∧ sm_FO (S 44) (S 45) (S 1076 0)) ∧ 23 ≤ (S 1076 0) ∧ 31 ≤ (g10 1007 0) ∧ (g10 1007 0) ≤ 400 ∧ sm_LN (g10 4) 400 (g10 1007 0) ∧ (S 1008 0) ≤ (g10 1007 0) ∧ ((S 1075 0) = 1 → (g10 1075 0) = 1) ∧ 0 ≤ (S 1092 0) ∧ (S 1092 0) ≤ 24 ∧ (S 1007 0) ≤ (g10 1007 0) ∧ (¬ (g10 1075 0) = 0 → sm_LX (g47 58) (g47 63) (g47 64) (S 1092 0) (S 1076 0)) ∧ ((g10 1075 0) = 0 → (S 1073 0) = 1 → 1 ≤ (S 1092 0) ∧ (S 1092 0) ≤ 24 ∧ 0 ≤ (g47 57 ((S 1092 0) - 1)) ∧ (g47 57 ((S 1092 0) - 1)) < (S 1046 0) ∧ (S 29 (g47 57 ((S 1092 0) - 1))) = (S 53 ((S 1092 0) - 1)) ∧ 0 ≤ (S 53 ((S 1092 0) - 1)) ∧ (S 53 ((S 1092 0) - 1)) < (S 1032 0) ∧ (S 60 ((S 1092 0) - 1)) = sm_dp (S 1100024) (S 1100023 (g47 57 ((S 1092 0) - 1))) ∧ sm_TC (S 61) (S 62) (S 27) (S 1100007) (S 1100023) (S 1100024) (40 * ((S 1092 0) - 1)) (S 1100023 (g47 57 ((S 1092 0) - 1))) ∧ sm_LK (S 1100029) (S 1076 0) (S 54 ((S 1092 0) - 1)) (S 53 ((S 1092 0) - 1)) ∧ sm_VO (S 44) (S 1076 0) (g10 1007 0) ((S 55 ((S 1092 0) - 1))) ((S 56 ((S 1092 0) - 1))) ∧ sm_FW (S 44) (S 1076 0) (S 59 ((S 1092 0) - 1)) ∧ sm_FL (S 53) (S 54) (S 55) (S 56) (g47 57) (g47 58) (S 59) (S 60) (S 61) (S 62) (g47 63) (g47 64) (S 27) (S 29) (S 1100007) (S 1100023) (S 1100024) (S 1100025) (S 26) (S 1100029) (S 44) (S 1046 0) (S 1032 0) (S 1076 0) (g10 1007 0) (((S 1092 0) - 1)) ∧ (g47 58 ((S 1092 0) - 1)) = (S 1100007 (g47 57 ((S 1092 0) - 1))) ∧ sm_SK (g47 63) (g47 64) (S 44) (S 1100007) (S 1100025) (S 1076 0) (g10 1007 0) (400 * ((S 1092 0) - 1)) ((g47 58 ((S 1092 0) - 1))) ((S 1100025 (g47 57 ((S 1092 0) - 1))))) ∧ ((S 1073 0) = 1 ∨ (S 1092 0) = 0 ∧ (g10 1075 0) = 0 ∧ ((S 1073 0) = 2 ∨ (S 1073 0) = 3)))))) ∧ ((¬ (¬ s17 = (0 : Int))) → (∀ g52 : sv_S, (((g52 1111 0) = 2 ∨ (g52 1111 0) = 3) ∧ (g52 1112 0) = 0) → (((g10 1075 0) = 0 → (S 1073 0) = 1 → sm_PL (S 1100020) (S 51) (S 52) (S 46) (S 47) (S 1076 0) (S 1086 0) ∧ sm_FR (S 1100020) (S 52) (S 1100021) (S 1100022) (3000 - (S 1084 0)) (S 1085 0) ∧ sm_PV (S 1100020) (S 48) (S 49) (S 50) (S 44) (S 1076 0) (g10 1007 0) ∧ sm_AL (S 1100020) (S 48) (S 49) (S 50) (S 44) (S 1076 0) (S 1100032 0) ∧ sm_SV (S 1100020) (S 48) (S 1100029) (S 32) (S 33) (S 1076 0) (S 1032 0) ∧ 0 ≤ (S 1076 0) ∧ (S 1076 0) ≤ 300 ∧ 0 ≤ (S 1084 0) ∧ (S 1084 0) ≤ 3000 ∧ 0 ≤ (S 1086 0) ∧ sm_SC (S 1100029) (S 44) (S 45) (S 43) (S 21) (S 1076 0) (S 1032 0) ∧ sm_PO (S 42) (S 1076 0) ∧ (S 1100032 0) = -1 ∧ sm_FO (S 44) (S 45) (S 1076 0) ∧ 23 ≤ (S 1076 0) ∧ 31 ≤ (g10 1007 0) ∧ (g10 1007 0) ≤ 400 ∧ sm_LN (g10 4) 400 (g10 1007 0) ∧ sm_CT (S 26) (S 27) (S 28) (S 29) (S 1100007) (S 1100023) (S 1100024) (S 1100025) (S 21) (S 1046 0) (S 1032 0) (S 1008 0) (S 1055 0) ∧ sm_LS (S 26) (S 1100007) (S 1100025) (S 1046 0) ∧ sm_CL (S 1100007) (S 1100023) (S 1100025) (S 1046 0) ∧ 1 ≤ (S 1032 0) ∧ (S 1032 0) ≤ 11 ∧ 0 ≤ (S 1046 0) ∧ (S 1046 0) ≤ 600 ∧ 31 ≤ (S 1008 0) ∧ (S 1008 0) ≤ (g10 1007 0) ∧ 0 ≤ (S 1055 0) ∧ (S 1055 0) ≤ 19 ∧ 1 ≤ (S 1092 0) ∧ (S 1092 0) ≤ 24 ∧ 0 ≤ (S 1100033 0) ∧ (S 1100033 0) < (S 1046 0) ∧ (S 29 (S 1100033 0)) = (S 53 ((S 1092 0) - 1)) ∧ 0 ≤ (S 53 ((S 1092 0) - 1)) ∧ (S 53 ((S 1092 0) - 1)) < (S 1032 0) ∧ (S 60 ((S 1092 0) - 1)) = sm_dp (S 1100024) (S 1100023 (S 1100033 0)) ∧ sm_TC (S 61) (S 62) (S 27) (S 1100007) (S 1100023) (S 1100024) (40 * ((S 1092 0) - 1)) (S 1100023 (S 1100033 0)) ∧ sm_LK (S 1100029) (S 1076 0) (S 54 ((S 1092 0) - 1)) (S 53 ((S 1092 0) - 1)) ∧ sm_VO (S 44) (S 1076 0) (g10 1007 0) ((S 55 ((S 1092 0) - 1))) ((S 56 ((S 1092 0) - 1))) ∧ sm_FW (S 44) (S 1076 0) (S 59 ((S 1092 0) - 1)) ∧ sm_FL (S 53) (S 54) (S 55) (S 56) (S 57) (S 58) (S 59) (S 60) (S 61) (S 62) (S 63) (S 64) (S 27) (S 29) (S 1100007) (S 1100023) (S 1100024) (S 1100025) (S 26) (S 1100029) (S 44) (S 1046 0) (S 1032 0) (S 1076 0) (g10 1007 0) (((S 1092 0) - 1)) ∧ (S 57 ((S 1092 0) - 1)) = (S 1100033 0) ∧ 0 ≤ (S 58 ((S 1092 0) - 1)) ∧ (S 58 ((S 1092 0) - 1)) ≤ 400 ∧ sm_SK (S 63) (S 64) (S 44) (S 1100007) (S 1100025) (S 1076 0) (g10 1007 0) (400 * ((S 1092 0) - 1)) ((S 58 ((S 1092 0) - 1))) ((S 1100034 0)) ∧ -1 ≤ (S 1100034 0) ∧ (S 1100034 0) < (S 1046 0) ∧ (0 ≤ (S 1100034 0) → (S 26 (S 1100034 0)) = 29) ∧ 0 ≤ (2 : Int) ∧ (2 : Int) ≤ (S 58 ((S 1092 0) - 1)) ∧ (S 58 ((S 1092 0) - 1)) - (2 : Int) ≤ 399 ∧ sm_VO (S 44) (S 1076 0) (g10 1007 0) ((g52 1111 0)) ((g52 1112 0)) ∧ (0 ≤ (S 1100034 0) → (S 1100007 (S 1100034 0)) ≤ (S 58 ((S 1092 0) - 1)) - (2 : Int)) ∧ (S 1100033 0) + 1 < (S 1046 0) ∧ (S 29 ((S 1100033 0) + 1)) = (S 29 (S 1100033 0)) ∧ (S 1100007 ((S 1100033 0) + 1)) = (S 58 ((S 1092 0) - 1)) - (2 : Int) + 1 ∧ (S 1100023 ((S 1100033 0) + 1)) = (S 1100023 (S 1100033 0)) ∧ (S 1100025 ((S 1100033 0) + 1)) = (S 1100034 0)) ∧ (¬ (g10 1075 0) = 0 → sm_LX (S 58) (S 63) (S 64) (S 1092 0) (S 1076 0))) ∧ (∀ g58 : sv_S, (((g10 1075 0) = 0 → (S 1073 0) = 1 → 1 ≤ (S 1092 0) ∧ (S 1092 0) ≤ 24 ∧ 0 ≤ (g58 57 ((S 1092 0) - 1)) ∧ (g58 57 ((S 1092 0) - 1)) < (S 1046 0) ∧ (S 29 (g58 57 ((S 1092 0) - 1))) = (S 53 ((S 1092 0) - 1)) ∧ 0 ≤ (S 53 ((S 1092 0) - 1)) ∧ (S 53 ((S 1092 0) - 1)) < (S 1032 0) ∧ (S 60 ((S 1092 0) - 1)) = sm_dp (S 1100024) (S 1100023 (g58 57 ((S 1092 0) - 1))) ∧ sm_TC (S 61) (S 62) (S 27) (S 1100007) (S 1100023) (S 1100024) (40 * ((S 1092 0) - 1)) (S 1100023 (g58 57 ((S 1092 0) - 1))) ∧ sm_LK (S 1100029) (S 1076 0) (S 54 ((S 1092 0) - 1)) (S 53 ((S 1092 0) - 1)) ∧ sm_VO (S 44) (S 1076 0) (g10 1007 0) ((S 55 ((S 1092 0) - 1))) ((S 56 ((S 1092 0) - 1))) ∧ sm_FW (S 44) (S 1076 0) (S 59 ((S 1092 0) - 1)) ∧ sm_FL (S 53) (S 54) (S 55) (S 56) (g58 57) (g58 58) (S 59) (S 60) (S 61) (S 62) (g58 63) (g58 64) (S 27) (S 29) (S 1100007) (S 1100023) (S 1100024) (S 1100025) (S 26) (S 1100029) (S 44) (S 1046 0) (S 1032 0) (S 1076 0) (g10 1007 0) (((S 1092 0) - 1)) ∧ (g58 58 ((S 1092 0) - 1)) = (S 1100007 (g58 57 ((S 1092 0) - 1))) ∧ sm_SK (g58 63) (g58 64) (S 44) (S 1100007) (S 1100025) (S 1076 0) (g10 1007 0) (400 * ((S 1092 0) - 1)) ((g58 58 ((S 1092 0) - 1))) ((S 1100025 (g58 57 ((S 1092 0) - 1))))) ∧ (¬ (g10 1075 0) = 0 → sm_LX (g58 58) (g58 63) (g58 64) (S 1092 0) (S 1076 0))) → (sm_PL (S 1100020) (S 51) (S 52) (S 46) (S 47) (S 1076 0) (S 1086 0) ∧ sm_FR (S 1100020) (S 52) (S 1100021) (S 1100022) (3000 - (S 1084 0)) (S 1085 0) ∧ sm_PV (S 1100020) (S 48) (S 49) (S 50) (S 44) (S 1076 0) (g10 1007 0) ∧ sm_AL (S 1100020) (S 48) (S 49) (S 50) (S 44) (S 1076 0) (S 1100032 0) ∧ sm_SV (S 1100020) (S 48) (S 1100029) (S 32) (S 33) (S 1076 0) (S 1032 0) ∧ 0 ≤ (S 1076 0) ∧ (S 1076 0) ≤ 300 ∧ 0 ≤ (S 1084 0) ∧ (S 1084 0) ≤ 3000 ∧ 0 ≤ (S 1086 0) ∧ sm_SC (S 1100029) (S 44) (S 45) (S 43) (S 21) (S 1076 0) (S 1032 0) ∧ sm_PO (S 42) (S 1076 0) ∧ ((g10 1075 0) = 0 → (S 1100032 0) = -1 ∧ sm_FO (S 44) (S 45) (S 1076 0)) ∧ 23 ≤ (S 1076 0) ∧ 31 ≤ (g10 1007 0) ∧ (g10 1007 0) ≤ 400 ∧ sm_LN (g10 4) 400 (g10 1007 0) ∧ (S 1008 0) ≤ (g10 1007 0) ∧ ((S 1075 0) = 1 → (g10 1075 0) = 1) ∧ 0 ≤ (S 1092 0) ∧ (S 1092 0) ≤ 24 ∧ (S 1007 0) ≤ (g10 1007 0) ∧ (¬ (g10 1075 0) = 0 → sm_LX (g58 58) (g58 63) (g58 64) (S 1092 0) (S 1076 0)) ∧ ((g10 1075 0) = 0 → (S 1073 0) = 1 → 1 ≤ (S 1092 0) ∧ (S 1092 0) ≤ 24 ∧ 0 ≤ (g58 57 ((S 1092 0) - 1)) ∧ (g58 57 ((S 1092 0) - 1)) < (S 1046 0) ∧ (S 29 (g58 57 ((S 1092 0) - 1))) = (S 53 ((S 1092 0) - 1)) ∧ 0 ≤ (S 53 ((S 1092 0) - 1)) ∧ (S 53 ((S 1092 0) - 1)) < (S 1032 0) ∧ (S 60 ((S 1092 0) - 1)) = sm_dp (S 1100024) (S 1100023 (g58 57 ((S 1092 0) - 1))) ∧ sm_TC (S 61) (S 62) (S 27) (S 1100007) (S 1100023) (S 1100024) (40 * ((S 1092 0) - 1)) (S 1100023 (g58 57 ((S 1092 0) - 1))) ∧ sm_LK (S 1100029) (S 1076 0) (S 54 ((S 1092 0) - 1)) (S 53 ((S 1092 0) - 1)) ∧ sm_VO (S 44) (S 1076 0) (g10 1007 0) ((S 55 ((S 1092 0) - 1))) ((S 56 ((S 1092 0) - 1))) ∧ sm_FW (S 44) (S 1076 0) (S 59 ((S 1092 0) - 1)) ∧ sm_FL (S 53) (S 54) (S 55) (S 56) (g58 57) (g58 58) (S 59) (S 60) (S 61) (S 62) (g58 63) (g58 64) (S 27) (S 29) (S 1100007) (S 1100023) (S 1100024) (S 1100025) (S 26) (S 1100029) (S 44) (S 1046 0) (S 1032 0) (S 1076 0) (g10 1007 0) (((S 1092 0) - 1)) ∧ (g58 58 ((S 1092 0) - 1)) = (S 1100007 (g58 57 ((S 1092 0) - 1))) ∧ sm_SK (g58 63) (g58 64) (S 44) (S 1100007) (S 1100025) (S 1076 0) (g10 1007 0) (400 * ((S 1092 0) - 1)) ((g58 58 ((S 1092 0) - 1))) ((S 1100025 (g58 57 ((S 1092 0) - 1))))) ∧ ((S 1073 0) = 1 ∨ (S 1092 0) = 0 ∧ (g10 1075 0) = 0 ∧ ((S 1073 0) = 2 ∨ (S 1073 0) = 3)))))))) ∧ ((¬ (¬ s17 = (0 : Int))) → ((sm_SC (S 1100029) (S 44) (S 45) (S 43) (S 21) (S 1076 0) (S 1032 0) → 0 ≤ x6 → x6 < (S 1076 0) → ¬ (S 44 x6) = 3 → (S 1100029 x6) < 1) → (sm_PL (S 1100020) (S 51) (S 52) (S 46) (S 47) (S 1076 0) (S 1086 0) ∧ sm_FR (S 1100020) (S 52) (S 1100021) (S 1100022) (3000 - (S 1084 0)) (S 1085 0) ∧ sm_PV (S 1100020) (S 48) (S 49) (S 50) (S 44) (S 1076 0) (g10 1007 0) ∧ sm_AL (S 1100020) (S 48) (S 49) (S 50) (S 44) (S 1076 0) (S 1100032 0) ∧ sm_SV (S 1100020) (S 48) (S 1100029) (S 32) (S 33) (S 1076 0) (S 1032 0) ∧ 0 ≤ (S 1076 0) ∧ (S 1076 0) ≤ 300 ∧ 0 ≤ (S 1084 0) ∧ (S 1084 0) ≤ 3000 ∧ 0 ≤ (S 1086 0) ∧ 0 ≤ x6 ∧ x6 < (S 1076 0) ∧ ¬ ((S 44 x6) = 2 ∧ r14 = 0) ∧ (S 1100029 x6) < 1) ∧ (∀ g65 : sv_S, (sm_PL (g65 1100020) (S 51) (g65 52) (g65 46) (g65 47) (S 1076 0) (S 1086 0) ∧ sm_FR (g65 1100020) (g65 52) (g65 1100021) (g65 1100022) (3000 - (g65 1084 0)) (g65 1085 0) ∧ sm_PV (g65 1100020) (S 48) (S 49) (S 50) (S 44) (S 1076 0) (g10 1007 0) ∧ sm_AL (g65 1100020) (S 48) (S 49) (S 50) (S 44) (S 1076 0) (S 1100032 0) ∧ sm_SV (g65 1100020) (S 48) (S 1100029) (S 32) (S 33) (S 1076 0) (S 1032 0) ∧ 0 ≤ (S 1076 0) ∧ (S 1076 0) ≤ 300 ∧ 0 ≤ (g65 1084 0) ∧ (g65 1084 0) ≤ 3000 ∧ 0 ≤ (S 1086 0)) → (((¬ s17 = (0 : Int)) → (∀ g70 : sv_S, (((g70 1111 0) = 2 ∨ (g70 1111 0) = 3) ∧ (g70 1112 0) = 0) → (((g10 1075 0) = 0 → (S 1073 0) = 1 → sm_PL (g65 1100020) (S 51) (g65 52) (g65 46) (g65 47) (S 1076 0) (S 1086 0) ∧ sm_FR (g65 1100020) (g65 52) (g65 1100021) (g65 1100022) (3000 - (g65 1084 0)) (g65 1085 0) ∧ sm_PV (g65 1100020) (S 48) (S 49) (S 50) (S 44) (S 1076 0) (g10 1007 0) ∧ sm_AL (g65 1100020) (S 48) (S 49) (S 50) (S 44) (S 1076 0) (S 1100032 0) ∧ sm_SV (g65 1100020) (S 48) (S 1100029) (S 32) (S 33) (S 1076 0) (S 1032 0) ∧ 0 ≤ (S 1076 0) ∧ (S 1076 0) ≤ 300 ∧ 0 ≤ (g65 1084 0) ∧ (g65 1084 0) ≤ 3000 ∧ 0 ≤ (S 1086 0) ∧ sm_SC (S 1100029) (S 44) (S 45) (S 43) (S 21) (S 1076 0) (S 1032 0) ∧ sm_PO (S 42) (S 1076 0) ∧ (S 1100032 0) = -1 ∧ sm_FO (S 44) (S 45) (S 1076 0) ∧ 23 ≤ (S 1076 0) ∧ 31 ≤ (g10 1007 0) ∧ (g10 1007 0) ≤ 400 ∧ sm_LN (g10 4) 400 (g10 1007 0) ∧ sm_CT (S 26) (S 27) (S 28) (S 29) (S 1100007) (S 1100023) (S 1100024) (S 1100025) (S 21) (S 1046 0) (S 1032 0) (S 1008 0) (S 1055 0) ∧ sm_LS (S 26) (S 1100007) (S 1100025) (S 1046 0) ∧ sm_CL (S 1100007) (S 1100023) (S 1100025) (S 1046 0) ∧ 1 ≤ (S 1032 0) ∧ (S 1032 0) ≤ 11 ∧ 0 ≤ (S 1046 0) ∧ (S 1046 0) ≤ 600 ∧ 31 ≤ (S 1008 0) ∧ (S 1008 0) ≤ (g10 1007 0) ∧ 0 ≤ (S 1055 0) ∧ (S 1055 0) ≤ 19 ∧ 1 ≤ (S 1092 0) ∧ (S 1092 0) ≤ 24 ∧ 0 ≤ (S 1100033 0) ∧ (S 1100033 0) < (S 1046 0) ∧ (S 29 (S 1100033 0)) = (S 53 ((S 1092 0) - 1)) ∧ 0 ≤ (S 53 ((S 1092 0) - 1)) ∧ (S 53 ((S 1092 0) - 1)) < (S 1032 0) ∧ (S 60 ((S 1092 0) - 1)) = sm_dp (S 1100024) (S 1100023 (S 1100033 0)) ∧ sm_TC (S 61) (S 62) (S 27) (S 1100007) (S 1100023) (S 1100024) (40 * ((S 1092 0) - 1)) (S 1100023 (S 1100033 0)) ∧ sm_LK (S 1100029) (S 1076 0) (S 54 ((S 1092 0) - 1)) (S 53 ((S 1092 0) - 1)) ∧ sm_VO (S 44) (S 1076 0) (g10 1007 0) ((S 55 ((S 1092 0) - 1))) ((S 56 ((S 1092 0) - 1))) ∧ sm_FW (S 44) (S 1076 0) (S 59 ((S 1092 0) - 1)) ∧ sm_FL (S 53) (S 54) (S 55) (S 56) (S 57) (S 58) (S 59) (S 60) (S 61) (S 62) (S 63) (S 64) (S 27) (S 29) (S 1100007) (S 1100023) (S 1100024) (S 1100025) (S 26) (S 1100029) (S 44) (S 1046 0) (S 1032 0) (S 1076 0) (g10 1007 0) (((S 1092 0) - 1)) ∧ (S 57 ((S 1092 0) - 1)) = (S 1100033 0) ∧ 0 ≤ (S 58 ((S 1092 0) - 1)) ∧ (S 58 ((S 1092 0) - 1)) ≤ 400 ∧ sm_SK (S 63) (S 64) (S 44) (S 1100007) (S 1100025) (S 1076 0) (g10 1007 0) (400 * ((S 1092 0) - 1)) ((S 58 ((S 1092 0) - 1))) ((S 1100034 0)) ∧ -1 ≤ (S 1100034 0) ∧ (S 1100034 0) < (S 1046 0) ∧ (0 ≤ (S 1100034 0) → (S 26 (S 1100034 0)) = 29) ∧ 0 ≤ (2 : Int) ∧ (2 : Int) ≤ (S 58 ((S 1092 0) - 1)) ∧ (S 58 ((S 1092 0) - 1)) - (2 : Int) ≤ 399 ∧ sm_VO (S 44) (S 1076 0) (g10 1007 0) ((g70 1111 0)) ((g70 1112 0)) ∧ (0 ≤ (S 1100034 0) → (S 1100007 (S 1100034 0)) ≤ (S 58 ((S 1092 0) - 1)) - (2 : Int)) ∧ (S 1100033 0) + 1 < (S 1046 0) ∧ (S 29 ((S 1100033 0) + 1)) = (S 29 (S 1100033 0)) ∧ (S 1100007 ((S 1100033 0) + 1)) = (S 58 ((S 1092 0) - 1)) - (2 : Int) + 1 ∧ (S 1100023 ((S 1100033 0) + 1)) = (S 1100023 (S 1100033 0)) ∧ (S 1100025 ((S 1100033 0) + 1)) = (S 1100034 0)) ∧ (¬ (g10 1075 0) = 0 → sm_LX (S 58) (S 63) (S 64) (S 1092 0) (S 1076 0))) ∧ (∀ g76 : sv_S, (((g10 1075 0) = 0 → (S 1073 0) = 1 → 1 ≤ (S 1092 0) ∧ (S 1092 0) ≤ 24 ∧ 0 ≤ (g76 57 ((S 1092 0) - 1)) ∧ (g76 57 ((S 1092 0) - 1)) < (S 1046 0) ∧ (S 29 (g76 57 ((S 1092 0) - 1))) = (S 53 ((S 1092 0) - 1)) ∧ 0 ≤ (S 53 ((S 1092 0) - 1)) ∧ (S 53 ((S 1092 0) - 1)) < (S 1032 0) ∧ (S 60 ((S 1092 0) - 1)) = sm_dp (S 1100024) (S 1100023 (g76 57 ((S 1092 0) - 1))) ∧ sm_TC (S 61) (S 62) (S 27) (S 1100007) (S 1100023) (S 1100024) (40 * ((S 1092 0) - 1)) (S 1100023 (g76 57 ((S 1092 0) - 1))) ∧ sm_LK (S 1100029) (S 1076 0) (S 54 ((S 1092 0) - 1)) (S 53 ((S 1092 0) - 1)) ∧ sm_VO (S 44) (S 1076 0) (g10 1007 0) ((S 55 ((S 1092 0) - 1))) ((S 56 ((S 1092 0) - 1))) ∧ sm_FW (S 44) (S 1076 0) (S 59 ((S 1092 0) - 1)) ∧ sm_FL (S 53) (S 54) (S 55) (S 56) (g76 57) (g76 58) (S 59) (S 60) (S 61) (S 62) (g76 63) (g76 64) (S 27) (S 29) (S 1100007) (S 1100023) (S 1100024) (S 1100025) (S 26) (S 1100029) (S 44) (S 1046 0) (S 1032 0) (S 1076 0) (g10 1007 0) (((S 1092 0) - 1)) ∧ (g76 58 ((S 1092 0) - 1)) = (S 1100007 (g76 57 ((S 1092 0) - 1))) ∧ sm_SK (g76 63) (g76 64) (S 44) (S 1100007) (S 1100025) (S 1076 0) (g10 1007 0) (400 * ((S 1092 0) - 1)) ((g76 58 ((S 1092 0) - 1))) ((S 1100025 (g76 57 ((S 1092 0) - 1))))) ∧ (¬ (g10 1075 0) = 0 → sm_LX (g76 58) (g76 63) (g76 64) (S 1092 0) (S 1076 0))) → (sm_PL (g65 1100020) (S 51) (g65 52) (g65 46) (g65 47) (S 1076 0) (S 1086 0) ∧ sm_FR (g65 1100020) (g65 52) (g65 1100021) (g65 1100022) (3000 - (g65 1084 0)) (g65 1085 0) ∧ sm_PV (g65 1100020) (S 48) (S 49) (S 50) (S 44) (S 1076 0) (g10 1007 0) ∧ sm_AL (g65 1100020) (S 48) (S 49) (S 50) (S 44) (S 1076 0) (S 1100032 0) ∧ sm_SV (g65 1100020) (S 48) (S 1100029) (S 32) (S 33) (S 1076 0) (S 1032 0) ∧ 0 ≤ (S 1076 0) ∧ (S 1076 0) ≤ 300 ∧ 0 ≤ (g65 1084 0) ∧ (g65 1084 0) ≤ 3000 ∧ 0 ≤ (S 1086 0) ∧ sm_SC (S 1100029) (S 44) (S 45) (S 43) (S 21) (S 1076 0) (S 1032 0) ∧ sm_PO (S 42) (S 1076 0) ∧ ((g10 1075 0) = 0 → (S 1100032 0) = -1 ∧ sm_FO (S 44) (S 45) (S 1076 0)) ∧ 23 ≤ (S 1076 0) ∧ 31 ≤ (g10 1007 0) ∧ (g10 1007 0) ≤ 400 ∧ sm_LN (g10 4) 400 (g10 1007 0) ∧ (S 1008 0) ≤ (g10 1007 0) ∧ ((S 1075 0) = 1 → (g10 1075 0) = 1) ∧ 0 ≤ (S 1092 0) ∧ (S 1092 0) ≤ 24 ∧ (S 1007 0) ≤ (g10 1007 0) ∧ (¬ (g10 1075 0) = 0 → sm_LX (g76 58) (g76 63) (g76 64) (S 1092 0) (S 1076 0)) ∧ ((g10 1075 0) = 0 → (S 1073 0) = 1 → 1 ≤ (S 1092 0) ∧ (S 1092 0) ≤ 24 ∧ 0 ≤ (g76 57 ((S 1092 0) - 1)) ∧ (g76 57 ((S 1092 0) - 1)) < (S 1046 0) ∧ (S 29 (g76 57 ((S 1092 0) - 1))) = (S 53 ((S 1092 0) - 1)) ∧ 0 ≤ (S 53 ((S 1092 0) - 1)) ∧ (S 53 ((S 1092 0) - 1)) < (S 1032 0) ∧ (S 60 ((S 1092 0) - 1)) = sm_dp (S 1100024) (S 1100023 (g76 57 ((S 1092 0) - 1))) ∧ sm_TC (S 61) (S 62) (S 27) (S 1100007) (S 1100023) (S 1100024) (40 * ((S 1092 0) - 1)) (S 1100023 (g76 57 ((S 1092 0) - 1))) ∧ sm_LK (S 1100029) (S 1076 0) (S 54 ((S 1092 0) - 1)) (S 53 ((S 1092 0) - 1)) ∧ sm_VO (S 44) (S 1076 0) (g10 1007 0) ((S 55 ((S 1092 0) - 1))) ((S 56 ((S 1092 0) - 1))) ∧ sm_FW (S 44) (S 1076 0) (S 59 ((S 1092 0) - 1)) ∧ sm_FL (S 53) (S 54) (S 55) (S 56) (g76 57) (g76 58) (S 59) (S 60) (S 61) (S 62) (g76 63) (g76 64) (S 27) (S 29) (S 1100007) (S 1100023) (S 1100024) (S 1100025) (S 26) (S 1100029) (S 44) (S 1046 0) (S 1032 0) (S 1076 0) (g10 1007 0) (((S 1092 0) - 1)) ∧ (g76 58 ((S 1092 0) - 1)) = (S 1100007 (g76 57 ((S 1092 0) - 1))) ∧ sm_SK (g76 63) (g76 64) (S 44) (S 1100007) (S 1100025) (S 1076 0) (g10 1007 0) (400 * ((S 1092 0) - 1)) ((g76 58 ((S 1092 0) - 1))) ((S 1100025 (g76 57 ((S 1092 0) - 1))))) ∧ ((S 1073 0) = 1 ∨ (S 1092 0) = 0 ∧ (g10 1075 0) = 0 ∧ ((S 1073 0) = 2 ∨ (S 1073 0) = 3)))))) ∧ ((¬ (¬ s17 = (0 : Int))) → (∀ g81 : sv_S, (((g81 1111 0) = 2 ∨ (g81 1111 0) = 3) ∧ (g81 1112 0) = 0) → (((g10 1075 0) = 0 → (S 1073 0) = 1 → sm_PL (g65 1100020) (S 51) (g65 52) (g65 46) (g65 47) (S 1076 0) (S 1086 0) ∧ sm_FR (g65 1100020) (g65 52) (g65 1100021) (g65 1100022) (3000 - (g65 1084 0)) (g65 1085 0) ∧ sm_PV (g65 1100020) (S 48) (S 49) (S 50) (S 44) (S 1076 0) (g10 1007 0) ∧ sm_AL (g65 1100020) (S 48) (S 49) (S 50) (S 44) (S 1076 0) (S 1100032 0) ∧ sm_SV (g65 1100020) (S 48) (S 1100029) (S 32) (S 33) (S 1076 0) (S 1032 0) ∧ 0 ≤ (S 1076 0) ∧ (S 1076 0) ≤ 300 ∧ 0 ≤ (g65 1084 0) ∧ (g65 1084 0) ≤ 3000 ∧ 0 ≤ (S 1086 0) ∧ sm_SC (S 1100029) (S 44) (S 45) (S 43) (S 21) (S 1076 0) (S 1032 0) ∧ sm_PO (S 42) (S 1076 0) ∧ (S 1100032 0) = -1 ∧ sm_FO (S 44) (S 45) (S 1076 0) ∧ 23 ≤ (S 1076 0) ∧ 31 ≤ (g10 1007 0) ∧ (g10 1007 0) ≤ 400 ∧ sm_LN (g10 4) 400 (g10 1007 0) ∧ sm_CT (S 26) (S 27) (S 28) (S 29) (S 1100007) (S 1100023) (S 1100024) (S 1100025) (S 21) (S 1046 0) (S 1032 0) (S 1008 0) (S 1055 0) ∧ sm_LS (S 26) (S 1100007) (S 1100025) (S 1046 0) ∧ sm_CL (S 1100007) (S 1100023) (S 1100025) (S 1046 0) ∧ 1 ≤ (S 1032 0) ∧ (S 1032 0) ≤ 11 ∧ 0 ≤ (S 1046 0) ∧ (S 1046 0) ≤ 600 ∧ 31 ≤ (S 1008 0) ∧ (S 1008 0) ≤ (g10 1007 0) ∧ 0 ≤ (S 1055 0) ∧ (S 1055 0) ≤ 19 ∧ 1 ≤ (S 1092 0) ∧ (S 1092 0) ≤ 24 ∧ 0 ≤ (S 1100033 0) ∧ (S 1100033 0) < (S 1046 0) ∧ (S 29 (S 1100033 0)) = (S 53 ((S 1092 0) - 1)) ∧ 0 ≤ (S 53 ((S 1092 0) - 1)) ∧ (S 53 ((S 1092 0) - 1)) < (S 1032 0) ∧ (S 60 ((S 1092 0) - 1)) = sm_dp (S 1100024) (S 1100023 (S 1100033 0)) ∧ sm_TC (S 61) (S 62) (S 27) (S 1100007) (S 1100023) (S 1100024) (40 * ((S 1092 0) - 1)) (S 1100023 (S 1100033 0)) ∧ sm_LK (S 1100029) (S 1076 0) (S 54 ((S 1092 0) - 1)) (S 53 ((S 1092 0) - 1)) ∧ sm_VO (S 44) (S 1076 0) (g10 1007 0) ((S 55 ((S 1092 0) - 1))) ((S 56 ((S 1092 0) - 1))) ∧ sm_FW (S 44) (S 1076 0) (S 59 ((S 1092 0) - 1)) ∧ sm_FL (S 53) (S 54) (S 55) (S 56) (S 57) (S 58) (S 59) (S 60) (S 61) (S 62) (S 63) (S 64) (S 27) (S 29) (S 1100007) (S 1100023) (S 1100024) (S 1100025) (S 26) (S 1100029) (S 44) (S 1046 0) (S 1032 0) (S 1076 0) (g10 1007 0) (((S 1092 0) - 1)) ∧ (S 57 ((S 1092 0) - 1)) = (S 1100033 0) ∧ 0 ≤ (S 58 ((S 1092 0) - 1)) ∧ (S 58 ((S 1092 0) - 1)) ≤ 400 ∧ sm_SK (S 63) (S 64) (S 44) (S 1100007) (S 1100025) (S 1076 0) (g10 1007 0) (400 * ((S 1092 0) - 1)) ((S 58 ((S 1092 0) - 1))) ((S 1100034 0)) ∧ -1 ≤ (S 1100034 0) ∧ (S 1100034 0) < (S 1046 0) ∧ (0 ≤ (S 1100034 0) → (S 26 (S 1100034 0)) = 29) ∧ 0 ≤ (2 : Int) ∧ (2 : Int) ≤ (S 58 ((S 1092 0) - 1)) ∧ (S 58 ((S 1092 0) - 1)) - (2 : Int) ≤ 399 ∧ sm_VO (S 44) (S 1076 0) (g10 1007 0) ((g81 1111 0)) ((g81 1112 0)) ∧ (0 ≤ (S 1100034 0) → (S 1100007 (S 1100034 0)) ≤ (S 58 ((S 1092 0) - 1)) - (2 : Int)) ∧ (S 1100033 0) + 1 < (S 1046 0) ∧ (S 29 ((S 1100033 0) + 1)) = (S 29 (S 1100033 0)) ∧ (S 1100007 ((S 1100033 0) + 1)) = (S 58 ((S 1092 0) - 1)) - (2 : Int) + 1 ∧ (S 1100023 ((S 1100033 0) + 1)) = (S 1100023 (S 1100033 0)) ∧ (S 1100025 ((S 1100033 0) + 1)) = (S 1100034 0)) ∧ (¬ (g10 1075 0) = 0 → sm_LX (S 58) (S 63) (S 64) (S 1092 0) (S 1076 0))) ∧ (∀ g87 : sv_S, (((g10 1075 0) = 0 → (S 1073 0) = 1 → 1 ≤ (S 1092 0) ∧ (S 1092 0) ≤ 24 ∧ 0 ≤ (g87 57 ((S 1092 0) - 1)) ∧ (g87 57 ((S 1092 0) - 1)) < (S 1046 0) ∧ (S 29 (g87 57 ((S 1092 0) - 1))) = (S 53 ((S 1092 0) - 1)) ∧ 0 ≤ (S 53 ((S 1092 0) - 1)) ∧ (S 53 ((S 1092 0) - 1)) < (S 1032 0) ∧ (S 60 ((S 1092 0) - 1)) = sm_dp (S 1100024) (S 1100023 (g87 57 ((S 1092 0) - 1))) ∧ sm_TC (S 61) (S 62) (S 27) (S 1100007) (S 1100023) (S 1100024) (40 * ((S 1092 0) - 1)) (S 1100023 (g87 57 ((S 1092 0) - 1))) ∧ sm_LK (S 1100029) (S 1076 0) (S 54 ((S 1092 0) - 1)) (S 53 ((S 1092 0) - 1)) ∧ sm_VO (S 44) (S 1076 0) (g10 1007 0) ((S 55 ((S 1092 0) - 1))) ((S 56 ((S 1092 0) - 1))) ∧ sm_FW (S 44) (S 1076 0) (S 59 ((S 1092 0) - 1)) ∧ sm_FL (S 53) (S 54) (S 55) (S 56) (g87 57) (g87 58) (S 59) (S 60) (S 61) (S 62) (g87 63) (g87 64) (S 27) (S 29) (S 1100007) (S 1100023) (S 1100024) (S 1100025) (S 26) (S 1100029) (S 44) (S 1046 0) (S 1032 0) (S 1076 0) (g10 1007 0) (((S 1092 0) - 1)) ∧ (g87 58 ((S 1092 0) - 1)) = (S 1100007 (g87 57 ((S 1092 0) - 1))) ∧ sm_SK (g87 63) (g87 64) (S 44) (S 1100007) (S 1100025) (S 1076 0) (g10 1007 0) (400 * ((S 1092 0) - 1)) ((g87 58 ((S 1092 0) - 1))) ((S 1100025 (g87 57 ((S 1092 0) - 1))))) ∧ (¬ (g10 1075 0) = 0 → sm_LX (g87 58) (g87 63) (g87 64) (S 1092 0) (S 1076 0))) → (sm_PL (g65 1100020) (S 51) (g65 52) (g65 46) (g65 47) (S 1076 0) (S 1086 0) ∧ sm_FR (g65 1100020) (g65 52) (g65 1100021) (g65 1100022) (3000 - (g65 1084 0)) (g65 1085 0) ∧ sm_PV (g65 1100020) (S 48) (S 49) (S 50) (S 44) (S 1076 0) (g10 1007 0) ∧ sm_AL (g65 1100020) (S 48) (S 49) (S 50) (S 44) (S 1076 0) (S 1100032 0) ∧ sm_SV (g65 1100020) (S 48) (S 1100029) (S 32) (S 33) (S 1076 0) (S 1032 0) ∧ 0 ≤ (S 1076 0) ∧ (S 1076 0) ≤ 300 ∧ 0 ≤ (g65 1084 0) ∧ (g65 1084 0) ≤ 3000 ∧ 0 ≤ (S 1086 0) ∧ sm_SC (S 1100029) (S 44) (S 45) (S 43) (S 21) (S 1076 0) (S 1032 0) ∧ sm_PO (S 42) (S 1076 0) ∧ ((g10 1075 0) = 0 → (S 1100032 0) = -1 ∧ sm_FO (S 44) (S 45) (S 1076 0)) ∧ 23 ≤ (S 1076 0) ∧ 31 ≤ (g10 1007 0) ∧ (g10 1007 0) ≤ 400 ∧ sm_LN (g10 4) 400 (g10 1007 0) ∧ (S 1008 0) ≤ (g10 1007 0) ∧ ((S 1075 0) = 1 → (g10 1075 0) = 1) ∧ 0 ≤ (S 1092 0) ∧ (S 1092 0) ≤ 24 ∧ (S 1007 0) ≤ (g10 1007 0) ∧ (¬ (g10 1075 0) = 0 → sm_LX (g87 58) (g87 63) (g87 64) (S 1092 0) (S 1076 0)) ∧ ((g10 1075 0) = 0 → (S 1073 0) = 1 → 1 ≤ (S 1092 0) ∧ (S 1092 0) ≤ 24 ∧ 0 ≤ (g87 57 ((S 1092 0) - 1)) ∧ (g87 57 ((S 1092 0) - 1)) < (S 1046 0) ∧ (S 29 (g87 57 ((S 1092 0) - 1))) = (S 53 ((S 1092 0) - 1)) ∧ 0 ≤ (S 53 ((S 1092 0) - 1)) ∧ (S 53 ((S 1092 0) - 1)) < (S 1032 0) ∧ (S 60 ((S 1092 0) - 1)) = sm_dp (S 1100024) (S 1100023 (g87 57 ((S 1092 0) - 1))) ∧ sm_TC (S 61) (S 62) (S 27) (S 1100007) (S 1100023) (S 1100024) (40 * ((S 1092 0) - 1)) (S 1100023 (g87 57 ((S 1092 0) - 1))) ∧ sm_LK (S 1100029) (S 1076 0) (S 54 ((S 1092 0) - 1)) (S 53 ((S 1092 0) - 1)) ∧ sm_VO (S 44) (S 1076 0) (g10 1007 0) ((S 55 ((S 1092 0) - 1))) ((S 56 ((S 1092 0) - 1))) ∧ sm_FW (S 44) (S 1076 0) (S 59 ((S 1092 0) - 1)) ∧ sm_FL (S 53) (S 54) (S 55) (S 56) (g87 57) (g87 58) (S 59) (S 60) (S 61) (S 62) (g87 63) (g87 64) (S 27) (S 29) (S 1100007) (S 1100023) (S 1100024) (S 1100025) (S 26) (S 1100029) (S 44) (S 1046 0) (S 1032 0) (S 1076 0) (g10 1007 0) (((S 1092 0) - 1)) ∧ (g87 58 ((S 1092 0) - 1)) = (S 1100007 (g87 57 ((S 1092 0) - 1))) ∧ sm_SK (g87 63) (g87 64) (S 44) (S 1100007) (S 1100025) (S 1076 0) (g10 1007 0) (400 * ((S 1092 0) - 1)) ((g87 58 ((S 1092 0) - 1))) ((S 1100025 (g87 57 ((S 1092 0) - 1))))) ∧ ((S 1073 0) = 1 ∨ (S 1092 0) = 0 ∧ (g10 1075 0) = 0 ∧ ((S 1073 0) = 2 ∨ (S 1073 0) = 3)))))))))))))) ∧ (((¬ x4 = (7 : Int)) → (((0 : Int) = 0 ∨ (0 : Int) = 1) ∧ ((0 : Int) = 0 → ¬ (x4 = 7 ∧ (S 44 x6) = 2 ∧ r14 = 0)))) ∧ ((¬ (¬ x4 = (7 : Int))) → (0 ≤ x6 ∧ x6 < 300) ∧ (sv_R (S 44 x6) → (((¬ (S 44 x6) = (2 : Int)) → (((0 : Int) = 0 ∨ (0 : Int) = 1) ∧ ((0 : Int) = 0 → ¬ (x4 = 7 ∧ (S 44 x6) = 2 ∧ r14 = 0)))) ∧ ((¬ (¬ (S 44 x6) = (2 : Int))) → (((¬ r14 = (0 : Int)) → (((0 : Int) = 0 ∨ (0 : Int) = 1) ∧ ((0 : Int) = 0 → ¬ (x4 = 7 ∧ (S 44 x6) = 2 ∧ r14 = 0)))) ∧ ((¬ (¬ r14 = (0 : Int))) → (((1 : Int) = 0 ∨ (1 : Int) = 1) ∧ ((1 : Int) = 0 → ¬ (x4 = 7 ∧ (S 44 x6) = 2 ∧ r14 = 0)))))))))))) ∧ ((¬ ((1 : Int) < x4)) → ((g10 1075 0) = 0 ∧ (S 1073 0) = 1 ∧ sm_LX (S 58) (S 63) (S 64) (S 1092 0) (S 1076 0) ∧ sm_PL (S 1100020) (S 51) (S 52) (S 46) (S 47) (S 1076 0) (S 1086 0) ∧ sm_FR (S 1100020) (S 52) (S 1100021) (S 1100022) (3000 - (S 1084 0)) (S 1085 0) ∧ sm_PV (S 1100020) (S 48) (S 49) (S 50) (S 44) (S 1076 0) (g10 1007 0) ∧ sm_AL (S 1100020) (S 48) (S 49) (S 50) (S 44) (S 1076 0) (S 1100032 0) ∧ sm_SV (S 1100020) (S 48) (S 1100029) (S 32) (S 33) (S 1076 0) (S 1032 0) ∧ 0 ≤ (S 1076 0) ∧ (S 1076 0) ≤ 300 ∧ 0 ≤ (S 1084 0) ∧ (S 1084 0) ≤ 3000 ∧ 0 ≤ (S 1086 0) ∧ sm_SC (S 1100029) (S 44) (S 45) (S 43) (S 21) (S 1076 0) (S 1032 0) ∧ sm_PO (S 42) (S 1076 0) ∧ (S 1100032 0) = -1 ∧ sm_FO (S 44) (S 45) (S 1076 0) ∧ 23 ≤ (S 1076 0) ∧ 31 ≤ (g10 1007 0) ∧ (g10 1007 0) ≤ 400 ∧ sm_LN (g10 4) 400 (g10 1007 0) ∧ sm_CT (S 26) (S 27) (S 28) (S 29) (S 1100007) (S 1100023) (S 1100024) (S 1100025) (S 21) (S 1046 0) (S 1032 0) (S 1008 0) (S 1055 0) ∧ sm_LS (S 26) (S 1100007) (S 1100025) (S 1046 0) ∧ sm_CL (S 1100007) (S 1100023) (S 1100025) (S 1046 0) ∧ 1 ≤ (S 1032 0) ∧ (S 1032 0) ≤ 11 ∧ 0 ≤ (S 1046 0) ∧ (S 1046 0) ≤ 600 ∧ 31 ≤ (S 1008 0) ∧ (S 1008 0) ≤ (g10 1007 0) ∧ 0 ≤ (S 1055 0) ∧ (S 1055 0) ≤ 19 ∧ 1 ≤ (S 1092 0) ∧ (S 1092 0) ≤ 24 ∧ 0 ≤ (S 57 ((S 1092 0) - 1)) ∧ (S 57 ((S 1092 0) - 1)) < (S 1046 0) ∧ (S 29 (S 57 ((S 1092 0) - 1))) = (S 53 ((S 1092 0) - 1)) ∧ 0 ≤ (S 53 ((S 1092 0) - 1)) ∧ (S 53 ((S 1092 0) - 1)) < (S 1032 0) ∧ (S 60 ((S 1092 0) - 1)) = sm_dp (S 1100024) (S 1100023 (S 57 ((S 1092 0) - 1))) ∧ sm_TC (S 61) (S 62) (S 27) (S 1100007) (S 1100023) (S 1100024) (40 * ((S 1092 0) - 1)) (S 1100023 (S 57 ((S 1092 0) - 1))) ∧ sm_LK (S 1100029) (S 1076 0) (S 54 ((S 1092 0) - 1)) (S 53 ((S 1092 0) - 1)) ∧ sm_VO (S 44) (S 1076 0) (g10 1007 0) ((S 55 ((S 1092 0) - 1))) ((S 56 ((S 1092 0) - 1))) ∧ sm_FW (S 44) (S 1076 0) (S 59 ((S 1092 0) - 1)) ∧ sm_FL (S 53) (S 54) (S 55) (S 56) (S 57) (S 58) (S 59) (S 60) (S 61) (S 62) (S 63) (S 64) (S 27) (S 29) (S 1100007) (S 1100023) (S 1100024) (S 1100025) (S 26) (S 1100029) (S 44) (S 1046 0) (S 1032 0) (S 1076 0) (g10 1007 0) (((S 1092 0) - 1)) ∧ (S 58 ((S 1092 0) - 1)) = (S 1100007 (S 57 ((S 1092 0) - 1))) ∧ sm_SK (S 63) (S 64) (S 44) (S 1100007) (S 1100025) (S 1076 0) (g10 1007 0) (400 * ((S 1092 0) - 1)) ((S 58 ((S 1092 0) - 1))) ((S 1100025 (S 57 ((S 1092 0) - 1)))) ∧ (0 ≤ (S 1100023 (S 57 ((S 1092 0) - 1))) → (S 1100007 (S 1100023 (S 57 ((S 1092 0) - 1)))) ≤ (S 58 ((S 1092 0) - 1))) ∧ 6 ≤ (6 : Int) ∧ (6 : Int) ≤ 8) ∧ (∀ g96 : sv_S, (sm_PL (S 1100020) (S 51) (S 52) (g96 46) (g96 47) (g96 1076 0) (S 1086 0) ∧ sm_FR (S 1100020) (S 52) (S 1100021) (S 1100022) (3000 - (S 1084 0)) (S 1085 0) ∧ sm_PV (S 1100020) (S 48) (S 49) (S 50) (g96 44) (g96 1076 0) (g10 1007 0) ∧ sm_AL (S 1100020) (S 48) (S 49) (S 50) (g96 44) (g96 1076 0) (S 1100032 0) ∧ sm_SV (S 1100020) (S 48) (g96 1100029) (S 32) (S 33) (g96 1076 0) (S 1032 0) ∧ 0 ≤ (g96 1076 0) ∧ (g96 1076 0) ≤ 300 ∧ 0 ≤ (S 1084 0) ∧ (S 1084 0) ≤ 3000 ∧ 0 ≤ (S 1086 0) ∧ sm_SC (g96 1100029) (g96 44) (g96 45) (g96 43) (S 21) (g96 1076 0) (S 1032 0) ∧ sm_PO (g96 42) (g96 1076 0) ∧ ((g96 1075 0) = 0 → (S 1100032 0) = -1 ∧ sm_FO (g96 44) (g96 45) (g96 1076 0)) ∧ 23 ≤ (g96 1076 0) ∧ 31 ≤ (g10 1007 0) ∧ (g10 1007 0) ≤ 400 ∧ sm_LN (g10 4) 400 (g10 1007 0) ∧ (S 1008 0) ≤ (g10 1007 0) ∧ ((g10 1075 0) = 1 → (g96 1075 0) = 1) ∧ 0 ≤ (g96 1092 0) ∧ (g96 1092 0) ≤ 24 ∧ (g10 1007 0) ≤ (g10 1007 0) ∧ (¬ (g96 1075 0) = 0 → sm_LX (g96 58) (g96 63) (g96 64) (g96 1092 0) (g96 1076 0)) ∧ ((g96 1075 0) = 0 → (g96 1073 0) = 1 → 1 ≤ (g96 1092 0) ∧ (g96 1092 0) ≤ 24 ∧ 0 ≤ (g96 57 ((g96 1092 0) - 1)) ∧ (g96 57 ((g96 1092 0) - 1)) < (S 1046 0) ∧ (S 29 (g96 57 ((g96 1092 0) - 1))) = (S 53 ((g96 1092 0) - 1)) ∧ 0 ≤ (S 53 ((g96 1092 0) - 1)) ∧ (S 53 ((g96 1092 0) - 1)) < (S 1032 0) ∧ (g96 60 ((g96 1092 0) - 1)) = sm_dp (S 1100024) (S 1100023 (g96 57 ((g96 1092 0) - 1))) ∧ sm_TC (S 61) (S 62) (S 27) (S 1100007) (S 1100023) (S 1100024) (40 * ((g96 1092 0) - 1)) (S 1100023 (g96 57 ((g96 1092 0) - 1))) ∧ sm_LK (g96 1100029) (g96 1076 0) (S 54 ((g96 1092 0) - 1)) (S 53 ((g96 1092 0) - 1)) ∧ sm_VO (g96 44) (g96 1076 0) (g10 1007 0) ((S 55 ((g96 1092 0) - 1))) ((S 56 ((g96 1092 0) - 1))) ∧ sm_FW (g96 44) (g96 1076 0) (S 59 ((g96 1092 0) - 1)) ∧ sm_FL (S 53) (S 54) (S 55) (S 56) (g96 57) (g96 58) (S 59) (g96 60) (S 61) (S 62) (g96 63) (g96 64) (S 27) (S 29) (S 1100007) (S 1100023) (S 1100024) (S 1100025) (S 26) (g96 1100029) (g96 44) (S 1046 0) (S 1032 0) (g96 1076 0) (g10 1007 0) (((g96 1092 0) - 1)) ∧ (g96 58 ((g96 1092 0) - 1)) = (S 1100007 (g96 57 ((g96 1092 0) - 1))) ∧ sm_SK (g96 63) (g96 64) (g96 44) (S 1100007) (S 1100025) (g96 1076 0) (g10 1007 0) (400 * ((g96 1092 0) - 1)) ((g96 58 ((g96 1092 0) - 1))) ((S 1100025 (g96 57 ((g96 1092 0) - 1))))) ∧ ((g96 1073 0) = 1 ∨ (g96 1092 0) = 0 ∧ (g96 1075 0) = 0 ∧ ((g96 1073 0) = 2 ∨ (g96 1073 0) = 3)) ∧ ((g96 1073 0) = 1 ∨ (g96 1073 0) = 3)) → (sm_PL (S 1100020) (S 51) (S 52) (g96 46) (g96 47) (g96 1076 0) (S 1086 0) ∧ sm_FR (S 1100020) (S 52) (S 1100021) (S 1100022) (3000 - (S 1084 0)) (S 1085 0) ∧ sm_PV (S 1100020) (S 48) (S 49) (S 50) (g96 44) (g96 1076 0) (g10 1007 0) ∧ sm_AL (S 1100020) (S 48) (S 49) (S 50) (g96 44) (g96 1076 0) (S 1100032 0) ∧ sm_SV (S 1100020) (S 48) (g96 1100029) (S 32) (S 33) (g96 1076 0) (S 1032 0) ∧ 0 ≤ (g96 1076 0) ∧ (g96 1076 0) ≤ 300 ∧ 0 ≤ (S 1084 0) ∧ (S 1084 0) ≤ 3000 ∧ 0 ≤ (S 1086 0) ∧ sm_SC (g96 1100029) (g96 44) (g96 45) (g96 43) (S 21) (g96 1076 0) (S 1032 0) ∧ sm_PO (g96 42) (g96 1076 0) ∧ ((g96 1075 0) = 0 → (S 1100032 0) = -1 ∧ sm_FO (g96 44) (g96 45) (g96 1076 0)) ∧ 23 ≤ (g96 1076 0) ∧ 31 ≤ (g10 1007 0) ∧ (g10 1007 0) ≤ 400 ∧ sm_LN (g10 4) 400 (g10 1007 0) ∧ (S 1008 0) ≤ (g10 1007 0) ∧ ((S 1075 0) = 1 → (g96 1075 0) = 1) ∧ 0 ≤ (g96 1092 0) ∧ (g96 1092 0) ≤ 24 ∧ (S 1007 0) ≤ (g10 1007 0) ∧ (¬ (g96 1075 0) = 0 → sm_LX (g96 58) (g96 63) (g96 64) (g96 1092 0) (g96 1076 0)) ∧ ((g96 1075 0) = 0 → (g96 1073 0) = 1 → 1 ≤ (g96 1092 0) ∧ (g96 1092 0) ≤ 24 ∧ 0 ≤ (g96 57 ((g96 1092 0) - 1)) ∧ (g96 57 ((g96 1092 0) - 1)) < (S 1046 0) ∧ (S 29 (g96 57 ((g96 1092 0) - 1))) = (S 53 ((g96 1092 0) - 1)) ∧ 0 ≤ (S 53 ((g96 1092 0) - 1)) ∧ (S 53 ((g96 1092 0) - 1)) < (S 1032 0) ∧ (g96 60 ((g96 1092 0) - 1)) = sm_dp (S 1100024) (S 1100023 (g96 57 ((g96 1092 0) - 1))) ∧ sm_TC (S 61) (S 62) (S 27) (S 1100007) (S 1100023) (S 1100024) (40 * ((g96 1092 0) - 1)) (S 1100023 (g96 57 ((g96 1092 0) - 1))) ∧ sm_LK (g96 1100029) (g96 1076 0) (S 54 ((g96 1092 0) - 1)) (S 53 ((g96 1092 0) - 1)) ∧ sm_VO (g96 44) (g96 1076 0) (g10 1007 0) ((S 55 ((g96 1092 0) - 1))) ((S 56 ((g96 1092 0) - 1))) ∧ sm_FW (g96 44) (g96 1076 0) (S 59 ((g96 1092 0) - 1)) ∧ sm_FL (S 53) (S 54) (S 55) (S 56) (g96 57) (g96 58) (S 59) (g96 60) (S 61) (S 62) (g96 63) (g96 64) (S 27) (S 29) (S 1100007) (S 1100023) (S 1100024) (S 1100025) (S 26) (g96 1100029) (g96 44) (S 1046 0) (S 1032 0) (g96 1076 0) (g10 1007 0) (((g96 1092 0) - 1)) ∧ (g96 58 ((g96 1092 0) - 1)) = (S 1100007 (g96 57 ((g96 1092 0) - 1))) ∧ sm_SK (g96 63) (g96 64) (g96 44) (S 1100007) (S 1100025) (g96 1076 0) (g10 1007 0) (400 * ((g96 1092 0) - 1)) ((g96 58 ((g96 1092 0) - 1))) ((S 1100025 (g96 57 ((g96 1092 0) - 1))))) ∧ ((g96 1073 0) = 1 ∨ (g96 1092 0) = 0 ∧ (g96 1075 0) = 0 ∧ ((g96 1073 0) = 2 ∨ (g96 1073 0) = 3))))))) ∧ ((¬ ((g10 1075 0) = (0 : Int))) → (sm_PL (S 1100020) (S 51) (S 52) (S 46) (S 47) (S 1076 0) (S 1086 0) ∧ sm_FR (S 1100020) (S 52) (S 1100021) (S 1100022) (3000 - (S 1084 0)) (S 1085 0) ∧ sm_PV (S 1100020) (S 48) (S 49) (S 50) (S 44) (S 1076 0) (g10 1007 0) ∧ sm_AL (S 1100020) (S 48) (S 49) (S 50) (S 44) (S 1076 0) (S 1100032 0) ∧ sm_SV (S 1100020) (S 48) (S 1100029) (S 32) (S 33) (S 1076 0) (S 1032 0) ∧ 0 ≤ (S 1076 0) ∧ (S 1076 0) ≤ 300 ∧ 0 ≤ (S 1084 0) ∧ (S 1084 0) ≤ 3000 ∧ 0 ≤ (S 1086 0) ∧ sm_SC (S 1100029) (S 44) (S 45) (S 43) (S 21) (S 1076 0) (S 1032 0) ∧ sm_PO (S 42) (S 1076 0) ∧ ((g10 1075 0) = 0 → (S 1100032 0) = -1 ∧ sm_FO (S 44) (S 45) (S 1076 0)) ∧ 23 ≤ (S 1076 0) ∧ 31 ≤ (g10 1007 0) ∧ (g10 1007 0) ≤ 400 ∧ sm_LN (g10 4) 400 (g10 1007 0) ∧ (S 1008 0) ≤ (g10 1007 0) ∧ ((S 1075 0) = 1 → (g10 1075 0) = 1) ∧ 0 ≤ (S 1092 0) ∧ (S 1092 0) ≤ 24 ∧ (S 1007 0) ≤ (g10 1007 0) ∧ (¬ (g10 1075 0) = 0 → sm_LX (S 58) (S 63) (S 64) (S 1092 0) (S 1076 0)) ∧ ((g10 1075 0) = 0 → (S 1073 0) = 1 → 1 ≤ (S 1092 0) ∧ (S 1092 0) ≤ 24 ∧ 0 ≤ (S 57 ((S 1092 0) - 1)) ∧ (S 57 ((S 1092 0) - 1)) < (S 1046 0) ∧ (S 29 (S 57 ((S 1092 0) - 1))) = (S 53 ((S 1092 0) - 1)) ∧ 0 ≤ (S 53 ((S 1092 0) - 1)) ∧ (S 53 ((S 1092 0) - 1)) < (S 1032 0) ∧ (S 60 ((S 1092 0) - 1)) = sm_dp (S 1100024) (S 1100023 (S 57 ((S 1092 0) - 1))) ∧ sm_TC (S 61) (S 62) (S 27) (S 1100007) (S 1100023) (S 1100024) (40 * ((S 1092 0) - 1)) (S 1100023 (S 57 ((S 1092 0) - 1))) ∧ sm_LK (S 1100029) (S 1076 0) (S 54 ((S 1092 0) - 1)) (S 53 ((S 1092 0) - 1)) ∧ sm_VO (S 44) (S 1076 0) (g10 1007 0) ((S 55 ((S 1092 0) - 1))) ((S 56 ((S 1092 0) - 1))) ∧ sm_FW (S 44) (S 1076 0) (S 59 ((S 1092 0) - 1)) ∧ sm_FL (S 53) (S 54) (S 55) (S 56) (S 57) (S 58) (S 59) (S 60) (S 61) (S 62) (S 63) (S 64) (S 27) (S 29) (S 1100007) (S 1100023) (S 1100024) (S 1100025) (S 26) (S 1100029) (S 44) (S 1046 0) (S 1032 0) (S 1076 0) (g10 1007 0) (((S 1092 0) - 1)) ∧ (S 58 ((S 1092 0) - 1)) = (S 1100007 (S 57 ((S 1092 0) - 1))) ∧ sm_SK (S 63) (S 64) (S 44) (S 1100007) (S 1100025) (S 1076 0) (g10 1007 0) (400 * ((S 1092 0) - 1)) ((S 58 ((S 1092 0) - 1))) ((S 1100025 (S 57 ((S 1092 0) - 1))))) ∧ ((S 1073 0) = 1 ∨ (S 1092 0) = 0 ∧ (g10 1075 0) = 0 ∧ ((S 1073 0) = 2 ∨ (S 1073 0) = 3))))))))))) := by
  intro S
  intro h1_
  rintro ⟨h2_, ⟨h3_, ⟨h4_, ⟨h5_, ⟨h6_, ⟨h7_, ⟨h8_, ⟨h9_, ⟨h10_, ⟨h11_, ⟨h12_, ⟨h13_, ⟨h14_, ⟨h15_, ⟨h16_, ⟨h17_, ⟨h18_, ⟨h19_, ⟨h20_, ⟨h21_, ⟨h22_, ⟨h23_, ⟨h24_, ⟨h25_, ⟨h26_, ⟨h27_, ⟨h28_, ⟨h29_, ⟨h30_, ⟨h31_, ⟨h32_, ⟨h33_, ⟨h34_, ⟨h35_, ⟨h36_, ⟨h37_, ⟨h38_, ⟨h39_, ⟨h40_, ⟨h41_, ⟨h42_, ⟨h43_, ⟨h44_, ⟨h45_, ⟨h46_, ⟨h47_, ⟨h48_, ⟨h49_, ⟨h50_, ⟨h51_, ⟨h52_, ⟨h53_, ⟨h54_, ⟨h55_, ⟨h56_, ⟨h57_, ⟨h58_, ⟨h59_, ⟨h60_, ⟨h61_, ⟨h62_, ⟨h63_, h64_⟩⟩⟩⟩⟩⟩⟩⟩⟩⟩⟩⟩⟩⟩⟩⟩⟩⟩⟩⟩⟩⟩⟩⟩⟩⟩⟩⟩⟩⟩⟩⟩⟩⟩⟩⟩⟩⟩⟩⟩⟩⟩⟩⟩⟩⟩⟩⟩⟩⟩⟩⟩⟩⟩⟩⟩⟩⟩⟩⟩⟩⟩
  intro h65_
  have h66_ := (h65_ h50_)
  have h67_ := (h66_ h24_)
  have h68_ := (h67_ (la_delete_0 h58_))
  have h69_ := (h68_ la_delete_1)
  have h70_ := (h69_ h52_)
  have h71_ := (h70_ h53_)
  have h72_ := (h71_ h59_)
  intro h73_
  have h74_ := (h73_ h50_)
  have h75_ := (h74_ h24_)
  have h76_ := (h75_ (la_delete_2 h58_))
  have h77_ := (h76_ la_delete_3)
  have h78_ := (h77_ h52_)
  have h79_ := (h78_ h53_)
  have h80_ := (h79_ h59_)
  refine ⟨(la_delete_4 h34_ h35_ h57_ h58_), ?_⟩
  intro x4
  intro h81_
  intro x6
  intro h82_
  refine ⟨(la_delete_5 h34_ h35_ h57_ h58_), ?_⟩
  refine ⟨?_, ?_⟩
  · skip
    refine ⟨h20_, ?_⟩
    refine ⟨h21_, ?_⟩
    refine ⟨h22_, ?_⟩
    intro h83_
    refine ⟨?_, ?_⟩
    · skip
      have e84_ : S 63 (400 * (S 1092 0 - 1) + S 58 (S 1092 0 - 1) - 1 - 0) = S 63 (400 * (S 1092 0 - 1) + (S 58 (S 1092 0 - 1) - 1)) := congrArg ((S 63)) la_delete_6
      have e85_ : S 63 (400 * (S 1092 0 - 1) + S 58 (S 1092 0 - 1) - 1 - 1) = S 63 (400 * (S 1092 0 - 1) + (S 58 (S 1092 0 - 1) - 2)) := congrArg ((S 63)) la_delete_7
      have e86_ : S 64 (400 * (S 1092 0 - 1) + S 58 (S 1092 0 - 1) - 1 - 0) = S 64 (400 * (S 1092 0 - 1) + (S 58 (S 1092 0 - 1) - 1)) := congrArg ((S 64)) la_delete_6
      have e87_ : S 64 (400 * (S 1092 0 - 1) + S 58 (S 1092 0 - 1) - 1 - 1) = S 64 (400 * (S 1092 0 - 1) + (S 58 (S 1092 0 - 1) - 2)) := congrArg ((S 64)) la_delete_7
      obtain ⟨h88_, h89_⟩ := ((sm_VO_e h72_).2.2.1 (la_delete_8 h83_ e84_))
      exact (la_delete_10 e86_ h88_)
    have e90_ : S 63 (400 * (S 1092 0 - 1) + S 58 (S 1092 0 - 1) - 1 - 0) = S 63 (400 * (S 1092 0 - 1) + (S 58 (S 1092 0 - 1) - 1)) := congrArg ((S 63)) la_delete_6
    have e91_ : S 63 (400 * (S 1092 0 - 1) + S 58 (S 1092 0 - 1) - 1 - 1) = S 63 (400 * (S 1092 0 - 1) + (S 58 (S 1092 0 - 1) - 2)) := congrArg ((S 63)) la_delete_7
    have e92_ : S 64 (400 * (S 1092 0 - 1) + S 58 (S 1092 0 - 1) - 1 - 0) = S 64 (400 * (S 1092 0 - 1) + (S 58 (S 1092 0 - 1) - 1)) := congrArg ((S 64)) la_delete_6
    have e93_ : S 64 (400 * (S 1092 0 - 1) + S 58 (S 1092 0 - 1) - 1 - 1) = S 64 (400 * (S 1092 0 - 1) + (S 58 (S 1092 0 - 1) - 2)) := congrArg ((S 64)) la_delete_7
    obtain ⟨h94_, h95_⟩ := ((sm_VO_e h72_).2.2.1 (la_delete_8 h83_ e90_))
    exact (la_delete_11 e92_ h95_)
  intro r14
  intro h96_
  intro g10
  rintro ⟨h97_, ⟨h98_, ⟨h99_, ⟨h100_, ⟨h101_, ⟨h102_, h103_⟩⟩⟩⟩⟩⟩
  rintro ⟨h104_, h105_⟩
  refine ⟨?_, ?_⟩
  · skip
    intro h106_
    refine ⟨?_, ?_⟩
    · skip
      intro h107_
      refine ⟨?_, ?_⟩
      · skip
        intro s17
        intro h108_
        rintro ⟨h109_, h110_⟩
        refine ⟨?_, ?_⟩
        · skip
          intro h111_
          refine ⟨?_, ?_⟩
          · skip
            intro h112_
            have h113_ := (h109_.resolve_left h112_)
            intro g19
            rintro ⟨h114_, h115_⟩
            refine ⟨?_, ?_⟩
            · skip
              refine ⟨?_, ?_⟩
              · skip
                intro h116_
                intro h117_
                refine ⟨h5_, ?_⟩
                refine ⟨h6_, ?_⟩
                refine ⟨(sm_PV_m h7_ (Int.le_refl _) h100_ sm_F1_rf), ?_⟩
                refine ⟨h8_, ?_⟩
                refine ⟨h9_, ?_⟩
                refine ⟨h10_, ?_⟩
                refine ⟨h11_, ?_⟩
                refine ⟨h12_, ?_⟩
                refine ⟨h13_, ?_⟩
                refine ⟨h14_, ?_⟩
                refine ⟨h15_, ?_⟩
                refine ⟨h16_, ?_⟩
                refine ⟨h17_, ?_⟩
                refine ⟨h18_, ?_⟩
                refine ⟨h19_, ?_⟩
                refine ⟨(la_delete_15 h20_ h100_), ?_⟩
                refine ⟨h101_, ?_⟩
                refine ⟨h102_, ?_⟩
                refine ⟨h23_, ?_⟩
                refine ⟨h24_, ?_⟩
                refine ⟨h25_, ?_⟩
                refine ⟨h26_, ?_⟩
                refine ⟨h27_, ?_⟩
                refine ⟨h28_, ?_⟩
                refine ⟨h29_, ?_⟩
                refine ⟨h30_, ?_⟩
                refine ⟨(la_delete_16 h31_ h100_), ?_⟩
                refine ⟨h32_, ?_⟩
                refine ⟨h33_, ?_⟩
                refine ⟨h34_, ?_⟩
                refine ⟨h35_, ?_⟩
                refine ⟨h36_, ?_⟩
                refine ⟨h37_, ?_⟩
                refine ⟨h38_, ?_⟩
                refine ⟨h39_, ?_⟩
                refine ⟨h40_, ?_⟩
                refine ⟨h41_, ?_⟩
                refine ⟨h42_, ?_⟩
                refine ⟨h43_, ?_⟩
                refine ⟨(sm_VO_m h44_ (Int.le_refl _) h100_ sm_F1_rf), ?_⟩
                refine ⟨h45_, ?_⟩
                refine ⟨(sm_FL_F h46_ sm_F1_rf sm_F1_rf sm_F1_rf sm_F1_rf sm_F1_rf sm_F1_rf sm_F1_rf sm_F1_rf sm_F1_rf sm_F1_rf sm_F1_rf sm_F1_rf (Int.le_refl _) h100_ sm_F1_rf sm_F1_rf (sm_FL_dp h46_ h23_)), ?_⟩
                refine ⟨h47_, ?_⟩
                refine ⟨h48_, ?_⟩
                refine ⟨h49_, ?_⟩
                refine ⟨(sm_SK_m h50_ (Int.le_refl _) h100_ sm_F1_rf), ?_⟩
                refine ⟨h51_, ?_⟩
                refine ⟨h52_, ?_⟩
                refine ⟨h53_, ?_⟩
                refine ⟨la_delete_18, ?_⟩
                refine ⟨h58_, ?_⟩
                refine ⟨(la_delete_19 h57_), ?_⟩
                refine ⟨(sm_VO_i (la_delete_20 h114_) (la_delete_21 h114_) (la_delete_22 h20_ h100_ h115_) (la_delete_23 h19_ h114_ h115_)), ?_⟩
                refine ⟨h59_, ?_⟩
                refine ⟨h60_, ?_⟩
                refine ⟨h61_, ?_⟩
                refine ⟨(la_delete_24 h62_), ?_⟩
                refine ⟨h63_, ?_⟩
                exact h64_
              intro h118_
              have h119_ := (h99_ (la_delete_27 h106_ (la_delete_26 (la_delete_25 h106_) h118_)))
              have h120_ := (h119_ (la_delete_28 h106_ (la_delete_26 (la_delete_25 h106_) h118_)))
              have h121_ := (h120_ (la_delete_29 h106_ (la_delete_26 (la_delete_25 h106_) h118_)))
              have h122_ := (h121_ h106_)
              exact h4_
            intro g25
            rintro ⟨h123_, h124_⟩
            have h125_ := (h123_ h106_)
            obtain ⟨h126_, ⟨h127_, ⟨h128_, ⟨h129_, ⟨h130_, ⟨h131_, ⟨h132_, ⟨h133_, ⟨h134_, ⟨h135_, ⟨h136_, ⟨h137_, ⟨h138_, ⟨h139_, h140_⟩⟩⟩⟩⟩⟩⟩⟩⟩⟩⟩⟩⟩⟩ := (h125_ h3_)
            refine ⟨h5_, ?_⟩
            refine ⟨h6_, ?_⟩
            refine ⟨(sm_PV_m h7_ (Int.le_refl _) h100_ sm_F1_rf), ?_⟩
            refine ⟨h8_, ?_⟩
            refine ⟨h9_, ?_⟩
            refine ⟨h10_, ?_⟩
            refine ⟨h11_, ?_⟩
            refine ⟨h12_, ?_⟩
            refine ⟨h13_, ?_⟩
            refine ⟨h14_, ?_⟩
            refine ⟨h15_, ?_⟩
            refine ⟨h16_, ?_⟩
            refine ⟨?_, ?_⟩
            · skip
              intro h141_
              refine ⟨h17_, ?_⟩
              exact h18_
            refine ⟨h19_, ?_⟩
            refine ⟨(la_delete_15 h20_ h100_), ?_⟩
            refine ⟨h101_, ?_⟩
            refine ⟨h102_, ?_⟩
            refine ⟨(la_delete_16 h31_ h100_), ?_⟩
            refine ⟨h103_, ?_⟩
            refine ⟨(la_delete_31 h34_), ?_⟩
            refine ⟨h35_, ?_⟩
            refine ⟨h100_, ?_⟩
            refine ⟨h124_, ?_⟩
            refine ⟨h123_, ?_⟩
            exact (la_delete_32 h3_ h34_ h104_ h106_)
          intro h142_
          have h143_ := (h109_.resolve_right (la_delete_33 h142_))
          have h144_ := (h110_ h143_)
          intro g30
          rintro ⟨h145_, h146_⟩
          refine ⟨?_, ?_⟩
          · skip
            refine ⟨?_, ?_⟩
            · skip
              intro h147_
              intro h148_
              refine ⟨h5_, ?_⟩
              refine ⟨h6_, ?_⟩
              refine ⟨(sm_PV_m h7_ (Int.le_refl _) h100_ sm_F1_rf), ?_⟩
              refine ⟨h8_, ?_⟩
              refine ⟨h9_, ?_⟩
              refine ⟨h10_, ?_⟩
              refine ⟨h11_, ?_⟩
              refine ⟨h12_, ?_⟩
              refine ⟨h13_, ?_⟩
              refine ⟨h14_, ?_⟩
              refine ⟨h15_, ?_⟩
              refine ⟨h16_, ?_⟩
              refine ⟨h17_, ?_⟩
              refine ⟨h18_, ?_⟩
              refine ⟨h19_, ?_⟩
              refine ⟨(la_delete_15 h20_ h100_), ?_⟩
              refine ⟨h101_, ?_⟩
              refine ⟨h102_, ?_⟩
              refine ⟨h23_, ?_⟩
              refine ⟨h24_, ?_⟩
              refine ⟨h25_, ?_⟩
              refine ⟨h26_, ?_⟩
              refine ⟨h27_, ?_⟩
              refine ⟨h28_, ?_⟩
              refine ⟨h29_, ?_⟩
              refine ⟨h30_, ?_⟩
              refine ⟨(la_delete_16 h31_ h100_), ?_⟩
              refine ⟨h32_, ?_⟩
              refine ⟨h33_, ?_⟩
              refine ⟨h34_, ?_⟩
              refine ⟨h35_, ?_⟩
              refine ⟨h36_, ?_⟩
              refine ⟨h37_, ?_⟩
              refine ⟨h38_, ?_⟩
              refine ⟨h39_, ?_⟩
              refine ⟨h40_, ?_⟩
              refine ⟨h41_, ?_⟩
              refine ⟨h42_, ?_⟩
              refine ⟨h43_, ?_⟩
              refine ⟨(sm_VO_m h44_ (Int.le_refl _) h100_ sm_F1_rf), ?_⟩
              refine ⟨h45_, ?_⟩
              refine ⟨(sm_FL_F h46_ sm_F1_rf sm_F1_rf sm_F1_rf sm_F1_rf sm_F1_rf sm_F1_rf sm_F1_rf sm_F1_rf sm_F1_rf sm_F1_rf sm_F1_rf sm_F1_rf (Int.le_refl _) h100_ sm_F1_rf sm_F1_rf (sm_FL_dp h46_ h23_)), ?_⟩
              refine ⟨h47_, ?_⟩
              refine ⟨h48_, ?_⟩
              refine ⟨h49_, ?_⟩
              refine ⟨(sm_SK_m h50_ (Int.le_refl _) h100_ sm_F1_rf), ?_⟩
              refine ⟨h51_, ?_⟩
              refine ⟨h52_, ?_⟩
              refine ⟨h53_, ?_⟩
              refine ⟨la_delete_18, ?_⟩
              refine ⟨h58_, ?_⟩
              refine ⟨(la_delete_19 h57_), ?_⟩
              refine ⟨(sm_VO_i (la_delete_20 h145_) (la_delete_21 h145_) (la_delete_22 h20_ h100_ h146_) (la_delete_23 h19_ h145_ h146_)), ?_⟩
              refine ⟨h59_, ?_⟩
              refine ⟨h60_, ?_⟩
              refine ⟨h61_, ?_⟩
              refine ⟨(la_delete_24 h62_), ?_⟩
              refine ⟨h63_, ?_⟩
              exact h64_
            intro h149_
            have h150_ := (h99_ (la_delete_27 h106_ (la_delete_26 (la_delete_25 h106_) h149_)))
            have h151_ := (h150_ (la_delete_28 h106_ (la_delete_26 (la_delete_25 h106_) h149_)))
            have h152_ := (h151_ (la_delete_29 h106_ (la_delete_26 (la_delete_25 h106_) h149_)))
            have h153_ := (h152_ h106_)
            exact h4_
          intro g36
          rintro ⟨h154_, h155_⟩
          have h156_ := (h154_ h106_)
          obtain ⟨h157_, ⟨h158_, ⟨h159_, ⟨h160_, ⟨h161_, ⟨h162_, ⟨h163_, ⟨h164_, ⟨h165_, ⟨h166_, ⟨h167_, ⟨h168_, ⟨h169_, ⟨h170_, h171_⟩⟩⟩⟩⟩⟩⟩⟩⟩⟩⟩⟩⟩⟩ := (h156_ h3_)
          refine ⟨h5_, ?_⟩
          refine ⟨h6_, ?_⟩
          refine ⟨(sm_PV_m h7_ (Int.le_refl _) h100_ sm_F1_rf), ?_⟩
          refine ⟨h8_, ?_⟩
          refine ⟨h9_, ?_⟩
          refine ⟨h10_, ?_⟩
          refine ⟨h11_, ?_⟩
          refine ⟨h12_, ?_⟩
          refine ⟨h13_, ?_⟩
          refine ⟨h14_, ?_⟩
          refine ⟨h15_, ?_⟩
          refine ⟨h16_, ?_⟩
          refine ⟨?_, ?_⟩
          · skip
            intro h172_
            refine ⟨h17_, ?_⟩
            exact h18_
          refine ⟨h19_, ?_⟩
          refine ⟨(la_delete_15 h20_ h100_), ?_⟩
          refine ⟨h101_, ?_⟩
          refine ⟨h102_, ?_⟩
          refine ⟨(la_delete_16 h31_ h100_), ?_⟩
          refine ⟨h103_, ?_⟩
          refine ⟨(la_delete_31 h34_), ?_⟩
          refine ⟨h35_, ?_⟩
          refine ⟨h100_, ?_⟩
          refine ⟨h155_, ?_⟩
          refine ⟨h154_, ?_⟩
          exact (la_delete_32 h3_ h34_ h104_ h106_)
        intro h173_
        refine ⟨?_, ?_⟩
        · skip
          intro h174_
          have h175_ := (h109_.resolve_left h174_)
          refine ⟨?_, ?_⟩
          · skip
            intro h176_
            intro g41
            rintro ⟨h177_, h178_⟩
            refine ⟨?_, ?_⟩
            · skip
              refine ⟨?_, ?_⟩
              · skip
                intro h179_
                intro h180_
                refine ⟨h5_, ?_⟩
                refine ⟨h6_, ?_⟩
                refine ⟨(sm_PV_m h7_ (Int.le_refl _) h100_ sm_F1_rf), ?_⟩
                refine ⟨h8_, ?_⟩
                refine ⟨h9_, ?_⟩
                refine ⟨h10_, ?_⟩
                refine ⟨h11_, ?_⟩
                refine ⟨h12_, ?_⟩
                refine ⟨h13_, ?_⟩
                refine ⟨h14_, ?_⟩
                refine ⟨h15_, ?_⟩
                refine ⟨h16_, ?_⟩
                refine ⟨h17_, ?_⟩
                refine ⟨h18_, ?_⟩
                refine ⟨h19_, ?_⟩
                refine ⟨(la_delete_15 h20_ h100_), ?_⟩
                refine ⟨h101_, ?_⟩
                refine ⟨h102_, ?_⟩
                refine ⟨h23_, ?_⟩
                refine ⟨h24_, ?_⟩
                refine ⟨h25_, ?_⟩
                refine ⟨h26_, ?_⟩
                refine ⟨h27_, ?_⟩
                refine ⟨h28_, ?_⟩
                refine ⟨h29_, ?_⟩
                refine ⟨h30_, ?_⟩
                refine ⟨(la_delete_16 h31_ h100_), ?_⟩
                refine ⟨h32_, ?_⟩
                refine ⟨h33_, ?_⟩
                refine ⟨h34_, ?_⟩
                refine ⟨h35_, ?_⟩
                refine ⟨h36_, ?_⟩
                refine ⟨h37_, ?_⟩
                refine ⟨h38_, ?_⟩
                refine ⟨h39_, ?_⟩
                refine ⟨h40_, ?_⟩
                refine ⟨h41_, ?_⟩
                refine ⟨h42_, ?_⟩
                refine ⟨h43_, ?_⟩
                refine ⟨(sm_VO_m h44_ (Int.le_refl _) h100_ sm_F1_rf), ?_⟩
                refine ⟨h45_, ?_⟩
                refine ⟨(sm_FL_F h46_ sm_F1_rf sm_F1_rf sm_F1_rf sm_F1_rf sm_F1_rf sm_F1_rf sm_F1_rf sm_F1_rf sm_F1_rf sm_F1_rf sm_F1_rf sm_F1_rf (Int.le_refl _) h100_ sm_F1_rf sm_F1_rf (sm_FL_dp h46_ h23_)), ?_⟩
                refine ⟨h47_, ?_⟩
                refine ⟨h48_, ?_⟩
                refine ⟨h49_, ?_⟩
                refine ⟨(sm_SK_m h50_ (Int.le_refl _) h100_ sm_F1_rf), ?_⟩
                refine ⟨h51_, ?_⟩
                refine ⟨h52_, ?_⟩
                refine ⟨h53_, ?_⟩
                refine ⟨la_delete_18, ?_⟩
                refine ⟨h58_, ?_⟩
                refine ⟨(la_delete_19 h57_), ?_⟩
                refine ⟨(sm_VO_i (la_delete_20 h177_) (la_delete_21 h177_) (la_delete_22 h20_ h100_ h178_) (la_delete_23 h19_ h177_ h178_)), ?_⟩
                refine ⟨h59_, ?_⟩
                refine ⟨h60_, ?_⟩
                refine ⟨h61_, ?_⟩
                refine ⟨(la_delete_24 h62_), ?_⟩
                refine ⟨h63_, ?_⟩
                exact h64_
              intro h181_
              have h182_ := (h99_ (la_delete_27 h106_ (la_delete_26 (la_delete_25 h106_) h181_)))
              have h183_ := (h182_ (la_delete_28 h106_ (la_delete_26 (la_delete_25 h106_) h181_)))
              have h184_ := (h183_ (la_delete_29 h106_ (la_delete_26 (la_delete_25 h106_) h181_)))
              have h185_ := (h184_ h106_)
              exact h4_
            intro g47
            rintro ⟨h186_, h187_⟩
            have h188_ := (h186_ h106_)
            obtain ⟨h189_, ⟨h190_, ⟨h191_, ⟨h192_, ⟨h193_, ⟨h194_, ⟨h195_, ⟨h196_, ⟨h197_, ⟨h198_, ⟨h199_, ⟨h200_, ⟨h201_, ⟨h202_, h203_⟩⟩⟩⟩⟩⟩⟩⟩⟩⟩⟩⟩⟩⟩ := (h188_ h3_)
            refine ⟨h5_, ?_⟩
            refine ⟨h6_, ?_⟩
            refine ⟨(sm_PV_m h7_ (Int.le_refl _) h100_ sm_F1_rf), ?_⟩
            refine ⟨h8_, ?_⟩
            refine ⟨h9_, ?_⟩
            refine ⟨h10_, ?_⟩
            refine ⟨h11_, ?_⟩
            refine ⟨h12_, ?_⟩
            refine ⟨h13_, ?_⟩
            refine ⟨h14_, ?_⟩
            refine ⟨h15_, ?_⟩
            refine ⟨h16_, ?_⟩
            refine ⟨?_, ?_⟩
            · skip
              intro h204_
              refine ⟨h17_, ?_⟩
              exact h18_
            refine ⟨h19_, ?_⟩
            refine ⟨(la_delete_15 h20_ h100_), ?_⟩
            refine ⟨h101_, ?_⟩
            refine ⟨h102_, ?_⟩
            refine ⟨(la_delete_16 h31_ h100_), ?_⟩
            refine ⟨h103_, ?_⟩
            refine ⟨(la_delete_31 h34_), ?_⟩
            refine ⟨h35_, ?_⟩
            refine ⟨h100_, ?_⟩
            refine ⟨h187_, ?_⟩
            refine ⟨h186_, ?_⟩
            exact (la_delete_32 h3_ h34_ h104_ h106_)
          intro h205_
          intro g52
          rintro ⟨h206_, h207_⟩
          refine ⟨?_, ?_⟩
          · skip
            refine ⟨?_, ?_⟩
            · skip
              intro h208_
              intro h209_
              refine ⟨h5_, ?_⟩
              refine ⟨h6_, ?_⟩
              refine ⟨(sm_PV_m h7_ (Int.le_refl _) h100_ sm_F1_rf), ?_⟩
              refine ⟨h8_, ?_⟩
              refine ⟨h9_, ?_⟩
              refine ⟨h10_, ?_⟩
              refine ⟨h11_, ?_⟩
              refine ⟨h12_, ?_⟩
              refine ⟨h13_, ?_⟩
              refine ⟨h14_, ?_⟩
              refine ⟨h15_, ?_⟩
              refine ⟨h16_, ?_⟩
              refine ⟨h17_, ?_⟩
              refine ⟨h18_, ?_⟩
              refine ⟨h19_, ?_⟩
              refine ⟨(la_delete_15 h20_ h100_), ?_⟩
              refine ⟨h101_, ?_⟩
              refine ⟨h102_, ?_⟩
              refine ⟨h23_, ?_⟩
              refine ⟨h24_, ?_⟩
              refine ⟨h25_, ?_⟩
              refine ⟨h26_, ?_⟩
              refine ⟨h27_, ?_⟩
              refine ⟨h28_, ?_⟩
              refine ⟨h29_, ?_⟩
              refine ⟨h30_, ?_⟩
              refine ⟨(la_delete_16 h31_ h100_), ?_⟩
              refine ⟨h32_, ?_⟩
              refine ⟨h33_, ?_⟩
              refine ⟨h34_, ?_⟩
              refine ⟨h35_, ?_⟩
              refine ⟨h36_, ?_⟩
              refine ⟨h37_, ?_⟩
              refine ⟨h38_, ?_⟩
              refine ⟨h39_, ?_⟩
              refine ⟨h40_, ?_⟩
              refine ⟨h41_, ?_⟩
              refine ⟨h42_, ?_⟩
              refine ⟨h43_, ?_⟩
              refine ⟨(sm_VO_m h44_ (Int.le_refl _) h100_ sm_F1_rf), ?_⟩
              refine ⟨h45_, ?_⟩
              refine ⟨(sm_FL_F h46_ sm_F1_rf sm_F1_rf sm_F1_rf sm_F1_rf sm_F1_rf sm_F1_rf sm_F1_rf sm_F1_rf sm_F1_rf sm_F1_rf sm_F1_rf sm_F1_rf (Int.le_refl _) h100_ sm_F1_rf sm_F1_rf (sm_FL_dp h46_ h23_)), ?_⟩
              refine ⟨h47_, ?_⟩
              refine ⟨h48_, ?_⟩
              refine ⟨h49_, ?_⟩
              refine ⟨(sm_SK_m h50_ (Int.le_refl _) h100_ sm_F1_rf), ?_⟩
              refine ⟨h51_, ?_⟩
              refine ⟨h52_, ?_⟩
              refine ⟨h53_, ?_⟩
              refine ⟨la_delete_18, ?_⟩
              refine ⟨h58_, ?_⟩
              refine ⟨(la_delete_19 h57_), ?_⟩
              refine ⟨(sm_VO_i (la_delete_20 h206_) (la_delete_21 h206_) (la_delete_22 h20_ h100_ h207_) (la_delete_23 h19_ h206_ h207_)), ?_⟩
              refine ⟨h59_, ?_⟩
              refine ⟨h60_, ?_⟩
              refine ⟨h61_, ?_⟩
              refine ⟨(la_delete_24 h62_), ?_⟩
              refine ⟨h63_, ?_⟩
              exact h64_
            intro h210_
            have h211_ := (h99_ (la_delete_27 h106_ (la_delete_26 (la_delete_25 h106_) h210_)))
            have h212_ := (h211_ (la_delete_28 h106_ (la_delete_26 (la_delete_25 h106_) h210_)))
            have h213_ := (h212_ (la_delete_29 h106_ (la_delete_26 (la_delete_25 h106_) h210_)))
            have h214_ := (h213_ h106_)
            exact h4_
          intro g58
          rintro ⟨h215_, h216_⟩
          have h217_ := (h215_ h106_)
          obtain ⟨h218_, ⟨h219_, ⟨h220_, ⟨h221_, ⟨h222_, ⟨h223_, ⟨h224_, ⟨h225_, ⟨h226_, ⟨h227_, ⟨h228_, ⟨h229_, ⟨h230_, ⟨h231_, h232_⟩⟩⟩⟩⟩⟩⟩⟩⟩⟩⟩⟩⟩⟩ := (h217_ h3_)
          refine ⟨h5_, ?_⟩
          refine ⟨h6_, ?_⟩
          refine ⟨(sm_PV_m h7_ (Int.le_refl _) h100_ sm_F1_rf), ?_⟩
          refine ⟨h8_, ?_⟩
          refine ⟨h9_, ?_⟩
          refine ⟨h10_, ?_⟩
          refine ⟨h11_, ?_⟩
          refine ⟨h12_, ?_⟩
          refine ⟨h13_, ?_⟩
          refine ⟨h14_, ?_⟩
          refine ⟨h15_, ?_⟩
          refine ⟨h16_, ?_⟩
          refine ⟨?_, ?_⟩
          · skip
            intro h233_
            refine ⟨h17_, ?_⟩
            exact h18_
          refine ⟨h19_, ?_⟩
          refine ⟨(la_delete_15 h20_ h100_), ?_⟩
          refine ⟨h101_, ?_⟩
          refine ⟨h102_, ?_⟩
          refine ⟨(la_delete_16 h31_ h100_), ?_⟩
          refine ⟨h103_, ?_⟩
          refine ⟨(la_delete_31 h34_), ?_⟩
          refine ⟨h35_, ?_⟩
          refine ⟨h100_, ?_⟩
          refine ⟨h216_, ?_⟩
          refine ⟨h215_, ?_⟩
          exact (la_delete_32 h3_ h34_ h104_ h106_)
        intro h234_
        have h235_ := (h109_.resolve_right (la_delete_33 h234_))
        have h236_ := (h110_ h235_)
        have h237_ : ¬ (S 44 x6 = 2 ∧ r14 = 0) := fun q_ => h236_ ⟨(la_delete_34 h173_), q_⟩
        intro h238_
        have h239_ := (h238_ h15_)
        refine ⟨?_, ?_⟩
        · skip
          refine ⟨h5_, ?_⟩
          refine ⟨h6_, ?_⟩
          refine ⟨(sm_PV_m h7_ (Int.le_refl _) h100_ sm_F1_rf), ?_⟩
          refine ⟨h8_, ?_⟩
          refine ⟨h9_, ?_⟩
          refine ⟨h10_, ?_⟩
          refine ⟨h11_, ?_⟩
          refine ⟨h12_, ?_⟩
          refine ⟨h13_, ?_⟩
          refine ⟨h14_, ?_⟩
          refine ⟨?_, ?_⟩
          · skip
            have e240_ : S 63 (400 * (S 1092 0 - 1) + S 58 (S 1092 0 - 1) - 1 - 0) = S 63 (400 * (S 1092 0 - 1) + (S 58 (S 1092 0 - 1) - 1)) := congrArg ((S 63)) la_delete_6
            have e241_ : S 63 (400 * (S 1092 0 - 1) + S 58 (S 1092 0 - 1) - 1 - 1) = S 63 (400 * (S 1092 0 - 1) + (S 58 (S 1092 0 - 1) - 2)) := congrArg ((S 63)) la_delete_7
            have e242_ : S 64 (400 * (S 1092 0 - 1) + S 58 (S 1092 0 - 1) - 1 - 0) = S 64 (400 * (S 1092 0 - 1) + (S 58 (S 1092 0 - 1) - 1)) := congrArg ((S 64)) la_delete_6
            have e243_ : S 64 (400 * (S 1092 0 - 1) + S 58 (S 1092 0 - 1) - 1 - 1) = S 64 (400 * (S 1092 0 - 1) + (S 58 (S 1092 0 - 1) - 2)) := congrArg ((S 64)) la_delete_7
            obtain ⟨h244_, ⟨h245_, h246_⟩⟩ := ((sm_VO_e h80_).2.2.2 (la_delete_37 (sm_VO_e h80_).2.1 h81_ h173_ e241_))
            have h247_ := (h239_ (la_delete_38 h82_ e243_ h244_))
            have h248_ := (h247_ (la_delete_39 h82_ e243_ h245_))
            exact (la_delete_38 h82_ e243_ h244_)
          refine ⟨?_, ?_⟩
          · skip
            have e249_ : S 63 (400 * (S 1092 0 - 1) + S 58 (S 1092 0 - 1) - 1 - 0) = S 63 (400 * (S 1092 0 - 1) + (S 58 (S 1092 0 - 1) - 1)) := congrArg ((S 63)) la_delete_6
            have e250_ : S 63 (400 * (S 1092 0 - 1) + S 58 (S 1092 0 - 1) - 1 - 1) = S 63 (400 * (S 1092 0 - 1) + (S 58 (S 1092 0 - 1) - 2)) := congrArg ((S 63)) la_delete_7
            have e251_ : S 64 (400 * (S 1092 0 - 1) + S 58 (S 1092 0 - 1) - 1 - 0) = S 64 (400 * (S 1092 0 - 1) + (S 58 (S 1092 0 - 1) - 1)) := congrArg ((S 64)) la_delete_6
            have e252_ : S 64 (400 * (S 1092 0 - 1) + S 58 (S 1092 0 - 1) - 1 - 1) = S 64 (400 * (S 1092 0 - 1) + (S 58 (S 1092 0 - 1) - 2)) := congrArg ((S 64)) la_delete_7
            obtain ⟨h253_, ⟨h254_, h255_⟩⟩ := ((sm_VO_e h80_).2.2.2 (la_delete_37 (sm_VO_e h80_).2.1 h81_ h173_ e250_))
            have h256_ := (h239_ (la_delete_38 h82_ e252_ h253_))
            have h257_ := (h256_ (la_delete_39 h82_ e252_ h254_))
            exact (la_delete_39 h82_ e252_ h254_)
          refine ⟨h237_, ?_⟩
          have e258_ : S 63 (400 * (S 1092 0 - 1) + S 58 (S 1092 0 - 1) - 1 - 0) = S 63 (400 * (S 1092 0 - 1) + (S 58 (S 1092 0 - 1) - 1)) := congrArg ((S 63)) la_delete_6
          have e259_ : S 63 (400 * (S 1092 0 - 1) + S 58 (S 1092 0 - 1) - 1 - 1) = S 63 (400 * (S 1092 0 - 1) + (S 58 (S 1092 0 - 1) - 2)) := congrArg ((S 63)) la_delete_7
          have e260_ : S 64 (400 * (S 1092 0 - 1) + S 58 (S 1092 0 - 1) - 1 - 0) = S 64 (400 * (S 1092 0 - 1) + (S 58 (S 1092 0 - 1) - 1)) := congrArg ((S 64)) la_delete_6
          have e261_ : S 64 (400 * (S 1092 0 - 1) + S 58 (S 1092 0 - 1) - 1 - 1) = S 64 (400 * (S 1092 0 - 1) + (S 58 (S 1092 0 - 1) - 2)) := congrArg ((S 64)) la_delete_7
          obtain ⟨h262_, ⟨h263_, h264_⟩⟩ := ((sm_VO_e h80_).2.2.2 (la_delete_37 (sm_VO_e h80_).2.1 h81_ h173_ e259_))
          have h265_ := (h239_ (la_delete_38 h82_ e261_ h262_))
          have h266_ := (h265_ (la_delete_39 h82_ e261_ h263_))
          have e267_ : S 44 x6 = S 44 (S 64 (400 * (S 1092 0 - 1) + (S 58 (S 1092 0 - 1) - 2))) := congrArg ((S 44)) (la_delete_40 h82_ e261_)
          exact (la_delete_41 h264_ h266_ e267_)
        intro g65
        rintro ⟨h268_, ⟨h269_, ⟨h270_, ⟨h271_, ⟨h272_, ⟨h273_, ⟨h274_, ⟨h275_, ⟨h276_, h277_⟩⟩⟩⟩⟩⟩⟩⟩⟩
        refine ⟨?_, ?_⟩
        · skip
          intro h278_
          intro g70
          rintro ⟨h279_, h280_⟩
          refine ⟨?_, ?_⟩
          · skip
            refine ⟨?_, ?_⟩
            · skip
              intro h281_
              intro h282_
              refine ⟨h268_, ?_⟩
              refine ⟨h269_, ?_⟩
              refine ⟨h270_, ?_⟩
              refine ⟨h271_, ?_⟩
              refine ⟨h272_, ?_⟩
              refine ⟨h10_, ?_⟩
              refine ⟨h11_, ?_⟩
              refine ⟨h275_, ?_⟩
              refine ⟨h276_, ?_⟩
              refine ⟨h14_, ?_⟩
              refine ⟨h15_, ?_⟩
              refine ⟨h16_, ?_⟩
              refine ⟨h17_, ?_⟩
              refine ⟨h18_, ?_⟩
              refine ⟨h19_, ?_⟩
              refine ⟨(la_delete_15 h20_ h100_), ?_⟩
              refine ⟨h101_, ?_⟩
              refine ⟨h102_, ?_⟩
              refine ⟨h23_, ?_⟩
              refine ⟨h24_, ?_⟩
              refine ⟨h25_, ?_⟩
              refine ⟨h26_, ?_⟩
              refine ⟨h27_, ?_⟩
              refine ⟨h28_, ?_⟩
              refine ⟨h29_, ?_⟩
              refine ⟨h30_, ?_⟩
              refine ⟨(la_delete_16 h31_ h100_), ?_⟩
              refine ⟨h32_, ?_⟩
              refine ⟨h33_, ?_⟩
              refine ⟨h34_, ?_⟩
              refine ⟨h35_, ?_⟩
              refine ⟨h36_, ?_⟩
              refine ⟨h37_, ?_⟩
              refine ⟨h38_, ?_⟩
              refine ⟨h39_, ?_⟩
              refine ⟨h40_, ?_⟩
              refine ⟨h41_, ?_⟩
              refine ⟨h42_, ?_⟩
              refine ⟨h43_, ?_⟩
              refine ⟨(sm_VO_m h44_ (Int.le_refl _) h100_ sm_F1_rf), ?_⟩
              refine ⟨h45_, ?_⟩
              refine ⟨(sm_FL_F h46_ sm_F1_rf sm_F1_rf sm_F1_rf sm_F1_rf sm_F1_rf sm_F1_rf sm_F1_rf sm_F1_rf sm_F1_rf sm_F1_rf sm_F1_rf sm_F1_rf (Int.le_refl _) h100_ sm_F1_rf sm_F1_rf (sm_FL_dp h46_ h23_)), ?_⟩
              refine ⟨h47_, ?_⟩
              refine ⟨h48_, ?_⟩
              refine ⟨h49_, ?_⟩
              refine ⟨(sm_SK_m h50_ (Int.le_refl _) h100_ sm_F1_rf), ?_⟩
              refine ⟨h51_, ?_⟩
              refine ⟨h52_, ?_⟩
              refine ⟨h53_, ?_⟩
              refine ⟨la_delete_18, ?_⟩
              refine ⟨h58_, ?_⟩
              refine ⟨(la_delete_19 h57_), ?_⟩
              refine ⟨(sm_VO_i (la_delete_20 h279_) (la_delete_21 h279_) (la_delete_22 h20_ h100_ h280_) (la_delete_23 h19_ h279_ h280_)), ?_⟩
              refine ⟨h59_, ?_⟩
              refine ⟨h60_, ?_⟩
              refine ⟨h61_, ?_⟩
              refine ⟨(la_delete_24 h62_), ?_⟩
              refine ⟨h63_, ?_⟩
              exact h64_
            intro h283_
            have h284_ := (h99_ (la_delete_27 h106_ (la_delete_26 (la_delete_25 h106_) h283_)))
            have h285_ := (h284_ (la_delete_28 h106_ (la_delete_26 (la_delete_25 h106_) h283_)))
            have h286_ := (h285_ (la_delete_29 h106_ (la_delete_26 (la_delete_25 h106_) h283_)))
            have h287_ := (h286_ h106_)
            exact h4_
          intro g76
          rintro ⟨h288_, h289_⟩
          have h290_ := (h288_ h106_)
          obtain ⟨h291_, ⟨h292_, ⟨h293_, ⟨h294_, ⟨h295_, ⟨h296_, ⟨h297_, ⟨h298_, ⟨h299_, ⟨h300_, ⟨h301_, ⟨h302_, ⟨h303_, ⟨h304_, h305_⟩⟩⟩⟩⟩⟩⟩⟩⟩⟩⟩⟩⟩⟩ := (h290_ h3_)
          refine ⟨h268_, ?_⟩
          refine ⟨h269_, ?_⟩
          refine ⟨h270_, ?_⟩
          refine ⟨h271_, ?_⟩
          refine ⟨h272_, ?_⟩
          refine ⟨h10_, ?_⟩
          refine ⟨h11_, ?_⟩
          refine ⟨h275_, ?_⟩
          refine ⟨h276_, ?_⟩
          refine ⟨h14_, ?_⟩
          refine ⟨h15_, ?_⟩
          refine ⟨h16_, ?_⟩
          refine ⟨?_, ?_⟩
          · skip
            intro h306_
            refine ⟨h17_, ?_⟩
            exact h18_
          refine ⟨h19_, ?_⟩
          refine ⟨(la_delete_15 h20_ h100_), ?_⟩
          refine ⟨h101_, ?_⟩
          refine ⟨h102_, ?_⟩
          refine ⟨(la_delete_16 h31_ h100_), ?_⟩
          refine ⟨h103_, ?_⟩
          refine ⟨(la_delete_31 h34_), ?_⟩
          refine ⟨h35_, ?_⟩
          refine ⟨h100_, ?_⟩
          refine ⟨h289_, ?_⟩
          refine ⟨h288_, ?_⟩
          exact (la_delete_32 h3_ h34_ h104_ h106_)
        intro h307_
        intro g81
        rintro ⟨h308_, h309_⟩
        refine ⟨?_, ?_⟩
        · skip
          refine ⟨?_, ?_⟩
          · skip
            intro h310_
            intro h311_
            refine ⟨h268_, ?_⟩
            refine ⟨h269_, ?_⟩
            refine ⟨h270_, ?_⟩
            refine ⟨h271_, ?_⟩
            refine ⟨h272_, ?_⟩
            refine ⟨h10_, ?_⟩
            refine ⟨h11_, ?_⟩
            refine ⟨h275_, ?_⟩
            refine ⟨h276_, ?_⟩
            refine ⟨h14_, ?_⟩
            refine ⟨h15_, ?_⟩
            refine ⟨h16_, ?_⟩
            refine ⟨h17_, ?_⟩
            refine ⟨h18_, ?_⟩
            refine ⟨h19_, ?_⟩
            refine ⟨(la_delete_15 h20_ h100_), ?_⟩
            refine ⟨h101_, ?_⟩
            refine ⟨h102_, ?_⟩
            refine ⟨h23_, ?_⟩
            refine ⟨h24_, ?_⟩
            refine ⟨h25_, ?_⟩
            refine ⟨h26_, ?_⟩
            refine ⟨h27_, ?_⟩
            refine ⟨h28_, ?_⟩
            refine ⟨h29_, ?_⟩
            refine ⟨h30_, ?_⟩
            refine ⟨(la_delete_16 h31_ h100_), ?_⟩
            refine ⟨h32_, ?_⟩
            refine ⟨h33_, ?_⟩
            refine ⟨h34_, ?_⟩
            refine ⟨h35_, ?_⟩
            refine ⟨h36_, ?_⟩
            refine ⟨h37_, ?_⟩
            refine ⟨h38_, ?_⟩
            refine ⟨h39_, ?_⟩
            refine ⟨h40_, ?_⟩
            refine ⟨h41_, ?_⟩
            refine ⟨h42_, ?_⟩
            refine ⟨h43_, ?_⟩
            refine ⟨(sm_VO_m h44_ (Int.le_refl _) h100_ sm_F1_rf), ?_⟩
            refine ⟨h45_, ?_⟩
            refine ⟨(sm_FL_F h46_ sm_F1_rf sm_F1_rf sm_F1_rf sm_F1_rf sm_F1_rf sm_F1_rf sm_F1_rf sm_F1_rf sm_F1_rf sm_F1_rf sm_F1_rf sm_F1_rf (Int.le_refl _) h100_ sm_F1_rf sm_F1_rf (sm_FL_dp h46_ h23_)), ?_⟩
            refine ⟨h47_, ?_⟩
            refine ⟨h48_, ?_⟩
            refine ⟨h49_, ?_⟩
            refine ⟨(sm_SK_m h50_ (Int.le_refl _) h100_ sm_F1_rf), ?_⟩
            refine ⟨h51_, ?_⟩
            refine ⟨h52_, ?_⟩
            refine ⟨h53_, ?_⟩
            refine ⟨la_delete_18, ?_⟩
            refine ⟨h58_, ?_⟩
            refine ⟨(la_delete_19 h57_), ?_⟩
            refine ⟨(sm_VO_i (la_delete_20 h308_) (la_delete_21 h308_) (la_delete_22 h20_ h100_ h309_) (la_delete_23 h19_ h308_ h309_)), ?_⟩
            refine ⟨h59_, ?_⟩
            refine ⟨h60_, ?_⟩
            refine ⟨h61_, ?_⟩
            refine ⟨(la_delete_24 h62_), ?_⟩
            refine ⟨h63_, ?_⟩
            exact h64_
          intro h312_
          have h313_ := (h99_ (la_delete_27 h106_ (la_delete_26 (la_delete_25 h106_) h312_)))
          have h314_ := (h313_ (la_delete_28 h106_ (la_delete_26 (la_delete_25 h106_) h312_)))
          have h315_ := (h314_ (la_delete_29 h106_ (la_delete_26 (la_delete_25 h106_) h312_)))
          have h316_ := (h315_ h106_)
          exact h4_
        intro g87
        rintro ⟨h317_, h318_⟩
        have h319_ := (h317_ h106_)
        obtain ⟨h320_, ⟨h321_, ⟨h322_, ⟨h323_, ⟨h324_, ⟨h325_, ⟨h326_, ⟨h327_, ⟨h328_, ⟨h329_, ⟨h330_, ⟨h331_, ⟨h332_, ⟨h333_, h334_⟩⟩⟩⟩⟩⟩⟩⟩⟩⟩⟩⟩⟩⟩ := (h319_ h3_)
        refine ⟨h268_, ?_⟩
        refine ⟨h269_, ?_⟩
        refine ⟨h270_, ?_⟩
        refine ⟨h271_, ?_⟩
        refine ⟨h272_, ?_⟩
        refine ⟨h10_, ?_⟩
        refine ⟨h11_, ?_⟩
        refine ⟨h275_, ?_⟩
        refine ⟨h276_, ?_⟩
        refine ⟨h14_, ?_⟩
        refine ⟨h15_, ?_⟩
        refine ⟨h16_, ?_⟩
        refine ⟨?_, ?_⟩
        · skip
          intro h335_
          refine ⟨h17_, ?_⟩
          exact h18_
        refine ⟨h19_, ?_⟩
        refine ⟨(la_delete_15 h20_ h100_), ?_⟩
        refine ⟨h101_, ?_⟩
        refine ⟨h102_, ?_⟩
        refine ⟨(la_delete_16 h31_ h100_), ?_⟩
        refine ⟨h103_, ?_⟩
        refine ⟨(la_delete_31 h34_), ?_⟩
        refine ⟨h35_, ?_⟩
        refine ⟨h100_, ?_⟩
        refine ⟨h318_, ?_⟩
        refine ⟨h317_, ?_⟩
        exact (la_delete_32 h3_ h34_ h104_ h106_)
      refine ⟨la_delete_43, ?_⟩
      intro h336_
      refine ⟨?_, ?_⟩
      · skip
        refine ⟨?_, ?_⟩
        · skip
          have e337_ : S 63 (400 * (S 1092 0 - 1) + S 58 (S 1092 0 - 1) - 1 - 0) = S 63 (400 * (S 1092 0 - 1) + (S 58 (S 1092 0 - 1) - 1)) := congrArg ((S 63)) la_delete_6
          have e338_ : S 63 (400 * (S 1092 0 - 1) + S 58 (S 1092 0 - 1) - 1 - 1) = S 63 (400 * (S 1092 0 - 1) + (S 58 (S 1092 0 - 1) - 2)) := congrArg ((S 63)) la_delete_7
          have e339_ : S 64 (400 * (S 1092 0 - 1) + S 58 (S 1092 0 - 1) - 1 - 0) = S 64 (400 * (S 1092 0 - 1) + (S 58 (S 1092 0 - 1) - 1)) := congrArg ((S 64)) la_delete_6
          have e340_ : S 64 (400 * (S 1092 0 - 1) + S 58 (S 1092 0 - 1) - 1 - 1) = S 64 (400 * (S 1092 0 - 1) + (S 58 (S 1092 0 - 1) - 2)) := congrArg ((S 64)) la_delete_7
          obtain ⟨h341_, ⟨h342_, h343_⟩⟩ := ((sm_VO_e h80_).2.2.2 (la_delete_37 (sm_VO_e h80_).2.1 h81_ h336_ e338_))
          exact (la_delete_38 h82_ e340_ h341_)
        have e344_ : S 63 (400 * (S 1092 0 - 1) + S 58 (S 1092 0 - 1) - 1 - 0) = S 63 (400 * (S 1092 0 - 1) + (S 58 (S 1092 0 - 1) - 1)) := congrArg ((S 63)) la_delete_6
        have e345_ : S 63 (400 * (S 1092 0 - 1) + S 58 (S 1092 0 - 1) - 1 - 1) = S 63 (400 * (S 1092 0 - 1) + (S 58 (S 1092 0 - 1) - 2)) := congrArg ((S 63)) la_delete_7
        have e346_ : S 64 (400 * (S 1092 0 - 1) + S 58 (S 1092 0 - 1) - 1 - 0) = S 64 (400 * (S 1092 0 - 1) + (S 58 (S 1092 0 - 1) - 1)) := congrArg ((S 64)) la_delete_6
        have e347_ : S 64 (400 * (S 1092 0 - 1) + S 58 (S 1092 0 - 1) - 1 - 1) = S 64 (400 * (S 1092 0 - 1) + (S 58 (S 1092 0 - 1) - 2)) := congrArg ((S 64)) la_delete_7
        obtain ⟨h348_, ⟨h349_, h350_⟩⟩ := ((sm_VO_e h80_).2.2.2 (la_delete_37 (sm_VO_e h80_).2.1 h81_ h336_ e345_))
        exact (la_delete_44 h11_ h82_ e347_ h349_)
      intro h351_
      refine ⟨la_delete_45, ?_⟩
      intro h352_
      refine ⟨la_delete_46, ?_⟩
      intro h353_
      refine ⟨la_delete_47, ?_⟩
      intro h354_
      exact (la_delete_48 h354_)
    intro h355_
    refine ⟨?_, ?_⟩
    · skip
      refine ⟨h106_, ?_⟩
      refine ⟨h3_, ?_⟩
      refine ⟨h4_, ?_⟩
      refine ⟨h5_, ?_⟩
      refine ⟨h6_, ?_⟩
      refine ⟨(sm_PV_m h7_ (Int.le_refl _) h100_ sm_F1_rf), ?_⟩
      refine ⟨h8_, ?_⟩
      refine ⟨h9_, ?_⟩
      refine ⟨h10_, ?_⟩
      refine ⟨h11_, ?_⟩
      refine ⟨h12_, ?_⟩
      refine ⟨h13_, ?_⟩
      refine ⟨h14_, ?_⟩
      refine ⟨h15_, ?_⟩
      refine ⟨h16_, ?_⟩
      refine ⟨h17_, ?_⟩
      refine ⟨h18_, ?_⟩
      refine ⟨h19_, ?_⟩
      refine ⟨(la_delete_15 h20_ h100_), ?_⟩
      refine ⟨h101_, ?_⟩
      refine ⟨h102_, ?_⟩
      refine ⟨h23_, ?_⟩
      refine ⟨h24_, ?_⟩
      refine ⟨h25_, ?_⟩
      refine ⟨h26_, ?_⟩
      refine ⟨h27_, ?_⟩
      refine ⟨h28_, ?_⟩
      refine ⟨h29_, ?_⟩
      refine ⟨h30_, ?_⟩
      refine ⟨(la_delete_16 h31_ h100_), ?_⟩
      refine ⟨h32_, ?_⟩
      refine ⟨h33_, ?_⟩
      refine ⟨h34_, ?_⟩
      refine ⟨h35_, ?_⟩
      refine ⟨(la_delete_49 h36_ h47_), ?_⟩
      refine ⟨(la_delete_50 h47_ h60_), ?_⟩
      refine ⟨?_, ?_⟩
      · skip
        have e356_ : S 29 (S 57 (S 1092 0 - 1)) = S 29 (S 1100033 0) := congrArg ((S 29)) h47_
        have e357_ : S 63 (400 * (S 1092 0 - 1) + S 58 (S 1092 0 - 1) - 1 - 0) = S 63 (400 * (S 1092 0 - 1) + (S 58 (S 1092 0 - 1) - 1)) := congrArg ((S 63)) la_delete_6
        have e358_ : S 63 (400 * (S 1092 0 - 1) + S 58 (S 1092 0 - 1) - 1 - 1) = S 63 (400 * (S 1092 0 - 1) + (S 58 (S 1092 0 - 1) - 2)) := congrArg ((S 63)) la_delete_7
        have e359_ : S 64 (400 * (S 1092 0 - 1) + S 58 (S 1092 0 - 1) - 1 - 0) = S 64 (400 * (S 1092 0 - 1) + (S 58 (S 1092 0 - 1) - 1)) := congrArg ((S 64)) la_delete_6
        have e360_ : S 64 (400 * (S 1092 0 - 1) + S 58 (S 1092 0 - 1) - 1 - 1) = S 64 (400 * (S 1092 0 - 1) + (S 58 (S 1092 0 - 1) - 2)) := congrArg ((S 64)) la_delete_7
        exact (la_delete_53 h38_ e356_)
      refine ⟨h39_, ?_⟩
      refine ⟨h40_, ?_⟩
      refine ⟨?_, ?_⟩
      · skip
        have e361_ : S 1100023 (S 57 (S 1092 0 - 1)) = S 1100023 (S 1100033 0) := congrArg ((S 1100023)) h47_
        have e362_ : S 63 (400 * (S 1092 0 - 1) + S 58 (S 1092 0 - 1) - 1 - 0) = S 63 (400 * (S 1092 0 - 1) + (S 58 (S 1092 0 - 1) - 1)) := congrArg ((S 63)) la_delete_6
        have e363_ : S 63 (400 * (S 1092 0 - 1) + S 58 (S 1092 0 - 1) - 1 - 1) = S 63 (400 * (S 1092 0 - 1) + (S 58 (S 1092 0 - 1) - 2)) := congrArg ((S 63)) la_delete_7
        have e364_ : S 64 (400 * (S 1092 0 - 1) + S 58 (S 1092 0 - 1) - 1 - 0) = S 64 (400 * (S 1092 0 - 1) + (S 58 (S 1092 0 - 1) - 1)) := congrArg ((S 64)) la_delete_6
        have e365_ : S 64 (400 * (S 1092 0 - 1) + S 58 (S 1092 0 - 1) - 1 - 1) = S 64 (400 * (S 1092 0 - 1) + (S 58 (S 1092 0 - 1) - 2)) := congrArg ((S 64)) la_delete_7
        have e366_ : sm_dp (S 1100024) (S 1100023 (S 57 (S 1092 0 - 1))) = sm_dp (S 1100024) (S 1100023 (S 1100033 0)) := congrArg ((sm_dp (S 1100024))) e361_
        exact (la_delete_54 h41_ e366_)
      refine ⟨?_, ?_⟩
      · skip
        have e367_ : S 1100023 (S 57 (S 1092 0 - 1)) = S 1100023 (S 1100033 0) := congrArg ((S 1100023)) h47_
        have e368_ : S 63 (400 * (S 1092 0 - 1) + S 58 (S 1092 0 - 1) - 1 - 0) = S 63 (400 * (S 1092 0 - 1) + (S 58 (S 1092 0 - 1) - 1)) := congrArg ((S 63)) la_delete_6
        have e369_ : S 63 (400 * (S 1092 0 - 1) + S 58 (S 1092 0 - 1) - 1 - 1) = S 63 (400 * (S 1092 0 - 1) + (S 58 (S 1092 0 - 1) - 2)) := congrArg ((S 63)) la_delete_7
        have e370_ : S 64 (400 * (S 1092 0 - 1) + S 58 (S 1092 0 - 1) - 1 - 0) = S 64 (400 * (S 1092 0 - 1) + (S 58 (S 1092 0 - 1) - 1)) := congrArg ((S 64)) la_delete_6
        have e371_ : S 64 (400 * (S 1092 0 - 1) + S 58 (S 1092 0 - 1) - 1 - 1) = S 64 (400 * (S 1092 0 - 1) + (S 58 (S 1092 0 - 1) - 2)) := congrArg ((S 64)) la_delete_7
        exact (sm_TC_t h42_ (la_delete_55 e367_))
      refine ⟨h43_, ?_⟩
      refine ⟨(sm_VO_m h44_ (Int.le_refl _) h100_ sm_F1_rf), ?_⟩
      refine ⟨h45_, ?_⟩
      refine ⟨(sm_FL_F h46_ sm_F1_rf sm_F1_rf sm_F1_rf sm_F1_rf sm_F1_rf sm_F1_rf sm_F1_rf sm_F1_rf sm_F1_rf sm_F1_rf sm_F1_rf sm_F1_rf (Int.le_refl _) h100_ sm_F1_rf sm_F1_rf (sm_FL_dp h46_ h23_)), ?_⟩
      refine ⟨?_, ?_⟩
      · skip
        have e372_ : S 1100007 (S 57 (S 1092 0 - 1)) = S 1100007 (S 1100033 0) := congrArg ((S 1100007)) h47_
        have e373_ : S 63 (400 * (S 1092 0 - 1) + S 58 (S 1092 0 - 1) - 1 - 0) = S 63 (400 * (S 1092 0 - 1) + (S 58 (S 1092 0 - 1) - 1)) := congrArg ((S 63)) la_delete_6
        have e374_ : S 63 (400 * (S 1092 0 - 1) + S 58 (S 1092 0 - 1) - 1 - 1) = S 63 (400 * (S 1092 0 - 1) + (S 58 (S 1092 0 - 1) - 2)) := congrArg ((S 63)) la_delete_7
        have e375_ : S 64 (400 * (S 1092 0 - 1) + S 58 (S 1092 0 - 1) - 1 - 0) = S 64 (400 * (S 1092 0 - 1) + (S 58 (S 1092 0 - 1) - 1)) := congrArg ((S 64)) la_delete_6
        have e376_ : S 64 (400 * (S 1092 0 - 1) + S 58 (S 1092 0 - 1) - 1 - 1) = S 64 (400 * (S 1092 0 - 1) + (S 58 (S 1092 0 - 1) - 2)) := congrArg ((S 64)) la_delete_7
        exact (la_delete_54 h54_ e372_)
      refine ⟨?_, ?_⟩
      · skip
        have e377_ : S 1100025 (S 57 (S 1092 0 - 1)) = S 1100025 (S 1100033 0) := congrArg ((S 1100025)) h47_
        have e378_ : S 63 (400 * (S 1092 0 - 1) + S 58 (S 1092 0 - 1) - 1 - 0) = S 63 (400 * (S 1092 0 - 1) + (S 58 (S 1092 0 - 1) - 1)) := congrArg ((S 63)) la_delete_6
        have e379_ : S 63 (400 * (S 1092 0 - 1) + S 58 (S 1092 0 - 1) - 1 - 1) = S 63 (400 * (S 1092 0 - 1) + (S 58 (S 1092 0 - 1) - 2)) := congrArg ((S 63)) la_delete_7
        have e380_ : S 64 (400 * (S 1092 0 - 1) + S 58 (S 1092 0 - 1) - 1 - 0) = S 64 (400 * (S 1092 0 - 1) + (S 58 (S 1092 0 - 1) - 1)) := congrArg ((S 64)) la_delete_6
        have e381_ : S 64 (400 * (S 1092 0 - 1) + S 58 (S 1092 0 - 1) - 1 - 1) = S 64 (400 * (S 1092 0 - 1) + (S 58 (S 1092 0 - 1) - 2)) := congrArg ((S 64)) la_delete_7
        exact (sm_SK_q (sm_SK_m h50_ (Int.le_refl _) h100_ sm_F1_rf) (la_delete_57 h55_ e377_) rfl rfl)
      refine ⟨?_, ?_⟩
      · skip
        intro h382_
        have e383_ : S 1100023 (S 57 (S 1092 0 - 1)) = S 1100023 (S 1100033 0) := congrArg ((S 1100023)) h47_
        have e384_ : S 63 (400 * (S 1092 0 - 1) + S 58 (S 1092 0 - 1) - 1 - 0) = S 63 (400 * (S 1092 0 - 1) + (S 58 (S 1092 0 - 1) - 1)) := congrArg ((S 63)) la_delete_6
        have e385_ : S 63 (400 * (S 1092 0 - 1) + S 58 (S 1092 0 - 1) - 1 - 1) = S 63 (400 * (S 1092 0 - 1) + (S 58 (S 1092 0 - 1) - 2)) := congrArg ((S 63)) la_delete_7
        have e386_ : S 64 (400 * (S 1092 0 - 1) + S 58 (S 1092 0 - 1) - 1 - 0) = S 64 (400 * (S 1092 0 - 1) + (S 58 (S 1092 0 - 1) - 1)) := congrArg ((S 64)) la_delete_6
        have e387_ : S 64 (400 * (S 1092 0 - 1) + S 58 (S 1092 0 - 1) - 1 - 1) = S 64 (400 * (S 1092 0 - 1) + (S 58 (S 1092 0 - 1) - 2)) := congrArg ((S 64)) la_delete_7
        have h388_ := (h56_ (la_delete_58 h382_ e383_))
        have e389_ : S 1100007 (S 1100023 (S 57 (S 1092 0 - 1))) = S 1100007 (S 1100023 (S 1100033 0)) := congrArg ((S 1100007)) e383_
        exact (la_delete_59 h388_ e389_)
      refine ⟨la_delete_60, ?_⟩
      exact la_delete_61
    intro g96
    rintro ⟨h390_, ⟨h391_, ⟨h392_, ⟨h393_, ⟨h394_, ⟨h395_, ⟨h396_, ⟨h397_, ⟨h398_, ⟨h399_, ⟨h400_, ⟨h401_, ⟨h402_, ⟨h403_, ⟨h404_, ⟨h405_, ⟨h406_, ⟨h407_, ⟨h408_, ⟨h409_, ⟨h410_, ⟨h411_, ⟨h412_, ⟨h413_, ⟨h414_, h415_⟩⟩⟩⟩⟩⟩⟩⟩⟩⟩⟩⟩⟩⟩⟩⟩⟩⟩⟩⟩⟩⟩⟩⟩⟩
    refine ⟨h390_, ?_⟩
    refine ⟨h6_, ?_⟩
    refine ⟨h392_, ?_⟩
    refine ⟨h393_, ?_⟩
    refine ⟨h394_, ?_⟩
    refine ⟨h395_, ?_⟩
    refine ⟨h396_, ?_⟩
    refine ⟨h12_, ?_⟩
    refine ⟨h13_, ?_⟩
    refine ⟨h14_, ?_⟩
    refine ⟨h400_, ?_⟩
    refine ⟨h401_, ?_⟩
    refine ⟨h402_, ?_⟩
    refine ⟨h403_, ?_⟩
    refine ⟨h404_, ?_⟩
    refine ⟨h101_, ?_⟩
    refine ⟨h102_, ?_⟩
    refine ⟨h407_, ?_⟩
    refine ⟨(la_delete_62 h2_), ?_⟩
    refine ⟨h409_, ?_⟩
    refine ⟨h410_, ?_⟩
    refine ⟨h100_, ?_⟩
    refine ⟨h412_, ?_⟩
    refine ⟨h413_, ?_⟩
    exact h414_
  intro h416_
  refine ⟨h5_, ?_⟩
  refine ⟨h6_, ?_⟩
  refine ⟨(sm_PV_m h7_ (Int.le_refl _) h100_ sm_F1_rf), ?_⟩
  refine ⟨h8_, ?_⟩
  refine ⟨h9_, ?_⟩
  refine ⟨h10_, ?_⟩
  refine ⟨h11_, ?_⟩
  refine ⟨h12_, ?_⟩
  refine ⟨h13_, ?_⟩
  refine ⟨h14_, ?_⟩
  refine ⟨h15_, ?_⟩
  refine ⟨h16_, ?_⟩
  refine ⟨?_, ?_⟩
  · skip
    intro h417_
    have h418_ := (h99_ (la_delete_63 (la_delete_14 h104_ h416_) h417_))
    have h419_ := (h418_ (la_delete_64 (la_delete_14 h104_ h416_) h417_))
    have h420_ := (h419_ (la_delete_65 (la_delete_14 h104_ h416_) h417_))
    have h421_ := (h420_ h417_)
    refine ⟨h17_, ?_⟩
    exact h18_
  refine ⟨h19_, ?_⟩
  refine ⟨(la_delete_15 h20_ h100_), ?_⟩
  refine ⟨h101_, ?_⟩
  refine ⟨h102_, ?_⟩
  refine ⟨(la_delete_16 h31_ h100_), ?_⟩
  refine ⟨h103_, ?_⟩
  refine ⟨(la_delete_31 h34_), ?_⟩
  refine ⟨h35_, ?_⟩
  refine ⟨h100_, ?_⟩
  refine ⟨?_, ?_⟩
  · skip
    intro h422_
    exact h4_
  refine ⟨?_, ?_⟩
  · skip
    intro h423_
    have h424_ := (h99_ (la_delete_63 (la_delete_14 h104_ h416_) h423_))
    have h425_ := (h424_ (la_delete_64 (la_delete_14 h104_ h416_) h423_))
    have h426_ := (h425_ (la_delete_65 (la_delete_14 h104_ h416_) h423_))
    have h427_ := (h426_ h423_)
    intro h428_
    refine ⟨h34_, ?_⟩
    refine ⟨h35_, ?_⟩
    refine ⟨(la_delete_49 h36_ h47_), ?_⟩
    refine ⟨(la_delete_50 h47_ h60_), ?_⟩
    refine ⟨?_, ?_⟩
    · skip
      have e429_ : S 29 (S 57 (S 1092 0 - 1)) = S 29 (S 1100033 0) := congrArg ((S 29)) h47_
      have e430_ : S 63 (400 * (S 1092 0 - 1) + S 58 (S 1092 0 - 1) - 1 - 1) = S 63 (400 * (S 1092 0 - 1) + (S 58 (S 1092 0 - 1) - 2)) := congrArg ((S 63)) la_delete_7
      have e431_ : S 64 (400 * (S 1092 0 - 1) + S 58 (S 1092 0 - 1) - 1 - 1) = S 64 (400 * (S 1092 0 - 1) + (S 58 (S 1092 0 - 1) - 2)) := congrArg ((S 64)) la_delete_7
      exact (la_delete_53 h38_ e429_)
    refine ⟨h39_, ?_⟩
    refine ⟨h40_, ?_⟩
    refine ⟨?_, ?_⟩
    · skip
      have e432_ : S 1100023 (S 57 (S 1092 0 - 1)) = S 1100023 (S 1100033 0) := congrArg ((S 1100023)) h47_
      have e433_ : S 63 (400 * (S 1092 0 - 1) + S 58 (S 1092 0 - 1) - 1 - 1) = S 63 (400 * (S 1092 0 - 1) + (S 58 (S 1092 0 - 1) - 2)) := congrArg ((S 63)) la_delete_7
      have e434_ : S 64 (400 * (S 1092 0 - 1) + S 58 (S 1092 0 - 1) - 1 - 1) = S 64 (400 * (S 1092 0 - 1) + (S 58 (S 1092 0 - 1) - 2)) := congrArg ((S 64)) la_delete_7
      have e435_ : sm_dp (S 1100024) (S 1100023 (S 57 (S 1092 0 - 1))) = sm_dp (S 1100024) (S 1100023 (S 1100033 0)) := congrArg ((sm_dp (S 1100024))) e432_
      exact (la_delete_54 h41_ e435_)
    refine ⟨?_, ?_⟩
    · skip
      have e436_ : S 1100023 (S 57 (S 1092 0 - 1)) = S 1100023 (S 1100033 0) := congrArg ((S 1100023)) h47_
      have e437_ : S 63 (400 * (S 1092 0 - 1) + S 58 (S 1092 0 - 1) - 1 - 1) = S 63 (400 * (S 1092 0 - 1) + (S 58 (S 1092 0 - 1) - 2)) := congrArg ((S 63)) la_delete_7
      have e438_ : S 64 (400 * (S 1092 0 - 1) + S 58 (S 1092 0 - 1) - 1 - 1) = S 64 (400 * (S 1092 0 - 1) + (S 58 (S 1092 0 - 1) - 2)) := congrArg ((S 64)) la_delete_7
      exact (sm_TC_t h42_ (la_delete_55 e436_))
    refine ⟨h43_, ?_⟩
    refine ⟨(sm_VO_m h44_ (Int.le_refl _) h100_ sm_F1_rf), ?_⟩
    refine ⟨h45_, ?_⟩
    refine ⟨(sm_FL_F h46_ sm_F1_rf sm_F1_rf sm_F1_rf sm_F1_rf sm_F1_rf sm_F1_rf sm_F1_rf sm_F1_rf sm_F1_rf sm_F1_rf sm_F1_rf sm_F1_rf (Int.le_refl _) h100_ sm_F1_rf sm_F1_rf (sm_FL_dp h46_ h23_)), ?_⟩
    refine ⟨?_, ?_⟩
    · skip
      have e439_ : S 1100007 (S 57 (S 1092 0 - 1)) = S 1100007 (S 1100033 0) := congrArg ((S 1100007)) h47_
      have e440_ : S 63 (400 * (S 1092 0 - 1) + S 58 (S 1092 0 - 1) - 1 - 1) = S 63 (400 * (S 1092 0 - 1) + (S 58 (S 1092 0 - 1) - 2)) := congrArg ((S 63)) la_delete_7
      have e441_ : S 64 (400 * (S 1092 0 - 1) + S 58 (S 1092 0 - 1) - 1 - 1) = S 64 (400 * (S 1092 0 - 1) + (S 58 (S 1092 0 - 1) - 2)) := congrArg ((S 64)) la_delete_7
      exact (la_delete_54 h54_ e439_)
    have e442_ : S 1100025 (S 57 (S 1092 0 - 1)) = S 1100025 (S 1100033 0) := congrArg ((S 1100025)) h47_
    have e443_ : S 63 (400 * (S 1092 0 - 1) + S 58 (S 1092 0 - 1) - 1 - 1) = S 63 (400 * (S 1092 0 - 1) + (S 58 (S 1092 0 - 1) - 2)) := congrArg ((S 63)) la_delete_7
    have e444_ : S 64 (400 * (S 1092 0 - 1) + S 58 (S 1092 0 - 1) - 1 - 1) = S 64 (400 * (S 1092 0 - 1) + (S 58 (S 1092 0 - 1) - 2)) := congrArg ((S 64)) la_delete_7
    exact (sm_SK_q (sm_SK_m h50_ (Int.le_refl _) h100_ sm_F1_rf) (la_delete_57 h55_ e442_) rfl rfl)
  exact (la_delete_66 h3_ h34_ (la_delete_14 h104_ h416_))
set_option maxRecDepth 8000 in
set_option maxHeartbeats 2000000 in
theorem t_delete : ∀ (S : sv_S), sm_ok S → ((S 1075 0) = 0 ∧ (S 1073 0) = 1 ∧ sm_LX (S 58) (S 63) (S 64) (S 1092 0) (S 1076 0) ∧ sm_PL (S 1100020) (S 51) (S 52) (S 46) (S 47) (S 1076 0) (S 1086 0) ∧ sm_FR (S 1100020) (S 52) (S 1100021) (S 1100022) (3000 - (S 1084 0)) (S 1085 0) ∧ sm_PV (S 1100020) (S 48) (S 49) (S 50) (S 44) (S 1076 0) (S 1007 0) ∧ sm_AL (S 1100020) (S 48) (S 49) (S 50) (S 44) (S 1076 0) (S 1100032 0) ∧ sm_SV (S 1100020) (S 48) (S 1100029) (S 32) (S 33) (S 1076 0) (S 1032 0) ∧ 0 ≤ (S 1076 0) ∧ (S 1076 0) ≤ 300 ∧ 0 ≤ (S 1084 0) ∧ (S 1084 0) ≤ 3000 ∧ 0 ≤ (S 1086 0) ∧ sm_SC (S 1100029) (S 44) (S 45) (S 43) (S 21) (S 1076 0) (S 1032 0) ∧ sm_PO (S 42) (S 1076 0) ∧ (S 1100032 0) = -1 ∧ sm_FO (S 44) (S 45) (S 1076 0) ∧ 23 ≤ (S 1076 0) ∧ 31 ≤ (S 1007 0) ∧ (S 1007 0) ≤ 400 ∧ sm_LN (S 4) 400 (S 1007 0) ∧ sm_CT (S 26) (S 27) (S 28) (S 29) (S 1100007) (S 1100023) (S 1100024) (S 1100025) (S 21) (S 1046 0) (S 1032 0) (S 1008 0) (S 1055 0) ∧ sm_LS (S 26) (S 1100007) (S 1100025) (S 1046 0) ∧ sm_CL (S 1100007) (S 1100023) (S 1100025) (S 1046 0) ∧ 1 ≤ (S 1032 0) ∧ (S 1032 0) ≤ 11 ∧ 0 ≤ (S 1046 0) ∧ (S 1046 0) ≤ 600 ∧ 31 ≤ (S 1008 0) ∧ (S 1008 0) ≤ (S 1007 0) ∧ 0 ≤ (S 1055 0) ∧ (S 1055 0) ≤ 19 ∧ 1 ≤ (S 1092 0) ∧ (S 1092 0) ≤ 24 ∧ 0 ≤ (S 1100033 0) ∧ (S 1100033 0) < (S 1046 0) ∧ (S 29 (S 1100033 0)) = (S 53 ((S 1092 0) - 1)) ∧ 0 ≤ (S 53 ((S 1092 0) - 1)) ∧ (S 53 ((S 1092 0) - 1)) < (S 1032 0) ∧ (S 60 ((S 1092 0) - 1)) = sm_dp (S 1100024) (S 1100023 (S 1100033 0)) ∧ sm_TC (S 61) (S 62) (S 27) (S 1100007) (S 1100023) (S 1100024) (40 * ((S 1092 0) - 1)) (S 1100023 (S 1100033 0)) ∧ sm_LK (S 1100029) (S 1076 0) (S 54 ((S 1092 0) - 1)) (S 53 ((S 1092 0) - 1)) ∧ sm_VO (S 44) (S 1076 0) (S 1007 0) ((S 55 ((S 1092 0) - 1))) ((S 56 ((S 1092 0) - 1))) ∧ sm_FW (S 44) (S 1076 0) (S 59 ((S 1092 0) - 1)) ∧ sm_FL (S 53) (S 54) (S 55) (S 56) (S 57) (S 58) (S 59) (S 60) (S 61) (S 62) (S 63) (S 64) (S 27) (S 29) (S 1100007) (S 1100023) (S 1100024) (S 1100025) (S 26) (S 1100029) (S 44) (S 1046 0) (S 1032 0) (S 1076 0) (S 1007 0) (((S 1092 0) - 1)) ∧ (S 57 ((S 1092 0) - 1)) = (S 1100033 0) ∧ 0 ≤ (S 58 ((S 1092 0) - 1)) ∧ (S 58 ((S 1092 0) - 1)) ≤ 400 ∧ sm_SK (S 63) (S 64) (S 44) (S 1100007) (S 1100025) (S 1076 0) (S 1007 0) (400 * ((S 1092 0) - 1)) ((S 58 ((S 1092 0) - 1))) ((S 1100034 0)) ∧ -1 ≤ (S 1100034 0) ∧ (S 1100034 0) < (S 1046 0) ∧ (0 ≤ (S 1100034 0) → (S 26 (S 1100034 0)) = 29) ∧ (S 58 ((S 1092 0) - 1)) = (S 1100007 (S 1100033 0)) ∧ (S 1100034 0) = (S 1100025 (S 1100033 0)) ∧ (0 ≤ (S 1100023 (S 1100033 0)) → (S 1100007 (S 1100023 (S 1100033 0))) ≤ (S 58 ((S 1092 0) - 1))) ∧ (S 58 ((S 1092 0) - 1)) ≤ 396 ∧ 2 ≤ (S 58 ((S 1092 0) - 1)) ∧ (0 ≤ (S 1100034 0) → (S 1100007 (S 1100034 0)) ≤ (S 58 ((S 1092 0) - 1)) - 2) ∧ (S 1100033 0) + 1 < (S 1046 0) ∧ (S 29 ((S 1100033 0) + 1)) = (S 29 (S 1100033 0)) ∧ (S 1100007 ((S 1100033 0) + 1)) = (S 58 ((S 1092 0) - 1)) + (-1) ∧ (S 1100023 ((S 1100033 0) + 1)) = (S 1100023 (S 1100033 0)) ∧ (S 1100025 ((S 1100033 0) + 1)) = (S 1100034 0)) → sv_T sm_XS sm_cs sm_L sm_sh 4 (q_delete S) 173 0 (lv_args 0 [.ref 0]) [] S := by
  intro S hok hpre
  have h := f_delete S hok hpre
  have hM := sm_h173
  show sv_T sm_XS sm_cs sm_L sm_sh 4 (q_delete S) 173 0 [(0, .ref 0)] [] S
  have k1 : (sm_SK (S 63) (S 64) (S 44) (S 1100007) (S 1100025) (S 1076 0) (S 1007 0) (400 * ((S 1092 0) - 1)) ((S 58 ((S 1092 0) - 1))) ((S 1100034 0)) → sm_LS (S 26) (S 1100007) (S 1100025) (S 1046 0) → 0 ≤ (S 58 ((S 1092 0) - 1)) - 1 → (S 58 ((S 1092 0) - 1)) - 1 < (S 58 ((S 1092 0) - 1)) → (S 1100034 0) < (S 1046 0) → (0 ≤ (S 1100034 0) → (S 26 (S 1100034 0)) = 29) → (0 ≤ (S 1100034 0) → (S 1100007 (S 1100034 0)) ≤ (S 58 ((S 1092 0) - 1)) - 2) → sm_VO (S 44) (S 1076 0) (S 1007 0) ((S 63 (400 * ((S 1092 0) - 1) + ((S 58 ((S 1092 0) - 1)) - 1)))) ((S 64 (400 * ((S 1092 0) - 1) + ((S 58 ((S 1092 0) - 1)) - 1))))) := fun h a b e g i j => sm_SK_at h a _ b e g (fun z => ⟨i z, by have := j z; omega⟩)
  have h := h k1
  have k2 : (sm_SK (S 63) (S 64) (S 44) (S 1100007) (S 1100025) (S 1076 0) (S 1007 0) (400 * ((S 1092 0) - 1)) ((S 58 ((S 1092 0) - 1))) ((S 1100034 0)) → sm_LS (S 26) (S 1100007) (S 1100025) (S 1046 0) → 0 ≤ (S 58 ((S 1092 0) - 1)) - 2 → (S 58 ((S 1092 0) - 1)) - 2 < (S 58 ((S 1092 0) - 1)) → (S 1100034 0) < (S 1046 0) → (0 ≤ (S 1100034 0) → (S 26 (S 1100034 0)) = 29) → (0 ≤ (S 1100034 0) → (S 1100007 (S 1100034 0)) ≤ (S 58 ((S 1092 0) - 1)) - 2) → sm_VO (S 44) (S 1076 0) (S 1007 0) ((S 63 (400 * ((S 1092 0) - 1) + ((S 58 ((S 1092 0) - 1)) - 2)))) ((S 64 (400 * ((S 1092 0) - 1) + ((S 58 ((S 1092 0) - 1)) - 2))))) := fun h a b e g i j => sm_SK_at h a _ b e g (fun z => ⟨i z, by have := j z; omega⟩)
  have h := h k2
  refine sv_aload_n hM dX12_delete_0 rfl rfl ?_
  refine sv_iconst (d := (1 : Int)) hM dX12_delete_1 rfl rfl ?_
  obtain ⟨o3, h⟩ := h
  refine sv_callV hM dX12_delete_2 sm_iv_910 (by decide) (sm_a0 _) rfl rfl (Nat.le_of_ble_eq_true rfl) sm_h150 (Nat.le_of_ble_eq_true rfl) (Nat.le_of_ble_eq_true rfl) (F' := 1) (Nat.le_of_ble_eq_true rfl) rfl (t_sortAt (1 : Int) S hok (⟨by decide, by decide⟩ : sv_R (1 : Int)) o3) (fun v S1 hq => ?_)
  obtain ⟨rfl, hS1⟩ := hq
  obtain rfl : S = S1 := hS1.symm
  show sv_T sm_XS sm_cs sm_L sm_sh 4 (q_delete S) 173 5 [(0, .ref 0)] [sv_I ((S 63 ((400 * ((S 1092 0) - 1) + (S 58 ((S 1092 0) - 1))) - 1 - (1 : Int))))] S
  obtain ⟨x4, e5⟩ : ∃ x : Int, ((S 63 ((400 * ((S 1092 0) - 1) + (S 58 ((S 1092 0) - 1))) - 1 - (1 : Int)))) = x := ⟨_, rfl⟩
  have h := h x4 e5
  have e5r : sv_R x4 := e5 ▸ (sm_okI hok sm_r63 _)
  refine sv_nameI e5 ?_
  refine sv_istore_n hM dX12_delete_5 (by decide) rfl ?_
  show sv_T sm_XS sm_cs sm_L sm_sh 4 (q_delete S) 173 6 [(0, .ref 0), (1, sv_I x4)] [] S
  refine sv_aload_n hM dX12_delete_6 rfl rfl ?_
  refine sv_iconst (d := (1 : Int)) hM dX12_delete_7 rfl rfl ?_
  refine sv_callV hM dX12_delete_8 sm_iv_913 (by decide) (sm_a0 _) rfl rfl (Nat.le_of_ble_eq_true rfl) sm_h151 (Nat.le_of_ble_eq_true rfl) (Nat.le_of_ble_eq_true rfl) (F' := 1) (Nat.le_of_ble_eq_true rfl) rfl (t_valueAt (1 : Int) S hok (⟨by decide, by decide⟩ : sv_R (1 : Int)) o3) (fun v S1 hq => ?_)
  obtain ⟨rfl, hS1⟩ := hq
  obtain rfl : S = S1 := hS1.symm
  show sv_T sm_XS sm_cs sm_L sm_sh 4 (q_delete S) 173 11 [(0, .ref 0), (1, sv_I x4)] [sv_I ((S 64 ((400 * ((S 1092 0) - 1) + (S 58 ((S 1092 0) - 1))) - 1 - (1 : Int))))] S
  obtain ⟨x6, e7⟩ : ∃ x : Int, ((S 64 ((400 * ((S 1092 0) - 1) + (S 58 ((S 1092 0) - 1))) - 1 - (1 : Int)))) = x := ⟨_, rfl⟩
  have h := h x6 e7
  have e7r : sv_R x6 := e7 ▸ (sm_okI hok sm_r64 _)
  refine sv_nameI e7 ?_
  refine sv_istore_n hM dX12_delete_11 (by decide) rfl ?_
  show sv_T sm_XS sm_cs sm_L sm_sh 4 (q_delete S) 173 12 [(0, .ref 0), (1, sv_I x4), (2, sv_I x6)] [] S
  refine sv_aload_n hM dX12_delete_12 rfl rfl ?_
  refine sv_aload_n hM dX12_delete_13 rfl rfl ?_
  refine sv_iconst (d := (0 : Int)) hM dX12_delete_14 rfl rfl ?_
  obtain ⟨o8, h⟩ := h
  refine sv_callV hM dX12_delete_15 sm_iv_910 (by decide) (sm_a0 _) rfl rfl (Nat.le_of_ble_eq_true rfl) sm_h150 (Nat.le_of_ble_eq_true rfl) (Nat.le_of_ble_eq_true rfl) (F' := 1) (Nat.le_of_ble_eq_true rfl) rfl (t_sortAt (0 : Int) S hok (⟨by decide, by decide⟩ : sv_R (0 : Int)) o8) (fun v S1 hq => ?_)
  obtain ⟨rfl, hS1⟩ := hq
  obtain rfl : S = S1 := hS1.symm
  show sv_T sm_XS sm_cs sm_L sm_sh 4 (q_delete S) 173 18 [(0, .ref 0), (1, sv_I x4), (2, sv_I x6)] [sv_I ((S 63 ((400 * ((S 1092 0) - 1) + (S 58 ((S 1092 0) - 1))) - 1 - (0 : Int)))), .ref 0] S
  refine sv_aload_n hM dX12_delete_18 rfl rfl ?_
  refine sv_iconst (d := (0 : Int)) hM dX12_delete_19 rfl rfl ?_
  refine sv_callV hM dX12_delete_20 sm_iv_913 (by decide) (sm_a0 _) rfl rfl (Nat.le_of_ble_eq_true rfl) sm_h151 (Nat.le_of_ble_eq_true rfl) (Nat.le_of_ble_eq_true rfl) (F' := 1) (Nat.le_of_ble_eq_true rfl) rfl (t_valueAt (0 : Int) S hok (⟨by decide, by decide⟩ : sv_R (0 : Int)) o8) (fun v S1 hq => ?_)
  obtain ⟨rfl, hS1⟩ := hq
  obtain rfl : S = S1 := hS1.symm
  show sv_T sm_XS sm_cs sm_L sm_sh 4 (q_delete S) 173 23 [(0, .ref 0), (1, sv_I x4), (2, sv_I x6)] [sv_I ((S 64 ((400 * ((S 1092 0) - 1) + (S 58 ((S 1092 0) - 1))) - 1 - (0 : Int)))), sv_I ((S 63 ((400 * ((S 1092 0) - 1) + (S 58 ((S 1092 0) - 1))) - 1 - (0 : Int)))), .ref 0] S
  obtain ⟨o9, h⟩ := h
  refine sv_callV hM dX12_delete_23 sm_iv_969 (by decide) (sm_a0 _) rfl rfl (Nat.le_of_ble_eq_true rfl) sm_h126 (Nat.le_of_ble_eq_true rfl) (Nat.le_of_ble_eq_true rfl) (F' := 3) (Nat.le_of_ble_eq_true rfl) rfl (t_textOf ((S 63 ((400 * ((S 1092 0) - 1) + (S 58 ((S 1092 0) - 1))) - 1 - (0 : Int)))) ((S 64 ((400 * ((S 1092 0) - 1) + (S 58 ((S 1092 0) - 1))) - 1 - (0 : Int)))) S hok (sm_okI hok sm_r63 _) (sm_okI hok sm_r64 _) o9) (fun v S1 hq => ?_)
  obtain ⟨r14, rfl, hr14, ok11, md12, hpo13⟩ := hq
  obtain ⟨g10, rfl⟩ : ∃ g, S1 = sv_sts S [5, 1011, 3, 4, 1007, 1075] g := ⟨_, md12.eq⟩
  show sv_T sm_XS sm_cs sm_L sm_sh 4 (q_delete S) 173 26 [(0, .ref 0), (1, sv_I x4), (2, sv_I x6)] [sv_I r14] (sv_sts S [5, 1011, 3, 4, 1007, 1075] g10)
  have md15 : sv_mod [1076, 41, 42, 43, 44, 45, 46, 47, 1075, 1100029, 1092, 60, 58, 57, 63, 64, 1073, 1109, 1110, 1111, 1112, 5, 1011, 3, 4, 1007, 52, 1085, 1084, 1100020, 1100021, 1100022] S (sv_sts S [5, 1011, 3, 4, 1007, 1075] g10) := sv_mod.sts sv_mod.rf (by decide)
  have h := h r14 hr14 g10 hpo13
  refine sv_istore_n hM dX12_delete_26 (by decide) rfl ?_
  show sv_T sm_XS sm_cs sm_L sm_sh 4 (q_delete S) 173 27 [(0, .ref 0), (1, sv_I x4), (2, sv_I x6), (3, sv_I r14)] [] (sv_sts S [5, 1011, 3, 4, 1007, 1075] g10)
  refine sv_aload_n hM dX12_delete_27 rfl rfl ?_
  have k16 : (0 ≤ (g10 1075 0) ∧ (g10 1075 0) ≤ 1) := sm_okZ ok11 sm_r1075 0
  have h := h k16
  refine sv_getI hM dX12_delete_28 sm_fl_794 (sm_a0 _) sm_k75 rfl (x := (g10 1075 0)) rfl ?_
  refine sv_cond_eq hM dX12_delete_31 (sv_R01 k16) (t := 35) rfl rfl (fun hc => ?_) (fun hc => ?_)
  · have h := h.1 (hc)
    refine sv_iload_n hM dX12_delete_35 rfl rfl ?_
    refine sv_iconst (d := (1 : Int)) hM dX12_delete_36 rfl rfl ?_
    refine sv_icmp_gt hM dX12_delete_37 e5r (⟨by decide, by decide⟩ : sv_R (1 : Int)) (t := 47) rfl rfl (fun hc => ?_) (fun hc => ?_)
    · have h := h.1 (hc)
      have J92 : ∀ s17 : Int, sv_R s17 → ((s17 = 0 ∨ s17 = 1) ∧ (s17 = 0 → ¬ (x4 = 7 ∧ (S 44 x6) = 2 ∧ r14 = 0))) → sv_T sm_XS sm_cs sm_L sm_sh 4 (q_delete S) 173 72 [(0, .ref 0), (1, sv_I x4), (2, sv_I x6), (3, sv_I r14)] [sv_I s17] (sv_sts S [5, 1011, 3, 4, 1007, 1075] g10) := by
        intro s17 hs17 hin18
        have h := h.1 s17 hs17 hin18
        refine sv_istore hM dX12_delete_72 (by decide) rfl ?_
        show sv_T sm_XS sm_cs sm_L sm_sh 4 (q_delete S) 173 74 [(0, .ref 0), (1, sv_I x4), (2, sv_I x6), (3, sv_I r14), (4, sv_I s17)] [] (sv_sts S [5, 1011, 3, 4, 1007, 1075] g10)
        refine sv_iload_n hM dX12_delete_74 rfl rfl ?_
        refine sv_bipush (d := (7 : Int)) hM dX12_delete_75 rfl rfl ?_
        refine sv_icmp_ne hM dX12_delete_77 e5r (⟨by decide, by decide⟩ : sv_R (7 : Int)) (t := 91) rfl rfl (fun hc => ?_) (fun hc => ?_)
        · have h := h.1 (hc)
          refine sv_aload_n hM dX12_delete_91 rfl rfl ?_
          refine sv_iload hM dX12_delete_92 rfl rfl ?_
          refine sv_cond_ne hM dX12_delete_94 hs17 (t := 101) rfl rfl (fun hc => ?_) (fun hc => ?_)
          · have h := h.1 (hc)
            refine sv_iconst (d := (0 : Int)) hM dX12_delete_101 rfl rfl ?_
            refine sv_callV hM dX12_delete_102 sm_iv_827 (by decide) (sm_a0 _) rfl rfl (Nat.le_of_ble_eq_true rfl) sm_h134 (Nat.le_of_ble_eq_true rfl) (Nat.le_of_ble_eq_true rfl) (F' := 1) (Nat.le_of_ble_eq_true rfl) rfl (t_truth (0 : Int) (sv_sts S [5, 1011, 3, 4, 1007, 1075] g10) ok11 (⟨by decide, by decide⟩ : 0 ≤ (0 : Int) ∧ (0 : Int) ≤ 1)) (fun v S1 hq => ?_)
            obtain ⟨rfl, ok20, md21, hpo22⟩ := hq
            obtain ⟨g19, rfl⟩ : ∃ g, S1 = sv_sts (sv_sts S [5, 1011, 3, 4, 1007, 1075] g10) [1111, 1112] g := ⟨_, md21.eq⟩
            show sv_T sm_XS sm_cs sm_L sm_sh 4 (q_delete S) 173 105 [(0, .ref 0), (1, sv_I x4), (2, sv_I x6), (3, sv_I r14), (4, sv_I s17)] [] (sv_sts (sv_sts S [5, 1011, 3, 4, 1007, 1075] g10) [1111, 1112] g19)
            have md23 : sv_mod [1076, 41, 42, 43, 44, 45, 46, 47, 1075, 1100029, 1092, 60, 58, 57, 63, 64, 1073, 1109, 1110, 1111, 1112, 5, 1011, 3, 4, 1007, 52, 1085, 1084, 1100020, 1100021, 1100022] S (sv_sts (sv_sts S [5, 1011, 3, 4, 1007, 1075] g10) [1111, 1112] g19) := sv_mod.sts md15 (by decide)
            have h := h g19 hpo22
            refine sv_aload_n hM dX12_delete_105 rfl rfl ?_
            refine sv_iconst (d := (2 : Int)) hM dX12_delete_106 rfl rfl ?_
            obtain ⟨o24, h⟩ := h
            refine sv_callV hM dX12_delete_107 sm_iv_904 (by decide) (sm_a0 _) rfl rfl (Nat.le_of_ble_eq_true rfl) sm_h155 (Nat.le_of_ble_eq_true rfl) (Nat.le_of_ble_eq_true rfl) (F' := 2) (Nat.le_of_ble_eq_true rfl) rfl (t_gives (2 : Int) (sv_sts (sv_sts S [5, 1011, 3, 4, 1007, 1075] g10) [1111, 1112] g19) ok20 (⟨by decide, by decide⟩ : sv_R (2 : Int)) o24) (fun v S1 hq => ?_)
            obtain ⟨rfl, ok26, md27, hpo28⟩ := hq
            obtain ⟨g25, rfl⟩ : ∃ g, S1 = sv_sts (sv_sts (sv_sts S [5, 1011, 3, 4, 1007, 1075] g10) [1111, 1112] g19) [58, 63, 64, 57] g := ⟨_, md27.eq⟩
            show sv_T sm_XS sm_cs sm_L sm_sh 4 (q_delete S) 173 110 [(0, .ref 0), (1, sv_I x4), (2, sv_I x6), (3, sv_I r14), (4, sv_I s17)] [] (sv_sts (sv_sts (sv_sts S [5, 1011, 3, 4, 1007, 1075] g10) [1111, 1112] g19) [58, 63, 64, 57] g25)
            have md29 : sv_mod [1076, 41, 42, 43, 44, 45, 46, 47, 1075, 1100029, 1092, 60, 58, 57, 63, 64, 1073, 1109, 1110, 1111, 1112, 5, 1011, 3, 4, 1007, 52, 1085, 1084, 1100020, 1100021, 1100022] S (sv_sts (sv_sts (sv_sts S [5, 1011, 3, 4, 1007, 1075] g10) [1111, 1112] g19) [58, 63, 64, 57] g25) := sv_mod.sts md23 (by decide)
            have h := h g25 hpo28
            exact sv_vret hM dX12_delete_110 rfl ⟨rfl, ok26, md29, h⟩
          · have h := h.2 (hc)
            refine sv_iconst (d := (1 : Int)) hM dX12_delete_97 rfl rfl ?_
            refine sv_goto hM dX12_delete_98 (pc' := 102) rfl ?_
            refine sv_callV hM dX12_delete_102 sm_iv_827 (by decide) (sm_a0 _) rfl rfl (Nat.le_of_ble_eq_true rfl) sm_h134 (Nat.le_of_ble_eq_true rfl) (Nat.le_of_ble_eq_true rfl) (F' := 1) (Nat.le_of_ble_eq_true rfl) rfl (t_truth (1 : Int) (sv_sts S [5, 1011, 3, 4, 1007, 1075] g10) ok11 (⟨by decide, by decide⟩ : 0 ≤ (1 : Int) ∧ (1 : Int) ≤ 1)) (fun v S1 hq => ?_)
            obtain ⟨rfl, ok31, md32, hpo33⟩ := hq
            obtain ⟨g30, rfl⟩ : ∃ g, S1 = sv_sts (sv_sts S [5, 1011, 3, 4, 1007, 1075] g10) [1111, 1112] g := ⟨_, md32.eq⟩
            show sv_T sm_XS sm_cs sm_L sm_sh 4 (q_delete S) 173 105 [(0, .ref 0), (1, sv_I x4), (2, sv_I x6), (3, sv_I r14), (4, sv_I s17)] [] (sv_sts (sv_sts S [5, 1011, 3, 4, 1007, 1075] g10) [1111, 1112] g30)
            have md34 : sv_mod [1076, 41, 42, 43, 44, 45, 46, 47, 1075, 1100029, 1092, 60, 58, 57, 63, 64, 1073, 1109, 1110, 1111, 1112, 5, 1011, 3, 4, 1007, 52, 1085, 1084, 1100020, 1100021, 1100022] S (sv_sts (sv_sts S [5, 1011, 3, 4, 1007, 1075] g10) [1111, 1112] g30) := sv_mod.sts md15 (by decide)
            have h := h g30 hpo33
            refine sv_aload_n hM dX12_delete_105 rfl rfl ?_
            refine sv_iconst (d := (2 : Int)) hM dX12_delete_106 rfl rfl ?_
            obtain ⟨o35, h⟩ := h
            refine sv_callV hM dX12_delete_107 sm_iv_904 (by decide) (sm_a0 _) rfl rfl (Nat.le_of_ble_eq_true rfl) sm_h155 (Nat.le_of_ble_eq_true rfl) (Nat.le_of_ble_eq_true rfl) (F' := 2) (Nat.le_of_ble_eq_true rfl) rfl (t_gives (2 : Int) (sv_sts (sv_sts S [5, 1011, 3, 4, 1007, 1075] g10) [1111, 1112] g30) ok31 (⟨by decide, by decide⟩ : sv_R (2 : Int)) o35) (fun v S1 hq => ?_)
            obtain ⟨rfl, ok37, md38, hpo39⟩ := hq
            obtain ⟨g36, rfl⟩ : ∃ g, S1 = sv_sts (sv_sts (sv_sts S [5, 1011, 3, 4, 1007, 1075] g10) [1111, 1112] g30) [58, 63, 64, 57] g := ⟨_, md38.eq⟩
            show sv_T sm_XS sm_cs sm_L sm_sh 4 (q_delete S) 173 110 [(0, .ref 0), (1, sv_I x4), (2, sv_I x6), (3, sv_I r14), (4, sv_I s17)] [] (sv_sts (sv_sts (sv_sts S [5, 1011, 3, 4, 1007, 1075] g10) [1111, 1112] g30) [58, 63, 64, 57] g36)
            have md40 : sv_mod [1076, 41, 42, 43, 44, 45, 46, 47, 1075, 1100029, 1092, 60, 58, 57, 63, 64, 1073, 1109, 1110, 1111, 1112, 5, 1011, 3, 4, 1007, 52, 1085, 1084, 1100020, 1100021, 1100022] S (sv_sts (sv_sts (sv_sts S [5, 1011, 3, 4, 1007, 1075] g10) [1111, 1112] g30) [58, 63, 64, 57] g36) := sv_mod.sts md34 (by decide)
            have h := h g36 hpo39
            exact sv_vret hM dX12_delete_110 rfl ⟨rfl, ok37, md40, h⟩
        · have h := h.2 (hc)
          refine sv_iload hM dX12_delete_80 rfl rfl ?_
          refine sv_cond_ne hM dX12_delete_82 hs17 (t := 91) rfl rfl (fun hc => ?_) (fun hc => ?_)
          · have h := h.1 (hc)
            refine sv_aload_n hM dX12_delete_91 rfl rfl ?_
            refine sv_iload hM dX12_delete_92 rfl rfl ?_
            refine sv_cond_ne hM dX12_delete_94 hs17 (t := 101) rfl rfl (fun hc => ?_) (fun hc => ?_)
            · have h := h.1 (hc)
              refine sv_iconst (d := (0 : Int)) hM dX12_delete_101 rfl rfl ?_
              refine sv_callV hM dX12_delete_102 sm_iv_827 (by decide) (sm_a0 _) rfl rfl (Nat.le_of_ble_eq_true rfl) sm_h134 (Nat.le_of_ble_eq_true rfl) (Nat.le_of_ble_eq_true rfl) (F' := 1) (Nat.le_of_ble_eq_true rfl) rfl (t_truth (0 : Int) (sv_sts S [5, 1011, 3, 4, 1007, 1075] g10) ok11 (⟨by decide, by decide⟩ : 0 ≤ (0 : Int) ∧ (0 : Int) ≤ 1)) (fun v S1 hq => ?_)
              obtain ⟨rfl, ok42, md43, hpo44⟩ := hq
              obtain ⟨g41, rfl⟩ : ∃ g, S1 = sv_sts (sv_sts S [5, 1011, 3, 4, 1007, 1075] g10) [1111, 1112] g := ⟨_, md43.eq⟩
              show sv_T sm_XS sm_cs sm_L sm_sh 4 (q_delete S) 173 105 [(0, .ref 0), (1, sv_I x4), (2, sv_I x6), (3, sv_I r14), (4, sv_I s17)] [] (sv_sts (sv_sts S [5, 1011, 3, 4, 1007, 1075] g10) [1111, 1112] g41)
              have md45 : sv_mod [1076, 41, 42, 43, 44, 45, 46, 47, 1075, 1100029, 1092, 60, 58, 57, 63, 64, 1073, 1109, 1110, 1111, 1112, 5, 1011, 3, 4, 1007, 52, 1085, 1084, 1100020, 1100021, 1100022] S (sv_sts (sv_sts S [5, 1011, 3, 4, 1007, 1075] g10) [1111, 1112] g41) := sv_mod.sts md15 (by decide)
              have h := h g41 hpo44
              refine sv_aload_n hM dX12_delete_105 rfl rfl ?_
              refine sv_iconst (d := (2 : Int)) hM dX12_delete_106 rfl rfl ?_
              obtain ⟨o46, h⟩ := h
              refine sv_callV hM dX12_delete_107 sm_iv_904 (by decide) (sm_a0 _) rfl rfl (Nat.le_of_ble_eq_true rfl) sm_h155 (Nat.le_of_ble_eq_true rfl) (Nat.le_of_ble_eq_true rfl) (F' := 2) (Nat.le_of_ble_eq_true rfl) rfl (t_gives (2 : Int) (sv_sts (sv_sts S [5, 1011, 3, 4, 1007, 1075] g10) [1111, 1112] g41) ok42 (⟨by decide, by decide⟩ : sv_R (2 : Int)) o46) (fun v S1 hq => ?_)
              obtain ⟨rfl, ok48, md49, hpo50⟩ := hq
              obtain ⟨g47, rfl⟩ : ∃ g, S1 = sv_sts (sv_sts (sv_sts S [5, 1011, 3, 4, 1007, 1075] g10) [1111, 1112] g41) [58, 63, 64, 57] g := ⟨_, md49.eq⟩
              show sv_T sm_XS sm_cs sm_L sm_sh 4 (q_delete S) 173 110 [(0, .ref 0), (1, sv_I x4), (2, sv_I x6), (3, sv_I r14), (4, sv_I s17)] [] (sv_sts (sv_sts (sv_sts S [5, 1011, 3, 4, 1007, 1075] g10) [1111, 1112] g41) [58, 63, 64, 57] g47)
              have md51 : sv_mod [1076, 41, 42, 43, 44, 45, 46, 47, 1075, 1100029, 1092, 60, 58, 57, 63, 64, 1073, 1109, 1110, 1111, 1112, 5, 1011, 3, 4, 1007, 52, 1085, 1084, 1100020, 1100021, 1100022] S (sv_sts (sv_sts (sv_sts S [5, 1011, 3, 4, 1007, 1075] g10) [1111, 1112] g41) [58, 63, 64, 57] g47) := sv_mod.sts md45 (by decide)
              have h := h g47 hpo50
              exact sv_vret hM dX12_delete_110 rfl ⟨rfl, ok48, md51, h⟩
            · have h := h.2 (hc)
              refine sv_iconst (d := (1 : Int)) hM dX12_delete_97 rfl rfl ?_
              refine sv_goto hM dX12_delete_98 (pc' := 102) rfl ?_
              refine sv_callV hM dX12_delete_102 sm_iv_827 (by decide) (sm_a0 _) rfl rfl (Nat.le_of_ble_eq_true rfl) sm_h134 (Nat.le_of_ble_eq_true rfl) (Nat.le_of_ble_eq_true rfl) (F' := 1) (Nat.le_of_ble_eq_true rfl) rfl (t_truth (1 : Int) (sv_sts S [5, 1011, 3, 4, 1007, 1075] g10) ok11 (⟨by decide, by decide⟩ : 0 ≤ (1 : Int) ∧ (1 : Int) ≤ 1)) (fun v S1 hq => ?_)
              obtain ⟨rfl, ok53, md54, hpo55⟩ := hq
              obtain ⟨g52, rfl⟩ : ∃ g, S1 = sv_sts (sv_sts S [5, 1011, 3, 4, 1007, 1075] g10) [1111, 1112] g := ⟨_, md54.eq⟩
              show sv_T sm_XS sm_cs sm_L sm_sh 4 (q_delete S) 173 105 [(0, .ref 0), (1, sv_I x4), (2, sv_I x6), (3, sv_I r14), (4, sv_I s17)] [] (sv_sts (sv_sts S [5, 1011, 3, 4, 1007, 1075] g10) [1111, 1112] g52)
              have md56 : sv_mod [1076, 41, 42, 43, 44, 45, 46, 47, 1075, 1100029, 1092, 60, 58, 57, 63, 64, 1073, 1109, 1110, 1111, 1112, 5, 1011, 3, 4, 1007, 52, 1085, 1084, 1100020, 1100021, 1100022] S (sv_sts (sv_sts S [5, 1011, 3, 4, 1007, 1075] g10) [1111, 1112] g52) := sv_mod.sts md15 (by decide)
              have h := h g52 hpo55
              refine sv_aload_n hM dX12_delete_105 rfl rfl ?_
              refine sv_iconst (d := (2 : Int)) hM dX12_delete_106 rfl rfl ?_
              obtain ⟨o57, h⟩ := h
              refine sv_callV hM dX12_delete_107 sm_iv_904 (by decide) (sm_a0 _) rfl rfl (Nat.le_of_ble_eq_true rfl) sm_h155 (Nat.le_of_ble_eq_true rfl) (Nat.le_of_ble_eq_true rfl) (F' := 2) (Nat.le_of_ble_eq_true rfl) rfl (t_gives (2 : Int) (sv_sts (sv_sts S [5, 1011, 3, 4, 1007, 1075] g10) [1111, 1112] g52) ok53 (⟨by decide, by decide⟩ : sv_R (2 : Int)) o57) (fun v S1 hq => ?_)
              obtain ⟨rfl, ok59, md60, hpo61⟩ := hq
              obtain ⟨g58, rfl⟩ : ∃ g, S1 = sv_sts (sv_sts (sv_sts S [5, 1011, 3, 4, 1007, 1075] g10) [1111, 1112] g52) [58, 63, 64, 57] g := ⟨_, md60.eq⟩
              show sv_T sm_XS sm_cs sm_L sm_sh 4 (q_delete S) 173 110 [(0, .ref 0), (1, sv_I x4), (2, sv_I x6), (3, sv_I r14), (4, sv_I s17)] [] (sv_sts (sv_sts (sv_sts S [5, 1011, 3, 4, 1007, 1075] g10) [1111, 1112] g52) [58, 63, 64, 57] g58)
              have md62 : sv_mod [1076, 41, 42, 43, 44, 45, 46, 47, 1075, 1100029, 1092, 60, 58, 57, 63, 64, 1073, 1109, 1110, 1111, 1112, 5, 1011, 3, 4, 1007, 52, 1085, 1084, 1100020, 1100021, 1100022] S (sv_sts (sv_sts (sv_sts S [5, 1011, 3, 4, 1007, 1075] g10) [1111, 1112] g52) [58, 63, 64, 57] g58) := sv_mod.sts md56 (by decide)
              have h := h g58 hpo61
              exact sv_vret hM dX12_delete_110 rfl ⟨rfl, ok59, md62, h⟩
          · have h := h.2 (hc)
            have k63 : (sm_SC (S 1100029) (S 44) (S 45) (S 43) (S 21) (S 1076 0) (S 1032 0) → 0 ≤ x6 → x6 < (S 1076 0) → ¬ (S 44 x6) = 3 → (S 1100029 x6) < 1) := fun h a b n => by have q := (h _ a b).2; by_cases z : (S 1100029 x6) < 1; exact z; exact absurd (q (by omega)).1 n
            have h := h k63
            refine sv_aload_n hM dX12_delete_85 rfl rfl ?_
            refine sv_iload_n hM dX12_delete_86 rfl rfl ?_
            refine sv_iload_n hM dX12_delete_87 rfl rfl ?_
            obtain ⟨o64, h⟩ := h
            refine sv_callV hM dX12_delete_88 sm_iv_981 (by decide) (sm_a0 _) rfl rfl (Nat.le_of_ble_eq_true rfl) sm_h142 (Nat.le_of_ble_eq_true rfl) (Nat.le_of_ble_eq_true rfl) (F' := 1) (Nat.le_of_ble_eq_true rfl) rfl (t_remove x6 r14 (sv_sts S [5, 1011, 3, 4, 1007, 1075] g10) ok11 e7r hr14 o64) (fun v S1 hq => ?_)
            obtain ⟨rfl, ok66, md67, hpo68⟩ := hq
            obtain ⟨g65, rfl⟩ : ∃ g, S1 = sv_sts (sv_sts S [5, 1011, 3, 4, 1007, 1075] g10) [46, 47, 52, 1085, 1084, 1100020, 1100021, 1100022] g := ⟨_, md67.eq⟩
            show sv_T sm_XS sm_cs sm_L sm_sh 4 (q_delete S) 173 91 [(0, .ref 0), (1, sv_I x4), (2, sv_I x6), (3, sv_I r14), (4, sv_I s17)] [] (sv_sts (sv_sts S [5, 1011, 3, 4, 1007, 1075] g10) [46, 47, 52, 1085, 1084, 1100020, 1100021, 1100022] g65)
            have md69 : sv_mod [1076, 41, 42, 43, 44, 45, 46, 47, 1075, 1100029, 1092, 60, 58, 57, 63, 64, 1073, 1109, 1110, 1111, 1112, 5, 1011, 3, 4, 1007, 52, 1085, 1084, 1100020, 1100021, 1100022] S (sv_sts (sv_sts S [5, 1011, 3, 4, 1007, 1075] g10) [46, 47, 52, 1085, 1084, 1100020, 1100021, 1100022] g65) := sv_mod.sts md15 (by decide)
            have h := h g65 hpo68
            refine sv_aload_n hM dX12_delete_91 rfl rfl ?_
            refine sv_iload hM dX12_delete_92 rfl rfl ?_
            refine sv_cond_ne hM dX12_delete_94 hs17 (t := 101) rfl rfl (fun hc => ?_) (fun hc => ?_)
            · have h := h.1 (hc)
              refine sv_iconst (d := (0 : Int)) hM dX12_delete_101 rfl rfl ?_
              refine sv_callV hM dX12_delete_102 sm_iv_827 (by decide) (sm_a0 _) rfl rfl (Nat.le_of_ble_eq_true rfl) sm_h134 (Nat.le_of_ble_eq_true rfl) (Nat.le_of_ble_eq_true rfl) (F' := 1) (Nat.le_of_ble_eq_true rfl) rfl (t_truth (0 : Int) (sv_sts (sv_sts S [5, 1011, 3, 4, 1007, 1075] g10) [46, 47, 52, 1085, 1084, 1100020, 1100021, 1100022] g65) ok66 (⟨by decide, by decide⟩ : 0 ≤ (0 : Int) ∧ (0 : Int) ≤ 1)) (fun v S1 hq => ?_)
              obtain ⟨rfl, ok71, md72, hpo73⟩ := hq
              obtain ⟨g70, rfl⟩ : ∃ g, S1 = sv_sts (sv_sts (sv_sts S [5, 1011, 3, 4, 1007, 1075] g10) [46, 47, 52, 1085, 1084, 1100020, 1100021, 1100022] g65) [1111, 1112] g := ⟨_, md72.eq⟩
              show sv_T sm_XS sm_cs sm_L sm_sh 4 (q_delete S) 173 105 [(0, .ref 0), (1, sv_I x4), (2, sv_I x6), (3, sv_I r14), (4, sv_I s17)] [] (sv_sts (sv_sts (sv_sts S [5, 1011, 3, 4, 1007, 1075] g10) [46, 47, 52, 1085, 1084, 1100020, 1100021, 1100022] g65) [1111, 1112] g70)
              have md74 : sv_mod [1076, 41, 42, 43, 44, 45, 46, 47, 1075, 1100029, 1092, 60, 58, 57, 63, 64, 1073, 1109, 1110, 1111, 1112, 5, 1011, 3, 4, 1007, 52, 1085, 1084, 1100020, 1100021, 1100022] S (sv_sts (sv_sts (sv_sts S [5, 1011, 3, 4, 1007, 1075] g10) [46, 47, 52, 1085, 1084, 1100020, 1100021, 1100022] g65) [1111, 1112] g70) := sv_mod.sts md69 (by decide)
              have h := h g70 hpo73
              refine sv_aload_n hM dX12_delete_105 rfl rfl ?_
              refine sv_iconst (d := (2 : Int)) hM dX12_delete_106 rfl rfl ?_
              obtain ⟨o75, h⟩ := h
              refine sv_callV hM dX12_delete_107 sm_iv_904 (by decide) (sm_a0 _) rfl rfl (Nat.le_of_ble_eq_true rfl) sm_h155 (Nat.le_of_ble_eq_true rfl) (Nat.le_of_ble_eq_true rfl) (F' := 2) (Nat.le_of_ble_eq_true rfl) rfl (t_gives (2 : Int) (sv_sts (sv_sts (sv_sts S [5, 1011, 3, 4, 1007, 1075] g10) [46, 47, 52, 1085, 1084, 1100020, 1100021, 1100022] g65) [1111, 1112] g70) ok71 (⟨by decide, by decide⟩ : sv_R (2 : Int)) o75) (fun v S1 hq => ?_)
              obtain ⟨rfl, ok77, md78, hpo79⟩ := hq
              obtain ⟨g76, rfl⟩ : ∃ g, S1 = sv_sts (sv_sts (sv_sts (sv_sts S [5, 1011, 3, 4, 1007, 1075] g10) [46, 47, 52, 1085, 1084, 1100020, 1100021, 1100022] g65) [1111, 1112] g70) [58, 63, 64, 57] g := ⟨_, md78.eq⟩
              show sv_T sm_XS sm_cs sm_L sm_sh 4 (q_delete S) 173 110 [(0, .ref 0), (1, sv_I x4), (2, sv_I x6), (3, sv_I r14), (4, sv_I s17)] [] (sv_sts (sv_sts (sv_sts (sv_sts S [5, 1011, 3, 4, 1007, 1075] g10) [46, 47, 52, 1085, 1084, 1100020, 1100021, 1100022] g65) [1111, 1112] g70) [58, 63, 64, 57] g76)
              have md80 : sv_mod [1076, 41, 42, 43, 44, 45, 46, 47, 1075, 1100029, 1092, 60, 58, 57, 63, 64, 1073, 1109, 1110, 1111, 1112, 5, 1011, 3, 4, 1007, 52, 1085, 1084, 1100020, 1100021, 1100022] S (sv_sts (sv_sts (sv_sts (sv_sts S [5, 1011, 3, 4, 1007, 1075] g10) [46, 47, 52, 1085, 1084, 1100020, 1100021, 1100022] g65) [1111, 1112] g70) [58, 63, 64, 57] g76) := sv_mod.sts md74 (by decide)
              have h := h g76 hpo79
              exact sv_vret hM dX12_delete_110 rfl ⟨rfl, ok77, md80, h⟩
            · have h := h.2 (hc)
              refine sv_iconst (d := (1 : Int)) hM dX12_delete_97 rfl rfl ?_
              refine sv_goto hM dX12_delete_98 (pc' := 102) rfl ?_
              refine sv_callV hM dX12_delete_102 sm_iv_827 (by decide) (sm_a0 _) rfl rfl (Nat.le_of_ble_eq_true rfl) sm_h134 (Nat.le_of_ble_eq_true rfl) (Nat.le_of_ble_eq_true rfl) (F' := 1) (Nat.le_of_ble_eq_true rfl) rfl (t_truth (1 : Int) (sv_sts (sv_sts S [5, 1011, 3, 4, 1007, 1075] g10) [46, 47, 52, 1085, 1084, 1100020, 1100021, 1100022] g65) ok66 (⟨by decide, by decide⟩ : 0 ≤ (1 : Int) ∧ (1 : Int) ≤ 1)) (fun v S1 hq => ?_)
              obtain ⟨rfl, ok82, md83, hpo84⟩ := hq
              obtain ⟨g81, rfl⟩ : ∃ g, S1 = sv_sts (sv_sts (sv_sts S [5, 1011, 3, 4, 1007, 1075] g10) [46, 47, 52, 1085, 1084, 1100020, 1100021, 1100022] g65) [1111, 1112] g := ⟨_, md83.eq⟩
              show sv_T sm_XS sm_cs sm_L sm_sh 4 (q_delete S) 173 105 [(0, .ref 0), (1, sv_I x4), (2, sv_I x6), (3, sv_I r14), (4, sv_I s17)] [] (sv_sts (sv_sts (sv_sts S [5, 1011, 3, 4, 1007, 1075] g10) [46, 47, 52, 1085, 1084, 1100020, 1100021, 1100022] g65) [1111, 1112] g81)
              have md85 : sv_mod [1076, 41, 42, 43, 44, 45, 46, 47, 1075, 1100029, 1092, 60, 58, 57, 63, 64, 1073, 1109, 1110, 1111, 1112, 5, 1011, 3, 4, 1007, 52, 1085, 1084, 1100020, 1100021, 1100022] S (sv_sts (sv_sts (sv_sts S [5, 1011, 3, 4, 1007, 1075] g10) [46, 47, 52, 1085, 1084, 1100020, 1100021, 1100022] g65) [1111, 1112] g81) := sv_mod.sts md69 (by decide)
              have h := h g81 hpo84
              refine sv_aload_n hM dX12_delete_105 rfl rfl ?_
              refine sv_iconst (d := (2 : Int)) hM dX12_delete_106 rfl rfl ?_
              obtain ⟨o86, h⟩ := h
              refine sv_callV hM dX12_delete_107 sm_iv_904 (by decide) (sm_a0 _) rfl rfl (Nat.le_of_ble_eq_true rfl) sm_h155 (Nat.le_of_ble_eq_true rfl) (Nat.le_of_ble_eq_true rfl) (F' := 2) (Nat.le_of_ble_eq_true rfl) rfl (t_gives (2 : Int) (sv_sts (sv_sts (sv_sts S [5, 1011, 3, 4, 1007, 1075] g10) [46, 47, 52, 1085, 1084, 1100020, 1100021, 1100022] g65) [1111, 1112] g81) ok82 (⟨by decide, by decide⟩ : sv_R (2 : Int)) o86) (fun v S1 hq => ?_)
              obtain ⟨rfl, ok88, md89, hpo90⟩ := hq
              obtain ⟨g87, rfl⟩ : ∃ g, S1 = sv_sts (sv_sts (sv_sts (sv_sts S [5, 1011, 3, 4, 1007, 1075] g10) [46, 47, 52, 1085, 1084, 1100020, 1100021, 1100022] g65) [1111, 1112] g81) [58, 63, 64, 57] g := ⟨_, md89.eq⟩
              show sv_T sm_XS sm_cs sm_L sm_sh 4 (q_delete S) 173 110 [(0, .ref 0), (1, sv_I x4), (2, sv_I x6), (3, sv_I r14), (4, sv_I s17)] [] (sv_sts (sv_sts (sv_sts (sv_sts S [5, 1011, 3, 4, 1007, 1075] g10) [46, 47, 52, 1085, 1084, 1100020, 1100021, 1100022] g65) [1111, 1112] g81) [58, 63, 64, 57] g87)
              have md91 : sv_mod [1076, 41, 42, 43, 44, 45, 46, 47, 1075, 1100029, 1092, 60, 58, 57, 63, 64, 1073, 1109, 1110, 1111, 1112, 5, 1011, 3, 4, 1007, 52, 1085, 1084, 1100020, 1100021, 1100022] S (sv_sts (sv_sts (sv_sts (sv_sts S [5, 1011, 3, 4, 1007, 1075] g10) [46, 47, 52, 1085, 1084, 1100020, 1100021, 1100022] g65) [1111, 1112] g81) [58, 63, 64, 57] g87) := sv_mod.sts md85 (by decide)
              have h := h g87 hpo90
              exact sv_vret hM dX12_delete_110 rfl ⟨rfl, ok88, md91, h⟩
      have h := h.2
      refine sv_iload_n hM dX12_delete_47 rfl rfl ?_
      refine sv_bipush (d := (7 : Int)) hM dX12_delete_48 rfl rfl ?_
      refine sv_icmp_ne hM dX12_delete_50 e5r (⟨by decide, by decide⟩ : sv_R (7 : Int)) (t := 71) rfl rfl (fun hc => ?_) (fun hc => ?_)
      · have h := h.1 (hc)
        refine sv_iconst (d := (0 : Int)) hM dX12_delete_71 rfl rfl ?_
        have hb := J92 (0 : Int) (⟨by decide, by decide⟩ : sv_R (0 : Int)) h
        exact sv_less (lv := [(0, .ref 0), (1, sv_I x4), (2, sv_I x6), (3, sv_I r14)]) (sv_Sub_cons rfl (sv_Sub_cons rfl (sv_Sub_cons rfl (sv_Sub_cons rfl sv_Sub_nil)))) hb
      · have h := h.2 (hc)
        refine sv_aload_n hM dX12_delete_53 rfl rfl ?_
        refine sv_getA hM dX12_delete_54 sm_fl_143 (sm_a0 _) sm_k80 rfl ?_
        refine sv_iload_n hM dX12_delete_57 rfl rfl ?_
        obtain ⟨o93, h⟩ := h
        have k94 : sv_R (S 44 x6) := sm_okI ok11 sm_r44 x6
        have h := h k94
        refine sv_iald hM dX12_delete_58 (sm_a44 _) (by decide) o93.1 o93.2 rfl (x := (S 44 x6)) rfl ?_
        refine sv_iconst (d := (2 : Int)) hM dX12_delete_59 rfl rfl ?_
        refine sv_icmp_ne hM dX12_delete_60 k94 (⟨by decide, by decide⟩ : sv_R (2 : Int)) (t := 71) rfl rfl (fun hc => ?_) (fun hc => ?_)
        · have h := h.1 (hc)
          refine sv_iconst (d := (0 : Int)) hM dX12_delete_71 rfl rfl ?_
          have hb := J92 (0 : Int) (⟨by decide, by decide⟩ : sv_R (0 : Int)) h
          exact sv_less (lv := [(0, .ref 0), (1, sv_I x4), (2, sv_I x6), (3, sv_I r14)]) (sv_Sub_cons rfl (sv_Sub_cons rfl (sv_Sub_cons rfl (sv_Sub_cons rfl sv_Sub_nil)))) hb
        · have h := h.2 (hc)
          refine sv_iload_n hM dX12_delete_63 rfl rfl ?_
          refine sv_cond_ne hM dX12_delete_64 hr14 (t := 71) rfl rfl (fun hc => ?_) (fun hc => ?_)
          · have h := h.1 (hc)
            refine sv_iconst (d := (0 : Int)) hM dX12_delete_71 rfl rfl ?_
            have hb := J92 (0 : Int) (⟨by decide, by decide⟩ : sv_R (0 : Int)) h
            exact sv_less (lv := [(0, .ref 0), (1, sv_I x4), (2, sv_I x6), (3, sv_I r14)]) (sv_Sub_cons rfl (sv_Sub_cons rfl (sv_Sub_cons rfl (sv_Sub_cons rfl sv_Sub_nil)))) hb
          · have h := h.2 (hc)
            refine sv_iconst (d := (1 : Int)) hM dX12_delete_67 rfl rfl ?_
            refine sv_goto hM dX12_delete_68 (pc' := 72) rfl ?_
            have hb := J92 (1 : Int) (⟨by decide, by decide⟩ : sv_R (1 : Int)) h
            exact sv_less (lv := [(0, .ref 0), (1, sv_I x4), (2, sv_I x6), (3, sv_I r14)]) (sv_Sub_cons rfl (sv_Sub_cons rfl (sv_Sub_cons rfl (sv_Sub_cons rfl sv_Sub_nil)))) hb
    · have h := h.2 (hc)
      refine sv_aload_n hM dX12_delete_40 rfl rfl ?_
      refine sv_bipush (d := (6 : Int)) hM dX12_delete_41 rfl rfl ?_
      obtain ⟨o95, h⟩ := h
      refine sv_callV hM dX12_delete_43 sm_iv_966 (by decide) (sm_a0 _) rfl rfl (Nat.le_of_ble_eq_true rfl) sm_h157 (Nat.le_of_ble_eq_true rfl) (Nat.le_of_ble_eq_true rfl) (F' := 3) (Nat.le_of_ble_eq_true rfl) rfl (t_error (6 : Int) (sv_sts S [5, 1011, 3, 4, 1007, 1075] g10) ok11 (⟨by decide, by decide⟩ : sv_R (6 : Int)) o95) (fun v S1 hq => ?_)
      obtain ⟨rfl, ok97, md98, hpo99⟩ := hq
      obtain ⟨g96, rfl⟩ : ∃ g, S1 = sv_sts (sv_sts S [5, 1011, 3, 4, 1007, 1075] g10) [1076, 41, 42, 43, 44, 45, 46, 47, 1075, 1100029, 1092, 60, 58, 57, 63, 64, 1073, 1109, 1110] g := ⟨_, md98.eq⟩
      show sv_T sm_XS sm_cs sm_L sm_sh 4 (q_delete S) 173 46 [(0, .ref 0), (1, sv_I x4), (2, sv_I x6), (3, sv_I r14)] [] (sv_sts (sv_sts S [5, 1011, 3, 4, 1007, 1075] g10) [1076, 41, 42, 43, 44, 45, 46, 47, 1075, 1100029, 1092, 60, 58, 57, 63, 64, 1073, 1109, 1110] g96)
      have md100 : sv_mod [1076, 41, 42, 43, 44, 45, 46, 47, 1075, 1100029, 1092, 60, 58, 57, 63, 64, 1073, 1109, 1110, 1111, 1112, 5, 1011, 3, 4, 1007, 52, 1085, 1084, 1100020, 1100021, 1100022] S (sv_sts (sv_sts S [5, 1011, 3, 4, 1007, 1075] g10) [1076, 41, 42, 43, 44, 45, 46, 47, 1075, 1100029, 1092, 60, 58, 57, 63, 64, 1073, 1109, 1110] g96) := sv_mod.sts md15 (by decide)
      have h := h g96 hpo99
      exact sv_vret hM dX12_delete_46 rfl ⟨rfl, ok97, md100, h⟩
  · have h := h.2 (hc)
    exact sv_vret hM dX12_delete_34 rfl ⟨rfl, ok11, md15, h⟩
def q_newArray (p1 : Int) (S : sv_S) : Option Value → sv_S → Prop := fun v S' => ∃ r : Int, v = some (sv_I r) ∧ sv_R r ∧ sm_ok S' ∧ sv_mod [1076, 41, 42, 43, 44, 45, 46, 47, 1075, 1100029, 1084, 1085, 48, 1086, 51, 52, 49, 50, 1100020, 1100021, 1100022, 1100032] S S' ∧ (sm_PL (S' 1100020) (S' 51) (S' 52) (S' 46) (S' 47) (S' 1076 0) (S' 1086 0) ∧ sm_FR (S' 1100020) (S' 52) (S' 1100021) (S' 1100022) (3000 - (S' 1084 0)) (S' 1085 0) ∧ sm_PV (S' 1100020) (S' 48) (S' 49) (S' 50) (S' 44) (S' 1076 0) (S' 1007 0) ∧ sm_AL (S' 1100020) (S' 48) (S' 49) (S' 50) (S' 44) (S' 1076 0) (S' 1100032 0) ∧ sm_SV (S' 1100020) (S' 48) (S' 1100029) (S' 32) (S' 33) (S' 1076 0) (S' 1032 0) ∧ 0 ≤ (S' 1076 0) ∧ (S' 1076 0) ≤ 300 ∧ 0 ≤ (S' 1084 0) ∧ (S' 1084 0) ≤ 3000 ∧ 0 ≤ (S' 1086 0) ∧ sm_SC (S' 1100029) (S' 44) (S' 45) (S' 43) (S' 21) (S' 1076 0) (S' 1032 0) ∧ sm_PO (S' 42) (S' 1076 0) ∧ ((S' 1075 0) = 0 → (S' 1100032 0) = -1 ∧ (S' 44 r) = 2 ∧ r = (S 1076 0) ∧ (S' 1076 0) = r + 1 ∧ (sm_FO (S 44) (S 45) (S 1076 0) → sm_FO (S' 44) (S' 45) (S' 1076 0))) ∧ 0 ≤ r ∧ r < (S' 1076 0) ∧ ((S 1075 0) = 1 → (S' 1075 0) = 1) ∧ (S 1076 0) ≤ (S' 1076 0) ∧ (S 1086 0) ≤ (S' 1086 0) ∧ (S' 1086 0) ≤ (S 1086 0) + 1 ∧ sm_F1 (S 44) (S' 44) (S 1076 0) ∧ sm_F1 (S 1100029) (S' 1100029) (S 1076 0) ∧ sm_F1 (S 42) (S' 42) (S 1076 0) ∧ sm_F1 (S 43) (S' 43) (S 1076 0) ∧ sm_F1 (S 45) (S' 45) (S 1076 0) ∧ sm_KP (S 1100020) (S 48) (S' 1100020) (S' 48))
theorem la_newArray_0 {x0 x1 : Int} (h0 : 23 ≤ x0) (h1 : 0 ≤ x1) (h2 : x1 ≤ 1000) : ((3 : Int) = (-1) ∨ (0 : Int) ≤ 3 ∧ 3 < x0 ∨ x0 = 0 ∧ (3 : Int) = 1) ∧ (x0 = 1 → (3 : Int) = (-1)) ∧ 0 ≤ x1 ∧ x1 ≤ 1000 ∧ (0 : Int) ≤ 2 ∧ (2 : Int) ≤ 3 ∧ ((2 : Int) = 2 → x0 = x0) := by omega
theorem la_newArray_1 {x0 : Int} (h0 : 0 ≤ x0) (h1 : ¬ x0 = 0) : 0 < x0 := by omega
theorem la_newArray_2 {x0 : Int} (h0 : x0 ≤ 1) (h1 : 0 < x0) : x0 = 1 := by omega
theorem la_newArray_3 {x0 x1 : Int} (h0 : x0 ≤ 300) (h1 : 23 ≤ x0) (h2 : x1 = x0) : sv_R x1 := by omega
theorem la_newArray_4 {x0 x1 : Int} (h0 : 0 < x0) (h1 : x0 = 0) : x1 = 1 := by omega
theorem la_newArray_5 {x0 x1 x2 : Int} (h0 : 0 < x0) (h1 : x0 = 0) : x1 = x2 := by omega
theorem la_newArray_6 {x0 x1 : Int} (h0 : 0 < x0) (h1 : x0 = 0) : x1 < 300 := by omega
theorem la_newArray_7 {x0 x1 : Int} (h0 : 0 < x0) (h1 : x0 = 0) (h2 : x0 = x1) : x1 = 0 := by omega
theorem la_newArray_8 {x0 x1 : Int} (h0 : x0 = x1 + 1) (h1 : x0 = x1) : x1 ≤ 0 := by omega
theorem la_newArray_9 {x0 : Int} : ¬ (2 : Int) = 1 ∨ 9 ≤ x0 ∧ x0 < 23 := by omega
theorem la_newArray_10 {x0 : Int} (h0 : 23 ≤ x0) : 1 ≤ x0 ∨ x0 = 0 ∧ (2 : Int) = 0 := by omega
theorem la_newArray_11 {x0 x1 : Int} (h0 : x0 = x1 + 1) (h1 : x0 = x1) : False := by omega
theorem la_newArray_12 {x0 x1 x2 : Int} (h0 : 0 < x0) : x0 = 0 → x1 = x2 := by omega
theorem la_newArray_13 {x0 x1 x2 : Int} (h0 : 23 ≤ x0) (h1 : x1 = x0) (h2 : x2 = x0 + 1) (h3 : x2 = x0) : x1 = (-1) := by omega
theorem la_newArray_14 {x0 x1 : Int} (h0 : 23 ≤ x0) (h1 : x1 = 0) : x1 < x0 := by omega
theorem la_newArray_15 {x0 x1 x2 : Int} (h0 : 23 ≤ x0) (h1 : x1 = 0) (h2 : x2 = x0 + 1) (h3 : x2 = x0) : x1 = x0 := by omega
theorem la_newArray_16 {x0 x1 x2 : Int} (h0 : 23 ≤ x0) (h1 : x1 = 0) (h2 : x2 = x0 + 1) (h3 : x2 = x0) : x2 = x1 + 1 := by omega
theorem la_newArray_17 {x0 : Int} : x0 ≤ x0 := by omega
theorem la_newArray_18 {x0 : Int} : x0 ≤ x0 + 1 := by omega
theorem la_newArray_19 {x0 : Int} (h0 : ¬ ¬ x0 = 0) : ¬ x0 = 1 := by omega
theorem la_newArray_20 {x0 : Int} (h0 : 0 ≤ x0) (h1 : ¬ ¬ x0 = 0) : x0 = 0 := by omega
theorem la_newArray_21 {x0 x1 x2 : Int} (h0 : x0 < x1) (h1 : x0 = x2) : ¬ x1 = x2 := by omega
theorem la_newArray_22 {x0 x1 x2 : Int} (h0 : x0 ≤ 300) (h1 : x1 = x2) (h2 : x0 = x1 + 1) : x2 < 300 := by omega
theorem la_newArray_23 {x0 x1 : Int} (h0 : ¬ ¬ x0 = 0) (h1 : x0 = x1) : x1 ≤ 1 := by omega
theorem la_newArray_24 {x0 : Int} (h0 : x0 ≤ 1) (h1 : ¬ x0 = 1) : x0 < 1 := by omega
theorem la_newArray_25 : (0 : Int) ≤ 0 := by omega
theorem la_newArray_26 {x0 : Int} (h0 : 31 ≤ x0) : 0 < x0 := by omega
theorem la_newArray_27 : (0 : Int) ≤ 5 := by omega
theorem la_newArray_28 : (5 : Int) ≤ 7 := by omega
theorem la_newArray_29 {x0 : Int} : (5 : Int) = 6 → (0 : Int) ≤ 0 ∧ 0 < x0 := by omega
theorem la_newArray_30 {x0 x1 : Int} : (5 : Int) = 7 → (0 : Int) ≤ 0 ∧ 0 < x0 ∧ ¬ x1 = 3 := by omega
theorem la_newArray_31 {x0 x1 : Int} (h0 : x0 ≤ 1900000000) : (x1 = 2 → (0 : Int) = 0 → (5 : Int) = 5 ∧ (0 : Int) ≤ 0 ∧ (0 : Int) ≤ 100) ∧ x0 < 2000000000 := by omega
theorem la_newArray_32 {x0 : Int} (h0 : x0 = (-1)) : sv_R x0 := by omega
theorem la_newArray_33 {x0 x1 x2 : Int} (h0 : x0 = x1) : x2 = 0 → x0 = x1 := by omega
theorem la_newArray_34 {x0 x1 : Int} (h0 : x0 < 1) : x0 = 1 → x1 = 1 := by omega
set_option maxHeartbeats 2000000 in
theorem f_newArray : ∀ (p1 : Int) (S : sv_S), sm_ok S → sv_R p1 → (sm_PL (S 1100020) (S 51) (S 52) (S 46) (S 47) (S 1076 0) (S 1086 0) ∧ sm_FR (S 1100020) (S 52) (S 1100021) (S 1100022) (3000 - (S 1084 0)) (S 1085 0) ∧ sm_PV (S 1100020) (S 48) (S 49) (S 50) (S 44) (S 1076 0) (S 1007 0) ∧ sm_AL (S 1100020) (S 48) (S 49) (S 50) (S 44) (S 1076 0) (S 1100032 0) ∧ sm_SV (S 1100020) (S 48) (S 1100029) (S 32) (S 33) (S 1076 0) (S 1032 0) ∧ 0 ≤ (S 1076 0) ∧ (S 1076 0) ≤ 300 ∧ 0 ≤ (S 1084 0) ∧ (S 1084 0) ≤ 3000 ∧ 0 ≤ (S 1086 0) ∧ sm_SC (S 1100029) (S 44) (S 45) (S 43) (S 21) (S 1076 0) (S 1032 0) ∧ sm_PO (S 42) (S 1076 0) ∧ (S 1100032 0) = -1 ∧ 23 ≤ (S 1076 0) ∧ 31 ≤ (S 1007 0) ∧ (S 1007 0) ≤ 400 ∧ 0 ≤ p1 ∧ p1 ≤ 1000 ∧ (S 1086 0) ≤ 1900000000) → (sv_R (S 1076 0) → ((sm_AL (S 1100020) (S 48) (S 49) (S 50) (S 44) (S 1076 0) (S 1100032 0) → (S 1100032 0) = -1 → sm_AL (S 1100020) (S 48) (S 49) (S 50) (S 44) (S 1076 0) (S 1076 0)) → (sm_PL (S 1100020) (S 51) (S 52) (S 46) (S 47) (S 1076 0) (S 1086 0) ∧ sm_FR (S 1100020) (S 52) (S 1100021) (S 1100022) (3000 - (S 1084 0)) (S 1085 0) ∧ sm_PV (S 1100020) (S 48) (S 49) (S 50) (S 44) (S 1076 0) (S 1007 0) ∧ sm_AL (S 1100020) (S 48) (S 49) (S 50) (S 44) (S 1076 0) (S 1076 0) ∧ sm_SV (S 1100020) (S 48) (S 1100029) (S 32) (S 33) (S 1076 0) (S 1032 0) ∧ 0 ≤ (S 1076 0) ∧ (S 1076 0) ≤ 300 ∧ 0 ≤ (S 1084 0) ∧ (S 1084 0) ≤ 3000 ∧ 0 ≤ (S 1086 0) ∧ sm_SC (S 1100029) (S 44) (S 45) (S 43) (S 21) (S 1076 0) (S 1032 0) ∧ sm_PO (S 42) (S 1076 0) ∧ ((3 : Int) = -1 ∨ (0 ≤ (3 : Int) ∧ (3 : Int) < (S 1076 0)) ∨ ((S 1076 0) = 0 ∧ (3 : Int) = 1)) ∧ ((S 1076 0) = 1 → (3 : Int) = -1) ∧ 0 ≤ p1 ∧ p1 ≤ 1000 ∧ 0 ≤ (2 : Int) ∧ (2 : Int) ≤ 3 ∧ ((2 : Int) = 2 → (S 1076 0) = (S 1076 0))) ∧ (∀ r10 : Int, sv_R r10 → ∀ g6 : sv_S, (sm_PL (S 1100020) (S 51) (S 52) (g6 46) (g6 47) (g6 1076 0) (S 1086 0) ∧ sm_FR (S 1100020) (S 52) (S 1100021) (S 1100022) (3000 - (S 1084 0)) (S 1085 0) ∧ sm_PV (S 1100020) (S 48) (S 49) (S 50) (g6 44) (g6 1076 0) (S 1007 0) ∧ sm_AL (S 1100020) (S 48) (S 49) (S 50) (g6 44) (g6 1076 0) (S 1076 0) ∧ sm_SV (S 1100020) (S 48) (g6 1100029) (S 32) (S 33) (g6 1076 0) (S 1032 0) ∧ 0 ≤ (g6 1076 0) ∧ (g6 1076 0) ≤ 300 ∧ 0 ≤ (S 1084 0) ∧ (S 1084 0) ≤ 3000 ∧ 0 ≤ (S 1086 0) ∧ sm_SC (g6 1100029) (g6 44) (g6 45) (g6 43) (S 21) (g6 1076 0) (S 1032 0) ∧ sm_PO (g6 42) (g6 1076 0) ∧ 0 ≤ r10 ∧ r10 < (g6 1076 0) ∧ ((S 1075 0) = 1 → (g6 1075 0) = 1) ∧ (S 1076 0) ≤ (g6 1076 0) ∧ sm_F1 (S 44) (g6 44) (S 1076 0) ∧ sm_F1 (S 1100029) (g6 1100029) (S 1076 0) ∧ sm_F1 (S 42) (g6 42) (S 1076 0) ∧ sm_F1 (S 43) (g6 43) (S 1076 0) ∧ sm_F1 (S 45) (g6 45) (S 1076 0) ∧ ((g6 1075 0) = 0 → r10 = (S 1076 0) ∧ (g6 1076 0) = r10 + 1 ∧ (g6 44 r10) = (2 : Int) ∧ (g6 1100029 r10) = 0 ∧ (g6 45 r10) = 0 ∧ (g6 43 r10) = -1 ∧ (g6 42 r10) = (3 : Int)) ∧ ((g6 1076 0) = (S 1076 0) → r10 = 0) ∧ ((g6 1075 0) = 1 → (S 1075 0) = 0 → (g6 1076 0) = (S 1076 0)) ∧ (sm_FO (S 44) (S 45) (S 1076 0) → (¬ (2 : Int) = 1 ∨ (9 ≤ (S 1076 0) ∧ (S 1076 0) < 23)) → (1 ≤ (S 1076 0) ∨ ((S 1076 0) = 0 ∧ (2 : Int) = 0)) → sm_FO (g6 44) (g6 45) (g6 1076 0)) ∧ ((S 1076 0) < 300 → (g6 1075 0) = (S 1075 0) ∧ (g6 1076 0) = (S 1076 0) + 1)) → ((0 ≤ (g6 1075 0) ∧ (g6 1075 0) ≤ 1) → (((¬ (g6 1075 0) = (0 : Int)) → (sv_R ((if (g6 1075 0) = 0 then -1 else (S 1076 0)))) ∧ ((sm_AL (S 1100020) (S 48) (S 49) (S 50) (g6 44) (g6 1076 0) (S 1076 0) → ((g6 1075 0) = 0 → sm_HN (S 1100020) (S 48) r10 0) → ((g6 1075 0) = 0 → r10 = (S 1076 0)) → sm_AL (S 1100020) (S 48) (S 49) (S 50) (g6 44) (g6 1076 0) (if (g6 1075 0) = 0 then -1 else (S 1076 0))) → (sm_PL (S 1100020) (S 51) (S 52) (g6 46) (g6 47) (g6 1076 0) (S 1086 0) ∧ sm_FR (S 1100020) (S 52) (S 1100021) (S 1100022) (3000 - (S 1084 0)) (S 1085 0) ∧ sm_PV (S 1100020) (S 48) (S 49) (S 50) (g6 44) (g6 1076 0) (S 1007 0) ∧ sm_AL (S 1100020) (S 48) (S 49) (S 50) (g6 44) (g6 1076 0) ((if (g6 1075 0) = 0 then -1 else (S 1076 0))) ∧ sm_SV (S 1100020) (S 48) (g6 1100029) (S 32) (S 33) (g6 1076 0) (S 1032 0) ∧ 0 ≤ (g6 1076 0) ∧ (g6 1076 0) ≤ 300 ∧ 0 ≤ (S 1084 0) ∧ (S 1084 0) ≤ 3000 ∧ 0 ≤ (S 1086 0) ∧ sm_SC (g6 1100029) (g6 44) (g6 45) (g6 43) (S 21) (g6 1076 0) (S 1032 0) ∧ sm_PO (g6 42) (g6 1076 0) ∧ ((g6 1075 0) = 0 → ((if (g6 1075 0) = 0 then -1 else (S 1076 0))) = -1 ∧ (g6 44 r10) = 2 ∧ r10 = (S 1076 0) ∧ (g6 1076 0) = r10 + 1 ∧ (sm_FO (S 44) (S 45) (S 1076 0) → sm_FO (g6 44) (g6 45) (g6 1076 0))) ∧ 0 ≤ r10 ∧ r10 < (g6 1076 0) ∧ ((S 1075 0) = 1 → (g6 1075 0) = 1) ∧ (S 1076 0) ≤ (g6 1076 0) ∧ (S 1086 0) ≤ (S 1086 0) ∧ (S 1086 0) ≤ (S 1086 0) + 1 ∧ sm_F1 (S 44) (g6 44) (S 1076 0) ∧ sm_F1 (S 1100029) (g6 1100029) (S 1076 0) ∧ sm_F1 (S 42) (g6 42) (S 1076 0) ∧ sm_F1 (S 43) (g6 43) (S 1076 0) ∧ sm_F1 (S 45) (g6 45) (S 1076 0) ∧ sm_KP (S 1100020) (S 48) (S 1100020) (S 48)))) ∧ ((¬ (¬ (g6 1075 0) = (0 : Int))) → (sm_PL (S 1100020) (S 51) (S 52) (g6 46) (g6 47) (g6 1076 0) (S 1086 0) ∧ sm_FR (S 1100020) (S 52) (S 1100021) (S 1100022) (3000 - (S 1084 0)) (S 1085 0) ∧ sm_PV (S 1100020) (S 48) (S 49) (S 50) (g6 44) (g6 1076 0) (S 1007 0) ∧ sm_AL (S 1100020) (S 48) (S 49) (S 50) (g6 44) (g6 1076 0) (S 1076 0) ∧ sm_SV (S 1100020) (S 48) (g6 1100029) (S 32) (S 33) (g6 1076 0) (S 1032 0) ∧ 0 ≤ (g6 1076 0) ∧ (g6 1076 0) ≤ 300 ∧ 0 ≤ (S 1084 0) ∧ (S 1084 0) ≤ 3000 ∧ 0 ≤ (S 1086 0) ∧ 0 ≤ r10 ∧ r10 < (g6 1076 0) ∧ 0 ≤ (0 : Int) ∧ (0 : Int) < (S 1007 0) ∧ sm_VO (g6 44) (g6 1076 0) (S 1007 0) ((5 : Int)) ((0 : Int)) ∧ ((g6 44 r10) = 2 → (0 : Int) = 0 → (5 : Int) = 5 ∧ 0 ≤ (0 : Int) ∧ (0 : Int) ≤ 100) ∧ (S 1086 0) < 2000000000) ∧ (∀ g18 : sv_S, (sm_PL (g18 1100020) (g18 51) (g18 52) (g18 46) (g18 47) (g6 1076 0) (g18 1086 0) ∧ sm_FR (g18 1100020) (g18 52) (g18 1100021) (g18 1100022) (3000 - (g18 1084 0)) (g18 1085 0) ∧ sm_PV (g18 1100020) (g18 48) (g18 49) (g18 50) (g6 44) (g6 1076 0) (S 1007 0) ∧ sm_AL (g18 1100020) (g18 48) (g18 49) (g18 50) (g6 44) (g6 1076 0) (S 1076 0) ∧ sm_SV (g18 1100020) (g18 48) (g6 1100029) (S 32) (S 33) (g6 1076 0) (S 1032 0) ∧ 0 ≤ (g6 1076 0) ∧ (g6 1076 0) ≤ 300 ∧ 0 ≤ (g18 1084 0) ∧ (g18 1084 0) ≤ 3000 ∧ 0 ≤ (g18 1086 0) ∧ sm_KP (S 1100020) (S 48) (g18 1100020) (g18 48) ∧ ((g6 1075 0) = 1 → (g18 1075 0) = 1) ∧ ((g18 1075 0) = 0 → sm_HN (g18 1100020) (g18 48) r10 (0 : Int)) ∧ (S 1086 0) ≤ (g18 1086 0) ∧ (g18 1086 0) ≤ (S 1086 0) + 1 ∧ ((S 1084 0) < 3000 → (g18 1075 0) = (g6 1075 0)) ∧ (g18 1084 0) ≤ (S 1084 0) + 1) → (sv_R ((if (g18 1075 0) = 0 then -1 else (S 1076 0)))) ∧ ((sm_AL (g18 1100020) (g18 48) (g18 49) (g18 50) (g6 44) (g6 1076 0) (S 1076 0) → ((g18 1075 0) = 0 → sm_HN (g18 1100020) (g18 48) r10 0) → ((g18 1075 0) = 0 → r10 = (S 1076 0)) → sm_AL (g18 1100020) (g18 48) (g18 49) (g18 50) (g6 44) (g6 1076 0) (if (g18 1075 0) = 0 then -1 else (S 1076 0))) → (sm_PL (g18 1100020) (g18 51) (g18 52) (g18 46) (g18 47) (g6 1076 0) (g18 1086 0) ∧ sm_FR (g18 1100020) (g18 52) (g18 1100021) (g18 1100022) (3000 - (g18 1084 0)) (g18 1085 0) ∧ sm_PV (g18 1100020) (g18 48) (g18 49) (g18 50) (g6 44) (g6 1076 0) (S 1007 0) ∧ sm_AL (g18 1100020) (g18 48) (g18 49) (g18 50) (g6 44) (g6 1076 0) ((if (g18 1075 0) = 0 then -1 else (S 1076 0))) ∧ sm_SV (g18 1100020) (g18 48) (g6 1100029) (S 32) (S 33) (g6 1076 0) (S 1032 0) ∧ 0 ≤ (g6 1076 0) ∧ (g6 1076 0) ≤ 300 ∧ 0 ≤ (g18 1084 0) ∧ (g18 1084 0) ≤ 3000 ∧ 0 ≤ (g18 1086 0) ∧ sm_SC (g6 1100029) (g6 44) (g6 45) (g6 43) (S 21) (g6 1076 0) (S 1032 0) ∧ sm_PO (g6 42) (g6 1076 0) ∧ ((g18 1075 0) = 0 → ((if (g18 1075 0) = 0 then -1 else (S 1076 0))) = -1 ∧ (g6 44 r10) = 2 ∧ r10 = (S 1076 0) ∧ (g6 1076 0) = r10 + 1 ∧ (sm_FO (S 44) (S 45) (S 1076 0) → sm_FO (g6 44) (g6 45) (g6 1076 0))) ∧ 0 ≤ r10 ∧ r10 < (g6 1076 0) ∧ ((S 1075 0) = 1 → (g18 1075 0) = 1) ∧ (S 1076 0) ≤ (g6 1076 0) ∧ (S 1086 0) ≤ (g18 1086 0) ∧ (g18 1086 0) ≤ (S 1086 0) + 1 ∧ sm_F1 (S 44) (g6 44) (S 1076 0) ∧ sm_F1 (S 1100029) (g6 1100029) (S 1076 0) ∧ sm_F1 (S 42) (g6 42) (S 1076 0) ∧ sm_F1 (S 43) (g6 43) (S 1076 0) ∧ sm_F1 (S 45) (g6 45) (S 1076 0) ∧ sm_KP (S 1100020) (S 48) (g18 1100020) (g18 48)))))))))) := by
  intro p1
  intro S
  intro h1_
  intro h2_
  rintro ⟨h3_, ⟨h4_, ⟨h5_, ⟨h6_, ⟨h7_, ⟨h8_, ⟨h9_, ⟨h10_, ⟨h11_, ⟨h12_, ⟨h13_, ⟨h14_, ⟨h15_, ⟨h16_, ⟨h17_, ⟨h18_, ⟨h19_, ⟨h20_, h21_⟩⟩⟩⟩⟩⟩⟩⟩⟩⟩⟩⟩⟩⟩⟩⟩⟩⟩
  intro h22_
  intro h23_
  have h24_ := (h23_ h6_)
  have h25_ := (h24_ h15_)
  refine ⟨⟨h3_, ⟨h4_, ⟨h5_, ⟨h25_, ⟨h7_, ⟨h8_, ⟨h9_, ⟨h10_, ⟨h11_, ⟨h12_, ⟨h13_, ⟨h14_, (la_newArray_0 h16_ h19_ h20_)⟩⟩⟩⟩⟩⟩⟩⟩⟩⟩⟩⟩, ?_⟩
  intro r10
  intro h26_
  intro g6
  rintro ⟨h27_, ⟨h28_, ⟨h29_, ⟨h30_, ⟨h31_, ⟨h32_, ⟨h33_, ⟨h34_, ⟨h35_, ⟨h36_, ⟨h37_, ⟨h38_, ⟨h39_, ⟨h40_, ⟨h41_, ⟨h42_, ⟨h43_, ⟨h44_, ⟨h45_, ⟨h46_, ⟨h47_, ⟨h48_, ⟨h49_, ⟨h50_, ⟨h51_, h52_⟩⟩⟩⟩⟩⟩⟩⟩⟩⟩⟩⟩⟩⟩⟩⟩⟩⟩⟩⟩⟩⟩⟩⟩⟩
  rintro ⟨h53_, h54_⟩
  refine ⟨?_, ?_⟩
  · skip
    intro h55_
    have h56_ := (h50_ (la_newArray_2 h54_ (la_newArray_1 h53_ h55_)))
    refine ⟨?_, ?_⟩
    · skip
      have e57_ : (if g6 1075 0 = 0 then (-1) else S 1076 0 : Int) = S 1076 0 := if_neg h55_
      exact (la_newArray_3 h9_ h16_ e57_)
    intro h58_
    have e59_ : (if g6 1075 0 = 0 then (-1) else S 1076 0 : Int) = S 1076 0 := if_neg h55_
    have h60_ := (h58_ h30_)
    have h70_ : g6 1075 0 = 0 → sm_HN (S 1100020) (S 48) r10 0 := by
      intro h61_
      have h62_ := (h41_ (la_newArray_4 (la_newArray_1 h53_ h55_) h61_))
      have h63_ := (h49_ (la_newArray_5 (la_newArray_1 h53_ h55_) h61_))
      obtain ⟨h64_, h65_⟩ := (h52_ (la_newArray_6 (la_newArray_1 h53_ h55_) h61_))
      have h66_ := (h56_ (la_newArray_7 (la_newArray_1 h53_ h55_) h61_ h64_))
      have h67_ := (h51_ (sm_FO_0 (la_newArray_8 h65_ h66_)))
      have h68_ := (h67_ la_newArray_9)
      have h69_ := (h68_ (la_newArray_10 h16_))
      exact ((la_newArray_11 h65_ h66_)).elim
    have h71_ := (h60_ h70_)
    have h72_ := (h71_ (la_newArray_12 (la_newArray_1 h53_ h55_)))
    refine ⟨h27_, ?_⟩
    refine ⟨h4_, ?_⟩
    refine ⟨h29_, ?_⟩
    refine ⟨h72_, ?_⟩
    refine ⟨h31_, ?_⟩
    refine ⟨h32_, ?_⟩
    refine ⟨h33_, ?_⟩
    refine ⟨h10_, ?_⟩
    refine ⟨h11_, ?_⟩
    refine ⟨h12_, ?_⟩
    refine ⟨h37_, ?_⟩
    refine ⟨h38_, ?_⟩
    refine ⟨?_, ?_⟩
    · skip
      intro h73_
      have h74_ := (h41_ (la_newArray_4 (la_newArray_1 h53_ h55_) h73_))
      have h75_ := (h49_ (la_newArray_5 (la_newArray_1 h53_ h55_) h73_))
      obtain ⟨h76_, h77_⟩ := (h52_ (la_newArray_6 (la_newArray_1 h53_ h55_) h73_))
      have h78_ := (h56_ (la_newArray_7 (la_newArray_1 h53_ h55_) h73_ h76_))
      have h79_ := (h51_ (sm_FO_0 (la_newArray_8 h77_ h78_)))
      have h80_ := (h79_ la_newArray_9)
      have h81_ := (h80_ (la_newArray_10 h16_))
      refine ⟨(la_newArray_13 h16_ e59_ h77_ h78_), ?_⟩
      refine ⟨?_, ?_⟩
      · skip
        exact ((la_newArray_11 h77_ h78_)).elim
      refine ⟨(la_newArray_15 h16_ h75_ h77_ h78_), ?_⟩
      refine ⟨(la_newArray_16 h16_ h75_ h77_ h78_), ?_⟩
      intro h82_
      exact h81_
    refine ⟨h39_, ?_⟩
    refine ⟨h40_, ?_⟩
    refine ⟨h41_, ?_⟩
    refine ⟨h42_, ?_⟩
    refine ⟨la_newArray_17, ?_⟩
    refine ⟨la_newArray_18, ?_⟩
    refine ⟨h43_, ?_⟩
    refine ⟨h44_, ?_⟩
    refine ⟨h45_, ?_⟩
    refine ⟨h46_, ?_⟩
    refine ⟨h47_, ?_⟩
    exact sm_KP_rf
  intro h83_
  have h84_ : ¬ (S 1075 0 = 1) := fun q_ => (la_newArray_19 h83_) (h41_ q_)
  obtain ⟨h85_, ⟨h86_, ⟨h87_, ⟨h88_, ⟨h89_, ⟨h90_, h91_⟩⟩⟩⟩⟩⟩ := (h48_ (la_newArray_20 h53_ h83_))
  obtain ⟨h92_, h93_⟩ := (h52_ (la_newArray_22 h33_ h85_ h86_))
  refine ⟨⟨h27_, ⟨h4_, ⟨h29_, ⟨h30_, ⟨h31_, ⟨h32_, ⟨h33_, ⟨h10_, ⟨h11_, ⟨h12_, ⟨h39_, ⟨h40_, ⟨la_newArray_25, ⟨(la_newArray_26 h17_), ⟨(sm_VO_i la_newArray_27 la_newArray_28 la_newArray_29 la_newArray_30), (la_newArray_31 h21_)⟩⟩⟩⟩⟩⟩⟩⟩⟩⟩⟩⟩⟩⟩⟩, ?_⟩
  intro g18
  rintro ⟨h94_, ⟨h95_, ⟨h96_, ⟨h97_, ⟨h98_, ⟨h99_, ⟨h100_, ⟨h101_, ⟨h102_, ⟨h103_, ⟨h104_, ⟨h105_, ⟨h106_, ⟨h107_, ⟨h108_, ⟨h109_, h110_⟩⟩⟩⟩⟩⟩⟩⟩⟩⟩⟩⟩⟩⟩⟩⟩
  refine ⟨?_, ?_⟩
  · skip
    by_cases c111_ : g18 1075 0 = 0
    · skip
      have e112_ : (if g18 1075 0 = 0 then (-1) else S 1076 0 : Int) = (-1) := if_pos c111_
      have h113_ := (h106_ c111_)
      exact (la_newArray_32 e112_)
    · skip
      have e114_ : (if g18 1075 0 = 0 then (-1) else S 1076 0 : Int) = S 1076 0 := if_neg c111_
      exact (la_newArray_3 h9_ h16_ e114_)
  intro h115_
  have h116_ := (h115_ h97_)
  have h117_ := (h116_ h106_)
  have h118_ := (h117_ (la_newArray_33 h85_))
  refine ⟨h94_, ?_⟩
  refine ⟨h95_, ?_⟩
  refine ⟨h96_, ?_⟩
  refine ⟨h118_, ?_⟩
  refine ⟨h98_, ?_⟩
  refine ⟨h32_, ?_⟩
  refine ⟨h33_, ?_⟩
  refine ⟨h101_, ?_⟩
  refine ⟨h102_, ?_⟩
  refine ⟨h103_, ?_⟩
  refine ⟨h37_, ?_⟩
  refine ⟨h38_, ?_⟩
  refine ⟨?_, ?_⟩
  · skip
    intro h119_
    have e120_ : (if g18 1075 0 = 0 then (-1) else S 1076 0 : Int) = (-1) := if_pos h119_
    have h121_ := (h106_ h119_)
    refine ⟨e120_, ?_⟩
    refine ⟨h87_, ?_⟩
    refine ⟨h85_, ?_⟩
    refine ⟨h86_, ?_⟩
    intro h122_
    have h123_ := (h51_ h122_)
    have h124_ := (h123_ la_newArray_9)
    have h125_ := (h124_ (la_newArray_10 h16_))
    exact h125_
  refine ⟨h39_, ?_⟩
  refine ⟨h40_, ?_⟩
  refine ⟨(la_newArray_34 (la_newArray_24 (la_newArray_23 h83_ h92_) h84_)), ?_⟩
  refine ⟨h42_, ?_⟩
  refine ⟨h107_, ?_⟩
  refine ⟨h108_, ?_⟩
  refine ⟨h43_, ?_⟩
  refine ⟨h44_, ?_⟩
  refine ⟨h45_, ?_⟩
  refine ⟨h46_, ?_⟩
  refine ⟨h47_, ?_⟩
  exact h104_
set_option maxRecDepth 8000 in
set_option maxHeartbeats 2000000 in
theorem t_newArray : ∀ (p1 : Int) (S : sv_S), sm_ok S → sv_R p1 → (sm_PL (S 1100020) (S 51) (S 52) (S 46) (S 47) (S 1076 0) (S 1086 0) ∧ sm_FR (S 1100020) (S 52) (S 1100021) (S 1100022) (3000 - (S 1084 0)) (S 1085 0) ∧ sm_PV (S 1100020) (S 48) (S 49) (S 50) (S 44) (S 1076 0) (S 1007 0) ∧ sm_AL (S 1100020) (S 48) (S 49) (S 50) (S 44) (S 1076 0) (S 1100032 0) ∧ sm_SV (S 1100020) (S 48) (S 1100029) (S 32) (S 33) (S 1076 0) (S 1032 0) ∧ 0 ≤ (S 1076 0) ∧ (S 1076 0) ≤ 300 ∧ 0 ≤ (S 1084 0) ∧ (S 1084 0) ≤ 3000 ∧ 0 ≤ (S 1086 0) ∧ sm_SC (S 1100029) (S 44) (S 45) (S 43) (S 21) (S 1076 0) (S 1032 0) ∧ sm_PO (S 42) (S 1076 0) ∧ (S 1100032 0) = -1 ∧ 23 ≤ (S 1076 0) ∧ 31 ≤ (S 1007 0) ∧ (S 1007 0) ≤ 400 ∧ 0 ≤ p1 ∧ p1 ≤ 1000 ∧ (S 1086 0) ≤ 1900000000) → sv_T sm_XS sm_cs sm_L sm_sh 2 (q_newArray p1 S) 167 0 (lv_args 0 [.ref 0, sv_I p1]) [] S := by
  intro p1 S hok hp1 hpre
  have h := f_newArray p1 S hok hp1 hpre
  have hM := sm_h167
  show sv_T sm_XS sm_cs sm_L sm_sh 2 (q_newArray p1 S) 167 0 [(0, .ref 0), (1, sv_I p1)] [] S
  have k1 : sv_R (S 1076 0) := sm_okI hok sm_r1076 0
  have h := h k1
  refine sv_ghost sm_X 1100032 0 (S 1076 0) (by decide) ?_
  have ok2 : sm_ok (sv_up S 1100032 0 (S 1076 0)) := sm_upI hok sm_r1100032 k1
  have md3 : sv_mod [1076, 41, 42, 43, 44, 45, 46, 47, 1075, 1100029, 1084, 1085, 48, 1086, 51, 52, 49, 50, 1100020, 1100021, 1100022, 1100032] S (sv_up S 1100032 0 (S 1076 0)) := sv_mod.up sv_mod.rf (by decide)
  have k4 : (sm_AL (S 1100020) (S 48) (S 49) (S 50) (S 44) (S 1076 0) (S 1100032 0) → (S 1100032 0) = -1 → sm_AL (S 1100020) (S 48) (S 49) (S 50) (S 44) (S 1076 0) (S 1076 0)) := fun h e => sm_AL_x h (Or.inl (by omega)) _
  have h := h k4
  refine sv_aload_n hM dX12_newArray_0 rfl rfl ?_
  refine sv_iconst (d := (3 : Int)) hM dX12_newArray_1 rfl rfl ?_
  refine sv_iload_n hM dX12_newArray_2 rfl rfl ?_
  refine sv_iconst (d := (2 : Int)) hM dX12_newArray_3 rfl rfl ?_
  obtain ⟨o5, h⟩ := h
  refine sv_callV hM dX12_newArray_4 sm_iv_858 (by decide) (sm_a0 _) rfl rfl (Nat.le_of_ble_eq_true rfl) sm_h139 (Nat.le_of_ble_eq_true rfl) (Nat.le_of_ble_eq_true rfl) (F' := 0) (Nat.le_of_ble_eq_true rfl) rfl (t_newObject (3 : Int) p1 (2 : Int) (sv_up S 1100032 0 (S 1076 0)) ok2 (⟨by decide, by decide⟩ : sv_R (3 : Int)) hp1 (⟨by decide, by decide⟩ : sv_R (2 : Int)) o5) (fun v S1 hq => ?_)
  obtain ⟨r10, rfl, hr10, ok7, md8, hpo9⟩ := hq
  obtain ⟨g6, rfl⟩ : ∃ g, S1 = sv_sts (sv_up S 1100032 0 (S 1076 0)) [1076, 41, 42, 43, 44, 45, 46, 47, 1075, 1100029] g := ⟨_, md8.eq⟩
  show sv_T sm_XS sm_cs sm_L sm_sh 2 (q_newArray p1 S) 167 7 [(0, .ref 0), (1, sv_I p1)] [sv_I r10] (sv_sts (sv_up S 1100032 0 (S 1076 0)) [1076, 41, 42, 43, 44, 45, 46, 47, 1075, 1100029] g6)
  have md11 : sv_mod [1076, 41, 42, 43, 44, 45, 46, 47, 1075, 1100029, 1084, 1085, 48, 1086, 51, 52, 49, 50, 1100020, 1100021, 1100022, 1100032] S (sv_sts (sv_up S 1100032 0 (S 1076 0)) [1076, 41, 42, 43, 44, 45, 46, 47, 1075, 1100029] g6) := sv_mod.sts md3 (by decide)
  have h := h r10 hr10 g6 hpo9
  refine sv_istore_n hM dX12_newArray_7 (by decide) rfl ?_
  show sv_T sm_XS sm_cs sm_L sm_sh 2 (q_newArray p1 S) 167 8 [(0, .ref 0), (1, sv_I p1), (2, sv_I r10)] [] (sv_sts (sv_up S 1100032 0 (S 1076 0)) [1076, 41, 42, 43, 44, 45, 46, 47, 1075, 1100029] g6)
  refine sv_aload_n hM dX12_newArray_8 rfl rfl ?_
  have k12 : (0 ≤ (g6 1075 0) ∧ (g6 1075 0) ≤ 1) := sm_okZ ok7 sm_r1075 0
  have h := h k12
  refine sv_getI hM dX12_newArray_9 sm_fl_794 (sm_a0 _) sm_k75 rfl (x := (g6 1075 0)) rfl ?_
  refine sv_cond_ne hM dX12_newArray_12 (sv_R01 k12) (t := 23) rfl rfl (fun hc => ?_) (fun hc => ?_)
  · have h := h.1 (hc)
    refine sv_iload_n hM dX12_newArray_23 rfl rfl ?_
    obtain ⟨o13, h⟩ := h
    refine sv_ghost sm_X 1100032 0 ((if (g6 1075 0) = 0 then -1 else (S 1076 0))) (by decide) ?_
    have ok14 : sm_ok (sv_up (sv_sts (sv_up S 1100032 0 (S 1076 0)) [1076, 41, 42, 43, 44, 45, 46, 47, 1075, 1100029] g6) 1100032 0 ((if (g6 1075 0) = 0 then -1 else (S 1076 0)))) := sm_upI ok7 sm_r1100032 o13
    have md15 : sv_mod [1076, 41, 42, 43, 44, 45, 46, 47, 1075, 1100029, 1084, 1085, 48, 1086, 51, 52, 49, 50, 1100020, 1100021, 1100022, 1100032] S (sv_up (sv_sts (sv_up S 1100032 0 (S 1076 0)) [1076, 41, 42, 43, 44, 45, 46, 47, 1075, 1100029] g6) 1100032 0 ((if (g6 1075 0) = 0 then -1 else (S 1076 0)))) := sv_mod.up md11 (by decide)
    have k16 : (sm_AL (S 1100020) (S 48) (S 49) (S 50) (g6 44) (g6 1076 0) (S 1076 0) → ((g6 1075 0) = 0 → sm_HN (S 1100020) (S 48) r10 0) → ((g6 1075 0) = 0 → r10 = (S 1076 0)) → sm_AL (S 1100020) (S 48) (S 49) (S 50) (g6 44) (g6 1076 0) (if (g6 1075 0) = 0 then -1 else (S 1076 0))) := fun h a b => sm_AL_i h a b
    have h := h k16
    exact sv_iret hM dX12_newArray_24 rfl rfl ⟨r10, rfl, hr10, ok14, md15, h⟩
  · have h := h.2 (hc)
    refine sv_aload_n hM dX12_newArray_15 rfl rfl ?_
    refine sv_iload_n hM dX12_newArray_16 rfl rfl ?_
    refine sv_iconst (d := (0 : Int)) hM dX12_newArray_17 rfl rfl ?_
    refine sv_iconst (d := (5 : Int)) hM dX12_newArray_18 rfl rfl ?_
    refine sv_iconst (d := (0 : Int)) hM dX12_newArray_19 rfl rfl ?_
    obtain ⟨o17, h⟩ := h
    refine sv_callV hM dX12_newArray_20 sm_iv_870 (by decide) (sm_a0 _) rfl rfl (Nat.le_of_ble_eq_true rfl) sm_h141 (Nat.le_of_ble_eq_true rfl) (Nat.le_of_ble_eq_true rfl) (F' := 1) (Nat.le_of_ble_eq_true rfl) rfl (t_set_ r10 (0 : Int) (5 : Int) (0 : Int) (sv_sts (sv_up S 1100032 0 (S 1076 0)) [1076, 41, 42, 43, 44, 45, 46, 47, 1075, 1100029] g6) ok7 hr10 (⟨by decide, by decide⟩ : sv_R (0 : Int)) (⟨by decide, by decide⟩ : sv_R (5 : Int)) (⟨by decide, by decide⟩ : sv_R (0 : Int)) o17) (fun v S1 hq => ?_)
    obtain ⟨rfl, ok19, md20, hpo21⟩ := hq
    obtain ⟨g18, rfl⟩ : ∃ g, S1 = sv_sts (sv_sts (sv_up S 1100032 0 (S 1076 0)) [1076, 41, 42, 43, 44, 45, 46, 47, 1075, 1100029] g6) [1084, 1085, 48, 1086, 51, 52, 46, 47, 49, 50, 1075, 1100020, 1100021, 1100022] g := ⟨_, md20.eq⟩
    show sv_T sm_XS sm_cs sm_L sm_sh 2 (q_newArray p1 S) 167 23 [(0, .ref 0), (1, sv_I p1), (2, sv_I r10)] [] (sv_sts (sv_sts (sv_up S 1100032 0 (S 1076 0)) [1076, 41, 42, 43, 44, 45, 46, 47, 1075, 1100029] g6) [1084, 1085, 48, 1086, 51, 52, 46, 47, 49, 50, 1075, 1100020, 1100021, 1100022] g18)
    have md22 : sv_mod [1076, 41, 42, 43, 44, 45, 46, 47, 1075, 1100029, 1084, 1085, 48, 1086, 51, 52, 49, 50, 1100020, 1100021, 1100022, 1100032] S (sv_sts (sv_sts (sv_up S 1100032 0 (S 1076 0)) [1076, 41, 42, 43, 44, 45, 46, 47, 1075, 1100029] g6) [1084, 1085, 48, 1086, 51, 52, 46, 47, 49, 50, 1075, 1100020, 1100021, 1100022] g18) := sv_mod.sts md11 (by decide)
    have h := h g18 hpo21
    refine sv_iload_n hM dX12_newArray_23 rfl rfl ?_
    obtain ⟨o23, h⟩ := h
    refine sv_ghost sm_X 1100032 0 ((if (g18 1075 0) = 0 then -1 else (S 1076 0))) (by decide) ?_
    have ok24 : sm_ok (sv_up (sv_sts (sv_sts (sv_up S 1100032 0 (S 1076 0)) [1076, 41, 42, 43, 44, 45, 46, 47, 1075, 1100029] g6) [1084, 1085, 48, 1086, 51, 52, 46, 47, 49, 50, 1075, 1100020, 1100021, 1100022] g18) 1100032 0 ((if (g18 1075 0) = 0 then -1 else (S 1076 0)))) := sm_upI ok19 sm_r1100032 o23
    have md25 : sv_mod [1076, 41, 42, 43, 44, 45, 46, 47, 1075, 1100029, 1084, 1085, 48, 1086, 51, 52, 49, 50, 1100020, 1100021, 1100022, 1100032] S (sv_up (sv_sts (sv_sts (sv_up S 1100032 0 (S 1076 0)) [1076, 41, 42, 43, 44, 45, 46, 47, 1075, 1100029] g6) [1084, 1085, 48, 1086, 51, 52, 46, 47, 49, 50, 1075, 1100020, 1100021, 1100022] g18) 1100032 0 ((if (g18 1075 0) = 0 then -1 else (S 1076 0)))) := sv_mod.up md22 (by decide)
    have k26 : (sm_AL (g18 1100020) (g18 48) (g18 49) (g18 50) (g6 44) (g6 1076 0) (S 1076 0) → ((g18 1075 0) = 0 → sm_HN (g18 1100020) (g18 48) r10 0) → ((g18 1075 0) = 0 → r10 = (S 1076 0)) → sm_AL (g18 1100020) (g18 48) (g18 49) (g18 50) (g6 44) (g6 1076 0) (if (g18 1075 0) = 0 then -1 else (S 1076 0))) := fun h a b => sm_AL_i h a b
    have h := h k26
    exact sv_iret hM dX12_newArray_24 rfl rfl ⟨r10, rfl, hr10, ok24, md25, h⟩
def q_makeFunction (p1 : Int) (S : sv_S) : Option Value → sv_S → Prop := fun v S' => v = none ∧ sm_ok S' ∧ sv_mod [1076, 41, 42, 43, 44, 45, 46, 47, 1075, 1100029, 1092, 60, 58, 57, 63, 64, 1073, 1109, 1110, 1111, 1112, 1084, 1085, 48, 1086, 51, 52, 49, 50, 1100020, 1100021, 1100022] S S' ∧ (sm_PL (S' 1100020) (S' 51) (S' 52) (S' 46) (S' 47) (S' 1076 0) (S' 1086 0) ∧ sm_FR (S' 1100020) (S' 52) (S' 1100021) (S' 1100022) (3000 - (S' 1084 0)) (S' 1085 0) ∧ sm_PV (S' 1100020) (S' 48) (S' 49) (S' 50) (S' 44) (S' 1076 0) (S' 1007 0) ∧ sm_AL (S' 1100020) (S' 48) (S' 49) (S' 50) (S' 44) (S' 1076 0) (S' 1100032 0) ∧ sm_SV (S' 1100020) (S' 48) (S' 1100029) (S' 32) (S' 33) (S' 1076 0) (S' 1032 0) ∧ 0 ≤ (S' 1076 0) ∧ (S' 1076 0) ≤ 300 ∧ 0 ≤ (S' 1084 0) ∧ (S' 1084 0) ≤ 3000 ∧ 0 ≤ (S' 1086 0) ∧ sm_SC (S' 1100029) (S' 44) (S' 45) (S' 43) (S' 21) (S' 1076 0) (S' 1032 0) ∧ sm_PO (S' 42) (S' 1076 0) ∧ ((S' 1075 0) = 0 → (S' 1100032 0) = -1 ∧ sm_FO (S' 44) (S' 45) (S' 1076 0)) ∧ 23 ≤ (S' 1076 0) ∧ 31 ≤ (S' 1007 0) ∧ (S' 1007 0) ≤ 400 ∧ sm_LN (S' 4) 400 (S' 1007 0) ∧ (S' 1008 0) ≤ (S' 1007 0) ∧ ((S 1075 0) = 1 → (S' 1075 0) = 1) ∧ 0 ≤ (S' 1092 0) ∧ (S' 1092 0) ≤ 24 ∧ (S 1007 0) ≤ (S' 1007 0) ∧ (¬ (S' 1075 0) = 0 → sm_LX (S' 58) (S' 63) (S' 64) (S' 1092 0) (S' 1076 0)) ∧ ((S' 1075 0) = 0 → (S' 1073 0) = 1 → 1 ≤ (S' 1092 0) ∧ (S' 1092 0) ≤ 24 ∧ 0 ≤ (S' 57 ((S' 1092 0) - 1)) ∧ (S' 57 ((S' 1092 0) - 1)) < (S' 1046 0) ∧ (S' 29 (S' 57 ((S' 1092 0) - 1))) = (S' 53 ((S' 1092 0) - 1)) ∧ 0 ≤ (S' 53 ((S' 1092 0) - 1)) ∧ (S' 53 ((S' 1092 0) - 1)) < (S' 1032 0) ∧ (S' 60 ((S' 1092 0) - 1)) = sm_dp (S' 1100024) (S' 1100023 (S' 57 ((S' 1092 0) - 1))) ∧ sm_TC (S' 61) (S' 62) (S' 27) (S' 1100007) (S' 1100023) (S' 1100024) (40 * ((S' 1092 0) - 1)) (S' 1100023 (S' 57 ((S' 1092 0) - 1))) ∧ sm_LK (S' 1100029) (S' 1076 0) (S' 54 ((S' 1092 0) - 1)) (S' 53 ((S' 1092 0) - 1)) ∧ sm_VO (S' 44) (S' 1076 0) (S' 1007 0) ((S' 55 ((S' 1092 0) - 1))) ((S' 56 ((S' 1092 0) - 1))) ∧ sm_FW (S' 44) (S' 1076 0) (S' 59 ((S' 1092 0) - 1)) ∧ sm_FL (S' 53) (S' 54) (S' 55) (S' 56) (S' 57) (S' 58) (S' 59) (S' 60) (S' 61) (S' 62) (S' 63) (S' 64) (S' 27) (S' 29) (S' 1100007) (S' 1100023) (S' 1100024) (S' 1100025) (S' 26) (S' 1100029) (S' 44) (S' 1046 0) (S' 1032 0) (S' 1076 0) (S' 1007 0) (((S' 1092 0) - 1)) ∧ (S' 58 ((S' 1092 0) - 1)) = (S' 1100007 (S' 57 ((S' 1092 0) - 1))) ∧ sm_SK (S' 63) (S' 64) (S' 44) (S' 1100007) (S' 1100025) (S' 1076 0) (S' 1007 0) (400 * ((S' 1092 0) - 1)) ((S' 58 ((S' 1092 0) - 1))) ((S' 1100025 (S' 57 ((S' 1092 0) - 1))))) ∧ ((S' 1073 0) = 1 ∨ (S' 1092 0) = 0 ∧ (S' 1075 0) = 0 ∧ ((S' 1073 0) = 2 ∨ (S' 1073 0) = 3)) ∧ (S 1086 0) ≤ (S' 1086 0) ∧ (S' 1086 0) ≤ (S 1086 0) + 110)
theorem la_makeFunction_0 {x0 x1 x2 : Int} (h0 : x0 ≤ 11) (h1 : 1 ≤ x1) (h2 : x1 < x0) (h3 : 29 + 6 * (x1 - 1) = x2) : sv_R (x2 + 2) := by omega
theorem la_makeFunction_1 {x0 x1 x2 x3 x4 : Int} (h0 : 23 ≤ x0) (h1 : x1 ≤ 11) (h2 : 1 ≤ x2) (h3 : x2 < x1) (h4 : 29 + 6 * (x2 - 1) = x3) : ((2 : Int) = (-1) ∨ (0 : Int) ≤ 2 ∧ 2 < x0 ∨ x0 = 0 ∧ (2 : Int) = 1) ∧ (x0 = 1 → (2 : Int) = (-1)) ∧ 0 ≤ x3 + 2 ∧ x3 + 2 ≤ 1000 ∧ (0 : Int) ≤ 1 ∧ (1 : Int) ≤ 3 ∧ ((1 : Int) = 2 → x4 = x0) := by omega
theorem la_makeFunction_2 {x0 : Int} (h0 : x0 = 0) : ¬ x0 = 1 := by omega
theorem la_makeFunction_3 {x0 : Int} (h0 : 23 ≤ x0) : ¬ (¬ (1 : Int) = 1 ∨ 9 ≤ x0 ∧ x0 < 23) := by omega
theorem la_makeFunction_4 {x0 x1 x2 : Int} (h0 : x0 = x1) (h1 : x2 = x0 + 1) : ¬ x2 = x1 := by omega
theorem la_makeFunction_5 {x0 x1 x2 : Int} (h0 : x0 ≤ 300) (h1 : x1 < x0) (h2 : x1 = x2) : x2 < 300 := by omega
theorem la_makeFunction_6 {x0 : Int} (h0 : 1 ≤ x0) (h1 : x0 ≤ 24) : 0 ≤ x0 - 1 ∧ x0 - 1 < 24 := by omega
theorem la_makeFunction_7 {x0 : Int} (h0 : x0 = 1) : ¬ x0 = 3 := by omega
theorem la_makeFunction_8 : ¬ (7 : Int) = 6 := by omega
theorem la_makeFunction_9 : (7 : Int) = 7 := by omega
theorem la_makeFunction_10 {x0 : Int} (h0 : x0 = 1) : x0 ≤ 3 := by omega
theorem la_makeFunction_11 {x0 : Int} (h0 : x0 ≤ 3) (h1 : ¬ x0 = 3) : x0 < 3 := by omega
theorem la_makeFunction_12 {x0 x1 x2 : Int} (h0 : 23 ≤ x0) (h1 : x1 ≤ 300) (h2 : x2 < x1) (h3 : x2 = x0) : 0 ≤ x2 ∧ x2 < 300 := by omega
theorem la_makeFunction_13 {x0 x1 x2 : Int} (h0 : x0 ≤ 11) (h1 : 1 ≤ x1) (h2 : x1 < x0) (h3 : 29 + 6 * (x1 - 1) = x2) : sv_R (x2 + 4) := by omega
theorem la_makeFunction_14 {x0 x1 : Int} (h0 : x0 = 0) : x0 < 1 ∨ ¬ x1 = 1 := by omega
theorem la_makeFunction_15 {x0 : Int} (h0 : x0 = 0) : x0 < 1 := by omega
theorem la_makeFunction_16 {x0 : Int} : x0 = x0 := by omega
theorem la_makeFunction_17 {x0 x1 x2 x3 x4 x5 : Int} (h0 : 23 ≤ x0) (h1 : x1 ≤ 11) (h2 : 1 ≤ x2) (h3 : x2 < x1) (h4 : 29 + 6 * (x2 - 1) = x3) (h5 : x4 = x0 + 1) : ((1 : Int) = (-1) ∨ (0 : Int) ≤ 1 ∧ 1 < x4 ∨ x4 = 0 ∧ (1 : Int) = 1) ∧ (x4 = 1 → (1 : Int) = (-1)) ∧ 0 ≤ x3 + 4 ∧ x3 + 4 ≤ 1000 ∧ (0 : Int) ≤ 0 ∧ (0 : Int) ≤ 3 ∧ ((0 : Int) = 2 → x5 = x4) := by omega
theorem la_makeFunction_18 {x0 x1 : Int} (h0 : x0 = x1) : x1 ≤ x0 := by omega
theorem la_makeFunction_19 {x0 : Int} (h0 : 23 ≤ x0) : 1 ≤ x0 := by omega
theorem la_makeFunction_20 {x0 x1 : Int} (h0 : x0 = x1) : x1 = x0 := by omega
theorem la_makeFunction_21 {x0 : Int} : ¬ (0 : Int) = 1 ∨ 9 ≤ x0 ∧ x0 < 23 := by omega
theorem la_makeFunction_22 {x0 x1 : Int} (h0 : 23 ≤ x0) (h1 : x1 = x0 + 1) : 1 ≤ x1 ∨ x1 = 0 ∧ (0 : Int) = 0 := by omega
theorem la_makeFunction_23 {x0 x1 x2 : Int} (h0 : x0 < x1) (h1 : x0 = x2) : ¬ x1 = x2 := by omega
theorem la_makeFunction_24 {x0 x1 x2 : Int} (h0 : x0 < x1) (h1 : x2 = x1 + 1) : x0 < x2 := by omega
theorem la_makeFunction_25 : (0 : Int) ≤ 1 := by omega
theorem la_makeFunction_26 {x0 : Int} (h0 : 31 ≤ x0) : 1 < x0 := by omega
theorem la_makeFunction_27 {x0 x1 : Int} : (7 : Int) = 6 → 0 ≤ x0 ∧ x0 < x1 := by omega
theorem la_makeFunction_28 {x0 x1 x2 x3 x4 : Int} (h0 : 23 ≤ x0) (h1 : x1 = x0 + 1) (h2 : x2 < x3) (h3 : x2 = x1) (h4 : x4 = 0) : (7 : Int) = 7 → 0 ≤ x2 ∧ x2 < x3 ∧ ¬ x4 = 3 := by omega
theorem la_makeFunction_29 {x0 x1 x2 : Int} (h0 : x0 ≤ 1900000000) : (x1 = 2 → (1 : Int) = 0 → (7 : Int) = 5 ∧ 0 ≤ x2 ∧ x2 ≤ 100) ∧ x0 < 2000000000 := by omega
theorem la_makeFunction_30 : (0 : Int) ≤ 2 := by omega
theorem la_makeFunction_31 {x0 : Int} (h0 : 31 ≤ x0) : 2 < x0 := by omega
theorem la_makeFunction_32 {x0 x1 x2 x3 : Int} (h0 : x0 ≤ 1900000000) (h1 : x1 ≤ x0 + 1) : (x2 = 2 → (2 : Int) = 0 → (7 : Int) = 5 ∧ 0 ≤ x3 ∧ x3 ≤ 100) ∧ x1 < 2000000000 := by omega
theorem la_makeFunction_33 {x0 x1 x2 : Int} (h0 : 23 ≤ x0) (h1 : x1 = x0 + 1) (h2 : x2 = x1 + 1) : 23 ≤ x2 := by omega
theorem la_makeFunction_34 {x0 x1 x2 : Int} (h0 : x0 = x1 + 1) (h1 : x2 = x0 + 1) : x1 ≤ x2 := by omega
theorem la_makeFunction_35 {x0 : Int} : x0 ≤ x0 := by omega
theorem la_makeFunction_36 : (0 : Int) ≤ 0 := by omega
theorem la_makeFunction_37 {x0 : Int} (h0 : x0 ≤ 396) : x0 - 0 ≤ 399 := by omega
theorem la_makeFunction_38 {x0 x1 : Int} (h0 : x0 = x1 + 1) : x0 = x1 - 0 + 1 := by omega
theorem la_makeFunction_39 {x0 : Int} (h0 : x0 = 0) : ¬ ¬ x0 = 0 := by omega
theorem la_makeFunction_40 {x0 x1 : Int} (h0 : x0 = 0) : x0 = 1 → x1 = 1 := by omega
theorem la_makeFunction_41 {x0 : Int} (h0 : 1 ≤ x0) : 0 ≤ x0 := by omega
theorem la_makeFunction_42 {x0 x1 x2 : Int} (h0 : x0 = 1) (h1 : 1 ≤ x1) : x0 = 1 ∨ x1 = 0 ∧ x2 = 0 ∧ (x0 = 2 ∨ x0 = 3) := by omega
theorem la_makeFunction_43 {x0 x1 x2 : Int} (h0 : x0 ≤ x1) (h1 : x1 ≤ x2) : x0 ≤ x2 := by omega
theorem la_makeFunction_44 {x0 x1 x2 : Int} (h0 : x0 ≤ x1 + 1) (h1 : x2 ≤ x0 + 1) : x2 ≤ x1 + 110 := by omega
theorem la_makeFunction_45 {x0 : Int} (h0 : 0 ≤ x0) (h1 : ¬ x0 = 0) : 0 < x0 := by omega
theorem la_makeFunction_46 {x0 x1 : Int} (h0 : x0 = 0) (h1 : 0 < x1) : ¬ x1 = x0 := by omega
theorem la_makeFunction_47 {x0 x1 : Int} (h0 : 0 ≤ x0) (h1 : x1 = x0) : 0 ≤ x1 := by omega
theorem la_makeFunction_48 {x0 x1 x2 : Int} (h0 : x0 = x1) (h1 : x1 + 1 < x2) : x0 < x2 := by omega
theorem la_makeFunction_49 {x0 x1 x2 : Int} (h0 : x0 = x1) (h1 : x2 = x0) : x2 = x1 := by omega
theorem la_makeFunction_50 {x0 x1 x2 : Int} (h0 : x0 = x1) (h1 : x2 = x1) : x0 = x2 := by omega
theorem la_makeFunction_51 {x0 : Int} : x0 = x0 - 1 + 1 := by omega
theorem la_makeFunction_52 {x0 x1 x2 : Int} (h0 : x0 = x1) (h1 : x2 = x1) : x2 = x0 := by omega
theorem la_makeFunction_53 {x0 x1 x2 : Int} (h0 : x0 = 1) (h1 : 1 ≤ x1) (h2 : 0 < x2) : x0 = 1 ∨ x1 = 0 ∧ x2 = 0 ∧ (x0 = 2 ∨ x0 = 3) := by omega
theorem la_makeFunction_54 {x0 x1 : Int} (h0 : x0 ≤ x1 + 1) : x0 ≤ x1 + 110 := by omega
theorem la_makeFunction_55 {x0 : Int} (h0 : x0 ≤ 1) (h1 : 0 < x0) : x0 = 1 := by omega
theorem la_makeFunction_56 {x0 x1 : Int} (h0 : 0 < x0) (h1 : x0 = 0) : x1 = 6 := by omega
theorem la_makeFunction_57 {x0 x1 : Int} (h0 : 0 < x0) (h1 : x0 = 0) : x1 = 7 := by omega
theorem la_makeFunction_58 {x0 x1 : Int} (h0 : 0 < x0) (h1 : x0 = 0) : x1 < 300 := by omega
theorem la_makeFunction_59 {x0 x1 x2 : Int} (h0 : 23 ≤ x0) (h1 : x1 = x0 + 1) (h2 : x1 ≤ x2) : 23 ≤ x2 := by omega
theorem la_makeFunction_60 {x0 x1 : Int} (h0 : x0 = 0) (h1 : x1 ≤ 1) : x0 = 1 → x1 = 1 := by omega
theorem la_makeFunction_61 {x0 x1 x2 : Int} (h0 : x0 = x1 + 1) (h1 : x0 ≤ x2) : x1 ≤ x2 := by omega
theorem la_makeFunction_62 {x0 x1 x2 x3 : Int} (h0 : x0 = x1) (h1 : x0 = x1 + 1) : x2 < x3 := by omega
theorem la_makeFunction_63 {x0 x1 x2 x3 x4 : Int} (h0 : x0 = x1) (h1 : x2 = x3) (h2 : x4 < x1) (h3 : x2 = x3 + 1) : x0 = x4 := by omega
theorem la_makeFunction_64 {x0 x1 x2 : Int} (h0 : x0 = 1) (h1 : x0 = x1) (h2 : x1 = x2) : x2 ≤ 3 := by omega
theorem la_makeFunction_65 {x0 : Int} : x0 ≤ x0 + 110 := by omega
theorem la_makeFunction_66 {x0 x1 : Int} (h0 : x0 ≤ 7) (h1 : 0 < x1) (h2 : x1 = 0) : x0 = 7 := by omega
theorem la_makeFunction_67 {x0 x1 : Int} (h0 : 23 ≤ x0) (h1 : x0 ≤ x1) : 23 ≤ x1 := by omega
set_option maxHeartbeats 2000000 in
theorem f_makeFunction : ∀ (p1 : Int) (S : sv_S), sm_ok S → sv_R p1 → ((S 1075 0) = 0 ∧ (S 1073 0) = 1 ∧ sm_LX (S 58) (S 63) (S 64) (S 1092 0) (S 1076 0) ∧ sm_PL (S 1100020) (S 51) (S 52) (S 46) (S 47) (S 1076 0) (S 1086 0) ∧ sm_FR (S 1100020) (S 52) (S 1100021) (S 1100022) (3000 - (S 1084 0)) (S 1085 0) ∧ sm_PV (S 1100020) (S 48) (S 49) (S 50) (S 44) (S 1076 0) (S 1007 0) ∧ sm_AL (S 1100020) (S 48) (S 49) (S 50) (S 44) (S 1076 0) (S 1100032 0) ∧ sm_SV (S 1100020) (S 48) (S 1100029) (S 32) (S 33) (S 1076 0) (S 1032 0) ∧ 0 ≤ (S 1076 0) ∧ (S 1076 0) ≤ 300 ∧ 0 ≤ (S 1084 0) ∧ (S 1084 0) ≤ 3000 ∧ 0 ≤ (S 1086 0) ∧ sm_SC (S 1100029) (S 44) (S 45) (S 43) (S 21) (S 1076 0) (S 1032 0) ∧ sm_PO (S 42) (S 1076 0) ∧ (S 1100032 0) = -1 ∧ sm_FO (S 44) (S 45) (S 1076 0) ∧ 23 ≤ (S 1076 0) ∧ 31 ≤ (S 1007 0) ∧ (S 1007 0) ≤ 400 ∧ sm_LN (S 4) 400 (S 1007 0) ∧ sm_CT (S 26) (S 27) (S 28) (S 29) (S 1100007) (S 1100023) (S 1100024) (S 1100025) (S 21) (S 1046 0) (S 1032 0) (S 1008 0) (S 1055 0) ∧ sm_LS (S 26) (S 1100007) (S 1100025) (S 1046 0) ∧ sm_CL (S 1100007) (S 1100023) (S 1100025) (S 1046 0) ∧ 1 ≤ (S 1032 0) ∧ (S 1032 0) ≤ 11 ∧ 0 ≤ (S 1046 0) ∧ (S 1046 0) ≤ 600 ∧ 31 ≤ (S 1008 0) ∧ (S 1008 0) ≤ (S 1007 0) ∧ 0 ≤ (S 1055 0) ∧ (S 1055 0) ≤ 19 ∧ 1 ≤ (S 1092 0) ∧ (S 1092 0) ≤ 24 ∧ 0 ≤ (S 1100033 0) ∧ (S 1100033 0) < (S 1046 0) ∧ (S 29 (S 1100033 0)) = (S 53 ((S 1092 0) - 1)) ∧ 0 ≤ (S 53 ((S 1092 0) - 1)) ∧ (S 53 ((S 1092 0) - 1)) < (S 1032 0) ∧ (S 60 ((S 1092 0) - 1)) = sm_dp (S 1100024) (S 1100023 (S 1100033 0)) ∧ sm_TC (S 61) (S 62) (S 27) (S 1100007) (S 1100023) (S 1100024) (40 * ((S 1092 0) - 1)) (S 1100023 (S 1100033 0)) ∧ sm_LK (S 1100029) (S 1076 0) (S 54 ((S 1092 0) - 1)) (S 53 ((S 1092 0) - 1)) ∧ sm_VO (S 44) (S 1076 0) (S 1007 0) ((S 55 ((S 1092 0) - 1))) ((S 56 ((S 1092 0) - 1))) ∧ sm_FW (S 44) (S 1076 0) (S 59 ((S 1092 0) - 1)) ∧ sm_FL (S 53) (S 54) (S 55) (S 56) (S 57) (S 58) (S 59) (S 60) (S 61) (S 62) (S 63) (S 64) (S 27) (S 29) (S 1100007) (S 1100023) (S 1100024) (S 1100025) (S 26) (S 1100029) (S 44) (S 1046 0) (S 1032 0) (S 1076 0) (S 1007 0) (((S 1092 0) - 1)) ∧ (S 57 ((S 1092 0) - 1)) = (S 1100033 0) ∧ 0 ≤ (S 58 ((S 1092 0) - 1)) ∧ (S 58 ((S 1092 0) - 1)) ≤ 400 ∧ sm_SK (S 63) (S 64) (S 44) (S 1100007) (S 1100025) (S 1076 0) (S 1007 0) (400 * ((S 1092 0) - 1)) ((S 58 ((S 1092 0) - 1))) ((S 1100034 0)) ∧ -1 ≤ (S 1100034 0) ∧ (S 1100034 0) < (S 1046 0) ∧ (0 ≤ (S 1100034 0) → (S 26 (S 1100034 0)) = 29) ∧ (S 58 ((S 1092 0) - 1)) = (S 1100007 (S 1100033 0)) ∧ (S 1100034 0) = (S 1100025 (S 1100033 0)) ∧ (0 ≤ (S 1100023 (S 1100033 0)) → (S 1100007 (S 1100023 (S 1100033 0))) ≤ (S 58 ((S 1092 0) - 1))) ∧ (S 58 ((S 1092 0) - 1)) ≤ 396 ∧ 0 ≤ (S 58 ((S 1092 0) - 1)) ∧ (0 ≤ (S 1100034 0) → (S 1100007 (S 1100034 0)) ≤ (S 58 ((S 1092 0) - 1)) - 0) ∧ (S 1100033 0) + 1 < (S 1046 0) ∧ (S 29 ((S 1100033 0) + 1)) = (S 29 (S 1100033 0)) ∧ (S 1100007 ((S 1100033 0) + 1)) = (S 58 ((S 1092 0) - 1)) + 1 ∧ (S 1100023 ((S 1100033 0) + 1)) = (S 1100023 (S 1100033 0)) ∧ (S 1100025 ((S 1100033 0) + 1)) = (S 1100034 0) ∧ (S 1086 0) ≤ 1900000000 ∧ 1 ≤ p1 ∧ p1 < (S 1032 0) ∧ (S 21 p1) = (S 53 ((S 1092 0) - 1))) → (∀ x1 : Int, ((29 : Int) + ((6 : Int) * (p1 - (1 : Int)))) = x1 → (sv_R (x1 + (2 : Int))) ∧ (sm_PL (S 1100020) (S 51) (S 52) (S 46) (S 47) (S 1076 0) (S 1086 0) ∧ sm_FR (S 1100020) (S 52) (S 1100021) (S 1100022) (3000 - (S 1084 0)) (S 1085 0) ∧ sm_PV (S 1100020) (S 48) (S 49) (S 50) (S 44) (S 1076 0) (S 1007 0) ∧ sm_AL (S 1100020) (S 48) (S 49) (S 50) (S 44) (S 1076 0) (S 1100032 0) ∧ sm_SV (S 1100020) (S 48) (S 1100029) (S 32) (S 33) (S 1076 0) (S 1032 0) ∧ 0 ≤ (S 1076 0) ∧ (S 1076 0) ≤ 300 ∧ 0 ≤ (S 1084 0) ∧ (S 1084 0) ≤ 3000 ∧ 0 ≤ (S 1086 0) ∧ sm_SC (S 1100029) (S 44) (S 45) (S 43) (S 21) (S 1076 0) (S 1032 0) ∧ sm_PO (S 42) (S 1076 0) ∧ ((2 : Int) = -1 ∨ (0 ≤ (2 : Int) ∧ (2 : Int) < (S 1076 0)) ∨ ((S 1076 0) = 0 ∧ (2 : Int) = 1)) ∧ ((S 1076 0) = 1 → (2 : Int) = -1) ∧ 0 ≤ (x1 + (2 : Int)) ∧ (x1 + (2 : Int)) ≤ 1000 ∧ 0 ≤ (1 : Int) ∧ (1 : Int) ≤ 3 ∧ ((1 : Int) = 2 → (S 1100032 0) = (S 1076 0))) ∧ (∀ r9 : Int, sv_R r9 → ∀ g5 : sv_S, (sm_PL (S 1100020) (S 51) (S 52) (g5 46) (g5 47) (g5 1076 0) (S 1086 0) ∧ sm_FR (S 1100020) (S 52) (S 1100021) (S 1100022) (3000 - (S 1084 0)) (S 1085 0) ∧ sm_PV (S 1100020) (S 48) (S 49) (S 50) (g5 44) (g5 1076 0) (S 1007 0) ∧ sm_AL (S 1100020) (S 48) (S 49) (S 50) (g5 44) (g5 1076 0) (S 1100032 0) ∧ sm_SV (S 1100020) (S 48) (g5 1100029) (S 32) (S 33) (g5 1076 0) (S 1032 0) ∧ 0 ≤ (g5 1076 0) ∧ (g5 1076 0) ≤ 300 ∧ 0 ≤ (S 1084 0) ∧ (S 1084 0) ≤ 3000 ∧ 0 ≤ (S 1086 0) ∧ sm_SC (g5 1100029) (g5 44) (g5 45) (g5 43) (S 21) (g5 1076 0) (S 1032 0) ∧ sm_PO (g5 42) (g5 1076 0) ∧ 0 ≤ r9 ∧ r9 < (g5 1076 0) ∧ ((S 1075 0) = 1 → (g5 1075 0) = 1) ∧ (S 1076 0) ≤ (g5 1076 0) ∧ sm_F1 (S 44) (g5 44) (S 1076 0) ∧ sm_F1 (S 1100029) (g5 1100029) (S 1076 0) ∧ sm_F1 (S 42) (g5 42) (S 1076 0) ∧ sm_F1 (S 43) (g5 43) (S 1076 0) ∧ sm_F1 (S 45) (g5 45) (S 1076 0) ∧ ((g5 1075 0) = 0 → r9 = (S 1076 0) ∧ (g5 1076 0) = r9 + 1 ∧ (g5 44 r9) = (1 : Int) ∧ (g5 1100029 r9) = 0 ∧ (g5 45 r9) = 0 ∧ (g5 43 r9) = -1 ∧ (g5 42 r9) = (2 : Int)) ∧ ((g5 1076 0) = (S 1076 0) → r9 = 0) ∧ ((g5 1075 0) = 1 → (S 1075 0) = 0 → (g5 1076 0) = (S 1076 0)) ∧ (sm_FO (S 44) (S 45) (S 1076 0) → (¬ (1 : Int) = 1 ∨ (9 ≤ (S 1076 0) ∧ (S 1076 0) < 23)) → (1 ≤ (S 1076 0) ∨ ((S 1076 0) = 0 ∧ (1 : Int) = 0)) → sm_FO (g5 44) (g5 45) (g5 1076 0)) ∧ ((S 1076 0) < 300 → (g5 1075 0) = (S 1075 0) ∧ (g5 1076 0) = (S 1076 0) + 1)) → ((0 ≤ (g5 1075 0) ∧ (g5 1075 0) ≤ 1) → ((((g5 1075 0) = (0 : Int)) → (sv_R (S 1092 0) → (0 ≤ ((S 1092 0) - (1 : Int)) ∧ ((S 1092 0) - (1 : Int)) < 24) ∧ (sv_R (S 54 ((S 1092 0) - (1 : Int))) → ((0 ≤ r9 → r9 < (g5 1076 0) → ¬ (g5 44 r9) = 3 → sm_VO (g5 44) (g5 1076 0) (S 1007 0) (7) (r9)) → (0 ≤ r9 ∧ r9 < 300) ∧ (sv_R (x1 + (4 : Int))) ∧ (sm_PL (S 1100020) (S 51) (S 52) (g5 46) (g5 47) (g5 1076 0) (S 1086 0) ∧ sm_FR (S 1100020) (S 52) (S 1100021) (S 1100022) (3000 - (S 1084 0)) (S 1085 0) ∧ sm_PV (S 1100020) (S 48) (S 49) (S 50) (g5 44) (g5 1076 0) (S 1007 0) ∧ sm_AL (S 1100020) (S 48) (S 49) (S 50) (g5 44) (g5 1076 0) (S 1100032 0) ∧ sm_SV (S 1100020) (S 48) (g5 1100029) (S 32) (S 33) (g5 1076 0) (S 1032 0) ∧ 0 ≤ (g5 1076 0) ∧ (g5 1076 0) ≤ 300 ∧ 0 ≤ (S 1084 0) ∧ (S 1084 0) ≤ 3000 ∧ 0 ≤ (S 1086 0) ∧ sm_SC (g5 1100029) (g5 44) (fun i' : Int => if i' = r9 then p1 else (g5 45) i') (fun i' : Int => if i' = r9 then (S 54 ((S 1092 0) - (1 : Int))) else (g5 43) i') (S 21) (g5 1076 0) (S 1032 0) ∧ sm_PO (g5 42) (g5 1076 0) ∧ ((1 : Int) = -1 ∨ (0 ≤ (1 : Int) ∧ (1 : Int) < (g5 1076 0)) ∨ ((g5 1076 0) = 0 ∧ (1 : Int) = 1)) ∧ ((g5 1076 0) = 1 → (1 : Int) = -1) ∧ 0 ≤ (x1 + (4 : Int)) ∧ (x1 + (4 : Int)) ≤ 1000 ∧ 0 ≤ (0 : Int) ∧ (0 : Int) ≤ 3 ∧ ((0 : Int) = 2 → (S 1100032 0) = (g5 1076 0))) ∧ (∀ r27 : Int, sv_R r27 → ∀ g23 : sv_S, (sm_PL (S 1100020) (S 51) (S 52) (g23 46) (g23 47) (g23 1076 0) (S 1086 0) ∧ sm_FR (S 1100020) (S 52) (S 1100021) (S 1100022) (3000 - (S 1084 0)) (S 1085 0) ∧ sm_PV (S 1100020) (S 48) (S 49) (S 50) (g23 44) (g23 1076 0) (S 1007 0) ∧ sm_AL (S 1100020) (S 48) (S 49) (S 50) (g23 44) (g23 1076 0) (S 1100032 0) ∧ sm_SV (S 1100020) (S 48) (g23 1100029) (S 32) (S 33) (g23 1076 0) (S 1032 0) ∧ 0 ≤ (g23 1076 0) ∧ (g23 1076 0) ≤ 300 ∧ 0 ≤ (S 1084 0) ∧ (S 1084 0) ≤ 3000 ∧ 0 ≤ (S 1086 0) ∧ sm_SC (g23 1100029) (g23 44) (g23 45) (g23 43) (S 21) (g23 1076 0) (S 1032 0) ∧ sm_PO (g23 42) (g23 1076 0) ∧ 0 ≤ r27 ∧ r27 < (g23 1076 0) ∧ ((g5 1075 0) = 1 → (g23 1075 0) = 1) ∧ (g5 1076 0) ≤ (g23 1076 0) ∧ sm_F1 (g5 44) (g23 44) (g5 1076 0) ∧ sm_F1 (g5 1100029) (g23 1100029) (g5 1076 0) ∧ sm_F1 (g5 42) (g23 42) (g5 1076 0) ∧ sm_F1 (fun i' : Int => if i' = r9 then (S 54 ((S 1092 0) - (1 : Int))) else (g5 43) i') (g23 43) (g5 1076 0) ∧ sm_F1 (fun i' : Int => if i' = r9 then p1 else (g5 45) i') (g23 45) (g5 1076 0) ∧ ((g23 1075 0) = 0 → r27 = (g5 1076 0) ∧ (g23 1076 0) = r27 + 1 ∧ (g23 44 r27) = (0 : Int) ∧ (g23 1100029 r27) = 0 ∧ (g23 45 r27) = 0 ∧ (g23 43 r27) = -1 ∧ (g23 42 r27) = (1 : Int)) ∧ ((g23 1076 0) = (g5 1076 0) → r27 = 0) ∧ ((g23 1075 0) = 1 → (g5 1075 0) = 0 → (g23 1076 0) = (g5 1076 0)) ∧ (sm_FO (g5 44) (fun i' : Int => if i' = r9 then p1 else (g5 45) i') (g5 1076 0) → (¬ (0 : Int) = 1 ∨ (9 ≤ (g5 1076 0) ∧ (g5 1076 0) < 23)) → (1 ≤ (g5 1076 0) ∨ ((g5 1076 0) = 0 ∧ (0 : Int) = 0)) → sm_FO (g23 44) (g23 45) (g23 1076 0)) ∧ ((g5 1076 0) < 300 → (g23 1075 0) = (g5 1075 0) ∧ (g23 1076 0) = (g5 1076 0) + 1)) → ((0 ≤ (g23 1075 0) ∧ (g23 1075 0) ≤ 1) → ((((g23 1075 0) = (0 : Int)) → (sm_PL (S 1100020) (S 51) (S 52) (g23 46) (g23 47) (g23 1076 0) (S 1086 0) ∧ sm_FR (S 1100020) (S 52) (S 1100021) (S 1100022) (3000 - (S 1084 0)) (S 1085 0) ∧ sm_PV (S 1100020) (S 48) (S 49) (S 50) (g23 44) (g23 1076 0) (S 1007 0) ∧ sm_AL (S 1100020) (S 48) (S 49) (S 50) (g23 44) (g23 1076 0) (S 1100032 0) ∧ sm_SV (S 1100020) (S 48) (g23 1100029) (S 32) (S 33) (g23 1076 0) (S 1032 0) ∧ 0 ≤ (g23 1076 0) ∧ (g23 1076 0) ≤ 300 ∧ 0 ≤ (S 1084 0) ∧ (S 1084 0) ≤ 3000 ∧ 0 ≤ (S 1086 0) ∧ 0 ≤ r9 ∧ r9 < (g23 1076 0) ∧ 0 ≤ (1 : Int) ∧ (1 : Int) < (S 1007 0) ∧ sm_VO (g23 44) (g23 1076 0) (S 1007 0) ((7 : Int)) (r27) ∧ ((g23 44 r9) = 2 → (1 : Int) = 0 → (7 : Int) = 5 ∧ 0 ≤ r27 ∧ r27 ≤ 100) ∧ (S 1086 0) < 2000000000) ∧ (∀ g31 : sv_S, (sm_PL (g31 1100020) (g31 51) (g31 52) (g31 46) (g31 47) (g23 1076 0) (g31 1086 0) ∧ sm_FR (g31 1100020) (g31 52) (g31 1100021) (g31 1100022) (3000 - (g31 1084 0)) (g31 1085 0) ∧ sm_PV (g31 1100020) (g31 48) (g31 49) (g31 50) (g23 44) (g23 1076 0) (S 1007 0) ∧ sm_AL (g31 1100020) (g31 48) (g31 49) (g31 50) (g23 44) (g23 1076 0) (S 1100032 0) ∧ sm_SV (g31 1100020) (g31 48) (g23 1100029) (S 32) (S 33) (g23 1076 0) (S 1032 0) ∧ 0 ≤ (g23 1076 0) ∧ (g23 1076 0) ≤ 300 ∧ 0 ≤ (g31 1084 0) ∧ (g31 1084 0) ≤ 3000 ∧ 0 ≤ (g31 1086 0) ∧ sm_KP (S 1100020) (S 48) (g31 1100020) (g31 48) ∧ ((g23 1075 0) = 1 → (g31 1075 0) = 1) ∧ ((g31 1075 0) = 0 → sm_HN (g31 1100020) (g31 48) r9 (1 : Int)) ∧ (S 1086 0) ≤ (g31 1086 0) ∧ (g31 1086 0) ≤ (S 1086 0) + 1 ∧ ((S 1084 0) < 3000 → (g31 1075 0) = (g23 1075 0)) ∧ (g31 1084 0) ≤ (S 1084 0) + 1) → ((0 ≤ (g31 1075 0) ∧ (g31 1075 0) ≤ 1) → ((((g31 1075 0) = (0 : Int)) → (sm_PL (g31 1100020) (g31 51) (g31 52) (g31 46) (g31 47) (g23 1076 0) (g31 1086 0) ∧ sm_FR (g31 1100020) (g31 52) (g31 1100021) (g31 1100022) (3000 - (g31 1084 0)) (g31 1085 0) ∧ sm_PV (g31 1100020) (g31 48) (g31 49) (g31 50) (g23 44) (g23 1076 0) (S 1007 0) ∧ sm_AL (g31 1100020) (g31 48) (g31 49) (g31 50) (g23 44) (g23 1076 0) (S 1100032 0) ∧ sm_SV (g31 1100020) (g31 48) (g23 1100029) (S 32) (S 33) (g23 1076 0) (S 1032 0) ∧ 0 ≤ (g23 1076 0) ∧ (g23 1076 0) ≤ 300 ∧ 0 ≤ (g31 1084 0) ∧ (g31 1084 0) ≤ 3000 ∧ 0 ≤ (g31 1086 0) ∧ 0 ≤ r27 ∧ r27 < (g23 1076 0) ∧ 0 ≤ (2 : Int) ∧ (2 : Int) < (S 1007 0) ∧ sm_VO (g23 44) (g23 1076 0) (S 1007 0) ((7 : Int)) (r9) ∧ ((g23 44 r27) = 2 → (2 : Int) = 0 → (7 : Int) = 5 ∧ 0 ≤ r9 ∧ r9 ≤ 100) ∧ (g31 1086 0) < 2000000000) ∧ (∀ g38 : sv_S, (sm_PL (g38 1100020) (g38 51) (g38 52) (g38 46) (g38 47) (g23 1076 0) (g38 1086 0) ∧ sm_FR (g38 1100020) (g38 52) (g38 1100021) (g38 1100022) (3000 - (g38 1084 0)) (g38 1085 0) ∧ sm_PV (g38 1100020) (g38 48) (g38 49) (g38 50) (g23 44) (g23 1076 0) (S 1007 0) ∧ sm_AL (g38 1100020) (g38 48) (g38 49) (g38 50) (g23 44) (g23 1076 0) (S 1100032 0) ∧ sm_SV (g38 1100020) (g38 48) (g23 1100029) (S 32) (S 33) (g23 1076 0) (S 1032 0) ∧ 0 ≤ (g23 1076 0) ∧ (g23 1076 0) ≤ 300 ∧ 0 ≤ (g38 1084 0) ∧ (g38 1084 0) ≤ 3000 ∧ 0 ≤ (g38 1086 0) ∧ sm_KP (g31 1100020) (g31 48) (g38 1100020) (g38 48) ∧ ((g31 1075 0) = 1 → (g38 1075 0) = 1) ∧ ((g38 1075 0) = 0 → sm_HN (g38 1100020) (g38 48) r27 (2 : Int)) ∧ (g31 1086 0) ≤ (g38 1086 0) ∧ (g38 1086 0) ≤ (g31 1086 0) + 1 ∧ ((g31 1084 0) < 3000 → (g38 1075 0) = (g31 1075 0)) ∧ (g38 1084 0) ≤ (g31 1084 0) + 1) → (∀ g43 : sv_S, ((g43 1111 0) = (7 : Int) ∧ (g43 1112 0) = r9) → (((g38 1075 0) = 0 → (S 1073 0) = 1 → sm_PL (g38 1100020) (g38 51) (g38 52) (g38 46) (g38 47) (g23 1076 0) (g38 1086 0) ∧ sm_FR (g38 1100020) (g38 52) (g38 1100021) (g38 1100022) (3000 - (g38 1084 0)) (g38 1085 0) ∧ sm_PV (g38 1100020) (g38 48) (g38 49) (g38 50) (g23 44) (g23 1076 0) (S 1007 0) ∧ sm_AL (g38 1100020) (g38 48) (g38 49) (g38 50) (g23 44) (g23 1076 0) (S 1100032 0) ∧ sm_SV (g38 1100020) (g38 48) (g23 1100029) (S 32) (S 33) (g23 1076 0) (S 1032 0) ∧ 0 ≤ (g23 1076 0) ∧ (g23 1076 0) ≤ 300 ∧ 0 ≤ (g38 1084 0) ∧ (g38 1084 0) ≤ 3000 ∧ 0 ≤ (g38 1086 0) ∧ sm_SC (g23 1100029) (g23 44) (g23 45) (g23 43) (S 21) (g23 1076 0) (S 1032 0) ∧ sm_PO (g23 42) (g23 1076 0) ∧ (S 1100032 0) = -1 ∧ sm_FO (g23 44) (g23 45) (g23 1076 0) ∧ 23 ≤ (g23 1076 0) ∧ 31 ≤ (S 1007 0) ∧ (S 1007 0) ≤ 400 ∧ sm_LN (S 4) 400 (S 1007 0) ∧ sm_CT (S 26) (S 27) (S 28) (S 29) (S 1100007) (S 1100023) (S 1100024) (S 1100025) (S 21) (S 1046 0) (S 1032 0) (S 1008 0) (S 1055 0) ∧ sm_LS (S 26) (S 1100007) (S 1100025) (S 1046 0) ∧ sm_CL (S 1100007) (S 1100023) (S 1100025) (S 1046 0) ∧ 1 ≤ (S 1032 0) ∧ (S 1032 0) ≤ 11 ∧ 0 ≤ (S 1046 0) ∧ (S 1046 0) ≤ 600 ∧ 31 ≤ (S 1008 0) ∧ (S 1008 0) ≤ (S 1007 0) ∧ 0 ≤ (S 1055 0) ∧ (S 1055 0) ≤ 19 ∧ 1 ≤ (S 1092 0) ∧ (S 1092 0) ≤ 24 ∧ 0 ≤ (S 1100033 0) ∧ (S 1100033 0) < (S 1046 0) ∧ (S 29 (S 1100033 0)) = (S 53 ((S 1092 0) - 1)) ∧ 0 ≤ (S 53 ((S 1092 0) - 1)) ∧ (S 53 ((S 1092 0) - 1)) < (S 1032 0) ∧ (S 60 ((S 1092 0) - 1)) = sm_dp (S 1100024) (S 1100023 (S 1100033 0)) ∧ sm_TC (S 61) (S 62) (S 27) (S 1100007) (S 1100023) (S 1100024) (40 * ((S 1092 0) - 1)) (S 1100023 (S 1100033 0)) ∧ sm_LK (g23 1100029) (g23 1076 0) (S 54 ((S 1092 0) - 1)) (S 53 ((S 1092 0) - 1)) ∧ sm_VO (g23 44) (g23 1076 0) (S 1007 0) ((S 55 ((S 1092 0) - 1))) ((S 56 ((S 1092 0) - 1))) ∧ sm_FW (g23 44) (g23 1076 0) (S 59 ((S 1092 0) - 1)) ∧ sm_FL (S 53) (S 54) (S 55) (S 56) (S 57) (S 58) (S 59) (S 60) (S 61) (S 62) (S 63) (S 64) (S 27) (S 29) (S 1100007) (S 1100023) (S 1100024) (S 1100025) (S 26) (g23 1100029) (g23 44) (S 1046 0) (S 1032 0) (g23 1076 0) (S 1007 0) (((S 1092 0) - 1)) ∧ (S 57 ((S 1092 0) - 1)) = (S 1100033 0) ∧ 0 ≤ (S 58 ((S 1092 0) - 1)) ∧ (S 58 ((S 1092 0) - 1)) ≤ 400 ∧ sm_SK (S 63) (S 64) (g23 44) (S 1100007) (S 1100025) (g23 1076 0) (S 1007 0) (400 * ((S 1092 0) - 1)) ((S 58 ((S 1092 0) - 1))) ((S 1100034 0)) ∧ -1 ≤ (S 1100034 0) ∧ (S 1100034 0) < (S 1046 0) ∧ (0 ≤ (S 1100034 0) → (S 26 (S 1100034 0)) = 29) ∧ 0 ≤ (0 : Int) ∧ (0 : Int) ≤ (S 58 ((S 1092 0) - 1)) ∧ (S 58 ((S 1092 0) - 1)) - (0 : Int) ≤ 399 ∧ sm_VO (g23 44) (g23 1076 0) (S 1007 0) ((g43 1111 0)) ((g43 1112 0)) ∧ (0 ≤ (S 1100034 0) → (S 1100007 (S 1100034 0)) ≤ (S 58 ((S 1092 0) - 1)) - (0 : Int)) ∧ (S 1100033 0) + 1 < (S 1046 0) ∧ (S 29 ((S 1100033 0) + 1)) = (S 29 (S 1100033 0)) ∧ (S 1100007 ((S 1100033 0) + 1)) = (S 58 ((S 1092 0) - 1)) - (0 : Int) + 1 ∧ (S 1100023 ((S 1100033 0) + 1)) = (S 1100023 (S 1100033 0)) ∧ (S 1100025 ((S 1100033 0) + 1)) = (S 1100034 0)) ∧ (¬ (g38 1075 0) = 0 → sm_LX (S 58) (S 63) (S 64) (S 1092 0) (g23 1076 0))) ∧ (∀ g49 : sv_S, (((g38 1075 0) = 0 → (S 1073 0) = 1 → 1 ≤ (S 1092 0) ∧ (S 1092 0) ≤ 24 ∧ 0 ≤ (g49 57 ((S 1092 0) - 1)) ∧ (g49 57 ((S 1092 0) - 1)) < (S 1046 0) ∧ (S 29 (g49 57 ((S 1092 0) - 1))) = (S 53 ((S 1092 0) - 1)) ∧ 0 ≤ (S 53 ((S 1092 0) - 1)) ∧ (S 53 ((S 1092 0) - 1)) < (S 1032 0) ∧ (S 60 ((S 1092 0) - 1)) = sm_dp (S 1100024) (S 1100023 (g49 57 ((S 1092 0) - 1))) ∧ sm_TC (S 61) (S 62) (S 27) (S 1100007) (S 1100023) (S 1100024) (40 * ((S 1092 0) - 1)) (S 1100023 (g49 57 ((S 1092 0) - 1))) ∧ sm_LK (g23 1100029) (g23 1076 0) (S 54 ((S 1092 0) - 1)) (S 53 ((S 1092 0) - 1)) ∧ sm_VO (g23 44) (g23 1076 0) (S 1007 0) ((S 55 ((S 1092 0) - 1))) ((S 56 ((S 1092 0) - 1))) ∧ sm_FW (g23 44) (g23 1076 0) (S 59 ((S 1092 0) - 1)) ∧ sm_FL (S 53) (S 54) (S 55) (S 56) (g49 57) (g49 58) (S 59) (S 60) (S 61) (S 62) (g49 63) (g49 64) (S 27) (S 29) (S 1100007) (S 1100023) (S 1100024) (S 1100025) (S 26) (g23 1100029) (g23 44) (S 1046 0) (S 1032 0) (g23 1076 0) (S 1007 0) (((S 1092 0) - 1)) ∧ (g49 58 ((S 1092 0) - 1)) = (S 1100007 (g49 57 ((S 1092 0) - 1))) ∧ sm_SK (g49 63) (g49 64) (g23 44) (S 1100007) (S 1100025) (g23 1076 0) (S 1007 0) (400 * ((S 1092 0) - 1)) ((g49 58 ((S 1092 0) - 1))) ((S 1100025 (g49 57 ((S 1092 0) - 1))))) ∧ (¬ (g38 1075 0) = 0 → sm_LX (g49 58) (g49 63) (g49 64) (S 1092 0) (g23 1076 0))) → (sm_PL (g38 1100020) (g38 51) (g38 52) (g38 46) (g38 47) (g23 1076 0) (g38 1086 0) ∧ sm_FR (g38 1100020) (g38 52) (g38 1100021) (g38 1100022) (3000 - (g38 1084 0)) (g38 1085 0) ∧ sm_PV (g38 1100020) (g38 48) (g38 49) (g38 50) (g23 44) (g23 1076 0) (S 1007 0) ∧ sm_AL (g38 1100020) (g38 48) (g38 49) (g38 50) (g23 44) (g23 1076 0) (S 1100032 0) ∧ sm_SV (g38 1100020) (g38 48) (g23 1100029) (S 32) (S 33) (g23 1076 0) (S 1032 0) ∧ 0 ≤ (g23 1076 0) ∧ (g23 1076 0) ≤ 300 ∧ 0 ≤ (g38 1084 0) ∧ (g38 1084 0) ≤ 3000 ∧ 0 ≤ (g38 1086 0) ∧ sm_SC (g23 1100029) (g23 44) (g23 45) (g23 43) (S 21) (g23 1076 0) (S 1032 0) ∧ sm_PO (g23 42) (g23 1076 0) ∧ ((g38 1075 0) = 0 → (S 1100032 0) = -1 ∧ sm_FO (g23 44) (g23 45) (g23 1076 0)) ∧ 23 ≤ (g23 1076 0) ∧ 31 ≤ (S 1007 0) ∧ (S 1007 0) ≤ 400 ∧ sm_LN (S 4) 400 (S 1007 0) ∧ (S 1008 0) ≤ (S 1007 0) ∧ ((S 1075 0) = 1 → (g38 1075 0) = 1) ∧ 0 ≤ (S 1092 0) ∧ (S 1092 0) ≤ 24 ∧ (S 1007 0) ≤ (S 1007 0) ∧ (¬ (g38 1075 0) = 0 → sm_LX (g49 58) (g49 63) (g49 64) (S 1092 0) (g23 1076 0)) ∧ ((g38 1075 0) = 0 → (S 1073 0) = 1 → 1 ≤ (S 1092 0) ∧ (S 1092 0) ≤ 24 ∧ 0 ≤ (g49 57 ((S 1092 0) - 1)) ∧ (g49 57 ((S 1092 0) - 1)) < (S 1046 0) ∧ (S 29 (g49 57 ((S 1092 0) - 1))) = (S 53 ((S 1092 0) - 1)) ∧ 0 ≤ (S 53 ((S 1092 0) - 1)) ∧ (S 53 ((S 1092 0) - 1)) < (S 1032 0) ∧ (S 60 ((S 1092 0) - 1)) = sm_dp (S 1100024) (S 1100023 (g49 57 ((S 1092 0) - 1))) ∧ sm_TC (S 61) (S 62) (S 27) (S 1100007) (S 1100023) (S 1100024) (40 * ((S 1092 0) - 1)) (S 1100023 (g49 57 ((S 1092 0) - 1))) ∧ sm_LK (g23 1100029) (g23 1076 0) (S 54 ((S 1092 0) - 1)) (S 53 ((S 1092 0) - 1)) ∧ sm_VO (g23 44) (g23 1076 0) (S 1007 0) ((S 55 ((S 1092 0) - 1))) ((S 56 ((S 1092 0) - 1))) ∧ sm_FW (g23 44) (g23 1076 0) (S 59 ((S 1092 0) - 1)) ∧ sm_FL (S 53) (S 54) (S 55) (S 56) (g49 57) (g49 58) (S 59) (S 60) (S 61) (S 62) (g49 63) (g49 64) (S 27) (S 29) (S 1100007) (S 1100023) (S 1100024) (S 1100025) (S 26) (g23 1100029) (g23 44) (S 1046 0) (S 1032 0) (g23 1076 0) (S 1007 0) (((S 1092 0) - 1)) ∧ (g49 58 ((S 1092 0) - 1)) = (S 1100007 (g49 57 ((S 1092 0) - 1))) ∧ sm_SK (g49 63) (g49 64) (g23 44) (S 1100007) (S 1100025) (g23 1076 0) (S 1007 0) (400 * ((S 1092 0) - 1)) ((g49 58 ((S 1092 0) - 1))) ((S 1100025 (g49 57 ((S 1092 0) - 1))))) ∧ ((S 1073 0) = 1 ∨ (S 1092 0) = 0 ∧ (g38 1075 0) = 0 ∧ ((S 1073 0) = 2 ∨ (S 1073 0) = 3)) ∧ (S 1086 0) ≤ (g38 1086 0) ∧ (g38 1086 0) ≤ (S 1086 0) + 110))))) ∧ ((¬ ((g31 1075 0) = (0 : Int))) → (sm_PL (g31 1100020) (g31 51) (g31 52) (g31 46) (g31 47) (g23 1076 0) (g31 1086 0) ∧ sm_FR (g31 1100020) (g31 52) (g31 1100021) (g31 1100022) (3000 - (g31 1084 0)) (g31 1085 0) ∧ sm_PV (g31 1100020) (g31 48) (g31 49) (g31 50) (g23 44) (g23 1076 0) (S 1007 0) ∧ sm_AL (g31 1100020) (g31 48) (g31 49) (g31 50) (g23 44) (g23 1076 0) (S 1100032 0) ∧ sm_SV (g31 1100020) (g31 48) (g23 1100029) (S 32) (S 33) (g23 1076 0) (S 1032 0) ∧ 0 ≤ (g23 1076 0) ∧ (g23 1076 0) ≤ 300 ∧ 0 ≤ (g31 1084 0) ∧ (g31 1084 0) ≤ 3000 ∧ 0 ≤ (g31 1086 0) ∧ sm_SC (g23 1100029) (g23 44) (g23 45) (g23 43) (S 21) (g23 1076 0) (S 1032 0) ∧ sm_PO (g23 42) (g23 1076 0) ∧ ((g31 1075 0) = 0 → (S 1100032 0) = -1 ∧ sm_FO (g23 44) (g23 45) (g23 1076 0)) ∧ 23 ≤ (g23 1076 0) ∧ 31 ≤ (S 1007 0) ∧ (S 1007 0) ≤ 400 ∧ sm_LN (S 4) 400 (S 1007 0) ∧ (S 1008 0) ≤ (S 1007 0) ∧ ((S 1075 0) = 1 → (g31 1075 0) = 1) ∧ 0 ≤ (S 1092 0) ∧ (S 1092 0) ≤ 24 ∧ (S 1007 0) ≤ (S 1007 0) ∧ (¬ (g31 1075 0) = 0 → sm_LX (S 58) (S 63) (S 64) (S 1092 0) (g23 1076 0)) ∧ ((g31 1075 0) = 0 → (S 1073 0) = 1 → 1 ≤ (S 1092 0) ∧ (S 1092 0) ≤ 24 ∧ 0 ≤ (S 57 ((S 1092 0) - 1)) ∧ (S 57 ((S 1092 0) - 1)) < (S 1046 0) ∧ (S 29 (S 57 ((S 1092 0) - 1))) = (S 53 ((S 1092 0) - 1)) ∧ 0 ≤ (S 53 ((S 1092 0) - 1)) ∧ (S 53 ((S 1092 0) - 1)) < (S 1032 0) ∧ (S 60 ((S 1092 0) - 1)) = sm_dp (S 1100024) (S 1100023 (S 57 ((S 1092 0) - 1))) ∧ sm_TC (S 61) (S 62) (S 27) (S 1100007) (S 1100023) (S 1100024) (40 * ((S 1092 0) - 1)) (S 1100023 (S 57 ((S 1092 0) - 1))) ∧ sm_LK (g23 1100029) (g23 1076 0) (S 54 ((S 1092 0) - 1)) (S 53 ((S 1092 0) - 1)) ∧ sm_VO (g23 44) (g23 1076 0) (S 1007 0) ((S 55 ((S 1092 0) - 1))) ((S 56 ((S 1092 0) - 1))) ∧ sm_FW (g23 44) (g23 1076 0) (S 59 ((S 1092 0) - 1)) ∧ sm_FL (S 53) (S 54) (S 55) (S 56) (S 57) (S 58) (S 59) (S 60) (S 61) (S 62) (S 63) (S 64) (S 27) (S 29) (S 1100007) (S 1100023) (S 1100024) (S 1100025) (S 26) (g23 1100029) (g23 44) (S 1046 0) (S 1032 0) (g23 1076 0) (S 1007 0) (((S 1092 0) - 1)) ∧ (S 58 ((S 1092 0) - 1)) = (S 1100007 (S 57 ((S 1092 0) - 1))) ∧ sm_SK (S 63) (S 64) (g23 44) (S 1100007) (S 1100025) (g23 1076 0) (S 1007 0) (400 * ((S 1092 0) - 1)) ((S 58 ((S 1092 0) - 1))) ((S 1100025 (S 57 ((S 1092 0) - 1))))) ∧ ((S 1073 0) = 1 ∨ (S 1092 0) = 0 ∧ (g31 1075 0) = 0 ∧ ((S 1073 0) = 2 ∨ (S 1073 0) = 3)) ∧ (S 1086 0) ≤ (g31 1086 0) ∧ (g31 1086 0) ≤ (S 1086 0) + 110)))))) ∧ ((¬ ((g23 1075 0) = (0 : Int))) → (sm_PL (S 1100020) (S 51) (S 52) (g23 46) (g23 47) (g23 1076 0) (S 1086 0) ∧ sm_FR (S 1100020) (S 52) (S 1100021) (S 1100022) (3000 - (S 1084 0)) (S 1085 0) ∧ sm_PV (S 1100020) (S 48) (S 49) (S 50) (g23 44) (g23 1076 0) (S 1007 0) ∧ sm_AL (S 1100020) (S 48) (S 49) (S 50) (g23 44) (g23 1076 0) (S 1100032 0) ∧ sm_SV (S 1100020) (S 48) (g23 1100029) (S 32) (S 33) (g23 1076 0) (S 1032 0) ∧ 0 ≤ (g23 1076 0) ∧ (g23 1076 0) ≤ 300 ∧ 0 ≤ (S 1084 0) ∧ (S 1084 0) ≤ 3000 ∧ 0 ≤ (S 1086 0) ∧ sm_SC (g23 1100029) (g23 44) (g23 45) (g23 43) (S 21) (g23 1076 0) (S 1032 0) ∧ sm_PO (g23 42) (g23 1076 0) ∧ ((g23 1075 0) = 0 → (S 1100032 0) = -1 ∧ sm_FO (g23 44) (g23 45) (g23 1076 0)) ∧ 23 ≤ (g23 1076 0) ∧ 31 ≤ (S 1007 0) ∧ (S 1007 0) ≤ 400 ∧ sm_LN (S 4) 400 (S 1007 0) ∧ (S 1008 0) ≤ (S 1007 0) ∧ ((S 1075 0) = 1 → (g23 1075 0) = 1) ∧ 0 ≤ (S 1092 0) ∧ (S 1092 0) ≤ 24 ∧ (S 1007 0) ≤ (S 1007 0) ∧ (¬ (g23 1075 0) = 0 → sm_LX (S 58) (S 63) (S 64) (S 1092 0) (g23 1076 0)) ∧ ((g23 1075 0) = 0 → (S 1073 0) = 1 → 1 ≤ (S 1092 0) ∧ (S 1092 0) ≤ 24 ∧ 0 ≤ (S 57 ((S 1092 0) - 1)) ∧ (S 57 ((S 1092 0) - 1)) < (S 1046 0) ∧ (S 29 (S 57 ((S 1092 0) - 1))) = (S 53 ((S 1092 0) - 1)) ∧ 0 ≤ (S 53 ((S 1092 0) - 1)) ∧ (S 53 ((S 1092 0) - 1)) < (S 1032 0) ∧ (S 60 ((S 1092 0) - 1)) = sm_dp (S 1100024) (S 1100023 (S 57 ((S 1092 0) - 1))) ∧ sm_TC (S 61) (S 62) (S 27) (S 1100007) (S 1100023) (S 1100024) (40 * ((S 1092 0) - 1)) (S 1100023 (S 57 ((S 1092 0) - 1))) ∧ sm_LK (g23 1100029) (g23 1076 0) (S 54 ((S 1092 0) - 1)) (S 53 ((S 1092 0) - 1)) ∧ sm_VO (g23 44) (g23 1076 0) (S 1007 0) ((S 55 ((S 1092 0) - 1))) ((S 56 ((S 1092 0) - 1))) ∧ sm_FW (g23 44) (g23 1076 0) (S 59 ((S 1092 0) - 1)) ∧ sm_FL (S 53) (S 54) (S 55) (S 56) (S 57) (S 58) (S 59) (S 60) (S 61) (S 62) (S 63) (S 64) (S 27) (S 29) (S 1100007) (S 1100023) (S 1100024) (S 1100025) (S 26) (g23 1100029) (g23 44) (S 1046 0) (S 1032 0) (g23 1076 0) (S 1007 0) (((S 1092 0) - 1)) ∧ (S 58 ((S 1092 0) - 1)) = (S 1100007 (S 57 ((S 1092 0) - 1))) ∧ sm_SK (S 63) (S 64) (g23 44) (S 1100007) (S 1100025) (g23 1076 0) (S 1007 0) (400 * ((S 1092 0) - 1)) ((S 58 ((S 1092 0) - 1))) ((S 1100025 (S 57 ((S 1092 0) - 1))))) ∧ ((S 1073 0) = 1 ∨ (S 1092 0) = 0 ∧ (g23 1075 0) = 0 ∧ ((S 1073 0) = 2 ∨ (S 1073 0) = 3)) ∧ (S 1086 0) ≤ (S 1086 0) ∧ (S 1086 0) ≤ (S 1086 0) + 110))))))))) ∧ ((¬ ((g5 1075 0) = (0 : Int))) → (sm_PL (S 1100020) (S 51) (S 52) (g5 46) (g5 47) (g5 1076 0) (S 1086 0) ∧ sm_FR (S 1100020) (S 52) (S 1100021) (S 1100022) (3000 - (S 1084 0)) (S 1085 0) ∧ sm_PV (S 1100020) (S 48) (S 49) (S 50) (g5 44) (g5 1076 0) (S 1007 0) ∧ sm_AL (S 1100020) (S 48) (S 49) (S 50) (g5 44) (g5 1076 0) (S 1100032 0) ∧ sm_SV (S 1100020) (S 48) (g5 1100029) (S 32) (S 33) (g5 1076 0) (S 1032 0) ∧ 0 ≤ (g5 1076 0) ∧ (g5 1076 0) ≤ 300 ∧ 0 ≤ (S 1084 0) ∧ (S 1084 0) ≤ 3000 ∧ 0 ≤ (S 1086 0) ∧ sm_SC (g5 1100029) (g5 44) (g5 45) (g5 43) (S 21) (g5 1076 0) (S 1032 0) ∧ sm_PO (g5 42) (g5 1076 0) ∧ ((g5 1075 0) = 0 → (S 1100032 0) = -1 ∧ sm_FO (g5 44) (g5 45) (g5 1076 0)) ∧ 23 ≤ (g5 1076 0) ∧ 31 ≤ (S 1007 0) ∧ (S 1007 0) ≤ 400 ∧ sm_LN (S 4) 400 (S 1007 0) ∧ (S 1008 0) ≤ (S 1007 0) ∧ ((S 1075 0) = 1 → (g5 1075 0) = 1) ∧ 0 ≤ (S 1092 0) ∧ (S 1092 0) ≤ 24 ∧ (S 1007 0) ≤ (S 1007 0) ∧ (¬ (g5 1075 0) = 0 → sm_LX (S 58) (S 63) (S 64) (S 1092 0) (g5 1076 0)) ∧ ((g5 1075 0) = 0 → (S 1073 0) = 1 → 1 ≤ (S 1092 0) ∧ (S 1092 0) ≤ 24 ∧ 0 ≤ (S 57 ((S 1092 0) - 1)) ∧ (S 57 ((S 1092 0) - 1)) < (S 1046 0) ∧ (S 29 (S 57 ((S 1092 0) - 1))) = (S 53 ((S 1092 0) - 1)) ∧ 0 ≤ (S 53 ((S 1092 0) - 1)) ∧ (S 53 ((S 1092 0) - 1)) < (S 1032 0) ∧ (S 60 ((S 1092 0) - 1)) = sm_dp (S 1100024) (S 1100023 (S 57 ((S 1092 0) - 1))) ∧ sm_TC (S 61) (S 62) (S 27) (S 1100007) (S 1100023) (S 1100024) (40 * ((S 1092 0) - 1)) (S 1100023 (S 57 ((S 1092 0) - 1))) ∧ sm_LK (g5 1100029) (g5 1076 0) (S 54 ((S 1092 0) - 1)) (S 53 ((S 1092 0) - 1)) ∧ sm_VO (g5 44) (g5 1076 0) (S 1007 0) ((S 55 ((S 1092 0) - 1))) ((S 56 ((S 1092 0) - 1))) ∧ sm_FW (g5 44) (g5 1076 0) (S 59 ((S 1092 0) - 1)) ∧ sm_FL (S 53) (S 54) (S 55) (S 56) (S 57) (S 58) (S 59) (S 60) (S 61) (S 62) (S 63) (S 64) (S 27) (S 29) (S 1100007) (S 1100023) (S 1100024) (S 1100025) (S 26) (g5 1100029) (g5 44) (S 1046 0) (S 1032 0) (g5 1076 0) (S 1007 0) (((S 1092 0) - 1)) ∧ (S 58 ((S 1092 0) - 1)) = (S 1100007 (S 57 ((S 1092 0) - 1))) ∧ sm_SK (S 63) (S 64) (g5 44) (S 1100007) (S 1100025) (g5 1076 0) (S 1007 0) (400 * ((S 1092 0) - 1)) ((S 58 ((S 1092 0) - 1))) ((S 1100025 (S 57 ((S 1092 0) - 1))))) ∧ ((S 1073 0) = 1 ∨ (S 1092 0) = 0 ∧ (g5 1075 0) = 0 ∧ ((S 1073 0) = 2 ∨ (S 1073 0) = 3)) ∧ (S 1086 0) ≤ (S 1086 0) ∧ (S 1086 0) ≤ (S 1086 0) + 110)))))) := by
  intro p1
  intro S
  intro h1_
  intro h2_
  rintro ⟨h3_, ⟨h4_, ⟨h5_, ⟨h6_, ⟨h7_, ⟨h8_, ⟨h9_, ⟨h10_, ⟨h11_, ⟨h12_, ⟨h13_, ⟨h14_, ⟨h15_, ⟨h16_, ⟨h17_, ⟨h18_, ⟨h19_, ⟨h20_, ⟨h21_, ⟨h22_, ⟨h23_, ⟨h24_, ⟨h25_, ⟨h26_, ⟨h27_, ⟨h28_, ⟨h29_, ⟨h30_, ⟨h31_, ⟨h32_, ⟨h33_, ⟨h34_, ⟨h35_, ⟨h36_, ⟨h37_, ⟨h38_, ⟨h39_, ⟨h40_, ⟨h41_, ⟨h42_, ⟨h43_, ⟨h44_, ⟨h45_, ⟨h46_, ⟨h47_, ⟨h48_, ⟨h49_, ⟨h50_, ⟨h51_, ⟨h52_, ⟨h53_, ⟨h54_, ⟨h55_, ⟨h56_, ⟨h57_, ⟨h58_, ⟨h59_, ⟨h60_, ⟨h61_, ⟨h62_, ⟨h63_, ⟨h64_, ⟨h65_, ⟨h66_, ⟨h67_, ⟨h68_, h69_⟩⟩⟩⟩⟩⟩⟩⟩⟩⟩⟩⟩⟩⟩⟩⟩⟩⟩⟩⟩⟩⟩⟩⟩⟩⟩⟩⟩⟩⟩⟩⟩⟩⟩⟩⟩⟩⟩⟩⟩⟩⟩⟩⟩⟩⟩⟩⟩⟩⟩⟩⟩⟩⟩⟩⟩⟩⟩⟩⟩⟩⟩⟩⟩⟩⟩
  intro x1
  intro h70_
  refine ⟨(la_makeFunction_0 h28_ h67_ h68_ h70_), ?_⟩
  refine ⟨⟨h6_, ⟨h7_, ⟨h8_, ⟨h9_, ⟨h10_, ⟨h11_, ⟨h12_, ⟨h13_, ⟨h14_, ⟨h15_, ⟨h16_, ⟨h17_, (la_makeFunction_1 h20_ h28_ h67_ h68_ h70_)⟩⟩⟩⟩⟩⟩⟩⟩⟩⟩⟩⟩, ?_⟩
  intro r9
  intro h71_
  intro g5
  rintro ⟨h72_, ⟨h73_, ⟨h74_, ⟨h75_, ⟨h76_, ⟨h77_, ⟨h78_, ⟨h79_, ⟨h80_, ⟨h81_, ⟨h82_, ⟨h83_, ⟨h84_, ⟨h85_, ⟨h86_, ⟨h87_, ⟨h88_, ⟨h89_, ⟨h90_, ⟨h91_, ⟨h92_, ⟨h93_, ⟨h94_, ⟨h95_, ⟨h96_, h97_⟩⟩⟩⟩⟩⟩⟩⟩⟩⟩⟩⟩⟩⟩⟩⟩⟩⟩⟩⟩⟩⟩⟩⟩⟩
  have h98_ := (h96_ h19_)
  rintro ⟨h99_, h100_⟩
  refine ⟨?_, ?_⟩
  · skip
    intro h101_
    obtain ⟨h102_, ⟨h103_, ⟨h104_, ⟨h105_, ⟨h106_, ⟨h107_, h108_⟩⟩⟩⟩⟩⟩ := (h93_ h101_)
    obtain ⟨h109_, h110_⟩ := (h97_ (la_makeFunction_5 h78_ h85_ h102_))
    intro h111_
    refine ⟨(la_makeFunction_6 h35_ h36_), ?_⟩
    intro h112_
    intro h113_
    have h114_ := (h113_ h84_)
    have h115_ := (h114_ h85_)
    have h116_ := (h115_ (la_makeFunction_7 h104_))
    obtain ⟨h117_, ⟨h118_, h119_⟩⟩ := ((sm_VO_e h116_).2.2.2 la_makeFunction_9)
    refine ⟨(la_makeFunction_12 h20_ h78_ h85_ h102_), ?_⟩
    refine ⟨(la_makeFunction_13 h28_ h67_ h68_ h70_), ?_⟩
    refine ⟨⟨h72_, ⟨h7_, ⟨h74_, ⟨h75_, ⟨h76_, ⟨h77_, ⟨h78_, ⟨h13_, ⟨h14_, ⟨h15_, ⟨(sm_SC_co (sm_SC_li h82_ (la_makeFunction_14 h106_) (la_makeFunction_15 h105_)) h68_ (sm_LK_q (sm_LK_q (sm_LK_m h44_ h87_ (sm_F1_le h89_ (Int.le_refl _))) rfl h69_) (if_pos la_makeFunction_16) rfl)), ⟨h83_, (la_makeFunction_17 h20_ h28_ h67_ h68_ h70_ h110_)⟩⟩⟩⟩⟩⟩⟩⟩⟩⟩⟩⟩, ?_⟩
    intro r27
    intro h120_
    intro g23
    rintro ⟨h121_, ⟨h122_, ⟨h123_, ⟨h124_, ⟨h125_, ⟨h126_, ⟨h127_, ⟨h128_, ⟨h129_, ⟨h130_, ⟨h131_, ⟨h132_, ⟨h133_, ⟨h134_, ⟨h135_, ⟨h136_, ⟨h137_, ⟨h138_, ⟨h139_, ⟨h140_, ⟨h141_, ⟨h142_, ⟨h143_, ⟨h144_, ⟨h145_, h146_⟩⟩⟩⟩⟩⟩⟩⟩⟩⟩⟩⟩⟩⟩⟩⟩⟩⟩⟩⟩⟩⟩⟩⟩⟩
    have h147_ := (h145_ (sm_FO_f h19_ (sm_F1_le h88_ (Int.le_refl _)) (sm_F1_up (sm_F1_le h92_ (Int.le_refl _)) (la_makeFunction_18 h102_)) h110_ (if_pos (la_makeFunction_20 h102_)) h67_ (la_makeFunction_19 h20_)))
    have h148_ := (h147_ la_makeFunction_21)
    have h149_ := (h148_ (la_makeFunction_22 h20_ h110_))
    rintro ⟨h150_, h151_⟩
    refine ⟨?_, ?_⟩
    · skip
      intro h152_
      obtain ⟨h153_, ⟨h154_, ⟨h155_, ⟨h156_, ⟨h157_, ⟨h158_, h159_⟩⟩⟩⟩⟩⟩ := (h142_ h152_)
      obtain ⟨h160_, h161_⟩ := (h146_ (la_makeFunction_5 h127_ h134_ h153_))
      refine ⟨⟨h121_, ⟨h7_, ⟨h123_, ⟨h124_, ⟨h125_, ⟨h126_, ⟨h127_, ⟨h13_, ⟨h14_, ⟨h15_, ⟨h84_, ⟨(la_makeFunction_24 h85_ h161_), ⟨la_makeFunction_25, ⟨(la_makeFunction_26 h21_), ⟨(sm_VO_i (sm_VO_e h116_).1 (sm_VO_e h116_).2.1 la_makeFunction_27 (la_makeFunction_28 h20_ h110_ h134_ h153_ h155_)), (la_makeFunction_29 h66_)⟩⟩⟩⟩⟩⟩⟩⟩⟩⟩⟩⟩⟩⟩⟩, ?_⟩
      intro g31
      rintro ⟨h162_, ⟨h163_, ⟨h164_, ⟨h165_, ⟨h166_, ⟨h167_, ⟨h168_, ⟨h169_, ⟨h170_, ⟨h171_, ⟨h172_, ⟨h173_, ⟨h174_, ⟨h175_, ⟨h176_, ⟨h177_, h178_⟩⟩⟩⟩⟩⟩⟩⟩⟩⟩⟩⟩⟩⟩⟩⟩
      rintro ⟨h179_, h180_⟩
      refine ⟨?_, ?_⟩
      · skip
        intro h181_
        have h182_ := (h174_ h181_)
        refine ⟨⟨h162_, ⟨h163_, ⟨h164_, ⟨h165_, ⟨h166_, ⟨h126_, ⟨h127_, ⟨h169_, ⟨h170_, ⟨h171_, ⟨h133_, ⟨h134_, ⟨la_makeFunction_30, ⟨(la_makeFunction_31 h21_), ⟨(sm_VO_m h116_ h136_ (Int.le_refl _) (sm_F1_le h137_ (Int.le_refl _))), (la_makeFunction_32 h66_ h176_)⟩⟩⟩⟩⟩⟩⟩⟩⟩⟩⟩⟩⟩⟩⟩, ?_⟩
        intro g38
        rintro ⟨h183_, ⟨h184_, ⟨h185_, ⟨h186_, ⟨h187_, ⟨h188_, ⟨h189_, ⟨h190_, ⟨h191_, ⟨h192_, ⟨h193_, ⟨h194_, ⟨h195_, ⟨h196_, ⟨h197_, ⟨h198_, h199_⟩⟩⟩⟩⟩⟩⟩⟩⟩⟩⟩⟩⟩⟩⟩⟩
        intro g43
        rintro ⟨h200_, h201_⟩
        refine ⟨?_, ?_⟩
        · skip
          refine ⟨?_, ?_⟩
          · skip
            intro h202_
            have h203_ := (h195_ h202_)
            intro h204_
            refine ⟨h183_, ?_⟩
            refine ⟨h184_, ?_⟩
            refine ⟨h185_, ?_⟩
            refine ⟨h186_, ?_⟩
            refine ⟨h187_, ?_⟩
            refine ⟨h126_, ?_⟩
            refine ⟨h127_, ?_⟩
            refine ⟨h190_, ?_⟩
            refine ⟨h191_, ?_⟩
            refine ⟨h192_, ?_⟩
            refine ⟨h131_, ?_⟩
            refine ⟨h132_, ?_⟩
            refine ⟨h18_, ?_⟩
            refine ⟨h149_, ?_⟩
            refine ⟨(la_makeFunction_33 h20_ h110_ h161_), ?_⟩
            refine ⟨h21_, ?_⟩
            refine ⟨h22_, ?_⟩
            refine ⟨h23_, ?_⟩
            refine ⟨h24_, ?_⟩
            refine ⟨h25_, ?_⟩
            refine ⟨h26_, ?_⟩
            refine ⟨h27_, ?_⟩
            refine ⟨h28_, ?_⟩
            refine ⟨h29_, ?_⟩
            refine ⟨h30_, ?_⟩
            refine ⟨h31_, ?_⟩
            refine ⟨h32_, ?_⟩
            refine ⟨h33_, ?_⟩
            refine ⟨h34_, ?_⟩
            refine ⟨h35_, ?_⟩
            refine ⟨h36_, ?_⟩
            refine ⟨h37_, ?_⟩
            refine ⟨h38_, ?_⟩
            refine ⟨h39_, ?_⟩
            refine ⟨h40_, ?_⟩
            refine ⟨h41_, ?_⟩
            refine ⟨h42_, ?_⟩
            refine ⟨h43_, ?_⟩
            refine ⟨(sm_LK_m h44_ (la_makeFunction_34 h110_ h161_) (sm_F1_tr (sm_F1_le h89_ (Int.le_refl _)) h138_ h87_)), ?_⟩
            refine ⟨(sm_VO_m h45_ (la_makeFunction_34 h110_ h161_) (Int.le_refl _) (sm_F1_tr (sm_F1_le h88_ (Int.le_refl _)) h137_ h87_)), ?_⟩
            refine ⟨(sm_FW_m h46_ (la_makeFunction_34 h110_ h161_) (sm_F1_tr (sm_F1_le h88_ (Int.le_refl _)) h137_ h87_)), ?_⟩
            refine ⟨(sm_FL_F h47_ sm_F1_rf sm_F1_rf sm_F1_rf sm_F1_rf sm_F1_rf sm_F1_rf sm_F1_rf sm_F1_rf sm_F1_rf sm_F1_rf sm_F1_rf sm_F1_rf (la_makeFunction_34 h110_ h161_) (Int.le_refl _) (sm_F1_tr (sm_F1_le h89_ (Int.le_refl _)) h138_ h87_) (sm_F1_tr (sm_F1_le h88_ (Int.le_refl _)) h137_ h87_) (sm_FL_dp h47_ h24_)), ?_⟩
            refine ⟨h48_, ?_⟩
            refine ⟨h49_, ?_⟩
            refine ⟨h50_, ?_⟩
            refine ⟨(sm_SK_m h51_ (la_makeFunction_34 h110_ h161_) (Int.le_refl _) (sm_F1_tr (sm_F1_le h88_ (Int.le_refl _)) h137_ h87_)), ?_⟩
            refine ⟨h52_, ?_⟩
            refine ⟨h53_, ?_⟩
            refine ⟨h54_, ?_⟩
            refine ⟨la_makeFunction_36, ?_⟩
            refine ⟨h49_, ?_⟩
            refine ⟨(la_makeFunction_37 h58_), ?_⟩
            refine ⟨(sm_VO_eq (sm_VO_m h116_ h136_ (Int.le_refl _) (sm_F1_le h137_ (Int.le_refl _))) h200_ h201_), ?_⟩
            refine ⟨h60_, ?_⟩
            refine ⟨h61_, ?_⟩
            refine ⟨h62_, ?_⟩
            refine ⟨(la_makeFunction_38 h63_), ?_⟩
            refine ⟨h64_, ?_⟩
            exact h65_
          intro h205_
          exact (sm_LX_m h5_ (la_makeFunction_34 h110_ h161_))
        intro g49
        rintro ⟨h206_, h207_⟩
        refine ⟨h183_, ?_⟩
        refine ⟨h184_, ?_⟩
        refine ⟨h185_, ?_⟩
        refine ⟨h186_, ?_⟩
        refine ⟨h187_, ?_⟩
        refine ⟨h126_, ?_⟩
        refine ⟨h127_, ?_⟩
        refine ⟨h190_, ?_⟩
        refine ⟨h191_, ?_⟩
        refine ⟨h192_, ?_⟩
        refine ⟨h131_, ?_⟩
        refine ⟨h132_, ?_⟩
        refine ⟨?_, ?_⟩
        · skip
          intro h208_
          have h209_ := (h195_ h208_)
          have h210_ := (h206_ h208_)
          obtain ⟨h211_, ⟨h212_, ⟨h213_, ⟨h214_, ⟨h215_, ⟨h216_, ⟨h217_, ⟨h218_, ⟨h219_, ⟨h220_, ⟨h221_, ⟨h222_, ⟨h223_, ⟨h224_, h225_⟩⟩⟩⟩⟩⟩⟩⟩⟩⟩⟩⟩⟩⟩ := (h210_ h4_)
          refine ⟨h18_, ?_⟩
          exact h149_
        refine ⟨(la_makeFunction_33 h20_ h110_ h161_), ?_⟩
        refine ⟨h21_, ?_⟩
        refine ⟨h22_, ?_⟩
        refine ⟨h23_, ?_⟩
        refine ⟨h32_, ?_⟩
        refine ⟨(la_makeFunction_40 h3_), ?_⟩
        refine ⟨(la_makeFunction_41 h35_), ?_⟩
        refine ⟨h36_, ?_⟩
        refine ⟨la_makeFunction_35, ?_⟩
        refine ⟨h207_, ?_⟩
        refine ⟨h206_, ?_⟩
        refine ⟨(la_makeFunction_42 h4_ h35_), ?_⟩
        refine ⟨(la_makeFunction_43 h175_ h196_), ?_⟩
        exact (la_makeFunction_44 h176_ h197_)
      intro h226_
      have h227_ : ¬ (S 1084 0 < 3000) := fun q_ => (la_makeFunction_46 h152_ (la_makeFunction_45 h179_ h226_)) (h177_ q_)
      refine ⟨h162_, ?_⟩
      refine ⟨h163_, ?_⟩
      refine ⟨h164_, ?_⟩
      refine ⟨h165_, ?_⟩
      refine ⟨h166_, ?_⟩
      refine ⟨h126_, ?_⟩
      refine ⟨h127_, ?_⟩
      refine ⟨h169_, ?_⟩
      refine ⟨h170_, ?_⟩
      refine ⟨h171_, ?_⟩
      refine ⟨h131_, ?_⟩
      refine ⟨h132_, ?_⟩
      refine ⟨?_, ?_⟩
      · skip
        intro h228_
        refine ⟨h18_, ?_⟩
        exact h149_
      refine ⟨(la_makeFunction_33 h20_ h110_ h161_), ?_⟩
      refine ⟨h21_, ?_⟩
      refine ⟨h22_, ?_⟩
      refine ⟨h23_, ?_⟩
      refine ⟨h32_, ?_⟩
      refine ⟨(la_makeFunction_40 h3_), ?_⟩
      refine ⟨(la_makeFunction_41 h35_), ?_⟩
      refine ⟨h36_, ?_⟩
      refine ⟨la_makeFunction_35, ?_⟩
      refine ⟨?_, ?_⟩
      · skip
        intro h229_
        exact (sm_LX_m h5_ (la_makeFunction_34 h110_ h161_))
      refine ⟨?_, ?_⟩
      · skip
        intro h230_
        intro h231_
        refine ⟨h35_, ?_⟩
        refine ⟨h36_, ?_⟩
        refine ⟨(la_makeFunction_47 h37_ h48_), ?_⟩
        refine ⟨(la_makeFunction_48 h48_ h61_), ?_⟩
        refine ⟨?_, ?_⟩
        · skip
          have e232_ : S 29 (S 57 (S 1092 0 - 1)) = S 29 (S 1100033 0) := congrArg ((S 29)) h48_
          exact (la_makeFunction_49 h39_ e232_)
        refine ⟨h40_, ?_⟩
        refine ⟨h41_, ?_⟩
        refine ⟨?_, ?_⟩
        · skip
          have e233_ : S 1100023 (S 57 (S 1092 0 - 1)) = S 1100023 (S 1100033 0) := congrArg ((S 1100023)) h48_
          have e234_ : sm_dp (S 1100024) (S 1100023 (S 57 (S 1092 0 - 1))) = sm_dp (S 1100024) (S 1100023 (S 1100033 0)) := congrArg ((sm_dp (S 1100024))) e233_
          exact (la_makeFunction_50 h42_ e234_)
        refine ⟨?_, ?_⟩
        · skip
          have e235_ : S 1100023 (S 57 (S 1092 0 - 1)) = S 1100023 (S 1100033 0) := congrArg ((S 1100023)) h48_
          exact (sm_TC_t h43_ (la_makeFunction_20 e235_))
        refine ⟨(sm_LK_m h44_ (la_makeFunction_34 h110_ h161_) (sm_F1_tr (sm_F1_le h89_ (Int.le_refl _)) h138_ h87_)), ?_⟩
        refine ⟨(sm_VO_m h45_ (la_makeFunction_34 h110_ h161_) (Int.le_refl _) (sm_F1_tr (sm_F1_le h88_ (Int.le_refl _)) h137_ h87_)), ?_⟩
        refine ⟨(sm_FW_m h46_ (la_makeFunction_34 h110_ h161_) (sm_F1_tr (sm_F1_le h88_ (Int.le_refl _)) h137_ h87_)), ?_⟩
        refine ⟨(sm_FL_F h47_ sm_F1_rf sm_F1_rf sm_F1_rf sm_F1_rf sm_F1_rf sm_F1_rf sm_F1_rf sm_F1_rf sm_F1_rf sm_F1_rf sm_F1_rf sm_F1_rf (la_makeFunction_34 h110_ h161_) (Int.le_refl _) (sm_F1_tr (sm_F1_le h89_ (Int.le_refl _)) h138_ h87_) (sm_F1_tr (sm_F1_le h88_ (Int.le_refl _)) h137_ h87_) (sm_FL_dp h47_ h24_)), ?_⟩
        refine ⟨?_, ?_⟩
        · skip
          have e236_ : S 1100007 (S 57 (S 1092 0 - 1)) = S 1100007 (S 1100033 0) := congrArg ((S 1100007)) h48_
          exact (la_makeFunction_50 h55_ e236_)
        have e237_ : S 1100025 (S 57 (S 1092 0 - 1)) = S 1100025 (S 1100033 0) := congrArg ((S 1100025)) h48_
        exact (sm_SK_q (sm_SK_m h51_ (la_makeFunction_34 h110_ h161_) (Int.le_refl _) (sm_F1_tr (sm_F1_le h88_ (Int.le_refl _)) h137_ h87_)) (la_makeFunction_52 h56_ e237_) rfl rfl)
      refine ⟨(la_makeFunction_53 h4_ h35_ (la_makeFunction_45 h179_ h226_)), ?_⟩
      refine ⟨h175_, ?_⟩
      exact (la_makeFunction_54 h176_)
    intro h238_
    have h239_ := (h144_ (la_makeFunction_55 h151_ (la_makeFunction_45 h150_ h238_)))
    have h240_ := (h239_ h101_)
    have h241_ := (h143_ h240_)
    refine ⟨h121_, ?_⟩
    refine ⟨h7_, ?_⟩
    refine ⟨h123_, ?_⟩
    refine ⟨h124_, ?_⟩
    refine ⟨h125_, ?_⟩
    refine ⟨h126_, ?_⟩
    refine ⟨h127_, ?_⟩
    refine ⟨h13_, ?_⟩
    refine ⟨h14_, ?_⟩
    refine ⟨h15_, ?_⟩
    refine ⟨h131_, ?_⟩
    refine ⟨h132_, ?_⟩
    refine ⟨?_, ?_⟩
    · skip
      intro h242_
      obtain ⟨h243_, h244_⟩ := ((sm_VO_e h45_).2.2.1 (la_makeFunction_56 (la_makeFunction_45 h150_ h238_) h242_))
      obtain ⟨h245_, ⟨h246_, h247_⟩⟩ := ((sm_VO_e h45_).2.2.2 (la_makeFunction_57 (la_makeFunction_45 h150_ h238_) h242_))
      obtain ⟨h248_, h249_⟩ := (h146_ (la_makeFunction_58 (la_makeFunction_45 h150_ h238_) h242_))
      refine ⟨h18_, ?_⟩
      exact h149_
    refine ⟨(la_makeFunction_59 h20_ h110_ h136_), ?_⟩
    refine ⟨h21_, ?_⟩
    refine ⟨h22_, ?_⟩
    refine ⟨h23_, ?_⟩
    refine ⟨h32_, ?_⟩
    refine ⟨(la_makeFunction_60 h3_ h151_), ?_⟩
    refine ⟨(la_makeFunction_41 h35_), ?_⟩
    refine ⟨h36_, ?_⟩
    refine ⟨la_makeFunction_35, ?_⟩
    refine ⟨?_, ?_⟩
    · skip
      intro h250_
      exact (sm_LX_m h5_ (la_makeFunction_61 h110_ h136_))
    refine ⟨?_, ?_⟩
    · skip
      intro h251_
      obtain ⟨h252_, h253_⟩ := ((sm_VO_e h45_).2.2.1 (la_makeFunction_56 (la_makeFunction_45 h150_ h238_) h251_))
      obtain ⟨h254_, ⟨h255_, h256_⟩⟩ := ((sm_VO_e h45_).2.2.2 (la_makeFunction_57 (la_makeFunction_45 h150_ h238_) h251_))
      obtain ⟨h257_, h258_⟩ := (h146_ (la_makeFunction_58 (la_makeFunction_45 h150_ h238_) h251_))
      intro h259_
      refine ⟨h35_, ?_⟩
      refine ⟨h36_, ?_⟩
      refine ⟨(la_makeFunction_47 h37_ h48_), ?_⟩
      refine ⟨(la_makeFunction_48 h48_ h61_), ?_⟩
      refine ⟨?_, ?_⟩
      · skip
        have e260_ : S 29 (S 57 (S 1092 0 - 1)) = S 29 (S 1100033 0) := congrArg ((S 29)) h48_
        have e261_ : S 44 r9 = S 44 (S 56 (S 1092 0 - 1)) := congrArg ((S 44)) (la_makeFunction_63 h102_ h240_ h255_ h258_)
        exact (la_makeFunction_49 h39_ e260_)
      refine ⟨h40_, ?_⟩
      refine ⟨h41_, ?_⟩
      refine ⟨?_, ?_⟩
      · skip
        have e262_ : S 1100023 (S 57 (S 1092 0 - 1)) = S 1100023 (S 1100033 0) := congrArg ((S 1100023)) h48_
        have e263_ : S 44 r9 = S 44 (S 56 (S 1092 0 - 1)) := congrArg ((S 44)) (la_makeFunction_63 h102_ h240_ h255_ h258_)
        have e264_ : sm_dp (S 1100024) (S 1100023 (S 57 (S 1092 0 - 1))) = sm_dp (S 1100024) (S 1100023 (S 1100033 0)) := congrArg ((sm_dp (S 1100024))) e262_
        exact (la_makeFunction_50 h42_ e264_)
      refine ⟨?_, ?_⟩
      · skip
        have e265_ : S 1100023 (S 57 (S 1092 0 - 1)) = S 1100023 (S 1100033 0) := congrArg ((S 1100023)) h48_
        have e266_ : S 44 r9 = S 44 (S 56 (S 1092 0 - 1)) := congrArg ((S 44)) (la_makeFunction_63 h102_ h240_ h255_ h258_)
        exact (sm_TC_t h43_ (la_makeFunction_20 e265_))
      refine ⟨(sm_LK_m h44_ (la_makeFunction_34 h110_ h258_) (sm_F1_tr (sm_F1_le h89_ (Int.le_refl _)) h138_ h87_)), ?_⟩
      refine ⟨(sm_VO_m h45_ (la_makeFunction_34 h110_ h258_) (Int.le_refl _) (sm_F1_tr (sm_F1_le h88_ (Int.le_refl _)) h137_ h87_)), ?_⟩
      refine ⟨(sm_FW_m h46_ (la_makeFunction_34 h110_ h258_) (sm_F1_tr (sm_F1_le h88_ (Int.le_refl _)) h137_ h87_)), ?_⟩
      refine ⟨(sm_FL_F h47_ sm_F1_rf sm_F1_rf sm_F1_rf sm_F1_rf sm_F1_rf sm_F1_rf sm_F1_rf sm_F1_rf sm_F1_rf sm_F1_rf sm_F1_rf sm_F1_rf (la_makeFunction_34 h110_ h258_) (Int.le_refl _) (sm_F1_tr (sm_F1_le h89_ (Int.le_refl _)) h138_ h87_) (sm_F1_tr (sm_F1_le h88_ (Int.le_refl _)) h137_ h87_) (sm_FL_dp h47_ h24_)), ?_⟩
      refine ⟨?_, ?_⟩
      · skip
        have e267_ : S 1100007 (S 57 (S 1092 0 - 1)) = S 1100007 (S 1100033 0) := congrArg ((S 1100007)) h48_
        have e268_ : S 44 r9 = S 44 (S 56 (S 1092 0 - 1)) := congrArg ((S 44)) (la_makeFunction_63 h102_ h240_ h255_ h258_)
        exact (la_makeFunction_50 h55_ e267_)
      have e269_ : S 1100025 (S 57 (S 1092 0 - 1)) = S 1100025 (S 1100033 0) := congrArg ((S 1100025)) h48_
      have e270_ : S 44 r9 = S 44 (S 56 (S 1092 0 - 1)) := congrArg ((S 44)) (la_makeFunction_63 h102_ h240_ h255_ h258_)
      exact (sm_SK_q (sm_SK_m h51_ (la_makeFunction_34 h110_ h258_) (Int.le_refl _) (sm_F1_tr (sm_F1_le h88_ (Int.le_refl _)) h137_ h87_)) (la_makeFunction_52 h56_ e269_) rfl rfl)
    refine ⟨(la_makeFunction_53 h4_ h35_ (la_makeFunction_45 h150_ h238_)), ?_⟩
    refine ⟨la_makeFunction_35, ?_⟩
    exact la_makeFunction_65
  intro h271_
  have h272_ := (h95_ (la_makeFunction_55 h100_ (la_makeFunction_45 h99_ h271_)))
  have h273_ := (h272_ h3_)
  have h274_ := (h94_ h273_)
  refine ⟨h72_, ?_⟩
  refine ⟨h7_, ?_⟩
  refine ⟨h74_, ?_⟩
  refine ⟨h75_, ?_⟩
  refine ⟨h76_, ?_⟩
  refine ⟨h77_, ?_⟩
  refine ⟨h78_, ?_⟩
  refine ⟨h13_, ?_⟩
  refine ⟨h14_, ?_⟩
  refine ⟨h15_, ?_⟩
  refine ⟨h82_, ?_⟩
  refine ⟨h83_, ?_⟩
  refine ⟨?_, ?_⟩
  · skip
    intro h275_
    obtain ⟨h276_, h277_⟩ := ((sm_VO_e h45_).2.2.1 (la_makeFunction_56 (la_makeFunction_45 h99_ h271_) h275_))
    obtain ⟨h278_, ⟨h279_, h280_⟩⟩ := ((sm_VO_e h45_).2.2.2 (la_makeFunction_66 (sm_VO_e h45_).2.1 (la_makeFunction_45 h99_ h271_) h275_))
    obtain ⟨h281_, h282_⟩ := (h97_ (la_makeFunction_58 (la_makeFunction_45 h99_ h271_) h275_))
    refine ⟨h18_, ?_⟩
    exact (h273_ ▸ sm_FO_s h19_ (sm_F1_le h88_ (Int.le_refl _)) (sm_F1_le h92_ (Int.le_refl _)))
  refine ⟨(la_makeFunction_67 h20_ h87_), ?_⟩
  refine ⟨h21_, ?_⟩
  refine ⟨h22_, ?_⟩
  refine ⟨h23_, ?_⟩
  refine ⟨h32_, ?_⟩
  refine ⟨h86_, ?_⟩
  refine ⟨(la_makeFunction_41 h35_), ?_⟩
  refine ⟨h36_, ?_⟩
  refine ⟨la_makeFunction_35, ?_⟩
  refine ⟨?_, ?_⟩
  · skip
    intro h283_
    exact (sm_LX_m h5_ h87_)
  refine ⟨?_, ?_⟩
  · skip
    intro h284_
    obtain ⟨h285_, h286_⟩ := ((sm_VO_e h45_).2.2.1 (la_makeFunction_56 (la_makeFunction_45 h99_ h271_) h284_))
    obtain ⟨h287_, ⟨h288_, h289_⟩⟩ := ((sm_VO_e h45_).2.2.2 (la_makeFunction_66 (sm_VO_e h45_).2.1 (la_makeFunction_45 h99_ h271_) h284_))
    obtain ⟨h290_, h291_⟩ := (h97_ (la_makeFunction_58 (la_makeFunction_45 h99_ h271_) h284_))
    intro h292_
    refine ⟨h35_, ?_⟩
    refine ⟨h36_, ?_⟩
    refine ⟨(la_makeFunction_47 h37_ h48_), ?_⟩
    refine ⟨(la_makeFunction_48 h48_ h61_), ?_⟩
    refine ⟨?_, ?_⟩
    · skip
      have e293_ : S 29 (S 57 (S 1092 0 - 1)) = S 29 (S 1100033 0) := congrArg ((S 29)) h48_
      exact (la_makeFunction_49 h39_ e293_)
    refine ⟨h40_, ?_⟩
    refine ⟨h41_, ?_⟩
    refine ⟨?_, ?_⟩
    · skip
      have e294_ : S 1100023 (S 57 (S 1092 0 - 1)) = S 1100023 (S 1100033 0) := congrArg ((S 1100023)) h48_
      have e295_ : sm_dp (S 1100024) (S 1100023 (S 57 (S 1092 0 - 1))) = sm_dp (S 1100024) (S 1100023 (S 1100033 0)) := congrArg ((sm_dp (S 1100024))) e294_
      exact (la_makeFunction_50 h42_ e295_)
    refine ⟨?_, ?_⟩
    · skip
      have e296_ : S 1100023 (S 57 (S 1092 0 - 1)) = S 1100023 (S 1100033 0) := congrArg ((S 1100023)) h48_
      exact (sm_TC_t h43_ (la_makeFunction_20 e296_))
    refine ⟨(sm_LK_m h44_ h87_ (sm_F1_le h89_ (Int.le_refl _))), ?_⟩
    refine ⟨(sm_VO_m h45_ h87_ (Int.le_refl _) (sm_F1_le h88_ (Int.le_refl _))), ?_⟩
    refine ⟨(sm_FW_m h46_ h87_ (sm_F1_le h88_ (Int.le_refl _))), ?_⟩
    refine ⟨(sm_FL_F h47_ sm_F1_rf sm_F1_rf sm_F1_rf sm_F1_rf sm_F1_rf sm_F1_rf sm_F1_rf sm_F1_rf sm_F1_rf sm_F1_rf sm_F1_rf sm_F1_rf h87_ (Int.le_refl _) (sm_F1_le h89_ (Int.le_refl _)) (sm_F1_le h88_ (Int.le_refl _)) (sm_FL_dp h47_ h24_)), ?_⟩
    refine ⟨?_, ?_⟩
    · skip
      have e297_ : S 1100007 (S 57 (S 1092 0 - 1)) = S 1100007 (S 1100033 0) := congrArg ((S 1100007)) h48_
      exact (la_makeFunction_50 h55_ e297_)
    have e298_ : S 1100025 (S 57 (S 1092 0 - 1)) = S 1100025 (S 1100033 0) := congrArg ((S 1100025)) h48_
    exact (sm_SK_q (sm_SK_m h51_ h87_ (Int.le_refl _) (sm_F1_le h88_ (Int.le_refl _))) (la_makeFunction_52 h56_ e298_) rfl rfl)
  refine ⟨(la_makeFunction_53 h4_ h35_ (la_makeFunction_45 h99_ h271_)), ?_⟩
  refine ⟨la_makeFunction_35, ?_⟩
  exact la_makeFunction_65
set_option maxRecDepth 8000 in
set_option maxHeartbeats 2000000 in
theorem t_makeFunction : ∀ (p1 : Int) (S : sv_S), sm_ok S → sv_R p1 → ((S 1075 0) = 0 ∧ (S 1073 0) = 1 ∧ sm_LX (S 58) (S 63) (S 64) (S 1092 0) (S 1076 0) ∧ sm_PL (S 1100020) (S 51) (S 52) (S 46) (S 47) (S 1076 0) (S 1086 0) ∧ sm_FR (S 1100020) (S 52) (S 1100021) (S 1100022) (3000 - (S 1084 0)) (S 1085 0) ∧ sm_PV (S 1100020) (S 48) (S 49) (S 50) (S 44) (S 1076 0) (S 1007 0) ∧ sm_AL (S 1100020) (S 48) (S 49) (S 50) (S 44) (S 1076 0) (S 1100032 0) ∧ sm_SV (S 1100020) (S 48) (S 1100029) (S 32) (S 33) (S 1076 0) (S 1032 0) ∧ 0 ≤ (S 1076 0) ∧ (S 1076 0) ≤ 300 ∧ 0 ≤ (S 1084 0) ∧ (S 1084 0) ≤ 3000 ∧ 0 ≤ (S 1086 0) ∧ sm_SC (S 1100029) (S 44) (S 45) (S 43) (S 21) (S 1076 0) (S 1032 0) ∧ sm_PO (S 42) (S 1076 0) ∧ (S 1100032 0) = -1 ∧ sm_FO (S 44) (S 45) (S 1076 0) ∧ 23 ≤ (S 1076 0) ∧ 31 ≤ (S 1007 0) ∧ (S 1007 0) ≤ 400 ∧ sm_LN (S 4) 400 (S 1007 0) ∧ sm_CT (S 26) (S 27) (S 28) (S 29) (S 1100007) (S 1100023) (S 1100024) (S 1100025) (S 21) (S 1046 0) (S 1032 0) (S 1008 0) (S 1055 0) ∧ sm_LS (S 26) (S 1100007) (S 1100025) (S 1046 0) ∧ sm_CL (S 1100007) (S 1100023) (S 1100025) (S 1046 0) ∧ 1 ≤ (S 1032 0) ∧ (S 1032 0) ≤ 11 ∧ 0 ≤ (S 1046 0) ∧ (S 1046 0) ≤ 600 ∧ 31 ≤ (S 1008 0) ∧ (S 1008 0) ≤ (S 1007 0) ∧ 0 ≤ (S 1055 0) ∧ (S 1055 0) ≤ 19 ∧ 1 ≤ (S 1092 0) ∧ (S 1092 0) ≤ 24 ∧ 0 ≤ (S 1100033 0) ∧ (S 1100033 0) < (S 1046 0) ∧ (S 29 (S 1100033 0)) = (S 53 ((S 1092 0) - 1)) ∧ 0 ≤ (S 53 ((S 1092 0) - 1)) ∧ (S 53 ((S 1092 0) - 1)) < (S 1032 0) ∧ (S 60 ((S 1092 0) - 1)) = sm_dp (S 1100024) (S 1100023 (S 1100033 0)) ∧ sm_TC (S 61) (S 62) (S 27) (S 1100007) (S 1100023) (S 1100024) (40 * ((S 1092 0) - 1)) (S 1100023 (S 1100033 0)) ∧ sm_LK (S 1100029) (S 1076 0) (S 54 ((S 1092 0) - 1)) (S 53 ((S 1092 0) - 1)) ∧ sm_VO (S 44) (S 1076 0) (S 1007 0) ((S 55 ((S 1092 0) - 1))) ((S 56 ((S 1092 0) - 1))) ∧ sm_FW (S 44) (S 1076 0) (S 59 ((S 1092 0) - 1)) ∧ sm_FL (S 53) (S 54) (S 55) (S 56) (S 57) (S 58) (S 59) (S 60) (S 61) (S 62) (S 63) (S 64) (S 27) (S 29) (S 1100007) (S 1100023) (S 1100024) (S 1100025) (S 26) (S 1100029) (S 44) (S 1046 0) (S 1032 0) (S 1076 0) (S 1007 0) (((S 1092 0) - 1)) ∧ (S 57 ((S 1092 0) - 1)) = (S 1100033 0) ∧ 0 ≤ (S 58 ((S 1092 0) - 1)) ∧ (S 58 ((S 1092 0) - 1)) ≤ 400 ∧ sm_SK (S 63) (S 64) (S 44) (S 1100007) (S 1100025) (S 1076 0) (S 1007 0) (400 * ((S 1092 0) - 1)) ((S 58 ((S 1092 0) - 1))) ((S 1100034 0)) ∧ -1 ≤ (S 1100034 0) ∧ (S 1100034 0) < (S 1046 0) ∧ (0 ≤ (S 1100034 0) → (S 26 (S 1100034 0)) = 29) ∧ (S 58 ((S 1092 0) - 1)) = (S 1100007 (S 1100033 0)) ∧ (S 1100034 0) = (S 1100025 (S 1100033 0)) ∧ (0 ≤ (S 1100023 (S 1100033 0)) → (S 1100007 (S 1100023 (S 1100033 0))) ≤ (S 58 ((S 1092 0) - 1))) ∧ (S 58 ((S 1092 0) - 1)) ≤ 396 ∧ 0 ≤ (S 58 ((S 1092 0) - 1)) ∧ (0 ≤ (S 1100034 0) → (S 1100007 (S 1100034 0)) ≤ (S 58 ((S 1092 0) - 1)) - 0) ∧ (S 1100033 0) + 1 < (S 1046 0) ∧ (S 29 ((S 1100033 0) + 1)) = (S 29 (S 1100033 0)) ∧ (S 1100007 ((S 1100033 0) + 1)) = (S 58 ((S 1092 0) - 1)) + 1 ∧ (S 1100023 ((S 1100033 0) + 1)) = (S 1100023 (S 1100033 0)) ∧ (S 1100025 ((S 1100033 0) + 1)) = (S 1100034 0) ∧ (S 1086 0) ≤ 1900000000 ∧ 1 ≤ p1 ∧ p1 < (S 1032 0) ∧ (S 21 p1) = (S 53 ((S 1092 0) - 1))) → sv_T sm_XS sm_cs sm_L sm_sh 3 (q_makeFunction p1 S) 170 0 (lv_args 0 [.ref 0, sv_I p1]) [] S := by
  intro p1 S hok hp1 hpre
  have h := f_makeFunction p1 S hok hp1 hpre
  have hM := sm_h170
  show sv_T sm_XS sm_cs sm_L sm_sh 3 (q_makeFunction p1 S) 170 0 [(0, .ref 0), (1, sv_I p1)] [] S
  refine sv_bipush (d := (29 : Int)) hM dX12_makeFunction_0 rfl rfl ?_
  refine sv_bipush (d := (6 : Int)) hM dX12_makeFunction_2 rfl rfl ?_
  refine sv_iload_n hM dX12_makeFunction_4 rfl rfl ?_
  refine sv_iconst (d := (1 : Int)) hM dX12_makeFunction_5 rfl rfl ?_
  refine sv_isub hM dX12_makeFunction_6 rfl ?_
  refine sv_imul hM dX12_makeFunction_7 rfl ?_
  refine sv_iadd hM dX12_makeFunction_8 rfl ?_
  obtain ⟨x1, e2⟩ : ∃ x : Int, ((29 : Int) + ((6 : Int) * (p1 - (1 : Int)))) = x := ⟨_, rfl⟩
  have h := h x1 e2
  refine sv_nameI e2 ?_
  refine sv_istore_n hM dX12_makeFunction_9 (by decide) rfl ?_
  show sv_T sm_XS sm_cs sm_L sm_sh 3 (q_makeFunction p1 S) 170 10 [(0, .ref 0), (1, sv_I p1), (2, sv_I x1)] [] S
  refine sv_aload_n hM dX12_makeFunction_10 rfl rfl ?_
  refine sv_iconst (d := (2 : Int)) hM dX12_makeFunction_11 rfl rfl ?_
  refine sv_iload_n hM dX12_makeFunction_12 rfl rfl ?_
  refine sv_iconst (d := (2 : Int)) hM dX12_makeFunction_13 rfl rfl ?_
  refine sv_iadd hM dX12_makeFunction_14 rfl ?_
  refine sv_iconst (d := (1 : Int)) hM dX12_makeFunction_15 rfl rfl ?_
  obtain ⟨o3, h⟩ := h
  obtain ⟨o4, h⟩ := h
  refine sv_callV hM dX12_makeFunction_16 sm_iv_858 (by decide) (sm_a0 _) rfl rfl (Nat.le_of_ble_eq_true rfl) sm_h139 (Nat.le_of_ble_eq_true rfl) (Nat.le_of_ble_eq_true rfl) (F' := 0) (Nat.le_of_ble_eq_true rfl) rfl (t_newObject (2 : Int) (x1 + (2 : Int)) (1 : Int) S hok (⟨by decide, by decide⟩ : sv_R (2 : Int)) o3 (⟨by decide, by decide⟩ : sv_R (1 : Int)) o4) (fun v S1 hq => ?_)
  obtain ⟨r9, rfl, hr9, ok6, md7, hpo8⟩ := hq
  obtain ⟨g5, rfl⟩ : ∃ g, S1 = sv_sts S [1076, 41, 42, 43, 44, 45, 46, 47, 1075, 1100029] g := ⟨_, md7.eq⟩
  show sv_T sm_XS sm_cs sm_L sm_sh 3 (q_makeFunction p1 S) 170 19 [(0, .ref 0), (1, sv_I p1), (2, sv_I x1)] [sv_I r9] (sv_sts S [1076, 41, 42, 43, 44, 45, 46, 47, 1075, 1100029] g5)
  have md10 : sv_mod [1076, 41, 42, 43, 44, 45, 46, 47, 1075, 1100029, 1092, 60, 58, 57, 63, 64, 1073, 1109, 1110, 1111, 1112, 1084, 1085, 48, 1086, 51, 52, 49, 50, 1100020, 1100021, 1100022] S (sv_sts S [1076, 41, 42, 43, 44, 45, 46, 47, 1075, 1100029] g5) := sv_mod.sts sv_mod.rf (by decide)
  have h := h r9 hr9 g5 hpo8
  refine sv_istore_n hM dX12_makeFunction_19 (by decide) rfl ?_
  show sv_T sm_XS sm_cs sm_L sm_sh 3 (q_makeFunction p1 S) 170 20 [(0, .ref 0), (1, sv_I p1), (2, sv_I x1), (3, sv_I r9)] [] (sv_sts S [1076, 41, 42, 43, 44, 45, 46, 47, 1075, 1100029] g5)
  refine sv_aload_n hM dX12_makeFunction_20 rfl rfl ?_
  have k11 : (0 ≤ (g5 1075 0) ∧ (g5 1075 0) ≤ 1) := sm_okZ ok6 sm_r1075 0
  have h := h k11
  refine sv_getI hM dX12_makeFunction_21 sm_fl_794 (sm_a0 _) sm_k75 rfl (x := (g5 1075 0)) rfl ?_
  refine sv_cond_eq hM dX12_makeFunction_24 (sv_R01 k11) (t := 28) rfl rfl (fun hc => ?_) (fun hc => ?_)
  · have h := h.1 (hc)
    refine sv_aload_n hM dX12_makeFunction_28 rfl rfl ?_
    refine sv_getA hM dX12_makeFunction_29 sm_fl_140 (sm_a0 _) sm_k79 rfl ?_
    refine sv_iload_n hM dX12_makeFunction_32 rfl rfl ?_
    refine sv_aload_n hM dX12_makeFunction_33 rfl rfl ?_
    refine sv_getA hM dX12_makeFunction_34 sm_fl_173 (sm_a0 _) sm_k94 rfl ?_
    refine sv_aload_n hM dX12_makeFunction_37 rfl rfl ?_
    have k12 : sv_R (S 1092 0) := sm_okI ok6 sm_r1092 0
    have h := h k12
    refine sv_getI hM dX12_makeFunction_38 sm_fl_872 (sm_a0 _) sm_k92 rfl (x := (S 1092 0)) rfl ?_
    refine sv_iconst (d := (1 : Int)) hM dX12_makeFunction_41 rfl rfl ?_
    refine sv_isub hM dX12_makeFunction_42 rfl ?_
    obtain ⟨o13, h⟩ := h
    have k14 : sv_R (S 54 ((S 1092 0) - (1 : Int))) := sm_okI ok6 sm_r54 ((S 1092 0) - (1 : Int))
    have h := h k14
    refine sv_iald hM dX12_makeFunction_43 (sm_a54 _) (by decide) o13.1 o13.2 rfl (x := (S 54 ((S 1092 0) - (1 : Int)))) rfl ?_
    have k15 : (0 ≤ r9 → r9 < (g5 1076 0) → ¬ (g5 44 r9) = 3 → sm_VO (g5 44) (g5 1076 0) (S 1007 0) (7) (r9)) := fun a b e => sm_VO_7 a b e
    have h := h k15
    obtain ⟨o16, h⟩ := h
    refine sv_iast sm_X hM dX12_makeFunction_44 (sm_a43 _) (by decide) o16.1 o16.2 rfl ?_
    have ok17 : sm_ok (sv_up (sv_sts S [1076, 41, 42, 43, 44, 45, 46, 47, 1075, 1100029] g5) 43 r9 (S 54 ((S 1092 0) - (1 : Int)))) := sm_upI ok6 sm_r43 k14
    have md18 : sv_mod [1076, 41, 42, 43, 44, 45, 46, 47, 1075, 1100029, 1092, 60, 58, 57, 63, 64, 1073, 1109, 1110, 1111, 1112, 1084, 1085, 48, 1086, 51, 52, 49, 50, 1100020, 1100021, 1100022] S (sv_up (sv_sts S [1076, 41, 42, 43, 44, 45, 46, 47, 1075, 1100029] g5) 43 r9 (S 54 ((S 1092 0) - (1 : Int)))) := sv_mod.up md10 (by decide)
    refine sv_aload_n hM dX12_makeFunction_45 rfl rfl ?_
    refine sv_getA hM dX12_makeFunction_46 sm_fl_146 (sm_a0 _) sm_k81 rfl ?_
    refine sv_iload_n hM dX12_makeFunction_49 rfl rfl ?_
    refine sv_iload_n hM dX12_makeFunction_50 rfl rfl ?_
    refine sv_iast sm_X hM dX12_makeFunction_51 (sm_a45 _) (by decide) o16.1 o16.2 rfl ?_
    have ok19 : sm_ok (sv_up (sv_up (sv_sts S [1076, 41, 42, 43, 44, 45, 46, 47, 1075, 1100029] g5) 43 r9 (S 54 ((S 1092 0) - (1 : Int)))) 45 r9 p1) := sm_upI ok17 sm_r45 hp1
    have md20 : sv_mod [1076, 41, 42, 43, 44, 45, 46, 47, 1075, 1100029, 1092, 60, 58, 57, 63, 64, 1073, 1109, 1110, 1111, 1112, 1084, 1085, 48, 1086, 51, 52, 49, 50, 1100020, 1100021, 1100022] S (sv_up (sv_up (sv_sts S [1076, 41, 42, 43, 44, 45, 46, 47, 1075, 1100029] g5) 43 r9 (S 54 ((S 1092 0) - (1 : Int)))) 45 r9 p1) := sv_mod.up md18 (by decide)
    refine sv_aload_n hM dX12_makeFunction_52 rfl rfl ?_
    refine sv_iconst (d := (1 : Int)) hM dX12_makeFunction_53 rfl rfl ?_
    refine sv_iload_n hM dX12_makeFunction_54 rfl rfl ?_
    refine sv_iconst (d := (4 : Int)) hM dX12_makeFunction_55 rfl rfl ?_
    refine sv_iadd hM dX12_makeFunction_56 rfl ?_
    refine sv_iconst (d := (0 : Int)) hM dX12_makeFunction_57 rfl rfl ?_
    obtain ⟨o21, h⟩ := h
    obtain ⟨o22, h⟩ := h
    refine sv_callV hM dX12_makeFunction_58 sm_iv_858 (by decide) (sm_a0 _) rfl rfl (Nat.le_of_ble_eq_true rfl) sm_h139 (Nat.le_of_ble_eq_true rfl) (Nat.le_of_ble_eq_true rfl) (F' := 0) (Nat.le_of_ble_eq_true rfl) rfl (t_newObject (1 : Int) (x1 + (4 : Int)) (0 : Int) (sv_up (sv_up (sv_sts S [1076, 41, 42, 43, 44, 45, 46, 47, 1075, 1100029] g5) 43 r9 (S 54 ((S 1092 0) - (1 : Int)))) 45 r9 p1) ok19 (⟨by decide, by decide⟩ : sv_R (1 : Int)) o21 (⟨by decide, by decide⟩ : sv_R (0 : Int)) o22) (fun v S1 hq => ?_)
    obtain ⟨r27, rfl, hr27, ok24, md25, hpo26⟩ := hq
    obtain ⟨g23, rfl⟩ : ∃ g, S1 = sv_sts (sv_up (sv_up (sv_sts S [1076, 41, 42, 43, 44, 45, 46, 47, 1075, 1100029] g5) 43 r9 (S 54 ((S 1092 0) - (1 : Int)))) 45 r9 p1) [1076, 41, 42, 43, 44, 45, 46, 47, 1075, 1100029] g := ⟨_, md25.eq⟩
    show sv_T sm_XS sm_cs sm_L sm_sh 3 (q_makeFunction p1 S) 170 61 [(0, .ref 0), (1, sv_I p1), (2, sv_I x1), (3, sv_I r9)] [sv_I r27] (sv_sts (sv_up (sv_up (sv_sts S [1076, 41, 42, 43, 44, 45, 46, 47, 1075, 1100029] g5) 43 r9 (S 54 ((S 1092 0) - (1 : Int)))) 45 r9 p1) [1076, 41, 42, 43, 44, 45, 46, 47, 1075, 1100029] g23)
    have md28 : sv_mod [1076, 41, 42, 43, 44, 45, 46, 47, 1075, 1100029, 1092, 60, 58, 57, 63, 64, 1073, 1109, 1110, 1111, 1112, 1084, 1085, 48, 1086, 51, 52, 49, 50, 1100020, 1100021, 1100022] S (sv_sts (sv_up (sv_up (sv_sts S [1076, 41, 42, 43, 44, 45, 46, 47, 1075, 1100029] g5) 43 r9 (S 54 ((S 1092 0) - (1 : Int)))) 45 r9 p1) [1076, 41, 42, 43, 44, 45, 46, 47, 1075, 1100029] g23) := sv_mod.sts md20 (by decide)
    have h := h r27 hr27 g23 hpo26
    refine sv_istore hM dX12_makeFunction_61 (by decide) rfl ?_
    show sv_T sm_XS sm_cs sm_L sm_sh 3 (q_makeFunction p1 S) 170 63 [(0, .ref 0), (1, sv_I p1), (2, sv_I x1), (3, sv_I r9), (4, sv_I r27)] [] (sv_sts (sv_up (sv_up (sv_sts S [1076, 41, 42, 43, 44, 45, 46, 47, 1075, 1100029] g5) 43 r9 (S 54 ((S 1092 0) - (1 : Int)))) 45 r9 p1) [1076, 41, 42, 43, 44, 45, 46, 47, 1075, 1100029] g23)
    refine sv_aload_n hM dX12_makeFunction_63 rfl rfl ?_
    have k29 : (0 ≤ (g23 1075 0) ∧ (g23 1075 0) ≤ 1) := sm_okZ ok24 sm_r1075 0
    have h := h k29
    refine sv_getI hM dX12_makeFunction_64 sm_fl_794 (sm_a0 _) sm_k75 rfl (x := (g23 1075 0)) rfl ?_
    refine sv_cond_eq hM dX12_makeFunction_67 (sv_R01 k29) (t := 71) rfl rfl (fun hc => ?_) (fun hc => ?_)
    · have h := h.1 (hc)
      refine sv_aload_n hM dX12_makeFunction_71 rfl rfl ?_
      refine sv_iload_n hM dX12_makeFunction_72 rfl rfl ?_
      refine sv_iconst (d := (1 : Int)) hM dX12_makeFunction_73 rfl rfl ?_
      refine sv_bipush (d := (7 : Int)) hM dX12_makeFunction_74 rfl rfl ?_
      refine sv_iload hM dX12_makeFunction_76 rfl rfl ?_
      obtain ⟨o30, h⟩ := h
      refine sv_callV hM dX12_makeFunction_78 sm_iv_870 (by decide) (sm_a0 _) rfl rfl (Nat.le_of_ble_eq_true rfl) sm_h141 (Nat.le_of_ble_eq_true rfl) (Nat.le_of_ble_eq_true rfl) (F' := 1) (Nat.le_of_ble_eq_true rfl) rfl (t_set_ r9 (1 : Int) (7 : Int) r27 (sv_sts (sv_up (sv_up (sv_sts S [1076, 41, 42, 43, 44, 45, 46, 47, 1075, 1100029] g5) 43 r9 (S 54 ((S 1092 0) - (1 : Int)))) 45 r9 p1) [1076, 41, 42, 43, 44, 45, 46, 47, 1075, 1100029] g23) ok24 hr9 (⟨by decide, by decide⟩ : sv_R (1 : Int)) (⟨by decide, by decide⟩ : sv_R (7 : Int)) hr27 o30) (fun v S1 hq => ?_)
      obtain ⟨rfl, ok32, md33, hpo34⟩ := hq
      obtain ⟨g31, rfl⟩ : ∃ g, S1 = sv_sts (sv_sts (sv_up (sv_up (sv_sts S [1076, 41, 42, 43, 44, 45, 46, 47, 1075, 1100029] g5) 43 r9 (S 54 ((S 1092 0) - (1 : Int)))) 45 r9 p1) [1076, 41, 42, 43, 44, 45, 46, 47, 1075, 1100029] g23) [1084, 1085, 48, 1086, 51, 52, 46, 47, 49, 50, 1075, 1100020, 1100021, 1100022] g := ⟨_, md33.eq⟩
      show sv_T sm_XS sm_cs sm_L sm_sh 3 (q_makeFunction p1 S) 170 81 [(0, .ref 0), (1, sv_I p1), (2, sv_I x1), (3, sv_I r9), (4, sv_I r27)] [] (sv_sts (sv_sts (sv_up (sv_up (sv_sts S [1076, 41, 42, 43, 44, 45, 46, 47, 1075, 1100029] g5) 43 r9 (S 54 ((S 1092 0) - (1 : Int)))) 45 r9 p1) [1076, 41, 42, 43, 44, 45, 46, 47, 1075, 1100029] g23) [1084, 1085, 48, 1086, 51, 52, 46, 47, 49, 50, 1075, 1100020, 1100021, 1100022] g31)
      have md35 : sv_mod [1076, 41, 42, 43, 44, 45, 46, 47, 1075, 1100029, 1092, 60, 58, 57, 63, 64, 1073, 1109, 1110, 1111, 1112, 1084, 1085, 48, 1086, 51, 52, 49, 50, 1100020, 1100021, 1100022] S (sv_sts (sv_sts (sv_up (sv_up (sv_sts S [1076, 41, 42, 43, 44, 45, 46, 47, 1075, 1100029] g5) 43 r9 (S 54 ((S 1092 0) - (1 : Int)))) 45 r9 p1) [1076, 41, 42, 43, 44, 45, 46, 47, 1075, 1100029] g23) [1084, 1085, 48, 1086, 51, 52, 46, 47, 49, 50, 1075, 1100020, 1100021, 1100022] g31) := sv_mod.sts md28 (by decide)
      have h := h g31 hpo34
      refine sv_aload_n hM dX12_makeFunction_81 rfl rfl ?_
      have k36 : (0 ≤ (g31 1075 0) ∧ (g31 1075 0) ≤ 1) := sm_okZ ok32 sm_r1075 0
      have h := h k36
      refine sv_getI hM dX12_makeFunction_82 sm_fl_794 (sm_a0 _) sm_k75 rfl (x := (g31 1075 0)) rfl ?_
      refine sv_cond_eq hM dX12_makeFunction_85 (sv_R01 k36) (t := 89) rfl rfl (fun hc => ?_) (fun hc => ?_)
      · have h := h.1 (hc)
        refine sv_aload_n hM dX12_makeFunction_89 rfl rfl ?_
        refine sv_iload hM dX12_makeFunction_90 rfl rfl ?_
        refine sv_iconst (d := (2 : Int)) hM dX12_makeFunction_92 rfl rfl ?_
        refine sv_bipush (d := (7 : Int)) hM dX12_makeFunction_93 rfl rfl ?_
        refine sv_iload_n hM dX12_makeFunction_95 rfl rfl ?_
        obtain ⟨o37, h⟩ := h
        refine sv_callV hM dX12_makeFunction_96 sm_iv_870 (by decide) (sm_a0 _) rfl rfl (Nat.le_of_ble_eq_true rfl) sm_h141 (Nat.le_of_ble_eq_true rfl) (Nat.le_of_ble_eq_true rfl) (F' := 1) (Nat.le_of_ble_eq_true rfl) rfl (t_set_ r27 (2 : Int) (7 : Int) r9 (sv_sts (sv_sts (sv_up (sv_up (sv_sts S [1076, 41, 42, 43, 44, 45, 46, 47, 1075, 1100029] g5) 43 r9 (S 54 ((S 1092 0) - (1 : Int)))) 45 r9 p1) [1076, 41, 42, 43, 44, 45, 46, 47, 1075, 1100029] g23) [1084, 1085, 48, 1086, 51, 52, 46, 47, 49, 50, 1075, 1100020, 1100021, 1100022] g31) ok32 hr27 (⟨by decide, by decide⟩ : sv_R (2 : Int)) (⟨by decide, by decide⟩ : sv_R (7 : Int)) hr9 o37) (fun v S1 hq => ?_)
        obtain ⟨rfl, ok39, md40, hpo41⟩ := hq
        obtain ⟨g38, rfl⟩ : ∃ g, S1 = sv_sts (sv_sts (sv_sts (sv_up (sv_up (sv_sts S [1076, 41, 42, 43, 44, 45, 46, 47, 1075, 1100029] g5) 43 r9 (S 54 ((S 1092 0) - (1 : Int)))) 45 r9 p1) [1076, 41, 42, 43, 44, 45, 46, 47, 1075, 1100029] g23) [1084, 1085, 48, 1086, 51, 52, 46, 47, 49, 50, 1075, 1100020, 1100021, 1100022] g31) [1084, 1085, 48, 1086, 51, 52, 46, 47, 49, 50, 1075, 1100020, 1100021, 1100022] g := ⟨_, md40.eq⟩
        show sv_T sm_XS sm_cs sm_L sm_sh 3 (q_makeFunction p1 S) 170 99 [(0, .ref 0), (1, sv_I p1), (2, sv_I x1), (3, sv_I r9), (4, sv_I r27)] [] (sv_sts (sv_sts (sv_sts (sv_up (sv_up (sv_sts S [1076, 41, 42, 43, 44, 45, 46, 47, 1075, 1100029] g5) 43 r9 (S 54 ((S 1092 0) - (1 : Int)))) 45 r9 p1) [1076, 41, 42, 43, 44, 45, 46, 47, 1075, 1100029] g23) [1084, 1085, 48, 1086, 51, 52, 46, 47, 49, 50, 1075, 1100020, 1100021, 1100022] g31) [1084, 1085, 48, 1086, 51, 52, 46, 47, 49, 50, 1075, 1100020, 1100021, 1100022] g38)
        have md42 : sv_mod [1076, 41, 42, 43, 44, 45, 46, 47, 1075, 1100029, 1092, 60, 58, 57, 63, 64, 1073, 1109, 1110, 1111, 1112, 1084, 1085, 48, 1086, 51, 52, 49, 50, 1100020, 1100021, 1100022] S (sv_sts (sv_sts (sv_sts (sv_up (sv_up (sv_sts S [1076, 41, 42, 43, 44, 45, 46, 47, 1075, 1100029] g5) 43 r9 (S 54 ((S 1092 0) - (1 : Int)))) 45 r9 p1) [1076, 41, 42, 43, 44, 45, 46, 47, 1075, 1100029] g23) [1084, 1085, 48, 1086, 51, 52, 46, 47, 49, 50, 1075, 1100020, 1100021, 1100022] g31) [1084, 1085, 48, 1086, 51, 52, 46, 47, 49, 50, 1075, 1100020, 1100021, 1100022] g38) := sv_mod.sts md35 (by decide)
        have h := h g38 hpo41
        refine sv_aload_n hM dX12_makeFunction_99 rfl rfl ?_
        refine sv_bipush (d := (7 : Int)) hM dX12_makeFunction_100 rfl rfl ?_
        refine sv_iload_n hM dX12_makeFunction_102 rfl rfl ?_
        refine sv_callV hM dX12_makeFunction_103 sm_iv_822 (by decide) (sm_a0 _) rfl rfl (Nat.le_of_ble_eq_true rfl) sm_h122 (Nat.le_of_ble_eq_true rfl) (Nat.le_of_ble_eq_true rfl) (F' := 0) (Nat.le_of_ble_eq_true rfl) rfl (t_give_ (7 : Int) r9 (sv_sts (sv_sts (sv_sts (sv_up (sv_up (sv_sts S [1076, 41, 42, 43, 44, 45, 46, 47, 1075, 1100029] g5) 43 r9 (S 54 ((S 1092 0) - (1 : Int)))) 45 r9 p1) [1076, 41, 42, 43, 44, 45, 46, 47, 1075, 1100029] g23) [1084, 1085, 48, 1086, 51, 52, 46, 47, 49, 50, 1075, 1100020, 1100021, 1100022] g31) [1084, 1085, 48, 1086, 51, 52, 46, 47, 49, 50, 1075, 1100020, 1100021, 1100022] g38) ok39 (⟨by decide, by decide⟩ : sv_R (7 : Int)) hr9) (fun v S1 hq => ?_)
        obtain ⟨rfl, ok44, md45, hpo46⟩ := hq
        obtain ⟨g43, rfl⟩ : ∃ g, S1 = sv_sts (sv_sts (sv_sts (sv_sts (sv_up (sv_up (sv_sts S [1076, 41, 42, 43, 44, 45, 46, 47, 1075, 1100029] g5) 43 r9 (S 54 ((S 1092 0) - (1 : Int)))) 45 r9 p1) [1076, 41, 42, 43, 44, 45, 46, 47, 1075, 1100029] g23) [1084, 1085, 48, 1086, 51, 52, 46, 47, 49, 50, 1075, 1100020, 1100021, 1100022] g31) [1084, 1085, 48, 1086, 51, 52, 46, 47, 49, 50, 1075, 1100020, 1100021, 1100022] g38) [1111, 1112] g := ⟨_, md45.eq⟩
        show sv_T sm_XS sm_cs sm_L sm_sh 3 (q_makeFunction p1 S) 170 106 [(0, .ref 0), (1, sv_I p1), (2, sv_I x1), (3, sv_I r9), (4, sv_I r27)] [] (sv_sts (sv_sts (sv_sts (sv_sts (sv_up (sv_up (sv_sts S [1076, 41, 42, 43, 44, 45, 46, 47, 1075, 1100029] g5) 43 r9 (S 54 ((S 1092 0) - (1 : Int)))) 45 r9 p1) [1076, 41, 42, 43, 44, 45, 46, 47, 1075, 1100029] g23) [1084, 1085, 48, 1086, 51, 52, 46, 47, 49, 50, 1075, 1100020, 1100021, 1100022] g31) [1084, 1085, 48, 1086, 51, 52, 46, 47, 49, 50, 1075, 1100020, 1100021, 1100022] g38) [1111, 1112] g43)
        have md47 : sv_mod [1076, 41, 42, 43, 44, 45, 46, 47, 1075, 1100029, 1092, 60, 58, 57, 63, 64, 1073, 1109, 1110, 1111, 1112, 1084, 1085, 48, 1086, 51, 52, 49, 50, 1100020, 1100021, 1100022] S (sv_sts (sv_sts (sv_sts (sv_sts (sv_up (sv_up (sv_sts S [1076, 41, 42, 43, 44, 45, 46, 47, 1075, 1100029] g5) 43 r9 (S 54 ((S 1092 0) - (1 : Int)))) 45 r9 p1) [1076, 41, 42, 43, 44, 45, 46, 47, 1075, 1100029] g23) [1084, 1085, 48, 1086, 51, 52, 46, 47, 49, 50, 1075, 1100020, 1100021, 1100022] g31) [1084, 1085, 48, 1086, 51, 52, 46, 47, 49, 50, 1075, 1100020, 1100021, 1100022] g38) [1111, 1112] g43) := sv_mod.sts md42 (by decide)
        have h := h g43 hpo46
        refine sv_aload_n hM dX12_makeFunction_106 rfl rfl ?_
        refine sv_iconst (d := (0 : Int)) hM dX12_makeFunction_107 rfl rfl ?_
        obtain ⟨o48, h⟩ := h
        refine sv_callV hM dX12_makeFunction_108 sm_iv_904 (by decide) (sm_a0 _) rfl rfl (Nat.le_of_ble_eq_true rfl) sm_h155 (Nat.le_of_ble_eq_true rfl) (Nat.le_of_ble_eq_true rfl) (F' := 2) (Nat.le_of_ble_eq_true rfl) rfl (t_gives (0 : Int) (sv_sts (sv_sts (sv_sts (sv_sts (sv_up (sv_up (sv_sts S [1076, 41, 42, 43, 44, 45, 46, 47, 1075, 1100029] g5) 43 r9 (S 54 ((S 1092 0) - (1 : Int)))) 45 r9 p1) [1076, 41, 42, 43, 44, 45, 46, 47, 1075, 1100029] g23) [1084, 1085, 48, 1086, 51, 52, 46, 47, 49, 50, 1075, 1100020, 1100021, 1100022] g31) [1084, 1085, 48, 1086, 51, 52, 46, 47, 49, 50, 1075, 1100020, 1100021, 1100022] g38) [1111, 1112] g43) ok44 (⟨by decide, by decide⟩ : sv_R (0 : Int)) o48) (fun v S1 hq => ?_)
        obtain ⟨rfl, ok50, md51, hpo52⟩ := hq
        obtain ⟨g49, rfl⟩ : ∃ g, S1 = sv_sts (sv_sts (sv_sts (sv_sts (sv_sts (sv_up (sv_up (sv_sts S [1076, 41, 42, 43, 44, 45, 46, 47, 1075, 1100029] g5) 43 r9 (S 54 ((S 1092 0) - (1 : Int)))) 45 r9 p1) [1076, 41, 42, 43, 44, 45, 46, 47, 1075, 1100029] g23) [1084, 1085, 48, 1086, 51, 52, 46, 47, 49, 50, 1075, 1100020, 1100021, 1100022] g31) [1084, 1085, 48, 1086, 51, 52, 46, 47, 49, 50, 1075, 1100020, 1100021, 1100022] g38) [1111, 1112] g43) [58, 63, 64, 57] g := ⟨_, md51.eq⟩
        show sv_T sm_XS sm_cs sm_L sm_sh 3 (q_makeFunction p1 S) 170 111 [(0, .ref 0), (1, sv_I p1), (2, sv_I x1), (3, sv_I r9), (4, sv_I r27)] [] (sv_sts (sv_sts (sv_sts (sv_sts (sv_sts (sv_up (sv_up (sv_sts S [1076, 41, 42, 43, 44, 45, 46, 47, 1075, 1100029] g5) 43 r9 (S 54 ((S 1092 0) - (1 : Int)))) 45 r9 p1) [1076, 41, 42, 43, 44, 45, 46, 47, 1075, 1100029] g23) [1084, 1085, 48, 1086, 51, 52, 46, 47, 49, 50, 1075, 1100020, 1100021, 1100022] g31) [1084, 1085, 48, 1086, 51, 52, 46, 47, 49, 50, 1075, 1100020, 1100021, 1100022] g38) [1111, 1112] g43) [58, 63, 64, 57] g49)
        have md53 : sv_mod [1076, 41, 42, 43, 44, 45, 46, 47, 1075, 1100029, 1092, 60, 58, 57, 63, 64, 1073, 1109, 1110, 1111, 1112, 1084, 1085, 48, 1086, 51, 52, 49, 50, 1100020, 1100021, 1100022] S (sv_sts (sv_sts (sv_sts (sv_sts (sv_sts (sv_up (sv_up (sv_sts S [1076, 41, 42, 43, 44, 45, 46, 47, 1075, 1100029] g5) 43 r9 (S 54 ((S 1092 0) - (1 : Int)))) 45 r9 p1) [1076, 41, 42, 43, 44, 45, 46, 47, 1075, 1100029] g23) [1084, 1085, 48, 1086, 51, 52, 46, 47, 49, 50, 1075, 1100020, 1100021, 1100022] g31) [1084, 1085, 48, 1086, 51, 52, 46, 47, 49, 50, 1075, 1100020, 1100021, 1100022] g38) [1111, 1112] g43) [58, 63, 64, 57] g49) := sv_mod.sts md47 (by decide)
        have h := h g49 hpo52
        exact sv_vret hM dX12_makeFunction_111 rfl ⟨rfl, ok50, md53, h⟩
      · have h := h.2 (hc)
        exact sv_vret hM dX12_makeFunction_88 rfl ⟨rfl, ok32, md35, h⟩
    · have h := h.2 (hc)
      exact sv_vret hM dX12_makeFunction_70 rfl ⟨rfl, ok24, md28, h⟩
  · have h := h.2 (hc)
    exact sv_vret hM dX12_makeFunction_27 rfl ⟨rfl, ok6, md10, h⟩
def q_putInto (S : sv_S) : Option Value → sv_S → Prop := fun v S' => v = none ∧ sm_ok S' ∧ sv_mod [1076, 41, 42, 43, 44, 45, 46, 47, 1075, 1100029, 1092, 60, 58, 57, 63, 64, 1073, 1109, 1110, 1111, 1112, 5, 1011, 3, 4, 1007, 1084, 1085, 48, 1086, 51, 52, 49, 50, 1100020, 1100021, 1100022] S S' ∧ (sm_PL (S' 1100020) (S' 51) (S' 52) (S' 46) (S' 47) (S' 1076 0) (S' 1086 0) ∧ sm_FR (S' 1100020) (S' 52) (S' 1100021) (S' 1100022) (3000 - (S' 1084 0)) (S' 1085 0) ∧ sm_PV (S' 1100020) (S' 48) (S' 49) (S' 50) (S' 44) (S' 1076 0) (S' 1007 0) ∧ sm_AL (S' 1100020) (S' 48) (S' 49) (S' 50) (S' 44) (S' 1076 0) (S' 1100032 0) ∧ sm_SV (S' 1100020) (S' 48) (S' 1100029) (S' 32) (S' 33) (S' 1076 0) (S' 1032 0) ∧ 0 ≤ (S' 1076 0) ∧ (S' 1076 0) ≤ 300 ∧ 0 ≤ (S' 1084 0) ∧ (S' 1084 0) ≤ 3000 ∧ 0 ≤ (S' 1086 0) ∧ sm_SC (S' 1100029) (S' 44) (S' 45) (S' 43) (S' 21) (S' 1076 0) (S' 1032 0) ∧ sm_PO (S' 42) (S' 1076 0) ∧ ((S' 1075 0) = 0 → (S' 1100032 0) = -1 ∧ sm_FO (S' 44) (S' 45) (S' 1076 0)) ∧ 23 ≤ (S' 1076 0) ∧ 31 ≤ (S' 1007 0) ∧ (S' 1007 0) ≤ 400 ∧ sm_LN (S' 4) 400 (S' 1007 0) ∧ (S' 1008 0) ≤ (S' 1007 0) ∧ ((S 1075 0) = 1 → (S' 1075 0) = 1) ∧ 0 ≤ (S' 1092 0) ∧ (S' 1092 0) ≤ 24 ∧ (S 1007 0) ≤ (S' 1007 0) ∧ (¬ (S' 1075 0) = 0 → sm_LX (S' 58) (S' 63) (S' 64) (S' 1092 0) (S' 1076 0)) ∧ ((S' 1075 0) = 0 → (S' 1073 0) = 1 → 1 ≤ (S' 1092 0) ∧ (S' 1092 0) ≤ 24 ∧ 0 ≤ (S' 57 ((S' 1092 0) - 1)) ∧ (S' 57 ((S' 1092 0) - 1)) < (S' 1046 0) ∧ (S' 29 (S' 57 ((S' 1092 0) - 1))) = (S' 53 ((S' 1092 0) - 1)) ∧ 0 ≤ (S' 53 ((S' 1092 0) - 1)) ∧ (S' 53 ((S' 1092 0) - 1)) < (S' 1032 0) ∧ (S' 60 ((S' 1092 0) - 1)) = sm_dp (S' 1100024) (S' 1100023 (S' 57 ((S' 1092 0) - 1))) ∧ sm_TC (S' 61) (S' 62) (S' 27) (S' 1100007) (S' 1100023) (S' 1100024) (40 * ((S' 1092 0) - 1)) (S' 1100023 (S' 57 ((S' 1092 0) - 1))) ∧ sm_LK (S' 1100029) (S' 1076 0) (S' 54 ((S' 1092 0) - 1)) (S' 53 ((S' 1092 0) - 1)) ∧ sm_VO (S' 44) (S' 1076 0) (S' 1007 0) ((S' 55 ((S' 1092 0) - 1))) ((S' 56 ((S' 1092 0) - 1))) ∧ sm_FW (S' 44) (S' 1076 0) (S' 59 ((S' 1092 0) - 1)) ∧ sm_FL (S' 53) (S' 54) (S' 55) (S' 56) (S' 57) (S' 58) (S' 59) (S' 60) (S' 61) (S' 62) (S' 63) (S' 64) (S' 27) (S' 29) (S' 1100007) (S' 1100023) (S' 1100024) (S' 1100025) (S' 26) (S' 1100029) (S' 44) (S' 1046 0) (S' 1032 0) (S' 1076 0) (S' 1007 0) (((S' 1092 0) - 1)) ∧ (S' 58 ((S' 1092 0) - 1)) = (S' 1100007 (S' 57 ((S' 1092 0) - 1))) ∧ sm_SK (S' 63) (S' 64) (S' 44) (S' 1100007) (S' 1100025) (S' 1076 0) (S' 1007 0) (400 * ((S' 1092 0) - 1)) ((S' 58 ((S' 1092 0) - 1))) ((S' 1100025 (S' 57 ((S' 1092 0) - 1))))) ∧ ((S' 1073 0) = 1 ∨ (S' 1092 0) = 0 ∧ (S' 1075 0) = 0 ∧ ((S' 1073 0) = 2 ∨ (S' 1073 0) = 3)) ∧ (S 1086 0) ≤ (S' 1086 0) ∧ (S' 1086 0) ≤ (S 1086 0) + 110)
theorem la_putInto_0 {x0 : Int} (h0 : 3 ≤ x0) : 0 ≤ x0 - 1 := by omega
theorem la_putInto_1 {x0 : Int} : x0 - 1 < x0 := by omega
theorem la_putInto_2 {x0 : Int} (h0 : 3 ≤ x0) : 0 ≤ x0 - 2 := by omega
theorem la_putInto_3 {x0 : Int} : x0 - 2 < x0 := by omega
theorem la_putInto_4 {x0 : Int} (h0 : 3 ≤ x0) : 0 ≤ x0 - 3 := by omega
theorem la_putInto_5 {x0 : Int} : x0 - 3 < x0 := by omega
theorem la_putInto_6 {x0 x1 : Int} (h0 : 1 ≤ x0) (h1 : x0 ≤ 24) (h2 : x1 ≤ 396) (h3 : 3 ≤ x1) : 1 ≤ x0 ∧ x0 ≤ 24 ∧ 0 ≤ x1 ∧ x1 ≤ 400 ∧ (0 : Int) ≤ 2 ∧ 2 < x1 := by omega
theorem la_putInto_7 {x0 x1 : Int} (h0 : 1 ≤ x0) (h1 : x0 ≤ 24) (h2 : x1 ≤ 396) (h3 : 3 ≤ x1) : 1 ≤ x0 ∧ x0 ≤ 24 ∧ 0 ≤ x1 ∧ x1 ≤ 400 ∧ (0 : Int) ≤ 1 ∧ 1 < x1 := by omega
theorem la_putInto_8 {x0 x1 : Int} : 400 * (x0 - 1) + x1 - 1 - 1 = 400 * (x0 - 1) + (x1 - 2) := by omega
theorem la_putInto_9 {x0 x1 : Int} : 400 * (x0 - 1) + x1 - 1 - 2 = 400 * (x0 - 1) + (x1 - 3) := by omega
theorem la_putInto_10 {x0 x1 : Int} (h0 : x0 = 6) (h1 : x0 = x1) : x1 = 6 := by omega
theorem la_putInto_11 {x0 x1 : Int} (h0 : x0 = 6) (h1 : x0 = x1) : ¬ x1 = 7 := by omega
theorem la_putInto_12 {x0 x1 : Int} (h0 : x0 = x1) (h1 : 0 ≤ x1) : 0 ≤ x0 := by omega
theorem la_putInto_13 {x0 x1 x2 : Int} (h0 : x0 = x1) (h1 : x1 < x2) : x0 < x2 := by omega
theorem la_putInto_14 {x0 : Int} (h0 : x0 = 0) : ¬ x0 = 1 := by omega
theorem la_putInto_15 {x0 x1 : Int} (h0 : 1 ≤ x0) (h1 : x0 ≤ 24) (h2 : x1 ≤ 396) (h3 : 3 ≤ x1) : 1 ≤ x0 ∧ x0 ≤ 24 ∧ 0 ≤ x1 ∧ x1 ≤ 400 ∧ (0 : Int) ≤ 0 ∧ 0 < x1 := by omega
theorem la_putInto_16 {x0 x1 : Int} (h0 : 31 ≤ x0) (h1 : x0 ≤ x1) : 31 ≤ x1 := by omega
theorem la_putInto_17 {x0 x1 x2 : Int} (h0 : x0 ≤ x1) (h1 : x1 ≤ x2) : x0 ≤ x2 := by omega
theorem la_putInto_18 {x0 : Int} : x0 ≤ x0 := by omega
theorem la_putInto_19 : (0 : Int) ≤ 3 := by omega
theorem la_putInto_20 {x0 : Int} (h0 : x0 ≤ 396) : x0 - 3 ≤ 399 := by omega
theorem la_putInto_21 {x0 x1 : Int} (h0 : x0 < x1) (h1 : x1 ≤ 400) : x0 < 400 := by omega
theorem la_putInto_22 {x0 x1 : Int} : 400 * (x0 - 1) + x1 - 1 - 0 = 400 * (x0 - 1) + (x1 - 1) := by omega
theorem la_putInto_23 {x0 x1 x2 : Int} (h0 : x0 ≤ 7) (h1 : x1 = x2) (h2 : x1 = x0) : x2 ≤ 7 := by omega
theorem la_putInto_24 {x0 : Int} (h0 : x0 ≤ 7) (h1 : ¬ x0 = 7) : x0 < 7 := by omega
theorem la_putInto_25 {x0 x1 x2 : Int} (h0 : x0 = x1) (h1 : x0 = x2) (h2 : x1 < 7) : ¬ x2 = 7 := by omega
theorem la_putInto_26 {x0 x1 x2 : Int} (h0 : x0 = x1) (h1 : x1 = x2) : x0 = x2 := by omega
theorem la_putInto_27 {x0 x1 : Int} (h0 : x0 = x1 + (-2)) : x0 = x1 - 3 + 1 := by omega
theorem la_putInto_28 {x0 : Int} (h0 : x0 = 0) : x0 ≤ 0 := by omega
theorem la_putInto_29 {x0 : Int} (h0 : x0 ≤ 0) (h1 : ¬ x0 = 0) : x0 < 0 := by omega
theorem la_putInto_30 {x0 x1 : Int} (h0 : x0 = 0) (h1 : x0 < 0) : x1 = 5 := by omega
theorem la_putInto_31 {x0 x1 : Int} (h0 : x0 = 0) (h1 : x0 < 0) : 0 ≤ x1 := by omega
theorem la_putInto_32 {x0 x1 : Int} (h0 : x0 = 0) (h1 : x0 < 0) : x1 ≤ 100 := by omega
theorem la_putInto_33 {x0 : Int} (h0 : 0 ≤ x0) (h1 : x0 = 0) : ¬ ¬ x0 = 0 := by omega
theorem la_putInto_34 {x0 : Int} (h0 : 1 ≤ x0) : 0 ≤ x0 := by omega
theorem la_putInto_35 {x0 x1 x2 : Int} (h0 : x0 = 1) (h1 : 1 ≤ x1) (h2 : 0 ≤ x2) (h3 : x2 = 0) : x0 = 1 ∨ x1 = 0 ∧ x2 = 0 ∧ (x0 = 2 ∨ x0 = 3) := by omega
theorem la_putInto_36 {x0 : Int} : x0 ≤ x0 + 110 := by omega
theorem la_putInto_37 {x0 : Int} (h0 : x0 = 1) : 0 ≤ x0 := by omega
theorem la_putInto_38 {x0 : Int} (h0 : 0 ≤ x0) (h1 : ¬ x0 = 0) : 0 < x0 := by omega
theorem la_putInto_39 {x0 x1 x2 : Int} (h0 : x0 = x1) (h1 : ¬ ¬ x1 = 7) (h2 : x0 = x2) : ¬ x2 = 6 := by omega
theorem la_putInto_40 {x0 x1 x2 : Int} (h0 : x0 ≤ 7) (h1 : x1 = x2) (h2 : ¬ ¬ x2 = 7) (h3 : x1 = x0) : x0 = 7 := by omega
theorem la_putInto_41 {x0 : Int} (h0 : ¬ ¬ x0 = 0) : ¬ x0 = 1 := by omega
theorem la_putInto_42 {x0 : Int} (h0 : ¬ ¬ x0 = 7) : x0 = 7 := by omega
theorem la_putInto_43 {x0 x1 x2 : Int} (h0 : x0 = x1) (h1 : x0 = x2) (h2 : 0 ≤ x2) : 0 ≤ x1 := by omega
theorem la_putInto_44 {x0 x1 x2 x3 : Int} (h0 : x0 = x1) (h1 : x0 = x2) (h2 : x2 < x3) : x1 < x3 := by omega
theorem la_putInto_45 {x0 x1 x2 x3 : Int} (h0 : 0 ≤ x0) (h1 : ¬ (x1 = 2 ∧ x0 = 0)) : x1 = 2 → x0 = 0 → x2 = 5 ∧ 0 ≤ x3 ∧ x3 ≤ 100 := by omega
theorem la_putInto_46 {x0 : Int} (h0 : x0 ≤ 1900000000) : x0 < 2000000000 := by omega
theorem la_putInto_47 {x0 x1 : Int} (h0 : x0 = 0) (h1 : 0 < x1) : ¬ x1 = x0 := by omega
theorem la_putInto_48 {x0 x1 : Int} (h0 : x0 = 0) : x0 = 1 → x1 = 1 := by omega
theorem la_putInto_49 {x0 x1 x2 : Int} (h0 : x0 = 1) (h1 : 1 ≤ x1) (h2 : 0 < x2) : x0 = 1 ∨ x1 = 0 ∧ x2 = 0 ∧ (x0 = 2 ∨ x0 = 3) := by omega
theorem la_putInto_50 {x0 x1 : Int} (h0 : x0 ≤ x1 + 1) : x0 ≤ x1 + 110 := by omega
theorem la_putInto_51 {x0 : Int} (h0 : 0 ≤ x0) (h1 : ¬ ¬ x0 = 0) : x0 = 0 := by omega
theorem la_putInto_52 {x0 : Int} (h0 : (-1) ≤ x0) (h1 : x0 < 0) : ¬ ¬ x0 = (-1) := by omega
theorem la_putInto_53 {x0 : Int} (h0 : ¬ ¬ x0 = 0) : x0 ≤ 0 := by omega
theorem la_putInto_54 {x0 x1 : Int} (h0 : 0 ≤ x0) (h1 : ¬ ¬ x0 = 0) (h2 : x0 < 0) : x1 = 5 := by omega
theorem la_putInto_55 {x0 x1 : Int} (h0 : 0 ≤ x0) (h1 : x0 < 0) : x1 < 3000 := by omega
theorem la_putInto_56 {x0 x1 : Int} (h0 : 0 ≤ x0) (h1 : x0 < 0) : 0 ≤ x1 := by omega
theorem la_putInto_57 {x0 x1 : Int} (h0 : 0 ≤ x0) (h1 : x0 < 0) : x1 ≤ 100 := by omega
theorem la_putInto_58 {x0 x1 : Int} (h0 : x0 = 0) (h1 : ¬ ¬ x1 = 0) : x0 = 1 → x1 = 1 := by omega
theorem la_putInto_59 {x0 x1 x2 : Int} (h0 : x0 = 1) (h1 : 1 ≤ x1) (h2 : ¬ ¬ x2 = 0) : x0 = 1 ∨ x1 = 0 ∧ x2 = 0 ∧ (x0 = 2 ∨ x0 = 3) := by omega
theorem la_putInto_60 {x0 : Int} (h0 : ¬ x0 < 0) : ¬ x0 = (-1) := by omega
theorem la_putInto_61 {x0 x1 x2 x3 : Int} (h0 : x0 = (-1)) (h1 : x1 = x2) (h2 : x1 = x3) (h3 : 0 ≤ x3) : ¬ x2 = x0 := by omega
theorem la_putInto_62 {x0 : Int} (h0 : x0 ≤ 99) (h1 : ¬ x0 < 0) : sv_R (x0 + 1) := by omega
theorem la_putInto_63 : (0 : Int) ≤ 0 := by omega
theorem la_putInto_64 {x0 x1 : Int} (h0 : 31 ≤ x0) (h1 : x0 ≤ x1) : 0 < x1 := by omega
theorem la_putInto_65 : (0 : Int) ≤ 5 := by omega
theorem la_putInto_66 : (5 : Int) ≤ 7 := by omega
theorem la_putInto_67 {x0 x1 : Int} : (5 : Int) = 6 → 0 ≤ x0 + 1 ∧ x0 + 1 < x1 := by omega
theorem la_putInto_68 {x0 x1 x2 : Int} : (5 : Int) = 7 → 0 ≤ x0 + 1 ∧ x0 + 1 < x1 ∧ ¬ x2 = 3 := by omega
theorem la_putInto_69 {x0 x1 : Int} (h0 : x0 ≤ 99) (h1 : ¬ x0 < 0) : x1 = 2 → (0 : Int) = 0 → (5 : Int) = 5 ∧ 0 ≤ x0 + 1 ∧ x0 + 1 ≤ 100 := by omega
theorem la_putInto_70 {x0 x1 : Int} (h0 : x0 ≤ 1900000000) (h1 : x1 ≤ x0 + 1) : x1 < 2000000000 := by omega
theorem la_putInto_71 {x0 : Int} (h0 : x0 = 0) : ¬ ¬ x0 = 0 := by omega
theorem la_putInto_72 {x0 x1 x2 : Int} (h0 : x0 = 1) (h1 : 1 ≤ x1) : x0 = 1 ∨ x1 = 0 ∧ x2 = 0 ∧ (x0 = 2 ∨ x0 = 3) := by omega
theorem la_putInto_73 {x0 x1 x2 : Int} (h0 : x0 ≤ x1 + 1) (h1 : x2 ≤ x0 + 1) : x2 ≤ x1 + 110 := by omega
theorem la_putInto_74 {x0 x1 x2 x3 : Int} (h0 : x0 ≤ 300) (h1 : x1 = x2) (h2 : x1 = x3) (h3 : x3 < x0) : x2 < 300 := by omega
theorem la_putInto_75 {x0 : Int} : ¬ x0 = 2 → ((-1) : Int) ≤ (-1) ∧ ((-1) : Int) ≤ 99 ∧ (¬ ((-1) : Int) = (-1) → x0 = 2) := by omega
theorem la_putInto_76 {x0 : Int} (h0 : ¬ ¬ x0 = 2) : x0 = 2 := by omega
theorem la_putInto_77 {x0 x1 : Int} (h0 : x0 < x1) (h1 : x1 ≤ 400) (h2 : 0 < x0) : 0 ≤ x0 ∧ x0 < 400 := by omega
theorem la_putInto_78 {x0 : Int} (h0 : (-1) ≤ x0) (h1 : ¬ x0 = (-1)) : (-1) < x0 := by omega
theorem la_putInto_79 {x0 x1 x2 : Int} : ¬ x0 = 7 → ((0 : Int) = 0 ∨ (0 : Int) = 1) ∧ ((0 : Int) = 0 → ¬ (x0 = 7 ∧ x1 = 2 ∧ x2 = 0)) := by omega
theorem la_putInto_80 {x0 x1 x2 : Int} : ¬ x0 = 2 → ((0 : Int) = 0 ∨ (0 : Int) = 1) ∧ ((0 : Int) = 0 → ¬ (x1 = 7 ∧ x0 = 2 ∧ x2 = 0)) := by omega
theorem la_putInto_81 {x0 x1 x2 : Int} : ¬ x0 = 0 → ((0 : Int) = 0 ∨ (0 : Int) = 1) ∧ ((0 : Int) = 0 → ¬ (x1 = 7 ∧ x2 = 2 ∧ x0 = 0)) := by omega
theorem la_putInto_82 : (1 : Int) = 0 ∨ (1 : Int) = 1 := by omega
theorem la_putInto_83 {x0 x1 x2 : Int} (h0 : (1 : Int) = 0) : ¬ (x0 = 7 ∧ x1 = 2 ∧ x2 = 0) := by omega
theorem la_putInto_84 {x0 x1 : Int} (h0 : 0 ≤ x0) (h1 : x1 = x0) : 0 ≤ x1 := by omega
theorem la_putInto_85 {x0 x1 x2 : Int} (h0 : x0 = x1) (h1 : x1 + 1 < x2) : x0 < x2 := by omega
theorem la_putInto_86 {x0 x1 x2 : Int} (h0 : x0 = x1) (h1 : ¬ 1 < x1) (h2 : x0 = x2) : ¬ x2 = 6 := by omega
theorem la_putInto_87 {x0 x1 x2 : Int} (h0 : x0 = x1) (h1 : ¬ 1 < x1) (h2 : x0 = x2) : ¬ x2 = 7 := by omega
theorem la_putInto_88 {x0 x1 x2 : Int} (h0 : x0 = x1) (h1 : x2 = x0) : x2 = x1 := by omega
theorem la_putInto_89 {x0 x1 x2 : Int} (h0 : x0 = x1) (h1 : x2 = x1) : x0 = x2 := by omega
theorem la_putInto_90 {x0 x1 : Int} (h0 : x0 = x1) : x1 = x0 := by omega
theorem la_putInto_91 {x0 : Int} : x0 = x0 - 1 + 1 := by omega
theorem la_putInto_92 {x0 x1 x2 : Int} (h0 : x0 = x1) (h1 : x2 = x1) : x2 = x0 := by omega
theorem la_putInto_93 {x0 x1 : Int} (h0 : 0 ≤ x0) (h1 : x0 = x1) : 0 ≤ x1 := by omega
theorem la_putInto_94 {x0 x1 x2 : Int} (h0 : x0 ≤ x1) (h1 : x2 = x0) : x2 ≤ x1 := by omega
theorem la_putInto_95 : (6 : Int) ≤ 6 := by omega
theorem la_putInto_96 : (6 : Int) ≤ 8 := by omega
theorem la_putInto_97 {x0 x1 : Int} (h0 : 0 < x0) (h1 : x0 = 0) : x1 = 5 := by omega
theorem la_putInto_98 {x0 x1 : Int} (h0 : 0 < x0) (h1 : x0 = 0) : 0 ≤ x1 := by omega
theorem la_putInto_99 {x0 x1 : Int} (h0 : 0 < x0) (h1 : x0 = 0) : x1 ≤ 100 := by omega
set_option maxHeartbeats 2000000 in
theorem f_putInto : ∀ (S : sv_S), sm_ok S → ((S 1075 0) = 0 ∧ (S 1073 0) = 1 ∧ sm_LX (S 58) (S 63) (S 64) (S 1092 0) (S 1076 0) ∧ sm_PL (S 1100020) (S 51) (S 52) (S 46) (S 47) (S 1076 0) (S 1086 0) ∧ sm_FR (S 1100020) (S 52) (S 1100021) (S 1100022) (3000 - (S 1084 0)) (S 1085 0) ∧ sm_PV (S 1100020) (S 48) (S 49) (S 50) (S 44) (S 1076 0) (S 1007 0) ∧ sm_AL (S 1100020) (S 48) (S 49) (S 50) (S 44) (S 1076 0) (S 1100032 0) ∧ sm_SV (S 1100020) (S 48) (S 1100029) (S 32) (S 33) (S 1076 0) (S 1032 0) ∧ 0 ≤ (S 1076 0) ∧ (S 1076 0) ≤ 300 ∧ 0 ≤ (S 1084 0) ∧ (S 1084 0) ≤ 3000 ∧ 0 ≤ (S 1086 0) ∧ sm_SC (S 1100029) (S 44) (S 45) (S 43) (S 21) (S 1076 0) (S 1032 0) ∧ sm_PO (S 42) (S 1076 0) ∧ (S 1100032 0) = -1 ∧ sm_FO (S 44) (S 45) (S 1076 0) ∧ 23 ≤ (S 1076 0) ∧ 31 ≤ (S 1007 0) ∧ (S 1007 0) ≤ 400 ∧ sm_LN (S 4) 400 (S 1007 0) ∧ sm_CT (S 26) (S 27) (S 28) (S 29) (S 1100007) (S 1100023) (S 1100024) (S 1100025) (S 21) (S 1046 0) (S 1032 0) (S 1008 0) (S 1055 0) ∧ sm_LS (S 26) (S 1100007) (S 1100025) (S 1046 0) ∧ sm_CL (S 1100007) (S 1100023) (S 1100025) (S 1046 0) ∧ 1 ≤ (S 1032 0) ∧ (S 1032 0) ≤ 11 ∧ 0 ≤ (S 1046 0) ∧ (S 1046 0) ≤ 600 ∧ 31 ≤ (S 1008 0) ∧ (S 1008 0) ≤ (S 1007 0) ∧ 0 ≤ (S 1055 0) ∧ (S 1055 0) ≤ 19 ∧ 1 ≤ (S 1092 0) ∧ (S 1092 0) ≤ 24 ∧ 0 ≤ (S 1100033 0) ∧ (S 1100033 0) < (S 1046 0) ∧ (S 29 (S 1100033 0)) = (S 53 ((S 1092 0) - 1)) ∧ 0 ≤ (S 53 ((S 1092 0) - 1)) ∧ (S 53 ((S 1092 0) - 1)) < (S 1032 0) ∧ (S 60 ((S 1092 0) - 1)) = sm_dp (S 1100024) (S 1100023 (S 1100033 0)) ∧ sm_TC (S 61) (S 62) (S 27) (S 1100007) (S 1100023) (S 1100024) (40 * ((S 1092 0) - 1)) (S 1100023 (S 1100033 0)) ∧ sm_LK (S 1100029) (S 1076 0) (S 54 ((S 1092 0) - 1)) (S 53 ((S 1092 0) - 1)) ∧ sm_VO (S 44) (S 1076 0) (S 1007 0) ((S 55 ((S 1092 0) - 1))) ((S 56 ((S 1092 0) - 1))) ∧ sm_FW (S 44) (S 1076 0) (S 59 ((S 1092 0) - 1)) ∧ sm_FL (S 53) (S 54) (S 55) (S 56) (S 57) (S 58) (S 59) (S 60) (S 61) (S 62) (S 63) (S 64) (S 27) (S 29) (S 1100007) (S 1100023) (S 1100024) (S 1100025) (S 26) (S 1100029) (S 44) (S 1046 0) (S 1032 0) (S 1076 0) (S 1007 0) (((S 1092 0) - 1)) ∧ (S 57 ((S 1092 0) - 1)) = (S 1100033 0) ∧ 0 ≤ (S 58 ((S 1092 0) - 1)) ∧ (S 58 ((S 1092 0) - 1)) ≤ 400 ∧ sm_SK (S 63) (S 64) (S 44) (S 1100007) (S 1100025) (S 1076 0) (S 1007 0) (400 * ((S 1092 0) - 1)) ((S 58 ((S 1092 0) - 1))) ((S 1100034 0)) ∧ -1 ≤ (S 1100034 0) ∧ (S 1100034 0) < (S 1046 0) ∧ (0 ≤ (S 1100034 0) → (S 26 (S 1100034 0)) = 29) ∧ (S 58 ((S 1092 0) - 1)) = (S 1100007 (S 1100033 0)) ∧ (S 1100034 0) = (S 1100025 (S 1100033 0)) ∧ (0 ≤ (S 1100023 (S 1100033 0)) → (S 1100007 (S 1100023 (S 1100033 0))) ≤ (S 58 ((S 1092 0) - 1))) ∧ (S 58 ((S 1092 0) - 1)) ≤ 396 ∧ 3 ≤ (S 58 ((S 1092 0) - 1)) ∧ (0 ≤ (S 1100034 0) → (S 1100007 (S 1100034 0)) ≤ (S 58 ((S 1092 0) - 1)) - 3) ∧ (S 1100033 0) + 1 < (S 1046 0) ∧ (S 29 ((S 1100033 0) + 1)) = (S 29 (S 1100033 0)) ∧ (S 1100007 ((S 1100033 0) + 1)) = (S 58 ((S 1092 0) - 1)) + (-2) ∧ (S 1100023 ((S 1100033 0) + 1)) = (S 1100023 (S 1100033 0)) ∧ (S 1100025 ((S 1100033 0) + 1)) = (S 1100034 0) ∧ (S 1086 0) ≤ 1900000000) → ((sm_SK (S 63) (S 64) (S 44) (S 1100007) (S 1100025) (S 1076 0) (S 1007 0) (400 * ((S 1092 0) - 1)) ((S 58 ((S 1092 0) - 1))) ((S 1100034 0)) → sm_LS (S 26) (S 1100007) (S 1100025) (S 1046 0) → 0 ≤ (S 58 ((S 1092 0) - 1)) - 1 → (S 58 ((S 1092 0) - 1)) - 1 < (S 58 ((S 1092 0) - 1)) → (S 1100034 0) < (S 1046 0) → (0 ≤ (S 1100034 0) → (S 26 (S 1100034 0)) = 29) → (0 ≤ (S 1100034 0) → (S 1100007 (S 1100034 0)) ≤ (S 58 ((S 1092 0) - 1)) - 3) → sm_VO (S 44) (S 1076 0) (S 1007 0) ((S 63 (400 * ((S 1092 0) - 1) + ((S 58 ((S 1092 0) - 1)) - 1)))) ((S 64 (400 * ((S 1092 0) - 1) + ((S 58 ((S 1092 0) - 1)) - 1))))) → ((sm_SK (S 63) (S 64) (S 44) (S 1100007) (S 1100025) (S 1076 0) (S 1007 0) (400 * ((S 1092 0) - 1)) ((S 58 ((S 1092 0) - 1))) ((S 1100034 0)) → sm_LS (S 26) (S 1100007) (S 1100025) (S 1046 0) → 0 ≤ (S 58 ((S 1092 0) - 1)) - 2 → (S 58 ((S 1092 0) - 1)) - 2 < (S 58 ((S 1092 0) - 1)) → (S 1100034 0) < (S 1046 0) → (0 ≤ (S 1100034 0) → (S 26 (S 1100034 0)) = 29) → (0 ≤ (S 1100034 0) → (S 1100007 (S 1100034 0)) ≤ (S 58 ((S 1092 0) - 1)) - 3) → sm_VO (S 44) (S 1076 0) (S 1007 0) ((S 63 (400 * ((S 1092 0) - 1) + ((S 58 ((S 1092 0) - 1)) - 2)))) ((S 64 (400 * ((S 1092 0) - 1) + ((S 58 ((S 1092 0) - 1)) - 2))))) → ((sm_SK (S 63) (S 64) (S 44) (S 1100007) (S 1100025) (S 1076 0) (S 1007 0) (400 * ((S 1092 0) - 1)) ((S 58 ((S 1092 0) - 1))) ((S 1100034 0)) → sm_LS (S 26) (S 1100007) (S 1100025) (S 1046 0) → 0 ≤ (S 58 ((S 1092 0) - 1)) - 3 → (S 58 ((S 1092 0) - 1)) - 3 < (S 58 ((S 1092 0) - 1)) → (S 1100034 0) < (S 1046 0) → (0 ≤ (S 1100034 0) → (S 26 (S 1100034 0)) = 29) → (0 ≤ (S 1100034 0) → (S 1100007 (S 1100034 0)) ≤ (S 58 ((S 1092 0) - 1)) - 3) → sm_VO (S 44) (S 1076 0) (S 1007 0) ((S 63 (400 * ((S 1092 0) - 1) + ((S 58 ((S 1092 0) - 1)) - 3)))) ((S 64 (400 * ((S 1092 0) - 1) + ((S 58 ((S 1092 0) - 1)) - 3))))) → (1 ≤ (S 1092 0) ∧ (S 1092 0) ≤ 24 ∧ 0 ≤ (S 58 ((S 1092 0) - 1)) ∧ (S 58 ((S 1092 0) - 1)) ≤ 400 ∧ 0 ≤ (2 : Int) ∧ (2 : Int) < (S 58 ((S 1092 0) - 1))) ∧ (∀ x5 : Int, ((S 63 ((400 * ((S 1092 0) - 1) + (S 58 ((S 1092 0) - 1))) - 1 - (2 : Int)))) = x5 → (∀ x7 : Int, ((S 64 ((400 * ((S 1092 0) - 1) + (S 58 ((S 1092 0) - 1))) - 1 - (2 : Int)))) = x7 → (1 ≤ (S 1092 0) ∧ (S 1092 0) ≤ 24 ∧ 0 ≤ (S 58 ((S 1092 0) - 1)) ∧ (S 58 ((S 1092 0) - 1)) ≤ 400 ∧ 0 ≤ (1 : Int) ∧ (1 : Int) < (S 58 ((S 1092 0) - 1))) ∧ (31 ≤ (S 1007 0) ∧ (S 1007 0) ≤ 400 ∧ sm_LN (S 4) 400 (S 1007 0) ∧ (((S 63 ((400 * ((S 1092 0) - 1) + (S 58 ((S 1092 0) - 1))) - 1 - (1 : Int)))) = 6 → 0 ≤ ((S 64 ((400 * ((S 1092 0) - 1) + (S 58 ((S 1092 0) - 1))) - 1 - (1 : Int)))) ∧ ((S 64 ((400 * ((S 1092 0) - 1) + (S 58 ((S 1092 0) - 1))) - 1 - (1 : Int)))) < (S 1007 0))) ∧ (∀ r15 : Int, sv_R r15 → ∀ g11 : sv_S, (0 ≤ r15 ∧ r15 < (g11 1007 0) ∧ (((S 63 ((400 * ((S 1092 0) - 1) + (S 58 ((S 1092 0) - 1))) - 1 - (1 : Int)))) = 5 → 0 ≤ ((S 64 ((400 * ((S 1092 0) - 1) + (S 58 ((S 1092 0) - 1))) - 1 - (1 : Int)))) → ((S 64 ((400 * ((S 1092 0) - 1) + (S 58 ((S 1092 0) - 1))) - 1 - (1 : Int)))) ≤ 100 → (g11 1075 0) = 0 → (g11 4 r15) ≤ 3) ∧ (S 1007 0) ≤ (g11 1007 0) ∧ (g11 1007 0) ≤ 400 ∧ sm_LN (g11 4) 400 (g11 1007 0) ∧ ((S 1075 0) = 1 → (g11 1075 0) = 1)) → ((0 ≤ (g11 1075 0) ∧ (g11 1075 0) ≤ 1) → ((((g11 1075 0) = (0 : Int)) → ((((1 : Int) < x5) → ((∀ s18 : Int, sv_R s18 → ((s18 = 0 ∨ s18 = 1) ∧ (s18 = 0 → ¬ (x5 = 7 ∧ (S 44 x7) = 2 ∧ r15 = 0))) → (((¬ x5 = (7 : Int)) → (1 ≤ (S 1092 0) ∧ (S 1092 0) ≤ 24 ∧ 0 ≤ (S 58 ((S 1092 0) - 1)) ∧ (S 58 ((S 1092 0) - 1)) ≤ 400 ∧ 0 ≤ (0 : Int) ∧ (0 : Int) < (S 58 ((S 1092 0) - 1))) ∧ (∀ g21 : sv_S, ((g21 1111 0) = ((S 63 ((400 * ((S 1092 0) - 1) + (S 58 ((S 1092 0) - 1))) - 1 - (0 : Int)))) ∧ (g21 1112 0) = ((S 64 ((400 * ((S 1092 0) - 1) + (S 58 ((S 1092 0) - 1))) - 1 - (0 : Int))))) → (((g11 1075 0) = 0 → (S 1073 0) = 1 → sm_PL (S 1100020) (S 51) (S 52) (S 46) (S 47) (S 1076 0) (S 1086 0) ∧ sm_FR (S 1100020) (S 52) (S 1100021) (S 1100022) (3000 - (S 1084 0)) (S 1085 0) ∧ sm_PV (S 1100020) (S 48) (S 49) (S 50) (S 44) (S 1076 0) (g11 1007 0) ∧ sm_AL (S 1100020) (S 48) (S 49) (S 50) (S 44) (S 1076 0) (S 1100032 0) ∧ sm_SV (S 1100020) (S 48) (S 1100029) (S 32) (S 33) (S 1076 0) (S 1032 0) ∧ 0 ≤ (S 1076 0) ∧ (S 1076 0) ≤ 300 ∧ 0 ≤ (S 1084 0) ∧ (S 1084 0) ≤ 3000 ∧ 0 ≤ (S 1086 0) ∧ sm_SC (S 1100029) (S 44) (S 45) (S 43) (S 21) (S 1076 0) (S 1032 0) ∧ sm_PO (S 42) (S 1076 0) ∧ (S 1100032 0) = -1 ∧ sm_FO (S 44) (S 45) (S 1076 0) ∧ 23 ≤ (S 1076 0) ∧ 31 ≤ (g11 1007 0) ∧ (g11 1007 0) ≤ 400 ∧ sm_LN (g11 4) 400 (g11 1007 0) ∧ sm_CT (S 26) (S 27) (S 28) (S 29) (S 1100007) (S 1100023) (S 1100024) (S 1100025) (S 21) (S 1046 0) (S 1032 0) (S 1008 0) (S 1055 0) ∧ sm_LS (S 26) (S 1100007) (S 1100025) (S 1046 0) ∧ sm_CL (S 1100007) (S 1100023) (S 1100025) (S 1046 0) ∧ 1 ≤ (S 1032 0) ∧ (S 1032 0) ≤ 11 ∧ 0 ≤ (S 1046 0) ∧ (S 1046 0) ≤ 600 ∧ 31 ≤ (S 1008 0) ∧ (S 1008 0) ≤ (g11 1007 0) ∧ 0 ≤ (S 1055 0) ∧ (S 1055 0) ≤ 19 ∧ 1 ≤ (S 1092 0) ∧ (S 1092 0) ≤ 24 ∧ 0 ≤ (S 1100033 0) ∧ (S 1100033 0) < (S 1046 0) ∧ (S 29 (S 1100033 0)) = (S 53 ((S 1092 0) - 1)) ∧ 0 ≤ (S 53 ((S 1092 0) - 1)) ∧ (S 53 ((S 1092 0) - 1)) < (S 1032 0) ∧ (S 60 ((S 1092 0) - 1)) = sm_dp (S 1100024) (S 1100023 (S 1100033 0)) ∧ sm_TC (S 61) (S 62) (S 27) (S 1100007) (S 1100023) (S 1100024) (40 * ((S 1092 0) - 1)) (S 1100023 (S 1100033 0)) ∧ sm_LK (S 1100029) (S 1076 0) (S 54 ((S 1092 0) - 1)) (S 53 ((S 1092 0) - 1)) ∧ sm_VO (S 44) (S 1076 0) (g11 1007 0) ((S 55 ((S 1092 0) - 1))) ((S 56 ((S 1092 0) - 1))) ∧ sm_FW (S 44) (S 1076 0) (S 59 ((S 1092 0) - 1)) ∧ sm_FL (S 53) (S 54) (S 55) (S 56) (S 57) (S 58) (S 59) (S 60) (S 61) (S 62) (S 63) (S 64) (S 27) (S 29) (S 1100007) (S 1100023) (S 1100024) (S 1100025) (S 26) (S 1100029) (S 44) (S 1046 0) (S 1032 0) (S 1076 0) (g11 1007 0) (((S 1092 0) - 1)) ∧ (S 57 ((S 1092 0) - 1)) = (S 1100033 0) ∧ 0 ≤ (S 58 ((S 1092 0) - 1)) ∧ (S 58 ((S 1092 0) - 1)) ≤ 400 ∧ sm_SK (S 63) (S 64) (S 44) (S 1100007) (S 1100025) (S 1076 0) (g11 1007 0) (400 * ((S 1092 0) - 1)) ((S 58 ((S 1092 0) - 1))) ((S 1100034 0)) ∧ -1 ≤ (S 1100034 0) ∧ (S 1100034 0) < (S 1046 0) ∧ (0 ≤ (S 1100034 0) → (S 26 (S 1100034 0)) = 29) ∧ 0 ≤ (3 : Int) ∧ (3 : Int) ≤ (S 58 ((S 1092 0) - 1)) ∧ (S 58 ((S 1092 0) - 1)) - (3 : Int) ≤ 399 ∧ sm_VO (S 44) (S 1076 0) (g11 1007 0) ((g21 1111 0)) ((g21 1112 0)) ∧ (0 ≤ (S 1100034 0) → (S 1100007 (S 1100034 0)) ≤ (S 58 ((S 1092 0) - 1)) - (3 : Int)) ∧ (S 1100033 0) + 1 < (S 1046 0) ∧ (S 29 ((S 1100033 0) + 1)) = (S 29 (S 1100033 0)) ∧ (S 1100007 ((S 1100033 0) + 1)) = (S 58 ((S 1092 0) - 1)) - (3 : Int) + 1 ∧ (S 1100023 ((S 1100033 0) + 1)) = (S 1100023 (S 1100033 0)) ∧ (S 1100025 ((S 1100033 0) + 1)) = (S 1100034 0)) ∧ (¬ (g11 1075 0) = 0 → sm_LX (S 58) (S 63) (S 64) (S 1092 0) (S 1076 0))) ∧ (∀ g27 : sv_S, (((g11 1075 0) = 0 → (S 1073 0) = 1 → 1 ≤ (S 1092 0) ∧ (S 1092 0) ≤ 24 ∧ 0 ≤ (g27 57 ((S 1092 0) - 1)) ∧ (g27 57 ((S 1092 0) - 1)) < (S 1046 0) ∧ (S 29 (g27 57 ((S 1092 0) - 1))) = (S 53 ((S 1092 0) - 1)) ∧ 0 ≤ (S 53 ((S 1092 0) - 1)) ∧ (S 53 ((S 1092 0) - 1)) < (S 1032 0) ∧ (S 60 ((S 1092 0) - 1)) = sm_dp (S 1100024) (S 1100023 (g27 57 ((S 1092 0) - 1))) ∧ sm_TC (S 61) (S 62) (S 27) (S 1100007) (S 1100023) (S 1100024) (40 * ((S 1092 0) - 1)) (S 1100023 (g27 57 ((S 1092 0) - 1))) ∧ sm_LK (S 1100029) (S 1076 0) (S 54 ((S 1092 0) - 1)) (S 53 ((S 1092 0) - 1)) ∧ sm_VO (S 44) (S 1076 0) (g11 1007 0) ((S 55 ((S 1092 0) - 1))) ((S 56 ((S 1092 0) - 1))) ∧ sm_FW (S 44) (S 1076 0) (S 59 ((S 1092 0) - 1)) ∧ sm_FL (S 53) (S 54) (S 55) (S 56) (g27 57) (g27 58) (S 59) (S 60) (S 61) (S 62) (g27 63) (g27 64) (S 27) (S 29) (S 1100007) (S 1100023) (S 1100024) (S 1100025) (S 26) (S 1100029) (S 44) (S 1046 0) (S 1032 0) (S 1076 0) (g11 1007 0) (((S 1092 0) - 1)) ∧ (g27 58 ((S 1092 0) - 1)) = (S 1100007 (g27 57 ((S 1092 0) - 1))) ∧ sm_SK (g27 63) (g27 64) (S 44) (S 1100007) (S 1100025) (S 1076 0) (g11 1007 0) (400 * ((S 1092 0) - 1)) ((g27 58 ((S 1092 0) - 1))) ((S 1100025 (g27 57 ((S 1092 0) - 1))))) ∧ (¬ (g11 1075 0) = 0 → sm_LX (g27 58) (g27 63) (g27 64) (S 1092 0) (S 1076 0))) → (sm_PL (S 1100020) (S 51) (S 52) (S 46) (S 47) (S 1076 0) (S 1086 0) ∧ sm_FR (S 1100020) (S 52) (S 1100021) (S 1100022) (3000 - (S 1084 0)) (S 1085 0) ∧ sm_PV (S 1100020) (S 48) (S 49) (S 50) (S 44) (S 1076 0) (g11 1007 0) ∧ sm_AL (S 1100020) (S 48) (S 49) (S 50) (S 44) (S 1076 0) (S 1100032 0) ∧ sm_SV (S 1100020) (S 48) (S 1100029) (S 32) (S 33) (S 1076 0) (S 1032 0) ∧ 0 ≤ (S 1076 0) ∧ (S 1076 0) ≤ 300 ∧ 0 ≤ (S 1084 0) ∧ (S 1084 0) ≤ 3000 ∧ 0 ≤ (S 1086 0) ∧ sm_SC (S 1100029) (S 44) (S 45) (S 43) (S 21) (S 1076 0) (S 1032 0) ∧ sm_PO (S 42) (S 1076 0) ∧ ((g11 1075 0) = 0 → (S 1100032 0) = -1 ∧ sm_FO (S 44) (S 45) (S 1076 0)) ∧ 23 ≤ (S 1076 0) ∧ 31 ≤ (g11 1007 0) ∧ (g11 1007 0) ≤ 400 ∧ sm_LN (g11 4) 400 (g11 1007 0) ∧ (S 1008 0) ≤ (g11 1007 0) ∧ ((S 1075 0) = 1 → (g11 1075 0) = 1) ∧ 0 ≤ (S 1092 0) ∧ (S 1092 0) ≤ 24 ∧ (S 1007 0) ≤ (g11 1007 0) ∧ (¬ (g11 1075 0) = 0 → sm_LX (g27 58) (g27 63) (g27 64) (S 1092 0) (S 1076 0)) ∧ ((g11 1075 0) = 0 → (S 1073 0) = 1 → 1 ≤ (S 1092 0) ∧ (S 1092 0) ≤ 24 ∧ 0 ≤ (g27 57 ((S 1092 0) - 1)) ∧ (g27 57 ((S 1092 0) - 1)) < (S 1046 0) ∧ (S 29 (g27 57 ((S 1092 0) - 1))) = (S 53 ((S 1092 0) - 1)) ∧ 0 ≤ (S 53 ((S 1092 0) - 1)) ∧ (S 53 ((S 1092 0) - 1)) < (S 1032 0) ∧ (S 60 ((S 1092 0) - 1)) = sm_dp (S 1100024) (S 1100023 (g27 57 ((S 1092 0) - 1))) ∧ sm_TC (S 61) (S 62) (S 27) (S 1100007) (S 1100023) (S 1100024) (40 * ((S 1092 0) - 1)) (S 1100023 (g27 57 ((S 1092 0) - 1))) ∧ sm_LK (S 1100029) (S 1076 0) (S 54 ((S 1092 0) - 1)) (S 53 ((S 1092 0) - 1)) ∧ sm_VO (S 44) (S 1076 0) (g11 1007 0) ((S 55 ((S 1092 0) - 1))) ((S 56 ((S 1092 0) - 1))) ∧ sm_FW (S 44) (S 1076 0) (S 59 ((S 1092 0) - 1)) ∧ sm_FL (S 53) (S 54) (S 55) (S 56) (g27 57) (g27 58) (S 59) (S 60) (S 61) (S 62) (g27 63) (g27 64) (S 27) (S 29) (S 1100007) (S 1100023) (S 1100024) (S 1100025) (S 26) (S 1100029) (S 44) (S 1046 0) (S 1032 0) (S 1076 0) (g11 1007 0) (((S 1092 0) - 1)) ∧ (g27 58 ((S 1092 0) - 1)) = (S 1100007 (g27 57 ((S 1092 0) - 1))) ∧ sm_SK (g27 63) (g27 64) (S 44) (S 1100007) (S 1100025) (S 1076 0) (g11 1007 0) (400 * ((S 1092 0) - 1)) ((g27 58 ((S 1092 0) - 1))) ((S 1100025 (g27 57 ((S 1092 0) - 1))))) ∧ ((S 1073 0) = 1 ∨ (S 1092 0) = 0 ∧ (g11 1075 0) = 0 ∧ ((S 1073 0) = 2 ∨ (S 1073 0) = 3)) ∧ (S 1086 0) ≤ (S 1086 0) ∧ (S 1086 0) ≤ (S 1086 0) + 110)))) ∧ ((¬ (¬ x5 = (7 : Int))) → (((¬ s18 = (0 : Int)) → (1 ≤ (S 1092 0) ∧ (S 1092 0) ≤ 24 ∧ 0 ≤ (S 58 ((S 1092 0) - 1)) ∧ (S 58 ((S 1092 0) - 1)) ≤ 400 ∧ 0 ≤ (0 : Int) ∧ (0 : Int) < (S 58 ((S 1092 0) - 1))) ∧ (∀ g33 : sv_S, ((g33 1111 0) = ((S 63 ((400 * ((S 1092 0) - 1) + (S 58 ((S 1092 0) - 1))) - 1 - (0 : Int)))) ∧ (g33 1112 0) = ((S 64 ((400 * ((S 1092 0) - 1) + (S 58 ((S 1092 0) - 1))) - 1 - (0 : Int))))) → (((g11 1075 0) = 0 → (S 1073 0) = 1 → sm_PL (S 1100020) (S 51) (S 52) (S 46) (S 47) (S 1076 0) (S 1086 0) ∧ sm_FR (S 1100020) (S 52) (S 1100021) (S 1100022) (3000 - (S 1084 0)) (S 1085 0) ∧ sm_PV (S 1100020) (S 48) (S 49) (S 50) (S 44) (S 1076 0) (g11 1007 0) ∧ sm_AL (S 1100020) (S 48) (S 49) (S 50) (S 44) (S 1076 0) (S 1100032 0) ∧ sm_SV (S 1100020) (S 48) (S 1100029) (S 32) (S 33) (S 1076 0) (S 1032 0) ∧ 0 ≤ (S 1076 0) ∧ (S 1076 0) ≤ 300 ∧ 0 ≤ (S 1084 0) ∧ (S 1084 0) ≤ 3000 ∧ 0 ≤ (S 1086 0) ∧ sm_SC (S 1100029) (S 44) (S 45) (S 43) (S 21) (S 1076 0) (S 1032 0) ∧ sm_PO (S 42) (S 1076 0) ∧ (S 1100032 0) = -1 ∧ sm_FO (S 44) (S 45) (S 1076 0) ∧ 23 ≤ (S 1076 0) ∧ 31 ≤ (g11 1007 0) ∧ (g11 1007 0) ≤ 400 ∧ sm_LN (g11 4) 400 (g11 1007 0) ∧ sm_CT (S 26) (S 27) (S 28) (S 29) (S 1100007) (S 1100023) (S 1100024) (S 1100025) (S 21) (S 1046 0) (S 1032 0) (S 1008 0) (S 1055 0) ∧ sm_LS (S 26) (S 1100007) (S 1100025) (S 1046 0) ∧ sm_CL (S 1100007) (S 1100023) (S 1100025) (S 1046 0) ∧ 1 ≤ (S 1032 0) ∧ (S 1032 0) ≤ 11 ∧ 0 ≤ (S 1046 0) ∧ (S 1046 0) ≤ 600 ∧ 31 ≤ (S 1008 0) ∧ (S 1008 0) ≤ (g11 1007 0) ∧ 0 ≤ (S 1055 0) ∧ (S 1055 0) ≤ 19 ∧ 1 ≤ (S 1092 0) ∧ (S 1092 0) ≤ 24 ∧ 0 ≤ (S 1100033 0) ∧ (S 1100033 0) < (S 1046 0) ∧ (S 29 (S 1100033 0)) = (S 53 ((S 1092 0) - 1)) ∧ 0 ≤ (S 53 ((S 1092 0) - 1)) ∧ (S 53 ((S 1092 0) - 1)) < (S 1032 0) ∧ (S 60 ((S 1092 0) - 1)) = sm_dp (S 1100024) (S 1100023 (S 1100033 0)) ∧ sm_TC (S 61) (S 62) (S 27) (S 1100007) (S 1100023) (S 1100024) (40 * ((S 1092 0) - 1)) (S 1100023 (S 1100033 0)) ∧ sm_LK (S 1100029) (S 1076 0) (S 54 ((S 1092 0) - 1)) (S 53 ((S 1092 0) - 1)) ∧ sm_VO (S 44) (S 1076 0) (g11 1007 0) ((S 55 ((S 1092 0) - 1))) ((S 56 ((S 1092 0) - 1))) ∧ sm_FW (S 44) (S 1076 0) (S 59 ((S 1092 0) - 1)) ∧ sm_FL (S 53) (S 54) (S 55) (S 56) (S 57) (S 58) (S 59) (S 60) (S 61) (S 62) (S 63) (S 64) (S 27) (S 29) (S 1100007) (S 1100023) (S 1100024) (S 1100025) (S 26) (S 1100029) (S 44) (S 1046 0) (S 1032 0) (S 1076 0) (g11 1007 0) (((S 1092 0) - 1)) ∧ (S 57 ((S 1092 0) - 1)) = (S 1100033 0) ∧ 0 ≤ (S 58 ((S 1092 0) - 1)) ∧ (S 58 ((S 1092 0) - 1)) ≤ 400 ∧ sm_SK (S 63) (S 64) (S 44) (S 1100007) (S 1100025) (S 1076 0) (g11 1007 0) (400 * ((S 1092 0) - 1)) ((S 58 ((S 1092 0) - 1))) ((S 1100034 0)) ∧ -1 ≤ (S 1100034 0) ∧ (S 1100034 0) < (S 1046 0) ∧ (0 ≤ (S 1100034 0) → (S 26 (S 1100034 0)) = 29) ∧ 0 ≤ (3 : Int) ∧ (3 : Int) ≤ (S 58 ((S 1092 0) - 1)) ∧ (S 58 ((S 1092 0) - 1)) - (3 : Int) ≤ 399 ∧ sm_VO (S 44) (S 1076 0) (g11 1007 0) ((g33 1111 0)) ((g33 1112 0)) ∧ (0 ≤ (S 1100034 0) → (S 1100007 (S 1100034 0)) ≤ (S 58 ((S 1092 0) - 1)) - (3 : Int)) ∧ (S 1100033 0) + 1 < (S 1046 0) ∧ (S 29 ((S 1100033 0) + 1)) = (S 29 (S 1100033 0)) ∧ (S 1100007 ((S 1100033 0) + 1)) = (S 58 ((S 1092 0) - 1)) - (3 : Int) + 1 ∧ (S 1100023 ((S 1100033 0) + 1)) = (S 1100023 (S 1100033 0)) ∧ (S 1100025 ((S 1100033 0) + 1)) = (S 1100034 0)) ∧ (¬ (g11 1075 0) = 0 → sm_LX (S 58) (S 63) (S 64) (S 1092 0) (S 1076 0))) ∧ (∀ g39 : sv_S, (((g11 1075 0) = 0 → (S 1073 0) = 1 → 1 ≤ (S 1092 0) ∧ (S 1092 0) ≤ 24 ∧ 0 ≤ (g39 57 ((S 1092 0) - 1)) ∧ (g39 57 ((S 1092 0) - 1)) < (S 1046 0) ∧ (S 29 (g39 57 ((S 1092 0) - 1))) = (S 53 ((S 1092 0) - 1)) ∧ 0 ≤ (S 53 ((S 1092 0) - 1)) ∧ (S 53 ((S 1092 0) - 1)) < (S 1032 0) ∧ (S 60 ((S 1092 0) - 1)) = sm_dp (S 1100024) (S 1100023 (g39 57 ((S 1092 0) - 1))) ∧ sm_TC (S 61) (S 62) (S 27) (S 1100007) (S 1100023) (S 1100024) (40 * ((S 1092 0) - 1)) (S 1100023 (g39 57 ((S 1092 0) - 1))) ∧ sm_LK (S 1100029) (S 1076 0) (S 54 ((S 1092 0) - 1)) (S 53 ((S 1092 0) - 1)) ∧ sm_VO (S 44) (S 1076 0) (g11 1007 0) ((S 55 ((S 1092 0) - 1))) ((S 56 ((S 1092 0) - 1))) ∧ sm_FW (S 44) (S 1076 0) (S 59 ((S 1092 0) - 1)) ∧ sm_FL (S 53) (S 54) (S 55) (S 56) (g39 57) (g39 58) (S 59) (S 60) (S 61) (S 62) (g39 63) (g39 64) (S 27) (S 29) (S 1100007) (S 1100023) (S 1100024) (S 1100025) (S 26) (S 1100029) (S 44) (S 1046 0) (S 1032 0) (S 1076 0) (g11 1007 0) (((S 1092 0) - 1)) ∧ (g39 58 ((S 1092 0) - 1)) = (S 1100007 (g39 57 ((S 1092 0) - 1))) ∧ sm_SK (g39 63) (g39 64) (S 44) (S 1100007) (S 1100025) (S 1076 0) (g11 1007 0) (400 * ((S 1092 0) - 1)) ((g39 58 ((S 1092 0) - 1))) ((S 1100025 (g39 57 ((S 1092 0) - 1))))) ∧ (¬ (g11 1075 0) = 0 → sm_LX (g39 58) (g39 63) (g39 64) (S 1092 0) (S 1076 0))) → (sm_PL (S 1100020) (S 51) (S 52) (S 46) (S 47) (S 1076 0) (S 1086 0) ∧ sm_FR (S 1100020) (S 52) (S 1100021) (S 1100022) (3000 - (S 1084 0)) (S 1085 0) ∧ sm_PV (S 1100020) (S 48) (S 49) (S 50) (S 44) (S 1076 0) (g11 1007 0) ∧ sm_AL (S 1100020) (S 48) (S 49) (S 50) (S 44) (S 1076 0) (S 1100032 0) ∧ sm_SV (S 1100020) (S 48) (S 1100029) (S 32) (S 33) (S 1076 0) (S 1032 0) ∧ 0 ≤ (S 1076 0) ∧ (S 1076 0) ≤ 300 ∧ 0 ≤ (S 1084 0) ∧ (S 1084 0) ≤ 3000 ∧ 0 ≤ (S 1086 0) ∧ sm_SC (S 1100029) (S 44) (S 45) (S 43) (S 21) (S 1076 0) (S 1032 0) ∧ sm_PO (S 42) (S 1076 0) ∧ ((g11 1075 0) = 0 → (S 1100032 0) = -1 ∧ sm_FO (S 44) (S 45) (S 1076 0)) ∧ 23 ≤ (S 1076 0) ∧ 31 ≤ (g11 1007 0) ∧ (g11 1007 0) ≤ 400 ∧ sm_LN (g11 4) 400 (g11 1007 0) ∧ (S 1008 0) ≤ (g11 1007 0) ∧ ((S 1075 0) = 1 → (g11 1075 0) = 1) ∧ 0 ≤ (S 1092 0) ∧ (S 1092 0) ≤ 24 ∧ (S 1007 0) ≤ (g11 1007 0) ∧ (¬ (g11 1075 0) = 0 → sm_LX (g39 58) (g39 63) (g39 64) (S 1092 0) (S 1076 0)) ∧ ((g11 1075 0) = 0 → (S 1073 0) = 1 → 1 ≤ (S 1092 0) ∧ (S 1092 0) ≤ 24 ∧ 0 ≤ (g39 57 ((S 1092 0) - 1)) ∧ (g39 57 ((S 1092 0) - 1)) < (S 1046 0) ∧ (S 29 (g39 57 ((S 1092 0) - 1))) = (S 53 ((S 1092 0) - 1)) ∧ 0 ≤ (S 53 ((S 1092 0) - 1)) ∧ (S 53 ((S 1092 0) - 1)) < (S 1032 0) ∧ (S 60 ((S 1092 0) - 1)) = sm_dp (S 1100024) (S 1100023 (g39 57 ((S 1092 0) - 1))) ∧ sm_TC (S 61) (S 62) (S 27) (S 1100007) (S 1100023) (S 1100024) (40 * ((S 1092 0) - 1)) (S 1100023 (g39 57 ((S 1092 0) - 1))) ∧ sm_LK (S 1100029) (S 1076 0) (S 54 ((S 1092 0) - 1)) (S 53 ((S 1092 0) - 1)) ∧ sm_VO (S 44) (S 1076 0) (g11 1007 0) ((S 55 ((S 1092 0) - 1))) ((S 56 ((S 1092 0) - 1))) ∧ sm_FW (S 44) (S 1076 0) (S 59 ((S 1092 0) - 1)) ∧ sm_FL (S 53) (S 54) (S 55) (S 56) (g39 57) (g39 58) (S 59) (S 60) (S 61) (S 62) (g39 63) (g39 64) (S 27) (S 29) (S 1100007) (S 1100023) (S 1100024) (S 1100025) (S 26) (S 1100029) (S 44) (S 1046 0) (S 1032 0) (S 1076 0) (g11 1007 0) (((S 1092 0) - 1)) ∧ (g39 58 ((S 1092 0) - 1)) = (S 1100007 (g39 57 ((S 1092 0) - 1))) ∧ sm_SK (g39 63) (g39 64) (S 44) (S 1100007) (S 1100025) (S 1076 0) (g11 1007 0) (400 * ((S 1092 0) - 1)) ((g39 58 ((S 1092 0) - 1))) ((S 1100025 (g39 57 ((S 1092 0) - 1))))) ∧ ((S 1073 0) = 1 ∨ (S 1092 0) = 0 ∧ (g11 1075 0) = 0 ∧ ((S 1073 0) = 2 ∨ (S 1073 0) = 3)) ∧ (S 1086 0) ≤ (S 1086 0) ∧ (S 1086 0) ≤ (S 1086 0) + 110)))) ∧ ((¬ (¬ s18 = (0 : Int))) → (1 ≤ (S 1092 0) ∧ (S 1092 0) ≤ 24 ∧ 0 ≤ (S 58 ((S 1092 0) - 1)) ∧ (S 58 ((S 1092 0) - 1)) ≤ 400 ∧ 0 ≤ (0 : Int) ∧ (0 : Int) < (S 58 ((S 1092 0) - 1))) ∧ (sm_PL (S 1100020) (S 51) (S 52) (S 46) (S 47) (S 1076 0) (S 1086 0) ∧ sm_FR (S 1100020) (S 52) (S 1100021) (S 1100022) (3000 - (S 1084 0)) (S 1085 0) ∧ sm_PV (S 1100020) (S 48) (S 49) (S 50) (S 44) (S 1076 0) (g11 1007 0) ∧ sm_AL (S 1100020) (S 48) (S 49) (S 50) (S 44) (S 1076 0) (S 1100032 0) ∧ sm_SV (S 1100020) (S 48) (S 1100029) (S 32) (S 33) (S 1076 0) (S 1032 0) ∧ 0 ≤ (S 1076 0) ∧ (S 1076 0) ≤ 300 ∧ 0 ≤ (S 1084 0) ∧ (S 1084 0) ≤ 3000 ∧ 0 ≤ (S 1086 0) ∧ 0 ≤ x7 ∧ x7 < (S 1076 0) ∧ 0 ≤ r15 ∧ r15 < (g11 1007 0) ∧ sm_VO (S 44) (S 1076 0) (g11 1007 0) (((S 63 ((400 * ((S 1092 0) - 1) + (S 58 ((S 1092 0) - 1))) - 1 - (0 : Int))))) (((S 64 ((400 * ((S 1092 0) - 1) + (S 58 ((S 1092 0) - 1))) - 1 - (0 : Int))))) ∧ ((S 44 x7) = 2 → r15 = 0 → ((S 63 ((400 * ((S 1092 0) - 1) + (S 58 ((S 1092 0) - 1))) - 1 - (0 : Int)))) = 5 ∧ 0 ≤ ((S 64 ((400 * ((S 1092 0) - 1) + (S 58 ((S 1092 0) - 1))) - 1 - (0 : Int)))) ∧ ((S 64 ((400 * ((S 1092 0) - 1) + (S 58 ((S 1092 0) - 1))) - 1 - (0 : Int)))) ≤ 100) ∧ (S 1086 0) < 2000000000) ∧ (∀ g46 : sv_S, (sm_PL (g46 1100020) (g46 51) (g46 52) (g46 46) (g46 47) (S 1076 0) (g46 1086 0) ∧ sm_FR (g46 1100020) (g46 52) (g46 1100021) (g46 1100022) (3000 - (g46 1084 0)) (g46 1085 0) ∧ sm_PV (g46 1100020) (g46 48) (g46 49) (g46 50) (S 44) (S 1076 0) (g11 1007 0) ∧ sm_AL (g46 1100020) (g46 48) (g46 49) (g46 50) (S 44) (S 1076 0) (S 1100032 0) ∧ sm_SV (g46 1100020) (g46 48) (S 1100029) (S 32) (S 33) (S 1076 0) (S 1032 0) ∧ 0 ≤ (S 1076 0) ∧ (S 1076 0) ≤ 300 ∧ 0 ≤ (g46 1084 0) ∧ (g46 1084 0) ≤ 3000 ∧ 0 ≤ (g46 1086 0) ∧ sm_KP (S 1100020) (S 48) (g46 1100020) (g46 48) ∧ ((g11 1075 0) = 1 → (g46 1075 0) = 1) ∧ ((g46 1075 0) = 0 → sm_HN (g46 1100020) (g46 48) x7 r15) ∧ (S 1086 0) ≤ (g46 1086 0) ∧ (g46 1086 0) ≤ (S 1086 0) + 1 ∧ ((S 1084 0) < 3000 → (g46 1075 0) = (g11 1075 0)) ∧ (g46 1084 0) ≤ (S 1084 0) + 1) → ((∀ s51 : Int, sv_R s51 → (-1 ≤ s51 ∧ s51 ≤ 99 ∧ (¬ s51 = -1 → (S 44 x7) = 2)) → ((0 ≤ (g46 1075 0) ∧ (g46 1075 0) ≤ 1) → (((¬ (g46 1075 0) = (0 : Int)) → (∀ g54 : sv_S, ((g54 1111 0) = ((S 63 ((400 * ((S 1092 0) - 1) + (S 58 ((S 1092 0) - 1))) - 1 - (0 : Int)))) ∧ (g54 1112 0) = ((S 64 ((400 * ((S 1092 0) - 1) + (S 58 ((S 1092 0) - 1))) - 1 - (0 : Int))))) → (((g46 1075 0) = 0 → (S 1073 0) = 1 → sm_PL (g46 1100020) (g46 51) (g46 52) (g46 46) (g46 47) (S 1076 0) (g46 1086 0) ∧ sm_FR (g46 1100020) (g46 52) (g46 1100021) (g46 1100022) (3000 - (g46 1084 0)) (g46 1085 0) ∧ sm_PV (g46 1100020) (g46 48) (g46 49) (g46 50) (S 44) (S 1076 0) (g11 1007 0) ∧ sm_AL (g46 1100020) (g46 48) (g46 49) (g46 50) (S 44) (S 1076 0) (S 1100032 0) ∧ sm_SV (g46 1100020) (g46 48) (S 1100029) (S 32) (S 33) (S 1076 0) (S 1032 0) ∧ 0 ≤ (S 1076 0) ∧ (S 1076 0) ≤ 300 ∧ 0 ≤ (g46 1084 0) ∧ (g46 1084 0) ≤ 3000 ∧ 0 ≤ (g46 1086 0) ∧ sm_SC (S 1100029) (S 44) (S 45) (S 43) (S 21) (S 1076 0) (S 1032 0) ∧ sm_PO (S 42) (S 1076 0) ∧ (S 1100032 0) = -1 ∧ sm_FO (S 44) (S 45) (S 1076 0) ∧ 23 ≤ (S 1076 0) ∧ 31 ≤ (g11 1007 0) ∧ (g11 1007 0) ≤ 400 ∧ sm_LN (g11 4) 400 (g11 1007 0) ∧ sm_CT (S 26) (S 27) (S 28) (S 29) (S 1100007) (S 1100023) (S 1100024) (S 1100025) (S 21) (S 1046 0) (S 1032 0) (S 1008 0) (S 1055 0) ∧ sm_LS (S 26) (S 1100007) (S 1100025) (S 1046 0) ∧ sm_CL (S 1100007) (S 1100023) (S 1100025) (S 1046 0) ∧ 1 ≤ (S 1032 0) ∧ (S 1032 0) ≤ 11 ∧ 0 ≤ (S 1046 0) ∧ (S 1046 0) ≤ 600 ∧ 31 ≤ (S 1008 0) ∧ (S 1008 0) ≤ (g11 1007 0) ∧ 0 ≤ (S 1055 0) ∧ (S 1055 0) ≤ 19 ∧ 1 ≤ (S 1092 0) ∧ (S 1092 0) ≤ 24 ∧ 0 ≤ (S 1100033 0) ∧ (S 1100033 0) < (S 1046 0) ∧ (S 29 (S 1100033 0)) = (S 53 ((S 1092 0) - 1)) ∧ 0 ≤ (S 53 ((S 1092 0) - 1)) ∧ (S 53 ((S 1092 0) - 1)) < (S 1032 0) ∧ (S 60 ((S 1092 0) - 1)) = sm_dp (S 1100024) (S 1100023 (S 1100033 0)) ∧ sm_TC (S 61) (S 62) (S 27) (S 1100007) (S 1100023) (S 1100024) (40 * ((S 1092 0) - 1)) (S 1100023 (S 1100033 0)) ∧ sm_LK (S 1100029) (S 1076 0) (S 54 ((S 1092 0) - 1)) (S 53 ((S 1092 0) - 1)) ∧ sm_VO (S 44) (S 1076 0) (g11 1007 0) ((S 55 ((S 1092 0) - 1))) ((S 56 ((S 1092 0) - 1))) ∧ sm_FW (S 44) (S 1076 0) (S 59 ((S 1092 0) - 1)) ∧ sm_FL (S 53) (S 54) (S 55) (S 56) (S 57) (S 58) (S 59) (S 60) (S 61) (S 62) (S 63) (S 64) (S 27) (S 29) (S 1100007) (S 1100023) (S 1100024) (S 1100025) (S 26) (S 1100029) (S 44) (S 1046 0) (S 1032 0) (S 1076 0) (g11 1007 0) (((S 1092 0) - 1)) ∧ (S 57 ((S 1092 0) - 1)) = (S 1100033 0) ∧ 0 ≤ (S 58 ((S 1092 0) - 1)) ∧ (S 58 ((S 1092 0) - 1)) ≤ 400 ∧ sm_SK (S 63) (S 64) (S 44) (S 1100007) (S 1100025) (S 1076 0) (g11 1007 0) (400 * ((S 1092 0) - 1)) ((S 58 ((S 1092 0) - 1))) ((S 1100034 0)) ∧ -1 ≤ (S 1100034 0) ∧ (S 1100034 0) < (S 1046 0) ∧ (0 ≤ (S 1100034 0) → (S 26 (S 1100034 0)) = 29) ∧ 0 ≤ (3 : Int) ∧ (3 : Int) ≤ (S 58 ((S 1092 0) - 1)) ∧ (S 58 ((S 1092 0) - 1)) - (3 : Int) ≤ 399 ∧ sm_VO (S 44) (S 1076 0) (g11 1007 0) ((g54 1111 0)) ((g54 1112 0)) ∧ (0 ≤ (S 1100034 0) → (S 1100007 (S 1100034 0)) ≤ (S 58 ((S 1092 0) - 1)) - (3 : Int)) ∧ (S 1100033 0) + 1 < (S 1046 0) ∧ (S 29 ((S 1100033 0) + 1)) = (S 29 (S 1100033 0)) ∧ (S 1100007 ((S 1100033 0) + 1)) = (S 58 ((S 1092 0) - 1)) - (3 : Int) + 1 ∧ (S 1100023 ((S 1100033 0) + 1)) = (S 1100023 (S 1100033 0)) ∧ (S 1100025 ((S 1100033 0) + 1)) = (S 1100034 0)) ∧ (¬ (g46 1075 0) = 0 → sm_LX (S 58) (S 63) (S 64) (S 1092 0) (S 1076 0))) ∧ (∀ g60 : sv_S, (((g46 1075 0) = 0 → (S 1073 0) = 1 → 1 ≤ (S 1092 0) ∧ (S 1092 0) ≤ 24 ∧ 0 ≤ (g60 57 ((S 1092 0) - 1)) ∧ (g60 57 ((S 1092 0) - 1)) < (S 1046 0) ∧ (S 29 (g60 57 ((S 1092 0) - 1))) = (S 53 ((S 1092 0) - 1)) ∧ 0 ≤ (S 53 ((S 1092 0) - 1)) ∧ (S 53 ((S 1092 0) - 1)) < (S 1032 0) ∧ (S 60 ((S 1092 0) - 1)) = sm_dp (S 1100024) (S 1100023 (g60 57 ((S 1092 0) - 1))) ∧ sm_TC (S 61) (S 62) (S 27) (S 1100007) (S 1100023) (S 1100024) (40 * ((S 1092 0) - 1)) (S 1100023 (g60 57 ((S 1092 0) - 1))) ∧ sm_LK (S 1100029) (S 1076 0) (S 54 ((S 1092 0) - 1)) (S 53 ((S 1092 0) - 1)) ∧ sm_VO (S 44) (S 1076 0) (g11 1007 0) ((S 55 ((S 1092 0) - 1))) ((S 56 ((S 1092 0) - 1))) ∧ sm_FW (S 44) (S 1076 0) (S 59 ((S 1092 0) - 1)) ∧ sm_FL (S 53) (S 54) (S 55) (S 56) (g60 57) (g60 58) (S 59) (S 60) (S 61) (S 62) (g60 63) (g60 64) (S 27) (S 29) (S 1100007) (S 1100023) (S 1100024) (S 1100025) (S 26) (S 1100029) (S 44) (S 1046 0) (S 1032 0) (S 1076 0) (g11 1007 0) (((S 1092 0) - 1)) ∧ (g60 58 ((S 1092 0) - 1)) = (S 1100007 (g60 57 ((S 1092 0) - 1))) ∧ sm_SK (g60 63) (g60 64) (S 44) (S 1100007) (S 1100025) (S 1076 0) (g11 1007 0) (400 * ((S 1092 0) - 1)) ((g60 58 ((S 1092 0) - 1))) ((S 1100025 (g60 57 ((S 1092 0) - 1))))) ∧ (¬ (g46 1075 0) = 0 → sm_LX (g60 58) (g60 63) (g60 64) (S 1092 0) (S 1076 0))) → (sm_PL (g46 1100020) (g46 51) (g46 52) (g46 46) (g46 47) (S 1076 0) (g46 1086 0) ∧ sm_FR (g46 1100020) (g46 52) (g46 1100021) (g46 1100022) (3000 - (g46 1084 0)) (g46 1085 0) ∧ sm_PV (g46 1100020) (g46 48) (g46 49) (g46 50) (S 44) (S 1076 0) (g11 1007 0) ∧ sm_AL (g46 1100020) (g46 48) (g46 49) (g46 50) (S 44) (S 1076 0) (S 1100032 0) ∧ sm_SV (g46 1100020) (g46 48) (S 1100029) (S 32) (S 33) (S 1076 0) (S 1032 0) ∧ 0 ≤ (S 1076 0) ∧ (S 1076 0) ≤ 300 ∧ 0 ≤ (g46 1084 0) ∧ (g46 1084 0) ≤ 3000 ∧ 0 ≤ (g46 1086 0) ∧ sm_SC (S 1100029) (S 44) (S 45) (S 43) (S 21) (S 1076 0) (S 1032 0) ∧ sm_PO (S 42) (S 1076 0) ∧ ((g46 1075 0) = 0 → (S 1100032 0) = -1 ∧ sm_FO (S 44) (S 45) (S 1076 0)) ∧ 23 ≤ (S 1076 0) ∧ 31 ≤ (g11 1007 0) ∧ (g11 1007 0) ≤ 400 ∧ sm_LN (g11 4) 400 (g11 1007 0) ∧ (S 1008 0) ≤ (g11 1007 0) ∧ ((S 1075 0) = 1 → (g46 1075 0) = 1) ∧ 0 ≤ (S 1092 0) ∧ (S 1092 0) ≤ 24 ∧ (S 1007 0) ≤ (g11 1007 0) ∧ (¬ (g46 1075 0) = 0 → sm_LX (g60 58) (g60 63) (g60 64) (S 1092 0) (S 1076 0)) ∧ ((g46 1075 0) = 0 → (S 1073 0) = 1 → 1 ≤ (S 1092 0) ∧ (S 1092 0) ≤ 24 ∧ 0 ≤ (g60 57 ((S 1092 0) - 1)) ∧ (g60 57 ((S 1092 0) - 1)) < (S 1046 0) ∧ (S 29 (g60 57 ((S 1092 0) - 1))) = (S 53 ((S 1092 0) - 1)) ∧ 0 ≤ (S 53 ((S 1092 0) - 1)) ∧ (S 53 ((S 1092 0) - 1)) < (S 1032 0) ∧ (S 60 ((S 1092 0) - 1)) = sm_dp (S 1100024) (S 1100023 (g60 57 ((S 1092 0) - 1))) ∧ sm_TC (S 61) (S 62) (S 27) (S 1100007) (S 1100023) (S 1100024) (40 * ((S 1092 0) - 1)) (S 1100023 (g60 57 ((S 1092 0) - 1))) ∧ sm_LK (S 1100029) (S 1076 0) (S 54 ((S 1092 0) - 1)) (S 53 ((S 1092 0) - 1)) ∧ sm_VO (S 44) (S 1076 0) (g11 1007 0) ((S 55 ((S 1092 0) - 1))) ((S 56 ((S 1092 0) - 1))) ∧ sm_FW (S 44) (S 1076 0) (S 59 ((S 1092 0) - 1)) ∧ sm_FL (S 53) (S 54) (S 55) (S 56) (g60 57) (g60 58) (S 59) (S 60) (S 61) (S 62) (g60 63) (g60 64) (S 27) (S 29) (S 1100007) (S 1100023) (S 1100024) (S 1100025) (S 26) (S 1100029) (S 44) (S 1046 0) (S 1032 0) (S 1076 0) (g11 1007 0) (((S 1092 0) - 1)) ∧ (g60 58 ((S 1092 0) - 1)) = (S 1100007 (g60 57 ((S 1092 0) - 1))) ∧ sm_SK (g60 63) (g60 64) (S 44) (S 1100007) (S 1100025) (S 1076 0) (g11 1007 0) (400 * ((S 1092 0) - 1)) ((g60 58 ((S 1092 0) - 1))) ((S 1100025 (g60 57 ((S 1092 0) - 1))))) ∧ ((S 1073 0) = 1 ∨ (S 1092 0) = 0 ∧ (g46 1075 0) = 0 ∧ ((S 1073 0) = 2 ∨ (S 1073 0) = 3)) ∧ (S 1086 0) ≤ (g46 1086 0) ∧ (g46 1086 0) ≤ (S 1086 0) + 110)))) ∧ ((¬ (¬ (g46 1075 0) = (0 : Int))) → (((s51 < (0 : Int)) → (∀ g65 : sv_S, ((g65 1111 0) = ((S 63 ((400 * ((S 1092 0) - 1) + (S 58 ((S 1092 0) - 1))) - 1 - (0 : Int)))) ∧ (g65 1112 0) = ((S 64 ((400 * ((S 1092 0) - 1) + (S 58 ((S 1092 0) - 1))) - 1 - (0 : Int))))) → (((g46 1075 0) = 0 → (S 1073 0) = 1 → sm_PL (g46 1100020) (g46 51) (g46 52) (g46 46) (g46 47) (S 1076 0) (g46 1086 0) ∧ sm_FR (g46 1100020) (g46 52) (g46 1100021) (g46 1100022) (3000 - (g46 1084 0)) (g46 1085 0) ∧ sm_PV (g46 1100020) (g46 48) (g46 49) (g46 50) (S 44) (S 1076 0) (g11 1007 0) ∧ sm_AL (g46 1100020) (g46 48) (g46 49) (g46 50) (S 44) (S 1076 0) (S 1100032 0) ∧ sm_SV (g46 1100020) (g46 48) (S 1100029) (S 32) (S 33) (S 1076 0) (S 1032 0) ∧ 0 ≤ (S 1076 0) ∧ (S 1076 0) ≤ 300 ∧ 0 ≤ (g46 1084 0) ∧ (g46 1084 0) ≤ 3000 ∧ 0 ≤ (g46 1086 0) ∧ sm_SC (S 1100029) (S 44) (S 45) (S 43) (S 21) (S 1076 0) (S 1032 0) ∧ sm_PO (S 42) (S 1076 0) ∧ (S 1100032 0) = -1 ∧ sm_FO (S 44) (S 45) (S 1076 0) ∧ 23 ≤ (S 1076 0) ∧ 31 ≤ (g11 1007 0) ∧ (g11 1007 0) ≤ 400 ∧ sm_LN (g11 4) 400 (g11 1007 0) ∧ sm_CT (S 26) (S 27) (S 28) (S 29) (S 1100007) (S 1100023) (S 1100024) (S 1100025) (S 21) (S 1046 0) (S 1032 0) (S 1008 0) (S 1055 0) ∧ sm_LS (S 26) (S 1100007) (S 1100025) (S 1046 0) ∧ sm_CL (S 1100007) (S 1100023) (S 1100025) (S 1046 0) ∧ 1 ≤ (S 1032 0) ∧ (S 1032 0) ≤ 11 ∧ 0 ≤ (S 1046 0) ∧ (S 1046 0) ≤ 600 ∧ 31 ≤ (S 1008 0) ∧ (S 1008 0) ≤ (g11 1007 0) ∧ 0 ≤ (S 1055 0) ∧ (S 1055 0) ≤ 19 ∧ 1 ≤ (S 1092 0) ∧ (S 1092 0) ≤ 24 ∧ 0 ≤ (S 1100033 0) ∧ (S 1100033 0) < (S 1046 0) ∧ (S 29 (S 1100033 0)) = (S 53 ((S 1092 0) - 1)) ∧ 0 ≤ (S 53 ((S 1092 0) - 1)) ∧ (S 53 ((S 1092 0) - 1)) < (S 1032 0) ∧ (S 60 ((S 1092 0) - 1)) = sm_dp (S 1100024) (S 1100023 (S 1100033 0)) ∧ sm_TC (S 61) (S 62) (S 27) (S 1100007) (S 1100023) (S 1100024) (40 * ((S 1092 0) - 1)) (S 1100023 (S 1100033 0)) ∧ sm_LK (S 1100029) (S 1076 0) (S 54 ((S 1092 0) - 1)) (S 53 ((S 1092 0) - 1)) ∧ sm_VO (S 44) (S 1076 0) (g11 1007 0) ((S 55 ((S 1092 0) - 1))) ((S 56 ((S 1092 0) - 1))) ∧ sm_FW (S 44) (S 1076 0) (S 59 ((S 1092 0) - 1)) ∧ sm_FL (S 53) (S 54) (S 55) (S 56) (S 57) (S 58) (S 59) (S 60) (S 61) (S 62) (S 63) (S 64) (S 27) (S 29) (S 1100007) (S 1100023) (S 1100024) (S 1100025) (S 26) (S 1100029) (S 44) (S 1046 0) (S 1032 0) (S 1076 0) (g11 1007 0) (((S 1092 0) - 1)) ∧ (S 57 ((S 1092 0) - 1)) = (S 1100033 0) ∧ 0 ≤ (S 58 ((S 1092 0) - 1)) ∧ (S 58 ((S 1092 0) - 1)) ≤ 400 ∧ sm_SK (S 63) (S 64) (S 44) (S 1100007) (S 1100025) (S 1076 0) (g11 1007 0) (400 * ((S 1092 0) - 1)) ((S 58 ((S 1092 0) - 1))) ((S 1100034 0)) ∧ -1 ≤ (S 1100034 0) ∧ (S 1100034 0) < (S 1046 0) ∧ (0 ≤ (S 1100034 0) → (S 26 (S 1100034 0)) = 29) ∧ 0 ≤ (3 : Int) ∧ (3 : Int) ≤ (S 58 ((S 1092 0) - 1)) ∧ (S 58 ((S 1092 0) - 1)) - (3 : Int) ≤ 399 ∧ sm_VO (S 44) (S 1076 0) (g11 1007 0) ((g65 1111 0)) ((g65 1112 0)) ∧ (0 ≤ (S 1100034 0) → (S 1100007 (S 1100034 0)) ≤ (S 58 ((S 1092 0) - 1)) - (3 : Int)) ∧ (S 1100033 0) + 1 < (S 1046 0) ∧ (S 29 ((S 1100033 0) + 1)) = (S 29 (S 1100033 0)) ∧ (S 1100007 ((S 1100033 0) + 1)) = (S 58 ((S 1092 0) - 1)) - (3 : Int) + 1 ∧ (S 1100023 ((S 1100033 0) + 1)) = (S 1100023 (S 1100033 0)) ∧ (S 1100025 ((S 1100033 0) + 1)) = (S 1100034 0)) ∧ (¬ (g46 1075 0) = 0 → sm_LX (S 58) (S 63) (S 64) (S 1092 0) (S 1076 0))) ∧ (∀ g71 : sv_S, (((g46 1075 0) = 0 → (S 1073 0) = 1 → 1 ≤ (S 1092 0) ∧ (S 1092 0) ≤ 24 ∧ 0 ≤ (g71 57 ((S 1092 0) - 1)) ∧ (g71 57 ((S 1092 0) - 1)) < (S 1046 0) ∧ (S 29 (g71 57 ((S 1092 0) - 1))) = (S 53 ((S 1092 0) - 1)) ∧ 0 ≤ (S 53 ((S 1092 0) - 1)) ∧ (S 53 ((S 1092 0) - 1)) < (S 1032 0) ∧ (S 60 ((S 1092 0) - 1)) = sm_dp (S 1100024) (S 1100023 (g71 57 ((S 1092 0) - 1))) ∧ sm_TC (S 61) (S 62) (S 27) (S 1100007) (S 1100023) (S 1100024) (40 * ((S 1092 0) - 1)) (S 1100023 (g71 57 ((S 1092 0) - 1))) ∧ sm_LK (S 1100029) (S 1076 0) (S 54 ((S 1092 0) - 1)) (S 53 ((S 1092 0) - 1)) ∧ sm_VO (S 44) (S 1076 0) (g11 1007 0) ((S 55 ((S 1092 0) - 1))) ((S 56 ((S 1092 0) - 1))) ∧ sm_FW (S 44) (S 1076 0) (S 59 ((S 1092 0) - 1)) ∧ sm_FL (S 53) (S 54) (S 55) (S 56) (g71 57) (g71 58) (S 59) (S 60) (S 61) (S 62) (g71 63) (g71 64) (S 27) (S 29) (S 1100007) (S 1100023) (S 1100024) (S 1100025) (S 26) (S 1100029) (S 44) (S 1046 0) (S 1032 0) (S 1076 0) (g11 1007 0) (((S 1092 0) - 1)) ∧ (g71 58 ((S 1092 0) - 1)) = (S 1100007 (g71 57 ((S 1092 0) - 1))) ∧ sm_SK (g71 63) (g71 64) (S 44) (S 1100007) (S 1100025) (S 1076 0) (g11 1007 0) (400 * ((S 1092 0) - 1)) ((g71 58 ((S 1092 0) - 1))) ((S 1100025 (g71 57 ((S 1092 0) - 1))))) ∧ (¬ (g46 1075 0) = 0 → sm_LX (g71 58) (g71 63) (g71 64) (S 1092 0) (S 1076 0))) → (sm_PL (g46 1100020) (g46 51) (g46 52) (g46 46) (g46 47) (S 1076 0) (g46 1086 0) ∧ sm_FR (g46 1100020) (g46 52) (g46 1100021) (g46 1100022) (3000 - (g46 1084 0)) (g46 1085 0) ∧ sm_PV (g46 1100020) (g46 48) (g46 49) (g46 50) (S 44) (S 1076 0) (g11 1007 0) ∧ sm_AL (g46 1100020) (g46 48) (g46 49) (g46 50) (S 44) (S 1076 0) (S 1100032 0) ∧ sm_SV (g46 1100020) (g46 48) (S 1100029) (S 32) (S 33) (S 1076 0) (S 1032 0) ∧ 0 ≤ (S 1076 0) ∧ (S 1076 0) ≤ 300 ∧ 0 ≤ (g46 1084 0) ∧ (g46 1084 0) ≤ 3000 ∧ 0 ≤ (g46 1086 0) ∧ sm_SC (S 1100029) (S 44) (S 45) (S 43) (S 21) (S 1076 0) (S 1032 0) ∧ sm_PO (S 42) (S 1076 0) ∧ ((g46 1075 0) = 0 → (S 1100032 0) = -1 ∧ sm_FO (S 44) (S 45) (S 1076 0)) ∧ 23 ≤ (S 1076 0) ∧ 31 ≤ (g11 1007 0) ∧ (g11 1007 0) ≤ 400 ∧ sm_LN (g11 4) 400 (g11 1007 0) ∧ (S 1008 0) ≤ (g11 1007 0) ∧ ((S 1075 0) = 1 → (g46 1075 0) = 1) ∧ 0 ≤ (S 1092 0) ∧ (S 1092 0) ≤ 24 ∧ (S 1007 0) ≤ (g11 1007 0) ∧ (¬ (g46 1075 0) = 0 → sm_LX (g71 58) (g71 63) (g71 64) (S 1092 0) (S 1076 0)) ∧ ((g46 1075 0) = 0 → (S 1073 0) = 1 → 1 ≤ (S 1092 0) ∧ (S 1092 0) ≤ 24 ∧ 0 ≤ (g71 57 ((S 1092 0) - 1)) ∧ (g71 57 ((S 1092 0) - 1)) < (S 1046 0) ∧ (S 29 (g71 57 ((S 1092 0) - 1))) = (S 53 ((S 1092 0) - 1)) ∧ 0 ≤ (S 53 ((S 1092 0) - 1)) ∧ (S 53 ((S 1092 0) - 1)) < (S 1032 0) ∧ (S 60 ((S 1092 0) - 1)) = sm_dp (S 1100024) (S 1100023 (g71 57 ((S 1092 0) - 1))) ∧ sm_TC (S 61) (S 62) (S 27) (S 1100007) (S 1100023) (S 1100024) (40 * ((S 1092 0) - 1)) (S 1100023 (g71 57 ((S 1092 0) - 1))) ∧ sm_LK (S 1100029) (S 1076 0) (S 54 ((S 1092 0) - 1)) (S 53 ((S 1092 0) - 1)) ∧ sm_VO (S 44) (S 1076 0) (g11 1007 0) ((S 55 ((S 1092 0) - 1))) ((S 56 ((S 1092 0) - 1))) ∧ sm_FW (S 44) (S 1076 0) (S 59 ((S 1092 0) - 1)) ∧ sm_FL (S 53) (S 54) (S 55) (S 56) (g71 57) (g71 58) (S 59) (S 60) (S 61) (S 62) (g71 63) (g71 64) (S 27) (S 29) (S 1100007) (S 1100023) (S 1100024) (S 1100025) (S 26) (S 1100029) (S 44) (S 1046 0) (S 1032 0) (S 1076 0) (g11 1007 0) (((S 1092 0) - 1)) ∧ (g71 58 ((S 1092 0) - 1)) = (S 1100007 (g71 57 ((S 1092 0) - 1))) ∧ sm_SK (g71 63) (g71 64) (S 44) (S 1100007) (S 1100025) (S 1076 0) (g11 1007 0) (400 * ((S 1092 0) - 1)) ((g71 58 ((S 1092 0) - 1))) ((S 1100025 (g71 57 ((S 1092 0) - 1))))) ∧ ((S 1073 0) = 1 ∨ (S 1092 0) = 0 ∧ (g46 1075 0) = 0 ∧ ((S 1073 0) = 2 ∨ (S 1073 0) = 3)) ∧ (S 1086 0) ≤ (g46 1086 0) ∧ (g46 1086 0) ≤ (S 1086 0) + 110)))) ∧ ((¬ (s51 < (0 : Int))) → (sm_PL (g46 1100020) (g46 51) (g46 52) (g46 46) (g46 47) (S 1076 0) (g46 1086 0) ∧ sm_FR (g46 1100020) (g46 52) (g46 1100021) (g46 1100022) (3000 - (g46 1084 0)) (g46 1085 0) ∧ sm_PV (g46 1100020) (g46 48) (g46 49) (g46 50) (S 44) (S 1076 0) (g11 1007 0) ∧ sm_AL (g46 1100020) (g46 48) (g46 49) (g46 50) (S 44) (S 1076 0) (S 1100032 0) ∧ sm_SV (g46 1100020) (g46 48) (S 1100029) (S 32) (S 33) (S 1076 0) (S 1032 0) ∧ 0 ≤ (S 1076 0) ∧ (S 1076 0) ≤ 300 ∧ 0 ≤ (g46 1084 0) ∧ (g46 1084 0) ≤ 3000 ∧ 0 ≤ (g46 1086 0) ∧ 0 ≤ x7 ∧ x7 < (S 1076 0) ∧ (S 44 x7) = 2 ∧ ¬ x7 = (S 1100032 0)) ∧ (∀ r81 : Int, sv_R r81 → (0 ≤ r81 ∧ r81 ≤ 100) → (((s51 < r81) → (∀ g82 : sv_S, ((g82 1111 0) = ((S 63 ((400 * ((S 1092 0) - 1) + (S 58 ((S 1092 0) - 1))) - 1 - (0 : Int)))) ∧ (g82 1112 0) = ((S 64 ((400 * ((S 1092 0) - 1) + (S 58 ((S 1092 0) - 1))) - 1 - (0 : Int))))) → (((g46 1075 0) = 0 → (S 1073 0) = 1 → sm_PL (g46 1100020) (g46 51) (g46 52) (g46 46) (g46 47) (S 1076 0) (g46 1086 0) ∧ sm_FR (g46 1100020) (g46 52) (g46 1100021) (g46 1100022) (3000 - (g46 1084 0)) (g46 1085 0) ∧ sm_PV (g46 1100020) (g46 48) (g46 49) (g46 50) (S 44) (S 1076 0) (g11 1007 0) ∧ sm_AL (g46 1100020) (g46 48) (g46 49) (g46 50) (S 44) (S 1076 0) (S 1100032 0) ∧ sm_SV (g46 1100020) (g46 48) (S 1100029) (S 32) (S 33) (S 1076 0) (S 1032 0) ∧ 0 ≤ (S 1076 0) ∧ (S 1076 0) ≤ 300 ∧ 0 ≤ (g46 1084 0) ∧ (g46 1084 0) ≤ 3000 ∧ 0 ≤ (g46 1086 0) ∧ sm_SC (S 1100029) (S 44) (S 45) (S 43) (S 21) (S 1076 0) (S 1032 0) ∧ sm_PO (S 42) (S 1076 0) ∧ (S 1100032 0) = -1 ∧ sm_FO (S 44) (S 45) (S 1076 0) ∧ 23 ≤ (S 1076 0) ∧ 31 ≤ (g11 1007 0) ∧ (g11 1007 0) ≤ 400 ∧ sm_LN (g11 4) 400 (g11 1007 0) ∧ sm_CT (S 26) (S 27) (S 28) (S 29) (S 1100007) (S 1100023) (S 1100024) (S 1100025) (S 21) (S 1046 0) (S 1032 0) (S 1008 0) (S 1055 0) ∧ sm_LS (S 26) (S 1100007) (S 1100025) (S 1046 0) ∧ sm_CL (S 1100007) (S 1100023) (S 1100025) (S 1046 0) ∧ 1 ≤ (S 1032 0) ∧ (S 1032 0) ≤ 11 ∧ 0 ≤ (S 1046 0) ∧ (S 1046 0) ≤ 600 ∧ 31 ≤ (S 1008 0) ∧ (S 1008 0) ≤ (g11 1007 0) ∧ 0 ≤ (S 1055 0) ∧ (S 1055 0) ≤ 19 ∧ 1 ≤ (S 1092 0) ∧ (S 1092 0) ≤ 24 ∧ 0 ≤ (S 1100033 0) ∧ (S 1100033 0) < (S 1046 0) ∧ (S 29 (S 1100033 0)) = (S 53 ((S 1092 0) - 1)) ∧ 0 ≤ (S 53 ((S 1092 0) - 1)) ∧ (S 53 ((S 1092 0) - 1)) < (S 1032 0) ∧ (S 60 ((S 1092 0) - 1)) = sm_dp (S 1100024) (S 1100023 (S 1100033 0)) ∧ sm_TC (S 61) (S 62) (S 27) (S 1100007) (S 1100023) (S 1100024) (40 * ((S 1092 0) - 1)) (S 1100023 (S 1100033 0)) ∧ sm_LK (S 1100029) (S 1076 0) (S 54 ((S 1092 0) - 1)) (S 53 ((S 1092 0) - 1)) ∧ sm_VO (S 44) (S 1076 0) (g11 1007 0) ((S 55 ((S 1092 0) - 1))) ((S 56 ((S 1092 0) - 1))) ∧ sm_FW (S 44) (S 1076 0) (S 59 ((S 1092 0) - 1)) ∧ sm_FL (S 53) (S 54) (S 55) (S 56) (S 57) (S 58) (S 59) (S 60) (S 61) (S 62) (S 63) (S 64) (S 27) (S 29) (S 1100007) (S 1100023) (S 1100024) (S 1100025) (S 26) (S 1100029) (S 44) (S 1046 0) (S 1032 0) (S 1076 0) (g11 1007 0) (((S 1092 0) - 1)) ∧ (S 57 ((S 1092 0) - 1)) = (S 1100033 0) ∧ 0 ≤ (S 58 ((S 1092 0) - 1)) ∧ (S 58 ((S 1092 0) - 1)) ≤ 400 ∧ sm_SK (S 63) (S 64) (S 44) (S 1100007) (S 1100025) (S 1076 0) (g11 1007 0) (400 * ((S 1092 0) - 1)) ((S 58 ((S 1092 0) - 1))) ((S 1100034 0)) ∧ -1 ≤ (S 1100034 0) ∧ (S 1100034 0) < (S 1046 0) ∧ (0 ≤ (S 1100034 0) → (S 26 (S 1100034 0)) = 29) ∧ 0 ≤ (3 : Int) ∧ (3 : Int) ≤ (S 58 ((S 1092 0) - 1)) ∧ (S 58 ((S 1092 0) - 1)) - (3 : Int) ≤ 399 ∧ sm_VO (S 44) (S 1076 0) (g11 1007 0) ((g82 1111 0)) ((g82 1112 0)) ∧ (0 ≤ (S 1100034 0) → (S 1100007 (S 1100034 0)) ≤ (S 58 ((S 1092 0) - 1)) - (3 : Int)) ∧ (S 1100033 0) + 1 < (S 1046 0) ∧ (S 29 ((S 1100033 0) + 1)) = (S 29 (S 1100033 0)) ∧ (S 1100007 ((S 1100033 0) + 1)) = (S 58 ((S 1092 0) - 1)) - (3 : Int) + 1 ∧ (S 1100023 ((S 1100033 0) + 1)) = (S 1100023 (S 1100033 0)) ∧ (S 1100025 ((S 1100033 0) + 1)) = (S 1100034 0)) ∧ (¬ (g46 1075 0) = 0 → sm_LX (S 58) (S 63) (S 64) (S 1092 0) (S 1076 0))) ∧ (∀ g88 : sv_S, (((g46 1075 0) = 0 → (S 1073 0) = 1 → 1 ≤ (S 1092 0) ∧ (S 1092 0) ≤ 24 ∧ 0 ≤ (g88 57 ((S 1092 0) - 1)) ∧ (g88 57 ((S 1092 0) - 1)) < (S 1046 0) ∧ (S 29 (g88 57 ((S 1092 0) - 1))) = (S 53 ((S 1092 0) - 1)) ∧ 0 ≤ (S 53 ((S 1092 0) - 1)) ∧ (S 53 ((S 1092 0) - 1)) < (S 1032 0) ∧ (S 60 ((S 1092 0) - 1)) = sm_dp (S 1100024) (S 1100023 (g88 57 ((S 1092 0) - 1))) ∧ sm_TC (S 61) (S 62) (S 27) (S 1100007) (S 1100023) (S 1100024) (40 * ((S 1092 0) - 1)) (S 1100023 (g88 57 ((S 1092 0) - 1))) ∧ sm_LK (S 1100029) (S 1076 0) (S 54 ((S 1092 0) - 1)) (S 53 ((S 1092 0) - 1)) ∧ sm_VO (S 44) (S 1076 0) (g11 1007 0) ((S 55 ((S 1092 0) - 1))) ((S 56 ((S 1092 0) - 1))) ∧ sm_FW (S 44) (S 1076 0) (S 59 ((S 1092 0) - 1)) ∧ sm_FL (S 53) (S 54) (S 55) (S 56) (g88 57) (g88 58) (S 59) (S 60) (S 61) (S 62) (g88 63) (g88 64) (S 27) (S 29) (S 1100007) (S 1100023) (S 1100024) (S 1100025) (S 26) (S 1100029) (S 44) (S 1046 0) (S 1032 0) (S 1076 0) (g11 1007 0) (((S 1092 0) - 1)) ∧ (g88 58 ((S 1092 0) - 1)) = (S 1100007 (g88 57 ((S 1092 0) - 1))) ∧ sm_SK (g88 63) (g88 64) (S 44) (S 1100007) (S 1100025) (S 1076 0) (g11 1007 0) (400 * ((S 1092 0) - 1)) ((g88 58 ((S 1092 0) - 1))) ((S 1100025 (g88 57 ((S 1092 0) - 1))))) ∧ (¬ (g46 1075 0) = 0 → sm_LX (g88 58) (g88 63) (g88 64) (S 1092 0) (S 1076 0))) → (sm_PL (g46 1100020) (g46 51) (g46 52) (g46 46) (g46 47) (S 1076 0) (g46 1086 0) ∧ sm_FR (g46 1100020) (g46 52) (g46 1100021) (g46 1100022) (3000 - (g46 1084 0)) (g46 1085 0) ∧ sm_PV (g46 1100020) (g46 48) (g46 49) (g46 50) (S 44) (S 1076 0) (g11 1007 0) ∧ sm_AL (g46 1100020) (g46 48) (g46 49) (g46 50) (S 44) (S 1076 0) (S 1100032 0) ∧ sm_SV (g46 1100020) (g46 48) (S 1100029) (S 32) (S 33) (S 1076 0) (S 1032 0) ∧ 0 ≤ (S 1076 0) ∧ (S 1076 0) ≤ 300 ∧ 0 ≤ (g46 1084 0) ∧ (g46 1084 0) ≤ 3000 ∧ 0 ≤ (g46 1086 0) ∧ sm_SC (S 1100029) (S 44) (S 45) (S 43) (S 21) (S 1076 0) (S 1032 0) ∧ sm_PO (S 42) (S 1076 0) ∧ ((g46 1075 0) = 0 → (S 1100032 0) = -1 ∧ sm_FO (S 44) (S 45) (S 1076 0)) ∧ 23 ≤ (S 1076 0) ∧ 31 ≤ (g11 1007 0) ∧ (g11 1007 0) ≤ 400 ∧ sm_LN (g11 4) 400 (g11 1007 0) ∧ (S 1008 0) ≤ (g11 1007 0) ∧ ((S 1075 0) = 1 → (g46 1075 0) = 1) ∧ 0 ≤ (S 1092 0) ∧ (S 1092 0) ≤ 24 ∧ (S 1007 0) ≤ (g11 1007 0) ∧ (¬ (g46 1075 0) = 0 → sm_LX (g88 58) (g88 63) (g88 64) (S 1092 0) (S 1076 0)) ∧ ((g46 1075 0) = 0 → (S 1073 0) = 1 → 1 ≤ (S 1092 0) ∧ (S 1092 0) ≤ 24 ∧ 0 ≤ (g88 57 ((S 1092 0) - 1)) ∧ (g88 57 ((S 1092 0) - 1)) < (S 1046 0) ∧ (S 29 (g88 57 ((S 1092 0) - 1))) = (S 53 ((S 1092 0) - 1)) ∧ 0 ≤ (S 53 ((S 1092 0) - 1)) ∧ (S 53 ((S 1092 0) - 1)) < (S 1032 0) ∧ (S 60 ((S 1092 0) - 1)) = sm_dp (S 1100024) (S 1100023 (g88 57 ((S 1092 0) - 1))) ∧ sm_TC (S 61) (S 62) (S 27) (S 1100007) (S 1100023) (S 1100024) (40 * ((S 1092 0) - 1)) (S 1100023 (g88 57 ((S 1092 0) - 1))) ∧ sm_LK (S 1100029) (S 1076 0) (S 54 ((S 1092 0) - 1)) (S 53 ((S 1092 0) - 1)) ∧ sm_VO (S 44) (S 1076 0) (g11 1007 0) ((S 55 ((S 1092 0) - 1))) ((S 56 ((S 1092 0) - 1))) ∧ sm_FW (S 44) (S 1076 0) (S 59 ((S 1092 0) - 1)) ∧ sm_FL (S 53) (S 54) (S 55) (S 56) (g88 57) (g88 58) (S 59) (S 60) (S 61) (S 62) (g88 63) (g88 64) (S 27) (S 29) (S 1100007) (S 1100023) (S 1100024) (S 1100025) (S 26) (S 1100029) (S 44) (S 1046 0) (S 1032 0) (S 1076 0) (g11 1007 0) (((S 1092 0) - 1)) ∧ (g88 58 ((S 1092 0) - 1)) = (S 1100007 (g88 57 ((S 1092 0) - 1))) ∧ sm_SK (g88 63) (g88 64) (S 44) (S 1100007) (S 1100025) (S 1076 0) (g11 1007 0) (400 * ((S 1092 0) - 1)) ((g88 58 ((S 1092 0) - 1))) ((S 1100025 (g88 57 ((S 1092 0) - 1))))) ∧ ((S 1073 0) = 1 ∨ (S 1092 0) = 0 ∧ (g46 1075 0) = 0 ∧ ((S 1073 0) = 2 ∨ (S 1073 0) = 3)) ∧ (S 1086 0) ≤ (g46 1086 0) ∧ (g46 1086 0) ≤ (S 1086 0) + 110)))) ∧ ((¬ (s51 < r81)) → (sv_R (s51 + (1 : Int))) ∧ (sm_PL (g46 1100020) (g46 51) (g46 52) (g46 46) (g46 47) (S 1076 0) (g46 1086 0) ∧ sm_FR (g46 1100020) (g46 52) (g46 1100021) (g46 1100022) (3000 - (g46 1084 0)) (g46 1085 0) ∧ sm_PV (g46 1100020) (g46 48) (g46 49) (g46 50) (S 44) (S 1076 0) (g11 1007 0) ∧ sm_AL (g46 1100020) (g46 48) (g46 49) (g46 50) (S 44) (S 1076 0) (S 1100032 0) ∧ sm_SV (g46 1100020) (g46 48) (S 1100029) (S 32) (S 33) (S 1076 0) (S 1032 0) ∧ 0 ≤ (S 1076 0) ∧ (S 1076 0) ≤ 300 ∧ 0 ≤ (g46 1084 0) ∧ (g46 1084 0) ≤ 3000 ∧ 0 ≤ (g46 1086 0) ∧ 0 ≤ x7 ∧ x7 < (S 1076 0) ∧ 0 ≤ (0 : Int) ∧ (0 : Int) < (g11 1007 0) ∧ sm_VO (S 44) (S 1076 0) (g11 1007 0) ((5 : Int)) ((s51 + (1 : Int))) ∧ ((S 44 x7) = 2 → (0 : Int) = 0 → (5 : Int) = 5 ∧ 0 ≤ (s51 + (1 : Int)) ∧ (s51 + (1 : Int)) ≤ 100) ∧ (g46 1086 0) < 2000000000) ∧ (∀ g95 : sv_S, (sm_PL (g95 1100020) (g95 51) (g95 52) (g95 46) (g95 47) (S 1076 0) (g95 1086 0) ∧ sm_FR (g95 1100020) (g95 52) (g95 1100021) (g95 1100022) (3000 - (g95 1084 0)) (g95 1085 0) ∧ sm_PV (g95 1100020) (g95 48) (g95 49) (g95 50) (S 44) (S 1076 0) (g11 1007 0) ∧ sm_AL (g95 1100020) (g95 48) (g95 49) (g95 50) (S 44) (S 1076 0) (S 1100032 0) ∧ sm_SV (g95 1100020) (g95 48) (S 1100029) (S 32) (S 33) (S 1076 0) (S 1032 0) ∧ 0 ≤ (S 1076 0) ∧ (S 1076 0) ≤ 300 ∧ 0 ≤ (g95 1084 0) ∧ (g95 1084 0) ≤ 3000 ∧ 0 ≤ (g95 1086 0) ∧ sm_KP (g46 1100020) (g46 48) (g95 1100020) (g95 48) ∧ ((g46 1075 0) = 1 → (g95 1075 0) = 1) ∧ ((g95 1075 0) = 0 → sm_HN (g95 1100020) (g95 48) x7 (0 : Int)) ∧ (g46 1086 0) ≤ (g95 1086 0) ∧ (g95 1086 0) ≤ (g46 1086 0) + 1 ∧ ((g46 1084 0) < 3000 → (g95 1075 0) = (g46 1075 0)) ∧ (g95 1084 0) ≤ (g46 1084 0) + 1) → (∀ g100 : sv_S, ((g100 1111 0) = ((S 63 ((400 * ((S 1092 0) - 1) + (S 58 ((S 1092 0) - 1))) - 1 - (0 : Int)))) ∧ (g100 1112 0) = ((S 64 ((400 * ((S 1092 0) - 1) + (S 58 ((S 1092 0) - 1))) - 1 - (0 : Int))))) → (((g95 1075 0) = 0 → (S 1073 0) = 1 → sm_PL (g95 1100020) (g95 51) (g95 52) (g95 46) (g95 47) (S 1076 0) (g95 1086 0) ∧ sm_FR (g95 1100020) (g95 52) (g95 1100021) (g95 1100022) (3000 - (g95 1084 0)) (g95 1085 0) ∧ sm_PV (g95 1100020) (g95 48) (g95 49) (g95 50) (S 44) (S 1076 0) (g11 1007 0) ∧ sm_AL (g95 1100020) (g95 48) (g95 49) (g95 50) (S 44) (S 1076 0) (S 1100032 0) ∧ sm_SV (g95 1100020) (g95 48) (S 1100029) (S 32) (S 33) (S 1076 0) (S 1032 0) ∧ 0 ≤ (S 1076 0) ∧ (S 1076 0) ≤ 300 ∧ 0 ≤ (g95 1084 0) ∧ (g95 1084 0) ≤ 3000 ∧ 0 ≤ (g95 1086 0) ∧ sm_SC (S 1100029) (S 44) (S 45) (S 43) (S 21) (S 1076 0) (S 1032 0) ∧ sm_PO (S 42) (S 1076 0) ∧ (S 1100032 0) = -1 ∧ sm_FO (S 44) (S 45) (S 1076 0) ∧ 23 ≤ (S 1076 0) ∧ 31 ≤ (g11 1007 0) ∧ (g11 1007 0) ≤ 400 ∧ sm_LN (g11 4) 400 (g11 1007 0) ∧ sm_CT (S 26) (S 27) (S 28) (S 29) (S 1100007) (S 1100023) (S 1100024) (S 1100025) (S 21) (S 1046 0) (S 1032 0) (S 1008 0) (S 1055 0) ∧ sm_LS (S 26) (S 1100007) (S 1100025) (S 1046 0) ∧ sm_CL (S 1100007) (S 1100023) (S 1100025) (S 1046 0) ∧ 1 ≤ (S 1032 0) ∧ (S 1032 0) ≤ 11 ∧ 0 ≤ (S 1046 0) ∧ (S 1046 0) ≤ 600 ∧ 31 ≤ (S 1008 0) ∧ (S 1008 0) ≤ (g11 1007 0) ∧ 0 ≤ (S 1055 0) ∧ (S 1055 0) ≤ 19 ∧ 1 ≤ (S 1092 0) ∧ (S 1092 0) ≤ 24 ∧ 0 ≤ (S 1100033 0) ∧ (S 1100033 0) < (S 1046 0) ∧ (S 29 (S 1100033 0)) = (S 53 ((S 1092 0) - 1)) ∧ 0 ≤ (S 53 ((S 1092 0) - 1)) ∧ (S 53 ((S 1092 0) - 1)) < (S 1032 0) ∧ (S 60 ((S 1092 0) - 1)) = sm_dp (S 1100024) (S 1100023 (S 1100033 0)) ∧ sm_TC (S 61) (S 62) (S 27) (S 1100007) (S 1100023) (S 1100024) (40 * ((S 1092 0) - 1)) (S 1100023 (S 1100033 0)) ∧ sm_LK (S 1100029) (S 1076 0) (S 54 ((S 1092 0) - 1)) (S 53 ((S 1092 0) - 1)) ∧ sm_VO (S 44) (S 1076 0) (g11 1007 0) ((S 55 ((S 1092 0) - 1))) ((S 56 ((S 1092 0) - 1))) ∧ sm_FW (S 44) (S 1076 0) (S 59 ((S 1092 0) - 1)) ∧ sm_FL (S 53) (S 54) (S 55) (S 56) (S 57) (S 58) (S 59) (S 60) (S 61) (S 62) (S 63) (S 64) (S 27) (S 29) (S 1100007) (S 1100023) (S 1100024) (S 1100025) (S 26) (S 1100029) (S 44) (S 1046 0) (S 1032 0) (S 1076 0) (g11 1007 0) (((S 1092 0) - 1)) ∧ (S 57 ((S 1092 0) - 1)) = (S 1100033 0) ∧ 0 ≤ (S 58 ((S 1092 0) - 1)) ∧ (S 58 ((S 1092 0) - 1)) ≤ 400 ∧ sm_SK (S 63) (S 64) (S 44) (S 1100007) (S 1100025) (S 1076 0) (g11 1007 0) (400 * ((S 1092 0) - 1)) ((S 58 ((S 1092 0) - 1))) ((S 1100034 0)) ∧ -1 ≤ (S 1100034 0) ∧ (S 1100034 0) < (S 1046 0) ∧ (0 ≤ (S 1100034 0) → (S 26 (S 1100034 0)) = 29) ∧ 0 ≤ (3 : Int) ∧ (3 : Int) ≤ (S 58 ((S 1092 0) - 1)) ∧ (S 58 ((S 1092 0) - 1)) - (3 : Int) ≤ 399 ∧ sm_VO (S 44) (S 1076 0) (g11 1007 0) ((g100 1111 0)) ((g100 1112 0)) ∧ (0 ≤ (S 1100034 0) → (S 1100007 (S 1100034 0)) ≤ (S 58 ((S 1092 0) - 1)) - (3 : Int)) ∧ (S 1100033 0) + 1 < (S 1046 0) ∧ (S 29 ((S 1100033 0) + 1)) = (S 29 (S 1100033 0)) ∧ (S 1100007 ((S 1100033 0) + 1)) = (S 58 ((S 1092 0) - 1)) - (3 : Int) + 1 ∧ (S 1100023 ((S 1100033 0) + 1)) = (S 1100023 (S 1100033 0)) ∧ (S 1100025 ((S 1100033 0) + 1)) = (S 1100034 0)) ∧ (¬ (g95 1075 0) = 0 → sm_LX (S 58) (S 63) (S 64) (S 1092 0) (S 1076 0))) ∧ (∀ g106 : sv_S, (((g95 1075 0) = 0 → (S 1073 0) = 1 → 1 ≤ (S 1092 0) ∧ (S 1092 0) ≤ 24 ∧ 0 ≤ (g106 57 ((S 1092 0) - 1)) ∧ (g106 57 ((S 1092 0) - 1)) < (S 1046 0) ∧ (S 29 (g106 57 ((S 1092 0) - 1))) = (S 53 ((S 1092 0) - 1)) ∧ 0 ≤ (S 53 ((S 1092 0) - 1)) ∧ (S 53 ((S 1092 0) - 1)) < (S 1032 0) ∧ (S 60 ((S 1092 0) - 1)) = sm_dp (S 1100024) (S 1100023 (g106 57 ((S 1092 0) - 1))) ∧ sm_TC (S 61) (S 62) (S 27) (S 1100007) (S 1100023) (S 1100024) (40 * ((S 1092 0) - 1)) (S 1100023 (g106 57 ((S 1092 0) - 1))) ∧ sm_LK (S 1100029) (S 1076 0) (S 54 ((S 1092 0) - 1)) (S 53 ((S 1092 0) - 1)) ∧ sm_VO (S 44) (S 1076 0) (g11 1007 0) ((S 55 ((S 1092 0) - 1))) ((S 56 ((S 1092 0) - 1))) ∧ sm_FW (S 44) (S 1076 0) (S 59 ((S 1092 0) - 1)) ∧ sm_FL (S 53) (S 54) (S 55) (S 56) (g106 57) (g106 58) (S 59) (S 60) (S 61) (S 62) (g106 63) (g106 64) (S 27) (S 29) (S 1100007) (S 1100023) (S 1100024) (S 1100025) (S 26) (S 1100029) (S 44) (S 1046 0) (S 1032 0) (S 1076 0) (g11 1007 0) (((S 1092 0) - 1)) ∧ (g106 58 ((S 1092 0) - 1)) = (S 1100007 (g106 57 ((S 1092 0) - 1))) ∧ sm_SK (g106 63) (g106 64) (S 44) (S 1100007) (S 1100025) (S 1076 0) (g11 1007 0) (400 * ((S 1092 0) - 1)) ((g106 58 ((S 1092 0) - 1))) ((S 1100025 (g106 57 ((S 1092 0) - 1))))) ∧ (¬ (g95 1075 0) = 0 → sm_LX (g106 58) (g106 63) (g106 64) (S 1092 0) (S 1076 0))) → (sm_PL (g95 1100020) (g95 51) (g95 52) (g95 46) (g95 47) (S 1076 0) (g95 1086 0) ∧ sm_FR (g95 1100020) (g95 52) (g95 1100021) (g95 1100022) (3000 - (g95 1084 0)) (g95 1085 0) ∧ sm_PV (g95 1100020) (g95 48) (g95 49) (g95 50) (S 44) (S 1076 0) (g11 1007 0) ∧ sm_AL (g95 1100020) (g95 48) (g95 49) (g95 50) (S 44) (S 1076 0) (S 1100032 0) ∧ sm_SV (g95 1100020) (g95 48) (S 1100029) (S 32) (S 33) (S 1076 0) (S 1032 0) ∧ 0 ≤ (S 1076 0) ∧ (S 1076 0) ≤ 300 ∧ 0 ≤ (g95 1084 0) ∧ (g95 1084 0) ≤ 3000 ∧ 0 ≤ (g95 1086 0) ∧ sm_SC (S 1100029) (S 44) (S 45) (S 43) (S 21) (S 1076 0) (S 1032 0) ∧ sm_PO (S 42) (S 1076 0) ∧ ((g95 1075 0) = 0 → (S 1100032 0) = -1 ∧ sm_FO (S 44) (S 45) (S 1076 0)) ∧ 23 ≤ (S 1076 0) ∧ 31 ≤ (g11 1007 0) ∧ (g11 1007 0) ≤ 400 ∧ sm_LN (g11 4) 400 (g11 1007 0) ∧ (S 1008 0) ≤ (g11 1007 0) ∧ ((S 1075 0) = 1 → (g95 1075 0) = 1) ∧ 0 ≤ (S 1092 0) ∧ (S 1092 0) ≤ 24 ∧ (S 1007 0) ≤ (g11 1007 0) ∧ (¬ (g95 1075 0) = 0 → sm_LX (g106 58) (g106 63) (g106 64) (S 1092 0) (S 1076 0)) ∧ ((g95 1075 0) = 0 → (S 1073 0) = 1 → 1 ≤ (S 1092 0) ∧ (S 1092 0) ≤ 24 ∧ 0 ≤ (g106 57 ((S 1092 0) - 1)) ∧ (g106 57 ((S 1092 0) - 1)) < (S 1046 0) ∧ (S 29 (g106 57 ((S 1092 0) - 1))) = (S 53 ((S 1092 0) - 1)) ∧ 0 ≤ (S 53 ((S 1092 0) - 1)) ∧ (S 53 ((S 1092 0) - 1)) < (S 1032 0) ∧ (S 60 ((S 1092 0) - 1)) = sm_dp (S 1100024) (S 1100023 (g106 57 ((S 1092 0) - 1))) ∧ sm_TC (S 61) (S 62) (S 27) (S 1100007) (S 1100023) (S 1100024) (40 * ((S 1092 0) - 1)) (S 1100023 (g106 57 ((S 1092 0) - 1))) ∧ sm_LK (S 1100029) (S 1076 0) (S 54 ((S 1092 0) - 1)) (S 53 ((S 1092 0) - 1)) ∧ sm_VO (S 44) (S 1076 0) (g11 1007 0) ((S 55 ((S 1092 0) - 1))) ((S 56 ((S 1092 0) - 1))) ∧ sm_FW (S 44) (S 1076 0) (S 59 ((S 1092 0) - 1)) ∧ sm_FL (S 53) (S 54) (S 55) (S 56) (g106 57) (g106 58) (S 59) (S 60) (S 61) (S 62) (g106 63) (g106 64) (S 27) (S 29) (S 1100007) (S 1100023) (S 1100024) (S 1100025) (S 26) (S 1100029) (S 44) (S 1046 0) (S 1032 0) (S 1076 0) (g11 1007 0) (((S 1092 0) - 1)) ∧ (g106 58 ((S 1092 0) - 1)) = (S 1100007 (g106 57 ((S 1092 0) - 1))) ∧ sm_SK (g106 63) (g106 64) (S 44) (S 1100007) (S 1100025) (S 1076 0) (g11 1007 0) (400 * ((S 1092 0) - 1)) ((g106 58 ((S 1092 0) - 1))) ((S 1100025 (g106 57 ((S 1092 0) - 1))))) ∧ ((S 1073 0) = 1 ∨ (S 1092 0) = 0 ∧ (g95 1075 0) = 0 ∧ ((S 1073 0) = 2 ∨ (S 1073 0) = 3)) ∧ (S 1086 0) ≤ (g95 1086 0) ∧ (g95 1086 0) ≤ (S 1086 0) + 110))))))))))))) ∧ (0 ≤ x7 ∧ x7 < 300) ∧ (sv_R (S 44 x7) → (((¬ (S 44 x7) = (2 : Int)) → (-1 ≤ (-1 : Int) ∧ (-1 : Int) ≤ 99 ∧ (¬ (-1 : Int) = -1 → (S 44 x7) = 2))) ∧ ((¬ (¬ (S 44 x7) = (2 : Int))) → (31 ≤ (g11 1007 0) ∧ (g11 1007 0) ≤ 400 ∧ sm_LN (g11 4) 400 (g11 1007 0) ∧ 0 ≤ r15 ∧ r15 < 400) ∧ (∀ r119 : Int, sv_R r119 → (-1 ≤ r119 ∧ r119 ≤ 99) → (-1 ≤ r119 ∧ r119 ≤ 99 ∧ (¬ r119 = -1 → (S 44 x7) = 2))))))))))))) ∧ (((¬ x5 = (7 : Int)) → (((0 : Int) = 0 ∨ (0 : Int) = 1) ∧ ((0 : Int) = 0 → ¬ (x5 = 7 ∧ (S 44 x7) = 2 ∧ r15 = 0)))) ∧ ((¬ (¬ x5 = (7 : Int))) → (0 ≤ x7 ∧ x7 < 300) ∧ (sv_R (S 44 x7) → (((¬ (S 44 x7) = (2 : Int)) → (((0 : Int) = 0 ∨ (0 : Int) = 1) ∧ ((0 : Int) = 0 → ¬ (x5 = 7 ∧ (S 44 x7) = 2 ∧ r15 = 0)))) ∧ ((¬ (¬ (S 44 x7) = (2 : Int))) → (((¬ r15 = (0 : Int)) → (((0 : Int) = 0 ∨ (0 : Int) = 1) ∧ ((0 : Int) = 0 → ¬ (x5 = 7 ∧ (S 44 x7) = 2 ∧ r15 = 0)))) ∧ ((¬ (¬ r15 = (0 : Int))) → (((1 : Int) = 0 ∨ (1 : Int) = 1) ∧ ((1 : Int) = 0 → ¬ (x5 = 7 ∧ (S 44 x7) = 2 ∧ r15 = 0)))))))))))) ∧ ((¬ ((1 : Int) < x5)) → ((g11 1075 0) = 0 ∧ (S 1073 0) = 1 ∧ sm_LX (S 58) (S 63) (S 64) (S 1092 0) (S 1076 0) ∧ sm_PL (S 1100020) (S 51) (S 52) (S 46) (S 47) (S 1076 0) (S 1086 0) ∧ sm_FR (S 1100020) (S 52) (S 1100021) (S 1100022) (3000 - (S 1084 0)) (S 1085 0) ∧ sm_PV (S 1100020) (S 48) (S 49) (S 50) (S 44) (S 1076 0) (g11 1007 0) ∧ sm_AL (S 1100020) (S 48) (S 49) (S 50) (S 44) (S 1076 0) (S 1100032 0) ∧ sm_SV (S 1100020) (S 48) (S 1100029) (S 32) (S 33) (S 1076 0) (S 1032 0) ∧ 0 ≤ (S 1076 0) ∧ (S 1076 0) ≤ 300 ∧ 0 ≤ (S 1084 0) ∧ (S 1084 0) ≤ 3000 ∧ 0 ≤ (S 1086 0) ∧ sm_SC (S 1100029) (S 44) (S 45) (S 43) (S 21) (S 1076 0) (S 1032 0) ∧ sm_PO (S 42) (S 1076 0) ∧ (S 1100032 0) = -1 ∧ sm_FO (S 44) (S 45) (S 1076 0) ∧ 23 ≤ (S 1076 0) ∧ 31 ≤ (g11 1007 0) ∧ (g11 1007 0) ≤ 400 ∧ sm_LN (g11 4) 400 (g11 1007 0) ∧ sm_CT (S 26) (S 27) (S 28) (S 29) (S 1100007) (S 1100023) (S 1100024) (S 1100025) (S 21) (S 1046 0) (S 1032 0) (S 1008 0) (S 1055 0) ∧ sm_LS (S 26) (S 1100007) (S 1100025) (S 1046 0) ∧ sm_CL (S 1100007) (S 1100023) (S 1100025) (S 1046 0) ∧ 1 ≤ (S 1032 0) ∧ (S 1032 0) ≤ 11 ∧ 0 ≤ (S 1046 0) ∧ (S 1046 0) ≤ 600 ∧ 31 ≤ (S 1008 0) ∧ (S 1008 0) ≤ (g11 1007 0) ∧ 0 ≤ (S 1055 0) ∧ (S 1055 0) ≤ 19 ∧ 1 ≤ (S 1092 0) ∧ (S 1092 0) ≤ 24 ∧ 0 ≤ (S 57 ((S 1092 0) - 1)) ∧ (S 57 ((S 1092 0) - 1)) < (S 1046 0) ∧ (S 29 (S 57 ((S 1092 0) - 1))) = (S 53 ((S 1092 0) - 1)) ∧ 0 ≤ (S 53 ((S 1092 0) - 1)) ∧ (S 53 ((S 1092 0) - 1)) < (S 1032 0) ∧ (S 60 ((S 1092 0) - 1)) = sm_dp (S 1100024) (S 1100023 (S 57 ((S 1092 0) - 1))) ∧ sm_TC (S 61) (S 62) (S 27) (S 1100007) (S 1100023) (S 1100024) (40 * ((S 1092 0) - 1)) (S 1100023 (S 57 ((S 1092 0) - 1))) ∧ sm_LK (S 1100029) (S 1076 0) (S 54 ((S 1092 0) - 1)) (S 53 ((S 1092 0) - 1)) ∧ sm_VO (S 44) (S 1076 0) (g11 1007 0) ((S 55 ((S 1092 0) - 1))) ((S 56 ((S 1092 0) - 1))) ∧ sm_FW (S 44) (S 1076 0) (S 59 ((S 1092 0) - 1)) ∧ sm_FL (S 53) (S 54) (S 55) (S 56) (S 57) (S 58) (S 59) (S 60) (S 61) (S 62) (S 63) (S 64) (S 27) (S 29) (S 1100007) (S 1100023) (S 1100024) (S 1100025) (S 26) (S 1100029) (S 44) (S 1046 0) (S 1032 0) (S 1076 0) (g11 1007 0) (((S 1092 0) - 1)) ∧ (S 58 ((S 1092 0) - 1)) = (S 1100007 (S 57 ((S 1092 0) - 1))) ∧ sm_SK (S 63) (S 64) (S 44) (S 1100007) (S 1100025) (S 1076 0) (g11 1007 0) (400 * ((S 1092 0) - 1)) ((S 58 ((S 1092 0) - 1))) ((S 1100025 (S 57 ((S 1092 0) - 1)))) ∧ (0 ≤ (S 1100023 (S 57 ((S 1092 0) - 1))) → (S 1100007 (S 1100023 (S 57 ((S 1092 0) - 1)))) ≤ (S 58 ((S 1092 0) - 1))) ∧ 6 ≤ (6 : Int) ∧ (6 : Int) ≤ 8) ∧ (∀ g124 : sv_S, (sm_PL (S 1100020) (S 51) (S 52) (g124 46) (g124 47) (g124 1076 0) (S 1086 0) ∧ sm_FR (S 1100020) (S 52) (S 1100021) (S 1100022) (3000 - (S 1084 0)) (S 1085 0) ∧ sm_PV (S 1100020) (S 48) (S 49) (S 50) (g124 44) (g124 1076 0) (g11 1007 0) ∧ sm_AL (S 1100020) (S 48) (S 49) (S 50) (g124 44) (g124 1076 0) (S 1100032 0) ∧ sm_SV (S 1100020) (S 48) (g124 1100029) (S 32) (S 33) (g124 1076 0) (S 1032 0) ∧ 0 ≤ (g124 1076 0) ∧ (g124 1076 0) ≤ 300 ∧ 0 ≤ (S 1084 0) ∧ (S 1084 0) ≤ 3000 ∧ 0 ≤ (S 1086 0) ∧ sm_SC (g124 1100029) (g124 44) (g124 45) (g124 43) (S 21) (g124 1076 0) (S 1032 0) ∧ sm_PO (g124 42) (g124 1076 0) ∧ ((g124 1075 0) = 0 → (S 1100032 0) = -1 ∧ sm_FO (g124 44) (g124 45) (g124 1076 0)) ∧ 23 ≤ (g124 1076 0) ∧ 31 ≤ (g11 1007 0) ∧ (g11 1007 0) ≤ 400 ∧ sm_LN (g11 4) 400 (g11 1007 0) ∧ (S 1008 0) ≤ (g11 1007 0) ∧ ((g11 1075 0) = 1 → (g124 1075 0) = 1) ∧ 0 ≤ (g124 1092 0) ∧ (g124 1092 0) ≤ 24 ∧ (g11 1007 0) ≤ (g11 1007 0) ∧ (¬ (g124 1075 0) = 0 → sm_LX (g124 58) (g124 63) (g124 64) (g124 1092 0) (g124 1076 0)) ∧ ((g124 1075 0) = 0 → (g124 1073 0) = 1 → 1 ≤ (g124 1092 0) ∧ (g124 1092 0) ≤ 24 ∧ 0 ≤ (g124 57 ((g124 1092 0) - 1)) ∧ (g124 57 ((g124 1092 0) - 1)) < (S 1046 0) ∧ (S 29 (g124 57 ((g124 1092 0) - 1))) = (S 53 ((g124 1092 0) - 1)) ∧ 0 ≤ (S 53 ((g124 1092 0) - 1)) ∧ (S 53 ((g124 1092 0) - 1)) < (S 1032 0) ∧ (g124 60 ((g124 1092 0) - 1)) = sm_dp (S 1100024) (S 1100023 (g124 57 ((g124 1092 0) - 1))) ∧ sm_TC (S 61) (S 62) (S 27) (S 1100007) (S 1100023) (S 1100024) (40 * ((g124 1092 0) - 1)) (S 1100023 (g124 57 ((g124 1092 0) - 1))) ∧ sm_LK (g124 1100029) (g124 1076 0) (S 54 ((g124 1092 0) - 1)) (S 53 ((g124 1092 0) - 1)) ∧ sm_VO (g124 44) (g124 1076 0) (g11 1007 0) ((S 55 ((g124 1092 0) - 1))) ((S 56 ((g124 1092 0) - 1))) ∧ sm_FW (g124 44) (g124 1076 0) (S 59 ((g124 1092 0) - 1)) ∧ sm_FL (S 53) (S 54) (S 55) (S 56) (g124 57) (g124 58) (S 59) (g124 60) (S 61) (S 62) (g124 63) (g124 64) (S 27) (S 29) (S 1100007) (S 1100023) (S 1100024) (S 1100025) (S 26) (g124 1100029) (g124 44) (S 1046 0) (S 1032 0) (g124 1076 0) (g11 1007 0) (((g124 1092 0) - 1)) ∧ (g124 58 ((g124 1092 0) - 1)) = (S 1100007 (g124 57 ((g124 1092 0) - 1))) ∧ sm_SK (g124 63) (g124 64) (g124 44) (S 1100007) (S 1100025) (g124 1076 0) (g11 1007 0) (400 * ((g124 1092 0) - 1)) ((g124 58 ((g124 1092 0) - 1))) ((S 1100025 (g124 57 ((g124 1092 0) - 1))))) ∧ ((g124 1073 0) = 1 ∨ (g124 1092 0) = 0 ∧ (g124 1075 0) = 0 ∧ ((g124 1073 0) = 2 ∨ (g124 1073 0) = 3)) ∧ ((g124 1073 0) = 1 ∨ (g124 1073 0) = 3)) → (sm_PL (S 1100020) (S 51) (S 52) (g124 46) (g124 47) (g124 1076 0) (S 1086 0) ∧ sm_FR (S 1100020) (S 52) (S 1100021) (S 1100022) (3000 - (S 1084 0)) (S 1085 0) ∧ sm_PV (S 1100020) (S 48) (S 49) (S 50) (g124 44) (g124 1076 0) (g11 1007 0) ∧ sm_AL (S 1100020) (S 48) (S 49) (S 50) (g124 44) (g124 1076 0) (S 1100032 0) ∧ sm_SV (S 1100020) (S 48) (g124 1100029) (S 32) (S 33) (g124 1076 0) (S 1032 0) ∧ 0 ≤ (g124 1076 0) ∧ (g124 1076 0) ≤ 300 ∧ 0 ≤ (S 1084 0) ∧ (S 1084 0) ≤ 3000 ∧ 0 ≤ (S 1086 0) ∧ sm_SC (g124 1100029) (g124 44) (g124 45) (g124 43) (S 21) (g124 1076 0) (S 1032 0) ∧ sm_PO (g124 42) (g124 1076 0) ∧ ((g124 1075 0) = 0 → (S 1100032 0) = -1 ∧ sm_FO (g124 44) (g124 45) (g124 1076 0)) ∧ 23 ≤ (g124 1076 0) ∧ 31 ≤ (g11 1007 0) ∧ (g11 1007 0) ≤ 400 ∧ sm_LN (g11 4) 400 (g11 1007 0) ∧ (S 1008 0) ≤ (g11 1007 0) ∧ ((S 1075 0) = 1 → (g124 1075 0) = 1) ∧ 0 ≤ (g124 1092 0) ∧ (g124 1092 0) ≤ 24 ∧ (S 1007 0) ≤ (g11 1007 0) ∧ (¬ (g124 1075 0) = 0 → sm_LX (g124 58) (g124 63) (g124 64) (g124 1092 0) (g124 1076 0)) ∧ ((g124 1075 0) = 0 → (g124 1073 0) = 1 → 1 ≤ (g124 1092 0) ∧ (g124 1092 0) ≤ 24 ∧ 0 ≤ (g124 57 ((g124 1092 0) - 1)) ∧ (g124 57 ((g124 1092 0) - 1)) < (S 1046 0) ∧ (S 29 (g124 57 ((g124 1092 0) - 1))) = (S 53 ((g124 1092 0) - 1)) ∧ 0 ≤ (S 53 ((g124 1092 0) - 1)) ∧ (S 53 ((g124 1092 0) - 1)) < (S 1032 0) ∧ (g124 60 ((g124 1092 0) - 1)) = sm_dp (S 1100024) (S 1100023 (g124 57 ((g124 1092 0) - 1))) ∧ sm_TC (S 61) (S 62) (S 27) (S 1100007) (S 1100023) (S 1100024) (40 * ((g124 1092 0) - 1)) (S 1100023 (g124 57 ((g124 1092 0) - 1))) ∧ sm_LK (g124 1100029) (g124 1076 0) (S 54 ((g124 1092 0) - 1)) (S 53 ((g124 1092 0) - 1)) ∧ sm_VO (g124 44) (g124 1076 0) (g11 1007 0) ((S 55 ((g124 1092 0) - 1))) ((S 56 ((g124 1092 0) - 1))) ∧ sm_FW (g124 44) (g124 1076 0) (S 59 ((g124 1092 0) - 1)) ∧ sm_FL (S 53) (S 54) (S 55) (S 56) (g124 57) (g124 58) (S 59) (g124 60) (S 61) (S 62) (g124 63) (g124 64) (S 27) (S 29) (S 1100007) (S 1100023) (S 1100024) (S 1100025) (S 26) (g124 1100029) (g124 44) (S 1046 0) (S 1032 0) (g124 1076 0) (g11 1007 0) (((g124 1092 0) - 1)) ∧ (g124 58 ((g124 1092 0) - 1)) = (S 1100007 (g124 57 ((g124 1092 0) - 1))) ∧ sm_SK (g124 63) (g124 64) (g124 44) (S 1100007) (S 1100025) (g124 1076 0) (g11 1007 0) (400 * ((g124 1092 0) - 1)) ((g124 58 ((g124 1092 0) - 1))) ((S 1100025 (g124 57 ((g124 1092 0) - 1))))) ∧ ((g124 1073 0) = 1 ∨ (g124 1092 0) = 0 ∧ (g124 1075 0) = 0 ∧ ((g124 1073 0) = 2 ∨ (g124 1073 0) = 3)) ∧ (S 1086 0) ≤ (S 1086 0) ∧ (S 1086 0) ≤ (S 1086 0) + 110))))) ∧ ((¬ ((g11 1075 0) = (0 : Int))) → (sm_PL (S 1100020) (S 51) (S 52) (S 46) (S 47) (S 1076 0) (S 1086 0) ∧ sm_FR (S 1100020) (S 52) (S 1100021) (S 1100022) (3000 - (S 1084 0)) (S 1085 0) ∧ sm_PV (S 1100020) (S 48) (S 49) (S 50) (S 44) (S 1076 0) (g11 1007 0) ∧ sm_AL (S 1100020) (S 48) (S 49) (S 50) (S 44) (S 1076 0) (S 1100032 0) ∧ sm_SV (S 1100020) (S 48) (S 1100029) (S 32) (S 33) (S 1076 0) (S 1032 0) ∧ 0 ≤ (S 1076 0) ∧ (S 1076 0) ≤ 300 ∧ 0 ≤ (S 1084 0) ∧ (S 1084 0) ≤ 3000 ∧ 0 ≤ (S 1086 0) ∧ sm_SC (S 1100029) (S 44) (S 45) (S 43) (S 21) (S 1076 0) (S 1032 0) ∧ sm_PO (S 42) (S 1076 0) ∧ ((g11 1075 0) = 0 → (S 1100032 0) = -1 ∧ sm_FO (S 44) (S 45) (S 1076 0)) ∧ 23 ≤ (S 1076 0) ∧ 31 ≤ (g11 1007 0) ∧ (g11 1007 0) ≤ 400 ∧ sm_LN (g11 4) 400 (g11 1007 0) ∧ (S 1008 0) ≤ (g11 1007 0) ∧ ((S 1075 0) = 1 → (g11 1075 0) = 1) ∧ 0 ≤ (S 1092 0) ∧ (S 1092 0) ≤ 24 ∧ (S 1007 0) ≤ (g11 1007 0) ∧ (¬ (g11 1075 0) = 0 → sm_LX (S 58) (S 63) (S 64) (S 1092 0) (S 1076 0)) ∧ ((g11 1075 0) = 0 → (S 1073 0) = 1 → 1 ≤ (S 1092 0) ∧ (S 1092 0) ≤ 24 ∧ 0 ≤ (S 57 ((S 1092 0) - 1)) ∧ (S 57 ((S 1092 0) - 1)) < (S 1046 0) ∧ (S 29 (S 57 ((S 1092 0) - 1))) = (S 53 ((S 1092 0) - 1)) ∧ 0 ≤ (S 53 ((S 1092 0) - 1)) ∧ (S 53 ((S 1092 0) - 1)) < (S 1032 0) ∧ (S 60 ((S 1092 0) - 1)) = sm_dp (S 1100024) (S 1100023 (S 57 ((S 1092 0) - 1))) ∧ sm_TC (S 61) (S 62) (S 27) (S 1100007) (S 1100023) (S 1100024) (40 * ((S 1092 0) - 1)) (S 1100023 (S 57 ((S 1092 0) - 1))) ∧ sm_LK (S 1100029) (S 1076 0) (S 54 ((S 1092 0) - 1)) (S 53 ((S 1092 0) - 1)) ∧ sm_VO (S 44) (S 1076 0) (g11 1007 0) ((S 55 ((S 1092 0) - 1))) ((S 56 ((S 1092 0) - 1))) ∧ sm_FW (S 44) (S 1076 0) (S 59 ((S 1092 0) - 1)) ∧ sm_FL (S 53) (S 54) (S 55) (S 56) (S 57) (S 58) (S 59) (S 60) (S 61) (S 62) (S 63) (S 64) (S 27) (S 29) (S 1100007) (S 1100023) (S 1100024) (S 1100025) (S 26) (S 1100029) (S 44) (S 1046 0) (S 1032 0) (S 1076 0) (g11 1007 0) (((S 1092 0) - 1)) ∧ (S 58 ((S 1092 0) - 1)) = (S 1100007 (S 57 ((S 1092 0) - 1))) ∧ sm_SK (S 63) (S 64) (S 44) (S 1100007) (S 1100025) (S 1076 0) (g11 1007 0) (400 * ((S 1092 0) - 1)) ((S 58 ((S 1092 0) - 1))) ((S 1100025 (S 57 ((S 1092 0) - 1))))) ∧ ((S 1073 0) = 1 ∨ (S 1092 0) = 0 ∧ (g11 1075 0) = 0 ∧ ((S 1073 0) = 2 ∨ (S 1073 0) = 3)) ∧ (S 1086 0) ≤ (S 1086 0) ∧ (S 1086 0) ≤ (S 1086 0) + 110)))))))))) := by
  intro S
  intro h1_
  rintro ⟨h2_, ⟨h3_, ⟨h4_, ⟨h5_, ⟨h6_, ⟨h7_, ⟨h8_, ⟨h9_, ⟨h10_, ⟨h11_, ⟨h12_, ⟨h13_, ⟨h14_, ⟨h15_, ⟨h16_, ⟨h17_, ⟨h18_, ⟨h19_, ⟨h20_, ⟨h21_, ⟨h22_, ⟨h23_, ⟨h24_, ⟨h25_, ⟨h26_, ⟨h27_, ⟨h28_, ⟨h29_, ⟨h30_, ⟨h31_, ⟨h32_, ⟨h33_, ⟨h34_, ⟨h35_, ⟨h36_, ⟨h37_, ⟨h38_, ⟨h39_, ⟨h40_, ⟨h41_, ⟨h42_, ⟨h43_, ⟨h44_, ⟨h45_, ⟨h46_, ⟨h47_, ⟨h48_, ⟨h49_, ⟨h50_, ⟨h51_, ⟨h52_, ⟨h53_, ⟨h54_, ⟨h55_, ⟨h56_, ⟨h57_, ⟨h58_, ⟨h59_, ⟨h60_, ⟨h61_, ⟨h62_, ⟨h63_, ⟨h64_, h65_⟩⟩⟩⟩⟩⟩⟩⟩⟩⟩⟩⟩⟩⟩⟩⟩⟩⟩⟩⟩⟩⟩⟩⟩⟩⟩⟩⟩⟩⟩⟩⟩⟩⟩⟩⟩⟩⟩⟩⟩⟩⟩⟩⟩⟩⟩⟩⟩⟩⟩⟩⟩⟩⟩⟩⟩⟩⟩⟩⟩⟩⟩⟩
  intro h66_
  have h67_ := (h66_ h50_)
  have h68_ := (h67_ h24_)
  have h69_ := (h68_ (la_putInto_0 h58_))
  have h70_ := (h69_ la_putInto_1)
  have h71_ := (h70_ h52_)
  have h72_ := (h71_ h53_)
  have h73_ := (h72_ h59_)
  intro h74_
  have h75_ := (h74_ h50_)
  have h76_ := (h75_ h24_)
  have h77_ := (h76_ (la_putInto_2 h58_))
  have h78_ := (h77_ la_putInto_3)
  have h79_ := (h78_ h52_)
  have h80_ := (h79_ h53_)
  have h81_ := (h80_ h59_)
  intro h82_
  have h83_ := (h82_ h50_)
  have h84_ := (h83_ h24_)
  have h85_ := (h84_ (la_putInto_4 h58_))
  have h86_ := (h85_ la_putInto_5)
  have h87_ := (h86_ h52_)
  have h88_ := (h87_ h53_)
  have h89_ := (h88_ h59_)
  refine ⟨(la_putInto_6 h34_ h35_ h57_ h58_), ?_⟩
  intro x5
  intro h90_
  intro x7
  intro h91_
  refine ⟨(la_putInto_7 h34_ h35_ h57_ h58_), ?_⟩
  refine ⟨?_, ?_⟩
  · skip
    refine ⟨h20_, ?_⟩
    refine ⟨h21_, ?_⟩
    refine ⟨h22_, ?_⟩
    intro h92_
    refine ⟨?_, ?_⟩
    · skip
      have e93_ : S 63 (400 * (S 1092 0 - 1) + S 58 (S 1092 0 - 1) - 1 - 1) = S 63 (400 * (S 1092 0 - 1) + (S 58 (S 1092 0 - 1) - 2)) := congrArg ((S 63)) la_putInto_8
      have e94_ : S 63 (400 * (S 1092 0 - 1) + S 58 (S 1092 0 - 1) - 1 - 2) = S 63 (400 * (S 1092 0 - 1) + (S 58 (S 1092 0 - 1) - 3)) := congrArg ((S 63)) la_putInto_9
      have e95_ : S 64 (400 * (S 1092 0 - 1) + S 58 (S 1092 0 - 1) - 1 - 1) = S 64 (400 * (S 1092 0 - 1) + (S 58 (S 1092 0 - 1) - 2)) := congrArg ((S 64)) la_putInto_8
      have e96_ : S 64 (400 * (S 1092 0 - 1) + S 58 (S 1092 0 - 1) - 1 - 2) = S 64 (400 * (S 1092 0 - 1) + (S 58 (S 1092 0 - 1) - 3)) := congrArg ((S 64)) la_putInto_9
      obtain ⟨h97_, h98_⟩ := ((sm_VO_e h81_).2.2.1 (la_putInto_10 h92_ e93_))
      exact (la_putInto_12 e95_ h97_)
    have e99_ : S 63 (400 * (S 1092 0 - 1) + S 58 (S 1092 0 - 1) - 1 - 1) = S 63 (400 * (S 1092 0 - 1) + (S 58 (S 1092 0 - 1) - 2)) := congrArg ((S 63)) la_putInto_8
    have e100_ : S 63 (400 * (S 1092 0 - 1) + S 58 (S 1092 0 - 1) - 1 - 2) = S 63 (400 * (S 1092 0 - 1) + (S 58 (S 1092 0 - 1) - 3)) := congrArg ((S 63)) la_putInto_9
    have e101_ : S 64 (400 * (S 1092 0 - 1) + S 58 (S 1092 0 - 1) - 1 - 1) = S 64 (400 * (S 1092 0 - 1) + (S 58 (S 1092 0 - 1) - 2)) := congrArg ((S 64)) la_putInto_8
    have e102_ : S 64 (400 * (S 1092 0 - 1) + S 58 (S 1092 0 - 1) - 1 - 2) = S 64 (400 * (S 1092 0 - 1) + (S 58 (S 1092 0 - 1) - 3)) := congrArg ((S 64)) la_putInto_9
    obtain ⟨h103_, h104_⟩ := ((sm_VO_e h81_).2.2.1 (la_putInto_10 h92_ e99_))
    exact (la_putInto_13 e101_ h104_)
  intro r15
  intro h105_
  intro g11
  rintro ⟨h106_, ⟨h107_, ⟨h108_, ⟨h109_, ⟨h110_, ⟨h111_, h112_⟩⟩⟩⟩⟩⟩
  rintro ⟨h113_, h114_⟩
  refine ⟨?_, ?_⟩
  · skip
    intro h115_
    refine ⟨?_, ?_⟩
    · skip
      intro h116_
      refine ⟨?_, ?_⟩
      · skip
        intro s18
        intro h117_
        rintro ⟨h118_, h119_⟩
        refine ⟨?_, ?_⟩
        · skip
          intro h120_
          refine ⟨(la_putInto_15 h34_ h35_ h57_ h58_), ?_⟩
          intro g21
          rintro ⟨h121_, h122_⟩
          refine ⟨?_, ?_⟩
          · skip
            refine ⟨?_, ?_⟩
            · skip
              intro h123_
              intro h124_
              refine ⟨h5_, ?_⟩
              refine ⟨h6_, ?_⟩
              refine ⟨(sm_PV_m h7_ (Int.le_refl _) h109_ sm_F1_rf), ?_⟩
              refine ⟨h8_, ?_⟩
              refine ⟨h9_, ?_⟩
              refine ⟨h10_, ?_⟩
              refine ⟨h11_, ?_⟩
              refine ⟨h12_, ?_⟩
              refine ⟨h13_, ?_⟩
              refine ⟨h14_, ?_⟩
              refine ⟨h15_, ?_⟩
              refine ⟨h16_, ?_⟩
              refine ⟨h17_, ?_⟩
              refine ⟨h18_, ?_⟩
              refine ⟨h19_, ?_⟩
              refine ⟨(la_putInto_16 h20_ h109_), ?_⟩
              refine ⟨h110_, ?_⟩
              refine ⟨h111_, ?_⟩
              refine ⟨h23_, ?_⟩
              refine ⟨h24_, ?_⟩
              refine ⟨h25_, ?_⟩
              refine ⟨h26_, ?_⟩
              refine ⟨h27_, ?_⟩
              refine ⟨h28_, ?_⟩
              refine ⟨h29_, ?_⟩
              refine ⟨h30_, ?_⟩
              refine ⟨(la_putInto_17 h31_ h109_), ?_⟩
              refine ⟨h32_, ?_⟩
              refine ⟨h33_, ?_⟩
              refine ⟨h34_, ?_⟩
              refine ⟨h35_, ?_⟩
              refine ⟨h36_, ?_⟩
              refine ⟨h37_, ?_⟩
              refine ⟨h38_, ?_⟩
              refine ⟨h39_, ?_⟩
              refine ⟨h40_, ?_⟩
              refine ⟨h41_, ?_⟩
              refine ⟨h42_, ?_⟩
              refine ⟨h43_, ?_⟩
              refine ⟨(sm_VO_m h44_ (Int.le_refl _) h109_ sm_F1_rf), ?_⟩
              refine ⟨h45_, ?_⟩
              refine ⟨(sm_FL_F h46_ sm_F1_rf sm_F1_rf sm_F1_rf sm_F1_rf sm_F1_rf sm_F1_rf sm_F1_rf sm_F1_rf sm_F1_rf sm_F1_rf sm_F1_rf sm_F1_rf (Int.le_refl _) h109_ sm_F1_rf sm_F1_rf (sm_FL_dp h46_ h23_)), ?_⟩
              refine ⟨h47_, ?_⟩
              refine ⟨h48_, ?_⟩
              refine ⟨h49_, ?_⟩
              refine ⟨(sm_SK_m h50_ (Int.le_refl _) h109_ sm_F1_rf), ?_⟩
              refine ⟨h51_, ?_⟩
              refine ⟨h52_, ?_⟩
              refine ⟨h53_, ?_⟩
              refine ⟨la_putInto_19, ?_⟩
              refine ⟨h58_, ?_⟩
              refine ⟨(la_putInto_20 h57_), ?_⟩
              refine ⟨?_, ?_⟩
              · skip
                have e125_ : S 63 (400 * (S 1092 0 - 1) + S 58 (S 1092 0 - 1) - 1 - 0) = S 63 (400 * (S 1092 0 - 1) + (S 58 (S 1092 0 - 1) - 1)) := congrArg ((S 63)) la_putInto_22
                have e126_ : S 63 (400 * (S 1092 0 - 1) + S 58 (S 1092 0 - 1) - 1 - 1) = S 63 (400 * (S 1092 0 - 1) + (S 58 (S 1092 0 - 1) - 2)) := congrArg ((S 63)) la_putInto_8
                have e127_ : S 63 (400 * (S 1092 0 - 1) + S 58 (S 1092 0 - 1) - 1 - 2) = S 63 (400 * (S 1092 0 - 1) + (S 58 (S 1092 0 - 1) - 3)) := congrArg ((S 63)) la_putInto_9
                have e128_ : S 64 (400 * (S 1092 0 - 1) + S 58 (S 1092 0 - 1) - 1 - 0) = S 64 (400 * (S 1092 0 - 1) + (S 58 (S 1092 0 - 1) - 1)) := congrArg ((S 64)) la_putInto_22
                have e129_ : S 64 (400 * (S 1092 0 - 1) + S 58 (S 1092 0 - 1) - 1 - 1) = S 64 (400 * (S 1092 0 - 1) + (S 58 (S 1092 0 - 1) - 2)) := congrArg ((S 64)) la_putInto_8
                have e130_ : S 64 (400 * (S 1092 0 - 1) + S 58 (S 1092 0 - 1) - 1 - 2) = S 64 (400 * (S 1092 0 - 1) + (S 58 (S 1092 0 - 1) - 3)) := congrArg ((S 64)) la_putInto_9
                exact (sm_VO_eq (sm_VO_m h73_ (Int.le_refl _) h109_ sm_F1_rf) (la_putInto_26 h121_ e125_) (la_putInto_26 h122_ e128_))
              refine ⟨h59_, ?_⟩
              refine ⟨h60_, ?_⟩
              refine ⟨h61_, ?_⟩
              refine ⟨(la_putInto_27 h62_), ?_⟩
              refine ⟨h63_, ?_⟩
              exact h64_
            intro h131_
            have h132_ := (h108_ (la_putInto_30 h115_ (la_putInto_29 (la_putInto_28 h115_) h131_)))
            have h133_ := (h132_ (la_putInto_31 h115_ (la_putInto_29 (la_putInto_28 h115_) h131_)))
            have h134_ := (h133_ (la_putInto_32 h115_ (la_putInto_29 (la_putInto_28 h115_) h131_)))
            have h135_ := (h134_ h115_)
            exact h4_
          intro g27
          rintro ⟨h136_, h137_⟩
          have h138_ := (h136_ h115_)
          obtain ⟨h139_, ⟨h140_, ⟨h141_, ⟨h142_, ⟨h143_, ⟨h144_, ⟨h145_, ⟨h146_, ⟨h147_, ⟨h148_, ⟨h149_, ⟨h150_, ⟨h151_, ⟨h152_, h153_⟩⟩⟩⟩⟩⟩⟩⟩⟩⟩⟩⟩⟩⟩ := (h138_ h3_)
          refine ⟨h5_, ?_⟩
          refine ⟨h6_, ?_⟩
          refine ⟨(sm_PV_m h7_ (Int.le_refl _) h109_ sm_F1_rf), ?_⟩
          refine ⟨h8_, ?_⟩
          refine ⟨h9_, ?_⟩
          refine ⟨h10_, ?_⟩
          refine ⟨h11_, ?_⟩
          refine ⟨h12_, ?_⟩
          refine ⟨h13_, ?_⟩
          refine ⟨h14_, ?_⟩
          refine ⟨h15_, ?_⟩
          refine ⟨h16_, ?_⟩
          refine ⟨?_, ?_⟩
          · skip
            intro h154_
            refine ⟨h17_, ?_⟩
            exact h18_
          refine ⟨h19_, ?_⟩
          refine ⟨(la_putInto_16 h20_ h109_), ?_⟩
          refine ⟨h110_, ?_⟩
          refine ⟨h111_, ?_⟩
          refine ⟨(la_putInto_17 h31_ h109_), ?_⟩
          refine ⟨h112_, ?_⟩
          refine ⟨(la_putInto_34 h34_), ?_⟩
          refine ⟨h35_, ?_⟩
          refine ⟨h109_, ?_⟩
          refine ⟨h137_, ?_⟩
          refine ⟨h136_, ?_⟩
          refine ⟨(la_putInto_35 h3_ h34_ h113_ h115_), ?_⟩
          refine ⟨la_putInto_18, ?_⟩
          exact la_putInto_36
        intro h155_
        refine ⟨?_, ?_⟩
        · skip
          intro h156_
          have h157_ := (h118_.resolve_left h156_)
          refine ⟨(la_putInto_15 h34_ h35_ h57_ h58_), ?_⟩
          intro g33
          rintro ⟨h158_, h159_⟩
          refine ⟨?_, ?_⟩
          · skip
            refine ⟨?_, ?_⟩
            · skip
              intro h160_
              intro h161_
              refine ⟨h5_, ?_⟩
              refine ⟨h6_, ?_⟩
              refine ⟨(sm_PV_m h7_ (Int.le_refl _) h109_ sm_F1_rf), ?_⟩
              refine ⟨h8_, ?_⟩
              refine ⟨h9_, ?_⟩
              refine ⟨h10_, ?_⟩
              refine ⟨h11_, ?_⟩
              refine ⟨h12_, ?_⟩
              refine ⟨h13_, ?_⟩
              refine ⟨h14_, ?_⟩
              refine ⟨h15_, ?_⟩
              refine ⟨h16_, ?_⟩
              refine ⟨h17_, ?_⟩
              refine ⟨h18_, ?_⟩
              refine ⟨h19_, ?_⟩
              refine ⟨(la_putInto_16 h20_ h109_), ?_⟩
              refine ⟨h110_, ?_⟩
              refine ⟨h111_, ?_⟩
              refine ⟨h23_, ?_⟩
              refine ⟨h24_, ?_⟩
              refine ⟨h25_, ?_⟩
              refine ⟨h26_, ?_⟩
              refine ⟨h27_, ?_⟩
              refine ⟨h28_, ?_⟩
              refine ⟨h29_, ?_⟩
              refine ⟨h30_, ?_⟩
              refine ⟨(la_putInto_17 h31_ h109_), ?_⟩
              refine ⟨h32_, ?_⟩
              refine ⟨h33_, ?_⟩
              refine ⟨h34_, ?_⟩
              refine ⟨h35_, ?_⟩
              refine ⟨h36_, ?_⟩
              refine ⟨h37_, ?_⟩
              refine ⟨h38_, ?_⟩
              refine ⟨h39_, ?_⟩
              refine ⟨h40_, ?_⟩
              refine ⟨h41_, ?_⟩
              refine ⟨h42_, ?_⟩
              refine ⟨h43_, ?_⟩
              refine ⟨(sm_VO_m h44_ (Int.le_refl _) h109_ sm_F1_rf), ?_⟩
              refine ⟨h45_, ?_⟩
              refine ⟨(sm_FL_F h46_ sm_F1_rf sm_F1_rf sm_F1_rf sm_F1_rf sm_F1_rf sm_F1_rf sm_F1_rf sm_F1_rf sm_F1_rf sm_F1_rf sm_F1_rf sm_F1_rf (Int.le_refl _) h109_ sm_F1_rf sm_F1_rf (sm_FL_dp h46_ h23_)), ?_⟩
              refine ⟨h47_, ?_⟩
              refine ⟨h48_, ?_⟩
              refine ⟨h49_, ?_⟩
              refine ⟨(sm_SK_m h50_ (Int.le_refl _) h109_ sm_F1_rf), ?_⟩
              refine ⟨h51_, ?_⟩
              refine ⟨h52_, ?_⟩
              refine ⟨h53_, ?_⟩
              refine ⟨la_putInto_19, ?_⟩
              refine ⟨h58_, ?_⟩
              refine ⟨(la_putInto_20 h57_), ?_⟩
              refine ⟨?_, ?_⟩
              · skip
                have e162_ : S 63 (400 * (S 1092 0 - 1) + S 58 (S 1092 0 - 1) - 1 - 0) = S 63 (400 * (S 1092 0 - 1) + (S 58 (S 1092 0 - 1) - 1)) := congrArg ((S 63)) la_putInto_22
                have e163_ : S 63 (400 * (S 1092 0 - 1) + S 58 (S 1092 0 - 1) - 1 - 1) = S 63 (400 * (S 1092 0 - 1) + (S 58 (S 1092 0 - 1) - 2)) := congrArg ((S 63)) la_putInto_8
                have e164_ : S 63 (400 * (S 1092 0 - 1) + S 58 (S 1092 0 - 1) - 1 - 2) = S 63 (400 * (S 1092 0 - 1) + (S 58 (S 1092 0 - 1) - 3)) := congrArg ((S 63)) la_putInto_9
                have e165_ : S 64 (400 * (S 1092 0 - 1) + S 58 (S 1092 0 - 1) - 1 - 0) = S 64 (400 * (S 1092 0 - 1) + (S 58 (S 1092 0 - 1) - 1)) := congrArg ((S 64)) la_putInto_22
                have e166_ : S 64 (400 * (S 1092 0 - 1) + S 58 (S 1092 0 - 1) - 1 - 1) = S 64 (400 * (S 1092 0 - 1) + (S 58 (S 1092 0 - 1) - 2)) := congrArg ((S 64)) la_putInto_8
                have e167_ : S 64 (400 * (S 1092 0 - 1) + S 58 (S 1092 0 - 1) - 1 - 2) = S 64 (400 * (S 1092 0 - 1) + (S 58 (S 1092 0 - 1) - 3)) := congrArg ((S 64)) la_putInto_9
                obtain ⟨h168_, ⟨h169_, h170_⟩⟩ := ((sm_VO_e h89_).2.2.2 (la_putInto_40 (sm_VO_e h89_).2.1 h90_ h155_ e164_))
                exact (sm_VO_eq (sm_VO_m h73_ (Int.le_refl _) h109_ sm_F1_rf) (la_putInto_26 h158_ e162_) (la_putInto_26 h159_ e165_))
              refine ⟨h59_, ?_⟩
              refine ⟨h60_, ?_⟩
              refine ⟨h61_, ?_⟩
              refine ⟨(la_putInto_27 h62_), ?_⟩
              refine ⟨h63_, ?_⟩
              exact h64_
            intro h171_
            have h172_ := (h108_ (la_putInto_30 h115_ (la_putInto_29 (la_putInto_28 h115_) h171_)))
            have h173_ := (h172_ (la_putInto_31 h115_ (la_putInto_29 (la_putInto_28 h115_) h171_)))
            have h174_ := (h173_ (la_putInto_32 h115_ (la_putInto_29 (la_putInto_28 h115_) h171_)))
            have h175_ := (h174_ h115_)
            exact h4_
          intro g39
          rintro ⟨h176_, h177_⟩
          have h178_ := (h176_ h115_)
          obtain ⟨h179_, ⟨h180_, ⟨h181_, ⟨h182_, ⟨h183_, ⟨h184_, ⟨h185_, ⟨h186_, ⟨h187_, ⟨h188_, ⟨h189_, ⟨h190_, ⟨h191_, ⟨h192_, h193_⟩⟩⟩⟩⟩⟩⟩⟩⟩⟩⟩⟩⟩⟩ := (h178_ h3_)
          refine ⟨h5_, ?_⟩
          refine ⟨h6_, ?_⟩
          refine ⟨(sm_PV_m h7_ (Int.le_refl _) h109_ sm_F1_rf), ?_⟩
          refine ⟨h8_, ?_⟩
          refine ⟨h9_, ?_⟩
          refine ⟨h10_, ?_⟩
          refine ⟨h11_, ?_⟩
          refine ⟨h12_, ?_⟩
          refine ⟨h13_, ?_⟩
          refine ⟨h14_, ?_⟩
          refine ⟨h15_, ?_⟩
          refine ⟨h16_, ?_⟩
          refine ⟨?_, ?_⟩
          · skip
            intro h194_
            refine ⟨h17_, ?_⟩
            exact h18_
          refine ⟨h19_, ?_⟩
          refine ⟨(la_putInto_16 h20_ h109_), ?_⟩
          refine ⟨h110_, ?_⟩
          refine ⟨h111_, ?_⟩
          refine ⟨(la_putInto_17 h31_ h109_), ?_⟩
          refine ⟨h112_, ?_⟩
          refine ⟨(la_putInto_34 h34_), ?_⟩
          refine ⟨h35_, ?_⟩
          refine ⟨h109_, ?_⟩
          refine ⟨h177_, ?_⟩
          refine ⟨h176_, ?_⟩
          refine ⟨(la_putInto_35 h3_ h34_ h113_ h115_), ?_⟩
          refine ⟨la_putInto_18, ?_⟩
          exact la_putInto_36
        intro h195_
        have h196_ := (h118_.resolve_right (la_putInto_41 h195_))
        have h197_ := (h119_ h196_)
        have h198_ : ¬ (S 44 x7 = 2 ∧ r15 = 0) := fun q_ => h197_ ⟨(la_putInto_42 h155_), q_⟩
        refine ⟨(la_putInto_15 h34_ h35_ h57_ h58_), ?_⟩
        refine ⟨?_, ?_⟩
        · skip
          refine ⟨h5_, ?_⟩
          refine ⟨h6_, ?_⟩
          refine ⟨(sm_PV_m h7_ (Int.le_refl _) h109_ sm_F1_rf), ?_⟩
          refine ⟨h8_, ?_⟩
          refine ⟨h9_, ?_⟩
          refine ⟨h10_, ?_⟩
          refine ⟨h11_, ?_⟩
          refine ⟨h12_, ?_⟩
          refine ⟨h13_, ?_⟩
          refine ⟨h14_, ?_⟩
          refine ⟨?_, ?_⟩
          · skip
            have e199_ : S 63 (400 * (S 1092 0 - 1) + S 58 (S 1092 0 - 1) - 1 - 1) = S 63 (400 * (S 1092 0 - 1) + (S 58 (S 1092 0 - 1) - 2)) := congrArg ((S 63)) la_putInto_8
            have e200_ : S 63 (400 * (S 1092 0 - 1) + S 58 (S 1092 0 - 1) - 1 - 2) = S 63 (400 * (S 1092 0 - 1) + (S 58 (S 1092 0 - 1) - 3)) := congrArg ((S 63)) la_putInto_9
            have e201_ : S 64 (400 * (S 1092 0 - 1) + S 58 (S 1092 0 - 1) - 1 - 1) = S 64 (400 * (S 1092 0 - 1) + (S 58 (S 1092 0 - 1) - 2)) := congrArg ((S 64)) la_putInto_8
            have e202_ : S 64 (400 * (S 1092 0 - 1) + S 58 (S 1092 0 - 1) - 1 - 2) = S 64 (400 * (S 1092 0 - 1) + (S 58 (S 1092 0 - 1) - 3)) := congrArg ((S 64)) la_putInto_9
            obtain ⟨h203_, ⟨h204_, h205_⟩⟩ := ((sm_VO_e h89_).2.2.2 (la_putInto_40 (sm_VO_e h89_).2.1 h90_ h155_ e200_))
            exact (la_putInto_43 h91_ e202_ h203_)
          refine ⟨?_, ?_⟩
          · skip
            have e206_ : S 63 (400 * (S 1092 0 - 1) + S 58 (S 1092 0 - 1) - 1 - 1) = S 63 (400 * (S 1092 0 - 1) + (S 58 (S 1092 0 - 1) - 2)) := congrArg ((S 63)) la_putInto_8
            have e207_ : S 63 (400 * (S 1092 0 - 1) + S 58 (S 1092 0 - 1) - 1 - 2) = S 63 (400 * (S 1092 0 - 1) + (S 58 (S 1092 0 - 1) - 3)) := congrArg ((S 63)) la_putInto_9
            have e208_ : S 64 (400 * (S 1092 0 - 1) + S 58 (S 1092 0 - 1) - 1 - 1) = S 64 (400 * (S 1092 0 - 1) + (S 58 (S 1092 0 - 1) - 2)) := congrArg ((S 64)) la_putInto_8
            have e209_ : S 64 (400 * (S 1092 0 - 1) + S 58 (S 1092 0 - 1) - 1 - 2) = S 64 (400 * (S 1092 0 - 1) + (S 58 (S 1092 0 - 1) - 3)) := congrArg ((S 64)) la_putInto_9
            obtain ⟨h210_, ⟨h211_, h212_⟩⟩ := ((sm_VO_e h89_).2.2.2 (la_putInto_40 (sm_VO_e h89_).2.1 h90_ h155_ e207_))
            exact (la_putInto_44 h91_ e209_ h211_)
          refine ⟨h106_, ?_⟩
          refine ⟨h107_, ?_⟩
          refine ⟨?_, ?_⟩
          · skip
            have e213_ : S 63 (400 * (S 1092 0 - 1) + S 58 (S 1092 0 - 1) - 1 - 0) = S 63 (400 * (S 1092 0 - 1) + (S 58 (S 1092 0 - 1) - 1)) := congrArg ((S 63)) la_putInto_22
            have e214_ : S 63 (400 * (S 1092 0 - 1) + S 58 (S 1092 0 - 1) - 1 - 1) = S 63 (400 * (S 1092 0 - 1) + (S 58 (S 1092 0 - 1) - 2)) := congrArg ((S 63)) la_putInto_8
            have e215_ : S 63 (400 * (S 1092 0 - 1) + S 58 (S 1092 0 - 1) - 1 - 2) = S 63 (400 * (S 1092 0 - 1) + (S 58 (S 1092 0 - 1) - 3)) := congrArg ((S 63)) la_putInto_9
            have e216_ : S 64 (400 * (S 1092 0 - 1) + S 58 (S 1092 0 - 1) - 1 - 0) = S 64 (400 * (S 1092 0 - 1) + (S 58 (S 1092 0 - 1) - 1)) := congrArg ((S 64)) la_putInto_22
            have e217_ : S 64 (400 * (S 1092 0 - 1) + S 58 (S 1092 0 - 1) - 1 - 1) = S 64 (400 * (S 1092 0 - 1) + (S 58 (S 1092 0 - 1) - 2)) := congrArg ((S 64)) la_putInto_8
            have e218_ : S 64 (400 * (S 1092 0 - 1) + S 58 (S 1092 0 - 1) - 1 - 2) = S 64 (400 * (S 1092 0 - 1) + (S 58 (S 1092 0 - 1) - 3)) := congrArg ((S 64)) la_putInto_9
            obtain ⟨h219_, ⟨h220_, h221_⟩⟩ := ((sm_VO_e h89_).2.2.2 (la_putInto_40 (sm_VO_e h89_).2.1 h90_ h155_ e215_))
            exact (sm_VO_eq (sm_VO_m h73_ (Int.le_refl _) h109_ sm_F1_rf) e213_ e216_)
          refine ⟨(la_putInto_45 h106_ h198_), ?_⟩
          exact (la_putInto_46 h65_)
        intro g46
        rintro ⟨h222_, ⟨h223_, ⟨h224_, ⟨h225_, ⟨h226_, ⟨h227_, ⟨h228_, ⟨h229_, ⟨h230_, ⟨h231_, ⟨h232_, ⟨h233_, ⟨h234_, ⟨h235_, ⟨h236_, ⟨h237_, h238_⟩⟩⟩⟩⟩⟩⟩⟩⟩⟩⟩⟩⟩⟩⟩⟩
        refine ⟨?_, ?_⟩
        · skip
          intro s51
          intro h239_
          rintro ⟨h240_, ⟨h241_, h242_⟩⟩
          rintro ⟨h243_, h244_⟩
          refine ⟨?_, ?_⟩
          · skip
            intro h245_
            have h246_ : ¬ (S 1084 0 < 3000) := fun q_ => (la_putInto_47 h115_ (la_putInto_38 h243_ h245_)) (h237_ q_)
            intro g54
            rintro ⟨h247_, h248_⟩
            refine ⟨?_, ?_⟩
            · skip
              refine ⟨?_, ?_⟩
              · skip
                intro h249_
                intro h250_
                refine ⟨h222_, ?_⟩
                refine ⟨h223_, ?_⟩
                refine ⟨h224_, ?_⟩
                refine ⟨h225_, ?_⟩
                refine ⟨h226_, ?_⟩
                refine ⟨h10_, ?_⟩
                refine ⟨h11_, ?_⟩
                refine ⟨h229_, ?_⟩
                refine ⟨h230_, ?_⟩
                refine ⟨h231_, ?_⟩
                refine ⟨h15_, ?_⟩
                refine ⟨h16_, ?_⟩
                refine ⟨h17_, ?_⟩
                refine ⟨h18_, ?_⟩
                refine ⟨h19_, ?_⟩
                refine ⟨(la_putInto_16 h20_ h109_), ?_⟩
                refine ⟨h110_, ?_⟩
                refine ⟨h111_, ?_⟩
                refine ⟨h23_, ?_⟩
                refine ⟨h24_, ?_⟩
                refine ⟨h25_, ?_⟩
                refine ⟨h26_, ?_⟩
                refine ⟨h27_, ?_⟩
                refine ⟨h28_, ?_⟩
                refine ⟨h29_, ?_⟩
                refine ⟨h30_, ?_⟩
                refine ⟨(la_putInto_17 h31_ h109_), ?_⟩
                refine ⟨h32_, ?_⟩
                refine ⟨h33_, ?_⟩
                refine ⟨h34_, ?_⟩
                refine ⟨h35_, ?_⟩
                refine ⟨h36_, ?_⟩
                refine ⟨h37_, ?_⟩
                refine ⟨h38_, ?_⟩
                refine ⟨h39_, ?_⟩
                refine ⟨h40_, ?_⟩
                refine ⟨h41_, ?_⟩
                refine ⟨h42_, ?_⟩
                refine ⟨h43_, ?_⟩
                refine ⟨(sm_VO_m h44_ (Int.le_refl _) h109_ sm_F1_rf), ?_⟩
                refine ⟨h45_, ?_⟩
                refine ⟨(sm_FL_F h46_ sm_F1_rf sm_F1_rf sm_F1_rf sm_F1_rf sm_F1_rf sm_F1_rf sm_F1_rf sm_F1_rf sm_F1_rf sm_F1_rf sm_F1_rf sm_F1_rf (Int.le_refl _) h109_ sm_F1_rf sm_F1_rf (sm_FL_dp h46_ h23_)), ?_⟩
                refine ⟨h47_, ?_⟩
                refine ⟨h48_, ?_⟩
                refine ⟨h49_, ?_⟩
                refine ⟨(sm_SK_m h50_ (Int.le_refl _) h109_ sm_F1_rf), ?_⟩
                refine ⟨h51_, ?_⟩
                refine ⟨h52_, ?_⟩
                refine ⟨h53_, ?_⟩
                refine ⟨la_putInto_19, ?_⟩
                refine ⟨h58_, ?_⟩
                refine ⟨(la_putInto_20 h57_), ?_⟩
                refine ⟨?_, ?_⟩
                · skip
                  have e251_ : S 63 (400 * (S 1092 0 - 1) + S 58 (S 1092 0 - 1) - 1 - 0) = S 63 (400 * (S 1092 0 - 1) + (S 58 (S 1092 0 - 1) - 1)) := congrArg ((S 63)) la_putInto_22
                  have e252_ : S 63 (400 * (S 1092 0 - 1) + S 58 (S 1092 0 - 1) - 1 - 1) = S 63 (400 * (S 1092 0 - 1) + (S 58 (S 1092 0 - 1) - 2)) := congrArg ((S 63)) la_putInto_8
                  have e253_ : S 63 (400 * (S 1092 0 - 1) + S 58 (S 1092 0 - 1) - 1 - 2) = S 63 (400 * (S 1092 0 - 1) + (S 58 (S 1092 0 - 1) - 3)) := congrArg ((S 63)) la_putInto_9
                  have e254_ : S 64 (400 * (S 1092 0 - 1) + S 58 (S 1092 0 - 1) - 1 - 0) = S 64 (400 * (S 1092 0 - 1) + (S 58 (S 1092 0 - 1) - 1)) := congrArg ((S 64)) la_putInto_22
                  have e255_ : S 64 (400 * (S 1092 0 - 1) + S 58 (S 1092 0 - 1) - 1 - 1) = S 64 (400 * (S 1092 0 - 1) + (S 58 (S 1092 0 - 1) - 2)) := congrArg ((S 64)) la_putInto_8
                  have e256_ : S 64 (400 * (S 1092 0 - 1) + S 58 (S 1092 0 - 1) - 1 - 2) = S 64 (400 * (S 1092 0 - 1) + (S 58 (S 1092 0 - 1) - 3)) := congrArg ((S 64)) la_putInto_9
                  obtain ⟨h257_, ⟨h258_, h259_⟩⟩ := ((sm_VO_e h89_).2.2.2 (la_putInto_40 (sm_VO_e h89_).2.1 h90_ h155_ e253_))
                  exact (sm_VO_eq (sm_VO_m h73_ (Int.le_refl _) h109_ sm_F1_rf) (la_putInto_26 h247_ e251_) (la_putInto_26 h248_ e254_))
                refine ⟨h59_, ?_⟩
                refine ⟨h60_, ?_⟩
                refine ⟨h61_, ?_⟩
                refine ⟨(la_putInto_27 h62_), ?_⟩
                refine ⟨h63_, ?_⟩
                exact h64_
              intro h260_
              exact h4_
            intro g60
            rintro ⟨h261_, h262_⟩
            have h263_ := (h262_ h245_)
            refine ⟨h222_, ?_⟩
            refine ⟨h223_, ?_⟩
            refine ⟨h224_, ?_⟩
            refine ⟨h225_, ?_⟩
            refine ⟨h226_, ?_⟩
            refine ⟨h10_, ?_⟩
            refine ⟨h11_, ?_⟩
            refine ⟨h229_, ?_⟩
            refine ⟨h230_, ?_⟩
            refine ⟨h231_, ?_⟩
            refine ⟨h15_, ?_⟩
            refine ⟨h16_, ?_⟩
            refine ⟨?_, ?_⟩
            · skip
              intro h264_
              refine ⟨h17_, ?_⟩
              exact h18_
            refine ⟨h19_, ?_⟩
            refine ⟨(la_putInto_16 h20_ h109_), ?_⟩
            refine ⟨h110_, ?_⟩
            refine ⟨h111_, ?_⟩
            refine ⟨(la_putInto_17 h31_ h109_), ?_⟩
            refine ⟨(la_putInto_48 h2_), ?_⟩
            refine ⟨(la_putInto_34 h34_), ?_⟩
            refine ⟨h35_, ?_⟩
            refine ⟨h109_, ?_⟩
            refine ⟨h262_, ?_⟩
            refine ⟨h261_, ?_⟩
            refine ⟨(la_putInto_49 h3_ h34_ (la_putInto_38 h243_ h245_)), ?_⟩
            refine ⟨h235_, ?_⟩
            exact (la_putInto_50 h236_)
          intro h265_
          have h266_ := (h234_ (la_putInto_51 h243_ h265_))
          refine ⟨?_, ?_⟩
          · skip
            intro h267_
            intro g65
            rintro ⟨h268_, h269_⟩
            refine ⟨?_, ?_⟩
            · skip
              refine ⟨?_, ?_⟩
              · skip
                intro h270_
                intro h271_
                refine ⟨h222_, ?_⟩
                refine ⟨h223_, ?_⟩
                refine ⟨h224_, ?_⟩
                refine ⟨h225_, ?_⟩
                refine ⟨h226_, ?_⟩
                refine ⟨h10_, ?_⟩
                refine ⟨h11_, ?_⟩
                refine ⟨h229_, ?_⟩
                refine ⟨h230_, ?_⟩
                refine ⟨h231_, ?_⟩
                refine ⟨h15_, ?_⟩
                refine ⟨h16_, ?_⟩
                refine ⟨h17_, ?_⟩
                refine ⟨h18_, ?_⟩
                refine ⟨h19_, ?_⟩
                refine ⟨(la_putInto_16 h20_ h109_), ?_⟩
                refine ⟨h110_, ?_⟩
                refine ⟨h111_, ?_⟩
                refine ⟨h23_, ?_⟩
                refine ⟨h24_, ?_⟩
                refine ⟨h25_, ?_⟩
                refine ⟨h26_, ?_⟩
                refine ⟨h27_, ?_⟩
                refine ⟨h28_, ?_⟩
                refine ⟨h29_, ?_⟩
                refine ⟨h30_, ?_⟩
                refine ⟨(la_putInto_17 h31_ h109_), ?_⟩
                refine ⟨h32_, ?_⟩
                refine ⟨h33_, ?_⟩
                refine ⟨h34_, ?_⟩
                refine ⟨h35_, ?_⟩
                refine ⟨h36_, ?_⟩
                refine ⟨h37_, ?_⟩
                refine ⟨h38_, ?_⟩
                refine ⟨h39_, ?_⟩
                refine ⟨h40_, ?_⟩
                refine ⟨h41_, ?_⟩
                refine ⟨h42_, ?_⟩
                refine ⟨h43_, ?_⟩
                refine ⟨(sm_VO_m h44_ (Int.le_refl _) h109_ sm_F1_rf), ?_⟩
                refine ⟨h45_, ?_⟩
                refine ⟨(sm_FL_F h46_ sm_F1_rf sm_F1_rf sm_F1_rf sm_F1_rf sm_F1_rf sm_F1_rf sm_F1_rf sm_F1_rf sm_F1_rf sm_F1_rf sm_F1_rf sm_F1_rf (Int.le_refl _) h109_ sm_F1_rf sm_F1_rf (sm_FL_dp h46_ h23_)), ?_⟩
                refine ⟨h47_, ?_⟩
                refine ⟨h48_, ?_⟩
                refine ⟨h49_, ?_⟩
                refine ⟨(sm_SK_m h50_ (Int.le_refl _) h109_ sm_F1_rf), ?_⟩
                refine ⟨h51_, ?_⟩
                refine ⟨h52_, ?_⟩
                refine ⟨h53_, ?_⟩
                refine ⟨la_putInto_19, ?_⟩
                refine ⟨h58_, ?_⟩
                refine ⟨(la_putInto_20 h57_), ?_⟩
                refine ⟨?_, ?_⟩
                · skip
                  have e272_ : S 63 (400 * (S 1092 0 - 1) + S 58 (S 1092 0 - 1) - 1 - 0) = S 63 (400 * (S 1092 0 - 1) + (S 58 (S 1092 0 - 1) - 1)) := congrArg ((S 63)) la_putInto_22
                  have e273_ : S 63 (400 * (S 1092 0 - 1) + S 58 (S 1092 0 - 1) - 1 - 1) = S 63 (400 * (S 1092 0 - 1) + (S 58 (S 1092 0 - 1) - 2)) := congrArg ((S 63)) la_putInto_8
                  have e274_ : S 63 (400 * (S 1092 0 - 1) + S 58 (S 1092 0 - 1) - 1 - 2) = S 63 (400 * (S 1092 0 - 1) + (S 58 (S 1092 0 - 1) - 3)) := congrArg ((S 63)) la_putInto_9
                  have e275_ : S 64 (400 * (S 1092 0 - 1) + S 58 (S 1092 0 - 1) - 1 - 0) = S 64 (400 * (S 1092 0 - 1) + (S 58 (S 1092 0 - 1) - 1)) := congrArg ((S 64)) la_putInto_22
                  have e276_ : S 64 (400 * (S 1092 0 - 1) + S 58 (S 1092 0 - 1) - 1 - 1) = S 64 (400 * (S 1092 0 - 1) + (S 58 (S 1092 0 - 1) - 2)) := congrArg ((S 64)) la_putInto_8
                  have e277_ : S 64 (400 * (S 1092 0 - 1) + S 58 (S 1092 0 - 1) - 1 - 2) = S 64 (400 * (S 1092 0 - 1) + (S 58 (S 1092 0 - 1) - 3)) := congrArg ((S 64)) la_putInto_9
                  obtain ⟨h278_, ⟨h279_, h280_⟩⟩ := ((sm_VO_e h89_).2.2.2 (la_putInto_40 (sm_VO_e h89_).2.1 h90_ h155_ e274_))
                  exact (sm_VO_eq (sm_VO_m h73_ (Int.le_refl _) h109_ sm_F1_rf) (la_putInto_26 h268_ e272_) (la_putInto_26 h269_ e275_))
                refine ⟨h59_, ?_⟩
                refine ⟨h60_, ?_⟩
                refine ⟨h61_, ?_⟩
                refine ⟨(la_putInto_27 h62_), ?_⟩
                refine ⟨h63_, ?_⟩
                exact h64_
              intro h281_
              have h282_ := (h108_ (la_putInto_54 h243_ h265_ (la_putInto_29 (la_putInto_53 h265_) h281_)))
              have h283_ := (h237_ (la_putInto_55 h243_ (la_putInto_29 (la_putInto_53 h265_) h281_)))
              have h284_ := (h282_ (la_putInto_56 h243_ (la_putInto_29 (la_putInto_53 h265_) h281_)))
              have h285_ := (h284_ (la_putInto_57 h243_ (la_putInto_29 (la_putInto_53 h265_) h281_)))
              have h286_ := (h285_ h115_)
              exact h4_
            intro g71
            rintro ⟨h287_, h288_⟩
            have h289_ := (h287_ (la_putInto_51 h243_ h265_))
            obtain ⟨h290_, ⟨h291_, ⟨h292_, ⟨h293_, ⟨h294_, ⟨h295_, ⟨h296_, ⟨h297_, ⟨h298_, ⟨h299_, ⟨h300_, ⟨h301_, ⟨h302_, ⟨h303_, h304_⟩⟩⟩⟩⟩⟩⟩⟩⟩⟩⟩⟩⟩⟩ := (h289_ h3_)
            refine ⟨h222_, ?_⟩
            refine ⟨h223_, ?_⟩
            refine ⟨h224_, ?_⟩
            refine ⟨h225_, ?_⟩
            refine ⟨h226_, ?_⟩
            refine ⟨h10_, ?_⟩
            refine ⟨h11_, ?_⟩
            refine ⟨h229_, ?_⟩
            refine ⟨h230_, ?_⟩
            refine ⟨h231_, ?_⟩
            refine ⟨h15_, ?_⟩
            refine ⟨h16_, ?_⟩
            refine ⟨?_, ?_⟩
            · skip
              intro h305_
              refine ⟨h17_, ?_⟩
              exact h18_
            refine ⟨h19_, ?_⟩
            refine ⟨(la_putInto_16 h20_ h109_), ?_⟩
            refine ⟨h110_, ?_⟩
            refine ⟨h111_, ?_⟩
            refine ⟨(la_putInto_17 h31_ h109_), ?_⟩
            refine ⟨(la_putInto_58 h2_ h265_), ?_⟩
            refine ⟨(la_putInto_34 h34_), ?_⟩
            refine ⟨h35_, ?_⟩
            refine ⟨h109_, ?_⟩
            refine ⟨h288_, ?_⟩
            refine ⟨h287_, ?_⟩
            refine ⟨(la_putInto_59 h3_ h34_ h265_), ?_⟩
            refine ⟨h235_, ?_⟩
            exact (la_putInto_50 h236_)
          intro h306_
          have h307_ := (h242_ (la_putInto_60 h306_))
          have h308_ : ¬ (r15 = 0) := fun q_ => h198_ ⟨h307_, q_⟩
          refine ⟨?_, ?_⟩
          · skip
            refine ⟨h222_, ?_⟩
            refine ⟨h223_, ?_⟩
            refine ⟨h224_, ?_⟩
            refine ⟨h225_, ?_⟩
            refine ⟨h226_, ?_⟩
            refine ⟨h10_, ?_⟩
            refine ⟨h11_, ?_⟩
            refine ⟨h229_, ?_⟩
            refine ⟨h230_, ?_⟩
            refine ⟨h231_, ?_⟩
            refine ⟨?_, ?_⟩
            · skip
              have e309_ : S 63 (400 * (S 1092 0 - 1) + S 58 (S 1092 0 - 1) - 1 - 1) = S 63 (400 * (S 1092 0 - 1) + (S 58 (S 1092 0 - 1) - 2)) := congrArg ((S 63)) la_putInto_8
              have e310_ : S 63 (400 * (S 1092 0 - 1) + S 58 (S 1092 0 - 1) - 1 - 2) = S 63 (400 * (S 1092 0 - 1) + (S 58 (S 1092 0 - 1) - 3)) := congrArg ((S 63)) la_putInto_9
              have e311_ : S 64 (400 * (S 1092 0 - 1) + S 58 (S 1092 0 - 1) - 1 - 1) = S 64 (400 * (S 1092 0 - 1) + (S 58 (S 1092 0 - 1) - 2)) := congrArg ((S 64)) la_putInto_8
              have e312_ : S 64 (400 * (S 1092 0 - 1) + S 58 (S 1092 0 - 1) - 1 - 2) = S 64 (400 * (S 1092 0 - 1) + (S 58 (S 1092 0 - 1) - 3)) := congrArg ((S 64)) la_putInto_9
              obtain ⟨h313_, ⟨h314_, h315_⟩⟩ := ((sm_VO_e h89_).2.2.2 (la_putInto_40 (sm_VO_e h89_).2.1 h90_ h155_ e310_))
              exact (la_putInto_43 h91_ e312_ h313_)
            refine ⟨?_, ?_⟩
            · skip
              have e316_ : S 63 (400 * (S 1092 0 - 1) + S 58 (S 1092 0 - 1) - 1 - 1) = S 63 (400 * (S 1092 0 - 1) + (S 58 (S 1092 0 - 1) - 2)) := congrArg ((S 63)) la_putInto_8
              have e317_ : S 63 (400 * (S 1092 0 - 1) + S 58 (S 1092 0 - 1) - 1 - 2) = S 63 (400 * (S 1092 0 - 1) + (S 58 (S 1092 0 - 1) - 3)) := congrArg ((S 63)) la_putInto_9
              have e318_ : S 64 (400 * (S 1092 0 - 1) + S 58 (S 1092 0 - 1) - 1 - 1) = S 64 (400 * (S 1092 0 - 1) + (S 58 (S 1092 0 - 1) - 2)) := congrArg ((S 64)) la_putInto_8
              have e319_ : S 64 (400 * (S 1092 0 - 1) + S 58 (S 1092 0 - 1) - 1 - 2) = S 64 (400 * (S 1092 0 - 1) + (S 58 (S 1092 0 - 1) - 3)) := congrArg ((S 64)) la_putInto_9
              obtain ⟨h320_, ⟨h321_, h322_⟩⟩ := ((sm_VO_e h89_).2.2.2 (la_putInto_40 (sm_VO_e h89_).2.1 h90_ h155_ e317_))
              exact (la_putInto_44 h91_ e319_ h321_)
            refine ⟨h307_, ?_⟩
            have e323_ : S 63 (400 * (S 1092 0 - 1) + S 58 (S 1092 0 - 1) - 1 - 1) = S 63 (400 * (S 1092 0 - 1) + (S 58 (S 1092 0 - 1) - 2)) := congrArg ((S 63)) la_putInto_8
            have e324_ : S 63 (400 * (S 1092 0 - 1) + S 58 (S 1092 0 - 1) - 1 - 2) = S 63 (400 * (S 1092 0 - 1) + (S 58 (S 1092 0 - 1) - 3)) := congrArg ((S 63)) la_putInto_9
            have e325_ : S 64 (400 * (S 1092 0 - 1) + S 58 (S 1092 0 - 1) - 1 - 1) = S 64 (400 * (S 1092 0 - 1) + (S 58 (S 1092 0 - 1) - 2)) := congrArg ((S 64)) la_putInto_8
            have e326_ : S 64 (400 * (S 1092 0 - 1) + S 58 (S 1092 0 - 1) - 1 - 2) = S 64 (400 * (S 1092 0 - 1) + (S 58 (S 1092 0 - 1) - 3)) := congrArg ((S 64)) la_putInto_9
            obtain ⟨h327_, ⟨h328_, h329_⟩⟩ := ((sm_VO_e h89_).2.2.2 (la_putInto_40 (sm_VO_e h89_).2.1 h90_ h155_ e324_))
            exact (la_putInto_61 h17_ h91_ e326_ h327_)
          intro r81
          intro h330_
          rintro ⟨h331_, h332_⟩
          refine ⟨?_, ?_⟩
          · skip
            intro h333_
            intro g82
            rintro ⟨h334_, h335_⟩
            refine ⟨?_, ?_⟩
            · skip
              refine ⟨?_, ?_⟩
              · skip
                intro h336_
                intro h337_
                refine ⟨h222_, ?_⟩
                refine ⟨h223_, ?_⟩
                refine ⟨h224_, ?_⟩
                refine ⟨h225_, ?_⟩
                refine ⟨h226_, ?_⟩
                refine ⟨h10_, ?_⟩
                refine ⟨h11_, ?_⟩
                refine ⟨h229_, ?_⟩
                refine ⟨h230_, ?_⟩
                refine ⟨h231_, ?_⟩
                refine ⟨h15_, ?_⟩
                refine ⟨h16_, ?_⟩
                refine ⟨h17_, ?_⟩
                refine ⟨h18_, ?_⟩
                refine ⟨h19_, ?_⟩
                refine ⟨(la_putInto_16 h20_ h109_), ?_⟩
                refine ⟨h110_, ?_⟩
                refine ⟨h111_, ?_⟩
                refine ⟨h23_, ?_⟩
                refine ⟨h24_, ?_⟩
                refine ⟨h25_, ?_⟩
                refine ⟨h26_, ?_⟩
                refine ⟨h27_, ?_⟩
                refine ⟨h28_, ?_⟩
                refine ⟨h29_, ?_⟩
                refine ⟨h30_, ?_⟩
                refine ⟨(la_putInto_17 h31_ h109_), ?_⟩
                refine ⟨h32_, ?_⟩
                refine ⟨h33_, ?_⟩
                refine ⟨h34_, ?_⟩
                refine ⟨h35_, ?_⟩
                refine ⟨h36_, ?_⟩
                refine ⟨h37_, ?_⟩
                refine ⟨h38_, ?_⟩
                refine ⟨h39_, ?_⟩
                refine ⟨h40_, ?_⟩
                refine ⟨h41_, ?_⟩
                refine ⟨h42_, ?_⟩
                refine ⟨h43_, ?_⟩
                refine ⟨(sm_VO_m h44_ (Int.le_refl _) h109_ sm_F1_rf), ?_⟩
                refine ⟨h45_, ?_⟩
                refine ⟨(sm_FL_F h46_ sm_F1_rf sm_F1_rf sm_F1_rf sm_F1_rf sm_F1_rf sm_F1_rf sm_F1_rf sm_F1_rf sm_F1_rf sm_F1_rf sm_F1_rf sm_F1_rf (Int.le_refl _) h109_ sm_F1_rf sm_F1_rf (sm_FL_dp h46_ h23_)), ?_⟩
                refine ⟨h47_, ?_⟩
                refine ⟨h48_, ?_⟩
                refine ⟨h49_, ?_⟩
                refine ⟨(sm_SK_m h50_ (Int.le_refl _) h109_ sm_F1_rf), ?_⟩
                refine ⟨h51_, ?_⟩
                refine ⟨h52_, ?_⟩
                refine ⟨h53_, ?_⟩
                refine ⟨la_putInto_19, ?_⟩
                refine ⟨h58_, ?_⟩
                refine ⟨(la_putInto_20 h57_), ?_⟩
                refine ⟨?_, ?_⟩
                · skip
                  have e338_ : S 63 (400 * (S 1092 0 - 1) + S 58 (S 1092 0 - 1) - 1 - 0) = S 63 (400 * (S 1092 0 - 1) + (S 58 (S 1092 0 - 1) - 1)) := congrArg ((S 63)) la_putInto_22
                  have e339_ : S 63 (400 * (S 1092 0 - 1) + S 58 (S 1092 0 - 1) - 1 - 1) = S 63 (400 * (S 1092 0 - 1) + (S 58 (S 1092 0 - 1) - 2)) := congrArg ((S 63)) la_putInto_8
                  have e340_ : S 63 (400 * (S 1092 0 - 1) + S 58 (S 1092 0 - 1) - 1 - 2) = S 63 (400 * (S 1092 0 - 1) + (S 58 (S 1092 0 - 1) - 3)) := congrArg ((S 63)) la_putInto_9
                  have e341_ : S 64 (400 * (S 1092 0 - 1) + S 58 (S 1092 0 - 1) - 1 - 0) = S 64 (400 * (S 1092 0 - 1) + (S 58 (S 1092 0 - 1) - 1)) := congrArg ((S 64)) la_putInto_22
                  have e342_ : S 64 (400 * (S 1092 0 - 1) + S 58 (S 1092 0 - 1) - 1 - 1) = S 64 (400 * (S 1092 0 - 1) + (S 58 (S 1092 0 - 1) - 2)) := congrArg ((S 64)) la_putInto_8
                  have e343_ : S 64 (400 * (S 1092 0 - 1) + S 58 (S 1092 0 - 1) - 1 - 2) = S 64 (400 * (S 1092 0 - 1) + (S 58 (S 1092 0 - 1) - 3)) := congrArg ((S 64)) la_putInto_9
                  obtain ⟨h344_, ⟨h345_, h346_⟩⟩ := ((sm_VO_e h89_).2.2.2 (la_putInto_40 (sm_VO_e h89_).2.1 h90_ h155_ e340_))
                  exact (sm_VO_eq (sm_VO_m h73_ (Int.le_refl _) h109_ sm_F1_rf) (la_putInto_26 h334_ e338_) (la_putInto_26 h335_ e341_))
                refine ⟨h59_, ?_⟩
                refine ⟨h60_, ?_⟩
                refine ⟨h61_, ?_⟩
                refine ⟨(la_putInto_27 h62_), ?_⟩
                refine ⟨h63_, ?_⟩
                exact h64_
              intro h347_
              have h348_ := (h108_ (la_putInto_54 h243_ h265_ (la_putInto_29 (la_putInto_53 h265_) h347_)))
              have h349_ := (h237_ (la_putInto_55 h243_ (la_putInto_29 (la_putInto_53 h265_) h347_)))
              have h350_ := (h348_ (la_putInto_56 h243_ (la_putInto_29 (la_putInto_53 h265_) h347_)))
              have h351_ := (h350_ (la_putInto_57 h243_ (la_putInto_29 (la_putInto_53 h265_) h347_)))
              have h352_ := (h351_ h115_)
              exact h4_
            intro g88
            rintro ⟨h353_, h354_⟩
            have h355_ := (h353_ (la_putInto_51 h243_ h265_))
            obtain ⟨h356_, ⟨h357_, ⟨h358_, ⟨h359_, ⟨h360_, ⟨h361_, ⟨h362_, ⟨h363_, ⟨h364_, ⟨h365_, ⟨h366_, ⟨h367_, ⟨h368_, ⟨h369_, h370_⟩⟩⟩⟩⟩⟩⟩⟩⟩⟩⟩⟩⟩⟩ := (h355_ h3_)
            refine ⟨h222_, ?_⟩
            refine ⟨h223_, ?_⟩
            refine ⟨h224_, ?_⟩
            refine ⟨h225_, ?_⟩
            refine ⟨h226_, ?_⟩
            refine ⟨h10_, ?_⟩
            refine ⟨h11_, ?_⟩
            refine ⟨h229_, ?_⟩
            refine ⟨h230_, ?_⟩
            refine ⟨h231_, ?_⟩
            refine ⟨h15_, ?_⟩
            refine ⟨h16_, ?_⟩
            refine ⟨?_, ?_⟩
            · skip
              intro h371_
              refine ⟨h17_, ?_⟩
              exact h18_
            refine ⟨h19_, ?_⟩
            refine ⟨(la_putInto_16 h20_ h109_), ?_⟩
            refine ⟨h110_, ?_⟩
            refine ⟨h111_, ?_⟩
            refine ⟨(la_putInto_17 h31_ h109_), ?_⟩
            refine ⟨(la_putInto_58 h2_ h265_), ?_⟩
            refine ⟨(la_putInto_34 h34_), ?_⟩
            refine ⟨h35_, ?_⟩
            refine ⟨h109_, ?_⟩
            refine ⟨h354_, ?_⟩
            refine ⟨h353_, ?_⟩
            refine ⟨(la_putInto_59 h3_ h34_ h265_), ?_⟩
            refine ⟨h235_, ?_⟩
            exact (la_putInto_50 h236_)
          intro h372_
          refine ⟨(la_putInto_62 h241_ h306_), ?_⟩
          refine ⟨?_, ?_⟩
          · skip
            refine ⟨h222_, ?_⟩
            refine ⟨h223_, ?_⟩
            refine ⟨h224_, ?_⟩
            refine ⟨h225_, ?_⟩
            refine ⟨h226_, ?_⟩
            refine ⟨h10_, ?_⟩
            refine ⟨h11_, ?_⟩
            refine ⟨h229_, ?_⟩
            refine ⟨h230_, ?_⟩
            refine ⟨h231_, ?_⟩
            refine ⟨?_, ?_⟩
            · skip
              have e373_ : S 63 (400 * (S 1092 0 - 1) + S 58 (S 1092 0 - 1) - 1 - 1) = S 63 (400 * (S 1092 0 - 1) + (S 58 (S 1092 0 - 1) - 2)) := congrArg ((S 63)) la_putInto_8
              have e374_ : S 63 (400 * (S 1092 0 - 1) + S 58 (S 1092 0 - 1) - 1 - 2) = S 63 (400 * (S 1092 0 - 1) + (S 58 (S 1092 0 - 1) - 3)) := congrArg ((S 63)) la_putInto_9
              have e375_ : S 64 (400 * (S 1092 0 - 1) + S 58 (S 1092 0 - 1) - 1 - 1) = S 64 (400 * (S 1092 0 - 1) + (S 58 (S 1092 0 - 1) - 2)) := congrArg ((S 64)) la_putInto_8
              have e376_ : S 64 (400 * (S 1092 0 - 1) + S 58 (S 1092 0 - 1) - 1 - 2) = S 64 (400 * (S 1092 0 - 1) + (S 58 (S 1092 0 - 1) - 3)) := congrArg ((S 64)) la_putInto_9
              obtain ⟨h377_, ⟨h378_, h379_⟩⟩ := ((sm_VO_e h89_).2.2.2 (la_putInto_40 (sm_VO_e h89_).2.1 h90_ h155_ e374_))
              exact (la_putInto_43 h91_ e376_ h377_)
            refine ⟨?_, ?_⟩
            · skip
              have e380_ : S 63 (400 * (S 1092 0 - 1) + S 58 (S 1092 0 - 1) - 1 - 1) = S 63 (400 * (S 1092 0 - 1) + (S 58 (S 1092 0 - 1) - 2)) := congrArg ((S 63)) la_putInto_8
              have e381_ : S 63 (400 * (S 1092 0 - 1) + S 58 (S 1092 0 - 1) - 1 - 2) = S 63 (400 * (S 1092 0 - 1) + (S 58 (S 1092 0 - 1) - 3)) := congrArg ((S 63)) la_putInto_9
              have e382_ : S 64 (400 * (S 1092 0 - 1) + S 58 (S 1092 0 - 1) - 1 - 1) = S 64 (400 * (S 1092 0 - 1) + (S 58 (S 1092 0 - 1) - 2)) := congrArg ((S 64)) la_putInto_8
              have e383_ : S 64 (400 * (S 1092 0 - 1) + S 58 (S 1092 0 - 1) - 1 - 2) = S 64 (400 * (S 1092 0 - 1) + (S 58 (S 1092 0 - 1) - 3)) := congrArg ((S 64)) la_putInto_9
              obtain ⟨h384_, ⟨h385_, h386_⟩⟩ := ((sm_VO_e h89_).2.2.2 (la_putInto_40 (sm_VO_e h89_).2.1 h90_ h155_ e381_))
              exact (la_putInto_44 h91_ e383_ h385_)
            refine ⟨la_putInto_63, ?_⟩
            refine ⟨(la_putInto_64 h20_ h109_), ?_⟩
            refine ⟨(sm_VO_i la_putInto_65 la_putInto_66 la_putInto_67 la_putInto_68), ?_⟩
            refine ⟨(la_putInto_69 h241_ h306_), ?_⟩
            exact (la_putInto_70 h65_ h236_)
          intro g95
          rintro ⟨h387_, ⟨h388_, ⟨h389_, ⟨h390_, ⟨h391_, ⟨h392_, ⟨h393_, ⟨h394_, ⟨h395_, ⟨h396_, ⟨h397_, ⟨h398_, ⟨h399_, ⟨h400_, ⟨h401_, ⟨h402_, h403_⟩⟩⟩⟩⟩⟩⟩⟩⟩⟩⟩⟩⟩⟩⟩⟩
          intro g100
          rintro ⟨h404_, h405_⟩
          refine ⟨?_, ?_⟩
          · skip
            refine ⟨?_, ?_⟩
            · skip
              intro h406_
              have h407_ := (h399_ h406_)
              intro h408_
              refine ⟨h387_, ?_⟩
              refine ⟨h388_, ?_⟩
              refine ⟨h389_, ?_⟩
              refine ⟨h390_, ?_⟩
              refine ⟨h391_, ?_⟩
              refine ⟨h10_, ?_⟩
              refine ⟨h11_, ?_⟩
              refine ⟨h394_, ?_⟩
              refine ⟨h395_, ?_⟩
              refine ⟨h396_, ?_⟩
              refine ⟨h15_, ?_⟩
              refine ⟨h16_, ?_⟩
              refine ⟨h17_, ?_⟩
              refine ⟨h18_, ?_⟩
              refine ⟨h19_, ?_⟩
              refine ⟨(la_putInto_16 h20_ h109_), ?_⟩
              refine ⟨h110_, ?_⟩
              refine ⟨h111_, ?_⟩
              refine ⟨h23_, ?_⟩
              refine ⟨h24_, ?_⟩
              refine ⟨h25_, ?_⟩
              refine ⟨h26_, ?_⟩
              refine ⟨h27_, ?_⟩
              refine ⟨h28_, ?_⟩
              refine ⟨h29_, ?_⟩
              refine ⟨h30_, ?_⟩
              refine ⟨(la_putInto_17 h31_ h109_), ?_⟩
              refine ⟨h32_, ?_⟩
              refine ⟨h33_, ?_⟩
              refine ⟨h34_, ?_⟩
              refine ⟨h35_, ?_⟩
              refine ⟨h36_, ?_⟩
              refine ⟨h37_, ?_⟩
              refine ⟨h38_, ?_⟩
              refine ⟨h39_, ?_⟩
              refine ⟨h40_, ?_⟩
              refine ⟨h41_, ?_⟩
              refine ⟨h42_, ?_⟩
              refine ⟨h43_, ?_⟩
              refine ⟨(sm_VO_m h44_ (Int.le_refl _) h109_ sm_F1_rf), ?_⟩
              refine ⟨h45_, ?_⟩
              refine ⟨(sm_FL_F h46_ sm_F1_rf sm_F1_rf sm_F1_rf sm_F1_rf sm_F1_rf sm_F1_rf sm_F1_rf sm_F1_rf sm_F1_rf sm_F1_rf sm_F1_rf sm_F1_rf (Int.le_refl _) h109_ sm_F1_rf sm_F1_rf (sm_FL_dp h46_ h23_)), ?_⟩
              refine ⟨h47_, ?_⟩
              refine ⟨h48_, ?_⟩
              refine ⟨h49_, ?_⟩
              refine ⟨(sm_SK_m h50_ (Int.le_refl _) h109_ sm_F1_rf), ?_⟩
              refine ⟨h51_, ?_⟩
              refine ⟨h52_, ?_⟩
              refine ⟨h53_, ?_⟩
              refine ⟨la_putInto_19, ?_⟩
              refine ⟨h58_, ?_⟩
              refine ⟨(la_putInto_20 h57_), ?_⟩
              refine ⟨?_, ?_⟩
              · skip
                have e409_ : S 63 (400 * (S 1092 0 - 1) + S 58 (S 1092 0 - 1) - 1 - 0) = S 63 (400 * (S 1092 0 - 1) + (S 58 (S 1092 0 - 1) - 1)) := congrArg ((S 63)) la_putInto_22
                have e410_ : S 63 (400 * (S 1092 0 - 1) + S 58 (S 1092 0 - 1) - 1 - 1) = S 63 (400 * (S 1092 0 - 1) + (S 58 (S 1092 0 - 1) - 2)) := congrArg ((S 63)) la_putInto_8
                have e411_ : S 63 (400 * (S 1092 0 - 1) + S 58 (S 1092 0 - 1) - 1 - 2) = S 63 (400 * (S 1092 0 - 1) + (S 58 (S 1092 0 - 1) - 3)) := congrArg ((S 63)) la_putInto_9
                have e412_ : S 64 (400 * (S 1092 0 - 1) + S 58 (S 1092 0 - 1) - 1 - 0) = S 64 (400 * (S 1092 0 - 1) + (S 58 (S 1092 0 - 1) - 1)) := congrArg ((S 64)) la_putInto_22
                have e413_ : S 64 (400 * (S 1092 0 - 1) + S 58 (S 1092 0 - 1) - 1 - 1) = S 64 (400 * (S 1092 0 - 1) + (S 58 (S 1092 0 - 1) - 2)) := congrArg ((S 64)) la_putInto_8
                have e414_ : S 64 (400 * (S 1092 0 - 1) + S 58 (S 1092 0 - 1) - 1 - 2) = S 64 (400 * (S 1092 0 - 1) + (S 58 (S 1092 0 - 1) - 3)) := congrArg ((S 64)) la_putInto_9
                obtain ⟨h415_, ⟨h416_, h417_⟩⟩ := ((sm_VO_e h89_).2.2.2 (la_putInto_40 (sm_VO_e h89_).2.1 h90_ h155_ e411_))
                exact (sm_VO_eq (sm_VO_m h73_ (Int.le_refl _) h109_ sm_F1_rf) (la_putInto_26 h404_ e409_) (la_putInto_26 h405_ e412_))
              refine ⟨h59_, ?_⟩
              refine ⟨h60_, ?_⟩
              refine ⟨h61_, ?_⟩
              refine ⟨(la_putInto_27 h62_), ?_⟩
              refine ⟨h63_, ?_⟩
              exact h64_
            intro h418_
            exact h4_
          intro g106
          rintro ⟨h419_, h420_⟩
          refine ⟨h387_, ?_⟩
          refine ⟨h388_, ?_⟩
          refine ⟨h389_, ?_⟩
          refine ⟨h390_, ?_⟩
          refine ⟨h391_, ?_⟩
          refine ⟨h10_, ?_⟩
          refine ⟨h11_, ?_⟩
          refine ⟨h394_, ?_⟩
          refine ⟨h395_, ?_⟩
          refine ⟨h396_, ?_⟩
          refine ⟨h15_, ?_⟩
          refine ⟨h16_, ?_⟩
          refine ⟨?_, ?_⟩
          · skip
            intro h421_
            have h422_ := (h399_ h421_)
            have h423_ := (h419_ h421_)
            obtain ⟨h424_, ⟨h425_, ⟨h426_, ⟨h427_, ⟨h428_, ⟨h429_, ⟨h430_, ⟨h431_, ⟨h432_, ⟨h433_, ⟨h434_, ⟨h435_, ⟨h436_, ⟨h437_, h438_⟩⟩⟩⟩⟩⟩⟩⟩⟩⟩⟩⟩⟩⟩ := (h423_ h3_)
            refine ⟨h17_, ?_⟩
            exact h18_
          refine ⟨h19_, ?_⟩
          refine ⟨(la_putInto_16 h20_ h109_), ?_⟩
          refine ⟨h110_, ?_⟩
          refine ⟨h111_, ?_⟩
          refine ⟨(la_putInto_17 h31_ h109_), ?_⟩
          refine ⟨(la_putInto_48 h2_), ?_⟩
          refine ⟨(la_putInto_34 h34_), ?_⟩
          refine ⟨h35_, ?_⟩
          refine ⟨h109_, ?_⟩
          refine ⟨h420_, ?_⟩
          refine ⟨h419_, ?_⟩
          refine ⟨(la_putInto_72 h3_ h34_), ?_⟩
          refine ⟨(la_putInto_17 h235_ h400_), ?_⟩
          exact (la_putInto_73 h236_ h401_)
        refine ⟨?_, ?_⟩
        · skip
          refine ⟨?_, ?_⟩
          · skip
            have e439_ : S 63 (400 * (S 1092 0 - 1) + S 58 (S 1092 0 - 1) - 1 - 1) = S 63 (400 * (S 1092 0 - 1) + (S 58 (S 1092 0 - 1) - 2)) := congrArg ((S 63)) la_putInto_8
            have e440_ : S 63 (400 * (S 1092 0 - 1) + S 58 (S 1092 0 - 1) - 1 - 2) = S 63 (400 * (S 1092 0 - 1) + (S 58 (S 1092 0 - 1) - 3)) := congrArg ((S 63)) la_putInto_9
            have e441_ : S 64 (400 * (S 1092 0 - 1) + S 58 (S 1092 0 - 1) - 1 - 1) = S 64 (400 * (S 1092 0 - 1) + (S 58 (S 1092 0 - 1) - 2)) := congrArg ((S 64)) la_putInto_8
            have e442_ : S 64 (400 * (S 1092 0 - 1) + S 58 (S 1092 0 - 1) - 1 - 2) = S 64 (400 * (S 1092 0 - 1) + (S 58 (S 1092 0 - 1) - 3)) := congrArg ((S 64)) la_putInto_9
            obtain ⟨h443_, ⟨h444_, h445_⟩⟩ := ((sm_VO_e h89_).2.2.2 (la_putInto_40 (sm_VO_e h89_).2.1 h90_ h155_ e440_))
            exact (la_putInto_43 h91_ e442_ h443_)
          have e446_ : S 63 (400 * (S 1092 0 - 1) + S 58 (S 1092 0 - 1) - 1 - 1) = S 63 (400 * (S 1092 0 - 1) + (S 58 (S 1092 0 - 1) - 2)) := congrArg ((S 63)) la_putInto_8
          have e447_ : S 63 (400 * (S 1092 0 - 1) + S 58 (S 1092 0 - 1) - 1 - 2) = S 63 (400 * (S 1092 0 - 1) + (S 58 (S 1092 0 - 1) - 3)) := congrArg ((S 63)) la_putInto_9
          have e448_ : S 64 (400 * (S 1092 0 - 1) + S 58 (S 1092 0 - 1) - 1 - 1) = S 64 (400 * (S 1092 0 - 1) + (S 58 (S 1092 0 - 1) - 2)) := congrArg ((S 64)) la_putInto_8
          have e449_ : S 64 (400 * (S 1092 0 - 1) + S 58 (S 1092 0 - 1) - 1 - 2) = S 64 (400 * (S 1092 0 - 1) + (S 58 (S 1092 0 - 1) - 3)) := congrArg ((S 64)) la_putInto_9
          obtain ⟨h450_, ⟨h451_, h452_⟩⟩ := ((sm_VO_e h89_).2.2.2 (la_putInto_40 (sm_VO_e h89_).2.1 h90_ h155_ e447_))
          exact (la_putInto_74 h11_ h91_ e449_ h451_)
        intro h453_
        refine ⟨la_putInto_75, ?_⟩
        intro h454_
        have h455_ : ¬ (r15 = 0) := fun q_ => h198_ ⟨(la_putInto_76 h454_), q_⟩
        refine ⟨⟨(la_putInto_16 h20_ h109_), ⟨h110_, ⟨h111_, (la_putInto_77 h107_ h110_ (la_putInto_38 h106_ h455_))⟩⟩⟩, ?_⟩
        intro r119
        intro h456_
        rintro ⟨h457_, h458_⟩
        refine ⟨h457_, ?_⟩
        refine ⟨h458_, ?_⟩
        intro h459_
        exact (la_putInto_76 h454_)
      refine ⟨la_putInto_79, ?_⟩
      intro h460_
      refine ⟨?_, ?_⟩
      · skip
        refine ⟨?_, ?_⟩
        · skip
          have e461_ : S 63 (400 * (S 1092 0 - 1) + S 58 (S 1092 0 - 1) - 1 - 1) = S 63 (400 * (S 1092 0 - 1) + (S 58 (S 1092 0 - 1) - 2)) := congrArg ((S 63)) la_putInto_8
          have e462_ : S 63 (400 * (S 1092 0 - 1) + S 58 (S 1092 0 - 1) - 1 - 2) = S 63 (400 * (S 1092 0 - 1) + (S 58 (S 1092 0 - 1) - 3)) := congrArg ((S 63)) la_putInto_9
          have e463_ : S 64 (400 * (S 1092 0 - 1) + S 58 (S 1092 0 - 1) - 1 - 1) = S 64 (400 * (S 1092 0 - 1) + (S 58 (S 1092 0 - 1) - 2)) := congrArg ((S 64)) la_putInto_8
          have e464_ : S 64 (400 * (S 1092 0 - 1) + S 58 (S 1092 0 - 1) - 1 - 2) = S 64 (400 * (S 1092 0 - 1) + (S 58 (S 1092 0 - 1) - 3)) := congrArg ((S 64)) la_putInto_9
          obtain ⟨h465_, ⟨h466_, h467_⟩⟩ := ((sm_VO_e h89_).2.2.2 (la_putInto_40 (sm_VO_e h89_).2.1 h90_ h460_ e462_))
          exact (la_putInto_43 h91_ e464_ h465_)
        have e468_ : S 63 (400 * (S 1092 0 - 1) + S 58 (S 1092 0 - 1) - 1 - 1) = S 63 (400 * (S 1092 0 - 1) + (S 58 (S 1092 0 - 1) - 2)) := congrArg ((S 63)) la_putInto_8
        have e469_ : S 63 (400 * (S 1092 0 - 1) + S 58 (S 1092 0 - 1) - 1 - 2) = S 63 (400 * (S 1092 0 - 1) + (S 58 (S 1092 0 - 1) - 3)) := congrArg ((S 63)) la_putInto_9
        have e470_ : S 64 (400 * (S 1092 0 - 1) + S 58 (S 1092 0 - 1) - 1 - 1) = S 64 (400 * (S 1092 0 - 1) + (S 58 (S 1092 0 - 1) - 2)) := congrArg ((S 64)) la_putInto_8
        have e471_ : S 64 (400 * (S 1092 0 - 1) + S 58 (S 1092 0 - 1) - 1 - 2) = S 64 (400 * (S 1092 0 - 1) + (S 58 (S 1092 0 - 1) - 3)) := congrArg ((S 64)) la_putInto_9
        obtain ⟨h472_, ⟨h473_, h474_⟩⟩ := ((sm_VO_e h89_).2.2.2 (la_putInto_40 (sm_VO_e h89_).2.1 h90_ h460_ e469_))
        exact (la_putInto_74 h11_ h91_ e471_ h473_)
      intro h475_
      refine ⟨la_putInto_80, ?_⟩
      intro h476_
      refine ⟨la_putInto_81, ?_⟩
      intro h477_
      refine ⟨la_putInto_82, ?_⟩
      intro h478_
      exact (la_putInto_83 h478_)
    intro h479_
    refine ⟨?_, ?_⟩
    · skip
      refine ⟨h115_, ?_⟩
      refine ⟨h3_, ?_⟩
      refine ⟨h4_, ?_⟩
      refine ⟨h5_, ?_⟩
      refine ⟨h6_, ?_⟩
      refine ⟨(sm_PV_m h7_ (Int.le_refl _) h109_ sm_F1_rf), ?_⟩
      refine ⟨h8_, ?_⟩
      refine ⟨h9_, ?_⟩
      refine ⟨h10_, ?_⟩
      refine ⟨h11_, ?_⟩
      refine ⟨h12_, ?_⟩
      refine ⟨h13_, ?_⟩
      refine ⟨h14_, ?_⟩
      refine ⟨h15_, ?_⟩
      refine ⟨h16_, ?_⟩
      refine ⟨h17_, ?_⟩
      refine ⟨h18_, ?_⟩
      refine ⟨h19_, ?_⟩
      refine ⟨(la_putInto_16 h20_ h109_), ?_⟩
      refine ⟨h110_, ?_⟩
      refine ⟨h111_, ?_⟩
      refine ⟨h23_, ?_⟩
      refine ⟨h24_, ?_⟩
      refine ⟨h25_, ?_⟩
      refine ⟨h26_, ?_⟩
      refine ⟨h27_, ?_⟩
      refine ⟨h28_, ?_⟩
      refine ⟨h29_, ?_⟩
      refine ⟨h30_, ?_⟩
      refine ⟨(la_putInto_17 h31_ h109_), ?_⟩
      refine ⟨h32_, ?_⟩
      refine ⟨h33_, ?_⟩
      refine ⟨h34_, ?_⟩
      refine ⟨h35_, ?_⟩
      refine ⟨(la_putInto_84 h36_ h47_), ?_⟩
      refine ⟨(la_putInto_85 h47_ h60_), ?_⟩
      refine ⟨?_, ?_⟩
      · skip
        have e480_ : S 29 (S 57 (S 1092 0 - 1)) = S 29 (S 1100033 0) := congrArg ((S 29)) h47_
        have e481_ : S 63 (400 * (S 1092 0 - 1) + S 58 (S 1092 0 - 1) - 1 - 1) = S 63 (400 * (S 1092 0 - 1) + (S 58 (S 1092 0 - 1) - 2)) := congrArg ((S 63)) la_putInto_8
        have e482_ : S 63 (400 * (S 1092 0 - 1) + S 58 (S 1092 0 - 1) - 1 - 2) = S 63 (400 * (S 1092 0 - 1) + (S 58 (S 1092 0 - 1) - 3)) := congrArg ((S 63)) la_putInto_9
        have e483_ : S 64 (400 * (S 1092 0 - 1) + S 58 (S 1092 0 - 1) - 1 - 1) = S 64 (400 * (S 1092 0 - 1) + (S 58 (S 1092 0 - 1) - 2)) := congrArg ((S 64)) la_putInto_8
        have e484_ : S 64 (400 * (S 1092 0 - 1) + S 58 (S 1092 0 - 1) - 1 - 2) = S 64 (400 * (S 1092 0 - 1) + (S 58 (S 1092 0 - 1) - 3)) := congrArg ((S 64)) la_putInto_9
        exact (la_putInto_88 h38_ e480_)
      refine ⟨h39_, ?_⟩
      refine ⟨h40_, ?_⟩
      refine ⟨?_, ?_⟩
      · skip
        have e485_ : S 1100023 (S 57 (S 1092 0 - 1)) = S 1100023 (S 1100033 0) := congrArg ((S 1100023)) h47_
        have e486_ : S 63 (400 * (S 1092 0 - 1) + S 58 (S 1092 0 - 1) - 1 - 1) = S 63 (400 * (S 1092 0 - 1) + (S 58 (S 1092 0 - 1) - 2)) := congrArg ((S 63)) la_putInto_8
        have e487_ : S 63 (400 * (S 1092 0 - 1) + S 58 (S 1092 0 - 1) - 1 - 2) = S 63 (400 * (S 1092 0 - 1) + (S 58 (S 1092 0 - 1) - 3)) := congrArg ((S 63)) la_putInto_9
        have e488_ : S 64 (400 * (S 1092 0 - 1) + S 58 (S 1092 0 - 1) - 1 - 1) = S 64 (400 * (S 1092 0 - 1) + (S 58 (S 1092 0 - 1) - 2)) := congrArg ((S 64)) la_putInto_8
        have e489_ : S 64 (400 * (S 1092 0 - 1) + S 58 (S 1092 0 - 1) - 1 - 2) = S 64 (400 * (S 1092 0 - 1) + (S 58 (S 1092 0 - 1) - 3)) := congrArg ((S 64)) la_putInto_9
        have e490_ : sm_dp (S 1100024) (S 1100023 (S 57 (S 1092 0 - 1))) = sm_dp (S 1100024) (S 1100023 (S 1100033 0)) := congrArg ((sm_dp (S 1100024))) e485_
        exact (la_putInto_89 h41_ e490_)
      refine ⟨?_, ?_⟩
      · skip
        have e491_ : S 1100023 (S 57 (S 1092 0 - 1)) = S 1100023 (S 1100033 0) := congrArg ((S 1100023)) h47_
        have e492_ : S 63 (400 * (S 1092 0 - 1) + S 58 (S 1092 0 - 1) - 1 - 1) = S 63 (400 * (S 1092 0 - 1) + (S 58 (S 1092 0 - 1) - 2)) := congrArg ((S 63)) la_putInto_8
        have e493_ : S 63 (400 * (S 1092 0 - 1) + S 58 (S 1092 0 - 1) - 1 - 2) = S 63 (400 * (S 1092 0 - 1) + (S 58 (S 1092 0 - 1) - 3)) := congrArg ((S 63)) la_putInto_9
        have e494_ : S 64 (400 * (S 1092 0 - 1) + S 58 (S 1092 0 - 1) - 1 - 1) = S 64 (400 * (S 1092 0 - 1) + (S 58 (S 1092 0 - 1) - 2)) := congrArg ((S 64)) la_putInto_8
        have e495_ : S 64 (400 * (S 1092 0 - 1) + S 58 (S 1092 0 - 1) - 1 - 2) = S 64 (400 * (S 1092 0 - 1) + (S 58 (S 1092 0 - 1) - 3)) := congrArg ((S 64)) la_putInto_9
        exact (sm_TC_t h42_ (la_putInto_90 e491_))
      refine ⟨h43_, ?_⟩
      refine ⟨(sm_VO_m h44_ (Int.le_refl _) h109_ sm_F1_rf), ?_⟩
      refine ⟨h45_, ?_⟩
      refine ⟨(sm_FL_F h46_ sm_F1_rf sm_F1_rf sm_F1_rf sm_F1_rf sm_F1_rf sm_F1_rf sm_F1_rf sm_F1_rf sm_F1_rf sm_F1_rf sm_F1_rf sm_F1_rf (Int.le_refl _) h109_ sm_F1_rf sm_F1_rf (sm_FL_dp h46_ h23_)), ?_⟩
      refine ⟨?_, ?_⟩
      · skip
        have e496_ : S 1100007 (S 57 (S 1092 0 - 1)) = S 1100007 (S 1100033 0) := congrArg ((S 1100007)) h47_
        have e497_ : S 63 (400 * (S 1092 0 - 1) + S 58 (S 1092 0 - 1) - 1 - 1) = S 63 (400 * (S 1092 0 - 1) + (S 58 (S 1092 0 - 1) - 2)) := congrArg ((S 63)) la_putInto_8
        have e498_ : S 63 (400 * (S 1092 0 - 1) + S 58 (S 1092 0 - 1) - 1 - 2) = S 63 (400 * (S 1092 0 - 1) + (S 58 (S 1092 0 - 1) - 3)) := congrArg ((S 63)) la_putInto_9
        have e499_ : S 64 (400 * (S 1092 0 - 1) + S 58 (S 1092 0 - 1) - 1 - 1) = S 64 (400 * (S 1092 0 - 1) + (S 58 (S 1092 0 - 1) - 2)) := congrArg ((S 64)) la_putInto_8
        have e500_ : S 64 (400 * (S 1092 0 - 1) + S 58 (S 1092 0 - 1) - 1 - 2) = S 64 (400 * (S 1092 0 - 1) + (S 58 (S 1092 0 - 1) - 3)) := congrArg ((S 64)) la_putInto_9
        exact (la_putInto_89 h54_ e496_)
      refine ⟨?_, ?_⟩
      · skip
        have e501_ : S 1100025 (S 57 (S 1092 0 - 1)) = S 1100025 (S 1100033 0) := congrArg ((S 1100025)) h47_
        have e502_ : S 63 (400 * (S 1092 0 - 1) + S 58 (S 1092 0 - 1) - 1 - 1) = S 63 (400 * (S 1092 0 - 1) + (S 58 (S 1092 0 - 1) - 2)) := congrArg ((S 63)) la_putInto_8
        have e503_ : S 63 (400 * (S 1092 0 - 1) + S 58 (S 1092 0 - 1) - 1 - 2) = S 63 (400 * (S 1092 0 - 1) + (S 58 (S 1092 0 - 1) - 3)) := congrArg ((S 63)) la_putInto_9
        have e504_ : S 64 (400 * (S 1092 0 - 1) + S 58 (S 1092 0 - 1) - 1 - 1) = S 64 (400 * (S 1092 0 - 1) + (S 58 (S 1092 0 - 1) - 2)) := congrArg ((S 64)) la_putInto_8
        have e505_ : S 64 (400 * (S 1092 0 - 1) + S 58 (S 1092 0 - 1) - 1 - 2) = S 64 (400 * (S 1092 0 - 1) + (S 58 (S 1092 0 - 1) - 3)) := congrArg ((S 64)) la_putInto_9
        exact (sm_SK_q (sm_SK_m h50_ (Int.le_refl _) h109_ sm_F1_rf) (la_putInto_92 h55_ e501_) rfl rfl)
      refine ⟨?_, ?_⟩
      · skip
        intro h506_
        have e507_ : S 1100023 (S 57 (S 1092 0 - 1)) = S 1100023 (S 1100033 0) := congrArg ((S 1100023)) h47_
        have e508_ : S 63 (400 * (S 1092 0 - 1) + S 58 (S 1092 0 - 1) - 1 - 1) = S 63 (400 * (S 1092 0 - 1) + (S 58 (S 1092 0 - 1) - 2)) := congrArg ((S 63)) la_putInto_8
        have e509_ : S 63 (400 * (S 1092 0 - 1) + S 58 (S 1092 0 - 1) - 1 - 2) = S 63 (400 * (S 1092 0 - 1) + (S 58 (S 1092 0 - 1) - 3)) := congrArg ((S 63)) la_putInto_9
        have e510_ : S 64 (400 * (S 1092 0 - 1) + S 58 (S 1092 0 - 1) - 1 - 1) = S 64 (400 * (S 1092 0 - 1) + (S 58 (S 1092 0 - 1) - 2)) := congrArg ((S 64)) la_putInto_8
        have e511_ : S 64 (400 * (S 1092 0 - 1) + S 58 (S 1092 0 - 1) - 1 - 2) = S 64 (400 * (S 1092 0 - 1) + (S 58 (S 1092 0 - 1) - 3)) := congrArg ((S 64)) la_putInto_9
        have h512_ := (h56_ (la_putInto_93 h506_ e507_))
        have e513_ : S 1100007 (S 1100023 (S 57 (S 1092 0 - 1))) = S 1100007 (S 1100023 (S 1100033 0)) := congrArg ((S 1100007)) e507_
        exact (la_putInto_94 h512_ e513_)
      refine ⟨la_putInto_95, ?_⟩
      exact la_putInto_96
    intro g124
    rintro ⟨h514_, ⟨h515_, ⟨h516_, ⟨h517_, ⟨h518_, ⟨h519_, ⟨h520_, ⟨h521_, ⟨h522_, ⟨h523_, ⟨h524_, ⟨h525_, ⟨h526_, ⟨h527_, ⟨h528_, ⟨h529_, ⟨h530_, ⟨h531_, ⟨h532_, ⟨h533_, ⟨h534_, ⟨h535_, ⟨h536_, ⟨h537_, ⟨h538_, h539_⟩⟩⟩⟩⟩⟩⟩⟩⟩⟩⟩⟩⟩⟩⟩⟩⟩⟩⟩⟩⟩⟩⟩⟩⟩
    refine ⟨h514_, ?_⟩
    refine ⟨h6_, ?_⟩
    refine ⟨h516_, ?_⟩
    refine ⟨h517_, ?_⟩
    refine ⟨h518_, ?_⟩
    refine ⟨h519_, ?_⟩
    refine ⟨h520_, ?_⟩
    refine ⟨h12_, ?_⟩
    refine ⟨h13_, ?_⟩
    refine ⟨h14_, ?_⟩
    refine ⟨h524_, ?_⟩
    refine ⟨h525_, ?_⟩
    refine ⟨h526_, ?_⟩
    refine ⟨h527_, ?_⟩
    refine ⟨h528_, ?_⟩
    refine ⟨h110_, ?_⟩
    refine ⟨h111_, ?_⟩
    refine ⟨h531_, ?_⟩
    refine ⟨(la_putInto_48 h2_), ?_⟩
    refine ⟨h533_, ?_⟩
    refine ⟨h534_, ?_⟩
    refine ⟨h109_, ?_⟩
    refine ⟨h536_, ?_⟩
    refine ⟨h537_, ?_⟩
    refine ⟨h538_, ?_⟩
    refine ⟨la_putInto_18, ?_⟩
    exact la_putInto_36
  intro h540_
  refine ⟨h5_, ?_⟩
  refine ⟨h6_, ?_⟩
  refine ⟨(sm_PV_m h7_ (Int.le_refl _) h109_ sm_F1_rf), ?_⟩
  refine ⟨h8_, ?_⟩
  refine ⟨h9_, ?_⟩
  refine ⟨h10_, ?_⟩
  refine ⟨h11_, ?_⟩
  refine ⟨h12_, ?_⟩
  refine ⟨h13_, ?_⟩
  refine ⟨h14_, ?_⟩
  refine ⟨h15_, ?_⟩
  refine ⟨h16_, ?_⟩
  refine ⟨?_, ?_⟩
  · skip
    intro h541_
    have h542_ := (h108_ (la_putInto_97 (la_putInto_38 h113_ h540_) h541_))
    have h543_ := (h542_ (la_putInto_98 (la_putInto_38 h113_ h540_) h541_))
    have h544_ := (h543_ (la_putInto_99 (la_putInto_38 h113_ h540_) h541_))
    have h545_ := (h544_ h541_)
    refine ⟨h17_, ?_⟩
    exact h18_
  refine ⟨h19_, ?_⟩
  refine ⟨(la_putInto_16 h20_ h109_), ?_⟩
  refine ⟨h110_, ?_⟩
  refine ⟨h111_, ?_⟩
  refine ⟨(la_putInto_17 h31_ h109_), ?_⟩
  refine ⟨h112_, ?_⟩
  refine ⟨(la_putInto_34 h34_), ?_⟩
  refine ⟨h35_, ?_⟩
  refine ⟨h109_, ?_⟩
  refine ⟨?_, ?_⟩
  · skip
    intro h546_
    exact h4_
  refine ⟨?_, ?_⟩
  · skip
    intro h547_
    have h548_ := (h108_ (la_putInto_97 (la_putInto_38 h113_ h540_) h547_))
    have h549_ := (h548_ (la_putInto_98 (la_putInto_38 h113_ h540_) h547_))
    have h550_ := (h549_ (la_putInto_99 (la_putInto_38 h113_ h540_) h547_))
    have h551_ := (h550_ h547_)
    intro h552_
    refine ⟨h34_, ?_⟩
    refine ⟨h35_, ?_⟩
    refine ⟨(la_putInto_84 h36_ h47_), ?_⟩
    refine ⟨(la_putInto_85 h47_ h60_), ?_⟩
    refine ⟨?_, ?_⟩
    · skip
      have e553_ : S 29 (S 57 (S 1092 0 - 1)) = S 29 (S 1100033 0) := congrArg ((S 29)) h47_
      have e554_ : S 63 (400 * (S 1092 0 - 1) + S 58 (S 1092 0 - 1) - 1 - 2) = S 63 (400 * (S 1092 0 - 1) + (S 58 (S 1092 0 - 1) - 3)) := congrArg ((S 63)) la_putInto_9
      have e555_ : S 64 (400 * (S 1092 0 - 1) + S 58 (S 1092 0 - 1) - 1 - 2) = S 64 (400 * (S 1092 0 - 1) + (S 58 (S 1092 0 - 1) - 3)) := congrArg ((S 64)) la_putInto_9
      exact (la_putInto_88 h38_ e553_)
    refine ⟨h39_, ?_⟩
    refine ⟨h40_, ?_⟩
    refine ⟨?_, ?_⟩
    · skip
      have e556_ : S 1100023 (S 57 (S 1092 0 - 1)) = S 1100023 (S 1100033 0) := congrArg ((S 1100023)) h47_
      have e557_ : S 63 (400 * (S 1092 0 - 1) + S 58 (S 1092 0 - 1) - 1 - 2) = S 63 (400 * (S 1092 0 - 1) + (S 58 (S 1092 0 - 1) - 3)) := congrArg ((S 63)) la_putInto_9
      have e558_ : S 64 (400 * (S 1092 0 - 1) + S 58 (S 1092 0 - 1) - 1 - 2) = S 64 (400 * (S 1092 0 - 1) + (S 58 (S 1092 0 - 1) - 3)) := congrArg ((S 64)) la_putInto_9
      have e559_ : sm_dp (S 1100024) (S 1100023 (S 57 (S 1092 0 - 1))) = sm_dp (S 1100024) (S 1100023 (S 1100033 0)) := congrArg ((sm_dp (S 1100024))) e556_
      exact (la_putInto_89 h41_ e559_)
    refine ⟨?_, ?_⟩
    · skip
      have e560_ : S 1100023 (S 57 (S 1092 0 - 1)) = S 1100023 (S 1100033 0) := congrArg ((S 1100023)) h47_
      have e561_ : S 63 (400 * (S 1092 0 - 1) + S 58 (S 1092 0 - 1) - 1 - 2) = S 63 (400 * (S 1092 0 - 1) + (S 58 (S 1092 0 - 1) - 3)) := congrArg ((S 63)) la_putInto_9
      have e562_ : S 64 (400 * (S 1092 0 - 1) + S 58 (S 1092 0 - 1) - 1 - 2) = S 64 (400 * (S 1092 0 - 1) + (S 58 (S 1092 0 - 1) - 3)) := congrArg ((S 64)) la_putInto_9
      exact (sm_TC_t h42_ (la_putInto_90 e560_))
    refine ⟨h43_, ?_⟩
    refine ⟨(sm_VO_m h44_ (Int.le_refl _) h109_ sm_F1_rf), ?_⟩
    refine ⟨h45_, ?_⟩
    refine ⟨(sm_FL_F h46_ sm_F1_rf sm_F1_rf sm_F1_rf sm_F1_rf sm_F1_rf sm_F1_rf sm_F1_rf sm_F1_rf sm_F1_rf sm_F1_rf sm_F1_rf sm_F1_rf (Int.le_refl _) h109_ sm_F1_rf sm_F1_rf (sm_FL_dp h46_ h23_)), ?_⟩
    refine ⟨?_, ?_⟩
    · skip
      have e563_ : S 1100007 (S 57 (S 1092 0 - 1)) = S 1100007 (S 1100033 0) := congrArg ((S 1100007)) h47_
      have e564_ : S 63 (400 * (S 1092 0 - 1) + S 58 (S 1092 0 - 1) - 1 - 2) = S 63 (400 * (S 1092 0 - 1) + (S 58 (S 1092 0 - 1) - 3)) := congrArg ((S 63)) la_putInto_9
      have e565_ : S 64 (400 * (S 1092 0 - 1) + S 58 (S 1092 0 - 1) - 1 - 2) = S 64 (400 * (S 1092 0 - 1) + (S 58 (S 1092 0 - 1) - 3)) := congrArg ((S 64)) la_putInto_9
      exact (la_putInto_89 h54_ e563_)
    have e566_ : S 1100025 (S 57 (S 1092 0 - 1)) = S 1100025 (S 1100033 0) := congrArg ((S 1100025)) h47_
    have e567_ : S 63 (400 * (S 1092 0 - 1) + S 58 (S 1092 0 - 1) - 1 - 2) = S 63 (400 * (S 1092 0 - 1) + (S 58 (S 1092 0 - 1) - 3)) := congrArg ((S 63)) la_putInto_9
    have e568_ : S 64 (400 * (S 1092 0 - 1) + S 58 (S 1092 0 - 1) - 1 - 2) = S 64 (400 * (S 1092 0 - 1) + (S 58 (S 1092 0 - 1) - 3)) := congrArg ((S 64)) la_putInto_9
    exact (sm_SK_q (sm_SK_m h50_ (Int.le_refl _) h109_ sm_F1_rf) (la_putInto_92 h55_ e566_) rfl rfl)
  refine ⟨(la_putInto_49 h3_ h34_ (la_putInto_38 h113_ h540_)), ?_⟩
  refine ⟨la_putInto_18, ?_⟩
  exact la_putInto_36
set_option maxRecDepth 8000 in
set_option maxHeartbeats 2000000 in
theorem t_putInto : ∀ (S : sv_S), sm_ok S → ((S 1075 0) = 0 ∧ (S 1073 0) = 1 ∧ sm_LX (S 58) (S 63) (S 64) (S 1092 0) (S 1076 0) ∧ sm_PL (S 1100020) (S 51) (S 52) (S 46) (S 47) (S 1076 0) (S 1086 0) ∧ sm_FR (S 1100020) (S 52) (S 1100021) (S 1100022) (3000 - (S 1084 0)) (S 1085 0) ∧ sm_PV (S 1100020) (S 48) (S 49) (S 50) (S 44) (S 1076 0) (S 1007 0) ∧ sm_AL (S 1100020) (S 48) (S 49) (S 50) (S 44) (S 1076 0) (S 1100032 0) ∧ sm_SV (S 1100020) (S 48) (S 1100029) (S 32) (S 33) (S 1076 0) (S 1032 0) ∧ 0 ≤ (S 1076 0) ∧ (S 1076 0) ≤ 300 ∧ 0 ≤ (S 1084 0) ∧ (S 1084 0) ≤ 3000 ∧ 0 ≤ (S 1086 0) ∧ sm_SC (S 1100029) (S 44) (S 45) (S 43) (S 21) (S 1076 0) (S 1032 0) ∧ sm_PO (S 42) (S 1076 0) ∧ (S 1100032 0) = -1 ∧ sm_FO (S 44) (S 45) (S 1076 0) ∧ 23 ≤ (S 1076 0) ∧ 31 ≤ (S 1007 0) ∧ (S 1007 0) ≤ 400 ∧ sm_LN (S 4) 400 (S 1007 0) ∧ sm_CT (S 26) (S 27) (S 28) (S 29) (S 1100007) (S 1100023) (S 1100024) (S 1100025) (S 21) (S 1046 0) (S 1032 0) (S 1008 0) (S 1055 0) ∧ sm_LS (S 26) (S 1100007) (S 1100025) (S 1046 0) ∧ sm_CL (S 1100007) (S 1100023) (S 1100025) (S 1046 0) ∧ 1 ≤ (S 1032 0) ∧ (S 1032 0) ≤ 11 ∧ 0 ≤ (S 1046 0) ∧ (S 1046 0) ≤ 600 ∧ 31 ≤ (S 1008 0) ∧ (S 1008 0) ≤ (S 1007 0) ∧ 0 ≤ (S 1055 0) ∧ (S 1055 0) ≤ 19 ∧ 1 ≤ (S 1092 0) ∧ (S 1092 0) ≤ 24 ∧ 0 ≤ (S 1100033 0) ∧ (S 1100033 0) < (S 1046 0) ∧ (S 29 (S 1100033 0)) = (S 53 ((S 1092 0) - 1)) ∧ 0 ≤ (S 53 ((S 1092 0) - 1)) ∧ (S 53 ((S 1092 0) - 1)) < (S 1032 0) ∧ (S 60 ((S 1092 0) - 1)) = sm_dp (S 1100024) (S 1100023 (S 1100033 0)) ∧ sm_TC (S 61) (S 62) (S 27) (S 1100007) (S 1100023) (S 1100024) (40 * ((S 1092 0) - 1)) (S 1100023 (S 1100033 0)) ∧ sm_LK (S 1100029) (S 1076 0) (S 54 ((S 1092 0) - 1)) (S 53 ((S 1092 0) - 1)) ∧ sm_VO (S 44) (S 1076 0) (S 1007 0) ((S 55 ((S 1092 0) - 1))) ((S 56 ((S 1092 0) - 1))) ∧ sm_FW (S 44) (S 1076 0) (S 59 ((S 1092 0) - 1)) ∧ sm_FL (S 53) (S 54) (S 55) (S 56) (S 57) (S 58) (S 59) (S 60) (S 61) (S 62) (S 63) (S 64) (S 27) (S 29) (S 1100007) (S 1100023) (S 1100024) (S 1100025) (S 26) (S 1100029) (S 44) (S 1046 0) (S 1032 0) (S 1076 0) (S 1007 0) (((S 1092 0) - 1)) ∧ (S 57 ((S 1092 0) - 1)) = (S 1100033 0) ∧ 0 ≤ (S 58 ((S 1092 0) - 1)) ∧ (S 58 ((S 1092 0) - 1)) ≤ 400 ∧ sm_SK (S 63) (S 64) (S 44) (S 1100007) (S 1100025) (S 1076 0) (S 1007 0) (400 * ((S 1092 0) - 1)) ((S 58 ((S 1092 0) - 1))) ((S 1100034 0)) ∧ -1 ≤ (S 1100034 0) ∧ (S 1100034 0) < (S 1046 0) ∧ (0 ≤ (S 1100034 0) → (S 26 (S 1100034 0)) = 29) ∧ (S 58 ((S 1092 0) - 1)) = (S 1100007 (S 1100033 0)) ∧ (S 1100034 0) = (S 1100025 (S 1100033 0)) ∧ (0 ≤ (S 1100023 (S 1100033 0)) → (S 1100007 (S 1100023 (S 1100033 0))) ≤ (S 58 ((S 1092 0) - 1))) ∧ (S 58 ((S 1092 0) - 1)) ≤ 396 ∧ 3 ≤ (S 58 ((S 1092 0) - 1)) ∧ (0 ≤ (S 1100034 0) → (S 1100007 (S 1100034 0)) ≤ (S 58 ((S 1092 0) - 1)) - 3) ∧ (S 1100033 0) + 1 < (S 1046 0) ∧ (S 29 ((S 1100033 0) + 1)) = (S 29 (S 1100033 0)) ∧ (S 1100007 ((S 1100033 0) + 1)) = (S 58 ((S 1092 0) - 1)) + (-2) ∧ (S 1100023 ((S 1100033 0) + 1)) = (S 1100023 (S 1100033 0)) ∧ (S 1100025 ((S 1100033 0) + 1)) = (S 1100034 0) ∧ (S 1086 0) ≤ 1900000000) → sv_T sm_XS sm_cs sm_L sm_sh 4 (q_putInto S) 172 0 (lv_args 0 [.ref 0]) [] S := by
  intro S hok hpre
  have h := f_putInto S hok hpre
  have hM := sm_h172
  show sv_T sm_XS sm_cs sm_L sm_sh 4 (q_putInto S) 172 0 [(0, .ref 0)] [] S
  have k1 : (sm_SK (S 63) (S 64) (S 44) (S 1100007) (S 1100025) (S 1076 0) (S 1007 0) (400 * ((S 1092 0) - 1)) ((S 58 ((S 1092 0) - 1))) ((S 1100034 0)) → sm_LS (S 26) (S 1100007) (S 1100025) (S 1046 0) → 0 ≤ (S 58 ((S 1092 0) - 1)) - 1 → (S 58 ((S 1092 0) - 1)) - 1 < (S 58 ((S 1092 0) - 1)) → (S 1100034 0) < (S 1046 0) → (0 ≤ (S 1100034 0) → (S 26 (S 1100034 0)) = 29) → (0 ≤ (S 1100034 0) → (S 1100007 (S 1100034 0)) ≤ (S 58 ((S 1092 0) - 1)) - 3) → sm_VO (S 44) (S 1076 0) (S 1007 0) ((S 63 (400 * ((S 1092 0) - 1) + ((S 58 ((S 1092 0) - 1)) - 1)))) ((S 64 (400 * ((S 1092 0) - 1) + ((S 58 ((S 1092 0) - 1)) - 1))))) := fun h a b e g i j => sm_SK_at h a _ b e g (fun z => ⟨i z, by have := j z; omega⟩)
  have h := h k1
  have k2 : (sm_SK (S 63) (S 64) (S 44) (S 1100007) (S 1100025) (S 1076 0) (S 1007 0) (400 * ((S 1092 0) - 1)) ((S 58 ((S 1092 0) - 1))) ((S 1100034 0)) → sm_LS (S 26) (S 1100007) (S 1100025) (S 1046 0) → 0 ≤ (S 58 ((S 1092 0) - 1)) - 2 → (S 58 ((S 1092 0) - 1)) - 2 < (S 58 ((S 1092 0) - 1)) → (S 1100034 0) < (S 1046 0) → (0 ≤ (S 1100034 0) → (S 26 (S 1100034 0)) = 29) → (0 ≤ (S 1100034 0) → (S 1100007 (S 1100034 0)) ≤ (S 58 ((S 1092 0) - 1)) - 3) → sm_VO (S 44) (S 1076 0) (S 1007 0) ((S 63 (400 * ((S 1092 0) - 1) + ((S 58 ((S 1092 0) - 1)) - 2)))) ((S 64 (400 * ((S 1092 0) - 1) + ((S 58 ((S 1092 0) - 1)) - 2))))) := fun h a b e g i j => sm_SK_at h a _ b e g (fun z => ⟨i z, by have := j z; omega⟩)
  have h := h k2
  have k3 : (sm_SK (S 63) (S 64) (S 44) (S 1100007) (S 1100025) (S 1076 0) (S 1007 0) (400 * ((S 1092 0) - 1)) ((S 58 ((S 1092 0) - 1))) ((S 1100034 0)) → sm_LS (S 26) (S 1100007) (S 1100025) (S 1046 0) → 0 ≤ (S 58 ((S 1092 0) - 1)) - 3 → (S 58 ((S 1092 0) - 1)) - 3 < (S 58 ((S 1092 0) - 1)) → (S 1100034 0) < (S 1046 0) → (0 ≤ (S 1100034 0) → (S 26 (S 1100034 0)) = 29) → (0 ≤ (S 1100034 0) → (S 1100007 (S 1100034 0)) ≤ (S 58 ((S 1092 0) - 1)) - 3) → sm_VO (S 44) (S 1076 0) (S 1007 0) ((S 63 (400 * ((S 1092 0) - 1) + ((S 58 ((S 1092 0) - 1)) - 3)))) ((S 64 (400 * ((S 1092 0) - 1) + ((S 58 ((S 1092 0) - 1)) - 3))))) := fun h a b e g i j => sm_SK_at h a _ b e g (fun z => ⟨i z, by have := j z; omega⟩)
  have h := h k3
  refine sv_aload_n hM dX12_putInto_0 rfl rfl ?_
  refine sv_iconst (d := (2 : Int)) hM dX12_putInto_1 rfl rfl ?_
  obtain ⟨o4, h⟩ := h
  refine sv_callV hM dX12_putInto_2 sm_iv_910 (by decide) (sm_a0 _) rfl rfl (Nat.le_of_ble_eq_true rfl) sm_h150 (Nat.le_of_ble_eq_true rfl) (Nat.le_of_ble_eq_true rfl) (F' := 1) (Nat.le_of_ble_eq_true rfl) rfl (t_sortAt (2 : Int) S hok (⟨by decide, by decide⟩ : sv_R (2 : Int)) o4) (fun v S1 hq => ?_)
  obtain ⟨rfl, hS1⟩ := hq
  obtain rfl : S = S1 := hS1.symm
  show sv_T sm_XS sm_cs sm_L sm_sh 4 (q_putInto S) 172 5 [(0, .ref 0)] [sv_I ((S 63 ((400 * ((S 1092 0) - 1) + (S 58 ((S 1092 0) - 1))) - 1 - (2 : Int))))] S
  obtain ⟨x5, e6⟩ : ∃ x : Int, ((S 63 ((400 * ((S 1092 0) - 1) + (S 58 ((S 1092 0) - 1))) - 1 - (2 : Int)))) = x := ⟨_, rfl⟩
  have h := h x5 e6
  have e6r : sv_R x5 := e6 ▸ (sm_okI hok sm_r63 _)
  refine sv_nameI e6 ?_
  refine sv_istore_n hM dX12_putInto_5 (by decide) rfl ?_
  show sv_T sm_XS sm_cs sm_L sm_sh 4 (q_putInto S) 172 6 [(0, .ref 0), (1, sv_I x5)] [] S
  refine sv_aload_n hM dX12_putInto_6 rfl rfl ?_
  refine sv_iconst (d := (2 : Int)) hM dX12_putInto_7 rfl rfl ?_
  refine sv_callV hM dX12_putInto_8 sm_iv_913 (by decide) (sm_a0 _) rfl rfl (Nat.le_of_ble_eq_true rfl) sm_h151 (Nat.le_of_ble_eq_true rfl) (Nat.le_of_ble_eq_true rfl) (F' := 1) (Nat.le_of_ble_eq_true rfl) rfl (t_valueAt (2 : Int) S hok (⟨by decide, by decide⟩ : sv_R (2 : Int)) o4) (fun v S1 hq => ?_)
  obtain ⟨rfl, hS1⟩ := hq
  obtain rfl : S = S1 := hS1.symm
  show sv_T sm_XS sm_cs sm_L sm_sh 4 (q_putInto S) 172 11 [(0, .ref 0), (1, sv_I x5)] [sv_I ((S 64 ((400 * ((S 1092 0) - 1) + (S 58 ((S 1092 0) - 1))) - 1 - (2 : Int))))] S
  obtain ⟨x7, e8⟩ : ∃ x : Int, ((S 64 ((400 * ((S 1092 0) - 1) + (S 58 ((S 1092 0) - 1))) - 1 - (2 : Int)))) = x := ⟨_, rfl⟩
  have h := h x7 e8
  have e8r : sv_R x7 := e8 ▸ (sm_okI hok sm_r64 _)
  refine sv_nameI e8 ?_
  refine sv_istore_n hM dX12_putInto_11 (by decide) rfl ?_
  show sv_T sm_XS sm_cs sm_L sm_sh 4 (q_putInto S) 172 12 [(0, .ref 0), (1, sv_I x5), (2, sv_I x7)] [] S
  refine sv_aload_n hM dX12_putInto_12 rfl rfl ?_
  refine sv_aload_n hM dX12_putInto_13 rfl rfl ?_
  refine sv_iconst (d := (1 : Int)) hM dX12_putInto_14 rfl rfl ?_
  obtain ⟨o9, h⟩ := h
  refine sv_callV hM dX12_putInto_15 sm_iv_910 (by decide) (sm_a0 _) rfl rfl (Nat.le_of_ble_eq_true rfl) sm_h150 (Nat.le_of_ble_eq_true rfl) (Nat.le_of_ble_eq_true rfl) (F' := 1) (Nat.le_of_ble_eq_true rfl) rfl (t_sortAt (1 : Int) S hok (⟨by decide, by decide⟩ : sv_R (1 : Int)) o9) (fun v S1 hq => ?_)
  obtain ⟨rfl, hS1⟩ := hq
  obtain rfl : S = S1 := hS1.symm
  show sv_T sm_XS sm_cs sm_L sm_sh 4 (q_putInto S) 172 18 [(0, .ref 0), (1, sv_I x5), (2, sv_I x7)] [sv_I ((S 63 ((400 * ((S 1092 0) - 1) + (S 58 ((S 1092 0) - 1))) - 1 - (1 : Int)))), .ref 0] S
  refine sv_aload_n hM dX12_putInto_18 rfl rfl ?_
  refine sv_iconst (d := (1 : Int)) hM dX12_putInto_19 rfl rfl ?_
  refine sv_callV hM dX12_putInto_20 sm_iv_913 (by decide) (sm_a0 _) rfl rfl (Nat.le_of_ble_eq_true rfl) sm_h151 (Nat.le_of_ble_eq_true rfl) (Nat.le_of_ble_eq_true rfl) (F' := 1) (Nat.le_of_ble_eq_true rfl) rfl (t_valueAt (1 : Int) S hok (⟨by decide, by decide⟩ : sv_R (1 : Int)) o9) (fun v S1 hq => ?_)
  obtain ⟨rfl, hS1⟩ := hq
  obtain rfl : S = S1 := hS1.symm
  show sv_T sm_XS sm_cs sm_L sm_sh 4 (q_putInto S) 172 23 [(0, .ref 0), (1, sv_I x5), (2, sv_I x7)] [sv_I ((S 64 ((400 * ((S 1092 0) - 1) + (S 58 ((S 1092 0) - 1))) - 1 - (1 : Int)))), sv_I ((S 63 ((400 * ((S 1092 0) - 1) + (S 58 ((S 1092 0) - 1))) - 1 - (1 : Int)))), .ref 0] S
  obtain ⟨o10, h⟩ := h
  refine sv_callV hM dX12_putInto_23 sm_iv_969 (by decide) (sm_a0 _) rfl rfl (Nat.le_of_ble_eq_true rfl) sm_h126 (Nat.le_of_ble_eq_true rfl) (Nat.le_of_ble_eq_true rfl) (F' := 3) (Nat.le_of_ble_eq_true rfl) rfl (t_textOf ((S 63 ((400 * ((S 1092 0) - 1) + (S 58 ((S 1092 0) - 1))) - 1 - (1 : Int)))) ((S 64 ((400 * ((S 1092 0) - 1) + (S 58 ((S 1092 0) - 1))) - 1 - (1 : Int)))) S hok (sm_okI hok sm_r63 _) (sm_okI hok sm_r64 _) o10) (fun v S1 hq => ?_)
  obtain ⟨r15, rfl, hr15, ok12, md13, hpo14⟩ := hq
  obtain ⟨g11, rfl⟩ : ∃ g, S1 = sv_sts S [5, 1011, 3, 4, 1007, 1075] g := ⟨_, md13.eq⟩
  show sv_T sm_XS sm_cs sm_L sm_sh 4 (q_putInto S) 172 26 [(0, .ref 0), (1, sv_I x5), (2, sv_I x7)] [sv_I r15] (sv_sts S [5, 1011, 3, 4, 1007, 1075] g11)
  have md16 : sv_mod [1076, 41, 42, 43, 44, 45, 46, 47, 1075, 1100029, 1092, 60, 58, 57, 63, 64, 1073, 1109, 1110, 1111, 1112, 5, 1011, 3, 4, 1007, 1084, 1085, 48, 1086, 51, 52, 49, 50, 1100020, 1100021, 1100022] S (sv_sts S [5, 1011, 3, 4, 1007, 1075] g11) := sv_mod.sts sv_mod.rf (by decide)
  have h := h r15 hr15 g11 hpo14
  refine sv_istore_n hM dX12_putInto_26 (by decide) rfl ?_
  show sv_T sm_XS sm_cs sm_L sm_sh 4 (q_putInto S) 172 27 [(0, .ref 0), (1, sv_I x5), (2, sv_I x7), (3, sv_I r15)] [] (sv_sts S [5, 1011, 3, 4, 1007, 1075] g11)
  refine sv_aload_n hM dX12_putInto_27 rfl rfl ?_
  have k17 : (0 ≤ (g11 1075 0) ∧ (g11 1075 0) ≤ 1) := sm_okZ ok12 sm_r1075 0
  have h := h k17
  refine sv_getI hM dX12_putInto_28 sm_fl_794 (sm_a0 _) sm_k75 rfl (x := (g11 1075 0)) rfl ?_
  refine sv_cond_eq hM dX12_putInto_31 (sv_R01 k17) (t := 35) rfl rfl (fun hc => ?_) (fun hc => ?_)
  · have h := h.1 (hc)
    refine sv_iload_n hM dX12_putInto_35 rfl rfl ?_
    refine sv_iconst (d := (1 : Int)) hM dX12_putInto_36 rfl rfl ?_
    refine sv_icmp_gt hM dX12_putInto_37 e6r (⟨by decide, by decide⟩ : sv_R (1 : Int)) (t := 47) rfl rfl (fun hc => ?_) (fun hc => ?_)
    · have h := h.1 (hc)
      have J120 : ∀ s18 : Int, sv_R s18 → ((s18 = 0 ∨ s18 = 1) ∧ (s18 = 0 → ¬ (x5 = 7 ∧ (S 44 x7) = 2 ∧ r15 = 0))) → sv_T sm_XS sm_cs sm_L sm_sh 4 (q_putInto S) 172 72 [(0, .ref 0), (1, sv_I x5), (2, sv_I x7), (3, sv_I r15)] [sv_I s18] (sv_sts S [5, 1011, 3, 4, 1007, 1075] g11) := by
        intro s18 hs18 hin19
        have h := h.1 s18 hs18 hin19
        refine sv_istore hM dX12_putInto_72 (by decide) rfl ?_
        show sv_T sm_XS sm_cs sm_L sm_sh 4 (q_putInto S) 172 74 [(0, .ref 0), (1, sv_I x5), (2, sv_I x7), (3, sv_I r15), (4, sv_I s18)] [] (sv_sts S [5, 1011, 3, 4, 1007, 1075] g11)
        refine sv_iload_n hM dX12_putInto_74 rfl rfl ?_
        refine sv_bipush (d := (7 : Int)) hM dX12_putInto_75 rfl rfl ?_
        refine sv_icmp_ne hM dX12_putInto_77 e6r (⟨by decide, by decide⟩ : sv_R (7 : Int)) (t := 155) rfl rfl (fun hc => ?_) (fun hc => ?_)
        · have h := h.1 (hc)
          refine sv_aload_n hM dX12_putInto_155 rfl rfl ?_
          refine sv_aload_n hM dX12_putInto_156 rfl rfl ?_
          refine sv_iconst (d := (0 : Int)) hM dX12_putInto_157 rfl rfl ?_
          obtain ⟨o20, h⟩ := h
          refine sv_callV hM dX12_putInto_158 sm_iv_910 (by decide) (sm_a0 _) rfl rfl (Nat.le_of_ble_eq_true rfl) sm_h150 (Nat.le_of_ble_eq_true rfl) (Nat.le_of_ble_eq_true rfl) (F' := 1) (Nat.le_of_ble_eq_true rfl) rfl (t_sortAt (0 : Int) (sv_sts S [5, 1011, 3, 4, 1007, 1075] g11) ok12 (⟨by decide, by decide⟩ : sv_R (0 : Int)) o20) (fun v S1 hq => ?_)
          obtain ⟨rfl, hS1⟩ := hq
          obtain rfl : (sv_sts S [5, 1011, 3, 4, 1007, 1075] g11) = S1 := hS1.symm
          show sv_T sm_XS sm_cs sm_L sm_sh 4 (q_putInto S) 172 161 [(0, .ref 0), (1, sv_I x5), (2, sv_I x7), (3, sv_I r15), (4, sv_I s18)] [sv_I ((S 63 ((400 * ((S 1092 0) - 1) + (S 58 ((S 1092 0) - 1))) - 1 - (0 : Int)))), .ref 0] (sv_sts S [5, 1011, 3, 4, 1007, 1075] g11)
          refine sv_aload_n hM dX12_putInto_161 rfl rfl ?_
          refine sv_iconst (d := (0 : Int)) hM dX12_putInto_162 rfl rfl ?_
          refine sv_callV hM dX12_putInto_163 sm_iv_913 (by decide) (sm_a0 _) rfl rfl (Nat.le_of_ble_eq_true rfl) sm_h151 (Nat.le_of_ble_eq_true rfl) (Nat.le_of_ble_eq_true rfl) (F' := 1) (Nat.le_of_ble_eq_true rfl) rfl (t_valueAt (0 : Int) (sv_sts S [5, 1011, 3, 4, 1007, 1075] g11) ok12 (⟨by decide, by decide⟩ : sv_R (0 : Int)) o20) (fun v S1 hq => ?_)
          obtain ⟨rfl, hS1⟩ := hq
          obtain rfl : (sv_sts S [5, 1011, 3, 4, 1007, 1075] g11) = S1 := hS1.symm
          show sv_T sm_XS sm_cs sm_L sm_sh 4 (q_putInto S) 172 166 [(0, .ref 0), (1, sv_I x5), (2, sv_I x7), (3, sv_I r15), (4, sv_I s18)] [sv_I ((S 64 ((400 * ((S 1092 0) - 1) + (S 58 ((S 1092 0) - 1))) - 1 - (0 : Int)))), sv_I ((S 63 ((400 * ((S 1092 0) - 1) + (S 58 ((S 1092 0) - 1))) - 1 - (0 : Int)))), .ref 0] (sv_sts S [5, 1011, 3, 4, 1007, 1075] g11)
          refine sv_callV hM dX12_putInto_166 sm_iv_822 (by decide) (sm_a0 _) rfl rfl (Nat.le_of_ble_eq_true rfl) sm_h122 (Nat.le_of_ble_eq_true rfl) (Nat.le_of_ble_eq_true rfl) (F' := 0) (Nat.le_of_ble_eq_true rfl) rfl (t_give_ ((S 63 ((400 * ((S 1092 0) - 1) + (S 58 ((S 1092 0) - 1))) - 1 - (0 : Int)))) ((S 64 ((400 * ((S 1092 0) - 1) + (S 58 ((S 1092 0) - 1))) - 1 - (0 : Int)))) (sv_sts S [5, 1011, 3, 4, 1007, 1075] g11) ok12 (sm_okI ok12 sm_r63 _) (sm_okI ok12 sm_r64 _)) (fun v S1 hq => ?_)
          obtain ⟨rfl, ok22, md23, hpo24⟩ := hq
          obtain ⟨g21, rfl⟩ : ∃ g, S1 = sv_sts (sv_sts S [5, 1011, 3, 4, 1007, 1075] g11) [1111, 1112] g := ⟨_, md23.eq⟩
          show sv_T sm_XS sm_cs sm_L sm_sh 4 (q_putInto S) 172 169 [(0, .ref 0), (1, sv_I x5), (2, sv_I x7), (3, sv_I r15), (4, sv_I s18)] [] (sv_sts (sv_sts S [5, 1011, 3, 4, 1007, 1075] g11) [1111, 1112] g21)
          have md25 : sv_mod [1076, 41, 42, 43, 44, 45, 46, 47, 1075, 1100029, 1092, 60, 58, 57, 63, 64, 1073, 1109, 1110, 1111, 1112, 5, 1011, 3, 4, 1007, 1084, 1085, 48, 1086, 51, 52, 49, 50, 1100020, 1100021, 1100022] S (sv_sts (sv_sts S [5, 1011, 3, 4, 1007, 1075] g11) [1111, 1112] g21) := sv_mod.sts md16 (by decide)
          have h := h g21 hpo24
          refine sv_aload_n hM dX12_putInto_169 rfl rfl ?_
          refine sv_iconst (d := (3 : Int)) hM dX12_putInto_170 rfl rfl ?_
          obtain ⟨o26, h⟩ := h
          refine sv_callV hM dX12_putInto_171 sm_iv_904 (by decide) (sm_a0 _) rfl rfl (Nat.le_of_ble_eq_true rfl) sm_h155 (Nat.le_of_ble_eq_true rfl) (Nat.le_of_ble_eq_true rfl) (F' := 2) (Nat.le_of_ble_eq_true rfl) rfl (t_gives (3 : Int) (sv_sts (sv_sts S [5, 1011, 3, 4, 1007, 1075] g11) [1111, 1112] g21) ok22 (⟨by decide, by decide⟩ : sv_R (3 : Int)) o26) (fun v S1 hq => ?_)
          obtain ⟨rfl, ok28, md29, hpo30⟩ := hq
          obtain ⟨g27, rfl⟩ : ∃ g, S1 = sv_sts (sv_sts (sv_sts S [5, 1011, 3, 4, 1007, 1075] g11) [1111, 1112] g21) [58, 63, 64, 57] g := ⟨_, md29.eq⟩
          show sv_T sm_XS sm_cs sm_L sm_sh 4 (q_putInto S) 172 174 [(0, .ref 0), (1, sv_I x5), (2, sv_I x7), (3, sv_I r15), (4, sv_I s18)] [] (sv_sts (sv_sts (sv_sts S [5, 1011, 3, 4, 1007, 1075] g11) [1111, 1112] g21) [58, 63, 64, 57] g27)
          have md31 : sv_mod [1076, 41, 42, 43, 44, 45, 46, 47, 1075, 1100029, 1092, 60, 58, 57, 63, 64, 1073, 1109, 1110, 1111, 1112, 5, 1011, 3, 4, 1007, 1084, 1085, 48, 1086, 51, 52, 49, 50, 1100020, 1100021, 1100022] S (sv_sts (sv_sts (sv_sts S [5, 1011, 3, 4, 1007, 1075] g11) [1111, 1112] g21) [58, 63, 64, 57] g27) := sv_mod.sts md25 (by decide)
          have h := h g27 hpo30
          exact sv_vret hM dX12_putInto_174 rfl ⟨rfl, ok28, md31, h⟩
        · have h := h.2 (hc)
          refine sv_iload hM dX12_putInto_80 rfl rfl ?_
          refine sv_cond_ne hM dX12_putInto_82 hs18 (t := 155) rfl rfl (fun hc => ?_) (fun hc => ?_)
          · have h := h.1 (hc)
            refine sv_aload_n hM dX12_putInto_155 rfl rfl ?_
            refine sv_aload_n hM dX12_putInto_156 rfl rfl ?_
            refine sv_iconst (d := (0 : Int)) hM dX12_putInto_157 rfl rfl ?_
            obtain ⟨o32, h⟩ := h
            refine sv_callV hM dX12_putInto_158 sm_iv_910 (by decide) (sm_a0 _) rfl rfl (Nat.le_of_ble_eq_true rfl) sm_h150 (Nat.le_of_ble_eq_true rfl) (Nat.le_of_ble_eq_true rfl) (F' := 1) (Nat.le_of_ble_eq_true rfl) rfl (t_sortAt (0 : Int) (sv_sts S [5, 1011, 3, 4, 1007, 1075] g11) ok12 (⟨by decide, by decide⟩ : sv_R (0 : Int)) o32) (fun v S1 hq => ?_)
            obtain ⟨rfl, hS1⟩ := hq
            obtain rfl : (sv_sts S [5, 1011, 3, 4, 1007, 1075] g11) = S1 := hS1.symm
            show sv_T sm_XS sm_cs sm_L sm_sh 4 (q_putInto S) 172 161 [(0, .ref 0), (1, sv_I x5), (2, sv_I x7), (3, sv_I r15), (4, sv_I s18)] [sv_I ((S 63 ((400 * ((S 1092 0) - 1) + (S 58 ((S 1092 0) - 1))) - 1 - (0 : Int)))), .ref 0] (sv_sts S [5, 1011, 3, 4, 1007, 1075] g11)
            refine sv_aload_n hM dX12_putInto_161 rfl rfl ?_
            refine sv_iconst (d := (0 : Int)) hM dX12_putInto_162 rfl rfl ?_
            refine sv_callV hM dX12_putInto_163 sm_iv_913 (by decide) (sm_a0 _) rfl rfl (Nat.le_of_ble_eq_true rfl) sm_h151 (Nat.le_of_ble_eq_true rfl) (Nat.le_of_ble_eq_true rfl) (F' := 1) (Nat.le_of_ble_eq_true rfl) rfl (t_valueAt (0 : Int) (sv_sts S [5, 1011, 3, 4, 1007, 1075] g11) ok12 (⟨by decide, by decide⟩ : sv_R (0 : Int)) o32) (fun v S1 hq => ?_)
            obtain ⟨rfl, hS1⟩ := hq
            obtain rfl : (sv_sts S [5, 1011, 3, 4, 1007, 1075] g11) = S1 := hS1.symm
            show sv_T sm_XS sm_cs sm_L sm_sh 4 (q_putInto S) 172 166 [(0, .ref 0), (1, sv_I x5), (2, sv_I x7), (3, sv_I r15), (4, sv_I s18)] [sv_I ((S 64 ((400 * ((S 1092 0) - 1) + (S 58 ((S 1092 0) - 1))) - 1 - (0 : Int)))), sv_I ((S 63 ((400 * ((S 1092 0) - 1) + (S 58 ((S 1092 0) - 1))) - 1 - (0 : Int)))), .ref 0] (sv_sts S [5, 1011, 3, 4, 1007, 1075] g11)
            refine sv_callV hM dX12_putInto_166 sm_iv_822 (by decide) (sm_a0 _) rfl rfl (Nat.le_of_ble_eq_true rfl) sm_h122 (Nat.le_of_ble_eq_true rfl) (Nat.le_of_ble_eq_true rfl) (F' := 0) (Nat.le_of_ble_eq_true rfl) rfl (t_give_ ((S 63 ((400 * ((S 1092 0) - 1) + (S 58 ((S 1092 0) - 1))) - 1 - (0 : Int)))) ((S 64 ((400 * ((S 1092 0) - 1) + (S 58 ((S 1092 0) - 1))) - 1 - (0 : Int)))) (sv_sts S [5, 1011, 3, 4, 1007, 1075] g11) ok12 (sm_okI ok12 sm_r63 _) (sm_okI ok12 sm_r64 _)) (fun v S1 hq => ?_)
            obtain ⟨rfl, ok34, md35, hpo36⟩ := hq
            obtain ⟨g33, rfl⟩ : ∃ g, S1 = sv_sts (sv_sts S [5, 1011, 3, 4, 1007, 1075] g11) [1111, 1112] g := ⟨_, md35.eq⟩
            show sv_T sm_XS sm_cs sm_L sm_sh 4 (q_putInto S) 172 169 [(0, .ref 0), (1, sv_I x5), (2, sv_I x7), (3, sv_I r15), (4, sv_I s18)] [] (sv_sts (sv_sts S [5, 1011, 3, 4, 1007, 1075] g11) [1111, 1112] g33)
            have md37 : sv_mod [1076, 41, 42, 43, 44, 45, 46, 47, 1075, 1100029, 1092, 60, 58, 57, 63, 64, 1073, 1109, 1110, 1111, 1112, 5, 1011, 3, 4, 1007, 1084, 1085, 48, 1086, 51, 52, 49, 50, 1100020, 1100021, 1100022] S (sv_sts (sv_sts S [5, 1011, 3, 4, 1007, 1075] g11) [1111, 1112] g33) := sv_mod.sts md16 (by decide)
            have h := h g33 hpo36
            refine sv_aload_n hM dX12_putInto_169 rfl rfl ?_
            refine sv_iconst (d := (3 : Int)) hM dX12_putInto_170 rfl rfl ?_
            obtain ⟨o38, h⟩ := h
            refine sv_callV hM dX12_putInto_171 sm_iv_904 (by decide) (sm_a0 _) rfl rfl (Nat.le_of_ble_eq_true rfl) sm_h155 (Nat.le_of_ble_eq_true rfl) (Nat.le_of_ble_eq_true rfl) (F' := 2) (Nat.le_of_ble_eq_true rfl) rfl (t_gives (3 : Int) (sv_sts (sv_sts S [5, 1011, 3, 4, 1007, 1075] g11) [1111, 1112] g33) ok34 (⟨by decide, by decide⟩ : sv_R (3 : Int)) o38) (fun v S1 hq => ?_)
            obtain ⟨rfl, ok40, md41, hpo42⟩ := hq
            obtain ⟨g39, rfl⟩ : ∃ g, S1 = sv_sts (sv_sts (sv_sts S [5, 1011, 3, 4, 1007, 1075] g11) [1111, 1112] g33) [58, 63, 64, 57] g := ⟨_, md41.eq⟩
            show sv_T sm_XS sm_cs sm_L sm_sh 4 (q_putInto S) 172 174 [(0, .ref 0), (1, sv_I x5), (2, sv_I x7), (3, sv_I r15), (4, sv_I s18)] [] (sv_sts (sv_sts (sv_sts S [5, 1011, 3, 4, 1007, 1075] g11) [1111, 1112] g33) [58, 63, 64, 57] g39)
            have md43 : sv_mod [1076, 41, 42, 43, 44, 45, 46, 47, 1075, 1100029, 1092, 60, 58, 57, 63, 64, 1073, 1109, 1110, 1111, 1112, 5, 1011, 3, 4, 1007, 1084, 1085, 48, 1086, 51, 52, 49, 50, 1100020, 1100021, 1100022] S (sv_sts (sv_sts (sv_sts S [5, 1011, 3, 4, 1007, 1075] g11) [1111, 1112] g33) [58, 63, 64, 57] g39) := sv_mod.sts md37 (by decide)
            have h := h g39 hpo42
            exact sv_vret hM dX12_putInto_174 rfl ⟨rfl, ok40, md43, h⟩
          · have h := h.2 (hc)
            refine sv_aload_n hM dX12_putInto_85 rfl rfl ?_
            refine sv_iload_n hM dX12_putInto_86 rfl rfl ?_
            refine sv_iload_n hM dX12_putInto_87 rfl rfl ?_
            refine sv_aload_n hM dX12_putInto_88 rfl rfl ?_
            refine sv_iconst (d := (0 : Int)) hM dX12_putInto_89 rfl rfl ?_
            obtain ⟨o44, h⟩ := h
            refine sv_callV hM dX12_putInto_90 sm_iv_910 (by decide) (sm_a0 _) rfl rfl (Nat.le_of_ble_eq_true rfl) sm_h150 (Nat.le_of_ble_eq_true rfl) (Nat.le_of_ble_eq_true rfl) (F' := 1) (Nat.le_of_ble_eq_true rfl) rfl (t_sortAt (0 : Int) (sv_sts S [5, 1011, 3, 4, 1007, 1075] g11) ok12 (⟨by decide, by decide⟩ : sv_R (0 : Int)) o44) (fun v S1 hq => ?_)
            obtain ⟨rfl, hS1⟩ := hq
            obtain rfl : (sv_sts S [5, 1011, 3, 4, 1007, 1075] g11) = S1 := hS1.symm
            show sv_T sm_XS sm_cs sm_L sm_sh 4 (q_putInto S) 172 93 [(0, .ref 0), (1, sv_I x5), (2, sv_I x7), (3, sv_I r15), (4, sv_I s18)] [sv_I ((S 63 ((400 * ((S 1092 0) - 1) + (S 58 ((S 1092 0) - 1))) - 1 - (0 : Int)))), sv_I r15, sv_I x7, .ref 0] (sv_sts S [5, 1011, 3, 4, 1007, 1075] g11)
            refine sv_aload_n hM dX12_putInto_93 rfl rfl ?_
            refine sv_iconst (d := (0 : Int)) hM dX12_putInto_94 rfl rfl ?_
            refine sv_callV hM dX12_putInto_95 sm_iv_913 (by decide) (sm_a0 _) rfl rfl (Nat.le_of_ble_eq_true rfl) sm_h151 (Nat.le_of_ble_eq_true rfl) (Nat.le_of_ble_eq_true rfl) (F' := 1) (Nat.le_of_ble_eq_true rfl) rfl (t_valueAt (0 : Int) (sv_sts S [5, 1011, 3, 4, 1007, 1075] g11) ok12 (⟨by decide, by decide⟩ : sv_R (0 : Int)) o44) (fun v S1 hq => ?_)
            obtain ⟨rfl, hS1⟩ := hq
            obtain rfl : (sv_sts S [5, 1011, 3, 4, 1007, 1075] g11) = S1 := hS1.symm
            show sv_T sm_XS sm_cs sm_L sm_sh 4 (q_putInto S) 172 98 [(0, .ref 0), (1, sv_I x5), (2, sv_I x7), (3, sv_I r15), (4, sv_I s18)] [sv_I ((S 64 ((400 * ((S 1092 0) - 1) + (S 58 ((S 1092 0) - 1))) - 1 - (0 : Int)))), sv_I ((S 63 ((400 * ((S 1092 0) - 1) + (S 58 ((S 1092 0) - 1))) - 1 - (0 : Int)))), sv_I r15, sv_I x7, .ref 0] (sv_sts S [5, 1011, 3, 4, 1007, 1075] g11)
            obtain ⟨o45, h⟩ := h
            refine sv_callV hM dX12_putInto_98 sm_iv_870 (by decide) (sm_a0 _) rfl rfl (Nat.le_of_ble_eq_true rfl) sm_h141 (Nat.le_of_ble_eq_true rfl) (Nat.le_of_ble_eq_true rfl) (F' := 1) (Nat.le_of_ble_eq_true rfl) rfl (t_set_ x7 r15 ((S 63 ((400 * ((S 1092 0) - 1) + (S 58 ((S 1092 0) - 1))) - 1 - (0 : Int)))) ((S 64 ((400 * ((S 1092 0) - 1) + (S 58 ((S 1092 0) - 1))) - 1 - (0 : Int)))) (sv_sts S [5, 1011, 3, 4, 1007, 1075] g11) ok12 e8r hr15 (sm_okI ok12 sm_r63 _) (sm_okI ok12 sm_r64 _) o45) (fun v S1 hq => ?_)
            obtain ⟨rfl, ok47, md48, hpo49⟩ := hq
            obtain ⟨g46, rfl⟩ : ∃ g, S1 = sv_sts (sv_sts S [5, 1011, 3, 4, 1007, 1075] g11) [1084, 1085, 48, 1086, 51, 52, 46, 47, 49, 50, 1075, 1100020, 1100021, 1100022] g := ⟨_, md48.eq⟩
            show sv_T sm_XS sm_cs sm_L sm_sh 4 (q_putInto S) 172 101 [(0, .ref 0), (1, sv_I x5), (2, sv_I x7), (3, sv_I r15), (4, sv_I s18)] [] (sv_sts (sv_sts S [5, 1011, 3, 4, 1007, 1075] g11) [1084, 1085, 48, 1086, 51, 52, 46, 47, 49, 50, 1075, 1100020, 1100021, 1100022] g46)
            have md50 : sv_mod [1076, 41, 42, 43, 44, 45, 46, 47, 1075, 1100029, 1092, 60, 58, 57, 63, 64, 1073, 1109, 1110, 1111, 1112, 5, 1011, 3, 4, 1007, 1084, 1085, 48, 1086, 51, 52, 49, 50, 1100020, 1100021, 1100022] S (sv_sts (sv_sts S [5, 1011, 3, 4, 1007, 1075] g11) [1084, 1085, 48, 1086, 51, 52, 46, 47, 49, 50, 1075, 1100020, 1100021, 1100022] g46) := sv_mod.sts md16 (by decide)
            have h := h g46 hpo49
            have J111 : ∀ s51 : Int, sv_R s51 → (-1 ≤ s51 ∧ s51 ≤ 99 ∧ (¬ s51 = -1 → (S 44 x7) = 2)) → sv_T sm_XS sm_cs sm_L sm_sh 4 (q_putInto S) 172 120 [(0, .ref 0), (1, sv_I x5), (2, sv_I x7), (3, sv_I r15), (4, sv_I s18)] [sv_I s51] (sv_sts (sv_sts S [5, 1011, 3, 4, 1007, 1075] g11) [1084, 1085, 48, 1086, 51, 52, 46, 47, 49, 50, 1075, 1100020, 1100021, 1100022] g46) := by
              intro s51 hs51 hin52
              have h := h.1 s51 hs51 hin52
              refine sv_istore hM dX12_putInto_120 (by decide) rfl ?_
              show sv_T sm_XS sm_cs sm_L sm_sh 4 (q_putInto S) 172 122 [(0, .ref 0), (1, sv_I x5), (2, sv_I x7), (3, sv_I r15), (4, sv_I s18), (5, sv_I s51)] [] (sv_sts (sv_sts S [5, 1011, 3, 4, 1007, 1075] g11) [1084, 1085, 48, 1086, 51, 52, 46, 47, 49, 50, 1075, 1100020, 1100021, 1100022] g46)
              refine sv_aload_n hM dX12_putInto_122 rfl rfl ?_
              have k53 : (0 ≤ (g46 1075 0) ∧ (g46 1075 0) ≤ 1) := sm_okZ ok47 sm_r1075 0
              have h := h k53
              refine sv_getI hM dX12_putInto_123 sm_fl_794 (sm_a0 _) sm_k75 rfl (x := (g46 1075 0)) rfl ?_
              refine sv_cond_ne hM dX12_putInto_126 (sv_R01 k53) (t := 155) rfl rfl (fun hc => ?_) (fun hc => ?_)
              · have h := h.1 (hc)
                refine sv_aload_n hM dX12_putInto_155 rfl rfl ?_
                refine sv_aload_n hM dX12_putInto_156 rfl rfl ?_
                refine sv_iconst (d := (0 : Int)) hM dX12_putInto_157 rfl rfl ?_
                refine sv_callV hM dX12_putInto_158 sm_iv_910 (by decide) (sm_a0 _) rfl rfl (Nat.le_of_ble_eq_true rfl) sm_h150 (Nat.le_of_ble_eq_true rfl) (Nat.le_of_ble_eq_true rfl) (F' := 1) (Nat.le_of_ble_eq_true rfl) rfl (t_sortAt (0 : Int) (sv_sts (sv_sts S [5, 1011, 3, 4, 1007, 1075] g11) [1084, 1085, 48, 1086, 51, 52, 46, 47, 49, 50, 1075, 1100020, 1100021, 1100022] g46) ok47 (⟨by decide, by decide⟩ : sv_R (0 : Int)) o44) (fun v S1 hq => ?_)
                obtain ⟨rfl, hS1⟩ := hq
                obtain rfl : (sv_sts (sv_sts S [5, 1011, 3, 4, 1007, 1075] g11) [1084, 1085, 48, 1086, 51, 52, 46, 47, 49, 50, 1075, 1100020, 1100021, 1100022] g46) = S1 := hS1.symm
                show sv_T sm_XS sm_cs sm_L sm_sh 4 (q_putInto S) 172 161 [(0, .ref 0), (1, sv_I x5), (2, sv_I x7), (3, sv_I r15), (4, sv_I s18), (5, sv_I s51)] [sv_I ((S 63 ((400 * ((S 1092 0) - 1) + (S 58 ((S 1092 0) - 1))) - 1 - (0 : Int)))), .ref 0] (sv_sts (sv_sts S [5, 1011, 3, 4, 1007, 1075] g11) [1084, 1085, 48, 1086, 51, 52, 46, 47, 49, 50, 1075, 1100020, 1100021, 1100022] g46)
                refine sv_aload_n hM dX12_putInto_161 rfl rfl ?_
                refine sv_iconst (d := (0 : Int)) hM dX12_putInto_162 rfl rfl ?_
                refine sv_callV hM dX12_putInto_163 sm_iv_913 (by decide) (sm_a0 _) rfl rfl (Nat.le_of_ble_eq_true rfl) sm_h151 (Nat.le_of_ble_eq_true rfl) (Nat.le_of_ble_eq_true rfl) (F' := 1) (Nat.le_of_ble_eq_true rfl) rfl (t_valueAt (0 : Int) (sv_sts (sv_sts S [5, 1011, 3, 4, 1007, 1075] g11) [1084, 1085, 48, 1086, 51, 52, 46, 47, 49, 50, 1075, 1100020, 1100021, 1100022] g46) ok47 (⟨by decide, by decide⟩ : sv_R (0 : Int)) o44) (fun v S1 hq => ?_)
                obtain ⟨rfl, hS1⟩ := hq
                obtain rfl : (sv_sts (sv_sts S [5, 1011, 3, 4, 1007, 1075] g11) [1084, 1085, 48, 1086, 51, 52, 46, 47, 49, 50, 1075, 1100020, 1100021, 1100022] g46) = S1 := hS1.symm
                show sv_T sm_XS sm_cs sm_L sm_sh 4 (q_putInto S) 172 166 [(0, .ref 0), (1, sv_I x5), (2, sv_I x7), (3, sv_I r15), (4, sv_I s18), (5, sv_I s51)] [sv_I ((S 64 ((400 * ((S 1092 0) - 1) + (S 58 ((S 1092 0) - 1))) - 1 - (0 : Int)))), sv_I ((S 63 ((400 * ((S 1092 0) - 1) + (S 58 ((S 1092 0) - 1))) - 1 - (0 : Int)))), .ref 0] (sv_sts (sv_sts S [5, 1011, 3, 4, 1007, 1075] g11) [1084, 1085, 48, 1086, 51, 52, 46, 47, 49, 50, 1075, 1100020, 1100021, 1100022] g46)
                refine sv_callV hM dX12_putInto_166 sm_iv_822 (by decide) (sm_a0 _) rfl rfl (Nat.le_of_ble_eq_true rfl) sm_h122 (Nat.le_of_ble_eq_true rfl) (Nat.le_of_ble_eq_true rfl) (F' := 0) (Nat.le_of_ble_eq_true rfl) rfl (t_give_ ((S 63 ((400 * ((S 1092 0) - 1) + (S 58 ((S 1092 0) - 1))) - 1 - (0 : Int)))) ((S 64 ((400 * ((S 1092 0) - 1) + (S 58 ((S 1092 0) - 1))) - 1 - (0 : Int)))) (sv_sts (sv_sts S [5, 1011, 3, 4, 1007, 1075] g11) [1084, 1085, 48, 1086, 51, 52, 46, 47, 49, 50, 1075, 1100020, 1100021, 1100022] g46) ok47 (sm_okI ok12 sm_r63 _) (sm_okI ok12 sm_r64 _)) (fun v S1 hq => ?_)
                obtain ⟨rfl, ok55, md56, hpo57⟩ := hq
                obtain ⟨g54, rfl⟩ : ∃ g, S1 = sv_sts (sv_sts (sv_sts S [5, 1011, 3, 4, 1007, 1075] g11) [1084, 1085, 48, 1086, 51, 52, 46, 47, 49, 50, 1075, 1100020, 1100021, 1100022] g46) [1111, 1112] g := ⟨_, md56.eq⟩
                show sv_T sm_XS sm_cs sm_L sm_sh 4 (q_putInto S) 172 169 [(0, .ref 0), (1, sv_I x5), (2, sv_I x7), (3, sv_I r15), (4, sv_I s18), (5, sv_I s51)] [] (sv_sts (sv_sts (sv_sts S [5, 1011, 3, 4, 1007, 1075] g11) [1084, 1085, 48, 1086, 51, 52, 46, 47, 49, 50, 1075, 1100020, 1100021, 1100022] g46) [1111, 1112] g54)
                have md58 : sv_mod [1076, 41, 42, 43, 44, 45, 46, 47, 1075, 1100029, 1092, 60, 58, 57, 63, 64, 1073, 1109, 1110, 1111, 1112, 5, 1011, 3, 4, 1007, 1084, 1085, 48, 1086, 51, 52, 49, 50, 1100020, 1100021, 1100022] S (sv_sts (sv_sts (sv_sts S [5, 1011, 3, 4, 1007, 1075] g11) [1084, 1085, 48, 1086, 51, 52, 46, 47, 49, 50, 1075, 1100020, 1100021, 1100022] g46) [1111, 1112] g54) := sv_mod.sts md50 (by decide)
                have h := h g54 hpo57
                refine sv_aload_n hM dX12_putInto_169 rfl rfl ?_
                refine sv_iconst (d := (3 : Int)) hM dX12_putInto_170 rfl rfl ?_
                obtain ⟨o59, h⟩ := h
                refine sv_callV hM dX12_putInto_171 sm_iv_904 (by decide) (sm_a0 _) rfl rfl (Nat.le_of_ble_eq_true rfl) sm_h155 (Nat.le_of_ble_eq_true rfl) (Nat.le_of_ble_eq_true rfl) (F' := 2) (Nat.le_of_ble_eq_true rfl) rfl (t_gives (3 : Int) (sv_sts (sv_sts (sv_sts S [5, 1011, 3, 4, 1007, 1075] g11) [1084, 1085, 48, 1086, 51, 52, 46, 47, 49, 50, 1075, 1100020, 1100021, 1100022] g46) [1111, 1112] g54) ok55 (⟨by decide, by decide⟩ : sv_R (3 : Int)) o59) (fun v S1 hq => ?_)
                obtain ⟨rfl, ok61, md62, hpo63⟩ := hq
                obtain ⟨g60, rfl⟩ : ∃ g, S1 = sv_sts (sv_sts (sv_sts (sv_sts S [5, 1011, 3, 4, 1007, 1075] g11) [1084, 1085, 48, 1086, 51, 52, 46, 47, 49, 50, 1075, 1100020, 1100021, 1100022] g46) [1111, 1112] g54) [58, 63, 64, 57] g := ⟨_, md62.eq⟩
                show sv_T sm_XS sm_cs sm_L sm_sh 4 (q_putInto S) 172 174 [(0, .ref 0), (1, sv_I x5), (2, sv_I x7), (3, sv_I r15), (4, sv_I s18), (5, sv_I s51)] [] (sv_sts (sv_sts (sv_sts (sv_sts S [5, 1011, 3, 4, 1007, 1075] g11) [1084, 1085, 48, 1086, 51, 52, 46, 47, 49, 50, 1075, 1100020, 1100021, 1100022] g46) [1111, 1112] g54) [58, 63, 64, 57] g60)
                have md64 : sv_mod [1076, 41, 42, 43, 44, 45, 46, 47, 1075, 1100029, 1092, 60, 58, 57, 63, 64, 1073, 1109, 1110, 1111, 1112, 5, 1011, 3, 4, 1007, 1084, 1085, 48, 1086, 51, 52, 49, 50, 1100020, 1100021, 1100022] S (sv_sts (sv_sts (sv_sts (sv_sts S [5, 1011, 3, 4, 1007, 1075] g11) [1084, 1085, 48, 1086, 51, 52, 46, 47, 49, 50, 1075, 1100020, 1100021, 1100022] g46) [1111, 1112] g54) [58, 63, 64, 57] g60) := sv_mod.sts md58 (by decide)
                have h := h g60 hpo63
                exact sv_vret hM dX12_putInto_174 rfl ⟨rfl, ok61, md64, h⟩
              · have h := h.2 (hc)
                refine sv_iload hM dX12_putInto_129 rfl rfl ?_
                refine sv_cond_lt hM dX12_putInto_131 hs51 (t := 155) rfl rfl (fun hc => ?_) (fun hc => ?_)
                · have h := h.1 (hc)
                  refine sv_aload_n hM dX12_putInto_155 rfl rfl ?_
                  refine sv_aload_n hM dX12_putInto_156 rfl rfl ?_
                  refine sv_iconst (d := (0 : Int)) hM dX12_putInto_157 rfl rfl ?_
                  refine sv_callV hM dX12_putInto_158 sm_iv_910 (by decide) (sm_a0 _) rfl rfl (Nat.le_of_ble_eq_true rfl) sm_h150 (Nat.le_of_ble_eq_true rfl) (Nat.le_of_ble_eq_true rfl) (F' := 1) (Nat.le_of_ble_eq_true rfl) rfl (t_sortAt (0 : Int) (sv_sts (sv_sts S [5, 1011, 3, 4, 1007, 1075] g11) [1084, 1085, 48, 1086, 51, 52, 46, 47, 49, 50, 1075, 1100020, 1100021, 1100022] g46) ok47 (⟨by decide, by decide⟩ : sv_R (0 : Int)) o44) (fun v S1 hq => ?_)
                  obtain ⟨rfl, hS1⟩ := hq
                  obtain rfl : (sv_sts (sv_sts S [5, 1011, 3, 4, 1007, 1075] g11) [1084, 1085, 48, 1086, 51, 52, 46, 47, 49, 50, 1075, 1100020, 1100021, 1100022] g46) = S1 := hS1.symm
                  show sv_T sm_XS sm_cs sm_L sm_sh 4 (q_putInto S) 172 161 [(0, .ref 0), (1, sv_I x5), (2, sv_I x7), (3, sv_I r15), (4, sv_I s18), (5, sv_I s51)] [sv_I ((S 63 ((400 * ((S 1092 0) - 1) + (S 58 ((S 1092 0) - 1))) - 1 - (0 : Int)))), .ref 0] (sv_sts (sv_sts S [5, 1011, 3, 4, 1007, 1075] g11) [1084, 1085, 48, 1086, 51, 52, 46, 47, 49, 50, 1075, 1100020, 1100021, 1100022] g46)
                  refine sv_aload_n hM dX12_putInto_161 rfl rfl ?_
                  refine sv_iconst (d := (0 : Int)) hM dX12_putInto_162 rfl rfl ?_
                  refine sv_callV hM dX12_putInto_163 sm_iv_913 (by decide) (sm_a0 _) rfl rfl (Nat.le_of_ble_eq_true rfl) sm_h151 (Nat.le_of_ble_eq_true rfl) (Nat.le_of_ble_eq_true rfl) (F' := 1) (Nat.le_of_ble_eq_true rfl) rfl (t_valueAt (0 : Int) (sv_sts (sv_sts S [5, 1011, 3, 4, 1007, 1075] g11) [1084, 1085, 48, 1086, 51, 52, 46, 47, 49, 50, 1075, 1100020, 1100021, 1100022] g46) ok47 (⟨by decide, by decide⟩ : sv_R (0 : Int)) o44) (fun v S1 hq => ?_)
                  obtain ⟨rfl, hS1⟩ := hq
                  obtain rfl : (sv_sts (sv_sts S [5, 1011, 3, 4, 1007, 1075] g11) [1084, 1085, 48, 1086, 51, 52, 46, 47, 49, 50, 1075, 1100020, 1100021, 1100022] g46) = S1 := hS1.symm
                  show sv_T sm_XS sm_cs sm_L sm_sh 4 (q_putInto S) 172 166 [(0, .ref 0), (1, sv_I x5), (2, sv_I x7), (3, sv_I r15), (4, sv_I s18), (5, sv_I s51)] [sv_I ((S 64 ((400 * ((S 1092 0) - 1) + (S 58 ((S 1092 0) - 1))) - 1 - (0 : Int)))), sv_I ((S 63 ((400 * ((S 1092 0) - 1) + (S 58 ((S 1092 0) - 1))) - 1 - (0 : Int)))), .ref 0] (sv_sts (sv_sts S [5, 1011, 3, 4, 1007, 1075] g11) [1084, 1085, 48, 1086, 51, 52, 46, 47, 49, 50, 1075, 1100020, 1100021, 1100022] g46)
                  refine sv_callV hM dX12_putInto_166 sm_iv_822 (by decide) (sm_a0 _) rfl rfl (Nat.le_of_ble_eq_true rfl) sm_h122 (Nat.le_of_ble_eq_true rfl) (Nat.le_of_ble_eq_true rfl) (F' := 0) (Nat.le_of_ble_eq_true rfl) rfl (t_give_ ((S 63 ((400 * ((S 1092 0) - 1) + (S 58 ((S 1092 0) - 1))) - 1 - (0 : Int)))) ((S 64 ((400 * ((S 1092 0) - 1) + (S 58 ((S 1092 0) - 1))) - 1 - (0 : Int)))) (sv_sts (sv_sts S [5, 1011, 3, 4, 1007, 1075] g11) [1084, 1085, 48, 1086, 51, 52, 46, 47, 49, 50, 1075, 1100020, 1100021, 1100022] g46) ok47 (sm_okI ok12 sm_r63 _) (sm_okI ok12 sm_r64 _)) (fun v S1 hq => ?_)
                  obtain ⟨rfl, ok66, md67, hpo68⟩ := hq
                  obtain ⟨g65, rfl⟩ : ∃ g, S1 = sv_sts (sv_sts (sv_sts S [5, 1011, 3, 4, 1007, 1075] g11) [1084, 1085, 48, 1086, 51, 52, 46, 47, 49, 50, 1075, 1100020, 1100021, 1100022] g46) [1111, 1112] g := ⟨_, md67.eq⟩
                  show sv_T sm_XS sm_cs sm_L sm_sh 4 (q_putInto S) 172 169 [(0, .ref 0), (1, sv_I x5), (2, sv_I x7), (3, sv_I r15), (4, sv_I s18), (5, sv_I s51)] [] (sv_sts (sv_sts (sv_sts S [5, 1011, 3, 4, 1007, 1075] g11) [1084, 1085, 48, 1086, 51, 52, 46, 47, 49, 50, 1075, 1100020, 1100021, 1100022] g46) [1111, 1112] g65)
                  have md69 : sv_mod [1076, 41, 42, 43, 44, 45, 46, 47, 1075, 1100029, 1092, 60, 58, 57, 63, 64, 1073, 1109, 1110, 1111, 1112, 5, 1011, 3, 4, 1007, 1084, 1085, 48, 1086, 51, 52, 49, 50, 1100020, 1100021, 1100022] S (sv_sts (sv_sts (sv_sts S [5, 1011, 3, 4, 1007, 1075] g11) [1084, 1085, 48, 1086, 51, 52, 46, 47, 49, 50, 1075, 1100020, 1100021, 1100022] g46) [1111, 1112] g65) := sv_mod.sts md50 (by decide)
                  have h := h g65 hpo68
                  refine sv_aload_n hM dX12_putInto_169 rfl rfl ?_
                  refine sv_iconst (d := (3 : Int)) hM dX12_putInto_170 rfl rfl ?_
                  obtain ⟨o70, h⟩ := h
                  refine sv_callV hM dX12_putInto_171 sm_iv_904 (by decide) (sm_a0 _) rfl rfl (Nat.le_of_ble_eq_true rfl) sm_h155 (Nat.le_of_ble_eq_true rfl) (Nat.le_of_ble_eq_true rfl) (F' := 2) (Nat.le_of_ble_eq_true rfl) rfl (t_gives (3 : Int) (sv_sts (sv_sts (sv_sts S [5, 1011, 3, 4, 1007, 1075] g11) [1084, 1085, 48, 1086, 51, 52, 46, 47, 49, 50, 1075, 1100020, 1100021, 1100022] g46) [1111, 1112] g65) ok66 (⟨by decide, by decide⟩ : sv_R (3 : Int)) o70) (fun v S1 hq => ?_)
                  obtain ⟨rfl, ok72, md73, hpo74⟩ := hq
                  obtain ⟨g71, rfl⟩ : ∃ g, S1 = sv_sts (sv_sts (sv_sts (sv_sts S [5, 1011, 3, 4, 1007, 1075] g11) [1084, 1085, 48, 1086, 51, 52, 46, 47, 49, 50, 1075, 1100020, 1100021, 1100022] g46) [1111, 1112] g65) [58, 63, 64, 57] g := ⟨_, md73.eq⟩
                  show sv_T sm_XS sm_cs sm_L sm_sh 4 (q_putInto S) 172 174 [(0, .ref 0), (1, sv_I x5), (2, sv_I x7), (3, sv_I r15), (4, sv_I s18), (5, sv_I s51)] [] (sv_sts (sv_sts (sv_sts (sv_sts S [5, 1011, 3, 4, 1007, 1075] g11) [1084, 1085, 48, 1086, 51, 52, 46, 47, 49, 50, 1075, 1100020, 1100021, 1100022] g46) [1111, 1112] g65) [58, 63, 64, 57] g71)
                  have md75 : sv_mod [1076, 41, 42, 43, 44, 45, 46, 47, 1075, 1100029, 1092, 60, 58, 57, 63, 64, 1073, 1109, 1110, 1111, 1112, 5, 1011, 3, 4, 1007, 1084, 1085, 48, 1086, 51, 52, 49, 50, 1100020, 1100021, 1100022] S (sv_sts (sv_sts (sv_sts (sv_sts S [5, 1011, 3, 4, 1007, 1075] g11) [1084, 1085, 48, 1086, 51, 52, 46, 47, 49, 50, 1075, 1100020, 1100021, 1100022] g46) [1111, 1112] g65) [58, 63, 64, 57] g71) := sv_mod.sts md69 (by decide)
                  have h := h g71 hpo74
                  exact sv_vret hM dX12_putInto_174 rfl ⟨rfl, ok72, md75, h⟩
                · have h := h.2 (hc)
                  refine sv_iload hM dX12_putInto_134 rfl rfl ?_
                  refine sv_aload_n hM dX12_putInto_136 rfl rfl ?_
                  refine sv_iload_n hM dX12_putInto_137 rfl rfl ?_
                  obtain ⟨o76, h⟩ := h
                  refine sv_callV hM dX12_putInto_138 sm_iv_978 (by decide) (sm_a0 _) rfl rfl (Nat.le_of_ble_eq_true rfl) sm_h144 (Nat.le_of_ble_eq_true rfl) (Nat.le_of_ble_eq_true rfl) (F' := 1) (Nat.le_of_ble_eq_true rfl) rfl (t_lengthOf x7 (sv_sts (sv_sts S [5, 1011, 3, 4, 1007, 1075] g11) [1084, 1085, 48, 1086, 51, 52, 46, 47, 49, 50, 1075, 1100020, 1100021, 1100022] g46) ok47 e8r o76) (fun v S1 hq => ?_)
                  obtain ⟨r81, rfl, hr81, ok78, md79, hpo80⟩ := hq
                  obtain rfl : (sv_sts (sv_sts S [5, 1011, 3, 4, 1007, 1075] g11) [1084, 1085, 48, 1086, 51, 52, 46, 47, 49, 50, 1075, 1100020, 1100021, 1100022] g46) = S1 := (funext fun j => md79 j (by intro q; cases q)).symm
                  show sv_T sm_XS sm_cs sm_L sm_sh 4 (q_putInto S) 172 141 [(0, .ref 0), (1, sv_I x5), (2, sv_I x7), (3, sv_I r15), (4, sv_I s18), (5, sv_I s51)] [sv_I r81, sv_I s51] (sv_sts (sv_sts S [5, 1011, 3, 4, 1007, 1075] g11) [1084, 1085, 48, 1086, 51, 52, 46, 47, 49, 50, 1075, 1100020, 1100021, 1100022] g46)
                  have h := h r81 hr81 hpo80
                  refine sv_icmp_lt hM dX12_putInto_141 hs51 hr81 (t := 155) rfl rfl (fun hc => ?_) (fun hc => ?_)
                  · have h := h.1 (hc)
                    refine sv_aload_n hM dX12_putInto_155 rfl rfl ?_
                    refine sv_aload_n hM dX12_putInto_156 rfl rfl ?_
                    refine sv_iconst (d := (0 : Int)) hM dX12_putInto_157 rfl rfl ?_
                    refine sv_callV hM dX12_putInto_158 sm_iv_910 (by decide) (sm_a0 _) rfl rfl (Nat.le_of_ble_eq_true rfl) sm_h150 (Nat.le_of_ble_eq_true rfl) (Nat.le_of_ble_eq_true rfl) (F' := 1) (Nat.le_of_ble_eq_true rfl) rfl (t_sortAt (0 : Int) (sv_sts (sv_sts S [5, 1011, 3, 4, 1007, 1075] g11) [1084, 1085, 48, 1086, 51, 52, 46, 47, 49, 50, 1075, 1100020, 1100021, 1100022] g46) ok78 (⟨by decide, by decide⟩ : sv_R (0 : Int)) o44) (fun v S1 hq => ?_)
                    obtain ⟨rfl, hS1⟩ := hq
                    obtain rfl : (sv_sts (sv_sts S [5, 1011, 3, 4, 1007, 1075] g11) [1084, 1085, 48, 1086, 51, 52, 46, 47, 49, 50, 1075, 1100020, 1100021, 1100022] g46) = S1 := hS1.symm
                    show sv_T sm_XS sm_cs sm_L sm_sh 4 (q_putInto S) 172 161 [(0, .ref 0), (1, sv_I x5), (2, sv_I x7), (3, sv_I r15), (4, sv_I s18), (5, sv_I s51)] [sv_I ((S 63 ((400 * ((S 1092 0) - 1) + (S 58 ((S 1092 0) - 1))) - 1 - (0 : Int)))), .ref 0] (sv_sts (sv_sts S [5, 1011, 3, 4, 1007, 1075] g11) [1084, 1085, 48, 1086, 51, 52, 46, 47, 49, 50, 1075, 1100020, 1100021, 1100022] g46)
                    refine sv_aload_n hM dX12_putInto_161 rfl rfl ?_
                    refine sv_iconst (d := (0 : Int)) hM dX12_putInto_162 rfl rfl ?_
                    refine sv_callV hM dX12_putInto_163 sm_iv_913 (by decide) (sm_a0 _) rfl rfl (Nat.le_of_ble_eq_true rfl) sm_h151 (Nat.le_of_ble_eq_true rfl) (Nat.le_of_ble_eq_true rfl) (F' := 1) (Nat.le_of_ble_eq_true rfl) rfl (t_valueAt (0 : Int) (sv_sts (sv_sts S [5, 1011, 3, 4, 1007, 1075] g11) [1084, 1085, 48, 1086, 51, 52, 46, 47, 49, 50, 1075, 1100020, 1100021, 1100022] g46) ok78 (⟨by decide, by decide⟩ : sv_R (0 : Int)) o44) (fun v S1 hq => ?_)
                    obtain ⟨rfl, hS1⟩ := hq
                    obtain rfl : (sv_sts (sv_sts S [5, 1011, 3, 4, 1007, 1075] g11) [1084, 1085, 48, 1086, 51, 52, 46, 47, 49, 50, 1075, 1100020, 1100021, 1100022] g46) = S1 := hS1.symm
                    show sv_T sm_XS sm_cs sm_L sm_sh 4 (q_putInto S) 172 166 [(0, .ref 0), (1, sv_I x5), (2, sv_I x7), (3, sv_I r15), (4, sv_I s18), (5, sv_I s51)] [sv_I ((S 64 ((400 * ((S 1092 0) - 1) + (S 58 ((S 1092 0) - 1))) - 1 - (0 : Int)))), sv_I ((S 63 ((400 * ((S 1092 0) - 1) + (S 58 ((S 1092 0) - 1))) - 1 - (0 : Int)))), .ref 0] (sv_sts (sv_sts S [5, 1011, 3, 4, 1007, 1075] g11) [1084, 1085, 48, 1086, 51, 52, 46, 47, 49, 50, 1075, 1100020, 1100021, 1100022] g46)
                    refine sv_callV hM dX12_putInto_166 sm_iv_822 (by decide) (sm_a0 _) rfl rfl (Nat.le_of_ble_eq_true rfl) sm_h122 (Nat.le_of_ble_eq_true rfl) (Nat.le_of_ble_eq_true rfl) (F' := 0) (Nat.le_of_ble_eq_true rfl) rfl (t_give_ ((S 63 ((400 * ((S 1092 0) - 1) + (S 58 ((S 1092 0) - 1))) - 1 - (0 : Int)))) ((S 64 ((400 * ((S 1092 0) - 1) + (S 58 ((S 1092 0) - 1))) - 1 - (0 : Int)))) (sv_sts (sv_sts S [5, 1011, 3, 4, 1007, 1075] g11) [1084, 1085, 48, 1086, 51, 52, 46, 47, 49, 50, 1075, 1100020, 1100021, 1100022] g46) ok78 (sm_okI ok12 sm_r63 _) (sm_okI ok12 sm_r64 _)) (fun v S1 hq => ?_)
                    obtain ⟨rfl, ok83, md84, hpo85⟩ := hq
                    obtain ⟨g82, rfl⟩ : ∃ g, S1 = sv_sts (sv_sts (sv_sts S [5, 1011, 3, 4, 1007, 1075] g11) [1084, 1085, 48, 1086, 51, 52, 46, 47, 49, 50, 1075, 1100020, 1100021, 1100022] g46) [1111, 1112] g := ⟨_, md84.eq⟩
                    show sv_T sm_XS sm_cs sm_L sm_sh 4 (q_putInto S) 172 169 [(0, .ref 0), (1, sv_I x5), (2, sv_I x7), (3, sv_I r15), (4, sv_I s18), (5, sv_I s51)] [] (sv_sts (sv_sts (sv_sts S [5, 1011, 3, 4, 1007, 1075] g11) [1084, 1085, 48, 1086, 51, 52, 46, 47, 49, 50, 1075, 1100020, 1100021, 1100022] g46) [1111, 1112] g82)
                    have md86 : sv_mod [1076, 41, 42, 43, 44, 45, 46, 47, 1075, 1100029, 1092, 60, 58, 57, 63, 64, 1073, 1109, 1110, 1111, 1112, 5, 1011, 3, 4, 1007, 1084, 1085, 48, 1086, 51, 52, 49, 50, 1100020, 1100021, 1100022] S (sv_sts (sv_sts (sv_sts S [5, 1011, 3, 4, 1007, 1075] g11) [1084, 1085, 48, 1086, 51, 52, 46, 47, 49, 50, 1075, 1100020, 1100021, 1100022] g46) [1111, 1112] g82) := sv_mod.sts md50 (by decide)
                    have h := h g82 hpo85
                    refine sv_aload_n hM dX12_putInto_169 rfl rfl ?_
                    refine sv_iconst (d := (3 : Int)) hM dX12_putInto_170 rfl rfl ?_
                    obtain ⟨o87, h⟩ := h
                    refine sv_callV hM dX12_putInto_171 sm_iv_904 (by decide) (sm_a0 _) rfl rfl (Nat.le_of_ble_eq_true rfl) sm_h155 (Nat.le_of_ble_eq_true rfl) (Nat.le_of_ble_eq_true rfl) (F' := 2) (Nat.le_of_ble_eq_true rfl) rfl (t_gives (3 : Int) (sv_sts (sv_sts (sv_sts S [5, 1011, 3, 4, 1007, 1075] g11) [1084, 1085, 48, 1086, 51, 52, 46, 47, 49, 50, 1075, 1100020, 1100021, 1100022] g46) [1111, 1112] g82) ok83 (⟨by decide, by decide⟩ : sv_R (3 : Int)) o87) (fun v S1 hq => ?_)
                    obtain ⟨rfl, ok89, md90, hpo91⟩ := hq
                    obtain ⟨g88, rfl⟩ : ∃ g, S1 = sv_sts (sv_sts (sv_sts (sv_sts S [5, 1011, 3, 4, 1007, 1075] g11) [1084, 1085, 48, 1086, 51, 52, 46, 47, 49, 50, 1075, 1100020, 1100021, 1100022] g46) [1111, 1112] g82) [58, 63, 64, 57] g := ⟨_, md90.eq⟩
                    show sv_T sm_XS sm_cs sm_L sm_sh 4 (q_putInto S) 172 174 [(0, .ref 0), (1, sv_I x5), (2, sv_I x7), (3, sv_I r15), (4, sv_I s18), (5, sv_I s51)] [] (sv_sts (sv_sts (sv_sts (sv_sts S [5, 1011, 3, 4, 1007, 1075] g11) [1084, 1085, 48, 1086, 51, 52, 46, 47, 49, 50, 1075, 1100020, 1100021, 1100022] g46) [1111, 1112] g82) [58, 63, 64, 57] g88)
                    have md92 : sv_mod [1076, 41, 42, 43, 44, 45, 46, 47, 1075, 1100029, 1092, 60, 58, 57, 63, 64, 1073, 1109, 1110, 1111, 1112, 5, 1011, 3, 4, 1007, 1084, 1085, 48, 1086, 51, 52, 49, 50, 1100020, 1100021, 1100022] S (sv_sts (sv_sts (sv_sts (sv_sts S [5, 1011, 3, 4, 1007, 1075] g11) [1084, 1085, 48, 1086, 51, 52, 46, 47, 49, 50, 1075, 1100020, 1100021, 1100022] g46) [1111, 1112] g82) [58, 63, 64, 57] g88) := sv_mod.sts md86 (by decide)
                    have h := h g88 hpo91
                    exact sv_vret hM dX12_putInto_174 rfl ⟨rfl, ok89, md92, h⟩
                  · have h := h.2 (hc)
                    refine sv_aload_n hM dX12_putInto_144 rfl rfl ?_
                    refine sv_iload_n hM dX12_putInto_145 rfl rfl ?_
                    refine sv_iconst (d := (0 : Int)) hM dX12_putInto_146 rfl rfl ?_
                    refine sv_iconst (d := (5 : Int)) hM dX12_putInto_147 rfl rfl ?_
                    refine sv_iload hM dX12_putInto_148 rfl rfl ?_
                    refine sv_iconst (d := (1 : Int)) hM dX12_putInto_150 rfl rfl ?_
                    refine sv_iadd hM dX12_putInto_151 rfl ?_
                    obtain ⟨o93, h⟩ := h
                    obtain ⟨o94, h⟩ := h
                    refine sv_callV hM dX12_putInto_152 sm_iv_870 (by decide) (sm_a0 _) rfl rfl (Nat.le_of_ble_eq_true rfl) sm_h141 (Nat.le_of_ble_eq_true rfl) (Nat.le_of_ble_eq_true rfl) (F' := 1) (Nat.le_of_ble_eq_true rfl) rfl (t_set_ x7 (0 : Int) (5 : Int) (s51 + (1 : Int)) (sv_sts (sv_sts S [5, 1011, 3, 4, 1007, 1075] g11) [1084, 1085, 48, 1086, 51, 52, 46, 47, 49, 50, 1075, 1100020, 1100021, 1100022] g46) ok78 e8r (⟨by decide, by decide⟩ : sv_R (0 : Int)) (⟨by decide, by decide⟩ : sv_R (5 : Int)) o93 o94) (fun v S1 hq => ?_)
                    obtain ⟨rfl, ok96, md97, hpo98⟩ := hq
                    obtain ⟨g95, rfl⟩ : ∃ g, S1 = sv_sts (sv_sts (sv_sts S [5, 1011, 3, 4, 1007, 1075] g11) [1084, 1085, 48, 1086, 51, 52, 46, 47, 49, 50, 1075, 1100020, 1100021, 1100022] g46) [1084, 1085, 48, 1086, 51, 52, 46, 47, 49, 50, 1075, 1100020, 1100021, 1100022] g := ⟨_, md97.eq⟩
                    show sv_T sm_XS sm_cs sm_L sm_sh 4 (q_putInto S) 172 155 [(0, .ref 0), (1, sv_I x5), (2, sv_I x7), (3, sv_I r15), (4, sv_I s18), (5, sv_I s51)] [] (sv_sts (sv_sts (sv_sts S [5, 1011, 3, 4, 1007, 1075] g11) [1084, 1085, 48, 1086, 51, 52, 46, 47, 49, 50, 1075, 1100020, 1100021, 1100022] g46) [1084, 1085, 48, 1086, 51, 52, 46, 47, 49, 50, 1075, 1100020, 1100021, 1100022] g95)
                    have md99 : sv_mod [1076, 41, 42, 43, 44, 45, 46, 47, 1075, 1100029, 1092, 60, 58, 57, 63, 64, 1073, 1109, 1110, 1111, 1112, 5, 1011, 3, 4, 1007, 1084, 1085, 48, 1086, 51, 52, 49, 50, 1100020, 1100021, 1100022] S (sv_sts (sv_sts (sv_sts S [5, 1011, 3, 4, 1007, 1075] g11) [1084, 1085, 48, 1086, 51, 52, 46, 47, 49, 50, 1075, 1100020, 1100021, 1100022] g46) [1084, 1085, 48, 1086, 51, 52, 46, 47, 49, 50, 1075, 1100020, 1100021, 1100022] g95) := sv_mod.sts md50 (by decide)
                    have h := h g95 hpo98
                    refine sv_aload_n hM dX12_putInto_155 rfl rfl ?_
                    refine sv_aload_n hM dX12_putInto_156 rfl rfl ?_
                    refine sv_iconst (d := (0 : Int)) hM dX12_putInto_157 rfl rfl ?_
                    refine sv_callV hM dX12_putInto_158 sm_iv_910 (by decide) (sm_a0 _) rfl rfl (Nat.le_of_ble_eq_true rfl) sm_h150 (Nat.le_of_ble_eq_true rfl) (Nat.le_of_ble_eq_true rfl) (F' := 1) (Nat.le_of_ble_eq_true rfl) rfl (t_sortAt (0 : Int) (sv_sts (sv_sts (sv_sts S [5, 1011, 3, 4, 1007, 1075] g11) [1084, 1085, 48, 1086, 51, 52, 46, 47, 49, 50, 1075, 1100020, 1100021, 1100022] g46) [1084, 1085, 48, 1086, 51, 52, 46, 47, 49, 50, 1075, 1100020, 1100021, 1100022] g95) ok96 (⟨by decide, by decide⟩ : sv_R (0 : Int)) o44) (fun v S1 hq => ?_)
                    obtain ⟨rfl, hS1⟩ := hq
                    obtain rfl : (sv_sts (sv_sts (sv_sts S [5, 1011, 3, 4, 1007, 1075] g11) [1084, 1085, 48, 1086, 51, 52, 46, 47, 49, 50, 1075, 1100020, 1100021, 1100022] g46) [1084, 1085, 48, 1086, 51, 52, 46, 47, 49, 50, 1075, 1100020, 1100021, 1100022] g95) = S1 := hS1.symm
                    show sv_T sm_XS sm_cs sm_L sm_sh 4 (q_putInto S) 172 161 [(0, .ref 0), (1, sv_I x5), (2, sv_I x7), (3, sv_I r15), (4, sv_I s18), (5, sv_I s51)] [sv_I ((S 63 ((400 * ((S 1092 0) - 1) + (S 58 ((S 1092 0) - 1))) - 1 - (0 : Int)))), .ref 0] (sv_sts (sv_sts (sv_sts S [5, 1011, 3, 4, 1007, 1075] g11) [1084, 1085, 48, 1086, 51, 52, 46, 47, 49, 50, 1075, 1100020, 1100021, 1100022] g46) [1084, 1085, 48, 1086, 51, 52, 46, 47, 49, 50, 1075, 1100020, 1100021, 1100022] g95)
                    refine sv_aload_n hM dX12_putInto_161 rfl rfl ?_
                    refine sv_iconst (d := (0 : Int)) hM dX12_putInto_162 rfl rfl ?_
                    refine sv_callV hM dX12_putInto_163 sm_iv_913 (by decide) (sm_a0 _) rfl rfl (Nat.le_of_ble_eq_true rfl) sm_h151 (Nat.le_of_ble_eq_true rfl) (Nat.le_of_ble_eq_true rfl) (F' := 1) (Nat.le_of_ble_eq_true rfl) rfl (t_valueAt (0 : Int) (sv_sts (sv_sts (sv_sts S [5, 1011, 3, 4, 1007, 1075] g11) [1084, 1085, 48, 1086, 51, 52, 46, 47, 49, 50, 1075, 1100020, 1100021, 1100022] g46) [1084, 1085, 48, 1086, 51, 52, 46, 47, 49, 50, 1075, 1100020, 1100021, 1100022] g95) ok96 (⟨by decide, by decide⟩ : sv_R (0 : Int)) o44) (fun v S1 hq => ?_)
                    obtain ⟨rfl, hS1⟩ := hq
                    obtain rfl : (sv_sts (sv_sts (sv_sts S [5, 1011, 3, 4, 1007, 1075] g11) [1084, 1085, 48, 1086, 51, 52, 46, 47, 49, 50, 1075, 1100020, 1100021, 1100022] g46) [1084, 1085, 48, 1086, 51, 52, 46, 47, 49, 50, 1075, 1100020, 1100021, 1100022] g95) = S1 := hS1.symm
                    show sv_T sm_XS sm_cs sm_L sm_sh 4 (q_putInto S) 172 166 [(0, .ref 0), (1, sv_I x5), (2, sv_I x7), (3, sv_I r15), (4, sv_I s18), (5, sv_I s51)] [sv_I ((S 64 ((400 * ((S 1092 0) - 1) + (S 58 ((S 1092 0) - 1))) - 1 - (0 : Int)))), sv_I ((S 63 ((400 * ((S 1092 0) - 1) + (S 58 ((S 1092 0) - 1))) - 1 - (0 : Int)))), .ref 0] (sv_sts (sv_sts (sv_sts S [5, 1011, 3, 4, 1007, 1075] g11) [1084, 1085, 48, 1086, 51, 52, 46, 47, 49, 50, 1075, 1100020, 1100021, 1100022] g46) [1084, 1085, 48, 1086, 51, 52, 46, 47, 49, 50, 1075, 1100020, 1100021, 1100022] g95)
                    refine sv_callV hM dX12_putInto_166 sm_iv_822 (by decide) (sm_a0 _) rfl rfl (Nat.le_of_ble_eq_true rfl) sm_h122 (Nat.le_of_ble_eq_true rfl) (Nat.le_of_ble_eq_true rfl) (F' := 0) (Nat.le_of_ble_eq_true rfl) rfl (t_give_ ((S 63 ((400 * ((S 1092 0) - 1) + (S 58 ((S 1092 0) - 1))) - 1 - (0 : Int)))) ((S 64 ((400 * ((S 1092 0) - 1) + (S 58 ((S 1092 0) - 1))) - 1 - (0 : Int)))) (sv_sts (sv_sts (sv_sts S [5, 1011, 3, 4, 1007, 1075] g11) [1084, 1085, 48, 1086, 51, 52, 46, 47, 49, 50, 1075, 1100020, 1100021, 1100022] g46) [1084, 1085, 48, 1086, 51, 52, 46, 47, 49, 50, 1075, 1100020, 1100021, 1100022] g95) ok96 (sm_okI ok12 sm_r63 _) (sm_okI ok12 sm_r64 _)) (fun v S1 hq => ?_)
                    obtain ⟨rfl, ok101, md102, hpo103⟩ := hq
                    obtain ⟨g100, rfl⟩ : ∃ g, S1 = sv_sts (sv_sts (sv_sts (sv_sts S [5, 1011, 3, 4, 1007, 1075] g11) [1084, 1085, 48, 1086, 51, 52, 46, 47, 49, 50, 1075, 1100020, 1100021, 1100022] g46) [1084, 1085, 48, 1086, 51, 52, 46, 47, 49, 50, 1075, 1100020, 1100021, 1100022] g95) [1111, 1112] g := ⟨_, md102.eq⟩
                    show sv_T sm_XS sm_cs sm_L sm_sh 4 (q_putInto S) 172 169 [(0, .ref 0), (1, sv_I x5), (2, sv_I x7), (3, sv_I r15), (4, sv_I s18), (5, sv_I s51)] [] (sv_sts (sv_sts (sv_sts (sv_sts S [5, 1011, 3, 4, 1007, 1075] g11) [1084, 1085, 48, 1086, 51, 52, 46, 47, 49, 50, 1075, 1100020, 1100021, 1100022] g46) [1084, 1085, 48, 1086, 51, 52, 46, 47, 49, 50, 1075, 1100020, 1100021, 1100022] g95) [1111, 1112] g100)
                    have md104 : sv_mod [1076, 41, 42, 43, 44, 45, 46, 47, 1075, 1100029, 1092, 60, 58, 57, 63, 64, 1073, 1109, 1110, 1111, 1112, 5, 1011, 3, 4, 1007, 1084, 1085, 48, 1086, 51, 52, 49, 50, 1100020, 1100021, 1100022] S (sv_sts (sv_sts (sv_sts (sv_sts S [5, 1011, 3, 4, 1007, 1075] g11) [1084, 1085, 48, 1086, 51, 52, 46, 47, 49, 50, 1075, 1100020, 1100021, 1100022] g46) [1084, 1085, 48, 1086, 51, 52, 46, 47, 49, 50, 1075, 1100020, 1100021, 1100022] g95) [1111, 1112] g100) := sv_mod.sts md99 (by decide)
                    have h := h g100 hpo103
                    refine sv_aload_n hM dX12_putInto_169 rfl rfl ?_
                    refine sv_iconst (d := (3 : Int)) hM dX12_putInto_170 rfl rfl ?_
                    obtain ⟨o105, h⟩ := h
                    refine sv_callV hM dX12_putInto_171 sm_iv_904 (by decide) (sm_a0 _) rfl rfl (Nat.le_of_ble_eq_true rfl) sm_h155 (Nat.le_of_ble_eq_true rfl) (Nat.le_of_ble_eq_true rfl) (F' := 2) (Nat.le_of_ble_eq_true rfl) rfl (t_gives (3 : Int) (sv_sts (sv_sts (sv_sts (sv_sts S [5, 1011, 3, 4, 1007, 1075] g11) [1084, 1085, 48, 1086, 51, 52, 46, 47, 49, 50, 1075, 1100020, 1100021, 1100022] g46) [1084, 1085, 48, 1086, 51, 52, 46, 47, 49, 50, 1075, 1100020, 1100021, 1100022] g95) [1111, 1112] g100) ok101 (⟨by decide, by decide⟩ : sv_R (3 : Int)) o105) (fun v S1 hq => ?_)
                    obtain ⟨rfl, ok107, md108, hpo109⟩ := hq
                    obtain ⟨g106, rfl⟩ : ∃ g, S1 = sv_sts (sv_sts (sv_sts (sv_sts (sv_sts S [5, 1011, 3, 4, 1007, 1075] g11) [1084, 1085, 48, 1086, 51, 52, 46, 47, 49, 50, 1075, 1100020, 1100021, 1100022] g46) [1084, 1085, 48, 1086, 51, 52, 46, 47, 49, 50, 1075, 1100020, 1100021, 1100022] g95) [1111, 1112] g100) [58, 63, 64, 57] g := ⟨_, md108.eq⟩
                    show sv_T sm_XS sm_cs sm_L sm_sh 4 (q_putInto S) 172 174 [(0, .ref 0), (1, sv_I x5), (2, sv_I x7), (3, sv_I r15), (4, sv_I s18), (5, sv_I s51)] [] (sv_sts (sv_sts (sv_sts (sv_sts (sv_sts S [5, 1011, 3, 4, 1007, 1075] g11) [1084, 1085, 48, 1086, 51, 52, 46, 47, 49, 50, 1075, 1100020, 1100021, 1100022] g46) [1084, 1085, 48, 1086, 51, 52, 46, 47, 49, 50, 1075, 1100020, 1100021, 1100022] g95) [1111, 1112] g100) [58, 63, 64, 57] g106)
                    have md110 : sv_mod [1076, 41, 42, 43, 44, 45, 46, 47, 1075, 1100029, 1092, 60, 58, 57, 63, 64, 1073, 1109, 1110, 1111, 1112, 5, 1011, 3, 4, 1007, 1084, 1085, 48, 1086, 51, 52, 49, 50, 1100020, 1100021, 1100022] S (sv_sts (sv_sts (sv_sts (sv_sts (sv_sts S [5, 1011, 3, 4, 1007, 1075] g11) [1084, 1085, 48, 1086, 51, 52, 46, 47, 49, 50, 1075, 1100020, 1100021, 1100022] g46) [1084, 1085, 48, 1086, 51, 52, 46, 47, 49, 50, 1075, 1100020, 1100021, 1100022] g95) [1111, 1112] g100) [58, 63, 64, 57] g106) := sv_mod.sts md104 (by decide)
                    have h := h g106 hpo109
                    exact sv_vret hM dX12_putInto_174 rfl ⟨rfl, ok107, md110, h⟩
            have h := h.2
            refine sv_aload_n hM dX12_putInto_101 rfl rfl ?_
            refine sv_getA hM dX12_putInto_102 sm_fl_143 (sm_a0 _) sm_k80 rfl ?_
            refine sv_iload_n hM dX12_putInto_105 rfl rfl ?_
            obtain ⟨o112, h⟩ := h
            have k113 : sv_R (S 44 x7) := sm_okI ok47 sm_r44 x7
            have h := h k113
            refine sv_iald hM dX12_putInto_106 (sm_a44 _) (by decide) o112.1 o112.2 rfl (x := (S 44 x7)) rfl ?_
            refine sv_iconst (d := (2 : Int)) hM dX12_putInto_107 rfl rfl ?_
            refine sv_icmp_ne hM dX12_putInto_108 k113 (⟨by decide, by decide⟩ : sv_R (2 : Int)) (t := 119) rfl rfl (fun hc => ?_) (fun hc => ?_)
            · have h := h.1 (hc)
              refine sv_iconst (d := (-1 : Int)) hM dX12_putInto_119 rfl rfl ?_
              have hb := J111 (-1 : Int) (⟨by decide, by decide⟩ : sv_R (-1 : Int)) h
              exact sv_less (lv := [(0, .ref 0), (1, sv_I x5), (2, sv_I x7), (3, sv_I r15), (4, sv_I s18)]) (sv_Sub_cons rfl (sv_Sub_cons rfl (sv_Sub_cons rfl (sv_Sub_cons rfl (sv_Sub_cons rfl sv_Sub_nil))))) hb
            · have h := h.2 (hc)
              refine sv_aload_n hM dX12_putInto_111 rfl rfl ?_
              refine sv_iload_n hM dX12_putInto_112 rfl rfl ?_
              obtain ⟨o114, h⟩ := h
              refine sv_callV hM dX12_putInto_113 sm_iv_975 (by decide) (sm_a0 _) rfl rfl (Nat.le_of_ble_eq_true rfl) sm_h145 (Nat.le_of_ble_eq_true rfl) (Nat.le_of_ble_eq_true rfl) (F' := 1) (Nat.le_of_ble_eq_true rfl) rfl (t_indexOf r15 (sv_sts (sv_sts S [5, 1011, 3, 4, 1007, 1075] g11) [1084, 1085, 48, 1086, 51, 52, 46, 47, 49, 50, 1075, 1100020, 1100021, 1100022] g46) ok47 hr15 o114) (fun v S1 hq => ?_)
              obtain ⟨r119, rfl, hr119, ok116, md117, hpo118⟩ := hq
              obtain rfl : (sv_sts (sv_sts S [5, 1011, 3, 4, 1007, 1075] g11) [1084, 1085, 48, 1086, 51, 52, 46, 47, 49, 50, 1075, 1100020, 1100021, 1100022] g46) = S1 := (funext fun j => md117 j (by intro q; cases q)).symm
              show sv_T sm_XS sm_cs sm_L sm_sh 4 (q_putInto S) 172 116 [(0, .ref 0), (1, sv_I x5), (2, sv_I x7), (3, sv_I r15), (4, sv_I s18)] [sv_I r119] (sv_sts (sv_sts S [5, 1011, 3, 4, 1007, 1075] g11) [1084, 1085, 48, 1086, 51, 52, 46, 47, 49, 50, 1075, 1100020, 1100021, 1100022] g46)
              have h := h r119 hr119 hpo118
              refine sv_goto hM dX12_putInto_116 (pc' := 120) rfl ?_
              have hb := J111 r119 hr119 h
              exact sv_less (lv := [(0, .ref 0), (1, sv_I x5), (2, sv_I x7), (3, sv_I r15), (4, sv_I s18)]) (sv_Sub_cons rfl (sv_Sub_cons rfl (sv_Sub_cons rfl (sv_Sub_cons rfl (sv_Sub_cons rfl sv_Sub_nil))))) hb
      have h := h.2
      refine sv_iload_n hM dX12_putInto_47 rfl rfl ?_
      refine sv_bipush (d := (7 : Int)) hM dX12_putInto_48 rfl rfl ?_
      refine sv_icmp_ne hM dX12_putInto_50 e6r (⟨by decide, by decide⟩ : sv_R (7 : Int)) (t := 71) rfl rfl (fun hc => ?_) (fun hc => ?_)
      · have h := h.1 (hc)
        refine sv_iconst (d := (0 : Int)) hM dX12_putInto_71 rfl rfl ?_
        have hb := J120 (0 : Int) (⟨by decide, by decide⟩ : sv_R (0 : Int)) h
        exact sv_less (lv := [(0, .ref 0), (1, sv_I x5), (2, sv_I x7), (3, sv_I r15)]) (sv_Sub_cons rfl (sv_Sub_cons rfl (sv_Sub_cons rfl (sv_Sub_cons rfl sv_Sub_nil)))) hb
      · have h := h.2 (hc)
        refine sv_aload_n hM dX12_putInto_53 rfl rfl ?_
        refine sv_getA hM dX12_putInto_54 sm_fl_143 (sm_a0 _) sm_k80 rfl ?_
        refine sv_iload_n hM dX12_putInto_57 rfl rfl ?_
        obtain ⟨o121, h⟩ := h
        have k122 : sv_R (S 44 x7) := sm_okI ok12 sm_r44 x7
        have h := h k122
        refine sv_iald hM dX12_putInto_58 (sm_a44 _) (by decide) o121.1 o121.2 rfl (x := (S 44 x7)) rfl ?_
        refine sv_iconst (d := (2 : Int)) hM dX12_putInto_59 rfl rfl ?_
        refine sv_icmp_ne hM dX12_putInto_60 k122 (⟨by decide, by decide⟩ : sv_R (2 : Int)) (t := 71) rfl rfl (fun hc => ?_) (fun hc => ?_)
        · have h := h.1 (hc)
          refine sv_iconst (d := (0 : Int)) hM dX12_putInto_71 rfl rfl ?_
          have hb := J120 (0 : Int) (⟨by decide, by decide⟩ : sv_R (0 : Int)) h
          exact sv_less (lv := [(0, .ref 0), (1, sv_I x5), (2, sv_I x7), (3, sv_I r15)]) (sv_Sub_cons rfl (sv_Sub_cons rfl (sv_Sub_cons rfl (sv_Sub_cons rfl sv_Sub_nil)))) hb
        · have h := h.2 (hc)
          refine sv_iload_n hM dX12_putInto_63 rfl rfl ?_
          refine sv_cond_ne hM dX12_putInto_64 hr15 (t := 71) rfl rfl (fun hc => ?_) (fun hc => ?_)
          · have h := h.1 (hc)
            refine sv_iconst (d := (0 : Int)) hM dX12_putInto_71 rfl rfl ?_
            have hb := J120 (0 : Int) (⟨by decide, by decide⟩ : sv_R (0 : Int)) h
            exact sv_less (lv := [(0, .ref 0), (1, sv_I x5), (2, sv_I x7), (3, sv_I r15)]) (sv_Sub_cons rfl (sv_Sub_cons rfl (sv_Sub_cons rfl (sv_Sub_cons rfl sv_Sub_nil)))) hb
          · have h := h.2 (hc)
            refine sv_iconst (d := (1 : Int)) hM dX12_putInto_67 rfl rfl ?_
            refine sv_goto hM dX12_putInto_68 (pc' := 72) rfl ?_
            have hb := J120 (1 : Int) (⟨by decide, by decide⟩ : sv_R (1 : Int)) h
            exact sv_less (lv := [(0, .ref 0), (1, sv_I x5), (2, sv_I x7), (3, sv_I r15)]) (sv_Sub_cons rfl (sv_Sub_cons rfl (sv_Sub_cons rfl (sv_Sub_cons rfl sv_Sub_nil)))) hb
    · have h := h.2 (hc)
      refine sv_aload_n hM dX12_putInto_40 rfl rfl ?_
      refine sv_bipush (d := (6 : Int)) hM dX12_putInto_41 rfl rfl ?_
      obtain ⟨o123, h⟩ := h
      refine sv_callV hM dX12_putInto_43 sm_iv_966 (by decide) (sm_a0 _) rfl rfl (Nat.le_of_ble_eq_true rfl) sm_h157 (Nat.le_of_ble_eq_true rfl) (Nat.le_of_ble_eq_true rfl) (F' := 3) (Nat.le_of_ble_eq_true rfl) rfl (t_error (6 : Int) (sv_sts S [5, 1011, 3, 4, 1007, 1075] g11) ok12 (⟨by decide, by decide⟩ : sv_R (6 : Int)) o123) (fun v S1 hq => ?_)
      obtain ⟨rfl, ok125, md126, hpo127⟩ := hq
      obtain ⟨g124, rfl⟩ : ∃ g, S1 = sv_sts (sv_sts S [5, 1011, 3, 4, 1007, 1075] g11) [1076, 41, 42, 43, 44, 45, 46, 47, 1075, 1100029, 1092, 60, 58, 57, 63, 64, 1073, 1109, 1110] g := ⟨_, md126.eq⟩
      show sv_T sm_XS sm_cs sm_L sm_sh 4 (q_putInto S) 172 46 [(0, .ref 0), (1, sv_I x5), (2, sv_I x7), (3, sv_I r15)] [] (sv_sts (sv_sts S [5, 1011, 3, 4, 1007, 1075] g11) [1076, 41, 42, 43, 44, 45, 46, 47, 1075, 1100029, 1092, 60, 58, 57, 63, 64, 1073, 1109, 1110] g124)
      have md128 : sv_mod [1076, 41, 42, 43, 44, 45, 46, 47, 1075, 1100029, 1092, 60, 58, 57, 63, 64, 1073, 1109, 1110, 1111, 1112, 5, 1011, 3, 4, 1007, 1084, 1085, 48, 1086, 51, 52, 49, 50, 1100020, 1100021, 1100022] S (sv_sts (sv_sts S [5, 1011, 3, 4, 1007, 1075] g11) [1076, 41, 42, 43, 44, 45, 46, 47, 1075, 1100029, 1092, 60, 58, 57, 63, 64, 1073, 1109, 1110] g124) := sv_mod.sts md16 (by decide)
      have h := h g124 hpo127
      exact sv_vret hM dX12_putInto_46 rfl ⟨rfl, ok125, md128, h⟩
  · have h := h.2 (hc)
    exact sv_vret hM dX12_putInto_34 rfl ⟨rfl, ok12, md16, h⟩
def q_isMadeBy (p1 : Int) (p2 : Int) (p3 : Int) (p4 : Int) (S : sv_S) : Option Value → sv_S → Prop := fun v S' => v = none ∧ sm_ok S' ∧ sv_mod [1076, 41, 42, 43, 44, 45, 46, 47, 1075, 1100029, 1092, 60, 58, 57, 63, 64, 1073, 1109, 1110, 58, 63, 64, 57, 1111, 1112] S S' ∧ (sm_PL (S' 1100020) (S' 51) (S' 52) (S' 46) (S' 47) (S' 1076 0) (S' 1086 0) ∧ sm_FR (S' 1100020) (S' 52) (S' 1100021) (S' 1100022) (3000 - (S' 1084 0)) (S' 1085 0) ∧ sm_PV (S' 1100020) (S' 48) (S' 49) (S' 50) (S' 44) (S' 1076 0) (S' 1007 0) ∧ sm_AL (S' 1100020) (S' 48) (S' 49) (S' 50) (S' 44) (S' 1076 0) (S' 1100032 0) ∧ sm_SV (S' 1100020) (S' 48) (S' 1100029) (S' 32) (S' 33) (S' 1076 0) (S' 1032 0) ∧ 0 ≤ (S' 1076 0) ∧ (S' 1076 0) ≤ 300 ∧ 0 ≤ (S' 1084 0) ∧ (S' 1084 0) ≤ 3000 ∧ 0 ≤ (S' 1086 0) ∧ sm_SC (S' 1100029) (S' 44) (S' 45) (S' 43) (S' 21) (S' 1076 0) (S' 1032 0) ∧ sm_PO (S' 42) (S' 1076 0) ∧ ((S' 1075 0) = 0 → (S' 1100032 0) = -1 ∧ sm_FO (S' 44) (S' 45) (S' 1076 0)) ∧ 23 ≤ (S' 1076 0) ∧ 31 ≤ (S' 1007 0) ∧ (S' 1007 0) ≤ 400 ∧ sm_LN (S' 4) 400 (S' 1007 0) ∧ (S' 1008 0) ≤ (S' 1007 0) ∧ ((S 1075 0) = 1 → (S' 1075 0) = 1) ∧ 0 ≤ (S' 1092 0) ∧ (S' 1092 0) ≤ 24 ∧ (S 1007 0) ≤ (S' 1007 0) ∧ (¬ (S' 1075 0) = 0 → sm_LX (S' 58) (S' 63) (S' 64) (S' 1092 0) (S' 1076 0)) ∧ ((S' 1075 0) = 0 → (S' 1073 0) = 1 → 1 ≤ (S' 1092 0) ∧ (S' 1092 0) ≤ 24 ∧ 0 ≤ (S' 57 ((S' 1092 0) - 1)) ∧ (S' 57 ((S' 1092 0) - 1)) < (S' 1046 0) ∧ (S' 29 (S' 57 ((S' 1092 0) - 1))) = (S' 53 ((S' 1092 0) - 1)) ∧ 0 ≤ (S' 53 ((S' 1092 0) - 1)) ∧ (S' 53 ((S' 1092 0) - 1)) < (S' 1032 0) ∧ (S' 60 ((S' 1092 0) - 1)) = sm_dp (S' 1100024) (S' 1100023 (S' 57 ((S' 1092 0) - 1))) ∧ sm_TC (S' 61) (S' 62) (S' 27) (S' 1100007) (S' 1100023) (S' 1100024) (40 * ((S' 1092 0) - 1)) (S' 1100023 (S' 57 ((S' 1092 0) - 1))) ∧ sm_LK (S' 1100029) (S' 1076 0) (S' 54 ((S' 1092 0) - 1)) (S' 53 ((S' 1092 0) - 1)) ∧ sm_VO (S' 44) (S' 1076 0) (S' 1007 0) ((S' 55 ((S' 1092 0) - 1))) ((S' 56 ((S' 1092 0) - 1))) ∧ sm_FW (S' 44) (S' 1076 0) (S' 59 ((S' 1092 0) - 1)) ∧ sm_FL (S' 53) (S' 54) (S' 55) (S' 56) (S' 57) (S' 58) (S' 59) (S' 60) (S' 61) (S' 62) (S' 63) (S' 64) (S' 27) (S' 29) (S' 1100007) (S' 1100023) (S' 1100024) (S' 1100025) (S' 26) (S' 1100029) (S' 44) (S' 1046 0) (S' 1032 0) (S' 1076 0) (S' 1007 0) (((S' 1092 0) - 1)) ∧ (S' 58 ((S' 1092 0) - 1)) = (S' 1100007 (S' 57 ((S' 1092 0) - 1))) ∧ sm_SK (S' 63) (S' 64) (S' 44) (S' 1100007) (S' 1100025) (S' 1076 0) (S' 1007 0) (400 * ((S' 1092 0) - 1)) ((S' 58 ((S' 1092 0) - 1))) ((S' 1100025 (S' 57 ((S' 1092 0) - 1))))) ∧ ((S' 1073 0) = 1 ∨ (S' 1092 0) = 0 ∧ (S' 1075 0) = 0 ∧ ((S' 1073 0) = 2 ∨ (S' 1073 0) = 3)))
theorem la_isMadeBy_0 {x0 x1 x2 x3 x4 : Int} (h0 : x0 ≤ 300) (h1 : x1 ≤ 7) (h2 : x1 = 6 → 0 ≤ x2 ∧ x2 < x3) (h3 : x1 = 7 → 0 ≤ x2 ∧ x2 < x0 ∧ ¬ x4 = 3) : x1 = 7 → 0 ≤ x2 ∧ x2 < 300 := by omega
theorem la_isMadeBy_1 {x0 : Int} (h0 : x0 = 0) : ¬ x0 = 1 := by omega
theorem la_isMadeBy_2 {x0 : Int} (h0 : x0 = 0) : x0 ≤ 0 := by omega
theorem la_isMadeBy_3 {x0 : Int} (h0 : x0 ≤ 0) (h1 : ¬ x0 = 0) : x0 < 0 := by omega
theorem la_isMadeBy_4 {x0 x1 x2 : Int} (h0 : (-1) ≤ x0) (h1 : x0 < x1) (h2 : 0 ≤ x2) : ((0 : Int) = 0 ∨ (0 : Int) = 1) ∧ (-1) ≤ x0 ∧ x0 < x1 ∧ 0 ≤ x2 := by omega
theorem la_isMadeBy_5 {x0 : Int} (h0 : x0 = 0 ∨ x0 = 1) : 0 ≤ x0 := by omega
theorem la_isMadeBy_6 {x0 : Int} (h0 : x0 = 0 ∨ x0 = 1) : x0 ≤ 1 := by omega
theorem la_isMadeBy_7 : (0 : Int) ≤ 2 := by omega
theorem la_isMadeBy_8 {x0 : Int} (h0 : x0 ≤ 396) : x0 - 2 ≤ 399 := by omega
theorem la_isMadeBy_9 {x0 : Int} (h0 : x0 = 2 ∨ x0 = 3) : 0 ≤ x0 := by omega
theorem la_isMadeBy_10 {x0 : Int} (h0 : x0 = 2 ∨ x0 = 3) : x0 ≤ 7 := by omega
theorem la_isMadeBy_11 {x0 x1 x2 : Int} (h0 : 31 ≤ x0) (h1 : x1 = 0) : x2 = 6 → 0 ≤ x1 ∧ x1 < x0 := by omega
theorem la_isMadeBy_12 {x0 x1 x2 x3 : Int} (h0 : 23 ≤ x0) (h1 : x1 = 2 ∨ x1 = 3) (h2 : x2 = 0) : x1 = 7 → 0 ≤ x2 ∧ x2 < x0 ∧ ¬ x3 = 3 := by omega
theorem la_isMadeBy_13 {x0 x1 : Int} (h0 : x0 = x1 + (-1)) : x0 = x1 - 2 + 1 := by omega
theorem la_isMadeBy_14 {x0 : Int} (h0 : x0 = 0) : ¬ ¬ x0 = 0 := by omega
theorem la_isMadeBy_15 {x0 : Int} (h0 : x0 = 0) : x0 = 1 → x0 = 1 := by omega
theorem la_isMadeBy_16 {x0 : Int} (h0 : 1 ≤ x0) : 0 ≤ x0 := by omega
theorem la_isMadeBy_17 {x0 : Int} : x0 ≤ x0 := by omega
theorem la_isMadeBy_18 {x0 x1 x2 : Int} (h0 : x0 = 0) (h1 : x1 = 1) (h2 : 1 ≤ x2) : x1 = 1 ∨ x2 = 0 ∧ x0 = 0 ∧ (x1 = 2 ∨ x1 = 3) := by omega
theorem la_isMadeBy_19 {x0 : Int} (h0 : (-1) ≤ x0) (h1 : ¬ x0 = (-1)) : (-1) < x0 := by omega
theorem la_isMadeBy_20 {x0 : Int} (h0 : (-1) < x0) : 0 ≤ x0 := by omega
theorem la_isMadeBy_21 {x0 : Int} (h0 : 23 ≤ x0) : 2 ≤ x0 := by omega
theorem la_isMadeBy_22 {x0 x1 : Int} (h0 : x0 ≤ 300) (h1 : x1 < x0) (h2 : (-1) < x1) : 0 ≤ x1 ∧ x1 < 300 := by omega
theorem la_isMadeBy_23 {x0 x1 x2 : Int} (h0 : x0 = (-1) ∨ 0 ≤ x0 ∧ x0 < x1 ∧ (x0 < x2 ∨ x2 = 0 ∧ x0 = 1) ∧ ¬ x2 = 1) : (-1) ≤ x0 := by omega
theorem la_isMadeBy_24 {x0 x1 x2 : Int} (h0 : 23 ≤ x0) (h1 : x1 < x0) (h2 : x2 = (-1) ∨ 0 ≤ x2 ∧ x2 < x0 ∧ (x2 < x1 ∨ x1 = 0 ∧ x2 = 1) ∧ ¬ x1 = 1) : x2 < x0 := by omega
theorem la_isMadeBy_25 {x0 x1 x2 x3 : Int} (h0 : x0 = (-1) ∨ 0 ≤ x0 ∧ x0 < x1 ∧ (x0 < x2 ∨ x2 = 0 ∧ x0 = 1) ∧ ¬ x2 = 1) (h1 : (-1) ≤ x0 → 0 ≤ x3) : 0 ≤ x3 := by omega
theorem la_isMadeBy_26 {x0 : Int} : ¬ x0 = 0 → (1 : Int) = 0 ∨ (1 : Int) = 1 := by omega
theorem la_isMadeBy_27 {x0 : Int} (h0 : ¬ ¬ x0 = 0) : ¬ x0 = 1 := by omega
theorem la_isMadeBy_28 {x0 x1 : Int} : ¬ x0 = x1 → (0 : Int) = 0 ∨ (0 : Int) = 1 := by omega
theorem la_isMadeBy_29 : (1 : Int) = 0 ∨ (1 : Int) = 1 := by omega
theorem la_isMadeBy_30 {x0 x1 : Int} (h0 : 23 ≤ x0) : ¬ x1 = 7 → ((-1) : Int) ≤ (-1) ∧ (-1) < x0 := by omega
theorem la_isMadeBy_31 {x0 : Int} (h0 : ¬ ¬ x0 = 7) : ¬ x0 = 6 := by omega
theorem la_isMadeBy_32 {x0 : Int} (h0 : x0 ≤ 7) (h1 : ¬ ¬ x0 = 7) : x0 = 7 := by omega
theorem la_isMadeBy_33 {x0 x1 : Int} (h0 : x0 ≤ 300) (h1 : 0 ≤ x1) (h2 : x1 < x0) : 0 ≤ x1 ∧ x1 < 300 := by omega
theorem la_isMadeBy_34 {x0 x1 : Int} (h0 : 0 ≤ x0) (h1 : x1 = x0) : 0 ≤ x1 := by omega
theorem la_isMadeBy_35 {x0 x1 x2 : Int} (h0 : x0 = x1) (h1 : x1 + 1 < x2) : x0 < x2 := by omega
theorem la_isMadeBy_36 {x0 x1 x2 : Int} (h0 : x0 = x1) (h1 : x2 = x0) : x2 = x1 := by omega
theorem la_isMadeBy_37 {x0 x1 x2 : Int} (h0 : x0 = x1) (h1 : x2 = x1) : x0 = x2 := by omega
theorem la_isMadeBy_38 {x0 x1 : Int} (h0 : x0 = x1) : x1 = x0 := by omega
theorem la_isMadeBy_39 {x0 : Int} : x0 = x0 - 1 + 1 := by omega
theorem la_isMadeBy_40 {x0 x1 x2 : Int} (h0 : x0 = x1) (h1 : x2 = x1) : x2 = x0 := by omega
theorem la_isMadeBy_41 {x0 x1 : Int} (h0 : 0 ≤ x0) (h1 : x0 = x1) : 0 ≤ x1 := by omega
theorem la_isMadeBy_42 {x0 x1 x2 : Int} (h0 : x0 ≤ x1) (h1 : x2 = x0) : x2 ≤ x1 := by omega
theorem la_isMadeBy_43 : (6 : Int) ≤ 6 := by omega
theorem la_isMadeBy_44 : (6 : Int) ≤ 8 := by omega
theorem la_isMadeBy_45 {x0 : Int} (h0 : x0 = 1) : 0 ≤ x0 := by omega
theorem la_isMadeBy_46 {x0 : Int} (h0 : 0 ≤ x0) (h1 : ¬ x0 = 0) : 0 < x0 := by omega
theorem la_isMadeBy_47 {x0 : Int} (h0 : x0 = 7) : ¬ x0 = 6 := by omega
theorem la_isMadeBy_48 {x0 : Int} (h0 : x0 = 1) : x0 ≤ 3 := by omega
theorem la_isMadeBy_49 {x0 : Int} (h0 : x0 ≤ 3) (h1 : ¬ x0 = 3) : x0 < 3 := by omega
theorem la_isMadeBy_50 {x0 x1 : Int} (h0 : 23 ≤ x0) (h1 : 0 ≤ x1) (h2 : x1 < x0) : 2 ≤ x0 ∧ 0 ≤ x1 ∧ x1 < x0 := by omega
theorem la_isMadeBy_51 {x0 : Int} : ¬ x0 = 7 → (0 : Int) = 0 ∨ (0 : Int) = 1 := by omega
set_option maxHeartbeats 2000000 in
theorem f_isMadeBy : ∀ (p1 : Int) (p2 : Int) (p3 : Int) (p4 : Int) (S : sv_S), sm_ok S → sv_R p1 → sv_R p2 → sv_R p3 → sv_R p4 → ((S 1075 0) = 0 ∧ (S 1073 0) = 1 ∧ sm_LX (S 58) (S 63) (S 64) (S 1092 0) (S 1076 0) ∧ sm_PL (S 1100020) (S 51) (S 52) (S 46) (S 47) (S 1076 0) (S 1086 0) ∧ sm_FR (S 1100020) (S 52) (S 1100021) (S 1100022) (3000 - (S 1084 0)) (S 1085 0) ∧ sm_PV (S 1100020) (S 48) (S 49) (S 50) (S 44) (S 1076 0) (S 1007 0) ∧ sm_AL (S 1100020) (S 48) (S 49) (S 50) (S 44) (S 1076 0) (S 1100032 0) ∧ sm_SV (S 1100020) (S 48) (S 1100029) (S 32) (S 33) (S 1076 0) (S 1032 0) ∧ 0 ≤ (S 1076 0) ∧ (S 1076 0) ≤ 300 ∧ 0 ≤ (S 1084 0) ∧ (S 1084 0) ≤ 3000 ∧ 0 ≤ (S 1086 0) ∧ sm_SC (S 1100029) (S 44) (S 45) (S 43) (S 21) (S 1076 0) (S 1032 0) ∧ sm_PO (S 42) (S 1076 0) ∧ (S 1100032 0) = -1 ∧ sm_FO (S 44) (S 45) (S 1076 0) ∧ 23 ≤ (S 1076 0) ∧ 31 ≤ (S 1007 0) ∧ (S 1007 0) ≤ 400 ∧ sm_LN (S 4) 400 (S 1007 0) ∧ sm_CT (S 26) (S 27) (S 28) (S 29) (S 1100007) (S 1100023) (S 1100024) (S 1100025) (S 21) (S 1046 0) (S 1032 0) (S 1008 0) (S 1055 0) ∧ sm_LS (S 26) (S 1100007) (S 1100025) (S 1046 0) ∧ sm_CL (S 1100007) (S 1100023) (S 1100025) (S 1046 0) ∧ 1 ≤ (S 1032 0) ∧ (S 1032 0) ≤ 11 ∧ 0 ≤ (S 1046 0) ∧ (S 1046 0) ≤ 600 ∧ 31 ≤ (S 1008 0) ∧ (S 1008 0) ≤ (S 1007 0) ∧ 0 ≤ (S 1055 0) ∧ (S 1055 0) ≤ 19 ∧ 1 ≤ (S 1092 0) ∧ (S 1092 0) ≤ 24 ∧ 0 ≤ (S 1100033 0) ∧ (S 1100033 0) < (S 1046 0) ∧ (S 29 (S 1100033 0)) = (S 53 ((S 1092 0) - 1)) ∧ 0 ≤ (S 53 ((S 1092 0) - 1)) ∧ (S 53 ((S 1092 0) - 1)) < (S 1032 0) ∧ (S 60 ((S 1092 0) - 1)) = sm_dp (S 1100024) (S 1100023 (S 1100033 0)) ∧ sm_TC (S 61) (S 62) (S 27) (S 1100007) (S 1100023) (S 1100024) (40 * ((S 1092 0) - 1)) (S 1100023 (S 1100033 0)) ∧ sm_LK (S 1100029) (S 1076 0) (S 54 ((S 1092 0) - 1)) (S 53 ((S 1092 0) - 1)) ∧ sm_VO (S 44) (S 1076 0) (S 1007 0) ((S 55 ((S 1092 0) - 1))) ((S 56 ((S 1092 0) - 1))) ∧ sm_FW (S 44) (S 1076 0) (S 59 ((S 1092 0) - 1)) ∧ sm_FL (S 53) (S 54) (S 55) (S 56) (S 57) (S 58) (S 59) (S 60) (S 61) (S 62) (S 63) (S 64) (S 27) (S 29) (S 1100007) (S 1100023) (S 1100024) (S 1100025) (S 26) (S 1100029) (S 44) (S 1046 0) (S 1032 0) (S 1076 0) (S 1007 0) (((S 1092 0) - 1)) ∧ (S 57 ((S 1092 0) - 1)) = (S 1100033 0) ∧ 0 ≤ (S 58 ((S 1092 0) - 1)) ∧ (S 58 ((S 1092 0) - 1)) ≤ 400 ∧ sm_SK (S 63) (S 64) (S 44) (S 1100007) (S 1100025) (S 1076 0) (S 1007 0) (400 * ((S 1092 0) - 1)) ((S 58 ((S 1092 0) - 1))) ((S 1100034 0)) ∧ -1 ≤ (S 1100034 0) ∧ (S 1100034 0) < (S 1046 0) ∧ (0 ≤ (S 1100034 0) → (S 26 (S 1100034 0)) = 29) ∧ (S 58 ((S 1092 0) - 1)) = (S 1100007 (S 1100033 0)) ∧ (S 1100034 0) = (S 1100025 (S 1100033 0)) ∧ (0 ≤ (S 1100023 (S 1100033 0)) → (S 1100007 (S 1100023 (S 1100033 0))) ≤ (S 58 ((S 1092 0) - 1))) ∧ (S 58 ((S 1092 0) - 1)) ≤ 396 ∧ 2 ≤ (S 58 ((S 1092 0) - 1)) ∧ (0 ≤ (S 1100034 0) → (S 1100007 (S 1100034 0)) ≤ (S 58 ((S 1092 0) - 1)) - 2) ∧ (S 1100033 0) + 1 < (S 1046 0) ∧ (S 29 ((S 1100033 0) + 1)) = (S 29 (S 1100033 0)) ∧ (S 1100007 ((S 1100033 0) + 1)) = (S 58 ((S 1092 0) - 1)) + (-1) ∧ (S 1100023 ((S 1100033 0) + 1)) = (S 1100023 (S 1100033 0)) ∧ (S 1100025 ((S 1100033 0) + 1)) = (S 1100034 0) ∧ sm_VO (S 44) (S 1076 0) (S 1007 0) (p1) (p2) ∧ sm_VO (S 44) (S 1076 0) (S 1007 0) (p3) (p4)) → (p3 = 7 → 0 ≤ p4 ∧ p4 < 300) ∧ (∀ r6 : Int, sv_R r6 → ((r6 = 0 ∨ r6 = 1) ∧ (r6 = 1 → p3 = 7 ∧ (S 44 p4) = 1) ∧ (r6 = 0 → p3 = 7 → ¬ (S 44 p4) = 1)) → (((r6 = (0 : Int)) → (((¬ r6 = (0 : Int)) → (sv_R (S 1112 0) → ((∀ s8 : Int, sv_R s8 → (-1 ≤ s8 ∧ s8 < (S 1076 0)) → ((-1 ≤ s8 → 0 ≤ sm_pm s8) → ((((0 : Int) = 0 ∨ (0 : Int) = 1) ∧ -1 ≤ s8 ∧ s8 < (S 1076 0) ∧ 0 ≤ sm_pm s8) ∧ (∀ l7_11 : Int, sv_R l7_11 → ∀ l8_12 : Int, sv_R l8_12 → ((l7_11 = 0 ∨ l7_11 = 1) ∧ -1 ≤ l8_12 ∧ l8_12 < (S 1076 0) ∧ 0 ≤ sm_pm l8_12) → (0 ≤ sm_pm l8_12) ∧ (((l8_12 = (-1 : Int)) → (0 ≤ l7_11 ∧ l7_11 ≤ 1) ∧ (∀ g17 : sv_S, (((g17 1111 0) = 2 ∨ (g17 1111 0) = 3) ∧ (g17 1112 0) = 0) → (((S 1075 0) = 0 → (S 1073 0) = 1 → sm_PL (S 1100020) (S 51) (S 52) (S 46) (S 47) (S 1076 0) (S 1086 0) ∧ sm_FR (S 1100020) (S 52) (S 1100021) (S 1100022) (3000 - (S 1084 0)) (S 1085 0) ∧ sm_PV (S 1100020) (S 48) (S 49) (S 50) (S 44) (S 1076 0) (S 1007 0) ∧ sm_AL (S 1100020) (S 48) (S 49) (S 50) (S 44) (S 1076 0) (S 1100032 0) ∧ sm_SV (S 1100020) (S 48) (S 1100029) (S 32) (S 33) (S 1076 0) (S 1032 0) ∧ 0 ≤ (S 1076 0) ∧ (S 1076 0) ≤ 300 ∧ 0 ≤ (S 1084 0) ∧ (S 1084 0) ≤ 3000 ∧ 0 ≤ (S 1086 0) ∧ sm_SC (S 1100029) (S 44) (S 45) (S 43) (S 21) (S 1076 0) (S 1032 0) ∧ sm_PO (S 42) (S 1076 0) ∧ (S 1100032 0) = -1 ∧ sm_FO (S 44) (S 45) (S 1076 0) ∧ 23 ≤ (S 1076 0) ∧ 31 ≤ (S 1007 0) ∧ (S 1007 0) ≤ 400 ∧ sm_LN (S 4) 400 (S 1007 0) ∧ sm_CT (S 26) (S 27) (S 28) (S 29) (S 1100007) (S 1100023) (S 1100024) (S 1100025) (S 21) (S 1046 0) (S 1032 0) (S 1008 0) (S 1055 0) ∧ sm_LS (S 26) (S 1100007) (S 1100025) (S 1046 0) ∧ sm_CL (S 1100007) (S 1100023) (S 1100025) (S 1046 0) ∧ 1 ≤ (S 1032 0) ∧ (S 1032 0) ≤ 11 ∧ 0 ≤ (S 1046 0) ∧ (S 1046 0) ≤ 600 ∧ 31 ≤ (S 1008 0) ∧ (S 1008 0) ≤ (S 1007 0) ∧ 0 ≤ (S 1055 0) ∧ (S 1055 0) ≤ 19 ∧ 1 ≤ (S 1092 0) ∧ (S 1092 0) ≤ 24 ∧ 0 ≤ (S 1100033 0) ∧ (S 1100033 0) < (S 1046 0) ∧ (S 29 (S 1100033 0)) = (S 53 ((S 1092 0) - 1)) ∧ 0 ≤ (S 53 ((S 1092 0) - 1)) ∧ (S 53 ((S 1092 0) - 1)) < (S 1032 0) ∧ (S 60 ((S 1092 0) - 1)) = sm_dp (S 1100024) (S 1100023 (S 1100033 0)) ∧ sm_TC (S 61) (S 62) (S 27) (S 1100007) (S 1100023) (S 1100024) (40 * ((S 1092 0) - 1)) (S 1100023 (S 1100033 0)) ∧ sm_LK (S 1100029) (S 1076 0) (S 54 ((S 1092 0) - 1)) (S 53 ((S 1092 0) - 1)) ∧ sm_VO (S 44) (S 1076 0) (S 1007 0) ((S 55 ((S 1092 0) - 1))) ((S 56 ((S 1092 0) - 1))) ∧ sm_FW (S 44) (S 1076 0) (S 59 ((S 1092 0) - 1)) ∧ sm_FL (S 53) (S 54) (S 55) (S 56) (S 57) (S 58) (S 59) (S 60) (S 61) (S 62) (S 63) (S 64) (S 27) (S 29) (S 1100007) (S 1100023) (S 1100024) (S 1100025) (S 26) (S 1100029) (S 44) (S 1046 0) (S 1032 0) (S 1076 0) (S 1007 0) (((S 1092 0) - 1)) ∧ (S 57 ((S 1092 0) - 1)) = (S 1100033 0) ∧ 0 ≤ (S 58 ((S 1092 0) - 1)) ∧ (S 58 ((S 1092 0) - 1)) ≤ 400 ∧ sm_SK (S 63) (S 64) (S 44) (S 1100007) (S 1100025) (S 1076 0) (S 1007 0) (400 * ((S 1092 0) - 1)) ((S 58 ((S 1092 0) - 1))) ((S 1100034 0)) ∧ -1 ≤ (S 1100034 0) ∧ (S 1100034 0) < (S 1046 0) ∧ (0 ≤ (S 1100034 0) → (S 26 (S 1100034 0)) = 29) ∧ 0 ≤ (2 : Int) ∧ (2 : Int) ≤ (S 58 ((S 1092 0) - 1)) ∧ (S 58 ((S 1092 0) - 1)) - (2 : Int) ≤ 399 ∧ sm_VO (S 44) (S 1076 0) (S 1007 0) ((g17 1111 0)) ((g17 1112 0)) ∧ (0 ≤ (S 1100034 0) → (S 1100007 (S 1100034 0)) ≤ (S 58 ((S 1092 0) - 1)) - (2 : Int)) ∧ (S 1100033 0) + 1 < (S 1046 0) ∧ (S 29 ((S 1100033 0) + 1)) = (S 29 (S 1100033 0)) ∧ (S 1100007 ((S 1100033 0) + 1)) = (S 58 ((S 1092 0) - 1)) - (2 : Int) + 1 ∧ (S 1100023 ((S 1100033 0) + 1)) = (S 1100023 (S 1100033 0)) ∧ (S 1100025 ((S 1100033 0) + 1)) = (S 1100034 0)) ∧ (¬ (S 1075 0) = 0 → sm_LX (S 58) (S 63) (S 64) (S 1092 0) (S 1076 0))) ∧ (∀ g23 : sv_S, (((S 1075 0) = 0 → (S 1073 0) = 1 → 1 ≤ (S 1092 0) ∧ (S 1092 0) ≤ 24 ∧ 0 ≤ (g23 57 ((S 1092 0) - 1)) ∧ (g23 57 ((S 1092 0) - 1)) < (S 1046 0) ∧ (S 29 (g23 57 ((S 1092 0) - 1))) = (S 53 ((S 1092 0) - 1)) ∧ 0 ≤ (S 53 ((S 1092 0) - 1)) ∧ (S 53 ((S 1092 0) - 1)) < (S 1032 0) ∧ (S 60 ((S 1092 0) - 1)) = sm_dp (S 1100024) (S 1100023 (g23 57 ((S 1092 0) - 1))) ∧ sm_TC (S 61) (S 62) (S 27) (S 1100007) (S 1100023) (S 1100024) (40 * ((S 1092 0) - 1)) (S 1100023 (g23 57 ((S 1092 0) - 1))) ∧ sm_LK (S 1100029) (S 1076 0) (S 54 ((S 1092 0) - 1)) (S 53 ((S 1092 0) - 1)) ∧ sm_VO (S 44) (S 1076 0) (S 1007 0) ((S 55 ((S 1092 0) - 1))) ((S 56 ((S 1092 0) - 1))) ∧ sm_FW (S 44) (S 1076 0) (S 59 ((S 1092 0) - 1)) ∧ sm_FL (S 53) (S 54) (S 55) (S 56) (g23 57) (g23 58) (S 59) (S 60) (S 61) (S 62) (g23 63) (g23 64) (S 27) (S 29) (S 1100007) (S 1100023) (S 1100024) (S 1100025) (S 26) (S 1100029) (S 44) (S 1046 0) (S 1032 0) (S 1076 0) (S 1007 0) (((S 1092 0) - 1)) ∧ (g23 58 ((S 1092 0) - 1)) = (S 1100007 (g23 57 ((S 1092 0) - 1))) ∧ sm_SK (g23 63) (g23 64) (S 44) (S 1100007) (S 1100025) (S 1076 0) (S 1007 0) (400 * ((S 1092 0) - 1)) ((g23 58 ((S 1092 0) - 1))) ((S 1100025 (g23 57 ((S 1092 0) - 1))))) ∧ (¬ (S 1075 0) = 0 → sm_LX (g23 58) (g23 63) (g23 64) (S 1092 0) (S 1076 0))) → (sm_PL (S 1100020) (S 51) (S 52) (S 46) (S 47) (S 1076 0) (S 1086 0) ∧ sm_FR (S 1100020) (S 52) (S 1100021) (S 1100022) (3000 - (S 1084 0)) (S 1085 0) ∧ sm_PV (S 1100020) (S 48) (S 49) (S 50) (S 44) (S 1076 0) (S 1007 0) ∧ sm_AL (S 1100020) (S 48) (S 49) (S 50) (S 44) (S 1076 0) (S 1100032 0) ∧ sm_SV (S 1100020) (S 48) (S 1100029) (S 32) (S 33) (S 1076 0) (S 1032 0) ∧ 0 ≤ (S 1076 0) ∧ (S 1076 0) ≤ 300 ∧ 0 ≤ (S 1084 0) ∧ (S 1084 0) ≤ 3000 ∧ 0 ≤ (S 1086 0) ∧ sm_SC (S 1100029) (S 44) (S 45) (S 43) (S 21) (S 1076 0) (S 1032 0) ∧ sm_PO (S 42) (S 1076 0) ∧ ((S 1075 0) = 0 → (S 1100032 0) = -1 ∧ sm_FO (S 44) (S 45) (S 1076 0)) ∧ 23 ≤ (S 1076 0) ∧ 31 ≤ (S 1007 0) ∧ (S 1007 0) ≤ 400 ∧ sm_LN (S 4) 400 (S 1007 0) ∧ (S 1008 0) ≤ (S 1007 0) ∧ ((S 1075 0) = 1 → (S 1075 0) = 1) ∧ 0 ≤ (S 1092 0) ∧ (S 1092 0) ≤ 24 ∧ (S 1007 0) ≤ (S 1007 0) ∧ (¬ (S 1075 0) = 0 → sm_LX (g23 58) (g23 63) (g23 64) (S 1092 0) (S 1076 0)) ∧ ((S 1075 0) = 0 → (S 1073 0) = 1 → 1 ≤ (S 1092 0) ∧ (S 1092 0) ≤ 24 ∧ 0 ≤ (g23 57 ((S 1092 0) - 1)) ∧ (g23 57 ((S 1092 0) - 1)) < (S 1046 0) ∧ (S 29 (g23 57 ((S 1092 0) - 1))) = (S 53 ((S 1092 0) - 1)) ∧ 0 ≤ (S 53 ((S 1092 0) - 1)) ∧ (S 53 ((S 1092 0) - 1)) < (S 1032 0) ∧ (S 60 ((S 1092 0) - 1)) = sm_dp (S 1100024) (S 1100023 (g23 57 ((S 1092 0) - 1))) ∧ sm_TC (S 61) (S 62) (S 27) (S 1100007) (S 1100023) (S 1100024) (40 * ((S 1092 0) - 1)) (S 1100023 (g23 57 ((S 1092 0) - 1))) ∧ sm_LK (S 1100029) (S 1076 0) (S 54 ((S 1092 0) - 1)) (S 53 ((S 1092 0) - 1)) ∧ sm_VO (S 44) (S 1076 0) (S 1007 0) ((S 55 ((S 1092 0) - 1))) ((S 56 ((S 1092 0) - 1))) ∧ sm_FW (S 44) (S 1076 0) (S 59 ((S 1092 0) - 1)) ∧ sm_FL (S 53) (S 54) (S 55) (S 56) (g23 57) (g23 58) (S 59) (S 60) (S 61) (S 62) (g23 63) (g23 64) (S 27) (S 29) (S 1100007) (S 1100023) (S 1100024) (S 1100025) (S 26) (S 1100029) (S 44) (S 1046 0) (S 1032 0) (S 1076 0) (S 1007 0) (((S 1092 0) - 1)) ∧ (g23 58 ((S 1092 0) - 1)) = (S 1100007 (g23 57 ((S 1092 0) - 1))) ∧ sm_SK (g23 63) (g23 64) (S 44) (S 1100007) (S 1100025) (S 1076 0) (S 1007 0) (400 * ((S 1092 0) - 1)) ((g23 58 ((S 1092 0) - 1))) ((S 1100025 (g23 57 ((S 1092 0) - 1))))) ∧ ((S 1073 0) = 1 ∨ (S 1092 0) = 0 ∧ (S 1075 0) = 0 ∧ ((S 1073 0) = 2 ∨ (S 1073 0) = 3)))))) ∧ ((¬ (l8_12 = (-1 : Int))) → ((sm_PO (S 42) (S 1076 0) → 0 ≤ l8_12 → l8_12 < (S 1076 0) → 2 ≤ (S 1076 0) → (S 42 l8_12) = -1 ∨ (0 ≤ (S 42 l8_12) ∧ (S 42 l8_12) < (S 1076 0) ∧ ((S 42 l8_12) < l8_12 ∨ (l8_12 = 0 ∧ (S 42 l8_12) = 1)) ∧ ¬ l8_12 = 1)) → ((-1 ≤ (S 42 l8_12) → 0 ≤ sm_pm (S 42 l8_12)) → ((sm_PO (S 42) (S 1076 0) → 0 ≤ l8_12 → l8_12 < (S 1076 0) → sm_pm (S 42 l8_12) < sm_pm l8_12) → ((∀ s31 : Int, sv_R s31 → (s31 = 0 ∨ s31 = 1) → (0 ≤ l8_12 ∧ l8_12 < 300) ∧ (sv_R (S 42 l8_12) → (((s31 = 0 ∨ s31 = 1) ∧ -1 ≤ (S 42 l8_12) ∧ (S 42 l8_12) < (S 1076 0) ∧ 0 ≤ sm_pm (S 42 l8_12)) ∧ (sm_pm (S 42 l8_12)) < (sm_pm l8_12)))) ∧ ((sm_PO (S 42) (S 1076 0) → 0 ≤ l8_12 → l8_12 < (S 1076 0) → 2 ≤ (S 1076 0) → (S 42 l8_12) = -1 ∨ (0 ≤ (S 42 l8_12) ∧ (S 42 l8_12) < (S 1076 0) ∧ ((S 42 l8_12) < l8_12 ∨ (l8_12 = 0 ∧ (S 42 l8_12) = 1)) ∧ ¬ l8_12 = 1)) → ((-1 ≤ (S 42 l8_12) → 0 ≤ sm_pm (S 42 l8_12)) → ((sm_PO (S 42) (S 1076 0) → 0 ≤ l8_12 → l8_12 < (S 1076 0) → sm_pm (S 42 l8_12) < sm_pm l8_12) → (((¬ l7_11 = (0 : Int)) → ((1 : Int) = 0 ∨ (1 : Int) = 1)) ∧ ((¬ (¬ l7_11 = (0 : Int))) → (((¬ l8_12 = (S 1112 0)) → ((0 : Int) = 0 ∨ (0 : Int) = 1)) ∧ ((¬ (¬ l8_12 = (S 1112 0))) → ((1 : Int) = 0 ∨ (1 : Int) = 1)))))))))))))))))) ∧ (((¬ p1 = (7 : Int)) → (-1 ≤ (-1 : Int) ∧ (-1 : Int) < (S 1076 0))) ∧ ((¬ (¬ p1 = (7 : Int))) → ((sm_PO (S 42) (S 1076 0) → 0 ≤ p2 → p2 < (S 1076 0) → 2 ≤ (S 1076 0) → (S 42 p2) = -1 ∨ (0 ≤ (S 42 p2) ∧ (S 42 p2) < (S 1076 0) ∧ ((S 42 p2) < p2 ∨ (p2 = 0 ∧ (S 42 p2) = 1)) ∧ ¬ p2 = 1)) → (0 ≤ p2 ∧ p2 < 300) ∧ (sv_R (S 42 p2) → (-1 ≤ (S 42 p2) ∧ (S 42 p2) < (S 1076 0))))))))) ∧ ((¬ (¬ r6 = (0 : Int))) → ((S 1075 0) = 0 ∧ (S 1073 0) = 1 ∧ sm_LX (S 58) (S 63) (S 64) (S 1092 0) (S 1076 0) ∧ sm_PL (S 1100020) (S 51) (S 52) (S 46) (S 47) (S 1076 0) (S 1086 0) ∧ sm_FR (S 1100020) (S 52) (S 1100021) (S 1100022) (3000 - (S 1084 0)) (S 1085 0) ∧ sm_PV (S 1100020) (S 48) (S 49) (S 50) (S 44) (S 1076 0) (S 1007 0) ∧ sm_AL (S 1100020) (S 48) (S 49) (S 50) (S 44) (S 1076 0) (S 1100032 0) ∧ sm_SV (S 1100020) (S 48) (S 1100029) (S 32) (S 33) (S 1076 0) (S 1032 0) ∧ 0 ≤ (S 1076 0) ∧ (S 1076 0) ≤ 300 ∧ 0 ≤ (S 1084 0) ∧ (S 1084 0) ≤ 3000 ∧ 0 ≤ (S 1086 0) ∧ sm_SC (S 1100029) (S 44) (S 45) (S 43) (S 21) (S 1076 0) (S 1032 0) ∧ sm_PO (S 42) (S 1076 0) ∧ (S 1100032 0) = -1 ∧ sm_FO (S 44) (S 45) (S 1076 0) ∧ 23 ≤ (S 1076 0) ∧ 31 ≤ (S 1007 0) ∧ (S 1007 0) ≤ 400 ∧ sm_LN (S 4) 400 (S 1007 0) ∧ sm_CT (S 26) (S 27) (S 28) (S 29) (S 1100007) (S 1100023) (S 1100024) (S 1100025) (S 21) (S 1046 0) (S 1032 0) (S 1008 0) (S 1055 0) ∧ sm_LS (S 26) (S 1100007) (S 1100025) (S 1046 0) ∧ sm_CL (S 1100007) (S 1100023) (S 1100025) (S 1046 0) ∧ 1 ≤ (S 1032 0) ∧ (S 1032 0) ≤ 11 ∧ 0 ≤ (S 1046 0) ∧ (S 1046 0) ≤ 600 ∧ 31 ≤ (S 1008 0) ∧ (S 1008 0) ≤ (S 1007 0) ∧ 0 ≤ (S 1055 0) ∧ (S 1055 0) ≤ 19 ∧ 1 ≤ (S 1092 0) ∧ (S 1092 0) ≤ 24 ∧ 0 ≤ (S 57 ((S 1092 0) - 1)) ∧ (S 57 ((S 1092 0) - 1)) < (S 1046 0) ∧ (S 29 (S 57 ((S 1092 0) - 1))) = (S 53 ((S 1092 0) - 1)) ∧ 0 ≤ (S 53 ((S 1092 0) - 1)) ∧ (S 53 ((S 1092 0) - 1)) < (S 1032 0) ∧ (S 60 ((S 1092 0) - 1)) = sm_dp (S 1100024) (S 1100023 (S 57 ((S 1092 0) - 1))) ∧ sm_TC (S 61) (S 62) (S 27) (S 1100007) (S 1100023) (S 1100024) (40 * ((S 1092 0) - 1)) (S 1100023 (S 57 ((S 1092 0) - 1))) ∧ sm_LK (S 1100029) (S 1076 0) (S 54 ((S 1092 0) - 1)) (S 53 ((S 1092 0) - 1)) ∧ sm_VO (S 44) (S 1076 0) (S 1007 0) ((S 55 ((S 1092 0) - 1))) ((S 56 ((S 1092 0) - 1))) ∧ sm_FW (S 44) (S 1076 0) (S 59 ((S 1092 0) - 1)) ∧ sm_FL (S 53) (S 54) (S 55) (S 56) (S 57) (S 58) (S 59) (S 60) (S 61) (S 62) (S 63) (S 64) (S 27) (S 29) (S 1100007) (S 1100023) (S 1100024) (S 1100025) (S 26) (S 1100029) (S 44) (S 1046 0) (S 1032 0) (S 1076 0) (S 1007 0) (((S 1092 0) - 1)) ∧ (S 58 ((S 1092 0) - 1)) = (S 1100007 (S 57 ((S 1092 0) - 1))) ∧ sm_SK (S 63) (S 64) (S 44) (S 1100007) (S 1100025) (S 1076 0) (S 1007 0) (400 * ((S 1092 0) - 1)) ((S 58 ((S 1092 0) - 1))) ((S 1100025 (S 57 ((S 1092 0) - 1)))) ∧ (0 ≤ (S 1100023 (S 57 ((S 1092 0) - 1))) → (S 1100007 (S 1100023 (S 57 ((S 1092 0) - 1)))) ≤ (S 58 ((S 1092 0) - 1))) ∧ 6 ≤ (6 : Int) ∧ (6 : Int) ≤ 8) ∧ (∀ g44 : sv_S, (sm_PL (S 1100020) (S 51) (S 52) (g44 46) (g44 47) (g44 1076 0) (S 1086 0) ∧ sm_FR (S 1100020) (S 52) (S 1100021) (S 1100022) (3000 - (S 1084 0)) (S 1085 0) ∧ sm_PV (S 1100020) (S 48) (S 49) (S 50) (g44 44) (g44 1076 0) (S 1007 0) ∧ sm_AL (S 1100020) (S 48) (S 49) (S 50) (g44 44) (g44 1076 0) (S 1100032 0) ∧ sm_SV (S 1100020) (S 48) (g44 1100029) (S 32) (S 33) (g44 1076 0) (S 1032 0) ∧ 0 ≤ (g44 1076 0) ∧ (g44 1076 0) ≤ 300 ∧ 0 ≤ (S 1084 0) ∧ (S 1084 0) ≤ 3000 ∧ 0 ≤ (S 1086 0) ∧ sm_SC (g44 1100029) (g44 44) (g44 45) (g44 43) (S 21) (g44 1076 0) (S 1032 0) ∧ sm_PO (g44 42) (g44 1076 0) ∧ ((g44 1075 0) = 0 → (S 1100032 0) = -1 ∧ sm_FO (g44 44) (g44 45) (g44 1076 0)) ∧ 23 ≤ (g44 1076 0) ∧ 31 ≤ (S 1007 0) ∧ (S 1007 0) ≤ 400 ∧ sm_LN (S 4) 400 (S 1007 0) ∧ (S 1008 0) ≤ (S 1007 0) ∧ ((S 1075 0) = 1 → (g44 1075 0) = 1) ∧ 0 ≤ (g44 1092 0) ∧ (g44 1092 0) ≤ 24 ∧ (S 1007 0) ≤ (S 1007 0) ∧ (¬ (g44 1075 0) = 0 → sm_LX (g44 58) (g44 63) (g44 64) (g44 1092 0) (g44 1076 0)) ∧ ((g44 1075 0) = 0 → (g44 1073 0) = 1 → 1 ≤ (g44 1092 0) ∧ (g44 1092 0) ≤ 24 ∧ 0 ≤ (g44 57 ((g44 1092 0) - 1)) ∧ (g44 57 ((g44 1092 0) - 1)) < (S 1046 0) ∧ (S 29 (g44 57 ((g44 1092 0) - 1))) = (S 53 ((g44 1092 0) - 1)) ∧ 0 ≤ (S 53 ((g44 1092 0) - 1)) ∧ (S 53 ((g44 1092 0) - 1)) < (S 1032 0) ∧ (g44 60 ((g44 1092 0) - 1)) = sm_dp (S 1100024) (S 1100023 (g44 57 ((g44 1092 0) - 1))) ∧ sm_TC (S 61) (S 62) (S 27) (S 1100007) (S 1100023) (S 1100024) (40 * ((g44 1092 0) - 1)) (S 1100023 (g44 57 ((g44 1092 0) - 1))) ∧ sm_LK (g44 1100029) (g44 1076 0) (S 54 ((g44 1092 0) - 1)) (S 53 ((g44 1092 0) - 1)) ∧ sm_VO (g44 44) (g44 1076 0) (S 1007 0) ((S 55 ((g44 1092 0) - 1))) ((S 56 ((g44 1092 0) - 1))) ∧ sm_FW (g44 44) (g44 1076 0) (S 59 ((g44 1092 0) - 1)) ∧ sm_FL (S 53) (S 54) (S 55) (S 56) (g44 57) (g44 58) (S 59) (g44 60) (S 61) (S 62) (g44 63) (g44 64) (S 27) (S 29) (S 1100007) (S 1100023) (S 1100024) (S 1100025) (S 26) (g44 1100029) (g44 44) (S 1046 0) (S 1032 0) (g44 1076 0) (S 1007 0) (((g44 1092 0) - 1)) ∧ (g44 58 ((g44 1092 0) - 1)) = (S 1100007 (g44 57 ((g44 1092 0) - 1))) ∧ sm_SK (g44 63) (g44 64) (g44 44) (S 1100007) (S 1100025) (g44 1076 0) (S 1007 0) (400 * ((g44 1092 0) - 1)) ((g44 58 ((g44 1092 0) - 1))) ((S 1100025 (g44 57 ((g44 1092 0) - 1))))) ∧ ((g44 1073 0) = 1 ∨ (g44 1092 0) = 0 ∧ (g44 1075 0) = 0 ∧ ((g44 1073 0) = 2 ∨ (g44 1073 0) = 3)) ∧ ((g44 1073 0) = 1 ∨ (g44 1073 0) = 3)) → (sm_PL (S 1100020) (S 51) (S 52) (g44 46) (g44 47) (g44 1076 0) (S 1086 0) ∧ sm_FR (S 1100020) (S 52) (S 1100021) (S 1100022) (3000 - (S 1084 0)) (S 1085 0) ∧ sm_PV (S 1100020) (S 48) (S 49) (S 50) (g44 44) (g44 1076 0) (S 1007 0) ∧ sm_AL (S 1100020) (S 48) (S 49) (S 50) (g44 44) (g44 1076 0) (S 1100032 0) ∧ sm_SV (S 1100020) (S 48) (g44 1100029) (S 32) (S 33) (g44 1076 0) (S 1032 0) ∧ 0 ≤ (g44 1076 0) ∧ (g44 1076 0) ≤ 300 ∧ 0 ≤ (S 1084 0) ∧ (S 1084 0) ≤ 3000 ∧ 0 ≤ (S 1086 0) ∧ sm_SC (g44 1100029) (g44 44) (g44 45) (g44 43) (S 21) (g44 1076 0) (S 1032 0) ∧ sm_PO (g44 42) (g44 1076 0) ∧ ((g44 1075 0) = 0 → (S 1100032 0) = -1 ∧ sm_FO (g44 44) (g44 45) (g44 1076 0)) ∧ 23 ≤ (g44 1076 0) ∧ 31 ≤ (S 1007 0) ∧ (S 1007 0) ≤ 400 ∧ sm_LN (S 4) 400 (S 1007 0) ∧ (S 1008 0) ≤ (S 1007 0) ∧ ((S 1075 0) = 1 → (g44 1075 0) = 1) ∧ 0 ≤ (g44 1092 0) ∧ (g44 1092 0) ≤ 24 ∧ (S 1007 0) ≤ (S 1007 0) ∧ (¬ (g44 1075 0) = 0 → sm_LX (g44 58) (g44 63) (g44 64) (g44 1092 0) (g44 1076 0)) ∧ ((g44 1075 0) = 0 → (g44 1073 0) = 1 → 1 ≤ (g44 1092 0) ∧ (g44 1092 0) ≤ 24 ∧ 0 ≤ (g44 57 ((g44 1092 0) - 1)) ∧ (g44 57 ((g44 1092 0) - 1)) < (S 1046 0) ∧ (S 29 (g44 57 ((g44 1092 0) - 1))) = (S 53 ((g44 1092 0) - 1)) ∧ 0 ≤ (S 53 ((g44 1092 0) - 1)) ∧ (S 53 ((g44 1092 0) - 1)) < (S 1032 0) ∧ (g44 60 ((g44 1092 0) - 1)) = sm_dp (S 1100024) (S 1100023 (g44 57 ((g44 1092 0) - 1))) ∧ sm_TC (S 61) (S 62) (S 27) (S 1100007) (S 1100023) (S 1100024) (40 * ((g44 1092 0) - 1)) (S 1100023 (g44 57 ((g44 1092 0) - 1))) ∧ sm_LK (g44 1100029) (g44 1076 0) (S 54 ((g44 1092 0) - 1)) (S 53 ((g44 1092 0) - 1)) ∧ sm_VO (g44 44) (g44 1076 0) (S 1007 0) ((S 55 ((g44 1092 0) - 1))) ((S 56 ((g44 1092 0) - 1))) ∧ sm_FW (g44 44) (g44 1076 0) (S 59 ((g44 1092 0) - 1)) ∧ sm_FL (S 53) (S 54) (S 55) (S 56) (g44 57) (g44 58) (S 59) (g44 60) (S 61) (S 62) (g44 63) (g44 64) (S 27) (S 29) (S 1100007) (S 1100023) (S 1100024) (S 1100025) (S 26) (g44 1100029) (g44 44) (S 1046 0) (S 1032 0) (g44 1076 0) (S 1007 0) (((g44 1092 0) - 1)) ∧ (g44 58 ((g44 1092 0) - 1)) = (S 1100007 (g44 57 ((g44 1092 0) - 1))) ∧ sm_SK (g44 63) (g44 64) (g44 44) (S 1100007) (S 1100025) (g44 1076 0) (S 1007 0) (400 * ((g44 1092 0) - 1)) ((g44 58 ((g44 1092 0) - 1))) ((S 1100025 (g44 57 ((g44 1092 0) - 1))))) ∧ ((g44 1073 0) = 1 ∨ (g44 1092 0) = 0 ∧ (g44 1075 0) = 0 ∧ ((g44 1073 0) = 2 ∨ (g44 1073 0) = 3))))))) ∧ ((¬ (r6 = (0 : Int))) → (sm_PL (S 1100020) (S 51) (S 52) (S 46) (S 47) (S 1076 0) (S 1086 0) ∧ sm_FR (S 1100020) (S 52) (S 1100021) (S 1100022) (3000 - (S 1084 0)) (S 1085 0) ∧ sm_PV (S 1100020) (S 48) (S 49) (S 50) (S 44) (S 1076 0) (S 1007 0) ∧ sm_AL (S 1100020) (S 48) (S 49) (S 50) (S 44) (S 1076 0) (S 1100032 0) ∧ sm_SV (S 1100020) (S 48) (S 1100029) (S 32) (S 33) (S 1076 0) (S 1032 0) ∧ 0 ≤ (S 1076 0) ∧ (S 1076 0) ≤ 300 ∧ 0 ≤ (S 1084 0) ∧ (S 1084 0) ≤ 3000 ∧ 0 ≤ (S 1086 0) ∧ sm_SC (S 1100029) (S 44) (S 45) (S 43) (S 21) (S 1076 0) (S 1032 0) ∧ sm_PO (S 42) (S 1076 0) ∧ 2 ≤ (S 1076 0) ∧ 0 ≤ p4 ∧ p4 < (S 1076 0)) ∧ (∀ r54 : Int, sv_R r54 → ∀ g50 : sv_S, ((r54 = 0 ∨ r54 = 1) ∧ sm_VO (S 44) (S 1076 0) (S 1007 0) ((g50 1111 0)) ((g50 1112 0))) → ((∀ s56 : Int, sv_R s56 → (s56 = 0 ∨ s56 = 1) → (((¬ s56 = (0 : Int)) → (sv_R (g50 1112 0) → ((∀ s59 : Int, sv_R s59 → (-1 ≤ s59 ∧ s59 < (S 1076 0)) → ((-1 ≤ s59 → 0 ≤ sm_pm s59) → ((((0 : Int) = 0 ∨ (0 : Int) = 1) ∧ -1 ≤ s59 ∧ s59 < (S 1076 0) ∧ 0 ≤ sm_pm s59) ∧ (∀ l7_62 : Int, sv_R l7_62 → ∀ l8_63 : Int, sv_R l8_63 → ((l7_62 = 0 ∨ l7_62 = 1) ∧ -1 ≤ l8_63 ∧ l8_63 < (S 1076 0) ∧ 0 ≤ sm_pm l8_63) → (0 ≤ sm_pm l8_63) ∧ (((l8_63 = (-1 : Int)) → (0 ≤ l7_62 ∧ l7_62 ≤ 1) ∧ (∀ g68 : sv_S, (((g68 1111 0) = 2 ∨ (g68 1111 0) = 3) ∧ (g68 1112 0) = 0) → (((S 1075 0) = 0 → (S 1073 0) = 1 → sm_PL (S 1100020) (S 51) (S 52) (S 46) (S 47) (S 1076 0) (S 1086 0) ∧ sm_FR (S 1100020) (S 52) (S 1100021) (S 1100022) (3000 - (S 1084 0)) (S 1085 0) ∧ sm_PV (S 1100020) (S 48) (S 49) (S 50) (S 44) (S 1076 0) (S 1007 0) ∧ sm_AL (S 1100020) (S 48) (S 49) (S 50) (S 44) (S 1076 0) (S 1100032 0) ∧ sm_SV (S 1100020) (S 48) (S 1100029) (S 32) (S 33) (S 1076 0) (S 1032 0) ∧ 0 ≤ (S 1076 0) ∧ (S 1076 0) ≤ 300 ∧ 0 ≤ (S 1084 0) ∧ (S 1084 0) ≤ 3000 ∧ 0 ≤ (S 1086 0) ∧ sm_SC (S 1100029) (S 44) (S 45) (S 43) (S 21) (S 1076 0) (S 1032 0) ∧ sm_PO (S 42) (S 1076 0) ∧ (S 1100032 0) = -1 ∧ sm_FO (S 44) (S 45) (S 1076 0) ∧ 23 ≤ (S 1076 0) ∧ 31 ≤ (S 1007 0) ∧ (S 1007 0) ≤ 400 ∧ sm_LN (S 4) 400 (S 1007 0) ∧ sm_CT (S 26) (S 27) (S 28) (S 29) (S 1100007) (S 1100023) (S 1100024) (S 1100025) (S 21) (S 1046 0) (S 1032 0) (S 1008 0) (S 1055 0) ∧ sm_LS (S 26) (S 1100007) (S 1100025) (S 1046 0) ∧ sm_CL (S 1100007) (S 1100023) (S 1100025) (S 1046 0) ∧ 1 ≤ (S 1032 0) ∧ (S 1032 0) ≤ 11 ∧ 0 ≤ (S 1046 0) ∧ (S 1046 0) ≤ 600 ∧ 31 ≤ (S 1008 0) ∧ (S 1008 0) ≤ (S 1007 0) ∧ 0 ≤ (S 1055 0) ∧ (S 1055 0) ≤ 19 ∧ 1 ≤ (S 1092 0) ∧ (S 1092 0) ≤ 24 ∧ 0 ≤ (S 1100033 0) ∧ (S 1100033 0) < (S 1046 0) ∧ (S 29 (S 1100033 0)) = (S 53 ((S 1092 0) - 1)) ∧ 0 ≤ (S 53 ((S 1092 0) - 1)) ∧ (S 53 ((S 1092 0) - 1)) < (S 1032 0) ∧ (S 60 ((S 1092 0) - 1)) = sm_dp (S 1100024) (S 1100023 (S 1100033 0)) ∧ sm_TC (S 61) (S 62) (S 27) (S 1100007) (S 1100023) (S 1100024) (40 * ((S 1092 0) - 1)) (S 1100023 (S 1100033 0)) ∧ sm_LK (S 1100029) (S 1076 0) (S 54 ((S 1092 0) - 1)) (S 53 ((S 1092 0) - 1)) ∧ sm_VO (S 44) (S 1076 0) (S 1007 0) ((S 55 ((S 1092 0) - 1))) ((S 56 ((S 1092 0) - 1))) ∧ sm_FW (S 44) (S 1076 0) (S 59 ((S 1092 0) - 1)) ∧ sm_FL (S 53) (S 54) (S 55) (S 56) (S 57) (S 58) (S 59) (S 60) (S 61) (S 62) (S 63) (S 64) (S 27) (S 29) (S 1100007) (S 1100023) (S 1100024) (S 1100025) (S 26) (S 1100029) (S 44) (S 1046 0) (S 1032 0) (S 1076 0) (S 1007 0) (((S 1092 0) - 1)) ∧ (S 57 ((S 1092 0) - 1)) = (S 1100033 0) ∧ 0 ≤ (S 58 ((S 1092 0) - 1)) ∧ (S 58 ((S 1092 0) - 1)) ≤ 400 ∧ sm_SK (S 63) (S 64) (S 44) (S 1100007) (S 1100025) (S 1076 0) (S 1007 0) (400 * ((S 1092 0) - 1)) ((S 58 ((S 1092 0) - 1))) ((S 1100034 0)) ∧ -1 ≤ (S 1100034 0) ∧ (S 1100034 0) < (S 1046 0) ∧ (0 ≤ (S 1100034 0) → (S 26 (S 1100034 0)) = 29) ∧ 0 ≤ (2 : Int) ∧ (2 : Int) ≤ (S 58 ((S 1092 0) - 1)) ∧ (S 58 ((S 1092 0) - 1)) - (2 : Int) ≤ 399 ∧ sm_VO (S 44) (S 1076 0) (S 1007 0) ((g68 1111 0)) ((g68 1112 0)) ∧ (0 ≤ (S 1100034 0) → (S 1100007 (S 1100034 0)) ≤ (S 58 ((S 1092 0) - 1)) - (2 : Int)) ∧ (S 1100033 0) + 1 < (S 1046 0) ∧ (S 29 ((S 1100033 0) + 1)) = (S 29 (S 1100033 0)) ∧ (S 1100007 ((S 1100033 0) + 1)) = (S 58 ((S 1092 0) - 1)) - (2 : Int) + 1 ∧ (S 1100023 ((S 1100033 0) + 1)) = (S 1100023 (S 1100033 0)) ∧ (S 1100025 ((S 1100033 0) + 1)) = (S 1100034 0)) ∧ (¬ (S 1075 0) = 0 → sm_LX (S 58) (S 63) (S 64) (S 1092 0) (S 1076 0))) ∧ (∀ g74 : sv_S, (((S 1075 0) = 0 → (S 1073 0) = 1 → 1 ≤ (S 1092 0) ∧ (S 1092 0) ≤ 24 ∧ 0 ≤ (g74 57 ((S 1092 0) - 1)) ∧ (g74 57 ((S 1092 0) - 1)) < (S 1046 0) ∧ (S 29 (g74 57 ((S 1092 0) - 1))) = (S 53 ((S 1092 0) - 1)) ∧ 0 ≤ (S 53 ((S 1092 0) - 1)) ∧ (S 53 ((S 1092 0) - 1)) < (S 1032 0) ∧ (S 60 ((S 1092 0) - 1)) = sm_dp (S 1100024) (S 1100023 (g74 57 ((S 1092 0) - 1))) ∧ sm_TC (S 61) (S 62) (S 27) (S 1100007) (S 1100023) (S 1100024) (40 * ((S 1092 0) - 1)) (S 1100023 (g74 57 ((S 1092 0) - 1))) ∧ sm_LK (S 1100029) (S 1076 0) (S 54 ((S 1092 0) - 1)) (S 53 ((S 1092 0) - 1)) ∧ sm_VO (S 44) (S 1076 0) (S 1007 0) ((S 55 ((S 1092 0) - 1))) ((S 56 ((S 1092 0) - 1))) ∧ sm_FW (S 44) (S 1076 0) (S 59 ((S 1092 0) - 1)) ∧ sm_FL (S 53) (S 54) (S 55) (S 56) (g74 57) (g74 58) (S 59) (S 60) (S 61) (S 62) (g74 63) (g74 64) (S 27) (S 29) (S 1100007) (S 1100023) (S 1100024) (S 1100025) (S 26) (S 1100029) (S 44) (S 1046 0) (S 1032 0) (S 1076 0) (S 1007 0) (((S 1092 0) - 1)) ∧ (g74 58 ((S 1092 0) - 1)) = (S 1100007 (g74 57 ((S 1092 0) - 1))) ∧ sm_SK (g74 63) (g74 64) (S 44) (S 1100007) (S 1100025) (S 1076 0) (S 1007 0) (400 * ((S 1092 0) - 1)) ((g74 58 ((S 1092 0) - 1))) ((S 1100025 (g74 57 ((S 1092 0) - 1))))) ∧ (¬ (S 1075 0) = 0 → sm_LX (g74 58) (g74 63) (g74 64) (S 1092 0) (S 1076 0))) → (sm_PL (S 1100020) (S 51) (S 52) (S 46) (S 47) (S 1076 0) (S 1086 0) ∧ sm_FR (S 1100020) (S 52) (S 1100021) (S 1100022) (3000 - (S 1084 0)) (S 1085 0) ∧ sm_PV (S 1100020) (S 48) (S 49) (S 50) (S 44) (S 1076 0) (S 1007 0) ∧ sm_AL (S 1100020) (S 48) (S 49) (S 50) (S 44) (S 1076 0) (S 1100032 0) ∧ sm_SV (S 1100020) (S 48) (S 1100029) (S 32) (S 33) (S 1076 0) (S 1032 0) ∧ 0 ≤ (S 1076 0) ∧ (S 1076 0) ≤ 300 ∧ 0 ≤ (S 1084 0) ∧ (S 1084 0) ≤ 3000 ∧ 0 ≤ (S 1086 0) ∧ sm_SC (S 1100029) (S 44) (S 45) (S 43) (S 21) (S 1076 0) (S 1032 0) ∧ sm_PO (S 42) (S 1076 0) ∧ ((S 1075 0) = 0 → (S 1100032 0) = -1 ∧ sm_FO (S 44) (S 45) (S 1076 0)) ∧ 23 ≤ (S 1076 0) ∧ 31 ≤ (S 1007 0) ∧ (S 1007 0) ≤ 400 ∧ sm_LN (S 4) 400 (S 1007 0) ∧ (S 1008 0) ≤ (S 1007 0) ∧ ((S 1075 0) = 1 → (S 1075 0) = 1) ∧ 0 ≤ (S 1092 0) ∧ (S 1092 0) ≤ 24 ∧ (S 1007 0) ≤ (S 1007 0) ∧ (¬ (S 1075 0) = 0 → sm_LX (g74 58) (g74 63) (g74 64) (S 1092 0) (S 1076 0)) ∧ ((S 1075 0) = 0 → (S 1073 0) = 1 → 1 ≤ (S 1092 0) ∧ (S 1092 0) ≤ 24 ∧ 0 ≤ (g74 57 ((S 1092 0) - 1)) ∧ (g74 57 ((S 1092 0) - 1)) < (S 1046 0) ∧ (S 29 (g74 57 ((S 1092 0) - 1))) = (S 53 ((S 1092 0) - 1)) ∧ 0 ≤ (S 53 ((S 1092 0) - 1)) ∧ (S 53 ((S 1092 0) - 1)) < (S 1032 0) ∧ (S 60 ((S 1092 0) - 1)) = sm_dp (S 1100024) (S 1100023 (g74 57 ((S 1092 0) - 1))) ∧ sm_TC (S 61) (S 62) (S 27) (S 1100007) (S 1100023) (S 1100024) (40 * ((S 1092 0) - 1)) (S 1100023 (g74 57 ((S 1092 0) - 1))) ∧ sm_LK (S 1100029) (S 1076 0) (S 54 ((S 1092 0) - 1)) (S 53 ((S 1092 0) - 1)) ∧ sm_VO (S 44) (S 1076 0) (S 1007 0) ((S 55 ((S 1092 0) - 1))) ((S 56 ((S 1092 0) - 1))) ∧ sm_FW (S 44) (S 1076 0) (S 59 ((S 1092 0) - 1)) ∧ sm_FL (S 53) (S 54) (S 55) (S 56) (g74 57) (g74 58) (S 59) (S 60) (S 61) (S 62) (g74 63) (g74 64) (S 27) (S 29) (S 1100007) (S 1100023) (S 1100024) (S 1100025) (S 26) (S 1100029) (S 44) (S 1046 0) (S 1032 0) (S 1076 0) (S 1007 0) (((S 1092 0) - 1)) ∧ (g74 58 ((S 1092 0) - 1)) = (S 1100007 (g74 57 ((S 1092 0) - 1))) ∧ sm_SK (g74 63) (g74 64) (S 44) (S 1100007) (S 1100025) (S 1076 0) (S 1007 0) (400 * ((S 1092 0) - 1)) ((g74 58 ((S 1092 0) - 1))) ((S 1100025 (g74 57 ((S 1092 0) - 1))))) ∧ ((S 1073 0) = 1 ∨ (S 1092 0) = 0 ∧ (S 1075 0) = 0 ∧ ((S 1073 0) = 2 ∨ (S 1073 0) = 3)))))) ∧ ((¬ (l8_63 = (-1 : Int))) → ((sm_PO (S 42) (S 1076 0) → 0 ≤ l8_63 → l8_63 < (S 1076 0) → 2 ≤ (S 1076 0) → (S 42 l8_63) = -1 ∨ (0 ≤ (S 42 l8_63) ∧ (S 42 l8_63) < (S 1076 0) ∧ ((S 42 l8_63) < l8_63 ∨ (l8_63 = 0 ∧ (S 42 l8_63) = 1)) ∧ ¬ l8_63 = 1)) → ((-1 ≤ (S 42 l8_63) → 0 ≤ sm_pm (S 42 l8_63)) → ((sm_PO (S 42) (S 1076 0) → 0 ≤ l8_63 → l8_63 < (S 1076 0) → sm_pm (S 42 l8_63) < sm_pm l8_63) → ((∀ s82 : Int, sv_R s82 → (s82 = 0 ∨ s82 = 1) → (0 ≤ l8_63 ∧ l8_63 < 300) ∧ (sv_R (S 42 l8_63) → (((s82 = 0 ∨ s82 = 1) ∧ -1 ≤ (S 42 l8_63) ∧ (S 42 l8_63) < (S 1076 0) ∧ 0 ≤ sm_pm (S 42 l8_63)) ∧ (sm_pm (S 42 l8_63)) < (sm_pm l8_63)))) ∧ ((sm_PO (S 42) (S 1076 0) → 0 ≤ l8_63 → l8_63 < (S 1076 0) → 2 ≤ (S 1076 0) → (S 42 l8_63) = -1 ∨ (0 ≤ (S 42 l8_63) ∧ (S 42 l8_63) < (S 1076 0) ∧ ((S 42 l8_63) < l8_63 ∨ (l8_63 = 0 ∧ (S 42 l8_63) = 1)) ∧ ¬ l8_63 = 1)) → ((-1 ≤ (S 42 l8_63) → 0 ≤ sm_pm (S 42 l8_63)) → ((sm_PO (S 42) (S 1076 0) → 0 ≤ l8_63 → l8_63 < (S 1076 0) → sm_pm (S 42 l8_63) < sm_pm l8_63) → (((¬ l7_62 = (0 : Int)) → ((1 : Int) = 0 ∨ (1 : Int) = 1)) ∧ ((¬ (¬ l7_62 = (0 : Int))) → (((¬ l8_63 = (g50 1112 0)) → ((0 : Int) = 0 ∨ (0 : Int) = 1)) ∧ ((¬ (¬ l8_63 = (g50 1112 0))) → ((1 : Int) = 0 ∨ (1 : Int) = 1)))))))))))))))))) ∧ (((¬ p1 = (7 : Int)) → (-1 ≤ (-1 : Int) ∧ (-1 : Int) < (S 1076 0))) ∧ ((¬ (¬ p1 = (7 : Int))) → ((sm_PO (S 42) (S 1076 0) → 0 ≤ p2 → p2 < (S 1076 0) → 2 ≤ (S 1076 0) → (S 42 p2) = -1 ∨ (0 ≤ (S 42 p2) ∧ (S 42 p2) < (S 1076 0) ∧ ((S 42 p2) < p2 ∨ (p2 = 0 ∧ (S 42 p2) = 1)) ∧ ¬ p2 = 1)) → (0 ≤ p2 ∧ p2 < 300) ∧ (sv_R (S 42 p2) → (-1 ≤ (S 42 p2) ∧ (S 42 p2) < (S 1076 0))))))))) ∧ ((¬ (¬ s56 = (0 : Int))) → ((S 1075 0) = 0 ∧ (S 1073 0) = 1 ∧ sm_LX (S 58) (S 63) (S 64) (S 1092 0) (S 1076 0) ∧ sm_PL (S 1100020) (S 51) (S 52) (S 46) (S 47) (S 1076 0) (S 1086 0) ∧ sm_FR (S 1100020) (S 52) (S 1100021) (S 1100022) (3000 - (S 1084 0)) (S 1085 0) ∧ sm_PV (S 1100020) (S 48) (S 49) (S 50) (S 44) (S 1076 0) (S 1007 0) ∧ sm_AL (S 1100020) (S 48) (S 49) (S 50) (S 44) (S 1076 0) (S 1100032 0) ∧ sm_SV (S 1100020) (S 48) (S 1100029) (S 32) (S 33) (S 1076 0) (S 1032 0) ∧ 0 ≤ (S 1076 0) ∧ (S 1076 0) ≤ 300 ∧ 0 ≤ (S 1084 0) ∧ (S 1084 0) ≤ 3000 ∧ 0 ≤ (S 1086 0) ∧ sm_SC (S 1100029) (S 44) (S 45) (S 43) (S 21) (S 1076 0) (S 1032 0) ∧ sm_PO (S 42) (S 1076 0) ∧ (S 1100032 0) = -1 ∧ sm_FO (S 44) (S 45) (S 1076 0) ∧ 23 ≤ (S 1076 0) ∧ 31 ≤ (S 1007 0) ∧ (S 1007 0) ≤ 400 ∧ sm_LN (S 4) 400 (S 1007 0) ∧ sm_CT (S 26) (S 27) (S 28) (S 29) (S 1100007) (S 1100023) (S 1100024) (S 1100025) (S 21) (S 1046 0) (S 1032 0) (S 1008 0) (S 1055 0) ∧ sm_LS (S 26) (S 1100007) (S 1100025) (S 1046 0) ∧ sm_CL (S 1100007) (S 1100023) (S 1100025) (S 1046 0) ∧ 1 ≤ (S 1032 0) ∧ (S 1032 0) ≤ 11 ∧ 0 ≤ (S 1046 0) ∧ (S 1046 0) ≤ 600 ∧ 31 ≤ (S 1008 0) ∧ (S 1008 0) ≤ (S 1007 0) ∧ 0 ≤ (S 1055 0) ∧ (S 1055 0) ≤ 19 ∧ 1 ≤ (S 1092 0) ∧ (S 1092 0) ≤ 24 ∧ 0 ≤ (S 57 ((S 1092 0) - 1)) ∧ (S 57 ((S 1092 0) - 1)) < (S 1046 0) ∧ (S 29 (S 57 ((S 1092 0) - 1))) = (S 53 ((S 1092 0) - 1)) ∧ 0 ≤ (S 53 ((S 1092 0) - 1)) ∧ (S 53 ((S 1092 0) - 1)) < (S 1032 0) ∧ (S 60 ((S 1092 0) - 1)) = sm_dp (S 1100024) (S 1100023 (S 57 ((S 1092 0) - 1))) ∧ sm_TC (S 61) (S 62) (S 27) (S 1100007) (S 1100023) (S 1100024) (40 * ((S 1092 0) - 1)) (S 1100023 (S 57 ((S 1092 0) - 1))) ∧ sm_LK (S 1100029) (S 1076 0) (S 54 ((S 1092 0) - 1)) (S 53 ((S 1092 0) - 1)) ∧ sm_VO (S 44) (S 1076 0) (S 1007 0) ((S 55 ((S 1092 0) - 1))) ((S 56 ((S 1092 0) - 1))) ∧ sm_FW (S 44) (S 1076 0) (S 59 ((S 1092 0) - 1)) ∧ sm_FL (S 53) (S 54) (S 55) (S 56) (S 57) (S 58) (S 59) (S 60) (S 61) (S 62) (S 63) (S 64) (S 27) (S 29) (S 1100007) (S 1100023) (S 1100024) (S 1100025) (S 26) (S 1100029) (S 44) (S 1046 0) (S 1032 0) (S 1076 0) (S 1007 0) (((S 1092 0) - 1)) ∧ (S 58 ((S 1092 0) - 1)) = (S 1100007 (S 57 ((S 1092 0) - 1))) ∧ sm_SK (S 63) (S 64) (S 44) (S 1100007) (S 1100025) (S 1076 0) (S 1007 0) (400 * ((S 1092 0) - 1)) ((S 58 ((S 1092 0) - 1))) ((S 1100025 (S 57 ((S 1092 0) - 1)))) ∧ (0 ≤ (S 1100023 (S 57 ((S 1092 0) - 1))) → (S 1100007 (S 1100023 (S 57 ((S 1092 0) - 1)))) ≤ (S 58 ((S 1092 0) - 1))) ∧ 6 ≤ (6 : Int) ∧ (6 : Int) ≤ 8) ∧ (∀ g95 : sv_S, (sm_PL (S 1100020) (S 51) (S 52) (g95 46) (g95 47) (g95 1076 0) (S 1086 0) ∧ sm_FR (S 1100020) (S 52) (S 1100021) (S 1100022) (3000 - (S 1084 0)) (S 1085 0) ∧ sm_PV (S 1100020) (S 48) (S 49) (S 50) (g95 44) (g95 1076 0) (S 1007 0) ∧ sm_AL (S 1100020) (S 48) (S 49) (S 50) (g95 44) (g95 1076 0) (S 1100032 0) ∧ sm_SV (S 1100020) (S 48) (g95 1100029) (S 32) (S 33) (g95 1076 0) (S 1032 0) ∧ 0 ≤ (g95 1076 0) ∧ (g95 1076 0) ≤ 300 ∧ 0 ≤ (S 1084 0) ∧ (S 1084 0) ≤ 3000 ∧ 0 ≤ (S 1086 0) ∧ sm_SC (g95 1100029) (g95 44) (g95 45) (g95 43) (S 21) (g95 1076 0) (S 1032 0) ∧ sm_PO (g95 42) (g95 1076 0) ∧ ((g95 1075 0) = 0 → (S 1100032 0) = -1 ∧ sm_FO (g95 44) (g95 45) (g95 1076 0)) ∧ 23 ≤ (g95 1076 0) ∧ 31 ≤ (S 1007 0) ∧ (S 1007 0) ≤ 400 ∧ sm_LN (S 4) 400 (S 1007 0) ∧ (S 1008 0) ≤ (S 1007 0) ∧ ((S 1075 0) = 1 → (g95 1075 0) = 1) ∧ 0 ≤ (g95 1092 0) ∧ (g95 1092 0) ≤ 24 ∧ (S 1007 0) ≤ (S 1007 0) ∧ (¬ (g95 1075 0) = 0 → sm_LX (g95 58) (g95 63) (g95 64) (g95 1092 0) (g95 1076 0)) ∧ ((g95 1075 0) = 0 → (g95 1073 0) = 1 → 1 ≤ (g95 1092 0) ∧ (g95 1092 0) ≤ 24 ∧ 0 ≤ (g95 57 ((g95 1092 0) - 1)) ∧ (g95 57 ((g95 1092 0) - 1)) < (S 1046 0) ∧ (S 29 (g95 57 ((g95 1092 0) - 1))) = (S 53 ((g95 1092 0) - 1)) ∧ 0 ≤ (S 53 ((g95 1092 0) - 1)) ∧ (S 53 ((g95 1092 0) - 1)) < (S 1032 0) ∧ (g95 60 ((g95 1092 0) - 1)) = sm_dp (S 1100024) (S 1100023 (g95 57 ((g95 1092 0) - 1))) ∧ sm_TC (S 61) (S 62) (S 27) (S 1100007) (S 1100023) (S 1100024) (40 * ((g95 1092 0) - 1)) (S 1100023 (g95 57 ((g95 1092 0) - 1))) ∧ sm_LK (g95 1100029) (g95 1076 0) (S 54 ((g95 1092 0) - 1)) (S 53 ((g95 1092 0) - 1)) ∧ sm_VO (g95 44) (g95 1076 0) (S 1007 0) ((S 55 ((g95 1092 0) - 1))) ((S 56 ((g95 1092 0) - 1))) ∧ sm_FW (g95 44) (g95 1076 0) (S 59 ((g95 1092 0) - 1)) ∧ sm_FL (S 53) (S 54) (S 55) (S 56) (g95 57) (g95 58) (S 59) (g95 60) (S 61) (S 62) (g95 63) (g95 64) (S 27) (S 29) (S 1100007) (S 1100023) (S 1100024) (S 1100025) (S 26) (g95 1100029) (g95 44) (S 1046 0) (S 1032 0) (g95 1076 0) (S 1007 0) (((g95 1092 0) - 1)) ∧ (g95 58 ((g95 1092 0) - 1)) = (S 1100007 (g95 57 ((g95 1092 0) - 1))) ∧ sm_SK (g95 63) (g95 64) (g95 44) (S 1100007) (S 1100025) (g95 1076 0) (S 1007 0) (400 * ((g95 1092 0) - 1)) ((g95 58 ((g95 1092 0) - 1))) ((S 1100025 (g95 57 ((g95 1092 0) - 1))))) ∧ ((g95 1073 0) = 1 ∨ (g95 1092 0) = 0 ∧ (g95 1075 0) = 0 ∧ ((g95 1073 0) = 2 ∨ (g95 1073 0) = 3)) ∧ ((g95 1073 0) = 1 ∨ (g95 1073 0) = 3)) → (sm_PL (S 1100020) (S 51) (S 52) (g95 46) (g95 47) (g95 1076 0) (S 1086 0) ∧ sm_FR (S 1100020) (S 52) (S 1100021) (S 1100022) (3000 - (S 1084 0)) (S 1085 0) ∧ sm_PV (S 1100020) (S 48) (S 49) (S 50) (g95 44) (g95 1076 0) (S 1007 0) ∧ sm_AL (S 1100020) (S 48) (S 49) (S 50) (g95 44) (g95 1076 0) (S 1100032 0) ∧ sm_SV (S 1100020) (S 48) (g95 1100029) (S 32) (S 33) (g95 1076 0) (S 1032 0) ∧ 0 ≤ (g95 1076 0) ∧ (g95 1076 0) ≤ 300 ∧ 0 ≤ (S 1084 0) ∧ (S 1084 0) ≤ 3000 ∧ 0 ≤ (S 1086 0) ∧ sm_SC (g95 1100029) (g95 44) (g95 45) (g95 43) (S 21) (g95 1076 0) (S 1032 0) ∧ sm_PO (g95 42) (g95 1076 0) ∧ ((g95 1075 0) = 0 → (S 1100032 0) = -1 ∧ sm_FO (g95 44) (g95 45) (g95 1076 0)) ∧ 23 ≤ (g95 1076 0) ∧ 31 ≤ (S 1007 0) ∧ (S 1007 0) ≤ 400 ∧ sm_LN (S 4) 400 (S 1007 0) ∧ (S 1008 0) ≤ (S 1007 0) ∧ ((S 1075 0) = 1 → (g95 1075 0) = 1) ∧ 0 ≤ (g95 1092 0) ∧ (g95 1092 0) ≤ 24 ∧ (S 1007 0) ≤ (S 1007 0) ∧ (¬ (g95 1075 0) = 0 → sm_LX (g95 58) (g95 63) (g95 64) (g95 1092 0) (g95 1076 0)) ∧ ((g95 1075 0) = 0 → (g95 1073 0) = 1 → 1 ≤ (g95 1092 0) ∧ (g95 1092 0) ≤ 24 ∧ 0 ≤ (g95 57 ((g95 1092 0) - 1)) ∧ (g95 57 ((g95 1092 0) - 1)) < (S 1046 0) ∧ (S 29 (g95 57 ((g95 1092 0) - 1))) = (S 53 ((g95 1092 0) - 1)) ∧ 0 ≤ (S 53 ((g95 1092 0) - 1)) ∧ (S 53 ((g95 1092 0) - 1)) < (S 1032 0) ∧ (g95 60 ((g95 1092 0) - 1)) = sm_dp (S 1100024) (S 1100023 (g95 57 ((g95 1092 0) - 1))) ∧ sm_TC (S 61) (S 62) (S 27) (S 1100007) (S 1100023) (S 1100024) (40 * ((g95 1092 0) - 1)) (S 1100023 (g95 57 ((g95 1092 0) - 1))) ∧ sm_LK (g95 1100029) (g95 1076 0) (S 54 ((g95 1092 0) - 1)) (S 53 ((g95 1092 0) - 1)) ∧ sm_VO (g95 44) (g95 1076 0) (S 1007 0) ((S 55 ((g95 1092 0) - 1))) ((S 56 ((g95 1092 0) - 1))) ∧ sm_FW (g95 44) (g95 1076 0) (S 59 ((g95 1092 0) - 1)) ∧ sm_FL (S 53) (S 54) (S 55) (S 56) (g95 57) (g95 58) (S 59) (g95 60) (S 61) (S 62) (g95 63) (g95 64) (S 27) (S 29) (S 1100007) (S 1100023) (S 1100024) (S 1100025) (S 26) (g95 1100029) (g95 44) (S 1046 0) (S 1032 0) (g95 1076 0) (S 1007 0) (((g95 1092 0) - 1)) ∧ (g95 58 ((g95 1092 0) - 1)) = (S 1100007 (g95 57 ((g95 1092 0) - 1))) ∧ sm_SK (g95 63) (g95 64) (g95 44) (S 1100007) (S 1100025) (g95 1076 0) (S 1007 0) (400 * ((g95 1092 0) - 1)) ((g95 58 ((g95 1092 0) - 1))) ((S 1100025 (g95 57 ((g95 1092 0) - 1))))) ∧ ((g95 1073 0) = 1 ∨ (g95 1092 0) = 0 ∧ (g95 1075 0) = 0 ∧ ((g95 1073 0) = 2 ∨ (g95 1073 0) = 3))))))) ∧ (sv_R (g50 1111 0) → (((¬ (g50 1111 0) = (7 : Int)) → ((0 : Int) = 0 ∨ (0 : Int) = 1)) ∧ ((¬ (¬ (g50 1111 0) = (7 : Int))) → ((1 : Int) = 0 ∨ (1 : Int) = 1))))))))) := by
  intro p1
  intro p2
  intro p3
  intro p4
  intro S
  intro h1_
  intro h2_
  intro h3_
  intro h4_
  intro h5_
  rintro ⟨h6_, ⟨h7_, ⟨h8_, ⟨h9_, ⟨h10_, ⟨h11_, ⟨h12_, ⟨h13_, ⟨h14_, ⟨h15_, ⟨h16_, ⟨h17_, ⟨h18_, ⟨h19_, ⟨h20_, ⟨h21_, ⟨h22_, ⟨h23_, ⟨h24_, ⟨h25_, ⟨h26_, ⟨h27_, ⟨h28_, ⟨h29_, ⟨h30_, ⟨h31_, ⟨h32_, ⟨h33_, ⟨h34_, ⟨h35_, ⟨h36_, ⟨h37_, ⟨h38_, ⟨h39_, ⟨h40_, ⟨h41_, ⟨h42_, ⟨h43_, ⟨h44_, ⟨h45_, ⟨h46_, ⟨h47_, ⟨h48_, ⟨h49_, ⟨h50_, ⟨h51_, ⟨h52_, ⟨h53_, ⟨h54_, ⟨h55_, ⟨h56_, ⟨h57_, ⟨h58_, ⟨h59_, ⟨h60_, ⟨h61_, ⟨h62_, ⟨h63_, ⟨h64_, ⟨h65_, ⟨h66_, ⟨h67_, ⟨h68_, ⟨h69_, h70_⟩⟩⟩⟩⟩⟩⟩⟩⟩⟩⟩⟩⟩⟩⟩⟩⟩⟩⟩⟩⟩⟩⟩⟩⟩⟩⟩⟩⟩⟩⟩⟩⟩⟩⟩⟩⟩⟩⟩⟩⟩⟩⟩⟩⟩⟩⟩⟩⟩⟩⟩⟩⟩⟩⟩⟩⟩⟩⟩⟩⟩⟩⟩⟩
  refine ⟨(la_isMadeBy_0 h15_ (sm_VO_e h70_).2.1 (sm_VO_e h70_).2.2.1 (sm_VO_e h70_).2.2.2), ?_⟩
  intro r6
  intro h71_
  rintro ⟨h72_, ⟨h73_, h74_⟩⟩
  refine ⟨?_, ?_⟩
  · skip
    intro h75_
    have h76_ := (h72_.resolve_right (la_isMadeBy_1 h75_))
    have h77_ := (h74_ h75_)
    refine ⟨?_, ?_⟩
    · skip
      intro h78_
      intro h79_
      refine ⟨?_, ?_⟩
      · skip
        intro s8
        intro h80_
        rintro ⟨h81_, h82_⟩
        intro h83_
        have h84_ := (h83_ h81_)
        refine ⟨(la_isMadeBy_4 h81_ h82_ h84_), ?_⟩
        intro l7_11
        intro h85_
        intro l8_12
        intro h86_
        rintro ⟨h87_, ⟨h88_, ⟨h89_, h90_⟩⟩⟩
        refine ⟨h90_, ?_⟩
        refine ⟨?_, ?_⟩
        · skip
          intro h91_
          refine ⟨?_, ?_⟩
          · skip
            refine ⟨?_, ?_⟩
            · skip
              exact (la_isMadeBy_5 h87_)
            exact (la_isMadeBy_6 h87_)
          intro g17
          rintro ⟨h92_, h93_⟩
          refine ⟨?_, ?_⟩
          · skip
            refine ⟨?_, ?_⟩
            · skip
              intro h94_
              intro h95_
              refine ⟨h9_, ?_⟩
              refine ⟨h10_, ?_⟩
              refine ⟨h11_, ?_⟩
              refine ⟨h12_, ?_⟩
              refine ⟨h13_, ?_⟩
              refine ⟨h14_, ?_⟩
              refine ⟨h15_, ?_⟩
              refine ⟨h16_, ?_⟩
              refine ⟨h17_, ?_⟩
              refine ⟨h18_, ?_⟩
              refine ⟨h19_, ?_⟩
              refine ⟨h20_, ?_⟩
              refine ⟨h21_, ?_⟩
              refine ⟨h22_, ?_⟩
              refine ⟨h23_, ?_⟩
              refine ⟨h24_, ?_⟩
              refine ⟨h25_, ?_⟩
              refine ⟨h26_, ?_⟩
              refine ⟨h27_, ?_⟩
              refine ⟨h28_, ?_⟩
              refine ⟨h29_, ?_⟩
              refine ⟨h30_, ?_⟩
              refine ⟨h31_, ?_⟩
              refine ⟨h32_, ?_⟩
              refine ⟨h33_, ?_⟩
              refine ⟨h34_, ?_⟩
              refine ⟨h35_, ?_⟩
              refine ⟨h36_, ?_⟩
              refine ⟨h37_, ?_⟩
              refine ⟨h38_, ?_⟩
              refine ⟨h39_, ?_⟩
              refine ⟨h40_, ?_⟩
              refine ⟨h41_, ?_⟩
              refine ⟨h42_, ?_⟩
              refine ⟨h43_, ?_⟩
              refine ⟨h44_, ?_⟩
              refine ⟨h45_, ?_⟩
              refine ⟨h46_, ?_⟩
              refine ⟨h47_, ?_⟩
              refine ⟨h48_, ?_⟩
              refine ⟨h49_, ?_⟩
              refine ⟨h50_, ?_⟩
              refine ⟨h51_, ?_⟩
              refine ⟨h52_, ?_⟩
              refine ⟨h53_, ?_⟩
              refine ⟨h54_, ?_⟩
              refine ⟨h55_, ?_⟩
              refine ⟨h56_, ?_⟩
              refine ⟨h57_, ?_⟩
              refine ⟨la_isMadeBy_7, ?_⟩
              refine ⟨h62_, ?_⟩
              refine ⟨(la_isMadeBy_8 h61_), ?_⟩
              refine ⟨(sm_VO_i (la_isMadeBy_9 h92_) (la_isMadeBy_10 h92_) (la_isMadeBy_11 h24_ h93_) (la_isMadeBy_12 h23_ h92_ h93_)), ?_⟩
              refine ⟨h63_, ?_⟩
              refine ⟨h64_, ?_⟩
              refine ⟨h65_, ?_⟩
              refine ⟨(la_isMadeBy_13 h66_), ?_⟩
              refine ⟨h67_, ?_⟩
              exact h68_
            intro h96_
            exact h8_
          intro g23
          rintro ⟨h97_, h98_⟩
          have h99_ := (h97_ h6_)
          obtain ⟨h100_, ⟨h101_, ⟨h102_, ⟨h103_, ⟨h104_, ⟨h105_, ⟨h106_, ⟨h107_, ⟨h108_, ⟨h109_, ⟨h110_, ⟨h111_, ⟨h112_, ⟨h113_, h114_⟩⟩⟩⟩⟩⟩⟩⟩⟩⟩⟩⟩⟩⟩ := (h99_ h7_)
          refine ⟨h9_, ?_⟩
          refine ⟨h10_, ?_⟩
          refine ⟨h11_, ?_⟩
          refine ⟨h12_, ?_⟩
          refine ⟨h13_, ?_⟩
          refine ⟨h14_, ?_⟩
          refine ⟨h15_, ?_⟩
          refine ⟨h16_, ?_⟩
          refine ⟨h17_, ?_⟩
          refine ⟨h18_, ?_⟩
          refine ⟨h19_, ?_⟩
          refine ⟨h20_, ?_⟩
          refine ⟨?_, ?_⟩
          · skip
            intro h115_
            refine ⟨h21_, ?_⟩
            exact h22_
          refine ⟨h23_, ?_⟩
          refine ⟨h24_, ?_⟩
          refine ⟨h25_, ?_⟩
          refine ⟨h26_, ?_⟩
          refine ⟨h35_, ?_⟩
          refine ⟨(la_isMadeBy_15 h6_), ?_⟩
          refine ⟨(la_isMadeBy_16 h38_), ?_⟩
          refine ⟨h39_, ?_⟩
          refine ⟨la_isMadeBy_17, ?_⟩
          refine ⟨h98_, ?_⟩
          refine ⟨h97_, ?_⟩
          exact (la_isMadeBy_18 h6_ h7_ h38_)
        intro h116_
        intro h117_
        have h118_ := (h117_ h20_)
        have h119_ := (h118_ (la_isMadeBy_20 (la_isMadeBy_19 h88_ h116_)))
        have h120_ := (h119_ h89_)
        have h121_ := (h120_ (la_isMadeBy_21 h23_))
        intro h122_
        intro h123_
        have h124_ := (h123_ h20_)
        have h125_ := (h124_ (la_isMadeBy_20 (la_isMadeBy_19 h88_ h116_)))
        have h126_ := (h125_ h89_)
        refine ⟨?_, ?_⟩
        · skip
          intro s31
          intro h127_
          intro h128_
          refine ⟨(la_isMadeBy_22 h15_ h89_ (la_isMadeBy_19 h88_ h116_)), ?_⟩
          intro h129_
          refine ⟨?_, ?_⟩
          · skip
            refine ⟨h128_, ?_⟩
            refine ⟨?_, ?_⟩
            · skip
              exact (la_isMadeBy_23 h121_)
            refine ⟨?_, ?_⟩
            · skip
              exact (la_isMadeBy_24 h23_ h89_ h121_)
            exact (la_isMadeBy_25 h121_ h122_)
          exact h126_
        intro h130_
        intro h131_
        intro h132_
        refine ⟨la_isMadeBy_26, ?_⟩
        intro h133_
        have h134_ := (h87_.resolve_right (la_isMadeBy_27 h133_))
        refine ⟨la_isMadeBy_28, ?_⟩
        intro h135_
        exact la_isMadeBy_29
      refine ⟨(la_isMadeBy_30 h23_), ?_⟩
      intro h136_
      obtain ⟨h137_, ⟨h138_, h139_⟩⟩ := ((sm_VO_e h69_).2.2.2 (la_isMadeBy_32 (sm_VO_e h69_).2.1 h136_))
      intro h140_
      have h141_ := (h140_ h20_)
      have h142_ := (h141_ h137_)
      have h143_ := (h142_ h138_)
      have h144_ := (h143_ (la_isMadeBy_21 h23_))
      refine ⟨(la_isMadeBy_33 h15_ h137_ h138_), ?_⟩
      intro h145_
      refine ⟨?_, ?_⟩
      · skip
        exact (la_isMadeBy_23 h144_)
      exact (la_isMadeBy_24 h23_ h138_ h144_)
    intro h146_
    refine ⟨?_, ?_⟩
    · skip
      refine ⟨h6_, ?_⟩
      refine ⟨h7_, ?_⟩
      refine ⟨h8_, ?_⟩
      refine ⟨h9_, ?_⟩
      refine ⟨h10_, ?_⟩
      refine ⟨h11_, ?_⟩
      refine ⟨h12_, ?_⟩
      refine ⟨h13_, ?_⟩
      refine ⟨h14_, ?_⟩
      refine ⟨h15_, ?_⟩
      refine ⟨h16_, ?_⟩
      refine ⟨h17_, ?_⟩
      refine ⟨h18_, ?_⟩
      refine ⟨h19_, ?_⟩
      refine ⟨h20_, ?_⟩
      refine ⟨h21_, ?_⟩
      refine ⟨h22_, ?_⟩
      refine ⟨h23_, ?_⟩
      refine ⟨h24_, ?_⟩
      refine ⟨h25_, ?_⟩
      refine ⟨h26_, ?_⟩
      refine ⟨h27_, ?_⟩
      refine ⟨h28_, ?_⟩
      refine ⟨h29_, ?_⟩
      refine ⟨h30_, ?_⟩
      refine ⟨h31_, ?_⟩
      refine ⟨h32_, ?_⟩
      refine ⟨h33_, ?_⟩
      refine ⟨h34_, ?_⟩
      refine ⟨h35_, ?_⟩
      refine ⟨h36_, ?_⟩
      refine ⟨h37_, ?_⟩
      refine ⟨h38_, ?_⟩
      refine ⟨h39_, ?_⟩
      refine ⟨(la_isMadeBy_34 h40_ h51_), ?_⟩
      refine ⟨(la_isMadeBy_35 h51_ h64_), ?_⟩
      refine ⟨?_, ?_⟩
      · skip
        have e147_ : S 29 (S 57 (S 1092 0 - 1)) = S 29 (S 1100033 0) := congrArg ((S 29)) h51_
        exact (la_isMadeBy_36 h42_ e147_)
      refine ⟨h43_, ?_⟩
      refine ⟨h44_, ?_⟩
      refine ⟨?_, ?_⟩
      · skip
        have e148_ : S 1100023 (S 57 (S 1092 0 - 1)) = S 1100023 (S 1100033 0) := congrArg ((S 1100023)) h51_
        have e149_ : sm_dp (S 1100024) (S 1100023 (S 57 (S 1092 0 - 1))) = sm_dp (S 1100024) (S 1100023 (S 1100033 0)) := congrArg ((sm_dp (S 1100024))) e148_
        exact (la_isMadeBy_37 h45_ e149_)
      refine ⟨?_, ?_⟩
      · skip
        have e150_ : S 1100023 (S 57 (S 1092 0 - 1)) = S 1100023 (S 1100033 0) := congrArg ((S 1100023)) h51_
        exact (sm_TC_t h46_ (la_isMadeBy_38 e150_))
      refine ⟨h47_, ?_⟩
      refine ⟨h48_, ?_⟩
      refine ⟨h49_, ?_⟩
      refine ⟨h50_, ?_⟩
      refine ⟨?_, ?_⟩
      · skip
        have e151_ : S 1100007 (S 57 (S 1092 0 - 1)) = S 1100007 (S 1100033 0) := congrArg ((S 1100007)) h51_
        exact (la_isMadeBy_37 h58_ e151_)
      refine ⟨?_, ?_⟩
      · skip
        have e152_ : S 1100025 (S 57 (S 1092 0 - 1)) = S 1100025 (S 1100033 0) := congrArg ((S 1100025)) h51_
        exact (sm_SK_q h54_ (la_isMadeBy_40 h59_ e152_) rfl rfl)
      refine ⟨?_, ?_⟩
      · skip
        intro h153_
        have e154_ : S 1100023 (S 57 (S 1092 0 - 1)) = S 1100023 (S 1100033 0) := congrArg ((S 1100023)) h51_
        have h155_ := (h60_ (la_isMadeBy_41 h153_ e154_))
        have e156_ : S 1100007 (S 1100023 (S 57 (S 1092 0 - 1))) = S 1100007 (S 1100023 (S 1100033 0)) := congrArg ((S 1100007)) e154_
        exact (la_isMadeBy_42 h155_ e156_)
      refine ⟨la_isMadeBy_43, ?_⟩
      exact la_isMadeBy_44
    intro g44
    rintro ⟨h157_, ⟨h158_, ⟨h159_, ⟨h160_, ⟨h161_, ⟨h162_, ⟨h163_, ⟨h164_, ⟨h165_, ⟨h166_, ⟨h167_, ⟨h168_, ⟨h169_, ⟨h170_, ⟨h171_, ⟨h172_, ⟨h173_, ⟨h174_, ⟨h175_, ⟨h176_, ⟨h177_, ⟨h178_, ⟨h179_, ⟨h180_, ⟨h181_, h182_⟩⟩⟩⟩⟩⟩⟩⟩⟩⟩⟩⟩⟩⟩⟩⟩⟩⟩⟩⟩⟩⟩⟩⟩⟩
    refine ⟨h157_, ?_⟩
    refine ⟨h10_, ?_⟩
    refine ⟨h159_, ?_⟩
    refine ⟨h160_, ?_⟩
    refine ⟨h161_, ?_⟩
    refine ⟨h162_, ?_⟩
    refine ⟨h163_, ?_⟩
    refine ⟨h16_, ?_⟩
    refine ⟨h17_, ?_⟩
    refine ⟨h18_, ?_⟩
    refine ⟨h167_, ?_⟩
    refine ⟨h168_, ?_⟩
    refine ⟨h169_, ?_⟩
    refine ⟨h170_, ?_⟩
    refine ⟨h24_, ?_⟩
    refine ⟨h25_, ?_⟩
    refine ⟨h26_, ?_⟩
    refine ⟨h35_, ?_⟩
    refine ⟨h175_, ?_⟩
    refine ⟨h176_, ?_⟩
    refine ⟨h177_, ?_⟩
    refine ⟨h178_, ?_⟩
    refine ⟨h179_, ?_⟩
    refine ⟨h180_, ?_⟩
    exact h181_
  intro h183_
  have h184_ := (h72_.resolve_left h183_)
  obtain ⟨h185_, h186_⟩ := (h73_ h184_)
  obtain ⟨h187_, ⟨h188_, h189_⟩⟩ := ((sm_VO_e h70_).2.2.2 h185_)
  refine ⟨⟨h9_, ⟨h10_, ⟨h11_, ⟨h12_, ⟨h13_, ⟨h14_, ⟨h15_, ⟨h16_, ⟨h17_, ⟨h18_, ⟨h19_, ⟨h20_, (la_isMadeBy_50 h23_ h187_ h188_)⟩⟩⟩⟩⟩⟩⟩⟩⟩⟩⟩⟩, ?_⟩
  intro r54
  intro h190_
  intro g50
  rintro ⟨h191_, h192_⟩
  refine ⟨?_, ?_⟩
  · skip
    intro s56
    intro h193_
    intro h194_
    refine ⟨?_, ?_⟩
    · skip
      intro h195_
      have h196_ := (h194_.resolve_left h195_)
      intro h197_
      refine ⟨?_, ?_⟩
      · skip
        intro s59
        intro h198_
        rintro ⟨h199_, h200_⟩
        intro h201_
        have h202_ := (h201_ h199_)
        refine ⟨(la_isMadeBy_4 h199_ h200_ h202_), ?_⟩
        intro l7_62
        intro h203_
        intro l8_63
        intro h204_
        rintro ⟨h205_, ⟨h206_, ⟨h207_, h208_⟩⟩⟩
        refine ⟨h208_, ?_⟩
        refine ⟨?_, ?_⟩
        · skip
          intro h209_
          refine ⟨?_, ?_⟩
          · skip
            refine ⟨?_, ?_⟩
            · skip
              exact (la_isMadeBy_5 h205_)
            exact (la_isMadeBy_6 h205_)
          intro g68
          rintro ⟨h210_, h211_⟩
          refine ⟨?_, ?_⟩
          · skip
            refine ⟨?_, ?_⟩
            · skip
              intro h212_
              intro h213_
              refine ⟨h9_, ?_⟩
              refine ⟨h10_, ?_⟩
              refine ⟨h11_, ?_⟩
              refine ⟨h12_, ?_⟩
              refine ⟨h13_, ?_⟩
              refine ⟨h14_, ?_⟩
              refine ⟨h15_, ?_⟩
              refine ⟨h16_, ?_⟩
              refine ⟨h17_, ?_⟩
              refine ⟨h18_, ?_⟩
              refine ⟨h19_, ?_⟩
              refine ⟨h20_, ?_⟩
              refine ⟨h21_, ?_⟩
              refine ⟨h22_, ?_⟩
              refine ⟨h23_, ?_⟩
              refine ⟨h24_, ?_⟩
              refine ⟨h25_, ?_⟩
              refine ⟨h26_, ?_⟩
              refine ⟨h27_, ?_⟩
              refine ⟨h28_, ?_⟩
              refine ⟨h29_, ?_⟩
              refine ⟨h30_, ?_⟩
              refine ⟨h31_, ?_⟩
              refine ⟨h32_, ?_⟩
              refine ⟨h33_, ?_⟩
              refine ⟨h34_, ?_⟩
              refine ⟨h35_, ?_⟩
              refine ⟨h36_, ?_⟩
              refine ⟨h37_, ?_⟩
              refine ⟨h38_, ?_⟩
              refine ⟨h39_, ?_⟩
              refine ⟨h40_, ?_⟩
              refine ⟨h41_, ?_⟩
              refine ⟨h42_, ?_⟩
              refine ⟨h43_, ?_⟩
              refine ⟨h44_, ?_⟩
              refine ⟨h45_, ?_⟩
              refine ⟨h46_, ?_⟩
              refine ⟨h47_, ?_⟩
              refine ⟨h48_, ?_⟩
              refine ⟨h49_, ?_⟩
              refine ⟨h50_, ?_⟩
              refine ⟨h51_, ?_⟩
              refine ⟨h52_, ?_⟩
              refine ⟨h53_, ?_⟩
              refine ⟨h54_, ?_⟩
              refine ⟨h55_, ?_⟩
              refine ⟨h56_, ?_⟩
              refine ⟨h57_, ?_⟩
              refine ⟨la_isMadeBy_7, ?_⟩
              refine ⟨h62_, ?_⟩
              refine ⟨(la_isMadeBy_8 h61_), ?_⟩
              refine ⟨(sm_VO_i (la_isMadeBy_9 h210_) (la_isMadeBy_10 h210_) (la_isMadeBy_11 h24_ h211_) (la_isMadeBy_12 h23_ h210_ h211_)), ?_⟩
              refine ⟨h63_, ?_⟩
              refine ⟨h64_, ?_⟩
              refine ⟨h65_, ?_⟩
              refine ⟨(la_isMadeBy_13 h66_), ?_⟩
              refine ⟨h67_, ?_⟩
              exact h68_
            intro h214_
            exact h8_
          intro g74
          rintro ⟨h215_, h216_⟩
          have h217_ := (h215_ h6_)
          obtain ⟨h218_, ⟨h219_, ⟨h220_, ⟨h221_, ⟨h222_, ⟨h223_, ⟨h224_, ⟨h225_, ⟨h226_, ⟨h227_, ⟨h228_, ⟨h229_, ⟨h230_, ⟨h231_, h232_⟩⟩⟩⟩⟩⟩⟩⟩⟩⟩⟩⟩⟩⟩ := (h217_ h7_)
          refine ⟨h9_, ?_⟩
          refine ⟨h10_, ?_⟩
          refine ⟨h11_, ?_⟩
          refine ⟨h12_, ?_⟩
          refine ⟨h13_, ?_⟩
          refine ⟨h14_, ?_⟩
          refine ⟨h15_, ?_⟩
          refine ⟨h16_, ?_⟩
          refine ⟨h17_, ?_⟩
          refine ⟨h18_, ?_⟩
          refine ⟨h19_, ?_⟩
          refine ⟨h20_, ?_⟩
          refine ⟨?_, ?_⟩
          · skip
            intro h233_
            refine ⟨h21_, ?_⟩
            exact h22_
          refine ⟨h23_, ?_⟩
          refine ⟨h24_, ?_⟩
          refine ⟨h25_, ?_⟩
          refine ⟨h26_, ?_⟩
          refine ⟨h35_, ?_⟩
          refine ⟨(la_isMadeBy_15 h6_), ?_⟩
          refine ⟨(la_isMadeBy_16 h38_), ?_⟩
          refine ⟨h39_, ?_⟩
          refine ⟨la_isMadeBy_17, ?_⟩
          refine ⟨h216_, ?_⟩
          refine ⟨h215_, ?_⟩
          exact (la_isMadeBy_18 h6_ h7_ h38_)
        intro h234_
        intro h235_
        have h236_ := (h235_ h20_)
        have h237_ := (h236_ (la_isMadeBy_20 (la_isMadeBy_19 h206_ h234_)))
        have h238_ := (h237_ h207_)
        have h239_ := (h238_ (la_isMadeBy_21 h23_))
        intro h240_
        intro h241_
        have h242_ := (h241_ h20_)
        have h243_ := (h242_ (la_isMadeBy_20 (la_isMadeBy_19 h206_ h234_)))
        have h244_ := (h243_ h207_)
        refine ⟨?_, ?_⟩
        · skip
          intro s82
          intro h245_
          intro h246_
          refine ⟨(la_isMadeBy_22 h15_ h207_ (la_isMadeBy_19 h206_ h234_)), ?_⟩
          intro h247_
          refine ⟨?_, ?_⟩
          · skip
            refine ⟨h246_, ?_⟩
            refine ⟨?_, ?_⟩
            · skip
              exact (la_isMadeBy_23 h239_)
            refine ⟨?_, ?_⟩
            · skip
              exact (la_isMadeBy_24 h23_ h207_ h239_)
            exact (la_isMadeBy_25 h239_ h240_)
          exact h244_
        intro h248_
        intro h249_
        intro h250_
        refine ⟨la_isMadeBy_26, ?_⟩
        intro h251_
        have h252_ := (h205_.resolve_right (la_isMadeBy_27 h251_))
        refine ⟨la_isMadeBy_28, ?_⟩
        intro h253_
        exact la_isMadeBy_29
      refine ⟨(la_isMadeBy_30 h23_), ?_⟩
      intro h254_
      obtain ⟨h255_, ⟨h256_, h257_⟩⟩ := ((sm_VO_e h69_).2.2.2 (la_isMadeBy_32 (sm_VO_e h69_).2.1 h254_))
      intro h258_
      have h259_ := (h258_ h20_)
      have h260_ := (h259_ h255_)
      have h261_ := (h260_ h256_)
      have h262_ := (h261_ (la_isMadeBy_21 h23_))
      refine ⟨(la_isMadeBy_33 h15_ h255_ h256_), ?_⟩
      intro h263_
      refine ⟨?_, ?_⟩
      · skip
        exact (la_isMadeBy_23 h262_)
      exact (la_isMadeBy_24 h23_ h256_ h262_)
    intro h264_
    have h265_ := (h194_.resolve_right (la_isMadeBy_27 h264_))
    refine ⟨?_, ?_⟩
    · skip
      refine ⟨h6_, ?_⟩
      refine ⟨h7_, ?_⟩
      refine ⟨h8_, ?_⟩
      refine ⟨h9_, ?_⟩
      refine ⟨h10_, ?_⟩
      refine ⟨h11_, ?_⟩
      refine ⟨h12_, ?_⟩
      refine ⟨h13_, ?_⟩
      refine ⟨h14_, ?_⟩
      refine ⟨h15_, ?_⟩
      refine ⟨h16_, ?_⟩
      refine ⟨h17_, ?_⟩
      refine ⟨h18_, ?_⟩
      refine ⟨h19_, ?_⟩
      refine ⟨h20_, ?_⟩
      refine ⟨h21_, ?_⟩
      refine ⟨h22_, ?_⟩
      refine ⟨h23_, ?_⟩
      refine ⟨h24_, ?_⟩
      refine ⟨h25_, ?_⟩
      refine ⟨h26_, ?_⟩
      refine ⟨h27_, ?_⟩
      refine ⟨h28_, ?_⟩
      refine ⟨h29_, ?_⟩
      refine ⟨h30_, ?_⟩
      refine ⟨h31_, ?_⟩
      refine ⟨h32_, ?_⟩
      refine ⟨h33_, ?_⟩
      refine ⟨h34_, ?_⟩
      refine ⟨h35_, ?_⟩
      refine ⟨h36_, ?_⟩
      refine ⟨h37_, ?_⟩
      refine ⟨h38_, ?_⟩
      refine ⟨h39_, ?_⟩
      refine ⟨(la_isMadeBy_34 h40_ h51_), ?_⟩
      refine ⟨(la_isMadeBy_35 h51_ h64_), ?_⟩
      refine ⟨?_, ?_⟩
      · skip
        have e266_ : S 29 (S 57 (S 1092 0 - 1)) = S 29 (S 1100033 0) := congrArg ((S 29)) h51_
        exact (la_isMadeBy_36 h42_ e266_)
      refine ⟨h43_, ?_⟩
      refine ⟨h44_, ?_⟩
      refine ⟨?_, ?_⟩
      · skip
        have e267_ : S 1100023 (S 57 (S 1092 0 - 1)) = S 1100023 (S 1100033 0) := congrArg ((S 1100023)) h51_
        have e268_ : sm_dp (S 1100024) (S 1100023 (S 57 (S 1092 0 - 1))) = sm_dp (S 1100024) (S 1100023 (S 1100033 0)) := congrArg ((sm_dp (S 1100024))) e267_
        exact (la_isMadeBy_37 h45_ e268_)
      refine ⟨?_, ?_⟩
      · skip
        have e269_ : S 1100023 (S 57 (S 1092 0 - 1)) = S 1100023 (S 1100033 0) := congrArg ((S 1100023)) h51_
        exact (sm_TC_t h46_ (la_isMadeBy_38 e269_))
      refine ⟨h47_, ?_⟩
      refine ⟨h48_, ?_⟩
      refine ⟨h49_, ?_⟩
      refine ⟨h50_, ?_⟩
      refine ⟨?_, ?_⟩
      · skip
        have e270_ : S 1100007 (S 57 (S 1092 0 - 1)) = S 1100007 (S 1100033 0) := congrArg ((S 1100007)) h51_
        exact (la_isMadeBy_37 h58_ e270_)
      refine ⟨?_, ?_⟩
      · skip
        have e271_ : S 1100025 (S 57 (S 1092 0 - 1)) = S 1100025 (S 1100033 0) := congrArg ((S 1100025)) h51_
        exact (sm_SK_q h54_ (la_isMadeBy_40 h59_ e271_) rfl rfl)
      refine ⟨?_, ?_⟩
      · skip
        intro h272_
        have e273_ : S 1100023 (S 57 (S 1092 0 - 1)) = S 1100023 (S 1100033 0) := congrArg ((S 1100023)) h51_
        have h274_ := (h60_ (la_isMadeBy_41 h272_ e273_))
        have e275_ : S 1100007 (S 1100023 (S 57 (S 1092 0 - 1))) = S 1100007 (S 1100023 (S 1100033 0)) := congrArg ((S 1100007)) e273_
        exact (la_isMadeBy_42 h274_ e275_)
      refine ⟨la_isMadeBy_43, ?_⟩
      exact la_isMadeBy_44
    intro g95
    rintro ⟨h276_, ⟨h277_, ⟨h278_, ⟨h279_, ⟨h280_, ⟨h281_, ⟨h282_, ⟨h283_, ⟨h284_, ⟨h285_, ⟨h286_, ⟨h287_, ⟨h288_, ⟨h289_, ⟨h290_, ⟨h291_, ⟨h292_, ⟨h293_, ⟨h294_, ⟨h295_, ⟨h296_, ⟨h297_, ⟨h298_, ⟨h299_, ⟨h300_, h301_⟩⟩⟩⟩⟩⟩⟩⟩⟩⟩⟩⟩⟩⟩⟩⟩⟩⟩⟩⟩⟩⟩⟩⟩⟩
    refine ⟨h276_, ?_⟩
    refine ⟨h10_, ?_⟩
    refine ⟨h278_, ?_⟩
    refine ⟨h279_, ?_⟩
    refine ⟨h280_, ?_⟩
    refine ⟨h281_, ?_⟩
    refine ⟨h282_, ?_⟩
    refine ⟨h16_, ?_⟩
    refine ⟨h17_, ?_⟩
    refine ⟨h18_, ?_⟩
    refine ⟨h286_, ?_⟩
    refine ⟨h287_, ?_⟩
    refine ⟨h288_, ?_⟩
    refine ⟨h289_, ?_⟩
    refine ⟨h24_, ?_⟩
    refine ⟨h25_, ?_⟩
    refine ⟨h26_, ?_⟩
    refine ⟨h35_, ?_⟩
    refine ⟨h294_, ?_⟩
    refine ⟨h295_, ?_⟩
    refine ⟨h296_, ?_⟩
    refine ⟨h297_, ?_⟩
    refine ⟨h298_, ?_⟩
    refine ⟨h299_, ?_⟩
    exact h300_
  intro h302_
  refine ⟨la_isMadeBy_51, ?_⟩
  intro h303_
  obtain ⟨h304_, ⟨h305_, h306_⟩⟩ := ((sm_VO_e h192_).2.2.2 (la_isMadeBy_32 (sm_VO_e h192_).2.1 h303_))
  exact la_isMadeBy_29
set_option maxRecDepth 8000 in
set_option maxHeartbeats 2000000 in
theorem t_isMadeBy : ∀ (p1 : Int) (p2 : Int) (p3 : Int) (p4 : Int) (S : sv_S), sm_ok S → sv_R p1 → sv_R p2 → sv_R p3 → sv_R p4 → ((S 1075 0) = 0 ∧ (S 1073 0) = 1 ∧ sm_LX (S 58) (S 63) (S 64) (S 1092 0) (S 1076 0) ∧ sm_PL (S 1100020) (S 51) (S 52) (S 46) (S 47) (S 1076 0) (S 1086 0) ∧ sm_FR (S 1100020) (S 52) (S 1100021) (S 1100022) (3000 - (S 1084 0)) (S 1085 0) ∧ sm_PV (S 1100020) (S 48) (S 49) (S 50) (S 44) (S 1076 0) (S 1007 0) ∧ sm_AL (S 1100020) (S 48) (S 49) (S 50) (S 44) (S 1076 0) (S 1100032 0) ∧ sm_SV (S 1100020) (S 48) (S 1100029) (S 32) (S 33) (S 1076 0) (S 1032 0) ∧ 0 ≤ (S 1076 0) ∧ (S 1076 0) ≤ 300 ∧ 0 ≤ (S 1084 0) ∧ (S 1084 0) ≤ 3000 ∧ 0 ≤ (S 1086 0) ∧ sm_SC (S 1100029) (S 44) (S 45) (S 43) (S 21) (S 1076 0) (S 1032 0) ∧ sm_PO (S 42) (S 1076 0) ∧ (S 1100032 0) = -1 ∧ sm_FO (S 44) (S 45) (S 1076 0) ∧ 23 ≤ (S 1076 0) ∧ 31 ≤ (S 1007 0) ∧ (S 1007 0) ≤ 400 ∧ sm_LN (S 4) 400 (S 1007 0) ∧ sm_CT (S 26) (S 27) (S 28) (S 29) (S 1100007) (S 1100023) (S 1100024) (S 1100025) (S 21) (S 1046 0) (S 1032 0) (S 1008 0) (S 1055 0) ∧ sm_LS (S 26) (S 1100007) (S 1100025) (S 1046 0) ∧ sm_CL (S 1100007) (S 1100023) (S 1100025) (S 1046 0) ∧ 1 ≤ (S 1032 0) ∧ (S 1032 0) ≤ 11 ∧ 0 ≤ (S 1046 0) ∧ (S 1046 0) ≤ 600 ∧ 31 ≤ (S 1008 0) ∧ (S 1008 0) ≤ (S 1007 0) ∧ 0 ≤ (S 1055 0) ∧ (S 1055 0) ≤ 19 ∧ 1 ≤ (S 1092 0) ∧ (S 1092 0) ≤ 24 ∧ 0 ≤ (S 1100033 0) ∧ (S 1100033 0) < (S 1046 0) ∧ (S 29 (S 1100033 0)) = (S 53 ((S 1092 0) - 1)) ∧ 0 ≤ (S 53 ((S 1092 0) - 1)) ∧ (S 53 ((S 1092 0) - 1)) < (S 1032 0) ∧ (S 60 ((S 1092 0) - 1)) = sm_dp (S 1100024) (S 1100023 (S 1100033 0)) ∧ sm_TC (S 61) (S 62) (S 27) (S 1100007) (S 1100023) (S 1100024) (40 * ((S 1092 0) - 1)) (S 1100023 (S 1100033 0)) ∧ sm_LK (S 1100029) (S 1076 0) (S 54 ((S 1092 0) - 1)) (S 53 ((S 1092 0) - 1)) ∧ sm_VO (S 44) (S 1076 0) (S 1007 0) ((S 55 ((S 1092 0) - 1))) ((S 56 ((S 1092 0) - 1))) ∧ sm_FW (S 44) (S 1076 0) (S 59 ((S 1092 0) - 1)) ∧ sm_FL (S 53) (S 54) (S 55) (S 56) (S 57) (S 58) (S 59) (S 60) (S 61) (S 62) (S 63) (S 64) (S 27) (S 29) (S 1100007) (S 1100023) (S 1100024) (S 1100025) (S 26) (S 1100029) (S 44) (S 1046 0) (S 1032 0) (S 1076 0) (S 1007 0) (((S 1092 0) - 1)) ∧ (S 57 ((S 1092 0) - 1)) = (S 1100033 0) ∧ 0 ≤ (S 58 ((S 1092 0) - 1)) ∧ (S 58 ((S 1092 0) - 1)) ≤ 400 ∧ sm_SK (S 63) (S 64) (S 44) (S 1100007) (S 1100025) (S 1076 0) (S 1007 0) (400 * ((S 1092 0) - 1)) ((S 58 ((S 1092 0) - 1))) ((S 1100034 0)) ∧ -1 ≤ (S 1100034 0) ∧ (S 1100034 0) < (S 1046 0) ∧ (0 ≤ (S 1100034 0) → (S 26 (S 1100034 0)) = 29) ∧ (S 58 ((S 1092 0) - 1)) = (S 1100007 (S 1100033 0)) ∧ (S 1100034 0) = (S 1100025 (S 1100033 0)) ∧ (0 ≤ (S 1100023 (S 1100033 0)) → (S 1100007 (S 1100023 (S 1100033 0))) ≤ (S 58 ((S 1092 0) - 1))) ∧ (S 58 ((S 1092 0) - 1)) ≤ 396 ∧ 2 ≤ (S 58 ((S 1092 0) - 1)) ∧ (0 ≤ (S 1100034 0) → (S 1100007 (S 1100034 0)) ≤ (S 58 ((S 1092 0) - 1)) - 2) ∧ (S 1100033 0) + 1 < (S 1046 0) ∧ (S 29 ((S 1100033 0) + 1)) = (S 29 (S 1100033 0)) ∧ (S 1100007 ((S 1100033 0) + 1)) = (S 58 ((S 1092 0) - 1)) + (-1) ∧ (S 1100023 ((S 1100033 0) + 1)) = (S 1100023 (S 1100033 0)) ∧ (S 1100025 ((S 1100033 0) + 1)) = (S 1100034 0) ∧ sm_VO (S 44) (S 1076 0) (S 1007 0) (p1) (p2) ∧ sm_VO (S 44) (S 1076 0) (S 1007 0) (p3) (p4)) → sv_T sm_XS sm_cs sm_L sm_sh 4 (q_isMadeBy p1 p2 p3 p4 S) 177 0 (lv_args 0 [.ref 0, sv_I p1, sv_I p2, sv_I p3, sv_I p4]) [] S := by
  intro p1 p2 p3 p4 S hok hp1 hp2 hp3 hp4 hpre
  have h := f_isMadeBy p1 p2 p3 p4 S hok hp1 hp2 hp3 hp4 hpre
  have hM := sm_h177
  show sv_T sm_XS sm_cs sm_L sm_sh 4 (q_isMadeBy p1 p2 p3 p4 S) 177 0 [(0, .ref 0), (1, sv_I p1), (2, sv_I p2), (3, sv_I p3), (4, sv_I p4)] [] S
  refine sv_aload_n hM dX12_isMadeBy_0 rfl rfl ?_
  refine sv_iload_n hM dX12_isMadeBy_1 rfl rfl ?_
  refine sv_iload hM dX12_isMadeBy_2 rfl rfl ?_
  obtain ⟨o1, h⟩ := h
  refine sv_callV hM dX12_isMadeBy_4 sm_iv_992 (by decide) (sm_a0 _) rfl rfl (Nat.le_of_ble_eq_true rfl) sm_h176 (Nat.le_of_ble_eq_true rfl) (Nat.le_of_ble_eq_true rfl) (F' := 0) (Nat.le_of_ble_eq_true rfl) rfl (t_isFunction p3 p4 S hok hp3 hp4 o1) (fun v S1 hq => ?_)
  obtain ⟨r6, rfl, hr6, ok3, md4, hpo5⟩ := hq
  obtain rfl : S = S1 := (funext fun j => md4 j (by intro q; cases q)).symm
  show sv_T sm_XS sm_cs sm_L sm_sh 4 (q_isMadeBy p1 p2 p3 p4 S) 177 7 [(0, .ref 0), (1, sv_I p1), (2, sv_I p2), (3, sv_I p3), (4, sv_I p4)] [sv_I r6] S
  have h := h r6 hr6 hpo5
  refine sv_istore hM dX12_isMadeBy_7 (by decide) rfl ?_
  show sv_T sm_XS sm_cs sm_L sm_sh 4 (q_isMadeBy p1 p2 p3 p4 S) 177 9 [(0, .ref 0), (1, sv_I p1), (2, sv_I p2), (3, sv_I p3), (4, sv_I p4), (5, sv_I r6)] [] S
  refine sv_iload hM dX12_isMadeBy_9 rfl rfl ?_
  refine sv_cond_eq hM dX12_isMadeBy_11 hr6 (t := 39) rfl rfl (fun hc => ?_) (fun hc => ?_)
  · have h := h.1 (hc)
    refine sv_iload hM dX12_isMadeBy_39 rfl rfl ?_
    refine sv_cond_ne hM dX12_isMadeBy_41 hr6 (t := 51) rfl rfl (fun hc => ?_) (fun hc => ?_)
    · have h := h.1 (hc)
      refine sv_aload_n hM dX12_isMadeBy_51 rfl rfl ?_
      have k7 : sv_R (S 1112 0) := sm_okI ok3 sm_r1112 0
      have h := h k7
      refine sv_getI hM dX12_isMadeBy_52 sm_fl_791 (sm_a0 _) sm_k112 rfl (x := (S 1112 0)) rfl ?_
      refine sv_istore hM dX12_isMadeBy_55 (by decide) rfl ?_
      show sv_T sm_XS sm_cs sm_L sm_sh 4 (q_isMadeBy p1 p2 p3 p4 S) 177 57 [(0, .ref 0), (1, sv_I p1), (2, sv_I p2), (3, sv_I p3), (4, sv_I p4), (5, sv_I r6), (6, sv_I (S 1112 0))] [] S
      refine sv_iconst (d := (0 : Int)) hM dX12_isMadeBy_57 rfl rfl ?_
      refine sv_istore hM dX12_isMadeBy_58 (by decide) rfl ?_
      show sv_T sm_XS sm_cs sm_L sm_sh 4 (q_isMadeBy p1 p2 p3 p4 S) 177 60 [(0, .ref 0), (1, sv_I p1), (2, sv_I p2), (3, sv_I p3), (4, sv_I p4), (5, sv_I r6), (6, sv_I (S 1112 0)), (7, sv_I (0 : Int))] [] S
      have J39 : ∀ s8 : Int, sv_R s8 → (-1 ≤ s8 ∧ s8 < (S 1076 0)) → sv_T sm_XS sm_cs sm_L sm_sh 4 (q_isMadeBy p1 p2 p3 p4 S) 177 76 [(0, .ref 0), (1, sv_I p1), (2, sv_I p2), (3, sv_I p3), (4, sv_I p4), (5, sv_I r6), (6, sv_I (S 1112 0)), (7, sv_I (0 : Int))] [sv_I s8] S := by
        intro s8 hs8 hin9
        have h := h.1 s8 hs8 hin9
        have k10 : (-1 ≤ s8 → 0 ≤ sm_pm s8) := sm_pm_0
        have h := h k10
        refine sv_istore hM dX12_isMadeBy_76 (by decide) rfl ?_
        show sv_T sm_XS sm_cs sm_L sm_sh 4 (q_isMadeBy p1 p2 p3 p4 S) 177 78 [(0, .ref 0), (1, sv_I p1), (2, sv_I p2), (3, sv_I p3), (4, sv_I p4), (5, sv_I r6), (6, sv_I (S 1112 0)), (7, sv_I (0 : Int)), (8, sv_I s8)] [] S
        obtain ⟨hin14, h⟩ := h
        have hJ : ∀ a : Int × Int × Unit, (sv_R a.1 ∧ sv_R a.2.1 ∧ sm_ok S ∧ ((a.1 = 0 ∨ a.1 = 1) ∧ -1 ≤ a.2.1 ∧ a.2.1 < (S 1076 0) ∧ 0 ≤ sm_pm a.2.1)) → sv_T sm_XS sm_cs sm_L sm_sh 4 (q_isMadeBy p1 p2 p3 p4 S) 177 78 [(0, .ref 0), (1, sv_I p1), (2, sv_I p2), (3, sv_I p3), (4, sv_I p4), (5, sv_I r6), (6, sv_I (S 1112 0)), (7, sv_I a.1), (8, sv_I a.2.1)] [] S := by
          refine sv_loop (α := Int × Int × Unit) (fun a => sv_R a.1 ∧ sv_R a.2.1 ∧ sm_ok S ∧ ((a.1 = 0 ∨ a.1 = 1) ∧ -1 ≤ a.2.1 ∧ a.2.1 < (S 1076 0) ∧ 0 ≤ sm_pm a.2.1)) (fun a => sm_pm a.2.1) (fun a => sv_T sm_XS sm_cs sm_L sm_sh 4 (q_isMadeBy p1 p2 p3 p4 S) 177 78 [(0, .ref 0), (1, sv_I p1), (2, sv_I p2), (3, sv_I p3), (4, sv_I p4), (5, sv_I r6), (6, sv_I (S 1112 0)), (7, sv_I a.1), (8, sv_I a.2.1)] [] S) (fun a q => (h a.1 q.1 a.2.1 q.2.1 q.2.2.2).1) (fun a q ih13 => ?_)
          obtain ⟨l7_11, l8_12, _u⟩ := a
          obtain ⟨hl7_11, hl8_12, ok15, hin14i⟩ := q
          have h := (h l7_11 hl7_11 l8_12 hl8_12 hin14i).2
          show sv_T sm_XS sm_cs sm_L sm_sh 4 (q_isMadeBy p1 p2 p3 p4 S) 177 78 [(0, .ref 0), (1, sv_I p1), (2, sv_I p2), (3, sv_I p3), (4, sv_I p4), (5, sv_I r6), (6, sv_I (S 1112 0)), (7, sv_I l7_11), (8, sv_I l8_12)] [] S
          refine sv_iload hM dX12_isMadeBy_78 rfl rfl ?_
          refine sv_iconst (d := (-1 : Int)) hM dX12_isMadeBy_80 rfl rfl ?_
          refine sv_icmp_eq hM dX12_isMadeBy_81 hl8_12 (⟨by decide, by decide⟩ : sv_R (-1 : Int)) (t := 115) rfl rfl (fun hc => ?_) (fun hc => ?_)
          · have h := h.1 (hc)
            refine sv_aload_n hM dX12_isMadeBy_115 rfl rfl ?_
            refine sv_iload hM dX12_isMadeBy_116 rfl rfl ?_
            obtain ⟨o16, h⟩ := h
            refine sv_callV hM dX12_isMadeBy_118 sm_iv_827 (by decide) (sm_a0 _) rfl rfl (Nat.le_of_ble_eq_true rfl) sm_h134 (Nat.le_of_ble_eq_true rfl) (Nat.le_of_ble_eq_true rfl) (F' := 1) (Nat.le_of_ble_eq_true rfl) rfl (t_truth l7_11 S ok15 o16) (fun v S1 hq => ?_)
            obtain ⟨rfl, ok18, md19, hpo20⟩ := hq
            obtain ⟨g17, rfl⟩ : ∃ g, S1 = sv_sts S [1111, 1112] g := ⟨_, md19.eq⟩
            show sv_T sm_XS sm_cs sm_L sm_sh 4 (q_isMadeBy p1 p2 p3 p4 S) 177 121 [(0, .ref 0), (1, sv_I p1), (2, sv_I p2), (3, sv_I p3), (4, sv_I p4), (5, sv_I r6), (6, sv_I (S 1112 0)), (7, sv_I l7_11), (8, sv_I l8_12)] [] (sv_sts S [1111, 1112] g17)
            have md21 : sv_mod [1076, 41, 42, 43, 44, 45, 46, 47, 1075, 1100029, 1092, 60, 58, 57, 63, 64, 1073, 1109, 1110, 58, 63, 64, 57, 1111, 1112] S (sv_sts S [1111, 1112] g17) := sv_mod.sts sv_mod.rf (by decide)
            have h := h g17 hpo20
            refine sv_aload_n hM dX12_isMadeBy_121 rfl rfl ?_
            refine sv_iconst (d := (2 : Int)) hM dX12_isMadeBy_122 rfl rfl ?_
            obtain ⟨o22, h⟩ := h
            refine sv_callV hM dX12_isMadeBy_123 sm_iv_904 (by decide) (sm_a0 _) rfl rfl (Nat.le_of_ble_eq_true rfl) sm_h155 (Nat.le_of_ble_eq_true rfl) (Nat.le_of_ble_eq_true rfl) (F' := 2) (Nat.le_of_ble_eq_true rfl) rfl (t_gives (2 : Int) (sv_sts S [1111, 1112] g17) ok18 (⟨by decide, by decide⟩ : sv_R (2 : Int)) o22) (fun v S1 hq => ?_)
            obtain ⟨rfl, ok24, md25, hpo26⟩ := hq
            obtain ⟨g23, rfl⟩ : ∃ g, S1 = sv_sts (sv_sts S [1111, 1112] g17) [58, 63, 64, 57] g := ⟨_, md25.eq⟩
            show sv_T sm_XS sm_cs sm_L sm_sh 4 (q_isMadeBy p1 p2 p3 p4 S) 177 126 [(0, .ref 0), (1, sv_I p1), (2, sv_I p2), (3, sv_I p3), (4, sv_I p4), (5, sv_I r6), (6, sv_I (S 1112 0)), (7, sv_I l7_11), (8, sv_I l8_12)] [] (sv_sts (sv_sts S [1111, 1112] g17) [58, 63, 64, 57] g23)
            have md27 : sv_mod [1076, 41, 42, 43, 44, 45, 46, 47, 1075, 1100029, 1092, 60, 58, 57, 63, 64, 1073, 1109, 1110, 58, 63, 64, 57, 1111, 1112] S (sv_sts (sv_sts S [1111, 1112] g17) [58, 63, 64, 57] g23) := sv_mod.sts md21 (by decide)
            have h := h g23 hpo26
            exact sv_vret hM dX12_isMadeBy_126 rfl ⟨rfl, ok24, md27, h⟩
          · have h := h.2 (hc)
            have k28 : (sm_PO (S 42) (S 1076 0) → 0 ≤ l8_12 → l8_12 < (S 1076 0) → 2 ≤ (S 1076 0) → (S 42 l8_12) = -1 ∨ (0 ≤ (S 42 l8_12) ∧ (S 42 l8_12) < (S 1076 0) ∧ ((S 42 l8_12) < l8_12 ∨ (l8_12 = 0 ∧ (S 42 l8_12) = 1)) ∧ ¬ l8_12 = 1)) := fun h a b e => sm_PO_at h _ a b e
            have h := h k28
            have k29 : (-1 ≤ (S 42 l8_12) → 0 ≤ sm_pm (S 42 l8_12)) := sm_pm_0
            have h := h k29
            have k30 : (sm_PO (S 42) (S 1076 0) → 0 ≤ l8_12 → l8_12 < (S 1076 0) → sm_pm (S 42 l8_12) < sm_pm l8_12) := fun h a b => sm_pm_s h _ a b
            have h := h k30
            have J35 : ∀ s31 : Int, sv_R s31 → (s31 = 0 ∨ s31 = 1) → sv_T sm_XS sm_cs sm_L sm_sh 4 (q_isMadeBy p1 p2 p3 p4 S) 177 101 [(0, .ref 0), (1, sv_I p1), (2, sv_I p2), (3, sv_I p3), (4, sv_I p4), (5, sv_I r6), (6, sv_I (S 1112 0)), (7, sv_I l7_11), (8, sv_I l8_12)] [sv_I s31] S := by
              intro s31 hs31 hin32
              have h := h.1 s31 hs31 hin32
              refine sv_istore hM dX12_isMadeBy_101 (by decide) rfl ?_
              show sv_T sm_XS sm_cs sm_L sm_sh 4 (q_isMadeBy p1 p2 p3 p4 S) 177 103 [(0, .ref 0), (1, sv_I p1), (2, sv_I p2), (3, sv_I p3), (4, sv_I p4), (5, sv_I r6), (6, sv_I (S 1112 0)), (7, sv_I s31), (8, sv_I l8_12)] [] S
              refine sv_aload_n hM dX12_isMadeBy_103 rfl rfl ?_
              refine sv_getA hM dX12_isMadeBy_104 sm_fl_137 (sm_a0 _) sm_k78 rfl ?_
              refine sv_iload hM dX12_isMadeBy_107 rfl rfl ?_
              obtain ⟨o33, h⟩ := h
              have k34 : sv_R (S 42 l8_12) := sm_okI ok15 sm_r42 l8_12
              have h := h k34
              refine sv_iald hM dX12_isMadeBy_109 (sm_a42 _) (by decide) o33.1 o33.2 rfl (x := (S 42 l8_12)) rfl ?_
              refine sv_istore hM dX12_isMadeBy_110 (by decide) rfl ?_
              show sv_T sm_XS sm_cs sm_L sm_sh 4 (q_isMadeBy p1 p2 p3 p4 S) 177 112 [(0, .ref 0), (1, sv_I p1), (2, sv_I p2), (3, sv_I p3), (4, sv_I p4), (5, sv_I r6), (6, sv_I (S 1112 0)), (7, sv_I s31), (8, sv_I (S 42 l8_12))] [] S
              refine sv_goto hM dX12_isMadeBy_112 (pc' := 78) rfl ?_
              have hb := ih13 (s31, (S 42 l8_12), ()) ⟨hs31, k34, ok15, h.1⟩ h.2
              exact sv_less (lv := [(0, .ref 0), (1, sv_I p1), (2, sv_I p2), (3, sv_I p3), (4, sv_I p4), (5, sv_I r6), (6, sv_I (S 1112 0)), (7, sv_I s31), (8, sv_I (S 42 l8_12))]) (sv_Sub_cons rfl (sv_Sub_cons rfl (sv_Sub_cons rfl (sv_Sub_cons rfl (sv_Sub_cons rfl (sv_Sub_cons rfl (sv_Sub_cons rfl (sv_Sub_cons rfl (sv_Sub_cons rfl sv_Sub_nil))))))))) hb
            have h := h.2
            have k36 : (sm_PO (S 42) (S 1076 0) → 0 ≤ l8_12 → l8_12 < (S 1076 0) → 2 ≤ (S 1076 0) → (S 42 l8_12) = -1 ∨ (0 ≤ (S 42 l8_12) ∧ (S 42 l8_12) < (S 1076 0) ∧ ((S 42 l8_12) < l8_12 ∨ (l8_12 = 0 ∧ (S 42 l8_12) = 1)) ∧ ¬ l8_12 = 1)) := fun h a b e => sm_PO_at h _ a b e
            have h := h k36
            have k37 : (-1 ≤ (S 42 l8_12) → 0 ≤ sm_pm (S 42 l8_12)) := sm_pm_0
            have h := h k37
            have k38 : (sm_PO (S 42) (S 1076 0) → 0 ≤ l8_12 → l8_12 < (S 1076 0) → sm_pm (S 42 l8_12) < sm_pm l8_12) := fun h a b => sm_pm_s h _ a b
            have h := h k38
            refine sv_iload hM dX12_isMadeBy_84 rfl rfl ?_
            refine sv_cond_ne hM dX12_isMadeBy_86 hl7_11 (t := 96) rfl rfl (fun hc => ?_) (fun hc => ?_)
            · have h := h.1 (hc)
              refine sv_iconst (d := (1 : Int)) hM dX12_isMadeBy_96 rfl rfl ?_
              refine sv_goto hM dX12_isMadeBy_97 (pc' := 101) rfl ?_
              have hb := J35 (1 : Int) (⟨by decide, by decide⟩ : sv_R (1 : Int)) h
              exact sv_less (lv := [(0, .ref 0), (1, sv_I p1), (2, sv_I p2), (3, sv_I p3), (4, sv_I p4), (5, sv_I r6), (6, sv_I (S 1112 0)), (7, sv_I l7_11), (8, sv_I l8_12)]) (sv_Sub_cons rfl (sv_Sub_cons rfl (sv_Sub_cons rfl (sv_Sub_cons rfl (sv_Sub_cons rfl (sv_Sub_cons rfl (sv_Sub_cons rfl (sv_Sub_cons rfl (sv_Sub_cons rfl sv_Sub_nil))))))))) hb
            · have h := h.2 (hc)
              refine sv_iload hM dX12_isMadeBy_89 rfl rfl ?_
              refine sv_iload hM dX12_isMadeBy_91 rfl rfl ?_
              refine sv_icmp_ne hM dX12_isMadeBy_93 hl8_12 k7 (t := 100) rfl rfl (fun hc => ?_) (fun hc => ?_)
              · have h := h.1 (hc)
                refine sv_iconst (d := (0 : Int)) hM dX12_isMadeBy_100 rfl rfl ?_
                have hb := J35 (0 : Int) (⟨by decide, by decide⟩ : sv_R (0 : Int)) h
                exact sv_less (lv := [(0, .ref 0), (1, sv_I p1), (2, sv_I p2), (3, sv_I p3), (4, sv_I p4), (5, sv_I r6), (6, sv_I (S 1112 0)), (7, sv_I l7_11), (8, sv_I l8_12)]) (sv_Sub_cons rfl (sv_Sub_cons rfl (sv_Sub_cons rfl (sv_Sub_cons rfl (sv_Sub_cons rfl (sv_Sub_cons rfl (sv_Sub_cons rfl (sv_Sub_cons rfl (sv_Sub_cons rfl sv_Sub_nil))))))))) hb
              · have h := h.2 (hc)
                refine sv_iconst (d := (1 : Int)) hM dX12_isMadeBy_96 rfl rfl ?_
                refine sv_goto hM dX12_isMadeBy_97 (pc' := 101) rfl ?_
                have hb := J35 (1 : Int) (⟨by decide, by decide⟩ : sv_R (1 : Int)) h
                exact sv_less (lv := [(0, .ref 0), (1, sv_I p1), (2, sv_I p2), (3, sv_I p3), (4, sv_I p4), (5, sv_I r6), (6, sv_I (S 1112 0)), (7, sv_I l7_11), (8, sv_I l8_12)]) (sv_Sub_cons rfl (sv_Sub_cons rfl (sv_Sub_cons rfl (sv_Sub_cons rfl (sv_Sub_cons rfl (sv_Sub_cons rfl (sv_Sub_cons rfl (sv_Sub_cons rfl (sv_Sub_cons rfl sv_Sub_nil))))))))) hb
        exact hJ ((0 : Int), s8, ()) ⟨(⟨by decide, by decide⟩ : sv_R (0 : Int)), hs8, ok3, hin14⟩
      have h := h.2
      refine sv_iload_n hM dX12_isMadeBy_60 rfl rfl ?_
      refine sv_bipush (d := (7 : Int)) hM dX12_isMadeBy_61 rfl rfl ?_
      refine sv_icmp_ne hM dX12_isMadeBy_63 hp1 (⟨by decide, by decide⟩ : sv_R (7 : Int)) (t := 75) rfl rfl (fun hc => ?_) (fun hc => ?_)
      · have h := h.1 (hc)
        refine sv_iconst (d := (-1 : Int)) hM dX12_isMadeBy_75 rfl rfl ?_
        have hb := J39 (-1 : Int) (⟨by decide, by decide⟩ : sv_R (-1 : Int)) h
        exact sv_less (lv := [(0, .ref 0), (1, sv_I p1), (2, sv_I p2), (3, sv_I p3), (4, sv_I p4), (5, sv_I r6), (6, sv_I (S 1112 0)), (7, sv_I (0 : Int))]) (sv_Sub_cons rfl (sv_Sub_cons rfl (sv_Sub_cons rfl (sv_Sub_cons rfl (sv_Sub_cons rfl (sv_Sub_cons rfl (sv_Sub_cons rfl (sv_Sub_cons rfl sv_Sub_nil)))))))) hb
      · have h := h.2 (hc)
        have k40 : (sm_PO (S 42) (S 1076 0) → 0 ≤ p2 → p2 < (S 1076 0) → 2 ≤ (S 1076 0) → (S 42 p2) = -1 ∨ (0 ≤ (S 42 p2) ∧ (S 42 p2) < (S 1076 0) ∧ ((S 42 p2) < p2 ∨ (p2 = 0 ∧ (S 42 p2) = 1)) ∧ ¬ p2 = 1)) := fun h a b e => sm_PO_at h _ a b e
        have h := h k40
        refine sv_aload_n hM dX12_isMadeBy_66 rfl rfl ?_
        refine sv_getA hM dX12_isMadeBy_67 sm_fl_137 (sm_a0 _) sm_k78 rfl ?_
        refine sv_iload_n hM dX12_isMadeBy_70 rfl rfl ?_
        obtain ⟨o41, h⟩ := h
        have k42 : sv_R (S 42 p2) := sm_okI ok3 sm_r42 p2
        have h := h k42
        refine sv_iald hM dX12_isMadeBy_71 (sm_a42 _) (by decide) o41.1 o41.2 rfl (x := (S 42 p2)) rfl ?_
        refine sv_goto hM dX12_isMadeBy_72 (pc' := 76) rfl ?_
        have hb := J39 (S 42 p2) k42 h
        exact sv_less (lv := [(0, .ref 0), (1, sv_I p1), (2, sv_I p2), (3, sv_I p3), (4, sv_I p4), (5, sv_I r6), (6, sv_I (S 1112 0)), (7, sv_I (0 : Int))]) (sv_Sub_cons rfl (sv_Sub_cons rfl (sv_Sub_cons rfl (sv_Sub_cons rfl (sv_Sub_cons rfl (sv_Sub_cons rfl (sv_Sub_cons rfl (sv_Sub_cons rfl sv_Sub_nil)))))))) hb
    · have h := h.2 (hc)
      refine sv_aload_n hM dX12_isMadeBy_44 rfl rfl ?_
      refine sv_bipush (d := (6 : Int)) hM dX12_isMadeBy_45 rfl rfl ?_
      obtain ⟨o43, h⟩ := h
      refine sv_callV hM dX12_isMadeBy_47 sm_iv_966 (by decide) (sm_a0 _) rfl rfl (Nat.le_of_ble_eq_true rfl) sm_h157 (Nat.le_of_ble_eq_true rfl) (Nat.le_of_ble_eq_true rfl) (F' := 3) (Nat.le_of_ble_eq_true rfl) rfl (t_error (6 : Int) S ok3 (⟨by decide, by decide⟩ : sv_R (6 : Int)) o43) (fun v S1 hq => ?_)
      obtain ⟨rfl, ok45, md46, hpo47⟩ := hq
      obtain ⟨g44, rfl⟩ : ∃ g, S1 = sv_sts S [1076, 41, 42, 43, 44, 45, 46, 47, 1075, 1100029, 1092, 60, 58, 57, 63, 64, 1073, 1109, 1110] g := ⟨_, md46.eq⟩
      show sv_T sm_XS sm_cs sm_L sm_sh 4 (q_isMadeBy p1 p2 p3 p4 S) 177 50 [(0, .ref 0), (1, sv_I p1), (2, sv_I p2), (3, sv_I p3), (4, sv_I p4), (5, sv_I r6)] [] (sv_sts S [1076, 41, 42, 43, 44, 45, 46, 47, 1075, 1100029, 1092, 60, 58, 57, 63, 64, 1073, 1109, 1110] g44)
      have md48 : sv_mod [1076, 41, 42, 43, 44, 45, 46, 47, 1075, 1100029, 1092, 60, 58, 57, 63, 64, 1073, 1109, 1110, 58, 63, 64, 57, 1111, 1112] S (sv_sts S [1076, 41, 42, 43, 44, 45, 46, 47, 1075, 1100029, 1092, 60, 58, 57, 63, 64, 1073, 1109, 1110] g44) := sv_mod.sts sv_mod.rf (by decide)
      have h := h g44 hpo47
      exact sv_vret hM dX12_isMadeBy_50 rfl ⟨rfl, ok45, md48, h⟩
  · have h := h.2 (hc)
    refine sv_aload_n hM dX12_isMadeBy_14 rfl rfl ?_
    refine sv_iload hM dX12_isMadeBy_15 rfl rfl ?_
    refine sv_iconst (d := (1 : Int)) hM dX12_isMadeBy_17 rfl rfl ?_
    obtain ⟨o49, h⟩ := h
    refine sv_callV hM dX12_isMadeBy_18 sm_iv_972 (by decide) (sm_a0 _) rfl rfl (Nat.le_of_ble_eq_true rfl) sm_h143 (Nat.le_of_ble_eq_true rfl) (Nat.le_of_ble_eq_true rfl) (F' := 1) (Nat.le_of_ble_eq_true rfl) rfl (t_read_ p4 (1 : Int) S ok3 hp4 (⟨by decide, by decide⟩ : sv_R (1 : Int)) o49) (fun v S1 hq => ?_)
    obtain ⟨r54, rfl, hr54, ok51, md52, hpo53⟩ := hq
    obtain ⟨g50, rfl⟩ : ∃ g, S1 = sv_sts S [1111, 1112] g := ⟨_, md52.eq⟩
    show sv_T sm_XS sm_cs sm_L sm_sh 4 (q_isMadeBy p1 p2 p3 p4 S) 177 21 [(0, .ref 0), (1, sv_I p1), (2, sv_I p2), (3, sv_I p3), (4, sv_I p4), (5, sv_I r6)] [sv_I r54] (sv_sts S [1111, 1112] g50)
    have md55 : sv_mod [1076, 41, 42, 43, 44, 45, 46, 47, 1075, 1100029, 1092, 60, 58, 57, 63, 64, 1073, 1109, 1110, 58, 63, 64, 57, 1111, 1112] S (sv_sts S [1111, 1112] g50) := sv_mod.sts sv_mod.rf (by decide)
    have h := h r54 hr54 g50 hpo53
    refine sv_istore hM dX12_isMadeBy_21 (by decide) rfl ?_
    show sv_T sm_XS sm_cs sm_L sm_sh 4 (q_isMadeBy p1 p2 p3 p4 S) 177 23 [(0, .ref 0), (1, sv_I p1), (2, sv_I p2), (3, sv_I p3), (4, sv_I p4), (5, sv_I r6), (6, sv_I r54)] [] (sv_sts S [1111, 1112] g50)
    have J100 : ∀ s56 : Int, sv_R s56 → (s56 = 0 ∨ s56 = 1) → sv_T sm_XS sm_cs sm_L sm_sh 4 (q_isMadeBy p1 p2 p3 p4 S) 177 37 [(0, .ref 0), (1, sv_I p1), (2, sv_I p2), (3, sv_I p3), (4, sv_I p4), (5, sv_I r6), (6, sv_I r54)] [sv_I s56] (sv_sts S [1111, 1112] g50) := by
      intro s56 hs56 hin57
      have h := h.1 s56 hs56 hin57
      refine sv_istore hM dX12_isMadeBy_37 (by decide) rfl ?_
      show sv_T sm_XS sm_cs sm_L sm_sh 4 (q_isMadeBy p1 p2 p3 p4 S) 177 39 [(0, .ref 0), (1, sv_I p1), (2, sv_I p2), (3, sv_I p3), (4, sv_I p4), (5, sv_I s56), (6, sv_I r54)] [] (sv_sts S [1111, 1112] g50)
      refine sv_iload hM dX12_isMadeBy_39 rfl rfl ?_
      refine sv_cond_ne hM dX12_isMadeBy_41 hs56 (t := 51) rfl rfl (fun hc => ?_) (fun hc => ?_)
      · have h := h.1 (hc)
        refine sv_aload_n hM dX12_isMadeBy_51 rfl rfl ?_
        have k58 : sv_R (g50 1112 0) := sm_okI ok51 sm_r1112 0
        have h := h k58
        refine sv_getI hM dX12_isMadeBy_52 sm_fl_791 (sm_a0 _) sm_k112 rfl (x := (g50 1112 0)) rfl ?_
        refine sv_istore hM dX12_isMadeBy_55 (by decide) rfl ?_
        show sv_T sm_XS sm_cs sm_L sm_sh 4 (q_isMadeBy p1 p2 p3 p4 S) 177 57 [(0, .ref 0), (1, sv_I p1), (2, sv_I p2), (3, sv_I p3), (4, sv_I p4), (5, sv_I s56), (6, sv_I (g50 1112 0))] [] (sv_sts S [1111, 1112] g50)
        refine sv_iconst (d := (0 : Int)) hM dX12_isMadeBy_57 rfl rfl ?_
        refine sv_istore hM dX12_isMadeBy_58 (by decide) rfl ?_
        show sv_T sm_XS sm_cs sm_L sm_sh 4 (q_isMadeBy p1 p2 p3 p4 S) 177 60 [(0, .ref 0), (1, sv_I p1), (2, sv_I p2), (3, sv_I p3), (4, sv_I p4), (5, sv_I s56), (6, sv_I (g50 1112 0)), (7, sv_I (0 : Int))] [] (sv_sts S [1111, 1112] g50)
        have J90 : ∀ s59 : Int, sv_R s59 → (-1 ≤ s59 ∧ s59 < (S 1076 0)) → sv_T sm_XS sm_cs sm_L sm_sh 4 (q_isMadeBy p1 p2 p3 p4 S) 177 76 [(0, .ref 0), (1, sv_I p1), (2, sv_I p2), (3, sv_I p3), (4, sv_I p4), (5, sv_I s56), (6, sv_I (g50 1112 0)), (7, sv_I (0 : Int))] [sv_I s59] (sv_sts S [1111, 1112] g50) := by
          intro s59 hs59 hin60
          have h := h.1 s59 hs59 hin60
          have k61 : (-1 ≤ s59 → 0 ≤ sm_pm s59) := sm_pm_0
          have h := h k61
          refine sv_istore hM dX12_isMadeBy_76 (by decide) rfl ?_
          show sv_T sm_XS sm_cs sm_L sm_sh 4 (q_isMadeBy p1 p2 p3 p4 S) 177 78 [(0, .ref 0), (1, sv_I p1), (2, sv_I p2), (3, sv_I p3), (4, sv_I p4), (5, sv_I s56), (6, sv_I (g50 1112 0)), (7, sv_I (0 : Int)), (8, sv_I s59)] [] (sv_sts S [1111, 1112] g50)
          obtain ⟨hin65, h⟩ := h
          have hJ : ∀ a : Int × Int × Unit, (sv_R a.1 ∧ sv_R a.2.1 ∧ sm_ok (sv_sts S [1111, 1112] g50) ∧ ((a.1 = 0 ∨ a.1 = 1) ∧ -1 ≤ a.2.1 ∧ a.2.1 < (S 1076 0) ∧ 0 ≤ sm_pm a.2.1)) → sv_T sm_XS sm_cs sm_L sm_sh 4 (q_isMadeBy p1 p2 p3 p4 S) 177 78 [(0, .ref 0), (1, sv_I p1), (2, sv_I p2), (3, sv_I p3), (4, sv_I p4), (5, sv_I s56), (6, sv_I (g50 1112 0)), (7, sv_I a.1), (8, sv_I a.2.1)] [] (sv_sts S [1111, 1112] g50) := by
            refine sv_loop (α := Int × Int × Unit) (fun a => sv_R a.1 ∧ sv_R a.2.1 ∧ sm_ok (sv_sts S [1111, 1112] g50) ∧ ((a.1 = 0 ∨ a.1 = 1) ∧ -1 ≤ a.2.1 ∧ a.2.1 < (S 1076 0) ∧ 0 ≤ sm_pm a.2.1)) (fun a => sm_pm a.2.1) (fun a => sv_T sm_XS sm_cs sm_L sm_sh 4 (q_isMadeBy p1 p2 p3 p4 S) 177 78 [(0, .ref 0), (1, sv_I p1), (2, sv_I p2), (3, sv_I p3), (4, sv_I p4), (5, sv_I s56), (6, sv_I (g50 1112 0)), (7, sv_I a.1), (8, sv_I a.2.1)] [] (sv_sts S [1111, 1112] g50)) (fun a q => (h a.1 q.1 a.2.1 q.2.1 q.2.2.2).1) (fun a q ih64 => ?_)
            obtain ⟨l7_62, l8_63, _u⟩ := a
            obtain ⟨hl7_62, hl8_63, ok66, hin65i⟩ := q
            have h := (h l7_62 hl7_62 l8_63 hl8_63 hin65i).2
            show sv_T sm_XS sm_cs sm_L sm_sh 4 (q_isMadeBy p1 p2 p3 p4 S) 177 78 [(0, .ref 0), (1, sv_I p1), (2, sv_I p2), (3, sv_I p3), (4, sv_I p4), (5, sv_I s56), (6, sv_I (g50 1112 0)), (7, sv_I l7_62), (8, sv_I l8_63)] [] (sv_sts S [1111, 1112] g50)
            refine sv_iload hM dX12_isMadeBy_78 rfl rfl ?_
            refine sv_iconst (d := (-1 : Int)) hM dX12_isMadeBy_80 rfl rfl ?_
            refine sv_icmp_eq hM dX12_isMadeBy_81 hl8_63 (⟨by decide, by decide⟩ : sv_R (-1 : Int)) (t := 115) rfl rfl (fun hc => ?_) (fun hc => ?_)
            · have h := h.1 (hc)
              refine sv_aload_n hM dX12_isMadeBy_115 rfl rfl ?_
              refine sv_iload hM dX12_isMadeBy_116 rfl rfl ?_
              obtain ⟨o67, h⟩ := h
              refine sv_callV hM dX12_isMadeBy_118 sm_iv_827 (by decide) (sm_a0 _) rfl rfl (Nat.le_of_ble_eq_true rfl) sm_h134 (Nat.le_of_ble_eq_true rfl) (Nat.le_of_ble_eq_true rfl) (F' := 1) (Nat.le_of_ble_eq_true rfl) rfl (t_truth l7_62 (sv_sts S [1111, 1112] g50) ok66 o67) (fun v S1 hq => ?_)
              obtain ⟨rfl, ok69, md70, hpo71⟩ := hq
              obtain ⟨g68, rfl⟩ : ∃ g, S1 = sv_sts (sv_sts S [1111, 1112] g50) [1111, 1112] g := ⟨_, md70.eq⟩
              show sv_T sm_XS sm_cs sm_L sm_sh 4 (q_isMadeBy p1 p2 p3 p4 S) 177 121 [(0, .ref 0), (1, sv_I p1), (2, sv_I p2), (3, sv_I p3), (4, sv_I p4), (5, sv_I s56), (6, sv_I (g50 1112 0)), (7, sv_I l7_62), (8, sv_I l8_63)] [] (sv_sts (sv_sts S [1111, 1112] g50) [1111, 1112] g68)
              have md72 : sv_mod [1076, 41, 42, 43, 44, 45, 46, 47, 1075, 1100029, 1092, 60, 58, 57, 63, 64, 1073, 1109, 1110, 58, 63, 64, 57, 1111, 1112] S (sv_sts (sv_sts S [1111, 1112] g50) [1111, 1112] g68) := sv_mod.sts md55 (by decide)
              have h := h g68 hpo71
              refine sv_aload_n hM dX12_isMadeBy_121 rfl rfl ?_
              refine sv_iconst (d := (2 : Int)) hM dX12_isMadeBy_122 rfl rfl ?_
              obtain ⟨o73, h⟩ := h
              refine sv_callV hM dX12_isMadeBy_123 sm_iv_904 (by decide) (sm_a0 _) rfl rfl (Nat.le_of_ble_eq_true rfl) sm_h155 (Nat.le_of_ble_eq_true rfl) (Nat.le_of_ble_eq_true rfl) (F' := 2) (Nat.le_of_ble_eq_true rfl) rfl (t_gives (2 : Int) (sv_sts (sv_sts S [1111, 1112] g50) [1111, 1112] g68) ok69 (⟨by decide, by decide⟩ : sv_R (2 : Int)) o73) (fun v S1 hq => ?_)
              obtain ⟨rfl, ok75, md76, hpo77⟩ := hq
              obtain ⟨g74, rfl⟩ : ∃ g, S1 = sv_sts (sv_sts (sv_sts S [1111, 1112] g50) [1111, 1112] g68) [58, 63, 64, 57] g := ⟨_, md76.eq⟩
              show sv_T sm_XS sm_cs sm_L sm_sh 4 (q_isMadeBy p1 p2 p3 p4 S) 177 126 [(0, .ref 0), (1, sv_I p1), (2, sv_I p2), (3, sv_I p3), (4, sv_I p4), (5, sv_I s56), (6, sv_I (g50 1112 0)), (7, sv_I l7_62), (8, sv_I l8_63)] [] (sv_sts (sv_sts (sv_sts S [1111, 1112] g50) [1111, 1112] g68) [58, 63, 64, 57] g74)
              have md78 : sv_mod [1076, 41, 42, 43, 44, 45, 46, 47, 1075, 1100029, 1092, 60, 58, 57, 63, 64, 1073, 1109, 1110, 58, 63, 64, 57, 1111, 1112] S (sv_sts (sv_sts (sv_sts S [1111, 1112] g50) [1111, 1112] g68) [58, 63, 64, 57] g74) := sv_mod.sts md72 (by decide)
              have h := h g74 hpo77
              exact sv_vret hM dX12_isMadeBy_126 rfl ⟨rfl, ok75, md78, h⟩
            · have h := h.2 (hc)
              have k79 : (sm_PO (S 42) (S 1076 0) → 0 ≤ l8_63 → l8_63 < (S 1076 0) → 2 ≤ (S 1076 0) → (S 42 l8_63) = -1 ∨ (0 ≤ (S 42 l8_63) ∧ (S 42 l8_63) < (S 1076 0) ∧ ((S 42 l8_63) < l8_63 ∨ (l8_63 = 0 ∧ (S 42 l8_63) = 1)) ∧ ¬ l8_63 = 1)) := fun h a b e => sm_PO_at h _ a b e
              have h := h k79
              have k80 : (-1 ≤ (S 42 l8_63) → 0 ≤ sm_pm (S 42 l8_63)) := sm_pm_0
              have h := h k80
              have k81 : (sm_PO (S 42) (S 1076 0) → 0 ≤ l8_63 → l8_63 < (S 1076 0) → sm_pm (S 42 l8_63) < sm_pm l8_63) := fun h a b => sm_pm_s h _ a b
              have h := h k81
              have J86 : ∀ s82 : Int, sv_R s82 → (s82 = 0 ∨ s82 = 1) → sv_T sm_XS sm_cs sm_L sm_sh 4 (q_isMadeBy p1 p2 p3 p4 S) 177 101 [(0, .ref 0), (1, sv_I p1), (2, sv_I p2), (3, sv_I p3), (4, sv_I p4), (5, sv_I s56), (6, sv_I (g50 1112 0)), (7, sv_I l7_62), (8, sv_I l8_63)] [sv_I s82] (sv_sts S [1111, 1112] g50) := by
                intro s82 hs82 hin83
                have h := h.1 s82 hs82 hin83
                refine sv_istore hM dX12_isMadeBy_101 (by decide) rfl ?_
                show sv_T sm_XS sm_cs sm_L sm_sh 4 (q_isMadeBy p1 p2 p3 p4 S) 177 103 [(0, .ref 0), (1, sv_I p1), (2, sv_I p2), (3, sv_I p3), (4, sv_I p4), (5, sv_I s56), (6, sv_I (g50 1112 0)), (7, sv_I s82), (8, sv_I l8_63)] [] (sv_sts S [1111, 1112] g50)
                refine sv_aload_n hM dX12_isMadeBy_103 rfl rfl ?_
                refine sv_getA hM dX12_isMadeBy_104 sm_fl_137 (sm_a0 _) sm_k78 rfl ?_
                refine sv_iload hM dX12_isMadeBy_107 rfl rfl ?_
                obtain ⟨o84, h⟩ := h
                have k85 : sv_R (S 42 l8_63) := sm_okI ok66 sm_r42 l8_63
                have h := h k85
                refine sv_iald hM dX12_isMadeBy_109 (sm_a42 _) (by decide) o84.1 o84.2 rfl (x := (S 42 l8_63)) rfl ?_
                refine sv_istore hM dX12_isMadeBy_110 (by decide) rfl ?_
                show sv_T sm_XS sm_cs sm_L sm_sh 4 (q_isMadeBy p1 p2 p3 p4 S) 177 112 [(0, .ref 0), (1, sv_I p1), (2, sv_I p2), (3, sv_I p3), (4, sv_I p4), (5, sv_I s56), (6, sv_I (g50 1112 0)), (7, sv_I s82), (8, sv_I (S 42 l8_63))] [] (sv_sts S [1111, 1112] g50)
                refine sv_goto hM dX12_isMadeBy_112 (pc' := 78) rfl ?_
                have hb := ih64 (s82, (S 42 l8_63), ()) ⟨hs82, k85, ok66, h.1⟩ h.2
                exact sv_less (lv := [(0, .ref 0), (1, sv_I p1), (2, sv_I p2), (3, sv_I p3), (4, sv_I p4), (5, sv_I s56), (6, sv_I (g50 1112 0)), (7, sv_I s82), (8, sv_I (S 42 l8_63))]) (sv_Sub_cons rfl (sv_Sub_cons rfl (sv_Sub_cons rfl (sv_Sub_cons rfl (sv_Sub_cons rfl (sv_Sub_cons rfl (sv_Sub_cons rfl (sv_Sub_cons rfl (sv_Sub_cons rfl sv_Sub_nil))))))))) hb
              have h := h.2
              have k87 : (sm_PO (S 42) (S 1076 0) → 0 ≤ l8_63 → l8_63 < (S 1076 0) → 2 ≤ (S 1076 0) → (S 42 l8_63) = -1 ∨ (0 ≤ (S 42 l8_63) ∧ (S 42 l8_63) < (S 1076 0) ∧ ((S 42 l8_63) < l8_63 ∨ (l8_63 = 0 ∧ (S 42 l8_63) = 1)) ∧ ¬ l8_63 = 1)) := fun h a b e => sm_PO_at h _ a b e
              have h := h k87
              have k88 : (-1 ≤ (S 42 l8_63) → 0 ≤ sm_pm (S 42 l8_63)) := sm_pm_0
              have h := h k88
              have k89 : (sm_PO (S 42) (S 1076 0) → 0 ≤ l8_63 → l8_63 < (S 1076 0) → sm_pm (S 42 l8_63) < sm_pm l8_63) := fun h a b => sm_pm_s h _ a b
              have h := h k89
              refine sv_iload hM dX12_isMadeBy_84 rfl rfl ?_
              refine sv_cond_ne hM dX12_isMadeBy_86 hl7_62 (t := 96) rfl rfl (fun hc => ?_) (fun hc => ?_)
              · have h := h.1 (hc)
                refine sv_iconst (d := (1 : Int)) hM dX12_isMadeBy_96 rfl rfl ?_
                refine sv_goto hM dX12_isMadeBy_97 (pc' := 101) rfl ?_
                have hb := J86 (1 : Int) (⟨by decide, by decide⟩ : sv_R (1 : Int)) h
                exact sv_less (lv := [(0, .ref 0), (1, sv_I p1), (2, sv_I p2), (3, sv_I p3), (4, sv_I p4), (5, sv_I s56), (6, sv_I (g50 1112 0)), (7, sv_I l7_62), (8, sv_I l8_63)]) (sv_Sub_cons rfl (sv_Sub_cons rfl (sv_Sub_cons rfl (sv_Sub_cons rfl (sv_Sub_cons rfl (sv_Sub_cons rfl (sv_Sub_cons rfl (sv_Sub_cons rfl (sv_Sub_cons rfl sv_Sub_nil))))))))) hb
              · have h := h.2 (hc)
                refine sv_iload hM dX12_isMadeBy_89 rfl rfl ?_
                refine sv_iload hM dX12_isMadeBy_91 rfl rfl ?_
                refine sv_icmp_ne hM dX12_isMadeBy_93 hl8_63 k58 (t := 100) rfl rfl (fun hc => ?_) (fun hc => ?_)
                · have h := h.1 (hc)
                  refine sv_iconst (d := (0 : Int)) hM dX12_isMadeBy_100 rfl rfl ?_
                  have hb := J86 (0 : Int) (⟨by decide, by decide⟩ : sv_R (0 : Int)) h
                  exact sv_less (lv := [(0, .ref 0), (1, sv_I p1), (2, sv_I p2), (3, sv_I p3), (4, sv_I p4), (5, sv_I s56), (6, sv_I (g50 1112 0)), (7, sv_I l7_62), (8, sv_I l8_63)]) (sv_Sub_cons rfl (sv_Sub_cons rfl (sv_Sub_cons rfl (sv_Sub_cons rfl (sv_Sub_cons rfl (sv_Sub_cons rfl (sv_Sub_cons rfl (sv_Sub_cons rfl (sv_Sub_cons rfl sv_Sub_nil))))))))) hb
                · have h := h.2 (hc)
                  refine sv_iconst (d := (1 : Int)) hM dX12_isMadeBy_96 rfl rfl ?_
                  refine sv_goto hM dX12_isMadeBy_97 (pc' := 101) rfl ?_
                  have hb := J86 (1 : Int) (⟨by decide, by decide⟩ : sv_R (1 : Int)) h
                  exact sv_less (lv := [(0, .ref 0), (1, sv_I p1), (2, sv_I p2), (3, sv_I p3), (4, sv_I p4), (5, sv_I s56), (6, sv_I (g50 1112 0)), (7, sv_I l7_62), (8, sv_I l8_63)]) (sv_Sub_cons rfl (sv_Sub_cons rfl (sv_Sub_cons rfl (sv_Sub_cons rfl (sv_Sub_cons rfl (sv_Sub_cons rfl (sv_Sub_cons rfl (sv_Sub_cons rfl (sv_Sub_cons rfl sv_Sub_nil))))))))) hb
          exact hJ ((0 : Int), s59, ()) ⟨(⟨by decide, by decide⟩ : sv_R (0 : Int)), hs59, ok51, hin65⟩
        have h := h.2
        refine sv_iload_n hM dX12_isMadeBy_60 rfl rfl ?_
        refine sv_bipush (d := (7 : Int)) hM dX12_isMadeBy_61 rfl rfl ?_
        refine sv_icmp_ne hM dX12_isMadeBy_63 hp1 (⟨by decide, by decide⟩ : sv_R (7 : Int)) (t := 75) rfl rfl (fun hc => ?_) (fun hc => ?_)
        · have h := h.1 (hc)
          refine sv_iconst (d := (-1 : Int)) hM dX12_isMadeBy_75 rfl rfl ?_
          have hb := J90 (-1 : Int) (⟨by decide, by decide⟩ : sv_R (-1 : Int)) h
          exact sv_less (lv := [(0, .ref 0), (1, sv_I p1), (2, sv_I p2), (3, sv_I p3), (4, sv_I p4), (5, sv_I s56), (6, sv_I (g50 1112 0)), (7, sv_I (0 : Int))]) (sv_Sub_cons rfl (sv_Sub_cons rfl (sv_Sub_cons rfl (sv_Sub_cons rfl (sv_Sub_cons rfl (sv_Sub_cons rfl (sv_Sub_cons rfl (sv_Sub_cons rfl sv_Sub_nil)))))))) hb
        · have h := h.2 (hc)
          have k91 : (sm_PO (S 42) (S 1076 0) → 0 ≤ p2 → p2 < (S 1076 0) → 2 ≤ (S 1076 0) → (S 42 p2) = -1 ∨ (0 ≤ (S 42 p2) ∧ (S 42 p2) < (S 1076 0) ∧ ((S 42 p2) < p2 ∨ (p2 = 0 ∧ (S 42 p2) = 1)) ∧ ¬ p2 = 1)) := fun h a b e => sm_PO_at h _ a b e
          have h := h k91
          refine sv_aload_n hM dX12_isMadeBy_66 rfl rfl ?_
          refine sv_getA hM dX12_isMadeBy_67 sm_fl_137 (sm_a0 _) sm_k78 rfl ?_
          refine sv_iload_n hM dX12_isMadeBy_70 rfl rfl ?_
          obtain ⟨o92, h⟩ := h
          have k93 : sv_R (S 42 p2) := sm_okI ok51 sm_r42 p2
          have h := h k93
          refine sv_iald hM dX12_isMadeBy_71 (sm_a42 _) (by decide) o92.1 o92.2 rfl (x := (S 42 p2)) rfl ?_
          refine sv_goto hM dX12_isMadeBy_72 (pc' := 76) rfl ?_
          have hb := J90 (S 42 p2) k93 h
          exact sv_less (lv := [(0, .ref 0), (1, sv_I p1), (2, sv_I p2), (3, sv_I p3), (4, sv_I p4), (5, sv_I s56), (6, sv_I (g50 1112 0)), (7, sv_I (0 : Int))]) (sv_Sub_cons rfl (sv_Sub_cons rfl (sv_Sub_cons rfl (sv_Sub_cons rfl (sv_Sub_cons rfl (sv_Sub_cons rfl (sv_Sub_cons rfl (sv_Sub_cons rfl sv_Sub_nil)))))))) hb
      · have h := h.2 (hc)
        refine sv_aload_n hM dX12_isMadeBy_44 rfl rfl ?_
        refine sv_bipush (d := (6 : Int)) hM dX12_isMadeBy_45 rfl rfl ?_
        obtain ⟨o94, h⟩ := h
        refine sv_callV hM dX12_isMadeBy_47 sm_iv_966 (by decide) (sm_a0 _) rfl rfl (Nat.le_of_ble_eq_true rfl) sm_h157 (Nat.le_of_ble_eq_true rfl) (Nat.le_of_ble_eq_true rfl) (F' := 3) (Nat.le_of_ble_eq_true rfl) rfl (t_error (6 : Int) (sv_sts S [1111, 1112] g50) ok51 (⟨by decide, by decide⟩ : sv_R (6 : Int)) o94) (fun v S1 hq => ?_)
        obtain ⟨rfl, ok96, md97, hpo98⟩ := hq
        obtain ⟨g95, rfl⟩ : ∃ g, S1 = sv_sts (sv_sts S [1111, 1112] g50) [1076, 41, 42, 43, 44, 45, 46, 47, 1075, 1100029, 1092, 60, 58, 57, 63, 64, 1073, 1109, 1110] g := ⟨_, md97.eq⟩
        show sv_T sm_XS sm_cs sm_L sm_sh 4 (q_isMadeBy p1 p2 p3 p4 S) 177 50 [(0, .ref 0), (1, sv_I p1), (2, sv_I p2), (3, sv_I p3), (4, sv_I p4), (5, sv_I s56), (6, sv_I r54)] [] (sv_sts (sv_sts S [1111, 1112] g50) [1076, 41, 42, 43, 44, 45, 46, 47, 1075, 1100029, 1092, 60, 58, 57, 63, 64, 1073, 1109, 1110] g95)
        have md99 : sv_mod [1076, 41, 42, 43, 44, 45, 46, 47, 1075, 1100029, 1092, 60, 58, 57, 63, 64, 1073, 1109, 1110, 58, 63, 64, 57, 1111, 1112] S (sv_sts (sv_sts S [1111, 1112] g50) [1076, 41, 42, 43, 44, 45, 46, 47, 1075, 1100029, 1092, 60, 58, 57, 63, 64, 1073, 1109, 1110] g95) := sv_mod.sts md55 (by decide)
        have h := h g95 hpo98
        exact sv_vret hM dX12_isMadeBy_50 rfl ⟨rfl, ok96, md99, h⟩
    have h := h.2
    refine sv_aload_n hM dX12_isMadeBy_23 rfl rfl ?_
    have k101 : sv_R (g50 1111 0) := sm_okI ok51 sm_r1111 0
    have h := h k101
    refine sv_getI hM dX12_isMadeBy_24 sm_fl_788 (sm_a0 _) sm_k111 rfl (x := (g50 1111 0)) rfl ?_
    refine sv_bipush (d := (7 : Int)) hM dX12_isMadeBy_27 rfl rfl ?_
    refine sv_icmp_ne hM dX12_isMadeBy_29 k101 (⟨by decide, by decide⟩ : sv_R (7 : Int)) (t := 36) rfl rfl (fun hc => ?_) (fun hc => ?_)
    · have h := h.1 (hc)
      refine sv_iconst (d := (0 : Int)) hM dX12_isMadeBy_36 rfl rfl ?_
      have hb := J100 (0 : Int) (⟨by decide, by decide⟩ : sv_R (0 : Int)) h
      exact sv_less (lv := [(0, .ref 0), (1, sv_I p1), (2, sv_I p2), (3, sv_I p3), (4, sv_I p4), (5, sv_I r6), (6, sv_I r54)]) (sv_Sub_cons rfl (sv_Sub_cons rfl (sv_Sub_cons rfl (sv_Sub_cons rfl (sv_Sub_cons rfl (sv_Sub_cons rfl (sv_Sub_cons rfl sv_Sub_nil))))))) hb
    · have h := h.2 (hc)
      refine sv_iconst (d := (1 : Int)) hM dX12_isMadeBy_32 rfl rfl ?_
      refine sv_goto hM dX12_isMadeBy_33 (pc' := 37) rfl ?_
      have hb := J100 (1 : Int) (⟨by decide, by decide⟩ : sv_R (1 : Int)) h
      exact sv_less (lv := [(0, .ref 0), (1, sv_I p1), (2, sv_I p2), (3, sv_I p3), (4, sv_I p4), (5, sv_I r6), (6, sv_I r54)]) (sv_Sub_cons rfl (sv_Sub_cons rfl (sv_Sub_cons rfl (sv_Sub_cons rfl (sv_Sub_cons rfl (sv_Sub_cons rfl (sv_Sub_cons rfl sv_Sub_nil))))))) hb
def q_binary_ (p1 : Int) (S : sv_S) : Option Value → sv_S → Prop := fun v S' => v = none ∧ sm_ok S' ∧ sv_mod [1076, 41, 42, 43, 44, 45, 46, 47, 1075, 1100029, 1092, 60, 58, 57, 63, 64, 1073, 1109, 1110, 1111, 1112, 5, 1011, 3, 4, 1007, 1113] S S' ∧ (sm_PL (S' 1100020) (S' 51) (S' 52) (S' 46) (S' 47) (S' 1076 0) (S' 1086 0) ∧ sm_FR (S' 1100020) (S' 52) (S' 1100021) (S' 1100022) (3000 - (S' 1084 0)) (S' 1085 0) ∧ sm_PV (S' 1100020) (S' 48) (S' 49) (S' 50) (S' 44) (S' 1076 0) (S' 1007 0) ∧ sm_AL (S' 1100020) (S' 48) (S' 49) (S' 50) (S' 44) (S' 1076 0) (S' 1100032 0) ∧ sm_SV (S' 1100020) (S' 48) (S' 1100029) (S' 32) (S' 33) (S' 1076 0) (S' 1032 0) ∧ 0 ≤ (S' 1076 0) ∧ (S' 1076 0) ≤ 300 ∧ 0 ≤ (S' 1084 0) ∧ (S' 1084 0) ≤ 3000 ∧ 0 ≤ (S' 1086 0) ∧ sm_SC (S' 1100029) (S' 44) (S' 45) (S' 43) (S' 21) (S' 1076 0) (S' 1032 0) ∧ sm_PO (S' 42) (S' 1076 0) ∧ ((S' 1075 0) = 0 → (S' 1100032 0) = -1 ∧ sm_FO (S' 44) (S' 45) (S' 1076 0)) ∧ 23 ≤ (S' 1076 0) ∧ 31 ≤ (S' 1007 0) ∧ (S' 1007 0) ≤ 400 ∧ sm_LN (S' 4) 400 (S' 1007 0) ∧ (S' 1008 0) ≤ (S' 1007 0) ∧ ((S 1075 0) = 1 → (S' 1075 0) = 1) ∧ 0 ≤ (S' 1092 0) ∧ (S' 1092 0) ≤ 24 ∧ (S 1007 0) ≤ (S' 1007 0) ∧ (¬ (S' 1075 0) = 0 → sm_LX (S' 58) (S' 63) (S' 64) (S' 1092 0) (S' 1076 0)) ∧ ((S' 1075 0) = 0 → (S' 1073 0) = 1 → 1 ≤ (S' 1092 0) ∧ (S' 1092 0) ≤ 24 ∧ 0 ≤ (S' 57 ((S' 1092 0) - 1)) ∧ (S' 57 ((S' 1092 0) - 1)) < (S' 1046 0) ∧ (S' 29 (S' 57 ((S' 1092 0) - 1))) = (S' 53 ((S' 1092 0) - 1)) ∧ 0 ≤ (S' 53 ((S' 1092 0) - 1)) ∧ (S' 53 ((S' 1092 0) - 1)) < (S' 1032 0) ∧ (S' 60 ((S' 1092 0) - 1)) = sm_dp (S' 1100024) (S' 1100023 (S' 57 ((S' 1092 0) - 1))) ∧ sm_TC (S' 61) (S' 62) (S' 27) (S' 1100007) (S' 1100023) (S' 1100024) (40 * ((S' 1092 0) - 1)) (S' 1100023 (S' 57 ((S' 1092 0) - 1))) ∧ sm_LK (S' 1100029) (S' 1076 0) (S' 54 ((S' 1092 0) - 1)) (S' 53 ((S' 1092 0) - 1)) ∧ sm_VO (S' 44) (S' 1076 0) (S' 1007 0) ((S' 55 ((S' 1092 0) - 1))) ((S' 56 ((S' 1092 0) - 1))) ∧ sm_FW (S' 44) (S' 1076 0) (S' 59 ((S' 1092 0) - 1)) ∧ sm_FL (S' 53) (S' 54) (S' 55) (S' 56) (S' 57) (S' 58) (S' 59) (S' 60) (S' 61) (S' 62) (S' 63) (S' 64) (S' 27) (S' 29) (S' 1100007) (S' 1100023) (S' 1100024) (S' 1100025) (S' 26) (S' 1100029) (S' 44) (S' 1046 0) (S' 1032 0) (S' 1076 0) (S' 1007 0) (((S' 1092 0) - 1)) ∧ (S' 58 ((S' 1092 0) - 1)) = (S' 1100007 (S' 57 ((S' 1092 0) - 1))) ∧ sm_SK (S' 63) (S' 64) (S' 44) (S' 1100007) (S' 1100025) (S' 1076 0) (S' 1007 0) (400 * ((S' 1092 0) - 1)) ((S' 58 ((S' 1092 0) - 1))) ((S' 1100025 (S' 57 ((S' 1092 0) - 1))))) ∧ ((S' 1073 0) = 1 ∨ (S' 1092 0) = 0 ∧ (S' 1075 0) = 0 ∧ ((S' 1073 0) = 2 ∨ (S' 1073 0) = 3)))
theorem la_binary__0 {x0 : Int} (h0 : 2 ≤ x0) : 0 ≤ x0 - 1 := by omega
theorem la_binary__1 {x0 : Int} : x0 - 1 < x0 := by omega
theorem la_binary__2 {x0 : Int} (h0 : 2 ≤ x0) : 0 ≤ x0 - 2 := by omega
theorem la_binary__3 {x0 : Int} : x0 - 2 < x0 := by omega
theorem la_binary__4 {x0 x1 : Int} (h0 : 1 ≤ x0) (h1 : x0 ≤ 24) (h2 : x1 ≤ 396) (h3 : 2 ≤ x1) : 1 ≤ x0 ∧ x0 ≤ 24 ∧ 0 ≤ x1 ∧ x1 ≤ 400 ∧ (0 : Int) ≤ 1 ∧ 1 < x1 := by omega
theorem la_binary__5 {x0 x1 : Int} (h0 : 1 ≤ x0) (h1 : x0 ≤ 24) (h2 : x1 ≤ 396) (h3 : 2 ≤ x1) : 1 ≤ x0 ∧ x0 ≤ 24 ∧ 0 ≤ x1 ∧ x1 ≤ 400 ∧ (0 : Int) ≤ 0 ∧ 0 < x1 := by omega
theorem la_binary__6 {x0 : Int} (h0 : x0 ≤ 20) (h1 : ¬ x0 = 20) : x0 < 20 := by omega
theorem la_binary__7 {x0 : Int} (h0 : x0 < 20) : x0 ≤ 19 := by omega
theorem la_binary__8 {x0 : Int} (h0 : x0 ≤ 19) (h1 : ¬ x0 = 19) : x0 < 19 := by omega
theorem la_binary__9 {x0 : Int} (h0 : x0 < 19) : x0 ≤ 18 := by omega
theorem la_binary__10 {x0 x1 : Int} : 400 * (x0 - 1) + x1 - 1 - 0 = 400 * (x0 - 1) + (x1 - 1) := by omega
theorem la_binary__11 {x0 x1 : Int} : 400 * (x0 - 1) + x1 - 1 - 1 = 400 * (x0 - 1) + (x1 - 2) := by omega
theorem la_binary__12 {x0 x1 x2 : Int} (h0 : x0 = x1) (h1 : x1 = 6) (h2 : x0 = x2) : x2 = 6 := by omega
theorem la_binary__13 {x0 x1 x2 : Int} (h0 : x0 = x1) (h1 : x1 = 6) (h2 : x0 = x2) : ¬ x2 = 7 := by omega
theorem la_binary__14 {x0 x1 x2 : Int} (h0 : x0 = x1) (h1 : x0 = x2) (h2 : 0 ≤ x2) : 0 ≤ x1 := by omega
theorem la_binary__15 {x0 x1 x2 x3 : Int} (h0 : x0 ≤ 400) (h1 : x1 = x2) (h2 : x1 = x3) (h3 : x3 < x0) : x2 < 400 := by omega
theorem la_binary__16 {x0 : Int} (h0 : x0 = 0) : ¬ x0 = 1 := by omega
theorem la_binary__17 : (0 : Int) ≤ 2 := by omega
theorem la_binary__18 {x0 : Int} (h0 : x0 ≤ 396) : x0 - 2 ≤ 399 := by omega
theorem la_binary__19 {x0 : Int} (h0 : 2 ≤ x0) : 0 ≤ x0 := by omega
theorem la_binary__20 {x0 : Int} (h0 : x0 ≤ 5) : x0 ≤ 7 := by omega
theorem la_binary__21 {x0 x1 x2 : Int} (h0 : x0 ≤ 5) : x0 = 6 → 0 ≤ x1 ∧ x1 < x2 := by omega
theorem la_binary__22 {x0 x1 x2 x3 : Int} (h0 : x0 ≤ 5) : x0 = 7 → 0 ≤ x1 ∧ x1 < x2 ∧ ¬ x3 = 3 := by omega
theorem la_binary__23 {x0 x1 : Int} (h0 : x0 = x1 + (-1)) : x0 = x1 - 2 + 1 := by omega
theorem la_binary__24 {x0 : Int} (h0 : x0 = 0) : x0 ≤ 0 := by omega
theorem la_binary__25 {x0 : Int} (h0 : x0 ≤ 0) (h1 : ¬ x0 = 0) : x0 < 0 := by omega
theorem la_binary__26 {x0 : Int} (h0 : x0 = 0) : ¬ ¬ x0 = 0 := by omega
theorem la_binary__27 {x0 : Int} (h0 : x0 = 0) : x0 = 1 → x0 = 1 := by omega
theorem la_binary__28 {x0 : Int} (h0 : 1 ≤ x0) : 0 ≤ x0 := by omega
theorem la_binary__29 {x0 : Int} : x0 ≤ x0 := by omega
theorem la_binary__30 {x0 x1 x2 : Int} (h0 : x0 = 0) (h1 : x1 = 1) (h2 : 1 ≤ x2) : x1 = 1 ∨ x2 = 0 ∧ x0 = 0 ∧ (x1 = 2 ∨ x1 = 3) := by omega
theorem la_binary__31 {x0 : Int} (h0 : x0 = 1) : 0 ≤ x0 := by omega
theorem la_binary__32 {x0 : Int} (h0 : 0 ≤ x0) (h1 : ¬ x0 = 0) : 0 < x0 := by omega
theorem la_binary__33 {x0 x1 x2 x3 : Int} (h0 : x0 = 0 ∧ (6 ≤ x1 ∨ 6 ≤ x2) → 0 ≤ x3 ∧ x3 ≤ 180) (h1 : x0 = 0) (h2 : 6 ≤ x1 ∨ 6 ≤ x2) : 0 ≤ x3 ∧ x3 ≤ 200 := by omega
theorem la_binary__34 {x0 x1 : Int} (h0 : 31 ≤ x0) (h1 : x0 ≤ x1) : 31 ≤ x1 := by omega
theorem la_binary__35 {x0 x1 x2 : Int} (h0 : x0 ≤ x1) (h1 : x1 ≤ x2) : x0 ≤ x2 := by omega
theorem la_binary__36 {x0 : Int} (h0 : x0 = 6) : 0 ≤ x0 := by omega
theorem la_binary__37 {x0 : Int} (h0 : x0 = 6) : x0 ≤ 7 := by omega
theorem la_binary__38 {x0 x1 x2 x3 : Int} (h0 : 0 ≤ x0) (h1 : x0 < x1) (h2 : x2 = x0) : x3 = 6 → 0 ≤ x2 ∧ x2 < x1 := by omega
theorem la_binary__39 {x0 x1 x2 x3 : Int} (h0 : x0 = 6) : x0 = 7 → 0 ≤ x1 ∧ x1 < x2 ∧ ¬ x3 = 3 := by omega
theorem la_binary__40 {x0 x1 x2 : Int} (h0 : x0 = 1) (h1 : 1 ≤ x1) : x0 = 1 ∨ x1 = 0 ∧ x2 = 0 ∧ (x0 = 2 ∨ x0 = 3) := by omega
theorem la_binary__41 {x0 : Int} (h0 : ¬ ¬ x0 = 20) : 19 ≤ x0 := by omega
theorem la_binary__42 {x0 : Int} (h0 : 19 ≤ x0) (h1 : ¬ x0 = 19) : 19 < x0 := by omega
theorem la_binary__43 {x0 x1 x2 : Int} (h0 : x0 = x1) (h1 : x0 = x2) : x1 = x2 := by omega
set_option maxHeartbeats 2000000 in
theorem f_binary_ : ∀ (p1 : Int) (S : sv_S), sm_ok S → sv_R p1 → ((S 1075 0) = 0 ∧ (S 1073 0) = 1 ∧ sm_LX (S 58) (S 63) (S 64) (S 1092 0) (S 1076 0) ∧ sm_PL (S 1100020) (S 51) (S 52) (S 46) (S 47) (S 1076 0) (S 1086 0) ∧ sm_FR (S 1100020) (S 52) (S 1100021) (S 1100022) (3000 - (S 1084 0)) (S 1085 0) ∧ sm_PV (S 1100020) (S 48) (S 49) (S 50) (S 44) (S 1076 0) (S 1007 0) ∧ sm_AL (S 1100020) (S 48) (S 49) (S 50) (S 44) (S 1076 0) (S 1100032 0) ∧ sm_SV (S 1100020) (S 48) (S 1100029) (S 32) (S 33) (S 1076 0) (S 1032 0) ∧ 0 ≤ (S 1076 0) ∧ (S 1076 0) ≤ 300 ∧ 0 ≤ (S 1084 0) ∧ (S 1084 0) ≤ 3000 ∧ 0 ≤ (S 1086 0) ∧ sm_SC (S 1100029) (S 44) (S 45) (S 43) (S 21) (S 1076 0) (S 1032 0) ∧ sm_PO (S 42) (S 1076 0) ∧ (S 1100032 0) = -1 ∧ sm_FO (S 44) (S 45) (S 1076 0) ∧ 23 ≤ (S 1076 0) ∧ 31 ≤ (S 1007 0) ∧ (S 1007 0) ≤ 400 ∧ sm_LN (S 4) 400 (S 1007 0) ∧ sm_CT (S 26) (S 27) (S 28) (S 29) (S 1100007) (S 1100023) (S 1100024) (S 1100025) (S 21) (S 1046 0) (S 1032 0) (S 1008 0) (S 1055 0) ∧ sm_LS (S 26) (S 1100007) (S 1100025) (S 1046 0) ∧ sm_CL (S 1100007) (S 1100023) (S 1100025) (S 1046 0) ∧ 1 ≤ (S 1032 0) ∧ (S 1032 0) ≤ 11 ∧ 0 ≤ (S 1046 0) ∧ (S 1046 0) ≤ 600 ∧ 31 ≤ (S 1008 0) ∧ (S 1008 0) ≤ (S 1007 0) ∧ 0 ≤ (S 1055 0) ∧ (S 1055 0) ≤ 19 ∧ 1 ≤ (S 1092 0) ∧ (S 1092 0) ≤ 24 ∧ 0 ≤ (S 1100033 0) ∧ (S 1100033 0) < (S 1046 0) ∧ (S 29 (S 1100033 0)) = (S 53 ((S 1092 0) - 1)) ∧ 0 ≤ (S 53 ((S 1092 0) - 1)) ∧ (S 53 ((S 1092 0) - 1)) < (S 1032 0) ∧ (S 60 ((S 1092 0) - 1)) = sm_dp (S 1100024) (S 1100023 (S 1100033 0)) ∧ sm_TC (S 61) (S 62) (S 27) (S 1100007) (S 1100023) (S 1100024) (40 * ((S 1092 0) - 1)) (S 1100023 (S 1100033 0)) ∧ sm_LK (S 1100029) (S 1076 0) (S 54 ((S 1092 0) - 1)) (S 53 ((S 1092 0) - 1)) ∧ sm_VO (S 44) (S 1076 0) (S 1007 0) ((S 55 ((S 1092 0) - 1))) ((S 56 ((S 1092 0) - 1))) ∧ sm_FW (S 44) (S 1076 0) (S 59 ((S 1092 0) - 1)) ∧ sm_FL (S 53) (S 54) (S 55) (S 56) (S 57) (S 58) (S 59) (S 60) (S 61) (S 62) (S 63) (S 64) (S 27) (S 29) (S 1100007) (S 1100023) (S 1100024) (S 1100025) (S 26) (S 1100029) (S 44) (S 1046 0) (S 1032 0) (S 1076 0) (S 1007 0) (((S 1092 0) - 1)) ∧ (S 57 ((S 1092 0) - 1)) = (S 1100033 0) ∧ 0 ≤ (S 58 ((S 1092 0) - 1)) ∧ (S 58 ((S 1092 0) - 1)) ≤ 400 ∧ sm_SK (S 63) (S 64) (S 44) (S 1100007) (S 1100025) (S 1076 0) (S 1007 0) (400 * ((S 1092 0) - 1)) ((S 58 ((S 1092 0) - 1))) ((S 1100034 0)) ∧ -1 ≤ (S 1100034 0) ∧ (S 1100034 0) < (S 1046 0) ∧ (0 ≤ (S 1100034 0) → (S 26 (S 1100034 0)) = 29) ∧ (S 58 ((S 1092 0) - 1)) = (S 1100007 (S 1100033 0)) ∧ (S 1100034 0) = (S 1100025 (S 1100033 0)) ∧ (0 ≤ (S 1100023 (S 1100033 0)) → (S 1100007 (S 1100023 (S 1100033 0))) ≤ (S 58 ((S 1092 0) - 1))) ∧ (S 58 ((S 1092 0) - 1)) ≤ 396 ∧ 2 ≤ (S 58 ((S 1092 0) - 1)) ∧ (0 ≤ (S 1100034 0) → (S 1100007 (S 1100034 0)) ≤ (S 58 ((S 1092 0) - 1)) - 2) ∧ (S 1100033 0) + 1 < (S 1046 0) ∧ (S 29 ((S 1100033 0) + 1)) = (S 29 (S 1100033 0)) ∧ (S 1100007 ((S 1100033 0) + 1)) = (S 58 ((S 1092 0) - 1)) + (-1) ∧ (S 1100023 ((S 1100033 0) + 1)) = (S 1100023 (S 1100033 0)) ∧ (S 1100025 ((S 1100033 0) + 1)) = (S 1100034 0) ∧ 0 ≤ p1 ∧ p1 ≤ 20) → ((sm_SK (S 63) (S 64) (S 44) (S 1100007) (S 1100025) (S 1076 0) (S 1007 0) (400 * ((S 1092 0) - 1)) ((S 58 ((S 1092 0) - 1))) ((S 1100034 0)) → sm_LS (S 26) (S 1100007) (S 1100025) (S 1046 0) → 0 ≤ (S 58 ((S 1092 0) - 1)) - 1 → (S 58 ((S 1092 0) - 1)) - 1 < (S 58 ((S 1092 0) - 1)) → (S 1100034 0) < (S 1046 0) → (0 ≤ (S 1100034 0) → (S 26 (S 1100034 0)) = 29) → (0 ≤ (S 1100034 0) → (S 1100007 (S 1100034 0)) ≤ (S 58 ((S 1092 0) - 1)) - 2) → sm_VO (S 44) (S 1076 0) (S 1007 0) ((S 63 (400 * ((S 1092 0) - 1) + ((S 58 ((S 1092 0) - 1)) - 1)))) ((S 64 (400 * ((S 1092 0) - 1) + ((S 58 ((S 1092 0) - 1)) - 1))))) → ((sm_SK (S 63) (S 64) (S 44) (S 1100007) (S 1100025) (S 1076 0) (S 1007 0) (400 * ((S 1092 0) - 1)) ((S 58 ((S 1092 0) - 1))) ((S 1100034 0)) → sm_LS (S 26) (S 1100007) (S 1100025) (S 1046 0) → 0 ≤ (S 58 ((S 1092 0) - 1)) - 2 → (S 58 ((S 1092 0) - 1)) - 2 < (S 58 ((S 1092 0) - 1)) → (S 1100034 0) < (S 1046 0) → (0 ≤ (S 1100034 0) → (S 26 (S 1100034 0)) = 29) → (0 ≤ (S 1100034 0) → (S 1100007 (S 1100034 0)) ≤ (S 58 ((S 1092 0) - 1)) - 2) → sm_VO (S 44) (S 1076 0) (S 1007 0) ((S 63 (400 * ((S 1092 0) - 1) + ((S 58 ((S 1092 0) - 1)) - 2)))) ((S 64 (400 * ((S 1092 0) - 1) + ((S 58 ((S 1092 0) - 1)) - 2))))) → (1 ≤ (S 1092 0) ∧ (S 1092 0) ≤ 24 ∧ 0 ≤ (S 58 ((S 1092 0) - 1)) ∧ (S 58 ((S 1092 0) - 1)) ≤ 400 ∧ 0 ≤ (1 : Int) ∧ (1 : Int) < (S 58 ((S 1092 0) - 1))) ∧ (∀ x4 : Int, ((S 63 ((400 * ((S 1092 0) - 1) + (S 58 ((S 1092 0) - 1))) - 1 - (1 : Int)))) = x4 → (∀ x6 : Int, ((S 64 ((400 * ((S 1092 0) - 1) + (S 58 ((S 1092 0) - 1))) - 1 - (1 : Int)))) = x6 → (1 ≤ (S 1092 0) ∧ (S 1092 0) ≤ 24 ∧ 0 ≤ (S 58 ((S 1092 0) - 1)) ∧ (S 58 ((S 1092 0) - 1)) ≤ 400 ∧ 0 ≤ (0 : Int) ∧ (0 : Int) < (S 58 ((S 1092 0) - 1))) ∧ (∀ x9 : Int, ((S 63 ((400 * ((S 1092 0) - 1) + (S 58 ((S 1092 0) - 1))) - 1 - (0 : Int)))) = x9 → (∀ x11 : Int, ((S 64 ((400 * ((S 1092 0) - 1) + (S 58 ((S 1092 0) - 1))) - 1 - (0 : Int)))) = x11 → (((¬ p1 = (19 : Int)) → (((¬ p1 = (20 : Int)) → (31 ≤ (S 1007 0) ∧ (S 1007 0) ≤ 400 ∧ sm_LN (S 4) 400 (S 1007 0) ∧ 0 ≤ p1 ∧ p1 ≤ 18 ∧ (x4 = 6 → 0 ≤ x6 ∧ x6 < 400) ∧ (x9 = 6 → 0 ≤ x11 ∧ x11 < 400)) ∧ (∀ g14 : sv_S, ((p1 = 0 ∧ (6 ≤ x4 ∨ 6 ≤ x9) → 0 ≤ (g14 1011 0) ∧ (g14 1011 0) ≤ 180) ∧ (¬ (p1 = 0 ∧ (6 ≤ x4 ∨ 6 ≤ x9)) → 2 ≤ (g14 1111 0) ∧ (g14 1111 0) ≤ 5)) → (∀ r23 : Int, sv_R r23 → ((r23 = 0 ∨ r23 = 1) ∧ (r23 = 1 → p1 = 0 ∧ (6 ≤ x4 ∨ 6 ≤ x9)) ∧ (r23 = 0 → ¬ (p1 = 0 ∧ (6 ≤ x4 ∨ 6 ≤ x9)))) → (((r23 = (0 : Int)) → (((S 1075 0) = 0 → (S 1073 0) = 1 → sm_PL (S 1100020) (S 51) (S 52) (S 46) (S 47) (S 1076 0) (S 1086 0) ∧ sm_FR (S 1100020) (S 52) (S 1100021) (S 1100022) (3000 - (S 1084 0)) (S 1085 0) ∧ sm_PV (S 1100020) (S 48) (S 49) (S 50) (S 44) (S 1076 0) (S 1007 0) ∧ sm_AL (S 1100020) (S 48) (S 49) (S 50) (S 44) (S 1076 0) (S 1100032 0) ∧ sm_SV (S 1100020) (S 48) (S 1100029) (S 32) (S 33) (S 1076 0) (S 1032 0) ∧ 0 ≤ (S 1076 0) ∧ (S 1076 0) ≤ 300 ∧ 0 ≤ (S 1084 0) ∧ (S 1084 0) ≤ 3000 ∧ 0 ≤ (S 1086 0) ∧ sm_SC (S 1100029) (S 44) (S 45) (S 43) (S 21) (S 1076 0) (S 1032 0) ∧ sm_PO (S 42) (S 1076 0) ∧ (S 1100032 0) = -1 ∧ sm_FO (S 44) (S 45) (S 1076 0) ∧ 23 ≤ (S 1076 0) ∧ 31 ≤ (S 1007 0) ∧ (S 1007 0) ≤ 400 ∧ sm_LN (S 4) 400 (S 1007 0) ∧ sm_CT (S 26) (S 27) (S 28) (S 29) (S 1100007) (S 1100023) (S 1100024) (S 1100025) (S 21) (S 1046 0) (S 1032 0) (S 1008 0) (S 1055 0) ∧ sm_LS (S 26) (S 1100007) (S 1100025) (S 1046 0) ∧ sm_CL (S 1100007) (S 1100023) (S 1100025) (S 1046 0) ∧ 1 ≤ (S 1032 0) ∧ (S 1032 0) ≤ 11 ∧ 0 ≤ (S 1046 0) ∧ (S 1046 0) ≤ 600 ∧ 31 ≤ (S 1008 0) ∧ (S 1008 0) ≤ (S 1007 0) ∧ 0 ≤ (S 1055 0) ∧ (S 1055 0) ≤ 19 ∧ 1 ≤ (S 1092 0) ∧ (S 1092 0) ≤ 24 ∧ 0 ≤ (S 1100033 0) ∧ (S 1100033 0) < (S 1046 0) ∧ (S 29 (S 1100033 0)) = (S 53 ((S 1092 0) - 1)) ∧ 0 ≤ (S 53 ((S 1092 0) - 1)) ∧ (S 53 ((S 1092 0) - 1)) < (S 1032 0) ∧ (S 60 ((S 1092 0) - 1)) = sm_dp (S 1100024) (S 1100023 (S 1100033 0)) ∧ sm_TC (S 61) (S 62) (S 27) (S 1100007) (S 1100023) (S 1100024) (40 * ((S 1092 0) - 1)) (S 1100023 (S 1100033 0)) ∧ sm_LK (S 1100029) (S 1076 0) (S 54 ((S 1092 0) - 1)) (S 53 ((S 1092 0) - 1)) ∧ sm_VO (S 44) (S 1076 0) (S 1007 0) ((S 55 ((S 1092 0) - 1))) ((S 56 ((S 1092 0) - 1))) ∧ sm_FW (S 44) (S 1076 0) (S 59 ((S 1092 0) - 1)) ∧ sm_FL (S 53) (S 54) (S 55) (S 56) (S 57) (S 58) (S 59) (S 60) (S 61) (S 62) (S 63) (S 64) (S 27) (S 29) (S 1100007) (S 1100023) (S 1100024) (S 1100025) (S 26) (S 1100029) (S 44) (S 1046 0) (S 1032 0) (S 1076 0) (S 1007 0) (((S 1092 0) - 1)) ∧ (S 57 ((S 1092 0) - 1)) = (S 1100033 0) ∧ 0 ≤ (S 58 ((S 1092 0) - 1)) ∧ (S 58 ((S 1092 0) - 1)) ≤ 400 ∧ sm_SK (S 63) (S 64) (S 44) (S 1100007) (S 1100025) (S 1076 0) (S 1007 0) (400 * ((S 1092 0) - 1)) ((S 58 ((S 1092 0) - 1))) ((S 1100034 0)) ∧ -1 ≤ (S 1100034 0) ∧ (S 1100034 0) < (S 1046 0) ∧ (0 ≤ (S 1100034 0) → (S 26 (S 1100034 0)) = 29) ∧ 0 ≤ (2 : Int) ∧ (2 : Int) ≤ (S 58 ((S 1092 0) - 1)) ∧ (S 58 ((S 1092 0) - 1)) - (2 : Int) ≤ 399 ∧ sm_VO (S 44) (S 1076 0) (S 1007 0) ((g14 1111 0)) ((g14 1112 0)) ∧ (0 ≤ (S 1100034 0) → (S 1100007 (S 1100034 0)) ≤ (S 58 ((S 1092 0) - 1)) - (2 : Int)) ∧ (S 1100033 0) + 1 < (S 1046 0) ∧ (S 29 ((S 1100033 0) + 1)) = (S 29 (S 1100033 0)) ∧ (S 1100007 ((S 1100033 0) + 1)) = (S 58 ((S 1092 0) - 1)) - (2 : Int) + 1 ∧ (S 1100023 ((S 1100033 0) + 1)) = (S 1100023 (S 1100033 0)) ∧ (S 1100025 ((S 1100033 0) + 1)) = (S 1100034 0)) ∧ (¬ (S 1075 0) = 0 → sm_LX (S 58) (S 63) (S 64) (S 1092 0) (S 1076 0))) ∧ (∀ g25 : sv_S, (((S 1075 0) = 0 → (S 1073 0) = 1 → 1 ≤ (S 1092 0) ∧ (S 1092 0) ≤ 24 ∧ 0 ≤ (g25 57 ((S 1092 0) - 1)) ∧ (g25 57 ((S 1092 0) - 1)) < (S 1046 0) ∧ (S 29 (g25 57 ((S 1092 0) - 1))) = (S 53 ((S 1092 0) - 1)) ∧ 0 ≤ (S 53 ((S 1092 0) - 1)) ∧ (S 53 ((S 1092 0) - 1)) < (S 1032 0) ∧ (S 60 ((S 1092 0) - 1)) = sm_dp (S 1100024) (S 1100023 (g25 57 ((S 1092 0) - 1))) ∧ sm_TC (S 61) (S 62) (S 27) (S 1100007) (S 1100023) (S 1100024) (40 * ((S 1092 0) - 1)) (S 1100023 (g25 57 ((S 1092 0) - 1))) ∧ sm_LK (S 1100029) (S 1076 0) (S 54 ((S 1092 0) - 1)) (S 53 ((S 1092 0) - 1)) ∧ sm_VO (S 44) (S 1076 0) (S 1007 0) ((S 55 ((S 1092 0) - 1))) ((S 56 ((S 1092 0) - 1))) ∧ sm_FW (S 44) (S 1076 0) (S 59 ((S 1092 0) - 1)) ∧ sm_FL (S 53) (S 54) (S 55) (S 56) (g25 57) (g25 58) (S 59) (S 60) (S 61) (S 62) (g25 63) (g25 64) (S 27) (S 29) (S 1100007) (S 1100023) (S 1100024) (S 1100025) (S 26) (S 1100029) (S 44) (S 1046 0) (S 1032 0) (S 1076 0) (S 1007 0) (((S 1092 0) - 1)) ∧ (g25 58 ((S 1092 0) - 1)) = (S 1100007 (g25 57 ((S 1092 0) - 1))) ∧ sm_SK (g25 63) (g25 64) (S 44) (S 1100007) (S 1100025) (S 1076 0) (S 1007 0) (400 * ((S 1092 0) - 1)) ((g25 58 ((S 1092 0) - 1))) ((S 1100025 (g25 57 ((S 1092 0) - 1))))) ∧ (¬ (S 1075 0) = 0 → sm_LX (g25 58) (g25 63) (g25 64) (S 1092 0) (S 1076 0))) → (sm_PL (S 1100020) (S 51) (S 52) (S 46) (S 47) (S 1076 0) (S 1086 0) ∧ sm_FR (S 1100020) (S 52) (S 1100021) (S 1100022) (3000 - (S 1084 0)) (S 1085 0) ∧ sm_PV (S 1100020) (S 48) (S 49) (S 50) (S 44) (S 1076 0) (S 1007 0) ∧ sm_AL (S 1100020) (S 48) (S 49) (S 50) (S 44) (S 1076 0) (S 1100032 0) ∧ sm_SV (S 1100020) (S 48) (S 1100029) (S 32) (S 33) (S 1076 0) (S 1032 0) ∧ 0 ≤ (S 1076 0) ∧ (S 1076 0) ≤ 300 ∧ 0 ≤ (S 1084 0) ∧ (S 1084 0) ≤ 3000 ∧ 0 ≤ (S 1086 0) ∧ sm_SC (S 1100029) (S 44) (S 45) (S 43) (S 21) (S 1076 0) (S 1032 0) ∧ sm_PO (S 42) (S 1076 0) ∧ ((S 1075 0) = 0 → (S 1100032 0) = -1 ∧ sm_FO (S 44) (S 45) (S 1076 0)) ∧ 23 ≤ (S 1076 0) ∧ 31 ≤ (S 1007 0) ∧ (S 1007 0) ≤ 400 ∧ sm_LN (S 4) 400 (S 1007 0) ∧ (S 1008 0) ≤ (S 1007 0) ∧ ((S 1075 0) = 1 → (S 1075 0) = 1) ∧ 0 ≤ (S 1092 0) ∧ (S 1092 0) ≤ 24 ∧ (S 1007 0) ≤ (S 1007 0) ∧ (¬ (S 1075 0) = 0 → sm_LX (g25 58) (g25 63) (g25 64) (S 1092 0) (S 1076 0)) ∧ ((S 1075 0) = 0 → (S 1073 0) = 1 → 1 ≤ (S 1092 0) ∧ (S 1092 0) ≤ 24 ∧ 0 ≤ (g25 57 ((S 1092 0) - 1)) ∧ (g25 57 ((S 1092 0) - 1)) < (S 1046 0) ∧ (S 29 (g25 57 ((S 1092 0) - 1))) = (S 53 ((S 1092 0) - 1)) ∧ 0 ≤ (S 53 ((S 1092 0) - 1)) ∧ (S 53 ((S 1092 0) - 1)) < (S 1032 0) ∧ (S 60 ((S 1092 0) - 1)) = sm_dp (S 1100024) (S 1100023 (g25 57 ((S 1092 0) - 1))) ∧ sm_TC (S 61) (S 62) (S 27) (S 1100007) (S 1100023) (S 1100024) (40 * ((S 1092 0) - 1)) (S 1100023 (g25 57 ((S 1092 0) - 1))) ∧ sm_LK (S 1100029) (S 1076 0) (S 54 ((S 1092 0) - 1)) (S 53 ((S 1092 0) - 1)) ∧ sm_VO (S 44) (S 1076 0) (S 1007 0) ((S 55 ((S 1092 0) - 1))) ((S 56 ((S 1092 0) - 1))) ∧ sm_FW (S 44) (S 1076 0) (S 59 ((S 1092 0) - 1)) ∧ sm_FL (S 53) (S 54) (S 55) (S 56) (g25 57) (g25 58) (S 59) (S 60) (S 61) (S 62) (g25 63) (g25 64) (S 27) (S 29) (S 1100007) (S 1100023) (S 1100024) (S 1100025) (S 26) (S 1100029) (S 44) (S 1046 0) (S 1032 0) (S 1076 0) (S 1007 0) (((S 1092 0) - 1)) ∧ (g25 58 ((S 1092 0) - 1)) = (S 1100007 (g25 57 ((S 1092 0) - 1))) ∧ sm_SK (g25 63) (g25 64) (S 44) (S 1100007) (S 1100025) (S 1076 0) (S 1007 0) (400 * ((S 1092 0) - 1)) ((g25 58 ((S 1092 0) - 1))) ((S 1100025 (g25 57 ((S 1092 0) - 1))))) ∧ ((S 1073 0) = 1 ∨ (S 1092 0) = 0 ∧ (S 1075 0) = 0 ∧ ((S 1073 0) = 2 ∨ (S 1073 0) = 3))))) ∧ ((¬ (r23 = (0 : Int))) → (31 ≤ (S 1007 0) ∧ (S 1007 0) ≤ 400 ∧ sm_LN (S 4) 400 (S 1007 0) ∧ 0 ≤ (g14 1011 0) ∧ (g14 1011 0) ≤ 200) ∧ (∀ r35 : Int, sv_R r35 → ∀ g31 : sv_S, (0 ≤ r35 ∧ r35 < (g31 1007 0) ∧ ((g31 1075 0) = 0 → (g31 4 r35) = (g31 1011 0)) ∧ (g31 1011 0) ≤ (g14 1011 0) ∧ (S 1007 0) ≤ (g31 1007 0) ∧ (g31 1007 0) ≤ 400 ∧ sm_LN (g31 4) 400 (g31 1007 0) ∧ ((S 1075 0) = 1 → (g31 1075 0) = 1)) → (∀ g37 : sv_S, ((g37 1111 0) = (6 : Int) ∧ (g37 1112 0) = r35) → (((g31 1075 0) = 0 → (S 1073 0) = 1 → sm_PL (S 1100020) (S 51) (S 52) (S 46) (S 47) (S 1076 0) (S 1086 0) ∧ sm_FR (S 1100020) (S 52) (S 1100021) (S 1100022) (3000 - (S 1084 0)) (S 1085 0) ∧ sm_PV (S 1100020) (S 48) (S 49) (S 50) (S 44) (S 1076 0) (g31 1007 0) ∧ sm_AL (S 1100020) (S 48) (S 49) (S 50) (S 44) (S 1076 0) (S 1100032 0) ∧ sm_SV (S 1100020) (S 48) (S 1100029) (S 32) (S 33) (S 1076 0) (S 1032 0) ∧ 0 ≤ (S 1076 0) ∧ (S 1076 0) ≤ 300 ∧ 0 ≤ (S 1084 0) ∧ (S 1084 0) ≤ 3000 ∧ 0 ≤ (S 1086 0) ∧ sm_SC (S 1100029) (S 44) (S 45) (S 43) (S 21) (S 1076 0) (S 1032 0) ∧ sm_PO (S 42) (S 1076 0) ∧ (S 1100032 0) = -1 ∧ sm_FO (S 44) (S 45) (S 1076 0) ∧ 23 ≤ (S 1076 0) ∧ 31 ≤ (g31 1007 0) ∧ (g31 1007 0) ≤ 400 ∧ sm_LN (g31 4) 400 (g31 1007 0) ∧ sm_CT (S 26) (S 27) (S 28) (S 29) (S 1100007) (S 1100023) (S 1100024) (S 1100025) (S 21) (S 1046 0) (S 1032 0) (S 1008 0) (S 1055 0) ∧ sm_LS (S 26) (S 1100007) (S 1100025) (S 1046 0) ∧ sm_CL (S 1100007) (S 1100023) (S 1100025) (S 1046 0) ∧ 1 ≤ (S 1032 0) ∧ (S 1032 0) ≤ 11 ∧ 0 ≤ (S 1046 0) ∧ (S 1046 0) ≤ 600 ∧ 31 ≤ (S 1008 0) ∧ (S 1008 0) ≤ (g31 1007 0) ∧ 0 ≤ (S 1055 0) ∧ (S 1055 0) ≤ 19 ∧ 1 ≤ (S 1092 0) ∧ (S 1092 0) ≤ 24 ∧ 0 ≤ (S 1100033 0) ∧ (S 1100033 0) < (S 1046 0) ∧ (S 29 (S 1100033 0)) = (S 53 ((S 1092 0) - 1)) ∧ 0 ≤ (S 53 ((S 1092 0) - 1)) ∧ (S 53 ((S 1092 0) - 1)) < (S 1032 0) ∧ (S 60 ((S 1092 0) - 1)) = sm_dp (S 1100024) (S 1100023 (S 1100033 0)) ∧ sm_TC (S 61) (S 62) (S 27) (S 1100007) (S 1100023) (S 1100024) (40 * ((S 1092 0) - 1)) (S 1100023 (S 1100033 0)) ∧ sm_LK (S 1100029) (S 1076 0) (S 54 ((S 1092 0) - 1)) (S 53 ((S 1092 0) - 1)) ∧ sm_VO (S 44) (S 1076 0) (g31 1007 0) ((S 55 ((S 1092 0) - 1))) ((S 56 ((S 1092 0) - 1))) ∧ sm_FW (S 44) (S 1076 0) (S 59 ((S 1092 0) - 1)) ∧ sm_FL (S 53) (S 54) (S 55) (S 56) (S 57) (S 58) (S 59) (S 60) (S 61) (S 62) (S 63) (S 64) (S 27) (S 29) (S 1100007) (S 1100023) (S 1100024) (S 1100025) (S 26) (S 1100029) (S 44) (S 1046 0) (S 1032 0) (S 1076 0) (g31 1007 0) (((S 1092 0) - 1)) ∧ (S 57 ((S 1092 0) - 1)) = (S 1100033 0) ∧ 0 ≤ (S 58 ((S 1092 0) - 1)) ∧ (S 58 ((S 1092 0) - 1)) ≤ 400 ∧ sm_SK (S 63) (S 64) (S 44) (S 1100007) (S 1100025) (S 1076 0) (g31 1007 0) (400 * ((S 1092 0) - 1)) ((S 58 ((S 1092 0) - 1))) ((S 1100034 0)) ∧ -1 ≤ (S 1100034 0) ∧ (S 1100034 0) < (S 1046 0) ∧ (0 ≤ (S 1100034 0) → (S 26 (S 1100034 0)) = 29) ∧ 0 ≤ (2 : Int) ∧ (2 : Int) ≤ (S 58 ((S 1092 0) - 1)) ∧ (S 58 ((S 1092 0) - 1)) - (2 : Int) ≤ 399 ∧ sm_VO (S 44) (S 1076 0) (g31 1007 0) ((g37 1111 0)) ((g37 1112 0)) ∧ (0 ≤ (S 1100034 0) → (S 1100007 (S 1100034 0)) ≤ (S 58 ((S 1092 0) - 1)) - (2 : Int)) ∧ (S 1100033 0) + 1 < (S 1046 0) ∧ (S 29 ((S 1100033 0) + 1)) = (S 29 (S 1100033 0)) ∧ (S 1100007 ((S 1100033 0) + 1)) = (S 58 ((S 1092 0) - 1)) - (2 : Int) + 1 ∧ (S 1100023 ((S 1100033 0) + 1)) = (S 1100023 (S 1100033 0)) ∧ (S 1100025 ((S 1100033 0) + 1)) = (S 1100034 0)) ∧ (¬ (g31 1075 0) = 0 → sm_LX (S 58) (S 63) (S 64) (S 1092 0) (S 1076 0))) ∧ (∀ g43 : sv_S, (((g31 1075 0) = 0 → (S 1073 0) = 1 → 1 ≤ (S 1092 0) ∧ (S 1092 0) ≤ 24 ∧ 0 ≤ (g43 57 ((S 1092 0) - 1)) ∧ (g43 57 ((S 1092 0) - 1)) < (S 1046 0) ∧ (S 29 (g43 57 ((S 1092 0) - 1))) = (S 53 ((S 1092 0) - 1)) ∧ 0 ≤ (S 53 ((S 1092 0) - 1)) ∧ (S 53 ((S 1092 0) - 1)) < (S 1032 0) ∧ (S 60 ((S 1092 0) - 1)) = sm_dp (S 1100024) (S 1100023 (g43 57 ((S 1092 0) - 1))) ∧ sm_TC (S 61) (S 62) (S 27) (S 1100007) (S 1100023) (S 1100024) (40 * ((S 1092 0) - 1)) (S 1100023 (g43 57 ((S 1092 0) - 1))) ∧ sm_LK (S 1100029) (S 1076 0) (S 54 ((S 1092 0) - 1)) (S 53 ((S 1092 0) - 1)) ∧ sm_VO (S 44) (S 1076 0) (g31 1007 0) ((S 55 ((S 1092 0) - 1))) ((S 56 ((S 1092 0) - 1))) ∧ sm_FW (S 44) (S 1076 0) (S 59 ((S 1092 0) - 1)) ∧ sm_FL (S 53) (S 54) (S 55) (S 56) (g43 57) (g43 58) (S 59) (S 60) (S 61) (S 62) (g43 63) (g43 64) (S 27) (S 29) (S 1100007) (S 1100023) (S 1100024) (S 1100025) (S 26) (S 1100029) (S 44) (S 1046 0) (S 1032 0) (S 1076 0) (g31 1007 0) (((S 1092 0) - 1)) ∧ (g43 58 ((S 1092 0) - 1)) = (S 1100007 (g43 57 ((S 1092 0) - 1))) ∧ sm_SK (g43 63) (g43 64) (S 44) (S 1100007) (S 1100025) (S 1076 0) (g31 1007 0) (400 * ((S 1092 0) - 1)) ((g43 58 ((S 1092 0) - 1))) ((S 1100025 (g43 57 ((S 1092 0) - 1))))) ∧ (¬ (g31 1075 0) = 0 → sm_LX (g43 58) (g43 63) (g43 64) (S 1092 0) (S 1076 0))) → (sm_PL (S 1100020) (S 51) (S 52) (S 46) (S 47) (S 1076 0) (S 1086 0) ∧ sm_FR (S 1100020) (S 52) (S 1100021) (S 1100022) (3000 - (S 1084 0)) (S 1085 0) ∧ sm_PV (S 1100020) (S 48) (S 49) (S 50) (S 44) (S 1076 0) (g31 1007 0) ∧ sm_AL (S 1100020) (S 48) (S 49) (S 50) (S 44) (S 1076 0) (S 1100032 0) ∧ sm_SV (S 1100020) (S 48) (S 1100029) (S 32) (S 33) (S 1076 0) (S 1032 0) ∧ 0 ≤ (S 1076 0) ∧ (S 1076 0) ≤ 300 ∧ 0 ≤ (S 1084 0) ∧ (S 1084 0) ≤ 3000 ∧ 0 ≤ (S 1086 0) ∧ sm_SC (S 1100029) (S 44) (S 45) (S 43) (S 21) (S 1076 0) (S 1032 0) ∧ sm_PO (S 42) (S 1076 0) ∧ ((g31 1075 0) = 0 → (S 1100032 0) = -1 ∧ sm_FO (S 44) (S 45) (S 1076 0)) ∧ 23 ≤ (S 1076 0) ∧ 31 ≤ (g31 1007 0) ∧ (g31 1007 0) ≤ 400 ∧ sm_LN (g31 4) 400 (g31 1007 0) ∧ (S 1008 0) ≤ (g31 1007 0) ∧ ((S 1075 0) = 1 → (g31 1075 0) = 1) ∧ 0 ≤ (S 1092 0) ∧ (S 1092 0) ≤ 24 ∧ (S 1007 0) ≤ (g31 1007 0) ∧ (¬ (g31 1075 0) = 0 → sm_LX (g43 58) (g43 63) (g43 64) (S 1092 0) (S 1076 0)) ∧ ((g31 1075 0) = 0 → (S 1073 0) = 1 → 1 ≤ (S 1092 0) ∧ (S 1092 0) ≤ 24 ∧ 0 ≤ (g43 57 ((S 1092 0) - 1)) ∧ (g43 57 ((S 1092 0) - 1)) < (S 1046 0) ∧ (S 29 (g43 57 ((S 1092 0) - 1))) = (S 53 ((S 1092 0) - 1)) ∧ 0 ≤ (S 53 ((S 1092 0) - 1)) ∧ (S 53 ((S 1092 0) - 1)) < (S 1032 0) ∧ (S 60 ((S 1092 0) - 1)) = sm_dp (S 1100024) (S 1100023 (g43 57 ((S 1092 0) - 1))) ∧ sm_TC (S 61) (S 62) (S 27) (S 1100007) (S 1100023) (S 1100024) (40 * ((S 1092 0) - 1)) (S 1100023 (g43 57 ((S 1092 0) - 1))) ∧ sm_LK (S 1100029) (S 1076 0) (S 54 ((S 1092 0) - 1)) (S 53 ((S 1092 0) - 1)) ∧ sm_VO (S 44) (S 1076 0) (g31 1007 0) ((S 55 ((S 1092 0) - 1))) ((S 56 ((S 1092 0) - 1))) ∧ sm_FW (S 44) (S 1076 0) (S 59 ((S 1092 0) - 1)) ∧ sm_FL (S 53) (S 54) (S 55) (S 56) (g43 57) (g43 58) (S 59) (S 60) (S 61) (S 62) (g43 63) (g43 64) (S 27) (S 29) (S 1100007) (S 1100023) (S 1100024) (S 1100025) (S 26) (S 1100029) (S 44) (S 1046 0) (S 1032 0) (S 1076 0) (g31 1007 0) (((S 1092 0) - 1)) ∧ (g43 58 ((S 1092 0) - 1)) = (S 1100007 (g43 57 ((S 1092 0) - 1))) ∧ sm_SK (g43 63) (g43 64) (S 44) (S 1100007) (S 1100025) (S 1076 0) (g31 1007 0) (400 * ((S 1092 0) - 1)) ((g43 58 ((S 1092 0) - 1))) ((S 1100025 (g43 57 ((S 1092 0) - 1))))) ∧ ((S 1073 0) = 1 ∨ (S 1092 0) = 0 ∧ (g31 1075 0) = 0 ∧ ((S 1073 0) = 2 ∨ (S 1073 0) = 3))))))))))) ∧ ((¬ (¬ p1 = (20 : Int))) → ((S 1075 0) = 0 ∧ (S 1073 0) = 1 ∧ sm_LX (S 58) (S 63) (S 64) (S 1092 0) (S 1076 0) ∧ sm_PL (S 1100020) (S 51) (S 52) (S 46) (S 47) (S 1076 0) (S 1086 0) ∧ sm_FR (S 1100020) (S 52) (S 1100021) (S 1100022) (3000 - (S 1084 0)) (S 1085 0) ∧ sm_PV (S 1100020) (S 48) (S 49) (S 50) (S 44) (S 1076 0) (S 1007 0) ∧ sm_AL (S 1100020) (S 48) (S 49) (S 50) (S 44) (S 1076 0) (S 1100032 0) ∧ sm_SV (S 1100020) (S 48) (S 1100029) (S 32) (S 33) (S 1076 0) (S 1032 0) ∧ 0 ≤ (S 1076 0) ∧ (S 1076 0) ≤ 300 ∧ 0 ≤ (S 1084 0) ∧ (S 1084 0) ≤ 3000 ∧ 0 ≤ (S 1086 0) ∧ sm_SC (S 1100029) (S 44) (S 45) (S 43) (S 21) (S 1076 0) (S 1032 0) ∧ sm_PO (S 42) (S 1076 0) ∧ (S 1100032 0) = -1 ∧ sm_FO (S 44) (S 45) (S 1076 0) ∧ 23 ≤ (S 1076 0) ∧ 31 ≤ (S 1007 0) ∧ (S 1007 0) ≤ 400 ∧ sm_LN (S 4) 400 (S 1007 0) ∧ sm_CT (S 26) (S 27) (S 28) (S 29) (S 1100007) (S 1100023) (S 1100024) (S 1100025) (S 21) (S 1046 0) (S 1032 0) (S 1008 0) (S 1055 0) ∧ sm_LS (S 26) (S 1100007) (S 1100025) (S 1046 0) ∧ sm_CL (S 1100007) (S 1100023) (S 1100025) (S 1046 0) ∧ 1 ≤ (S 1032 0) ∧ (S 1032 0) ≤ 11 ∧ 0 ≤ (S 1046 0) ∧ (S 1046 0) ≤ 600 ∧ 31 ≤ (S 1008 0) ∧ (S 1008 0) ≤ (S 1007 0) ∧ 0 ≤ (S 1055 0) ∧ (S 1055 0) ≤ 19 ∧ 1 ≤ (S 1092 0) ∧ (S 1092 0) ≤ 24 ∧ 0 ≤ (S 1100033 0) ∧ (S 1100033 0) < (S 1046 0) ∧ (S 29 (S 1100033 0)) = (S 53 ((S 1092 0) - 1)) ∧ 0 ≤ (S 53 ((S 1092 0) - 1)) ∧ (S 53 ((S 1092 0) - 1)) < (S 1032 0) ∧ (S 60 ((S 1092 0) - 1)) = sm_dp (S 1100024) (S 1100023 (S 1100033 0)) ∧ sm_TC (S 61) (S 62) (S 27) (S 1100007) (S 1100023) (S 1100024) (40 * ((S 1092 0) - 1)) (S 1100023 (S 1100033 0)) ∧ sm_LK (S 1100029) (S 1076 0) (S 54 ((S 1092 0) - 1)) (S 53 ((S 1092 0) - 1)) ∧ sm_VO (S 44) (S 1076 0) (S 1007 0) ((S 55 ((S 1092 0) - 1))) ((S 56 ((S 1092 0) - 1))) ∧ sm_FW (S 44) (S 1076 0) (S 59 ((S 1092 0) - 1)) ∧ sm_FL (S 53) (S 54) (S 55) (S 56) (S 57) (S 58) (S 59) (S 60) (S 61) (S 62) (S 63) (S 64) (S 27) (S 29) (S 1100007) (S 1100023) (S 1100024) (S 1100025) (S 26) (S 1100029) (S 44) (S 1046 0) (S 1032 0) (S 1076 0) (S 1007 0) (((S 1092 0) - 1)) ∧ (S 57 ((S 1092 0) - 1)) = (S 1100033 0) ∧ 0 ≤ (S 58 ((S 1092 0) - 1)) ∧ (S 58 ((S 1092 0) - 1)) ≤ 400 ∧ sm_SK (S 63) (S 64) (S 44) (S 1100007) (S 1100025) (S 1076 0) (S 1007 0) (400 * ((S 1092 0) - 1)) ((S 58 ((S 1092 0) - 1))) ((S 1100034 0)) ∧ -1 ≤ (S 1100034 0) ∧ (S 1100034 0) < (S 1046 0) ∧ (0 ≤ (S 1100034 0) → (S 26 (S 1100034 0)) = 29) ∧ (S 58 ((S 1092 0) - 1)) = (S 1100007 (S 1100033 0)) ∧ (S 1100034 0) = (S 1100025 (S 1100033 0)) ∧ (0 ≤ (S 1100023 (S 1100033 0)) → (S 1100007 (S 1100023 (S 1100033 0))) ≤ (S 58 ((S 1092 0) - 1))) ∧ (S 58 ((S 1092 0) - 1)) ≤ 396 ∧ 2 ≤ (S 58 ((S 1092 0) - 1)) ∧ (0 ≤ (S 1100034 0) → (S 1100007 (S 1100034 0)) ≤ (S 58 ((S 1092 0) - 1)) - 2) ∧ (S 1100033 0) + 1 < (S 1046 0) ∧ (S 29 ((S 1100033 0) + 1)) = (S 29 (S 1100033 0)) ∧ (S 1100007 ((S 1100033 0) + 1)) = (S 58 ((S 1092 0) - 1)) + (-1) ∧ (S 1100023 ((S 1100033 0) + 1)) = (S 1100023 (S 1100033 0)) ∧ (S 1100025 ((S 1100033 0) + 1)) = (S 1100034 0) ∧ sm_VO (S 44) (S 1076 0) (S 1007 0) (x4) (x6) ∧ sm_VO (S 44) (S 1076 0) (S 1007 0) (x9) (x11)) ∧ (∀ g49 : sv_S, (sm_PL (S 1100020) (S 51) (S 52) (g49 46) (g49 47) (g49 1076 0) (S 1086 0) ∧ sm_FR (S 1100020) (S 52) (S 1100021) (S 1100022) (3000 - (S 1084 0)) (S 1085 0) ∧ sm_PV (S 1100020) (S 48) (S 49) (S 50) (g49 44) (g49 1076 0) (S 1007 0) ∧ sm_AL (S 1100020) (S 48) (S 49) (S 50) (g49 44) (g49 1076 0) (S 1100032 0) ∧ sm_SV (S 1100020) (S 48) (g49 1100029) (S 32) (S 33) (g49 1076 0) (S 1032 0) ∧ 0 ≤ (g49 1076 0) ∧ (g49 1076 0) ≤ 300 ∧ 0 ≤ (S 1084 0) ∧ (S 1084 0) ≤ 3000 ∧ 0 ≤ (S 1086 0) ∧ sm_SC (g49 1100029) (g49 44) (g49 45) (g49 43) (S 21) (g49 1076 0) (S 1032 0) ∧ sm_PO (g49 42) (g49 1076 0) ∧ ((g49 1075 0) = 0 → (S 1100032 0) = -1 ∧ sm_FO (g49 44) (g49 45) (g49 1076 0)) ∧ 23 ≤ (g49 1076 0) ∧ 31 ≤ (S 1007 0) ∧ (S 1007 0) ≤ 400 ∧ sm_LN (S 4) 400 (S 1007 0) ∧ (S 1008 0) ≤ (S 1007 0) ∧ ((S 1075 0) = 1 → (g49 1075 0) = 1) ∧ 0 ≤ (g49 1092 0) ∧ (g49 1092 0) ≤ 24 ∧ (S 1007 0) ≤ (S 1007 0) ∧ (¬ (g49 1075 0) = 0 → sm_LX (g49 58) (g49 63) (g49 64) (g49 1092 0) (g49 1076 0)) ∧ ((g49 1075 0) = 0 → (g49 1073 0) = 1 → 1 ≤ (g49 1092 0) ∧ (g49 1092 0) ≤ 24 ∧ 0 ≤ (g49 57 ((g49 1092 0) - 1)) ∧ (g49 57 ((g49 1092 0) - 1)) < (S 1046 0) ∧ (S 29 (g49 57 ((g49 1092 0) - 1))) = (S 53 ((g49 1092 0) - 1)) ∧ 0 ≤ (S 53 ((g49 1092 0) - 1)) ∧ (S 53 ((g49 1092 0) - 1)) < (S 1032 0) ∧ (g49 60 ((g49 1092 0) - 1)) = sm_dp (S 1100024) (S 1100023 (g49 57 ((g49 1092 0) - 1))) ∧ sm_TC (S 61) (S 62) (S 27) (S 1100007) (S 1100023) (S 1100024) (40 * ((g49 1092 0) - 1)) (S 1100023 (g49 57 ((g49 1092 0) - 1))) ∧ sm_LK (g49 1100029) (g49 1076 0) (S 54 ((g49 1092 0) - 1)) (S 53 ((g49 1092 0) - 1)) ∧ sm_VO (g49 44) (g49 1076 0) (S 1007 0) ((S 55 ((g49 1092 0) - 1))) ((S 56 ((g49 1092 0) - 1))) ∧ sm_FW (g49 44) (g49 1076 0) (S 59 ((g49 1092 0) - 1)) ∧ sm_FL (S 53) (S 54) (S 55) (S 56) (g49 57) (g49 58) (S 59) (g49 60) (S 61) (S 62) (g49 63) (g49 64) (S 27) (S 29) (S 1100007) (S 1100023) (S 1100024) (S 1100025) (S 26) (g49 1100029) (g49 44) (S 1046 0) (S 1032 0) (g49 1076 0) (S 1007 0) (((g49 1092 0) - 1)) ∧ (g49 58 ((g49 1092 0) - 1)) = (S 1100007 (g49 57 ((g49 1092 0) - 1))) ∧ sm_SK (g49 63) (g49 64) (g49 44) (S 1100007) (S 1100025) (g49 1076 0) (S 1007 0) (400 * ((g49 1092 0) - 1)) ((g49 58 ((g49 1092 0) - 1))) ((S 1100025 (g49 57 ((g49 1092 0) - 1))))) ∧ ((g49 1073 0) = 1 ∨ (g49 1092 0) = 0 ∧ (g49 1075 0) = 0 ∧ ((g49 1073 0) = 2 ∨ (g49 1073 0) = 3))) → (sm_PL (S 1100020) (S 51) (S 52) (g49 46) (g49 47) (g49 1076 0) (S 1086 0) ∧ sm_FR (S 1100020) (S 52) (S 1100021) (S 1100022) (3000 - (S 1084 0)) (S 1085 0) ∧ sm_PV (S 1100020) (S 48) (S 49) (S 50) (g49 44) (g49 1076 0) (S 1007 0) ∧ sm_AL (S 1100020) (S 48) (S 49) (S 50) (g49 44) (g49 1076 0) (S 1100032 0) ∧ sm_SV (S 1100020) (S 48) (g49 1100029) (S 32) (S 33) (g49 1076 0) (S 1032 0) ∧ 0 ≤ (g49 1076 0) ∧ (g49 1076 0) ≤ 300 ∧ 0 ≤ (S 1084 0) ∧ (S 1084 0) ≤ 3000 ∧ 0 ≤ (S 1086 0) ∧ sm_SC (g49 1100029) (g49 44) (g49 45) (g49 43) (S 21) (g49 1076 0) (S 1032 0) ∧ sm_PO (g49 42) (g49 1076 0) ∧ ((g49 1075 0) = 0 → (S 1100032 0) = -1 ∧ sm_FO (g49 44) (g49 45) (g49 1076 0)) ∧ 23 ≤ (g49 1076 0) ∧ 31 ≤ (S 1007 0) ∧ (S 1007 0) ≤ 400 ∧ sm_LN (S 4) 400 (S 1007 0) ∧ (S 1008 0) ≤ (S 1007 0) ∧ ((S 1075 0) = 1 → (g49 1075 0) = 1) ∧ 0 ≤ (g49 1092 0) ∧ (g49 1092 0) ≤ 24 ∧ (S 1007 0) ≤ (S 1007 0) ∧ (¬ (g49 1075 0) = 0 → sm_LX (g49 58) (g49 63) (g49 64) (g49 1092 0) (g49 1076 0)) ∧ ((g49 1075 0) = 0 → (g49 1073 0) = 1 → 1 ≤ (g49 1092 0) ∧ (g49 1092 0) ≤ 24 ∧ 0 ≤ (g49 57 ((g49 1092 0) - 1)) ∧ (g49 57 ((g49 1092 0) - 1)) < (S 1046 0) ∧ (S 29 (g49 57 ((g49 1092 0) - 1))) = (S 53 ((g49 1092 0) - 1)) ∧ 0 ≤ (S 53 ((g49 1092 0) - 1)) ∧ (S 53 ((g49 1092 0) - 1)) < (S 1032 0) ∧ (g49 60 ((g49 1092 0) - 1)) = sm_dp (S 1100024) (S 1100023 (g49 57 ((g49 1092 0) - 1))) ∧ sm_TC (S 61) (S 62) (S 27) (S 1100007) (S 1100023) (S 1100024) (40 * ((g49 1092 0) - 1)) (S 1100023 (g49 57 ((g49 1092 0) - 1))) ∧ sm_LK (g49 1100029) (g49 1076 0) (S 54 ((g49 1092 0) - 1)) (S 53 ((g49 1092 0) - 1)) ∧ sm_VO (g49 44) (g49 1076 0) (S 1007 0) ((S 55 ((g49 1092 0) - 1))) ((S 56 ((g49 1092 0) - 1))) ∧ sm_FW (g49 44) (g49 1076 0) (S 59 ((g49 1092 0) - 1)) ∧ sm_FL (S 53) (S 54) (S 55) (S 56) (g49 57) (g49 58) (S 59) (g49 60) (S 61) (S 62) (g49 63) (g49 64) (S 27) (S 29) (S 1100007) (S 1100023) (S 1100024) (S 1100025) (S 26) (g49 1100029) (g49 44) (S 1046 0) (S 1032 0) (g49 1076 0) (S 1007 0) (((g49 1092 0) - 1)) ∧ (g49 58 ((g49 1092 0) - 1)) = (S 1100007 (g49 57 ((g49 1092 0) - 1))) ∧ sm_SK (g49 63) (g49 64) (g49 44) (S 1100007) (S 1100025) (g49 1076 0) (S 1007 0) (400 * ((g49 1092 0) - 1)) ((g49 58 ((g49 1092 0) - 1))) ((S 1100025 (g49 57 ((g49 1092 0) - 1))))) ∧ ((g49 1073 0) = 1 ∨ (g49 1092 0) = 0 ∧ (g49 1075 0) = 0 ∧ ((g49 1073 0) = 2 ∨ (g49 1073 0) = 3))))))) ∧ ((¬ (¬ p1 = (19 : Int))) → ((S 1075 0) = 0 ∧ (S 1073 0) = 1 ∧ sm_LX (S 58) (S 63) (S 64) (S 1092 0) (S 1076 0) ∧ sm_PL (S 1100020) (S 51) (S 52) (S 46) (S 47) (S 1076 0) (S 1086 0) ∧ sm_FR (S 1100020) (S 52) (S 1100021) (S 1100022) (3000 - (S 1084 0)) (S 1085 0) ∧ sm_PV (S 1100020) (S 48) (S 49) (S 50) (S 44) (S 1076 0) (S 1007 0) ∧ sm_AL (S 1100020) (S 48) (S 49) (S 50) (S 44) (S 1076 0) (S 1100032 0) ∧ sm_SV (S 1100020) (S 48) (S 1100029) (S 32) (S 33) (S 1076 0) (S 1032 0) ∧ 0 ≤ (S 1076 0) ∧ (S 1076 0) ≤ 300 ∧ 0 ≤ (S 1084 0) ∧ (S 1084 0) ≤ 3000 ∧ 0 ≤ (S 1086 0) ∧ sm_SC (S 1100029) (S 44) (S 45) (S 43) (S 21) (S 1076 0) (S 1032 0) ∧ sm_PO (S 42) (S 1076 0) ∧ (S 1100032 0) = -1 ∧ sm_FO (S 44) (S 45) (S 1076 0) ∧ 23 ≤ (S 1076 0) ∧ 31 ≤ (S 1007 0) ∧ (S 1007 0) ≤ 400 ∧ sm_LN (S 4) 400 (S 1007 0) ∧ sm_CT (S 26) (S 27) (S 28) (S 29) (S 1100007) (S 1100023) (S 1100024) (S 1100025) (S 21) (S 1046 0) (S 1032 0) (S 1008 0) (S 1055 0) ∧ sm_LS (S 26) (S 1100007) (S 1100025) (S 1046 0) ∧ sm_CL (S 1100007) (S 1100023) (S 1100025) (S 1046 0) ∧ 1 ≤ (S 1032 0) ∧ (S 1032 0) ≤ 11 ∧ 0 ≤ (S 1046 0) ∧ (S 1046 0) ≤ 600 ∧ 31 ≤ (S 1008 0) ∧ (S 1008 0) ≤ (S 1007 0) ∧ 0 ≤ (S 1055 0) ∧ (S 1055 0) ≤ 19 ∧ 1 ≤ (S 1092 0) ∧ (S 1092 0) ≤ 24 ∧ 0 ≤ (S 1100033 0) ∧ (S 1100033 0) < (S 1046 0) ∧ (S 29 (S 1100033 0)) = (S 53 ((S 1092 0) - 1)) ∧ 0 ≤ (S 53 ((S 1092 0) - 1)) ∧ (S 53 ((S 1092 0) - 1)) < (S 1032 0) ∧ (S 60 ((S 1092 0) - 1)) = sm_dp (S 1100024) (S 1100023 (S 1100033 0)) ∧ sm_TC (S 61) (S 62) (S 27) (S 1100007) (S 1100023) (S 1100024) (40 * ((S 1092 0) - 1)) (S 1100023 (S 1100033 0)) ∧ sm_LK (S 1100029) (S 1076 0) (S 54 ((S 1092 0) - 1)) (S 53 ((S 1092 0) - 1)) ∧ sm_VO (S 44) (S 1076 0) (S 1007 0) ((S 55 ((S 1092 0) - 1))) ((S 56 ((S 1092 0) - 1))) ∧ sm_FW (S 44) (S 1076 0) (S 59 ((S 1092 0) - 1)) ∧ sm_FL (S 53) (S 54) (S 55) (S 56) (S 57) (S 58) (S 59) (S 60) (S 61) (S 62) (S 63) (S 64) (S 27) (S 29) (S 1100007) (S 1100023) (S 1100024) (S 1100025) (S 26) (S 1100029) (S 44) (S 1046 0) (S 1032 0) (S 1076 0) (S 1007 0) (((S 1092 0) - 1)) ∧ (S 57 ((S 1092 0) - 1)) = (S 1100033 0) ∧ 0 ≤ (S 58 ((S 1092 0) - 1)) ∧ (S 58 ((S 1092 0) - 1)) ≤ 400 ∧ sm_SK (S 63) (S 64) (S 44) (S 1100007) (S 1100025) (S 1076 0) (S 1007 0) (400 * ((S 1092 0) - 1)) ((S 58 ((S 1092 0) - 1))) ((S 1100034 0)) ∧ -1 ≤ (S 1100034 0) ∧ (S 1100034 0) < (S 1046 0) ∧ (0 ≤ (S 1100034 0) → (S 26 (S 1100034 0)) = 29) ∧ (S 58 ((S 1092 0) - 1)) = (S 1100007 (S 1100033 0)) ∧ (S 1100034 0) = (S 1100025 (S 1100033 0)) ∧ (0 ≤ (S 1100023 (S 1100033 0)) → (S 1100007 (S 1100023 (S 1100033 0))) ≤ (S 58 ((S 1092 0) - 1))) ∧ (S 58 ((S 1092 0) - 1)) ≤ 396 ∧ 2 ≤ (S 58 ((S 1092 0) - 1)) ∧ (0 ≤ (S 1100034 0) → (S 1100007 (S 1100034 0)) ≤ (S 58 ((S 1092 0) - 1)) - 2) ∧ (S 1100033 0) + 1 < (S 1046 0) ∧ (S 29 ((S 1100033 0) + 1)) = (S 29 (S 1100033 0)) ∧ (S 1100007 ((S 1100033 0) + 1)) = (S 58 ((S 1092 0) - 1)) + (-1) ∧ (S 1100023 ((S 1100033 0) + 1)) = (S 1100023 (S 1100033 0)) ∧ (S 1100025 ((S 1100033 0) + 1)) = (S 1100034 0) ∧ sm_VO (S 44) (S 1076 0) (S 1007 0) (x4) (x6) ∧ sm_VO (S 44) (S 1076 0) (S 1007 0) (x9) (x11)) ∧ (∀ g55 : sv_S, (sm_PL (S 1100020) (S 51) (S 52) (g55 46) (g55 47) (g55 1076 0) (S 1086 0) ∧ sm_FR (S 1100020) (S 52) (S 1100021) (S 1100022) (3000 - (S 1084 0)) (S 1085 0) ∧ sm_PV (S 1100020) (S 48) (S 49) (S 50) (g55 44) (g55 1076 0) (g55 1007 0) ∧ sm_AL (S 1100020) (S 48) (S 49) (S 50) (g55 44) (g55 1076 0) (S 1100032 0) ∧ sm_SV (S 1100020) (S 48) (g55 1100029) (S 32) (S 33) (g55 1076 0) (S 1032 0) ∧ 0 ≤ (g55 1076 0) ∧ (g55 1076 0) ≤ 300 ∧ 0 ≤ (S 1084 0) ∧ (S 1084 0) ≤ 3000 ∧ 0 ≤ (S 1086 0) ∧ sm_SC (g55 1100029) (g55 44) (g55 45) (g55 43) (S 21) (g55 1076 0) (S 1032 0) ∧ sm_PO (g55 42) (g55 1076 0) ∧ ((g55 1075 0) = 0 → (S 1100032 0) = -1 ∧ sm_FO (g55 44) (g55 45) (g55 1076 0)) ∧ 23 ≤ (g55 1076 0) ∧ 31 ≤ (g55 1007 0) ∧ (g55 1007 0) ≤ 400 ∧ sm_LN (g55 4) 400 (g55 1007 0) ∧ (S 1008 0) ≤ (g55 1007 0) ∧ ((S 1075 0) = 1 → (g55 1075 0) = 1) ∧ 0 ≤ (g55 1092 0) ∧ (g55 1092 0) ≤ 24 ∧ (S 1007 0) ≤ (g55 1007 0) ∧ (¬ (g55 1075 0) = 0 → sm_LX (g55 58) (g55 63) (g55 64) (g55 1092 0) (g55 1076 0)) ∧ ((g55 1075 0) = 0 → (g55 1073 0) = 1 → 1 ≤ (g55 1092 0) ∧ (g55 1092 0) ≤ 24 ∧ 0 ≤ (g55 57 ((g55 1092 0) - 1)) ∧ (g55 57 ((g55 1092 0) - 1)) < (S 1046 0) ∧ (S 29 (g55 57 ((g55 1092 0) - 1))) = (S 53 ((g55 1092 0) - 1)) ∧ 0 ≤ (S 53 ((g55 1092 0) - 1)) ∧ (S 53 ((g55 1092 0) - 1)) < (S 1032 0) ∧ (g55 60 ((g55 1092 0) - 1)) = sm_dp (S 1100024) (S 1100023 (g55 57 ((g55 1092 0) - 1))) ∧ sm_TC (S 61) (S 62) (S 27) (S 1100007) (S 1100023) (S 1100024) (40 * ((g55 1092 0) - 1)) (S 1100023 (g55 57 ((g55 1092 0) - 1))) ∧ sm_LK (g55 1100029) (g55 1076 0) (S 54 ((g55 1092 0) - 1)) (S 53 ((g55 1092 0) - 1)) ∧ sm_VO (g55 44) (g55 1076 0) (g55 1007 0) ((S 55 ((g55 1092 0) - 1))) ((S 56 ((g55 1092 0) - 1))) ∧ sm_FW (g55 44) (g55 1076 0) (S 59 ((g55 1092 0) - 1)) ∧ sm_FL (S 53) (S 54) (S 55) (S 56) (g55 57) (g55 58) (S 59) (g55 60) (S 61) (S 62) (g55 63) (g55 64) (S 27) (S 29) (S 1100007) (S 1100023) (S 1100024) (S 1100025) (S 26) (g55 1100029) (g55 44) (S 1046 0) (S 1032 0) (g55 1076 0) (g55 1007 0) (((g55 1092 0) - 1)) ∧ (g55 58 ((g55 1092 0) - 1)) = (S 1100007 (g55 57 ((g55 1092 0) - 1))) ∧ sm_SK (g55 63) (g55 64) (g55 44) (S 1100007) (S 1100025) (g55 1076 0) (g55 1007 0) (400 * ((g55 1092 0) - 1)) ((g55 58 ((g55 1092 0) - 1))) ((S 1100025 (g55 57 ((g55 1092 0) - 1))))) ∧ ((g55 1073 0) = 1 ∨ (g55 1092 0) = 0 ∧ (g55 1075 0) = 0 ∧ ((g55 1073 0) = 2 ∨ (g55 1073 0) = 3))) → (sm_PL (S 1100020) (S 51) (S 52) (g55 46) (g55 47) (g55 1076 0) (S 1086 0) ∧ sm_FR (S 1100020) (S 52) (S 1100021) (S 1100022) (3000 - (S 1084 0)) (S 1085 0) ∧ sm_PV (S 1100020) (S 48) (S 49) (S 50) (g55 44) (g55 1076 0) (g55 1007 0) ∧ sm_AL (S 1100020) (S 48) (S 49) (S 50) (g55 44) (g55 1076 0) (S 1100032 0) ∧ sm_SV (S 1100020) (S 48) (g55 1100029) (S 32) (S 33) (g55 1076 0) (S 1032 0) ∧ 0 ≤ (g55 1076 0) ∧ (g55 1076 0) ≤ 300 ∧ 0 ≤ (S 1084 0) ∧ (S 1084 0) ≤ 3000 ∧ 0 ≤ (S 1086 0) ∧ sm_SC (g55 1100029) (g55 44) (g55 45) (g55 43) (S 21) (g55 1076 0) (S 1032 0) ∧ sm_PO (g55 42) (g55 1076 0) ∧ ((g55 1075 0) = 0 → (S 1100032 0) = -1 ∧ sm_FO (g55 44) (g55 45) (g55 1076 0)) ∧ 23 ≤ (g55 1076 0) ∧ 31 ≤ (g55 1007 0) ∧ (g55 1007 0) ≤ 400 ∧ sm_LN (g55 4) 400 (g55 1007 0) ∧ (S 1008 0) ≤ (g55 1007 0) ∧ ((S 1075 0) = 1 → (g55 1075 0) = 1) ∧ 0 ≤ (g55 1092 0) ∧ (g55 1092 0) ≤ 24 ∧ (S 1007 0) ≤ (g55 1007 0) ∧ (¬ (g55 1075 0) = 0 → sm_LX (g55 58) (g55 63) (g55 64) (g55 1092 0) (g55 1076 0)) ∧ ((g55 1075 0) = 0 → (g55 1073 0) = 1 → 1 ≤ (g55 1092 0) ∧ (g55 1092 0) ≤ 24 ∧ 0 ≤ (g55 57 ((g55 1092 0) - 1)) ∧ (g55 57 ((g55 1092 0) - 1)) < (S 1046 0) ∧ (S 29 (g55 57 ((g55 1092 0) - 1))) = (S 53 ((g55 1092 0) - 1)) ∧ 0 ≤ (S 53 ((g55 1092 0) - 1)) ∧ (S 53 ((g55 1092 0) - 1)) < (S 1032 0) ∧ (g55 60 ((g55 1092 0) - 1)) = sm_dp (S 1100024) (S 1100023 (g55 57 ((g55 1092 0) - 1))) ∧ sm_TC (S 61) (S 62) (S 27) (S 1100007) (S 1100023) (S 1100024) (40 * ((g55 1092 0) - 1)) (S 1100023 (g55 57 ((g55 1092 0) - 1))) ∧ sm_LK (g55 1100029) (g55 1076 0) (S 54 ((g55 1092 0) - 1)) (S 53 ((g55 1092 0) - 1)) ∧ sm_VO (g55 44) (g55 1076 0) (g55 1007 0) ((S 55 ((g55 1092 0) - 1))) ((S 56 ((g55 1092 0) - 1))) ∧ sm_FW (g55 44) (g55 1076 0) (S 59 ((g55 1092 0) - 1)) ∧ sm_FL (S 53) (S 54) (S 55) (S 56) (g55 57) (g55 58) (S 59) (g55 60) (S 61) (S 62) (g55 63) (g55 64) (S 27) (S 29) (S 1100007) (S 1100023) (S 1100024) (S 1100025) (S 26) (g55 1100029) (g55 44) (S 1046 0) (S 1032 0) (g55 1076 0) (g55 1007 0) (((g55 1092 0) - 1)) ∧ (g55 58 ((g55 1092 0) - 1)) = (S 1100007 (g55 57 ((g55 1092 0) - 1))) ∧ sm_SK (g55 63) (g55 64) (g55 44) (S 1100007) (S 1100025) (g55 1076 0) (g55 1007 0) (400 * ((g55 1092 0) - 1)) ((g55 58 ((g55 1092 0) - 1))) ((S 1100025 (g55 57 ((g55 1092 0) - 1))))) ∧ ((g55 1073 0) = 1 ∨ (g55 1092 0) = 0 ∧ (g55 1075 0) = 0 ∧ ((g55 1073 0) = 2 ∨ (g55 1073 0) = 3)))))))))))) := by
  intro p1
  intro S
  intro h1_
  intro h2_
  rintro ⟨h3_, ⟨h4_, ⟨h5_, ⟨h6_, ⟨h7_, ⟨h8_, ⟨h9_, ⟨h10_, ⟨h11_, ⟨h12_, ⟨h13_, ⟨h14_, ⟨h15_, ⟨h16_, ⟨h17_, ⟨h18_, ⟨h19_, ⟨h20_, ⟨h21_, ⟨h22_, ⟨h23_, ⟨h24_, ⟨h25_, ⟨h26_, ⟨h27_, ⟨h28_, ⟨h29_, ⟨h30_, ⟨h31_, ⟨h32_, ⟨h33_, ⟨h34_, ⟨h35_, ⟨h36_, ⟨h37_, ⟨h38_, ⟨h39_, ⟨h40_, ⟨h41_, ⟨h42_, ⟨h43_, ⟨h44_, ⟨h45_, ⟨h46_, ⟨h47_, ⟨h48_, ⟨h49_, ⟨h50_, ⟨h51_, ⟨h52_, ⟨h53_, ⟨h54_, ⟨h55_, ⟨h56_, ⟨h57_, ⟨h58_, ⟨h59_, ⟨h60_, ⟨h61_, ⟨h62_, ⟨h63_, ⟨h64_, ⟨h65_, ⟨h66_, h67_⟩⟩⟩⟩⟩⟩⟩⟩⟩⟩⟩⟩⟩⟩⟩⟩⟩⟩⟩⟩⟩⟩⟩⟩⟩⟩⟩⟩⟩⟩⟩⟩⟩⟩⟩⟩⟩⟩⟩⟩⟩⟩⟩⟩⟩⟩⟩⟩⟩⟩⟩⟩⟩⟩⟩⟩⟩⟩⟩⟩⟩⟩⟩⟩
  intro h68_
  have h69_ := (h68_ h51_)
  have h70_ := (h69_ h25_)
  have h71_ := (h70_ (la_binary__0 h59_))
  have h72_ := (h71_ la_binary__1)
  have h73_ := (h72_ h53_)
  have h74_ := (h73_ h54_)
  have h75_ := (h74_ h60_)
  intro h76_
  have h77_ := (h76_ h51_)
  have h78_ := (h77_ h25_)
  have h79_ := (h78_ (la_binary__2 h59_))
  have h80_ := (h79_ la_binary__3)
  have h81_ := (h80_ h53_)
  have h82_ := (h81_ h54_)
  have h83_ := (h82_ h60_)
  refine ⟨(la_binary__4 h35_ h36_ h58_ h59_), ?_⟩
  intro x4
  intro h84_
  intro x6
  intro h85_
  refine ⟨(la_binary__5 h35_ h36_ h58_ h59_), ?_⟩
  intro x9
  intro h86_
  intro x11
  intro h87_
  refine ⟨?_, ?_⟩
  · skip
    intro h88_
    refine ⟨?_, ?_⟩
    · skip
      intro h89_
      refine ⟨?_, ?_⟩
      · skip
        refine ⟨h21_, ?_⟩
        refine ⟨h22_, ?_⟩
        refine ⟨h23_, ?_⟩
        refine ⟨h66_, ?_⟩
        refine ⟨(la_binary__9 (la_binary__8 (la_binary__7 (la_binary__6 h67_ h89_)) h88_)), ?_⟩
        refine ⟨?_, ?_⟩
        · skip
          intro h90_
          refine ⟨?_, ?_⟩
          · skip
            have e91_ : S 63 (400 * (S 1092 0 - 1) + S 58 (S 1092 0 - 1) - 1 - 0) = S 63 (400 * (S 1092 0 - 1) + (S 58 (S 1092 0 - 1) - 1)) := congrArg ((S 63)) la_binary__10
            have e92_ : S 63 (400 * (S 1092 0 - 1) + S 58 (S 1092 0 - 1) - 1 - 1) = S 63 (400 * (S 1092 0 - 1) + (S 58 (S 1092 0 - 1) - 2)) := congrArg ((S 63)) la_binary__11
            have e93_ : S 64 (400 * (S 1092 0 - 1) + S 58 (S 1092 0 - 1) - 1 - 0) = S 64 (400 * (S 1092 0 - 1) + (S 58 (S 1092 0 - 1) - 1)) := congrArg ((S 64)) la_binary__10
            have e94_ : S 64 (400 * (S 1092 0 - 1) + S 58 (S 1092 0 - 1) - 1 - 1) = S 64 (400 * (S 1092 0 - 1) + (S 58 (S 1092 0 - 1) - 2)) := congrArg ((S 64)) la_binary__11
            obtain ⟨h95_, h96_⟩ := ((sm_VO_e h83_).2.2.1 (la_binary__12 h84_ h90_ e92_))
            exact (la_binary__14 h85_ e94_ h95_)
          have e97_ : S 63 (400 * (S 1092 0 - 1) + S 58 (S 1092 0 - 1) - 1 - 0) = S 63 (400 * (S 1092 0 - 1) + (S 58 (S 1092 0 - 1) - 1)) := congrArg ((S 63)) la_binary__10
          have e98_ : S 63 (400 * (S 1092 0 - 1) + S 58 (S 1092 0 - 1) - 1 - 1) = S 63 (400 * (S 1092 0 - 1) + (S 58 (S 1092 0 - 1) - 2)) := congrArg ((S 63)) la_binary__11
          have e99_ : S 64 (400 * (S 1092 0 - 1) + S 58 (S 1092 0 - 1) - 1 - 0) = S 64 (400 * (S 1092 0 - 1) + (S 58 (S 1092 0 - 1) - 1)) := congrArg ((S 64)) la_binary__10
          have e100_ : S 64 (400 * (S 1092 0 - 1) + S 58 (S 1092 0 - 1) - 1 - 1) = S 64 (400 * (S 1092 0 - 1) + (S 58 (S 1092 0 - 1) - 2)) := congrArg ((S 64)) la_binary__11
          obtain ⟨h101_, h102_⟩ := ((sm_VO_e h83_).2.2.1 (la_binary__12 h84_ h90_ e98_))
          exact (la_binary__15 h22_ h85_ e100_ h102_)
        intro h103_
        refine ⟨?_, ?_⟩
        · skip
          have e104_ : S 63 (400 * (S 1092 0 - 1) + S 58 (S 1092 0 - 1) - 1 - 0) = S 63 (400 * (S 1092 0 - 1) + (S 58 (S 1092 0 - 1) - 1)) := congrArg ((S 63)) la_binary__10
          have e105_ : S 63 (400 * (S 1092 0 - 1) + S 58 (S 1092 0 - 1) - 1 - 1) = S 63 (400 * (S 1092 0 - 1) + (S 58 (S 1092 0 - 1) - 2)) := congrArg ((S 63)) la_binary__11
          have e106_ : S 64 (400 * (S 1092 0 - 1) + S 58 (S 1092 0 - 1) - 1 - 0) = S 64 (400 * (S 1092 0 - 1) + (S 58 (S 1092 0 - 1) - 1)) := congrArg ((S 64)) la_binary__10
          have e107_ : S 64 (400 * (S 1092 0 - 1) + S 58 (S 1092 0 - 1) - 1 - 1) = S 64 (400 * (S 1092 0 - 1) + (S 58 (S 1092 0 - 1) - 2)) := congrArg ((S 64)) la_binary__11
          obtain ⟨h108_, h109_⟩ := ((sm_VO_e h75_).2.2.1 (la_binary__12 h86_ h103_ e104_))
          exact (la_binary__14 h87_ e106_ h108_)
        have e110_ : S 63 (400 * (S 1092 0 - 1) + S 58 (S 1092 0 - 1) - 1 - 0) = S 63 (400 * (S 1092 0 - 1) + (S 58 (S 1092 0 - 1) - 1)) := congrArg ((S 63)) la_binary__10
        have e111_ : S 63 (400 * (S 1092 0 - 1) + S 58 (S 1092 0 - 1) - 1 - 1) = S 63 (400 * (S 1092 0 - 1) + (S 58 (S 1092 0 - 1) - 2)) := congrArg ((S 63)) la_binary__11
        have e112_ : S 64 (400 * (S 1092 0 - 1) + S 58 (S 1092 0 - 1) - 1 - 0) = S 64 (400 * (S 1092 0 - 1) + (S 58 (S 1092 0 - 1) - 1)) := congrArg ((S 64)) la_binary__10
        have e113_ : S 64 (400 * (S 1092 0 - 1) + S 58 (S 1092 0 - 1) - 1 - 1) = S 64 (400 * (S 1092 0 - 1) + (S 58 (S 1092 0 - 1) - 2)) := congrArg ((S 64)) la_binary__11
        obtain ⟨h114_, h115_⟩ := ((sm_VO_e h75_).2.2.1 (la_binary__12 h86_ h103_ e110_))
        exact (la_binary__15 h22_ h87_ e112_ h115_)
      intro g14
      rintro ⟨h116_, h117_⟩
      intro r23
      intro h118_
      rintro ⟨h119_, ⟨h120_, h121_⟩⟩
      refine ⟨?_, ?_⟩
      · skip
        intro h122_
        have h123_ := (h119_.resolve_right (la_binary__16 h122_))
        have h124_ := (h121_ h122_)
        obtain ⟨h125_, h126_⟩ := (h117_ h124_)
        refine ⟨?_, ?_⟩
        · skip
          refine ⟨?_, ?_⟩
          · skip
            intro h127_
            intro h128_
            refine ⟨h6_, ?_⟩
            refine ⟨h7_, ?_⟩
            refine ⟨h8_, ?_⟩
            refine ⟨h9_, ?_⟩
            refine ⟨h10_, ?_⟩
            refine ⟨h11_, ?_⟩
            refine ⟨h12_, ?_⟩
            refine ⟨h13_, ?_⟩
            refine ⟨h14_, ?_⟩
            refine ⟨h15_, ?_⟩
            refine ⟨h16_, ?_⟩
            refine ⟨h17_, ?_⟩
            refine ⟨h18_, ?_⟩
            refine ⟨h19_, ?_⟩
            refine ⟨h20_, ?_⟩
            refine ⟨h21_, ?_⟩
            refine ⟨h22_, ?_⟩
            refine ⟨h23_, ?_⟩
            refine ⟨h24_, ?_⟩
            refine ⟨h25_, ?_⟩
            refine ⟨h26_, ?_⟩
            refine ⟨h27_, ?_⟩
            refine ⟨h28_, ?_⟩
            refine ⟨h29_, ?_⟩
            refine ⟨h30_, ?_⟩
            refine ⟨h31_, ?_⟩
            refine ⟨h32_, ?_⟩
            refine ⟨h33_, ?_⟩
            refine ⟨h34_, ?_⟩
            refine ⟨h35_, ?_⟩
            refine ⟨h36_, ?_⟩
            refine ⟨h37_, ?_⟩
            refine ⟨h38_, ?_⟩
            refine ⟨h39_, ?_⟩
            refine ⟨h40_, ?_⟩
            refine ⟨h41_, ?_⟩
            refine ⟨h42_, ?_⟩
            refine ⟨h43_, ?_⟩
            refine ⟨h44_, ?_⟩
            refine ⟨h45_, ?_⟩
            refine ⟨h46_, ?_⟩
            refine ⟨h47_, ?_⟩
            refine ⟨h48_, ?_⟩
            refine ⟨h49_, ?_⟩
            refine ⟨h50_, ?_⟩
            refine ⟨h51_, ?_⟩
            refine ⟨h52_, ?_⟩
            refine ⟨h53_, ?_⟩
            refine ⟨h54_, ?_⟩
            refine ⟨la_binary__17, ?_⟩
            refine ⟨h59_, ?_⟩
            refine ⟨(la_binary__18 h58_), ?_⟩
            refine ⟨(sm_VO_i (la_binary__19 h125_) (la_binary__20 h126_) (la_binary__21 h126_) (la_binary__22 h126_)), ?_⟩
            refine ⟨h60_, ?_⟩
            refine ⟨h61_, ?_⟩
            refine ⟨h62_, ?_⟩
            refine ⟨(la_binary__23 h63_), ?_⟩
            refine ⟨h64_, ?_⟩
            exact h65_
          intro h129_
          exact h5_
        intro g25
        rintro ⟨h130_, h131_⟩
        have h132_ := (h130_ h3_)
        obtain ⟨h133_, ⟨h134_, ⟨h135_, ⟨h136_, ⟨h137_, ⟨h138_, ⟨h139_, ⟨h140_, ⟨h141_, ⟨h142_, ⟨h143_, ⟨h144_, ⟨h145_, ⟨h146_, h147_⟩⟩⟩⟩⟩⟩⟩⟩⟩⟩⟩⟩⟩⟩ := (h132_ h4_)
        refine ⟨h6_, ?_⟩
        refine ⟨h7_, ?_⟩
        refine ⟨h8_, ?_⟩
        refine ⟨h9_, ?_⟩
        refine ⟨h10_, ?_⟩
        refine ⟨h11_, ?_⟩
        refine ⟨h12_, ?_⟩
        refine ⟨h13_, ?_⟩
        refine ⟨h14_, ?_⟩
        refine ⟨h15_, ?_⟩
        refine ⟨h16_, ?_⟩
        refine ⟨h17_, ?_⟩
        refine ⟨?_, ?_⟩
        · skip
          intro h148_
          refine ⟨h18_, ?_⟩
          exact h19_
        refine ⟨h20_, ?_⟩
        refine ⟨h21_, ?_⟩
        refine ⟨h22_, ?_⟩
        refine ⟨h23_, ?_⟩
        refine ⟨h32_, ?_⟩
        refine ⟨(la_binary__27 h3_), ?_⟩
        refine ⟨(la_binary__28 h35_), ?_⟩
        refine ⟨h36_, ?_⟩
        refine ⟨la_binary__29, ?_⟩
        refine ⟨h131_, ?_⟩
        refine ⟨h130_, ?_⟩
        exact (la_binary__30 h3_ h4_ h35_)
      intro h149_
      have h150_ := (h119_.resolve_left h149_)
      obtain ⟨h151_, h152_⟩ := (h120_ h150_)
      refine ⟨⟨h21_, ⟨h22_, ⟨h23_, (la_binary__33 h116_ h151_ h152_)⟩⟩⟩, ?_⟩
      intro r35
      intro h153_
      intro g31
      rintro ⟨h154_, ⟨h155_, ⟨h156_, ⟨h157_, ⟨h158_, ⟨h159_, ⟨h160_, h161_⟩⟩⟩⟩⟩⟩⟩
      intro g37
      rintro ⟨h162_, h163_⟩
      refine ⟨?_, ?_⟩
      · skip
        refine ⟨?_, ?_⟩
        · skip
          intro h164_
          have h165_ := (h156_ h164_)
          intro h166_
          refine ⟨h6_, ?_⟩
          refine ⟨h7_, ?_⟩
          refine ⟨(sm_PV_m h8_ (Int.le_refl _) h158_ sm_F1_rf), ?_⟩
          refine ⟨h9_, ?_⟩
          refine ⟨h10_, ?_⟩
          refine ⟨h11_, ?_⟩
          refine ⟨h12_, ?_⟩
          refine ⟨h13_, ?_⟩
          refine ⟨h14_, ?_⟩
          refine ⟨h15_, ?_⟩
          refine ⟨h16_, ?_⟩
          refine ⟨h17_, ?_⟩
          refine ⟨h18_, ?_⟩
          refine ⟨h19_, ?_⟩
          refine ⟨h20_, ?_⟩
          refine ⟨(la_binary__34 h21_ h158_), ?_⟩
          refine ⟨h159_, ?_⟩
          refine ⟨h160_, ?_⟩
          refine ⟨h24_, ?_⟩
          refine ⟨h25_, ?_⟩
          refine ⟨h26_, ?_⟩
          refine ⟨h27_, ?_⟩
          refine ⟨h28_, ?_⟩
          refine ⟨h29_, ?_⟩
          refine ⟨h30_, ?_⟩
          refine ⟨h31_, ?_⟩
          refine ⟨(la_binary__35 h32_ h158_), ?_⟩
          refine ⟨h33_, ?_⟩
          refine ⟨h34_, ?_⟩
          refine ⟨h35_, ?_⟩
          refine ⟨h36_, ?_⟩
          refine ⟨h37_, ?_⟩
          refine ⟨h38_, ?_⟩
          refine ⟨h39_, ?_⟩
          refine ⟨h40_, ?_⟩
          refine ⟨h41_, ?_⟩
          refine ⟨h42_, ?_⟩
          refine ⟨h43_, ?_⟩
          refine ⟨h44_, ?_⟩
          refine ⟨(sm_VO_m h45_ (Int.le_refl _) h158_ sm_F1_rf), ?_⟩
          refine ⟨h46_, ?_⟩
          refine ⟨(sm_FL_F h47_ sm_F1_rf sm_F1_rf sm_F1_rf sm_F1_rf sm_F1_rf sm_F1_rf sm_F1_rf sm_F1_rf sm_F1_rf sm_F1_rf sm_F1_rf sm_F1_rf (Int.le_refl _) h158_ sm_F1_rf sm_F1_rf (sm_FL_dp h47_ h24_)), ?_⟩
          refine ⟨h48_, ?_⟩
          refine ⟨h49_, ?_⟩
          refine ⟨h50_, ?_⟩
          refine ⟨(sm_SK_m h51_ (Int.le_refl _) h158_ sm_F1_rf), ?_⟩
          refine ⟨h52_, ?_⟩
          refine ⟨h53_, ?_⟩
          refine ⟨h54_, ?_⟩
          refine ⟨la_binary__17, ?_⟩
          refine ⟨h59_, ?_⟩
          refine ⟨(la_binary__18 h58_), ?_⟩
          refine ⟨(sm_VO_i (la_binary__36 h162_) (la_binary__37 h162_) (la_binary__38 h154_ h155_ h163_) (la_binary__39 h162_)), ?_⟩
          refine ⟨h60_, ?_⟩
          refine ⟨h61_, ?_⟩
          refine ⟨h62_, ?_⟩
          refine ⟨(la_binary__23 h63_), ?_⟩
          refine ⟨h64_, ?_⟩
          exact h65_
        intro h167_
        exact h5_
      intro g43
      rintro ⟨h168_, h169_⟩
      refine ⟨h6_, ?_⟩
      refine ⟨h7_, ?_⟩
      refine ⟨(sm_PV_m h8_ (Int.le_refl _) h158_ sm_F1_rf), ?_⟩
      refine ⟨h9_, ?_⟩
      refine ⟨h10_, ?_⟩
      refine ⟨h11_, ?_⟩
      refine ⟨h12_, ?_⟩
      refine ⟨h13_, ?_⟩
      refine ⟨h14_, ?_⟩
      refine ⟨h15_, ?_⟩
      refine ⟨h16_, ?_⟩
      refine ⟨h17_, ?_⟩
      refine ⟨?_, ?_⟩
      · skip
        intro h170_
        have h171_ := (h156_ h170_)
        have h172_ := (h168_ h170_)
        obtain ⟨h173_, ⟨h174_, ⟨h175_, ⟨h176_, ⟨h177_, ⟨h178_, ⟨h179_, ⟨h180_, ⟨h181_, ⟨h182_, ⟨h183_, ⟨h184_, ⟨h185_, ⟨h186_, h187_⟩⟩⟩⟩⟩⟩⟩⟩⟩⟩⟩⟩⟩⟩ := (h172_ h4_)
        refine ⟨h18_, ?_⟩
        exact h19_
      refine ⟨h20_, ?_⟩
      refine ⟨(la_binary__34 h21_ h158_), ?_⟩
      refine ⟨h159_, ?_⟩
      refine ⟨h160_, ?_⟩
      refine ⟨(la_binary__35 h32_ h158_), ?_⟩
      refine ⟨h161_, ?_⟩
      refine ⟨(la_binary__28 h35_), ?_⟩
      refine ⟨h36_, ?_⟩
      refine ⟨h158_, ?_⟩
      refine ⟨h169_, ?_⟩
      refine ⟨h168_, ?_⟩
      exact (la_binary__40 h4_ h35_)
    intro h188_
    refine ⟨?_, ?_⟩
    · skip
      refine ⟨h3_, ?_⟩
      refine ⟨h4_, ?_⟩
      refine ⟨h5_, ?_⟩
      refine ⟨h6_, ?_⟩
      refine ⟨h7_, ?_⟩
      refine ⟨h8_, ?_⟩
      refine ⟨h9_, ?_⟩
      refine ⟨h10_, ?_⟩
      refine ⟨h11_, ?_⟩
      refine ⟨h12_, ?_⟩
      refine ⟨h13_, ?_⟩
      refine ⟨h14_, ?_⟩
      refine ⟨h15_, ?_⟩
      refine ⟨h16_, ?_⟩
      refine ⟨h17_, ?_⟩
      refine ⟨h18_, ?_⟩
      refine ⟨h19_, ?_⟩
      refine ⟨h20_, ?_⟩
      refine ⟨h21_, ?_⟩
      refine ⟨h22_, ?_⟩
      refine ⟨h23_, ?_⟩
      refine ⟨h24_, ?_⟩
      refine ⟨h25_, ?_⟩
      refine ⟨h26_, ?_⟩
      refine ⟨h27_, ?_⟩
      refine ⟨h28_, ?_⟩
      refine ⟨h29_, ?_⟩
      refine ⟨h30_, ?_⟩
      refine ⟨h31_, ?_⟩
      refine ⟨h32_, ?_⟩
      refine ⟨h33_, ?_⟩
      refine ⟨h34_, ?_⟩
      refine ⟨h35_, ?_⟩
      refine ⟨h36_, ?_⟩
      refine ⟨h37_, ?_⟩
      refine ⟨h38_, ?_⟩
      refine ⟨h39_, ?_⟩
      refine ⟨h40_, ?_⟩
      refine ⟨h41_, ?_⟩
      refine ⟨h42_, ?_⟩
      refine ⟨h43_, ?_⟩
      refine ⟨h44_, ?_⟩
      refine ⟨h45_, ?_⟩
      refine ⟨h46_, ?_⟩
      refine ⟨h47_, ?_⟩
      refine ⟨h48_, ?_⟩
      refine ⟨h49_, ?_⟩
      refine ⟨h50_, ?_⟩
      refine ⟨h51_, ?_⟩
      refine ⟨h52_, ?_⟩
      refine ⟨h53_, ?_⟩
      refine ⟨h54_, ?_⟩
      refine ⟨h55_, ?_⟩
      refine ⟨h56_, ?_⟩
      refine ⟨h57_, ?_⟩
      refine ⟨h58_, ?_⟩
      refine ⟨h59_, ?_⟩
      refine ⟨h60_, ?_⟩
      refine ⟨h61_, ?_⟩
      refine ⟨h62_, ?_⟩
      refine ⟨h63_, ?_⟩
      refine ⟨h64_, ?_⟩
      refine ⟨h65_, ?_⟩
      refine ⟨?_, ?_⟩
      · skip
        have e189_ : S 63 (400 * (S 1092 0 - 1) + S 58 (S 1092 0 - 1) - 1 - 0) = S 63 (400 * (S 1092 0 - 1) + (S 58 (S 1092 0 - 1) - 1)) := congrArg ((S 63)) la_binary__10
        have e190_ : S 63 (400 * (S 1092 0 - 1) + S 58 (S 1092 0 - 1) - 1 - 1) = S 63 (400 * (S 1092 0 - 1) + (S 58 (S 1092 0 - 1) - 2)) := congrArg ((S 63)) la_binary__11
        have e191_ : S 64 (400 * (S 1092 0 - 1) + S 58 (S 1092 0 - 1) - 1 - 0) = S 64 (400 * (S 1092 0 - 1) + (S 58 (S 1092 0 - 1) - 1)) := congrArg ((S 64)) la_binary__10
        have e192_ : S 64 (400 * (S 1092 0 - 1) + S 58 (S 1092 0 - 1) - 1 - 1) = S 64 (400 * (S 1092 0 - 1) + (S 58 (S 1092 0 - 1) - 2)) := congrArg ((S 64)) la_binary__11
        exact (sm_VO_eq h83_ (la_binary__43 h84_ e190_) (la_binary__43 h85_ e192_))
      have e193_ : S 63 (400 * (S 1092 0 - 1) + S 58 (S 1092 0 - 1) - 1 - 0) = S 63 (400 * (S 1092 0 - 1) + (S 58 (S 1092 0 - 1) - 1)) := congrArg ((S 63)) la_binary__10
      have e194_ : S 63 (400 * (S 1092 0 - 1) + S 58 (S 1092 0 - 1) - 1 - 1) = S 63 (400 * (S 1092 0 - 1) + (S 58 (S 1092 0 - 1) - 2)) := congrArg ((S 63)) la_binary__11
      have e195_ : S 64 (400 * (S 1092 0 - 1) + S 58 (S 1092 0 - 1) - 1 - 0) = S 64 (400 * (S 1092 0 - 1) + (S 58 (S 1092 0 - 1) - 1)) := congrArg ((S 64)) la_binary__10
      have e196_ : S 64 (400 * (S 1092 0 - 1) + S 58 (S 1092 0 - 1) - 1 - 1) = S 64 (400 * (S 1092 0 - 1) + (S 58 (S 1092 0 - 1) - 2)) := congrArg ((S 64)) la_binary__11
      exact (sm_VO_eq h75_ (la_binary__43 h86_ e193_) (la_binary__43 h87_ e195_))
    intro g49
    rintro ⟨h197_, ⟨h198_, ⟨h199_, ⟨h200_, ⟨h201_, ⟨h202_, ⟨h203_, ⟨h204_, ⟨h205_, ⟨h206_, ⟨h207_, ⟨h208_, ⟨h209_, ⟨h210_, ⟨h211_, ⟨h212_, ⟨h213_, ⟨h214_, ⟨h215_, ⟨h216_, ⟨h217_, ⟨h218_, ⟨h219_, ⟨h220_, h221_⟩⟩⟩⟩⟩⟩⟩⟩⟩⟩⟩⟩⟩⟩⟩⟩⟩⟩⟩⟩⟩⟩⟩⟩
    refine ⟨h197_, ?_⟩
    refine ⟨h7_, ?_⟩
    refine ⟨h199_, ?_⟩
    refine ⟨h200_, ?_⟩
    refine ⟨h201_, ?_⟩
    refine ⟨h202_, ?_⟩
    refine ⟨h203_, ?_⟩
    refine ⟨h13_, ?_⟩
    refine ⟨h14_, ?_⟩
    refine ⟨h15_, ?_⟩
    refine ⟨h207_, ?_⟩
    refine ⟨h208_, ?_⟩
    refine ⟨h209_, ?_⟩
    refine ⟨h210_, ?_⟩
    refine ⟨h21_, ?_⟩
    refine ⟨h22_, ?_⟩
    refine ⟨h23_, ?_⟩
    refine ⟨h32_, ?_⟩
    refine ⟨h215_, ?_⟩
    refine ⟨h216_, ?_⟩
    refine ⟨h217_, ?_⟩
    refine ⟨h218_, ?_⟩
    refine ⟨h219_, ?_⟩
    refine ⟨h220_, ?_⟩
    exact h221_
  intro h222_
  refine ⟨?_, ?_⟩
  · skip
    refine ⟨h3_, ?_⟩
    refine ⟨h4_, ?_⟩
    refine ⟨h5_, ?_⟩
    refine ⟨h6_, ?_⟩
    refine ⟨h7_, ?_⟩
    refine ⟨h8_, ?_⟩
    refine ⟨h9_, ?_⟩
    refine ⟨h10_, ?_⟩
    refine ⟨h11_, ?_⟩
    refine ⟨h12_, ?_⟩
    refine ⟨h13_, ?_⟩
    refine ⟨h14_, ?_⟩
    refine ⟨h15_, ?_⟩
    refine ⟨h16_, ?_⟩
    refine ⟨h17_, ?_⟩
    refine ⟨h18_, ?_⟩
    refine ⟨h19_, ?_⟩
    refine ⟨h20_, ?_⟩
    refine ⟨h21_, ?_⟩
    refine ⟨h22_, ?_⟩
    refine ⟨h23_, ?_⟩
    refine ⟨h24_, ?_⟩
    refine ⟨h25_, ?_⟩
    refine ⟨h26_, ?_⟩
    refine ⟨h27_, ?_⟩
    refine ⟨h28_, ?_⟩
    refine ⟨h29_, ?_⟩
    refine ⟨h30_, ?_⟩
    refine ⟨h31_, ?_⟩
    refine ⟨h32_, ?_⟩
    refine ⟨h33_, ?_⟩
    refine ⟨h34_, ?_⟩
    refine ⟨h35_, ?_⟩
    refine ⟨h36_, ?_⟩
    refine ⟨h37_, ?_⟩
    refine ⟨h38_, ?_⟩
    refine ⟨h39_, ?_⟩
    refine ⟨h40_, ?_⟩
    refine ⟨h41_, ?_⟩
    refine ⟨h42_, ?_⟩
    refine ⟨h43_, ?_⟩
    refine ⟨h44_, ?_⟩
    refine ⟨h45_, ?_⟩
    refine ⟨h46_, ?_⟩
    refine ⟨h47_, ?_⟩
    refine ⟨h48_, ?_⟩
    refine ⟨h49_, ?_⟩
    refine ⟨h50_, ?_⟩
    refine ⟨h51_, ?_⟩
    refine ⟨h52_, ?_⟩
    refine ⟨h53_, ?_⟩
    refine ⟨h54_, ?_⟩
    refine ⟨h55_, ?_⟩
    refine ⟨h56_, ?_⟩
    refine ⟨h57_, ?_⟩
    refine ⟨h58_, ?_⟩
    refine ⟨h59_, ?_⟩
    refine ⟨h60_, ?_⟩
    refine ⟨h61_, ?_⟩
    refine ⟨h62_, ?_⟩
    refine ⟨h63_, ?_⟩
    refine ⟨h64_, ?_⟩
    refine ⟨h65_, ?_⟩
    refine ⟨?_, ?_⟩
    · skip
      have e223_ : S 63 (400 * (S 1092 0 - 1) + S 58 (S 1092 0 - 1) - 1 - 0) = S 63 (400 * (S 1092 0 - 1) + (S 58 (S 1092 0 - 1) - 1)) := congrArg ((S 63)) la_binary__10
      have e224_ : S 63 (400 * (S 1092 0 - 1) + S 58 (S 1092 0 - 1) - 1 - 1) = S 63 (400 * (S 1092 0 - 1) + (S 58 (S 1092 0 - 1) - 2)) := congrArg ((S 63)) la_binary__11
      have e225_ : S 64 (400 * (S 1092 0 - 1) + S 58 (S 1092 0 - 1) - 1 - 0) = S 64 (400 * (S 1092 0 - 1) + (S 58 (S 1092 0 - 1) - 1)) := congrArg ((S 64)) la_binary__10
      have e226_ : S 64 (400 * (S 1092 0 - 1) + S 58 (S 1092 0 - 1) - 1 - 1) = S 64 (400 * (S 1092 0 - 1) + (S 58 (S 1092 0 - 1) - 2)) := congrArg ((S 64)) la_binary__11
      exact (sm_VO_eq h83_ (la_binary__43 h84_ e224_) (la_binary__43 h85_ e226_))
    have e227_ : S 63 (400 * (S 1092 0 - 1) + S 58 (S 1092 0 - 1) - 1 - 0) = S 63 (400 * (S 1092 0 - 1) + (S 58 (S 1092 0 - 1) - 1)) := congrArg ((S 63)) la_binary__10
    have e228_ : S 63 (400 * (S 1092 0 - 1) + S 58 (S 1092 0 - 1) - 1 - 1) = S 63 (400 * (S 1092 0 - 1) + (S 58 (S 1092 0 - 1) - 2)) := congrArg ((S 63)) la_binary__11
    have e229_ : S 64 (400 * (S 1092 0 - 1) + S 58 (S 1092 0 - 1) - 1 - 0) = S 64 (400 * (S 1092 0 - 1) + (S 58 (S 1092 0 - 1) - 1)) := congrArg ((S 64)) la_binary__10
    have e230_ : S 64 (400 * (S 1092 0 - 1) + S 58 (S 1092 0 - 1) - 1 - 1) = S 64 (400 * (S 1092 0 - 1) + (S 58 (S 1092 0 - 1) - 2)) := congrArg ((S 64)) la_binary__11
    exact (sm_VO_eq h75_ (la_binary__43 h86_ e227_) (la_binary__43 h87_ e229_))
  intro g55
  rintro ⟨h231_, ⟨h232_, ⟨h233_, ⟨h234_, ⟨h235_, ⟨h236_, ⟨h237_, ⟨h238_, ⟨h239_, ⟨h240_, ⟨h241_, ⟨h242_, ⟨h243_, ⟨h244_, ⟨h245_, ⟨h246_, ⟨h247_, ⟨h248_, ⟨h249_, ⟨h250_, ⟨h251_, ⟨h252_, ⟨h253_, ⟨h254_, h255_⟩⟩⟩⟩⟩⟩⟩⟩⟩⟩⟩⟩⟩⟩⟩⟩⟩⟩⟩⟩⟩⟩⟩⟩
  refine ⟨h231_, ?_⟩
  refine ⟨h7_, ?_⟩
  refine ⟨h233_, ?_⟩
  refine ⟨h234_, ?_⟩
  refine ⟨h235_, ?_⟩
  refine ⟨h236_, ?_⟩
  refine ⟨h237_, ?_⟩
  refine ⟨h13_, ?_⟩
  refine ⟨h14_, ?_⟩
  refine ⟨h15_, ?_⟩
  refine ⟨h241_, ?_⟩
  refine ⟨h242_, ?_⟩
  refine ⟨h243_, ?_⟩
  refine ⟨h244_, ?_⟩
  refine ⟨h245_, ?_⟩
  refine ⟨h246_, ?_⟩
  refine ⟨h247_, ?_⟩
  refine ⟨h248_, ?_⟩
  refine ⟨h249_, ?_⟩
  refine ⟨h250_, ?_⟩
  refine ⟨h251_, ?_⟩
  refine ⟨h252_, ?_⟩
  refine ⟨h253_, ?_⟩
  refine ⟨h254_, ?_⟩
  exact h255_
set_option maxRecDepth 8000 in
set_option maxHeartbeats 2000000 in
theorem t_binary_ : ∀ (p1 : Int) (S : sv_S), sm_ok S → sv_R p1 → ((S 1075 0) = 0 ∧ (S 1073 0) = 1 ∧ sm_LX (S 58) (S 63) (S 64) (S 1092 0) (S 1076 0) ∧ sm_PL (S 1100020) (S 51) (S 52) (S 46) (S 47) (S 1076 0) (S 1086 0) ∧ sm_FR (S 1100020) (S 52) (S 1100021) (S 1100022) (3000 - (S 1084 0)) (S 1085 0) ∧ sm_PV (S 1100020) (S 48) (S 49) (S 50) (S 44) (S 1076 0) (S 1007 0) ∧ sm_AL (S 1100020) (S 48) (S 49) (S 50) (S 44) (S 1076 0) (S 1100032 0) ∧ sm_SV (S 1100020) (S 48) (S 1100029) (S 32) (S 33) (S 1076 0) (S 1032 0) ∧ 0 ≤ (S 1076 0) ∧ (S 1076 0) ≤ 300 ∧ 0 ≤ (S 1084 0) ∧ (S 1084 0) ≤ 3000 ∧ 0 ≤ (S 1086 0) ∧ sm_SC (S 1100029) (S 44) (S 45) (S 43) (S 21) (S 1076 0) (S 1032 0) ∧ sm_PO (S 42) (S 1076 0) ∧ (S 1100032 0) = -1 ∧ sm_FO (S 44) (S 45) (S 1076 0) ∧ 23 ≤ (S 1076 0) ∧ 31 ≤ (S 1007 0) ∧ (S 1007 0) ≤ 400 ∧ sm_LN (S 4) 400 (S 1007 0) ∧ sm_CT (S 26) (S 27) (S 28) (S 29) (S 1100007) (S 1100023) (S 1100024) (S 1100025) (S 21) (S 1046 0) (S 1032 0) (S 1008 0) (S 1055 0) ∧ sm_LS (S 26) (S 1100007) (S 1100025) (S 1046 0) ∧ sm_CL (S 1100007) (S 1100023) (S 1100025) (S 1046 0) ∧ 1 ≤ (S 1032 0) ∧ (S 1032 0) ≤ 11 ∧ 0 ≤ (S 1046 0) ∧ (S 1046 0) ≤ 600 ∧ 31 ≤ (S 1008 0) ∧ (S 1008 0) ≤ (S 1007 0) ∧ 0 ≤ (S 1055 0) ∧ (S 1055 0) ≤ 19 ∧ 1 ≤ (S 1092 0) ∧ (S 1092 0) ≤ 24 ∧ 0 ≤ (S 1100033 0) ∧ (S 1100033 0) < (S 1046 0) ∧ (S 29 (S 1100033 0)) = (S 53 ((S 1092 0) - 1)) ∧ 0 ≤ (S 53 ((S 1092 0) - 1)) ∧ (S 53 ((S 1092 0) - 1)) < (S 1032 0) ∧ (S 60 ((S 1092 0) - 1)) = sm_dp (S 1100024) (S 1100023 (S 1100033 0)) ∧ sm_TC (S 61) (S 62) (S 27) (S 1100007) (S 1100023) (S 1100024) (40 * ((S 1092 0) - 1)) (S 1100023 (S 1100033 0)) ∧ sm_LK (S 1100029) (S 1076 0) (S 54 ((S 1092 0) - 1)) (S 53 ((S 1092 0) - 1)) ∧ sm_VO (S 44) (S 1076 0) (S 1007 0) ((S 55 ((S 1092 0) - 1))) ((S 56 ((S 1092 0) - 1))) ∧ sm_FW (S 44) (S 1076 0) (S 59 ((S 1092 0) - 1)) ∧ sm_FL (S 53) (S 54) (S 55) (S 56) (S 57) (S 58) (S 59) (S 60) (S 61) (S 62) (S 63) (S 64) (S 27) (S 29) (S 1100007) (S 1100023) (S 1100024) (S 1100025) (S 26) (S 1100029) (S 44) (S 1046 0) (S 1032 0) (S 1076 0) (S 1007 0) (((S 1092 0) - 1)) ∧ (S 57 ((S 1092 0) - 1)) = (S 1100033 0) ∧ 0 ≤ (S 58 ((S 1092 0) - 1)) ∧ (S 58 ((S 1092 0) - 1)) ≤ 400 ∧ sm_SK (S 63) (S 64) (S 44) (S 1100007) (S 1100025) (S 1076 0) (S 1007 0) (400 * ((S 1092 0) - 1)) ((S 58 ((S 1092 0) - 1))) ((S 1100034 0)) ∧ -1 ≤ (S 1100034 0) ∧ (S 1100034 0) < (S 1046 0) ∧ (0 ≤ (S 1100034 0) → (S 26 (S 1100034 0)) = 29) ∧ (S 58 ((S 1092 0) - 1)) = (S 1100007 (S 1100033 0)) ∧ (S 1100034 0) = (S 1100025 (S 1100033 0)) ∧ (0 ≤ (S 1100023 (S 1100033 0)) → (S 1100007 (S 1100023 (S 1100033 0))) ≤ (S 58 ((S 1092 0) - 1))) ∧ (S 58 ((S 1092 0) - 1)) ≤ 396 ∧ 2 ≤ (S 58 ((S 1092 0) - 1)) ∧ (0 ≤ (S 1100034 0) → (S 1100007 (S 1100034 0)) ≤ (S 58 ((S 1092 0) - 1)) - 2) ∧ (S 1100033 0) + 1 < (S 1046 0) ∧ (S 29 ((S 1100033 0) + 1)) = (S 29 (S 1100033 0)) ∧ (S 1100007 ((S 1100033 0) + 1)) = (S 58 ((S 1092 0) - 1)) + (-1) ∧ (S 1100023 ((S 1100033 0) + 1)) = (S 1100023 (S 1100033 0)) ∧ (S 1100025 ((S 1100033 0) + 1)) = (S 1100034 0) ∧ 0 ≤ p1 ∧ p1 ≤ 20) → sv_T sm_XS sm_cs sm_L sm_sh 5 (q_binary_ p1 S) 174 0 (lv_args 0 [.ref 0, sv_I p1]) [] S := by
  intro p1 S hok hp1 hpre
  have h := f_binary_ p1 S hok hp1 hpre
  have hM := sm_h174
  show sv_T sm_XS sm_cs sm_L sm_sh 5 (q_binary_ p1 S) 174 0 [(0, .ref 0), (1, sv_I p1)] [] S
  have k1 : (sm_SK (S 63) (S 64) (S 44) (S 1100007) (S 1100025) (S 1076 0) (S 1007 0) (400 * ((S 1092 0) - 1)) ((S 58 ((S 1092 0) - 1))) ((S 1100034 0)) → sm_LS (S 26) (S 1100007) (S 1100025) (S 1046 0) → 0 ≤ (S 58 ((S 1092 0) - 1)) - 1 → (S 58 ((S 1092 0) - 1)) - 1 < (S 58 ((S 1092 0) - 1)) → (S 1100034 0) < (S 1046 0) → (0 ≤ (S 1100034 0) → (S 26 (S 1100034 0)) = 29) → (0 ≤ (S 1100034 0) → (S 1100007 (S 1100034 0)) ≤ (S 58 ((S 1092 0) - 1)) - 2) → sm_VO (S 44) (S 1076 0) (S 1007 0) ((S 63 (400 * ((S 1092 0) - 1) + ((S 58 ((S 1092 0) - 1)) - 1)))) ((S 64 (400 * ((S 1092 0) - 1) + ((S 58 ((S 1092 0) - 1)) - 1))))) := fun h a b e g i j => sm_SK_at h a _ b e g (fun z => ⟨i z, by have := j z; omega⟩)
  have h := h k1
  have k2 : (sm_SK (S 63) (S 64) (S 44) (S 1100007) (S 1100025) (S 1076 0) (S 1007 0) (400 * ((S 1092 0) - 1)) ((S 58 ((S 1092 0) - 1))) ((S 1100034 0)) → sm_LS (S 26) (S 1100007) (S 1100025) (S 1046 0) → 0 ≤ (S 58 ((S 1092 0) - 1)) - 2 → (S 58 ((S 1092 0) - 1)) - 2 < (S 58 ((S 1092 0) - 1)) → (S 1100034 0) < (S 1046 0) → (0 ≤ (S 1100034 0) → (S 26 (S 1100034 0)) = 29) → (0 ≤ (S 1100034 0) → (S 1100007 (S 1100034 0)) ≤ (S 58 ((S 1092 0) - 1)) - 2) → sm_VO (S 44) (S 1076 0) (S 1007 0) ((S 63 (400 * ((S 1092 0) - 1) + ((S 58 ((S 1092 0) - 1)) - 2)))) ((S 64 (400 * ((S 1092 0) - 1) + ((S 58 ((S 1092 0) - 1)) - 2))))) := fun h a b e g i j => sm_SK_at h a _ b e g (fun z => ⟨i z, by have := j z; omega⟩)
  have h := h k2
  refine sv_aload_n hM dX12_binary__0 rfl rfl ?_
  refine sv_iconst (d := (1 : Int)) hM dX12_binary__1 rfl rfl ?_
  obtain ⟨o3, h⟩ := h
  refine sv_callV hM dX12_binary__2 sm_iv_910 (by decide) (sm_a0 _) rfl rfl (Nat.le_of_ble_eq_true rfl) sm_h150 (Nat.le_of_ble_eq_true rfl) (Nat.le_of_ble_eq_true rfl) (F' := 1) (Nat.le_of_ble_eq_true rfl) rfl (t_sortAt (1 : Int) S hok (⟨by decide, by decide⟩ : sv_R (1 : Int)) o3) (fun v S1 hq => ?_)
  obtain ⟨rfl, hS1⟩ := hq
  obtain rfl : S = S1 := hS1.symm
  show sv_T sm_XS sm_cs sm_L sm_sh 5 (q_binary_ p1 S) 174 5 [(0, .ref 0), (1, sv_I p1)] [sv_I ((S 63 ((400 * ((S 1092 0) - 1) + (S 58 ((S 1092 0) - 1))) - 1 - (1 : Int))))] S
  obtain ⟨x4, e5⟩ : ∃ x : Int, ((S 63 ((400 * ((S 1092 0) - 1) + (S 58 ((S 1092 0) - 1))) - 1 - (1 : Int)))) = x := ⟨_, rfl⟩
  have h := h x4 e5
  have e5r : sv_R x4 := e5 ▸ (sm_okI hok sm_r63 _)
  refine sv_nameI e5 ?_
  refine sv_istore_n hM dX12_binary__5 (by decide) rfl ?_
  show sv_T sm_XS sm_cs sm_L sm_sh 5 (q_binary_ p1 S) 174 6 [(0, .ref 0), (1, sv_I p1), (2, sv_I x4)] [] S
  refine sv_aload_n hM dX12_binary__6 rfl rfl ?_
  refine sv_iconst (d := (1 : Int)) hM dX12_binary__7 rfl rfl ?_
  refine sv_callV hM dX12_binary__8 sm_iv_913 (by decide) (sm_a0 _) rfl rfl (Nat.le_of_ble_eq_true rfl) sm_h151 (Nat.le_of_ble_eq_true rfl) (Nat.le_of_ble_eq_true rfl) (F' := 1) (Nat.le_of_ble_eq_true rfl) rfl (t_valueAt (1 : Int) S hok (⟨by decide, by decide⟩ : sv_R (1 : Int)) o3) (fun v S1 hq => ?_)
  obtain ⟨rfl, hS1⟩ := hq
  obtain rfl : S = S1 := hS1.symm
  show sv_T sm_XS sm_cs sm_L sm_sh 5 (q_binary_ p1 S) 174 11 [(0, .ref 0), (1, sv_I p1), (2, sv_I x4)] [sv_I ((S 64 ((400 * ((S 1092 0) - 1) + (S 58 ((S 1092 0) - 1))) - 1 - (1 : Int))))] S
  obtain ⟨x6, e7⟩ : ∃ x : Int, ((S 64 ((400 * ((S 1092 0) - 1) + (S 58 ((S 1092 0) - 1))) - 1 - (1 : Int)))) = x := ⟨_, rfl⟩
  have h := h x6 e7
  have e7r : sv_R x6 := e7 ▸ (sm_okI hok sm_r64 _)
  refine sv_nameI e7 ?_
  refine sv_istore_n hM dX12_binary__11 (by decide) rfl ?_
  show sv_T sm_XS sm_cs sm_L sm_sh 5 (q_binary_ p1 S) 174 12 [(0, .ref 0), (1, sv_I p1), (2, sv_I x4), (3, sv_I x6)] [] S
  refine sv_aload_n hM dX12_binary__12 rfl rfl ?_
  refine sv_iconst (d := (0 : Int)) hM dX12_binary__13 rfl rfl ?_
  obtain ⟨o8, h⟩ := h
  refine sv_callV hM dX12_binary__14 sm_iv_910 (by decide) (sm_a0 _) rfl rfl (Nat.le_of_ble_eq_true rfl) sm_h150 (Nat.le_of_ble_eq_true rfl) (Nat.le_of_ble_eq_true rfl) (F' := 1) (Nat.le_of_ble_eq_true rfl) rfl (t_sortAt (0 : Int) S hok (⟨by decide, by decide⟩ : sv_R (0 : Int)) o8) (fun v S1 hq => ?_)
  obtain ⟨rfl, hS1⟩ := hq
  obtain rfl : S = S1 := hS1.symm
  show sv_T sm_XS sm_cs sm_L sm_sh 5 (q_binary_ p1 S) 174 17 [(0, .ref 0), (1, sv_I p1), (2, sv_I x4), (3, sv_I x6)] [sv_I ((S 63 ((400 * ((S 1092 0) - 1) + (S 58 ((S 1092 0) - 1))) - 1 - (0 : Int))))] S
  obtain ⟨x9, e10⟩ : ∃ x : Int, ((S 63 ((400 * ((S 1092 0) - 1) + (S 58 ((S 1092 0) - 1))) - 1 - (0 : Int)))) = x := ⟨_, rfl⟩
  have h := h x9 e10
  have e10r : sv_R x9 := e10 ▸ (sm_okI hok sm_r63 _)
  refine sv_nameI e10 ?_
  refine sv_istore hM dX12_binary__17 (by decide) rfl ?_
  show sv_T sm_XS sm_cs sm_L sm_sh 5 (q_binary_ p1 S) 174 19 [(0, .ref 0), (1, sv_I p1), (2, sv_I x4), (3, sv_I x6), (4, sv_I x9)] [] S
  refine sv_aload_n hM dX12_binary__19 rfl rfl ?_
  refine sv_iconst (d := (0 : Int)) hM dX12_binary__20 rfl rfl ?_
  refine sv_callV hM dX12_binary__21 sm_iv_913 (by decide) (sm_a0 _) rfl rfl (Nat.le_of_ble_eq_true rfl) sm_h151 (Nat.le_of_ble_eq_true rfl) (Nat.le_of_ble_eq_true rfl) (F' := 1) (Nat.le_of_ble_eq_true rfl) rfl (t_valueAt (0 : Int) S hok (⟨by decide, by decide⟩ : sv_R (0 : Int)) o8) (fun v S1 hq => ?_)
  obtain ⟨rfl, hS1⟩ := hq
  obtain rfl : S = S1 := hS1.symm
  show sv_T sm_XS sm_cs sm_L sm_sh 5 (q_binary_ p1 S) 174 24 [(0, .ref 0), (1, sv_I p1), (2, sv_I x4), (3, sv_I x6), (4, sv_I x9)] [sv_I ((S 64 ((400 * ((S 1092 0) - 1) + (S 58 ((S 1092 0) - 1))) - 1 - (0 : Int))))] S
  obtain ⟨x11, e12⟩ : ∃ x : Int, ((S 64 ((400 * ((S 1092 0) - 1) + (S 58 ((S 1092 0) - 1))) - 1 - (0 : Int)))) = x := ⟨_, rfl⟩
  have h := h x11 e12
  have e12r : sv_R x11 := e12 ▸ (sm_okI hok sm_r64 _)
  refine sv_nameI e12 ?_
  refine sv_istore hM dX12_binary__24 (by decide) rfl ?_
  show sv_T sm_XS sm_cs sm_L sm_sh 5 (q_binary_ p1 S) 174 26 [(0, .ref 0), (1, sv_I p1), (2, sv_I x4), (3, sv_I x6), (4, sv_I x9), (5, sv_I x11)] [] S
  refine sv_iload_n hM dX12_binary__26 rfl rfl ?_
  refine sv_bipush (d := (19 : Int)) hM dX12_binary__27 rfl rfl ?_
  refine sv_icmp_ne hM dX12_binary__29 hp1 (⟨by decide, by decide⟩ : sv_R (19 : Int)) (t := 43) rfl rfl (fun hc => ?_) (fun hc => ?_)
  · have h := h.1 (hc)
    refine sv_iload_n hM dX12_binary__43 rfl rfl ?_
    refine sv_bipush (d := (20 : Int)) hM dX12_binary__44 rfl rfl ?_
    refine sv_icmp_ne hM dX12_binary__46 hp1 (⟨by decide, by decide⟩ : sv_R (20 : Int)) (t := 60) rfl rfl (fun hc => ?_) (fun hc => ?_)
    · have h := h.1 (hc)
      refine sv_aload_n hM dX12_binary__60 rfl rfl ?_
      refine sv_iload_n hM dX12_binary__61 rfl rfl ?_
      refine sv_iload_n hM dX12_binary__62 rfl rfl ?_
      refine sv_iload_n hM dX12_binary__63 rfl rfl ?_
      refine sv_iload hM dX12_binary__64 rfl rfl ?_
      refine sv_iload hM dX12_binary__66 rfl rfl ?_
      obtain ⟨o13, h⟩ := h
      refine sv_callV hM dX12_binary__68 sm_iv_990 (by decide) (sm_a0 _) rfl rfl (Nat.le_of_ble_eq_true rfl) sm_h137 (Nat.le_of_ble_eq_true rfl) (Nat.le_of_ble_eq_true rfl) (F' := 4) (Nat.le_of_ble_eq_true rfl) rfl (t_binaryOf_ p1 x4 x6 x9 x11 S hok hp1 e5r e7r e10r e12r o13) (fun v S1 hq => ?_)
      obtain ⟨rfl, ok15, md16, hpo17⟩ := hq
      obtain ⟨g14, rfl⟩ : ∃ g, S1 = sv_sts S [5, 1011, 1113, 1111, 1112] g := ⟨_, md16.eq⟩
      show sv_T sm_XS sm_cs sm_L sm_sh 5 (q_binary_ p1 S) 174 71 [(0, .ref 0), (1, sv_I p1), (2, sv_I x4), (3, sv_I x6), (4, sv_I x9), (5, sv_I x11)] [] (sv_sts S [5, 1011, 1113, 1111, 1112] g14)
      have md18 : sv_mod [1076, 41, 42, 43, 44, 45, 46, 47, 1075, 1100029, 1092, 60, 58, 57, 63, 64, 1073, 1109, 1110, 1111, 1112, 5, 1011, 3, 4, 1007, 1113] S (sv_sts S [5, 1011, 1113, 1111, 1112] g14) := sv_mod.sts sv_mod.rf (by decide)
      have h := h g14 hpo17
      refine sv_aload_n hM dX12_binary__71 rfl rfl ?_
      refine sv_iload_n hM dX12_binary__72 rfl rfl ?_
      refine sv_iload_n hM dX12_binary__73 rfl rfl ?_
      refine sv_iload hM dX12_binary__74 rfl rfl ?_
      refine sv_callV hM dX12_binary__76 sm_iv_830 (by decide) (sm_a0 _) rfl rfl (Nat.le_of_ble_eq_true rfl) sm_h136 (Nat.le_of_ble_eq_true rfl) (Nat.le_of_ble_eq_true rfl) (F' := 0) (Nat.le_of_ble_eq_true rfl) rfl (t_joinsTexts p1 x4 x9 (sv_sts S [5, 1011, 1113, 1111, 1112] g14) ok15 hp1 e5r e10r) (fun v S1 hq => ?_)
      obtain ⟨r23, rfl, hr23, ok20, md21, hpo22⟩ := hq
      obtain rfl : (sv_sts S [5, 1011, 1113, 1111, 1112] g14) = S1 := (funext fun j => md21 j (by intro q; cases q)).symm
      show sv_T sm_XS sm_cs sm_L sm_sh 5 (q_binary_ p1 S) 174 79 [(0, .ref 0), (1, sv_I p1), (2, sv_I x4), (3, sv_I x6), (4, sv_I x9), (5, sv_I x11)] [sv_I r23] (sv_sts S [5, 1011, 1113, 1111, 1112] g14)
      have h := h r23 hr23 hpo22
      refine sv_cond_eq hM dX12_binary__79 hr23 (t := 92) rfl rfl (fun hc => ?_) (fun hc => ?_)
      · have h := h.1 (hc)
        refine sv_aload_n hM dX12_binary__92 rfl rfl ?_
        refine sv_iconst (d := (2 : Int)) hM dX12_binary__93 rfl rfl ?_
        obtain ⟨o24, h⟩ := h
        refine sv_callV hM dX12_binary__94 sm_iv_904 (by decide) (sm_a0 _) rfl rfl (Nat.le_of_ble_eq_true rfl) sm_h155 (Nat.le_of_ble_eq_true rfl) (Nat.le_of_ble_eq_true rfl) (F' := 2) (Nat.le_of_ble_eq_true rfl) rfl (t_gives (2 : Int) (sv_sts S [5, 1011, 1113, 1111, 1112] g14) ok20 (⟨by decide, by decide⟩ : sv_R (2 : Int)) o24) (fun v S1 hq => ?_)
        obtain ⟨rfl, ok26, md27, hpo28⟩ := hq
        obtain ⟨g25, rfl⟩ : ∃ g, S1 = sv_sts (sv_sts S [5, 1011, 1113, 1111, 1112] g14) [58, 63, 64, 57] g := ⟨_, md27.eq⟩
        show sv_T sm_XS sm_cs sm_L sm_sh 5 (q_binary_ p1 S) 174 97 [(0, .ref 0), (1, sv_I p1), (2, sv_I x4), (3, sv_I x6), (4, sv_I x9), (5, sv_I x11)] [] (sv_sts (sv_sts S [5, 1011, 1113, 1111, 1112] g14) [58, 63, 64, 57] g25)
        have md29 : sv_mod [1076, 41, 42, 43, 44, 45, 46, 47, 1075, 1100029, 1092, 60, 58, 57, 63, 64, 1073, 1109, 1110, 1111, 1112, 5, 1011, 3, 4, 1007, 1113] S (sv_sts (sv_sts S [5, 1011, 1113, 1111, 1112] g14) [58, 63, 64, 57] g25) := sv_mod.sts md18 (by decide)
        have h := h g25 hpo28
        exact sv_vret hM dX12_binary__97 rfl ⟨rfl, ok26, md29, h⟩
      · have h := h.2 (hc)
        refine sv_aload_n hM dX12_binary__82 rfl rfl ?_
        refine sv_bipush (d := (6 : Int)) hM dX12_binary__83 rfl rfl ?_
        refine sv_aload_n hM dX12_binary__85 rfl rfl ?_
        obtain ⟨o30, h⟩ := h
        refine sv_callV hM dX12_binary__86 sm_iv_803 (by decide) (sm_a0 _) rfl rfl (Nat.le_of_ble_eq_true rfl) sm_h123 (Nat.le_of_ble_eq_true rfl) (Nat.le_of_ble_eq_true rfl) (F' := 1) (Nat.le_of_ble_eq_true rfl) rfl (t_made  (sv_sts S [5, 1011, 1113, 1111, 1112] g14) ok20 o30) (fun v S1 hq => ?_)
        obtain ⟨r35, rfl, hr35, ok32, md33, hpo34⟩ := hq
        obtain ⟨g31, rfl⟩ : ∃ g, S1 = sv_sts (sv_sts S [5, 1011, 1113, 1111, 1112] g14) [1011, 3, 4, 1007, 1075] g := ⟨_, md33.eq⟩
        show sv_T sm_XS sm_cs sm_L sm_sh 5 (q_binary_ p1 S) 174 89 [(0, .ref 0), (1, sv_I p1), (2, sv_I x4), (3, sv_I x6), (4, sv_I x9), (5, sv_I x11)] [sv_I r35, sv_I (6 : Int), .ref 0] (sv_sts (sv_sts S [5, 1011, 1113, 1111, 1112] g14) [1011, 3, 4, 1007, 1075] g31)
        have md36 : sv_mod [1076, 41, 42, 43, 44, 45, 46, 47, 1075, 1100029, 1092, 60, 58, 57, 63, 64, 1073, 1109, 1110, 1111, 1112, 5, 1011, 3, 4, 1007, 1113] S (sv_sts (sv_sts S [5, 1011, 1113, 1111, 1112] g14) [1011, 3, 4, 1007, 1075] g31) := sv_mod.sts md18 (by decide)
        have h := h r35 hr35 g31 hpo34
        refine sv_callV hM dX12_binary__89 sm_iv_822 (by decide) (sm_a0 _) rfl rfl (Nat.le_of_ble_eq_true rfl) sm_h122 (Nat.le_of_ble_eq_true rfl) (Nat.le_of_ble_eq_true rfl) (F' := 0) (Nat.le_of_ble_eq_true rfl) rfl (t_give_ (6 : Int) r35 (sv_sts (sv_sts S [5, 1011, 1113, 1111, 1112] g14) [1011, 3, 4, 1007, 1075] g31) ok32 (⟨by decide, by decide⟩ : sv_R (6 : Int)) hr35) (fun v S1 hq => ?_)
        obtain ⟨rfl, ok38, md39, hpo40⟩ := hq
        obtain ⟨g37, rfl⟩ : ∃ g, S1 = sv_sts (sv_sts (sv_sts S [5, 1011, 1113, 1111, 1112] g14) [1011, 3, 4, 1007, 1075] g31) [1111, 1112] g := ⟨_, md39.eq⟩
        show sv_T sm_XS sm_cs sm_L sm_sh 5 (q_binary_ p1 S) 174 92 [(0, .ref 0), (1, sv_I p1), (2, sv_I x4), (3, sv_I x6), (4, sv_I x9), (5, sv_I x11)] [] (sv_sts (sv_sts (sv_sts S [5, 1011, 1113, 1111, 1112] g14) [1011, 3, 4, 1007, 1075] g31) [1111, 1112] g37)
        have md41 : sv_mod [1076, 41, 42, 43, 44, 45, 46, 47, 1075, 1100029, 1092, 60, 58, 57, 63, 64, 1073, 1109, 1110, 1111, 1112, 5, 1011, 3, 4, 1007, 1113] S (sv_sts (sv_sts (sv_sts S [5, 1011, 1113, 1111, 1112] g14) [1011, 3, 4, 1007, 1075] g31) [1111, 1112] g37) := sv_mod.sts md36 (by decide)
        have h := h g37 hpo40
        refine sv_aload_n hM dX12_binary__92 rfl rfl ?_
        refine sv_iconst (d := (2 : Int)) hM dX12_binary__93 rfl rfl ?_
        obtain ⟨o42, h⟩ := h
        refine sv_callV hM dX12_binary__94 sm_iv_904 (by decide) (sm_a0 _) rfl rfl (Nat.le_of_ble_eq_true rfl) sm_h155 (Nat.le_of_ble_eq_true rfl) (Nat.le_of_ble_eq_true rfl) (F' := 2) (Nat.le_of_ble_eq_true rfl) rfl (t_gives (2 : Int) (sv_sts (sv_sts (sv_sts S [5, 1011, 1113, 1111, 1112] g14) [1011, 3, 4, 1007, 1075] g31) [1111, 1112] g37) ok38 (⟨by decide, by decide⟩ : sv_R (2 : Int)) o42) (fun v S1 hq => ?_)
        obtain ⟨rfl, ok44, md45, hpo46⟩ := hq
        obtain ⟨g43, rfl⟩ : ∃ g, S1 = sv_sts (sv_sts (sv_sts (sv_sts S [5, 1011, 1113, 1111, 1112] g14) [1011, 3, 4, 1007, 1075] g31) [1111, 1112] g37) [58, 63, 64, 57] g := ⟨_, md45.eq⟩
        show sv_T sm_XS sm_cs sm_L sm_sh 5 (q_binary_ p1 S) 174 97 [(0, .ref 0), (1, sv_I p1), (2, sv_I x4), (3, sv_I x6), (4, sv_I x9), (5, sv_I x11)] [] (sv_sts (sv_sts (sv_sts (sv_sts S [5, 1011, 1113, 1111, 1112] g14) [1011, 3, 4, 1007, 1075] g31) [1111, 1112] g37) [58, 63, 64, 57] g43)
        have md47 : sv_mod [1076, 41, 42, 43, 44, 45, 46, 47, 1075, 1100029, 1092, 60, 58, 57, 63, 64, 1073, 1109, 1110, 1111, 1112, 5, 1011, 3, 4, 1007, 1113] S (sv_sts (sv_sts (sv_sts (sv_sts S [5, 1011, 1113, 1111, 1112] g14) [1011, 3, 4, 1007, 1075] g31) [1111, 1112] g37) [58, 63, 64, 57] g43) := sv_mod.sts md41 (by decide)
        have h := h g43 hpo46
        exact sv_vret hM dX12_binary__97 rfl ⟨rfl, ok44, md47, h⟩
    · have h := h.2 (hc)
      refine sv_aload_n hM dX12_binary__49 rfl rfl ?_
      refine sv_iload_n hM dX12_binary__50 rfl rfl ?_
      refine sv_iload_n hM dX12_binary__51 rfl rfl ?_
      refine sv_iload hM dX12_binary__52 rfl rfl ?_
      refine sv_iload hM dX12_binary__54 rfl rfl ?_
      obtain ⟨o48, h⟩ := h
      refine sv_callV hM dX12_binary__56 sm_iv_987 (by decide) (sm_a0 _) rfl rfl (Nat.le_of_ble_eq_true rfl) sm_h177 (Nat.le_of_ble_eq_true rfl) (Nat.le_of_ble_eq_true rfl) (F' := 4) (Nat.le_of_ble_eq_true rfl) rfl (t_isMadeBy x4 x6 x9 x11 S hok e5r e7r e10r e12r o48) (fun v S1 hq => ?_)
      obtain ⟨rfl, ok50, md51, hpo52⟩ := hq
      obtain ⟨g49, rfl⟩ : ∃ g, S1 = sv_sts S [1076, 41, 42, 43, 44, 45, 46, 47, 1075, 1100029, 1092, 60, 58, 57, 63, 64, 1073, 1109, 1110, 58, 63, 64, 57, 1111, 1112] g := ⟨_, md51.eq⟩
      show sv_T sm_XS sm_cs sm_L sm_sh 5 (q_binary_ p1 S) 174 59 [(0, .ref 0), (1, sv_I p1), (2, sv_I x4), (3, sv_I x6), (4, sv_I x9), (5, sv_I x11)] [] (sv_sts S [1076, 41, 42, 43, 44, 45, 46, 47, 1075, 1100029, 1092, 60, 58, 57, 63, 64, 1073, 1109, 1110, 58, 63, 64, 57, 1111, 1112] g49)
      have md53 : sv_mod [1076, 41, 42, 43, 44, 45, 46, 47, 1075, 1100029, 1092, 60, 58, 57, 63, 64, 1073, 1109, 1110, 1111, 1112, 5, 1011, 3, 4, 1007, 1113] S (sv_sts S [1076, 41, 42, 43, 44, 45, 46, 47, 1075, 1100029, 1092, 60, 58, 57, 63, 64, 1073, 1109, 1110, 58, 63, 64, 57, 1111, 1112] g49) := sv_mod.sts sv_mod.rf (by decide)
      have h := h g49 hpo52
      exact sv_vret hM dX12_binary__59 rfl ⟨rfl, ok50, md53, h⟩
  · have h := h.2 (hc)
    refine sv_aload_n hM dX12_binary__32 rfl rfl ?_
    refine sv_iload_n hM dX12_binary__33 rfl rfl ?_
    refine sv_iload_n hM dX12_binary__34 rfl rfl ?_
    refine sv_iload hM dX12_binary__35 rfl rfl ?_
    refine sv_iload hM dX12_binary__37 rfl rfl ?_
    obtain ⟨o54, h⟩ := h
    refine sv_callV hM dX12_binary__39 sm_iv_984 (by decide) (sm_a0 _) rfl rfl (Nat.le_of_ble_eq_true rfl) sm_h175 (Nat.le_of_ble_eq_true rfl) (Nat.le_of_ble_eq_true rfl) (F' := 4) (Nat.le_of_ble_eq_true rfl) rfl (t_within x4 x6 x9 x11 S hok e5r e7r e10r e12r o54) (fun v S1 hq => ?_)
    obtain ⟨rfl, ok56, md57, hpo58⟩ := hq
    obtain ⟨g55, rfl⟩ : ∃ g, S1 = sv_sts S [1076, 41, 42, 43, 44, 45, 46, 47, 1075, 1100029, 1092, 60, 58, 57, 63, 64, 1073, 1109, 1110, 1111, 1112, 5, 1011, 3, 4, 1007] g := ⟨_, md57.eq⟩
    show sv_T sm_XS sm_cs sm_L sm_sh 5 (q_binary_ p1 S) 174 42 [(0, .ref 0), (1, sv_I p1), (2, sv_I x4), (3, sv_I x6), (4, sv_I x9), (5, sv_I x11)] [] (sv_sts S [1076, 41, 42, 43, 44, 45, 46, 47, 1075, 1100029, 1092, 60, 58, 57, 63, 64, 1073, 1109, 1110, 1111, 1112, 5, 1011, 3, 4, 1007] g55)
    have md59 : sv_mod [1076, 41, 42, 43, 44, 45, 46, 47, 1075, 1100029, 1092, 60, 58, 57, 63, 64, 1073, 1109, 1110, 1111, 1112, 5, 1011, 3, 4, 1007, 1113] S (sv_sts S [1076, 41, 42, 43, 44, 45, 46, 47, 1075, 1100029, 1092, 60, 58, 57, 63, 64, 1073, 1109, 1110, 1111, 1112, 5, 1011, 3, 4, 1007] g55) := sv_mod.sts sv_mod.rf (by decide)
    have h := h g55 hpo58
    exact sv_vret hM dX12_binary__42 rfl ⟨rfl, ok56, md59, h⟩
