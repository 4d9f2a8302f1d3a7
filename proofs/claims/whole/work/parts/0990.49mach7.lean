theorem dX12_pushInto_0 : decode cX12_pushInto 0 = .ok (.aload_n 0, 1) := by decide +kernel
theorem dX12_pushInto_1 : decode cX12_pushInto 1 = .ok (.iload_n 1, 1) := by decide +kernel
theorem dX12_pushInto_2 : decode cX12_pushInto 2 = .ok (.invokevirtual 978, 3) := by decide +kernel
theorem dX12_pushInto_5 : decode cX12_pushInto 5 = .ok (.istore 4, 2) := by decide +kernel
theorem dX12_pushInto_7 : decode cX12_pushInto 7 = .ok (.aload_n 0, 1) := by decide +kernel
theorem dX12_pushInto_8 : decode cX12_pushInto 8 = .ok (.iconst 5, 1) := by decide +kernel
theorem dX12_pushInto_9 : decode cX12_pushInto 9 = .ok (.iload 4, 2) := by decide +kernel
theorem dX12_pushInto_11 : decode cX12_pushInto 11 = .ok (.invokevirtual 969, 3) := by decide +kernel
theorem dX12_pushInto_14 : decode cX12_pushInto 14 = .ok (.istore 5, 2) := by decide +kernel
theorem dX12_pushInto_16 : decode cX12_pushInto 16 = .ok (.aload_n 0, 1) := by decide +kernel
theorem dX12_pushInto_17 : decode cX12_pushInto 17 = .ok (.getfield 794, 3) := by decide +kernel
theorem dX12_pushInto_20 : decode cX12_pushInto 20 = .ok (.ifCond .eq 4, 3) := by decide +kernel
theorem dX12_pushInto_23 : decode cX12_pushInto 23 = .ok (.return_, 1) := by decide +kernel
theorem dX12_pushInto_24 : decode cX12_pushInto 24 = .ok (.aload_n 0, 1) := by decide +kernel
theorem dX12_pushInto_25 : decode cX12_pushInto 25 = .ok (.iload_n 1, 1) := by decide +kernel
theorem dX12_pushInto_26 : decode cX12_pushInto 26 = .ok (.iload 5, 2) := by decide +kernel
theorem dX12_pushInto_28 : decode cX12_pushInto 28 = .ok (.iload_n 2, 1) := by decide +kernel
theorem dX12_pushInto_29 : decode cX12_pushInto 29 = .ok (.iload_n 3, 1) := by decide +kernel
theorem dX12_pushInto_30 : decode cX12_pushInto 30 = .ok (.invokevirtual 870, 3) := by decide +kernel
theorem dX12_pushInto_33 : decode cX12_pushInto 33 = .ok (.aload_n 0, 1) := by decide +kernel
theorem dX12_pushInto_34 : decode cX12_pushInto 34 = .ok (.getfield 794, 3) := by decide +kernel
theorem dX12_pushInto_37 : decode cX12_pushInto 37 = .ok (.ifCond .eq 4, 3) := by decide +kernel
theorem dX12_pushInto_40 : decode cX12_pushInto 40 = .ok (.return_, 1) := by decide +kernel
theorem dX12_pushInto_41 : decode cX12_pushInto 41 = .ok (.iload 4, 2) := by decide +kernel
theorem dX12_pushInto_43 : decode cX12_pushInto 43 = .ok (.bipush 100, 2) := by decide +kernel
theorem dX12_pushInto_45 : decode cX12_pushInto 45 = .ok (.if_icmp .ne 8, 3) := by decide +kernel
theorem dX12_pushInto_48 : decode cX12_pushInto 48 = .ok (.iload 4, 2) := by decide +kernel
theorem dX12_pushInto_50 : decode cX12_pushInto 50 = .ok (.goto 7, 3) := by decide +kernel
theorem dX12_pushInto_53 : decode cX12_pushInto 53 = .ok (.iload 4, 2) := by decide +kernel
theorem dX12_pushInto_55 : decode cX12_pushInto 55 = .ok (.iconst 1, 1) := by decide +kernel
theorem dX12_pushInto_56 : decode cX12_pushInto 56 = .ok (.iadd, 1) := by decide +kernel
theorem dX12_pushInto_57 : decode cX12_pushInto 57 = .ok (.istore 4, 2) := by decide +kernel
theorem dX12_pushInto_59 : decode cX12_pushInto 59 = .ok (.aload_n 0, 1) := by decide +kernel
theorem dX12_pushInto_60 : decode cX12_pushInto 60 = .ok (.iload_n 1, 1) := by decide +kernel
theorem dX12_pushInto_61 : decode cX12_pushInto 61 = .ok (.iconst 0, 1) := by decide +kernel
theorem dX12_pushInto_62 : decode cX12_pushInto 62 = .ok (.iconst 5, 1) := by decide +kernel
theorem dX12_pushInto_63 : decode cX12_pushInto 63 = .ok (.iload 4, 2) := by decide +kernel
theorem dX12_pushInto_65 : decode cX12_pushInto 65 = .ok (.invokevirtual 870, 3) := by decide +kernel
theorem dX12_pushInto_68 : decode cX12_pushInto 68 = .ok (.aload_n 0, 1) := by decide +kernel
theorem dX12_pushInto_69 : decode cX12_pushInto 69 = .ok (.iconst 5, 1) := by decide +kernel
theorem dX12_pushInto_70 : decode cX12_pushInto 70 = .ok (.iload 4, 2) := by decide +kernel
theorem dX12_pushInto_72 : decode cX12_pushInto 72 = .ok (.invokevirtual 822, 3) := by decide +kernel
theorem dX12_pushInto_75 : decode cX12_pushInto 75 = .ok (.return_, 1) := by decide +kernel
theorem dX12_pop_0 : decode cX12_pop 0 = .ok (.aload_n 0, 1) := by decide +kernel
theorem dX12_pop_1 : decode cX12_pop 1 = .ok (.iload_n 1, 1) := by decide +kernel
theorem dX12_pop_2 : decode cX12_pop 2 = .ok (.invokevirtual 978, 3) := by decide +kernel
theorem dX12_pop_5 : decode cX12_pop 5 = .ok (.istore_n 2, 1) := by decide +kernel
theorem dX12_pop_6 : decode cX12_pop 6 = .ok (.aload_n 0, 1) := by decide +kernel
theorem dX12_pop_7 : decode cX12_pop 7 = .ok (.iconst 0, 1) := by decide +kernel
theorem dX12_pop_8 : decode cX12_pop 8 = .ok (.iconst 0, 1) := by decide +kernel
theorem dX12_pop_9 : decode cX12_pop 9 = .ok (.invokevirtual 822, 3) := by decide +kernel
theorem dX12_pop_12 : decode cX12_pop 12 = .ok (.iload_n 2, 1) := by decide +kernel
theorem dX12_pop_13 : decode cX12_pop 13 = .ok (.ifCond .ne 4, 3) := by decide +kernel
theorem dX12_pop_16 : decode cX12_pop 16 = .ok (.return_, 1) := by decide +kernel
theorem dX12_pop_17 : decode cX12_pop 17 = .ok (.aload_n 0, 1) := by decide +kernel
theorem dX12_pop_18 : decode cX12_pop 18 = .ok (.iconst 5, 1) := by decide +kernel
theorem dX12_pop_19 : decode cX12_pop 19 = .ok (.iload_n 2, 1) := by decide +kernel
theorem dX12_pop_20 : decode cX12_pop 20 = .ok (.iconst 1, 1) := by decide +kernel
theorem dX12_pop_21 : decode cX12_pop 21 = .ok (.isub, 1) := by decide +kernel
theorem dX12_pop_22 : decode cX12_pop 22 = .ok (.invokevirtual 969, 3) := by decide +kernel
theorem dX12_pop_25 : decode cX12_pop 25 = .ok (.istore_n 3, 1) := by decide +kernel
theorem dX12_pop_26 : decode cX12_pop 26 = .ok (.aload_n 0, 1) := by decide +kernel
theorem dX12_pop_27 : decode cX12_pop 27 = .ok (.getfield 794, 3) := by decide +kernel
theorem dX12_pop_30 : decode cX12_pop 30 = .ok (.ifCond .eq 4, 3) := by decide +kernel
theorem dX12_pop_33 : decode cX12_pop 33 = .ok (.return_, 1) := by decide +kernel
theorem dX12_pop_34 : decode cX12_pop 34 = .ok (.aload_n 0, 1) := by decide +kernel
theorem dX12_pop_35 : decode cX12_pop 35 = .ok (.iload_n 1, 1) := by decide +kernel
theorem dX12_pop_36 : decode cX12_pop 36 = .ok (.iload_n 3, 1) := by decide +kernel
theorem dX12_pop_37 : decode cX12_pop 37 = .ok (.invokevirtual 846, 3) := by decide +kernel
theorem dX12_pop_40 : decode cX12_pop 40 = .ok (.istore 4, 2) := by decide +kernel
theorem dX12_pop_42 : decode cX12_pop 42 = .ok (.iload 4, 2) := by decide +kernel
theorem dX12_pop_44 : decode cX12_pop 44 = .ok (.iconst (-1), 1) := by decide +kernel
theorem dX12_pop_45 : decode cX12_pop 45 = .ok (.if_icmp .eq 21, 3) := by decide +kernel
theorem dX12_pop_48 : decode cX12_pop 48 = .ok (.aload_n 0, 1) := by decide +kernel
theorem dX12_pop_49 : decode cX12_pop 49 = .ok (.aload_n 0, 1) := by decide +kernel
theorem dX12_pop_50 : decode cX12_pop 50 = .ok (.getfield 158, 3) := by decide +kernel
theorem dX12_pop_53 : decode cX12_pop 53 = .ok (.iload 4, 2) := by decide +kernel
theorem dX12_pop_55 : decode cX12_pop 55 = .ok (.iaload, 1) := by decide +kernel
theorem dX12_pop_56 : decode cX12_pop 56 = .ok (.aload_n 0, 1) := by decide +kernel
theorem dX12_pop_57 : decode cX12_pop 57 = .ok (.getfield 161, 3) := by decide +kernel
theorem dX12_pop_60 : decode cX12_pop 60 = .ok (.iload 4, 2) := by decide +kernel
theorem dX12_pop_62 : decode cX12_pop 62 = .ok (.iaload, 1) := by decide +kernel
theorem dX12_pop_63 : decode cX12_pop 63 = .ok (.invokevirtual 822, 3) := by decide +kernel
theorem dX12_pop_66 : decode cX12_pop 66 = .ok (.aload_n 0, 1) := by decide +kernel
theorem dX12_pop_67 : decode cX12_pop 67 = .ok (.iload_n 1, 1) := by decide +kernel
theorem dX12_pop_68 : decode cX12_pop 68 = .ok (.iload_n 3, 1) := by decide +kernel
theorem dX12_pop_69 : decode cX12_pop 69 = .ok (.invokevirtual 981, 3) := by decide +kernel
theorem dX12_pop_72 : decode cX12_pop 72 = .ok (.aload_n 0, 1) := by decide +kernel
theorem dX12_pop_73 : decode cX12_pop 73 = .ok (.iload_n 1, 1) := by decide +kernel
theorem dX12_pop_74 : decode cX12_pop 74 = .ok (.iconst 0, 1) := by decide +kernel
theorem dX12_pop_75 : decode cX12_pop 75 = .ok (.iconst 5, 1) := by decide +kernel
theorem dX12_pop_76 : decode cX12_pop 76 = .ok (.iload_n 2, 1) := by decide +kernel
theorem dX12_pop_77 : decode cX12_pop 77 = .ok (.iconst 1, 1) := by decide +kernel
theorem dX12_pop_78 : decode cX12_pop 78 = .ok (.isub, 1) := by decide +kernel
theorem dX12_pop_79 : decode cX12_pop 79 = .ok (.invokevirtual 870, 3) := by decide +kernel
theorem dX12_pop_82 : decode cX12_pop 82 = .ok (.return_, 1) := by decide +kernel
theorem dX12_hasOwn_0 : decode cX12_hasOwn 0 = .ok (.aload_n 0, 1) := by decide +kernel
theorem dX12_hasOwn_1 : decode cX12_hasOwn 1 = .ok (.iload_n 2, 1) := by decide +kernel
theorem dX12_hasOwn_2 : decode cX12_hasOwn 2 = .ok (.iload_n 3, 1) := by decide +kernel
theorem dX12_hasOwn_3 : decode cX12_hasOwn 3 = .ok (.invokevirtual 969, 3) := by decide +kernel
theorem dX12_hasOwn_6 : decode cX12_hasOwn 6 = .ok (.istore 4, 2) := by decide +kernel
theorem dX12_hasOwn_8 : decode cX12_hasOwn 8 = .ok (.aload_n 0, 1) := by decide +kernel
theorem dX12_hasOwn_9 : decode cX12_hasOwn 9 = .ok (.getfield 794, 3) := by decide +kernel
theorem dX12_hasOwn_12 : decode cX12_hasOwn 12 = .ok (.ifCond .ne 23, 3) := by decide +kernel
theorem dX12_hasOwn_15 : decode cX12_hasOwn 15 = .ok (.aload_n 0, 1) := by decide +kernel
theorem dX12_hasOwn_16 : decode cX12_hasOwn 16 = .ok (.aload_n 0, 1) := by decide +kernel
theorem dX12_hasOwn_17 : decode cX12_hasOwn 17 = .ok (.iload_n 1, 1) := by decide +kernel
theorem dX12_hasOwn_18 : decode cX12_hasOwn 18 = .ok (.iload 4, 2) := by decide +kernel
theorem dX12_hasOwn_20 : decode cX12_hasOwn 20 = .ok (.invokevirtual 846, 3) := by decide +kernel
theorem dX12_hasOwn_23 : decode cX12_hasOwn 23 = .ok (.iconst (-1), 1) := by decide +kernel
theorem dX12_hasOwn_24 : decode cX12_hasOwn 24 = .ok (.if_icmp .eq 7, 3) := by decide +kernel
theorem dX12_hasOwn_27 : decode cX12_hasOwn 27 = .ok (.iconst 1, 1) := by decide +kernel
theorem dX12_hasOwn_28 : decode cX12_hasOwn 28 = .ok (.goto 4, 3) := by decide +kernel
theorem dX12_hasOwn_31 : decode cX12_hasOwn 31 = .ok (.iconst 0, 1) := by decide +kernel
theorem dX12_hasOwn_32 : decode cX12_hasOwn 32 = .ok (.invokevirtual 827, 3) := by decide +kernel
theorem dX12_hasOwn_35 : decode cX12_hasOwn 35 = .ok (.return_, 1) := by decide +kernel
theorem dX12_charAt_0 : decode cX12_charAt 0 = .ok (.aload_n 0, 1) := by decide +kernel
theorem dX12_charAt_1 : decode cX12_charAt 1 = .ok (.iload_n 2, 1) := by decide +kernel
theorem dX12_charAt_2 : decode cX12_charAt 2 = .ok (.iload_n 3, 1) := by decide +kernel
theorem dX12_charAt_3 : decode cX12_charAt 3 = .ok (.invokevirtual 816, 3) := by decide +kernel
theorem dX12_charAt_6 : decode cX12_charAt 6 = .ok (.istore 4, 2) := by decide +kernel
theorem dX12_charAt_8 : decode cX12_charAt 8 = .ok (.aload_n 0, 1) := by decide +kernel
theorem dX12_charAt_9 : decode cX12_charAt 9 = .ok (.iconst 0, 1) := by decide +kernel
theorem dX12_charAt_10 : decode cX12_charAt 10 = .ok (.putfield 299, 3) := by decide +kernel
theorem dX12_charAt_13 : decode cX12_charAt 13 = .ok (.aload_n 0, 1) := by decide +kernel
theorem dX12_charAt_14 : decode cX12_charAt 14 = .ok (.getfield 806, 3) := by decide +kernel
theorem dX12_charAt_17 : decode cX12_charAt 17 = .ok (.ifCond .eq 8, 3) := by decide +kernel
theorem dX12_charAt_20 : decode cX12_charAt 20 = .ok (.iload 4, 2) := by decide +kernel
theorem dX12_charAt_22 : decode cX12_charAt 22 = .ok (.goto 4, 3) := by decide +kernel
theorem dX12_charAt_25 : decode cX12_charAt 25 = .ok (.iconst 0, 1) := by decide +kernel
theorem dX12_charAt_26 : decode cX12_charAt 26 = .ok (.istore 4, 2) := by decide +kernel
theorem dX12_charAt_28 : decode cX12_charAt 28 = .ok (.iload 4, 2) := by decide +kernel
theorem dX12_charAt_30 : decode cX12_charAt 30 = .ok (.iconst 0, 1) := by decide +kernel
theorem dX12_charAt_31 : decode cX12_charAt 31 = .ok (.aload_n 0, 1) := by decide +kernel
theorem dX12_charAt_32 : decode cX12_charAt 32 = .ok (.getfield 20, 3) := by decide +kernel
theorem dX12_charAt_35 : decode cX12_charAt 35 = .ok (.iload_n 1, 1) := by decide +kernel
theorem dX12_charAt_36 : decode cX12_charAt 36 = .ok (.iaload, 1) := by decide +kernel
theorem dX12_charAt_37 : decode cX12_charAt 37 = .ok (.iconst 1, 1) := by decide +kernel
theorem dX12_charAt_38 : decode cX12_charAt 38 = .ok (.isub, 1) := by decide +kernel
theorem dX12_charAt_39 : decode cX12_charAt 39 = .ok (.invokestatic 899, 3) := by decide +kernel
theorem dX12_charAt_42 : decode cX12_charAt 42 = .ok (.ifCond .eq 19, 3) := by decide +kernel
theorem dX12_charAt_45 : decode cX12_charAt 45 = .ok (.aload_n 0, 1) := by decide +kernel
theorem dX12_charAt_46 : decode cX12_charAt 46 = .ok (.aload_n 0, 1) := by decide +kernel
theorem dX12_charAt_47 : decode cX12_charAt 47 = .ok (.getfield 16, 3) := by decide +kernel
theorem dX12_charAt_50 : decode cX12_charAt 50 = .ok (.bipush 60, 2) := by decide +kernel
theorem dX12_charAt_52 : decode cX12_charAt 52 = .ok (.iload_n 1, 1) := by decide +kernel
theorem dX12_charAt_53 : decode cX12_charAt 53 = .ok (.imul, 1) := by decide +kernel
theorem dX12_charAt_54 : decode cX12_charAt 54 = .ok (.iload 4, 2) := by decide +kernel
theorem dX12_charAt_56 : decode cX12_charAt 56 = .ok (.iadd, 1) := by decide +kernel
theorem dX12_charAt_57 : decode cX12_charAt 57 = .ok (.caload, 1) := by decide +kernel
theorem dX12_charAt_58 : decode cX12_charAt 58 = .ok (.invokevirtual 324, 3) := by decide +kernel
theorem dX12_charAt_61 : decode cX12_charAt 61 = .ok (.aload_n 0, 1) := by decide +kernel
theorem dX12_charAt_62 : decode cX12_charAt 62 = .ok (.bipush 6, 2) := by decide +kernel
theorem dX12_charAt_64 : decode cX12_charAt 64 = .ok (.aload_n 0, 1) := by decide +kernel
theorem dX12_charAt_65 : decode cX12_charAt 65 = .ok (.invokevirtual 803, 3) := by decide +kernel
theorem dX12_charAt_68 : decode cX12_charAt 68 = .ok (.invokevirtual 822, 3) := by decide +kernel
theorem dX12_charAt_71 : decode cX12_charAt 71 = .ok (.return_, 1) := by decide +kernel
theorem dX12_nativeWith_0 : decode cX12_nativeWith 0 = .ok (.iload_n 1, 1) := by decide +kernel
theorem dX12_nativeWith_1 : decode cX12_nativeWith 1 = .ok (.bipush 22, 2) := by decide +kernel
theorem dX12_nativeWith_3 : decode cX12_nativeWith 3 = .ok (.if_icmp .ne 17, 3) := by decide +kernel
theorem dX12_nativeWith_6 : decode cX12_nativeWith 6 = .ok (.iload_n 2, 1) := by decide +kernel
theorem dX12_nativeWith_7 : decode cX12_nativeWith 7 = .ok (.bipush 6, 2) := by decide +kernel
theorem dX12_nativeWith_9 : decode cX12_nativeWith 9 = .ok (.if_icmp .ne 7, 3) := by decide +kernel
theorem dX12_nativeWith_12 : decode cX12_nativeWith 12 = .ok (.iconst 1, 1) := by decide +kernel
theorem dX12_nativeWith_13 : decode cX12_nativeWith 13 = .ok (.goto 34, 3) := by decide +kernel
theorem dX12_nativeWith_16 : decode cX12_nativeWith 16 = .ok (.iconst 0, 1) := by decide +kernel
theorem dX12_nativeWith_17 : decode cX12_nativeWith 17 = .ok (.goto 30, 3) := by decide +kernel
theorem dX12_nativeWith_20 : decode cX12_nativeWith 20 = .ok (.iload_n 2, 1) := by decide +kernel
theorem dX12_nativeWith_21 : decode cX12_nativeWith 21 = .ok (.bipush 7, 2) := by decide +kernel
theorem dX12_nativeWith_23 : decode cX12_nativeWith 23 = .ok (.if_icmp .ne 23, 3) := by decide +kernel
theorem dX12_nativeWith_26 : decode cX12_nativeWith 26 = .ok (.iload_n 1, 1) := by decide +kernel
theorem dX12_nativeWith_27 : decode cX12_nativeWith 27 = .ok (.bipush 21, 2) := by decide +kernel
theorem dX12_nativeWith_29 : decode cX12_nativeWith 29 = .ok (.if_icmp .eq 13, 3) := by decide +kernel
theorem dX12_nativeWith_32 : decode cX12_nativeWith 32 = .ok (.aload_n 0, 1) := by decide +kernel
theorem dX12_nativeWith_33 : decode cX12_nativeWith 33 = .ok (.getfield 143, 3) := by decide +kernel
theorem dX12_nativeWith_36 : decode cX12_nativeWith 36 = .ok (.iload_n 3, 1) := by decide +kernel
theorem dX12_nativeWith_37 : decode cX12_nativeWith 37 = .ok (.iaload, 1) := by decide +kernel
theorem dX12_nativeWith_38 : decode cX12_nativeWith 38 = .ok (.iconst 2, 1) := by decide +kernel
theorem dX12_nativeWith_39 : decode cX12_nativeWith 39 = .ok (.if_icmp .ne 7, 3) := by decide +kernel
theorem dX12_nativeWith_42 : decode cX12_nativeWith 42 = .ok (.iconst 1, 1) := by decide +kernel
theorem dX12_nativeWith_43 : decode cX12_nativeWith 43 = .ok (.goto 4, 3) := by decide +kernel
theorem dX12_nativeWith_46 : decode cX12_nativeWith 46 = .ok (.iconst 0, 1) := by decide +kernel
theorem dX12_nativeWith_47 : decode cX12_nativeWith 47 = .ok (.istore 6, 2) := by decide +kernel
theorem dX12_nativeWith_49 : decode cX12_nativeWith 49 = .ok (.iload 6, 2) := by decide +kernel
theorem dX12_nativeWith_51 : decode cX12_nativeWith 51 = .ok (.ifCond .ne 11, 3) := by decide +kernel
theorem dX12_nativeWith_54 : decode cX12_nativeWith 54 = .ok (.aload_n 0, 1) := by decide +kernel
theorem dX12_nativeWith_55 : decode cX12_nativeWith 55 = .ok (.bipush 6, 2) := by decide +kernel
theorem dX12_nativeWith_57 : decode cX12_nativeWith 57 = .ok (.invokevirtual 966, 3) := by decide +kernel
theorem dX12_nativeWith_60 : decode cX12_nativeWith 60 = .ok (.iconst 0, 1) := by decide +kernel
theorem dX12_nativeWith_61 : decode cX12_nativeWith 61 = .ok (.ireturn, 1) := by decide +kernel
theorem dX12_nativeWith_62 : decode cX12_nativeWith 62 = .ok (.iload_n 1, 1) := by decide +kernel
theorem dX12_nativeWith_63 : decode cX12_nativeWith 63 = .ok (.bipush 18, 2) := by decide +kernel
theorem dX12_nativeWith_65 : decode cX12_nativeWith 65 = .ok (.if_icmp .ne 15, 3) := by decide +kernel
theorem dX12_nativeWith_68 : decode cX12_nativeWith 68 = .ok (.aload_n 0, 1) := by decide +kernel
theorem dX12_nativeWith_69 : decode cX12_nativeWith 69 = .ok (.iload_n 3, 1) := by decide +kernel
theorem dX12_nativeWith_70 : decode cX12_nativeWith 70 = .ok (.iload 4, 2) := by decide +kernel
theorem dX12_nativeWith_72 : decode cX12_nativeWith 72 = .ok (.iload 5, 2) := by decide +kernel
theorem dX12_nativeWith_74 : decode cX12_nativeWith 74 = .ok (.invokevirtual 1023, 3) := by decide +kernel
theorem dX12_nativeWith_77 : decode cX12_nativeWith 77 = .ok (.goto 44, 3) := by decide +kernel
theorem dX12_nativeWith_80 : decode cX12_nativeWith 80 = .ok (.iload_n 1, 1) := by decide +kernel
theorem dX12_nativeWith_81 : decode cX12_nativeWith 81 = .ok (.bipush 19, 2) := by decide +kernel
theorem dX12_nativeWith_83 : decode cX12_nativeWith 83 = .ok (.if_icmp .ne 11, 3) := by decide +kernel
theorem dX12_nativeWith_86 : decode cX12_nativeWith 86 = .ok (.aload_n 0, 1) := by decide +kernel
theorem dX12_nativeWith_87 : decode cX12_nativeWith 87 = .ok (.iload_n 3, 1) := by decide +kernel
theorem dX12_nativeWith_88 : decode cX12_nativeWith 88 = .ok (.invokevirtual 1026, 3) := by decide +kernel
theorem dX12_nativeWith_91 : decode cX12_nativeWith 91 = .ok (.goto 30, 3) := by decide +kernel
theorem dX12_nativeWith_94 : decode cX12_nativeWith 94 = .ok (.iload_n 1, 1) := by decide +kernel
theorem dX12_nativeWith_95 : decode cX12_nativeWith 95 = .ok (.bipush 21, 2) := by decide +kernel
theorem dX12_nativeWith_97 : decode cX12_nativeWith 97 = .ok (.if_icmp .ne 15, 3) := by decide +kernel
theorem dX12_nativeWith_100 : decode cX12_nativeWith 100 = .ok (.aload_n 0, 1) := by decide +kernel
theorem dX12_nativeWith_101 : decode cX12_nativeWith 101 = .ok (.iload_n 3, 1) := by decide +kernel
theorem dX12_nativeWith_102 : decode cX12_nativeWith 102 = .ok (.iload 4, 2) := by decide +kernel
theorem dX12_nativeWith_104 : decode cX12_nativeWith 104 = .ok (.iload 5, 2) := by decide +kernel
theorem dX12_nativeWith_106 : decode cX12_nativeWith 106 = .ok (.invokevirtual 1029, 3) := by decide +kernel
theorem dX12_nativeWith_109 : decode cX12_nativeWith 109 = .ok (.goto 12, 3) := by decide +kernel
theorem dX12_nativeWith_112 : decode cX12_nativeWith 112 = .ok (.aload_n 0, 1) := by decide +kernel
theorem dX12_nativeWith_113 : decode cX12_nativeWith 113 = .ok (.iload_n 3, 1) := by decide +kernel
theorem dX12_nativeWith_114 : decode cX12_nativeWith 114 = .ok (.iload 4, 2) := by decide +kernel
theorem dX12_nativeWith_116 : decode cX12_nativeWith 116 = .ok (.iload 5, 2) := by decide +kernel
theorem dX12_nativeWith_118 : decode cX12_nativeWith 118 = .ok (.invokevirtual 1032, 3) := by decide +kernel
theorem dX12_nativeWith_121 : decode cX12_nativeWith 121 = .ok (.iconst 1, 1) := by decide +kernel
theorem dX12_nativeWith_122 : decode cX12_nativeWith 122 = .ok (.ireturn, 1) := by decide +kernel
theorem dX12_nativeOf_0 : decode cX12_nativeOf 0 = .ok (.aload_n 0, 1) := by decide +kernel
theorem dX12_nativeOf_1 : decode cX12_nativeOf 1 = .ok (.iconst 0, 1) := by decide +kernel
theorem dX12_nativeOf_2 : decode cX12_nativeOf 2 = .ok (.invokevirtual 1014, 3) := by decide +kernel
theorem dX12_nativeOf_5 : decode cX12_nativeOf 5 = .ok (.istore 5, 2) := by decide +kernel
theorem dX12_nativeOf_7 : decode cX12_nativeOf 7 = .ok (.aload_n 0, 1) := by decide +kernel
theorem dX12_nativeOf_8 : decode cX12_nativeOf 8 = .ok (.iconst 0, 1) := by decide +kernel
theorem dX12_nativeOf_9 : decode cX12_nativeOf 9 = .ok (.invokevirtual 1017, 3) := by decide +kernel
theorem dX12_nativeOf_12 : decode cX12_nativeOf 12 = .ok (.istore 6, 2) := by decide +kernel
theorem dX12_nativeOf_14 : decode cX12_nativeOf 14 = .ok (.iload_n 1, 1) := by decide +kernel
theorem dX12_nativeOf_15 : decode cX12_nativeOf 15 = .ok (.tableswitch 230 9 22 #[69, 125, 142, 157, 186, 230, 230, 230, 230, 215, 215, 230, 215, 215], 69) := by decide +kernel
theorem dX12_nativeOf_84 : decode cX12_nativeOf 84 = .ok (.aload_n 0, 1) := by decide +kernel
theorem dX12_nativeOf_85 : decode cX12_nativeOf 85 = .ok (.iload 5, 2) := by decide +kernel
theorem dX12_nativeOf_87 : decode cX12_nativeOf 87 = .ok (.iload 6, 2) := by decide +kernel
theorem dX12_nativeOf_89 : decode cX12_nativeOf 89 = .ok (.invokevirtual 969, 3) := by decide +kernel
theorem dX12_nativeOf_92 : decode cX12_nativeOf 92 = .ok (.istore 7, 2) := by decide +kernel
theorem dX12_nativeOf_94 : decode cX12_nativeOf 94 = .ok (.aload_n 0, 1) := by decide +kernel
theorem dX12_nativeOf_95 : decode cX12_nativeOf 95 = .ok (.getfield 794, 3) := by decide +kernel
theorem dX12_nativeOf_98 : decode cX12_nativeOf 98 = .ok (.ifCond .ne 33, 3) := by decide +kernel
theorem dX12_nativeOf_101 : decode cX12_nativeOf 101 = .ok (.aload_n 0, 1) := by decide +kernel
theorem dX12_nativeOf_102 : decode cX12_nativeOf 102 = .ok (.getfield 864, 3) := by decide +kernel
theorem dX12_nativeOf_105 : decode cX12_nativeOf 105 = .ok (.bipush 100, 2) := by decide +kernel
theorem dX12_nativeOf_107 : decode cX12_nativeOf 107 = .ok (.if_icmp .ge 24, 3) := by decide +kernel
theorem dX12_nativeOf_110 : decode cX12_nativeOf 110 = .ok (.aload_n 0, 1) := by decide +kernel
theorem dX12_nativeOf_111 : decode cX12_nativeOf 111 = .ok (.getfield 212, 3) := by decide +kernel
theorem dX12_nativeOf_114 : decode cX12_nativeOf 114 = .ok (.aload_n 0, 1) := by decide +kernel
theorem dX12_nativeOf_115 : decode cX12_nativeOf 115 = .ok (.getfield 864, 3) := by decide +kernel
theorem dX12_nativeOf_118 : decode cX12_nativeOf 118 = .ok (.iload 7, 2) := by decide +kernel
theorem dX12_nativeOf_120 : decode cX12_nativeOf 120 = .ok (.iastore, 1) := by decide +kernel
theorem dX12_nativeOf_121 : decode cX12_nativeOf 121 = .ok (.aload_n 0, 1) := by decide +kernel
theorem dX12_nativeOf_122 : decode cX12_nativeOf 122 = .ok (.dup, 1) := by decide +kernel
theorem dX12_nativeOf_123 : decode cX12_nativeOf 123 = .ok (.getfield 864, 3) := by decide +kernel
theorem dX12_nativeOf_126 : decode cX12_nativeOf 126 = .ok (.iconst 1, 1) := by decide +kernel
theorem dX12_nativeOf_127 : decode cX12_nativeOf 127 = .ok (.iadd, 1) := by decide +kernel
theorem dX12_nativeOf_128 : decode cX12_nativeOf 128 = .ok (.putfield 864, 3) := by decide +kernel
theorem dX12_nativeOf_131 : decode cX12_nativeOf 131 = .ok (.aload_n 0, 1) := by decide +kernel
theorem dX12_nativeOf_132 : decode cX12_nativeOf 132 = .ok (.iconst 0, 1) := by decide +kernel
theorem dX12_nativeOf_133 : decode cX12_nativeOf 133 = .ok (.iconst 0, 1) := by decide +kernel
theorem dX12_nativeOf_134 : decode cX12_nativeOf 134 = .ok (.invokevirtual 822, 3) := by decide +kernel
theorem dX12_nativeOf_137 : decode cX12_nativeOf 137 = .ok (.goto 173, 3) := by decide +kernel
theorem dX12_nativeOf_140 : decode cX12_nativeOf 140 = .ok (.aload_n 0, 1) := by decide +kernel
theorem dX12_nativeOf_141 : decode cX12_nativeOf 141 = .ok (.bipush 7, 2) := by decide +kernel
theorem dX12_nativeOf_143 : decode cX12_nativeOf 143 = .ok (.aload_n 0, 1) := by decide +kernel
theorem dX12_nativeOf_144 : decode cX12_nativeOf 144 = .ok (.iconst 1, 1) := by decide +kernel
theorem dX12_nativeOf_145 : decode cX12_nativeOf 145 = .ok (.bipush 23, 2) := by decide +kernel
theorem dX12_nativeOf_147 : decode cX12_nativeOf 147 = .ok (.iconst 0, 1) := by decide +kernel
theorem dX12_nativeOf_148 : decode cX12_nativeOf 148 = .ok (.invokevirtual 858, 3) := by decide +kernel
theorem dX12_nativeOf_151 : decode cX12_nativeOf 151 = .ok (.invokevirtual 822, 3) := by decide +kernel
theorem dX12_nativeOf_154 : decode cX12_nativeOf 154 = .ok (.goto 156, 3) := by decide +kernel
theorem dX12_nativeOf_157 : decode cX12_nativeOf 157 = .ok (.aload_n 0, 1) := by decide +kernel
theorem dX12_nativeOf_158 : decode cX12_nativeOf 158 = .ok (.bipush 7, 2) := by decide +kernel
theorem dX12_nativeOf_160 : decode cX12_nativeOf 160 = .ok (.aload_n 0, 1) := by decide +kernel
theorem dX12_nativeOf_161 : decode cX12_nativeOf 161 = .ok (.bipush 24, 2) := by decide +kernel
theorem dX12_nativeOf_163 : decode cX12_nativeOf 163 = .ok (.invokevirtual 923, 3) := by decide +kernel
theorem dX12_nativeOf_166 : decode cX12_nativeOf 166 = .ok (.invokevirtual 822, 3) := by decide +kernel
theorem dX12_nativeOf_169 : decode cX12_nativeOf 169 = .ok (.goto 141, 3) := by decide +kernel
theorem dX12_nativeOf_172 : decode cX12_nativeOf 172 = .ok (.aload_n 0, 1) := by decide +kernel
theorem dX12_nativeOf_173 : decode cX12_nativeOf 173 = .ok (.bipush 6, 2) := by decide +kernel
theorem dX12_nativeOf_175 : decode cX12_nativeOf 175 = .ok (.aload_n 0, 1) := by decide +kernel
theorem dX12_nativeOf_176 : decode cX12_nativeOf 176 = .ok (.getfield 995, 3) := by decide +kernel
theorem dX12_nativeOf_179 : decode cX12_nativeOf 179 = .ok (.ifCond .ne 8, 3) := by decide +kernel
theorem dX12_nativeOf_182 : decode cX12_nativeOf 182 = .ok (.bipush 30, 2) := by decide +kernel
theorem dX12_nativeOf_184 : decode cX12_nativeOf 184 = .ok (.goto 11, 3) := by decide +kernel
theorem dX12_nativeOf_187 : decode cX12_nativeOf 187 = .ok (.aload_n 0, 1) := by decide +kernel
theorem dX12_nativeOf_188 : decode cX12_nativeOf 188 = .ok (.iload 5, 2) := by decide +kernel
theorem dX12_nativeOf_190 : decode cX12_nativeOf 190 = .ok (.iload 6, 2) := by decide +kernel
theorem dX12_nativeOf_192 : decode cX12_nativeOf 192 = .ok (.invokevirtual 969, 3) := by decide +kernel
theorem dX12_nativeOf_195 : decode cX12_nativeOf 195 = .ok (.invokevirtual 822, 3) := by decide +kernel
theorem dX12_nativeOf_198 : decode cX12_nativeOf 198 = .ok (.goto 112, 3) := by decide +kernel
theorem dX12_nativeOf_201 : decode cX12_nativeOf 201 = .ok (.aload_n 0, 1) := by decide +kernel
theorem dX12_nativeOf_202 : decode cX12_nativeOf 202 = .ok (.iload 5, 2) := by decide +kernel
theorem dX12_nativeOf_204 : decode cX12_nativeOf 204 = .ok (.iload 6, 2) := by decide +kernel
theorem dX12_nativeOf_206 : decode cX12_nativeOf 206 = .ok (.invokevirtual 816, 3) := by decide +kernel
theorem dX12_nativeOf_209 : decode cX12_nativeOf 209 = .ok (.istore 7, 2) := by decide +kernel
theorem dX12_nativeOf_211 : decode cX12_nativeOf 211 = .ok (.aload_n 0, 1) := by decide +kernel
theorem dX12_nativeOf_212 : decode cX12_nativeOf 212 = .ok (.aload_n 0, 1) := by decide +kernel
theorem dX12_nativeOf_213 : decode cX12_nativeOf 213 = .ok (.getfield 806, 3) := by decide +kernel
theorem dX12_nativeOf_216 : decode cX12_nativeOf 216 = .ok (.ifCond .ne 7, 3) := by decide +kernel
theorem dX12_nativeOf_219 : decode cX12_nativeOf 219 = .ok (.iconst 1, 1) := by decide +kernel
theorem dX12_nativeOf_220 : decode cX12_nativeOf 220 = .ok (.goto 4, 3) := by decide +kernel
theorem dX12_nativeOf_223 : decode cX12_nativeOf 223 = .ok (.iconst 0, 1) := by decide +kernel
theorem dX12_nativeOf_224 : decode cX12_nativeOf 224 = .ok (.invokevirtual 827, 3) := by decide +kernel
theorem dX12_nativeOf_227 : decode cX12_nativeOf 227 = .ok (.goto 83, 3) := by decide +kernel
theorem dX12_nativeOf_230 : decode cX12_nativeOf 230 = .ok (.aload_n 0, 1) := by decide +kernel
theorem dX12_nativeOf_231 : decode cX12_nativeOf 231 = .ok (.iload_n 1, 1) := by decide +kernel
theorem dX12_nativeOf_232 : decode cX12_nativeOf 232 = .ok (.iload_n 2, 1) := by decide +kernel
theorem dX12_nativeOf_233 : decode cX12_nativeOf 233 = .ok (.iload_n 3, 1) := by decide +kernel
theorem dX12_nativeOf_234 : decode cX12_nativeOf 234 = .ok (.iload 5, 2) := by decide +kernel
theorem dX12_nativeOf_236 : decode cX12_nativeOf 236 = .ok (.iload 6, 2) := by decide +kernel
theorem dX12_nativeOf_238 : decode cX12_nativeOf 238 = .ok (.invokevirtual 1020, 3) := by decide +kernel
theorem dX12_nativeOf_241 : decode cX12_nativeOf 241 = .ok (.ifCond .ne 69, 3) := by decide +kernel
theorem dX12_nativeOf_244 : decode cX12_nativeOf 244 = .ok (.return_, 1) := by decide +kernel
theorem dX12_nativeOf_245 : decode cX12_nativeOf 245 = .ok (.aload_n 0, 1) := by decide +kernel
theorem dX12_nativeOf_246 : decode cX12_nativeOf 246 = .ok (.iload_n 1, 1) := by decide +kernel
theorem dX12_nativeOf_247 : decode cX12_nativeOf 247 = .ok (.bipush 9, 2) := by decide +kernel
theorem dX12_nativeOf_249 : decode cX12_nativeOf 249 = .ok (.isub, 1) := by decide +kernel
theorem dX12_nativeOf_250 : decode cX12_nativeOf 250 = .ok (.iload_n 1, 1) := by decide +kernel
theorem dX12_nativeOf_251 : decode cX12_nativeOf 251 = .ok (.bipush 11, 2) := by decide +kernel
theorem dX12_nativeOf_253 : decode cX12_nativeOf 253 = .ok (.iadd, 1) := by decide +kernel
theorem dX12_nativeOf_254 : decode cX12_nativeOf 254 = .ok (.iconst 0, 1) := by decide +kernel
theorem dX12_nativeOf_255 : decode cX12_nativeOf 255 = .ok (.invokevirtual 858, 3) := by decide +kernel
theorem dX12_nativeOf_258 : decode cX12_nativeOf 258 = .ok (.istore 7, 2) := by decide +kernel
theorem dX12_nativeOf_260 : decode cX12_nativeOf 260 = .ok (.aload_n 0, 1) := by decide +kernel
theorem dX12_nativeOf_261 : decode cX12_nativeOf 261 = .ok (.getfield 794, 3) := by decide +kernel
theorem dX12_nativeOf_264 : decode cX12_nativeOf 264 = .ok (.ifCond .ne 38, 3) := by decide +kernel
theorem dX12_nativeOf_267 : decode cX12_nativeOf 267 = .ok (.aload_n 0, 1) := by decide +kernel
theorem dX12_nativeOf_268 : decode cX12_nativeOf 268 = .ok (.getfield 995, 3) := by decide +kernel
theorem dX12_nativeOf_271 : decode cX12_nativeOf 271 = .ok (.ifCond .le 31, 3) := by decide +kernel
theorem dX12_nativeOf_274 : decode cX12_nativeOf 274 = .ok (.aload_n 0, 1) := by decide +kernel
theorem dX12_nativeOf_275 : decode cX12_nativeOf 275 = .ok (.iload 5, 2) := by decide +kernel
theorem dX12_nativeOf_277 : decode cX12_nativeOf 277 = .ok (.iload 6, 2) := by decide +kernel
theorem dX12_nativeOf_279 : decode cX12_nativeOf 279 = .ok (.invokevirtual 969, 3) := by decide +kernel
theorem dX12_nativeOf_282 : decode cX12_nativeOf 282 = .ok (.istore 8, 2) := by decide +kernel
theorem dX12_nativeOf_284 : decode cX12_nativeOf 284 = .ok (.aload_n 0, 1) := by decide +kernel
theorem dX12_nativeOf_285 : decode cX12_nativeOf 285 = .ok (.getfield 794, 3) := by decide +kernel
theorem dX12_nativeOf_288 : decode cX12_nativeOf 288 = .ok (.ifCond .ne 14, 3) := by decide +kernel
theorem dX12_nativeOf_291 : decode cX12_nativeOf 291 = .ok (.aload_n 0, 1) := by decide +kernel
theorem dX12_nativeOf_292 : decode cX12_nativeOf 292 = .ok (.iload 7, 2) := by decide +kernel
theorem dX12_nativeOf_294 : decode cX12_nativeOf 294 = .ok (.iconst 3, 1) := by decide +kernel
theorem dX12_nativeOf_295 : decode cX12_nativeOf 295 = .ok (.bipush 6, 2) := by decide +kernel
theorem dX12_nativeOf_297 : decode cX12_nativeOf 297 = .ok (.iload 8, 2) := by decide +kernel
theorem dX12_nativeOf_299 : decode cX12_nativeOf 299 = .ok (.invokevirtual 870, 3) := by decide +kernel
theorem dX12_nativeOf_302 : decode cX12_nativeOf 302 = .ok (.aload_n 0, 1) := by decide +kernel
theorem dX12_nativeOf_303 : decode cX12_nativeOf 303 = .ok (.bipush 7, 2) := by decide +kernel
theorem dX12_nativeOf_305 : decode cX12_nativeOf 305 = .ok (.iload 7, 2) := by decide +kernel
theorem dX12_nativeOf_307 : decode cX12_nativeOf 307 = .ok (.invokevirtual 822, 3) := by decide +kernel
theorem dX12_nativeOf_310 : decode cX12_nativeOf 310 = .ok (.aload_n 0, 1) := by decide +kernel
theorem dX12_nativeOf_311 : decode cX12_nativeOf 311 = .ok (.iload 4, 2) := by decide +kernel
theorem dX12_nativeOf_313 : decode cX12_nativeOf 313 = .ok (.invokevirtual 904, 3) := by decide +kernel
theorem dX12_nativeOf_316 : decode cX12_nativeOf 316 = .ok (.return_, 1) := by decide +kernel

def q_pushInto (p1 : Int) (p2 : Int) (p3 : Int) (S : sv_S) : Option Value → sv_S → Prop := fun v S' => v = none ∧ sm_ok S' ∧ sv_mod [5, 1011, 3, 4, 1007, 1084, 1085, 48, 1086, 51, 52, 46, 47, 49, 50, 1075, 1100020, 1100021, 1100022, 1111, 1112] S S' ∧ (sm_PL (S' 1100020) (S' 51) (S' 52) (S' 46) (S' 47) (S' 1076 0) (S' 1086 0) ∧ sm_FR (S' 1100020) (S' 52) (S' 1100021) (S' 1100022) (3000 - (S' 1084 0)) (S' 1085 0) ∧ sm_PV (S' 1100020) (S' 48) (S' 49) (S' 50) (S' 44) (S' 1076 0) (S' 1007 0) ∧ sm_AL (S' 1100020) (S' 48) (S' 49) (S' 50) (S' 44) (S' 1076 0) (S' 1100032 0) ∧ sm_SV (S' 1100020) (S' 48) (S' 1100029) (S' 32) (S' 33) (S' 1076 0) (S' 1032 0) ∧ 0 ≤ (S' 1076 0) ∧ (S' 1076 0) ≤ 300 ∧ 0 ≤ (S' 1084 0) ∧ (S' 1084 0) ≤ 3000 ∧ 0 ≤ (S' 1086 0) ∧ sm_SC (S' 1100029) (S' 44) (S' 45) (S' 43) (S' 21) (S' 1076 0) (S' 1032 0) ∧ sm_PO (S' 42) (S' 1076 0) ∧ (S' 1100032 0) = -1 ∧ (sm_FO (S 44) (S 45) (S 1076 0) → sm_FO (S' 44) (S' 45) (S' 1076 0)) ∧ (S 1076 0) ≤ (S' 1076 0) ∧ 31 ≤ (S' 1007 0) ∧ (S' 1007 0) ≤ 400 ∧ sm_LN (S' 4) 400 (S' 1007 0) ∧ (S 1007 0) ≤ (S' 1007 0) ∧ (S 1086 0) ≤ (S' 1086 0) ∧ (S' 1086 0) ≤ (S 1086 0) + 3 ∧ ((S' 1075 0) = 0 → sm_VO (S' 44) (S' 1076 0) (S' 1007 0) ((S' 1111 0)) ((S' 1112 0))))
theorem la_pushInto_0 {x0 x1 x2 x3 x4 x5 : Int} (h0 : x0 ≤ 300) (h1 : 0 ≤ x1) (h2 : x1 ≤ 3000) (h3 : 0 ≤ x2) (h4 : x3 = (-1)) (h5 : 23 ≤ x0) (h6 : 0 ≤ x4) (h7 : x4 < x0) (h8 : x5 = 2) : 0 ≤ x0 ∧ x0 ≤ 300 ∧ 0 ≤ x1 ∧ x1 ≤ 3000 ∧ 0 ≤ x2 ∧ 0 ≤ x4 ∧ x4 < x0 ∧ x5 = 2 ∧ ¬ x4 = x3 := by omega
theorem la_pushInto_1 {x0 x1 : Int} : (5 : Int) = 6 → 0 ≤ x0 ∧ x0 < x1 := by omega
theorem la_pushInto_2 : (5 : Int) = 5 := by omega
theorem la_pushInto_3 {x0 : Int} (h0 : x0 = 0) : ¬ x0 = 1 := by omega
theorem la_pushInto_4 {x0 x1 : Int} (h0 : 31 ≤ x0) (h1 : x0 ≤ x1) : 1 ≤ x1 := by omega
theorem la_pushInto_5 {x0 : Int} (h0 : x0 = 0) : x0 < 400 := by omega
theorem la_pushInto_6 : (0 : Int) ≤ 0 := by omega
theorem la_pushInto_7 : (0 : Int) < 400 := by omega
theorem la_pushInto_8 {x0 x1 x2 : Int} (h0 : x0 = 6) (h1 : x1 ≤ 3) (h2 : x1 = x0) : x2 = 5 := by omega
theorem la_pushInto_9 {x0 x1 x2 : Int} (h0 : x0 = 6) (h1 : x1 ≤ 3) (h2 : x1 = x0) : 0 ≤ x2 := by omega
theorem la_pushInto_10 {x0 x1 x2 : Int} (h0 : x0 = 6) (h1 : x1 ≤ 3) (h2 : x1 = x0) : x2 ≤ 100 := by omega
theorem la_pushInto_11 {x0 : Int} (h0 : x0 ≤ 1900000000) : x0 < 2000000000 := by omega
theorem la_pushInto_12 {x0 x1 : Int} (h0 : 31 ≤ x0) (h1 : x0 ≤ x1) : 0 < x1 := by omega
theorem la_pushInto_13 : (0 : Int) ≤ 5 := by omega
theorem la_pushInto_14 : (5 : Int) ≤ 7 := by omega
theorem la_pushInto_15 {x0 x1 x2 : Int} : (5 : Int) = 7 → 0 ≤ x0 ∧ x0 < x1 ∧ ¬ x2 = 3 := by omega
theorem la_pushInto_16 {x0 x1 x2 x3 : Int} (h0 : x0 ≤ 1900000000) (h1 : x1 ≤ x0 + 1) (h2 : 0 ≤ x2) (h3 : x2 ≤ 100) : (x3 = 2 → (0 : Int) = 0 → (5 : Int) = 5 ∧ 0 ≤ x2 ∧ x2 ≤ 100) ∧ x1 < 2000000000 := by omega
theorem la_pushInto_17 {x0 : Int} : x0 ≤ x0 := by omega
theorem la_pushInto_18 {x0 x1 : Int} (h0 : 31 ≤ x0) (h1 : x0 ≤ x1) : 31 ≤ x1 := by omega
theorem la_pushInto_19 {x0 x1 x2 : Int} (h0 : x0 ≤ x1) (h1 : x1 ≤ x2) : x0 ≤ x2 := by omega
theorem la_pushInto_20 {x0 x1 x2 : Int} (h0 : x0 ≤ x1 + 1) (h1 : x2 ≤ x0 + 1) : x2 ≤ x1 + 3 := by omega
theorem la_pushInto_21 {x0 : Int} (h0 : x0 = 5) : 0 ≤ x0 := by omega
theorem la_pushInto_22 {x0 : Int} (h0 : x0 = 5) : x0 ≤ 7 := by omega
theorem la_pushInto_23 {x0 x1 x2 : Int} (h0 : x0 = 5) : x0 = 6 → 0 ≤ x1 ∧ x1 < x2 := by omega
theorem la_pushInto_24 {x0 x1 x2 x3 : Int} (h0 : x0 = 5) : x0 = 7 → 0 ≤ x1 ∧ x1 < x2 ∧ ¬ x3 = 3 := by omega
theorem la_pushInto_25 {x0 : Int} (h0 : 0 ≤ x0) (h1 : x0 ≤ 100) : ¬ x0 = 100 → sv_R (x0 + 1) ∧ 0 ≤ x0 + 1 ∧ x0 + 1 ≤ 100 := by omega
theorem la_pushInto_26 {x0 : Int} (h0 : 0 ≤ x0) (h1 : ¬ x0 = 0) : 0 < x0 := by omega
theorem la_pushInto_27 {x0 x1 : Int} (h0 : x0 = 0) (h1 : 0 < x1) : ¬ x1 = x0 := by omega
theorem la_pushInto_28 {x0 x1 : Int} (h0 : x0 ≤ x1 + 1) : x0 ≤ x1 + 3 := by omega
theorem la_pushInto_29 {x0 x1 : Int} (h0 : x0 < x1) (h1 : x1 ≤ 400) : x0 < 400 := by omega
theorem la_pushInto_30 {x0 : Int} (h0 : 0 < x0) (h1 : x0 = 0) : False := by omega
theorem la_pushInto_31 {x0 : Int} : x0 ≤ x0 + 3 := by omega
set_option maxHeartbeats 2000000 in
theorem f_pushInto : ∀ (p1 : Int) (p2 : Int) (p3 : Int) (S : sv_S), sm_ok S → sv_R p1 → sv_R p2 → sv_R p3 → ((S 1075 0) = 0 ∧ (S 1073 0) = 1 ∧ sm_PL (S 1100020) (S 51) (S 52) (S 46) (S 47) (S 1076 0) (S 1086 0) ∧ sm_FR (S 1100020) (S 52) (S 1100021) (S 1100022) (3000 - (S 1084 0)) (S 1085 0) ∧ sm_PV (S 1100020) (S 48) (S 49) (S 50) (S 44) (S 1076 0) (S 1007 0) ∧ sm_AL (S 1100020) (S 48) (S 49) (S 50) (S 44) (S 1076 0) (S 1100032 0) ∧ sm_SV (S 1100020) (S 48) (S 1100029) (S 32) (S 33) (S 1076 0) (S 1032 0) ∧ 0 ≤ (S 1076 0) ∧ (S 1076 0) ≤ 300 ∧ 0 ≤ (S 1084 0) ∧ (S 1084 0) ≤ 3000 ∧ 0 ≤ (S 1086 0) ∧ sm_SC (S 1100029) (S 44) (S 45) (S 43) (S 21) (S 1076 0) (S 1032 0) ∧ sm_PO (S 42) (S 1076 0) ∧ (S 1100032 0) = -1 ∧ sm_FO (S 44) (S 45) (S 1076 0) ∧ 23 ≤ (S 1076 0) ∧ 31 ≤ (S 1007 0) ∧ (S 1007 0) ≤ 400 ∧ sm_LN (S 4) 400 (S 1007 0) ∧ (S 1008 0) ≤ (S 1007 0) ∧ (S 1086 0) ≤ 1900000000 ∧ 0 ≤ p1 ∧ p1 < (S 1076 0) ∧ (S 44 p1) = 2 ∧ sm_VO (S 44) (S 1076 0) (S 1007 0) (p2) (p3)) → (sm_PL (S 1100020) (S 51) (S 52) (S 46) (S 47) (S 1076 0) (S 1086 0) ∧ sm_FR (S 1100020) (S 52) (S 1100021) (S 1100022) (3000 - (S 1084 0)) (S 1085 0) ∧ sm_PV (S 1100020) (S 48) (S 49) (S 50) (S 44) (S 1076 0) (S 1007 0) ∧ sm_AL (S 1100020) (S 48) (S 49) (S 50) (S 44) (S 1076 0) (S 1100032 0) ∧ sm_SV (S 1100020) (S 48) (S 1100029) (S 32) (S 33) (S 1076 0) (S 1032 0) ∧ 0 ≤ (S 1076 0) ∧ (S 1076 0) ≤ 300 ∧ 0 ≤ (S 1084 0) ∧ (S 1084 0) ≤ 3000 ∧ 0 ≤ (S 1086 0) ∧ 0 ≤ p1 ∧ p1 < (S 1076 0) ∧ (S 44 p1) = 2 ∧ ¬ p1 = (S 1100032 0)) ∧ (∀ r6 : Int, sv_R r6 → (0 ≤ r6 ∧ r6 ≤ 100) → (31 ≤ (S 1007 0) ∧ (S 1007 0) ≤ 400 ∧ sm_LN (S 4) 400 (S 1007 0) ∧ ((5 : Int) = 6 → 0 ≤ r6 ∧ r6 < (S 1007 0))) ∧ (∀ r12 : Int, sv_R r12 → ∀ g8 : sv_S, (0 ≤ r12 ∧ r12 < (g8 1007 0) ∧ ((5 : Int) = 5 → 0 ≤ r6 → r6 ≤ 100 → (g8 1075 0) = 0 → (g8 4 r12) ≤ 3) ∧ (S 1007 0) ≤ (g8 1007 0) ∧ (g8 1007 0) ≤ 400 ∧ sm_LN (g8 4) 400 (g8 1007 0) ∧ ((S 1075 0) = 1 → (g8 1075 0) = 1)) → ((sm_LN (g8 4) 400 (g8 1007 0) → 1 ≤ (g8 1007 0) → (g8 4 0) = 6) → ((0 ≤ (g8 1075 0) ∧ (g8 1075 0) ≤ 1) → ((((g8 1075 0) = (0 : Int)) → (sm_PL (S 1100020) (S 51) (S 52) (S 46) (S 47) (S 1076 0) (S 1086 0) ∧ sm_FR (S 1100020) (S 52) (S 1100021) (S 1100022) (3000 - (S 1084 0)) (S 1085 0) ∧ sm_PV (S 1100020) (S 48) (S 49) (S 50) (S 44) (S 1076 0) (g8 1007 0) ∧ sm_AL (S 1100020) (S 48) (S 49) (S 50) (S 44) (S 1076 0) (S 1100032 0) ∧ sm_SV (S 1100020) (S 48) (S 1100029) (S 32) (S 33) (S 1076 0) (S 1032 0) ∧ 0 ≤ (S 1076 0) ∧ (S 1076 0) ≤ 300 ∧ 0 ≤ (S 1084 0) ∧ (S 1084 0) ≤ 3000 ∧ 0 ≤ (S 1086 0) ∧ 0 ≤ p1 ∧ p1 < (S 1076 0) ∧ 0 ≤ r12 ∧ r12 < (g8 1007 0) ∧ sm_VO (S 44) (S 1076 0) (g8 1007 0) (p2) (p3) ∧ ((S 44 p1) = 2 → r12 = 0 → p2 = 5 ∧ 0 ≤ p3 ∧ p3 ≤ 100) ∧ (S 1086 0) < 2000000000) ∧ (∀ g17 : sv_S, (sm_PL (g17 1100020) (g17 51) (g17 52) (g17 46) (g17 47) (S 1076 0) (g17 1086 0) ∧ sm_FR (g17 1100020) (g17 52) (g17 1100021) (g17 1100022) (3000 - (g17 1084 0)) (g17 1085 0) ∧ sm_PV (g17 1100020) (g17 48) (g17 49) (g17 50) (S 44) (S 1076 0) (g8 1007 0) ∧ sm_AL (g17 1100020) (g17 48) (g17 49) (g17 50) (S 44) (S 1076 0) (S 1100032 0) ∧ sm_SV (g17 1100020) (g17 48) (S 1100029) (S 32) (S 33) (S 1076 0) (S 1032 0) ∧ 0 ≤ (S 1076 0) ∧ (S 1076 0) ≤ 300 ∧ 0 ≤ (g17 1084 0) ∧ (g17 1084 0) ≤ 3000 ∧ 0 ≤ (g17 1086 0) ∧ sm_KP (S 1100020) (S 48) (g17 1100020) (g17 48) ∧ ((g8 1075 0) = 1 → (g17 1075 0) = 1) ∧ ((g17 1075 0) = 0 → sm_HN (g17 1100020) (g17 48) p1 r12) ∧ (S 1086 0) ≤ (g17 1086 0) ∧ (g17 1086 0) ≤ (S 1086 0) + 1 ∧ ((S 1084 0) < 3000 → (g17 1075 0) = (g8 1075 0)) ∧ (g17 1084 0) ≤ (S 1084 0) + 1) → ((0 ≤ (g17 1075 0) ∧ (g17 1075 0) ≤ 1) → ((((g17 1075 0) = (0 : Int)) → ((∀ s23 : Int, sv_R s23 → (0 ≤ s23 ∧ s23 ≤ 100) → (sm_PL (g17 1100020) (g17 51) (g17 52) (g17 46) (g17 47) (S 1076 0) (g17 1086 0) ∧ sm_FR (g17 1100020) (g17 52) (g17 1100021) (g17 1100022) (3000 - (g17 1084 0)) (g17 1085 0) ∧ sm_PV (g17 1100020) (g17 48) (g17 49) (g17 50) (S 44) (S 1076 0) (g8 1007 0) ∧ sm_AL (g17 1100020) (g17 48) (g17 49) (g17 50) (S 44) (S 1076 0) (S 1100032 0) ∧ sm_SV (g17 1100020) (g17 48) (S 1100029) (S 32) (S 33) (S 1076 0) (S 1032 0) ∧ 0 ≤ (S 1076 0) ∧ (S 1076 0) ≤ 300 ∧ 0 ≤ (g17 1084 0) ∧ (g17 1084 0) ≤ 3000 ∧ 0 ≤ (g17 1086 0) ∧ 0 ≤ p1 ∧ p1 < (S 1076 0) ∧ 0 ≤ (0 : Int) ∧ (0 : Int) < (g8 1007 0) ∧ sm_VO (S 44) (S 1076 0) (g8 1007 0) ((5 : Int)) (s23) ∧ ((S 44 p1) = 2 → (0 : Int) = 0 → (5 : Int) = 5 ∧ 0 ≤ s23 ∧ s23 ≤ 100) ∧ (g17 1086 0) < 2000000000) ∧ (∀ g26 : sv_S, (sm_PL (g26 1100020) (g26 51) (g26 52) (g26 46) (g26 47) (S 1076 0) (g26 1086 0) ∧ sm_FR (g26 1100020) (g26 52) (g26 1100021) (g26 1100022) (3000 - (g26 1084 0)) (g26 1085 0) ∧ sm_PV (g26 1100020) (g26 48) (g26 49) (g26 50) (S 44) (S 1076 0) (g8 1007 0) ∧ sm_AL (g26 1100020) (g26 48) (g26 49) (g26 50) (S 44) (S 1076 0) (S 1100032 0) ∧ sm_SV (g26 1100020) (g26 48) (S 1100029) (S 32) (S 33) (S 1076 0) (S 1032 0) ∧ 0 ≤ (S 1076 0) ∧ (S 1076 0) ≤ 300 ∧ 0 ≤ (g26 1084 0) ∧ (g26 1084 0) ≤ 3000 ∧ 0 ≤ (g26 1086 0) ∧ sm_KP (g17 1100020) (g17 48) (g26 1100020) (g26 48) ∧ ((g17 1075 0) = 1 → (g26 1075 0) = 1) ∧ ((g26 1075 0) = 0 → sm_HN (g26 1100020) (g26 48) p1 (0 : Int)) ∧ (g17 1086 0) ≤ (g26 1086 0) ∧ (g26 1086 0) ≤ (g17 1086 0) + 1 ∧ ((g17 1084 0) < 3000 → (g26 1075 0) = (g17 1075 0)) ∧ (g26 1084 0) ≤ (g17 1084 0) + 1) → (∀ g31 : sv_S, ((g31 1111 0) = (5 : Int) ∧ (g31 1112 0) = s23) → (sm_PL (g26 1100020) (g26 51) (g26 52) (g26 46) (g26 47) (S 1076 0) (g26 1086 0) ∧ sm_FR (g26 1100020) (g26 52) (g26 1100021) (g26 1100022) (3000 - (g26 1084 0)) (g26 1085 0) ∧ sm_PV (g26 1100020) (g26 48) (g26 49) (g26 50) (S 44) (S 1076 0) (g8 1007 0) ∧ sm_AL (g26 1100020) (g26 48) (g26 49) (g26 50) (S 44) (S 1076 0) (S 1100032 0) ∧ sm_SV (g26 1100020) (g26 48) (S 1100029) (S 32) (S 33) (S 1076 0) (S 1032 0) ∧ 0 ≤ (S 1076 0) ∧ (S 1076 0) ≤ 300 ∧ 0 ≤ (g26 1084 0) ∧ (g26 1084 0) ≤ 3000 ∧ 0 ≤ (g26 1086 0) ∧ sm_SC (S 1100029) (S 44) (S 45) (S 43) (S 21) (S 1076 0) (S 1032 0) ∧ sm_PO (S 42) (S 1076 0) ∧ (S 1100032 0) = -1 ∧ (sm_FO (S 44) (S 45) (S 1076 0) → sm_FO (S 44) (S 45) (S 1076 0)) ∧ (S 1076 0) ≤ (S 1076 0) ∧ 31 ≤ (g8 1007 0) ∧ (g8 1007 0) ≤ 400 ∧ sm_LN (g8 4) 400 (g8 1007 0) ∧ (S 1007 0) ≤ (g8 1007 0) ∧ (S 1086 0) ≤ (g26 1086 0) ∧ (g26 1086 0) ≤ (S 1086 0) + 3 ∧ ((g26 1075 0) = 0 → sm_VO (S 44) (S 1076 0) (g8 1007 0) ((g31 1111 0)) ((g31 1112 0))))))) ∧ (((¬ r6 = (100 : Int)) → (sv_R (r6 + (1 : Int))) ∧ (0 ≤ (r6 + (1 : Int)) ∧ (r6 + (1 : Int)) ≤ 100)) ∧ ((¬ (¬ r6 = (100 : Int))) → (0 ≤ r6 ∧ r6 ≤ 100))))) ∧ ((¬ ((g17 1075 0) = (0 : Int))) → (sm_PL (g17 1100020) (g17 51) (g17 52) (g17 46) (g17 47) (S 1076 0) (g17 1086 0) ∧ sm_FR (g17 1100020) (g17 52) (g17 1100021) (g17 1100022) (3000 - (g17 1084 0)) (g17 1085 0) ∧ sm_PV (g17 1100020) (g17 48) (g17 49) (g17 50) (S 44) (S 1076 0) (g8 1007 0) ∧ sm_AL (g17 1100020) (g17 48) (g17 49) (g17 50) (S 44) (S 1076 0) (S 1100032 0) ∧ sm_SV (g17 1100020) (g17 48) (S 1100029) (S 32) (S 33) (S 1076 0) (S 1032 0) ∧ 0 ≤ (S 1076 0) ∧ (S 1076 0) ≤ 300 ∧ 0 ≤ (g17 1084 0) ∧ (g17 1084 0) ≤ 3000 ∧ 0 ≤ (g17 1086 0) ∧ sm_SC (S 1100029) (S 44) (S 45) (S 43) (S 21) (S 1076 0) (S 1032 0) ∧ sm_PO (S 42) (S 1076 0) ∧ (S 1100032 0) = -1 ∧ (sm_FO (S 44) (S 45) (S 1076 0) → sm_FO (S 44) (S 45) (S 1076 0)) ∧ (S 1076 0) ≤ (S 1076 0) ∧ 31 ≤ (g8 1007 0) ∧ (g8 1007 0) ≤ 400 ∧ sm_LN (g8 4) 400 (g8 1007 0) ∧ (S 1007 0) ≤ (g8 1007 0) ∧ (S 1086 0) ≤ (g17 1086 0) ∧ (g17 1086 0) ≤ (S 1086 0) + 3 ∧ ((g17 1075 0) = 0 → sm_VO (S 44) (S 1076 0) (g8 1007 0) ((S 1111 0)) ((S 1112 0))))))))) ∧ ((¬ ((g8 1075 0) = (0 : Int))) → (sm_PL (S 1100020) (S 51) (S 52) (S 46) (S 47) (S 1076 0) (S 1086 0) ∧ sm_FR (S 1100020) (S 52) (S 1100021) (S 1100022) (3000 - (S 1084 0)) (S 1085 0) ∧ sm_PV (S 1100020) (S 48) (S 49) (S 50) (S 44) (S 1076 0) (g8 1007 0) ∧ sm_AL (S 1100020) (S 48) (S 49) (S 50) (S 44) (S 1076 0) (S 1100032 0) ∧ sm_SV (S 1100020) (S 48) (S 1100029) (S 32) (S 33) (S 1076 0) (S 1032 0) ∧ 0 ≤ (S 1076 0) ∧ (S 1076 0) ≤ 300 ∧ 0 ≤ (S 1084 0) ∧ (S 1084 0) ≤ 3000 ∧ 0 ≤ (S 1086 0) ∧ sm_SC (S 1100029) (S 44) (S 45) (S 43) (S 21) (S 1076 0) (S 1032 0) ∧ sm_PO (S 42) (S 1076 0) ∧ (S 1100032 0) = -1 ∧ (sm_FO (S 44) (S 45) (S 1076 0) → sm_FO (S 44) (S 45) (S 1076 0)) ∧ (S 1076 0) ≤ (S 1076 0) ∧ 31 ≤ (g8 1007 0) ∧ (g8 1007 0) ≤ 400 ∧ sm_LN (g8 4) 400 (g8 1007 0) ∧ (S 1007 0) ≤ (g8 1007 0) ∧ (S 1086 0) ≤ (S 1086 0) ∧ (S 1086 0) ≤ (S 1086 0) + 3 ∧ ((g8 1075 0) = 0 → sm_VO (S 44) (S 1076 0) (g8 1007 0) ((S 1111 0)) ((S 1112 0)))))))))) := by
  intro p1
  intro p2
  intro p3
  intro S
  intro h1_
  intro h2_
  intro h3_
  intro h4_
  rintro ⟨h5_, ⟨h6_, ⟨h7_, ⟨h8_, ⟨h9_, ⟨h10_, ⟨h11_, ⟨h12_, ⟨h13_, ⟨h14_, ⟨h15_, ⟨h16_, ⟨h17_, ⟨h18_, ⟨h19_, ⟨h20_, ⟨h21_, ⟨h22_, ⟨h23_, ⟨h24_, ⟨h25_, ⟨h26_, ⟨h27_, ⟨h28_, ⟨h29_, h30_⟩⟩⟩⟩⟩⟩⟩⟩⟩⟩⟩⟩⟩⟩⟩⟩⟩⟩⟩⟩⟩⟩⟩⟩⟩
  refine ⟨⟨h7_, ⟨h8_, ⟨h9_, ⟨h10_, ⟨h11_, (la_pushInto_0 h13_ h14_ h15_ h16_ h19_ h21_ h27_ h28_ h29_)⟩⟩⟩⟩⟩, ?_⟩
  intro r6
  intro h31_
  rintro ⟨h32_, h33_⟩
  refine ⟨⟨h22_, ⟨h23_, ⟨h24_, la_pushInto_1⟩⟩⟩, ?_⟩
  intro r12
  intro h34_
  intro g8
  rintro ⟨h35_, ⟨h36_, ⟨h37_, ⟨h38_, ⟨h39_, ⟨h40_, h41_⟩⟩⟩⟩⟩⟩
  have h42_ := (h37_ la_pushInto_2)
  have h43_ := (h42_ h32_)
  have h44_ := (h43_ h33_)
  intro h45_
  have h46_ := (h45_ h40_)
  have h47_ := (h46_ (la_pushInto_4 h22_ h38_))
  rintro ⟨h48_, h49_⟩
  refine ⟨?_, ?_⟩
  · skip
    intro h50_
    have h51_ := (h44_ h50_)
    refine ⟨?_, ?_⟩
    · skip
      refine ⟨h7_, ?_⟩
      refine ⟨h8_, ?_⟩
      refine ⟨(sm_PV_m h9_ (Int.le_refl _) h38_ sm_F1_rf), ?_⟩
      refine ⟨h10_, ?_⟩
      refine ⟨h11_, ?_⟩
      refine ⟨h12_, ?_⟩
      refine ⟨h13_, ?_⟩
      refine ⟨h14_, ?_⟩
      refine ⟨h15_, ?_⟩
      refine ⟨h16_, ?_⟩
      refine ⟨h27_, ?_⟩
      refine ⟨h28_, ?_⟩
      refine ⟨h35_, ?_⟩
      refine ⟨h36_, ?_⟩
      refine ⟨(sm_VO_m h30_ (Int.le_refl _) h38_ sm_F1_rf), ?_⟩
      refine ⟨?_, ?_⟩
      · skip
        intro h52_
        intro h53_
        refine ⟨?_, ?_⟩
        · skip
          have e54_ : g8 4 r12 = g8 4 0 := congrArg ((g8 4)) h53_
          exact (la_pushInto_8 h47_ h51_ e54_)
        refine ⟨?_, ?_⟩
        · skip
          have e55_ : g8 4 r12 = g8 4 0 := congrArg ((g8 4)) h53_
          exact (la_pushInto_9 h47_ h51_ e55_)
        have e56_ : g8 4 r12 = g8 4 0 := congrArg ((g8 4)) h53_
        exact (la_pushInto_10 h47_ h51_ e56_)
      exact (la_pushInto_11 h26_)
    intro g17
    rintro ⟨h57_, ⟨h58_, ⟨h59_, ⟨h60_, ⟨h61_, ⟨h62_, ⟨h63_, ⟨h64_, ⟨h65_, ⟨h66_, ⟨h67_, ⟨h68_, ⟨h69_, ⟨h70_, ⟨h71_, ⟨h72_, h73_⟩⟩⟩⟩⟩⟩⟩⟩⟩⟩⟩⟩⟩⟩⟩⟩
    rintro ⟨h74_, h75_⟩
    refine ⟨?_, ?_⟩
    · skip
      intro h76_
      have h77_ := (h69_ h76_)
      refine ⟨?_, ?_⟩
      · skip
        intro s23
        intro h78_
        rintro ⟨h79_, h80_⟩
        refine ⟨⟨h57_, ⟨h58_, ⟨h59_, ⟨h60_, ⟨h61_, ⟨h12_, ⟨h13_, ⟨h64_, ⟨h65_, ⟨h66_, ⟨h27_, ⟨h28_, ⟨la_pushInto_6, ⟨(la_pushInto_12 h22_ h38_), ⟨(sm_VO_i la_pushInto_13 la_pushInto_14 la_pushInto_1 la_pushInto_15), (la_pushInto_16 h26_ h71_ h79_ h80_)⟩⟩⟩⟩⟩⟩⟩⟩⟩⟩⟩⟩⟩⟩⟩, ?_⟩
        intro g26
        rintro ⟨h81_, ⟨h82_, ⟨h83_, ⟨h84_, ⟨h85_, ⟨h86_, ⟨h87_, ⟨h88_, ⟨h89_, ⟨h90_, ⟨h91_, ⟨h92_, ⟨h93_, ⟨h94_, ⟨h95_, ⟨h96_, h97_⟩⟩⟩⟩⟩⟩⟩⟩⟩⟩⟩⟩⟩⟩⟩⟩
        intro g31
        rintro ⟨h98_, h99_⟩
        refine ⟨h81_, ?_⟩
        refine ⟨h82_, ?_⟩
        refine ⟨h83_, ?_⟩
        refine ⟨h84_, ?_⟩
        refine ⟨h85_, ?_⟩
        refine ⟨h12_, ?_⟩
        refine ⟨h13_, ?_⟩
        refine ⟨h88_, ?_⟩
        refine ⟨h89_, ?_⟩
        refine ⟨h90_, ?_⟩
        refine ⟨h17_, ?_⟩
        refine ⟨h18_, ?_⟩
        refine ⟨h19_, ?_⟩
        refine ⟨?_, ?_⟩
        · skip
          intro h100_
          exact h20_
        refine ⟨la_pushInto_17, ?_⟩
        refine ⟨(la_pushInto_18 h22_ h38_), ?_⟩
        refine ⟨h39_, ?_⟩
        refine ⟨h40_, ?_⟩
        refine ⟨h38_, ?_⟩
        refine ⟨(la_pushInto_19 h70_ h94_), ?_⟩
        refine ⟨(la_pushInto_20 h71_ h95_), ?_⟩
        intro h101_
        have h102_ := (h93_ h101_)
        exact (sm_VO_i (la_pushInto_21 h98_) (la_pushInto_22 h98_) (la_pushInto_23 h98_) (la_pushInto_24 h98_))
      refine ⟨(la_pushInto_25 h32_ h33_), ?_⟩
      intro h103_
      refine ⟨h32_, ?_⟩
      exact h33_
    intro h104_
    have h105_ : ¬ (S 1084 0 < 3000) := fun q_ => (la_pushInto_27 h50_ (la_pushInto_26 h74_ h104_)) (h72_ q_)
    refine ⟨h57_, ?_⟩
    refine ⟨h58_, ?_⟩
    refine ⟨h59_, ?_⟩
    refine ⟨h60_, ?_⟩
    refine ⟨h61_, ?_⟩
    refine ⟨h12_, ?_⟩
    refine ⟨h13_, ?_⟩
    refine ⟨h64_, ?_⟩
    refine ⟨h65_, ?_⟩
    refine ⟨h66_, ?_⟩
    refine ⟨h17_, ?_⟩
    refine ⟨h18_, ?_⟩
    refine ⟨h19_, ?_⟩
    refine ⟨?_, ?_⟩
    · skip
      intro h106_
      exact h20_
    refine ⟨la_pushInto_17, ?_⟩
    refine ⟨(la_pushInto_18 h22_ h38_), ?_⟩
    refine ⟨h39_, ?_⟩
    refine ⟨h40_, ?_⟩
    refine ⟨h38_, ?_⟩
    refine ⟨h70_, ?_⟩
    refine ⟨(la_pushInto_28 h71_), ?_⟩
    intro h107_
    exact ((la_pushInto_30 (la_pushInto_26 h74_ h104_) h107_)).elim
  intro h108_
  refine ⟨h7_, ?_⟩
  refine ⟨h8_, ?_⟩
  refine ⟨(sm_PV_m h9_ (Int.le_refl _) h38_ sm_F1_rf), ?_⟩
  refine ⟨h10_, ?_⟩
  refine ⟨h11_, ?_⟩
  refine ⟨h12_, ?_⟩
  refine ⟨h13_, ?_⟩
  refine ⟨h14_, ?_⟩
  refine ⟨h15_, ?_⟩
  refine ⟨h16_, ?_⟩
  refine ⟨h17_, ?_⟩
  refine ⟨h18_, ?_⟩
  refine ⟨h19_, ?_⟩
  refine ⟨?_, ?_⟩
  · skip
    intro h109_
    exact h20_
  refine ⟨la_pushInto_17, ?_⟩
  refine ⟨(la_pushInto_18 h22_ h38_), ?_⟩
  refine ⟨h39_, ?_⟩
  refine ⟨h40_, ?_⟩
  refine ⟨h38_, ?_⟩
  refine ⟨la_pushInto_17, ?_⟩
  refine ⟨la_pushInto_31, ?_⟩
  intro h110_
  exact ((la_pushInto_30 (la_pushInto_26 h48_ h108_) h110_)).elim
set_option maxRecDepth 8000 in
set_option maxHeartbeats 2000000 in
theorem t_pushInto : ∀ (p1 : Int) (p2 : Int) (p3 : Int) (S : sv_S), sm_ok S → sv_R p1 → sv_R p2 → sv_R p3 → ((S 1075 0) = 0 ∧ (S 1073 0) = 1 ∧ sm_PL (S 1100020) (S 51) (S 52) (S 46) (S 47) (S 1076 0) (S 1086 0) ∧ sm_FR (S 1100020) (S 52) (S 1100021) (S 1100022) (3000 - (S 1084 0)) (S 1085 0) ∧ sm_PV (S 1100020) (S 48) (S 49) (S 50) (S 44) (S 1076 0) (S 1007 0) ∧ sm_AL (S 1100020) (S 48) (S 49) (S 50) (S 44) (S 1076 0) (S 1100032 0) ∧ sm_SV (S 1100020) (S 48) (S 1100029) (S 32) (S 33) (S 1076 0) (S 1032 0) ∧ 0 ≤ (S 1076 0) ∧ (S 1076 0) ≤ 300 ∧ 0 ≤ (S 1084 0) ∧ (S 1084 0) ≤ 3000 ∧ 0 ≤ (S 1086 0) ∧ sm_SC (S 1100029) (S 44) (S 45) (S 43) (S 21) (S 1076 0) (S 1032 0) ∧ sm_PO (S 42) (S 1076 0) ∧ (S 1100032 0) = -1 ∧ sm_FO (S 44) (S 45) (S 1076 0) ∧ 23 ≤ (S 1076 0) ∧ 31 ≤ (S 1007 0) ∧ (S 1007 0) ≤ 400 ∧ sm_LN (S 4) 400 (S 1007 0) ∧ (S 1008 0) ≤ (S 1007 0) ∧ (S 1086 0) ≤ 1900000000 ∧ 0 ≤ p1 ∧ p1 < (S 1076 0) ∧ (S 44 p1) = 2 ∧ sm_VO (S 44) (S 1076 0) (S 1007 0) (p2) (p3)) → sv_T sm_XS sm_cs sm_L sm_sh 4 (q_pushInto p1 p2 p3 S) 188 0 (lv_args 0 [.ref 0, sv_I p1, sv_I p2, sv_I p3]) [] S := by
  intro p1 p2 p3 S hok hp1 hp2 hp3 hpre
  have h := f_pushInto p1 p2 p3 S hok hp1 hp2 hp3 hpre
  have hM := sm_h188
  show sv_T sm_XS sm_cs sm_L sm_sh 4 (q_pushInto p1 p2 p3 S) 188 0 [(0, .ref 0), (1, sv_I p1), (2, sv_I p2), (3, sv_I p3)] [] S
  refine sv_aload_n hM dX12_pushInto_0 rfl rfl ?_
  refine sv_iload_n hM dX12_pushInto_1 rfl rfl ?_
  obtain ⟨o1, h⟩ := h
  refine sv_callV hM dX12_pushInto_2 sm_iv_978 (by decide) (sm_a0 _) rfl rfl (Nat.le_of_ble_eq_true rfl) sm_h144 (Nat.le_of_ble_eq_true rfl) (Nat.le_of_ble_eq_true rfl) (F' := 1) (Nat.le_of_ble_eq_true rfl) rfl (t_lengthOf p1 S hok hp1 o1) (fun v S1 hq => ?_)
  obtain ⟨r6, rfl, hr6, ok3, md4, hpo5⟩ := hq
  obtain rfl : S = S1 := (funext fun j => md4 j (by intro q; cases q)).symm
  show sv_T sm_XS sm_cs sm_L sm_sh 4 (q_pushInto p1 p2 p3 S) 188 5 [(0, .ref 0), (1, sv_I p1), (2, sv_I p2), (3, sv_I p3)] [sv_I r6] S
  have h := h r6 hr6 hpo5
  refine sv_istore hM dX12_pushInto_5 (by decide) rfl ?_
  show sv_T sm_XS sm_cs sm_L sm_sh 4 (q_pushInto p1 p2 p3 S) 188 7 [(0, .ref 0), (1, sv_I p1), (2, sv_I p2), (3, sv_I p3), (4, sv_I r6)] [] S
  refine sv_aload_n hM dX12_pushInto_7 rfl rfl ?_
  refine sv_iconst (d := (5 : Int)) hM dX12_pushInto_8 rfl rfl ?_
  refine sv_iload hM dX12_pushInto_9 rfl rfl ?_
  obtain ⟨o7, h⟩ := h
  refine sv_callV hM dX12_pushInto_11 sm_iv_969 (by decide) (sm_a0 _) rfl rfl (Nat.le_of_ble_eq_true rfl) sm_h126 (Nat.le_of_ble_eq_true rfl) (Nat.le_of_ble_eq_true rfl) (F' := 3) (Nat.le_of_ble_eq_true rfl) rfl (t_textOf (5 : Int) r6 S ok3 (⟨by decide, by decide⟩ : sv_R (5 : Int)) hr6 o7) (fun v S1 hq => ?_)
  obtain ⟨r12, rfl, hr12, ok9, md10, hpo11⟩ := hq
  obtain ⟨g8, rfl⟩ : ∃ g, S1 = sv_sts S [5, 1011, 3, 4, 1007, 1075] g := ⟨_, md10.eq⟩
  show sv_T sm_XS sm_cs sm_L sm_sh 4 (q_pushInto p1 p2 p3 S) 188 14 [(0, .ref 0), (1, sv_I p1), (2, sv_I p2), (3, sv_I p3), (4, sv_I r6)] [sv_I r12] (sv_sts S [5, 1011, 3, 4, 1007, 1075] g8)
  have md13 : sv_mod [5, 1011, 3, 4, 1007, 1084, 1085, 48, 1086, 51, 52, 46, 47, 49, 50, 1075, 1100020, 1100021, 1100022, 1111, 1112] S (sv_sts S [5, 1011, 3, 4, 1007, 1075] g8) := sv_mod.sts sv_mod.rf (by decide)
  have h := h r12 hr12 g8 hpo11
  have k14 : (sm_LN (g8 4) 400 (g8 1007 0) → 1 ≤ (g8 1007 0) → (g8 4 0) = 6) := sm_LN_6
  have h := h k14
  refine sv_istore hM dX12_pushInto_14 (by decide) rfl ?_
  show sv_T sm_XS sm_cs sm_L sm_sh 4 (q_pushInto p1 p2 p3 S) 188 16 [(0, .ref 0), (1, sv_I p1), (2, sv_I p2), (3, sv_I p3), (4, sv_I r6), (5, sv_I r12)] [] (sv_sts S [5, 1011, 3, 4, 1007, 1075] g8)
  refine sv_aload_n hM dX12_pushInto_16 rfl rfl ?_
  have k15 : (0 ≤ (g8 1075 0) ∧ (g8 1075 0) ≤ 1) := sm_okZ ok9 sm_r1075 0
  have h := h k15
  refine sv_getI hM dX12_pushInto_17 sm_fl_794 (sm_a0 _) sm_k75 rfl (x := (g8 1075 0)) rfl ?_
  refine sv_cond_eq hM dX12_pushInto_20 (sv_R01 k15) (t := 24) rfl rfl (fun hc => ?_) (fun hc => ?_)
  · have h := h.1 (hc)
    refine sv_aload_n hM dX12_pushInto_24 rfl rfl ?_
    refine sv_iload_n hM dX12_pushInto_25 rfl rfl ?_
    refine sv_iload hM dX12_pushInto_26 rfl rfl ?_
    refine sv_iload_n hM dX12_pushInto_28 rfl rfl ?_
    refine sv_iload_n hM dX12_pushInto_29 rfl rfl ?_
    obtain ⟨o16, h⟩ := h
    refine sv_callV hM dX12_pushInto_30 sm_iv_870 (by decide) (sm_a0 _) rfl rfl (Nat.le_of_ble_eq_true rfl) sm_h141 (Nat.le_of_ble_eq_true rfl) (Nat.le_of_ble_eq_true rfl) (F' := 1) (Nat.le_of_ble_eq_true rfl) rfl (t_set_ p1 r12 p2 p3 (sv_sts S [5, 1011, 3, 4, 1007, 1075] g8) ok9 hp1 hr12 hp2 hp3 o16) (fun v S1 hq => ?_)
    obtain ⟨rfl, ok18, md19, hpo20⟩ := hq
    obtain ⟨g17, rfl⟩ : ∃ g, S1 = sv_sts (sv_sts S [5, 1011, 3, 4, 1007, 1075] g8) [1084, 1085, 48, 1086, 51, 52, 46, 47, 49, 50, 1075, 1100020, 1100021, 1100022] g := ⟨_, md19.eq⟩
    show sv_T sm_XS sm_cs sm_L sm_sh 4 (q_pushInto p1 p2 p3 S) 188 33 [(0, .ref 0), (1, sv_I p1), (2, sv_I p2), (3, sv_I p3), (4, sv_I r6), (5, sv_I r12)] [] (sv_sts (sv_sts S [5, 1011, 3, 4, 1007, 1075] g8) [1084, 1085, 48, 1086, 51, 52, 46, 47, 49, 50, 1075, 1100020, 1100021, 1100022] g17)
    have md21 : sv_mod [5, 1011, 3, 4, 1007, 1084, 1085, 48, 1086, 51, 52, 46, 47, 49, 50, 1075, 1100020, 1100021, 1100022, 1111, 1112] S (sv_sts (sv_sts S [5, 1011, 3, 4, 1007, 1075] g8) [1084, 1085, 48, 1086, 51, 52, 46, 47, 49, 50, 1075, 1100020, 1100021, 1100022] g17) := sv_mod.sts md13 (by decide)
    have h := h g17 hpo20
    refine sv_aload_n hM dX12_pushInto_33 rfl rfl ?_
    have k22 : (0 ≤ (g17 1075 0) ∧ (g17 1075 0) ≤ 1) := sm_okZ ok18 sm_r1075 0
    have h := h k22
    refine sv_getI hM dX12_pushInto_34 sm_fl_794 (sm_a0 _) sm_k75 rfl (x := (g17 1075 0)) rfl ?_
    refine sv_cond_eq hM dX12_pushInto_37 (sv_R01 k22) (t := 41) rfl rfl (fun hc => ?_) (fun hc => ?_)
    · have h := h.1 (hc)
      have J36 : ∀ s23 : Int, sv_R s23 → (0 ≤ s23 ∧ s23 ≤ 100) → sv_T sm_XS sm_cs sm_L sm_sh 4 (q_pushInto p1 p2 p3 S) 188 57 [(0, .ref 0), (1, sv_I p1), (2, sv_I p2), (3, sv_I p3), (4, sv_I r6), (5, sv_I r12)] [sv_I s23] (sv_sts (sv_sts S [5, 1011, 3, 4, 1007, 1075] g8) [1084, 1085, 48, 1086, 51, 52, 46, 47, 49, 50, 1075, 1100020, 1100021, 1100022] g17) := by
        intro s23 hs23 hin24
        have h := h.1 s23 hs23 hin24
        refine sv_istore hM dX12_pushInto_57 (by decide) rfl ?_
        show sv_T sm_XS sm_cs sm_L sm_sh 4 (q_pushInto p1 p2 p3 S) 188 59 [(0, .ref 0), (1, sv_I p1), (2, sv_I p2), (3, sv_I p3), (4, sv_I s23), (5, sv_I r12)] [] (sv_sts (sv_sts S [5, 1011, 3, 4, 1007, 1075] g8) [1084, 1085, 48, 1086, 51, 52, 46, 47, 49, 50, 1075, 1100020, 1100021, 1100022] g17)
        refine sv_aload_n hM dX12_pushInto_59 rfl rfl ?_
        refine sv_iload_n hM dX12_pushInto_60 rfl rfl ?_
        refine sv_iconst (d := (0 : Int)) hM dX12_pushInto_61 rfl rfl ?_
        refine sv_iconst (d := (5 : Int)) hM dX12_pushInto_62 rfl rfl ?_
        refine sv_iload hM dX12_pushInto_63 rfl rfl ?_
        obtain ⟨o25, h⟩ := h
        refine sv_callV hM dX12_pushInto_65 sm_iv_870 (by decide) (sm_a0 _) rfl rfl (Nat.le_of_ble_eq_true rfl) sm_h141 (Nat.le_of_ble_eq_true rfl) (Nat.le_of_ble_eq_true rfl) (F' := 1) (Nat.le_of_ble_eq_true rfl) rfl (t_set_ p1 (0 : Int) (5 : Int) s23 (sv_sts (sv_sts S [5, 1011, 3, 4, 1007, 1075] g8) [1084, 1085, 48, 1086, 51, 52, 46, 47, 49, 50, 1075, 1100020, 1100021, 1100022] g17) ok18 hp1 (⟨by decide, by decide⟩ : sv_R (0 : Int)) (⟨by decide, by decide⟩ : sv_R (5 : Int)) hs23 o25) (fun v S1 hq => ?_)
        obtain ⟨rfl, ok27, md28, hpo29⟩ := hq
        obtain ⟨g26, rfl⟩ : ∃ g, S1 = sv_sts (sv_sts (sv_sts S [5, 1011, 3, 4, 1007, 1075] g8) [1084, 1085, 48, 1086, 51, 52, 46, 47, 49, 50, 1075, 1100020, 1100021, 1100022] g17) [1084, 1085, 48, 1086, 51, 52, 46, 47, 49, 50, 1075, 1100020, 1100021, 1100022] g := ⟨_, md28.eq⟩
        show sv_T sm_XS sm_cs sm_L sm_sh 4 (q_pushInto p1 p2 p3 S) 188 68 [(0, .ref 0), (1, sv_I p1), (2, sv_I p2), (3, sv_I p3), (4, sv_I s23), (5, sv_I r12)] [] (sv_sts (sv_sts (sv_sts S [5, 1011, 3, 4, 1007, 1075] g8) [1084, 1085, 48, 1086, 51, 52, 46, 47, 49, 50, 1075, 1100020, 1100021, 1100022] g17) [1084, 1085, 48, 1086, 51, 52, 46, 47, 49, 50, 1075, 1100020, 1100021, 1100022] g26)
        have md30 : sv_mod [5, 1011, 3, 4, 1007, 1084, 1085, 48, 1086, 51, 52, 46, 47, 49, 50, 1075, 1100020, 1100021, 1100022, 1111, 1112] S (sv_sts (sv_sts (sv_sts S [5, 1011, 3, 4, 1007, 1075] g8) [1084, 1085, 48, 1086, 51, 52, 46, 47, 49, 50, 1075, 1100020, 1100021, 1100022] g17) [1084, 1085, 48, 1086, 51, 52, 46, 47, 49, 50, 1075, 1100020, 1100021, 1100022] g26) := sv_mod.sts md21 (by decide)
        have h := h g26 hpo29
        refine sv_aload_n hM dX12_pushInto_68 rfl rfl ?_
        refine sv_iconst (d := (5 : Int)) hM dX12_pushInto_69 rfl rfl ?_
        refine sv_iload hM dX12_pushInto_70 rfl rfl ?_
        refine sv_callV hM dX12_pushInto_72 sm_iv_822 (by decide) (sm_a0 _) rfl rfl (Nat.le_of_ble_eq_true rfl) sm_h122 (Nat.le_of_ble_eq_true rfl) (Nat.le_of_ble_eq_true rfl) (F' := 0) (Nat.le_of_ble_eq_true rfl) rfl (t_give_ (5 : Int) s23 (sv_sts (sv_sts (sv_sts S [5, 1011, 3, 4, 1007, 1075] g8) [1084, 1085, 48, 1086, 51, 52, 46, 47, 49, 50, 1075, 1100020, 1100021, 1100022] g17) [1084, 1085, 48, 1086, 51, 52, 46, 47, 49, 50, 1075, 1100020, 1100021, 1100022] g26) ok27 (⟨by decide, by decide⟩ : sv_R (5 : Int)) hs23) (fun v S1 hq => ?_)
        obtain ⟨rfl, ok32, md33, hpo34⟩ := hq
        obtain ⟨g31, rfl⟩ : ∃ g, S1 = sv_sts (sv_sts (sv_sts (sv_sts S [5, 1011, 3, 4, 1007, 1075] g8) [1084, 1085, 48, 1086, 51, 52, 46, 47, 49, 50, 1075, 1100020, 1100021, 1100022] g17) [1084, 1085, 48, 1086, 51, 52, 46, 47, 49, 50, 1075, 1100020, 1100021, 1100022] g26) [1111, 1112] g := ⟨_, md33.eq⟩
        show sv_T sm_XS sm_cs sm_L sm_sh 4 (q_pushInto p1 p2 p3 S) 188 75 [(0, .ref 0), (1, sv_I p1), (2, sv_I p2), (3, sv_I p3), (4, sv_I s23), (5, sv_I r12)] [] (sv_sts (sv_sts (sv_sts (sv_sts S [5, 1011, 3, 4, 1007, 1075] g8) [1084, 1085, 48, 1086, 51, 52, 46, 47, 49, 50, 1075, 1100020, 1100021, 1100022] g17) [1084, 1085, 48, 1086, 51, 52, 46, 47, 49, 50, 1075, 1100020, 1100021, 1100022] g26) [1111, 1112] g31)
        have md35 : sv_mod [5, 1011, 3, 4, 1007, 1084, 1085, 48, 1086, 51, 52, 46, 47, 49, 50, 1075, 1100020, 1100021, 1100022, 1111, 1112] S (sv_sts (sv_sts (sv_sts (sv_sts S [5, 1011, 3, 4, 1007, 1075] g8) [1084, 1085, 48, 1086, 51, 52, 46, 47, 49, 50, 1075, 1100020, 1100021, 1100022] g17) [1084, 1085, 48, 1086, 51, 52, 46, 47, 49, 50, 1075, 1100020, 1100021, 1100022] g26) [1111, 1112] g31) := sv_mod.sts md30 (by decide)
        have h := h g31 hpo34
        exact sv_vret hM dX12_pushInto_75 rfl ⟨rfl, ok32, md35, h⟩
      have h := h.2
      refine sv_iload hM dX12_pushInto_41 rfl rfl ?_
      refine sv_bipush (d := (100 : Int)) hM dX12_pushInto_43 rfl rfl ?_
      refine sv_icmp_ne hM dX12_pushInto_45 hr6 (⟨by decide, by decide⟩ : sv_R (100 : Int)) (t := 53) rfl rfl (fun hc => ?_) (fun hc => ?_)
      · have h := h.1 (hc)
        refine sv_iload hM dX12_pushInto_53 rfl rfl ?_
        refine sv_iconst (d := (1 : Int)) hM dX12_pushInto_55 rfl rfl ?_
        refine sv_iadd hM dX12_pushInto_56 rfl ?_
        obtain ⟨o37, h⟩ := h
        have hb := J36 (r6 + (1 : Int)) o37 h
        exact sv_less (lv := [(0, .ref 0), (1, sv_I p1), (2, sv_I p2), (3, sv_I p3), (4, sv_I r6), (5, sv_I r12)]) (sv_Sub_cons rfl (sv_Sub_cons rfl (sv_Sub_cons rfl (sv_Sub_cons rfl (sv_Sub_cons rfl (sv_Sub_cons rfl sv_Sub_nil)))))) hb
      · have h := h.2 (hc)
        refine sv_iload hM dX12_pushInto_48 rfl rfl ?_
        refine sv_goto hM dX12_pushInto_50 (pc' := 57) rfl ?_
        have hb := J36 r6 hr6 h
        exact sv_less (lv := [(0, .ref 0), (1, sv_I p1), (2, sv_I p2), (3, sv_I p3), (4, sv_I r6), (5, sv_I r12)]) (sv_Sub_cons rfl (sv_Sub_cons rfl (sv_Sub_cons rfl (sv_Sub_cons rfl (sv_Sub_cons rfl (sv_Sub_cons rfl sv_Sub_nil)))))) hb
    · have h := h.2 (hc)
      exact sv_vret hM dX12_pushInto_40 rfl ⟨rfl, ok18, md21, h⟩
  · have h := h.2 (hc)
    exact sv_vret hM dX12_pushInto_23 rfl ⟨rfl, ok9, md13, h⟩
def q_pop (p1 : Int) (S : sv_S) : Option Value → sv_S → Prop := fun v S' => v = none ∧ sm_ok S' ∧ sv_mod [5, 1011, 3, 4, 1007, 1084, 1085, 48, 1086, 51, 52, 46, 47, 49, 50, 1075, 1100020, 1100021, 1100022, 1111, 1112] S S' ∧ (sm_PL (S' 1100020) (S' 51) (S' 52) (S' 46) (S' 47) (S' 1076 0) (S' 1086 0) ∧ sm_FR (S' 1100020) (S' 52) (S' 1100021) (S' 1100022) (3000 - (S' 1084 0)) (S' 1085 0) ∧ sm_PV (S' 1100020) (S' 48) (S' 49) (S' 50) (S' 44) (S' 1076 0) (S' 1007 0) ∧ sm_AL (S' 1100020) (S' 48) (S' 49) (S' 50) (S' 44) (S' 1076 0) (S' 1100032 0) ∧ sm_SV (S' 1100020) (S' 48) (S' 1100029) (S' 32) (S' 33) (S' 1076 0) (S' 1032 0) ∧ 0 ≤ (S' 1076 0) ∧ (S' 1076 0) ≤ 300 ∧ 0 ≤ (S' 1084 0) ∧ (S' 1084 0) ≤ 3000 ∧ 0 ≤ (S' 1086 0) ∧ sm_SC (S' 1100029) (S' 44) (S' 45) (S' 43) (S' 21) (S' 1076 0) (S' 1032 0) ∧ sm_PO (S' 42) (S' 1076 0) ∧ (S' 1100032 0) = -1 ∧ (sm_FO (S 44) (S 45) (S 1076 0) → sm_FO (S' 44) (S' 45) (S' 1076 0)) ∧ (S 1076 0) ≤ (S' 1076 0) ∧ 31 ≤ (S' 1007 0) ∧ (S' 1007 0) ≤ 400 ∧ sm_LN (S' 4) 400 (S' 1007 0) ∧ (S 1007 0) ≤ (S' 1007 0) ∧ (S 1086 0) ≤ (S' 1086 0) ∧ (S' 1086 0) ≤ (S 1086 0) + 3 ∧ ((S' 1075 0) = 0 → sm_VO (S' 44) (S' 1076 0) (S' 1007 0) ((S' 1111 0)) ((S' 1112 0))))
theorem la_pop_0 {x0 x1 x2 x3 x4 x5 : Int} (h0 : x0 ≤ 300) (h1 : 0 ≤ x1) (h2 : x1 ≤ 3000) (h3 : 0 ≤ x2) (h4 : x3 = (-1)) (h5 : 23 ≤ x0) (h6 : 0 ≤ x4) (h7 : x4 < x0) (h8 : x5 = 2) : 0 ≤ x0 ∧ x0 ≤ 300 ∧ 0 ≤ x1 ∧ x1 ≤ 3000 ∧ 0 ≤ x2 ∧ 0 ≤ x4 ∧ x4 < x0 ∧ x5 = 2 ∧ ¬ x4 = x3 := by omega
theorem la_pop_1 {x0 : Int} (h0 : 0 ≤ x0) (h1 : ¬ x0 = 0) : 0 < x0 := by omega
theorem la_pop_2 {x0 : Int} (h0 : x0 ≤ 100) (h1 : 0 < x0) : sv_R (x0 - 1) := by omega
theorem la_pop_3 {x0 x1 : Int} : (5 : Int) = 6 → 0 ≤ x0 - 1 ∧ x0 - 1 < x1 := by omega
theorem la_pop_4 : (5 : Int) = 5 := by omega
theorem la_pop_5 {x0 : Int} (h0 : x0 = 0) : ¬ x0 = 1 := by omega
theorem la_pop_6 {x0 : Int} (h0 : 0 < x0) : 0 ≤ x0 - 1 := by omega
theorem la_pop_7 {x0 : Int} (h0 : x0 ≤ 100) : x0 - 1 ≤ 100 := by omega
theorem la_pop_8 {x0 x1 : Int} (h0 : 31 ≤ x0) (h1 : x0 ≤ x1) : 1 ≤ x1 := by omega
theorem la_pop_9 {x0 x1 x2 x3 : Int} (h0 : x0 ≤ 300) (h1 : 0 ≤ x1) (h2 : x1 ≤ 3000) (h3 : 0 ≤ x2) (h4 : 23 ≤ x0) (h5 : 0 ≤ x3) (h6 : x3 < x0) : 0 ≤ x0 ∧ x0 ≤ 300 ∧ 0 ≤ x1 ∧ x1 ≤ 3000 ∧ 0 ≤ x2 ∧ 0 ≤ x3 ∧ x3 < x0 := by omega
theorem la_pop_10 {x0 : Int} (h0 : x0 = 2) : ¬ x0 = 3 := by omega
theorem la_pop_11 {x0 x1 x2 x3 x4 x5 x6 : Int} (h0 : x0 ≤ 300) (h1 : 0 ≤ x1) (h2 : x1 ≤ 3000) (h3 : 0 ≤ x2) (h4 : 23 ≤ x0) (h5 : 0 ≤ x3) (h6 : x3 < x0) (h7 : 0 < x4) (h8 : x5 < 1) : 0 ≤ x0 ∧ x0 ≤ 300 ∧ 0 ≤ x1 ∧ x1 ≤ 3000 ∧ 0 ≤ x2 ∧ 0 ≤ x3 ∧ x3 < x0 ∧ ¬ (x6 = 2 ∧ x4 = 0) ∧ x5 < 1 := by omega
theorem la_pop_12 : (0 : Int) ≤ 0 := by omega
theorem la_pop_13 {x0 x1 : Int} (h0 : 31 ≤ x0) (h1 : x0 ≤ x1) : 0 < x1 := by omega
theorem la_pop_14 : (0 : Int) ≤ 5 := by omega
theorem la_pop_15 : (5 : Int) ≤ 7 := by omega
theorem la_pop_16 {x0 x1 x2 : Int} : (5 : Int) = 7 → 0 ≤ x0 - 1 ∧ x0 - 1 < x1 ∧ ¬ x2 = 3 := by omega
theorem la_pop_17 {x0 x1 x2 : Int} (h0 : x0 ≤ 1900000000) (h1 : x1 ≤ 100) (h2 : 0 < x1) : (x2 = 2 → (0 : Int) = 0 → (5 : Int) = 5 ∧ 0 ≤ x1 - 1 ∧ x1 - 1 ≤ 100) ∧ x0 < 2000000000 := by omega
theorem la_pop_18 {x0 : Int} : x0 ≤ x0 := by omega
theorem la_pop_19 {x0 x1 : Int} (h0 : 31 ≤ x0) (h1 : x0 ≤ x1) : 31 ≤ x1 := by omega
theorem la_pop_20 {x0 x1 : Int} (h0 : x0 ≤ x1 + 1) : x0 ≤ x1 + 3 := by omega
theorem la_pop_21 {x0 x1 x2 x3 x4 : Int} (h0 : x0 = (-1)) : ¬ (0 ≤ x0 ∧ x0 < 3000 ∧ x1 = x2 ∧ x3 = x4) := by omega
theorem la_pop_22 {x0 : Int} (h0 : x0 = (-1)) : ¬ 0 ≤ x0 := by omega
theorem la_pop_23 {x0 : Int} (h0 : x0 = 0) : 0 ≤ x0 := by omega
theorem la_pop_24 {x0 : Int} (h0 : x0 = 0) : x0 ≤ 7 := by omega
theorem la_pop_25 {x0 x1 x2 x3 : Int} (h0 : 31 ≤ x0) (h1 : x1 = 0) (h2 : x2 = 0) (h3 : x0 ≤ x3) : x1 = 6 → 0 ≤ x2 ∧ x2 < x3 := by omega
theorem la_pop_26 {x0 x1 x2 x3 : Int} (h0 : 23 ≤ x0) (h1 : x1 = 0) (h2 : x2 = 0) : x1 = 7 → 0 ≤ x2 ∧ x2 < x0 ∧ ¬ x3 = 3 := by omega
theorem la_pop_27 {x0 : Int} (h0 : 0 ≤ x0) : (-1) ≤ x0 := by omega
theorem la_pop_28 {x0 : Int} (h0 : (-1) ≤ x0) (h1 : ¬ x0 = (-1)) : (-1) < x0 := by omega
theorem la_pop_29 {x0 x1 : Int} (h0 : 0 ≤ x0) (h1 : x1 = x0) : 0 ≤ x1 := by omega
theorem la_pop_30 {x0 : Int} (h0 : 0 ≤ x0) (h1 : x0 < 3000) : 0 ≤ x0 ∧ x0 < 3000 := by omega
theorem la_pop_31 {x0 : Int} : x0 ≤ x0 + 3 := by omega
theorem la_pop_32 {x0 x1 x2 : Int} (h0 : 31 ≤ x0) (h1 : x1 = 0) (h2 : x2 = 0) : x1 = 6 → 0 ≤ x2 ∧ x2 < x0 := by omega
set_option maxHeartbeats 2000000 in
theorem f_pop : ∀ (p1 : Int) (S : sv_S), sm_ok S → sv_R p1 → ((S 1075 0) = 0 ∧ (S 1073 0) = 1 ∧ sm_PL (S 1100020) (S 51) (S 52) (S 46) (S 47) (S 1076 0) (S 1086 0) ∧ sm_FR (S 1100020) (S 52) (S 1100021) (S 1100022) (3000 - (S 1084 0)) (S 1085 0) ∧ sm_PV (S 1100020) (S 48) (S 49) (S 50) (S 44) (S 1076 0) (S 1007 0) ∧ sm_AL (S 1100020) (S 48) (S 49) (S 50) (S 44) (S 1076 0) (S 1100032 0) ∧ sm_SV (S 1100020) (S 48) (S 1100029) (S 32) (S 33) (S 1076 0) (S 1032 0) ∧ 0 ≤ (S 1076 0) ∧ (S 1076 0) ≤ 300 ∧ 0 ≤ (S 1084 0) ∧ (S 1084 0) ≤ 3000 ∧ 0 ≤ (S 1086 0) ∧ sm_SC (S 1100029) (S 44) (S 45) (S 43) (S 21) (S 1076 0) (S 1032 0) ∧ sm_PO (S 42) (S 1076 0) ∧ (S 1100032 0) = -1 ∧ sm_FO (S 44) (S 45) (S 1076 0) ∧ 23 ≤ (S 1076 0) ∧ 31 ≤ (S 1007 0) ∧ (S 1007 0) ≤ 400 ∧ sm_LN (S 4) 400 (S 1007 0) ∧ (S 1008 0) ≤ (S 1007 0) ∧ (S 1086 0) ≤ 1900000000 ∧ 0 ≤ p1 ∧ p1 < (S 1076 0) ∧ (S 44 p1) = 2) → (sm_PL (S 1100020) (S 51) (S 52) (S 46) (S 47) (S 1076 0) (S 1086 0) ∧ sm_FR (S 1100020) (S 52) (S 1100021) (S 1100022) (3000 - (S 1084 0)) (S 1085 0) ∧ sm_PV (S 1100020) (S 48) (S 49) (S 50) (S 44) (S 1076 0) (S 1007 0) ∧ sm_AL (S 1100020) (S 48) (S 49) (S 50) (S 44) (S 1076 0) (S 1100032 0) ∧ sm_SV (S 1100020) (S 48) (S 1100029) (S 32) (S 33) (S 1076 0) (S 1032 0) ∧ 0 ≤ (S 1076 0) ∧ (S 1076 0) ≤ 300 ∧ 0 ≤ (S 1084 0) ∧ (S 1084 0) ≤ 3000 ∧ 0 ≤ (S 1086 0) ∧ 0 ≤ p1 ∧ p1 < (S 1076 0) ∧ (S 44 p1) = 2 ∧ ¬ p1 = (S 1100032 0)) ∧ (∀ r6 : Int, sv_R r6 → (0 ≤ r6 ∧ r6 ≤ 100) → (∀ g7 : sv_S, ((g7 1111 0) = (0 : Int) ∧ (g7 1112 0) = (0 : Int)) → (((¬ r6 = (0 : Int)) → (sv_R (r6 - (1 : Int))) ∧ (31 ≤ (S 1007 0) ∧ (S 1007 0) ≤ 400 ∧ sm_LN (S 4) 400 (S 1007 0) ∧ ((5 : Int) = 6 → 0 ≤ (r6 - (1 : Int)) ∧ (r6 - (1 : Int)) < (S 1007 0))) ∧ (∀ r18 : Int, sv_R r18 → ∀ g14 : sv_S, (0 ≤ r18 ∧ r18 < (g14 1007 0) ∧ ((5 : Int) = 5 → 0 ≤ (r6 - (1 : Int)) → (r6 - (1 : Int)) ≤ 100 → (g14 1075 0) = 0 → (g14 4 r18) ≤ 3) ∧ (S 1007 0) ≤ (g14 1007 0) ∧ (g14 1007 0) ≤ 400 ∧ sm_LN (g14 4) 400 (g14 1007 0) ∧ ((S 1075 0) = 1 → (g14 1075 0) = 1)) → ((sm_LN (g14 4) 400 (g14 1007 0) → 1 ≤ (g14 1007 0) → (g14 4 0) = 6) → ((0 ≤ (g14 1075 0) ∧ (g14 1075 0) ≤ 1) → ((((g14 1075 0) = (0 : Int)) → (((g14 4 r18) ≤ 3 → (g14 4 0) = 6 → ¬ r18 = 0) → (sm_PL (S 1100020) (S 51) (S 52) (S 46) (S 47) (S 1076 0) (S 1086 0) ∧ 0 ≤ (S 1076 0) ∧ (S 1076 0) ≤ 300 ∧ 0 ≤ (S 1084 0) ∧ (S 1084 0) ≤ 3000 ∧ 0 ≤ (S 1086 0) ∧ 0 ≤ p1 ∧ p1 < (S 1076 0)) ∧ (∀ r28 : Int, sv_R r28 → ((r28 = -1 ∨ (0 ≤ r28 ∧ r28 < 3000 ∧ (S 1100020 r28) = p1 ∧ (S 48 r28) = r18)) ∧ (r28 = -1 → sm_NB (S 1100020) (S 51) (S 48) (p1) (r18) (-1))) → ((sm_PV (S 1100020) (S 48) (S 49) (S 50) (S 44) (S 1076 0) (g14 1007 0) → 0 ≤ r28 → r28 < 3000 → 0 ≤ (S 1100020 r28) → (0 ≤ (S 48 r28) ∧ (S 48 r28) < (g14 1007 0)) ∧ sm_VO (S 44) (S 1076 0) (g14 1007 0) ((S 49 r28)) ((S 50 r28))) → ((∀ g30 : sv_S, (sm_VO (S 44) (S 1076 0) (g14 1007 0) ((g30 1111 0)) ((g30 1112 0))) → ((sm_SC (S 1100029) (S 44) (S 45) (S 43) (S 21) (S 1076 0) (S 1032 0) → 0 ≤ p1 → p1 < (S 1076 0) → ¬ (S 44 p1) = 3 → (S 1100029 p1) < 1) → (sm_PL (S 1100020) (S 51) (S 52) (S 46) (S 47) (S 1076 0) (S 1086 0) ∧ sm_FR (S 1100020) (S 52) (S 1100021) (S 1100022) (3000 - (S 1084 0)) (S 1085 0) ∧ sm_PV (S 1100020) (S 48) (S 49) (S 50) (S 44) (S 1076 0) (g14 1007 0) ∧ sm_AL (S 1100020) (S 48) (S 49) (S 50) (S 44) (S 1076 0) (S 1100032 0) ∧ sm_SV (S 1100020) (S 48) (S 1100029) (S 32) (S 33) (S 1076 0) (S 1032 0) ∧ 0 ≤ (S 1076 0) ∧ (S 1076 0) ≤ 300 ∧ 0 ≤ (S 1084 0) ∧ (S 1084 0) ≤ 3000 ∧ 0 ≤ (S 1086 0) ∧ 0 ≤ p1 ∧ p1 < (S 1076 0) ∧ ¬ ((S 44 p1) = 2 ∧ r18 = 0) ∧ (S 1100029 p1) < 1) ∧ (∀ g37 : sv_S, (sm_PL (g37 1100020) (S 51) (g37 52) (g37 46) (g37 47) (S 1076 0) (S 1086 0) ∧ sm_FR (g37 1100020) (g37 52) (g37 1100021) (g37 1100022) (3000 - (g37 1084 0)) (g37 1085 0) ∧ sm_PV (g37 1100020) (S 48) (S 49) (S 50) (S 44) (S 1076 0) (g14 1007 0) ∧ sm_AL (g37 1100020) (S 48) (S 49) (S 50) (S 44) (S 1076 0) (S 1100032 0) ∧ sm_SV (g37 1100020) (S 48) (S 1100029) (S 32) (S 33) (S 1076 0) (S 1032 0) ∧ 0 ≤ (S 1076 0) ∧ (S 1076 0) ≤ 300 ∧ 0 ≤ (g37 1084 0) ∧ (g37 1084 0) ≤ 3000 ∧ 0 ≤ (S 1086 0)) → (sm_PL (g37 1100020) (S 51) (g37 52) (g37 46) (g37 47) (S 1076 0) (S 1086 0) ∧ sm_FR (g37 1100020) (g37 52) (g37 1100021) (g37 1100022) (3000 - (g37 1084 0)) (g37 1085 0) ∧ sm_PV (g37 1100020) (S 48) (S 49) (S 50) (S 44) (S 1076 0) (g14 1007 0) ∧ sm_AL (g37 1100020) (S 48) (S 49) (S 50) (S 44) (S 1076 0) (S 1100032 0) ∧ sm_SV (g37 1100020) (S 48) (S 1100029) (S 32) (S 33) (S 1076 0) (S 1032 0) ∧ 0 ≤ (S 1076 0) ∧ (S 1076 0) ≤ 300 ∧ 0 ≤ (g37 1084 0) ∧ (g37 1084 0) ≤ 3000 ∧ 0 ≤ (S 1086 0) ∧ 0 ≤ p1 ∧ p1 < (S 1076 0) ∧ 0 ≤ (0 : Int) ∧ (0 : Int) < (g14 1007 0) ∧ sm_VO (S 44) (S 1076 0) (g14 1007 0) ((5 : Int)) ((r6 - (1 : Int))) ∧ ((S 44 p1) = 2 → (0 : Int) = 0 → (5 : Int) = 5 ∧ 0 ≤ (r6 - (1 : Int)) ∧ (r6 - (1 : Int)) ≤ 100) ∧ (S 1086 0) < 2000000000) ∧ (∀ g43 : sv_S, (sm_PL (g43 1100020) (g43 51) (g43 52) (g43 46) (g43 47) (S 1076 0) (g43 1086 0) ∧ sm_FR (g43 1100020) (g43 52) (g43 1100021) (g43 1100022) (3000 - (g43 1084 0)) (g43 1085 0) ∧ sm_PV (g43 1100020) (g43 48) (g43 49) (g43 50) (S 44) (S 1076 0) (g14 1007 0) ∧ sm_AL (g43 1100020) (g43 48) (g43 49) (g43 50) (S 44) (S 1076 0) (S 1100032 0) ∧ sm_SV (g43 1100020) (g43 48) (S 1100029) (S 32) (S 33) (S 1076 0) (S 1032 0) ∧ 0 ≤ (S 1076 0) ∧ (S 1076 0) ≤ 300 ∧ 0 ≤ (g43 1084 0) ∧ (g43 1084 0) ≤ 3000 ∧ 0 ≤ (g43 1086 0) ∧ sm_KP (g37 1100020) (S 48) (g43 1100020) (g43 48) ∧ ((g14 1075 0) = 1 → (g43 1075 0) = 1) ∧ ((g43 1075 0) = 0 → sm_HN (g43 1100020) (g43 48) p1 (0 : Int)) ∧ (S 1086 0) ≤ (g43 1086 0) ∧ (g43 1086 0) ≤ (S 1086 0) + 1 ∧ ((g37 1084 0) < 3000 → (g43 1075 0) = (g14 1075 0)) ∧ (g43 1084 0) ≤ (g37 1084 0) + 1) → (sm_PL (g43 1100020) (g43 51) (g43 52) (g43 46) (g43 47) (S 1076 0) (g43 1086 0) ∧ sm_FR (g43 1100020) (g43 52) (g43 1100021) (g43 1100022) (3000 - (g43 1084 0)) (g43 1085 0) ∧ sm_PV (g43 1100020) (g43 48) (g43 49) (g43 50) (S 44) (S 1076 0) (g14 1007 0) ∧ sm_AL (g43 1100020) (g43 48) (g43 49) (g43 50) (S 44) (S 1076 0) (S 1100032 0) ∧ sm_SV (g43 1100020) (g43 48) (S 1100029) (S 32) (S 33) (S 1076 0) (S 1032 0) ∧ 0 ≤ (S 1076 0) ∧ (S 1076 0) ≤ 300 ∧ 0 ≤ (g43 1084 0) ∧ (g43 1084 0) ≤ 3000 ∧ 0 ≤ (g43 1086 0) ∧ sm_SC (S 1100029) (S 44) (S 45) (S 43) (S 21) (S 1076 0) (S 1032 0) ∧ sm_PO (S 42) (S 1076 0) ∧ (S 1100032 0) = -1 ∧ (sm_FO (S 44) (S 45) (S 1076 0) → sm_FO (S 44) (S 45) (S 1076 0)) ∧ (S 1076 0) ≤ (S 1076 0) ∧ 31 ≤ (g14 1007 0) ∧ (g14 1007 0) ≤ 400 ∧ sm_LN (g14 4) 400 (g14 1007 0) ∧ (S 1007 0) ≤ (g14 1007 0) ∧ (S 1086 0) ≤ (g43 1086 0) ∧ (g43 1086 0) ≤ (S 1086 0) + 3 ∧ ((g43 1075 0) = 0 → sm_VO (S 44) (S 1076 0) (g14 1007 0) ((g30 1111 0)) ((g30 1112 0)))))))) ∧ ((sm_PV (S 1100020) (S 48) (S 49) (S 50) (S 44) (S 1076 0) (g14 1007 0) → 0 ≤ r28 → r28 < 3000 → 0 ≤ (S 1100020 r28) → (0 ≤ (S 48 r28) ∧ (S 48 r28) < (g14 1007 0)) ∧ sm_VO (S 44) (S 1076 0) (g14 1007 0) ((S 49 r28)) ((S 50 r28))) → (((r28 = (-1 : Int)) → (sm_VO (S 44) (S 1076 0) (g14 1007 0) ((g7 1111 0)) ((g7 1112 0)))) ∧ ((¬ (r28 = (-1 : Int))) → (0 ≤ r28 ∧ r28 < 3000) ∧ (sv_R (S 49 r28) → (sv_R (S 50 r28) → (∀ g53 : sv_S, ((g53 1111 0) = (S 49 r28) ∧ (g53 1112 0) = (S 50 r28)) → (sm_VO (S 44) (S 1076 0) (g14 1007 0) ((g53 1111 0)) ((g53 1112 0)))))))))))))) ∧ ((¬ ((g14 1075 0) = (0 : Int))) → (sm_PL (S 1100020) (S 51) (S 52) (S 46) (S 47) (S 1076 0) (S 1086 0) ∧ sm_FR (S 1100020) (S 52) (S 1100021) (S 1100022) (3000 - (S 1084 0)) (S 1085 0) ∧ sm_PV (S 1100020) (S 48) (S 49) (S 50) (S 44) (S 1076 0) (g14 1007 0) ∧ sm_AL (S 1100020) (S 48) (S 49) (S 50) (S 44) (S 1076 0) (S 1100032 0) ∧ sm_SV (S 1100020) (S 48) (S 1100029) (S 32) (S 33) (S 1076 0) (S 1032 0) ∧ 0 ≤ (S 1076 0) ∧ (S 1076 0) ≤ 300 ∧ 0 ≤ (S 1084 0) ∧ (S 1084 0) ≤ 3000 ∧ 0 ≤ (S 1086 0) ∧ sm_SC (S 1100029) (S 44) (S 45) (S 43) (S 21) (S 1076 0) (S 1032 0) ∧ sm_PO (S 42) (S 1076 0) ∧ (S 1100032 0) = -1 ∧ (sm_FO (S 44) (S 45) (S 1076 0) → sm_FO (S 44) (S 45) (S 1076 0)) ∧ (S 1076 0) ≤ (S 1076 0) ∧ 31 ≤ (g14 1007 0) ∧ (g14 1007 0) ≤ 400 ∧ sm_LN (g14 4) 400 (g14 1007 0) ∧ (S 1007 0) ≤ (g14 1007 0) ∧ (S 1086 0) ≤ (S 1086 0) ∧ (S 1086 0) ≤ (S 1086 0) + 3 ∧ ((g14 1075 0) = 0 → sm_VO (S 44) (S 1076 0) (g14 1007 0) ((g7 1111 0)) ((g7 1112 0)))))))))) ∧ ((¬ (¬ r6 = (0 : Int))) → (sm_PL (S 1100020) (S 51) (S 52) (S 46) (S 47) (S 1076 0) (S 1086 0) ∧ sm_FR (S 1100020) (S 52) (S 1100021) (S 1100022) (3000 - (S 1084 0)) (S 1085 0) ∧ sm_PV (S 1100020) (S 48) (S 49) (S 50) (S 44) (S 1076 0) (S 1007 0) ∧ sm_AL (S 1100020) (S 48) (S 49) (S 50) (S 44) (S 1076 0) (S 1100032 0) ∧ sm_SV (S 1100020) (S 48) (S 1100029) (S 32) (S 33) (S 1076 0) (S 1032 0) ∧ 0 ≤ (S 1076 0) ∧ (S 1076 0) ≤ 300 ∧ 0 ≤ (S 1084 0) ∧ (S 1084 0) ≤ 3000 ∧ 0 ≤ (S 1086 0) ∧ sm_SC (S 1100029) (S 44) (S 45) (S 43) (S 21) (S 1076 0) (S 1032 0) ∧ sm_PO (S 42) (S 1076 0) ∧ (S 1100032 0) = -1 ∧ (sm_FO (S 44) (S 45) (S 1076 0) → sm_FO (S 44) (S 45) (S 1076 0)) ∧ (S 1076 0) ≤ (S 1076 0) ∧ 31 ≤ (S 1007 0) ∧ (S 1007 0) ≤ 400 ∧ sm_LN (S 4) 400 (S 1007 0) ∧ (S 1007 0) ≤ (S 1007 0) ∧ (S 1086 0) ≤ (S 1086 0) ∧ (S 1086 0) ≤ (S 1086 0) + 3 ∧ ((S 1075 0) = 0 → sm_VO (S 44) (S 1076 0) (S 1007 0) ((g7 1111 0)) ((g7 1112 0)))))))) := by
  intro p1
  intro S
  intro h1_
  intro h2_
  rintro ⟨h3_, ⟨h4_, ⟨h5_, ⟨h6_, ⟨h7_, ⟨h8_, ⟨h9_, ⟨h10_, ⟨h11_, ⟨h12_, ⟨h13_, ⟨h14_, ⟨h15_, ⟨h16_, ⟨h17_, ⟨h18_, ⟨h19_, ⟨h20_, ⟨h21_, ⟨h22_, ⟨h23_, ⟨h24_, ⟨h25_, ⟨h26_, h27_⟩⟩⟩⟩⟩⟩⟩⟩⟩⟩⟩⟩⟩⟩⟩⟩⟩⟩⟩⟩⟩⟩⟩⟩
  refine ⟨⟨h5_, ⟨h6_, ⟨h7_, ⟨h8_, ⟨h9_, (la_pop_0 h11_ h12_ h13_ h14_ h17_ h19_ h25_ h26_ h27_)⟩⟩⟩⟩⟩, ?_⟩
  intro r6
  intro h28_
  rintro ⟨h29_, h30_⟩
  intro g7
  rintro ⟨h31_, h32_⟩
  refine ⟨?_, ?_⟩
  · skip
    intro h33_
    refine ⟨(la_pop_2 h30_ (la_pop_1 h29_ h33_)), ?_⟩
    refine ⟨⟨h20_, ⟨h21_, ⟨h22_, la_pop_3⟩⟩⟩, ?_⟩
    intro r18
    intro h34_
    intro g14
    rintro ⟨h35_, ⟨h36_, ⟨h37_, ⟨h38_, ⟨h39_, ⟨h40_, h41_⟩⟩⟩⟩⟩⟩
    have h42_ := (h37_ la_pop_4)
    have h43_ := (h42_ (la_pop_6 (la_pop_1 h29_ h33_)))
    have h44_ := (h43_ (la_pop_7 h30_))
    intro h45_
    have h46_ := (h45_ h40_)
    have h47_ := (h46_ (la_pop_8 h20_ h38_))
    rintro ⟨h48_, h49_⟩
    refine ⟨?_, ?_⟩
    · skip
      intro h50_
      have h51_ := (h44_ h50_)
      intro h52_
      have h53_ := (h52_ h51_)
      have h54_ := (h53_ h47_)
      refine ⟨⟨h5_, (la_pop_9 h11_ h12_ h13_ h14_ h19_ h25_ h26_)⟩, ?_⟩
      intro r28
      intro h55_
      rintro ⟨h56_, h57_⟩
      intro h58_
      have h59_ := (h58_ (sm_PV_m h7_ (Int.le_refl _) h38_ sm_F1_rf))
      refine ⟨?_, ?_⟩
      · skip
        intro g30
        intro h60_
        intro h61_
        have h62_ := (h61_ h15_)
        have h63_ := (h62_ h25_)
        have h64_ := (h63_ h26_)
        have h65_ := (h64_ (la_pop_10 h27_))
        refine ⟨⟨h5_, ⟨h6_, ⟨(sm_PV_m h7_ (Int.le_refl _) h38_ sm_F1_rf), ⟨h8_, ⟨h9_, (la_pop_11 h11_ h12_ h13_ h14_ h19_ h25_ h26_ (la_pop_1 h35_ h54_) h65_)⟩⟩⟩⟩⟩, ?_⟩
        intro g37
        rintro ⟨h66_, ⟨h67_, ⟨h68_, ⟨h69_, ⟨h70_, ⟨h71_, ⟨h72_, ⟨h73_, ⟨h74_, h75_⟩⟩⟩⟩⟩⟩⟩⟩⟩
        refine ⟨⟨h66_, ⟨h67_, ⟨h68_, ⟨h69_, ⟨h70_, ⟨h10_, ⟨h11_, ⟨h73_, ⟨h74_, ⟨h14_, ⟨h25_, ⟨h26_, ⟨la_pop_12, ⟨(la_pop_13 h20_ h38_), ⟨(sm_VO_i la_pop_14 la_pop_15 la_pop_3 la_pop_16), (la_pop_17 h24_ h30_ (la_pop_1 h29_ h33_))⟩⟩⟩⟩⟩⟩⟩⟩⟩⟩⟩⟩⟩⟩⟩, ?_⟩
        intro g43
        rintro ⟨h76_, ⟨h77_, ⟨h78_, ⟨h79_, ⟨h80_, ⟨h81_, ⟨h82_, ⟨h83_, ⟨h84_, ⟨h85_, ⟨h86_, ⟨h87_, ⟨h88_, ⟨h89_, ⟨h90_, ⟨h91_, h92_⟩⟩⟩⟩⟩⟩⟩⟩⟩⟩⟩⟩⟩⟩⟩⟩
        refine ⟨h76_, ?_⟩
        refine ⟨h77_, ?_⟩
        refine ⟨h78_, ?_⟩
        refine ⟨h79_, ?_⟩
        refine ⟨h80_, ?_⟩
        refine ⟨h10_, ?_⟩
        refine ⟨h11_, ?_⟩
        refine ⟨h83_, ?_⟩
        refine ⟨h84_, ?_⟩
        refine ⟨h85_, ?_⟩
        refine ⟨h15_, ?_⟩
        refine ⟨h16_, ?_⟩
        refine ⟨h17_, ?_⟩
        refine ⟨?_, ?_⟩
        · skip
          intro h93_
          exact h18_
        refine ⟨la_pop_18, ?_⟩
        refine ⟨(la_pop_19 h20_ h38_), ?_⟩
        refine ⟨h39_, ?_⟩
        refine ⟨h40_, ?_⟩
        refine ⟨h38_, ?_⟩
        refine ⟨h89_, ?_⟩
        refine ⟨(la_pop_20 h90_), ?_⟩
        intro h94_
        have h95_ := (h88_ h94_)
        exact h60_
      intro h96_
      refine ⟨?_, ?_⟩
      · skip
        intro h97_
        have h98_ := (h56_.resolve_right (la_pop_21 h97_))
        have h99_ := (h57_ h97_)
        exact (sm_VO_i (la_pop_23 h31_) (la_pop_24 h31_) (la_pop_25 h20_ h31_ h32_ h38_) (la_pop_26 h19_ h31_ h32_))
      intro h100_
      obtain ⟨h101_, ⟨h102_, ⟨h103_, h104_⟩⟩⟩ := (h56_.resolve_left h100_)
      have h105_ := (h59_ h101_)
      have h106_ := (h105_ h102_)
      obtain ⟨⟨h107_, h108_⟩, h109_⟩ := (h106_ (la_pop_29 h25_ h103_))
      refine ⟨(la_pop_30 h101_ h102_), ?_⟩
      intro h110_
      intro h111_
      intro g53
      rintro ⟨h112_, h113_⟩
      exact (sm_VO_eq h109_ h112_ h113_)
    intro h114_
    refine ⟨h5_, ?_⟩
    refine ⟨h6_, ?_⟩
    refine ⟨(sm_PV_m h7_ (Int.le_refl _) h38_ sm_F1_rf), ?_⟩
    refine ⟨h8_, ?_⟩
    refine ⟨h9_, ?_⟩
    refine ⟨h10_, ?_⟩
    refine ⟨h11_, ?_⟩
    refine ⟨h12_, ?_⟩
    refine ⟨h13_, ?_⟩
    refine ⟨h14_, ?_⟩
    refine ⟨h15_, ?_⟩
    refine ⟨h16_, ?_⟩
    refine ⟨h17_, ?_⟩
    refine ⟨?_, ?_⟩
    · skip
      intro h115_
      exact h18_
    refine ⟨la_pop_18, ?_⟩
    refine ⟨(la_pop_19 h20_ h38_), ?_⟩
    refine ⟨h39_, ?_⟩
    refine ⟨h40_, ?_⟩
    refine ⟨h38_, ?_⟩
    refine ⟨la_pop_18, ?_⟩
    refine ⟨la_pop_31, ?_⟩
    intro h116_
    exact (sm_VO_i (la_pop_23 h31_) (la_pop_24 h31_) (la_pop_25 h20_ h31_ h32_ h38_) (la_pop_26 h19_ h31_ h32_))
  intro h117_
  refine ⟨h5_, ?_⟩
  refine ⟨h6_, ?_⟩
  refine ⟨h7_, ?_⟩
  refine ⟨h8_, ?_⟩
  refine ⟨h9_, ?_⟩
  refine ⟨h10_, ?_⟩
  refine ⟨h11_, ?_⟩
  refine ⟨h12_, ?_⟩
  refine ⟨h13_, ?_⟩
  refine ⟨h14_, ?_⟩
  refine ⟨h15_, ?_⟩
  refine ⟨h16_, ?_⟩
  refine ⟨h17_, ?_⟩
  refine ⟨?_, ?_⟩
  · skip
    intro h118_
    exact h18_
  refine ⟨la_pop_18, ?_⟩
  refine ⟨h20_, ?_⟩
  refine ⟨h21_, ?_⟩
  refine ⟨h22_, ?_⟩
  refine ⟨la_pop_18, ?_⟩
  refine ⟨la_pop_18, ?_⟩
  refine ⟨la_pop_31, ?_⟩
  intro h119_
  exact (sm_VO_i (la_pop_23 h31_) (la_pop_24 h31_) (la_pop_32 h20_ h31_ h32_) (la_pop_26 h19_ h31_ h32_))
set_option maxRecDepth 8000 in
set_option maxHeartbeats 2000000 in
theorem t_pop : ∀ (p1 : Int) (S : sv_S), sm_ok S → sv_R p1 → ((S 1075 0) = 0 ∧ (S 1073 0) = 1 ∧ sm_PL (S 1100020) (S 51) (S 52) (S 46) (S 47) (S 1076 0) (S 1086 0) ∧ sm_FR (S 1100020) (S 52) (S 1100021) (S 1100022) (3000 - (S 1084 0)) (S 1085 0) ∧ sm_PV (S 1100020) (S 48) (S 49) (S 50) (S 44) (S 1076 0) (S 1007 0) ∧ sm_AL (S 1100020) (S 48) (S 49) (S 50) (S 44) (S 1076 0) (S 1100032 0) ∧ sm_SV (S 1100020) (S 48) (S 1100029) (S 32) (S 33) (S 1076 0) (S 1032 0) ∧ 0 ≤ (S 1076 0) ∧ (S 1076 0) ≤ 300 ∧ 0 ≤ (S 1084 0) ∧ (S 1084 0) ≤ 3000 ∧ 0 ≤ (S 1086 0) ∧ sm_SC (S 1100029) (S 44) (S 45) (S 43) (S 21) (S 1076 0) (S 1032 0) ∧ sm_PO (S 42) (S 1076 0) ∧ (S 1100032 0) = -1 ∧ sm_FO (S 44) (S 45) (S 1076 0) ∧ 23 ≤ (S 1076 0) ∧ 31 ≤ (S 1007 0) ∧ (S 1007 0) ≤ 400 ∧ sm_LN (S 4) 400 (S 1007 0) ∧ (S 1008 0) ≤ (S 1007 0) ∧ (S 1086 0) ≤ 1900000000 ∧ 0 ≤ p1 ∧ p1 < (S 1076 0) ∧ (S 44 p1) = 2) → sv_T sm_XS sm_cs sm_L sm_sh 4 (q_pop p1 S) 189 0 (lv_args 0 [.ref 0, sv_I p1]) [] S := by
  intro p1 S hok hp1 hpre
  have h := f_pop p1 S hok hp1 hpre
  have hM := sm_h189
  show sv_T sm_XS sm_cs sm_L sm_sh 4 (q_pop p1 S) 189 0 [(0, .ref 0), (1, sv_I p1)] [] S
  refine sv_aload_n hM dX12_pop_0 rfl rfl ?_
  refine sv_iload_n hM dX12_pop_1 rfl rfl ?_
  obtain ⟨o1, h⟩ := h
  refine sv_callV hM dX12_pop_2 sm_iv_978 (by decide) (sm_a0 _) rfl rfl (Nat.le_of_ble_eq_true rfl) sm_h144 (Nat.le_of_ble_eq_true rfl) (Nat.le_of_ble_eq_true rfl) (F' := 1) (Nat.le_of_ble_eq_true rfl) rfl (t_lengthOf p1 S hok hp1 o1) (fun v S1 hq => ?_)
  obtain ⟨r6, rfl, hr6, ok3, md4, hpo5⟩ := hq
  obtain rfl : S = S1 := (funext fun j => md4 j (by intro q; cases q)).symm
  show sv_T sm_XS sm_cs sm_L sm_sh 4 (q_pop p1 S) 189 5 [(0, .ref 0), (1, sv_I p1)] [sv_I r6] S
  have h := h r6 hr6 hpo5
  refine sv_istore_n hM dX12_pop_5 (by decide) rfl ?_
  show sv_T sm_XS sm_cs sm_L sm_sh 4 (q_pop p1 S) 189 6 [(0, .ref 0), (1, sv_I p1), (2, sv_I r6)] [] S
  refine sv_aload_n hM dX12_pop_6 rfl rfl ?_
  refine sv_iconst (d := (0 : Int)) hM dX12_pop_7 rfl rfl ?_
  refine sv_iconst (d := (0 : Int)) hM dX12_pop_8 rfl rfl ?_
  refine sv_callV hM dX12_pop_9 sm_iv_822 (by decide) (sm_a0 _) rfl rfl (Nat.le_of_ble_eq_true rfl) sm_h122 (Nat.le_of_ble_eq_true rfl) (Nat.le_of_ble_eq_true rfl) (F' := 0) (Nat.le_of_ble_eq_true rfl) rfl (t_give_ (0 : Int) (0 : Int) S ok3 (⟨by decide, by decide⟩ : sv_R (0 : Int)) (⟨by decide, by decide⟩ : sv_R (0 : Int))) (fun v S1 hq => ?_)
  obtain ⟨rfl, ok8, md9, hpo10⟩ := hq
  obtain ⟨g7, rfl⟩ : ∃ g, S1 = sv_sts S [1111, 1112] g := ⟨_, md9.eq⟩
  show sv_T sm_XS sm_cs sm_L sm_sh 4 (q_pop p1 S) 189 12 [(0, .ref 0), (1, sv_I p1), (2, sv_I r6)] [] (sv_sts S [1111, 1112] g7)
  have md11 : sv_mod [5, 1011, 3, 4, 1007, 1084, 1085, 48, 1086, 51, 52, 46, 47, 49, 50, 1075, 1100020, 1100021, 1100022, 1111, 1112] S (sv_sts S [1111, 1112] g7) := sv_mod.sts sv_mod.rf (by decide)
  have h := h g7 hpo10
  refine sv_iload_n hM dX12_pop_12 rfl rfl ?_
  refine sv_cond_ne hM dX12_pop_13 hr6 (t := 17) rfl rfl (fun hc => ?_) (fun hc => ?_)
  · have h := h.1 (hc)
    refine sv_aload_n hM dX12_pop_17 rfl rfl ?_
    refine sv_iconst (d := (5 : Int)) hM dX12_pop_18 rfl rfl ?_
    refine sv_iload_n hM dX12_pop_19 rfl rfl ?_
    refine sv_iconst (d := (1 : Int)) hM dX12_pop_20 rfl rfl ?_
    refine sv_isub hM dX12_pop_21 rfl ?_
    obtain ⟨o12, h⟩ := h
    obtain ⟨o13, h⟩ := h
    refine sv_callV hM dX12_pop_22 sm_iv_969 (by decide) (sm_a0 _) rfl rfl (Nat.le_of_ble_eq_true rfl) sm_h126 (Nat.le_of_ble_eq_true rfl) (Nat.le_of_ble_eq_true rfl) (F' := 3) (Nat.le_of_ble_eq_true rfl) rfl (t_textOf (5 : Int) (r6 - (1 : Int)) (sv_sts S [1111, 1112] g7) ok8 (⟨by decide, by decide⟩ : sv_R (5 : Int)) o12 o13) (fun v S1 hq => ?_)
    obtain ⟨r18, rfl, hr18, ok15, md16, hpo17⟩ := hq
    obtain ⟨g14, rfl⟩ : ∃ g, S1 = sv_sts (sv_sts S [1111, 1112] g7) [5, 1011, 3, 4, 1007, 1075] g := ⟨_, md16.eq⟩
    show sv_T sm_XS sm_cs sm_L sm_sh 4 (q_pop p1 S) 189 25 [(0, .ref 0), (1, sv_I p1), (2, sv_I r6)] [sv_I r18] (sv_sts (sv_sts S [1111, 1112] g7) [5, 1011, 3, 4, 1007, 1075] g14)
    have md19 : sv_mod [5, 1011, 3, 4, 1007, 1084, 1085, 48, 1086, 51, 52, 46, 47, 49, 50, 1075, 1100020, 1100021, 1100022, 1111, 1112] S (sv_sts (sv_sts S [1111, 1112] g7) [5, 1011, 3, 4, 1007, 1075] g14) := sv_mod.sts md11 (by decide)
    have h := h r18 hr18 g14 hpo17
    have k20 : (sm_LN (g14 4) 400 (g14 1007 0) → 1 ≤ (g14 1007 0) → (g14 4 0) = 6) := sm_LN_6
    have h := h k20
    refine sv_istore_n hM dX12_pop_25 (by decide) rfl ?_
    show sv_T sm_XS sm_cs sm_L sm_sh 4 (q_pop p1 S) 189 26 [(0, .ref 0), (1, sv_I p1), (2, sv_I r6), (3, sv_I r18)] [] (sv_sts (sv_sts S [1111, 1112] g7) [5, 1011, 3, 4, 1007, 1075] g14)
    refine sv_aload_n hM dX12_pop_26 rfl rfl ?_
    have k21 : (0 ≤ (g14 1075 0) ∧ (g14 1075 0) ≤ 1) := sm_okZ ok15 sm_r1075 0
    have h := h k21
    refine sv_getI hM dX12_pop_27 sm_fl_794 (sm_a0 _) sm_k75 rfl (x := (g14 1075 0)) rfl ?_
    refine sv_cond_eq hM dX12_pop_30 (sv_R01 k21) (t := 34) rfl rfl (fun hc => ?_) (fun hc => ?_)
    · have h := h.1 (hc)
      have k22 : ((g14 4 r18) ≤ 3 → (g14 4 0) = 6 → ¬ r18 = 0) := fun a b c => by rw [c] at a; omega
      have h := h k22
      refine sv_aload_n hM dX12_pop_34 rfl rfl ?_
      refine sv_iload_n hM dX12_pop_35 rfl rfl ?_
      refine sv_iload_n hM dX12_pop_36 rfl rfl ?_
      obtain ⟨o23, h⟩ := h
      refine sv_callV hM dX12_pop_37 sm_iv_846 (by decide) (sm_a0 _) rfl rfl (Nat.le_of_ble_eq_true rfl) sm_h140 (Nat.le_of_ble_eq_true rfl) (Nat.le_of_ble_eq_true rfl) (F' := 0) (Nat.le_of_ble_eq_true rfl) rfl (t_findProperty p1 r18 (sv_sts (sv_sts S [1111, 1112] g7) [5, 1011, 3, 4, 1007, 1075] g14) ok15 hp1 hr18 o23) (fun v S1 hq => ?_)
      obtain ⟨r28, rfl, hr28, ok25, md26, hpo27⟩ := hq
      obtain rfl : (sv_sts (sv_sts S [1111, 1112] g7) [5, 1011, 3, 4, 1007, 1075] g14) = S1 := (funext fun j => md26 j (by intro q; cases q)).symm
      show sv_T sm_XS sm_cs sm_L sm_sh 4 (q_pop p1 S) 189 40 [(0, .ref 0), (1, sv_I p1), (2, sv_I r6), (3, sv_I r18)] [sv_I r28] (sv_sts (sv_sts S [1111, 1112] g7) [5, 1011, 3, 4, 1007, 1075] g14)
      have h := h r28 hr28 hpo27
      refine sv_istore hM dX12_pop_40 (by decide) rfl ?_
      show sv_T sm_XS sm_cs sm_L sm_sh 4 (q_pop p1 S) 189 42 [(0, .ref 0), (1, sv_I p1), (2, sv_I r6), (3, sv_I r18), (4, sv_I r28)] [] (sv_sts (sv_sts S [1111, 1112] g7) [5, 1011, 3, 4, 1007, 1075] g14)
      have k29 : (sm_PV (S 1100020) (S 48) (S 49) (S 50) (S 44) (S 1076 0) (g14 1007 0) → 0 ≤ r28 → r28 < 3000 → 0 ≤ (S 1100020 r28) → (0 ≤ (S 48 r28) ∧ (S 48 r28) < (g14 1007 0)) ∧ sm_VO (S 44) (S 1076 0) (g14 1007 0) ((S 49 r28)) ((S 50 r28))) := fun h a b d => sm_PV_at h _ a b d
      have h := h k29
      have J48 : ∀ g30 : sv_S, sm_ok (sv_sts (sv_sts (sv_sts S [1111, 1112] g7) [5, 1011, 3, 4, 1007, 1075] g14) [1111, 1112] g30) → (sm_VO (S 44) (S 1076 0) (g14 1007 0) ((g30 1111 0)) ((g30 1112 0))) → sv_T sm_XS sm_cs sm_L sm_sh 4 (q_pop p1 S) 189 66 [(0, .ref 0), (1, sv_I p1), (2, sv_I r6), (3, sv_I r18), (4, sv_I r28)] [] (sv_sts (sv_sts (sv_sts S [1111, 1112] g7) [5, 1011, 3, 4, 1007, 1075] g14) [1111, 1112] g30) := by
        intro  g30 ok31 hin32
        have h := h.1 g30 hin32
        have md33 : sv_mod [5, 1011, 3, 4, 1007, 1084, 1085, 48, 1086, 51, 52, 46, 47, 49, 50, 1075, 1100020, 1100021, 1100022, 1111, 1112] S (sv_sts (sv_sts (sv_sts S [1111, 1112] g7) [5, 1011, 3, 4, 1007, 1075] g14) [1111, 1112] g30) := sv_mod.sts md19 (by decide)
        have md34 : sv_mod [1111, 1112] (sv_sts (sv_sts S [1111, 1112] g7) [5, 1011, 3, 4, 1007, 1075] g14) (sv_sts (sv_sts (sv_sts S [1111, 1112] g7) [5, 1011, 3, 4, 1007, 1075] g14) [1111, 1112] g30) := sv_mod.sts sv_mod.rf (by decide)
        have k35 : (sm_SC (S 1100029) (S 44) (S 45) (S 43) (S 21) (S 1076 0) (S 1032 0) → 0 ≤ p1 → p1 < (S 1076 0) → ¬ (S 44 p1) = 3 → (S 1100029 p1) < 1) := fun h a b n => by have q := (h _ a b).2; by_cases z : (S 1100029 p1) < 1; exact z; exact absurd (q (by omega)).1 n
        have h := h k35
        refine sv_aload_n hM dX12_pop_66 rfl rfl ?_
        refine sv_iload_n hM dX12_pop_67 rfl rfl ?_
        refine sv_iload_n hM dX12_pop_68 rfl rfl ?_
        obtain ⟨o36, h⟩ := h
        refine sv_callV hM dX12_pop_69 sm_iv_981 (by decide) (sm_a0 _) rfl rfl (Nat.le_of_ble_eq_true rfl) sm_h142 (Nat.le_of_ble_eq_true rfl) (Nat.le_of_ble_eq_true rfl) (F' := 1) (Nat.le_of_ble_eq_true rfl) rfl (t_remove p1 r18 (sv_sts (sv_sts (sv_sts S [1111, 1112] g7) [5, 1011, 3, 4, 1007, 1075] g14) [1111, 1112] g30) ok31 hp1 hr18 o36) (fun v S1 hq => ?_)
        obtain ⟨rfl, ok38, md39, hpo40⟩ := hq
        obtain ⟨g37, rfl⟩ : ∃ g, S1 = sv_sts (sv_sts (sv_sts (sv_sts S [1111, 1112] g7) [5, 1011, 3, 4, 1007, 1075] g14) [1111, 1112] g30) [46, 47, 52, 1085, 1084, 1100020, 1100021, 1100022] g := ⟨_, md39.eq⟩
        show sv_T sm_XS sm_cs sm_L sm_sh 4 (q_pop p1 S) 189 72 [(0, .ref 0), (1, sv_I p1), (2, sv_I r6), (3, sv_I r18), (4, sv_I r28)] [] (sv_sts (sv_sts (sv_sts (sv_sts S [1111, 1112] g7) [5, 1011, 3, 4, 1007, 1075] g14) [1111, 1112] g30) [46, 47, 52, 1085, 1084, 1100020, 1100021, 1100022] g37)
        have md41 : sv_mod [5, 1011, 3, 4, 1007, 1084, 1085, 48, 1086, 51, 52, 46, 47, 49, 50, 1075, 1100020, 1100021, 1100022, 1111, 1112] S (sv_sts (sv_sts (sv_sts (sv_sts S [1111, 1112] g7) [5, 1011, 3, 4, 1007, 1075] g14) [1111, 1112] g30) [46, 47, 52, 1085, 1084, 1100020, 1100021, 1100022] g37) := sv_mod.sts md33 (by decide)
        have h := h g37 hpo40
        refine sv_aload_n hM dX12_pop_72 rfl rfl ?_
        refine sv_iload_n hM dX12_pop_73 rfl rfl ?_
        refine sv_iconst (d := (0 : Int)) hM dX12_pop_74 rfl rfl ?_
        refine sv_iconst (d := (5 : Int)) hM dX12_pop_75 rfl rfl ?_
        refine sv_iload_n hM dX12_pop_76 rfl rfl ?_
        refine sv_iconst (d := (1 : Int)) hM dX12_pop_77 rfl rfl ?_
        refine sv_isub hM dX12_pop_78 rfl ?_
        obtain ⟨o42, h⟩ := h
        refine sv_callV hM dX12_pop_79 sm_iv_870 (by decide) (sm_a0 _) rfl rfl (Nat.le_of_ble_eq_true rfl) sm_h141 (Nat.le_of_ble_eq_true rfl) (Nat.le_of_ble_eq_true rfl) (F' := 1) (Nat.le_of_ble_eq_true rfl) rfl (t_set_ p1 (0 : Int) (5 : Int) (r6 - (1 : Int)) (sv_sts (sv_sts (sv_sts (sv_sts S [1111, 1112] g7) [5, 1011, 3, 4, 1007, 1075] g14) [1111, 1112] g30) [46, 47, 52, 1085, 1084, 1100020, 1100021, 1100022] g37) ok38 hp1 (⟨by decide, by decide⟩ : sv_R (0 : Int)) (⟨by decide, by decide⟩ : sv_R (5 : Int)) o12 o42) (fun v S1 hq => ?_)
        obtain ⟨rfl, ok44, md45, hpo46⟩ := hq
        obtain ⟨g43, rfl⟩ : ∃ g, S1 = sv_sts (sv_sts (sv_sts (sv_sts (sv_sts S [1111, 1112] g7) [5, 1011, 3, 4, 1007, 1075] g14) [1111, 1112] g30) [46, 47, 52, 1085, 1084, 1100020, 1100021, 1100022] g37) [1084, 1085, 48, 1086, 51, 52, 46, 47, 49, 50, 1075, 1100020, 1100021, 1100022] g := ⟨_, md45.eq⟩
        show sv_T sm_XS sm_cs sm_L sm_sh 4 (q_pop p1 S) 189 82 [(0, .ref 0), (1, sv_I p1), (2, sv_I r6), (3, sv_I r18), (4, sv_I r28)] [] (sv_sts (sv_sts (sv_sts (sv_sts (sv_sts S [1111, 1112] g7) [5, 1011, 3, 4, 1007, 1075] g14) [1111, 1112] g30) [46, 47, 52, 1085, 1084, 1100020, 1100021, 1100022] g37) [1084, 1085, 48, 1086, 51, 52, 46, 47, 49, 50, 1075, 1100020, 1100021, 1100022] g43)
        have md47 : sv_mod [5, 1011, 3, 4, 1007, 1084, 1085, 48, 1086, 51, 52, 46, 47, 49, 50, 1075, 1100020, 1100021, 1100022, 1111, 1112] S (sv_sts (sv_sts (sv_sts (sv_sts (sv_sts S [1111, 1112] g7) [5, 1011, 3, 4, 1007, 1075] g14) [1111, 1112] g30) [46, 47, 52, 1085, 1084, 1100020, 1100021, 1100022] g37) [1084, 1085, 48, 1086, 51, 52, 46, 47, 49, 50, 1075, 1100020, 1100021, 1100022] g43) := sv_mod.sts md41 (by decide)
        have h := h g43 hpo46
        exact sv_vret hM dX12_pop_82 rfl ⟨rfl, ok44, md47, h⟩
      have h := h.2
      have k49 : (sm_PV (S 1100020) (S 48) (S 49) (S 50) (S 44) (S 1076 0) (g14 1007 0) → 0 ≤ r28 → r28 < 3000 → 0 ≤ (S 1100020 r28) → (0 ≤ (S 48 r28) ∧ (S 48 r28) < (g14 1007 0)) ∧ sm_VO (S 44) (S 1076 0) (g14 1007 0) ((S 49 r28)) ((S 50 r28))) := fun h a b d => sm_PV_at h _ a b d
      have h := h k49
      refine sv_iload hM dX12_pop_42 rfl rfl ?_
      refine sv_iconst (d := (-1 : Int)) hM dX12_pop_44 rfl rfl ?_
      refine sv_icmp_eq hM dX12_pop_45 hr28 (⟨by decide, by decide⟩ : sv_R (-1 : Int)) (t := 66) rfl rfl (fun hc => ?_) (fun hc => ?_)
      · have h := h.1 (hc)
        have eS := sv_mod.eq (sv_mod.rf (l := [1111, 1112]) (S := (sv_sts (sv_sts S [1111, 1112] g7) [5, 1011, 3, 4, 1007, 1075] g14)))
        have hb := J48 (sv_sts (sv_sts S [1111, 1112] g7) [5, 1011, 3, 4, 1007, 1075] g14) (by rw [← eS]; exact ok25) h
        have hb : sv_T sm_XS sm_cs sm_L sm_sh 4 (q_pop p1 S) 189 66 [(0, .ref 0), (1, sv_I p1), (2, sv_I r6), (3, sv_I r18), (4, sv_I r28)] [] (sv_sts (sv_sts S [1111, 1112] g7) [5, 1011, 3, 4, 1007, 1075] g14) := Eq.mpr (congrArg (fun Z => sv_T sm_XS sm_cs sm_L sm_sh 4 (q_pop p1 S) 189 66 [(0, .ref 0), (1, sv_I p1), (2, sv_I r6), (3, sv_I r18), (4, sv_I r28)] [] Z) eS) hb
        exact sv_less (lv := [(0, .ref 0), (1, sv_I p1), (2, sv_I r6), (3, sv_I r18), (4, sv_I r28)]) (sv_Sub_cons rfl (sv_Sub_cons rfl (sv_Sub_cons rfl (sv_Sub_cons rfl (sv_Sub_cons rfl sv_Sub_nil))))) hb
      · have h := h.2 (hc)
        refine sv_aload_n hM dX12_pop_48 rfl rfl ?_
        refine sv_aload_n hM dX12_pop_49 rfl rfl ?_
        refine sv_getA hM dX12_pop_50 sm_fl_158 (sm_a0 _) sm_k88 rfl ?_
        refine sv_iload hM dX12_pop_53 rfl rfl ?_
        obtain ⟨o50, h⟩ := h
        have k51 : sv_R (S 49 r28) := sm_okI ok25 sm_r49 r28
        have h := h k51
        refine sv_iald hM dX12_pop_55 (sm_a49 _) (by decide) o50.1 o50.2 rfl (x := (S 49 r28)) rfl ?_
        refine sv_aload_n hM dX12_pop_56 rfl rfl ?_
        refine sv_getA hM dX12_pop_57 sm_fl_161 (sm_a0 _) sm_k89 rfl ?_
        refine sv_iload hM dX12_pop_60 rfl rfl ?_
        have k52 : sv_R (S 50 r28) := sm_okI ok25 sm_r50 r28
        have h := h k52
        refine sv_iald hM dX12_pop_62 (sm_a50 _) (by decide) o50.1 o50.2 rfl (x := (S 50 r28)) rfl ?_
        refine sv_callV hM dX12_pop_63 sm_iv_822 (by decide) (sm_a0 _) rfl rfl (Nat.le_of_ble_eq_true rfl) sm_h122 (Nat.le_of_ble_eq_true rfl) (Nat.le_of_ble_eq_true rfl) (F' := 0) (Nat.le_of_ble_eq_true rfl) rfl (t_give_ (S 49 r28) (S 50 r28) (sv_sts (sv_sts S [1111, 1112] g7) [5, 1011, 3, 4, 1007, 1075] g14) ok25 k51 k52) (fun v S1 hq => ?_)
        obtain ⟨rfl, ok54, md55, hpo56⟩ := hq
        obtain ⟨g53, rfl⟩ : ∃ g, S1 = sv_sts (sv_sts (sv_sts S [1111, 1112] g7) [5, 1011, 3, 4, 1007, 1075] g14) [1111, 1112] g := ⟨_, md55.eq⟩
        show sv_T sm_XS sm_cs sm_L sm_sh 4 (q_pop p1 S) 189 66 [(0, .ref 0), (1, sv_I p1), (2, sv_I r6), (3, sv_I r18), (4, sv_I r28)] [] (sv_sts (sv_sts (sv_sts S [1111, 1112] g7) [5, 1011, 3, 4, 1007, 1075] g14) [1111, 1112] g53)
        have md57 : sv_mod [5, 1011, 3, 4, 1007, 1084, 1085, 48, 1086, 51, 52, 46, 47, 49, 50, 1075, 1100020, 1100021, 1100022, 1111, 1112] S (sv_sts (sv_sts (sv_sts S [1111, 1112] g7) [5, 1011, 3, 4, 1007, 1075] g14) [1111, 1112] g53) := sv_mod.sts md19 (by decide)
        have md58 : sv_mod [1111, 1112] (sv_sts (sv_sts S [1111, 1112] g7) [5, 1011, 3, 4, 1007, 1075] g14) (sv_sts (sv_sts (sv_sts S [1111, 1112] g7) [5, 1011, 3, 4, 1007, 1075] g14) [1111, 1112] g53) := sv_mod.sts (sv_mod.rf (l := [1111, 1112]) (S := (sv_sts (sv_sts S [1111, 1112] g7) [5, 1011, 3, 4, 1007, 1075] g14))) (by decide)
        have h := h g53 hpo56
        have eS := sv_mod.eq md58
        have hb := J48 (sv_sts (sv_sts (sv_sts S [1111, 1112] g7) [5, 1011, 3, 4, 1007, 1075] g14) [1111, 1112] g53) (by rw [← eS]; exact ok54) h
        have hb : sv_T sm_XS sm_cs sm_L sm_sh 4 (q_pop p1 S) 189 66 [(0, .ref 0), (1, sv_I p1), (2, sv_I r6), (3, sv_I r18), (4, sv_I r28)] [] (sv_sts (sv_sts (sv_sts S [1111, 1112] g7) [5, 1011, 3, 4, 1007, 1075] g14) [1111, 1112] g53) := Eq.mpr (congrArg (fun Z => sv_T sm_XS sm_cs sm_L sm_sh 4 (q_pop p1 S) 189 66 [(0, .ref 0), (1, sv_I p1), (2, sv_I r6), (3, sv_I r18), (4, sv_I r28)] [] Z) eS) hb
        exact sv_less (lv := [(0, .ref 0), (1, sv_I p1), (2, sv_I r6), (3, sv_I r18), (4, sv_I r28)]) (sv_Sub_cons rfl (sv_Sub_cons rfl (sv_Sub_cons rfl (sv_Sub_cons rfl (sv_Sub_cons rfl sv_Sub_nil))))) hb
    · have h := h.2 (hc)
      exact sv_vret hM dX12_pop_33 rfl ⟨rfl, ok15, md19, h⟩
  · have h := h.2 (hc)
    exact sv_vret hM dX12_pop_16 rfl ⟨rfl, ok8, md11, h⟩
def q_hasOwn (p1 : Int) (p2 : Int) (p3 : Int) (S : sv_S) : Option Value → sv_S → Prop := fun v S' => v = none ∧ sm_ok S' ∧ sv_mod [5, 1011, 3, 4, 1007, 1075, 1111, 1112] S S' ∧ (sm_PL (S' 1100020) (S' 51) (S' 52) (S' 46) (S' 47) (S' 1076 0) (S' 1086 0) ∧ sm_FR (S' 1100020) (S' 52) (S' 1100021) (S' 1100022) (3000 - (S' 1084 0)) (S' 1085 0) ∧ sm_PV (S' 1100020) (S' 48) (S' 49) (S' 50) (S' 44) (S' 1076 0) (S' 1007 0) ∧ sm_AL (S' 1100020) (S' 48) (S' 49) (S' 50) (S' 44) (S' 1076 0) (S' 1100032 0) ∧ sm_SV (S' 1100020) (S' 48) (S' 1100029) (S' 32) (S' 33) (S' 1076 0) (S' 1032 0) ∧ 0 ≤ (S' 1076 0) ∧ (S' 1076 0) ≤ 300 ∧ 0 ≤ (S' 1084 0) ∧ (S' 1084 0) ≤ 3000 ∧ 0 ≤ (S' 1086 0) ∧ sm_SC (S' 1100029) (S' 44) (S' 45) (S' 43) (S' 21) (S' 1076 0) (S' 1032 0) ∧ sm_PO (S' 42) (S' 1076 0) ∧ (S' 1100032 0) = -1 ∧ (sm_FO (S 44) (S 45) (S 1076 0) → sm_FO (S' 44) (S' 45) (S' 1076 0)) ∧ (S 1076 0) ≤ (S' 1076 0) ∧ 31 ≤ (S' 1007 0) ∧ (S' 1007 0) ≤ 400 ∧ sm_LN (S' 4) 400 (S' 1007 0) ∧ (S 1007 0) ≤ (S' 1007 0) ∧ (S 1086 0) ≤ (S' 1086 0) ∧ (S' 1086 0) ≤ (S 1086 0) + 3 ∧ ((S' 1075 0) = 0 → sm_VO (S' 44) (S' 1076 0) (S' 1007 0) ((S' 1111 0)) ((S' 1112 0))))
theorem la_hasOwn_0 {x0 : Int} (h0 : x0 = 0) : ¬ x0 = 1 := by omega
theorem la_hasOwn_1 {x0 : Int} (h0 : 0 ≤ x0) (h1 : ¬ x0 = 0) : 0 < x0 := by omega
theorem la_hasOwn_2 {x0 : Int} : x0 ≤ x0 := by omega
theorem la_hasOwn_3 {x0 x1 : Int} (h0 : 31 ≤ x0) (h1 : x0 ≤ x1) : 31 ≤ x1 := by omega
theorem la_hasOwn_4 {x0 : Int} : x0 ≤ x0 + 3 := by omega
theorem la_hasOwn_5 {x0 x1 : Int} (h0 : 0 < x0) (h1 : x0 = 0) : x1 = 6 := by omega
theorem la_hasOwn_6 {x0 x1 : Int} (h0 : 0 < x0) (h1 : x0 = 0) : x1 = 7 := by omega
theorem la_hasOwn_7 {x0 x1 : Int} (h0 : 0 < x0) (h1 : x0 = 0) : x1 = 5 := by omega
theorem la_hasOwn_8 {x0 x1 : Int} (h0 : 0 < x0) (h1 : x0 = 0) : x1 ≤ 100 := by omega
theorem la_hasOwn_9 {x0 x1 : Int} (h0 : x0 < x1) (h1 : x1 ≤ 400) : x0 < 400 := by omega
theorem la_hasOwn_10 {x0 : Int} (h0 : 0 < x0) (h1 : x0 = 0) : False := by omega
theorem la_hasOwn_11 {x0 x1 x2 x3 : Int} (h0 : x0 ≤ 300) (h1 : 0 ≤ x1) (h2 : x1 ≤ 3000) (h3 : 0 ≤ x2) (h4 : 23 ≤ x0) (h5 : 0 ≤ x3) (h6 : x3 < x0) : 0 ≤ x0 ∧ x0 ≤ 300 ∧ 0 ≤ x1 ∧ x1 ≤ 3000 ∧ 0 ≤ x2 ∧ 0 ≤ x3 ∧ x3 < x0 := by omega
theorem la_hasOwn_12 {x0 x1 x2 x3 x4 : Int} (h0 : x0 = (-1)) : ¬ (0 ≤ x0 ∧ x0 < 3000 ∧ x1 = x2 ∧ x3 = x4) := by omega
theorem la_hasOwn_13 {x0 : Int} (h0 : x0 = 2 ∨ x0 = 3) : 0 ≤ x0 := by omega
theorem la_hasOwn_14 {x0 : Int} (h0 : x0 = 2 ∨ x0 = 3) : x0 ≤ 7 := by omega
theorem la_hasOwn_15 {x0 x1 x2 x3 : Int} (h0 : 31 ≤ x0) (h1 : x0 ≤ x1) (h2 : x2 = 0) : x3 = 6 → 0 ≤ x2 ∧ x2 < x1 := by omega
theorem la_hasOwn_16 {x0 x1 x2 x3 : Int} (h0 : 23 ≤ x0) (h1 : x1 = 2 ∨ x1 = 3) (h2 : x2 = 0) : x1 = 7 → 0 ≤ x2 ∧ x2 < x0 ∧ ¬ x3 = 3 := by omega
theorem la_hasOwn_17 {x0 : Int} (h0 : 0 ≤ x0) : (-1) ≤ x0 := by omega
theorem la_hasOwn_18 {x0 : Int} (h0 : (-1) ≤ x0) (h1 : ¬ x0 = (-1)) : (-1) < x0 := by omega
set_option maxHeartbeats 2000000 in
theorem f_hasOwn : ∀ (p1 : Int) (p2 : Int) (p3 : Int) (S : sv_S), sm_ok S → sv_R p1 → sv_R p2 → sv_R p3 → ((S 1075 0) = 0 ∧ (S 1073 0) = 1 ∧ sm_PL (S 1100020) (S 51) (S 52) (S 46) (S 47) (S 1076 0) (S 1086 0) ∧ sm_FR (S 1100020) (S 52) (S 1100021) (S 1100022) (3000 - (S 1084 0)) (S 1085 0) ∧ sm_PV (S 1100020) (S 48) (S 49) (S 50) (S 44) (S 1076 0) (S 1007 0) ∧ sm_AL (S 1100020) (S 48) (S 49) (S 50) (S 44) (S 1076 0) (S 1100032 0) ∧ sm_SV (S 1100020) (S 48) (S 1100029) (S 32) (S 33) (S 1076 0) (S 1032 0) ∧ 0 ≤ (S 1076 0) ∧ (S 1076 0) ≤ 300 ∧ 0 ≤ (S 1084 0) ∧ (S 1084 0) ≤ 3000 ∧ 0 ≤ (S 1086 0) ∧ sm_SC (S 1100029) (S 44) (S 45) (S 43) (S 21) (S 1076 0) (S 1032 0) ∧ sm_PO (S 42) (S 1076 0) ∧ (S 1100032 0) = -1 ∧ sm_FO (S 44) (S 45) (S 1076 0) ∧ 23 ≤ (S 1076 0) ∧ 31 ≤ (S 1007 0) ∧ (S 1007 0) ≤ 400 ∧ sm_LN (S 4) 400 (S 1007 0) ∧ (S 1008 0) ≤ (S 1007 0) ∧ (S 1086 0) ≤ 1900000000 ∧ 0 ≤ p1 ∧ p1 < (S 1076 0) ∧ sm_VO (S 44) (S 1076 0) (S 1007 0) (p2) (p3)) → (31 ≤ (S 1007 0) ∧ (S 1007 0) ≤ 400 ∧ sm_LN (S 4) 400 (S 1007 0) ∧ (p2 = 6 → 0 ≤ p3 ∧ p3 < (S 1007 0))) ∧ (∀ r6 : Int, sv_R r6 → ∀ g2 : sv_S, (0 ≤ r6 ∧ r6 < (g2 1007 0) ∧ (p2 = 5 → 0 ≤ p3 → p3 ≤ 100 → (g2 1075 0) = 0 → (g2 4 r6) ≤ 3) ∧ (S 1007 0) ≤ (g2 1007 0) ∧ (g2 1007 0) ≤ 400 ∧ sm_LN (g2 4) 400 (g2 1007 0) ∧ ((S 1075 0) = 1 → (g2 1075 0) = 1)) → ((0 ≤ (g2 1075 0) ∧ (g2 1075 0) ≤ 1) → (((¬ (g2 1075 0) = (0 : Int)) → (sm_PL (S 1100020) (S 51) (S 52) (S 46) (S 47) (S 1076 0) (S 1086 0) ∧ sm_FR (S 1100020) (S 52) (S 1100021) (S 1100022) (3000 - (S 1084 0)) (S 1085 0) ∧ sm_PV (S 1100020) (S 48) (S 49) (S 50) (S 44) (S 1076 0) (g2 1007 0) ∧ sm_AL (S 1100020) (S 48) (S 49) (S 50) (S 44) (S 1076 0) (S 1100032 0) ∧ sm_SV (S 1100020) (S 48) (S 1100029) (S 32) (S 33) (S 1076 0) (S 1032 0) ∧ 0 ≤ (S 1076 0) ∧ (S 1076 0) ≤ 300 ∧ 0 ≤ (S 1084 0) ∧ (S 1084 0) ≤ 3000 ∧ 0 ≤ (S 1086 0) ∧ sm_SC (S 1100029) (S 44) (S 45) (S 43) (S 21) (S 1076 0) (S 1032 0) ∧ sm_PO (S 42) (S 1076 0) ∧ (S 1100032 0) = -1 ∧ (sm_FO (S 44) (S 45) (S 1076 0) → sm_FO (S 44) (S 45) (S 1076 0)) ∧ (S 1076 0) ≤ (S 1076 0) ∧ 31 ≤ (g2 1007 0) ∧ (g2 1007 0) ≤ 400 ∧ sm_LN (g2 4) 400 (g2 1007 0) ∧ (S 1007 0) ≤ (g2 1007 0) ∧ (S 1086 0) ≤ (S 1086 0) ∧ (S 1086 0) ≤ (S 1086 0) + 3 ∧ ((g2 1075 0) = 0 → sm_VO (S 44) (S 1076 0) (g2 1007 0) ((S 1111 0)) ((S 1112 0))))) ∧ ((¬ (¬ (g2 1075 0) = (0 : Int))) → (sm_PL (S 1100020) (S 51) (S 52) (S 46) (S 47) (S 1076 0) (S 1086 0) ∧ 0 ≤ (S 1076 0) ∧ (S 1076 0) ≤ 300 ∧ 0 ≤ (S 1084 0) ∧ (S 1084 0) ≤ 3000 ∧ 0 ≤ (S 1086 0) ∧ 0 ≤ p1 ∧ p1 < (S 1076 0)) ∧ (∀ r14 : Int, sv_R r14 → ((r14 = -1 ∨ (0 ≤ r14 ∧ r14 < 3000 ∧ (S 1100020 r14) = p1 ∧ (S 48 r14) = r6)) ∧ (r14 = -1 → sm_NB (S 1100020) (S 51) (S 48) (p1) (r6) (-1))) → (((r14 = (-1 : Int)) → (∀ g15 : sv_S, (((g15 1111 0) = 2 ∨ (g15 1111 0) = 3) ∧ (g15 1112 0) = 0) → (sm_PL (S 1100020) (S 51) (S 52) (S 46) (S 47) (S 1076 0) (S 1086 0) ∧ sm_FR (S 1100020) (S 52) (S 1100021) (S 1100022) (3000 - (S 1084 0)) (S 1085 0) ∧ sm_PV (S 1100020) (S 48) (S 49) (S 50) (S 44) (S 1076 0) (g2 1007 0) ∧ sm_AL (S 1100020) (S 48) (S 49) (S 50) (S 44) (S 1076 0) (S 1100032 0) ∧ sm_SV (S 1100020) (S 48) (S 1100029) (S 32) (S 33) (S 1076 0) (S 1032 0) ∧ 0 ≤ (S 1076 0) ∧ (S 1076 0) ≤ 300 ∧ 0 ≤ (S 1084 0) ∧ (S 1084 0) ≤ 3000 ∧ 0 ≤ (S 1086 0) ∧ sm_SC (S 1100029) (S 44) (S 45) (S 43) (S 21) (S 1076 0) (S 1032 0) ∧ sm_PO (S 42) (S 1076 0) ∧ (S 1100032 0) = -1 ∧ (sm_FO (S 44) (S 45) (S 1076 0) → sm_FO (S 44) (S 45) (S 1076 0)) ∧ (S 1076 0) ≤ (S 1076 0) ∧ 31 ≤ (g2 1007 0) ∧ (g2 1007 0) ≤ 400 ∧ sm_LN (g2 4) 400 (g2 1007 0) ∧ (S 1007 0) ≤ (g2 1007 0) ∧ (S 1086 0) ≤ (S 1086 0) ∧ (S 1086 0) ≤ (S 1086 0) + 3 ∧ ((g2 1075 0) = 0 → sm_VO (S 44) (S 1076 0) (g2 1007 0) ((g15 1111 0)) ((g15 1112 0)))))) ∧ ((¬ (r14 = (-1 : Int))) → (∀ g20 : sv_S, (((g20 1111 0) = 2 ∨ (g20 1111 0) = 3) ∧ (g20 1112 0) = 0) → (sm_PL (S 1100020) (S 51) (S 52) (S 46) (S 47) (S 1076 0) (S 1086 0) ∧ sm_FR (S 1100020) (S 52) (S 1100021) (S 1100022) (3000 - (S 1084 0)) (S 1085 0) ∧ sm_PV (S 1100020) (S 48) (S 49) (S 50) (S 44) (S 1076 0) (g2 1007 0) ∧ sm_AL (S 1100020) (S 48) (S 49) (S 50) (S 44) (S 1076 0) (S 1100032 0) ∧ sm_SV (S 1100020) (S 48) (S 1100029) (S 32) (S 33) (S 1076 0) (S 1032 0) ∧ 0 ≤ (S 1076 0) ∧ (S 1076 0) ≤ 300 ∧ 0 ≤ (S 1084 0) ∧ (S 1084 0) ≤ 3000 ∧ 0 ≤ (S 1086 0) ∧ sm_SC (S 1100029) (S 44) (S 45) (S 43) (S 21) (S 1076 0) (S 1032 0) ∧ sm_PO (S 42) (S 1076 0) ∧ (S 1100032 0) = -1 ∧ (sm_FO (S 44) (S 45) (S 1076 0) → sm_FO (S 44) (S 45) (S 1076 0)) ∧ (S 1076 0) ≤ (S 1076 0) ∧ 31 ≤ (g2 1007 0) ∧ (g2 1007 0) ≤ 400 ∧ sm_LN (g2 4) 400 (g2 1007 0) ∧ (S 1007 0) ≤ (g2 1007 0) ∧ (S 1086 0) ≤ (S 1086 0) ∧ (S 1086 0) ≤ (S 1086 0) + 3 ∧ ((g2 1075 0) = 0 → sm_VO (S 44) (S 1076 0) (g2 1007 0) ((g20 1111 0)) ((g20 1112 0)))))))))))) := by
  intro p1
  intro p2
  intro p3
  intro S
  intro h1_
  intro h2_
  intro h3_
  intro h4_
  rintro ⟨h5_, ⟨h6_, ⟨h7_, ⟨h8_, ⟨h9_, ⟨h10_, ⟨h11_, ⟨h12_, ⟨h13_, ⟨h14_, ⟨h15_, ⟨h16_, ⟨h17_, ⟨h18_, ⟨h19_, ⟨h20_, ⟨h21_, ⟨h22_, ⟨h23_, ⟨h24_, ⟨h25_, ⟨h26_, ⟨h27_, ⟨h28_, h29_⟩⟩⟩⟩⟩⟩⟩⟩⟩⟩⟩⟩⟩⟩⟩⟩⟩⟩⟩⟩⟩⟩⟩⟩
  refine ⟨⟨h22_, ⟨h23_, ⟨h24_, (sm_VO_e h29_).2.2.1⟩⟩⟩, ?_⟩
  intro r6
  intro h30_
  intro g2
  rintro ⟨h31_, ⟨h32_, ⟨h33_, ⟨h34_, ⟨h35_, ⟨h36_, h37_⟩⟩⟩⟩⟩⟩
  rintro ⟨h38_, h39_⟩
  refine ⟨?_, ?_⟩
  · skip
    intro h40_
    refine ⟨h7_, ?_⟩
    refine ⟨h8_, ?_⟩
    refine ⟨(sm_PV_m h9_ (Int.le_refl _) h34_ sm_F1_rf), ?_⟩
    refine ⟨h10_, ?_⟩
    refine ⟨h11_, ?_⟩
    refine ⟨h12_, ?_⟩
    refine ⟨h13_, ?_⟩
    refine ⟨h14_, ?_⟩
    refine ⟨h15_, ?_⟩
    refine ⟨h16_, ?_⟩
    refine ⟨h17_, ?_⟩
    refine ⟨h18_, ?_⟩
    refine ⟨h19_, ?_⟩
    refine ⟨?_, ?_⟩
    · skip
      intro h41_
      exact h20_
    refine ⟨la_hasOwn_2, ?_⟩
    refine ⟨(la_hasOwn_3 h22_ h34_), ?_⟩
    refine ⟨h35_, ?_⟩
    refine ⟨h36_, ?_⟩
    refine ⟨h34_, ?_⟩
    refine ⟨la_hasOwn_2, ?_⟩
    refine ⟨la_hasOwn_4, ?_⟩
    intro h42_
    obtain ⟨h43_, h44_⟩ := ((sm_VO_e h29_).2.2.1 (la_hasOwn_5 (la_hasOwn_1 h38_ h40_) h42_))
    obtain ⟨h45_, ⟨h46_, h47_⟩⟩ := ((sm_VO_e h29_).2.2.2 (la_hasOwn_6 (la_hasOwn_1 h38_ h40_) h42_))
    have h48_ := (h33_ (la_hasOwn_7 (la_hasOwn_1 h38_ h40_) h42_))
    have h49_ := (h48_ h43_)
    have h50_ := (h49_ (la_hasOwn_8 (la_hasOwn_1 h38_ h40_) h42_))
    have h51_ := (h50_ h42_)
    exact ((la_hasOwn_10 (la_hasOwn_1 h38_ h40_) h42_)).elim
  intro h52_
  refine ⟨⟨h7_, (la_hasOwn_11 h13_ h14_ h15_ h16_ h21_ h27_ h28_)⟩, ?_⟩
  intro r14
  intro h53_
  rintro ⟨h54_, h55_⟩
  refine ⟨?_, ?_⟩
  · skip
    intro h56_
    have h57_ := (h54_.resolve_right (la_hasOwn_12 h56_))
    have h58_ := (h55_ h56_)
    intro g15
    rintro ⟨h59_, h60_⟩
    refine ⟨h7_, ?_⟩
    refine ⟨h8_, ?_⟩
    refine ⟨(sm_PV_m h9_ (Int.le_refl _) h34_ sm_F1_rf), ?_⟩
    refine ⟨h10_, ?_⟩
    refine ⟨h11_, ?_⟩
    refine ⟨h12_, ?_⟩
    refine ⟨h13_, ?_⟩
    refine ⟨h14_, ?_⟩
    refine ⟨h15_, ?_⟩
    refine ⟨h16_, ?_⟩
    refine ⟨h17_, ?_⟩
    refine ⟨h18_, ?_⟩
    refine ⟨h19_, ?_⟩
    refine ⟨?_, ?_⟩
    · skip
      intro h61_
      exact h20_
    refine ⟨la_hasOwn_2, ?_⟩
    refine ⟨(la_hasOwn_3 h22_ h34_), ?_⟩
    refine ⟨h35_, ?_⟩
    refine ⟨h36_, ?_⟩
    refine ⟨h34_, ?_⟩
    refine ⟨la_hasOwn_2, ?_⟩
    refine ⟨la_hasOwn_4, ?_⟩
    intro h62_
    exact (sm_VO_i (la_hasOwn_13 h59_) (la_hasOwn_14 h59_) (la_hasOwn_15 h22_ h34_ h60_) (la_hasOwn_16 h21_ h59_ h60_))
  intro h63_
  obtain ⟨h64_, ⟨h65_, ⟨h66_, h67_⟩⟩⟩ := (h54_.resolve_left h63_)
  intro g20
  rintro ⟨h68_, h69_⟩
  refine ⟨h7_, ?_⟩
  refine ⟨h8_, ?_⟩
  refine ⟨(sm_PV_m h9_ (Int.le_refl _) h34_ sm_F1_rf), ?_⟩
  refine ⟨h10_, ?_⟩
  refine ⟨h11_, ?_⟩
  refine ⟨h12_, ?_⟩
  refine ⟨h13_, ?_⟩
  refine ⟨h14_, ?_⟩
  refine ⟨h15_, ?_⟩
  refine ⟨h16_, ?_⟩
  refine ⟨h17_, ?_⟩
  refine ⟨h18_, ?_⟩
  refine ⟨h19_, ?_⟩
  refine ⟨?_, ?_⟩
  · skip
    intro h70_
    exact h20_
  refine ⟨la_hasOwn_2, ?_⟩
  refine ⟨(la_hasOwn_3 h22_ h34_), ?_⟩
  refine ⟨h35_, ?_⟩
  refine ⟨h36_, ?_⟩
  refine ⟨h34_, ?_⟩
  refine ⟨la_hasOwn_2, ?_⟩
  refine ⟨la_hasOwn_4, ?_⟩
  intro h71_
  exact (sm_VO_i (la_hasOwn_13 h68_) (la_hasOwn_14 h68_) (la_hasOwn_15 h22_ h34_ h69_) (la_hasOwn_16 h21_ h68_ h69_))
set_option maxRecDepth 8000 in
set_option maxHeartbeats 2000000 in
theorem t_hasOwn : ∀ (p1 : Int) (p2 : Int) (p3 : Int) (S : sv_S), sm_ok S → sv_R p1 → sv_R p2 → sv_R p3 → ((S 1075 0) = 0 ∧ (S 1073 0) = 1 ∧ sm_PL (S 1100020) (S 51) (S 52) (S 46) (S 47) (S 1076 0) (S 1086 0) ∧ sm_FR (S 1100020) (S 52) (S 1100021) (S 1100022) (3000 - (S 1084 0)) (S 1085 0) ∧ sm_PV (S 1100020) (S 48) (S 49) (S 50) (S 44) (S 1076 0) (S 1007 0) ∧ sm_AL (S 1100020) (S 48) (S 49) (S 50) (S 44) (S 1076 0) (S 1100032 0) ∧ sm_SV (S 1100020) (S 48) (S 1100029) (S 32) (S 33) (S 1076 0) (S 1032 0) ∧ 0 ≤ (S 1076 0) ∧ (S 1076 0) ≤ 300 ∧ 0 ≤ (S 1084 0) ∧ (S 1084 0) ≤ 3000 ∧ 0 ≤ (S 1086 0) ∧ sm_SC (S 1100029) (S 44) (S 45) (S 43) (S 21) (S 1076 0) (S 1032 0) ∧ sm_PO (S 42) (S 1076 0) ∧ (S 1100032 0) = -1 ∧ sm_FO (S 44) (S 45) (S 1076 0) ∧ 23 ≤ (S 1076 0) ∧ 31 ≤ (S 1007 0) ∧ (S 1007 0) ≤ 400 ∧ sm_LN (S 4) 400 (S 1007 0) ∧ (S 1008 0) ≤ (S 1007 0) ∧ (S 1086 0) ≤ 1900000000 ∧ 0 ≤ p1 ∧ p1 < (S 1076 0) ∧ sm_VO (S 44) (S 1076 0) (S 1007 0) (p2) (p3)) → sv_T sm_XS sm_cs sm_L sm_sh 4 (q_hasOwn p1 p2 p3 S) 190 0 (lv_args 0 [.ref 0, sv_I p1, sv_I p2, sv_I p3]) [] S := by
  intro p1 p2 p3 S hok hp1 hp2 hp3 hpre
  have h := f_hasOwn p1 p2 p3 S hok hp1 hp2 hp3 hpre
  have hM := sm_h190
  show sv_T sm_XS sm_cs sm_L sm_sh 4 (q_hasOwn p1 p2 p3 S) 190 0 [(0, .ref 0), (1, sv_I p1), (2, sv_I p2), (3, sv_I p3)] [] S
  refine sv_aload_n hM dX12_hasOwn_0 rfl rfl ?_
  refine sv_iload_n hM dX12_hasOwn_1 rfl rfl ?_
  refine sv_iload_n hM dX12_hasOwn_2 rfl rfl ?_
  obtain ⟨o1, h⟩ := h
  refine sv_callV hM dX12_hasOwn_3 sm_iv_969 (by decide) (sm_a0 _) rfl rfl (Nat.le_of_ble_eq_true rfl) sm_h126 (Nat.le_of_ble_eq_true rfl) (Nat.le_of_ble_eq_true rfl) (F' := 3) (Nat.le_of_ble_eq_true rfl) rfl (t_textOf p2 p3 S hok hp2 hp3 o1) (fun v S1 hq => ?_)
  obtain ⟨r6, rfl, hr6, ok3, md4, hpo5⟩ := hq
  obtain ⟨g2, rfl⟩ : ∃ g, S1 = sv_sts S [5, 1011, 3, 4, 1007, 1075] g := ⟨_, md4.eq⟩
  show sv_T sm_XS sm_cs sm_L sm_sh 4 (q_hasOwn p1 p2 p3 S) 190 6 [(0, .ref 0), (1, sv_I p1), (2, sv_I p2), (3, sv_I p3)] [sv_I r6] (sv_sts S [5, 1011, 3, 4, 1007, 1075] g2)
  have md7 : sv_mod [5, 1011, 3, 4, 1007, 1075, 1111, 1112] S (sv_sts S [5, 1011, 3, 4, 1007, 1075] g2) := sv_mod.sts sv_mod.rf (by decide)
  have h := h r6 hr6 g2 hpo5
  refine sv_istore hM dX12_hasOwn_6 (by decide) rfl ?_
  show sv_T sm_XS sm_cs sm_L sm_sh 4 (q_hasOwn p1 p2 p3 S) 190 8 [(0, .ref 0), (1, sv_I p1), (2, sv_I p2), (3, sv_I p3), (4, sv_I r6)] [] (sv_sts S [5, 1011, 3, 4, 1007, 1075] g2)
  refine sv_aload_n hM dX12_hasOwn_8 rfl rfl ?_
  have k8 : (0 ≤ (g2 1075 0) ∧ (g2 1075 0) ≤ 1) := sm_okZ ok3 sm_r1075 0
  have h := h k8
  refine sv_getI hM dX12_hasOwn_9 sm_fl_794 (sm_a0 _) sm_k75 rfl (x := (g2 1075 0)) rfl ?_
  refine sv_cond_ne hM dX12_hasOwn_12 (sv_R01 k8) (t := 35) rfl rfl (fun hc => ?_) (fun hc => ?_)
  · have h := h.1 (hc)
    exact sv_vret hM dX12_hasOwn_35 rfl ⟨rfl, ok3, md7, h⟩
  · have h := h.2 (hc)
    refine sv_aload_n hM dX12_hasOwn_15 rfl rfl ?_
    refine sv_aload_n hM dX12_hasOwn_16 rfl rfl ?_
    refine sv_iload_n hM dX12_hasOwn_17 rfl rfl ?_
    refine sv_iload hM dX12_hasOwn_18 rfl rfl ?_
    obtain ⟨o9, h⟩ := h
    refine sv_callV hM dX12_hasOwn_20 sm_iv_846 (by decide) (sm_a0 _) rfl rfl (Nat.le_of_ble_eq_true rfl) sm_h140 (Nat.le_of_ble_eq_true rfl) (Nat.le_of_ble_eq_true rfl) (F' := 0) (Nat.le_of_ble_eq_true rfl) rfl (t_findProperty p1 r6 (sv_sts S [5, 1011, 3, 4, 1007, 1075] g2) ok3 hp1 hr6 o9) (fun v S1 hq => ?_)
    obtain ⟨r14, rfl, hr14, ok11, md12, hpo13⟩ := hq
    obtain rfl : (sv_sts S [5, 1011, 3, 4, 1007, 1075] g2) = S1 := (funext fun j => md12 j (by intro q; cases q)).symm
    show sv_T sm_XS sm_cs sm_L sm_sh 4 (q_hasOwn p1 p2 p3 S) 190 23 [(0, .ref 0), (1, sv_I p1), (2, sv_I p2), (3, sv_I p3), (4, sv_I r6)] [sv_I r14, .ref 0] (sv_sts S [5, 1011, 3, 4, 1007, 1075] g2)
    have h := h r14 hr14 hpo13
    refine sv_iconst (d := (-1 : Int)) hM dX12_hasOwn_23 rfl rfl ?_
    refine sv_icmp_eq hM dX12_hasOwn_24 hr14 (⟨by decide, by decide⟩ : sv_R (-1 : Int)) (t := 31) rfl rfl (fun hc => ?_) (fun hc => ?_)
    · have h := h.1 (hc)
      refine sv_iconst (d := (0 : Int)) hM dX12_hasOwn_31 rfl rfl ?_
      refine sv_callV hM dX12_hasOwn_32 sm_iv_827 (by decide) (sm_a0 _) rfl rfl (Nat.le_of_ble_eq_true rfl) sm_h134 (Nat.le_of_ble_eq_true rfl) (Nat.le_of_ble_eq_true rfl) (F' := 1) (Nat.le_of_ble_eq_true rfl) rfl (t_truth (0 : Int) (sv_sts S [5, 1011, 3, 4, 1007, 1075] g2) ok11 (⟨by decide, by decide⟩ : 0 ≤ (0 : Int) ∧ (0 : Int) ≤ 1)) (fun v S1 hq => ?_)
      obtain ⟨rfl, ok16, md17, hpo18⟩ := hq
      obtain ⟨g15, rfl⟩ : ∃ g, S1 = sv_sts (sv_sts S [5, 1011, 3, 4, 1007, 1075] g2) [1111, 1112] g := ⟨_, md17.eq⟩
      show sv_T sm_XS sm_cs sm_L sm_sh 4 (q_hasOwn p1 p2 p3 S) 190 35 [(0, .ref 0), (1, sv_I p1), (2, sv_I p2), (3, sv_I p3), (4, sv_I r6)] [] (sv_sts (sv_sts S [5, 1011, 3, 4, 1007, 1075] g2) [1111, 1112] g15)
      have md19 : sv_mod [5, 1011, 3, 4, 1007, 1075, 1111, 1112] S (sv_sts (sv_sts S [5, 1011, 3, 4, 1007, 1075] g2) [1111, 1112] g15) := sv_mod.sts md7 (by decide)
      have h := h g15 hpo18
      exact sv_vret hM dX12_hasOwn_35 rfl ⟨rfl, ok16, md19, h⟩
    · have h := h.2 (hc)
      refine sv_iconst (d := (1 : Int)) hM dX12_hasOwn_27 rfl rfl ?_
      refine sv_goto hM dX12_hasOwn_28 (pc' := 32) rfl ?_
      refine sv_callV hM dX12_hasOwn_32 sm_iv_827 (by decide) (sm_a0 _) rfl rfl (Nat.le_of_ble_eq_true rfl) sm_h134 (Nat.le_of_ble_eq_true rfl) (Nat.le_of_ble_eq_true rfl) (F' := 1) (Nat.le_of_ble_eq_true rfl) rfl (t_truth (1 : Int) (sv_sts S [5, 1011, 3, 4, 1007, 1075] g2) ok11 (⟨by decide, by decide⟩ : 0 ≤ (1 : Int) ∧ (1 : Int) ≤ 1)) (fun v S1 hq => ?_)
      obtain ⟨rfl, ok21, md22, hpo23⟩ := hq
      obtain ⟨g20, rfl⟩ : ∃ g, S1 = sv_sts (sv_sts S [5, 1011, 3, 4, 1007, 1075] g2) [1111, 1112] g := ⟨_, md22.eq⟩
      show sv_T sm_XS sm_cs sm_L sm_sh 4 (q_hasOwn p1 p2 p3 S) 190 35 [(0, .ref 0), (1, sv_I p1), (2, sv_I p2), (3, sv_I p3), (4, sv_I r6)] [] (sv_sts (sv_sts S [5, 1011, 3, 4, 1007, 1075] g2) [1111, 1112] g20)
      have md24 : sv_mod [5, 1011, 3, 4, 1007, 1075, 1111, 1112] S (sv_sts (sv_sts S [5, 1011, 3, 4, 1007, 1075] g2) [1111, 1112] g20) := sv_mod.sts md7 (by decide)
      have h := h g20 hpo23
      exact sv_vret hM dX12_hasOwn_35 rfl ⟨rfl, ok21, md24, h⟩
def q_charAt (p1 : Int) (p2 : Int) (p3 : Int) (S : sv_S) : Option Value → sv_S → Prop := fun v S' => v = none ∧ sm_ok S' ∧ sv_mod [5, 1011, 3, 4, 1007, 1075, 1113, 1111, 1112] S S' ∧ (sm_PL (S' 1100020) (S' 51) (S' 52) (S' 46) (S' 47) (S' 1076 0) (S' 1086 0) ∧ sm_FR (S' 1100020) (S' 52) (S' 1100021) (S' 1100022) (3000 - (S' 1084 0)) (S' 1085 0) ∧ sm_PV (S' 1100020) (S' 48) (S' 49) (S' 50) (S' 44) (S' 1076 0) (S' 1007 0) ∧ sm_AL (S' 1100020) (S' 48) (S' 49) (S' 50) (S' 44) (S' 1076 0) (S' 1100032 0) ∧ sm_SV (S' 1100020) (S' 48) (S' 1100029) (S' 32) (S' 33) (S' 1076 0) (S' 1032 0) ∧ 0 ≤ (S' 1076 0) ∧ (S' 1076 0) ≤ 300 ∧ 0 ≤ (S' 1084 0) ∧ (S' 1084 0) ≤ 3000 ∧ 0 ≤ (S' 1086 0) ∧ sm_SC (S' 1100029) (S' 44) (S' 45) (S' 43) (S' 21) (S' 1076 0) (S' 1032 0) ∧ sm_PO (S' 42) (S' 1076 0) ∧ (S' 1100032 0) = -1 ∧ (sm_FO (S 44) (S 45) (S 1076 0) → sm_FO (S' 44) (S' 45) (S' 1076 0)) ∧ (S 1076 0) ≤ (S' 1076 0) ∧ 31 ≤ (S' 1007 0) ∧ (S' 1007 0) ≤ 400 ∧ sm_LN (S' 4) 400 (S' 1007 0) ∧ (S 1007 0) ≤ (S' 1007 0) ∧ (S 1086 0) ≤ (S' 1086 0) ∧ (S' 1086 0) ≤ (S 1086 0) + 3 ∧ ((S' 1075 0) = 0 → sm_VO (S' 44) (S' 1076 0) (S' 1007 0) ((S' 1111 0)) ((S' 1112 0))))
theorem la_charAt_0 {x0 x1 x2 : Int} (h0 : x0 ≤ 400) (h1 : x1 = 6 → 0 ≤ x2 ∧ x2 < x0) : x1 = 6 → 0 ≤ x2 ∧ x2 < 400 := by omega
theorem la_charAt_1 {x0 x1 : Int} (h0 : x0 ≤ 400) (h1 : 0 ≤ x1) (h2 : x1 < x0) : 0 ≤ x1 ∧ x1 < 400 := by omega
theorem la_charAt_2 {x0 x1 : Int} (h0 : x0 ≤ 400) (h1 : x1 < x0) : x1 < 400 := by omega
theorem la_charAt_3 {x0 : Int} (h0 : 0 ≤ x0) (h1 : x0 ≤ 90) : sv_R (x0 - 1) := by omega
theorem la_charAt_4 : (0 : Int) ≤ 0 := by omega
theorem la_charAt_5 : (0 : Int) ≤ 0 ∧ (0 : Int) ≤ 200 := by omega
theorem la_charAt_6 {x0 : Int} (h0 : x0 = 0) : ¬ x0 = 1 := by omega
theorem la_charAt_7 {x0 : Int} : x0 ≤ x0 := by omega
theorem la_charAt_8 {x0 x1 : Int} (h0 : 31 ≤ x0) (h1 : x0 ≤ x1) : 31 ≤ x1 := by omega
theorem la_charAt_9 {x0 : Int} : x0 ≤ x0 + 3 := by omega
theorem la_charAt_10 {x0 : Int} (h0 : x0 = 6) : 0 ≤ x0 := by omega
theorem la_charAt_11 {x0 : Int} (h0 : x0 = 6) : x0 ≤ 7 := by omega
theorem la_charAt_12 {x0 x1 x2 x3 : Int} (h0 : 0 ≤ x0) (h1 : x0 < x1) (h2 : x2 = x0) : x3 = 6 → 0 ≤ x2 ∧ x2 < x1 := by omega
theorem la_charAt_13 {x0 x1 x2 x3 : Int} (h0 : x0 = 6) : x0 = 7 → 0 ≤ x1 ∧ x1 < x2 ∧ ¬ x3 = 3 := by omega
theorem la_charAt_14 {x0 x1 : Int} (h0 : x0 ≤ 400) (h1 : 0 ≤ x1) (h2 : x1 < x0) : 0 ≤ 60 * x1 + 0 ∧ 60 * x1 + 0 < 24000 := by omega
theorem la_charAt_15 {x0 : Int} (h0 : 0 ≤ x0) (h1 : x0 ≤ 65535) : (0 : Int) ≤ 0 ∧ (0 : Int) < 200 ∧ 0 ≤ x0 ∧ x0 ≤ 65535 := by omega
theorem la_charAt_16 {x0 : Int} (h0 : x0 = 0 + 1) : 0 ≤ x0 ∧ x0 ≤ 200 := by omega
theorem la_charAt_17 {x0 : Int} (h0 : 0 ≤ x0) (h1 : ¬ x0 = 0) : 0 < x0 := by omega
theorem la_charAt_18 {x0 x1 : Int} (h0 : 0 ≤ x0) (h1 : 0 ≤ x1) : 0 ≤ 60 * x0 + x1 := by omega
theorem la_charAt_19 {x0 x1 x2 : Int} (h0 : x0 ≤ x1 - 1) (h1 : 60 * x2 + x1 ≤ 24000) : 60 * x2 + x0 < 24000 := by omega
set_option maxHeartbeats 2000000 in
theorem f_charAt : ∀ (p1 : Int) (p2 : Int) (p3 : Int) (S : sv_S), sm_ok S → sv_R p1 → sv_R p2 → sv_R p3 → ((S 1075 0) = 0 ∧ (S 1073 0) = 1 ∧ sm_PL (S 1100020) (S 51) (S 52) (S 46) (S 47) (S 1076 0) (S 1086 0) ∧ sm_FR (S 1100020) (S 52) (S 1100021) (S 1100022) (3000 - (S 1084 0)) (S 1085 0) ∧ sm_PV (S 1100020) (S 48) (S 49) (S 50) (S 44) (S 1076 0) (S 1007 0) ∧ sm_AL (S 1100020) (S 48) (S 49) (S 50) (S 44) (S 1076 0) (S 1100032 0) ∧ sm_SV (S 1100020) (S 48) (S 1100029) (S 32) (S 33) (S 1076 0) (S 1032 0) ∧ 0 ≤ (S 1076 0) ∧ (S 1076 0) ≤ 300 ∧ 0 ≤ (S 1084 0) ∧ (S 1084 0) ≤ 3000 ∧ 0 ≤ (S 1086 0) ∧ sm_SC (S 1100029) (S 44) (S 45) (S 43) (S 21) (S 1076 0) (S 1032 0) ∧ sm_PO (S 42) (S 1076 0) ∧ (S 1100032 0) = -1 ∧ sm_FO (S 44) (S 45) (S 1076 0) ∧ 23 ≤ (S 1076 0) ∧ 31 ≤ (S 1007 0) ∧ (S 1007 0) ≤ 400 ∧ sm_LN (S 4) 400 (S 1007 0) ∧ (S 1008 0) ≤ (S 1007 0) ∧ (S 1086 0) ≤ 1900000000 ∧ 0 ≤ p1 ∧ p1 < (S 1007 0) ∧ sm_VO (S 44) (S 1076 0) (S 1007 0) (p2) (p3)) → (31 ≤ (S 1007 0) ∧ (S 1007 0) ≤ 400 ∧ sm_LN (S 4) 400 (S 1007 0) ∧ (p2 = 6 → 0 ≤ p3 ∧ p3 < 400)) ∧ (∀ r6 : Int, sv_R r6 → ∀ g2 : sv_S, (True) → ((0 ≤ (g2 1113 0) ∧ (g2 1113 0) ≤ 1) → ((((g2 1113 0) = (0 : Int)) → (0 ≤ p1 ∧ p1 < 400) ∧ (sv_R (S 4 p1) → (sv_R ((S 4 p1) - (1 : Int))) ∧ (((¬ ((0 : Int) ≤ (0 : Int) ∧ (0 : Int) ≤ ((S 4 p1) - (1 : Int)))) → (31 ≤ (S 1007 0) ∧ (S 1007 0) ≤ 400 ∧ sm_LN (S 4) 400 (S 1007 0) ∧ 0 ≤ (0 : Int) ∧ (0 : Int) ≤ 200) ∧ (∀ r19 : Int, sv_R r19 → ∀ g15 : sv_S, (0 ≤ r19 ∧ r19 < (g15 1007 0) ∧ ((g15 1075 0) = 0 → (g15 4 r19) = (g15 1011 0)) ∧ (g15 1011 0) ≤ (0 : Int) ∧ (S 1007 0) ≤ (g15 1007 0) ∧ (g15 1007 0) ≤ 400 ∧ sm_LN (g15 4) 400 (g15 1007 0) ∧ ((S 1075 0) = 1 → (g15 1075 0) = 1)) → (∀ g21 : sv_S, ((g21 1111 0) = (6 : Int) ∧ (g21 1112 0) = r19) → (sm_PL (S 1100020) (S 51) (S 52) (S 46) (S 47) (S 1076 0) (S 1086 0) ∧ sm_FR (S 1100020) (S 52) (S 1100021) (S 1100022) (3000 - (S 1084 0)) (S 1085 0) ∧ sm_PV (S 1100020) (S 48) (S 49) (S 50) (S 44) (S 1076 0) (g15 1007 0) ∧ sm_AL (S 1100020) (S 48) (S 49) (S 50) (S 44) (S 1076 0) (S 1100032 0) ∧ sm_SV (S 1100020) (S 48) (S 1100029) (S 32) (S 33) (S 1076 0) (S 1032 0) ∧ 0 ≤ (S 1076 0) ∧ (S 1076 0) ≤ 300 ∧ 0 ≤ (S 1084 0) ∧ (S 1084 0) ≤ 3000 ∧ 0 ≤ (S 1086 0) ∧ sm_SC (S 1100029) (S 44) (S 45) (S 43) (S 21) (S 1076 0) (S 1032 0) ∧ sm_PO (S 42) (S 1076 0) ∧ (S 1100032 0) = -1 ∧ (sm_FO (S 44) (S 45) (S 1076 0) → sm_FO (S 44) (S 45) (S 1076 0)) ∧ (S 1076 0) ≤ (S 1076 0) ∧ 31 ≤ (g15 1007 0) ∧ (g15 1007 0) ≤ 400 ∧ sm_LN (g15 4) 400 (g15 1007 0) ∧ (S 1007 0) ≤ (g15 1007 0) ∧ (S 1086 0) ≤ (S 1086 0) ∧ (S 1086 0) ≤ (S 1086 0) + 3 ∧ ((g15 1075 0) = 0 → sm_VO (S 44) (S 1076 0) (g15 1007 0) ((g21 1111 0)) ((g21 1112 0))))))) ∧ (((0 : Int) ≤ (0 : Int) ∧ (0 : Int) ≤ ((S 4 p1) - (1 : Int))) → (0 ≤ (((60 : Int) * p1) + (0 : Int)) ∧ (((60 : Int) * p1) + (0 : Int)) < 24000) ∧ ((0 ≤ (S 3 (((60 : Int) * p1) + (0 : Int))) ∧ (S 3 (((60 : Int) * p1) + (0 : Int))) ≤ 65535) → (0 ≤ (0 : Int) ∧ (0 : Int) < 200 ∧ 0 ≤ (S 3 (((60 : Int) * p1) + (0 : Int))) ∧ (S 3 (((60 : Int) * p1) + (0 : Int))) ≤ 65535) ∧ (∀ g29 : sv_S, ((g29 1011 0) = (0 : Int) + 1) → (31 ≤ (S 1007 0) ∧ (S 1007 0) ≤ 400 ∧ sm_LN (S 4) 400 (S 1007 0) ∧ 0 ≤ (g29 1011 0) ∧ (g29 1011 0) ≤ 200) ∧ (∀ r39 : Int, sv_R r39 → ∀ g35 : sv_S, (0 ≤ r39 ∧ r39 < (g35 1007 0) ∧ ((g35 1075 0) = 0 → (g35 4 r39) = (g35 1011 0)) ∧ (g35 1011 0) ≤ (g29 1011 0) ∧ (S 1007 0) ≤ (g35 1007 0) ∧ (g35 1007 0) ≤ 400 ∧ sm_LN (g35 4) 400 (g35 1007 0) ∧ ((S 1075 0) = 1 → (g35 1075 0) = 1)) → (∀ g41 : sv_S, ((g41 1111 0) = (6 : Int) ∧ (g41 1112 0) = r39) → (sm_PL (S 1100020) (S 51) (S 52) (S 46) (S 47) (S 1076 0) (S 1086 0) ∧ sm_FR (S 1100020) (S 52) (S 1100021) (S 1100022) (3000 - (S 1084 0)) (S 1085 0) ∧ sm_PV (S 1100020) (S 48) (S 49) (S 50) (S 44) (S 1076 0) (g35 1007 0) ∧ sm_AL (S 1100020) (S 48) (S 49) (S 50) (S 44) (S 1076 0) (S 1100032 0) ∧ sm_SV (S 1100020) (S 48) (S 1100029) (S 32) (S 33) (S 1076 0) (S 1032 0) ∧ 0 ≤ (S 1076 0) ∧ (S 1076 0) ≤ 300 ∧ 0 ≤ (S 1084 0) ∧ (S 1084 0) ≤ 3000 ∧ 0 ≤ (S 1086 0) ∧ sm_SC (S 1100029) (S 44) (S 45) (S 43) (S 21) (S 1076 0) (S 1032 0) ∧ sm_PO (S 42) (S 1076 0) ∧ (S 1100032 0) = -1 ∧ (sm_FO (S 44) (S 45) (S 1076 0) → sm_FO (S 44) (S 45) (S 1076 0)) ∧ (S 1076 0) ≤ (S 1076 0) ∧ 31 ≤ (g35 1007 0) ∧ (g35 1007 0) ≤ 400 ∧ sm_LN (g35 4) 400 (g35 1007 0) ∧ (S 1007 0) ≤ (g35 1007 0) ∧ (S 1086 0) ≤ (S 1086 0) ∧ (S 1086 0) ≤ (S 1086 0) + 3 ∧ ((g35 1075 0) = 0 → sm_VO (S 44) (S 1076 0) (g35 1007 0) ((g41 1111 0)) ((g41 1112 0)))))))))))) ∧ ((¬ ((g2 1113 0) = (0 : Int))) → (0 ≤ p1 ∧ p1 < 400) ∧ (sv_R (S 4 p1) → (sv_R ((S 4 p1) - (1 : Int))) ∧ (((¬ ((0 : Int) ≤ r6 ∧ r6 ≤ ((S 4 p1) - (1 : Int)))) → (31 ≤ (S 1007 0) ∧ (S 1007 0) ≤ 400 ∧ sm_LN (S 4) 400 (S 1007 0) ∧ 0 ≤ (0 : Int) ∧ (0 : Int) ≤ 200) ∧ (∀ r54 : Int, sv_R r54 → ∀ g50 : sv_S, (0 ≤ r54 ∧ r54 < (g50 1007 0) ∧ ((g50 1075 0) = 0 → (g50 4 r54) = (g50 1011 0)) ∧ (g50 1011 0) ≤ (0 : Int) ∧ (S 1007 0) ≤ (g50 1007 0) ∧ (g50 1007 0) ≤ 400 ∧ sm_LN (g50 4) 400 (g50 1007 0) ∧ ((S 1075 0) = 1 → (g50 1075 0) = 1)) → (∀ g56 : sv_S, ((g56 1111 0) = (6 : Int) ∧ (g56 1112 0) = r54) → (sm_PL (S 1100020) (S 51) (S 52) (S 46) (S 47) (S 1076 0) (S 1086 0) ∧ sm_FR (S 1100020) (S 52) (S 1100021) (S 1100022) (3000 - (S 1084 0)) (S 1085 0) ∧ sm_PV (S 1100020) (S 48) (S 49) (S 50) (S 44) (S 1076 0) (g50 1007 0) ∧ sm_AL (S 1100020) (S 48) (S 49) (S 50) (S 44) (S 1076 0) (S 1100032 0) ∧ sm_SV (S 1100020) (S 48) (S 1100029) (S 32) (S 33) (S 1076 0) (S 1032 0) ∧ 0 ≤ (S 1076 0) ∧ (S 1076 0) ≤ 300 ∧ 0 ≤ (S 1084 0) ∧ (S 1084 0) ≤ 3000 ∧ 0 ≤ (S 1086 0) ∧ sm_SC (S 1100029) (S 44) (S 45) (S 43) (S 21) (S 1076 0) (S 1032 0) ∧ sm_PO (S 42) (S 1076 0) ∧ (S 1100032 0) = -1 ∧ (sm_FO (S 44) (S 45) (S 1076 0) → sm_FO (S 44) (S 45) (S 1076 0)) ∧ (S 1076 0) ≤ (S 1076 0) ∧ 31 ≤ (g50 1007 0) ∧ (g50 1007 0) ≤ 400 ∧ sm_LN (g50 4) 400 (g50 1007 0) ∧ (S 1007 0) ≤ (g50 1007 0) ∧ (S 1086 0) ≤ (S 1086 0) ∧ (S 1086 0) ≤ (S 1086 0) + 3 ∧ ((g50 1075 0) = 0 → sm_VO (S 44) (S 1076 0) (g50 1007 0) ((g56 1111 0)) ((g56 1112 0))))))) ∧ (((0 : Int) ≤ r6 ∧ r6 ≤ ((S 4 p1) - (1 : Int))) → (0 ≤ (((60 : Int) * p1) + r6) ∧ (((60 : Int) * p1) + r6) < 24000) ∧ ((0 ≤ (S 3 (((60 : Int) * p1) + r6)) ∧ (S 3 (((60 : Int) * p1) + r6)) ≤ 65535) → (0 ≤ (0 : Int) ∧ (0 : Int) < 200 ∧ 0 ≤ (S 3 (((60 : Int) * p1) + r6)) ∧ (S 3 (((60 : Int) * p1) + r6)) ≤ 65535) ∧ (∀ g64 : sv_S, ((g64 1011 0) = (0 : Int) + 1) → (31 ≤ (S 1007 0) ∧ (S 1007 0) ≤ 400 ∧ sm_LN (S 4) 400 (S 1007 0) ∧ 0 ≤ (g64 1011 0) ∧ (g64 1011 0) ≤ 200) ∧ (∀ r74 : Int, sv_R r74 → ∀ g70 : sv_S, (0 ≤ r74 ∧ r74 < (g70 1007 0) ∧ ((g70 1075 0) = 0 → (g70 4 r74) = (g70 1011 0)) ∧ (g70 1011 0) ≤ (g64 1011 0) ∧ (S 1007 0) ≤ (g70 1007 0) ∧ (g70 1007 0) ≤ 400 ∧ sm_LN (g70 4) 400 (g70 1007 0) ∧ ((S 1075 0) = 1 → (g70 1075 0) = 1)) → (∀ g76 : sv_S, ((g76 1111 0) = (6 : Int) ∧ (g76 1112 0) = r74) → (sm_PL (S 1100020) (S 51) (S 52) (S 46) (S 47) (S 1076 0) (S 1086 0) ∧ sm_FR (S 1100020) (S 52) (S 1100021) (S 1100022) (3000 - (S 1084 0)) (S 1085 0) ∧ sm_PV (S 1100020) (S 48) (S 49) (S 50) (S 44) (S 1076 0) (g70 1007 0) ∧ sm_AL (S 1100020) (S 48) (S 49) (S 50) (S 44) (S 1076 0) (S 1100032 0) ∧ sm_SV (S 1100020) (S 48) (S 1100029) (S 32) (S 33) (S 1076 0) (S 1032 0) ∧ 0 ≤ (S 1076 0) ∧ (S 1076 0) ≤ 300 ∧ 0 ≤ (S 1084 0) ∧ (S 1084 0) ≤ 3000 ∧ 0 ≤ (S 1086 0) ∧ sm_SC (S 1100029) (S 44) (S 45) (S 43) (S 21) (S 1076 0) (S 1032 0) ∧ sm_PO (S 42) (S 1076 0) ∧ (S 1100032 0) = -1 ∧ (sm_FO (S 44) (S 45) (S 1076 0) → sm_FO (S 44) (S 45) (S 1076 0)) ∧ (S 1076 0) ≤ (S 1076 0) ∧ 31 ≤ (g70 1007 0) ∧ (g70 1007 0) ≤ 400 ∧ sm_LN (g70 4) 400 (g70 1007 0) ∧ (S 1007 0) ≤ (g70 1007 0) ∧ (S 1086 0) ≤ (S 1086 0) ∧ (S 1086 0) ≤ (S 1086 0) + 3 ∧ ((g70 1075 0) = 0 → sm_VO (S 44) (S 1076 0) (g70 1007 0) ((g76 1111 0)) ((g76 1112 0))))))))))))))) := by
  intro p1
  intro p2
  intro p3
  intro S
  intro h1_
  intro h2_
  intro h3_
  intro h4_
  rintro ⟨h5_, ⟨h6_, ⟨h7_, ⟨h8_, ⟨h9_, ⟨h10_, ⟨h11_, ⟨h12_, ⟨h13_, ⟨h14_, ⟨h15_, ⟨h16_, ⟨h17_, ⟨h18_, ⟨h19_, ⟨h20_, ⟨h21_, ⟨h22_, ⟨h23_, ⟨h24_, ⟨h25_, ⟨h26_, ⟨h27_, ⟨h28_, h29_⟩⟩⟩⟩⟩⟩⟩⟩⟩⟩⟩⟩⟩⟩⟩⟩⟩⟩⟩⟩⟩⟩⟩⟩
  refine ⟨⟨h22_, ⟨h23_, ⟨h24_, (la_charAt_0 h23_ (sm_VO_e h29_).2.2.1)⟩⟩⟩, ?_⟩
  intro r6
  intro h30_
  intro g2
  intro _
  rintro ⟨h31_, h32_⟩
  refine ⟨?_, ?_⟩
  · skip
    intro h33_
    refine ⟨(la_charAt_1 h23_ h27_ h28_), ?_⟩
    intro h34_
    refine ⟨?_, ?_⟩
    · skip
      exact (la_charAt_3 (sm_LN_at h24_ p1 h27_ (la_charAt_2 h23_ h28_)).1 (sm_LN_at h24_ p1 h27_ (la_charAt_2 h23_ h28_)).2.1)
    refine ⟨?_, ?_⟩
    · skip
      intro h35_
      have h36_ : ¬ (0 ≤ S 4 p1 - 1) := fun q_ => h35_ ⟨la_charAt_4, q_⟩
      refine ⟨⟨h22_, ⟨h23_, ⟨h24_, la_charAt_5⟩⟩⟩, ?_⟩
      intro r19
      intro h37_
      intro g15
      rintro ⟨h38_, ⟨h39_, ⟨h40_, ⟨h41_, ⟨h42_, ⟨h43_, ⟨h44_, h45_⟩⟩⟩⟩⟩⟩⟩
      intro g21
      rintro ⟨h46_, h47_⟩
      refine ⟨h7_, ?_⟩
      refine ⟨h8_, ?_⟩
      refine ⟨(sm_PV_m h9_ (Int.le_refl _) h42_ sm_F1_rf), ?_⟩
      refine ⟨h10_, ?_⟩
      refine ⟨h11_, ?_⟩
      refine ⟨h12_, ?_⟩
      refine ⟨h13_, ?_⟩
      refine ⟨h14_, ?_⟩
      refine ⟨h15_, ?_⟩
      refine ⟨h16_, ?_⟩
      refine ⟨h17_, ?_⟩
      refine ⟨h18_, ?_⟩
      refine ⟨h19_, ?_⟩
      refine ⟨?_, ?_⟩
      · skip
        intro h48_
        exact h20_
      refine ⟨la_charAt_7, ?_⟩
      refine ⟨(la_charAt_8 h22_ h42_), ?_⟩
      refine ⟨h43_, ?_⟩
      refine ⟨h44_, ?_⟩
      refine ⟨h42_, ?_⟩
      refine ⟨la_charAt_7, ?_⟩
      refine ⟨la_charAt_9, ?_⟩
      intro h49_
      have h50_ := (h40_ h49_)
      exact (sm_VO_i (la_charAt_10 h46_) (la_charAt_11 h46_) (la_charAt_12 h38_ h39_ h47_) (la_charAt_13 h46_))
    rintro ⟨h51_, h52_⟩
    refine ⟨(la_charAt_14 h23_ h27_ h28_), ?_⟩
    rintro ⟨h53_, h54_⟩
    refine ⟨(la_charAt_15 h53_ h54_), ?_⟩
    intro g29
    intro h55_
    refine ⟨⟨h22_, ⟨h23_, ⟨h24_, (la_charAt_16 h55_)⟩⟩⟩, ?_⟩
    intro r39
    intro h56_
    intro g35
    rintro ⟨h57_, ⟨h58_, ⟨h59_, ⟨h60_, ⟨h61_, ⟨h62_, ⟨h63_, h64_⟩⟩⟩⟩⟩⟩⟩
    intro g41
    rintro ⟨h65_, h66_⟩
    refine ⟨h7_, ?_⟩
    refine ⟨h8_, ?_⟩
    refine ⟨(sm_PV_m h9_ (Int.le_refl _) h61_ sm_F1_rf), ?_⟩
    refine ⟨h10_, ?_⟩
    refine ⟨h11_, ?_⟩
    refine ⟨h12_, ?_⟩
    refine ⟨h13_, ?_⟩
    refine ⟨h14_, ?_⟩
    refine ⟨h15_, ?_⟩
    refine ⟨h16_, ?_⟩
    refine ⟨h17_, ?_⟩
    refine ⟨h18_, ?_⟩
    refine ⟨h19_, ?_⟩
    refine ⟨?_, ?_⟩
    · skip
      intro h67_
      exact h20_
    refine ⟨la_charAt_7, ?_⟩
    refine ⟨(la_charAt_8 h22_ h61_), ?_⟩
    refine ⟨h62_, ?_⟩
    refine ⟨h63_, ?_⟩
    refine ⟨h61_, ?_⟩
    refine ⟨la_charAt_7, ?_⟩
    refine ⟨la_charAt_9, ?_⟩
    intro h68_
    have h69_ := (h59_ h68_)
    exact (sm_VO_i (la_charAt_10 h65_) (la_charAt_11 h65_) (la_charAt_12 h57_ h58_ h66_) (la_charAt_13 h65_))
  intro h70_
  refine ⟨(la_charAt_1 h23_ h27_ h28_), ?_⟩
  intro h71_
  refine ⟨?_, ?_⟩
  · skip
    exact (la_charAt_3 (sm_LN_at h24_ p1 h27_ (la_charAt_2 h23_ h28_)).1 (sm_LN_at h24_ p1 h27_ (la_charAt_2 h23_ h28_)).2.1)
  refine ⟨?_, ?_⟩
  · skip
    intro h72_
    refine ⟨⟨h22_, ⟨h23_, ⟨h24_, la_charAt_5⟩⟩⟩, ?_⟩
    intro r54
    intro h73_
    intro g50
    rintro ⟨h74_, ⟨h75_, ⟨h76_, ⟨h77_, ⟨h78_, ⟨h79_, ⟨h80_, h81_⟩⟩⟩⟩⟩⟩⟩
    intro g56
    rintro ⟨h82_, h83_⟩
    refine ⟨h7_, ?_⟩
    refine ⟨h8_, ?_⟩
    refine ⟨(sm_PV_m h9_ (Int.le_refl _) h78_ sm_F1_rf), ?_⟩
    refine ⟨h10_, ?_⟩
    refine ⟨h11_, ?_⟩
    refine ⟨h12_, ?_⟩
    refine ⟨h13_, ?_⟩
    refine ⟨h14_, ?_⟩
    refine ⟨h15_, ?_⟩
    refine ⟨h16_, ?_⟩
    refine ⟨h17_, ?_⟩
    refine ⟨h18_, ?_⟩
    refine ⟨h19_, ?_⟩
    refine ⟨?_, ?_⟩
    · skip
      intro h84_
      exact h20_
    refine ⟨la_charAt_7, ?_⟩
    refine ⟨(la_charAt_8 h22_ h78_), ?_⟩
    refine ⟨h79_, ?_⟩
    refine ⟨h80_, ?_⟩
    refine ⟨h78_, ?_⟩
    refine ⟨la_charAt_7, ?_⟩
    refine ⟨la_charAt_9, ?_⟩
    intro h85_
    have h86_ := (h76_ h85_)
    exact (sm_VO_i (la_charAt_10 h82_) (la_charAt_11 h82_) (la_charAt_12 h74_ h75_ h83_) (la_charAt_13 h82_))
  rintro ⟨h87_, h88_⟩
  refine ⟨?_, ?_⟩
  · skip
    refine ⟨(la_charAt_18 h27_ h87_), ?_⟩
    exact (la_charAt_19 h88_ (sm_LN_at h24_ p1 h27_ (la_charAt_2 h23_ h28_)).2.2)
  rintro ⟨h89_, h90_⟩
  refine ⟨(la_charAt_15 h89_ h90_), ?_⟩
  intro g64
  intro h91_
  refine ⟨⟨h22_, ⟨h23_, ⟨h24_, (la_charAt_16 h91_)⟩⟩⟩, ?_⟩
  intro r74
  intro h92_
  intro g70
  rintro ⟨h93_, ⟨h94_, ⟨h95_, ⟨h96_, ⟨h97_, ⟨h98_, ⟨h99_, h100_⟩⟩⟩⟩⟩⟩⟩
  intro g76
  rintro ⟨h101_, h102_⟩
  refine ⟨h7_, ?_⟩
  refine ⟨h8_, ?_⟩
  refine ⟨(sm_PV_m h9_ (Int.le_refl _) h97_ sm_F1_rf), ?_⟩
  refine ⟨h10_, ?_⟩
  refine ⟨h11_, ?_⟩
  refine ⟨h12_, ?_⟩
  refine ⟨h13_, ?_⟩
  refine ⟨h14_, ?_⟩
  refine ⟨h15_, ?_⟩
  refine ⟨h16_, ?_⟩
  refine ⟨h17_, ?_⟩
  refine ⟨h18_, ?_⟩
  refine ⟨h19_, ?_⟩
  refine ⟨?_, ?_⟩
  · skip
    intro h103_
    exact h20_
  refine ⟨la_charAt_7, ?_⟩
  refine ⟨(la_charAt_8 h22_ h97_), ?_⟩
  refine ⟨h98_, ?_⟩
  refine ⟨h99_, ?_⟩
  refine ⟨h97_, ?_⟩
  refine ⟨la_charAt_7, ?_⟩
  refine ⟨la_charAt_9, ?_⟩
  intro h104_
  have h105_ := (h95_ h104_)
  exact (sm_VO_i (la_charAt_10 h101_) (la_charAt_11 h101_) (la_charAt_12 h93_ h94_ h102_) (la_charAt_13 h101_))
set_option maxRecDepth 8000 in
set_option maxHeartbeats 2000000 in
theorem t_charAt : ∀ (p1 : Int) (p2 : Int) (p3 : Int) (S : sv_S), sm_ok S → sv_R p1 → sv_R p2 → sv_R p3 → ((S 1075 0) = 0 ∧ (S 1073 0) = 1 ∧ sm_PL (S 1100020) (S 51) (S 52) (S 46) (S 47) (S 1076 0) (S 1086 0) ∧ sm_FR (S 1100020) (S 52) (S 1100021) (S 1100022) (3000 - (S 1084 0)) (S 1085 0) ∧ sm_PV (S 1100020) (S 48) (S 49) (S 50) (S 44) (S 1076 0) (S 1007 0) ∧ sm_AL (S 1100020) (S 48) (S 49) (S 50) (S 44) (S 1076 0) (S 1100032 0) ∧ sm_SV (S 1100020) (S 48) (S 1100029) (S 32) (S 33) (S 1076 0) (S 1032 0) ∧ 0 ≤ (S 1076 0) ∧ (S 1076 0) ≤ 300 ∧ 0 ≤ (S 1084 0) ∧ (S 1084 0) ≤ 3000 ∧ 0 ≤ (S 1086 0) ∧ sm_SC (S 1100029) (S 44) (S 45) (S 43) (S 21) (S 1076 0) (S 1032 0) ∧ sm_PO (S 42) (S 1076 0) ∧ (S 1100032 0) = -1 ∧ sm_FO (S 44) (S 45) (S 1076 0) ∧ 23 ≤ (S 1076 0) ∧ 31 ≤ (S 1007 0) ∧ (S 1007 0) ≤ 400 ∧ sm_LN (S 4) 400 (S 1007 0) ∧ (S 1008 0) ≤ (S 1007 0) ∧ (S 1086 0) ≤ 1900000000 ∧ 0 ≤ p1 ∧ p1 < (S 1007 0) ∧ sm_VO (S 44) (S 1076 0) (S 1007 0) (p2) (p3)) → sv_T sm_XS sm_cs sm_L sm_sh 3 (q_charAt p1 p2 p3 S) 191 0 (lv_args 0 [.ref 0, sv_I p1, sv_I p2, sv_I p3]) [] S := by
  intro p1 p2 p3 S hok hp1 hp2 hp3 hpre
  have h := f_charAt p1 p2 p3 S hok hp1 hp2 hp3 hpre
  have hM := sm_h191
  show sv_T sm_XS sm_cs sm_L sm_sh 3 (q_charAt p1 p2 p3 S) 191 0 [(0, .ref 0), (1, sv_I p1), (2, sv_I p2), (3, sv_I p3)] [] S
  refine sv_aload_n hM dX12_charAt_0 rfl rfl ?_
  refine sv_iload_n hM dX12_charAt_1 rfl rfl ?_
  refine sv_iload_n hM dX12_charAt_2 rfl rfl ?_
  obtain ⟨o1, h⟩ := h
  refine sv_callV hM dX12_charAt_3 sm_iv_816 (by decide) (sm_a0 _) rfl rfl (Nat.le_of_ble_eq_true rfl) sm_h127 (Nat.le_of_ble_eq_true rfl) (Nat.le_of_ble_eq_true rfl) (F' := 2) (Nat.le_of_ble_eq_true rfl) rfl (t_numberOf p2 p3 S hok hp2 hp3 o1) (fun v S1 hq => ?_)
  obtain ⟨r6, rfl, hr6, ok3, md4, hpo5⟩ := hq
  obtain ⟨g2, rfl⟩ : ∃ g, S1 = sv_sts S [1113] g := ⟨_, md4.eq⟩
  show sv_T sm_XS sm_cs sm_L sm_sh 3 (q_charAt p1 p2 p3 S) 191 6 [(0, .ref 0), (1, sv_I p1), (2, sv_I p2), (3, sv_I p3)] [sv_I r6] (sv_sts S [1113] g2)
  have md7 : sv_mod [5, 1011, 3, 4, 1007, 1075, 1113, 1111, 1112] S (sv_sts S [1113] g2) := sv_mod.sts sv_mod.rf (by decide)
  have h := h r6 hr6 g2 hpo5
  refine sv_istore hM dX12_charAt_6 (by decide) rfl ?_
  show sv_T sm_XS sm_cs sm_L sm_sh 3 (q_charAt p1 p2 p3 S) 191 8 [(0, .ref 0), (1, sv_I p1), (2, sv_I p2), (3, sv_I p3), (4, sv_I r6)] [] (sv_sts S [1113] g2)
  refine sv_aload_n hM dX12_charAt_8 rfl rfl ?_
  refine sv_iconst (d := (0 : Int)) hM dX12_charAt_9 rfl rfl ?_
  refine sv_putI sm_X hM dX12_charAt_10 sm_fp_299 (sm_a0 _) sm_q11 (Or.inl rfl) rfl rfl rfl rfl ?_
  have ok8 : sm_ok (sv_up (sv_sts S [1113] g2) 1011 0 (0 : Int)) := sm_upI ok3 sm_r1011 (⟨by decide, by decide⟩ : sv_R (0 : Int))
  have md9 : sv_mod [5, 1011, 3, 4, 1007, 1075, 1113, 1111, 1112] S (sv_up (sv_sts S [1113] g2) 1011 0 (0 : Int)) := sv_mod.up md7 (by decide)
  refine sv_aload_n hM dX12_charAt_13 rfl rfl ?_
  have k10 : (0 ≤ (g2 1113 0) ∧ (g2 1113 0) ≤ 1) := sm_okZ ok8 sm_r1113 0
  have h := h k10
  refine sv_getI hM dX12_charAt_14 sm_fl_806 (sm_a0 _) sm_k113 rfl (x := (g2 1113 0)) rfl ?_
  refine sv_cond_eq hM dX12_charAt_17 (sv_R01 k10) (t := 25) rfl rfl (fun hc => ?_) (fun hc => ?_)
  · have h := h.1 (hc)
    refine sv_iconst (d := (0 : Int)) hM dX12_charAt_25 rfl rfl ?_
    refine sv_istore hM dX12_charAt_26 (by decide) rfl ?_
    show sv_T sm_XS sm_cs sm_L sm_sh 3 (q_charAt p1 p2 p3 S) 191 28 [(0, .ref 0), (1, sv_I p1), (2, sv_I p2), (3, sv_I p3), (4, sv_I (0 : Int))] [] (sv_up (sv_sts S [1113] g2) 1011 0 (0 : Int))
    refine sv_iload hM dX12_charAt_28 rfl rfl ?_
    refine sv_iconst (d := (0 : Int)) hM dX12_charAt_30 rfl rfl ?_
    refine sv_aload_n hM dX12_charAt_31 rfl rfl ?_
    refine sv_getA hM dX12_charAt_32 sm_fl_20 (sm_a0 _) sm_k6 rfl ?_
    refine sv_iload_n hM dX12_charAt_35 rfl rfl ?_
    obtain ⟨o11, h⟩ := h
    have k12 : sv_R (S 4 p1) := sm_okI ok8 sm_r4 p1
    have h := h k12
    refine sv_iald hM dX12_charAt_36 (sm_a4 _) (by decide) o11.1 o11.2 rfl (x := (S 4 p1)) rfl ?_
    refine sv_iconst (d := (1 : Int)) hM dX12_charAt_37 rfl rfl ?_
    refine sv_isub hM dX12_charAt_38 rfl ?_
    obtain ⟨o13, h⟩ := h
    refine sv_callS hM dX12_charAt_39 sm_iv_899 (Nat.le_of_ble_eq_true rfl) rfl rfl (Nat.le_of_ble_eq_true rfl) sm_h4 (Nat.le_of_ble_eq_true rfl) (Nat.le_of_ble_eq_true rfl) (F' := 0) (Nat.le_of_ble_eq_true rfl) rfl (t_in (0 : Int) (0 : Int) ((S 4 p1) - (1 : Int)) (sv_up (sv_sts S [1113] g2) 1011 0 (0 : Int)) ok8 (⟨by decide, by decide⟩ : sv_R (0 : Int)) (⟨by decide, by decide⟩ : sv_R (0 : Int)) o13) (fun v S1 hq => ?_)
    obtain ⟨rfl, hS1⟩ := hq
    obtain rfl : (sv_up (sv_sts S [1113] g2) 1011 0 (0 : Int)) = S1 := hS1.symm
    show sv_T sm_XS sm_cs sm_L sm_sh 3 (q_charAt p1 p2 p3 S) 191 42 [(0, .ref 0), (1, sv_I p1), (2, sv_I p2), (3, sv_I p3), (4, sv_I (0 : Int))] [sv_I (if (0 : Int) ≤ (0 : Int) ∧ (0 : Int) ≤ ((S 4 p1) - (1 : Int)) then 1 else 0)] (sv_up (sv_sts S [1113] g2) 1011 0 (0 : Int))
    refine sv_cond_eq hM dX12_charAt_42 (sv_Rite : sv_R (if (0 : Int) ≤ (0 : Int) ∧ (0 : Int) ≤ ((S 4 p1) - (1 : Int)) then 1 else 0)) (t := 61) rfl rfl (fun hc => ?_) (fun hc => ?_)
    · have h := h.1 (sv_iten hc)
      refine sv_aload_n hM dX12_charAt_61 rfl rfl ?_
      refine sv_bipush (d := (6 : Int)) hM dX12_charAt_62 rfl rfl ?_
      refine sv_aload_n hM dX12_charAt_64 rfl rfl ?_
      obtain ⟨o14, h⟩ := h
      refine sv_callV hM dX12_charAt_65 sm_iv_803 (by decide) (sm_a0 _) rfl rfl (Nat.le_of_ble_eq_true rfl) sm_h123 (Nat.le_of_ble_eq_true rfl) (Nat.le_of_ble_eq_true rfl) (F' := 1) (Nat.le_of_ble_eq_true rfl) rfl (t_made  (sv_up (sv_sts S [1113] g2) 1011 0 (0 : Int)) ok8 o14) (fun v S1 hq => ?_)
      obtain ⟨r19, rfl, hr19, ok16, md17, hpo18⟩ := hq
      obtain ⟨g15, rfl⟩ : ∃ g, S1 = sv_sts (sv_up (sv_sts S [1113] g2) 1011 0 (0 : Int)) [1011, 3, 4, 1007, 1075] g := ⟨_, md17.eq⟩
      show sv_T sm_XS sm_cs sm_L sm_sh 3 (q_charAt p1 p2 p3 S) 191 68 [(0, .ref 0), (1, sv_I p1), (2, sv_I p2), (3, sv_I p3), (4, sv_I (0 : Int))] [sv_I r19, sv_I (6 : Int), .ref 0] (sv_sts (sv_up (sv_sts S [1113] g2) 1011 0 (0 : Int)) [1011, 3, 4, 1007, 1075] g15)
      have md20 : sv_mod [5, 1011, 3, 4, 1007, 1075, 1113, 1111, 1112] S (sv_sts (sv_up (sv_sts S [1113] g2) 1011 0 (0 : Int)) [1011, 3, 4, 1007, 1075] g15) := sv_mod.sts md9 (by decide)
      have h := h r19 hr19 g15 hpo18
      refine sv_callV hM dX12_charAt_68 sm_iv_822 (by decide) (sm_a0 _) rfl rfl (Nat.le_of_ble_eq_true rfl) sm_h122 (Nat.le_of_ble_eq_true rfl) (Nat.le_of_ble_eq_true rfl) (F' := 0) (Nat.le_of_ble_eq_true rfl) rfl (t_give_ (6 : Int) r19 (sv_sts (sv_up (sv_sts S [1113] g2) 1011 0 (0 : Int)) [1011, 3, 4, 1007, 1075] g15) ok16 (⟨by decide, by decide⟩ : sv_R (6 : Int)) hr19) (fun v S1 hq => ?_)
      obtain ⟨rfl, ok22, md23, hpo24⟩ := hq
      obtain ⟨g21, rfl⟩ : ∃ g, S1 = sv_sts (sv_sts (sv_up (sv_sts S [1113] g2) 1011 0 (0 : Int)) [1011, 3, 4, 1007, 1075] g15) [1111, 1112] g := ⟨_, md23.eq⟩
      show sv_T sm_XS sm_cs sm_L sm_sh 3 (q_charAt p1 p2 p3 S) 191 71 [(0, .ref 0), (1, sv_I p1), (2, sv_I p2), (3, sv_I p3), (4, sv_I (0 : Int))] [] (sv_sts (sv_sts (sv_up (sv_sts S [1113] g2) 1011 0 (0 : Int)) [1011, 3, 4, 1007, 1075] g15) [1111, 1112] g21)
      have md25 : sv_mod [5, 1011, 3, 4, 1007, 1075, 1113, 1111, 1112] S (sv_sts (sv_sts (sv_up (sv_sts S [1113] g2) 1011 0 (0 : Int)) [1011, 3, 4, 1007, 1075] g15) [1111, 1112] g21) := sv_mod.sts md20 (by decide)
      have h := h g21 hpo24
      exact sv_vret hM dX12_charAt_71 rfl ⟨rfl, ok22, md25, h⟩
    · have h := h.2 (sv_itep hc)
      refine sv_aload_n hM dX12_charAt_45 rfl rfl ?_
      refine sv_aload_n hM dX12_charAt_46 rfl rfl ?_
      refine sv_getA hM dX12_charAt_47 sm_fl_16 (sm_a0 _) sm_k5 rfl ?_
      refine sv_bipush (d := (60 : Int)) hM dX12_charAt_50 rfl rfl ?_
      refine sv_iload_n hM dX12_charAt_52 rfl rfl ?_
      refine sv_imul hM dX12_charAt_53 rfl ?_
      refine sv_iload hM dX12_charAt_54 rfl rfl ?_
      refine sv_iadd hM dX12_charAt_56 rfl ?_
      obtain ⟨o26, h⟩ := h
      have k27 : (0 ≤ (S 3 (((60 : Int) * p1) + (0 : Int))) ∧ (S 3 (((60 : Int) * p1) + (0 : Int))) ≤ 65535) := sm_okC ok8 sm_r3 (((60 : Int) * p1) + (0 : Int))
      have h := h k27
      refine sv_cald hM dX12_charAt_57 (sm_a3 _) (by decide) o26.1 o26.2 rfl (x := (S 3 (((60 : Int) * p1) + (0 : Int)))) rfl ?_
      obtain ⟨o28, h⟩ := h
      refine sv_callV hM dX12_charAt_58 sm_iv_324 (by decide) (sm_a0 _) rfl rfl (Nat.le_of_ble_eq_true rfl) sm_h7 (Nat.le_of_ble_eq_true rfl) (Nat.le_of_ble_eq_true rfl) (F' := 0) (Nat.le_of_ble_eq_true rfl) rfl (t_put (S 3 (((60 : Int) * p1) + (0 : Int))) (sv_up (sv_sts S [1113] g2) 1011 0 (0 : Int)) ok8 (sv_RC k27) o28) (fun v S1 hq => ?_)
      obtain ⟨rfl, ok30, md31, hpo32⟩ := hq
      obtain ⟨g29, rfl⟩ : ∃ g, S1 = sv_sts (sv_up (sv_sts S [1113] g2) 1011 0 (0 : Int)) [5, 1011] g := ⟨_, md31.eq⟩
      show sv_T sm_XS sm_cs sm_L sm_sh 3 (q_charAt p1 p2 p3 S) 191 61 [(0, .ref 0), (1, sv_I p1), (2, sv_I p2), (3, sv_I p3), (4, sv_I (0 : Int))] [] (sv_sts (sv_up (sv_sts S [1113] g2) 1011 0 (0 : Int)) [5, 1011] g29)
      have md33 : sv_mod [5, 1011, 3, 4, 1007, 1075, 1113, 1111, 1112] S (sv_sts (sv_up (sv_sts S [1113] g2) 1011 0 (0 : Int)) [5, 1011] g29) := sv_mod.sts md9 (by decide)
      have h := h g29 hpo32
      refine sv_aload_n hM dX12_charAt_61 rfl rfl ?_
      refine sv_bipush (d := (6 : Int)) hM dX12_charAt_62 rfl rfl ?_
      refine sv_aload_n hM dX12_charAt_64 rfl rfl ?_
      obtain ⟨o34, h⟩ := h
      refine sv_callV hM dX12_charAt_65 sm_iv_803 (by decide) (sm_a0 _) rfl rfl (Nat.le_of_ble_eq_true rfl) sm_h123 (Nat.le_of_ble_eq_true rfl) (Nat.le_of_ble_eq_true rfl) (F' := 1) (Nat.le_of_ble_eq_true rfl) rfl (t_made  (sv_sts (sv_up (sv_sts S [1113] g2) 1011 0 (0 : Int)) [5, 1011] g29) ok30 o34) (fun v S1 hq => ?_)
      obtain ⟨r39, rfl, hr39, ok36, md37, hpo38⟩ := hq
      obtain ⟨g35, rfl⟩ : ∃ g, S1 = sv_sts (sv_sts (sv_up (sv_sts S [1113] g2) 1011 0 (0 : Int)) [5, 1011] g29) [1011, 3, 4, 1007, 1075] g := ⟨_, md37.eq⟩
      show sv_T sm_XS sm_cs sm_L sm_sh 3 (q_charAt p1 p2 p3 S) 191 68 [(0, .ref 0), (1, sv_I p1), (2, sv_I p2), (3, sv_I p3), (4, sv_I (0 : Int))] [sv_I r39, sv_I (6 : Int), .ref 0] (sv_sts (sv_sts (sv_up (sv_sts S [1113] g2) 1011 0 (0 : Int)) [5, 1011] g29) [1011, 3, 4, 1007, 1075] g35)
      have md40 : sv_mod [5, 1011, 3, 4, 1007, 1075, 1113, 1111, 1112] S (sv_sts (sv_sts (sv_up (sv_sts S [1113] g2) 1011 0 (0 : Int)) [5, 1011] g29) [1011, 3, 4, 1007, 1075] g35) := sv_mod.sts md33 (by decide)
      have h := h r39 hr39 g35 hpo38
      refine sv_callV hM dX12_charAt_68 sm_iv_822 (by decide) (sm_a0 _) rfl rfl (Nat.le_of_ble_eq_true rfl) sm_h122 (Nat.le_of_ble_eq_true rfl) (Nat.le_of_ble_eq_true rfl) (F' := 0) (Nat.le_of_ble_eq_true rfl) rfl (t_give_ (6 : Int) r39 (sv_sts (sv_sts (sv_up (sv_sts S [1113] g2) 1011 0 (0 : Int)) [5, 1011] g29) [1011, 3, 4, 1007, 1075] g35) ok36 (⟨by decide, by decide⟩ : sv_R (6 : Int)) hr39) (fun v S1 hq => ?_)
      obtain ⟨rfl, ok42, md43, hpo44⟩ := hq
      obtain ⟨g41, rfl⟩ : ∃ g, S1 = sv_sts (sv_sts (sv_sts (sv_up (sv_sts S [1113] g2) 1011 0 (0 : Int)) [5, 1011] g29) [1011, 3, 4, 1007, 1075] g35) [1111, 1112] g := ⟨_, md43.eq⟩
      show sv_T sm_XS sm_cs sm_L sm_sh 3 (q_charAt p1 p2 p3 S) 191 71 [(0, .ref 0), (1, sv_I p1), (2, sv_I p2), (3, sv_I p3), (4, sv_I (0 : Int))] [] (sv_sts (sv_sts (sv_sts (sv_up (sv_sts S [1113] g2) 1011 0 (0 : Int)) [5, 1011] g29) [1011, 3, 4, 1007, 1075] g35) [1111, 1112] g41)
      have md45 : sv_mod [5, 1011, 3, 4, 1007, 1075, 1113, 1111, 1112] S (sv_sts (sv_sts (sv_sts (sv_up (sv_sts S [1113] g2) 1011 0 (0 : Int)) [5, 1011] g29) [1011, 3, 4, 1007, 1075] g35) [1111, 1112] g41) := sv_mod.sts md40 (by decide)
      have h := h g41 hpo44
      exact sv_vret hM dX12_charAt_71 rfl ⟨rfl, ok42, md45, h⟩
  · have h := h.2 (hc)
    refine sv_iload hM dX12_charAt_20 rfl rfl ?_
    refine sv_goto hM dX12_charAt_22 (pc' := 26) rfl ?_
    refine sv_istore hM dX12_charAt_26 (by decide) rfl ?_
    show sv_T sm_XS sm_cs sm_L sm_sh 3 (q_charAt p1 p2 p3 S) 191 28 [(0, .ref 0), (1, sv_I p1), (2, sv_I p2), (3, sv_I p3), (4, sv_I r6)] [] (sv_up (sv_sts S [1113] g2) 1011 0 (0 : Int))
    refine sv_iload hM dX12_charAt_28 rfl rfl ?_
    refine sv_iconst (d := (0 : Int)) hM dX12_charAt_30 rfl rfl ?_
    refine sv_aload_n hM dX12_charAt_31 rfl rfl ?_
    refine sv_getA hM dX12_charAt_32 sm_fl_20 (sm_a0 _) sm_k6 rfl ?_
    refine sv_iload_n hM dX12_charAt_35 rfl rfl ?_
    obtain ⟨o46, h⟩ := h
    have k47 : sv_R (S 4 p1) := sm_okI ok8 sm_r4 p1
    have h := h k47
    refine sv_iald hM dX12_charAt_36 (sm_a4 _) (by decide) o46.1 o46.2 rfl (x := (S 4 p1)) rfl ?_
    refine sv_iconst (d := (1 : Int)) hM dX12_charAt_37 rfl rfl ?_
    refine sv_isub hM dX12_charAt_38 rfl ?_
    obtain ⟨o48, h⟩ := h
    refine sv_callS hM dX12_charAt_39 sm_iv_899 (Nat.le_of_ble_eq_true rfl) rfl rfl (Nat.le_of_ble_eq_true rfl) sm_h4 (Nat.le_of_ble_eq_true rfl) (Nat.le_of_ble_eq_true rfl) (F' := 0) (Nat.le_of_ble_eq_true rfl) rfl (t_in r6 (0 : Int) ((S 4 p1) - (1 : Int)) (sv_up (sv_sts S [1113] g2) 1011 0 (0 : Int)) ok8 hr6 (⟨by decide, by decide⟩ : sv_R (0 : Int)) o48) (fun v S1 hq => ?_)
    obtain ⟨rfl, hS1⟩ := hq
    obtain rfl : (sv_up (sv_sts S [1113] g2) 1011 0 (0 : Int)) = S1 := hS1.symm
    show sv_T sm_XS sm_cs sm_L sm_sh 3 (q_charAt p1 p2 p3 S) 191 42 [(0, .ref 0), (1, sv_I p1), (2, sv_I p2), (3, sv_I p3), (4, sv_I r6)] [sv_I (if (0 : Int) ≤ r6 ∧ r6 ≤ ((S 4 p1) - (1 : Int)) then 1 else 0)] (sv_up (sv_sts S [1113] g2) 1011 0 (0 : Int))
    refine sv_cond_eq hM dX12_charAt_42 (sv_Rite : sv_R (if (0 : Int) ≤ r6 ∧ r6 ≤ ((S 4 p1) - (1 : Int)) then 1 else 0)) (t := 61) rfl rfl (fun hc => ?_) (fun hc => ?_)
    · have h := h.1 (sv_iten hc)
      refine sv_aload_n hM dX12_charAt_61 rfl rfl ?_
      refine sv_bipush (d := (6 : Int)) hM dX12_charAt_62 rfl rfl ?_
      refine sv_aload_n hM dX12_charAt_64 rfl rfl ?_
      obtain ⟨o49, h⟩ := h
      refine sv_callV hM dX12_charAt_65 sm_iv_803 (by decide) (sm_a0 _) rfl rfl (Nat.le_of_ble_eq_true rfl) sm_h123 (Nat.le_of_ble_eq_true rfl) (Nat.le_of_ble_eq_true rfl) (F' := 1) (Nat.le_of_ble_eq_true rfl) rfl (t_made  (sv_up (sv_sts S [1113] g2) 1011 0 (0 : Int)) ok8 o49) (fun v S1 hq => ?_)
      obtain ⟨r54, rfl, hr54, ok51, md52, hpo53⟩ := hq
      obtain ⟨g50, rfl⟩ : ∃ g, S1 = sv_sts (sv_up (sv_sts S [1113] g2) 1011 0 (0 : Int)) [1011, 3, 4, 1007, 1075] g := ⟨_, md52.eq⟩
      show sv_T sm_XS sm_cs sm_L sm_sh 3 (q_charAt p1 p2 p3 S) 191 68 [(0, .ref 0), (1, sv_I p1), (2, sv_I p2), (3, sv_I p3), (4, sv_I r6)] [sv_I r54, sv_I (6 : Int), .ref 0] (sv_sts (sv_up (sv_sts S [1113] g2) 1011 0 (0 : Int)) [1011, 3, 4, 1007, 1075] g50)
      have md55 : sv_mod [5, 1011, 3, 4, 1007, 1075, 1113, 1111, 1112] S (sv_sts (sv_up (sv_sts S [1113] g2) 1011 0 (0 : Int)) [1011, 3, 4, 1007, 1075] g50) := sv_mod.sts md9 (by decide)
      have h := h r54 hr54 g50 hpo53
      refine sv_callV hM dX12_charAt_68 sm_iv_822 (by decide) (sm_a0 _) rfl rfl (Nat.le_of_ble_eq_true rfl) sm_h122 (Nat.le_of_ble_eq_true rfl) (Nat.le_of_ble_eq_true rfl) (F' := 0) (Nat.le_of_ble_eq_true rfl) rfl (t_give_ (6 : Int) r54 (sv_sts (sv_up (sv_sts S [1113] g2) 1011 0 (0 : Int)) [1011, 3, 4, 1007, 1075] g50) ok51 (⟨by decide, by decide⟩ : sv_R (6 : Int)) hr54) (fun v S1 hq => ?_)
      obtain ⟨rfl, ok57, md58, hpo59⟩ := hq
      obtain ⟨g56, rfl⟩ : ∃ g, S1 = sv_sts (sv_sts (sv_up (sv_sts S [1113] g2) 1011 0 (0 : Int)) [1011, 3, 4, 1007, 1075] g50) [1111, 1112] g := ⟨_, md58.eq⟩
      show sv_T sm_XS sm_cs sm_L sm_sh 3 (q_charAt p1 p2 p3 S) 191 71 [(0, .ref 0), (1, sv_I p1), (2, sv_I p2), (3, sv_I p3), (4, sv_I r6)] [] (sv_sts (sv_sts (sv_up (sv_sts S [1113] g2) 1011 0 (0 : Int)) [1011, 3, 4, 1007, 1075] g50) [1111, 1112] g56)
      have md60 : sv_mod [5, 1011, 3, 4, 1007, 1075, 1113, 1111, 1112] S (sv_sts (sv_sts (sv_up (sv_sts S [1113] g2) 1011 0 (0 : Int)) [1011, 3, 4, 1007, 1075] g50) [1111, 1112] g56) := sv_mod.sts md55 (by decide)
      have h := h g56 hpo59
      exact sv_vret hM dX12_charAt_71 rfl ⟨rfl, ok57, md60, h⟩
    · have h := h.2 (sv_itep hc)
      refine sv_aload_n hM dX12_charAt_45 rfl rfl ?_
      refine sv_aload_n hM dX12_charAt_46 rfl rfl ?_
      refine sv_getA hM dX12_charAt_47 sm_fl_16 (sm_a0 _) sm_k5 rfl ?_
      refine sv_bipush (d := (60 : Int)) hM dX12_charAt_50 rfl rfl ?_
      refine sv_iload_n hM dX12_charAt_52 rfl rfl ?_
      refine sv_imul hM dX12_charAt_53 rfl ?_
      refine sv_iload hM dX12_charAt_54 rfl rfl ?_
      refine sv_iadd hM dX12_charAt_56 rfl ?_
      obtain ⟨o61, h⟩ := h
      have k62 : (0 ≤ (S 3 (((60 : Int) * p1) + r6)) ∧ (S 3 (((60 : Int) * p1) + r6)) ≤ 65535) := sm_okC ok8 sm_r3 (((60 : Int) * p1) + r6)
      have h := h k62
      refine sv_cald hM dX12_charAt_57 (sm_a3 _) (by decide) o61.1 o61.2 rfl (x := (S 3 (((60 : Int) * p1) + r6))) rfl ?_
      obtain ⟨o63, h⟩ := h
      refine sv_callV hM dX12_charAt_58 sm_iv_324 (by decide) (sm_a0 _) rfl rfl (Nat.le_of_ble_eq_true rfl) sm_h7 (Nat.le_of_ble_eq_true rfl) (Nat.le_of_ble_eq_true rfl) (F' := 0) (Nat.le_of_ble_eq_true rfl) rfl (t_put (S 3 (((60 : Int) * p1) + r6)) (sv_up (sv_sts S [1113] g2) 1011 0 (0 : Int)) ok8 (sv_RC k62) o63) (fun v S1 hq => ?_)
      obtain ⟨rfl, ok65, md66, hpo67⟩ := hq
      obtain ⟨g64, rfl⟩ : ∃ g, S1 = sv_sts (sv_up (sv_sts S [1113] g2) 1011 0 (0 : Int)) [5, 1011] g := ⟨_, md66.eq⟩
      show sv_T sm_XS sm_cs sm_L sm_sh 3 (q_charAt p1 p2 p3 S) 191 61 [(0, .ref 0), (1, sv_I p1), (2, sv_I p2), (3, sv_I p3), (4, sv_I r6)] [] (sv_sts (sv_up (sv_sts S [1113] g2) 1011 0 (0 : Int)) [5, 1011] g64)
      have md68 : sv_mod [5, 1011, 3, 4, 1007, 1075, 1113, 1111, 1112] S (sv_sts (sv_up (sv_sts S [1113] g2) 1011 0 (0 : Int)) [5, 1011] g64) := sv_mod.sts md9 (by decide)
      have h := h g64 hpo67
      refine sv_aload_n hM dX12_charAt_61 rfl rfl ?_
      refine sv_bipush (d := (6 : Int)) hM dX12_charAt_62 rfl rfl ?_
      refine sv_aload_n hM dX12_charAt_64 rfl rfl ?_
      obtain ⟨o69, h⟩ := h
      refine sv_callV hM dX12_charAt_65 sm_iv_803 (by decide) (sm_a0 _) rfl rfl (Nat.le_of_ble_eq_true rfl) sm_h123 (Nat.le_of_ble_eq_true rfl) (Nat.le_of_ble_eq_true rfl) (F' := 1) (Nat.le_of_ble_eq_true rfl) rfl (t_made  (sv_sts (sv_up (sv_sts S [1113] g2) 1011 0 (0 : Int)) [5, 1011] g64) ok65 o69) (fun v S1 hq => ?_)
      obtain ⟨r74, rfl, hr74, ok71, md72, hpo73⟩ := hq
      obtain ⟨g70, rfl⟩ : ∃ g, S1 = sv_sts (sv_sts (sv_up (sv_sts S [1113] g2) 1011 0 (0 : Int)) [5, 1011] g64) [1011, 3, 4, 1007, 1075] g := ⟨_, md72.eq⟩
      show sv_T sm_XS sm_cs sm_L sm_sh 3 (q_charAt p1 p2 p3 S) 191 68 [(0, .ref 0), (1, sv_I p1), (2, sv_I p2), (3, sv_I p3), (4, sv_I r6)] [sv_I r74, sv_I (6 : Int), .ref 0] (sv_sts (sv_sts (sv_up (sv_sts S [1113] g2) 1011 0 (0 : Int)) [5, 1011] g64) [1011, 3, 4, 1007, 1075] g70)
      have md75 : sv_mod [5, 1011, 3, 4, 1007, 1075, 1113, 1111, 1112] S (sv_sts (sv_sts (sv_up (sv_sts S [1113] g2) 1011 0 (0 : Int)) [5, 1011] g64) [1011, 3, 4, 1007, 1075] g70) := sv_mod.sts md68 (by decide)
      have h := h r74 hr74 g70 hpo73
      refine sv_callV hM dX12_charAt_68 sm_iv_822 (by decide) (sm_a0 _) rfl rfl (Nat.le_of_ble_eq_true rfl) sm_h122 (Nat.le_of_ble_eq_true rfl) (Nat.le_of_ble_eq_true rfl) (F' := 0) (Nat.le_of_ble_eq_true rfl) rfl (t_give_ (6 : Int) r74 (sv_sts (sv_sts (sv_up (sv_sts S [1113] g2) 1011 0 (0 : Int)) [5, 1011] g64) [1011, 3, 4, 1007, 1075] g70) ok71 (⟨by decide, by decide⟩ : sv_R (6 : Int)) hr74) (fun v S1 hq => ?_)
      obtain ⟨rfl, ok77, md78, hpo79⟩ := hq
      obtain ⟨g76, rfl⟩ : ∃ g, S1 = sv_sts (sv_sts (sv_sts (sv_up (sv_sts S [1113] g2) 1011 0 (0 : Int)) [5, 1011] g64) [1011, 3, 4, 1007, 1075] g70) [1111, 1112] g := ⟨_, md78.eq⟩
      show sv_T sm_XS sm_cs sm_L sm_sh 3 (q_charAt p1 p2 p3 S) 191 71 [(0, .ref 0), (1, sv_I p1), (2, sv_I p2), (3, sv_I p3), (4, sv_I r6)] [] (sv_sts (sv_sts (sv_sts (sv_up (sv_sts S [1113] g2) 1011 0 (0 : Int)) [5, 1011] g64) [1011, 3, 4, 1007, 1075] g70) [1111, 1112] g76)
      have md80 : sv_mod [5, 1011, 3, 4, 1007, 1075, 1113, 1111, 1112] S (sv_sts (sv_sts (sv_sts (sv_up (sv_sts S [1113] g2) 1011 0 (0 : Int)) [5, 1011] g64) [1011, 3, 4, 1007, 1075] g70) [1111, 1112] g76) := sv_mod.sts md75 (by decide)
      have h := h g76 hpo79
      exact sv_vret hM dX12_charAt_71 rfl ⟨rfl, ok77, md80, h⟩
def q_nativeWith (p1 : Int) (p2 : Int) (p3 : Int) (p4 : Int) (p5 : Int) (S : sv_S) : Option Value → sv_S → Prop := fun v S' => ∃ r : Int, v = some (sv_I r) ∧ sv_R r ∧ sm_ok S' ∧ sv_mod [1076, 41, 42, 43, 44, 45, 46, 47, 1075, 1100029, 1092, 60, 58, 57, 63, 64, 1073, 1109, 1110, 1111, 1112, 5, 1011, 3, 4, 1007, 1084, 1085, 48, 1086, 51, 52, 49, 50, 1100020, 1100021, 1100022, 1113] S S' ∧ ((r = 0 ∨ r = 1) ∧ (r = 0 → sm_PL (S' 1100020) (S' 51) (S' 52) (S' 46) (S' 47) (S' 1076 0) (S' 1086 0) ∧ sm_FR (S' 1100020) (S' 52) (S' 1100021) (S' 1100022) (3000 - (S' 1084 0)) (S' 1085 0) ∧ sm_PV (S' 1100020) (S' 48) (S' 49) (S' 50) (S' 44) (S' 1076 0) (S' 1007 0) ∧ sm_AL (S' 1100020) (S' 48) (S' 49) (S' 50) (S' 44) (S' 1076 0) (S' 1100032 0) ∧ sm_SV (S' 1100020) (S' 48) (S' 1100029) (S' 32) (S' 33) (S' 1076 0) (S' 1032 0) ∧ 0 ≤ (S' 1076 0) ∧ (S' 1076 0) ≤ 300 ∧ 0 ≤ (S' 1084 0) ∧ (S' 1084 0) ≤ 3000 ∧ 0 ≤ (S' 1086 0) ∧ sm_SC (S' 1100029) (S' 44) (S' 45) (S' 43) (S' 21) (S' 1076 0) (S' 1032 0) ∧ sm_PO (S' 42) (S' 1076 0) ∧ ((S' 1075 0) = 0 → (S' 1100032 0) = -1 ∧ sm_FO (S' 44) (S' 45) (S' 1076 0)) ∧ 23 ≤ (S' 1076 0) ∧ 31 ≤ (S' 1007 0) ∧ (S' 1007 0) ≤ 400 ∧ sm_LN (S' 4) 400 (S' 1007 0) ∧ (S' 1008 0) ≤ (S' 1007 0) ∧ ((S 1075 0) = 1 → (S' 1075 0) = 1) ∧ 0 ≤ (S' 1092 0) ∧ (S' 1092 0) ≤ 24 ∧ (S 1007 0) ≤ (S' 1007 0) ∧ (¬ (S' 1075 0) = 0 → sm_LX (S' 58) (S' 63) (S' 64) (S' 1092 0) (S' 1076 0)) ∧ ((S' 1075 0) = 0 → (S' 1073 0) = 1 → 1 ≤ (S' 1092 0) ∧ (S' 1092 0) ≤ 24 ∧ 0 ≤ (S' 57 ((S' 1092 0) - 1)) ∧ (S' 57 ((S' 1092 0) - 1)) < (S' 1046 0) ∧ (S' 29 (S' 57 ((S' 1092 0) - 1))) = (S' 53 ((S' 1092 0) - 1)) ∧ 0 ≤ (S' 53 ((S' 1092 0) - 1)) ∧ (S' 53 ((S' 1092 0) - 1)) < (S' 1032 0) ∧ (S' 60 ((S' 1092 0) - 1)) = sm_dp (S' 1100024) (S' 1100023 (S' 57 ((S' 1092 0) - 1))) ∧ sm_TC (S' 61) (S' 62) (S' 27) (S' 1100007) (S' 1100023) (S' 1100024) (40 * ((S' 1092 0) - 1)) (S' 1100023 (S' 57 ((S' 1092 0) - 1))) ∧ sm_LK (S' 1100029) (S' 1076 0) (S' 54 ((S' 1092 0) - 1)) (S' 53 ((S' 1092 0) - 1)) ∧ sm_VO (S' 44) (S' 1076 0) (S' 1007 0) ((S' 55 ((S' 1092 0) - 1))) ((S' 56 ((S' 1092 0) - 1))) ∧ sm_FW (S' 44) (S' 1076 0) (S' 59 ((S' 1092 0) - 1)) ∧ sm_FL (S' 53) (S' 54) (S' 55) (S' 56) (S' 57) (S' 58) (S' 59) (S' 60) (S' 61) (S' 62) (S' 63) (S' 64) (S' 27) (S' 29) (S' 1100007) (S' 1100023) (S' 1100024) (S' 1100025) (S' 26) (S' 1100029) (S' 44) (S' 1046 0) (S' 1032 0) (S' 1076 0) (S' 1007 0) (((S' 1092 0) - 1)) ∧ (S' 58 ((S' 1092 0) - 1)) = (S' 1100007 (S' 57 ((S' 1092 0) - 1))) ∧ sm_SK (S' 63) (S' 64) (S' 44) (S' 1100007) (S' 1100025) (S' 1076 0) (S' 1007 0) (400 * ((S' 1092 0) - 1)) ((S' 58 ((S' 1092 0) - 1))) ((S' 1100025 (S' 57 ((S' 1092 0) - 1))))) ∧ ((S' 1073 0) = 1 ∨ (S' 1092 0) = 0 ∧ (S' 1075 0) = 0 ∧ ((S' 1073 0) = 2 ∨ (S' 1073 0) = 3)) ∧ (S 1086 0) ≤ (S' 1086 0) ∧ (S' 1086 0) ≤ (S 1086 0) + 3) ∧ (r = 1 → sm_PL (S' 1100020) (S' 51) (S' 52) (S' 46) (S' 47) (S' 1076 0) (S' 1086 0) ∧ sm_FR (S' 1100020) (S' 52) (S' 1100021) (S' 1100022) (3000 - (S' 1084 0)) (S' 1085 0) ∧ sm_PV (S' 1100020) (S' 48) (S' 49) (S' 50) (S' 44) (S' 1076 0) (S' 1007 0) ∧ sm_AL (S' 1100020) (S' 48) (S' 49) (S' 50) (S' 44) (S' 1076 0) (S' 1100032 0) ∧ sm_SV (S' 1100020) (S' 48) (S' 1100029) (S' 32) (S' 33) (S' 1076 0) (S' 1032 0) ∧ 0 ≤ (S' 1076 0) ∧ (S' 1076 0) ≤ 300 ∧ 0 ≤ (S' 1084 0) ∧ (S' 1084 0) ≤ 3000 ∧ 0 ≤ (S' 1086 0) ∧ sm_SC (S' 1100029) (S' 44) (S' 45) (S' 43) (S' 21) (S' 1076 0) (S' 1032 0) ∧ sm_PO (S' 42) (S' 1076 0) ∧ ((S' 1075 0) = 0 → (S' 1100032 0) = -1 ∧ sm_FO (S' 44) (S' 45) (S' 1076 0)) ∧ 23 ≤ (S' 1076 0) ∧ 31 ≤ (S' 1007 0) ∧ (S' 1007 0) ≤ 400 ∧ sm_LN (S' 4) 400 (S' 1007 0) ∧ (S' 1008 0) ≤ (S' 1007 0) ∧ ((S 1075 0) = 1 → (S' 1075 0) = 1) ∧ 0 ≤ (S' 1092 0) ∧ (S' 1092 0) ≤ 24 ∧ (S 1007 0) ≤ (S' 1007 0) ∧ (¬ (S' 1075 0) = 0 → sm_LX (S' 58) (S' 63) (S' 64) (S' 1092 0) (S' 1076 0)) ∧ (S' 1073 0) = 1 ∧ ((S' 1075 0) = 0 → sm_PL (S' 1100020) (S' 51) (S' 52) (S' 46) (S' 47) (S' 1076 0) (S' 1086 0) ∧ sm_FR (S' 1100020) (S' 52) (S' 1100021) (S' 1100022) (3000 - (S' 1084 0)) (S' 1085 0) ∧ sm_PV (S' 1100020) (S' 48) (S' 49) (S' 50) (S' 44) (S' 1076 0) (S' 1007 0) ∧ sm_AL (S' 1100020) (S' 48) (S' 49) (S' 50) (S' 44) (S' 1076 0) (S' 1100032 0) ∧ sm_SV (S' 1100020) (S' 48) (S' 1100029) (S' 32) (S' 33) (S' 1076 0) (S' 1032 0) ∧ 0 ≤ (S' 1076 0) ∧ (S' 1076 0) ≤ 300 ∧ 0 ≤ (S' 1084 0) ∧ (S' 1084 0) ≤ 3000 ∧ 0 ≤ (S' 1086 0) ∧ sm_SC (S' 1100029) (S' 44) (S' 45) (S' 43) (S' 21) (S' 1076 0) (S' 1032 0) ∧ sm_PO (S' 42) (S' 1076 0) ∧ (S' 1100032 0) = -1 ∧ sm_FO (S' 44) (S' 45) (S' 1076 0) ∧ 23 ≤ (S' 1076 0) ∧ 31 ≤ (S' 1007 0) ∧ (S' 1007 0) ≤ 400 ∧ sm_LN (S' 4) 400 (S' 1007 0) ∧ sm_CT (S' 26) (S' 27) (S' 28) (S' 29) (S' 1100007) (S' 1100023) (S' 1100024) (S' 1100025) (S' 21) (S' 1046 0) (S' 1032 0) (S' 1008 0) (S' 1055 0) ∧ sm_LS (S' 26) (S' 1100007) (S' 1100025) (S' 1046 0) ∧ sm_CL (S' 1100007) (S' 1100023) (S' 1100025) (S' 1046 0) ∧ 1 ≤ (S' 1032 0) ∧ (S' 1032 0) ≤ 11 ∧ 0 ≤ (S' 1046 0) ∧ (S' 1046 0) ≤ 600 ∧ 31 ≤ (S' 1008 0) ∧ (S' 1008 0) ≤ (S' 1007 0) ∧ 0 ≤ (S' 1055 0) ∧ (S' 1055 0) ≤ 19 ∧ 1 ≤ (S' 1092 0) ∧ (S' 1092 0) ≤ 24 ∧ 0 ≤ (S' 1100033 0) ∧ (S' 1100033 0) < (S' 1046 0) ∧ (S' 29 (S' 1100033 0)) = (S' 53 ((S' 1092 0) - 1)) ∧ 0 ≤ (S' 53 ((S' 1092 0) - 1)) ∧ (S' 53 ((S' 1092 0) - 1)) < (S' 1032 0) ∧ (S' 60 ((S' 1092 0) - 1)) = sm_dp (S' 1100024) (S' 1100023 (S' 1100033 0)) ∧ sm_TC (S' 61) (S' 62) (S' 27) (S' 1100007) (S' 1100023) (S' 1100024) (40 * ((S' 1092 0) - 1)) (S' 1100023 (S' 1100033 0)) ∧ sm_LK (S' 1100029) (S' 1076 0) (S' 54 ((S' 1092 0) - 1)) (S' 53 ((S' 1092 0) - 1)) ∧ sm_VO (S' 44) (S' 1076 0) (S' 1007 0) ((S' 55 ((S' 1092 0) - 1))) ((S' 56 ((S' 1092 0) - 1))) ∧ sm_FW (S' 44) (S' 1076 0) (S' 59 ((S' 1092 0) - 1)) ∧ sm_FL (S' 53) (S' 54) (S' 55) (S' 56) (S' 57) (S' 58) (S' 59) (S' 60) (S' 61) (S' 62) (S' 63) (S' 64) (S' 27) (S' 29) (S' 1100007) (S' 1100023) (S' 1100024) (S' 1100025) (S' 26) (S' 1100029) (S' 44) (S' 1046 0) (S' 1032 0) (S' 1076 0) (S' 1007 0) (((S' 1092 0) - 1)) ∧ (S' 57 ((S' 1092 0) - 1)) = (S' 1100033 0) ∧ 0 ≤ (S' 58 ((S' 1092 0) - 1)) ∧ (S' 58 ((S' 1092 0) - 1)) ≤ 400 ∧ sm_SK (S' 63) (S' 64) (S' 44) (S' 1100007) (S' 1100025) (S' 1076 0) (S' 1007 0) (400 * ((S' 1092 0) - 1)) ((S' 58 ((S' 1092 0) - 1))) ((S' 1100034 0)) ∧ -1 ≤ (S' 1100034 0) ∧ (S' 1100034 0) < (S' 1046 0) ∧ (0 ≤ (S' 1100034 0) → (S' 26 (S' 1100034 0)) = 29) ∧ (S' 58 ((S' 1092 0) - 1)) = (S 58 ((S 1092 0) - 1)) ∧ sm_VO (S' 44) (S' 1076 0) (S' 1007 0) ((S' 1111 0)) ((S' 1112 0))) ∧ (S 1086 0) ≤ (S' 1086 0) ∧ (S' 1086 0) ≤ (S 1086 0) + 3))
theorem la_nativeWith_0 {x0 : Int} (h0 : x0 = 1) : 0 ≤ x0 := by omega
theorem la_nativeWith_1 {x0 : Int} (h0 : 0 ≤ x0) (h1 : ¬ x0 = 0) : 0 < x0 := by omega
theorem la_nativeWith_2 {x0 : Int} (h0 : x0 = 0) : ¬ x0 = 1 := by omega
theorem la_nativeWith_3 : (1 : Int) = 0 ∨ (1 : Int) = 1 := by omega
theorem la_nativeWith_4 {x0 : Int} (h0 : (1 : Int) = 0) : ¬ x0 = 0 := by omega
theorem la_nativeWith_5 {x0 : Int} (h0 : (1 : Int) = 0) : x0 = 6 := by omega
theorem la_nativeWith_6 {x0 : Int} (h0 : (1 : Int) = 0) : x0 = 7 := by omega
theorem la_nativeWith_7 {x0 : Int} (h0 : (1 : Int) = 0) : 0 ≤ x0 := by omega
theorem la_nativeWith_8 {x0 : Int} (h0 : (1 : Int) = 0) : ¬ x0 = 18 := by omega
theorem la_nativeWith_9 {x0 : Int} (h0 : (1 : Int) = 0) : x0 = 22 := by omega
theorem la_nativeWith_10 {x0 : Int} (h0 : (1 : Int) = 0) : ¬ x0 = 22 := by omega
theorem la_nativeWith_11 {x0 : Int} (h0 : (1 : Int) = 0) : x0 ≤ 3 := by omega
theorem la_nativeWith_12 {x0 : Int} (h0 : x0 ≤ 3) (h1 : ¬ x0 = 3) : x0 < 3 := by omega
theorem la_nativeWith_13 {x0 : Int} (h0 : (1 : Int) = 0) : ¬ x0 = 19 := by omega
theorem la_nativeWith_14 {x0 : Int} (h0 : (1 : Int) = 0) : ¬ x0 = 21 := by omega
theorem la_nativeWith_15 {x0 x1 : Int} (h0 : (1 : Int) = 0) : x0 < x1 := by omega
theorem la_nativeWith_16 {x0 x1 : Int} (h0 : (1 : Int) = 0) : x0 = x1 := by omega
theorem la_nativeWith_17 {x0 : Int} (h0 : (1 : Int) = 0) : x0 ≤ 0 := by omega
theorem la_nativeWith_18 {x0 x1 x2 : Int} (h0 : (1 : Int) = 0) : x0 = 1 ∨ x1 = 0 ∧ x2 = 0 ∧ (x0 = 2 ∨ x0 = 3) := by omega
theorem la_nativeWith_19 {x0 : Int} (h0 : x0 = 22) : 21 ≤ x0 := by omega
theorem la_nativeWith_20 {x0 : Int} (h0 : 21 ≤ x0) (h1 : ¬ x0 = 21) : 21 < x0 := by omega
theorem la_nativeWith_21 {x0 : Int} (h0 : x0 = 22) : ¬ ¬ x0 = 22 := by omega
theorem la_nativeWith_22 {x0 : Int} (h0 : x0 = 22) : 18 ≤ x0 := by omega
theorem la_nativeWith_23 {x0 : Int} (h0 : 18 ≤ x0) (h1 : ¬ x0 = 18) : 18 < x0 := by omega
theorem la_nativeWith_24 {x0 : Int} (h0 : x0 = 22) : 19 ≤ x0 := by omega
theorem la_nativeWith_25 {x0 : Int} (h0 : 19 ≤ x0) (h1 : ¬ x0 = 19) : 19 < x0 := by omega
theorem la_nativeWith_26 {x0 : Int} (h0 : x0 = 6) : ¬ x0 = 7 := by omega
theorem la_nativeWith_27 {x0 x1 x2 : Int} (h0 : x0 ≤ x1) (h1 : x1 ≤ x2) : x0 ≤ x2 := by omega
theorem la_nativeWith_28 {x0 x1 : Int} (h0 : x0 = 0) : x0 = 1 → x1 = 1 := by omega
theorem la_nativeWith_29 {x0 : Int} (h0 : 1 ≤ x0) : 0 ≤ x0 := by omega
theorem la_nativeWith_30 {x0 : Int} : x0 ≤ x0 := by omega
theorem la_nativeWith_31 {x0 : Int} : x0 = x0 := by omega
theorem la_nativeWith_32 {x0 : Int} (h0 : ¬ ¬ x0 = 21) : ¬ x0 = 22 := by omega
theorem la_nativeWith_33 {x0 : Int} (h0 : ¬ ¬ x0 = 21) : 18 ≤ x0 := by omega
theorem la_nativeWith_34 {x0 : Int} (h0 : ¬ ¬ x0 = 21) : 19 ≤ x0 := by omega
theorem la_nativeWith_35 {x0 : Int} (h0 : x0 = 7) : ¬ x0 = 6 := by omega
theorem la_nativeWith_36 {x0 : Int} (h0 : ¬ ¬ x0 = 19) : ¬ x0 = 22 := by omega
theorem la_nativeWith_37 {x0 : Int} (h0 : ¬ ¬ x0 = 19) : 18 ≤ x0 := by omega
theorem la_nativeWith_38 {x0 : Int} (h0 : ¬ ¬ x0 = 19) : ¬ (x0 = 21 ∨ x0 = 22) := by omega
theorem la_nativeWith_39 {x0 : Int} (h0 : x0 = 19) : ¬ x0 = 21 := by omega
theorem la_nativeWith_40 {x0 : Int} (h0 : x0 = 2) : x0 ≤ 3 := by omega
theorem la_nativeWith_41 {x0 x1 x2 x3 x4 x5 : Int} (h0 : x0 ≤ x1) (h1 : x2 ≤ 1900000000) (h2 : 0 ≤ x3) (h3 : x3 < x4) (h4 : x5 = 2) : x0 ≤ x1 ∧ x2 ≤ 1900000000 ∧ 0 ≤ x3 ∧ x3 < x4 ∧ x5 = 2 := by omega
theorem la_nativeWith_42 {x0 : Int} (h0 : ¬ ¬ x0 = 18) : ¬ (x0 = 19 ∨ x0 = 21 ∨ x0 = 22) := by omega
theorem la_nativeWith_43 {x0 : Int} (h0 : ¬ ¬ x0 = 18) : ¬ x0 = 22 := by omega
theorem la_nativeWith_44 {x0 : Int} (h0 : ¬ ¬ x0 = 18) : ¬ x0 = 21 := by omega
theorem la_nativeWith_45 {x0 : Int} (h0 : ¬ ¬ x0 = 0) : ¬ x0 = 1 := by omega
theorem la_nativeWith_46 {x0 x1 : Int} (h0 : 0 ≤ x0) (h1 : x1 = x0) : 0 ≤ x1 := by omega
theorem la_nativeWith_47 {x0 x1 x2 : Int} (h0 : x0 < x1) (h1 : x2 = x0) : x2 < x1 := by omega
theorem la_nativeWith_48 {x0 x1 x2 : Int} (h0 : x0 = x1) (h1 : x2 = x0) : x2 = x1 := by omega
theorem la_nativeWith_49 {x0 x1 x2 : Int} (h0 : x0 = x1) (h1 : x2 = x1) : x0 = x2 := by omega
theorem la_nativeWith_50 {x0 x1 : Int} (h0 : x0 = x1) : x1 = x0 := by omega
theorem la_nativeWith_51 {x0 : Int} : x0 = x0 - 1 + 1 := by omega
theorem la_nativeWith_52 {x0 x1 x2 : Int} (h0 : x0 = x1) (h1 : x2 = x1) : x2 = x0 := by omega
theorem la_nativeWith_53 {x0 x1 : Int} (h0 : 0 ≤ x0) (h1 : x0 = x1) : 0 ≤ x1 := by omega
theorem la_nativeWith_54 {x0 x1 x2 : Int} (h0 : x0 ≤ x1) (h1 : x2 = x0) : x2 ≤ x1 := by omega
theorem la_nativeWith_55 : (6 : Int) ≤ 6 := by omega
theorem la_nativeWith_56 : (6 : Int) ≤ 8 := by omega
theorem la_nativeWith_57 : (0 : Int) = 0 ∨ (0 : Int) = 1 := by omega
theorem la_nativeWith_58 {x0 : Int} : x0 ≤ x0 + 3 := by omega
theorem la_nativeWith_59 {x0 : Int} (h0 : (0 : Int) = 1) : x0 = 1 := by omega
theorem la_nativeWith_60 {x0 : Int} (h0 : (0 : Int) = 1) : ¬ x0 = 1 := by omega
theorem la_nativeWith_61 {x0 : Int} (h0 : (0 : Int) = 1) : ¬ x0 = 0 := by omega
theorem la_nativeWith_62 {x0 : Int} (h0 : (0 : Int) = 1) : ¬ x0 = 2 := by omega
theorem la_nativeWith_63 {x0 : Int} (h0 : (0 : Int) = 1) : x0 = 6 := by omega
theorem la_nativeWith_64 {x0 : Int} (h0 : (0 : Int) = 1) : x0 = 7 := by omega
theorem la_nativeWith_65 {x0 : Int} (h0 : (0 : Int) = 1) : 0 ≤ x0 := by omega
theorem la_nativeWith_66 {x0 : Int} (h0 : (0 : Int) = 1) : x0 ≤ 3 := by omega
theorem la_nativeWith_67 {x0 x1 : Int} (h0 : (0 : Int) = 1) : x0 = x1 := by omega
theorem la_nativeWith_68 {x0 : Int} (h0 : (0 : Int) = 1) : x0 ≤ 400 := by omega
theorem la_nativeWith_69 {x0 : Int} (h0 : (0 : Int) = 1) : x0 ≤ 0 := by omega
theorem la_nativeWith_70 {x0 x1 x2 : Int} : ¬ x0 = 7 → ((0 : Int) = 0 ∨ (0 : Int) = 1) ∧ ((0 : Int) = 1 → (x1 = 22 → x0 = 6) ∧ (¬ x1 = 22 → x0 = 7) ∧ (¬ x1 = 22 → ¬ x1 = 21 → x2 = 2)) := by omega
theorem la_nativeWith_71 {x0 : Int} (h0 : ¬ ¬ x0 = 7) : ¬ x0 = 6 := by omega
theorem la_nativeWith_72 {x0 : Int} (h0 : x0 ≤ 7) (h1 : ¬ ¬ x0 = 7) : x0 = 7 := by omega
theorem la_nativeWith_73 {x0 x1 x2 : Int} (h0 : ¬ ¬ x0 = 7) : x1 = 21 → ((1 : Int) = 0 ∨ (1 : Int) = 1) ∧ ((1 : Int) = 1 → (x1 = 22 → x0 = 6) ∧ (¬ x1 = 22 → x0 = 7) ∧ (¬ x1 = 22 → ¬ x1 = 21 → x2 = 2)) := by omega
theorem la_nativeWith_74 {x0 x1 : Int} (h0 : x0 ≤ 300) (h1 : 0 ≤ x1) (h2 : x1 < x0) : 0 ≤ x1 ∧ x1 < 300 := by omega
theorem la_nativeWith_75 {x0 x1 x2 : Int} : ¬ x0 = 2 → ((0 : Int) = 0 ∨ (0 : Int) = 1) ∧ ((0 : Int) = 1 → (x1 = 22 → x2 = 6) ∧ (¬ x1 = 22 → x2 = 7) ∧ (¬ x1 = 22 → ¬ x1 = 21 → x0 = 2)) := by omega
theorem la_nativeWith_76 {x0 : Int} (h0 : ¬ ¬ x0 = 2) : x0 ≤ 3 := by omega
theorem la_nativeWith_77 {x0 x1 : Int} (h0 : x0 = 18 ∨ x0 = 19 ∨ x0 = 21 ∨ x0 = 22) (h1 : ¬ x0 = 22) (h2 : ¬ ¬ x1 = 7) : x0 = 22 → x1 = 6 := by omega
theorem la_nativeWith_78 {x0 x1 : Int} (h0 : x0 ≤ 7) (h1 : ¬ ¬ x0 = 7) : ¬ x1 = 22 → x0 = 7 := by omega
theorem la_nativeWith_79 {x0 : Int} (h0 : ¬ ¬ x0 = 2) (h1 : x0 < 3) : x0 = 2 := by omega
theorem la_nativeWith_80 {x0 : Int} (h0 : ¬ ¬ x0 = 22) : ¬ x0 = 18 := by omega
theorem la_nativeWith_81 {x0 : Int} (h0 : ¬ ¬ x0 = 22) : ¬ x0 = 19 := by omega
theorem la_nativeWith_82 {x0 : Int} (h0 : ¬ ¬ x0 = 22) : ¬ x0 = 21 := by omega
theorem la_nativeWith_83 {x0 x1 x2 : Int} : ¬ x0 = 6 → ((0 : Int) = 0 ∨ (0 : Int) = 1) ∧ ((0 : Int) = 1 → (x1 = 22 → x0 = 6) ∧ (¬ x1 = 22 → x0 = 7) ∧ (¬ x1 = 22 → ¬ x1 = 21 → x2 = 2)) := by omega
theorem la_nativeWith_84 {x0 : Int} (h0 : ¬ ¬ x0 = 6) : x0 = 6 := by omega
theorem la_nativeWith_85 {x0 : Int} (h0 : ¬ ¬ x0 = 6) : ¬ x0 = 7 := by omega
theorem la_nativeWith_86 {x0 x1 : Int} (h0 : ¬ ¬ x0 = 6) : x1 = 22 → x0 = 6 := by omega
theorem la_nativeWith_87 {x0 x1 : Int} (h0 : ¬ ¬ x0 = 22) (h1 : x0 = 22) (h2 : ¬ ¬ x1 = 6) : ¬ x0 = 22 → x1 = 7 := by omega
theorem la_nativeWith_88 {x0 : Int} (h0 : ¬ ¬ x0 = 22) : x0 ≤ 22 := by omega
theorem la_nativeWith_89 {x0 : Int} (h0 : x0 ≤ 22) (h1 : ¬ x0 = 22) : x0 < 22 := by omega
theorem la_nativeWith_90 {x0 : Int} (h0 : ¬ ¬ x0 = 22) (h1 : x0 < 22) : x0 ≤ 21 := by omega
theorem la_nativeWith_91 {x0 : Int} (h0 : x0 ≤ 21) (h1 : ¬ x0 = 21) : x0 < 21 := by omega
theorem la_nativeWith_92 {x0 : Int} (h0 : ¬ ¬ x0 = 22) (h1 : x0 < 21) : False := by omega
set_option maxHeartbeats 2000000 in
theorem f_nativeWith : ∀ (p1 : Int) (p2 : Int) (p3 : Int) (p4 : Int) (p5 : Int) (S : sv_S), sm_ok S → sv_R p1 → sv_R p2 → sv_R p3 → sv_R p4 → sv_R p5 → ((S 1075 0) = 0 ∧ (S 1073 0) = 1 ∧ sm_LX (S 58) (S 63) (S 64) (S 1092 0) (S 1076 0) ∧ sm_PL (S 1100020) (S 51) (S 52) (S 46) (S 47) (S 1076 0) (S 1086 0) ∧ sm_FR (S 1100020) (S 52) (S 1100021) (S 1100022) (3000 - (S 1084 0)) (S 1085 0) ∧ sm_PV (S 1100020) (S 48) (S 49) (S 50) (S 44) (S 1076 0) (S 1007 0) ∧ sm_AL (S 1100020) (S 48) (S 49) (S 50) (S 44) (S 1076 0) (S 1100032 0) ∧ sm_SV (S 1100020) (S 48) (S 1100029) (S 32) (S 33) (S 1076 0) (S 1032 0) ∧ 0 ≤ (S 1076 0) ∧ (S 1076 0) ≤ 300 ∧ 0 ≤ (S 1084 0) ∧ (S 1084 0) ≤ 3000 ∧ 0 ≤ (S 1086 0) ∧ sm_SC (S 1100029) (S 44) (S 45) (S 43) (S 21) (S 1076 0) (S 1032 0) ∧ sm_PO (S 42) (S 1076 0) ∧ (S 1100032 0) = -1 ∧ sm_FO (S 44) (S 45) (S 1076 0) ∧ 23 ≤ (S 1076 0) ∧ 31 ≤ (S 1007 0) ∧ (S 1007 0) ≤ 400 ∧ sm_LN (S 4) 400 (S 1007 0) ∧ sm_CT (S 26) (S 27) (S 28) (S 29) (S 1100007) (S 1100023) (S 1100024) (S 1100025) (S 21) (S 1046 0) (S 1032 0) (S 1008 0) (S 1055 0) ∧ sm_LS (S 26) (S 1100007) (S 1100025) (S 1046 0) ∧ sm_CL (S 1100007) (S 1100023) (S 1100025) (S 1046 0) ∧ 1 ≤ (S 1032 0) ∧ (S 1032 0) ≤ 11 ∧ 0 ≤ (S 1046 0) ∧ (S 1046 0) ≤ 600 ∧ 31 ≤ (S 1008 0) ∧ (S 1008 0) ≤ (S 1007 0) ∧ 0 ≤ (S 1055 0) ∧ (S 1055 0) ≤ 19 ∧ 1 ≤ (S 1092 0) ∧ (S 1092 0) ≤ 24 ∧ 0 ≤ (S 1100033 0) ∧ (S 1100033 0) < (S 1046 0) ∧ (S 29 (S 1100033 0)) = (S 53 ((S 1092 0) - 1)) ∧ 0 ≤ (S 53 ((S 1092 0) - 1)) ∧ (S 53 ((S 1092 0) - 1)) < (S 1032 0) ∧ (S 60 ((S 1092 0) - 1)) = sm_dp (S 1100024) (S 1100023 (S 1100033 0)) ∧ sm_TC (S 61) (S 62) (S 27) (S 1100007) (S 1100023) (S 1100024) (40 * ((S 1092 0) - 1)) (S 1100023 (S 1100033 0)) ∧ sm_LK (S 1100029) (S 1076 0) (S 54 ((S 1092 0) - 1)) (S 53 ((S 1092 0) - 1)) ∧ sm_VO (S 44) (S 1076 0) (S 1007 0) ((S 55 ((S 1092 0) - 1))) ((S 56 ((S 1092 0) - 1))) ∧ sm_FW (S 44) (S 1076 0) (S 59 ((S 1092 0) - 1)) ∧ sm_FL (S 53) (S 54) (S 55) (S 56) (S 57) (S 58) (S 59) (S 60) (S 61) (S 62) (S 63) (S 64) (S 27) (S 29) (S 1100007) (S 1100023) (S 1100024) (S 1100025) (S 26) (S 1100029) (S 44) (S 1046 0) (S 1032 0) (S 1076 0) (S 1007 0) (((S 1092 0) - 1)) ∧ (S 57 ((S 1092 0) - 1)) = (S 1100033 0) ∧ 0 ≤ (S 58 ((S 1092 0) - 1)) ∧ (S 58 ((S 1092 0) - 1)) ≤ 400 ∧ sm_SK (S 63) (S 64) (S 44) (S 1100007) (S 1100025) (S 1076 0) (S 1007 0) (400 * ((S 1092 0) - 1)) ((S 58 ((S 1092 0) - 1))) ((S 1100034 0)) ∧ -1 ≤ (S 1100034 0) ∧ (S 1100034 0) < (S 1046 0) ∧ (0 ≤ (S 1100034 0) → (S 26 (S 1100034 0)) = 29) ∧ (S 58 ((S 1092 0) - 1)) = (S 1100007 (S 1100033 0)) ∧ (S 1100034 0) = (S 1100025 (S 1100033 0)) ∧ (0 ≤ (S 1100023 (S 1100033 0)) → (S 1100007 (S 1100023 (S 1100033 0))) ≤ (S 58 ((S 1092 0) - 1))) ∧ (S 58 ((S 1092 0) - 1)) ≤ 396 ∧ (S 1086 0) ≤ 1900000000 ∧ (p1 = 18 ∨ p1 = 19 ∨ p1 = 21 ∨ p1 = 22) ∧ sm_VO (S 44) (S 1076 0) (S 1007 0) (p2) (p3) ∧ sm_VO (S 44) (S 1076 0) (S 1007 0) (p4) (p5)) → ((∀ s1 : Int, sv_R s1 → ((s1 = 0 ∨ s1 = 1) ∧ (s1 = 1 → (p1 = 22 → p2 = 6) ∧ (¬ p1 = 22 → p2 = 7) ∧ (¬ p1 = 22 → ¬ p1 = 21 → (S 44 p3) = 2))) → (((¬ s1 = (0 : Int)) → ((∀ g3 : sv_S, (sm_PL (g3 1100020) (g3 51) (g3 52) (g3 46) (g3 47) (S 1076 0) (g3 1086 0) ∧ sm_FR (g3 1100020) (g3 52) (g3 1100021) (g3 1100022) (3000 - (g3 1084 0)) (g3 1085 0) ∧ sm_PV (g3 1100020) (g3 48) (g3 49) (g3 50) (S 44) (S 1076 0) (g3 1007 0) ∧ sm_AL (g3 1100020) (g3 48) (g3 49) (g3 50) (S 44) (S 1076 0) (S 1100032 0) ∧ sm_SV (g3 1100020) (g3 48) (S 1100029) (S 32) (S 33) (S 1076 0) (S 1032 0) ∧ 0 ≤ (S 1076 0) ∧ (S 1076 0) ≤ 300 ∧ 0 ≤ (g3 1084 0) ∧ (g3 1084 0) ≤ 3000 ∧ 0 ≤ (g3 1086 0) ∧ sm_SC (S 1100029) (S 44) (S 45) (S 43) (S 21) (S 1076 0) (S 1032 0) ∧ sm_PO (S 42) (S 1076 0) ∧ ((g3 1075 0) = 0 → (S 1100032 0) = -1 ∧ sm_FO (S 44) (S 45) (S 1076 0)) ∧ 23 ≤ (S 1076 0) ∧ 31 ≤ (g3 1007 0) ∧ (g3 1007 0) ≤ 400 ∧ sm_LN (g3 4) 400 (g3 1007 0) ∧ (S 1008 0) ≤ (g3 1007 0) ∧ ((S 1075 0) = 1 → (g3 1075 0) = 1) ∧ 0 ≤ (S 1092 0) ∧ (S 1092 0) ≤ 24 ∧ (S 1007 0) ≤ (g3 1007 0) ∧ (¬ (g3 1075 0) = 0 → sm_LX (S 58) (S 63) (S 64) (S 1092 0) (S 1076 0)) ∧ (S 1073 0) = 1 ∧ ((g3 1075 0) = 0 → sm_PL (g3 1100020) (g3 51) (g3 52) (g3 46) (g3 47) (S 1076 0) (g3 1086 0) ∧ sm_FR (g3 1100020) (g3 52) (g3 1100021) (g3 1100022) (3000 - (g3 1084 0)) (g3 1085 0) ∧ sm_PV (g3 1100020) (g3 48) (g3 49) (g3 50) (S 44) (S 1076 0) (g3 1007 0) ∧ sm_AL (g3 1100020) (g3 48) (g3 49) (g3 50) (S 44) (S 1076 0) (S 1100032 0) ∧ sm_SV (g3 1100020) (g3 48) (S 1100029) (S 32) (S 33) (S 1076 0) (S 1032 0) ∧ 0 ≤ (S 1076 0) ∧ (S 1076 0) ≤ 300 ∧ 0 ≤ (g3 1084 0) ∧ (g3 1084 0) ≤ 3000 ∧ 0 ≤ (g3 1086 0) ∧ sm_SC (S 1100029) (S 44) (S 45) (S 43) (S 21) (S 1076 0) (S 1032 0) ∧ sm_PO (S 42) (S 1076 0) ∧ (S 1100032 0) = -1 ∧ sm_FO (S 44) (S 45) (S 1076 0) ∧ 23 ≤ (S 1076 0) ∧ 31 ≤ (g3 1007 0) ∧ (g3 1007 0) ≤ 400 ∧ sm_LN (g3 4) 400 (g3 1007 0) ∧ sm_CT (S 26) (S 27) (S 28) (S 29) (S 1100007) (S 1100023) (S 1100024) (S 1100025) (S 21) (S 1046 0) (S 1032 0) (S 1008 0) (S 1055 0) ∧ sm_LS (S 26) (S 1100007) (S 1100025) (S 1046 0) ∧ sm_CL (S 1100007) (S 1100023) (S 1100025) (S 1046 0) ∧ 1 ≤ (S 1032 0) ∧ (S 1032 0) ≤ 11 ∧ 0 ≤ (S 1046 0) ∧ (S 1046 0) ≤ 600 ∧ 31 ≤ (S 1008 0) ∧ (S 1008 0) ≤ (g3 1007 0) ∧ 0 ≤ (S 1055 0) ∧ (S 1055 0) ≤ 19 ∧ 1 ≤ (S 1092 0) ∧ (S 1092 0) ≤ 24 ∧ 0 ≤ (S 1100033 0) ∧ (S 1100033 0) < (S 1046 0) ∧ (S 29 (S 1100033 0)) = (S 53 ((S 1092 0) - 1)) ∧ 0 ≤ (S 53 ((S 1092 0) - 1)) ∧ (S 53 ((S 1092 0) - 1)) < (S 1032 0) ∧ (S 60 ((S 1092 0) - 1)) = sm_dp (S 1100024) (S 1100023 (S 1100033 0)) ∧ sm_TC (S 61) (S 62) (S 27) (S 1100007) (S 1100023) (S 1100024) (40 * ((S 1092 0) - 1)) (S 1100023 (S 1100033 0)) ∧ sm_LK (S 1100029) (S 1076 0) (S 54 ((S 1092 0) - 1)) (S 53 ((S 1092 0) - 1)) ∧ sm_VO (S 44) (S 1076 0) (g3 1007 0) ((S 55 ((S 1092 0) - 1))) ((S 56 ((S 1092 0) - 1))) ∧ sm_FW (S 44) (S 1076 0) (S 59 ((S 1092 0) - 1)) ∧ sm_FL (S 53) (S 54) (S 55) (S 56) (S 57) (S 58) (S 59) (S 60) (S 61) (S 62) (S 63) (S 64) (S 27) (S 29) (S 1100007) (S 1100023) (S 1100024) (S 1100025) (S 26) (S 1100029) (S 44) (S 1046 0) (S 1032 0) (S 1076 0) (g3 1007 0) (((S 1092 0) - 1)) ∧ (S 57 ((S 1092 0) - 1)) = (S 1100033 0) ∧ 0 ≤ (S 58 ((S 1092 0) - 1)) ∧ (S 58 ((S 1092 0) - 1)) ≤ 400 ∧ sm_SK (S 63) (S 64) (S 44) (S 1100007) (S 1100025) (S 1076 0) (g3 1007 0) (400 * ((S 1092 0) - 1)) ((S 58 ((S 1092 0) - 1))) ((S 1100034 0)) ∧ -1 ≤ (S 1100034 0) ∧ (S 1100034 0) < (S 1046 0) ∧ (0 ≤ (S 1100034 0) → (S 26 (S 1100034 0)) = 29) ∧ (S 58 ((S 1092 0) - 1)) = (S 58 ((S 1092 0) - 1)) ∧ sm_VO (S 44) (S 1076 0) (g3 1007 0) ((g3 1111 0)) ((g3 1112 0))) ∧ (S 1086 0) ≤ (g3 1086 0) ∧ (g3 1086 0) ≤ (S 1086 0) + 3) → (((1 : Int) = 0 ∨ (1 : Int) = 1) ∧ ((1 : Int) = 0 → sm_PL (g3 1100020) (g3 51) (g3 52) (g3 46) (g3 47) (S 1076 0) (g3 1086 0) ∧ sm_FR (g3 1100020) (g3 52) (g3 1100021) (g3 1100022) (3000 - (g3 1084 0)) (g3 1085 0) ∧ sm_PV (g3 1100020) (g3 48) (g3 49) (g3 50) (S 44) (S 1076 0) (g3 1007 0) ∧ sm_AL (g3 1100020) (g3 48) (g3 49) (g3 50) (S 44) (S 1076 0) (S 1100032 0) ∧ sm_SV (g3 1100020) (g3 48) (S 1100029) (S 32) (S 33) (S 1076 0) (S 1032 0) ∧ 0 ≤ (S 1076 0) ∧ (S 1076 0) ≤ 300 ∧ 0 ≤ (g3 1084 0) ∧ (g3 1084 0) ≤ 3000 ∧ 0 ≤ (g3 1086 0) ∧ sm_SC (S 1100029) (S 44) (S 45) (S 43) (S 21) (S 1076 0) (S 1032 0) ∧ sm_PO (S 42) (S 1076 0) ∧ ((g3 1075 0) = 0 → (S 1100032 0) = -1 ∧ sm_FO (S 44) (S 45) (S 1076 0)) ∧ 23 ≤ (S 1076 0) ∧ 31 ≤ (g3 1007 0) ∧ (g3 1007 0) ≤ 400 ∧ sm_LN (g3 4) 400 (g3 1007 0) ∧ (S 1008 0) ≤ (g3 1007 0) ∧ ((S 1075 0) = 1 → (g3 1075 0) = 1) ∧ 0 ≤ (S 1092 0) ∧ (S 1092 0) ≤ 24 ∧ (S 1007 0) ≤ (g3 1007 0) ∧ (¬ (g3 1075 0) = 0 → sm_LX (S 58) (S 63) (S 64) (S 1092 0) (S 1076 0)) ∧ ((g3 1075 0) = 0 → (S 1073 0) = 1 → 1 ≤ (S 1092 0) ∧ (S 1092 0) ≤ 24 ∧ 0 ≤ (S 57 ((S 1092 0) - 1)) ∧ (S 57 ((S 1092 0) - 1)) < (S 1046 0) ∧ (S 29 (S 57 ((S 1092 0) - 1))) = (S 53 ((S 1092 0) - 1)) ∧ 0 ≤ (S 53 ((S 1092 0) - 1)) ∧ (S 53 ((S 1092 0) - 1)) < (S 1032 0) ∧ (S 60 ((S 1092 0) - 1)) = sm_dp (S 1100024) (S 1100023 (S 57 ((S 1092 0) - 1))) ∧ sm_TC (S 61) (S 62) (S 27) (S 1100007) (S 1100023) (S 1100024) (40 * ((S 1092 0) - 1)) (S 1100023 (S 57 ((S 1092 0) - 1))) ∧ sm_LK (S 1100029) (S 1076 0) (S 54 ((S 1092 0) - 1)) (S 53 ((S 1092 0) - 1)) ∧ sm_VO (S 44) (S 1076 0) (g3 1007 0) ((S 55 ((S 1092 0) - 1))) ((S 56 ((S 1092 0) - 1))) ∧ sm_FW (S 44) (S 1076 0) (S 59 ((S 1092 0) - 1)) ∧ sm_FL (S 53) (S 54) (S 55) (S 56) (S 57) (S 58) (S 59) (S 60) (S 61) (S 62) (S 63) (S 64) (S 27) (S 29) (S 1100007) (S 1100023) (S 1100024) (S 1100025) (S 26) (S 1100029) (S 44) (S 1046 0) (S 1032 0) (S 1076 0) (g3 1007 0) (((S 1092 0) - 1)) ∧ (S 58 ((S 1092 0) - 1)) = (S 1100007 (S 57 ((S 1092 0) - 1))) ∧ sm_SK (S 63) (S 64) (S 44) (S 1100007) (S 1100025) (S 1076 0) (g3 1007 0) (400 * ((S 1092 0) - 1)) ((S 58 ((S 1092 0) - 1))) ((S 1100025 (S 57 ((S 1092 0) - 1))))) ∧ ((S 1073 0) = 1 ∨ (S 1092 0) = 0 ∧ (g3 1075 0) = 0 ∧ ((S 1073 0) = 2 ∨ (S 1073 0) = 3)) ∧ (S 1086 0) ≤ (g3 1086 0) ∧ (g3 1086 0) ≤ (S 1086 0) + 3) ∧ ((1 : Int) = 1 → sm_PL (g3 1100020) (g3 51) (g3 52) (g3 46) (g3 47) (S 1076 0) (g3 1086 0) ∧ sm_FR (g3 1100020) (g3 52) (g3 1100021) (g3 1100022) (3000 - (g3 1084 0)) (g3 1085 0) ∧ sm_PV (g3 1100020) (g3 48) (g3 49) (g3 50) (S 44) (S 1076 0) (g3 1007 0) ∧ sm_AL (g3 1100020) (g3 48) (g3 49) (g3 50) (S 44) (S 1076 0) (S 1100032 0) ∧ sm_SV (g3 1100020) (g3 48) (S 1100029) (S 32) (S 33) (S 1076 0) (S 1032 0) ∧ 0 ≤ (S 1076 0) ∧ (S 1076 0) ≤ 300 ∧ 0 ≤ (g3 1084 0) ∧ (g3 1084 0) ≤ 3000 ∧ 0 ≤ (g3 1086 0) ∧ sm_SC (S 1100029) (S 44) (S 45) (S 43) (S 21) (S 1076 0) (S 1032 0) ∧ sm_PO (S 42) (S 1076 0) ∧ ((g3 1075 0) = 0 → (S 1100032 0) = -1 ∧ sm_FO (S 44) (S 45) (S 1076 0)) ∧ 23 ≤ (S 1076 0) ∧ 31 ≤ (g3 1007 0) ∧ (g3 1007 0) ≤ 400 ∧ sm_LN (g3 4) 400 (g3 1007 0) ∧ (S 1008 0) ≤ (g3 1007 0) ∧ ((S 1075 0) = 1 → (g3 1075 0) = 1) ∧ 0 ≤ (S 1092 0) ∧ (S 1092 0) ≤ 24 ∧ (S 1007 0) ≤ (g3 1007 0) ∧ (¬ (g3 1075 0) = 0 → sm_LX (S 58) (S 63) (S 64) (S 1092 0) (S 1076 0)) ∧ (S 1073 0) = 1 ∧ ((g3 1075 0) = 0 → sm_PL (g3 1100020) (g3 51) (g3 52) (g3 46) (g3 47) (S 1076 0) (g3 1086 0) ∧ sm_FR (g3 1100020) (g3 52) (g3 1100021) (g3 1100022) (3000 - (g3 1084 0)) (g3 1085 0) ∧ sm_PV (g3 1100020) (g3 48) (g3 49) (g3 50) (S 44) (S 1076 0) (g3 1007 0) ∧ sm_AL (g3 1100020) (g3 48) (g3 49) (g3 50) (S 44) (S 1076 0) (S 1100032 0) ∧ sm_SV (g3 1100020) (g3 48) (S 1100029) (S 32) (S 33) (S 1076 0) (S 1032 0) ∧ 0 ≤ (S 1076 0) ∧ (S 1076 0) ≤ 300 ∧ 0 ≤ (g3 1084 0) ∧ (g3 1084 0) ≤ 3000 ∧ 0 ≤ (g3 1086 0) ∧ sm_SC (S 1100029) (S 44) (S 45) (S 43) (S 21) (S 1076 0) (S 1032 0) ∧ sm_PO (S 42) (S 1076 0) ∧ (S 1100032 0) = -1 ∧ sm_FO (S 44) (S 45) (S 1076 0) ∧ 23 ≤ (S 1076 0) ∧ 31 ≤ (g3 1007 0) ∧ (g3 1007 0) ≤ 400 ∧ sm_LN (g3 4) 400 (g3 1007 0) ∧ sm_CT (S 26) (S 27) (S 28) (S 29) (S 1100007) (S 1100023) (S 1100024) (S 1100025) (S 21) (S 1046 0) (S 1032 0) (S 1008 0) (S 1055 0) ∧ sm_LS (S 26) (S 1100007) (S 1100025) (S 1046 0) ∧ sm_CL (S 1100007) (S 1100023) (S 1100025) (S 1046 0) ∧ 1 ≤ (S 1032 0) ∧ (S 1032 0) ≤ 11 ∧ 0 ≤ (S 1046 0) ∧ (S 1046 0) ≤ 600 ∧ 31 ≤ (S 1008 0) ∧ (S 1008 0) ≤ (g3 1007 0) ∧ 0 ≤ (S 1055 0) ∧ (S 1055 0) ≤ 19 ∧ 1 ≤ (S 1092 0) ∧ (S 1092 0) ≤ 24 ∧ 0 ≤ (S 1100033 0) ∧ (S 1100033 0) < (S 1046 0) ∧ (S 29 (S 1100033 0)) = (S 53 ((S 1092 0) - 1)) ∧ 0 ≤ (S 53 ((S 1092 0) - 1)) ∧ (S 53 ((S 1092 0) - 1)) < (S 1032 0) ∧ (S 60 ((S 1092 0) - 1)) = sm_dp (S 1100024) (S 1100023 (S 1100033 0)) ∧ sm_TC (S 61) (S 62) (S 27) (S 1100007) (S 1100023) (S 1100024) (40 * ((S 1092 0) - 1)) (S 1100023 (S 1100033 0)) ∧ sm_LK (S 1100029) (S 1076 0) (S 54 ((S 1092 0) - 1)) (S 53 ((S 1092 0) - 1)) ∧ sm_VO (S 44) (S 1076 0) (g3 1007 0) ((S 55 ((S 1092 0) - 1))) ((S 56 ((S 1092 0) - 1))) ∧ sm_FW (S 44) (S 1076 0) (S 59 ((S 1092 0) - 1)) ∧ sm_FL (S 53) (S 54) (S 55) (S 56) (S 57) (S 58) (S 59) (S 60) (S 61) (S 62) (S 63) (S 64) (S 27) (S 29) (S 1100007) (S 1100023) (S 1100024) (S 1100025) (S 26) (S 1100029) (S 44) (S 1046 0) (S 1032 0) (S 1076 0) (g3 1007 0) (((S 1092 0) - 1)) ∧ (S 57 ((S 1092 0) - 1)) = (S 1100033 0) ∧ 0 ≤ (S 58 ((S 1092 0) - 1)) ∧ (S 58 ((S 1092 0) - 1)) ≤ 400 ∧ sm_SK (S 63) (S 64) (S 44) (S 1100007) (S 1100025) (S 1076 0) (g3 1007 0) (400 * ((S 1092 0) - 1)) ((S 58 ((S 1092 0) - 1))) ((S 1100034 0)) ∧ -1 ≤ (S 1100034 0) ∧ (S 1100034 0) < (S 1046 0) ∧ (0 ≤ (S 1100034 0) → (S 26 (S 1100034 0)) = 29) ∧ (S 58 ((S 1092 0) - 1)) = (S 58 ((S 1092 0) - 1)) ∧ sm_VO (S 44) (S 1076 0) (g3 1007 0) ((g3 1111 0)) ((g3 1112 0))) ∧ (S 1086 0) ≤ (g3 1086 0) ∧ (g3 1086 0) ≤ (S 1086 0) + 3))) ∧ (((¬ p1 = (18 : Int)) → (((¬ p1 = (19 : Int)) → (((¬ p1 = (21 : Int)) → ((S 1075 0) = 0 ∧ (S 1073 0) = 1 ∧ sm_PL (S 1100020) (S 51) (S 52) (S 46) (S 47) (S 1076 0) (S 1086 0) ∧ sm_FR (S 1100020) (S 52) (S 1100021) (S 1100022) (3000 - (S 1084 0)) (S 1085 0) ∧ sm_PV (S 1100020) (S 48) (S 49) (S 50) (S 44) (S 1076 0) (S 1007 0) ∧ sm_AL (S 1100020) (S 48) (S 49) (S 50) (S 44) (S 1076 0) (S 1100032 0) ∧ sm_SV (S 1100020) (S 48) (S 1100029) (S 32) (S 33) (S 1076 0) (S 1032 0) ∧ 0 ≤ (S 1076 0) ∧ (S 1076 0) ≤ 300 ∧ 0 ≤ (S 1084 0) ∧ (S 1084 0) ≤ 3000 ∧ 0 ≤ (S 1086 0) ∧ sm_SC (S 1100029) (S 44) (S 45) (S 43) (S 21) (S 1076 0) (S 1032 0) ∧ sm_PO (S 42) (S 1076 0) ∧ (S 1100032 0) = -1 ∧ sm_FO (S 44) (S 45) (S 1076 0) ∧ 23 ≤ (S 1076 0) ∧ 31 ≤ (S 1007 0) ∧ (S 1007 0) ≤ 400 ∧ sm_LN (S 4) 400 (S 1007 0) ∧ (S 1008 0) ≤ (S 1007 0) ∧ (S 1086 0) ≤ 1900000000 ∧ 0 ≤ p3 ∧ p3 < (S 1007 0) ∧ sm_VO (S 44) (S 1076 0) (S 1007 0) (p4) (p5)) ∧ (∀ g10 : sv_S, (sm_PL (S 1100020) (S 51) (S 52) (S 46) (S 47) (S 1076 0) (S 1086 0) ∧ sm_FR (S 1100020) (S 52) (S 1100021) (S 1100022) (3000 - (S 1084 0)) (S 1085 0) ∧ sm_PV (S 1100020) (S 48) (S 49) (S 50) (S 44) (S 1076 0) (g10 1007 0) ∧ sm_AL (S 1100020) (S 48) (S 49) (S 50) (S 44) (S 1076 0) (S 1100032 0) ∧ sm_SV (S 1100020) (S 48) (S 1100029) (S 32) (S 33) (S 1076 0) (S 1032 0) ∧ 0 ≤ (S 1076 0) ∧ (S 1076 0) ≤ 300 ∧ 0 ≤ (S 1084 0) ∧ (S 1084 0) ≤ 3000 ∧ 0 ≤ (S 1086 0) ∧ sm_SC (S 1100029) (S 44) (S 45) (S 43) (S 21) (S 1076 0) (S 1032 0) ∧ sm_PO (S 42) (S 1076 0) ∧ (S 1100032 0) = -1 ∧ (sm_FO (S 44) (S 45) (S 1076 0) → sm_FO (S 44) (S 45) (S 1076 0)) ∧ (S 1076 0) ≤ (S 1076 0) ∧ 31 ≤ (g10 1007 0) ∧ (g10 1007 0) ≤ 400 ∧ sm_LN (g10 4) 400 (g10 1007 0) ∧ (S 1007 0) ≤ (g10 1007 0) ∧ (S 1086 0) ≤ (S 1086 0) ∧ (S 1086 0) ≤ (S 1086 0) + 3 ∧ ((g10 1075 0) = 0 → sm_VO (S 44) (S 1076 0) (g10 1007 0) ((g10 1111 0)) ((g10 1112 0)))) → (sm_PL (S 1100020) (S 51) (S 52) (S 46) (S 47) (S 1076 0) (S 1086 0) ∧ sm_FR (S 1100020) (S 52) (S 1100021) (S 1100022) (3000 - (S 1084 0)) (S 1085 0) ∧ sm_PV (S 1100020) (S 48) (S 49) (S 50) (S 44) (S 1076 0) (g10 1007 0) ∧ sm_AL (S 1100020) (S 48) (S 49) (S 50) (S 44) (S 1076 0) (S 1100032 0) ∧ sm_SV (S 1100020) (S 48) (S 1100029) (S 32) (S 33) (S 1076 0) (S 1032 0) ∧ 0 ≤ (S 1076 0) ∧ (S 1076 0) ≤ 300 ∧ 0 ≤ (S 1084 0) ∧ (S 1084 0) ≤ 3000 ∧ 0 ≤ (S 1086 0) ∧ sm_SC (S 1100029) (S 44) (S 45) (S 43) (S 21) (S 1076 0) (S 1032 0) ∧ sm_PO (S 42) (S 1076 0) ∧ ((g10 1075 0) = 0 → (S 1100032 0) = -1 ∧ sm_FO (S 44) (S 45) (S 1076 0)) ∧ 23 ≤ (S 1076 0) ∧ 31 ≤ (g10 1007 0) ∧ (g10 1007 0) ≤ 400 ∧ sm_LN (g10 4) 400 (g10 1007 0) ∧ (S 1008 0) ≤ (g10 1007 0) ∧ ((S 1075 0) = 1 → (g10 1075 0) = 1) ∧ 0 ≤ (S 1092 0) ∧ (S 1092 0) ≤ 24 ∧ (S 1007 0) ≤ (g10 1007 0) ∧ (¬ (g10 1075 0) = 0 → sm_LX (S 58) (S 63) (S 64) (S 1092 0) (S 1076 0)) ∧ (S 1073 0) = 1 ∧ ((g10 1075 0) = 0 → sm_PL (S 1100020) (S 51) (S 52) (S 46) (S 47) (S 1076 0) (S 1086 0) ∧ sm_FR (S 1100020) (S 52) (S 1100021) (S 1100022) (3000 - (S 1084 0)) (S 1085 0) ∧ sm_PV (S 1100020) (S 48) (S 49) (S 50) (S 44) (S 1076 0) (g10 1007 0) ∧ sm_AL (S 1100020) (S 48) (S 49) (S 50) (S 44) (S 1076 0) (S 1100032 0) ∧ sm_SV (S 1100020) (S 48) (S 1100029) (S 32) (S 33) (S 1076 0) (S 1032 0) ∧ 0 ≤ (S 1076 0) ∧ (S 1076 0) ≤ 300 ∧ 0 ≤ (S 1084 0) ∧ (S 1084 0) ≤ 3000 ∧ 0 ≤ (S 1086 0) ∧ sm_SC (S 1100029) (S 44) (S 45) (S 43) (S 21) (S 1076 0) (S 1032 0) ∧ sm_PO (S 42) (S 1076 0) ∧ (S 1100032 0) = -1 ∧ sm_FO (S 44) (S 45) (S 1076 0) ∧ 23 ≤ (S 1076 0) ∧ 31 ≤ (g10 1007 0) ∧ (g10 1007 0) ≤ 400 ∧ sm_LN (g10 4) 400 (g10 1007 0) ∧ sm_CT (S 26) (S 27) (S 28) (S 29) (S 1100007) (S 1100023) (S 1100024) (S 1100025) (S 21) (S 1046 0) (S 1032 0) (S 1008 0) (S 1055 0) ∧ sm_LS (S 26) (S 1100007) (S 1100025) (S 1046 0) ∧ sm_CL (S 1100007) (S 1100023) (S 1100025) (S 1046 0) ∧ 1 ≤ (S 1032 0) ∧ (S 1032 0) ≤ 11 ∧ 0 ≤ (S 1046 0) ∧ (S 1046 0) ≤ 600 ∧ 31 ≤ (S 1008 0) ∧ (S 1008 0) ≤ (g10 1007 0) ∧ 0 ≤ (S 1055 0) ∧ (S 1055 0) ≤ 19 ∧ 1 ≤ (S 1092 0) ∧ (S 1092 0) ≤ 24 ∧ 0 ≤ (S 1100033 0) ∧ (S 1100033 0) < (S 1046 0) ∧ (S 29 (S 1100033 0)) = (S 53 ((S 1092 0) - 1)) ∧ 0 ≤ (S 53 ((S 1092 0) - 1)) ∧ (S 53 ((S 1092 0) - 1)) < (S 1032 0) ∧ (S 60 ((S 1092 0) - 1)) = sm_dp (S 1100024) (S 1100023 (S 1100033 0)) ∧ sm_TC (S 61) (S 62) (S 27) (S 1100007) (S 1100023) (S 1100024) (40 * ((S 1092 0) - 1)) (S 1100023 (S 1100033 0)) ∧ sm_LK (S 1100029) (S 1076 0) (S 54 ((S 1092 0) - 1)) (S 53 ((S 1092 0) - 1)) ∧ sm_VO (S 44) (S 1076 0) (g10 1007 0) ((S 55 ((S 1092 0) - 1))) ((S 56 ((S 1092 0) - 1))) ∧ sm_FW (S 44) (S 1076 0) (S 59 ((S 1092 0) - 1)) ∧ sm_FL (S 53) (S 54) (S 55) (S 56) (S 57) (S 58) (S 59) (S 60) (S 61) (S 62) (S 63) (S 64) (S 27) (S 29) (S 1100007) (S 1100023) (S 1100024) (S 1100025) (S 26) (S 1100029) (S 44) (S 1046 0) (S 1032 0) (S 1076 0) (g10 1007 0) (((S 1092 0) - 1)) ∧ (S 57 ((S 1092 0) - 1)) = (S 1100033 0) ∧ 0 ≤ (S 58 ((S 1092 0) - 1)) ∧ (S 58 ((S 1092 0) - 1)) ≤ 400 ∧ sm_SK (S 63) (S 64) (S 44) (S 1100007) (S 1100025) (S 1076 0) (g10 1007 0) (400 * ((S 1092 0) - 1)) ((S 58 ((S 1092 0) - 1))) ((S 1100034 0)) ∧ -1 ≤ (S 1100034 0) ∧ (S 1100034 0) < (S 1046 0) ∧ (0 ≤ (S 1100034 0) → (S 26 (S 1100034 0)) = 29) ∧ (S 58 ((S 1092 0) - 1)) = (S 58 ((S 1092 0) - 1)) ∧ sm_VO (S 44) (S 1076 0) (g10 1007 0) ((g10 1111 0)) ((g10 1112 0))) ∧ (S 1086 0) ≤ (S 1086 0) ∧ (S 1086 0) ≤ (S 1086 0) + 3))) ∧ ((¬ (¬ p1 = (21 : Int))) → ((S 1075 0) = 0 ∧ (S 1073 0) = 1 ∧ sm_PL (S 1100020) (S 51) (S 52) (S 46) (S 47) (S 1076 0) (S 1086 0) ∧ sm_FR (S 1100020) (S 52) (S 1100021) (S 1100022) (3000 - (S 1084 0)) (S 1085 0) ∧ sm_PV (S 1100020) (S 48) (S 49) (S 50) (S 44) (S 1076 0) (S 1007 0) ∧ sm_AL (S 1100020) (S 48) (S 49) (S 50) (S 44) (S 1076 0) (S 1100032 0) ∧ sm_SV (S 1100020) (S 48) (S 1100029) (S 32) (S 33) (S 1076 0) (S 1032 0) ∧ 0 ≤ (S 1076 0) ∧ (S 1076 0) ≤ 300 ∧ 0 ≤ (S 1084 0) ∧ (S 1084 0) ≤ 3000 ∧ 0 ≤ (S 1086 0) ∧ sm_SC (S 1100029) (S 44) (S 45) (S 43) (S 21) (S 1076 0) (S 1032 0) ∧ sm_PO (S 42) (S 1076 0) ∧ (S 1100032 0) = -1 ∧ sm_FO (S 44) (S 45) (S 1076 0) ∧ 23 ≤ (S 1076 0) ∧ 31 ≤ (S 1007 0) ∧ (S 1007 0) ≤ 400 ∧ sm_LN (S 4) 400 (S 1007 0) ∧ (S 1008 0) ≤ (S 1007 0) ∧ (S 1086 0) ≤ 1900000000 ∧ 0 ≤ p3 ∧ p3 < (S 1076 0) ∧ sm_VO (S 44) (S 1076 0) (S 1007 0) (p4) (p5)) ∧ (∀ g17 : sv_S, (sm_PL (S 1100020) (S 51) (S 52) (S 46) (S 47) (S 1076 0) (S 1086 0) ∧ sm_FR (S 1100020) (S 52) (S 1100021) (S 1100022) (3000 - (S 1084 0)) (S 1085 0) ∧ sm_PV (S 1100020) (S 48) (S 49) (S 50) (S 44) (S 1076 0) (g17 1007 0) ∧ sm_AL (S 1100020) (S 48) (S 49) (S 50) (S 44) (S 1076 0) (S 1100032 0) ∧ sm_SV (S 1100020) (S 48) (S 1100029) (S 32) (S 33) (S 1076 0) (S 1032 0) ∧ 0 ≤ (S 1076 0) ∧ (S 1076 0) ≤ 300 ∧ 0 ≤ (S 1084 0) ∧ (S 1084 0) ≤ 3000 ∧ 0 ≤ (S 1086 0) ∧ sm_SC (S 1100029) (S 44) (S 45) (S 43) (S 21) (S 1076 0) (S 1032 0) ∧ sm_PO (S 42) (S 1076 0) ∧ (S 1100032 0) = -1 ∧ (sm_FO (S 44) (S 45) (S 1076 0) → sm_FO (S 44) (S 45) (S 1076 0)) ∧ (S 1076 0) ≤ (S 1076 0) ∧ 31 ≤ (g17 1007 0) ∧ (g17 1007 0) ≤ 400 ∧ sm_LN (g17 4) 400 (g17 1007 0) ∧ (S 1007 0) ≤ (g17 1007 0) ∧ (S 1086 0) ≤ (S 1086 0) ∧ (S 1086 0) ≤ (S 1086 0) + 3 ∧ ((g17 1075 0) = 0 → sm_VO (S 44) (S 1076 0) (g17 1007 0) ((g17 1111 0)) ((g17 1112 0)))) → (sm_PL (S 1100020) (S 51) (S 52) (S 46) (S 47) (S 1076 0) (S 1086 0) ∧ sm_FR (S 1100020) (S 52) (S 1100021) (S 1100022) (3000 - (S 1084 0)) (S 1085 0) ∧ sm_PV (S 1100020) (S 48) (S 49) (S 50) (S 44) (S 1076 0) (g17 1007 0) ∧ sm_AL (S 1100020) (S 48) (S 49) (S 50) (S 44) (S 1076 0) (S 1100032 0) ∧ sm_SV (S 1100020) (S 48) (S 1100029) (S 32) (S 33) (S 1076 0) (S 1032 0) ∧ 0 ≤ (S 1076 0) ∧ (S 1076 0) ≤ 300 ∧ 0 ≤ (S 1084 0) ∧ (S 1084 0) ≤ 3000 ∧ 0 ≤ (S 1086 0) ∧ sm_SC (S 1100029) (S 44) (S 45) (S 43) (S 21) (S 1076 0) (S 1032 0) ∧ sm_PO (S 42) (S 1076 0) ∧ ((g17 1075 0) = 0 → (S 1100032 0) = -1 ∧ sm_FO (S 44) (S 45) (S 1076 0)) ∧ 23 ≤ (S 1076 0) ∧ 31 ≤ (g17 1007 0) ∧ (g17 1007 0) ≤ 400 ∧ sm_LN (g17 4) 400 (g17 1007 0) ∧ (S 1008 0) ≤ (g17 1007 0) ∧ ((S 1075 0) = 1 → (g17 1075 0) = 1) ∧ 0 ≤ (S 1092 0) ∧ (S 1092 0) ≤ 24 ∧ (S 1007 0) ≤ (g17 1007 0) ∧ (¬ (g17 1075 0) = 0 → sm_LX (S 58) (S 63) (S 64) (S 1092 0) (S 1076 0)) ∧ (S 1073 0) = 1 ∧ ((g17 1075 0) = 0 → sm_PL (S 1100020) (S 51) (S 52) (S 46) (S 47) (S 1076 0) (S 1086 0) ∧ sm_FR (S 1100020) (S 52) (S 1100021) (S 1100022) (3000 - (S 1084 0)) (S 1085 0) ∧ sm_PV (S 1100020) (S 48) (S 49) (S 50) (S 44) (S 1076 0) (g17 1007 0) ∧ sm_AL (S 1100020) (S 48) (S 49) (S 50) (S 44) (S 1076 0) (S 1100032 0) ∧ sm_SV (S 1100020) (S 48) (S 1100029) (S 32) (S 33) (S 1076 0) (S 1032 0) ∧ 0 ≤ (S 1076 0) ∧ (S 1076 0) ≤ 300 ∧ 0 ≤ (S 1084 0) ∧ (S 1084 0) ≤ 3000 ∧ 0 ≤ (S 1086 0) ∧ sm_SC (S 1100029) (S 44) (S 45) (S 43) (S 21) (S 1076 0) (S 1032 0) ∧ sm_PO (S 42) (S 1076 0) ∧ (S 1100032 0) = -1 ∧ sm_FO (S 44) (S 45) (S 1076 0) ∧ 23 ≤ (S 1076 0) ∧ 31 ≤ (g17 1007 0) ∧ (g17 1007 0) ≤ 400 ∧ sm_LN (g17 4) 400 (g17 1007 0) ∧ sm_CT (S 26) (S 27) (S 28) (S 29) (S 1100007) (S 1100023) (S 1100024) (S 1100025) (S 21) (S 1046 0) (S 1032 0) (S 1008 0) (S 1055 0) ∧ sm_LS (S 26) (S 1100007) (S 1100025) (S 1046 0) ∧ sm_CL (S 1100007) (S 1100023) (S 1100025) (S 1046 0) ∧ 1 ≤ (S 1032 0) ∧ (S 1032 0) ≤ 11 ∧ 0 ≤ (S 1046 0) ∧ (S 1046 0) ≤ 600 ∧ 31 ≤ (S 1008 0) ∧ (S 1008 0) ≤ (g17 1007 0) ∧ 0 ≤ (S 1055 0) ∧ (S 1055 0) ≤ 19 ∧ 1 ≤ (S 1092 0) ∧ (S 1092 0) ≤ 24 ∧ 0 ≤ (S 1100033 0) ∧ (S 1100033 0) < (S 1046 0) ∧ (S 29 (S 1100033 0)) = (S 53 ((S 1092 0) - 1)) ∧ 0 ≤ (S 53 ((S 1092 0) - 1)) ∧ (S 53 ((S 1092 0) - 1)) < (S 1032 0) ∧ (S 60 ((S 1092 0) - 1)) = sm_dp (S 1100024) (S 1100023 (S 1100033 0)) ∧ sm_TC (S 61) (S 62) (S 27) (S 1100007) (S 1100023) (S 1100024) (40 * ((S 1092 0) - 1)) (S 1100023 (S 1100033 0)) ∧ sm_LK (S 1100029) (S 1076 0) (S 54 ((S 1092 0) - 1)) (S 53 ((S 1092 0) - 1)) ∧ sm_VO (S 44) (S 1076 0) (g17 1007 0) ((S 55 ((S 1092 0) - 1))) ((S 56 ((S 1092 0) - 1))) ∧ sm_FW (S 44) (S 1076 0) (S 59 ((S 1092 0) - 1)) ∧ sm_FL (S 53) (S 54) (S 55) (S 56) (S 57) (S 58) (S 59) (S 60) (S 61) (S 62) (S 63) (S 64) (S 27) (S 29) (S 1100007) (S 1100023) (S 1100024) (S 1100025) (S 26) (S 1100029) (S 44) (S 1046 0) (S 1032 0) (S 1076 0) (g17 1007 0) (((S 1092 0) - 1)) ∧ (S 57 ((S 1092 0) - 1)) = (S 1100033 0) ∧ 0 ≤ (S 58 ((S 1092 0) - 1)) ∧ (S 58 ((S 1092 0) - 1)) ≤ 400 ∧ sm_SK (S 63) (S 64) (S 44) (S 1100007) (S 1100025) (S 1076 0) (g17 1007 0) (400 * ((S 1092 0) - 1)) ((S 58 ((S 1092 0) - 1))) ((S 1100034 0)) ∧ -1 ≤ (S 1100034 0) ∧ (S 1100034 0) < (S 1046 0) ∧ (0 ≤ (S 1100034 0) → (S 26 (S 1100034 0)) = 29) ∧ (S 58 ((S 1092 0) - 1)) = (S 58 ((S 1092 0) - 1)) ∧ sm_VO (S 44) (S 1076 0) (g17 1007 0) ((g17 1111 0)) ((g17 1112 0))) ∧ (S 1086 0) ≤ (S 1086 0) ∧ (S 1086 0) ≤ (S 1086 0) + 3))))) ∧ ((¬ (¬ p1 = (19 : Int))) → ((S 1075 0) = 0 ∧ (S 1073 0) = 1 ∧ sm_PL (S 1100020) (S 51) (S 52) (S 46) (S 47) (S 1076 0) (S 1086 0) ∧ sm_FR (S 1100020) (S 52) (S 1100021) (S 1100022) (3000 - (S 1084 0)) (S 1085 0) ∧ sm_PV (S 1100020) (S 48) (S 49) (S 50) (S 44) (S 1076 0) (S 1007 0) ∧ sm_AL (S 1100020) (S 48) (S 49) (S 50) (S 44) (S 1076 0) (S 1100032 0) ∧ sm_SV (S 1100020) (S 48) (S 1100029) (S 32) (S 33) (S 1076 0) (S 1032 0) ∧ 0 ≤ (S 1076 0) ∧ (S 1076 0) ≤ 300 ∧ 0 ≤ (S 1084 0) ∧ (S 1084 0) ≤ 3000 ∧ 0 ≤ (S 1086 0) ∧ sm_SC (S 1100029) (S 44) (S 45) (S 43) (S 21) (S 1076 0) (S 1032 0) ∧ sm_PO (S 42) (S 1076 0) ∧ (S 1100032 0) = -1 ∧ sm_FO (S 44) (S 45) (S 1076 0) ∧ 23 ≤ (S 1076 0) ∧ 31 ≤ (S 1007 0) ∧ (S 1007 0) ≤ 400 ∧ sm_LN (S 4) 400 (S 1007 0) ∧ (S 1008 0) ≤ (S 1007 0) ∧ (S 1086 0) ≤ 1900000000 ∧ 0 ≤ p3 ∧ p3 < (S 1076 0) ∧ (S 44 p3) = 2) ∧ (∀ g24 : sv_S, (sm_PL (g24 1100020) (g24 51) (g24 52) (g24 46) (g24 47) (S 1076 0) (g24 1086 0) ∧ sm_FR (g24 1100020) (g24 52) (g24 1100021) (g24 1100022) (3000 - (g24 1084 0)) (g24 1085 0) ∧ sm_PV (g24 1100020) (g24 48) (g24 49) (g24 50) (S 44) (S 1076 0) (g24 1007 0) ∧ sm_AL (g24 1100020) (g24 48) (g24 49) (g24 50) (S 44) (S 1076 0) (S 1100032 0) ∧ sm_SV (g24 1100020) (g24 48) (S 1100029) (S 32) (S 33) (S 1076 0) (S 1032 0) ∧ 0 ≤ (S 1076 0) ∧ (S 1076 0) ≤ 300 ∧ 0 ≤ (g24 1084 0) ∧ (g24 1084 0) ≤ 3000 ∧ 0 ≤ (g24 1086 0) ∧ sm_SC (S 1100029) (S 44) (S 45) (S 43) (S 21) (S 1076 0) (S 1032 0) ∧ sm_PO (S 42) (S 1076 0) ∧ (S 1100032 0) = -1 ∧ (sm_FO (S 44) (S 45) (S 1076 0) → sm_FO (S 44) (S 45) (S 1076 0)) ∧ (S 1076 0) ≤ (S 1076 0) ∧ 31 ≤ (g24 1007 0) ∧ (g24 1007 0) ≤ 400 ∧ sm_LN (g24 4) 400 (g24 1007 0) ∧ (S 1007 0) ≤ (g24 1007 0) ∧ (S 1086 0) ≤ (g24 1086 0) ∧ (g24 1086 0) ≤ (S 1086 0) + 3 ∧ ((g24 1075 0) = 0 → sm_VO (S 44) (S 1076 0) (g24 1007 0) ((g24 1111 0)) ((g24 1112 0)))) → (sm_PL (g24 1100020) (g24 51) (g24 52) (g24 46) (g24 47) (S 1076 0) (g24 1086 0) ∧ sm_FR (g24 1100020) (g24 52) (g24 1100021) (g24 1100022) (3000 - (g24 1084 0)) (g24 1085 0) ∧ sm_PV (g24 1100020) (g24 48) (g24 49) (g24 50) (S 44) (S 1076 0) (g24 1007 0) ∧ sm_AL (g24 1100020) (g24 48) (g24 49) (g24 50) (S 44) (S 1076 0) (S 1100032 0) ∧ sm_SV (g24 1100020) (g24 48) (S 1100029) (S 32) (S 33) (S 1076 0) (S 1032 0) ∧ 0 ≤ (S 1076 0) ∧ (S 1076 0) ≤ 300 ∧ 0 ≤ (g24 1084 0) ∧ (g24 1084 0) ≤ 3000 ∧ 0 ≤ (g24 1086 0) ∧ sm_SC (S 1100029) (S 44) (S 45) (S 43) (S 21) (S 1076 0) (S 1032 0) ∧ sm_PO (S 42) (S 1076 0) ∧ ((g24 1075 0) = 0 → (S 1100032 0) = -1 ∧ sm_FO (S 44) (S 45) (S 1076 0)) ∧ 23 ≤ (S 1076 0) ∧ 31 ≤ (g24 1007 0) ∧ (g24 1007 0) ≤ 400 ∧ sm_LN (g24 4) 400 (g24 1007 0) ∧ (S 1008 0) ≤ (g24 1007 0) ∧ ((S 1075 0) = 1 → (g24 1075 0) = 1) ∧ 0 ≤ (S 1092 0) ∧ (S 1092 0) ≤ 24 ∧ (S 1007 0) ≤ (g24 1007 0) ∧ (¬ (g24 1075 0) = 0 → sm_LX (S 58) (S 63) (S 64) (S 1092 0) (S 1076 0)) ∧ (S 1073 0) = 1 ∧ ((g24 1075 0) = 0 → sm_PL (g24 1100020) (g24 51) (g24 52) (g24 46) (g24 47) (S 1076 0) (g24 1086 0) ∧ sm_FR (g24 1100020) (g24 52) (g24 1100021) (g24 1100022) (3000 - (g24 1084 0)) (g24 1085 0) ∧ sm_PV (g24 1100020) (g24 48) (g24 49) (g24 50) (S 44) (S 1076 0) (g24 1007 0) ∧ sm_AL (g24 1100020) (g24 48) (g24 49) (g24 50) (S 44) (S 1076 0) (S 1100032 0) ∧ sm_SV (g24 1100020) (g24 48) (S 1100029) (S 32) (S 33) (S 1076 0) (S 1032 0) ∧ 0 ≤ (S 1076 0) ∧ (S 1076 0) ≤ 300 ∧ 0 ≤ (g24 1084 0) ∧ (g24 1084 0) ≤ 3000 ∧ 0 ≤ (g24 1086 0) ∧ sm_SC (S 1100029) (S 44) (S 45) (S 43) (S 21) (S 1076 0) (S 1032 0) ∧ sm_PO (S 42) (S 1076 0) ∧ (S 1100032 0) = -1 ∧ sm_FO (S 44) (S 45) (S 1076 0) ∧ 23 ≤ (S 1076 0) ∧ 31 ≤ (g24 1007 0) ∧ (g24 1007 0) ≤ 400 ∧ sm_LN (g24 4) 400 (g24 1007 0) ∧ sm_CT (S 26) (S 27) (S 28) (S 29) (S 1100007) (S 1100023) (S 1100024) (S 1100025) (S 21) (S 1046 0) (S 1032 0) (S 1008 0) (S 1055 0) ∧ sm_LS (S 26) (S 1100007) (S 1100025) (S 1046 0) ∧ sm_CL (S 1100007) (S 1100023) (S 1100025) (S 1046 0) ∧ 1 ≤ (S 1032 0) ∧ (S 1032 0) ≤ 11 ∧ 0 ≤ (S 1046 0) ∧ (S 1046 0) ≤ 600 ∧ 31 ≤ (S 1008 0) ∧ (S 1008 0) ≤ (g24 1007 0) ∧ 0 ≤ (S 1055 0) ∧ (S 1055 0) ≤ 19 ∧ 1 ≤ (S 1092 0) ∧ (S 1092 0) ≤ 24 ∧ 0 ≤ (S 1100033 0) ∧ (S 1100033 0) < (S 1046 0) ∧ (S 29 (S 1100033 0)) = (S 53 ((S 1092 0) - 1)) ∧ 0 ≤ (S 53 ((S 1092 0) - 1)) ∧ (S 53 ((S 1092 0) - 1)) < (S 1032 0) ∧ (S 60 ((S 1092 0) - 1)) = sm_dp (S 1100024) (S 1100023 (S 1100033 0)) ∧ sm_TC (S 61) (S 62) (S 27) (S 1100007) (S 1100023) (S 1100024) (40 * ((S 1092 0) - 1)) (S 1100023 (S 1100033 0)) ∧ sm_LK (S 1100029) (S 1076 0) (S 54 ((S 1092 0) - 1)) (S 53 ((S 1092 0) - 1)) ∧ sm_VO (S 44) (S 1076 0) (g24 1007 0) ((S 55 ((S 1092 0) - 1))) ((S 56 ((S 1092 0) - 1))) ∧ sm_FW (S 44) (S 1076 0) (S 59 ((S 1092 0) - 1)) ∧ sm_FL (S 53) (S 54) (S 55) (S 56) (S 57) (S 58) (S 59) (S 60) (S 61) (S 62) (S 63) (S 64) (S 27) (S 29) (S 1100007) (S 1100023) (S 1100024) (S 1100025) (S 26) (S 1100029) (S 44) (S 1046 0) (S 1032 0) (S 1076 0) (g24 1007 0) (((S 1092 0) - 1)) ∧ (S 57 ((S 1092 0) - 1)) = (S 1100033 0) ∧ 0 ≤ (S 58 ((S 1092 0) - 1)) ∧ (S 58 ((S 1092 0) - 1)) ≤ 400 ∧ sm_SK (S 63) (S 64) (S 44) (S 1100007) (S 1100025) (S 1076 0) (g24 1007 0) (400 * ((S 1092 0) - 1)) ((S 58 ((S 1092 0) - 1))) ((S 1100034 0)) ∧ -1 ≤ (S 1100034 0) ∧ (S 1100034 0) < (S 1046 0) ∧ (0 ≤ (S 1100034 0) → (S 26 (S 1100034 0)) = 29) ∧ (S 58 ((S 1092 0) - 1)) = (S 58 ((S 1092 0) - 1)) ∧ sm_VO (S 44) (S 1076 0) (g24 1007 0) ((g24 1111 0)) ((g24 1112 0))) ∧ (S 1086 0) ≤ (g24 1086 0) ∧ (g24 1086 0) ≤ (S 1086 0) + 3))))) ∧ ((¬ (¬ p1 = (18 : Int))) → ((S 1075 0) = 0 ∧ (S 1073 0) = 1 ∧ sm_PL (S 1100020) (S 51) (S 52) (S 46) (S 47) (S 1076 0) (S 1086 0) ∧ sm_FR (S 1100020) (S 52) (S 1100021) (S 1100022) (3000 - (S 1084 0)) (S 1085 0) ∧ sm_PV (S 1100020) (S 48) (S 49) (S 50) (S 44) (S 1076 0) (S 1007 0) ∧ sm_AL (S 1100020) (S 48) (S 49) (S 50) (S 44) (S 1076 0) (S 1100032 0) ∧ sm_SV (S 1100020) (S 48) (S 1100029) (S 32) (S 33) (S 1076 0) (S 1032 0) ∧ 0 ≤ (S 1076 0) ∧ (S 1076 0) ≤ 300 ∧ 0 ≤ (S 1084 0) ∧ (S 1084 0) ≤ 3000 ∧ 0 ≤ (S 1086 0) ∧ sm_SC (S 1100029) (S 44) (S 45) (S 43) (S 21) (S 1076 0) (S 1032 0) ∧ sm_PO (S 42) (S 1076 0) ∧ (S 1100032 0) = -1 ∧ sm_FO (S 44) (S 45) (S 1076 0) ∧ 23 ≤ (S 1076 0) ∧ 31 ≤ (S 1007 0) ∧ (S 1007 0) ≤ 400 ∧ sm_LN (S 4) 400 (S 1007 0) ∧ (S 1008 0) ≤ (S 1007 0) ∧ (S 1086 0) ≤ 1900000000 ∧ 0 ≤ p3 ∧ p3 < (S 1076 0) ∧ (S 44 p3) = 2 ∧ sm_VO (S 44) (S 1076 0) (S 1007 0) (p4) (p5)) ∧ (∀ g31 : sv_S, (sm_PL (g31 1100020) (g31 51) (g31 52) (g31 46) (g31 47) (S 1076 0) (g31 1086 0) ∧ sm_FR (g31 1100020) (g31 52) (g31 1100021) (g31 1100022) (3000 - (g31 1084 0)) (g31 1085 0) ∧ sm_PV (g31 1100020) (g31 48) (g31 49) (g31 50) (S 44) (S 1076 0) (g31 1007 0) ∧ sm_AL (g31 1100020) (g31 48) (g31 49) (g31 50) (S 44) (S 1076 0) (S 1100032 0) ∧ sm_SV (g31 1100020) (g31 48) (S 1100029) (S 32) (S 33) (S 1076 0) (S 1032 0) ∧ 0 ≤ (S 1076 0) ∧ (S 1076 0) ≤ 300 ∧ 0 ≤ (g31 1084 0) ∧ (g31 1084 0) ≤ 3000 ∧ 0 ≤ (g31 1086 0) ∧ sm_SC (S 1100029) (S 44) (S 45) (S 43) (S 21) (S 1076 0) (S 1032 0) ∧ sm_PO (S 42) (S 1076 0) ∧ (S 1100032 0) = -1 ∧ (sm_FO (S 44) (S 45) (S 1076 0) → sm_FO (S 44) (S 45) (S 1076 0)) ∧ (S 1076 0) ≤ (S 1076 0) ∧ 31 ≤ (g31 1007 0) ∧ (g31 1007 0) ≤ 400 ∧ sm_LN (g31 4) 400 (g31 1007 0) ∧ (S 1007 0) ≤ (g31 1007 0) ∧ (S 1086 0) ≤ (g31 1086 0) ∧ (g31 1086 0) ≤ (S 1086 0) + 3 ∧ ((g31 1075 0) = 0 → sm_VO (S 44) (S 1076 0) (g31 1007 0) ((g31 1111 0)) ((g31 1112 0)))) → (sm_PL (g31 1100020) (g31 51) (g31 52) (g31 46) (g31 47) (S 1076 0) (g31 1086 0) ∧ sm_FR (g31 1100020) (g31 52) (g31 1100021) (g31 1100022) (3000 - (g31 1084 0)) (g31 1085 0) ∧ sm_PV (g31 1100020) (g31 48) (g31 49) (g31 50) (S 44) (S 1076 0) (g31 1007 0) ∧ sm_AL (g31 1100020) (g31 48) (g31 49) (g31 50) (S 44) (S 1076 0) (S 1100032 0) ∧ sm_SV (g31 1100020) (g31 48) (S 1100029) (S 32) (S 33) (S 1076 0) (S 1032 0) ∧ 0 ≤ (S 1076 0) ∧ (S 1076 0) ≤ 300 ∧ 0 ≤ (g31 1084 0) ∧ (g31 1084 0) ≤ 3000 ∧ 0 ≤ (g31 1086 0) ∧ sm_SC (S 1100029) (S 44) (S 45) (S 43) (S 21) (S 1076 0) (S 1032 0) ∧ sm_PO (S 42) (S 1076 0) ∧ ((g31 1075 0) = 0 → (S 1100032 0) = -1 ∧ sm_FO (S 44) (S 45) (S 1076 0)) ∧ 23 ≤ (S 1076 0) ∧ 31 ≤ (g31 1007 0) ∧ (g31 1007 0) ≤ 400 ∧ sm_LN (g31 4) 400 (g31 1007 0) ∧ (S 1008 0) ≤ (g31 1007 0) ∧ ((S 1075 0) = 1 → (g31 1075 0) = 1) ∧ 0 ≤ (S 1092 0) ∧ (S 1092 0) ≤ 24 ∧ (S 1007 0) ≤ (g31 1007 0) ∧ (¬ (g31 1075 0) = 0 → sm_LX (S 58) (S 63) (S 64) (S 1092 0) (S 1076 0)) ∧ (S 1073 0) = 1 ∧ ((g31 1075 0) = 0 → sm_PL (g31 1100020) (g31 51) (g31 52) (g31 46) (g31 47) (S 1076 0) (g31 1086 0) ∧ sm_FR (g31 1100020) (g31 52) (g31 1100021) (g31 1100022) (3000 - (g31 1084 0)) (g31 1085 0) ∧ sm_PV (g31 1100020) (g31 48) (g31 49) (g31 50) (S 44) (S 1076 0) (g31 1007 0) ∧ sm_AL (g31 1100020) (g31 48) (g31 49) (g31 50) (S 44) (S 1076 0) (S 1100032 0) ∧ sm_SV (g31 1100020) (g31 48) (S 1100029) (S 32) (S 33) (S 1076 0) (S 1032 0) ∧ 0 ≤ (S 1076 0) ∧ (S 1076 0) ≤ 300 ∧ 0 ≤ (g31 1084 0) ∧ (g31 1084 0) ≤ 3000 ∧ 0 ≤ (g31 1086 0) ∧ sm_SC (S 1100029) (S 44) (S 45) (S 43) (S 21) (S 1076 0) (S 1032 0) ∧ sm_PO (S 42) (S 1076 0) ∧ (S 1100032 0) = -1 ∧ sm_FO (S 44) (S 45) (S 1076 0) ∧ 23 ≤ (S 1076 0) ∧ 31 ≤ (g31 1007 0) ∧ (g31 1007 0) ≤ 400 ∧ sm_LN (g31 4) 400 (g31 1007 0) ∧ sm_CT (S 26) (S 27) (S 28) (S 29) (S 1100007) (S 1100023) (S 1100024) (S 1100025) (S 21) (S 1046 0) (S 1032 0) (S 1008 0) (S 1055 0) ∧ sm_LS (S 26) (S 1100007) (S 1100025) (S 1046 0) ∧ sm_CL (S 1100007) (S 1100023) (S 1100025) (S 1046 0) ∧ 1 ≤ (S 1032 0) ∧ (S 1032 0) ≤ 11 ∧ 0 ≤ (S 1046 0) ∧ (S 1046 0) ≤ 600 ∧ 31 ≤ (S 1008 0) ∧ (S 1008 0) ≤ (g31 1007 0) ∧ 0 ≤ (S 1055 0) ∧ (S 1055 0) ≤ 19 ∧ 1 ≤ (S 1092 0) ∧ (S 1092 0) ≤ 24 ∧ 0 ≤ (S 1100033 0) ∧ (S 1100033 0) < (S 1046 0) ∧ (S 29 (S 1100033 0)) = (S 53 ((S 1092 0) - 1)) ∧ 0 ≤ (S 53 ((S 1092 0) - 1)) ∧ (S 53 ((S 1092 0) - 1)) < (S 1032 0) ∧ (S 60 ((S 1092 0) - 1)) = sm_dp (S 1100024) (S 1100023 (S 1100033 0)) ∧ sm_TC (S 61) (S 62) (S 27) (S 1100007) (S 1100023) (S 1100024) (40 * ((S 1092 0) - 1)) (S 1100023 (S 1100033 0)) ∧ sm_LK (S 1100029) (S 1076 0) (S 54 ((S 1092 0) - 1)) (S 53 ((S 1092 0) - 1)) ∧ sm_VO (S 44) (S 1076 0) (g31 1007 0) ((S 55 ((S 1092 0) - 1))) ((S 56 ((S 1092 0) - 1))) ∧ sm_FW (S 44) (S 1076 0) (S 59 ((S 1092 0) - 1)) ∧ sm_FL (S 53) (S 54) (S 55) (S 56) (S 57) (S 58) (S 59) (S 60) (S 61) (S 62) (S 63) (S 64) (S 27) (S 29) (S 1100007) (S 1100023) (S 1100024) (S 1100025) (S 26) (S 1100029) (S 44) (S 1046 0) (S 1032 0) (S 1076 0) (g31 1007 0) (((S 1092 0) - 1)) ∧ (S 57 ((S 1092 0) - 1)) = (S 1100033 0) ∧ 0 ≤ (S 58 ((S 1092 0) - 1)) ∧ (S 58 ((S 1092 0) - 1)) ≤ 400 ∧ sm_SK (S 63) (S 64) (S 44) (S 1100007) (S 1100025) (S 1076 0) (g31 1007 0) (400 * ((S 1092 0) - 1)) ((S 58 ((S 1092 0) - 1))) ((S 1100034 0)) ∧ -1 ≤ (S 1100034 0) ∧ (S 1100034 0) < (S 1046 0) ∧ (0 ≤ (S 1100034 0) → (S 26 (S 1100034 0)) = 29) ∧ (S 58 ((S 1092 0) - 1)) = (S 58 ((S 1092 0) - 1)) ∧ sm_VO (S 44) (S 1076 0) (g31 1007 0) ((g31 1111 0)) ((g31 1112 0))) ∧ (S 1086 0) ≤ (g31 1086 0) ∧ (g31 1086 0) ≤ (S 1086 0) + 3)))))) ∧ ((¬ (¬ s1 = (0 : Int))) → ((S 1075 0) = 0 ∧ (S 1073 0) = 1 ∧ sm_LX (S 58) (S 63) (S 64) (S 1092 0) (S 1076 0) ∧ sm_PL (S 1100020) (S 51) (S 52) (S 46) (S 47) (S 1076 0) (S 1086 0) ∧ sm_FR (S 1100020) (S 52) (S 1100021) (S 1100022) (3000 - (S 1084 0)) (S 1085 0) ∧ sm_PV (S 1100020) (S 48) (S 49) (S 50) (S 44) (S 1076 0) (S 1007 0) ∧ sm_AL (S 1100020) (S 48) (S 49) (S 50) (S 44) (S 1076 0) (S 1100032 0) ∧ sm_SV (S 1100020) (S 48) (S 1100029) (S 32) (S 33) (S 1076 0) (S 1032 0) ∧ 0 ≤ (S 1076 0) ∧ (S 1076 0) ≤ 300 ∧ 0 ≤ (S 1084 0) ∧ (S 1084 0) ≤ 3000 ∧ 0 ≤ (S 1086 0) ∧ sm_SC (S 1100029) (S 44) (S 45) (S 43) (S 21) (S 1076 0) (S 1032 0) ∧ sm_PO (S 42) (S 1076 0) ∧ (S 1100032 0) = -1 ∧ sm_FO (S 44) (S 45) (S 1076 0) ∧ 23 ≤ (S 1076 0) ∧ 31 ≤ (S 1007 0) ∧ (S 1007 0) ≤ 400 ∧ sm_LN (S 4) 400 (S 1007 0) ∧ sm_CT (S 26) (S 27) (S 28) (S 29) (S 1100007) (S 1100023) (S 1100024) (S 1100025) (S 21) (S 1046 0) (S 1032 0) (S 1008 0) (S 1055 0) ∧ sm_LS (S 26) (S 1100007) (S 1100025) (S 1046 0) ∧ sm_CL (S 1100007) (S 1100023) (S 1100025) (S 1046 0) ∧ 1 ≤ (S 1032 0) ∧ (S 1032 0) ≤ 11 ∧ 0 ≤ (S 1046 0) ∧ (S 1046 0) ≤ 600 ∧ 31 ≤ (S 1008 0) ∧ (S 1008 0) ≤ (S 1007 0) ∧ 0 ≤ (S 1055 0) ∧ (S 1055 0) ≤ 19 ∧ 1 ≤ (S 1092 0) ∧ (S 1092 0) ≤ 24 ∧ 0 ≤ (S 57 ((S 1092 0) - 1)) ∧ (S 57 ((S 1092 0) - 1)) < (S 1046 0) ∧ (S 29 (S 57 ((S 1092 0) - 1))) = (S 53 ((S 1092 0) - 1)) ∧ 0 ≤ (S 53 ((S 1092 0) - 1)) ∧ (S 53 ((S 1092 0) - 1)) < (S 1032 0) ∧ (S 60 ((S 1092 0) - 1)) = sm_dp (S 1100024) (S 1100023 (S 57 ((S 1092 0) - 1))) ∧ sm_TC (S 61) (S 62) (S 27) (S 1100007) (S 1100023) (S 1100024) (40 * ((S 1092 0) - 1)) (S 1100023 (S 57 ((S 1092 0) - 1))) ∧ sm_LK (S 1100029) (S 1076 0) (S 54 ((S 1092 0) - 1)) (S 53 ((S 1092 0) - 1)) ∧ sm_VO (S 44) (S 1076 0) (S 1007 0) ((S 55 ((S 1092 0) - 1))) ((S 56 ((S 1092 0) - 1))) ∧ sm_FW (S 44) (S 1076 0) (S 59 ((S 1092 0) - 1)) ∧ sm_FL (S 53) (S 54) (S 55) (S 56) (S 57) (S 58) (S 59) (S 60) (S 61) (S 62) (S 63) (S 64) (S 27) (S 29) (S 1100007) (S 1100023) (S 1100024) (S 1100025) (S 26) (S 1100029) (S 44) (S 1046 0) (S 1032 0) (S 1076 0) (S 1007 0) (((S 1092 0) - 1)) ∧ (S 58 ((S 1092 0) - 1)) = (S 1100007 (S 57 ((S 1092 0) - 1))) ∧ sm_SK (S 63) (S 64) (S 44) (S 1100007) (S 1100025) (S 1076 0) (S 1007 0) (400 * ((S 1092 0) - 1)) ((S 58 ((S 1092 0) - 1))) ((S 1100025 (S 57 ((S 1092 0) - 1)))) ∧ (0 ≤ (S 1100023 (S 57 ((S 1092 0) - 1))) → (S 1100007 (S 1100023 (S 57 ((S 1092 0) - 1)))) ≤ (S 58 ((S 1092 0) - 1))) ∧ 6 ≤ (6 : Int) ∧ (6 : Int) ≤ 8) ∧ (∀ g38 : sv_S, (sm_PL (S 1100020) (S 51) (S 52) (g38 46) (g38 47) (g38 1076 0) (S 1086 0) ∧ sm_FR (S 1100020) (S 52) (S 1100021) (S 1100022) (3000 - (S 1084 0)) (S 1085 0) ∧ sm_PV (S 1100020) (S 48) (S 49) (S 50) (g38 44) (g38 1076 0) (S 1007 0) ∧ sm_AL (S 1100020) (S 48) (S 49) (S 50) (g38 44) (g38 1076 0) (S 1100032 0) ∧ sm_SV (S 1100020) (S 48) (g38 1100029) (S 32) (S 33) (g38 1076 0) (S 1032 0) ∧ 0 ≤ (g38 1076 0) ∧ (g38 1076 0) ≤ 300 ∧ 0 ≤ (S 1084 0) ∧ (S 1084 0) ≤ 3000 ∧ 0 ≤ (S 1086 0) ∧ sm_SC (g38 1100029) (g38 44) (g38 45) (g38 43) (S 21) (g38 1076 0) (S 1032 0) ∧ sm_PO (g38 42) (g38 1076 0) ∧ ((g38 1075 0) = 0 → (S 1100032 0) = -1 ∧ sm_FO (g38 44) (g38 45) (g38 1076 0)) ∧ 23 ≤ (g38 1076 0) ∧ 31 ≤ (S 1007 0) ∧ (S 1007 0) ≤ 400 ∧ sm_LN (S 4) 400 (S 1007 0) ∧ (S 1008 0) ≤ (S 1007 0) ∧ ((S 1075 0) = 1 → (g38 1075 0) = 1) ∧ 0 ≤ (g38 1092 0) ∧ (g38 1092 0) ≤ 24 ∧ (S 1007 0) ≤ (S 1007 0) ∧ (¬ (g38 1075 0) = 0 → sm_LX (g38 58) (g38 63) (g38 64) (g38 1092 0) (g38 1076 0)) ∧ ((g38 1075 0) = 0 → (g38 1073 0) = 1 → 1 ≤ (g38 1092 0) ∧ (g38 1092 0) ≤ 24 ∧ 0 ≤ (g38 57 ((g38 1092 0) - 1)) ∧ (g38 57 ((g38 1092 0) - 1)) < (S 1046 0) ∧ (S 29 (g38 57 ((g38 1092 0) - 1))) = (S 53 ((g38 1092 0) - 1)) ∧ 0 ≤ (S 53 ((g38 1092 0) - 1)) ∧ (S 53 ((g38 1092 0) - 1)) < (S 1032 0) ∧ (g38 60 ((g38 1092 0) - 1)) = sm_dp (S 1100024) (S 1100023 (g38 57 ((g38 1092 0) - 1))) ∧ sm_TC (S 61) (S 62) (S 27) (S 1100007) (S 1100023) (S 1100024) (40 * ((g38 1092 0) - 1)) (S 1100023 (g38 57 ((g38 1092 0) - 1))) ∧ sm_LK (g38 1100029) (g38 1076 0) (S 54 ((g38 1092 0) - 1)) (S 53 ((g38 1092 0) - 1)) ∧ sm_VO (g38 44) (g38 1076 0) (S 1007 0) ((S 55 ((g38 1092 0) - 1))) ((S 56 ((g38 1092 0) - 1))) ∧ sm_FW (g38 44) (g38 1076 0) (S 59 ((g38 1092 0) - 1)) ∧ sm_FL (S 53) (S 54) (S 55) (S 56) (g38 57) (g38 58) (S 59) (g38 60) (S 61) (S 62) (g38 63) (g38 64) (S 27) (S 29) (S 1100007) (S 1100023) (S 1100024) (S 1100025) (S 26) (g38 1100029) (g38 44) (S 1046 0) (S 1032 0) (g38 1076 0) (S 1007 0) (((g38 1092 0) - 1)) ∧ (g38 58 ((g38 1092 0) - 1)) = (S 1100007 (g38 57 ((g38 1092 0) - 1))) ∧ sm_SK (g38 63) (g38 64) (g38 44) (S 1100007) (S 1100025) (g38 1076 0) (S 1007 0) (400 * ((g38 1092 0) - 1)) ((g38 58 ((g38 1092 0) - 1))) ((S 1100025 (g38 57 ((g38 1092 0) - 1))))) ∧ ((g38 1073 0) = 1 ∨ (g38 1092 0) = 0 ∧ (g38 1075 0) = 0 ∧ ((g38 1073 0) = 2 ∨ (g38 1073 0) = 3)) ∧ ((g38 1073 0) = 1 ∨ (g38 1073 0) = 3)) → (((0 : Int) = 0 ∨ (0 : Int) = 1) ∧ ((0 : Int) = 0 → sm_PL (S 1100020) (S 51) (S 52) (g38 46) (g38 47) (g38 1076 0) (S 1086 0) ∧ sm_FR (S 1100020) (S 52) (S 1100021) (S 1100022) (3000 - (S 1084 0)) (S 1085 0) ∧ sm_PV (S 1100020) (S 48) (S 49) (S 50) (g38 44) (g38 1076 0) (S 1007 0) ∧ sm_AL (S 1100020) (S 48) (S 49) (S 50) (g38 44) (g38 1076 0) (S 1100032 0) ∧ sm_SV (S 1100020) (S 48) (g38 1100029) (S 32) (S 33) (g38 1076 0) (S 1032 0) ∧ 0 ≤ (g38 1076 0) ∧ (g38 1076 0) ≤ 300 ∧ 0 ≤ (S 1084 0) ∧ (S 1084 0) ≤ 3000 ∧ 0 ≤ (S 1086 0) ∧ sm_SC (g38 1100029) (g38 44) (g38 45) (g38 43) (S 21) (g38 1076 0) (S 1032 0) ∧ sm_PO (g38 42) (g38 1076 0) ∧ ((g38 1075 0) = 0 → (S 1100032 0) = -1 ∧ sm_FO (g38 44) (g38 45) (g38 1076 0)) ∧ 23 ≤ (g38 1076 0) ∧ 31 ≤ (S 1007 0) ∧ (S 1007 0) ≤ 400 ∧ sm_LN (S 4) 400 (S 1007 0) ∧ (S 1008 0) ≤ (S 1007 0) ∧ ((S 1075 0) = 1 → (g38 1075 0) = 1) ∧ 0 ≤ (g38 1092 0) ∧ (g38 1092 0) ≤ 24 ∧ (S 1007 0) ≤ (S 1007 0) ∧ (¬ (g38 1075 0) = 0 → sm_LX (g38 58) (g38 63) (g38 64) (g38 1092 0) (g38 1076 0)) ∧ ((g38 1075 0) = 0 → (g38 1073 0) = 1 → 1 ≤ (g38 1092 0) ∧ (g38 1092 0) ≤ 24 ∧ 0 ≤ (g38 57 ((g38 1092 0) - 1)) ∧ (g38 57 ((g38 1092 0) - 1)) < (S 1046 0) ∧ (S 29 (g38 57 ((g38 1092 0) - 1))) = (S 53 ((g38 1092 0) - 1)) ∧ 0 ≤ (S 53 ((g38 1092 0) - 1)) ∧ (S 53 ((g38 1092 0) - 1)) < (S 1032 0) ∧ (g38 60 ((g38 1092 0) - 1)) = sm_dp (S 1100024) (S 1100023 (g38 57 ((g38 1092 0) - 1))) ∧ sm_TC (S 61) (S 62) (S 27) (S 1100007) (S 1100023) (S 1100024) (40 * ((g38 1092 0) - 1)) (S 1100023 (g38 57 ((g38 1092 0) - 1))) ∧ sm_LK (g38 1100029) (g38 1076 0) (S 54 ((g38 1092 0) - 1)) (S 53 ((g38 1092 0) - 1)) ∧ sm_VO (g38 44) (g38 1076 0) (S 1007 0) ((S 55 ((g38 1092 0) - 1))) ((S 56 ((g38 1092 0) - 1))) ∧ sm_FW (g38 44) (g38 1076 0) (S 59 ((g38 1092 0) - 1)) ∧ sm_FL (S 53) (S 54) (S 55) (S 56) (g38 57) (g38 58) (S 59) (g38 60) (S 61) (S 62) (g38 63) (g38 64) (S 27) (S 29) (S 1100007) (S 1100023) (S 1100024) (S 1100025) (S 26) (g38 1100029) (g38 44) (S 1046 0) (S 1032 0) (g38 1076 0) (S 1007 0) (((g38 1092 0) - 1)) ∧ (g38 58 ((g38 1092 0) - 1)) = (S 1100007 (g38 57 ((g38 1092 0) - 1))) ∧ sm_SK (g38 63) (g38 64) (g38 44) (S 1100007) (S 1100025) (g38 1076 0) (S 1007 0) (400 * ((g38 1092 0) - 1)) ((g38 58 ((g38 1092 0) - 1))) ((S 1100025 (g38 57 ((g38 1092 0) - 1))))) ∧ ((g38 1073 0) = 1 ∨ (g38 1092 0) = 0 ∧ (g38 1075 0) = 0 ∧ ((g38 1073 0) = 2 ∨ (g38 1073 0) = 3)) ∧ (S 1086 0) ≤ (S 1086 0) ∧ (S 1086 0) ≤ (S 1086 0) + 3) ∧ ((0 : Int) = 1 → sm_PL (S 1100020) (S 51) (S 52) (g38 46) (g38 47) (g38 1076 0) (S 1086 0) ∧ sm_FR (S 1100020) (S 52) (S 1100021) (S 1100022) (3000 - (S 1084 0)) (S 1085 0) ∧ sm_PV (S 1100020) (S 48) (S 49) (S 50) (g38 44) (g38 1076 0) (S 1007 0) ∧ sm_AL (S 1100020) (S 48) (S 49) (S 50) (g38 44) (g38 1076 0) (S 1100032 0) ∧ sm_SV (S 1100020) (S 48) (g38 1100029) (S 32) (S 33) (g38 1076 0) (S 1032 0) ∧ 0 ≤ (g38 1076 0) ∧ (g38 1076 0) ≤ 300 ∧ 0 ≤ (S 1084 0) ∧ (S 1084 0) ≤ 3000 ∧ 0 ≤ (S 1086 0) ∧ sm_SC (g38 1100029) (g38 44) (g38 45) (g38 43) (S 21) (g38 1076 0) (S 1032 0) ∧ sm_PO (g38 42) (g38 1076 0) ∧ ((g38 1075 0) = 0 → (S 1100032 0) = -1 ∧ sm_FO (g38 44) (g38 45) (g38 1076 0)) ∧ 23 ≤ (g38 1076 0) ∧ 31 ≤ (S 1007 0) ∧ (S 1007 0) ≤ 400 ∧ sm_LN (S 4) 400 (S 1007 0) ∧ (S 1008 0) ≤ (S 1007 0) ∧ ((S 1075 0) = 1 → (g38 1075 0) = 1) ∧ 0 ≤ (g38 1092 0) ∧ (g38 1092 0) ≤ 24 ∧ (S 1007 0) ≤ (S 1007 0) ∧ (¬ (g38 1075 0) = 0 → sm_LX (g38 58) (g38 63) (g38 64) (g38 1092 0) (g38 1076 0)) ∧ (g38 1073 0) = 1 ∧ ((g38 1075 0) = 0 → sm_PL (S 1100020) (S 51) (S 52) (g38 46) (g38 47) (g38 1076 0) (S 1086 0) ∧ sm_FR (S 1100020) (S 52) (S 1100021) (S 1100022) (3000 - (S 1084 0)) (S 1085 0) ∧ sm_PV (S 1100020) (S 48) (S 49) (S 50) (g38 44) (g38 1076 0) (S 1007 0) ∧ sm_AL (S 1100020) (S 48) (S 49) (S 50) (g38 44) (g38 1076 0) (S 1100032 0) ∧ sm_SV (S 1100020) (S 48) (g38 1100029) (S 32) (S 33) (g38 1076 0) (S 1032 0) ∧ 0 ≤ (g38 1076 0) ∧ (g38 1076 0) ≤ 300 ∧ 0 ≤ (S 1084 0) ∧ (S 1084 0) ≤ 3000 ∧ 0 ≤ (S 1086 0) ∧ sm_SC (g38 1100029) (g38 44) (g38 45) (g38 43) (S 21) (g38 1076 0) (S 1032 0) ∧ sm_PO (g38 42) (g38 1076 0) ∧ (S 1100032 0) = -1 ∧ sm_FO (g38 44) (g38 45) (g38 1076 0) ∧ 23 ≤ (g38 1076 0) ∧ 31 ≤ (S 1007 0) ∧ (S 1007 0) ≤ 400 ∧ sm_LN (S 4) 400 (S 1007 0) ∧ sm_CT (S 26) (S 27) (S 28) (S 29) (S 1100007) (S 1100023) (S 1100024) (S 1100025) (S 21) (S 1046 0) (S 1032 0) (S 1008 0) (S 1055 0) ∧ sm_LS (S 26) (S 1100007) (S 1100025) (S 1046 0) ∧ sm_CL (S 1100007) (S 1100023) (S 1100025) (S 1046 0) ∧ 1 ≤ (S 1032 0) ∧ (S 1032 0) ≤ 11 ∧ 0 ≤ (S 1046 0) ∧ (S 1046 0) ≤ 600 ∧ 31 ≤ (S 1008 0) ∧ (S 1008 0) ≤ (S 1007 0) ∧ 0 ≤ (S 1055 0) ∧ (S 1055 0) ≤ 19 ∧ 1 ≤ (g38 1092 0) ∧ (g38 1092 0) ≤ 24 ∧ 0 ≤ (S 1100033 0) ∧ (S 1100033 0) < (S 1046 0) ∧ (S 29 (S 1100033 0)) = (S 53 ((g38 1092 0) - 1)) ∧ 0 ≤ (S 53 ((g38 1092 0) - 1)) ∧ (S 53 ((g38 1092 0) - 1)) < (S 1032 0) ∧ (g38 60 ((g38 1092 0) - 1)) = sm_dp (S 1100024) (S 1100023 (S 1100033 0)) ∧ sm_TC (S 61) (S 62) (S 27) (S 1100007) (S 1100023) (S 1100024) (40 * ((g38 1092 0) - 1)) (S 1100023 (S 1100033 0)) ∧ sm_LK (g38 1100029) (g38 1076 0) (S 54 ((g38 1092 0) - 1)) (S 53 ((g38 1092 0) - 1)) ∧ sm_VO (g38 44) (g38 1076 0) (S 1007 0) ((S 55 ((g38 1092 0) - 1))) ((S 56 ((g38 1092 0) - 1))) ∧ sm_FW (g38 44) (g38 1076 0) (S 59 ((g38 1092 0) - 1)) ∧ sm_FL (S 53) (S 54) (S 55) (S 56) (g38 57) (g38 58) (S 59) (g38 60) (S 61) (S 62) (g38 63) (g38 64) (S 27) (S 29) (S 1100007) (S 1100023) (S 1100024) (S 1100025) (S 26) (g38 1100029) (g38 44) (S 1046 0) (S 1032 0) (g38 1076 0) (S 1007 0) (((g38 1092 0) - 1)) ∧ (g38 57 ((g38 1092 0) - 1)) = (S 1100033 0) ∧ 0 ≤ (g38 58 ((g38 1092 0) - 1)) ∧ (g38 58 ((g38 1092 0) - 1)) ≤ 400 ∧ sm_SK (g38 63) (g38 64) (g38 44) (S 1100007) (S 1100025) (g38 1076 0) (S 1007 0) (400 * ((g38 1092 0) - 1)) ((g38 58 ((g38 1092 0) - 1))) ((S 1100034 0)) ∧ -1 ≤ (S 1100034 0) ∧ (S 1100034 0) < (S 1046 0) ∧ (0 ≤ (S 1100034 0) → (S 26 (S 1100034 0)) = 29) ∧ (g38 58 ((g38 1092 0) - 1)) = (S 58 ((S 1092 0) - 1)) ∧ sm_VO (g38 44) (g38 1076 0) (S 1007 0) ((S 1111 0)) ((S 1112 0))) ∧ (S 1086 0) ≤ (S 1086 0) ∧ (S 1086 0) ≤ (S 1086 0) + 3)))))) ∧ (((¬ p1 = (22 : Int)) → (((¬ p2 = (7 : Int)) → (((0 : Int) = 0 ∨ (0 : Int) = 1) ∧ ((0 : Int) = 1 → (p1 = 22 → p2 = 6) ∧ (¬ p1 = 22 → p2 = 7) ∧ (¬ p1 = 22 → ¬ p1 = 21 → (S 44 p3) = 2)))) ∧ ((¬ (¬ p2 = (7 : Int))) → (((p1 = (21 : Int)) → (((1 : Int) = 0 ∨ (1 : Int) = 1) ∧ ((1 : Int) = 1 → (p1 = 22 → p2 = 6) ∧ (¬ p1 = 22 → p2 = 7) ∧ (¬ p1 = 22 → ¬ p1 = 21 → (S 44 p3) = 2)))) ∧ ((¬ (p1 = (21 : Int))) → (0 ≤ p3 ∧ p3 < 300) ∧ (sv_R (S 44 p3) → (((¬ (S 44 p3) = (2 : Int)) → (((0 : Int) = 0 ∨ (0 : Int) = 1) ∧ ((0 : Int) = 1 → (p1 = 22 → p2 = 6) ∧ (¬ p1 = 22 → p2 = 7) ∧ (¬ p1 = 22 → ¬ p1 = 21 → (S 44 p3) = 2)))) ∧ ((¬ (¬ (S 44 p3) = (2 : Int))) → (((1 : Int) = 0 ∨ (1 : Int) = 1) ∧ ((1 : Int) = 1 → (p1 = 22 → p2 = 6) ∧ (¬ p1 = 22 → p2 = 7) ∧ (¬ p1 = 22 → ¬ p1 = 21 → (S 44 p3) = 2))))))))))) ∧ ((¬ (¬ p1 = (22 : Int))) → (((¬ p2 = (6 : Int)) → (((0 : Int) = 0 ∨ (0 : Int) = 1) ∧ ((0 : Int) = 1 → (p1 = 22 → p2 = 6) ∧ (¬ p1 = 22 → p2 = 7) ∧ (¬ p1 = 22 → ¬ p1 = 21 → (S 44 p3) = 2)))) ∧ ((¬ (¬ p2 = (6 : Int))) → (((1 : Int) = 0 ∨ (1 : Int) = 1) ∧ ((1 : Int) = 1 → (p1 = 22 → p2 = 6) ∧ (¬ p1 = 22 → p2 = 7) ∧ (¬ p1 = 22 → ¬ p1 = 21 → (S 44 p3) = 2)))))))) := by
  intro p1
  intro p2
  intro p3
  intro p4
  intro p5
  intro S
  intro h1_
  intro h2_
  intro h3_
  intro h4_
  intro h5_
  intro h6_
  rintro ⟨h7_, ⟨h8_, ⟨h9_, ⟨h10_, ⟨h11_, ⟨h12_, ⟨h13_, ⟨h14_, ⟨h15_, ⟨h16_, ⟨h17_, ⟨h18_, ⟨h19_, ⟨h20_, ⟨h21_, ⟨h22_, ⟨h23_, ⟨h24_, ⟨h25_, ⟨h26_, ⟨h27_, ⟨h28_, ⟨h29_, ⟨h30_, ⟨h31_, ⟨h32_, ⟨h33_, ⟨h34_, ⟨h35_, ⟨h36_, ⟨h37_, ⟨h38_, ⟨h39_, ⟨h40_, ⟨h41_, ⟨h42_, ⟨h43_, ⟨h44_, ⟨h45_, ⟨h46_, ⟨h47_, ⟨h48_, ⟨h49_, ⟨h50_, ⟨h51_, ⟨h52_, ⟨h53_, ⟨h54_, ⟨h55_, ⟨h56_, ⟨h57_, ⟨h58_, ⟨h59_, ⟨h60_, ⟨h61_, ⟨h62_, ⟨h63_, ⟨h64_, ⟨h65_, h66_⟩⟩⟩⟩⟩⟩⟩⟩⟩⟩⟩⟩⟩⟩⟩⟩⟩⟩⟩⟩⟩⟩⟩⟩⟩⟩⟩⟩⟩⟩⟩⟩⟩⟩⟩⟩⟩⟩⟩⟩⟩⟩⟩⟩⟩⟩⟩⟩⟩⟩⟩⟩⟩⟩⟩⟩⟩⟩⟩
  refine ⟨?_, ?_⟩
  · skip
    intro s1
    intro h67_
    rintro ⟨h68_, h69_⟩
    refine ⟨?_, ?_⟩
    · skip
      intro h70_
      have h71_ := (h68_.resolve_left h70_)
      obtain ⟨h72_, ⟨h73_, h74_⟩⟩ := (h69_ h71_)
      refine ⟨?_, ?_⟩
      · skip
        intro g3
        rintro ⟨h75_, ⟨h76_, ⟨h77_, ⟨h78_, ⟨h79_, ⟨h80_, ⟨h81_, ⟨h82_, ⟨h83_, ⟨h84_, ⟨h85_, ⟨h86_, ⟨h87_, ⟨h88_, ⟨h89_, ⟨h90_, ⟨h91_, ⟨h92_, ⟨h93_, ⟨h94_, ⟨h95_, ⟨h96_, ⟨h97_, ⟨h98_, ⟨h99_, ⟨h100_, h101_⟩⟩⟩⟩⟩⟩⟩⟩⟩⟩⟩⟩⟩⟩⟩⟩⟩⟩⟩⟩⟩⟩⟩⟩⟩⟩
        refine ⟨la_nativeWith_3, ?_⟩
        refine ⟨?_, ?_⟩
        · skip
          intro h102_
          refine ⟨h75_, ?_⟩
          refine ⟨h76_, ?_⟩
          refine ⟨h77_, ?_⟩
          refine ⟨h78_, ?_⟩
          refine ⟨h79_, ?_⟩
          refine ⟨h15_, ?_⟩
          refine ⟨h16_, ?_⟩
          refine ⟨h82_, ?_⟩
          refine ⟨h83_, ?_⟩
          refine ⟨h84_, ?_⟩
          refine ⟨h20_, ?_⟩
          refine ⟨h21_, ?_⟩
          refine ⟨h87_, ?_⟩
          refine ⟨h24_, ?_⟩
          refine ⟨h89_, ?_⟩
          refine ⟨h90_, ?_⟩
          refine ⟨h91_, ?_⟩
          refine ⟨h92_, ?_⟩
          refine ⟨h93_, ?_⟩
          refine ⟨h94_, ?_⟩
          refine ⟨h40_, ?_⟩
          refine ⟨h96_, ?_⟩
          refine ⟨h97_, ?_⟩
          refine ⟨?_, ?_⟩
          · skip
            intro h103_
            obtain ⟨h104_, h105_⟩ := (h87_ h103_)
            have h106_ := (h97_ (la_nativeWith_4 h102_))
            obtain ⟨h107_, ⟨h108_, ⟨h109_, ⟨h110_, ⟨h111_, ⟨h112_, ⟨h113_, ⟨h114_, ⟨h115_, ⟨h116_, ⟨h117_, ⟨h118_, ⟨h119_, ⟨h120_, ⟨h121_, ⟨h122_, ⟨h123_, ⟨h124_, ⟨h125_, ⟨h126_, ⟨h127_, ⟨h128_, ⟨h129_, ⟨h130_, ⟨h131_, ⟨h132_, ⟨h133_, ⟨h134_, ⟨h135_, ⟨h136_, ⟨h137_, ⟨h138_, ⟨h139_, ⟨h140_, ⟨h141_, ⟨h142_, ⟨h143_, ⟨h144_, ⟨h145_, ⟨h146_, ⟨h147_, ⟨h148_, ⟨h149_, ⟨h150_, ⟨h151_, ⟨h152_, ⟨h153_, ⟨h154_, ⟨h155_, ⟨h156_, h157_⟩⟩⟩⟩⟩⟩⟩⟩⟩⟩⟩⟩⟩⟩⟩⟩⟩⟩⟩⟩⟩⟩⟩⟩⟩⟩⟩⟩⟩⟩⟩⟩⟩⟩⟩⟩⟩⟩⟩⟩⟩⟩⟩⟩⟩⟩⟩⟩⟩⟩ := (h99_ h103_)
            obtain ⟨h158_, h159_⟩ := ((sm_VO_e h49_).2.2.1 (la_nativeWith_5 h102_))
            obtain ⟨h160_, ⟨h161_, h162_⟩⟩ := ((sm_VO_e h49_).2.2.2 (la_nativeWith_6 h102_))
            have h163_ := (h61_ (la_nativeWith_7 h102_))
            have h164_ := (h64_.resolve_left (la_nativeWith_8 h102_))
            obtain ⟨h165_, h166_⟩ := ((sm_VO_e h65_).2.2.1 (la_nativeWith_5 h102_))
            obtain ⟨h167_, ⟨h168_, h169_⟩⟩ := ((sm_VO_e h65_).2.2.2 (la_nativeWith_6 h102_))
            obtain ⟨h170_, h171_⟩ := ((sm_VO_e h66_).2.2.1 (la_nativeWith_5 h102_))
            obtain ⟨h172_, ⟨h173_, h174_⟩⟩ := ((sm_VO_e h66_).2.2.2 (la_nativeWith_6 h102_))
            have h175_ := (h72_ (la_nativeWith_9 h102_))
            have h176_ := (h73_ (la_nativeWith_10 h102_))
            have h177_ := (h74_ (la_nativeWith_10 h102_))
            obtain ⟨h178_, h179_⟩ := ((sm_VO_e h146_).2.2.1 (la_nativeWith_5 h102_))
            obtain ⟨h180_, h181_⟩ := ((sm_VO_e h157_).2.2.1 (la_nativeWith_5 h102_))
            obtain ⟨h182_, ⟨h183_, h184_⟩⟩ := ((sm_VO_e h157_).2.2.2 (la_nativeWith_6 h102_))
            have h185_ := (h164_.resolve_left (la_nativeWith_13 h102_))
            have h186_ := (h177_ (la_nativeWith_14 h102_))
            have h187_ := (h185_.resolve_left (la_nativeWith_14 h102_))
            intro h188_
            refine ⟨h39_, ?_⟩
            refine ⟨h40_, ?_⟩
            refine ⟨(la_nativeWith_7 h102_), ?_⟩
            refine ⟨(la_nativeWith_15 h102_), ?_⟩
            refine ⟨(la_nativeWith_16 h102_), ?_⟩
            refine ⟨h44_, ?_⟩
            refine ⟨h45_, ?_⟩
            refine ⟨(la_nativeWith_16 h102_), ?_⟩
            refine ⟨(sm_TC_t h47_ (la_nativeWith_16 h102_)), ?_⟩
            refine ⟨h48_, ?_⟩
            refine ⟨h146_, ?_⟩
            refine ⟨h50_, ?_⟩
            refine ⟨h148_, ?_⟩
            refine ⟨(la_nativeWith_16 h102_), ?_⟩
            exact (sm_SK_0 (la_nativeWith_17 h102_))
          refine ⟨(la_nativeWith_18 h102_), ?_⟩
          refine ⟨h100_, ?_⟩
          exact h101_
        intro h189_
        refine ⟨h75_, ?_⟩
        refine ⟨h76_, ?_⟩
        refine ⟨h77_, ?_⟩
        refine ⟨h78_, ?_⟩
        refine ⟨h79_, ?_⟩
        refine ⟨h15_, ?_⟩
        refine ⟨h16_, ?_⟩
        refine ⟨h82_, ?_⟩
        refine ⟨h83_, ?_⟩
        refine ⟨h84_, ?_⟩
        refine ⟨h20_, ?_⟩
        refine ⟨h21_, ?_⟩
        refine ⟨h87_, ?_⟩
        refine ⟨h24_, ?_⟩
        refine ⟨h89_, ?_⟩
        refine ⟨h90_, ?_⟩
        refine ⟨h91_, ?_⟩
        refine ⟨h92_, ?_⟩
        refine ⟨h93_, ?_⟩
        refine ⟨h94_, ?_⟩
        refine ⟨h40_, ?_⟩
        refine ⟨h96_, ?_⟩
        refine ⟨h97_, ?_⟩
        refine ⟨h8_, ?_⟩
        refine ⟨h99_, ?_⟩
        refine ⟨h100_, ?_⟩
        exact h101_
      refine ⟨?_, ?_⟩
      · skip
        intro h190_
        have h191_ := (h64_.resolve_left h190_)
        refine ⟨?_, ?_⟩
        · skip
          intro h192_
          have h193_ := (h191_.resolve_left h192_)
          refine ⟨?_, ?_⟩
          · skip
            intro h194_
            have h195_ := (h193_.resolve_left h194_)
            have h196_ := (h72_ h195_)
            obtain ⟨h197_, h198_⟩ := ((sm_VO_e h65_).2.2.1 h196_)
            refine ⟨⟨h7_, ⟨h8_, ⟨h10_, ⟨h11_, ⟨h12_, ⟨h13_, ⟨h14_, ⟨h15_, ⟨h16_, ⟨h17_, ⟨h18_, ⟨h19_, ⟨h20_, ⟨h21_, ⟨h22_, ⟨h23_, ⟨h24_, ⟨h25_, ⟨h26_, ⟨h27_, ⟨h36_, ⟨h63_, ⟨h197_, ⟨h198_, h66_⟩⟩⟩⟩⟩⟩⟩⟩⟩⟩⟩⟩⟩⟩⟩⟩⟩⟩⟩⟩⟩⟩⟩⟩, ?_⟩
            intro g10
            rintro ⟨h199_, ⟨h200_, ⟨h201_, ⟨h202_, ⟨h203_, ⟨h204_, ⟨h205_, ⟨h206_, ⟨h207_, ⟨h208_, ⟨h209_, ⟨h210_, ⟨h211_, ⟨h212_, ⟨h213_, ⟨h214_, ⟨h215_, ⟨h216_, ⟨h217_, ⟨h218_, ⟨h219_, h220_⟩⟩⟩⟩⟩⟩⟩⟩⟩⟩⟩⟩⟩⟩⟩⟩⟩⟩⟩⟩⟩
            have h221_ := (h212_ h23_)
            refine ⟨h10_, ?_⟩
            refine ⟨h11_, ?_⟩
            refine ⟨h201_, ?_⟩
            refine ⟨h13_, ?_⟩
            refine ⟨h14_, ?_⟩
            refine ⟨h15_, ?_⟩
            refine ⟨h16_, ?_⟩
            refine ⟨h17_, ?_⟩
            refine ⟨h18_, ?_⟩
            refine ⟨h19_, ?_⟩
            refine ⟨h20_, ?_⟩
            refine ⟨h21_, ?_⟩
            refine ⟨?_, ?_⟩
            · skip
              intro h222_
              have h223_ := (h220_ h222_)
              refine ⟨h22_, ?_⟩
              exact h23_
            refine ⟨h24_, ?_⟩
            refine ⟨h214_, ?_⟩
            refine ⟨h215_, ?_⟩
            refine ⟨h216_, ?_⟩
            refine ⟨(la_nativeWith_27 h36_ h217_), ?_⟩
            refine ⟨(la_nativeWith_28 h7_), ?_⟩
            refine ⟨(la_nativeWith_29 h39_), ?_⟩
            refine ⟨h40_, ?_⟩
            refine ⟨h217_, ?_⟩
            refine ⟨?_, ?_⟩
            · skip
              intro h224_
              exact h9_
            refine ⟨h8_, ?_⟩
            refine ⟨?_, ?_⟩
            · skip
              intro h225_
              have h226_ := (h220_ h225_)
              refine ⟨h10_, ?_⟩
              refine ⟨h11_, ?_⟩
              refine ⟨h201_, ?_⟩
              refine ⟨h13_, ?_⟩
              refine ⟨h14_, ?_⟩
              refine ⟨h15_, ?_⟩
              refine ⟨h16_, ?_⟩
              refine ⟨h17_, ?_⟩
              refine ⟨h18_, ?_⟩
              refine ⟨h19_, ?_⟩
              refine ⟨h20_, ?_⟩
              refine ⟨h21_, ?_⟩
              refine ⟨h22_, ?_⟩
              refine ⟨h23_, ?_⟩
              refine ⟨h24_, ?_⟩
              refine ⟨h214_, ?_⟩
              refine ⟨h215_, ?_⟩
              refine ⟨h216_, ?_⟩
              refine ⟨h28_, ?_⟩
              refine ⟨h29_, ?_⟩
              refine ⟨h30_, ?_⟩
              refine ⟨h31_, ?_⟩
              refine ⟨h32_, ?_⟩
              refine ⟨h33_, ?_⟩
              refine ⟨h34_, ?_⟩
              refine ⟨h35_, ?_⟩
              refine ⟨(la_nativeWith_27 h36_ h217_), ?_⟩
              refine ⟨h37_, ?_⟩
              refine ⟨h38_, ?_⟩
              refine ⟨h39_, ?_⟩
              refine ⟨h40_, ?_⟩
              refine ⟨h41_, ?_⟩
              refine ⟨h42_, ?_⟩
              refine ⟨h43_, ?_⟩
              refine ⟨h44_, ?_⟩
              refine ⟨h45_, ?_⟩
              refine ⟨h46_, ?_⟩
              refine ⟨h47_, ?_⟩
              refine ⟨h48_, ?_⟩
              refine ⟨(sm_VO_m h49_ (Int.le_refl _) h217_ sm_F1_rf), ?_⟩
              refine ⟨h50_, ?_⟩
              refine ⟨(sm_FL_F h51_ sm_F1_rf sm_F1_rf sm_F1_rf sm_F1_rf sm_F1_rf sm_F1_rf sm_F1_rf sm_F1_rf sm_F1_rf sm_F1_rf sm_F1_rf sm_F1_rf (Int.le_refl _) h217_ sm_F1_rf sm_F1_rf (sm_FL_dp h51_ h28_)), ?_⟩
              refine ⟨h52_, ?_⟩
              refine ⟨h53_, ?_⟩
              refine ⟨h54_, ?_⟩
              refine ⟨(sm_SK_m h55_ (Int.le_refl _) h217_ sm_F1_rf), ?_⟩
              refine ⟨h56_, ?_⟩
              refine ⟨h57_, ?_⟩
              refine ⟨h58_, ?_⟩
              refine ⟨la_nativeWith_31, ?_⟩
              exact h226_
            refine ⟨h218_, ?_⟩
            exact h219_
          intro h227_
          have h228_ := (h73_ (la_nativeWith_32 h227_))
          have h229_ := (h74_ (la_nativeWith_32 h227_))
          have h230_ := (h193_.resolve_right (la_nativeWith_32 h227_))
          obtain ⟨h231_, ⟨h232_, h233_⟩⟩ := ((sm_VO_e h65_).2.2.2 h228_)
          refine ⟨⟨h7_, ⟨h8_, ⟨h10_, ⟨h11_, ⟨h12_, ⟨h13_, ⟨h14_, ⟨h15_, ⟨h16_, ⟨h17_, ⟨h18_, ⟨h19_, ⟨h20_, ⟨h21_, ⟨h22_, ⟨h23_, ⟨h24_, ⟨h25_, ⟨h26_, ⟨h27_, ⟨h36_, ⟨h63_, ⟨h231_, ⟨h232_, h66_⟩⟩⟩⟩⟩⟩⟩⟩⟩⟩⟩⟩⟩⟩⟩⟩⟩⟩⟩⟩⟩⟩⟩⟩, ?_⟩
          intro g17
          rintro ⟨h234_, ⟨h235_, ⟨h236_, ⟨h237_, ⟨h238_, ⟨h239_, ⟨h240_, ⟨h241_, ⟨h242_, ⟨h243_, ⟨h244_, ⟨h245_, ⟨h246_, ⟨h247_, ⟨h248_, ⟨h249_, ⟨h250_, ⟨h251_, ⟨h252_, ⟨h253_, ⟨h254_, h255_⟩⟩⟩⟩⟩⟩⟩⟩⟩⟩⟩⟩⟩⟩⟩⟩⟩⟩⟩⟩⟩
          have h256_ := (h247_ h23_)
          refine ⟨h10_, ?_⟩
          refine ⟨h11_, ?_⟩
          refine ⟨h236_, ?_⟩
          refine ⟨h13_, ?_⟩
          refine ⟨h14_, ?_⟩
          refine ⟨h15_, ?_⟩
          refine ⟨h16_, ?_⟩
          refine ⟨h17_, ?_⟩
          refine ⟨h18_, ?_⟩
          refine ⟨h19_, ?_⟩
          refine ⟨h20_, ?_⟩
          refine ⟨h21_, ?_⟩
          refine ⟨?_, ?_⟩
          · skip
            intro h257_
            have h258_ := (h255_ h257_)
            refine ⟨h22_, ?_⟩
            exact h23_
          refine ⟨h24_, ?_⟩
          refine ⟨h249_, ?_⟩
          refine ⟨h250_, ?_⟩
          refine ⟨h251_, ?_⟩
          refine ⟨(la_nativeWith_27 h36_ h252_), ?_⟩
          refine ⟨(la_nativeWith_28 h7_), ?_⟩
          refine ⟨(la_nativeWith_29 h39_), ?_⟩
          refine ⟨h40_, ?_⟩
          refine ⟨h252_, ?_⟩
          refine ⟨?_, ?_⟩
          · skip
            intro h259_
            exact h9_
          refine ⟨h8_, ?_⟩
          refine ⟨?_, ?_⟩
          · skip
            intro h260_
            have h261_ := (h255_ h260_)
            refine ⟨h10_, ?_⟩
            refine ⟨h11_, ?_⟩
            refine ⟨h236_, ?_⟩
            refine ⟨h13_, ?_⟩
            refine ⟨h14_, ?_⟩
            refine ⟨h15_, ?_⟩
            refine ⟨h16_, ?_⟩
            refine ⟨h17_, ?_⟩
            refine ⟨h18_, ?_⟩
            refine ⟨h19_, ?_⟩
            refine ⟨h20_, ?_⟩
            refine ⟨h21_, ?_⟩
            refine ⟨h22_, ?_⟩
            refine ⟨h23_, ?_⟩
            refine ⟨h24_, ?_⟩
            refine ⟨h249_, ?_⟩
            refine ⟨h250_, ?_⟩
            refine ⟨h251_, ?_⟩
            refine ⟨h28_, ?_⟩
            refine ⟨h29_, ?_⟩
            refine ⟨h30_, ?_⟩
            refine ⟨h31_, ?_⟩
            refine ⟨h32_, ?_⟩
            refine ⟨h33_, ?_⟩
            refine ⟨h34_, ?_⟩
            refine ⟨h35_, ?_⟩
            refine ⟨(la_nativeWith_27 h36_ h252_), ?_⟩
            refine ⟨h37_, ?_⟩
            refine ⟨h38_, ?_⟩
            refine ⟨h39_, ?_⟩
            refine ⟨h40_, ?_⟩
            refine ⟨h41_, ?_⟩
            refine ⟨h42_, ?_⟩
            refine ⟨h43_, ?_⟩
            refine ⟨h44_, ?_⟩
            refine ⟨h45_, ?_⟩
            refine ⟨h46_, ?_⟩
            refine ⟨h47_, ?_⟩
            refine ⟨h48_, ?_⟩
            refine ⟨(sm_VO_m h49_ (Int.le_refl _) h252_ sm_F1_rf), ?_⟩
            refine ⟨h50_, ?_⟩
            refine ⟨(sm_FL_F h51_ sm_F1_rf sm_F1_rf sm_F1_rf sm_F1_rf sm_F1_rf sm_F1_rf sm_F1_rf sm_F1_rf sm_F1_rf sm_F1_rf sm_F1_rf sm_F1_rf (Int.le_refl _) h252_ sm_F1_rf sm_F1_rf (sm_FL_dp h51_ h28_)), ?_⟩
            refine ⟨h52_, ?_⟩
            refine ⟨h53_, ?_⟩
            refine ⟨h54_, ?_⟩
            refine ⟨(sm_SK_m h55_ (Int.le_refl _) h252_ sm_F1_rf), ?_⟩
            refine ⟨h56_, ?_⟩
            refine ⟨h57_, ?_⟩
            refine ⟨h58_, ?_⟩
            refine ⟨la_nativeWith_31, ?_⟩
            exact h261_
          refine ⟨h253_, ?_⟩
          exact h254_
        intro h262_
        have h263_ := (h73_ (la_nativeWith_36 h262_))
        have h264_ := (h74_ (la_nativeWith_36 h262_))
        have h265_ := (h191_.resolve_right (la_nativeWith_38 h262_))
        obtain ⟨h266_, ⟨h267_, h268_⟩⟩ := ((sm_VO_e h65_).2.2.2 h263_)
        have h269_ := (h264_ (la_nativeWith_39 h265_))
        refine ⟨⟨h7_, ⟨h8_, ⟨h10_, ⟨h11_, ⟨h12_, ⟨h13_, ⟨h14_, ⟨h15_, ⟨h16_, ⟨h17_, ⟨h18_, ⟨h19_, ⟨h20_, ⟨h21_, ⟨h22_, ⟨h23_, ⟨h24_, ⟨h25_, ⟨h26_, ⟨h27_, (la_nativeWith_41 h36_ h63_ h266_ h267_ h269_)⟩⟩⟩⟩⟩⟩⟩⟩⟩⟩⟩⟩⟩⟩⟩⟩⟩⟩⟩⟩, ?_⟩
        intro g24
        rintro ⟨h270_, ⟨h271_, ⟨h272_, ⟨h273_, ⟨h274_, ⟨h275_, ⟨h276_, ⟨h277_, ⟨h278_, ⟨h279_, ⟨h280_, ⟨h281_, ⟨h282_, ⟨h283_, ⟨h284_, ⟨h285_, ⟨h286_, ⟨h287_, ⟨h288_, ⟨h289_, ⟨h290_, h291_⟩⟩⟩⟩⟩⟩⟩⟩⟩⟩⟩⟩⟩⟩⟩⟩⟩⟩⟩⟩⟩
        have h292_ := (h283_ h23_)
        refine ⟨h270_, ?_⟩
        refine ⟨h271_, ?_⟩
        refine ⟨h272_, ?_⟩
        refine ⟨h273_, ?_⟩
        refine ⟨h274_, ?_⟩
        refine ⟨h15_, ?_⟩
        refine ⟨h16_, ?_⟩
        refine ⟨h277_, ?_⟩
        refine ⟨h278_, ?_⟩
        refine ⟨h279_, ?_⟩
        refine ⟨h20_, ?_⟩
        refine ⟨h21_, ?_⟩
        refine ⟨?_, ?_⟩
        · skip
          intro h293_
          have h294_ := (h291_ h293_)
          refine ⟨h22_, ?_⟩
          exact h23_
        refine ⟨h24_, ?_⟩
        refine ⟨h285_, ?_⟩
        refine ⟨h286_, ?_⟩
        refine ⟨h287_, ?_⟩
        refine ⟨(la_nativeWith_27 h36_ h288_), ?_⟩
        refine ⟨(la_nativeWith_28 h7_), ?_⟩
        refine ⟨(la_nativeWith_29 h39_), ?_⟩
        refine ⟨h40_, ?_⟩
        refine ⟨h288_, ?_⟩
        refine ⟨?_, ?_⟩
        · skip
          intro h295_
          exact h9_
        refine ⟨h8_, ?_⟩
        refine ⟨?_, ?_⟩
        · skip
          intro h296_
          have h297_ := (h291_ h296_)
          refine ⟨h270_, ?_⟩
          refine ⟨h271_, ?_⟩
          refine ⟨h272_, ?_⟩
          refine ⟨h273_, ?_⟩
          refine ⟨h274_, ?_⟩
          refine ⟨h15_, ?_⟩
          refine ⟨h16_, ?_⟩
          refine ⟨h277_, ?_⟩
          refine ⟨h278_, ?_⟩
          refine ⟨h279_, ?_⟩
          refine ⟨h20_, ?_⟩
          refine ⟨h21_, ?_⟩
          refine ⟨h22_, ?_⟩
          refine ⟨h23_, ?_⟩
          refine ⟨h24_, ?_⟩
          refine ⟨h285_, ?_⟩
          refine ⟨h286_, ?_⟩
          refine ⟨h287_, ?_⟩
          refine ⟨h28_, ?_⟩
          refine ⟨h29_, ?_⟩
          refine ⟨h30_, ?_⟩
          refine ⟨h31_, ?_⟩
          refine ⟨h32_, ?_⟩
          refine ⟨h33_, ?_⟩
          refine ⟨h34_, ?_⟩
          refine ⟨h35_, ?_⟩
          refine ⟨(la_nativeWith_27 h36_ h288_), ?_⟩
          refine ⟨h37_, ?_⟩
          refine ⟨h38_, ?_⟩
          refine ⟨h39_, ?_⟩
          refine ⟨h40_, ?_⟩
          refine ⟨h41_, ?_⟩
          refine ⟨h42_, ?_⟩
          refine ⟨h43_, ?_⟩
          refine ⟨h44_, ?_⟩
          refine ⟨h45_, ?_⟩
          refine ⟨h46_, ?_⟩
          refine ⟨h47_, ?_⟩
          refine ⟨h48_, ?_⟩
          refine ⟨(sm_VO_m h49_ (Int.le_refl _) h288_ sm_F1_rf), ?_⟩
          refine ⟨h50_, ?_⟩
          refine ⟨(sm_FL_F h51_ sm_F1_rf sm_F1_rf sm_F1_rf sm_F1_rf sm_F1_rf sm_F1_rf sm_F1_rf sm_F1_rf sm_F1_rf sm_F1_rf sm_F1_rf sm_F1_rf (Int.le_refl _) h288_ sm_F1_rf sm_F1_rf (sm_FL_dp h51_ h28_)), ?_⟩
          refine ⟨h52_, ?_⟩
          refine ⟨h53_, ?_⟩
          refine ⟨h54_, ?_⟩
          refine ⟨(sm_SK_m h55_ (Int.le_refl _) h288_ sm_F1_rf), ?_⟩
          refine ⟨h56_, ?_⟩
          refine ⟨h57_, ?_⟩
          refine ⟨h58_, ?_⟩
          refine ⟨la_nativeWith_31, ?_⟩
          exact h297_
        refine ⟨h289_, ?_⟩
        exact h290_
      intro h298_
      have h299_ := (h64_.resolve_right (la_nativeWith_42 h298_))
      have h300_ := (h73_ (la_nativeWith_43 h298_))
      have h301_ := (h74_ (la_nativeWith_43 h298_))
      obtain ⟨h302_, ⟨h303_, h304_⟩⟩ := ((sm_VO_e h65_).2.2.2 h300_)
      have h305_ := (h301_ (la_nativeWith_44 h298_))
      refine ⟨⟨h7_, ⟨h8_, ⟨h10_, ⟨h11_, ⟨h12_, ⟨h13_, ⟨h14_, ⟨h15_, ⟨h16_, ⟨h17_, ⟨h18_, ⟨h19_, ⟨h20_, ⟨h21_, ⟨h22_, ⟨h23_, ⟨h24_, ⟨h25_, ⟨h26_, ⟨h27_, ⟨h36_, ⟨h63_, ⟨h302_, ⟨h303_, ⟨h305_, h66_⟩⟩⟩⟩⟩⟩⟩⟩⟩⟩⟩⟩⟩⟩⟩⟩⟩⟩⟩⟩⟩⟩⟩⟩⟩, ?_⟩
      intro g31
      rintro ⟨h306_, ⟨h307_, ⟨h308_, ⟨h309_, ⟨h310_, ⟨h311_, ⟨h312_, ⟨h313_, ⟨h314_, ⟨h315_, ⟨h316_, ⟨h317_, ⟨h318_, ⟨h319_, ⟨h320_, ⟨h321_, ⟨h322_, ⟨h323_, ⟨h324_, ⟨h325_, ⟨h326_, h327_⟩⟩⟩⟩⟩⟩⟩⟩⟩⟩⟩⟩⟩⟩⟩⟩⟩⟩⟩⟩⟩
      have h328_ := (h319_ h23_)
      refine ⟨h306_, ?_⟩
      refine ⟨h307_, ?_⟩
      refine ⟨h308_, ?_⟩
      refine ⟨h309_, ?_⟩
      refine ⟨h310_, ?_⟩
      refine ⟨h15_, ?_⟩
      refine ⟨h16_, ?_⟩
      refine ⟨h313_, ?_⟩
      refine ⟨h314_, ?_⟩
      refine ⟨h315_, ?_⟩
      refine ⟨h20_, ?_⟩
      refine ⟨h21_, ?_⟩
      refine ⟨?_, ?_⟩
      · skip
        intro h329_
        have h330_ := (h327_ h329_)
        refine ⟨h22_, ?_⟩
        exact h23_
      refine ⟨h24_, ?_⟩
      refine ⟨h321_, ?_⟩
      refine ⟨h322_, ?_⟩
      refine ⟨h323_, ?_⟩
      refine ⟨(la_nativeWith_27 h36_ h324_), ?_⟩
      refine ⟨(la_nativeWith_28 h7_), ?_⟩
      refine ⟨(la_nativeWith_29 h39_), ?_⟩
      refine ⟨h40_, ?_⟩
      refine ⟨h324_, ?_⟩
      refine ⟨?_, ?_⟩
      · skip
        intro h331_
        exact h9_
      refine ⟨h8_, ?_⟩
      refine ⟨?_, ?_⟩
      · skip
        intro h332_
        have h333_ := (h327_ h332_)
        refine ⟨h306_, ?_⟩
        refine ⟨h307_, ?_⟩
        refine ⟨h308_, ?_⟩
        refine ⟨h309_, ?_⟩
        refine ⟨h310_, ?_⟩
        refine ⟨h15_, ?_⟩
        refine ⟨h16_, ?_⟩
        refine ⟨h313_, ?_⟩
        refine ⟨h314_, ?_⟩
        refine ⟨h315_, ?_⟩
        refine ⟨h20_, ?_⟩
        refine ⟨h21_, ?_⟩
        refine ⟨h22_, ?_⟩
        refine ⟨h23_, ?_⟩
        refine ⟨h24_, ?_⟩
        refine ⟨h321_, ?_⟩
        refine ⟨h322_, ?_⟩
        refine ⟨h323_, ?_⟩
        refine ⟨h28_, ?_⟩
        refine ⟨h29_, ?_⟩
        refine ⟨h30_, ?_⟩
        refine ⟨h31_, ?_⟩
        refine ⟨h32_, ?_⟩
        refine ⟨h33_, ?_⟩
        refine ⟨h34_, ?_⟩
        refine ⟨h35_, ?_⟩
        refine ⟨(la_nativeWith_27 h36_ h324_), ?_⟩
        refine ⟨h37_, ?_⟩
        refine ⟨h38_, ?_⟩
        refine ⟨h39_, ?_⟩
        refine ⟨h40_, ?_⟩
        refine ⟨h41_, ?_⟩
        refine ⟨h42_, ?_⟩
        refine ⟨h43_, ?_⟩
        refine ⟨h44_, ?_⟩
        refine ⟨h45_, ?_⟩
        refine ⟨h46_, ?_⟩
        refine ⟨h47_, ?_⟩
        refine ⟨h48_, ?_⟩
        refine ⟨(sm_VO_m h49_ (Int.le_refl _) h324_ sm_F1_rf), ?_⟩
        refine ⟨h50_, ?_⟩
        refine ⟨(sm_FL_F h51_ sm_F1_rf sm_F1_rf sm_F1_rf sm_F1_rf sm_F1_rf sm_F1_rf sm_F1_rf sm_F1_rf sm_F1_rf sm_F1_rf sm_F1_rf sm_F1_rf (Int.le_refl _) h324_ sm_F1_rf sm_F1_rf (sm_FL_dp h51_ h28_)), ?_⟩
        refine ⟨h52_, ?_⟩
        refine ⟨h53_, ?_⟩
        refine ⟨h54_, ?_⟩
        refine ⟨(sm_SK_m h55_ (Int.le_refl _) h324_ sm_F1_rf), ?_⟩
        refine ⟨h56_, ?_⟩
        refine ⟨h57_, ?_⟩
        refine ⟨h58_, ?_⟩
        refine ⟨la_nativeWith_31, ?_⟩
        exact h333_
      refine ⟨h325_, ?_⟩
      exact h326_
    intro h334_
    have h335_ := (h68_.resolve_right (la_nativeWith_45 h334_))
    refine ⟨?_, ?_⟩
    · skip
      refine ⟨h7_, ?_⟩
      refine ⟨h8_, ?_⟩
      refine ⟨h9_, ?_⟩
      refine ⟨h10_, ?_⟩
      refine ⟨h11_, ?_⟩
      refine ⟨h12_, ?_⟩
      refine ⟨h13_, ?_⟩
      refine ⟨h14_, ?_⟩
      refine ⟨h15_, ?_⟩
      refine ⟨h16_, ?_⟩
      refine ⟨h17_, ?_⟩
      refine ⟨h18_, ?_⟩
      refine ⟨h19_, ?_⟩
      refine ⟨h20_, ?_⟩
      refine ⟨h21_, ?_⟩
      refine ⟨h22_, ?_⟩
      refine ⟨h23_, ?_⟩
      refine ⟨h24_, ?_⟩
      refine ⟨h25_, ?_⟩
      refine ⟨h26_, ?_⟩
      refine ⟨h27_, ?_⟩
      refine ⟨h28_, ?_⟩
      refine ⟨h29_, ?_⟩
      refine ⟨h30_, ?_⟩
      refine ⟨h31_, ?_⟩
      refine ⟨h32_, ?_⟩
      refine ⟨h33_, ?_⟩
      refine ⟨h34_, ?_⟩
      refine ⟨h35_, ?_⟩
      refine ⟨h36_, ?_⟩
      refine ⟨h37_, ?_⟩
      refine ⟨h38_, ?_⟩
      refine ⟨h39_, ?_⟩
      refine ⟨h40_, ?_⟩
      refine ⟨(la_nativeWith_46 h41_ h52_), ?_⟩
      refine ⟨(la_nativeWith_47 h42_ h52_), ?_⟩
      refine ⟨?_, ?_⟩
      · skip
        have e336_ : S 29 (S 57 (S 1092 0 - 1)) = S 29 (S 1100033 0) := congrArg ((S 29)) h52_
        exact (la_nativeWith_48 h43_ e336_)
      refine ⟨h44_, ?_⟩
      refine ⟨h45_, ?_⟩
      refine ⟨?_, ?_⟩
      · skip
        have e337_ : S 1100023 (S 57 (S 1092 0 - 1)) = S 1100023 (S 1100033 0) := congrArg ((S 1100023)) h52_
        have e338_ : sm_dp (S 1100024) (S 1100023 (S 57 (S 1092 0 - 1))) = sm_dp (S 1100024) (S 1100023 (S 1100033 0)) := congrArg ((sm_dp (S 1100024))) e337_
        exact (la_nativeWith_49 h46_ e338_)
      refine ⟨?_, ?_⟩
      · skip
        have e339_ : S 1100023 (S 57 (S 1092 0 - 1)) = S 1100023 (S 1100033 0) := congrArg ((S 1100023)) h52_
        exact (sm_TC_t h47_ (la_nativeWith_50 e339_))
      refine ⟨h48_, ?_⟩
      refine ⟨h49_, ?_⟩
      refine ⟨h50_, ?_⟩
      refine ⟨h51_, ?_⟩
      refine ⟨?_, ?_⟩
      · skip
        have e340_ : S 1100007 (S 57 (S 1092 0 - 1)) = S 1100007 (S 1100033 0) := congrArg ((S 1100007)) h52_
        exact (la_nativeWith_49 h59_ e340_)
      refine ⟨?_, ?_⟩
      · skip
        have e341_ : S 1100025 (S 57 (S 1092 0 - 1)) = S 1100025 (S 1100033 0) := congrArg ((S 1100025)) h52_
        exact (sm_SK_q h55_ (la_nativeWith_52 h60_ e341_) rfl rfl)
      refine ⟨?_, ?_⟩
      · skip
        intro h342_
        have e343_ : S 1100023 (S 57 (S 1092 0 - 1)) = S 1100023 (S 1100033 0) := congrArg ((S 1100023)) h52_
        have h344_ := (h61_ (la_nativeWith_53 h342_ e343_))
        have e345_ : S 1100007 (S 1100023 (S 57 (S 1092 0 - 1))) = S 1100007 (S 1100023 (S 1100033 0)) := congrArg ((S 1100007)) e343_
        exact (la_nativeWith_54 h344_ e345_)
      refine ⟨la_nativeWith_55, ?_⟩
      exact la_nativeWith_56
    intro g38
    rintro ⟨h346_, ⟨h347_, ⟨h348_, ⟨h349_, ⟨h350_, ⟨h351_, ⟨h352_, ⟨h353_, ⟨h354_, ⟨h355_, ⟨h356_, ⟨h357_, ⟨h358_, ⟨h359_, ⟨h360_, ⟨h361_, ⟨h362_, ⟨h363_, ⟨h364_, ⟨h365_, ⟨h366_, ⟨h367_, ⟨h368_, ⟨h369_, ⟨h370_, h371_⟩⟩⟩⟩⟩⟩⟩⟩⟩⟩⟩⟩⟩⟩⟩⟩⟩⟩⟩⟩⟩⟩⟩⟩⟩
    refine ⟨la_nativeWith_57, ?_⟩
    refine ⟨?_, ?_⟩
    · skip
      intro h372_
      refine ⟨h346_, ?_⟩
      refine ⟨h11_, ?_⟩
      refine ⟨h348_, ?_⟩
      refine ⟨h349_, ?_⟩
      refine ⟨h350_, ?_⟩
      refine ⟨h351_, ?_⟩
      refine ⟨h352_, ?_⟩
      refine ⟨h17_, ?_⟩
      refine ⟨h18_, ?_⟩
      refine ⟨h19_, ?_⟩
      refine ⟨h356_, ?_⟩
      refine ⟨h357_, ?_⟩
      refine ⟨h358_, ?_⟩
      refine ⟨h359_, ?_⟩
      refine ⟨h25_, ?_⟩
      refine ⟨h26_, ?_⟩
      refine ⟨h27_, ?_⟩
      refine ⟨h36_, ?_⟩
      refine ⟨h364_, ?_⟩
      refine ⟨h365_, ?_⟩
      refine ⟨h366_, ?_⟩
      refine ⟨h367_, ?_⟩
      refine ⟨h368_, ?_⟩
      refine ⟨h369_, ?_⟩
      refine ⟨h370_, ?_⟩
      refine ⟨la_nativeWith_30, ?_⟩
      exact la_nativeWith_58
    intro h373_
    refine ⟨h346_, ?_⟩
    refine ⟨h11_, ?_⟩
    refine ⟨h348_, ?_⟩
    refine ⟨h349_, ?_⟩
    refine ⟨h350_, ?_⟩
    refine ⟨h351_, ?_⟩
    refine ⟨h352_, ?_⟩
    refine ⟨h17_, ?_⟩
    refine ⟨h18_, ?_⟩
    refine ⟨h19_, ?_⟩
    refine ⟨h356_, ?_⟩
    refine ⟨h357_, ?_⟩
    refine ⟨h358_, ?_⟩
    refine ⟨h359_, ?_⟩
    refine ⟨h25_, ?_⟩
    refine ⟨h26_, ?_⟩
    refine ⟨h27_, ?_⟩
    refine ⟨h36_, ?_⟩
    refine ⟨h364_, ?_⟩
    refine ⟨h365_, ?_⟩
    refine ⟨h366_, ?_⟩
    refine ⟨h367_, ?_⟩
    refine ⟨h368_, ?_⟩
    refine ⟨(la_nativeWith_59 h373_), ?_⟩
    refine ⟨?_, ?_⟩
    · skip
      intro h374_
      obtain ⟨h375_, ⟨h376_, h377_⟩⟩ := (h370_.resolve_left (la_nativeWith_60 h373_))
      have h378_ := (h371_.resolve_left (la_nativeWith_60 h373_))
      obtain ⟨h379_, h380_⟩ := (h358_ h374_)
      have h381_ := (h368_ (la_nativeWith_61 h373_))
      have h382_ := (h369_ h374_)
      have h383_ := (h377_.resolve_left (la_nativeWith_62 h373_))
      obtain ⟨h384_, ⟨h385_, ⟨h386_, ⟨h387_, ⟨h388_, ⟨h389_, ⟨h390_, ⟨h391_, ⟨h392_, ⟨h393_, ⟨h394_, ⟨h395_, ⟨h396_, ⟨h397_, h398_⟩⟩⟩⟩⟩⟩⟩⟩⟩⟩⟩⟩⟩⟩ := (h382_ (la_nativeWith_59 h373_))
      obtain ⟨h399_, h400_⟩ := ((sm_VO_e h49_).2.2.1 (la_nativeWith_63 h373_))
      obtain ⟨h401_, ⟨h402_, h403_⟩⟩ := ((sm_VO_e h49_).2.2.2 (la_nativeWith_64 h373_))
      have h404_ := (h58_ (la_nativeWith_65 h373_))
      obtain ⟨h405_, h406_⟩ := ((sm_VO_e h65_).2.2.1 (la_nativeWith_63 h373_))
      obtain ⟨h407_, ⟨h408_, h409_⟩⟩ := ((sm_VO_e h65_).2.2.2 (la_nativeWith_64 h373_))
      obtain ⟨h410_, h411_⟩ := ((sm_VO_e h66_).2.2.1 (la_nativeWith_63 h373_))
      obtain ⟨h412_, ⟨h413_, h414_⟩⟩ := ((sm_VO_e h66_).2.2.2 (la_nativeWith_64 h373_))
      obtain ⟨h415_, h416_⟩ := ((sm_VO_e h394_).2.2.1 (la_nativeWith_63 h373_))
      obtain ⟨h417_, ⟨h418_, h419_⟩⟩ := ((sm_VO_e h394_).2.2.2 (la_nativeWith_64 h373_))
      refine ⟨h346_, ?_⟩
      refine ⟨h11_, ?_⟩
      refine ⟨h348_, ?_⟩
      refine ⟨h349_, ?_⟩
      refine ⟨h350_, ?_⟩
      refine ⟨h351_, ?_⟩
      refine ⟨h352_, ?_⟩
      refine ⟨h17_, ?_⟩
      refine ⟨h18_, ?_⟩
      refine ⟨h19_, ?_⟩
      refine ⟨h356_, ?_⟩
      refine ⟨h357_, ?_⟩
      refine ⟨h22_, ?_⟩
      refine ⟨h380_, ?_⟩
      refine ⟨h359_, ?_⟩
      refine ⟨h25_, ?_⟩
      refine ⟨h26_, ?_⟩
      refine ⟨h27_, ?_⟩
      refine ⟨h28_, ?_⟩
      refine ⟨h29_, ?_⟩
      refine ⟨h30_, ?_⟩
      refine ⟨h31_, ?_⟩
      refine ⟨h32_, ?_⟩
      refine ⟨h33_, ?_⟩
      refine ⟨h34_, ?_⟩
      refine ⟨h35_, ?_⟩
      refine ⟨h36_, ?_⟩
      refine ⟨h37_, ?_⟩
      refine ⟨h38_, ?_⟩
      refine ⟨h384_, ?_⟩
      refine ⟨h366_, ?_⟩
      refine ⟨h41_, ?_⟩
      refine ⟨h42_, ?_⟩
      refine ⟨(la_nativeWith_67 h373_), ?_⟩
      refine ⟨h389_, ?_⟩
      refine ⟨h390_, ?_⟩
      refine ⟨(la_nativeWith_67 h373_), ?_⟩
      refine ⟨(sm_TC_t h392_ (la_nativeWith_67 h373_)), ?_⟩
      refine ⟨h393_, ?_⟩
      refine ⟨h394_, ?_⟩
      refine ⟨h395_, ?_⟩
      refine ⟨h396_, ?_⟩
      refine ⟨(la_nativeWith_67 h373_), ?_⟩
      refine ⟨(la_nativeWith_65 h373_), ?_⟩
      refine ⟨(la_nativeWith_68 h373_), ?_⟩
      refine ⟨(sm_SK_0 (la_nativeWith_69 h373_)), ?_⟩
      refine ⟨h56_, ?_⟩
      refine ⟨h57_, ?_⟩
      refine ⟨h58_, ?_⟩
      refine ⟨(la_nativeWith_67 h373_), ?_⟩
      exact (sm_VO_eq h394_ (la_nativeWith_67 h373_) (la_nativeWith_67 h373_))
    refine ⟨la_nativeWith_30, ?_⟩
    exact la_nativeWith_58
  refine ⟨?_, ?_⟩
  · skip
    intro h420_
    refine ⟨la_nativeWith_70, ?_⟩
    intro h421_
    obtain ⟨h422_, ⟨h423_, h424_⟩⟩ := ((sm_VO_e h65_).2.2.2 (la_nativeWith_72 (sm_VO_e h65_).2.1 h421_))
    refine ⟨(la_nativeWith_73 h421_), ?_⟩
    intro h425_
    refine ⟨(la_nativeWith_74 h16_ h422_ h423_), ?_⟩
    intro h426_
    refine ⟨la_nativeWith_75, ?_⟩
    intro h427_
    refine ⟨la_nativeWith_3, ?_⟩
    intro h428_
    refine ⟨(la_nativeWith_77 h64_ h420_ h421_), ?_⟩
    refine ⟨(la_nativeWith_78 (sm_VO_e h65_).2.1 h421_), ?_⟩
    intro h429_
    intro h430_
    exact (la_nativeWith_79 h427_ (la_nativeWith_12 (la_nativeWith_76 h427_) h424_))
  intro h431_
  have h432_ := (h64_.resolve_left (la_nativeWith_80 h431_))
  have h433_ := (h432_.resolve_left (la_nativeWith_81 h431_))
  have h434_ := (h433_.resolve_left (la_nativeWith_82 h431_))
  refine ⟨la_nativeWith_83, ?_⟩
  intro h435_
  obtain ⟨h436_, h437_⟩ := ((sm_VO_e h65_).2.2.1 (la_nativeWith_84 h435_))
  refine ⟨la_nativeWith_3, ?_⟩
  intro h438_
  refine ⟨(la_nativeWith_86 h435_), ?_⟩
  refine ⟨(la_nativeWith_87 h431_ h434_ h435_), ?_⟩
  intro h439_
  intro h440_
  exact ((la_nativeWith_92 h431_ (la_nativeWith_91 (la_nativeWith_90 h431_ (la_nativeWith_89 (la_nativeWith_88 h431_) h439_)) h440_))).elim
set_option maxRecDepth 8000 in
set_option maxHeartbeats 2000000 in
theorem t_nativeWith : ∀ (p1 : Int) (p2 : Int) (p3 : Int) (p4 : Int) (p5 : Int) (S : sv_S), sm_ok S → sv_R p1 → sv_R p2 → sv_R p3 → sv_R p4 → sv_R p5 → ((S 1075 0) = 0 ∧ (S 1073 0) = 1 ∧ sm_LX (S 58) (S 63) (S 64) (S 1092 0) (S 1076 0) ∧ sm_PL (S 1100020) (S 51) (S 52) (S 46) (S 47) (S 1076 0) (S 1086 0) ∧ sm_FR (S 1100020) (S 52) (S 1100021) (S 1100022) (3000 - (S 1084 0)) (S 1085 0) ∧ sm_PV (S 1100020) (S 48) (S 49) (S 50) (S 44) (S 1076 0) (S 1007 0) ∧ sm_AL (S 1100020) (S 48) (S 49) (S 50) (S 44) (S 1076 0) (S 1100032 0) ∧ sm_SV (S 1100020) (S 48) (S 1100029) (S 32) (S 33) (S 1076 0) (S 1032 0) ∧ 0 ≤ (S 1076 0) ∧ (S 1076 0) ≤ 300 ∧ 0 ≤ (S 1084 0) ∧ (S 1084 0) ≤ 3000 ∧ 0 ≤ (S 1086 0) ∧ sm_SC (S 1100029) (S 44) (S 45) (S 43) (S 21) (S 1076 0) (S 1032 0) ∧ sm_PO (S 42) (S 1076 0) ∧ (S 1100032 0) = -1 ∧ sm_FO (S 44) (S 45) (S 1076 0) ∧ 23 ≤ (S 1076 0) ∧ 31 ≤ (S 1007 0) ∧ (S 1007 0) ≤ 400 ∧ sm_LN (S 4) 400 (S 1007 0) ∧ sm_CT (S 26) (S 27) (S 28) (S 29) (S 1100007) (S 1100023) (S 1100024) (S 1100025) (S 21) (S 1046 0) (S 1032 0) (S 1008 0) (S 1055 0) ∧ sm_LS (S 26) (S 1100007) (S 1100025) (S 1046 0) ∧ sm_CL (S 1100007) (S 1100023) (S 1100025) (S 1046 0) ∧ 1 ≤ (S 1032 0) ∧ (S 1032 0) ≤ 11 ∧ 0 ≤ (S 1046 0) ∧ (S 1046 0) ≤ 600 ∧ 31 ≤ (S 1008 0) ∧ (S 1008 0) ≤ (S 1007 0) ∧ 0 ≤ (S 1055 0) ∧ (S 1055 0) ≤ 19 ∧ 1 ≤ (S 1092 0) ∧ (S 1092 0) ≤ 24 ∧ 0 ≤ (S 1100033 0) ∧ (S 1100033 0) < (S 1046 0) ∧ (S 29 (S 1100033 0)) = (S 53 ((S 1092 0) - 1)) ∧ 0 ≤ (S 53 ((S 1092 0) - 1)) ∧ (S 53 ((S 1092 0) - 1)) < (S 1032 0) ∧ (S 60 ((S 1092 0) - 1)) = sm_dp (S 1100024) (S 1100023 (S 1100033 0)) ∧ sm_TC (S 61) (S 62) (S 27) (S 1100007) (S 1100023) (S 1100024) (40 * ((S 1092 0) - 1)) (S 1100023 (S 1100033 0)) ∧ sm_LK (S 1100029) (S 1076 0) (S 54 ((S 1092 0) - 1)) (S 53 ((S 1092 0) - 1)) ∧ sm_VO (S 44) (S 1076 0) (S 1007 0) ((S 55 ((S 1092 0) - 1))) ((S 56 ((S 1092 0) - 1))) ∧ sm_FW (S 44) (S 1076 0) (S 59 ((S 1092 0) - 1)) ∧ sm_FL (S 53) (S 54) (S 55) (S 56) (S 57) (S 58) (S 59) (S 60) (S 61) (S 62) (S 63) (S 64) (S 27) (S 29) (S 1100007) (S 1100023) (S 1100024) (S 1100025) (S 26) (S 1100029) (S 44) (S 1046 0) (S 1032 0) (S 1076 0) (S 1007 0) (((S 1092 0) - 1)) ∧ (S 57 ((S 1092 0) - 1)) = (S 1100033 0) ∧ 0 ≤ (S 58 ((S 1092 0) - 1)) ∧ (S 58 ((S 1092 0) - 1)) ≤ 400 ∧ sm_SK (S 63) (S 64) (S 44) (S 1100007) (S 1100025) (S 1076 0) (S 1007 0) (400 * ((S 1092 0) - 1)) ((S 58 ((S 1092 0) - 1))) ((S 1100034 0)) ∧ -1 ≤ (S 1100034 0) ∧ (S 1100034 0) < (S 1046 0) ∧ (0 ≤ (S 1100034 0) → (S 26 (S 1100034 0)) = 29) ∧ (S 58 ((S 1092 0) - 1)) = (S 1100007 (S 1100033 0)) ∧ (S 1100034 0) = (S 1100025 (S 1100033 0)) ∧ (0 ≤ (S 1100023 (S 1100033 0)) → (S 1100007 (S 1100023 (S 1100033 0))) ≤ (S 58 ((S 1092 0) - 1))) ∧ (S 58 ((S 1092 0) - 1)) ≤ 396 ∧ (S 1086 0) ≤ 1900000000 ∧ (p1 = 18 ∨ p1 = 19 ∨ p1 = 21 ∨ p1 = 22) ∧ sm_VO (S 44) (S 1076 0) (S 1007 0) (p2) (p3) ∧ sm_VO (S 44) (S 1076 0) (S 1007 0) (p4) (p5)) → sv_T sm_XS sm_cs sm_L sm_sh 5 (q_nativeWith p1 p2 p3 p4 p5 S) 187 0 (lv_args 0 [.ref 0, sv_I p1, sv_I p2, sv_I p3, sv_I p4, sv_I p5]) [] S := by
  intro p1 p2 p3 p4 p5 S hok hp1 hp2 hp3 hp4 hp5 hpre
  have h := f_nativeWith p1 p2 p3 p4 p5 S hok hp1 hp2 hp3 hp4 hp5 hpre
  have hM := sm_h187
  show sv_T sm_XS sm_cs sm_L sm_sh 5 (q_nativeWith p1 p2 p3 p4 p5 S) 187 0 [(0, .ref 0), (1, sv_I p1), (2, sv_I p2), (3, sv_I p3), (4, sv_I p4), (5, sv_I p5)] [] S
  have J43 : ∀ s1 : Int, sv_R s1 → ((s1 = 0 ∨ s1 = 1) ∧ (s1 = 1 → (p1 = 22 → p2 = 6) ∧ (¬ p1 = 22 → p2 = 7) ∧ (¬ p1 = 22 → ¬ p1 = 21 → (S 44 p3) = 2))) → sv_T sm_XS sm_cs sm_L sm_sh 5 (q_nativeWith p1 p2 p3 p4 p5 S) 187 47 [(0, .ref 0), (1, sv_I p1), (2, sv_I p2), (3, sv_I p3), (4, sv_I p4), (5, sv_I p5)] [sv_I s1] S := by
    intro s1 hs1 hin2
    have h := h.1 s1 hs1 hin2
    refine sv_istore hM dX12_nativeWith_47 (by decide) rfl ?_
    show sv_T sm_XS sm_cs sm_L sm_sh 5 (q_nativeWith p1 p2 p3 p4 p5 S) 187 49 [(0, .ref 0), (1, sv_I p1), (2, sv_I p2), (3, sv_I p3), (4, sv_I p4), (5, sv_I p5), (6, sv_I s1)] [] S
    refine sv_iload hM dX12_nativeWith_49 rfl rfl ?_
    refine sv_cond_ne hM dX12_nativeWith_51 hs1 (t := 62) rfl rfl (fun hc => ?_) (fun hc => ?_)
    · have h := h.1 (hc)
      have J8 : ∀ g3 : sv_S, sm_ok (sv_sts S [5, 1011, 3, 4, 1007, 1084, 1085, 48, 1086, 51, 52, 46, 47, 49, 50, 1075, 1100020, 1100021, 1100022, 1111, 1112, 1113] g3) → (sm_PL (g3 1100020) (g3 51) (g3 52) (g3 46) (g3 47) (S 1076 0) (g3 1086 0) ∧ sm_FR (g3 1100020) (g3 52) (g3 1100021) (g3 1100022) (3000 - (g3 1084 0)) (g3 1085 0) ∧ sm_PV (g3 1100020) (g3 48) (g3 49) (g3 50) (S 44) (S 1076 0) (g3 1007 0) ∧ sm_AL (g3 1100020) (g3 48) (g3 49) (g3 50) (S 44) (S 1076 0) (S 1100032 0) ∧ sm_SV (g3 1100020) (g3 48) (S 1100029) (S 32) (S 33) (S 1076 0) (S 1032 0) ∧ 0 ≤ (S 1076 0) ∧ (S 1076 0) ≤ 300 ∧ 0 ≤ (g3 1084 0) ∧ (g3 1084 0) ≤ 3000 ∧ 0 ≤ (g3 1086 0) ∧ sm_SC (S 1100029) (S 44) (S 45) (S 43) (S 21) (S 1076 0) (S 1032 0) ∧ sm_PO (S 42) (S 1076 0) ∧ ((g3 1075 0) = 0 → (S 1100032 0) = -1 ∧ sm_FO (S 44) (S 45) (S 1076 0)) ∧ 23 ≤ (S 1076 0) ∧ 31 ≤ (g3 1007 0) ∧ (g3 1007 0) ≤ 400 ∧ sm_LN (g3 4) 400 (g3 1007 0) ∧ (S 1008 0) ≤ (g3 1007 0) ∧ ((S 1075 0) = 1 → (g3 1075 0) = 1) ∧ 0 ≤ (S 1092 0) ∧ (S 1092 0) ≤ 24 ∧ (S 1007 0) ≤ (g3 1007 0) ∧ (¬ (g3 1075 0) = 0 → sm_LX (S 58) (S 63) (S 64) (S 1092 0) (S 1076 0)) ∧ (S 1073 0) = 1 ∧ ((g3 1075 0) = 0 → sm_PL (g3 1100020) (g3 51) (g3 52) (g3 46) (g3 47) (S 1076 0) (g3 1086 0) ∧ sm_FR (g3 1100020) (g3 52) (g3 1100021) (g3 1100022) (3000 - (g3 1084 0)) (g3 1085 0) ∧ sm_PV (g3 1100020) (g3 48) (g3 49) (g3 50) (S 44) (S 1076 0) (g3 1007 0) ∧ sm_AL (g3 1100020) (g3 48) (g3 49) (g3 50) (S 44) (S 1076 0) (S 1100032 0) ∧ sm_SV (g3 1100020) (g3 48) (S 1100029) (S 32) (S 33) (S 1076 0) (S 1032 0) ∧ 0 ≤ (S 1076 0) ∧ (S 1076 0) ≤ 300 ∧ 0 ≤ (g3 1084 0) ∧ (g3 1084 0) ≤ 3000 ∧ 0 ≤ (g3 1086 0) ∧ sm_SC (S 1100029) (S 44) (S 45) (S 43) (S 21) (S 1076 0) (S 1032 0) ∧ sm_PO (S 42) (S 1076 0) ∧ (S 1100032 0) = -1 ∧ sm_FO (S 44) (S 45) (S 1076 0) ∧ 23 ≤ (S 1076 0) ∧ 31 ≤ (g3 1007 0) ∧ (g3 1007 0) ≤ 400 ∧ sm_LN (g3 4) 400 (g3 1007 0) ∧ sm_CT (S 26) (S 27) (S 28) (S 29) (S 1100007) (S 1100023) (S 1100024) (S 1100025) (S 21) (S 1046 0) (S 1032 0) (S 1008 0) (S 1055 0) ∧ sm_LS (S 26) (S 1100007) (S 1100025) (S 1046 0) ∧ sm_CL (S 1100007) (S 1100023) (S 1100025) (S 1046 0) ∧ 1 ≤ (S 1032 0) ∧ (S 1032 0) ≤ 11 ∧ 0 ≤ (S 1046 0) ∧ (S 1046 0) ≤ 600 ∧ 31 ≤ (S 1008 0) ∧ (S 1008 0) ≤ (g3 1007 0) ∧ 0 ≤ (S 1055 0) ∧ (S 1055 0) ≤ 19 ∧ 1 ≤ (S 1092 0) ∧ (S 1092 0) ≤ 24 ∧ 0 ≤ (S 1100033 0) ∧ (S 1100033 0) < (S 1046 0) ∧ (S 29 (S 1100033 0)) = (S 53 ((S 1092 0) - 1)) ∧ 0 ≤ (S 53 ((S 1092 0) - 1)) ∧ (S 53 ((S 1092 0) - 1)) < (S 1032 0) ∧ (S 60 ((S 1092 0) - 1)) = sm_dp (S 1100024) (S 1100023 (S 1100033 0)) ∧ sm_TC (S 61) (S 62) (S 27) (S 1100007) (S 1100023) (S 1100024) (40 * ((S 1092 0) - 1)) (S 1100023 (S 1100033 0)) ∧ sm_LK (S 1100029) (S 1076 0) (S 54 ((S 1092 0) - 1)) (S 53 ((S 1092 0) - 1)) ∧ sm_VO (S 44) (S 1076 0) (g3 1007 0) ((S 55 ((S 1092 0) - 1))) ((S 56 ((S 1092 0) - 1))) ∧ sm_FW (S 44) (S 1076 0) (S 59 ((S 1092 0) - 1)) ∧ sm_FL (S 53) (S 54) (S 55) (S 56) (S 57) (S 58) (S 59) (S 60) (S 61) (S 62) (S 63) (S 64) (S 27) (S 29) (S 1100007) (S 1100023) (S 1100024) (S 1100025) (S 26) (S 1100029) (S 44) (S 1046 0) (S 1032 0) (S 1076 0) (g3 1007 0) (((S 1092 0) - 1)) ∧ (S 57 ((S 1092 0) - 1)) = (S 1100033 0) ∧ 0 ≤ (S 58 ((S 1092 0) - 1)) ∧ (S 58 ((S 1092 0) - 1)) ≤ 400 ∧ sm_SK (S 63) (S 64) (S 44) (S 1100007) (S 1100025) (S 1076 0) (g3 1007 0) (400 * ((S 1092 0) - 1)) ((S 58 ((S 1092 0) - 1))) ((S 1100034 0)) ∧ -1 ≤ (S 1100034 0) ∧ (S 1100034 0) < (S 1046 0) ∧ (0 ≤ (S 1100034 0) → (S 26 (S 1100034 0)) = 29) ∧ (S 58 ((S 1092 0) - 1)) = (S 58 ((S 1092 0) - 1)) ∧ sm_VO (S 44) (S 1076 0) (g3 1007 0) ((g3 1111 0)) ((g3 1112 0))) ∧ (S 1086 0) ≤ (g3 1086 0) ∧ (g3 1086 0) ≤ (S 1086 0) + 3) → sv_T sm_XS sm_cs sm_L sm_sh 5 (q_nativeWith p1 p2 p3 p4 p5 S) 187 121 [(0, .ref 0), (1, sv_I p1), (2, sv_I p2), (3, sv_I p3), (4, sv_I p4), (5, sv_I p5), (6, sv_I s1)] [] (sv_sts S [5, 1011, 3, 4, 1007, 1084, 1085, 48, 1086, 51, 52, 46, 47, 49, 50, 1075, 1100020, 1100021, 1100022, 1111, 1112, 1113] g3) := by
        intro  g3 ok4 hin5
        have h := h.1 g3 hin5
        have md6 : sv_mod [1076, 41, 42, 43, 44, 45, 46, 47, 1075, 1100029, 1092, 60, 58, 57, 63, 64, 1073, 1109, 1110, 1111, 1112, 5, 1011, 3, 4, 1007, 1084, 1085, 48, 1086, 51, 52, 49, 50, 1100020, 1100021, 1100022, 1113] S (sv_sts S [5, 1011, 3, 4, 1007, 1084, 1085, 48, 1086, 51, 52, 46, 47, 49, 50, 1075, 1100020, 1100021, 1100022, 1111, 1112, 1113] g3) := sv_mod.sts sv_mod.rf (by decide)
        have md7 : sv_mod [5, 1011, 3, 4, 1007, 1084, 1085, 48, 1086, 51, 52, 46, 47, 49, 50, 1075, 1100020, 1100021, 1100022, 1111, 1112, 1113] S (sv_sts S [5, 1011, 3, 4, 1007, 1084, 1085, 48, 1086, 51, 52, 46, 47, 49, 50, 1075, 1100020, 1100021, 1100022, 1111, 1112, 1113] g3) := sv_mod.sts sv_mod.rf (by decide)
        refine sv_iconst (d := (1 : Int)) hM dX12_nativeWith_121 rfl rfl ?_
        exact sv_iret hM dX12_nativeWith_122 rfl (sv_nz (⟨by decide, by decide⟩ : 0 ≤ (1 : Int) ∧ (1 : Int) ≤ 1)) ⟨(1 : Int), rfl, sv_R01 (⟨by decide, by decide⟩ : 0 ≤ (1 : Int) ∧ (1 : Int) ≤ 1), ok4, md6, h⟩
      have h := h.2
      refine sv_iload_n hM dX12_nativeWith_62 rfl rfl ?_
      refine sv_bipush (d := (18 : Int)) hM dX12_nativeWith_63 rfl rfl ?_
      refine sv_icmp_ne hM dX12_nativeWith_65 hp1 (⟨by decide, by decide⟩ : sv_R (18 : Int)) (t := 80) rfl rfl (fun hc => ?_) (fun hc => ?_)
      · have h := h.1 (hc)
        refine sv_iload_n hM dX12_nativeWith_80 rfl rfl ?_
        refine sv_bipush (d := (19 : Int)) hM dX12_nativeWith_81 rfl rfl ?_
        refine sv_icmp_ne hM dX12_nativeWith_83 hp1 (⟨by decide, by decide⟩ : sv_R (19 : Int)) (t := 94) rfl rfl (fun hc => ?_) (fun hc => ?_)
        · have h := h.1 (hc)
          refine sv_iload_n hM dX12_nativeWith_94 rfl rfl ?_
          refine sv_bipush (d := (21 : Int)) hM dX12_nativeWith_95 rfl rfl ?_
          refine sv_icmp_ne hM dX12_nativeWith_97 hp1 (⟨by decide, by decide⟩ : sv_R (21 : Int)) (t := 112) rfl rfl (fun hc => ?_) (fun hc => ?_)
          · have h := h.1 (hc)
            refine sv_aload_n hM dX12_nativeWith_112 rfl rfl ?_
            refine sv_iload_n hM dX12_nativeWith_113 rfl rfl ?_
            refine sv_iload hM dX12_nativeWith_114 rfl rfl ?_
            refine sv_iload hM dX12_nativeWith_116 rfl rfl ?_
            obtain ⟨o9, h⟩ := h
            refine sv_callV hM dX12_nativeWith_118 sm_iv_1032 (by decide) (sm_a0 _) rfl rfl (Nat.le_of_ble_eq_true rfl) sm_h191 (Nat.le_of_ble_eq_true rfl) (Nat.le_of_ble_eq_true rfl) (F' := 3) (Nat.le_of_ble_eq_true rfl) rfl (t_charAt p3 p4 p5 S hok hp3 hp4 hp5 o9) (fun v S1 hq => ?_)
            obtain ⟨rfl, ok11, md12, hpo13⟩ := hq
            obtain ⟨g10, rfl⟩ : ∃ g, S1 = sv_sts S [5, 1011, 3, 4, 1007, 1075, 1113, 1111, 1112] g := ⟨_, md12.eq⟩
            show sv_T sm_XS sm_cs sm_L sm_sh 5 (q_nativeWith p1 p2 p3 p4 p5 S) 187 121 [(0, .ref 0), (1, sv_I p1), (2, sv_I p2), (3, sv_I p3), (4, sv_I p4), (5, sv_I p5), (6, sv_I s1)] [] (sv_sts S [5, 1011, 3, 4, 1007, 1075, 1113, 1111, 1112] g10)
            have md14 : sv_mod [1076, 41, 42, 43, 44, 45, 46, 47, 1075, 1100029, 1092, 60, 58, 57, 63, 64, 1073, 1109, 1110, 1111, 1112, 5, 1011, 3, 4, 1007, 1084, 1085, 48, 1086, 51, 52, 49, 50, 1100020, 1100021, 1100022, 1113] S (sv_sts S [5, 1011, 3, 4, 1007, 1075, 1113, 1111, 1112] g10) := sv_mod.sts sv_mod.rf (by decide)
            have md15 : sv_mod [5, 1011, 3, 4, 1007, 1084, 1085, 48, 1086, 51, 52, 46, 47, 49, 50, 1075, 1100020, 1100021, 1100022, 1111, 1112, 1113] S (sv_sts S [5, 1011, 3, 4, 1007, 1075, 1113, 1111, 1112] g10) := sv_mod.sts (sv_mod.rf (l := [5, 1011, 3, 4, 1007, 1084, 1085, 48, 1086, 51, 52, 46, 47, 49, 50, 1075, 1100020, 1100021, 1100022, 1111, 1112, 1113]) (S := S)) (by decide)
            have h := h g10 hpo13
            have eS := sv_mod.eq md15
            have hb := J8 (sv_sts S [5, 1011, 3, 4, 1007, 1075, 1113, 1111, 1112] g10) (by rw [← eS]; exact ok11) h
            have hb : sv_T sm_XS sm_cs sm_L sm_sh 5 (q_nativeWith p1 p2 p3 p4 p5 S) 187 121 [(0, .ref 0), (1, sv_I p1), (2, sv_I p2), (3, sv_I p3), (4, sv_I p4), (5, sv_I p5), (6, sv_I s1)] [] (sv_sts S [5, 1011, 3, 4, 1007, 1075, 1113, 1111, 1112] g10) := Eq.mpr (congrArg (fun Z => sv_T sm_XS sm_cs sm_L sm_sh 5 (q_nativeWith p1 p2 p3 p4 p5 S) 187 121 [(0, .ref 0), (1, sv_I p1), (2, sv_I p2), (3, sv_I p3), (4, sv_I p4), (5, sv_I p5), (6, sv_I s1)] [] Z) eS) hb
            exact sv_less (lv := [(0, .ref 0), (1, sv_I p1), (2, sv_I p2), (3, sv_I p3), (4, sv_I p4), (5, sv_I p5), (6, sv_I s1)]) (sv_Sub_cons rfl (sv_Sub_cons rfl (sv_Sub_cons rfl (sv_Sub_cons rfl (sv_Sub_cons rfl (sv_Sub_cons rfl (sv_Sub_cons rfl sv_Sub_nil))))))) hb
          · have h := h.2 (hc)
            refine sv_aload_n hM dX12_nativeWith_100 rfl rfl ?_
            refine sv_iload_n hM dX12_nativeWith_101 rfl rfl ?_
            refine sv_iload hM dX12_nativeWith_102 rfl rfl ?_
            refine sv_iload hM dX12_nativeWith_104 rfl rfl ?_
            obtain ⟨o16, h⟩ := h
            refine sv_callV hM dX12_nativeWith_106 sm_iv_1029 (by decide) (sm_a0 _) rfl rfl (Nat.le_of_ble_eq_true rfl) sm_h190 (Nat.le_of_ble_eq_true rfl) (Nat.le_of_ble_eq_true rfl) (F' := 4) (Nat.le_of_ble_eq_true rfl) rfl (t_hasOwn p3 p4 p5 S hok hp3 hp4 hp5 o16) (fun v S1 hq => ?_)
            obtain ⟨rfl, ok18, md19, hpo20⟩ := hq
            obtain ⟨g17, rfl⟩ : ∃ g, S1 = sv_sts S [5, 1011, 3, 4, 1007, 1075, 1111, 1112] g := ⟨_, md19.eq⟩
            show sv_T sm_XS sm_cs sm_L sm_sh 5 (q_nativeWith p1 p2 p3 p4 p5 S) 187 109 [(0, .ref 0), (1, sv_I p1), (2, sv_I p2), (3, sv_I p3), (4, sv_I p4), (5, sv_I p5), (6, sv_I s1)] [] (sv_sts S [5, 1011, 3, 4, 1007, 1075, 1111, 1112] g17)
            have md21 : sv_mod [1076, 41, 42, 43, 44, 45, 46, 47, 1075, 1100029, 1092, 60, 58, 57, 63, 64, 1073, 1109, 1110, 1111, 1112, 5, 1011, 3, 4, 1007, 1084, 1085, 48, 1086, 51, 52, 49, 50, 1100020, 1100021, 1100022, 1113] S (sv_sts S [5, 1011, 3, 4, 1007, 1075, 1111, 1112] g17) := sv_mod.sts sv_mod.rf (by decide)
            have md22 : sv_mod [5, 1011, 3, 4, 1007, 1084, 1085, 48, 1086, 51, 52, 46, 47, 49, 50, 1075, 1100020, 1100021, 1100022, 1111, 1112, 1113] S (sv_sts S [5, 1011, 3, 4, 1007, 1075, 1111, 1112] g17) := sv_mod.sts (sv_mod.rf (l := [5, 1011, 3, 4, 1007, 1084, 1085, 48, 1086, 51, 52, 46, 47, 49, 50, 1075, 1100020, 1100021, 1100022, 1111, 1112, 1113]) (S := S)) (by decide)
            have h := h g17 hpo20
            refine sv_goto hM dX12_nativeWith_109 (pc' := 121) rfl ?_
            have eS := sv_mod.eq md22
            have hb := J8 (sv_sts S [5, 1011, 3, 4, 1007, 1075, 1111, 1112] g17) (by rw [← eS]; exact ok18) h
            have hb : sv_T sm_XS sm_cs sm_L sm_sh 5 (q_nativeWith p1 p2 p3 p4 p5 S) 187 121 [(0, .ref 0), (1, sv_I p1), (2, sv_I p2), (3, sv_I p3), (4, sv_I p4), (5, sv_I p5), (6, sv_I s1)] [] (sv_sts S [5, 1011, 3, 4, 1007, 1075, 1111, 1112] g17) := Eq.mpr (congrArg (fun Z => sv_T sm_XS sm_cs sm_L sm_sh 5 (q_nativeWith p1 p2 p3 p4 p5 S) 187 121 [(0, .ref 0), (1, sv_I p1), (2, sv_I p2), (3, sv_I p3), (4, sv_I p4), (5, sv_I p5), (6, sv_I s1)] [] Z) eS) hb
            exact sv_less (lv := [(0, .ref 0), (1, sv_I p1), (2, sv_I p2), (3, sv_I p3), (4, sv_I p4), (5, sv_I p5), (6, sv_I s1)]) (sv_Sub_cons rfl (sv_Sub_cons rfl (sv_Sub_cons rfl (sv_Sub_cons rfl (sv_Sub_cons rfl (sv_Sub_cons rfl (sv_Sub_cons rfl sv_Sub_nil))))))) hb
        · have h := h.2 (hc)
          refine sv_aload_n hM dX12_nativeWith_86 rfl rfl ?_
          refine sv_iload_n hM dX12_nativeWith_87 rfl rfl ?_
          obtain ⟨o23, h⟩ := h
          refine sv_callV hM dX12_nativeWith_88 sm_iv_1026 (by decide) (sm_a0 _) rfl rfl (Nat.le_of_ble_eq_true rfl) sm_h189 (Nat.le_of_ble_eq_true rfl) (Nat.le_of_ble_eq_true rfl) (F' := 4) (Nat.le_of_ble_eq_true rfl) rfl (t_pop p3 S hok hp3 o23) (fun v S1 hq => ?_)
          obtain ⟨rfl, ok25, md26, hpo27⟩ := hq
          obtain ⟨g24, rfl⟩ : ∃ g, S1 = sv_sts S [5, 1011, 3, 4, 1007, 1084, 1085, 48, 1086, 51, 52, 46, 47, 49, 50, 1075, 1100020, 1100021, 1100022, 1111, 1112] g := ⟨_, md26.eq⟩
          show sv_T sm_XS sm_cs sm_L sm_sh 5 (q_nativeWith p1 p2 p3 p4 p5 S) 187 91 [(0, .ref 0), (1, sv_I p1), (2, sv_I p2), (3, sv_I p3), (4, sv_I p4), (5, sv_I p5), (6, sv_I s1)] [] (sv_sts S [5, 1011, 3, 4, 1007, 1084, 1085, 48, 1086, 51, 52, 46, 47, 49, 50, 1075, 1100020, 1100021, 1100022, 1111, 1112] g24)
          have md28 : sv_mod [1076, 41, 42, 43, 44, 45, 46, 47, 1075, 1100029, 1092, 60, 58, 57, 63, 64, 1073, 1109, 1110, 1111, 1112, 5, 1011, 3, 4, 1007, 1084, 1085, 48, 1086, 51, 52, 49, 50, 1100020, 1100021, 1100022, 1113] S (sv_sts S [5, 1011, 3, 4, 1007, 1084, 1085, 48, 1086, 51, 52, 46, 47, 49, 50, 1075, 1100020, 1100021, 1100022, 1111, 1112] g24) := sv_mod.sts sv_mod.rf (by decide)
          have md29 : sv_mod [5, 1011, 3, 4, 1007, 1084, 1085, 48, 1086, 51, 52, 46, 47, 49, 50, 1075, 1100020, 1100021, 1100022, 1111, 1112, 1113] S (sv_sts S [5, 1011, 3, 4, 1007, 1084, 1085, 48, 1086, 51, 52, 46, 47, 49, 50, 1075, 1100020, 1100021, 1100022, 1111, 1112] g24) := sv_mod.sts (sv_mod.rf (l := [5, 1011, 3, 4, 1007, 1084, 1085, 48, 1086, 51, 52, 46, 47, 49, 50, 1075, 1100020, 1100021, 1100022, 1111, 1112, 1113]) (S := S)) (by decide)
          have h := h g24 hpo27
          refine sv_goto hM dX12_nativeWith_91 (pc' := 121) rfl ?_
          have eS := sv_mod.eq md29
          have hb := J8 (sv_sts S [5, 1011, 3, 4, 1007, 1084, 1085, 48, 1086, 51, 52, 46, 47, 49, 50, 1075, 1100020, 1100021, 1100022, 1111, 1112] g24) (by rw [← eS]; exact ok25) h
          have hb : sv_T sm_XS sm_cs sm_L sm_sh 5 (q_nativeWith p1 p2 p3 p4 p5 S) 187 121 [(0, .ref 0), (1, sv_I p1), (2, sv_I p2), (3, sv_I p3), (4, sv_I p4), (5, sv_I p5), (6, sv_I s1)] [] (sv_sts S [5, 1011, 3, 4, 1007, 1084, 1085, 48, 1086, 51, 52, 46, 47, 49, 50, 1075, 1100020, 1100021, 1100022, 1111, 1112] g24) := Eq.mpr (congrArg (fun Z => sv_T sm_XS sm_cs sm_L sm_sh 5 (q_nativeWith p1 p2 p3 p4 p5 S) 187 121 [(0, .ref 0), (1, sv_I p1), (2, sv_I p2), (3, sv_I p3), (4, sv_I p4), (5, sv_I p5), (6, sv_I s1)] [] Z) eS) hb
          exact sv_less (lv := [(0, .ref 0), (1, sv_I p1), (2, sv_I p2), (3, sv_I p3), (4, sv_I p4), (5, sv_I p5), (6, sv_I s1)]) (sv_Sub_cons rfl (sv_Sub_cons rfl (sv_Sub_cons rfl (sv_Sub_cons rfl (sv_Sub_cons rfl (sv_Sub_cons rfl (sv_Sub_cons rfl sv_Sub_nil))))))) hb
      · have h := h.2 (hc)
        refine sv_aload_n hM dX12_nativeWith_68 rfl rfl ?_
        refine sv_iload_n hM dX12_nativeWith_69 rfl rfl ?_
        refine sv_iload hM dX12_nativeWith_70 rfl rfl ?_
        refine sv_iload hM dX12_nativeWith_72 rfl rfl ?_
        obtain ⟨o30, h⟩ := h
        refine sv_callV hM dX12_nativeWith_74 sm_iv_1023 (by decide) (sm_a0 _) rfl rfl (Nat.le_of_ble_eq_true rfl) sm_h188 (Nat.le_of_ble_eq_true rfl) (Nat.le_of_ble_eq_true rfl) (F' := 4) (Nat.le_of_ble_eq_true rfl) rfl (t_pushInto p3 p4 p5 S hok hp3 hp4 hp5 o30) (fun v S1 hq => ?_)
        obtain ⟨rfl, ok32, md33, hpo34⟩ := hq
        obtain ⟨g31, rfl⟩ : ∃ g, S1 = sv_sts S [5, 1011, 3, 4, 1007, 1084, 1085, 48, 1086, 51, 52, 46, 47, 49, 50, 1075, 1100020, 1100021, 1100022, 1111, 1112] g := ⟨_, md33.eq⟩
        show sv_T sm_XS sm_cs sm_L sm_sh 5 (q_nativeWith p1 p2 p3 p4 p5 S) 187 77 [(0, .ref 0), (1, sv_I p1), (2, sv_I p2), (3, sv_I p3), (4, sv_I p4), (5, sv_I p5), (6, sv_I s1)] [] (sv_sts S [5, 1011, 3, 4, 1007, 1084, 1085, 48, 1086, 51, 52, 46, 47, 49, 50, 1075, 1100020, 1100021, 1100022, 1111, 1112] g31)
        have md35 : sv_mod [1076, 41, 42, 43, 44, 45, 46, 47, 1075, 1100029, 1092, 60, 58, 57, 63, 64, 1073, 1109, 1110, 1111, 1112, 5, 1011, 3, 4, 1007, 1084, 1085, 48, 1086, 51, 52, 49, 50, 1100020, 1100021, 1100022, 1113] S (sv_sts S [5, 1011, 3, 4, 1007, 1084, 1085, 48, 1086, 51, 52, 46, 47, 49, 50, 1075, 1100020, 1100021, 1100022, 1111, 1112] g31) := sv_mod.sts sv_mod.rf (by decide)
        have md36 : sv_mod [5, 1011, 3, 4, 1007, 1084, 1085, 48, 1086, 51, 52, 46, 47, 49, 50, 1075, 1100020, 1100021, 1100022, 1111, 1112, 1113] S (sv_sts S [5, 1011, 3, 4, 1007, 1084, 1085, 48, 1086, 51, 52, 46, 47, 49, 50, 1075, 1100020, 1100021, 1100022, 1111, 1112] g31) := sv_mod.sts (sv_mod.rf (l := [5, 1011, 3, 4, 1007, 1084, 1085, 48, 1086, 51, 52, 46, 47, 49, 50, 1075, 1100020, 1100021, 1100022, 1111, 1112, 1113]) (S := S)) (by decide)
        have h := h g31 hpo34
        refine sv_goto hM dX12_nativeWith_77 (pc' := 121) rfl ?_
        have eS := sv_mod.eq md36
        have hb := J8 (sv_sts S [5, 1011, 3, 4, 1007, 1084, 1085, 48, 1086, 51, 52, 46, 47, 49, 50, 1075, 1100020, 1100021, 1100022, 1111, 1112] g31) (by rw [← eS]; exact ok32) h
        have hb : sv_T sm_XS sm_cs sm_L sm_sh 5 (q_nativeWith p1 p2 p3 p4 p5 S) 187 121 [(0, .ref 0), (1, sv_I p1), (2, sv_I p2), (3, sv_I p3), (4, sv_I p4), (5, sv_I p5), (6, sv_I s1)] [] (sv_sts S [5, 1011, 3, 4, 1007, 1084, 1085, 48, 1086, 51, 52, 46, 47, 49, 50, 1075, 1100020, 1100021, 1100022, 1111, 1112] g31) := Eq.mpr (congrArg (fun Z => sv_T sm_XS sm_cs sm_L sm_sh 5 (q_nativeWith p1 p2 p3 p4 p5 S) 187 121 [(0, .ref 0), (1, sv_I p1), (2, sv_I p2), (3, sv_I p3), (4, sv_I p4), (5, sv_I p5), (6, sv_I s1)] [] Z) eS) hb
        exact sv_less (lv := [(0, .ref 0), (1, sv_I p1), (2, sv_I p2), (3, sv_I p3), (4, sv_I p4), (5, sv_I p5), (6, sv_I s1)]) (sv_Sub_cons rfl (sv_Sub_cons rfl (sv_Sub_cons rfl (sv_Sub_cons rfl (sv_Sub_cons rfl (sv_Sub_cons rfl (sv_Sub_cons rfl sv_Sub_nil))))))) hb
    · have h := h.2 (hc)
      refine sv_aload_n hM dX12_nativeWith_54 rfl rfl ?_
      refine sv_bipush (d := (6 : Int)) hM dX12_nativeWith_55 rfl rfl ?_
      obtain ⟨o37, h⟩ := h
      refine sv_callV hM dX12_nativeWith_57 sm_iv_966 (by decide) (sm_a0 _) rfl rfl (Nat.le_of_ble_eq_true rfl) sm_h157 (Nat.le_of_ble_eq_true rfl) (Nat.le_of_ble_eq_true rfl) (F' := 3) (Nat.le_of_ble_eq_true rfl) rfl (t_error (6 : Int) S hok (⟨by decide, by decide⟩ : sv_R (6 : Int)) o37) (fun v S1 hq => ?_)
      obtain ⟨rfl, ok39, md40, hpo41⟩ := hq
      obtain ⟨g38, rfl⟩ : ∃ g, S1 = sv_sts S [1076, 41, 42, 43, 44, 45, 46, 47, 1075, 1100029, 1092, 60, 58, 57, 63, 64, 1073, 1109, 1110] g := ⟨_, md40.eq⟩
      show sv_T sm_XS sm_cs sm_L sm_sh 5 (q_nativeWith p1 p2 p3 p4 p5 S) 187 60 [(0, .ref 0), (1, sv_I p1), (2, sv_I p2), (3, sv_I p3), (4, sv_I p4), (5, sv_I p5), (6, sv_I s1)] [] (sv_sts S [1076, 41, 42, 43, 44, 45, 46, 47, 1075, 1100029, 1092, 60, 58, 57, 63, 64, 1073, 1109, 1110] g38)
      have md42 : sv_mod [1076, 41, 42, 43, 44, 45, 46, 47, 1075, 1100029, 1092, 60, 58, 57, 63, 64, 1073, 1109, 1110, 1111, 1112, 5, 1011, 3, 4, 1007, 1084, 1085, 48, 1086, 51, 52, 49, 50, 1100020, 1100021, 1100022, 1113] S (sv_sts S [1076, 41, 42, 43, 44, 45, 46, 47, 1075, 1100029, 1092, 60, 58, 57, 63, 64, 1073, 1109, 1110] g38) := sv_mod.sts sv_mod.rf (by decide)
      have h := h g38 hpo41
      refine sv_iconst (d := (0 : Int)) hM dX12_nativeWith_60 rfl rfl ?_
      exact sv_iret hM dX12_nativeWith_61 rfl (sv_nz (⟨by decide, by decide⟩ : 0 ≤ (0 : Int) ∧ (0 : Int) ≤ 1)) ⟨(0 : Int), rfl, sv_R01 (⟨by decide, by decide⟩ : 0 ≤ (0 : Int) ∧ (0 : Int) ≤ 1), ok39, md42, h⟩
  have h := h.2
  refine sv_iload_n hM dX12_nativeWith_0 rfl rfl ?_
  refine sv_bipush (d := (22 : Int)) hM dX12_nativeWith_1 rfl rfl ?_
  refine sv_icmp_ne hM dX12_nativeWith_3 hp1 (⟨by decide, by decide⟩ : sv_R (22 : Int)) (t := 20) rfl rfl (fun hc => ?_) (fun hc => ?_)
  · have h := h.1 (hc)
    refine sv_iload_n hM dX12_nativeWith_20 rfl rfl ?_
    refine sv_bipush (d := (7 : Int)) hM dX12_nativeWith_21 rfl rfl ?_
    refine sv_icmp_ne hM dX12_nativeWith_23 hp2 (⟨by decide, by decide⟩ : sv_R (7 : Int)) (t := 46) rfl rfl (fun hc => ?_) (fun hc => ?_)
    · have h := h.1 (hc)
      refine sv_iconst (d := (0 : Int)) hM dX12_nativeWith_46 rfl rfl ?_
      have hb := J43 (0 : Int) (⟨by decide, by decide⟩ : sv_R (0 : Int)) h
      exact sv_less (lv := [(0, .ref 0), (1, sv_I p1), (2, sv_I p2), (3, sv_I p3), (4, sv_I p4), (5, sv_I p5)]) (sv_Sub_cons rfl (sv_Sub_cons rfl (sv_Sub_cons rfl (sv_Sub_cons rfl (sv_Sub_cons rfl (sv_Sub_cons rfl sv_Sub_nil)))))) hb
    · have h := h.2 (hc)
      refine sv_iload_n hM dX12_nativeWith_26 rfl rfl ?_
      refine sv_bipush (d := (21 : Int)) hM dX12_nativeWith_27 rfl rfl ?_
      refine sv_icmp_eq hM dX12_nativeWith_29 hp1 (⟨by decide, by decide⟩ : sv_R (21 : Int)) (t := 42) rfl rfl (fun hc => ?_) (fun hc => ?_)
      · have h := h.1 (hc)
        refine sv_iconst (d := (1 : Int)) hM dX12_nativeWith_42 rfl rfl ?_
        refine sv_goto hM dX12_nativeWith_43 (pc' := 47) rfl ?_
        have hb := J43 (1 : Int) (⟨by decide, by decide⟩ : sv_R (1 : Int)) h
        exact sv_less (lv := [(0, .ref 0), (1, sv_I p1), (2, sv_I p2), (3, sv_I p3), (4, sv_I p4), (5, sv_I p5)]) (sv_Sub_cons rfl (sv_Sub_cons rfl (sv_Sub_cons rfl (sv_Sub_cons rfl (sv_Sub_cons rfl (sv_Sub_cons rfl sv_Sub_nil)))))) hb
      · have h := h.2 (hc)
        refine sv_aload_n hM dX12_nativeWith_32 rfl rfl ?_
        refine sv_getA hM dX12_nativeWith_33 sm_fl_143 (sm_a0 _) sm_k80 rfl ?_
        refine sv_iload_n hM dX12_nativeWith_36 rfl rfl ?_
        obtain ⟨o44, h⟩ := h
        have k45 : sv_R (S 44 p3) := sm_okI hok sm_r44 p3
        have h := h k45
        refine sv_iald hM dX12_nativeWith_37 (sm_a44 _) (by decide) o44.1 o44.2 rfl (x := (S 44 p3)) rfl ?_
        refine sv_iconst (d := (2 : Int)) hM dX12_nativeWith_38 rfl rfl ?_
        refine sv_icmp_ne hM dX12_nativeWith_39 k45 (⟨by decide, by decide⟩ : sv_R (2 : Int)) (t := 46) rfl rfl (fun hc => ?_) (fun hc => ?_)
        · have h := h.1 (hc)
          refine sv_iconst (d := (0 : Int)) hM dX12_nativeWith_46 rfl rfl ?_
          have hb := J43 (0 : Int) (⟨by decide, by decide⟩ : sv_R (0 : Int)) h
          exact sv_less (lv := [(0, .ref 0), (1, sv_I p1), (2, sv_I p2), (3, sv_I p3), (4, sv_I p4), (5, sv_I p5)]) (sv_Sub_cons rfl (sv_Sub_cons rfl (sv_Sub_cons rfl (sv_Sub_cons rfl (sv_Sub_cons rfl (sv_Sub_cons rfl sv_Sub_nil)))))) hb
        · have h := h.2 (hc)
          refine sv_iconst (d := (1 : Int)) hM dX12_nativeWith_42 rfl rfl ?_
          refine sv_goto hM dX12_nativeWith_43 (pc' := 47) rfl ?_
          have hb := J43 (1 : Int) (⟨by decide, by decide⟩ : sv_R (1 : Int)) h
          exact sv_less (lv := [(0, .ref 0), (1, sv_I p1), (2, sv_I p2), (3, sv_I p3), (4, sv_I p4), (5, sv_I p5)]) (sv_Sub_cons rfl (sv_Sub_cons rfl (sv_Sub_cons rfl (sv_Sub_cons rfl (sv_Sub_cons rfl (sv_Sub_cons rfl sv_Sub_nil)))))) hb
  · have h := h.2 (hc)
    refine sv_iload_n hM dX12_nativeWith_6 rfl rfl ?_
    refine sv_bipush (d := (6 : Int)) hM dX12_nativeWith_7 rfl rfl ?_
    refine sv_icmp_ne hM dX12_nativeWith_9 hp2 (⟨by decide, by decide⟩ : sv_R (6 : Int)) (t := 16) rfl rfl (fun hc => ?_) (fun hc => ?_)
    · have h := h.1 (hc)
      refine sv_iconst (d := (0 : Int)) hM dX12_nativeWith_16 rfl rfl ?_
      refine sv_goto hM dX12_nativeWith_17 (pc' := 47) rfl ?_
      have hb := J43 (0 : Int) (⟨by decide, by decide⟩ : sv_R (0 : Int)) h
      exact sv_less (lv := [(0, .ref 0), (1, sv_I p1), (2, sv_I p2), (3, sv_I p3), (4, sv_I p4), (5, sv_I p5)]) (sv_Sub_cons rfl (sv_Sub_cons rfl (sv_Sub_cons rfl (sv_Sub_cons rfl (sv_Sub_cons rfl (sv_Sub_cons rfl sv_Sub_nil)))))) hb
    · have h := h.2 (hc)
      refine sv_iconst (d := (1 : Int)) hM dX12_nativeWith_12 rfl rfl ?_
      refine sv_goto hM dX12_nativeWith_13 (pc' := 47) rfl ?_
      have hb := J43 (1 : Int) (⟨by decide, by decide⟩ : sv_R (1 : Int)) h
      exact sv_less (lv := [(0, .ref 0), (1, sv_I p1), (2, sv_I p2), (3, sv_I p3), (4, sv_I p4), (5, sv_I p5)]) (sv_Sub_cons rfl (sv_Sub_cons rfl (sv_Sub_cons rfl (sv_Sub_cons rfl (sv_Sub_cons rfl (sv_Sub_cons rfl sv_Sub_nil)))))) hb
def q_nativeOf (p1 : Int) (p2 : Int) (p3 : Int) (p4 : Int) (S : sv_S) : Option Value → sv_S → Prop := fun v S' => v = none ∧ sm_ok S' ∧ sv_mod [1076, 41, 42, 43, 44, 45, 46, 47, 1075, 1100029, 1092, 60, 58, 57, 63, 64, 1073, 1109, 1110, 1111, 1112, 5, 1011, 3, 4, 1007, 1084, 1085, 48, 1086, 51, 52, 49, 50, 1100020, 1100021, 1100022, 1113, 1107, 67, 1100032] S S' ∧ (sm_PL (S' 1100020) (S' 51) (S' 52) (S' 46) (S' 47) (S' 1076 0) (S' 1086 0) ∧ sm_FR (S' 1100020) (S' 52) (S' 1100021) (S' 1100022) (3000 - (S' 1084 0)) (S' 1085 0) ∧ sm_PV (S' 1100020) (S' 48) (S' 49) (S' 50) (S' 44) (S' 1076 0) (S' 1007 0) ∧ sm_AL (S' 1100020) (S' 48) (S' 49) (S' 50) (S' 44) (S' 1076 0) (S' 1100032 0) ∧ sm_SV (S' 1100020) (S' 48) (S' 1100029) (S' 32) (S' 33) (S' 1076 0) (S' 1032 0) ∧ 0 ≤ (S' 1076 0) ∧ (S' 1076 0) ≤ 300 ∧ 0 ≤ (S' 1084 0) ∧ (S' 1084 0) ≤ 3000 ∧ 0 ≤ (S' 1086 0) ∧ sm_SC (S' 1100029) (S' 44) (S' 45) (S' 43) (S' 21) (S' 1076 0) (S' 1032 0) ∧ sm_PO (S' 42) (S' 1076 0) ∧ ((S' 1075 0) = 0 → (S' 1100032 0) = -1 ∧ sm_FO (S' 44) (S' 45) (S' 1076 0)) ∧ 23 ≤ (S' 1076 0) ∧ 31 ≤ (S' 1007 0) ∧ (S' 1007 0) ≤ 400 ∧ sm_LN (S' 4) 400 (S' 1007 0) ∧ (S' 1008 0) ≤ (S' 1007 0) ∧ ((S 1075 0) = 1 → (S' 1075 0) = 1) ∧ 0 ≤ (S' 1092 0) ∧ (S' 1092 0) ≤ 24 ∧ (S 1007 0) ≤ (S' 1007 0) ∧ (¬ (S' 1075 0) = 0 → sm_LX (S' 58) (S' 63) (S' 64) (S' 1092 0) (S' 1076 0)) ∧ ((S' 1075 0) = 0 → (S' 1073 0) = 1 → 1 ≤ (S' 1092 0) ∧ (S' 1092 0) ≤ 24 ∧ 0 ≤ (S' 57 ((S' 1092 0) - 1)) ∧ (S' 57 ((S' 1092 0) - 1)) < (S' 1046 0) ∧ (S' 29 (S' 57 ((S' 1092 0) - 1))) = (S' 53 ((S' 1092 0) - 1)) ∧ 0 ≤ (S' 53 ((S' 1092 0) - 1)) ∧ (S' 53 ((S' 1092 0) - 1)) < (S' 1032 0) ∧ (S' 60 ((S' 1092 0) - 1)) = sm_dp (S' 1100024) (S' 1100023 (S' 57 ((S' 1092 0) - 1))) ∧ sm_TC (S' 61) (S' 62) (S' 27) (S' 1100007) (S' 1100023) (S' 1100024) (40 * ((S' 1092 0) - 1)) (S' 1100023 (S' 57 ((S' 1092 0) - 1))) ∧ sm_LK (S' 1100029) (S' 1076 0) (S' 54 ((S' 1092 0) - 1)) (S' 53 ((S' 1092 0) - 1)) ∧ sm_VO (S' 44) (S' 1076 0) (S' 1007 0) ((S' 55 ((S' 1092 0) - 1))) ((S' 56 ((S' 1092 0) - 1))) ∧ sm_FW (S' 44) (S' 1076 0) (S' 59 ((S' 1092 0) - 1)) ∧ sm_FL (S' 53) (S' 54) (S' 55) (S' 56) (S' 57) (S' 58) (S' 59) (S' 60) (S' 61) (S' 62) (S' 63) (S' 64) (S' 27) (S' 29) (S' 1100007) (S' 1100023) (S' 1100024) (S' 1100025) (S' 26) (S' 1100029) (S' 44) (S' 1046 0) (S' 1032 0) (S' 1076 0) (S' 1007 0) (((S' 1092 0) - 1)) ∧ (S' 58 ((S' 1092 0) - 1)) = (S' 1100007 (S' 57 ((S' 1092 0) - 1))) ∧ sm_SK (S' 63) (S' 64) (S' 44) (S' 1100007) (S' 1100025) (S' 1076 0) (S' 1007 0) (400 * ((S' 1092 0) - 1)) ((S' 58 ((S' 1092 0) - 1))) ((S' 1100025 (S' 57 ((S' 1092 0) - 1))))) ∧ ((S' 1073 0) = 1 ∨ (S' 1092 0) = 0 ∧ (S' 1075 0) = 0 ∧ ((S' 1073 0) = 2 ∨ (S' 1073 0) = 3)) ∧ (S 1086 0) ≤ (S' 1086 0) ∧ (S' 1086 0) ≤ (S 1086 0) + 110 ∧ 0 ≤ (S' 1107 0) ∧ (S' 1107 0) ≤ 100 ∧ sm_PT (S' 67) (S' 1107 0) (S' 1007 0))
theorem la_nativeOf_0 {x0 x1 x2 x3 x4 : Int} (h0 : 1 ≤ x0) (h1 : x0 ≤ 24) (h2 : x1 ≤ 396) (h3 : x2 ≤ x1) (h4 : x3 ≤ x2 - 1) (h5 : x4 + x3 = 400 * (x0 - 1) + x1) : 0 < x3 → 0 ≤ x4 + 0 ∧ x4 + 0 < 9600 := by omega
theorem la_nativeOf_1 : (0 : Int) ≤ 0 := by omega
theorem la_nativeOf_2 {x0 : Int} (h0 : x0 = 0) : ¬ x0 = 1 := by omega
theorem la_nativeOf_3 {x0 : Int} (h0 : x0 = 0) : ¬ ¬ x0 = 0 := by omega
theorem la_nativeOf_4 {x0 : Int} (h0 : 1 ≤ x0) : 0 ≤ x0 := by omega
theorem la_nativeOf_5 {x0 x1 x2 : Int} (h0 : x0 ≤ x1) (h1 : x2 = x1) : x0 ≤ x2 := by omega
theorem la_nativeOf_6 {x0 x1 x2 : Int} (h0 : x0 ≤ 396) (h1 : 1 ≤ x1) (h2 : x2 = x0) : x2 - x1 ≤ 399 := by omega
theorem la_nativeOf_7 {x0 x1 x2 x3 x4 : Int} (h0 : 0 ≤ x0 → x1 ≤ x2 - x3) (h1 : x4 = x2) : 0 ≤ x0 → x1 ≤ x4 - x3 := by omega
theorem la_nativeOf_8 {x0 x1 x2 x3 : Int} (h0 : x0 = x1 + 1 - x2) (h1 : x3 = x1) : x0 = x3 - x2 + 1 := by omega
theorem la_nativeOf_9 {x0 x1 x2 : Int} (h0 : 0 ≤ x0) (h1 : x1 = 1) : x1 = 1 ∨ x0 = 0 ∧ x2 = 0 ∧ (x1 = 2 ∨ x1 = 3) := by omega
theorem la_nativeOf_10 {x0 x1 : Int} (h0 : x0 ≤ x1 + 3) : x0 ≤ x1 + 110 := by omega
theorem la_nativeOf_11 {x0 : Int} (h0 : 9 ≤ x0) : ¬ x0 < 9 := by omega
theorem la_nativeOf_12 {x0 : Int} (h0 : x0 ≤ 22) : ¬ 22 < x0 := by omega
theorem la_nativeOf_13 {x0 : Int} (h0 : 9 ≤ x0) (h1 : x0 ≤ 22) : sv_R (x0 - 9) := by omega
theorem la_nativeOf_14 {x0 : Int} (h0 : 9 ≤ x0) (h1 : x0 ≤ 22) : sv_R (x0 + 11) := by omega
theorem la_nativeOf_15 {x0 x1 x2 : Int} (h0 : 23 ≤ x0) (h1 : 9 ≤ x1) (h2 : x1 ≤ 22) : (x1 - 9 = (-1) ∨ 0 ≤ x1 - 9 ∧ x1 - 9 < x0 ∨ x0 = 0 ∧ x1 - 9 = 1) ∧ (x0 = 1 → x1 - 9 = (-1)) ∧ 0 ≤ x1 + 11 ∧ x1 + 11 ≤ 1000 ∧ (0 : Int) ≤ 0 ∧ (0 : Int) ≤ 3 ∧ ((0 : Int) = 2 → x2 = x0) := by omega
theorem la_nativeOf_16 {x0 : Int} : ¬ (0 : Int) = 1 ∨ 9 ≤ x0 ∧ x0 < 23 := by omega
theorem la_nativeOf_17 {x0 : Int} (h0 : 23 ≤ x0) : 1 ≤ x0 ∨ x0 = 0 ∧ (0 : Int) = 0 := by omega
theorem la_nativeOf_18 {x0 : Int} (h0 : 0 ≤ x0) (h1 : ¬ x0 = 0) : 0 < x0 := by omega
theorem la_nativeOf_19 {x0 : Int} (h0 : x0 ≤ 1) (h1 : 0 < x0) : x0 = 1 := by omega
theorem la_nativeOf_20 {x0 x1 : Int} (h0 : 0 < x0) (h1 : x0 = 0) : x1 = 6 := by omega
theorem la_nativeOf_21 {x0 x1 : Int} (h0 : x0 ≤ 7) (h1 : 0 < x1) (h2 : x1 = 0) : x0 = 7 := by omega
theorem la_nativeOf_22 {x0 x1 : Int} (h0 : 0 < x0) (h1 : x0 = 0) : 0 < x1 := by omega
theorem la_nativeOf_23 {x0 x1 : Int} (h0 : 0 < x0) (h1 : x0 = 0) : ¬ 0 < x1 := by omega
theorem la_nativeOf_24 {x0 x1 : Int} (h0 : 0 < x0) (h1 : x0 = 0) (h2 : x1 = 0) : x1 = 6 := by omega
theorem la_nativeOf_25 {x0 x1 : Int} (h0 : 0 < x0) (h1 : x0 = 0) (h2 : x1 = 0) : x1 = 7 := by omega
theorem la_nativeOf_26 {x0 x1 : Int} (h0 : 0 < x0) (h1 : x0 = 0) : x1 < 300 := by omega
theorem la_nativeOf_27 {x0 x1 : Int} (h0 : 23 ≤ x0) (h1 : x0 ≤ x1) : 23 ≤ x1 := by omega
theorem la_nativeOf_28 {x0 : Int} : x0 ≤ x0 := by omega
theorem la_nativeOf_29 {x0 x1 : Int} (h0 : 23 ≤ x0) (h1 : x1 = x0 + 1) : 23 ≤ x1 := by omega
theorem la_nativeOf_30 {x0 : Int} : x0 = x0 := by omega
theorem la_nativeOf_31 {x0 : Int} (h0 : x0 = 7) : 0 ≤ x0 := by omega
theorem la_nativeOf_32 {x0 : Int} (h0 : x0 = 7) : x0 ≤ 7 := by omega
theorem la_nativeOf_33 {x0 x1 x2 x3 x4 x5 : Int} (h0 : 31 ≤ x0) (h1 : x1 = x2) (h2 : x3 = 0) (h3 : x4 = x3) (h4 : x1 = x2 + 1) : x5 = 6 → 0 ≤ x4 ∧ x4 < x0 := by omega
theorem la_nativeOf_34 {x0 x1 x2 x3 : Int} (h0 : x0 = x1) (h1 : x0 = x1 + 1) : x2 = x3 := by omega
theorem la_nativeOf_35 {x0 x1 : Int} (h0 : x0 = x1) (h1 : x0 = x1 + 1) : False := by omega
theorem la_nativeOf_36 {x0 : Int} : x0 ≤ x0 + 3 := by omega
theorem la_nativeOf_37 {x0 : Int} (h0 : 0 ≤ x0) (h1 : ¬ ¬ x0 = 0) : x0 = 0 := by omega
theorem la_nativeOf_38 {x0 x1 x2 : Int} (h0 : x0 < x1) (h1 : x0 = x2) : ¬ x1 = x2 := by omega
theorem la_nativeOf_39 {x0 : Int} (h0 : ¬ ¬ x0 = 0) : ¬ x0 = 1 := by omega
theorem la_nativeOf_40 {x0 x1 x2 : Int} (h0 : x0 ≤ 300) (h1 : x1 < x0) (h2 : x1 = x2) : x2 < 300 := by omega
theorem la_nativeOf_41 {x0 : Int} (h0 : x0 ≤ 0) : ¬ 0 < x0 := by omega
theorem la_nativeOf_42 {x0 : Int} (h0 : x0 = 0) : ¬ x0 = 6 := by omega
theorem la_nativeOf_43 {x0 : Int} (h0 : x0 = 0) : ¬ x0 = 7 := by omega
theorem la_nativeOf_44 {x0 : Int} (h0 : x0 = 0) : ¬ x0 = 3 := by omega
theorem la_nativeOf_45 : ¬ (7 : Int) = 6 := by omega
theorem la_nativeOf_46 : (7 : Int) = 7 := by omega
theorem la_nativeOf_47 {x0 : Int} (h0 : x0 = 0) : x0 ≤ 3 := by omega
theorem la_nativeOf_48 {x0 : Int} (h0 : x0 ≤ 3) (h1 : ¬ x0 = 3) : x0 < 3 := by omega
theorem la_nativeOf_49 {x0 : Int} (h0 : ¬ ¬ x0 = 0) : x0 ≤ 0 := by omega
theorem la_nativeOf_50 {x0 : Int} (h0 : x0 ≤ 0) (h1 : ¬ x0 = 0) : x0 < 0 := by omega
theorem la_nativeOf_51 {x0 : Int} (h0 : ¬ x0 ≤ 0) : 0 < x0 := by omega
theorem la_nativeOf_52 {x0 : Int} (h0 : ¬ x0 ≤ 0) : ¬ ¬ 0 < x0 := by omega
theorem la_nativeOf_53 {x0 x1 : Int} (h0 : 0 < x0) (h1 : x0 = 0) : x1 = 7 := by omega
theorem la_nativeOf_54 {x0 x1 : Int} (h0 : 0 < x0) (h1 : x0 = 0) : x1 = 5 := by omega
theorem la_nativeOf_55 {x0 x1 : Int} (h0 : 0 < x0) (h1 : x0 = 0) : x1 ≤ 100 := by omega
theorem la_nativeOf_56 {x0 x1 : Int} (h0 : 31 ≤ x0) (h1 : x0 ≤ x1) : 31 ≤ x1 := by omega
theorem la_nativeOf_57 {x0 x1 x2 : Int} (h0 : x0 ≤ x1) (h1 : x1 ≤ x2) : x0 ≤ x2 := by omega
theorem la_nativeOf_58 {x0 x1 : Int} (h0 : x0 ≤ 1) (h1 : 0 < x0) : x1 = 1 → x0 = 1 := by omega
theorem la_nativeOf_59 : (0 : Int) ≤ 3 := by omega
theorem la_nativeOf_60 {x0 x1 : Int} (h0 : 31 ≤ x0) (h1 : x0 ≤ x1) : 3 < x1 := by omega
theorem la_nativeOf_61 : (0 : Int) ≤ 6 := by omega
theorem la_nativeOf_62 : (6 : Int) ≤ 7 := by omega
theorem la_nativeOf_63 {x0 x1 : Int} (h0 : 0 ≤ x0) (h1 : x0 < x1) : (6 : Int) = 6 → 0 ≤ x0 ∧ x0 < x1 := by omega
theorem la_nativeOf_64 {x0 x1 x2 : Int} : (6 : Int) = 7 → 0 ≤ x0 ∧ x0 < x1 ∧ ¬ x2 = 3 := by omega
theorem la_nativeOf_65 {x0 x1 x2 : Int} (h0 : x0 ≤ 1900000000) : (x1 = 2 → (3 : Int) = 0 → (6 : Int) = 5 ∧ 0 ≤ x2 ∧ x2 ≤ 100) ∧ x0 < 2000000000 := by omega
theorem la_nativeOf_66 {x0 x1 : Int} (h0 : x0 = 0) : x0 = 1 → x1 = 1 := by omega
theorem la_nativeOf_67 {x0 x1 : Int} (h0 : x0 ≤ x1 + 1) : x0 ≤ x1 + 3 := by omega
theorem la_nativeOf_68 {x0 : Int} (h0 : x0 = 9) : x0 ≤ 20 := by omega
theorem la_nativeOf_69 {x0 : Int} (h0 : x0 ≤ 20) (h1 : ¬ x0 = 20) : x0 < 20 := by omega
theorem la_nativeOf_70 {x0 : Int} (h0 : x0 = 0) : 0 ≤ x0 := by omega
theorem la_nativeOf_71 {x0 : Int} (h0 : x0 = 0) : x0 ≤ 7 := by omega
theorem la_nativeOf_72 {x0 x1 x2 x3 : Int} (h0 : 31 ≤ x0) (h1 : x0 ≤ x1) (h2 : x2 = 0) (h3 : x3 = 0) : x2 = 6 → 0 ≤ x3 ∧ x3 < x1 := by omega
theorem la_nativeOf_73 {x0 x1 x2 x3 : Int} (h0 : 23 ≤ x0) (h1 : x1 = 0) (h2 : x2 = 0) : x1 = 7 → 0 ≤ x2 ∧ x2 < x0 ∧ ¬ x3 = 3 := by omega
theorem la_nativeOf_74 {x0 x1 x2 : Int} (h0 : 0 < x0) (h1 : x0 = 0) : ¬ x1 ≤ x2 := by omega
theorem la_nativeOf_75 {x0 x1 x2 x3 : Int} (h0 : 0 < x0) (h1 : x0 = 0) : ¬ x1 ≤ x2 - x3 := by omega
theorem la_nativeOf_76 {x0 x1 : Int} (h0 : 0 < x0) (h1 : x0 = 0) (h2 : x1 = 0) : x1 = 5 := by omega
theorem la_nativeOf_77 {x0 : Int} (h0 : x0 = 0) : x0 ≤ 100 := by omega
theorem la_nativeOf_78 {x0 : Int} (h0 : 0 ≤ x0) (h1 : ¬ 100 ≤ x0) : 0 ≤ x0 ∧ x0 < 100 := by omega
theorem la_nativeOf_79 {x0 : Int} (h0 : 0 ≤ x0) (h1 : ¬ 100 ≤ x0) : sv_R (x0 + 1) := by omega
theorem la_nativeOf_80 {x0 : Int} (h0 : 0 ≤ x0) : 0 ≤ x0 + 1 := by omega
theorem la_nativeOf_81 {x0 : Int} (h0 : ¬ 100 ≤ x0) : x0 + 1 ≤ 100 := by omega
theorem la_nativeOf_82 {x0 x1 : Int} (h0 : 0 ≤ x0) (h1 : x0 < x1) : 0 ≤ x0 ∧ x0 < x1 := by omega
theorem la_nativeOf_83 {x0 : Int} (h0 : x0 = 10) : x0 ≤ 20 := by omega
theorem la_nativeOf_84 {x0 x1 : Int} (h0 : 23 ≤ x0) : ((1 : Int) = (-1) ∨ (0 : Int) ≤ 1 ∧ 1 < x0 ∨ x0 = 0 ∧ (1 : Int) = 1) ∧ (x0 = 1 → (1 : Int) = (-1)) ∧ (0 : Int) ≤ 23 ∧ (23 : Int) ≤ 1000 ∧ (0 : Int) ≤ 0 ∧ (0 : Int) ≤ 3 ∧ ((0 : Int) = 2 → x1 = x0) := by omega
theorem la_nativeOf_85 {x0 x1 x2 : Int} (h0 : x0 = x1) (h1 : x2 = x0 + 1) : ¬ x2 = x1 := by omega
theorem la_nativeOf_86 {x0 : Int} (h0 : x0 = 11) : x0 ≤ 20 := by omega
theorem la_nativeOf_87 {x0 x1 x2 x3 : Int} (h0 : x0 = (-1)) (h1 : 23 ≤ x1) (h2 : 31 ≤ x2) (h3 : x2 ≤ 400) (h4 : x3 ≤ 1900000000) : x0 = (-1) ∧ 23 ≤ x1 ∧ 31 ≤ x2 ∧ x2 ≤ 400 ∧ (0 : Int) ≤ 24 ∧ (24 : Int) ≤ 1000 ∧ x3 ≤ 1900000000 := by omega
theorem la_nativeOf_88 {x0 : Int} (h0 : x0 = 2) : ¬ x0 = 3 := by omega
theorem la_nativeOf_89 {x0 : Int} (h0 : x0 = 2) : x0 ≤ 3 := by omega
theorem la_nativeOf_90 {x0 x1 x2 : Int} (h0 : 23 ≤ x0) (h1 : x1 < x2) (h2 : x1 = x0) : 23 ≤ x2 := by omega
theorem la_nativeOf_91 {x0 : Int} (h0 : x0 = 12) : x0 ≤ 20 := by omega
theorem la_nativeOf_92 {x0 : Int} (h0 : 0 < x0) : ¬ ¬ 0 < x0 := by omega
theorem la_nativeOf_93 {x0 : Int} (h0 : x0 = 6) : 0 ≤ x0 := by omega
theorem la_nativeOf_94 {x0 : Int} (h0 : x0 = 6) : x0 ≤ 7 := by omega
theorem la_nativeOf_95 {x0 x1 x2 x3 : Int} (h0 : 0 ≤ x0) (h1 : x0 < x1) (h2 : x2 = x0) : x3 = 6 → 0 ≤ x2 ∧ x2 < x1 := by omega
theorem la_nativeOf_96 {x0 x1 x2 x3 : Int} (h0 : x0 = 6) : x0 = 7 → 0 ≤ x1 ∧ x1 < x2 ∧ ¬ x3 = 3 := by omega
theorem la_nativeOf_97 {x0 : Int} (h0 : ¬ ¬ x0 = 0) : ¬ 0 < x0 := by omega
theorem la_nativeOf_98 {x0 : Int} (h0 : x0 = 0) : x0 = 1 → x0 = 1 := by omega
theorem la_nativeOf_99 {x0 : Int} (h0 : x0 = 0) : x0 ≤ 0 := by omega
theorem la_nativeOf_100 {x0 x1 x2 : Int} (h0 : 31 ≤ x0) (h1 : x1 = 30) : x2 = 6 → 0 ≤ x1 ∧ x1 < x0 := by omega
theorem la_nativeOf_101 {x0 x1 x2 x3 : Int} (h0 : x0 = 6) (h1 : x1 = 30) : x0 = 7 → 0 ≤ x1 ∧ x1 < x2 ∧ ¬ x3 = 3 := by omega
theorem la_nativeOf_102 {x0 : Int} (h0 : x0 = 13) : x0 ≤ 20 := by omega
theorem la_nativeOf_103 {x0 x1 x2 : Int} (h0 : x0 ≤ 400) (h1 : x1 = 6 → 0 ≤ x2 ∧ x2 < x0) : x1 = 6 → 0 ≤ x2 ∧ x2 < 400 := by omega
theorem la_nativeOf_104 {x0 : Int} (h0 : x0 = 2 ∨ x0 = 3) : 0 ≤ x0 := by omega
theorem la_nativeOf_105 {x0 : Int} (h0 : x0 = 2 ∨ x0 = 3) : x0 ≤ 7 := by omega
theorem la_nativeOf_106 {x0 x1 x2 : Int} (h0 : 31 ≤ x0) (h1 : x1 = 0) : x2 = 6 → 0 ≤ x1 ∧ x1 < x0 := by omega
theorem la_nativeOf_107 {x0 x1 x2 x3 : Int} (h0 : 23 ≤ x0) (h1 : x1 = 2 ∨ x1 = 3) (h2 : x2 = 0) : x1 = 7 → 0 ≤ x2 ∧ x2 < x0 ∧ ¬ x3 = 3 := by omega
theorem la_nativeOf_108 {x0 : Int} (h0 : x0 = 1) : 0 ≤ x0 := by omega
set_option maxHeartbeats 8000000 in
theorem f_nativeOf : ∀ (p1 : Int) (p2 : Int) (p3 : Int) (p4 : Int) (S : sv_S), sm_ok S → sv_R p1 → sv_R p2 → sv_R p3 → sv_R p4 → ((S 1075 0) = 0 ∧ (S 1073 0) = 1 ∧ sm_LX (S 58) (S 63) (S 64) (S 1092 0) (S 1076 0) ∧ sm_PL (S 1100020) (S 51) (S 52) (S 46) (S 47) (S 1076 0) (S 1086 0) ∧ sm_FR (S 1100020) (S 52) (S 1100021) (S 1100022) (3000 - (S 1084 0)) (S 1085 0) ∧ sm_PV (S 1100020) (S 48) (S 49) (S 50) (S 44) (S 1076 0) (S 1007 0) ∧ sm_AL (S 1100020) (S 48) (S 49) (S 50) (S 44) (S 1076 0) (S 1100032 0) ∧ sm_SV (S 1100020) (S 48) (S 1100029) (S 32) (S 33) (S 1076 0) (S 1032 0) ∧ 0 ≤ (S 1076 0) ∧ (S 1076 0) ≤ 300 ∧ 0 ≤ (S 1084 0) ∧ (S 1084 0) ≤ 3000 ∧ 0 ≤ (S 1086 0) ∧ sm_SC (S 1100029) (S 44) (S 45) (S 43) (S 21) (S 1076 0) (S 1032 0) ∧ sm_PO (S 42) (S 1076 0) ∧ (S 1100032 0) = -1 ∧ sm_FO (S 44) (S 45) (S 1076 0) ∧ 23 ≤ (S 1076 0) ∧ 31 ≤ (S 1007 0) ∧ (S 1007 0) ≤ 400 ∧ sm_LN (S 4) 400 (S 1007 0) ∧ sm_CT (S 26) (S 27) (S 28) (S 29) (S 1100007) (S 1100023) (S 1100024) (S 1100025) (S 21) (S 1046 0) (S 1032 0) (S 1008 0) (S 1055 0) ∧ sm_LS (S 26) (S 1100007) (S 1100025) (S 1046 0) ∧ sm_CL (S 1100007) (S 1100023) (S 1100025) (S 1046 0) ∧ 1 ≤ (S 1032 0) ∧ (S 1032 0) ≤ 11 ∧ 0 ≤ (S 1046 0) ∧ (S 1046 0) ≤ 600 ∧ 31 ≤ (S 1008 0) ∧ (S 1008 0) ≤ (S 1007 0) ∧ 0 ≤ (S 1055 0) ∧ (S 1055 0) ≤ 19 ∧ 1 ≤ (S 1092 0) ∧ (S 1092 0) ≤ 24 ∧ 0 ≤ (S 1100033 0) ∧ (S 1100033 0) < (S 1046 0) ∧ (S 29 (S 1100033 0)) = (S 53 ((S 1092 0) - 1)) ∧ 0 ≤ (S 53 ((S 1092 0) - 1)) ∧ (S 53 ((S 1092 0) - 1)) < (S 1032 0) ∧ (S 60 ((S 1092 0) - 1)) = sm_dp (S 1100024) (S 1100023 (S 1100033 0)) ∧ sm_TC (S 61) (S 62) (S 27) (S 1100007) (S 1100023) (S 1100024) (40 * ((S 1092 0) - 1)) (S 1100023 (S 1100033 0)) ∧ sm_LK (S 1100029) (S 1076 0) (S 54 ((S 1092 0) - 1)) (S 53 ((S 1092 0) - 1)) ∧ sm_VO (S 44) (S 1076 0) (S 1007 0) ((S 55 ((S 1092 0) - 1))) ((S 56 ((S 1092 0) - 1))) ∧ sm_FW (S 44) (S 1076 0) (S 59 ((S 1092 0) - 1)) ∧ sm_FL (S 53) (S 54) (S 55) (S 56) (S 57) (S 58) (S 59) (S 60) (S 61) (S 62) (S 63) (S 64) (S 27) (S 29) (S 1100007) (S 1100023) (S 1100024) (S 1100025) (S 26) (S 1100029) (S 44) (S 1046 0) (S 1032 0) (S 1076 0) (S 1007 0) (((S 1092 0) - 1)) ∧ (S 57 ((S 1092 0) - 1)) = (S 1100033 0) ∧ 0 ≤ (S 58 ((S 1092 0) - 1)) ∧ (S 58 ((S 1092 0) - 1)) ≤ 400 ∧ sm_SK (S 63) (S 64) (S 44) (S 1100007) (S 1100025) (S 1076 0) (S 1007 0) (400 * ((S 1092 0) - 1)) ((S 58 ((S 1092 0) - 1))) ((S 1100034 0)) ∧ -1 ≤ (S 1100034 0) ∧ (S 1100034 0) < (S 1046 0) ∧ (0 ≤ (S 1100034 0) → (S 26 (S 1100034 0)) = 29) ∧ (S 58 ((S 1092 0) - 1)) = (S 1100007 (S 1100033 0)) ∧ (S 1100034 0) = (S 1100025 (S 1100033 0)) ∧ (0 ≤ (S 1100023 (S 1100033 0)) → (S 1100007 (S 1100023 (S 1100033 0))) ≤ (S 58 ((S 1092 0) - 1))) ∧ (S 58 ((S 1092 0) - 1)) ≤ 396 ∧ 1 ≤ p4 ∧ p4 ≤ (S 58 ((S 1092 0) - 1)) ∧ (0 ≤ (S 1100034 0) → (S 1100007 (S 1100034 0)) ≤ (S 58 ((S 1092 0) - 1)) - p4) ∧ (S 1100033 0) + 1 < (S 1046 0) ∧ (S 29 ((S 1100033 0) + 1)) = (S 29 (S 1100033 0)) ∧ (S 1100007 ((S 1100033 0) + 1)) = (S 58 ((S 1092 0) - 1)) + 1 - p4 ∧ (S 1100023 ((S 1100033 0) + 1)) = (S 1100023 (S 1100033 0)) ∧ (S 1100025 ((S 1100033 0) + 1)) = (S 1100034 0) ∧ (0 ≤ (S 1100023 (S 1100033 0)) → (S 1100007 (S 1100023 (S 1100033 0))) ≤ (S 58 ((S 1092 0) - 1)) - p4) ∧ 0 ≤ (S 1115 0) ∧ (S 1115 0) ≤ p4 - 1 ∧ (S 1114 0) + (S 1115 0) = (400 * ((S 1092 0) - 1) + (S 58 ((S 1092 0) - 1))) ∧ (∀ g : Int, 0 ≤ g → g < (S 1032 0) → 0 ≤ (S 30 g) ∧ (S 30 g) < (S 1046 0) ∧ (S 1100007 (S 30 g)) = 0 ∧ (S 1100023 (S 30 g)) = -1 ∧ 0 ≤ (S 33 g) ∧ (S 33 g) ≤ 100 ∧ 0 ≤ (S 20 g) ∧ (S 20 g) ≤ 8) ∧ sm_VN (S 32) (S 33) (S 1032 0) (S 1008 0) ∧ (∀ f : Int, 0 ≤ f → f < (S 1032 0) → 0 ≤ (S 30 f) ∧ (S 30 f) < (S 1046 0) ∧ (S 29 (S 30 f)) = f ∧ (S 1100007 (S 30 f)) = 0 ∧ (S 1100023 (S 30 f)) = -1 ∧ (S 1100025 (S 30 f)) = -1) ∧ (S 1086 0) ≤ 1900000000 ∧ sm_VO (S 44) (S 1076 0) (S 1007 0) (p2) (p3) ∧ 9 ≤ p1 ∧ p1 ≤ 22 ∧ ¬ p1 = 20 ∧ 0 ≤ (S 1107 0) ∧ (S 1107 0) ≤ 100 ∧ sm_PT (S 67) (S 1107 0) (S 1007 0)) → ((0 : Int) < (S 1115 0) → 0 ≤ (S 1114 0) + (0 : Int) ∧ (S 1114 0) + (0 : Int) < 9600) ∧ (∀ r6 : Int, sv_R r6 → (((0 : Int) < (S 1115 0) → r6 = (S 63 ((S 1114 0) + (0 : Int)))) ∧ (¬ (0 : Int) < (S 1115 0) → r6 = 0)) → (∀ r11 : Int, sv_R r11 → (((0 : Int) < (S 1115 0) → r11 = (S 64 ((S 1114 0) + (0 : Int)))) ∧ (¬ (0 : Int) < (S 1115 0) → r11 = 0)) → ((sm_SK (S 63) (S 64) (S 44) (S 1100007) (S 1100025) (S 1076 0) (S 1007 0) (400 * ((S 1092 0) - 1)) ((S 58 ((S 1092 0) - 1))) ((S 1100034 0)) → sm_LS (S 26) (S 1100007) (S 1100025) (S 1046 0) → (S 1114 0) + (S 1115 0) = 400 * ((S 1092 0) - 1) + (S 58 ((S 1092 0) - 1)) → 0 ≤ (0 : Int) → (S 1115 0) ≤ p4 - 1 → p4 ≤ (S 58 ((S 1092 0) - 1)) → (S 1100034 0) < (S 1046 0) → (0 ≤ (S 1100034 0) → (S 26 (S 1100034 0)) = 29) → (0 ≤ (S 1100034 0) → (S 1100007 (S 1100034 0)) ≤ (S 58 ((S 1092 0) - 1)) - p4) → ((0 : Int) < (S 1115 0) → r6 = (S 63 ((S 1114 0) + (0 : Int)))) → (¬ (0 : Int) < (S 1115 0) → r6 = 0) → ((0 : Int) < (S 1115 0) → r11 = (S 64 ((S 1114 0) + (0 : Int)))) → (¬ (0 : Int) < (S 1115 0) → r11 = 0) → sm_VO (S 44) (S 1076 0) (S 1007 0) (r6) (r11)) → ((∀ g13 : sv_S, (sm_PL (g13 1100020) (g13 51) (g13 52) (g13 46) (g13 47) (g13 1076 0) (g13 1086 0) ∧ sm_FR (g13 1100020) (g13 52) (g13 1100021) (g13 1100022) (3000 - (g13 1084 0)) (g13 1085 0) ∧ sm_PV (g13 1100020) (g13 48) (g13 49) (g13 50) (g13 44) (g13 1076 0) (g13 1007 0) ∧ sm_AL (g13 1100020) (g13 48) (g13 49) (g13 50) (g13 44) (g13 1076 0) (g13 1100032 0) ∧ sm_SV (g13 1100020) (g13 48) (g13 1100029) (S 32) (S 33) (g13 1076 0) (S 1032 0) ∧ 0 ≤ (g13 1076 0) ∧ (g13 1076 0) ≤ 300 ∧ 0 ≤ (g13 1084 0) ∧ (g13 1084 0) ≤ 3000 ∧ 0 ≤ (g13 1086 0) ∧ sm_SC (g13 1100029) (g13 44) (g13 45) (g13 43) (S 21) (g13 1076 0) (S 1032 0) ∧ sm_PO (g13 42) (g13 1076 0) ∧ ((g13 1075 0) = 0 → (g13 1100032 0) = -1 ∧ sm_FO (g13 44) (g13 45) (g13 1076 0)) ∧ 23 ≤ (g13 1076 0) ∧ 31 ≤ (g13 1007 0) ∧ (g13 1007 0) ≤ 400 ∧ sm_LN (g13 4) 400 (g13 1007 0) ∧ (S 1008 0) ≤ (g13 1007 0) ∧ ((S 1075 0) = 1 → (g13 1075 0) = 1) ∧ 0 ≤ (g13 1092 0) ∧ (g13 1092 0) ≤ 24 ∧ (S 1007 0) ≤ (g13 1007 0) ∧ (¬ (g13 1075 0) = 0 → sm_LX (g13 58) (g13 63) (g13 64) (g13 1092 0) (g13 1076 0)) ∧ (g13 1073 0) = 1 ∧ ((g13 1075 0) = 0 → sm_PL (g13 1100020) (g13 51) (g13 52) (g13 46) (g13 47) (g13 1076 0) (g13 1086 0) ∧ sm_FR (g13 1100020) (g13 52) (g13 1100021) (g13 1100022) (3000 - (g13 1084 0)) (g13 1085 0) ∧ sm_PV (g13 1100020) (g13 48) (g13 49) (g13 50) (g13 44) (g13 1076 0) (g13 1007 0) ∧ sm_AL (g13 1100020) (g13 48) (g13 49) (g13 50) (g13 44) (g13 1076 0) (g13 1100032 0) ∧ sm_SV (g13 1100020) (g13 48) (g13 1100029) (S 32) (S 33) (g13 1076 0) (S 1032 0) ∧ 0 ≤ (g13 1076 0) ∧ (g13 1076 0) ≤ 300 ∧ 0 ≤ (g13 1084 0) ∧ (g13 1084 0) ≤ 3000 ∧ 0 ≤ (g13 1086 0) ∧ sm_SC (g13 1100029) (g13 44) (g13 45) (g13 43) (S 21) (g13 1076 0) (S 1032 0) ∧ sm_PO (g13 42) (g13 1076 0) ∧ (g13 1100032 0) = -1 ∧ sm_FO (g13 44) (g13 45) (g13 1076 0) ∧ 23 ≤ (g13 1076 0) ∧ 31 ≤ (g13 1007 0) ∧ (g13 1007 0) ≤ 400 ∧ sm_LN (g13 4) 400 (g13 1007 0) ∧ sm_CT (S 26) (S 27) (S 28) (S 29) (S 1100007) (S 1100023) (S 1100024) (S 1100025) (S 21) (S 1046 0) (S 1032 0) (S 1008 0) (S 1055 0) ∧ sm_LS (S 26) (S 1100007) (S 1100025) (S 1046 0) ∧ sm_CL (S 1100007) (S 1100023) (S 1100025) (S 1046 0) ∧ 1 ≤ (S 1032 0) ∧ (S 1032 0) ≤ 11 ∧ 0 ≤ (S 1046 0) ∧ (S 1046 0) ≤ 600 ∧ 31 ≤ (S 1008 0) ∧ (S 1008 0) ≤ (g13 1007 0) ∧ 0 ≤ (S 1055 0) ∧ (S 1055 0) ≤ 19 ∧ 1 ≤ (g13 1092 0) ∧ (g13 1092 0) ≤ 24 ∧ 0 ≤ (S 1100033 0) ∧ (S 1100033 0) < (S 1046 0) ∧ (S 29 (S 1100033 0)) = (S 53 ((g13 1092 0) - 1)) ∧ 0 ≤ (S 53 ((g13 1092 0) - 1)) ∧ (S 53 ((g13 1092 0) - 1)) < (S 1032 0) ∧ (g13 60 ((g13 1092 0) - 1)) = sm_dp (S 1100024) (S 1100023 (S 1100033 0)) ∧ sm_TC (S 61) (S 62) (S 27) (S 1100007) (S 1100023) (S 1100024) (40 * ((g13 1092 0) - 1)) (S 1100023 (S 1100033 0)) ∧ sm_LK (g13 1100029) (g13 1076 0) (S 54 ((g13 1092 0) - 1)) (S 53 ((g13 1092 0) - 1)) ∧ sm_VO (g13 44) (g13 1076 0) (g13 1007 0) ((S 55 ((g13 1092 0) - 1))) ((S 56 ((g13 1092 0) - 1))) ∧ sm_FW (g13 44) (g13 1076 0) (S 59 ((g13 1092 0) - 1)) ∧ sm_FL (S 53) (S 54) (S 55) (S 56) (g13 57) (g13 58) (S 59) (g13 60) (S 61) (S 62) (g13 63) (g13 64) (S 27) (S 29) (S 1100007) (S 1100023) (S 1100024) (S 1100025) (S 26) (g13 1100029) (g13 44) (S 1046 0) (S 1032 0) (g13 1076 0) (g13 1007 0) (((g13 1092 0) - 1)) ∧ (g13 57 ((g13 1092 0) - 1)) = (S 1100033 0) ∧ 0 ≤ (g13 58 ((g13 1092 0) - 1)) ∧ (g13 58 ((g13 1092 0) - 1)) ≤ 400 ∧ sm_SK (g13 63) (g13 64) (g13 44) (S 1100007) (S 1100025) (g13 1076 0) (g13 1007 0) (400 * ((g13 1092 0) - 1)) ((g13 58 ((g13 1092 0) - 1))) ((S 1100034 0)) ∧ -1 ≤ (S 1100034 0) ∧ (S 1100034 0) < (S 1046 0) ∧ (0 ≤ (S 1100034 0) → (S 26 (S 1100034 0)) = 29) ∧ (g13 58 ((g13 1092 0) - 1)) = (S 58 ((S 1092 0) - 1)) ∧ sm_VO (g13 44) (g13 1076 0) (g13 1007 0) ((g13 1111 0)) ((g13 1112 0))) ∧ (S 1086 0) ≤ (g13 1086 0) ∧ (g13 1086 0) ≤ (S 1086 0) + 3 ∧ 0 ≤ (g13 1107 0) ∧ (g13 1107 0) ≤ 100 ∧ sm_PT (g13 67) (g13 1107 0) (g13 1007 0)) → (((g13 1075 0) = 0 → (g13 1073 0) = 1 → sm_PL (g13 1100020) (g13 51) (g13 52) (g13 46) (g13 47) (g13 1076 0) (g13 1086 0) ∧ sm_FR (g13 1100020) (g13 52) (g13 1100021) (g13 1100022) (3000 - (g13 1084 0)) (g13 1085 0) ∧ sm_PV (g13 1100020) (g13 48) (g13 49) (g13 50) (g13 44) (g13 1076 0) (g13 1007 0) ∧ sm_AL (g13 1100020) (g13 48) (g13 49) (g13 50) (g13 44) (g13 1076 0) (g13 1100032 0) ∧ sm_SV (g13 1100020) (g13 48) (g13 1100029) (S 32) (S 33) (g13 1076 0) (S 1032 0) ∧ 0 ≤ (g13 1076 0) ∧ (g13 1076 0) ≤ 300 ∧ 0 ≤ (g13 1084 0) ∧ (g13 1084 0) ≤ 3000 ∧ 0 ≤ (g13 1086 0) ∧ sm_SC (g13 1100029) (g13 44) (g13 45) (g13 43) (S 21) (g13 1076 0) (S 1032 0) ∧ sm_PO (g13 42) (g13 1076 0) ∧ (g13 1100032 0) = -1 ∧ sm_FO (g13 44) (g13 45) (g13 1076 0) ∧ 23 ≤ (g13 1076 0) ∧ 31 ≤ (g13 1007 0) ∧ (g13 1007 0) ≤ 400 ∧ sm_LN (g13 4) 400 (g13 1007 0) ∧ sm_CT (S 26) (S 27) (S 28) (S 29) (S 1100007) (S 1100023) (S 1100024) (S 1100025) (S 21) (S 1046 0) (S 1032 0) (S 1008 0) (S 1055 0) ∧ sm_LS (S 26) (S 1100007) (S 1100025) (S 1046 0) ∧ sm_CL (S 1100007) (S 1100023) (S 1100025) (S 1046 0) ∧ 1 ≤ (S 1032 0) ∧ (S 1032 0) ≤ 11 ∧ 0 ≤ (S 1046 0) ∧ (S 1046 0) ≤ 600 ∧ 31 ≤ (S 1008 0) ∧ (S 1008 0) ≤ (g13 1007 0) ∧ 0 ≤ (S 1055 0) ∧ (S 1055 0) ≤ 19 ∧ 1 ≤ (g13 1092 0) ∧ (g13 1092 0) ≤ 24 ∧ 0 ≤ (S 1100033 0) ∧ (S 1100033 0) < (S 1046 0) ∧ (S 29 (S 1100033 0)) = (S 53 ((g13 1092 0) - 1)) ∧ 0 ≤ (S 53 ((g13 1092 0) - 1)) ∧ (S 53 ((g13 1092 0) - 1)) < (S 1032 0) ∧ (g13 60 ((g13 1092 0) - 1)) = sm_dp (S 1100024) (S 1100023 (S 1100033 0)) ∧ sm_TC (S 61) (S 62) (S 27) (S 1100007) (S 1100023) (S 1100024) (40 * ((g13 1092 0) - 1)) (S 1100023 (S 1100033 0)) ∧ sm_LK (g13 1100029) (g13 1076 0) (S 54 ((g13 1092 0) - 1)) (S 53 ((g13 1092 0) - 1)) ∧ sm_VO (g13 44) (g13 1076 0) (g13 1007 0) ((S 55 ((g13 1092 0) - 1))) ((S 56 ((g13 1092 0) - 1))) ∧ sm_FW (g13 44) (g13 1076 0) (S 59 ((g13 1092 0) - 1)) ∧ sm_FL (S 53) (S 54) (S 55) (S 56) (g13 57) (g13 58) (S 59) (g13 60) (S 61) (S 62) (g13 63) (g13 64) (S 27) (S 29) (S 1100007) (S 1100023) (S 1100024) (S 1100025) (S 26) (g13 1100029) (g13 44) (S 1046 0) (S 1032 0) (g13 1076 0) (g13 1007 0) (((g13 1092 0) - 1)) ∧ (g13 57 ((g13 1092 0) - 1)) = (S 1100033 0) ∧ 0 ≤ (g13 58 ((g13 1092 0) - 1)) ∧ (g13 58 ((g13 1092 0) - 1)) ≤ 400 ∧ sm_SK (g13 63) (g13 64) (g13 44) (S 1100007) (S 1100025) (g13 1076 0) (g13 1007 0) (400 * ((g13 1092 0) - 1)) ((g13 58 ((g13 1092 0) - 1))) ((S 1100034 0)) ∧ -1 ≤ (S 1100034 0) ∧ (S 1100034 0) < (S 1046 0) ∧ (0 ≤ (S 1100034 0) → (S 26 (S 1100034 0)) = 29) ∧ 0 ≤ p4 ∧ p4 ≤ (g13 58 ((g13 1092 0) - 1)) ∧ (g13 58 ((g13 1092 0) - 1)) - p4 ≤ 399 ∧ sm_VO (g13 44) (g13 1076 0) (g13 1007 0) ((g13 1111 0)) ((g13 1112 0)) ∧ (0 ≤ (S 1100034 0) → (S 1100007 (S 1100034 0)) ≤ (g13 58 ((g13 1092 0) - 1)) - p4) ∧ (S 1100033 0) + 1 < (S 1046 0) ∧ (S 29 ((S 1100033 0) + 1)) = (S 29 (S 1100033 0)) ∧ (S 1100007 ((S 1100033 0) + 1)) = (g13 58 ((g13 1092 0) - 1)) - p4 + 1 ∧ (S 1100023 ((S 1100033 0) + 1)) = (S 1100023 (S 1100033 0)) ∧ (S 1100025 ((S 1100033 0) + 1)) = (S 1100034 0)) ∧ (¬ (g13 1075 0) = 0 → sm_LX (g13 58) (g13 63) (g13 64) (g13 1092 0) (g13 1076 0))) ∧ (∀ g19 : sv_S, (((g13 1075 0) = 0 → (g13 1073 0) = 1 → 1 ≤ (g13 1092 0) ∧ (g13 1092 0) ≤ 24 ∧ 0 ≤ (g19 57 ((g13 1092 0) - 1)) ∧ (g19 57 ((g13 1092 0) - 1)) < (S 1046 0) ∧ (S 29 (g19 57 ((g13 1092 0) - 1))) = (S 53 ((g13 1092 0) - 1)) ∧ 0 ≤ (S 53 ((g13 1092 0) - 1)) ∧ (S 53 ((g13 1092 0) - 1)) < (S 1032 0) ∧ (g13 60 ((g13 1092 0) - 1)) = sm_dp (S 1100024) (S 1100023 (g19 57 ((g13 1092 0) - 1))) ∧ sm_TC (S 61) (S 62) (S 27) (S 1100007) (S 1100023) (S 1100024) (40 * ((g13 1092 0) - 1)) (S 1100023 (g19 57 ((g13 1092 0) - 1))) ∧ sm_LK (g13 1100029) (g13 1076 0) (S 54 ((g13 1092 0) - 1)) (S 53 ((g13 1092 0) - 1)) ∧ sm_VO (g13 44) (g13 1076 0) (g13 1007 0) ((S 55 ((g13 1092 0) - 1))) ((S 56 ((g13 1092 0) - 1))) ∧ sm_FW (g13 44) (g13 1076 0) (S 59 ((g13 1092 0) - 1)) ∧ sm_FL (S 53) (S 54) (S 55) (S 56) (g19 57) (g19 58) (S 59) (g13 60) (S 61) (S 62) (g19 63) (g19 64) (S 27) (S 29) (S 1100007) (S 1100023) (S 1100024) (S 1100025) (S 26) (g13 1100029) (g13 44) (S 1046 0) (S 1032 0) (g13 1076 0) (g13 1007 0) (((g13 1092 0) - 1)) ∧ (g19 58 ((g13 1092 0) - 1)) = (S 1100007 (g19 57 ((g13 1092 0) - 1))) ∧ sm_SK (g19 63) (g19 64) (g13 44) (S 1100007) (S 1100025) (g13 1076 0) (g13 1007 0) (400 * ((g13 1092 0) - 1)) ((g19 58 ((g13 1092 0) - 1))) ((S 1100025 (g19 57 ((g13 1092 0) - 1))))) ∧ (¬ (g13 1075 0) = 0 → sm_LX (g19 58) (g19 63) (g19 64) (g13 1092 0) (g13 1076 0))) → (sm_PL (g13 1100020) (g13 51) (g13 52) (g13 46) (g13 47) (g13 1076 0) (g13 1086 0) ∧ sm_FR (g13 1100020) (g13 52) (g13 1100021) (g13 1100022) (3000 - (g13 1084 0)) (g13 1085 0) ∧ sm_PV (g13 1100020) (g13 48) (g13 49) (g13 50) (g13 44) (g13 1076 0) (g13 1007 0) ∧ sm_AL (g13 1100020) (g13 48) (g13 49) (g13 50) (g13 44) (g13 1076 0) (g13 1100032 0) ∧ sm_SV (g13 1100020) (g13 48) (g13 1100029) (S 32) (S 33) (g13 1076 0) (S 1032 0) ∧ 0 ≤ (g13 1076 0) ∧ (g13 1076 0) ≤ 300 ∧ 0 ≤ (g13 1084 0) ∧ (g13 1084 0) ≤ 3000 ∧ 0 ≤ (g13 1086 0) ∧ sm_SC (g13 1100029) (g13 44) (g13 45) (g13 43) (S 21) (g13 1076 0) (S 1032 0) ∧ sm_PO (g13 42) (g13 1076 0) ∧ ((g13 1075 0) = 0 → (g13 1100032 0) = -1 ∧ sm_FO (g13 44) (g13 45) (g13 1076 0)) ∧ 23 ≤ (g13 1076 0) ∧ 31 ≤ (g13 1007 0) ∧ (g13 1007 0) ≤ 400 ∧ sm_LN (g13 4) 400 (g13 1007 0) ∧ (S 1008 0) ≤ (g13 1007 0) ∧ ((S 1075 0) = 1 → (g13 1075 0) = 1) ∧ 0 ≤ (g13 1092 0) ∧ (g13 1092 0) ≤ 24 ∧ (S 1007 0) ≤ (g13 1007 0) ∧ (¬ (g13 1075 0) = 0 → sm_LX (g19 58) (g19 63) (g19 64) (g13 1092 0) (g13 1076 0)) ∧ ((g13 1075 0) = 0 → (g13 1073 0) = 1 → 1 ≤ (g13 1092 0) ∧ (g13 1092 0) ≤ 24 ∧ 0 ≤ (g19 57 ((g13 1092 0) - 1)) ∧ (g19 57 ((g13 1092 0) - 1)) < (S 1046 0) ∧ (S 29 (g19 57 ((g13 1092 0) - 1))) = (S 53 ((g13 1092 0) - 1)) ∧ 0 ≤ (S 53 ((g13 1092 0) - 1)) ∧ (S 53 ((g13 1092 0) - 1)) < (S 1032 0) ∧ (g13 60 ((g13 1092 0) - 1)) = sm_dp (S 1100024) (S 1100023 (g19 57 ((g13 1092 0) - 1))) ∧ sm_TC (S 61) (S 62) (S 27) (S 1100007) (S 1100023) (S 1100024) (40 * ((g13 1092 0) - 1)) (S 1100023 (g19 57 ((g13 1092 0) - 1))) ∧ sm_LK (g13 1100029) (g13 1076 0) (S 54 ((g13 1092 0) - 1)) (S 53 ((g13 1092 0) - 1)) ∧ sm_VO (g13 44) (g13 1076 0) (g13 1007 0) ((S 55 ((g13 1092 0) - 1))) ((S 56 ((g13 1092 0) - 1))) ∧ sm_FW (g13 44) (g13 1076 0) (S 59 ((g13 1092 0) - 1)) ∧ sm_FL (S 53) (S 54) (S 55) (S 56) (g19 57) (g19 58) (S 59) (g13 60) (S 61) (S 62) (g19 63) (g19 64) (S 27) (S 29) (S 1100007) (S 1100023) (S 1100024) (S 1100025) (S 26) (g13 1100029) (g13 44) (S 1046 0) (S 1032 0) (g13 1076 0) (g13 1007 0) (((g13 1092 0) - 1)) ∧ (g19 58 ((g13 1092 0) - 1)) = (S 1100007 (g19 57 ((g13 1092 0) - 1))) ∧ sm_SK (g19 63) (g19 64) (g13 44) (S 1100007) (S 1100025) (g13 1076 0) (g13 1007 0) (400 * ((g13 1092 0) - 1)) ((g19 58 ((g13 1092 0) - 1))) ((S 1100025 (g19 57 ((g13 1092 0) - 1))))) ∧ ((g13 1073 0) = 1 ∨ (g13 1092 0) = 0 ∧ (g13 1075 0) = 0 ∧ ((g13 1073 0) = 2 ∨ (g13 1073 0) = 3)) ∧ (S 1086 0) ≤ (g13 1086 0) ∧ (g13 1086 0) ≤ (S 1086 0) + 110 ∧ 0 ≤ (g13 1107 0) ∧ (g13 1107 0) ≤ 100 ∧ sm_PT (g13 67) (g13 1107 0) (g13 1007 0)))) ∧ ((sm_SK (S 63) (S 64) (S 44) (S 1100007) (S 1100025) (S 1076 0) (S 1007 0) (400 * ((S 1092 0) - 1)) ((S 58 ((S 1092 0) - 1))) ((S 1100034 0)) → sm_LS (S 26) (S 1100007) (S 1100025) (S 1046 0) → (S 1114 0) + (S 1115 0) = 400 * ((S 1092 0) - 1) + (S 58 ((S 1092 0) - 1)) → 0 ≤ (0 : Int) → (S 1115 0) ≤ p4 - 1 → p4 ≤ (S 58 ((S 1092 0) - 1)) → (S 1100034 0) < (S 1046 0) → (0 ≤ (S 1100034 0) → (S 26 (S 1100034 0)) = 29) → (0 ≤ (S 1100034 0) → (S 1100007 (S 1100034 0)) ≤ (S 58 ((S 1092 0) - 1)) - p4) → ((0 : Int) < (S 1115 0) → r6 = (S 63 ((S 1114 0) + (0 : Int)))) → (¬ (0 : Int) < (S 1115 0) → r6 = 0) → ((0 : Int) < (S 1115 0) → r11 = (S 64 ((S 1114 0) + (0 : Int)))) → (¬ (0 : Int) < (S 1115 0) → r11 = 0) → sm_VO (S 44) (S 1076 0) (S 1007 0) (r6) (r11)) → (((p1 < (9 : Int) ∨ (22 : Int) < p1 ∨ p1 = (14 : Int) ∨ p1 = (15 : Int) ∨ p1 = (16 : Int) ∨ p1 = (17 : Int) ∨ p1 = (20 : Int)) → (sv_R (p1 - (9 : Int))) ∧ (sv_R (p1 + (11 : Int))) ∧ (sm_PL (S 1100020) (S 51) (S 52) (S 46) (S 47) (S 1076 0) (S 1086 0) ∧ sm_FR (S 1100020) (S 52) (S 1100021) (S 1100022) (3000 - (S 1084 0)) (S 1085 0) ∧ sm_PV (S 1100020) (S 48) (S 49) (S 50) (S 44) (S 1076 0) (S 1007 0) ∧ sm_AL (S 1100020) (S 48) (S 49) (S 50) (S 44) (S 1076 0) (S 1100032 0) ∧ sm_SV (S 1100020) (S 48) (S 1100029) (S 32) (S 33) (S 1076 0) (S 1032 0) ∧ 0 ≤ (S 1076 0) ∧ (S 1076 0) ≤ 300 ∧ 0 ≤ (S 1084 0) ∧ (S 1084 0) ≤ 3000 ∧ 0 ≤ (S 1086 0) ∧ sm_SC (S 1100029) (S 44) (S 45) (S 43) (S 21) (S 1076 0) (S 1032 0) ∧ sm_PO (S 42) (S 1076 0) ∧ ((p1 - (9 : Int)) = -1 ∨ (0 ≤ (p1 - (9 : Int)) ∧ (p1 - (9 : Int)) < (S 1076 0)) ∨ ((S 1076 0) = 0 ∧ (p1 - (9 : Int)) = 1)) ∧ ((S 1076 0) = 1 → (p1 - (9 : Int)) = -1) ∧ 0 ≤ (p1 + (11 : Int)) ∧ (p1 + (11 : Int)) ≤ 1000 ∧ 0 ≤ (0 : Int) ∧ (0 : Int) ≤ 3 ∧ ((0 : Int) = 2 → (S 1100032 0) = (S 1076 0))) ∧ (∀ r33 : Int, sv_R r33 → ∀ g29 : sv_S, (sm_PL (S 1100020) (S 51) (S 52) (g29 46) (g29 47) (g29 1076 0) (S 1086 0) ∧ sm_FR (S 1100020) (S 52) (S 1100021) (S 1100022) (3000 - (S 1084 0)) (S 1085 0) ∧ sm_PV (S 1100020) (S 48) (S 49) (S 50) (g29 44) (g29 1076 0) (S 1007 0) ∧ sm_AL (S 1100020) (S 48) (S 49) (S 50) (g29 44) (g29 1076 0) (S 1100032 0) ∧ sm_SV (S 1100020) (S 48) (g29 1100029) (S 32) (S 33) (g29 1076 0) (S 1032 0) ∧ 0 ≤ (g29 1076 0) ∧ (g29 1076 0) ≤ 300 ∧ 0 ≤ (S 1084 0) ∧ (S 1084 0) ≤ 3000 ∧ 0 ≤ (S 1086 0) ∧ sm_SC (g29 1100029) (g29 44) (g29 45) (g29 43) (S 21) (g29 1076 0) (S 1032 0) ∧ sm_PO (g29 42) (g29 1076 0) ∧ 0 ≤ r33 ∧ r33 < (g29 1076 0) ∧ ((S 1075 0) = 1 → (g29 1075 0) = 1) ∧ (S 1076 0) ≤ (g29 1076 0) ∧ sm_F1 (S 44) (g29 44) (S 1076 0) ∧ sm_F1 (S 1100029) (g29 1100029) (S 1076 0) ∧ sm_F1 (S 42) (g29 42) (S 1076 0) ∧ sm_F1 (S 43) (g29 43) (S 1076 0) ∧ sm_F1 (S 45) (g29 45) (S 1076 0) ∧ ((g29 1075 0) = 0 → r33 = (S 1076 0) ∧ (g29 1076 0) = r33 + 1 ∧ (g29 44 r33) = (0 : Int) ∧ (g29 1100029 r33) = 0 ∧ (g29 45 r33) = 0 ∧ (g29 43 r33) = -1 ∧ (g29 42 r33) = (p1 - (9 : Int))) ∧ ((g29 1076 0) = (S 1076 0) → r33 = 0) ∧ ((g29 1075 0) = 1 → (S 1075 0) = 0 → (g29 1076 0) = (S 1076 0)) ∧ (sm_FO (S 44) (S 45) (S 1076 0) → (¬ (0 : Int) = 1 ∨ (9 ≤ (S 1076 0) ∧ (S 1076 0) < 23)) → (1 ≤ (S 1076 0) ∨ ((S 1076 0) = 0 ∧ (0 : Int) = 0)) → sm_FO (g29 44) (g29 45) (g29 1076 0)) ∧ ((S 1076 0) < 300 → (g29 1075 0) = (S 1075 0) ∧ (g29 1076 0) = (S 1076 0) + 1)) → ((0 ≤ (g29 1075 0) ∧ (g29 1075 0) ≤ 1) → (((¬ (g29 1075 0) = (0 : Int)) → ((0 ≤ r33 → r33 < (g29 1076 0) → ¬ (g29 44 r33) = 3 → sm_VO (g29 44) (g29 1076 0) (S 1007 0) (7) (r33)) → (∀ g38 : sv_S, ((g38 1111 0) = (7 : Int) ∧ (g38 1112 0) = r33) → (sm_PL (S 1100020) (S 51) (S 52) (g29 46) (g29 47) (g29 1076 0) (S 1086 0) ∧ sm_FR (S 1100020) (S 52) (S 1100021) (S 1100022) (3000 - (S 1084 0)) (S 1085 0) ∧ sm_PV (S 1100020) (S 48) (S 49) (S 50) (g29 44) (g29 1076 0) (S 1007 0) ∧ sm_AL (S 1100020) (S 48) (S 49) (S 50) (g29 44) (g29 1076 0) (S 1100032 0) ∧ sm_SV (S 1100020) (S 48) (g29 1100029) (S 32) (S 33) (g29 1076 0) (S 1032 0) ∧ 0 ≤ (g29 1076 0) ∧ (g29 1076 0) ≤ 300 ∧ 0 ≤ (S 1084 0) ∧ (S 1084 0) ≤ 3000 ∧ 0 ≤ (S 1086 0) ∧ sm_SC (g29 1100029) (g29 44) (g29 45) (g29 43) (S 21) (g29 1076 0) (S 1032 0) ∧ sm_PO (g29 42) (g29 1076 0) ∧ ((g29 1075 0) = 0 → (S 1100032 0) = -1 ∧ sm_FO (g29 44) (g29 45) (g29 1076 0)) ∧ 23 ≤ (g29 1076 0) ∧ 31 ≤ (S 1007 0) ∧ (S 1007 0) ≤ 400 ∧ sm_LN (S 4) 400 (S 1007 0) ∧ (S 1008 0) ≤ (S 1007 0) ∧ ((S 1075 0) = 1 → (g29 1075 0) = 1) ∧ 0 ≤ (S 1092 0) ∧ (S 1092 0) ≤ 24 ∧ (S 1007 0) ≤ (S 1007 0) ∧ (¬ (g29 1075 0) = 0 → sm_LX (S 58) (S 63) (S 64) (S 1092 0) (g29 1076 0)) ∧ (S 1073 0) = 1 ∧ ((g29 1075 0) = 0 → sm_PL (S 1100020) (S 51) (S 52) (g29 46) (g29 47) (g29 1076 0) (S 1086 0) ∧ sm_FR (S 1100020) (S 52) (S 1100021) (S 1100022) (3000 - (S 1084 0)) (S 1085 0) ∧ sm_PV (S 1100020) (S 48) (S 49) (S 50) (g29 44) (g29 1076 0) (S 1007 0) ∧ sm_AL (S 1100020) (S 48) (S 49) (S 50) (g29 44) (g29 1076 0) (S 1100032 0) ∧ sm_SV (S 1100020) (S 48) (g29 1100029) (S 32) (S 33) (g29 1076 0) (S 1032 0) ∧ 0 ≤ (g29 1076 0) ∧ (g29 1076 0) ≤ 300 ∧ 0 ≤ (S 1084 0) ∧ (S 1084 0) ≤ 3000 ∧ 0 ≤ (S 1086 0) ∧ sm_SC (g29 1100029) (g29 44) (g29 45) (g29 43) (S 21) (g29 1076 0) (S 1032 0) ∧ sm_PO (g29 42) (g29 1076 0) ∧ (S 1100032 0) = -1 ∧ sm_FO (g29 44) (g29 45) (g29 1076 0) ∧ 23 ≤ (g29 1076 0) ∧ 31 ≤ (S 1007 0) ∧ (S 1007 0) ≤ 400 ∧ sm_LN (S 4) 400 (S 1007 0) ∧ sm_CT (S 26) (S 27) (S 28) (S 29) (S 1100007) (S 1100023) (S 1100024) (S 1100025) (S 21) (S 1046 0) (S 1032 0) (S 1008 0) (S 1055 0) ∧ sm_LS (S 26) (S 1100007) (S 1100025) (S 1046 0) ∧ sm_CL (S 1100007) (S 1100023) (S 1100025) (S 1046 0) ∧ 1 ≤ (S 1032 0) ∧ (S 1032 0) ≤ 11 ∧ 0 ≤ (S 1046 0) ∧ (S 1046 0) ≤ 600 ∧ 31 ≤ (S 1008 0) ∧ (S 1008 0) ≤ (S 1007 0) ∧ 0 ≤ (S 1055 0) ∧ (S 1055 0) ≤ 19 ∧ 1 ≤ (S 1092 0) ∧ (S 1092 0) ≤ 24 ∧ 0 ≤ (S 1100033 0) ∧ (S 1100033 0) < (S 1046 0) ∧ (S 29 (S 1100033 0)) = (S 53 ((S 1092 0) - 1)) ∧ 0 ≤ (S 53 ((S 1092 0) - 1)) ∧ (S 53 ((S 1092 0) - 1)) < (S 1032 0) ∧ (S 60 ((S 1092 0) - 1)) = sm_dp (S 1100024) (S 1100023 (S 1100033 0)) ∧ sm_TC (S 61) (S 62) (S 27) (S 1100007) (S 1100023) (S 1100024) (40 * ((S 1092 0) - 1)) (S 1100023 (S 1100033 0)) ∧ sm_LK (g29 1100029) (g29 1076 0) (S 54 ((S 1092 0) - 1)) (S 53 ((S 1092 0) - 1)) ∧ sm_VO (g29 44) (g29 1076 0) (S 1007 0) ((S 55 ((S 1092 0) - 1))) ((S 56 ((S 1092 0) - 1))) ∧ sm_FW (g29 44) (g29 1076 0) (S 59 ((S 1092 0) - 1)) ∧ sm_FL (S 53) (S 54) (S 55) (S 56) (S 57) (S 58) (S 59) (S 60) (S 61) (S 62) (S 63) (S 64) (S 27) (S 29) (S 1100007) (S 1100023) (S 1100024) (S 1100025) (S 26) (g29 1100029) (g29 44) (S 1046 0) (S 1032 0) (g29 1076 0) (S 1007 0) (((S 1092 0) - 1)) ∧ (S 57 ((S 1092 0) - 1)) = (S 1100033 0) ∧ 0 ≤ (S 58 ((S 1092 0) - 1)) ∧ (S 58 ((S 1092 0) - 1)) ≤ 400 ∧ sm_SK (S 63) (S 64) (g29 44) (S 1100007) (S 1100025) (g29 1076 0) (S 1007 0) (400 * ((S 1092 0) - 1)) ((S 58 ((S 1092 0) - 1))) ((S 1100034 0)) ∧ -1 ≤ (S 1100034 0) ∧ (S 1100034 0) < (S 1046 0) ∧ (0 ≤ (S 1100034 0) → (S 26 (S 1100034 0)) = 29) ∧ (S 58 ((S 1092 0) - 1)) = (S 58 ((S 1092 0) - 1)) ∧ sm_VO (g29 44) (g29 1076 0) (S 1007 0) ((g38 1111 0)) ((g38 1112 0))) ∧ (S 1086 0) ≤ (S 1086 0) ∧ (S 1086 0) ≤ (S 1086 0) + 3 ∧ 0 ≤ (S 1107 0) ∧ (S 1107 0) ≤ 100 ∧ sm_PT (S 67) (S 1107 0) (S 1007 0))))) ∧ ((¬ (¬ (g29 1075 0) = (0 : Int))) → (sv_R (S 1115 0) → ((((S 1115 0) ≤ (0 : Int)) → ((0 ≤ r33 → r33 < (g29 1076 0) → ¬ (g29 44 r33) = 3 → sm_VO (g29 44) (g29 1076 0) (S 1007 0) (7) (r33)) → (∀ g46 : sv_S, ((g46 1111 0) = (7 : Int) ∧ (g46 1112 0) = r33) → (sm_PL (S 1100020) (S 51) (S 52) (g29 46) (g29 47) (g29 1076 0) (S 1086 0) ∧ sm_FR (S 1100020) (S 52) (S 1100021) (S 1100022) (3000 - (S 1084 0)) (S 1085 0) ∧ sm_PV (S 1100020) (S 48) (S 49) (S 50) (g29 44) (g29 1076 0) (S 1007 0) ∧ sm_AL (S 1100020) (S 48) (S 49) (S 50) (g29 44) (g29 1076 0) (S 1100032 0) ∧ sm_SV (S 1100020) (S 48) (g29 1100029) (S 32) (S 33) (g29 1076 0) (S 1032 0) ∧ 0 ≤ (g29 1076 0) ∧ (g29 1076 0) ≤ 300 ∧ 0 ≤ (S 1084 0) ∧ (S 1084 0) ≤ 3000 ∧ 0 ≤ (S 1086 0) ∧ sm_SC (g29 1100029) (g29 44) (g29 45) (g29 43) (S 21) (g29 1076 0) (S 1032 0) ∧ sm_PO (g29 42) (g29 1076 0) ∧ ((g29 1075 0) = 0 → (S 1100032 0) = -1 ∧ sm_FO (g29 44) (g29 45) (g29 1076 0)) ∧ 23 ≤ (g29 1076 0) ∧ 31 ≤ (S 1007 0) ∧ (S 1007 0) ≤ 400 ∧ sm_LN (S 4) 400 (S 1007 0) ∧ (S 1008 0) ≤ (S 1007 0) ∧ ((S 1075 0) = 1 → (g29 1075 0) = 1) ∧ 0 ≤ (S 1092 0) ∧ (S 1092 0) ≤ 24 ∧ (S 1007 0) ≤ (S 1007 0) ∧ (¬ (g29 1075 0) = 0 → sm_LX (S 58) (S 63) (S 64) (S 1092 0) (g29 1076 0)) ∧ (S 1073 0) = 1 ∧ ((g29 1075 0) = 0 → sm_PL (S 1100020) (S 51) (S 52) (g29 46) (g29 47) (g29 1076 0) (S 1086 0) ∧ sm_FR (S 1100020) (S 52) (S 1100021) (S 1100022) (3000 - (S 1084 0)) (S 1085 0) ∧ sm_PV (S 1100020) (S 48) (S 49) (S 50) (g29 44) (g29 1076 0) (S 1007 0) ∧ sm_AL (S 1100020) (S 48) (S 49) (S 50) (g29 44) (g29 1076 0) (S 1100032 0) ∧ sm_SV (S 1100020) (S 48) (g29 1100029) (S 32) (S 33) (g29 1076 0) (S 1032 0) ∧ 0 ≤ (g29 1076 0) ∧ (g29 1076 0) ≤ 300 ∧ 0 ≤ (S 1084 0) ∧ (S 1084 0) ≤ 3000 ∧ 0 ≤ (S 1086 0) ∧ sm_SC (g29 1100029) (g29 44) (g29 45) (g29 43) (S 21) (g29 1076 0) (S 1032 0) ∧ sm_PO (g29 42) (g29 1076 0) ∧ (S 1100032 0) = -1 ∧ sm_FO (g29 44) (g29 45) (g29 1076 0) ∧ 23 ≤ (g29 1076 0) ∧ 31 ≤ (S 1007 0) ∧ (S 1007 0) ≤ 400 ∧ sm_LN (S 4) 400 (S 1007 0) ∧ sm_CT (S 26) (S 27) (S 28) (S 29) (S 1100007) (S 1100023) (S 1100024) (S 1100025) (S 21) (S 1046 0) (S 1032 0) (S 1008 0) (S 1055 0) ∧ sm_LS (S 26) (S 1100007) (S 1100025) (S 1046 0) ∧ sm_CL (S 1100007) (S 1100023) (S 1100025) (S 1046 0) ∧ 1 ≤ (S 1032 0) ∧ (S 1032 0) ≤ 11 ∧ 0 ≤ (S 1046 0) ∧ (S 1046 0) ≤ 600 ∧ 31 ≤ (S 1008 0) ∧ (S 1008 0) ≤ (S 1007 0) ∧ 0 ≤ (S 1055 0) ∧ (S 1055 0) ≤ 19 ∧ 1 ≤ (S 1092 0) ∧ (S 1092 0) ≤ 24 ∧ 0 ≤ (S 1100033 0) ∧ (S 1100033 0) < (S 1046 0) ∧ (S 29 (S 1100033 0)) = (S 53 ((S 1092 0) - 1)) ∧ 0 ≤ (S 53 ((S 1092 0) - 1)) ∧ (S 53 ((S 1092 0) - 1)) < (S 1032 0) ∧ (S 60 ((S 1092 0) - 1)) = sm_dp (S 1100024) (S 1100023 (S 1100033 0)) ∧ sm_TC (S 61) (S 62) (S 27) (S 1100007) (S 1100023) (S 1100024) (40 * ((S 1092 0) - 1)) (S 1100023 (S 1100033 0)) ∧ sm_LK (g29 1100029) (g29 1076 0) (S 54 ((S 1092 0) - 1)) (S 53 ((S 1092 0) - 1)) ∧ sm_VO (g29 44) (g29 1076 0) (S 1007 0) ((S 55 ((S 1092 0) - 1))) ((S 56 ((S 1092 0) - 1))) ∧ sm_FW (g29 44) (g29 1076 0) (S 59 ((S 1092 0) - 1)) ∧ sm_FL (S 53) (S 54) (S 55) (S 56) (S 57) (S 58) (S 59) (S 60) (S 61) (S 62) (S 63) (S 64) (S 27) (S 29) (S 1100007) (S 1100023) (S 1100024) (S 1100025) (S 26) (g29 1100029) (g29 44) (S 1046 0) (S 1032 0) (g29 1076 0) (S 1007 0) (((S 1092 0) - 1)) ∧ (S 57 ((S 1092 0) - 1)) = (S 1100033 0) ∧ 0 ≤ (S 58 ((S 1092 0) - 1)) ∧ (S 58 ((S 1092 0) - 1)) ≤ 400 ∧ sm_SK (S 63) (S 64) (g29 44) (S 1100007) (S 1100025) (g29 1076 0) (S 1007 0) (400 * ((S 1092 0) - 1)) ((S 58 ((S 1092 0) - 1))) ((S 1100034 0)) ∧ -1 ≤ (S 1100034 0) ∧ (S 1100034 0) < (S 1046 0) ∧ (0 ≤ (S 1100034 0) → (S 26 (S 1100034 0)) = 29) ∧ (S 58 ((S 1092 0) - 1)) = (S 58 ((S 1092 0) - 1)) ∧ sm_VO (g29 44) (g29 1076 0) (S 1007 0) ((g46 1111 0)) ((g46 1112 0))) ∧ (S 1086 0) ≤ (S 1086 0) ∧ (S 1086 0) ≤ (S 1086 0) + 3 ∧ 0 ≤ (S 1107 0) ∧ (S 1107 0) ≤ 100 ∧ sm_PT (S 67) (S 1107 0) (S 1007 0))))) ∧ ((¬ ((S 1115 0) ≤ (0 : Int))) → (31 ≤ (S 1007 0) ∧ (S 1007 0) ≤ 400 ∧ sm_LN (S 4) 400 (S 1007 0) ∧ (r6 = 6 → 0 ≤ r11 ∧ r11 < (S 1007 0))) ∧ (∀ r57 : Int, sv_R r57 → ∀ g53 : sv_S, (0 ≤ r57 ∧ r57 < (g53 1007 0) ∧ (r6 = 5 → 0 ≤ r11 → r11 ≤ 100 → (g53 1075 0) = 0 → (g53 4 r57) ≤ 3) ∧ (S 1007 0) ≤ (g53 1007 0) ∧ (g53 1007 0) ≤ 400 ∧ sm_LN (g53 4) 400 (g53 1007 0) ∧ ((g29 1075 0) = 1 → (g53 1075 0) = 1)) → ((0 ≤ (g53 1075 0) ∧ (g53 1075 0) ≤ 1) → (((¬ (g53 1075 0) = (0 : Int)) → ((0 ≤ r33 → r33 < (g29 1076 0) → ¬ (g29 44 r33) = 3 → sm_VO (g29 44) (g29 1076 0) (g53 1007 0) (7) (r33)) → (∀ g62 : sv_S, ((g62 1111 0) = (7 : Int) ∧ (g62 1112 0) = r33) → (sm_PL (S 1100020) (S 51) (S 52) (g29 46) (g29 47) (g29 1076 0) (S 1086 0) ∧ sm_FR (S 1100020) (S 52) (S 1100021) (S 1100022) (3000 - (S 1084 0)) (S 1085 0) ∧ sm_PV (S 1100020) (S 48) (S 49) (S 50) (g29 44) (g29 1076 0) (g53 1007 0) ∧ sm_AL (S 1100020) (S 48) (S 49) (S 50) (g29 44) (g29 1076 0) (S 1100032 0) ∧ sm_SV (S 1100020) (S 48) (g29 1100029) (S 32) (S 33) (g29 1076 0) (S 1032 0) ∧ 0 ≤ (g29 1076 0) ∧ (g29 1076 0) ≤ 300 ∧ 0 ≤ (S 1084 0) ∧ (S 1084 0) ≤ 3000 ∧ 0 ≤ (S 1086 0) ∧ sm_SC (g29 1100029) (g29 44) (g29 45) (g29 43) (S 21) (g29 1076 0) (S 1032 0) ∧ sm_PO (g29 42) (g29 1076 0) ∧ ((g53 1075 0) = 0 → (S 1100032 0) = -1 ∧ sm_FO (g29 44) (g29 45) (g29 1076 0)) ∧ 23 ≤ (g29 1076 0) ∧ 31 ≤ (g53 1007 0) ∧ (g53 1007 0) ≤ 400 ∧ sm_LN (g53 4) 400 (g53 1007 0) ∧ (S 1008 0) ≤ (g53 1007 0) ∧ ((S 1075 0) = 1 → (g53 1075 0) = 1) ∧ 0 ≤ (S 1092 0) ∧ (S 1092 0) ≤ 24 ∧ (S 1007 0) ≤ (g53 1007 0) ∧ (¬ (g53 1075 0) = 0 → sm_LX (S 58) (S 63) (S 64) (S 1092 0) (g29 1076 0)) ∧ (S 1073 0) = 1 ∧ ((g53 1075 0) = 0 → sm_PL (S 1100020) (S 51) (S 52) (g29 46) (g29 47) (g29 1076 0) (S 1086 0) ∧ sm_FR (S 1100020) (S 52) (S 1100021) (S 1100022) (3000 - (S 1084 0)) (S 1085 0) ∧ sm_PV (S 1100020) (S 48) (S 49) (S 50) (g29 44) (g29 1076 0) (g53 1007 0) ∧ sm_AL (S 1100020) (S 48) (S 49) (S 50) (g29 44) (g29 1076 0) (S 1100032 0) ∧ sm_SV (S 1100020) (S 48) (g29 1100029) (S 32) (S 33) (g29 1076 0) (S 1032 0) ∧ 0 ≤ (g29 1076 0) ∧ (g29 1076 0) ≤ 300 ∧ 0 ≤ (S 1084 0) ∧ (S 1084 0) ≤ 3000 ∧ 0 ≤ (S 1086 0) ∧ sm_SC (g29 1100029) (g29 44) (g29 45) (g29 43) (S 21) (g29 1076 0) (S 1032 0) ∧ sm_PO (g29 42) (g29 1076 0) ∧ (S 1100032 0) = -1 ∧ sm_FO (g29 44) (g29 45) (g29 1076 0) ∧ 23 ≤ (g29 1076 0) ∧ 31 ≤ (g53 1007 0) ∧ (g53 1007 0) ≤ 400 ∧ sm_LN (g53 4) 400 (g53 1007 0) ∧ sm_CT (S 26) (S 27) (S 28) (S 29) (S 1100007) (S 1100023) (S 1100024) (S 1100025) (S 21) (S 1046 0) (S 1032 0) (S 1008 0) (S 1055 0) ∧ sm_LS (S 26) (S 1100007) (S 1100025) (S 1046 0) ∧ sm_CL (S 1100007) (S 1100023) (S 1100025) (S 1046 0) ∧ 1 ≤ (S 1032 0) ∧ (S 1032 0) ≤ 11 ∧ 0 ≤ (S 1046 0) ∧ (S 1046 0) ≤ 600 ∧ 31 ≤ (S 1008 0) ∧ (S 1008 0) ≤ (g53 1007 0) ∧ 0 ≤ (S 1055 0) ∧ (S 1055 0) ≤ 19 ∧ 1 ≤ (S 1092 0) ∧ (S 1092 0) ≤ 24 ∧ 0 ≤ (S 1100033 0) ∧ (S 1100033 0) < (S 1046 0) ∧ (S 29 (S 1100033 0)) = (S 53 ((S 1092 0) - 1)) ∧ 0 ≤ (S 53 ((S 1092 0) - 1)) ∧ (S 53 ((S 1092 0) - 1)) < (S 1032 0) ∧ (S 60 ((S 1092 0) - 1)) = sm_dp (S 1100024) (S 1100023 (S 1100033 0)) ∧ sm_TC (S 61) (S 62) (S 27) (S 1100007) (S 1100023) (S 1100024) (40 * ((S 1092 0) - 1)) (S 1100023 (S 1100033 0)) ∧ sm_LK (g29 1100029) (g29 1076 0) (S 54 ((S 1092 0) - 1)) (S 53 ((S 1092 0) - 1)) ∧ sm_VO (g29 44) (g29 1076 0) (g53 1007 0) ((S 55 ((S 1092 0) - 1))) ((S 56 ((S 1092 0) - 1))) ∧ sm_FW (g29 44) (g29 1076 0) (S 59 ((S 1092 0) - 1)) ∧ sm_FL (S 53) (S 54) (S 55) (S 56) (S 57) (S 58) (S 59) (S 60) (S 61) (S 62) (S 63) (S 64) (S 27) (S 29) (S 1100007) (S 1100023) (S 1100024) (S 1100025) (S 26) (g29 1100029) (g29 44) (S 1046 0) (S 1032 0) (g29 1076 0) (g53 1007 0) (((S 1092 0) - 1)) ∧ (S 57 ((S 1092 0) - 1)) = (S 1100033 0) ∧ 0 ≤ (S 58 ((S 1092 0) - 1)) ∧ (S 58 ((S 1092 0) - 1)) ≤ 400 ∧ sm_SK (S 63) (S 64) (g29 44) (S 1100007) (S 1100025) (g29 1076 0) (g53 1007 0) (400 * ((S 1092 0) - 1)) ((S 58 ((S 1092 0) - 1))) ((S 1100034 0)) ∧ -1 ≤ (S 1100034 0) ∧ (S 1100034 0) < (S 1046 0) ∧ (0 ≤ (S 1100034 0) → (S 26 (S 1100034 0)) = 29) ∧ (S 58 ((S 1092 0) - 1)) = (S 58 ((S 1092 0) - 1)) ∧ sm_VO (g29 44) (g29 1076 0) (g53 1007 0) ((g62 1111 0)) ((g62 1112 0))) ∧ (S 1086 0) ≤ (S 1086 0) ∧ (S 1086 0) ≤ (S 1086 0) + 3 ∧ 0 ≤ (S 1107 0) ∧ (S 1107 0) ≤ 100 ∧ sm_PT (S 67) (S 1107 0) (g53 1007 0))))) ∧ ((¬ (¬ (g53 1075 0) = (0 : Int))) → (sm_PL (S 1100020) (S 51) (S 52) (g29 46) (g29 47) (g29 1076 0) (S 1086 0) ∧ sm_FR (S 1100020) (S 52) (S 1100021) (S 1100022) (3000 - (S 1084 0)) (S 1085 0) ∧ sm_PV (S 1100020) (S 48) (S 49) (S 50) (g29 44) (g29 1076 0) (g53 1007 0) ∧ sm_AL (S 1100020) (S 48) (S 49) (S 50) (g29 44) (g29 1076 0) (S 1100032 0) ∧ sm_SV (S 1100020) (S 48) (g29 1100029) (S 32) (S 33) (g29 1076 0) (S 1032 0) ∧ 0 ≤ (g29 1076 0) ∧ (g29 1076 0) ≤ 300 ∧ 0 ≤ (S 1084 0) ∧ (S 1084 0) ≤ 3000 ∧ 0 ≤ (S 1086 0) ∧ 0 ≤ r33 ∧ r33 < (g29 1076 0) ∧ 0 ≤ (3 : Int) ∧ (3 : Int) < (g53 1007 0) ∧ sm_VO (g29 44) (g29 1076 0) (g53 1007 0) ((6 : Int)) (r57) ∧ ((g29 44 r33) = 2 → (3 : Int) = 0 → (6 : Int) = 5 ∧ 0 ≤ r57 ∧ r57 ≤ 100) ∧ (S 1086 0) < 2000000000) ∧ (∀ g69 : sv_S, (sm_PL (g69 1100020) (g69 51) (g69 52) (g69 46) (g69 47) (g29 1076 0) (g69 1086 0) ∧ sm_FR (g69 1100020) (g69 52) (g69 1100021) (g69 1100022) (3000 - (g69 1084 0)) (g69 1085 0) ∧ sm_PV (g69 1100020) (g69 48) (g69 49) (g69 50) (g29 44) (g29 1076 0) (g53 1007 0) ∧ sm_AL (g69 1100020) (g69 48) (g69 49) (g69 50) (g29 44) (g29 1076 0) (S 1100032 0) ∧ sm_SV (g69 1100020) (g69 48) (g29 1100029) (S 32) (S 33) (g29 1076 0) (S 1032 0) ∧ 0 ≤ (g29 1076 0) ∧ (g29 1076 0) ≤ 300 ∧ 0 ≤ (g69 1084 0) ∧ (g69 1084 0) ≤ 3000 ∧ 0 ≤ (g69 1086 0) ∧ sm_KP (S 1100020) (S 48) (g69 1100020) (g69 48) ∧ ((g53 1075 0) = 1 → (g69 1075 0) = 1) ∧ ((g69 1075 0) = 0 → sm_HN (g69 1100020) (g69 48) r33 (3 : Int)) ∧ (S 1086 0) ≤ (g69 1086 0) ∧ (g69 1086 0) ≤ (S 1086 0) + 1 ∧ ((S 1084 0) < 3000 → (g69 1075 0) = (g53 1075 0)) ∧ (g69 1084 0) ≤ (S 1084 0) + 1) → ((0 ≤ r33 → r33 < (g29 1076 0) → ¬ (g29 44 r33) = 3 → sm_VO (g29 44) (g29 1076 0) (g53 1007 0) (7) (r33)) → (∀ g76 : sv_S, ((g76 1111 0) = (7 : Int) ∧ (g76 1112 0) = r33) → (sm_PL (g69 1100020) (g69 51) (g69 52) (g69 46) (g69 47) (g29 1076 0) (g69 1086 0) ∧ sm_FR (g69 1100020) (g69 52) (g69 1100021) (g69 1100022) (3000 - (g69 1084 0)) (g69 1085 0) ∧ sm_PV (g69 1100020) (g69 48) (g69 49) (g69 50) (g29 44) (g29 1076 0) (g53 1007 0) ∧ sm_AL (g69 1100020) (g69 48) (g69 49) (g69 50) (g29 44) (g29 1076 0) (S 1100032 0) ∧ sm_SV (g69 1100020) (g69 48) (g29 1100029) (S 32) (S 33) (g29 1076 0) (S 1032 0) ∧ 0 ≤ (g29 1076 0) ∧ (g29 1076 0) ≤ 300 ∧ 0 ≤ (g69 1084 0) ∧ (g69 1084 0) ≤ 3000 ∧ 0 ≤ (g69 1086 0) ∧ sm_SC (g29 1100029) (g29 44) (g29 45) (g29 43) (S 21) (g29 1076 0) (S 1032 0) ∧ sm_PO (g29 42) (g29 1076 0) ∧ ((g69 1075 0) = 0 → (S 1100032 0) = -1 ∧ sm_FO (g29 44) (g29 45) (g29 1076 0)) ∧ 23 ≤ (g29 1076 0) ∧ 31 ≤ (g53 1007 0) ∧ (g53 1007 0) ≤ 400 ∧ sm_LN (g53 4) 400 (g53 1007 0) ∧ (S 1008 0) ≤ (g53 1007 0) ∧ ((S 1075 0) = 1 → (g69 1075 0) = 1) ∧ 0 ≤ (S 1092 0) ∧ (S 1092 0) ≤ 24 ∧ (S 1007 0) ≤ (g53 1007 0) ∧ (¬ (g69 1075 0) = 0 → sm_LX (S 58) (S 63) (S 64) (S 1092 0) (g29 1076 0)) ∧ (S 1073 0) = 1 ∧ ((g69 1075 0) = 0 → sm_PL (g69 1100020) (g69 51) (g69 52) (g69 46) (g69 47) (g29 1076 0) (g69 1086 0) ∧ sm_FR (g69 1100020) (g69 52) (g69 1100021) (g69 1100022) (3000 - (g69 1084 0)) (g69 1085 0) ∧ sm_PV (g69 1100020) (g69 48) (g69 49) (g69 50) (g29 44) (g29 1076 0) (g53 1007 0) ∧ sm_AL (g69 1100020) (g69 48) (g69 49) (g69 50) (g29 44) (g29 1076 0) (S 1100032 0) ∧ sm_SV (g69 1100020) (g69 48) (g29 1100029) (S 32) (S 33) (g29 1076 0) (S 1032 0) ∧ 0 ≤ (g29 1076 0) ∧ (g29 1076 0) ≤ 300 ∧ 0 ≤ (g69 1084 0) ∧ (g69 1084 0) ≤ 3000 ∧ 0 ≤ (g69 1086 0) ∧ sm_SC (g29 1100029) (g29 44) (g29 45) (g29 43) (S 21) (g29 1076 0) (S 1032 0) ∧ sm_PO (g29 42) (g29 1076 0) ∧ (S 1100032 0) = -1 ∧ sm_FO (g29 44) (g29 45) (g29 1076 0) ∧ 23 ≤ (g29 1076 0) ∧ 31 ≤ (g53 1007 0) ∧ (g53 1007 0) ≤ 400 ∧ sm_LN (g53 4) 400 (g53 1007 0) ∧ sm_CT (S 26) (S 27) (S 28) (S 29) (S 1100007) (S 1100023) (S 1100024) (S 1100025) (S 21) (S 1046 0) (S 1032 0) (S 1008 0) (S 1055 0) ∧ sm_LS (S 26) (S 1100007) (S 1100025) (S 1046 0) ∧ sm_CL (S 1100007) (S 1100023) (S 1100025) (S 1046 0) ∧ 1 ≤ (S 1032 0) ∧ (S 1032 0) ≤ 11 ∧ 0 ≤ (S 1046 0) ∧ (S 1046 0) ≤ 600 ∧ 31 ≤ (S 1008 0) ∧ (S 1008 0) ≤ (g53 1007 0) ∧ 0 ≤ (S 1055 0) ∧ (S 1055 0) ≤ 19 ∧ 1 ≤ (S 1092 0) ∧ (S 1092 0) ≤ 24 ∧ 0 ≤ (S 1100033 0) ∧ (S 1100033 0) < (S 1046 0) ∧ (S 29 (S 1100033 0)) = (S 53 ((S 1092 0) - 1)) ∧ 0 ≤ (S 53 ((S 1092 0) - 1)) ∧ (S 53 ((S 1092 0) - 1)) < (S 1032 0) ∧ (S 60 ((S 1092 0) - 1)) = sm_dp (S 1100024) (S 1100023 (S 1100033 0)) ∧ sm_TC (S 61) (S 62) (S 27) (S 1100007) (S 1100023) (S 1100024) (40 * ((S 1092 0) - 1)) (S 1100023 (S 1100033 0)) ∧ sm_LK (g29 1100029) (g29 1076 0) (S 54 ((S 1092 0) - 1)) (S 53 ((S 1092 0) - 1)) ∧ sm_VO (g29 44) (g29 1076 0) (g53 1007 0) ((S 55 ((S 1092 0) - 1))) ((S 56 ((S 1092 0) - 1))) ∧ sm_FW (g29 44) (g29 1076 0) (S 59 ((S 1092 0) - 1)) ∧ sm_FL (S 53) (S 54) (S 55) (S 56) (S 57) (S 58) (S 59) (S 60) (S 61) (S 62) (S 63) (S 64) (S 27) (S 29) (S 1100007) (S 1100023) (S 1100024) (S 1100025) (S 26) (g29 1100029) (g29 44) (S 1046 0) (S 1032 0) (g29 1076 0) (g53 1007 0) (((S 1092 0) - 1)) ∧ (S 57 ((S 1092 0) - 1)) = (S 1100033 0) ∧ 0 ≤ (S 58 ((S 1092 0) - 1)) ∧ (S 58 ((S 1092 0) - 1)) ≤ 400 ∧ sm_SK (S 63) (S 64) (g29 44) (S 1100007) (S 1100025) (g29 1076 0) (g53 1007 0) (400 * ((S 1092 0) - 1)) ((S 58 ((S 1092 0) - 1))) ((S 1100034 0)) ∧ -1 ≤ (S 1100034 0) ∧ (S 1100034 0) < (S 1046 0) ∧ (0 ≤ (S 1100034 0) → (S 26 (S 1100034 0)) = 29) ∧ (S 58 ((S 1092 0) - 1)) = (S 58 ((S 1092 0) - 1)) ∧ sm_VO (g29 44) (g29 1076 0) (g53 1007 0) ((g76 1111 0)) ((g76 1112 0))) ∧ (S 1086 0) ≤ (g69 1086 0) ∧ (g69 1086 0) ≤ (S 1086 0) + 3 ∧ 0 ≤ (S 1107 0) ∧ (S 1107 0) ≤ 100 ∧ sm_PT (S 67) (S 1107 0) (g53 1007 0))))))))))))))))) ∧ ((p1 = (9 : Int)) → (31 ≤ (S 1007 0) ∧ (S 1007 0) ≤ 400 ∧ sm_LN (S 4) 400 (S 1007 0) ∧ (r6 = 6 → 0 ≤ r11 ∧ r11 < (S 1007 0))) ∧ (∀ r87 : Int, sv_R r87 → ∀ g83 : sv_S, (0 ≤ r87 ∧ r87 < (g83 1007 0) ∧ (r6 = 5 → 0 ≤ r11 → r11 ≤ 100 → (g83 1075 0) = 0 → (g83 4 r87) ≤ 3) ∧ (S 1007 0) ≤ (g83 1007 0) ∧ (g83 1007 0) ≤ 400 ∧ sm_LN (g83 4) 400 (g83 1007 0) ∧ ((S 1075 0) = 1 → (g83 1075 0) = 1)) → ((∀ g90 : sv_S, (((g83 1075 0) = 0 → 0 ≤ (g90 1107 0) ∧ (g90 1107 0) ≤ 100 ∧ sm_PT (g90 67) (g90 1107 0) (g83 1007 0)) ∧ 0 ≤ (g90 1107 0) ∧ (g90 1107 0) ≤ 100 ∧ 0 ≤ (g90 1107 0) ∧ (g90 1107 0) ≤ 100 ∧ sm_PT (g90 67) (g90 1107 0) (g83 1007 0)) → (∀ g96 : sv_S, ((g96 1111 0) = (0 : Int) ∧ (g96 1112 0) = (0 : Int)) → (sm_PL (S 1100020) (S 51) (S 52) (S 46) (S 47) (S 1076 0) (S 1086 0) ∧ sm_FR (S 1100020) (S 52) (S 1100021) (S 1100022) (3000 - (S 1084 0)) (S 1085 0) ∧ sm_PV (S 1100020) (S 48) (S 49) (S 50) (S 44) (S 1076 0) (g83 1007 0) ∧ sm_AL (S 1100020) (S 48) (S 49) (S 50) (S 44) (S 1076 0) (S 1100032 0) ∧ sm_SV (S 1100020) (S 48) (S 1100029) (S 32) (S 33) (S 1076 0) (S 1032 0) ∧ 0 ≤ (S 1076 0) ∧ (S 1076 0) ≤ 300 ∧ 0 ≤ (S 1084 0) ∧ (S 1084 0) ≤ 3000 ∧ 0 ≤ (S 1086 0) ∧ sm_SC (S 1100029) (S 44) (S 45) (S 43) (S 21) (S 1076 0) (S 1032 0) ∧ sm_PO (S 42) (S 1076 0) ∧ ((g83 1075 0) = 0 → (S 1100032 0) = -1 ∧ sm_FO (S 44) (S 45) (S 1076 0)) ∧ 23 ≤ (S 1076 0) ∧ 31 ≤ (g83 1007 0) ∧ (g83 1007 0) ≤ 400 ∧ sm_LN (g83 4) 400 (g83 1007 0) ∧ (S 1008 0) ≤ (g83 1007 0) ∧ ((S 1075 0) = 1 → (g83 1075 0) = 1) ∧ 0 ≤ (S 1092 0) ∧ (S 1092 0) ≤ 24 ∧ (S 1007 0) ≤ (g83 1007 0) ∧ (¬ (g83 1075 0) = 0 → sm_LX (S 58) (S 63) (S 64) (S 1092 0) (S 1076 0)) ∧ (S 1073 0) = 1 ∧ ((g83 1075 0) = 0 → sm_PL (S 1100020) (S 51) (S 52) (S 46) (S 47) (S 1076 0) (S 1086 0) ∧ sm_FR (S 1100020) (S 52) (S 1100021) (S 1100022) (3000 - (S 1084 0)) (S 1085 0) ∧ sm_PV (S 1100020) (S 48) (S 49) (S 50) (S 44) (S 1076 0) (g83 1007 0) ∧ sm_AL (S 1100020) (S 48) (S 49) (S 50) (S 44) (S 1076 0) (S 1100032 0) ∧ sm_SV (S 1100020) (S 48) (S 1100029) (S 32) (S 33) (S 1076 0) (S 1032 0) ∧ 0 ≤ (S 1076 0) ∧ (S 1076 0) ≤ 300 ∧ 0 ≤ (S 1084 0) ∧ (S 1084 0) ≤ 3000 ∧ 0 ≤ (S 1086 0) ∧ sm_SC (S 1100029) (S 44) (S 45) (S 43) (S 21) (S 1076 0) (S 1032 0) ∧ sm_PO (S 42) (S 1076 0) ∧ (S 1100032 0) = -1 ∧ sm_FO (S 44) (S 45) (S 1076 0) ∧ 23 ≤ (S 1076 0) ∧ 31 ≤ (g83 1007 0) ∧ (g83 1007 0) ≤ 400 ∧ sm_LN (g83 4) 400 (g83 1007 0) ∧ sm_CT (S 26) (S 27) (S 28) (S 29) (S 1100007) (S 1100023) (S 1100024) (S 1100025) (S 21) (S 1046 0) (S 1032 0) (S 1008 0) (S 1055 0) ∧ sm_LS (S 26) (S 1100007) (S 1100025) (S 1046 0) ∧ sm_CL (S 1100007) (S 1100023) (S 1100025) (S 1046 0) ∧ 1 ≤ (S 1032 0) ∧ (S 1032 0) ≤ 11 ∧ 0 ≤ (S 1046 0) ∧ (S 1046 0) ≤ 600 ∧ 31 ≤ (S 1008 0) ∧ (S 1008 0) ≤ (g83 1007 0) ∧ 0 ≤ (S 1055 0) ∧ (S 1055 0) ≤ 19 ∧ 1 ≤ (S 1092 0) ∧ (S 1092 0) ≤ 24 ∧ 0 ≤ (S 1100033 0) ∧ (S 1100033 0) < (S 1046 0) ∧ (S 29 (S 1100033 0)) = (S 53 ((S 1092 0) - 1)) ∧ 0 ≤ (S 53 ((S 1092 0) - 1)) ∧ (S 53 ((S 1092 0) - 1)) < (S 1032 0) ∧ (S 60 ((S 1092 0) - 1)) = sm_dp (S 1100024) (S 1100023 (S 1100033 0)) ∧ sm_TC (S 61) (S 62) (S 27) (S 1100007) (S 1100023) (S 1100024) (40 * ((S 1092 0) - 1)) (S 1100023 (S 1100033 0)) ∧ sm_LK (S 1100029) (S 1076 0) (S 54 ((S 1092 0) - 1)) (S 53 ((S 1092 0) - 1)) ∧ sm_VO (S 44) (S 1076 0) (g83 1007 0) ((S 55 ((S 1092 0) - 1))) ((S 56 ((S 1092 0) - 1))) ∧ sm_FW (S 44) (S 1076 0) (S 59 ((S 1092 0) - 1)) ∧ sm_FL (S 53) (S 54) (S 55) (S 56) (S 57) (S 58) (S 59) (S 60) (S 61) (S 62) (S 63) (S 64) (S 27) (S 29) (S 1100007) (S 1100023) (S 1100024) (S 1100025) (S 26) (S 1100029) (S 44) (S 1046 0) (S 1032 0) (S 1076 0) (g83 1007 0) (((S 1092 0) - 1)) ∧ (S 57 ((S 1092 0) - 1)) = (S 1100033 0) ∧ 0 ≤ (S 58 ((S 1092 0) - 1)) ∧ (S 58 ((S 1092 0) - 1)) ≤ 400 ∧ sm_SK (S 63) (S 64) (S 44) (S 1100007) (S 1100025) (S 1076 0) (g83 1007 0) (400 * ((S 1092 0) - 1)) ((S 58 ((S 1092 0) - 1))) ((S 1100034 0)) ∧ -1 ≤ (S 1100034 0) ∧ (S 1100034 0) < (S 1046 0) ∧ (0 ≤ (S 1100034 0) → (S 26 (S 1100034 0)) = 29) ∧ (S 58 ((S 1092 0) - 1)) = (S 58 ((S 1092 0) - 1)) ∧ sm_VO (S 44) (S 1076 0) (g83 1007 0) ((g96 1111 0)) ((g96 1112 0))) ∧ (S 1086 0) ≤ (S 1086 0) ∧ (S 1086 0) ≤ (S 1086 0) + 3 ∧ 0 ≤ (g90 1107 0) ∧ (g90 1107 0) ≤ 100 ∧ sm_PT (g90 67) (g90 1107 0) (g83 1007 0)))) ∧ ((0 ≤ (g83 1075 0) ∧ (g83 1075 0) ≤ 1) → (((¬ (g83 1075 0) = (0 : Int)) → (((g83 1075 0) = 0 → 0 ≤ (S 1107 0) ∧ (S 1107 0) ≤ 100 ∧ sm_PT (S 67) (S 1107 0) (g83 1007 0)) ∧ 0 ≤ (S 1107 0) ∧ (S 1107 0) ≤ 100 ∧ 0 ≤ (S 1107 0) ∧ (S 1107 0) ≤ 100 ∧ sm_PT (S 67) (S 1107 0) (g83 1007 0))) ∧ ((¬ (¬ (g83 1075 0) = (0 : Int))) → (sv_R (S 1107 0) → ((((100 : Int) ≤ (S 1107 0)) → (((g83 1075 0) = 0 → 0 ≤ (S 1107 0) ∧ (S 1107 0) ≤ 100 ∧ sm_PT (S 67) (S 1107 0) (g83 1007 0)) ∧ 0 ≤ (S 1107 0) ∧ (S 1107 0) ≤ 100 ∧ 0 ≤ (S 1107 0) ∧ (S 1107 0) ≤ 100 ∧ sm_PT (S 67) (S 1107 0) (g83 1007 0))) ∧ ((¬ ((100 : Int) ≤ (S 1107 0))) → (0 ≤ (S 1107 0) ∧ (S 1107 0) < 100) ∧ (sv_R ((S 1107 0) + (1 : Int))) ∧ (((g83 1075 0) = 0 → 0 ≤ ((S 1107 0) + (1 : Int)) ∧ ((S 1107 0) + (1 : Int)) ≤ 100 ∧ sm_PT (fun i' : Int => if i' = (S 1107 0) then r87 else (S 67) i') ((S 1107 0) + (1 : Int)) (g83 1007 0)) ∧ 0 ≤ ((S 1107 0) + (1 : Int)) ∧ ((S 1107 0) + (1 : Int)) ≤ 100 ∧ 0 ≤ ((S 1107 0) + (1 : Int)) ∧ ((S 1107 0) + (1 : Int)) ≤ 100 ∧ sm_PT (fun i' : Int => if i' = (S 1107 0) then r87 else (S 67) i') ((S 1107 0) + (1 : Int)) (g83 1007 0))))))))))) ∧ ((p1 = (10 : Int)) → (sm_PL (S 1100020) (S 51) (S 52) (S 46) (S 47) (S 1076 0) (S 1086 0) ∧ sm_FR (S 1100020) (S 52) (S 1100021) (S 1100022) (3000 - (S 1084 0)) (S 1085 0) ∧ sm_PV (S 1100020) (S 48) (S 49) (S 50) (S 44) (S 1076 0) (S 1007 0) ∧ sm_AL (S 1100020) (S 48) (S 49) (S 50) (S 44) (S 1076 0) (S 1100032 0) ∧ sm_SV (S 1100020) (S 48) (S 1100029) (S 32) (S 33) (S 1076 0) (S 1032 0) ∧ 0 ≤ (S 1076 0) ∧ (S 1076 0) ≤ 300 ∧ 0 ≤ (S 1084 0) ∧ (S 1084 0) ≤ 3000 ∧ 0 ≤ (S 1086 0) ∧ sm_SC (S 1100029) (S 44) (S 45) (S 43) (S 21) (S 1076 0) (S 1032 0) ∧ sm_PO (S 42) (S 1076 0) ∧ ((1 : Int) = -1 ∨ (0 ≤ (1 : Int) ∧ (1 : Int) < (S 1076 0)) ∨ ((S 1076 0) = 0 ∧ (1 : Int) = 1)) ∧ ((S 1076 0) = 1 → (1 : Int) = -1) ∧ 0 ≤ (23 : Int) ∧ (23 : Int) ≤ 1000 ∧ 0 ≤ (0 : Int) ∧ (0 : Int) ≤ 3 ∧ ((0 : Int) = 2 → (S 1100032 0) = (S 1076 0))) ∧ (∀ r120 : Int, sv_R r120 → ∀ g116 : sv_S, (sm_PL (S 1100020) (S 51) (S 52) (g116 46) (g116 47) (g116 1076 0) (S 1086 0) ∧ sm_FR (S 1100020) (S 52) (S 1100021) (S 1100022) (3000 - (S 1084 0)) (S 1085 0) ∧ sm_PV (S 1100020) (S 48) (S 49) (S 50) (g116 44) (g116 1076 0) (S 1007 0) ∧ sm_AL (S 1100020) (S 48) (S 49) (S 50) (g116 44) (g116 1076 0) (S 1100032 0) ∧ sm_SV (S 1100020) (S 48) (g116 1100029) (S 32) (S 33) (g116 1076 0) (S 1032 0) ∧ 0 ≤ (g116 1076 0) ∧ (g116 1076 0) ≤ 300 ∧ 0 ≤ (S 1084 0) ∧ (S 1084 0) ≤ 3000 ∧ 0 ≤ (S 1086 0) ∧ sm_SC (g116 1100029) (g116 44) (g116 45) (g116 43) (S 21) (g116 1076 0) (S 1032 0) ∧ sm_PO (g116 42) (g116 1076 0) ∧ 0 ≤ r120 ∧ r120 < (g116 1076 0) ∧ ((S 1075 0) = 1 → (g116 1075 0) = 1) ∧ (S 1076 0) ≤ (g116 1076 0) ∧ sm_F1 (S 44) (g116 44) (S 1076 0) ∧ sm_F1 (S 1100029) (g116 1100029) (S 1076 0) ∧ sm_F1 (S 42) (g116 42) (S 1076 0) ∧ sm_F1 (S 43) (g116 43) (S 1076 0) ∧ sm_F1 (S 45) (g116 45) (S 1076 0) ∧ ((g116 1075 0) = 0 → r120 = (S 1076 0) ∧ (g116 1076 0) = r120 + 1 ∧ (g116 44 r120) = (0 : Int) ∧ (g116 1100029 r120) = 0 ∧ (g116 45 r120) = 0 ∧ (g116 43 r120) = -1 ∧ (g116 42 r120) = (1 : Int)) ∧ ((g116 1076 0) = (S 1076 0) → r120 = 0) ∧ ((g116 1075 0) = 1 → (S 1075 0) = 0 → (g116 1076 0) = (S 1076 0)) ∧ (sm_FO (S 44) (S 45) (S 1076 0) → (¬ (0 : Int) = 1 ∨ (9 ≤ (S 1076 0) ∧ (S 1076 0) < 23)) → (1 ≤ (S 1076 0) ∨ ((S 1076 0) = 0 ∧ (0 : Int) = 0)) → sm_FO (g116 44) (g116 45) (g116 1076 0)) ∧ ((S 1076 0) < 300 → (g116 1075 0) = (S 1075 0) ∧ (g116 1076 0) = (S 1076 0) + 1)) → ((0 ≤ r120 → r120 < (g116 1076 0) → ¬ (g116 44 r120) = 3 → sm_VO (g116 44) (g116 1076 0) (S 1007 0) (7) (r120)) → (∀ g124 : sv_S, ((g124 1111 0) = (7 : Int) ∧ (g124 1112 0) = r120) → (sm_PL (S 1100020) (S 51) (S 52) (g116 46) (g116 47) (g116 1076 0) (S 1086 0) ∧ sm_FR (S 1100020) (S 52) (S 1100021) (S 1100022) (3000 - (S 1084 0)) (S 1085 0) ∧ sm_PV (S 1100020) (S 48) (S 49) (S 50) (g116 44) (g116 1076 0) (S 1007 0) ∧ sm_AL (S 1100020) (S 48) (S 49) (S 50) (g116 44) (g116 1076 0) (S 1100032 0) ∧ sm_SV (S 1100020) (S 48) (g116 1100029) (S 32) (S 33) (g116 1076 0) (S 1032 0) ∧ 0 ≤ (g116 1076 0) ∧ (g116 1076 0) ≤ 300 ∧ 0 ≤ (S 1084 0) ∧ (S 1084 0) ≤ 3000 ∧ 0 ≤ (S 1086 0) ∧ sm_SC (g116 1100029) (g116 44) (g116 45) (g116 43) (S 21) (g116 1076 0) (S 1032 0) ∧ sm_PO (g116 42) (g116 1076 0) ∧ ((g116 1075 0) = 0 → (S 1100032 0) = -1 ∧ sm_FO (g116 44) (g116 45) (g116 1076 0)) ∧ 23 ≤ (g116 1076 0) ∧ 31 ≤ (S 1007 0) ∧ (S 1007 0) ≤ 400 ∧ sm_LN (S 4) 400 (S 1007 0) ∧ (S 1008 0) ≤ (S 1007 0) ∧ ((S 1075 0) = 1 → (g116 1075 0) = 1) ∧ 0 ≤ (S 1092 0) ∧ (S 1092 0) ≤ 24 ∧ (S 1007 0) ≤ (S 1007 0) ∧ (¬ (g116 1075 0) = 0 → sm_LX (S 58) (S 63) (S 64) (S 1092 0) (g116 1076 0)) ∧ (S 1073 0) = 1 ∧ ((g116 1075 0) = 0 → sm_PL (S 1100020) (S 51) (S 52) (g116 46) (g116 47) (g116 1076 0) (S 1086 0) ∧ sm_FR (S 1100020) (S 52) (S 1100021) (S 1100022) (3000 - (S 1084 0)) (S 1085 0) ∧ sm_PV (S 1100020) (S 48) (S 49) (S 50) (g116 44) (g116 1076 0) (S 1007 0) ∧ sm_AL (S 1100020) (S 48) (S 49) (S 50) (g116 44) (g116 1076 0) (S 1100032 0) ∧ sm_SV (S 1100020) (S 48) (g116 1100029) (S 32) (S 33) (g116 1076 0) (S 1032 0) ∧ 0 ≤ (g116 1076 0) ∧ (g116 1076 0) ≤ 300 ∧ 0 ≤ (S 1084 0) ∧ (S 1084 0) ≤ 3000 ∧ 0 ≤ (S 1086 0) ∧ sm_SC (g116 1100029) (g116 44) (g116 45) (g116 43) (S 21) (g116 1076 0) (S 1032 0) ∧ sm_PO (g116 42) (g116 1076 0) ∧ (S 1100032 0) = -1 ∧ sm_FO (g116 44) (g116 45) (g116 1076 0) ∧ 23 ≤ (g116 1076 0) ∧ 31 ≤ (S 1007 0) ∧ (S 1007 0) ≤ 400 ∧ sm_LN (S 4) 400 (S 1007 0) ∧ sm_CT (S 26) (S 27) (S 28) (S 29) (S 1100007) (S 1100023) (S 1100024) (S 1100025) (S 21) (S 1046 0) (S 1032 0) (S 1008 0) (S 1055 0) ∧ sm_LS (S 26) (S 1100007) (S 1100025) (S 1046 0) ∧ sm_CL (S 1100007) (S 1100023) (S 1100025) (S 1046 0) ∧ 1 ≤ (S 1032 0) ∧ (S 1032 0) ≤ 11 ∧ 0 ≤ (S 1046 0) ∧ (S 1046 0) ≤ 600 ∧ 31 ≤ (S 1008 0) ∧ (S 1008 0) ≤ (S 1007 0) ∧ 0 ≤ (S 1055 0) ∧ (S 1055 0) ≤ 19 ∧ 1 ≤ (S 1092 0) ∧ (S 1092 0) ≤ 24 ∧ 0 ≤ (S 1100033 0) ∧ (S 1100033 0) < (S 1046 0) ∧ (S 29 (S 1100033 0)) = (S 53 ((S 1092 0) - 1)) ∧ 0 ≤ (S 53 ((S 1092 0) - 1)) ∧ (S 53 ((S 1092 0) - 1)) < (S 1032 0) ∧ (S 60 ((S 1092 0) - 1)) = sm_dp (S 1100024) (S 1100023 (S 1100033 0)) ∧ sm_TC (S 61) (S 62) (S 27) (S 1100007) (S 1100023) (S 1100024) (40 * ((S 1092 0) - 1)) (S 1100023 (S 1100033 0)) ∧ sm_LK (g116 1100029) (g116 1076 0) (S 54 ((S 1092 0) - 1)) (S 53 ((S 1092 0) - 1)) ∧ sm_VO (g116 44) (g116 1076 0) (S 1007 0) ((S 55 ((S 1092 0) - 1))) ((S 56 ((S 1092 0) - 1))) ∧ sm_FW (g116 44) (g116 1076 0) (S 59 ((S 1092 0) - 1)) ∧ sm_FL (S 53) (S 54) (S 55) (S 56) (S 57) (S 58) (S 59) (S 60) (S 61) (S 62) (S 63) (S 64) (S 27) (S 29) (S 1100007) (S 1100023) (S 1100024) (S 1100025) (S 26) (g116 1100029) (g116 44) (S 1046 0) (S 1032 0) (g116 1076 0) (S 1007 0) (((S 1092 0) - 1)) ∧ (S 57 ((S 1092 0) - 1)) = (S 1100033 0) ∧ 0 ≤ (S 58 ((S 1092 0) - 1)) ∧ (S 58 ((S 1092 0) - 1)) ≤ 400 ∧ sm_SK (S 63) (S 64) (g116 44) (S 1100007) (S 1100025) (g116 1076 0) (S 1007 0) (400 * ((S 1092 0) - 1)) ((S 58 ((S 1092 0) - 1))) ((S 1100034 0)) ∧ -1 ≤ (S 1100034 0) ∧ (S 1100034 0) < (S 1046 0) ∧ (0 ≤ (S 1100034 0) → (S 26 (S 1100034 0)) = 29) ∧ (S 58 ((S 1092 0) - 1)) = (S 58 ((S 1092 0) - 1)) ∧ sm_VO (g116 44) (g116 1076 0) (S 1007 0) ((g124 1111 0)) ((g124 1112 0))) ∧ (S 1086 0) ≤ (S 1086 0) ∧ (S 1086 0) ≤ (S 1086 0) + 3 ∧ 0 ≤ (S 1107 0) ∧ (S 1107 0) ≤ 100 ∧ sm_PT (S 67) (S 1107 0) (S 1007 0)))))) ∧ ((p1 = (11 : Int)) → (sm_PL (S 1100020) (S 51) (S 52) (S 46) (S 47) (S 1076 0) (S 1086 0) ∧ sm_FR (S 1100020) (S 52) (S 1100021) (S 1100022) (3000 - (S 1084 0)) (S 1085 0) ∧ sm_PV (S 1100020) (S 48) (S 49) (S 50) (S 44) (S 1076 0) (S 1007 0) ∧ sm_AL (S 1100020) (S 48) (S 49) (S 50) (S 44) (S 1076 0) (S 1100032 0) ∧ sm_SV (S 1100020) (S 48) (S 1100029) (S 32) (S 33) (S 1076 0) (S 1032 0) ∧ 0 ≤ (S 1076 0) ∧ (S 1076 0) ≤ 300 ∧ 0 ≤ (S 1084 0) ∧ (S 1084 0) ≤ 3000 ∧ 0 ≤ (S 1086 0) ∧ sm_SC (S 1100029) (S 44) (S 45) (S 43) (S 21) (S 1076 0) (S 1032 0) ∧ sm_PO (S 42) (S 1076 0) ∧ (S 1100032 0) = -1 ∧ 23 ≤ (S 1076 0) ∧ 31 ≤ (S 1007 0) ∧ (S 1007 0) ≤ 400 ∧ 0 ≤ (24 : Int) ∧ (24 : Int) ≤ 1000 ∧ (S 1086 0) ≤ 1900000000) ∧ (∀ r135 : Int, sv_R r135 → ∀ g131 : sv_S, (sm_PL (g131 1100020) (g131 51) (g131 52) (g131 46) (g131 47) (g131 1076 0) (g131 1086 0) ∧ sm_FR (g131 1100020) (g131 52) (g131 1100021) (g131 1100022) (3000 - (g131 1084 0)) (g131 1085 0) ∧ sm_PV (g131 1100020) (g131 48) (g131 49) (g131 50) (g131 44) (g131 1076 0) (S 1007 0) ∧ sm_AL (g131 1100020) (g131 48) (g131 49) (g131 50) (g131 44) (g131 1076 0) (g131 1100032 0) ∧ sm_SV (g131 1100020) (g131 48) (g131 1100029) (S 32) (S 33) (g131 1076 0) (S 1032 0) ∧ 0 ≤ (g131 1076 0) ∧ (g131 1076 0) ≤ 300 ∧ 0 ≤ (g131 1084 0) ∧ (g131 1084 0) ≤ 3000 ∧ 0 ≤ (g131 1086 0) ∧ sm_SC (g131 1100029) (g131 44) (g131 45) (g131 43) (S 21) (g131 1076 0) (S 1032 0) ∧ sm_PO (g131 42) (g131 1076 0) ∧ ((g131 1075 0) = 0 → (g131 1100032 0) = -1 ∧ (g131 44 r135) = 2 ∧ r135 = (S 1076 0) ∧ (g131 1076 0) = r135 + 1 ∧ (sm_FO (S 44) (S 45) (S 1076 0) → sm_FO (g131 44) (g131 45) (g131 1076 0))) ∧ 0 ≤ r135 ∧ r135 < (g131 1076 0) ∧ ((S 1075 0) = 1 → (g131 1075 0) = 1) ∧ (S 1076 0) ≤ (g131 1076 0) ∧ (S 1086 0) ≤ (g131 1086 0) ∧ (g131 1086 0) ≤ (S 1086 0) + 1 ∧ sm_F1 (S 44) (g131 44) (S 1076 0) ∧ sm_F1 (S 1100029) (g131 1100029) (S 1076 0) ∧ sm_F1 (S 42) (g131 42) (S 1076 0) ∧ sm_F1 (S 43) (g131 43) (S 1076 0) ∧ sm_F1 (S 45) (g131 45) (S 1076 0) ∧ sm_KP (S 1100020) (S 48) (g131 1100020) (g131 48)) → ((0 ≤ r135 → r135 < (g131 1076 0) → ¬ (g131 44 r135) = 3 → sm_VO (g131 44) (g131 1076 0) (S 1007 0) (7) (r135)) → (∀ g139 : sv_S, ((g139 1111 0) = (7 : Int) ∧ (g139 1112 0) = r135) → (sm_PL (g131 1100020) (g131 51) (g131 52) (g131 46) (g131 47) (g131 1076 0) (g131 1086 0) ∧ sm_FR (g131 1100020) (g131 52) (g131 1100021) (g131 1100022) (3000 - (g131 1084 0)) (g131 1085 0) ∧ sm_PV (g131 1100020) (g131 48) (g131 49) (g131 50) (g131 44) (g131 1076 0) (S 1007 0) ∧ sm_AL (g131 1100020) (g131 48) (g131 49) (g131 50) (g131 44) (g131 1076 0) (g131 1100032 0) ∧ sm_SV (g131 1100020) (g131 48) (g131 1100029) (S 32) (S 33) (g131 1076 0) (S 1032 0) ∧ 0 ≤ (g131 1076 0) ∧ (g131 1076 0) ≤ 300 ∧ 0 ≤ (g131 1084 0) ∧ (g131 1084 0) ≤ 3000 ∧ 0 ≤ (g131 1086 0) ∧ sm_SC (g131 1100029) (g131 44) (g131 45) (g131 43) (S 21) (g131 1076 0) (S 1032 0) ∧ sm_PO (g131 42) (g131 1076 0) ∧ ((g131 1075 0) = 0 → (g131 1100032 0) = -1 ∧ sm_FO (g131 44) (g131 45) (g131 1076 0)) ∧ 23 ≤ (g131 1076 0) ∧ 31 ≤ (S 1007 0) ∧ (S 1007 0) ≤ 400 ∧ sm_LN (S 4) 400 (S 1007 0) ∧ (S 1008 0) ≤ (S 1007 0) ∧ ((S 1075 0) = 1 → (g131 1075 0) = 1) ∧ 0 ≤ (S 1092 0) ∧ (S 1092 0) ≤ 24 ∧ (S 1007 0) ≤ (S 1007 0) ∧ (¬ (g131 1075 0) = 0 → sm_LX (S 58) (S 63) (S 64) (S 1092 0) (g131 1076 0)) ∧ (S 1073 0) = 1 ∧ ((g131 1075 0) = 0 → sm_PL (g131 1100020) (g131 51) (g131 52) (g131 46) (g131 47) (g131 1076 0) (g131 1086 0) ∧ sm_FR (g131 1100020) (g131 52) (g131 1100021) (g131 1100022) (3000 - (g131 1084 0)) (g131 1085 0) ∧ sm_PV (g131 1100020) (g131 48) (g131 49) (g131 50) (g131 44) (g131 1076 0) (S 1007 0) ∧ sm_AL (g131 1100020) (g131 48) (g131 49) (g131 50) (g131 44) (g131 1076 0) (g131 1100032 0) ∧ sm_SV (g131 1100020) (g131 48) (g131 1100029) (S 32) (S 33) (g131 1076 0) (S 1032 0) ∧ 0 ≤ (g131 1076 0) ∧ (g131 1076 0) ≤ 300 ∧ 0 ≤ (g131 1084 0) ∧ (g131 1084 0) ≤ 3000 ∧ 0 ≤ (g131 1086 0) ∧ sm_SC (g131 1100029) (g131 44) (g131 45) (g131 43) (S 21) (g131 1076 0) (S 1032 0) ∧ sm_PO (g131 42) (g131 1076 0) ∧ (g131 1100032 0) = -1 ∧ sm_FO (g131 44) (g131 45) (g131 1076 0) ∧ 23 ≤ (g131 1076 0) ∧ 31 ≤ (S 1007 0) ∧ (S 1007 0) ≤ 400 ∧ sm_LN (S 4) 400 (S 1007 0) ∧ sm_CT (S 26) (S 27) (S 28) (S 29) (S 1100007) (S 1100023) (S 1100024) (S 1100025) (S 21) (S 1046 0) (S 1032 0) (S 1008 0) (S 1055 0) ∧ sm_LS (S 26) (S 1100007) (S 1100025) (S 1046 0) ∧ sm_CL (S 1100007) (S 1100023) (S 1100025) (S 1046 0) ∧ 1 ≤ (S 1032 0) ∧ (S 1032 0) ≤ 11 ∧ 0 ≤ (S 1046 0) ∧ (S 1046 0) ≤ 600 ∧ 31 ≤ (S 1008 0) ∧ (S 1008 0) ≤ (S 1007 0) ∧ 0 ≤ (S 1055 0) ∧ (S 1055 0) ≤ 19 ∧ 1 ≤ (S 1092 0) ∧ (S 1092 0) ≤ 24 ∧ 0 ≤ (S 1100033 0) ∧ (S 1100033 0) < (S 1046 0) ∧ (S 29 (S 1100033 0)) = (S 53 ((S 1092 0) - 1)) ∧ 0 ≤ (S 53 ((S 1092 0) - 1)) ∧ (S 53 ((S 1092 0) - 1)) < (S 1032 0) ∧ (S 60 ((S 1092 0) - 1)) = sm_dp (S 1100024) (S 1100023 (S 1100033 0)) ∧ sm_TC (S 61) (S 62) (S 27) (S 1100007) (S 1100023) (S 1100024) (40 * ((S 1092 0) - 1)) (S 1100023 (S 1100033 0)) ∧ sm_LK (g131 1100029) (g131 1076 0) (S 54 ((S 1092 0) - 1)) (S 53 ((S 1092 0) - 1)) ∧ sm_VO (g131 44) (g131 1076 0) (S 1007 0) ((S 55 ((S 1092 0) - 1))) ((S 56 ((S 1092 0) - 1))) ∧ sm_FW (g131 44) (g131 1076 0) (S 59 ((S 1092 0) - 1)) ∧ sm_FL (S 53) (S 54) (S 55) (S 56) (S 57) (S 58) (S 59) (S 60) (S 61) (S 62) (S 63) (S 64) (S 27) (S 29) (S 1100007) (S 1100023) (S 1100024) (S 1100025) (S 26) (g131 1100029) (g131 44) (S 1046 0) (S 1032 0) (g131 1076 0) (S 1007 0) (((S 1092 0) - 1)) ∧ (S 57 ((S 1092 0) - 1)) = (S 1100033 0) ∧ 0 ≤ (S 58 ((S 1092 0) - 1)) ∧ (S 58 ((S 1092 0) - 1)) ≤ 400 ∧ sm_SK (S 63) (S 64) (g131 44) (S 1100007) (S 1100025) (g131 1076 0) (S 1007 0) (400 * ((S 1092 0) - 1)) ((S 58 ((S 1092 0) - 1))) ((S 1100034 0)) ∧ -1 ≤ (S 1100034 0) ∧ (S 1100034 0) < (S 1046 0) ∧ (0 ≤ (S 1100034 0) → (S 26 (S 1100034 0)) = 29) ∧ (S 58 ((S 1092 0) - 1)) = (S 58 ((S 1092 0) - 1)) ∧ sm_VO (g131 44) (g131 1076 0) (S 1007 0) ((g139 1111 0)) ((g139 1112 0))) ∧ (S 1086 0) ≤ (g131 1086 0) ∧ (g131 1086 0) ≤ (S 1086 0) + 3 ∧ 0 ≤ (S 1107 0) ∧ (S 1107 0) ≤ 100 ∧ sm_PT (S 67) (S 1107 0) (S 1007 0)))))) ∧ ((p1 = (12 : Int)) → (sv_R (S 1115 0) → (((¬ (S 1115 0) = (0 : Int)) → (31 ≤ (S 1007 0) ∧ (S 1007 0) ≤ 400 ∧ sm_LN (S 4) 400 (S 1007 0) ∧ (r6 = 6 → 0 ≤ r11 ∧ r11 < (S 1007 0))) ∧ (∀ r151 : Int, sv_R r151 → ∀ g147 : sv_S, (0 ≤ r151 ∧ r151 < (g147 1007 0) ∧ (r6 = 5 → 0 ≤ r11 → r11 ≤ 100 → (g147 1075 0) = 0 → (g147 4 r151) ≤ 3) ∧ (S 1007 0) ≤ (g147 1007 0) ∧ (g147 1007 0) ≤ 400 ∧ sm_LN (g147 4) 400 (g147 1007 0) ∧ ((S 1075 0) = 1 → (g147 1075 0) = 1)) → (∀ g154 : sv_S, ((g154 1111 0) = (6 : Int) ∧ (g154 1112 0) = r151) → (sm_PL (S 1100020) (S 51) (S 52) (S 46) (S 47) (S 1076 0) (S 1086 0) ∧ sm_FR (S 1100020) (S 52) (S 1100021) (S 1100022) (3000 - (S 1084 0)) (S 1085 0) ∧ sm_PV (S 1100020) (S 48) (S 49) (S 50) (S 44) (S 1076 0) (g147 1007 0) ∧ sm_AL (S 1100020) (S 48) (S 49) (S 50) (S 44) (S 1076 0) (S 1100032 0) ∧ sm_SV (S 1100020) (S 48) (S 1100029) (S 32) (S 33) (S 1076 0) (S 1032 0) ∧ 0 ≤ (S 1076 0) ∧ (S 1076 0) ≤ 300 ∧ 0 ≤ (S 1084 0) ∧ (S 1084 0) ≤ 3000 ∧ 0 ≤ (S 1086 0) ∧ sm_SC (S 1100029) (S 44) (S 45) (S 43) (S 21) (S 1076 0) (S 1032 0) ∧ sm_PO (S 42) (S 1076 0) ∧ ((g147 1075 0) = 0 → (S 1100032 0) = -1 ∧ sm_FO (S 44) (S 45) (S 1076 0)) ∧ 23 ≤ (S 1076 0) ∧ 31 ≤ (g147 1007 0) ∧ (g147 1007 0) ≤ 400 ∧ sm_LN (g147 4) 400 (g147 1007 0) ∧ (S 1008 0) ≤ (g147 1007 0) ∧ ((S 1075 0) = 1 → (g147 1075 0) = 1) ∧ 0 ≤ (S 1092 0) ∧ (S 1092 0) ≤ 24 ∧ (S 1007 0) ≤ (g147 1007 0) ∧ (¬ (g147 1075 0) = 0 → sm_LX (S 58) (S 63) (S 64) (S 1092 0) (S 1076 0)) ∧ (S 1073 0) = 1 ∧ ((g147 1075 0) = 0 → sm_PL (S 1100020) (S 51) (S 52) (S 46) (S 47) (S 1076 0) (S 1086 0) ∧ sm_FR (S 1100020) (S 52) (S 1100021) (S 1100022) (3000 - (S 1084 0)) (S 1085 0) ∧ sm_PV (S 1100020) (S 48) (S 49) (S 50) (S 44) (S 1076 0) (g147 1007 0) ∧ sm_AL (S 1100020) (S 48) (S 49) (S 50) (S 44) (S 1076 0) (S 1100032 0) ∧ sm_SV (S 1100020) (S 48) (S 1100029) (S 32) (S 33) (S 1076 0) (S 1032 0) ∧ 0 ≤ (S 1076 0) ∧ (S 1076 0) ≤ 300 ∧ 0 ≤ (S 1084 0) ∧ (S 1084 0) ≤ 3000 ∧ 0 ≤ (S 1086 0) ∧ sm_SC (S 1100029) (S 44) (S 45) (S 43) (S 21) (S 1076 0) (S 1032 0) ∧ sm_PO (S 42) (S 1076 0) ∧ (S 1100032 0) = -1 ∧ sm_FO (S 44) (S 45) (S 1076 0) ∧ 23 ≤ (S 1076 0) ∧ 31 ≤ (g147 1007 0) ∧ (g147 1007 0) ≤ 400 ∧ sm_LN (g147 4) 400 (g147 1007 0) ∧ sm_CT (S 26) (S 27) (S 28) (S 29) (S 1100007) (S 1100023) (S 1100024) (S 1100025) (S 21) (S 1046 0) (S 1032 0) (S 1008 0) (S 1055 0) ∧ sm_LS (S 26) (S 1100007) (S 1100025) (S 1046 0) ∧ sm_CL (S 1100007) (S 1100023) (S 1100025) (S 1046 0) ∧ 1 ≤ (S 1032 0) ∧ (S 1032 0) ≤ 11 ∧ 0 ≤ (S 1046 0) ∧ (S 1046 0) ≤ 600 ∧ 31 ≤ (S 1008 0) ∧ (S 1008 0) ≤ (g147 1007 0) ∧ 0 ≤ (S 1055 0) ∧ (S 1055 0) ≤ 19 ∧ 1 ≤ (S 1092 0) ∧ (S 1092 0) ≤ 24 ∧ 0 ≤ (S 1100033 0) ∧ (S 1100033 0) < (S 1046 0) ∧ (S 29 (S 1100033 0)) = (S 53 ((S 1092 0) - 1)) ∧ 0 ≤ (S 53 ((S 1092 0) - 1)) ∧ (S 53 ((S 1092 0) - 1)) < (S 1032 0) ∧ (S 60 ((S 1092 0) - 1)) = sm_dp (S 1100024) (S 1100023 (S 1100033 0)) ∧ sm_TC (S 61) (S 62) (S 27) (S 1100007) (S 1100023) (S 1100024) (40 * ((S 1092 0) - 1)) (S 1100023 (S 1100033 0)) ∧ sm_LK (S 1100029) (S 1076 0) (S 54 ((S 1092 0) - 1)) (S 53 ((S 1092 0) - 1)) ∧ sm_VO (S 44) (S 1076 0) (g147 1007 0) ((S 55 ((S 1092 0) - 1))) ((S 56 ((S 1092 0) - 1))) ∧ sm_FW (S 44) (S 1076 0) (S 59 ((S 1092 0) - 1)) ∧ sm_FL (S 53) (S 54) (S 55) (S 56) (S 57) (S 58) (S 59) (S 60) (S 61) (S 62) (S 63) (S 64) (S 27) (S 29) (S 1100007) (S 1100023) (S 1100024) (S 1100025) (S 26) (S 1100029) (S 44) (S 1046 0) (S 1032 0) (S 1076 0) (g147 1007 0) (((S 1092 0) - 1)) ∧ (S 57 ((S 1092 0) - 1)) = (S 1100033 0) ∧ 0 ≤ (S 58 ((S 1092 0) - 1)) ∧ (S 58 ((S 1092 0) - 1)) ≤ 400 ∧ sm_SK (S 63) (S 64) (S 44) (S 1100007) (S 1100025) (S 1076 0) (g147 1007 0) (400 * ((S 1092 0) - 1)) ((S 58 ((S 1092 0) - 1))) ((S 1100034 0)) ∧ -1 ≤ (S 1100034 0) ∧ (S 1100034 0) < (S 1046 0) ∧ (0 ≤ (S 1100034 0) → (S 26 (S 1100034 0)) = 29) ∧ (S 58 ((S 1092 0) - 1)) = (S 58 ((S 1092 0) - 1)) ∧ sm_VO (S 44) (S 1076 0) (g147 1007 0) ((g154 1111 0)) ((g154 1112 0))) ∧ (S 1086 0) ≤ (S 1086 0) ∧ (S 1086 0) ≤ (S 1086 0) + 3 ∧ 0 ≤ (S 1107 0) ∧ (S 1107 0) ≤ 100 ∧ sm_PT (S 67) (S 1107 0) (g147 1007 0))))) ∧ ((¬ (¬ (S 1115 0) = (0 : Int))) → (∀ g160 : sv_S, ((g160 1111 0) = (6 : Int) ∧ (g160 1112 0) = (30 : Int)) → (sm_PL (S 1100020) (S 51) (S 52) (S 46) (S 47) (S 1076 0) (S 1086 0) ∧ sm_FR (S 1100020) (S 52) (S 1100021) (S 1100022) (3000 - (S 1084 0)) (S 1085 0) ∧ sm_PV (S 1100020) (S 48) (S 49) (S 50) (S 44) (S 1076 0) (S 1007 0) ∧ sm_AL (S 1100020) (S 48) (S 49) (S 50) (S 44) (S 1076 0) (S 1100032 0) ∧ sm_SV (S 1100020) (S 48) (S 1100029) (S 32) (S 33) (S 1076 0) (S 1032 0) ∧ 0 ≤ (S 1076 0) ∧ (S 1076 0) ≤ 300 ∧ 0 ≤ (S 1084 0) ∧ (S 1084 0) ≤ 3000 ∧ 0 ≤ (S 1086 0) ∧ sm_SC (S 1100029) (S 44) (S 45) (S 43) (S 21) (S 1076 0) (S 1032 0) ∧ sm_PO (S 42) (S 1076 0) ∧ ((S 1075 0) = 0 → (S 1100032 0) = -1 ∧ sm_FO (S 44) (S 45) (S 1076 0)) ∧ 23 ≤ (S 1076 0) ∧ 31 ≤ (S 1007 0) ∧ (S 1007 0) ≤ 400 ∧ sm_LN (S 4) 400 (S 1007 0) ∧ (S 1008 0) ≤ (S 1007 0) ∧ ((S 1075 0) = 1 → (S 1075 0) = 1) ∧ 0 ≤ (S 1092 0) ∧ (S 1092 0) ≤ 24 ∧ (S 1007 0) ≤ (S 1007 0) ∧ (¬ (S 1075 0) = 0 → sm_LX (S 58) (S 63) (S 64) (S 1092 0) (S 1076 0)) ∧ (S 1073 0) = 1 ∧ ((S 1075 0) = 0 → sm_PL (S 1100020) (S 51) (S 52) (S 46) (S 47) (S 1076 0) (S 1086 0) ∧ sm_FR (S 1100020) (S 52) (S 1100021) (S 1100022) (3000 - (S 1084 0)) (S 1085 0) ∧ sm_PV (S 1100020) (S 48) (S 49) (S 50) (S 44) (S 1076 0) (S 1007 0) ∧ sm_AL (S 1100020) (S 48) (S 49) (S 50) (S 44) (S 1076 0) (S 1100032 0) ∧ sm_SV (S 1100020) (S 48) (S 1100029) (S 32) (S 33) (S 1076 0) (S 1032 0) ∧ 0 ≤ (S 1076 0) ∧ (S 1076 0) ≤ 300 ∧ 0 ≤ (S 1084 0) ∧ (S 1084 0) ≤ 3000 ∧ 0 ≤ (S 1086 0) ∧ sm_SC (S 1100029) (S 44) (S 45) (S 43) (S 21) (S 1076 0) (S 1032 0) ∧ sm_PO (S 42) (S 1076 0) ∧ (S 1100032 0) = -1 ∧ sm_FO (S 44) (S 45) (S 1076 0) ∧ 23 ≤ (S 1076 0) ∧ 31 ≤ (S 1007 0) ∧ (S 1007 0) ≤ 400 ∧ sm_LN (S 4) 400 (S 1007 0) ∧ sm_CT (S 26) (S 27) (S 28) (S 29) (S 1100007) (S 1100023) (S 1100024) (S 1100025) (S 21) (S 1046 0) (S 1032 0) (S 1008 0) (S 1055 0) ∧ sm_LS (S 26) (S 1100007) (S 1100025) (S 1046 0) ∧ sm_CL (S 1100007) (S 1100023) (S 1100025) (S 1046 0) ∧ 1 ≤ (S 1032 0) ∧ (S 1032 0) ≤ 11 ∧ 0 ≤ (S 1046 0) ∧ (S 1046 0) ≤ 600 ∧ 31 ≤ (S 1008 0) ∧ (S 1008 0) ≤ (S 1007 0) ∧ 0 ≤ (S 1055 0) ∧ (S 1055 0) ≤ 19 ∧ 1 ≤ (S 1092 0) ∧ (S 1092 0) ≤ 24 ∧ 0 ≤ (S 1100033 0) ∧ (S 1100033 0) < (S 1046 0) ∧ (S 29 (S 1100033 0)) = (S 53 ((S 1092 0) - 1)) ∧ 0 ≤ (S 53 ((S 1092 0) - 1)) ∧ (S 53 ((S 1092 0) - 1)) < (S 1032 0) ∧ (S 60 ((S 1092 0) - 1)) = sm_dp (S 1100024) (S 1100023 (S 1100033 0)) ∧ sm_TC (S 61) (S 62) (S 27) (S 1100007) (S 1100023) (S 1100024) (40 * ((S 1092 0) - 1)) (S 1100023 (S 1100033 0)) ∧ sm_LK (S 1100029) (S 1076 0) (S 54 ((S 1092 0) - 1)) (S 53 ((S 1092 0) - 1)) ∧ sm_VO (S 44) (S 1076 0) (S 1007 0) ((S 55 ((S 1092 0) - 1))) ((S 56 ((S 1092 0) - 1))) ∧ sm_FW (S 44) (S 1076 0) (S 59 ((S 1092 0) - 1)) ∧ sm_FL (S 53) (S 54) (S 55) (S 56) (S 57) (S 58) (S 59) (S 60) (S 61) (S 62) (S 63) (S 64) (S 27) (S 29) (S 1100007) (S 1100023) (S 1100024) (S 1100025) (S 26) (S 1100029) (S 44) (S 1046 0) (S 1032 0) (S 1076 0) (S 1007 0) (((S 1092 0) - 1)) ∧ (S 57 ((S 1092 0) - 1)) = (S 1100033 0) ∧ 0 ≤ (S 58 ((S 1092 0) - 1)) ∧ (S 58 ((S 1092 0) - 1)) ≤ 400 ∧ sm_SK (S 63) (S 64) (S 44) (S 1100007) (S 1100025) (S 1076 0) (S 1007 0) (400 * ((S 1092 0) - 1)) ((S 58 ((S 1092 0) - 1))) ((S 1100034 0)) ∧ -1 ≤ (S 1100034 0) ∧ (S 1100034 0) < (S 1046 0) ∧ (0 ≤ (S 1100034 0) → (S 26 (S 1100034 0)) = 29) ∧ (S 58 ((S 1092 0) - 1)) = (S 58 ((S 1092 0) - 1)) ∧ sm_VO (S 44) (S 1076 0) (S 1007 0) ((g160 1111 0)) ((g160 1112 0))) ∧ (S 1086 0) ≤ (S 1086 0) ∧ (S 1086 0) ≤ (S 1086 0) + 3 ∧ 0 ≤ (S 1107 0) ∧ (S 1107 0) ≤ 100 ∧ sm_PT (S 67) (S 1107 0) (S 1007 0))))))) ∧ ((p1 = (13 : Int)) → (31 ≤ (S 1007 0) ∧ (S 1007 0) ≤ 400 ∧ sm_LN (S 4) 400 (S 1007 0) ∧ (r6 = 6 → 0 ≤ r11 ∧ r11 < 400)) ∧ (∀ r171 : Int, sv_R r171 → ∀ g167 : sv_S, (True) → ((0 ≤ (g167 1113 0) ∧ (g167 1113 0) ≤ 1) → (((¬ (g167 1113 0) = (0 : Int)) → (∀ g175 : sv_S, (((g175 1111 0) = 2 ∨ (g175 1111 0) = 3) ∧ (g175 1112 0) = 0) → (sm_PL (S 1100020) (S 51) (S 52) (S 46) (S 47) (S 1076 0) (S 1086 0) ∧ sm_FR (S 1100020) (S 52) (S 1100021) (S 1100022) (3000 - (S 1084 0)) (S 1085 0) ∧ sm_PV (S 1100020) (S 48) (S 49) (S 50) (S 44) (S 1076 0) (S 1007 0) ∧ sm_AL (S 1100020) (S 48) (S 49) (S 50) (S 44) (S 1076 0) (S 1100032 0) ∧ sm_SV (S 1100020) (S 48) (S 1100029) (S 32) (S 33) (S 1076 0) (S 1032 0) ∧ 0 ≤ (S 1076 0) ∧ (S 1076 0) ≤ 300 ∧ 0 ≤ (S 1084 0) ∧ (S 1084 0) ≤ 3000 ∧ 0 ≤ (S 1086 0) ∧ sm_SC (S 1100029) (S 44) (S 45) (S 43) (S 21) (S 1076 0) (S 1032 0) ∧ sm_PO (S 42) (S 1076 0) ∧ ((S 1075 0) = 0 → (S 1100032 0) = -1 ∧ sm_FO (S 44) (S 45) (S 1076 0)) ∧ 23 ≤ (S 1076 0) ∧ 31 ≤ (S 1007 0) ∧ (S 1007 0) ≤ 400 ∧ sm_LN (S 4) 400 (S 1007 0) ∧ (S 1008 0) ≤ (S 1007 0) ∧ ((S 1075 0) = 1 → (S 1075 0) = 1) ∧ 0 ≤ (S 1092 0) ∧ (S 1092 0) ≤ 24 ∧ (S 1007 0) ≤ (S 1007 0) ∧ (¬ (S 1075 0) = 0 → sm_LX (S 58) (S 63) (S 64) (S 1092 0) (S 1076 0)) ∧ (S 1073 0) = 1 ∧ ((S 1075 0) = 0 → sm_PL (S 1100020) (S 51) (S 52) (S 46) (S 47) (S 1076 0) (S 1086 0) ∧ sm_FR (S 1100020) (S 52) (S 1100021) (S 1100022) (3000 - (S 1084 0)) (S 1085 0) ∧ sm_PV (S 1100020) (S 48) (S 49) (S 50) (S 44) (S 1076 0) (S 1007 0) ∧ sm_AL (S 1100020) (S 48) (S 49) (S 50) (S 44) (S 1076 0) (S 1100032 0) ∧ sm_SV (S 1100020) (S 48) (S 1100029) (S 32) (S 33) (S 1076 0) (S 1032 0) ∧ 0 ≤ (S 1076 0) ∧ (S 1076 0) ≤ 300 ∧ 0 ≤ (S 1084 0) ∧ (S 1084 0) ≤ 3000 ∧ 0 ≤ (S 1086 0) ∧ sm_SC (S 1100029) (S 44) (S 45) (S 43) (S 21) (S 1076 0) (S 1032 0) ∧ sm_PO (S 42) (S 1076 0) ∧ (S 1100032 0) = -1 ∧ sm_FO (S 44) (S 45) (S 1076 0) ∧ 23 ≤ (S 1076 0) ∧ 31 ≤ (S 1007 0) ∧ (S 1007 0) ≤ 400 ∧ sm_LN (S 4) 400 (S 1007 0) ∧ sm_CT (S 26) (S 27) (S 28) (S 29) (S 1100007) (S 1100023) (S 1100024) (S 1100025) (S 21) (S 1046 0) (S 1032 0) (S 1008 0) (S 1055 0) ∧ sm_LS (S 26) (S 1100007) (S 1100025) (S 1046 0) ∧ sm_CL (S 1100007) (S 1100023) (S 1100025) (S 1046 0) ∧ 1 ≤ (S 1032 0) ∧ (S 1032 0) ≤ 11 ∧ 0 ≤ (S 1046 0) ∧ (S 1046 0) ≤ 600 ∧ 31 ≤ (S 1008 0) ∧ (S 1008 0) ≤ (S 1007 0) ∧ 0 ≤ (S 1055 0) ∧ (S 1055 0) ≤ 19 ∧ 1 ≤ (S 1092 0) ∧ (S 1092 0) ≤ 24 ∧ 0 ≤ (S 1100033 0) ∧ (S 1100033 0) < (S 1046 0) ∧ (S 29 (S 1100033 0)) = (S 53 ((S 1092 0) - 1)) ∧ 0 ≤ (S 53 ((S 1092 0) - 1)) ∧ (S 53 ((S 1092 0) - 1)) < (S 1032 0) ∧ (S 60 ((S 1092 0) - 1)) = sm_dp (S 1100024) (S 1100023 (S 1100033 0)) ∧ sm_TC (S 61) (S 62) (S 27) (S 1100007) (S 1100023) (S 1100024) (40 * ((S 1092 0) - 1)) (S 1100023 (S 1100033 0)) ∧ sm_LK (S 1100029) (S 1076 0) (S 54 ((S 1092 0) - 1)) (S 53 ((S 1092 0) - 1)) ∧ sm_VO (S 44) (S 1076 0) (S 1007 0) ((S 55 ((S 1092 0) - 1))) ((S 56 ((S 1092 0) - 1))) ∧ sm_FW (S 44) (S 1076 0) (S 59 ((S 1092 0) - 1)) ∧ sm_FL (S 53) (S 54) (S 55) (S 56) (S 57) (S 58) (S 59) (S 60) (S 61) (S 62) (S 63) (S 64) (S 27) (S 29) (S 1100007) (S 1100023) (S 1100024) (S 1100025) (S 26) (S 1100029) (S 44) (S 1046 0) (S 1032 0) (S 1076 0) (S 1007 0) (((S 1092 0) - 1)) ∧ (S 57 ((S 1092 0) - 1)) = (S 1100033 0) ∧ 0 ≤ (S 58 ((S 1092 0) - 1)) ∧ (S 58 ((S 1092 0) - 1)) ≤ 400 ∧ sm_SK (S 63) (S 64) (S 44) (S 1100007) (S 1100025) (S 1076 0) (S 1007 0) (400 * ((S 1092 0) - 1)) ((S 58 ((S 1092 0) - 1))) ((S 1100034 0)) ∧ -1 ≤ (S 1100034 0) ∧ (S 1100034 0) < (S 1046 0) ∧ (0 ≤ (S 1100034 0) → (S 26 (S 1100034 0)) = 29) ∧ (S 58 ((S 1092 0) - 1)) = (S 58 ((S 1092 0) - 1)) ∧ sm_VO (S 44) (S 1076 0) (S 1007 0) ((g175 1111 0)) ((g175 1112 0))) ∧ (S 1086 0) ≤ (S 1086 0) ∧ (S 1086 0) ≤ (S 1086 0) + 3 ∧ 0 ≤ (S 1107 0) ∧ (S 1107 0) ≤ 100 ∧ sm_PT (S 67) (S 1107 0) (S 1007 0)))) ∧ ((¬ (¬ (g167 1113 0) = (0 : Int))) → (∀ g181 : sv_S, (((g181 1111 0) = 2 ∨ (g181 1111 0) = 3) ∧ (g181 1112 0) = 0) → (sm_PL (S 1100020) (S 51) (S 52) (S 46) (S 47) (S 1076 0) (S 1086 0) ∧ sm_FR (S 1100020) (S 52) (S 1100021) (S 1100022) (3000 - (S 1084 0)) (S 1085 0) ∧ sm_PV (S 1100020) (S 48) (S 49) (S 50) (S 44) (S 1076 0) (S 1007 0) ∧ sm_AL (S 1100020) (S 48) (S 49) (S 50) (S 44) (S 1076 0) (S 1100032 0) ∧ sm_SV (S 1100020) (S 48) (S 1100029) (S 32) (S 33) (S 1076 0) (S 1032 0) ∧ 0 ≤ (S 1076 0) ∧ (S 1076 0) ≤ 300 ∧ 0 ≤ (S 1084 0) ∧ (S 1084 0) ≤ 3000 ∧ 0 ≤ (S 1086 0) ∧ sm_SC (S 1100029) (S 44) (S 45) (S 43) (S 21) (S 1076 0) (S 1032 0) ∧ sm_PO (S 42) (S 1076 0) ∧ ((S 1075 0) = 0 → (S 1100032 0) = -1 ∧ sm_FO (S 44) (S 45) (S 1076 0)) ∧ 23 ≤ (S 1076 0) ∧ 31 ≤ (S 1007 0) ∧ (S 1007 0) ≤ 400 ∧ sm_LN (S 4) 400 (S 1007 0) ∧ (S 1008 0) ≤ (S 1007 0) ∧ ((S 1075 0) = 1 → (S 1075 0) = 1) ∧ 0 ≤ (S 1092 0) ∧ (S 1092 0) ≤ 24 ∧ (S 1007 0) ≤ (S 1007 0) ∧ (¬ (S 1075 0) = 0 → sm_LX (S 58) (S 63) (S 64) (S 1092 0) (S 1076 0)) ∧ (S 1073 0) = 1 ∧ ((S 1075 0) = 0 → sm_PL (S 1100020) (S 51) (S 52) (S 46) (S 47) (S 1076 0) (S 1086 0) ∧ sm_FR (S 1100020) (S 52) (S 1100021) (S 1100022) (3000 - (S 1084 0)) (S 1085 0) ∧ sm_PV (S 1100020) (S 48) (S 49) (S 50) (S 44) (S 1076 0) (S 1007 0) ∧ sm_AL (S 1100020) (S 48) (S 49) (S 50) (S 44) (S 1076 0) (S 1100032 0) ∧ sm_SV (S 1100020) (S 48) (S 1100029) (S 32) (S 33) (S 1076 0) (S 1032 0) ∧ 0 ≤ (S 1076 0) ∧ (S 1076 0) ≤ 300 ∧ 0 ≤ (S 1084 0) ∧ (S 1084 0) ≤ 3000 ∧ 0 ≤ (S 1086 0) ∧ sm_SC (S 1100029) (S 44) (S 45) (S 43) (S 21) (S 1076 0) (S 1032 0) ∧ sm_PO (S 42) (S 1076 0) ∧ (S 1100032 0) = -1 ∧ sm_FO (S 44) (S 45) (S 1076 0) ∧ 23 ≤ (S 1076 0) ∧ 31 ≤ (S 1007 0) ∧ (S 1007 0) ≤ 400 ∧ sm_LN (S 4) 400 (S 1007 0) ∧ sm_CT (S 26) (S 27) (S 28) (S 29) (S 1100007) (S 1100023) (S 1100024) (S 1100025) (S 21) (S 1046 0) (S 1032 0) (S 1008 0) (S 1055 0) ∧ sm_LS (S 26) (S 1100007) (S 1100025) (S 1046 0) ∧ sm_CL (S 1100007) (S 1100023) (S 1100025) (S 1046 0) ∧ 1 ≤ (S 1032 0) ∧ (S 1032 0) ≤ 11 ∧ 0 ≤ (S 1046 0) ∧ (S 1046 0) ≤ 600 ∧ 31 ≤ (S 1008 0) ∧ (S 1008 0) ≤ (S 1007 0) ∧ 0 ≤ (S 1055 0) ∧ (S 1055 0) ≤ 19 ∧ 1 ≤ (S 1092 0) ∧ (S 1092 0) ≤ 24 ∧ 0 ≤ (S 1100033 0) ∧ (S 1100033 0) < (S 1046 0) ∧ (S 29 (S 1100033 0)) = (S 53 ((S 1092 0) - 1)) ∧ 0 ≤ (S 53 ((S 1092 0) - 1)) ∧ (S 53 ((S 1092 0) - 1)) < (S 1032 0) ∧ (S 60 ((S 1092 0) - 1)) = sm_dp (S 1100024) (S 1100023 (S 1100033 0)) ∧ sm_TC (S 61) (S 62) (S 27) (S 1100007) (S 1100023) (S 1100024) (40 * ((S 1092 0) - 1)) (S 1100023 (S 1100033 0)) ∧ sm_LK (S 1100029) (S 1076 0) (S 54 ((S 1092 0) - 1)) (S 53 ((S 1092 0) - 1)) ∧ sm_VO (S 44) (S 1076 0) (S 1007 0) ((S 55 ((S 1092 0) - 1))) ((S 56 ((S 1092 0) - 1))) ∧ sm_FW (S 44) (S 1076 0) (S 59 ((S 1092 0) - 1)) ∧ sm_FL (S 53) (S 54) (S 55) (S 56) (S 57) (S 58) (S 59) (S 60) (S 61) (S 62) (S 63) (S 64) (S 27) (S 29) (S 1100007) (S 1100023) (S 1100024) (S 1100025) (S 26) (S 1100029) (S 44) (S 1046 0) (S 1032 0) (S 1076 0) (S 1007 0) (((S 1092 0) - 1)) ∧ (S 57 ((S 1092 0) - 1)) = (S 1100033 0) ∧ 0 ≤ (S 58 ((S 1092 0) - 1)) ∧ (S 58 ((S 1092 0) - 1)) ≤ 400 ∧ sm_SK (S 63) (S 64) (S 44) (S 1100007) (S 1100025) (S 1076 0) (S 1007 0) (400 * ((S 1092 0) - 1)) ((S 58 ((S 1092 0) - 1))) ((S 1100034 0)) ∧ -1 ≤ (S 1100034 0) ∧ (S 1100034 0) < (S 1046 0) ∧ (0 ≤ (S 1100034 0) → (S 26 (S 1100034 0)) = 29) ∧ (S 58 ((S 1092 0) - 1)) = (S 58 ((S 1092 0) - 1)) ∧ sm_VO (S 44) (S 1076 0) (S 1007 0) ((g181 1111 0)) ((g181 1112 0))) ∧ (S 1086 0) ≤ (S 1086 0) ∧ (S 1086 0) ≤ (S 1086 0) + 3 ∧ 0 ≤ (S 1107 0) ∧ (S 1107 0) ≤ 100 ∧ sm_PT (S 67) (S 1107 0) (S 1007 0)))))))) ∧ ((p1 = (18 : Int) ∨ p1 = (19 : Int) ∨ p1 = (21 : Int) ∨ p1 = (22 : Int)) → ((S 1075 0) = 0 ∧ (S 1073 0) = 1 ∧ sm_LX (S 58) (S 63) (S 64) (S 1092 0) (S 1076 0) ∧ sm_PL (S 1100020) (S 51) (S 52) (S 46) (S 47) (S 1076 0) (S 1086 0) ∧ sm_FR (S 1100020) (S 52) (S 1100021) (S 1100022) (3000 - (S 1084 0)) (S 1085 0) ∧ sm_PV (S 1100020) (S 48) (S 49) (S 50) (S 44) (S 1076 0) (S 1007 0) ∧ sm_AL (S 1100020) (S 48) (S 49) (S 50) (S 44) (S 1076 0) (S 1100032 0) ∧ sm_SV (S 1100020) (S 48) (S 1100029) (S 32) (S 33) (S 1076 0) (S 1032 0) ∧ 0 ≤ (S 1076 0) ∧ (S 1076 0) ≤ 300 ∧ 0 ≤ (S 1084 0) ∧ (S 1084 0) ≤ 3000 ∧ 0 ≤ (S 1086 0) ∧ sm_SC (S 1100029) (S 44) (S 45) (S 43) (S 21) (S 1076 0) (S 1032 0) ∧ sm_PO (S 42) (S 1076 0) ∧ (S 1100032 0) = -1 ∧ sm_FO (S 44) (S 45) (S 1076 0) ∧ 23 ≤ (S 1076 0) ∧ 31 ≤ (S 1007 0) ∧ (S 1007 0) ≤ 400 ∧ sm_LN (S 4) 400 (S 1007 0) ∧ sm_CT (S 26) (S 27) (S 28) (S 29) (S 1100007) (S 1100023) (S 1100024) (S 1100025) (S 21) (S 1046 0) (S 1032 0) (S 1008 0) (S 1055 0) ∧ sm_LS (S 26) (S 1100007) (S 1100025) (S 1046 0) ∧ sm_CL (S 1100007) (S 1100023) (S 1100025) (S 1046 0) ∧ 1 ≤ (S 1032 0) ∧ (S 1032 0) ≤ 11 ∧ 0 ≤ (S 1046 0) ∧ (S 1046 0) ≤ 600 ∧ 31 ≤ (S 1008 0) ∧ (S 1008 0) ≤ (S 1007 0) ∧ 0 ≤ (S 1055 0) ∧ (S 1055 0) ≤ 19 ∧ 1 ≤ (S 1092 0) ∧ (S 1092 0) ≤ 24 ∧ 0 ≤ (S 1100033 0) ∧ (S 1100033 0) < (S 1046 0) ∧ (S 29 (S 1100033 0)) = (S 53 ((S 1092 0) - 1)) ∧ 0 ≤ (S 53 ((S 1092 0) - 1)) ∧ (S 53 ((S 1092 0) - 1)) < (S 1032 0) ∧ (S 60 ((S 1092 0) - 1)) = sm_dp (S 1100024) (S 1100023 (S 1100033 0)) ∧ sm_TC (S 61) (S 62) (S 27) (S 1100007) (S 1100023) (S 1100024) (40 * ((S 1092 0) - 1)) (S 1100023 (S 1100033 0)) ∧ sm_LK (S 1100029) (S 1076 0) (S 54 ((S 1092 0) - 1)) (S 53 ((S 1092 0) - 1)) ∧ sm_VO (S 44) (S 1076 0) (S 1007 0) ((S 55 ((S 1092 0) - 1))) ((S 56 ((S 1092 0) - 1))) ∧ sm_FW (S 44) (S 1076 0) (S 59 ((S 1092 0) - 1)) ∧ sm_FL (S 53) (S 54) (S 55) (S 56) (S 57) (S 58) (S 59) (S 60) (S 61) (S 62) (S 63) (S 64) (S 27) (S 29) (S 1100007) (S 1100023) (S 1100024) (S 1100025) (S 26) (S 1100029) (S 44) (S 1046 0) (S 1032 0) (S 1076 0) (S 1007 0) (((S 1092 0) - 1)) ∧ (S 57 ((S 1092 0) - 1)) = (S 1100033 0) ∧ 0 ≤ (S 58 ((S 1092 0) - 1)) ∧ (S 58 ((S 1092 0) - 1)) ≤ 400 ∧ sm_SK (S 63) (S 64) (S 44) (S 1100007) (S 1100025) (S 1076 0) (S 1007 0) (400 * ((S 1092 0) - 1)) ((S 58 ((S 1092 0) - 1))) ((S 1100034 0)) ∧ -1 ≤ (S 1100034 0) ∧ (S 1100034 0) < (S 1046 0) ∧ (0 ≤ (S 1100034 0) → (S 26 (S 1100034 0)) = 29) ∧ (S 58 ((S 1092 0) - 1)) = (S 1100007 (S 1100033 0)) ∧ (S 1100034 0) = (S 1100025 (S 1100033 0)) ∧ (0 ≤ (S 1100023 (S 1100033 0)) → (S 1100007 (S 1100023 (S 1100033 0))) ≤ (S 58 ((S 1092 0) - 1))) ∧ (S 58 ((S 1092 0) - 1)) ≤ 396 ∧ (S 1086 0) ≤ 1900000000 ∧ (p1 = 18 ∨ p1 = 19 ∨ p1 = 21 ∨ p1 = 22) ∧ sm_VO (S 44) (S 1076 0) (S 1007 0) (p2) (p3) ∧ sm_VO (S 44) (S 1076 0) (S 1007 0) (r6) (r11)) ∧ (∀ r192 : Int, sv_R r192 → ∀ g188 : sv_S, ((r192 = 0 ∨ r192 = 1) ∧ (r192 = 0 → sm_PL (g188 1100020) (g188 51) (g188 52) (g188 46) (g188 47) (g188 1076 0) (g188 1086 0) ∧ sm_FR (g188 1100020) (g188 52) (g188 1100021) (g188 1100022) (3000 - (g188 1084 0)) (g188 1085 0) ∧ sm_PV (g188 1100020) (g188 48) (g188 49) (g188 50) (g188 44) (g188 1076 0) (g188 1007 0) ∧ sm_AL (g188 1100020) (g188 48) (g188 49) (g188 50) (g188 44) (g188 1076 0) (S 1100032 0) ∧ sm_SV (g188 1100020) (g188 48) (g188 1100029) (S 32) (S 33) (g188 1076 0) (S 1032 0) ∧ 0 ≤ (g188 1076 0) ∧ (g188 1076 0) ≤ 300 ∧ 0 ≤ (g188 1084 0) ∧ (g188 1084 0) ≤ 3000 ∧ 0 ≤ (g188 1086 0) ∧ sm_SC (g188 1100029) (g188 44) (g188 45) (g188 43) (S 21) (g188 1076 0) (S 1032 0) ∧ sm_PO (g188 42) (g188 1076 0) ∧ ((g188 1075 0) = 0 → (S 1100032 0) = -1 ∧ sm_FO (g188 44) (g188 45) (g188 1076 0)) ∧ 23 ≤ (g188 1076 0) ∧ 31 ≤ (g188 1007 0) ∧ (g188 1007 0) ≤ 400 ∧ sm_LN (g188 4) 400 (g188 1007 0) ∧ (S 1008 0) ≤ (g188 1007 0) ∧ ((S 1075 0) = 1 → (g188 1075 0) = 1) ∧ 0 ≤ (g188 1092 0) ∧ (g188 1092 0) ≤ 24 ∧ (S 1007 0) ≤ (g188 1007 0) ∧ (¬ (g188 1075 0) = 0 → sm_LX (g188 58) (g188 63) (g188 64) (g188 1092 0) (g188 1076 0)) ∧ ((g188 1075 0) = 0 → (g188 1073 0) = 1 → 1 ≤ (g188 1092 0) ∧ (g188 1092 0) ≤ 24 ∧ 0 ≤ (g188 57 ((g188 1092 0) - 1)) ∧ (g188 57 ((g188 1092 0) - 1)) < (S 1046 0) ∧ (S 29 (g188 57 ((g188 1092 0) - 1))) = (S 53 ((g188 1092 0) - 1)) ∧ 0 ≤ (S 53 ((g188 1092 0) - 1)) ∧ (S 53 ((g188 1092 0) - 1)) < (S 1032 0) ∧ (g188 60 ((g188 1092 0) - 1)) = sm_dp (S 1100024) (S 1100023 (g188 57 ((g188 1092 0) - 1))) ∧ sm_TC (S 61) (S 62) (S 27) (S 1100007) (S 1100023) (S 1100024) (40 * ((g188 1092 0) - 1)) (S 1100023 (g188 57 ((g188 1092 0) - 1))) ∧ sm_LK (g188 1100029) (g188 1076 0) (S 54 ((g188 1092 0) - 1)) (S 53 ((g188 1092 0) - 1)) ∧ sm_VO (g188 44) (g188 1076 0) (g188 1007 0) ((S 55 ((g188 1092 0) - 1))) ((S 56 ((g188 1092 0) - 1))) ∧ sm_FW (g188 44) (g188 1076 0) (S 59 ((g188 1092 0) - 1)) ∧ sm_FL (S 53) (S 54) (S 55) (S 56) (g188 57) (g188 58) (S 59) (g188 60) (S 61) (S 62) (g188 63) (g188 64) (S 27) (S 29) (S 1100007) (S 1100023) (S 1100024) (S 1100025) (S 26) (g188 1100029) (g188 44) (S 1046 0) (S 1032 0) (g188 1076 0) (g188 1007 0) (((g188 1092 0) - 1)) ∧ (g188 58 ((g188 1092 0) - 1)) = (S 1100007 (g188 57 ((g188 1092 0) - 1))) ∧ sm_SK (g188 63) (g188 64) (g188 44) (S 1100007) (S 1100025) (g188 1076 0) (g188 1007 0) (400 * ((g188 1092 0) - 1)) ((g188 58 ((g188 1092 0) - 1))) ((S 1100025 (g188 57 ((g188 1092 0) - 1))))) ∧ ((g188 1073 0) = 1 ∨ (g188 1092 0) = 0 ∧ (g188 1075 0) = 0 ∧ ((g188 1073 0) = 2 ∨ (g188 1073 0) = 3)) ∧ (S 1086 0) ≤ (g188 1086 0) ∧ (g188 1086 0) ≤ (S 1086 0) + 3) ∧ (r192 = 1 → sm_PL (g188 1100020) (g188 51) (g188 52) (g188 46) (g188 47) (g188 1076 0) (g188 1086 0) ∧ sm_FR (g188 1100020) (g188 52) (g188 1100021) (g188 1100022) (3000 - (g188 1084 0)) (g188 1085 0) ∧ sm_PV (g188 1100020) (g188 48) (g188 49) (g188 50) (g188 44) (g188 1076 0) (g188 1007 0) ∧ sm_AL (g188 1100020) (g188 48) (g188 49) (g188 50) (g188 44) (g188 1076 0) (S 1100032 0) ∧ sm_SV (g188 1100020) (g188 48) (g188 1100029) (S 32) (S 33) (g188 1076 0) (S 1032 0) ∧ 0 ≤ (g188 1076 0) ∧ (g188 1076 0) ≤ 300 ∧ 0 ≤ (g188 1084 0) ∧ (g188 1084 0) ≤ 3000 ∧ 0 ≤ (g188 1086 0) ∧ sm_SC (g188 1100029) (g188 44) (g188 45) (g188 43) (S 21) (g188 1076 0) (S 1032 0) ∧ sm_PO (g188 42) (g188 1076 0) ∧ ((g188 1075 0) = 0 → (S 1100032 0) = -1 ∧ sm_FO (g188 44) (g188 45) (g188 1076 0)) ∧ 23 ≤ (g188 1076 0) ∧ 31 ≤ (g188 1007 0) ∧ (g188 1007 0) ≤ 400 ∧ sm_LN (g188 4) 400 (g188 1007 0) ∧ (S 1008 0) ≤ (g188 1007 0) ∧ ((S 1075 0) = 1 → (g188 1075 0) = 1) ∧ 0 ≤ (g188 1092 0) ∧ (g188 1092 0) ≤ 24 ∧ (S 1007 0) ≤ (g188 1007 0) ∧ (¬ (g188 1075 0) = 0 → sm_LX (g188 58) (g188 63) (g188 64) (g188 1092 0) (g188 1076 0)) ∧ (g188 1073 0) = 1 ∧ ((g188 1075 0) = 0 → sm_PL (g188 1100020) (g188 51) (g188 52) (g188 46) (g188 47) (g188 1076 0) (g188 1086 0) ∧ sm_FR (g188 1100020) (g188 52) (g188 1100021) (g188 1100022) (3000 - (g188 1084 0)) (g188 1085 0) ∧ sm_PV (g188 1100020) (g188 48) (g188 49) (g188 50) (g188 44) (g188 1076 0) (g188 1007 0) ∧ sm_AL (g188 1100020) (g188 48) (g188 49) (g188 50) (g188 44) (g188 1076 0) (S 1100032 0) ∧ sm_SV (g188 1100020) (g188 48) (g188 1100029) (S 32) (S 33) (g188 1076 0) (S 1032 0) ∧ 0 ≤ (g188 1076 0) ∧ (g188 1076 0) ≤ 300 ∧ 0 ≤ (g188 1084 0) ∧ (g188 1084 0) ≤ 3000 ∧ 0 ≤ (g188 1086 0) ∧ sm_SC (g188 1100029) (g188 44) (g188 45) (g188 43) (S 21) (g188 1076 0) (S 1032 0) ∧ sm_PO (g188 42) (g188 1076 0) ∧ (S 1100032 0) = -1 ∧ sm_FO (g188 44) (g188 45) (g188 1076 0) ∧ 23 ≤ (g188 1076 0) ∧ 31 ≤ (g188 1007 0) ∧ (g188 1007 0) ≤ 400 ∧ sm_LN (g188 4) 400 (g188 1007 0) ∧ sm_CT (S 26) (S 27) (S 28) (S 29) (S 1100007) (S 1100023) (S 1100024) (S 1100025) (S 21) (S 1046 0) (S 1032 0) (S 1008 0) (S 1055 0) ∧ sm_LS (S 26) (S 1100007) (S 1100025) (S 1046 0) ∧ sm_CL (S 1100007) (S 1100023) (S 1100025) (S 1046 0) ∧ 1 ≤ (S 1032 0) ∧ (S 1032 0) ≤ 11 ∧ 0 ≤ (S 1046 0) ∧ (S 1046 0) ≤ 600 ∧ 31 ≤ (S 1008 0) ∧ (S 1008 0) ≤ (g188 1007 0) ∧ 0 ≤ (S 1055 0) ∧ (S 1055 0) ≤ 19 ∧ 1 ≤ (g188 1092 0) ∧ (g188 1092 0) ≤ 24 ∧ 0 ≤ (S 1100033 0) ∧ (S 1100033 0) < (S 1046 0) ∧ (S 29 (S 1100033 0)) = (S 53 ((g188 1092 0) - 1)) ∧ 0 ≤ (S 53 ((g188 1092 0) - 1)) ∧ (S 53 ((g188 1092 0) - 1)) < (S 1032 0) ∧ (g188 60 ((g188 1092 0) - 1)) = sm_dp (S 1100024) (S 1100023 (S 1100033 0)) ∧ sm_TC (S 61) (S 62) (S 27) (S 1100007) (S 1100023) (S 1100024) (40 * ((g188 1092 0) - 1)) (S 1100023 (S 1100033 0)) ∧ sm_LK (g188 1100029) (g188 1076 0) (S 54 ((g188 1092 0) - 1)) (S 53 ((g188 1092 0) - 1)) ∧ sm_VO (g188 44) (g188 1076 0) (g188 1007 0) ((S 55 ((g188 1092 0) - 1))) ((S 56 ((g188 1092 0) - 1))) ∧ sm_FW (g188 44) (g188 1076 0) (S 59 ((g188 1092 0) - 1)) ∧ sm_FL (S 53) (S 54) (S 55) (S 56) (g188 57) (g188 58) (S 59) (g188 60) (S 61) (S 62) (g188 63) (g188 64) (S 27) (S 29) (S 1100007) (S 1100023) (S 1100024) (S 1100025) (S 26) (g188 1100029) (g188 44) (S 1046 0) (S 1032 0) (g188 1076 0) (g188 1007 0) (((g188 1092 0) - 1)) ∧ (g188 57 ((g188 1092 0) - 1)) = (S 1100033 0) ∧ 0 ≤ (g188 58 ((g188 1092 0) - 1)) ∧ (g188 58 ((g188 1092 0) - 1)) ≤ 400 ∧ sm_SK (g188 63) (g188 64) (g188 44) (S 1100007) (S 1100025) (g188 1076 0) (g188 1007 0) (400 * ((g188 1092 0) - 1)) ((g188 58 ((g188 1092 0) - 1))) ((S 1100034 0)) ∧ -1 ≤ (S 1100034 0) ∧ (S 1100034 0) < (S 1046 0) ∧ (0 ≤ (S 1100034 0) → (S 26 (S 1100034 0)) = 29) ∧ (g188 58 ((g188 1092 0) - 1)) = (S 58 ((S 1092 0) - 1)) ∧ sm_VO (g188 44) (g188 1076 0) (g188 1007 0) ((g188 1111 0)) ((g188 1112 0))) ∧ (S 1086 0) ≤ (g188 1086 0) ∧ (g188 1086 0) ≤ (S 1086 0) + 3)) → (((¬ r192 = (0 : Int)) → (sm_PL (g188 1100020) (g188 51) (g188 52) (g188 46) (g188 47) (g188 1076 0) (g188 1086 0) ∧ sm_FR (g188 1100020) (g188 52) (g188 1100021) (g188 1100022) (3000 - (g188 1084 0)) (g188 1085 0) ∧ sm_PV (g188 1100020) (g188 48) (g188 49) (g188 50) (g188 44) (g188 1076 0) (g188 1007 0) ∧ sm_AL (g188 1100020) (g188 48) (g188 49) (g188 50) (g188 44) (g188 1076 0) (S 1100032 0) ∧ sm_SV (g188 1100020) (g188 48) (g188 1100029) (S 32) (S 33) (g188 1076 0) (S 1032 0) ∧ 0 ≤ (g188 1076 0) ∧ (g188 1076 0) ≤ 300 ∧ 0 ≤ (g188 1084 0) ∧ (g188 1084 0) ≤ 3000 ∧ 0 ≤ (g188 1086 0) ∧ sm_SC (g188 1100029) (g188 44) (g188 45) (g188 43) (S 21) (g188 1076 0) (S 1032 0) ∧ sm_PO (g188 42) (g188 1076 0) ∧ ((g188 1075 0) = 0 → (S 1100032 0) = -1 ∧ sm_FO (g188 44) (g188 45) (g188 1076 0)) ∧ 23 ≤ (g188 1076 0) ∧ 31 ≤ (g188 1007 0) ∧ (g188 1007 0) ≤ 400 ∧ sm_LN (g188 4) 400 (g188 1007 0) ∧ (S 1008 0) ≤ (g188 1007 0) ∧ ((S 1075 0) = 1 → (g188 1075 0) = 1) ∧ 0 ≤ (g188 1092 0) ∧ (g188 1092 0) ≤ 24 ∧ (S 1007 0) ≤ (g188 1007 0) ∧ (¬ (g188 1075 0) = 0 → sm_LX (g188 58) (g188 63) (g188 64) (g188 1092 0) (g188 1076 0)) ∧ (g188 1073 0) = 1 ∧ ((g188 1075 0) = 0 → sm_PL (g188 1100020) (g188 51) (g188 52) (g188 46) (g188 47) (g188 1076 0) (g188 1086 0) ∧ sm_FR (g188 1100020) (g188 52) (g188 1100021) (g188 1100022) (3000 - (g188 1084 0)) (g188 1085 0) ∧ sm_PV (g188 1100020) (g188 48) (g188 49) (g188 50) (g188 44) (g188 1076 0) (g188 1007 0) ∧ sm_AL (g188 1100020) (g188 48) (g188 49) (g188 50) (g188 44) (g188 1076 0) (S 1100032 0) ∧ sm_SV (g188 1100020) (g188 48) (g188 1100029) (S 32) (S 33) (g188 1076 0) (S 1032 0) ∧ 0 ≤ (g188 1076 0) ∧ (g188 1076 0) ≤ 300 ∧ 0 ≤ (g188 1084 0) ∧ (g188 1084 0) ≤ 3000 ∧ 0 ≤ (g188 1086 0) ∧ sm_SC (g188 1100029) (g188 44) (g188 45) (g188 43) (S 21) (g188 1076 0) (S 1032 0) ∧ sm_PO (g188 42) (g188 1076 0) ∧ (S 1100032 0) = -1 ∧ sm_FO (g188 44) (g188 45) (g188 1076 0) ∧ 23 ≤ (g188 1076 0) ∧ 31 ≤ (g188 1007 0) ∧ (g188 1007 0) ≤ 400 ∧ sm_LN (g188 4) 400 (g188 1007 0) ∧ sm_CT (S 26) (S 27) (S 28) (S 29) (S 1100007) (S 1100023) (S 1100024) (S 1100025) (S 21) (S 1046 0) (S 1032 0) (S 1008 0) (S 1055 0) ∧ sm_LS (S 26) (S 1100007) (S 1100025) (S 1046 0) ∧ sm_CL (S 1100007) (S 1100023) (S 1100025) (S 1046 0) ∧ 1 ≤ (S 1032 0) ∧ (S 1032 0) ≤ 11 ∧ 0 ≤ (S 1046 0) ∧ (S 1046 0) ≤ 600 ∧ 31 ≤ (S 1008 0) ∧ (S 1008 0) ≤ (g188 1007 0) ∧ 0 ≤ (S 1055 0) ∧ (S 1055 0) ≤ 19 ∧ 1 ≤ (g188 1092 0) ∧ (g188 1092 0) ≤ 24 ∧ 0 ≤ (S 1100033 0) ∧ (S 1100033 0) < (S 1046 0) ∧ (S 29 (S 1100033 0)) = (S 53 ((g188 1092 0) - 1)) ∧ 0 ≤ (S 53 ((g188 1092 0) - 1)) ∧ (S 53 ((g188 1092 0) - 1)) < (S 1032 0) ∧ (g188 60 ((g188 1092 0) - 1)) = sm_dp (S 1100024) (S 1100023 (S 1100033 0)) ∧ sm_TC (S 61) (S 62) (S 27) (S 1100007) (S 1100023) (S 1100024) (40 * ((g188 1092 0) - 1)) (S 1100023 (S 1100033 0)) ∧ sm_LK (g188 1100029) (g188 1076 0) (S 54 ((g188 1092 0) - 1)) (S 53 ((g188 1092 0) - 1)) ∧ sm_VO (g188 44) (g188 1076 0) (g188 1007 0) ((S 55 ((g188 1092 0) - 1))) ((S 56 ((g188 1092 0) - 1))) ∧ sm_FW (g188 44) (g188 1076 0) (S 59 ((g188 1092 0) - 1)) ∧ sm_FL (S 53) (S 54) (S 55) (S 56) (g188 57) (g188 58) (S 59) (g188 60) (S 61) (S 62) (g188 63) (g188 64) (S 27) (S 29) (S 1100007) (S 1100023) (S 1100024) (S 1100025) (S 26) (g188 1100029) (g188 44) (S 1046 0) (S 1032 0) (g188 1076 0) (g188 1007 0) (((g188 1092 0) - 1)) ∧ (g188 57 ((g188 1092 0) - 1)) = (S 1100033 0) ∧ 0 ≤ (g188 58 ((g188 1092 0) - 1)) ∧ (g188 58 ((g188 1092 0) - 1)) ≤ 400 ∧ sm_SK (g188 63) (g188 64) (g188 44) (S 1100007) (S 1100025) (g188 1076 0) (g188 1007 0) (400 * ((g188 1092 0) - 1)) ((g188 58 ((g188 1092 0) - 1))) ((S 1100034 0)) ∧ -1 ≤ (S 1100034 0) ∧ (S 1100034 0) < (S 1046 0) ∧ (0 ≤ (S 1100034 0) → (S 26 (S 1100034 0)) = 29) ∧ (g188 58 ((g188 1092 0) - 1)) = (S 58 ((S 1092 0) - 1)) ∧ sm_VO (g188 44) (g188 1076 0) (g188 1007 0) ((g188 1111 0)) ((g188 1112 0))) ∧ (S 1086 0) ≤ (g188 1086 0) ∧ (g188 1086 0) ≤ (S 1086 0) + 3 ∧ 0 ≤ (S 1107 0) ∧ (S 1107 0) ≤ 100 ∧ sm_PT (S 67) (S 1107 0) (g188 1007 0))) ∧ ((¬ (¬ r192 = (0 : Int))) → (sm_PL (g188 1100020) (g188 51) (g188 52) (g188 46) (g188 47) (g188 1076 0) (g188 1086 0) ∧ sm_FR (g188 1100020) (g188 52) (g188 1100021) (g188 1100022) (3000 - (g188 1084 0)) (g188 1085 0) ∧ sm_PV (g188 1100020) (g188 48) (g188 49) (g188 50) (g188 44) (g188 1076 0) (g188 1007 0) ∧ sm_AL (g188 1100020) (g188 48) (g188 49) (g188 50) (g188 44) (g188 1076 0) (S 1100032 0) ∧ sm_SV (g188 1100020) (g188 48) (g188 1100029) (S 32) (S 33) (g188 1076 0) (S 1032 0) ∧ 0 ≤ (g188 1076 0) ∧ (g188 1076 0) ≤ 300 ∧ 0 ≤ (g188 1084 0) ∧ (g188 1084 0) ≤ 3000 ∧ 0 ≤ (g188 1086 0) ∧ sm_SC (g188 1100029) (g188 44) (g188 45) (g188 43) (S 21) (g188 1076 0) (S 1032 0) ∧ sm_PO (g188 42) (g188 1076 0) ∧ ((g188 1075 0) = 0 → (S 1100032 0) = -1 ∧ sm_FO (g188 44) (g188 45) (g188 1076 0)) ∧ 23 ≤ (g188 1076 0) ∧ 31 ≤ (g188 1007 0) ∧ (g188 1007 0) ≤ 400 ∧ sm_LN (g188 4) 400 (g188 1007 0) ∧ (S 1008 0) ≤ (g188 1007 0) ∧ ((S 1075 0) = 1 → (g188 1075 0) = 1) ∧ 0 ≤ (g188 1092 0) ∧ (g188 1092 0) ≤ 24 ∧ (S 1007 0) ≤ (g188 1007 0) ∧ (¬ (g188 1075 0) = 0 → sm_LX (g188 58) (g188 63) (g188 64) (g188 1092 0) (g188 1076 0)) ∧ ((g188 1075 0) = 0 → (g188 1073 0) = 1 → 1 ≤ (g188 1092 0) ∧ (g188 1092 0) ≤ 24 ∧ 0 ≤ (g188 57 ((g188 1092 0) - 1)) ∧ (g188 57 ((g188 1092 0) - 1)) < (S 1046 0) ∧ (S 29 (g188 57 ((g188 1092 0) - 1))) = (S 53 ((g188 1092 0) - 1)) ∧ 0 ≤ (S 53 ((g188 1092 0) - 1)) ∧ (S 53 ((g188 1092 0) - 1)) < (S 1032 0) ∧ (g188 60 ((g188 1092 0) - 1)) = sm_dp (S 1100024) (S 1100023 (g188 57 ((g188 1092 0) - 1))) ∧ sm_TC (S 61) (S 62) (S 27) (S 1100007) (S 1100023) (S 1100024) (40 * ((g188 1092 0) - 1)) (S 1100023 (g188 57 ((g188 1092 0) - 1))) ∧ sm_LK (g188 1100029) (g188 1076 0) (S 54 ((g188 1092 0) - 1)) (S 53 ((g188 1092 0) - 1)) ∧ sm_VO (g188 44) (g188 1076 0) (g188 1007 0) ((S 55 ((g188 1092 0) - 1))) ((S 56 ((g188 1092 0) - 1))) ∧ sm_FW (g188 44) (g188 1076 0) (S 59 ((g188 1092 0) - 1)) ∧ sm_FL (S 53) (S 54) (S 55) (S 56) (g188 57) (g188 58) (S 59) (g188 60) (S 61) (S 62) (g188 63) (g188 64) (S 27) (S 29) (S 1100007) (S 1100023) (S 1100024) (S 1100025) (S 26) (g188 1100029) (g188 44) (S 1046 0) (S 1032 0) (g188 1076 0) (g188 1007 0) (((g188 1092 0) - 1)) ∧ (g188 58 ((g188 1092 0) - 1)) = (S 1100007 (g188 57 ((g188 1092 0) - 1))) ∧ sm_SK (g188 63) (g188 64) (g188 44) (S 1100007) (S 1100025) (g188 1076 0) (g188 1007 0) (400 * ((g188 1092 0) - 1)) ((g188 58 ((g188 1092 0) - 1))) ((S 1100025 (g188 57 ((g188 1092 0) - 1))))) ∧ ((g188 1073 0) = 1 ∨ (g188 1092 0) = 0 ∧ (g188 1075 0) = 0 ∧ ((g188 1073 0) = 2 ∨ (g188 1073 0) = 3)) ∧ (S 1086 0) ≤ (g188 1086 0) ∧ (g188 1086 0) ≤ (S 1086 0) + 110 ∧ 0 ≤ (S 1107 0) ∧ (S 1107 0) ≤ 100 ∧ sm_PT (S 67) (S 1107 0) (g188 1007 0)))))))))))) := by
  intro p1
  intro p2
  intro p3
  intro p4
  intro S
  intro h1_
  intro h2_
  intro h3_
  intro h4_
  intro h5_
  rintro ⟨h6_, ⟨h7_, ⟨h8_, ⟨h9_, ⟨h10_, ⟨h11_, ⟨h12_, ⟨h13_, ⟨h14_, ⟨h15_, ⟨h16_, ⟨h17_, ⟨h18_, ⟨h19_, ⟨h20_, ⟨h21_, ⟨h22_, ⟨h23_, ⟨h24_, ⟨h25_, ⟨h26_, ⟨h27_, ⟨h28_, ⟨h29_, ⟨h30_, ⟨h31_, ⟨h32_, ⟨h33_, ⟨h34_, ⟨h35_, ⟨h36_, ⟨h37_, ⟨h38_, ⟨h39_, ⟨h40_, ⟨h41_, ⟨h42_, ⟨h43_, ⟨h44_, ⟨h45_, ⟨h46_, ⟨h47_, ⟨h48_, ⟨h49_, ⟨h50_, ⟨h51_, ⟨h52_, ⟨h53_, ⟨h54_, ⟨h55_, ⟨h56_, ⟨h57_, ⟨h58_, ⟨h59_, ⟨h60_, ⟨h61_, ⟨h62_, ⟨h63_, ⟨h64_, ⟨h65_, ⟨h66_, ⟨h67_, ⟨h68_, ⟨h69_, ⟨h70_, ⟨h71_, ⟨h72_, ⟨h73_, ⟨h74_, ⟨h75_, ⟨h76_, ⟨h77_, ⟨h78_, ⟨h79_, ⟨h80_, ⟨h81_, ⟨h82_, ⟨h83_, h84_⟩⟩⟩⟩⟩⟩⟩⟩⟩⟩⟩⟩⟩⟩⟩⟩⟩⟩⟩⟩⟩⟩⟩⟩⟩⟩⟩⟩⟩⟩⟩⟩⟩⟩⟩⟩⟩⟩⟩⟩⟩⟩⟩⟩⟩⟩⟩⟩⟩⟩⟩⟩⟩⟩⟩⟩⟩⟩⟩⟩⟩⟩⟩⟩⟩⟩⟩⟩⟩⟩⟩⟩⟩⟩⟩⟩⟩⟩
  refine ⟨(la_nativeOf_0 h38_ h39_ h61_ h63_ h72_ h73_), ?_⟩
  intro r6
  intro h85_
  rintro ⟨h86_, h87_⟩
  intro r11
  intro h88_
  rintro ⟨h89_, h90_⟩
  intro h91_
  have h92_ := (h91_ h54_)
  have h93_ := (h92_ h28_)
  have h94_ := (h93_ h73_)
  have h95_ := (h94_ la_nativeOf_1)
  have h96_ := (h95_ h72_)
  have h97_ := (h96_ h63_)
  have h98_ := (h97_ h56_)
  have h99_ := (h98_ h57_)
  have h100_ := (h99_ h64_)
  have h101_ := (h100_ h86_)
  have h102_ := (h101_ h87_)
  have h103_ := (h102_ h89_)
  have h104_ := (h103_ h90_)
  refine ⟨?_, ?_⟩
  · skip
    intro g13
    rintro ⟨h105_, ⟨h106_, ⟨h107_, ⟨h108_, ⟨h109_, ⟨h110_, ⟨h111_, ⟨h112_, ⟨h113_, ⟨h114_, ⟨h115_, ⟨h116_, ⟨h117_, ⟨h118_, ⟨h119_, ⟨h120_, ⟨h121_, ⟨h122_, ⟨h123_, ⟨h124_, ⟨h125_, ⟨h126_, ⟨h127_, ⟨h128_, ⟨h129_, ⟨h130_, ⟨h131_, ⟨h132_, ⟨h133_, h134_⟩⟩⟩⟩⟩⟩⟩⟩⟩⟩⟩⟩⟩⟩⟩⟩⟩⟩⟩⟩⟩⟩⟩⟩⟩⟩⟩⟩⟩
    refine ⟨?_, ?_⟩
    · skip
      refine ⟨?_, ?_⟩
      · skip
        intro h135_
        obtain ⟨h136_, h137_⟩ := (h117_ h135_)
        obtain ⟨h138_, ⟨h139_, ⟨h140_, ⟨h141_, ⟨h142_, ⟨h143_, ⟨h144_, ⟨h145_, ⟨h146_, ⟨h147_, ⟨h148_, ⟨h149_, ⟨h150_, ⟨h151_, ⟨h152_, ⟨h153_, ⟨h154_, ⟨h155_, ⟨h156_, ⟨h157_, ⟨h158_, ⟨h159_, ⟨h160_, ⟨h161_, ⟨h162_, ⟨h163_, ⟨h164_, ⟨h165_, ⟨h166_, ⟨h167_, ⟨h168_, ⟨h169_, ⟨h170_, ⟨h171_, ⟨h172_, ⟨h173_, ⟨h174_, ⟨h175_, ⟨h176_, ⟨h177_, ⟨h178_, ⟨h179_, ⟨h180_, ⟨h181_, ⟨h182_, ⟨h183_, ⟨h184_, ⟨h185_, ⟨h186_, ⟨h187_, h188_⟩⟩⟩⟩⟩⟩⟩⟩⟩⟩⟩⟩⟩⟩⟩⟩⟩⟩⟩⟩⟩⟩⟩⟩⟩⟩⟩⟩⟩⟩⟩⟩⟩⟩⟩⟩⟩⟩⟩⟩⟩⟩⟩⟩⟩⟩⟩⟩⟩⟩ := (h129_ h135_)
        intro h189_
        refine ⟨h105_, ?_⟩
        refine ⟨h106_, ?_⟩
        refine ⟨h107_, ?_⟩
        refine ⟨h108_, ?_⟩
        refine ⟨h109_, ?_⟩
        refine ⟨h110_, ?_⟩
        refine ⟨h111_, ?_⟩
        refine ⟨h112_, ?_⟩
        refine ⟨h113_, ?_⟩
        refine ⟨h114_, ?_⟩
        refine ⟨h115_, ?_⟩
        refine ⟨h116_, ?_⟩
        refine ⟨h136_, ?_⟩
        refine ⟨h137_, ?_⟩
        refine ⟨h118_, ?_⟩
        refine ⟨h119_, ?_⟩
        refine ⟨h120_, ?_⟩
        refine ⟨h121_, ?_⟩
        refine ⟨h27_, ?_⟩
        refine ⟨h28_, ?_⟩
        refine ⟨h29_, ?_⟩
        refine ⟨h30_, ?_⟩
        refine ⟨h31_, ?_⟩
        refine ⟨h32_, ?_⟩
        refine ⟨h33_, ?_⟩
        refine ⟨h34_, ?_⟩
        refine ⟨h122_, ?_⟩
        refine ⟨h36_, ?_⟩
        refine ⟨h37_, ?_⟩
        refine ⟨h167_, ?_⟩
        refine ⟨h125_, ?_⟩
        refine ⟨h40_, ?_⟩
        refine ⟨h41_, ?_⟩
        refine ⟨h171_, ?_⟩
        refine ⟨h172_, ?_⟩
        refine ⟨h173_, ?_⟩
        refine ⟨h174_, ?_⟩
        refine ⟨h175_, ?_⟩
        refine ⟨h176_, ?_⟩
        refine ⟨h177_, ?_⟩
        refine ⟨h178_, ?_⟩
        refine ⟨h179_, ?_⟩
        refine ⟨h180_, ?_⟩
        refine ⟨h181_, ?_⟩
        refine ⟨h182_, ?_⟩
        refine ⟨h183_, ?_⟩
        refine ⟨h55_, ?_⟩
        refine ⟨h56_, ?_⟩
        refine ⟨h57_, ?_⟩
        refine ⟨(la_nativeOf_4 h62_), ?_⟩
        refine ⟨(la_nativeOf_5 h63_ h187_), ?_⟩
        refine ⟨(la_nativeOf_6 h61_ h62_ h187_), ?_⟩
        refine ⟨h188_, ?_⟩
        refine ⟨(la_nativeOf_7 h64_ h187_), ?_⟩
        refine ⟨h65_, ?_⟩
        refine ⟨h66_, ?_⟩
        refine ⟨(la_nativeOf_8 h67_ h187_), ?_⟩
        refine ⟨h68_, ?_⟩
        exact h69_
      intro h190_
      have h191_ := (h127_ h190_)
      exact h191_
    intro g19
    rintro ⟨h192_, h193_⟩
    refine ⟨h105_, ?_⟩
    refine ⟨h106_, ?_⟩
    refine ⟨h107_, ?_⟩
    refine ⟨h108_, ?_⟩
    refine ⟨h109_, ?_⟩
    refine ⟨h110_, ?_⟩
    refine ⟨h111_, ?_⟩
    refine ⟨h112_, ?_⟩
    refine ⟨h113_, ?_⟩
    refine ⟨h114_, ?_⟩
    refine ⟨h115_, ?_⟩
    refine ⟨h116_, ?_⟩
    refine ⟨h117_, ?_⟩
    refine ⟨h118_, ?_⟩
    refine ⟨h119_, ?_⟩
    refine ⟨h120_, ?_⟩
    refine ⟨h121_, ?_⟩
    refine ⟨h122_, ?_⟩
    refine ⟨h123_, ?_⟩
    refine ⟨h124_, ?_⟩
    refine ⟨h125_, ?_⟩
    refine ⟨h126_, ?_⟩
    refine ⟨h193_, ?_⟩
    refine ⟨h192_, ?_⟩
    refine ⟨(la_nativeOf_9 h124_ h128_), ?_⟩
    refine ⟨h130_, ?_⟩
    refine ⟨(la_nativeOf_10 h131_), ?_⟩
    refine ⟨h132_, ?_⟩
    refine ⟨h133_, ?_⟩
    exact h134_
  intro h194_
  refine ⟨?_, ?_⟩
  · skip
    intro h195_
    have h196_ := (h195_.resolve_left (la_nativeOf_11 h79_))
    have h197_ := (h196_.resolve_left (la_nativeOf_12 h80_))
    refine ⟨(la_nativeOf_13 h79_ h80_), ?_⟩
    refine ⟨(la_nativeOf_14 h79_ h80_), ?_⟩
    refine ⟨⟨h9_, ⟨h10_, ⟨h11_, ⟨h12_, ⟨h13_, ⟨h14_, ⟨h15_, ⟨h16_, ⟨h17_, ⟨h18_, ⟨h19_, ⟨h20_, (la_nativeOf_15 h23_ h79_ h80_)⟩⟩⟩⟩⟩⟩⟩⟩⟩⟩⟩⟩, ?_⟩
    intro r33
    intro h198_
    intro g29
    rintro ⟨h199_, ⟨h200_, ⟨h201_, ⟨h202_, ⟨h203_, ⟨h204_, ⟨h205_, ⟨h206_, ⟨h207_, ⟨h208_, ⟨h209_, ⟨h210_, ⟨h211_, ⟨h212_, ⟨h213_, ⟨h214_, ⟨h215_, ⟨h216_, ⟨h217_, ⟨h218_, ⟨h219_, ⟨h220_, ⟨h221_, ⟨h222_, ⟨h223_, h224_⟩⟩⟩⟩⟩⟩⟩⟩⟩⟩⟩⟩⟩⟩⟩⟩⟩⟩⟩⟩⟩⟩⟩⟩⟩
    have h225_ := (h223_ h22_)
    have h226_ := (h225_ la_nativeOf_16)
    have h227_ := (h226_ (la_nativeOf_17 h23_))
    rintro ⟨h228_, h229_⟩
    refine ⟨?_, ?_⟩
    · skip
      intro h230_
      have h231_ := (h222_ (la_nativeOf_19 h229_ (la_nativeOf_18 h228_ h230_)))
      have h232_ := (h231_ h6_)
      have h233_ := (h221_ h232_)
      intro h234_
      have h235_ := (h234_ h211_)
      have h236_ := (h235_ h212_)
      intro g38
      rintro ⟨h237_, h238_⟩
      refine ⟨h199_, ?_⟩
      refine ⟨h10_, ?_⟩
      refine ⟨h201_, ?_⟩
      refine ⟨h202_, ?_⟩
      refine ⟨h203_, ?_⟩
      refine ⟨h204_, ?_⟩
      refine ⟨h205_, ?_⟩
      refine ⟨h16_, ?_⟩
      refine ⟨h17_, ?_⟩
      refine ⟨h18_, ?_⟩
      refine ⟨h209_, ?_⟩
      refine ⟨h210_, ?_⟩
      refine ⟨?_, ?_⟩
      · skip
        intro h239_
        obtain ⟨h240_, h241_⟩ := ((sm_VO_e h48_).2.2.1 (la_nativeOf_20 (la_nativeOf_18 h228_ h230_) h239_))
        obtain ⟨h242_, ⟨h243_, h244_⟩⟩ := ((sm_VO_e h48_).2.2.2 (la_nativeOf_21 (sm_VO_e h48_).2.1 (la_nativeOf_18 h228_ h230_) h239_))
        obtain ⟨h245_, h246_⟩ := ((sm_VO_e h78_).2.2.1 (la_nativeOf_20 (la_nativeOf_18 h228_ h230_) h239_))
        obtain ⟨h247_, ⟨h248_, h249_⟩⟩ := ((sm_VO_e h78_).2.2.2 (la_nativeOf_21 (sm_VO_e h78_).2.1 (la_nativeOf_18 h228_ h230_) h239_))
        have h250_ := (h86_ (la_nativeOf_22 (la_nativeOf_18 h228_ h230_) h239_))
        have h251_ := (h87_ (la_nativeOf_23 (la_nativeOf_18 h228_ h230_) h239_))
        have h252_ := (h89_ (la_nativeOf_22 (la_nativeOf_18 h228_ h230_) h239_))
        have h253_ := (h90_ (la_nativeOf_23 (la_nativeOf_18 h228_ h230_) h239_))
        obtain ⟨h254_, h255_⟩ := ((sm_VO_e h104_).2.2.1 (la_nativeOf_24 (la_nativeOf_18 h228_ h230_) h239_ h251_))
        obtain ⟨h256_, ⟨h257_, h258_⟩⟩ := ((sm_VO_e h104_).2.2.2 (la_nativeOf_25 (la_nativeOf_18 h228_ h230_) h239_ h251_))
        obtain ⟨h259_, h260_⟩ := (h224_ (la_nativeOf_26 (la_nativeOf_18 h228_ h230_) h239_))
        refine ⟨h21_, ?_⟩
        exact h227_
      refine ⟨(la_nativeOf_27 h23_ h214_), ?_⟩
      refine ⟨h24_, ?_⟩
      refine ⟨h25_, ?_⟩
      refine ⟨h26_, ?_⟩
      refine ⟨h35_, ?_⟩
      refine ⟨h213_, ?_⟩
      refine ⟨(la_nativeOf_4 h38_), ?_⟩
      refine ⟨h39_, ?_⟩
      refine ⟨la_nativeOf_28, ?_⟩
      refine ⟨?_, ?_⟩
      · skip
        intro h261_
        exact (sm_LX_m h8_ h214_)
      refine ⟨h7_, ?_⟩
      refine ⟨?_, ?_⟩
      · skip
        intro h262_
        obtain ⟨h263_, h264_⟩ := ((sm_VO_e h48_).2.2.1 (la_nativeOf_20 (la_nativeOf_18 h228_ h230_) h262_))
        obtain ⟨h265_, ⟨h266_, h267_⟩⟩ := ((sm_VO_e h48_).2.2.2 (la_nativeOf_21 (sm_VO_e h48_).2.1 (la_nativeOf_18 h228_ h230_) h262_))
        obtain ⟨h268_, h269_⟩ := ((sm_VO_e h78_).2.2.1 (la_nativeOf_20 (la_nativeOf_18 h228_ h230_) h262_))
        obtain ⟨h270_, ⟨h271_, h272_⟩⟩ := ((sm_VO_e h78_).2.2.2 (la_nativeOf_21 (sm_VO_e h78_).2.1 (la_nativeOf_18 h228_ h230_) h262_))
        have h273_ := (h86_ (la_nativeOf_22 (la_nativeOf_18 h228_ h230_) h262_))
        have h274_ := (h87_ (la_nativeOf_23 (la_nativeOf_18 h228_ h230_) h262_))
        have h275_ := (h89_ (la_nativeOf_22 (la_nativeOf_18 h228_ h230_) h262_))
        have h276_ := (h90_ (la_nativeOf_23 (la_nativeOf_18 h228_ h230_) h262_))
        obtain ⟨h277_, h278_⟩ := ((sm_VO_e h104_).2.2.1 (la_nativeOf_24 (la_nativeOf_18 h228_ h230_) h262_ h274_))
        obtain ⟨h279_, ⟨h280_, h281_⟩⟩ := ((sm_VO_e h104_).2.2.2 (la_nativeOf_25 (la_nativeOf_18 h228_ h230_) h262_ h274_))
        obtain ⟨h282_, h283_⟩ := (h224_ (la_nativeOf_26 (la_nativeOf_18 h228_ h230_) h262_))
        refine ⟨h199_, ?_⟩
        refine ⟨h10_, ?_⟩
        refine ⟨h201_, ?_⟩
        refine ⟨h202_, ?_⟩
        refine ⟨h203_, ?_⟩
        refine ⟨h204_, ?_⟩
        refine ⟨h205_, ?_⟩
        refine ⟨h16_, ?_⟩
        refine ⟨h17_, ?_⟩
        refine ⟨h18_, ?_⟩
        refine ⟨h209_, ?_⟩
        refine ⟨h210_, ?_⟩
        refine ⟨h21_, ?_⟩
        refine ⟨h227_, ?_⟩
        refine ⟨(la_nativeOf_29 h23_ h283_), ?_⟩
        refine ⟨h24_, ?_⟩
        refine ⟨h25_, ?_⟩
        refine ⟨h26_, ?_⟩
        refine ⟨h27_, ?_⟩
        refine ⟨h28_, ?_⟩
        refine ⟨h29_, ?_⟩
        refine ⟨h30_, ?_⟩
        refine ⟨h31_, ?_⟩
        refine ⟨h32_, ?_⟩
        refine ⟨h33_, ?_⟩
        refine ⟨h34_, ?_⟩
        refine ⟨h35_, ?_⟩
        refine ⟨h36_, ?_⟩
        refine ⟨h37_, ?_⟩
        refine ⟨h38_, ?_⟩
        refine ⟨h39_, ?_⟩
        refine ⟨h40_, ?_⟩
        refine ⟨h41_, ?_⟩
        refine ⟨h42_, ?_⟩
        refine ⟨h43_, ?_⟩
        refine ⟨h44_, ?_⟩
        refine ⟨h45_, ?_⟩
        refine ⟨h46_, ?_⟩
        refine ⟨(sm_LK_m h47_ h214_ (sm_F1_le h216_ (Int.le_refl _))), ?_⟩
        refine ⟨(sm_VO_m h48_ h214_ (Int.le_refl _) (sm_F1_le h215_ (Int.le_refl _))), ?_⟩
        refine ⟨(sm_FW_m h49_ h214_ (sm_F1_le h215_ (Int.le_refl _))), ?_⟩
        refine ⟨(sm_FL_F h50_ sm_F1_rf sm_F1_rf sm_F1_rf sm_F1_rf sm_F1_rf sm_F1_rf sm_F1_rf sm_F1_rf sm_F1_rf sm_F1_rf sm_F1_rf sm_F1_rf h214_ (Int.le_refl _) (sm_F1_le h216_ (Int.le_refl _)) (sm_F1_le h215_ (Int.le_refl _)) (sm_FL_dp h50_ h27_)), ?_⟩
        refine ⟨h51_, ?_⟩
        refine ⟨h52_, ?_⟩
        refine ⟨h53_, ?_⟩
        refine ⟨(sm_SK_m h54_ h214_ (Int.le_refl _) (sm_F1_le h215_ (Int.le_refl _))), ?_⟩
        refine ⟨h55_, ?_⟩
        refine ⟨h56_, ?_⟩
        refine ⟨h57_, ?_⟩
        refine ⟨la_nativeOf_30, ?_⟩
        have e284_ : S 44 p3 = S 44 (S 56 (S 1092 0 - 1)) := congrArg ((S 44)) (la_nativeOf_34 h232_ h283_)
        have e285_ : S 44 r11 = S 44 (S 56 (S 1092 0 - 1)) := congrArg ((S 44)) (la_nativeOf_34 h232_ h283_)
        have e286_ : S 44 r11 = S 44 p3 := congrArg ((S 44)) (la_nativeOf_34 h232_ h283_)
        exact ((la_nativeOf_35 h232_ h283_)).elim
      refine ⟨la_nativeOf_28, ?_⟩
      refine ⟨la_nativeOf_36, ?_⟩
      refine ⟨h82_, ?_⟩
      refine ⟨h83_, ?_⟩
      exact h84_
    intro h287_
    obtain ⟨h288_, ⟨h289_, ⟨h290_, ⟨h291_, ⟨h292_, ⟨h293_, h294_⟩⟩⟩⟩⟩⟩ := (h220_ (la_nativeOf_37 h228_ h287_))
    obtain ⟨h295_, h296_⟩ := (h224_ (la_nativeOf_40 h205_ h212_ h288_))
    intro h297_
    refine ⟨?_, ?_⟩
    · skip
      intro h298_
      have h299_ := (h87_ (la_nativeOf_41 h298_))
      have h300_ := (h90_ (la_nativeOf_41 h298_))
      intro h301_
      have h302_ := (h301_ h211_)
      have h303_ := (h302_ h212_)
      have h304_ := (h303_ (la_nativeOf_44 h290_))
      obtain ⟨h305_, ⟨h306_, h307_⟩⟩ := ((sm_VO_e h304_).2.2.2 la_nativeOf_46)
      intro g46
      rintro ⟨h308_, h309_⟩
      refine ⟨h199_, ?_⟩
      refine ⟨h10_, ?_⟩
      refine ⟨h201_, ?_⟩
      refine ⟨h202_, ?_⟩
      refine ⟨h203_, ?_⟩
      refine ⟨h204_, ?_⟩
      refine ⟨h205_, ?_⟩
      refine ⟨h16_, ?_⟩
      refine ⟨h17_, ?_⟩
      refine ⟨h18_, ?_⟩
      refine ⟨h209_, ?_⟩
      refine ⟨h210_, ?_⟩
      refine ⟨?_, ?_⟩
      · skip
        intro h310_
        refine ⟨h21_, ?_⟩
        exact h227_
      refine ⟨(la_nativeOf_29 h23_ h296_), ?_⟩
      refine ⟨h24_, ?_⟩
      refine ⟨h25_, ?_⟩
      refine ⟨h26_, ?_⟩
      refine ⟨h35_, ?_⟩
      refine ⟨h213_, ?_⟩
      refine ⟨(la_nativeOf_4 h38_), ?_⟩
      refine ⟨h39_, ?_⟩
      refine ⟨la_nativeOf_28, ?_⟩
      refine ⟨?_, ?_⟩
      · skip
        intro h311_
        exact (sm_LX_m h8_ h214_)
      refine ⟨h7_, ?_⟩
      refine ⟨?_, ?_⟩
      · skip
        intro h312_
        refine ⟨h199_, ?_⟩
        refine ⟨h10_, ?_⟩
        refine ⟨h201_, ?_⟩
        refine ⟨h202_, ?_⟩
        refine ⟨h203_, ?_⟩
        refine ⟨h204_, ?_⟩
        refine ⟨h205_, ?_⟩
        refine ⟨h16_, ?_⟩
        refine ⟨h17_, ?_⟩
        refine ⟨h18_, ?_⟩
        refine ⟨h209_, ?_⟩
        refine ⟨h210_, ?_⟩
        refine ⟨h21_, ?_⟩
        refine ⟨h227_, ?_⟩
        refine ⟨(la_nativeOf_29 h23_ h296_), ?_⟩
        refine ⟨h24_, ?_⟩
        refine ⟨h25_, ?_⟩
        refine ⟨h26_, ?_⟩
        refine ⟨h27_, ?_⟩
        refine ⟨h28_, ?_⟩
        refine ⟨h29_, ?_⟩
        refine ⟨h30_, ?_⟩
        refine ⟨h31_, ?_⟩
        refine ⟨h32_, ?_⟩
        refine ⟨h33_, ?_⟩
        refine ⟨h34_, ?_⟩
        refine ⟨h35_, ?_⟩
        refine ⟨h36_, ?_⟩
        refine ⟨h37_, ?_⟩
        refine ⟨h38_, ?_⟩
        refine ⟨h39_, ?_⟩
        refine ⟨h40_, ?_⟩
        refine ⟨h41_, ?_⟩
        refine ⟨h42_, ?_⟩
        refine ⟨h43_, ?_⟩
        refine ⟨h44_, ?_⟩
        refine ⟨h45_, ?_⟩
        refine ⟨h46_, ?_⟩
        refine ⟨(sm_LK_m h47_ h214_ (sm_F1_le h216_ (Int.le_refl _))), ?_⟩
        refine ⟨(sm_VO_m h48_ h214_ (Int.le_refl _) (sm_F1_le h215_ (Int.le_refl _))), ?_⟩
        refine ⟨(sm_FW_m h49_ h214_ (sm_F1_le h215_ (Int.le_refl _))), ?_⟩
        refine ⟨(sm_FL_F h50_ sm_F1_rf sm_F1_rf sm_F1_rf sm_F1_rf sm_F1_rf sm_F1_rf sm_F1_rf sm_F1_rf sm_F1_rf sm_F1_rf sm_F1_rf sm_F1_rf h214_ (Int.le_refl _) (sm_F1_le h216_ (Int.le_refl _)) (sm_F1_le h215_ (Int.le_refl _)) (sm_FL_dp h50_ h27_)), ?_⟩
        refine ⟨h51_, ?_⟩
        refine ⟨h52_, ?_⟩
        refine ⟨h53_, ?_⟩
        refine ⟨(sm_SK_m h54_ h214_ (Int.le_refl _) (sm_F1_le h215_ (Int.le_refl _))), ?_⟩
        refine ⟨h55_, ?_⟩
        refine ⟨h56_, ?_⟩
        refine ⟨h57_, ?_⟩
        refine ⟨la_nativeOf_30, ?_⟩
        exact (sm_VO_eq h304_ h308_ h309_)
      refine ⟨la_nativeOf_28, ?_⟩
      refine ⟨la_nativeOf_36, ?_⟩
      refine ⟨h82_, ?_⟩
      refine ⟨h83_, ?_⟩
      exact h84_
    intro h313_
    have h314_ := (h86_ (la_nativeOf_51 h313_))
    have h315_ := (h89_ (la_nativeOf_51 h313_))
    refine ⟨⟨h24_, ⟨h25_, ⟨h26_, (sm_VO_e h104_).2.2.1⟩⟩⟩, ?_⟩
    intro r57
    intro h316_
    intro g53
    rintro ⟨h317_, ⟨h318_, ⟨h319_, ⟨h320_, ⟨h321_, ⟨h322_, h323_⟩⟩⟩⟩⟩⟩
    rintro ⟨h324_, h325_⟩
    refine ⟨?_, ?_⟩
    · skip
      intro h326_
      intro h327_
      have h328_ := (h327_ h211_)
      have h329_ := (h328_ h212_)
      have h330_ := (h329_ (la_nativeOf_44 h290_))
      obtain ⟨h331_, ⟨h332_, h333_⟩⟩ := ((sm_VO_e h330_).2.2.2 la_nativeOf_46)
      intro g62
      rintro ⟨h334_, h335_⟩
      refine ⟨h199_, ?_⟩
      refine ⟨h10_, ?_⟩
      refine ⟨(sm_PV_m h201_ (Int.le_refl _) h320_ sm_F1_rf), ?_⟩
      refine ⟨h202_, ?_⟩
      refine ⟨h203_, ?_⟩
      refine ⟨h204_, ?_⟩
      refine ⟨h205_, ?_⟩
      refine ⟨h16_, ?_⟩
      refine ⟨h17_, ?_⟩
      refine ⟨h18_, ?_⟩
      refine ⟨h209_, ?_⟩
      refine ⟨h210_, ?_⟩
      refine ⟨?_, ?_⟩
      · skip
        intro h336_
        obtain ⟨h337_, h338_⟩ := ((sm_VO_e h48_).2.2.1 (la_nativeOf_20 (la_nativeOf_18 h324_ h326_) h336_))
        obtain ⟨h339_, ⟨h340_, h341_⟩⟩ := ((sm_VO_e h48_).2.2.2 (la_nativeOf_21 (sm_VO_e h48_).2.1 (la_nativeOf_18 h324_ h326_) h336_))
        obtain ⟨h342_, h343_⟩ := ((sm_VO_e h78_).2.2.1 (la_nativeOf_20 (la_nativeOf_18 h324_ h326_) h336_))
        obtain ⟨h344_, ⟨h345_, h346_⟩⟩ := ((sm_VO_e h78_).2.2.2 (la_nativeOf_53 (la_nativeOf_18 h324_ h326_) h336_))
        obtain ⟨h347_, h348_⟩ := ((sm_VO_e h104_).2.2.1 (la_nativeOf_20 (la_nativeOf_18 h324_ h326_) h336_))
        obtain ⟨h349_, ⟨h350_, h351_⟩⟩ := ((sm_VO_e h104_).2.2.2 (la_nativeOf_21 (sm_VO_e h104_).2.1 (la_nativeOf_18 h324_ h326_) h336_))
        have h352_ := (h319_ (la_nativeOf_54 (la_nativeOf_18 h324_ h326_) h336_))
        have h353_ := (h352_ h347_)
        have h354_ := (h353_ (la_nativeOf_55 (la_nativeOf_18 h324_ h326_) h336_))
        have h355_ := (h354_ h336_)
        refine ⟨h21_, ?_⟩
        exact h227_
      refine ⟨(la_nativeOf_29 h23_ h296_), ?_⟩
      refine ⟨(la_nativeOf_56 h24_ h320_), ?_⟩
      refine ⟨h321_, ?_⟩
      refine ⟨h322_, ?_⟩
      refine ⟨(la_nativeOf_57 h35_ h320_), ?_⟩
      refine ⟨(la_nativeOf_58 h325_ (la_nativeOf_18 h324_ h326_)), ?_⟩
      refine ⟨(la_nativeOf_4 h38_), ?_⟩
      refine ⟨h39_, ?_⟩
      refine ⟨h320_, ?_⟩
      refine ⟨?_, ?_⟩
      · skip
        intro h356_
        exact (sm_LX_m h8_ h214_)
      refine ⟨h7_, ?_⟩
      refine ⟨?_, ?_⟩
      · skip
        intro h357_
        obtain ⟨h358_, h359_⟩ := ((sm_VO_e h48_).2.2.1 (la_nativeOf_20 (la_nativeOf_18 h324_ h326_) h357_))
        obtain ⟨h360_, ⟨h361_, h362_⟩⟩ := ((sm_VO_e h48_).2.2.2 (la_nativeOf_21 (sm_VO_e h48_).2.1 (la_nativeOf_18 h324_ h326_) h357_))
        obtain ⟨h363_, h364_⟩ := ((sm_VO_e h78_).2.2.1 (la_nativeOf_20 (la_nativeOf_18 h324_ h326_) h357_))
        obtain ⟨h365_, ⟨h366_, h367_⟩⟩ := ((sm_VO_e h78_).2.2.2 (la_nativeOf_53 (la_nativeOf_18 h324_ h326_) h357_))
        obtain ⟨h368_, h369_⟩ := ((sm_VO_e h104_).2.2.1 (la_nativeOf_20 (la_nativeOf_18 h324_ h326_) h357_))
        obtain ⟨h370_, ⟨h371_, h372_⟩⟩ := ((sm_VO_e h104_).2.2.2 (la_nativeOf_21 (sm_VO_e h104_).2.1 (la_nativeOf_18 h324_ h326_) h357_))
        have h373_ := (h319_ (la_nativeOf_54 (la_nativeOf_18 h324_ h326_) h357_))
        have h374_ := (h373_ h368_)
        have h375_ := (h374_ (la_nativeOf_55 (la_nativeOf_18 h324_ h326_) h357_))
        have h376_ := (h375_ h357_)
        refine ⟨h199_, ?_⟩
        refine ⟨h10_, ?_⟩
        refine ⟨(sm_PV_m h201_ (Int.le_refl _) h320_ sm_F1_rf), ?_⟩
        refine ⟨h202_, ?_⟩
        refine ⟨h203_, ?_⟩
        refine ⟨h204_, ?_⟩
        refine ⟨h205_, ?_⟩
        refine ⟨h16_, ?_⟩
        refine ⟨h17_, ?_⟩
        refine ⟨h18_, ?_⟩
        refine ⟨h209_, ?_⟩
        refine ⟨h210_, ?_⟩
        refine ⟨h21_, ?_⟩
        refine ⟨h227_, ?_⟩
        refine ⟨(la_nativeOf_29 h23_ h296_), ?_⟩
        refine ⟨(la_nativeOf_56 h24_ h320_), ?_⟩
        refine ⟨h321_, ?_⟩
        refine ⟨h322_, ?_⟩
        refine ⟨h27_, ?_⟩
        refine ⟨h28_, ?_⟩
        refine ⟨h29_, ?_⟩
        refine ⟨h30_, ?_⟩
        refine ⟨h31_, ?_⟩
        refine ⟨h32_, ?_⟩
        refine ⟨h33_, ?_⟩
        refine ⟨h34_, ?_⟩
        refine ⟨(la_nativeOf_57 h35_ h320_), ?_⟩
        refine ⟨h36_, ?_⟩
        refine ⟨h37_, ?_⟩
        refine ⟨h38_, ?_⟩
        refine ⟨h39_, ?_⟩
        refine ⟨h40_, ?_⟩
        refine ⟨h41_, ?_⟩
        refine ⟨h42_, ?_⟩
        refine ⟨h43_, ?_⟩
        refine ⟨h44_, ?_⟩
        refine ⟨h45_, ?_⟩
        refine ⟨h46_, ?_⟩
        refine ⟨(sm_LK_m h47_ h214_ (sm_F1_le h216_ (Int.le_refl _))), ?_⟩
        refine ⟨(sm_VO_m h48_ h214_ h320_ (sm_F1_le h215_ (Int.le_refl _))), ?_⟩
        refine ⟨(sm_FW_m h49_ h214_ (sm_F1_le h215_ (Int.le_refl _))), ?_⟩
        refine ⟨(sm_FL_F h50_ sm_F1_rf sm_F1_rf sm_F1_rf sm_F1_rf sm_F1_rf sm_F1_rf sm_F1_rf sm_F1_rf sm_F1_rf sm_F1_rf sm_F1_rf sm_F1_rf h214_ h320_ (sm_F1_le h216_ (Int.le_refl _)) (sm_F1_le h215_ (Int.le_refl _)) (sm_FL_dp h50_ h27_)), ?_⟩
        refine ⟨h51_, ?_⟩
        refine ⟨h52_, ?_⟩
        refine ⟨h53_, ?_⟩
        refine ⟨(sm_SK_m h54_ h214_ h320_ (sm_F1_le h215_ (Int.le_refl _))), ?_⟩
        refine ⟨h55_, ?_⟩
        refine ⟨h56_, ?_⟩
        refine ⟨h57_, ?_⟩
        refine ⟨la_nativeOf_30, ?_⟩
        exact (sm_VO_eq h330_ h334_ h335_)
      refine ⟨la_nativeOf_28, ?_⟩
      refine ⟨la_nativeOf_36, ?_⟩
      refine ⟨h82_, ?_⟩
      refine ⟨h83_, ?_⟩
      exact (sm_PT_w h84_ (Int.le_refl _) h320_)
    intro h377_
    refine ⟨⟨h199_, ⟨h10_, ⟨(sm_PV_m h201_ (Int.le_refl _) h320_ sm_F1_rf), ⟨h202_, ⟨h203_, ⟨h204_, ⟨h205_, ⟨h16_, ⟨h17_, ⟨h18_, ⟨h211_, ⟨h212_, ⟨la_nativeOf_59, ⟨(la_nativeOf_60 h24_ h320_), ⟨(sm_VO_i la_nativeOf_61 la_nativeOf_62 (la_nativeOf_63 h317_ h318_) la_nativeOf_64), (la_nativeOf_65 h77_)⟩⟩⟩⟩⟩⟩⟩⟩⟩⟩⟩⟩⟩⟩⟩, ?_⟩
    intro g69
    rintro ⟨h378_, ⟨h379_, ⟨h380_, ⟨h381_, ⟨h382_, ⟨h383_, ⟨h384_, ⟨h385_, ⟨h386_, ⟨h387_, ⟨h388_, ⟨h389_, ⟨h390_, ⟨h391_, ⟨h392_, ⟨h393_, h394_⟩⟩⟩⟩⟩⟩⟩⟩⟩⟩⟩⟩⟩⟩⟩⟩
    intro h395_
    have h396_ := (h395_ h211_)
    have h397_ := (h396_ h212_)
    have h398_ := (h397_ (la_nativeOf_44 h290_))
    obtain ⟨h399_, ⟨h400_, h401_⟩⟩ := ((sm_VO_e h398_).2.2.2 la_nativeOf_46)
    intro g76
    rintro ⟨h402_, h403_⟩
    refine ⟨h378_, ?_⟩
    refine ⟨h379_, ?_⟩
    refine ⟨h380_, ?_⟩
    refine ⟨h381_, ?_⟩
    refine ⟨h382_, ?_⟩
    refine ⟨h204_, ?_⟩
    refine ⟨h205_, ?_⟩
    refine ⟨h385_, ?_⟩
    refine ⟨h386_, ?_⟩
    refine ⟨h387_, ?_⟩
    refine ⟨h209_, ?_⟩
    refine ⟨h210_, ?_⟩
    refine ⟨?_, ?_⟩
    · skip
      intro h404_
      have h405_ := (h390_ h404_)
      refine ⟨h21_, ?_⟩
      exact h227_
    refine ⟨(la_nativeOf_29 h23_ h296_), ?_⟩
    refine ⟨(la_nativeOf_56 h24_ h320_), ?_⟩
    refine ⟨h321_, ?_⟩
    refine ⟨h322_, ?_⟩
    refine ⟨(la_nativeOf_57 h35_ h320_), ?_⟩
    refine ⟨(la_nativeOf_66 h6_), ?_⟩
    refine ⟨(la_nativeOf_4 h38_), ?_⟩
    refine ⟨h39_, ?_⟩
    refine ⟨h320_, ?_⟩
    refine ⟨?_, ?_⟩
    · skip
      intro h406_
      exact (sm_LX_m h8_ h214_)
    refine ⟨h7_, ?_⟩
    refine ⟨?_, ?_⟩
    · skip
      intro h407_
      have h408_ := (h390_ h407_)
      refine ⟨h378_, ?_⟩
      refine ⟨h379_, ?_⟩
      refine ⟨h380_, ?_⟩
      refine ⟨h381_, ?_⟩
      refine ⟨h382_, ?_⟩
      refine ⟨h204_, ?_⟩
      refine ⟨h205_, ?_⟩
      refine ⟨h385_, ?_⟩
      refine ⟨h386_, ?_⟩
      refine ⟨h387_, ?_⟩
      refine ⟨h209_, ?_⟩
      refine ⟨h210_, ?_⟩
      refine ⟨h21_, ?_⟩
      refine ⟨h227_, ?_⟩
      refine ⟨(la_nativeOf_29 h23_ h296_), ?_⟩
      refine ⟨(la_nativeOf_56 h24_ h320_), ?_⟩
      refine ⟨h321_, ?_⟩
      refine ⟨h322_, ?_⟩
      refine ⟨h27_, ?_⟩
      refine ⟨h28_, ?_⟩
      refine ⟨h29_, ?_⟩
      refine ⟨h30_, ?_⟩
      refine ⟨h31_, ?_⟩
      refine ⟨h32_, ?_⟩
      refine ⟨h33_, ?_⟩
      refine ⟨h34_, ?_⟩
      refine ⟨(la_nativeOf_57 h35_ h320_), ?_⟩
      refine ⟨h36_, ?_⟩
      refine ⟨h37_, ?_⟩
      refine ⟨h38_, ?_⟩
      refine ⟨h39_, ?_⟩
      refine ⟨h40_, ?_⟩
      refine ⟨h41_, ?_⟩
      refine ⟨h42_, ?_⟩
      refine ⟨h43_, ?_⟩
      refine ⟨h44_, ?_⟩
      refine ⟨h45_, ?_⟩
      refine ⟨h46_, ?_⟩
      refine ⟨(sm_LK_m h47_ h214_ (sm_F1_le h216_ (Int.le_refl _))), ?_⟩
      refine ⟨(sm_VO_m h48_ h214_ h320_ (sm_F1_le h215_ (Int.le_refl _))), ?_⟩
      refine ⟨(sm_FW_m h49_ h214_ (sm_F1_le h215_ (Int.le_refl _))), ?_⟩
      refine ⟨(sm_FL_F h50_ sm_F1_rf sm_F1_rf sm_F1_rf sm_F1_rf sm_F1_rf sm_F1_rf sm_F1_rf sm_F1_rf sm_F1_rf sm_F1_rf sm_F1_rf sm_F1_rf h214_ h320_ (sm_F1_le h216_ (Int.le_refl _)) (sm_F1_le h215_ (Int.le_refl _)) (sm_FL_dp h50_ h27_)), ?_⟩
      refine ⟨h51_, ?_⟩
      refine ⟨h52_, ?_⟩
      refine ⟨h53_, ?_⟩
      refine ⟨(sm_SK_m h54_ h214_ h320_ (sm_F1_le h215_ (Int.le_refl _))), ?_⟩
      refine ⟨h55_, ?_⟩
      refine ⟨h56_, ?_⟩
      refine ⟨h57_, ?_⟩
      refine ⟨la_nativeOf_30, ?_⟩
      exact (sm_VO_eq h398_ h402_ h403_)
    refine ⟨h391_, ?_⟩
    refine ⟨(la_nativeOf_67 h392_), ?_⟩
    refine ⟨h82_, ?_⟩
    refine ⟨h83_, ?_⟩
    exact (sm_PT_w h84_ (Int.le_refl _) h320_)
  refine ⟨?_, ?_⟩
  · skip
    intro h409_
    refine ⟨⟨h24_, ⟨h25_, ⟨h26_, (sm_VO_e h104_).2.2.1⟩⟩⟩, ?_⟩
    intro r87
    intro h410_
    intro g83
    rintro ⟨h411_, ⟨h412_, ⟨h413_, ⟨h414_, ⟨h415_, ⟨h416_, h417_⟩⟩⟩⟩⟩⟩
    refine ⟨?_, ?_⟩
    · skip
      intro g90
      rintro ⟨h418_, ⟨h419_, ⟨h420_, ⟨h421_, ⟨h422_, h423_⟩⟩⟩⟩⟩
      intro g96
      rintro ⟨h424_, h425_⟩
      refine ⟨h9_, ?_⟩
      refine ⟨h10_, ?_⟩
      refine ⟨(sm_PV_m h11_ (Int.le_refl _) h414_ sm_F1_rf), ?_⟩
      refine ⟨h12_, ?_⟩
      refine ⟨h13_, ?_⟩
      refine ⟨h14_, ?_⟩
      refine ⟨h15_, ?_⟩
      refine ⟨h16_, ?_⟩
      refine ⟨h17_, ?_⟩
      refine ⟨h18_, ?_⟩
      refine ⟨h19_, ?_⟩
      refine ⟨h20_, ?_⟩
      refine ⟨?_, ?_⟩
      · skip
        intro h426_
        obtain ⟨h427_, ⟨h428_, h429_⟩⟩ := (h418_ h426_)
        refine ⟨h21_, ?_⟩
        exact h22_
      refine ⟨h23_, ?_⟩
      refine ⟨(la_nativeOf_56 h24_ h414_), ?_⟩
      refine ⟨h415_, ?_⟩
      refine ⟨h416_, ?_⟩
      refine ⟨(la_nativeOf_57 h35_ h414_), ?_⟩
      refine ⟨h417_, ?_⟩
      refine ⟨(la_nativeOf_4 h38_), ?_⟩
      refine ⟨h39_, ?_⟩
      refine ⟨h414_, ?_⟩
      refine ⟨?_, ?_⟩
      · skip
        intro h430_
        exact h8_
      refine ⟨h7_, ?_⟩
      refine ⟨?_, ?_⟩
      · skip
        intro h431_
        obtain ⟨h432_, ⟨h433_, h434_⟩⟩ := (h418_ h431_)
        refine ⟨h9_, ?_⟩
        refine ⟨h10_, ?_⟩
        refine ⟨(sm_PV_m h11_ (Int.le_refl _) h414_ sm_F1_rf), ?_⟩
        refine ⟨h12_, ?_⟩
        refine ⟨h13_, ?_⟩
        refine ⟨h14_, ?_⟩
        refine ⟨h15_, ?_⟩
        refine ⟨h16_, ?_⟩
        refine ⟨h17_, ?_⟩
        refine ⟨h18_, ?_⟩
        refine ⟨h19_, ?_⟩
        refine ⟨h20_, ?_⟩
        refine ⟨h21_, ?_⟩
        refine ⟨h22_, ?_⟩
        refine ⟨h23_, ?_⟩
        refine ⟨(la_nativeOf_56 h24_ h414_), ?_⟩
        refine ⟨h415_, ?_⟩
        refine ⟨h416_, ?_⟩
        refine ⟨h27_, ?_⟩
        refine ⟨h28_, ?_⟩
        refine ⟨h29_, ?_⟩
        refine ⟨h30_, ?_⟩
        refine ⟨h31_, ?_⟩
        refine ⟨h32_, ?_⟩
        refine ⟨h33_, ?_⟩
        refine ⟨h34_, ?_⟩
        refine ⟨(la_nativeOf_57 h35_ h414_), ?_⟩
        refine ⟨h36_, ?_⟩
        refine ⟨h37_, ?_⟩
        refine ⟨h38_, ?_⟩
        refine ⟨h39_, ?_⟩
        refine ⟨h40_, ?_⟩
        refine ⟨h41_, ?_⟩
        refine ⟨h42_, ?_⟩
        refine ⟨h43_, ?_⟩
        refine ⟨h44_, ?_⟩
        refine ⟨h45_, ?_⟩
        refine ⟨h46_, ?_⟩
        refine ⟨h47_, ?_⟩
        refine ⟨(sm_VO_m h48_ (Int.le_refl _) h414_ sm_F1_rf), ?_⟩
        refine ⟨h49_, ?_⟩
        refine ⟨(sm_FL_F h50_ sm_F1_rf sm_F1_rf sm_F1_rf sm_F1_rf sm_F1_rf sm_F1_rf sm_F1_rf sm_F1_rf sm_F1_rf sm_F1_rf sm_F1_rf sm_F1_rf (Int.le_refl _) h414_ sm_F1_rf sm_F1_rf (sm_FL_dp h50_ h27_)), ?_⟩
        refine ⟨h51_, ?_⟩
        refine ⟨h52_, ?_⟩
        refine ⟨h53_, ?_⟩
        refine ⟨(sm_SK_m h54_ (Int.le_refl _) h414_ sm_F1_rf), ?_⟩
        refine ⟨h55_, ?_⟩
        refine ⟨h56_, ?_⟩
        refine ⟨h57_, ?_⟩
        refine ⟨la_nativeOf_30, ?_⟩
        exact (sm_VO_i (la_nativeOf_70 h424_) (la_nativeOf_71 h424_) (la_nativeOf_72 h24_ h414_ h424_ h425_) (la_nativeOf_73 h23_ h424_ h425_))
      refine ⟨la_nativeOf_28, ?_⟩
      refine ⟨la_nativeOf_36, ?_⟩
      refine ⟨h419_, ?_⟩
      refine ⟨h420_, ?_⟩
      exact h423_
    rintro ⟨h435_, h436_⟩
    refine ⟨?_, ?_⟩
    · skip
      intro h437_
      refine ⟨?_, ?_⟩
      · skip
        intro h438_
        obtain ⟨h439_, h440_⟩ := ((sm_VO_e h48_).2.2.1 (la_nativeOf_20 (la_nativeOf_18 h435_ h437_) h438_))
        obtain ⟨h441_, ⟨h442_, h443_⟩⟩ := ((sm_VO_e h48_).2.2.2 (la_nativeOf_21 (sm_VO_e h48_).2.1 (la_nativeOf_18 h435_ h437_) h438_))
        have h444_ : ¬ (0 ≤ S 1100023 (S 1100033 0)) := fun q_ => (la_nativeOf_74 (la_nativeOf_18 h435_ h437_) h438_) (h60_ q_)
        have h445_ : ¬ (0 ≤ S 1100034 0) := fun q_ => (la_nativeOf_75 (la_nativeOf_18 h435_ h437_) h438_) (h64_ q_)
        obtain ⟨h446_, h447_⟩ := ((sm_VO_e h78_).2.2.1 (la_nativeOf_20 (la_nativeOf_18 h435_ h437_) h438_))
        obtain ⟨h448_, ⟨h449_, h450_⟩⟩ := ((sm_VO_e h78_).2.2.2 (la_nativeOf_53 (la_nativeOf_18 h435_ h437_) h438_))
        have h451_ := (h86_ (la_nativeOf_22 (la_nativeOf_18 h435_ h437_) h438_))
        have h452_ := (h87_ (la_nativeOf_23 (la_nativeOf_18 h435_ h437_) h438_))
        have h453_ := (h89_ (la_nativeOf_22 (la_nativeOf_18 h435_ h437_) h438_))
        have h454_ := (h90_ (la_nativeOf_23 (la_nativeOf_18 h435_ h437_) h438_))
        obtain ⟨h455_, h456_⟩ := ((sm_VO_e h104_).2.2.1 (la_nativeOf_24 (la_nativeOf_18 h435_ h437_) h438_ h452_))
        obtain ⟨h457_, ⟨h458_, h459_⟩⟩ := ((sm_VO_e h104_).2.2.2 (la_nativeOf_25 (la_nativeOf_18 h435_ h437_) h438_ h452_))
        have h460_ := (h413_ (la_nativeOf_76 (la_nativeOf_18 h435_ h437_) h438_ h452_))
        have h461_ := (h460_ h455_)
        have h462_ := (h461_ (la_nativeOf_77 h454_))
        have h463_ := (h462_ h438_)
        refine ⟨h82_, ?_⟩
        refine ⟨h83_, ?_⟩
        exact (sm_PT_w h84_ (Int.le_refl _) h414_)
      refine ⟨h82_, ?_⟩
      refine ⟨h83_, ?_⟩
      refine ⟨h82_, ?_⟩
      refine ⟨h83_, ?_⟩
      exact (sm_PT_w h84_ (Int.le_refl _) h414_)
    intro h464_
    intro h465_
    refine ⟨?_, ?_⟩
    · skip
      intro h466_
      refine ⟨?_, ?_⟩
      · skip
        intro h467_
        refine ⟨h82_, ?_⟩
        refine ⟨h83_, ?_⟩
        exact (sm_PT_w h84_ (Int.le_refl _) h414_)
      refine ⟨h82_, ?_⟩
      refine ⟨h83_, ?_⟩
      refine ⟨h82_, ?_⟩
      refine ⟨h83_, ?_⟩
      exact (sm_PT_w h84_ (Int.le_refl _) h414_)
    intro h468_
    refine ⟨(la_nativeOf_78 h82_ h468_), ?_⟩
    refine ⟨(la_nativeOf_79 h82_ h468_), ?_⟩
    refine ⟨?_, ?_⟩
    · skip
      intro h469_
      refine ⟨(la_nativeOf_80 h82_), ?_⟩
      refine ⟨(la_nativeOf_81 h468_), ?_⟩
      exact (sm_PT_up h84_ h414_ rfl (la_nativeOf_82 h411_ h412_) (Int.le_refl _))
    refine ⟨(la_nativeOf_80 h82_), ?_⟩
    refine ⟨(la_nativeOf_81 h468_), ?_⟩
    refine ⟨(la_nativeOf_80 h82_), ?_⟩
    refine ⟨(la_nativeOf_81 h468_), ?_⟩
    exact (sm_PT_up h84_ h414_ rfl (la_nativeOf_82 h411_ h412_) (Int.le_refl _))
  refine ⟨?_, ?_⟩
  · skip
    intro h470_
    refine ⟨⟨h9_, ⟨h10_, ⟨h11_, ⟨h12_, ⟨h13_, ⟨h14_, ⟨h15_, ⟨h16_, ⟨h17_, ⟨h18_, ⟨h19_, ⟨h20_, (la_nativeOf_84 h23_)⟩⟩⟩⟩⟩⟩⟩⟩⟩⟩⟩⟩, ?_⟩
    intro r120
    intro h471_
    intro g116
    rintro ⟨h472_, ⟨h473_, ⟨h474_, ⟨h475_, ⟨h476_, ⟨h477_, ⟨h478_, ⟨h479_, ⟨h480_, ⟨h481_, ⟨h482_, ⟨h483_, ⟨h484_, ⟨h485_, ⟨h486_, ⟨h487_, ⟨h488_, ⟨h489_, ⟨h490_, ⟨h491_, ⟨h492_, ⟨h493_, ⟨h494_, ⟨h495_, ⟨h496_, h497_⟩⟩⟩⟩⟩⟩⟩⟩⟩⟩⟩⟩⟩⟩⟩⟩⟩⟩⟩⟩⟩⟩⟩⟩⟩
    have h498_ := (h496_ h22_)
    have h499_ := (h498_ la_nativeOf_16)
    have h500_ := (h499_ (la_nativeOf_17 h23_))
    intro h501_
    have h502_ := (h501_ h484_)
    have h503_ := (h502_ h485_)
    intro g124
    rintro ⟨h504_, h505_⟩
    refine ⟨h472_, ?_⟩
    refine ⟨h10_, ?_⟩
    refine ⟨h474_, ?_⟩
    refine ⟨h475_, ?_⟩
    refine ⟨h476_, ?_⟩
    refine ⟨h477_, ?_⟩
    refine ⟨h478_, ?_⟩
    refine ⟨h16_, ?_⟩
    refine ⟨h17_, ?_⟩
    refine ⟨h18_, ?_⟩
    refine ⟨h482_, ?_⟩
    refine ⟨h483_, ?_⟩
    refine ⟨?_, ?_⟩
    · skip
      intro h506_
      obtain ⟨h507_, ⟨h508_, ⟨h509_, ⟨h510_, ⟨h511_, ⟨h512_, h513_⟩⟩⟩⟩⟩⟩ := (h493_ h506_)
      obtain ⟨h514_, h515_⟩ := (h497_ (la_nativeOf_40 h478_ h485_ h507_))
      have h516_ := (h503_ (la_nativeOf_44 h509_))
      obtain ⟨h517_, ⟨h518_, h519_⟩⟩ := ((sm_VO_e h516_).2.2.2 la_nativeOf_46)
      refine ⟨h21_, ?_⟩
      exact h500_
    refine ⟨(la_nativeOf_27 h23_ h487_), ?_⟩
    refine ⟨h24_, ?_⟩
    refine ⟨h25_, ?_⟩
    refine ⟨h26_, ?_⟩
    refine ⟨h35_, ?_⟩
    refine ⟨h486_, ?_⟩
    refine ⟨(la_nativeOf_4 h38_), ?_⟩
    refine ⟨h39_, ?_⟩
    refine ⟨la_nativeOf_28, ?_⟩
    refine ⟨?_, ?_⟩
    · skip
      intro h520_
      exact (sm_LX_m h8_ h487_)
    refine ⟨h7_, ?_⟩
    refine ⟨?_, ?_⟩
    · skip
      intro h521_
      obtain ⟨h522_, ⟨h523_, ⟨h524_, ⟨h525_, ⟨h526_, ⟨h527_, h528_⟩⟩⟩⟩⟩⟩ := (h493_ h521_)
      obtain ⟨h529_, h530_⟩ := (h497_ (la_nativeOf_40 h478_ h485_ h522_))
      have h531_ := (h503_ (la_nativeOf_44 h524_))
      obtain ⟨h532_, ⟨h533_, h534_⟩⟩ := ((sm_VO_e h531_).2.2.2 la_nativeOf_46)
      refine ⟨h472_, ?_⟩
      refine ⟨h10_, ?_⟩
      refine ⟨h474_, ?_⟩
      refine ⟨h475_, ?_⟩
      refine ⟨h476_, ?_⟩
      refine ⟨h477_, ?_⟩
      refine ⟨h478_, ?_⟩
      refine ⟨h16_, ?_⟩
      refine ⟨h17_, ?_⟩
      refine ⟨h18_, ?_⟩
      refine ⟨h482_, ?_⟩
      refine ⟨h483_, ?_⟩
      refine ⟨h21_, ?_⟩
      refine ⟨h500_, ?_⟩
      refine ⟨(la_nativeOf_29 h23_ h530_), ?_⟩
      refine ⟨h24_, ?_⟩
      refine ⟨h25_, ?_⟩
      refine ⟨h26_, ?_⟩
      refine ⟨h27_, ?_⟩
      refine ⟨h28_, ?_⟩
      refine ⟨h29_, ?_⟩
      refine ⟨h30_, ?_⟩
      refine ⟨h31_, ?_⟩
      refine ⟨h32_, ?_⟩
      refine ⟨h33_, ?_⟩
      refine ⟨h34_, ?_⟩
      refine ⟨h35_, ?_⟩
      refine ⟨h36_, ?_⟩
      refine ⟨h37_, ?_⟩
      refine ⟨h38_, ?_⟩
      refine ⟨h39_, ?_⟩
      refine ⟨h40_, ?_⟩
      refine ⟨h41_, ?_⟩
      refine ⟨h42_, ?_⟩
      refine ⟨h43_, ?_⟩
      refine ⟨h44_, ?_⟩
      refine ⟨h45_, ?_⟩
      refine ⟨h46_, ?_⟩
      refine ⟨(sm_LK_m h47_ h487_ (sm_F1_le h489_ (Int.le_refl _))), ?_⟩
      refine ⟨(sm_VO_m h48_ h487_ (Int.le_refl _) (sm_F1_le h488_ (Int.le_refl _))), ?_⟩
      refine ⟨(sm_FW_m h49_ h487_ (sm_F1_le h488_ (Int.le_refl _))), ?_⟩
      refine ⟨(sm_FL_F h50_ sm_F1_rf sm_F1_rf sm_F1_rf sm_F1_rf sm_F1_rf sm_F1_rf sm_F1_rf sm_F1_rf sm_F1_rf sm_F1_rf sm_F1_rf sm_F1_rf h487_ (Int.le_refl _) (sm_F1_le h489_ (Int.le_refl _)) (sm_F1_le h488_ (Int.le_refl _)) (sm_FL_dp h50_ h27_)), ?_⟩
      refine ⟨h51_, ?_⟩
      refine ⟨h52_, ?_⟩
      refine ⟨h53_, ?_⟩
      refine ⟨(sm_SK_m h54_ h487_ (Int.le_refl _) (sm_F1_le h488_ (Int.le_refl _))), ?_⟩
      refine ⟨h55_, ?_⟩
      refine ⟨h56_, ?_⟩
      refine ⟨h57_, ?_⟩
      refine ⟨la_nativeOf_30, ?_⟩
      exact (sm_VO_eq h531_ h504_ h505_)
    refine ⟨la_nativeOf_28, ?_⟩
    refine ⟨la_nativeOf_36, ?_⟩
    refine ⟨h82_, ?_⟩
    refine ⟨h83_, ?_⟩
    exact h84_
  refine ⟨?_, ?_⟩
  · skip
    intro h535_
    refine ⟨⟨h9_, ⟨h10_, ⟨h11_, ⟨h12_, ⟨h13_, ⟨h14_, ⟨h15_, ⟨h16_, ⟨h17_, ⟨h18_, ⟨h19_, ⟨h20_, (la_nativeOf_87 h21_ h23_ h24_ h25_ h77_)⟩⟩⟩⟩⟩⟩⟩⟩⟩⟩⟩⟩, ?_⟩
    intro r135
    intro h536_
    intro g131
    rintro ⟨h537_, ⟨h538_, ⟨h539_, ⟨h540_, ⟨h541_, ⟨h542_, ⟨h543_, ⟨h544_, ⟨h545_, ⟨h546_, ⟨h547_, ⟨h548_, ⟨h549_, ⟨h550_, ⟨h551_, ⟨h552_, ⟨h553_, ⟨h554_, ⟨h555_, ⟨h556_, ⟨h557_, ⟨h558_, ⟨h559_, ⟨h560_, h561_⟩⟩⟩⟩⟩⟩⟩⟩⟩⟩⟩⟩⟩⟩⟩⟩⟩⟩⟩⟩⟩⟩⟩⟩
    intro h562_
    have h563_ := (h562_ h550_)
    have h564_ := (h563_ h551_)
    intro g139
    rintro ⟨h565_, h566_⟩
    refine ⟨h537_, ?_⟩
    refine ⟨h538_, ?_⟩
    refine ⟨h539_, ?_⟩
    refine ⟨h540_, ?_⟩
    refine ⟨h541_, ?_⟩
    refine ⟨h542_, ?_⟩
    refine ⟨h543_, ?_⟩
    refine ⟨h544_, ?_⟩
    refine ⟨h545_, ?_⟩
    refine ⟨h546_, ?_⟩
    refine ⟨h547_, ?_⟩
    refine ⟨h548_, ?_⟩
    refine ⟨?_, ?_⟩
    · skip
      intro h567_
      obtain ⟨h568_, ⟨h569_, ⟨h570_, ⟨h571_, h572_⟩⟩⟩⟩ := (h549_ h567_)
      have h573_ := (h564_ (la_nativeOf_88 h569_))
      obtain ⟨h574_, ⟨h575_, h576_⟩⟩ := ((sm_VO_e h573_).2.2.2 la_nativeOf_46)
      have h577_ := (h572_ h22_)
      refine ⟨h568_, ?_⟩
      exact h577_
    refine ⟨(la_nativeOf_27 h23_ h553_), ?_⟩
    refine ⟨h24_, ?_⟩
    refine ⟨h25_, ?_⟩
    refine ⟨h26_, ?_⟩
    refine ⟨h35_, ?_⟩
    refine ⟨h552_, ?_⟩
    refine ⟨(la_nativeOf_4 h38_), ?_⟩
    refine ⟨h39_, ?_⟩
    refine ⟨la_nativeOf_28, ?_⟩
    refine ⟨?_, ?_⟩
    · skip
      intro h578_
      exact (sm_LX_m h8_ h553_)
    refine ⟨h7_, ?_⟩
    refine ⟨?_, ?_⟩
    · skip
      intro h579_
      obtain ⟨h580_, ⟨h581_, ⟨h582_, ⟨h583_, h584_⟩⟩⟩⟩ := (h549_ h579_)
      have h585_ := (h564_ (la_nativeOf_88 h581_))
      obtain ⟨h586_, ⟨h587_, h588_⟩⟩ := ((sm_VO_e h585_).2.2.2 la_nativeOf_46)
      have h589_ := (h584_ h22_)
      refine ⟨h537_, ?_⟩
      refine ⟨h538_, ?_⟩
      refine ⟨h539_, ?_⟩
      refine ⟨h540_, ?_⟩
      refine ⟨h541_, ?_⟩
      refine ⟨h542_, ?_⟩
      refine ⟨h543_, ?_⟩
      refine ⟨h544_, ?_⟩
      refine ⟨h545_, ?_⟩
      refine ⟨h546_, ?_⟩
      refine ⟨h547_, ?_⟩
      refine ⟨h548_, ?_⟩
      refine ⟨h580_, ?_⟩
      refine ⟨h589_, ?_⟩
      refine ⟨(la_nativeOf_90 h23_ h551_ h582_), ?_⟩
      refine ⟨h24_, ?_⟩
      refine ⟨h25_, ?_⟩
      refine ⟨h26_, ?_⟩
      refine ⟨h27_, ?_⟩
      refine ⟨h28_, ?_⟩
      refine ⟨h29_, ?_⟩
      refine ⟨h30_, ?_⟩
      refine ⟨h31_, ?_⟩
      refine ⟨h32_, ?_⟩
      refine ⟨h33_, ?_⟩
      refine ⟨h34_, ?_⟩
      refine ⟨h35_, ?_⟩
      refine ⟨h36_, ?_⟩
      refine ⟨h37_, ?_⟩
      refine ⟨h38_, ?_⟩
      refine ⟨h39_, ?_⟩
      refine ⟨h40_, ?_⟩
      refine ⟨h41_, ?_⟩
      refine ⟨h42_, ?_⟩
      refine ⟨h43_, ?_⟩
      refine ⟨h44_, ?_⟩
      refine ⟨h45_, ?_⟩
      refine ⟨h46_, ?_⟩
      refine ⟨(sm_LK_m h47_ h553_ (sm_F1_le h557_ (Int.le_refl _))), ?_⟩
      refine ⟨(sm_VO_m h48_ h553_ (Int.le_refl _) (sm_F1_le h556_ (Int.le_refl _))), ?_⟩
      refine ⟨(sm_FW_m h49_ h553_ (sm_F1_le h556_ (Int.le_refl _))), ?_⟩
      refine ⟨(sm_FL_F h50_ sm_F1_rf sm_F1_rf sm_F1_rf sm_F1_rf sm_F1_rf sm_F1_rf sm_F1_rf sm_F1_rf sm_F1_rf sm_F1_rf sm_F1_rf sm_F1_rf h553_ (Int.le_refl _) (sm_F1_le h557_ (Int.le_refl _)) (sm_F1_le h556_ (Int.le_refl _)) (sm_FL_dp h50_ h27_)), ?_⟩
      refine ⟨h51_, ?_⟩
      refine ⟨h52_, ?_⟩
      refine ⟨h53_, ?_⟩
      refine ⟨(sm_SK_m h54_ h553_ (Int.le_refl _) (sm_F1_le h556_ (Int.le_refl _))), ?_⟩
      refine ⟨h55_, ?_⟩
      refine ⟨h56_, ?_⟩
      refine ⟨h57_, ?_⟩
      refine ⟨la_nativeOf_30, ?_⟩
      exact (sm_VO_eq h585_ h565_ h566_)
    refine ⟨h554_, ?_⟩
    refine ⟨(la_nativeOf_67 h555_), ?_⟩
    refine ⟨h82_, ?_⟩
    refine ⟨h83_, ?_⟩
    exact h84_
  refine ⟨?_, ?_⟩
  · skip
    intro h590_
    intro h591_
    refine ⟨?_, ?_⟩
    · skip
      intro h592_
      have h593_ := (h86_ (la_nativeOf_18 h71_ h592_))
      have h594_ := (h89_ (la_nativeOf_18 h71_ h592_))
      refine ⟨⟨h24_, ⟨h25_, ⟨h26_, (sm_VO_e h104_).2.2.1⟩⟩⟩, ?_⟩
      intro r151
      intro h595_
      intro g147
      rintro ⟨h596_, ⟨h597_, ⟨h598_, ⟨h599_, ⟨h600_, ⟨h601_, h602_⟩⟩⟩⟩⟩⟩
      intro g154
      rintro ⟨h603_, h604_⟩
      refine ⟨h9_, ?_⟩
      refine ⟨h10_, ?_⟩
      refine ⟨(sm_PV_m h11_ (Int.le_refl _) h599_ sm_F1_rf), ?_⟩
      refine ⟨h12_, ?_⟩
      refine ⟨h13_, ?_⟩
      refine ⟨h14_, ?_⟩
      refine ⟨h15_, ?_⟩
      refine ⟨h16_, ?_⟩
      refine ⟨h17_, ?_⟩
      refine ⟨h18_, ?_⟩
      refine ⟨h19_, ?_⟩
      refine ⟨h20_, ?_⟩
      refine ⟨?_, ?_⟩
      · skip
        intro h605_
        refine ⟨h21_, ?_⟩
        exact h22_
      refine ⟨h23_, ?_⟩
      refine ⟨(la_nativeOf_56 h24_ h599_), ?_⟩
      refine ⟨h600_, ?_⟩
      refine ⟨h601_, ?_⟩
      refine ⟨(la_nativeOf_57 h35_ h599_), ?_⟩
      refine ⟨h602_, ?_⟩
      refine ⟨(la_nativeOf_4 h38_), ?_⟩
      refine ⟨h39_, ?_⟩
      refine ⟨h599_, ?_⟩
      refine ⟨?_, ?_⟩
      · skip
        intro h606_
        exact h8_
      refine ⟨h7_, ?_⟩
      refine ⟨?_, ?_⟩
      · skip
        intro h607_
        refine ⟨h9_, ?_⟩
        refine ⟨h10_, ?_⟩
        refine ⟨(sm_PV_m h11_ (Int.le_refl _) h599_ sm_F1_rf), ?_⟩
        refine ⟨h12_, ?_⟩
        refine ⟨h13_, ?_⟩
        refine ⟨h14_, ?_⟩
        refine ⟨h15_, ?_⟩
        refine ⟨h16_, ?_⟩
        refine ⟨h17_, ?_⟩
        refine ⟨h18_, ?_⟩
        refine ⟨h19_, ?_⟩
        refine ⟨h20_, ?_⟩
        refine ⟨h21_, ?_⟩
        refine ⟨h22_, ?_⟩
        refine ⟨h23_, ?_⟩
        refine ⟨(la_nativeOf_56 h24_ h599_), ?_⟩
        refine ⟨h600_, ?_⟩
        refine ⟨h601_, ?_⟩
        refine ⟨h27_, ?_⟩
        refine ⟨h28_, ?_⟩
        refine ⟨h29_, ?_⟩
        refine ⟨h30_, ?_⟩
        refine ⟨h31_, ?_⟩
        refine ⟨h32_, ?_⟩
        refine ⟨h33_, ?_⟩
        refine ⟨h34_, ?_⟩
        refine ⟨(la_nativeOf_57 h35_ h599_), ?_⟩
        refine ⟨h36_, ?_⟩
        refine ⟨h37_, ?_⟩
        refine ⟨h38_, ?_⟩
        refine ⟨h39_, ?_⟩
        refine ⟨h40_, ?_⟩
        refine ⟨h41_, ?_⟩
        refine ⟨h42_, ?_⟩
        refine ⟨h43_, ?_⟩
        refine ⟨h44_, ?_⟩
        refine ⟨h45_, ?_⟩
        refine ⟨h46_, ?_⟩
        refine ⟨h47_, ?_⟩
        refine ⟨(sm_VO_m h48_ (Int.le_refl _) h599_ sm_F1_rf), ?_⟩
        refine ⟨h49_, ?_⟩
        refine ⟨(sm_FL_F h50_ sm_F1_rf sm_F1_rf sm_F1_rf sm_F1_rf sm_F1_rf sm_F1_rf sm_F1_rf sm_F1_rf sm_F1_rf sm_F1_rf sm_F1_rf sm_F1_rf (Int.le_refl _) h599_ sm_F1_rf sm_F1_rf (sm_FL_dp h50_ h27_)), ?_⟩
        refine ⟨h51_, ?_⟩
        refine ⟨h52_, ?_⟩
        refine ⟨h53_, ?_⟩
        refine ⟨(sm_SK_m h54_ (Int.le_refl _) h599_ sm_F1_rf), ?_⟩
        refine ⟨h55_, ?_⟩
        refine ⟨h56_, ?_⟩
        refine ⟨h57_, ?_⟩
        refine ⟨la_nativeOf_30, ?_⟩
        exact (sm_VO_i (la_nativeOf_93 h603_) (la_nativeOf_94 h603_) (la_nativeOf_95 h596_ h597_ h604_) (la_nativeOf_96 h603_))
      refine ⟨la_nativeOf_28, ?_⟩
      refine ⟨la_nativeOf_36, ?_⟩
      refine ⟨h82_, ?_⟩
      refine ⟨h83_, ?_⟩
      exact (sm_PT_w h84_ (Int.le_refl _) h599_)
    intro h608_
    have h609_ := (h87_ (la_nativeOf_97 h608_))
    have h610_ := (h90_ (la_nativeOf_97 h608_))
    intro g160
    rintro ⟨h611_, h612_⟩
    refine ⟨h9_, ?_⟩
    refine ⟨h10_, ?_⟩
    refine ⟨h11_, ?_⟩
    refine ⟨h12_, ?_⟩
    refine ⟨h13_, ?_⟩
    refine ⟨h14_, ?_⟩
    refine ⟨h15_, ?_⟩
    refine ⟨h16_, ?_⟩
    refine ⟨h17_, ?_⟩
    refine ⟨h18_, ?_⟩
    refine ⟨h19_, ?_⟩
    refine ⟨h20_, ?_⟩
    refine ⟨?_, ?_⟩
    · skip
      intro h613_
      refine ⟨h21_, ?_⟩
      exact h22_
    refine ⟨h23_, ?_⟩
    refine ⟨h24_, ?_⟩
    refine ⟨h25_, ?_⟩
    refine ⟨h26_, ?_⟩
    refine ⟨h35_, ?_⟩
    refine ⟨(la_nativeOf_98 h6_), ?_⟩
    refine ⟨(la_nativeOf_4 h38_), ?_⟩
    refine ⟨h39_, ?_⟩
    refine ⟨la_nativeOf_28, ?_⟩
    refine ⟨?_, ?_⟩
    · skip
      intro h614_
      exact h8_
    refine ⟨h7_, ?_⟩
    refine ⟨?_, ?_⟩
    · skip
      intro h615_
      refine ⟨h9_, ?_⟩
      refine ⟨h10_, ?_⟩
      refine ⟨h11_, ?_⟩
      refine ⟨h12_, ?_⟩
      refine ⟨h13_, ?_⟩
      refine ⟨h14_, ?_⟩
      refine ⟨h15_, ?_⟩
      refine ⟨h16_, ?_⟩
      refine ⟨h17_, ?_⟩
      refine ⟨h18_, ?_⟩
      refine ⟨h19_, ?_⟩
      refine ⟨h20_, ?_⟩
      refine ⟨h21_, ?_⟩
      refine ⟨h22_, ?_⟩
      refine ⟨h23_, ?_⟩
      refine ⟨h24_, ?_⟩
      refine ⟨h25_, ?_⟩
      refine ⟨h26_, ?_⟩
      refine ⟨h27_, ?_⟩
      refine ⟨h28_, ?_⟩
      refine ⟨h29_, ?_⟩
      refine ⟨h30_, ?_⟩
      refine ⟨h31_, ?_⟩
      refine ⟨h32_, ?_⟩
      refine ⟨h33_, ?_⟩
      refine ⟨h34_, ?_⟩
      refine ⟨h35_, ?_⟩
      refine ⟨h36_, ?_⟩
      refine ⟨h37_, ?_⟩
      refine ⟨h38_, ?_⟩
      refine ⟨h39_, ?_⟩
      refine ⟨h40_, ?_⟩
      refine ⟨h41_, ?_⟩
      refine ⟨h42_, ?_⟩
      refine ⟨h43_, ?_⟩
      refine ⟨h44_, ?_⟩
      refine ⟨h45_, ?_⟩
      refine ⟨h46_, ?_⟩
      refine ⟨h47_, ?_⟩
      refine ⟨h48_, ?_⟩
      refine ⟨h49_, ?_⟩
      refine ⟨h50_, ?_⟩
      refine ⟨h51_, ?_⟩
      refine ⟨h52_, ?_⟩
      refine ⟨h53_, ?_⟩
      refine ⟨h54_, ?_⟩
      refine ⟨h55_, ?_⟩
      refine ⟨h56_, ?_⟩
      refine ⟨h57_, ?_⟩
      refine ⟨la_nativeOf_30, ?_⟩
      exact (sm_VO_i (la_nativeOf_93 h611_) (la_nativeOf_94 h611_) (la_nativeOf_100 h24_ h612_) (la_nativeOf_101 h611_ h612_))
    refine ⟨la_nativeOf_28, ?_⟩
    refine ⟨la_nativeOf_36, ?_⟩
    refine ⟨h82_, ?_⟩
    refine ⟨h83_, ?_⟩
    exact h84_
  refine ⟨?_, ?_⟩
  · skip
    intro h616_
    refine ⟨⟨h24_, ⟨h25_, ⟨h26_, (la_nativeOf_103 h25_ (sm_VO_e h104_).2.2.1)⟩⟩⟩, ?_⟩
    intro r171
    intro h617_
    intro g167
    intro _
    rintro ⟨h618_, h619_⟩
    refine ⟨?_, ?_⟩
    · skip
      intro h620_
      intro g175
      rintro ⟨h621_, h622_⟩
      refine ⟨h9_, ?_⟩
      refine ⟨h10_, ?_⟩
      refine ⟨h11_, ?_⟩
      refine ⟨h12_, ?_⟩
      refine ⟨h13_, ?_⟩
      refine ⟨h14_, ?_⟩
      refine ⟨h15_, ?_⟩
      refine ⟨h16_, ?_⟩
      refine ⟨h17_, ?_⟩
      refine ⟨h18_, ?_⟩
      refine ⟨h19_, ?_⟩
      refine ⟨h20_, ?_⟩
      refine ⟨?_, ?_⟩
      · skip
        intro h623_
        refine ⟨h21_, ?_⟩
        exact h22_
      refine ⟨h23_, ?_⟩
      refine ⟨h24_, ?_⟩
      refine ⟨h25_, ?_⟩
      refine ⟨h26_, ?_⟩
      refine ⟨h35_, ?_⟩
      refine ⟨(la_nativeOf_98 h6_), ?_⟩
      refine ⟨(la_nativeOf_4 h38_), ?_⟩
      refine ⟨h39_, ?_⟩
      refine ⟨la_nativeOf_28, ?_⟩
      refine ⟨?_, ?_⟩
      · skip
        intro h624_
        exact h8_
      refine ⟨h7_, ?_⟩
      refine ⟨?_, ?_⟩
      · skip
        intro h625_
        refine ⟨h9_, ?_⟩
        refine ⟨h10_, ?_⟩
        refine ⟨h11_, ?_⟩
        refine ⟨h12_, ?_⟩
        refine ⟨h13_, ?_⟩
        refine ⟨h14_, ?_⟩
        refine ⟨h15_, ?_⟩
        refine ⟨h16_, ?_⟩
        refine ⟨h17_, ?_⟩
        refine ⟨h18_, ?_⟩
        refine ⟨h19_, ?_⟩
        refine ⟨h20_, ?_⟩
        refine ⟨h21_, ?_⟩
        refine ⟨h22_, ?_⟩
        refine ⟨h23_, ?_⟩
        refine ⟨h24_, ?_⟩
        refine ⟨h25_, ?_⟩
        refine ⟨h26_, ?_⟩
        refine ⟨h27_, ?_⟩
        refine ⟨h28_, ?_⟩
        refine ⟨h29_, ?_⟩
        refine ⟨h30_, ?_⟩
        refine ⟨h31_, ?_⟩
        refine ⟨h32_, ?_⟩
        refine ⟨h33_, ?_⟩
        refine ⟨h34_, ?_⟩
        refine ⟨h35_, ?_⟩
        refine ⟨h36_, ?_⟩
        refine ⟨h37_, ?_⟩
        refine ⟨h38_, ?_⟩
        refine ⟨h39_, ?_⟩
        refine ⟨h40_, ?_⟩
        refine ⟨h41_, ?_⟩
        refine ⟨h42_, ?_⟩
        refine ⟨h43_, ?_⟩
        refine ⟨h44_, ?_⟩
        refine ⟨h45_, ?_⟩
        refine ⟨h46_, ?_⟩
        refine ⟨h47_, ?_⟩
        refine ⟨h48_, ?_⟩
        refine ⟨h49_, ?_⟩
        refine ⟨h50_, ?_⟩
        refine ⟨h51_, ?_⟩
        refine ⟨h52_, ?_⟩
        refine ⟨h53_, ?_⟩
        refine ⟨h54_, ?_⟩
        refine ⟨h55_, ?_⟩
        refine ⟨h56_, ?_⟩
        refine ⟨h57_, ?_⟩
        refine ⟨la_nativeOf_30, ?_⟩
        exact (sm_VO_i (la_nativeOf_104 h621_) (la_nativeOf_105 h621_) (la_nativeOf_106 h24_ h622_) (la_nativeOf_107 h23_ h621_ h622_))
      refine ⟨la_nativeOf_28, ?_⟩
      refine ⟨la_nativeOf_36, ?_⟩
      refine ⟨h82_, ?_⟩
      refine ⟨h83_, ?_⟩
      exact h84_
    intro h626_
    intro g181
    rintro ⟨h627_, h628_⟩
    refine ⟨h9_, ?_⟩
    refine ⟨h10_, ?_⟩
    refine ⟨h11_, ?_⟩
    refine ⟨h12_, ?_⟩
    refine ⟨h13_, ?_⟩
    refine ⟨h14_, ?_⟩
    refine ⟨h15_, ?_⟩
    refine ⟨h16_, ?_⟩
    refine ⟨h17_, ?_⟩
    refine ⟨h18_, ?_⟩
    refine ⟨h19_, ?_⟩
    refine ⟨h20_, ?_⟩
    refine ⟨?_, ?_⟩
    · skip
      intro h629_
      refine ⟨h21_, ?_⟩
      exact h22_
    refine ⟨h23_, ?_⟩
    refine ⟨h24_, ?_⟩
    refine ⟨h25_, ?_⟩
    refine ⟨h26_, ?_⟩
    refine ⟨h35_, ?_⟩
    refine ⟨(la_nativeOf_98 h6_), ?_⟩
    refine ⟨(la_nativeOf_4 h38_), ?_⟩
    refine ⟨h39_, ?_⟩
    refine ⟨la_nativeOf_28, ?_⟩
    refine ⟨?_, ?_⟩
    · skip
      intro h630_
      exact h8_
    refine ⟨h7_, ?_⟩
    refine ⟨?_, ?_⟩
    · skip
      intro h631_
      refine ⟨h9_, ?_⟩
      refine ⟨h10_, ?_⟩
      refine ⟨h11_, ?_⟩
      refine ⟨h12_, ?_⟩
      refine ⟨h13_, ?_⟩
      refine ⟨h14_, ?_⟩
      refine ⟨h15_, ?_⟩
      refine ⟨h16_, ?_⟩
      refine ⟨h17_, ?_⟩
      refine ⟨h18_, ?_⟩
      refine ⟨h19_, ?_⟩
      refine ⟨h20_, ?_⟩
      refine ⟨h21_, ?_⟩
      refine ⟨h22_, ?_⟩
      refine ⟨h23_, ?_⟩
      refine ⟨h24_, ?_⟩
      refine ⟨h25_, ?_⟩
      refine ⟨h26_, ?_⟩
      refine ⟨h27_, ?_⟩
      refine ⟨h28_, ?_⟩
      refine ⟨h29_, ?_⟩
      refine ⟨h30_, ?_⟩
      refine ⟨h31_, ?_⟩
      refine ⟨h32_, ?_⟩
      refine ⟨h33_, ?_⟩
      refine ⟨h34_, ?_⟩
      refine ⟨h35_, ?_⟩
      refine ⟨h36_, ?_⟩
      refine ⟨h37_, ?_⟩
      refine ⟨h38_, ?_⟩
      refine ⟨h39_, ?_⟩
      refine ⟨h40_, ?_⟩
      refine ⟨h41_, ?_⟩
      refine ⟨h42_, ?_⟩
      refine ⟨h43_, ?_⟩
      refine ⟨h44_, ?_⟩
      refine ⟨h45_, ?_⟩
      refine ⟨h46_, ?_⟩
      refine ⟨h47_, ?_⟩
      refine ⟨h48_, ?_⟩
      refine ⟨h49_, ?_⟩
      refine ⟨h50_, ?_⟩
      refine ⟨h51_, ?_⟩
      refine ⟨h52_, ?_⟩
      refine ⟨h53_, ?_⟩
      refine ⟨h54_, ?_⟩
      refine ⟨h55_, ?_⟩
      refine ⟨h56_, ?_⟩
      refine ⟨h57_, ?_⟩
      refine ⟨la_nativeOf_30, ?_⟩
      exact (sm_VO_i (la_nativeOf_104 h627_) (la_nativeOf_105 h627_) (la_nativeOf_106 h24_ h628_) (la_nativeOf_107 h23_ h627_ h628_))
    refine ⟨la_nativeOf_28, ?_⟩
    refine ⟨la_nativeOf_36, ?_⟩
    refine ⟨h82_, ?_⟩
    refine ⟨h83_, ?_⟩
    exact h84_
  intro h632_
  refine ⟨⟨h6_, ⟨h7_, ⟨h8_, ⟨h9_, ⟨h10_, ⟨h11_, ⟨h12_, ⟨h13_, ⟨h14_, ⟨h15_, ⟨h16_, ⟨h17_, ⟨h18_, ⟨h19_, ⟨h20_, ⟨h21_, ⟨h22_, ⟨h23_, ⟨h24_, ⟨h25_, ⟨h26_, ⟨h27_, ⟨h28_, ⟨h29_, ⟨h30_, ⟨h31_, ⟨h32_, ⟨h33_, ⟨h34_, ⟨h35_, ⟨h36_, ⟨h37_, ⟨h38_, ⟨h39_, ⟨h40_, ⟨h41_, ⟨h42_, ⟨h43_, ⟨h44_, ⟨h45_, ⟨h46_, ⟨h47_, ⟨h48_, ⟨h49_, ⟨h50_, ⟨h51_, ⟨h52_, ⟨h53_, ⟨h54_, ⟨h55_, ⟨h56_, ⟨h57_, ⟨h58_, ⟨h59_, ⟨h60_, ⟨h61_, ⟨h77_, ⟨h632_, ⟨h78_, h104_⟩⟩⟩⟩⟩⟩⟩⟩⟩⟩⟩⟩⟩⟩⟩⟩⟩⟩⟩⟩⟩⟩⟩⟩⟩⟩⟩⟩⟩⟩⟩⟩⟩⟩⟩⟩⟩⟩⟩⟩⟩⟩⟩⟩⟩⟩⟩⟩⟩⟩⟩⟩⟩⟩⟩⟩⟩⟩⟩, ?_⟩
  intro r192
  intro h633_
  intro g188
  rintro ⟨h634_, ⟨h635_, h636_⟩⟩
  refine ⟨?_, ?_⟩
  · skip
    intro h637_
    have h638_ := (h634_.resolve_left h637_)
    obtain ⟨h639_, ⟨h640_, ⟨h641_, ⟨h642_, ⟨h643_, ⟨h644_, ⟨h645_, ⟨h646_, ⟨h647_, ⟨h648_, ⟨h649_, ⟨h650_, ⟨h651_, ⟨h652_, ⟨h653_, ⟨h654_, ⟨h655_, ⟨h656_, ⟨h657_, ⟨h658_, ⟨h659_, ⟨h660_, ⟨h661_, ⟨h662_, ⟨h663_, ⟨h664_, h665_⟩⟩⟩⟩⟩⟩⟩⟩⟩⟩⟩⟩⟩⟩⟩⟩⟩⟩⟩⟩⟩⟩⟩⟩⟩⟩ := (h636_ h638_)
    refine ⟨h639_, ?_⟩
    refine ⟨h640_, ?_⟩
    refine ⟨h641_, ?_⟩
    refine ⟨h642_, ?_⟩
    refine ⟨h643_, ?_⟩
    refine ⟨h644_, ?_⟩
    refine ⟨h645_, ?_⟩
    refine ⟨h646_, ?_⟩
    refine ⟨h647_, ?_⟩
    refine ⟨h648_, ?_⟩
    refine ⟨h649_, ?_⟩
    refine ⟨h650_, ?_⟩
    refine ⟨h651_, ?_⟩
    refine ⟨h652_, ?_⟩
    refine ⟨h653_, ?_⟩
    refine ⟨h654_, ?_⟩
    refine ⟨h655_, ?_⟩
    refine ⟨h656_, ?_⟩
    refine ⟨h657_, ?_⟩
    refine ⟨h658_, ?_⟩
    refine ⟨h659_, ?_⟩
    refine ⟨h660_, ?_⟩
    refine ⟨h661_, ?_⟩
    refine ⟨h662_, ?_⟩
    refine ⟨h663_, ?_⟩
    refine ⟨h664_, ?_⟩
    refine ⟨h665_, ?_⟩
    refine ⟨h82_, ?_⟩
    refine ⟨h83_, ?_⟩
    exact (sm_PT_w h84_ (Int.le_refl _) h660_)
  intro h666_
  have h667_ := (h634_.resolve_right (la_nativeOf_39 h666_))
  obtain ⟨h668_, ⟨h669_, ⟨h670_, ⟨h671_, ⟨h672_, ⟨h673_, ⟨h674_, ⟨h675_, ⟨h676_, ⟨h677_, ⟨h678_, ⟨h679_, ⟨h680_, ⟨h681_, ⟨h682_, ⟨h683_, ⟨h684_, ⟨h685_, ⟨h686_, ⟨h687_, ⟨h688_, ⟨h689_, ⟨h690_, ⟨h691_, ⟨h692_, ⟨h693_, h694_⟩⟩⟩⟩⟩⟩⟩⟩⟩⟩⟩⟩⟩⟩⟩⟩⟩⟩⟩⟩⟩⟩⟩⟩⟩⟩ := (h635_ h667_)
  refine ⟨h668_, ?_⟩
  refine ⟨h669_, ?_⟩
  refine ⟨h670_, ?_⟩
  refine ⟨h671_, ?_⟩
  refine ⟨h672_, ?_⟩
  refine ⟨h673_, ?_⟩
  refine ⟨h674_, ?_⟩
  refine ⟨h675_, ?_⟩
  refine ⟨h676_, ?_⟩
  refine ⟨h677_, ?_⟩
  refine ⟨h678_, ?_⟩
  refine ⟨h679_, ?_⟩
  refine ⟨h680_, ?_⟩
  refine ⟨h681_, ?_⟩
  refine ⟨h682_, ?_⟩
  refine ⟨h683_, ?_⟩
  refine ⟨h684_, ?_⟩
  refine ⟨h685_, ?_⟩
  refine ⟨h686_, ?_⟩
  refine ⟨h687_, ?_⟩
  refine ⟨h688_, ?_⟩
  refine ⟨h689_, ?_⟩
  refine ⟨h690_, ?_⟩
  refine ⟨h691_, ?_⟩
  refine ⟨h692_, ?_⟩
  refine ⟨h693_, ?_⟩
  refine ⟨(la_nativeOf_10 h694_), ?_⟩
  refine ⟨h82_, ?_⟩
  refine ⟨h83_, ?_⟩
  exact (sm_PT_w h84_ (Int.le_refl _) h689_)
set_option maxRecDepth 8000 in
set_option maxHeartbeats 2000000 in
theorem t_nativeOf : ∀ (p1 : Int) (p2 : Int) (p3 : Int) (p4 : Int) (S : sv_S), sm_ok S → sv_R p1 → sv_R p2 → sv_R p3 → sv_R p4 → ((S 1075 0) = 0 ∧ (S 1073 0) = 1 ∧ sm_LX (S 58) (S 63) (S 64) (S 1092 0) (S 1076 0) ∧ sm_PL (S 1100020) (S 51) (S 52) (S 46) (S 47) (S 1076 0) (S 1086 0) ∧ sm_FR (S 1100020) (S 52) (S 1100021) (S 1100022) (3000 - (S 1084 0)) (S 1085 0) ∧ sm_PV (S 1100020) (S 48) (S 49) (S 50) (S 44) (S 1076 0) (S 1007 0) ∧ sm_AL (S 1100020) (S 48) (S 49) (S 50) (S 44) (S 1076 0) (S 1100032 0) ∧ sm_SV (S 1100020) (S 48) (S 1100029) (S 32) (S 33) (S 1076 0) (S 1032 0) ∧ 0 ≤ (S 1076 0) ∧ (S 1076 0) ≤ 300 ∧ 0 ≤ (S 1084 0) ∧ (S 1084 0) ≤ 3000 ∧ 0 ≤ (S 1086 0) ∧ sm_SC (S 1100029) (S 44) (S 45) (S 43) (S 21) (S 1076 0) (S 1032 0) ∧ sm_PO (S 42) (S 1076 0) ∧ (S 1100032 0) = -1 ∧ sm_FO (S 44) (S 45) (S 1076 0) ∧ 23 ≤ (S 1076 0) ∧ 31 ≤ (S 1007 0) ∧ (S 1007 0) ≤ 400 ∧ sm_LN (S 4) 400 (S 1007 0) ∧ sm_CT (S 26) (S 27) (S 28) (S 29) (S 1100007) (S 1100023) (S 1100024) (S 1100025) (S 21) (S 1046 0) (S 1032 0) (S 1008 0) (S 1055 0) ∧ sm_LS (S 26) (S 1100007) (S 1100025) (S 1046 0) ∧ sm_CL (S 1100007) (S 1100023) (S 1100025) (S 1046 0) ∧ 1 ≤ (S 1032 0) ∧ (S 1032 0) ≤ 11 ∧ 0 ≤ (S 1046 0) ∧ (S 1046 0) ≤ 600 ∧ 31 ≤ (S 1008 0) ∧ (S 1008 0) ≤ (S 1007 0) ∧ 0 ≤ (S 1055 0) ∧ (S 1055 0) ≤ 19 ∧ 1 ≤ (S 1092 0) ∧ (S 1092 0) ≤ 24 ∧ 0 ≤ (S 1100033 0) ∧ (S 1100033 0) < (S 1046 0) ∧ (S 29 (S 1100033 0)) = (S 53 ((S 1092 0) - 1)) ∧ 0 ≤ (S 53 ((S 1092 0) - 1)) ∧ (S 53 ((S 1092 0) - 1)) < (S 1032 0) ∧ (S 60 ((S 1092 0) - 1)) = sm_dp (S 1100024) (S 1100023 (S 1100033 0)) ∧ sm_TC (S 61) (S 62) (S 27) (S 1100007) (S 1100023) (S 1100024) (40 * ((S 1092 0) - 1)) (S 1100023 (S 1100033 0)) ∧ sm_LK (S 1100029) (S 1076 0) (S 54 ((S 1092 0) - 1)) (S 53 ((S 1092 0) - 1)) ∧ sm_VO (S 44) (S 1076 0) (S 1007 0) ((S 55 ((S 1092 0) - 1))) ((S 56 ((S 1092 0) - 1))) ∧ sm_FW (S 44) (S 1076 0) (S 59 ((S 1092 0) - 1)) ∧ sm_FL (S 53) (S 54) (S 55) (S 56) (S 57) (S 58) (S 59) (S 60) (S 61) (S 62) (S 63) (S 64) (S 27) (S 29) (S 1100007) (S 1100023) (S 1100024) (S 1100025) (S 26) (S 1100029) (S 44) (S 1046 0) (S 1032 0) (S 1076 0) (S 1007 0) (((S 1092 0) - 1)) ∧ (S 57 ((S 1092 0) - 1)) = (S 1100033 0) ∧ 0 ≤ (S 58 ((S 1092 0) - 1)) ∧ (S 58 ((S 1092 0) - 1)) ≤ 400 ∧ sm_SK (S 63) (S 64) (S 44) (S 1100007) (S 1100025) (S 1076 0) (S 1007 0) (400 * ((S 1092 0) - 1)) ((S 58 ((S 1092 0) - 1))) ((S 1100034 0)) ∧ -1 ≤ (S 1100034 0) ∧ (S 1100034 0) < (S 1046 0) ∧ (0 ≤ (S 1100034 0) → (S 26 (S 1100034 0)) = 29) ∧ (S 58 ((S 1092 0) - 1)) = (S 1100007 (S 1100033 0)) ∧ (S 1100034 0) = (S 1100025 (S 1100033 0)) ∧ (0 ≤ (S 1100023 (S 1100033 0)) → (S 1100007 (S 1100023 (S 1100033 0))) ≤ (S 58 ((S 1092 0) - 1))) ∧ (S 58 ((S 1092 0) - 1)) ≤ 396 ∧ 1 ≤ p4 ∧ p4 ≤ (S 58 ((S 1092 0) - 1)) ∧ (0 ≤ (S 1100034 0) → (S 1100007 (S 1100034 0)) ≤ (S 58 ((S 1092 0) - 1)) - p4) ∧ (S 1100033 0) + 1 < (S 1046 0) ∧ (S 29 ((S 1100033 0) + 1)) = (S 29 (S 1100033 0)) ∧ (S 1100007 ((S 1100033 0) + 1)) = (S 58 ((S 1092 0) - 1)) + 1 - p4 ∧ (S 1100023 ((S 1100033 0) + 1)) = (S 1100023 (S 1100033 0)) ∧ (S 1100025 ((S 1100033 0) + 1)) = (S 1100034 0) ∧ (0 ≤ (S 1100023 (S 1100033 0)) → (S 1100007 (S 1100023 (S 1100033 0))) ≤ (S 58 ((S 1092 0) - 1)) - p4) ∧ 0 ≤ (S 1115 0) ∧ (S 1115 0) ≤ p4 - 1 ∧ (S 1114 0) + (S 1115 0) = (400 * ((S 1092 0) - 1) + (S 58 ((S 1092 0) - 1))) ∧ (∀ g : Int, 0 ≤ g → g < (S 1032 0) → 0 ≤ (S 30 g) ∧ (S 30 g) < (S 1046 0) ∧ (S 1100007 (S 30 g)) = 0 ∧ (S 1100023 (S 30 g)) = -1 ∧ 0 ≤ (S 33 g) ∧ (S 33 g) ≤ 100 ∧ 0 ≤ (S 20 g) ∧ (S 20 g) ≤ 8) ∧ sm_VN (S 32) (S 33) (S 1032 0) (S 1008 0) ∧ (∀ f : Int, 0 ≤ f → f < (S 1032 0) → 0 ≤ (S 30 f) ∧ (S 30 f) < (S 1046 0) ∧ (S 29 (S 30 f)) = f ∧ (S 1100007 (S 30 f)) = 0 ∧ (S 1100023 (S 30 f)) = -1 ∧ (S 1100025 (S 30 f)) = -1) ∧ (S 1086 0) ≤ 1900000000 ∧ sm_VO (S 44) (S 1076 0) (S 1007 0) (p2) (p3) ∧ 9 ≤ p1 ∧ p1 ≤ 22 ∧ ¬ p1 = 20 ∧ 0 ≤ (S 1107 0) ∧ (S 1107 0) ≤ 100 ∧ sm_PT (S 67) (S 1107 0) (S 1007 0)) → sv_T sm_XS sm_cs sm_L sm_sh 6 (q_nativeOf p1 p2 p3 p4 S) 186 0 (lv_args 0 [.ref 0, sv_I p1, sv_I p2, sv_I p3, sv_I p4]) [] S := by
  intro p1 p2 p3 p4 S hok hp1 hp2 hp3 hp4 hpre
  have h := f_nativeOf p1 p2 p3 p4 S hok hp1 hp2 hp3 hp4 hpre
  have hM := sm_h186
  show sv_T sm_XS sm_cs sm_L sm_sh 6 (q_nativeOf p1 p2 p3 p4 S) 186 0 [(0, .ref 0), (1, sv_I p1), (2, sv_I p2), (3, sv_I p3), (4, sv_I p4)] [] S
  refine sv_aload_n hM dX12_nativeOf_0 rfl rfl ?_
  refine sv_iconst (d := (0 : Int)) hM dX12_nativeOf_1 rfl rfl ?_
  obtain ⟨o1, h⟩ := h
  refine sv_callV hM dX12_nativeOf_2 sm_iv_1014 (by decide) (sm_a0 _) rfl rfl (Nat.le_of_ble_eq_true rfl) sm_h178 (Nat.le_of_ble_eq_true rfl) (Nat.le_of_ble_eq_true rfl) (F' := 0) (Nat.le_of_ble_eq_true rfl) rfl (t_argumentSort (0 : Int) S hok (⟨by decide, by decide⟩ : sv_R (0 : Int)) o1) (fun v S1 hq => ?_)
  obtain ⟨r6, rfl, hr6, ok3, md4, hpo5⟩ := hq
  obtain rfl : S = S1 := (funext fun j => md4 j (by intro q; cases q)).symm
  show sv_T sm_XS sm_cs sm_L sm_sh 6 (q_nativeOf p1 p2 p3 p4 S) 186 5 [(0, .ref 0), (1, sv_I p1), (2, sv_I p2), (3, sv_I p3), (4, sv_I p4)] [sv_I r6] S
  have h := h r6 hr6 hpo5
  refine sv_istore hM dX12_nativeOf_5 (by decide) rfl ?_
  show sv_T sm_XS sm_cs sm_L sm_sh 6 (q_nativeOf p1 p2 p3 p4 S) 186 7 [(0, .ref 0), (1, sv_I p1), (2, sv_I p2), (3, sv_I p3), (4, sv_I p4), (5, sv_I r6)] [] S
  refine sv_aload_n hM dX12_nativeOf_7 rfl rfl ?_
  refine sv_iconst (d := (0 : Int)) hM dX12_nativeOf_8 rfl rfl ?_
  refine sv_callV hM dX12_nativeOf_9 sm_iv_1017 (by decide) (sm_a0 _) rfl rfl (Nat.le_of_ble_eq_true rfl) sm_h179 (Nat.le_of_ble_eq_true rfl) (Nat.le_of_ble_eq_true rfl) (F' := 0) (Nat.le_of_ble_eq_true rfl) rfl (t_argument (0 : Int) S ok3 (⟨by decide, by decide⟩ : sv_R (0 : Int)) o1) (fun v S1 hq => ?_)
  obtain ⟨r11, rfl, hr11, ok8, md9, hpo10⟩ := hq
  obtain rfl : S = S1 := (funext fun j => md9 j (by intro q; cases q)).symm
  show sv_T sm_XS sm_cs sm_L sm_sh 6 (q_nativeOf p1 p2 p3 p4 S) 186 12 [(0, .ref 0), (1, sv_I p1), (2, sv_I p2), (3, sv_I p3), (4, sv_I p4), (5, sv_I r6)] [sv_I r11] S
  have h := h r11 hr11 hpo10
  refine sv_istore hM dX12_nativeOf_12 (by decide) rfl ?_
  show sv_T sm_XS sm_cs sm_L sm_sh 6 (q_nativeOf p1 p2 p3 p4 S) 186 14 [(0, .ref 0), (1, sv_I p1), (2, sv_I p2), (3, sv_I p3), (4, sv_I p4), (5, sv_I r6), (6, sv_I r11)] [] S
  have k12 : (sm_SK (S 63) (S 64) (S 44) (S 1100007) (S 1100025) (S 1076 0) (S 1007 0) (400 * ((S 1092 0) - 1)) ((S 58 ((S 1092 0) - 1))) ((S 1100034 0)) → sm_LS (S 26) (S 1100007) (S 1100025) (S 1046 0) → (S 1114 0) + (S 1115 0) = 400 * ((S 1092 0) - 1) + (S 58 ((S 1092 0) - 1)) → 0 ≤ (0 : Int) → (S 1115 0) ≤ p4 - 1 → p4 ≤ (S 58 ((S 1092 0) - 1)) → (S 1100034 0) < (S 1046 0) → (0 ≤ (S 1100034 0) → (S 26 (S 1100034 0)) = 29) → (0 ≤ (S 1100034 0) → (S 1100007 (S 1100034 0)) ≤ (S 58 ((S 1092 0) - 1)) - p4) → ((0 : Int) < (S 1115 0) → r6 = (S 63 ((S 1114 0) + (0 : Int)))) → (¬ (0 : Int) < (S 1115 0) → r6 = 0) → ((0 : Int) < (S 1115 0) → r11 = (S 64 ((S 1114 0) + (0 : Int)))) → (¬ (0 : Int) < (S 1115 0) → r11 = 0) → sm_VO (S 44) (S 1076 0) (S 1007 0) (r6) (r11)) := fun k l e a d g q o w s1 s2 v1 v2 => sm_SK_argv k l e a d g q o w s1 s2 v1 v2
  have h := h k12
  have J24 : ∀ g13 : sv_S, sm_ok (sv_sts S [1076, 41, 42, 43, 44, 45, 46, 47, 1075, 1100029, 1092, 60, 58, 57, 63, 64, 1073, 1109, 1110, 1111, 1112, 5, 1011, 3, 4, 1007, 1084, 1085, 48, 1086, 51, 52, 49, 50, 1100020, 1100021, 1100022, 1113, 1107, 67, 1100032] g13) → (sm_PL (g13 1100020) (g13 51) (g13 52) (g13 46) (g13 47) (g13 1076 0) (g13 1086 0) ∧ sm_FR (g13 1100020) (g13 52) (g13 1100021) (g13 1100022) (3000 - (g13 1084 0)) (g13 1085 0) ∧ sm_PV (g13 1100020) (g13 48) (g13 49) (g13 50) (g13 44) (g13 1076 0) (g13 1007 0) ∧ sm_AL (g13 1100020) (g13 48) (g13 49) (g13 50) (g13 44) (g13 1076 0) (g13 1100032 0) ∧ sm_SV (g13 1100020) (g13 48) (g13 1100029) (S 32) (S 33) (g13 1076 0) (S 1032 0) ∧ 0 ≤ (g13 1076 0) ∧ (g13 1076 0) ≤ 300 ∧ 0 ≤ (g13 1084 0) ∧ (g13 1084 0) ≤ 3000 ∧ 0 ≤ (g13 1086 0) ∧ sm_SC (g13 1100029) (g13 44) (g13 45) (g13 43) (S 21) (g13 1076 0) (S 1032 0) ∧ sm_PO (g13 42) (g13 1076 0) ∧ ((g13 1075 0) = 0 → (g13 1100032 0) = -1 ∧ sm_FO (g13 44) (g13 45) (g13 1076 0)) ∧ 23 ≤ (g13 1076 0) ∧ 31 ≤ (g13 1007 0) ∧ (g13 1007 0) ≤ 400 ∧ sm_LN (g13 4) 400 (g13 1007 0) ∧ (S 1008 0) ≤ (g13 1007 0) ∧ ((S 1075 0) = 1 → (g13 1075 0) = 1) ∧ 0 ≤ (g13 1092 0) ∧ (g13 1092 0) ≤ 24 ∧ (S 1007 0) ≤ (g13 1007 0) ∧ (¬ (g13 1075 0) = 0 → sm_LX (g13 58) (g13 63) (g13 64) (g13 1092 0) (g13 1076 0)) ∧ (g13 1073 0) = 1 ∧ ((g13 1075 0) = 0 → sm_PL (g13 1100020) (g13 51) (g13 52) (g13 46) (g13 47) (g13 1076 0) (g13 1086 0) ∧ sm_FR (g13 1100020) (g13 52) (g13 1100021) (g13 1100022) (3000 - (g13 1084 0)) (g13 1085 0) ∧ sm_PV (g13 1100020) (g13 48) (g13 49) (g13 50) (g13 44) (g13 1076 0) (g13 1007 0) ∧ sm_AL (g13 1100020) (g13 48) (g13 49) (g13 50) (g13 44) (g13 1076 0) (g13 1100032 0) ∧ sm_SV (g13 1100020) (g13 48) (g13 1100029) (S 32) (S 33) (g13 1076 0) (S 1032 0) ∧ 0 ≤ (g13 1076 0) ∧ (g13 1076 0) ≤ 300 ∧ 0 ≤ (g13 1084 0) ∧ (g13 1084 0) ≤ 3000 ∧ 0 ≤ (g13 1086 0) ∧ sm_SC (g13 1100029) (g13 44) (g13 45) (g13 43) (S 21) (g13 1076 0) (S 1032 0) ∧ sm_PO (g13 42) (g13 1076 0) ∧ (g13 1100032 0) = -1 ∧ sm_FO (g13 44) (g13 45) (g13 1076 0) ∧ 23 ≤ (g13 1076 0) ∧ 31 ≤ (g13 1007 0) ∧ (g13 1007 0) ≤ 400 ∧ sm_LN (g13 4) 400 (g13 1007 0) ∧ sm_CT (S 26) (S 27) (S 28) (S 29) (S 1100007) (S 1100023) (S 1100024) (S 1100025) (S 21) (S 1046 0) (S 1032 0) (S 1008 0) (S 1055 0) ∧ sm_LS (S 26) (S 1100007) (S 1100025) (S 1046 0) ∧ sm_CL (S 1100007) (S 1100023) (S 1100025) (S 1046 0) ∧ 1 ≤ (S 1032 0) ∧ (S 1032 0) ≤ 11 ∧ 0 ≤ (S 1046 0) ∧ (S 1046 0) ≤ 600 ∧ 31 ≤ (S 1008 0) ∧ (S 1008 0) ≤ (g13 1007 0) ∧ 0 ≤ (S 1055 0) ∧ (S 1055 0) ≤ 19 ∧ 1 ≤ (g13 1092 0) ∧ (g13 1092 0) ≤ 24 ∧ 0 ≤ (S 1100033 0) ∧ (S 1100033 0) < (S 1046 0) ∧ (S 29 (S 1100033 0)) = (S 53 ((g13 1092 0) - 1)) ∧ 0 ≤ (S 53 ((g13 1092 0) - 1)) ∧ (S 53 ((g13 1092 0) - 1)) < (S 1032 0) ∧ (g13 60 ((g13 1092 0) - 1)) = sm_dp (S 1100024) (S 1100023 (S 1100033 0)) ∧ sm_TC (S 61) (S 62) (S 27) (S 1100007) (S 1100023) (S 1100024) (40 * ((g13 1092 0) - 1)) (S 1100023 (S 1100033 0)) ∧ sm_LK (g13 1100029) (g13 1076 0) (S 54 ((g13 1092 0) - 1)) (S 53 ((g13 1092 0) - 1)) ∧ sm_VO (g13 44) (g13 1076 0) (g13 1007 0) ((S 55 ((g13 1092 0) - 1))) ((S 56 ((g13 1092 0) - 1))) ∧ sm_FW (g13 44) (g13 1076 0) (S 59 ((g13 1092 0) - 1)) ∧ sm_FL (S 53) (S 54) (S 55) (S 56) (g13 57) (g13 58) (S 59) (g13 60) (S 61) (S 62) (g13 63) (g13 64) (S 27) (S 29) (S 1100007) (S 1100023) (S 1100024) (S 1100025) (S 26) (g13 1100029) (g13 44) (S 1046 0) (S 1032 0) (g13 1076 0) (g13 1007 0) (((g13 1092 0) - 1)) ∧ (g13 57 ((g13 1092 0) - 1)) = (S 1100033 0) ∧ 0 ≤ (g13 58 ((g13 1092 0) - 1)) ∧ (g13 58 ((g13 1092 0) - 1)) ≤ 400 ∧ sm_SK (g13 63) (g13 64) (g13 44) (S 1100007) (S 1100025) (g13 1076 0) (g13 1007 0) (400 * ((g13 1092 0) - 1)) ((g13 58 ((g13 1092 0) - 1))) ((S 1100034 0)) ∧ -1 ≤ (S 1100034 0) ∧ (S 1100034 0) < (S 1046 0) ∧ (0 ≤ (S 1100034 0) → (S 26 (S 1100034 0)) = 29) ∧ (g13 58 ((g13 1092 0) - 1)) = (S 58 ((S 1092 0) - 1)) ∧ sm_VO (g13 44) (g13 1076 0) (g13 1007 0) ((g13 1111 0)) ((g13 1112 0))) ∧ (S 1086 0) ≤ (g13 1086 0) ∧ (g13 1086 0) ≤ (S 1086 0) + 3 ∧ 0 ≤ (g13 1107 0) ∧ (g13 1107 0) ≤ 100 ∧ sm_PT (g13 67) (g13 1107 0) (g13 1007 0)) → sv_T sm_XS sm_cs sm_L sm_sh 6 (q_nativeOf p1 p2 p3 p4 S) 186 310 [(0, .ref 0), (1, sv_I p1), (2, sv_I p2), (3, sv_I p3), (4, sv_I p4), (5, sv_I r6), (6, sv_I r11)] [] (sv_sts S [1076, 41, 42, 43, 44, 45, 46, 47, 1075, 1100029, 1092, 60, 58, 57, 63, 64, 1073, 1109, 1110, 1111, 1112, 5, 1011, 3, 4, 1007, 1084, 1085, 48, 1086, 51, 52, 49, 50, 1100020, 1100021, 1100022, 1113, 1107, 67, 1100032] g13) := by
    intro  g13 ok14 hin15
    have h := h.1 g13 hin15
    have md16 : sv_mod [1076, 41, 42, 43, 44, 45, 46, 47, 1075, 1100029, 1092, 60, 58, 57, 63, 64, 1073, 1109, 1110, 1111, 1112, 5, 1011, 3, 4, 1007, 1084, 1085, 48, 1086, 51, 52, 49, 50, 1100020, 1100021, 1100022, 1113, 1107, 67, 1100032] S (sv_sts S [1076, 41, 42, 43, 44, 45, 46, 47, 1075, 1100029, 1092, 60, 58, 57, 63, 64, 1073, 1109, 1110, 1111, 1112, 5, 1011, 3, 4, 1007, 1084, 1085, 48, 1086, 51, 52, 49, 50, 1100020, 1100021, 1100022, 1113, 1107, 67, 1100032] g13) := sv_mod.sts sv_mod.rf (by decide)
    have md17 : sv_mod [1076, 41, 42, 43, 44, 45, 46, 47, 1075, 1100029, 1092, 60, 58, 57, 63, 64, 1073, 1109, 1110, 1111, 1112, 5, 1011, 3, 4, 1007, 1084, 1085, 48, 1086, 51, 52, 49, 50, 1100020, 1100021, 1100022, 1113, 1107, 67, 1100032] S (sv_sts S [1076, 41, 42, 43, 44, 45, 46, 47, 1075, 1100029, 1092, 60, 58, 57, 63, 64, 1073, 1109, 1110, 1111, 1112, 5, 1011, 3, 4, 1007, 1084, 1085, 48, 1086, 51, 52, 49, 50, 1100020, 1100021, 1100022, 1113, 1107, 67, 1100032] g13) := sv_mod.sts sv_mod.rf (by decide)
    refine sv_aload_n hM dX12_nativeOf_310 rfl rfl ?_
    refine sv_iload hM dX12_nativeOf_311 rfl rfl ?_
    obtain ⟨o18, h⟩ := h
    refine sv_callV hM dX12_nativeOf_313 sm_iv_904 (by decide) (sm_a0 _) rfl rfl (Nat.le_of_ble_eq_true rfl) sm_h155 (Nat.le_of_ble_eq_true rfl) (Nat.le_of_ble_eq_true rfl) (F' := 2) (Nat.le_of_ble_eq_true rfl) rfl (t_gives p4 (sv_sts S [1076, 41, 42, 43, 44, 45, 46, 47, 1075, 1100029, 1092, 60, 58, 57, 63, 64, 1073, 1109, 1110, 1111, 1112, 5, 1011, 3, 4, 1007, 1084, 1085, 48, 1086, 51, 52, 49, 50, 1100020, 1100021, 1100022, 1113, 1107, 67, 1100032] g13) ok14 hp4 o18) (fun v S1 hq => ?_)
    obtain ⟨rfl, ok20, md21, hpo22⟩ := hq
    obtain ⟨g19, rfl⟩ : ∃ g, S1 = sv_sts (sv_sts S [1076, 41, 42, 43, 44, 45, 46, 47, 1075, 1100029, 1092, 60, 58, 57, 63, 64, 1073, 1109, 1110, 1111, 1112, 5, 1011, 3, 4, 1007, 1084, 1085, 48, 1086, 51, 52, 49, 50, 1100020, 1100021, 1100022, 1113, 1107, 67, 1100032] g13) [58, 63, 64, 57] g := ⟨_, md21.eq⟩
    show sv_T sm_XS sm_cs sm_L sm_sh 6 (q_nativeOf p1 p2 p3 p4 S) 186 316 [(0, .ref 0), (1, sv_I p1), (2, sv_I p2), (3, sv_I p3), (4, sv_I p4), (5, sv_I r6), (6, sv_I r11)] [] (sv_sts (sv_sts S [1076, 41, 42, 43, 44, 45, 46, 47, 1075, 1100029, 1092, 60, 58, 57, 63, 64, 1073, 1109, 1110, 1111, 1112, 5, 1011, 3, 4, 1007, 1084, 1085, 48, 1086, 51, 52, 49, 50, 1100020, 1100021, 1100022, 1113, 1107, 67, 1100032] g13) [58, 63, 64, 57] g19)
    have md23 : sv_mod [1076, 41, 42, 43, 44, 45, 46, 47, 1075, 1100029, 1092, 60, 58, 57, 63, 64, 1073, 1109, 1110, 1111, 1112, 5, 1011, 3, 4, 1007, 1084, 1085, 48, 1086, 51, 52, 49, 50, 1100020, 1100021, 1100022, 1113, 1107, 67, 1100032] S (sv_sts (sv_sts S [1076, 41, 42, 43, 44, 45, 46, 47, 1075, 1100029, 1092, 60, 58, 57, 63, 64, 1073, 1109, 1110, 1111, 1112, 5, 1011, 3, 4, 1007, 1084, 1085, 48, 1086, 51, 52, 49, 50, 1100020, 1100021, 1100022, 1113, 1107, 67, 1100032] g13) [58, 63, 64, 57] g19) := sv_mod.sts md16 (by decide)
    have h := h g19 hpo22
    exact sv_vret hM dX12_nativeOf_316 rfl ⟨rfl, ok20, md23, h⟩
  have h := h.2
  have k25 : (sm_SK (S 63) (S 64) (S 44) (S 1100007) (S 1100025) (S 1076 0) (S 1007 0) (400 * ((S 1092 0) - 1)) ((S 58 ((S 1092 0) - 1))) ((S 1100034 0)) → sm_LS (S 26) (S 1100007) (S 1100025) (S 1046 0) → (S 1114 0) + (S 1115 0) = 400 * ((S 1092 0) - 1) + (S 58 ((S 1092 0) - 1)) → 0 ≤ (0 : Int) → (S 1115 0) ≤ p4 - 1 → p4 ≤ (S 58 ((S 1092 0) - 1)) → (S 1100034 0) < (S 1046 0) → (0 ≤ (S 1100034 0) → (S 26 (S 1100034 0)) = 29) → (0 ≤ (S 1100034 0) → (S 1100007 (S 1100034 0)) ≤ (S 58 ((S 1092 0) - 1)) - p4) → ((0 : Int) < (S 1115 0) → r6 = (S 63 ((S 1114 0) + (0 : Int)))) → (¬ (0 : Int) < (S 1115 0) → r6 = 0) → ((0 : Int) < (S 1115 0) → r11 = (S 64 ((S 1114 0) + (0 : Int)))) → (¬ (0 : Int) < (S 1115 0) → r11 = 0) → sm_VO (S 44) (S 1076 0) (S 1007 0) (r6) (r11)) := fun k l e a d g q o w s1 s2 v1 v2 => sm_SK_argv k l e a d g q o w s1 s2 v1 v2
  have h := h k25
  refine sv_iload_n hM dX12_nativeOf_14 rfl rfl ?_
  have hS := h
  have J0 : (p1 < (9 : Int) ∨ (22 : Int) < p1 ∨ p1 = (14 : Int) ∨ p1 = (15 : Int) ∨ p1 = (16 : Int) ∨ p1 = (17 : Int) ∨ p1 = (20 : Int)) → sv_T sm_XS sm_cs sm_L sm_sh 6 (q_nativeOf p1 p2 p3 p4 S) 186 245 [(0, .ref 0), (1, sv_I p1), (2, sv_I p2), (3, sv_I p3), (4, sv_I p4), (5, sv_I r6), (6, sv_I r11)] [] S := by
    intro hc
    have h := hS.1 hc
    refine sv_aload_n hM dX12_nativeOf_245 rfl rfl ?_
    refine sv_iload_n hM dX12_nativeOf_246 rfl rfl ?_
    refine sv_bipush (d := (9 : Int)) hM dX12_nativeOf_247 rfl rfl ?_
    refine sv_isub hM dX12_nativeOf_249 rfl ?_
    refine sv_iload_n hM dX12_nativeOf_250 rfl rfl ?_
    refine sv_bipush (d := (11 : Int)) hM dX12_nativeOf_251 rfl rfl ?_
    refine sv_iadd hM dX12_nativeOf_253 rfl ?_
    refine sv_iconst (d := (0 : Int)) hM dX12_nativeOf_254 rfl rfl ?_
    obtain ⟨o26, h⟩ := h
    obtain ⟨o27, h⟩ := h
    obtain ⟨o28, h⟩ := h
    refine sv_callV hM dX12_nativeOf_255 sm_iv_858 (by decide) (sm_a0 _) rfl rfl (Nat.le_of_ble_eq_true rfl) sm_h139 (Nat.le_of_ble_eq_true rfl) (Nat.le_of_ble_eq_true rfl) (F' := 0) (Nat.le_of_ble_eq_true rfl) rfl (t_newObject (p1 - (9 : Int)) (p1 + (11 : Int)) (0 : Int) S ok8 o26 o27 (⟨by decide, by decide⟩ : sv_R (0 : Int)) o28) (fun v S1 hq => ?_)
    obtain ⟨r33, rfl, hr33, ok30, md31, hpo32⟩ := hq
    obtain ⟨g29, rfl⟩ : ∃ g, S1 = sv_sts S [1076, 41, 42, 43, 44, 45, 46, 47, 1075, 1100029] g := ⟨_, md31.eq⟩
    show sv_T sm_XS sm_cs sm_L sm_sh 6 (q_nativeOf p1 p2 p3 p4 S) 186 258 [(0, .ref 0), (1, sv_I p1), (2, sv_I p2), (3, sv_I p3), (4, sv_I p4), (5, sv_I r6), (6, sv_I r11)] [sv_I r33] (sv_sts S [1076, 41, 42, 43, 44, 45, 46, 47, 1075, 1100029] g29)
    have md34 : sv_mod [1076, 41, 42, 43, 44, 45, 46, 47, 1075, 1100029, 1092, 60, 58, 57, 63, 64, 1073, 1109, 1110, 1111, 1112, 5, 1011, 3, 4, 1007, 1084, 1085, 48, 1086, 51, 52, 49, 50, 1100020, 1100021, 1100022, 1113, 1107, 67, 1100032] S (sv_sts S [1076, 41, 42, 43, 44, 45, 46, 47, 1075, 1100029] g29) := sv_mod.sts sv_mod.rf (by decide)
    have md35 : sv_mod [1076, 41, 42, 43, 44, 45, 46, 47, 1075, 1100029, 1092, 60, 58, 57, 63, 64, 1073, 1109, 1110, 1111, 1112, 5, 1011, 3, 4, 1007, 1084, 1085, 48, 1086, 51, 52, 49, 50, 1100020, 1100021, 1100022, 1113, 1107, 67, 1100032] S (sv_sts S [1076, 41, 42, 43, 44, 45, 46, 47, 1075, 1100029] g29) := sv_mod.sts (sv_mod.rf (l := [1076, 41, 42, 43, 44, 45, 46, 47, 1075, 1100029, 1092, 60, 58, 57, 63, 64, 1073, 1109, 1110, 1111, 1112, 5, 1011, 3, 4, 1007, 1084, 1085, 48, 1086, 51, 52, 49, 50, 1100020, 1100021, 1100022, 1113, 1107, 67, 1100032]) (S := S)) (by decide)
    have h := h r33 hr33 g29 hpo32
    refine sv_istore hM dX12_nativeOf_258 (by decide) rfl ?_
    show sv_T sm_XS sm_cs sm_L sm_sh 6 (q_nativeOf p1 p2 p3 p4 S) 186 260 [(0, .ref 0), (1, sv_I p1), (2, sv_I p2), (3, sv_I p3), (4, sv_I p4), (5, sv_I r6), (6, sv_I r11), (7, sv_I r33)] [] (sv_sts S [1076, 41, 42, 43, 44, 45, 46, 47, 1075, 1100029] g29)
    refine sv_aload_n hM dX12_nativeOf_260 rfl rfl ?_
    have k36 : (0 ≤ (g29 1075 0) ∧ (g29 1075 0) ≤ 1) := sm_okZ ok30 sm_r1075 0
    have h := h k36
    refine sv_getI hM dX12_nativeOf_261 sm_fl_794 (sm_a0 _) sm_k75 rfl (x := (g29 1075 0)) rfl ?_
    refine sv_cond_ne hM dX12_nativeOf_264 (sv_R01 k36) (t := 302) rfl rfl (fun hc => ?_) (fun hc => ?_)
    · have h := h.1 (hc)
      have k37 : (0 ≤ r33 → r33 < (g29 1076 0) → ¬ (g29 44 r33) = 3 → sm_VO (g29 44) (g29 1076 0) (S 1007 0) (7) (r33)) := fun a b e => sm_VO_7 a b e
      have h := h k37
      refine sv_aload_n hM dX12_nativeOf_302 rfl rfl ?_
      refine sv_bipush (d := (7 : Int)) hM dX12_nativeOf_303 rfl rfl ?_
      refine sv_iload hM dX12_nativeOf_305 rfl rfl ?_
      refine sv_callV hM dX12_nativeOf_307 sm_iv_822 (by decide) (sm_a0 _) rfl rfl (Nat.le_of_ble_eq_true rfl) sm_h122 (Nat.le_of_ble_eq_true rfl) (Nat.le_of_ble_eq_true rfl) (F' := 0) (Nat.le_of_ble_eq_true rfl) rfl (t_give_ (7 : Int) r33 (sv_sts S [1076, 41, 42, 43, 44, 45, 46, 47, 1075, 1100029] g29) ok30 (⟨by decide, by decide⟩ : sv_R (7 : Int)) hr33) (fun v S1 hq => ?_)
      obtain ⟨rfl, ok39, md40, hpo41⟩ := hq
      obtain ⟨g38, rfl⟩ : ∃ g, S1 = sv_sts (sv_sts S [1076, 41, 42, 43, 44, 45, 46, 47, 1075, 1100029] g29) [1111, 1112] g := ⟨_, md40.eq⟩
      show sv_T sm_XS sm_cs sm_L sm_sh 6 (q_nativeOf p1 p2 p3 p4 S) 186 310 [(0, .ref 0), (1, sv_I p1), (2, sv_I p2), (3, sv_I p3), (4, sv_I p4), (5, sv_I r6), (6, sv_I r11), (7, sv_I r33)] [] (sv_sts (sv_sts S [1076, 41, 42, 43, 44, 45, 46, 47, 1075, 1100029] g29) [1111, 1112] g38)
      have md42 : sv_mod [1076, 41, 42, 43, 44, 45, 46, 47, 1075, 1100029, 1092, 60, 58, 57, 63, 64, 1073, 1109, 1110, 1111, 1112, 5, 1011, 3, 4, 1007, 1084, 1085, 48, 1086, 51, 52, 49, 50, 1100020, 1100021, 1100022, 1113, 1107, 67, 1100032] S (sv_sts (sv_sts S [1076, 41, 42, 43, 44, 45, 46, 47, 1075, 1100029] g29) [1111, 1112] g38) := sv_mod.sts md34 (by decide)
      have md43 : sv_mod [1076, 41, 42, 43, 44, 45, 46, 47, 1075, 1100029, 1092, 60, 58, 57, 63, 64, 1073, 1109, 1110, 1111, 1112, 5, 1011, 3, 4, 1007, 1084, 1085, 48, 1086, 51, 52, 49, 50, 1100020, 1100021, 1100022, 1113, 1107, 67, 1100032] S (sv_sts (sv_sts S [1076, 41, 42, 43, 44, 45, 46, 47, 1075, 1100029] g29) [1111, 1112] g38) := sv_mod.sts md35 (by decide)
      have h := h g38 hpo41
      have eS := sv_mod.eq md43
      have hb := J24 (sv_sts (sv_sts S [1076, 41, 42, 43, 44, 45, 46, 47, 1075, 1100029] g29) [1111, 1112] g38) (by rw [← eS]; exact ok39) h
      have hb : sv_T sm_XS sm_cs sm_L sm_sh 6 (q_nativeOf p1 p2 p3 p4 S) 186 310 [(0, .ref 0), (1, sv_I p1), (2, sv_I p2), (3, sv_I p3), (4, sv_I p4), (5, sv_I r6), (6, sv_I r11)] [] (sv_sts (sv_sts S [1076, 41, 42, 43, 44, 45, 46, 47, 1075, 1100029] g29) [1111, 1112] g38) := Eq.mpr (congrArg (fun Z => sv_T sm_XS sm_cs sm_L sm_sh 6 (q_nativeOf p1 p2 p3 p4 S) 186 310 [(0, .ref 0), (1, sv_I p1), (2, sv_I p2), (3, sv_I p3), (4, sv_I p4), (5, sv_I r6), (6, sv_I r11)] [] Z) eS) hb
      exact sv_less (lv := [(0, .ref 0), (1, sv_I p1), (2, sv_I p2), (3, sv_I p3), (4, sv_I p4), (5, sv_I r6), (6, sv_I r11)]) (sv_Sub_cons rfl (sv_Sub_cons rfl (sv_Sub_cons rfl (sv_Sub_cons rfl (sv_Sub_cons rfl (sv_Sub_cons rfl (sv_Sub_cons rfl sv_Sub_nil))))))) hb
    · have h := h.2 (hc)
      refine sv_aload_n hM dX12_nativeOf_267 rfl rfl ?_
      have k44 : sv_R (S 1115 0) := sm_okI ok30 sm_r1115 0
      have h := h k44
      refine sv_getI hM dX12_nativeOf_268 sm_fl_995 (sm_a0 _) sm_k115 rfl (x := (S 1115 0)) rfl ?_
      refine sv_cond_le hM dX12_nativeOf_271 k44 (t := 302) rfl rfl (fun hc => ?_) (fun hc => ?_)
      · have h := h.1 (hc)
        have k45 : (0 ≤ r33 → r33 < (g29 1076 0) → ¬ (g29 44 r33) = 3 → sm_VO (g29 44) (g29 1076 0) (S 1007 0) (7) (r33)) := fun a b e => sm_VO_7 a b e
        have h := h k45
        refine sv_aload_n hM dX12_nativeOf_302 rfl rfl ?_
        refine sv_bipush (d := (7 : Int)) hM dX12_nativeOf_303 rfl rfl ?_
        refine sv_iload hM dX12_nativeOf_305 rfl rfl ?_
        refine sv_callV hM dX12_nativeOf_307 sm_iv_822 (by decide) (sm_a0 _) rfl rfl (Nat.le_of_ble_eq_true rfl) sm_h122 (Nat.le_of_ble_eq_true rfl) (Nat.le_of_ble_eq_true rfl) (F' := 0) (Nat.le_of_ble_eq_true rfl) rfl (t_give_ (7 : Int) r33 (sv_sts S [1076, 41, 42, 43, 44, 45, 46, 47, 1075, 1100029] g29) ok30 (⟨by decide, by decide⟩ : sv_R (7 : Int)) hr33) (fun v S1 hq => ?_)
        obtain ⟨rfl, ok47, md48, hpo49⟩ := hq
        obtain ⟨g46, rfl⟩ : ∃ g, S1 = sv_sts (sv_sts S [1076, 41, 42, 43, 44, 45, 46, 47, 1075, 1100029] g29) [1111, 1112] g := ⟨_, md48.eq⟩
        show sv_T sm_XS sm_cs sm_L sm_sh 6 (q_nativeOf p1 p2 p3 p4 S) 186 310 [(0, .ref 0), (1, sv_I p1), (2, sv_I p2), (3, sv_I p3), (4, sv_I p4), (5, sv_I r6), (6, sv_I r11), (7, sv_I r33)] [] (sv_sts (sv_sts S [1076, 41, 42, 43, 44, 45, 46, 47, 1075, 1100029] g29) [1111, 1112] g46)
        have md50 : sv_mod [1076, 41, 42, 43, 44, 45, 46, 47, 1075, 1100029, 1092, 60, 58, 57, 63, 64, 1073, 1109, 1110, 1111, 1112, 5, 1011, 3, 4, 1007, 1084, 1085, 48, 1086, 51, 52, 49, 50, 1100020, 1100021, 1100022, 1113, 1107, 67, 1100032] S (sv_sts (sv_sts S [1076, 41, 42, 43, 44, 45, 46, 47, 1075, 1100029] g29) [1111, 1112] g46) := sv_mod.sts md34 (by decide)
        have md51 : sv_mod [1076, 41, 42, 43, 44, 45, 46, 47, 1075, 1100029, 1092, 60, 58, 57, 63, 64, 1073, 1109, 1110, 1111, 1112, 5, 1011, 3, 4, 1007, 1084, 1085, 48, 1086, 51, 52, 49, 50, 1100020, 1100021, 1100022, 1113, 1107, 67, 1100032] S (sv_sts (sv_sts S [1076, 41, 42, 43, 44, 45, 46, 47, 1075, 1100029] g29) [1111, 1112] g46) := sv_mod.sts md35 (by decide)
        have h := h g46 hpo49
        have eS := sv_mod.eq md51
        have hb := J24 (sv_sts (sv_sts S [1076, 41, 42, 43, 44, 45, 46, 47, 1075, 1100029] g29) [1111, 1112] g46) (by rw [← eS]; exact ok47) h
        have hb : sv_T sm_XS sm_cs sm_L sm_sh 6 (q_nativeOf p1 p2 p3 p4 S) 186 310 [(0, .ref 0), (1, sv_I p1), (2, sv_I p2), (3, sv_I p3), (4, sv_I p4), (5, sv_I r6), (6, sv_I r11)] [] (sv_sts (sv_sts S [1076, 41, 42, 43, 44, 45, 46, 47, 1075, 1100029] g29) [1111, 1112] g46) := Eq.mpr (congrArg (fun Z => sv_T sm_XS sm_cs sm_L sm_sh 6 (q_nativeOf p1 p2 p3 p4 S) 186 310 [(0, .ref 0), (1, sv_I p1), (2, sv_I p2), (3, sv_I p3), (4, sv_I p4), (5, sv_I r6), (6, sv_I r11)] [] Z) eS) hb
        exact sv_less (lv := [(0, .ref 0), (1, sv_I p1), (2, sv_I p2), (3, sv_I p3), (4, sv_I p4), (5, sv_I r6), (6, sv_I r11)]) (sv_Sub_cons rfl (sv_Sub_cons rfl (sv_Sub_cons rfl (sv_Sub_cons rfl (sv_Sub_cons rfl (sv_Sub_cons rfl (sv_Sub_cons rfl sv_Sub_nil))))))) hb
      · have h := h.2 (hc)
        refine sv_aload_n hM dX12_nativeOf_274 rfl rfl ?_
        refine sv_iload hM dX12_nativeOf_275 rfl rfl ?_
        refine sv_iload hM dX12_nativeOf_277 rfl rfl ?_
        obtain ⟨o52, h⟩ := h
        refine sv_callV hM dX12_nativeOf_279 sm_iv_969 (by decide) (sm_a0 _) rfl rfl (Nat.le_of_ble_eq_true rfl) sm_h126 (Nat.le_of_ble_eq_true rfl) (Nat.le_of_ble_eq_true rfl) (F' := 3) (Nat.le_of_ble_eq_true rfl) rfl (t_textOf r6 r11 (sv_sts S [1076, 41, 42, 43, 44, 45, 46, 47, 1075, 1100029] g29) ok30 hr6 hr11 o52) (fun v S1 hq => ?_)
        obtain ⟨r57, rfl, hr57, ok54, md55, hpo56⟩ := hq
        obtain ⟨g53, rfl⟩ : ∃ g, S1 = sv_sts (sv_sts S [1076, 41, 42, 43, 44, 45, 46, 47, 1075, 1100029] g29) [5, 1011, 3, 4, 1007, 1075] g := ⟨_, md55.eq⟩
        show sv_T sm_XS sm_cs sm_L sm_sh 6 (q_nativeOf p1 p2 p3 p4 S) 186 282 [(0, .ref 0), (1, sv_I p1), (2, sv_I p2), (3, sv_I p3), (4, sv_I p4), (5, sv_I r6), (6, sv_I r11), (7, sv_I r33)] [sv_I r57] (sv_sts (sv_sts S [1076, 41, 42, 43, 44, 45, 46, 47, 1075, 1100029] g29) [5, 1011, 3, 4, 1007, 1075] g53)
        have md58 : sv_mod [1076, 41, 42, 43, 44, 45, 46, 47, 1075, 1100029, 1092, 60, 58, 57, 63, 64, 1073, 1109, 1110, 1111, 1112, 5, 1011, 3, 4, 1007, 1084, 1085, 48, 1086, 51, 52, 49, 50, 1100020, 1100021, 1100022, 1113, 1107, 67, 1100032] S (sv_sts (sv_sts S [1076, 41, 42, 43, 44, 45, 46, 47, 1075, 1100029] g29) [5, 1011, 3, 4, 1007, 1075] g53) := sv_mod.sts md34 (by decide)
        have md59 : sv_mod [1076, 41, 42, 43, 44, 45, 46, 47, 1075, 1100029, 1092, 60, 58, 57, 63, 64, 1073, 1109, 1110, 1111, 1112, 5, 1011, 3, 4, 1007, 1084, 1085, 48, 1086, 51, 52, 49, 50, 1100020, 1100021, 1100022, 1113, 1107, 67, 1100032] S (sv_sts (sv_sts S [1076, 41, 42, 43, 44, 45, 46, 47, 1075, 1100029] g29) [5, 1011, 3, 4, 1007, 1075] g53) := sv_mod.sts md35 (by decide)
        have h := h r57 hr57 g53 hpo56
        refine sv_istore hM dX12_nativeOf_282 (by decide) rfl ?_
        show sv_T sm_XS sm_cs sm_L sm_sh 6 (q_nativeOf p1 p2 p3 p4 S) 186 284 [(0, .ref 0), (1, sv_I p1), (2, sv_I p2), (3, sv_I p3), (4, sv_I p4), (5, sv_I r6), (6, sv_I r11), (7, sv_I r33), (8, sv_I r57)] [] (sv_sts (sv_sts S [1076, 41, 42, 43, 44, 45, 46, 47, 1075, 1100029] g29) [5, 1011, 3, 4, 1007, 1075] g53)
        refine sv_aload_n hM dX12_nativeOf_284 rfl rfl ?_
        have k60 : (0 ≤ (g53 1075 0) ∧ (g53 1075 0) ≤ 1) := sm_okZ ok54 sm_r1075 0
        have h := h k60
        refine sv_getI hM dX12_nativeOf_285 sm_fl_794 (sm_a0 _) sm_k75 rfl (x := (g53 1075 0)) rfl ?_
        refine sv_cond_ne hM dX12_nativeOf_288 (sv_R01 k60) (t := 302) rfl rfl (fun hc => ?_) (fun hc => ?_)
        · have h := h.1 (hc)
          have k61 : (0 ≤ r33 → r33 < (g29 1076 0) → ¬ (g29 44 r33) = 3 → sm_VO (g29 44) (g29 1076 0) (g53 1007 0) (7) (r33)) := fun a b e => sm_VO_7 a b e
          have h := h k61
          refine sv_aload_n hM dX12_nativeOf_302 rfl rfl ?_
          refine sv_bipush (d := (7 : Int)) hM dX12_nativeOf_303 rfl rfl ?_
          refine sv_iload hM dX12_nativeOf_305 rfl rfl ?_
          refine sv_callV hM dX12_nativeOf_307 sm_iv_822 (by decide) (sm_a0 _) rfl rfl (Nat.le_of_ble_eq_true rfl) sm_h122 (Nat.le_of_ble_eq_true rfl) (Nat.le_of_ble_eq_true rfl) (F' := 0) (Nat.le_of_ble_eq_true rfl) rfl (t_give_ (7 : Int) r33 (sv_sts (sv_sts S [1076, 41, 42, 43, 44, 45, 46, 47, 1075, 1100029] g29) [5, 1011, 3, 4, 1007, 1075] g53) ok54 (⟨by decide, by decide⟩ : sv_R (7 : Int)) hr33) (fun v S1 hq => ?_)
          obtain ⟨rfl, ok63, md64, hpo65⟩ := hq
          obtain ⟨g62, rfl⟩ : ∃ g, S1 = sv_sts (sv_sts (sv_sts S [1076, 41, 42, 43, 44, 45, 46, 47, 1075, 1100029] g29) [5, 1011, 3, 4, 1007, 1075] g53) [1111, 1112] g := ⟨_, md64.eq⟩
          show sv_T sm_XS sm_cs sm_L sm_sh 6 (q_nativeOf p1 p2 p3 p4 S) 186 310 [(0, .ref 0), (1, sv_I p1), (2, sv_I p2), (3, sv_I p3), (4, sv_I p4), (5, sv_I r6), (6, sv_I r11), (7, sv_I r33), (8, sv_I r57)] [] (sv_sts (sv_sts (sv_sts S [1076, 41, 42, 43, 44, 45, 46, 47, 1075, 1100029] g29) [5, 1011, 3, 4, 1007, 1075] g53) [1111, 1112] g62)
          have md66 : sv_mod [1076, 41, 42, 43, 44, 45, 46, 47, 1075, 1100029, 1092, 60, 58, 57, 63, 64, 1073, 1109, 1110, 1111, 1112, 5, 1011, 3, 4, 1007, 1084, 1085, 48, 1086, 51, 52, 49, 50, 1100020, 1100021, 1100022, 1113, 1107, 67, 1100032] S (sv_sts (sv_sts (sv_sts S [1076, 41, 42, 43, 44, 45, 46, 47, 1075, 1100029] g29) [5, 1011, 3, 4, 1007, 1075] g53) [1111, 1112] g62) := sv_mod.sts md58 (by decide)
          have md67 : sv_mod [1076, 41, 42, 43, 44, 45, 46, 47, 1075, 1100029, 1092, 60, 58, 57, 63, 64, 1073, 1109, 1110, 1111, 1112, 5, 1011, 3, 4, 1007, 1084, 1085, 48, 1086, 51, 52, 49, 50, 1100020, 1100021, 1100022, 1113, 1107, 67, 1100032] S (sv_sts (sv_sts (sv_sts S [1076, 41, 42, 43, 44, 45, 46, 47, 1075, 1100029] g29) [5, 1011, 3, 4, 1007, 1075] g53) [1111, 1112] g62) := sv_mod.sts md59 (by decide)
          have h := h g62 hpo65
          have eS := sv_mod.eq md67
          have hb := J24 (sv_sts (sv_sts (sv_sts S [1076, 41, 42, 43, 44, 45, 46, 47, 1075, 1100029] g29) [5, 1011, 3, 4, 1007, 1075] g53) [1111, 1112] g62) (by rw [← eS]; exact ok63) h
          have hb : sv_T sm_XS sm_cs sm_L sm_sh 6 (q_nativeOf p1 p2 p3 p4 S) 186 310 [(0, .ref 0), (1, sv_I p1), (2, sv_I p2), (3, sv_I p3), (4, sv_I p4), (5, sv_I r6), (6, sv_I r11)] [] (sv_sts (sv_sts (sv_sts S [1076, 41, 42, 43, 44, 45, 46, 47, 1075, 1100029] g29) [5, 1011, 3, 4, 1007, 1075] g53) [1111, 1112] g62) := Eq.mpr (congrArg (fun Z => sv_T sm_XS sm_cs sm_L sm_sh 6 (q_nativeOf p1 p2 p3 p4 S) 186 310 [(0, .ref 0), (1, sv_I p1), (2, sv_I p2), (3, sv_I p3), (4, sv_I p4), (5, sv_I r6), (6, sv_I r11)] [] Z) eS) hb
          exact sv_less (lv := [(0, .ref 0), (1, sv_I p1), (2, sv_I p2), (3, sv_I p3), (4, sv_I p4), (5, sv_I r6), (6, sv_I r11)]) (sv_Sub_cons rfl (sv_Sub_cons rfl (sv_Sub_cons rfl (sv_Sub_cons rfl (sv_Sub_cons rfl (sv_Sub_cons rfl (sv_Sub_cons rfl sv_Sub_nil))))))) hb
        · have h := h.2 (hc)
          refine sv_aload_n hM dX12_nativeOf_291 rfl rfl ?_
          refine sv_iload hM dX12_nativeOf_292 rfl rfl ?_
          refine sv_iconst (d := (3 : Int)) hM dX12_nativeOf_294 rfl rfl ?_
          refine sv_bipush (d := (6 : Int)) hM dX12_nativeOf_295 rfl rfl ?_
          refine sv_iload hM dX12_nativeOf_297 rfl rfl ?_
          obtain ⟨o68, h⟩ := h
          refine sv_callV hM dX12_nativeOf_299 sm_iv_870 (by decide) (sm_a0 _) rfl rfl (Nat.le_of_ble_eq_true rfl) sm_h141 (Nat.le_of_ble_eq_true rfl) (Nat.le_of_ble_eq_true rfl) (F' := 1) (Nat.le_of_ble_eq_true rfl) rfl (t_set_ r33 (3 : Int) (6 : Int) r57 (sv_sts (sv_sts S [1076, 41, 42, 43, 44, 45, 46, 47, 1075, 1100029] g29) [5, 1011, 3, 4, 1007, 1075] g53) ok54 hr33 (⟨by decide, by decide⟩ : sv_R (3 : Int)) (⟨by decide, by decide⟩ : sv_R (6 : Int)) hr57 o68) (fun v S1 hq => ?_)
          obtain ⟨rfl, ok70, md71, hpo72⟩ := hq
          obtain ⟨g69, rfl⟩ : ∃ g, S1 = sv_sts (sv_sts (sv_sts S [1076, 41, 42, 43, 44, 45, 46, 47, 1075, 1100029] g29) [5, 1011, 3, 4, 1007, 1075] g53) [1084, 1085, 48, 1086, 51, 52, 46, 47, 49, 50, 1075, 1100020, 1100021, 1100022] g := ⟨_, md71.eq⟩
          show sv_T sm_XS sm_cs sm_L sm_sh 6 (q_nativeOf p1 p2 p3 p4 S) 186 302 [(0, .ref 0), (1, sv_I p1), (2, sv_I p2), (3, sv_I p3), (4, sv_I p4), (5, sv_I r6), (6, sv_I r11), (7, sv_I r33), (8, sv_I r57)] [] (sv_sts (sv_sts (sv_sts S [1076, 41, 42, 43, 44, 45, 46, 47, 1075, 1100029] g29) [5, 1011, 3, 4, 1007, 1075] g53) [1084, 1085, 48, 1086, 51, 52, 46, 47, 49, 50, 1075, 1100020, 1100021, 1100022] g69)
          have md73 : sv_mod [1076, 41, 42, 43, 44, 45, 46, 47, 1075, 1100029, 1092, 60, 58, 57, 63, 64, 1073, 1109, 1110, 1111, 1112, 5, 1011, 3, 4, 1007, 1084, 1085, 48, 1086, 51, 52, 49, 50, 1100020, 1100021, 1100022, 1113, 1107, 67, 1100032] S (sv_sts (sv_sts (sv_sts S [1076, 41, 42, 43, 44, 45, 46, 47, 1075, 1100029] g29) [5, 1011, 3, 4, 1007, 1075] g53) [1084, 1085, 48, 1086, 51, 52, 46, 47, 49, 50, 1075, 1100020, 1100021, 1100022] g69) := sv_mod.sts md58 (by decide)
          have md74 : sv_mod [1076, 41, 42, 43, 44, 45, 46, 47, 1075, 1100029, 1092, 60, 58, 57, 63, 64, 1073, 1109, 1110, 1111, 1112, 5, 1011, 3, 4, 1007, 1084, 1085, 48, 1086, 51, 52, 49, 50, 1100020, 1100021, 1100022, 1113, 1107, 67, 1100032] S (sv_sts (sv_sts (sv_sts S [1076, 41, 42, 43, 44, 45, 46, 47, 1075, 1100029] g29) [5, 1011, 3, 4, 1007, 1075] g53) [1084, 1085, 48, 1086, 51, 52, 46, 47, 49, 50, 1075, 1100020, 1100021, 1100022] g69) := sv_mod.sts md59 (by decide)
          have h := h g69 hpo72
          have k75 : (0 ≤ r33 → r33 < (g29 1076 0) → ¬ (g29 44 r33) = 3 → sm_VO (g29 44) (g29 1076 0) (g53 1007 0) (7) (r33)) := fun a b e => sm_VO_7 a b e
          have h := h k75
          refine sv_aload_n hM dX12_nativeOf_302 rfl rfl ?_
          refine sv_bipush (d := (7 : Int)) hM dX12_nativeOf_303 rfl rfl ?_
          refine sv_iload hM dX12_nativeOf_305 rfl rfl ?_
          refine sv_callV hM dX12_nativeOf_307 sm_iv_822 (by decide) (sm_a0 _) rfl rfl (Nat.le_of_ble_eq_true rfl) sm_h122 (Nat.le_of_ble_eq_true rfl) (Nat.le_of_ble_eq_true rfl) (F' := 0) (Nat.le_of_ble_eq_true rfl) rfl (t_give_ (7 : Int) r33 (sv_sts (sv_sts (sv_sts S [1076, 41, 42, 43, 44, 45, 46, 47, 1075, 1100029] g29) [5, 1011, 3, 4, 1007, 1075] g53) [1084, 1085, 48, 1086, 51, 52, 46, 47, 49, 50, 1075, 1100020, 1100021, 1100022] g69) ok70 (⟨by decide, by decide⟩ : sv_R (7 : Int)) hr33) (fun v S1 hq => ?_)
          obtain ⟨rfl, ok77, md78, hpo79⟩ := hq
          obtain ⟨g76, rfl⟩ : ∃ g, S1 = sv_sts (sv_sts (sv_sts (sv_sts S [1076, 41, 42, 43, 44, 45, 46, 47, 1075, 1100029] g29) [5, 1011, 3, 4, 1007, 1075] g53) [1084, 1085, 48, 1086, 51, 52, 46, 47, 49, 50, 1075, 1100020, 1100021, 1100022] g69) [1111, 1112] g := ⟨_, md78.eq⟩
          show sv_T sm_XS sm_cs sm_L sm_sh 6 (q_nativeOf p1 p2 p3 p4 S) 186 310 [(0, .ref 0), (1, sv_I p1), (2, sv_I p2), (3, sv_I p3), (4, sv_I p4), (5, sv_I r6), (6, sv_I r11), (7, sv_I r33), (8, sv_I r57)] [] (sv_sts (sv_sts (sv_sts (sv_sts S [1076, 41, 42, 43, 44, 45, 46, 47, 1075, 1100029] g29) [5, 1011, 3, 4, 1007, 1075] g53) [1084, 1085, 48, 1086, 51, 52, 46, 47, 49, 50, 1075, 1100020, 1100021, 1100022] g69) [1111, 1112] g76)
          have md80 : sv_mod [1076, 41, 42, 43, 44, 45, 46, 47, 1075, 1100029, 1092, 60, 58, 57, 63, 64, 1073, 1109, 1110, 1111, 1112, 5, 1011, 3, 4, 1007, 1084, 1085, 48, 1086, 51, 52, 49, 50, 1100020, 1100021, 1100022, 1113, 1107, 67, 1100032] S (sv_sts (sv_sts (sv_sts (sv_sts S [1076, 41, 42, 43, 44, 45, 46, 47, 1075, 1100029] g29) [5, 1011, 3, 4, 1007, 1075] g53) [1084, 1085, 48, 1086, 51, 52, 46, 47, 49, 50, 1075, 1100020, 1100021, 1100022] g69) [1111, 1112] g76) := sv_mod.sts md73 (by decide)
          have md81 : sv_mod [1076, 41, 42, 43, 44, 45, 46, 47, 1075, 1100029, 1092, 60, 58, 57, 63, 64, 1073, 1109, 1110, 1111, 1112, 5, 1011, 3, 4, 1007, 1084, 1085, 48, 1086, 51, 52, 49, 50, 1100020, 1100021, 1100022, 1113, 1107, 67, 1100032] S (sv_sts (sv_sts (sv_sts (sv_sts S [1076, 41, 42, 43, 44, 45, 46, 47, 1075, 1100029] g29) [5, 1011, 3, 4, 1007, 1075] g53) [1084, 1085, 48, 1086, 51, 52, 46, 47, 49, 50, 1075, 1100020, 1100021, 1100022] g69) [1111, 1112] g76) := sv_mod.sts md74 (by decide)
          have h := h g76 hpo79
          have eS := sv_mod.eq md81
          have hb := J24 (sv_sts (sv_sts (sv_sts (sv_sts S [1076, 41, 42, 43, 44, 45, 46, 47, 1075, 1100029] g29) [5, 1011, 3, 4, 1007, 1075] g53) [1084, 1085, 48, 1086, 51, 52, 46, 47, 49, 50, 1075, 1100020, 1100021, 1100022] g69) [1111, 1112] g76) (by rw [← eS]; exact ok77) h
          have hb : sv_T sm_XS sm_cs sm_L sm_sh 6 (q_nativeOf p1 p2 p3 p4 S) 186 310 [(0, .ref 0), (1, sv_I p1), (2, sv_I p2), (3, sv_I p3), (4, sv_I p4), (5, sv_I r6), (6, sv_I r11)] [] (sv_sts (sv_sts (sv_sts (sv_sts S [1076, 41, 42, 43, 44, 45, 46, 47, 1075, 1100029] g29) [5, 1011, 3, 4, 1007, 1075] g53) [1084, 1085, 48, 1086, 51, 52, 46, 47, 49, 50, 1075, 1100020, 1100021, 1100022] g69) [1111, 1112] g76) := Eq.mpr (congrArg (fun Z => sv_T sm_XS sm_cs sm_L sm_sh 6 (q_nativeOf p1 p2 p3 p4 S) 186 310 [(0, .ref 0), (1, sv_I p1), (2, sv_I p2), (3, sv_I p3), (4, sv_I p4), (5, sv_I r6), (6, sv_I r11)] [] Z) eS) hb
          exact sv_less (lv := [(0, .ref 0), (1, sv_I p1), (2, sv_I p2), (3, sv_I p3), (4, sv_I p4), (5, sv_I r6), (6, sv_I r11)]) (sv_Sub_cons rfl (sv_Sub_cons rfl (sv_Sub_cons rfl (sv_Sub_cons rfl (sv_Sub_cons rfl (sv_Sub_cons rfl (sv_Sub_cons rfl sv_Sub_nil))))))) hb
  have J1 : (p1 = (9 : Int)) → sv_T sm_XS sm_cs sm_L sm_sh 6 (q_nativeOf p1 p2 p3 p4 S) 186 84 [(0, .ref 0), (1, sv_I p1), (2, sv_I p2), (3, sv_I p3), (4, sv_I p4), (5, sv_I r6), (6, sv_I r11)] [] S := by
    intro hc
    have h := hS.2.1 hc
    refine sv_aload_n hM dX12_nativeOf_84 rfl rfl ?_
    refine sv_iload hM dX12_nativeOf_85 rfl rfl ?_
    refine sv_iload hM dX12_nativeOf_87 rfl rfl ?_
    obtain ⟨o82, h⟩ := h
    refine sv_callV hM dX12_nativeOf_89 sm_iv_969 (by decide) (sm_a0 _) rfl rfl (Nat.le_of_ble_eq_true rfl) sm_h126 (Nat.le_of_ble_eq_true rfl) (Nat.le_of_ble_eq_true rfl) (F' := 3) (Nat.le_of_ble_eq_true rfl) rfl (t_textOf r6 r11 S ok8 hr6 hr11 o82) (fun v S1 hq => ?_)
    obtain ⟨r87, rfl, hr87, ok84, md85, hpo86⟩ := hq
    obtain ⟨g83, rfl⟩ : ∃ g, S1 = sv_sts S [5, 1011, 3, 4, 1007, 1075] g := ⟨_, md85.eq⟩
    show sv_T sm_XS sm_cs sm_L sm_sh 6 (q_nativeOf p1 p2 p3 p4 S) 186 92 [(0, .ref 0), (1, sv_I p1), (2, sv_I p2), (3, sv_I p3), (4, sv_I p4), (5, sv_I r6), (6, sv_I r11)] [sv_I r87] (sv_sts S [5, 1011, 3, 4, 1007, 1075] g83)
    have md88 : sv_mod [1076, 41, 42, 43, 44, 45, 46, 47, 1075, 1100029, 1092, 60, 58, 57, 63, 64, 1073, 1109, 1110, 1111, 1112, 5, 1011, 3, 4, 1007, 1084, 1085, 48, 1086, 51, 52, 49, 50, 1100020, 1100021, 1100022, 1113, 1107, 67, 1100032] S (sv_sts S [5, 1011, 3, 4, 1007, 1075] g83) := sv_mod.sts sv_mod.rf (by decide)
    have md89 : sv_mod [1076, 41, 42, 43, 44, 45, 46, 47, 1075, 1100029, 1092, 60, 58, 57, 63, 64, 1073, 1109, 1110, 1111, 1112, 5, 1011, 3, 4, 1007, 1084, 1085, 48, 1086, 51, 52, 49, 50, 1100020, 1100021, 1100022, 1113, 1107, 67, 1100032] S (sv_sts S [5, 1011, 3, 4, 1007, 1075] g83) := sv_mod.sts (sv_mod.rf (l := [1076, 41, 42, 43, 44, 45, 46, 47, 1075, 1100029, 1092, 60, 58, 57, 63, 64, 1073, 1109, 1110, 1111, 1112, 5, 1011, 3, 4, 1007, 1084, 1085, 48, 1086, 51, 52, 49, 50, 1100020, 1100021, 1100022, 1113, 1107, 67, 1100032]) (S := S)) (by decide)
    have h := h r87 hr87 g83 hpo86
    refine sv_istore hM dX12_nativeOf_92 (by decide) rfl ?_
    show sv_T sm_XS sm_cs sm_L sm_sh 6 (q_nativeOf p1 p2 p3 p4 S) 186 94 [(0, .ref 0), (1, sv_I p1), (2, sv_I p2), (3, sv_I p3), (4, sv_I p4), (5, sv_I r6), (6, sv_I r11), (7, sv_I r87)] [] (sv_sts S [5, 1011, 3, 4, 1007, 1075] g83)
    have J102 : ∀ g90 : sv_S, sm_ok (sv_sts (sv_sts S [5, 1011, 3, 4, 1007, 1075] g83) [1107, 67] g90) → (((g83 1075 0) = 0 → 0 ≤ (g90 1107 0) ∧ (g90 1107 0) ≤ 100 ∧ sm_PT (g90 67) (g90 1107 0) (g83 1007 0)) ∧ 0 ≤ (g90 1107 0) ∧ (g90 1107 0) ≤ 100 ∧ 0 ≤ (g90 1107 0) ∧ (g90 1107 0) ≤ 100 ∧ sm_PT (g90 67) (g90 1107 0) (g83 1007 0)) → sv_T sm_XS sm_cs sm_L sm_sh 6 (q_nativeOf p1 p2 p3 p4 S) 186 131 [(0, .ref 0), (1, sv_I p1), (2, sv_I p2), (3, sv_I p3), (4, sv_I p4), (5, sv_I r6), (6, sv_I r11), (7, sv_I r87)] [] (sv_sts (sv_sts S [5, 1011, 3, 4, 1007, 1075] g83) [1107, 67] g90) := by
      intro  g90 ok91 hin92
      have h := h.1 g90 hin92
      have md93 : sv_mod [1076, 41, 42, 43, 44, 45, 46, 47, 1075, 1100029, 1092, 60, 58, 57, 63, 64, 1073, 1109, 1110, 1111, 1112, 5, 1011, 3, 4, 1007, 1084, 1085, 48, 1086, 51, 52, 49, 50, 1100020, 1100021, 1100022, 1113, 1107, 67, 1100032] S (sv_sts (sv_sts S [5, 1011, 3, 4, 1007, 1075] g83) [1107, 67] g90) := sv_mod.sts md88 (by decide)
      have md94 : sv_mod [1076, 41, 42, 43, 44, 45, 46, 47, 1075, 1100029, 1092, 60, 58, 57, 63, 64, 1073, 1109, 1110, 1111, 1112, 5, 1011, 3, 4, 1007, 1084, 1085, 48, 1086, 51, 52, 49, 50, 1100020, 1100021, 1100022, 1113, 1107, 67, 1100032] S (sv_sts (sv_sts S [5, 1011, 3, 4, 1007, 1075] g83) [1107, 67] g90) := sv_mod.sts md89 (by decide)
      have md95 : sv_mod [1107, 67] (sv_sts S [5, 1011, 3, 4, 1007, 1075] g83) (sv_sts (sv_sts S [5, 1011, 3, 4, 1007, 1075] g83) [1107, 67] g90) := sv_mod.sts sv_mod.rf (by decide)
      refine sv_aload_n hM dX12_nativeOf_131 rfl rfl ?_
      refine sv_iconst (d := (0 : Int)) hM dX12_nativeOf_132 rfl rfl ?_
      refine sv_iconst (d := (0 : Int)) hM dX12_nativeOf_133 rfl rfl ?_
      refine sv_callV hM dX12_nativeOf_134 sm_iv_822 (by decide) (sm_a0 _) rfl rfl (Nat.le_of_ble_eq_true rfl) sm_h122 (Nat.le_of_ble_eq_true rfl) (Nat.le_of_ble_eq_true rfl) (F' := 0) (Nat.le_of_ble_eq_true rfl) rfl (t_give_ (0 : Int) (0 : Int) (sv_sts (sv_sts S [5, 1011, 3, 4, 1007, 1075] g83) [1107, 67] g90) ok91 (⟨by decide, by decide⟩ : sv_R (0 : Int)) (⟨by decide, by decide⟩ : sv_R (0 : Int))) (fun v S1 hq => ?_)
      obtain ⟨rfl, ok97, md98, hpo99⟩ := hq
      obtain ⟨g96, rfl⟩ : ∃ g, S1 = sv_sts (sv_sts (sv_sts S [5, 1011, 3, 4, 1007, 1075] g83) [1107, 67] g90) [1111, 1112] g := ⟨_, md98.eq⟩
      show sv_T sm_XS sm_cs sm_L sm_sh 6 (q_nativeOf p1 p2 p3 p4 S) 186 137 [(0, .ref 0), (1, sv_I p1), (2, sv_I p2), (3, sv_I p3), (4, sv_I p4), (5, sv_I r6), (6, sv_I r11), (7, sv_I r87)] [] (sv_sts (sv_sts (sv_sts S [5, 1011, 3, 4, 1007, 1075] g83) [1107, 67] g90) [1111, 1112] g96)
      have md100 : sv_mod [1076, 41, 42, 43, 44, 45, 46, 47, 1075, 1100029, 1092, 60, 58, 57, 63, 64, 1073, 1109, 1110, 1111, 1112, 5, 1011, 3, 4, 1007, 1084, 1085, 48, 1086, 51, 52, 49, 50, 1100020, 1100021, 1100022, 1113, 1107, 67, 1100032] S (sv_sts (sv_sts (sv_sts S [5, 1011, 3, 4, 1007, 1075] g83) [1107, 67] g90) [1111, 1112] g96) := sv_mod.sts md93 (by decide)
      have md101 : sv_mod [1076, 41, 42, 43, 44, 45, 46, 47, 1075, 1100029, 1092, 60, 58, 57, 63, 64, 1073, 1109, 1110, 1111, 1112, 5, 1011, 3, 4, 1007, 1084, 1085, 48, 1086, 51, 52, 49, 50, 1100020, 1100021, 1100022, 1113, 1107, 67, 1100032] S (sv_sts (sv_sts (sv_sts S [5, 1011, 3, 4, 1007, 1075] g83) [1107, 67] g90) [1111, 1112] g96) := sv_mod.sts md94 (by decide)
      have h := h g96 hpo99
      refine sv_goto hM dX12_nativeOf_137 (pc' := 310) rfl ?_
      have eS := sv_mod.eq md101
      have hb := J24 (sv_sts (sv_sts (sv_sts S [5, 1011, 3, 4, 1007, 1075] g83) [1107, 67] g90) [1111, 1112] g96) (by rw [← eS]; exact ok97) h
      have hb : sv_T sm_XS sm_cs sm_L sm_sh 6 (q_nativeOf p1 p2 p3 p4 S) 186 310 [(0, .ref 0), (1, sv_I p1), (2, sv_I p2), (3, sv_I p3), (4, sv_I p4), (5, sv_I r6), (6, sv_I r11)] [] (sv_sts (sv_sts (sv_sts S [5, 1011, 3, 4, 1007, 1075] g83) [1107, 67] g90) [1111, 1112] g96) := Eq.mpr (congrArg (fun Z => sv_T sm_XS sm_cs sm_L sm_sh 6 (q_nativeOf p1 p2 p3 p4 S) 186 310 [(0, .ref 0), (1, sv_I p1), (2, sv_I p2), (3, sv_I p3), (4, sv_I p4), (5, sv_I r6), (6, sv_I r11)] [] Z) eS) hb
      exact sv_less (lv := [(0, .ref 0), (1, sv_I p1), (2, sv_I p2), (3, sv_I p3), (4, sv_I p4), (5, sv_I r6), (6, sv_I r11)]) (sv_Sub_cons rfl (sv_Sub_cons rfl (sv_Sub_cons rfl (sv_Sub_cons rfl (sv_Sub_cons rfl (sv_Sub_cons rfl (sv_Sub_cons rfl sv_Sub_nil))))))) hb
    have h := h.2
    refine sv_aload_n hM dX12_nativeOf_94 rfl rfl ?_
    have k103 : (0 ≤ (g83 1075 0) ∧ (g83 1075 0) ≤ 1) := sm_okZ ok84 sm_r1075 0
    have h := h k103
    refine sv_getI hM dX12_nativeOf_95 sm_fl_794 (sm_a0 _) sm_k75 rfl (x := (g83 1075 0)) rfl ?_
    refine sv_cond_ne hM dX12_nativeOf_98 (sv_R01 k103) (t := 131) rfl rfl (fun hc => ?_) (fun hc => ?_)
    · have h := h.1 (hc)
      have eS := sv_mod.eq (sv_mod.rf (l := [1107, 67]) (S := (sv_sts S [5, 1011, 3, 4, 1007, 1075] g83)))
      have hb := J102 (sv_sts S [5, 1011, 3, 4, 1007, 1075] g83) (by rw [← eS]; exact ok84) h
      have hb : sv_T sm_XS sm_cs sm_L sm_sh 6 (q_nativeOf p1 p2 p3 p4 S) 186 131 [(0, .ref 0), (1, sv_I p1), (2, sv_I p2), (3, sv_I p3), (4, sv_I p4), (5, sv_I r6), (6, sv_I r11), (7, sv_I r87)] [] (sv_sts S [5, 1011, 3, 4, 1007, 1075] g83) := Eq.mpr (congrArg (fun Z => sv_T sm_XS sm_cs sm_L sm_sh 6 (q_nativeOf p1 p2 p3 p4 S) 186 131 [(0, .ref 0), (1, sv_I p1), (2, sv_I p2), (3, sv_I p3), (4, sv_I p4), (5, sv_I r6), (6, sv_I r11), (7, sv_I r87)] [] Z) eS) hb
      exact sv_less (lv := [(0, .ref 0), (1, sv_I p1), (2, sv_I p2), (3, sv_I p3), (4, sv_I p4), (5, sv_I r6), (6, sv_I r11), (7, sv_I r87)]) (sv_Sub_cons rfl (sv_Sub_cons rfl (sv_Sub_cons rfl (sv_Sub_cons rfl (sv_Sub_cons rfl (sv_Sub_cons rfl (sv_Sub_cons rfl (sv_Sub_cons rfl sv_Sub_nil)))))))) hb
    · have h := h.2 (hc)
      refine sv_aload_n hM dX12_nativeOf_101 rfl rfl ?_
      have k104 : sv_R (S 1107 0) := sm_okI ok84 sm_r1107 0
      have h := h k104
      refine sv_getI hM dX12_nativeOf_102 sm_fl_864 (sm_a0 _) sm_k107 rfl (x := (S 1107 0)) rfl ?_
      refine sv_bipush (d := (100 : Int)) hM dX12_nativeOf_105 rfl rfl ?_
      refine sv_icmp_ge hM dX12_nativeOf_107 k104 (⟨by decide, by decide⟩ : sv_R (100 : Int)) (t := 131) rfl rfl (fun hc => ?_) (fun hc => ?_)
      · have h := h.1 (hc)
        have eS := sv_mod.eq (sv_mod.rf (l := [1107, 67]) (S := (sv_sts S [5, 1011, 3, 4, 1007, 1075] g83)))
        have hb := J102 (sv_sts S [5, 1011, 3, 4, 1007, 1075] g83) (by rw [← eS]; exact ok84) h
        have hb : sv_T sm_XS sm_cs sm_L sm_sh 6 (q_nativeOf p1 p2 p3 p4 S) 186 131 [(0, .ref 0), (1, sv_I p1), (2, sv_I p2), (3, sv_I p3), (4, sv_I p4), (5, sv_I r6), (6, sv_I r11), (7, sv_I r87)] [] (sv_sts S [5, 1011, 3, 4, 1007, 1075] g83) := Eq.mpr (congrArg (fun Z => sv_T sm_XS sm_cs sm_L sm_sh 6 (q_nativeOf p1 p2 p3 p4 S) 186 131 [(0, .ref 0), (1, sv_I p1), (2, sv_I p2), (3, sv_I p3), (4, sv_I p4), (5, sv_I r6), (6, sv_I r11), (7, sv_I r87)] [] Z) eS) hb
        exact sv_less (lv := [(0, .ref 0), (1, sv_I p1), (2, sv_I p2), (3, sv_I p3), (4, sv_I p4), (5, sv_I r6), (6, sv_I r11), (7, sv_I r87)]) (sv_Sub_cons rfl (sv_Sub_cons rfl (sv_Sub_cons rfl (sv_Sub_cons rfl (sv_Sub_cons rfl (sv_Sub_cons rfl (sv_Sub_cons rfl (sv_Sub_cons rfl sv_Sub_nil)))))))) hb
      · have h := h.2 (hc)
        refine sv_aload_n hM dX12_nativeOf_110 rfl rfl ?_
        refine sv_getA hM dX12_nativeOf_111 sm_fl_212 (sm_a0 _) sm_k108 rfl ?_
        refine sv_aload_n hM dX12_nativeOf_114 rfl rfl ?_
        refine sv_getI hM dX12_nativeOf_115 sm_fl_864 (sm_a0 _) sm_k107 rfl (x := (S 1107 0)) rfl ?_
        refine sv_iload hM dX12_nativeOf_118 rfl rfl ?_
        obtain ⟨o105, h⟩ := h
        refine sv_iast sm_X hM dX12_nativeOf_120 (sm_a67 _) (by decide) o105.1 o105.2 rfl ?_
        have ok106 : sm_ok (sv_up (sv_sts S [5, 1011, 3, 4, 1007, 1075] g83) 67 (S 1107 0) r87) := sm_upI ok84 sm_r67 hr87
        have md107 : sv_mod [1076, 41, 42, 43, 44, 45, 46, 47, 1075, 1100029, 1092, 60, 58, 57, 63, 64, 1073, 1109, 1110, 1111, 1112, 5, 1011, 3, 4, 1007, 1084, 1085, 48, 1086, 51, 52, 49, 50, 1100020, 1100021, 1100022, 1113, 1107, 67, 1100032] S (sv_up (sv_sts S [5, 1011, 3, 4, 1007, 1075] g83) 67 (S 1107 0) r87) := sv_mod.up md88 (by decide)
        have md108 : sv_mod [1076, 41, 42, 43, 44, 45, 46, 47, 1075, 1100029, 1092, 60, 58, 57, 63, 64, 1073, 1109, 1110, 1111, 1112, 5, 1011, 3, 4, 1007, 1084, 1085, 48, 1086, 51, 52, 49, 50, 1100020, 1100021, 1100022, 1113, 1107, 67, 1100032] S (sv_up (sv_sts S [5, 1011, 3, 4, 1007, 1075] g83) 67 (S 1107 0) r87) := sv_mod.up md89 (by decide)
        have md109 : sv_mod [1107, 67] (sv_sts S [5, 1011, 3, 4, 1007, 1075] g83) (sv_up (sv_sts S [5, 1011, 3, 4, 1007, 1075] g83) 67 (S 1107 0) r87) := sv_mod.up (sv_mod.rf (l := [1107, 67]) (S := (sv_sts S [5, 1011, 3, 4, 1007, 1075] g83))) (by decide)
        refine sv_aload_n hM dX12_nativeOf_121 rfl rfl ?_
        refine sv_dupA hM dX12_nativeOf_122 rfl ?_
        refine sv_getI hM dX12_nativeOf_123 sm_fl_864 (sm_a0 _) sm_k107 rfl (x := (S 1107 0)) rfl ?_
        refine sv_iconst (d := (1 : Int)) hM dX12_nativeOf_126 rfl rfl ?_
        refine sv_iadd hM dX12_nativeOf_127 rfl ?_
        obtain ⟨o110, h⟩ := h
        refine sv_putI sm_X hM dX12_nativeOf_128 sm_fp_864 (sm_a0 _) sm_q107 (Or.inl rfl) rfl rfl rfl rfl ?_
        have ok111 : sm_ok (sv_up (sv_up (sv_sts S [5, 1011, 3, 4, 1007, 1075] g83) 67 (S 1107 0) r87) 1107 0 ((S 1107 0) + (1 : Int))) := sm_upI ok106 sm_r1107 o110
        have md112 : sv_mod [1076, 41, 42, 43, 44, 45, 46, 47, 1075, 1100029, 1092, 60, 58, 57, 63, 64, 1073, 1109, 1110, 1111, 1112, 5, 1011, 3, 4, 1007, 1084, 1085, 48, 1086, 51, 52, 49, 50, 1100020, 1100021, 1100022, 1113, 1107, 67, 1100032] S (sv_up (sv_up (sv_sts S [5, 1011, 3, 4, 1007, 1075] g83) 67 (S 1107 0) r87) 1107 0 ((S 1107 0) + (1 : Int))) := sv_mod.up md107 (by decide)
        have md113 : sv_mod [1076, 41, 42, 43, 44, 45, 46, 47, 1075, 1100029, 1092, 60, 58, 57, 63, 64, 1073, 1109, 1110, 1111, 1112, 5, 1011, 3, 4, 1007, 1084, 1085, 48, 1086, 51, 52, 49, 50, 1100020, 1100021, 1100022, 1113, 1107, 67, 1100032] S (sv_up (sv_up (sv_sts S [5, 1011, 3, 4, 1007, 1075] g83) 67 (S 1107 0) r87) 1107 0 ((S 1107 0) + (1 : Int))) := sv_mod.up md108 (by decide)
        have md114 : sv_mod [1107, 67] (sv_sts S [5, 1011, 3, 4, 1007, 1075] g83) (sv_up (sv_up (sv_sts S [5, 1011, 3, 4, 1007, 1075] g83) 67 (S 1107 0) r87) 1107 0 ((S 1107 0) + (1 : Int))) := sv_mod.up md109 (by decide)
        have eS := sv_mod.eq md114
        have hb := J102 (sv_up (sv_up (sv_sts S [5, 1011, 3, 4, 1007, 1075] g83) 67 (S 1107 0) r87) 1107 0 ((S 1107 0) + (1 : Int))) (by rw [← eS]; exact ok111) h
        have hb : sv_T sm_XS sm_cs sm_L sm_sh 6 (q_nativeOf p1 p2 p3 p4 S) 186 131 [(0, .ref 0), (1, sv_I p1), (2, sv_I p2), (3, sv_I p3), (4, sv_I p4), (5, sv_I r6), (6, sv_I r11), (7, sv_I r87)] [] (sv_up (sv_up (sv_sts S [5, 1011, 3, 4, 1007, 1075] g83) 67 (S 1107 0) r87) 1107 0 ((S 1107 0) + (1 : Int))) := Eq.mpr (congrArg (fun Z => sv_T sm_XS sm_cs sm_L sm_sh 6 (q_nativeOf p1 p2 p3 p4 S) 186 131 [(0, .ref 0), (1, sv_I p1), (2, sv_I p2), (3, sv_I p3), (4, sv_I p4), (5, sv_I r6), (6, sv_I r11), (7, sv_I r87)] [] Z) eS) hb
        exact sv_less (lv := [(0, .ref 0), (1, sv_I p1), (2, sv_I p2), (3, sv_I p3), (4, sv_I p4), (5, sv_I r6), (6, sv_I r11), (7, sv_I r87)]) (sv_Sub_cons rfl (sv_Sub_cons rfl (sv_Sub_cons rfl (sv_Sub_cons rfl (sv_Sub_cons rfl (sv_Sub_cons rfl (sv_Sub_cons rfl (sv_Sub_cons rfl sv_Sub_nil)))))))) hb
  have J2 : (p1 = (10 : Int)) → sv_T sm_XS sm_cs sm_L sm_sh 6 (q_nativeOf p1 p2 p3 p4 S) 186 140 [(0, .ref 0), (1, sv_I p1), (2, sv_I p2), (3, sv_I p3), (4, sv_I p4), (5, sv_I r6), (6, sv_I r11)] [] S := by
    intro hc
    have h := hS.2.2.1 hc
    refine sv_aload_n hM dX12_nativeOf_140 rfl rfl ?_
    refine sv_bipush (d := (7 : Int)) hM dX12_nativeOf_141 rfl rfl ?_
    refine sv_aload_n hM dX12_nativeOf_143 rfl rfl ?_
    refine sv_iconst (d := (1 : Int)) hM dX12_nativeOf_144 rfl rfl ?_
    refine sv_bipush (d := (23 : Int)) hM dX12_nativeOf_145 rfl rfl ?_
    refine sv_iconst (d := (0 : Int)) hM dX12_nativeOf_147 rfl rfl ?_
    obtain ⟨o115, h⟩ := h
    refine sv_callV hM dX12_nativeOf_148 sm_iv_858 (by decide) (sm_a0 _) rfl rfl (Nat.le_of_ble_eq_true rfl) sm_h139 (Nat.le_of_ble_eq_true rfl) (Nat.le_of_ble_eq_true rfl) (F' := 0) (Nat.le_of_ble_eq_true rfl) rfl (t_newObject (1 : Int) (23 : Int) (0 : Int) S ok8 (⟨by decide, by decide⟩ : sv_R (1 : Int)) (⟨by decide, by decide⟩ : sv_R (23 : Int)) (⟨by decide, by decide⟩ : sv_R (0 : Int)) o115) (fun v S1 hq => ?_)
    obtain ⟨r120, rfl, hr120, ok117, md118, hpo119⟩ := hq
    obtain ⟨g116, rfl⟩ : ∃ g, S1 = sv_sts S [1076, 41, 42, 43, 44, 45, 46, 47, 1075, 1100029] g := ⟨_, md118.eq⟩
    show sv_T sm_XS sm_cs sm_L sm_sh 6 (q_nativeOf p1 p2 p3 p4 S) 186 151 [(0, .ref 0), (1, sv_I p1), (2, sv_I p2), (3, sv_I p3), (4, sv_I p4), (5, sv_I r6), (6, sv_I r11)] [sv_I r120, sv_I (7 : Int), .ref 0] (sv_sts S [1076, 41, 42, 43, 44, 45, 46, 47, 1075, 1100029] g116)
    have md121 : sv_mod [1076, 41, 42, 43, 44, 45, 46, 47, 1075, 1100029, 1092, 60, 58, 57, 63, 64, 1073, 1109, 1110, 1111, 1112, 5, 1011, 3, 4, 1007, 1084, 1085, 48, 1086, 51, 52, 49, 50, 1100020, 1100021, 1100022, 1113, 1107, 67, 1100032] S (sv_sts S [1076, 41, 42, 43, 44, 45, 46, 47, 1075, 1100029] g116) := sv_mod.sts sv_mod.rf (by decide)
    have md122 : sv_mod [1076, 41, 42, 43, 44, 45, 46, 47, 1075, 1100029, 1092, 60, 58, 57, 63, 64, 1073, 1109, 1110, 1111, 1112, 5, 1011, 3, 4, 1007, 1084, 1085, 48, 1086, 51, 52, 49, 50, 1100020, 1100021, 1100022, 1113, 1107, 67, 1100032] S (sv_sts S [1076, 41, 42, 43, 44, 45, 46, 47, 1075, 1100029] g116) := sv_mod.sts (sv_mod.rf (l := [1076, 41, 42, 43, 44, 45, 46, 47, 1075, 1100029, 1092, 60, 58, 57, 63, 64, 1073, 1109, 1110, 1111, 1112, 5, 1011, 3, 4, 1007, 1084, 1085, 48, 1086, 51, 52, 49, 50, 1100020, 1100021, 1100022, 1113, 1107, 67, 1100032]) (S := S)) (by decide)
    have h := h r120 hr120 g116 hpo119
    have k123 : (0 ≤ r120 → r120 < (g116 1076 0) → ¬ (g116 44 r120) = 3 → sm_VO (g116 44) (g116 1076 0) (S 1007 0) (7) (r120)) := fun a b e => sm_VO_7 a b e
    have h := h k123
    refine sv_callV hM dX12_nativeOf_151 sm_iv_822 (by decide) (sm_a0 _) rfl rfl (Nat.le_of_ble_eq_true rfl) sm_h122 (Nat.le_of_ble_eq_true rfl) (Nat.le_of_ble_eq_true rfl) (F' := 0) (Nat.le_of_ble_eq_true rfl) rfl (t_give_ (7 : Int) r120 (sv_sts S [1076, 41, 42, 43, 44, 45, 46, 47, 1075, 1100029] g116) ok117 (⟨by decide, by decide⟩ : sv_R (7 : Int)) hr120) (fun v S1 hq => ?_)
    obtain ⟨rfl, ok125, md126, hpo127⟩ := hq
    obtain ⟨g124, rfl⟩ : ∃ g, S1 = sv_sts (sv_sts S [1076, 41, 42, 43, 44, 45, 46, 47, 1075, 1100029] g116) [1111, 1112] g := ⟨_, md126.eq⟩
    show sv_T sm_XS sm_cs sm_L sm_sh 6 (q_nativeOf p1 p2 p3 p4 S) 186 154 [(0, .ref 0), (1, sv_I p1), (2, sv_I p2), (3, sv_I p3), (4, sv_I p4), (5, sv_I r6), (6, sv_I r11)] [] (sv_sts (sv_sts S [1076, 41, 42, 43, 44, 45, 46, 47, 1075, 1100029] g116) [1111, 1112] g124)
    have md128 : sv_mod [1076, 41, 42, 43, 44, 45, 46, 47, 1075, 1100029, 1092, 60, 58, 57, 63, 64, 1073, 1109, 1110, 1111, 1112, 5, 1011, 3, 4, 1007, 1084, 1085, 48, 1086, 51, 52, 49, 50, 1100020, 1100021, 1100022, 1113, 1107, 67, 1100032] S (sv_sts (sv_sts S [1076, 41, 42, 43, 44, 45, 46, 47, 1075, 1100029] g116) [1111, 1112] g124) := sv_mod.sts md121 (by decide)
    have md129 : sv_mod [1076, 41, 42, 43, 44, 45, 46, 47, 1075, 1100029, 1092, 60, 58, 57, 63, 64, 1073, 1109, 1110, 1111, 1112, 5, 1011, 3, 4, 1007, 1084, 1085, 48, 1086, 51, 52, 49, 50, 1100020, 1100021, 1100022, 1113, 1107, 67, 1100032] S (sv_sts (sv_sts S [1076, 41, 42, 43, 44, 45, 46, 47, 1075, 1100029] g116) [1111, 1112] g124) := sv_mod.sts md122 (by decide)
    have h := h g124 hpo127
    refine sv_goto hM dX12_nativeOf_154 (pc' := 310) rfl ?_
    have eS := sv_mod.eq md129
    have hb := J24 (sv_sts (sv_sts S [1076, 41, 42, 43, 44, 45, 46, 47, 1075, 1100029] g116) [1111, 1112] g124) (by rw [← eS]; exact ok125) h
    have hb : sv_T sm_XS sm_cs sm_L sm_sh 6 (q_nativeOf p1 p2 p3 p4 S) 186 310 [(0, .ref 0), (1, sv_I p1), (2, sv_I p2), (3, sv_I p3), (4, sv_I p4), (5, sv_I r6), (6, sv_I r11)] [] (sv_sts (sv_sts S [1076, 41, 42, 43, 44, 45, 46, 47, 1075, 1100029] g116) [1111, 1112] g124) := Eq.mpr (congrArg (fun Z => sv_T sm_XS sm_cs sm_L sm_sh 6 (q_nativeOf p1 p2 p3 p4 S) 186 310 [(0, .ref 0), (1, sv_I p1), (2, sv_I p2), (3, sv_I p3), (4, sv_I p4), (5, sv_I r6), (6, sv_I r11)] [] Z) eS) hb
    exact sv_less (lv := [(0, .ref 0), (1, sv_I p1), (2, sv_I p2), (3, sv_I p3), (4, sv_I p4), (5, sv_I r6), (6, sv_I r11)]) (sv_Sub_cons rfl (sv_Sub_cons rfl (sv_Sub_cons rfl (sv_Sub_cons rfl (sv_Sub_cons rfl (sv_Sub_cons rfl (sv_Sub_cons rfl sv_Sub_nil))))))) hb
  have J3 : (p1 = (11 : Int)) → sv_T sm_XS sm_cs sm_L sm_sh 6 (q_nativeOf p1 p2 p3 p4 S) 186 157 [(0, .ref 0), (1, sv_I p1), (2, sv_I p2), (3, sv_I p3), (4, sv_I p4), (5, sv_I r6), (6, sv_I r11)] [] S := by
    intro hc
    have h := hS.2.2.2.1 hc
    refine sv_aload_n hM dX12_nativeOf_157 rfl rfl ?_
    refine sv_bipush (d := (7 : Int)) hM dX12_nativeOf_158 rfl rfl ?_
    refine sv_aload_n hM dX12_nativeOf_160 rfl rfl ?_
    refine sv_bipush (d := (24 : Int)) hM dX12_nativeOf_161 rfl rfl ?_
    obtain ⟨o130, h⟩ := h
    refine sv_callV hM dX12_nativeOf_163 sm_iv_923 (by decide) (sm_a0 _) rfl rfl (Nat.le_of_ble_eq_true rfl) sm_h167 (Nat.le_of_ble_eq_true rfl) (Nat.le_of_ble_eq_true rfl) (F' := 2) (Nat.le_of_ble_eq_true rfl) rfl (t_newArray (24 : Int) S ok8 (⟨by decide, by decide⟩ : sv_R (24 : Int)) o130) (fun v S1 hq => ?_)
    obtain ⟨r135, rfl, hr135, ok132, md133, hpo134⟩ := hq
    obtain ⟨g131, rfl⟩ : ∃ g, S1 = sv_sts S [1076, 41, 42, 43, 44, 45, 46, 47, 1075, 1100029, 1084, 1085, 48, 1086, 51, 52, 49, 50, 1100020, 1100021, 1100022, 1100032] g := ⟨_, md133.eq⟩
    show sv_T sm_XS sm_cs sm_L sm_sh 6 (q_nativeOf p1 p2 p3 p4 S) 186 166 [(0, .ref 0), (1, sv_I p1), (2, sv_I p2), (3, sv_I p3), (4, sv_I p4), (5, sv_I r6), (6, sv_I r11)] [sv_I r135, sv_I (7 : Int), .ref 0] (sv_sts S [1076, 41, 42, 43, 44, 45, 46, 47, 1075, 1100029, 1084, 1085, 48, 1086, 51, 52, 49, 50, 1100020, 1100021, 1100022, 1100032] g131)
    have md136 : sv_mod [1076, 41, 42, 43, 44, 45, 46, 47, 1075, 1100029, 1092, 60, 58, 57, 63, 64, 1073, 1109, 1110, 1111, 1112, 5, 1011, 3, 4, 1007, 1084, 1085, 48, 1086, 51, 52, 49, 50, 1100020, 1100021, 1100022, 1113, 1107, 67, 1100032] S (sv_sts S [1076, 41, 42, 43, 44, 45, 46, 47, 1075, 1100029, 1084, 1085, 48, 1086, 51, 52, 49, 50, 1100020, 1100021, 1100022, 1100032] g131) := sv_mod.sts sv_mod.rf (by decide)
    have md137 : sv_mod [1076, 41, 42, 43, 44, 45, 46, 47, 1075, 1100029, 1092, 60, 58, 57, 63, 64, 1073, 1109, 1110, 1111, 1112, 5, 1011, 3, 4, 1007, 1084, 1085, 48, 1086, 51, 52, 49, 50, 1100020, 1100021, 1100022, 1113, 1107, 67, 1100032] S (sv_sts S [1076, 41, 42, 43, 44, 45, 46, 47, 1075, 1100029, 1084, 1085, 48, 1086, 51, 52, 49, 50, 1100020, 1100021, 1100022, 1100032] g131) := sv_mod.sts (sv_mod.rf (l := [1076, 41, 42, 43, 44, 45, 46, 47, 1075, 1100029, 1092, 60, 58, 57, 63, 64, 1073, 1109, 1110, 1111, 1112, 5, 1011, 3, 4, 1007, 1084, 1085, 48, 1086, 51, 52, 49, 50, 1100020, 1100021, 1100022, 1113, 1107, 67, 1100032]) (S := S)) (by decide)
    have h := h r135 hr135 g131 hpo134
    have k138 : (0 ≤ r135 → r135 < (g131 1076 0) → ¬ (g131 44 r135) = 3 → sm_VO (g131 44) (g131 1076 0) (S 1007 0) (7) (r135)) := fun a b e => sm_VO_7 a b e
    have h := h k138
    refine sv_callV hM dX12_nativeOf_166 sm_iv_822 (by decide) (sm_a0 _) rfl rfl (Nat.le_of_ble_eq_true rfl) sm_h122 (Nat.le_of_ble_eq_true rfl) (Nat.le_of_ble_eq_true rfl) (F' := 0) (Nat.le_of_ble_eq_true rfl) rfl (t_give_ (7 : Int) r135 (sv_sts S [1076, 41, 42, 43, 44, 45, 46, 47, 1075, 1100029, 1084, 1085, 48, 1086, 51, 52, 49, 50, 1100020, 1100021, 1100022, 1100032] g131) ok132 (⟨by decide, by decide⟩ : sv_R (7 : Int)) hr135) (fun v S1 hq => ?_)
    obtain ⟨rfl, ok140, md141, hpo142⟩ := hq
    obtain ⟨g139, rfl⟩ : ∃ g, S1 = sv_sts (sv_sts S [1076, 41, 42, 43, 44, 45, 46, 47, 1075, 1100029, 1084, 1085, 48, 1086, 51, 52, 49, 50, 1100020, 1100021, 1100022, 1100032] g131) [1111, 1112] g := ⟨_, md141.eq⟩
    show sv_T sm_XS sm_cs sm_L sm_sh 6 (q_nativeOf p1 p2 p3 p4 S) 186 169 [(0, .ref 0), (1, sv_I p1), (2, sv_I p2), (3, sv_I p3), (4, sv_I p4), (5, sv_I r6), (6, sv_I r11)] [] (sv_sts (sv_sts S [1076, 41, 42, 43, 44, 45, 46, 47, 1075, 1100029, 1084, 1085, 48, 1086, 51, 52, 49, 50, 1100020, 1100021, 1100022, 1100032] g131) [1111, 1112] g139)
    have md143 : sv_mod [1076, 41, 42, 43, 44, 45, 46, 47, 1075, 1100029, 1092, 60, 58, 57, 63, 64, 1073, 1109, 1110, 1111, 1112, 5, 1011, 3, 4, 1007, 1084, 1085, 48, 1086, 51, 52, 49, 50, 1100020, 1100021, 1100022, 1113, 1107, 67, 1100032] S (sv_sts (sv_sts S [1076, 41, 42, 43, 44, 45, 46, 47, 1075, 1100029, 1084, 1085, 48, 1086, 51, 52, 49, 50, 1100020, 1100021, 1100022, 1100032] g131) [1111, 1112] g139) := sv_mod.sts md136 (by decide)
    have md144 : sv_mod [1076, 41, 42, 43, 44, 45, 46, 47, 1075, 1100029, 1092, 60, 58, 57, 63, 64, 1073, 1109, 1110, 1111, 1112, 5, 1011, 3, 4, 1007, 1084, 1085, 48, 1086, 51, 52, 49, 50, 1100020, 1100021, 1100022, 1113, 1107, 67, 1100032] S (sv_sts (sv_sts S [1076, 41, 42, 43, 44, 45, 46, 47, 1075, 1100029, 1084, 1085, 48, 1086, 51, 52, 49, 50, 1100020, 1100021, 1100022, 1100032] g131) [1111, 1112] g139) := sv_mod.sts md137 (by decide)
    have h := h g139 hpo142
    refine sv_goto hM dX12_nativeOf_169 (pc' := 310) rfl ?_
    have eS := sv_mod.eq md144
    have hb := J24 (sv_sts (sv_sts S [1076, 41, 42, 43, 44, 45, 46, 47, 1075, 1100029, 1084, 1085, 48, 1086, 51, 52, 49, 50, 1100020, 1100021, 1100022, 1100032] g131) [1111, 1112] g139) (by rw [← eS]; exact ok140) h
    have hb : sv_T sm_XS sm_cs sm_L sm_sh 6 (q_nativeOf p1 p2 p3 p4 S) 186 310 [(0, .ref 0), (1, sv_I p1), (2, sv_I p2), (3, sv_I p3), (4, sv_I p4), (5, sv_I r6), (6, sv_I r11)] [] (sv_sts (sv_sts S [1076, 41, 42, 43, 44, 45, 46, 47, 1075, 1100029, 1084, 1085, 48, 1086, 51, 52, 49, 50, 1100020, 1100021, 1100022, 1100032] g131) [1111, 1112] g139) := Eq.mpr (congrArg (fun Z => sv_T sm_XS sm_cs sm_L sm_sh 6 (q_nativeOf p1 p2 p3 p4 S) 186 310 [(0, .ref 0), (1, sv_I p1), (2, sv_I p2), (3, sv_I p3), (4, sv_I p4), (5, sv_I r6), (6, sv_I r11)] [] Z) eS) hb
    exact sv_less (lv := [(0, .ref 0), (1, sv_I p1), (2, sv_I p2), (3, sv_I p3), (4, sv_I p4), (5, sv_I r6), (6, sv_I r11)]) (sv_Sub_cons rfl (sv_Sub_cons rfl (sv_Sub_cons rfl (sv_Sub_cons rfl (sv_Sub_cons rfl (sv_Sub_cons rfl (sv_Sub_cons rfl sv_Sub_nil))))))) hb
  have J4 : (p1 = (12 : Int)) → sv_T sm_XS sm_cs sm_L sm_sh 6 (q_nativeOf p1 p2 p3 p4 S) 186 172 [(0, .ref 0), (1, sv_I p1), (2, sv_I p2), (3, sv_I p3), (4, sv_I p4), (5, sv_I r6), (6, sv_I r11)] [] S := by
    intro hc
    have h := hS.2.2.2.2.1 hc
    refine sv_aload_n hM dX12_nativeOf_172 rfl rfl ?_
    refine sv_bipush (d := (6 : Int)) hM dX12_nativeOf_173 rfl rfl ?_
    refine sv_aload_n hM dX12_nativeOf_175 rfl rfl ?_
    have k145 : sv_R (S 1115 0) := sm_okI ok8 sm_r1115 0
    have h := h k145
    refine sv_getI hM dX12_nativeOf_176 sm_fl_995 (sm_a0 _) sm_k115 rfl (x := (S 1115 0)) rfl ?_
    refine sv_cond_ne hM dX12_nativeOf_179 k145 (t := 187) rfl rfl (fun hc => ?_) (fun hc => ?_)
    · have h := h.1 (hc)
      refine sv_aload_n hM dX12_nativeOf_187 rfl rfl ?_
      refine sv_iload hM dX12_nativeOf_188 rfl rfl ?_
      refine sv_iload hM dX12_nativeOf_190 rfl rfl ?_
      obtain ⟨o146, h⟩ := h
      refine sv_callV hM dX12_nativeOf_192 sm_iv_969 (by decide) (sm_a0 _) rfl rfl (Nat.le_of_ble_eq_true rfl) sm_h126 (Nat.le_of_ble_eq_true rfl) (Nat.le_of_ble_eq_true rfl) (F' := 3) (Nat.le_of_ble_eq_true rfl) rfl (t_textOf r6 r11 S ok8 hr6 hr11 o146) (fun v S1 hq => ?_)
      obtain ⟨r151, rfl, hr151, ok148, md149, hpo150⟩ := hq
      obtain ⟨g147, rfl⟩ : ∃ g, S1 = sv_sts S [5, 1011, 3, 4, 1007, 1075] g := ⟨_, md149.eq⟩
      show sv_T sm_XS sm_cs sm_L sm_sh 6 (q_nativeOf p1 p2 p3 p4 S) 186 195 [(0, .ref 0), (1, sv_I p1), (2, sv_I p2), (3, sv_I p3), (4, sv_I p4), (5, sv_I r6), (6, sv_I r11)] [sv_I r151, sv_I (6 : Int), .ref 0] (sv_sts S [5, 1011, 3, 4, 1007, 1075] g147)
      have md152 : sv_mod [1076, 41, 42, 43, 44, 45, 46, 47, 1075, 1100029, 1092, 60, 58, 57, 63, 64, 1073, 1109, 1110, 1111, 1112, 5, 1011, 3, 4, 1007, 1084, 1085, 48, 1086, 51, 52, 49, 50, 1100020, 1100021, 1100022, 1113, 1107, 67, 1100032] S (sv_sts S [5, 1011, 3, 4, 1007, 1075] g147) := sv_mod.sts sv_mod.rf (by decide)
      have md153 : sv_mod [1076, 41, 42, 43, 44, 45, 46, 47, 1075, 1100029, 1092, 60, 58, 57, 63, 64, 1073, 1109, 1110, 1111, 1112, 5, 1011, 3, 4, 1007, 1084, 1085, 48, 1086, 51, 52, 49, 50, 1100020, 1100021, 1100022, 1113, 1107, 67, 1100032] S (sv_sts S [5, 1011, 3, 4, 1007, 1075] g147) := sv_mod.sts (sv_mod.rf (l := [1076, 41, 42, 43, 44, 45, 46, 47, 1075, 1100029, 1092, 60, 58, 57, 63, 64, 1073, 1109, 1110, 1111, 1112, 5, 1011, 3, 4, 1007, 1084, 1085, 48, 1086, 51, 52, 49, 50, 1100020, 1100021, 1100022, 1113, 1107, 67, 1100032]) (S := S)) (by decide)
      have h := h r151 hr151 g147 hpo150
      refine sv_callV hM dX12_nativeOf_195 sm_iv_822 (by decide) (sm_a0 _) rfl rfl (Nat.le_of_ble_eq_true rfl) sm_h122 (Nat.le_of_ble_eq_true rfl) (Nat.le_of_ble_eq_true rfl) (F' := 0) (Nat.le_of_ble_eq_true rfl) rfl (t_give_ (6 : Int) r151 (sv_sts S [5, 1011, 3, 4, 1007, 1075] g147) ok148 (⟨by decide, by decide⟩ : sv_R (6 : Int)) hr151) (fun v S1 hq => ?_)
      obtain ⟨rfl, ok155, md156, hpo157⟩ := hq
      obtain ⟨g154, rfl⟩ : ∃ g, S1 = sv_sts (sv_sts S [5, 1011, 3, 4, 1007, 1075] g147) [1111, 1112] g := ⟨_, md156.eq⟩
      show sv_T sm_XS sm_cs sm_L sm_sh 6 (q_nativeOf p1 p2 p3 p4 S) 186 198 [(0, .ref 0), (1, sv_I p1), (2, sv_I p2), (3, sv_I p3), (4, sv_I p4), (5, sv_I r6), (6, sv_I r11)] [] (sv_sts (sv_sts S [5, 1011, 3, 4, 1007, 1075] g147) [1111, 1112] g154)
      have md158 : sv_mod [1076, 41, 42, 43, 44, 45, 46, 47, 1075, 1100029, 1092, 60, 58, 57, 63, 64, 1073, 1109, 1110, 1111, 1112, 5, 1011, 3, 4, 1007, 1084, 1085, 48, 1086, 51, 52, 49, 50, 1100020, 1100021, 1100022, 1113, 1107, 67, 1100032] S (sv_sts (sv_sts S [5, 1011, 3, 4, 1007, 1075] g147) [1111, 1112] g154) := sv_mod.sts md152 (by decide)
      have md159 : sv_mod [1076, 41, 42, 43, 44, 45, 46, 47, 1075, 1100029, 1092, 60, 58, 57, 63, 64, 1073, 1109, 1110, 1111, 1112, 5, 1011, 3, 4, 1007, 1084, 1085, 48, 1086, 51, 52, 49, 50, 1100020, 1100021, 1100022, 1113, 1107, 67, 1100032] S (sv_sts (sv_sts S [5, 1011, 3, 4, 1007, 1075] g147) [1111, 1112] g154) := sv_mod.sts md153 (by decide)
      have h := h g154 hpo157
      refine sv_goto hM dX12_nativeOf_198 (pc' := 310) rfl ?_
      have eS := sv_mod.eq md159
      have hb := J24 (sv_sts (sv_sts S [5, 1011, 3, 4, 1007, 1075] g147) [1111, 1112] g154) (by rw [← eS]; exact ok155) h
      have hb : sv_T sm_XS sm_cs sm_L sm_sh 6 (q_nativeOf p1 p2 p3 p4 S) 186 310 [(0, .ref 0), (1, sv_I p1), (2, sv_I p2), (3, sv_I p3), (4, sv_I p4), (5, sv_I r6), (6, sv_I r11)] [] (sv_sts (sv_sts S [5, 1011, 3, 4, 1007, 1075] g147) [1111, 1112] g154) := Eq.mpr (congrArg (fun Z => sv_T sm_XS sm_cs sm_L sm_sh 6 (q_nativeOf p1 p2 p3 p4 S) 186 310 [(0, .ref 0), (1, sv_I p1), (2, sv_I p2), (3, sv_I p3), (4, sv_I p4), (5, sv_I r6), (6, sv_I r11)] [] Z) eS) hb
      exact sv_less (lv := [(0, .ref 0), (1, sv_I p1), (2, sv_I p2), (3, sv_I p3), (4, sv_I p4), (5, sv_I r6), (6, sv_I r11)]) (sv_Sub_cons rfl (sv_Sub_cons rfl (sv_Sub_cons rfl (sv_Sub_cons rfl (sv_Sub_cons rfl (sv_Sub_cons rfl (sv_Sub_cons rfl sv_Sub_nil))))))) hb
    · have h := h.2 (hc)
      refine sv_bipush (d := (30 : Int)) hM dX12_nativeOf_182 rfl rfl ?_
      refine sv_goto hM dX12_nativeOf_184 (pc' := 195) rfl ?_
      refine sv_callV hM dX12_nativeOf_195 sm_iv_822 (by decide) (sm_a0 _) rfl rfl (Nat.le_of_ble_eq_true rfl) sm_h122 (Nat.le_of_ble_eq_true rfl) (Nat.le_of_ble_eq_true rfl) (F' := 0) (Nat.le_of_ble_eq_true rfl) rfl (t_give_ (6 : Int) (30 : Int) S ok8 (⟨by decide, by decide⟩ : sv_R (6 : Int)) (⟨by decide, by decide⟩ : sv_R (30 : Int))) (fun v S1 hq => ?_)
      obtain ⟨rfl, ok161, md162, hpo163⟩ := hq
      obtain ⟨g160, rfl⟩ : ∃ g, S1 = sv_sts S [1111, 1112] g := ⟨_, md162.eq⟩
      show sv_T sm_XS sm_cs sm_L sm_sh 6 (q_nativeOf p1 p2 p3 p4 S) 186 198 [(0, .ref 0), (1, sv_I p1), (2, sv_I p2), (3, sv_I p3), (4, sv_I p4), (5, sv_I r6), (6, sv_I r11)] [] (sv_sts S [1111, 1112] g160)
      have md164 : sv_mod [1076, 41, 42, 43, 44, 45, 46, 47, 1075, 1100029, 1092, 60, 58, 57, 63, 64, 1073, 1109, 1110, 1111, 1112, 5, 1011, 3, 4, 1007, 1084, 1085, 48, 1086, 51, 52, 49, 50, 1100020, 1100021, 1100022, 1113, 1107, 67, 1100032] S (sv_sts S [1111, 1112] g160) := sv_mod.sts sv_mod.rf (by decide)
      have md165 : sv_mod [1076, 41, 42, 43, 44, 45, 46, 47, 1075, 1100029, 1092, 60, 58, 57, 63, 64, 1073, 1109, 1110, 1111, 1112, 5, 1011, 3, 4, 1007, 1084, 1085, 48, 1086, 51, 52, 49, 50, 1100020, 1100021, 1100022, 1113, 1107, 67, 1100032] S (sv_sts S [1111, 1112] g160) := sv_mod.sts (sv_mod.rf (l := [1076, 41, 42, 43, 44, 45, 46, 47, 1075, 1100029, 1092, 60, 58, 57, 63, 64, 1073, 1109, 1110, 1111, 1112, 5, 1011, 3, 4, 1007, 1084, 1085, 48, 1086, 51, 52, 49, 50, 1100020, 1100021, 1100022, 1113, 1107, 67, 1100032]) (S := S)) (by decide)
      have h := h g160 hpo163
      refine sv_goto hM dX12_nativeOf_198 (pc' := 310) rfl ?_
      have eS := sv_mod.eq md165
      have hb := J24 (sv_sts S [1111, 1112] g160) (by rw [← eS]; exact ok161) h
      have hb : sv_T sm_XS sm_cs sm_L sm_sh 6 (q_nativeOf p1 p2 p3 p4 S) 186 310 [(0, .ref 0), (1, sv_I p1), (2, sv_I p2), (3, sv_I p3), (4, sv_I p4), (5, sv_I r6), (6, sv_I r11)] [] (sv_sts S [1111, 1112] g160) := Eq.mpr (congrArg (fun Z => sv_T sm_XS sm_cs sm_L sm_sh 6 (q_nativeOf p1 p2 p3 p4 S) 186 310 [(0, .ref 0), (1, sv_I p1), (2, sv_I p2), (3, sv_I p3), (4, sv_I p4), (5, sv_I r6), (6, sv_I r11)] [] Z) eS) hb
      exact sv_less (lv := [(0, .ref 0), (1, sv_I p1), (2, sv_I p2), (3, sv_I p3), (4, sv_I p4), (5, sv_I r6), (6, sv_I r11)]) (sv_Sub_cons rfl (sv_Sub_cons rfl (sv_Sub_cons rfl (sv_Sub_cons rfl (sv_Sub_cons rfl (sv_Sub_cons rfl (sv_Sub_cons rfl sv_Sub_nil))))))) hb
  have J5 : (p1 = (13 : Int)) → sv_T sm_XS sm_cs sm_L sm_sh 6 (q_nativeOf p1 p2 p3 p4 S) 186 201 [(0, .ref 0), (1, sv_I p1), (2, sv_I p2), (3, sv_I p3), (4, sv_I p4), (5, sv_I r6), (6, sv_I r11)] [] S := by
    intro hc
    have h := hS.2.2.2.2.2.1 hc
    refine sv_aload_n hM dX12_nativeOf_201 rfl rfl ?_
    refine sv_iload hM dX12_nativeOf_202 rfl rfl ?_
    refine sv_iload hM dX12_nativeOf_204 rfl rfl ?_
    obtain ⟨o166, h⟩ := h
    refine sv_callV hM dX12_nativeOf_206 sm_iv_816 (by decide) (sm_a0 _) rfl rfl (Nat.le_of_ble_eq_true rfl) sm_h127 (Nat.le_of_ble_eq_true rfl) (Nat.le_of_ble_eq_true rfl) (F' := 2) (Nat.le_of_ble_eq_true rfl) rfl (t_numberOf r6 r11 S ok8 hr6 hr11 o166) (fun v S1 hq => ?_)
    obtain ⟨r171, rfl, hr171, ok168, md169, hpo170⟩ := hq
    obtain ⟨g167, rfl⟩ : ∃ g, S1 = sv_sts S [1113] g := ⟨_, md169.eq⟩
    show sv_T sm_XS sm_cs sm_L sm_sh 6 (q_nativeOf p1 p2 p3 p4 S) 186 209 [(0, .ref 0), (1, sv_I p1), (2, sv_I p2), (3, sv_I p3), (4, sv_I p4), (5, sv_I r6), (6, sv_I r11)] [sv_I r171] (sv_sts S [1113] g167)
    have md172 : sv_mod [1076, 41, 42, 43, 44, 45, 46, 47, 1075, 1100029, 1092, 60, 58, 57, 63, 64, 1073, 1109, 1110, 1111, 1112, 5, 1011, 3, 4, 1007, 1084, 1085, 48, 1086, 51, 52, 49, 50, 1100020, 1100021, 1100022, 1113, 1107, 67, 1100032] S (sv_sts S [1113] g167) := sv_mod.sts sv_mod.rf (by decide)
    have md173 : sv_mod [1076, 41, 42, 43, 44, 45, 46, 47, 1075, 1100029, 1092, 60, 58, 57, 63, 64, 1073, 1109, 1110, 1111, 1112, 5, 1011, 3, 4, 1007, 1084, 1085, 48, 1086, 51, 52, 49, 50, 1100020, 1100021, 1100022, 1113, 1107, 67, 1100032] S (sv_sts S [1113] g167) := sv_mod.sts (sv_mod.rf (l := [1076, 41, 42, 43, 44, 45, 46, 47, 1075, 1100029, 1092, 60, 58, 57, 63, 64, 1073, 1109, 1110, 1111, 1112, 5, 1011, 3, 4, 1007, 1084, 1085, 48, 1086, 51, 52, 49, 50, 1100020, 1100021, 1100022, 1113, 1107, 67, 1100032]) (S := S)) (by decide)
    have h := h r171 hr171 g167 hpo170
    refine sv_istore hM dX12_nativeOf_209 (by decide) rfl ?_
    show sv_T sm_XS sm_cs sm_L sm_sh 6 (q_nativeOf p1 p2 p3 p4 S) 186 211 [(0, .ref 0), (1, sv_I p1), (2, sv_I p2), (3, sv_I p3), (4, sv_I p4), (5, sv_I r6), (6, sv_I r11), (7, sv_I r171)] [] (sv_sts S [1113] g167)
    refine sv_aload_n hM dX12_nativeOf_211 rfl rfl ?_
    refine sv_aload_n hM dX12_nativeOf_212 rfl rfl ?_
    have k174 : (0 ≤ (g167 1113 0) ∧ (g167 1113 0) ≤ 1) := sm_okZ ok168 sm_r1113 0
    have h := h k174
    refine sv_getI hM dX12_nativeOf_213 sm_fl_806 (sm_a0 _) sm_k113 rfl (x := (g167 1113 0)) rfl ?_
    refine sv_cond_ne hM dX12_nativeOf_216 (sv_R01 k174) (t := 223) rfl rfl (fun hc => ?_) (fun hc => ?_)
    · have h := h.1 (hc)
      refine sv_iconst (d := (0 : Int)) hM dX12_nativeOf_223 rfl rfl ?_
      refine sv_callV hM dX12_nativeOf_224 sm_iv_827 (by decide) (sm_a0 _) rfl rfl (Nat.le_of_ble_eq_true rfl) sm_h134 (Nat.le_of_ble_eq_true rfl) (Nat.le_of_ble_eq_true rfl) (F' := 1) (Nat.le_of_ble_eq_true rfl) rfl (t_truth (0 : Int) (sv_sts S [1113] g167) ok168 (⟨by decide, by decide⟩ : 0 ≤ (0 : Int) ∧ (0 : Int) ≤ 1)) (fun v S1 hq => ?_)
      obtain ⟨rfl, ok176, md177, hpo178⟩ := hq
      obtain ⟨g175, rfl⟩ : ∃ g, S1 = sv_sts (sv_sts S [1113] g167) [1111, 1112] g := ⟨_, md177.eq⟩
      show sv_T sm_XS sm_cs sm_L sm_sh 6 (q_nativeOf p1 p2 p3 p4 S) 186 227 [(0, .ref 0), (1, sv_I p1), (2, sv_I p2), (3, sv_I p3), (4, sv_I p4), (5, sv_I r6), (6, sv_I r11), (7, sv_I r171)] [] (sv_sts (sv_sts S [1113] g167) [1111, 1112] g175)
      have md179 : sv_mod [1076, 41, 42, 43, 44, 45, 46, 47, 1075, 1100029, 1092, 60, 58, 57, 63, 64, 1073, 1109, 1110, 1111, 1112, 5, 1011, 3, 4, 1007, 1084, 1085, 48, 1086, 51, 52, 49, 50, 1100020, 1100021, 1100022, 1113, 1107, 67, 1100032] S (sv_sts (sv_sts S [1113] g167) [1111, 1112] g175) := sv_mod.sts md172 (by decide)
      have md180 : sv_mod [1076, 41, 42, 43, 44, 45, 46, 47, 1075, 1100029, 1092, 60, 58, 57, 63, 64, 1073, 1109, 1110, 1111, 1112, 5, 1011, 3, 4, 1007, 1084, 1085, 48, 1086, 51, 52, 49, 50, 1100020, 1100021, 1100022, 1113, 1107, 67, 1100032] S (sv_sts (sv_sts S [1113] g167) [1111, 1112] g175) := sv_mod.sts md173 (by decide)
      have h := h g175 hpo178
      refine sv_goto hM dX12_nativeOf_227 (pc' := 310) rfl ?_
      have eS := sv_mod.eq md180
      have hb := J24 (sv_sts (sv_sts S [1113] g167) [1111, 1112] g175) (by rw [← eS]; exact ok176) h
      have hb : sv_T sm_XS sm_cs sm_L sm_sh 6 (q_nativeOf p1 p2 p3 p4 S) 186 310 [(0, .ref 0), (1, sv_I p1), (2, sv_I p2), (3, sv_I p3), (4, sv_I p4), (5, sv_I r6), (6, sv_I r11)] [] (sv_sts (sv_sts S [1113] g167) [1111, 1112] g175) := Eq.mpr (congrArg (fun Z => sv_T sm_XS sm_cs sm_L sm_sh 6 (q_nativeOf p1 p2 p3 p4 S) 186 310 [(0, .ref 0), (1, sv_I p1), (2, sv_I p2), (3, sv_I p3), (4, sv_I p4), (5, sv_I r6), (6, sv_I r11)] [] Z) eS) hb
      exact sv_less (lv := [(0, .ref 0), (1, sv_I p1), (2, sv_I p2), (3, sv_I p3), (4, sv_I p4), (5, sv_I r6), (6, sv_I r11)]) (sv_Sub_cons rfl (sv_Sub_cons rfl (sv_Sub_cons rfl (sv_Sub_cons rfl (sv_Sub_cons rfl (sv_Sub_cons rfl (sv_Sub_cons rfl sv_Sub_nil))))))) hb
    · have h := h.2 (hc)
      refine sv_iconst (d := (1 : Int)) hM dX12_nativeOf_219 rfl rfl ?_
      refine sv_goto hM dX12_nativeOf_220 (pc' := 224) rfl ?_
      refine sv_callV hM dX12_nativeOf_224 sm_iv_827 (by decide) (sm_a0 _) rfl rfl (Nat.le_of_ble_eq_true rfl) sm_h134 (Nat.le_of_ble_eq_true rfl) (Nat.le_of_ble_eq_true rfl) (F' := 1) (Nat.le_of_ble_eq_true rfl) rfl (t_truth (1 : Int) (sv_sts S [1113] g167) ok168 (⟨by decide, by decide⟩ : 0 ≤ (1 : Int) ∧ (1 : Int) ≤ 1)) (fun v S1 hq => ?_)
      obtain ⟨rfl, ok182, md183, hpo184⟩ := hq
      obtain ⟨g181, rfl⟩ : ∃ g, S1 = sv_sts (sv_sts S [1113] g167) [1111, 1112] g := ⟨_, md183.eq⟩
      show sv_T sm_XS sm_cs sm_L sm_sh 6 (q_nativeOf p1 p2 p3 p4 S) 186 227 [(0, .ref 0), (1, sv_I p1), (2, sv_I p2), (3, sv_I p3), (4, sv_I p4), (5, sv_I r6), (6, sv_I r11), (7, sv_I r171)] [] (sv_sts (sv_sts S [1113] g167) [1111, 1112] g181)
      have md185 : sv_mod [1076, 41, 42, 43, 44, 45, 46, 47, 1075, 1100029, 1092, 60, 58, 57, 63, 64, 1073, 1109, 1110, 1111, 1112, 5, 1011, 3, 4, 1007, 1084, 1085, 48, 1086, 51, 52, 49, 50, 1100020, 1100021, 1100022, 1113, 1107, 67, 1100032] S (sv_sts (sv_sts S [1113] g167) [1111, 1112] g181) := sv_mod.sts md172 (by decide)
      have md186 : sv_mod [1076, 41, 42, 43, 44, 45, 46, 47, 1075, 1100029, 1092, 60, 58, 57, 63, 64, 1073, 1109, 1110, 1111, 1112, 5, 1011, 3, 4, 1007, 1084, 1085, 48, 1086, 51, 52, 49, 50, 1100020, 1100021, 1100022, 1113, 1107, 67, 1100032] S (sv_sts (sv_sts S [1113] g167) [1111, 1112] g181) := sv_mod.sts md173 (by decide)
      have h := h g181 hpo184
      refine sv_goto hM dX12_nativeOf_227 (pc' := 310) rfl ?_
      have eS := sv_mod.eq md186
      have hb := J24 (sv_sts (sv_sts S [1113] g167) [1111, 1112] g181) (by rw [← eS]; exact ok182) h
      have hb : sv_T sm_XS sm_cs sm_L sm_sh 6 (q_nativeOf p1 p2 p3 p4 S) 186 310 [(0, .ref 0), (1, sv_I p1), (2, sv_I p2), (3, sv_I p3), (4, sv_I p4), (5, sv_I r6), (6, sv_I r11)] [] (sv_sts (sv_sts S [1113] g167) [1111, 1112] g181) := Eq.mpr (congrArg (fun Z => sv_T sm_XS sm_cs sm_L sm_sh 6 (q_nativeOf p1 p2 p3 p4 S) 186 310 [(0, .ref 0), (1, sv_I p1), (2, sv_I p2), (3, sv_I p3), (4, sv_I p4), (5, sv_I r6), (6, sv_I r11)] [] Z) eS) hb
      exact sv_less (lv := [(0, .ref 0), (1, sv_I p1), (2, sv_I p2), (3, sv_I p3), (4, sv_I p4), (5, sv_I r6), (6, sv_I r11)]) (sv_Sub_cons rfl (sv_Sub_cons rfl (sv_Sub_cons rfl (sv_Sub_cons rfl (sv_Sub_cons rfl (sv_Sub_cons rfl (sv_Sub_cons rfl sv_Sub_nil))))))) hb
  have J6 : (p1 = (18 : Int) ∨ p1 = (19 : Int) ∨ p1 = (21 : Int) ∨ p1 = (22 : Int)) → sv_T sm_XS sm_cs sm_L sm_sh 6 (q_nativeOf p1 p2 p3 p4 S) 186 230 [(0, .ref 0), (1, sv_I p1), (2, sv_I p2), (3, sv_I p3), (4, sv_I p4), (5, sv_I r6), (6, sv_I r11)] [] S := by
    intro hc
    have h := hS.2.2.2.2.2.2 hc
    refine sv_aload_n hM dX12_nativeOf_230 rfl rfl ?_
    refine sv_iload_n hM dX12_nativeOf_231 rfl rfl ?_
    refine sv_iload_n hM dX12_nativeOf_232 rfl rfl ?_
    refine sv_iload_n hM dX12_nativeOf_233 rfl rfl ?_
    refine sv_iload hM dX12_nativeOf_234 rfl rfl ?_
    refine sv_iload hM dX12_nativeOf_236 rfl rfl ?_
    obtain ⟨o187, h⟩ := h
    refine sv_callV hM dX12_nativeOf_238 sm_iv_1020 (by decide) (sm_a0 _) rfl rfl (Nat.le_of_ble_eq_true rfl) sm_h187 (Nat.le_of_ble_eq_true rfl) (Nat.le_of_ble_eq_true rfl) (F' := 5) (Nat.le_of_ble_eq_true rfl) rfl (t_nativeWith p1 p2 p3 r6 r11 S ok8 hp1 hp2 hp3 hr6 hr11 o187) (fun v S1 hq => ?_)
    obtain ⟨r192, rfl, hr192, ok189, md190, hpo191⟩ := hq
    obtain ⟨g188, rfl⟩ : ∃ g, S1 = sv_sts S [1076, 41, 42, 43, 44, 45, 46, 47, 1075, 1100029, 1092, 60, 58, 57, 63, 64, 1073, 1109, 1110, 1111, 1112, 5, 1011, 3, 4, 1007, 1084, 1085, 48, 1086, 51, 52, 49, 50, 1100020, 1100021, 1100022, 1113] g := ⟨_, md190.eq⟩
    show sv_T sm_XS sm_cs sm_L sm_sh 6 (q_nativeOf p1 p2 p3 p4 S) 186 241 [(0, .ref 0), (1, sv_I p1), (2, sv_I p2), (3, sv_I p3), (4, sv_I p4), (5, sv_I r6), (6, sv_I r11)] [sv_I r192] (sv_sts S [1076, 41, 42, 43, 44, 45, 46, 47, 1075, 1100029, 1092, 60, 58, 57, 63, 64, 1073, 1109, 1110, 1111, 1112, 5, 1011, 3, 4, 1007, 1084, 1085, 48, 1086, 51, 52, 49, 50, 1100020, 1100021, 1100022, 1113] g188)
    have md193 : sv_mod [1076, 41, 42, 43, 44, 45, 46, 47, 1075, 1100029, 1092, 60, 58, 57, 63, 64, 1073, 1109, 1110, 1111, 1112, 5, 1011, 3, 4, 1007, 1084, 1085, 48, 1086, 51, 52, 49, 50, 1100020, 1100021, 1100022, 1113, 1107, 67, 1100032] S (sv_sts S [1076, 41, 42, 43, 44, 45, 46, 47, 1075, 1100029, 1092, 60, 58, 57, 63, 64, 1073, 1109, 1110, 1111, 1112, 5, 1011, 3, 4, 1007, 1084, 1085, 48, 1086, 51, 52, 49, 50, 1100020, 1100021, 1100022, 1113] g188) := sv_mod.sts sv_mod.rf (by decide)
    have md194 : sv_mod [1076, 41, 42, 43, 44, 45, 46, 47, 1075, 1100029, 1092, 60, 58, 57, 63, 64, 1073, 1109, 1110, 1111, 1112, 5, 1011, 3, 4, 1007, 1084, 1085, 48, 1086, 51, 52, 49, 50, 1100020, 1100021, 1100022, 1113, 1107, 67, 1100032] S (sv_sts S [1076, 41, 42, 43, 44, 45, 46, 47, 1075, 1100029, 1092, 60, 58, 57, 63, 64, 1073, 1109, 1110, 1111, 1112, 5, 1011, 3, 4, 1007, 1084, 1085, 48, 1086, 51, 52, 49, 50, 1100020, 1100021, 1100022, 1113] g188) := sv_mod.sts (sv_mod.rf (l := [1076, 41, 42, 43, 44, 45, 46, 47, 1075, 1100029, 1092, 60, 58, 57, 63, 64, 1073, 1109, 1110, 1111, 1112, 5, 1011, 3, 4, 1007, 1084, 1085, 48, 1086, 51, 52, 49, 50, 1100020, 1100021, 1100022, 1113, 1107, 67, 1100032]) (S := S)) (by decide)
    have h := h r192 hr192 g188 hpo191
    refine sv_cond_ne hM dX12_nativeOf_241 hr192 (t := 310) rfl rfl (fun hc => ?_) (fun hc => ?_)
    · have h := h.1 (hc)
      have eS := sv_mod.eq md194
      have hb := J24 (sv_sts S [1076, 41, 42, 43, 44, 45, 46, 47, 1075, 1100029, 1092, 60, 58, 57, 63, 64, 1073, 1109, 1110, 1111, 1112, 5, 1011, 3, 4, 1007, 1084, 1085, 48, 1086, 51, 52, 49, 50, 1100020, 1100021, 1100022, 1113] g188) (by rw [← eS]; exact ok189) h
      have hb : sv_T sm_XS sm_cs sm_L sm_sh 6 (q_nativeOf p1 p2 p3 p4 S) 186 310 [(0, .ref 0), (1, sv_I p1), (2, sv_I p2), (3, sv_I p3), (4, sv_I p4), (5, sv_I r6), (6, sv_I r11)] [] (sv_sts S [1076, 41, 42, 43, 44, 45, 46, 47, 1075, 1100029, 1092, 60, 58, 57, 63, 64, 1073, 1109, 1110, 1111, 1112, 5, 1011, 3, 4, 1007, 1084, 1085, 48, 1086, 51, 52, 49, 50, 1100020, 1100021, 1100022, 1113] g188) := Eq.mpr (congrArg (fun Z => sv_T sm_XS sm_cs sm_L sm_sh 6 (q_nativeOf p1 p2 p3 p4 S) 186 310 [(0, .ref 0), (1, sv_I p1), (2, sv_I p2), (3, sv_I p3), (4, sv_I p4), (5, sv_I r6), (6, sv_I r11)] [] Z) eS) hb
      exact sv_less (lv := [(0, .ref 0), (1, sv_I p1), (2, sv_I p2), (3, sv_I p3), (4, sv_I p4), (5, sv_I r6), (6, sv_I r11)]) (sv_Sub_cons rfl (sv_Sub_cons rfl (sv_Sub_cons rfl (sv_Sub_cons rfl (sv_Sub_cons rfl (sv_Sub_cons rfl (sv_Sub_cons rfl sv_Sub_nil))))))) hb
    · have h := h.2 (hc)
      exact sv_vret hM dX12_nativeOf_244 rfl ⟨rfl, ok189, md193, h⟩
  refine sv_tsw hM dX12_nativeOf_15 hp1 (t := 245) rfl (fun hc => J0 (by rcases hc with hc | hc; exact Or.inl hc; exact Or.inr (Or.inl hc))) (fun hc => ?_)
  have hv : p1 = (9 : Int) ∨ p1 = (10 : Int) ∨ p1 = (11 : Int) ∨ p1 = (12 : Int) ∨ p1 = (13 : Int) ∨ p1 = (14 : Int) ∨ p1 = (15 : Int) ∨ p1 = (16 : Int) ∨ p1 = (17 : Int) ∨ p1 = (18 : Int) ∨ p1 = (19 : Int) ∨ p1 = (20 : Int) ∨ p1 = (21 : Int) ∨ p1 = (22 : Int) := by omega
  rcases hv with hv | hv | hv | hv | hv | hv | hv | hv | hv | hv | hv | hv | hv | hv
  · exact ⟨69, 84, by rw [hv]; rfl, rfl, J1 (by omega)⟩
  · exact ⟨125, 140, by rw [hv]; rfl, rfl, J2 (by omega)⟩
  · exact ⟨142, 157, by rw [hv]; rfl, rfl, J3 (by omega)⟩
  · exact ⟨157, 172, by rw [hv]; rfl, rfl, J4 (by omega)⟩
  · exact ⟨186, 201, by rw [hv]; rfl, rfl, J5 (by omega)⟩
  · exact ⟨230, 245, by rw [hv]; rfl, rfl, J0 (by omega)⟩
  · exact ⟨230, 245, by rw [hv]; rfl, rfl, J0 (by omega)⟩
  · exact ⟨230, 245, by rw [hv]; rfl, rfl, J0 (by omega)⟩
  · exact ⟨230, 245, by rw [hv]; rfl, rfl, J0 (by omega)⟩
  · exact ⟨215, 230, by rw [hv]; rfl, rfl, J6 (by omega)⟩
  · exact ⟨215, 230, by rw [hv]; rfl, rfl, J6 (by omega)⟩
  · exact ⟨230, 245, by rw [hv]; rfl, rfl, J0 (by omega)⟩
  · exact ⟨215, 230, by rw [hv]; rfl, rfl, J6 (by omega)⟩
  · exact ⟨215, 230, by rw [hv]; rfl, rfl, J6 (by omega)⟩
