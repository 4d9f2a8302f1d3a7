theorem dX12_error_0 : decode cX12_error 0 = .ok (.aload_n 0, 1) := by decide +kernel
theorem dX12_error_1 : decode cX12_error 1 = .ok (.iload_n 1, 1) := by decide +kernel
theorem dX12_error_2 : decode cX12_error 2 = .ok (.iload_n 1, 1) := by decide +kernel
theorem dX12_error_3 : decode cX12_error 3 = .ok (.bipush 20, 2) := by decide +kernel
theorem dX12_error_5 : decode cX12_error 5 = .ok (.iadd, 1) := by decide +kernel
theorem dX12_error_6 : decode cX12_error 6 = .ok (.iconst 0, 1) := by decide +kernel
theorem dX12_error_7 : decode cX12_error 7 = .ok (.invokevirtual 858, 3) := by decide +kernel
theorem dX12_error_10 : decode cX12_error 10 = .ok (.istore_n 2, 1) := by decide +kernel
theorem dX12_error_11 : decode cX12_error 11 = .ok (.aload_n 0, 1) := by decide +kernel
theorem dX12_error_12 : decode cX12_error 12 = .ok (.bipush 7, 2) := by decide +kernel
theorem dX12_error_14 : decode cX12_error 14 = .ok (.iload_n 2, 1) := by decide +kernel
theorem dX12_error_15 : decode cX12_error 15 = .ok (.invokevirtual 897, 3) := by decide +kernel
theorem dX12_error_18 : decode cX12_error 18 = .ok (.return_, 1) := by decide +kernel
theorem dX12_enterFrame_0 : decode cX12_enterFrame 0 = .ok (.aload_n 0, 1) := by decide +kernel
theorem dX12_enterFrame_1 : decode cX12_enterFrame 1 = .ok (.getfield 872, 3) := by decide +kernel
theorem dX12_enterFrame_4 : decode cX12_enterFrame 4 = .ok (.istore 6, 2) := by decide +kernel
theorem dX12_enterFrame_6 : decode cX12_enterFrame 6 = .ok (.aload_n 0, 1) := by decide +kernel
theorem dX12_enterFrame_7 : decode cX12_enterFrame 7 = .ok (.dup, 1) := by decide +kernel
theorem dX12_enterFrame_8 : decode cX12_enterFrame 8 = .ok (.getfield 872, 3) := by decide +kernel
theorem dX12_enterFrame_11 : decode cX12_enterFrame 11 = .ok (.iconst 1, 1) := by decide +kernel
theorem dX12_enterFrame_12 : decode cX12_enterFrame 12 = .ok (.iadd, 1) := by decide +kernel
theorem dX12_enterFrame_13 : decode cX12_enterFrame 13 = .ok (.putfield 872, 3) := by decide +kernel
theorem dX12_enterFrame_16 : decode cX12_enterFrame 16 = .ok (.aload_n 0, 1) := by decide +kernel
theorem dX12_enterFrame_17 : decode cX12_enterFrame 17 = .ok (.getfield 170, 3) := by decide +kernel
theorem dX12_enterFrame_20 : decode cX12_enterFrame 20 = .ok (.iload 6, 2) := by decide +kernel
theorem dX12_enterFrame_22 : decode cX12_enterFrame 22 = .ok (.iload_n 1, 1) := by decide +kernel
theorem dX12_enterFrame_23 : decode cX12_enterFrame 23 = .ok (.iastore, 1) := by decide +kernel
theorem dX12_enterFrame_24 : decode cX12_enterFrame 24 = .ok (.aload_n 0, 1) := by decide +kernel
theorem dX12_enterFrame_25 : decode cX12_enterFrame 25 = .ok (.getfield 173, 3) := by decide +kernel
theorem dX12_enterFrame_28 : decode cX12_enterFrame 28 = .ok (.iload 6, 2) := by decide +kernel
theorem dX12_enterFrame_30 : decode cX12_enterFrame 30 = .ok (.iload_n 2, 1) := by decide +kernel
theorem dX12_enterFrame_31 : decode cX12_enterFrame 31 = .ok (.iastore, 1) := by decide +kernel
theorem dX12_enterFrame_32 : decode cX12_enterFrame 32 = .ok (.aload_n 0, 1) := by decide +kernel
theorem dX12_enterFrame_33 : decode cX12_enterFrame 33 = .ok (.getfield 176, 3) := by decide +kernel
theorem dX12_enterFrame_36 : decode cX12_enterFrame 36 = .ok (.iload 6, 2) := by decide +kernel
theorem dX12_enterFrame_38 : decode cX12_enterFrame 38 = .ok (.iload_n 3, 1) := by decide +kernel
theorem dX12_enterFrame_39 : decode cX12_enterFrame 39 = .ok (.iastore, 1) := by decide +kernel
theorem dX12_enterFrame_40 : decode cX12_enterFrame 40 = .ok (.aload_n 0, 1) := by decide +kernel
theorem dX12_enterFrame_41 : decode cX12_enterFrame 41 = .ok (.getfield 179, 3) := by decide +kernel
theorem dX12_enterFrame_44 : decode cX12_enterFrame 44 = .ok (.iload 6, 2) := by decide +kernel
theorem dX12_enterFrame_46 : decode cX12_enterFrame 46 = .ok (.iload 4, 2) := by decide +kernel
theorem dX12_enterFrame_48 : decode cX12_enterFrame 48 = .ok (.iastore, 1) := by decide +kernel
theorem dX12_enterFrame_49 : decode cX12_enterFrame 49 = .ok (.aload_n 0, 1) := by decide +kernel
theorem dX12_enterFrame_50 : decode cX12_enterFrame 50 = .ok (.getfield 182, 3) := by decide +kernel
theorem dX12_enterFrame_53 : decode cX12_enterFrame 53 = .ok (.iload 6, 2) := by decide +kernel
theorem dX12_enterFrame_55 : decode cX12_enterFrame 55 = .ok (.aload_n 0, 1) := by decide +kernel
theorem dX12_enterFrame_56 : decode cX12_enterFrame 56 = .ok (.getfield 101, 3) := by decide +kernel
theorem dX12_enterFrame_59 : decode cX12_enterFrame 59 = .ok (.iload_n 1, 1) := by decide +kernel
theorem dX12_enterFrame_60 : decode cX12_enterFrame 60 = .ok (.iaload, 1) := by decide +kernel
theorem dX12_enterFrame_61 : decode cX12_enterFrame 61 = .ok (.iastore, 1) := by decide +kernel
theorem dX12_enterFrame_62 : decode cX12_enterFrame 62 = .ok (.aload_n 0, 1) := by decide +kernel
theorem dX12_enterFrame_63 : decode cX12_enterFrame 63 = .ok (.getfield 185, 3) := by decide +kernel
theorem dX12_enterFrame_66 : decode cX12_enterFrame 66 = .ok (.iload 6, 2) := by decide +kernel
theorem dX12_enterFrame_68 : decode cX12_enterFrame 68 = .ok (.iconst 0, 1) := by decide +kernel
theorem dX12_enterFrame_69 : decode cX12_enterFrame 69 = .ok (.iastore, 1) := by decide +kernel
theorem dX12_enterFrame_70 : decode cX12_enterFrame 70 = .ok (.aload_n 0, 1) := by decide +kernel
theorem dX12_enterFrame_71 : decode cX12_enterFrame 71 = .ok (.getfield 188, 3) := by decide +kernel
theorem dX12_enterFrame_74 : decode cX12_enterFrame 74 = .ok (.iload 6, 2) := by decide +kernel
theorem dX12_enterFrame_76 : decode cX12_enterFrame 76 = .ok (.iload 5, 2) := by decide +kernel
theorem dX12_enterFrame_78 : decode cX12_enterFrame 78 = .ok (.iastore, 1) := by decide +kernel
theorem dX12_enterFrame_79 : decode cX12_enterFrame 79 = .ok (.aload_n 0, 1) := by decide +kernel
theorem dX12_enterFrame_80 : decode cX12_enterFrame 80 = .ok (.getfield 191, 3) := by decide +kernel
theorem dX12_enterFrame_83 : decode cX12_enterFrame 83 = .ok (.iload 6, 2) := by decide +kernel
theorem dX12_enterFrame_85 : decode cX12_enterFrame 85 = .ok (.iconst 0, 1) := by decide +kernel
theorem dX12_enterFrame_86 : decode cX12_enterFrame 86 = .ok (.iastore, 1) := by decide +kernel
theorem dX12_enterFrame_87 : decode cX12_enterFrame 87 = .ok (.return_, 1) := by decide +kernel
theorem dX12_scopeAt_0 : decode cX12_scopeAt 0 = .ok (.aload_n 0, 1) := by decide +kernel
theorem dX12_scopeAt_1 : decode cX12_scopeAt 1 = .ok (.getfield 173, 3) := by decide +kernel
theorem dX12_scopeAt_4 : decode cX12_scopeAt 4 = .ok (.aload_n 0, 1) := by decide +kernel
theorem dX12_scopeAt_5 : decode cX12_scopeAt 5 = .ok (.getfield 872, 3) := by decide +kernel
theorem dX12_scopeAt_8 : decode cX12_scopeAt 8 = .ok (.iconst 1, 1) := by decide +kernel
theorem dX12_scopeAt_9 : decode cX12_scopeAt 9 = .ok (.isub, 1) := by decide +kernel
theorem dX12_scopeAt_10 : decode cX12_scopeAt 10 = .ok (.iaload, 1) := by decide +kernel
theorem dX12_scopeAt_11 : decode cX12_scopeAt 11 = .ok (.istore_n 2, 1) := by decide +kernel
theorem dX12_scopeAt_12 : decode cX12_scopeAt 12 = .ok (.iconst 0, 1) := by decide +kernel
theorem dX12_scopeAt_13 : decode cX12_scopeAt 13 = .ok (.istore_n 3, 1) := by decide +kernel
theorem dX12_scopeAt_14 : decode cX12_scopeAt 14 = .ok (.iload_n 3, 1) := by decide +kernel
theorem dX12_scopeAt_15 : decode cX12_scopeAt 15 = .ok (.iload_n 1, 1) := by decide +kernel
theorem dX12_scopeAt_16 : decode cX12_scopeAt 16 = .ok (.if_icmp .ge 16, 3) := by decide +kernel
theorem dX12_scopeAt_19 : decode cX12_scopeAt 19 = .ok (.aload_n 0, 1) := by decide +kernel
theorem dX12_scopeAt_20 : decode cX12_scopeAt 20 = .ok (.getfield 140, 3) := by decide +kernel
theorem dX12_scopeAt_23 : decode cX12_scopeAt 23 = .ok (.iload_n 2, 1) := by decide +kernel
theorem dX12_scopeAt_24 : decode cX12_scopeAt 24 = .ok (.iaload, 1) := by decide +kernel
theorem dX12_scopeAt_25 : decode cX12_scopeAt 25 = .ok (.istore_n 2, 1) := by decide +kernel
theorem dX12_scopeAt_26 : decode cX12_scopeAt 26 = .ok (.iinc 3 1, 3) := by decide +kernel
theorem dX12_scopeAt_29 : decode cX12_scopeAt 29 = .ok (.goto (-15), 3) := by decide +kernel
theorem dX12_scopeAt_32 : decode cX12_scopeAt 32 = .ok (.iload_n 2, 1) := by decide +kernel
theorem dX12_scopeAt_33 : decode cX12_scopeAt 33 = .ok (.ireturn, 1) := by decide +kernel
theorem dX12_under_0 : decode cX12_under 0 = .ok (.aload_n 0, 1) := by decide +kernel
theorem dX12_under_1 : decode cX12_under 1 = .ok (.invokevirtual 879, 3) := by decide +kernel
theorem dX12_under_4 : decode cX12_under 4 = .ok (.istore_n 3, 1) := by decide +kernel
theorem dX12_under_5 : decode cX12_under 5 = .ok (.iconst 0, 1) := by decide +kernel
theorem dX12_under_6 : decode cX12_under 6 = .ok (.istore 4, 2) := by decide +kernel
theorem dX12_under_8 : decode cX12_under 8 = .ok (.iload 4, 2) := by decide +kernel
theorem dX12_under_10 : decode cX12_under 10 = .ok (.iconst 2, 1) := by decide +kernel
theorem dX12_under_11 : decode cX12_under 11 = .ok (.if_icmp .ge 53, 3) := by decide +kernel
theorem dX12_under_14 : decode cX12_under 14 = .ok (.aload_n 0, 1) := by decide +kernel
theorem dX12_under_15 : decode cX12_under 15 = .ok (.getfield 200, 3) := by decide +kernel
theorem dX12_under_18 : decode cX12_under 18 = .ok (.iload_n 3, 1) := by decide +kernel
theorem dX12_under_19 : decode cX12_under 19 = .ok (.iconst 1, 1) := by decide +kernel
theorem dX12_under_20 : decode cX12_under 20 = .ok (.isub, 1) := by decide +kernel
theorem dX12_under_21 : decode cX12_under 21 = .ok (.iload 4, 2) := by decide +kernel
theorem dX12_under_23 : decode cX12_under 23 = .ok (.isub, 1) := by decide +kernel
theorem dX12_under_24 : decode cX12_under 24 = .ok (.aload_n 0, 1) := by decide +kernel
theorem dX12_under_25 : decode cX12_under 25 = .ok (.getfield 200, 3) := by decide +kernel
theorem dX12_under_28 : decode cX12_under 28 = .ok (.iload_n 3, 1) := by decide +kernel
theorem dX12_under_29 : decode cX12_under 29 = .ok (.iconst 2, 1) := by decide +kernel
theorem dX12_under_30 : decode cX12_under 30 = .ok (.isub, 1) := by decide +kernel
theorem dX12_under_31 : decode cX12_under 31 = .ok (.iload 4, 2) := by decide +kernel
theorem dX12_under_33 : decode cX12_under 33 = .ok (.isub, 1) := by decide +kernel
theorem dX12_under_34 : decode cX12_under 34 = .ok (.iaload, 1) := by decide +kernel
theorem dX12_under_35 : decode cX12_under 35 = .ok (.iastore, 1) := by decide +kernel
theorem dX12_under_36 : decode cX12_under 36 = .ok (.aload_n 0, 1) := by decide +kernel
theorem dX12_under_37 : decode cX12_under 37 = .ok (.getfield 203, 3) := by decide +kernel
theorem dX12_under_40 : decode cX12_under 40 = .ok (.iload_n 3, 1) := by decide +kernel
theorem dX12_under_41 : decode cX12_under 41 = .ok (.iconst 1, 1) := by decide +kernel
theorem dX12_under_42 : decode cX12_under 42 = .ok (.isub, 1) := by decide +kernel
theorem dX12_under_43 : decode cX12_under 43 = .ok (.iload 4, 2) := by decide +kernel
theorem dX12_under_45 : decode cX12_under 45 = .ok (.isub, 1) := by decide +kernel
theorem dX12_under_46 : decode cX12_under 46 = .ok (.aload_n 0, 1) := by decide +kernel
theorem dX12_under_47 : decode cX12_under 47 = .ok (.getfield 203, 3) := by decide +kernel
theorem dX12_under_50 : decode cX12_under 50 = .ok (.iload_n 3, 1) := by decide +kernel
theorem dX12_under_51 : decode cX12_under 51 = .ok (.iconst 2, 1) := by decide +kernel
theorem dX12_under_52 : decode cX12_under 52 = .ok (.isub, 1) := by decide +kernel
theorem dX12_under_53 : decode cX12_under 53 = .ok (.iload 4, 2) := by decide +kernel
theorem dX12_under_55 : decode cX12_under 55 = .ok (.isub, 1) := by decide +kernel
theorem dX12_under_56 : decode cX12_under 56 = .ok (.iaload, 1) := by decide +kernel
theorem dX12_under_57 : decode cX12_under 57 = .ok (.iastore, 1) := by decide +kernel
theorem dX12_under_58 : decode cX12_under 58 = .ok (.iinc 4 1, 3) := by decide +kernel
theorem dX12_under_61 : decode cX12_under 61 = .ok (.goto (-53), 3) := by decide +kernel
theorem dX12_under_64 : decode cX12_under 64 = .ok (.aload_n 0, 1) := by decide +kernel
theorem dX12_under_65 : decode cX12_under 65 = .ok (.getfield 200, 3) := by decide +kernel
theorem dX12_under_68 : decode cX12_under 68 = .ok (.iload_n 3, 1) := by decide +kernel
theorem dX12_under_69 : decode cX12_under 69 = .ok (.iconst 3, 1) := by decide +kernel
theorem dX12_under_70 : decode cX12_under 70 = .ok (.isub, 1) := by decide +kernel
theorem dX12_under_71 : decode cX12_under 71 = .ok (.iload_n 1, 1) := by decide +kernel
theorem dX12_under_72 : decode cX12_under 72 = .ok (.iastore, 1) := by decide +kernel
theorem dX12_under_73 : decode cX12_under 73 = .ok (.aload_n 0, 1) := by decide +kernel
theorem dX12_under_74 : decode cX12_under 74 = .ok (.getfield 203, 3) := by decide +kernel
theorem dX12_under_77 : decode cX12_under 77 = .ok (.iload_n 3, 1) := by decide +kernel
theorem dX12_under_78 : decode cX12_under 78 = .ok (.iconst 3, 1) := by decide +kernel
theorem dX12_under_79 : decode cX12_under 79 = .ok (.isub, 1) := by decide +kernel
theorem dX12_under_80 : decode cX12_under 80 = .ok (.iload_n 2, 1) := by decide +kernel
theorem dX12_under_81 : decode cX12_under 81 = .ok (.iastore, 1) := by decide +kernel
theorem dX12_under_82 : decode cX12_under 82 = .ok (.aload_n 0, 1) := by decide +kernel
theorem dX12_under_83 : decode cX12_under 83 = .ok (.iload_n 1, 1) := by decide +kernel
theorem dX12_under_84 : decode cX12_under 84 = .ok (.iload_n 2, 1) := by decide +kernel
theorem dX12_under_85 : decode cX12_under 85 = .ok (.invokevirtual 885, 3) := by decide +kernel
theorem dX12_under_88 : decode cX12_under 88 = .ok (.return_, 1) := by decide +kernel
theorem dX12_get__0 : decode cX12_get_ 0 = .ok (.aload_n 0, 1) := by decide +kernel
theorem dX12_get__1 : decode cX12_get_ 1 = .ok (.iconst 1, 1) := by decide +kernel
theorem dX12_get__2 : decode cX12_get_ 2 = .ok (.invokevirtual 910, 3) := by decide +kernel
theorem dX12_get__5 : decode cX12_get_ 5 = .ok (.istore_n 1, 1) := by decide +kernel
theorem dX12_get__6 : decode cX12_get_ 6 = .ok (.aload_n 0, 1) := by decide +kernel
theorem dX12_get__7 : decode cX12_get_ 7 = .ok (.iconst 1, 1) := by decide +kernel
theorem dX12_get__8 : decode cX12_get_ 8 = .ok (.invokevirtual 913, 3) := by decide +kernel
theorem dX12_get__11 : decode cX12_get_ 11 = .ok (.istore_n 2, 1) := by decide +kernel
theorem dX12_get__12 : decode cX12_get_ 12 = .ok (.aload_n 0, 1) := by decide +kernel
theorem dX12_get__13 : decode cX12_get_ 13 = .ok (.aload_n 0, 1) := by decide +kernel
theorem dX12_get__14 : decode cX12_get_ 14 = .ok (.iconst 0, 1) := by decide +kernel
theorem dX12_get__15 : decode cX12_get_ 15 = .ok (.invokevirtual 910, 3) := by decide +kernel
theorem dX12_get__18 : decode cX12_get_ 18 = .ok (.aload_n 0, 1) := by decide +kernel
theorem dX12_get__19 : decode cX12_get_ 19 = .ok (.iconst 0, 1) := by decide +kernel
theorem dX12_get__20 : decode cX12_get_ 20 = .ok (.invokevirtual 913, 3) := by decide +kernel
theorem dX12_get__23 : decode cX12_get_ 23 = .ok (.invokevirtual 969, 3) := by decide +kernel
theorem dX12_get__26 : decode cX12_get_ 26 = .ok (.istore_n 3, 1) := by decide +kernel
theorem dX12_get__27 : decode cX12_get_ 27 = .ok (.aload_n 0, 1) := by decide +kernel
theorem dX12_get__28 : decode cX12_get_ 28 = .ok (.getfield 794, 3) := by decide +kernel
theorem dX12_get__31 : decode cX12_get_ 31 = .ok (.ifCond .eq 4, 3) := by decide +kernel
theorem dX12_get__34 : decode cX12_get_ 34 = .ok (.return_, 1) := by decide +kernel
theorem dX12_get__35 : decode cX12_get_ 35 = .ok (.iload_n 1, 1) := by decide +kernel
theorem dX12_get__36 : decode cX12_get_ 36 = .ok (.iconst 1, 1) := by decide +kernel
theorem dX12_get__37 : decode cX12_get_ 37 = .ok (.if_icmp .gt 10, 3) := by decide +kernel
theorem dX12_get__40 : decode cX12_get_ 40 = .ok (.aload_n 0, 1) := by decide +kernel
theorem dX12_get__41 : decode cX12_get_ 41 = .ok (.bipush 6, 2) := by decide +kernel
theorem dX12_get__43 : decode cX12_get_ 43 = .ok (.invokevirtual 966, 3) := by decide +kernel
theorem dX12_get__46 : decode cX12_get_ 46 = .ok (.return_, 1) := by decide +kernel
theorem dX12_get__47 : decode cX12_get_ 47 = .ok (.iconst 0, 1) := by decide +kernel
theorem dX12_get__48 : decode cX12_get_ 48 = .ok (.istore 4, 2) := by decide +kernel
theorem dX12_get__50 : decode cX12_get_ 50 = .ok (.iload_n 1, 1) := by decide +kernel
theorem dX12_get__51 : decode cX12_get_ 51 = .ok (.bipush 7, 2) := by decide +kernel
theorem dX12_get__53 : decode cX12_get_ 53 = .ok (.if_icmp .ne 14, 3) := by decide +kernel
theorem dX12_get__56 : decode cX12_get_ 56 = .ok (.aload_n 0, 1) := by decide +kernel
theorem dX12_get__57 : decode cX12_get_ 57 = .ok (.iload_n 2, 1) := by decide +kernel
theorem dX12_get__58 : decode cX12_get_ 58 = .ok (.iload_n 3, 1) := by decide +kernel
theorem dX12_get__59 : decode cX12_get_ 59 = .ok (.invokevirtual 972, 3) := by decide +kernel
theorem dX12_get__62 : decode cX12_get_ 62 = .ok (.istore 4, 2) := by decide +kernel
theorem dX12_get__64 : decode cX12_get_ 64 = .ok (.goto 44, 3) := by decide +kernel
theorem dX12_get__67 : decode cX12_get_ 67 = .ok (.iload_n 1, 1) := by decide +kernel
theorem dX12_get__68 : decode cX12_get_ 68 = .ok (.bipush 6, 2) := by decide +kernel
theorem dX12_get__70 : decode cX12_get_ 70 = .ok (.if_icmp .eq 12, 3) := by decide +kernel
theorem dX12_get__73 : decode cX12_get_ 73 = .ok (.aload_n 0, 1) := by decide +kernel
theorem dX12_get__74 : decode cX12_get_ 74 = .ok (.iconst 0, 1) := by decide +kernel
theorem dX12_get__75 : decode cX12_get_ 75 = .ok (.iconst 0, 1) := by decide +kernel
theorem dX12_get__76 : decode cX12_get_ 76 = .ok (.invokevirtual 822, 3) := by decide +kernel
theorem dX12_get__79 : decode cX12_get_ 79 = .ok (.goto 29, 3) := by decide +kernel
theorem dX12_get__82 : decode cX12_get_ 82 = .ok (.iload_n 3, 1) := by decide +kernel
theorem dX12_get__83 : decode cX12_get_ 83 = .ok (.ifCond .ne 17, 3) := by decide +kernel
theorem dX12_get__86 : decode cX12_get_ 86 = .ok (.aload_n 0, 1) := by decide +kernel
theorem dX12_get__87 : decode cX12_get_ 87 = .ok (.iconst 5, 1) := by decide +kernel
theorem dX12_get__88 : decode cX12_get_ 88 = .ok (.aload_n 0, 1) := by decide +kernel
theorem dX12_get__89 : decode cX12_get_ 89 = .ok (.getfield 20, 3) := by decide +kernel
theorem dX12_get__92 : decode cX12_get_ 92 = .ok (.iload_n 2, 1) := by decide +kernel
theorem dX12_get__93 : decode cX12_get_ 93 = .ok (.iaload, 1) := by decide +kernel
theorem dX12_get__94 : decode cX12_get_ 94 = .ok (.invokevirtual 822, 3) := by decide +kernel
theorem dX12_get__97 : decode cX12_get_ 97 = .ok (.goto 11, 3) := by decide +kernel
theorem dX12_get__100 : decode cX12_get_ 100 = .ok (.aload_n 0, 1) := by decide +kernel
theorem dX12_get__101 : decode cX12_get_ 101 = .ok (.iconst 4, 1) := by decide +kernel
theorem dX12_get__102 : decode cX12_get_ 102 = .ok (.iload_n 3, 1) := by decide +kernel
theorem dX12_get__103 : decode cX12_get_ 103 = .ok (.invokevirtual 972, 3) := by decide +kernel
theorem dX12_get__106 : decode cX12_get_ 106 = .ok (.istore 4, 2) := by decide +kernel
theorem dX12_get__108 : decode cX12_get_ 108 = .ok (.aload_n 0, 1) := by decide +kernel
theorem dX12_get__109 : decode cX12_get_ 109 = .ok (.iconst 2, 1) := by decide +kernel
theorem dX12_get__110 : decode cX12_get_ 110 = .ok (.invokevirtual 904, 3) := by decide +kernel
theorem dX12_get__113 : decode cX12_get_ 113 = .ok (.return_, 1) := by decide +kernel
theorem dX12_within_0 : decode cX12_within 0 = .ok (.aload_n 0, 1) := by decide +kernel
theorem dX12_within_1 : decode cX12_within 1 = .ok (.iload_n 1, 1) := by decide +kernel
theorem dX12_within_2 : decode cX12_within 2 = .ok (.iload_n 2, 1) := by decide +kernel
theorem dX12_within_3 : decode cX12_within 3 = .ok (.invokevirtual 969, 3) := by decide +kernel
theorem dX12_within_6 : decode cX12_within 6 = .ok (.istore 5, 2) := by decide +kernel
theorem dX12_within_8 : decode cX12_within 8 = .ok (.aload_n 0, 1) := by decide +kernel
theorem dX12_within_9 : decode cX12_within 9 = .ok (.getfield 794, 3) := by decide +kernel
theorem dX12_within_12 : decode cX12_within 12 = .ok (.ifCond .eq 4, 3) := by decide +kernel
theorem dX12_within_15 : decode cX12_within 15 = .ok (.return_, 1) := by decide +kernel
theorem dX12_within_16 : decode cX12_within 16 = .ok (.iload_n 3, 1) := by decide +kernel
theorem dX12_within_17 : decode cX12_within 17 = .ok (.bipush 7, 2) := by decide +kernel
theorem dX12_within_19 : decode cX12_within 19 = .ok (.if_icmp .eq 10, 3) := by decide +kernel
theorem dX12_within_22 : decode cX12_within 22 = .ok (.aload_n 0, 1) := by decide +kernel
theorem dX12_within_23 : decode cX12_within 23 = .ok (.bipush 6, 2) := by decide +kernel
theorem dX12_within_25 : decode cX12_within 25 = .ok (.invokevirtual 966, 3) := by decide +kernel
theorem dX12_within_28 : decode cX12_within 28 = .ok (.return_, 1) := by decide +kernel
theorem dX12_within_29 : decode cX12_within 29 = .ok (.aload_n 0, 1) := by decide +kernel
theorem dX12_within_30 : decode cX12_within 30 = .ok (.iload 4, 2) := by decide +kernel
theorem dX12_within_32 : decode cX12_within 32 = .ok (.iload 5, 2) := by decide +kernel
theorem dX12_within_34 : decode cX12_within 34 = .ok (.invokevirtual 972, 3) := by decide +kernel
theorem dX12_within_37 : decode cX12_within 37 = .ok (.istore 6, 2) := by decide +kernel
theorem dX12_within_39 : decode cX12_within 39 = .ok (.aload_n 0, 1) := by decide +kernel
theorem dX12_within_40 : decode cX12_within 40 = .ok (.iload 6, 2) := by decide +kernel
theorem dX12_within_42 : decode cX12_within 42 = .ok (.invokevirtual 827, 3) := by decide +kernel
theorem dX12_within_45 : decode cX12_within 45 = .ok (.aload_n 0, 1) := by decide +kernel
theorem dX12_within_46 : decode cX12_within 46 = .ok (.iconst 2, 1) := by decide +kernel
theorem dX12_within_47 : decode cX12_within 47 = .ok (.invokevirtual 904, 3) := by decide +kernel
theorem dX12_within_50 : decode cX12_within 50 = .ok (.return_, 1) := by decide +kernel
theorem dX12_global_0 : decode cX12_global 0 = .ok (.aload_n 0, 1) := by decide +kernel
theorem dX12_global_1 : decode cX12_global 1 = .ok (.iconst 0, 1) := by decide +kernel
theorem dX12_global_2 : decode cX12_global 2 = .ok (.iload_n 2, 1) := by decide +kernel
theorem dX12_global_3 : decode cX12_global 3 = .ok (.invokevirtual 846, 3) := by decide +kernel
theorem dX12_global_6 : decode cX12_global 6 = .ok (.istore_n 3, 1) := by decide +kernel
theorem dX12_global_7 : decode cX12_global 7 = .ok (.iload_n 3, 1) := by decide +kernel
theorem dX12_global_8 : decode cX12_global 8 = .ok (.iconst (-1), 1) := by decide +kernel
theorem dX12_global_9 : decode cX12_global 9 = .ok (.if_icmp .ne 14, 3) := by decide +kernel
theorem dX12_global_12 : decode cX12_global 12 = .ok (.iload_n 1, 1) := by decide +kernel
theorem dX12_global_13 : decode cX12_global 13 = .ok (.ifCond .eq 10, 3) := by decide +kernel
theorem dX12_global_16 : decode cX12_global 16 = .ok (.aload_n 0, 1) := by decide +kernel
theorem dX12_global_17 : decode cX12_global 17 = .ok (.bipush 7, 2) := by decide +kernel
theorem dX12_global_19 : decode cX12_global 19 = .ok (.invokevirtual 966, 3) := by decide +kernel
theorem dX12_global_22 : decode cX12_global 22 = .ok (.return_, 1) := by decide +kernel
theorem dX12_global_23 : decode cX12_global 23 = .ok (.iload_n 3, 1) := by decide +kernel
theorem dX12_global_24 : decode cX12_global 24 = .ok (.iconst (-1), 1) := by decide +kernel
theorem dX12_global_25 : decode cX12_global 25 = .ok (.if_icmp .ne 14, 3) := by decide +kernel
theorem dX12_global_28 : decode cX12_global 28 = .ok (.aload_n 0, 1) := by decide +kernel
theorem dX12_global_29 : decode cX12_global 29 = .ok (.bipush 6, 2) := by decide +kernel
theorem dX12_global_31 : decode cX12_global 31 = .ok (.bipush 19, 2) := by decide +kernel
theorem dX12_global_33 : decode cX12_global 33 = .ok (.invokevirtual 822, 3) := by decide +kernel
theorem dX12_global_36 : decode cX12_global 36 = .ok (.goto 48, 3) := by decide +kernel
theorem dX12_global_39 : decode cX12_global 39 = .ok (.iload_n 1, 1) := by decide +kernel
theorem dX12_global_40 : decode cX12_global 40 = .ok (.ifCond .eq 22, 3) := by decide +kernel
theorem dX12_global_43 : decode cX12_global 43 = .ok (.aload_n 0, 1) := by decide +kernel
theorem dX12_global_44 : decode cX12_global 44 = .ok (.aload_n 0, 1) := by decide +kernel
theorem dX12_global_45 : decode cX12_global 45 = .ok (.getfield 158, 3) := by decide +kernel
theorem dX12_global_48 : decode cX12_global 48 = .ok (.iload_n 3, 1) := by decide +kernel
theorem dX12_global_49 : decode cX12_global 49 = .ok (.iaload, 1) := by decide +kernel
theorem dX12_global_50 : decode cX12_global 50 = .ok (.aload_n 0, 1) := by decide +kernel
theorem dX12_global_51 : decode cX12_global 51 = .ok (.getfield 161, 3) := by decide +kernel
theorem dX12_global_54 : decode cX12_global 54 = .ok (.iload_n 3, 1) := by decide +kernel
theorem dX12_global_55 : decode cX12_global 55 = .ok (.iaload, 1) := by decide +kernel
theorem dX12_global_56 : decode cX12_global 56 = .ok (.invokevirtual 822, 3) := by decide +kernel
theorem dX12_global_59 : decode cX12_global 59 = .ok (.goto 25, 3) := by decide +kernel
theorem dX12_global_62 : decode cX12_global 62 = .ok (.aload_n 0, 1) := by decide +kernel
theorem dX12_global_63 : decode cX12_global 63 = .ok (.bipush 6, 2) := by decide +kernel
theorem dX12_global_65 : decode cX12_global 65 = .ok (.aload_n 0, 1) := by decide +kernel
theorem dX12_global_66 : decode cX12_global 66 = .ok (.aload_n 0, 1) := by decide +kernel
theorem dX12_global_67 : decode cX12_global 67 = .ok (.getfield 158, 3) := by decide +kernel
theorem dX12_global_70 : decode cX12_global 70 = .ok (.iload_n 3, 1) := by decide +kernel
theorem dX12_global_71 : decode cX12_global 71 = .ok (.iaload, 1) := by decide +kernel
theorem dX12_global_72 : decode cX12_global 72 = .ok (.aload_n 0, 1) := by decide +kernel
theorem dX12_global_73 : decode cX12_global 73 = .ok (.getfield 161, 3) := by decide +kernel
theorem dX12_global_76 : decode cX12_global 76 = .ok (.iload_n 3, 1) := by decide +kernel
theorem dX12_global_77 : decode cX12_global 77 = .ok (.iaload, 1) := by decide +kernel
theorem dX12_global_78 : decode cX12_global 78 = .ok (.invokevirtual 937, 3) := by decide +kernel
theorem dX12_global_81 : decode cX12_global 81 = .ok (.invokevirtual 822, 3) := by decide +kernel
theorem dX12_global_84 : decode cX12_global 84 = .ok (.aload_n 0, 1) := by decide +kernel
theorem dX12_global_85 : decode cX12_global 85 = .ok (.iconst 0, 1) := by decide +kernel
theorem dX12_global_86 : decode cX12_global 86 = .ok (.invokevirtual 904, 3) := by decide +kernel
theorem dX12_global_89 : decode cX12_global 89 = .ok (.return_, 1) := by decide +kernel

def q_error (p1 : Int) (S : sv_S) : Option Value → sv_S → Prop := fun v S' => v = none ∧ sm_ok S' ∧ sv_mod [1076, 41, 42, 43, 44, 45, 46, 47, 1075, 1100029, 1092, 60, 58, 57, 63, 64, 1073, 1109, 1110] S S' ∧ (sm_PL (S' 1100020) (S' 51) (S' 52) (S' 46) (S' 47) (S' 1076 0) (S' 1086 0) ∧ sm_FR (S' 1100020) (S' 52) (S' 1100021) (S' 1100022) (3000 - (S' 1084 0)) (S' 1085 0) ∧ sm_PV (S' 1100020) (S' 48) (S' 49) (S' 50) (S' 44) (S' 1076 0) (S' 1007 0) ∧ sm_AL (S' 1100020) (S' 48) (S' 49) (S' 50) (S' 44) (S' 1076 0) (S' 1100032 0) ∧ sm_SV (S' 1100020) (S' 48) (S' 1100029) (S' 32) (S' 33) (S' 1076 0) (S' 1032 0) ∧ 0 ≤ (S' 1076 0) ∧ (S' 1076 0) ≤ 300 ∧ 0 ≤ (S' 1084 0) ∧ (S' 1084 0) ≤ 3000 ∧ 0 ≤ (S' 1086 0) ∧ sm_SC (S' 1100029) (S' 44) (S' 45) (S' 43) (S' 21) (S' 1076 0) (S' 1032 0) ∧ sm_PO (S' 42) (S' 1076 0) ∧ ((S' 1075 0) = 0 → (S' 1100032 0) = -1 ∧ sm_FO (S' 44) (S' 45) (S' 1076 0)) ∧ 23 ≤ (S' 1076 0) ∧ 31 ≤ (S' 1007 0) ∧ (S' 1007 0) ≤ 400 ∧ sm_LN (S' 4) 400 (S' 1007 0) ∧ (S' 1008 0) ≤ (S' 1007 0) ∧ ((S 1075 0) = 1 → (S' 1075 0) = 1) ∧ 0 ≤ (S' 1092 0) ∧ (S' 1092 0) ≤ 24 ∧ (S 1007 0) ≤ (S' 1007 0) ∧ (¬ (S' 1075 0) = 0 → sm_LX (S' 58) (S' 63) (S' 64) (S' 1092 0) (S' 1076 0)) ∧ ((S' 1075 0) = 0 → (S' 1073 0) = 1 → 1 ≤ (S' 1092 0) ∧ (S' 1092 0) ≤ 24 ∧ 0 ≤ (S' 57 ((S' 1092 0) - 1)) ∧ (S' 57 ((S' 1092 0) - 1)) < (S' 1046 0) ∧ (S' 29 (S' 57 ((S' 1092 0) - 1))) = (S' 53 ((S' 1092 0) - 1)) ∧ 0 ≤ (S' 53 ((S' 1092 0) - 1)) ∧ (S' 53 ((S' 1092 0) - 1)) < (S' 1032 0) ∧ (S' 60 ((S' 1092 0) - 1)) = sm_dp (S' 1100024) (S' 1100023 (S' 57 ((S' 1092 0) - 1))) ∧ sm_TC (S' 61) (S' 62) (S' 27) (S' 1100007) (S' 1100023) (S' 1100024) (40 * ((S' 1092 0) - 1)) (S' 1100023 (S' 57 ((S' 1092 0) - 1))) ∧ sm_LK (S' 1100029) (S' 1076 0) (S' 54 ((S' 1092 0) - 1)) (S' 53 ((S' 1092 0) - 1)) ∧ sm_VO (S' 44) (S' 1076 0) (S' 1007 0) ((S' 55 ((S' 1092 0) - 1))) ((S' 56 ((S' 1092 0) - 1))) ∧ sm_FW (S' 44) (S' 1076 0) (S' 59 ((S' 1092 0) - 1)) ∧ sm_FL (S' 53) (S' 54) (S' 55) (S' 56) (S' 57) (S' 58) (S' 59) (S' 60) (S' 61) (S' 62) (S' 63) (S' 64) (S' 27) (S' 29) (S' 1100007) (S' 1100023) (S' 1100024) (S' 1100025) (S' 26) (S' 1100029) (S' 44) (S' 1046 0) (S' 1032 0) (S' 1076 0) (S' 1007 0) (((S' 1092 0) - 1)) ∧ (S' 58 ((S' 1092 0) - 1)) = (S' 1100007 (S' 57 ((S' 1092 0) - 1))) ∧ sm_SK (S' 63) (S' 64) (S' 44) (S' 1100007) (S' 1100025) (S' 1076 0) (S' 1007 0) (400 * ((S' 1092 0) - 1)) ((S' 58 ((S' 1092 0) - 1))) ((S' 1100025 (S' 57 ((S' 1092 0) - 1))))) ∧ ((S' 1073 0) = 1 ∨ (S' 1092 0) = 0 ∧ (S' 1075 0) = 0 ∧ ((S' 1073 0) = 2 ∨ (S' 1073 0) = 3)) ∧ ((S' 1073 0) = 1 ∨ (S' 1073 0) = 3))
theorem la_error_0 {x0 : Int} (h0 : 6 ≤ x0) (h1 : x0 ≤ 8) : sv_R (x0 + 20) := by omega
theorem la_error_1 {x0 x1 x2 : Int} (h0 : 23 ≤ x0) (h1 : 6 ≤ x1) (h2 : x1 ≤ 8) : (x1 = (-1) ∨ 0 ≤ x1 ∧ x1 < x0 ∨ x0 = 0 ∧ x1 = 1) ∧ (x0 = 1 → x1 = (-1)) ∧ 0 ≤ x1 + 20 ∧ x1 + 20 ≤ 1000 ∧ (0 : Int) ≤ 0 ∧ (0 : Int) ≤ 3 ∧ ((0 : Int) = 2 → x2 = x0) := by omega
theorem la_error_2 {x0 : Int} (h0 : x0 = 0) : ¬ x0 = 1 := by omega
theorem la_error_3 {x0 : Int} : ¬ (0 : Int) = 1 ∨ 9 ≤ x0 ∧ x0 < 23 := by omega
theorem la_error_4 {x0 : Int} (h0 : 23 ≤ x0) : 1 ≤ x0 ∨ x0 = 0 ∧ (0 : Int) = 0 := by omega
theorem la_error_5 {x0 x1 x2 : Int} (h0 : x0 < x1) (h1 : x0 = x2) : ¬ x1 = x2 := by omega
theorem la_error_6 {x0 x1 x2 : Int} (h0 : x0 ≤ 300) (h1 : x1 < x0) (h2 : x1 = x2) : x2 < 300 := by omega
theorem la_error_7 {x0 : Int} : x0 ≤ x0 := by omega
theorem la_error_8 : (0 : Int) ≤ 7 := by omega
theorem la_error_9 : (7 : Int) ≤ 7 := by omega
theorem la_error_10 {x0 x1 : Int} : (7 : Int) = 6 → 0 ≤ x0 ∧ x0 < x1 := by omega
theorem la_error_11 {x0 x1 x2 x3 : Int} (h0 : 23 ≤ x0) (h1 : x1 = x0) (h2 : x2 = x1 + 1) (h3 : x3 = 0) : (7 : Int) = 7 → 0 ≤ x1 ∧ x1 < x2 ∧ ¬ x3 = 3 := by omega
theorem la_error_12 {x0 : Int} (h0 : 1 ≤ x0) : 0 ≤ x0 := by omega
theorem la_error_13 {x0 x1 x2 : Int} (h0 : x0 = x1) (h1 : x2 = x0 + 1) : ¬ x2 = x1 := by omega
theorem la_error_14 {x0 : Int} (h0 : x0 = 0) : ¬ ¬ x0 = 0 := by omega
theorem la_error_15 {x0 x1 : Int} (h0 : 23 ≤ x0) (h1 : x0 ≤ x1) : 23 ≤ x1 := by omega
theorem la_error_16 {x0 x1 : Int} (h0 : x0 ≤ 24) (h1 : x1 ≤ x0) : x1 ≤ 24 := by omega
theorem la_error_17 {x0 x1 x2 : Int} (h0 : x0 = 1) : ¬ (x0 = 3 ∧ x1 = 0 ∧ x2 = 0) := by omega
theorem la_error_18 {x0 x1 x2 x3 x4 x5 x6 x7 x8 x9 x10 x11 x12 x13 : Int} (h0 : x0 = 0) (h1 : x1 = 1) (h2 : x2 ≤ 300) (h3 : x3 < x2) (h4 : x4 = 0 → x3 = x5 ∧ x2 = x3 + 1 ∧ x6 = 0 ∧ x7 = 0 ∧ x8 = 0 ∧ x9 = (-1) ∧ x10 = x11) (h5 : x5 < 300 → x4 = x0 ∧ x2 = x5 + 1) (h6 : x12 = x1 ∨ x12 = 3 ∧ x13 = 0 ∧ x4 = 0) (h7 : 0 ≤ x13) : x12 = 1 ∨ x13 = 0 ∧ x4 = 0 ∧ (x12 = 2 ∨ x12 = 3) := by omega
theorem la_error_19 {x0 x1 x2 x3 : Int} (h0 : x0 = 1) (h1 : x1 = x0 ∨ x1 = 3 ∧ x2 = 0 ∧ x3 = 0) : x1 = 1 ∨ x1 = 3 := by omega
set_option maxHeartbeats 2000000 in
theorem f_error : ∀ (p1 : Int) (S : sv_S), sm_ok S → sv_R p1 → ((S 1075 0) = 0 ∧ (S 1073 0) = 1 ∧ sm_LX (S 58) (S 63) (S 64) (S 1092 0) (S 1076 0) ∧ sm_PL (S 1100020) (S 51) (S 52) (S 46) (S 47) (S 1076 0) (S 1086 0) ∧ sm_FR (S 1100020) (S 52) (S 1100021) (S 1100022) (3000 - (S 1084 0)) (S 1085 0) ∧ sm_PV (S 1100020) (S 48) (S 49) (S 50) (S 44) (S 1076 0) (S 1007 0) ∧ sm_AL (S 1100020) (S 48) (S 49) (S 50) (S 44) (S 1076 0) (S 1100032 0) ∧ sm_SV (S 1100020) (S 48) (S 1100029) (S 32) (S 33) (S 1076 0) (S 1032 0) ∧ 0 ≤ (S 1076 0) ∧ (S 1076 0) ≤ 300 ∧ 0 ≤ (S 1084 0) ∧ (S 1084 0) ≤ 3000 ∧ 0 ≤ (S 1086 0) ∧ sm_SC (S 1100029) (S 44) (S 45) (S 43) (S 21) (S 1076 0) (S 1032 0) ∧ sm_PO (S 42) (S 1076 0) ∧ (S 1100032 0) = -1 ∧ sm_FO (S 44) (S 45) (S 1076 0) ∧ 23 ≤ (S 1076 0) ∧ 31 ≤ (S 1007 0) ∧ (S 1007 0) ≤ 400 ∧ sm_LN (S 4) 400 (S 1007 0) ∧ sm_CT (S 26) (S 27) (S 28) (S 29) (S 1100007) (S 1100023) (S 1100024) (S 1100025) (S 21) (S 1046 0) (S 1032 0) (S 1008 0) (S 1055 0) ∧ sm_LS (S 26) (S 1100007) (S 1100025) (S 1046 0) ∧ sm_CL (S 1100007) (S 1100023) (S 1100025) (S 1046 0) ∧ 1 ≤ (S 1032 0) ∧ (S 1032 0) ≤ 11 ∧ 0 ≤ (S 1046 0) ∧ (S 1046 0) ≤ 600 ∧ 31 ≤ (S 1008 0) ∧ (S 1008 0) ≤ (S 1007 0) ∧ 0 ≤ (S 1055 0) ∧ (S 1055 0) ≤ 19 ∧ 1 ≤ (S 1092 0) ∧ (S 1092 0) ≤ 24 ∧ 0 ≤ (S 57 ((S 1092 0) - 1)) ∧ (S 57 ((S 1092 0) - 1)) < (S 1046 0) ∧ (S 29 (S 57 ((S 1092 0) - 1))) = (S 53 ((S 1092 0) - 1)) ∧ 0 ≤ (S 53 ((S 1092 0) - 1)) ∧ (S 53 ((S 1092 0) - 1)) < (S 1032 0) ∧ (S 60 ((S 1092 0) - 1)) = sm_dp (S 1100024) (S 1100023 (S 57 ((S 1092 0) - 1))) ∧ sm_TC (S 61) (S 62) (S 27) (S 1100007) (S 1100023) (S 1100024) (40 * ((S 1092 0) - 1)) (S 1100023 (S 57 ((S 1092 0) - 1))) ∧ sm_LK (S 1100029) (S 1076 0) (S 54 ((S 1092 0) - 1)) (S 53 ((S 1092 0) - 1)) ∧ sm_VO (S 44) (S 1076 0) (S 1007 0) ((S 55 ((S 1092 0) - 1))) ((S 56 ((S 1092 0) - 1))) ∧ sm_FW (S 44) (S 1076 0) (S 59 ((S 1092 0) - 1)) ∧ sm_FL (S 53) (S 54) (S 55) (S 56) (S 57) (S 58) (S 59) (S 60) (S 61) (S 62) (S 63) (S 64) (S 27) (S 29) (S 1100007) (S 1100023) (S 1100024) (S 1100025) (S 26) (S 1100029) (S 44) (S 1046 0) (S 1032 0) (S 1076 0) (S 1007 0) (((S 1092 0) - 1)) ∧ (S 58 ((S 1092 0) - 1)) = (S 1100007 (S 57 ((S 1092 0) - 1))) ∧ sm_SK (S 63) (S 64) (S 44) (S 1100007) (S 1100025) (S 1076 0) (S 1007 0) (400 * ((S 1092 0) - 1)) ((S 58 ((S 1092 0) - 1))) ((S 1100025 (S 57 ((S 1092 0) - 1)))) ∧ (0 ≤ (S 1100023 (S 57 ((S 1092 0) - 1))) → (S 1100007 (S 1100023 (S 57 ((S 1092 0) - 1)))) ≤ (S 58 ((S 1092 0) - 1))) ∧ 6 ≤ p1 ∧ p1 ≤ 8) → (sv_R (p1 + (20 : Int))) ∧ (sm_PL (S 1100020) (S 51) (S 52) (S 46) (S 47) (S 1076 0) (S 1086 0) ∧ sm_FR (S 1100020) (S 52) (S 1100021) (S 1100022) (3000 - (S 1084 0)) (S 1085 0) ∧ sm_PV (S 1100020) (S 48) (S 49) (S 50) (S 44) (S 1076 0) (S 1007 0) ∧ sm_AL (S 1100020) (S 48) (S 49) (S 50) (S 44) (S 1076 0) (S 1100032 0) ∧ sm_SV (S 1100020) (S 48) (S 1100029) (S 32) (S 33) (S 1076 0) (S 1032 0) ∧ 0 ≤ (S 1076 0) ∧ (S 1076 0) ≤ 300 ∧ 0 ≤ (S 1084 0) ∧ (S 1084 0) ≤ 3000 ∧ 0 ≤ (S 1086 0) ∧ sm_SC (S 1100029) (S 44) (S 45) (S 43) (S 21) (S 1076 0) (S 1032 0) ∧ sm_PO (S 42) (S 1076 0) ∧ (p1 = -1 ∨ (0 ≤ p1 ∧ p1 < (S 1076 0)) ∨ ((S 1076 0) = 0 ∧ p1 = 1)) ∧ ((S 1076 0) = 1 → p1 = -1) ∧ 0 ≤ (p1 + (20 : Int)) ∧ (p1 + (20 : Int)) ≤ 1000 ∧ 0 ≤ (0 : Int) ∧ (0 : Int) ≤ 3 ∧ ((0 : Int) = 2 → (S 1100032 0) = (S 1076 0))) ∧ (∀ r7 : Int, sv_R r7 → ∀ g3 : sv_S, (sm_PL (S 1100020) (S 51) (S 52) (g3 46) (g3 47) (g3 1076 0) (S 1086 0) ∧ sm_FR (S 1100020) (S 52) (S 1100021) (S 1100022) (3000 - (S 1084 0)) (S 1085 0) ∧ sm_PV (S 1100020) (S 48) (S 49) (S 50) (g3 44) (g3 1076 0) (S 1007 0) ∧ sm_AL (S 1100020) (S 48) (S 49) (S 50) (g3 44) (g3 1076 0) (S 1100032 0) ∧ sm_SV (S 1100020) (S 48) (g3 1100029) (S 32) (S 33) (g3 1076 0) (S 1032 0) ∧ 0 ≤ (g3 1076 0) ∧ (g3 1076 0) ≤ 300 ∧ 0 ≤ (S 1084 0) ∧ (S 1084 0) ≤ 3000 ∧ 0 ≤ (S 1086 0) ∧ sm_SC (g3 1100029) (g3 44) (g3 45) (g3 43) (S 21) (g3 1076 0) (S 1032 0) ∧ sm_PO (g3 42) (g3 1076 0) ∧ 0 ≤ r7 ∧ r7 < (g3 1076 0) ∧ ((S 1075 0) = 1 → (g3 1075 0) = 1) ∧ (S 1076 0) ≤ (g3 1076 0) ∧ sm_F1 (S 44) (g3 44) (S 1076 0) ∧ sm_F1 (S 1100029) (g3 1100029) (S 1076 0) ∧ sm_F1 (S 42) (g3 42) (S 1076 0) ∧ sm_F1 (S 43) (g3 43) (S 1076 0) ∧ sm_F1 (S 45) (g3 45) (S 1076 0) ∧ ((g3 1075 0) = 0 → r7 = (S 1076 0) ∧ (g3 1076 0) = r7 + 1 ∧ (g3 44 r7) = (0 : Int) ∧ (g3 1100029 r7) = 0 ∧ (g3 45 r7) = 0 ∧ (g3 43 r7) = -1 ∧ (g3 42 r7) = p1) ∧ ((g3 1076 0) = (S 1076 0) → r7 = 0) ∧ ((g3 1075 0) = 1 → (S 1075 0) = 0 → (g3 1076 0) = (S 1076 0)) ∧ (sm_FO (S 44) (S 45) (S 1076 0) → (¬ (0 : Int) = 1 ∨ (9 ≤ (S 1076 0) ∧ (S 1076 0) < 23)) → (1 ≤ (S 1076 0) ∨ ((S 1076 0) = 0 ∧ (0 : Int) = 0)) → sm_FO (g3 44) (g3 45) (g3 1076 0)) ∧ ((S 1076 0) < 300 → (g3 1075 0) = (S 1075 0) ∧ (g3 1076 0) = (S 1076 0) + 1)) → ((¬ (g3 1075 0) = 0 → sm_LX (S 58) (S 63) (S 64) (S 1092 0) (g3 1076 0)) ∧ ((g3 1075 0) = 0 → 31 ≤ (S 1007 0) ∧ (S 1007 0) ≤ 400 ∧ sm_LN (S 4) 400 (S 1007 0) ∧ sm_CT (S 26) (S 27) (S 28) (S 29) (S 1100007) (S 1100023) (S 1100024) (S 1100025) (S 21) (S 1046 0) (S 1032 0) (S 1008 0) (S 1055 0) ∧ sm_LS (S 26) (S 1100007) (S 1100025) (S 1046 0) ∧ sm_CL (S 1100007) (S 1100023) (S 1100025) (S 1046 0) ∧ 1 ≤ (S 1032 0) ∧ (S 1032 0) ≤ 11 ∧ 0 ≤ (S 1046 0) ∧ (S 1046 0) ≤ 600 ∧ 31 ≤ (S 1008 0) ∧ (S 1008 0) ≤ (S 1007 0) ∧ 0 ≤ (S 1055 0) ∧ (S 1055 0) ≤ 19 ∧ 1 ≤ (S 1092 0) ∧ (S 1092 0) ≤ 24 ∧ 0 ≤ (S 57 ((S 1092 0) - 1)) ∧ (S 57 ((S 1092 0) - 1)) < (S 1046 0) ∧ (S 29 (S 57 ((S 1092 0) - 1))) = (S 53 ((S 1092 0) - 1)) ∧ 0 ≤ (S 53 ((S 1092 0) - 1)) ∧ (S 53 ((S 1092 0) - 1)) < (S 1032 0) ∧ (S 60 ((S 1092 0) - 1)) = sm_dp (S 1100024) (S 1100023 (S 57 ((S 1092 0) - 1))) ∧ sm_TC (S 61) (S 62) (S 27) (S 1100007) (S 1100023) (S 1100024) (40 * ((S 1092 0) - 1)) (S 1100023 (S 57 ((S 1092 0) - 1))) ∧ sm_LK (g3 1100029) (g3 1076 0) (S 54 ((S 1092 0) - 1)) (S 53 ((S 1092 0) - 1)) ∧ sm_VO (g3 44) (g3 1076 0) (S 1007 0) ((S 55 ((S 1092 0) - 1))) ((S 56 ((S 1092 0) - 1))) ∧ sm_FW (g3 44) (g3 1076 0) (S 59 ((S 1092 0) - 1)) ∧ sm_FL (S 53) (S 54) (S 55) (S 56) (S 57) (S 58) (S 59) (S 60) (S 61) (S 62) (S 63) (S 64) (S 27) (S 29) (S 1100007) (S 1100023) (S 1100024) (S 1100025) (S 26) (g3 1100029) (g3 44) (S 1046 0) (S 1032 0) (g3 1076 0) (S 1007 0) (((S 1092 0) - 1)) ∧ (S 58 ((S 1092 0) - 1)) = (S 1100007 (S 57 ((S 1092 0) - 1))) ∧ sm_SK (S 63) (S 64) (g3 44) (S 1100007) (S 1100025) (g3 1076 0) (S 1007 0) (400 * ((S 1092 0) - 1)) ((S 58 ((S 1092 0) - 1))) ((S 1100025 (S 57 ((S 1092 0) - 1)))) ∧ sm_VO (g3 44) (g3 1076 0) (S 1007 0) ((7 : Int)) (r7) ∧ (0 ≤ (S 1100023 (S 57 ((S 1092 0) - 1))) → (S 1100007 (S 1100023 (S 57 ((S 1092 0) - 1)))) ≤ (S 58 ((S 1092 0) - 1))))) ∧ (∀ g10 : sv_S, ((¬ (g3 1075 0) = 0 → sm_LX (g10 58) (g10 63) (g10 64) (g10 1092 0) (g3 1076 0)) ∧ ((g3 1075 0) = 0 → (g10 1073 0) = 1 → (S 1073 0) = 1 ∧ 1 ≤ (g10 1092 0) ∧ (g10 1092 0) ≤ 24 ∧ 0 ≤ (g10 57 ((g10 1092 0) - 1)) ∧ (g10 57 ((g10 1092 0) - 1)) < (S 1046 0) ∧ (S 29 (g10 57 ((g10 1092 0) - 1))) = (S 53 ((g10 1092 0) - 1)) ∧ 0 ≤ (S 53 ((g10 1092 0) - 1)) ∧ (S 53 ((g10 1092 0) - 1)) < (S 1032 0) ∧ (g10 60 ((g10 1092 0) - 1)) = sm_dp (S 1100024) (S 1100023 (g10 57 ((g10 1092 0) - 1))) ∧ sm_TC (S 61) (S 62) (S 27) (S 1100007) (S 1100023) (S 1100024) (40 * ((g10 1092 0) - 1)) (S 1100023 (g10 57 ((g10 1092 0) - 1))) ∧ sm_LK (g3 1100029) (g3 1076 0) (S 54 ((g10 1092 0) - 1)) (S 53 ((g10 1092 0) - 1)) ∧ sm_VO (g3 44) (g3 1076 0) (S 1007 0) ((S 55 ((g10 1092 0) - 1))) ((S 56 ((g10 1092 0) - 1))) ∧ sm_FW (g3 44) (g3 1076 0) (S 59 ((g10 1092 0) - 1)) ∧ sm_FL (S 53) (S 54) (S 55) (S 56) (g10 57) (g10 58) (S 59) (g10 60) (S 61) (S 62) (g10 63) (g10 64) (S 27) (S 29) (S 1100007) (S 1100023) (S 1100024) (S 1100025) (S 26) (g3 1100029) (g3 44) (S 1046 0) (S 1032 0) (g3 1076 0) (S 1007 0) (((g10 1092 0) - 1)) ∧ (g10 58 ((g10 1092 0) - 1)) = (S 1100007 (g10 57 ((g10 1092 0) - 1))) ∧ sm_SK (g10 63) (g10 64) (g3 44) (S 1100007) (S 1100025) (g3 1076 0) (S 1007 0) (400 * ((g10 1092 0) - 1)) ((g10 58 ((g10 1092 0) - 1))) ((S 1100025 (g10 57 ((g10 1092 0) - 1))))) ∧ ((g10 1073 0) = (S 1073 0) ∨ ((g10 1073 0) = 3 ∧ (g10 1092 0) = 0 ∧ (g3 1075 0) = 0)) ∧ (g10 1092 0) ≤ (S 1092 0) ∧ (0 ≤ (S 1092 0) → 0 ≤ (g10 1092 0))) → (sm_PL (S 1100020) (S 51) (S 52) (g3 46) (g3 47) (g3 1076 0) (S 1086 0) ∧ sm_FR (S 1100020) (S 52) (S 1100021) (S 1100022) (3000 - (S 1084 0)) (S 1085 0) ∧ sm_PV (S 1100020) (S 48) (S 49) (S 50) (g3 44) (g3 1076 0) (S 1007 0) ∧ sm_AL (S 1100020) (S 48) (S 49) (S 50) (g3 44) (g3 1076 0) (S 1100032 0) ∧ sm_SV (S 1100020) (S 48) (g3 1100029) (S 32) (S 33) (g3 1076 0) (S 1032 0) ∧ 0 ≤ (g3 1076 0) ∧ (g3 1076 0) ≤ 300 ∧ 0 ≤ (S 1084 0) ∧ (S 1084 0) ≤ 3000 ∧ 0 ≤ (S 1086 0) ∧ sm_SC (g3 1100029) (g3 44) (g3 45) (g3 43) (S 21) (g3 1076 0) (S 1032 0) ∧ sm_PO (g3 42) (g3 1076 0) ∧ ((g3 1075 0) = 0 → (S 1100032 0) = -1 ∧ sm_FO (g3 44) (g3 45) (g3 1076 0)) ∧ 23 ≤ (g3 1076 0) ∧ 31 ≤ (S 1007 0) ∧ (S 1007 0) ≤ 400 ∧ sm_LN (S 4) 400 (S 1007 0) ∧ (S 1008 0) ≤ (S 1007 0) ∧ ((S 1075 0) = 1 → (g3 1075 0) = 1) ∧ 0 ≤ (g10 1092 0) ∧ (g10 1092 0) ≤ 24 ∧ (S 1007 0) ≤ (S 1007 0) ∧ (¬ (g3 1075 0) = 0 → sm_LX (g10 58) (g10 63) (g10 64) (g10 1092 0) (g3 1076 0)) ∧ ((g3 1075 0) = 0 → (g10 1073 0) = 1 → 1 ≤ (g10 1092 0) ∧ (g10 1092 0) ≤ 24 ∧ 0 ≤ (g10 57 ((g10 1092 0) - 1)) ∧ (g10 57 ((g10 1092 0) - 1)) < (S 1046 0) ∧ (S 29 (g10 57 ((g10 1092 0) - 1))) = (S 53 ((g10 1092 0) - 1)) ∧ 0 ≤ (S 53 ((g10 1092 0) - 1)) ∧ (S 53 ((g10 1092 0) - 1)) < (S 1032 0) ∧ (g10 60 ((g10 1092 0) - 1)) = sm_dp (S 1100024) (S 1100023 (g10 57 ((g10 1092 0) - 1))) ∧ sm_TC (S 61) (S 62) (S 27) (S 1100007) (S 1100023) (S 1100024) (40 * ((g10 1092 0) - 1)) (S 1100023 (g10 57 ((g10 1092 0) - 1))) ∧ sm_LK (g3 1100029) (g3 1076 0) (S 54 ((g10 1092 0) - 1)) (S 53 ((g10 1092 0) - 1)) ∧ sm_VO (g3 44) (g3 1076 0) (S 1007 0) ((S 55 ((g10 1092 0) - 1))) ((S 56 ((g10 1092 0) - 1))) ∧ sm_FW (g3 44) (g3 1076 0) (S 59 ((g10 1092 0) - 1)) ∧ sm_FL (S 53) (S 54) (S 55) (S 56) (g10 57) (g10 58) (S 59) (g10 60) (S 61) (S 62) (g10 63) (g10 64) (S 27) (S 29) (S 1100007) (S 1100023) (S 1100024) (S 1100025) (S 26) (g3 1100029) (g3 44) (S 1046 0) (S 1032 0) (g3 1076 0) (S 1007 0) (((g10 1092 0) - 1)) ∧ (g10 58 ((g10 1092 0) - 1)) = (S 1100007 (g10 57 ((g10 1092 0) - 1))) ∧ sm_SK (g10 63) (g10 64) (g3 44) (S 1100007) (S 1100025) (g3 1076 0) (S 1007 0) (400 * ((g10 1092 0) - 1)) ((g10 58 ((g10 1092 0) - 1))) ((S 1100025 (g10 57 ((g10 1092 0) - 1))))) ∧ ((g10 1073 0) = 1 ∨ (g10 1092 0) = 0 ∧ (g3 1075 0) = 0 ∧ ((g10 1073 0) = 2 ∨ (g10 1073 0) = 3)) ∧ ((g10 1073 0) = 1 ∨ (g10 1073 0) = 3)))) := by
  intro p1
  intro S
  intro h1_
  intro h2_
  rintro ⟨h3_, ⟨h4_, ⟨h5_, ⟨h6_, ⟨h7_, ⟨h8_, ⟨h9_, ⟨h10_, ⟨h11_, ⟨h12_, ⟨h13_, ⟨h14_, ⟨h15_, ⟨h16_, ⟨h17_, ⟨h18_, ⟨h19_, ⟨h20_, ⟨h21_, ⟨h22_, ⟨h23_, ⟨h24_, ⟨h25_, ⟨h26_, ⟨h27_, ⟨h28_, ⟨h29_, ⟨h30_, ⟨h31_, ⟨h32_, ⟨h33_, ⟨h34_, ⟨h35_, ⟨h36_, ⟨h37_, ⟨h38_, ⟨h39_, ⟨h40_, ⟨h41_, ⟨h42_, ⟨h43_, ⟨h44_, ⟨h45_, ⟨h46_, ⟨h47_, ⟨h48_, ⟨h49_, ⟨h50_, ⟨h51_, h52_⟩⟩⟩⟩⟩⟩⟩⟩⟩⟩⟩⟩⟩⟩⟩⟩⟩⟩⟩⟩⟩⟩⟩⟩⟩⟩⟩⟩⟩⟩⟩⟩⟩⟩⟩⟩⟩⟩⟩⟩⟩⟩⟩⟩⟩⟩⟩⟩⟩
  refine ⟨(la_error_0 h51_ h52_), ?_⟩
  refine ⟨⟨h6_, ⟨h7_, ⟨h8_, ⟨h9_, ⟨h10_, ⟨h11_, ⟨h12_, ⟨h13_, ⟨h14_, ⟨h15_, ⟨h16_, ⟨h17_, (la_error_1 h20_ h51_ h52_)⟩⟩⟩⟩⟩⟩⟩⟩⟩⟩⟩⟩, ?_⟩
  intro r7
  intro h53_
  intro g3
  rintro ⟨h54_, ⟨h55_, ⟨h56_, ⟨h57_, ⟨h58_, ⟨h59_, ⟨h60_, ⟨h61_, ⟨h62_, ⟨h63_, ⟨h64_, ⟨h65_, ⟨h66_, ⟨h67_, ⟨h68_, ⟨h69_, ⟨h70_, ⟨h71_, ⟨h72_, ⟨h73_, ⟨h74_, ⟨h75_, ⟨h76_, ⟨h77_, ⟨h78_, h79_⟩⟩⟩⟩⟩⟩⟩⟩⟩⟩⟩⟩⟩⟩⟩⟩⟩⟩⟩⟩⟩⟩⟩⟩⟩
  have h80_ := (h78_ h19_)
  have h81_ := (h80_ la_error_3)
  have h82_ := (h81_ (la_error_4 h20_))
  refine ⟨?_, ?_⟩
  · skip
    refine ⟨?_, ?_⟩
    · skip
      intro h83_
      exact (sm_LX_m h5_ h69_)
    intro h84_
    obtain ⟨h85_, ⟨h86_, ⟨h87_, ⟨h88_, ⟨h89_, ⟨h90_, h91_⟩⟩⟩⟩⟩⟩ := (h75_ h84_)
    obtain ⟨h92_, h93_⟩ := (h79_ (la_error_6 h60_ h67_ h85_))
    refine ⟨h21_, ?_⟩
    refine ⟨h22_, ?_⟩
    refine ⟨h23_, ?_⟩
    refine ⟨h24_, ?_⟩
    refine ⟨h25_, ?_⟩
    refine ⟨h26_, ?_⟩
    refine ⟨h27_, ?_⟩
    refine ⟨h28_, ?_⟩
    refine ⟨h29_, ?_⟩
    refine ⟨h30_, ?_⟩
    refine ⟨h31_, ?_⟩
    refine ⟨h32_, ?_⟩
    refine ⟨h33_, ?_⟩
    refine ⟨h34_, ?_⟩
    refine ⟨h35_, ?_⟩
    refine ⟨h36_, ?_⟩
    refine ⟨h37_, ?_⟩
    refine ⟨h38_, ?_⟩
    refine ⟨h39_, ?_⟩
    refine ⟨h40_, ?_⟩
    refine ⟨h41_, ?_⟩
    refine ⟨h42_, ?_⟩
    refine ⟨h43_, ?_⟩
    refine ⟨(sm_LK_m h44_ h69_ (sm_F1_le h71_ (Int.le_refl _))), ?_⟩
    refine ⟨(sm_VO_m h45_ h69_ (Int.le_refl _) (sm_F1_le h70_ (Int.le_refl _))), ?_⟩
    refine ⟨(sm_FW_m h46_ h69_ (sm_F1_le h70_ (Int.le_refl _))), ?_⟩
    refine ⟨(sm_FL_F h47_ sm_F1_rf sm_F1_rf sm_F1_rf sm_F1_rf sm_F1_rf sm_F1_rf sm_F1_rf sm_F1_rf sm_F1_rf sm_F1_rf sm_F1_rf sm_F1_rf h69_ (Int.le_refl _) (sm_F1_le h71_ (Int.le_refl _)) (sm_F1_le h70_ (Int.le_refl _)) (sm_FL_dp h47_ h24_)), ?_⟩
    refine ⟨h48_, ?_⟩
    refine ⟨(sm_SK_m h49_ h69_ (Int.le_refl _) (sm_F1_le h70_ (Int.le_refl _))), ?_⟩
    refine ⟨(sm_VO_i la_error_8 la_error_9 la_error_10 (la_error_11 h20_ h85_ h86_ h87_)), ?_⟩
    intro h94_
    have h95_ := (h50_ h94_)
    exact h95_
  intro g10
  rintro ⟨h96_, ⟨h97_, ⟨h98_, ⟨h99_, h100_⟩⟩⟩⟩
  have h101_ := (h100_ (la_error_12 h35_))
  refine ⟨h54_, ?_⟩
  refine ⟨h7_, ?_⟩
  refine ⟨h56_, ?_⟩
  refine ⟨h57_, ?_⟩
  refine ⟨h58_, ?_⟩
  refine ⟨h59_, ?_⟩
  refine ⟨h60_, ?_⟩
  refine ⟨h13_, ?_⟩
  refine ⟨h14_, ?_⟩
  refine ⟨h15_, ?_⟩
  refine ⟨h64_, ?_⟩
  refine ⟨h65_, ?_⟩
  refine ⟨?_, ?_⟩
  · skip
    intro h102_
    obtain ⟨h103_, ⟨h104_, ⟨h105_, ⟨h106_, ⟨h107_, ⟨h108_, h109_⟩⟩⟩⟩⟩⟩ := (h75_ h102_)
    obtain ⟨h110_, h111_⟩ := (h79_ (la_error_6 h60_ h67_ h103_))
    have h112_ := (h97_ h102_)
    refine ⟨h18_, ?_⟩
    exact h82_
  refine ⟨(la_error_15 h20_ h69_), ?_⟩
  refine ⟨h21_, ?_⟩
  refine ⟨h22_, ?_⟩
  refine ⟨h23_, ?_⟩
  refine ⟨h32_, ?_⟩
  refine ⟨h68_, ?_⟩
  refine ⟨h101_, ?_⟩
  refine ⟨(la_error_16 h36_ h99_), ?_⟩
  refine ⟨la_error_7, ?_⟩
  refine ⟨h96_, ?_⟩
  refine ⟨?_, ?_⟩
  · skip
    intro h113_
    obtain ⟨h114_, ⟨h115_, ⟨h116_, ⟨h117_, ⟨h118_, ⟨h119_, h120_⟩⟩⟩⟩⟩⟩ := (h75_ h113_)
    obtain ⟨h121_, h122_⟩ := (h79_ (la_error_6 h60_ h67_ h114_))
    have h123_ := (h97_ h113_)
    intro h124_
    have h125_ := (h98_.resolve_right (la_error_17 h124_))
    obtain ⟨h126_, ⟨h127_, ⟨h128_, ⟨h129_, ⟨h130_, ⟨h131_, ⟨h132_, ⟨h133_, ⟨h134_, ⟨h135_, ⟨h136_, ⟨h137_, ⟨h138_, ⟨h139_, ⟨h140_, h141_⟩⟩⟩⟩⟩⟩⟩⟩⟩⟩⟩⟩⟩⟩⟩ := (h123_ h124_)
    refine ⟨h127_, ?_⟩
    refine ⟨h128_, ?_⟩
    refine ⟨h129_, ?_⟩
    refine ⟨h130_, ?_⟩
    refine ⟨h131_, ?_⟩
    refine ⟨h132_, ?_⟩
    refine ⟨h133_, ?_⟩
    refine ⟨h134_, ?_⟩
    refine ⟨h135_, ?_⟩
    refine ⟨h136_, ?_⟩
    refine ⟨h137_, ?_⟩
    refine ⟨h138_, ?_⟩
    refine ⟨h139_, ?_⟩
    refine ⟨h140_, ?_⟩
    exact h141_
  refine ⟨(la_error_18 h3_ h4_ h60_ h67_ h75_ h79_ h98_ h101_), ?_⟩
  exact (la_error_19 h4_ h98_)
set_option maxRecDepth 8000 in
set_option maxHeartbeats 2000000 in
theorem t_error : ∀ (p1 : Int) (S : sv_S), sm_ok S → sv_R p1 → ((S 1075 0) = 0 ∧ (S 1073 0) = 1 ∧ sm_LX (S 58) (S 63) (S 64) (S 1092 0) (S 1076 0) ∧ sm_PL (S 1100020) (S 51) (S 52) (S 46) (S 47) (S 1076 0) (S 1086 0) ∧ sm_FR (S 1100020) (S 52) (S 1100021) (S 1100022) (3000 - (S 1084 0)) (S 1085 0) ∧ sm_PV (S 1100020) (S 48) (S 49) (S 50) (S 44) (S 1076 0) (S 1007 0) ∧ sm_AL (S 1100020) (S 48) (S 49) (S 50) (S 44) (S 1076 0) (S 1100032 0) ∧ sm_SV (S 1100020) (S 48) (S 1100029) (S 32) (S 33) (S 1076 0) (S 1032 0) ∧ 0 ≤ (S 1076 0) ∧ (S 1076 0) ≤ 300 ∧ 0 ≤ (S 1084 0) ∧ (S 1084 0) ≤ 3000 ∧ 0 ≤ (S 1086 0) ∧ sm_SC (S 1100029) (S 44) (S 45) (S 43) (S 21) (S 1076 0) (S 1032 0) ∧ sm_PO (S 42) (S 1076 0) ∧ (S 1100032 0) = -1 ∧ sm_FO (S 44) (S 45) (S 1076 0) ∧ 23 ≤ (S 1076 0) ∧ 31 ≤ (S 1007 0) ∧ (S 1007 0) ≤ 400 ∧ sm_LN (S 4) 400 (S 1007 0) ∧ sm_CT (S 26) (S 27) (S 28) (S 29) (S 1100007) (S 1100023) (S 1100024) (S 1100025) (S 21) (S 1046 0) (S 1032 0) (S 1008 0) (S 1055 0) ∧ sm_LS (S 26) (S 1100007) (S 1100025) (S 1046 0) ∧ sm_CL (S 1100007) (S 1100023) (S 1100025) (S 1046 0) ∧ 1 ≤ (S 1032 0) ∧ (S 1032 0) ≤ 11 ∧ 0 ≤ (S 1046 0) ∧ (S 1046 0) ≤ 600 ∧ 31 ≤ (S 1008 0) ∧ (S 1008 0) ≤ (S 1007 0) ∧ 0 ≤ (S 1055 0) ∧ (S 1055 0) ≤ 19 ∧ 1 ≤ (S 1092 0) ∧ (S 1092 0) ≤ 24 ∧ 0 ≤ (S 57 ((S 1092 0) - 1)) ∧ (S 57 ((S 1092 0) - 1)) < (S 1046 0) ∧ (S 29 (S 57 ((S 1092 0) - 1))) = (S 53 ((S 1092 0) - 1)) ∧ 0 ≤ (S 53 ((S 1092 0) - 1)) ∧ (S 53 ((S 1092 0) - 1)) < (S 1032 0) ∧ (S 60 ((S 1092 0) - 1)) = sm_dp (S 1100024) (S 1100023 (S 57 ((S 1092 0) - 1))) ∧ sm_TC (S 61) (S 62) (S 27) (S 1100007) (S 1100023) (S 1100024) (40 * ((S 1092 0) - 1)) (S 1100023 (S 57 ((S 1092 0) - 1))) ∧ sm_LK (S 1100029) (S 1076 0) (S 54 ((S 1092 0) - 1)) (S 53 ((S 1092 0) - 1)) ∧ sm_VO (S 44) (S 1076 0) (S 1007 0) ((S 55 ((S 1092 0) - 1))) ((S 56 ((S 1092 0) - 1))) ∧ sm_FW (S 44) (S 1076 0) (S 59 ((S 1092 0) - 1)) ∧ sm_FL (S 53) (S 54) (S 55) (S 56) (S 57) (S 58) (S 59) (S 60) (S 61) (S 62) (S 63) (S 64) (S 27) (S 29) (S 1100007) (S 1100023) (S 1100024) (S 1100025) (S 26) (S 1100029) (S 44) (S 1046 0) (S 1032 0) (S 1076 0) (S 1007 0) (((S 1092 0) - 1)) ∧ (S 58 ((S 1092 0) - 1)) = (S 1100007 (S 57 ((S 1092 0) - 1))) ∧ sm_SK (S 63) (S 64) (S 44) (S 1100007) (S 1100025) (S 1076 0) (S 1007 0) (400 * ((S 1092 0) - 1)) ((S 58 ((S 1092 0) - 1))) ((S 1100025 (S 57 ((S 1092 0) - 1)))) ∧ (0 ≤ (S 1100023 (S 57 ((S 1092 0) - 1))) → (S 1100007 (S 1100023 (S 57 ((S 1092 0) - 1)))) ≤ (S 58 ((S 1092 0) - 1))) ∧ 6 ≤ p1 ∧ p1 ≤ 8) → sv_T sm_XS sm_cs sm_L sm_sh 3 (q_error p1 S) 157 0 (lv_args 0 [.ref 0, sv_I p1]) [] S := by
  intro p1 S hok hp1 hpre
  have h := f_error p1 S hok hp1 hpre
  have hM := sm_h157
  show sv_T sm_XS sm_cs sm_L sm_sh 3 (q_error p1 S) 157 0 [(0, .ref 0), (1, sv_I p1)] [] S
  refine sv_aload_n hM dX12_error_0 rfl rfl ?_
  refine sv_iload_n hM dX12_error_1 rfl rfl ?_
  refine sv_iload_n hM dX12_error_2 rfl rfl ?_
  refine sv_bipush (d := (20 : Int)) hM dX12_error_3 rfl rfl ?_
  refine sv_iadd hM dX12_error_5 rfl ?_
  refine sv_iconst (d := (0 : Int)) hM dX12_error_6 rfl rfl ?_
  obtain ⟨o1, h⟩ := h
  obtain ⟨o2, h⟩ := h
  refine sv_callV hM dX12_error_7 sm_iv_858 (by decide) (sm_a0 _) rfl rfl (Nat.le_of_ble_eq_true rfl) sm_h139 (Nat.le_of_ble_eq_true rfl) (Nat.le_of_ble_eq_true rfl) (F' := 0) (Nat.le_of_ble_eq_true rfl) rfl (t_newObject p1 (p1 + (20 : Int)) (0 : Int) S hok hp1 o1 (⟨by decide, by decide⟩ : sv_R (0 : Int)) o2) (fun v S1 hq => ?_)
  obtain ⟨r7, rfl, hr7, ok4, md5, hpo6⟩ := hq
  obtain ⟨g3, rfl⟩ : ∃ g, S1 = sv_sts S [1076, 41, 42, 43, 44, 45, 46, 47, 1075, 1100029] g := ⟨_, md5.eq⟩
  show sv_T sm_XS sm_cs sm_L sm_sh 3 (q_error p1 S) 157 10 [(0, .ref 0), (1, sv_I p1)] [sv_I r7] (sv_sts S [1076, 41, 42, 43, 44, 45, 46, 47, 1075, 1100029] g3)
  have md8 : sv_mod [1076, 41, 42, 43, 44, 45, 46, 47, 1075, 1100029, 1092, 60, 58, 57, 63, 64, 1073, 1109, 1110] S (sv_sts S [1076, 41, 42, 43, 44, 45, 46, 47, 1075, 1100029] g3) := sv_mod.sts sv_mod.rf (by decide)
  have h := h r7 hr7 g3 hpo6
  refine sv_istore_n hM dX12_error_10 (by decide) rfl ?_
  show sv_T sm_XS sm_cs sm_L sm_sh 3 (q_error p1 S) 157 11 [(0, .ref 0), (1, sv_I p1), (2, sv_I r7)] [] (sv_sts S [1076, 41, 42, 43, 44, 45, 46, 47, 1075, 1100029] g3)
  refine sv_aload_n hM dX12_error_11 rfl rfl ?_
  refine sv_bipush (d := (7 : Int)) hM dX12_error_12 rfl rfl ?_
  refine sv_iload_n hM dX12_error_14 rfl rfl ?_
  obtain ⟨o9, h⟩ := h
  refine sv_callV hM dX12_error_15 sm_iv_897 (by decide) (sm_a0 _) rfl rfl (Nat.le_of_ble_eq_true rfl) sm_h156 (Nat.le_of_ble_eq_true rfl) (Nat.le_of_ble_eq_true rfl) (F' := 2) (Nat.le_of_ble_eq_true rfl) rfl (t_toss_ (7 : Int) r7 (sv_sts S [1076, 41, 42, 43, 44, 45, 46, 47, 1075, 1100029] g3) ok4 (⟨by decide, by decide⟩ : sv_R (7 : Int)) hr7 o9) (fun v S1 hq => ?_)
  obtain ⟨rfl, ok11, md12, hpo13⟩ := hq
  obtain ⟨g10, rfl⟩ : ∃ g, S1 = sv_sts (sv_sts S [1076, 41, 42, 43, 44, 45, 46, 47, 1075, 1100029] g3) [1092, 60, 58, 57, 63, 64, 1073, 1109, 1110] g := ⟨_, md12.eq⟩
  show sv_T sm_XS sm_cs sm_L sm_sh 3 (q_error p1 S) 157 18 [(0, .ref 0), (1, sv_I p1), (2, sv_I r7)] [] (sv_sts (sv_sts S [1076, 41, 42, 43, 44, 45, 46, 47, 1075, 1100029] g3) [1092, 60, 58, 57, 63, 64, 1073, 1109, 1110] g10)
  have md14 : sv_mod [1076, 41, 42, 43, 44, 45, 46, 47, 1075, 1100029, 1092, 60, 58, 57, 63, 64, 1073, 1109, 1110] S (sv_sts (sv_sts S [1076, 41, 42, 43, 44, 45, 46, 47, 1075, 1100029] g3) [1092, 60, 58, 57, 63, 64, 1073, 1109, 1110] g10) := sv_mod.sts md8 (by decide)
  have h := h g10 hpo13
  exact sv_vret hM dX12_error_18 rfl ⟨rfl, ok11, md14, h⟩
def q_enterFrame (p1 : Int) (p2 : Int) (p3 : Int) (p4 : Int) (p5 : Int) (S : sv_S) : Option Value → sv_S → Prop := fun v S' => v = none ∧ sm_ok S' ∧ sv_mod [1092, 53, 54, 55, 56, 57, 58, 59, 60] S S' ∧ ((S' 1092 0) = (S 1092 0) + 1 ∧ (S' 53 (S 1092 0)) = p1 ∧ (∀ k : Int, ¬ k = (S 1092 0) → (S' 53 k) = (S 53 k)) ∧ (S' 54 (S 1092 0)) = p2 ∧ (∀ k : Int, ¬ k = (S 1092 0) → (S' 54 k) = (S 54 k)) ∧ (S' 55 (S 1092 0)) = p3 ∧ (∀ k : Int, ¬ k = (S 1092 0) → (S' 55 k) = (S 55 k)) ∧ (S' 56 (S 1092 0)) = p4 ∧ (∀ k : Int, ¬ k = (S 1092 0) → (S' 56 k) = (S 56 k)) ∧ (S' 57 (S 1092 0)) = (S' 30 p1) ∧ (∀ k : Int, ¬ k = (S 1092 0) → (S' 57 k) = (S 57 k)) ∧ (S' 58 (S 1092 0)) = 0 ∧ (∀ k : Int, ¬ k = (S 1092 0) → (S' 58 k) = (S 58 k)) ∧ (S' 59 (S 1092 0)) = p5 ∧ (∀ k : Int, ¬ k = (S 1092 0) → (S' 59 k) = (S 59 k)) ∧ (S' 60 (S 1092 0)) = 0 ∧ (∀ k : Int, ¬ k = (S 1092 0) → (S' 60 k) = (S 60 k)))
theorem la_enterFrame_0 {x0 : Int} (h0 : 0 ≤ x0) (h1 : x0 < 24) : sv_R (x0 + 1) := by omega
theorem la_enterFrame_1 {x0 : Int} (h0 : 0 ≤ x0) (h1 : x0 < 24) : 0 ≤ x0 ∧ x0 < 24 := by omega
theorem la_enterFrame_2 {x0 : Int} (h0 : 0 ≤ x0) (h1 : x0 ≤ 11) : 0 ≤ x0 ∧ x0 < 12 := by omega
theorem la_enterFrame_3 {x0 : Int} : x0 + 1 = x0 + 1 := by omega
theorem la_enterFrame_4 {x0 : Int} : x0 = x0 := by omega
set_option maxHeartbeats 2000000 in
theorem f_enterFrame : ∀ (p1 : Int) (p2 : Int) (p3 : Int) (p4 : Int) (p5 : Int) (S : sv_S), sm_ok S → sv_R p1 → sv_R p2 → sv_R p3 → sv_R p4 → sv_R p5 → (0 ≤ (S 1092 0) ∧ (S 1092 0) < 24 ∧ 0 ≤ p1 ∧ p1 ≤ 11) → (sv_R (S 1092 0) → (sv_R ((S 1092 0) + (1 : Int))) ∧ (0 ≤ (S 1092 0) ∧ (S 1092 0) < 24) ∧ (0 ≤ p1 ∧ p1 < 12) ∧ (sv_R (S 30 p1) → (((S 1092 0) + (1 : Int)) = (S 1092 0) + 1 ∧ (if (S 1092 0) = (S 1092 0) then p1 else (S 53 (S 1092 0))) = p1 ∧ (∀ k : Int, ¬ k = (S 1092 0) → (if k = (S 1092 0) then p1 else (S 53 k)) = (S 53 k)) ∧ (if (S 1092 0) = (S 1092 0) then p2 else (S 54 (S 1092 0))) = p2 ∧ (∀ k : Int, ¬ k = (S 1092 0) → (if k = (S 1092 0) then p2 else (S 54 k)) = (S 54 k)) ∧ (if (S 1092 0) = (S 1092 0) then p3 else (S 55 (S 1092 0))) = p3 ∧ (∀ k : Int, ¬ k = (S 1092 0) → (if k = (S 1092 0) then p3 else (S 55 k)) = (S 55 k)) ∧ (if (S 1092 0) = (S 1092 0) then p4 else (S 56 (S 1092 0))) = p4 ∧ (∀ k : Int, ¬ k = (S 1092 0) → (if k = (S 1092 0) then p4 else (S 56 k)) = (S 56 k)) ∧ (if (S 1092 0) = (S 1092 0) then (S 30 p1) else (S 57 (S 1092 0))) = (S 30 p1) ∧ (∀ k : Int, ¬ k = (S 1092 0) → (if k = (S 1092 0) then (S 30 p1) else (S 57 k)) = (S 57 k)) ∧ (if (S 1092 0) = (S 1092 0) then (0 : Int) else (S 58 (S 1092 0))) = 0 ∧ (∀ k : Int, ¬ k = (S 1092 0) → (if k = (S 1092 0) then (0 : Int) else (S 58 k)) = (S 58 k)) ∧ (if (S 1092 0) = (S 1092 0) then p5 else (S 59 (S 1092 0))) = p5 ∧ (∀ k : Int, ¬ k = (S 1092 0) → (if k = (S 1092 0) then p5 else (S 59 k)) = (S 59 k)) ∧ (if (S 1092 0) = (S 1092 0) then (0 : Int) else (S 60 (S 1092 0))) = 0 ∧ (∀ k : Int, ¬ k = (S 1092 0) → (if k = (S 1092 0) then (0 : Int) else (S 60 k)) = (S 60 k))))) := by
  intro p1
  intro p2
  intro p3
  intro p4
  intro p5
  intro S
  intro h1_
  intro h2_
  intro h3_
  intro h4_
  intro h5_
  intro h6_
  rintro ⟨h7_, ⟨h8_, ⟨h9_, h10_⟩⟩⟩
  intro h11_
  refine ⟨(la_enterFrame_0 h7_ h8_), ?_⟩
  refine ⟨(la_enterFrame_1 h7_ h8_), ?_⟩
  refine ⟨(la_enterFrame_2 h9_ h10_), ?_⟩
  intro h12_
  refine ⟨la_enterFrame_3, ?_⟩
  refine ⟨?_, ?_⟩
  · skip
    have e13_ : (if S 1092 0 = S 1092 0 then p1 else S 53 (S 1092 0) : Int) = p1 := if_pos la_enterFrame_4
    exact e13_
  refine ⟨?_, ?_⟩
  · skip
    intro k
    intro h14_
    have e15_ : (if k = S 1092 0 then p1 else S 53 k : Int) = S 53 k := if_neg h14_
    exact e15_
  refine ⟨?_, ?_⟩
  · skip
    have e16_ : (if S 1092 0 = S 1092 0 then p2 else S 54 (S 1092 0) : Int) = p2 := if_pos la_enterFrame_4
    exact e16_
  refine ⟨?_, ?_⟩
  · skip
    intro kv1
    intro h17_
    have e18_ : (if kv1 = S 1092 0 then p2 else S 54 kv1 : Int) = S 54 kv1 := if_neg h17_
    exact e18_
  refine ⟨?_, ?_⟩
  · skip
    have e19_ : (if S 1092 0 = S 1092 0 then p3 else S 55 (S 1092 0) : Int) = p3 := if_pos la_enterFrame_4
    exact e19_
  refine ⟨?_, ?_⟩
  · skip
    intro kv2
    intro h20_
    have e21_ : (if kv2 = S 1092 0 then p3 else S 55 kv2 : Int) = S 55 kv2 := if_neg h20_
    exact e21_
  refine ⟨?_, ?_⟩
  · skip
    have e22_ : (if S 1092 0 = S 1092 0 then p4 else S 56 (S 1092 0) : Int) = p4 := if_pos la_enterFrame_4
    exact e22_
  refine ⟨?_, ?_⟩
  · skip
    intro kv3
    intro h23_
    have e24_ : (if kv3 = S 1092 0 then p4 else S 56 kv3 : Int) = S 56 kv3 := if_neg h23_
    exact e24_
  refine ⟨?_, ?_⟩
  · skip
    have e25_ : (if S 1092 0 = S 1092 0 then S 30 p1 else S 57 (S 1092 0) : Int) = S 30 p1 := if_pos la_enterFrame_4
    exact e25_
  refine ⟨?_, ?_⟩
  · skip
    intro kv4
    intro h26_
    have e27_ : (if kv4 = S 1092 0 then S 30 p1 else S 57 kv4 : Int) = S 57 kv4 := if_neg h26_
    exact e27_
  refine ⟨?_, ?_⟩
  · skip
    have e28_ : (if S 1092 0 = S 1092 0 then 0 else S 58 (S 1092 0) : Int) = 0 := if_pos la_enterFrame_4
    exact e28_
  refine ⟨?_, ?_⟩
  · skip
    intro kv5
    intro h29_
    have e30_ : (if kv5 = S 1092 0 then 0 else S 58 kv5 : Int) = S 58 kv5 := if_neg h29_
    exact e30_
  refine ⟨?_, ?_⟩
  · skip
    have e31_ : (if S 1092 0 = S 1092 0 then p5 else S 59 (S 1092 0) : Int) = p5 := if_pos la_enterFrame_4
    exact e31_
  refine ⟨?_, ?_⟩
  · skip
    intro kv6
    intro h32_
    have e33_ : (if kv6 = S 1092 0 then p5 else S 59 kv6 : Int) = S 59 kv6 := if_neg h32_
    exact e33_
  refine ⟨?_, ?_⟩
  · skip
    have e34_ : (if S 1092 0 = S 1092 0 then 0 else S 60 (S 1092 0) : Int) = 0 := if_pos la_enterFrame_4
    exact e34_
  intro kv7
  intro h35_
  have e36_ : (if kv7 = S 1092 0 then 0 else S 60 kv7 : Int) = S 60 kv7 := if_neg h35_
  exact e36_
set_option maxRecDepth 8000 in
set_option maxHeartbeats 2000000 in
theorem t_enterFrame : ∀ (p1 : Int) (p2 : Int) (p3 : Int) (p4 : Int) (p5 : Int) (S : sv_S), sm_ok S → sv_R p1 → sv_R p2 → sv_R p3 → sv_R p4 → sv_R p5 → (0 ≤ (S 1092 0) ∧ (S 1092 0) < 24 ∧ 0 ≤ p1 ∧ p1 ≤ 11) → sv_T sm_XS sm_cs sm_L sm_sh 0 (q_enterFrame p1 p2 p3 p4 p5 S) 148 0 (lv_args 0 [.ref 0, sv_I p1, sv_I p2, sv_I p3, sv_I p4, sv_I p5]) [] S := by
  intro p1 p2 p3 p4 p5 S hok hp1 hp2 hp3 hp4 hp5 hpre
  have h := f_enterFrame p1 p2 p3 p4 p5 S hok hp1 hp2 hp3 hp4 hp5 hpre
  have hM := sm_h148
  show sv_T sm_XS sm_cs sm_L sm_sh 0 (q_enterFrame p1 p2 p3 p4 p5 S) 148 0 [(0, .ref 0), (1, sv_I p1), (2, sv_I p2), (3, sv_I p3), (4, sv_I p4), (5, sv_I p5)] [] S
  refine sv_aload_n hM dX12_enterFrame_0 rfl rfl ?_
  have k1 : sv_R (S 1092 0) := sm_okI hok sm_r1092 0
  have h := h k1
  refine sv_getI hM dX12_enterFrame_1 sm_fl_872 (sm_a0 _) sm_k92 rfl (x := (S 1092 0)) rfl ?_
  refine sv_istore hM dX12_enterFrame_4 (by decide) rfl ?_
  show sv_T sm_XS sm_cs sm_L sm_sh 0 (q_enterFrame p1 p2 p3 p4 p5 S) 148 6 [(0, .ref 0), (1, sv_I p1), (2, sv_I p2), (3, sv_I p3), (4, sv_I p4), (5, sv_I p5), (6, sv_I (S 1092 0))] [] S
  refine sv_aload_n hM dX12_enterFrame_6 rfl rfl ?_
  refine sv_dupA hM dX12_enterFrame_7 rfl ?_
  refine sv_getI hM dX12_enterFrame_8 sm_fl_872 (sm_a0 _) sm_k92 rfl (x := (S 1092 0)) rfl ?_
  refine sv_iconst (d := (1 : Int)) hM dX12_enterFrame_11 rfl rfl ?_
  refine sv_iadd hM dX12_enterFrame_12 rfl ?_
  obtain ⟨o2, h⟩ := h
  refine sv_putI sm_X hM dX12_enterFrame_13 sm_fp_872 (sm_a0 _) sm_q92 (Or.inl rfl) rfl rfl rfl rfl ?_
  have ok3 : sm_ok (sv_up S 1092 0 ((S 1092 0) + (1 : Int))) := sm_upI hok sm_r1092 o2
  have md4 : sv_mod [1092, 53, 54, 55, 56, 57, 58, 59, 60] S (sv_up S 1092 0 ((S 1092 0) + (1 : Int))) := sv_mod.up sv_mod.rf (by decide)
  refine sv_aload_n hM dX12_enterFrame_16 rfl rfl ?_
  refine sv_getA hM dX12_enterFrame_17 sm_fl_170 (sm_a0 _) sm_k93 rfl ?_
  refine sv_iload hM dX12_enterFrame_20 rfl rfl ?_
  refine sv_iload_n hM dX12_enterFrame_22 rfl rfl ?_
  obtain ⟨o5, h⟩ := h
  refine sv_iast sm_X hM dX12_enterFrame_23 (sm_a53 _) (by decide) o5.1 o5.2 rfl ?_
  have ok6 : sm_ok (sv_up (sv_up S 1092 0 ((S 1092 0) + (1 : Int))) 53 (S 1092 0) p1) := sm_upI ok3 sm_r53 hp1
  have md7 : sv_mod [1092, 53, 54, 55, 56, 57, 58, 59, 60] S (sv_up (sv_up S 1092 0 ((S 1092 0) + (1 : Int))) 53 (S 1092 0) p1) := sv_mod.up md4 (by decide)
  refine sv_aload_n hM dX12_enterFrame_24 rfl rfl ?_
  refine sv_getA hM dX12_enterFrame_25 sm_fl_173 (sm_a0 _) sm_k94 rfl ?_
  refine sv_iload hM dX12_enterFrame_28 rfl rfl ?_
  refine sv_iload_n hM dX12_enterFrame_30 rfl rfl ?_
  refine sv_iast sm_X hM dX12_enterFrame_31 (sm_a54 _) (by decide) o5.1 o5.2 rfl ?_
  have ok8 : sm_ok (sv_up (sv_up (sv_up S 1092 0 ((S 1092 0) + (1 : Int))) 53 (S 1092 0) p1) 54 (S 1092 0) p2) := sm_upI ok6 sm_r54 hp2
  have md9 : sv_mod [1092, 53, 54, 55, 56, 57, 58, 59, 60] S (sv_up (sv_up (sv_up S 1092 0 ((S 1092 0) + (1 : Int))) 53 (S 1092 0) p1) 54 (S 1092 0) p2) := sv_mod.up md7 (by decide)
  refine sv_aload_n hM dX12_enterFrame_32 rfl rfl ?_
  refine sv_getA hM dX12_enterFrame_33 sm_fl_176 (sm_a0 _) sm_k95 rfl ?_
  refine sv_iload hM dX12_enterFrame_36 rfl rfl ?_
  refine sv_iload_n hM dX12_enterFrame_38 rfl rfl ?_
  refine sv_iast sm_X hM dX12_enterFrame_39 (sm_a55 _) (by decide) o5.1 o5.2 rfl ?_
  have ok10 : sm_ok (sv_up (sv_up (sv_up (sv_up S 1092 0 ((S 1092 0) + (1 : Int))) 53 (S 1092 0) p1) 54 (S 1092 0) p2) 55 (S 1092 0) p3) := sm_upI ok8 sm_r55 hp3
  have md11 : sv_mod [1092, 53, 54, 55, 56, 57, 58, 59, 60] S (sv_up (sv_up (sv_up (sv_up S 1092 0 ((S 1092 0) + (1 : Int))) 53 (S 1092 0) p1) 54 (S 1092 0) p2) 55 (S 1092 0) p3) := sv_mod.up md9 (by decide)
  refine sv_aload_n hM dX12_enterFrame_40 rfl rfl ?_
  refine sv_getA hM dX12_enterFrame_41 sm_fl_179 (sm_a0 _) sm_k96 rfl ?_
  refine sv_iload hM dX12_enterFrame_44 rfl rfl ?_
  refine sv_iload hM dX12_enterFrame_46 rfl rfl ?_
  refine sv_iast sm_X hM dX12_enterFrame_48 (sm_a56 _) (by decide) o5.1 o5.2 rfl ?_
  have ok12 : sm_ok (sv_up (sv_up (sv_up (sv_up (sv_up S 1092 0 ((S 1092 0) + (1 : Int))) 53 (S 1092 0) p1) 54 (S 1092 0) p2) 55 (S 1092 0) p3) 56 (S 1092 0) p4) := sm_upI ok10 sm_r56 hp4
  have md13 : sv_mod [1092, 53, 54, 55, 56, 57, 58, 59, 60] S (sv_up (sv_up (sv_up (sv_up (sv_up S 1092 0 ((S 1092 0) + (1 : Int))) 53 (S 1092 0) p1) 54 (S 1092 0) p2) 55 (S 1092 0) p3) 56 (S 1092 0) p4) := sv_mod.up md11 (by decide)
  refine sv_aload_n hM dX12_enterFrame_49 rfl rfl ?_
  refine sv_getA hM dX12_enterFrame_50 sm_fl_182 (sm_a0 _) sm_k97 rfl ?_
  refine sv_iload hM dX12_enterFrame_53 rfl rfl ?_
  refine sv_aload_n hM dX12_enterFrame_55 rfl rfl ?_
  refine sv_getA hM dX12_enterFrame_56 sm_fl_101 (sm_a0 _) sm_k52 rfl ?_
  refine sv_iload_n hM dX12_enterFrame_59 rfl rfl ?_
  obtain ⟨o14, h⟩ := h
  have k15 : sv_R (S 30 p1) := sm_okI ok12 sm_r30 p1
  have h := h k15
  refine sv_iald hM dX12_enterFrame_60 (sm_a30 _) (by decide) o14.1 o14.2 rfl (x := (S 30 p1)) rfl ?_
  refine sv_iast sm_X hM dX12_enterFrame_61 (sm_a57 _) (by decide) o5.1 o5.2 rfl ?_
  have ok16 : sm_ok (sv_up (sv_up (sv_up (sv_up (sv_up (sv_up S 1092 0 ((S 1092 0) + (1 : Int))) 53 (S 1092 0) p1) 54 (S 1092 0) p2) 55 (S 1092 0) p3) 56 (S 1092 0) p4) 57 (S 1092 0) (S 30 p1)) := sm_upI ok12 sm_r57 k15
  have md17 : sv_mod [1092, 53, 54, 55, 56, 57, 58, 59, 60] S (sv_up (sv_up (sv_up (sv_up (sv_up (sv_up S 1092 0 ((S 1092 0) + (1 : Int))) 53 (S 1092 0) p1) 54 (S 1092 0) p2) 55 (S 1092 0) p3) 56 (S 1092 0) p4) 57 (S 1092 0) (S 30 p1)) := sv_mod.up md13 (by decide)
  refine sv_aload_n hM dX12_enterFrame_62 rfl rfl ?_
  refine sv_getA hM dX12_enterFrame_63 sm_fl_185 (sm_a0 _) sm_k98 rfl ?_
  refine sv_iload hM dX12_enterFrame_66 rfl rfl ?_
  refine sv_iconst (d := (0 : Int)) hM dX12_enterFrame_68 rfl rfl ?_
  refine sv_iast sm_X hM dX12_enterFrame_69 (sm_a58 _) (by decide) o5.1 o5.2 rfl ?_
  have ok18 : sm_ok (sv_up (sv_up (sv_up (sv_up (sv_up (sv_up (sv_up S 1092 0 ((S 1092 0) + (1 : Int))) 53 (S 1092 0) p1) 54 (S 1092 0) p2) 55 (S 1092 0) p3) 56 (S 1092 0) p4) 57 (S 1092 0) (S 30 p1)) 58 (S 1092 0) (0 : Int)) := sm_upI ok16 sm_r58 (⟨by decide, by decide⟩ : sv_R (0 : Int))
  have md19 : sv_mod [1092, 53, 54, 55, 56, 57, 58, 59, 60] S (sv_up (sv_up (sv_up (sv_up (sv_up (sv_up (sv_up S 1092 0 ((S 1092 0) + (1 : Int))) 53 (S 1092 0) p1) 54 (S 1092 0) p2) 55 (S 1092 0) p3) 56 (S 1092 0) p4) 57 (S 1092 0) (S 30 p1)) 58 (S 1092 0) (0 : Int)) := sv_mod.up md17 (by decide)
  refine sv_aload_n hM dX12_enterFrame_70 rfl rfl ?_
  refine sv_getA hM dX12_enterFrame_71 sm_fl_188 (sm_a0 _) sm_k99 rfl ?_
  refine sv_iload hM dX12_enterFrame_74 rfl rfl ?_
  refine sv_iload hM dX12_enterFrame_76 rfl rfl ?_
  refine sv_iast sm_X hM dX12_enterFrame_78 (sm_a59 _) (by decide) o5.1 o5.2 rfl ?_
  have ok20 : sm_ok (sv_up (sv_up (sv_up (sv_up (sv_up (sv_up (sv_up (sv_up S 1092 0 ((S 1092 0) + (1 : Int))) 53 (S 1092 0) p1) 54 (S 1092 0) p2) 55 (S 1092 0) p3) 56 (S 1092 0) p4) 57 (S 1092 0) (S 30 p1)) 58 (S 1092 0) (0 : Int)) 59 (S 1092 0) p5) := sm_upI ok18 sm_r59 hp5
  have md21 : sv_mod [1092, 53, 54, 55, 56, 57, 58, 59, 60] S (sv_up (sv_up (sv_up (sv_up (sv_up (sv_up (sv_up (sv_up S 1092 0 ((S 1092 0) + (1 : Int))) 53 (S 1092 0) p1) 54 (S 1092 0) p2) 55 (S 1092 0) p3) 56 (S 1092 0) p4) 57 (S 1092 0) (S 30 p1)) 58 (S 1092 0) (0 : Int)) 59 (S 1092 0) p5) := sv_mod.up md19 (by decide)
  refine sv_aload_n hM dX12_enterFrame_79 rfl rfl ?_
  refine sv_getA hM dX12_enterFrame_80 sm_fl_191 (sm_a0 _) sm_k100 rfl ?_
  refine sv_iload hM dX12_enterFrame_83 rfl rfl ?_
  refine sv_iconst (d := (0 : Int)) hM dX12_enterFrame_85 rfl rfl ?_
  refine sv_iast sm_X hM dX12_enterFrame_86 (sm_a60 _) (by decide) o5.1 o5.2 rfl ?_
  have ok22 : sm_ok (sv_up (sv_up (sv_up (sv_up (sv_up (sv_up (sv_up (sv_up (sv_up S 1092 0 ((S 1092 0) + (1 : Int))) 53 (S 1092 0) p1) 54 (S 1092 0) p2) 55 (S 1092 0) p3) 56 (S 1092 0) p4) 57 (S 1092 0) (S 30 p1)) 58 (S 1092 0) (0 : Int)) 59 (S 1092 0) p5) 60 (S 1092 0) (0 : Int)) := sm_upI ok20 sm_r60 (⟨by decide, by decide⟩ : sv_R (0 : Int))
  have md23 : sv_mod [1092, 53, 54, 55, 56, 57, 58, 59, 60] S (sv_up (sv_up (sv_up (sv_up (sv_up (sv_up (sv_up (sv_up (sv_up S 1092 0 ((S 1092 0) + (1 : Int))) 53 (S 1092 0) p1) 54 (S 1092 0) p2) 55 (S 1092 0) p3) 56 (S 1092 0) p4) 57 (S 1092 0) (S 30 p1)) 58 (S 1092 0) (0 : Int)) 59 (S 1092 0) p5) 60 (S 1092 0) (0 : Int)) := sv_mod.up md21 (by decide)
  exact sv_vret hM dX12_enterFrame_87 rfl ⟨rfl, ok22, md23, h⟩
def q_scopeAt (p1 : Int) (S : sv_S) : Option Value → sv_S → Prop := fun v S' => ∃ r : Int, v = some (sv_I r) ∧ sv_R r ∧ sm_ok S' ∧ sv_mod [] S S' ∧ (0 ≤ r ∧ r < (S' 1076 0) ∧ (S' 1100029 r) = sm_ua (S' 21) ((S' 53 ((S' 1092 0) - 1))) (p1))
theorem la_scopeAt_0 {x0 : Int} (h0 : 1 ≤ x0) (h1 : x0 ≤ 24) : 0 ≤ x0 - 1 ∧ x0 - 1 < 24 := by omega
theorem la_scopeAt_1 : (0 : Int) ≤ 0 := by omega
theorem la_scopeAt_2 {x0 x1 : Int} (h0 : x0 = x1) : x1 = x0 := by omega
theorem la_scopeAt_3 {x0 x1 : Int} (h0 : x0 ≤ x1) : 0 ≤ x1 - x0 := by omega
theorem la_scopeAt_4 {x0 x1 : Int} (h0 : x0 ≤ x1) (h1 : x1 ≤ x0) : x1 = x0 := by omega
theorem la_scopeAt_5 {x0 x1 x2 : Int} (h0 : x0 = x1) (h1 : x2 = x1) : x0 = x2 := by omega
theorem la_scopeAt_6 {x0 x1 : Int} (h0 : x0 ≤ 300) (h1 : 0 ≤ x1) (h2 : x1 < x0) : 0 ≤ x1 ∧ x1 < 300 := by omega
theorem la_scopeAt_7 {x0 x1 : Int} (h0 : sv_R x0) (h1 : 0 ≤ x1) (h2 : ¬ x0 ≤ x1) : sv_R (x1 + 1) := by omega
theorem la_scopeAt_8 {x0 : Int} (h0 : 0 ≤ x0) : 0 ≤ x0 + 1 := by omega
theorem la_scopeAt_9 {x0 x1 : Int} (h0 : ¬ x0 ≤ x1) : x1 + 1 ≤ x0 := by omega
theorem la_scopeAt_10 {x0 x1 : Int} : x0 - (x1 + 1) < x0 - x1 := by omega
set_option maxHeartbeats 2000000 in
theorem f_scopeAt : ∀ (p1 : Int) (S : sv_S), sm_ok S → sv_R p1 → (1 ≤ (S 1092 0) ∧ (S 1092 0) ≤ 24 ∧ 0 ≤ p1 ∧ (S 1076 0) ≤ 300 ∧ sm_SC (S 1100029) (S 44) (S 45) (S 43) (S 21) (S 1076 0) (S 1032 0) ∧ sm_LK (S 1100029) (S 1076 0) (S 54 ((S 1092 0) - 1)) (S 53 ((S 1092 0) - 1)) ∧ sm_UA (S 21) (S 53 ((S 1092 0) - 1)) p1) → ((sm_LK (S 1100029) (S 1076 0) (S 54 ((S 1092 0) - 1)) (S 53 ((S 1092 0) - 1)) → sm_LK (S 1100029) (S 1076 0) ((S 54 ((S 1092 0) - 1))) (sm_ua (S 21) ((S 53 ((S 1092 0) - 1))) (0))) → (sv_R (S 1092 0) → (0 ≤ ((S 1092 0) - (1 : Int)) ∧ ((S 1092 0) - (1 : Int)) < 24) ∧ (sv_R (S 54 ((S 1092 0) - (1 : Int))) → (∀ x5 : Int, (S 54 ((S 1092 0) - (1 : Int))) = x5 → ((0 ≤ (0 : Int) ∧ (0 : Int) ≤ p1 ∧ sm_LK (S 1100029) (S 1076 0) (x5) (sm_ua (S 21) ((S 53 ((S 1092 0) - 1))) ((0 : Int)))) ∧ (∀ l2_7 : Int, sv_R l2_7 → ∀ l3_8 : Int, sv_R l3_8 → (0 ≤ l3_8 ∧ l3_8 ≤ p1 ∧ sm_LK (S 1100029) (S 1076 0) (l2_7) (sm_ua (S 21) ((S 53 ((S 1092 0) - 1))) (l3_8))) → (0 ≤ p1 - l3_8) ∧ (((p1 ≤ l3_8) → ((sm_UA (S 21) (S 53 ((S 1092 0) - 1)) p1 → 0 ≤ l3_8 → l3_8 ≤ p1 → 1 ≤ sm_ua (S 21) ((S 53 ((S 1092 0) - 1))) (l3_8)) → ((sm_LK (S 1100029) (S 1076 0) (l2_7) (sm_ua (S 21) ((S 53 ((S 1092 0) - 1))) (l3_8)) → 1 ≤ sm_ua (S 21) ((S 53 ((S 1092 0) - 1))) (l3_8) → 0 ≤ l2_7 ∧ l2_7 < (S 1076 0) ∧ (S 1100029 l2_7) = sm_ua (S 21) ((S 53 ((S 1092 0) - 1))) (l3_8)) → (0 ≤ l2_7 ∧ l2_7 < (S 1076 0) ∧ (S 1100029 l2_7) = sm_ua (S 21) ((S 53 ((S 1092 0) - 1))) (p1))))) ∧ ((¬ (p1 ≤ l3_8)) → ((sm_UA (S 21) (S 53 ((S 1092 0) - 1)) p1 → 0 ≤ l3_8 → l3_8 ≤ p1 → 1 ≤ sm_ua (S 21) ((S 53 ((S 1092 0) - 1))) (l3_8)) → ((sm_LK (S 1100029) (S 1076 0) (l2_7) (sm_ua (S 21) ((S 53 ((S 1092 0) - 1))) (l3_8)) → 1 ≤ sm_ua (S 21) ((S 53 ((S 1092 0) - 1))) (l3_8) → 0 ≤ l2_7 ∧ l2_7 < (S 1076 0) ∧ (S 1100029 l2_7) = sm_ua (S 21) ((S 53 ((S 1092 0) - 1))) (l3_8)) → ((sm_SC (S 1100029) (S 44) (S 45) (S 43) (S 21) (S 1076 0) (S 1032 0) → 0 ≤ l2_7 → l2_7 < (S 1076 0) → (S 1100029 l2_7) = sm_ua (S 21) ((S 53 ((S 1092 0) - 1))) (l3_8) → 1 ≤ sm_ua (S 21) ((S 53 ((S 1092 0) - 1))) (l3_8) → sm_LK (S 1100029) (S 1076 0) ((S 43 l2_7)) ((S 21 (sm_ua (S 21) ((S 53 ((S 1092 0) - 1))) (l3_8))))) → ((0 ≤ l3_8 → sm_ua (S 21) ((S 53 ((S 1092 0) - 1))) (l3_8 + 1) = (S 21 (sm_ua (S 21) ((S 53 ((S 1092 0) - 1))) (l3_8)))) → (0 ≤ l2_7 ∧ l2_7 < 300) ∧ (sv_R (S 43 l2_7) → (sv_R (l3_8 + (1 : Int))) ∧ ((0 ≤ (l3_8 + (1 : Int)) ∧ (l3_8 + (1 : Int)) ≤ p1 ∧ sm_LK (S 1100029) (S 1076 0) ((S 43 l2_7)) (sm_ua (S 21) ((S 53 ((S 1092 0) - 1))) ((l3_8 + (1 : Int))))) ∧ (p1 - (l3_8 + (1 : Int))) < (p1 - l3_8))))))))))))))) := by
  intro p1
  intro S
  intro h1_
  intro h2_
  rintro ⟨h3_, ⟨h4_, ⟨h5_, ⟨h6_, ⟨h7_, ⟨h8_, h9_⟩⟩⟩⟩⟩⟩
  intro h10_
  have h11_ := (h10_ h8_)
  intro h12_
  refine ⟨(la_scopeAt_0 h3_ h4_), ?_⟩
  intro h13_
  intro x5
  intro h14_
  refine ⟨⟨la_scopeAt_1, ⟨h5_, (sm_LK_q h11_ (la_scopeAt_2 h14_) rfl)⟩⟩, ?_⟩
  intro l2_7
  intro h15_
  intro l3_8
  intro h16_
  rintro ⟨h17_, ⟨h18_, h19_⟩⟩
  refine ⟨(la_scopeAt_3 h18_), ?_⟩
  refine ⟨?_, ?_⟩
  · skip
    intro h20_
    intro h21_
    have h22_ := (h21_ h9_)
    have h23_ := (h22_ h17_)
    have h24_ := (h23_ h18_)
    intro h25_
    have h26_ := (h25_ h19_)
    obtain ⟨h27_, ⟨h28_, h29_⟩⟩ := (h26_ h24_)
    refine ⟨h27_, ?_⟩
    refine ⟨h28_, ?_⟩
    have e30_ : sm_ua (S 21) (S 53 (S 1092 0 - 1)) p1 = sm_ua (S 21) (S 53 (S 1092 0 - 1)) l3_8 := congrArg ((sm_ua (S 21) (S 53 (S 1092 0 - 1)))) (la_scopeAt_4 h18_ h20_)
    exact (la_scopeAt_5 h29_ e30_)
  intro h31_
  intro h32_
  have h33_ := (h32_ h9_)
  have h34_ := (h33_ h17_)
  have h35_ := (h34_ h18_)
  intro h36_
  have h37_ := (h36_ h19_)
  obtain ⟨h38_, ⟨h39_, h40_⟩⟩ := (h37_ h35_)
  intro h41_
  have h42_ := (h41_ h7_)
  have h43_ := (h42_ h38_)
  have h44_ := (h43_ h39_)
  have h45_ := (h44_ h40_)
  have h46_ := (h45_ h35_)
  intro h47_
  have h48_ := (h47_ h17_)
  refine ⟨(la_scopeAt_6 h6_ h38_ h39_), ?_⟩
  intro h49_
  refine ⟨(la_scopeAt_7 h2_ h17_ h31_), ?_⟩
  refine ⟨⟨(la_scopeAt_8 h17_), ⟨(la_scopeAt_9 h31_), (sm_LK_q h46_ rfl h48_)⟩⟩, ?_⟩
  exact la_scopeAt_10
set_option maxRecDepth 8000 in
set_option maxHeartbeats 2000000 in
theorem t_scopeAt : ∀ (p1 : Int) (S : sv_S), sm_ok S → sv_R p1 → (1 ≤ (S 1092 0) ∧ (S 1092 0) ≤ 24 ∧ 0 ≤ p1 ∧ (S 1076 0) ≤ 300 ∧ sm_SC (S 1100029) (S 44) (S 45) (S 43) (S 21) (S 1076 0) (S 1032 0) ∧ sm_LK (S 1100029) (S 1076 0) (S 54 ((S 1092 0) - 1)) (S 53 ((S 1092 0) - 1)) ∧ sm_UA (S 21) (S 53 ((S 1092 0) - 1)) p1) → sv_T sm_XS sm_cs sm_L sm_sh 0 (q_scopeAt p1 S) 159 0 (lv_args 0 [.ref 0, sv_I p1]) [] S := by
  intro p1 S hok hp1 hpre
  have h := f_scopeAt p1 S hok hp1 hpre
  have hM := sm_h159
  show sv_T sm_XS sm_cs sm_L sm_sh 0 (q_scopeAt p1 S) 159 0 [(0, .ref 0), (1, sv_I p1)] [] S
  have k1 : (sm_LK (S 1100029) (S 1076 0) (S 54 ((S 1092 0) - 1)) (S 53 ((S 1092 0) - 1)) → sm_LK (S 1100029) (S 1076 0) ((S 54 ((S 1092 0) - 1))) (sm_ua (S 21) ((S 53 ((S 1092 0) - 1))) (0))) := fun h => h
  have h := h k1
  refine sv_aload_n hM dX12_scopeAt_0 rfl rfl ?_
  refine sv_getA hM dX12_scopeAt_1 sm_fl_173 (sm_a0 _) sm_k94 rfl ?_
  refine sv_aload_n hM dX12_scopeAt_4 rfl rfl ?_
  have k2 : sv_R (S 1092 0) := sm_okI hok sm_r1092 0
  have h := h k2
  refine sv_getI hM dX12_scopeAt_5 sm_fl_872 (sm_a0 _) sm_k92 rfl (x := (S 1092 0)) rfl ?_
  refine sv_iconst (d := (1 : Int)) hM dX12_scopeAt_8 rfl rfl ?_
  refine sv_isub hM dX12_scopeAt_9 rfl ?_
  obtain ⟨o3, h⟩ := h
  have k4 : sv_R (S 54 ((S 1092 0) - (1 : Int))) := sm_okI hok sm_r54 ((S 1092 0) - (1 : Int))
  have h := h k4
  refine sv_iald hM dX12_scopeAt_10 (sm_a54 _) (by decide) o3.1 o3.2 rfl (x := (S 54 ((S 1092 0) - (1 : Int)))) rfl ?_
  obtain ⟨x5, e6⟩ : ∃ x : Int, (S 54 ((S 1092 0) - (1 : Int))) = x := ⟨_, rfl⟩
  have h := h x5 e6
  have e6r : sv_R x5 := e6 ▸ k4
  refine sv_nameI e6 ?_
  refine sv_istore_n hM dX12_scopeAt_11 (by decide) rfl ?_
  show sv_T sm_XS sm_cs sm_L sm_sh 0 (q_scopeAt p1 S) 159 12 [(0, .ref 0), (1, sv_I p1), (2, sv_I x5)] [] S
  refine sv_iconst (d := (0 : Int)) hM dX12_scopeAt_12 rfl rfl ?_
  refine sv_istore_n hM dX12_scopeAt_13 (by decide) rfl ?_
  show sv_T sm_XS sm_cs sm_L sm_sh 0 (q_scopeAt p1 S) 159 14 [(0, .ref 0), (1, sv_I p1), (2, sv_I x5), (3, sv_I (0 : Int))] [] S
  obtain ⟨hin10, h⟩ := h
  have hJ : ∀ a : Int × Int × Unit, (sv_R a.1 ∧ sv_R a.2.1 ∧ sm_ok S ∧ (0 ≤ a.2.1 ∧ a.2.1 ≤ p1 ∧ sm_LK (S 1100029) (S 1076 0) (a.1) (sm_ua (S 21) ((S 53 ((S 1092 0) - 1))) (a.2.1)))) → sv_T sm_XS sm_cs sm_L sm_sh 0 (q_scopeAt p1 S) 159 14 [(0, .ref 0), (1, sv_I p1), (2, sv_I a.1), (3, sv_I a.2.1)] [] S := by
    refine sv_loop (α := Int × Int × Unit) (fun a => sv_R a.1 ∧ sv_R a.2.1 ∧ sm_ok S ∧ (0 ≤ a.2.1 ∧ a.2.1 ≤ p1 ∧ sm_LK (S 1100029) (S 1076 0) (a.1) (sm_ua (S 21) ((S 53 ((S 1092 0) - 1))) (a.2.1)))) (fun a => p1 - a.2.1) (fun a => sv_T sm_XS sm_cs sm_L sm_sh 0 (q_scopeAt p1 S) 159 14 [(0, .ref 0), (1, sv_I p1), (2, sv_I a.1), (3, sv_I a.2.1)] [] S) (fun a q => (h a.1 q.1 a.2.1 q.2.1 q.2.2.2).1) (fun a q ih9 => ?_)
    obtain ⟨l2_7, l3_8, _u⟩ := a
    obtain ⟨hl2_7, hl3_8, ok11, hin10i⟩ := q
    have h := (h l2_7 hl2_7 l3_8 hl3_8 hin10i).2
    show sv_T sm_XS sm_cs sm_L sm_sh 0 (q_scopeAt p1 S) 159 14 [(0, .ref 0), (1, sv_I p1), (2, sv_I l2_7), (3, sv_I l3_8)] [] S
    refine sv_iload_n hM dX12_scopeAt_14 rfl rfl ?_
    refine sv_iload_n hM dX12_scopeAt_15 rfl rfl ?_
    refine sv_icmp_ge hM dX12_scopeAt_16 hl3_8 hp1 (t := 32) rfl rfl (fun hc => ?_) (fun hc => ?_)
    · have h := h.1 (hc)
      have k12 : (sm_UA (S 21) (S 53 ((S 1092 0) - 1)) p1 → 0 ≤ l3_8 → l3_8 ≤ p1 → 1 ≤ sm_ua (S 21) ((S 53 ((S 1092 0) - 1))) (l3_8)) := fun h a b => sm_UA_at h _ a b
      have h := h k12
      have k13 : (sm_LK (S 1100029) (S 1076 0) (l2_7) (sm_ua (S 21) ((S 53 ((S 1092 0) - 1))) (l3_8)) → 1 ≤ sm_ua (S 21) ((S 53 ((S 1092 0) - 1))) (l3_8) → 0 ≤ l2_7 ∧ l2_7 < (S 1076 0) ∧ (S 1100029 l2_7) = sm_ua (S 21) ((S 53 ((S 1092 0) - 1))) (l3_8)) := fun h a => sm_LK_1 h a
      have h := h k13
      refine sv_iload_n hM dX12_scopeAt_32 rfl rfl ?_
      exact sv_iret hM dX12_scopeAt_33 rfl rfl ⟨l2_7, rfl, hl2_7, ok11, sv_mod.rf, h⟩
    · have h := h.2 (hc)
      have k14 : (sm_UA (S 21) (S 53 ((S 1092 0) - 1)) p1 → 0 ≤ l3_8 → l3_8 ≤ p1 → 1 ≤ sm_ua (S 21) ((S 53 ((S 1092 0) - 1))) (l3_8)) := fun h a b => sm_UA_at h _ a b
      have h := h k14
      have k15 : (sm_LK (S 1100029) (S 1076 0) (l2_7) (sm_ua (S 21) ((S 53 ((S 1092 0) - 1))) (l3_8)) → 1 ≤ sm_ua (S 21) ((S 53 ((S 1092 0) - 1))) (l3_8) → 0 ≤ l2_7 ∧ l2_7 < (S 1076 0) ∧ (S 1100029 l2_7) = sm_ua (S 21) ((S 53 ((S 1092 0) - 1))) (l3_8)) := fun h a => sm_LK_1 h a
      have h := h k15
      have k16 : (sm_SC (S 1100029) (S 44) (S 45) (S 43) (S 21) (S 1076 0) (S 1032 0) → 0 ≤ l2_7 → l2_7 < (S 1076 0) → (S 1100029 l2_7) = sm_ua (S 21) ((S 53 ((S 1092 0) - 1))) (l3_8) → 1 ≤ sm_ua (S 21) ((S 53 ((S 1092 0) - 1))) (l3_8) → sm_LK (S 1100029) (S 1076 0) ((S 43 l2_7)) ((S 21 (sm_ua (S 21) ((S 53 ((S 1092 0) - 1))) (l3_8))))) := fun h a b e g => e ▸ (sm_SC_s h a b (e ▸ g)).2
      have h := h k16
      have k17 : (0 ≤ l3_8 → sm_ua (S 21) ((S 53 ((S 1092 0) - 1))) (l3_8 + 1) = (S 21 (sm_ua (S 21) ((S 53 ((S 1092 0) - 1))) (l3_8)))) := fun h => sm_ua_s h rfl
      have h := h k17
      refine sv_aload_n hM dX12_scopeAt_19 rfl rfl ?_
      refine sv_getA hM dX12_scopeAt_20 sm_fl_140 (sm_a0 _) sm_k79 rfl ?_
      refine sv_iload_n hM dX12_scopeAt_23 rfl rfl ?_
      obtain ⟨o18, h⟩ := h
      have k19 : sv_R (S 43 l2_7) := sm_okI ok11 sm_r43 l2_7
      have h := h k19
      refine sv_iald hM dX12_scopeAt_24 (sm_a43 _) (by decide) o18.1 o18.2 rfl (x := (S 43 l2_7)) rfl ?_
      refine sv_istore_n hM dX12_scopeAt_25 (by decide) rfl ?_
      show sv_T sm_XS sm_cs sm_L sm_sh 0 (q_scopeAt p1 S) 159 26 [(0, .ref 0), (1, sv_I p1), (2, sv_I (S 43 l2_7)), (3, sv_I l3_8)] [] S
      refine sv_iinc (d := (1 : Int)) hM dX12_scopeAt_26 rfl (by decide) rfl rfl ?_
      show sv_T sm_XS sm_cs sm_L sm_sh 0 (q_scopeAt p1 S) 159 29 [(0, .ref 0), (1, sv_I p1), (2, sv_I (S 43 l2_7)), (3, sv_I (l3_8 + (1 : Int)))] [] S
      refine sv_goto hM dX12_scopeAt_29 (pc' := 14) rfl ?_
      obtain ⟨o20, h⟩ := h
      have hb := ih9 ((S 43 l2_7), (l3_8 + (1 : Int)), ()) ⟨k19, o20, ok11, h.1⟩ h.2
      exact sv_less (lv := [(0, .ref 0), (1, sv_I p1), (2, sv_I (S 43 l2_7)), (3, sv_I (l3_8 + (1 : Int)))]) (sv_Sub_cons rfl (sv_Sub_cons rfl (sv_Sub_cons rfl (sv_Sub_cons rfl sv_Sub_nil)))) hb
  exact hJ (x5, (0 : Int), ()) ⟨e6r, (⟨by decide, by decide⟩ : sv_R (0 : Int)), hok, hin10⟩
def q_under (p1 : Int) (p2 : Int) (S : sv_S) : Option Value → sv_S → Prop := fun v S' => v = none ∧ sm_ok S' ∧ sv_mod [63, 64, 58] S S' ∧ ((S' 58 ((S' 1092 0) - 1)) = (S 58 ((S' 1092 0) - 1)) + 1 ∧ (∀ k : Int, ¬ k = (S' 1092 0) - 1 → (S' 58 k) = (S 58 k)) ∧ sm_F1 (S 63) (S' 63) ((400 * ((S 1092 0) - 1) + (S 58 ((S 1092 0) - 1))) - 3) ∧ (S' 63 (400 * ((S 1092 0) - 1) + (S 58 ((S 1092 0) - 1)))) = p1 ∧ (S' 63 ((400 * ((S 1092 0) - 1) + (S 58 ((S 1092 0) - 1))) - 1)) = (S 63 ((400 * ((S 1092 0) - 1) + (S 58 ((S 1092 0) - 1))) - 2)) ∧ (S' 63 ((400 * ((S 1092 0) - 1) + (S 58 ((S 1092 0) - 1))) - 2)) = (S 63 ((400 * ((S 1092 0) - 1) + (S 58 ((S 1092 0) - 1))) - 3)) ∧ (S' 63 ((400 * ((S 1092 0) - 1) + (S 58 ((S 1092 0) - 1))) - 3)) = p1 ∧ sm_F1 (S 64) (S' 64) ((400 * ((S 1092 0) - 1) + (S 58 ((S 1092 0) - 1))) - 3) ∧ (S' 64 (400 * ((S 1092 0) - 1) + (S 58 ((S 1092 0) - 1)))) = p2 ∧ (S' 64 ((400 * ((S 1092 0) - 1) + (S 58 ((S 1092 0) - 1))) - 1)) = (S 64 ((400 * ((S 1092 0) - 1) + (S 58 ((S 1092 0) - 1))) - 2)) ∧ (S' 64 ((400 * ((S 1092 0) - 1) + (S 58 ((S 1092 0) - 1))) - 2)) = (S 64 ((400 * ((S 1092 0) - 1) + (S 58 ((S 1092 0) - 1))) - 3)) ∧ (S' 64 ((400 * ((S 1092 0) - 1) + (S 58 ((S 1092 0) - 1))) - 3)) = p2)
theorem la_under_0 {x0 x1 : Int} (h0 : 1 ≤ x0) (h1 : x0 ≤ 24) (h2 : 3 ≤ x1) (h3 : x1 < 400) : 1 ≤ x0 ∧ x0 ≤ 24 ∧ 0 ≤ x1 ∧ x1 ≤ 400 := by omega
theorem la_under_1 : (0 : Int) ≤ 0 := by omega
theorem la_under_2 : (0 : Int) ≤ 2 := by omega
theorem la_under_3 {x0 x1 : Int} : (1 : Int) ≤ 0 → x0 = x1 := by omega
theorem la_under_4 {x0 : Int} : (0 : Int) ≤ 1 → x0 = x0 := by omega
theorem la_under_5 {x0 x1 : Int} : (2 : Int) ≤ 0 → x0 = x1 := by omega
theorem la_under_6 {x0 x1 x2 : Int} : ((1 : Int) ≤ 0 → x0 = x1) ∧ ((0 : Int) ≤ 1 → x1 = x1) ∧ ((2 : Int) ≤ 0 → x1 = x2) := by omega
theorem la_under_7 {x0 : Int} (h0 : x0 ≤ 2) : 0 ≤ 2 - x0 := by omega
theorem la_under_8 {x0 : Int} (h0 : 2 ≤ x0) : 1 ≤ x0 := by omega
theorem la_under_9 {x0 : Int} (h0 : 2 ≤ x0) : ¬ x0 ≤ 1 := by omega
theorem la_under_10 {x0 x1 x2 : Int} (h0 : 1 ≤ x0) (h1 : x0 ≤ 24) (h2 : 3 ≤ x1) (h3 : x1 < 400) (h4 : 400 * (x0 - 1) + x1 = x2) : 0 ≤ x2 - 3 ∧ x2 - 3 < 9600 := by omega
theorem la_under_11 {x0 x1 : Int} (h0 : 1 ≤ x0) (h1 : x0 ≤ 24) (h2 : 3 ≤ x1) (h3 : x1 < 400) : 1 ≤ x0 ∧ x0 ≤ 24 ∧ 0 ≤ x1 ∧ x1 ≤ 400 ∧ x1 < 400 := by omega
theorem la_under_12 {x0 x1 : Int} : 400 * (x0 - 1) + x1 - 3 ≤ 400 * (x0 - 1) + x1 := by omega
theorem la_under_13 {x0 x1 : Int} : 400 * (x0 - 1) + x1 - 3 ≤ 400 * (x0 - 1) + x1 - 2 := by omega
theorem la_under_14 {x0 x1 x2 : Int} (h0 : 400 * (x0 - 1) + x1 = x2) : 400 * (x0 - 1) + x1 - 3 ≤ x2 - 3 := by omega
theorem la_under_15 {x0 x1 : Int} : ¬ 400 * (x0 - 1) + x1 - 2 = 400 * (x0 - 1) + x1 := by omega
theorem la_under_16 {x0 x1 : Int} : ¬ 400 * (x0 - 1) + x1 - 1 = 400 * (x0 - 1) + x1 := by omega
theorem la_under_17 {x0 x1 x2 : Int} (h0 : 400 * (x0 - 1) + x1 = x2) : ¬ 400 * (x0 - 1) + x1 - 1 = x2 - 3 := by omega
theorem la_under_18 {x0 x1 x2 : Int} (h0 : 400 * (x0 - 1) + x1 = x2) : ¬ 400 * (x0 - 1) + x1 = x2 - 3 := by omega
theorem la_under_19 {x0 x1 x2 : Int} (h0 : 400 * (x0 - 1) + x1 = x2) : ¬ 400 * (x0 - 1) + x1 - 2 = x2 - 3 := by omega
theorem la_under_20 {x0 : Int} : ¬ ¬ x0 - 1 = x0 - 1 := by omega
theorem la_under_21 {x0 x1 : Int} : ¬ ¬ 400 * (x0 - 1) + x1 = 400 * (x0 - 1) + x1 := by omega
theorem la_under_22 {x0 x1 x2 x3 : Int} (h0 : x0 = x1) (h1 : x2 = x3) (h2 : x3 = x0) : x2 = x1 := by omega
theorem la_under_23 {x0 x1 : Int} : ¬ 400 * (x0 - 1) + x1 - 3 = 400 * (x0 - 1) + x1 := by omega
theorem la_under_24 {x0 x1 x2 : Int} (h0 : 400 * (x0 - 1) + x1 = x2) : 400 * (x0 - 1) + x1 - 3 = x2 - 3 := by omega
theorem la_under_25 {x0 x1 x2 : Int} (h0 : x0 = x1) (h1 : x1 = x2) : x0 = x2 := by omega
theorem la_under_26 {x0 : Int} (h0 : ¬ 2 ≤ x0) : x0 ≤ 1 := by omega
theorem la_under_27 {x0 x1 x2 x3 : Int} (h0 : 1 ≤ x0) (h1 : x0 ≤ 24) (h2 : 3 ≤ x1) (h3 : x1 < 400) (h4 : 400 * (x0 - 1) + x1 = x2) (h5 : 0 ≤ x3) (h6 : ¬ 2 ≤ x3) : 0 ≤ x2 - 2 - x3 ∧ x2 - 2 - x3 < 9600 := by omega
theorem la_under_28 {x0 x1 x2 x3 : Int} (h0 : 1 ≤ x0) (h1 : x0 ≤ 24) (h2 : 3 ≤ x1) (h3 : x1 < 400) (h4 : 400 * (x0 - 1) + x1 = x2) (h5 : 0 ≤ x3) (h6 : ¬ 2 ≤ x3) : 0 ≤ x2 - 1 - x3 ∧ x2 - 1 - x3 < 9600 := by omega
theorem la_under_29 {x0 : Int} (h0 : 0 ≤ x0) (h1 : ¬ 2 ≤ x0) : sv_R (x0 + 1) := by omega
theorem la_under_30 {x0 : Int} (h0 : 0 ≤ x0) : 0 ≤ x0 + 1 := by omega
theorem la_under_31 {x0 : Int} (h0 : ¬ 2 ≤ x0) : x0 + 1 ≤ 2 := by omega
theorem la_under_32 {x0 x1 x2 x3 : Int} (h0 : 400 * (x0 - 1) + x1 = x2) (h1 : ¬ 2 ≤ x3) : 400 * (x0 - 1) + x1 - 2 ≤ x2 - 1 - x3 := by omega
theorem la_under_33 {x0 x1 x2 x3 : Int} (h0 : 400 * (x0 - 1) + x1 = x2) (h1 : 400 * (x0 - 1) + x1 - 1 = x2 - 1 - x3) : ¬ 1 ≤ x3 := by omega
theorem la_under_34 {x0 x1 x2 x3 : Int} (h0 : 400 * (x0 - 1) + x1 - 1 = x2 - 1 - x3) : x2 - 2 - x3 = 400 * (x0 - 1) + x1 - 2 := by omega
theorem la_under_35 {x0 x1 x2 x3 : Int} (h0 : 400 * (x0 - 1) + x1 = x2) (h1 : 0 ≤ x3) : x2 - 1 - x3 ≤ 400 * (x0 - 1) + x1 - 1 := by omega
theorem la_under_36 {x0 x1 x2 x3 : Int} (h0 : x0 - 1 - x1 ≤ 400 * (x2 - 1) + x3 - 1) (h1 : ¬ 400 * (x2 - 1) + x3 - 1 = x0 - 1 - x1) : x0 - 1 - x1 < 400 * (x2 - 1) + x3 - 1 := by omega
theorem la_under_37 {x0 x1 x2 x3 : Int} (h0 : 400 * (x0 - 1) + x1 = x2) (h1 : x2 - 1 - x3 < 400 * (x0 - 1) + x1 - 1) : 1 ≤ x3 := by omega
theorem la_under_38 {x0 : Int} (h0 : x0 + 1 ≤ 1) : ¬ 1 ≤ x0 := by omega
theorem la_under_39 {x0 x1 x2 x3 : Int} (h0 : 400 * (x0 - 1) + x1 = x2) (h1 : x3 + 1 ≤ 1) : ¬ 400 * (x0 - 1) + x1 - 2 = x2 - 1 - x3 := by omega
theorem la_under_40 {x0 x1 x2 x3 : Int} (h0 : 400 * (x0 - 1) + x1 = x2) (h1 : 0 ≤ x3) (h2 : x3 + 1 ≤ 1) : x2 - 2 - x3 = 400 * (x0 - 1) + x1 - 2 := by omega
theorem la_under_41 {x0 x1 x2 : Int} (h0 : x0 = x1) (h1 : x2 = x0) : x2 = x1 := by omega
theorem la_under_42 {x0 : Int} (h0 : 2 ≤ x0 + 1) : 1 ≤ x0 := by omega
theorem la_under_43 {x0 x1 x2 x3 : Int} (h0 : 400 * (x0 - 1) + x1 = x2) (h1 : 2 ≤ x3 + 1) : x2 - 2 - x3 < 400 * (x0 - 1) + x1 - 2 := by omega
theorem la_under_44 {x0 x1 x2 x3 : Int} (h0 : 400 * (x0 - 1) + x1 = x2) (h1 : ¬ 2 ≤ x3) (h2 : 2 ≤ x3 + 1) : 400 * (x0 - 1) + x1 - 2 = x2 - 1 - x3 := by omega
theorem la_under_45 {x0 x1 x2 x3 : Int} (h0 : 400 * (x0 - 1) + x1 = x2) (h1 : ¬ 2 ≤ x3) (h2 : 2 ≤ x3 + 1) : x2 - 2 - x3 = 400 * (x0 - 1) + x1 - 3 := by omega
theorem la_under_46 {x0 x1 x2 x3 : Int} (h0 : x0 = x1) (h1 : x2 = x0) (h2 : x1 = x3) : x2 = x3 := by omega
theorem la_under_47 {x0 : Int} : 2 - (x0 + 1) < 2 - x0 := by omega
set_option maxHeartbeats 2000000 in
theorem f_under : ∀ (p1 : Int) (p2 : Int) (S : sv_S), sm_ok S → sv_R p1 → sv_R p2 → (1 ≤ (S 1092 0) ∧ (S 1092 0) ≤ 24 ∧ 0 ≤ (S 58 ((S 1092 0) - 1)) ∧ (S 58 ((S 1092 0) - 1)) ≤ 400 ∧ 3 ≤ (S 58 ((S 1092 0) - 1)) ∧ (S 58 ((S 1092 0) - 1)) < 400) → (1 ≤ (S 1092 0) ∧ (S 1092 0) ≤ 24 ∧ 0 ≤ (S 58 ((S 1092 0) - 1)) ∧ (S 58 ((S 1092 0) - 1)) ≤ 400) ∧ (∀ x2 : Int, ((400 * ((S 1092 0) - 1) + (S 58 ((S 1092 0) - 1)))) = x2 → ((0 ≤ (0 : Int) ∧ (0 : Int) ≤ 2 ∧ sm_F1 (S 63) (S 63) ((400 * ((S 1092 0) - 1) + (S 58 ((S 1092 0) - 1))) - 2) ∧ (1 ≤ (0 : Int) → (S 63 ((400 * ((S 1092 0) - 1) + (S 58 ((S 1092 0) - 1))) - 1)) = (S 63 ((400 * ((S 1092 0) - 1) + (S 58 ((S 1092 0) - 1))) - 2))) ∧ ((0 : Int) ≤ 1 → (S 63 ((400 * ((S 1092 0) - 1) + (S 58 ((S 1092 0) - 1))) - 2)) = (S 63 ((400 * ((S 1092 0) - 1) + (S 58 ((S 1092 0) - 1))) - 2))) ∧ (2 ≤ (0 : Int) → (S 63 ((400 * ((S 1092 0) - 1) + (S 58 ((S 1092 0) - 1))) - 2)) = (S 63 ((400 * ((S 1092 0) - 1) + (S 58 ((S 1092 0) - 1))) - 3))) ∧ sm_F1 (S 64) (S 64) ((400 * ((S 1092 0) - 1) + (S 58 ((S 1092 0) - 1))) - 2) ∧ (1 ≤ (0 : Int) → (S 64 ((400 * ((S 1092 0) - 1) + (S 58 ((S 1092 0) - 1))) - 1)) = (S 64 ((400 * ((S 1092 0) - 1) + (S 58 ((S 1092 0) - 1))) - 2))) ∧ ((0 : Int) ≤ 1 → (S 64 ((400 * ((S 1092 0) - 1) + (S 58 ((S 1092 0) - 1))) - 2)) = (S 64 ((400 * ((S 1092 0) - 1) + (S 58 ((S 1092 0) - 1))) - 2))) ∧ (2 ≤ (0 : Int) → (S 64 ((400 * ((S 1092 0) - 1) + (S 58 ((S 1092 0) - 1))) - 2)) = (S 64 ((400 * ((S 1092 0) - 1) + (S 58 ((S 1092 0) - 1))) - 3)))) ∧ (∀ l4_5 : Int, sv_R l4_5 → ∀ g4 : sv_S, (0 ≤ l4_5 ∧ l4_5 ≤ 2 ∧ sm_F1 (S 63) (g4 63) ((400 * ((S 1092 0) - 1) + (S 58 ((S 1092 0) - 1))) - 2) ∧ (1 ≤ l4_5 → (g4 63 ((400 * ((S 1092 0) - 1) + (S 58 ((S 1092 0) - 1))) - 1)) = (S 63 ((400 * ((S 1092 0) - 1) + (S 58 ((S 1092 0) - 1))) - 2))) ∧ (l4_5 ≤ 1 → (g4 63 ((400 * ((S 1092 0) - 1) + (S 58 ((S 1092 0) - 1))) - 2)) = (S 63 ((400 * ((S 1092 0) - 1) + (S 58 ((S 1092 0) - 1))) - 2))) ∧ (2 ≤ l4_5 → (g4 63 ((400 * ((S 1092 0) - 1) + (S 58 ((S 1092 0) - 1))) - 2)) = (S 63 ((400 * ((S 1092 0) - 1) + (S 58 ((S 1092 0) - 1))) - 3))) ∧ sm_F1 (S 64) (g4 64) ((400 * ((S 1092 0) - 1) + (S 58 ((S 1092 0) - 1))) - 2) ∧ (1 ≤ l4_5 → (g4 64 ((400 * ((S 1092 0) - 1) + (S 58 ((S 1092 0) - 1))) - 1)) = (S 64 ((400 * ((S 1092 0) - 1) + (S 58 ((S 1092 0) - 1))) - 2))) ∧ (l4_5 ≤ 1 → (g4 64 ((400 * ((S 1092 0) - 1) + (S 58 ((S 1092 0) - 1))) - 2)) = (S 64 ((400 * ((S 1092 0) - 1) + (S 58 ((S 1092 0) - 1))) - 2))) ∧ (2 ≤ l4_5 → (g4 64 ((400 * ((S 1092 0) - 1) + (S 58 ((S 1092 0) - 1))) - 2)) = (S 64 ((400 * ((S 1092 0) - 1) + (S 58 ((S 1092 0) - 1))) - 3)))) → (0 ≤ 2 - l4_5) ∧ ((((2 : Int) ≤ l4_5) → (0 ≤ (x2 - (3 : Int)) ∧ (x2 - (3 : Int)) < 9600) ∧ (1 ≤ (S 1092 0) ∧ (S 1092 0) ≤ 24 ∧ 0 ≤ (S 58 ((S 1092 0) - 1)) ∧ (S 58 ((S 1092 0) - 1)) ≤ 400 ∧ (S 58 ((S 1092 0) - 1)) < 400) ∧ (∀ g19 : sv_S, ((g19 58 ((S 1092 0) - 1)) = (S 58 ((S 1092 0) - 1)) + 1 ∧ (g19 63 (400 * ((S 1092 0) - 1) + (S 58 ((S 1092 0) - 1)))) = p1 ∧ (g19 64 (400 * ((S 1092 0) - 1) + (S 58 ((S 1092 0) - 1)))) = p2 ∧ (∀ k : Int, ¬ k = (S 1092 0) - 1 → (g19 58 k) = (S 58 k)) ∧ (∀ k : Int, ¬ k = (400 * ((S 1092 0) - 1) + (S 58 ((S 1092 0) - 1))) → (g19 63 k) = (if k = (x2 - (3 : Int)) then p1 else (g4 63 k))) ∧ (∀ k : Int, ¬ k = (400 * ((S 1092 0) - 1) + (S 58 ((S 1092 0) - 1))) → (g19 64 k) = (if k = (x2 - (3 : Int)) then p2 else (g4 64 k)))) → ((g19 58 ((S 1092 0) - 1)) = (S 58 ((S 1092 0) - 1)) + 1 ∧ (∀ k : Int, ¬ k = (S 1092 0) - 1 → (g19 58 k) = (S 58 k)) ∧ sm_F1 (S 63) (g19 63) ((400 * ((S 1092 0) - 1) + (S 58 ((S 1092 0) - 1))) - 3) ∧ (g19 63 (400 * ((S 1092 0) - 1) + (S 58 ((S 1092 0) - 1)))) = p1 ∧ (g19 63 ((400 * ((S 1092 0) - 1) + (S 58 ((S 1092 0) - 1))) - 1)) = (S 63 ((400 * ((S 1092 0) - 1) + (S 58 ((S 1092 0) - 1))) - 2)) ∧ (g19 63 ((400 * ((S 1092 0) - 1) + (S 58 ((S 1092 0) - 1))) - 2)) = (S 63 ((400 * ((S 1092 0) - 1) + (S 58 ((S 1092 0) - 1))) - 3)) ∧ (g19 63 ((400 * ((S 1092 0) - 1) + (S 58 ((S 1092 0) - 1))) - 3)) = p1 ∧ sm_F1 (S 64) (g19 64) ((400 * ((S 1092 0) - 1) + (S 58 ((S 1092 0) - 1))) - 3) ∧ (g19 64 (400 * ((S 1092 0) - 1) + (S 58 ((S 1092 0) - 1)))) = p2 ∧ (g19 64 ((400 * ((S 1092 0) - 1) + (S 58 ((S 1092 0) - 1))) - 1)) = (S 64 ((400 * ((S 1092 0) - 1) + (S 58 ((S 1092 0) - 1))) - 2)) ∧ (g19 64 ((400 * ((S 1092 0) - 1) + (S 58 ((S 1092 0) - 1))) - 2)) = (S 64 ((400 * ((S 1092 0) - 1) + (S 58 ((S 1092 0) - 1))) - 3)) ∧ (g19 64 ((400 * ((S 1092 0) - 1) + (S 58 ((S 1092 0) - 1))) - 3)) = p2))) ∧ ((¬ ((2 : Int) ≤ l4_5)) → (0 ≤ ((x2 - (2 : Int)) - l4_5) ∧ ((x2 - (2 : Int)) - l4_5) < 9600) ∧ (sv_R (g4 63 ((x2 - (2 : Int)) - l4_5)) → (0 ≤ ((x2 - (1 : Int)) - l4_5) ∧ ((x2 - (1 : Int)) - l4_5) < 9600) ∧ (sv_R (g4 64 ((x2 - (2 : Int)) - l4_5)) → (sv_R (l4_5 + (1 : Int))) ∧ ((0 ≤ (l4_5 + (1 : Int)) ∧ (l4_5 + (1 : Int)) ≤ 2 ∧ sm_F1 (S 63) (fun i' : Int => if i' = ((x2 - (1 : Int)) - l4_5) then (g4 63 ((x2 - (2 : Int)) - l4_5)) else (g4 63) i') ((400 * ((S 1092 0) - 1) + (S 58 ((S 1092 0) - 1))) - 2) ∧ (1 ≤ (l4_5 + (1 : Int)) → (if ((400 * ((S 1092 0) - 1) + (S 58 ((S 1092 0) - 1))) - 1) = ((x2 - (1 : Int)) - l4_5) then (g4 63 ((x2 - (2 : Int)) - l4_5)) else (g4 63 ((400 * ((S 1092 0) - 1) + (S 58 ((S 1092 0) - 1))) - 1))) = (S 63 ((400 * ((S 1092 0) - 1) + (S 58 ((S 1092 0) - 1))) - 2))) ∧ ((l4_5 + (1 : Int)) ≤ 1 → (if ((400 * ((S 1092 0) - 1) + (S 58 ((S 1092 0) - 1))) - 2) = ((x2 - (1 : Int)) - l4_5) then (g4 63 ((x2 - (2 : Int)) - l4_5)) else (g4 63 ((400 * ((S 1092 0) - 1) + (S 58 ((S 1092 0) - 1))) - 2))) = (S 63 ((400 * ((S 1092 0) - 1) + (S 58 ((S 1092 0) - 1))) - 2))) ∧ (2 ≤ (l4_5 + (1 : Int)) → (if ((400 * ((S 1092 0) - 1) + (S 58 ((S 1092 0) - 1))) - 2) = ((x2 - (1 : Int)) - l4_5) then (g4 63 ((x2 - (2 : Int)) - l4_5)) else (g4 63 ((400 * ((S 1092 0) - 1) + (S 58 ((S 1092 0) - 1))) - 2))) = (S 63 ((400 * ((S 1092 0) - 1) + (S 58 ((S 1092 0) - 1))) - 3))) ∧ sm_F1 (S 64) (fun i' : Int => if i' = ((x2 - (1 : Int)) - l4_5) then (g4 64 ((x2 - (2 : Int)) - l4_5)) else (g4 64) i') ((400 * ((S 1092 0) - 1) + (S 58 ((S 1092 0) - 1))) - 2) ∧ (1 ≤ (l4_5 + (1 : Int)) → (if ((400 * ((S 1092 0) - 1) + (S 58 ((S 1092 0) - 1))) - 1) = ((x2 - (1 : Int)) - l4_5) then (g4 64 ((x2 - (2 : Int)) - l4_5)) else (g4 64 ((400 * ((S 1092 0) - 1) + (S 58 ((S 1092 0) - 1))) - 1))) = (S 64 ((400 * ((S 1092 0) - 1) + (S 58 ((S 1092 0) - 1))) - 2))) ∧ ((l4_5 + (1 : Int)) ≤ 1 → (if ((400 * ((S 1092 0) - 1) + (S 58 ((S 1092 0) - 1))) - 2) = ((x2 - (1 : Int)) - l4_5) then (g4 64 ((x2 - (2 : Int)) - l4_5)) else (g4 64 ((400 * ((S 1092 0) - 1) + (S 58 ((S 1092 0) - 1))) - 2))) = (S 64 ((400 * ((S 1092 0) - 1) + (S 58 ((S 1092 0) - 1))) - 2))) ∧ (2 ≤ (l4_5 + (1 : Int)) → (if ((400 * ((S 1092 0) - 1) + (S 58 ((S 1092 0) - 1))) - 2) = ((x2 - (1 : Int)) - l4_5) then (g4 64 ((x2 - (2 : Int)) - l4_5)) else (g4 64 ((400 * ((S 1092 0) - 1) + (S 58 ((S 1092 0) - 1))) - 2))) = (S 64 ((400 * ((S 1092 0) - 1) + (S 58 ((S 1092 0) - 1))) - 3)))) ∧ (2 - (l4_5 + (1 : Int))) < (2 - l4_5))))))))) := by
  intro p1
  intro p2
  intro S
  intro h1_
  intro h2_
  intro h3_
  rintro ⟨h4_, ⟨h5_, ⟨h6_, ⟨h7_, ⟨h8_, h9_⟩⟩⟩⟩⟩
  refine ⟨(la_under_0 h4_ h5_ h8_ h9_), ?_⟩
  intro x2
  intro h10_
  refine ⟨⟨la_under_1, ⟨la_under_2, ⟨sm_F1_rf, ⟨la_under_3, ⟨la_under_4, ⟨la_under_5, ⟨sm_F1_rf, la_under_6⟩⟩⟩⟩⟩⟩⟩, ?_⟩
  intro l4_5
  intro h11_
  intro g4
  rintro ⟨h12_, ⟨h13_, ⟨h14_, ⟨h15_, ⟨h16_, ⟨h17_, ⟨h18_, ⟨h19_, ⟨h20_, h21_⟩⟩⟩⟩⟩⟩⟩⟩⟩
  refine ⟨(la_under_7 h13_), ?_⟩
  refine ⟨?_, ?_⟩
  · skip
    intro h22_
    have h23_ := (h15_ (la_under_8 h22_))
    have h24_ := (h17_ h22_)
    have h25_ := (h19_ (la_under_8 h22_))
    have h26_ := (h21_ h22_)
    refine ⟨(la_under_10 h4_ h5_ h8_ h9_ h10_), ?_⟩
    refine ⟨(la_under_11 h4_ h5_ h8_ h9_), ?_⟩
    intro g19
    rintro ⟨h27_, ⟨h28_, ⟨h29_, ⟨h30_, ⟨h31_, h32_⟩⟩⟩⟩⟩
    refine ⟨h27_, ?_⟩
    refine ⟨h30_, ?_⟩
    refine ⟨(sm_F1_tr (sm_F1_up (sm_F1_le h14_ la_under_13) (la_under_14 h10_)) (sm_F1_ne h31_ (Int.le_refl _)) la_under_12), ?_⟩
    refine ⟨h28_, ?_⟩
    refine ⟨?_, ?_⟩
    · skip
      have h33_ := (h30_ (S 1092 0 - 1))
      have h34_ := (h31_ (400 * (S 1092 0 - 1) + S 58 (S 1092 0 - 1)))
      have h35_ := ((h31_ (400 * (S 1092 0 - 1) + S 58 (S 1092 0 - 1) - 2)) la_under_15)
      have h36_ := ((h31_ (400 * (S 1092 0 - 1) + S 58 (S 1092 0 - 1) - 1)) la_under_16)
      have h37_ := (h32_ (400 * (S 1092 0 - 1) + S 58 (S 1092 0 - 1)))
      have h38_ := ((h32_ (400 * (S 1092 0 - 1) + S 58 (S 1092 0 - 1) - 2)) la_under_15)
      have h39_ := ((h32_ (400 * (S 1092 0 - 1) + S 58 (S 1092 0 - 1) - 1)) la_under_16)
      have e40_ : (if 400 * (S 1092 0 - 1) + S 58 (S 1092 0 - 1) - 1 = x2 - 3 then p1 else g4 63 (400 * (S 1092 0 - 1) + S 58 (S 1092 0 - 1) - 1) : Int) = g4 63 (400 * (S 1092 0 - 1) + S 58 (S 1092 0 - 1) - 1) := if_neg (la_under_17 h10_)
      have e41_ : (if 400 * (S 1092 0 - 1) + S 58 (S 1092 0 - 1) = x2 - 3 then p2 else g4 64 (400 * (S 1092 0 - 1) + S 58 (S 1092 0 - 1)) : Int) = g4 64 (400 * (S 1092 0 - 1) + S 58 (S 1092 0 - 1)) := if_neg (la_under_18 h10_)
      have e42_ : (if 400 * (S 1092 0 - 1) + S 58 (S 1092 0 - 1) = x2 - 3 then p1 else g4 63 (400 * (S 1092 0 - 1) + S 58 (S 1092 0 - 1)) : Int) = g4 63 (400 * (S 1092 0 - 1) + S 58 (S 1092 0 - 1)) := if_neg (la_under_18 h10_)
      have e43_ : (if 400 * (S 1092 0 - 1) + S 58 (S 1092 0 - 1) - 2 = x2 - 3 then p2 else g4 64 (400 * (S 1092 0 - 1) + S 58 (S 1092 0 - 1) - 2) : Int) = g4 64 (400 * (S 1092 0 - 1) + S 58 (S 1092 0 - 1) - 2) := if_neg (la_under_19 h10_)
      have e44_ : (if 400 * (S 1092 0 - 1) + S 58 (S 1092 0 - 1) - 1 = x2 - 3 then p2 else g4 64 (400 * (S 1092 0 - 1) + S 58 (S 1092 0 - 1) - 1) : Int) = g4 64 (400 * (S 1092 0 - 1) + S 58 (S 1092 0 - 1) - 1) := if_neg (la_under_17 h10_)
      have e45_ : (if 400 * (S 1092 0 - 1) + S 58 (S 1092 0 - 1) - 2 = x2 - 3 then p1 else g4 63 (400 * (S 1092 0 - 1) + S 58 (S 1092 0 - 1) - 2) : Int) = g4 63 (400 * (S 1092 0 - 1) + S 58 (S 1092 0 - 1) - 2) := if_neg (la_under_19 h10_)
      exact (la_under_22 h23_ h36_ e40_)
    refine ⟨?_, ?_⟩
    · skip
      have h46_ := (h30_ (S 1092 0 - 1))
      have h47_ := (h31_ (400 * (S 1092 0 - 1) + S 58 (S 1092 0 - 1)))
      have h48_ := ((h31_ (400 * (S 1092 0 - 1) + S 58 (S 1092 0 - 1) - 2)) la_under_15)
      have h49_ := ((h31_ (400 * (S 1092 0 - 1) + S 58 (S 1092 0 - 1) - 1)) la_under_16)
      have h50_ := (h32_ (400 * (S 1092 0 - 1) + S 58 (S 1092 0 - 1)))
      have h51_ := ((h32_ (400 * (S 1092 0 - 1) + S 58 (S 1092 0 - 1) - 2)) la_under_15)
      have h52_ := ((h32_ (400 * (S 1092 0 - 1) + S 58 (S 1092 0 - 1) - 1)) la_under_16)
      have e53_ : (if 400 * (S 1092 0 - 1) + S 58 (S 1092 0 - 1) - 1 = x2 - 3 then p1 else g4 63 (400 * (S 1092 0 - 1) + S 58 (S 1092 0 - 1) - 1) : Int) = g4 63 (400 * (S 1092 0 - 1) + S 58 (S 1092 0 - 1) - 1) := if_neg (la_under_17 h10_)
      have e54_ : (if 400 * (S 1092 0 - 1) + S 58 (S 1092 0 - 1) = x2 - 3 then p2 else g4 64 (400 * (S 1092 0 - 1) + S 58 (S 1092 0 - 1)) : Int) = g4 64 (400 * (S 1092 0 - 1) + S 58 (S 1092 0 - 1)) := if_neg (la_under_18 h10_)
      have e55_ : (if 400 * (S 1092 0 - 1) + S 58 (S 1092 0 - 1) = x2 - 3 then p1 else g4 63 (400 * (S 1092 0 - 1) + S 58 (S 1092 0 - 1)) : Int) = g4 63 (400 * (S 1092 0 - 1) + S 58 (S 1092 0 - 1)) := if_neg (la_under_18 h10_)
      have e56_ : (if 400 * (S 1092 0 - 1) + S 58 (S 1092 0 - 1) - 2 = x2 - 3 then p2 else g4 64 (400 * (S 1092 0 - 1) + S 58 (S 1092 0 - 1) - 2) : Int) = g4 64 (400 * (S 1092 0 - 1) + S 58 (S 1092 0 - 1) - 2) := if_neg (la_under_19 h10_)
      have e57_ : (if 400 * (S 1092 0 - 1) + S 58 (S 1092 0 - 1) - 1 = x2 - 3 then p2 else g4 64 (400 * (S 1092 0 - 1) + S 58 (S 1092 0 - 1) - 1) : Int) = g4 64 (400 * (S 1092 0 - 1) + S 58 (S 1092 0 - 1) - 1) := if_neg (la_under_17 h10_)
      have e58_ : (if 400 * (S 1092 0 - 1) + S 58 (S 1092 0 - 1) - 2 = x2 - 3 then p1 else g4 63 (400 * (S 1092 0 - 1) + S 58 (S 1092 0 - 1) - 2) : Int) = g4 63 (400 * (S 1092 0 - 1) + S 58 (S 1092 0 - 1) - 2) := if_neg (la_under_19 h10_)
      exact (la_under_22 h24_ h48_ e58_)
    refine ⟨?_, ?_⟩
    · skip
      have h59_ := (h30_ (S 1092 0 - 1))
      have h60_ := ((h31_ (400 * (S 1092 0 - 1) + S 58 (S 1092 0 - 1) - 3)) la_under_23)
      have h61_ := (h31_ (400 * (S 1092 0 - 1) + S 58 (S 1092 0 - 1)))
      have h62_ := ((h31_ (400 * (S 1092 0 - 1) + S 58 (S 1092 0 - 1) - 2)) la_under_15)
      have h63_ := ((h31_ (400 * (S 1092 0 - 1) + S 58 (S 1092 0 - 1) - 1)) la_under_16)
      have h64_ := (h32_ (400 * (S 1092 0 - 1) + S 58 (S 1092 0 - 1)))
      have h65_ := ((h32_ (400 * (S 1092 0 - 1) + S 58 (S 1092 0 - 1) - 2)) la_under_15)
      have h66_ := ((h32_ (400 * (S 1092 0 - 1) + S 58 (S 1092 0 - 1) - 1)) la_under_16)
      have e67_ : (if 400 * (S 1092 0 - 1) + S 58 (S 1092 0 - 1) - 1 = x2 - 3 then p1 else g4 63 (400 * (S 1092 0 - 1) + S 58 (S 1092 0 - 1) - 1) : Int) = g4 63 (400 * (S 1092 0 - 1) + S 58 (S 1092 0 - 1) - 1) := if_neg (la_under_17 h10_)
      have e68_ : (if 400 * (S 1092 0 - 1) + S 58 (S 1092 0 - 1) - 3 = x2 - 3 then p1 else g4 63 (400 * (S 1092 0 - 1) + S 58 (S 1092 0 - 1) - 3) : Int) = p1 := if_pos (la_under_24 h10_)
      have e69_ : (if 400 * (S 1092 0 - 1) + S 58 (S 1092 0 - 1) = x2 - 3 then p2 else g4 64 (400 * (S 1092 0 - 1) + S 58 (S 1092 0 - 1)) : Int) = g4 64 (400 * (S 1092 0 - 1) + S 58 (S 1092 0 - 1)) := if_neg (la_under_18 h10_)
      have e70_ : (if 400 * (S 1092 0 - 1) + S 58 (S 1092 0 - 1) = x2 - 3 then p1 else g4 63 (400 * (S 1092 0 - 1) + S 58 (S 1092 0 - 1)) : Int) = g4 63 (400 * (S 1092 0 - 1) + S 58 (S 1092 0 - 1)) := if_neg (la_under_18 h10_)
      have e71_ : (if 400 * (S 1092 0 - 1) + S 58 (S 1092 0 - 1) - 2 = x2 - 3 then p2 else g4 64 (400 * (S 1092 0 - 1) + S 58 (S 1092 0 - 1) - 2) : Int) = g4 64 (400 * (S 1092 0 - 1) + S 58 (S 1092 0 - 1) - 2) := if_neg (la_under_19 h10_)
      have e72_ : (if 400 * (S 1092 0 - 1) + S 58 (S 1092 0 - 1) - 1 = x2 - 3 then p2 else g4 64 (400 * (S 1092 0 - 1) + S 58 (S 1092 0 - 1) - 1) : Int) = g4 64 (400 * (S 1092 0 - 1) + S 58 (S 1092 0 - 1) - 1) := if_neg (la_under_17 h10_)
      have e73_ : (if 400 * (S 1092 0 - 1) + S 58 (S 1092 0 - 1) - 2 = x2 - 3 then p1 else g4 63 (400 * (S 1092 0 - 1) + S 58 (S 1092 0 - 1) - 2) : Int) = g4 63 (400 * (S 1092 0 - 1) + S 58 (S 1092 0 - 1) - 2) := if_neg (la_under_19 h10_)
      exact (la_under_25 h60_ e68_)
    refine ⟨(sm_F1_tr (sm_F1_up (sm_F1_le h18_ la_under_13) (la_under_14 h10_)) (sm_F1_ne h32_ (Int.le_refl _)) la_under_12), ?_⟩
    refine ⟨h29_, ?_⟩
    refine ⟨?_, ?_⟩
    · skip
      have h74_ := (h30_ (S 1092 0 - 1))
      have h75_ := (h31_ (400 * (S 1092 0 - 1) + S 58 (S 1092 0 - 1)))
      have h76_ := ((h31_ (400 * (S 1092 0 - 1) + S 58 (S 1092 0 - 1) - 2)) la_under_15)
      have h77_ := ((h31_ (400 * (S 1092 0 - 1) + S 58 (S 1092 0 - 1) - 1)) la_under_16)
      have h78_ := (h32_ (400 * (S 1092 0 - 1) + S 58 (S 1092 0 - 1)))
      have h79_ := ((h32_ (400 * (S 1092 0 - 1) + S 58 (S 1092 0 - 1) - 2)) la_under_15)
      have h80_ := ((h32_ (400 * (S 1092 0 - 1) + S 58 (S 1092 0 - 1) - 1)) la_under_16)
      have e81_ : (if 400 * (S 1092 0 - 1) + S 58 (S 1092 0 - 1) - 1 = x2 - 3 then p1 else g4 63 (400 * (S 1092 0 - 1) + S 58 (S 1092 0 - 1) - 1) : Int) = g4 63 (400 * (S 1092 0 - 1) + S 58 (S 1092 0 - 1) - 1) := if_neg (la_under_17 h10_)
      have e82_ : (if 400 * (S 1092 0 - 1) + S 58 (S 1092 0 - 1) = x2 - 3 then p2 else g4 64 (400 * (S 1092 0 - 1) + S 58 (S 1092 0 - 1)) : Int) = g4 64 (400 * (S 1092 0 - 1) + S 58 (S 1092 0 - 1)) := if_neg (la_under_18 h10_)
      have e83_ : (if 400 * (S 1092 0 - 1) + S 58 (S 1092 0 - 1) = x2 - 3 then p1 else g4 63 (400 * (S 1092 0 - 1) + S 58 (S 1092 0 - 1)) : Int) = g4 63 (400 * (S 1092 0 - 1) + S 58 (S 1092 0 - 1)) := if_neg (la_under_18 h10_)
      have e84_ : (if 400 * (S 1092 0 - 1) + S 58 (S 1092 0 - 1) - 2 = x2 - 3 then p2 else g4 64 (400 * (S 1092 0 - 1) + S 58 (S 1092 0 - 1) - 2) : Int) = g4 64 (400 * (S 1092 0 - 1) + S 58 (S 1092 0 - 1) - 2) := if_neg (la_under_19 h10_)
      have e85_ : (if 400 * (S 1092 0 - 1) + S 58 (S 1092 0 - 1) - 1 = x2 - 3 then p2 else g4 64 (400 * (S 1092 0 - 1) + S 58 (S 1092 0 - 1) - 1) : Int) = g4 64 (400 * (S 1092 0 - 1) + S 58 (S 1092 0 - 1) - 1) := if_neg (la_under_17 h10_)
      have e86_ : (if 400 * (S 1092 0 - 1) + S 58 (S 1092 0 - 1) - 2 = x2 - 3 then p1 else g4 63 (400 * (S 1092 0 - 1) + S 58 (S 1092 0 - 1) - 2) : Int) = g4 63 (400 * (S 1092 0 - 1) + S 58 (S 1092 0 - 1) - 2) := if_neg (la_under_19 h10_)
      exact (la_under_22 h25_ h80_ e85_)
    refine ⟨?_, ?_⟩
    · skip
      have h87_ := (h30_ (S 1092 0 - 1))
      have h88_ := (h31_ (400 * (S 1092 0 - 1) + S 58 (S 1092 0 - 1)))
      have h89_ := ((h31_ (400 * (S 1092 0 - 1) + S 58 (S 1092 0 - 1) - 2)) la_under_15)
      have h90_ := ((h31_ (400 * (S 1092 0 - 1) + S 58 (S 1092 0 - 1) - 1)) la_under_16)
      have h91_ := (h32_ (400 * (S 1092 0 - 1) + S 58 (S 1092 0 - 1)))
      have h92_ := ((h32_ (400 * (S 1092 0 - 1) + S 58 (S 1092 0 - 1) - 2)) la_under_15)
      have h93_ := ((h32_ (400 * (S 1092 0 - 1) + S 58 (S 1092 0 - 1) - 1)) la_under_16)
      have e94_ : (if 400 * (S 1092 0 - 1) + S 58 (S 1092 0 - 1) - 1 = x2 - 3 then p1 else g4 63 (400 * (S 1092 0 - 1) + S 58 (S 1092 0 - 1) - 1) : Int) = g4 63 (400 * (S 1092 0 - 1) + S 58 (S 1092 0 - 1) - 1) := if_neg (la_under_17 h10_)
      have e95_ : (if 400 * (S 1092 0 - 1) + S 58 (S 1092 0 - 1) = x2 - 3 then p2 else g4 64 (400 * (S 1092 0 - 1) + S 58 (S 1092 0 - 1)) : Int) = g4 64 (400 * (S 1092 0 - 1) + S 58 (S 1092 0 - 1)) := if_neg (la_under_18 h10_)
      have e96_ : (if 400 * (S 1092 0 - 1) + S 58 (S 1092 0 - 1) = x2 - 3 then p1 else g4 63 (400 * (S 1092 0 - 1) + S 58 (S 1092 0 - 1)) : Int) = g4 63 (400 * (S 1092 0 - 1) + S 58 (S 1092 0 - 1)) := if_neg (la_under_18 h10_)
      have e97_ : (if 400 * (S 1092 0 - 1) + S 58 (S 1092 0 - 1) - 2 = x2 - 3 then p2 else g4 64 (400 * (S 1092 0 - 1) + S 58 (S 1092 0 - 1) - 2) : Int) = g4 64 (400 * (S 1092 0 - 1) + S 58 (S 1092 0 - 1) - 2) := if_neg (la_under_19 h10_)
      have e98_ : (if 400 * (S 1092 0 - 1) + S 58 (S 1092 0 - 1) - 1 = x2 - 3 then p2 else g4 64 (400 * (S 1092 0 - 1) + S 58 (S 1092 0 - 1) - 1) : Int) = g4 64 (400 * (S 1092 0 - 1) + S 58 (S 1092 0 - 1) - 1) := if_neg (la_under_17 h10_)
      have e99_ : (if 400 * (S 1092 0 - 1) + S 58 (S 1092 0 - 1) - 2 = x2 - 3 then p1 else g4 63 (400 * (S 1092 0 - 1) + S 58 (S 1092 0 - 1) - 2) : Int) = g4 63 (400 * (S 1092 0 - 1) + S 58 (S 1092 0 - 1) - 2) := if_neg (la_under_19 h10_)
      exact (la_under_22 h26_ h92_ e97_)
    have h100_ := (h30_ (S 1092 0 - 1))
    have h101_ := (h31_ (400 * (S 1092 0 - 1) + S 58 (S 1092 0 - 1)))
    have h102_ := ((h31_ (400 * (S 1092 0 - 1) + S 58 (S 1092 0 - 1) - 2)) la_under_15)
    have h103_ := ((h31_ (400 * (S 1092 0 - 1) + S 58 (S 1092 0 - 1) - 1)) la_under_16)
    have h104_ := ((h32_ (400 * (S 1092 0 - 1) + S 58 (S 1092 0 - 1) - 3)) la_under_23)
    have h105_ := (h32_ (400 * (S 1092 0 - 1) + S 58 (S 1092 0 - 1)))
    have h106_ := ((h32_ (400 * (S 1092 0 - 1) + S 58 (S 1092 0 - 1) - 2)) la_under_15)
    have h107_ := ((h32_ (400 * (S 1092 0 - 1) + S 58 (S 1092 0 - 1) - 1)) la_under_16)
    have e108_ : (if 400 * (S 1092 0 - 1) + S 58 (S 1092 0 - 1) - 1 = x2 - 3 then p1 else g4 63 (400 * (S 1092 0 - 1) + S 58 (S 1092 0 - 1) - 1) : Int) = g4 63 (400 * (S 1092 0 - 1) + S 58 (S 1092 0 - 1) - 1) := if_neg (la_under_17 h10_)
    have e109_ : (if 400 * (S 1092 0 - 1) + S 58 (S 1092 0 - 1) = x2 - 3 then p2 else g4 64 (400 * (S 1092 0 - 1) + S 58 (S 1092 0 - 1)) : Int) = g4 64 (400 * (S 1092 0 - 1) + S 58 (S 1092 0 - 1)) := if_neg (la_under_18 h10_)
    have e110_ : (if 400 * (S 1092 0 - 1) + S 58 (S 1092 0 - 1) = x2 - 3 then p1 else g4 63 (400 * (S 1092 0 - 1) + S 58 (S 1092 0 - 1)) : Int) = g4 63 (400 * (S 1092 0 - 1) + S 58 (S 1092 0 - 1)) := if_neg (la_under_18 h10_)
    have e111_ : (if 400 * (S 1092 0 - 1) + S 58 (S 1092 0 - 1) - 2 = x2 - 3 then p2 else g4 64 (400 * (S 1092 0 - 1) + S 58 (S 1092 0 - 1) - 2) : Int) = g4 64 (400 * (S 1092 0 - 1) + S 58 (S 1092 0 - 1) - 2) := if_neg (la_under_19 h10_)
    have e112_ : (if 400 * (S 1092 0 - 1) + S 58 (S 1092 0 - 1) - 3 = x2 - 3 then p2 else g4 64 (400 * (S 1092 0 - 1) + S 58 (S 1092 0 - 1) - 3) : Int) = p2 := if_pos (la_under_24 h10_)
    have e113_ : (if 400 * (S 1092 0 - 1) + S 58 (S 1092 0 - 1) - 1 = x2 - 3 then p2 else g4 64 (400 * (S 1092 0 - 1) + S 58 (S 1092 0 - 1) - 1) : Int) = g4 64 (400 * (S 1092 0 - 1) + S 58 (S 1092 0 - 1) - 1) := if_neg (la_under_17 h10_)
    have e114_ : (if 400 * (S 1092 0 - 1) + S 58 (S 1092 0 - 1) - 2 = x2 - 3 then p1 else g4 63 (400 * (S 1092 0 - 1) + S 58 (S 1092 0 - 1) - 2) : Int) = g4 63 (400 * (S 1092 0 - 1) + S 58 (S 1092 0 - 1) - 2) := if_neg (la_under_19 h10_)
    exact (la_under_25 h104_ e112_)
  intro h115_
  have h116_ := (h16_ (la_under_26 h115_))
  have h117_ := (h20_ (la_under_26 h115_))
  refine ⟨(la_under_27 h4_ h5_ h8_ h9_ h10_ h12_ h115_), ?_⟩
  intro h118_
  refine ⟨(la_under_28 h4_ h5_ h8_ h9_ h10_ h12_ h115_), ?_⟩
  intro h119_
  refine ⟨(la_under_29 h12_ h115_), ?_⟩
  refine ⟨?_, ?_⟩
  · skip
    refine ⟨(la_under_30 h12_), ?_⟩
    refine ⟨(la_under_31 h115_), ?_⟩
    refine ⟨(sm_F1_up (sm_F1_le h14_ (Int.le_refl _)) (la_under_32 h10_ h115_)), ?_⟩
    refine ⟨?_, ?_⟩
    · skip
      intro h120_
      by_cases c121_ : 400 * (S 1092 0 - 1) + S 58 (S 1092 0 - 1) - 1 = x2 - 1 - l4_5
      · skip
        have e122_ : (if 400 * (S 1092 0 - 1) + S 58 (S 1092 0 - 1) - 1 = x2 - 1 - l4_5 then g4 63 (x2 - 2 - l4_5) else g4 63 (400 * (S 1092 0 - 1) + S 58 (S 1092 0 - 1) - 1) : Int) = g4 63 (x2 - 2 - l4_5) := if_pos c121_
        have e123_ : g4 63 (x2 - 2 - l4_5) = g4 63 (400 * (S 1092 0 - 1) + S 58 (S 1092 0 - 1) - 2) := congrArg ((g4 63)) (la_under_34 c121_)
        have e124_ : g4 64 (x2 - 2 - l4_5) = g4 64 (400 * (S 1092 0 - 1) + S 58 (S 1092 0 - 1) - 2) := congrArg ((g4 64)) (la_under_34 c121_)
        exact (la_under_22 h116_ e122_ e123_)
      · skip
        have e125_ : (if 400 * (S 1092 0 - 1) + S 58 (S 1092 0 - 1) - 1 = x2 - 1 - l4_5 then g4 63 (x2 - 2 - l4_5) else g4 63 (400 * (S 1092 0 - 1) + S 58 (S 1092 0 - 1) - 1) : Int) = g4 63 (400 * (S 1092 0 - 1) + S 58 (S 1092 0 - 1) - 1) := if_neg c121_
        have h126_ := (h15_ (la_under_37 h10_ (la_under_36 (la_under_35 h10_ h12_) c121_)))
        have h127_ := (h19_ (la_under_37 h10_ (la_under_36 (la_under_35 h10_ h12_) c121_)))
        exact (la_under_25 e125_ h126_)
    refine ⟨?_, ?_⟩
    · skip
      intro h128_
      have e129_ : (if 400 * (S 1092 0 - 1) + S 58 (S 1092 0 - 1) - 2 = x2 - 1 - l4_5 then g4 63 (x2 - 2 - l4_5) else g4 63 (400 * (S 1092 0 - 1) + S 58 (S 1092 0 - 1) - 2) : Int) = g4 63 (400 * (S 1092 0 - 1) + S 58 (S 1092 0 - 1) - 2) := if_neg (la_under_39 h10_ h128_)
      have e130_ : g4 63 (x2 - 2 - l4_5) = g4 63 (400 * (S 1092 0 - 1) + S 58 (S 1092 0 - 1) - 2) := congrArg ((g4 63)) (la_under_40 h10_ h12_ h128_)
      have e131_ : g4 64 (x2 - 2 - l4_5) = g4 64 (400 * (S 1092 0 - 1) + S 58 (S 1092 0 - 1) - 2) := congrArg ((g4 64)) (la_under_40 h10_ h12_ h128_)
      exact (la_under_41 h116_ e129_)
    refine ⟨?_, ?_⟩
    · skip
      intro h132_
      have h133_ := (h15_ (la_under_42 h132_))
      have h134_ := (h19_ (la_under_42 h132_))
      have e135_ : (if 400 * (S 1092 0 - 1) + S 58 (S 1092 0 - 1) - 2 = x2 - 1 - l4_5 then g4 63 (x2 - 2 - l4_5) else g4 63 (400 * (S 1092 0 - 1) + S 58 (S 1092 0 - 1) - 2) : Int) = g4 63 (x2 - 2 - l4_5) := if_pos (la_under_44 h10_ h115_ h132_)
      have e136_ : S 63 (x2 - 2 - l4_5) = S 63 (400 * (S 1092 0 - 1) + S 58 (S 1092 0 - 1) - 3) := congrArg ((S 63)) (la_under_45 h10_ h115_ h132_)
      exact (la_under_46 (sm_F1_at h14_ (x2 - 2 - l4_5) (la_under_43 h10_ h132_)) e135_ e136_)
    refine ⟨(sm_F1_up (sm_F1_le h18_ (Int.le_refl _)) (la_under_32 h10_ h115_)), ?_⟩
    refine ⟨?_, ?_⟩
    · skip
      intro h137_
      by_cases c138_ : 400 * (S 1092 0 - 1) + S 58 (S 1092 0 - 1) - 1 = x2 - 1 - l4_5
      · skip
        have e139_ : (if 400 * (S 1092 0 - 1) + S 58 (S 1092 0 - 1) - 1 = x2 - 1 - l4_5 then g4 64 (x2 - 2 - l4_5) else g4 64 (400 * (S 1092 0 - 1) + S 58 (S 1092 0 - 1) - 1) : Int) = g4 64 (x2 - 2 - l4_5) := if_pos c138_
        have e140_ : g4 63 (x2 - 2 - l4_5) = g4 63 (400 * (S 1092 0 - 1) + S 58 (S 1092 0 - 1) - 2) := congrArg ((g4 63)) (la_under_34 c138_)
        have e141_ : g4 64 (x2 - 2 - l4_5) = g4 64 (400 * (S 1092 0 - 1) + S 58 (S 1092 0 - 1) - 2) := congrArg ((g4 64)) (la_under_34 c138_)
        exact (la_under_22 h117_ e139_ e141_)
      · skip
        have e142_ : (if 400 * (S 1092 0 - 1) + S 58 (S 1092 0 - 1) - 1 = x2 - 1 - l4_5 then g4 64 (x2 - 2 - l4_5) else g4 64 (400 * (S 1092 0 - 1) + S 58 (S 1092 0 - 1) - 1) : Int) = g4 64 (400 * (S 1092 0 - 1) + S 58 (S 1092 0 - 1) - 1) := if_neg c138_
        have h143_ := (h15_ (la_under_37 h10_ (la_under_36 (la_under_35 h10_ h12_) c138_)))
        have h144_ := (h19_ (la_under_37 h10_ (la_under_36 (la_under_35 h10_ h12_) c138_)))
        exact (la_under_25 e142_ h144_)
    refine ⟨?_, ?_⟩
    · skip
      intro h145_
      have e146_ : (if 400 * (S 1092 0 - 1) + S 58 (S 1092 0 - 1) - 2 = x2 - 1 - l4_5 then g4 64 (x2 - 2 - l4_5) else g4 64 (400 * (S 1092 0 - 1) + S 58 (S 1092 0 - 1) - 2) : Int) = g4 64 (400 * (S 1092 0 - 1) + S 58 (S 1092 0 - 1) - 2) := if_neg (la_under_39 h10_ h145_)
      have e147_ : g4 63 (x2 - 2 - l4_5) = g4 63 (400 * (S 1092 0 - 1) + S 58 (S 1092 0 - 1) - 2) := congrArg ((g4 63)) (la_under_40 h10_ h12_ h145_)
      have e148_ : g4 64 (x2 - 2 - l4_5) = g4 64 (400 * (S 1092 0 - 1) + S 58 (S 1092 0 - 1) - 2) := congrArg ((g4 64)) (la_under_40 h10_ h12_ h145_)
      exact (la_under_41 h117_ e146_)
    intro h149_
    have h150_ := (h15_ (la_under_42 h149_))
    have h151_ := (h19_ (la_under_42 h149_))
    have e152_ : (if 400 * (S 1092 0 - 1) + S 58 (S 1092 0 - 1) - 2 = x2 - 1 - l4_5 then g4 64 (x2 - 2 - l4_5) else g4 64 (400 * (S 1092 0 - 1) + S 58 (S 1092 0 - 1) - 2) : Int) = g4 64 (x2 - 2 - l4_5) := if_pos (la_under_44 h10_ h115_ h149_)
    have e153_ : S 64 (x2 - 2 - l4_5) = S 64 (400 * (S 1092 0 - 1) + S 58 (S 1092 0 - 1) - 3) := congrArg ((S 64)) (la_under_45 h10_ h115_ h149_)
    exact (la_under_46 (sm_F1_at h18_ (x2 - 2 - l4_5) (la_under_43 h10_ h149_)) e152_ e153_)
  exact la_under_47
set_option maxRecDepth 8000 in
set_option maxHeartbeats 2000000 in
theorem t_under : ∀ (p1 : Int) (p2 : Int) (S : sv_S), sm_ok S → sv_R p1 → sv_R p2 → (1 ≤ (S 1092 0) ∧ (S 1092 0) ≤ 24 ∧ 0 ≤ (S 58 ((S 1092 0) - 1)) ∧ (S 58 ((S 1092 0) - 1)) ≤ 400 ∧ 3 ≤ (S 58 ((S 1092 0) - 1)) ∧ (S 58 ((S 1092 0) - 1)) < 400) → sv_T sm_XS sm_cs sm_L sm_sh 2 (q_under p1 p2 S) 162 0 (lv_args 0 [.ref 0, sv_I p1, sv_I p2]) [] S := by
  intro p1 p2 S hok hp1 hp2 hpre
  have h := f_under p1 p2 S hok hp1 hp2 hpre
  have hM := sm_h162
  show sv_T sm_XS sm_cs sm_L sm_sh 2 (q_under p1 p2 S) 162 0 [(0, .ref 0), (1, sv_I p1), (2, sv_I p2)] [] S
  refine sv_aload_n hM dX12_under_0 rfl rfl ?_
  obtain ⟨o1, h⟩ := h
  refine sv_callV hM dX12_under_1 sm_iv_879 (by decide) (sm_a0 _) rfl rfl (Nat.le_of_ble_eq_true rfl) sm_h149 (Nat.le_of_ble_eq_true rfl) (Nat.le_of_ble_eq_true rfl) (F' := 0) (Nat.le_of_ble_eq_true rfl) rfl (t_top  S hok o1) (fun v S1 hq => ?_)
  obtain ⟨rfl, hS1⟩ := hq
  obtain rfl : S = S1 := hS1.symm
  show sv_T sm_XS sm_cs sm_L sm_sh 2 (q_under p1 p2 S) 162 4 [(0, .ref 0), (1, sv_I p1), (2, sv_I p2)] [sv_I ((400 * ((S 1092 0) - 1) + (S 58 ((S 1092 0) - 1))))] S
  obtain ⟨x2, e3⟩ : ∃ x : Int, ((400 * ((S 1092 0) - 1) + (S 58 ((S 1092 0) - 1)))) = x := ⟨_, rfl⟩
  have h := h x2 e3
  refine sv_nameI e3 ?_
  refine sv_istore_n hM dX12_under_4 (by decide) rfl ?_
  show sv_T sm_XS sm_cs sm_L sm_sh 2 (q_under p1 p2 S) 162 5 [(0, .ref 0), (1, sv_I p1), (2, sv_I p2), (3, sv_I x2)] [] S
  refine sv_iconst (d := (0 : Int)) hM dX12_under_5 rfl rfl ?_
  refine sv_istore hM dX12_under_6 (by decide) rfl ?_
  show sv_T sm_XS sm_cs sm_L sm_sh 2 (q_under p1 p2 S) 162 8 [(0, .ref 0), (1, sv_I p1), (2, sv_I p2), (3, sv_I x2), (4, sv_I (0 : Int))] [] S
  obtain ⟨hin7, h⟩ := h
  have hJ : ∀ a : Int × sv_S, (sv_R a.1 ∧ sm_ok (sv_sts S [63, 64] a.2) ∧ (0 ≤ a.1 ∧ a.1 ≤ 2 ∧ sm_F1 (S 63) (a.2 63) ((400 * ((S 1092 0) - 1) + (S 58 ((S 1092 0) - 1))) - 2) ∧ (1 ≤ a.1 → (a.2 63 ((400 * ((S 1092 0) - 1) + (S 58 ((S 1092 0) - 1))) - 1)) = (S 63 ((400 * ((S 1092 0) - 1) + (S 58 ((S 1092 0) - 1))) - 2))) ∧ (a.1 ≤ 1 → (a.2 63 ((400 * ((S 1092 0) - 1) + (S 58 ((S 1092 0) - 1))) - 2)) = (S 63 ((400 * ((S 1092 0) - 1) + (S 58 ((S 1092 0) - 1))) - 2))) ∧ (2 ≤ a.1 → (a.2 63 ((400 * ((S 1092 0) - 1) + (S 58 ((S 1092 0) - 1))) - 2)) = (S 63 ((400 * ((S 1092 0) - 1) + (S 58 ((S 1092 0) - 1))) - 3))) ∧ sm_F1 (S 64) (a.2 64) ((400 * ((S 1092 0) - 1) + (S 58 ((S 1092 0) - 1))) - 2) ∧ (1 ≤ a.1 → (a.2 64 ((400 * ((S 1092 0) - 1) + (S 58 ((S 1092 0) - 1))) - 1)) = (S 64 ((400 * ((S 1092 0) - 1) + (S 58 ((S 1092 0) - 1))) - 2))) ∧ (a.1 ≤ 1 → (a.2 64 ((400 * ((S 1092 0) - 1) + (S 58 ((S 1092 0) - 1))) - 2)) = (S 64 ((400 * ((S 1092 0) - 1) + (S 58 ((S 1092 0) - 1))) - 2))) ∧ (2 ≤ a.1 → (a.2 64 ((400 * ((S 1092 0) - 1) + (S 58 ((S 1092 0) - 1))) - 2)) = (S 64 ((400 * ((S 1092 0) - 1) + (S 58 ((S 1092 0) - 1))) - 3))))) → sv_T sm_XS sm_cs sm_L sm_sh 2 (q_under p1 p2 S) 162 8 [(0, .ref 0), (1, sv_I p1), (2, sv_I p2), (3, sv_I x2), (4, sv_I a.1)] [] (sv_sts S [63, 64] a.2) := by
    refine sv_loop (α := Int × sv_S) (fun a => sv_R a.1 ∧ sm_ok (sv_sts S [63, 64] a.2) ∧ (0 ≤ a.1 ∧ a.1 ≤ 2 ∧ sm_F1 (S 63) (a.2 63) ((400 * ((S 1092 0) - 1) + (S 58 ((S 1092 0) - 1))) - 2) ∧ (1 ≤ a.1 → (a.2 63 ((400 * ((S 1092 0) - 1) + (S 58 ((S 1092 0) - 1))) - 1)) = (S 63 ((400 * ((S 1092 0) - 1) + (S 58 ((S 1092 0) - 1))) - 2))) ∧ (a.1 ≤ 1 → (a.2 63 ((400 * ((S 1092 0) - 1) + (S 58 ((S 1092 0) - 1))) - 2)) = (S 63 ((400 * ((S 1092 0) - 1) + (S 58 ((S 1092 0) - 1))) - 2))) ∧ (2 ≤ a.1 → (a.2 63 ((400 * ((S 1092 0) - 1) + (S 58 ((S 1092 0) - 1))) - 2)) = (S 63 ((400 * ((S 1092 0) - 1) + (S 58 ((S 1092 0) - 1))) - 3))) ∧ sm_F1 (S 64) (a.2 64) ((400 * ((S 1092 0) - 1) + (S 58 ((S 1092 0) - 1))) - 2) ∧ (1 ≤ a.1 → (a.2 64 ((400 * ((S 1092 0) - 1) + (S 58 ((S 1092 0) - 1))) - 1)) = (S 64 ((400 * ((S 1092 0) - 1) + (S 58 ((S 1092 0) - 1))) - 2))) ∧ (a.1 ≤ 1 → (a.2 64 ((400 * ((S 1092 0) - 1) + (S 58 ((S 1092 0) - 1))) - 2)) = (S 64 ((400 * ((S 1092 0) - 1) + (S 58 ((S 1092 0) - 1))) - 2))) ∧ (2 ≤ a.1 → (a.2 64 ((400 * ((S 1092 0) - 1) + (S 58 ((S 1092 0) - 1))) - 2)) = (S 64 ((400 * ((S 1092 0) - 1) + (S 58 ((S 1092 0) - 1))) - 3))))) (fun a => 2 - a.1) (fun a => sv_T sm_XS sm_cs sm_L sm_sh 2 (q_under p1 p2 S) 162 8 [(0, .ref 0), (1, sv_I p1), (2, sv_I p2), (3, sv_I x2), (4, sv_I a.1)] [] (sv_sts S [63, 64] a.2)) (fun a q => (h a.1 q.1 a.2 q.2.2).1) (fun a q ih6 => ?_)
    obtain ⟨l4_5, g4⟩ := a
    obtain ⟨hl4_5, ok8, hin7i⟩ := q
    have h := (h l4_5 hl4_5 g4 hin7i).2
    show sv_T sm_XS sm_cs sm_L sm_sh 2 (q_under p1 p2 S) 162 8 [(0, .ref 0), (1, sv_I p1), (2, sv_I p2), (3, sv_I x2), (4, sv_I l4_5)] [] (sv_sts S [63, 64] g4)
    have md9 : sv_mod [63, 64, 58] S (sv_sts S [63, 64] g4) := sv_mod.sts sv_mod.rf (by decide)
    have md10 : sv_mod [63, 64] S (sv_sts S [63, 64] g4) := sv_mod.sts sv_mod.rf (by decide)
    refine sv_iload hM dX12_under_8 rfl rfl ?_
    refine sv_iconst (d := (2 : Int)) hM dX12_under_10 rfl rfl ?_
    refine sv_icmp_ge hM dX12_under_11 hl4_5 (⟨by decide, by decide⟩ : sv_R (2 : Int)) (t := 64) rfl rfl (fun hc => ?_) (fun hc => ?_)
    · have h := h.1 (hc)
      refine sv_aload_n hM dX12_under_64 rfl rfl ?_
      refine sv_getA hM dX12_under_65 sm_fl_200 (sm_a0 _) sm_k103 rfl ?_
      refine sv_iload_n hM dX12_under_68 rfl rfl ?_
      refine sv_iconst (d := (3 : Int)) hM dX12_under_69 rfl rfl ?_
      refine sv_isub hM dX12_under_70 rfl ?_
      refine sv_iload_n hM dX12_under_71 rfl rfl ?_
      obtain ⟨o11, h⟩ := h
      refine sv_iast sm_X hM dX12_under_72 (sm_a63 _) (by decide) o11.1 o11.2 rfl ?_
      have ok12 : sm_ok (sv_up (sv_sts S [63, 64] g4) 63 (x2 - (3 : Int)) p1) := sm_upI ok8 sm_r63 hp1
      have md13 : sv_mod [63, 64, 58] S (sv_up (sv_sts S [63, 64] g4) 63 (x2 - (3 : Int)) p1) := sv_mod.up md9 (by decide)
      have md14 : sv_mod [63, 64] S (sv_up (sv_sts S [63, 64] g4) 63 (x2 - (3 : Int)) p1) := sv_mod.up md10 (by decide)
      refine sv_aload_n hM dX12_under_73 rfl rfl ?_
      refine sv_getA hM dX12_under_74 sm_fl_203 (sm_a0 _) sm_k104 rfl ?_
      refine sv_iload_n hM dX12_under_77 rfl rfl ?_
      refine sv_iconst (d := (3 : Int)) hM dX12_under_78 rfl rfl ?_
      refine sv_isub hM dX12_under_79 rfl ?_
      refine sv_iload_n hM dX12_under_80 rfl rfl ?_
      refine sv_iast sm_X hM dX12_under_81 (sm_a64 _) (by decide) o11.1 o11.2 rfl ?_
      have ok15 : sm_ok (sv_up (sv_up (sv_sts S [63, 64] g4) 63 (x2 - (3 : Int)) p1) 64 (x2 - (3 : Int)) p2) := sm_upI ok12 sm_r64 hp2
      have md16 : sv_mod [63, 64, 58] S (sv_up (sv_up (sv_sts S [63, 64] g4) 63 (x2 - (3 : Int)) p1) 64 (x2 - (3 : Int)) p2) := sv_mod.up md13 (by decide)
      have md17 : sv_mod [63, 64] S (sv_up (sv_up (sv_sts S [63, 64] g4) 63 (x2 - (3 : Int)) p1) 64 (x2 - (3 : Int)) p2) := sv_mod.up md14 (by decide)
      refine sv_aload_n hM dX12_under_82 rfl rfl ?_
      refine sv_iload_n hM dX12_under_83 rfl rfl ?_
      refine sv_iload_n hM dX12_under_84 rfl rfl ?_
      obtain ⟨o18, h⟩ := h
      refine sv_callV hM dX12_under_85 sm_iv_885 (by decide) (sm_a0 _) rfl rfl (Nat.le_of_ble_eq_true rfl) sm_h152 (Nat.le_of_ble_eq_true rfl) (Nat.le_of_ble_eq_true rfl) (F' := 1) (Nat.le_of_ble_eq_true rfl) rfl (t_push p1 p2 (sv_up (sv_up (sv_sts S [63, 64] g4) 63 (x2 - (3 : Int)) p1) 64 (x2 - (3 : Int)) p2) ok15 hp1 hp2 o18) (fun v S1 hq => ?_)
      obtain ⟨rfl, ok20, md21, hpo22⟩ := hq
      obtain ⟨g19, rfl⟩ : ∃ g, S1 = sv_sts (sv_up (sv_up (sv_sts S [63, 64] g4) 63 (x2 - (3 : Int)) p1) 64 (x2 - (3 : Int)) p2) [63, 64, 58] g := ⟨_, md21.eq⟩
      show sv_T sm_XS sm_cs sm_L sm_sh 2 (q_under p1 p2 S) 162 88 [(0, .ref 0), (1, sv_I p1), (2, sv_I p2), (3, sv_I x2), (4, sv_I l4_5)] [] (sv_sts (sv_up (sv_up (sv_sts S [63, 64] g4) 63 (x2 - (3 : Int)) p1) 64 (x2 - (3 : Int)) p2) [63, 64, 58] g19)
      have md23 : sv_mod [63, 64, 58] S (sv_sts (sv_up (sv_up (sv_sts S [63, 64] g4) 63 (x2 - (3 : Int)) p1) 64 (x2 - (3 : Int)) p2) [63, 64, 58] g19) := sv_mod.sts md16 (by decide)
      have h := h g19 hpo22
      exact sv_vret hM dX12_under_88 rfl ⟨rfl, ok20, md23, h⟩
    · have h := h.2 (hc)
      refine sv_aload_n hM dX12_under_14 rfl rfl ?_
      refine sv_getA hM dX12_under_15 sm_fl_200 (sm_a0 _) sm_k103 rfl ?_
      refine sv_iload_n hM dX12_under_18 rfl rfl ?_
      refine sv_iconst (d := (1 : Int)) hM dX12_under_19 rfl rfl ?_
      refine sv_isub hM dX12_under_20 rfl ?_
      refine sv_iload hM dX12_under_21 rfl rfl ?_
      refine sv_isub hM dX12_under_23 rfl ?_
      refine sv_aload_n hM dX12_under_24 rfl rfl ?_
      refine sv_getA hM dX12_under_25 sm_fl_200 (sm_a0 _) sm_k103 rfl ?_
      refine sv_iload_n hM dX12_under_28 rfl rfl ?_
      refine sv_iconst (d := (2 : Int)) hM dX12_under_29 rfl rfl ?_
      refine sv_isub hM dX12_under_30 rfl ?_
      refine sv_iload hM dX12_under_31 rfl rfl ?_
      refine sv_isub hM dX12_under_33 rfl ?_
      obtain ⟨o24, h⟩ := h
      have k25 : sv_R (g4 63 ((x2 - (2 : Int)) - l4_5)) := sm_okI ok8 sm_r63 ((x2 - (2 : Int)) - l4_5)
      have h := h k25
      refine sv_iald hM dX12_under_34 (sm_a63 _) (by decide) o24.1 o24.2 rfl (x := (g4 63 ((x2 - (2 : Int)) - l4_5))) rfl ?_
      obtain ⟨o26, h⟩ := h
      refine sv_iast sm_X hM dX12_under_35 (sm_a63 _) (by decide) o26.1 o26.2 rfl ?_
      have ok27 : sm_ok (sv_up (sv_sts S [63, 64] g4) 63 ((x2 - (1 : Int)) - l4_5) (g4 63 ((x2 - (2 : Int)) - l4_5))) := sm_upI ok8 sm_r63 k25
      have md28 : sv_mod [63, 64, 58] S (sv_up (sv_sts S [63, 64] g4) 63 ((x2 - (1 : Int)) - l4_5) (g4 63 ((x2 - (2 : Int)) - l4_5))) := sv_mod.up md9 (by decide)
      have md29 : sv_mod [63, 64] S (sv_up (sv_sts S [63, 64] g4) 63 ((x2 - (1 : Int)) - l4_5) (g4 63 ((x2 - (2 : Int)) - l4_5))) := sv_mod.up md10 (by decide)
      refine sv_aload_n hM dX12_under_36 rfl rfl ?_
      refine sv_getA hM dX12_under_37 sm_fl_203 (sm_a0 _) sm_k104 rfl ?_
      refine sv_iload_n hM dX12_under_40 rfl rfl ?_
      refine sv_iconst (d := (1 : Int)) hM dX12_under_41 rfl rfl ?_
      refine sv_isub hM dX12_under_42 rfl ?_
      refine sv_iload hM dX12_under_43 rfl rfl ?_
      refine sv_isub hM dX12_under_45 rfl ?_
      refine sv_aload_n hM dX12_under_46 rfl rfl ?_
      refine sv_getA hM dX12_under_47 sm_fl_203 (sm_a0 _) sm_k104 rfl ?_
      refine sv_iload_n hM dX12_under_50 rfl rfl ?_
      refine sv_iconst (d := (2 : Int)) hM dX12_under_51 rfl rfl ?_
      refine sv_isub hM dX12_under_52 rfl ?_
      refine sv_iload hM dX12_under_53 rfl rfl ?_
      refine sv_isub hM dX12_under_55 rfl ?_
      have k30 : sv_R (g4 64 ((x2 - (2 : Int)) - l4_5)) := sm_okI ok27 sm_r64 ((x2 - (2 : Int)) - l4_5)
      have h := h k30
      refine sv_iald hM dX12_under_56 (sm_a64 _) (by decide) o24.1 o24.2 rfl (x := (g4 64 ((x2 - (2 : Int)) - l4_5))) rfl ?_
      refine sv_iast sm_X hM dX12_under_57 (sm_a64 _) (by decide) o26.1 o26.2 rfl ?_
      have ok31 : sm_ok (sv_up (sv_up (sv_sts S [63, 64] g4) 63 ((x2 - (1 : Int)) - l4_5) (g4 63 ((x2 - (2 : Int)) - l4_5))) 64 ((x2 - (1 : Int)) - l4_5) (g4 64 ((x2 - (2 : Int)) - l4_5))) := sm_upI ok27 sm_r64 k30
      have md32 : sv_mod [63, 64, 58] S (sv_up (sv_up (sv_sts S [63, 64] g4) 63 ((x2 - (1 : Int)) - l4_5) (g4 63 ((x2 - (2 : Int)) - l4_5))) 64 ((x2 - (1 : Int)) - l4_5) (g4 64 ((x2 - (2 : Int)) - l4_5))) := sv_mod.up md28 (by decide)
      have md33 : sv_mod [63, 64] S (sv_up (sv_up (sv_sts S [63, 64] g4) 63 ((x2 - (1 : Int)) - l4_5) (g4 63 ((x2 - (2 : Int)) - l4_5))) 64 ((x2 - (1 : Int)) - l4_5) (g4 64 ((x2 - (2 : Int)) - l4_5))) := sv_mod.up md29 (by decide)
      refine sv_iinc (d := (1 : Int)) hM dX12_under_58 rfl (by decide) rfl rfl ?_
      show sv_T sm_XS sm_cs sm_L sm_sh 2 (q_under p1 p2 S) 162 61 [(0, .ref 0), (1, sv_I p1), (2, sv_I p2), (3, sv_I x2), (4, sv_I (l4_5 + (1 : Int)))] [] (sv_up (sv_up (sv_sts S [63, 64] g4) 63 ((x2 - (1 : Int)) - l4_5) (g4 63 ((x2 - (2 : Int)) - l4_5))) 64 ((x2 - (1 : Int)) - l4_5) (g4 64 ((x2 - (2 : Int)) - l4_5)))
      refine sv_goto hM dX12_under_61 (pc' := 8) rfl ?_
      obtain ⟨o34, h⟩ := h
      have eS := sv_mod.eq md33
      have hb := ih6 ((l4_5 + (1 : Int)), (sv_up (sv_up (sv_sts S [63, 64] g4) 63 ((x2 - (1 : Int)) - l4_5) (g4 63 ((x2 - (2 : Int)) - l4_5))) 64 ((x2 - (1 : Int)) - l4_5) (g4 64 ((x2 - (2 : Int)) - l4_5)))) ⟨o34, (by rw [← eS]; exact ok31), h.1⟩ h.2
      have hb : sv_T sm_XS sm_cs sm_L sm_sh 2 (q_under p1 p2 S) 162 8 [(0, .ref 0), (1, sv_I p1), (2, sv_I p2), (3, sv_I x2), (4, sv_I (l4_5 + (1 : Int)))] [] (sv_up (sv_up (sv_sts S [63, 64] g4) 63 ((x2 - (1 : Int)) - l4_5) (g4 63 ((x2 - (2 : Int)) - l4_5))) 64 ((x2 - (1 : Int)) - l4_5) (g4 64 ((x2 - (2 : Int)) - l4_5))) := Eq.mpr (congrArg (fun Z => sv_T sm_XS sm_cs sm_L sm_sh 2 (q_under p1 p2 S) 162 8 [(0, .ref 0), (1, sv_I p1), (2, sv_I p2), (3, sv_I x2), (4, sv_I (l4_5 + (1 : Int)))] [] Z) eS) hb
      exact sv_less (lv := [(0, .ref 0), (1, sv_I p1), (2, sv_I p2), (3, sv_I x2), (4, sv_I (l4_5 + (1 : Int)))]) (sv_Sub_cons rfl (sv_Sub_cons rfl (sv_Sub_cons rfl (sv_Sub_cons rfl (sv_Sub_cons rfl sv_Sub_nil))))) hb
  have eS := sv_mod.eq (sv_mod.rf (l := [63, 64]) (S := S))
  have hb := hJ ((0 : Int), S) ⟨(⟨by decide, by decide⟩ : sv_R (0 : Int)), (by rw [← eS]; exact hok), hin7⟩
  have hb : sv_T sm_XS sm_cs sm_L sm_sh 2 (q_under p1 p2 S) 162 8 [(0, .ref 0), (1, sv_I p1), (2, sv_I p2), (3, sv_I x2), (4, sv_I (0 : Int))] [] S := Eq.mpr (congrArg (fun Z => sv_T sm_XS sm_cs sm_L sm_sh 2 (q_under p1 p2 S) 162 8 [(0, .ref 0), (1, sv_I p1), (2, sv_I p2), (3, sv_I x2), (4, sv_I (0 : Int))] [] Z) eS) hb
  exact hb
def q_get_ (S : sv_S) : Option Value → sv_S → Prop := fun v S' => v = none ∧ sm_ok S' ∧ sv_mod [1076, 41, 42, 43, 44, 45, 46, 47, 1075, 1100029, 1092, 60, 58, 57, 63, 64, 1073, 1109, 1110, 1111, 1112, 5, 1011, 3, 4, 1007] S S' ∧ (sm_PL (S' 1100020) (S' 51) (S' 52) (S' 46) (S' 47) (S' 1076 0) (S' 1086 0) ∧ sm_FR (S' 1100020) (S' 52) (S' 1100021) (S' 1100022) (3000 - (S' 1084 0)) (S' 1085 0) ∧ sm_PV (S' 1100020) (S' 48) (S' 49) (S' 50) (S' 44) (S' 1076 0) (S' 1007 0) ∧ sm_AL (S' 1100020) (S' 48) (S' 49) (S' 50) (S' 44) (S' 1076 0) (S' 1100032 0) ∧ sm_SV (S' 1100020) (S' 48) (S' 1100029) (S' 32) (S' 33) (S' 1076 0) (S' 1032 0) ∧ 0 ≤ (S' 1076 0) ∧ (S' 1076 0) ≤ 300 ∧ 0 ≤ (S' 1084 0) ∧ (S' 1084 0) ≤ 3000 ∧ 0 ≤ (S' 1086 0) ∧ sm_SC (S' 1100029) (S' 44) (S' 45) (S' 43) (S' 21) (S' 1076 0) (S' 1032 0) ∧ sm_PO (S' 42) (S' 1076 0) ∧ ((S' 1075 0) = 0 → (S' 1100032 0) = -1 ∧ sm_FO (S' 44) (S' 45) (S' 1076 0)) ∧ 23 ≤ (S' 1076 0) ∧ 31 ≤ (S' 1007 0) ∧ (S' 1007 0) ≤ 400 ∧ sm_LN (S' 4) 400 (S' 1007 0) ∧ (S' 1008 0) ≤ (S' 1007 0) ∧ ((S 1075 0) = 1 → (S' 1075 0) = 1) ∧ 0 ≤ (S' 1092 0) ∧ (S' 1092 0) ≤ 24 ∧ (S 1007 0) ≤ (S' 1007 0) ∧ (¬ (S' 1075 0) = 0 → sm_LX (S' 58) (S' 63) (S' 64) (S' 1092 0) (S' 1076 0)) ∧ ((S' 1075 0) = 0 → (S' 1073 0) = 1 → 1 ≤ (S' 1092 0) ∧ (S' 1092 0) ≤ 24 ∧ 0 ≤ (S' 57 ((S' 1092 0) - 1)) ∧ (S' 57 ((S' 1092 0) - 1)) < (S' 1046 0) ∧ (S' 29 (S' 57 ((S' 1092 0) - 1))) = (S' 53 ((S' 1092 0) - 1)) ∧ 0 ≤ (S' 53 ((S' 1092 0) - 1)) ∧ (S' 53 ((S' 1092 0) - 1)) < (S' 1032 0) ∧ (S' 60 ((S' 1092 0) - 1)) = sm_dp (S' 1100024) (S' 1100023 (S' 57 ((S' 1092 0) - 1))) ∧ sm_TC (S' 61) (S' 62) (S' 27) (S' 1100007) (S' 1100023) (S' 1100024) (40 * ((S' 1092 0) - 1)) (S' 1100023 (S' 57 ((S' 1092 0) - 1))) ∧ sm_LK (S' 1100029) (S' 1076 0) (S' 54 ((S' 1092 0) - 1)) (S' 53 ((S' 1092 0) - 1)) ∧ sm_VO (S' 44) (S' 1076 0) (S' 1007 0) ((S' 55 ((S' 1092 0) - 1))) ((S' 56 ((S' 1092 0) - 1))) ∧ sm_FW (S' 44) (S' 1076 0) (S' 59 ((S' 1092 0) - 1)) ∧ sm_FL (S' 53) (S' 54) (S' 55) (S' 56) (S' 57) (S' 58) (S' 59) (S' 60) (S' 61) (S' 62) (S' 63) (S' 64) (S' 27) (S' 29) (S' 1100007) (S' 1100023) (S' 1100024) (S' 1100025) (S' 26) (S' 1100029) (S' 44) (S' 1046 0) (S' 1032 0) (S' 1076 0) (S' 1007 0) (((S' 1092 0) - 1)) ∧ (S' 58 ((S' 1092 0) - 1)) = (S' 1100007 (S' 57 ((S' 1092 0) - 1))) ∧ sm_SK (S' 63) (S' 64) (S' 44) (S' 1100007) (S' 1100025) (S' 1076 0) (S' 1007 0) (400 * ((S' 1092 0) - 1)) ((S' 58 ((S' 1092 0) - 1))) ((S' 1100025 (S' 57 ((S' 1092 0) - 1))))) ∧ ((S' 1073 0) = 1 ∨ (S' 1092 0) = 0 ∧ (S' 1075 0) = 0 ∧ ((S' 1073 0) = 2 ∨ (S' 1073 0) = 3)))
theorem la_get__0 {x0 : Int} (h0 : 2 ≤ x0) : 0 ≤ x0 - 1 := by omega
theorem la_get__1 {x0 : Int} : x0 - 1 < x0 := by omega
theorem la_get__2 {x0 : Int} (h0 : 2 ≤ x0) : 0 ≤ x0 - 2 := by omega
theorem la_get__3 {x0 : Int} : x0 - 2 < x0 := by omega
theorem la_get__4 {x0 x1 : Int} (h0 : 1 ≤ x0) (h1 : x0 ≤ 24) (h2 : x1 ≤ 396) (h3 : 2 ≤ x1) : 1 ≤ x0 ∧ x0 ≤ 24 ∧ 0 ≤ x1 ∧ x1 ≤ 400 ∧ (0 : Int) ≤ 1 ∧ 1 < x1 := by omega
theorem la_get__5 {x0 x1 : Int} (h0 : 1 ≤ x0) (h1 : x0 ≤ 24) (h2 : x1 ≤ 396) (h3 : 2 ≤ x1) : 1 ≤ x0 ∧ x0 ≤ 24 ∧ 0 ≤ x1 ∧ x1 ≤ 400 ∧ (0 : Int) ≤ 0 ∧ 0 < x1 := by omega
theorem la_get__6 {x0 x1 : Int} : 400 * (x0 - 1) + x1 - 1 - 0 = 400 * (x0 - 1) + (x1 - 1) := by omega
theorem la_get__7 {x0 x1 : Int} : 400 * (x0 - 1) + x1 - 1 - 1 = 400 * (x0 - 1) + (x1 - 2) := by omega
theorem la_get__8 {x0 x1 : Int} (h0 : x0 = 6) (h1 : x0 = x1) : x1 = 6 := by omega
theorem la_get__9 {x0 x1 : Int} (h0 : x0 = 6) (h1 : x0 = x1) : ¬ x1 = 7 := by omega
theorem la_get__10 {x0 x1 : Int} (h0 : x0 = x1) (h1 : 0 ≤ x1) : 0 ≤ x0 := by omega
theorem la_get__11 {x0 x1 x2 : Int} (h0 : x0 = x1) (h1 : x1 < x2) : x0 < x2 := by omega
theorem la_get__12 {x0 : Int} (h0 : x0 = 0) : ¬ x0 = 1 := by omega
theorem la_get__13 {x0 : Int} (h0 : x0 = 6) : x0 ≤ 7 := by omega
theorem la_get__14 {x0 : Int} (h0 : x0 ≤ 7) (h1 : ¬ x0 = 7) : x0 < 7 := by omega
theorem la_get__15 {x0 : Int} (h0 : 0 ≤ x0) (h1 : ¬ x0 = 0) : 0 < x0 := by omega
theorem la_get__16 {x0 : Int} (h0 : 23 ≤ x0) : 2 ≤ x0 ∧ (0 : Int) ≤ 4 ∧ 4 < x0 := by omega
theorem la_get__17 {x0 x1 : Int} (h0 : 31 ≤ x0) (h1 : x0 ≤ x1) : 31 ≤ x1 := by omega
theorem la_get__18 {x0 x1 x2 : Int} (h0 : x0 ≤ x1) (h1 : x1 ≤ x2) : x0 ≤ x2 := by omega
theorem la_get__19 {x0 : Int} : x0 ≤ x0 := by omega
theorem la_get__20 : (0 : Int) ≤ 2 := by omega
theorem la_get__21 {x0 : Int} (h0 : x0 ≤ 396) : x0 - 2 ≤ 399 := by omega
theorem la_get__22 {x0 x1 : Int} (h0 : x0 = x1 + (-1)) : x0 = x1 - 2 + 1 := by omega
theorem la_get__23 {x0 : Int} (h0 : x0 = 0) : x0 ≤ 0 := by omega
theorem la_get__24 {x0 : Int} (h0 : x0 ≤ 0) (h1 : ¬ x0 = 0) : x0 < 0 := by omega
theorem la_get__25 {x0 x1 : Int} (h0 : x0 = 0) (h1 : x0 < 0) : x1 = 5 := by omega
theorem la_get__26 {x0 x1 : Int} (h0 : x0 = 0) (h1 : x0 < 0) : 0 ≤ x1 := by omega
theorem la_get__27 {x0 x1 : Int} (h0 : x0 = 0) (h1 : x0 < 0) : x1 ≤ 100 := by omega
theorem la_get__28 {x0 : Int} (h0 : 0 ≤ x0) (h1 : x0 = 0) : ¬ ¬ x0 = 0 := by omega
theorem la_get__29 {x0 : Int} (h0 : 1 ≤ x0) : 0 ≤ x0 := by omega
theorem la_get__30 {x0 x1 x2 : Int} (h0 : x0 = 1) (h1 : 1 ≤ x1) (h2 : 0 ≤ x2) (h3 : x2 = 0) : x0 = 1 ∨ x1 = 0 ∧ x2 = 0 ∧ (x0 = 2 ∨ x0 = 3) := by omega
theorem la_get__31 {x0 : Int} (h0 : ¬ ¬ x0 = 0) : x0 < 400 := by omega
theorem la_get__32 {x0 x1 x2 : Int} (h0 : x0 = x1) (h1 : x1 = 6) (h2 : x1 < 7) (h3 : x0 = x2) : x2 = 6 := by omega
theorem la_get__33 {x0 x1 x2 : Int} (h0 : x0 = x1) (h1 : x1 = 6) (h2 : x0 = x2) : ¬ x2 = 7 := by omega
theorem la_get__34 {x0 x1 x2 : Int} (h0 : x0 = x1) (h1 : x0 = x2) (h2 : 0 ≤ x2) : 0 ≤ x1 := by omega
theorem la_get__35 {x0 x1 x2 x3 : Int} (h0 : x0 ≤ 400) (h1 : x1 = x2) (h2 : x1 = x3) (h3 : x3 < x0) : x2 < 400 := by omega
theorem la_get__36 {x0 : Int} (h0 : x0 = 5) : 0 ≤ x0 := by omega
theorem la_get__37 {x0 : Int} (h0 : x0 = 5) : x0 ≤ 7 := by omega
theorem la_get__38 {x0 x1 x2 : Int} (h0 : x0 = 5) : x0 = 6 → 0 ≤ x1 ∧ x1 < x2 := by omega
theorem la_get__39 {x0 x1 x2 x3 : Int} (h0 : x0 = 5) : x0 = 7 → 0 ≤ x1 ∧ x1 < x2 ∧ ¬ x3 = 3 := by omega
theorem la_get__40 {x0 : Int} (h0 : x0 = 0) : 0 ≤ x0 := by omega
theorem la_get__41 {x0 : Int} (h0 : x0 = 0) : x0 ≤ 7 := by omega
theorem la_get__42 {x0 x1 x2 x3 : Int} (h0 : 31 ≤ x0) (h1 : x0 ≤ x1) (h2 : x2 = 0) (h3 : x3 = 0) : x2 = 6 → 0 ≤ x3 ∧ x3 < x1 := by omega
theorem la_get__43 {x0 x1 x2 x3 : Int} (h0 : 23 ≤ x0) (h1 : x1 = 0) (h2 : x2 = 0) : x1 = 7 → 0 ≤ x2 ∧ x2 < x0 ∧ ¬ x3 = 3 := by omega
theorem la_get__44 {x0 : Int} (h0 : 23 ≤ x0) : 2 ≤ x0 := by omega
theorem la_get__45 {x0 x1 : Int} (h0 : x0 < x1) (h1 : x1 ≤ 400) : x0 < 400 := by omega
theorem la_get__46 {x0 x1 x2 : Int} (h0 : x0 = x1) (h1 : ¬ ¬ x1 = 7) (h2 : x0 = x2) : ¬ x2 = 6 := by omega
theorem la_get__47 {x0 x1 x2 : Int} (h0 : x0 ≤ 7) (h1 : x1 = x2) (h2 : ¬ ¬ x2 = 7) (h3 : x1 = x0) : x0 = 7 := by omega
theorem la_get__48 {x0 x1 x2 x3 : Int} (h0 : x0 = x1) (h1 : x0 = x2) (h2 : x2 < x3) : x1 < x3 := by omega
theorem la_get__49 {x0 x1 : Int} (h0 : 0 ≤ x0) (h1 : x1 = x0) : 0 ≤ x1 := by omega
theorem la_get__50 {x0 x1 x2 : Int} (h0 : x0 = x1) (h1 : x1 + 1 < x2) : x0 < x2 := by omega
theorem la_get__51 {x0 x1 x2 : Int} (h0 : x0 = x1) (h1 : ¬ 1 < x1) (h2 : x0 = x2) : ¬ x2 = 6 := by omega
theorem la_get__52 {x0 x1 x2 : Int} (h0 : x0 = x1) (h1 : ¬ 1 < x1) (h2 : x0 = x2) : ¬ x2 = 7 := by omega
theorem la_get__53 {x0 x1 x2 : Int} (h0 : x0 = x1) (h1 : x2 = x0) : x2 = x1 := by omega
theorem la_get__54 {x0 x1 x2 : Int} (h0 : x0 = x1) (h1 : x2 = x1) : x0 = x2 := by omega
theorem la_get__55 {x0 x1 : Int} (h0 : x0 = x1) : x1 = x0 := by omega
theorem la_get__56 {x0 : Int} : x0 = x0 - 1 + 1 := by omega
theorem la_get__57 {x0 x1 x2 : Int} (h0 : x0 = x1) (h1 : x2 = x1) : x2 = x0 := by omega
theorem la_get__58 {x0 x1 : Int} (h0 : 0 ≤ x0) (h1 : x0 = x1) : 0 ≤ x1 := by omega
theorem la_get__59 {x0 x1 x2 : Int} (h0 : x0 ≤ x1) (h1 : x2 = x0) : x2 ≤ x1 := by omega
theorem la_get__60 : (6 : Int) ≤ 6 := by omega
theorem la_get__61 : (6 : Int) ≤ 8 := by omega
theorem la_get__62 {x0 x1 : Int} (h0 : x0 = 0) : x0 = 1 → x1 = 1 := by omega
theorem la_get__63 {x0 x1 : Int} (h0 : 0 < x0) (h1 : x0 = 0) : x1 = 5 := by omega
theorem la_get__64 {x0 x1 : Int} (h0 : 0 < x0) (h1 : x0 = 0) : 0 ≤ x1 := by omega
theorem la_get__65 {x0 x1 : Int} (h0 : 0 < x0) (h1 : x0 = 0) : x1 ≤ 100 := by omega
theorem la_get__66 {x0 x1 x2 : Int} (h0 : x0 = 1) (h1 : 1 ≤ x1) (h2 : 0 < x2) : x0 = 1 ∨ x1 = 0 ∧ x2 = 0 ∧ (x0 = 2 ∨ x0 = 3) := by omega
set_option maxHeartbeats 2000000 in
theorem f_get_ : ∀ (S : sv_S), sm_ok S → ((S 1075 0) = 0 ∧ (S 1073 0) = 1 ∧ sm_LX (S 58) (S 63) (S 64) (S 1092 0) (S 1076 0) ∧ sm_PL (S 1100020) (S 51) (S 52) (S 46) (S 47) (S 1076 0) (S 1086 0) ∧ sm_FR (S 1100020) (S 52) (S 1100021) (S 1100022) (3000 - (S 1084 0)) (S 1085 0) ∧ sm_PV (S 1100020) (S 48) (S 49) (S 50) (S 44) (S 1076 0) (S 1007 0) ∧ sm_AL (S 1100020) (S 48) (S 49) (S 50) (S 44) (S 1076 0) (S 1100032 0) ∧ sm_SV (S 1100020) (S 48) (S 1100029) (S 32) (S 33) (S 1076 0) (S 1032 0) ∧ 0 ≤ (S 1076 0) ∧ (S 1076 0) ≤ 300 ∧ 0 ≤ (S 1084 0) ∧ (S 1084 0) ≤ 3000 ∧ 0 ≤ (S 1086 0) ∧ sm_SC (S 1100029) (S 44) (S 45) (S 43) (S 21) (S 1076 0) (S 1032 0) ∧ sm_PO (S 42) (S 1076 0) ∧ (S 1100032 0) = -1 ∧ sm_FO (S 44) (S 45) (S 1076 0) ∧ 23 ≤ (S 1076 0) ∧ 31 ≤ (S 1007 0) ∧ (S 1007 0) ≤ 400 ∧ sm_LN (S 4) 400 (S 1007 0) ∧ sm_CT (S 26) (S 27) (S 28) (S 29) (S 1100007) (S 1100023) (S 1100024) (S 1100025) (S 21) (S 1046 0) (S 1032 0) (S 1008 0) (S 1055 0) ∧ sm_LS (S 26) (S 1100007) (S 1100025) (S 1046 0) ∧ sm_CL (S 1100007) (S 1100023) (S 1100025) (S 1046 0) ∧ 1 ≤ (S 1032 0) ∧ (S 1032 0) ≤ 11 ∧ 0 ≤ (S 1046 0) ∧ (S 1046 0) ≤ 600 ∧ 31 ≤ (S 1008 0) ∧ (S 1008 0) ≤ (S 1007 0) ∧ 0 ≤ (S 1055 0) ∧ (S 1055 0) ≤ 19 ∧ 1 ≤ (S 1092 0) ∧ (S 1092 0) ≤ 24 ∧ 0 ≤ (S 1100033 0) ∧ (S 1100033 0) < (S 1046 0) ∧ (S 29 (S 1100033 0)) = (S 53 ((S 1092 0) - 1)) ∧ 0 ≤ (S 53 ((S 1092 0) - 1)) ∧ (S 53 ((S 1092 0) - 1)) < (S 1032 0) ∧ (S 60 ((S 1092 0) - 1)) = sm_dp (S 1100024) (S 1100023 (S 1100033 0)) ∧ sm_TC (S 61) (S 62) (S 27) (S 1100007) (S 1100023) (S 1100024) (40 * ((S 1092 0) - 1)) (S 1100023 (S 1100033 0)) ∧ sm_LK (S 1100029) (S 1076 0) (S 54 ((S 1092 0) - 1)) (S 53 ((S 1092 0) - 1)) ∧ sm_VO (S 44) (S 1076 0) (S 1007 0) ((S 55 ((S 1092 0) - 1))) ((S 56 ((S 1092 0) - 1))) ∧ sm_FW (S 44) (S 1076 0) (S 59 ((S 1092 0) - 1)) ∧ sm_FL (S 53) (S 54) (S 55) (S 56) (S 57) (S 58) (S 59) (S 60) (S 61) (S 62) (S 63) (S 64) (S 27) (S 29) (S 1100007) (S 1100023) (S 1100024) (S 1100025) (S 26) (S 1100029) (S 44) (S 1046 0) (S 1032 0) (S 1076 0) (S 1007 0) (((S 1092 0) - 1)) ∧ (S 57 ((S 1092 0) - 1)) = (S 1100033 0) ∧ 0 ≤ (S 58 ((S 1092 0) - 1)) ∧ (S 58 ((S 1092 0) - 1)) ≤ 400 ∧ sm_SK (S 63) (S 64) (S 44) (S 1100007) (S 1100025) (S 1076 0) (S 1007 0) (400 * ((S 1092 0) - 1)) ((S 58 ((S 1092 0) - 1))) ((S 1100034 0)) ∧ -1 ≤ (S 1100034 0) ∧ (S 1100034 0) < (S 1046 0) ∧ (0 ≤ (S 1100034 0) → (S 26 (S 1100034 0)) = 29) ∧ (S 58 ((S 1092 0) - 1)) = (S 1100007 (S 1100033 0)) ∧ (S 1100034 0) = (S 1100025 (S 1100033 0)) ∧ (0 ≤ (S 1100023 (S 1100033 0)) → (S 1100007 (S 1100023 (S 1100033 0))) ≤ (S 58 ((S 1092 0) - 1))) ∧ (S 58 ((S 1092 0) - 1)) ≤ 396 ∧ 2 ≤ (S 58 ((S 1092 0) - 1)) ∧ (0 ≤ (S 1100034 0) → (S 1100007 (S 1100034 0)) ≤ (S 58 ((S 1092 0) - 1)) - 2) ∧ (S 1100033 0) + 1 < (S 1046 0) ∧ (S 29 ((S 1100033 0) + 1)) = (S 29 (S 1100033 0)) ∧ (S 1100007 ((S 1100033 0) + 1)) = (S 58 ((S 1092 0) - 1)) + (-1) ∧ (S 1100023 ((S 1100033 0) + 1)) = (S 1100023 (S 1100033 0)) ∧ (S 1100025 ((S 1100033 0) + 1)) = (S 1100034 0)) → ((sm_SK (S 63) (S 64) (S 44) (S 1100007) (S 1100025) (S 1076 0) (S 1007 0) (400 * ((S 1092 0) - 1)) ((S 58 ((S 1092 0) - 1))) ((S 1100034 0)) → sm_LS (S 26) (S 1100007) (S 1100025) (S 1046 0) → 0 ≤ (S 58 ((S 1092 0) - 1)) - 1 → (S 58 ((S 1092 0) - 1)) - 1 < (S 58 ((S 1092 0) - 1)) → (S 1100034 0) < (S 1046 0) → (0 ≤ (S 1100034 0) → (S 26 (S 1100034 0)) = 29) → (0 ≤ (S 1100034 0) → (S 1100007 (S 1100034 0)) ≤ (S 58 ((S 1092 0) - 1)) - 2) → sm_VO (S 44) (S 1076 0) (S 1007 0) ((S 63 (400 * ((S 1092 0) - 1) + ((S 58 ((S 1092 0) - 1)) - 1)))) ((S 64 (400 * ((S 1092 0) - 1) + ((S 58 ((S 1092 0) - 1)) - 1))))) → ((sm_SK (S 63) (S 64) (S 44) (S 1100007) (S 1100025) (S 1076 0) (S 1007 0) (400 * ((S 1092 0) - 1)) ((S 58 ((S 1092 0) - 1))) ((S 1100034 0)) → sm_LS (S 26) (S 1100007) (S 1100025) (S 1046 0) → 0 ≤ (S 58 ((S 1092 0) - 1)) - 2 → (S 58 ((S 1092 0) - 1)) - 2 < (S 58 ((S 1092 0) - 1)) → (S 1100034 0) < (S 1046 0) → (0 ≤ (S 1100034 0) → (S 26 (S 1100034 0)) = 29) → (0 ≤ (S 1100034 0) → (S 1100007 (S 1100034 0)) ≤ (S 58 ((S 1092 0) - 1)) - 2) → sm_VO (S 44) (S 1076 0) (S 1007 0) ((S 63 (400 * ((S 1092 0) - 1) + ((S 58 ((S 1092 0) - 1)) - 2)))) ((S 64 (400 * ((S 1092 0) - 1) + ((S 58 ((S 1092 0) - 1)) - 2))))) → (1 ≤ (S 1092 0) ∧ (S 1092 0) ≤ 24 ∧ 0 ≤ (S 58 ((S 1092 0) - 1)) ∧ (S 58 ((S 1092 0) - 1)) ≤ 400 ∧ 0 ≤ (1 : Int) ∧ (1 : Int) < (S 58 ((S 1092 0) - 1))) ∧ (∀ x4 : Int, ((S 63 ((400 * ((S 1092 0) - 1) + (S 58 ((S 1092 0) - 1))) - 1 - (1 : Int)))) = x4 → (∀ x6 : Int, ((S 64 ((400 * ((S 1092 0) - 1) + (S 58 ((S 1092 0) - 1))) - 1 - (1 : Int)))) = x6 → (1 ≤ (S 1092 0) ∧ (S 1092 0) ≤ 24 ∧ 0 ≤ (S 58 ((S 1092 0) - 1)) ∧ (S 58 ((S 1092 0) - 1)) ≤ 400 ∧ 0 ≤ (0 : Int) ∧ (0 : Int) < (S 58 ((S 1092 0) - 1))) ∧ (31 ≤ (S 1007 0) ∧ (S 1007 0) ≤ 400 ∧ sm_LN (S 4) 400 (S 1007 0) ∧ (((S 63 ((400 * ((S 1092 0) - 1) + (S 58 ((S 1092 0) - 1))) - 1 - (0 : Int)))) = 6 → 0 ≤ ((S 64 ((400 * ((S 1092 0) - 1) + (S 58 ((S 1092 0) - 1))) - 1 - (0 : Int)))) ∧ ((S 64 ((400 * ((S 1092 0) - 1) + (S 58 ((S 1092 0) - 1))) - 1 - (0 : Int)))) < (S 1007 0))) ∧ (∀ r14 : Int, sv_R r14 → ∀ g10 : sv_S, (0 ≤ r14 ∧ r14 < (g10 1007 0) ∧ (((S 63 ((400 * ((S 1092 0) - 1) + (S 58 ((S 1092 0) - 1))) - 1 - (0 : Int)))) = 5 → 0 ≤ ((S 64 ((400 * ((S 1092 0) - 1) + (S 58 ((S 1092 0) - 1))) - 1 - (0 : Int)))) → ((S 64 ((400 * ((S 1092 0) - 1) + (S 58 ((S 1092 0) - 1))) - 1 - (0 : Int)))) ≤ 100 → (g10 1075 0) = 0 → (g10 4 r14) ≤ 3) ∧ (S 1007 0) ≤ (g10 1007 0) ∧ (g10 1007 0) ≤ 400 ∧ sm_LN (g10 4) 400 (g10 1007 0) ∧ ((S 1075 0) = 1 → (g10 1075 0) = 1)) → ((0 ≤ (g10 1075 0) ∧ (g10 1075 0) ≤ 1) → ((((g10 1075 0) = (0 : Int)) → ((((1 : Int) < x4) → (((¬ x4 = (7 : Int)) → (((x4 = (6 : Int)) → (((¬ r14 = (0 : Int)) → (sm_PL (S 1100020) (S 51) (S 52) (S 46) (S 47) (S 1076 0) (S 1086 0) ∧ sm_FR (S 1100020) (S 52) (S 1100021) (S 1100022) (3000 - (S 1084 0)) (S 1085 0) ∧ sm_PV (S 1100020) (S 48) (S 49) (S 50) (S 44) (S 1076 0) (g10 1007 0) ∧ sm_AL (S 1100020) (S 48) (S 49) (S 50) (S 44) (S 1076 0) (S 1100032 0) ∧ sm_SV (S 1100020) (S 48) (S 1100029) (S 32) (S 33) (S 1076 0) (S 1032 0) ∧ 0 ≤ (S 1076 0) ∧ (S 1076 0) ≤ 300 ∧ 0 ≤ (S 1084 0) ∧ (S 1084 0) ≤ 3000 ∧ 0 ≤ (S 1086 0) ∧ sm_SC (S 1100029) (S 44) (S 45) (S 43) (S 21) (S 1076 0) (S 1032 0) ∧ sm_PO (S 42) (S 1076 0) ∧ 2 ≤ (S 1076 0) ∧ 0 ≤ (4 : Int) ∧ (4 : Int) < (S 1076 0)) ∧ (∀ r22 : Int, sv_R r22 → ∀ g18 : sv_S, ((r22 = 0 ∨ r22 = 1) ∧ sm_VO (S 44) (S 1076 0) (g10 1007 0) ((g18 1111 0)) ((g18 1112 0))) → (((g10 1075 0) = 0 → (S 1073 0) = 1 → sm_PL (S 1100020) (S 51) (S 52) (S 46) (S 47) (S 1076 0) (S 1086 0) ∧ sm_FR (S 1100020) (S 52) (S 1100021) (S 1100022) (3000 - (S 1084 0)) (S 1085 0) ∧ sm_PV (S 1100020) (S 48) (S 49) (S 50) (S 44) (S 1076 0) (g10 1007 0) ∧ sm_AL (S 1100020) (S 48) (S 49) (S 50) (S 44) (S 1076 0) (S 1100032 0) ∧ sm_SV (S 1100020) (S 48) (S 1100029) (S 32) (S 33) (S 1076 0) (S 1032 0) ∧ 0 ≤ (S 1076 0) ∧ (S 1076 0) ≤ 300 ∧ 0 ≤ (S 1084 0) ∧ (S 1084 0) ≤ 3000 ∧ 0 ≤ (S 1086 0) ∧ sm_SC (S 1100029) (S 44) (S 45) (S 43) (S 21) (S 1076 0) (S 1032 0) ∧ sm_PO (S 42) (S 1076 0) ∧ (S 1100032 0) = -1 ∧ sm_FO (S 44) (S 45) (S 1076 0) ∧ 23 ≤ (S 1076 0) ∧ 31 ≤ (g10 1007 0) ∧ (g10 1007 0) ≤ 400 ∧ sm_LN (g10 4) 400 (g10 1007 0) ∧ sm_CT (S 26) (S 27) (S 28) (S 29) (S 1100007) (S 1100023) (S 1100024) (S 1100025) (S 21) (S 1046 0) (S 1032 0) (S 1008 0) (S 1055 0) ∧ sm_LS (S 26) (S 1100007) (S 1100025) (S 1046 0) ∧ sm_CL (S 1100007) (S 1100023) (S 1100025) (S 1046 0) ∧ 1 ≤ (S 1032 0) ∧ (S 1032 0) ≤ 11 ∧ 0 ≤ (S 1046 0) ∧ (S 1046 0) ≤ 600 ∧ 31 ≤ (S 1008 0) ∧ (S 1008 0) ≤ (g10 1007 0) ∧ 0 ≤ (S 1055 0) ∧ (S 1055 0) ≤ 19 ∧ 1 ≤ (S 1092 0) ∧ (S 1092 0) ≤ 24 ∧ 0 ≤ (S 1100033 0) ∧ (S 1100033 0) < (S 1046 0) ∧ (S 29 (S 1100033 0)) = (S 53 ((S 1092 0) - 1)) ∧ 0 ≤ (S 53 ((S 1092 0) - 1)) ∧ (S 53 ((S 1092 0) - 1)) < (S 1032 0) ∧ (S 60 ((S 1092 0) - 1)) = sm_dp (S 1100024) (S 1100023 (S 1100033 0)) ∧ sm_TC (S 61) (S 62) (S 27) (S 1100007) (S 1100023) (S 1100024) (40 * ((S 1092 0) - 1)) (S 1100023 (S 1100033 0)) ∧ sm_LK (S 1100029) (S 1076 0) (S 54 ((S 1092 0) - 1)) (S 53 ((S 1092 0) - 1)) ∧ sm_VO (S 44) (S 1076 0) (g10 1007 0) ((S 55 ((S 1092 0) - 1))) ((S 56 ((S 1092 0) - 1))) ∧ sm_FW (S 44) (S 1076 0) (S 59 ((S 1092 0) - 1)) ∧ sm_FL (S 53) (S 54) (S 55) (S 56) (S 57) (S 58) (S 59) (S 60) (S 61) (S 62) (S 63) (S 64) (S 27) (S 29) (S 1100007) (S 1100023) (S 1100024) (S 1100025) (S 26) (S 1100029) (S 44) (S 1046 0) (S 1032 0) (S 1076 0) (g10 1007 0) (((S 1092 0) - 1)) ∧ (S 57 ((S 1092 0) - 1)) = (S 1100033 0) ∧ 0 ≤ (S 58 ((S 1092 0) - 1)) ∧ (S 58 ((S 1092 0) - 1)) ≤ 400 ∧ sm_SK (S 63) (S 64) (S 44) (S 1100007) (S 1100025) (S 1076 0) (g10 1007 0) (400 * ((S 1092 0) - 1)) ((S 58 ((S 1092 0) - 1))) ((S 1100034 0)) ∧ -1 ≤ (S 1100034 0) ∧ (S 1100034 0) < (S 1046 0) ∧ (0 ≤ (S 1100034 0) → (S 26 (S 1100034 0)) = 29) ∧ 0 ≤ (2 : Int) ∧ (2 : Int) ≤ (S 58 ((S 1092 0) - 1)) ∧ (S 58 ((S 1092 0) - 1)) - (2 : Int) ≤ 399 ∧ sm_VO (S 44) (S 1076 0) (g10 1007 0) ((g18 1111 0)) ((g18 1112 0)) ∧ (0 ≤ (S 1100034 0) → (S 1100007 (S 1100034 0)) ≤ (S 58 ((S 1092 0) - 1)) - (2 : Int)) ∧ (S 1100033 0) + 1 < (S 1046 0) ∧ (S 29 ((S 1100033 0) + 1)) = (S 29 (S 1100033 0)) ∧ (S 1100007 ((S 1100033 0) + 1)) = (S 58 ((S 1092 0) - 1)) - (2 : Int) + 1 ∧ (S 1100023 ((S 1100033 0) + 1)) = (S 1100023 (S 1100033 0)) ∧ (S 1100025 ((S 1100033 0) + 1)) = (S 1100034 0)) ∧ (¬ (g10 1075 0) = 0 → sm_LX (S 58) (S 63) (S 64) (S 1092 0) (S 1076 0))) ∧ (∀ g25 : sv_S, (((g10 1075 0) = 0 → (S 1073 0) = 1 → 1 ≤ (S 1092 0) ∧ (S 1092 0) ≤ 24 ∧ 0 ≤ (g25 57 ((S 1092 0) - 1)) ∧ (g25 57 ((S 1092 0) - 1)) < (S 1046 0) ∧ (S 29 (g25 57 ((S 1092 0) - 1))) = (S 53 ((S 1092 0) - 1)) ∧ 0 ≤ (S 53 ((S 1092 0) - 1)) ∧ (S 53 ((S 1092 0) - 1)) < (S 1032 0) ∧ (S 60 ((S 1092 0) - 1)) = sm_dp (S 1100024) (S 1100023 (g25 57 ((S 1092 0) - 1))) ∧ sm_TC (S 61) (S 62) (S 27) (S 1100007) (S 1100023) (S 1100024) (40 * ((S 1092 0) - 1)) (S 1100023 (g25 57 ((S 1092 0) - 1))) ∧ sm_LK (S 1100029) (S 1076 0) (S 54 ((S 1092 0) - 1)) (S 53 ((S 1092 0) - 1)) ∧ sm_VO (S 44) (S 1076 0) (g10 1007 0) ((S 55 ((S 1092 0) - 1))) ((S 56 ((S 1092 0) - 1))) ∧ sm_FW (S 44) (S 1076 0) (S 59 ((S 1092 0) - 1)) ∧ sm_FL (S 53) (S 54) (S 55) (S 56) (g25 57) (g25 58) (S 59) (S 60) (S 61) (S 62) (g25 63) (g25 64) (S 27) (S 29) (S 1100007) (S 1100023) (S 1100024) (S 1100025) (S 26) (S 1100029) (S 44) (S 1046 0) (S 1032 0) (S 1076 0) (g10 1007 0) (((S 1092 0) - 1)) ∧ (g25 58 ((S 1092 0) - 1)) = (S 1100007 (g25 57 ((S 1092 0) - 1))) ∧ sm_SK (g25 63) (g25 64) (S 44) (S 1100007) (S 1100025) (S 1076 0) (g10 1007 0) (400 * ((S 1092 0) - 1)) ((g25 58 ((S 1092 0) - 1))) ((S 1100025 (g25 57 ((S 1092 0) - 1))))) ∧ (¬ (g10 1075 0) = 0 → sm_LX (g25 58) (g25 63) (g25 64) (S 1092 0) (S 1076 0))) → (sm_PL (S 1100020) (S 51) (S 52) (S 46) (S 47) (S 1076 0) (S 1086 0) ∧ sm_FR (S 1100020) (S 52) (S 1100021) (S 1100022) (3000 - (S 1084 0)) (S 1085 0) ∧ sm_PV (S 1100020) (S 48) (S 49) (S 50) (S 44) (S 1076 0) (g10 1007 0) ∧ sm_AL (S 1100020) (S 48) (S 49) (S 50) (S 44) (S 1076 0) (S 1100032 0) ∧ sm_SV (S 1100020) (S 48) (S 1100029) (S 32) (S 33) (S 1076 0) (S 1032 0) ∧ 0 ≤ (S 1076 0) ∧ (S 1076 0) ≤ 300 ∧ 0 ≤ (S 1084 0) ∧ (S 1084 0) ≤ 3000 ∧ 0 ≤ (S 1086 0) ∧ sm_SC (S 1100029) (S 44) (S 45) (S 43) (S 21) (S 1076 0) (S 1032 0) ∧ sm_PO (S 42) (S 1076 0) ∧ ((g10 1075 0) = 0 → (S 1100032 0) = -1 ∧ sm_FO (S 44) (S 45) (S 1076 0)) ∧ 23 ≤ (S 1076 0) ∧ 31 ≤ (g10 1007 0) ∧ (g10 1007 0) ≤ 400 ∧ sm_LN (g10 4) 400 (g10 1007 0) ∧ (S 1008 0) ≤ (g10 1007 0) ∧ ((S 1075 0) = 1 → (g10 1075 0) = 1) ∧ 0 ≤ (S 1092 0) ∧ (S 1092 0) ≤ 24 ∧ (S 1007 0) ≤ (g10 1007 0) ∧ (¬ (g10 1075 0) = 0 → sm_LX (g25 58) (g25 63) (g25 64) (S 1092 0) (S 1076 0)) ∧ ((g10 1075 0) = 0 → (S 1073 0) = 1 → 1 ≤ (S 1092 0) ∧ (S 1092 0) ≤ 24 ∧ 0 ≤ (g25 57 ((S 1092 0) - 1)) ∧ (g25 57 ((S 1092 0) - 1)) < (S 1046 0) ∧ (S 29 (g25 57 ((S 1092 0) - 1))) = (S 53 ((S 1092 0) - 1)) ∧ 0 ≤ (S 53 ((S 1092 0) - 1)) ∧ (S 53 ((S 1092 0) - 1)) < (S 1032 0) ∧ (S 60 ((S 1092 0) - 1)) = sm_dp (S 1100024) (S 1100023 (g25 57 ((S 1092 0) - 1))) ∧ sm_TC (S 61) (S 62) (S 27) (S 1100007) (S 1100023) (S 1100024) (40 * ((S 1092 0) - 1)) (S 1100023 (g25 57 ((S 1092 0) - 1))) ∧ sm_LK (S 1100029) (S 1076 0) (S 54 ((S 1092 0) - 1)) (S 53 ((S 1092 0) - 1)) ∧ sm_VO (S 44) (S 1076 0) (g10 1007 0) ((S 55 ((S 1092 0) - 1))) ((S 56 ((S 1092 0) - 1))) ∧ sm_FW (S 44) (S 1076 0) (S 59 ((S 1092 0) - 1)) ∧ sm_FL (S 53) (S 54) (S 55) (S 56) (g25 57) (g25 58) (S 59) (S 60) (S 61) (S 62) (g25 63) (g25 64) (S 27) (S 29) (S 1100007) (S 1100023) (S 1100024) (S 1100025) (S 26) (S 1100029) (S 44) (S 1046 0) (S 1032 0) (S 1076 0) (g10 1007 0) (((S 1092 0) - 1)) ∧ (g25 58 ((S 1092 0) - 1)) = (S 1100007 (g25 57 ((S 1092 0) - 1))) ∧ sm_SK (g25 63) (g25 64) (S 44) (S 1100007) (S 1100025) (S 1076 0) (g10 1007 0) (400 * ((S 1092 0) - 1)) ((g25 58 ((S 1092 0) - 1))) ((S 1100025 (g25 57 ((S 1092 0) - 1))))) ∧ ((S 1073 0) = 1 ∨ (S 1092 0) = 0 ∧ (g10 1075 0) = 0 ∧ ((S 1073 0) = 2 ∨ (S 1073 0) = 3)))))) ∧ ((¬ (¬ r14 = (0 : Int))) → (0 ≤ x6 ∧ x6 < 400) ∧ (sv_R (g10 4 x6) → (∀ g32 : sv_S, ((g32 1111 0) = (5 : Int) ∧ (g32 1112 0) = (g10 4 x6)) → (((g10 1075 0) = 0 → (S 1073 0) = 1 → sm_PL (S 1100020) (S 51) (S 52) (S 46) (S 47) (S 1076 0) (S 1086 0) ∧ sm_FR (S 1100020) (S 52) (S 1100021) (S 1100022) (3000 - (S 1084 0)) (S 1085 0) ∧ sm_PV (S 1100020) (S 48) (S 49) (S 50) (S 44) (S 1076 0) (g10 1007 0) ∧ sm_AL (S 1100020) (S 48) (S 49) (S 50) (S 44) (S 1076 0) (S 1100032 0) ∧ sm_SV (S 1100020) (S 48) (S 1100029) (S 32) (S 33) (S 1076 0) (S 1032 0) ∧ 0 ≤ (S 1076 0) ∧ (S 1076 0) ≤ 300 ∧ 0 ≤ (S 1084 0) ∧ (S 1084 0) ≤ 3000 ∧ 0 ≤ (S 1086 0) ∧ sm_SC (S 1100029) (S 44) (S 45) (S 43) (S 21) (S 1076 0) (S 1032 0) ∧ sm_PO (S 42) (S 1076 0) ∧ (S 1100032 0) = -1 ∧ sm_FO (S 44) (S 45) (S 1076 0) ∧ 23 ≤ (S 1076 0) ∧ 31 ≤ (g10 1007 0) ∧ (g10 1007 0) ≤ 400 ∧ sm_LN (g10 4) 400 (g10 1007 0) ∧ sm_CT (S 26) (S 27) (S 28) (S 29) (S 1100007) (S 1100023) (S 1100024) (S 1100025) (S 21) (S 1046 0) (S 1032 0) (S 1008 0) (S 1055 0) ∧ sm_LS (S 26) (S 1100007) (S 1100025) (S 1046 0) ∧ sm_CL (S 1100007) (S 1100023) (S 1100025) (S 1046 0) ∧ 1 ≤ (S 1032 0) ∧ (S 1032 0) ≤ 11 ∧ 0 ≤ (S 1046 0) ∧ (S 1046 0) ≤ 600 ∧ 31 ≤ (S 1008 0) ∧ (S 1008 0) ≤ (g10 1007 0) ∧ 0 ≤ (S 1055 0) ∧ (S 1055 0) ≤ 19 ∧ 1 ≤ (S 1092 0) ∧ (S 1092 0) ≤ 24 ∧ 0 ≤ (S 1100033 0) ∧ (S 1100033 0) < (S 1046 0) ∧ (S 29 (S 1100033 0)) = (S 53 ((S 1092 0) - 1)) ∧ 0 ≤ (S 53 ((S 1092 0) - 1)) ∧ (S 53 ((S 1092 0) - 1)) < (S 1032 0) ∧ (S 60 ((S 1092 0) - 1)) = sm_dp (S 1100024) (S 1100023 (S 1100033 0)) ∧ sm_TC (S 61) (S 62) (S 27) (S 1100007) (S 1100023) (S 1100024) (40 * ((S 1092 0) - 1)) (S 1100023 (S 1100033 0)) ∧ sm_LK (S 1100029) (S 1076 0) (S 54 ((S 1092 0) - 1)) (S 53 ((S 1092 0) - 1)) ∧ sm_VO (S 44) (S 1076 0) (g10 1007 0) ((S 55 ((S 1092 0) - 1))) ((S 56 ((S 1092 0) - 1))) ∧ sm_FW (S 44) (S 1076 0) (S 59 ((S 1092 0) - 1)) ∧ sm_FL (S 53) (S 54) (S 55) (S 56) (S 57) (S 58) (S 59) (S 60) (S 61) (S 62) (S 63) (S 64) (S 27) (S 29) (S 1100007) (S 1100023) (S 1100024) (S 1100025) (S 26) (S 1100029) (S 44) (S 1046 0) (S 1032 0) (S 1076 0) (g10 1007 0) (((S 1092 0) - 1)) ∧ (S 57 ((S 1092 0) - 1)) = (S 1100033 0) ∧ 0 ≤ (S 58 ((S 1092 0) - 1)) ∧ (S 58 ((S 1092 0) - 1)) ≤ 400 ∧ sm_SK (S 63) (S 64) (S 44) (S 1100007) (S 1100025) (S 1076 0) (g10 1007 0) (400 * ((S 1092 0) - 1)) ((S 58 ((S 1092 0) - 1))) ((S 1100034 0)) ∧ -1 ≤ (S 1100034 0) ∧ (S 1100034 0) < (S 1046 0) ∧ (0 ≤ (S 1100034 0) → (S 26 (S 1100034 0)) = 29) ∧ 0 ≤ (2 : Int) ∧ (2 : Int) ≤ (S 58 ((S 1092 0) - 1)) ∧ (S 58 ((S 1092 0) - 1)) - (2 : Int) ≤ 399 ∧ sm_VO (S 44) (S 1076 0) (g10 1007 0) ((g32 1111 0)) ((g32 1112 0)) ∧ (0 ≤ (S 1100034 0) → (S 1100007 (S 1100034 0)) ≤ (S 58 ((S 1092 0) - 1)) - (2 : Int)) ∧ (S 1100033 0) + 1 < (S 1046 0) ∧ (S 29 ((S 1100033 0) + 1)) = (S 29 (S 1100033 0)) ∧ (S 1100007 ((S 1100033 0) + 1)) = (S 58 ((S 1092 0) - 1)) - (2 : Int) + 1 ∧ (S 1100023 ((S 1100033 0) + 1)) = (S 1100023 (S 1100033 0)) ∧ (S 1100025 ((S 1100033 0) + 1)) = (S 1100034 0)) ∧ (¬ (g10 1075 0) = 0 → sm_LX (S 58) (S 63) (S 64) (S 1092 0) (S 1076 0))) ∧ (∀ g38 : sv_S, (((g10 1075 0) = 0 → (S 1073 0) = 1 → 1 ≤ (S 1092 0) ∧ (S 1092 0) ≤ 24 ∧ 0 ≤ (g38 57 ((S 1092 0) - 1)) ∧ (g38 57 ((S 1092 0) - 1)) < (S 1046 0) ∧ (S 29 (g38 57 ((S 1092 0) - 1))) = (S 53 ((S 1092 0) - 1)) ∧ 0 ≤ (S 53 ((S 1092 0) - 1)) ∧ (S 53 ((S 1092 0) - 1)) < (S 1032 0) ∧ (S 60 ((S 1092 0) - 1)) = sm_dp (S 1100024) (S 1100023 (g38 57 ((S 1092 0) - 1))) ∧ sm_TC (S 61) (S 62) (S 27) (S 1100007) (S 1100023) (S 1100024) (40 * ((S 1092 0) - 1)) (S 1100023 (g38 57 ((S 1092 0) - 1))) ∧ sm_LK (S 1100029) (S 1076 0) (S 54 ((S 1092 0) - 1)) (S 53 ((S 1092 0) - 1)) ∧ sm_VO (S 44) (S 1076 0) (g10 1007 0) ((S 55 ((S 1092 0) - 1))) ((S 56 ((S 1092 0) - 1))) ∧ sm_FW (S 44) (S 1076 0) (S 59 ((S 1092 0) - 1)) ∧ sm_FL (S 53) (S 54) (S 55) (S 56) (g38 57) (g38 58) (S 59) (S 60) (S 61) (S 62) (g38 63) (g38 64) (S 27) (S 29) (S 1100007) (S 1100023) (S 1100024) (S 1100025) (S 26) (S 1100029) (S 44) (S 1046 0) (S 1032 0) (S 1076 0) (g10 1007 0) (((S 1092 0) - 1)) ∧ (g38 58 ((S 1092 0) - 1)) = (S 1100007 (g38 57 ((S 1092 0) - 1))) ∧ sm_SK (g38 63) (g38 64) (S 44) (S 1100007) (S 1100025) (S 1076 0) (g10 1007 0) (400 * ((S 1092 0) - 1)) ((g38 58 ((S 1092 0) - 1))) ((S 1100025 (g38 57 ((S 1092 0) - 1))))) ∧ (¬ (g10 1075 0) = 0 → sm_LX (g38 58) (g38 63) (g38 64) (S 1092 0) (S 1076 0))) → (sm_PL (S 1100020) (S 51) (S 52) (S 46) (S 47) (S 1076 0) (S 1086 0) ∧ sm_FR (S 1100020) (S 52) (S 1100021) (S 1100022) (3000 - (S 1084 0)) (S 1085 0) ∧ sm_PV (S 1100020) (S 48) (S 49) (S 50) (S 44) (S 1076 0) (g10 1007 0) ∧ sm_AL (S 1100020) (S 48) (S 49) (S 50) (S 44) (S 1076 0) (S 1100032 0) ∧ sm_SV (S 1100020) (S 48) (S 1100029) (S 32) (S 33) (S 1076 0) (S 1032 0) ∧ 0 ≤ (S 1076 0) ∧ (S 1076 0) ≤ 300 ∧ 0 ≤ (S 1084 0) ∧ (S 1084 0) ≤ 3000 ∧ 0 ≤ (S 1086 0) ∧ sm_SC (S 1100029) (S 44) (S 45) (S 43) (S 21) (S 1076 0) (S 1032 0) ∧ sm_PO (S 42) (S 1076 0) ∧ ((g10 1075 0) = 0 → (S 1100032 0) = -1 ∧ sm_FO (S 44) (S 45) (S 1076 0)) ∧ 23 ≤ (S 1076 0) ∧ 31 ≤ (g10 1007 0) ∧ (g10 1007 0) ≤ 400 ∧ sm_LN (g10 4) 400 (g10 1007 0) ∧ (S 1008 0) ≤ (g10 1007 0) ∧ ((S 1075 0) = 1 → (g10 1075 0) = 1) ∧ 0 ≤ (S 1092 0) ∧ (S 1092 0) ≤ 24 ∧ (S 1007 0) ≤ (g10 1007 0) ∧ (¬ (g10 1075 0) = 0 → sm_LX (g38 58) (g38 63) (g38 64) (S 1092 0) (S 1076 0)) ∧ ((g10 1075 0) = 0 → (S 1073 0) = 1 → 1 ≤ (S 1092 0) ∧ (S 1092 0) ≤ 24 ∧ 0 ≤ (g38 57 ((S 1092 0) - 1)) ∧ (g38 57 ((S 1092 0) - 1)) < (S 1046 0) ∧ (S 29 (g38 57 ((S 1092 0) - 1))) = (S 53 ((S 1092 0) - 1)) ∧ 0 ≤ (S 53 ((S 1092 0) - 1)) ∧ (S 53 ((S 1092 0) - 1)) < (S 1032 0) ∧ (S 60 ((S 1092 0) - 1)) = sm_dp (S 1100024) (S 1100023 (g38 57 ((S 1092 0) - 1))) ∧ sm_TC (S 61) (S 62) (S 27) (S 1100007) (S 1100023) (S 1100024) (40 * ((S 1092 0) - 1)) (S 1100023 (g38 57 ((S 1092 0) - 1))) ∧ sm_LK (S 1100029) (S 1076 0) (S 54 ((S 1092 0) - 1)) (S 53 ((S 1092 0) - 1)) ∧ sm_VO (S 44) (S 1076 0) (g10 1007 0) ((S 55 ((S 1092 0) - 1))) ((S 56 ((S 1092 0) - 1))) ∧ sm_FW (S 44) (S 1076 0) (S 59 ((S 1092 0) - 1)) ∧ sm_FL (S 53) (S 54) (S 55) (S 56) (g38 57) (g38 58) (S 59) (S 60) (S 61) (S 62) (g38 63) (g38 64) (S 27) (S 29) (S 1100007) (S 1100023) (S 1100024) (S 1100025) (S 26) (S 1100029) (S 44) (S 1046 0) (S 1032 0) (S 1076 0) (g10 1007 0) (((S 1092 0) - 1)) ∧ (g38 58 ((S 1092 0) - 1)) = (S 1100007 (g38 57 ((S 1092 0) - 1))) ∧ sm_SK (g38 63) (g38 64) (S 44) (S 1100007) (S 1100025) (S 1076 0) (g10 1007 0) (400 * ((S 1092 0) - 1)) ((g38 58 ((S 1092 0) - 1))) ((S 1100025 (g38 57 ((S 1092 0) - 1))))) ∧ ((S 1073 0) = 1 ∨ (S 1092 0) = 0 ∧ (g10 1075 0) = 0 ∧ ((S 1073 0) = 2 ∨ (S 1073 0) = 3))))))))) ∧ ((¬ (x4 = (6 : Int))) → (∀ g43 : sv_S, ((g43 1111 0) = (0 : Int) ∧ (g43 1112 0) = (0 : Int)) → (((g10 1075 0) = 0 → (S 1073 0) = 1 → sm_PL (S 1100020) (S 51) (S 52) (S 46) (S 47) (S 1076 0) (S 1086 0) ∧ sm_FR (S 1100020) (S 52) (S 1100021) (S 1100022) (3000 - (S 1084 0)) (S 1085 0) ∧ sm_PV (S 1100020) (S 48) (S 49) (S 50) (S 44) (S 1076 0) (g10 1007 0) ∧ sm_AL (S 1100020) (S 48) (S 49) (S 50) (S 44) (S 1076 0) (S 1100032 0) ∧ sm_SV (S 1100020) (S 48) (S 1100029) (S 32) (S 33) (S 1076 0) (S 1032 0) ∧ 0 ≤ (S 1076 0) ∧ (S 1076 0) ≤ 300 ∧ 0 ≤ (S 1084 0) ∧ (S 1084 0) ≤ 3000 ∧ 0 ≤ (S 1086 0) ∧ sm_SC (S 1100029) (S 44) (S 45) (S 43) (S 21) (S 1076 0) (S 1032 0) ∧ sm_PO (S 42) (S 1076 0) ∧ (S 1100032 0) = -1 ∧ sm_FO (S 44) (S 45) (S 1076 0) ∧ 23 ≤ (S 1076 0) ∧ 31 ≤ (g10 1007 0) ∧ (g10 1007 0) ≤ 400 ∧ sm_LN (g10 4) 400 (g10 1007 0) ∧ sm_CT (S 26) (S 27) (S 28) (S 29) (S 1100007) (S 1100023) (S 1100024) (S 1100025) (S 21) (S 1046 0) (S 1032 0) (S 1008 0) (S 1055 0) ∧ sm_LS (S 26) (S 1100007) (S 1100025) (S 1046 0) ∧ sm_CL (S 1100007) (S 1100023) (S 1100025) (S 1046 0) ∧ 1 ≤ (S 1032 0) ∧ (S 1032 0) ≤ 11 ∧ 0 ≤ (S 1046 0) ∧ (S 1046 0) ≤ 600 ∧ 31 ≤ (S 1008 0) ∧ (S 1008 0) ≤ (g10 1007 0) ∧ 0 ≤ (S 1055 0) ∧ (S 1055 0) ≤ 19 ∧ 1 ≤ (S 1092 0) ∧ (S 1092 0) ≤ 24 ∧ 0 ≤ (S 1100033 0) ∧ (S 1100033 0) < (S 1046 0) ∧ (S 29 (S 1100033 0)) = (S 53 ((S 1092 0) - 1)) ∧ 0 ≤ (S 53 ((S 1092 0) - 1)) ∧ (S 53 ((S 1092 0) - 1)) < (S 1032 0) ∧ (S 60 ((S 1092 0) - 1)) = sm_dp (S 1100024) (S 1100023 (S 1100033 0)) ∧ sm_TC (S 61) (S 62) (S 27) (S 1100007) (S 1100023) (S 1100024) (40 * ((S 1092 0) - 1)) (S 1100023 (S 1100033 0)) ∧ sm_LK (S 1100029) (S 1076 0) (S 54 ((S 1092 0) - 1)) (S 53 ((S 1092 0) - 1)) ∧ sm_VO (S 44) (S 1076 0) (g10 1007 0) ((S 55 ((S 1092 0) - 1))) ((S 56 ((S 1092 0) - 1))) ∧ sm_FW (S 44) (S 1076 0) (S 59 ((S 1092 0) - 1)) ∧ sm_FL (S 53) (S 54) (S 55) (S 56) (S 57) (S 58) (S 59) (S 60) (S 61) (S 62) (S 63) (S 64) (S 27) (S 29) (S 1100007) (S 1100023) (S 1100024) (S 1100025) (S 26) (S 1100029) (S 44) (S 1046 0) (S 1032 0) (S 1076 0) (g10 1007 0) (((S 1092 0) - 1)) ∧ (S 57 ((S 1092 0) - 1)) = (S 1100033 0) ∧ 0 ≤ (S 58 ((S 1092 0) - 1)) ∧ (S 58 ((S 1092 0) - 1)) ≤ 400 ∧ sm_SK (S 63) (S 64) (S 44) (S 1100007) (S 1100025) (S 1076 0) (g10 1007 0) (400 * ((S 1092 0) - 1)) ((S 58 ((S 1092 0) - 1))) ((S 1100034 0)) ∧ -1 ≤ (S 1100034 0) ∧ (S 1100034 0) < (S 1046 0) ∧ (0 ≤ (S 1100034 0) → (S 26 (S 1100034 0)) = 29) ∧ 0 ≤ (2 : Int) ∧ (2 : Int) ≤ (S 58 ((S 1092 0) - 1)) ∧ (S 58 ((S 1092 0) - 1)) - (2 : Int) ≤ 399 ∧ sm_VO (S 44) (S 1076 0) (g10 1007 0) ((g43 1111 0)) ((g43 1112 0)) ∧ (0 ≤ (S 1100034 0) → (S 1100007 (S 1100034 0)) ≤ (S 58 ((S 1092 0) - 1)) - (2 : Int)) ∧ (S 1100033 0) + 1 < (S 1046 0) ∧ (S 29 ((S 1100033 0) + 1)) = (S 29 (S 1100033 0)) ∧ (S 1100007 ((S 1100033 0) + 1)) = (S 58 ((S 1092 0) - 1)) - (2 : Int) + 1 ∧ (S 1100023 ((S 1100033 0) + 1)) = (S 1100023 (S 1100033 0)) ∧ (S 1100025 ((S 1100033 0) + 1)) = (S 1100034 0)) ∧ (¬ (g10 1075 0) = 0 → sm_LX (S 58) (S 63) (S 64) (S 1092 0) (S 1076 0))) ∧ (∀ g49 : sv_S, (((g10 1075 0) = 0 → (S 1073 0) = 1 → 1 ≤ (S 1092 0) ∧ (S 1092 0) ≤ 24 ∧ 0 ≤ (g49 57 ((S 1092 0) - 1)) ∧ (g49 57 ((S 1092 0) - 1)) < (S 1046 0) ∧ (S 29 (g49 57 ((S 1092 0) - 1))) = (S 53 ((S 1092 0) - 1)) ∧ 0 ≤ (S 53 ((S 1092 0) - 1)) ∧ (S 53 ((S 1092 0) - 1)) < (S 1032 0) ∧ (S 60 ((S 1092 0) - 1)) = sm_dp (S 1100024) (S 1100023 (g49 57 ((S 1092 0) - 1))) ∧ sm_TC (S 61) (S 62) (S 27) (S 1100007) (S 1100023) (S 1100024) (40 * ((S 1092 0) - 1)) (S 1100023 (g49 57 ((S 1092 0) - 1))) ∧ sm_LK (S 1100029) (S 1076 0) (S 54 ((S 1092 0) - 1)) (S 53 ((S 1092 0) - 1)) ∧ sm_VO (S 44) (S 1076 0) (g10 1007 0) ((S 55 ((S 1092 0) - 1))) ((S 56 ((S 1092 0) - 1))) ∧ sm_FW (S 44) (S 1076 0) (S 59 ((S 1092 0) - 1)) ∧ sm_FL (S 53) (S 54) (S 55) (S 56) (g49 57) (g49 58) (S 59) (S 60) (S 61) (S 62) (g49 63) (g49 64) (S 27) (S 29) (S 1100007) (S 1100023) (S 1100024) (S 1100025) (S 26) (S 1100029) (S 44) (S 1046 0) (S 1032 0) (S 1076 0) (g10 1007 0) (((S 1092 0) - 1)) ∧ (g49 58 ((S 1092 0) - 1)) = (S 1100007 (g49 57 ((S 1092 0) - 1))) ∧ sm_SK (g49 63) (g49 64) (S 44) (S 1100007) (S 1100025) (S 1076 0) (g10 1007 0) (400 * ((S 1092 0) - 1)) ((g49 58 ((S 1092 0) - 1))) ((S 1100025 (g49 57 ((S 1092 0) - 1))))) ∧ (¬ (g10 1075 0) = 0 → sm_LX (g49 58) (g49 63) (g49 64) (S 1092 0) (S 1076 0))) → (sm_PL (S 1100020) (S 51) (S 52) (S 46) (S 47) (S 1076 0) (S 1086 0) ∧ sm_FR (S 1100020) (S 52) (S 1100021) (S 1100022) (3000 - (S 1084 0)) (S 1085 0) ∧ sm_PV (S 1100020) (S 48) (S 49) (S 50) (S 44) (S 1076 0) (g10 1007 0) ∧ sm_AL (S 1100020) (S 48) (S 49) (S 50) (S 44) (S 1076 0) (S 1100032 0) ∧ sm_SV (S 1100020) (S 48) (S 1100029) (S 32) (S 33) (S 1076 0) (S 1032 0) ∧ 0 ≤ (S 1076 0) ∧ (S 1076 0) ≤ 300 ∧ 0 ≤ (S 1084 0) ∧ (S 1084 0) ≤ 3000 ∧ 0 ≤ (S 1086 0) ∧ sm_SC (S 1100029) (S 44) (S 45) (S 43) (S 21) (S 1076 0) (S 1032 0) ∧ sm_PO (S 42) (S 1076 0) ∧ ((g10 1075 0) = 0 → (S 1100032 0) = -1 ∧ sm_FO (S 44) (S 45) (S 1076 0)) ∧ 23 ≤ (S 1076 0) ∧ 31 ≤ (g10 1007 0) ∧ (g10 1007 0) ≤ 400 ∧ sm_LN (g10 4) 400 (g10 1007 0) ∧ (S 1008 0) ≤ (g10 1007 0) ∧ ((S 1075 0) = 1 → (g10 1075 0) = 1) ∧ 0 ≤ (S 1092 0) ∧ (S 1092 0) ≤ 24 ∧ (S 1007 0) ≤ (g10 1007 0) ∧ (¬ (g10 1075 0) = 0 → sm_LX (g49 58) (g49 63) (g49 64) (S 1092 0) (S 1076 0)) ∧ ((g10 1075 0) = 0 → (S 1073 0) = 1 → 1 ≤ (S 1092 0) ∧ (S 1092 0) ≤ 24 ∧ 0 ≤ (g49 57 ((S 1092 0) - 1)) ∧ (g49 57 ((S 1092 0) - 1)) < (S 1046 0) ∧ (S 29 (g49 57 ((S 1092 0) - 1))) = (S 53 ((S 1092 0) - 1)) ∧ 0 ≤ (S 53 ((S 1092 0) - 1)) ∧ (S 53 ((S 1092 0) - 1)) < (S 1032 0) ∧ (S 60 ((S 1092 0) - 1)) = sm_dp (S 1100024) (S 1100023 (g49 57 ((S 1092 0) - 1))) ∧ sm_TC (S 61) (S 62) (S 27) (S 1100007) (S 1100023) (S 1100024) (40 * ((S 1092 0) - 1)) (S 1100023 (g49 57 ((S 1092 0) - 1))) ∧ sm_LK (S 1100029) (S 1076 0) (S 54 ((S 1092 0) - 1)) (S 53 ((S 1092 0) - 1)) ∧ sm_VO (S 44) (S 1076 0) (g10 1007 0) ((S 55 ((S 1092 0) - 1))) ((S 56 ((S 1092 0) - 1))) ∧ sm_FW (S 44) (S 1076 0) (S 59 ((S 1092 0) - 1)) ∧ sm_FL (S 53) (S 54) (S 55) (S 56) (g49 57) (g49 58) (S 59) (S 60) (S 61) (S 62) (g49 63) (g49 64) (S 27) (S 29) (S 1100007) (S 1100023) (S 1100024) (S 1100025) (S 26) (S 1100029) (S 44) (S 1046 0) (S 1032 0) (S 1076 0) (g10 1007 0) (((S 1092 0) - 1)) ∧ (g49 58 ((S 1092 0) - 1)) = (S 1100007 (g49 57 ((S 1092 0) - 1))) ∧ sm_SK (g49 63) (g49 64) (S 44) (S 1100007) (S 1100025) (S 1076 0) (g10 1007 0) (400 * ((S 1092 0) - 1)) ((g49 58 ((S 1092 0) - 1))) ((S 1100025 (g49 57 ((S 1092 0) - 1))))) ∧ ((S 1073 0) = 1 ∨ (S 1092 0) = 0 ∧ (g10 1075 0) = 0 ∧ ((S 1073 0) = 2 ∨ (S 1073 0) = 3)))))))) ∧ ((¬ (¬ x4 = (7 : Int))) → (sm_PL (S 1100020) (S 51) (S 52) (S 46) (S 47) (S 1076 0) (S 1086 0) ∧ sm_FR (S 1100020) (S 52) (S 1100021) (S 1100022) (3000 - (S 1084 0)) (S 1085 0) ∧ sm_PV (S 1100020) (S 48) (S 49) (S 50) (S 44) (S 1076 0) (g10 1007 0) ∧ sm_AL (S 1100020) (S 48) (S 49) (S 50) (S 44) (S 1076 0) (S 1100032 0) ∧ sm_SV (S 1100020) (S 48) (S 1100029) (S 32) (S 33) (S 1076 0) (S 1032 0) ∧ 0 ≤ (S 1076 0) ∧ (S 1076 0) ≤ 300 ∧ 0 ≤ (S 1084 0) ∧ (S 1084 0) ≤ 3000 ∧ 0 ≤ (S 1086 0) ∧ sm_SC (S 1100029) (S 44) (S 45) (S 43) (S 21) (S 1076 0) (S 1032 0) ∧ sm_PO (S 42) (S 1076 0) ∧ 2 ≤ (S 1076 0) ∧ 0 ≤ x6 ∧ x6 < (S 1076 0)) ∧ (∀ r59 : Int, sv_R r59 → ∀ g55 : sv_S, ((r59 = 0 ∨ r59 = 1) ∧ sm_VO (S 44) (S 1076 0) (g10 1007 0) ((g55 1111 0)) ((g55 1112 0))) → (((g10 1075 0) = 0 → (S 1073 0) = 1 → sm_PL (S 1100020) (S 51) (S 52) (S 46) (S 47) (S 1076 0) (S 1086 0) ∧ sm_FR (S 1100020) (S 52) (S 1100021) (S 1100022) (3000 - (S 1084 0)) (S 1085 0) ∧ sm_PV (S 1100020) (S 48) (S 49) (S 50) (S 44) (S 1076 0) (g10 1007 0) ∧ sm_AL (S 1100020) (S 48) (S 49) (S 50) (S 44) (S 1076 0) (S 1100032 0) ∧ sm_SV (S 1100020) (S 48) (S 1100029) (S 32) (S 33) (S 1076 0) (S 1032 0) ∧ 0 ≤ (S 1076 0) ∧ (S 1076 0) ≤ 300 ∧ 0 ≤ (S 1084 0) ∧ (S 1084 0) ≤ 3000 ∧ 0 ≤ (S 1086 0) ∧ sm_SC (S 1100029) (S 44) (S 45) (S 43) (S 21) (S 1076 0) (S 1032 0) ∧ sm_PO (S 42) (S 1076 0) ∧ (S 1100032 0) = -1 ∧ sm_FO (S 44) (S 45) (S 1076 0) ∧ 23 ≤ (S 1076 0) ∧ 31 ≤ (g10 1007 0) ∧ (g10 1007 0) ≤ 400 ∧ sm_LN (g10 4) 400 (g10 1007 0) ∧ sm_CT (S 26) (S 27) (S 28) (S 29) (S 1100007) (S 1100023) (S 1100024) (S 1100025) (S 21) (S 1046 0) (S 1032 0) (S 1008 0) (S 1055 0) ∧ sm_LS (S 26) (S 1100007) (S 1100025) (S 1046 0) ∧ sm_CL (S 1100007) (S 1100023) (S 1100025) (S 1046 0) ∧ 1 ≤ (S 1032 0) ∧ (S 1032 0) ≤ 11 ∧ 0 ≤ (S 1046 0) ∧ (S 1046 0) ≤ 600 ∧ 31 ≤ (S 1008 0) ∧ (S 1008 0) ≤ (g10 1007 0) ∧ 0 ≤ (S 1055 0) ∧ (S 1055 0) ≤ 19 ∧ 1 ≤ (S 1092 0) ∧ (S 1092 0) ≤ 24 ∧ 0 ≤ (S 1100033 0) ∧ (S 1100033 0) < (S 1046 0) ∧ (S 29 (S 1100033 0)) = (S 53 ((S 1092 0) - 1)) ∧ 0 ≤ (S 53 ((S 1092 0) - 1)) ∧ (S 53 ((S 1092 0) - 1)) < (S 1032 0) ∧ (S 60 ((S 1092 0) - 1)) = sm_dp (S 1100024) (S 1100023 (S 1100033 0)) ∧ sm_TC (S 61) (S 62) (S 27) (S 1100007) (S 1100023) (S 1100024) (40 * ((S 1092 0) - 1)) (S 1100023 (S 1100033 0)) ∧ sm_LK (S 1100029) (S 1076 0) (S 54 ((S 1092 0) - 1)) (S 53 ((S 1092 0) - 1)) ∧ sm_VO (S 44) (S 1076 0) (g10 1007 0) ((S 55 ((S 1092 0) - 1))) ((S 56 ((S 1092 0) - 1))) ∧ sm_FW (S 44) (S 1076 0) (S 59 ((S 1092 0) - 1)) ∧ sm_FL (S 53) (S 54) (S 55) (S 56) (S 57) (S 58) (S 59) (S 60) (S 61) (S 62) (S 63) (S 64) (S 27) (S 29) (S 1100007) (S 1100023) (S 1100024) (S 1100025) (S 26) (S 1100029) (S 44) (S 1046 0) (S 1032 0) (S 1076 0) (g10 1007 0) (((S 1092 0) - 1)) ∧ (S 57 ((S 1092 0) - 1)) = (S 1100033 0) ∧ 0 ≤ (S 58 ((S 1092 0) - 1)) ∧ (S 58 ((S 1092 0) - 1)) ≤ 400 ∧ sm_SK (S 63) (S 64) (S 44) (S 1100007) (S 1100025) (S 1076 0) (g10 1007 0) (400 * ((S 1092 0) - 1)) ((S 58 ((S 1092 0) - 1))) ((S 1100034 0)) ∧ -1 ≤ (S 1100034 0) ∧ (S 1100034 0) < (S 1046 0) ∧ (0 ≤ (S 1100034 0) → (S 26 (S 1100034 0)) = 29) ∧ 0 ≤ (2 : Int) ∧ (2 : Int) ≤ (S 58 ((S 1092 0) - 1)) ∧ (S 58 ((S 1092 0) - 1)) - (2 : Int) ≤ 399 ∧ sm_VO (S 44) (S 1076 0) (g10 1007 0) ((g55 1111 0)) ((g55 1112 0)) ∧ (0 ≤ (S 1100034 0) → (S 1100007 (S 1100034 0)) ≤ (S 58 ((S 1092 0) - 1)) - (2 : Int)) ∧ (S 1100033 0) + 1 < (S 1046 0) ∧ (S 29 ((S 1100033 0) + 1)) = (S 29 (S 1100033 0)) ∧ (S 1100007 ((S 1100033 0) + 1)) = (S 58 ((S 1092 0) - 1)) - (2 : Int) + 1 ∧ (S 1100023 ((S 1100033 0) + 1)) = (S 1100023 (S 1100033 0)) ∧ (S 1100025 ((S 1100033 0) + 1)) = (S 1100034 0)) ∧ (¬ (g10 1075 0) = 0 → sm_LX (S 58) (S 63) (S 64) (S 1092 0) (S 1076 0))) ∧ (∀ g62 : sv_S, (((g10 1075 0) = 0 → (S 1073 0) = 1 → 1 ≤ (S 1092 0) ∧ (S 1092 0) ≤ 24 ∧ 0 ≤ (g62 57 ((S 1092 0) - 1)) ∧ (g62 57 ((S 1092 0) - 1)) < (S 1046 0) ∧ (S 29 (g62 57 ((S 1092 0) - 1))) = (S 53 ((S 1092 0) - 1)) ∧ 0 ≤ (S 53 ((S 1092 0) - 1)) ∧ (S 53 ((S 1092 0) - 1)) < (S 1032 0) ∧ (S 60 ((S 1092 0) - 1)) = sm_dp (S 1100024) (S 1100023 (g62 57 ((S 1092 0) - 1))) ∧ sm_TC (S 61) (S 62) (S 27) (S 1100007) (S 1100023) (S 1100024) (40 * ((S 1092 0) - 1)) (S 1100023 (g62 57 ((S 1092 0) - 1))) ∧ sm_LK (S 1100029) (S 1076 0) (S 54 ((S 1092 0) - 1)) (S 53 ((S 1092 0) - 1)) ∧ sm_VO (S 44) (S 1076 0) (g10 1007 0) ((S 55 ((S 1092 0) - 1))) ((S 56 ((S 1092 0) - 1))) ∧ sm_FW (S 44) (S 1076 0) (S 59 ((S 1092 0) - 1)) ∧ sm_FL (S 53) (S 54) (S 55) (S 56) (g62 57) (g62 58) (S 59) (S 60) (S 61) (S 62) (g62 63) (g62 64) (S 27) (S 29) (S 1100007) (S 1100023) (S 1100024) (S 1100025) (S 26) (S 1100029) (S 44) (S 1046 0) (S 1032 0) (S 1076 0) (g10 1007 0) (((S 1092 0) - 1)) ∧ (g62 58 ((S 1092 0) - 1)) = (S 1100007 (g62 57 ((S 1092 0) - 1))) ∧ sm_SK (g62 63) (g62 64) (S 44) (S 1100007) (S 1100025) (S 1076 0) (g10 1007 0) (400 * ((S 1092 0) - 1)) ((g62 58 ((S 1092 0) - 1))) ((S 1100025 (g62 57 ((S 1092 0) - 1))))) ∧ (¬ (g10 1075 0) = 0 → sm_LX (g62 58) (g62 63) (g62 64) (S 1092 0) (S 1076 0))) → (sm_PL (S 1100020) (S 51) (S 52) (S 46) (S 47) (S 1076 0) (S 1086 0) ∧ sm_FR (S 1100020) (S 52) (S 1100021) (S 1100022) (3000 - (S 1084 0)) (S 1085 0) ∧ sm_PV (S 1100020) (S 48) (S 49) (S 50) (S 44) (S 1076 0) (g10 1007 0) ∧ sm_AL (S 1100020) (S 48) (S 49) (S 50) (S 44) (S 1076 0) (S 1100032 0) ∧ sm_SV (S 1100020) (S 48) (S 1100029) (S 32) (S 33) (S 1076 0) (S 1032 0) ∧ 0 ≤ (S 1076 0) ∧ (S 1076 0) ≤ 300 ∧ 0 ≤ (S 1084 0) ∧ (S 1084 0) ≤ 3000 ∧ 0 ≤ (S 1086 0) ∧ sm_SC (S 1100029) (S 44) (S 45) (S 43) (S 21) (S 1076 0) (S 1032 0) ∧ sm_PO (S 42) (S 1076 0) ∧ ((g10 1075 0) = 0 → (S 1100032 0) = -1 ∧ sm_FO (S 44) (S 45) (S 1076 0)) ∧ 23 ≤ (S 1076 0) ∧ 31 ≤ (g10 1007 0) ∧ (g10 1007 0) ≤ 400 ∧ sm_LN (g10 4) 400 (g10 1007 0) ∧ (S 1008 0) ≤ (g10 1007 0) ∧ ((S 1075 0) = 1 → (g10 1075 0) = 1) ∧ 0 ≤ (S 1092 0) ∧ (S 1092 0) ≤ 24 ∧ (S 1007 0) ≤ (g10 1007 0) ∧ (¬ (g10 1075 0) = 0 → sm_LX (g62 58) (g62 63) (g62 64) (S 1092 0) (S 1076 0)) ∧ ((g10 1075 0) = 0 → (S 1073 0) = 1 → 1 ≤ (S 1092 0) ∧ (S 1092 0) ≤ 24 ∧ 0 ≤ (g62 57 ((S 1092 0) - 1)) ∧ (g62 57 ((S 1092 0) - 1)) < (S 1046 0) ∧ (S 29 (g62 57 ((S 1092 0) - 1))) = (S 53 ((S 1092 0) - 1)) ∧ 0 ≤ (S 53 ((S 1092 0) - 1)) ∧ (S 53 ((S 1092 0) - 1)) < (S 1032 0) ∧ (S 60 ((S 1092 0) - 1)) = sm_dp (S 1100024) (S 1100023 (g62 57 ((S 1092 0) - 1))) ∧ sm_TC (S 61) (S 62) (S 27) (S 1100007) (S 1100023) (S 1100024) (40 * ((S 1092 0) - 1)) (S 1100023 (g62 57 ((S 1092 0) - 1))) ∧ sm_LK (S 1100029) (S 1076 0) (S 54 ((S 1092 0) - 1)) (S 53 ((S 1092 0) - 1)) ∧ sm_VO (S 44) (S 1076 0) (g10 1007 0) ((S 55 ((S 1092 0) - 1))) ((S 56 ((S 1092 0) - 1))) ∧ sm_FW (S 44) (S 1076 0) (S 59 ((S 1092 0) - 1)) ∧ sm_FL (S 53) (S 54) (S 55) (S 56) (g62 57) (g62 58) (S 59) (S 60) (S 61) (S 62) (g62 63) (g62 64) (S 27) (S 29) (S 1100007) (S 1100023) (S 1100024) (S 1100025) (S 26) (S 1100029) (S 44) (S 1046 0) (S 1032 0) (S 1076 0) (g10 1007 0) (((S 1092 0) - 1)) ∧ (g62 58 ((S 1092 0) - 1)) = (S 1100007 (g62 57 ((S 1092 0) - 1))) ∧ sm_SK (g62 63) (g62 64) (S 44) (S 1100007) (S 1100025) (S 1076 0) (g10 1007 0) (400 * ((S 1092 0) - 1)) ((g62 58 ((S 1092 0) - 1))) ((S 1100025 (g62 57 ((S 1092 0) - 1))))) ∧ ((S 1073 0) = 1 ∨ (S 1092 0) = 0 ∧ (g10 1075 0) = 0 ∧ ((S 1073 0) = 2 ∨ (S 1073 0) = 3)))))))) ∧ ((¬ ((1 : Int) < x4)) → ((g10 1075 0) = 0 ∧ (S 1073 0) = 1 ∧ sm_LX (S 58) (S 63) (S 64) (S 1092 0) (S 1076 0) ∧ sm_PL (S 1100020) (S 51) (S 52) (S 46) (S 47) (S 1076 0) (S 1086 0) ∧ sm_FR (S 1100020) (S 52) (S 1100021) (S 1100022) (3000 - (S 1084 0)) (S 1085 0) ∧ sm_PV (S 1100020) (S 48) (S 49) (S 50) (S 44) (S 1076 0) (g10 1007 0) ∧ sm_AL (S 1100020) (S 48) (S 49) (S 50) (S 44) (S 1076 0) (S 1100032 0) ∧ sm_SV (S 1100020) (S 48) (S 1100029) (S 32) (S 33) (S 1076 0) (S 1032 0) ∧ 0 ≤ (S 1076 0) ∧ (S 1076 0) ≤ 300 ∧ 0 ≤ (S 1084 0) ∧ (S 1084 0) ≤ 3000 ∧ 0 ≤ (S 1086 0) ∧ sm_SC (S 1100029) (S 44) (S 45) (S 43) (S 21) (S 1076 0) (S 1032 0) ∧ sm_PO (S 42) (S 1076 0) ∧ (S 1100032 0) = -1 ∧ sm_FO (S 44) (S 45) (S 1076 0) ∧ 23 ≤ (S 1076 0) ∧ 31 ≤ (g10 1007 0) ∧ (g10 1007 0) ≤ 400 ∧ sm_LN (g10 4) 400 (g10 1007 0) ∧ sm_CT (S 26) (S 27) (S 28) (S 29) (S 1100007) (S 1100023) (S 1100024) (S 1100025) (S 21) (S 1046 0) (S 1032 0) (S 1008 0) (S 1055 0) ∧ sm_LS (S 26) (S 1100007) (S 1100025) (S 1046 0) ∧ sm_CL (S 1100007) (S 1100023) (S 1100025) (S 1046 0) ∧ 1 ≤ (S 1032 0) ∧ (S 1032 0) ≤ 11 ∧ 0 ≤ (S 1046 0) ∧ (S 1046 0) ≤ 600 ∧ 31 ≤ (S 1008 0) ∧ (S 1008 0) ≤ (g10 1007 0) ∧ 0 ≤ (S 1055 0) ∧ (S 1055 0) ≤ 19 ∧ 1 ≤ (S 1092 0) ∧ (S 1092 0) ≤ 24 ∧ 0 ≤ (S 57 ((S 1092 0) - 1)) ∧ (S 57 ((S 1092 0) - 1)) < (S 1046 0) ∧ (S 29 (S 57 ((S 1092 0) - 1))) = (S 53 ((S 1092 0) - 1)) ∧ 0 ≤ (S 53 ((S 1092 0) - 1)) ∧ (S 53 ((S 1092 0) - 1)) < (S 1032 0) ∧ (S 60 ((S 1092 0) - 1)) = sm_dp (S 1100024) (S 1100023 (S 57 ((S 1092 0) - 1))) ∧ sm_TC (S 61) (S 62) (S 27) (S 1100007) (S 1100023) (S 1100024) (40 * ((S 1092 0) - 1)) (S 1100023 (S 57 ((S 1092 0) - 1))) ∧ sm_LK (S 1100029) (S 1076 0) (S 54 ((S 1092 0) - 1)) (S 53 ((S 1092 0) - 1)) ∧ sm_VO (S 44) (S 1076 0) (g10 1007 0) ((S 55 ((S 1092 0) - 1))) ((S 56 ((S 1092 0) - 1))) ∧ sm_FW (S 44) (S 1076 0) (S 59 ((S 1092 0) - 1)) ∧ sm_FL (S 53) (S 54) (S 55) (S 56) (S 57) (S 58) (S 59) (S 60) (S 61) (S 62) (S 63) (S 64) (S 27) (S 29) (S 1100007) (S 1100023) (S 1100024) (S 1100025) (S 26) (S 1100029) (S 44) (S 1046 0) (S 1032 0) (S 1076 0) (g10 1007 0) (((S 1092 0) - 1)) ∧ (S 58 ((S 1092 0) - 1)) = (S 1100007 (S 57 ((S 1092 0) - 1))) ∧ sm_SK (S 63) (S 64) (S 44) (S 1100007) (S 1100025) (S 1076 0) (g10 1007 0) (400 * ((S 1092 0) - 1)) ((S 58 ((S 1092 0) - 1))) ((S 1100025 (S 57 ((S 1092 0) - 1)))) ∧ (0 ≤ (S 1100023 (S 57 ((S 1092 0) - 1))) → (S 1100007 (S 1100023 (S 57 ((S 1092 0) - 1)))) ≤ (S 58 ((S 1092 0) - 1))) ∧ 6 ≤ (6 : Int) ∧ (6 : Int) ≤ 8) ∧ (∀ g68 : sv_S, (sm_PL (S 1100020) (S 51) (S 52) (g68 46) (g68 47) (g68 1076 0) (S 1086 0) ∧ sm_FR (S 1100020) (S 52) (S 1100021) (S 1100022) (3000 - (S 1084 0)) (S 1085 0) ∧ sm_PV (S 1100020) (S 48) (S 49) (S 50) (g68 44) (g68 1076 0) (g10 1007 0) ∧ sm_AL (S 1100020) (S 48) (S 49) (S 50) (g68 44) (g68 1076 0) (S 1100032 0) ∧ sm_SV (S 1100020) (S 48) (g68 1100029) (S 32) (S 33) (g68 1076 0) (S 1032 0) ∧ 0 ≤ (g68 1076 0) ∧ (g68 1076 0) ≤ 300 ∧ 0 ≤ (S 1084 0) ∧ (S 1084 0) ≤ 3000 ∧ 0 ≤ (S 1086 0) ∧ sm_SC (g68 1100029) (g68 44) (g68 45) (g68 43) (S 21) (g68 1076 0) (S 1032 0) ∧ sm_PO (g68 42) (g68 1076 0) ∧ ((g68 1075 0) = 0 → (S 1100032 0) = -1 ∧ sm_FO (g68 44) (g68 45) (g68 1076 0)) ∧ 23 ≤ (g68 1076 0) ∧ 31 ≤ (g10 1007 0) ∧ (g10 1007 0) ≤ 400 ∧ sm_LN (g10 4) 400 (g10 1007 0) ∧ (S 1008 0) ≤ (g10 1007 0) ∧ ((g10 1075 0) = 1 → (g68 1075 0) = 1) ∧ 0 ≤ (g68 1092 0) ∧ (g68 1092 0) ≤ 24 ∧ (g10 1007 0) ≤ (g10 1007 0) ∧ (¬ (g68 1075 0) = 0 → sm_LX (g68 58) (g68 63) (g68 64) (g68 1092 0) (g68 1076 0)) ∧ ((g68 1075 0) = 0 → (g68 1073 0) = 1 → 1 ≤ (g68 1092 0) ∧ (g68 1092 0) ≤ 24 ∧ 0 ≤ (g68 57 ((g68 1092 0) - 1)) ∧ (g68 57 ((g68 1092 0) - 1)) < (S 1046 0) ∧ (S 29 (g68 57 ((g68 1092 0) - 1))) = (S 53 ((g68 1092 0) - 1)) ∧ 0 ≤ (S 53 ((g68 1092 0) - 1)) ∧ (S 53 ((g68 1092 0) - 1)) < (S 1032 0) ∧ (g68 60 ((g68 1092 0) - 1)) = sm_dp (S 1100024) (S 1100023 (g68 57 ((g68 1092 0) - 1))) ∧ sm_TC (S 61) (S 62) (S 27) (S 1100007) (S 1100023) (S 1100024) (40 * ((g68 1092 0) - 1)) (S 1100023 (g68 57 ((g68 1092 0) - 1))) ∧ sm_LK (g68 1100029) (g68 1076 0) (S 54 ((g68 1092 0) - 1)) (S 53 ((g68 1092 0) - 1)) ∧ sm_VO (g68 44) (g68 1076 0) (g10 1007 0) ((S 55 ((g68 1092 0) - 1))) ((S 56 ((g68 1092 0) - 1))) ∧ sm_FW (g68 44) (g68 1076 0) (S 59 ((g68 1092 0) - 1)) ∧ sm_FL (S 53) (S 54) (S 55) (S 56) (g68 57) (g68 58) (S 59) (g68 60) (S 61) (S 62) (g68 63) (g68 64) (S 27) (S 29) (S 1100007) (S 1100023) (S 1100024) (S 1100025) (S 26) (g68 1100029) (g68 44) (S 1046 0) (S 1032 0) (g68 1076 0) (g10 1007 0) (((g68 1092 0) - 1)) ∧ (g68 58 ((g68 1092 0) - 1)) = (S 1100007 (g68 57 ((g68 1092 0) - 1))) ∧ sm_SK (g68 63) (g68 64) (g68 44) (S 1100007) (S 1100025) (g68 1076 0) (g10 1007 0) (400 * ((g68 1092 0) - 1)) ((g68 58 ((g68 1092 0) - 1))) ((S 1100025 (g68 57 ((g68 1092 0) - 1))))) ∧ ((g68 1073 0) = 1 ∨ (g68 1092 0) = 0 ∧ (g68 1075 0) = 0 ∧ ((g68 1073 0) = 2 ∨ (g68 1073 0) = 3)) ∧ ((g68 1073 0) = 1 ∨ (g68 1073 0) = 3)) → (sm_PL (S 1100020) (S 51) (S 52) (g68 46) (g68 47) (g68 1076 0) (S 1086 0) ∧ sm_FR (S 1100020) (S 52) (S 1100021) (S 1100022) (3000 - (S 1084 0)) (S 1085 0) ∧ sm_PV (S 1100020) (S 48) (S 49) (S 50) (g68 44) (g68 1076 0) (g10 1007 0) ∧ sm_AL (S 1100020) (S 48) (S 49) (S 50) (g68 44) (g68 1076 0) (S 1100032 0) ∧ sm_SV (S 1100020) (S 48) (g68 1100029) (S 32) (S 33) (g68 1076 0) (S 1032 0) ∧ 0 ≤ (g68 1076 0) ∧ (g68 1076 0) ≤ 300 ∧ 0 ≤ (S 1084 0) ∧ (S 1084 0) ≤ 3000 ∧ 0 ≤ (S 1086 0) ∧ sm_SC (g68 1100029) (g68 44) (g68 45) (g68 43) (S 21) (g68 1076 0) (S 1032 0) ∧ sm_PO (g68 42) (g68 1076 0) ∧ ((g68 1075 0) = 0 → (S 1100032 0) = -1 ∧ sm_FO (g68 44) (g68 45) (g68 1076 0)) ∧ 23 ≤ (g68 1076 0) ∧ 31 ≤ (g10 1007 0) ∧ (g10 1007 0) ≤ 400 ∧ sm_LN (g10 4) 400 (g10 1007 0) ∧ (S 1008 0) ≤ (g10 1007 0) ∧ ((S 1075 0) = 1 → (g68 1075 0) = 1) ∧ 0 ≤ (g68 1092 0) ∧ (g68 1092 0) ≤ 24 ∧ (S 1007 0) ≤ (g10 1007 0) ∧ (¬ (g68 1075 0) = 0 → sm_LX (g68 58) (g68 63) (g68 64) (g68 1092 0) (g68 1076 0)) ∧ ((g68 1075 0) = 0 → (g68 1073 0) = 1 → 1 ≤ (g68 1092 0) ∧ (g68 1092 0) ≤ 24 ∧ 0 ≤ (g68 57 ((g68 1092 0) - 1)) ∧ (g68 57 ((g68 1092 0) - 1)) < (S 1046 0) ∧ (S 29 (g68 57 ((g68 1092 0) - 1))) = (S 53 ((g68 1092 0) - 1)) ∧ 0 ≤ (S 53 ((g68 1092 0) - 1)) ∧ (S 53 ((g68 1092 0) - 1)) < (S 1032 0) ∧ (g68 60 ((g68 1092 0) - 1)) = sm_dp (S 1100024) (S 1100023 (g68 57 ((g68 1092 0) - 1))) ∧ sm_TC (S 61) (S 62) (S 27) (S 1100007) (S 1100023) (S 1100024) (40 * ((g68 1092 0) - 1)) (S 1100023 (g68 57 ((g68 1092 0) - 1))) ∧ sm_LK (g68 1100029) (g68 1076 0) (S 54 ((g68 1092 0) - 1)) (S 53 ((g68 1092 0) - 1)) ∧ sm_VO (g68 44) (g68 1076 0) (g10 1007 0) ((S 55 ((g68 1092 0) - 1))) ((S 56 ((g68 1092 0) - 1))) ∧ sm_FW (g68 44) (g68 1076 0) (S 59 ((g68 1092 0) - 1)) ∧ sm_FL (S 53) (S 54) (S 55) (S 56) (g68 57) (g68 58) (S 59) (g68 60) (S 61) (S 62) (g68 63) (g68 64) (S 27) (S 29) (S 1100007) (S 1100023) (S 1100024) (S 1100025) (S 26) (g68 1100029) (g68 44) (S 1046 0) (S 1032 0) (g68 1076 0) (g10 1007 0) (((g68 1092 0) - 1)) ∧ (g68 58 ((g68 1092 0) - 1)) = (S 1100007 (g68 57 ((g68 1092 0) - 1))) ∧ sm_SK (g68 63) (g68 64) (g68 44) (S 1100007) (S 1100025) (g68 1076 0) (g10 1007 0) (400 * ((g68 1092 0) - 1)) ((g68 58 ((g68 1092 0) - 1))) ((S 1100025 (g68 57 ((g68 1092 0) - 1))))) ∧ ((g68 1073 0) = 1 ∨ (g68 1092 0) = 0 ∧ (g68 1075 0) = 0 ∧ ((g68 1073 0) = 2 ∨ (g68 1073 0) = 3))))))) ∧ ((¬ ((g10 1075 0) = (0 : Int))) → (sm_PL (S 1100020) (S 51) (S 52) (S 46) (S 47) (S 1076 0) (S 1086 0) ∧ sm_FR (S 1100020) (S 52) (S 1100021) (S 1100022) (3000 - (S 1084 0)) (S 1085 0) ∧ sm_PV (S 1100020) (S 48) (S 49) (S 50) (S 44) (S 1076 0) (g10 1007 0) ∧ sm_AL (S 1100020) (S 48) (S 49) (S 50) (S 44) (S 1076 0) (S 1100032 0) ∧ sm_SV (S 1100020) (S 48) (S 1100029) (S 32) (S 33) (S 1076 0) (S 1032 0) ∧ 0 ≤ (S 1076 0) ∧ (S 1076 0) ≤ 300 ∧ 0 ≤ (S 1084 0) ∧ (S 1084 0) ≤ 3000 ∧ 0 ≤ (S 1086 0) ∧ sm_SC (S 1100029) (S 44) (S 45) (S 43) (S 21) (S 1076 0) (S 1032 0) ∧ sm_PO (S 42) (S 1076 0) ∧ ((g10 1075 0) = 0 → (S 1100032 0) = -1 ∧ sm_FO (S 44) (S 45) (S 1076 0)) ∧ 23 ≤ (S 1076 0) ∧ 31 ≤ (g10 1007 0) ∧ (g10 1007 0) ≤ 400 ∧ sm_LN (g10 4) 400 (g10 1007 0) ∧ (S 1008 0) ≤ (g10 1007 0) ∧ ((S 1075 0) = 1 → (g10 1075 0) = 1) ∧ 0 ≤ (S 1092 0) ∧ (S 1092 0) ≤ 24 ∧ (S 1007 0) ≤ (g10 1007 0) ∧ (¬ (g10 1075 0) = 0 → sm_LX (S 58) (S 63) (S 64) (S 1092 0) (S 1076 0)) ∧ ((g10 1075 0) = 0 → (S 1073 0) = 1 → 1 ≤ (S 1092 0) ∧ (S 1092 0) ≤ 24 ∧ 0 ≤ (S 57 ((S 1092 0) - 1)) ∧ (S 57 ((S 1092 0) - 1)) < (S 1046 0) ∧ (S 29 (S 57 ((S 1092 0) - 1))) = (S 53 ((S 1092 0) - 1)) ∧ 0 ≤ (S 53 ((S 1092 0) - 1)) ∧ (S 53 ((S 1092 0) - 1)) < (S 1032 0) ∧ (S 60 ((S 1092 0) - 1)) = sm_dp (S 1100024) (S 1100023 (S 57 ((S 1092 0) - 1))) ∧ sm_TC (S 61) (S 62) (S 27) (S 1100007) (S 1100023) (S 1100024) (40 * ((S 1092 0) - 1)) (S 1100023 (S 57 ((S 1092 0) - 1))) ∧ sm_LK (S 1100029) (S 1076 0) (S 54 ((S 1092 0) - 1)) (S 53 ((S 1092 0) - 1)) ∧ sm_VO (S 44) (S 1076 0) (g10 1007 0) ((S 55 ((S 1092 0) - 1))) ((S 56 ((S 1092 0) - 1))) ∧ sm_FW (S 44) (S 1076 0) (S 59 ((S 1092 0) - 1)) ∧ sm_FL (S 53) (S 54) (S 55) (S 56) (S 57) (S 58) (S 59) (S 60) (S 61) (S 62) (S 63) (S 64) (S 27) (S 29) (S 1100007) (S 1100023) (S 1100024) (S 1100025) (S 26) (S 1100029) (S 44) (S 1046 0) (S 1032 0) (S 1076 0) (g10 1007 0) (((S 1092 0) - 1)) ∧ (S 58 ((S 1092 0) - 1)) = (S 1100007 (S 57 ((S 1092 0) - 1))) ∧ sm_SK (S 63) (S 64) (S 44) (S 1100007) (S 1100025) (S 1076 0) (g10 1007 0) (400 * ((S 1092 0) - 1)) ((S 58 ((S 1092 0) - 1))) ((S 1100025 (S 57 ((S 1092 0) - 1))))) ∧ ((S 1073 0) = 1 ∨ (S 1092 0) = 0 ∧ (g10 1075 0) = 0 ∧ ((S 1073 0) = 2 ∨ (S 1073 0) = 3))))))))))) := by
  intro S
  intro h1_
  rintro ⟨h2_, ⟨h3_, ⟨h4_, ⟨h5_, ⟨h6_, ⟨h7_, ⟨h8_, ⟨h9_, ⟨h10_, ⟨h11_, ⟨h12_, ⟨h13_, ⟨h14_, ⟨h15_, ⟨h16_, ⟨h17_, ⟨h18_, ⟨h19_, ⟨h20_, ⟨h21_, ⟨h22_, ⟨h23_, ⟨h24_, ⟨h25_, ⟨h26_, ⟨h27_, ⟨h28_, ⟨h29_, ⟨h30_, ⟨h31_, ⟨h32_, ⟨h33_, ⟨h34_, ⟨h35_, ⟨h36_, ⟨h37_, ⟨h38_, ⟨h39_, ⟨h40_, ⟨h41_, ⟨h42_, ⟨h43_, ⟨h44_, ⟨h45_, ⟨h46_, ⟨h47_, ⟨h48_, ⟨h49_, ⟨h50_, ⟨h51_, ⟨h52_, ⟨h53_, ⟨h54_, ⟨h55_, ⟨h56_, ⟨h57_, ⟨h58_, ⟨h59_, ⟨h60_, ⟨h61_, ⟨h62_, ⟨h63_, h64_⟩⟩⟩⟩⟩⟩⟩⟩⟩⟩⟩⟩⟩⟩⟩⟩⟩⟩⟩⟩⟩⟩⟩⟩⟩⟩⟩⟩⟩⟩⟩⟩⟩⟩⟩⟩⟩⟩⟩⟩⟩⟩⟩⟩⟩⟩⟩⟩⟩⟩⟩⟩⟩⟩⟩⟩⟩⟩⟩⟩⟩⟩
  intro h65_
  have h66_ := (h65_ h50_)
  have h67_ := (h66_ h24_)
  have h68_ := (h67_ (la_get__0 h58_))
  have h69_ := (h68_ la_get__1)
  have h70_ := (h69_ h52_)
  have h71_ := (h70_ h53_)
  have h72_ := (h71_ h59_)
  intro h73_
  have h74_ := (h73_ h50_)
  have h75_ := (h74_ h24_)
  have h76_ := (h75_ (la_get__2 h58_))
  have h77_ := (h76_ la_get__3)
  have h78_ := (h77_ h52_)
  have h79_ := (h78_ h53_)
  have h80_ := (h79_ h59_)
  refine ⟨(la_get__4 h34_ h35_ h57_ h58_), ?_⟩
  intro x4
  intro h81_
  intro x6
  intro h82_
  refine ⟨(la_get__5 h34_ h35_ h57_ h58_), ?_⟩
  refine ⟨?_, ?_⟩
  · skip
    refine ⟨h20_, ?_⟩
    refine ⟨h21_, ?_⟩
    refine ⟨h22_, ?_⟩
    intro h83_
    refine ⟨?_, ?_⟩
    · skip
      have e84_ : S 63 (400 * (S 1092 0 - 1) + S 58 (S 1092 0 - 1) - 1 - 0) = S 63 (400 * (S 1092 0 - 1) + (S 58 (S 1092 0 - 1) - 1)) := congrArg ((S 63)) la_get__6
      have e85_ : S 63 (400 * (S 1092 0 - 1) + S 58 (S 1092 0 - 1) - 1 - 1) = S 63 (400 * (S 1092 0 - 1) + (S 58 (S 1092 0 - 1) - 2)) := congrArg ((S 63)) la_get__7
      have e86_ : S 64 (400 * (S 1092 0 - 1) + S 58 (S 1092 0 - 1) - 1 - 0) = S 64 (400 * (S 1092 0 - 1) + (S 58 (S 1092 0 - 1) - 1)) := congrArg ((S 64)) la_get__6
      have e87_ : S 64 (400 * (S 1092 0 - 1) + S 58 (S 1092 0 - 1) - 1 - 1) = S 64 (400 * (S 1092 0 - 1) + (S 58 (S 1092 0 - 1) - 2)) := congrArg ((S 64)) la_get__7
      obtain ⟨h88_, h89_⟩ := ((sm_VO_e h72_).2.2.1 (la_get__8 h83_ e84_))
      exact (la_get__10 e86_ h88_)
    have e90_ : S 63 (400 * (S 1092 0 - 1) + S 58 (S 1092 0 - 1) - 1 - 0) = S 63 (400 * (S 1092 0 - 1) + (S 58 (S 1092 0 - 1) - 1)) := congrArg ((S 63)) la_get__6
    have e91_ : S 63 (400 * (S 1092 0 - 1) + S 58 (S 1092 0 - 1) - 1 - 1) = S 63 (400 * (S 1092 0 - 1) + (S 58 (S 1092 0 - 1) - 2)) := congrArg ((S 63)) la_get__7
    have e92_ : S 64 (400 * (S 1092 0 - 1) + S 58 (S 1092 0 - 1) - 1 - 0) = S 64 (400 * (S 1092 0 - 1) + (S 58 (S 1092 0 - 1) - 1)) := congrArg ((S 64)) la_get__6
    have e93_ : S 64 (400 * (S 1092 0 - 1) + S 58 (S 1092 0 - 1) - 1 - 1) = S 64 (400 * (S 1092 0 - 1) + (S 58 (S 1092 0 - 1) - 2)) := congrArg ((S 64)) la_get__7
    obtain ⟨h94_, h95_⟩ := ((sm_VO_e h72_).2.2.1 (la_get__8 h83_ e90_))
    exact (la_get__11 e92_ h95_)
  intro r14
  intro h96_
  intro g10
  rintro ⟨h97_, ⟨h98_, ⟨h99_, ⟨h100_, ⟨h101_, ⟨h102_, h103_⟩⟩⟩⟩⟩⟩
  rintro ⟨h104_, h105_⟩
  refine ⟨?_, ?_⟩
  · skip
    intro h106_
    refine ⟨?_, ?_⟩
    · skip
      intro h107_
      refine ⟨?_, ?_⟩
      · skip
        intro h108_
        refine ⟨?_, ?_⟩
        · skip
          intro h109_
          refine ⟨?_, ?_⟩
          · skip
            intro h110_
            refine ⟨⟨h5_, ⟨h6_, ⟨(sm_PV_m h7_ (Int.le_refl _) h100_ sm_F1_rf), ⟨h8_, ⟨h9_, ⟨h10_, ⟨h11_, ⟨h12_, ⟨h13_, ⟨h14_, ⟨h15_, ⟨h16_, (la_get__16 h19_)⟩⟩⟩⟩⟩⟩⟩⟩⟩⟩⟩⟩, ?_⟩
            intro r22
            intro h111_
            intro g18
            rintro ⟨h112_, h113_⟩
            refine ⟨?_, ?_⟩
            · skip
              refine ⟨?_, ?_⟩
              · skip
                intro h114_
                intro h115_
                refine ⟨h5_, ?_⟩
                refine ⟨h6_, ?_⟩
                refine ⟨(sm_PV_m h7_ (Int.le_refl _) h100_ sm_F1_rf), ?_⟩
                refine ⟨h8_, ?_⟩
                refine ⟨h9_, ?_⟩
                refine ⟨h10_, ?_⟩
                refine ⟨h11_, ?_⟩
                refine ⟨h12_, ?_⟩
                refine ⟨h13_, ?_⟩
                refine ⟨h14_, ?_⟩
                refine ⟨h15_, ?_⟩
                refine ⟨h16_, ?_⟩
                refine ⟨h17_, ?_⟩
                refine ⟨h18_, ?_⟩
                refine ⟨h19_, ?_⟩
                refine ⟨(la_get__17 h20_ h100_), ?_⟩
                refine ⟨h101_, ?_⟩
                refine ⟨h102_, ?_⟩
                refine ⟨h23_, ?_⟩
                refine ⟨h24_, ?_⟩
                refine ⟨h25_, ?_⟩
                refine ⟨h26_, ?_⟩
                refine ⟨h27_, ?_⟩
                refine ⟨h28_, ?_⟩
                refine ⟨h29_, ?_⟩
                refine ⟨h30_, ?_⟩
                refine ⟨(la_get__18 h31_ h100_), ?_⟩
                refine ⟨h32_, ?_⟩
                refine ⟨h33_, ?_⟩
                refine ⟨h34_, ?_⟩
                refine ⟨h35_, ?_⟩
                refine ⟨h36_, ?_⟩
                refine ⟨h37_, ?_⟩
                refine ⟨h38_, ?_⟩
                refine ⟨h39_, ?_⟩
                refine ⟨h40_, ?_⟩
                refine ⟨h41_, ?_⟩
                refine ⟨h42_, ?_⟩
                refine ⟨h43_, ?_⟩
                refine ⟨(sm_VO_m h44_ (Int.le_refl _) h100_ sm_F1_rf), ?_⟩
                refine ⟨h45_, ?_⟩
                refine ⟨(sm_FL_F h46_ sm_F1_rf sm_F1_rf sm_F1_rf sm_F1_rf sm_F1_rf sm_F1_rf sm_F1_rf sm_F1_rf sm_F1_rf sm_F1_rf sm_F1_rf sm_F1_rf (Int.le_refl _) h100_ sm_F1_rf sm_F1_rf (sm_FL_dp h46_ h23_)), ?_⟩
                refine ⟨h47_, ?_⟩
                refine ⟨h48_, ?_⟩
                refine ⟨h49_, ?_⟩
                refine ⟨(sm_SK_m h50_ (Int.le_refl _) h100_ sm_F1_rf), ?_⟩
                refine ⟨h51_, ?_⟩
                refine ⟨h52_, ?_⟩
                refine ⟨h53_, ?_⟩
                refine ⟨la_get__20, ?_⟩
                refine ⟨h58_, ?_⟩
                refine ⟨(la_get__21 h57_), ?_⟩
                refine ⟨h113_, ?_⟩
                refine ⟨h59_, ?_⟩
                refine ⟨h60_, ?_⟩
                refine ⟨h61_, ?_⟩
                refine ⟨(la_get__22 h62_), ?_⟩
                refine ⟨h63_, ?_⟩
                exact h64_
              intro h116_
              have h117_ := (h99_ (la_get__25 h106_ (la_get__24 (la_get__23 h106_) h116_)))
              have h118_ := (h117_ (la_get__26 h106_ (la_get__24 (la_get__23 h106_) h116_)))
              have h119_ := (h118_ (la_get__27 h106_ (la_get__24 (la_get__23 h106_) h116_)))
              have h120_ := (h119_ h106_)
              exact h4_
            intro g25
            rintro ⟨h121_, h122_⟩
            have h123_ := (h121_ h106_)
            obtain ⟨h124_, ⟨h125_, ⟨h126_, ⟨h127_, ⟨h128_, ⟨h129_, ⟨h130_, ⟨h131_, ⟨h132_, ⟨h133_, ⟨h134_, ⟨h135_, ⟨h136_, ⟨h137_, h138_⟩⟩⟩⟩⟩⟩⟩⟩⟩⟩⟩⟩⟩⟩ := (h123_ h3_)
            refine ⟨h5_, ?_⟩
            refine ⟨h6_, ?_⟩
            refine ⟨(sm_PV_m h7_ (Int.le_refl _) h100_ sm_F1_rf), ?_⟩
            refine ⟨h8_, ?_⟩
            refine ⟨h9_, ?_⟩
            refine ⟨h10_, ?_⟩
            refine ⟨h11_, ?_⟩
            refine ⟨h12_, ?_⟩
            refine ⟨h13_, ?_⟩
            refine ⟨h14_, ?_⟩
            refine ⟨h15_, ?_⟩
            refine ⟨h16_, ?_⟩
            refine ⟨?_, ?_⟩
            · skip
              intro h139_
              refine ⟨h17_, ?_⟩
              exact h18_
            refine ⟨h19_, ?_⟩
            refine ⟨(la_get__17 h20_ h100_), ?_⟩
            refine ⟨h101_, ?_⟩
            refine ⟨h102_, ?_⟩
            refine ⟨(la_get__18 h31_ h100_), ?_⟩
            refine ⟨h103_, ?_⟩
            refine ⟨(la_get__29 h34_), ?_⟩
            refine ⟨h35_, ?_⟩
            refine ⟨h100_, ?_⟩
            refine ⟨h122_, ?_⟩
            refine ⟨h121_, ?_⟩
            exact (la_get__30 h3_ h34_ h104_ h106_)
          intro h140_
          refine ⟨?_, ?_⟩
          · skip
            refine ⟨?_, ?_⟩
            · skip
              have e141_ : S 63 (400 * (S 1092 0 - 1) + S 58 (S 1092 0 - 1) - 1 - 0) = S 63 (400 * (S 1092 0 - 1) + (S 58 (S 1092 0 - 1) - 1)) := congrArg ((S 63)) la_get__6
              have e142_ : S 63 (400 * (S 1092 0 - 1) + S 58 (S 1092 0 - 1) - 1 - 1) = S 63 (400 * (S 1092 0 - 1) + (S 58 (S 1092 0 - 1) - 2)) := congrArg ((S 63)) la_get__7
              have e143_ : S 64 (400 * (S 1092 0 - 1) + S 58 (S 1092 0 - 1) - 1 - 0) = S 64 (400 * (S 1092 0 - 1) + (S 58 (S 1092 0 - 1) - 1)) := congrArg ((S 64)) la_get__6
              have e144_ : S 64 (400 * (S 1092 0 - 1) + S 58 (S 1092 0 - 1) - 1 - 1) = S 64 (400 * (S 1092 0 - 1) + (S 58 (S 1092 0 - 1) - 2)) := congrArg ((S 64)) la_get__7
              obtain ⟨h145_, h146_⟩ := ((sm_VO_e h80_).2.2.1 (la_get__32 h81_ h109_ (la_get__14 (la_get__13 h109_) h108_) e142_))
              exact (la_get__34 h82_ e144_ h145_)
            have e147_ : S 63 (400 * (S 1092 0 - 1) + S 58 (S 1092 0 - 1) - 1 - 0) = S 63 (400 * (S 1092 0 - 1) + (S 58 (S 1092 0 - 1) - 1)) := congrArg ((S 63)) la_get__6
            have e148_ : S 63 (400 * (S 1092 0 - 1) + S 58 (S 1092 0 - 1) - 1 - 1) = S 63 (400 * (S 1092 0 - 1) + (S 58 (S 1092 0 - 1) - 2)) := congrArg ((S 63)) la_get__7
            have e149_ : S 64 (400 * (S 1092 0 - 1) + S 58 (S 1092 0 - 1) - 1 - 0) = S 64 (400 * (S 1092 0 - 1) + (S 58 (S 1092 0 - 1) - 1)) := congrArg ((S 64)) la_get__6
            have e150_ : S 64 (400 * (S 1092 0 - 1) + S 58 (S 1092 0 - 1) - 1 - 1) = S 64 (400 * (S 1092 0 - 1) + (S 58 (S 1092 0 - 1) - 2)) := congrArg ((S 64)) la_get__7
            obtain ⟨h151_, h152_⟩ := ((sm_VO_e h80_).2.2.1 (la_get__32 h81_ h109_ (la_get__14 (la_get__13 h109_) h108_) e148_))
            exact (la_get__35 h21_ h82_ e150_ h152_)
          intro h153_
          intro g32
          rintro ⟨h154_, h155_⟩
          refine ⟨?_, ?_⟩
          · skip
            refine ⟨?_, ?_⟩
            · skip
              intro h156_
              intro h157_
              refine ⟨h5_, ?_⟩
              refine ⟨h6_, ?_⟩
              refine ⟨(sm_PV_m h7_ (Int.le_refl _) h100_ sm_F1_rf), ?_⟩
              refine ⟨h8_, ?_⟩
              refine ⟨h9_, ?_⟩
              refine ⟨h10_, ?_⟩
              refine ⟨h11_, ?_⟩
              refine ⟨h12_, ?_⟩
              refine ⟨h13_, ?_⟩
              refine ⟨h14_, ?_⟩
              refine ⟨h15_, ?_⟩
              refine ⟨h16_, ?_⟩
              refine ⟨h17_, ?_⟩
              refine ⟨h18_, ?_⟩
              refine ⟨h19_, ?_⟩
              refine ⟨(la_get__17 h20_ h100_), ?_⟩
              refine ⟨h101_, ?_⟩
              refine ⟨h102_, ?_⟩
              refine ⟨h23_, ?_⟩
              refine ⟨h24_, ?_⟩
              refine ⟨h25_, ?_⟩
              refine ⟨h26_, ?_⟩
              refine ⟨h27_, ?_⟩
              refine ⟨h28_, ?_⟩
              refine ⟨h29_, ?_⟩
              refine ⟨h30_, ?_⟩
              refine ⟨(la_get__18 h31_ h100_), ?_⟩
              refine ⟨h32_, ?_⟩
              refine ⟨h33_, ?_⟩
              refine ⟨h34_, ?_⟩
              refine ⟨h35_, ?_⟩
              refine ⟨h36_, ?_⟩
              refine ⟨h37_, ?_⟩
              refine ⟨h38_, ?_⟩
              refine ⟨h39_, ?_⟩
              refine ⟨h40_, ?_⟩
              refine ⟨h41_, ?_⟩
              refine ⟨h42_, ?_⟩
              refine ⟨h43_, ?_⟩
              refine ⟨(sm_VO_m h44_ (Int.le_refl _) h100_ sm_F1_rf), ?_⟩
              refine ⟨h45_, ?_⟩
              refine ⟨(sm_FL_F h46_ sm_F1_rf sm_F1_rf sm_F1_rf sm_F1_rf sm_F1_rf sm_F1_rf sm_F1_rf sm_F1_rf sm_F1_rf sm_F1_rf sm_F1_rf sm_F1_rf (Int.le_refl _) h100_ sm_F1_rf sm_F1_rf (sm_FL_dp h46_ h23_)), ?_⟩
              refine ⟨h47_, ?_⟩
              refine ⟨h48_, ?_⟩
              refine ⟨h49_, ?_⟩
              refine ⟨(sm_SK_m h50_ (Int.le_refl _) h100_ sm_F1_rf), ?_⟩
              refine ⟨h51_, ?_⟩
              refine ⟨h52_, ?_⟩
              refine ⟨h53_, ?_⟩
              refine ⟨la_get__20, ?_⟩
              refine ⟨h58_, ?_⟩
              refine ⟨(la_get__21 h57_), ?_⟩
              refine ⟨(sm_VO_i (la_get__36 h154_) (la_get__37 h154_) (la_get__38 h154_) (la_get__39 h154_)), ?_⟩
              refine ⟨h59_, ?_⟩
              refine ⟨h60_, ?_⟩
              refine ⟨h61_, ?_⟩
              refine ⟨(la_get__22 h62_), ?_⟩
              refine ⟨h63_, ?_⟩
              exact h64_
            intro h158_
            have h159_ := (h99_ (la_get__25 h106_ (la_get__24 (la_get__23 h106_) h158_)))
            have h160_ := (h159_ (la_get__26 h106_ (la_get__24 (la_get__23 h106_) h158_)))
            have h161_ := (h160_ (la_get__27 h106_ (la_get__24 (la_get__23 h106_) h158_)))
            have h162_ := (h161_ h106_)
            exact h4_
          intro g38
          rintro ⟨h163_, h164_⟩
          have h165_ := (h163_ h106_)
          obtain ⟨h166_, ⟨h167_, ⟨h168_, ⟨h169_, ⟨h170_, ⟨h171_, ⟨h172_, ⟨h173_, ⟨h174_, ⟨h175_, ⟨h176_, ⟨h177_, ⟨h178_, ⟨h179_, h180_⟩⟩⟩⟩⟩⟩⟩⟩⟩⟩⟩⟩⟩⟩ := (h165_ h3_)
          refine ⟨h5_, ?_⟩
          refine ⟨h6_, ?_⟩
          refine ⟨(sm_PV_m h7_ (Int.le_refl _) h100_ sm_F1_rf), ?_⟩
          refine ⟨h8_, ?_⟩
          refine ⟨h9_, ?_⟩
          refine ⟨h10_, ?_⟩
          refine ⟨h11_, ?_⟩
          refine ⟨h12_, ?_⟩
          refine ⟨h13_, ?_⟩
          refine ⟨h14_, ?_⟩
          refine ⟨h15_, ?_⟩
          refine ⟨h16_, ?_⟩
          refine ⟨?_, ?_⟩
          · skip
            intro h181_
            refine ⟨h17_, ?_⟩
            exact h18_
          refine ⟨h19_, ?_⟩
          refine ⟨(la_get__17 h20_ h100_), ?_⟩
          refine ⟨h101_, ?_⟩
          refine ⟨h102_, ?_⟩
          refine ⟨(la_get__18 h31_ h100_), ?_⟩
          refine ⟨h103_, ?_⟩
          refine ⟨(la_get__29 h34_), ?_⟩
          refine ⟨h35_, ?_⟩
          refine ⟨h100_, ?_⟩
          refine ⟨h164_, ?_⟩
          refine ⟨h163_, ?_⟩
          exact (la_get__30 h3_ h34_ h104_ h106_)
        intro h182_
        intro g43
        rintro ⟨h183_, h184_⟩
        refine ⟨?_, ?_⟩
        · skip
          refine ⟨?_, ?_⟩
          · skip
            intro h185_
            intro h186_
            refine ⟨h5_, ?_⟩
            refine ⟨h6_, ?_⟩
            refine ⟨(sm_PV_m h7_ (Int.le_refl _) h100_ sm_F1_rf), ?_⟩
            refine ⟨h8_, ?_⟩
            refine ⟨h9_, ?_⟩
            refine ⟨h10_, ?_⟩
            refine ⟨h11_, ?_⟩
            refine ⟨h12_, ?_⟩
            refine ⟨h13_, ?_⟩
            refine ⟨h14_, ?_⟩
            refine ⟨h15_, ?_⟩
            refine ⟨h16_, ?_⟩
            refine ⟨h17_, ?_⟩
            refine ⟨h18_, ?_⟩
            refine ⟨h19_, ?_⟩
            refine ⟨(la_get__17 h20_ h100_), ?_⟩
            refine ⟨h101_, ?_⟩
            refine ⟨h102_, ?_⟩
            refine ⟨h23_, ?_⟩
            refine ⟨h24_, ?_⟩
            refine ⟨h25_, ?_⟩
            refine ⟨h26_, ?_⟩
            refine ⟨h27_, ?_⟩
            refine ⟨h28_, ?_⟩
            refine ⟨h29_, ?_⟩
            refine ⟨h30_, ?_⟩
            refine ⟨(la_get__18 h31_ h100_), ?_⟩
            refine ⟨h32_, ?_⟩
            refine ⟨h33_, ?_⟩
            refine ⟨h34_, ?_⟩
            refine ⟨h35_, ?_⟩
            refine ⟨h36_, ?_⟩
            refine ⟨h37_, ?_⟩
            refine ⟨h38_, ?_⟩
            refine ⟨h39_, ?_⟩
            refine ⟨h40_, ?_⟩
            refine ⟨h41_, ?_⟩
            refine ⟨h42_, ?_⟩
            refine ⟨h43_, ?_⟩
            refine ⟨(sm_VO_m h44_ (Int.le_refl _) h100_ sm_F1_rf), ?_⟩
            refine ⟨h45_, ?_⟩
            refine ⟨(sm_FL_F h46_ sm_F1_rf sm_F1_rf sm_F1_rf sm_F1_rf sm_F1_rf sm_F1_rf sm_F1_rf sm_F1_rf sm_F1_rf sm_F1_rf sm_F1_rf sm_F1_rf (Int.le_refl _) h100_ sm_F1_rf sm_F1_rf (sm_FL_dp h46_ h23_)), ?_⟩
            refine ⟨h47_, ?_⟩
            refine ⟨h48_, ?_⟩
            refine ⟨h49_, ?_⟩
            refine ⟨(sm_SK_m h50_ (Int.le_refl _) h100_ sm_F1_rf), ?_⟩
            refine ⟨h51_, ?_⟩
            refine ⟨h52_, ?_⟩
            refine ⟨h53_, ?_⟩
            refine ⟨la_get__20, ?_⟩
            refine ⟨h58_, ?_⟩
            refine ⟨(la_get__21 h57_), ?_⟩
            refine ⟨(sm_VO_i (la_get__40 h183_) (la_get__41 h183_) (la_get__42 h20_ h100_ h183_ h184_) (la_get__43 h19_ h183_ h184_)), ?_⟩
            refine ⟨h59_, ?_⟩
            refine ⟨h60_, ?_⟩
            refine ⟨h61_, ?_⟩
            refine ⟨(la_get__22 h62_), ?_⟩
            refine ⟨h63_, ?_⟩
            exact h64_
          intro h187_
          have h188_ := (h99_ (la_get__25 h106_ (la_get__24 (la_get__23 h106_) h187_)))
          have h189_ := (h188_ (la_get__26 h106_ (la_get__24 (la_get__23 h106_) h187_)))
          have h190_ := (h189_ (la_get__27 h106_ (la_get__24 (la_get__23 h106_) h187_)))
          have h191_ := (h190_ h106_)
          exact h4_
        intro g49
        rintro ⟨h192_, h193_⟩
        have h194_ := (h192_ h106_)
        obtain ⟨h195_, ⟨h196_, ⟨h197_, ⟨h198_, ⟨h199_, ⟨h200_, ⟨h201_, ⟨h202_, ⟨h203_, ⟨h204_, ⟨h205_, ⟨h206_, ⟨h207_, ⟨h208_, h209_⟩⟩⟩⟩⟩⟩⟩⟩⟩⟩⟩⟩⟩⟩ := (h194_ h3_)
        refine ⟨h5_, ?_⟩
        refine ⟨h6_, ?_⟩
        refine ⟨(sm_PV_m h7_ (Int.le_refl _) h100_ sm_F1_rf), ?_⟩
        refine ⟨h8_, ?_⟩
        refine ⟨h9_, ?_⟩
        refine ⟨h10_, ?_⟩
        refine ⟨h11_, ?_⟩
        refine ⟨h12_, ?_⟩
        refine ⟨h13_, ?_⟩
        refine ⟨h14_, ?_⟩
        refine ⟨h15_, ?_⟩
        refine ⟨h16_, ?_⟩
        refine ⟨?_, ?_⟩
        · skip
          intro h210_
          refine ⟨h17_, ?_⟩
          exact h18_
        refine ⟨h19_, ?_⟩
        refine ⟨(la_get__17 h20_ h100_), ?_⟩
        refine ⟨h101_, ?_⟩
        refine ⟨h102_, ?_⟩
        refine ⟨(la_get__18 h31_ h100_), ?_⟩
        refine ⟨h103_, ?_⟩
        refine ⟨(la_get__29 h34_), ?_⟩
        refine ⟨h35_, ?_⟩
        refine ⟨h100_, ?_⟩
        refine ⟨h193_, ?_⟩
        refine ⟨h192_, ?_⟩
        exact (la_get__30 h3_ h34_ h104_ h106_)
      intro h211_
      refine ⟨?_, ?_⟩
      · skip
        refine ⟨h5_, ?_⟩
        refine ⟨h6_, ?_⟩
        refine ⟨(sm_PV_m h7_ (Int.le_refl _) h100_ sm_F1_rf), ?_⟩
        refine ⟨h8_, ?_⟩
        refine ⟨h9_, ?_⟩
        refine ⟨h10_, ?_⟩
        refine ⟨h11_, ?_⟩
        refine ⟨h12_, ?_⟩
        refine ⟨h13_, ?_⟩
        refine ⟨h14_, ?_⟩
        refine ⟨h15_, ?_⟩
        refine ⟨h16_, ?_⟩
        refine ⟨(la_get__44 h19_), ?_⟩
        refine ⟨?_, ?_⟩
        · skip
          have e212_ : S 63 (400 * (S 1092 0 - 1) + S 58 (S 1092 0 - 1) - 1 - 0) = S 63 (400 * (S 1092 0 - 1) + (S 58 (S 1092 0 - 1) - 1)) := congrArg ((S 63)) la_get__6
          have e213_ : S 63 (400 * (S 1092 0 - 1) + S 58 (S 1092 0 - 1) - 1 - 1) = S 63 (400 * (S 1092 0 - 1) + (S 58 (S 1092 0 - 1) - 2)) := congrArg ((S 63)) la_get__7
          have e214_ : S 64 (400 * (S 1092 0 - 1) + S 58 (S 1092 0 - 1) - 1 - 0) = S 64 (400 * (S 1092 0 - 1) + (S 58 (S 1092 0 - 1) - 1)) := congrArg ((S 64)) la_get__6
          have e215_ : S 64 (400 * (S 1092 0 - 1) + S 58 (S 1092 0 - 1) - 1 - 1) = S 64 (400 * (S 1092 0 - 1) + (S 58 (S 1092 0 - 1) - 2)) := congrArg ((S 64)) la_get__7
          obtain ⟨h216_, ⟨h217_, h218_⟩⟩ := ((sm_VO_e h80_).2.2.2 (la_get__47 (sm_VO_e h80_).2.1 h81_ h211_ e213_))
          exact (la_get__34 h82_ e215_ h216_)
        have e219_ : S 63 (400 * (S 1092 0 - 1) + S 58 (S 1092 0 - 1) - 1 - 0) = S 63 (400 * (S 1092 0 - 1) + (S 58 (S 1092 0 - 1) - 1)) := congrArg ((S 63)) la_get__6
        have e220_ : S 63 (400 * (S 1092 0 - 1) + S 58 (S 1092 0 - 1) - 1 - 1) = S 63 (400 * (S 1092 0 - 1) + (S 58 (S 1092 0 - 1) - 2)) := congrArg ((S 63)) la_get__7
        have e221_ : S 64 (400 * (S 1092 0 - 1) + S 58 (S 1092 0 - 1) - 1 - 0) = S 64 (400 * (S 1092 0 - 1) + (S 58 (S 1092 0 - 1) - 1)) := congrArg ((S 64)) la_get__6
        have e222_ : S 64 (400 * (S 1092 0 - 1) + S 58 (S 1092 0 - 1) - 1 - 1) = S 64 (400 * (S 1092 0 - 1) + (S 58 (S 1092 0 - 1) - 2)) := congrArg ((S 64)) la_get__7
        obtain ⟨h223_, ⟨h224_, h225_⟩⟩ := ((sm_VO_e h80_).2.2.2 (la_get__47 (sm_VO_e h80_).2.1 h81_ h211_ e220_))
        exact (la_get__48 h82_ e222_ h224_)
      intro r59
      intro h226_
      intro g55
      rintro ⟨h227_, h228_⟩
      refine ⟨?_, ?_⟩
      · skip
        refine ⟨?_, ?_⟩
        · skip
          intro h229_
          intro h230_
          refine ⟨h5_, ?_⟩
          refine ⟨h6_, ?_⟩
          refine ⟨(sm_PV_m h7_ (Int.le_refl _) h100_ sm_F1_rf), ?_⟩
          refine ⟨h8_, ?_⟩
          refine ⟨h9_, ?_⟩
          refine ⟨h10_, ?_⟩
          refine ⟨h11_, ?_⟩
          refine ⟨h12_, ?_⟩
          refine ⟨h13_, ?_⟩
          refine ⟨h14_, ?_⟩
          refine ⟨h15_, ?_⟩
          refine ⟨h16_, ?_⟩
          refine ⟨h17_, ?_⟩
          refine ⟨h18_, ?_⟩
          refine ⟨h19_, ?_⟩
          refine ⟨(la_get__17 h20_ h100_), ?_⟩
          refine ⟨h101_, ?_⟩
          refine ⟨h102_, ?_⟩
          refine ⟨h23_, ?_⟩
          refine ⟨h24_, ?_⟩
          refine ⟨h25_, ?_⟩
          refine ⟨h26_, ?_⟩
          refine ⟨h27_, ?_⟩
          refine ⟨h28_, ?_⟩
          refine ⟨h29_, ?_⟩
          refine ⟨h30_, ?_⟩
          refine ⟨(la_get__18 h31_ h100_), ?_⟩
          refine ⟨h32_, ?_⟩
          refine ⟨h33_, ?_⟩
          refine ⟨h34_, ?_⟩
          refine ⟨h35_, ?_⟩
          refine ⟨h36_, ?_⟩
          refine ⟨h37_, ?_⟩
          refine ⟨h38_, ?_⟩
          refine ⟨h39_, ?_⟩
          refine ⟨h40_, ?_⟩
          refine ⟨h41_, ?_⟩
          refine ⟨h42_, ?_⟩
          refine ⟨h43_, ?_⟩
          refine ⟨(sm_VO_m h44_ (Int.le_refl _) h100_ sm_F1_rf), ?_⟩
          refine ⟨h45_, ?_⟩
          refine ⟨(sm_FL_F h46_ sm_F1_rf sm_F1_rf sm_F1_rf sm_F1_rf sm_F1_rf sm_F1_rf sm_F1_rf sm_F1_rf sm_F1_rf sm_F1_rf sm_F1_rf sm_F1_rf (Int.le_refl _) h100_ sm_F1_rf sm_F1_rf (sm_FL_dp h46_ h23_)), ?_⟩
          refine ⟨h47_, ?_⟩
          refine ⟨h48_, ?_⟩
          refine ⟨h49_, ?_⟩
          refine ⟨(sm_SK_m h50_ (Int.le_refl _) h100_ sm_F1_rf), ?_⟩
          refine ⟨h51_, ?_⟩
          refine ⟨h52_, ?_⟩
          refine ⟨h53_, ?_⟩
          refine ⟨la_get__20, ?_⟩
          refine ⟨h58_, ?_⟩
          refine ⟨(la_get__21 h57_), ?_⟩
          refine ⟨h228_, ?_⟩
          refine ⟨h59_, ?_⟩
          refine ⟨h60_, ?_⟩
          refine ⟨h61_, ?_⟩
          refine ⟨(la_get__22 h62_), ?_⟩
          refine ⟨h63_, ?_⟩
          exact h64_
        intro h231_
        have h232_ := (h99_ (la_get__25 h106_ (la_get__24 (la_get__23 h106_) h231_)))
        have h233_ := (h232_ (la_get__26 h106_ (la_get__24 (la_get__23 h106_) h231_)))
        have h234_ := (h233_ (la_get__27 h106_ (la_get__24 (la_get__23 h106_) h231_)))
        have h235_ := (h234_ h106_)
        exact h4_
      intro g62
      rintro ⟨h236_, h237_⟩
      have h238_ := (h236_ h106_)
      obtain ⟨h239_, ⟨h240_, ⟨h241_, ⟨h242_, ⟨h243_, ⟨h244_, ⟨h245_, ⟨h246_, ⟨h247_, ⟨h248_, ⟨h249_, ⟨h250_, ⟨h251_, ⟨h252_, h253_⟩⟩⟩⟩⟩⟩⟩⟩⟩⟩⟩⟩⟩⟩ := (h238_ h3_)
      refine ⟨h5_, ?_⟩
      refine ⟨h6_, ?_⟩
      refine ⟨(sm_PV_m h7_ (Int.le_refl _) h100_ sm_F1_rf), ?_⟩
      refine ⟨h8_, ?_⟩
      refine ⟨h9_, ?_⟩
      refine ⟨h10_, ?_⟩
      refine ⟨h11_, ?_⟩
      refine ⟨h12_, ?_⟩
      refine ⟨h13_, ?_⟩
      refine ⟨h14_, ?_⟩
      refine ⟨h15_, ?_⟩
      refine ⟨h16_, ?_⟩
      refine ⟨?_, ?_⟩
      · skip
        intro h254_
        refine ⟨h17_, ?_⟩
        exact h18_
      refine ⟨h19_, ?_⟩
      refine ⟨(la_get__17 h20_ h100_), ?_⟩
      refine ⟨h101_, ?_⟩
      refine ⟨h102_, ?_⟩
      refine ⟨(la_get__18 h31_ h100_), ?_⟩
      refine ⟨h103_, ?_⟩
      refine ⟨(la_get__29 h34_), ?_⟩
      refine ⟨h35_, ?_⟩
      refine ⟨h100_, ?_⟩
      refine ⟨h237_, ?_⟩
      refine ⟨h236_, ?_⟩
      exact (la_get__30 h3_ h34_ h104_ h106_)
    intro h255_
    refine ⟨?_, ?_⟩
    · skip
      refine ⟨h106_, ?_⟩
      refine ⟨h3_, ?_⟩
      refine ⟨h4_, ?_⟩
      refine ⟨h5_, ?_⟩
      refine ⟨h6_, ?_⟩
      refine ⟨(sm_PV_m h7_ (Int.le_refl _) h100_ sm_F1_rf), ?_⟩
      refine ⟨h8_, ?_⟩
      refine ⟨h9_, ?_⟩
      refine ⟨h10_, ?_⟩
      refine ⟨h11_, ?_⟩
      refine ⟨h12_, ?_⟩
      refine ⟨h13_, ?_⟩
      refine ⟨h14_, ?_⟩
      refine ⟨h15_, ?_⟩
      refine ⟨h16_, ?_⟩
      refine ⟨h17_, ?_⟩
      refine ⟨h18_, ?_⟩
      refine ⟨h19_, ?_⟩
      refine ⟨(la_get__17 h20_ h100_), ?_⟩
      refine ⟨h101_, ?_⟩
      refine ⟨h102_, ?_⟩
      refine ⟨h23_, ?_⟩
      refine ⟨h24_, ?_⟩
      refine ⟨h25_, ?_⟩
      refine ⟨h26_, ?_⟩
      refine ⟨h27_, ?_⟩
      refine ⟨h28_, ?_⟩
      refine ⟨h29_, ?_⟩
      refine ⟨h30_, ?_⟩
      refine ⟨(la_get__18 h31_ h100_), ?_⟩
      refine ⟨h32_, ?_⟩
      refine ⟨h33_, ?_⟩
      refine ⟨h34_, ?_⟩
      refine ⟨h35_, ?_⟩
      refine ⟨(la_get__49 h36_ h47_), ?_⟩
      refine ⟨(la_get__50 h47_ h60_), ?_⟩
      refine ⟨?_, ?_⟩
      · skip
        have e256_ : S 29 (S 57 (S 1092 0 - 1)) = S 29 (S 1100033 0) := congrArg ((S 29)) h47_
        have e257_ : S 63 (400 * (S 1092 0 - 1) + S 58 (S 1092 0 - 1) - 1 - 0) = S 63 (400 * (S 1092 0 - 1) + (S 58 (S 1092 0 - 1) - 1)) := congrArg ((S 63)) la_get__6
        have e258_ : S 63 (400 * (S 1092 0 - 1) + S 58 (S 1092 0 - 1) - 1 - 1) = S 63 (400 * (S 1092 0 - 1) + (S 58 (S 1092 0 - 1) - 2)) := congrArg ((S 63)) la_get__7
        have e259_ : S 64 (400 * (S 1092 0 - 1) + S 58 (S 1092 0 - 1) - 1 - 0) = S 64 (400 * (S 1092 0 - 1) + (S 58 (S 1092 0 - 1) - 1)) := congrArg ((S 64)) la_get__6
        have e260_ : S 64 (400 * (S 1092 0 - 1) + S 58 (S 1092 0 - 1) - 1 - 1) = S 64 (400 * (S 1092 0 - 1) + (S 58 (S 1092 0 - 1) - 2)) := congrArg ((S 64)) la_get__7
        exact (la_get__53 h38_ e256_)
      refine ⟨h39_, ?_⟩
      refine ⟨h40_, ?_⟩
      refine ⟨?_, ?_⟩
      · skip
        have e261_ : S 1100023 (S 57 (S 1092 0 - 1)) = S 1100023 (S 1100033 0) := congrArg ((S 1100023)) h47_
        have e262_ : S 63 (400 * (S 1092 0 - 1) + S 58 (S 1092 0 - 1) - 1 - 0) = S 63 (400 * (S 1092 0 - 1) + (S 58 (S 1092 0 - 1) - 1)) := congrArg ((S 63)) la_get__6
        have e263_ : S 63 (400 * (S 1092 0 - 1) + S 58 (S 1092 0 - 1) - 1 - 1) = S 63 (400 * (S 1092 0 - 1) + (S 58 (S 1092 0 - 1) - 2)) := congrArg ((S 63)) la_get__7
        have e264_ : S 64 (400 * (S 1092 0 - 1) + S 58 (S 1092 0 - 1) - 1 - 0) = S 64 (400 * (S 1092 0 - 1) + (S 58 (S 1092 0 - 1) - 1)) := congrArg ((S 64)) la_get__6
        have e265_ : S 64 (400 * (S 1092 0 - 1) + S 58 (S 1092 0 - 1) - 1 - 1) = S 64 (400 * (S 1092 0 - 1) + (S 58 (S 1092 0 - 1) - 2)) := congrArg ((S 64)) la_get__7
        have e266_ : sm_dp (S 1100024) (S 1100023 (S 57 (S 1092 0 - 1))) = sm_dp (S 1100024) (S 1100023 (S 1100033 0)) := congrArg ((sm_dp (S 1100024))) e261_
        exact (la_get__54 h41_ e266_)
      refine ⟨?_, ?_⟩
      · skip
        have e267_ : S 1100023 (S 57 (S 1092 0 - 1)) = S 1100023 (S 1100033 0) := congrArg ((S 1100023)) h47_
        have e268_ : S 63 (400 * (S 1092 0 - 1) + S 58 (S 1092 0 - 1) - 1 - 0) = S 63 (400 * (S 1092 0 - 1) + (S 58 (S 1092 0 - 1) - 1)) := congrArg ((S 63)) la_get__6
        have e269_ : S 63 (400 * (S 1092 0 - 1) + S 58 (S 1092 0 - 1) - 1 - 1) = S 63 (400 * (S 1092 0 - 1) + (S 58 (S 1092 0 - 1) - 2)) := congrArg ((S 63)) la_get__7
        have e270_ : S 64 (400 * (S 1092 0 - 1) + S 58 (S 1092 0 - 1) - 1 - 0) = S 64 (400 * (S 1092 0 - 1) + (S 58 (S 1092 0 - 1) - 1)) := congrArg ((S 64)) la_get__6
        have e271_ : S 64 (400 * (S 1092 0 - 1) + S 58 (S 1092 0 - 1) - 1 - 1) = S 64 (400 * (S 1092 0 - 1) + (S 58 (S 1092 0 - 1) - 2)) := congrArg ((S 64)) la_get__7
        exact (sm_TC_t h42_ (la_get__55 e267_))
      refine ⟨h43_, ?_⟩
      refine ⟨(sm_VO_m h44_ (Int.le_refl _) h100_ sm_F1_rf), ?_⟩
      refine ⟨h45_, ?_⟩
      refine ⟨(sm_FL_F h46_ sm_F1_rf sm_F1_rf sm_F1_rf sm_F1_rf sm_F1_rf sm_F1_rf sm_F1_rf sm_F1_rf sm_F1_rf sm_F1_rf sm_F1_rf sm_F1_rf (Int.le_refl _) h100_ sm_F1_rf sm_F1_rf (sm_FL_dp h46_ h23_)), ?_⟩
      refine ⟨?_, ?_⟩
      · skip
        have e272_ : S 1100007 (S 57 (S 1092 0 - 1)) = S 1100007 (S 1100033 0) := congrArg ((S 1100007)) h47_
        have e273_ : S 63 (400 * (S 1092 0 - 1) + S 58 (S 1092 0 - 1) - 1 - 0) = S 63 (400 * (S 1092 0 - 1) + (S 58 (S 1092 0 - 1) - 1)) := congrArg ((S 63)) la_get__6
        have e274_ : S 63 (400 * (S 1092 0 - 1) + S 58 (S 1092 0 - 1) - 1 - 1) = S 63 (400 * (S 1092 0 - 1) + (S 58 (S 1092 0 - 1) - 2)) := congrArg ((S 63)) la_get__7
        have e275_ : S 64 (400 * (S 1092 0 - 1) + S 58 (S 1092 0 - 1) - 1 - 0) = S 64 (400 * (S 1092 0 - 1) + (S 58 (S 1092 0 - 1) - 1)) := congrArg ((S 64)) la_get__6
        have e276_ : S 64 (400 * (S 1092 0 - 1) + S 58 (S 1092 0 - 1) - 1 - 1) = S 64 (400 * (S 1092 0 - 1) + (S 58 (S 1092 0 - 1) - 2)) := congrArg ((S 64)) la_get__7
        exact (la_get__54 h54_ e272_)
      refine ⟨?_, ?_⟩
      · skip
        have e277_ : S 1100025 (S 57 (S 1092 0 - 1)) = S 1100025 (S 1100033 0) := congrArg ((S 1100025)) h47_
        have e278_ : S 63 (400 * (S 1092 0 - 1) + S 58 (S 1092 0 - 1) - 1 - 0) = S 63 (400 * (S 1092 0 - 1) + (S 58 (S 1092 0 - 1) - 1)) := congrArg ((S 63)) la_get__6
        have e279_ : S 63 (400 * (S 1092 0 - 1) + S 58 (S 1092 0 - 1) - 1 - 1) = S 63 (400 * (S 1092 0 - 1) + (S 58 (S 1092 0 - 1) - 2)) := congrArg ((S 63)) la_get__7
        have e280_ : S 64 (400 * (S 1092 0 - 1) + S 58 (S 1092 0 - 1) - 1 - 0) = S 64 (400 * (S 1092 0 - 1) + (S 58 (S 1092 0 - 1) - 1)) := congrArg ((S 64)) la_get__6
        have e281_ : S 64 (400 * (S 1092 0 - 1) + S 58 (S 1092 0 - 1) - 1 - 1) = S 64 (400 * (S 1092 0 - 1) + (S 58 (S 1092 0 - 1) - 2)) := congrArg ((S 64)) la_get__7
        exact (sm_SK_q (sm_SK_m h50_ (Int.le_refl _) h100_ sm_F1_rf) (la_get__57 h55_ e277_) rfl rfl)
      refine ⟨?_, ?_⟩
      · skip
        intro h282_
        have e283_ : S 1100023 (S 57 (S 1092 0 - 1)) = S 1100023 (S 1100033 0) := congrArg ((S 1100023)) h47_
        have e284_ : S 63 (400 * (S 1092 0 - 1) + S 58 (S 1092 0 - 1) - 1 - 0) = S 63 (400 * (S 1092 0 - 1) + (S 58 (S 1092 0 - 1) - 1)) := congrArg ((S 63)) la_get__6
        have e285_ : S 63 (400 * (S 1092 0 - 1) + S 58 (S 1092 0 - 1) - 1 - 1) = S 63 (400 * (S 1092 0 - 1) + (S 58 (S 1092 0 - 1) - 2)) := congrArg ((S 63)) la_get__7
        have e286_ : S 64 (400 * (S 1092 0 - 1) + S 58 (S 1092 0 - 1) - 1 - 0) = S 64 (400 * (S 1092 0 - 1) + (S 58 (S 1092 0 - 1) - 1)) := congrArg ((S 64)) la_get__6
        have e287_ : S 64 (400 * (S 1092 0 - 1) + S 58 (S 1092 0 - 1) - 1 - 1) = S 64 (400 * (S 1092 0 - 1) + (S 58 (S 1092 0 - 1) - 2)) := congrArg ((S 64)) la_get__7
        have h288_ := (h56_ (la_get__58 h282_ e283_))
        have e289_ : S 1100007 (S 1100023 (S 57 (S 1092 0 - 1))) = S 1100007 (S 1100023 (S 1100033 0)) := congrArg ((S 1100007)) e283_
        exact (la_get__59 h288_ e289_)
      refine ⟨la_get__60, ?_⟩
      exact la_get__61
    intro g68
    rintro ⟨h290_, ⟨h291_, ⟨h292_, ⟨h293_, ⟨h294_, ⟨h295_, ⟨h296_, ⟨h297_, ⟨h298_, ⟨h299_, ⟨h300_, ⟨h301_, ⟨h302_, ⟨h303_, ⟨h304_, ⟨h305_, ⟨h306_, ⟨h307_, ⟨h308_, ⟨h309_, ⟨h310_, ⟨h311_, ⟨h312_, ⟨h313_, ⟨h314_, h315_⟩⟩⟩⟩⟩⟩⟩⟩⟩⟩⟩⟩⟩⟩⟩⟩⟩⟩⟩⟩⟩⟩⟩⟩⟩
    refine ⟨h290_, ?_⟩
    refine ⟨h6_, ?_⟩
    refine ⟨h292_, ?_⟩
    refine ⟨h293_, ?_⟩
    refine ⟨h294_, ?_⟩
    refine ⟨h295_, ?_⟩
    refine ⟨h296_, ?_⟩
    refine ⟨h12_, ?_⟩
    refine ⟨h13_, ?_⟩
    refine ⟨h14_, ?_⟩
    refine ⟨h300_, ?_⟩
    refine ⟨h301_, ?_⟩
    refine ⟨h302_, ?_⟩
    refine ⟨h303_, ?_⟩
    refine ⟨h304_, ?_⟩
    refine ⟨h101_, ?_⟩
    refine ⟨h102_, ?_⟩
    refine ⟨h307_, ?_⟩
    refine ⟨(la_get__62 h2_), ?_⟩
    refine ⟨h309_, ?_⟩
    refine ⟨h310_, ?_⟩
    refine ⟨h100_, ?_⟩
    refine ⟨h312_, ?_⟩
    refine ⟨h313_, ?_⟩
    exact h314_
  intro h316_
  refine ⟨h5_, ?_⟩
  refine ⟨h6_, ?_⟩
  refine ⟨(sm_PV_m h7_ (Int.le_refl _) h100_ sm_F1_rf), ?_⟩
  refine ⟨h8_, ?_⟩
  refine ⟨h9_, ?_⟩
  refine ⟨h10_, ?_⟩
  refine ⟨h11_, ?_⟩
  refine ⟨h12_, ?_⟩
  refine ⟨h13_, ?_⟩
  refine ⟨h14_, ?_⟩
  refine ⟨h15_, ?_⟩
  refine ⟨h16_, ?_⟩
  refine ⟨?_, ?_⟩
  · skip
    intro h317_
    have h318_ := (h99_ (la_get__63 (la_get__15 h104_ h316_) h317_))
    have h319_ := (h318_ (la_get__64 (la_get__15 h104_ h316_) h317_))
    have h320_ := (h319_ (la_get__65 (la_get__15 h104_ h316_) h317_))
    have h321_ := (h320_ h317_)
    refine ⟨h17_, ?_⟩
    exact h18_
  refine ⟨h19_, ?_⟩
  refine ⟨(la_get__17 h20_ h100_), ?_⟩
  refine ⟨h101_, ?_⟩
  refine ⟨h102_, ?_⟩
  refine ⟨(la_get__18 h31_ h100_), ?_⟩
  refine ⟨h103_, ?_⟩
  refine ⟨(la_get__29 h34_), ?_⟩
  refine ⟨h35_, ?_⟩
  refine ⟨h100_, ?_⟩
  refine ⟨?_, ?_⟩
  · skip
    intro h322_
    exact h4_
  refine ⟨?_, ?_⟩
  · skip
    intro h323_
    have h324_ := (h99_ (la_get__63 (la_get__15 h104_ h316_) h323_))
    have h325_ := (h324_ (la_get__64 (la_get__15 h104_ h316_) h323_))
    have h326_ := (h325_ (la_get__65 (la_get__15 h104_ h316_) h323_))
    have h327_ := (h326_ h323_)
    intro h328_
    refine ⟨h34_, ?_⟩
    refine ⟨h35_, ?_⟩
    refine ⟨(la_get__49 h36_ h47_), ?_⟩
    refine ⟨(la_get__50 h47_ h60_), ?_⟩
    refine ⟨?_, ?_⟩
    · skip
      have e329_ : S 29 (S 57 (S 1092 0 - 1)) = S 29 (S 1100033 0) := congrArg ((S 29)) h47_
      have e330_ : S 63 (400 * (S 1092 0 - 1) + S 58 (S 1092 0 - 1) - 1 - 1) = S 63 (400 * (S 1092 0 - 1) + (S 58 (S 1092 0 - 1) - 2)) := congrArg ((S 63)) la_get__7
      have e331_ : S 64 (400 * (S 1092 0 - 1) + S 58 (S 1092 0 - 1) - 1 - 1) = S 64 (400 * (S 1092 0 - 1) + (S 58 (S 1092 0 - 1) - 2)) := congrArg ((S 64)) la_get__7
      exact (la_get__53 h38_ e329_)
    refine ⟨h39_, ?_⟩
    refine ⟨h40_, ?_⟩
    refine ⟨?_, ?_⟩
    · skip
      have e332_ : S 1100023 (S 57 (S 1092 0 - 1)) = S 1100023 (S 1100033 0) := congrArg ((S 1100023)) h47_
      have e333_ : S 63 (400 * (S 1092 0 - 1) + S 58 (S 1092 0 - 1) - 1 - 1) = S 63 (400 * (S 1092 0 - 1) + (S 58 (S 1092 0 - 1) - 2)) := congrArg ((S 63)) la_get__7
      have e334_ : S 64 (400 * (S 1092 0 - 1) + S 58 (S 1092 0 - 1) - 1 - 1) = S 64 (400 * (S 1092 0 - 1) + (S 58 (S 1092 0 - 1) - 2)) := congrArg ((S 64)) la_get__7
      have e335_ : sm_dp (S 1100024) (S 1100023 (S 57 (S 1092 0 - 1))) = sm_dp (S 1100024) (S 1100023 (S 1100033 0)) := congrArg ((sm_dp (S 1100024))) e332_
      exact (la_get__54 h41_ e335_)
    refine ⟨?_, ?_⟩
    · skip
      have e336_ : S 1100023 (S 57 (S 1092 0 - 1)) = S 1100023 (S 1100033 0) := congrArg ((S 1100023)) h47_
      have e337_ : S 63 (400 * (S 1092 0 - 1) + S 58 (S 1092 0 - 1) - 1 - 1) = S 63 (400 * (S 1092 0 - 1) + (S 58 (S 1092 0 - 1) - 2)) := congrArg ((S 63)) la_get__7
      have e338_ : S 64 (400 * (S 1092 0 - 1) + S 58 (S 1092 0 - 1) - 1 - 1) = S 64 (400 * (S 1092 0 - 1) + (S 58 (S 1092 0 - 1) - 2)) := congrArg ((S 64)) la_get__7
      exact (sm_TC_t h42_ (la_get__55 e336_))
    refine ⟨h43_, ?_⟩
    refine ⟨(sm_VO_m h44_ (Int.le_refl _) h100_ sm_F1_rf), ?_⟩
    refine ⟨h45_, ?_⟩
    refine ⟨(sm_FL_F h46_ sm_F1_rf sm_F1_rf sm_F1_rf sm_F1_rf sm_F1_rf sm_F1_rf sm_F1_rf sm_F1_rf sm_F1_rf sm_F1_rf sm_F1_rf sm_F1_rf (Int.le_refl _) h100_ sm_F1_rf sm_F1_rf (sm_FL_dp h46_ h23_)), ?_⟩
    refine ⟨?_, ?_⟩
    · skip
      have e339_ : S 1100007 (S 57 (S 1092 0 - 1)) = S 1100007 (S 1100033 0) := congrArg ((S 1100007)) h47_
      have e340_ : S 63 (400 * (S 1092 0 - 1) + S 58 (S 1092 0 - 1) - 1 - 1) = S 63 (400 * (S 1092 0 - 1) + (S 58 (S 1092 0 - 1) - 2)) := congrArg ((S 63)) la_get__7
      have e341_ : S 64 (400 * (S 1092 0 - 1) + S 58 (S 1092 0 - 1) - 1 - 1) = S 64 (400 * (S 1092 0 - 1) + (S 58 (S 1092 0 - 1) - 2)) := congrArg ((S 64)) la_get__7
      exact (la_get__54 h54_ e339_)
    have e342_ : S 1100025 (S 57 (S 1092 0 - 1)) = S 1100025 (S 1100033 0) := congrArg ((S 1100025)) h47_
    have e343_ : S 63 (400 * (S 1092 0 - 1) + S 58 (S 1092 0 - 1) - 1 - 1) = S 63 (400 * (S 1092 0 - 1) + (S 58 (S 1092 0 - 1) - 2)) := congrArg ((S 63)) la_get__7
    have e344_ : S 64 (400 * (S 1092 0 - 1) + S 58 (S 1092 0 - 1) - 1 - 1) = S 64 (400 * (S 1092 0 - 1) + (S 58 (S 1092 0 - 1) - 2)) := congrArg ((S 64)) la_get__7
    exact (sm_SK_q (sm_SK_m h50_ (Int.le_refl _) h100_ sm_F1_rf) (la_get__57 h55_ e342_) rfl rfl)
  exact (la_get__66 h3_ h34_ (la_get__15 h104_ h316_))
set_option maxRecDepth 8000 in
set_option maxHeartbeats 2000000 in
theorem t_get_ : ∀ (S : sv_S), sm_ok S → ((S 1075 0) = 0 ∧ (S 1073 0) = 1 ∧ sm_LX (S 58) (S 63) (S 64) (S 1092 0) (S 1076 0) ∧ sm_PL (S 1100020) (S 51) (S 52) (S 46) (S 47) (S 1076 0) (S 1086 0) ∧ sm_FR (S 1100020) (S 52) (S 1100021) (S 1100022) (3000 - (S 1084 0)) (S 1085 0) ∧ sm_PV (S 1100020) (S 48) (S 49) (S 50) (S 44) (S 1076 0) (S 1007 0) ∧ sm_AL (S 1100020) (S 48) (S 49) (S 50) (S 44) (S 1076 0) (S 1100032 0) ∧ sm_SV (S 1100020) (S 48) (S 1100029) (S 32) (S 33) (S 1076 0) (S 1032 0) ∧ 0 ≤ (S 1076 0) ∧ (S 1076 0) ≤ 300 ∧ 0 ≤ (S 1084 0) ∧ (S 1084 0) ≤ 3000 ∧ 0 ≤ (S 1086 0) ∧ sm_SC (S 1100029) (S 44) (S 45) (S 43) (S 21) (S 1076 0) (S 1032 0) ∧ sm_PO (S 42) (S 1076 0) ∧ (S 1100032 0) = -1 ∧ sm_FO (S 44) (S 45) (S 1076 0) ∧ 23 ≤ (S 1076 0) ∧ 31 ≤ (S 1007 0) ∧ (S 1007 0) ≤ 400 ∧ sm_LN (S 4) 400 (S 1007 0) ∧ sm_CT (S 26) (S 27) (S 28) (S 29) (S 1100007) (S 1100023) (S 1100024) (S 1100025) (S 21) (S 1046 0) (S 1032 0) (S 1008 0) (S 1055 0) ∧ sm_LS (S 26) (S 1100007) (S 1100025) (S 1046 0) ∧ sm_CL (S 1100007) (S 1100023) (S 1100025) (S 1046 0) ∧ 1 ≤ (S 1032 0) ∧ (S 1032 0) ≤ 11 ∧ 0 ≤ (S 1046 0) ∧ (S 1046 0) ≤ 600 ∧ 31 ≤ (S 1008 0) ∧ (S 1008 0) ≤ (S 1007 0) ∧ 0 ≤ (S 1055 0) ∧ (S 1055 0) ≤ 19 ∧ 1 ≤ (S 1092 0) ∧ (S 1092 0) ≤ 24 ∧ 0 ≤ (S 1100033 0) ∧ (S 1100033 0) < (S 1046 0) ∧ (S 29 (S 1100033 0)) = (S 53 ((S 1092 0) - 1)) ∧ 0 ≤ (S 53 ((S 1092 0) - 1)) ∧ (S 53 ((S 1092 0) - 1)) < (S 1032 0) ∧ (S 60 ((S 1092 0) - 1)) = sm_dp (S 1100024) (S 1100023 (S 1100033 0)) ∧ sm_TC (S 61) (S 62) (S 27) (S 1100007) (S 1100023) (S 1100024) (40 * ((S 1092 0) - 1)) (S 1100023 (S 1100033 0)) ∧ sm_LK (S 1100029) (S 1076 0) (S 54 ((S 1092 0) - 1)) (S 53 ((S 1092 0) - 1)) ∧ sm_VO (S 44) (S 1076 0) (S 1007 0) ((S 55 ((S 1092 0) - 1))) ((S 56 ((S 1092 0) - 1))) ∧ sm_FW (S 44) (S 1076 0) (S 59 ((S 1092 0) - 1)) ∧ sm_FL (S 53) (S 54) (S 55) (S 56) (S 57) (S 58) (S 59) (S 60) (S 61) (S 62) (S 63) (S 64) (S 27) (S 29) (S 1100007) (S 1100023) (S 1100024) (S 1100025) (S 26) (S 1100029) (S 44) (S 1046 0) (S 1032 0) (S 1076 0) (S 1007 0) (((S 1092 0) - 1)) ∧ (S 57 ((S 1092 0) - 1)) = (S 1100033 0) ∧ 0 ≤ (S 58 ((S 1092 0) - 1)) ∧ (S 58 ((S 1092 0) - 1)) ≤ 400 ∧ sm_SK (S 63) (S 64) (S 44) (S 1100007) (S 1100025) (S 1076 0) (S 1007 0) (400 * ((S 1092 0) - 1)) ((S 58 ((S 1092 0) - 1))) ((S 1100034 0)) ∧ -1 ≤ (S 1100034 0) ∧ (S 1100034 0) < (S 1046 0) ∧ (0 ≤ (S 1100034 0) → (S 26 (S 1100034 0)) = 29) ∧ (S 58 ((S 1092 0) - 1)) = (S 1100007 (S 1100033 0)) ∧ (S 1100034 0) = (S 1100025 (S 1100033 0)) ∧ (0 ≤ (S 1100023 (S 1100033 0)) → (S 1100007 (S 1100023 (S 1100033 0))) ≤ (S 58 ((S 1092 0) - 1))) ∧ (S 58 ((S 1092 0) - 1)) ≤ 396 ∧ 2 ≤ (S 58 ((S 1092 0) - 1)) ∧ (0 ≤ (S 1100034 0) → (S 1100007 (S 1100034 0)) ≤ (S 58 ((S 1092 0) - 1)) - 2) ∧ (S 1100033 0) + 1 < (S 1046 0) ∧ (S 29 ((S 1100033 0) + 1)) = (S 29 (S 1100033 0)) ∧ (S 1100007 ((S 1100033 0) + 1)) = (S 58 ((S 1092 0) - 1)) + (-1) ∧ (S 1100023 ((S 1100033 0) + 1)) = (S 1100023 (S 1100033 0)) ∧ (S 1100025 ((S 1100033 0) + 1)) = (S 1100034 0)) → sv_T sm_XS sm_cs sm_L sm_sh 4 (q_get_ S) 171 0 (lv_args 0 [.ref 0]) [] S := by
  intro S hok hpre
  have h := f_get_ S hok hpre
  have hM := sm_h171
  show sv_T sm_XS sm_cs sm_L sm_sh 4 (q_get_ S) 171 0 [(0, .ref 0)] [] S
  have k1 : (sm_SK (S 63) (S 64) (S 44) (S 1100007) (S 1100025) (S 1076 0) (S 1007 0) (400 * ((S 1092 0) - 1)) ((S 58 ((S 1092 0) - 1))) ((S 1100034 0)) → sm_LS (S 26) (S 1100007) (S 1100025) (S 1046 0) → 0 ≤ (S 58 ((S 1092 0) - 1)) - 1 → (S 58 ((S 1092 0) - 1)) - 1 < (S 58 ((S 1092 0) - 1)) → (S 1100034 0) < (S 1046 0) → (0 ≤ (S 1100034 0) → (S 26 (S 1100034 0)) = 29) → (0 ≤ (S 1100034 0) → (S 1100007 (S 1100034 0)) ≤ (S 58 ((S 1092 0) - 1)) - 2) → sm_VO (S 44) (S 1076 0) (S 1007 0) ((S 63 (400 * ((S 1092 0) - 1) + ((S 58 ((S 1092 0) - 1)) - 1)))) ((S 64 (400 * ((S 1092 0) - 1) + ((S 58 ((S 1092 0) - 1)) - 1))))) := fun h a b e g i j => sm_SK_at h a _ b e g (fun z => ⟨i z, by have := j z; omega⟩)
  have h := h k1
  have k2 : (sm_SK (S 63) (S 64) (S 44) (S 1100007) (S 1100025) (S 1076 0) (S 1007 0) (400 * ((S 1092 0) - 1)) ((S 58 ((S 1092 0) - 1))) ((S 1100034 0)) → sm_LS (S 26) (S 1100007) (S 1100025) (S 1046 0) → 0 ≤ (S 58 ((S 1092 0) - 1)) - 2 → (S 58 ((S 1092 0) - 1)) - 2 < (S 58 ((S 1092 0) - 1)) → (S 1100034 0) < (S 1046 0) → (0 ≤ (S 1100034 0) → (S 26 (S 1100034 0)) = 29) → (0 ≤ (S 1100034 0) → (S 1100007 (S 1100034 0)) ≤ (S 58 ((S 1092 0) - 1)) - 2) → sm_VO (S 44) (S 1076 0) (S 1007 0) ((S 63 (400 * ((S 1092 0) - 1) + ((S 58 ((S 1092 0) - 1)) - 2)))) ((S 64 (400 * ((S 1092 0) - 1) + ((S 58 ((S 1092 0) - 1)) - 2))))) := fun h a b e g i j => sm_SK_at h a _ b e g (fun z => ⟨i z, by have := j z; omega⟩)
  have h := h k2
  refine sv_aload_n hM dX12_get__0 rfl rfl ?_
  refine sv_iconst (d := (1 : Int)) hM dX12_get__1 rfl rfl ?_
  obtain ⟨o3, h⟩ := h
  refine sv_callV hM dX12_get__2 sm_iv_910 (by decide) (sm_a0 _) rfl rfl (Nat.le_of_ble_eq_true rfl) sm_h150 (Nat.le_of_ble_eq_true rfl) (Nat.le_of_ble_eq_true rfl) (F' := 1) (Nat.le_of_ble_eq_true rfl) rfl (t_sortAt (1 : Int) S hok (⟨by decide, by decide⟩ : sv_R (1 : Int)) o3) (fun v S1 hq => ?_)
  obtain ⟨rfl, hS1⟩ := hq
  obtain rfl : S = S1 := hS1.symm
  show sv_T sm_XS sm_cs sm_L sm_sh 4 (q_get_ S) 171 5 [(0, .ref 0)] [sv_I ((S 63 ((400 * ((S 1092 0) - 1) + (S 58 ((S 1092 0) - 1))) - 1 - (1 : Int))))] S
  obtain ⟨x4, e5⟩ : ∃ x : Int, ((S 63 ((400 * ((S 1092 0) - 1) + (S 58 ((S 1092 0) - 1))) - 1 - (1 : Int)))) = x := ⟨_, rfl⟩
  have h := h x4 e5
  have e5r : sv_R x4 := e5 ▸ (sm_okI hok sm_r63 _)
  refine sv_nameI e5 ?_
  refine sv_istore_n hM dX12_get__5 (by decide) rfl ?_
  show sv_T sm_XS sm_cs sm_L sm_sh 4 (q_get_ S) 171 6 [(0, .ref 0), (1, sv_I x4)] [] S
  refine sv_aload_n hM dX12_get__6 rfl rfl ?_
  refine sv_iconst (d := (1 : Int)) hM dX12_get__7 rfl rfl ?_
  refine sv_callV hM dX12_get__8 sm_iv_913 (by decide) (sm_a0 _) rfl rfl (Nat.le_of_ble_eq_true rfl) sm_h151 (Nat.le_of_ble_eq_true rfl) (Nat.le_of_ble_eq_true rfl) (F' := 1) (Nat.le_of_ble_eq_true rfl) rfl (t_valueAt (1 : Int) S hok (⟨by decide, by decide⟩ : sv_R (1 : Int)) o3) (fun v S1 hq => ?_)
  obtain ⟨rfl, hS1⟩ := hq
  obtain rfl : S = S1 := hS1.symm
  show sv_T sm_XS sm_cs sm_L sm_sh 4 (q_get_ S) 171 11 [(0, .ref 0), (1, sv_I x4)] [sv_I ((S 64 ((400 * ((S 1092 0) - 1) + (S 58 ((S 1092 0) - 1))) - 1 - (1 : Int))))] S
  obtain ⟨x6, e7⟩ : ∃ x : Int, ((S 64 ((400 * ((S 1092 0) - 1) + (S 58 ((S 1092 0) - 1))) - 1 - (1 : Int)))) = x := ⟨_, rfl⟩
  have h := h x6 e7
  have e7r : sv_R x6 := e7 ▸ (sm_okI hok sm_r64 _)
  refine sv_nameI e7 ?_
  refine sv_istore_n hM dX12_get__11 (by decide) rfl ?_
  show sv_T sm_XS sm_cs sm_L sm_sh 4 (q_get_ S) 171 12 [(0, .ref 0), (1, sv_I x4), (2, sv_I x6)] [] S
  refine sv_aload_n hM dX12_get__12 rfl rfl ?_
  refine sv_aload_n hM dX12_get__13 rfl rfl ?_
  refine sv_iconst (d := (0 : Int)) hM dX12_get__14 rfl rfl ?_
  obtain ⟨o8, h⟩ := h
  refine sv_callV hM dX12_get__15 sm_iv_910 (by decide) (sm_a0 _) rfl rfl (Nat.le_of_ble_eq_true rfl) sm_h150 (Nat.le_of_ble_eq_true rfl) (Nat.le_of_ble_eq_true rfl) (F' := 1) (Nat.le_of_ble_eq_true rfl) rfl (t_sortAt (0 : Int) S hok (⟨by decide, by decide⟩ : sv_R (0 : Int)) o8) (fun v S1 hq => ?_)
  obtain ⟨rfl, hS1⟩ := hq
  obtain rfl : S = S1 := hS1.symm
  show sv_T sm_XS sm_cs sm_L sm_sh 4 (q_get_ S) 171 18 [(0, .ref 0), (1, sv_I x4), (2, sv_I x6)] [sv_I ((S 63 ((400 * ((S 1092 0) - 1) + (S 58 ((S 1092 0) - 1))) - 1 - (0 : Int)))), .ref 0] S
  refine sv_aload_n hM dX12_get__18 rfl rfl ?_
  refine sv_iconst (d := (0 : Int)) hM dX12_get__19 rfl rfl ?_
  refine sv_callV hM dX12_get__20 sm_iv_913 (by decide) (sm_a0 _) rfl rfl (Nat.le_of_ble_eq_true rfl) sm_h151 (Nat.le_of_ble_eq_true rfl) (Nat.le_of_ble_eq_true rfl) (F' := 1) (Nat.le_of_ble_eq_true rfl) rfl (t_valueAt (0 : Int) S hok (⟨by decide, by decide⟩ : sv_R (0 : Int)) o8) (fun v S1 hq => ?_)
  obtain ⟨rfl, hS1⟩ := hq
  obtain rfl : S = S1 := hS1.symm
  show sv_T sm_XS sm_cs sm_L sm_sh 4 (q_get_ S) 171 23 [(0, .ref 0), (1, sv_I x4), (2, sv_I x6)] [sv_I ((S 64 ((400 * ((S 1092 0) - 1) + (S 58 ((S 1092 0) - 1))) - 1 - (0 : Int)))), sv_I ((S 63 ((400 * ((S 1092 0) - 1) + (S 58 ((S 1092 0) - 1))) - 1 - (0 : Int)))), .ref 0] S
  obtain ⟨o9, h⟩ := h
  refine sv_callV hM dX12_get__23 sm_iv_969 (by decide) (sm_a0 _) rfl rfl (Nat.le_of_ble_eq_true rfl) sm_h126 (Nat.le_of_ble_eq_true rfl) (Nat.le_of_ble_eq_true rfl) (F' := 3) (Nat.le_of_ble_eq_true rfl) rfl (t_textOf ((S 63 ((400 * ((S 1092 0) - 1) + (S 58 ((S 1092 0) - 1))) - 1 - (0 : Int)))) ((S 64 ((400 * ((S 1092 0) - 1) + (S 58 ((S 1092 0) - 1))) - 1 - (0 : Int)))) S hok (sm_okI hok sm_r63 _) (sm_okI hok sm_r64 _) o9) (fun v S1 hq => ?_)
  obtain ⟨r14, rfl, hr14, ok11, md12, hpo13⟩ := hq
  obtain ⟨g10, rfl⟩ : ∃ g, S1 = sv_sts S [5, 1011, 3, 4, 1007, 1075] g := ⟨_, md12.eq⟩
  show sv_T sm_XS sm_cs sm_L sm_sh 4 (q_get_ S) 171 26 [(0, .ref 0), (1, sv_I x4), (2, sv_I x6)] [sv_I r14] (sv_sts S [5, 1011, 3, 4, 1007, 1075] g10)
  have md15 : sv_mod [1076, 41, 42, 43, 44, 45, 46, 47, 1075, 1100029, 1092, 60, 58, 57, 63, 64, 1073, 1109, 1110, 1111, 1112, 5, 1011, 3, 4, 1007] S (sv_sts S [5, 1011, 3, 4, 1007, 1075] g10) := sv_mod.sts sv_mod.rf (by decide)
  have h := h r14 hr14 g10 hpo13
  refine sv_istore_n hM dX12_get__26 (by decide) rfl ?_
  show sv_T sm_XS sm_cs sm_L sm_sh 4 (q_get_ S) 171 27 [(0, .ref 0), (1, sv_I x4), (2, sv_I x6), (3, sv_I r14)] [] (sv_sts S [5, 1011, 3, 4, 1007, 1075] g10)
  refine sv_aload_n hM dX12_get__27 rfl rfl ?_
  have k16 : (0 ≤ (g10 1075 0) ∧ (g10 1075 0) ≤ 1) := sm_okZ ok11 sm_r1075 0
  have h := h k16
  refine sv_getI hM dX12_get__28 sm_fl_794 (sm_a0 _) sm_k75 rfl (x := (g10 1075 0)) rfl ?_
  refine sv_cond_eq hM dX12_get__31 (sv_R01 k16) (t := 35) rfl rfl (fun hc => ?_) (fun hc => ?_)
  · have h := h.1 (hc)
    refine sv_iload_n hM dX12_get__35 rfl rfl ?_
    refine sv_iconst (d := (1 : Int)) hM dX12_get__36 rfl rfl ?_
    refine sv_icmp_gt hM dX12_get__37 e5r (⟨by decide, by decide⟩ : sv_R (1 : Int)) (t := 47) rfl rfl (fun hc => ?_) (fun hc => ?_)
    · have h := h.1 (hc)
      refine sv_iconst (d := (0 : Int)) hM dX12_get__47 rfl rfl ?_
      refine sv_istore hM dX12_get__48 (by decide) rfl ?_
      show sv_T sm_XS sm_cs sm_L sm_sh 4 (q_get_ S) 171 50 [(0, .ref 0), (1, sv_I x4), (2, sv_I x6), (3, sv_I r14), (4, sv_I (0 : Int))] [] (sv_sts S [5, 1011, 3, 4, 1007, 1075] g10)
      refine sv_iload_n hM dX12_get__50 rfl rfl ?_
      refine sv_bipush (d := (7 : Int)) hM dX12_get__51 rfl rfl ?_
      refine sv_icmp_ne hM dX12_get__53 e5r (⟨by decide, by decide⟩ : sv_R (7 : Int)) (t := 67) rfl rfl (fun hc => ?_) (fun hc => ?_)
      · have h := h.1 (hc)
        refine sv_iload_n hM dX12_get__67 rfl rfl ?_
        refine sv_bipush (d := (6 : Int)) hM dX12_get__68 rfl rfl ?_
        refine sv_icmp_eq hM dX12_get__70 e5r (⟨by decide, by decide⟩ : sv_R (6 : Int)) (t := 82) rfl rfl (fun hc => ?_) (fun hc => ?_)
        · have h := h.1 (hc)
          refine sv_iload_n hM dX12_get__82 rfl rfl ?_
          refine sv_cond_ne hM dX12_get__83 hr14 (t := 100) rfl rfl (fun hc => ?_) (fun hc => ?_)
          · have h := h.1 (hc)
            refine sv_aload_n hM dX12_get__100 rfl rfl ?_
            refine sv_iconst (d := (4 : Int)) hM dX12_get__101 rfl rfl ?_
            refine sv_iload_n hM dX12_get__102 rfl rfl ?_
            obtain ⟨o17, h⟩ := h
            refine sv_callV hM dX12_get__103 sm_iv_972 (by decide) (sm_a0 _) rfl rfl (Nat.le_of_ble_eq_true rfl) sm_h143 (Nat.le_of_ble_eq_true rfl) (Nat.le_of_ble_eq_true rfl) (F' := 1) (Nat.le_of_ble_eq_true rfl) rfl (t_read_ (4 : Int) r14 (sv_sts S [5, 1011, 3, 4, 1007, 1075] g10) ok11 (⟨by decide, by decide⟩ : sv_R (4 : Int)) hr14 o17) (fun v S1 hq => ?_)
            obtain ⟨r22, rfl, hr22, ok19, md20, hpo21⟩ := hq
            obtain ⟨g18, rfl⟩ : ∃ g, S1 = sv_sts (sv_sts S [5, 1011, 3, 4, 1007, 1075] g10) [1111, 1112] g := ⟨_, md20.eq⟩
            show sv_T sm_XS sm_cs sm_L sm_sh 4 (q_get_ S) 171 106 [(0, .ref 0), (1, sv_I x4), (2, sv_I x6), (3, sv_I r14), (4, sv_I (0 : Int))] [sv_I r22] (sv_sts (sv_sts S [5, 1011, 3, 4, 1007, 1075] g10) [1111, 1112] g18)
            have md23 : sv_mod [1076, 41, 42, 43, 44, 45, 46, 47, 1075, 1100029, 1092, 60, 58, 57, 63, 64, 1073, 1109, 1110, 1111, 1112, 5, 1011, 3, 4, 1007] S (sv_sts (sv_sts S [5, 1011, 3, 4, 1007, 1075] g10) [1111, 1112] g18) := sv_mod.sts md15 (by decide)
            have h := h r22 hr22 g18 hpo21
            refine sv_istore hM dX12_get__106 (by decide) rfl ?_
            show sv_T sm_XS sm_cs sm_L sm_sh 4 (q_get_ S) 171 108 [(0, .ref 0), (1, sv_I x4), (2, sv_I x6), (3, sv_I r14), (4, sv_I r22)] [] (sv_sts (sv_sts S [5, 1011, 3, 4, 1007, 1075] g10) [1111, 1112] g18)
            refine sv_aload_n hM dX12_get__108 rfl rfl ?_
            refine sv_iconst (d := (2 : Int)) hM dX12_get__109 rfl rfl ?_
            obtain ⟨o24, h⟩ := h
            refine sv_callV hM dX12_get__110 sm_iv_904 (by decide) (sm_a0 _) rfl rfl (Nat.le_of_ble_eq_true rfl) sm_h155 (Nat.le_of_ble_eq_true rfl) (Nat.le_of_ble_eq_true rfl) (F' := 2) (Nat.le_of_ble_eq_true rfl) rfl (t_gives (2 : Int) (sv_sts (sv_sts S [5, 1011, 3, 4, 1007, 1075] g10) [1111, 1112] g18) ok19 (⟨by decide, by decide⟩ : sv_R (2 : Int)) o24) (fun v S1 hq => ?_)
            obtain ⟨rfl, ok26, md27, hpo28⟩ := hq
            obtain ⟨g25, rfl⟩ : ∃ g, S1 = sv_sts (sv_sts (sv_sts S [5, 1011, 3, 4, 1007, 1075] g10) [1111, 1112] g18) [58, 63, 64, 57] g := ⟨_, md27.eq⟩
            show sv_T sm_XS sm_cs sm_L sm_sh 4 (q_get_ S) 171 113 [(0, .ref 0), (1, sv_I x4), (2, sv_I x6), (3, sv_I r14), (4, sv_I r22)] [] (sv_sts (sv_sts (sv_sts S [5, 1011, 3, 4, 1007, 1075] g10) [1111, 1112] g18) [58, 63, 64, 57] g25)
            have md29 : sv_mod [1076, 41, 42, 43, 44, 45, 46, 47, 1075, 1100029, 1092, 60, 58, 57, 63, 64, 1073, 1109, 1110, 1111, 1112, 5, 1011, 3, 4, 1007] S (sv_sts (sv_sts (sv_sts S [5, 1011, 3, 4, 1007, 1075] g10) [1111, 1112] g18) [58, 63, 64, 57] g25) := sv_mod.sts md23 (by decide)
            have h := h g25 hpo28
            exact sv_vret hM dX12_get__113 rfl ⟨rfl, ok26, md29, h⟩
          · have h := h.2 (hc)
            refine sv_aload_n hM dX12_get__86 rfl rfl ?_
            refine sv_iconst (d := (5 : Int)) hM dX12_get__87 rfl rfl ?_
            refine sv_aload_n hM dX12_get__88 rfl rfl ?_
            refine sv_getA hM dX12_get__89 sm_fl_20 (sm_a0 _) sm_k6 rfl ?_
            refine sv_iload_n hM dX12_get__92 rfl rfl ?_
            obtain ⟨o30, h⟩ := h
            have k31 : sv_R (g10 4 x6) := sm_okI ok11 sm_r4 x6
            have h := h k31
            refine sv_iald hM dX12_get__93 (sm_a4 _) (by decide) o30.1 o30.2 rfl (x := (g10 4 x6)) rfl ?_
            refine sv_callV hM dX12_get__94 sm_iv_822 (by decide) (sm_a0 _) rfl rfl (Nat.le_of_ble_eq_true rfl) sm_h122 (Nat.le_of_ble_eq_true rfl) (Nat.le_of_ble_eq_true rfl) (F' := 0) (Nat.le_of_ble_eq_true rfl) rfl (t_give_ (5 : Int) (g10 4 x6) (sv_sts S [5, 1011, 3, 4, 1007, 1075] g10) ok11 (⟨by decide, by decide⟩ : sv_R (5 : Int)) k31) (fun v S1 hq => ?_)
            obtain ⟨rfl, ok33, md34, hpo35⟩ := hq
            obtain ⟨g32, rfl⟩ : ∃ g, S1 = sv_sts (sv_sts S [5, 1011, 3, 4, 1007, 1075] g10) [1111, 1112] g := ⟨_, md34.eq⟩
            show sv_T sm_XS sm_cs sm_L sm_sh 4 (q_get_ S) 171 97 [(0, .ref 0), (1, sv_I x4), (2, sv_I x6), (3, sv_I r14), (4, sv_I (0 : Int))] [] (sv_sts (sv_sts S [5, 1011, 3, 4, 1007, 1075] g10) [1111, 1112] g32)
            have md36 : sv_mod [1076, 41, 42, 43, 44, 45, 46, 47, 1075, 1100029, 1092, 60, 58, 57, 63, 64, 1073, 1109, 1110, 1111, 1112, 5, 1011, 3, 4, 1007] S (sv_sts (sv_sts S [5, 1011, 3, 4, 1007, 1075] g10) [1111, 1112] g32) := sv_mod.sts md15 (by decide)
            have h := h g32 hpo35
            refine sv_goto hM dX12_get__97 (pc' := 108) rfl ?_
            refine sv_aload_n hM dX12_get__108 rfl rfl ?_
            refine sv_iconst (d := (2 : Int)) hM dX12_get__109 rfl rfl ?_
            obtain ⟨o37, h⟩ := h
            refine sv_callV hM dX12_get__110 sm_iv_904 (by decide) (sm_a0 _) rfl rfl (Nat.le_of_ble_eq_true rfl) sm_h155 (Nat.le_of_ble_eq_true rfl) (Nat.le_of_ble_eq_true rfl) (F' := 2) (Nat.le_of_ble_eq_true rfl) rfl (t_gives (2 : Int) (sv_sts (sv_sts S [5, 1011, 3, 4, 1007, 1075] g10) [1111, 1112] g32) ok33 (⟨by decide, by decide⟩ : sv_R (2 : Int)) o37) (fun v S1 hq => ?_)
            obtain ⟨rfl, ok39, md40, hpo41⟩ := hq
            obtain ⟨g38, rfl⟩ : ∃ g, S1 = sv_sts (sv_sts (sv_sts S [5, 1011, 3, 4, 1007, 1075] g10) [1111, 1112] g32) [58, 63, 64, 57] g := ⟨_, md40.eq⟩
            show sv_T sm_XS sm_cs sm_L sm_sh 4 (q_get_ S) 171 113 [(0, .ref 0), (1, sv_I x4), (2, sv_I x6), (3, sv_I r14), (4, sv_I (0 : Int))] [] (sv_sts (sv_sts (sv_sts S [5, 1011, 3, 4, 1007, 1075] g10) [1111, 1112] g32) [58, 63, 64, 57] g38)
            have md42 : sv_mod [1076, 41, 42, 43, 44, 45, 46, 47, 1075, 1100029, 1092, 60, 58, 57, 63, 64, 1073, 1109, 1110, 1111, 1112, 5, 1011, 3, 4, 1007] S (sv_sts (sv_sts (sv_sts S [5, 1011, 3, 4, 1007, 1075] g10) [1111, 1112] g32) [58, 63, 64, 57] g38) := sv_mod.sts md36 (by decide)
            have h := h g38 hpo41
            exact sv_vret hM dX12_get__113 rfl ⟨rfl, ok39, md42, h⟩
        · have h := h.2 (hc)
          refine sv_aload_n hM dX12_get__73 rfl rfl ?_
          refine sv_iconst (d := (0 : Int)) hM dX12_get__74 rfl rfl ?_
          refine sv_iconst (d := (0 : Int)) hM dX12_get__75 rfl rfl ?_
          refine sv_callV hM dX12_get__76 sm_iv_822 (by decide) (sm_a0 _) rfl rfl (Nat.le_of_ble_eq_true rfl) sm_h122 (Nat.le_of_ble_eq_true rfl) (Nat.le_of_ble_eq_true rfl) (F' := 0) (Nat.le_of_ble_eq_true rfl) rfl (t_give_ (0 : Int) (0 : Int) (sv_sts S [5, 1011, 3, 4, 1007, 1075] g10) ok11 (⟨by decide, by decide⟩ : sv_R (0 : Int)) (⟨by decide, by decide⟩ : sv_R (0 : Int))) (fun v S1 hq => ?_)
          obtain ⟨rfl, ok44, md45, hpo46⟩ := hq
          obtain ⟨g43, rfl⟩ : ∃ g, S1 = sv_sts (sv_sts S [5, 1011, 3, 4, 1007, 1075] g10) [1111, 1112] g := ⟨_, md45.eq⟩
          show sv_T sm_XS sm_cs sm_L sm_sh 4 (q_get_ S) 171 79 [(0, .ref 0), (1, sv_I x4), (2, sv_I x6), (3, sv_I r14), (4, sv_I (0 : Int))] [] (sv_sts (sv_sts S [5, 1011, 3, 4, 1007, 1075] g10) [1111, 1112] g43)
          have md47 : sv_mod [1076, 41, 42, 43, 44, 45, 46, 47, 1075, 1100029, 1092, 60, 58, 57, 63, 64, 1073, 1109, 1110, 1111, 1112, 5, 1011, 3, 4, 1007] S (sv_sts (sv_sts S [5, 1011, 3, 4, 1007, 1075] g10) [1111, 1112] g43) := sv_mod.sts md15 (by decide)
          have h := h g43 hpo46
          refine sv_goto hM dX12_get__79 (pc' := 108) rfl ?_
          refine sv_aload_n hM dX12_get__108 rfl rfl ?_
          refine sv_iconst (d := (2 : Int)) hM dX12_get__109 rfl rfl ?_
          obtain ⟨o48, h⟩ := h
          refine sv_callV hM dX12_get__110 sm_iv_904 (by decide) (sm_a0 _) rfl rfl (Nat.le_of_ble_eq_true rfl) sm_h155 (Nat.le_of_ble_eq_true rfl) (Nat.le_of_ble_eq_true rfl) (F' := 2) (Nat.le_of_ble_eq_true rfl) rfl (t_gives (2 : Int) (sv_sts (sv_sts S [5, 1011, 3, 4, 1007, 1075] g10) [1111, 1112] g43) ok44 (⟨by decide, by decide⟩ : sv_R (2 : Int)) o48) (fun v S1 hq => ?_)
          obtain ⟨rfl, ok50, md51, hpo52⟩ := hq
          obtain ⟨g49, rfl⟩ : ∃ g, S1 = sv_sts (sv_sts (sv_sts S [5, 1011, 3, 4, 1007, 1075] g10) [1111, 1112] g43) [58, 63, 64, 57] g := ⟨_, md51.eq⟩
          show sv_T sm_XS sm_cs sm_L sm_sh 4 (q_get_ S) 171 113 [(0, .ref 0), (1, sv_I x4), (2, sv_I x6), (3, sv_I r14), (4, sv_I (0 : Int))] [] (sv_sts (sv_sts (sv_sts S [5, 1011, 3, 4, 1007, 1075] g10) [1111, 1112] g43) [58, 63, 64, 57] g49)
          have md53 : sv_mod [1076, 41, 42, 43, 44, 45, 46, 47, 1075, 1100029, 1092, 60, 58, 57, 63, 64, 1073, 1109, 1110, 1111, 1112, 5, 1011, 3, 4, 1007] S (sv_sts (sv_sts (sv_sts S [5, 1011, 3, 4, 1007, 1075] g10) [1111, 1112] g43) [58, 63, 64, 57] g49) := sv_mod.sts md47 (by decide)
          have h := h g49 hpo52
          exact sv_vret hM dX12_get__113 rfl ⟨rfl, ok50, md53, h⟩
      · have h := h.2 (hc)
        refine sv_aload_n hM dX12_get__56 rfl rfl ?_
        refine sv_iload_n hM dX12_get__57 rfl rfl ?_
        refine sv_iload_n hM dX12_get__58 rfl rfl ?_
        obtain ⟨o54, h⟩ := h
        refine sv_callV hM dX12_get__59 sm_iv_972 (by decide) (sm_a0 _) rfl rfl (Nat.le_of_ble_eq_true rfl) sm_h143 (Nat.le_of_ble_eq_true rfl) (Nat.le_of_ble_eq_true rfl) (F' := 1) (Nat.le_of_ble_eq_true rfl) rfl (t_read_ x6 r14 (sv_sts S [5, 1011, 3, 4, 1007, 1075] g10) ok11 e7r hr14 o54) (fun v S1 hq => ?_)
        obtain ⟨r59, rfl, hr59, ok56, md57, hpo58⟩ := hq
        obtain ⟨g55, rfl⟩ : ∃ g, S1 = sv_sts (sv_sts S [5, 1011, 3, 4, 1007, 1075] g10) [1111, 1112] g := ⟨_, md57.eq⟩
        show sv_T sm_XS sm_cs sm_L sm_sh 4 (q_get_ S) 171 62 [(0, .ref 0), (1, sv_I x4), (2, sv_I x6), (3, sv_I r14), (4, sv_I (0 : Int))] [sv_I r59] (sv_sts (sv_sts S [5, 1011, 3, 4, 1007, 1075] g10) [1111, 1112] g55)
        have md60 : sv_mod [1076, 41, 42, 43, 44, 45, 46, 47, 1075, 1100029, 1092, 60, 58, 57, 63, 64, 1073, 1109, 1110, 1111, 1112, 5, 1011, 3, 4, 1007] S (sv_sts (sv_sts S [5, 1011, 3, 4, 1007, 1075] g10) [1111, 1112] g55) := sv_mod.sts md15 (by decide)
        have h := h r59 hr59 g55 hpo58
        refine sv_istore hM dX12_get__62 (by decide) rfl ?_
        show sv_T sm_XS sm_cs sm_L sm_sh 4 (q_get_ S) 171 64 [(0, .ref 0), (1, sv_I x4), (2, sv_I x6), (3, sv_I r14), (4, sv_I r59)] [] (sv_sts (sv_sts S [5, 1011, 3, 4, 1007, 1075] g10) [1111, 1112] g55)
        refine sv_goto hM dX12_get__64 (pc' := 108) rfl ?_
        refine sv_aload_n hM dX12_get__108 rfl rfl ?_
        refine sv_iconst (d := (2 : Int)) hM dX12_get__109 rfl rfl ?_
        obtain ⟨o61, h⟩ := h
        refine sv_callV hM dX12_get__110 sm_iv_904 (by decide) (sm_a0 _) rfl rfl (Nat.le_of_ble_eq_true rfl) sm_h155 (Nat.le_of_ble_eq_true rfl) (Nat.le_of_ble_eq_true rfl) (F' := 2) (Nat.le_of_ble_eq_true rfl) rfl (t_gives (2 : Int) (sv_sts (sv_sts S [5, 1011, 3, 4, 1007, 1075] g10) [1111, 1112] g55) ok56 (⟨by decide, by decide⟩ : sv_R (2 : Int)) o61) (fun v S1 hq => ?_)
        obtain ⟨rfl, ok63, md64, hpo65⟩ := hq
        obtain ⟨g62, rfl⟩ : ∃ g, S1 = sv_sts (sv_sts (sv_sts S [5, 1011, 3, 4, 1007, 1075] g10) [1111, 1112] g55) [58, 63, 64, 57] g := ⟨_, md64.eq⟩
        show sv_T sm_XS sm_cs sm_L sm_sh 4 (q_get_ S) 171 113 [(0, .ref 0), (1, sv_I x4), (2, sv_I x6), (3, sv_I r14), (4, sv_I r59)] [] (sv_sts (sv_sts (sv_sts S [5, 1011, 3, 4, 1007, 1075] g10) [1111, 1112] g55) [58, 63, 64, 57] g62)
        have md66 : sv_mod [1076, 41, 42, 43, 44, 45, 46, 47, 1075, 1100029, 1092, 60, 58, 57, 63, 64, 1073, 1109, 1110, 1111, 1112, 5, 1011, 3, 4, 1007] S (sv_sts (sv_sts (sv_sts S [5, 1011, 3, 4, 1007, 1075] g10) [1111, 1112] g55) [58, 63, 64, 57] g62) := sv_mod.sts md60 (by decide)
        have h := h g62 hpo65
        exact sv_vret hM dX12_get__113 rfl ⟨rfl, ok63, md66, h⟩
    · have h := h.2 (hc)
      refine sv_aload_n hM dX12_get__40 rfl rfl ?_
      refine sv_bipush (d := (6 : Int)) hM dX12_get__41 rfl rfl ?_
      obtain ⟨o67, h⟩ := h
      refine sv_callV hM dX12_get__43 sm_iv_966 (by decide) (sm_a0 _) rfl rfl (Nat.le_of_ble_eq_true rfl) sm_h157 (Nat.le_of_ble_eq_true rfl) (Nat.le_of_ble_eq_true rfl) (F' := 3) (Nat.le_of_ble_eq_true rfl) rfl (t_error (6 : Int) (sv_sts S [5, 1011, 3, 4, 1007, 1075] g10) ok11 (⟨by decide, by decide⟩ : sv_R (6 : Int)) o67) (fun v S1 hq => ?_)
      obtain ⟨rfl, ok69, md70, hpo71⟩ := hq
      obtain ⟨g68, rfl⟩ : ∃ g, S1 = sv_sts (sv_sts S [5, 1011, 3, 4, 1007, 1075] g10) [1076, 41, 42, 43, 44, 45, 46, 47, 1075, 1100029, 1092, 60, 58, 57, 63, 64, 1073, 1109, 1110] g := ⟨_, md70.eq⟩
      show sv_T sm_XS sm_cs sm_L sm_sh 4 (q_get_ S) 171 46 [(0, .ref 0), (1, sv_I x4), (2, sv_I x6), (3, sv_I r14)] [] (sv_sts (sv_sts S [5, 1011, 3, 4, 1007, 1075] g10) [1076, 41, 42, 43, 44, 45, 46, 47, 1075, 1100029, 1092, 60, 58, 57, 63, 64, 1073, 1109, 1110] g68)
      have md72 : sv_mod [1076, 41, 42, 43, 44, 45, 46, 47, 1075, 1100029, 1092, 60, 58, 57, 63, 64, 1073, 1109, 1110, 1111, 1112, 5, 1011, 3, 4, 1007] S (sv_sts (sv_sts S [5, 1011, 3, 4, 1007, 1075] g10) [1076, 41, 42, 43, 44, 45, 46, 47, 1075, 1100029, 1092, 60, 58, 57, 63, 64, 1073, 1109, 1110] g68) := sv_mod.sts md15 (by decide)
      have h := h g68 hpo71
      exact sv_vret hM dX12_get__46 rfl ⟨rfl, ok69, md72, h⟩
  · have h := h.2 (hc)
    exact sv_vret hM dX12_get__34 rfl ⟨rfl, ok11, md15, h⟩
def q_within (p1 : Int) (p2 : Int) (p3 : Int) (p4 : Int) (S : sv_S) : Option Value → sv_S → Prop := fun v S' => v = none ∧ sm_ok S' ∧ sv_mod [1076, 41, 42, 43, 44, 45, 46, 47, 1075, 1100029, 1092, 60, 58, 57, 63, 64, 1073, 1109, 1110, 1111, 1112, 5, 1011, 3, 4, 1007] S S' ∧ (sm_PL (S' 1100020) (S' 51) (S' 52) (S' 46) (S' 47) (S' 1076 0) (S' 1086 0) ∧ sm_FR (S' 1100020) (S' 52) (S' 1100021) (S' 1100022) (3000 - (S' 1084 0)) (S' 1085 0) ∧ sm_PV (S' 1100020) (S' 48) (S' 49) (S' 50) (S' 44) (S' 1076 0) (S' 1007 0) ∧ sm_AL (S' 1100020) (S' 48) (S' 49) (S' 50) (S' 44) (S' 1076 0) (S' 1100032 0) ∧ sm_SV (S' 1100020) (S' 48) (S' 1100029) (S' 32) (S' 33) (S' 1076 0) (S' 1032 0) ∧ 0 ≤ (S' 1076 0) ∧ (S' 1076 0) ≤ 300 ∧ 0 ≤ (S' 1084 0) ∧ (S' 1084 0) ≤ 3000 ∧ 0 ≤ (S' 1086 0) ∧ sm_SC (S' 1100029) (S' 44) (S' 45) (S' 43) (S' 21) (S' 1076 0) (S' 1032 0) ∧ sm_PO (S' 42) (S' 1076 0) ∧ ((S' 1075 0) = 0 → (S' 1100032 0) = -1 ∧ sm_FO (S' 44) (S' 45) (S' 1076 0)) ∧ 23 ≤ (S' 1076 0) ∧ 31 ≤ (S' 1007 0) ∧ (S' 1007 0) ≤ 400 ∧ sm_LN (S' 4) 400 (S' 1007 0) ∧ (S' 1008 0) ≤ (S' 1007 0) ∧ ((S 1075 0) = 1 → (S' 1075 0) = 1) ∧ 0 ≤ (S' 1092 0) ∧ (S' 1092 0) ≤ 24 ∧ (S 1007 0) ≤ (S' 1007 0) ∧ (¬ (S' 1075 0) = 0 → sm_LX (S' 58) (S' 63) (S' 64) (S' 1092 0) (S' 1076 0)) ∧ ((S' 1075 0) = 0 → (S' 1073 0) = 1 → 1 ≤ (S' 1092 0) ∧ (S' 1092 0) ≤ 24 ∧ 0 ≤ (S' 57 ((S' 1092 0) - 1)) ∧ (S' 57 ((S' 1092 0) - 1)) < (S' 1046 0) ∧ (S' 29 (S' 57 ((S' 1092 0) - 1))) = (S' 53 ((S' 1092 0) - 1)) ∧ 0 ≤ (S' 53 ((S' 1092 0) - 1)) ∧ (S' 53 ((S' 1092 0) - 1)) < (S' 1032 0) ∧ (S' 60 ((S' 1092 0) - 1)) = sm_dp (S' 1100024) (S' 1100023 (S' 57 ((S' 1092 0) - 1))) ∧ sm_TC (S' 61) (S' 62) (S' 27) (S' 1100007) (S' 1100023) (S' 1100024) (40 * ((S' 1092 0) - 1)) (S' 1100023 (S' 57 ((S' 1092 0) - 1))) ∧ sm_LK (S' 1100029) (S' 1076 0) (S' 54 ((S' 1092 0) - 1)) (S' 53 ((S' 1092 0) - 1)) ∧ sm_VO (S' 44) (S' 1076 0) (S' 1007 0) ((S' 55 ((S' 1092 0) - 1))) ((S' 56 ((S' 1092 0) - 1))) ∧ sm_FW (S' 44) (S' 1076 0) (S' 59 ((S' 1092 0) - 1)) ∧ sm_FL (S' 53) (S' 54) (S' 55) (S' 56) (S' 57) (S' 58) (S' 59) (S' 60) (S' 61) (S' 62) (S' 63) (S' 64) (S' 27) (S' 29) (S' 1100007) (S' 1100023) (S' 1100024) (S' 1100025) (S' 26) (S' 1100029) (S' 44) (S' 1046 0) (S' 1032 0) (S' 1076 0) (S' 1007 0) (((S' 1092 0) - 1)) ∧ (S' 58 ((S' 1092 0) - 1)) = (S' 1100007 (S' 57 ((S' 1092 0) - 1))) ∧ sm_SK (S' 63) (S' 64) (S' 44) (S' 1100007) (S' 1100025) (S' 1076 0) (S' 1007 0) (400 * ((S' 1092 0) - 1)) ((S' 58 ((S' 1092 0) - 1))) ((S' 1100025 (S' 57 ((S' 1092 0) - 1))))) ∧ ((S' 1073 0) = 1 ∨ (S' 1092 0) = 0 ∧ (S' 1075 0) = 0 ∧ ((S' 1073 0) = 2 ∨ (S' 1073 0) = 3)))
theorem la_within_0 {x0 : Int} (h0 : x0 = 0) : ¬ x0 = 1 := by omega
theorem la_within_1 {x0 : Int} (h0 : x0 = 7) : ¬ x0 = 6 := by omega
theorem la_within_2 {x0 x1 : Int} (h0 : 23 ≤ x0) (h1 : 0 ≤ x1) (h2 : x1 < x0) : 2 ≤ x0 ∧ 0 ≤ x1 ∧ x1 < x0 := by omega
theorem la_within_3 {x0 x1 : Int} (h0 : x0 < x1) (h1 : x1 ≤ 400) : x0 < 400 := by omega
theorem la_within_4 {x0 : Int} (h0 : x0 = 0 ∨ x0 = 1) : 0 ≤ x0 := by omega
theorem la_within_5 {x0 : Int} (h0 : x0 = 0 ∨ x0 = 1) : x0 ≤ 1 := by omega
theorem la_within_6 {x0 x1 : Int} (h0 : 31 ≤ x0) (h1 : x0 ≤ x1) : 31 ≤ x1 := by omega
theorem la_within_7 {x0 x1 x2 : Int} (h0 : x0 ≤ x1) (h1 : x1 ≤ x2) : x0 ≤ x2 := by omega
theorem la_within_8 {x0 : Int} : x0 ≤ x0 := by omega
theorem la_within_9 : (0 : Int) ≤ 2 := by omega
theorem la_within_10 {x0 : Int} (h0 : x0 ≤ 396) : x0 - 2 ≤ 399 := by omega
theorem la_within_11 {x0 : Int} (h0 : x0 = 2 ∨ x0 = 3) : 0 ≤ x0 := by omega
theorem la_within_12 {x0 : Int} (h0 : x0 = 2 ∨ x0 = 3) : x0 ≤ 7 := by omega
theorem la_within_13 {x0 x1 x2 x3 : Int} (h0 : 31 ≤ x0) (h1 : x0 ≤ x1) (h2 : x2 = 0) : x3 = 6 → 0 ≤ x2 ∧ x2 < x1 := by omega
theorem la_within_14 {x0 x1 x2 x3 : Int} (h0 : 23 ≤ x0) (h1 : x1 = 2 ∨ x1 = 3) (h2 : x2 = 0) : x1 = 7 → 0 ≤ x2 ∧ x2 < x0 ∧ ¬ x3 = 3 := by omega
theorem la_within_15 {x0 x1 : Int} (h0 : x0 = x1 + (-1)) : x0 = x1 - 2 + 1 := by omega
theorem la_within_16 {x0 : Int} (h0 : x0 = 0) : x0 ≤ 0 := by omega
theorem la_within_17 {x0 : Int} (h0 : x0 ≤ 0) (h1 : ¬ x0 = 0) : x0 < 0 := by omega
theorem la_within_18 {x0 x1 : Int} (h0 : 0 ≤ x0) (h1 : x0 < 0) : x1 = 6 := by omega
theorem la_within_19 {x0 x1 : Int} (h0 : x0 ≤ 7) (h1 : 0 ≤ x1) (h2 : x1 < 0) : x0 = 7 := by omega
theorem la_within_20 {x0 x1 : Int} (h0 : 0 ≤ x0) (h1 : x0 = 0) (h2 : x0 < 0) : x1 = 5 := by omega
theorem la_within_21 {x0 x1 : Int} (h0 : 0 ≤ x0) (h1 : x0 < 0) : x1 = 7 := by omega
theorem la_within_22 {x0 x1 : Int} (h0 : 0 ≤ x0) (h1 : x0 < 0) : x1 ≤ 100 := by omega
theorem la_within_23 {x0 : Int} (h0 : 0 ≤ x0) (h1 : x0 = 0) : ¬ ¬ x0 = 0 := by omega
theorem la_within_24 {x0 : Int} (h0 : 1 ≤ x0) : 0 ≤ x0 := by omega
theorem la_within_25 {x0 x1 x2 : Int} (h0 : x0 = 1) (h1 : 1 ≤ x1) (h2 : 0 ≤ x2) (h3 : x2 = 0) : x0 = 1 ∨ x1 = 0 ∧ x2 = 0 ∧ (x0 = 2 ∨ x0 = 3) := by omega
theorem la_within_26 {x0 : Int} (h0 : x0 ≤ 7) (h1 : ¬ x0 = 7) : x0 < 7 := by omega
theorem la_within_27 {x0 x1 : Int} (h0 : 0 ≤ x0) (h1 : x1 = x0) : 0 ≤ x1 := by omega
theorem la_within_28 {x0 x1 x2 : Int} (h0 : x0 = x1) (h1 : x1 + 1 < x2) : x0 < x2 := by omega
theorem la_within_29 {x0 x1 x2 : Int} (h0 : x0 = x1) (h1 : x2 = x0) : x2 = x1 := by omega
theorem la_within_30 {x0 x1 x2 : Int} (h0 : x0 = x1) (h1 : x2 = x1) : x0 = x2 := by omega
theorem la_within_31 {x0 x1 : Int} (h0 : x0 = x1) : x1 = x0 := by omega
theorem la_within_32 {x0 : Int} : x0 = x0 - 1 + 1 := by omega
theorem la_within_33 {x0 x1 x2 : Int} (h0 : x0 = x1) (h1 : x2 = x1) : x2 = x0 := by omega
theorem la_within_34 {x0 x1 : Int} (h0 : 0 ≤ x0) (h1 : x0 = x1) : 0 ≤ x1 := by omega
theorem la_within_35 {x0 x1 x2 : Int} (h0 : x0 ≤ x1) (h1 : x2 = x0) : x2 ≤ x1 := by omega
theorem la_within_36 : (6 : Int) ≤ 6 := by omega
theorem la_within_37 : (6 : Int) ≤ 8 := by omega
theorem la_within_38 {x0 x1 : Int} (h0 : x0 = 0) : x0 = 1 → x1 = 1 := by omega
theorem la_within_39 {x0 : Int} (h0 : 0 ≤ x0) (h1 : ¬ x0 = 0) : 0 < x0 := by omega
theorem la_within_40 {x0 x1 : Int} (h0 : 0 < x0) (h1 : x0 = 0) : x1 = 6 := by omega
theorem la_within_41 {x0 x1 : Int} (h0 : x0 ≤ 7) (h1 : 0 < x1) (h2 : x1 = 0) : x0 = 7 := by omega
theorem la_within_42 {x0 x1 : Int} (h0 : 0 < x0) (h1 : x0 = 0) : x1 = 5 := by omega
theorem la_within_43 {x0 x1 : Int} (h0 : 0 < x0) (h1 : x0 = 0) : x1 ≤ 100 := by omega
theorem la_within_44 {x0 x1 x2 : Int} (h0 : x0 = 1) (h1 : 1 ≤ x1) (h2 : 0 < x2) : x0 = 1 ∨ x1 = 0 ∧ x2 = 0 ∧ (x0 = 2 ∨ x0 = 3) := by omega
set_option maxHeartbeats 2000000 in
theorem f_within : ∀ (p1 : Int) (p2 : Int) (p3 : Int) (p4 : Int) (S : sv_S), sm_ok S → sv_R p1 → sv_R p2 → sv_R p3 → sv_R p4 → ((S 1075 0) = 0 ∧ (S 1073 0) = 1 ∧ sm_LX (S 58) (S 63) (S 64) (S 1092 0) (S 1076 0) ∧ sm_PL (S 1100020) (S 51) (S 52) (S 46) (S 47) (S 1076 0) (S 1086 0) ∧ sm_FR (S 1100020) (S 52) (S 1100021) (S 1100022) (3000 - (S 1084 0)) (S 1085 0) ∧ sm_PV (S 1100020) (S 48) (S 49) (S 50) (S 44) (S 1076 0) (S 1007 0) ∧ sm_AL (S 1100020) (S 48) (S 49) (S 50) (S 44) (S 1076 0) (S 1100032 0) ∧ sm_SV (S 1100020) (S 48) (S 1100029) (S 32) (S 33) (S 1076 0) (S 1032 0) ∧ 0 ≤ (S 1076 0) ∧ (S 1076 0) ≤ 300 ∧ 0 ≤ (S 1084 0) ∧ (S 1084 0) ≤ 3000 ∧ 0 ≤ (S 1086 0) ∧ sm_SC (S 1100029) (S 44) (S 45) (S 43) (S 21) (S 1076 0) (S 1032 0) ∧ sm_PO (S 42) (S 1076 0) ∧ (S 1100032 0) = -1 ∧ sm_FO (S 44) (S 45) (S 1076 0) ∧ 23 ≤ (S 1076 0) ∧ 31 ≤ (S 1007 0) ∧ (S 1007 0) ≤ 400 ∧ sm_LN (S 4) 400 (S 1007 0) ∧ sm_CT (S 26) (S 27) (S 28) (S 29) (S 1100007) (S 1100023) (S 1100024) (S 1100025) (S 21) (S 1046 0) (S 1032 0) (S 1008 0) (S 1055 0) ∧ sm_LS (S 26) (S 1100007) (S 1100025) (S 1046 0) ∧ sm_CL (S 1100007) (S 1100023) (S 1100025) (S 1046 0) ∧ 1 ≤ (S 1032 0) ∧ (S 1032 0) ≤ 11 ∧ 0 ≤ (S 1046 0) ∧ (S 1046 0) ≤ 600 ∧ 31 ≤ (S 1008 0) ∧ (S 1008 0) ≤ (S 1007 0) ∧ 0 ≤ (S 1055 0) ∧ (S 1055 0) ≤ 19 ∧ 1 ≤ (S 1092 0) ∧ (S 1092 0) ≤ 24 ∧ 0 ≤ (S 1100033 0) ∧ (S 1100033 0) < (S 1046 0) ∧ (S 29 (S 1100033 0)) = (S 53 ((S 1092 0) - 1)) ∧ 0 ≤ (S 53 ((S 1092 0) - 1)) ∧ (S 53 ((S 1092 0) - 1)) < (S 1032 0) ∧ (S 60 ((S 1092 0) - 1)) = sm_dp (S 1100024) (S 1100023 (S 1100033 0)) ∧ sm_TC (S 61) (S 62) (S 27) (S 1100007) (S 1100023) (S 1100024) (40 * ((S 1092 0) - 1)) (S 1100023 (S 1100033 0)) ∧ sm_LK (S 1100029) (S 1076 0) (S 54 ((S 1092 0) - 1)) (S 53 ((S 1092 0) - 1)) ∧ sm_VO (S 44) (S 1076 0) (S 1007 0) ((S 55 ((S 1092 0) - 1))) ((S 56 ((S 1092 0) - 1))) ∧ sm_FW (S 44) (S 1076 0) (S 59 ((S 1092 0) - 1)) ∧ sm_FL (S 53) (S 54) (S 55) (S 56) (S 57) (S 58) (S 59) (S 60) (S 61) (S 62) (S 63) (S 64) (S 27) (S 29) (S 1100007) (S 1100023) (S 1100024) (S 1100025) (S 26) (S 1100029) (S 44) (S 1046 0) (S 1032 0) (S 1076 0) (S 1007 0) (((S 1092 0) - 1)) ∧ (S 57 ((S 1092 0) - 1)) = (S 1100033 0) ∧ 0 ≤ (S 58 ((S 1092 0) - 1)) ∧ (S 58 ((S 1092 0) - 1)) ≤ 400 ∧ sm_SK (S 63) (S 64) (S 44) (S 1100007) (S 1100025) (S 1076 0) (S 1007 0) (400 * ((S 1092 0) - 1)) ((S 58 ((S 1092 0) - 1))) ((S 1100034 0)) ∧ -1 ≤ (S 1100034 0) ∧ (S 1100034 0) < (S 1046 0) ∧ (0 ≤ (S 1100034 0) → (S 26 (S 1100034 0)) = 29) ∧ (S 58 ((S 1092 0) - 1)) = (S 1100007 (S 1100033 0)) ∧ (S 1100034 0) = (S 1100025 (S 1100033 0)) ∧ (0 ≤ (S 1100023 (S 1100033 0)) → (S 1100007 (S 1100023 (S 1100033 0))) ≤ (S 58 ((S 1092 0) - 1))) ∧ (S 58 ((S 1092 0) - 1)) ≤ 396 ∧ 2 ≤ (S 58 ((S 1092 0) - 1)) ∧ (0 ≤ (S 1100034 0) → (S 1100007 (S 1100034 0)) ≤ (S 58 ((S 1092 0) - 1)) - 2) ∧ (S 1100033 0) + 1 < (S 1046 0) ∧ (S 29 ((S 1100033 0) + 1)) = (S 29 (S 1100033 0)) ∧ (S 1100007 ((S 1100033 0) + 1)) = (S 58 ((S 1092 0) - 1)) + (-1) ∧ (S 1100023 ((S 1100033 0) + 1)) = (S 1100023 (S 1100033 0)) ∧ (S 1100025 ((S 1100033 0) + 1)) = (S 1100034 0) ∧ sm_VO (S 44) (S 1076 0) (S 1007 0) (p1) (p2) ∧ sm_VO (S 44) (S 1076 0) (S 1007 0) (p3) (p4)) → (31 ≤ (S 1007 0) ∧ (S 1007 0) ≤ 400 ∧ sm_LN (S 4) 400 (S 1007 0) ∧ (p1 = 6 → 0 ≤ p2 ∧ p2 < (S 1007 0))) ∧ (∀ r6 : Int, sv_R r6 → ∀ g2 : sv_S, (0 ≤ r6 ∧ r6 < (g2 1007 0) ∧ (p1 = 5 → 0 ≤ p2 → p2 ≤ 100 → (g2 1075 0) = 0 → (g2 4 r6) ≤ 3) ∧ (S 1007 0) ≤ (g2 1007 0) ∧ (g2 1007 0) ≤ 400 ∧ sm_LN (g2 4) 400 (g2 1007 0) ∧ ((S 1075 0) = 1 → (g2 1075 0) = 1)) → ((0 ≤ (g2 1075 0) ∧ (g2 1075 0) ≤ 1) → ((((g2 1075 0) = (0 : Int)) → (((p3 = (7 : Int)) → (sm_PL (S 1100020) (S 51) (S 52) (S 46) (S 47) (S 1076 0) (S 1086 0) ∧ sm_FR (S 1100020) (S 52) (S 1100021) (S 1100022) (3000 - (S 1084 0)) (S 1085 0) ∧ sm_PV (S 1100020) (S 48) (S 49) (S 50) (S 44) (S 1076 0) (g2 1007 0) ∧ sm_AL (S 1100020) (S 48) (S 49) (S 50) (S 44) (S 1076 0) (S 1100032 0) ∧ sm_SV (S 1100020) (S 48) (S 1100029) (S 32) (S 33) (S 1076 0) (S 1032 0) ∧ 0 ≤ (S 1076 0) ∧ (S 1076 0) ≤ 300 ∧ 0 ≤ (S 1084 0) ∧ (S 1084 0) ≤ 3000 ∧ 0 ≤ (S 1086 0) ∧ sm_SC (S 1100029) (S 44) (S 45) (S 43) (S 21) (S 1076 0) (S 1032 0) ∧ sm_PO (S 42) (S 1076 0) ∧ 2 ≤ (S 1076 0) ∧ 0 ≤ p4 ∧ p4 < (S 1076 0)) ∧ (∀ r14 : Int, sv_R r14 → ∀ g10 : sv_S, ((r14 = 0 ∨ r14 = 1) ∧ sm_VO (S 44) (S 1076 0) (g2 1007 0) ((g10 1111 0)) ((g10 1112 0))) → (0 ≤ r14 ∧ r14 ≤ 1) ∧ (∀ g17 : sv_S, (((g17 1111 0) = 2 ∨ (g17 1111 0) = 3) ∧ (g17 1112 0) = 0) → (((g2 1075 0) = 0 → (S 1073 0) = 1 → sm_PL (S 1100020) (S 51) (S 52) (S 46) (S 47) (S 1076 0) (S 1086 0) ∧ sm_FR (S 1100020) (S 52) (S 1100021) (S 1100022) (3000 - (S 1084 0)) (S 1085 0) ∧ sm_PV (S 1100020) (S 48) (S 49) (S 50) (S 44) (S 1076 0) (g2 1007 0) ∧ sm_AL (S 1100020) (S 48) (S 49) (S 50) (S 44) (S 1076 0) (S 1100032 0) ∧ sm_SV (S 1100020) (S 48) (S 1100029) (S 32) (S 33) (S 1076 0) (S 1032 0) ∧ 0 ≤ (S 1076 0) ∧ (S 1076 0) ≤ 300 ∧ 0 ≤ (S 1084 0) ∧ (S 1084 0) ≤ 3000 ∧ 0 ≤ (S 1086 0) ∧ sm_SC (S 1100029) (S 44) (S 45) (S 43) (S 21) (S 1076 0) (S 1032 0) ∧ sm_PO (S 42) (S 1076 0) ∧ (S 1100032 0) = -1 ∧ sm_FO (S 44) (S 45) (S 1076 0) ∧ 23 ≤ (S 1076 0) ∧ 31 ≤ (g2 1007 0) ∧ (g2 1007 0) ≤ 400 ∧ sm_LN (g2 4) 400 (g2 1007 0) ∧ sm_CT (S 26) (S 27) (S 28) (S 29) (S 1100007) (S 1100023) (S 1100024) (S 1100025) (S 21) (S 1046 0) (S 1032 0) (S 1008 0) (S 1055 0) ∧ sm_LS (S 26) (S 1100007) (S 1100025) (S 1046 0) ∧ sm_CL (S 1100007) (S 1100023) (S 1100025) (S 1046 0) ∧ 1 ≤ (S 1032 0) ∧ (S 1032 0) ≤ 11 ∧ 0 ≤ (S 1046 0) ∧ (S 1046 0) ≤ 600 ∧ 31 ≤ (S 1008 0) ∧ (S 1008 0) ≤ (g2 1007 0) ∧ 0 ≤ (S 1055 0) ∧ (S 1055 0) ≤ 19 ∧ 1 ≤ (S 1092 0) ∧ (S 1092 0) ≤ 24 ∧ 0 ≤ (S 1100033 0) ∧ (S 1100033 0) < (S 1046 0) ∧ (S 29 (S 1100033 0)) = (S 53 ((S 1092 0) - 1)) ∧ 0 ≤ (S 53 ((S 1092 0) - 1)) ∧ (S 53 ((S 1092 0) - 1)) < (S 1032 0) ∧ (S 60 ((S 1092 0) - 1)) = sm_dp (S 1100024) (S 1100023 (S 1100033 0)) ∧ sm_TC (S 61) (S 62) (S 27) (S 1100007) (S 1100023) (S 1100024) (40 * ((S 1092 0) - 1)) (S 1100023 (S 1100033 0)) ∧ sm_LK (S 1100029) (S 1076 0) (S 54 ((S 1092 0) - 1)) (S 53 ((S 1092 0) - 1)) ∧ sm_VO (S 44) (S 1076 0) (g2 1007 0) ((S 55 ((S 1092 0) - 1))) ((S 56 ((S 1092 0) - 1))) ∧ sm_FW (S 44) (S 1076 0) (S 59 ((S 1092 0) - 1)) ∧ sm_FL (S 53) (S 54) (S 55) (S 56) (S 57) (S 58) (S 59) (S 60) (S 61) (S 62) (S 63) (S 64) (S 27) (S 29) (S 1100007) (S 1100023) (S 1100024) (S 1100025) (S 26) (S 1100029) (S 44) (S 1046 0) (S 1032 0) (S 1076 0) (g2 1007 0) (((S 1092 0) - 1)) ∧ (S 57 ((S 1092 0) - 1)) = (S 1100033 0) ∧ 0 ≤ (S 58 ((S 1092 0) - 1)) ∧ (S 58 ((S 1092 0) - 1)) ≤ 400 ∧ sm_SK (S 63) (S 64) (S 44) (S 1100007) (S 1100025) (S 1076 0) (g2 1007 0) (400 * ((S 1092 0) - 1)) ((S 58 ((S 1092 0) - 1))) ((S 1100034 0)) ∧ -1 ≤ (S 1100034 0) ∧ (S 1100034 0) < (S 1046 0) ∧ (0 ≤ (S 1100034 0) → (S 26 (S 1100034 0)) = 29) ∧ 0 ≤ (2 : Int) ∧ (2 : Int) ≤ (S 58 ((S 1092 0) - 1)) ∧ (S 58 ((S 1092 0) - 1)) - (2 : Int) ≤ 399 ∧ sm_VO (S 44) (S 1076 0) (g2 1007 0) ((g17 1111 0)) ((g17 1112 0)) ∧ (0 ≤ (S 1100034 0) → (S 1100007 (S 1100034 0)) ≤ (S 58 ((S 1092 0) - 1)) - (2 : Int)) ∧ (S 1100033 0) + 1 < (S 1046 0) ∧ (S 29 ((S 1100033 0) + 1)) = (S 29 (S 1100033 0)) ∧ (S 1100007 ((S 1100033 0) + 1)) = (S 58 ((S 1092 0) - 1)) - (2 : Int) + 1 ∧ (S 1100023 ((S 1100033 0) + 1)) = (S 1100023 (S 1100033 0)) ∧ (S 1100025 ((S 1100033 0) + 1)) = (S 1100034 0)) ∧ (¬ (g2 1075 0) = 0 → sm_LX (S 58) (S 63) (S 64) (S 1092 0) (S 1076 0))) ∧ (∀ g23 : sv_S, (((g2 1075 0) = 0 → (S 1073 0) = 1 → 1 ≤ (S 1092 0) ∧ (S 1092 0) ≤ 24 ∧ 0 ≤ (g23 57 ((S 1092 0) - 1)) ∧ (g23 57 ((S 1092 0) - 1)) < (S 1046 0) ∧ (S 29 (g23 57 ((S 1092 0) - 1))) = (S 53 ((S 1092 0) - 1)) ∧ 0 ≤ (S 53 ((S 1092 0) - 1)) ∧ (S 53 ((S 1092 0) - 1)) < (S 1032 0) ∧ (S 60 ((S 1092 0) - 1)) = sm_dp (S 1100024) (S 1100023 (g23 57 ((S 1092 0) - 1))) ∧ sm_TC (S 61) (S 62) (S 27) (S 1100007) (S 1100023) (S 1100024) (40 * ((S 1092 0) - 1)) (S 1100023 (g23 57 ((S 1092 0) - 1))) ∧ sm_LK (S 1100029) (S 1076 0) (S 54 ((S 1092 0) - 1)) (S 53 ((S 1092 0) - 1)) ∧ sm_VO (S 44) (S 1076 0) (g2 1007 0) ((S 55 ((S 1092 0) - 1))) ((S 56 ((S 1092 0) - 1))) ∧ sm_FW (S 44) (S 1076 0) (S 59 ((S 1092 0) - 1)) ∧ sm_FL (S 53) (S 54) (S 55) (S 56) (g23 57) (g23 58) (S 59) (S 60) (S 61) (S 62) (g23 63) (g23 64) (S 27) (S 29) (S 1100007) (S 1100023) (S 1100024) (S 1100025) (S 26) (S 1100029) (S 44) (S 1046 0) (S 1032 0) (S 1076 0) (g2 1007 0) (((S 1092 0) - 1)) ∧ (g23 58 ((S 1092 0) - 1)) = (S 1100007 (g23 57 ((S 1092 0) - 1))) ∧ sm_SK (g23 63) (g23 64) (S 44) (S 1100007) (S 1100025) (S 1076 0) (g2 1007 0) (400 * ((S 1092 0) - 1)) ((g23 58 ((S 1092 0) - 1))) ((S 1100025 (g23 57 ((S 1092 0) - 1))))) ∧ (¬ (g2 1075 0) = 0 → sm_LX (g23 58) (g23 63) (g23 64) (S 1092 0) (S 1076 0))) → (sm_PL (S 1100020) (S 51) (S 52) (S 46) (S 47) (S 1076 0) (S 1086 0) ∧ sm_FR (S 1100020) (S 52) (S 1100021) (S 1100022) (3000 - (S 1084 0)) (S 1085 0) ∧ sm_PV (S 1100020) (S 48) (S 49) (S 50) (S 44) (S 1076 0) (g2 1007 0) ∧ sm_AL (S 1100020) (S 48) (S 49) (S 50) (S 44) (S 1076 0) (S 1100032 0) ∧ sm_SV (S 1100020) (S 48) (S 1100029) (S 32) (S 33) (S 1076 0) (S 1032 0) ∧ 0 ≤ (S 1076 0) ∧ (S 1076 0) ≤ 300 ∧ 0 ≤ (S 1084 0) ∧ (S 1084 0) ≤ 3000 ∧ 0 ≤ (S 1086 0) ∧ sm_SC (S 1100029) (S 44) (S 45) (S 43) (S 21) (S 1076 0) (S 1032 0) ∧ sm_PO (S 42) (S 1076 0) ∧ ((g2 1075 0) = 0 → (S 1100032 0) = -1 ∧ sm_FO (S 44) (S 45) (S 1076 0)) ∧ 23 ≤ (S 1076 0) ∧ 31 ≤ (g2 1007 0) ∧ (g2 1007 0) ≤ 400 ∧ sm_LN (g2 4) 400 (g2 1007 0) ∧ (S 1008 0) ≤ (g2 1007 0) ∧ ((S 1075 0) = 1 → (g2 1075 0) = 1) ∧ 0 ≤ (S 1092 0) ∧ (S 1092 0) ≤ 24 ∧ (S 1007 0) ≤ (g2 1007 0) ∧ (¬ (g2 1075 0) = 0 → sm_LX (g23 58) (g23 63) (g23 64) (S 1092 0) (S 1076 0)) ∧ ((g2 1075 0) = 0 → (S 1073 0) = 1 → 1 ≤ (S 1092 0) ∧ (S 1092 0) ≤ 24 ∧ 0 ≤ (g23 57 ((S 1092 0) - 1)) ∧ (g23 57 ((S 1092 0) - 1)) < (S 1046 0) ∧ (S 29 (g23 57 ((S 1092 0) - 1))) = (S 53 ((S 1092 0) - 1)) ∧ 0 ≤ (S 53 ((S 1092 0) - 1)) ∧ (S 53 ((S 1092 0) - 1)) < (S 1032 0) ∧ (S 60 ((S 1092 0) - 1)) = sm_dp (S 1100024) (S 1100023 (g23 57 ((S 1092 0) - 1))) ∧ sm_TC (S 61) (S 62) (S 27) (S 1100007) (S 1100023) (S 1100024) (40 * ((S 1092 0) - 1)) (S 1100023 (g23 57 ((S 1092 0) - 1))) ∧ sm_LK (S 1100029) (S 1076 0) (S 54 ((S 1092 0) - 1)) (S 53 ((S 1092 0) - 1)) ∧ sm_VO (S 44) (S 1076 0) (g2 1007 0) ((S 55 ((S 1092 0) - 1))) ((S 56 ((S 1092 0) - 1))) ∧ sm_FW (S 44) (S 1076 0) (S 59 ((S 1092 0) - 1)) ∧ sm_FL (S 53) (S 54) (S 55) (S 56) (g23 57) (g23 58) (S 59) (S 60) (S 61) (S 62) (g23 63) (g23 64) (S 27) (S 29) (S 1100007) (S 1100023) (S 1100024) (S 1100025) (S 26) (S 1100029) (S 44) (S 1046 0) (S 1032 0) (S 1076 0) (g2 1007 0) (((S 1092 0) - 1)) ∧ (g23 58 ((S 1092 0) - 1)) = (S 1100007 (g23 57 ((S 1092 0) - 1))) ∧ sm_SK (g23 63) (g23 64) (S 44) (S 1100007) (S 1100025) (S 1076 0) (g2 1007 0) (400 * ((S 1092 0) - 1)) ((g23 58 ((S 1092 0) - 1))) ((S 1100025 (g23 57 ((S 1092 0) - 1))))) ∧ ((S 1073 0) = 1 ∨ (S 1092 0) = 0 ∧ (g2 1075 0) = 0 ∧ ((S 1073 0) = 2 ∨ (S 1073 0) = 3))))))) ∧ ((¬ (p3 = (7 : Int))) → ((g2 1075 0) = 0 ∧ (S 1073 0) = 1 ∧ sm_LX (S 58) (S 63) (S 64) (S 1092 0) (S 1076 0) ∧ sm_PL (S 1100020) (S 51) (S 52) (S 46) (S 47) (S 1076 0) (S 1086 0) ∧ sm_FR (S 1100020) (S 52) (S 1100021) (S 1100022) (3000 - (S 1084 0)) (S 1085 0) ∧ sm_PV (S 1100020) (S 48) (S 49) (S 50) (S 44) (S 1076 0) (g2 1007 0) ∧ sm_AL (S 1100020) (S 48) (S 49) (S 50) (S 44) (S 1076 0) (S 1100032 0) ∧ sm_SV (S 1100020) (S 48) (S 1100029) (S 32) (S 33) (S 1076 0) (S 1032 0) ∧ 0 ≤ (S 1076 0) ∧ (S 1076 0) ≤ 300 ∧ 0 ≤ (S 1084 0) ∧ (S 1084 0) ≤ 3000 ∧ 0 ≤ (S 1086 0) ∧ sm_SC (S 1100029) (S 44) (S 45) (S 43) (S 21) (S 1076 0) (S 1032 0) ∧ sm_PO (S 42) (S 1076 0) ∧ (S 1100032 0) = -1 ∧ sm_FO (S 44) (S 45) (S 1076 0) ∧ 23 ≤ (S 1076 0) ∧ 31 ≤ (g2 1007 0) ∧ (g2 1007 0) ≤ 400 ∧ sm_LN (g2 4) 400 (g2 1007 0) ∧ sm_CT (S 26) (S 27) (S 28) (S 29) (S 1100007) (S 1100023) (S 1100024) (S 1100025) (S 21) (S 1046 0) (S 1032 0) (S 1008 0) (S 1055 0) ∧ sm_LS (S 26) (S 1100007) (S 1100025) (S 1046 0) ∧ sm_CL (S 1100007) (S 1100023) (S 1100025) (S 1046 0) ∧ 1 ≤ (S 1032 0) ∧ (S 1032 0) ≤ 11 ∧ 0 ≤ (S 1046 0) ∧ (S 1046 0) ≤ 600 ∧ 31 ≤ (S 1008 0) ∧ (S 1008 0) ≤ (g2 1007 0) ∧ 0 ≤ (S 1055 0) ∧ (S 1055 0) ≤ 19 ∧ 1 ≤ (S 1092 0) ∧ (S 1092 0) ≤ 24 ∧ 0 ≤ (S 57 ((S 1092 0) - 1)) ∧ (S 57 ((S 1092 0) - 1)) < (S 1046 0) ∧ (S 29 (S 57 ((S 1092 0) - 1))) = (S 53 ((S 1092 0) - 1)) ∧ 0 ≤ (S 53 ((S 1092 0) - 1)) ∧ (S 53 ((S 1092 0) - 1)) < (S 1032 0) ∧ (S 60 ((S 1092 0) - 1)) = sm_dp (S 1100024) (S 1100023 (S 57 ((S 1092 0) - 1))) ∧ sm_TC (S 61) (S 62) (S 27) (S 1100007) (S 1100023) (S 1100024) (40 * ((S 1092 0) - 1)) (S 1100023 (S 57 ((S 1092 0) - 1))) ∧ sm_LK (S 1100029) (S 1076 0) (S 54 ((S 1092 0) - 1)) (S 53 ((S 1092 0) - 1)) ∧ sm_VO (S 44) (S 1076 0) (g2 1007 0) ((S 55 ((S 1092 0) - 1))) ((S 56 ((S 1092 0) - 1))) ∧ sm_FW (S 44) (S 1076 0) (S 59 ((S 1092 0) - 1)) ∧ sm_FL (S 53) (S 54) (S 55) (S 56) (S 57) (S 58) (S 59) (S 60) (S 61) (S 62) (S 63) (S 64) (S 27) (S 29) (S 1100007) (S 1100023) (S 1100024) (S 1100025) (S 26) (S 1100029) (S 44) (S 1046 0) (S 1032 0) (S 1076 0) (g2 1007 0) (((S 1092 0) - 1)) ∧ (S 58 ((S 1092 0) - 1)) = (S 1100007 (S 57 ((S 1092 0) - 1))) ∧ sm_SK (S 63) (S 64) (S 44) (S 1100007) (S 1100025) (S 1076 0) (g2 1007 0) (400 * ((S 1092 0) - 1)) ((S 58 ((S 1092 0) - 1))) ((S 1100025 (S 57 ((S 1092 0) - 1)))) ∧ (0 ≤ (S 1100023 (S 57 ((S 1092 0) - 1))) → (S 1100007 (S 1100023 (S 57 ((S 1092 0) - 1)))) ≤ (S 58 ((S 1092 0) - 1))) ∧ 6 ≤ (6 : Int) ∧ (6 : Int) ≤ 8) ∧ (∀ g29 : sv_S, (sm_PL (S 1100020) (S 51) (S 52) (g29 46) (g29 47) (g29 1076 0) (S 1086 0) ∧ sm_FR (S 1100020) (S 52) (S 1100021) (S 1100022) (3000 - (S 1084 0)) (S 1085 0) ∧ sm_PV (S 1100020) (S 48) (S 49) (S 50) (g29 44) (g29 1076 0) (g2 1007 0) ∧ sm_AL (S 1100020) (S 48) (S 49) (S 50) (g29 44) (g29 1076 0) (S 1100032 0) ∧ sm_SV (S 1100020) (S 48) (g29 1100029) (S 32) (S 33) (g29 1076 0) (S 1032 0) ∧ 0 ≤ (g29 1076 0) ∧ (g29 1076 0) ≤ 300 ∧ 0 ≤ (S 1084 0) ∧ (S 1084 0) ≤ 3000 ∧ 0 ≤ (S 1086 0) ∧ sm_SC (g29 1100029) (g29 44) (g29 45) (g29 43) (S 21) (g29 1076 0) (S 1032 0) ∧ sm_PO (g29 42) (g29 1076 0) ∧ ((g29 1075 0) = 0 → (S 1100032 0) = -1 ∧ sm_FO (g29 44) (g29 45) (g29 1076 0)) ∧ 23 ≤ (g29 1076 0) ∧ 31 ≤ (g2 1007 0) ∧ (g2 1007 0) ≤ 400 ∧ sm_LN (g2 4) 400 (g2 1007 0) ∧ (S 1008 0) ≤ (g2 1007 0) ∧ ((g2 1075 0) = 1 → (g29 1075 0) = 1) ∧ 0 ≤ (g29 1092 0) ∧ (g29 1092 0) ≤ 24 ∧ (g2 1007 0) ≤ (g2 1007 0) ∧ (¬ (g29 1075 0) = 0 → sm_LX (g29 58) (g29 63) (g29 64) (g29 1092 0) (g29 1076 0)) ∧ ((g29 1075 0) = 0 → (g29 1073 0) = 1 → 1 ≤ (g29 1092 0) ∧ (g29 1092 0) ≤ 24 ∧ 0 ≤ (g29 57 ((g29 1092 0) - 1)) ∧ (g29 57 ((g29 1092 0) - 1)) < (S 1046 0) ∧ (S 29 (g29 57 ((g29 1092 0) - 1))) = (S 53 ((g29 1092 0) - 1)) ∧ 0 ≤ (S 53 ((g29 1092 0) - 1)) ∧ (S 53 ((g29 1092 0) - 1)) < (S 1032 0) ∧ (g29 60 ((g29 1092 0) - 1)) = sm_dp (S 1100024) (S 1100023 (g29 57 ((g29 1092 0) - 1))) ∧ sm_TC (S 61) (S 62) (S 27) (S 1100007) (S 1100023) (S 1100024) (40 * ((g29 1092 0) - 1)) (S 1100023 (g29 57 ((g29 1092 0) - 1))) ∧ sm_LK (g29 1100029) (g29 1076 0) (S 54 ((g29 1092 0) - 1)) (S 53 ((g29 1092 0) - 1)) ∧ sm_VO (g29 44) (g29 1076 0) (g2 1007 0) ((S 55 ((g29 1092 0) - 1))) ((S 56 ((g29 1092 0) - 1))) ∧ sm_FW (g29 44) (g29 1076 0) (S 59 ((g29 1092 0) - 1)) ∧ sm_FL (S 53) (S 54) (S 55) (S 56) (g29 57) (g29 58) (S 59) (g29 60) (S 61) (S 62) (g29 63) (g29 64) (S 27) (S 29) (S 1100007) (S 1100023) (S 1100024) (S 1100025) (S 26) (g29 1100029) (g29 44) (S 1046 0) (S 1032 0) (g29 1076 0) (g2 1007 0) (((g29 1092 0) - 1)) ∧ (g29 58 ((g29 1092 0) - 1)) = (S 1100007 (g29 57 ((g29 1092 0) - 1))) ∧ sm_SK (g29 63) (g29 64) (g29 44) (S 1100007) (S 1100025) (g29 1076 0) (g2 1007 0) (400 * ((g29 1092 0) - 1)) ((g29 58 ((g29 1092 0) - 1))) ((S 1100025 (g29 57 ((g29 1092 0) - 1))))) ∧ ((g29 1073 0) = 1 ∨ (g29 1092 0) = 0 ∧ (g29 1075 0) = 0 ∧ ((g29 1073 0) = 2 ∨ (g29 1073 0) = 3)) ∧ ((g29 1073 0) = 1 ∨ (g29 1073 0) = 3)) → (sm_PL (S 1100020) (S 51) (S 52) (g29 46) (g29 47) (g29 1076 0) (S 1086 0) ∧ sm_FR (S 1100020) (S 52) (S 1100021) (S 1100022) (3000 - (S 1084 0)) (S 1085 0) ∧ sm_PV (S 1100020) (S 48) (S 49) (S 50) (g29 44) (g29 1076 0) (g2 1007 0) ∧ sm_AL (S 1100020) (S 48) (S 49) (S 50) (g29 44) (g29 1076 0) (S 1100032 0) ∧ sm_SV (S 1100020) (S 48) (g29 1100029) (S 32) (S 33) (g29 1076 0) (S 1032 0) ∧ 0 ≤ (g29 1076 0) ∧ (g29 1076 0) ≤ 300 ∧ 0 ≤ (S 1084 0) ∧ (S 1084 0) ≤ 3000 ∧ 0 ≤ (S 1086 0) ∧ sm_SC (g29 1100029) (g29 44) (g29 45) (g29 43) (S 21) (g29 1076 0) (S 1032 0) ∧ sm_PO (g29 42) (g29 1076 0) ∧ ((g29 1075 0) = 0 → (S 1100032 0) = -1 ∧ sm_FO (g29 44) (g29 45) (g29 1076 0)) ∧ 23 ≤ (g29 1076 0) ∧ 31 ≤ (g2 1007 0) ∧ (g2 1007 0) ≤ 400 ∧ sm_LN (g2 4) 400 (g2 1007 0) ∧ (S 1008 0) ≤ (g2 1007 0) ∧ ((S 1075 0) = 1 → (g29 1075 0) = 1) ∧ 0 ≤ (g29 1092 0) ∧ (g29 1092 0) ≤ 24 ∧ (S 1007 0) ≤ (g2 1007 0) ∧ (¬ (g29 1075 0) = 0 → sm_LX (g29 58) (g29 63) (g29 64) (g29 1092 0) (g29 1076 0)) ∧ ((g29 1075 0) = 0 → (g29 1073 0) = 1 → 1 ≤ (g29 1092 0) ∧ (g29 1092 0) ≤ 24 ∧ 0 ≤ (g29 57 ((g29 1092 0) - 1)) ∧ (g29 57 ((g29 1092 0) - 1)) < (S 1046 0) ∧ (S 29 (g29 57 ((g29 1092 0) - 1))) = (S 53 ((g29 1092 0) - 1)) ∧ 0 ≤ (S 53 ((g29 1092 0) - 1)) ∧ (S 53 ((g29 1092 0) - 1)) < (S 1032 0) ∧ (g29 60 ((g29 1092 0) - 1)) = sm_dp (S 1100024) (S 1100023 (g29 57 ((g29 1092 0) - 1))) ∧ sm_TC (S 61) (S 62) (S 27) (S 1100007) (S 1100023) (S 1100024) (40 * ((g29 1092 0) - 1)) (S 1100023 (g29 57 ((g29 1092 0) - 1))) ∧ sm_LK (g29 1100029) (g29 1076 0) (S 54 ((g29 1092 0) - 1)) (S 53 ((g29 1092 0) - 1)) ∧ sm_VO (g29 44) (g29 1076 0) (g2 1007 0) ((S 55 ((g29 1092 0) - 1))) ((S 56 ((g29 1092 0) - 1))) ∧ sm_FW (g29 44) (g29 1076 0) (S 59 ((g29 1092 0) - 1)) ∧ sm_FL (S 53) (S 54) (S 55) (S 56) (g29 57) (g29 58) (S 59) (g29 60) (S 61) (S 62) (g29 63) (g29 64) (S 27) (S 29) (S 1100007) (S 1100023) (S 1100024) (S 1100025) (S 26) (g29 1100029) (g29 44) (S 1046 0) (S 1032 0) (g29 1076 0) (g2 1007 0) (((g29 1092 0) - 1)) ∧ (g29 58 ((g29 1092 0) - 1)) = (S 1100007 (g29 57 ((g29 1092 0) - 1))) ∧ sm_SK (g29 63) (g29 64) (g29 44) (S 1100007) (S 1100025) (g29 1076 0) (g2 1007 0) (400 * ((g29 1092 0) - 1)) ((g29 58 ((g29 1092 0) - 1))) ((S 1100025 (g29 57 ((g29 1092 0) - 1))))) ∧ ((g29 1073 0) = 1 ∨ (g29 1092 0) = 0 ∧ (g29 1075 0) = 0 ∧ ((g29 1073 0) = 2 ∨ (g29 1073 0) = 3))))))) ∧ ((¬ ((g2 1075 0) = (0 : Int))) → (sm_PL (S 1100020) (S 51) (S 52) (S 46) (S 47) (S 1076 0) (S 1086 0) ∧ sm_FR (S 1100020) (S 52) (S 1100021) (S 1100022) (3000 - (S 1084 0)) (S 1085 0) ∧ sm_PV (S 1100020) (S 48) (S 49) (S 50) (S 44) (S 1076 0) (g2 1007 0) ∧ sm_AL (S 1100020) (S 48) (S 49) (S 50) (S 44) (S 1076 0) (S 1100032 0) ∧ sm_SV (S 1100020) (S 48) (S 1100029) (S 32) (S 33) (S 1076 0) (S 1032 0) ∧ 0 ≤ (S 1076 0) ∧ (S 1076 0) ≤ 300 ∧ 0 ≤ (S 1084 0) ∧ (S 1084 0) ≤ 3000 ∧ 0 ≤ (S 1086 0) ∧ sm_SC (S 1100029) (S 44) (S 45) (S 43) (S 21) (S 1076 0) (S 1032 0) ∧ sm_PO (S 42) (S 1076 0) ∧ ((g2 1075 0) = 0 → (S 1100032 0) = -1 ∧ sm_FO (S 44) (S 45) (S 1076 0)) ∧ 23 ≤ (S 1076 0) ∧ 31 ≤ (g2 1007 0) ∧ (g2 1007 0) ≤ 400 ∧ sm_LN (g2 4) 400 (g2 1007 0) ∧ (S 1008 0) ≤ (g2 1007 0) ∧ ((S 1075 0) = 1 → (g2 1075 0) = 1) ∧ 0 ≤ (S 1092 0) ∧ (S 1092 0) ≤ 24 ∧ (S 1007 0) ≤ (g2 1007 0) ∧ (¬ (g2 1075 0) = 0 → sm_LX (S 58) (S 63) (S 64) (S 1092 0) (S 1076 0)) ∧ ((g2 1075 0) = 0 → (S 1073 0) = 1 → 1 ≤ (S 1092 0) ∧ (S 1092 0) ≤ 24 ∧ 0 ≤ (S 57 ((S 1092 0) - 1)) ∧ (S 57 ((S 1092 0) - 1)) < (S 1046 0) ∧ (S 29 (S 57 ((S 1092 0) - 1))) = (S 53 ((S 1092 0) - 1)) ∧ 0 ≤ (S 53 ((S 1092 0) - 1)) ∧ (S 53 ((S 1092 0) - 1)) < (S 1032 0) ∧ (S 60 ((S 1092 0) - 1)) = sm_dp (S 1100024) (S 1100023 (S 57 ((S 1092 0) - 1))) ∧ sm_TC (S 61) (S 62) (S 27) (S 1100007) (S 1100023) (S 1100024) (40 * ((S 1092 0) - 1)) (S 1100023 (S 57 ((S 1092 0) - 1))) ∧ sm_LK (S 1100029) (S 1076 0) (S 54 ((S 1092 0) - 1)) (S 53 ((S 1092 0) - 1)) ∧ sm_VO (S 44) (S 1076 0) (g2 1007 0) ((S 55 ((S 1092 0) - 1))) ((S 56 ((S 1092 0) - 1))) ∧ sm_FW (S 44) (S 1076 0) (S 59 ((S 1092 0) - 1)) ∧ sm_FL (S 53) (S 54) (S 55) (S 56) (S 57) (S 58) (S 59) (S 60) (S 61) (S 62) (S 63) (S 64) (S 27) (S 29) (S 1100007) (S 1100023) (S 1100024) (S 1100025) (S 26) (S 1100029) (S 44) (S 1046 0) (S 1032 0) (S 1076 0) (g2 1007 0) (((S 1092 0) - 1)) ∧ (S 58 ((S 1092 0) - 1)) = (S 1100007 (S 57 ((S 1092 0) - 1))) ∧ sm_SK (S 63) (S 64) (S 44) (S 1100007) (S 1100025) (S 1076 0) (g2 1007 0) (400 * ((S 1092 0) - 1)) ((S 58 ((S 1092 0) - 1))) ((S 1100025 (S 57 ((S 1092 0) - 1))))) ∧ ((S 1073 0) = 1 ∨ (S 1092 0) = 0 ∧ (g2 1075 0) = 0 ∧ ((S 1073 0) = 2 ∨ (S 1073 0) = 3))))))) := by
  intro p1
  intro p2
  intro p3
  intro p4
  intro S
  intro h1_
  intro h2_
  intro h3_
  intro h4_
  intro h5_
  rintro ⟨h6_, ⟨h7_, ⟨h8_, ⟨h9_, ⟨h10_, ⟨h11_, ⟨h12_, ⟨h13_, ⟨h14_, ⟨h15_, ⟨h16_, ⟨h17_, ⟨h18_, ⟨h19_, ⟨h20_, ⟨h21_, ⟨h22_, ⟨h23_, ⟨h24_, ⟨h25_, ⟨h26_, ⟨h27_, ⟨h28_, ⟨h29_, ⟨h30_, ⟨h31_, ⟨h32_, ⟨h33_, ⟨h34_, ⟨h35_, ⟨h36_, ⟨h37_, ⟨h38_, ⟨h39_, ⟨h40_, ⟨h41_, ⟨h42_, ⟨h43_, ⟨h44_, ⟨h45_, ⟨h46_, ⟨h47_, ⟨h48_, ⟨h49_, ⟨h50_, ⟨h51_, ⟨h52_, ⟨h53_, ⟨h54_, ⟨h55_, ⟨h56_, ⟨h57_, ⟨h58_, ⟨h59_, ⟨h60_, ⟨h61_, ⟨h62_, ⟨h63_, ⟨h64_, ⟨h65_, ⟨h66_, ⟨h67_, ⟨h68_, ⟨h69_, h70_⟩⟩⟩⟩⟩⟩⟩⟩⟩⟩⟩⟩⟩⟩⟩⟩⟩⟩⟩⟩⟩⟩⟩⟩⟩⟩⟩⟩⟩⟩⟩⟩⟩⟩⟩⟩⟩⟩⟩⟩⟩⟩⟩⟩⟩⟩⟩⟩⟩⟩⟩⟩⟩⟩⟩⟩⟩⟩⟩⟩⟩⟩⟩⟩
  refine ⟨⟨h24_, ⟨h25_, ⟨h26_, (sm_VO_e h69_).2.2.1⟩⟩⟩, ?_⟩
  intro r6
  intro h71_
  intro g2
  rintro ⟨h72_, ⟨h73_, ⟨h74_, ⟨h75_, ⟨h76_, ⟨h77_, h78_⟩⟩⟩⟩⟩⟩
  rintro ⟨h79_, h80_⟩
  refine ⟨?_, ?_⟩
  · skip
    intro h81_
    refine ⟨?_, ?_⟩
    · skip
      intro h82_
      obtain ⟨h83_, ⟨h84_, h85_⟩⟩ := ((sm_VO_e h70_).2.2.2 h82_)
      refine ⟨⟨h9_, ⟨h10_, ⟨(sm_PV_m h11_ (Int.le_refl _) h75_ sm_F1_rf), ⟨h12_, ⟨h13_, ⟨h14_, ⟨h15_, ⟨h16_, ⟨h17_, ⟨h18_, ⟨h19_, ⟨h20_, (la_within_2 h23_ h83_ h84_)⟩⟩⟩⟩⟩⟩⟩⟩⟩⟩⟩⟩, ?_⟩
      intro r14
      intro h86_
      intro g10
      rintro ⟨h87_, h88_⟩
      refine ⟨?_, ?_⟩
      · skip
        refine ⟨?_, ?_⟩
        · skip
          exact (la_within_4 h87_)
        exact (la_within_5 h87_)
      intro g17
      rintro ⟨h89_, h90_⟩
      refine ⟨?_, ?_⟩
      · skip
        refine ⟨?_, ?_⟩
        · skip
          intro h91_
          intro h92_
          refine ⟨h9_, ?_⟩
          refine ⟨h10_, ?_⟩
          refine ⟨(sm_PV_m h11_ (Int.le_refl _) h75_ sm_F1_rf), ?_⟩
          refine ⟨h12_, ?_⟩
          refine ⟨h13_, ?_⟩
          refine ⟨h14_, ?_⟩
          refine ⟨h15_, ?_⟩
          refine ⟨h16_, ?_⟩
          refine ⟨h17_, ?_⟩
          refine ⟨h18_, ?_⟩
          refine ⟨h19_, ?_⟩
          refine ⟨h20_, ?_⟩
          refine ⟨h21_, ?_⟩
          refine ⟨h22_, ?_⟩
          refine ⟨h23_, ?_⟩
          refine ⟨(la_within_6 h24_ h75_), ?_⟩
          refine ⟨h76_, ?_⟩
          refine ⟨h77_, ?_⟩
          refine ⟨h27_, ?_⟩
          refine ⟨h28_, ?_⟩
          refine ⟨h29_, ?_⟩
          refine ⟨h30_, ?_⟩
          refine ⟨h31_, ?_⟩
          refine ⟨h32_, ?_⟩
          refine ⟨h33_, ?_⟩
          refine ⟨h34_, ?_⟩
          refine ⟨(la_within_7 h35_ h75_), ?_⟩
          refine ⟨h36_, ?_⟩
          refine ⟨h37_, ?_⟩
          refine ⟨h38_, ?_⟩
          refine ⟨h39_, ?_⟩
          refine ⟨h40_, ?_⟩
          refine ⟨h41_, ?_⟩
          refine ⟨h42_, ?_⟩
          refine ⟨h43_, ?_⟩
          refine ⟨h44_, ?_⟩
          refine ⟨h45_, ?_⟩
          refine ⟨h46_, ?_⟩
          refine ⟨h47_, ?_⟩
          refine ⟨(sm_VO_m h48_ (Int.le_refl _) h75_ sm_F1_rf), ?_⟩
          refine ⟨h49_, ?_⟩
          refine ⟨(sm_FL_F h50_ sm_F1_rf sm_F1_rf sm_F1_rf sm_F1_rf sm_F1_rf sm_F1_rf sm_F1_rf sm_F1_rf sm_F1_rf sm_F1_rf sm_F1_rf sm_F1_rf (Int.le_refl _) h75_ sm_F1_rf sm_F1_rf (sm_FL_dp h50_ h27_)), ?_⟩
          refine ⟨h51_, ?_⟩
          refine ⟨h52_, ?_⟩
          refine ⟨h53_, ?_⟩
          refine ⟨(sm_SK_m h54_ (Int.le_refl _) h75_ sm_F1_rf), ?_⟩
          refine ⟨h55_, ?_⟩
          refine ⟨h56_, ?_⟩
          refine ⟨h57_, ?_⟩
          refine ⟨la_within_9, ?_⟩
          refine ⟨h62_, ?_⟩
          refine ⟨(la_within_10 h61_), ?_⟩
          refine ⟨(sm_VO_i (la_within_11 h89_) (la_within_12 h89_) (la_within_13 h24_ h75_ h90_) (la_within_14 h23_ h89_ h90_)), ?_⟩
          refine ⟨h63_, ?_⟩
          refine ⟨h64_, ?_⟩
          refine ⟨h65_, ?_⟩
          refine ⟨(la_within_15 h66_), ?_⟩
          refine ⟨h67_, ?_⟩
          exact h68_
        intro h93_
        obtain ⟨h94_, h95_⟩ := ((sm_VO_e h48_).2.2.1 (la_within_18 h79_ (la_within_17 (la_within_16 h81_) h93_)))
        obtain ⟨h96_, ⟨h97_, h98_⟩⟩ := ((sm_VO_e h48_).2.2.2 (la_within_19 (sm_VO_e h48_).2.1 h79_ (la_within_17 (la_within_16 h81_) h93_)))
        obtain ⟨h99_, h100_⟩ := ((sm_VO_e h69_).2.2.1 (la_within_18 h79_ (la_within_17 (la_within_16 h81_) h93_)))
        obtain ⟨h101_, ⟨h102_, h103_⟩⟩ := ((sm_VO_e h69_).2.2.2 (la_within_19 (sm_VO_e h69_).2.1 h79_ (la_within_17 (la_within_16 h81_) h93_)))
        have h104_ := (h74_ (la_within_20 h79_ h81_ (la_within_17 (la_within_16 h81_) h93_)))
        obtain ⟨h105_, h106_⟩ := ((sm_VO_e h88_).2.2.1 (la_within_18 h79_ (la_within_17 (la_within_16 h81_) h93_)))
        obtain ⟨h107_, ⟨h108_, h109_⟩⟩ := ((sm_VO_e h88_).2.2.2 (la_within_21 h79_ (la_within_17 (la_within_16 h81_) h93_)))
        have h110_ := (h104_ h99_)
        have h111_ := (h110_ (la_within_22 h79_ (la_within_17 (la_within_16 h81_) h93_)))
        have h112_ := (h111_ h81_)
        exact h8_
      intro g23
      rintro ⟨h113_, h114_⟩
      have h115_ := (h113_ h81_)
      obtain ⟨h116_, ⟨h117_, ⟨h118_, ⟨h119_, ⟨h120_, ⟨h121_, ⟨h122_, ⟨h123_, ⟨h124_, ⟨h125_, ⟨h126_, ⟨h127_, ⟨h128_, ⟨h129_, h130_⟩⟩⟩⟩⟩⟩⟩⟩⟩⟩⟩⟩⟩⟩ := (h115_ h7_)
      refine ⟨h9_, ?_⟩
      refine ⟨h10_, ?_⟩
      refine ⟨(sm_PV_m h11_ (Int.le_refl _) h75_ sm_F1_rf), ?_⟩
      refine ⟨h12_, ?_⟩
      refine ⟨h13_, ?_⟩
      refine ⟨h14_, ?_⟩
      refine ⟨h15_, ?_⟩
      refine ⟨h16_, ?_⟩
      refine ⟨h17_, ?_⟩
      refine ⟨h18_, ?_⟩
      refine ⟨h19_, ?_⟩
      refine ⟨h20_, ?_⟩
      refine ⟨?_, ?_⟩
      · skip
        intro h131_
        refine ⟨h21_, ?_⟩
        exact h22_
      refine ⟨h23_, ?_⟩
      refine ⟨(la_within_6 h24_ h75_), ?_⟩
      refine ⟨h76_, ?_⟩
      refine ⟨h77_, ?_⟩
      refine ⟨(la_within_7 h35_ h75_), ?_⟩
      refine ⟨h78_, ?_⟩
      refine ⟨(la_within_24 h38_), ?_⟩
      refine ⟨h39_, ?_⟩
      refine ⟨h75_, ?_⟩
      refine ⟨h114_, ?_⟩
      refine ⟨h113_, ?_⟩
      exact (la_within_25 h7_ h38_ h79_ h81_)
    intro h132_
    refine ⟨?_, ?_⟩
    · skip
      refine ⟨h81_, ?_⟩
      refine ⟨h7_, ?_⟩
      refine ⟨h8_, ?_⟩
      refine ⟨h9_, ?_⟩
      refine ⟨h10_, ?_⟩
      refine ⟨(sm_PV_m h11_ (Int.le_refl _) h75_ sm_F1_rf), ?_⟩
      refine ⟨h12_, ?_⟩
      refine ⟨h13_, ?_⟩
      refine ⟨h14_, ?_⟩
      refine ⟨h15_, ?_⟩
      refine ⟨h16_, ?_⟩
      refine ⟨h17_, ?_⟩
      refine ⟨h18_, ?_⟩
      refine ⟨h19_, ?_⟩
      refine ⟨h20_, ?_⟩
      refine ⟨h21_, ?_⟩
      refine ⟨h22_, ?_⟩
      refine ⟨h23_, ?_⟩
      refine ⟨(la_within_6 h24_ h75_), ?_⟩
      refine ⟨h76_, ?_⟩
      refine ⟨h77_, ?_⟩
      refine ⟨h27_, ?_⟩
      refine ⟨h28_, ?_⟩
      refine ⟨h29_, ?_⟩
      refine ⟨h30_, ?_⟩
      refine ⟨h31_, ?_⟩
      refine ⟨h32_, ?_⟩
      refine ⟨h33_, ?_⟩
      refine ⟨h34_, ?_⟩
      refine ⟨(la_within_7 h35_ h75_), ?_⟩
      refine ⟨h36_, ?_⟩
      refine ⟨h37_, ?_⟩
      refine ⟨h38_, ?_⟩
      refine ⟨h39_, ?_⟩
      refine ⟨(la_within_27 h40_ h51_), ?_⟩
      refine ⟨(la_within_28 h51_ h64_), ?_⟩
      refine ⟨?_, ?_⟩
      · skip
        have e133_ : S 29 (S 57 (S 1092 0 - 1)) = S 29 (S 1100033 0) := congrArg ((S 29)) h51_
        exact (la_within_29 h42_ e133_)
      refine ⟨h43_, ?_⟩
      refine ⟨h44_, ?_⟩
      refine ⟨?_, ?_⟩
      · skip
        have e134_ : S 1100023 (S 57 (S 1092 0 - 1)) = S 1100023 (S 1100033 0) := congrArg ((S 1100023)) h51_
        have e135_ : sm_dp (S 1100024) (S 1100023 (S 57 (S 1092 0 - 1))) = sm_dp (S 1100024) (S 1100023 (S 1100033 0)) := congrArg ((sm_dp (S 1100024))) e134_
        exact (la_within_30 h45_ e135_)
      refine ⟨?_, ?_⟩
      · skip
        have e136_ : S 1100023 (S 57 (S 1092 0 - 1)) = S 1100023 (S 1100033 0) := congrArg ((S 1100023)) h51_
        exact (sm_TC_t h46_ (la_within_31 e136_))
      refine ⟨h47_, ?_⟩
      refine ⟨(sm_VO_m h48_ (Int.le_refl _) h75_ sm_F1_rf), ?_⟩
      refine ⟨h49_, ?_⟩
      refine ⟨(sm_FL_F h50_ sm_F1_rf sm_F1_rf sm_F1_rf sm_F1_rf sm_F1_rf sm_F1_rf sm_F1_rf sm_F1_rf sm_F1_rf sm_F1_rf sm_F1_rf sm_F1_rf (Int.le_refl _) h75_ sm_F1_rf sm_F1_rf (sm_FL_dp h50_ h27_)), ?_⟩
      refine ⟨?_, ?_⟩
      · skip
        have e137_ : S 1100007 (S 57 (S 1092 0 - 1)) = S 1100007 (S 1100033 0) := congrArg ((S 1100007)) h51_
        exact (la_within_30 h58_ e137_)
      refine ⟨?_, ?_⟩
      · skip
        have e138_ : S 1100025 (S 57 (S 1092 0 - 1)) = S 1100025 (S 1100033 0) := congrArg ((S 1100025)) h51_
        exact (sm_SK_q (sm_SK_m h54_ (Int.le_refl _) h75_ sm_F1_rf) (la_within_33 h59_ e138_) rfl rfl)
      refine ⟨?_, ?_⟩
      · skip
        intro h139_
        have e140_ : S 1100023 (S 57 (S 1092 0 - 1)) = S 1100023 (S 1100033 0) := congrArg ((S 1100023)) h51_
        have h141_ := (h60_ (la_within_34 h139_ e140_))
        have e142_ : S 1100007 (S 1100023 (S 57 (S 1092 0 - 1))) = S 1100007 (S 1100023 (S 1100033 0)) := congrArg ((S 1100007)) e140_
        exact (la_within_35 h141_ e142_)
      refine ⟨la_within_36, ?_⟩
      exact la_within_37
    intro g29
    rintro ⟨h143_, ⟨h144_, ⟨h145_, ⟨h146_, ⟨h147_, ⟨h148_, ⟨h149_, ⟨h150_, ⟨h151_, ⟨h152_, ⟨h153_, ⟨h154_, ⟨h155_, ⟨h156_, ⟨h157_, ⟨h158_, ⟨h159_, ⟨h160_, ⟨h161_, ⟨h162_, ⟨h163_, ⟨h164_, ⟨h165_, ⟨h166_, ⟨h167_, h168_⟩⟩⟩⟩⟩⟩⟩⟩⟩⟩⟩⟩⟩⟩⟩⟩⟩⟩⟩⟩⟩⟩⟩⟩⟩
    refine ⟨h143_, ?_⟩
    refine ⟨h10_, ?_⟩
    refine ⟨h145_, ?_⟩
    refine ⟨h146_, ?_⟩
    refine ⟨h147_, ?_⟩
    refine ⟨h148_, ?_⟩
    refine ⟨h149_, ?_⟩
    refine ⟨h16_, ?_⟩
    refine ⟨h17_, ?_⟩
    refine ⟨h18_, ?_⟩
    refine ⟨h153_, ?_⟩
    refine ⟨h154_, ?_⟩
    refine ⟨h155_, ?_⟩
    refine ⟨h156_, ?_⟩
    refine ⟨h157_, ?_⟩
    refine ⟨h76_, ?_⟩
    refine ⟨h77_, ?_⟩
    refine ⟨h160_, ?_⟩
    refine ⟨(la_within_38 h6_), ?_⟩
    refine ⟨h162_, ?_⟩
    refine ⟨h163_, ?_⟩
    refine ⟨h75_, ?_⟩
    refine ⟨h165_, ?_⟩
    refine ⟨h166_, ?_⟩
    exact h167_
  intro h169_
  refine ⟨h9_, ?_⟩
  refine ⟨h10_, ?_⟩
  refine ⟨(sm_PV_m h11_ (Int.le_refl _) h75_ sm_F1_rf), ?_⟩
  refine ⟨h12_, ?_⟩
  refine ⟨h13_, ?_⟩
  refine ⟨h14_, ?_⟩
  refine ⟨h15_, ?_⟩
  refine ⟨h16_, ?_⟩
  refine ⟨h17_, ?_⟩
  refine ⟨h18_, ?_⟩
  refine ⟨h19_, ?_⟩
  refine ⟨h20_, ?_⟩
  refine ⟨?_, ?_⟩
  · skip
    intro h170_
    obtain ⟨h171_, h172_⟩ := ((sm_VO_e h48_).2.2.1 (la_within_40 (la_within_39 h79_ h169_) h170_))
    obtain ⟨h173_, ⟨h174_, h175_⟩⟩ := ((sm_VO_e h48_).2.2.2 (la_within_41 (sm_VO_e h48_).2.1 (la_within_39 h79_ h169_) h170_))
    obtain ⟨h176_, h177_⟩ := ((sm_VO_e h69_).2.2.1 (la_within_40 (la_within_39 h79_ h169_) h170_))
    obtain ⟨h178_, ⟨h179_, h180_⟩⟩ := ((sm_VO_e h69_).2.2.2 (la_within_41 (sm_VO_e h69_).2.1 (la_within_39 h79_ h169_) h170_))
    obtain ⟨h181_, h182_⟩ := ((sm_VO_e h70_).2.2.1 (la_within_40 (la_within_39 h79_ h169_) h170_))
    obtain ⟨h183_, ⟨h184_, h185_⟩⟩ := ((sm_VO_e h70_).2.2.2 (la_within_41 (sm_VO_e h70_).2.1 (la_within_39 h79_ h169_) h170_))
    have h186_ := (h74_ (la_within_42 (la_within_39 h79_ h169_) h170_))
    have h187_ := (h186_ h176_)
    have h188_ := (h187_ (la_within_43 (la_within_39 h79_ h169_) h170_))
    have h189_ := (h188_ h170_)
    refine ⟨h21_, ?_⟩
    exact h22_
  refine ⟨h23_, ?_⟩
  refine ⟨(la_within_6 h24_ h75_), ?_⟩
  refine ⟨h76_, ?_⟩
  refine ⟨h77_, ?_⟩
  refine ⟨(la_within_7 h35_ h75_), ?_⟩
  refine ⟨h78_, ?_⟩
  refine ⟨(la_within_24 h38_), ?_⟩
  refine ⟨h39_, ?_⟩
  refine ⟨h75_, ?_⟩
  refine ⟨?_, ?_⟩
  · skip
    intro h190_
    exact h8_
  refine ⟨?_, ?_⟩
  · skip
    intro h191_
    obtain ⟨h192_, h193_⟩ := ((sm_VO_e h48_).2.2.1 (la_within_40 (la_within_39 h79_ h169_) h191_))
    obtain ⟨h194_, ⟨h195_, h196_⟩⟩ := ((sm_VO_e h48_).2.2.2 (la_within_41 (sm_VO_e h48_).2.1 (la_within_39 h79_ h169_) h191_))
    obtain ⟨h197_, h198_⟩ := ((sm_VO_e h69_).2.2.1 (la_within_40 (la_within_39 h79_ h169_) h191_))
    obtain ⟨h199_, ⟨h200_, h201_⟩⟩ := ((sm_VO_e h69_).2.2.2 (la_within_41 (sm_VO_e h69_).2.1 (la_within_39 h79_ h169_) h191_))
    obtain ⟨h202_, h203_⟩ := ((sm_VO_e h70_).2.2.1 (la_within_40 (la_within_39 h79_ h169_) h191_))
    obtain ⟨h204_, ⟨h205_, h206_⟩⟩ := ((sm_VO_e h70_).2.2.2 (la_within_41 (sm_VO_e h70_).2.1 (la_within_39 h79_ h169_) h191_))
    have h207_ := (h74_ (la_within_42 (la_within_39 h79_ h169_) h191_))
    have h208_ := (h207_ h197_)
    have h209_ := (h208_ (la_within_43 (la_within_39 h79_ h169_) h191_))
    have h210_ := (h209_ h191_)
    intro h211_
    refine ⟨h38_, ?_⟩
    refine ⟨h39_, ?_⟩
    refine ⟨(la_within_27 h40_ h51_), ?_⟩
    refine ⟨(la_within_28 h51_ h64_), ?_⟩
    refine ⟨?_, ?_⟩
    · skip
      have e212_ : S 29 (S 57 (S 1092 0 - 1)) = S 29 (S 1100033 0) := congrArg ((S 29)) h51_
      exact (la_within_29 h42_ e212_)
    refine ⟨h43_, ?_⟩
    refine ⟨h44_, ?_⟩
    refine ⟨?_, ?_⟩
    · skip
      have e213_ : S 1100023 (S 57 (S 1092 0 - 1)) = S 1100023 (S 1100033 0) := congrArg ((S 1100023)) h51_
      have e214_ : sm_dp (S 1100024) (S 1100023 (S 57 (S 1092 0 - 1))) = sm_dp (S 1100024) (S 1100023 (S 1100033 0)) := congrArg ((sm_dp (S 1100024))) e213_
      exact (la_within_30 h45_ e214_)
    refine ⟨?_, ?_⟩
    · skip
      have e215_ : S 1100023 (S 57 (S 1092 0 - 1)) = S 1100023 (S 1100033 0) := congrArg ((S 1100023)) h51_
      exact (sm_TC_t h46_ (la_within_31 e215_))
    refine ⟨h47_, ?_⟩
    refine ⟨(sm_VO_m h48_ (Int.le_refl _) h75_ sm_F1_rf), ?_⟩
    refine ⟨h49_, ?_⟩
    refine ⟨(sm_FL_F h50_ sm_F1_rf sm_F1_rf sm_F1_rf sm_F1_rf sm_F1_rf sm_F1_rf sm_F1_rf sm_F1_rf sm_F1_rf sm_F1_rf sm_F1_rf sm_F1_rf (Int.le_refl _) h75_ sm_F1_rf sm_F1_rf (sm_FL_dp h50_ h27_)), ?_⟩
    refine ⟨?_, ?_⟩
    · skip
      have e216_ : S 1100007 (S 57 (S 1092 0 - 1)) = S 1100007 (S 1100033 0) := congrArg ((S 1100007)) h51_
      exact (la_within_30 h58_ e216_)
    have e217_ : S 1100025 (S 57 (S 1092 0 - 1)) = S 1100025 (S 1100033 0) := congrArg ((S 1100025)) h51_
    exact (sm_SK_q (sm_SK_m h54_ (Int.le_refl _) h75_ sm_F1_rf) (la_within_33 h59_ e217_) rfl rfl)
  exact (la_within_44 h7_ h38_ (la_within_39 h79_ h169_))
set_option maxRecDepth 8000 in
set_option maxHeartbeats 2000000 in
theorem t_within : ∀ (p1 : Int) (p2 : Int) (p3 : Int) (p4 : Int) (S : sv_S), sm_ok S → sv_R p1 → sv_R p2 → sv_R p3 → sv_R p4 → ((S 1075 0) = 0 ∧ (S 1073 0) = 1 ∧ sm_LX (S 58) (S 63) (S 64) (S 1092 0) (S 1076 0) ∧ sm_PL (S 1100020) (S 51) (S 52) (S 46) (S 47) (S 1076 0) (S 1086 0) ∧ sm_FR (S 1100020) (S 52) (S 1100021) (S 1100022) (3000 - (S 1084 0)) (S 1085 0) ∧ sm_PV (S 1100020) (S 48) (S 49) (S 50) (S 44) (S 1076 0) (S 1007 0) ∧ sm_AL (S 1100020) (S 48) (S 49) (S 50) (S 44) (S 1076 0) (S 1100032 0) ∧ sm_SV (S 1100020) (S 48) (S 1100029) (S 32) (S 33) (S 1076 0) (S 1032 0) ∧ 0 ≤ (S 1076 0) ∧ (S 1076 0) ≤ 300 ∧ 0 ≤ (S 1084 0) ∧ (S 1084 0) ≤ 3000 ∧ 0 ≤ (S 1086 0) ∧ sm_SC (S 1100029) (S 44) (S 45) (S 43) (S 21) (S 1076 0) (S 1032 0) ∧ sm_PO (S 42) (S 1076 0) ∧ (S 1100032 0) = -1 ∧ sm_FO (S 44) (S 45) (S 1076 0) ∧ 23 ≤ (S 1076 0) ∧ 31 ≤ (S 1007 0) ∧ (S 1007 0) ≤ 400 ∧ sm_LN (S 4) 400 (S 1007 0) ∧ sm_CT (S 26) (S 27) (S 28) (S 29) (S 1100007) (S 1100023) (S 1100024) (S 1100025) (S 21) (S 1046 0) (S 1032 0) (S 1008 0) (S 1055 0) ∧ sm_LS (S 26) (S 1100007) (S 1100025) (S 1046 0) ∧ sm_CL (S 1100007) (S 1100023) (S 1100025) (S 1046 0) ∧ 1 ≤ (S 1032 0) ∧ (S 1032 0) ≤ 11 ∧ 0 ≤ (S 1046 0) ∧ (S 1046 0) ≤ 600 ∧ 31 ≤ (S 1008 0) ∧ (S 1008 0) ≤ (S 1007 0) ∧ 0 ≤ (S 1055 0) ∧ (S 1055 0) ≤ 19 ∧ 1 ≤ (S 1092 0) ∧ (S 1092 0) ≤ 24 ∧ 0 ≤ (S 1100033 0) ∧ (S 1100033 0) < (S 1046 0) ∧ (S 29 (S 1100033 0)) = (S 53 ((S 1092 0) - 1)) ∧ 0 ≤ (S 53 ((S 1092 0) - 1)) ∧ (S 53 ((S 1092 0) - 1)) < (S 1032 0) ∧ (S 60 ((S 1092 0) - 1)) = sm_dp (S 1100024) (S 1100023 (S 1100033 0)) ∧ sm_TC (S 61) (S 62) (S 27) (S 1100007) (S 1100023) (S 1100024) (40 * ((S 1092 0) - 1)) (S 1100023 (S 1100033 0)) ∧ sm_LK (S 1100029) (S 1076 0) (S 54 ((S 1092 0) - 1)) (S 53 ((S 1092 0) - 1)) ∧ sm_VO (S 44) (S 1076 0) (S 1007 0) ((S 55 ((S 1092 0) - 1))) ((S 56 ((S 1092 0) - 1))) ∧ sm_FW (S 44) (S 1076 0) (S 59 ((S 1092 0) - 1)) ∧ sm_FL (S 53) (S 54) (S 55) (S 56) (S 57) (S 58) (S 59) (S 60) (S 61) (S 62) (S 63) (S 64) (S 27) (S 29) (S 1100007) (S 1100023) (S 1100024) (S 1100025) (S 26) (S 1100029) (S 44) (S 1046 0) (S 1032 0) (S 1076 0) (S 1007 0) (((S 1092 0) - 1)) ∧ (S 57 ((S 1092 0) - 1)) = (S 1100033 0) ∧ 0 ≤ (S 58 ((S 1092 0) - 1)) ∧ (S 58 ((S 1092 0) - 1)) ≤ 400 ∧ sm_SK (S 63) (S 64) (S 44) (S 1100007) (S 1100025) (S 1076 0) (S 1007 0) (400 * ((S 1092 0) - 1)) ((S 58 ((S 1092 0) - 1))) ((S 1100034 0)) ∧ -1 ≤ (S 1100034 0) ∧ (S 1100034 0) < (S 1046 0) ∧ (0 ≤ (S 1100034 0) → (S 26 (S 1100034 0)) = 29) ∧ (S 58 ((S 1092 0) - 1)) = (S 1100007 (S 1100033 0)) ∧ (S 1100034 0) = (S 1100025 (S 1100033 0)) ∧ (0 ≤ (S 1100023 (S 1100033 0)) → (S 1100007 (S 1100023 (S 1100033 0))) ≤ (S 58 ((S 1092 0) - 1))) ∧ (S 58 ((S 1092 0) - 1)) ≤ 396 ∧ 2 ≤ (S 58 ((S 1092 0) - 1)) ∧ (0 ≤ (S 1100034 0) → (S 1100007 (S 1100034 0)) ≤ (S 58 ((S 1092 0) - 1)) - 2) ∧ (S 1100033 0) + 1 < (S 1046 0) ∧ (S 29 ((S 1100033 0) + 1)) = (S 29 (S 1100033 0)) ∧ (S 1100007 ((S 1100033 0) + 1)) = (S 58 ((S 1092 0) - 1)) + (-1) ∧ (S 1100023 ((S 1100033 0) + 1)) = (S 1100023 (S 1100033 0)) ∧ (S 1100025 ((S 1100033 0) + 1)) = (S 1100034 0) ∧ sm_VO (S 44) (S 1076 0) (S 1007 0) (p1) (p2) ∧ sm_VO (S 44) (S 1076 0) (S 1007 0) (p3) (p4)) → sv_T sm_XS sm_cs sm_L sm_sh 4 (q_within p1 p2 p3 p4 S) 175 0 (lv_args 0 [.ref 0, sv_I p1, sv_I p2, sv_I p3, sv_I p4]) [] S := by
  intro p1 p2 p3 p4 S hok hp1 hp2 hp3 hp4 hpre
  have h := f_within p1 p2 p3 p4 S hok hp1 hp2 hp3 hp4 hpre
  have hM := sm_h175
  show sv_T sm_XS sm_cs sm_L sm_sh 4 (q_within p1 p2 p3 p4 S) 175 0 [(0, .ref 0), (1, sv_I p1), (2, sv_I p2), (3, sv_I p3), (4, sv_I p4)] [] S
  refine sv_aload_n hM dX12_within_0 rfl rfl ?_
  refine sv_iload_n hM dX12_within_1 rfl rfl ?_
  refine sv_iload_n hM dX12_within_2 rfl rfl ?_
  obtain ⟨o1, h⟩ := h
  refine sv_callV hM dX12_within_3 sm_iv_969 (by decide) (sm_a0 _) rfl rfl (Nat.le_of_ble_eq_true rfl) sm_h126 (Nat.le_of_ble_eq_true rfl) (Nat.le_of_ble_eq_true rfl) (F' := 3) (Nat.le_of_ble_eq_true rfl) rfl (t_textOf p1 p2 S hok hp1 hp2 o1) (fun v S1 hq => ?_)
  obtain ⟨r6, rfl, hr6, ok3, md4, hpo5⟩ := hq
  obtain ⟨g2, rfl⟩ : ∃ g, S1 = sv_sts S [5, 1011, 3, 4, 1007, 1075] g := ⟨_, md4.eq⟩
  show sv_T sm_XS sm_cs sm_L sm_sh 4 (q_within p1 p2 p3 p4 S) 175 6 [(0, .ref 0), (1, sv_I p1), (2, sv_I p2), (3, sv_I p3), (4, sv_I p4)] [sv_I r6] (sv_sts S [5, 1011, 3, 4, 1007, 1075] g2)
  have md7 : sv_mod [1076, 41, 42, 43, 44, 45, 46, 47, 1075, 1100029, 1092, 60, 58, 57, 63, 64, 1073, 1109, 1110, 1111, 1112, 5, 1011, 3, 4, 1007] S (sv_sts S [5, 1011, 3, 4, 1007, 1075] g2) := sv_mod.sts sv_mod.rf (by decide)
  have h := h r6 hr6 g2 hpo5
  refine sv_istore hM dX12_within_6 (by decide) rfl ?_
  show sv_T sm_XS sm_cs sm_L sm_sh 4 (q_within p1 p2 p3 p4 S) 175 8 [(0, .ref 0), (1, sv_I p1), (2, sv_I p2), (3, sv_I p3), (4, sv_I p4), (5, sv_I r6)] [] (sv_sts S [5, 1011, 3, 4, 1007, 1075] g2)
  refine sv_aload_n hM dX12_within_8 rfl rfl ?_
  have k8 : (0 ≤ (g2 1075 0) ∧ (g2 1075 0) ≤ 1) := sm_okZ ok3 sm_r1075 0
  have h := h k8
  refine sv_getI hM dX12_within_9 sm_fl_794 (sm_a0 _) sm_k75 rfl (x := (g2 1075 0)) rfl ?_
  refine sv_cond_eq hM dX12_within_12 (sv_R01 k8) (t := 16) rfl rfl (fun hc => ?_) (fun hc => ?_)
  · have h := h.1 (hc)
    refine sv_iload_n hM dX12_within_16 rfl rfl ?_
    refine sv_bipush (d := (7 : Int)) hM dX12_within_17 rfl rfl ?_
    refine sv_icmp_eq hM dX12_within_19 hp3 (⟨by decide, by decide⟩ : sv_R (7 : Int)) (t := 29) rfl rfl (fun hc => ?_) (fun hc => ?_)
    · have h := h.1 (hc)
      refine sv_aload_n hM dX12_within_29 rfl rfl ?_
      refine sv_iload hM dX12_within_30 rfl rfl ?_
      refine sv_iload hM dX12_within_32 rfl rfl ?_
      obtain ⟨o9, h⟩ := h
      refine sv_callV hM dX12_within_34 sm_iv_972 (by decide) (sm_a0 _) rfl rfl (Nat.le_of_ble_eq_true rfl) sm_h143 (Nat.le_of_ble_eq_true rfl) (Nat.le_of_ble_eq_true rfl) (F' := 1) (Nat.le_of_ble_eq_true rfl) rfl (t_read_ p4 r6 (sv_sts S [5, 1011, 3, 4, 1007, 1075] g2) ok3 hp4 hr6 o9) (fun v S1 hq => ?_)
      obtain ⟨r14, rfl, hr14, ok11, md12, hpo13⟩ := hq
      obtain ⟨g10, rfl⟩ : ∃ g, S1 = sv_sts (sv_sts S [5, 1011, 3, 4, 1007, 1075] g2) [1111, 1112] g := ⟨_, md12.eq⟩
      show sv_T sm_XS sm_cs sm_L sm_sh 4 (q_within p1 p2 p3 p4 S) 175 37 [(0, .ref 0), (1, sv_I p1), (2, sv_I p2), (3, sv_I p3), (4, sv_I p4), (5, sv_I r6)] [sv_I r14] (sv_sts (sv_sts S [5, 1011, 3, 4, 1007, 1075] g2) [1111, 1112] g10)
      have md15 : sv_mod [1076, 41, 42, 43, 44, 45, 46, 47, 1075, 1100029, 1092, 60, 58, 57, 63, 64, 1073, 1109, 1110, 1111, 1112, 5, 1011, 3, 4, 1007] S (sv_sts (sv_sts S [5, 1011, 3, 4, 1007, 1075] g2) [1111, 1112] g10) := sv_mod.sts md7 (by decide)
      have h := h r14 hr14 g10 hpo13
      refine sv_istore hM dX12_within_37 (by decide) rfl ?_
      show sv_T sm_XS sm_cs sm_L sm_sh 4 (q_within p1 p2 p3 p4 S) 175 39 [(0, .ref 0), (1, sv_I p1), (2, sv_I p2), (3, sv_I p3), (4, sv_I p4), (5, sv_I r6), (6, sv_I r14)] [] (sv_sts (sv_sts S [5, 1011, 3, 4, 1007, 1075] g2) [1111, 1112] g10)
      refine sv_aload_n hM dX12_within_39 rfl rfl ?_
      refine sv_iload hM dX12_within_40 rfl rfl ?_
      obtain ⟨o16, h⟩ := h
      refine sv_callV hM dX12_within_42 sm_iv_827 (by decide) (sm_a0 _) rfl rfl (Nat.le_of_ble_eq_true rfl) sm_h134 (Nat.le_of_ble_eq_true rfl) (Nat.le_of_ble_eq_true rfl) (F' := 1) (Nat.le_of_ble_eq_true rfl) rfl (t_truth r14 (sv_sts (sv_sts S [5, 1011, 3, 4, 1007, 1075] g2) [1111, 1112] g10) ok11 o16) (fun v S1 hq => ?_)
      obtain ⟨rfl, ok18, md19, hpo20⟩ := hq
      obtain ⟨g17, rfl⟩ : ∃ g, S1 = sv_sts (sv_sts (sv_sts S [5, 1011, 3, 4, 1007, 1075] g2) [1111, 1112] g10) [1111, 1112] g := ⟨_, md19.eq⟩
      show sv_T sm_XS sm_cs sm_L sm_sh 4 (q_within p1 p2 p3 p4 S) 175 45 [(0, .ref 0), (1, sv_I p1), (2, sv_I p2), (3, sv_I p3), (4, sv_I p4), (5, sv_I r6), (6, sv_I r14)] [] (sv_sts (sv_sts (sv_sts S [5, 1011, 3, 4, 1007, 1075] g2) [1111, 1112] g10) [1111, 1112] g17)
      have md21 : sv_mod [1076, 41, 42, 43, 44, 45, 46, 47, 1075, 1100029, 1092, 60, 58, 57, 63, 64, 1073, 1109, 1110, 1111, 1112, 5, 1011, 3, 4, 1007] S (sv_sts (sv_sts (sv_sts S [5, 1011, 3, 4, 1007, 1075] g2) [1111, 1112] g10) [1111, 1112] g17) := sv_mod.sts md15 (by decide)
      have h := h g17 hpo20
      refine sv_aload_n hM dX12_within_45 rfl rfl ?_
      refine sv_iconst (d := (2 : Int)) hM dX12_within_46 rfl rfl ?_
      obtain ⟨o22, h⟩ := h
      refine sv_callV hM dX12_within_47 sm_iv_904 (by decide) (sm_a0 _) rfl rfl (Nat.le_of_ble_eq_true rfl) sm_h155 (Nat.le_of_ble_eq_true rfl) (Nat.le_of_ble_eq_true rfl) (F' := 2) (Nat.le_of_ble_eq_true rfl) rfl (t_gives (2 : Int) (sv_sts (sv_sts (sv_sts S [5, 1011, 3, 4, 1007, 1075] g2) [1111, 1112] g10) [1111, 1112] g17) ok18 (⟨by decide, by decide⟩ : sv_R (2 : Int)) o22) (fun v S1 hq => ?_)
      obtain ⟨rfl, ok24, md25, hpo26⟩ := hq
      obtain ⟨g23, rfl⟩ : ∃ g, S1 = sv_sts (sv_sts (sv_sts (sv_sts S [5, 1011, 3, 4, 1007, 1075] g2) [1111, 1112] g10) [1111, 1112] g17) [58, 63, 64, 57] g := ⟨_, md25.eq⟩
      show sv_T sm_XS sm_cs sm_L sm_sh 4 (q_within p1 p2 p3 p4 S) 175 50 [(0, .ref 0), (1, sv_I p1), (2, sv_I p2), (3, sv_I p3), (4, sv_I p4), (5, sv_I r6), (6, sv_I r14)] [] (sv_sts (sv_sts (sv_sts (sv_sts S [5, 1011, 3, 4, 1007, 1075] g2) [1111, 1112] g10) [1111, 1112] g17) [58, 63, 64, 57] g23)
      have md27 : sv_mod [1076, 41, 42, 43, 44, 45, 46, 47, 1075, 1100029, 1092, 60, 58, 57, 63, 64, 1073, 1109, 1110, 1111, 1112, 5, 1011, 3, 4, 1007] S (sv_sts (sv_sts (sv_sts (sv_sts S [5, 1011, 3, 4, 1007, 1075] g2) [1111, 1112] g10) [1111, 1112] g17) [58, 63, 64, 57] g23) := sv_mod.sts md21 (by decide)
      have h := h g23 hpo26
      exact sv_vret hM dX12_within_50 rfl ⟨rfl, ok24, md27, h⟩
    · have h := h.2 (hc)
      refine sv_aload_n hM dX12_within_22 rfl rfl ?_
      refine sv_bipush (d := (6 : Int)) hM dX12_within_23 rfl rfl ?_
      obtain ⟨o28, h⟩ := h
      refine sv_callV hM dX12_within_25 sm_iv_966 (by decide) (sm_a0 _) rfl rfl (Nat.le_of_ble_eq_true rfl) sm_h157 (Nat.le_of_ble_eq_true rfl) (Nat.le_of_ble_eq_true rfl) (F' := 3) (Nat.le_of_ble_eq_true rfl) rfl (t_error (6 : Int) (sv_sts S [5, 1011, 3, 4, 1007, 1075] g2) ok3 (⟨by decide, by decide⟩ : sv_R (6 : Int)) o28) (fun v S1 hq => ?_)
      obtain ⟨rfl, ok30, md31, hpo32⟩ := hq
      obtain ⟨g29, rfl⟩ : ∃ g, S1 = sv_sts (sv_sts S [5, 1011, 3, 4, 1007, 1075] g2) [1076, 41, 42, 43, 44, 45, 46, 47, 1075, 1100029, 1092, 60, 58, 57, 63, 64, 1073, 1109, 1110] g := ⟨_, md31.eq⟩
      show sv_T sm_XS sm_cs sm_L sm_sh 4 (q_within p1 p2 p3 p4 S) 175 28 [(0, .ref 0), (1, sv_I p1), (2, sv_I p2), (3, sv_I p3), (4, sv_I p4), (5, sv_I r6)] [] (sv_sts (sv_sts S [5, 1011, 3, 4, 1007, 1075] g2) [1076, 41, 42, 43, 44, 45, 46, 47, 1075, 1100029, 1092, 60, 58, 57, 63, 64, 1073, 1109, 1110] g29)
      have md33 : sv_mod [1076, 41, 42, 43, 44, 45, 46, 47, 1075, 1100029, 1092, 60, 58, 57, 63, 64, 1073, 1109, 1110, 1111, 1112, 5, 1011, 3, 4, 1007] S (sv_sts (sv_sts S [5, 1011, 3, 4, 1007, 1075] g2) [1076, 41, 42, 43, 44, 45, 46, 47, 1075, 1100029, 1092, 60, 58, 57, 63, 64, 1073, 1109, 1110] g29) := sv_mod.sts md7 (by decide)
      have h := h g29 hpo32
      exact sv_vret hM dX12_within_28 rfl ⟨rfl, ok30, md33, h⟩
  · have h := h.2 (hc)
    exact sv_vret hM dX12_within_15 rfl ⟨rfl, ok3, md7, h⟩
def q_global (p1 : Int) (p2 : Int) (S : sv_S) : Option Value → sv_S → Prop := fun v S' => v = none ∧ sm_ok S' ∧ sv_mod [1076, 41, 42, 43, 44, 45, 46, 47, 1075, 1100029, 1092, 60, 58, 57, 63, 64, 1073, 1109, 1110, 58, 63, 64, 57, 1111, 1112] S S' ∧ (sm_PL (S' 1100020) (S' 51) (S' 52) (S' 46) (S' 47) (S' 1076 0) (S' 1086 0) ∧ sm_FR (S' 1100020) (S' 52) (S' 1100021) (S' 1100022) (3000 - (S' 1084 0)) (S' 1085 0) ∧ sm_PV (S' 1100020) (S' 48) (S' 49) (S' 50) (S' 44) (S' 1076 0) (S' 1007 0) ∧ sm_AL (S' 1100020) (S' 48) (S' 49) (S' 50) (S' 44) (S' 1076 0) (S' 1100032 0) ∧ sm_SV (S' 1100020) (S' 48) (S' 1100029) (S' 32) (S' 33) (S' 1076 0) (S' 1032 0) ∧ 0 ≤ (S' 1076 0) ∧ (S' 1076 0) ≤ 300 ∧ 0 ≤ (S' 1084 0) ∧ (S' 1084 0) ≤ 3000 ∧ 0 ≤ (S' 1086 0) ∧ sm_SC (S' 1100029) (S' 44) (S' 45) (S' 43) (S' 21) (S' 1076 0) (S' 1032 0) ∧ sm_PO (S' 42) (S' 1076 0) ∧ ((S' 1075 0) = 0 → (S' 1100032 0) = -1 ∧ sm_FO (S' 44) (S' 45) (S' 1076 0)) ∧ 23 ≤ (S' 1076 0) ∧ 31 ≤ (S' 1007 0) ∧ (S' 1007 0) ≤ 400 ∧ sm_LN (S' 4) 400 (S' 1007 0) ∧ (S' 1008 0) ≤ (S' 1007 0) ∧ ((S 1075 0) = 1 → (S' 1075 0) = 1) ∧ 0 ≤ (S' 1092 0) ∧ (S' 1092 0) ≤ 24 ∧ (S 1007 0) ≤ (S' 1007 0) ∧ (¬ (S' 1075 0) = 0 → sm_LX (S' 58) (S' 63) (S' 64) (S' 1092 0) (S' 1076 0)) ∧ ((S' 1075 0) = 0 → (S' 1073 0) = 1 → 1 ≤ (S' 1092 0) ∧ (S' 1092 0) ≤ 24 ∧ 0 ≤ (S' 57 ((S' 1092 0) - 1)) ∧ (S' 57 ((S' 1092 0) - 1)) < (S' 1046 0) ∧ (S' 29 (S' 57 ((S' 1092 0) - 1))) = (S' 53 ((S' 1092 0) - 1)) ∧ 0 ≤ (S' 53 ((S' 1092 0) - 1)) ∧ (S' 53 ((S' 1092 0) - 1)) < (S' 1032 0) ∧ (S' 60 ((S' 1092 0) - 1)) = sm_dp (S' 1100024) (S' 1100023 (S' 57 ((S' 1092 0) - 1))) ∧ sm_TC (S' 61) (S' 62) (S' 27) (S' 1100007) (S' 1100023) (S' 1100024) (40 * ((S' 1092 0) - 1)) (S' 1100023 (S' 57 ((S' 1092 0) - 1))) ∧ sm_LK (S' 1100029) (S' 1076 0) (S' 54 ((S' 1092 0) - 1)) (S' 53 ((S' 1092 0) - 1)) ∧ sm_VO (S' 44) (S' 1076 0) (S' 1007 0) ((S' 55 ((S' 1092 0) - 1))) ((S' 56 ((S' 1092 0) - 1))) ∧ sm_FW (S' 44) (S' 1076 0) (S' 59 ((S' 1092 0) - 1)) ∧ sm_FL (S' 53) (S' 54) (S' 55) (S' 56) (S' 57) (S' 58) (S' 59) (S' 60) (S' 61) (S' 62) (S' 63) (S' 64) (S' 27) (S' 29) (S' 1100007) (S' 1100023) (S' 1100024) (S' 1100025) (S' 26) (S' 1100029) (S' 44) (S' 1046 0) (S' 1032 0) (S' 1076 0) (S' 1007 0) (((S' 1092 0) - 1)) ∧ (S' 58 ((S' 1092 0) - 1)) = (S' 1100007 (S' 57 ((S' 1092 0) - 1))) ∧ sm_SK (S' 63) (S' 64) (S' 44) (S' 1100007) (S' 1100025) (S' 1076 0) (S' 1007 0) (400 * ((S' 1092 0) - 1)) ((S' 58 ((S' 1092 0) - 1))) ((S' 1100025 (S' 57 ((S' 1092 0) - 1))))) ∧ ((S' 1073 0) = 1 ∨ (S' 1092 0) = 0 ∧ (S' 1075 0) = 0 ∧ ((S' 1073 0) = 2 ∨ (S' 1073 0) = 3)))
theorem la_global_0 {x0 x1 x2 : Int} (h0 : x0 ≤ 300) (h1 : 0 ≤ x1) (h2 : x1 ≤ 3000) (h3 : 0 ≤ x2) (h4 : 23 ≤ x0) : 0 ≤ x0 ∧ x0 ≤ 300 ∧ 0 ≤ x1 ∧ x1 ≤ 3000 ∧ 0 ≤ x2 ∧ (0 : Int) ≤ 0 ∧ 0 < x0 := by omega
theorem la_global_1 {x0 : Int} (h0 : 0 ≤ x0) : (-1) ≤ x0 := by omega
theorem la_global_2 {x0 : Int} (h0 : (-1) ≤ x0) (h1 : ¬ x0 = (-1)) : (-1) < x0 := by omega
theorem la_global_3 {x0 : Int} (h0 : x0 = 0) : 0 ≤ x0 := by omega
theorem la_global_4 {x0 : Int} (h0 : x0 = 0) : ¬ x0 = 1 := by omega
theorem la_global_5 {x0 : Int} (h0 : 0 ≤ x0) (h1 : x0 < 3000) : 0 ≤ x0 ∧ x0 < 3000 := by omega
theorem la_global_6 {x0 x1 x2 x3 x4 : Int} (h0 : x0 ≤ 300) (h1 : x1 ≤ 7) (h2 : x1 = 6 → 0 ≤ x2 ∧ x2 < x3) (h3 : x1 = 7 → 0 ≤ x2 ∧ x2 < x0 ∧ ¬ x4 = 3) : x1 = 7 → 0 ≤ x2 ∧ x2 < 300 := by omega
theorem la_global_7 : (0 : Int) ≤ 0 := by omega
theorem la_global_8 {x0 : Int} (h0 : x0 ≤ 396) : x0 - 0 ≤ 399 := by omega
theorem la_global_9 {x0 : Int} (h0 : x0 = 6) : 0 ≤ x0 := by omega
theorem la_global_10 {x0 : Int} (h0 : x0 = 6) : x0 ≤ 7 := by omega
theorem la_global_11 {x0 x1 x2 x3 : Int} (h0 : 31 ≤ x0) (h1 : 19 ≤ x1) (h2 : x1 ≤ 24) (h3 : x2 = x1) : x3 = 6 → 0 ≤ x2 ∧ x2 < x0 := by omega
theorem la_global_12 {x0 x1 x2 x3 x4 : Int} (h0 : 19 ≤ x0) (h1 : x1 = 6) (h2 : x2 = x0) : x1 = 7 → 0 ≤ x2 ∧ x2 < x3 ∧ ¬ x4 = 3 := by omega
theorem la_global_13 {x0 x1 : Int} (h0 : x0 = x1 + 1) : x0 = x1 - 0 + 1 := by omega
theorem la_global_14 {x0 : Int} (h0 : x0 = 0) : x0 ≤ 0 := by omega
theorem la_global_15 {x0 : Int} (h0 : x0 ≤ 0) (h1 : ¬ x0 = 0) : x0 < 0 := by omega
theorem la_global_16 {x0 : Int} (h0 : x0 = 0) : ¬ ¬ x0 = 0 := by omega
theorem la_global_17 {x0 : Int} (h0 : x0 = 0) : x0 = 1 → x0 = 1 := by omega
theorem la_global_18 {x0 : Int} (h0 : 1 ≤ x0) : 0 ≤ x0 := by omega
theorem la_global_19 {x0 : Int} : x0 ≤ x0 := by omega
theorem la_global_20 {x0 x1 x2 : Int} (h0 : x0 = 0) (h1 : x1 = 1) (h2 : 1 ≤ x2) : x1 = 1 ∨ x2 = 0 ∧ x0 = 0 ∧ (x1 = 2 ∨ x1 = 3) := by omega
theorem la_global_21 {x0 : Int} (h0 : 0 ≤ x0) (h1 : ¬ x0 = 0) : 0 < x0 := by omega
theorem la_global_22 {x0 x1 x2 : Int} (h0 : 31 ≤ x0) (h1 : x1 = 19) : x2 = 6 → 0 ≤ x1 ∧ x1 < x0 := by omega
theorem la_global_23 {x0 x1 x2 x3 : Int} (h0 : 23 ≤ x0) (h1 : x1 = 6) (h2 : x2 = 19) : x1 = 7 → 0 ≤ x2 ∧ x2 < x0 ∧ ¬ x3 = 3 := by omega
theorem la_global_24 {x0 x1 x2 x3 : Int} (h0 : ¬ ¬ x0 = (-1)) : ¬ (0 ≤ x0 ∧ x0 < 3000 ∧ x1 = 0 ∧ x2 = x3) := by omega
theorem la_global_25 {x0 : Int} (h0 : ¬ ¬ x0 = (-1)) : ¬ 0 ≤ x0 := by omega
theorem la_global_26 {x0 : Int} (h0 : ¬ ¬ x0 = (-1)) : x0 ≤ (-1) := by omega
theorem la_global_27 {x0 : Int} (h0 : x0 ≤ (-1)) (h1 : ¬ x0 = (-1)) : x0 < (-1) := by omega
theorem la_global_28 {x0 : Int} (h0 : ¬ ¬ x0 = (-1)) (h1 : x0 < (-1)) : 0 ≤ x0 ∧ x0 < 3000 := by omega
theorem la_global_29 {x0 : Int} (h0 : x0 = (-1)) (h1 : x0 < (-1)) : False := by omega
theorem la_global_30 {x0 : Int} (h0 : ¬ ¬ x0 = (-1)) (h1 : x0 < (-1)) : False := by omega
theorem la_global_31 {x0 x1 : Int} (h0 : 0 ≤ x0) (h1 : x1 = x0) : 0 ≤ x1 := by omega
theorem la_global_32 {x0 x1 x2 : Int} (h0 : x0 = x1) (h1 : x1 + 1 < x2) : x0 < x2 := by omega
theorem la_global_33 {x0 x1 x2 : Int} (h0 : x0 = x1) (h1 : x2 = x0) : x2 = x1 := by omega
theorem la_global_34 {x0 x1 x2 : Int} (h0 : x0 = x1) (h1 : x2 = x1) : x0 = x2 := by omega
theorem la_global_35 {x0 x1 : Int} (h0 : x0 = x1) : x1 = x0 := by omega
theorem la_global_36 {x0 : Int} : x0 = x0 - 1 + 1 := by omega
theorem la_global_37 {x0 x1 x2 : Int} (h0 : x0 = x1) (h1 : x2 = x1) : x2 = x0 := by omega
theorem la_global_38 {x0 x1 : Int} (h0 : 0 ≤ x0) (h1 : x0 = x1) : 0 ≤ x1 := by omega
theorem la_global_39 {x0 x1 x2 : Int} (h0 : x0 ≤ x1) (h1 : x2 = x0) : x2 ≤ x1 := by omega
theorem la_global_40 : (6 : Int) ≤ 7 := by omega
theorem la_global_41 : (7 : Int) ≤ 8 := by omega
set_option maxHeartbeats 2000000 in
theorem f_global : ∀ (p1 : Int) (p2 : Int) (S : sv_S), sm_ok S → (0 ≤ p1 ∧ p1 ≤ 1) → sv_R p2 → ((S 1075 0) = 0 ∧ (S 1073 0) = 1 ∧ sm_LX (S 58) (S 63) (S 64) (S 1092 0) (S 1076 0) ∧ sm_PL (S 1100020) (S 51) (S 52) (S 46) (S 47) (S 1076 0) (S 1086 0) ∧ sm_FR (S 1100020) (S 52) (S 1100021) (S 1100022) (3000 - (S 1084 0)) (S 1085 0) ∧ sm_PV (S 1100020) (S 48) (S 49) (S 50) (S 44) (S 1076 0) (S 1007 0) ∧ sm_AL (S 1100020) (S 48) (S 49) (S 50) (S 44) (S 1076 0) (S 1100032 0) ∧ sm_SV (S 1100020) (S 48) (S 1100029) (S 32) (S 33) (S 1076 0) (S 1032 0) ∧ 0 ≤ (S 1076 0) ∧ (S 1076 0) ≤ 300 ∧ 0 ≤ (S 1084 0) ∧ (S 1084 0) ≤ 3000 ∧ 0 ≤ (S 1086 0) ∧ sm_SC (S 1100029) (S 44) (S 45) (S 43) (S 21) (S 1076 0) (S 1032 0) ∧ sm_PO (S 42) (S 1076 0) ∧ (S 1100032 0) = -1 ∧ sm_FO (S 44) (S 45) (S 1076 0) ∧ 23 ≤ (S 1076 0) ∧ 31 ≤ (S 1007 0) ∧ (S 1007 0) ≤ 400 ∧ sm_LN (S 4) 400 (S 1007 0) ∧ sm_CT (S 26) (S 27) (S 28) (S 29) (S 1100007) (S 1100023) (S 1100024) (S 1100025) (S 21) (S 1046 0) (S 1032 0) (S 1008 0) (S 1055 0) ∧ sm_LS (S 26) (S 1100007) (S 1100025) (S 1046 0) ∧ sm_CL (S 1100007) (S 1100023) (S 1100025) (S 1046 0) ∧ 1 ≤ (S 1032 0) ∧ (S 1032 0) ≤ 11 ∧ 0 ≤ (S 1046 0) ∧ (S 1046 0) ≤ 600 ∧ 31 ≤ (S 1008 0) ∧ (S 1008 0) ≤ (S 1007 0) ∧ 0 ≤ (S 1055 0) ∧ (S 1055 0) ≤ 19 ∧ 1 ≤ (S 1092 0) ∧ (S 1092 0) ≤ 24 ∧ 0 ≤ (S 1100033 0) ∧ (S 1100033 0) < (S 1046 0) ∧ (S 29 (S 1100033 0)) = (S 53 ((S 1092 0) - 1)) ∧ 0 ≤ (S 53 ((S 1092 0) - 1)) ∧ (S 53 ((S 1092 0) - 1)) < (S 1032 0) ∧ (S 60 ((S 1092 0) - 1)) = sm_dp (S 1100024) (S 1100023 (S 1100033 0)) ∧ sm_TC (S 61) (S 62) (S 27) (S 1100007) (S 1100023) (S 1100024) (40 * ((S 1092 0) - 1)) (S 1100023 (S 1100033 0)) ∧ sm_LK (S 1100029) (S 1076 0) (S 54 ((S 1092 0) - 1)) (S 53 ((S 1092 0) - 1)) ∧ sm_VO (S 44) (S 1076 0) (S 1007 0) ((S 55 ((S 1092 0) - 1))) ((S 56 ((S 1092 0) - 1))) ∧ sm_FW (S 44) (S 1076 0) (S 59 ((S 1092 0) - 1)) ∧ sm_FL (S 53) (S 54) (S 55) (S 56) (S 57) (S 58) (S 59) (S 60) (S 61) (S 62) (S 63) (S 64) (S 27) (S 29) (S 1100007) (S 1100023) (S 1100024) (S 1100025) (S 26) (S 1100029) (S 44) (S 1046 0) (S 1032 0) (S 1076 0) (S 1007 0) (((S 1092 0) - 1)) ∧ (S 57 ((S 1092 0) - 1)) = (S 1100033 0) ∧ 0 ≤ (S 58 ((S 1092 0) - 1)) ∧ (S 58 ((S 1092 0) - 1)) ≤ 400 ∧ sm_SK (S 63) (S 64) (S 44) (S 1100007) (S 1100025) (S 1076 0) (S 1007 0) (400 * ((S 1092 0) - 1)) ((S 58 ((S 1092 0) - 1))) ((S 1100034 0)) ∧ -1 ≤ (S 1100034 0) ∧ (S 1100034 0) < (S 1046 0) ∧ (0 ≤ (S 1100034 0) → (S 26 (S 1100034 0)) = 29) ∧ (S 58 ((S 1092 0) - 1)) = (S 1100007 (S 1100033 0)) ∧ (S 1100034 0) = (S 1100025 (S 1100033 0)) ∧ (0 ≤ (S 1100023 (S 1100033 0)) → (S 1100007 (S 1100023 (S 1100033 0))) ≤ (S 58 ((S 1092 0) - 1))) ∧ (S 58 ((S 1092 0) - 1)) ≤ 396 ∧ 0 ≤ (S 58 ((S 1092 0) - 1)) ∧ (0 ≤ (S 1100034 0) → (S 1100007 (S 1100034 0)) ≤ (S 58 ((S 1092 0) - 1)) - 0) ∧ (S 1100033 0) + 1 < (S 1046 0) ∧ (S 29 ((S 1100033 0) + 1)) = (S 29 (S 1100033 0)) ∧ (S 1100007 ((S 1100033 0) + 1)) = (S 58 ((S 1092 0) - 1)) + 1 ∧ (S 1100023 ((S 1100033 0) + 1)) = (S 1100023 (S 1100033 0)) ∧ (S 1100025 ((S 1100033 0) + 1)) = (S 1100034 0) ∧ 0 ≤ p2 ∧ p2 < (S 1008 0) ∧ (p1 = 0 ∨ p1 = 1)) → (sm_PL (S 1100020) (S 51) (S 52) (S 46) (S 47) (S 1076 0) (S 1086 0) ∧ 0 ≤ (S 1076 0) ∧ (S 1076 0) ≤ 300 ∧ 0 ≤ (S 1084 0) ∧ (S 1084 0) ≤ 3000 ∧ 0 ≤ (S 1086 0) ∧ 0 ≤ (0 : Int) ∧ (0 : Int) < (S 1076 0)) ∧ (∀ r6 : Int, sv_R r6 → ((r6 = -1 ∨ (0 ≤ r6 ∧ r6 < 3000 ∧ (S 1100020 r6) = (0 : Int) ∧ (S 48 r6) = p2)) ∧ (r6 = -1 → sm_NB (S 1100020) (S 51) (S 48) ((0 : Int)) (p2) (-1))) → ((sm_PV (S 1100020) (S 48) (S 49) (S 50) (S 44) (S 1076 0) (S 1007 0) → 0 ≤ r6 → r6 < 3000 → 0 ≤ (S 1100020 r6) → (0 ≤ (S 48 r6) ∧ (S 48 r6) < (S 1007 0)) ∧ sm_VO (S 44) (S 1076 0) (S 1007 0) ((S 49 r6)) ((S 50 r6))) → (((¬ r6 = (-1 : Int)) → (((¬ r6 = (-1 : Int)) → (((p1 = (0 : Int)) → (0 ≤ r6 ∧ r6 < 3000) ∧ (sv_R (S 49 r6) → (sv_R (S 50 r6) → (((S 49 r6) = 7 → 0 ≤ (S 50 r6) ∧ (S 50 r6) < 300) ∧ 0 ≤ (S 49 r6) ∧ (S 49 r6) ≤ 7) ∧ (∀ r16 : Int, sv_R r16 → (19 ≤ r16 ∧ r16 ≤ 24) → (∀ g17 : sv_S, ((g17 1111 0) = (6 : Int) ∧ (g17 1112 0) = r16) → (((S 1075 0) = 0 → (S 1073 0) = 1 → sm_PL (S 1100020) (S 51) (S 52) (S 46) (S 47) (S 1076 0) (S 1086 0) ∧ sm_FR (S 1100020) (S 52) (S 1100021) (S 1100022) (3000 - (S 1084 0)) (S 1085 0) ∧ sm_PV (S 1100020) (S 48) (S 49) (S 50) (S 44) (S 1076 0) (S 1007 0) ∧ sm_AL (S 1100020) (S 48) (S 49) (S 50) (S 44) (S 1076 0) (S 1100032 0) ∧ sm_SV (S 1100020) (S 48) (S 1100029) (S 32) (S 33) (S 1076 0) (S 1032 0) ∧ 0 ≤ (S 1076 0) ∧ (S 1076 0) ≤ 300 ∧ 0 ≤ (S 1084 0) ∧ (S 1084 0) ≤ 3000 ∧ 0 ≤ (S 1086 0) ∧ sm_SC (S 1100029) (S 44) (S 45) (S 43) (S 21) (S 1076 0) (S 1032 0) ∧ sm_PO (S 42) (S 1076 0) ∧ (S 1100032 0) = -1 ∧ sm_FO (S 44) (S 45) (S 1076 0) ∧ 23 ≤ (S 1076 0) ∧ 31 ≤ (S 1007 0) ∧ (S 1007 0) ≤ 400 ∧ sm_LN (S 4) 400 (S 1007 0) ∧ sm_CT (S 26) (S 27) (S 28) (S 29) (S 1100007) (S 1100023) (S 1100024) (S 1100025) (S 21) (S 1046 0) (S 1032 0) (S 1008 0) (S 1055 0) ∧ sm_LS (S 26) (S 1100007) (S 1100025) (S 1046 0) ∧ sm_CL (S 1100007) (S 1100023) (S 1100025) (S 1046 0) ∧ 1 ≤ (S 1032 0) ∧ (S 1032 0) ≤ 11 ∧ 0 ≤ (S 1046 0) ∧ (S 1046 0) ≤ 600 ∧ 31 ≤ (S 1008 0) ∧ (S 1008 0) ≤ (S 1007 0) ∧ 0 ≤ (S 1055 0) ∧ (S 1055 0) ≤ 19 ∧ 1 ≤ (S 1092 0) ∧ (S 1092 0) ≤ 24 ∧ 0 ≤ (S 1100033 0) ∧ (S 1100033 0) < (S 1046 0) ∧ (S 29 (S 1100033 0)) = (S 53 ((S 1092 0) - 1)) ∧ 0 ≤ (S 53 ((S 1092 0) - 1)) ∧ (S 53 ((S 1092 0) - 1)) < (S 1032 0) ∧ (S 60 ((S 1092 0) - 1)) = sm_dp (S 1100024) (S 1100023 (S 1100033 0)) ∧ sm_TC (S 61) (S 62) (S 27) (S 1100007) (S 1100023) (S 1100024) (40 * ((S 1092 0) - 1)) (S 1100023 (S 1100033 0)) ∧ sm_LK (S 1100029) (S 1076 0) (S 54 ((S 1092 0) - 1)) (S 53 ((S 1092 0) - 1)) ∧ sm_VO (S 44) (S 1076 0) (S 1007 0) ((S 55 ((S 1092 0) - 1))) ((S 56 ((S 1092 0) - 1))) ∧ sm_FW (S 44) (S 1076 0) (S 59 ((S 1092 0) - 1)) ∧ sm_FL (S 53) (S 54) (S 55) (S 56) (S 57) (S 58) (S 59) (S 60) (S 61) (S 62) (S 63) (S 64) (S 27) (S 29) (S 1100007) (S 1100023) (S 1100024) (S 1100025) (S 26) (S 1100029) (S 44) (S 1046 0) (S 1032 0) (S 1076 0) (S 1007 0) (((S 1092 0) - 1)) ∧ (S 57 ((S 1092 0) - 1)) = (S 1100033 0) ∧ 0 ≤ (S 58 ((S 1092 0) - 1)) ∧ (S 58 ((S 1092 0) - 1)) ≤ 400 ∧ sm_SK (S 63) (S 64) (S 44) (S 1100007) (S 1100025) (S 1076 0) (S 1007 0) (400 * ((S 1092 0) - 1)) ((S 58 ((S 1092 0) - 1))) ((S 1100034 0)) ∧ -1 ≤ (S 1100034 0) ∧ (S 1100034 0) < (S 1046 0) ∧ (0 ≤ (S 1100034 0) → (S 26 (S 1100034 0)) = 29) ∧ 0 ≤ (0 : Int) ∧ (0 : Int) ≤ (S 58 ((S 1092 0) - 1)) ∧ (S 58 ((S 1092 0) - 1)) - (0 : Int) ≤ 399 ∧ sm_VO (S 44) (S 1076 0) (S 1007 0) ((g17 1111 0)) ((g17 1112 0)) ∧ (0 ≤ (S 1100034 0) → (S 1100007 (S 1100034 0)) ≤ (S 58 ((S 1092 0) - 1)) - (0 : Int)) ∧ (S 1100033 0) + 1 < (S 1046 0) ∧ (S 29 ((S 1100033 0) + 1)) = (S 29 (S 1100033 0)) ∧ (S 1100007 ((S 1100033 0) + 1)) = (S 58 ((S 1092 0) - 1)) - (0 : Int) + 1 ∧ (S 1100023 ((S 1100033 0) + 1)) = (S 1100023 (S 1100033 0)) ∧ (S 1100025 ((S 1100033 0) + 1)) = (S 1100034 0)) ∧ (¬ (S 1075 0) = 0 → sm_LX (S 58) (S 63) (S 64) (S 1092 0) (S 1076 0))) ∧ (∀ g23 : sv_S, (((S 1075 0) = 0 → (S 1073 0) = 1 → 1 ≤ (S 1092 0) ∧ (S 1092 0) ≤ 24 ∧ 0 ≤ (g23 57 ((S 1092 0) - 1)) ∧ (g23 57 ((S 1092 0) - 1)) < (S 1046 0) ∧ (S 29 (g23 57 ((S 1092 0) - 1))) = (S 53 ((S 1092 0) - 1)) ∧ 0 ≤ (S 53 ((S 1092 0) - 1)) ∧ (S 53 ((S 1092 0) - 1)) < (S 1032 0) ∧ (S 60 ((S 1092 0) - 1)) = sm_dp (S 1100024) (S 1100023 (g23 57 ((S 1092 0) - 1))) ∧ sm_TC (S 61) (S 62) (S 27) (S 1100007) (S 1100023) (S 1100024) (40 * ((S 1092 0) - 1)) (S 1100023 (g23 57 ((S 1092 0) - 1))) ∧ sm_LK (S 1100029) (S 1076 0) (S 54 ((S 1092 0) - 1)) (S 53 ((S 1092 0) - 1)) ∧ sm_VO (S 44) (S 1076 0) (S 1007 0) ((S 55 ((S 1092 0) - 1))) ((S 56 ((S 1092 0) - 1))) ∧ sm_FW (S 44) (S 1076 0) (S 59 ((S 1092 0) - 1)) ∧ sm_FL (S 53) (S 54) (S 55) (S 56) (g23 57) (g23 58) (S 59) (S 60) (S 61) (S 62) (g23 63) (g23 64) (S 27) (S 29) (S 1100007) (S 1100023) (S 1100024) (S 1100025) (S 26) (S 1100029) (S 44) (S 1046 0) (S 1032 0) (S 1076 0) (S 1007 0) (((S 1092 0) - 1)) ∧ (g23 58 ((S 1092 0) - 1)) = (S 1100007 (g23 57 ((S 1092 0) - 1))) ∧ sm_SK (g23 63) (g23 64) (S 44) (S 1100007) (S 1100025) (S 1076 0) (S 1007 0) (400 * ((S 1092 0) - 1)) ((g23 58 ((S 1092 0) - 1))) ((S 1100025 (g23 57 ((S 1092 0) - 1))))) ∧ (¬ (S 1075 0) = 0 → sm_LX (g23 58) (g23 63) (g23 64) (S 1092 0) (S 1076 0))) → (sm_PL (S 1100020) (S 51) (S 52) (S 46) (S 47) (S 1076 0) (S 1086 0) ∧ sm_FR (S 1100020) (S 52) (S 1100021) (S 1100022) (3000 - (S 1084 0)) (S 1085 0) ∧ sm_PV (S 1100020) (S 48) (S 49) (S 50) (S 44) (S 1076 0) (S 1007 0) ∧ sm_AL (S 1100020) (S 48) (S 49) (S 50) (S 44) (S 1076 0) (S 1100032 0) ∧ sm_SV (S 1100020) (S 48) (S 1100029) (S 32) (S 33) (S 1076 0) (S 1032 0) ∧ 0 ≤ (S 1076 0) ∧ (S 1076 0) ≤ 300 ∧ 0 ≤ (S 1084 0) ∧ (S 1084 0) ≤ 3000 ∧ 0 ≤ (S 1086 0) ∧ sm_SC (S 1100029) (S 44) (S 45) (S 43) (S 21) (S 1076 0) (S 1032 0) ∧ sm_PO (S 42) (S 1076 0) ∧ ((S 1075 0) = 0 → (S 1100032 0) = -1 ∧ sm_FO (S 44) (S 45) (S 1076 0)) ∧ 23 ≤ (S 1076 0) ∧ 31 ≤ (S 1007 0) ∧ (S 1007 0) ≤ 400 ∧ sm_LN (S 4) 400 (S 1007 0) ∧ (S 1008 0) ≤ (S 1007 0) ∧ ((S 1075 0) = 1 → (S 1075 0) = 1) ∧ 0 ≤ (S 1092 0) ∧ (S 1092 0) ≤ 24 ∧ (S 1007 0) ≤ (S 1007 0) ∧ (¬ (S 1075 0) = 0 → sm_LX (g23 58) (g23 63) (g23 64) (S 1092 0) (S 1076 0)) ∧ ((S 1075 0) = 0 → (S 1073 0) = 1 → 1 ≤ (S 1092 0) ∧ (S 1092 0) ≤ 24 ∧ 0 ≤ (g23 57 ((S 1092 0) - 1)) ∧ (g23 57 ((S 1092 0) - 1)) < (S 1046 0) ∧ (S 29 (g23 57 ((S 1092 0) - 1))) = (S 53 ((S 1092 0) - 1)) ∧ 0 ≤ (S 53 ((S 1092 0) - 1)) ∧ (S 53 ((S 1092 0) - 1)) < (S 1032 0) ∧ (S 60 ((S 1092 0) - 1)) = sm_dp (S 1100024) (S 1100023 (g23 57 ((S 1092 0) - 1))) ∧ sm_TC (S 61) (S 62) (S 27) (S 1100007) (S 1100023) (S 1100024) (40 * ((S 1092 0) - 1)) (S 1100023 (g23 57 ((S 1092 0) - 1))) ∧ sm_LK (S 1100029) (S 1076 0) (S 54 ((S 1092 0) - 1)) (S 53 ((S 1092 0) - 1)) ∧ sm_VO (S 44) (S 1076 0) (S 1007 0) ((S 55 ((S 1092 0) - 1))) ((S 56 ((S 1092 0) - 1))) ∧ sm_FW (S 44) (S 1076 0) (S 59 ((S 1092 0) - 1)) ∧ sm_FL (S 53) (S 54) (S 55) (S 56) (g23 57) (g23 58) (S 59) (S 60) (S 61) (S 62) (g23 63) (g23 64) (S 27) (S 29) (S 1100007) (S 1100023) (S 1100024) (S 1100025) (S 26) (S 1100029) (S 44) (S 1046 0) (S 1032 0) (S 1076 0) (S 1007 0) (((S 1092 0) - 1)) ∧ (g23 58 ((S 1092 0) - 1)) = (S 1100007 (g23 57 ((S 1092 0) - 1))) ∧ sm_SK (g23 63) (g23 64) (S 44) (S 1100007) (S 1100025) (S 1076 0) (S 1007 0) (400 * ((S 1092 0) - 1)) ((g23 58 ((S 1092 0) - 1))) ((S 1100025 (g23 57 ((S 1092 0) - 1))))) ∧ ((S 1073 0) = 1 ∨ (S 1092 0) = 0 ∧ (S 1075 0) = 0 ∧ ((S 1073 0) = 2 ∨ (S 1073 0) = 3))))))))) ∧ ((¬ (p1 = (0 : Int))) → (0 ≤ r6 ∧ r6 < 3000) ∧ (sv_R (S 49 r6) → (sv_R (S 50 r6) → (∀ g31 : sv_S, ((g31 1111 0) = (S 49 r6) ∧ (g31 1112 0) = (S 50 r6)) → (((S 1075 0) = 0 → (S 1073 0) = 1 → sm_PL (S 1100020) (S 51) (S 52) (S 46) (S 47) (S 1076 0) (S 1086 0) ∧ sm_FR (S 1100020) (S 52) (S 1100021) (S 1100022) (3000 - (S 1084 0)) (S 1085 0) ∧ sm_PV (S 1100020) (S 48) (S 49) (S 50) (S 44) (S 1076 0) (S 1007 0) ∧ sm_AL (S 1100020) (S 48) (S 49) (S 50) (S 44) (S 1076 0) (S 1100032 0) ∧ sm_SV (S 1100020) (S 48) (S 1100029) (S 32) (S 33) (S 1076 0) (S 1032 0) ∧ 0 ≤ (S 1076 0) ∧ (S 1076 0) ≤ 300 ∧ 0 ≤ (S 1084 0) ∧ (S 1084 0) ≤ 3000 ∧ 0 ≤ (S 1086 0) ∧ sm_SC (S 1100029) (S 44) (S 45) (S 43) (S 21) (S 1076 0) (S 1032 0) ∧ sm_PO (S 42) (S 1076 0) ∧ (S 1100032 0) = -1 ∧ sm_FO (S 44) (S 45) (S 1076 0) ∧ 23 ≤ (S 1076 0) ∧ 31 ≤ (S 1007 0) ∧ (S 1007 0) ≤ 400 ∧ sm_LN (S 4) 400 (S 1007 0) ∧ sm_CT (S 26) (S 27) (S 28) (S 29) (S 1100007) (S 1100023) (S 1100024) (S 1100025) (S 21) (S 1046 0) (S 1032 0) (S 1008 0) (S 1055 0) ∧ sm_LS (S 26) (S 1100007) (S 1100025) (S 1046 0) ∧ sm_CL (S 1100007) (S 1100023) (S 1100025) (S 1046 0) ∧ 1 ≤ (S 1032 0) ∧ (S 1032 0) ≤ 11 ∧ 0 ≤ (S 1046 0) ∧ (S 1046 0) ≤ 600 ∧ 31 ≤ (S 1008 0) ∧ (S 1008 0) ≤ (S 1007 0) ∧ 0 ≤ (S 1055 0) ∧ (S 1055 0) ≤ 19 ∧ 1 ≤ (S 1092 0) ∧ (S 1092 0) ≤ 24 ∧ 0 ≤ (S 1100033 0) ∧ (S 1100033 0) < (S 1046 0) ∧ (S 29 (S 1100033 0)) = (S 53 ((S 1092 0) - 1)) ∧ 0 ≤ (S 53 ((S 1092 0) - 1)) ∧ (S 53 ((S 1092 0) - 1)) < (S 1032 0) ∧ (S 60 ((S 1092 0) - 1)) = sm_dp (S 1100024) (S 1100023 (S 1100033 0)) ∧ sm_TC (S 61) (S 62) (S 27) (S 1100007) (S 1100023) (S 1100024) (40 * ((S 1092 0) - 1)) (S 1100023 (S 1100033 0)) ∧ sm_LK (S 1100029) (S 1076 0) (S 54 ((S 1092 0) - 1)) (S 53 ((S 1092 0) - 1)) ∧ sm_VO (S 44) (S 1076 0) (S 1007 0) ((S 55 ((S 1092 0) - 1))) ((S 56 ((S 1092 0) - 1))) ∧ sm_FW (S 44) (S 1076 0) (S 59 ((S 1092 0) - 1)) ∧ sm_FL (S 53) (S 54) (S 55) (S 56) (S 57) (S 58) (S 59) (S 60) (S 61) (S 62) (S 63) (S 64) (S 27) (S 29) (S 1100007) (S 1100023) (S 1100024) (S 1100025) (S 26) (S 1100029) (S 44) (S 1046 0) (S 1032 0) (S 1076 0) (S 1007 0) (((S 1092 0) - 1)) ∧ (S 57 ((S 1092 0) - 1)) = (S 1100033 0) ∧ 0 ≤ (S 58 ((S 1092 0) - 1)) ∧ (S 58 ((S 1092 0) - 1)) ≤ 400 ∧ sm_SK (S 63) (S 64) (S 44) (S 1100007) (S 1100025) (S 1076 0) (S 1007 0) (400 * ((S 1092 0) - 1)) ((S 58 ((S 1092 0) - 1))) ((S 1100034 0)) ∧ -1 ≤ (S 1100034 0) ∧ (S 1100034 0) < (S 1046 0) ∧ (0 ≤ (S 1100034 0) → (S 26 (S 1100034 0)) = 29) ∧ 0 ≤ (0 : Int) ∧ (0 : Int) ≤ (S 58 ((S 1092 0) - 1)) ∧ (S 58 ((S 1092 0) - 1)) - (0 : Int) ≤ 399 ∧ sm_VO (S 44) (S 1076 0) (S 1007 0) ((g31 1111 0)) ((g31 1112 0)) ∧ (0 ≤ (S 1100034 0) → (S 1100007 (S 1100034 0)) ≤ (S 58 ((S 1092 0) - 1)) - (0 : Int)) ∧ (S 1100033 0) + 1 < (S 1046 0) ∧ (S 29 ((S 1100033 0) + 1)) = (S 29 (S 1100033 0)) ∧ (S 1100007 ((S 1100033 0) + 1)) = (S 58 ((S 1092 0) - 1)) - (0 : Int) + 1 ∧ (S 1100023 ((S 1100033 0) + 1)) = (S 1100023 (S 1100033 0)) ∧ (S 1100025 ((S 1100033 0) + 1)) = (S 1100034 0)) ∧ (¬ (S 1075 0) = 0 → sm_LX (S 58) (S 63) (S 64) (S 1092 0) (S 1076 0))) ∧ (∀ g37 : sv_S, (((S 1075 0) = 0 → (S 1073 0) = 1 → 1 ≤ (S 1092 0) ∧ (S 1092 0) ≤ 24 ∧ 0 ≤ (g37 57 ((S 1092 0) - 1)) ∧ (g37 57 ((S 1092 0) - 1)) < (S 1046 0) ∧ (S 29 (g37 57 ((S 1092 0) - 1))) = (S 53 ((S 1092 0) - 1)) ∧ 0 ≤ (S 53 ((S 1092 0) - 1)) ∧ (S 53 ((S 1092 0) - 1)) < (S 1032 0) ∧ (S 60 ((S 1092 0) - 1)) = sm_dp (S 1100024) (S 1100023 (g37 57 ((S 1092 0) - 1))) ∧ sm_TC (S 61) (S 62) (S 27) (S 1100007) (S 1100023) (S 1100024) (40 * ((S 1092 0) - 1)) (S 1100023 (g37 57 ((S 1092 0) - 1))) ∧ sm_LK (S 1100029) (S 1076 0) (S 54 ((S 1092 0) - 1)) (S 53 ((S 1092 0) - 1)) ∧ sm_VO (S 44) (S 1076 0) (S 1007 0) ((S 55 ((S 1092 0) - 1))) ((S 56 ((S 1092 0) - 1))) ∧ sm_FW (S 44) (S 1076 0) (S 59 ((S 1092 0) - 1)) ∧ sm_FL (S 53) (S 54) (S 55) (S 56) (g37 57) (g37 58) (S 59) (S 60) (S 61) (S 62) (g37 63) (g37 64) (S 27) (S 29) (S 1100007) (S 1100023) (S 1100024) (S 1100025) (S 26) (S 1100029) (S 44) (S 1046 0) (S 1032 0) (S 1076 0) (S 1007 0) (((S 1092 0) - 1)) ∧ (g37 58 ((S 1092 0) - 1)) = (S 1100007 (g37 57 ((S 1092 0) - 1))) ∧ sm_SK (g37 63) (g37 64) (S 44) (S 1100007) (S 1100025) (S 1076 0) (S 1007 0) (400 * ((S 1092 0) - 1)) ((g37 58 ((S 1092 0) - 1))) ((S 1100025 (g37 57 ((S 1092 0) - 1))))) ∧ (¬ (S 1075 0) = 0 → sm_LX (g37 58) (g37 63) (g37 64) (S 1092 0) (S 1076 0))) → (sm_PL (S 1100020) (S 51) (S 52) (S 46) (S 47) (S 1076 0) (S 1086 0) ∧ sm_FR (S 1100020) (S 52) (S 1100021) (S 1100022) (3000 - (S 1084 0)) (S 1085 0) ∧ sm_PV (S 1100020) (S 48) (S 49) (S 50) (S 44) (S 1076 0) (S 1007 0) ∧ sm_AL (S 1100020) (S 48) (S 49) (S 50) (S 44) (S 1076 0) (S 1100032 0) ∧ sm_SV (S 1100020) (S 48) (S 1100029) (S 32) (S 33) (S 1076 0) (S 1032 0) ∧ 0 ≤ (S 1076 0) ∧ (S 1076 0) ≤ 300 ∧ 0 ≤ (S 1084 0) ∧ (S 1084 0) ≤ 3000 ∧ 0 ≤ (S 1086 0) ∧ sm_SC (S 1100029) (S 44) (S 45) (S 43) (S 21) (S 1076 0) (S 1032 0) ∧ sm_PO (S 42) (S 1076 0) ∧ ((S 1075 0) = 0 → (S 1100032 0) = -1 ∧ sm_FO (S 44) (S 45) (S 1076 0)) ∧ 23 ≤ (S 1076 0) ∧ 31 ≤ (S 1007 0) ∧ (S 1007 0) ≤ 400 ∧ sm_LN (S 4) 400 (S 1007 0) ∧ (S 1008 0) ≤ (S 1007 0) ∧ ((S 1075 0) = 1 → (S 1075 0) = 1) ∧ 0 ≤ (S 1092 0) ∧ (S 1092 0) ≤ 24 ∧ (S 1007 0) ≤ (S 1007 0) ∧ (¬ (S 1075 0) = 0 → sm_LX (g37 58) (g37 63) (g37 64) (S 1092 0) (S 1076 0)) ∧ ((S 1075 0) = 0 → (S 1073 0) = 1 → 1 ≤ (S 1092 0) ∧ (S 1092 0) ≤ 24 ∧ 0 ≤ (g37 57 ((S 1092 0) - 1)) ∧ (g37 57 ((S 1092 0) - 1)) < (S 1046 0) ∧ (S 29 (g37 57 ((S 1092 0) - 1))) = (S 53 ((S 1092 0) - 1)) ∧ 0 ≤ (S 53 ((S 1092 0) - 1)) ∧ (S 53 ((S 1092 0) - 1)) < (S 1032 0) ∧ (S 60 ((S 1092 0) - 1)) = sm_dp (S 1100024) (S 1100023 (g37 57 ((S 1092 0) - 1))) ∧ sm_TC (S 61) (S 62) (S 27) (S 1100007) (S 1100023) (S 1100024) (40 * ((S 1092 0) - 1)) (S 1100023 (g37 57 ((S 1092 0) - 1))) ∧ sm_LK (S 1100029) (S 1076 0) (S 54 ((S 1092 0) - 1)) (S 53 ((S 1092 0) - 1)) ∧ sm_VO (S 44) (S 1076 0) (S 1007 0) ((S 55 ((S 1092 0) - 1))) ((S 56 ((S 1092 0) - 1))) ∧ sm_FW (S 44) (S 1076 0) (S 59 ((S 1092 0) - 1)) ∧ sm_FL (S 53) (S 54) (S 55) (S 56) (g37 57) (g37 58) (S 59) (S 60) (S 61) (S 62) (g37 63) (g37 64) (S 27) (S 29) (S 1100007) (S 1100023) (S 1100024) (S 1100025) (S 26) (S 1100029) (S 44) (S 1046 0) (S 1032 0) (S 1076 0) (S 1007 0) (((S 1092 0) - 1)) ∧ (g37 58 ((S 1092 0) - 1)) = (S 1100007 (g37 57 ((S 1092 0) - 1))) ∧ sm_SK (g37 63) (g37 64) (S 44) (S 1100007) (S 1100025) (S 1076 0) (S 1007 0) (400 * ((S 1092 0) - 1)) ((g37 58 ((S 1092 0) - 1))) ((S 1100025 (g37 57 ((S 1092 0) - 1))))) ∧ ((S 1073 0) = 1 ∨ (S 1092 0) = 0 ∧ (S 1075 0) = 0 ∧ ((S 1073 0) = 2 ∨ (S 1073 0) = 3)))))))))) ∧ ((¬ (¬ r6 = (-1 : Int))) → (∀ g42 : sv_S, ((g42 1111 0) = (6 : Int) ∧ (g42 1112 0) = (19 : Int)) → (((S 1075 0) = 0 → (S 1073 0) = 1 → sm_PL (S 1100020) (S 51) (S 52) (S 46) (S 47) (S 1076 0) (S 1086 0) ∧ sm_FR (S 1100020) (S 52) (S 1100021) (S 1100022) (3000 - (S 1084 0)) (S 1085 0) ∧ sm_PV (S 1100020) (S 48) (S 49) (S 50) (S 44) (S 1076 0) (S 1007 0) ∧ sm_AL (S 1100020) (S 48) (S 49) (S 50) (S 44) (S 1076 0) (S 1100032 0) ∧ sm_SV (S 1100020) (S 48) (S 1100029) (S 32) (S 33) (S 1076 0) (S 1032 0) ∧ 0 ≤ (S 1076 0) ∧ (S 1076 0) ≤ 300 ∧ 0 ≤ (S 1084 0) ∧ (S 1084 0) ≤ 3000 ∧ 0 ≤ (S 1086 0) ∧ sm_SC (S 1100029) (S 44) (S 45) (S 43) (S 21) (S 1076 0) (S 1032 0) ∧ sm_PO (S 42) (S 1076 0) ∧ (S 1100032 0) = -1 ∧ sm_FO (S 44) (S 45) (S 1076 0) ∧ 23 ≤ (S 1076 0) ∧ 31 ≤ (S 1007 0) ∧ (S 1007 0) ≤ 400 ∧ sm_LN (S 4) 400 (S 1007 0) ∧ sm_CT (S 26) (S 27) (S 28) (S 29) (S 1100007) (S 1100023) (S 1100024) (S 1100025) (S 21) (S 1046 0) (S 1032 0) (S 1008 0) (S 1055 0) ∧ sm_LS (S 26) (S 1100007) (S 1100025) (S 1046 0) ∧ sm_CL (S 1100007) (S 1100023) (S 1100025) (S 1046 0) ∧ 1 ≤ (S 1032 0) ∧ (S 1032 0) ≤ 11 ∧ 0 ≤ (S 1046 0) ∧ (S 1046 0) ≤ 600 ∧ 31 ≤ (S 1008 0) ∧ (S 1008 0) ≤ (S 1007 0) ∧ 0 ≤ (S 1055 0) ∧ (S 1055 0) ≤ 19 ∧ 1 ≤ (S 1092 0) ∧ (S 1092 0) ≤ 24 ∧ 0 ≤ (S 1100033 0) ∧ (S 1100033 0) < (S 1046 0) ∧ (S 29 (S 1100033 0)) = (S 53 ((S 1092 0) - 1)) ∧ 0 ≤ (S 53 ((S 1092 0) - 1)) ∧ (S 53 ((S 1092 0) - 1)) < (S 1032 0) ∧ (S 60 ((S 1092 0) - 1)) = sm_dp (S 1100024) (S 1100023 (S 1100033 0)) ∧ sm_TC (S 61) (S 62) (S 27) (S 1100007) (S 1100023) (S 1100024) (40 * ((S 1092 0) - 1)) (S 1100023 (S 1100033 0)) ∧ sm_LK (S 1100029) (S 1076 0) (S 54 ((S 1092 0) - 1)) (S 53 ((S 1092 0) - 1)) ∧ sm_VO (S 44) (S 1076 0) (S 1007 0) ((S 55 ((S 1092 0) - 1))) ((S 56 ((S 1092 0) - 1))) ∧ sm_FW (S 44) (S 1076 0) (S 59 ((S 1092 0) - 1)) ∧ sm_FL (S 53) (S 54) (S 55) (S 56) (S 57) (S 58) (S 59) (S 60) (S 61) (S 62) (S 63) (S 64) (S 27) (S 29) (S 1100007) (S 1100023) (S 1100024) (S 1100025) (S 26) (S 1100029) (S 44) (S 1046 0) (S 1032 0) (S 1076 0) (S 1007 0) (((S 1092 0) - 1)) ∧ (S 57 ((S 1092 0) - 1)) = (S 1100033 0) ∧ 0 ≤ (S 58 ((S 1092 0) - 1)) ∧ (S 58 ((S 1092 0) - 1)) ≤ 400 ∧ sm_SK (S 63) (S 64) (S 44) (S 1100007) (S 1100025) (S 1076 0) (S 1007 0) (400 * ((S 1092 0) - 1)) ((S 58 ((S 1092 0) - 1))) ((S 1100034 0)) ∧ -1 ≤ (S 1100034 0) ∧ (S 1100034 0) < (S 1046 0) ∧ (0 ≤ (S 1100034 0) → (S 26 (S 1100034 0)) = 29) ∧ 0 ≤ (0 : Int) ∧ (0 : Int) ≤ (S 58 ((S 1092 0) - 1)) ∧ (S 58 ((S 1092 0) - 1)) - (0 : Int) ≤ 399 ∧ sm_VO (S 44) (S 1076 0) (S 1007 0) ((g42 1111 0)) ((g42 1112 0)) ∧ (0 ≤ (S 1100034 0) → (S 1100007 (S 1100034 0)) ≤ (S 58 ((S 1092 0) - 1)) - (0 : Int)) ∧ (S 1100033 0) + 1 < (S 1046 0) ∧ (S 29 ((S 1100033 0) + 1)) = (S 29 (S 1100033 0)) ∧ (S 1100007 ((S 1100033 0) + 1)) = (S 58 ((S 1092 0) - 1)) - (0 : Int) + 1 ∧ (S 1100023 ((S 1100033 0) + 1)) = (S 1100023 (S 1100033 0)) ∧ (S 1100025 ((S 1100033 0) + 1)) = (S 1100034 0)) ∧ (¬ (S 1075 0) = 0 → sm_LX (S 58) (S 63) (S 64) (S 1092 0) (S 1076 0))) ∧ (∀ g48 : sv_S, (((S 1075 0) = 0 → (S 1073 0) = 1 → 1 ≤ (S 1092 0) ∧ (S 1092 0) ≤ 24 ∧ 0 ≤ (g48 57 ((S 1092 0) - 1)) ∧ (g48 57 ((S 1092 0) - 1)) < (S 1046 0) ∧ (S 29 (g48 57 ((S 1092 0) - 1))) = (S 53 ((S 1092 0) - 1)) ∧ 0 ≤ (S 53 ((S 1092 0) - 1)) ∧ (S 53 ((S 1092 0) - 1)) < (S 1032 0) ∧ (S 60 ((S 1092 0) - 1)) = sm_dp (S 1100024) (S 1100023 (g48 57 ((S 1092 0) - 1))) ∧ sm_TC (S 61) (S 62) (S 27) (S 1100007) (S 1100023) (S 1100024) (40 * ((S 1092 0) - 1)) (S 1100023 (g48 57 ((S 1092 0) - 1))) ∧ sm_LK (S 1100029) (S 1076 0) (S 54 ((S 1092 0) - 1)) (S 53 ((S 1092 0) - 1)) ∧ sm_VO (S 44) (S 1076 0) (S 1007 0) ((S 55 ((S 1092 0) - 1))) ((S 56 ((S 1092 0) - 1))) ∧ sm_FW (S 44) (S 1076 0) (S 59 ((S 1092 0) - 1)) ∧ sm_FL (S 53) (S 54) (S 55) (S 56) (g48 57) (g48 58) (S 59) (S 60) (S 61) (S 62) (g48 63) (g48 64) (S 27) (S 29) (S 1100007) (S 1100023) (S 1100024) (S 1100025) (S 26) (S 1100029) (S 44) (S 1046 0) (S 1032 0) (S 1076 0) (S 1007 0) (((S 1092 0) - 1)) ∧ (g48 58 ((S 1092 0) - 1)) = (S 1100007 (g48 57 ((S 1092 0) - 1))) ∧ sm_SK (g48 63) (g48 64) (S 44) (S 1100007) (S 1100025) (S 1076 0) (S 1007 0) (400 * ((S 1092 0) - 1)) ((g48 58 ((S 1092 0) - 1))) ((S 1100025 (g48 57 ((S 1092 0) - 1))))) ∧ (¬ (S 1075 0) = 0 → sm_LX (g48 58) (g48 63) (g48 64) (S 1092 0) (S 1076 0))) → (sm_PL (S 1100020) (S 51) (S 52) (S 46) (S 47) (S 1076 0) (S 1086 0) ∧ sm_FR (S 1100020) (S 52) (S 1100021) (S 1100022) (3000 - (S 1084 0)) (S 1085 0) ∧ sm_PV (S 1100020) (S 48) (S 49) (S 50) (S 44) (S 1076 0) (S 1007 0) ∧ sm_AL (S 1100020) (S 48) (S 49) (S 50) (S 44) (S 1076 0) (S 1100032 0) ∧ sm_SV (S 1100020) (S 48) (S 1100029) (S 32) (S 33) (S 1076 0) (S 1032 0) ∧ 0 ≤ (S 1076 0) ∧ (S 1076 0) ≤ 300 ∧ 0 ≤ (S 1084 0) ∧ (S 1084 0) ≤ 3000 ∧ 0 ≤ (S 1086 0) ∧ sm_SC (S 1100029) (S 44) (S 45) (S 43) (S 21) (S 1076 0) (S 1032 0) ∧ sm_PO (S 42) (S 1076 0) ∧ ((S 1075 0) = 0 → (S 1100032 0) = -1 ∧ sm_FO (S 44) (S 45) (S 1076 0)) ∧ 23 ≤ (S 1076 0) ∧ 31 ≤ (S 1007 0) ∧ (S 1007 0) ≤ 400 ∧ sm_LN (S 4) 400 (S 1007 0) ∧ (S 1008 0) ≤ (S 1007 0) ∧ ((S 1075 0) = 1 → (S 1075 0) = 1) ∧ 0 ≤ (S 1092 0) ∧ (S 1092 0) ≤ 24 ∧ (S 1007 0) ≤ (S 1007 0) ∧ (¬ (S 1075 0) = 0 → sm_LX (g48 58) (g48 63) (g48 64) (S 1092 0) (S 1076 0)) ∧ ((S 1075 0) = 0 → (S 1073 0) = 1 → 1 ≤ (S 1092 0) ∧ (S 1092 0) ≤ 24 ∧ 0 ≤ (g48 57 ((S 1092 0) - 1)) ∧ (g48 57 ((S 1092 0) - 1)) < (S 1046 0) ∧ (S 29 (g48 57 ((S 1092 0) - 1))) = (S 53 ((S 1092 0) - 1)) ∧ 0 ≤ (S 53 ((S 1092 0) - 1)) ∧ (S 53 ((S 1092 0) - 1)) < (S 1032 0) ∧ (S 60 ((S 1092 0) - 1)) = sm_dp (S 1100024) (S 1100023 (g48 57 ((S 1092 0) - 1))) ∧ sm_TC (S 61) (S 62) (S 27) (S 1100007) (S 1100023) (S 1100024) (40 * ((S 1092 0) - 1)) (S 1100023 (g48 57 ((S 1092 0) - 1))) ∧ sm_LK (S 1100029) (S 1076 0) (S 54 ((S 1092 0) - 1)) (S 53 ((S 1092 0) - 1)) ∧ sm_VO (S 44) (S 1076 0) (S 1007 0) ((S 55 ((S 1092 0) - 1))) ((S 56 ((S 1092 0) - 1))) ∧ sm_FW (S 44) (S 1076 0) (S 59 ((S 1092 0) - 1)) ∧ sm_FL (S 53) (S 54) (S 55) (S 56) (g48 57) (g48 58) (S 59) (S 60) (S 61) (S 62) (g48 63) (g48 64) (S 27) (S 29) (S 1100007) (S 1100023) (S 1100024) (S 1100025) (S 26) (S 1100029) (S 44) (S 1046 0) (S 1032 0) (S 1076 0) (S 1007 0) (((S 1092 0) - 1)) ∧ (g48 58 ((S 1092 0) - 1)) = (S 1100007 (g48 57 ((S 1092 0) - 1))) ∧ sm_SK (g48 63) (g48 64) (S 44) (S 1100007) (S 1100025) (S 1076 0) (S 1007 0) (400 * ((S 1092 0) - 1)) ((g48 58 ((S 1092 0) - 1))) ((S 1100025 (g48 57 ((S 1092 0) - 1))))) ∧ ((S 1073 0) = 1 ∨ (S 1092 0) = 0 ∧ (S 1075 0) = 0 ∧ ((S 1073 0) = 2 ∨ (S 1073 0) = 3)))))))) ∧ ((¬ (¬ r6 = (-1 : Int))) → (((p1 = (0 : Int)) → (((¬ r6 = (-1 : Int)) → (((p1 = (0 : Int)) → (0 ≤ r6 ∧ r6 < 3000) ∧ (sv_R (S 49 r6) → (sv_R (S 50 r6) → (((S 49 r6) = 7 → 0 ≤ (S 50 r6) ∧ (S 50 r6) < 300) ∧ 0 ≤ (S 49 r6) ∧ (S 49 r6) ≤ 7) ∧ (∀ r61 : Int, sv_R r61 → (19 ≤ r61 ∧ r61 ≤ 24) → (∀ g62 : sv_S, ((g62 1111 0) = (6 : Int) ∧ (g62 1112 0) = r61) → (((S 1075 0) = 0 → (S 1073 0) = 1 → sm_PL (S 1100020) (S 51) (S 52) (S 46) (S 47) (S 1076 0) (S 1086 0) ∧ sm_FR (S 1100020) (S 52) (S 1100021) (S 1100022) (3000 - (S 1084 0)) (S 1085 0) ∧ sm_PV (S 1100020) (S 48) (S 49) (S 50) (S 44) (S 1076 0) (S 1007 0) ∧ sm_AL (S 1100020) (S 48) (S 49) (S 50) (S 44) (S 1076 0) (S 1100032 0) ∧ sm_SV (S 1100020) (S 48) (S 1100029) (S 32) (S 33) (S 1076 0) (S 1032 0) ∧ 0 ≤ (S 1076 0) ∧ (S 1076 0) ≤ 300 ∧ 0 ≤ (S 1084 0) ∧ (S 1084 0) ≤ 3000 ∧ 0 ≤ (S 1086 0) ∧ sm_SC (S 1100029) (S 44) (S 45) (S 43) (S 21) (S 1076 0) (S 1032 0) ∧ sm_PO (S 42) (S 1076 0) ∧ (S 1100032 0) = -1 ∧ sm_FO (S 44) (S 45) (S 1076 0) ∧ 23 ≤ (S 1076 0) ∧ 31 ≤ (S 1007 0) ∧ (S 1007 0) ≤ 400 ∧ sm_LN (S 4) 400 (S 1007 0) ∧ sm_CT (S 26) (S 27) (S 28) (S 29) (S 1100007) (S 1100023) (S 1100024) (S 1100025) (S 21) (S 1046 0) (S 1032 0) (S 1008 0) (S 1055 0) ∧ sm_LS (S 26) (S 1100007) (S 1100025) (S 1046 0) ∧ sm_CL (S 1100007) (S 1100023) (S 1100025) (S 1046 0) ∧ 1 ≤ (S 1032 0) ∧ (S 1032 0) ≤ 11 ∧ 0 ≤ (S 1046 0) ∧ (S 1046 0) ≤ 600 ∧ 31 ≤ (S 1008 0) ∧ (S 1008 0) ≤ (S 1007 0) ∧ 0 ≤ (S 1055 0) ∧ (S 1055 0) ≤ 19 ∧ 1 ≤ (S 1092 0) ∧ (S 1092 0) ≤ 24 ∧ 0 ≤ (S 1100033 0) ∧ (S 1100033 0) < (S 1046 0) ∧ (S 29 (S 1100033 0)) = (S 53 ((S 1092 0) - 1)) ∧ 0 ≤ (S 53 ((S 1092 0) - 1)) ∧ (S 53 ((S 1092 0) - 1)) < (S 1032 0) ∧ (S 60 ((S 1092 0) - 1)) = sm_dp (S 1100024) (S 1100023 (S 1100033 0)) ∧ sm_TC (S 61) (S 62) (S 27) (S 1100007) (S 1100023) (S 1100024) (40 * ((S 1092 0) - 1)) (S 1100023 (S 1100033 0)) ∧ sm_LK (S 1100029) (S 1076 0) (S 54 ((S 1092 0) - 1)) (S 53 ((S 1092 0) - 1)) ∧ sm_VO (S 44) (S 1076 0) (S 1007 0) ((S 55 ((S 1092 0) - 1))) ((S 56 ((S 1092 0) - 1))) ∧ sm_FW (S 44) (S 1076 0) (S 59 ((S 1092 0) - 1)) ∧ sm_FL (S 53) (S 54) (S 55) (S 56) (S 57) (S 58) (S 59) (S 60) (S 61) (S 62) (S 63) (S 64) (S 27) (S 29) (S 1100007) (S 1100023) (S 1100024) (S 1100025) (S 26) (S 1100029) (S 44) (S 1046 0) (S 1032 0) (S 1076 0) (S 1007 0) (((S 1092 0) - 1)) ∧ (S 57 ((S 1092 0) - 1)) = (S 1100033 0) ∧ 0 ≤ (S 58 ((S 1092 0) - 1)) ∧ (S 58 ((S 1092 0) - 1)) ≤ 400 ∧ sm_SK (S 63) (S 64) (S 44) (S 1100007) (S 1100025) (S 1076 0) (S 1007 0) (400 * ((S 1092 0) - 1)) ((S 58 ((S 1092 0) - 1))) ((S 1100034 0)) ∧ -1 ≤ (S 1100034 0) ∧ (S 1100034 0) < (S 1046 0) ∧ (0 ≤ (S 1100034 0) → (S 26 (S 1100034 0)) = 29) ∧ 0 ≤ (0 : Int) ∧ (0 : Int) ≤ (S 58 ((S 1092 0) - 1)) ∧ (S 58 ((S 1092 0) - 1)) - (0 : Int) ≤ 399 ∧ sm_VO (S 44) (S 1076 0) (S 1007 0) ((g62 1111 0)) ((g62 1112 0)) ∧ (0 ≤ (S 1100034 0) → (S 1100007 (S 1100034 0)) ≤ (S 58 ((S 1092 0) - 1)) - (0 : Int)) ∧ (S 1100033 0) + 1 < (S 1046 0) ∧ (S 29 ((S 1100033 0) + 1)) = (S 29 (S 1100033 0)) ∧ (S 1100007 ((S 1100033 0) + 1)) = (S 58 ((S 1092 0) - 1)) - (0 : Int) + 1 ∧ (S 1100023 ((S 1100033 0) + 1)) = (S 1100023 (S 1100033 0)) ∧ (S 1100025 ((S 1100033 0) + 1)) = (S 1100034 0)) ∧ (¬ (S 1075 0) = 0 → sm_LX (S 58) (S 63) (S 64) (S 1092 0) (S 1076 0))) ∧ (∀ g68 : sv_S, (((S 1075 0) = 0 → (S 1073 0) = 1 → 1 ≤ (S 1092 0) ∧ (S 1092 0) ≤ 24 ∧ 0 ≤ (g68 57 ((S 1092 0) - 1)) ∧ (g68 57 ((S 1092 0) - 1)) < (S 1046 0) ∧ (S 29 (g68 57 ((S 1092 0) - 1))) = (S 53 ((S 1092 0) - 1)) ∧ 0 ≤ (S 53 ((S 1092 0) - 1)) ∧ (S 53 ((S 1092 0) - 1)) < (S 1032 0) ∧ (S 60 ((S 1092 0) - 1)) = sm_dp (S 1100024) (S 1100023 (g68 57 ((S 1092 0) - 1))) ∧ sm_TC (S 61) (S 62) (S 27) (S 1100007) (S 1100023) (S 1100024) (40 * ((S 1092 0) - 1)) (S 1100023 (g68 57 ((S 1092 0) - 1))) ∧ sm_LK (S 1100029) (S 1076 0) (S 54 ((S 1092 0) - 1)) (S 53 ((S 1092 0) - 1)) ∧ sm_VO (S 44) (S 1076 0) (S 1007 0) ((S 55 ((S 1092 0) - 1))) ((S 56 ((S 1092 0) - 1))) ∧ sm_FW (S 44) (S 1076 0) (S 59 ((S 1092 0) - 1)) ∧ sm_FL (S 53) (S 54) (S 55) (S 56) (g68 57) (g68 58) (S 59) (S 60) (S 61) (S 62) (g68 63) (g68 64) (S 27) (S 29) (S 1100007) (S 1100023) (S 1100024) (S 1100025) (S 26) (S 1100029) (S 44) (S 1046 0) (S 1032 0) (S 1076 0) (S 1007 0) (((S 1092 0) - 1)) ∧ (g68 58 ((S 1092 0) - 1)) = (S 1100007 (g68 57 ((S 1092 0) - 1))) ∧ sm_SK (g68 63) (g68 64) (S 44) (S 1100007) (S 1100025) (S 1076 0) (S 1007 0) (400 * ((S 1092 0) - 1)) ((g68 58 ((S 1092 0) - 1))) ((S 1100025 (g68 57 ((S 1092 0) - 1))))) ∧ (¬ (S 1075 0) = 0 → sm_LX (g68 58) (g68 63) (g68 64) (S 1092 0) (S 1076 0))) → (sm_PL (S 1100020) (S 51) (S 52) (S 46) (S 47) (S 1076 0) (S 1086 0) ∧ sm_FR (S 1100020) (S 52) (S 1100021) (S 1100022) (3000 - (S 1084 0)) (S 1085 0) ∧ sm_PV (S 1100020) (S 48) (S 49) (S 50) (S 44) (S 1076 0) (S 1007 0) ∧ sm_AL (S 1100020) (S 48) (S 49) (S 50) (S 44) (S 1076 0) (S 1100032 0) ∧ sm_SV (S 1100020) (S 48) (S 1100029) (S 32) (S 33) (S 1076 0) (S 1032 0) ∧ 0 ≤ (S 1076 0) ∧ (S 1076 0) ≤ 300 ∧ 0 ≤ (S 1084 0) ∧ (S 1084 0) ≤ 3000 ∧ 0 ≤ (S 1086 0) ∧ sm_SC (S 1100029) (S 44) (S 45) (S 43) (S 21) (S 1076 0) (S 1032 0) ∧ sm_PO (S 42) (S 1076 0) ∧ ((S 1075 0) = 0 → (S 1100032 0) = -1 ∧ sm_FO (S 44) (S 45) (S 1076 0)) ∧ 23 ≤ (S 1076 0) ∧ 31 ≤ (S 1007 0) ∧ (S 1007 0) ≤ 400 ∧ sm_LN (S 4) 400 (S 1007 0) ∧ (S 1008 0) ≤ (S 1007 0) ∧ ((S 1075 0) = 1 → (S 1075 0) = 1) ∧ 0 ≤ (S 1092 0) ∧ (S 1092 0) ≤ 24 ∧ (S 1007 0) ≤ (S 1007 0) ∧ (¬ (S 1075 0) = 0 → sm_LX (g68 58) (g68 63) (g68 64) (S 1092 0) (S 1076 0)) ∧ ((S 1075 0) = 0 → (S 1073 0) = 1 → 1 ≤ (S 1092 0) ∧ (S 1092 0) ≤ 24 ∧ 0 ≤ (g68 57 ((S 1092 0) - 1)) ∧ (g68 57 ((S 1092 0) - 1)) < (S 1046 0) ∧ (S 29 (g68 57 ((S 1092 0) - 1))) = (S 53 ((S 1092 0) - 1)) ∧ 0 ≤ (S 53 ((S 1092 0) - 1)) ∧ (S 53 ((S 1092 0) - 1)) < (S 1032 0) ∧ (S 60 ((S 1092 0) - 1)) = sm_dp (S 1100024) (S 1100023 (g68 57 ((S 1092 0) - 1))) ∧ sm_TC (S 61) (S 62) (S 27) (S 1100007) (S 1100023) (S 1100024) (40 * ((S 1092 0) - 1)) (S 1100023 (g68 57 ((S 1092 0) - 1))) ∧ sm_LK (S 1100029) (S 1076 0) (S 54 ((S 1092 0) - 1)) (S 53 ((S 1092 0) - 1)) ∧ sm_VO (S 44) (S 1076 0) (S 1007 0) ((S 55 ((S 1092 0) - 1))) ((S 56 ((S 1092 0) - 1))) ∧ sm_FW (S 44) (S 1076 0) (S 59 ((S 1092 0) - 1)) ∧ sm_FL (S 53) (S 54) (S 55) (S 56) (g68 57) (g68 58) (S 59) (S 60) (S 61) (S 62) (g68 63) (g68 64) (S 27) (S 29) (S 1100007) (S 1100023) (S 1100024) (S 1100025) (S 26) (S 1100029) (S 44) (S 1046 0) (S 1032 0) (S 1076 0) (S 1007 0) (((S 1092 0) - 1)) ∧ (g68 58 ((S 1092 0) - 1)) = (S 1100007 (g68 57 ((S 1092 0) - 1))) ∧ sm_SK (g68 63) (g68 64) (S 44) (S 1100007) (S 1100025) (S 1076 0) (S 1007 0) (400 * ((S 1092 0) - 1)) ((g68 58 ((S 1092 0) - 1))) ((S 1100025 (g68 57 ((S 1092 0) - 1))))) ∧ ((S 1073 0) = 1 ∨ (S 1092 0) = 0 ∧ (S 1075 0) = 0 ∧ ((S 1073 0) = 2 ∨ (S 1073 0) = 3))))))))) ∧ ((¬ (p1 = (0 : Int))) → (0 ≤ r6 ∧ r6 < 3000) ∧ (sv_R (S 49 r6) → (sv_R (S 50 r6) → (∀ g76 : sv_S, ((g76 1111 0) = (S 49 r6) ∧ (g76 1112 0) = (S 50 r6)) → (((S 1075 0) = 0 → (S 1073 0) = 1 → sm_PL (S 1100020) (S 51) (S 52) (S 46) (S 47) (S 1076 0) (S 1086 0) ∧ sm_FR (S 1100020) (S 52) (S 1100021) (S 1100022) (3000 - (S 1084 0)) (S 1085 0) ∧ sm_PV (S 1100020) (S 48) (S 49) (S 50) (S 44) (S 1076 0) (S 1007 0) ∧ sm_AL (S 1100020) (S 48) (S 49) (S 50) (S 44) (S 1076 0) (S 1100032 0) ∧ sm_SV (S 1100020) (S 48) (S 1100029) (S 32) (S 33) (S 1076 0) (S 1032 0) ∧ 0 ≤ (S 1076 0) ∧ (S 1076 0) ≤ 300 ∧ 0 ≤ (S 1084 0) ∧ (S 1084 0) ≤ 3000 ∧ 0 ≤ (S 1086 0) ∧ sm_SC (S 1100029) (S 44) (S 45) (S 43) (S 21) (S 1076 0) (S 1032 0) ∧ sm_PO (S 42) (S 1076 0) ∧ (S 1100032 0) = -1 ∧ sm_FO (S 44) (S 45) (S 1076 0) ∧ 23 ≤ (S 1076 0) ∧ 31 ≤ (S 1007 0) ∧ (S 1007 0) ≤ 400 ∧ sm_LN (S 4) 400 (S 1007 0) ∧ sm_CT (S 26) (S 27) (S 28) (S 29) (S 1100007) (S 1100023) (S 1100024) (S 1100025) (S 21) (S 1046 0) (S 1032 0) (S 1008 0) (S 1055 0) ∧ sm_LS (S 26) (S 1100007) (S 1100025) (S 1046 0) ∧ sm_CL (S 1100007) (S 1100023) (S 1100025) (S 1046 0) ∧ 1 ≤ (S 1032 0) ∧ (S 1032 0) ≤ 11 ∧ 0 ≤ (S 1046 0) ∧ (S 1046 0) ≤ 600 ∧ 31 ≤ (S 1008 0) ∧ (S 1008 0) ≤ (S 1007 0) ∧ 0 ≤ (S 1055 0) ∧ (S 1055 0) ≤ 19 ∧ 1 ≤ (S 1092 0) ∧ (S 1092 0) ≤ 24 ∧ 0 ≤ (S 1100033 0) ∧ (S 1100033 0) < (S 1046 0) ∧ (S 29 (S 1100033 0)) = (S 53 ((S 1092 0) - 1)) ∧ 0 ≤ (S 53 ((S 1092 0) - 1)) ∧ (S 53 ((S 1092 0) - 1)) < (S 1032 0) ∧ (S 60 ((S 1092 0) - 1)) = sm_dp (S 1100024) (S 1100023 (S 1100033 0)) ∧ sm_TC (S 61) (S 62) (S 27) (S 1100007) (S 1100023) (S 1100024) (40 * ((S 1092 0) - 1)) (S 1100023 (S 1100033 0)) ∧ sm_LK (S 1100029) (S 1076 0) (S 54 ((S 1092 0) - 1)) (S 53 ((S 1092 0) - 1)) ∧ sm_VO (S 44) (S 1076 0) (S 1007 0) ((S 55 ((S 1092 0) - 1))) ((S 56 ((S 1092 0) - 1))) ∧ sm_FW (S 44) (S 1076 0) (S 59 ((S 1092 0) - 1)) ∧ sm_FL (S 53) (S 54) (S 55) (S 56) (S 57) (S 58) (S 59) (S 60) (S 61) (S 62) (S 63) (S 64) (S 27) (S 29) (S 1100007) (S 1100023) (S 1100024) (S 1100025) (S 26) (S 1100029) (S 44) (S 1046 0) (S 1032 0) (S 1076 0) (S 1007 0) (((S 1092 0) - 1)) ∧ (S 57 ((S 1092 0) - 1)) = (S 1100033 0) ∧ 0 ≤ (S 58 ((S 1092 0) - 1)) ∧ (S 58 ((S 1092 0) - 1)) ≤ 400 ∧ sm_SK (S 63) (S 64) (S 44) (S 1100007) (S 1100025) (S 1076 0) (S 1007 0) (400 * ((S 1092 0) - 1)) ((S 58 ((S 1092 0) - 1))) ((S 1100034 0)) ∧ -1 ≤ (S 1100034 0) ∧ (S 1100034 0) < (S 1046 0) ∧ (0 ≤ (S 1100034 0) → (S 26 (S 1100034 0)) = 29) ∧ 0 ≤ (0 : Int) ∧ (0 : Int) ≤ (S 58 ((S 1092 0) - 1)) ∧ (S 58 ((S 1092 0) - 1)) - (0 : Int) ≤ 399 ∧ sm_VO (S 44) (S 1076 0) (S 1007 0) ((g76 1111 0)) ((g76 1112 0)) ∧ (0 ≤ (S 1100034 0) → (S 1100007 (S 1100034 0)) ≤ (S 58 ((S 1092 0) - 1)) - (0 : Int)) ∧ (S 1100033 0) + 1 < (S 1046 0) ∧ (S 29 ((S 1100033 0) + 1)) = (S 29 (S 1100033 0)) ∧ (S 1100007 ((S 1100033 0) + 1)) = (S 58 ((S 1092 0) - 1)) - (0 : Int) + 1 ∧ (S 1100023 ((S 1100033 0) + 1)) = (S 1100023 (S 1100033 0)) ∧ (S 1100025 ((S 1100033 0) + 1)) = (S 1100034 0)) ∧ (¬ (S 1075 0) = 0 → sm_LX (S 58) (S 63) (S 64) (S 1092 0) (S 1076 0))) ∧ (∀ g82 : sv_S, (((S 1075 0) = 0 → (S 1073 0) = 1 → 1 ≤ (S 1092 0) ∧ (S 1092 0) ≤ 24 ∧ 0 ≤ (g82 57 ((S 1092 0) - 1)) ∧ (g82 57 ((S 1092 0) - 1)) < (S 1046 0) ∧ (S 29 (g82 57 ((S 1092 0) - 1))) = (S 53 ((S 1092 0) - 1)) ∧ 0 ≤ (S 53 ((S 1092 0) - 1)) ∧ (S 53 ((S 1092 0) - 1)) < (S 1032 0) ∧ (S 60 ((S 1092 0) - 1)) = sm_dp (S 1100024) (S 1100023 (g82 57 ((S 1092 0) - 1))) ∧ sm_TC (S 61) (S 62) (S 27) (S 1100007) (S 1100023) (S 1100024) (40 * ((S 1092 0) - 1)) (S 1100023 (g82 57 ((S 1092 0) - 1))) ∧ sm_LK (S 1100029) (S 1076 0) (S 54 ((S 1092 0) - 1)) (S 53 ((S 1092 0) - 1)) ∧ sm_VO (S 44) (S 1076 0) (S 1007 0) ((S 55 ((S 1092 0) - 1))) ((S 56 ((S 1092 0) - 1))) ∧ sm_FW (S 44) (S 1076 0) (S 59 ((S 1092 0) - 1)) ∧ sm_FL (S 53) (S 54) (S 55) (S 56) (g82 57) (g82 58) (S 59) (S 60) (S 61) (S 62) (g82 63) (g82 64) (S 27) (S 29) (S 1100007) (S 1100023) (S 1100024) (S 1100025) (S 26) (S 1100029) (S 44) (S 1046 0) (S 1032 0) (S 1076 0) (S 1007 0) (((S 1092 0) - 1)) ∧ (g82 58 ((S 1092 0) - 1)) = (S 1100007 (g82 57 ((S 1092 0) - 1))) ∧ sm_SK (g82 63) (g82 64) (S 44) (S 1100007) (S 1100025) (S 1076 0) (S 1007 0) (400 * ((S 1092 0) - 1)) ((g82 58 ((S 1092 0) - 1))) ((S 1100025 (g82 57 ((S 1092 0) - 1))))) ∧ (¬ (S 1075 0) = 0 → sm_LX (g82 58) (g82 63) (g82 64) (S 1092 0) (S 1076 0))) → (sm_PL (S 1100020) (S 51) (S 52) (S 46) (S 47) (S 1076 0) (S 1086 0) ∧ sm_FR (S 1100020) (S 52) (S 1100021) (S 1100022) (3000 - (S 1084 0)) (S 1085 0) ∧ sm_PV (S 1100020) (S 48) (S 49) (S 50) (S 44) (S 1076 0) (S 1007 0) ∧ sm_AL (S 1100020) (S 48) (S 49) (S 50) (S 44) (S 1076 0) (S 1100032 0) ∧ sm_SV (S 1100020) (S 48) (S 1100029) (S 32) (S 33) (S 1076 0) (S 1032 0) ∧ 0 ≤ (S 1076 0) ∧ (S 1076 0) ≤ 300 ∧ 0 ≤ (S 1084 0) ∧ (S 1084 0) ≤ 3000 ∧ 0 ≤ (S 1086 0) ∧ sm_SC (S 1100029) (S 44) (S 45) (S 43) (S 21) (S 1076 0) (S 1032 0) ∧ sm_PO (S 42) (S 1076 0) ∧ ((S 1075 0) = 0 → (S 1100032 0) = -1 ∧ sm_FO (S 44) (S 45) (S 1076 0)) ∧ 23 ≤ (S 1076 0) ∧ 31 ≤ (S 1007 0) ∧ (S 1007 0) ≤ 400 ∧ sm_LN (S 4) 400 (S 1007 0) ∧ (S 1008 0) ≤ (S 1007 0) ∧ ((S 1075 0) = 1 → (S 1075 0) = 1) ∧ 0 ≤ (S 1092 0) ∧ (S 1092 0) ≤ 24 ∧ (S 1007 0) ≤ (S 1007 0) ∧ (¬ (S 1075 0) = 0 → sm_LX (g82 58) (g82 63) (g82 64) (S 1092 0) (S 1076 0)) ∧ ((S 1075 0) = 0 → (S 1073 0) = 1 → 1 ≤ (S 1092 0) ∧ (S 1092 0) ≤ 24 ∧ 0 ≤ (g82 57 ((S 1092 0) - 1)) ∧ (g82 57 ((S 1092 0) - 1)) < (S 1046 0) ∧ (S 29 (g82 57 ((S 1092 0) - 1))) = (S 53 ((S 1092 0) - 1)) ∧ 0 ≤ (S 53 ((S 1092 0) - 1)) ∧ (S 53 ((S 1092 0) - 1)) < (S 1032 0) ∧ (S 60 ((S 1092 0) - 1)) = sm_dp (S 1100024) (S 1100023 (g82 57 ((S 1092 0) - 1))) ∧ sm_TC (S 61) (S 62) (S 27) (S 1100007) (S 1100023) (S 1100024) (40 * ((S 1092 0) - 1)) (S 1100023 (g82 57 ((S 1092 0) - 1))) ∧ sm_LK (S 1100029) (S 1076 0) (S 54 ((S 1092 0) - 1)) (S 53 ((S 1092 0) - 1)) ∧ sm_VO (S 44) (S 1076 0) (S 1007 0) ((S 55 ((S 1092 0) - 1))) ((S 56 ((S 1092 0) - 1))) ∧ sm_FW (S 44) (S 1076 0) (S 59 ((S 1092 0) - 1)) ∧ sm_FL (S 53) (S 54) (S 55) (S 56) (g82 57) (g82 58) (S 59) (S 60) (S 61) (S 62) (g82 63) (g82 64) (S 27) (S 29) (S 1100007) (S 1100023) (S 1100024) (S 1100025) (S 26) (S 1100029) (S 44) (S 1046 0) (S 1032 0) (S 1076 0) (S 1007 0) (((S 1092 0) - 1)) ∧ (g82 58 ((S 1092 0) - 1)) = (S 1100007 (g82 57 ((S 1092 0) - 1))) ∧ sm_SK (g82 63) (g82 64) (S 44) (S 1100007) (S 1100025) (S 1076 0) (S 1007 0) (400 * ((S 1092 0) - 1)) ((g82 58 ((S 1092 0) - 1))) ((S 1100025 (g82 57 ((S 1092 0) - 1))))) ∧ ((S 1073 0) = 1 ∨ (S 1092 0) = 0 ∧ (S 1075 0) = 0 ∧ ((S 1073 0) = 2 ∨ (S 1073 0) = 3)))))))))) ∧ ((¬ (¬ r6 = (-1 : Int))) → (∀ g87 : sv_S, ((g87 1111 0) = (6 : Int) ∧ (g87 1112 0) = (19 : Int)) → (((S 1075 0) = 0 → (S 1073 0) = 1 → sm_PL (S 1100020) (S 51) (S 52) (S 46) (S 47) (S 1076 0) (S 1086 0) ∧ sm_FR (S 1100020) (S 52) (S 1100021) (S 1100022) (3000 - (S 1084 0)) (S 1085 0) ∧ sm_PV (S 1100020) (S 48) (S 49) (S 50) (S 44) (S 1076 0) (S 1007 0) ∧ sm_AL (S 1100020) (S 48) (S 49) (S 50) (S 44) (S 1076 0) (S 1100032 0) ∧ sm_SV (S 1100020) (S 48) (S 1100029) (S 32) (S 33) (S 1076 0) (S 1032 0) ∧ 0 ≤ (S 1076 0) ∧ (S 1076 0) ≤ 300 ∧ 0 ≤ (S 1084 0) ∧ (S 1084 0) ≤ 3000 ∧ 0 ≤ (S 1086 0) ∧ sm_SC (S 1100029) (S 44) (S 45) (S 43) (S 21) (S 1076 0) (S 1032 0) ∧ sm_PO (S 42) (S 1076 0) ∧ (S 1100032 0) = -1 ∧ sm_FO (S 44) (S 45) (S 1076 0) ∧ 23 ≤ (S 1076 0) ∧ 31 ≤ (S 1007 0) ∧ (S 1007 0) ≤ 400 ∧ sm_LN (S 4) 400 (S 1007 0) ∧ sm_CT (S 26) (S 27) (S 28) (S 29) (S 1100007) (S 1100023) (S 1100024) (S 1100025) (S 21) (S 1046 0) (S 1032 0) (S 1008 0) (S 1055 0) ∧ sm_LS (S 26) (S 1100007) (S 1100025) (S 1046 0) ∧ sm_CL (S 1100007) (S 1100023) (S 1100025) (S 1046 0) ∧ 1 ≤ (S 1032 0) ∧ (S 1032 0) ≤ 11 ∧ 0 ≤ (S 1046 0) ∧ (S 1046 0) ≤ 600 ∧ 31 ≤ (S 1008 0) ∧ (S 1008 0) ≤ (S 1007 0) ∧ 0 ≤ (S 1055 0) ∧ (S 1055 0) ≤ 19 ∧ 1 ≤ (S 1092 0) ∧ (S 1092 0) ≤ 24 ∧ 0 ≤ (S 1100033 0) ∧ (S 1100033 0) < (S 1046 0) ∧ (S 29 (S 1100033 0)) = (S 53 ((S 1092 0) - 1)) ∧ 0 ≤ (S 53 ((S 1092 0) - 1)) ∧ (S 53 ((S 1092 0) - 1)) < (S 1032 0) ∧ (S 60 ((S 1092 0) - 1)) = sm_dp (S 1100024) (S 1100023 (S 1100033 0)) ∧ sm_TC (S 61) (S 62) (S 27) (S 1100007) (S 1100023) (S 1100024) (40 * ((S 1092 0) - 1)) (S 1100023 (S 1100033 0)) ∧ sm_LK (S 1100029) (S 1076 0) (S 54 ((S 1092 0) - 1)) (S 53 ((S 1092 0) - 1)) ∧ sm_VO (S 44) (S 1076 0) (S 1007 0) ((S 55 ((S 1092 0) - 1))) ((S 56 ((S 1092 0) - 1))) ∧ sm_FW (S 44) (S 1076 0) (S 59 ((S 1092 0) - 1)) ∧ sm_FL (S 53) (S 54) (S 55) (S 56) (S 57) (S 58) (S 59) (S 60) (S 61) (S 62) (S 63) (S 64) (S 27) (S 29) (S 1100007) (S 1100023) (S 1100024) (S 1100025) (S 26) (S 1100029) (S 44) (S 1046 0) (S 1032 0) (S 1076 0) (S 1007 0) (((S 1092 0) - 1)) ∧ (S 57 ((S 1092 0) - 1)) = (S 1100033 0) ∧ 0 ≤ (S 58 ((S 1092 0) - 1)) ∧ (S 58 ((S 1092 0) - 1)) ≤ 400 ∧ sm_SK (S 63) (S 64) (S 44) (S 1100007) (S 1100025) (S 1076 0) (S 1007 0) (400 * ((S 1092 0) - 1)) ((S 58 ((S 1092 0) - 1))) ((S 1100034 0)) ∧ -1 ≤ (S 1100034 0) ∧ (S 1100034 0) < (S 1046 0) ∧ (0 ≤ (S 1100034 0) → (S 26 (S 1100034 0)) = 29) ∧ 0 ≤ (0 : Int) ∧ (0 : Int) ≤ (S 58 ((S 1092 0) - 1)) ∧ (S 58 ((S 1092 0) - 1)) - (0 : Int) ≤ 399 ∧ sm_VO (S 44) (S 1076 0) (S 1007 0) ((g87 1111 0)) ((g87 1112 0)) ∧ (0 ≤ (S 1100034 0) → (S 1100007 (S 1100034 0)) ≤ (S 58 ((S 1092 0) - 1)) - (0 : Int)) ∧ (S 1100033 0) + 1 < (S 1046 0) ∧ (S 29 ((S 1100033 0) + 1)) = (S 29 (S 1100033 0)) ∧ (S 1100007 ((S 1100033 0) + 1)) = (S 58 ((S 1092 0) - 1)) - (0 : Int) + 1 ∧ (S 1100023 ((S 1100033 0) + 1)) = (S 1100023 (S 1100033 0)) ∧ (S 1100025 ((S 1100033 0) + 1)) = (S 1100034 0)) ∧ (¬ (S 1075 0) = 0 → sm_LX (S 58) (S 63) (S 64) (S 1092 0) (S 1076 0))) ∧ (∀ g93 : sv_S, (((S 1075 0) = 0 → (S 1073 0) = 1 → 1 ≤ (S 1092 0) ∧ (S 1092 0) ≤ 24 ∧ 0 ≤ (g93 57 ((S 1092 0) - 1)) ∧ (g93 57 ((S 1092 0) - 1)) < (S 1046 0) ∧ (S 29 (g93 57 ((S 1092 0) - 1))) = (S 53 ((S 1092 0) - 1)) ∧ 0 ≤ (S 53 ((S 1092 0) - 1)) ∧ (S 53 ((S 1092 0) - 1)) < (S 1032 0) ∧ (S 60 ((S 1092 0) - 1)) = sm_dp (S 1100024) (S 1100023 (g93 57 ((S 1092 0) - 1))) ∧ sm_TC (S 61) (S 62) (S 27) (S 1100007) (S 1100023) (S 1100024) (40 * ((S 1092 0) - 1)) (S 1100023 (g93 57 ((S 1092 0) - 1))) ∧ sm_LK (S 1100029) (S 1076 0) (S 54 ((S 1092 0) - 1)) (S 53 ((S 1092 0) - 1)) ∧ sm_VO (S 44) (S 1076 0) (S 1007 0) ((S 55 ((S 1092 0) - 1))) ((S 56 ((S 1092 0) - 1))) ∧ sm_FW (S 44) (S 1076 0) (S 59 ((S 1092 0) - 1)) ∧ sm_FL (S 53) (S 54) (S 55) (S 56) (g93 57) (g93 58) (S 59) (S 60) (S 61) (S 62) (g93 63) (g93 64) (S 27) (S 29) (S 1100007) (S 1100023) (S 1100024) (S 1100025) (S 26) (S 1100029) (S 44) (S 1046 0) (S 1032 0) (S 1076 0) (S 1007 0) (((S 1092 0) - 1)) ∧ (g93 58 ((S 1092 0) - 1)) = (S 1100007 (g93 57 ((S 1092 0) - 1))) ∧ sm_SK (g93 63) (g93 64) (S 44) (S 1100007) (S 1100025) (S 1076 0) (S 1007 0) (400 * ((S 1092 0) - 1)) ((g93 58 ((S 1092 0) - 1))) ((S 1100025 (g93 57 ((S 1092 0) - 1))))) ∧ (¬ (S 1075 0) = 0 → sm_LX (g93 58) (g93 63) (g93 64) (S 1092 0) (S 1076 0))) → (sm_PL (S 1100020) (S 51) (S 52) (S 46) (S 47) (S 1076 0) (S 1086 0) ∧ sm_FR (S 1100020) (S 52) (S 1100021) (S 1100022) (3000 - (S 1084 0)) (S 1085 0) ∧ sm_PV (S 1100020) (S 48) (S 49) (S 50) (S 44) (S 1076 0) (S 1007 0) ∧ sm_AL (S 1100020) (S 48) (S 49) (S 50) (S 44) (S 1076 0) (S 1100032 0) ∧ sm_SV (S 1100020) (S 48) (S 1100029) (S 32) (S 33) (S 1076 0) (S 1032 0) ∧ 0 ≤ (S 1076 0) ∧ (S 1076 0) ≤ 300 ∧ 0 ≤ (S 1084 0) ∧ (S 1084 0) ≤ 3000 ∧ 0 ≤ (S 1086 0) ∧ sm_SC (S 1100029) (S 44) (S 45) (S 43) (S 21) (S 1076 0) (S 1032 0) ∧ sm_PO (S 42) (S 1076 0) ∧ ((S 1075 0) = 0 → (S 1100032 0) = -1 ∧ sm_FO (S 44) (S 45) (S 1076 0)) ∧ 23 ≤ (S 1076 0) ∧ 31 ≤ (S 1007 0) ∧ (S 1007 0) ≤ 400 ∧ sm_LN (S 4) 400 (S 1007 0) ∧ (S 1008 0) ≤ (S 1007 0) ∧ ((S 1075 0) = 1 → (S 1075 0) = 1) ∧ 0 ≤ (S 1092 0) ∧ (S 1092 0) ≤ 24 ∧ (S 1007 0) ≤ (S 1007 0) ∧ (¬ (S 1075 0) = 0 → sm_LX (g93 58) (g93 63) (g93 64) (S 1092 0) (S 1076 0)) ∧ ((S 1075 0) = 0 → (S 1073 0) = 1 → 1 ≤ (S 1092 0) ∧ (S 1092 0) ≤ 24 ∧ 0 ≤ (g93 57 ((S 1092 0) - 1)) ∧ (g93 57 ((S 1092 0) - 1)) < (S 1046 0) ∧ (S 29 (g93 57 ((S 1092 0) - 1))) = (S 53 ((S 1092 0) - 1)) ∧ 0 ≤ (S 53 ((S 1092 0) - 1)) ∧ (S 53 ((S 1092 0) - 1)) < (S 1032 0) ∧ (S 60 ((S 1092 0) - 1)) = sm_dp (S 1100024) (S 1100023 (g93 57 ((S 1092 0) - 1))) ∧ sm_TC (S 61) (S 62) (S 27) (S 1100007) (S 1100023) (S 1100024) (40 * ((S 1092 0) - 1)) (S 1100023 (g93 57 ((S 1092 0) - 1))) ∧ sm_LK (S 1100029) (S 1076 0) (S 54 ((S 1092 0) - 1)) (S 53 ((S 1092 0) - 1)) ∧ sm_VO (S 44) (S 1076 0) (S 1007 0) ((S 55 ((S 1092 0) - 1))) ((S 56 ((S 1092 0) - 1))) ∧ sm_FW (S 44) (S 1076 0) (S 59 ((S 1092 0) - 1)) ∧ sm_FL (S 53) (S 54) (S 55) (S 56) (g93 57) (g93 58) (S 59) (S 60) (S 61) (S 62) (g93 63) (g93 64) (S 27) (S 29) (S 1100007) (S 1100023) (S 1100024) (S 1100025) (S 26) (S 1100029) (S 44) (S 1046 0) (S 1032 0) (S 1076 0) (S 1007 0) (((S 1092 0) - 1)) ∧ (g93 58 ((S 1092 0) - 1)) = (S 1100007 (g93 57 ((S 1092 0) - 1))) ∧ sm_SK (g93 63) (g93 64) (S 44) (S 1100007) (S 1100025) (S 1076 0) (S 1007 0) (400 * ((S 1092 0) - 1)) ((g93 58 ((S 1092 0) - 1))) ((S 1100025 (g93 57 ((S 1092 0) - 1))))) ∧ ((S 1073 0) = 1 ∨ (S 1092 0) = 0 ∧ (S 1075 0) = 0 ∧ ((S 1073 0) = 2 ∨ (S 1073 0) = 3)))))))) ∧ ((¬ (p1 = (0 : Int))) → ((S 1075 0) = 0 ∧ (S 1073 0) = 1 ∧ sm_LX (S 58) (S 63) (S 64) (S 1092 0) (S 1076 0) ∧ sm_PL (S 1100020) (S 51) (S 52) (S 46) (S 47) (S 1076 0) (S 1086 0) ∧ sm_FR (S 1100020) (S 52) (S 1100021) (S 1100022) (3000 - (S 1084 0)) (S 1085 0) ∧ sm_PV (S 1100020) (S 48) (S 49) (S 50) (S 44) (S 1076 0) (S 1007 0) ∧ sm_AL (S 1100020) (S 48) (S 49) (S 50) (S 44) (S 1076 0) (S 1100032 0) ∧ sm_SV (S 1100020) (S 48) (S 1100029) (S 32) (S 33) (S 1076 0) (S 1032 0) ∧ 0 ≤ (S 1076 0) ∧ (S 1076 0) ≤ 300 ∧ 0 ≤ (S 1084 0) ∧ (S 1084 0) ≤ 3000 ∧ 0 ≤ (S 1086 0) ∧ sm_SC (S 1100029) (S 44) (S 45) (S 43) (S 21) (S 1076 0) (S 1032 0) ∧ sm_PO (S 42) (S 1076 0) ∧ (S 1100032 0) = -1 ∧ sm_FO (S 44) (S 45) (S 1076 0) ∧ 23 ≤ (S 1076 0) ∧ 31 ≤ (S 1007 0) ∧ (S 1007 0) ≤ 400 ∧ sm_LN (S 4) 400 (S 1007 0) ∧ sm_CT (S 26) (S 27) (S 28) (S 29) (S 1100007) (S 1100023) (S 1100024) (S 1100025) (S 21) (S 1046 0) (S 1032 0) (S 1008 0) (S 1055 0) ∧ sm_LS (S 26) (S 1100007) (S 1100025) (S 1046 0) ∧ sm_CL (S 1100007) (S 1100023) (S 1100025) (S 1046 0) ∧ 1 ≤ (S 1032 0) ∧ (S 1032 0) ≤ 11 ∧ 0 ≤ (S 1046 0) ∧ (S 1046 0) ≤ 600 ∧ 31 ≤ (S 1008 0) ∧ (S 1008 0) ≤ (S 1007 0) ∧ 0 ≤ (S 1055 0) ∧ (S 1055 0) ≤ 19 ∧ 1 ≤ (S 1092 0) ∧ (S 1092 0) ≤ 24 ∧ 0 ≤ (S 57 ((S 1092 0) - 1)) ∧ (S 57 ((S 1092 0) - 1)) < (S 1046 0) ∧ (S 29 (S 57 ((S 1092 0) - 1))) = (S 53 ((S 1092 0) - 1)) ∧ 0 ≤ (S 53 ((S 1092 0) - 1)) ∧ (S 53 ((S 1092 0) - 1)) < (S 1032 0) ∧ (S 60 ((S 1092 0) - 1)) = sm_dp (S 1100024) (S 1100023 (S 57 ((S 1092 0) - 1))) ∧ sm_TC (S 61) (S 62) (S 27) (S 1100007) (S 1100023) (S 1100024) (40 * ((S 1092 0) - 1)) (S 1100023 (S 57 ((S 1092 0) - 1))) ∧ sm_LK (S 1100029) (S 1076 0) (S 54 ((S 1092 0) - 1)) (S 53 ((S 1092 0) - 1)) ∧ sm_VO (S 44) (S 1076 0) (S 1007 0) ((S 55 ((S 1092 0) - 1))) ((S 56 ((S 1092 0) - 1))) ∧ sm_FW (S 44) (S 1076 0) (S 59 ((S 1092 0) - 1)) ∧ sm_FL (S 53) (S 54) (S 55) (S 56) (S 57) (S 58) (S 59) (S 60) (S 61) (S 62) (S 63) (S 64) (S 27) (S 29) (S 1100007) (S 1100023) (S 1100024) (S 1100025) (S 26) (S 1100029) (S 44) (S 1046 0) (S 1032 0) (S 1076 0) (S 1007 0) (((S 1092 0) - 1)) ∧ (S 58 ((S 1092 0) - 1)) = (S 1100007 (S 57 ((S 1092 0) - 1))) ∧ sm_SK (S 63) (S 64) (S 44) (S 1100007) (S 1100025) (S 1076 0) (S 1007 0) (400 * ((S 1092 0) - 1)) ((S 58 ((S 1092 0) - 1))) ((S 1100025 (S 57 ((S 1092 0) - 1)))) ∧ (0 ≤ (S 1100023 (S 57 ((S 1092 0) - 1))) → (S 1100007 (S 1100023 (S 57 ((S 1092 0) - 1)))) ≤ (S 58 ((S 1092 0) - 1))) ∧ 6 ≤ (7 : Int) ∧ (7 : Int) ≤ 8) ∧ (∀ g99 : sv_S, (sm_PL (S 1100020) (S 51) (S 52) (g99 46) (g99 47) (g99 1076 0) (S 1086 0) ∧ sm_FR (S 1100020) (S 52) (S 1100021) (S 1100022) (3000 - (S 1084 0)) (S 1085 0) ∧ sm_PV (S 1100020) (S 48) (S 49) (S 50) (g99 44) (g99 1076 0) (S 1007 0) ∧ sm_AL (S 1100020) (S 48) (S 49) (S 50) (g99 44) (g99 1076 0) (S 1100032 0) ∧ sm_SV (S 1100020) (S 48) (g99 1100029) (S 32) (S 33) (g99 1076 0) (S 1032 0) ∧ 0 ≤ (g99 1076 0) ∧ (g99 1076 0) ≤ 300 ∧ 0 ≤ (S 1084 0) ∧ (S 1084 0) ≤ 3000 ∧ 0 ≤ (S 1086 0) ∧ sm_SC (g99 1100029) (g99 44) (g99 45) (g99 43) (S 21) (g99 1076 0) (S 1032 0) ∧ sm_PO (g99 42) (g99 1076 0) ∧ ((g99 1075 0) = 0 → (S 1100032 0) = -1 ∧ sm_FO (g99 44) (g99 45) (g99 1076 0)) ∧ 23 ≤ (g99 1076 0) ∧ 31 ≤ (S 1007 0) ∧ (S 1007 0) ≤ 400 ∧ sm_LN (S 4) 400 (S 1007 0) ∧ (S 1008 0) ≤ (S 1007 0) ∧ ((S 1075 0) = 1 → (g99 1075 0) = 1) ∧ 0 ≤ (g99 1092 0) ∧ (g99 1092 0) ≤ 24 ∧ (S 1007 0) ≤ (S 1007 0) ∧ (¬ (g99 1075 0) = 0 → sm_LX (g99 58) (g99 63) (g99 64) (g99 1092 0) (g99 1076 0)) ∧ ((g99 1075 0) = 0 → (g99 1073 0) = 1 → 1 ≤ (g99 1092 0) ∧ (g99 1092 0) ≤ 24 ∧ 0 ≤ (g99 57 ((g99 1092 0) - 1)) ∧ (g99 57 ((g99 1092 0) - 1)) < (S 1046 0) ∧ (S 29 (g99 57 ((g99 1092 0) - 1))) = (S 53 ((g99 1092 0) - 1)) ∧ 0 ≤ (S 53 ((g99 1092 0) - 1)) ∧ (S 53 ((g99 1092 0) - 1)) < (S 1032 0) ∧ (g99 60 ((g99 1092 0) - 1)) = sm_dp (S 1100024) (S 1100023 (g99 57 ((g99 1092 0) - 1))) ∧ sm_TC (S 61) (S 62) (S 27) (S 1100007) (S 1100023) (S 1100024) (40 * ((g99 1092 0) - 1)) (S 1100023 (g99 57 ((g99 1092 0) - 1))) ∧ sm_LK (g99 1100029) (g99 1076 0) (S 54 ((g99 1092 0) - 1)) (S 53 ((g99 1092 0) - 1)) ∧ sm_VO (g99 44) (g99 1076 0) (S 1007 0) ((S 55 ((g99 1092 0) - 1))) ((S 56 ((g99 1092 0) - 1))) ∧ sm_FW (g99 44) (g99 1076 0) (S 59 ((g99 1092 0) - 1)) ∧ sm_FL (S 53) (S 54) (S 55) (S 56) (g99 57) (g99 58) (S 59) (g99 60) (S 61) (S 62) (g99 63) (g99 64) (S 27) (S 29) (S 1100007) (S 1100023) (S 1100024) (S 1100025) (S 26) (g99 1100029) (g99 44) (S 1046 0) (S 1032 0) (g99 1076 0) (S 1007 0) (((g99 1092 0) - 1)) ∧ (g99 58 ((g99 1092 0) - 1)) = (S 1100007 (g99 57 ((g99 1092 0) - 1))) ∧ sm_SK (g99 63) (g99 64) (g99 44) (S 1100007) (S 1100025) (g99 1076 0) (S 1007 0) (400 * ((g99 1092 0) - 1)) ((g99 58 ((g99 1092 0) - 1))) ((S 1100025 (g99 57 ((g99 1092 0) - 1))))) ∧ ((g99 1073 0) = 1 ∨ (g99 1092 0) = 0 ∧ (g99 1075 0) = 0 ∧ ((g99 1073 0) = 2 ∨ (g99 1073 0) = 3)) ∧ ((g99 1073 0) = 1 ∨ (g99 1073 0) = 3)) → (sm_PL (S 1100020) (S 51) (S 52) (g99 46) (g99 47) (g99 1076 0) (S 1086 0) ∧ sm_FR (S 1100020) (S 52) (S 1100021) (S 1100022) (3000 - (S 1084 0)) (S 1085 0) ∧ sm_PV (S 1100020) (S 48) (S 49) (S 50) (g99 44) (g99 1076 0) (S 1007 0) ∧ sm_AL (S 1100020) (S 48) (S 49) (S 50) (g99 44) (g99 1076 0) (S 1100032 0) ∧ sm_SV (S 1100020) (S 48) (g99 1100029) (S 32) (S 33) (g99 1076 0) (S 1032 0) ∧ 0 ≤ (g99 1076 0) ∧ (g99 1076 0) ≤ 300 ∧ 0 ≤ (S 1084 0) ∧ (S 1084 0) ≤ 3000 ∧ 0 ≤ (S 1086 0) ∧ sm_SC (g99 1100029) (g99 44) (g99 45) (g99 43) (S 21) (g99 1076 0) (S 1032 0) ∧ sm_PO (g99 42) (g99 1076 0) ∧ ((g99 1075 0) = 0 → (S 1100032 0) = -1 ∧ sm_FO (g99 44) (g99 45) (g99 1076 0)) ∧ 23 ≤ (g99 1076 0) ∧ 31 ≤ (S 1007 0) ∧ (S 1007 0) ≤ 400 ∧ sm_LN (S 4) 400 (S 1007 0) ∧ (S 1008 0) ≤ (S 1007 0) ∧ ((S 1075 0) = 1 → (g99 1075 0) = 1) ∧ 0 ≤ (g99 1092 0) ∧ (g99 1092 0) ≤ 24 ∧ (S 1007 0) ≤ (S 1007 0) ∧ (¬ (g99 1075 0) = 0 → sm_LX (g99 58) (g99 63) (g99 64) (g99 1092 0) (g99 1076 0)) ∧ ((g99 1075 0) = 0 → (g99 1073 0) = 1 → 1 ≤ (g99 1092 0) ∧ (g99 1092 0) ≤ 24 ∧ 0 ≤ (g99 57 ((g99 1092 0) - 1)) ∧ (g99 57 ((g99 1092 0) - 1)) < (S 1046 0) ∧ (S 29 (g99 57 ((g99 1092 0) - 1))) = (S 53 ((g99 1092 0) - 1)) ∧ 0 ≤ (S 53 ((g99 1092 0) - 1)) ∧ (S 53 ((g99 1092 0) - 1)) < (S 1032 0) ∧ (g99 60 ((g99 1092 0) - 1)) = sm_dp (S 1100024) (S 1100023 (g99 57 ((g99 1092 0) - 1))) ∧ sm_TC (S 61) (S 62) (S 27) (S 1100007) (S 1100023) (S 1100024) (40 * ((g99 1092 0) - 1)) (S 1100023 (g99 57 ((g99 1092 0) - 1))) ∧ sm_LK (g99 1100029) (g99 1076 0) (S 54 ((g99 1092 0) - 1)) (S 53 ((g99 1092 0) - 1)) ∧ sm_VO (g99 44) (g99 1076 0) (S 1007 0) ((S 55 ((g99 1092 0) - 1))) ((S 56 ((g99 1092 0) - 1))) ∧ sm_FW (g99 44) (g99 1076 0) (S 59 ((g99 1092 0) - 1)) ∧ sm_FL (S 53) (S 54) (S 55) (S 56) (g99 57) (g99 58) (S 59) (g99 60) (S 61) (S 62) (g99 63) (g99 64) (S 27) (S 29) (S 1100007) (S 1100023) (S 1100024) (S 1100025) (S 26) (g99 1100029) (g99 44) (S 1046 0) (S 1032 0) (g99 1076 0) (S 1007 0) (((g99 1092 0) - 1)) ∧ (g99 58 ((g99 1092 0) - 1)) = (S 1100007 (g99 57 ((g99 1092 0) - 1))) ∧ sm_SK (g99 63) (g99 64) (g99 44) (S 1100007) (S 1100025) (g99 1076 0) (S 1007 0) (400 * ((g99 1092 0) - 1)) ((g99 58 ((g99 1092 0) - 1))) ((S 1100025 (g99 57 ((g99 1092 0) - 1))))) ∧ ((g99 1073 0) = 1 ∨ (g99 1092 0) = 0 ∧ (g99 1075 0) = 0 ∧ ((g99 1073 0) = 2 ∨ (g99 1073 0) = 3)))))))))) := by
  intro p1
  intro p2
  intro S
  intro h1_
  rintro ⟨h2_, h3_⟩
  intro h4_
  rintro ⟨h5_, ⟨h6_, ⟨h7_, ⟨h8_, ⟨h9_, ⟨h10_, ⟨h11_, ⟨h12_, ⟨h13_, ⟨h14_, ⟨h15_, ⟨h16_, ⟨h17_, ⟨h18_, ⟨h19_, ⟨h20_, ⟨h21_, ⟨h22_, ⟨h23_, ⟨h24_, ⟨h25_, ⟨h26_, ⟨h27_, ⟨h28_, ⟨h29_, ⟨h30_, ⟨h31_, ⟨h32_, ⟨h33_, ⟨h34_, ⟨h35_, ⟨h36_, ⟨h37_, ⟨h38_, ⟨h39_, ⟨h40_, ⟨h41_, ⟨h42_, ⟨h43_, ⟨h44_, ⟨h45_, ⟨h46_, ⟨h47_, ⟨h48_, ⟨h49_, ⟨h50_, ⟨h51_, ⟨h52_, ⟨h53_, ⟨h54_, ⟨h55_, ⟨h56_, ⟨h57_, ⟨h58_, ⟨h59_, ⟨h60_, ⟨h61_, ⟨h62_, ⟨h63_, ⟨h64_, ⟨h65_, ⟨h66_, ⟨h67_, ⟨h68_, ⟨h69_, h70_⟩⟩⟩⟩⟩⟩⟩⟩⟩⟩⟩⟩⟩⟩⟩⟩⟩⟩⟩⟩⟩⟩⟩⟩⟩⟩⟩⟩⟩⟩⟩⟩⟩⟩⟩⟩⟩⟩⟩⟩⟩⟩⟩⟩⟩⟩⟩⟩⟩⟩⟩⟩⟩⟩⟩⟩⟩⟩⟩⟩⟩⟩⟩⟩⟩
  refine ⟨⟨h8_, (la_global_0 h14_ h15_ h16_ h17_ h22_)⟩, ?_⟩
  intro r6
  intro h71_
  rintro ⟨h72_, h73_⟩
  intro h74_
  have h75_ := (h74_ h10_)
  refine ⟨?_, ?_⟩
  · skip
    intro h76_
    obtain ⟨h77_, ⟨h78_, ⟨h79_, h80_⟩⟩⟩ := (h72_.resolve_left h76_)
    have h81_ := (h75_ h77_)
    have h82_ := (h81_ h78_)
    obtain ⟨⟨h83_, h84_⟩, h85_⟩ := (h82_ (la_global_3 h79_))
    refine ⟨?_, ?_⟩
    · skip
      intro h86_
      refine ⟨?_, ?_⟩
      · skip
        intro h87_
        have h88_ := (h70_.resolve_right (la_global_4 h87_))
        refine ⟨(la_global_5 h77_ h78_), ?_⟩
        intro h89_
        intro h90_
        refine ⟨?_, ?_⟩
        · skip
          refine ⟨(la_global_6 h14_ (sm_VO_e h85_).2.1 (sm_VO_e h85_).2.2.1 (sm_VO_e h85_).2.2.2), ?_⟩
          refine ⟨(sm_VO_e h85_).1, ?_⟩
          exact (sm_VO_e h85_).2.1
        intro r16
        intro h91_
        rintro ⟨h92_, h93_⟩
        intro g17
        rintro ⟨h94_, h95_⟩
        refine ⟨?_, ?_⟩
        · skip
          refine ⟨?_, ?_⟩
          · skip
            intro h96_
            intro h97_
            refine ⟨h8_, ?_⟩
            refine ⟨h9_, ?_⟩
            refine ⟨h10_, ?_⟩
            refine ⟨h11_, ?_⟩
            refine ⟨h12_, ?_⟩
            refine ⟨h13_, ?_⟩
            refine ⟨h14_, ?_⟩
            refine ⟨h15_, ?_⟩
            refine ⟨h16_, ?_⟩
            refine ⟨h17_, ?_⟩
            refine ⟨h18_, ?_⟩
            refine ⟨h19_, ?_⟩
            refine ⟨h20_, ?_⟩
            refine ⟨h21_, ?_⟩
            refine ⟨h22_, ?_⟩
            refine ⟨h23_, ?_⟩
            refine ⟨h24_, ?_⟩
            refine ⟨h25_, ?_⟩
            refine ⟨h26_, ?_⟩
            refine ⟨h27_, ?_⟩
            refine ⟨h28_, ?_⟩
            refine ⟨h29_, ?_⟩
            refine ⟨h30_, ?_⟩
            refine ⟨h31_, ?_⟩
            refine ⟨h32_, ?_⟩
            refine ⟨h33_, ?_⟩
            refine ⟨h34_, ?_⟩
            refine ⟨h35_, ?_⟩
            refine ⟨h36_, ?_⟩
            refine ⟨h37_, ?_⟩
            refine ⟨h38_, ?_⟩
            refine ⟨h39_, ?_⟩
            refine ⟨h40_, ?_⟩
            refine ⟨h41_, ?_⟩
            refine ⟨h42_, ?_⟩
            refine ⟨h43_, ?_⟩
            refine ⟨h44_, ?_⟩
            refine ⟨h45_, ?_⟩
            refine ⟨h46_, ?_⟩
            refine ⟨h47_, ?_⟩
            refine ⟨h48_, ?_⟩
            refine ⟨h49_, ?_⟩
            refine ⟨h50_, ?_⟩
            refine ⟨h51_, ?_⟩
            refine ⟨h52_, ?_⟩
            refine ⟨h53_, ?_⟩
            refine ⟨h54_, ?_⟩
            refine ⟨h55_, ?_⟩
            refine ⟨h56_, ?_⟩
            refine ⟨la_global_7, ?_⟩
            refine ⟨h51_, ?_⟩
            refine ⟨(la_global_8 h60_), ?_⟩
            refine ⟨(sm_VO_i (la_global_9 h94_) (la_global_10 h94_) (la_global_11 h23_ h92_ h93_ h95_) (la_global_12 h92_ h94_ h95_)), ?_⟩
            refine ⟨h62_, ?_⟩
            refine ⟨h63_, ?_⟩
            refine ⟨h64_, ?_⟩
            refine ⟨(la_global_13 h65_), ?_⟩
            refine ⟨h66_, ?_⟩
            exact h67_
          intro h98_
          exact h7_
        intro g23
        rintro ⟨h99_, h100_⟩
        have h101_ := (h99_ h5_)
        obtain ⟨h102_, ⟨h103_, ⟨h104_, ⟨h105_, ⟨h106_, ⟨h107_, ⟨h108_, ⟨h109_, ⟨h110_, ⟨h111_, ⟨h112_, ⟨h113_, ⟨h114_, ⟨h115_, h116_⟩⟩⟩⟩⟩⟩⟩⟩⟩⟩⟩⟩⟩⟩ := (h101_ h6_)
        refine ⟨h8_, ?_⟩
        refine ⟨h9_, ?_⟩
        refine ⟨h10_, ?_⟩
        refine ⟨h11_, ?_⟩
        refine ⟨h12_, ?_⟩
        refine ⟨h13_, ?_⟩
        refine ⟨h14_, ?_⟩
        refine ⟨h15_, ?_⟩
        refine ⟨h16_, ?_⟩
        refine ⟨h17_, ?_⟩
        refine ⟨h18_, ?_⟩
        refine ⟨h19_, ?_⟩
        refine ⟨?_, ?_⟩
        · skip
          intro h117_
          refine ⟨h20_, ?_⟩
          exact h21_
        refine ⟨h22_, ?_⟩
        refine ⟨h23_, ?_⟩
        refine ⟨h24_, ?_⟩
        refine ⟨h25_, ?_⟩
        refine ⟨h34_, ?_⟩
        refine ⟨(la_global_17 h5_), ?_⟩
        refine ⟨(la_global_18 h37_), ?_⟩
        refine ⟨h38_, ?_⟩
        refine ⟨la_global_19, ?_⟩
        refine ⟨h100_, ?_⟩
        refine ⟨h99_, ?_⟩
        exact (la_global_20 h5_ h6_ h37_)
      intro h118_
      have h119_ := (h70_.resolve_left h118_)
      refine ⟨(la_global_5 h77_ h78_), ?_⟩
      intro h120_
      intro h121_
      intro g31
      rintro ⟨h122_, h123_⟩
      refine ⟨?_, ?_⟩
      · skip
        refine ⟨?_, ?_⟩
        · skip
          intro h124_
          intro h125_
          refine ⟨h8_, ?_⟩
          refine ⟨h9_, ?_⟩
          refine ⟨h10_, ?_⟩
          refine ⟨h11_, ?_⟩
          refine ⟨h12_, ?_⟩
          refine ⟨h13_, ?_⟩
          refine ⟨h14_, ?_⟩
          refine ⟨h15_, ?_⟩
          refine ⟨h16_, ?_⟩
          refine ⟨h17_, ?_⟩
          refine ⟨h18_, ?_⟩
          refine ⟨h19_, ?_⟩
          refine ⟨h20_, ?_⟩
          refine ⟨h21_, ?_⟩
          refine ⟨h22_, ?_⟩
          refine ⟨h23_, ?_⟩
          refine ⟨h24_, ?_⟩
          refine ⟨h25_, ?_⟩
          refine ⟨h26_, ?_⟩
          refine ⟨h27_, ?_⟩
          refine ⟨h28_, ?_⟩
          refine ⟨h29_, ?_⟩
          refine ⟨h30_, ?_⟩
          refine ⟨h31_, ?_⟩
          refine ⟨h32_, ?_⟩
          refine ⟨h33_, ?_⟩
          refine ⟨h34_, ?_⟩
          refine ⟨h35_, ?_⟩
          refine ⟨h36_, ?_⟩
          refine ⟨h37_, ?_⟩
          refine ⟨h38_, ?_⟩
          refine ⟨h39_, ?_⟩
          refine ⟨h40_, ?_⟩
          refine ⟨h41_, ?_⟩
          refine ⟨h42_, ?_⟩
          refine ⟨h43_, ?_⟩
          refine ⟨h44_, ?_⟩
          refine ⟨h45_, ?_⟩
          refine ⟨h46_, ?_⟩
          refine ⟨h47_, ?_⟩
          refine ⟨h48_, ?_⟩
          refine ⟨h49_, ?_⟩
          refine ⟨h50_, ?_⟩
          refine ⟨h51_, ?_⟩
          refine ⟨h52_, ?_⟩
          refine ⟨h53_, ?_⟩
          refine ⟨h54_, ?_⟩
          refine ⟨h55_, ?_⟩
          refine ⟨h56_, ?_⟩
          refine ⟨la_global_7, ?_⟩
          refine ⟨h51_, ?_⟩
          refine ⟨(la_global_8 h60_), ?_⟩
          refine ⟨(sm_VO_eq h85_ h122_ h123_), ?_⟩
          refine ⟨h62_, ?_⟩
          refine ⟨h63_, ?_⟩
          refine ⟨h64_, ?_⟩
          refine ⟨(la_global_13 h65_), ?_⟩
          refine ⟨h66_, ?_⟩
          exact h67_
        intro h126_
        exact h7_
      intro g37
      rintro ⟨h127_, h128_⟩
      have h129_ := (h127_ h5_)
      obtain ⟨h130_, ⟨h131_, ⟨h132_, ⟨h133_, ⟨h134_, ⟨h135_, ⟨h136_, ⟨h137_, ⟨h138_, ⟨h139_, ⟨h140_, ⟨h141_, ⟨h142_, ⟨h143_, h144_⟩⟩⟩⟩⟩⟩⟩⟩⟩⟩⟩⟩⟩⟩ := (h129_ h6_)
      refine ⟨h8_, ?_⟩
      refine ⟨h9_, ?_⟩
      refine ⟨h10_, ?_⟩
      refine ⟨h11_, ?_⟩
      refine ⟨h12_, ?_⟩
      refine ⟨h13_, ?_⟩
      refine ⟨h14_, ?_⟩
      refine ⟨h15_, ?_⟩
      refine ⟨h16_, ?_⟩
      refine ⟨h17_, ?_⟩
      refine ⟨h18_, ?_⟩
      refine ⟨h19_, ?_⟩
      refine ⟨?_, ?_⟩
      · skip
        intro h145_
        refine ⟨h20_, ?_⟩
        exact h21_
      refine ⟨h22_, ?_⟩
      refine ⟨h23_, ?_⟩
      refine ⟨h24_, ?_⟩
      refine ⟨h25_, ?_⟩
      refine ⟨h34_, ?_⟩
      refine ⟨(la_global_17 h5_), ?_⟩
      refine ⟨(la_global_18 h37_), ?_⟩
      refine ⟨h38_, ?_⟩
      refine ⟨la_global_19, ?_⟩
      refine ⟨h128_, ?_⟩
      refine ⟨h127_, ?_⟩
      exact (la_global_20 h5_ h6_ h37_)
    intro h146_
    intro g42
    rintro ⟨h147_, h148_⟩
    refine ⟨?_, ?_⟩
    · skip
      refine ⟨?_, ?_⟩
      · skip
        intro h149_
        intro h150_
        refine ⟨h8_, ?_⟩
        refine ⟨h9_, ?_⟩
        refine ⟨h10_, ?_⟩
        refine ⟨h11_, ?_⟩
        refine ⟨h12_, ?_⟩
        refine ⟨h13_, ?_⟩
        refine ⟨h14_, ?_⟩
        refine ⟨h15_, ?_⟩
        refine ⟨h16_, ?_⟩
        refine ⟨h17_, ?_⟩
        refine ⟨h18_, ?_⟩
        refine ⟨h19_, ?_⟩
        refine ⟨h20_, ?_⟩
        refine ⟨h21_, ?_⟩
        refine ⟨h22_, ?_⟩
        refine ⟨h23_, ?_⟩
        refine ⟨h24_, ?_⟩
        refine ⟨h25_, ?_⟩
        refine ⟨h26_, ?_⟩
        refine ⟨h27_, ?_⟩
        refine ⟨h28_, ?_⟩
        refine ⟨h29_, ?_⟩
        refine ⟨h30_, ?_⟩
        refine ⟨h31_, ?_⟩
        refine ⟨h32_, ?_⟩
        refine ⟨h33_, ?_⟩
        refine ⟨h34_, ?_⟩
        refine ⟨h35_, ?_⟩
        refine ⟨h36_, ?_⟩
        refine ⟨h37_, ?_⟩
        refine ⟨h38_, ?_⟩
        refine ⟨h39_, ?_⟩
        refine ⟨h40_, ?_⟩
        refine ⟨h41_, ?_⟩
        refine ⟨h42_, ?_⟩
        refine ⟨h43_, ?_⟩
        refine ⟨h44_, ?_⟩
        refine ⟨h45_, ?_⟩
        refine ⟨h46_, ?_⟩
        refine ⟨h47_, ?_⟩
        refine ⟨h48_, ?_⟩
        refine ⟨h49_, ?_⟩
        refine ⟨h50_, ?_⟩
        refine ⟨h51_, ?_⟩
        refine ⟨h52_, ?_⟩
        refine ⟨h53_, ?_⟩
        refine ⟨h54_, ?_⟩
        refine ⟨h55_, ?_⟩
        refine ⟨h56_, ?_⟩
        refine ⟨la_global_7, ?_⟩
        refine ⟨h51_, ?_⟩
        refine ⟨(la_global_8 h60_), ?_⟩
        refine ⟨(sm_VO_i (la_global_9 h147_) (la_global_10 h147_) (la_global_22 h23_ h148_) (la_global_23 h22_ h147_ h148_)), ?_⟩
        refine ⟨h62_, ?_⟩
        refine ⟨h63_, ?_⟩
        refine ⟨h64_, ?_⟩
        refine ⟨(la_global_13 h65_), ?_⟩
        refine ⟨h66_, ?_⟩
        exact h67_
      intro h151_
      exact h7_
    intro g48
    rintro ⟨h152_, h153_⟩
    have h154_ := (h152_ h5_)
    obtain ⟨h155_, ⟨h156_, ⟨h157_, ⟨h158_, ⟨h159_, ⟨h160_, ⟨h161_, ⟨h162_, ⟨h163_, ⟨h164_, ⟨h165_, ⟨h166_, ⟨h167_, ⟨h168_, h169_⟩⟩⟩⟩⟩⟩⟩⟩⟩⟩⟩⟩⟩⟩ := (h154_ h6_)
    refine ⟨h8_, ?_⟩
    refine ⟨h9_, ?_⟩
    refine ⟨h10_, ?_⟩
    refine ⟨h11_, ?_⟩
    refine ⟨h12_, ?_⟩
    refine ⟨h13_, ?_⟩
    refine ⟨h14_, ?_⟩
    refine ⟨h15_, ?_⟩
    refine ⟨h16_, ?_⟩
    refine ⟨h17_, ?_⟩
    refine ⟨h18_, ?_⟩
    refine ⟨h19_, ?_⟩
    refine ⟨?_, ?_⟩
    · skip
      intro h170_
      refine ⟨h20_, ?_⟩
      exact h21_
    refine ⟨h22_, ?_⟩
    refine ⟨h23_, ?_⟩
    refine ⟨h24_, ?_⟩
    refine ⟨h25_, ?_⟩
    refine ⟨h34_, ?_⟩
    refine ⟨(la_global_17 h5_), ?_⟩
    refine ⟨(la_global_18 h37_), ?_⟩
    refine ⟨h38_, ?_⟩
    refine ⟨la_global_19, ?_⟩
    refine ⟨h153_, ?_⟩
    refine ⟨h152_, ?_⟩
    exact (la_global_20 h5_ h6_ h37_)
  intro h171_
  have h172_ := (h72_.resolve_right (la_global_24 h171_))
  have h173_ := (h73_ h172_)
  refine ⟨?_, ?_⟩
  · skip
    intro h174_
    have h175_ := (h70_.resolve_right (la_global_4 h174_))
    refine ⟨?_, ?_⟩
    · skip
      intro h176_
      refine ⟨?_, ?_⟩
      · skip
        intro h177_
        refine ⟨(la_global_28 h171_ (la_global_27 (la_global_26 h171_) h176_)), ?_⟩
        intro h178_
        intro h179_
        refine ⟨?_, ?_⟩
        · skip
          refine ⟨?_, ?_⟩
          · skip
            intro h180_
            refine ⟨?_, ?_⟩
            · skip
              exact ((la_global_29 h172_ (la_global_27 (la_global_26 h171_) h176_))).elim
            exact ((la_global_29 h172_ (la_global_27 (la_global_26 h171_) h176_))).elim
          refine ⟨?_, ?_⟩
          · skip
            exact ((la_global_30 h171_ (la_global_27 (la_global_26 h171_) h176_))).elim
          exact ((la_global_30 h171_ (la_global_27 (la_global_26 h171_) h176_))).elim
        intro r61
        intro h181_
        rintro ⟨h182_, h183_⟩
        intro g62
        rintro ⟨h184_, h185_⟩
        refine ⟨?_, ?_⟩
        · skip
          refine ⟨?_, ?_⟩
          · skip
            intro h186_
            intro h187_
            refine ⟨h8_, ?_⟩
            refine ⟨h9_, ?_⟩
            refine ⟨h10_, ?_⟩
            refine ⟨h11_, ?_⟩
            refine ⟨h12_, ?_⟩
            refine ⟨h13_, ?_⟩
            refine ⟨h14_, ?_⟩
            refine ⟨h15_, ?_⟩
            refine ⟨h16_, ?_⟩
            refine ⟨h17_, ?_⟩
            refine ⟨h18_, ?_⟩
            refine ⟨h19_, ?_⟩
            refine ⟨h20_, ?_⟩
            refine ⟨h21_, ?_⟩
            refine ⟨h22_, ?_⟩
            refine ⟨h23_, ?_⟩
            refine ⟨h24_, ?_⟩
            refine ⟨h25_, ?_⟩
            refine ⟨h26_, ?_⟩
            refine ⟨h27_, ?_⟩
            refine ⟨h28_, ?_⟩
            refine ⟨h29_, ?_⟩
            refine ⟨h30_, ?_⟩
            refine ⟨h31_, ?_⟩
            refine ⟨h32_, ?_⟩
            refine ⟨h33_, ?_⟩
            refine ⟨h34_, ?_⟩
            refine ⟨h35_, ?_⟩
            refine ⟨h36_, ?_⟩
            refine ⟨h37_, ?_⟩
            refine ⟨h38_, ?_⟩
            refine ⟨h39_, ?_⟩
            refine ⟨h40_, ?_⟩
            refine ⟨h41_, ?_⟩
            refine ⟨h42_, ?_⟩
            refine ⟨h43_, ?_⟩
            refine ⟨h44_, ?_⟩
            refine ⟨h45_, ?_⟩
            refine ⟨h46_, ?_⟩
            refine ⟨h47_, ?_⟩
            refine ⟨h48_, ?_⟩
            refine ⟨h49_, ?_⟩
            refine ⟨h50_, ?_⟩
            refine ⟨h51_, ?_⟩
            refine ⟨h52_, ?_⟩
            refine ⟨h53_, ?_⟩
            refine ⟨h54_, ?_⟩
            refine ⟨h55_, ?_⟩
            refine ⟨h56_, ?_⟩
            refine ⟨la_global_7, ?_⟩
            refine ⟨h51_, ?_⟩
            refine ⟨(la_global_8 h60_), ?_⟩
            refine ⟨(sm_VO_i (la_global_9 h184_) (la_global_10 h184_) (la_global_11 h23_ h182_ h183_ h185_) (la_global_12 h182_ h184_ h185_)), ?_⟩
            refine ⟨h62_, ?_⟩
            refine ⟨h63_, ?_⟩
            refine ⟨h64_, ?_⟩
            refine ⟨(la_global_13 h65_), ?_⟩
            refine ⟨h66_, ?_⟩
            exact h67_
          intro h188_
          exact h7_
        intro g68
        rintro ⟨h189_, h190_⟩
        have h191_ := (h189_ h5_)
        obtain ⟨h192_, ⟨h193_, ⟨h194_, ⟨h195_, ⟨h196_, ⟨h197_, ⟨h198_, ⟨h199_, ⟨h200_, ⟨h201_, ⟨h202_, ⟨h203_, ⟨h204_, ⟨h205_, h206_⟩⟩⟩⟩⟩⟩⟩⟩⟩⟩⟩⟩⟩⟩ := (h191_ h6_)
        refine ⟨h8_, ?_⟩
        refine ⟨h9_, ?_⟩
        refine ⟨h10_, ?_⟩
        refine ⟨h11_, ?_⟩
        refine ⟨h12_, ?_⟩
        refine ⟨h13_, ?_⟩
        refine ⟨h14_, ?_⟩
        refine ⟨h15_, ?_⟩
        refine ⟨h16_, ?_⟩
        refine ⟨h17_, ?_⟩
        refine ⟨h18_, ?_⟩
        refine ⟨h19_, ?_⟩
        refine ⟨?_, ?_⟩
        · skip
          intro h207_
          refine ⟨h20_, ?_⟩
          exact h21_
        refine ⟨h22_, ?_⟩
        refine ⟨h23_, ?_⟩
        refine ⟨h24_, ?_⟩
        refine ⟨h25_, ?_⟩
        refine ⟨h34_, ?_⟩
        refine ⟨(la_global_17 h5_), ?_⟩
        refine ⟨(la_global_18 h37_), ?_⟩
        refine ⟨h38_, ?_⟩
        refine ⟨la_global_19, ?_⟩
        refine ⟨h190_, ?_⟩
        refine ⟨h189_, ?_⟩
        exact (la_global_20 h5_ h6_ h37_)
      intro h208_
      refine ⟨(la_global_28 h171_ (la_global_27 (la_global_26 h171_) h176_)), ?_⟩
      intro h209_
      intro h210_
      intro g76
      rintro ⟨h211_, h212_⟩
      refine ⟨?_, ?_⟩
      · skip
        refine ⟨?_, ?_⟩
        · skip
          intro h213_
          intro h214_
          refine ⟨h8_, ?_⟩
          refine ⟨h9_, ?_⟩
          refine ⟨h10_, ?_⟩
          refine ⟨h11_, ?_⟩
          refine ⟨h12_, ?_⟩
          refine ⟨h13_, ?_⟩
          refine ⟨h14_, ?_⟩
          refine ⟨h15_, ?_⟩
          refine ⟨h16_, ?_⟩
          refine ⟨h17_, ?_⟩
          refine ⟨h18_, ?_⟩
          refine ⟨h19_, ?_⟩
          refine ⟨h20_, ?_⟩
          refine ⟨h21_, ?_⟩
          refine ⟨h22_, ?_⟩
          refine ⟨h23_, ?_⟩
          refine ⟨h24_, ?_⟩
          refine ⟨h25_, ?_⟩
          refine ⟨h26_, ?_⟩
          refine ⟨h27_, ?_⟩
          refine ⟨h28_, ?_⟩
          refine ⟨h29_, ?_⟩
          refine ⟨h30_, ?_⟩
          refine ⟨h31_, ?_⟩
          refine ⟨h32_, ?_⟩
          refine ⟨h33_, ?_⟩
          refine ⟨h34_, ?_⟩
          refine ⟨h35_, ?_⟩
          refine ⟨h36_, ?_⟩
          refine ⟨h37_, ?_⟩
          refine ⟨h38_, ?_⟩
          refine ⟨h39_, ?_⟩
          refine ⟨h40_, ?_⟩
          refine ⟨h41_, ?_⟩
          refine ⟨h42_, ?_⟩
          refine ⟨h43_, ?_⟩
          refine ⟨h44_, ?_⟩
          refine ⟨h45_, ?_⟩
          refine ⟨h46_, ?_⟩
          refine ⟨h47_, ?_⟩
          refine ⟨h48_, ?_⟩
          refine ⟨h49_, ?_⟩
          refine ⟨h50_, ?_⟩
          refine ⟨h51_, ?_⟩
          refine ⟨h52_, ?_⟩
          refine ⟨h53_, ?_⟩
          refine ⟨h54_, ?_⟩
          refine ⟨h55_, ?_⟩
          refine ⟨h56_, ?_⟩
          refine ⟨la_global_7, ?_⟩
          refine ⟨h51_, ?_⟩
          refine ⟨(la_global_8 h60_), ?_⟩
          refine ⟨?_, ?_⟩
          · skip
            exact ((la_global_30 h171_ (la_global_27 (la_global_26 h171_) h176_))).elim
          refine ⟨h62_, ?_⟩
          refine ⟨h63_, ?_⟩
          refine ⟨h64_, ?_⟩
          refine ⟨(la_global_13 h65_), ?_⟩
          refine ⟨h66_, ?_⟩
          exact h67_
        intro h215_
        exact h7_
      intro g82
      rintro ⟨h216_, h217_⟩
      have h218_ := (h216_ h5_)
      obtain ⟨h219_, ⟨h220_, ⟨h221_, ⟨h222_, ⟨h223_, ⟨h224_, ⟨h225_, ⟨h226_, ⟨h227_, ⟨h228_, ⟨h229_, ⟨h230_, ⟨h231_, ⟨h232_, h233_⟩⟩⟩⟩⟩⟩⟩⟩⟩⟩⟩⟩⟩⟩ := (h218_ h6_)
      refine ⟨h8_, ?_⟩
      refine ⟨h9_, ?_⟩
      refine ⟨h10_, ?_⟩
      refine ⟨h11_, ?_⟩
      refine ⟨h12_, ?_⟩
      refine ⟨h13_, ?_⟩
      refine ⟨h14_, ?_⟩
      refine ⟨h15_, ?_⟩
      refine ⟨h16_, ?_⟩
      refine ⟨h17_, ?_⟩
      refine ⟨h18_, ?_⟩
      refine ⟨h19_, ?_⟩
      refine ⟨?_, ?_⟩
      · skip
        intro h234_
        refine ⟨h20_, ?_⟩
        exact h21_
      refine ⟨h22_, ?_⟩
      refine ⟨h23_, ?_⟩
      refine ⟨h24_, ?_⟩
      refine ⟨h25_, ?_⟩
      refine ⟨h34_, ?_⟩
      refine ⟨(la_global_17 h5_), ?_⟩
      refine ⟨(la_global_18 h37_), ?_⟩
      refine ⟨h38_, ?_⟩
      refine ⟨la_global_19, ?_⟩
      refine ⟨h217_, ?_⟩
      refine ⟨h216_, ?_⟩
      exact (la_global_20 h5_ h6_ h37_)
    intro h235_
    intro g87
    rintro ⟨h236_, h237_⟩
    refine ⟨?_, ?_⟩
    · skip
      refine ⟨?_, ?_⟩
      · skip
        intro h238_
        intro h239_
        refine ⟨h8_, ?_⟩
        refine ⟨h9_, ?_⟩
        refine ⟨h10_, ?_⟩
        refine ⟨h11_, ?_⟩
        refine ⟨h12_, ?_⟩
        refine ⟨h13_, ?_⟩
        refine ⟨h14_, ?_⟩
        refine ⟨h15_, ?_⟩
        refine ⟨h16_, ?_⟩
        refine ⟨h17_, ?_⟩
        refine ⟨h18_, ?_⟩
        refine ⟨h19_, ?_⟩
        refine ⟨h20_, ?_⟩
        refine ⟨h21_, ?_⟩
        refine ⟨h22_, ?_⟩
        refine ⟨h23_, ?_⟩
        refine ⟨h24_, ?_⟩
        refine ⟨h25_, ?_⟩
        refine ⟨h26_, ?_⟩
        refine ⟨h27_, ?_⟩
        refine ⟨h28_, ?_⟩
        refine ⟨h29_, ?_⟩
        refine ⟨h30_, ?_⟩
        refine ⟨h31_, ?_⟩
        refine ⟨h32_, ?_⟩
        refine ⟨h33_, ?_⟩
        refine ⟨h34_, ?_⟩
        refine ⟨h35_, ?_⟩
        refine ⟨h36_, ?_⟩
        refine ⟨h37_, ?_⟩
        refine ⟨h38_, ?_⟩
        refine ⟨h39_, ?_⟩
        refine ⟨h40_, ?_⟩
        refine ⟨h41_, ?_⟩
        refine ⟨h42_, ?_⟩
        refine ⟨h43_, ?_⟩
        refine ⟨h44_, ?_⟩
        refine ⟨h45_, ?_⟩
        refine ⟨h46_, ?_⟩
        refine ⟨h47_, ?_⟩
        refine ⟨h48_, ?_⟩
        refine ⟨h49_, ?_⟩
        refine ⟨h50_, ?_⟩
        refine ⟨h51_, ?_⟩
        refine ⟨h52_, ?_⟩
        refine ⟨h53_, ?_⟩
        refine ⟨h54_, ?_⟩
        refine ⟨h55_, ?_⟩
        refine ⟨h56_, ?_⟩
        refine ⟨la_global_7, ?_⟩
        refine ⟨h51_, ?_⟩
        refine ⟨(la_global_8 h60_), ?_⟩
        refine ⟨(sm_VO_i (la_global_9 h236_) (la_global_10 h236_) (la_global_22 h23_ h237_) (la_global_23 h22_ h236_ h237_)), ?_⟩
        refine ⟨h62_, ?_⟩
        refine ⟨h63_, ?_⟩
        refine ⟨h64_, ?_⟩
        refine ⟨(la_global_13 h65_), ?_⟩
        refine ⟨h66_, ?_⟩
        exact h67_
      intro h240_
      exact h7_
    intro g93
    rintro ⟨h241_, h242_⟩
    have h243_ := (h241_ h5_)
    obtain ⟨h244_, ⟨h245_, ⟨h246_, ⟨h247_, ⟨h248_, ⟨h249_, ⟨h250_, ⟨h251_, ⟨h252_, ⟨h253_, ⟨h254_, ⟨h255_, ⟨h256_, ⟨h257_, h258_⟩⟩⟩⟩⟩⟩⟩⟩⟩⟩⟩⟩⟩⟩ := (h243_ h6_)
    refine ⟨h8_, ?_⟩
    refine ⟨h9_, ?_⟩
    refine ⟨h10_, ?_⟩
    refine ⟨h11_, ?_⟩
    refine ⟨h12_, ?_⟩
    refine ⟨h13_, ?_⟩
    refine ⟨h14_, ?_⟩
    refine ⟨h15_, ?_⟩
    refine ⟨h16_, ?_⟩
    refine ⟨h17_, ?_⟩
    refine ⟨h18_, ?_⟩
    refine ⟨h19_, ?_⟩
    refine ⟨?_, ?_⟩
    · skip
      intro h259_
      refine ⟨h20_, ?_⟩
      exact h21_
    refine ⟨h22_, ?_⟩
    refine ⟨h23_, ?_⟩
    refine ⟨h24_, ?_⟩
    refine ⟨h25_, ?_⟩
    refine ⟨h34_, ?_⟩
    refine ⟨(la_global_17 h5_), ?_⟩
    refine ⟨(la_global_18 h37_), ?_⟩
    refine ⟨h38_, ?_⟩
    refine ⟨la_global_19, ?_⟩
    refine ⟨h242_, ?_⟩
    refine ⟨h241_, ?_⟩
    exact (la_global_20 h5_ h6_ h37_)
  intro h260_
  have h261_ := (h70_.resolve_left h260_)
  refine ⟨?_, ?_⟩
  · skip
    refine ⟨h5_, ?_⟩
    refine ⟨h6_, ?_⟩
    refine ⟨h7_, ?_⟩
    refine ⟨h8_, ?_⟩
    refine ⟨h9_, ?_⟩
    refine ⟨h10_, ?_⟩
    refine ⟨h11_, ?_⟩
    refine ⟨h12_, ?_⟩
    refine ⟨h13_, ?_⟩
    refine ⟨h14_, ?_⟩
    refine ⟨h15_, ?_⟩
    refine ⟨h16_, ?_⟩
    refine ⟨h17_, ?_⟩
    refine ⟨h18_, ?_⟩
    refine ⟨h19_, ?_⟩
    refine ⟨h20_, ?_⟩
    refine ⟨h21_, ?_⟩
    refine ⟨h22_, ?_⟩
    refine ⟨h23_, ?_⟩
    refine ⟨h24_, ?_⟩
    refine ⟨h25_, ?_⟩
    refine ⟨h26_, ?_⟩
    refine ⟨h27_, ?_⟩
    refine ⟨h28_, ?_⟩
    refine ⟨h29_, ?_⟩
    refine ⟨h30_, ?_⟩
    refine ⟨h31_, ?_⟩
    refine ⟨h32_, ?_⟩
    refine ⟨h33_, ?_⟩
    refine ⟨h34_, ?_⟩
    refine ⟨h35_, ?_⟩
    refine ⟨h36_, ?_⟩
    refine ⟨h37_, ?_⟩
    refine ⟨h38_, ?_⟩
    refine ⟨(la_global_31 h39_ h50_), ?_⟩
    refine ⟨(la_global_32 h50_ h63_), ?_⟩
    refine ⟨?_, ?_⟩
    · skip
      have e262_ : S 29 (S 57 (S 1092 0 - 1)) = S 29 (S 1100033 0) := congrArg ((S 29)) h50_
      exact (la_global_33 h41_ e262_)
    refine ⟨h42_, ?_⟩
    refine ⟨h43_, ?_⟩
    refine ⟨?_, ?_⟩
    · skip
      have e263_ : S 1100023 (S 57 (S 1092 0 - 1)) = S 1100023 (S 1100033 0) := congrArg ((S 1100023)) h50_
      have e264_ : sm_dp (S 1100024) (S 1100023 (S 57 (S 1092 0 - 1))) = sm_dp (S 1100024) (S 1100023 (S 1100033 0)) := congrArg ((sm_dp (S 1100024))) e263_
      exact (la_global_34 h44_ e264_)
    refine ⟨?_, ?_⟩
    · skip
      have e265_ : S 1100023 (S 57 (S 1092 0 - 1)) = S 1100023 (S 1100033 0) := congrArg ((S 1100023)) h50_
      exact (sm_TC_t h45_ (la_global_35 e265_))
    refine ⟨h46_, ?_⟩
    refine ⟨h47_, ?_⟩
    refine ⟨h48_, ?_⟩
    refine ⟨h49_, ?_⟩
    refine ⟨?_, ?_⟩
    · skip
      have e266_ : S 1100007 (S 57 (S 1092 0 - 1)) = S 1100007 (S 1100033 0) := congrArg ((S 1100007)) h50_
      exact (la_global_34 h57_ e266_)
    refine ⟨?_, ?_⟩
    · skip
      have e267_ : S 1100025 (S 57 (S 1092 0 - 1)) = S 1100025 (S 1100033 0) := congrArg ((S 1100025)) h50_
      exact (sm_SK_q h53_ (la_global_37 h58_ e267_) rfl rfl)
    refine ⟨?_, ?_⟩
    · skip
      intro h268_
      have e269_ : S 1100023 (S 57 (S 1092 0 - 1)) = S 1100023 (S 1100033 0) := congrArg ((S 1100023)) h50_
      have h270_ := (h59_ (la_global_38 h268_ e269_))
      have e271_ : S 1100007 (S 1100023 (S 57 (S 1092 0 - 1))) = S 1100007 (S 1100023 (S 1100033 0)) := congrArg ((S 1100007)) e269_
      exact (la_global_39 h270_ e271_)
    refine ⟨la_global_40, ?_⟩
    exact la_global_41
  intro g99
  rintro ⟨h272_, ⟨h273_, ⟨h274_, ⟨h275_, ⟨h276_, ⟨h277_, ⟨h278_, ⟨h279_, ⟨h280_, ⟨h281_, ⟨h282_, ⟨h283_, ⟨h284_, ⟨h285_, ⟨h286_, ⟨h287_, ⟨h288_, ⟨h289_, ⟨h290_, ⟨h291_, ⟨h292_, ⟨h293_, ⟨h294_, ⟨h295_, ⟨h296_, h297_⟩⟩⟩⟩⟩⟩⟩⟩⟩⟩⟩⟩⟩⟩⟩⟩⟩⟩⟩⟩⟩⟩⟩⟩⟩
  refine ⟨h272_, ?_⟩
  refine ⟨h9_, ?_⟩
  refine ⟨h274_, ?_⟩
  refine ⟨h275_, ?_⟩
  refine ⟨h276_, ?_⟩
  refine ⟨h277_, ?_⟩
  refine ⟨h278_, ?_⟩
  refine ⟨h15_, ?_⟩
  refine ⟨h16_, ?_⟩
  refine ⟨h17_, ?_⟩
  refine ⟨h282_, ?_⟩
  refine ⟨h283_, ?_⟩
  refine ⟨h284_, ?_⟩
  refine ⟨h285_, ?_⟩
  refine ⟨h23_, ?_⟩
  refine ⟨h24_, ?_⟩
  refine ⟨h25_, ?_⟩
  refine ⟨h34_, ?_⟩
  refine ⟨h290_, ?_⟩
  refine ⟨h291_, ?_⟩
  refine ⟨h292_, ?_⟩
  refine ⟨h293_, ?_⟩
  refine ⟨h294_, ?_⟩
  refine ⟨h295_, ?_⟩
  exact h296_
set_option maxRecDepth 8000 in
set_option maxHeartbeats 2000000 in
theorem t_global : ∀ (p1 : Int) (p2 : Int) (S : sv_S), sm_ok S → (0 ≤ p1 ∧ p1 ≤ 1) → sv_R p2 → ((S 1075 0) = 0 ∧ (S 1073 0) = 1 ∧ sm_LX (S 58) (S 63) (S 64) (S 1092 0) (S 1076 0) ∧ sm_PL (S 1100020) (S 51) (S 52) (S 46) (S 47) (S 1076 0) (S 1086 0) ∧ sm_FR (S 1100020) (S 52) (S 1100021) (S 1100022) (3000 - (S 1084 0)) (S 1085 0) ∧ sm_PV (S 1100020) (S 48) (S 49) (S 50) (S 44) (S 1076 0) (S 1007 0) ∧ sm_AL (S 1100020) (S 48) (S 49) (S 50) (S 44) (S 1076 0) (S 1100032 0) ∧ sm_SV (S 1100020) (S 48) (S 1100029) (S 32) (S 33) (S 1076 0) (S 1032 0) ∧ 0 ≤ (S 1076 0) ∧ (S 1076 0) ≤ 300 ∧ 0 ≤ (S 1084 0) ∧ (S 1084 0) ≤ 3000 ∧ 0 ≤ (S 1086 0) ∧ sm_SC (S 1100029) (S 44) (S 45) (S 43) (S 21) (S 1076 0) (S 1032 0) ∧ sm_PO (S 42) (S 1076 0) ∧ (S 1100032 0) = -1 ∧ sm_FO (S 44) (S 45) (S 1076 0) ∧ 23 ≤ (S 1076 0) ∧ 31 ≤ (S 1007 0) ∧ (S 1007 0) ≤ 400 ∧ sm_LN (S 4) 400 (S 1007 0) ∧ sm_CT (S 26) (S 27) (S 28) (S 29) (S 1100007) (S 1100023) (S 1100024) (S 1100025) (S 21) (S 1046 0) (S 1032 0) (S 1008 0) (S 1055 0) ∧ sm_LS (S 26) (S 1100007) (S 1100025) (S 1046 0) ∧ sm_CL (S 1100007) (S 1100023) (S 1100025) (S 1046 0) ∧ 1 ≤ (S 1032 0) ∧ (S 1032 0) ≤ 11 ∧ 0 ≤ (S 1046 0) ∧ (S 1046 0) ≤ 600 ∧ 31 ≤ (S 1008 0) ∧ (S 1008 0) ≤ (S 1007 0) ∧ 0 ≤ (S 1055 0) ∧ (S 1055 0) ≤ 19 ∧ 1 ≤ (S 1092 0) ∧ (S 1092 0) ≤ 24 ∧ 0 ≤ (S 1100033 0) ∧ (S 1100033 0) < (S 1046 0) ∧ (S 29 (S 1100033 0)) = (S 53 ((S 1092 0) - 1)) ∧ 0 ≤ (S 53 ((S 1092 0) - 1)) ∧ (S 53 ((S 1092 0) - 1)) < (S 1032 0) ∧ (S 60 ((S 1092 0) - 1)) = sm_dp (S 1100024) (S 1100023 (S 1100033 0)) ∧ sm_TC (S 61) (S 62) (S 27) (S 1100007) (S 1100023) (S 1100024) (40 * ((S 1092 0) - 1)) (S 1100023 (S 1100033 0)) ∧ sm_LK (S 1100029) (S 1076 0) (S 54 ((S 1092 0) - 1)) (S 53 ((S 1092 0) - 1)) ∧ sm_VO (S 44) (S 1076 0) (S 1007 0) ((S 55 ((S 1092 0) - 1))) ((S 56 ((S 1092 0) - 1))) ∧ sm_FW (S 44) (S 1076 0) (S 59 ((S 1092 0) - 1)) ∧ sm_FL (S 53) (S 54) (S 55) (S 56) (S 57) (S 58) (S 59) (S 60) (S 61) (S 62) (S 63) (S 64) (S 27) (S 29) (S 1100007) (S 1100023) (S 1100024) (S 1100025) (S 26) (S 1100029) (S 44) (S 1046 0) (S 1032 0) (S 1076 0) (S 1007 0) (((S 1092 0) - 1)) ∧ (S 57 ((S 1092 0) - 1)) = (S 1100033 0) ∧ 0 ≤ (S 58 ((S 1092 0) - 1)) ∧ (S 58 ((S 1092 0) - 1)) ≤ 400 ∧ sm_SK (S 63) (S 64) (S 44) (S 1100007) (S 1100025) (S 1076 0) (S 1007 0) (400 * ((S 1092 0) - 1)) ((S 58 ((S 1092 0) - 1))) ((S 1100034 0)) ∧ -1 ≤ (S 1100034 0) ∧ (S 1100034 0) < (S 1046 0) ∧ (0 ≤ (S 1100034 0) → (S 26 (S 1100034 0)) = 29) ∧ (S 58 ((S 1092 0) - 1)) = (S 1100007 (S 1100033 0)) ∧ (S 1100034 0) = (S 1100025 (S 1100033 0)) ∧ (0 ≤ (S 1100023 (S 1100033 0)) → (S 1100007 (S 1100023 (S 1100033 0))) ≤ (S 58 ((S 1092 0) - 1))) ∧ (S 58 ((S 1092 0) - 1)) ≤ 396 ∧ 0 ≤ (S 58 ((S 1092 0) - 1)) ∧ (0 ≤ (S 1100034 0) → (S 1100007 (S 1100034 0)) ≤ (S 58 ((S 1092 0) - 1)) - 0) ∧ (S 1100033 0) + 1 < (S 1046 0) ∧ (S 29 ((S 1100033 0) + 1)) = (S 29 (S 1100033 0)) ∧ (S 1100007 ((S 1100033 0) + 1)) = (S 58 ((S 1092 0) - 1)) + 1 ∧ (S 1100023 ((S 1100033 0) + 1)) = (S 1100023 (S 1100033 0)) ∧ (S 1100025 ((S 1100033 0) + 1)) = (S 1100034 0) ∧ 0 ≤ p2 ∧ p2 < (S 1008 0) ∧ (p1 = 0 ∨ p1 = 1)) → sv_T sm_XS sm_cs sm_L sm_sh 4 (q_global p1 p2 S) 168 0 (lv_args 0 [.ref 0, sv_I p1, sv_I p2]) [] S := by
  intro p1 p2 S hok hp1 hp2 hpre
  have h := f_global p1 p2 S hok hp1 hp2 hpre
  have hM := sm_h168
  show sv_T sm_XS sm_cs sm_L sm_sh 4 (q_global p1 p2 S) 168 0 [(0, .ref 0), (1, sv_I p1), (2, sv_I p2)] [] S
  refine sv_aload_n hM dX12_global_0 rfl rfl ?_
  refine sv_iconst (d := (0 : Int)) hM dX12_global_1 rfl rfl ?_
  refine sv_iload_n hM dX12_global_2 rfl rfl ?_
  obtain ⟨o1, h⟩ := h
  refine sv_callV hM dX12_global_3 sm_iv_846 (by decide) (sm_a0 _) rfl rfl (Nat.le_of_ble_eq_true rfl) sm_h140 (Nat.le_of_ble_eq_true rfl) (Nat.le_of_ble_eq_true rfl) (F' := 0) (Nat.le_of_ble_eq_true rfl) rfl (t_findProperty (0 : Int) p2 S hok (⟨by decide, by decide⟩ : sv_R (0 : Int)) hp2 o1) (fun v S1 hq => ?_)
  obtain ⟨r6, rfl, hr6, ok3, md4, hpo5⟩ := hq
  obtain rfl : S = S1 := (funext fun j => md4 j (by intro q; cases q)).symm
  show sv_T sm_XS sm_cs sm_L sm_sh 4 (q_global p1 p2 S) 168 6 [(0, .ref 0), (1, sv_I p1), (2, sv_I p2)] [sv_I r6] S
  have h := h r6 hr6 hpo5
  have k7 : (sm_PV (S 1100020) (S 48) (S 49) (S 50) (S 44) (S 1076 0) (S 1007 0) → 0 ≤ r6 → r6 < 3000 → 0 ≤ (S 1100020 r6) → (0 ≤ (S 48 r6) ∧ (S 48 r6) < (S 1007 0)) ∧ sm_VO (S 44) (S 1076 0) (S 1007 0) ((S 49 r6)) ((S 50 r6))) := fun h a b d => sm_PV_at h _ a b d
  have h := h k7
  refine sv_istore_n hM dX12_global_6 (by decide) rfl ?_
  show sv_T sm_XS sm_cs sm_L sm_sh 4 (q_global p1 p2 S) 168 7 [(0, .ref 0), (1, sv_I p1), (2, sv_I p2), (3, sv_I r6)] [] S
  refine sv_iload_n hM dX12_global_7 rfl rfl ?_
  refine sv_iconst (d := (-1 : Int)) hM dX12_global_8 rfl rfl ?_
  refine sv_icmp_ne hM dX12_global_9 hr6 (⟨by decide, by decide⟩ : sv_R (-1 : Int)) (t := 23) rfl rfl (fun hc => ?_) (fun hc => ?_)
  · have h := h.1 (hc)
    refine sv_iload_n hM dX12_global_23 rfl rfl ?_
    refine sv_iconst (d := (-1 : Int)) hM dX12_global_24 rfl rfl ?_
    refine sv_icmp_ne hM dX12_global_25 hr6 (⟨by decide, by decide⟩ : sv_R (-1 : Int)) (t := 39) rfl rfl (fun hc => ?_) (fun hc => ?_)
    · have h := h.1 (hc)
      refine sv_iload_n hM dX12_global_39 rfl rfl ?_
      refine sv_cond_eq hM dX12_global_40 (sv_R01 hp1) (t := 62) rfl rfl (fun hc => ?_) (fun hc => ?_)
      · have h := h.1 (hc)
        refine sv_aload_n hM dX12_global_62 rfl rfl ?_
        refine sv_bipush (d := (6 : Int)) hM dX12_global_63 rfl rfl ?_
        refine sv_aload_n hM dX12_global_65 rfl rfl ?_
        refine sv_aload_n hM dX12_global_66 rfl rfl ?_
        refine sv_getA hM dX12_global_67 sm_fl_158 (sm_a0 _) sm_k88 rfl ?_
        refine sv_iload_n hM dX12_global_70 rfl rfl ?_
        obtain ⟨o8, h⟩ := h
        have k9 : sv_R (S 49 r6) := sm_okI ok3 sm_r49 r6
        have h := h k9
        refine sv_iald hM dX12_global_71 (sm_a49 _) (by decide) o8.1 o8.2 rfl (x := (S 49 r6)) rfl ?_
        refine sv_aload_n hM dX12_global_72 rfl rfl ?_
        refine sv_getA hM dX12_global_73 sm_fl_161 (sm_a0 _) sm_k89 rfl ?_
        refine sv_iload_n hM dX12_global_76 rfl rfl ?_
        have k10 : sv_R (S 50 r6) := sm_okI ok3 sm_r50 r6
        have h := h k10
        refine sv_iald hM dX12_global_77 (sm_a50 _) (by decide) o8.1 o8.2 rfl (x := (S 50 r6)) rfl ?_
        obtain ⟨o11, h⟩ := h
        refine sv_callV hM dX12_global_78 sm_iv_937 (by decide) (sm_a0 _) rfl rfl (Nat.le_of_ble_eq_true rfl) sm_h169 (Nat.le_of_ble_eq_true rfl) (Nat.le_of_ble_eq_true rfl) (F' := 0) (Nat.le_of_ble_eq_true rfl) rfl (t_typeOf (S 49 r6) (S 50 r6) S ok3 k9 k10 o11) (fun v S1 hq => ?_)
        obtain ⟨r16, rfl, hr16, ok13, md14, hpo15⟩ := hq
        obtain rfl : S = S1 := (funext fun j => md14 j (by intro q; cases q)).symm
        show sv_T sm_XS sm_cs sm_L sm_sh 4 (q_global p1 p2 S) 168 81 [(0, .ref 0), (1, sv_I p1), (2, sv_I p2), (3, sv_I r6)] [sv_I r16, sv_I (6 : Int), .ref 0] S
        have h := h r16 hr16 hpo15
        refine sv_callV hM dX12_global_81 sm_iv_822 (by decide) (sm_a0 _) rfl rfl (Nat.le_of_ble_eq_true rfl) sm_h122 (Nat.le_of_ble_eq_true rfl) (Nat.le_of_ble_eq_true rfl) (F' := 0) (Nat.le_of_ble_eq_true rfl) rfl (t_give_ (6 : Int) r16 S ok13 (⟨by decide, by decide⟩ : sv_R (6 : Int)) hr16) (fun v S1 hq => ?_)
        obtain ⟨rfl, ok18, md19, hpo20⟩ := hq
        obtain ⟨g17, rfl⟩ : ∃ g, S1 = sv_sts S [1111, 1112] g := ⟨_, md19.eq⟩
        show sv_T sm_XS sm_cs sm_L sm_sh 4 (q_global p1 p2 S) 168 84 [(0, .ref 0), (1, sv_I p1), (2, sv_I p2), (3, sv_I r6)] [] (sv_sts S [1111, 1112] g17)
        have md21 : sv_mod [1076, 41, 42, 43, 44, 45, 46, 47, 1075, 1100029, 1092, 60, 58, 57, 63, 64, 1073, 1109, 1110, 58, 63, 64, 57, 1111, 1112] S (sv_sts S [1111, 1112] g17) := sv_mod.sts sv_mod.rf (by decide)
        have h := h g17 hpo20
        refine sv_aload_n hM dX12_global_84 rfl rfl ?_
        refine sv_iconst (d := (0 : Int)) hM dX12_global_85 rfl rfl ?_
        obtain ⟨o22, h⟩ := h
        refine sv_callV hM dX12_global_86 sm_iv_904 (by decide) (sm_a0 _) rfl rfl (Nat.le_of_ble_eq_true rfl) sm_h155 (Nat.le_of_ble_eq_true rfl) (Nat.le_of_ble_eq_true rfl) (F' := 2) (Nat.le_of_ble_eq_true rfl) rfl (t_gives (0 : Int) (sv_sts S [1111, 1112] g17) ok18 (⟨by decide, by decide⟩ : sv_R (0 : Int)) o22) (fun v S1 hq => ?_)
        obtain ⟨rfl, ok24, md25, hpo26⟩ := hq
        obtain ⟨g23, rfl⟩ : ∃ g, S1 = sv_sts (sv_sts S [1111, 1112] g17) [58, 63, 64, 57] g := ⟨_, md25.eq⟩
        show sv_T sm_XS sm_cs sm_L sm_sh 4 (q_global p1 p2 S) 168 89 [(0, .ref 0), (1, sv_I p1), (2, sv_I p2), (3, sv_I r6)] [] (sv_sts (sv_sts S [1111, 1112] g17) [58, 63, 64, 57] g23)
        have md27 : sv_mod [1076, 41, 42, 43, 44, 45, 46, 47, 1075, 1100029, 1092, 60, 58, 57, 63, 64, 1073, 1109, 1110, 58, 63, 64, 57, 1111, 1112] S (sv_sts (sv_sts S [1111, 1112] g17) [58, 63, 64, 57] g23) := sv_mod.sts md21 (by decide)
        have h := h g23 hpo26
        exact sv_vret hM dX12_global_89 rfl ⟨rfl, ok24, md27, h⟩
      · have h := h.2 (hc)
        refine sv_aload_n hM dX12_global_43 rfl rfl ?_
        refine sv_aload_n hM dX12_global_44 rfl rfl ?_
        refine sv_getA hM dX12_global_45 sm_fl_158 (sm_a0 _) sm_k88 rfl ?_
        refine sv_iload_n hM dX12_global_48 rfl rfl ?_
        obtain ⟨o28, h⟩ := h
        have k29 : sv_R (S 49 r6) := sm_okI ok3 sm_r49 r6
        have h := h k29
        refine sv_iald hM dX12_global_49 (sm_a49 _) (by decide) o28.1 o28.2 rfl (x := (S 49 r6)) rfl ?_
        refine sv_aload_n hM dX12_global_50 rfl rfl ?_
        refine sv_getA hM dX12_global_51 sm_fl_161 (sm_a0 _) sm_k89 rfl ?_
        refine sv_iload_n hM dX12_global_54 rfl rfl ?_
        have k30 : sv_R (S 50 r6) := sm_okI ok3 sm_r50 r6
        have h := h k30
        refine sv_iald hM dX12_global_55 (sm_a50 _) (by decide) o28.1 o28.2 rfl (x := (S 50 r6)) rfl ?_
        refine sv_callV hM dX12_global_56 sm_iv_822 (by decide) (sm_a0 _) rfl rfl (Nat.le_of_ble_eq_true rfl) sm_h122 (Nat.le_of_ble_eq_true rfl) (Nat.le_of_ble_eq_true rfl) (F' := 0) (Nat.le_of_ble_eq_true rfl) rfl (t_give_ (S 49 r6) (S 50 r6) S ok3 k29 k30) (fun v S1 hq => ?_)
        obtain ⟨rfl, ok32, md33, hpo34⟩ := hq
        obtain ⟨g31, rfl⟩ : ∃ g, S1 = sv_sts S [1111, 1112] g := ⟨_, md33.eq⟩
        show sv_T sm_XS sm_cs sm_L sm_sh 4 (q_global p1 p2 S) 168 59 [(0, .ref 0), (1, sv_I p1), (2, sv_I p2), (3, sv_I r6)] [] (sv_sts S [1111, 1112] g31)
        have md35 : sv_mod [1076, 41, 42, 43, 44, 45, 46, 47, 1075, 1100029, 1092, 60, 58, 57, 63, 64, 1073, 1109, 1110, 58, 63, 64, 57, 1111, 1112] S (sv_sts S [1111, 1112] g31) := sv_mod.sts sv_mod.rf (by decide)
        have h := h g31 hpo34
        refine sv_goto hM dX12_global_59 (pc' := 84) rfl ?_
        refine sv_aload_n hM dX12_global_84 rfl rfl ?_
        refine sv_iconst (d := (0 : Int)) hM dX12_global_85 rfl rfl ?_
        obtain ⟨o36, h⟩ := h
        refine sv_callV hM dX12_global_86 sm_iv_904 (by decide) (sm_a0 _) rfl rfl (Nat.le_of_ble_eq_true rfl) sm_h155 (Nat.le_of_ble_eq_true rfl) (Nat.le_of_ble_eq_true rfl) (F' := 2) (Nat.le_of_ble_eq_true rfl) rfl (t_gives (0 : Int) (sv_sts S [1111, 1112] g31) ok32 (⟨by decide, by decide⟩ : sv_R (0 : Int)) o36) (fun v S1 hq => ?_)
        obtain ⟨rfl, ok38, md39, hpo40⟩ := hq
        obtain ⟨g37, rfl⟩ : ∃ g, S1 = sv_sts (sv_sts S [1111, 1112] g31) [58, 63, 64, 57] g := ⟨_, md39.eq⟩
        show sv_T sm_XS sm_cs sm_L sm_sh 4 (q_global p1 p2 S) 168 89 [(0, .ref 0), (1, sv_I p1), (2, sv_I p2), (3, sv_I r6)] [] (sv_sts (sv_sts S [1111, 1112] g31) [58, 63, 64, 57] g37)
        have md41 : sv_mod [1076, 41, 42, 43, 44, 45, 46, 47, 1075, 1100029, 1092, 60, 58, 57, 63, 64, 1073, 1109, 1110, 58, 63, 64, 57, 1111, 1112] S (sv_sts (sv_sts S [1111, 1112] g31) [58, 63, 64, 57] g37) := sv_mod.sts md35 (by decide)
        have h := h g37 hpo40
        exact sv_vret hM dX12_global_89 rfl ⟨rfl, ok38, md41, h⟩
    · have h := h.2 (hc)
      refine sv_aload_n hM dX12_global_28 rfl rfl ?_
      refine sv_bipush (d := (6 : Int)) hM dX12_global_29 rfl rfl ?_
      refine sv_bipush (d := (19 : Int)) hM dX12_global_31 rfl rfl ?_
      refine sv_callV hM dX12_global_33 sm_iv_822 (by decide) (sm_a0 _) rfl rfl (Nat.le_of_ble_eq_true rfl) sm_h122 (Nat.le_of_ble_eq_true rfl) (Nat.le_of_ble_eq_true rfl) (F' := 0) (Nat.le_of_ble_eq_true rfl) rfl (t_give_ (6 : Int) (19 : Int) S ok3 (⟨by decide, by decide⟩ : sv_R (6 : Int)) (⟨by decide, by decide⟩ : sv_R (19 : Int))) (fun v S1 hq => ?_)
      obtain ⟨rfl, ok43, md44, hpo45⟩ := hq
      obtain ⟨g42, rfl⟩ : ∃ g, S1 = sv_sts S [1111, 1112] g := ⟨_, md44.eq⟩
      show sv_T sm_XS sm_cs sm_L sm_sh 4 (q_global p1 p2 S) 168 36 [(0, .ref 0), (1, sv_I p1), (2, sv_I p2), (3, sv_I r6)] [] (sv_sts S [1111, 1112] g42)
      have md46 : sv_mod [1076, 41, 42, 43, 44, 45, 46, 47, 1075, 1100029, 1092, 60, 58, 57, 63, 64, 1073, 1109, 1110, 58, 63, 64, 57, 1111, 1112] S (sv_sts S [1111, 1112] g42) := sv_mod.sts sv_mod.rf (by decide)
      have h := h g42 hpo45
      refine sv_goto hM dX12_global_36 (pc' := 84) rfl ?_
      refine sv_aload_n hM dX12_global_84 rfl rfl ?_
      refine sv_iconst (d := (0 : Int)) hM dX12_global_85 rfl rfl ?_
      obtain ⟨o47, h⟩ := h
      refine sv_callV hM dX12_global_86 sm_iv_904 (by decide) (sm_a0 _) rfl rfl (Nat.le_of_ble_eq_true rfl) sm_h155 (Nat.le_of_ble_eq_true rfl) (Nat.le_of_ble_eq_true rfl) (F' := 2) (Nat.le_of_ble_eq_true rfl) rfl (t_gives (0 : Int) (sv_sts S [1111, 1112] g42) ok43 (⟨by decide, by decide⟩ : sv_R (0 : Int)) o47) (fun v S1 hq => ?_)
      obtain ⟨rfl, ok49, md50, hpo51⟩ := hq
      obtain ⟨g48, rfl⟩ : ∃ g, S1 = sv_sts (sv_sts S [1111, 1112] g42) [58, 63, 64, 57] g := ⟨_, md50.eq⟩
      show sv_T sm_XS sm_cs sm_L sm_sh 4 (q_global p1 p2 S) 168 89 [(0, .ref 0), (1, sv_I p1), (2, sv_I p2), (3, sv_I r6)] [] (sv_sts (sv_sts S [1111, 1112] g42) [58, 63, 64, 57] g48)
      have md52 : sv_mod [1076, 41, 42, 43, 44, 45, 46, 47, 1075, 1100029, 1092, 60, 58, 57, 63, 64, 1073, 1109, 1110, 58, 63, 64, 57, 1111, 1112] S (sv_sts (sv_sts S [1111, 1112] g42) [58, 63, 64, 57] g48) := sv_mod.sts md46 (by decide)
      have h := h g48 hpo51
      exact sv_vret hM dX12_global_89 rfl ⟨rfl, ok49, md52, h⟩
  · have h := h.2 (hc)
    refine sv_iload_n hM dX12_global_12 rfl rfl ?_
    refine sv_cond_eq hM dX12_global_13 (sv_R01 hp1) (t := 23) rfl rfl (fun hc => ?_) (fun hc => ?_)
    · have h := h.1 (hc)
      refine sv_iload_n hM dX12_global_23 rfl rfl ?_
      refine sv_iconst (d := (-1 : Int)) hM dX12_global_24 rfl rfl ?_
      refine sv_icmp_ne hM dX12_global_25 hr6 (⟨by decide, by decide⟩ : sv_R (-1 : Int)) (t := 39) rfl rfl (fun hc => ?_) (fun hc => ?_)
      · have h := h.1 (hc)
        refine sv_iload_n hM dX12_global_39 rfl rfl ?_
        refine sv_cond_eq hM dX12_global_40 (sv_R01 hp1) (t := 62) rfl rfl (fun hc => ?_) (fun hc => ?_)
        · have h := h.1 (hc)
          refine sv_aload_n hM dX12_global_62 rfl rfl ?_
          refine sv_bipush (d := (6 : Int)) hM dX12_global_63 rfl rfl ?_
          refine sv_aload_n hM dX12_global_65 rfl rfl ?_
          refine sv_aload_n hM dX12_global_66 rfl rfl ?_
          refine sv_getA hM dX12_global_67 sm_fl_158 (sm_a0 _) sm_k88 rfl ?_
          refine sv_iload_n hM dX12_global_70 rfl rfl ?_
          obtain ⟨o53, h⟩ := h
          have k54 : sv_R (S 49 r6) := sm_okI ok3 sm_r49 r6
          have h := h k54
          refine sv_iald hM dX12_global_71 (sm_a49 _) (by decide) o53.1 o53.2 rfl (x := (S 49 r6)) rfl ?_
          refine sv_aload_n hM dX12_global_72 rfl rfl ?_
          refine sv_getA hM dX12_global_73 sm_fl_161 (sm_a0 _) sm_k89 rfl ?_
          refine sv_iload_n hM dX12_global_76 rfl rfl ?_
          have k55 : sv_R (S 50 r6) := sm_okI ok3 sm_r50 r6
          have h := h k55
          refine sv_iald hM dX12_global_77 (sm_a50 _) (by decide) o53.1 o53.2 rfl (x := (S 50 r6)) rfl ?_
          obtain ⟨o56, h⟩ := h
          refine sv_callV hM dX12_global_78 sm_iv_937 (by decide) (sm_a0 _) rfl rfl (Nat.le_of_ble_eq_true rfl) sm_h169 (Nat.le_of_ble_eq_true rfl) (Nat.le_of_ble_eq_true rfl) (F' := 0) (Nat.le_of_ble_eq_true rfl) rfl (t_typeOf (S 49 r6) (S 50 r6) S ok3 k54 k55 o56) (fun v S1 hq => ?_)
          obtain ⟨r61, rfl, hr61, ok58, md59, hpo60⟩ := hq
          obtain rfl : S = S1 := (funext fun j => md59 j (by intro q; cases q)).symm
          show sv_T sm_XS sm_cs sm_L sm_sh 4 (q_global p1 p2 S) 168 81 [(0, .ref 0), (1, sv_I p1), (2, sv_I p2), (3, sv_I r6)] [sv_I r61, sv_I (6 : Int), .ref 0] S
          have h := h r61 hr61 hpo60
          refine sv_callV hM dX12_global_81 sm_iv_822 (by decide) (sm_a0 _) rfl rfl (Nat.le_of_ble_eq_true rfl) sm_h122 (Nat.le_of_ble_eq_true rfl) (Nat.le_of_ble_eq_true rfl) (F' := 0) (Nat.le_of_ble_eq_true rfl) rfl (t_give_ (6 : Int) r61 S ok58 (⟨by decide, by decide⟩ : sv_R (6 : Int)) hr61) (fun v S1 hq => ?_)
          obtain ⟨rfl, ok63, md64, hpo65⟩ := hq
          obtain ⟨g62, rfl⟩ : ∃ g, S1 = sv_sts S [1111, 1112] g := ⟨_, md64.eq⟩
          show sv_T sm_XS sm_cs sm_L sm_sh 4 (q_global p1 p2 S) 168 84 [(0, .ref 0), (1, sv_I p1), (2, sv_I p2), (3, sv_I r6)] [] (sv_sts S [1111, 1112] g62)
          have md66 : sv_mod [1076, 41, 42, 43, 44, 45, 46, 47, 1075, 1100029, 1092, 60, 58, 57, 63, 64, 1073, 1109, 1110, 58, 63, 64, 57, 1111, 1112] S (sv_sts S [1111, 1112] g62) := sv_mod.sts sv_mod.rf (by decide)
          have h := h g62 hpo65
          refine sv_aload_n hM dX12_global_84 rfl rfl ?_
          refine sv_iconst (d := (0 : Int)) hM dX12_global_85 rfl rfl ?_
          obtain ⟨o67, h⟩ := h
          refine sv_callV hM dX12_global_86 sm_iv_904 (by decide) (sm_a0 _) rfl rfl (Nat.le_of_ble_eq_true rfl) sm_h155 (Nat.le_of_ble_eq_true rfl) (Nat.le_of_ble_eq_true rfl) (F' := 2) (Nat.le_of_ble_eq_true rfl) rfl (t_gives (0 : Int) (sv_sts S [1111, 1112] g62) ok63 (⟨by decide, by decide⟩ : sv_R (0 : Int)) o67) (fun v S1 hq => ?_)
          obtain ⟨rfl, ok69, md70, hpo71⟩ := hq
          obtain ⟨g68, rfl⟩ : ∃ g, S1 = sv_sts (sv_sts S [1111, 1112] g62) [58, 63, 64, 57] g := ⟨_, md70.eq⟩
          show sv_T sm_XS sm_cs sm_L sm_sh 4 (q_global p1 p2 S) 168 89 [(0, .ref 0), (1, sv_I p1), (2, sv_I p2), (3, sv_I r6)] [] (sv_sts (sv_sts S [1111, 1112] g62) [58, 63, 64, 57] g68)
          have md72 : sv_mod [1076, 41, 42, 43, 44, 45, 46, 47, 1075, 1100029, 1092, 60, 58, 57, 63, 64, 1073, 1109, 1110, 58, 63, 64, 57, 1111, 1112] S (sv_sts (sv_sts S [1111, 1112] g62) [58, 63, 64, 57] g68) := sv_mod.sts md66 (by decide)
          have h := h g68 hpo71
          exact sv_vret hM dX12_global_89 rfl ⟨rfl, ok69, md72, h⟩
        · have h := h.2 (hc)
          refine sv_aload_n hM dX12_global_43 rfl rfl ?_
          refine sv_aload_n hM dX12_global_44 rfl rfl ?_
          refine sv_getA hM dX12_global_45 sm_fl_158 (sm_a0 _) sm_k88 rfl ?_
          refine sv_iload_n hM dX12_global_48 rfl rfl ?_
          obtain ⟨o73, h⟩ := h
          have k74 : sv_R (S 49 r6) := sm_okI ok3 sm_r49 r6
          have h := h k74
          refine sv_iald hM dX12_global_49 (sm_a49 _) (by decide) o73.1 o73.2 rfl (x := (S 49 r6)) rfl ?_
          refine sv_aload_n hM dX12_global_50 rfl rfl ?_
          refine sv_getA hM dX12_global_51 sm_fl_161 (sm_a0 _) sm_k89 rfl ?_
          refine sv_iload_n hM dX12_global_54 rfl rfl ?_
          have k75 : sv_R (S 50 r6) := sm_okI ok3 sm_r50 r6
          have h := h k75
          refine sv_iald hM dX12_global_55 (sm_a50 _) (by decide) o73.1 o73.2 rfl (x := (S 50 r6)) rfl ?_
          refine sv_callV hM dX12_global_56 sm_iv_822 (by decide) (sm_a0 _) rfl rfl (Nat.le_of_ble_eq_true rfl) sm_h122 (Nat.le_of_ble_eq_true rfl) (Nat.le_of_ble_eq_true rfl) (F' := 0) (Nat.le_of_ble_eq_true rfl) rfl (t_give_ (S 49 r6) (S 50 r6) S ok3 k74 k75) (fun v S1 hq => ?_)
          obtain ⟨rfl, ok77, md78, hpo79⟩ := hq
          obtain ⟨g76, rfl⟩ : ∃ g, S1 = sv_sts S [1111, 1112] g := ⟨_, md78.eq⟩
          show sv_T sm_XS sm_cs sm_L sm_sh 4 (q_global p1 p2 S) 168 59 [(0, .ref 0), (1, sv_I p1), (2, sv_I p2), (3, sv_I r6)] [] (sv_sts S [1111, 1112] g76)
          have md80 : sv_mod [1076, 41, 42, 43, 44, 45, 46, 47, 1075, 1100029, 1092, 60, 58, 57, 63, 64, 1073, 1109, 1110, 58, 63, 64, 57, 1111, 1112] S (sv_sts S [1111, 1112] g76) := sv_mod.sts sv_mod.rf (by decide)
          have h := h g76 hpo79
          refine sv_goto hM dX12_global_59 (pc' := 84) rfl ?_
          refine sv_aload_n hM dX12_global_84 rfl rfl ?_
          refine sv_iconst (d := (0 : Int)) hM dX12_global_85 rfl rfl ?_
          obtain ⟨o81, h⟩ := h
          refine sv_callV hM dX12_global_86 sm_iv_904 (by decide) (sm_a0 _) rfl rfl (Nat.le_of_ble_eq_true rfl) sm_h155 (Nat.le_of_ble_eq_true rfl) (Nat.le_of_ble_eq_true rfl) (F' := 2) (Nat.le_of_ble_eq_true rfl) rfl (t_gives (0 : Int) (sv_sts S [1111, 1112] g76) ok77 (⟨by decide, by decide⟩ : sv_R (0 : Int)) o81) (fun v S1 hq => ?_)
          obtain ⟨rfl, ok83, md84, hpo85⟩ := hq
          obtain ⟨g82, rfl⟩ : ∃ g, S1 = sv_sts (sv_sts S [1111, 1112] g76) [58, 63, 64, 57] g := ⟨_, md84.eq⟩
          show sv_T sm_XS sm_cs sm_L sm_sh 4 (q_global p1 p2 S) 168 89 [(0, .ref 0), (1, sv_I p1), (2, sv_I p2), (3, sv_I r6)] [] (sv_sts (sv_sts S [1111, 1112] g76) [58, 63, 64, 57] g82)
          have md86 : sv_mod [1076, 41, 42, 43, 44, 45, 46, 47, 1075, 1100029, 1092, 60, 58, 57, 63, 64, 1073, 1109, 1110, 58, 63, 64, 57, 1111, 1112] S (sv_sts (sv_sts S [1111, 1112] g76) [58, 63, 64, 57] g82) := sv_mod.sts md80 (by decide)
          have h := h g82 hpo85
          exact sv_vret hM dX12_global_89 rfl ⟨rfl, ok83, md86, h⟩
      · have h := h.2 (hc)
        refine sv_aload_n hM dX12_global_28 rfl rfl ?_
        refine sv_bipush (d := (6 : Int)) hM dX12_global_29 rfl rfl ?_
        refine sv_bipush (d := (19 : Int)) hM dX12_global_31 rfl rfl ?_
        refine sv_callV hM dX12_global_33 sm_iv_822 (by decide) (sm_a0 _) rfl rfl (Nat.le_of_ble_eq_true rfl) sm_h122 (Nat.le_of_ble_eq_true rfl) (Nat.le_of_ble_eq_true rfl) (F' := 0) (Nat.le_of_ble_eq_true rfl) rfl (t_give_ (6 : Int) (19 : Int) S ok3 (⟨by decide, by decide⟩ : sv_R (6 : Int)) (⟨by decide, by decide⟩ : sv_R (19 : Int))) (fun v S1 hq => ?_)
        obtain ⟨rfl, ok88, md89, hpo90⟩ := hq
        obtain ⟨g87, rfl⟩ : ∃ g, S1 = sv_sts S [1111, 1112] g := ⟨_, md89.eq⟩
        show sv_T sm_XS sm_cs sm_L sm_sh 4 (q_global p1 p2 S) 168 36 [(0, .ref 0), (1, sv_I p1), (2, sv_I p2), (3, sv_I r6)] [] (sv_sts S [1111, 1112] g87)
        have md91 : sv_mod [1076, 41, 42, 43, 44, 45, 46, 47, 1075, 1100029, 1092, 60, 58, 57, 63, 64, 1073, 1109, 1110, 58, 63, 64, 57, 1111, 1112] S (sv_sts S [1111, 1112] g87) := sv_mod.sts sv_mod.rf (by decide)
        have h := h g87 hpo90
        refine sv_goto hM dX12_global_36 (pc' := 84) rfl ?_
        refine sv_aload_n hM dX12_global_84 rfl rfl ?_
        refine sv_iconst (d := (0 : Int)) hM dX12_global_85 rfl rfl ?_
        obtain ⟨o92, h⟩ := h
        refine sv_callV hM dX12_global_86 sm_iv_904 (by decide) (sm_a0 _) rfl rfl (Nat.le_of_ble_eq_true rfl) sm_h155 (Nat.le_of_ble_eq_true rfl) (Nat.le_of_ble_eq_true rfl) (F' := 2) (Nat.le_of_ble_eq_true rfl) rfl (t_gives (0 : Int) (sv_sts S [1111, 1112] g87) ok88 (⟨by decide, by decide⟩ : sv_R (0 : Int)) o92) (fun v S1 hq => ?_)
        obtain ⟨rfl, ok94, md95, hpo96⟩ := hq
        obtain ⟨g93, rfl⟩ : ∃ g, S1 = sv_sts (sv_sts S [1111, 1112] g87) [58, 63, 64, 57] g := ⟨_, md95.eq⟩
        show sv_T sm_XS sm_cs sm_L sm_sh 4 (q_global p1 p2 S) 168 89 [(0, .ref 0), (1, sv_I p1), (2, sv_I p2), (3, sv_I r6)] [] (sv_sts (sv_sts S [1111, 1112] g87) [58, 63, 64, 57] g93)
        have md97 : sv_mod [1076, 41, 42, 43, 44, 45, 46, 47, 1075, 1100029, 1092, 60, 58, 57, 63, 64, 1073, 1109, 1110, 58, 63, 64, 57, 1111, 1112] S (sv_sts (sv_sts S [1111, 1112] g87) [58, 63, 64, 57] g93) := sv_mod.sts md91 (by decide)
        have h := h g93 hpo96
        exact sv_vret hM dX12_global_89 rfl ⟨rfl, ok94, md97, h⟩
    · have h := h.2 (hc)
      refine sv_aload_n hM dX12_global_16 rfl rfl ?_
      refine sv_bipush (d := (7 : Int)) hM dX12_global_17 rfl rfl ?_
      obtain ⟨o98, h⟩ := h
      refine sv_callV hM dX12_global_19 sm_iv_966 (by decide) (sm_a0 _) rfl rfl (Nat.le_of_ble_eq_true rfl) sm_h157 (Nat.le_of_ble_eq_true rfl) (Nat.le_of_ble_eq_true rfl) (F' := 3) (Nat.le_of_ble_eq_true rfl) rfl (t_error (7 : Int) S ok3 (⟨by decide, by decide⟩ : sv_R (7 : Int)) o98) (fun v S1 hq => ?_)
      obtain ⟨rfl, ok100, md101, hpo102⟩ := hq
      obtain ⟨g99, rfl⟩ : ∃ g, S1 = sv_sts S [1076, 41, 42, 43, 44, 45, 46, 47, 1075, 1100029, 1092, 60, 58, 57, 63, 64, 1073, 1109, 1110] g := ⟨_, md101.eq⟩
      show sv_T sm_XS sm_cs sm_L sm_sh 4 (q_global p1 p2 S) 168 22 [(0, .ref 0), (1, sv_I p1), (2, sv_I p2), (3, sv_I r6)] [] (sv_sts S [1076, 41, 42, 43, 44, 45, 46, 47, 1075, 1100029, 1092, 60, 58, 57, 63, 64, 1073, 1109, 1110] g99)
      have md103 : sv_mod [1076, 41, 42, 43, 44, 45, 46, 47, 1075, 1100029, 1092, 60, 58, 57, 63, 64, 1073, 1109, 1110, 58, 63, 64, 57, 1111, 1112] S (sv_sts S [1076, 41, 42, 43, 44, 45, 46, 47, 1075, 1100029, 1092, 60, 58, 57, 63, 64, 1073, 1109, 1110] g99) := sv_mod.sts sv_mod.rf (by decide)
      have h := h g99 hpo102
      exact sv_vret hM dX12_global_22 rfl ⟨rfl, ok100, md103, h⟩
