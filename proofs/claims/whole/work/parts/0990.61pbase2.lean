theorem dX12_node_0 : decode cX12_node 0 = .ok (.aload_n 0, 1) := by decide +kernel
theorem dX12_node_1 : decode cX12_node 1 = .ok (.getfield 421, 3) := by decide +kernel
theorem dX12_node_4 : decode cX12_node 4 = .ok (.istore 5, 2) := by decide +kernel
theorem dX12_node_6 : decode cX12_node 6 = .ok (.aload_n 0, 1) := by decide +kernel
theorem dX12_node_7 : decode cX12_node 7 = .ok (.dup, 1) := by decide +kernel
theorem dX12_node_8 : decode cX12_node 8 = .ok (.getfield 421, 3) := by decide +kernel
theorem dX12_node_11 : decode cX12_node 11 = .ok (.iconst 1, 1) := by decide +kernel
theorem dX12_node_12 : decode cX12_node 12 = .ok (.iadd, 1) := by decide +kernel
theorem dX12_node_13 : decode cX12_node 13 = .ok (.putfield 421, 3) := by decide +kernel
theorem dX12_node_16 : decode cX12_node 16 = .ok (.aload_n 0, 1) := by decide +kernel
theorem dX12_node_17 : decode cX12_node 17 = .ok (.getfield 42, 3) := by decide +kernel
theorem dX12_node_20 : decode cX12_node 20 = .ok (.iload 5, 2) := by decide +kernel
theorem dX12_node_22 : decode cX12_node 22 = .ok (.iload_n 1, 1) := by decide +kernel
theorem dX12_node_23 : decode cX12_node 23 = .ok (.iastore, 1) := by decide +kernel
theorem dX12_node_24 : decode cX12_node 24 = .ok (.aload_n 0, 1) := by decide +kernel
theorem dX12_node_25 : decode cX12_node 25 = .ok (.getfield 46, 3) := by decide +kernel
theorem dX12_node_28 : decode cX12_node 28 = .ok (.iconst 5, 1) := by decide +kernel
theorem dX12_node_29 : decode cX12_node 29 = .ok (.iload 5, 2) := by decide +kernel
theorem dX12_node_31 : decode cX12_node 31 = .ok (.imul, 1) := by decide +kernel
theorem dX12_node_32 : decode cX12_node 32 = .ok (.iload_n 2, 1) := by decide +kernel
theorem dX12_node_33 : decode cX12_node 33 = .ok (.iastore, 1) := by decide +kernel
theorem dX12_node_34 : decode cX12_node 34 = .ok (.aload_n 0, 1) := by decide +kernel
theorem dX12_node_35 : decode cX12_node 35 = .ok (.getfield 46, 3) := by decide +kernel
theorem dX12_node_38 : decode cX12_node 38 = .ok (.iconst 5, 1) := by decide +kernel
theorem dX12_node_39 : decode cX12_node 39 = .ok (.iload 5, 2) := by decide +kernel
theorem dX12_node_41 : decode cX12_node 41 = .ok (.imul, 1) := by decide +kernel
theorem dX12_node_42 : decode cX12_node 42 = .ok (.iconst 1, 1) := by decide +kernel
theorem dX12_node_43 : decode cX12_node 43 = .ok (.iadd, 1) := by decide +kernel
theorem dX12_node_44 : decode cX12_node 44 = .ok (.iload_n 3, 1) := by decide +kernel
theorem dX12_node_45 : decode cX12_node 45 = .ok (.iastore, 1) := by decide +kernel
theorem dX12_node_46 : decode cX12_node 46 = .ok (.aload_n 0, 1) := by decide +kernel
theorem dX12_node_47 : decode cX12_node 47 = .ok (.getfield 46, 3) := by decide +kernel
theorem dX12_node_50 : decode cX12_node 50 = .ok (.iconst 5, 1) := by decide +kernel
theorem dX12_node_51 : decode cX12_node 51 = .ok (.iload 5, 2) := by decide +kernel
theorem dX12_node_53 : decode cX12_node 53 = .ok (.imul, 1) := by decide +kernel
theorem dX12_node_54 : decode cX12_node 54 = .ok (.iconst 2, 1) := by decide +kernel
theorem dX12_node_55 : decode cX12_node 55 = .ok (.iadd, 1) := by decide +kernel
theorem dX12_node_56 : decode cX12_node 56 = .ok (.iload 4, 2) := by decide +kernel
theorem dX12_node_58 : decode cX12_node 58 = .ok (.iastore, 1) := by decide +kernel
theorem dX12_node_59 : decode cX12_node 59 = .ok (.aload_n 0, 1) := by decide +kernel
theorem dX12_node_60 : decode cX12_node 60 = .ok (.getfield 46, 3) := by decide +kernel
theorem dX12_node_63 : decode cX12_node 63 = .ok (.iconst 5, 1) := by decide +kernel
theorem dX12_node_64 : decode cX12_node 64 = .ok (.iload 5, 2) := by decide +kernel
theorem dX12_node_66 : decode cX12_node 66 = .ok (.imul, 1) := by decide +kernel
theorem dX12_node_67 : decode cX12_node 67 = .ok (.iconst 3, 1) := by decide +kernel
theorem dX12_node_68 : decode cX12_node 68 = .ok (.iadd, 1) := by decide +kernel
theorem dX12_node_69 : decode cX12_node 69 = .ok (.iconst (-1), 1) := by decide +kernel
theorem dX12_node_70 : decode cX12_node 70 = .ok (.iastore, 1) := by decide +kernel
theorem dX12_node_71 : decode cX12_node 71 = .ok (.aload_n 0, 1) := by decide +kernel
theorem dX12_node_72 : decode cX12_node 72 = .ok (.getfield 46, 3) := by decide +kernel
theorem dX12_node_75 : decode cX12_node 75 = .ok (.iconst 5, 1) := by decide +kernel
theorem dX12_node_76 : decode cX12_node 76 = .ok (.iload 5, 2) := by decide +kernel
theorem dX12_node_78 : decode cX12_node 78 = .ok (.imul, 1) := by decide +kernel
theorem dX12_node_79 : decode cX12_node 79 = .ok (.iconst 4, 1) := by decide +kernel
theorem dX12_node_80 : decode cX12_node 80 = .ok (.iadd, 1) := by decide +kernel
theorem dX12_node_81 : decode cX12_node 81 = .ok (.iconst (-1), 1) := by decide +kernel
theorem dX12_node_82 : decode cX12_node 82 = .ok (.iastore, 1) := by decide +kernel
theorem dX12_node_83 : decode cX12_node 83 = .ok (.aload_n 0, 1) := by decide +kernel
theorem dX12_node_84 : decode cX12_node 84 = .ok (.getfield 49, 3) := by decide +kernel
theorem dX12_node_87 : decode cX12_node 87 = .ok (.iload 5, 2) := by decide +kernel
theorem dX12_node_89 : decode cX12_node 89 = .ok (.iconst (-1), 1) := by decide +kernel
theorem dX12_node_90 : decode cX12_node 90 = .ok (.iastore, 1) := by decide +kernel
theorem dX12_node_91 : decode cX12_node 91 = .ok (.aload_n 0, 1) := by decide +kernel
theorem dX12_node_92 : decode cX12_node 92 = .ok (.getfield 52, 3) := by decide +kernel
theorem dX12_node_95 : decode cX12_node 95 = .ok (.iload 5, 2) := by decide +kernel
theorem dX12_node_97 : decode cX12_node 97 = .ok (.iconst 0, 1) := by decide +kernel
theorem dX12_node_98 : decode cX12_node 98 = .ok (.bastore, 1) := by decide +kernel
theorem dX12_node_99 : decode cX12_node 99 = .ok (.iload 5, 2) := by decide +kernel
theorem dX12_node_101 : decode cX12_node 101 = .ok (.ireturn, 1) := by decide +kernel
theorem dX12_part_0 : decode cX12_part 0 = .ok (.aload_n 0, 1) := by decide +kernel
theorem dX12_part_1 : decode cX12_part 1 = .ok (.getfield 46, 3) := by decide +kernel
theorem dX12_part_4 : decode cX12_part 4 = .ok (.iconst 5, 1) := by decide +kernel
theorem dX12_part_5 : decode cX12_part 5 = .ok (.iload_n 1, 1) := by decide +kernel
theorem dX12_part_6 : decode cX12_part 6 = .ok (.imul, 1) := by decide +kernel
theorem dX12_part_7 : decode cX12_part 7 = .ok (.iload_n 2, 1) := by decide +kernel
theorem dX12_part_8 : decode cX12_part 8 = .ok (.iadd, 1) := by decide +kernel
theorem dX12_part_9 : decode cX12_part 9 = .ok (.iaload, 1) := by decide +kernel
theorem dX12_part_10 : decode cX12_part 10 = .ok (.ireturn, 1) := by decide +kernel
theorem dX12_takeName_0 : decode cX12_takeName 0 = .ok (.aload_n 0, 1) := by decide +kernel
theorem dX12_takeName_1 : decode cX12_takeName 1 = .ok (.getfield 389, 3) := by decide +kernel
theorem dX12_takeName_4 : decode cX12_takeName 4 = .ok (.ifCond .gt 16, 3) := by decide +kernel
theorem dX12_takeName_7 : decode cX12_takeName 7 = .ok (.aload_n 0, 1) := by decide +kernel
theorem dX12_takeName_8 : decode cX12_takeName 8 = .ok (.getfield 27, 3) := by decide +kernel
theorem dX12_takeName_11 : decode cX12_takeName 11 = .ok (.aload_n 0, 1) := by decide +kernel
theorem dX12_takeName_12 : decode cX12_takeName 12 = .ok (.getfield 392, 3) := by decide +kernel
theorem dX12_takeName_15 : decode cX12_takeName 15 = .ok (.iaload, 1) := by decide +kernel
theorem dX12_takeName_16 : decode cX12_takeName 16 = .ok (.iconst 1, 1) := by decide +kernel
theorem dX12_takeName_17 : decode cX12_takeName 17 = .ok (.if_icmp .eq 11, 3) := by decide +kernel
theorem dX12_takeName_20 : decode cX12_takeName 20 = .ok (.aload_n 0, 1) := by decide +kernel
theorem dX12_takeName_21 : decode cX12_takeName 21 = .ok (.iconst 2, 1) := by decide +kernel
theorem dX12_takeName_22 : decode cX12_takeName 22 = .ok (.invokevirtual 401, 3) := by decide +kernel
theorem dX12_takeName_25 : decode cX12_takeName 25 = .ok (.pop, 1) := by decide +kernel
theorem dX12_takeName_26 : decode cX12_takeName 26 = .ok (.iconst (-1), 1) := by decide +kernel
theorem dX12_takeName_27 : decode cX12_takeName 27 = .ok (.ireturn, 1) := by decide +kernel
theorem dX12_takeName_28 : decode cX12_takeName 28 = .ok (.aload_n 0, 1) := by decide +kernel
theorem dX12_takeName_29 : decode cX12_takeName 29 = .ok (.dup, 1) := by decide +kernel
theorem dX12_takeName_30 : decode cX12_takeName 30 = .ok (.getfield 392, 3) := by decide +kernel
theorem dX12_takeName_33 : decode cX12_takeName 33 = .ok (.iconst 1, 1) := by decide +kernel
theorem dX12_takeName_34 : decode cX12_takeName 34 = .ok (.iadd, 1) := by decide +kernel
theorem dX12_takeName_35 : decode cX12_takeName 35 = .ok (.putfield 392, 3) := by decide +kernel
theorem dX12_takeName_38 : decode cX12_takeName 38 = .ok (.aload_n 0, 1) := by decide +kernel
theorem dX12_takeName_39 : decode cX12_takeName 39 = .ok (.aload_n 0, 1) := by decide +kernel
theorem dX12_takeName_40 : decode cX12_takeName 40 = .ok (.getfield 392, 3) := by decide +kernel
theorem dX12_takeName_43 : decode cX12_takeName 43 = .ok (.iconst 1, 1) := by decide +kernel
theorem dX12_takeName_44 : decode cX12_takeName 44 = .ok (.isub, 1) := by decide +kernel
theorem dX12_takeName_45 : decode cX12_takeName 45 = .ok (.invokevirtual 418, 3) := by decide +kernel
theorem dX12_takeName_48 : decode cX12_takeName 48 = .ok (.ireturn, 1) := by decide +kernel
theorem dX12_beginList_0 : decode cX12_beginList 0 = .ok (.aload_n 0, 1) := by decide +kernel
theorem dX12_beginList_1 : decode cX12_beginList 1 = .ok (.getfield 56, 3) := by decide +kernel
theorem dX12_beginList_4 : decode cX12_beginList 4 = .ok (.aload_n 0, 1) := by decide +kernel
theorem dX12_beginList_5 : decode cX12_beginList 5 = .ok (.getfield 424, 3) := by decide +kernel
theorem dX12_beginList_8 : decode cX12_beginList 8 = .ok (.iconst (-1), 1) := by decide +kernel
theorem dX12_beginList_9 : decode cX12_beginList 9 = .ok (.iastore, 1) := by decide +kernel
theorem dX12_beginList_10 : decode cX12_beginList 10 = .ok (.aload_n 0, 1) := by decide +kernel
theorem dX12_beginList_11 : decode cX12_beginList 11 = .ok (.dup, 1) := by decide +kernel
theorem dX12_beginList_12 : decode cX12_beginList 12 = .ok (.getfield 424, 3) := by decide +kernel
theorem dX12_beginList_15 : decode cX12_beginList 15 = .ok (.iconst 1, 1) := by decide +kernel
theorem dX12_beginList_16 : decode cX12_beginList 16 = .ok (.iadd, 1) := by decide +kernel
theorem dX12_beginList_17 : decode cX12_beginList 17 = .ok (.putfield 424, 3) := by decide +kernel
theorem dX12_beginList_20 : decode cX12_beginList 20 = .ok (.return_, 1) := by decide +kernel
theorem dX12_add_0 : decode cX12_add 0 = .ok (.aload_n 0, 1) := by decide +kernel
theorem dX12_add_1 : decode cX12_add 1 = .ok (.getfield 424, 3) := by decide +kernel
theorem dX12_add_4 : decode cX12_add 4 = .ok (.iconst 1, 1) := by decide +kernel
theorem dX12_add_5 : decode cX12_add 5 = .ok (.isub, 1) := by decide +kernel
theorem dX12_add_6 : decode cX12_add 6 = .ok (.istore_n 2, 1) := by decide +kernel
theorem dX12_add_7 : decode cX12_add 7 = .ok (.aload_n 0, 1) := by decide +kernel
theorem dX12_add_8 : decode cX12_add 8 = .ok (.getfield 56, 3) := by decide +kernel
theorem dX12_add_11 : decode cX12_add 11 = .ok (.iload_n 2, 1) := by decide +kernel
theorem dX12_add_12 : decode cX12_add 12 = .ok (.iaload, 1) := by decide +kernel
theorem dX12_add_13 : decode cX12_add 13 = .ok (.iconst (-1), 1) := by decide +kernel
theorem dX12_add_14 : decode cX12_add 14 = .ok (.if_icmp .ne 13, 3) := by decide +kernel
theorem dX12_add_17 : decode cX12_add 17 = .ok (.aload_n 0, 1) := by decide +kernel
theorem dX12_add_18 : decode cX12_add 18 = .ok (.getfield 56, 3) := by decide +kernel
theorem dX12_add_21 : decode cX12_add 21 = .ok (.iload_n 2, 1) := by decide +kernel
theorem dX12_add_22 : decode cX12_add 22 = .ok (.iload_n 1, 1) := by decide +kernel
theorem dX12_add_23 : decode cX12_add 23 = .ok (.iastore, 1) := by decide +kernel
theorem dX12_add_24 : decode cX12_add 24 = .ok (.goto 15, 3) := by decide +kernel
theorem dX12_add_27 : decode cX12_add 27 = .ok (.aload_n 0, 1) := by decide +kernel
theorem dX12_add_28 : decode cX12_add 28 = .ok (.getfield 49, 3) := by decide +kernel
theorem dX12_add_31 : decode cX12_add 31 = .ok (.aload_n 0, 1) := by decide +kernel
theorem dX12_add_32 : decode cX12_add 32 = .ok (.getfield 59, 3) := by decide +kernel
theorem dX12_add_35 : decode cX12_add 35 = .ok (.iload_n 2, 1) := by decide +kernel
theorem dX12_add_36 : decode cX12_add 36 = .ok (.iaload, 1) := by decide +kernel
theorem dX12_add_37 : decode cX12_add 37 = .ok (.iload_n 1, 1) := by decide +kernel
theorem dX12_add_38 : decode cX12_add 38 = .ok (.iastore, 1) := by decide +kernel
theorem dX12_add_39 : decode cX12_add 39 = .ok (.aload_n 0, 1) := by decide +kernel
theorem dX12_add_40 : decode cX12_add 40 = .ok (.getfield 59, 3) := by decide +kernel
theorem dX12_add_43 : decode cX12_add 43 = .ok (.iload_n 2, 1) := by decide +kernel
theorem dX12_add_44 : decode cX12_add 44 = .ok (.iload_n 1, 1) := by decide +kernel
theorem dX12_add_45 : decode cX12_add 45 = .ok (.iastore, 1) := by decide +kernel
theorem dX12_add_46 : decode cX12_add 46 = .ok (.return_, 1) := by decide +kernel
theorem dX12_ended_0 : decode cX12_ended 0 = .ok (.aload_n 0, 1) := by decide +kernel
theorem dX12_ended_1 : decode cX12_ended 1 = .ok (.dup, 1) := by decide +kernel
theorem dX12_ended_2 : decode cX12_ended 2 = .ok (.getfield 424, 3) := by decide +kernel
theorem dX12_ended_5 : decode cX12_ended 5 = .ok (.iconst 1, 1) := by decide +kernel
theorem dX12_ended_6 : decode cX12_ended 6 = .ok (.isub, 1) := by decide +kernel
theorem dX12_ended_7 : decode cX12_ended 7 = .ok (.putfield 424, 3) := by decide +kernel
theorem dX12_ended_10 : decode cX12_ended 10 = .ok (.aload_n 0, 1) := by decide +kernel
theorem dX12_ended_11 : decode cX12_ended 11 = .ok (.getfield 56, 3) := by decide +kernel
theorem dX12_ended_14 : decode cX12_ended 14 = .ok (.aload_n 0, 1) := by decide +kernel
theorem dX12_ended_15 : decode cX12_ended 15 = .ok (.getfield 424, 3) := by decide +kernel
theorem dX12_ended_18 : decode cX12_ended 18 = .ok (.iaload, 1) := by decide +kernel
theorem dX12_ended_19 : decode cX12_ended 19 = .ok (.ireturn, 1) := by decide +kernel
theorem dX12_isTarget_0 : decode cX12_isTarget 0 = .ok (.iload_n 1, 1) := by decide +kernel
theorem dX12_isTarget_1 : decode cX12_isTarget 1 = .ok (.iconst (-1), 1) := by decide +kernel
theorem dX12_isTarget_2 : decode cX12_isTarget 2 = .ok (.if_icmp .eq 37, 3) := by decide +kernel
theorem dX12_isTarget_5 : decode cX12_isTarget 5 = .ok (.aload_n 0, 1) := by decide +kernel
theorem dX12_isTarget_6 : decode cX12_isTarget 6 = .ok (.getfield 52, 3) := by decide +kernel
theorem dX12_isTarget_9 : decode cX12_isTarget 9 = .ok (.iload_n 1, 1) := by decide +kernel
theorem dX12_isTarget_10 : decode cX12_isTarget 10 = .ok (.baload, 1) := by decide +kernel
theorem dX12_isTarget_11 : decode cX12_isTarget 11 = .ok (.ifCond .ne 28, 3) := by decide +kernel
theorem dX12_isTarget_14 : decode cX12_isTarget 14 = .ok (.aload_n 0, 1) := by decide +kernel
theorem dX12_isTarget_15 : decode cX12_isTarget 15 = .ok (.getfield 42, 3) := by decide +kernel
theorem dX12_isTarget_18 : decode cX12_isTarget 18 = .ok (.iload_n 1, 1) := by decide +kernel
theorem dX12_isTarget_19 : decode cX12_isTarget 19 = .ok (.iaload, 1) := by decide +kernel
theorem dX12_isTarget_20 : decode cX12_isTarget 20 = .ok (.iconst 2, 1) := by decide +kernel
theorem dX12_isTarget_21 : decode cX12_isTarget 21 = .ok (.if_icmp .eq 14, 3) := by decide +kernel
theorem dX12_isTarget_24 : decode cX12_isTarget 24 = .ok (.aload_n 0, 1) := by decide +kernel
theorem dX12_isTarget_25 : decode cX12_isTarget 25 = .ok (.getfield 42, 3) := by decide +kernel
theorem dX12_isTarget_28 : decode cX12_isTarget 28 = .ok (.iload_n 1, 1) := by decide +kernel
theorem dX12_isTarget_29 : decode cX12_isTarget 29 = .ok (.iaload, 1) := by decide +kernel
theorem dX12_isTarget_30 : decode cX12_isTarget 30 = .ok (.bipush 7, 2) := by decide +kernel
theorem dX12_isTarget_32 : decode cX12_isTarget 32 = .ok (.if_icmp .ne 7, 3) := by decide +kernel
theorem dX12_isTarget_35 : decode cX12_isTarget 35 = .ok (.iconst 1, 1) := by decide +kernel
theorem dX12_isTarget_36 : decode cX12_isTarget 36 = .ok (.goto 4, 3) := by decide +kernel
theorem dX12_isTarget_39 : decode cX12_isTarget 39 = .ok (.iconst 0, 1) := by decide +kernel
theorem dX12_isTarget_40 : decode cX12_isTarget 40 = .ok (.ireturn, 1) := by decide +kernel
theorem dX12_settingOf_0 : decode cX12_settingOf 0 = .ok (.aload_n 0, 1) := by decide +kernel
theorem dX12_settingOf_1 : decode cX12_settingOf 1 = .ok (.getfield 27, 3) := by decide +kernel
theorem dX12_settingOf_4 : decode cX12_settingOf 4 = .ok (.aload_n 0, 1) := by decide +kernel
theorem dX12_settingOf_5 : decode cX12_settingOf 5 = .ok (.getfield 392, 3) := by decide +kernel
theorem dX12_settingOf_8 : decode cX12_settingOf 8 = .ok (.iaload, 1) := by decide +kernel
theorem dX12_settingOf_9 : decode cX12_settingOf 9 = .ok (.iconst 5, 1) := by decide +kernel
theorem dX12_settingOf_10 : decode cX12_settingOf 10 = .ok (.if_icmp .eq 5, 3) := by decide +kernel
theorem dX12_settingOf_13 : decode cX12_settingOf 13 = .ok (.iconst (-1), 1) := by decide +kernel
theorem dX12_settingOf_14 : decode cX12_settingOf 14 = .ok (.ireturn, 1) := by decide +kernel
theorem dX12_settingOf_15 : decode cX12_settingOf 15 = .ok (.aload_n 0, 1) := by decide +kernel
theorem dX12_settingOf_16 : decode cX12_settingOf 16 = .ok (.getfield 30, 3) := by decide +kernel
theorem dX12_settingOf_19 : decode cX12_settingOf 19 = .ok (.aload_n 0, 1) := by decide +kernel
theorem dX12_settingOf_20 : decode cX12_settingOf 20 = .ok (.getfield 392, 3) := by decide +kernel
theorem dX12_settingOf_23 : decode cX12_settingOf 23 = .ok (.iaload, 1) := by decide +kernel
theorem dX12_settingOf_24 : decode cX12_settingOf 24 = .ok (.tableswitch 238 0 47 #[226, 221, 223, 238, 238, 238, 238, 238, 238, 238, 238, 238, 238, 238, 238, 238, 211, 213, 215, 217, 219, 229, 232, 235, 238, 238, 238, 238, 238, 238, 238, 238, 238, 238, 238, 238, 238, 238, 238, 238, 238, 238, 238, 238, 238, 238, 238, 208], 208) := by decide +kernel
theorem dX12_settingOf_232 : decode cX12_settingOf 232 = .ok (.bipush 99, 2) := by decide +kernel
theorem dX12_settingOf_234 : decode cX12_settingOf 234 = .ok (.ireturn, 1) := by decide +kernel
theorem dX12_settingOf_235 : decode cX12_settingOf 235 = .ok (.iconst 0, 1) := by decide +kernel
theorem dX12_settingOf_236 : decode cX12_settingOf 236 = .ok (.ireturn, 1) := by decide +kernel
theorem dX12_settingOf_237 : decode cX12_settingOf 237 = .ok (.iconst 1, 1) := by decide +kernel
theorem dX12_settingOf_238 : decode cX12_settingOf 238 = .ok (.ireturn, 1) := by decide +kernel
theorem dX12_settingOf_239 : decode cX12_settingOf 239 = .ok (.iconst 2, 1) := by decide +kernel
theorem dX12_settingOf_240 : decode cX12_settingOf 240 = .ok (.ireturn, 1) := by decide +kernel
theorem dX12_settingOf_241 : decode cX12_settingOf 241 = .ok (.iconst 3, 1) := by decide +kernel
theorem dX12_settingOf_242 : decode cX12_settingOf 242 = .ok (.ireturn, 1) := by decide +kernel
theorem dX12_settingOf_243 : decode cX12_settingOf 243 = .ok (.iconst 4, 1) := by decide +kernel
theorem dX12_settingOf_244 : decode cX12_settingOf 244 = .ok (.ireturn, 1) := by decide +kernel
theorem dX12_settingOf_245 : decode cX12_settingOf 245 = .ok (.iconst 5, 1) := by decide +kernel
theorem dX12_settingOf_246 : decode cX12_settingOf 246 = .ok (.ireturn, 1) := by decide +kernel
theorem dX12_settingOf_247 : decode cX12_settingOf 247 = .ok (.bipush 6, 2) := by decide +kernel
theorem dX12_settingOf_249 : decode cX12_settingOf 249 = .ok (.ireturn, 1) := by decide +kernel
theorem dX12_settingOf_250 : decode cX12_settingOf 250 = .ok (.bipush 7, 2) := by decide +kernel
theorem dX12_settingOf_252 : decode cX12_settingOf 252 = .ok (.ireturn, 1) := by decide +kernel
theorem dX12_settingOf_253 : decode cX12_settingOf 253 = .ok (.bipush 8, 2) := by decide +kernel
theorem dX12_settingOf_255 : decode cX12_settingOf 255 = .ok (.ireturn, 1) := by decide +kernel
theorem dX12_settingOf_256 : decode cX12_settingOf 256 = .ok (.bipush 9, 2) := by decide +kernel
theorem dX12_settingOf_258 : decode cX12_settingOf 258 = .ok (.ireturn, 1) := by decide +kernel
theorem dX12_settingOf_259 : decode cX12_settingOf 259 = .ok (.bipush 10, 2) := by decide +kernel
theorem dX12_settingOf_261 : decode cX12_settingOf 261 = .ok (.ireturn, 1) := by decide +kernel
theorem dX12_settingOf_262 : decode cX12_settingOf 262 = .ok (.iconst (-1), 1) := by decide +kernel
theorem dX12_settingOf_263 : decode cX12_settingOf 263 = .ok (.ireturn, 1) := by decide +kernel
theorem dX12_bindsOf_0 : decode cX12_bindsOf 0 = .ok (.aload_n 0, 1) := by decide +kernel
theorem dX12_bindsOf_1 : decode cX12_bindsOf 1 = .ok (.getfield 27, 3) := by decide +kernel
theorem dX12_bindsOf_4 : decode cX12_bindsOf 4 = .ok (.aload_n 0, 1) := by decide +kernel
theorem dX12_bindsOf_5 : decode cX12_bindsOf 5 = .ok (.getfield 392, 3) := by decide +kernel
theorem dX12_bindsOf_8 : decode cX12_bindsOf 8 = .ok (.iaload, 1) := by decide +kernel
theorem dX12_bindsOf_9 : decode cX12_bindsOf 9 = .ok (.iconst 2, 1) := by decide +kernel
theorem dX12_bindsOf_10 : decode cX12_bindsOf 10 = .ok (.if_icmp .ne 42, 3) := by decide +kernel
theorem dX12_bindsOf_13 : decode cX12_bindsOf 13 = .ok (.aload_n 0, 1) := by decide +kernel
theorem dX12_bindsOf_14 : decode cX12_bindsOf 14 = .ok (.getfield 30, 3) := by decide +kernel
theorem dX12_bindsOf_17 : decode cX12_bindsOf 17 = .ok (.aload_n 0, 1) := by decide +kernel
theorem dX12_bindsOf_18 : decode cX12_bindsOf 18 = .ok (.getfield 392, 3) := by decide +kernel
theorem dX12_bindsOf_21 : decode cX12_bindsOf 21 = .ok (.iaload, 1) := by decide +kernel
theorem dX12_bindsOf_22 : decode cX12_bindsOf 22 = .ok (.bipush 14, 2) := by decide +kernel
theorem dX12_bindsOf_24 : decode cX12_bindsOf 24 = .ok (.if_icmp .eq 21, 3) := by decide +kernel
theorem dX12_bindsOf_27 : decode cX12_bindsOf 27 = .ok (.aload_n 0, 1) := by decide +kernel
theorem dX12_bindsOf_28 : decode cX12_bindsOf 28 = .ok (.getfield 30, 3) := by decide +kernel
theorem dX12_bindsOf_31 : decode cX12_bindsOf 31 = .ok (.aload_n 0, 1) := by decide +kernel
theorem dX12_bindsOf_32 : decode cX12_bindsOf 32 = .ok (.getfield 392, 3) := by decide +kernel
theorem dX12_bindsOf_35 : decode cX12_bindsOf 35 = .ok (.iaload, 1) := by decide +kernel
theorem dX12_bindsOf_36 : decode cX12_bindsOf 36 = .ok (.bipush 13, 2) := by decide +kernel
theorem dX12_bindsOf_38 : decode cX12_bindsOf 38 = .ok (.if_icmp .ne 12, 3) := by decide +kernel
theorem dX12_bindsOf_41 : decode cX12_bindsOf 41 = .ok (.iload_n 1, 1) := by decide +kernel
theorem dX12_bindsOf_42 : decode cX12_bindsOf 42 = .ok (.ifCond .eq 8, 3) := by decide +kernel
theorem dX12_bindsOf_45 : decode cX12_bindsOf 45 = .ok (.bipush 6, 2) := by decide +kernel
theorem dX12_bindsOf_47 : decode cX12_bindsOf 47 = .ok (.goto 4, 3) := by decide +kernel
theorem dX12_bindsOf_50 : decode cX12_bindsOf 50 = .ok (.iconst (-1), 1) := by decide +kernel
theorem dX12_bindsOf_51 : decode cX12_bindsOf 51 = .ok (.ireturn, 1) := by decide +kernel
theorem dX12_bindsOf_52 : decode cX12_bindsOf 52 = .ok (.aload_n 0, 1) := by decide +kernel
theorem dX12_bindsOf_53 : decode cX12_bindsOf 53 = .ok (.getfield 27, 3) := by decide +kernel
theorem dX12_bindsOf_56 : decode cX12_bindsOf 56 = .ok (.aload_n 0, 1) := by decide +kernel
theorem dX12_bindsOf_57 : decode cX12_bindsOf 57 = .ok (.getfield 392, 3) := by decide +kernel
theorem dX12_bindsOf_60 : decode cX12_bindsOf 60 = .ok (.iaload, 1) := by decide +kernel
theorem dX12_bindsOf_61 : decode cX12_bindsOf 61 = .ok (.iconst 5, 1) := by decide +kernel
theorem dX12_bindsOf_62 : decode cX12_bindsOf 62 = .ok (.if_icmp .eq 5, 3) := by decide +kernel
theorem dX12_bindsOf_65 : decode cX12_bindsOf 65 = .ok (.iconst (-1), 1) := by decide +kernel
theorem dX12_bindsOf_66 : decode cX12_bindsOf 66 = .ok (.ireturn, 1) := by decide +kernel
theorem dX12_bindsOf_67 : decode cX12_bindsOf 67 = .ok (.aload_n 0, 1) := by decide +kernel
theorem dX12_bindsOf_68 : decode cX12_bindsOf 68 = .ok (.getfield 30, 3) := by decide +kernel
theorem dX12_bindsOf_71 : decode cX12_bindsOf 71 = .ok (.aload_n 0, 1) := by decide +kernel
theorem dX12_bindsOf_72 : decode cX12_bindsOf 72 = .ok (.getfield 392, 3) := by decide +kernel
theorem dX12_bindsOf_75 : decode cX12_bindsOf 75 = .ok (.iaload, 1) := by decide +kernel
theorem dX12_bindsOf_76 : decode cX12_bindsOf 76 = .ok (.tableswitch 200 3 42 #[191, 186, 186, 188, 188, 186, 186, 200, 200, 191, 191, 178, 176, 200, 200, 200, 200, 200, 200, 200, 200, 200, 200, 200, 200, 200, 200, 200, 200, 200, 188, 188, 194, 194, 197, 197, 197, 184, 180, 182], 176) := by decide +kernel
theorem dX12_bindsOf_252 : decode cX12_bindsOf 252 = .ok (.iconst 0, 1) := by decide +kernel
theorem dX12_bindsOf_253 : decode cX12_bindsOf 253 = .ok (.ireturn, 1) := by decide +kernel
theorem dX12_bindsOf_254 : decode cX12_bindsOf 254 = .ok (.iconst 1, 1) := by decide +kernel
theorem dX12_bindsOf_255 : decode cX12_bindsOf 255 = .ok (.ireturn, 1) := by decide +kernel
theorem dX12_bindsOf_256 : decode cX12_bindsOf 256 = .ok (.iconst 2, 1) := by decide +kernel
theorem dX12_bindsOf_257 : decode cX12_bindsOf 257 = .ok (.ireturn, 1) := by decide +kernel
theorem dX12_bindsOf_258 : decode cX12_bindsOf 258 = .ok (.iconst 3, 1) := by decide +kernel
theorem dX12_bindsOf_259 : decode cX12_bindsOf 259 = .ok (.ireturn, 1) := by decide +kernel
theorem dX12_bindsOf_260 : decode cX12_bindsOf 260 = .ok (.iconst 4, 1) := by decide +kernel
theorem dX12_bindsOf_261 : decode cX12_bindsOf 261 = .ok (.ireturn, 1) := by decide +kernel
theorem dX12_bindsOf_262 : decode cX12_bindsOf 262 = .ok (.iconst 5, 1) := by decide +kernel
theorem dX12_bindsOf_263 : decode cX12_bindsOf 263 = .ok (.ireturn, 1) := by decide +kernel
theorem dX12_bindsOf_264 : decode cX12_bindsOf 264 = .ok (.bipush 6, 2) := by decide +kernel
theorem dX12_bindsOf_266 : decode cX12_bindsOf 266 = .ok (.ireturn, 1) := by decide +kernel
theorem dX12_bindsOf_267 : decode cX12_bindsOf 267 = .ok (.bipush 7, 2) := by decide +kernel
theorem dX12_bindsOf_269 : decode cX12_bindsOf 269 = .ok (.ireturn, 1) := by decide +kernel
theorem dX12_bindsOf_270 : decode cX12_bindsOf 270 = .ok (.bipush 8, 2) := by decide +kernel
theorem dX12_bindsOf_272 : decode cX12_bindsOf 272 = .ok (.ireturn, 1) := by decide +kernel
theorem dX12_bindsOf_273 : decode cX12_bindsOf 273 = .ok (.bipush 9, 2) := by decide +kernel
theorem dX12_bindsOf_275 : decode cX12_bindsOf 275 = .ok (.ireturn, 1) := by decide +kernel
theorem dX12_bindsOf_276 : decode cX12_bindsOf 276 = .ok (.iconst (-1), 1) := by decide +kernel
theorem dX12_bindsOf_277 : decode cX12_bindsOf 277 = .ok (.ireturn, 1) := by decide +kernel
theorem dX12_binaryOf_0 : decode cX12_binaryOf 0 = .ok (.aload_n 0, 1) := by decide +kernel
theorem dX12_binaryOf_1 : decode cX12_binaryOf 1 = .ok (.getfield 27, 3) := by decide +kernel
theorem dX12_binaryOf_4 : decode cX12_binaryOf 4 = .ok (.aload_n 0, 1) := by decide +kernel
theorem dX12_binaryOf_5 : decode cX12_binaryOf 5 = .ok (.getfield 392, 3) := by decide +kernel
theorem dX12_binaryOf_8 : decode cX12_binaryOf 8 = .ok (.iaload, 1) := by decide +kernel
theorem dX12_binaryOf_9 : decode cX12_binaryOf 9 = .ok (.iconst 2, 1) := by decide +kernel
theorem dX12_binaryOf_10 : decode cX12_binaryOf 10 = .ok (.if_icmp .ne 25, 3) := by decide +kernel
theorem dX12_binaryOf_13 : decode cX12_binaryOf 13 = .ok (.aload_n 0, 1) := by decide +kernel
theorem dX12_binaryOf_14 : decode cX12_binaryOf 14 = .ok (.getfield 30, 3) := by decide +kernel
theorem dX12_binaryOf_17 : decode cX12_binaryOf 17 = .ok (.aload_n 0, 1) := by decide +kernel
theorem dX12_binaryOf_18 : decode cX12_binaryOf 18 = .ok (.getfield 392, 3) := by decide +kernel
theorem dX12_binaryOf_21 : decode cX12_binaryOf 21 = .ok (.iaload, 1) := by decide +kernel
theorem dX12_binaryOf_22 : decode cX12_binaryOf 22 = .ok (.bipush 13, 2) := by decide +kernel
theorem dX12_binaryOf_24 : decode cX12_binaryOf 24 = .ok (.if_icmp .ne 8, 3) := by decide +kernel
theorem dX12_binaryOf_27 : decode cX12_binaryOf 27 = .ok (.bipush 19, 2) := by decide +kernel
theorem dX12_binaryOf_29 : decode cX12_binaryOf 29 = .ok (.goto 5, 3) := by decide +kernel
theorem dX12_binaryOf_32 : decode cX12_binaryOf 32 = .ok (.bipush 20, 2) := by decide +kernel
theorem dX12_binaryOf_34 : decode cX12_binaryOf 34 = .ok (.ireturn, 1) := by decide +kernel
theorem dX12_binaryOf_35 : decode cX12_binaryOf 35 = .ok (.aload_n 0, 1) := by decide +kernel
theorem dX12_binaryOf_36 : decode cX12_binaryOf 36 = .ok (.getfield 30, 3) := by decide +kernel
theorem dX12_binaryOf_39 : decode cX12_binaryOf 39 = .ok (.aload_n 0, 1) := by decide +kernel
theorem dX12_binaryOf_40 : decode cX12_binaryOf 40 = .ok (.getfield 392, 3) := by decide +kernel
theorem dX12_binaryOf_43 : decode cX12_binaryOf 43 = .ok (.iaload, 1) := by decide +kernel
theorem dX12_binaryOf_44 : decode cX12_binaryOf 44 = .ok (.tableswitch 224 3 42 #[191, 209, 212, 221, 224, 203, 206, 224, 224, 186, 188, 224, 224, 224, 224, 224, 224, 224, 224, 224, 224, 224, 224, 224, 224, 224, 224, 224, 224, 224, 215, 218, 176, 178, 180, 182, 184, 194, 197, 200], 176) := by decide +kernel
theorem dX12_binaryOf_220 : decode cX12_binaryOf 220 = .ok (.iconst 0, 1) := by decide +kernel
theorem dX12_binaryOf_221 : decode cX12_binaryOf 221 = .ok (.ireturn, 1) := by decide +kernel
theorem dX12_binaryOf_222 : decode cX12_binaryOf 222 = .ok (.iconst 1, 1) := by decide +kernel
theorem dX12_binaryOf_223 : decode cX12_binaryOf 223 = .ok (.ireturn, 1) := by decide +kernel
theorem dX12_binaryOf_224 : decode cX12_binaryOf 224 = .ok (.iconst 2, 1) := by decide +kernel
theorem dX12_binaryOf_225 : decode cX12_binaryOf 225 = .ok (.ireturn, 1) := by decide +kernel
theorem dX12_binaryOf_226 : decode cX12_binaryOf 226 = .ok (.iconst 3, 1) := by decide +kernel
theorem dX12_binaryOf_227 : decode cX12_binaryOf 227 = .ok (.ireturn, 1) := by decide +kernel
theorem dX12_binaryOf_228 : decode cX12_binaryOf 228 = .ok (.iconst 4, 1) := by decide +kernel
theorem dX12_binaryOf_229 : decode cX12_binaryOf 229 = .ok (.ireturn, 1) := by decide +kernel
theorem dX12_binaryOf_230 : decode cX12_binaryOf 230 = .ok (.iconst 5, 1) := by decide +kernel
theorem dX12_binaryOf_231 : decode cX12_binaryOf 231 = .ok (.ireturn, 1) := by decide +kernel
theorem dX12_binaryOf_232 : decode cX12_binaryOf 232 = .ok (.bipush 6, 2) := by decide +kernel
theorem dX12_binaryOf_234 : decode cX12_binaryOf 234 = .ok (.ireturn, 1) := by decide +kernel
theorem dX12_binaryOf_235 : decode cX12_binaryOf 235 = .ok (.bipush 7, 2) := by decide +kernel
theorem dX12_binaryOf_237 : decode cX12_binaryOf 237 = .ok (.ireturn, 1) := by decide +kernel
theorem dX12_binaryOf_238 : decode cX12_binaryOf 238 = .ok (.bipush 8, 2) := by decide +kernel
theorem dX12_binaryOf_240 : decode cX12_binaryOf 240 = .ok (.ireturn, 1) := by decide +kernel
theorem dX12_binaryOf_241 : decode cX12_binaryOf 241 = .ok (.bipush 9, 2) := by decide +kernel
theorem dX12_binaryOf_243 : decode cX12_binaryOf 243 = .ok (.ireturn, 1) := by decide +kernel
theorem dX12_binaryOf_244 : decode cX12_binaryOf 244 = .ok (.bipush 10, 2) := by decide +kernel
theorem dX12_binaryOf_246 : decode cX12_binaryOf 246 = .ok (.ireturn, 1) := by decide +kernel
theorem dX12_binaryOf_247 : decode cX12_binaryOf 247 = .ok (.bipush 11, 2) := by decide +kernel
theorem dX12_binaryOf_249 : decode cX12_binaryOf 249 = .ok (.ireturn, 1) := by decide +kernel
theorem dX12_binaryOf_250 : decode cX12_binaryOf 250 = .ok (.bipush 12, 2) := by decide +kernel
theorem dX12_binaryOf_252 : decode cX12_binaryOf 252 = .ok (.ireturn, 1) := by decide +kernel
theorem dX12_binaryOf_253 : decode cX12_binaryOf 253 = .ok (.bipush 13, 2) := by decide +kernel
theorem dX12_binaryOf_255 : decode cX12_binaryOf 255 = .ok (.ireturn, 1) := by decide +kernel
theorem dX12_binaryOf_256 : decode cX12_binaryOf 256 = .ok (.bipush 14, 2) := by decide +kernel
theorem dX12_binaryOf_258 : decode cX12_binaryOf 258 = .ok (.ireturn, 1) := by decide +kernel
theorem dX12_binaryOf_259 : decode cX12_binaryOf 259 = .ok (.bipush 15, 2) := by decide +kernel
theorem dX12_binaryOf_261 : decode cX12_binaryOf 261 = .ok (.ireturn, 1) := by decide +kernel
theorem dX12_binaryOf_262 : decode cX12_binaryOf 262 = .ok (.bipush 16, 2) := by decide +kernel
theorem dX12_binaryOf_264 : decode cX12_binaryOf 264 = .ok (.ireturn, 1) := by decide +kernel
theorem dX12_binaryOf_265 : decode cX12_binaryOf 265 = .ok (.bipush 17, 2) := by decide +kernel
theorem dX12_binaryOf_267 : decode cX12_binaryOf 267 = .ok (.ireturn, 1) := by decide +kernel
theorem dX12_binaryOf_268 : decode cX12_binaryOf 268 = .ok (.bipush 18, 2) := by decide +kernel
theorem dX12_binaryOf_270 : decode cX12_binaryOf 270 = .ok (.ireturn, 1) := by decide +kernel
theorem dX12_endOfStatement_0 : decode cX12_endOfStatement 0 = .ok (.aload_n 0, 1) := by decide +kernel
theorem dX12_endOfStatement_1 : decode cX12_endOfStatement 1 = .ok (.getfield 389, 3) := by decide +kernel
theorem dX12_endOfStatement_4 : decode cX12_endOfStatement 4 = .ok (.ifCond .le 4, 3) := by decide +kernel
theorem dX12_endOfStatement_7 : decode cX12_endOfStatement 7 = .ok (.return_, 1) := by decide +kernel
theorem dX12_endOfStatement_8 : decode cX12_endOfStatement 8 = .ok (.aload_n 0, 1) := by decide +kernel
theorem dX12_endOfStatement_9 : decode cX12_endOfStatement 9 = .ok (.bipush 31, 2) := by decide +kernel
theorem dX12_endOfStatement_11 : decode cX12_endOfStatement 11 = .ok (.invokevirtual 398, 3) := by decide +kernel
theorem dX12_endOfStatement_14 : decode cX12_endOfStatement 14 = .ok (.ifCond .eq 16, 3) := by decide +kernel
theorem dX12_endOfStatement_17 : decode cX12_endOfStatement 17 = .ok (.aload_n 0, 1) := by decide +kernel
theorem dX12_endOfStatement_18 : decode cX12_endOfStatement 18 = .ok (.dup, 1) := by decide +kernel
theorem dX12_endOfStatement_19 : decode cX12_endOfStatement 19 = .ok (.getfield 392, 3) := by decide +kernel
theorem dX12_endOfStatement_22 : decode cX12_endOfStatement 22 = .ok (.iconst 1, 1) := by decide +kernel
theorem dX12_endOfStatement_23 : decode cX12_endOfStatement 23 = .ok (.iadd, 1) := by decide +kernel
theorem dX12_endOfStatement_24 : decode cX12_endOfStatement 24 = .ok (.putfield 392, 3) := by decide +kernel
theorem dX12_endOfStatement_27 : decode cX12_endOfStatement 27 = .ok (.goto 53, 3) := by decide +kernel
theorem dX12_endOfStatement_30 : decode cX12_endOfStatement 30 = .ok (.aload_n 0, 1) := by decide +kernel
theorem dX12_endOfStatement_31 : decode cX12_endOfStatement 31 = .ok (.bipush 25, 2) := by decide +kernel
theorem dX12_endOfStatement_33 : decode cX12_endOfStatement 33 = .ok (.invokevirtual 398, 3) := by decide +kernel
theorem dX12_endOfStatement_36 : decode cX12_endOfStatement 36 = .ok (.ifCond .ne 44, 3) := by decide +kernel
theorem dX12_endOfStatement_39 : decode cX12_endOfStatement 39 = .ok (.aload_n 0, 1) := by decide +kernel
theorem dX12_endOfStatement_40 : decode cX12_endOfStatement 40 = .ok (.getfield 27, 3) := by decide +kernel
theorem dX12_endOfStatement_43 : decode cX12_endOfStatement 43 = .ok (.aload_n 0, 1) := by decide +kernel
theorem dX12_endOfStatement_44 : decode cX12_endOfStatement 44 = .ok (.getfield 392, 3) := by decide +kernel
theorem dX12_endOfStatement_47 : decode cX12_endOfStatement 47 = .ok (.iaload, 1) := by decide +kernel
theorem dX12_endOfStatement_48 : decode cX12_endOfStatement 48 = .ok (.ifCond .eq 32, 3) := by decide +kernel
theorem dX12_endOfStatement_51 : decode cX12_endOfStatement 51 = .ok (.aload_n 0, 1) := by decide +kernel
theorem dX12_endOfStatement_52 : decode cX12_endOfStatement 52 = .ok (.getfield 39, 3) := by decide +kernel
theorem dX12_endOfStatement_55 : decode cX12_endOfStatement 55 = .ok (.aload_n 0, 1) := by decide +kernel
theorem dX12_endOfStatement_56 : decode cX12_endOfStatement 56 = .ok (.getfield 392, 3) := by decide +kernel
theorem dX12_endOfStatement_59 : decode cX12_endOfStatement 59 = .ok (.iaload, 1) := by decide +kernel
theorem dX12_endOfStatement_60 : decode cX12_endOfStatement 60 = .ok (.aload_n 0, 1) := by decide +kernel
theorem dX12_endOfStatement_61 : decode cX12_endOfStatement 61 = .ok (.getfield 39, 3) := by decide +kernel
theorem dX12_endOfStatement_64 : decode cX12_endOfStatement 64 = .ok (.aload_n 0, 1) := by decide +kernel
theorem dX12_endOfStatement_65 : decode cX12_endOfStatement 65 = .ok (.getfield 392, 3) := by decide +kernel
theorem dX12_endOfStatement_68 : decode cX12_endOfStatement 68 = .ok (.iconst 1, 1) := by decide +kernel
theorem dX12_endOfStatement_69 : decode cX12_endOfStatement 69 = .ok (.isub, 1) := by decide +kernel
theorem dX12_endOfStatement_70 : decode cX12_endOfStatement 70 = .ok (.iaload, 1) := by decide +kernel
theorem dX12_endOfStatement_71 : decode cX12_endOfStatement 71 = .ok (.if_icmp .ne 9, 3) := by decide +kernel
theorem dX12_endOfStatement_74 : decode cX12_endOfStatement 74 = .ok (.aload_n 0, 1) := by decide +kernel
theorem dX12_endOfStatement_75 : decode cX12_endOfStatement 75 = .ok (.iconst 2, 1) := by decide +kernel
theorem dX12_endOfStatement_76 : decode cX12_endOfStatement 76 = .ok (.invokevirtual 401, 3) := by decide +kernel
theorem dX12_endOfStatement_79 : decode cX12_endOfStatement 79 = .ok (.pop, 1) := by decide +kernel
theorem dX12_endOfStatement_80 : decode cX12_endOfStatement 80 = .ok (.return_, 1) := by decide +kernel
theorem dX12_sameTokens_0 : decode cX12_sameTokens 0 = .ok (.aload_n 0, 1) := by decide +kernel
theorem dX12_sameTokens_1 : decode cX12_sameTokens 1 = .ok (.getfield 36, 3) := by decide +kernel
theorem dX12_sameTokens_4 : decode cX12_sameTokens 4 = .ok (.iload_n 1, 1) := by decide +kernel
theorem dX12_sameTokens_5 : decode cX12_sameTokens 5 = .ok (.iaload, 1) := by decide +kernel
theorem dX12_sameTokens_6 : decode cX12_sameTokens 6 = .ok (.aload_n 0, 1) := by decide +kernel
theorem dX12_sameTokens_7 : decode cX12_sameTokens 7 = .ok (.getfield 33, 3) := by decide +kernel
theorem dX12_sameTokens_10 : decode cX12_sameTokens 10 = .ok (.iload_n 1, 1) := by decide +kernel
theorem dX12_sameTokens_11 : decode cX12_sameTokens 11 = .ok (.iaload, 1) := by decide +kernel
theorem dX12_sameTokens_12 : decode cX12_sameTokens 12 = .ok (.isub, 1) := by decide +kernel
theorem dX12_sameTokens_13 : decode cX12_sameTokens 13 = .ok (.aload_n 0, 1) := by decide +kernel
theorem dX12_sameTokens_14 : decode cX12_sameTokens 14 = .ok (.getfield 36, 3) := by decide +kernel
theorem dX12_sameTokens_17 : decode cX12_sameTokens 17 = .ok (.iload_n 2, 1) := by decide +kernel
theorem dX12_sameTokens_18 : decode cX12_sameTokens 18 = .ok (.iaload, 1) := by decide +kernel
theorem dX12_sameTokens_19 : decode cX12_sameTokens 19 = .ok (.aload_n 0, 1) := by decide +kernel
theorem dX12_sameTokens_20 : decode cX12_sameTokens 20 = .ok (.getfield 33, 3) := by decide +kernel
theorem dX12_sameTokens_23 : decode cX12_sameTokens 23 = .ok (.iload_n 2, 1) := by decide +kernel
theorem dX12_sameTokens_24 : decode cX12_sameTokens 24 = .ok (.iaload, 1) := by decide +kernel
theorem dX12_sameTokens_25 : decode cX12_sameTokens 25 = .ok (.isub, 1) := by decide +kernel
theorem dX12_sameTokens_26 : decode cX12_sameTokens 26 = .ok (.if_icmp .ne 7, 3) := by decide +kernel
theorem dX12_sameTokens_29 : decode cX12_sameTokens 29 = .ok (.iconst 1, 1) := by decide +kernel
theorem dX12_sameTokens_30 : decode cX12_sameTokens 30 = .ok (.goto 4, 3) := by decide +kernel
theorem dX12_sameTokens_33 : decode cX12_sameTokens 33 = .ok (.iconst 0, 1) := by decide +kernel
theorem dX12_sameTokens_34 : decode cX12_sameTokens 34 = .ok (.istore_n 3, 1) := by decide +kernel
theorem dX12_sameTokens_35 : decode cX12_sameTokens 35 = .ok (.iconst 0, 1) := by decide +kernel
theorem dX12_sameTokens_36 : decode cX12_sameTokens 36 = .ok (.istore 4, 2) := by decide +kernel
theorem dX12_sameTokens_38 : decode cX12_sameTokens 38 = .ok (.iload 4, 2) := by decide +kernel
theorem dX12_sameTokens_40 : decode cX12_sameTokens 40 = .ok (.aload_n 0, 1) := by decide +kernel
theorem dX12_sameTokens_41 : decode cX12_sameTokens 41 = .ok (.getfield 36, 3) := by decide +kernel
theorem dX12_sameTokens_44 : decode cX12_sameTokens 44 = .ok (.iload_n 1, 1) := by decide +kernel
theorem dX12_sameTokens_45 : decode cX12_sameTokens 45 = .ok (.iaload, 1) := by decide +kernel
theorem dX12_sameTokens_46 : decode cX12_sameTokens 46 = .ok (.aload_n 0, 1) := by decide +kernel
theorem dX12_sameTokens_47 : decode cX12_sameTokens 47 = .ok (.getfield 33, 3) := by decide +kernel
theorem dX12_sameTokens_50 : decode cX12_sameTokens 50 = .ok (.iload_n 1, 1) := by decide +kernel
theorem dX12_sameTokens_51 : decode cX12_sameTokens 51 = .ok (.iaload, 1) := by decide +kernel
theorem dX12_sameTokens_52 : decode cX12_sameTokens 52 = .ok (.isub, 1) := by decide +kernel
theorem dX12_sameTokens_53 : decode cX12_sameTokens 53 = .ok (.if_icmp .ge 48, 3) := by decide +kernel
theorem dX12_sameTokens_56 : decode cX12_sameTokens 56 = .ok (.iload_n 3, 1) := by decide +kernel
theorem dX12_sameTokens_57 : decode cX12_sameTokens 57 = .ok (.ifCond .eq 44, 3) := by decide +kernel
theorem dX12_sameTokens_60 : decode cX12_sameTokens 60 = .ok (.aload_n 0, 1) := by decide +kernel
theorem dX12_sameTokens_61 : decode cX12_sameTokens 61 = .ok (.aload_n 0, 1) := by decide +kernel
theorem dX12_sameTokens_62 : decode cX12_sameTokens 62 = .ok (.getfield 33, 3) := by decide +kernel
theorem dX12_sameTokens_65 : decode cX12_sameTokens 65 = .ok (.iload_n 1, 1) := by decide +kernel
theorem dX12_sameTokens_66 : decode cX12_sameTokens 66 = .ok (.iaload, 1) := by decide +kernel
theorem dX12_sameTokens_67 : decode cX12_sameTokens 67 = .ok (.iload 4, 2) := by decide +kernel
theorem dX12_sameTokens_69 : decode cX12_sameTokens 69 = .ok (.iadd, 1) := by decide +kernel
theorem dX12_sameTokens_70 : decode cX12_sameTokens 70 = .ok (.invokevirtual 334, 3) := by decide +kernel
theorem dX12_sameTokens_73 : decode cX12_sameTokens 73 = .ok (.aload_n 0, 1) := by decide +kernel
theorem dX12_sameTokens_74 : decode cX12_sameTokens 74 = .ok (.aload_n 0, 1) := by decide +kernel
theorem dX12_sameTokens_75 : decode cX12_sameTokens 75 = .ok (.getfield 33, 3) := by decide +kernel
theorem dX12_sameTokens_78 : decode cX12_sameTokens 78 = .ok (.iload_n 2, 1) := by decide +kernel
theorem dX12_sameTokens_79 : decode cX12_sameTokens 79 = .ok (.iaload, 1) := by decide +kernel
theorem dX12_sameTokens_80 : decode cX12_sameTokens 80 = .ok (.iload 4, 2) := by decide +kernel
theorem dX12_sameTokens_82 : decode cX12_sameTokens 82 = .ok (.iadd, 1) := by decide +kernel
theorem dX12_sameTokens_83 : decode cX12_sameTokens 83 = .ok (.invokevirtual 334, 3) := by decide +kernel
theorem dX12_sameTokens_86 : decode cX12_sameTokens 86 = .ok (.if_icmp .ne 7, 3) := by decide +kernel
theorem dX12_sameTokens_89 : decode cX12_sameTokens 89 = .ok (.iconst 1, 1) := by decide +kernel
theorem dX12_sameTokens_90 : decode cX12_sameTokens 90 = .ok (.goto 4, 3) := by decide +kernel
theorem dX12_sameTokens_93 : decode cX12_sameTokens 93 = .ok (.iconst 0, 1) := by decide +kernel
theorem dX12_sameTokens_94 : decode cX12_sameTokens 94 = .ok (.istore_n 3, 1) := by decide +kernel
theorem dX12_sameTokens_95 : decode cX12_sameTokens 95 = .ok (.iinc 4 1, 3) := by decide +kernel
theorem dX12_sameTokens_98 : decode cX12_sameTokens 98 = .ok (.goto (-60), 3) := by decide +kernel
theorem dX12_sameTokens_101 : decode cX12_sameTokens 101 = .ok (.iload_n 3, 1) := by decide +kernel
theorem dX12_sameTokens_102 : decode cX12_sameTokens 102 = .ok (.ireturn, 1) := by decide +kernel

def q_node (p1 : Int) (p2 : Int) (p3 : Int) (p4 : Int) (S : sv_S) : Option Value → sv_S → Prop := fun v S' => ∃ r : Int, v = some (sv_I r) ∧ sv_R r ∧ sm_ok S' ∧ sv_mod [1024, 11, 12, 13, 14, 1100019] S S' ∧ (r = (S 1024 0) ∧ (S' 1024 0) = (S 1024 0) + 1 ∧ (S' 11 r) = p1 ∧ (S' 12 (5 * r)) = p2 ∧ (S' 12 (5 * r + 1)) = p3 ∧ (S' 12 (5 * r + 2)) = p4 ∧ (S' 12 (5 * r + 3)) = -1 ∧ (S' 12 (5 * r + 4)) = -1 ∧ (S' 13 r) = -1 ∧ (S' 14 r) = 0 ∧ (∀ n : Int, n < (S 1024 0) → (S' 14 n) = (S 14 n)) ∧ (sm_WF (S 11) (S 12) (S 13) (S 1100001) (S 1100002) (S 1100005) (S 1100003) (S 1100004) (S 1024 0) (S 1007 0) (S 1009 0) (sm_fn (S 1032 0) (S 21) (S 1043 0)) → sm_WF (S' 11) (S' 12) (S' 13) (S' 1100001) (S' 1100002) (S' 1100005) (S' 1100003) (S' 1100004) (S' 1024 0) (S' 1007 0) (S' 1009 0) (sm_fn (S' 1032 0) (S' 21) (S' 1043 0)) ∧ (S' 1100001 r) = 0) ∧ sm_PX (S 11) (S 12) (S 13) (S 1100001) (S 1100002) (S 1100005) (S 1100003) (S 1100004) (S' 11) (S' 12) (S' 13) (S' 1100001) (S' 1100002) (S' 1100005) (S' 1100003) (S' 1100004) (S 1024 0) ∧ (S' 1100019 r) = (S' 1043 0) ∧ sm_F1 (S 1100019) (S' 1100019) (S 1024 0) ∧ (sm_WG (S 1100001) (S 1100019) (S 1043 0) → sm_WG (S' 1100001) (S' 1100019) (S' 1043 0)) ∧ (sm_FT (S 11) (S 12) (S 13) (S 1100019) (S 17) (S 18) (S 21) (S 19) (S 20) (S 22) (S 1100016) (S 1024 0) (S 1007 0) (S 1009 0) (S 1032 0) (S 1032 0) → sm_FT (S' 11) (S' 12) (S' 13) (S' 1100019) (S' 17) (S' 18) (S' 21) (S' 19) (S' 20) (S' 22) (S' 1100016) (S' 1024 0) (S' 1007 0) (S' 1009 0) (S' 1032 0) (S' 1032 0)))
theorem la_node_0 {x0 : Int} (h0 : 0 ≤ x0) (h1 : x0 < 12000) : sv_R (x0 + 1) := by omega
theorem la_node_1 {x0 : Int} (h0 : 0 ≤ x0) (h1 : x0 < 12000) : 0 ≤ x0 ∧ x0 < 12000 := by omega
theorem la_node_2 {x0 : Int} (h0 : 0 ≤ x0) (h1 : x0 < 12000) : 0 ≤ 5 * x0 ∧ 5 * x0 < 60000 := by omega
theorem la_node_3 {x0 : Int} (h0 : 0 ≤ x0) (h1 : x0 < 12000) : 0 ≤ 5 * x0 + 1 ∧ 5 * x0 + 1 < 60000 := by omega
theorem la_node_4 {x0 : Int} (h0 : 0 ≤ x0) (h1 : x0 < 12000) : 0 ≤ 5 * x0 + 2 ∧ 5 * x0 + 2 < 60000 := by omega
theorem la_node_5 {x0 : Int} (h0 : 0 ≤ x0) (h1 : x0 < 12000) : 0 ≤ 5 * x0 + 3 ∧ 5 * x0 + 3 < 60000 := by omega
theorem la_node_6 {x0 : Int} (h0 : 0 ≤ x0) (h1 : x0 < 12000) : 0 ≤ 5 * x0 + 4 ∧ 5 * x0 + 4 < 60000 := by omega
theorem la_node_7 {x0 : Int} : x0 = x0 := by omega
theorem la_node_8 {x0 : Int} : x0 + 1 = x0 + 1 := by omega
theorem la_node_9 {x0 : Int} : ¬ 5 * x0 = 5 * x0 + 4 := by omega
theorem la_node_10 {x0 : Int} : ¬ 5 * x0 = 5 * x0 + 2 := by omega
theorem la_node_11 {x0 : Int} : ¬ 5 * x0 = 5 * x0 + 3 := by omega
theorem la_node_12 {x0 : Int} : 5 * x0 = 5 * x0 := by omega
theorem la_node_13 {x0 : Int} : ¬ 5 * x0 = 5 * x0 + 1 := by omega
theorem la_node_14 {x0 x1 x2 x3 x4 x5 : Int} (h0 : x0 = x1) (h1 : x2 = x3) (h2 : x1 = x2) (h3 : x4 = x5) (h4 : x3 = x4) : x0 = x5 := by omega
theorem la_node_15 {x0 : Int} : ¬ 5 * x0 + 1 = 5 * x0 + 4 := by omega
theorem la_node_16 {x0 : Int} : 5 * x0 + 1 = 5 * x0 + 1 := by omega
theorem la_node_17 {x0 : Int} : ¬ 5 * x0 + 1 = 5 * x0 := by omega
theorem la_node_18 {x0 : Int} : ¬ 5 * x0 + 1 = 5 * x0 + 2 := by omega
theorem la_node_19 {x0 : Int} : ¬ 5 * x0 + 1 = 5 * x0 + 3 := by omega
theorem la_node_20 {x0 x1 x2 x3 x4 : Int} (h0 : x0 = x1) (h1 : x2 = x3) (h2 : x4 = x2) (h3 : x1 = x4) : x0 = x3 := by omega
theorem la_node_21 {x0 : Int} : ¬ 5 * x0 + 2 = 5 * x0 + 4 := by omega
theorem la_node_22 {x0 : Int} : 5 * x0 + 2 = 5 * x0 + 2 := by omega
theorem la_node_23 {x0 : Int} : ¬ 5 * x0 + 2 = 5 * x0 := by omega
theorem la_node_24 {x0 : Int} : ¬ 5 * x0 + 2 = 5 * x0 + 3 := by omega
theorem la_node_25 {x0 : Int} : ¬ 5 * x0 + 2 = 5 * x0 + 1 := by omega
theorem la_node_26 {x0 x1 x2 x3 : Int} (h0 : x0 = x1) (h1 : x2 = x3) (h2 : x1 = x2) : x0 = x3 := by omega
theorem la_node_27 {x0 : Int} : ¬ 5 * x0 + 3 = 5 * x0 + 1 := by omega
theorem la_node_28 {x0 : Int} : 5 * x0 + 3 = 5 * x0 + 3 := by omega
theorem la_node_29 {x0 : Int} : ¬ 5 * x0 + 3 = 5 * x0 + 2 := by omega
theorem la_node_30 {x0 : Int} : ¬ 5 * x0 + 3 = 5 * x0 := by omega
theorem la_node_31 {x0 : Int} : ¬ 5 * x0 + 3 = 5 * x0 + 4 := by omega
theorem la_node_32 {x0 x1 : Int} (h0 : x0 = (-1)) (h1 : x1 = x0) : x1 = (-1) := by omega
theorem la_node_33 {x0 : Int} : ¬ 5 * x0 + 4 = 5 * x0 := by omega
theorem la_node_34 {x0 : Int} : ¬ 5 * x0 + 4 = 5 * x0 + 3 := by omega
theorem la_node_35 {x0 : Int} : 5 * x0 + 4 = 5 * x0 + 4 := by omega
theorem la_node_36 {x0 : Int} : ¬ 5 * x0 + 4 = 5 * x0 + 2 := by omega
theorem la_node_37 {x0 : Int} : ¬ 5 * x0 + 4 = 5 * x0 + 1 := by omega
theorem la_node_38 {x0 x1 : Int} (h0 : x0 < x1) : ¬ x0 = x1 := by omega
theorem la_node_39 {x0 : Int} : x0 ≤ x0 := by omega
theorem la_node_40 {x0 : Int} : 5 * x0 ≤ 5 * x0 + 1 := by omega
theorem la_node_41 {x0 : Int} : 5 * x0 ≤ 5 * x0 + 2 := by omega
theorem la_node_42 {x0 : Int} : 5 * x0 ≤ 5 * x0 + 3 := by omega
theorem la_node_43 {x0 : Int} : 5 * x0 ≤ 5 * x0 + 4 := by omega
theorem la_node_44 {x0 : Int} : x0 ≤ x0 + 1 := by omega
set_option maxHeartbeats 2000000 in
theorem f_node : ∀ (p1 : Int) (p2 : Int) (p3 : Int) (p4 : Int) (S : sv_S), sm_ok S → sv_R p1 → sv_R p2 → sv_R p3 → sv_R p4 → (0 ≤ (S 1024 0) ∧ (S 1024 0) < 12000) → (sv_R (S 1024 0) → (sv_R ((S 1024 0) + (1 : Int))) ∧ (0 ≤ (S 1024 0) ∧ (S 1024 0) < 12000) ∧ (0 ≤ ((5 : Int) * (S 1024 0)) ∧ ((5 : Int) * (S 1024 0)) < 60000) ∧ (0 ≤ (((5 : Int) * (S 1024 0)) + (1 : Int)) ∧ (((5 : Int) * (S 1024 0)) + (1 : Int)) < 60000) ∧ (0 ≤ (((5 : Int) * (S 1024 0)) + (2 : Int)) ∧ (((5 : Int) * (S 1024 0)) + (2 : Int)) < 60000) ∧ (0 ≤ (((5 : Int) * (S 1024 0)) + (3 : Int)) ∧ (((5 : Int) * (S 1024 0)) + (3 : Int)) < 60000) ∧ (0 ≤ (((5 : Int) * (S 1024 0)) + (4 : Int)) ∧ (((5 : Int) * (S 1024 0)) + (4 : Int)) < 60000) ∧ (sv_R (S 1043 0) → ((S 1024 0) = (S 1024 0) ∧ ((S 1024 0) + (1 : Int)) = (S 1024 0) + 1 ∧ (if (S 1024 0) = (S 1024 0) then p1 else (S 11 (S 1024 0))) = p1 ∧ (if (5 * (S 1024 0)) = (((5 : Int) * (S 1024 0)) + (4 : Int)) then (-1 : Int) else (if (5 * (S 1024 0)) = (((5 : Int) * (S 1024 0)) + (3 : Int)) then (-1 : Int) else (if (5 * (S 1024 0)) = (((5 : Int) * (S 1024 0)) + (2 : Int)) then p4 else (if (5 * (S 1024 0)) = (((5 : Int) * (S 1024 0)) + (1 : Int)) then p3 else (if (5 * (S 1024 0)) = ((5 : Int) * (S 1024 0)) then p2 else (S 12 (5 * (S 1024 0)))))))) = p2 ∧ (if (5 * (S 1024 0) + 1) = (((5 : Int) * (S 1024 0)) + (4 : Int)) then (-1 : Int) else (if (5 * (S 1024 0) + 1) = (((5 : Int) * (S 1024 0)) + (3 : Int)) then (-1 : Int) else (if (5 * (S 1024 0) + 1) = (((5 : Int) * (S 1024 0)) + (2 : Int)) then p4 else (if (5 * (S 1024 0) + 1) = (((5 : Int) * (S 1024 0)) + (1 : Int)) then p3 else (if (5 * (S 1024 0) + 1) = ((5 : Int) * (S 1024 0)) then p2 else (S 12 (5 * (S 1024 0) + 1))))))) = p3 ∧ (if (5 * (S 1024 0) + 2) = (((5 : Int) * (S 1024 0)) + (4 : Int)) then (-1 : Int) else (if (5 * (S 1024 0) + 2) = (((5 : Int) * (S 1024 0)) + (3 : Int)) then (-1 : Int) else (if (5 * (S 1024 0) + 2) = (((5 : Int) * (S 1024 0)) + (2 : Int)) then p4 else (if (5 * (S 1024 0) + 2) = (((5 : Int) * (S 1024 0)) + (1 : Int)) then p3 else (if (5 * (S 1024 0) + 2) = ((5 : Int) * (S 1024 0)) then p2 else (S 12 (5 * (S 1024 0) + 2))))))) = p4 ∧ (if (5 * (S 1024 0) + 3) = (((5 : Int) * (S 1024 0)) + (4 : Int)) then (-1 : Int) else (if (5 * (S 1024 0) + 3) = (((5 : Int) * (S 1024 0)) + (3 : Int)) then (-1 : Int) else (if (5 * (S 1024 0) + 3) = (((5 : Int) * (S 1024 0)) + (2 : Int)) then p4 else (if (5 * (S 1024 0) + 3) = (((5 : Int) * (S 1024 0)) + (1 : Int)) then p3 else (if (5 * (S 1024 0) + 3) = ((5 : Int) * (S 1024 0)) then p2 else (S 12 (5 * (S 1024 0) + 3))))))) = -1 ∧ (if (5 * (S 1024 0) + 4) = (((5 : Int) * (S 1024 0)) + (4 : Int)) then (-1 : Int) else (if (5 * (S 1024 0) + 4) = (((5 : Int) * (S 1024 0)) + (3 : Int)) then (-1 : Int) else (if (5 * (S 1024 0) + 4) = (((5 : Int) * (S 1024 0)) + (2 : Int)) then p4 else (if (5 * (S 1024 0) + 4) = (((5 : Int) * (S 1024 0)) + (1 : Int)) then p3 else (if (5 * (S 1024 0) + 4) = ((5 : Int) * (S 1024 0)) then p2 else (S 12 (5 * (S 1024 0) + 4))))))) = -1 ∧ (if (S 1024 0) = (S 1024 0) then (-1 : Int) else (S 13 (S 1024 0))) = -1 ∧ (if (S 1024 0) = (S 1024 0) then (0 : Int) else (S 14 (S 1024 0))) = 0 ∧ (∀ n : Int, n < (S 1024 0) → (if n = (S 1024 0) then (0 : Int) else (S 14 n)) = (S 14 n)) ∧ (sm_WF (S 11) (S 12) (S 13) (S 1100001) (S 1100002) (S 1100005) (S 1100003) (S 1100004) (S 1024 0) (S 1007 0) (S 1009 0) (sm_fn (S 1032 0) (S 21) (S 1043 0)) → sm_WF (fun i' : Int => if i' = (S 1024 0) then p1 else (S 11) i') (fun i' : Int => if i' = (((5 : Int) * (S 1024 0)) + (4 : Int)) then (-1 : Int) else (fun i' : Int => if i' = (((5 : Int) * (S 1024 0)) + (3 : Int)) then (-1 : Int) else (fun i' : Int => if i' = (((5 : Int) * (S 1024 0)) + (2 : Int)) then p4 else (fun i' : Int => if i' = (((5 : Int) * (S 1024 0)) + (1 : Int)) then p3 else (fun i' : Int => if i' = ((5 : Int) * (S 1024 0)) then p2 else (S 12) i') i') i') i') i') (fun i' : Int => if i' = (S 1024 0) then (-1 : Int) else (S 13) i') (S 1100001) (S 1100002) (S 1100005) (S 1100003) (S 1100004) ((S 1024 0) + (1 : Int)) (S 1007 0) (S 1009 0) (sm_fn (S 1032 0) (S 21) (S 1043 0)) ∧ (S 1100001 (S 1024 0)) = 0) ∧ sm_PX (S 11) (S 12) (S 13) (S 1100001) (S 1100002) (S 1100005) (S 1100003) (S 1100004) (fun i' : Int => if i' = (S 1024 0) then p1 else (S 11) i') (fun i' : Int => if i' = (((5 : Int) * (S 1024 0)) + (4 : Int)) then (-1 : Int) else (fun i' : Int => if i' = (((5 : Int) * (S 1024 0)) + (3 : Int)) then (-1 : Int) else (fun i' : Int => if i' = (((5 : Int) * (S 1024 0)) + (2 : Int)) then p4 else (fun i' : Int => if i' = (((5 : Int) * (S 1024 0)) + (1 : Int)) then p3 else (fun i' : Int => if i' = ((5 : Int) * (S 1024 0)) then p2 else (S 12) i') i') i') i') i') (fun i' : Int => if i' = (S 1024 0) then (-1 : Int) else (S 13) i') (S 1100001) (S 1100002) (S 1100005) (S 1100003) (S 1100004) (S 1024 0) ∧ (if (S 1024 0) = (S 1024 0) then (S 1043 0) else (S 1100019 (S 1024 0))) = (S 1043 0) ∧ sm_F1 (S 1100019) (fun i' : Int => if i' = (S 1024 0) then (S 1043 0) else (S 1100019) i') (S 1024 0) ∧ (sm_WG (S 1100001) (S 1100019) (S 1043 0) → sm_WG (S 1100001) (fun i' : Int => if i' = (S 1024 0) then (S 1043 0) else (S 1100019) i') (S 1043 0)) ∧ (sm_FT (S 11) (S 12) (S 13) (S 1100019) (S 17) (S 18) (S 21) (S 19) (S 20) (S 22) (S 1100016) (S 1024 0) (S 1007 0) (S 1009 0) (S 1032 0) (S 1032 0) → sm_FT (fun i' : Int => if i' = (S 1024 0) then p1 else (S 11) i') (fun i' : Int => if i' = (((5 : Int) * (S 1024 0)) + (4 : Int)) then (-1 : Int) else (fun i' : Int => if i' = (((5 : Int) * (S 1024 0)) + (3 : Int)) then (-1 : Int) else (fun i' : Int => if i' = (((5 : Int) * (S 1024 0)) + (2 : Int)) then p4 else (fun i' : Int => if i' = (((5 : Int) * (S 1024 0)) + (1 : Int)) then p3 else (fun i' : Int => if i' = ((5 : Int) * (S 1024 0)) then p2 else (S 12) i') i') i') i') i') (fun i' : Int => if i' = (S 1024 0) then (-1 : Int) else (S 13) i') (fun i' : Int => if i' = (S 1024 0) then (S 1043 0) else (S 1100019) i') (S 17) (S 18) (S 21) (S 19) (S 20) (S 22) (S 1100016) ((S 1024 0) + (1 : Int)) (S 1007 0) (S 1009 0) (S 1032 0) (S 1032 0))))) := by
  intro p1
  intro p2
  intro p3
  intro p4
  intro S
  intro h1_
  intro h2_
  intro h3_
  intro h4_
  intro h5_
  rintro ⟨h6_, h7_⟩
  intro h8_
  refine ⟨(la_node_0 h6_ h7_), ?_⟩
  refine ⟨(la_node_1 h6_ h7_), ?_⟩
  refine ⟨(la_node_2 h6_ h7_), ?_⟩
  refine ⟨(la_node_3 h6_ h7_), ?_⟩
  refine ⟨(la_node_4 h6_ h7_), ?_⟩
  refine ⟨(la_node_5 h6_ h7_), ?_⟩
  refine ⟨(la_node_6 h6_ h7_), ?_⟩
  intro h9_
  refine ⟨la_node_7, ?_⟩
  refine ⟨la_node_8, ?_⟩
  refine ⟨?_, ?_⟩
  · skip
    have e10_ : (if S 1024 0 = S 1024 0 then p1 else S 11 (S 1024 0) : Int) = p1 := if_pos la_node_7
    exact e10_
  refine ⟨?_, ?_⟩
  · skip
    have e11_ : (if 5 * S 1024 0 = 5 * S 1024 0 + 4 then (-1) else (if 5 * S 1024 0 = 5 * S 1024 0 + 3 then (-1) else (if 5 * S 1024 0 = 5 * S 1024 0 + 2 then p4 else (if 5 * S 1024 0 = 5 * S 1024 0 + 1 then p3 else (if 5 * S 1024 0 = 5 * S 1024 0 then p2 else S 12 (5 * S 1024 0))))) : Int) = (if 5 * S 1024 0 = 5 * S 1024 0 + 3 then (-1) else (if 5 * S 1024 0 = 5 * S 1024 0 + 2 then p4 else (if 5 * S 1024 0 = 5 * S 1024 0 + 1 then p3 else (if 5 * S 1024 0 = 5 * S 1024 0 then p2 else S 12 (5 * S 1024 0))))) := if_neg la_node_9
    have e12_ : (if 5 * S 1024 0 = 5 * S 1024 0 + 2 then p4 else (if 5 * S 1024 0 = 5 * S 1024 0 + 1 then p3 else (if 5 * S 1024 0 = 5 * S 1024 0 then p2 else S 12 (5 * S 1024 0))) : Int) = (if 5 * S 1024 0 = 5 * S 1024 0 + 1 then p3 else (if 5 * S 1024 0 = 5 * S 1024 0 then p2 else S 12 (5 * S 1024 0))) := if_neg la_node_10
    have e13_ : (if 5 * S 1024 0 = 5 * S 1024 0 + 3 then (-1) else (if 5 * S 1024 0 = 5 * S 1024 0 + 2 then p4 else (if 5 * S 1024 0 = 5 * S 1024 0 + 1 then p3 else (if 5 * S 1024 0 = 5 * S 1024 0 then p2 else S 12 (5 * S 1024 0)))) : Int) = (if 5 * S 1024 0 = 5 * S 1024 0 + 2 then p4 else (if 5 * S 1024 0 = 5 * S 1024 0 + 1 then p3 else (if 5 * S 1024 0 = 5 * S 1024 0 then p2 else S 12 (5 * S 1024 0)))) := if_neg la_node_11
    have e14_ : (if 5 * S 1024 0 = 5 * S 1024 0 then p2 else S 12 (5 * S 1024 0) : Int) = p2 := if_pos la_node_12
    have e15_ : (if 5 * S 1024 0 = 5 * S 1024 0 + 1 then p3 else (if 5 * S 1024 0 = 5 * S 1024 0 then p2 else S 12 (5 * S 1024 0)) : Int) = (if 5 * S 1024 0 = 5 * S 1024 0 then p2 else S 12 (5 * S 1024 0)) := if_neg la_node_13
    exact (la_node_14 e11_ e12_ e13_ e14_ e15_)
  refine ⟨?_, ?_⟩
  · skip
    have e16_ : (if 5 * S 1024 0 + 1 = 5 * S 1024 0 + 4 then (-1) else (if 5 * S 1024 0 + 1 = 5 * S 1024 0 + 3 then (-1) else (if 5 * S 1024 0 + 1 = 5 * S 1024 0 + 2 then p4 else (if 5 * S 1024 0 + 1 = 5 * S 1024 0 + 1 then p3 else (if 5 * S 1024 0 + 1 = 5 * S 1024 0 then p2 else S 12 (5 * S 1024 0 + 1))))) : Int) = (if 5 * S 1024 0 + 1 = 5 * S 1024 0 + 3 then (-1) else (if 5 * S 1024 0 + 1 = 5 * S 1024 0 + 2 then p4 else (if 5 * S 1024 0 + 1 = 5 * S 1024 0 + 1 then p3 else (if 5 * S 1024 0 + 1 = 5 * S 1024 0 then p2 else S 12 (5 * S 1024 0 + 1))))) := if_neg la_node_15
    have e17_ : (if 5 * S 1024 0 + 1 = 5 * S 1024 0 + 1 then p3 else (if 5 * S 1024 0 + 1 = 5 * S 1024 0 then p2 else S 12 (5 * S 1024 0 + 1)) : Int) = p3 := if_pos la_node_16
    have e18_ : (if 5 * S 1024 0 + 1 = 5 * S 1024 0 then p2 else S 12 (5 * S 1024 0 + 1) : Int) = S 12 (5 * S 1024 0 + 1) := if_neg la_node_17
    have e19_ : (if 5 * S 1024 0 + 1 = 5 * S 1024 0 + 2 then p4 else (if 5 * S 1024 0 + 1 = 5 * S 1024 0 + 1 then p3 else (if 5 * S 1024 0 + 1 = 5 * S 1024 0 then p2 else S 12 (5 * S 1024 0 + 1))) : Int) = (if 5 * S 1024 0 + 1 = 5 * S 1024 0 + 1 then p3 else (if 5 * S 1024 0 + 1 = 5 * S 1024 0 then p2 else S 12 (5 * S 1024 0 + 1))) := if_neg la_node_18
    have e20_ : (if 5 * S 1024 0 + 1 = 5 * S 1024 0 + 3 then (-1) else (if 5 * S 1024 0 + 1 = 5 * S 1024 0 + 2 then p4 else (if 5 * S 1024 0 + 1 = 5 * S 1024 0 + 1 then p3 else (if 5 * S 1024 0 + 1 = 5 * S 1024 0 then p2 else S 12 (5 * S 1024 0 + 1)))) : Int) = (if 5 * S 1024 0 + 1 = 5 * S 1024 0 + 2 then p4 else (if 5 * S 1024 0 + 1 = 5 * S 1024 0 + 1 then p3 else (if 5 * S 1024 0 + 1 = 5 * S 1024 0 then p2 else S 12 (5 * S 1024 0 + 1)))) := if_neg la_node_19
    exact (la_node_20 e16_ e17_ e19_ e20_)
  refine ⟨?_, ?_⟩
  · skip
    have e21_ : (if 5 * S 1024 0 + 2 = 5 * S 1024 0 + 4 then (-1) else (if 5 * S 1024 0 + 2 = 5 * S 1024 0 + 3 then (-1) else (if 5 * S 1024 0 + 2 = 5 * S 1024 0 + 2 then p4 else (if 5 * S 1024 0 + 2 = 5 * S 1024 0 + 1 then p3 else (if 5 * S 1024 0 + 2 = 5 * S 1024 0 then p2 else S 12 (5 * S 1024 0 + 2))))) : Int) = (if 5 * S 1024 0 + 2 = 5 * S 1024 0 + 3 then (-1) else (if 5 * S 1024 0 + 2 = 5 * S 1024 0 + 2 then p4 else (if 5 * S 1024 0 + 2 = 5 * S 1024 0 + 1 then p3 else (if 5 * S 1024 0 + 2 = 5 * S 1024 0 then p2 else S 12 (5 * S 1024 0 + 2))))) := if_neg la_node_21
    have e22_ : (if 5 * S 1024 0 + 2 = 5 * S 1024 0 + 2 then p4 else (if 5 * S 1024 0 + 2 = 5 * S 1024 0 + 1 then p3 else (if 5 * S 1024 0 + 2 = 5 * S 1024 0 then p2 else S 12 (5 * S 1024 0 + 2))) : Int) = p4 := if_pos la_node_22
    have e23_ : (if 5 * S 1024 0 + 2 = 5 * S 1024 0 then p2 else S 12 (5 * S 1024 0 + 2) : Int) = S 12 (5 * S 1024 0 + 2) := if_neg la_node_23
    have e24_ : (if 5 * S 1024 0 + 2 = 5 * S 1024 0 + 3 then (-1) else (if 5 * S 1024 0 + 2 = 5 * S 1024 0 + 2 then p4 else (if 5 * S 1024 0 + 2 = 5 * S 1024 0 + 1 then p3 else (if 5 * S 1024 0 + 2 = 5 * S 1024 0 then p2 else S 12 (5 * S 1024 0 + 2)))) : Int) = (if 5 * S 1024 0 + 2 = 5 * S 1024 0 + 2 then p4 else (if 5 * S 1024 0 + 2 = 5 * S 1024 0 + 1 then p3 else (if 5 * S 1024 0 + 2 = 5 * S 1024 0 then p2 else S 12 (5 * S 1024 0 + 2)))) := if_neg la_node_24
    have e25_ : (if 5 * S 1024 0 + 2 = 5 * S 1024 0 + 1 then p3 else (if 5 * S 1024 0 + 2 = 5 * S 1024 0 then p2 else S 12 (5 * S 1024 0 + 2)) : Int) = (if 5 * S 1024 0 + 2 = 5 * S 1024 0 then p2 else S 12 (5 * S 1024 0 + 2)) := if_neg la_node_25
    exact (la_node_26 e21_ e22_ e24_)
  refine ⟨?_, ?_⟩
  · skip
    have e26_ : (if 5 * S 1024 0 + 3 = 5 * S 1024 0 + 1 then p3 else (if 5 * S 1024 0 + 3 = 5 * S 1024 0 then p2 else S 12 (5 * S 1024 0 + 3)) : Int) = (if 5 * S 1024 0 + 3 = 5 * S 1024 0 then p2 else S 12 (5 * S 1024 0 + 3)) := if_neg la_node_27
    have e27_ : (if 5 * S 1024 0 + 3 = 5 * S 1024 0 + 3 then (-1) else (if 5 * S 1024 0 + 3 = 5 * S 1024 0 + 2 then p4 else (if 5 * S 1024 0 + 3 = 5 * S 1024 0 + 1 then p3 else (if 5 * S 1024 0 + 3 = 5 * S 1024 0 then p2 else S 12 (5 * S 1024 0 + 3)))) : Int) = (-1) := if_pos la_node_28
    have e28_ : (if 5 * S 1024 0 + 3 = 5 * S 1024 0 + 2 then p4 else (if 5 * S 1024 0 + 3 = 5 * S 1024 0 + 1 then p3 else (if 5 * S 1024 0 + 3 = 5 * S 1024 0 then p2 else S 12 (5 * S 1024 0 + 3))) : Int) = (if 5 * S 1024 0 + 3 = 5 * S 1024 0 + 1 then p3 else (if 5 * S 1024 0 + 3 = 5 * S 1024 0 then p2 else S 12 (5 * S 1024 0 + 3))) := if_neg la_node_29
    have e29_ : (if 5 * S 1024 0 + 3 = 5 * S 1024 0 then p2 else S 12 (5 * S 1024 0 + 3) : Int) = S 12 (5 * S 1024 0 + 3) := if_neg la_node_30
    have e30_ : (if 5 * S 1024 0 + 3 = 5 * S 1024 0 + 4 then (-1) else (if 5 * S 1024 0 + 3 = 5 * S 1024 0 + 3 then (-1) else (if 5 * S 1024 0 + 3 = 5 * S 1024 0 + 2 then p4 else (if 5 * S 1024 0 + 3 = 5 * S 1024 0 + 1 then p3 else (if 5 * S 1024 0 + 3 = 5 * S 1024 0 then p2 else S 12 (5 * S 1024 0 + 3))))) : Int) = (if 5 * S 1024 0 + 3 = 5 * S 1024 0 + 3 then (-1) else (if 5 * S 1024 0 + 3 = 5 * S 1024 0 + 2 then p4 else (if 5 * S 1024 0 + 3 = 5 * S 1024 0 + 1 then p3 else (if 5 * S 1024 0 + 3 = 5 * S 1024 0 then p2 else S 12 (5 * S 1024 0 + 3))))) := if_neg la_node_31
    exact (la_node_32 e27_ e30_)
  refine ⟨?_, ?_⟩
  · skip
    have e31_ : (if 5 * S 1024 0 + 4 = 5 * S 1024 0 then p2 else S 12 (5 * S 1024 0 + 4) : Int) = S 12 (5 * S 1024 0 + 4) := if_neg la_node_33
    have e32_ : (if 5 * S 1024 0 + 4 = 5 * S 1024 0 + 3 then (-1) else (if 5 * S 1024 0 + 4 = 5 * S 1024 0 + 2 then p4 else (if 5 * S 1024 0 + 4 = 5 * S 1024 0 + 1 then p3 else (if 5 * S 1024 0 + 4 = 5 * S 1024 0 then p2 else S 12 (5 * S 1024 0 + 4)))) : Int) = (if 5 * S 1024 0 + 4 = 5 * S 1024 0 + 2 then p4 else (if 5 * S 1024 0 + 4 = 5 * S 1024 0 + 1 then p3 else (if 5 * S 1024 0 + 4 = 5 * S 1024 0 then p2 else S 12 (5 * S 1024 0 + 4)))) := if_neg la_node_34
    have e33_ : (if 5 * S 1024 0 + 4 = 5 * S 1024 0 + 4 then (-1) else (if 5 * S 1024 0 + 4 = 5 * S 1024 0 + 3 then (-1) else (if 5 * S 1024 0 + 4 = 5 * S 1024 0 + 2 then p4 else (if 5 * S 1024 0 + 4 = 5 * S 1024 0 + 1 then p3 else (if 5 * S 1024 0 + 4 = 5 * S 1024 0 then p2 else S 12 (5 * S 1024 0 + 4))))) : Int) = (-1) := if_pos la_node_35
    have e34_ : (if 5 * S 1024 0 + 4 = 5 * S 1024 0 + 2 then p4 else (if 5 * S 1024 0 + 4 = 5 * S 1024 0 + 1 then p3 else (if 5 * S 1024 0 + 4 = 5 * S 1024 0 then p2 else S 12 (5 * S 1024 0 + 4))) : Int) = (if 5 * S 1024 0 + 4 = 5 * S 1024 0 + 1 then p3 else (if 5 * S 1024 0 + 4 = 5 * S 1024 0 then p2 else S 12 (5 * S 1024 0 + 4))) := if_neg la_node_36
    have e35_ : (if 5 * S 1024 0 + 4 = 5 * S 1024 0 + 1 then p3 else (if 5 * S 1024 0 + 4 = 5 * S 1024 0 then p2 else S 12 (5 * S 1024 0 + 4)) : Int) = (if 5 * S 1024 0 + 4 = 5 * S 1024 0 then p2 else S 12 (5 * S 1024 0 + 4)) := if_neg la_node_37
    exact e33_
  refine ⟨?_, ?_⟩
  · skip
    have e36_ : (if S 1024 0 = S 1024 0 then (-1) else S 13 (S 1024 0) : Int) = (-1) := if_pos la_node_7
    exact e36_
  refine ⟨?_, ?_⟩
  · skip
    have e37_ : (if S 1024 0 = S 1024 0 then 0 else S 14 (S 1024 0) : Int) = 0 := if_pos la_node_7
    exact e37_
  refine ⟨?_, ?_⟩
  · skip
    intro n
    intro h38_
    have e39_ : (if n = S 1024 0 then 0 else S 14 n : Int) = S 14 n := if_neg (la_node_38 h38_)
    exact e39_
  refine ⟨?_, ?_⟩
  · skip
    intro h40_
    refine ⟨(sm_WF_put h40_), ?_⟩
    exact (sm_WF_0 h40_ (S 1024 0) la_node_39)
  refine ⟨(sm_PX_up_wo (sm_PX_up_wo (sm_PX_up_wo (sm_PX_up_wo (sm_PX_up_ne (sm_PX_up_wo (sm_PX_up_so sm_PX_rf (Int.le_refl _)) (Int.le_refl _)) (Int.le_refl _)) la_node_40) la_node_41) la_node_42) la_node_43), ?_⟩
  refine ⟨?_, ?_⟩
  · skip
    have e41_ : (if S 1024 0 = S 1024 0 then S 1043 0 else S 1100019 (S 1024 0) : Int) = S 1043 0 := if_pos la_node_7
    exact e41_
  refine ⟨(sm_F1_up sm_F1_rf (Int.le_refl _)), ?_⟩
  refine ⟨?_, ?_⟩
  · skip
    intro h42_
    exact (sm_WG_G h42_ rfl)
  intro h43_
  exact (sm_FT_ns (sm_FT_up_ne (sm_FT_up_wo (sm_FT_up_wo (sm_FT_up_wo (sm_FT_up_wo (sm_FT_up_wo (sm_FT_up_so (sm_FT_up_G h43_ (Int.le_refl _) h6_) (Int.le_refl _)) (Int.le_refl _)) la_node_40) la_node_41) la_node_42) la_node_43) (Int.le_refl _)) la_node_44 (Int.le_refl _) id (Int.le_refl _) (Int.le_refl _))
set_option maxRecDepth 8000 in
set_option maxHeartbeats 2000000 in
theorem t_node : ∀ (p1 : Int) (p2 : Int) (p3 : Int) (p4 : Int) (S : sv_S), sm_ok S → sv_R p1 → sv_R p2 → sv_R p3 → sv_R p4 → (0 ≤ (S 1024 0) ∧ (S 1024 0) < 12000) → sv_T sm_XS sm_cs sm_L sm_sh 0 (q_node p1 p2 p3 p4 S) 33 0 (lv_args 0 [.ref 0, sv_I p1, sv_I p2, sv_I p3, sv_I p4]) [] S := by
  intro p1 p2 p3 p4 S hok hp1 hp2 hp3 hp4 hpre
  have h := f_node p1 p2 p3 p4 S hok hp1 hp2 hp3 hp4 hpre
  have hM := sm_h33
  show sv_T sm_XS sm_cs sm_L sm_sh 0 (q_node p1 p2 p3 p4 S) 33 0 [(0, .ref 0), (1, sv_I p1), (2, sv_I p2), (3, sv_I p3), (4, sv_I p4)] [] S
  refine sv_aload_n hM dX12_node_0 rfl rfl ?_
  have k1 : sv_R (S 1024 0) := sm_okI hok sm_r1024 0
  have h := h k1
  refine sv_getI hM dX12_node_1 sm_fl_421 (sm_a0 _) sm_k24 rfl (x := (S 1024 0)) rfl ?_
  refine sv_istore hM dX12_node_4 (by decide) rfl ?_
  show sv_T sm_XS sm_cs sm_L sm_sh 0 (q_node p1 p2 p3 p4 S) 33 6 [(0, .ref 0), (1, sv_I p1), (2, sv_I p2), (3, sv_I p3), (4, sv_I p4), (5, sv_I (S 1024 0))] [] S
  refine sv_aload_n hM dX12_node_6 rfl rfl ?_
  refine sv_dupA hM dX12_node_7 rfl ?_
  refine sv_getI hM dX12_node_8 sm_fl_421 (sm_a0 _) sm_k24 rfl (x := (S 1024 0)) rfl ?_
  refine sv_iconst (d := (1 : Int)) hM dX12_node_11 rfl rfl ?_
  refine sv_iadd hM dX12_node_12 rfl ?_
  obtain ⟨o2, h⟩ := h
  refine sv_putI sm_X hM dX12_node_13 sm_fp_421 (sm_a0 _) sm_q24 (Or.inl rfl) rfl rfl rfl rfl ?_
  have ok3 : sm_ok (sv_up S 1024 0 ((S 1024 0) + (1 : Int))) := sm_upI hok sm_r1024 o2
  have md4 : sv_mod [1024, 11, 12, 13, 14, 1100019] S (sv_up S 1024 0 ((S 1024 0) + (1 : Int))) := sv_mod.up sv_mod.rf (by decide)
  refine sv_aload_n hM dX12_node_16 rfl rfl ?_
  refine sv_getA hM dX12_node_17 sm_fl_42 (sm_a0 _) sm_k25 rfl ?_
  refine sv_iload hM dX12_node_20 rfl rfl ?_
  refine sv_iload_n hM dX12_node_22 rfl rfl ?_
  obtain ⟨o5, h⟩ := h
  refine sv_iast sm_X hM dX12_node_23 (sm_a11 _) (by decide) o5.1 o5.2 rfl ?_
  have ok6 : sm_ok (sv_up (sv_up S 1024 0 ((S 1024 0) + (1 : Int))) 11 (S 1024 0) p1) := sm_upI ok3 sm_r11 hp1
  have md7 : sv_mod [1024, 11, 12, 13, 14, 1100019] S (sv_up (sv_up S 1024 0 ((S 1024 0) + (1 : Int))) 11 (S 1024 0) p1) := sv_mod.up md4 (by decide)
  refine sv_aload_n hM dX12_node_24 rfl rfl ?_
  refine sv_getA hM dX12_node_25 sm_fl_46 (sm_a0 _) sm_k26 rfl ?_
  refine sv_iconst (d := (5 : Int)) hM dX12_node_28 rfl rfl ?_
  refine sv_iload hM dX12_node_29 rfl rfl ?_
  refine sv_imul hM dX12_node_31 rfl ?_
  refine sv_iload_n hM dX12_node_32 rfl rfl ?_
  obtain ⟨o8, h⟩ := h
  refine sv_iast sm_X hM dX12_node_33 (sm_a12 _) (by decide) o8.1 o8.2 rfl ?_
  have ok9 : sm_ok (sv_up (sv_up (sv_up S 1024 0 ((S 1024 0) + (1 : Int))) 11 (S 1024 0) p1) 12 ((5 : Int) * (S 1024 0)) p2) := sm_upI ok6 sm_r12 hp2
  have md10 : sv_mod [1024, 11, 12, 13, 14, 1100019] S (sv_up (sv_up (sv_up S 1024 0 ((S 1024 0) + (1 : Int))) 11 (S 1024 0) p1) 12 ((5 : Int) * (S 1024 0)) p2) := sv_mod.up md7 (by decide)
  refine sv_aload_n hM dX12_node_34 rfl rfl ?_
  refine sv_getA hM dX12_node_35 sm_fl_46 (sm_a0 _) sm_k26 rfl ?_
  refine sv_iconst (d := (5 : Int)) hM dX12_node_38 rfl rfl ?_
  refine sv_iload hM dX12_node_39 rfl rfl ?_
  refine sv_imul hM dX12_node_41 rfl ?_
  refine sv_iconst (d := (1 : Int)) hM dX12_node_42 rfl rfl ?_
  refine sv_iadd hM dX12_node_43 rfl ?_
  refine sv_iload_n hM dX12_node_44 rfl rfl ?_
  obtain ⟨o11, h⟩ := h
  refine sv_iast sm_X hM dX12_node_45 (sm_a12 _) (by decide) o11.1 o11.2 rfl ?_
  have ok12 : sm_ok (sv_up (sv_up (sv_up (sv_up S 1024 0 ((S 1024 0) + (1 : Int))) 11 (S 1024 0) p1) 12 ((5 : Int) * (S 1024 0)) p2) 12 (((5 : Int) * (S 1024 0)) + (1 : Int)) p3) := sm_upI ok9 sm_r12 hp3
  have md13 : sv_mod [1024, 11, 12, 13, 14, 1100019] S (sv_up (sv_up (sv_up (sv_up S 1024 0 ((S 1024 0) + (1 : Int))) 11 (S 1024 0) p1) 12 ((5 : Int) * (S 1024 0)) p2) 12 (((5 : Int) * (S 1024 0)) + (1 : Int)) p3) := sv_mod.up md10 (by decide)
  refine sv_aload_n hM dX12_node_46 rfl rfl ?_
  refine sv_getA hM dX12_node_47 sm_fl_46 (sm_a0 _) sm_k26 rfl ?_
  refine sv_iconst (d := (5 : Int)) hM dX12_node_50 rfl rfl ?_
  refine sv_iload hM dX12_node_51 rfl rfl ?_
  refine sv_imul hM dX12_node_53 rfl ?_
  refine sv_iconst (d := (2 : Int)) hM dX12_node_54 rfl rfl ?_
  refine sv_iadd hM dX12_node_55 rfl ?_
  refine sv_iload hM dX12_node_56 rfl rfl ?_
  obtain ⟨o14, h⟩ := h
  refine sv_iast sm_X hM dX12_node_58 (sm_a12 _) (by decide) o14.1 o14.2 rfl ?_
  have ok15 : sm_ok (sv_up (sv_up (sv_up (sv_up (sv_up S 1024 0 ((S 1024 0) + (1 : Int))) 11 (S 1024 0) p1) 12 ((5 : Int) * (S 1024 0)) p2) 12 (((5 : Int) * (S 1024 0)) + (1 : Int)) p3) 12 (((5 : Int) * (S 1024 0)) + (2 : Int)) p4) := sm_upI ok12 sm_r12 hp4
  have md16 : sv_mod [1024, 11, 12, 13, 14, 1100019] S (sv_up (sv_up (sv_up (sv_up (sv_up S 1024 0 ((S 1024 0) + (1 : Int))) 11 (S 1024 0) p1) 12 ((5 : Int) * (S 1024 0)) p2) 12 (((5 : Int) * (S 1024 0)) + (1 : Int)) p3) 12 (((5 : Int) * (S 1024 0)) + (2 : Int)) p4) := sv_mod.up md13 (by decide)
  refine sv_aload_n hM dX12_node_59 rfl rfl ?_
  refine sv_getA hM dX12_node_60 sm_fl_46 (sm_a0 _) sm_k26 rfl ?_
  refine sv_iconst (d := (5 : Int)) hM dX12_node_63 rfl rfl ?_
  refine sv_iload hM dX12_node_64 rfl rfl ?_
  refine sv_imul hM dX12_node_66 rfl ?_
  refine sv_iconst (d := (3 : Int)) hM dX12_node_67 rfl rfl ?_
  refine sv_iadd hM dX12_node_68 rfl ?_
  refine sv_iconst (d := (-1 : Int)) hM dX12_node_69 rfl rfl ?_
  obtain ⟨o17, h⟩ := h
  refine sv_iast sm_X hM dX12_node_70 (sm_a12 _) (by decide) o17.1 o17.2 rfl ?_
  have ok18 : sm_ok (sv_up (sv_up (sv_up (sv_up (sv_up (sv_up S 1024 0 ((S 1024 0) + (1 : Int))) 11 (S 1024 0) p1) 12 ((5 : Int) * (S 1024 0)) p2) 12 (((5 : Int) * (S 1024 0)) + (1 : Int)) p3) 12 (((5 : Int) * (S 1024 0)) + (2 : Int)) p4) 12 (((5 : Int) * (S 1024 0)) + (3 : Int)) (-1 : Int)) := sm_upI ok15 sm_r12 (⟨by decide, by decide⟩ : sv_R (-1 : Int))
  have md19 : sv_mod [1024, 11, 12, 13, 14, 1100019] S (sv_up (sv_up (sv_up (sv_up (sv_up (sv_up S 1024 0 ((S 1024 0) + (1 : Int))) 11 (S 1024 0) p1) 12 ((5 : Int) * (S 1024 0)) p2) 12 (((5 : Int) * (S 1024 0)) + (1 : Int)) p3) 12 (((5 : Int) * (S 1024 0)) + (2 : Int)) p4) 12 (((5 : Int) * (S 1024 0)) + (3 : Int)) (-1 : Int)) := sv_mod.up md16 (by decide)
  refine sv_aload_n hM dX12_node_71 rfl rfl ?_
  refine sv_getA hM dX12_node_72 sm_fl_46 (sm_a0 _) sm_k26 rfl ?_
  refine sv_iconst (d := (5 : Int)) hM dX12_node_75 rfl rfl ?_
  refine sv_iload hM dX12_node_76 rfl rfl ?_
  refine sv_imul hM dX12_node_78 rfl ?_
  refine sv_iconst (d := (4 : Int)) hM dX12_node_79 rfl rfl ?_
  refine sv_iadd hM dX12_node_80 rfl ?_
  refine sv_iconst (d := (-1 : Int)) hM dX12_node_81 rfl rfl ?_
  obtain ⟨o20, h⟩ := h
  refine sv_iast sm_X hM dX12_node_82 (sm_a12 _) (by decide) o20.1 o20.2 rfl ?_
  have ok21 : sm_ok (sv_up (sv_up (sv_up (sv_up (sv_up (sv_up (sv_up S 1024 0 ((S 1024 0) + (1 : Int))) 11 (S 1024 0) p1) 12 ((5 : Int) * (S 1024 0)) p2) 12 (((5 : Int) * (S 1024 0)) + (1 : Int)) p3) 12 (((5 : Int) * (S 1024 0)) + (2 : Int)) p4) 12 (((5 : Int) * (S 1024 0)) + (3 : Int)) (-1 : Int)) 12 (((5 : Int) * (S 1024 0)) + (4 : Int)) (-1 : Int)) := sm_upI ok18 sm_r12 (⟨by decide, by decide⟩ : sv_R (-1 : Int))
  have md22 : sv_mod [1024, 11, 12, 13, 14, 1100019] S (sv_up (sv_up (sv_up (sv_up (sv_up (sv_up (sv_up S 1024 0 ((S 1024 0) + (1 : Int))) 11 (S 1024 0) p1) 12 ((5 : Int) * (S 1024 0)) p2) 12 (((5 : Int) * (S 1024 0)) + (1 : Int)) p3) 12 (((5 : Int) * (S 1024 0)) + (2 : Int)) p4) 12 (((5 : Int) * (S 1024 0)) + (3 : Int)) (-1 : Int)) 12 (((5 : Int) * (S 1024 0)) + (4 : Int)) (-1 : Int)) := sv_mod.up md19 (by decide)
  refine sv_aload_n hM dX12_node_83 rfl rfl ?_
  refine sv_getA hM dX12_node_84 sm_fl_49 (sm_a0 _) sm_k27 rfl ?_
  refine sv_iload hM dX12_node_87 rfl rfl ?_
  refine sv_iconst (d := (-1 : Int)) hM dX12_node_89 rfl rfl ?_
  refine sv_iast sm_X hM dX12_node_90 (sm_a13 _) (by decide) o5.1 o5.2 rfl ?_
  have ok23 : sm_ok (sv_up (sv_up (sv_up (sv_up (sv_up (sv_up (sv_up (sv_up S 1024 0 ((S 1024 0) + (1 : Int))) 11 (S 1024 0) p1) 12 ((5 : Int) * (S 1024 0)) p2) 12 (((5 : Int) * (S 1024 0)) + (1 : Int)) p3) 12 (((5 : Int) * (S 1024 0)) + (2 : Int)) p4) 12 (((5 : Int) * (S 1024 0)) + (3 : Int)) (-1 : Int)) 12 (((5 : Int) * (S 1024 0)) + (4 : Int)) (-1 : Int)) 13 (S 1024 0) (-1 : Int)) := sm_upI ok21 sm_r13 (⟨by decide, by decide⟩ : sv_R (-1 : Int))
  have md24 : sv_mod [1024, 11, 12, 13, 14, 1100019] S (sv_up (sv_up (sv_up (sv_up (sv_up (sv_up (sv_up (sv_up S 1024 0 ((S 1024 0) + (1 : Int))) 11 (S 1024 0) p1) 12 ((5 : Int) * (S 1024 0)) p2) 12 (((5 : Int) * (S 1024 0)) + (1 : Int)) p3) 12 (((5 : Int) * (S 1024 0)) + (2 : Int)) p4) 12 (((5 : Int) * (S 1024 0)) + (3 : Int)) (-1 : Int)) 12 (((5 : Int) * (S 1024 0)) + (4 : Int)) (-1 : Int)) 13 (S 1024 0) (-1 : Int)) := sv_mod.up md22 (by decide)
  refine sv_aload_n hM dX12_node_91 rfl rfl ?_
  refine sv_getA hM dX12_node_92 sm_fl_52 (sm_a0 _) sm_k28 rfl ?_
  refine sv_iload hM dX12_node_95 rfl rfl ?_
  refine sv_iconst (d := (0 : Int)) hM dX12_node_97 rfl rfl ?_
  refine sv_zast sm_X hM dX12_node_98 (sm_a14 _) (by decide) o5.1 o5.2 (sv_nnZ (⟨by decide, by decide⟩ : 0 ≤ (0 : Int) ∧ (0 : Int) ≤ 1)) rfl ?_
  have ok25 : sm_ok (sv_up (sv_up (sv_up (sv_up (sv_up (sv_up (sv_up (sv_up (sv_up S 1024 0 ((S 1024 0) + (1 : Int))) 11 (S 1024 0) p1) 12 ((5 : Int) * (S 1024 0)) p2) 12 (((5 : Int) * (S 1024 0)) + (1 : Int)) p3) 12 (((5 : Int) * (S 1024 0)) + (2 : Int)) p4) 12 (((5 : Int) * (S 1024 0)) + (3 : Int)) (-1 : Int)) 12 (((5 : Int) * (S 1024 0)) + (4 : Int)) (-1 : Int)) 13 (S 1024 0) (-1 : Int)) 14 (S 1024 0) (0 : Int)) := sm_upZ ok23 sm_r14 (⟨by decide, by decide⟩ : 0 ≤ (0 : Int) ∧ (0 : Int) ≤ 1)
  have md26 : sv_mod [1024, 11, 12, 13, 14, 1100019] S (sv_up (sv_up (sv_up (sv_up (sv_up (sv_up (sv_up (sv_up (sv_up S 1024 0 ((S 1024 0) + (1 : Int))) 11 (S 1024 0) p1) 12 ((5 : Int) * (S 1024 0)) p2) 12 (((5 : Int) * (S 1024 0)) + (1 : Int)) p3) 12 (((5 : Int) * (S 1024 0)) + (2 : Int)) p4) 12 (((5 : Int) * (S 1024 0)) + (3 : Int)) (-1 : Int)) 12 (((5 : Int) * (S 1024 0)) + (4 : Int)) (-1 : Int)) 13 (S 1024 0) (-1 : Int)) 14 (S 1024 0) (0 : Int)) := sv_mod.up md24 (by decide)
  refine sv_iload hM dX12_node_99 rfl rfl ?_
  have k27 : sv_R (S 1043 0) := sm_okI ok25 sm_r1043 0
  have h := h k27
  refine sv_ghost sm_X 1100019 (S 1024 0) (S 1043 0) (by decide) ?_
  have ok28 : sm_ok (sv_up (sv_up (sv_up (sv_up (sv_up (sv_up (sv_up (sv_up (sv_up (sv_up S 1024 0 ((S 1024 0) + (1 : Int))) 11 (S 1024 0) p1) 12 ((5 : Int) * (S 1024 0)) p2) 12 (((5 : Int) * (S 1024 0)) + (1 : Int)) p3) 12 (((5 : Int) * (S 1024 0)) + (2 : Int)) p4) 12 (((5 : Int) * (S 1024 0)) + (3 : Int)) (-1 : Int)) 12 (((5 : Int) * (S 1024 0)) + (4 : Int)) (-1 : Int)) 13 (S 1024 0) (-1 : Int)) 14 (S 1024 0) (0 : Int)) 1100019 (S 1024 0) (S 1043 0)) := sm_upI ok25 sm_r1100019 k27
  have md29 : sv_mod [1024, 11, 12, 13, 14, 1100019] S (sv_up (sv_up (sv_up (sv_up (sv_up (sv_up (sv_up (sv_up (sv_up (sv_up S 1024 0 ((S 1024 0) + (1 : Int))) 11 (S 1024 0) p1) 12 ((5 : Int) * (S 1024 0)) p2) 12 (((5 : Int) * (S 1024 0)) + (1 : Int)) p3) 12 (((5 : Int) * (S 1024 0)) + (2 : Int)) p4) 12 (((5 : Int) * (S 1024 0)) + (3 : Int)) (-1 : Int)) 12 (((5 : Int) * (S 1024 0)) + (4 : Int)) (-1 : Int)) 13 (S 1024 0) (-1 : Int)) 14 (S 1024 0) (0 : Int)) 1100019 (S 1024 0) (S 1043 0)) := sv_mod.up md26 (by decide)
  exact sv_iret hM dX12_node_101 rfl rfl ⟨(S 1024 0), rfl, k1, ok28, md29, h⟩
def q_part (p1 : Int) (p2 : Int) (S : sv_S) : Option Value → sv_S → Prop := fun v S' => v = some (sv_I ((S 12 (5 * p1 + p2)))) ∧ S' = S
set_option maxHeartbeats 2000000 in
theorem f_part : ∀ (p1 : Int) (p2 : Int) (S : sv_S), sm_ok S → sv_R p1 → sv_R p2 → (0 ≤ p1 ∧ p1 < 12000 ∧ 0 ≤ p2 ∧ p2 ≤ 4) → (0 ≤ (((5 : Int) * p1) + p2) ∧ (((5 : Int) * p1) + p2) < 60000) ∧ (sv_R (S 12 (((5 : Int) * p1) + p2)) → (S 12 (((5 : Int) * p1) + p2)) = ((S 12 (5 * p1 + p2)))) := by
  intro p1 p2 S hok hp1 hp2 hpre
  repeat' (first | (with_reducible refine And.intro ?_ ?_) | (with_reducible intro _))
  all_goals first | assumption | omega | grind
set_option maxRecDepth 8000 in
set_option maxHeartbeats 2000000 in
theorem t_part : ∀ (p1 : Int) (p2 : Int) (S : sv_S), sm_ok S → sv_R p1 → sv_R p2 → (0 ≤ p1 ∧ p1 < 12000 ∧ 0 ≤ p2 ∧ p2 ≤ 4) → sv_T sm_XS sm_cs sm_L sm_sh 0 (q_part p1 p2 S) 34 0 (lv_args 0 [.ref 0, sv_I p1, sv_I p2]) [] S := by
  intro p1 p2 S hok hp1 hp2 hpre
  have h := f_part p1 p2 S hok hp1 hp2 hpre
  have hM := sm_h34
  show sv_T sm_XS sm_cs sm_L sm_sh 0 (q_part p1 p2 S) 34 0 [(0, .ref 0), (1, sv_I p1), (2, sv_I p2)] [] S
  refine sv_aload_n hM dX12_part_0 rfl rfl ?_
  refine sv_getA hM dX12_part_1 sm_fl_46 (sm_a0 _) sm_k26 rfl ?_
  refine sv_iconst (d := (5 : Int)) hM dX12_part_4 rfl rfl ?_
  refine sv_iload_n hM dX12_part_5 rfl rfl ?_
  refine sv_imul hM dX12_part_6 rfl ?_
  refine sv_iload_n hM dX12_part_7 rfl rfl ?_
  refine sv_iadd hM dX12_part_8 rfl ?_
  obtain ⟨o1, h⟩ := h
  have k2 : sv_R (S 12 (((5 : Int) * p1) + p2)) := sm_okI hok sm_r12 (((5 : Int) * p1) + p2)
  have h := h k2
  refine sv_iald hM dX12_part_9 (sm_a12 _) (by decide) o1.1 o1.2 rfl (x := (S 12 (((5 : Int) * p1) + p2))) rfl ?_
  exact sv_iret hM dX12_part_10 rfl rfl ⟨congrArg (fun z => some (sv_I z)) h, rfl⟩
def q_takeName (S : sv_S) : Option Value → sv_S → Prop := fun v S' => ∃ r : Int, v = some (sv_I r) ∧ sv_R r ∧ sm_ok S' ∧ sv_mod [1020, 1021, 1022, 5, 1011, 3, 4, 1007, 1009] S S' ∧ (0 ≤ (S' 1021 0) ∧ (0 < (S 1021 0) → 0 < (S' 1021 0)) ∧ (S 1007 0) ≤ (S' 1007 0) ∧ (S' 1007 0) ≤ 90 ∧ sm_LN (S' 4) 400 (S' 1007 0) ∧ (r = -1 ∨ (0 ≤ r ∧ r < (S' 1007 0))) ∧ ((S' 1021 0) = 0 → r = -1 → (S' 1009 0) = 1) ∧ ((S 1009 0) = 1 → (S' 1009 0) = 1) ∧ (S 1020 0) ≤ (S' 1020 0) ∧ (S' 1020 0) < (S' 1012 0) ∧ ((S' 1021 0) = 0 → (S 1021 0) = 0 ∧ (S' 1020 0) = (S 1020 0) + 1 ∧ (S' 6 (S 1020 0)) = 1) ∧ ((S 1021 0) = 0 → (S' 6 (S 1020 0)) = 1 → (S' 1021 0) = 0))
theorem la_takeName_0 {x0 x1 x2 : Int} (h0 : 0 ≤ x0) (h1 : x0 < x1) (h2 : x1 ≤ 4001) (h3 : 0 < x2) : 0 ≤ x0 ∧ x0 ≤ 4000 ∧ 0 ≤ x2 ∧ (1 : Int) ≤ 2 := by omega
theorem la_takeName_1 {x0 : Int} (h0 : 0 < x0) : 0 ≤ x0 := by omega
theorem la_takeName_2 {x0 x1 : Int} (h0 : 0 < x0) : 0 < x1 → 0 < x0 := by omega
theorem la_takeName_3 {x0 : Int} : x0 ≤ x0 := by omega
theorem la_takeName_4 {x0 : Int} : ((-1) : Int) = (-1) ∨ (0 : Int) ≤ (-1) ∧ (-1) < x0 := by omega
theorem la_takeName_5 {x0 x1 : Int} (h0 : 0 < x0) : x0 = 0 → ((-1) : Int) = (-1) → x1 = 1 := by omega
theorem la_takeName_6 {x0 : Int} : x0 = 1 → x0 = 1 := by omega
theorem la_takeName_7 {x0 x1 x2 x3 : Int} (h0 : 0 < x0) (h1 : 0 < x1) : x1 = 0 → x0 = 0 ∧ x2 = x2 + 1 ∧ x3 = 1 := by omega
theorem la_takeName_8 {x0 x1 : Int} (h0 : 0 < x0) (h1 : 0 < x1) (h2 : x0 = 0) : x1 = 0 := by omega
theorem la_takeName_9 {x0 x1 : Int} (h0 : 0 ≤ x0) (h1 : x0 < x1) (h2 : x1 ≤ 4001) : 0 ≤ x0 ∧ x0 < 4002 := by omega
theorem la_takeName_10 {x0 x1 : Int} (h0 : 0 ≤ x0) (h1 : x0 < x1) (h2 : x1 ≤ 4001) : sv_R (x0 + 1) := by omega
theorem la_takeName_11 {x0 x1 : Int} (h0 : 0 ≤ x0) (h1 : x0 < x1) (h2 : x1 ≤ 4001) : sv_R (x0 + 1 - 1) := by omega
theorem la_takeName_12 {x0 : Int} (h0 : 0 ≤ x0) : 0 ≤ x0 + 1 - 1 := by omega
theorem la_takeName_13 {x0 x1 : Int} (h0 : x0 < x1) : x0 + 1 - 1 < x1 := by omega
theorem la_takeName_14 {x0 : Int} (h0 : x0 = 1) : 1 ≤ x0 := by omega
theorem la_takeName_15 {x0 : Int} (h0 : x0 = 1) : x0 ≤ 5 := by omega
theorem la_takeName_16 {x0 : Int} : x0 = x0 + 1 - 1 := by omega
theorem la_takeName_17 {x0 x1 : Int} (h0 : x0 = 1) (h1 : x0 = x1) : 1 ≤ x1 := by omega
theorem la_takeName_18 {x0 x1 : Int} (h0 : x0 = 1) (h1 : x0 = x1) : x1 ≤ 5 := by omega
theorem la_takeName_19 {x0 x1 : Int} (h0 : x0 = 1) (h1 : x0 = x1) : x1 ≤ 4 := by omega
theorem la_takeName_20 {x0 : Int} : 0 < x0 → 0 < x0 := by omega
theorem la_takeName_21 {x0 x1 x2 x3 : Int} (h0 : x0 = (-1) ∨ 0 ≤ x0 ∧ x0 < x1) (h1 : x0 = (-1) → x2 = 1) : x3 = 0 → x0 = (-1) → x2 = 1 := by omega
theorem la_takeName_22 {x0 : Int} : x0 ≤ x0 + 1 := by omega
theorem la_takeName_23 {x0 x1 x2 : Int} (h0 : x0 = 1) : x1 = 0 → x1 = 0 ∧ x2 + 1 = x2 + 1 ∧ x0 = 1 := by omega
theorem la_takeName_24 {x0 x1 x2 : Int} (h0 : 0 ≤ x0) (h1 : x0 < x1) (h2 : x1 ≤ 4001) (h3 : 0 ≤ x2) : 0 ≤ x0 ∧ x0 ≤ 4000 ∧ 0 ≤ x2 ∧ (1 : Int) ≤ 2 := by omega
theorem la_takeName_25 {x0 x1 : Int} (h0 : ¬ 0 < x0) : 0 < x0 → 0 < x1 := by omega
theorem la_takeName_26 {x0 x1 x2 x3 : Int} (h0 : 0 ≤ x0) (h1 : ¬ 0 < x0) (h2 : 0 < x1) : x1 = 0 → x0 = 0 ∧ x2 = x2 + 1 ∧ x3 = 1 := by omega
theorem la_takeName_27 {x0 : Int} (h0 : x0 = 1) : x0 ≤ 1 := by omega
theorem la_takeName_28 {x0 : Int} (h0 : x0 ≤ 1) (h1 : ¬ x0 = 1) : x0 < 1 := by omega
theorem la_takeName_29 {x0 : Int} (h0 : x0 = 1) (h1 : x0 < 1) : 1 ≤ x0 := by omega
theorem la_takeName_30 {x0 : Int} (h0 : x0 < 1) : x0 ≤ 5 := by omega
theorem la_takeName_31 {x0 : Int} (h0 : x0 = 1) (h1 : x0 < 1) : False := by omega
set_option maxHeartbeats 2000000 in
theorem f_takeName : ∀ (S : sv_S), sm_ok S → (0 ≤ (S 1020 0) ∧ (S 1020 0) < (S 1012 0) ∧ sm_TK (S 6) (S 8) (S 9) (S 10) (S 1012 0) ∧ 0 ≤ (S 1021 0) ∧ 0 ≤ (S 1004 0) ∧ (S 1004 0) ≤ 4000 ∧ 1 ≤ (S 1007 0) ∧ (S 1007 0) ≤ 90 ∧ sm_LN (S 4) 400 (S 1007 0)) → (sv_R (S 1021 0) → ((((0 : Int) < (S 1021 0)) → (0 ≤ (S 1020 0) ∧ (S 1020 0) ≤ 4000 ∧ 0 ≤ (S 1021 0) ∧ 1 ≤ (2 : Int)) ∧ (∀ r7 : Int, sv_R r7 → ∀ g3 : sv_S, (r7 = 0 ∧ 0 < (g3 1021 0) ∧ (0 < (S 1021 0) → (g3 1021 0) = (S 1021 0))) → (0 ≤ (g3 1021 0) ∧ (0 < (S 1021 0) → 0 < (g3 1021 0)) ∧ (S 1007 0) ≤ (S 1007 0) ∧ (S 1007 0) ≤ 90 ∧ sm_LN (S 4) 400 (S 1007 0) ∧ ((-1 : Int) = -1 ∨ (0 ≤ (-1 : Int) ∧ (-1 : Int) < (S 1007 0))) ∧ ((g3 1021 0) = 0 → (-1 : Int) = -1 → (S 1009 0) = 1) ∧ ((S 1009 0) = 1 → (S 1009 0) = 1) ∧ (S 1020 0) ≤ (S 1020 0) ∧ (S 1020 0) < (S 1012 0) ∧ ((g3 1021 0) = 0 → (S 1021 0) = 0 ∧ (S 1020 0) = (S 1020 0) + 1 ∧ (S 6 (S 1020 0)) = 1) ∧ ((S 1021 0) = 0 → (S 6 (S 1020 0)) = 1 → (g3 1021 0) = 0)))) ∧ ((¬ ((0 : Int) < (S 1021 0))) → (sv_R (S 1020 0) → (0 ≤ (S 1020 0) ∧ (S 1020 0) < 4002) ∧ (sv_R (S 6 (S 1020 0)) → ((((S 6 (S 1020 0)) = (1 : Int)) → (sv_R ((S 1020 0) + (1 : Int))) ∧ (sv_R (((S 1020 0) + (1 : Int)) - (1 : Int))) ∧ (0 ≤ (S 1004 0) ∧ (S 1004 0) ≤ 4000 ∧ 1 ≤ (S 1007 0) ∧ (S 1007 0) ≤ 90 ∧ sm_LN (S 4) 400 (S 1007 0) ∧ sm_TK (S 6) (S 8) (S 9) (S 10) (S 1012 0) ∧ 0 ≤ (((S 1020 0) + (1 : Int)) - (1 : Int)) ∧ (((S 1020 0) + (1 : Int)) - (1 : Int)) < (S 1012 0) ∧ 1 ≤ (S 6 (((S 1020 0) + (1 : Int)) - (1 : Int))) ∧ (S 6 (((S 1020 0) + (1 : Int)) - (1 : Int))) ≤ 4) ∧ (∀ r21 : Int, sv_R r21 → ∀ g17 : sv_S, ((S 1007 0) ≤ (g17 1007 0) ∧ (g17 1007 0) ≤ 90 ∧ sm_LN (g17 4) 400 (g17 1007 0) ∧ (r21 = -1 ∨ (0 ≤ r21 ∧ r21 < (g17 1007 0))) ∧ (r21 = -1 → (g17 1009 0) = 1) ∧ ((S 1009 0) = 1 → (g17 1009 0) = 1)) → (0 ≤ (S 1021 0) ∧ (0 < (S 1021 0) → 0 < (S 1021 0)) ∧ (S 1007 0) ≤ (g17 1007 0) ∧ (g17 1007 0) ≤ 90 ∧ sm_LN (g17 4) 400 (g17 1007 0) ∧ (r21 = -1 ∨ (0 ≤ r21 ∧ r21 < (g17 1007 0))) ∧ ((S 1021 0) = 0 → r21 = -1 → (g17 1009 0) = 1) ∧ ((S 1009 0) = 1 → (g17 1009 0) = 1) ∧ (S 1020 0) ≤ ((S 1020 0) + (1 : Int)) ∧ ((S 1020 0) + (1 : Int)) < (S 1012 0) ∧ ((S 1021 0) = 0 → (S 1021 0) = 0 ∧ ((S 1020 0) + (1 : Int)) = (S 1020 0) + 1 ∧ (S 6 (S 1020 0)) = 1) ∧ ((S 1021 0) = 0 → (S 6 (S 1020 0)) = 1 → (S 1021 0) = 0)))) ∧ ((¬ ((S 6 (S 1020 0)) = (1 : Int))) → (0 ≤ (S 1020 0) ∧ (S 1020 0) ≤ 4000 ∧ 0 ≤ (S 1021 0) ∧ 1 ≤ (2 : Int)) ∧ (∀ r28 : Int, sv_R r28 → ∀ g24 : sv_S, (r28 = 0 ∧ 0 < (g24 1021 0) ∧ (0 < (S 1021 0) → (g24 1021 0) = (S 1021 0))) → (0 ≤ (g24 1021 0) ∧ (0 < (S 1021 0) → 0 < (g24 1021 0)) ∧ (S 1007 0) ≤ (S 1007 0) ∧ (S 1007 0) ≤ 90 ∧ sm_LN (S 4) 400 (S 1007 0) ∧ ((-1 : Int) = -1 ∨ (0 ≤ (-1 : Int) ∧ (-1 : Int) < (S 1007 0))) ∧ ((g24 1021 0) = 0 → (-1 : Int) = -1 → (S 1009 0) = 1) ∧ ((S 1009 0) = 1 → (S 1009 0) = 1) ∧ (S 1020 0) ≤ (S 1020 0) ∧ (S 1020 0) < (S 1012 0) ∧ ((g24 1021 0) = 0 → (S 1021 0) = 0 ∧ (S 1020 0) = (S 1020 0) + 1 ∧ (S 6 (S 1020 0)) = 1) ∧ ((S 1021 0) = 0 → (S 6 (S 1020 0)) = 1 → (g24 1021 0) = 0)))))))))) := by
  intro S
  intro h1_
  rintro ⟨h2_, ⟨h3_, ⟨h4_, ⟨h5_, ⟨h6_, ⟨h7_, ⟨h8_, ⟨h9_, h10_⟩⟩⟩⟩⟩⟩⟩⟩
  intro h11_
  refine ⟨?_, ?_⟩
  · skip
    intro h12_
    refine ⟨(la_takeName_0 h2_ h3_ (sm_TK_t h4_).2 h12_), ?_⟩
    intro r7
    intro h13_
    intro g3
    rintro ⟨h14_, ⟨h15_, h16_⟩⟩
    have h17_ := (h16_ h12_)
    refine ⟨(la_takeName_1 h15_), ?_⟩
    refine ⟨(la_takeName_2 h15_), ?_⟩
    refine ⟨la_takeName_3, ?_⟩
    refine ⟨h9_, ?_⟩
    refine ⟨h10_, ?_⟩
    refine ⟨la_takeName_4, ?_⟩
    refine ⟨(la_takeName_5 h15_), ?_⟩
    refine ⟨la_takeName_6, ?_⟩
    refine ⟨la_takeName_3, ?_⟩
    refine ⟨h3_, ?_⟩
    refine ⟨(la_takeName_7 h12_ h15_), ?_⟩
    intro h18_
    intro h19_
    exact (la_takeName_8 h12_ h15_ h18_)
  intro h20_
  intro h21_
  refine ⟨(la_takeName_9 h2_ h3_ (sm_TK_t h4_).2), ?_⟩
  intro h22_
  refine ⟨?_, ?_⟩
  · skip
    intro h23_
    refine ⟨(la_takeName_10 h2_ h3_ (sm_TK_t h4_).2), ?_⟩
    refine ⟨(la_takeName_11 h2_ h3_ (sm_TK_t h4_).2), ?_⟩
    refine ⟨?_, ?_⟩
    · skip
      refine ⟨h6_, ?_⟩
      refine ⟨h7_, ?_⟩
      refine ⟨h8_, ?_⟩
      refine ⟨h9_, ?_⟩
      refine ⟨h10_, ?_⟩
      refine ⟨h4_, ?_⟩
      refine ⟨(la_takeName_12 h2_), ?_⟩
      refine ⟨(la_takeName_13 h3_), ?_⟩
      refine ⟨?_, ?_⟩
      · skip
        have h24_ := ((sm_TK_go h4_ (S 1020 0) h2_ h3_) (la_takeName_14 h23_))
        have h25_ := (h24_ (la_takeName_15 h23_))
        have e26_ : S 10 (S 1020 0) = S 10 (S 1020 0 + 1 - 1) := congrArg ((S 10)) la_takeName_16
        have e27_ : S 6 (S 1020 0) = S 6 (S 1020 0 + 1 - 1) := congrArg ((S 6)) la_takeName_16
        have e28_ : S 8 (S 1020 0) = S 8 (S 1020 0 + 1 - 1) := congrArg ((S 8)) la_takeName_16
        have e29_ : S 9 (S 1020 0) = S 9 (S 1020 0 + 1 - 1) := congrArg ((S 9)) la_takeName_16
        have h30_ := ((sm_TK_go h4_ (S 1020 0 + 1 - 1) (la_takeName_12 h2_) (la_takeName_13 h3_)) (la_takeName_17 h23_ e27_))
        have h31_ := (h30_ (la_takeName_18 h23_ e27_))
        exact (la_takeName_17 h23_ e27_)
      have h32_ := ((sm_TK_go h4_ (S 1020 0) h2_ h3_) (la_takeName_14 h23_))
      have h33_ := (h32_ (la_takeName_15 h23_))
      have e34_ : S 10 (S 1020 0) = S 10 (S 1020 0 + 1 - 1) := congrArg ((S 10)) la_takeName_16
      have e35_ : S 6 (S 1020 0) = S 6 (S 1020 0 + 1 - 1) := congrArg ((S 6)) la_takeName_16
      have e36_ : S 8 (S 1020 0) = S 8 (S 1020 0 + 1 - 1) := congrArg ((S 8)) la_takeName_16
      have e37_ : S 9 (S 1020 0) = S 9 (S 1020 0 + 1 - 1) := congrArg ((S 9)) la_takeName_16
      have h38_ := ((sm_TK_go h4_ (S 1020 0 + 1 - 1) (la_takeName_12 h2_) (la_takeName_13 h3_)) (la_takeName_17 h23_ e35_))
      have h39_ := (h38_ (la_takeName_18 h23_ e35_))
      exact (la_takeName_19 h23_ e35_)
    intro r21
    intro h40_
    intro g17
    rintro ⟨h41_, ⟨h42_, ⟨h43_, ⟨h44_, ⟨h45_, h46_⟩⟩⟩⟩⟩
    refine ⟨h5_, ?_⟩
    refine ⟨la_takeName_20, ?_⟩
    refine ⟨h41_, ?_⟩
    refine ⟨h42_, ?_⟩
    refine ⟨h43_, ?_⟩
    refine ⟨h44_, ?_⟩
    refine ⟨(la_takeName_21 h44_ h45_), ?_⟩
    refine ⟨h46_, ?_⟩
    refine ⟨la_takeName_22, ?_⟩
    refine ⟨?_, ?_⟩
    · skip
      have h47_ := ((sm_TK_go h4_ (S 1020 0) h2_ h3_) (la_takeName_14 h23_))
      have h48_ := (h47_ (la_takeName_15 h23_))
      exact h48_
    refine ⟨(la_takeName_23 h23_), ?_⟩
    intro h49_
    intro h50_
    exact h49_
  intro h51_
  refine ⟨(la_takeName_24 h2_ h3_ (sm_TK_t h4_).2 h5_), ?_⟩
  intro r28
  intro h52_
  intro g24
  rintro ⟨h53_, ⟨h54_, h55_⟩⟩
  refine ⟨(la_takeName_1 h54_), ?_⟩
  refine ⟨(la_takeName_25 h20_), ?_⟩
  refine ⟨la_takeName_3, ?_⟩
  refine ⟨h9_, ?_⟩
  refine ⟨h10_, ?_⟩
  refine ⟨la_takeName_4, ?_⟩
  refine ⟨(la_takeName_5 h54_), ?_⟩
  refine ⟨la_takeName_6, ?_⟩
  refine ⟨la_takeName_3, ?_⟩
  refine ⟨h3_, ?_⟩
  refine ⟨(la_takeName_26 h5_ h20_ h54_), ?_⟩
  intro h56_
  intro h57_
  have h58_ := ((sm_TK_go h4_ (S 1020 0) h2_ h3_) (la_takeName_29 h57_ (la_takeName_28 (la_takeName_27 h57_) h51_)))
  have h59_ := (h58_ (la_takeName_30 (la_takeName_28 (la_takeName_27 h57_) h51_)))
  exact ((la_takeName_31 h57_ (la_takeName_28 (la_takeName_27 h57_) h51_))).elim
set_option maxRecDepth 8000 in
set_option maxHeartbeats 2000000 in
theorem t_takeName : ∀ (S : sv_S), sm_ok S → (0 ≤ (S 1020 0) ∧ (S 1020 0) < (S 1012 0) ∧ sm_TK (S 6) (S 8) (S 9) (S 10) (S 1012 0) ∧ 0 ≤ (S 1021 0) ∧ 0 ≤ (S 1004 0) ∧ (S 1004 0) ≤ 4000 ∧ 1 ≤ (S 1007 0) ∧ (S 1007 0) ≤ 90 ∧ sm_LN (S 4) 400 (S 1007 0)) → sv_T sm_XS sm_cs sm_L sm_sh 3 (q_takeName S) 32 0 (lv_args 0 [.ref 0]) [] S := by
  intro S hok hpre
  have h := f_takeName S hok hpre
  have hM := sm_h32
  show sv_T sm_XS sm_cs sm_L sm_sh 3 (q_takeName S) 32 0 [(0, .ref 0)] [] S
  refine sv_aload_n hM dX12_takeName_0 rfl rfl ?_
  have k1 : sv_R (S 1021 0) := sm_okI hok sm_r1021 0
  have h := h k1
  refine sv_getI hM dX12_takeName_1 sm_fl_389 (sm_a0 _) sm_k21 rfl (x := (S 1021 0)) rfl ?_
  refine sv_cond_gt hM dX12_takeName_4 k1 (t := 20) rfl rfl (fun hc => ?_) (fun hc => ?_)
  · have h := h.1 (hc)
    refine sv_aload_n hM dX12_takeName_20 rfl rfl ?_
    refine sv_iconst (d := (2 : Int)) hM dX12_takeName_21 rfl rfl ?_
    obtain ⟨o2, h⟩ := h
    refine sv_callV hM dX12_takeName_22 sm_iv_401 (by decide) (sm_a0 _) rfl rfl (Nat.le_of_ble_eq_true rfl) sm_h23 (Nat.le_of_ble_eq_true rfl) (Nat.le_of_ble_eq_true rfl) (F' := 0) (Nat.le_of_ble_eq_true rfl) rfl (t_fail (2 : Int) S hok (⟨by decide, by decide⟩ : sv_R (2 : Int)) o2) (fun v S1 hq => ?_)
    obtain ⟨r7, rfl, hr7, ok4, md5, hpo6⟩ := hq
    obtain ⟨g3, rfl⟩ : ∃ g, S1 = sv_sts S [1021, 1022] g := ⟨_, md5.eq⟩
    show sv_T sm_XS sm_cs sm_L sm_sh 3 (q_takeName S) 32 25 [(0, .ref 0)] [sv_I r7] (sv_sts S [1021, 1022] g3)
    have md8 : sv_mod [1020, 1021, 1022, 5, 1011, 3, 4, 1007, 1009] S (sv_sts S [1021, 1022] g3) := sv_mod.sts sv_mod.rf (by decide)
    have h := h r7 hr7 g3 hpo6
    refine sv_popI hM dX12_takeName_25 rfl ?_
    refine sv_iconst (d := (-1 : Int)) hM dX12_takeName_26 rfl rfl ?_
    exact sv_iret hM dX12_takeName_27 rfl rfl ⟨(-1 : Int), rfl, (⟨by decide, by decide⟩ : sv_R (-1 : Int)), ok4, md8, h⟩
  · have h := h.2 (hc)
    refine sv_aload_n hM dX12_takeName_7 rfl rfl ?_
    refine sv_getA hM dX12_takeName_8 sm_fl_27 (sm_a0 _) sm_k13 rfl ?_
    refine sv_aload_n hM dX12_takeName_11 rfl rfl ?_
    have k9 : sv_R (S 1020 0) := sm_okI hok sm_r1020 0
    have h := h k9
    refine sv_getI hM dX12_takeName_12 sm_fl_392 (sm_a0 _) sm_k20 rfl (x := (S 1020 0)) rfl ?_
    obtain ⟨o10, h⟩ := h
    have k11 : sv_R (S 6 (S 1020 0)) := sm_okI hok sm_r6 (S 1020 0)
    have h := h k11
    refine sv_iald hM dX12_takeName_15 (sm_a6 _) (by decide) o10.1 o10.2 rfl (x := (S 6 (S 1020 0))) rfl ?_
    refine sv_iconst (d := (1 : Int)) hM dX12_takeName_16 rfl rfl ?_
    refine sv_icmp_eq hM dX12_takeName_17 k11 (⟨by decide, by decide⟩ : sv_R (1 : Int)) (t := 28) rfl rfl (fun hc => ?_) (fun hc => ?_)
    · have h := h.1 (hc)
      refine sv_aload_n hM dX12_takeName_28 rfl rfl ?_
      refine sv_dupA hM dX12_takeName_29 rfl ?_
      refine sv_getI hM dX12_takeName_30 sm_fl_392 (sm_a0 _) sm_k20 rfl (x := (S 1020 0)) rfl ?_
      refine sv_iconst (d := (1 : Int)) hM dX12_takeName_33 rfl rfl ?_
      refine sv_iadd hM dX12_takeName_34 rfl ?_
      obtain ⟨o12, h⟩ := h
      refine sv_putI sm_X hM dX12_takeName_35 sm_fp_392 (sm_a0 _) sm_q20 (Or.inl rfl) rfl rfl rfl rfl ?_
      have ok13 : sm_ok (sv_up S 1020 0 ((S 1020 0) + (1 : Int))) := sm_upI hok sm_r1020 o12
      have md14 : sv_mod [1020, 1021, 1022, 5, 1011, 3, 4, 1007, 1009] S (sv_up S 1020 0 ((S 1020 0) + (1 : Int))) := sv_mod.up sv_mod.rf (by decide)
      refine sv_aload_n hM dX12_takeName_38 rfl rfl ?_
      refine sv_aload_n hM dX12_takeName_39 rfl rfl ?_
      refine sv_getI hM dX12_takeName_40 sm_fl_392 (sm_a0 _) sm_k20 rfl (x := ((S 1020 0) + (1 : Int))) rfl ?_
      refine sv_iconst (d := (1 : Int)) hM dX12_takeName_43 rfl rfl ?_
      refine sv_isub hM dX12_takeName_44 rfl ?_
      obtain ⟨o15, h⟩ := h
      obtain ⟨o16, h⟩ := h
      refine sv_callV hM dX12_takeName_45 sm_iv_418 (by decide) (sm_a0 _) rfl rfl (Nat.le_of_ble_eq_true rfl) sm_h30 (Nat.le_of_ble_eq_true rfl) (Nat.le_of_ble_eq_true rfl) (F' := 2) (Nat.le_of_ble_eq_true rfl) rfl (t_nameAt (((S 1020 0) + (1 : Int)) - (1 : Int)) (sv_up S 1020 0 ((S 1020 0) + (1 : Int))) ok13 o15 o16) (fun v S1 hq => ?_)
      obtain ⟨r21, rfl, hr21, ok18, md19, hpo20⟩ := hq
      obtain ⟨g17, rfl⟩ : ∃ g, S1 = sv_sts (sv_up S 1020 0 ((S 1020 0) + (1 : Int))) [5, 1011, 3, 4, 1007, 1009] g := ⟨_, md19.eq⟩
      show sv_T sm_XS sm_cs sm_L sm_sh 3 (q_takeName S) 32 48 [(0, .ref 0)] [sv_I r21] (sv_sts (sv_up S 1020 0 ((S 1020 0) + (1 : Int))) [5, 1011, 3, 4, 1007, 1009] g17)
      have md22 : sv_mod [1020, 1021, 1022, 5, 1011, 3, 4, 1007, 1009] S (sv_sts (sv_up S 1020 0 ((S 1020 0) + (1 : Int))) [5, 1011, 3, 4, 1007, 1009] g17) := sv_mod.sts md14 (by decide)
      have h := h r21 hr21 g17 hpo20
      exact sv_iret hM dX12_takeName_48 rfl rfl ⟨r21, rfl, hr21, ok18, md22, h⟩
    · have h := h.2 (hc)
      refine sv_aload_n hM dX12_takeName_20 rfl rfl ?_
      refine sv_iconst (d := (2 : Int)) hM dX12_takeName_21 rfl rfl ?_
      obtain ⟨o23, h⟩ := h
      refine sv_callV hM dX12_takeName_22 sm_iv_401 (by decide) (sm_a0 _) rfl rfl (Nat.le_of_ble_eq_true rfl) sm_h23 (Nat.le_of_ble_eq_true rfl) (Nat.le_of_ble_eq_true rfl) (F' := 0) (Nat.le_of_ble_eq_true rfl) rfl (t_fail (2 : Int) S hok (⟨by decide, by decide⟩ : sv_R (2 : Int)) o23) (fun v S1 hq => ?_)
      obtain ⟨r28, rfl, hr28, ok25, md26, hpo27⟩ := hq
      obtain ⟨g24, rfl⟩ : ∃ g, S1 = sv_sts S [1021, 1022] g := ⟨_, md26.eq⟩
      show sv_T sm_XS sm_cs sm_L sm_sh 3 (q_takeName S) 32 25 [(0, .ref 0)] [sv_I r28] (sv_sts S [1021, 1022] g24)
      have md29 : sv_mod [1020, 1021, 1022, 5, 1011, 3, 4, 1007, 1009] S (sv_sts S [1021, 1022] g24) := sv_mod.sts sv_mod.rf (by decide)
      have h := h r28 hr28 g24 hpo27
      refine sv_popI hM dX12_takeName_25 rfl ?_
      refine sv_iconst (d := (-1 : Int)) hM dX12_takeName_26 rfl rfl ?_
      exact sv_iret hM dX12_takeName_27 rfl rfl ⟨(-1 : Int), rfl, (⟨by decide, by decide⟩ : sv_R (-1 : Int)), ok25, md29, h⟩
def q_beginList (S : sv_S) : Option Value → sv_S → Prop := fun v S' => v = none ∧ sm_ok S' ∧ sv_mod [15, 1031] S S' ∧ ((S' 1031 0) = (S 1031 0) + 1 ∧ (S' 15 (S 1031 0)) = -1 ∧ sm_KL (S 15) (S 16) (S' 15) (S' 16) (S 1031 0))
set_option maxHeartbeats 2000000 in
theorem f_beginList : ∀ (S : sv_S), sm_ok S → (0 ≤ (S 1031 0) ∧ (S 1031 0) < 200) → (sv_R (S 1031 0) → (0 ≤ (S 1031 0) ∧ (S 1031 0) < 200) ∧ (sv_R ((S 1031 0) + (1 : Int))) ∧ (((S 1031 0) + (1 : Int)) = (S 1031 0) + 1 ∧ (if (S 1031 0) = (S 1031 0) then (-1 : Int) else (S 15 (S 1031 0))) = -1 ∧ sm_KL (S 15) (S 16) (fun i' : Int => if i' = (S 1031 0) then (-1 : Int) else (S 15) i') (S 16) (S 1031 0))) := by
  intro S hok hpre
  repeat' (first | (with_reducible refine And.intro ?_ ?_) | (with_reducible intro _))
  all_goals first | assumption | omega | grind | (intro l h0 h1; exact ⟨if_neg (by omega), rfl⟩)
set_option maxRecDepth 8000 in
set_option maxHeartbeats 2000000 in
theorem t_beginList : ∀ (S : sv_S), sm_ok S → (0 ≤ (S 1031 0) ∧ (S 1031 0) < 200) → sv_T sm_XS sm_cs sm_L sm_sh 0 (q_beginList S) 35 0 (lv_args 0 [.ref 0]) [] S := by
  intro S hok hpre
  have h := f_beginList S hok hpre
  have hM := sm_h35
  show sv_T sm_XS sm_cs sm_L sm_sh 0 (q_beginList S) 35 0 [(0, .ref 0)] [] S
  refine sv_aload_n hM dX12_beginList_0 rfl rfl ?_
  refine sv_getA hM dX12_beginList_1 sm_fl_56 (sm_a0 _) sm_k29 rfl ?_
  refine sv_aload_n hM dX12_beginList_4 rfl rfl ?_
  have k1 : sv_R (S 1031 0) := sm_okI hok sm_r1031 0
  have h := h k1
  refine sv_getI hM dX12_beginList_5 sm_fl_424 (sm_a0 _) sm_k31 rfl (x := (S 1031 0)) rfl ?_
  refine sv_iconst (d := (-1 : Int)) hM dX12_beginList_8 rfl rfl ?_
  obtain ⟨o2, h⟩ := h
  refine sv_iast sm_X hM dX12_beginList_9 (sm_a15 _) (by decide) o2.1 o2.2 rfl ?_
  have ok3 : sm_ok (sv_up S 15 (S 1031 0) (-1 : Int)) := sm_upI hok sm_r15 (⟨by decide, by decide⟩ : sv_R (-1 : Int))
  have md4 : sv_mod [15, 1031] S (sv_up S 15 (S 1031 0) (-1 : Int)) := sv_mod.up sv_mod.rf (by decide)
  refine sv_aload_n hM dX12_beginList_10 rfl rfl ?_
  refine sv_dupA hM dX12_beginList_11 rfl ?_
  refine sv_getI hM dX12_beginList_12 sm_fl_424 (sm_a0 _) sm_k31 rfl (x := (S 1031 0)) rfl ?_
  refine sv_iconst (d := (1 : Int)) hM dX12_beginList_15 rfl rfl ?_
  refine sv_iadd hM dX12_beginList_16 rfl ?_
  obtain ⟨o5, h⟩ := h
  refine sv_putI sm_X hM dX12_beginList_17 sm_fp_424 (sm_a0 _) sm_q31 (Or.inl rfl) rfl rfl rfl rfl ?_
  have ok6 : sm_ok (sv_up (sv_up S 15 (S 1031 0) (-1 : Int)) 1031 0 ((S 1031 0) + (1 : Int))) := sm_upI ok3 sm_r1031 o5
  have md7 : sv_mod [15, 1031] S (sv_up (sv_up S 15 (S 1031 0) (-1 : Int)) 1031 0 ((S 1031 0) + (1 : Int))) := sv_mod.up md4 (by decide)
  exact sv_vret hM dX12_beginList_20 rfl ⟨rfl, ok6, md7, h⟩
def q_add (p1 : Int) (S : sv_S) : Option Value → sv_S → Prop := fun v S' => v = none ∧ sm_ok S' ∧ sv_mod [15, 16, 13] S S' ∧ ((S' 16 ((S' 1031 0) - 1)) = p1 ∧ ((S 15 ((S' 1031 0) - 1)) = -1 → (S' 15 ((S' 1031 0) - 1)) = p1) ∧ (¬ (S 15 ((S' 1031 0) - 1)) = -1 → (S' 15 ((S' 1031 0) - 1)) = (S 15 ((S' 1031 0) - 1))) ∧ (sm_WF (S 11) (S 12) (S 13) (S 1100001) (S 1100002) (S 1100005) (S 1100003) (S 1100004) (S 1024 0) (S 1007 0) (S 1009 0) (sm_fn (S 1032 0) (S 21) (S 1043 0)) → ((S 15 ((S' 1031 0) - 1)) = -1 ∨ sm_lk (S 1100001) (S 1100002) (S 1100005) (S 1100003) (S 1100004) (S' 1024 0) ((S 16 ((S' 1031 0) - 1))) p1 ∨ p1 = -1) → sm_WF (S' 11) (S' 12) (S' 13) (S' 1100001) (S' 1100002) (S' 1100005) (S' 1100003) (S' 1100004) (S' 1024 0) (S' 1007 0) (S' 1009 0) (sm_fn (S' 1032 0) (S' 21) (S' 1043 0))) ∧ (sm_FT (S 11) (S 12) (S 13) (S 1100019) (S 17) (S 18) (S 21) (S 19) (S 20) (S 22) (S 1100016) (S 1024 0) (S 1007 0) (S 1009 0) (S 1032 0) (S 1032 0) → ((S 15 ((S' 1031 0) - 1)) = -1 ∨ ((S' 1100019 (S 16 ((S' 1031 0) - 1))) = (S' 1043 0) ∧ (S' 1100016 (S' 1043 0)) = 0)) → sm_FT (S' 11) (S' 12) (S' 13) (S' 1100019) (S' 17) (S' 18) (S' 21) (S' 19) (S' 20) (S' 22) (S' 1100016) (S' 1024 0) (S' 1007 0) (S' 1009 0) (S' 1032 0) (S' 1032 0)) ∧ sm_PX (S 11) (S 12) (S 13) (S 1100001) (S 1100002) (S 1100005) (S 1100003) (S 1100004) (S' 11) (S' 12) (S' 13) (S' 1100001) (S' 1100002) (S' 1100005) (S' 1100003) (S' 1100004) (if (S 15 ((S' 1031 0) - 1)) = -1 then (S' 1024 0) else (S 16 ((S' 1031 0) - 1))) ∧ sm_KL (S 15) (S 16) (S' 15) (S' 16) ((S' 1031 0) - 1))
theorem la_add_0 {x0 : Int} (h0 : 1 ≤ x0) (h1 : x0 ≤ 200) : 0 ≤ x0 - 1 ∧ x0 - 1 < 200 := by omega
theorem la_add_1 {x0 : Int} (h0 : 0 ≤ x0) (h1 : x0 < 12000) : 0 ≤ x0 ∧ x0 < 12000 := by omega
theorem la_add_2 {x0 : Int} : x0 - 1 = x0 - 1 := by omega
theorem la_add_3 {x0 x1 : Int} (h0 : ¬ x0 = (-1)) : x0 = (-1) → x0 = x1 := by omega
theorem la_add_4 {x0 : Int} : ¬ x0 = (-1) → x0 = x0 := by omega
theorem la_add_5 {x0 x1 : Int} (h0 : x0 = x1) : x0 ≤ x1 := by omega
theorem la_add_6 {x0 x1 : Int} (h0 : ¬ ¬ x0 = (-1)) : ¬ x0 = (-1) → x1 = x0 := by omega
theorem la_add_7 {x0 : Int} (h0 : ¬ ¬ x0 = (-1)) : x0 = (-1) := by omega
set_option maxHeartbeats 2000000 in
theorem f_add : ∀ (p1 : Int) (S : sv_S), sm_ok S → sv_R p1 → (1 ≤ (S 1031 0) ∧ (S 1031 0) ≤ 200 ∧ (¬ (S 15 ((S 1031 0) - 1)) = -1 → 0 ≤ (S 16 ((S 1031 0) - 1)) ∧ (S 16 ((S 1031 0) - 1)) < 12000)) → (sv_R (S 1031 0) → (0 ≤ ((S 1031 0) - (1 : Int)) ∧ ((S 1031 0) - (1 : Int)) < 200) ∧ (sv_R (S 15 ((S 1031 0) - (1 : Int))) → (((¬ (S 15 ((S 1031 0) - (1 : Int))) = (-1 : Int)) → (sv_R (S 16 ((S 1031 0) - (1 : Int))) → (0 ≤ (S 16 ((S 1031 0) - (1 : Int))) ∧ (S 16 ((S 1031 0) - (1 : Int))) < 12000) ∧ ((if ((S 1031 0) - 1) = ((S 1031 0) - (1 : Int)) then p1 else (S 16 ((S 1031 0) - 1))) = p1 ∧ ((S 15 ((S 1031 0) - 1)) = -1 → (S 15 ((S 1031 0) - 1)) = p1) ∧ (¬ (S 15 ((S 1031 0) - 1)) = -1 → (S 15 ((S 1031 0) - 1)) = (S 15 ((S 1031 0) - 1))) ∧ (sm_WF (S 11) (S 12) (S 13) (S 1100001) (S 1100002) (S 1100005) (S 1100003) (S 1100004) (S 1024 0) (S 1007 0) (S 1009 0) (sm_fn (S 1032 0) (S 21) (S 1043 0)) → ((S 15 ((S 1031 0) - 1)) = -1 ∨ sm_lk (S 1100001) (S 1100002) (S 1100005) (S 1100003) (S 1100004) (S 1024 0) ((S 16 ((S 1031 0) - 1))) p1 ∨ p1 = -1) → sm_WF (S 11) (S 12) (fun i' : Int => if i' = (S 16 ((S 1031 0) - (1 : Int))) then p1 else (S 13) i') (S 1100001) (S 1100002) (S 1100005) (S 1100003) (S 1100004) (S 1024 0) (S 1007 0) (S 1009 0) (sm_fn (S 1032 0) (S 21) (S 1043 0))) ∧ (sm_FT (S 11) (S 12) (S 13) (S 1100019) (S 17) (S 18) (S 21) (S 19) (S 20) (S 22) (S 1100016) (S 1024 0) (S 1007 0) (S 1009 0) (S 1032 0) (S 1032 0) → ((S 15 ((S 1031 0) - 1)) = -1 ∨ ((S 1100019 (S 16 ((S 1031 0) - 1))) = (S 1043 0) ∧ (S 1100016 (S 1043 0)) = 0)) → sm_FT (S 11) (S 12) (fun i' : Int => if i' = (S 16 ((S 1031 0) - (1 : Int))) then p1 else (S 13) i') (S 1100019) (S 17) (S 18) (S 21) (S 19) (S 20) (S 22) (S 1100016) (S 1024 0) (S 1007 0) (S 1009 0) (S 1032 0) (S 1032 0)) ∧ sm_PX (S 11) (S 12) (S 13) (S 1100001) (S 1100002) (S 1100005) (S 1100003) (S 1100004) (S 11) (S 12) (fun i' : Int => if i' = (S 16 ((S 1031 0) - (1 : Int))) then p1 else (S 13) i') (S 1100001) (S 1100002) (S 1100005) (S 1100003) (S 1100004) (if (S 15 ((S 1031 0) - 1)) = -1 then (S 1024 0) else (S 16 ((S 1031 0) - 1))) ∧ sm_KL (S 15) (S 16) (S 15) (fun i' : Int => if i' = ((S 1031 0) - (1 : Int)) then p1 else (S 16) i') ((S 1031 0) - 1)))) ∧ ((¬ (¬ (S 15 ((S 1031 0) - (1 : Int))) = (-1 : Int))) → ((if ((S 1031 0) - 1) = ((S 1031 0) - (1 : Int)) then p1 else (S 16 ((S 1031 0) - 1))) = p1 ∧ ((S 15 ((S 1031 0) - 1)) = -1 → (if ((S 1031 0) - 1) = ((S 1031 0) - (1 : Int)) then p1 else (S 15 ((S 1031 0) - 1))) = p1) ∧ (¬ (S 15 ((S 1031 0) - 1)) = -1 → (if ((S 1031 0) - 1) = ((S 1031 0) - (1 : Int)) then p1 else (S 15 ((S 1031 0) - 1))) = (S 15 ((S 1031 0) - 1))) ∧ (sm_WF (S 11) (S 12) (S 13) (S 1100001) (S 1100002) (S 1100005) (S 1100003) (S 1100004) (S 1024 0) (S 1007 0) (S 1009 0) (sm_fn (S 1032 0) (S 21) (S 1043 0)) → ((S 15 ((S 1031 0) - 1)) = -1 ∨ sm_lk (S 1100001) (S 1100002) (S 1100005) (S 1100003) (S 1100004) (S 1024 0) ((S 16 ((S 1031 0) - 1))) p1 ∨ p1 = -1) → sm_WF (S 11) (S 12) (S 13) (S 1100001) (S 1100002) (S 1100005) (S 1100003) (S 1100004) (S 1024 0) (S 1007 0) (S 1009 0) (sm_fn (S 1032 0) (S 21) (S 1043 0))) ∧ (sm_FT (S 11) (S 12) (S 13) (S 1100019) (S 17) (S 18) (S 21) (S 19) (S 20) (S 22) (S 1100016) (S 1024 0) (S 1007 0) (S 1009 0) (S 1032 0) (S 1032 0) → ((S 15 ((S 1031 0) - 1)) = -1 ∨ ((S 1100019 (S 16 ((S 1031 0) - 1))) = (S 1043 0) ∧ (S 1100016 (S 1043 0)) = 0)) → sm_FT (S 11) (S 12) (S 13) (S 1100019) (S 17) (S 18) (S 21) (S 19) (S 20) (S 22) (S 1100016) (S 1024 0) (S 1007 0) (S 1009 0) (S 1032 0) (S 1032 0)) ∧ sm_PX (S 11) (S 12) (S 13) (S 1100001) (S 1100002) (S 1100005) (S 1100003) (S 1100004) (S 11) (S 12) (S 13) (S 1100001) (S 1100002) (S 1100005) (S 1100003) (S 1100004) (if (S 15 ((S 1031 0) - 1)) = -1 then (S 1024 0) else (S 16 ((S 1031 0) - 1))) ∧ sm_KL (S 15) (S 16) (fun i' : Int => if i' = ((S 1031 0) - (1 : Int)) then p1 else (S 15) i') (fun i' : Int => if i' = ((S 1031 0) - (1 : Int)) then p1 else (S 16) i') ((S 1031 0) - 1)))))) := by
  intro p1
  intro S
  intro h1_
  intro h2_
  rintro ⟨h3_, ⟨h4_, h5_⟩⟩
  intro h6_
  refine ⟨(la_add_0 h3_ h4_), ?_⟩
  intro h7_
  refine ⟨?_, ?_⟩
  · skip
    intro h8_
    obtain ⟨h9_, h10_⟩ := (h5_ h8_)
    intro h11_
    refine ⟨(la_add_1 h9_ h10_), ?_⟩
    refine ⟨?_, ?_⟩
    · skip
      have e12_ : (if S 1031 0 - 1 = S 1031 0 - 1 then p1 else S 16 (S 1031 0 - 1) : Int) = p1 := if_pos la_add_2
      exact e12_
    refine ⟨(la_add_3 h8_), ?_⟩
    refine ⟨la_add_4, ?_⟩
    refine ⟨?_, ?_⟩
    · skip
      intro h13_
      intro h14_
      have h15_ := (h14_.resolve_left h8_)
      exact (sm_WF_addn (f := 0) h13_ (by decide) (Or.inr h15_))
    refine ⟨?_, ?_⟩
    · skip
      intro h16_
      intro h17_
      obtain ⟨h18_, h19_⟩ := (h17_.resolve_left h8_)
      exact (sm_FT_ns (sm_FT_ug_ne h16_ h18_ h19_) (Int.le_refl _) (Int.le_refl _) id (Int.le_refl _) (Int.le_refl _))
    refine ⟨?_, ?_⟩
    · skip
      have e20_ : (if S 15 (S 1031 0 - 1) = (-1) then S 1024 0 else S 16 (S 1031 0 - 1) : Int) = S 16 (S 1031 0 - 1) := if_neg h8_
      exact (sm_PX_up_ne sm_PX_rf (la_add_5 e20_))
    exact (sm_KL_up_l sm_KL_rf (Int.le_refl _))
  intro h21_
  refine ⟨?_, ?_⟩
  · skip
    have e22_ : (if S 1031 0 - 1 = S 1031 0 - 1 then p1 else S 16 (S 1031 0 - 1) : Int) = p1 := if_pos la_add_2
    exact e22_
  refine ⟨?_, ?_⟩
  · skip
    intro h23_
    have e24_ : (if S 1031 0 - 1 = S 1031 0 - 1 then p1 else S 15 (S 1031 0 - 1) : Int) = p1 := if_pos la_add_2
    exact e24_
  refine ⟨(la_add_6 h21_), ?_⟩
  refine ⟨?_, ?_⟩
  · skip
    intro h25_
    intro h26_
    exact h25_
  refine ⟨?_, ?_⟩
  · skip
    intro h27_
    intro h28_
    exact h27_
  refine ⟨sm_PX_rf, ?_⟩
  exact (sm_KL_up_l (sm_KL_up_f sm_KL_rf (Int.le_refl _)) (Int.le_refl _))
set_option maxRecDepth 8000 in
set_option maxHeartbeats 2000000 in
theorem t_add : ∀ (p1 : Int) (S : sv_S), sm_ok S → sv_R p1 → (1 ≤ (S 1031 0) ∧ (S 1031 0) ≤ 200 ∧ (¬ (S 15 ((S 1031 0) - 1)) = -1 → 0 ≤ (S 16 ((S 1031 0) - 1)) ∧ (S 16 ((S 1031 0) - 1)) < 12000)) → sv_T sm_XS sm_cs sm_L sm_sh 0 (q_add p1 S) 36 0 (lv_args 0 [.ref 0, sv_I p1]) [] S := by
  intro p1 S hok hp1 hpre
  have h := f_add p1 S hok hp1 hpre
  have hM := sm_h36
  show sv_T sm_XS sm_cs sm_L sm_sh 0 (q_add p1 S) 36 0 [(0, .ref 0), (1, sv_I p1)] [] S
  refine sv_aload_n hM dX12_add_0 rfl rfl ?_
  have k1 : sv_R (S 1031 0) := sm_okI hok sm_r1031 0
  have h := h k1
  refine sv_getI hM dX12_add_1 sm_fl_424 (sm_a0 _) sm_k31 rfl (x := (S 1031 0)) rfl ?_
  refine sv_iconst (d := (1 : Int)) hM dX12_add_4 rfl rfl ?_
  refine sv_isub hM dX12_add_5 rfl ?_
  refine sv_istore_n hM dX12_add_6 (by decide) rfl ?_
  show sv_T sm_XS sm_cs sm_L sm_sh 0 (q_add p1 S) 36 7 [(0, .ref 0), (1, sv_I p1), (2, sv_I ((S 1031 0) - (1 : Int)))] [] S
  refine sv_aload_n hM dX12_add_7 rfl rfl ?_
  refine sv_getA hM dX12_add_8 sm_fl_56 (sm_a0 _) sm_k29 rfl ?_
  refine sv_iload_n hM dX12_add_11 rfl rfl ?_
  obtain ⟨o2, h⟩ := h
  have k3 : sv_R (S 15 ((S 1031 0) - (1 : Int))) := sm_okI hok sm_r15 ((S 1031 0) - (1 : Int))
  have h := h k3
  refine sv_iald hM dX12_add_12 (sm_a15 _) (by decide) o2.1 o2.2 rfl (x := (S 15 ((S 1031 0) - (1 : Int)))) rfl ?_
  refine sv_iconst (d := (-1 : Int)) hM dX12_add_13 rfl rfl ?_
  refine sv_icmp_ne hM dX12_add_14 k3 (⟨by decide, by decide⟩ : sv_R (-1 : Int)) (t := 27) rfl rfl (fun hc => ?_) (fun hc => ?_)
  · have h := h.1 (hc)
    refine sv_aload_n hM dX12_add_27 rfl rfl ?_
    refine sv_getA hM dX12_add_28 sm_fl_49 (sm_a0 _) sm_k27 rfl ?_
    refine sv_aload_n hM dX12_add_31 rfl rfl ?_
    refine sv_getA hM dX12_add_32 sm_fl_59 (sm_a0 _) sm_k30 rfl ?_
    refine sv_iload_n hM dX12_add_35 rfl rfl ?_
    have k4 : sv_R (S 16 ((S 1031 0) - (1 : Int))) := sm_okI hok sm_r16 ((S 1031 0) - (1 : Int))
    have h := h k4
    refine sv_iald hM dX12_add_36 (sm_a16 _) (by decide) o2.1 o2.2 rfl (x := (S 16 ((S 1031 0) - (1 : Int)))) rfl ?_
    refine sv_iload_n hM dX12_add_37 rfl rfl ?_
    obtain ⟨o5, h⟩ := h
    refine sv_iast sm_X hM dX12_add_38 (sm_a13 _) (by decide) o5.1 o5.2 rfl ?_
    have ok6 : sm_ok (sv_up S 13 (S 16 ((S 1031 0) - (1 : Int))) p1) := sm_upI hok sm_r13 hp1
    have md7 : sv_mod [15, 16, 13] S (sv_up S 13 (S 16 ((S 1031 0) - (1 : Int))) p1) := sv_mod.up sv_mod.rf (by decide)
    refine sv_aload_n hM dX12_add_39 rfl rfl ?_
    refine sv_getA hM dX12_add_40 sm_fl_59 (sm_a0 _) sm_k30 rfl ?_
    refine sv_iload_n hM dX12_add_43 rfl rfl ?_
    refine sv_iload_n hM dX12_add_44 rfl rfl ?_
    refine sv_iast sm_X hM dX12_add_45 (sm_a16 _) (by decide) o2.1 o2.2 rfl ?_
    have ok8 : sm_ok (sv_up (sv_up S 13 (S 16 ((S 1031 0) - (1 : Int))) p1) 16 ((S 1031 0) - (1 : Int)) p1) := sm_upI ok6 sm_r16 hp1
    have md9 : sv_mod [15, 16, 13] S (sv_up (sv_up S 13 (S 16 ((S 1031 0) - (1 : Int))) p1) 16 ((S 1031 0) - (1 : Int)) p1) := sv_mod.up md7 (by decide)
    exact sv_vret hM dX12_add_46 rfl ⟨rfl, ok8, md9, h⟩
  · have h := h.2 (hc)
    refine sv_aload_n hM dX12_add_17 rfl rfl ?_
    refine sv_getA hM dX12_add_18 sm_fl_56 (sm_a0 _) sm_k29 rfl ?_
    refine sv_iload_n hM dX12_add_21 rfl rfl ?_
    refine sv_iload_n hM dX12_add_22 rfl rfl ?_
    refine sv_iast sm_X hM dX12_add_23 (sm_a15 _) (by decide) o2.1 o2.2 rfl ?_
    have ok10 : sm_ok (sv_up S 15 ((S 1031 0) - (1 : Int)) p1) := sm_upI hok sm_r15 hp1
    have md11 : sv_mod [15, 16, 13] S (sv_up S 15 ((S 1031 0) - (1 : Int)) p1) := sv_mod.up sv_mod.rf (by decide)
    refine sv_goto hM dX12_add_24 (pc' := 39) rfl ?_
    refine sv_aload_n hM dX12_add_39 rfl rfl ?_
    refine sv_getA hM dX12_add_40 sm_fl_59 (sm_a0 _) sm_k30 rfl ?_
    refine sv_iload_n hM dX12_add_43 rfl rfl ?_
    refine sv_iload_n hM dX12_add_44 rfl rfl ?_
    refine sv_iast sm_X hM dX12_add_45 (sm_a16 _) (by decide) o2.1 o2.2 rfl ?_
    have ok12 : sm_ok (sv_up (sv_up S 15 ((S 1031 0) - (1 : Int)) p1) 16 ((S 1031 0) - (1 : Int)) p1) := sm_upI ok10 sm_r16 hp1
    have md13 : sv_mod [15, 16, 13] S (sv_up (sv_up S 15 ((S 1031 0) - (1 : Int)) p1) 16 ((S 1031 0) - (1 : Int)) p1) := sv_mod.up md11 (by decide)
    exact sv_vret hM dX12_add_46 rfl ⟨rfl, ok12, md13, h⟩
def q_ended (S : sv_S) : Option Value → sv_S → Prop := fun v S' => ∃ r : Int, v = some (sv_I r) ∧ sv_R r ∧ sm_ok S' ∧ sv_mod [1031] S S' ∧ ((S' 1031 0) = (S 1031 0) - 1 ∧ r = (S' 15 (S' 1031 0)))
set_option maxHeartbeats 2000000 in
theorem f_ended : ∀ (S : sv_S), sm_ok S → (1 ≤ (S 1031 0) ∧ (S 1031 0) ≤ 200) → (sv_R (S 1031 0) → (sv_R ((S 1031 0) - (1 : Int))) ∧ (0 ≤ ((S 1031 0) - (1 : Int)) ∧ ((S 1031 0) - (1 : Int)) < 200) ∧ (sv_R (S 15 ((S 1031 0) - (1 : Int))) → (((S 1031 0) - (1 : Int)) = (S 1031 0) - 1 ∧ (S 15 ((S 1031 0) - (1 : Int))) = (S 15 ((S 1031 0) - (1 : Int)))))) := by
  intro S hok hpre
  repeat' (first | (with_reducible refine And.intro ?_ ?_) | (with_reducible intro _))
  all_goals first | assumption | omega | grind
set_option maxRecDepth 8000 in
set_option maxHeartbeats 2000000 in
theorem t_ended : ∀ (S : sv_S), sm_ok S → (1 ≤ (S 1031 0) ∧ (S 1031 0) ≤ 200) → sv_T sm_XS sm_cs sm_L sm_sh 0 (q_ended S) 37 0 (lv_args 0 [.ref 0]) [] S := by
  intro S hok hpre
  have h := f_ended S hok hpre
  have hM := sm_h37
  show sv_T sm_XS sm_cs sm_L sm_sh 0 (q_ended S) 37 0 [(0, .ref 0)] [] S
  refine sv_aload_n hM dX12_ended_0 rfl rfl ?_
  refine sv_dupA hM dX12_ended_1 rfl ?_
  have k1 : sv_R (S 1031 0) := sm_okI hok sm_r1031 0
  have h := h k1
  refine sv_getI hM dX12_ended_2 sm_fl_424 (sm_a0 _) sm_k31 rfl (x := (S 1031 0)) rfl ?_
  refine sv_iconst (d := (1 : Int)) hM dX12_ended_5 rfl rfl ?_
  refine sv_isub hM dX12_ended_6 rfl ?_
  obtain ⟨o2, h⟩ := h
  refine sv_putI sm_X hM dX12_ended_7 sm_fp_424 (sm_a0 _) sm_q31 (Or.inl rfl) rfl rfl rfl rfl ?_
  have ok3 : sm_ok (sv_up S 1031 0 ((S 1031 0) - (1 : Int))) := sm_upI hok sm_r1031 o2
  have md4 : sv_mod [1031] S (sv_up S 1031 0 ((S 1031 0) - (1 : Int))) := sv_mod.up sv_mod.rf (by decide)
  refine sv_aload_n hM dX12_ended_10 rfl rfl ?_
  refine sv_getA hM dX12_ended_11 sm_fl_56 (sm_a0 _) sm_k29 rfl ?_
  refine sv_aload_n hM dX12_ended_14 rfl rfl ?_
  refine sv_getI hM dX12_ended_15 sm_fl_424 (sm_a0 _) sm_k31 rfl (x := ((S 1031 0) - (1 : Int))) rfl ?_
  obtain ⟨o5, h⟩ := h
  have k6 : sv_R (S 15 ((S 1031 0) - (1 : Int))) := sm_okI ok3 sm_r15 ((S 1031 0) - (1 : Int))
  have h := h k6
  refine sv_iald hM dX12_ended_18 (sm_a15 _) (by decide) o5.1 o5.2 rfl (x := (S 15 ((S 1031 0) - (1 : Int)))) rfl ?_
  exact sv_iret hM dX12_ended_19 rfl rfl ⟨(S 15 ((S 1031 0) - (1 : Int))), rfl, k6, ok3, md4, h⟩
def q_isTarget (p1 : Int) (S : sv_S) : Option Value → sv_S → Prop := fun v S' => ∃ r : Int, v = some (sv_I r) ∧ sv_R r ∧ sm_ok S' ∧ sv_mod [] S S' ∧ ((r = 0 ∨ r = 1) ∧ (r = 1 → 0 ≤ p1 ∧ (S' 14 p1) = 0 ∧ ((S' 11 p1) = 2 ∨ (S' 11 p1) = 7)))
set_option maxHeartbeats 2000000 in
theorem f_isTarget : ∀ (p1 : Int) (S : sv_S), sm_ok S → sv_R p1 → (-1 ≤ p1 ∧ p1 < 12000) → (((p1 = (-1 : Int)) → (((0 : Int) = 0 ∨ (0 : Int) = 1) ∧ ((0 : Int) = 1 → 0 ≤ p1 ∧ (S 14 p1) = 0 ∧ ((S 11 p1) = 2 ∨ (S 11 p1) = 7)))) ∧ ((¬ (p1 = (-1 : Int))) → (0 ≤ p1 ∧ p1 < 12000) ∧ ((0 ≤ (S 14 p1) ∧ (S 14 p1) ≤ 1) → (((¬ (S 14 p1) = (0 : Int)) → (((0 : Int) = 0 ∨ (0 : Int) = 1) ∧ ((0 : Int) = 1 → 0 ≤ p1 ∧ (S 14 p1) = 0 ∧ ((S 11 p1) = 2 ∨ (S 11 p1) = 7)))) ∧ ((¬ (¬ (S 14 p1) = (0 : Int))) → (sv_R (S 11 p1) → ((((S 11 p1) = (2 : Int)) → (((1 : Int) = 0 ∨ (1 : Int) = 1) ∧ ((1 : Int) = 1 → 0 ≤ p1 ∧ (S 14 p1) = 0 ∧ ((S 11 p1) = 2 ∨ (S 11 p1) = 7)))) ∧ ((¬ ((S 11 p1) = (2 : Int))) → (((¬ (S 11 p1) = (7 : Int)) → (((0 : Int) = 0 ∨ (0 : Int) = 1) ∧ ((0 : Int) = 1 → 0 ≤ p1 ∧ (S 14 p1) = 0 ∧ ((S 11 p1) = 2 ∨ (S 11 p1) = 7)))) ∧ ((¬ (¬ (S 11 p1) = (7 : Int))) → (((1 : Int) = 0 ∨ (1 : Int) = 1) ∧ ((1 : Int) = 1 → 0 ≤ p1 ∧ (S 14 p1) = 0 ∧ ((S 11 p1) = 2 ∨ (S 11 p1) = 7))))))))))))) := by
  intro p1 S hok hp1 hpre
  repeat' (first | (with_reducible refine And.intro ?_ ?_) | (with_reducible intro _))
  all_goals first | assumption | omega | grind
set_option maxRecDepth 8000 in
set_option maxHeartbeats 2000000 in
theorem t_isTarget : ∀ (p1 : Int) (S : sv_S), sm_ok S → sv_R p1 → (-1 ≤ p1 ∧ p1 < 12000) → sv_T sm_XS sm_cs sm_L sm_sh 0 (q_isTarget p1 S) 44 0 (lv_args 0 [.ref 0, sv_I p1]) [] S := by
  intro p1 S hok hp1 hpre
  have h := f_isTarget p1 S hok hp1 hpre
  have hM := sm_h44
  show sv_T sm_XS sm_cs sm_L sm_sh 0 (q_isTarget p1 S) 44 0 [(0, .ref 0), (1, sv_I p1)] [] S
  refine sv_iload_n hM dX12_isTarget_0 rfl rfl ?_
  refine sv_iconst (d := (-1 : Int)) hM dX12_isTarget_1 rfl rfl ?_
  refine sv_icmp_eq hM dX12_isTarget_2 hp1 (⟨by decide, by decide⟩ : sv_R (-1 : Int)) (t := 39) rfl rfl (fun hc => ?_) (fun hc => ?_)
  · have h := h.1 (hc)
    refine sv_iconst (d := (0 : Int)) hM dX12_isTarget_39 rfl rfl ?_
    exact sv_iret hM dX12_isTarget_40 rfl (sv_nz (⟨by decide, by decide⟩ : 0 ≤ (0 : Int) ∧ (0 : Int) ≤ 1)) ⟨(0 : Int), rfl, sv_R01 (⟨by decide, by decide⟩ : 0 ≤ (0 : Int) ∧ (0 : Int) ≤ 1), hok, sv_mod.rf, h⟩
  · have h := h.2 (hc)
    refine sv_aload_n hM dX12_isTarget_5 rfl rfl ?_
    refine sv_getA hM dX12_isTarget_6 sm_fl_52 (sm_a0 _) sm_k28 rfl ?_
    refine sv_iload_n hM dX12_isTarget_9 rfl rfl ?_
    obtain ⟨o1, h⟩ := h
    have k2 : (0 ≤ (S 14 p1) ∧ (S 14 p1) ≤ 1) := sm_okZ hok sm_r14 p1
    have h := h k2
    refine sv_zald hM dX12_isTarget_10 (sm_a14 _) (by decide) o1.1 o1.2 rfl (x := (S 14 p1)) rfl ?_
    refine sv_cond_ne hM dX12_isTarget_11 (sv_R01 k2) (t := 39) rfl rfl (fun hc => ?_) (fun hc => ?_)
    · have h := h.1 (hc)
      refine sv_iconst (d := (0 : Int)) hM dX12_isTarget_39 rfl rfl ?_
      exact sv_iret hM dX12_isTarget_40 rfl (sv_nz (⟨by decide, by decide⟩ : 0 ≤ (0 : Int) ∧ (0 : Int) ≤ 1)) ⟨(0 : Int), rfl, sv_R01 (⟨by decide, by decide⟩ : 0 ≤ (0 : Int) ∧ (0 : Int) ≤ 1), hok, sv_mod.rf, h⟩
    · have h := h.2 (hc)
      refine sv_aload_n hM dX12_isTarget_14 rfl rfl ?_
      refine sv_getA hM dX12_isTarget_15 sm_fl_42 (sm_a0 _) sm_k25 rfl ?_
      refine sv_iload_n hM dX12_isTarget_18 rfl rfl ?_
      have k3 : sv_R (S 11 p1) := sm_okI hok sm_r11 p1
      have h := h k3
      refine sv_iald hM dX12_isTarget_19 (sm_a11 _) (by decide) o1.1 o1.2 rfl (x := (S 11 p1)) rfl ?_
      refine sv_iconst (d := (2 : Int)) hM dX12_isTarget_20 rfl rfl ?_
      refine sv_icmp_eq hM dX12_isTarget_21 k3 (⟨by decide, by decide⟩ : sv_R (2 : Int)) (t := 35) rfl rfl (fun hc => ?_) (fun hc => ?_)
      · have h := h.1 (hc)
        refine sv_iconst (d := (1 : Int)) hM dX12_isTarget_35 rfl rfl ?_
        refine sv_goto hM dX12_isTarget_36 (pc' := 40) rfl ?_
        exact sv_iret hM dX12_isTarget_40 rfl (sv_nz (⟨by decide, by decide⟩ : 0 ≤ (1 : Int) ∧ (1 : Int) ≤ 1)) ⟨(1 : Int), rfl, sv_R01 (⟨by decide, by decide⟩ : 0 ≤ (1 : Int) ∧ (1 : Int) ≤ 1), hok, sv_mod.rf, h⟩
      · have h := h.2 (hc)
        refine sv_aload_n hM dX12_isTarget_24 rfl rfl ?_
        refine sv_getA hM dX12_isTarget_25 sm_fl_42 (sm_a0 _) sm_k25 rfl ?_
        refine sv_iload_n hM dX12_isTarget_28 rfl rfl ?_
        refine sv_iald hM dX12_isTarget_29 (sm_a11 _) (by decide) o1.1 o1.2 rfl (x := (S 11 p1)) rfl ?_
        refine sv_bipush (d := (7 : Int)) hM dX12_isTarget_30 rfl rfl ?_
        refine sv_icmp_ne hM dX12_isTarget_32 k3 (⟨by decide, by decide⟩ : sv_R (7 : Int)) (t := 39) rfl rfl (fun hc => ?_) (fun hc => ?_)
        · have h := h.1 (hc)
          refine sv_iconst (d := (0 : Int)) hM dX12_isTarget_39 rfl rfl ?_
          exact sv_iret hM dX12_isTarget_40 rfl (sv_nz (⟨by decide, by decide⟩ : 0 ≤ (0 : Int) ∧ (0 : Int) ≤ 1)) ⟨(0 : Int), rfl, sv_R01 (⟨by decide, by decide⟩ : 0 ≤ (0 : Int) ∧ (0 : Int) ≤ 1), hok, sv_mod.rf, h⟩
        · have h := h.2 (hc)
          refine sv_iconst (d := (1 : Int)) hM dX12_isTarget_35 rfl rfl ?_
          refine sv_goto hM dX12_isTarget_36 (pc' := 40) rfl ?_
          exact sv_iret hM dX12_isTarget_40 rfl (sv_nz (⟨by decide, by decide⟩ : 0 ≤ (1 : Int) ∧ (1 : Int) ≤ 1)) ⟨(1 : Int), rfl, sv_R01 (⟨by decide, by decide⟩ : 0 ≤ (1 : Int) ∧ (1 : Int) ≤ 1), hok, sv_mod.rf, h⟩
def q_settingOf (S : sv_S) : Option Value → sv_S → Prop := fun v S' => ∃ r : Int, v = some (sv_I r) ∧ sv_R r ∧ sm_ok S' ∧ sv_mod [] S S' ∧ (-1 ≤ r ∧ (r ≤ 10 ∨ r = 99) ∧ (¬ r = -1 → (S' 6 (S' 1020 0)) = 5))
set_option maxHeartbeats 2000000 in
theorem f_settingOf : ∀ (S : sv_S), sm_ok S → (0 ≤ (S 1020 0) ∧ (S 1020 0) ≤ 4000) → (sv_R (S 1020 0) → (0 ≤ (S 1020 0) ∧ (S 1020 0) < 4002) ∧ (sv_R (S 6 (S 1020 0)) → ((((S 6 (S 1020 0)) = (5 : Int)) → (sv_R (S 7 (S 1020 0)) → ((((S 7 (S 1020 0)) < (0 : Int) ∨ (47 : Int) < (S 7 (S 1020 0)) ∨ (S 7 (S 1020 0)) = (3 : Int) ∨ (S 7 (S 1020 0)) = (4 : Int) ∨ (S 7 (S 1020 0)) = (5 : Int) ∨ (S 7 (S 1020 0)) = (6 : Int) ∨ (S 7 (S 1020 0)) = (7 : Int) ∨ (S 7 (S 1020 0)) = (8 : Int) ∨ (S 7 (S 1020 0)) = (9 : Int) ∨ (S 7 (S 1020 0)) = (10 : Int) ∨ (S 7 (S 1020 0)) = (11 : Int) ∨ (S 7 (S 1020 0)) = (12 : Int) ∨ (S 7 (S 1020 0)) = (13 : Int) ∨ (S 7 (S 1020 0)) = (14 : Int) ∨ (S 7 (S 1020 0)) = (15 : Int) ∨ (S 7 (S 1020 0)) = (24 : Int) ∨ (S 7 (S 1020 0)) = (25 : Int) ∨ (S 7 (S 1020 0)) = (26 : Int) ∨ (S 7 (S 1020 0)) = (27 : Int) ∨ (S 7 (S 1020 0)) = (28 : Int) ∨ (S 7 (S 1020 0)) = (29 : Int) ∨ (S 7 (S 1020 0)) = (30 : Int) ∨ (S 7 (S 1020 0)) = (31 : Int) ∨ (S 7 (S 1020 0)) = (32 : Int) ∨ (S 7 (S 1020 0)) = (33 : Int) ∨ (S 7 (S 1020 0)) = (34 : Int) ∨ (S 7 (S 1020 0)) = (35 : Int) ∨ (S 7 (S 1020 0)) = (36 : Int) ∨ (S 7 (S 1020 0)) = (37 : Int) ∨ (S 7 (S 1020 0)) = (38 : Int) ∨ (S 7 (S 1020 0)) = (39 : Int) ∨ (S 7 (S 1020 0)) = (40 : Int) ∨ (S 7 (S 1020 0)) = (41 : Int) ∨ (S 7 (S 1020 0)) = (42 : Int) ∨ (S 7 (S 1020 0)) = (43 : Int) ∨ (S 7 (S 1020 0)) = (44 : Int) ∨ (S 7 (S 1020 0)) = (45 : Int) ∨ (S 7 (S 1020 0)) = (46 : Int)) → (-1 ≤ (-1 : Int) ∧ ((-1 : Int) ≤ 10 ∨ (-1 : Int) = 99) ∧ (¬ (-1 : Int) = -1 → (S 6 (S 1020 0)) = 5))) ∧ (((S 7 (S 1020 0)) = (47 : Int)) → (-1 ≤ (99 : Int) ∧ ((99 : Int) ≤ 10 ∨ (99 : Int) = 99) ∧ (¬ (99 : Int) = -1 → (S 6 (S 1020 0)) = 5))) ∧ (((S 7 (S 1020 0)) = (16 : Int)) → (-1 ≤ (0 : Int) ∧ ((0 : Int) ≤ 10 ∨ (0 : Int) = 99) ∧ (¬ (0 : Int) = -1 → (S 6 (S 1020 0)) = 5))) ∧ (((S 7 (S 1020 0)) = (17 : Int)) → (-1 ≤ (1 : Int) ∧ ((1 : Int) ≤ 10 ∨ (1 : Int) = 99) ∧ (¬ (1 : Int) = -1 → (S 6 (S 1020 0)) = 5))) ∧ (((S 7 (S 1020 0)) = (18 : Int)) → (-1 ≤ (2 : Int) ∧ ((2 : Int) ≤ 10 ∨ (2 : Int) = 99) ∧ (¬ (2 : Int) = -1 → (S 6 (S 1020 0)) = 5))) ∧ (((S 7 (S 1020 0)) = (19 : Int)) → (-1 ≤ (3 : Int) ∧ ((3 : Int) ≤ 10 ∨ (3 : Int) = 99) ∧ (¬ (3 : Int) = -1 → (S 6 (S 1020 0)) = 5))) ∧ (((S 7 (S 1020 0)) = (20 : Int)) → (-1 ≤ (4 : Int) ∧ ((4 : Int) ≤ 10 ∨ (4 : Int) = 99) ∧ (¬ (4 : Int) = -1 → (S 6 (S 1020 0)) = 5))) ∧ (((S 7 (S 1020 0)) = (1 : Int)) → (-1 ≤ (5 : Int) ∧ ((5 : Int) ≤ 10 ∨ (5 : Int) = 99) ∧ (¬ (5 : Int) = -1 → (S 6 (S 1020 0)) = 5))) ∧ (((S 7 (S 1020 0)) = (2 : Int)) → (-1 ≤ (6 : Int) ∧ ((6 : Int) ≤ 10 ∨ (6 : Int) = 99) ∧ (¬ (6 : Int) = -1 → (S 6 (S 1020 0)) = 5))) ∧ (((S 7 (S 1020 0)) = (0 : Int)) → (-1 ≤ (7 : Int) ∧ ((7 : Int) ≤ 10 ∨ (7 : Int) = 99) ∧ (¬ (7 : Int) = -1 → (S 6 (S 1020 0)) = 5))) ∧ (((S 7 (S 1020 0)) = (21 : Int)) → (-1 ≤ (8 : Int) ∧ ((8 : Int) ≤ 10 ∨ (8 : Int) = 99) ∧ (¬ (8 : Int) = -1 → (S 6 (S 1020 0)) = 5))) ∧ (((S 7 (S 1020 0)) = (22 : Int)) → (-1 ≤ (9 : Int) ∧ ((9 : Int) ≤ 10 ∨ (9 : Int) = 99) ∧ (¬ (9 : Int) = -1 → (S 6 (S 1020 0)) = 5))) ∧ (((S 7 (S 1020 0)) = (23 : Int)) → (-1 ≤ (10 : Int) ∧ ((10 : Int) ≤ 10 ∨ (10 : Int) = 99) ∧ (¬ (10 : Int) = -1 → (S 6 (S 1020 0)) = 5)))))) ∧ ((¬ ((S 6 (S 1020 0)) = (5 : Int))) → (-1 ≤ (-1 : Int) ∧ ((-1 : Int) ≤ 10 ∨ (-1 : Int) = 99) ∧ (¬ (-1 : Int) = -1 → (S 6 (S 1020 0)) = 5)))))) := by
  intro S hok hpre
  repeat' (first | (with_reducible refine And.intro ?_ ?_) | (with_reducible intro _))
  all_goals first | assumption | omega | grind
set_option maxRecDepth 8000 in
set_option maxHeartbeats 2000000 in
theorem t_settingOf : ∀ (S : sv_S), sm_ok S → (0 ≤ (S 1020 0) ∧ (S 1020 0) ≤ 4000) → sv_T sm_XS sm_cs sm_L sm_sh 0 (q_settingOf S) 45 0 (lv_args 0 [.ref 0]) [] S := by
  intro S hok hpre
  have h := f_settingOf S hok hpre
  have hM := sm_h45
  show sv_T sm_XS sm_cs sm_L sm_sh 0 (q_settingOf S) 45 0 [(0, .ref 0)] [] S
  refine sv_aload_n hM dX12_settingOf_0 rfl rfl ?_
  refine sv_getA hM dX12_settingOf_1 sm_fl_27 (sm_a0 _) sm_k13 rfl ?_
  refine sv_aload_n hM dX12_settingOf_4 rfl rfl ?_
  have k1 : sv_R (S 1020 0) := sm_okI hok sm_r1020 0
  have h := h k1
  refine sv_getI hM dX12_settingOf_5 sm_fl_392 (sm_a0 _) sm_k20 rfl (x := (S 1020 0)) rfl ?_
  obtain ⟨o2, h⟩ := h
  have k3 : sv_R (S 6 (S 1020 0)) := sm_okI hok sm_r6 (S 1020 0)
  have h := h k3
  refine sv_iald hM dX12_settingOf_8 (sm_a6 _) (by decide) o2.1 o2.2 rfl (x := (S 6 (S 1020 0))) rfl ?_
  refine sv_iconst (d := (5 : Int)) hM dX12_settingOf_9 rfl rfl ?_
  refine sv_icmp_eq hM dX12_settingOf_10 k3 (⟨by decide, by decide⟩ : sv_R (5 : Int)) (t := 15) rfl rfl (fun hc => ?_) (fun hc => ?_)
  · have h := h.1 (hc)
    refine sv_aload_n hM dX12_settingOf_15 rfl rfl ?_
    refine sv_getA hM dX12_settingOf_16 sm_fl_30 (sm_a0 _) sm_k14 rfl ?_
    refine sv_aload_n hM dX12_settingOf_19 rfl rfl ?_
    refine sv_getI hM dX12_settingOf_20 sm_fl_392 (sm_a0 _) sm_k20 rfl (x := (S 1020 0)) rfl ?_
    have k4 : sv_R (S 7 (S 1020 0)) := sm_okI hok sm_r7 (S 1020 0)
    have h := h k4
    refine sv_iald hM dX12_settingOf_23 (sm_a7 _) (by decide) o2.1 o2.2 rfl (x := (S 7 (S 1020 0))) rfl ?_
    have hS := h
    have J0 : ((S 7 (S 1020 0)) < (0 : Int) ∨ (47 : Int) < (S 7 (S 1020 0)) ∨ (S 7 (S 1020 0)) = (3 : Int) ∨ (S 7 (S 1020 0)) = (4 : Int) ∨ (S 7 (S 1020 0)) = (5 : Int) ∨ (S 7 (S 1020 0)) = (6 : Int) ∨ (S 7 (S 1020 0)) = (7 : Int) ∨ (S 7 (S 1020 0)) = (8 : Int) ∨ (S 7 (S 1020 0)) = (9 : Int) ∨ (S 7 (S 1020 0)) = (10 : Int) ∨ (S 7 (S 1020 0)) = (11 : Int) ∨ (S 7 (S 1020 0)) = (12 : Int) ∨ (S 7 (S 1020 0)) = (13 : Int) ∨ (S 7 (S 1020 0)) = (14 : Int) ∨ (S 7 (S 1020 0)) = (15 : Int) ∨ (S 7 (S 1020 0)) = (24 : Int) ∨ (S 7 (S 1020 0)) = (25 : Int) ∨ (S 7 (S 1020 0)) = (26 : Int) ∨ (S 7 (S 1020 0)) = (27 : Int) ∨ (S 7 (S 1020 0)) = (28 : Int) ∨ (S 7 (S 1020 0)) = (29 : Int) ∨ (S 7 (S 1020 0)) = (30 : Int) ∨ (S 7 (S 1020 0)) = (31 : Int) ∨ (S 7 (S 1020 0)) = (32 : Int) ∨ (S 7 (S 1020 0)) = (33 : Int) ∨ (S 7 (S 1020 0)) = (34 : Int) ∨ (S 7 (S 1020 0)) = (35 : Int) ∨ (S 7 (S 1020 0)) = (36 : Int) ∨ (S 7 (S 1020 0)) = (37 : Int) ∨ (S 7 (S 1020 0)) = (38 : Int) ∨ (S 7 (S 1020 0)) = (39 : Int) ∨ (S 7 (S 1020 0)) = (40 : Int) ∨ (S 7 (S 1020 0)) = (41 : Int) ∨ (S 7 (S 1020 0)) = (42 : Int) ∨ (S 7 (S 1020 0)) = (43 : Int) ∨ (S 7 (S 1020 0)) = (44 : Int) ∨ (S 7 (S 1020 0)) = (45 : Int) ∨ (S 7 (S 1020 0)) = (46 : Int)) → sv_T sm_XS sm_cs sm_L sm_sh 0 (q_settingOf S) 45 262 [(0, .ref 0)] [] S := by
      intro hc
      have h := hS.1 hc
      refine sv_iconst (d := (-1 : Int)) hM dX12_settingOf_262 rfl rfl ?_
      exact sv_iret hM dX12_settingOf_263 rfl rfl ⟨(-1 : Int), rfl, (⟨by decide, by decide⟩ : sv_R (-1 : Int)), hok, sv_mod.rf, h⟩
    have J1 : ((S 7 (S 1020 0)) = (47 : Int)) → sv_T sm_XS sm_cs sm_L sm_sh 0 (q_settingOf S) 45 232 [(0, .ref 0)] [] S := by
      intro hc
      have h := hS.2.1 hc
      refine sv_bipush (d := (99 : Int)) hM dX12_settingOf_232 rfl rfl ?_
      exact sv_iret hM dX12_settingOf_234 rfl rfl ⟨(99 : Int), rfl, (⟨by decide, by decide⟩ : sv_R (99 : Int)), hok, sv_mod.rf, h⟩
    have J2 : ((S 7 (S 1020 0)) = (16 : Int)) → sv_T sm_XS sm_cs sm_L sm_sh 0 (q_settingOf S) 45 235 [(0, .ref 0)] [] S := by
      intro hc
      have h := hS.2.2.1 hc
      refine sv_iconst (d := (0 : Int)) hM dX12_settingOf_235 rfl rfl ?_
      exact sv_iret hM dX12_settingOf_236 rfl rfl ⟨(0 : Int), rfl, (⟨by decide, by decide⟩ : sv_R (0 : Int)), hok, sv_mod.rf, h⟩
    have J3 : ((S 7 (S 1020 0)) = (17 : Int)) → sv_T sm_XS sm_cs sm_L sm_sh 0 (q_settingOf S) 45 237 [(0, .ref 0)] [] S := by
      intro hc
      have h := hS.2.2.2.1 hc
      refine sv_iconst (d := (1 : Int)) hM dX12_settingOf_237 rfl rfl ?_
      exact sv_iret hM dX12_settingOf_238 rfl rfl ⟨(1 : Int), rfl, (⟨by decide, by decide⟩ : sv_R (1 : Int)), hok, sv_mod.rf, h⟩
    have J4 : ((S 7 (S 1020 0)) = (18 : Int)) → sv_T sm_XS sm_cs sm_L sm_sh 0 (q_settingOf S) 45 239 [(0, .ref 0)] [] S := by
      intro hc
      have h := hS.2.2.2.2.1 hc
      refine sv_iconst (d := (2 : Int)) hM dX12_settingOf_239 rfl rfl ?_
      exact sv_iret hM dX12_settingOf_240 rfl rfl ⟨(2 : Int), rfl, (⟨by decide, by decide⟩ : sv_R (2 : Int)), hok, sv_mod.rf, h⟩
    have J5 : ((S 7 (S 1020 0)) = (19 : Int)) → sv_T sm_XS sm_cs sm_L sm_sh 0 (q_settingOf S) 45 241 [(0, .ref 0)] [] S := by
      intro hc
      have h := hS.2.2.2.2.2.1 hc
      refine sv_iconst (d := (3 : Int)) hM dX12_settingOf_241 rfl rfl ?_
      exact sv_iret hM dX12_settingOf_242 rfl rfl ⟨(3 : Int), rfl, (⟨by decide, by decide⟩ : sv_R (3 : Int)), hok, sv_mod.rf, h⟩
    have J6 : ((S 7 (S 1020 0)) = (20 : Int)) → sv_T sm_XS sm_cs sm_L sm_sh 0 (q_settingOf S) 45 243 [(0, .ref 0)] [] S := by
      intro hc
      have h := hS.2.2.2.2.2.2.1 hc
      refine sv_iconst (d := (4 : Int)) hM dX12_settingOf_243 rfl rfl ?_
      exact sv_iret hM dX12_settingOf_244 rfl rfl ⟨(4 : Int), rfl, (⟨by decide, by decide⟩ : sv_R (4 : Int)), hok, sv_mod.rf, h⟩
    have J7 : ((S 7 (S 1020 0)) = (1 : Int)) → sv_T sm_XS sm_cs sm_L sm_sh 0 (q_settingOf S) 45 245 [(0, .ref 0)] [] S := by
      intro hc
      have h := hS.2.2.2.2.2.2.2.1 hc
      refine sv_iconst (d := (5 : Int)) hM dX12_settingOf_245 rfl rfl ?_
      exact sv_iret hM dX12_settingOf_246 rfl rfl ⟨(5 : Int), rfl, (⟨by decide, by decide⟩ : sv_R (5 : Int)), hok, sv_mod.rf, h⟩
    have J8 : ((S 7 (S 1020 0)) = (2 : Int)) → sv_T sm_XS sm_cs sm_L sm_sh 0 (q_settingOf S) 45 247 [(0, .ref 0)] [] S := by
      intro hc
      have h := hS.2.2.2.2.2.2.2.2.1 hc
      refine sv_bipush (d := (6 : Int)) hM dX12_settingOf_247 rfl rfl ?_
      exact sv_iret hM dX12_settingOf_249 rfl rfl ⟨(6 : Int), rfl, (⟨by decide, by decide⟩ : sv_R (6 : Int)), hok, sv_mod.rf, h⟩
    have J9 : ((S 7 (S 1020 0)) = (0 : Int)) → sv_T sm_XS sm_cs sm_L sm_sh 0 (q_settingOf S) 45 250 [(0, .ref 0)] [] S := by
      intro hc
      have h := hS.2.2.2.2.2.2.2.2.2.1 hc
      refine sv_bipush (d := (7 : Int)) hM dX12_settingOf_250 rfl rfl ?_
      exact sv_iret hM dX12_settingOf_252 rfl rfl ⟨(7 : Int), rfl, (⟨by decide, by decide⟩ : sv_R (7 : Int)), hok, sv_mod.rf, h⟩
    have J10 : ((S 7 (S 1020 0)) = (21 : Int)) → sv_T sm_XS sm_cs sm_L sm_sh 0 (q_settingOf S) 45 253 [(0, .ref 0)] [] S := by
      intro hc
      have h := hS.2.2.2.2.2.2.2.2.2.2.1 hc
      refine sv_bipush (d := (8 : Int)) hM dX12_settingOf_253 rfl rfl ?_
      exact sv_iret hM dX12_settingOf_255 rfl rfl ⟨(8 : Int), rfl, (⟨by decide, by decide⟩ : sv_R (8 : Int)), hok, sv_mod.rf, h⟩
    have J11 : ((S 7 (S 1020 0)) = (22 : Int)) → sv_T sm_XS sm_cs sm_L sm_sh 0 (q_settingOf S) 45 256 [(0, .ref 0)] [] S := by
      intro hc
      have h := hS.2.2.2.2.2.2.2.2.2.2.2.1 hc
      refine sv_bipush (d := (9 : Int)) hM dX12_settingOf_256 rfl rfl ?_
      exact sv_iret hM dX12_settingOf_258 rfl rfl ⟨(9 : Int), rfl, (⟨by decide, by decide⟩ : sv_R (9 : Int)), hok, sv_mod.rf, h⟩
    have J12 : ((S 7 (S 1020 0)) = (23 : Int)) → sv_T sm_XS sm_cs sm_L sm_sh 0 (q_settingOf S) 45 259 [(0, .ref 0)] [] S := by
      intro hc
      have h := hS.2.2.2.2.2.2.2.2.2.2.2.2 hc
      refine sv_bipush (d := (10 : Int)) hM dX12_settingOf_259 rfl rfl ?_
      exact sv_iret hM dX12_settingOf_261 rfl rfl ⟨(10 : Int), rfl, (⟨by decide, by decide⟩ : sv_R (10 : Int)), hok, sv_mod.rf, h⟩
    refine sv_tsw hM dX12_settingOf_24 k4 (t := 262) rfl (fun hc => J0 (by rcases hc with hc | hc; exact Or.inl hc; exact Or.inr (Or.inl hc))) (fun hc => ?_)
    have hv : (S 7 (S 1020 0)) = (0 : Int) ∨ (S 7 (S 1020 0)) = (1 : Int) ∨ (S 7 (S 1020 0)) = (2 : Int) ∨ (S 7 (S 1020 0)) = (3 : Int) ∨ (S 7 (S 1020 0)) = (4 : Int) ∨ (S 7 (S 1020 0)) = (5 : Int) ∨ (S 7 (S 1020 0)) = (6 : Int) ∨ (S 7 (S 1020 0)) = (7 : Int) ∨ (S 7 (S 1020 0)) = (8 : Int) ∨ (S 7 (S 1020 0)) = (9 : Int) ∨ (S 7 (S 1020 0)) = (10 : Int) ∨ (S 7 (S 1020 0)) = (11 : Int) ∨ (S 7 (S 1020 0)) = (12 : Int) ∨ (S 7 (S 1020 0)) = (13 : Int) ∨ (S 7 (S 1020 0)) = (14 : Int) ∨ (S 7 (S 1020 0)) = (15 : Int) ∨ (S 7 (S 1020 0)) = (16 : Int) ∨ (S 7 (S 1020 0)) = (17 : Int) ∨ (S 7 (S 1020 0)) = (18 : Int) ∨ (S 7 (S 1020 0)) = (19 : Int) ∨ (S 7 (S 1020 0)) = (20 : Int) ∨ (S 7 (S 1020 0)) = (21 : Int) ∨ (S 7 (S 1020 0)) = (22 : Int) ∨ (S 7 (S 1020 0)) = (23 : Int) ∨ (S 7 (S 1020 0)) = (24 : Int) ∨ (S 7 (S 1020 0)) = (25 : Int) ∨ (S 7 (S 1020 0)) = (26 : Int) ∨ (S 7 (S 1020 0)) = (27 : Int) ∨ (S 7 (S 1020 0)) = (28 : Int) ∨ (S 7 (S 1020 0)) = (29 : Int) ∨ (S 7 (S 1020 0)) = (30 : Int) ∨ (S 7 (S 1020 0)) = (31 : Int) ∨ (S 7 (S 1020 0)) = (32 : Int) ∨ (S 7 (S 1020 0)) = (33 : Int) ∨ (S 7 (S 1020 0)) = (34 : Int) ∨ (S 7 (S 1020 0)) = (35 : Int) ∨ (S 7 (S 1020 0)) = (36 : Int) ∨ (S 7 (S 1020 0)) = (37 : Int) ∨ (S 7 (S 1020 0)) = (38 : Int) ∨ (S 7 (S 1020 0)) = (39 : Int) ∨ (S 7 (S 1020 0)) = (40 : Int) ∨ (S 7 (S 1020 0)) = (41 : Int) ∨ (S 7 (S 1020 0)) = (42 : Int) ∨ (S 7 (S 1020 0)) = (43 : Int) ∨ (S 7 (S 1020 0)) = (44 : Int) ∨ (S 7 (S 1020 0)) = (45 : Int) ∨ (S 7 (S 1020 0)) = (46 : Int) ∨ (S 7 (S 1020 0)) = (47 : Int) := by omega
    rcases hv with hv | hv | hv | hv | hv | hv | hv | hv | hv | hv | hv | hv | hv | hv | hv | hv | hv | hv | hv | hv | hv | hv | hv | hv | hv | hv | hv | hv | hv | hv | hv | hv | hv | hv | hv | hv | hv | hv | hv | hv | hv | hv | hv | hv | hv | hv | hv | hv
    · exact ⟨226, 250, by rw [hv]; rfl, rfl, J9 (by omega)⟩
    · exact ⟨221, 245, by rw [hv]; rfl, rfl, J7 (by omega)⟩
    · exact ⟨223, 247, by rw [hv]; rfl, rfl, J8 (by omega)⟩
    · exact ⟨238, 262, by rw [hv]; rfl, rfl, J0 (by omega)⟩
    · exact ⟨238, 262, by rw [hv]; rfl, rfl, J0 (by omega)⟩
    · exact ⟨238, 262, by rw [hv]; rfl, rfl, J0 (by omega)⟩
    · exact ⟨238, 262, by rw [hv]; rfl, rfl, J0 (by omega)⟩
    · exact ⟨238, 262, by rw [hv]; rfl, rfl, J0 (by omega)⟩
    · exact ⟨238, 262, by rw [hv]; rfl, rfl, J0 (by omega)⟩
    · exact ⟨238, 262, by rw [hv]; rfl, rfl, J0 (by omega)⟩
    · exact ⟨238, 262, by rw [hv]; rfl, rfl, J0 (by omega)⟩
    · exact ⟨238, 262, by rw [hv]; rfl, rfl, J0 (by omega)⟩
    · exact ⟨238, 262, by rw [hv]; rfl, rfl, J0 (by omega)⟩
    · exact ⟨238, 262, by rw [hv]; rfl, rfl, J0 (by omega)⟩
    · exact ⟨238, 262, by rw [hv]; rfl, rfl, J0 (by omega)⟩
    · exact ⟨238, 262, by rw [hv]; rfl, rfl, J0 (by omega)⟩
    · exact ⟨211, 235, by rw [hv]; rfl, rfl, J2 (by omega)⟩
    · exact ⟨213, 237, by rw [hv]; rfl, rfl, J3 (by omega)⟩
    · exact ⟨215, 239, by rw [hv]; rfl, rfl, J4 (by omega)⟩
    · exact ⟨217, 241, by rw [hv]; rfl, rfl, J5 (by omega)⟩
    · exact ⟨219, 243, by rw [hv]; rfl, rfl, J6 (by omega)⟩
    · exact ⟨229, 253, by rw [hv]; rfl, rfl, J10 (by omega)⟩
    · exact ⟨232, 256, by rw [hv]; rfl, rfl, J11 (by omega)⟩
    · exact ⟨235, 259, by rw [hv]; rfl, rfl, J12 (by omega)⟩
    · exact ⟨238, 262, by rw [hv]; rfl, rfl, J0 (by omega)⟩
    · exact ⟨238, 262, by rw [hv]; rfl, rfl, J0 (by omega)⟩
    · exact ⟨238, 262, by rw [hv]; rfl, rfl, J0 (by omega)⟩
    · exact ⟨238, 262, by rw [hv]; rfl, rfl, J0 (by omega)⟩
    · exact ⟨238, 262, by rw [hv]; rfl, rfl, J0 (by omega)⟩
    · exact ⟨238, 262, by rw [hv]; rfl, rfl, J0 (by omega)⟩
    · exact ⟨238, 262, by rw [hv]; rfl, rfl, J0 (by omega)⟩
    · exact ⟨238, 262, by rw [hv]; rfl, rfl, J0 (by omega)⟩
    · exact ⟨238, 262, by rw [hv]; rfl, rfl, J0 (by omega)⟩
    · exact ⟨238, 262, by rw [hv]; rfl, rfl, J0 (by omega)⟩
    · exact ⟨238, 262, by rw [hv]; rfl, rfl, J0 (by omega)⟩
    · exact ⟨238, 262, by rw [hv]; rfl, rfl, J0 (by omega)⟩
    · exact ⟨238, 262, by rw [hv]; rfl, rfl, J0 (by omega)⟩
    · exact ⟨238, 262, by rw [hv]; rfl, rfl, J0 (by omega)⟩
    · exact ⟨238, 262, by rw [hv]; rfl, rfl, J0 (by omega)⟩
    · exact ⟨238, 262, by rw [hv]; rfl, rfl, J0 (by omega)⟩
    · exact ⟨238, 262, by rw [hv]; rfl, rfl, J0 (by omega)⟩
    · exact ⟨238, 262, by rw [hv]; rfl, rfl, J0 (by omega)⟩
    · exact ⟨238, 262, by rw [hv]; rfl, rfl, J0 (by omega)⟩
    · exact ⟨238, 262, by rw [hv]; rfl, rfl, J0 (by omega)⟩
    · exact ⟨238, 262, by rw [hv]; rfl, rfl, J0 (by omega)⟩
    · exact ⟨238, 262, by rw [hv]; rfl, rfl, J0 (by omega)⟩
    · exact ⟨238, 262, by rw [hv]; rfl, rfl, J0 (by omega)⟩
    · exact ⟨208, 232, by rw [hv]; rfl, rfl, J1 (by omega)⟩
  · have h := h.2 (hc)
    refine sv_iconst (d := (-1 : Int)) hM dX12_settingOf_13 rfl rfl ?_
    exact sv_iret hM dX12_settingOf_14 rfl rfl ⟨(-1 : Int), rfl, (⟨by decide, by decide⟩ : sv_R (-1 : Int)), hok, sv_mod.rf, h⟩
def q_bindsOf (p1 : Int) (S : sv_S) : Option Value → sv_S → Prop := fun v S' => ∃ r : Int, v = some (sv_I r) ∧ sv_R r ∧ sm_ok S' ∧ sv_mod [] S S' ∧ (-1 ≤ r ∧ r ≤ 9 ∧ (¬ r = -1 → (S' 6 (S' 1020 0)) = 2 ∨ (S' 6 (S' 1020 0)) = 5) ∧ r = (if (S' 6 (S' 1020 0)) = 2 then (if (S' 7 (S' 1020 0)) = 14 ∨ (S' 7 (S' 1020 0)) = 13 ∧ p1 = 1 then 6 else -1) else if (S' 6 (S' 1020 0)) = 5 then if (S' 7 (S' 1020 0)) = 15 then 0 else if (S' 7 (S' 1020 0)) = 14 then 1 else if (S' 7 (S' 1020 0)) = 41 then 2 else if (S' 7 (S' 1020 0)) = 42 then 3 else if (S' 7 (S' 1020 0)) = 40 then 4 else if (S' 7 (S' 1020 0)) = 8 ∨ (S' 7 (S' 1020 0)) = 9 ∨ (S' 7 (S' 1020 0)) = 4 ∨ (S' 7 (S' 1020 0)) = 5 then 5 else if (S' 7 (S' 1020 0)) = 33 ∨ (S' 7 (S' 1020 0)) = 34 ∨ (S' 7 (S' 1020 0)) = 6 ∨ (S' 7 (S' 1020 0)) = 7 then 6 else if (S' 7 (S' 1020 0)) = 12 ∨ (S' 7 (S' 1020 0)) = 13 ∨ (S' 7 (S' 1020 0)) = 3 then 7 else if (S' 7 (S' 1020 0)) = 35 ∨ (S' 7 (S' 1020 0)) = 36 then 8 else if (S' 7 (S' 1020 0)) = 37 ∨ (S' 7 (S' 1020 0)) = 38 ∨ (S' 7 (S' 1020 0)) = 39 then 9 else -1 else -1))
theorem la_bindsOf_0 {x0 : Int} (h0 : 0 ≤ x0) (h1 : x0 ≤ 4000) : 0 ≤ x0 ∧ x0 < 4002 := by omega
theorem la_bindsOf_1 {x0 : Int} (h0 : x0 = 5) : 2 ≤ x0 := by omega
theorem la_bindsOf_2 {x0 : Int} (h0 : 2 ≤ x0) (h1 : ¬ x0 = 2) : 2 < x0 := by omega
theorem la_bindsOf_3 : ((-1) : Int) ≤ (-1) := by omega
theorem la_bindsOf_4 : ((-1) : Int) ≤ 9 := by omega
theorem la_bindsOf_5 {x0 : Int} : ¬ ((-1) : Int) = (-1) → x0 = 2 ∨ x0 = 5 := by omega
theorem la_bindsOf_6 {x0 : Int} (h0 : x0 < 3 ∨ 42 < x0 ∨ x0 = 10 ∨ x0 = 11 ∨ x0 = 16 ∨ x0 = 17 ∨ x0 = 18 ∨ x0 = 19 ∨ x0 = 20 ∨ x0 = 21 ∨ x0 = 22 ∨ x0 = 23 ∨ x0 = 24 ∨ x0 = 25 ∨ x0 = 26 ∨ x0 = 27 ∨ x0 = 28 ∨ x0 = 29 ∨ x0 = 30 ∨ x0 = 31 ∨ x0 = 32) : ¬ (x0 = 33 ∨ x0 = 34 ∨ x0 = 6 ∨ x0 = 7) := by omega
theorem la_bindsOf_7 {x0 : Int} (h0 : x0 < 3 ∨ 42 < x0 ∨ x0 = 10 ∨ x0 = 11 ∨ x0 = 16 ∨ x0 = 17 ∨ x0 = 18 ∨ x0 = 19 ∨ x0 = 20 ∨ x0 = 21 ∨ x0 = 22 ∨ x0 = 23 ∨ x0 = 24 ∨ x0 = 25 ∨ x0 = 26 ∨ x0 = 27 ∨ x0 = 28 ∨ x0 = 29 ∨ x0 = 30 ∨ x0 = 31 ∨ x0 = 32) : ¬ x0 = 41 := by omega
theorem la_bindsOf_8 {x0 : Int} (h0 : x0 < 3 ∨ 42 < x0 ∨ x0 = 10 ∨ x0 = 11 ∨ x0 = 16 ∨ x0 = 17 ∨ x0 = 18 ∨ x0 = 19 ∨ x0 = 20 ∨ x0 = 21 ∨ x0 = 22 ∨ x0 = 23 ∨ x0 = 24 ∨ x0 = 25 ∨ x0 = 26 ∨ x0 = 27 ∨ x0 = 28 ∨ x0 = 29 ∨ x0 = 30 ∨ x0 = 31 ∨ x0 = 32) : ¬ x0 = 42 := by omega
theorem la_bindsOf_9 {x0 : Int} (h0 : x0 < 3 ∨ 42 < x0 ∨ x0 = 10 ∨ x0 = 11 ∨ x0 = 16 ∨ x0 = 17 ∨ x0 = 18 ∨ x0 = 19 ∨ x0 = 20 ∨ x0 = 21 ∨ x0 = 22 ∨ x0 = 23 ∨ x0 = 24 ∨ x0 = 25 ∨ x0 = 26 ∨ x0 = 27 ∨ x0 = 28 ∨ x0 = 29 ∨ x0 = 30 ∨ x0 = 31 ∨ x0 = 32) : ¬ (x0 = 37 ∨ x0 = 38 ∨ x0 = 39) := by omega
theorem la_bindsOf_10 {x0 : Int} (h0 : x0 < 3 ∨ 42 < x0 ∨ x0 = 10 ∨ x0 = 11 ∨ x0 = 16 ∨ x0 = 17 ∨ x0 = 18 ∨ x0 = 19 ∨ x0 = 20 ∨ x0 = 21 ∨ x0 = 22 ∨ x0 = 23 ∨ x0 = 24 ∨ x0 = 25 ∨ x0 = 26 ∨ x0 = 27 ∨ x0 = 28 ∨ x0 = 29 ∨ x0 = 30 ∨ x0 = 31 ∨ x0 = 32) : ¬ (x0 = 8 ∨ x0 = 9 ∨ x0 = 4 ∨ x0 = 5) := by omega
theorem la_bindsOf_11 {x0 : Int} (h0 : x0 < 3 ∨ 42 < x0 ∨ x0 = 10 ∨ x0 = 11 ∨ x0 = 16 ∨ x0 = 17 ∨ x0 = 18 ∨ x0 = 19 ∨ x0 = 20 ∨ x0 = 21 ∨ x0 = 22 ∨ x0 = 23 ∨ x0 = 24 ∨ x0 = 25 ∨ x0 = 26 ∨ x0 = 27 ∨ x0 = 28 ∨ x0 = 29 ∨ x0 = 30 ∨ x0 = 31 ∨ x0 = 32) : ¬ x0 = 15 := by omega
theorem la_bindsOf_12 {x0 : Int} (h0 : x0 < 3 ∨ 42 < x0 ∨ x0 = 10 ∨ x0 = 11 ∨ x0 = 16 ∨ x0 = 17 ∨ x0 = 18 ∨ x0 = 19 ∨ x0 = 20 ∨ x0 = 21 ∨ x0 = 22 ∨ x0 = 23 ∨ x0 = 24 ∨ x0 = 25 ∨ x0 = 26 ∨ x0 = 27 ∨ x0 = 28 ∨ x0 = 29 ∨ x0 = 30 ∨ x0 = 31 ∨ x0 = 32) : ¬ (x0 = 35 ∨ x0 = 36) := by omega
theorem la_bindsOf_13 {x0 : Int} (h0 : x0 < 3 ∨ 42 < x0 ∨ x0 = 10 ∨ x0 = 11 ∨ x0 = 16 ∨ x0 = 17 ∨ x0 = 18 ∨ x0 = 19 ∨ x0 = 20 ∨ x0 = 21 ∨ x0 = 22 ∨ x0 = 23 ∨ x0 = 24 ∨ x0 = 25 ∨ x0 = 26 ∨ x0 = 27 ∨ x0 = 28 ∨ x0 = 29 ∨ x0 = 30 ∨ x0 = 31 ∨ x0 = 32) : ¬ x0 = 40 := by omega
theorem la_bindsOf_14 {x0 : Int} (h0 : x0 < 3 ∨ 42 < x0 ∨ x0 = 10 ∨ x0 = 11 ∨ x0 = 16 ∨ x0 = 17 ∨ x0 = 18 ∨ x0 = 19 ∨ x0 = 20 ∨ x0 = 21 ∨ x0 = 22 ∨ x0 = 23 ∨ x0 = 24 ∨ x0 = 25 ∨ x0 = 26 ∨ x0 = 27 ∨ x0 = 28 ∨ x0 = 29 ∨ x0 = 30 ∨ x0 = 31 ∨ x0 = 32) : ¬ x0 = 14 := by omega
theorem la_bindsOf_15 {x0 : Int} (h0 : x0 < 3 ∨ 42 < x0 ∨ x0 = 10 ∨ x0 = 11 ∨ x0 = 16 ∨ x0 = 17 ∨ x0 = 18 ∨ x0 = 19 ∨ x0 = 20 ∨ x0 = 21 ∨ x0 = 22 ∨ x0 = 23 ∨ x0 = 24 ∨ x0 = 25 ∨ x0 = 26 ∨ x0 = 27 ∨ x0 = 28 ∨ x0 = 29 ∨ x0 = 30 ∨ x0 = 31 ∨ x0 = 32) : ¬ (x0 = 12 ∨ x0 = 13 ∨ x0 = 3) := by omega
theorem la_bindsOf_16 {x0 x1 : Int} (h0 : x0 < 3 ∨ 42 < x0 ∨ x0 = 10 ∨ x0 = 11 ∨ x0 = 16 ∨ x0 = 17 ∨ x0 = 18 ∨ x0 = 19 ∨ x0 = 20 ∨ x0 = 21 ∨ x0 = 22 ∨ x0 = 23 ∨ x0 = 24 ∨ x0 = 25 ∨ x0 = 26 ∨ x0 = 27 ∨ x0 = 28 ∨ x0 = 29 ∨ x0 = 30 ∨ x0 = 31 ∨ x0 = 32) : ¬ (x0 = 14 ∨ x0 = 13 ∧ x1 = 1) := by omega
theorem la_bindsOf_17 {x0 x1 x2 x3 x4 x5 x6 x7 x8 x9 x10 x11 : Int} (h0 : x0 = x1) (h1 : x2 = x0) (h2 : x3 = x4) (h3 : x5 = x6) (h4 : x6 = x7) (h5 : x8 = (-1)) (h6 : x9 = x3) (h7 : x1 = x10) (h8 : x11 = x8) (h9 : x7 = x9) (h10 : x10 = x5) (h11 : x4 = x11) : (-1) = x2 := by omega
theorem la_bindsOf_18 : ((-1) : Int) ≤ 0 := by omega
theorem la_bindsOf_19 : (0 : Int) ≤ 9 := by omega
theorem la_bindsOf_20 {x0 : Int} (h0 : x0 = 5) : ¬ (0 : Int) = (-1) → x0 = 2 ∨ x0 = 5 := by omega
theorem la_bindsOf_21 {x0 : Int} (h0 : x0 = 15) : ¬ (x0 = 33 ∨ x0 = 34 ∨ x0 = 6 ∨ x0 = 7) := by omega
theorem la_bindsOf_22 {x0 : Int} (h0 : x0 = 15) : ¬ x0 = 41 := by omega
theorem la_bindsOf_23 {x0 : Int} (h0 : x0 = 15) : ¬ x0 = 42 := by omega
theorem la_bindsOf_24 {x0 : Int} (h0 : x0 = 15) : ¬ (x0 = 37 ∨ x0 = 38 ∨ x0 = 39) := by omega
theorem la_bindsOf_25 {x0 : Int} (h0 : x0 = 15) : ¬ (x0 = 8 ∨ x0 = 9 ∨ x0 = 4 ∨ x0 = 5) := by omega
theorem la_bindsOf_26 {x0 : Int} (h0 : x0 = 15) : ¬ (x0 = 35 ∨ x0 = 36) := by omega
theorem la_bindsOf_27 {x0 : Int} (h0 : x0 = 15) : ¬ x0 = 40 := by omega
theorem la_bindsOf_28 {x0 : Int} (h0 : x0 = 15) : ¬ x0 = 14 := by omega
theorem la_bindsOf_29 {x0 : Int} (h0 : x0 = 15) : ¬ (x0 = 12 ∨ x0 = 13 ∨ x0 = 3) := by omega
theorem la_bindsOf_30 {x0 x1 : Int} (h0 : x0 = 15) : ¬ (x0 = 14 ∨ x0 = 13 ∧ x1 = 1) := by omega
theorem la_bindsOf_31 {x0 x1 x2 : Int} (h0 : x0 = 0) (h1 : x1 = x0) (h2 : x2 = x1) : 0 = x2 := by omega
theorem la_bindsOf_32 : ((-1) : Int) ≤ 1 := by omega
theorem la_bindsOf_33 : (1 : Int) ≤ 9 := by omega
theorem la_bindsOf_34 {x0 : Int} (h0 : x0 = 5) : ¬ (1 : Int) = (-1) → x0 = 2 ∨ x0 = 5 := by omega
theorem la_bindsOf_35 {x0 : Int} (h0 : x0 = 14) : ¬ (x0 = 33 ∨ x0 = 34 ∨ x0 = 6 ∨ x0 = 7) := by omega
theorem la_bindsOf_36 {x0 : Int} (h0 : x0 = 14) : ¬ x0 = 41 := by omega
theorem la_bindsOf_37 {x0 : Int} (h0 : x0 = 14) : ¬ x0 = 42 := by omega
theorem la_bindsOf_38 {x0 : Int} (h0 : x0 = 14) : ¬ (x0 = 37 ∨ x0 = 38 ∨ x0 = 39) := by omega
theorem la_bindsOf_39 {x0 : Int} (h0 : x0 = 14) : ¬ (x0 = 8 ∨ x0 = 9 ∨ x0 = 4 ∨ x0 = 5) := by omega
theorem la_bindsOf_40 {x0 : Int} (h0 : x0 = 14) : ¬ x0 = 15 := by omega
theorem la_bindsOf_41 {x0 : Int} (h0 : x0 = 14) : ¬ (x0 = 35 ∨ x0 = 36) := by omega
theorem la_bindsOf_42 {x0 : Int} (h0 : x0 = 14) : ¬ x0 = 40 := by omega
theorem la_bindsOf_43 {x0 : Int} (h0 : x0 = 14) : ¬ (x0 = 12 ∨ x0 = 13 ∨ x0 = 3) := by omega
theorem la_bindsOf_44 {x0 x1 : Int} (h0 : x0 ≤ 1) (h1 : x1 = 14) : x1 = 14 ∨ x1 = 13 ∧ x0 = 1 := by omega
theorem la_bindsOf_45 {x0 x1 x2 x3 : Int} (h0 : x0 = x1) (h1 : x2 = x0) (h2 : x1 = 1) (h3 : x3 = x2) : 1 = x3 := by omega
theorem la_bindsOf_46 : ((-1) : Int) ≤ 2 := by omega
theorem la_bindsOf_47 : (2 : Int) ≤ 9 := by omega
theorem la_bindsOf_48 {x0 : Int} (h0 : x0 = 5) : ¬ (2 : Int) = (-1) → x0 = 2 ∨ x0 = 5 := by omega
theorem la_bindsOf_49 {x0 : Int} (h0 : x0 = 41) : ¬ (x0 = 33 ∨ x0 = 34 ∨ x0 = 6 ∨ x0 = 7) := by omega
theorem la_bindsOf_50 {x0 : Int} (h0 : x0 = 41) : ¬ x0 = 42 := by omega
theorem la_bindsOf_51 {x0 : Int} (h0 : x0 = 41) : ¬ (x0 = 37 ∨ x0 = 38 ∨ x0 = 39) := by omega
theorem la_bindsOf_52 {x0 : Int} (h0 : x0 = 41) : ¬ (x0 = 8 ∨ x0 = 9 ∨ x0 = 4 ∨ x0 = 5) := by omega
theorem la_bindsOf_53 {x0 : Int} (h0 : x0 = 41) : ¬ x0 = 15 := by omega
theorem la_bindsOf_54 {x0 : Int} (h0 : x0 = 41) : ¬ (x0 = 35 ∨ x0 = 36) := by omega
theorem la_bindsOf_55 {x0 : Int} (h0 : x0 = 41) : ¬ x0 = 40 := by omega
theorem la_bindsOf_56 {x0 : Int} (h0 : x0 = 41) : ¬ x0 = 14 := by omega
theorem la_bindsOf_57 {x0 : Int} (h0 : x0 = 41) : ¬ (x0 = 12 ∨ x0 = 13 ∨ x0 = 3) := by omega
theorem la_bindsOf_58 {x0 x1 : Int} (h0 : x0 = 41) : ¬ (x0 = 14 ∨ x0 = 13 ∧ x1 = 1) := by omega
theorem la_bindsOf_59 {x0 x1 x2 x3 x4 : Int} (h0 : x0 = 2) (h1 : x1 = x2) (h2 : x3 = x1) (h3 : x2 = x0) (h4 : x4 = x3) : 2 = x4 := by omega
theorem la_bindsOf_60 : ((-1) : Int) ≤ 3 := by omega
theorem la_bindsOf_61 : (3 : Int) ≤ 9 := by omega
theorem la_bindsOf_62 {x0 : Int} (h0 : x0 = 5) : ¬ (3 : Int) = (-1) → x0 = 2 ∨ x0 = 5 := by omega
theorem la_bindsOf_63 {x0 : Int} (h0 : x0 = 42) : ¬ (x0 = 33 ∨ x0 = 34 ∨ x0 = 6 ∨ x0 = 7) := by omega
theorem la_bindsOf_64 {x0 : Int} (h0 : x0 = 42) : ¬ x0 = 41 := by omega
theorem la_bindsOf_65 {x0 : Int} (h0 : x0 = 42) : ¬ (x0 = 37 ∨ x0 = 38 ∨ x0 = 39) := by omega
theorem la_bindsOf_66 {x0 : Int} (h0 : x0 = 42) : ¬ (x0 = 8 ∨ x0 = 9 ∨ x0 = 4 ∨ x0 = 5) := by omega
theorem la_bindsOf_67 {x0 : Int} (h0 : x0 = 42) : ¬ x0 = 15 := by omega
theorem la_bindsOf_68 {x0 : Int} (h0 : x0 = 42) : ¬ (x0 = 35 ∨ x0 = 36) := by omega
theorem la_bindsOf_69 {x0 : Int} (h0 : x0 = 42) : ¬ x0 = 40 := by omega
theorem la_bindsOf_70 {x0 : Int} (h0 : x0 = 42) : ¬ x0 = 14 := by omega
theorem la_bindsOf_71 {x0 : Int} (h0 : x0 = 42) : ¬ (x0 = 12 ∨ x0 = 13 ∨ x0 = 3) := by omega
theorem la_bindsOf_72 {x0 x1 : Int} (h0 : x0 = 42) : ¬ (x0 = 14 ∨ x0 = 13 ∧ x1 = 1) := by omega
theorem la_bindsOf_73 {x0 x1 x2 x3 x4 x5 : Int} (h0 : x0 = x1) (h1 : x1 = 3) (h2 : x2 = x3) (h3 : x4 = x2) (h4 : x3 = x0) (h5 : x5 = x4) : 3 = x5 := by omega
theorem la_bindsOf_74 : ((-1) : Int) ≤ 4 := by omega
theorem la_bindsOf_75 : (4 : Int) ≤ 9 := by omega
theorem la_bindsOf_76 {x0 : Int} (h0 : x0 = 5) : ¬ (4 : Int) = (-1) → x0 = 2 ∨ x0 = 5 := by omega
theorem la_bindsOf_77 {x0 : Int} (h0 : x0 = 40) : ¬ (x0 = 33 ∨ x0 = 34 ∨ x0 = 6 ∨ x0 = 7) := by omega
theorem la_bindsOf_78 {x0 : Int} (h0 : x0 = 40) : ¬ x0 = 41 := by omega
theorem la_bindsOf_79 {x0 : Int} (h0 : x0 = 40) : ¬ x0 = 42 := by omega
theorem la_bindsOf_80 {x0 : Int} (h0 : x0 = 40) : ¬ (x0 = 37 ∨ x0 = 38 ∨ x0 = 39) := by omega
theorem la_bindsOf_81 {x0 : Int} (h0 : x0 = 40) : ¬ (x0 = 8 ∨ x0 = 9 ∨ x0 = 4 ∨ x0 = 5) := by omega
theorem la_bindsOf_82 {x0 : Int} (h0 : x0 = 40) : ¬ x0 = 15 := by omega
theorem la_bindsOf_83 {x0 : Int} (h0 : x0 = 40) : ¬ (x0 = 35 ∨ x0 = 36) := by omega
theorem la_bindsOf_84 {x0 : Int} (h0 : x0 = 40) : ¬ x0 = 14 := by omega
theorem la_bindsOf_85 {x0 : Int} (h0 : x0 = 40) : ¬ (x0 = 12 ∨ x0 = 13 ∨ x0 = 3) := by omega
theorem la_bindsOf_86 {x0 x1 : Int} (h0 : x0 = 40) : ¬ (x0 = 14 ∨ x0 = 13 ∧ x1 = 1) := by omega
theorem la_bindsOf_87 {x0 x1 x2 x3 x4 x5 x6 : Int} (h0 : x0 = x1) (h1 : x1 = x2) (h2 : x3 = x4) (h3 : x2 = 4) (h4 : x5 = x3) (h5 : x4 = x0) (h6 : x6 = x5) : 4 = x6 := by omega
theorem la_bindsOf_88 : ((-1) : Int) ≤ 5 := by omega
theorem la_bindsOf_89 : (5 : Int) ≤ 9 := by omega
theorem la_bindsOf_90 {x0 : Int} (h0 : x0 = 5) : ¬ (5 : Int) = (-1) → x0 = 2 ∨ x0 = 5 := by omega
theorem la_bindsOf_91 {x0 : Int} (h0 : x0 = 4 ∨ x0 = 5 ∨ x0 = 8 ∨ x0 = 9) : ¬ (x0 = 33 ∨ x0 = 34 ∨ x0 = 6 ∨ x0 = 7) := by omega
theorem la_bindsOf_92 {x0 : Int} (h0 : x0 = 4 ∨ x0 = 5 ∨ x0 = 8 ∨ x0 = 9) : ¬ x0 = 41 := by omega
theorem la_bindsOf_93 {x0 : Int} (h0 : x0 = 4 ∨ x0 = 5 ∨ x0 = 8 ∨ x0 = 9) : ¬ x0 = 42 := by omega
theorem la_bindsOf_94 {x0 : Int} (h0 : x0 = 4 ∨ x0 = 5 ∨ x0 = 8 ∨ x0 = 9) : ¬ (x0 = 37 ∨ x0 = 38 ∨ x0 = 39) := by omega
theorem la_bindsOf_95 {x0 : Int} (h0 : x0 = 4 ∨ x0 = 5 ∨ x0 = 8 ∨ x0 = 9) : x0 = 8 ∨ x0 = 9 ∨ x0 = 4 ∨ x0 = 5 := by omega
theorem la_bindsOf_96 {x0 : Int} (h0 : x0 = 4 ∨ x0 = 5 ∨ x0 = 8 ∨ x0 = 9) : ¬ x0 = 15 := by omega
theorem la_bindsOf_97 {x0 : Int} (h0 : x0 = 4 ∨ x0 = 5 ∨ x0 = 8 ∨ x0 = 9) : ¬ (x0 = 35 ∨ x0 = 36) := by omega
theorem la_bindsOf_98 {x0 : Int} (h0 : x0 = 4 ∨ x0 = 5 ∨ x0 = 8 ∨ x0 = 9) : ¬ x0 = 40 := by omega
theorem la_bindsOf_99 {x0 : Int} (h0 : x0 = 4 ∨ x0 = 5 ∨ x0 = 8 ∨ x0 = 9) : ¬ x0 = 14 := by omega
theorem la_bindsOf_100 {x0 : Int} (h0 : x0 = 4 ∨ x0 = 5 ∨ x0 = 8 ∨ x0 = 9) : ¬ (x0 = 12 ∨ x0 = 13 ∨ x0 = 3) := by omega
theorem la_bindsOf_101 {x0 x1 : Int} (h0 : x0 = 4 ∨ x0 = 5 ∨ x0 = 8 ∨ x0 = 9) : ¬ (x0 = 14 ∨ x0 = 13 ∧ x1 = 1) := by omega
theorem la_bindsOf_102 {x0 x1 x2 x3 x4 x5 x6 x7 : Int} (h0 : x0 = x1) (h1 : x2 = x0) (h2 : x3 = x4) (h3 : x4 = x5) (h4 : x6 = 5) (h5 : x1 = x7) (h6 : x5 = x6) (h7 : x7 = x3) : 5 = x2 := by omega
theorem la_bindsOf_103 : ((-1) : Int) ≤ 6 := by omega
theorem la_bindsOf_104 : (6 : Int) ≤ 9 := by omega
theorem la_bindsOf_105 {x0 : Int} (h0 : x0 = 5) : ¬ (6 : Int) = (-1) → x0 = 2 ∨ x0 = 5 := by omega
theorem la_bindsOf_106 {x0 : Int} (h0 : x0 = 6 ∨ x0 = 7 ∨ x0 = 33 ∨ x0 = 34) : x0 = 33 ∨ x0 = 34 ∨ x0 = 6 ∨ x0 = 7 := by omega
theorem la_bindsOf_107 {x0 : Int} (h0 : x0 = 6 ∨ x0 = 7 ∨ x0 = 33 ∨ x0 = 34) : ¬ x0 = 41 := by omega
theorem la_bindsOf_108 {x0 : Int} (h0 : x0 = 6 ∨ x0 = 7 ∨ x0 = 33 ∨ x0 = 34) : ¬ x0 = 42 := by omega
theorem la_bindsOf_109 {x0 : Int} (h0 : x0 = 6 ∨ x0 = 7 ∨ x0 = 33 ∨ x0 = 34) : ¬ (x0 = 37 ∨ x0 = 38 ∨ x0 = 39) := by omega
theorem la_bindsOf_110 {x0 : Int} (h0 : x0 = 6 ∨ x0 = 7 ∨ x0 = 33 ∨ x0 = 34) : ¬ (x0 = 8 ∨ x0 = 9 ∨ x0 = 4 ∨ x0 = 5) := by omega
theorem la_bindsOf_111 {x0 : Int} (h0 : x0 = 6 ∨ x0 = 7 ∨ x0 = 33 ∨ x0 = 34) : ¬ x0 = 15 := by omega
theorem la_bindsOf_112 {x0 : Int} (h0 : x0 = 6 ∨ x0 = 7 ∨ x0 = 33 ∨ x0 = 34) : ¬ (x0 = 35 ∨ x0 = 36) := by omega
theorem la_bindsOf_113 {x0 : Int} (h0 : x0 = 6 ∨ x0 = 7 ∨ x0 = 33 ∨ x0 = 34) : ¬ x0 = 40 := by omega
theorem la_bindsOf_114 {x0 : Int} (h0 : x0 = 6 ∨ x0 = 7 ∨ x0 = 33 ∨ x0 = 34) : ¬ x0 = 14 := by omega
theorem la_bindsOf_115 {x0 : Int} (h0 : x0 = 6 ∨ x0 = 7 ∨ x0 = 33 ∨ x0 = 34) : ¬ (x0 = 12 ∨ x0 = 13 ∨ x0 = 3) := by omega
theorem la_bindsOf_116 {x0 x1 : Int} (h0 : x0 = 6 ∨ x0 = 7 ∨ x0 = 33 ∨ x0 = 34) : ¬ (x0 = 14 ∨ x0 = 13 ∧ x1 = 1) := by omega
theorem la_bindsOf_117 {x0 x1 x2 x3 x4 x5 x6 x7 x8 : Int} (h0 : x0 = x1) (h1 : x2 = x0) (h2 : x3 = 6) (h3 : x4 = x5) (h4 : x5 = x6) (h5 : x7 = x3) (h6 : x1 = x8) (h7 : x6 = x7) (h8 : x8 = x4) : 6 = x2 := by omega
theorem la_bindsOf_118 : ((-1) : Int) ≤ 7 := by omega
theorem la_bindsOf_119 : (7 : Int) ≤ 9 := by omega
theorem la_bindsOf_120 {x0 : Int} (h0 : x0 = 5) : ¬ (7 : Int) = (-1) → x0 = 2 ∨ x0 = 5 := by omega
theorem la_bindsOf_121 {x0 : Int} (h0 : x0 = 3 ∨ x0 = 12 ∨ x0 = 13) : ¬ (x0 = 33 ∨ x0 = 34 ∨ x0 = 6 ∨ x0 = 7) := by omega
theorem la_bindsOf_122 {x0 : Int} (h0 : x0 = 3 ∨ x0 = 12 ∨ x0 = 13) : ¬ x0 = 41 := by omega
theorem la_bindsOf_123 {x0 : Int} (h0 : x0 = 3 ∨ x0 = 12 ∨ x0 = 13) : ¬ x0 = 42 := by omega
theorem la_bindsOf_124 {x0 : Int} (h0 : x0 = 3 ∨ x0 = 12 ∨ x0 = 13) : ¬ (x0 = 37 ∨ x0 = 38 ∨ x0 = 39) := by omega
theorem la_bindsOf_125 {x0 : Int} (h0 : x0 = 3 ∨ x0 = 12 ∨ x0 = 13) : ¬ (x0 = 8 ∨ x0 = 9 ∨ x0 = 4 ∨ x0 = 5) := by omega
theorem la_bindsOf_126 {x0 : Int} (h0 : x0 = 3 ∨ x0 = 12 ∨ x0 = 13) : ¬ x0 = 15 := by omega
theorem la_bindsOf_127 {x0 : Int} (h0 : x0 = 3 ∨ x0 = 12 ∨ x0 = 13) : ¬ (x0 = 35 ∨ x0 = 36) := by omega
theorem la_bindsOf_128 {x0 : Int} (h0 : x0 = 3 ∨ x0 = 12 ∨ x0 = 13) : ¬ x0 = 40 := by omega
theorem la_bindsOf_129 {x0 : Int} (h0 : x0 = 3 ∨ x0 = 12 ∨ x0 = 13) : ¬ x0 = 14 := by omega
theorem la_bindsOf_130 {x0 : Int} (h0 : x0 = 3 ∨ x0 = 12 ∨ x0 = 13) : x0 = 12 ∨ x0 = 13 ∨ x0 = 3 := by omega
theorem la_bindsOf_131 {x0 x1 x2 x3 x4 x5 x6 x7 x8 x9 : Int} (h0 : x0 = x1) (h1 : x2 = x0) (h2 : x3 = x4) (h3 : x5 = x6) (h4 : x6 = x7) (h5 : x8 = x3) (h6 : x1 = x9) (h7 : x7 = x8) (h8 : x9 = x5) (h9 : x4 = 7) : 7 = x2 := by omega
theorem la_bindsOf_132 : ((-1) : Int) ≤ 8 := by omega
theorem la_bindsOf_133 : (8 : Int) ≤ 9 := by omega
theorem la_bindsOf_134 {x0 : Int} (h0 : x0 = 5) : ¬ (8 : Int) = (-1) → x0 = 2 ∨ x0 = 5 := by omega
theorem la_bindsOf_135 {x0 : Int} (h0 : x0 = 35 ∨ x0 = 36) : ¬ (x0 = 33 ∨ x0 = 34 ∨ x0 = 6 ∨ x0 = 7) := by omega
theorem la_bindsOf_136 {x0 : Int} (h0 : x0 = 35 ∨ x0 = 36) : ¬ x0 = 41 := by omega
theorem la_bindsOf_137 {x0 : Int} (h0 : x0 = 35 ∨ x0 = 36) : ¬ x0 = 42 := by omega
theorem la_bindsOf_138 {x0 : Int} (h0 : x0 = 35 ∨ x0 = 36) : ¬ (x0 = 37 ∨ x0 = 38 ∨ x0 = 39) := by omega
theorem la_bindsOf_139 {x0 : Int} (h0 : x0 = 35 ∨ x0 = 36) : ¬ (x0 = 8 ∨ x0 = 9 ∨ x0 = 4 ∨ x0 = 5) := by omega
theorem la_bindsOf_140 {x0 : Int} (h0 : x0 = 35 ∨ x0 = 36) : ¬ x0 = 15 := by omega
theorem la_bindsOf_141 {x0 : Int} (h0 : x0 = 35 ∨ x0 = 36) : ¬ x0 = 40 := by omega
theorem la_bindsOf_142 {x0 : Int} (h0 : x0 = 35 ∨ x0 = 36) : ¬ x0 = 14 := by omega
theorem la_bindsOf_143 {x0 : Int} (h0 : x0 = 35 ∨ x0 = 36) : ¬ (x0 = 12 ∨ x0 = 13 ∨ x0 = 3) := by omega
theorem la_bindsOf_144 {x0 x1 : Int} (h0 : x0 = 35 ∨ x0 = 36) : ¬ (x0 = 14 ∨ x0 = 13 ∧ x1 = 1) := by omega
theorem la_bindsOf_145 {x0 x1 x2 x3 x4 x5 x6 x7 x8 x9 x10 : Int} (h0 : x0 = 8) (h1 : x1 = x2) (h2 : x3 = x1) (h3 : x4 = x5) (h4 : x6 = x7) (h5 : x7 = x8) (h6 : x9 = x4) (h7 : x2 = x10) (h8 : x8 = x9) (h9 : x10 = x6) (h10 : x5 = x0) : 8 = x3 := by omega
theorem la_bindsOf_146 : (9 : Int) ≤ 9 := by omega
theorem la_bindsOf_147 {x0 : Int} (h0 : x0 = 5) : ¬ (9 : Int) = (-1) → x0 = 2 ∨ x0 = 5 := by omega
theorem la_bindsOf_148 {x0 : Int} (h0 : x0 = 37 ∨ x0 = 38 ∨ x0 = 39) : ¬ (x0 = 33 ∨ x0 = 34 ∨ x0 = 6 ∨ x0 = 7) := by omega
theorem la_bindsOf_149 {x0 : Int} (h0 : x0 = 37 ∨ x0 = 38 ∨ x0 = 39) : ¬ x0 = 41 := by omega
theorem la_bindsOf_150 {x0 : Int} (h0 : x0 = 37 ∨ x0 = 38 ∨ x0 = 39) : ¬ x0 = 42 := by omega
theorem la_bindsOf_151 {x0 : Int} (h0 : x0 = 37 ∨ x0 = 38 ∨ x0 = 39) : ¬ (x0 = 8 ∨ x0 = 9 ∨ x0 = 4 ∨ x0 = 5) := by omega
theorem la_bindsOf_152 {x0 : Int} (h0 : x0 = 37 ∨ x0 = 38 ∨ x0 = 39) : ¬ x0 = 15 := by omega
theorem la_bindsOf_153 {x0 : Int} (h0 : x0 = 37 ∨ x0 = 38 ∨ x0 = 39) : ¬ (x0 = 35 ∨ x0 = 36) := by omega
theorem la_bindsOf_154 {x0 : Int} (h0 : x0 = 37 ∨ x0 = 38 ∨ x0 = 39) : ¬ x0 = 40 := by omega
theorem la_bindsOf_155 {x0 : Int} (h0 : x0 = 37 ∨ x0 = 38 ∨ x0 = 39) : ¬ x0 = 14 := by omega
theorem la_bindsOf_156 {x0 : Int} (h0 : x0 = 37 ∨ x0 = 38 ∨ x0 = 39) : ¬ (x0 = 12 ∨ x0 = 13 ∨ x0 = 3) := by omega
theorem la_bindsOf_157 {x0 x1 : Int} (h0 : x0 = 37 ∨ x0 = 38 ∨ x0 = 39) : ¬ (x0 = 14 ∨ x0 = 13 ∧ x1 = 1) := by omega
theorem la_bindsOf_158 {x0 x1 x2 x3 x4 x5 x6 x7 x8 x9 x10 x11 : Int} (h0 : x0 = 9) (h1 : x1 = x2) (h2 : x3 = x1) (h3 : x4 = x5) (h4 : x6 = x7) (h5 : x7 = x8) (h6 : x9 = x4) (h7 : x2 = x10) (h8 : x11 = x0) (h9 : x8 = x9) (h10 : x10 = x6) (h11 : x5 = x11) : 9 = x3 := by omega
theorem la_bindsOf_159 {x0 x1 : Int} (h0 : x0 = (-1)) (h1 : x1 = x0) : (-1) = x1 := by omega
theorem la_bindsOf_160 {x0 : Int} (h0 : ¬ ¬ x0 = 2) : ¬ (6 : Int) = (-1) → x0 = 2 ∨ x0 = 5 := by omega
theorem la_bindsOf_161 {x0 : Int} (h0 : ¬ ¬ x0 = 2) : ¬ x0 = 5 := by omega
theorem la_bindsOf_162 {x0 : Int} (h0 : ¬ ¬ x0 = 2) : x0 = 2 := by omega
theorem la_bindsOf_163 {x0 x1 : Int} (h0 : x0 = x1) (h1 : x1 = 6) : 6 = x0 := by omega
theorem la_bindsOf_164 {x0 x1 : Int} (h0 : ¬ x0 = 14) (h1 : ¬ x0 = 13) : ¬ (x0 = 14 ∨ x0 = 13 ∧ x1 = 1) := by omega
theorem la_bindsOf_165 {x0 x1 : Int} (h0 : x0 = x1) (h1 : x1 = (-1)) : (-1) = x0 := by omega
theorem la_bindsOf_166 {x0 : Int} (h0 : ¬ ¬ x0 = 13) : x0 ≤ 14 := by omega
theorem la_bindsOf_167 {x0 : Int} (h0 : x0 ≤ 14) (h1 : ¬ x0 = 14) : x0 < 14 := by omega
theorem la_bindsOf_168 {x0 : Int} (h0 : ¬ ¬ x0 = 13) (h1 : x0 < 14) : ¬ (x0 = 33 ∨ x0 = 34 ∨ x0 = 6 ∨ x0 = 7) := by omega
theorem la_bindsOf_169 {x0 : Int} (h0 : x0 < 14) : ¬ x0 = 41 := by omega
theorem la_bindsOf_170 {x0 : Int} (h0 : x0 < 14) : ¬ x0 = 42 := by omega
theorem la_bindsOf_171 {x0 : Int} (h0 : x0 < 14) : ¬ (x0 = 37 ∨ x0 = 38 ∨ x0 = 39) := by omega
theorem la_bindsOf_172 {x0 : Int} (h0 : ¬ ¬ x0 = 13) : ¬ (x0 = 8 ∨ x0 = 9 ∨ x0 = 4 ∨ x0 = 5) := by omega
theorem la_bindsOf_173 {x0 : Int} (h0 : x0 < 14) : ¬ x0 = 15 := by omega
theorem la_bindsOf_174 {x0 : Int} (h0 : x0 < 14) : ¬ (x0 = 35 ∨ x0 = 36) := by omega
theorem la_bindsOf_175 {x0 : Int} (h0 : x0 < 14) : ¬ x0 = 40 := by omega
theorem la_bindsOf_176 {x0 : Int} (h0 : ¬ ¬ x0 = 13) : x0 = 12 ∨ x0 = 13 ∨ x0 = 3 := by omega
theorem la_bindsOf_177 {x0 x1 : Int} (h0 : x0 < 14) (h1 : x1 = 0) : ¬ (x0 = 14 ∨ x0 = 13 ∧ x1 = 1) := by omega
theorem la_bindsOf_178 {x0 : Int} (h0 : 0 ≤ x0) (h1 : ¬ x0 = 0) : 0 < x0 := by omega
theorem la_bindsOf_179 {x0 x1 : Int} (h0 : x0 ≤ 1) (h1 : ¬ ¬ x1 = 13) (h2 : x1 < 14) (h3 : 0 < x0) : x1 = 14 ∨ x1 = 13 ∧ x0 = 1 := by omega
set_option maxHeartbeats 2000000 in
theorem f_bindsOf : ∀ (p1 : Int) (S : sv_S), sm_ok S → (0 ≤ p1 ∧ p1 ≤ 1) → (0 ≤ (S 1020 0) ∧ (S 1020 0) ≤ 4000) → (sv_R (S 1020 0) → (0 ≤ (S 1020 0) ∧ (S 1020 0) < 4002) ∧ (sv_R (S 6 (S 1020 0)) → (((¬ (S 6 (S 1020 0)) = (2 : Int)) → ((((S 6 (S 1020 0)) = (5 : Int)) → (sv_R (S 7 (S 1020 0)) → ((((S 7 (S 1020 0)) < (3 : Int) ∨ (42 : Int) < (S 7 (S 1020 0)) ∨ (S 7 (S 1020 0)) = (10 : Int) ∨ (S 7 (S 1020 0)) = (11 : Int) ∨ (S 7 (S 1020 0)) = (16 : Int) ∨ (S 7 (S 1020 0)) = (17 : Int) ∨ (S 7 (S 1020 0)) = (18 : Int) ∨ (S 7 (S 1020 0)) = (19 : Int) ∨ (S 7 (S 1020 0)) = (20 : Int) ∨ (S 7 (S 1020 0)) = (21 : Int) ∨ (S 7 (S 1020 0)) = (22 : Int) ∨ (S 7 (S 1020 0)) = (23 : Int) ∨ (S 7 (S 1020 0)) = (24 : Int) ∨ (S 7 (S 1020 0)) = (25 : Int) ∨ (S 7 (S 1020 0)) = (26 : Int) ∨ (S 7 (S 1020 0)) = (27 : Int) ∨ (S 7 (S 1020 0)) = (28 : Int) ∨ (S 7 (S 1020 0)) = (29 : Int) ∨ (S 7 (S 1020 0)) = (30 : Int) ∨ (S 7 (S 1020 0)) = (31 : Int) ∨ (S 7 (S 1020 0)) = (32 : Int)) → (-1 ≤ (-1 : Int) ∧ (-1 : Int) ≤ 9 ∧ (¬ (-1 : Int) = -1 → (S 6 (S 1020 0)) = 2 ∨ (S 6 (S 1020 0)) = 5) ∧ (-1 : Int) = (if (S 6 (S 1020 0)) = 2 then (if (S 7 (S 1020 0)) = 14 ∨ (S 7 (S 1020 0)) = 13 ∧ p1 = 1 then 6 else -1) else if (S 6 (S 1020 0)) = 5 then if (S 7 (S 1020 0)) = 15 then 0 else if (S 7 (S 1020 0)) = 14 then 1 else if (S 7 (S 1020 0)) = 41 then 2 else if (S 7 (S 1020 0)) = 42 then 3 else if (S 7 (S 1020 0)) = 40 then 4 else if (S 7 (S 1020 0)) = 8 ∨ (S 7 (S 1020 0)) = 9 ∨ (S 7 (S 1020 0)) = 4 ∨ (S 7 (S 1020 0)) = 5 then 5 else if (S 7 (S 1020 0)) = 33 ∨ (S 7 (S 1020 0)) = 34 ∨ (S 7 (S 1020 0)) = 6 ∨ (S 7 (S 1020 0)) = 7 then 6 else if (S 7 (S 1020 0)) = 12 ∨ (S 7 (S 1020 0)) = 13 ∨ (S 7 (S 1020 0)) = 3 then 7 else if (S 7 (S 1020 0)) = 35 ∨ (S 7 (S 1020 0)) = 36 then 8 else if (S 7 (S 1020 0)) = 37 ∨ (S 7 (S 1020 0)) = 38 ∨ (S 7 (S 1020 0)) = 39 then 9 else -1 else -1))) ∧ (((S 7 (S 1020 0)) = (15 : Int)) → (-1 ≤ (0 : Int) ∧ (0 : Int) ≤ 9 ∧ (¬ (0 : Int) = -1 → (S 6 (S 1020 0)) = 2 ∨ (S 6 (S 1020 0)) = 5) ∧ (0 : Int) = (if (S 6 (S 1020 0)) = 2 then (if (S 7 (S 1020 0)) = 14 ∨ (S 7 (S 1020 0)) = 13 ∧ p1 = 1 then 6 else -1) else if (S 6 (S 1020 0)) = 5 then if (S 7 (S 1020 0)) = 15 then 0 else if (S 7 (S 1020 0)) = 14 then 1 else if (S 7 (S 1020 0)) = 41 then 2 else if (S 7 (S 1020 0)) = 42 then 3 else if (S 7 (S 1020 0)) = 40 then 4 else if (S 7 (S 1020 0)) = 8 ∨ (S 7 (S 1020 0)) = 9 ∨ (S 7 (S 1020 0)) = 4 ∨ (S 7 (S 1020 0)) = 5 then 5 else if (S 7 (S 1020 0)) = 33 ∨ (S 7 (S 1020 0)) = 34 ∨ (S 7 (S 1020 0)) = 6 ∨ (S 7 (S 1020 0)) = 7 then 6 else if (S 7 (S 1020 0)) = 12 ∨ (S 7 (S 1020 0)) = 13 ∨ (S 7 (S 1020 0)) = 3 then 7 else if (S 7 (S 1020 0)) = 35 ∨ (S 7 (S 1020 0)) = 36 then 8 else if (S 7 (S 1020 0)) = 37 ∨ (S 7 (S 1020 0)) = 38 ∨ (S 7 (S 1020 0)) = 39 then 9 else -1 else -1))) ∧ (((S 7 (S 1020 0)) = (14 : Int)) → (-1 ≤ (1 : Int) ∧ (1 : Int) ≤ 9 ∧ (¬ (1 : Int) = -1 → (S 6 (S 1020 0)) = 2 ∨ (S 6 (S 1020 0)) = 5) ∧ (1 : Int) = (if (S 6 (S 1020 0)) = 2 then (if (S 7 (S 1020 0)) = 14 ∨ (S 7 (S 1020 0)) = 13 ∧ p1 = 1 then 6 else -1) else if (S 6 (S 1020 0)) = 5 then if (S 7 (S 1020 0)) = 15 then 0 else if (S 7 (S 1020 0)) = 14 then 1 else if (S 7 (S 1020 0)) = 41 then 2 else if (S 7 (S 1020 0)) = 42 then 3 else if (S 7 (S 1020 0)) = 40 then 4 else if (S 7 (S 1020 0)) = 8 ∨ (S 7 (S 1020 0)) = 9 ∨ (S 7 (S 1020 0)) = 4 ∨ (S 7 (S 1020 0)) = 5 then 5 else if (S 7 (S 1020 0)) = 33 ∨ (S 7 (S 1020 0)) = 34 ∨ (S 7 (S 1020 0)) = 6 ∨ (S 7 (S 1020 0)) = 7 then 6 else if (S 7 (S 1020 0)) = 12 ∨ (S 7 (S 1020 0)) = 13 ∨ (S 7 (S 1020 0)) = 3 then 7 else if (S 7 (S 1020 0)) = 35 ∨ (S 7 (S 1020 0)) = 36 then 8 else if (S 7 (S 1020 0)) = 37 ∨ (S 7 (S 1020 0)) = 38 ∨ (S 7 (S 1020 0)) = 39 then 9 else -1 else -1))) ∧ (((S 7 (S 1020 0)) = (41 : Int)) → (-1 ≤ (2 : Int) ∧ (2 : Int) ≤ 9 ∧ (¬ (2 : Int) = -1 → (S 6 (S 1020 0)) = 2 ∨ (S 6 (S 1020 0)) = 5) ∧ (2 : Int) = (if (S 6 (S 1020 0)) = 2 then (if (S 7 (S 1020 0)) = 14 ∨ (S 7 (S 1020 0)) = 13 ∧ p1 = 1 then 6 else -1) else if (S 6 (S 1020 0)) = 5 then if (S 7 (S 1020 0)) = 15 then 0 else if (S 7 (S 1020 0)) = 14 then 1 else if (S 7 (S 1020 0)) = 41 then 2 else if (S 7 (S 1020 0)) = 42 then 3 else if (S 7 (S 1020 0)) = 40 then 4 else if (S 7 (S 1020 0)) = 8 ∨ (S 7 (S 1020 0)) = 9 ∨ (S 7 (S 1020 0)) = 4 ∨ (S 7 (S 1020 0)) = 5 then 5 else if (S 7 (S 1020 0)) = 33 ∨ (S 7 (S 1020 0)) = 34 ∨ (S 7 (S 1020 0)) = 6 ∨ (S 7 (S 1020 0)) = 7 then 6 else if (S 7 (S 1020 0)) = 12 ∨ (S 7 (S 1020 0)) = 13 ∨ (S 7 (S 1020 0)) = 3 then 7 else if (S 7 (S 1020 0)) = 35 ∨ (S 7 (S 1020 0)) = 36 then 8 else if (S 7 (S 1020 0)) = 37 ∨ (S 7 (S 1020 0)) = 38 ∨ (S 7 (S 1020 0)) = 39 then 9 else -1 else -1))) ∧ (((S 7 (S 1020 0)) = (42 : Int)) → (-1 ≤ (3 : Int) ∧ (3 : Int) ≤ 9 ∧ (¬ (3 : Int) = -1 → (S 6 (S 1020 0)) = 2 ∨ (S 6 (S 1020 0)) = 5) ∧ (3 : Int) = (if (S 6 (S 1020 0)) = 2 then (if (S 7 (S 1020 0)) = 14 ∨ (S 7 (S 1020 0)) = 13 ∧ p1 = 1 then 6 else -1) else if (S 6 (S 1020 0)) = 5 then if (S 7 (S 1020 0)) = 15 then 0 else if (S 7 (S 1020 0)) = 14 then 1 else if (S 7 (S 1020 0)) = 41 then 2 else if (S 7 (S 1020 0)) = 42 then 3 else if (S 7 (S 1020 0)) = 40 then 4 else if (S 7 (S 1020 0)) = 8 ∨ (S 7 (S 1020 0)) = 9 ∨ (S 7 (S 1020 0)) = 4 ∨ (S 7 (S 1020 0)) = 5 then 5 else if (S 7 (S 1020 0)) = 33 ∨ (S 7 (S 1020 0)) = 34 ∨ (S 7 (S 1020 0)) = 6 ∨ (S 7 (S 1020 0)) = 7 then 6 else if (S 7 (S 1020 0)) = 12 ∨ (S 7 (S 1020 0)) = 13 ∨ (S 7 (S 1020 0)) = 3 then 7 else if (S 7 (S 1020 0)) = 35 ∨ (S 7 (S 1020 0)) = 36 then 8 else if (S 7 (S 1020 0)) = 37 ∨ (S 7 (S 1020 0)) = 38 ∨ (S 7 (S 1020 0)) = 39 then 9 else -1 else -1))) ∧ (((S 7 (S 1020 0)) = (40 : Int)) → (-1 ≤ (4 : Int) ∧ (4 : Int) ≤ 9 ∧ (¬ (4 : Int) = -1 → (S 6 (S 1020 0)) = 2 ∨ (S 6 (S 1020 0)) = 5) ∧ (4 : Int) = (if (S 6 (S 1020 0)) = 2 then (if (S 7 (S 1020 0)) = 14 ∨ (S 7 (S 1020 0)) = 13 ∧ p1 = 1 then 6 else -1) else if (S 6 (S 1020 0)) = 5 then if (S 7 (S 1020 0)) = 15 then 0 else if (S 7 (S 1020 0)) = 14 then 1 else if (S 7 (S 1020 0)) = 41 then 2 else if (S 7 (S 1020 0)) = 42 then 3 else if (S 7 (S 1020 0)) = 40 then 4 else if (S 7 (S 1020 0)) = 8 ∨ (S 7 (S 1020 0)) = 9 ∨ (S 7 (S 1020 0)) = 4 ∨ (S 7 (S 1020 0)) = 5 then 5 else if (S 7 (S 1020 0)) = 33 ∨ (S 7 (S 1020 0)) = 34 ∨ (S 7 (S 1020 0)) = 6 ∨ (S 7 (S 1020 0)) = 7 then 6 else if (S 7 (S 1020 0)) = 12 ∨ (S 7 (S 1020 0)) = 13 ∨ (S 7 (S 1020 0)) = 3 then 7 else if (S 7 (S 1020 0)) = 35 ∨ (S 7 (S 1020 0)) = 36 then 8 else if (S 7 (S 1020 0)) = 37 ∨ (S 7 (S 1020 0)) = 38 ∨ (S 7 (S 1020 0)) = 39 then 9 else -1 else -1))) ∧ (((S 7 (S 1020 0)) = (4 : Int) ∨ (S 7 (S 1020 0)) = (5 : Int) ∨ (S 7 (S 1020 0)) = (8 : Int) ∨ (S 7 (S 1020 0)) = (9 : Int)) → (-1 ≤ (5 : Int) ∧ (5 : Int) ≤ 9 ∧ (¬ (5 : Int) = -1 → (S 6 (S 1020 0)) = 2 ∨ (S 6 (S 1020 0)) = 5) ∧ (5 : Int) = (if (S 6 (S 1020 0)) = 2 then (if (S 7 (S 1020 0)) = 14 ∨ (S 7 (S 1020 0)) = 13 ∧ p1 = 1 then 6 else -1) else if (S 6 (S 1020 0)) = 5 then if (S 7 (S 1020 0)) = 15 then 0 else if (S 7 (S 1020 0)) = 14 then 1 else if (S 7 (S 1020 0)) = 41 then 2 else if (S 7 (S 1020 0)) = 42 then 3 else if (S 7 (S 1020 0)) = 40 then 4 else if (S 7 (S 1020 0)) = 8 ∨ (S 7 (S 1020 0)) = 9 ∨ (S 7 (S 1020 0)) = 4 ∨ (S 7 (S 1020 0)) = 5 then 5 else if (S 7 (S 1020 0)) = 33 ∨ (S 7 (S 1020 0)) = 34 ∨ (S 7 (S 1020 0)) = 6 ∨ (S 7 (S 1020 0)) = 7 then 6 else if (S 7 (S 1020 0)) = 12 ∨ (S 7 (S 1020 0)) = 13 ∨ (S 7 (S 1020 0)) = 3 then 7 else if (S 7 (S 1020 0)) = 35 ∨ (S 7 (S 1020 0)) = 36 then 8 else if (S 7 (S 1020 0)) = 37 ∨ (S 7 (S 1020 0)) = 38 ∨ (S 7 (S 1020 0)) = 39 then 9 else -1 else -1))) ∧ (((S 7 (S 1020 0)) = (6 : Int) ∨ (S 7 (S 1020 0)) = (7 : Int) ∨ (S 7 (S 1020 0)) = (33 : Int) ∨ (S 7 (S 1020 0)) = (34 : Int)) → (-1 ≤ (6 : Int) ∧ (6 : Int) ≤ 9 ∧ (¬ (6 : Int) = -1 → (S 6 (S 1020 0)) = 2 ∨ (S 6 (S 1020 0)) = 5) ∧ (6 : Int) = (if (S 6 (S 1020 0)) = 2 then (if (S 7 (S 1020 0)) = 14 ∨ (S 7 (S 1020 0)) = 13 ∧ p1 = 1 then 6 else -1) else if (S 6 (S 1020 0)) = 5 then if (S 7 (S 1020 0)) = 15 then 0 else if (S 7 (S 1020 0)) = 14 then 1 else if (S 7 (S 1020 0)) = 41 then 2 else if (S 7 (S 1020 0)) = 42 then 3 else if (S 7 (S 1020 0)) = 40 then 4 else if (S 7 (S 1020 0)) = 8 ∨ (S 7 (S 1020 0)) = 9 ∨ (S 7 (S 1020 0)) = 4 ∨ (S 7 (S 1020 0)) = 5 then 5 else if (S 7 (S 1020 0)) = 33 ∨ (S 7 (S 1020 0)) = 34 ∨ (S 7 (S 1020 0)) = 6 ∨ (S 7 (S 1020 0)) = 7 then 6 else if (S 7 (S 1020 0)) = 12 ∨ (S 7 (S 1020 0)) = 13 ∨ (S 7 (S 1020 0)) = 3 then 7 else if (S 7 (S 1020 0)) = 35 ∨ (S 7 (S 1020 0)) = 36 then 8 else if (S 7 (S 1020 0)) = 37 ∨ (S 7 (S 1020 0)) = 38 ∨ (S 7 (S 1020 0)) = 39 then 9 else -1 else -1))) ∧ (((S 7 (S 1020 0)) = (3 : Int) ∨ (S 7 (S 1020 0)) = (12 : Int) ∨ (S 7 (S 1020 0)) = (13 : Int)) → (-1 ≤ (7 : Int) ∧ (7 : Int) ≤ 9 ∧ (¬ (7 : Int) = -1 → (S 6 (S 1020 0)) = 2 ∨ (S 6 (S 1020 0)) = 5) ∧ (7 : Int) = (if (S 6 (S 1020 0)) = 2 then (if (S 7 (S 1020 0)) = 14 ∨ (S 7 (S 1020 0)) = 13 ∧ p1 = 1 then 6 else -1) else if (S 6 (S 1020 0)) = 5 then if (S 7 (S 1020 0)) = 15 then 0 else if (S 7 (S 1020 0)) = 14 then 1 else if (S 7 (S 1020 0)) = 41 then 2 else if (S 7 (S 1020 0)) = 42 then 3 else if (S 7 (S 1020 0)) = 40 then 4 else if (S 7 (S 1020 0)) = 8 ∨ (S 7 (S 1020 0)) = 9 ∨ (S 7 (S 1020 0)) = 4 ∨ (S 7 (S 1020 0)) = 5 then 5 else if (S 7 (S 1020 0)) = 33 ∨ (S 7 (S 1020 0)) = 34 ∨ (S 7 (S 1020 0)) = 6 ∨ (S 7 (S 1020 0)) = 7 then 6 else if (S 7 (S 1020 0)) = 12 ∨ (S 7 (S 1020 0)) = 13 ∨ (S 7 (S 1020 0)) = 3 then 7 else if (S 7 (S 1020 0)) = 35 ∨ (S 7 (S 1020 0)) = 36 then 8 else if (S 7 (S 1020 0)) = 37 ∨ (S 7 (S 1020 0)) = 38 ∨ (S 7 (S 1020 0)) = 39 then 9 else -1 else -1))) ∧ (((S 7 (S 1020 0)) = (35 : Int) ∨ (S 7 (S 1020 0)) = (36 : Int)) → (-1 ≤ (8 : Int) ∧ (8 : Int) ≤ 9 ∧ (¬ (8 : Int) = -1 → (S 6 (S 1020 0)) = 2 ∨ (S 6 (S 1020 0)) = 5) ∧ (8 : Int) = (if (S 6 (S 1020 0)) = 2 then (if (S 7 (S 1020 0)) = 14 ∨ (S 7 (S 1020 0)) = 13 ∧ p1 = 1 then 6 else -1) else if (S 6 (S 1020 0)) = 5 then if (S 7 (S 1020 0)) = 15 then 0 else if (S 7 (S 1020 0)) = 14 then 1 else if (S 7 (S 1020 0)) = 41 then 2 else if (S 7 (S 1020 0)) = 42 then 3 else if (S 7 (S 1020 0)) = 40 then 4 else if (S 7 (S 1020 0)) = 8 ∨ (S 7 (S 1020 0)) = 9 ∨ (S 7 (S 1020 0)) = 4 ∨ (S 7 (S 1020 0)) = 5 then 5 else if (S 7 (S 1020 0)) = 33 ∨ (S 7 (S 1020 0)) = 34 ∨ (S 7 (S 1020 0)) = 6 ∨ (S 7 (S 1020 0)) = 7 then 6 else if (S 7 (S 1020 0)) = 12 ∨ (S 7 (S 1020 0)) = 13 ∨ (S 7 (S 1020 0)) = 3 then 7 else if (S 7 (S 1020 0)) = 35 ∨ (S 7 (S 1020 0)) = 36 then 8 else if (S 7 (S 1020 0)) = 37 ∨ (S 7 (S 1020 0)) = 38 ∨ (S 7 (S 1020 0)) = 39 then 9 else -1 else -1))) ∧ (((S 7 (S 1020 0)) = (37 : Int) ∨ (S 7 (S 1020 0)) = (38 : Int) ∨ (S 7 (S 1020 0)) = (39 : Int)) → (-1 ≤ (9 : Int) ∧ (9 : Int) ≤ 9 ∧ (¬ (9 : Int) = -1 → (S 6 (S 1020 0)) = 2 ∨ (S 6 (S 1020 0)) = 5) ∧ (9 : Int) = (if (S 6 (S 1020 0)) = 2 then (if (S 7 (S 1020 0)) = 14 ∨ (S 7 (S 1020 0)) = 13 ∧ p1 = 1 then 6 else -1) else if (S 6 (S 1020 0)) = 5 then if (S 7 (S 1020 0)) = 15 then 0 else if (S 7 (S 1020 0)) = 14 then 1 else if (S 7 (S 1020 0)) = 41 then 2 else if (S 7 (S 1020 0)) = 42 then 3 else if (S 7 (S 1020 0)) = 40 then 4 else if (S 7 (S 1020 0)) = 8 ∨ (S 7 (S 1020 0)) = 9 ∨ (S 7 (S 1020 0)) = 4 ∨ (S 7 (S 1020 0)) = 5 then 5 else if (S 7 (S 1020 0)) = 33 ∨ (S 7 (S 1020 0)) = 34 ∨ (S 7 (S 1020 0)) = 6 ∨ (S 7 (S 1020 0)) = 7 then 6 else if (S 7 (S 1020 0)) = 12 ∨ (S 7 (S 1020 0)) = 13 ∨ (S 7 (S 1020 0)) = 3 then 7 else if (S 7 (S 1020 0)) = 35 ∨ (S 7 (S 1020 0)) = 36 then 8 else if (S 7 (S 1020 0)) = 37 ∨ (S 7 (S 1020 0)) = 38 ∨ (S 7 (S 1020 0)) = 39 then 9 else -1 else -1)))))) ∧ ((¬ ((S 6 (S 1020 0)) = (5 : Int))) → (-1 ≤ (-1 : Int) ∧ (-1 : Int) ≤ 9 ∧ (¬ (-1 : Int) = -1 → (S 6 (S 1020 0)) = 2 ∨ (S 6 (S 1020 0)) = 5) ∧ (-1 : Int) = (if (S 6 (S 1020 0)) = 2 then (if (S 7 (S 1020 0)) = 14 ∨ (S 7 (S 1020 0)) = 13 ∧ p1 = 1 then 6 else -1) else if (S 6 (S 1020 0)) = 5 then if (S 7 (S 1020 0)) = 15 then 0 else if (S 7 (S 1020 0)) = 14 then 1 else if (S 7 (S 1020 0)) = 41 then 2 else if (S 7 (S 1020 0)) = 42 then 3 else if (S 7 (S 1020 0)) = 40 then 4 else if (S 7 (S 1020 0)) = 8 ∨ (S 7 (S 1020 0)) = 9 ∨ (S 7 (S 1020 0)) = 4 ∨ (S 7 (S 1020 0)) = 5 then 5 else if (S 7 (S 1020 0)) = 33 ∨ (S 7 (S 1020 0)) = 34 ∨ (S 7 (S 1020 0)) = 6 ∨ (S 7 (S 1020 0)) = 7 then 6 else if (S 7 (S 1020 0)) = 12 ∨ (S 7 (S 1020 0)) = 13 ∨ (S 7 (S 1020 0)) = 3 then 7 else if (S 7 (S 1020 0)) = 35 ∨ (S 7 (S 1020 0)) = 36 then 8 else if (S 7 (S 1020 0)) = 37 ∨ (S 7 (S 1020 0)) = 38 ∨ (S 7 (S 1020 0)) = 39 then 9 else -1 else -1))))) ∧ ((¬ (¬ (S 6 (S 1020 0)) = (2 : Int))) → (sv_R (S 7 (S 1020 0)) → ((((S 7 (S 1020 0)) = (14 : Int)) → (-1 ≤ (6 : Int) ∧ (6 : Int) ≤ 9 ∧ (¬ (6 : Int) = -1 → (S 6 (S 1020 0)) = 2 ∨ (S 6 (S 1020 0)) = 5) ∧ (6 : Int) = (if (S 6 (S 1020 0)) = 2 then (if (S 7 (S 1020 0)) = 14 ∨ (S 7 (S 1020 0)) = 13 ∧ p1 = 1 then 6 else -1) else if (S 6 (S 1020 0)) = 5 then if (S 7 (S 1020 0)) = 15 then 0 else if (S 7 (S 1020 0)) = 14 then 1 else if (S 7 (S 1020 0)) = 41 then 2 else if (S 7 (S 1020 0)) = 42 then 3 else if (S 7 (S 1020 0)) = 40 then 4 else if (S 7 (S 1020 0)) = 8 ∨ (S 7 (S 1020 0)) = 9 ∨ (S 7 (S 1020 0)) = 4 ∨ (S 7 (S 1020 0)) = 5 then 5 else if (S 7 (S 1020 0)) = 33 ∨ (S 7 (S 1020 0)) = 34 ∨ (S 7 (S 1020 0)) = 6 ∨ (S 7 (S 1020 0)) = 7 then 6 else if (S 7 (S 1020 0)) = 12 ∨ (S 7 (S 1020 0)) = 13 ∨ (S 7 (S 1020 0)) = 3 then 7 else if (S 7 (S 1020 0)) = 35 ∨ (S 7 (S 1020 0)) = 36 then 8 else if (S 7 (S 1020 0)) = 37 ∨ (S 7 (S 1020 0)) = 38 ∨ (S 7 (S 1020 0)) = 39 then 9 else -1 else -1))) ∧ ((¬ ((S 7 (S 1020 0)) = (14 : Int))) → (((¬ (S 7 (S 1020 0)) = (13 : Int)) → (-1 ≤ (-1 : Int) ∧ (-1 : Int) ≤ 9 ∧ (¬ (-1 : Int) = -1 → (S 6 (S 1020 0)) = 2 ∨ (S 6 (S 1020 0)) = 5) ∧ (-1 : Int) = (if (S 6 (S 1020 0)) = 2 then (if (S 7 (S 1020 0)) = 14 ∨ (S 7 (S 1020 0)) = 13 ∧ p1 = 1 then 6 else -1) else if (S 6 (S 1020 0)) = 5 then if (S 7 (S 1020 0)) = 15 then 0 else if (S 7 (S 1020 0)) = 14 then 1 else if (S 7 (S 1020 0)) = 41 then 2 else if (S 7 (S 1020 0)) = 42 then 3 else if (S 7 (S 1020 0)) = 40 then 4 else if (S 7 (S 1020 0)) = 8 ∨ (S 7 (S 1020 0)) = 9 ∨ (S 7 (S 1020 0)) = 4 ∨ (S 7 (S 1020 0)) = 5 then 5 else if (S 7 (S 1020 0)) = 33 ∨ (S 7 (S 1020 0)) = 34 ∨ (S 7 (S 1020 0)) = 6 ∨ (S 7 (S 1020 0)) = 7 then 6 else if (S 7 (S 1020 0)) = 12 ∨ (S 7 (S 1020 0)) = 13 ∨ (S 7 (S 1020 0)) = 3 then 7 else if (S 7 (S 1020 0)) = 35 ∨ (S 7 (S 1020 0)) = 36 then 8 else if (S 7 (S 1020 0)) = 37 ∨ (S 7 (S 1020 0)) = 38 ∨ (S 7 (S 1020 0)) = 39 then 9 else -1 else -1))) ∧ ((¬ (¬ (S 7 (S 1020 0)) = (13 : Int))) → (((p1 = (0 : Int)) → (-1 ≤ (-1 : Int) ∧ (-1 : Int) ≤ 9 ∧ (¬ (-1 : Int) = -1 → (S 6 (S 1020 0)) = 2 ∨ (S 6 (S 1020 0)) = 5) ∧ (-1 : Int) = (if (S 6 (S 1020 0)) = 2 then (if (S 7 (S 1020 0)) = 14 ∨ (S 7 (S 1020 0)) = 13 ∧ p1 = 1 then 6 else -1) else if (S 6 (S 1020 0)) = 5 then if (S 7 (S 1020 0)) = 15 then 0 else if (S 7 (S 1020 0)) = 14 then 1 else if (S 7 (S 1020 0)) = 41 then 2 else if (S 7 (S 1020 0)) = 42 then 3 else if (S 7 (S 1020 0)) = 40 then 4 else if (S 7 (S 1020 0)) = 8 ∨ (S 7 (S 1020 0)) = 9 ∨ (S 7 (S 1020 0)) = 4 ∨ (S 7 (S 1020 0)) = 5 then 5 else if (S 7 (S 1020 0)) = 33 ∨ (S 7 (S 1020 0)) = 34 ∨ (S 7 (S 1020 0)) = 6 ∨ (S 7 (S 1020 0)) = 7 then 6 else if (S 7 (S 1020 0)) = 12 ∨ (S 7 (S 1020 0)) = 13 ∨ (S 7 (S 1020 0)) = 3 then 7 else if (S 7 (S 1020 0)) = 35 ∨ (S 7 (S 1020 0)) = 36 then 8 else if (S 7 (S 1020 0)) = 37 ∨ (S 7 (S 1020 0)) = 38 ∨ (S 7 (S 1020 0)) = 39 then 9 else -1 else -1))) ∧ ((¬ (p1 = (0 : Int))) → (-1 ≤ (6 : Int) ∧ (6 : Int) ≤ 9 ∧ (¬ (6 : Int) = -1 → (S 6 (S 1020 0)) = 2 ∨ (S 6 (S 1020 0)) = 5) ∧ (6 : Int) = (if (S 6 (S 1020 0)) = 2 then (if (S 7 (S 1020 0)) = 14 ∨ (S 7 (S 1020 0)) = 13 ∧ p1 = 1 then 6 else -1) else if (S 6 (S 1020 0)) = 5 then if (S 7 (S 1020 0)) = 15 then 0 else if (S 7 (S 1020 0)) = 14 then 1 else if (S 7 (S 1020 0)) = 41 then 2 else if (S 7 (S 1020 0)) = 42 then 3 else if (S 7 (S 1020 0)) = 40 then 4 else if (S 7 (S 1020 0)) = 8 ∨ (S 7 (S 1020 0)) = 9 ∨ (S 7 (S 1020 0)) = 4 ∨ (S 7 (S 1020 0)) = 5 then 5 else if (S 7 (S 1020 0)) = 33 ∨ (S 7 (S 1020 0)) = 34 ∨ (S 7 (S 1020 0)) = 6 ∨ (S 7 (S 1020 0)) = 7 then 6 else if (S 7 (S 1020 0)) = 12 ∨ (S 7 (S 1020 0)) = 13 ∨ (S 7 (S 1020 0)) = 3 then 7 else if (S 7 (S 1020 0)) = 35 ∨ (S 7 (S 1020 0)) = 36 then 8 else if (S 7 (S 1020 0)) = 37 ∨ (S 7 (S 1020 0)) = 38 ∨ (S 7 (S 1020 0)) = 39 then 9 else -1 else -1))))))))))))) := by
  intro p1
  intro S
  intro h1_
  rintro ⟨h2_, h3_⟩
  rintro ⟨h4_, h5_⟩
  intro h6_
  refine ⟨(la_bindsOf_0 h4_ h5_), ?_⟩
  intro h7_
  refine ⟨?_, ?_⟩
  · skip
    intro h8_
    refine ⟨?_, ?_⟩
    · skip
      intro h9_
      intro h10_
      refine ⟨?_, ?_⟩
      · skip
        intro h11_
        refine ⟨la_bindsOf_3, ?_⟩
        refine ⟨la_bindsOf_4, ?_⟩
        refine ⟨la_bindsOf_5, ?_⟩
        have e12_ : (if S 6 (S 1020 0) = 5 then (if S 7 (S 1020 0) = 15 then 0 else (if S 7 (S 1020 0) = 14 then 1 else (if S 7 (S 1020 0) = 41 then 2 else (if S 7 (S 1020 0) = 42 then 3 else (if S 7 (S 1020 0) = 40 then 4 else (if S 7 (S 1020 0) = 8 ∨ S 7 (S 1020 0) = 9 ∨ S 7 (S 1020 0) = 4 ∨ S 7 (S 1020 0) = 5 then 5 else (if S 7 (S 1020 0) = 33 ∨ S 7 (S 1020 0) = 34 ∨ S 7 (S 1020 0) = 6 ∨ S 7 (S 1020 0) = 7 then 6 else (if S 7 (S 1020 0) = 12 ∨ S 7 (S 1020 0) = 13 ∨ S 7 (S 1020 0) = 3 then 7 else (if S 7 (S 1020 0) = 35 ∨ S 7 (S 1020 0) = 36 then 8 else (if S 7 (S 1020 0) = 37 ∨ S 7 (S 1020 0) = 38 ∨ S 7 (S 1020 0) = 39 then 9 else (-1))))))))))) else (-1) : Int) = (if S 7 (S 1020 0) = 15 then 0 else (if S 7 (S 1020 0) = 14 then 1 else (if S 7 (S 1020 0) = 41 then 2 else (if S 7 (S 1020 0) = 42 then 3 else (if S 7 (S 1020 0) = 40 then 4 else (if S 7 (S 1020 0) = 8 ∨ S 7 (S 1020 0) = 9 ∨ S 7 (S 1020 0) = 4 ∨ S 7 (S 1020 0) = 5 then 5 else (if S 7 (S 1020 0) = 33 ∨ S 7 (S 1020 0) = 34 ∨ S 7 (S 1020 0) = 6 ∨ S 7 (S 1020 0) = 7 then 6 else (if S 7 (S 1020 0) = 12 ∨ S 7 (S 1020 0) = 13 ∨ S 7 (S 1020 0) = 3 then 7 else (if S 7 (S 1020 0) = 35 ∨ S 7 (S 1020 0) = 36 then 8 else (if S 7 (S 1020 0) = 37 ∨ S 7 (S 1020 0) = 38 ∨ S 7 (S 1020 0) = 39 then 9 else (-1))))))))))) := if_pos h9_
        have e13_ : (if S 6 (S 1020 0) = 2 then (if S 7 (S 1020 0) = 14 ∨ S 7 (S 1020 0) = 13 ∧ p1 = 1 then 6 else (-1)) else (if S 6 (S 1020 0) = 5 then (if S 7 (S 1020 0) = 15 then 0 else (if S 7 (S 1020 0) = 14 then 1 else (if S 7 (S 1020 0) = 41 then 2 else (if S 7 (S 1020 0) = 42 then 3 else (if S 7 (S 1020 0) = 40 then 4 else (if S 7 (S 1020 0) = 8 ∨ S 7 (S 1020 0) = 9 ∨ S 7 (S 1020 0) = 4 ∨ S 7 (S 1020 0) = 5 then 5 else (if S 7 (S 1020 0) = 33 ∨ S 7 (S 1020 0) = 34 ∨ S 7 (S 1020 0) = 6 ∨ S 7 (S 1020 0) = 7 then 6 else (if S 7 (S 1020 0) = 12 ∨ S 7 (S 1020 0) = 13 ∨ S 7 (S 1020 0) = 3 then 7 else (if S 7 (S 1020 0) = 35 ∨ S 7 (S 1020 0) = 36 then 8 else (if S 7 (S 1020 0) = 37 ∨ S 7 (S 1020 0) = 38 ∨ S 7 (S 1020 0) = 39 then 9 else (-1))))))))))) else (-1)) : Int) = (if S 6 (S 1020 0) = 5 then (if S 7 (S 1020 0) = 15 then 0 else (if S 7 (S 1020 0) = 14 then 1 else (if S 7 (S 1020 0) = 41 then 2 else (if S 7 (S 1020 0) = 42 then 3 else (if S 7 (S 1020 0) = 40 then 4 else (if S 7 (S 1020 0) = 8 ∨ S 7 (S 1020 0) = 9 ∨ S 7 (S 1020 0) = 4 ∨ S 7 (S 1020 0) = 5 then 5 else (if S 7 (S 1020 0) = 33 ∨ S 7 (S 1020 0) = 34 ∨ S 7 (S 1020 0) = 6 ∨ S 7 (S 1020 0) = 7 then 6 else (if S 7 (S 1020 0) = 12 ∨ S 7 (S 1020 0) = 13 ∨ S 7 (S 1020 0) = 3 then 7 else (if S 7 (S 1020 0) = 35 ∨ S 7 (S 1020 0) = 36 then 8 else (if S 7 (S 1020 0) = 37 ∨ S 7 (S 1020 0) = 38 ∨ S 7 (S 1020 0) = 39 then 9 else (-1))))))))))) else (-1)) := if_neg h8_
        have e14_ : (if S 7 (S 1020 0) = 33 ∨ S 7 (S 1020 0) = 34 ∨ S 7 (S 1020 0) = 6 ∨ S 7 (S 1020 0) = 7 then 6 else (if S 7 (S 1020 0) = 12 ∨ S 7 (S 1020 0) = 13 ∨ S 7 (S 1020 0) = 3 then 7 else (if S 7 (S 1020 0) = 35 ∨ S 7 (S 1020 0) = 36 then 8 else (if S 7 (S 1020 0) = 37 ∨ S 7 (S 1020 0) = 38 ∨ S 7 (S 1020 0) = 39 then 9 else (-1)))) : Int) = (if S 7 (S 1020 0) = 12 ∨ S 7 (S 1020 0) = 13 ∨ S 7 (S 1020 0) = 3 then 7 else (if S 7 (S 1020 0) = 35 ∨ S 7 (S 1020 0) = 36 then 8 else (if S 7 (S 1020 0) = 37 ∨ S 7 (S 1020 0) = 38 ∨ S 7 (S 1020 0) = 39 then 9 else (-1)))) := if_neg (la_bindsOf_6 h11_)
        have e15_ : (if S 7 (S 1020 0) = 41 then 2 else (if S 7 (S 1020 0) = 42 then 3 else (if S 7 (S 1020 0) = 40 then 4 else (if S 7 (S 1020 0) = 8 ∨ S 7 (S 1020 0) = 9 ∨ S 7 (S 1020 0) = 4 ∨ S 7 (S 1020 0) = 5 then 5 else (if S 7 (S 1020 0) = 33 ∨ S 7 (S 1020 0) = 34 ∨ S 7 (S 1020 0) = 6 ∨ S 7 (S 1020 0) = 7 then 6 else (if S 7 (S 1020 0) = 12 ∨ S 7 (S 1020 0) = 13 ∨ S 7 (S 1020 0) = 3 then 7 else (if S 7 (S 1020 0) = 35 ∨ S 7 (S 1020 0) = 36 then 8 else (if S 7 (S 1020 0) = 37 ∨ S 7 (S 1020 0) = 38 ∨ S 7 (S 1020 0) = 39 then 9 else (-1)))))))) : Int) = (if S 7 (S 1020 0) = 42 then 3 else (if S 7 (S 1020 0) = 40 then 4 else (if S 7 (S 1020 0) = 8 ∨ S 7 (S 1020 0) = 9 ∨ S 7 (S 1020 0) = 4 ∨ S 7 (S 1020 0) = 5 then 5 else (if S 7 (S 1020 0) = 33 ∨ S 7 (S 1020 0) = 34 ∨ S 7 (S 1020 0) = 6 ∨ S 7 (S 1020 0) = 7 then 6 else (if S 7 (S 1020 0) = 12 ∨ S 7 (S 1020 0) = 13 ∨ S 7 (S 1020 0) = 3 then 7 else (if S 7 (S 1020 0) = 35 ∨ S 7 (S 1020 0) = 36 then 8 else (if S 7 (S 1020 0) = 37 ∨ S 7 (S 1020 0) = 38 ∨ S 7 (S 1020 0) = 39 then 9 else (-1)))))))) := if_neg (la_bindsOf_7 h11_)
        have e16_ : (if S 7 (S 1020 0) = 42 then 3 else (if S 7 (S 1020 0) = 40 then 4 else (if S 7 (S 1020 0) = 8 ∨ S 7 (S 1020 0) = 9 ∨ S 7 (S 1020 0) = 4 ∨ S 7 (S 1020 0) = 5 then 5 else (if S 7 (S 1020 0) = 33 ∨ S 7 (S 1020 0) = 34 ∨ S 7 (S 1020 0) = 6 ∨ S 7 (S 1020 0) = 7 then 6 else (if S 7 (S 1020 0) = 12 ∨ S 7 (S 1020 0) = 13 ∨ S 7 (S 1020 0) = 3 then 7 else (if S 7 (S 1020 0) = 35 ∨ S 7 (S 1020 0) = 36 then 8 else (if S 7 (S 1020 0) = 37 ∨ S 7 (S 1020 0) = 38 ∨ S 7 (S 1020 0) = 39 then 9 else (-1))))))) : Int) = (if S 7 (S 1020 0) = 40 then 4 else (if S 7 (S 1020 0) = 8 ∨ S 7 (S 1020 0) = 9 ∨ S 7 (S 1020 0) = 4 ∨ S 7 (S 1020 0) = 5 then 5 else (if S 7 (S 1020 0) = 33 ∨ S 7 (S 1020 0) = 34 ∨ S 7 (S 1020 0) = 6 ∨ S 7 (S 1020 0) = 7 then 6 else (if S 7 (S 1020 0) = 12 ∨ S 7 (S 1020 0) = 13 ∨ S 7 (S 1020 0) = 3 then 7 else (if S 7 (S 1020 0) = 35 ∨ S 7 (S 1020 0) = 36 then 8 else (if S 7 (S 1020 0) = 37 ∨ S 7 (S 1020 0) = 38 ∨ S 7 (S 1020 0) = 39 then 9 else (-1))))))) := if_neg (la_bindsOf_8 h11_)
        have e17_ : (if S 7 (S 1020 0) = 37 ∨ S 7 (S 1020 0) = 38 ∨ S 7 (S 1020 0) = 39 then 9 else (-1) : Int) = (-1) := if_neg (la_bindsOf_9 h11_)
        have e18_ : (if S 7 (S 1020 0) = 8 ∨ S 7 (S 1020 0) = 9 ∨ S 7 (S 1020 0) = 4 ∨ S 7 (S 1020 0) = 5 then 5 else (if S 7 (S 1020 0) = 33 ∨ S 7 (S 1020 0) = 34 ∨ S 7 (S 1020 0) = 6 ∨ S 7 (S 1020 0) = 7 then 6 else (if S 7 (S 1020 0) = 12 ∨ S 7 (S 1020 0) = 13 ∨ S 7 (S 1020 0) = 3 then 7 else (if S 7 (S 1020 0) = 35 ∨ S 7 (S 1020 0) = 36 then 8 else (if S 7 (S 1020 0) = 37 ∨ S 7 (S 1020 0) = 38 ∨ S 7 (S 1020 0) = 39 then 9 else (-1))))) : Int) = (if S 7 (S 1020 0) = 33 ∨ S 7 (S 1020 0) = 34 ∨ S 7 (S 1020 0) = 6 ∨ S 7 (S 1020 0) = 7 then 6 else (if S 7 (S 1020 0) = 12 ∨ S 7 (S 1020 0) = 13 ∨ S 7 (S 1020 0) = 3 then 7 else (if S 7 (S 1020 0) = 35 ∨ S 7 (S 1020 0) = 36 then 8 else (if S 7 (S 1020 0) = 37 ∨ S 7 (S 1020 0) = 38 ∨ S 7 (S 1020 0) = 39 then 9 else (-1))))) := if_neg (la_bindsOf_10 h11_)
        have e19_ : (if S 7 (S 1020 0) = 15 then 0 else (if S 7 (S 1020 0) = 14 then 1 else (if S 7 (S 1020 0) = 41 then 2 else (if S 7 (S 1020 0) = 42 then 3 else (if S 7 (S 1020 0) = 40 then 4 else (if S 7 (S 1020 0) = 8 ∨ S 7 (S 1020 0) = 9 ∨ S 7 (S 1020 0) = 4 ∨ S 7 (S 1020 0) = 5 then 5 else (if S 7 (S 1020 0) = 33 ∨ S 7 (S 1020 0) = 34 ∨ S 7 (S 1020 0) = 6 ∨ S 7 (S 1020 0) = 7 then 6 else (if S 7 (S 1020 0) = 12 ∨ S 7 (S 1020 0) = 13 ∨ S 7 (S 1020 0) = 3 then 7 else (if S 7 (S 1020 0) = 35 ∨ S 7 (S 1020 0) = 36 then 8 else (if S 7 (S 1020 0) = 37 ∨ S 7 (S 1020 0) = 38 ∨ S 7 (S 1020 0) = 39 then 9 else (-1)))))))))) : Int) = (if S 7 (S 1020 0) = 14 then 1 else (if S 7 (S 1020 0) = 41 then 2 else (if S 7 (S 1020 0) = 42 then 3 else (if S 7 (S 1020 0) = 40 then 4 else (if S 7 (S 1020 0) = 8 ∨ S 7 (S 1020 0) = 9 ∨ S 7 (S 1020 0) = 4 ∨ S 7 (S 1020 0) = 5 then 5 else (if S 7 (S 1020 0) = 33 ∨ S 7 (S 1020 0) = 34 ∨ S 7 (S 1020 0) = 6 ∨ S 7 (S 1020 0) = 7 then 6 else (if S 7 (S 1020 0) = 12 ∨ S 7 (S 1020 0) = 13 ∨ S 7 (S 1020 0) = 3 then 7 else (if S 7 (S 1020 0) = 35 ∨ S 7 (S 1020 0) = 36 then 8 else (if S 7 (S 1020 0) = 37 ∨ S 7 (S 1020 0) = 38 ∨ S 7 (S 1020 0) = 39 then 9 else (-1)))))))))) := if_neg (la_bindsOf_11 h11_)
        have e20_ : (if S 7 (S 1020 0) = 35 ∨ S 7 (S 1020 0) = 36 then 8 else (if S 7 (S 1020 0) = 37 ∨ S 7 (S 1020 0) = 38 ∨ S 7 (S 1020 0) = 39 then 9 else (-1)) : Int) = (if S 7 (S 1020 0) = 37 ∨ S 7 (S 1020 0) = 38 ∨ S 7 (S 1020 0) = 39 then 9 else (-1)) := if_neg (la_bindsOf_12 h11_)
        have e21_ : (if S 7 (S 1020 0) = 40 then 4 else (if S 7 (S 1020 0) = 8 ∨ S 7 (S 1020 0) = 9 ∨ S 7 (S 1020 0) = 4 ∨ S 7 (S 1020 0) = 5 then 5 else (if S 7 (S 1020 0) = 33 ∨ S 7 (S 1020 0) = 34 ∨ S 7 (S 1020 0) = 6 ∨ S 7 (S 1020 0) = 7 then 6 else (if S 7 (S 1020 0) = 12 ∨ S 7 (S 1020 0) = 13 ∨ S 7 (S 1020 0) = 3 then 7 else (if S 7 (S 1020 0) = 35 ∨ S 7 (S 1020 0) = 36 then 8 else (if S 7 (S 1020 0) = 37 ∨ S 7 (S 1020 0) = 38 ∨ S 7 (S 1020 0) = 39 then 9 else (-1)))))) : Int) = (if S 7 (S 1020 0) = 8 ∨ S 7 (S 1020 0) = 9 ∨ S 7 (S 1020 0) = 4 ∨ S 7 (S 1020 0) = 5 then 5 else (if S 7 (S 1020 0) = 33 ∨ S 7 (S 1020 0) = 34 ∨ S 7 (S 1020 0) = 6 ∨ S 7 (S 1020 0) = 7 then 6 else (if S 7 (S 1020 0) = 12 ∨ S 7 (S 1020 0) = 13 ∨ S 7 (S 1020 0) = 3 then 7 else (if S 7 (S 1020 0) = 35 ∨ S 7 (S 1020 0) = 36 then 8 else (if S 7 (S 1020 0) = 37 ∨ S 7 (S 1020 0) = 38 ∨ S 7 (S 1020 0) = 39 then 9 else (-1)))))) := if_neg (la_bindsOf_13 h11_)
        have e22_ : (if S 7 (S 1020 0) = 14 then 1 else (if S 7 (S 1020 0) = 41 then 2 else (if S 7 (S 1020 0) = 42 then 3 else (if S 7 (S 1020 0) = 40 then 4 else (if S 7 (S 1020 0) = 8 ∨ S 7 (S 1020 0) = 9 ∨ S 7 (S 1020 0) = 4 ∨ S 7 (S 1020 0) = 5 then 5 else (if S 7 (S 1020 0) = 33 ∨ S 7 (S 1020 0) = 34 ∨ S 7 (S 1020 0) = 6 ∨ S 7 (S 1020 0) = 7 then 6 else (if S 7 (S 1020 0) = 12 ∨ S 7 (S 1020 0) = 13 ∨ S 7 (S 1020 0) = 3 then 7 else (if S 7 (S 1020 0) = 35 ∨ S 7 (S 1020 0) = 36 then 8 else (if S 7 (S 1020 0) = 37 ∨ S 7 (S 1020 0) = 38 ∨ S 7 (S 1020 0) = 39 then 9 else (-1))))))))) : Int) = (if S 7 (S 1020 0) = 41 then 2 else (if S 7 (S 1020 0) = 42 then 3 else (if S 7 (S 1020 0) = 40 then 4 else (if S 7 (S 1020 0) = 8 ∨ S 7 (S 1020 0) = 9 ∨ S 7 (S 1020 0) = 4 ∨ S 7 (S 1020 0) = 5 then 5 else (if S 7 (S 1020 0) = 33 ∨ S 7 (S 1020 0) = 34 ∨ S 7 (S 1020 0) = 6 ∨ S 7 (S 1020 0) = 7 then 6 else (if S 7 (S 1020 0) = 12 ∨ S 7 (S 1020 0) = 13 ∨ S 7 (S 1020 0) = 3 then 7 else (if S 7 (S 1020 0) = 35 ∨ S 7 (S 1020 0) = 36 then 8 else (if S 7 (S 1020 0) = 37 ∨ S 7 (S 1020 0) = 38 ∨ S 7 (S 1020 0) = 39 then 9 else (-1))))))))) := if_neg (la_bindsOf_14 h11_)
        have e23_ : (if S 7 (S 1020 0) = 12 ∨ S 7 (S 1020 0) = 13 ∨ S 7 (S 1020 0) = 3 then 7 else (if S 7 (S 1020 0) = 35 ∨ S 7 (S 1020 0) = 36 then 8 else (if S 7 (S 1020 0) = 37 ∨ S 7 (S 1020 0) = 38 ∨ S 7 (S 1020 0) = 39 then 9 else (-1))) : Int) = (if S 7 (S 1020 0) = 35 ∨ S 7 (S 1020 0) = 36 then 8 else (if S 7 (S 1020 0) = 37 ∨ S 7 (S 1020 0) = 38 ∨ S 7 (S 1020 0) = 39 then 9 else (-1))) := if_neg (la_bindsOf_15 h11_)
        have e24_ : (if S 7 (S 1020 0) = 14 ∨ S 7 (S 1020 0) = 13 ∧ p1 = 1 then 6 else (-1) : Int) = (-1) := if_neg (la_bindsOf_16 h11_)
        exact (la_bindsOf_17 e12_ e13_ e14_ e15_ e16_ e17_ e18_ e19_ e20_ e21_ e22_ e23_)
      refine ⟨?_, ?_⟩
      · skip
        intro h25_
        refine ⟨la_bindsOf_18, ?_⟩
        refine ⟨la_bindsOf_19, ?_⟩
        refine ⟨(la_bindsOf_20 h9_), ?_⟩
        have e26_ : (if S 7 (S 1020 0) = 33 ∨ S 7 (S 1020 0) = 34 ∨ S 7 (S 1020 0) = 6 ∨ S 7 (S 1020 0) = 7 then 6 else (if S 7 (S 1020 0) = 12 ∨ S 7 (S 1020 0) = 13 ∨ S 7 (S 1020 0) = 3 then 7 else (if S 7 (S 1020 0) = 35 ∨ S 7 (S 1020 0) = 36 then 8 else (if S 7 (S 1020 0) = 37 ∨ S 7 (S 1020 0) = 38 ∨ S 7 (S 1020 0) = 39 then 9 else (-1)))) : Int) = (if S 7 (S 1020 0) = 12 ∨ S 7 (S 1020 0) = 13 ∨ S 7 (S 1020 0) = 3 then 7 else (if S 7 (S 1020 0) = 35 ∨ S 7 (S 1020 0) = 36 then 8 else (if S 7 (S 1020 0) = 37 ∨ S 7 (S 1020 0) = 38 ∨ S 7 (S 1020 0) = 39 then 9 else (-1)))) := if_neg (la_bindsOf_21 h25_)
        have e27_ : (if S 7 (S 1020 0) = 41 then 2 else (if S 7 (S 1020 0) = 42 then 3 else (if S 7 (S 1020 0) = 40 then 4 else (if S 7 (S 1020 0) = 8 ∨ S 7 (S 1020 0) = 9 ∨ S 7 (S 1020 0) = 4 ∨ S 7 (S 1020 0) = 5 then 5 else (if S 7 (S 1020 0) = 33 ∨ S 7 (S 1020 0) = 34 ∨ S 7 (S 1020 0) = 6 ∨ S 7 (S 1020 0) = 7 then 6 else (if S 7 (S 1020 0) = 12 ∨ S 7 (S 1020 0) = 13 ∨ S 7 (S 1020 0) = 3 then 7 else (if S 7 (S 1020 0) = 35 ∨ S 7 (S 1020 0) = 36 then 8 else (if S 7 (S 1020 0) = 37 ∨ S 7 (S 1020 0) = 38 ∨ S 7 (S 1020 0) = 39 then 9 else (-1)))))))) : Int) = (if S 7 (S 1020 0) = 42 then 3 else (if S 7 (S 1020 0) = 40 then 4 else (if S 7 (S 1020 0) = 8 ∨ S 7 (S 1020 0) = 9 ∨ S 7 (S 1020 0) = 4 ∨ S 7 (S 1020 0) = 5 then 5 else (if S 7 (S 1020 0) = 33 ∨ S 7 (S 1020 0) = 34 ∨ S 7 (S 1020 0) = 6 ∨ S 7 (S 1020 0) = 7 then 6 else (if S 7 (S 1020 0) = 12 ∨ S 7 (S 1020 0) = 13 ∨ S 7 (S 1020 0) = 3 then 7 else (if S 7 (S 1020 0) = 35 ∨ S 7 (S 1020 0) = 36 then 8 else (if S 7 (S 1020 0) = 37 ∨ S 7 (S 1020 0) = 38 ∨ S 7 (S 1020 0) = 39 then 9 else (-1)))))))) := if_neg (la_bindsOf_22 h25_)
        have e28_ : (if S 7 (S 1020 0) = 42 then 3 else (if S 7 (S 1020 0) = 40 then 4 else (if S 7 (S 1020 0) = 8 ∨ S 7 (S 1020 0) = 9 ∨ S 7 (S 1020 0) = 4 ∨ S 7 (S 1020 0) = 5 then 5 else (if S 7 (S 1020 0) = 33 ∨ S 7 (S 1020 0) = 34 ∨ S 7 (S 1020 0) = 6 ∨ S 7 (S 1020 0) = 7 then 6 else (if S 7 (S 1020 0) = 12 ∨ S 7 (S 1020 0) = 13 ∨ S 7 (S 1020 0) = 3 then 7 else (if S 7 (S 1020 0) = 35 ∨ S 7 (S 1020 0) = 36 then 8 else (if S 7 (S 1020 0) = 37 ∨ S 7 (S 1020 0) = 38 ∨ S 7 (S 1020 0) = 39 then 9 else (-1))))))) : Int) = (if S 7 (S 1020 0) = 40 then 4 else (if S 7 (S 1020 0) = 8 ∨ S 7 (S 1020 0) = 9 ∨ S 7 (S 1020 0) = 4 ∨ S 7 (S 1020 0) = 5 then 5 else (if S 7 (S 1020 0) = 33 ∨ S 7 (S 1020 0) = 34 ∨ S 7 (S 1020 0) = 6 ∨ S 7 (S 1020 0) = 7 then 6 else (if S 7 (S 1020 0) = 12 ∨ S 7 (S 1020 0) = 13 ∨ S 7 (S 1020 0) = 3 then 7 else (if S 7 (S 1020 0) = 35 ∨ S 7 (S 1020 0) = 36 then 8 else (if S 7 (S 1020 0) = 37 ∨ S 7 (S 1020 0) = 38 ∨ S 7 (S 1020 0) = 39 then 9 else (-1))))))) := if_neg (la_bindsOf_23 h25_)
        have e29_ : (if S 7 (S 1020 0) = 37 ∨ S 7 (S 1020 0) = 38 ∨ S 7 (S 1020 0) = 39 then 9 else (-1) : Int) = (-1) := if_neg (la_bindsOf_24 h25_)
        have e30_ : (if S 7 (S 1020 0) = 8 ∨ S 7 (S 1020 0) = 9 ∨ S 7 (S 1020 0) = 4 ∨ S 7 (S 1020 0) = 5 then 5 else (if S 7 (S 1020 0) = 33 ∨ S 7 (S 1020 0) = 34 ∨ S 7 (S 1020 0) = 6 ∨ S 7 (S 1020 0) = 7 then 6 else (if S 7 (S 1020 0) = 12 ∨ S 7 (S 1020 0) = 13 ∨ S 7 (S 1020 0) = 3 then 7 else (if S 7 (S 1020 0) = 35 ∨ S 7 (S 1020 0) = 36 then 8 else (if S 7 (S 1020 0) = 37 ∨ S 7 (S 1020 0) = 38 ∨ S 7 (S 1020 0) = 39 then 9 else (-1))))) : Int) = (if S 7 (S 1020 0) = 33 ∨ S 7 (S 1020 0) = 34 ∨ S 7 (S 1020 0) = 6 ∨ S 7 (S 1020 0) = 7 then 6 else (if S 7 (S 1020 0) = 12 ∨ S 7 (S 1020 0) = 13 ∨ S 7 (S 1020 0) = 3 then 7 else (if S 7 (S 1020 0) = 35 ∨ S 7 (S 1020 0) = 36 then 8 else (if S 7 (S 1020 0) = 37 ∨ S 7 (S 1020 0) = 38 ∨ S 7 (S 1020 0) = 39 then 9 else (-1))))) := if_neg (la_bindsOf_25 h25_)
        have e31_ : (if S 7 (S 1020 0) = 15 then 0 else (if S 7 (S 1020 0) = 14 then 1 else (if S 7 (S 1020 0) = 41 then 2 else (if S 7 (S 1020 0) = 42 then 3 else (if S 7 (S 1020 0) = 40 then 4 else (if S 7 (S 1020 0) = 8 ∨ S 7 (S 1020 0) = 9 ∨ S 7 (S 1020 0) = 4 ∨ S 7 (S 1020 0) = 5 then 5 else (if S 7 (S 1020 0) = 33 ∨ S 7 (S 1020 0) = 34 ∨ S 7 (S 1020 0) = 6 ∨ S 7 (S 1020 0) = 7 then 6 else (if S 7 (S 1020 0) = 12 ∨ S 7 (S 1020 0) = 13 ∨ S 7 (S 1020 0) = 3 then 7 else (if S 7 (S 1020 0) = 35 ∨ S 7 (S 1020 0) = 36 then 8 else (if S 7 (S 1020 0) = 37 ∨ S 7 (S 1020 0) = 38 ∨ S 7 (S 1020 0) = 39 then 9 else (-1)))))))))) : Int) = 0 := if_pos h25_
        have e32_ : (if S 7 (S 1020 0) = 35 ∨ S 7 (S 1020 0) = 36 then 8 else (if S 7 (S 1020 0) = 37 ∨ S 7 (S 1020 0) = 38 ∨ S 7 (S 1020 0) = 39 then 9 else (-1)) : Int) = (if S 7 (S 1020 0) = 37 ∨ S 7 (S 1020 0) = 38 ∨ S 7 (S 1020 0) = 39 then 9 else (-1)) := if_neg (la_bindsOf_26 h25_)
        have e33_ : (if S 7 (S 1020 0) = 40 then 4 else (if S 7 (S 1020 0) = 8 ∨ S 7 (S 1020 0) = 9 ∨ S 7 (S 1020 0) = 4 ∨ S 7 (S 1020 0) = 5 then 5 else (if S 7 (S 1020 0) = 33 ∨ S 7 (S 1020 0) = 34 ∨ S 7 (S 1020 0) = 6 ∨ S 7 (S 1020 0) = 7 then 6 else (if S 7 (S 1020 0) = 12 ∨ S 7 (S 1020 0) = 13 ∨ S 7 (S 1020 0) = 3 then 7 else (if S 7 (S 1020 0) = 35 ∨ S 7 (S 1020 0) = 36 then 8 else (if S 7 (S 1020 0) = 37 ∨ S 7 (S 1020 0) = 38 ∨ S 7 (S 1020 0) = 39 then 9 else (-1)))))) : Int) = (if S 7 (S 1020 0) = 8 ∨ S 7 (S 1020 0) = 9 ∨ S 7 (S 1020 0) = 4 ∨ S 7 (S 1020 0) = 5 then 5 else (if S 7 (S 1020 0) = 33 ∨ S 7 (S 1020 0) = 34 ∨ S 7 (S 1020 0) = 6 ∨ S 7 (S 1020 0) = 7 then 6 else (if S 7 (S 1020 0) = 12 ∨ S 7 (S 1020 0) = 13 ∨ S 7 (S 1020 0) = 3 then 7 else (if S 7 (S 1020 0) = 35 ∨ S 7 (S 1020 0) = 36 then 8 else (if S 7 (S 1020 0) = 37 ∨ S 7 (S 1020 0) = 38 ∨ S 7 (S 1020 0) = 39 then 9 else (-1)))))) := if_neg (la_bindsOf_27 h25_)
        have e34_ : (if S 6 (S 1020 0) = 5 then (if S 7 (S 1020 0) = 15 then 0 else (if S 7 (S 1020 0) = 14 then 1 else (if S 7 (S 1020 0) = 41 then 2 else (if S 7 (S 1020 0) = 42 then 3 else (if S 7 (S 1020 0) = 40 then 4 else (if S 7 (S 1020 0) = 8 ∨ S 7 (S 1020 0) = 9 ∨ S 7 (S 1020 0) = 4 ∨ S 7 (S 1020 0) = 5 then 5 else (if S 7 (S 1020 0) = 33 ∨ S 7 (S 1020 0) = 34 ∨ S 7 (S 1020 0) = 6 ∨ S 7 (S 1020 0) = 7 then 6 else (if S 7 (S 1020 0) = 12 ∨ S 7 (S 1020 0) = 13 ∨ S 7 (S 1020 0) = 3 then 7 else (if S 7 (S 1020 0) = 35 ∨ S 7 (S 1020 0) = 36 then 8 else (if S 7 (S 1020 0) = 37 ∨ S 7 (S 1020 0) = 38 ∨ S 7 (S 1020 0) = 39 then 9 else (-1))))))))))) else (-1) : Int) = (if S 7 (S 1020 0) = 15 then 0 else (if S 7 (S 1020 0) = 14 then 1 else (if S 7 (S 1020 0) = 41 then 2 else (if S 7 (S 1020 0) = 42 then 3 else (if S 7 (S 1020 0) = 40 then 4 else (if S 7 (S 1020 0) = 8 ∨ S 7 (S 1020 0) = 9 ∨ S 7 (S 1020 0) = 4 ∨ S 7 (S 1020 0) = 5 then 5 else (if S 7 (S 1020 0) = 33 ∨ S 7 (S 1020 0) = 34 ∨ S 7 (S 1020 0) = 6 ∨ S 7 (S 1020 0) = 7 then 6 else (if S 7 (S 1020 0) = 12 ∨ S 7 (S 1020 0) = 13 ∨ S 7 (S 1020 0) = 3 then 7 else (if S 7 (S 1020 0) = 35 ∨ S 7 (S 1020 0) = 36 then 8 else (if S 7 (S 1020 0) = 37 ∨ S 7 (S 1020 0) = 38 ∨ S 7 (S 1020 0) = 39 then 9 else (-1))))))))))) := if_pos h9_
        have e35_ : (if S 7 (S 1020 0) = 14 then 1 else (if S 7 (S 1020 0) = 41 then 2 else (if S 7 (S 1020 0) = 42 then 3 else (if S 7 (S 1020 0) = 40 then 4 else (if S 7 (S 1020 0) = 8 ∨ S 7 (S 1020 0) = 9 ∨ S 7 (S 1020 0) = 4 ∨ S 7 (S 1020 0) = 5 then 5 else (if S 7 (S 1020 0) = 33 ∨ S 7 (S 1020 0) = 34 ∨ S 7 (S 1020 0) = 6 ∨ S 7 (S 1020 0) = 7 then 6 else (if S 7 (S 1020 0) = 12 ∨ S 7 (S 1020 0) = 13 ∨ S 7 (S 1020 0) = 3 then 7 else (if S 7 (S 1020 0) = 35 ∨ S 7 (S 1020 0) = 36 then 8 else (if S 7 (S 1020 0) = 37 ∨ S 7 (S 1020 0) = 38 ∨ S 7 (S 1020 0) = 39 then 9 else (-1))))))))) : Int) = (if S 7 (S 1020 0) = 41 then 2 else (if S 7 (S 1020 0) = 42 then 3 else (if S 7 (S 1020 0) = 40 then 4 else (if S 7 (S 1020 0) = 8 ∨ S 7 (S 1020 0) = 9 ∨ S 7 (S 1020 0) = 4 ∨ S 7 (S 1020 0) = 5 then 5 else (if S 7 (S 1020 0) = 33 ∨ S 7 (S 1020 0) = 34 ∨ S 7 (S 1020 0) = 6 ∨ S 7 (S 1020 0) = 7 then 6 else (if S 7 (S 1020 0) = 12 ∨ S 7 (S 1020 0) = 13 ∨ S 7 (S 1020 0) = 3 then 7 else (if S 7 (S 1020 0) = 35 ∨ S 7 (S 1020 0) = 36 then 8 else (if S 7 (S 1020 0) = 37 ∨ S 7 (S 1020 0) = 38 ∨ S 7 (S 1020 0) = 39 then 9 else (-1))))))))) := if_neg (la_bindsOf_28 h25_)
        have e36_ : (if S 7 (S 1020 0) = 12 ∨ S 7 (S 1020 0) = 13 ∨ S 7 (S 1020 0) = 3 then 7 else (if S 7 (S 1020 0) = 35 ∨ S 7 (S 1020 0) = 36 then 8 else (if S 7 (S 1020 0) = 37 ∨ S 7 (S 1020 0) = 38 ∨ S 7 (S 1020 0) = 39 then 9 else (-1))) : Int) = (if S 7 (S 1020 0) = 35 ∨ S 7 (S 1020 0) = 36 then 8 else (if S 7 (S 1020 0) = 37 ∨ S 7 (S 1020 0) = 38 ∨ S 7 (S 1020 0) = 39 then 9 else (-1))) := if_neg (la_bindsOf_29 h25_)
        have e37_ : (if S 6 (S 1020 0) = 2 then (if S 7 (S 1020 0) = 14 ∨ S 7 (S 1020 0) = 13 ∧ p1 = 1 then 6 else (-1)) else (if S 6 (S 1020 0) = 5 then (if S 7 (S 1020 0) = 15 then 0 else (if S 7 (S 1020 0) = 14 then 1 else (if S 7 (S 1020 0) = 41 then 2 else (if S 7 (S 1020 0) = 42 then 3 else (if S 7 (S 1020 0) = 40 then 4 else (if S 7 (S 1020 0) = 8 ∨ S 7 (S 1020 0) = 9 ∨ S 7 (S 1020 0) = 4 ∨ S 7 (S 1020 0) = 5 then 5 else (if S 7 (S 1020 0) = 33 ∨ S 7 (S 1020 0) = 34 ∨ S 7 (S 1020 0) = 6 ∨ S 7 (S 1020 0) = 7 then 6 else (if S 7 (S 1020 0) = 12 ∨ S 7 (S 1020 0) = 13 ∨ S 7 (S 1020 0) = 3 then 7 else (if S 7 (S 1020 0) = 35 ∨ S 7 (S 1020 0) = 36 then 8 else (if S 7 (S 1020 0) = 37 ∨ S 7 (S 1020 0) = 38 ∨ S 7 (S 1020 0) = 39 then 9 else (-1))))))))))) else (-1)) : Int) = (if S 6 (S 1020 0) = 5 then (if S 7 (S 1020 0) = 15 then 0 else (if S 7 (S 1020 0) = 14 then 1 else (if S 7 (S 1020 0) = 41 then 2 else (if S 7 (S 1020 0) = 42 then 3 else (if S 7 (S 1020 0) = 40 then 4 else (if S 7 (S 1020 0) = 8 ∨ S 7 (S 1020 0) = 9 ∨ S 7 (S 1020 0) = 4 ∨ S 7 (S 1020 0) = 5 then 5 else (if S 7 (S 1020 0) = 33 ∨ S 7 (S 1020 0) = 34 ∨ S 7 (S 1020 0) = 6 ∨ S 7 (S 1020 0) = 7 then 6 else (if S 7 (S 1020 0) = 12 ∨ S 7 (S 1020 0) = 13 ∨ S 7 (S 1020 0) = 3 then 7 else (if S 7 (S 1020 0) = 35 ∨ S 7 (S 1020 0) = 36 then 8 else (if S 7 (S 1020 0) = 37 ∨ S 7 (S 1020 0) = 38 ∨ S 7 (S 1020 0) = 39 then 9 else (-1))))))))))) else (-1)) := if_neg h8_
        have e38_ : (if S 7 (S 1020 0) = 14 ∨ S 7 (S 1020 0) = 13 ∧ p1 = 1 then 6 else (-1) : Int) = (-1) := if_neg (la_bindsOf_30 h25_)
        exact (la_bindsOf_31 e31_ e34_ e37_)
      refine ⟨?_, ?_⟩
      · skip
        intro h39_
        refine ⟨la_bindsOf_32, ?_⟩
        refine ⟨la_bindsOf_33, ?_⟩
        refine ⟨(la_bindsOf_34 h9_), ?_⟩
        have e40_ : (if S 7 (S 1020 0) = 33 ∨ S 7 (S 1020 0) = 34 ∨ S 7 (S 1020 0) = 6 ∨ S 7 (S 1020 0) = 7 then 6 else (if S 7 (S 1020 0) = 12 ∨ S 7 (S 1020 0) = 13 ∨ S 7 (S 1020 0) = 3 then 7 else (if S 7 (S 1020 0) = 35 ∨ S 7 (S 1020 0) = 36 then 8 else (if S 7 (S 1020 0) = 37 ∨ S 7 (S 1020 0) = 38 ∨ S 7 (S 1020 0) = 39 then 9 else (-1)))) : Int) = (if S 7 (S 1020 0) = 12 ∨ S 7 (S 1020 0) = 13 ∨ S 7 (S 1020 0) = 3 then 7 else (if S 7 (S 1020 0) = 35 ∨ S 7 (S 1020 0) = 36 then 8 else (if S 7 (S 1020 0) = 37 ∨ S 7 (S 1020 0) = 38 ∨ S 7 (S 1020 0) = 39 then 9 else (-1)))) := if_neg (la_bindsOf_35 h39_)
        have e41_ : (if S 7 (S 1020 0) = 41 then 2 else (if S 7 (S 1020 0) = 42 then 3 else (if S 7 (S 1020 0) = 40 then 4 else (if S 7 (S 1020 0) = 8 ∨ S 7 (S 1020 0) = 9 ∨ S 7 (S 1020 0) = 4 ∨ S 7 (S 1020 0) = 5 then 5 else (if S 7 (S 1020 0) = 33 ∨ S 7 (S 1020 0) = 34 ∨ S 7 (S 1020 0) = 6 ∨ S 7 (S 1020 0) = 7 then 6 else (if S 7 (S 1020 0) = 12 ∨ S 7 (S 1020 0) = 13 ∨ S 7 (S 1020 0) = 3 then 7 else (if S 7 (S 1020 0) = 35 ∨ S 7 (S 1020 0) = 36 then 8 else (if S 7 (S 1020 0) = 37 ∨ S 7 (S 1020 0) = 38 ∨ S 7 (S 1020 0) = 39 then 9 else (-1)))))))) : Int) = (if S 7 (S 1020 0) = 42 then 3 else (if S 7 (S 1020 0) = 40 then 4 else (if S 7 (S 1020 0) = 8 ∨ S 7 (S 1020 0) = 9 ∨ S 7 (S 1020 0) = 4 ∨ S 7 (S 1020 0) = 5 then 5 else (if S 7 (S 1020 0) = 33 ∨ S 7 (S 1020 0) = 34 ∨ S 7 (S 1020 0) = 6 ∨ S 7 (S 1020 0) = 7 then 6 else (if S 7 (S 1020 0) = 12 ∨ S 7 (S 1020 0) = 13 ∨ S 7 (S 1020 0) = 3 then 7 else (if S 7 (S 1020 0) = 35 ∨ S 7 (S 1020 0) = 36 then 8 else (if S 7 (S 1020 0) = 37 ∨ S 7 (S 1020 0) = 38 ∨ S 7 (S 1020 0) = 39 then 9 else (-1)))))))) := if_neg (la_bindsOf_36 h39_)
        have e42_ : (if S 7 (S 1020 0) = 42 then 3 else (if S 7 (S 1020 0) = 40 then 4 else (if S 7 (S 1020 0) = 8 ∨ S 7 (S 1020 0) = 9 ∨ S 7 (S 1020 0) = 4 ∨ S 7 (S 1020 0) = 5 then 5 else (if S 7 (S 1020 0) = 33 ∨ S 7 (S 1020 0) = 34 ∨ S 7 (S 1020 0) = 6 ∨ S 7 (S 1020 0) = 7 then 6 else (if S 7 (S 1020 0) = 12 ∨ S 7 (S 1020 0) = 13 ∨ S 7 (S 1020 0) = 3 then 7 else (if S 7 (S 1020 0) = 35 ∨ S 7 (S 1020 0) = 36 then 8 else (if S 7 (S 1020 0) = 37 ∨ S 7 (S 1020 0) = 38 ∨ S 7 (S 1020 0) = 39 then 9 else (-1))))))) : Int) = (if S 7 (S 1020 0) = 40 then 4 else (if S 7 (S 1020 0) = 8 ∨ S 7 (S 1020 0) = 9 ∨ S 7 (S 1020 0) = 4 ∨ S 7 (S 1020 0) = 5 then 5 else (if S 7 (S 1020 0) = 33 ∨ S 7 (S 1020 0) = 34 ∨ S 7 (S 1020 0) = 6 ∨ S 7 (S 1020 0) = 7 then 6 else (if S 7 (S 1020 0) = 12 ∨ S 7 (S 1020 0) = 13 ∨ S 7 (S 1020 0) = 3 then 7 else (if S 7 (S 1020 0) = 35 ∨ S 7 (S 1020 0) = 36 then 8 else (if S 7 (S 1020 0) = 37 ∨ S 7 (S 1020 0) = 38 ∨ S 7 (S 1020 0) = 39 then 9 else (-1))))))) := if_neg (la_bindsOf_37 h39_)
        have e43_ : (if S 7 (S 1020 0) = 37 ∨ S 7 (S 1020 0) = 38 ∨ S 7 (S 1020 0) = 39 then 9 else (-1) : Int) = (-1) := if_neg (la_bindsOf_38 h39_)
        have e44_ : (if S 7 (S 1020 0) = 8 ∨ S 7 (S 1020 0) = 9 ∨ S 7 (S 1020 0) = 4 ∨ S 7 (S 1020 0) = 5 then 5 else (if S 7 (S 1020 0) = 33 ∨ S 7 (S 1020 0) = 34 ∨ S 7 (S 1020 0) = 6 ∨ S 7 (S 1020 0) = 7 then 6 else (if S 7 (S 1020 0) = 12 ∨ S 7 (S 1020 0) = 13 ∨ S 7 (S 1020 0) = 3 then 7 else (if S 7 (S 1020 0) = 35 ∨ S 7 (S 1020 0) = 36 then 8 else (if S 7 (S 1020 0) = 37 ∨ S 7 (S 1020 0) = 38 ∨ S 7 (S 1020 0) = 39 then 9 else (-1))))) : Int) = (if S 7 (S 1020 0) = 33 ∨ S 7 (S 1020 0) = 34 ∨ S 7 (S 1020 0) = 6 ∨ S 7 (S 1020 0) = 7 then 6 else (if S 7 (S 1020 0) = 12 ∨ S 7 (S 1020 0) = 13 ∨ S 7 (S 1020 0) = 3 then 7 else (if S 7 (S 1020 0) = 35 ∨ S 7 (S 1020 0) = 36 then 8 else (if S 7 (S 1020 0) = 37 ∨ S 7 (S 1020 0) = 38 ∨ S 7 (S 1020 0) = 39 then 9 else (-1))))) := if_neg (la_bindsOf_39 h39_)
        have e45_ : (if S 7 (S 1020 0) = 15 then 0 else (if S 7 (S 1020 0) = 14 then 1 else (if S 7 (S 1020 0) = 41 then 2 else (if S 7 (S 1020 0) = 42 then 3 else (if S 7 (S 1020 0) = 40 then 4 else (if S 7 (S 1020 0) = 8 ∨ S 7 (S 1020 0) = 9 ∨ S 7 (S 1020 0) = 4 ∨ S 7 (S 1020 0) = 5 then 5 else (if S 7 (S 1020 0) = 33 ∨ S 7 (S 1020 0) = 34 ∨ S 7 (S 1020 0) = 6 ∨ S 7 (S 1020 0) = 7 then 6 else (if S 7 (S 1020 0) = 12 ∨ S 7 (S 1020 0) = 13 ∨ S 7 (S 1020 0) = 3 then 7 else (if S 7 (S 1020 0) = 35 ∨ S 7 (S 1020 0) = 36 then 8 else (if S 7 (S 1020 0) = 37 ∨ S 7 (S 1020 0) = 38 ∨ S 7 (S 1020 0) = 39 then 9 else (-1)))))))))) : Int) = (if S 7 (S 1020 0) = 14 then 1 else (if S 7 (S 1020 0) = 41 then 2 else (if S 7 (S 1020 0) = 42 then 3 else (if S 7 (S 1020 0) = 40 then 4 else (if S 7 (S 1020 0) = 8 ∨ S 7 (S 1020 0) = 9 ∨ S 7 (S 1020 0) = 4 ∨ S 7 (S 1020 0) = 5 then 5 else (if S 7 (S 1020 0) = 33 ∨ S 7 (S 1020 0) = 34 ∨ S 7 (S 1020 0) = 6 ∨ S 7 (S 1020 0) = 7 then 6 else (if S 7 (S 1020 0) = 12 ∨ S 7 (S 1020 0) = 13 ∨ S 7 (S 1020 0) = 3 then 7 else (if S 7 (S 1020 0) = 35 ∨ S 7 (S 1020 0) = 36 then 8 else (if S 7 (S 1020 0) = 37 ∨ S 7 (S 1020 0) = 38 ∨ S 7 (S 1020 0) = 39 then 9 else (-1)))))))))) := if_neg (la_bindsOf_40 h39_)
        have e46_ : (if S 7 (S 1020 0) = 35 ∨ S 7 (S 1020 0) = 36 then 8 else (if S 7 (S 1020 0) = 37 ∨ S 7 (S 1020 0) = 38 ∨ S 7 (S 1020 0) = 39 then 9 else (-1)) : Int) = (if S 7 (S 1020 0) = 37 ∨ S 7 (S 1020 0) = 38 ∨ S 7 (S 1020 0) = 39 then 9 else (-1)) := if_neg (la_bindsOf_41 h39_)
        have e47_ : (if S 7 (S 1020 0) = 40 then 4 else (if S 7 (S 1020 0) = 8 ∨ S 7 (S 1020 0) = 9 ∨ S 7 (S 1020 0) = 4 ∨ S 7 (S 1020 0) = 5 then 5 else (if S 7 (S 1020 0) = 33 ∨ S 7 (S 1020 0) = 34 ∨ S 7 (S 1020 0) = 6 ∨ S 7 (S 1020 0) = 7 then 6 else (if S 7 (S 1020 0) = 12 ∨ S 7 (S 1020 0) = 13 ∨ S 7 (S 1020 0) = 3 then 7 else (if S 7 (S 1020 0) = 35 ∨ S 7 (S 1020 0) = 36 then 8 else (if S 7 (S 1020 0) = 37 ∨ S 7 (S 1020 0) = 38 ∨ S 7 (S 1020 0) = 39 then 9 else (-1)))))) : Int) = (if S 7 (S 1020 0) = 8 ∨ S 7 (S 1020 0) = 9 ∨ S 7 (S 1020 0) = 4 ∨ S 7 (S 1020 0) = 5 then 5 else (if S 7 (S 1020 0) = 33 ∨ S 7 (S 1020 0) = 34 ∨ S 7 (S 1020 0) = 6 ∨ S 7 (S 1020 0) = 7 then 6 else (if S 7 (S 1020 0) = 12 ∨ S 7 (S 1020 0) = 13 ∨ S 7 (S 1020 0) = 3 then 7 else (if S 7 (S 1020 0) = 35 ∨ S 7 (S 1020 0) = 36 then 8 else (if S 7 (S 1020 0) = 37 ∨ S 7 (S 1020 0) = 38 ∨ S 7 (S 1020 0) = 39 then 9 else (-1)))))) := if_neg (la_bindsOf_42 h39_)
        have e48_ : (if S 6 (S 1020 0) = 5 then (if S 7 (S 1020 0) = 15 then 0 else (if S 7 (S 1020 0) = 14 then 1 else (if S 7 (S 1020 0) = 41 then 2 else (if S 7 (S 1020 0) = 42 then 3 else (if S 7 (S 1020 0) = 40 then 4 else (if S 7 (S 1020 0) = 8 ∨ S 7 (S 1020 0) = 9 ∨ S 7 (S 1020 0) = 4 ∨ S 7 (S 1020 0) = 5 then 5 else (if S 7 (S 1020 0) = 33 ∨ S 7 (S 1020 0) = 34 ∨ S 7 (S 1020 0) = 6 ∨ S 7 (S 1020 0) = 7 then 6 else (if S 7 (S 1020 0) = 12 ∨ S 7 (S 1020 0) = 13 ∨ S 7 (S 1020 0) = 3 then 7 else (if S 7 (S 1020 0) = 35 ∨ S 7 (S 1020 0) = 36 then 8 else (if S 7 (S 1020 0) = 37 ∨ S 7 (S 1020 0) = 38 ∨ S 7 (S 1020 0) = 39 then 9 else (-1))))))))))) else (-1) : Int) = (if S 7 (S 1020 0) = 15 then 0 else (if S 7 (S 1020 0) = 14 then 1 else (if S 7 (S 1020 0) = 41 then 2 else (if S 7 (S 1020 0) = 42 then 3 else (if S 7 (S 1020 0) = 40 then 4 else (if S 7 (S 1020 0) = 8 ∨ S 7 (S 1020 0) = 9 ∨ S 7 (S 1020 0) = 4 ∨ S 7 (S 1020 0) = 5 then 5 else (if S 7 (S 1020 0) = 33 ∨ S 7 (S 1020 0) = 34 ∨ S 7 (S 1020 0) = 6 ∨ S 7 (S 1020 0) = 7 then 6 else (if S 7 (S 1020 0) = 12 ∨ S 7 (S 1020 0) = 13 ∨ S 7 (S 1020 0) = 3 then 7 else (if S 7 (S 1020 0) = 35 ∨ S 7 (S 1020 0) = 36 then 8 else (if S 7 (S 1020 0) = 37 ∨ S 7 (S 1020 0) = 38 ∨ S 7 (S 1020 0) = 39 then 9 else (-1))))))))))) := if_pos h9_
        have e49_ : (if S 7 (S 1020 0) = 14 then 1 else (if S 7 (S 1020 0) = 41 then 2 else (if S 7 (S 1020 0) = 42 then 3 else (if S 7 (S 1020 0) = 40 then 4 else (if S 7 (S 1020 0) = 8 ∨ S 7 (S 1020 0) = 9 ∨ S 7 (S 1020 0) = 4 ∨ S 7 (S 1020 0) = 5 then 5 else (if S 7 (S 1020 0) = 33 ∨ S 7 (S 1020 0) = 34 ∨ S 7 (S 1020 0) = 6 ∨ S 7 (S 1020 0) = 7 then 6 else (if S 7 (S 1020 0) = 12 ∨ S 7 (S 1020 0) = 13 ∨ S 7 (S 1020 0) = 3 then 7 else (if S 7 (S 1020 0) = 35 ∨ S 7 (S 1020 0) = 36 then 8 else (if S 7 (S 1020 0) = 37 ∨ S 7 (S 1020 0) = 38 ∨ S 7 (S 1020 0) = 39 then 9 else (-1))))))))) : Int) = 1 := if_pos h39_
        have e50_ : (if S 7 (S 1020 0) = 12 ∨ S 7 (S 1020 0) = 13 ∨ S 7 (S 1020 0) = 3 then 7 else (if S 7 (S 1020 0) = 35 ∨ S 7 (S 1020 0) = 36 then 8 else (if S 7 (S 1020 0) = 37 ∨ S 7 (S 1020 0) = 38 ∨ S 7 (S 1020 0) = 39 then 9 else (-1))) : Int) = (if S 7 (S 1020 0) = 35 ∨ S 7 (S 1020 0) = 36 then 8 else (if S 7 (S 1020 0) = 37 ∨ S 7 (S 1020 0) = 38 ∨ S 7 (S 1020 0) = 39 then 9 else (-1))) := if_neg (la_bindsOf_43 h39_)
        have e51_ : (if S 6 (S 1020 0) = 2 then (if S 7 (S 1020 0) = 14 ∨ S 7 (S 1020 0) = 13 ∧ p1 = 1 then 6 else (-1)) else (if S 6 (S 1020 0) = 5 then (if S 7 (S 1020 0) = 15 then 0 else (if S 7 (S 1020 0) = 14 then 1 else (if S 7 (S 1020 0) = 41 then 2 else (if S 7 (S 1020 0) = 42 then 3 else (if S 7 (S 1020 0) = 40 then 4 else (if S 7 (S 1020 0) = 8 ∨ S 7 (S 1020 0) = 9 ∨ S 7 (S 1020 0) = 4 ∨ S 7 (S 1020 0) = 5 then 5 else (if S 7 (S 1020 0) = 33 ∨ S 7 (S 1020 0) = 34 ∨ S 7 (S 1020 0) = 6 ∨ S 7 (S 1020 0) = 7 then 6 else (if S 7 (S 1020 0) = 12 ∨ S 7 (S 1020 0) = 13 ∨ S 7 (S 1020 0) = 3 then 7 else (if S 7 (S 1020 0) = 35 ∨ S 7 (S 1020 0) = 36 then 8 else (if S 7 (S 1020 0) = 37 ∨ S 7 (S 1020 0) = 38 ∨ S 7 (S 1020 0) = 39 then 9 else (-1))))))))))) else (-1)) : Int) = (if S 6 (S 1020 0) = 5 then (if S 7 (S 1020 0) = 15 then 0 else (if S 7 (S 1020 0) = 14 then 1 else (if S 7 (S 1020 0) = 41 then 2 else (if S 7 (S 1020 0) = 42 then 3 else (if S 7 (S 1020 0) = 40 then 4 else (if S 7 (S 1020 0) = 8 ∨ S 7 (S 1020 0) = 9 ∨ S 7 (S 1020 0) = 4 ∨ S 7 (S 1020 0) = 5 then 5 else (if S 7 (S 1020 0) = 33 ∨ S 7 (S 1020 0) = 34 ∨ S 7 (S 1020 0) = 6 ∨ S 7 (S 1020 0) = 7 then 6 else (if S 7 (S 1020 0) = 12 ∨ S 7 (S 1020 0) = 13 ∨ S 7 (S 1020 0) = 3 then 7 else (if S 7 (S 1020 0) = 35 ∨ S 7 (S 1020 0) = 36 then 8 else (if S 7 (S 1020 0) = 37 ∨ S 7 (S 1020 0) = 38 ∨ S 7 (S 1020 0) = 39 then 9 else (-1))))))))))) else (-1)) := if_neg h8_
        have e52_ : (if S 7 (S 1020 0) = 14 ∨ S 7 (S 1020 0) = 13 ∧ p1 = 1 then 6 else (-1) : Int) = 6 := if_pos (la_bindsOf_44 h3_ h39_)
        exact (la_bindsOf_45 e45_ e48_ e49_ e51_)
      refine ⟨?_, ?_⟩
      · skip
        intro h53_
        refine ⟨la_bindsOf_46, ?_⟩
        refine ⟨la_bindsOf_47, ?_⟩
        refine ⟨(la_bindsOf_48 h9_), ?_⟩
        have e54_ : (if S 7 (S 1020 0) = 33 ∨ S 7 (S 1020 0) = 34 ∨ S 7 (S 1020 0) = 6 ∨ S 7 (S 1020 0) = 7 then 6 else (if S 7 (S 1020 0) = 12 ∨ S 7 (S 1020 0) = 13 ∨ S 7 (S 1020 0) = 3 then 7 else (if S 7 (S 1020 0) = 35 ∨ S 7 (S 1020 0) = 36 then 8 else (if S 7 (S 1020 0) = 37 ∨ S 7 (S 1020 0) = 38 ∨ S 7 (S 1020 0) = 39 then 9 else (-1)))) : Int) = (if S 7 (S 1020 0) = 12 ∨ S 7 (S 1020 0) = 13 ∨ S 7 (S 1020 0) = 3 then 7 else (if S 7 (S 1020 0) = 35 ∨ S 7 (S 1020 0) = 36 then 8 else (if S 7 (S 1020 0) = 37 ∨ S 7 (S 1020 0) = 38 ∨ S 7 (S 1020 0) = 39 then 9 else (-1)))) := if_neg (la_bindsOf_49 h53_)
        have e55_ : (if S 7 (S 1020 0) = 41 then 2 else (if S 7 (S 1020 0) = 42 then 3 else (if S 7 (S 1020 0) = 40 then 4 else (if S 7 (S 1020 0) = 8 ∨ S 7 (S 1020 0) = 9 ∨ S 7 (S 1020 0) = 4 ∨ S 7 (S 1020 0) = 5 then 5 else (if S 7 (S 1020 0) = 33 ∨ S 7 (S 1020 0) = 34 ∨ S 7 (S 1020 0) = 6 ∨ S 7 (S 1020 0) = 7 then 6 else (if S 7 (S 1020 0) = 12 ∨ S 7 (S 1020 0) = 13 ∨ S 7 (S 1020 0) = 3 then 7 else (if S 7 (S 1020 0) = 35 ∨ S 7 (S 1020 0) = 36 then 8 else (if S 7 (S 1020 0) = 37 ∨ S 7 (S 1020 0) = 38 ∨ S 7 (S 1020 0) = 39 then 9 else (-1)))))))) : Int) = 2 := if_pos h53_
        have e56_ : (if S 7 (S 1020 0) = 42 then 3 else (if S 7 (S 1020 0) = 40 then 4 else (if S 7 (S 1020 0) = 8 ∨ S 7 (S 1020 0) = 9 ∨ S 7 (S 1020 0) = 4 ∨ S 7 (S 1020 0) = 5 then 5 else (if S 7 (S 1020 0) = 33 ∨ S 7 (S 1020 0) = 34 ∨ S 7 (S 1020 0) = 6 ∨ S 7 (S 1020 0) = 7 then 6 else (if S 7 (S 1020 0) = 12 ∨ S 7 (S 1020 0) = 13 ∨ S 7 (S 1020 0) = 3 then 7 else (if S 7 (S 1020 0) = 35 ∨ S 7 (S 1020 0) = 36 then 8 else (if S 7 (S 1020 0) = 37 ∨ S 7 (S 1020 0) = 38 ∨ S 7 (S 1020 0) = 39 then 9 else (-1))))))) : Int) = (if S 7 (S 1020 0) = 40 then 4 else (if S 7 (S 1020 0) = 8 ∨ S 7 (S 1020 0) = 9 ∨ S 7 (S 1020 0) = 4 ∨ S 7 (S 1020 0) = 5 then 5 else (if S 7 (S 1020 0) = 33 ∨ S 7 (S 1020 0) = 34 ∨ S 7 (S 1020 0) = 6 ∨ S 7 (S 1020 0) = 7 then 6 else (if S 7 (S 1020 0) = 12 ∨ S 7 (S 1020 0) = 13 ∨ S 7 (S 1020 0) = 3 then 7 else (if S 7 (S 1020 0) = 35 ∨ S 7 (S 1020 0) = 36 then 8 else (if S 7 (S 1020 0) = 37 ∨ S 7 (S 1020 0) = 38 ∨ S 7 (S 1020 0) = 39 then 9 else (-1))))))) := if_neg (la_bindsOf_50 h53_)
        have e57_ : (if S 7 (S 1020 0) = 37 ∨ S 7 (S 1020 0) = 38 ∨ S 7 (S 1020 0) = 39 then 9 else (-1) : Int) = (-1) := if_neg (la_bindsOf_51 h53_)
        have e58_ : (if S 7 (S 1020 0) = 8 ∨ S 7 (S 1020 0) = 9 ∨ S 7 (S 1020 0) = 4 ∨ S 7 (S 1020 0) = 5 then 5 else (if S 7 (S 1020 0) = 33 ∨ S 7 (S 1020 0) = 34 ∨ S 7 (S 1020 0) = 6 ∨ S 7 (S 1020 0) = 7 then 6 else (if S 7 (S 1020 0) = 12 ∨ S 7 (S 1020 0) = 13 ∨ S 7 (S 1020 0) = 3 then 7 else (if S 7 (S 1020 0) = 35 ∨ S 7 (S 1020 0) = 36 then 8 else (if S 7 (S 1020 0) = 37 ∨ S 7 (S 1020 0) = 38 ∨ S 7 (S 1020 0) = 39 then 9 else (-1))))) : Int) = (if S 7 (S 1020 0) = 33 ∨ S 7 (S 1020 0) = 34 ∨ S 7 (S 1020 0) = 6 ∨ S 7 (S 1020 0) = 7 then 6 else (if S 7 (S 1020 0) = 12 ∨ S 7 (S 1020 0) = 13 ∨ S 7 (S 1020 0) = 3 then 7 else (if S 7 (S 1020 0) = 35 ∨ S 7 (S 1020 0) = 36 then 8 else (if S 7 (S 1020 0) = 37 ∨ S 7 (S 1020 0) = 38 ∨ S 7 (S 1020 0) = 39 then 9 else (-1))))) := if_neg (la_bindsOf_52 h53_)
        have e59_ : (if S 7 (S 1020 0) = 15 then 0 else (if S 7 (S 1020 0) = 14 then 1 else (if S 7 (S 1020 0) = 41 then 2 else (if S 7 (S 1020 0) = 42 then 3 else (if S 7 (S 1020 0) = 40 then 4 else (if S 7 (S 1020 0) = 8 ∨ S 7 (S 1020 0) = 9 ∨ S 7 (S 1020 0) = 4 ∨ S 7 (S 1020 0) = 5 then 5 else (if S 7 (S 1020 0) = 33 ∨ S 7 (S 1020 0) = 34 ∨ S 7 (S 1020 0) = 6 ∨ S 7 (S 1020 0) = 7 then 6 else (if S 7 (S 1020 0) = 12 ∨ S 7 (S 1020 0) = 13 ∨ S 7 (S 1020 0) = 3 then 7 else (if S 7 (S 1020 0) = 35 ∨ S 7 (S 1020 0) = 36 then 8 else (if S 7 (S 1020 0) = 37 ∨ S 7 (S 1020 0) = 38 ∨ S 7 (S 1020 0) = 39 then 9 else (-1)))))))))) : Int) = (if S 7 (S 1020 0) = 14 then 1 else (if S 7 (S 1020 0) = 41 then 2 else (if S 7 (S 1020 0) = 42 then 3 else (if S 7 (S 1020 0) = 40 then 4 else (if S 7 (S 1020 0) = 8 ∨ S 7 (S 1020 0) = 9 ∨ S 7 (S 1020 0) = 4 ∨ S 7 (S 1020 0) = 5 then 5 else (if S 7 (S 1020 0) = 33 ∨ S 7 (S 1020 0) = 34 ∨ S 7 (S 1020 0) = 6 ∨ S 7 (S 1020 0) = 7 then 6 else (if S 7 (S 1020 0) = 12 ∨ S 7 (S 1020 0) = 13 ∨ S 7 (S 1020 0) = 3 then 7 else (if S 7 (S 1020 0) = 35 ∨ S 7 (S 1020 0) = 36 then 8 else (if S 7 (S 1020 0) = 37 ∨ S 7 (S 1020 0) = 38 ∨ S 7 (S 1020 0) = 39 then 9 else (-1)))))))))) := if_neg (la_bindsOf_53 h53_)
        have e60_ : (if S 7 (S 1020 0) = 35 ∨ S 7 (S 1020 0) = 36 then 8 else (if S 7 (S 1020 0) = 37 ∨ S 7 (S 1020 0) = 38 ∨ S 7 (S 1020 0) = 39 then 9 else (-1)) : Int) = (if S 7 (S 1020 0) = 37 ∨ S 7 (S 1020 0) = 38 ∨ S 7 (S 1020 0) = 39 then 9 else (-1)) := if_neg (la_bindsOf_54 h53_)
        have e61_ : (if S 7 (S 1020 0) = 40 then 4 else (if S 7 (S 1020 0) = 8 ∨ S 7 (S 1020 0) = 9 ∨ S 7 (S 1020 0) = 4 ∨ S 7 (S 1020 0) = 5 then 5 else (if S 7 (S 1020 0) = 33 ∨ S 7 (S 1020 0) = 34 ∨ S 7 (S 1020 0) = 6 ∨ S 7 (S 1020 0) = 7 then 6 else (if S 7 (S 1020 0) = 12 ∨ S 7 (S 1020 0) = 13 ∨ S 7 (S 1020 0) = 3 then 7 else (if S 7 (S 1020 0) = 35 ∨ S 7 (S 1020 0) = 36 then 8 else (if S 7 (S 1020 0) = 37 ∨ S 7 (S 1020 0) = 38 ∨ S 7 (S 1020 0) = 39 then 9 else (-1)))))) : Int) = (if S 7 (S 1020 0) = 8 ∨ S 7 (S 1020 0) = 9 ∨ S 7 (S 1020 0) = 4 ∨ S 7 (S 1020 0) = 5 then 5 else (if S 7 (S 1020 0) = 33 ∨ S 7 (S 1020 0) = 34 ∨ S 7 (S 1020 0) = 6 ∨ S 7 (S 1020 0) = 7 then 6 else (if S 7 (S 1020 0) = 12 ∨ S 7 (S 1020 0) = 13 ∨ S 7 (S 1020 0) = 3 then 7 else (if S 7 (S 1020 0) = 35 ∨ S 7 (S 1020 0) = 36 then 8 else (if S 7 (S 1020 0) = 37 ∨ S 7 (S 1020 0) = 38 ∨ S 7 (S 1020 0) = 39 then 9 else (-1)))))) := if_neg (la_bindsOf_55 h53_)
        have e62_ : (if S 6 (S 1020 0) = 5 then (if S 7 (S 1020 0) = 15 then 0 else (if S 7 (S 1020 0) = 14 then 1 else (if S 7 (S 1020 0) = 41 then 2 else (if S 7 (S 1020 0) = 42 then 3 else (if S 7 (S 1020 0) = 40 then 4 else (if S 7 (S 1020 0) = 8 ∨ S 7 (S 1020 0) = 9 ∨ S 7 (S 1020 0) = 4 ∨ S 7 (S 1020 0) = 5 then 5 else (if S 7 (S 1020 0) = 33 ∨ S 7 (S 1020 0) = 34 ∨ S 7 (S 1020 0) = 6 ∨ S 7 (S 1020 0) = 7 then 6 else (if S 7 (S 1020 0) = 12 ∨ S 7 (S 1020 0) = 13 ∨ S 7 (S 1020 0) = 3 then 7 else (if S 7 (S 1020 0) = 35 ∨ S 7 (S 1020 0) = 36 then 8 else (if S 7 (S 1020 0) = 37 ∨ S 7 (S 1020 0) = 38 ∨ S 7 (S 1020 0) = 39 then 9 else (-1))))))))))) else (-1) : Int) = (if S 7 (S 1020 0) = 15 then 0 else (if S 7 (S 1020 0) = 14 then 1 else (if S 7 (S 1020 0) = 41 then 2 else (if S 7 (S 1020 0) = 42 then 3 else (if S 7 (S 1020 0) = 40 then 4 else (if S 7 (S 1020 0) = 8 ∨ S 7 (S 1020 0) = 9 ∨ S 7 (S 1020 0) = 4 ∨ S 7 (S 1020 0) = 5 then 5 else (if S 7 (S 1020 0) = 33 ∨ S 7 (S 1020 0) = 34 ∨ S 7 (S 1020 0) = 6 ∨ S 7 (S 1020 0) = 7 then 6 else (if S 7 (S 1020 0) = 12 ∨ S 7 (S 1020 0) = 13 ∨ S 7 (S 1020 0) = 3 then 7 else (if S 7 (S 1020 0) = 35 ∨ S 7 (S 1020 0) = 36 then 8 else (if S 7 (S 1020 0) = 37 ∨ S 7 (S 1020 0) = 38 ∨ S 7 (S 1020 0) = 39 then 9 else (-1))))))))))) := if_pos h9_
        have e63_ : (if S 7 (S 1020 0) = 14 then 1 else (if S 7 (S 1020 0) = 41 then 2 else (if S 7 (S 1020 0) = 42 then 3 else (if S 7 (S 1020 0) = 40 then 4 else (if S 7 (S 1020 0) = 8 ∨ S 7 (S 1020 0) = 9 ∨ S 7 (S 1020 0) = 4 ∨ S 7 (S 1020 0) = 5 then 5 else (if S 7 (S 1020 0) = 33 ∨ S 7 (S 1020 0) = 34 ∨ S 7 (S 1020 0) = 6 ∨ S 7 (S 1020 0) = 7 then 6 else (if S 7 (S 1020 0) = 12 ∨ S 7 (S 1020 0) = 13 ∨ S 7 (S 1020 0) = 3 then 7 else (if S 7 (S 1020 0) = 35 ∨ S 7 (S 1020 0) = 36 then 8 else (if S 7 (S 1020 0) = 37 ∨ S 7 (S 1020 0) = 38 ∨ S 7 (S 1020 0) = 39 then 9 else (-1))))))))) : Int) = (if S 7 (S 1020 0) = 41 then 2 else (if S 7 (S 1020 0) = 42 then 3 else (if S 7 (S 1020 0) = 40 then 4 else (if S 7 (S 1020 0) = 8 ∨ S 7 (S 1020 0) = 9 ∨ S 7 (S 1020 0) = 4 ∨ S 7 (S 1020 0) = 5 then 5 else (if S 7 (S 1020 0) = 33 ∨ S 7 (S 1020 0) = 34 ∨ S 7 (S 1020 0) = 6 ∨ S 7 (S 1020 0) = 7 then 6 else (if S 7 (S 1020 0) = 12 ∨ S 7 (S 1020 0) = 13 ∨ S 7 (S 1020 0) = 3 then 7 else (if S 7 (S 1020 0) = 35 ∨ S 7 (S 1020 0) = 36 then 8 else (if S 7 (S 1020 0) = 37 ∨ S 7 (S 1020 0) = 38 ∨ S 7 (S 1020 0) = 39 then 9 else (-1))))))))) := if_neg (la_bindsOf_56 h53_)
        have e64_ : (if S 7 (S 1020 0) = 12 ∨ S 7 (S 1020 0) = 13 ∨ S 7 (S 1020 0) = 3 then 7 else (if S 7 (S 1020 0) = 35 ∨ S 7 (S 1020 0) = 36 then 8 else (if S 7 (S 1020 0) = 37 ∨ S 7 (S 1020 0) = 38 ∨ S 7 (S 1020 0) = 39 then 9 else (-1))) : Int) = (if S 7 (S 1020 0) = 35 ∨ S 7 (S 1020 0) = 36 then 8 else (if S 7 (S 1020 0) = 37 ∨ S 7 (S 1020 0) = 38 ∨ S 7 (S 1020 0) = 39 then 9 else (-1))) := if_neg (la_bindsOf_57 h53_)
        have e65_ : (if S 6 (S 1020 0) = 2 then (if S 7 (S 1020 0) = 14 ∨ S 7 (S 1020 0) = 13 ∧ p1 = 1 then 6 else (-1)) else (if S 6 (S 1020 0) = 5 then (if S 7 (S 1020 0) = 15 then 0 else (if S 7 (S 1020 0) = 14 then 1 else (if S 7 (S 1020 0) = 41 then 2 else (if S 7 (S 1020 0) = 42 then 3 else (if S 7 (S 1020 0) = 40 then 4 else (if S 7 (S 1020 0) = 8 ∨ S 7 (S 1020 0) = 9 ∨ S 7 (S 1020 0) = 4 ∨ S 7 (S 1020 0) = 5 then 5 else (if S 7 (S 1020 0) = 33 ∨ S 7 (S 1020 0) = 34 ∨ S 7 (S 1020 0) = 6 ∨ S 7 (S 1020 0) = 7 then 6 else (if S 7 (S 1020 0) = 12 ∨ S 7 (S 1020 0) = 13 ∨ S 7 (S 1020 0) = 3 then 7 else (if S 7 (S 1020 0) = 35 ∨ S 7 (S 1020 0) = 36 then 8 else (if S 7 (S 1020 0) = 37 ∨ S 7 (S 1020 0) = 38 ∨ S 7 (S 1020 0) = 39 then 9 else (-1))))))))))) else (-1)) : Int) = (if S 6 (S 1020 0) = 5 then (if S 7 (S 1020 0) = 15 then 0 else (if S 7 (S 1020 0) = 14 then 1 else (if S 7 (S 1020 0) = 41 then 2 else (if S 7 (S 1020 0) = 42 then 3 else (if S 7 (S 1020 0) = 40 then 4 else (if S 7 (S 1020 0) = 8 ∨ S 7 (S 1020 0) = 9 ∨ S 7 (S 1020 0) = 4 ∨ S 7 (S 1020 0) = 5 then 5 else (if S 7 (S 1020 0) = 33 ∨ S 7 (S 1020 0) = 34 ∨ S 7 (S 1020 0) = 6 ∨ S 7 (S 1020 0) = 7 then 6 else (if S 7 (S 1020 0) = 12 ∨ S 7 (S 1020 0) = 13 ∨ S 7 (S 1020 0) = 3 then 7 else (if S 7 (S 1020 0) = 35 ∨ S 7 (S 1020 0) = 36 then 8 else (if S 7 (S 1020 0) = 37 ∨ S 7 (S 1020 0) = 38 ∨ S 7 (S 1020 0) = 39 then 9 else (-1))))))))))) else (-1)) := if_neg h8_
        have e66_ : (if S 7 (S 1020 0) = 14 ∨ S 7 (S 1020 0) = 13 ∧ p1 = 1 then 6 else (-1) : Int) = (-1) := if_neg (la_bindsOf_58 h53_)
        exact (la_bindsOf_59 e55_ e59_ e62_ e63_ e65_)
      refine ⟨?_, ?_⟩
      · skip
        intro h67_
        refine ⟨la_bindsOf_60, ?_⟩
        refine ⟨la_bindsOf_61, ?_⟩
        refine ⟨(la_bindsOf_62 h9_), ?_⟩
        have e68_ : (if S 7 (S 1020 0) = 33 ∨ S 7 (S 1020 0) = 34 ∨ S 7 (S 1020 0) = 6 ∨ S 7 (S 1020 0) = 7 then 6 else (if S 7 (S 1020 0) = 12 ∨ S 7 (S 1020 0) = 13 ∨ S 7 (S 1020 0) = 3 then 7 else (if S 7 (S 1020 0) = 35 ∨ S 7 (S 1020 0) = 36 then 8 else (if S 7 (S 1020 0) = 37 ∨ S 7 (S 1020 0) = 38 ∨ S 7 (S 1020 0) = 39 then 9 else (-1)))) : Int) = (if S 7 (S 1020 0) = 12 ∨ S 7 (S 1020 0) = 13 ∨ S 7 (S 1020 0) = 3 then 7 else (if S 7 (S 1020 0) = 35 ∨ S 7 (S 1020 0) = 36 then 8 else (if S 7 (S 1020 0) = 37 ∨ S 7 (S 1020 0) = 38 ∨ S 7 (S 1020 0) = 39 then 9 else (-1)))) := if_neg (la_bindsOf_63 h67_)
        have e69_ : (if S 7 (S 1020 0) = 41 then 2 else (if S 7 (S 1020 0) = 42 then 3 else (if S 7 (S 1020 0) = 40 then 4 else (if S 7 (S 1020 0) = 8 ∨ S 7 (S 1020 0) = 9 ∨ S 7 (S 1020 0) = 4 ∨ S 7 (S 1020 0) = 5 then 5 else (if S 7 (S 1020 0) = 33 ∨ S 7 (S 1020 0) = 34 ∨ S 7 (S 1020 0) = 6 ∨ S 7 (S 1020 0) = 7 then 6 else (if S 7 (S 1020 0) = 12 ∨ S 7 (S 1020 0) = 13 ∨ S 7 (S 1020 0) = 3 then 7 else (if S 7 (S 1020 0) = 35 ∨ S 7 (S 1020 0) = 36 then 8 else (if S 7 (S 1020 0) = 37 ∨ S 7 (S 1020 0) = 38 ∨ S 7 (S 1020 0) = 39 then 9 else (-1)))))))) : Int) = (if S 7 (S 1020 0) = 42 then 3 else (if S 7 (S 1020 0) = 40 then 4 else (if S 7 (S 1020 0) = 8 ∨ S 7 (S 1020 0) = 9 ∨ S 7 (S 1020 0) = 4 ∨ S 7 (S 1020 0) = 5 then 5 else (if S 7 (S 1020 0) = 33 ∨ S 7 (S 1020 0) = 34 ∨ S 7 (S 1020 0) = 6 ∨ S 7 (S 1020 0) = 7 then 6 else (if S 7 (S 1020 0) = 12 ∨ S 7 (S 1020 0) = 13 ∨ S 7 (S 1020 0) = 3 then 7 else (if S 7 (S 1020 0) = 35 ∨ S 7 (S 1020 0) = 36 then 8 else (if S 7 (S 1020 0) = 37 ∨ S 7 (S 1020 0) = 38 ∨ S 7 (S 1020 0) = 39 then 9 else (-1)))))))) := if_neg (la_bindsOf_64 h67_)
        have e70_ : (if S 7 (S 1020 0) = 42 then 3 else (if S 7 (S 1020 0) = 40 then 4 else (if S 7 (S 1020 0) = 8 ∨ S 7 (S 1020 0) = 9 ∨ S 7 (S 1020 0) = 4 ∨ S 7 (S 1020 0) = 5 then 5 else (if S 7 (S 1020 0) = 33 ∨ S 7 (S 1020 0) = 34 ∨ S 7 (S 1020 0) = 6 ∨ S 7 (S 1020 0) = 7 then 6 else (if S 7 (S 1020 0) = 12 ∨ S 7 (S 1020 0) = 13 ∨ S 7 (S 1020 0) = 3 then 7 else (if S 7 (S 1020 0) = 35 ∨ S 7 (S 1020 0) = 36 then 8 else (if S 7 (S 1020 0) = 37 ∨ S 7 (S 1020 0) = 38 ∨ S 7 (S 1020 0) = 39 then 9 else (-1))))))) : Int) = 3 := if_pos h67_
        have e71_ : (if S 7 (S 1020 0) = 37 ∨ S 7 (S 1020 0) = 38 ∨ S 7 (S 1020 0) = 39 then 9 else (-1) : Int) = (-1) := if_neg (la_bindsOf_65 h67_)
        have e72_ : (if S 7 (S 1020 0) = 8 ∨ S 7 (S 1020 0) = 9 ∨ S 7 (S 1020 0) = 4 ∨ S 7 (S 1020 0) = 5 then 5 else (if S 7 (S 1020 0) = 33 ∨ S 7 (S 1020 0) = 34 ∨ S 7 (S 1020 0) = 6 ∨ S 7 (S 1020 0) = 7 then 6 else (if S 7 (S 1020 0) = 12 ∨ S 7 (S 1020 0) = 13 ∨ S 7 (S 1020 0) = 3 then 7 else (if S 7 (S 1020 0) = 35 ∨ S 7 (S 1020 0) = 36 then 8 else (if S 7 (S 1020 0) = 37 ∨ S 7 (S 1020 0) = 38 ∨ S 7 (S 1020 0) = 39 then 9 else (-1))))) : Int) = (if S 7 (S 1020 0) = 33 ∨ S 7 (S 1020 0) = 34 ∨ S 7 (S 1020 0) = 6 ∨ S 7 (S 1020 0) = 7 then 6 else (if S 7 (S 1020 0) = 12 ∨ S 7 (S 1020 0) = 13 ∨ S 7 (S 1020 0) = 3 then 7 else (if S 7 (S 1020 0) = 35 ∨ S 7 (S 1020 0) = 36 then 8 else (if S 7 (S 1020 0) = 37 ∨ S 7 (S 1020 0) = 38 ∨ S 7 (S 1020 0) = 39 then 9 else (-1))))) := if_neg (la_bindsOf_66 h67_)
        have e73_ : (if S 7 (S 1020 0) = 15 then 0 else (if S 7 (S 1020 0) = 14 then 1 else (if S 7 (S 1020 0) = 41 then 2 else (if S 7 (S 1020 0) = 42 then 3 else (if S 7 (S 1020 0) = 40 then 4 else (if S 7 (S 1020 0) = 8 ∨ S 7 (S 1020 0) = 9 ∨ S 7 (S 1020 0) = 4 ∨ S 7 (S 1020 0) = 5 then 5 else (if S 7 (S 1020 0) = 33 ∨ S 7 (S 1020 0) = 34 ∨ S 7 (S 1020 0) = 6 ∨ S 7 (S 1020 0) = 7 then 6 else (if S 7 (S 1020 0) = 12 ∨ S 7 (S 1020 0) = 13 ∨ S 7 (S 1020 0) = 3 then 7 else (if S 7 (S 1020 0) = 35 ∨ S 7 (S 1020 0) = 36 then 8 else (if S 7 (S 1020 0) = 37 ∨ S 7 (S 1020 0) = 38 ∨ S 7 (S 1020 0) = 39 then 9 else (-1)))))))))) : Int) = (if S 7 (S 1020 0) = 14 then 1 else (if S 7 (S 1020 0) = 41 then 2 else (if S 7 (S 1020 0) = 42 then 3 else (if S 7 (S 1020 0) = 40 then 4 else (if S 7 (S 1020 0) = 8 ∨ S 7 (S 1020 0) = 9 ∨ S 7 (S 1020 0) = 4 ∨ S 7 (S 1020 0) = 5 then 5 else (if S 7 (S 1020 0) = 33 ∨ S 7 (S 1020 0) = 34 ∨ S 7 (S 1020 0) = 6 ∨ S 7 (S 1020 0) = 7 then 6 else (if S 7 (S 1020 0) = 12 ∨ S 7 (S 1020 0) = 13 ∨ S 7 (S 1020 0) = 3 then 7 else (if S 7 (S 1020 0) = 35 ∨ S 7 (S 1020 0) = 36 then 8 else (if S 7 (S 1020 0) = 37 ∨ S 7 (S 1020 0) = 38 ∨ S 7 (S 1020 0) = 39 then 9 else (-1)))))))))) := if_neg (la_bindsOf_67 h67_)
        have e74_ : (if S 7 (S 1020 0) = 35 ∨ S 7 (S 1020 0) = 36 then 8 else (if S 7 (S 1020 0) = 37 ∨ S 7 (S 1020 0) = 38 ∨ S 7 (S 1020 0) = 39 then 9 else (-1)) : Int) = (if S 7 (S 1020 0) = 37 ∨ S 7 (S 1020 0) = 38 ∨ S 7 (S 1020 0) = 39 then 9 else (-1)) := if_neg (la_bindsOf_68 h67_)
        have e75_ : (if S 7 (S 1020 0) = 40 then 4 else (if S 7 (S 1020 0) = 8 ∨ S 7 (S 1020 0) = 9 ∨ S 7 (S 1020 0) = 4 ∨ S 7 (S 1020 0) = 5 then 5 else (if S 7 (S 1020 0) = 33 ∨ S 7 (S 1020 0) = 34 ∨ S 7 (S 1020 0) = 6 ∨ S 7 (S 1020 0) = 7 then 6 else (if S 7 (S 1020 0) = 12 ∨ S 7 (S 1020 0) = 13 ∨ S 7 (S 1020 0) = 3 then 7 else (if S 7 (S 1020 0) = 35 ∨ S 7 (S 1020 0) = 36 then 8 else (if S 7 (S 1020 0) = 37 ∨ S 7 (S 1020 0) = 38 ∨ S 7 (S 1020 0) = 39 then 9 else (-1)))))) : Int) = (if S 7 (S 1020 0) = 8 ∨ S 7 (S 1020 0) = 9 ∨ S 7 (S 1020 0) = 4 ∨ S 7 (S 1020 0) = 5 then 5 else (if S 7 (S 1020 0) = 33 ∨ S 7 (S 1020 0) = 34 ∨ S 7 (S 1020 0) = 6 ∨ S 7 (S 1020 0) = 7 then 6 else (if S 7 (S 1020 0) = 12 ∨ S 7 (S 1020 0) = 13 ∨ S 7 (S 1020 0) = 3 then 7 else (if S 7 (S 1020 0) = 35 ∨ S 7 (S 1020 0) = 36 then 8 else (if S 7 (S 1020 0) = 37 ∨ S 7 (S 1020 0) = 38 ∨ S 7 (S 1020 0) = 39 then 9 else (-1)))))) := if_neg (la_bindsOf_69 h67_)
        have e76_ : (if S 6 (S 1020 0) = 5 then (if S 7 (S 1020 0) = 15 then 0 else (if S 7 (S 1020 0) = 14 then 1 else (if S 7 (S 1020 0) = 41 then 2 else (if S 7 (S 1020 0) = 42 then 3 else (if S 7 (S 1020 0) = 40 then 4 else (if S 7 (S 1020 0) = 8 ∨ S 7 (S 1020 0) = 9 ∨ S 7 (S 1020 0) = 4 ∨ S 7 (S 1020 0) = 5 then 5 else (if S 7 (S 1020 0) = 33 ∨ S 7 (S 1020 0) = 34 ∨ S 7 (S 1020 0) = 6 ∨ S 7 (S 1020 0) = 7 then 6 else (if S 7 (S 1020 0) = 12 ∨ S 7 (S 1020 0) = 13 ∨ S 7 (S 1020 0) = 3 then 7 else (if S 7 (S 1020 0) = 35 ∨ S 7 (S 1020 0) = 36 then 8 else (if S 7 (S 1020 0) = 37 ∨ S 7 (S 1020 0) = 38 ∨ S 7 (S 1020 0) = 39 then 9 else (-1))))))))))) else (-1) : Int) = (if S 7 (S 1020 0) = 15 then 0 else (if S 7 (S 1020 0) = 14 then 1 else (if S 7 (S 1020 0) = 41 then 2 else (if S 7 (S 1020 0) = 42 then 3 else (if S 7 (S 1020 0) = 40 then 4 else (if S 7 (S 1020 0) = 8 ∨ S 7 (S 1020 0) = 9 ∨ S 7 (S 1020 0) = 4 ∨ S 7 (S 1020 0) = 5 then 5 else (if S 7 (S 1020 0) = 33 ∨ S 7 (S 1020 0) = 34 ∨ S 7 (S 1020 0) = 6 ∨ S 7 (S 1020 0) = 7 then 6 else (if S 7 (S 1020 0) = 12 ∨ S 7 (S 1020 0) = 13 ∨ S 7 (S 1020 0) = 3 then 7 else (if S 7 (S 1020 0) = 35 ∨ S 7 (S 1020 0) = 36 then 8 else (if S 7 (S 1020 0) = 37 ∨ S 7 (S 1020 0) = 38 ∨ S 7 (S 1020 0) = 39 then 9 else (-1))))))))))) := if_pos h9_
        have e77_ : (if S 7 (S 1020 0) = 14 then 1 else (if S 7 (S 1020 0) = 41 then 2 else (if S 7 (S 1020 0) = 42 then 3 else (if S 7 (S 1020 0) = 40 then 4 else (if S 7 (S 1020 0) = 8 ∨ S 7 (S 1020 0) = 9 ∨ S 7 (S 1020 0) = 4 ∨ S 7 (S 1020 0) = 5 then 5 else (if S 7 (S 1020 0) = 33 ∨ S 7 (S 1020 0) = 34 ∨ S 7 (S 1020 0) = 6 ∨ S 7 (S 1020 0) = 7 then 6 else (if S 7 (S 1020 0) = 12 ∨ S 7 (S 1020 0) = 13 ∨ S 7 (S 1020 0) = 3 then 7 else (if S 7 (S 1020 0) = 35 ∨ S 7 (S 1020 0) = 36 then 8 else (if S 7 (S 1020 0) = 37 ∨ S 7 (S 1020 0) = 38 ∨ S 7 (S 1020 0) = 39 then 9 else (-1))))))))) : Int) = (if S 7 (S 1020 0) = 41 then 2 else (if S 7 (S 1020 0) = 42 then 3 else (if S 7 (S 1020 0) = 40 then 4 else (if S 7 (S 1020 0) = 8 ∨ S 7 (S 1020 0) = 9 ∨ S 7 (S 1020 0) = 4 ∨ S 7 (S 1020 0) = 5 then 5 else (if S 7 (S 1020 0) = 33 ∨ S 7 (S 1020 0) = 34 ∨ S 7 (S 1020 0) = 6 ∨ S 7 (S 1020 0) = 7 then 6 else (if S 7 (S 1020 0) = 12 ∨ S 7 (S 1020 0) = 13 ∨ S 7 (S 1020 0) = 3 then 7 else (if S 7 (S 1020 0) = 35 ∨ S 7 (S 1020 0) = 36 then 8 else (if S 7 (S 1020 0) = 37 ∨ S 7 (S 1020 0) = 38 ∨ S 7 (S 1020 0) = 39 then 9 else (-1))))))))) := if_neg (la_bindsOf_70 h67_)
        have e78_ : (if S 7 (S 1020 0) = 12 ∨ S 7 (S 1020 0) = 13 ∨ S 7 (S 1020 0) = 3 then 7 else (if S 7 (S 1020 0) = 35 ∨ S 7 (S 1020 0) = 36 then 8 else (if S 7 (S 1020 0) = 37 ∨ S 7 (S 1020 0) = 38 ∨ S 7 (S 1020 0) = 39 then 9 else (-1))) : Int) = (if S 7 (S 1020 0) = 35 ∨ S 7 (S 1020 0) = 36 then 8 else (if S 7 (S 1020 0) = 37 ∨ S 7 (S 1020 0) = 38 ∨ S 7 (S 1020 0) = 39 then 9 else (-1))) := if_neg (la_bindsOf_71 h67_)
        have e79_ : (if S 6 (S 1020 0) = 2 then (if S 7 (S 1020 0) = 14 ∨ S 7 (S 1020 0) = 13 ∧ p1 = 1 then 6 else (-1)) else (if S 6 (S 1020 0) = 5 then (if S 7 (S 1020 0) = 15 then 0 else (if S 7 (S 1020 0) = 14 then 1 else (if S 7 (S 1020 0) = 41 then 2 else (if S 7 (S 1020 0) = 42 then 3 else (if S 7 (S 1020 0) = 40 then 4 else (if S 7 (S 1020 0) = 8 ∨ S 7 (S 1020 0) = 9 ∨ S 7 (S 1020 0) = 4 ∨ S 7 (S 1020 0) = 5 then 5 else (if S 7 (S 1020 0) = 33 ∨ S 7 (S 1020 0) = 34 ∨ S 7 (S 1020 0) = 6 ∨ S 7 (S 1020 0) = 7 then 6 else (if S 7 (S 1020 0) = 12 ∨ S 7 (S 1020 0) = 13 ∨ S 7 (S 1020 0) = 3 then 7 else (if S 7 (S 1020 0) = 35 ∨ S 7 (S 1020 0) = 36 then 8 else (if S 7 (S 1020 0) = 37 ∨ S 7 (S 1020 0) = 38 ∨ S 7 (S 1020 0) = 39 then 9 else (-1))))))))))) else (-1)) : Int) = (if S 6 (S 1020 0) = 5 then (if S 7 (S 1020 0) = 15 then 0 else (if S 7 (S 1020 0) = 14 then 1 else (if S 7 (S 1020 0) = 41 then 2 else (if S 7 (S 1020 0) = 42 then 3 else (if S 7 (S 1020 0) = 40 then 4 else (if S 7 (S 1020 0) = 8 ∨ S 7 (S 1020 0) = 9 ∨ S 7 (S 1020 0) = 4 ∨ S 7 (S 1020 0) = 5 then 5 else (if S 7 (S 1020 0) = 33 ∨ S 7 (S 1020 0) = 34 ∨ S 7 (S 1020 0) = 6 ∨ S 7 (S 1020 0) = 7 then 6 else (if S 7 (S 1020 0) = 12 ∨ S 7 (S 1020 0) = 13 ∨ S 7 (S 1020 0) = 3 then 7 else (if S 7 (S 1020 0) = 35 ∨ S 7 (S 1020 0) = 36 then 8 else (if S 7 (S 1020 0) = 37 ∨ S 7 (S 1020 0) = 38 ∨ S 7 (S 1020 0) = 39 then 9 else (-1))))))))))) else (-1)) := if_neg h8_
        have e80_ : (if S 7 (S 1020 0) = 14 ∨ S 7 (S 1020 0) = 13 ∧ p1 = 1 then 6 else (-1) : Int) = (-1) := if_neg (la_bindsOf_72 h67_)
        exact (la_bindsOf_73 e69_ e70_ e73_ e76_ e77_ e79_)
      refine ⟨?_, ?_⟩
      · skip
        intro h81_
        refine ⟨la_bindsOf_74, ?_⟩
        refine ⟨la_bindsOf_75, ?_⟩
        refine ⟨(la_bindsOf_76 h9_), ?_⟩
        have e82_ : (if S 7 (S 1020 0) = 33 ∨ S 7 (S 1020 0) = 34 ∨ S 7 (S 1020 0) = 6 ∨ S 7 (S 1020 0) = 7 then 6 else (if S 7 (S 1020 0) = 12 ∨ S 7 (S 1020 0) = 13 ∨ S 7 (S 1020 0) = 3 then 7 else (if S 7 (S 1020 0) = 35 ∨ S 7 (S 1020 0) = 36 then 8 else (if S 7 (S 1020 0) = 37 ∨ S 7 (S 1020 0) = 38 ∨ S 7 (S 1020 0) = 39 then 9 else (-1)))) : Int) = (if S 7 (S 1020 0) = 12 ∨ S 7 (S 1020 0) = 13 ∨ S 7 (S 1020 0) = 3 then 7 else (if S 7 (S 1020 0) = 35 ∨ S 7 (S 1020 0) = 36 then 8 else (if S 7 (S 1020 0) = 37 ∨ S 7 (S 1020 0) = 38 ∨ S 7 (S 1020 0) = 39 then 9 else (-1)))) := if_neg (la_bindsOf_77 h81_)
        have e83_ : (if S 7 (S 1020 0) = 41 then 2 else (if S 7 (S 1020 0) = 42 then 3 else (if S 7 (S 1020 0) = 40 then 4 else (if S 7 (S 1020 0) = 8 ∨ S 7 (S 1020 0) = 9 ∨ S 7 (S 1020 0) = 4 ∨ S 7 (S 1020 0) = 5 then 5 else (if S 7 (S 1020 0) = 33 ∨ S 7 (S 1020 0) = 34 ∨ S 7 (S 1020 0) = 6 ∨ S 7 (S 1020 0) = 7 then 6 else (if S 7 (S 1020 0) = 12 ∨ S 7 (S 1020 0) = 13 ∨ S 7 (S 1020 0) = 3 then 7 else (if S 7 (S 1020 0) = 35 ∨ S 7 (S 1020 0) = 36 then 8 else (if S 7 (S 1020 0) = 37 ∨ S 7 (S 1020 0) = 38 ∨ S 7 (S 1020 0) = 39 then 9 else (-1)))))))) : Int) = (if S 7 (S 1020 0) = 42 then 3 else (if S 7 (S 1020 0) = 40 then 4 else (if S 7 (S 1020 0) = 8 ∨ S 7 (S 1020 0) = 9 ∨ S 7 (S 1020 0) = 4 ∨ S 7 (S 1020 0) = 5 then 5 else (if S 7 (S 1020 0) = 33 ∨ S 7 (S 1020 0) = 34 ∨ S 7 (S 1020 0) = 6 ∨ S 7 (S 1020 0) = 7 then 6 else (if S 7 (S 1020 0) = 12 ∨ S 7 (S 1020 0) = 13 ∨ S 7 (S 1020 0) = 3 then 7 else (if S 7 (S 1020 0) = 35 ∨ S 7 (S 1020 0) = 36 then 8 else (if S 7 (S 1020 0) = 37 ∨ S 7 (S 1020 0) = 38 ∨ S 7 (S 1020 0) = 39 then 9 else (-1)))))))) := if_neg (la_bindsOf_78 h81_)
        have e84_ : (if S 7 (S 1020 0) = 42 then 3 else (if S 7 (S 1020 0) = 40 then 4 else (if S 7 (S 1020 0) = 8 ∨ S 7 (S 1020 0) = 9 ∨ S 7 (S 1020 0) = 4 ∨ S 7 (S 1020 0) = 5 then 5 else (if S 7 (S 1020 0) = 33 ∨ S 7 (S 1020 0) = 34 ∨ S 7 (S 1020 0) = 6 ∨ S 7 (S 1020 0) = 7 then 6 else (if S 7 (S 1020 0) = 12 ∨ S 7 (S 1020 0) = 13 ∨ S 7 (S 1020 0) = 3 then 7 else (if S 7 (S 1020 0) = 35 ∨ S 7 (S 1020 0) = 36 then 8 else (if S 7 (S 1020 0) = 37 ∨ S 7 (S 1020 0) = 38 ∨ S 7 (S 1020 0) = 39 then 9 else (-1))))))) : Int) = (if S 7 (S 1020 0) = 40 then 4 else (if S 7 (S 1020 0) = 8 ∨ S 7 (S 1020 0) = 9 ∨ S 7 (S 1020 0) = 4 ∨ S 7 (S 1020 0) = 5 then 5 else (if S 7 (S 1020 0) = 33 ∨ S 7 (S 1020 0) = 34 ∨ S 7 (S 1020 0) = 6 ∨ S 7 (S 1020 0) = 7 then 6 else (if S 7 (S 1020 0) = 12 ∨ S 7 (S 1020 0) = 13 ∨ S 7 (S 1020 0) = 3 then 7 else (if S 7 (S 1020 0) = 35 ∨ S 7 (S 1020 0) = 36 then 8 else (if S 7 (S 1020 0) = 37 ∨ S 7 (S 1020 0) = 38 ∨ S 7 (S 1020 0) = 39 then 9 else (-1))))))) := if_neg (la_bindsOf_79 h81_)
        have e85_ : (if S 7 (S 1020 0) = 37 ∨ S 7 (S 1020 0) = 38 ∨ S 7 (S 1020 0) = 39 then 9 else (-1) : Int) = (-1) := if_neg (la_bindsOf_80 h81_)
        have e86_ : (if S 7 (S 1020 0) = 8 ∨ S 7 (S 1020 0) = 9 ∨ S 7 (S 1020 0) = 4 ∨ S 7 (S 1020 0) = 5 then 5 else (if S 7 (S 1020 0) = 33 ∨ S 7 (S 1020 0) = 34 ∨ S 7 (S 1020 0) = 6 ∨ S 7 (S 1020 0) = 7 then 6 else (if S 7 (S 1020 0) = 12 ∨ S 7 (S 1020 0) = 13 ∨ S 7 (S 1020 0) = 3 then 7 else (if S 7 (S 1020 0) = 35 ∨ S 7 (S 1020 0) = 36 then 8 else (if S 7 (S 1020 0) = 37 ∨ S 7 (S 1020 0) = 38 ∨ S 7 (S 1020 0) = 39 then 9 else (-1))))) : Int) = (if S 7 (S 1020 0) = 33 ∨ S 7 (S 1020 0) = 34 ∨ S 7 (S 1020 0) = 6 ∨ S 7 (S 1020 0) = 7 then 6 else (if S 7 (S 1020 0) = 12 ∨ S 7 (S 1020 0) = 13 ∨ S 7 (S 1020 0) = 3 then 7 else (if S 7 (S 1020 0) = 35 ∨ S 7 (S 1020 0) = 36 then 8 else (if S 7 (S 1020 0) = 37 ∨ S 7 (S 1020 0) = 38 ∨ S 7 (S 1020 0) = 39 then 9 else (-1))))) := if_neg (la_bindsOf_81 h81_)
        have e87_ : (if S 7 (S 1020 0) = 15 then 0 else (if S 7 (S 1020 0) = 14 then 1 else (if S 7 (S 1020 0) = 41 then 2 else (if S 7 (S 1020 0) = 42 then 3 else (if S 7 (S 1020 0) = 40 then 4 else (if S 7 (S 1020 0) = 8 ∨ S 7 (S 1020 0) = 9 ∨ S 7 (S 1020 0) = 4 ∨ S 7 (S 1020 0) = 5 then 5 else (if S 7 (S 1020 0) = 33 ∨ S 7 (S 1020 0) = 34 ∨ S 7 (S 1020 0) = 6 ∨ S 7 (S 1020 0) = 7 then 6 else (if S 7 (S 1020 0) = 12 ∨ S 7 (S 1020 0) = 13 ∨ S 7 (S 1020 0) = 3 then 7 else (if S 7 (S 1020 0) = 35 ∨ S 7 (S 1020 0) = 36 then 8 else (if S 7 (S 1020 0) = 37 ∨ S 7 (S 1020 0) = 38 ∨ S 7 (S 1020 0) = 39 then 9 else (-1)))))))))) : Int) = (if S 7 (S 1020 0) = 14 then 1 else (if S 7 (S 1020 0) = 41 then 2 else (if S 7 (S 1020 0) = 42 then 3 else (if S 7 (S 1020 0) = 40 then 4 else (if S 7 (S 1020 0) = 8 ∨ S 7 (S 1020 0) = 9 ∨ S 7 (S 1020 0) = 4 ∨ S 7 (S 1020 0) = 5 then 5 else (if S 7 (S 1020 0) = 33 ∨ S 7 (S 1020 0) = 34 ∨ S 7 (S 1020 0) = 6 ∨ S 7 (S 1020 0) = 7 then 6 else (if S 7 (S 1020 0) = 12 ∨ S 7 (S 1020 0) = 13 ∨ S 7 (S 1020 0) = 3 then 7 else (if S 7 (S 1020 0) = 35 ∨ S 7 (S 1020 0) = 36 then 8 else (if S 7 (S 1020 0) = 37 ∨ S 7 (S 1020 0) = 38 ∨ S 7 (S 1020 0) = 39 then 9 else (-1)))))))))) := if_neg (la_bindsOf_82 h81_)
        have e88_ : (if S 7 (S 1020 0) = 35 ∨ S 7 (S 1020 0) = 36 then 8 else (if S 7 (S 1020 0) = 37 ∨ S 7 (S 1020 0) = 38 ∨ S 7 (S 1020 0) = 39 then 9 else (-1)) : Int) = (if S 7 (S 1020 0) = 37 ∨ S 7 (S 1020 0) = 38 ∨ S 7 (S 1020 0) = 39 then 9 else (-1)) := if_neg (la_bindsOf_83 h81_)
        have e89_ : (if S 7 (S 1020 0) = 40 then 4 else (if S 7 (S 1020 0) = 8 ∨ S 7 (S 1020 0) = 9 ∨ S 7 (S 1020 0) = 4 ∨ S 7 (S 1020 0) = 5 then 5 else (if S 7 (S 1020 0) = 33 ∨ S 7 (S 1020 0) = 34 ∨ S 7 (S 1020 0) = 6 ∨ S 7 (S 1020 0) = 7 then 6 else (if S 7 (S 1020 0) = 12 ∨ S 7 (S 1020 0) = 13 ∨ S 7 (S 1020 0) = 3 then 7 else (if S 7 (S 1020 0) = 35 ∨ S 7 (S 1020 0) = 36 then 8 else (if S 7 (S 1020 0) = 37 ∨ S 7 (S 1020 0) = 38 ∨ S 7 (S 1020 0) = 39 then 9 else (-1)))))) : Int) = 4 := if_pos h81_
        have e90_ : (if S 6 (S 1020 0) = 5 then (if S 7 (S 1020 0) = 15 then 0 else (if S 7 (S 1020 0) = 14 then 1 else (if S 7 (S 1020 0) = 41 then 2 else (if S 7 (S 1020 0) = 42 then 3 else (if S 7 (S 1020 0) = 40 then 4 else (if S 7 (S 1020 0) = 8 ∨ S 7 (S 1020 0) = 9 ∨ S 7 (S 1020 0) = 4 ∨ S 7 (S 1020 0) = 5 then 5 else (if S 7 (S 1020 0) = 33 ∨ S 7 (S 1020 0) = 34 ∨ S 7 (S 1020 0) = 6 ∨ S 7 (S 1020 0) = 7 then 6 else (if S 7 (S 1020 0) = 12 ∨ S 7 (S 1020 0) = 13 ∨ S 7 (S 1020 0) = 3 then 7 else (if S 7 (S 1020 0) = 35 ∨ S 7 (S 1020 0) = 36 then 8 else (if S 7 (S 1020 0) = 37 ∨ S 7 (S 1020 0) = 38 ∨ S 7 (S 1020 0) = 39 then 9 else (-1))))))))))) else (-1) : Int) = (if S 7 (S 1020 0) = 15 then 0 else (if S 7 (S 1020 0) = 14 then 1 else (if S 7 (S 1020 0) = 41 then 2 else (if S 7 (S 1020 0) = 42 then 3 else (if S 7 (S 1020 0) = 40 then 4 else (if S 7 (S 1020 0) = 8 ∨ S 7 (S 1020 0) = 9 ∨ S 7 (S 1020 0) = 4 ∨ S 7 (S 1020 0) = 5 then 5 else (if S 7 (S 1020 0) = 33 ∨ S 7 (S 1020 0) = 34 ∨ S 7 (S 1020 0) = 6 ∨ S 7 (S 1020 0) = 7 then 6 else (if S 7 (S 1020 0) = 12 ∨ S 7 (S 1020 0) = 13 ∨ S 7 (S 1020 0) = 3 then 7 else (if S 7 (S 1020 0) = 35 ∨ S 7 (S 1020 0) = 36 then 8 else (if S 7 (S 1020 0) = 37 ∨ S 7 (S 1020 0) = 38 ∨ S 7 (S 1020 0) = 39 then 9 else (-1))))))))))) := if_pos h9_
        have e91_ : (if S 7 (S 1020 0) = 14 then 1 else (if S 7 (S 1020 0) = 41 then 2 else (if S 7 (S 1020 0) = 42 then 3 else (if S 7 (S 1020 0) = 40 then 4 else (if S 7 (S 1020 0) = 8 ∨ S 7 (S 1020 0) = 9 ∨ S 7 (S 1020 0) = 4 ∨ S 7 (S 1020 0) = 5 then 5 else (if S 7 (S 1020 0) = 33 ∨ S 7 (S 1020 0) = 34 ∨ S 7 (S 1020 0) = 6 ∨ S 7 (S 1020 0) = 7 then 6 else (if S 7 (S 1020 0) = 12 ∨ S 7 (S 1020 0) = 13 ∨ S 7 (S 1020 0) = 3 then 7 else (if S 7 (S 1020 0) = 35 ∨ S 7 (S 1020 0) = 36 then 8 else (if S 7 (S 1020 0) = 37 ∨ S 7 (S 1020 0) = 38 ∨ S 7 (S 1020 0) = 39 then 9 else (-1))))))))) : Int) = (if S 7 (S 1020 0) = 41 then 2 else (if S 7 (S 1020 0) = 42 then 3 else (if S 7 (S 1020 0) = 40 then 4 else (if S 7 (S 1020 0) = 8 ∨ S 7 (S 1020 0) = 9 ∨ S 7 (S 1020 0) = 4 ∨ S 7 (S 1020 0) = 5 then 5 else (if S 7 (S 1020 0) = 33 ∨ S 7 (S 1020 0) = 34 ∨ S 7 (S 1020 0) = 6 ∨ S 7 (S 1020 0) = 7 then 6 else (if S 7 (S 1020 0) = 12 ∨ S 7 (S 1020 0) = 13 ∨ S 7 (S 1020 0) = 3 then 7 else (if S 7 (S 1020 0) = 35 ∨ S 7 (S 1020 0) = 36 then 8 else (if S 7 (S 1020 0) = 37 ∨ S 7 (S 1020 0) = 38 ∨ S 7 (S 1020 0) = 39 then 9 else (-1))))))))) := if_neg (la_bindsOf_84 h81_)
        have e92_ : (if S 7 (S 1020 0) = 12 ∨ S 7 (S 1020 0) = 13 ∨ S 7 (S 1020 0) = 3 then 7 else (if S 7 (S 1020 0) = 35 ∨ S 7 (S 1020 0) = 36 then 8 else (if S 7 (S 1020 0) = 37 ∨ S 7 (S 1020 0) = 38 ∨ S 7 (S 1020 0) = 39 then 9 else (-1))) : Int) = (if S 7 (S 1020 0) = 35 ∨ S 7 (S 1020 0) = 36 then 8 else (if S 7 (S 1020 0) = 37 ∨ S 7 (S 1020 0) = 38 ∨ S 7 (S 1020 0) = 39 then 9 else (-1))) := if_neg (la_bindsOf_85 h81_)
        have e93_ : (if S 6 (S 1020 0) = 2 then (if S 7 (S 1020 0) = 14 ∨ S 7 (S 1020 0) = 13 ∧ p1 = 1 then 6 else (-1)) else (if S 6 (S 1020 0) = 5 then (if S 7 (S 1020 0) = 15 then 0 else (if S 7 (S 1020 0) = 14 then 1 else (if S 7 (S 1020 0) = 41 then 2 else (if S 7 (S 1020 0) = 42 then 3 else (if S 7 (S 1020 0) = 40 then 4 else (if S 7 (S 1020 0) = 8 ∨ S 7 (S 1020 0) = 9 ∨ S 7 (S 1020 0) = 4 ∨ S 7 (S 1020 0) = 5 then 5 else (if S 7 (S 1020 0) = 33 ∨ S 7 (S 1020 0) = 34 ∨ S 7 (S 1020 0) = 6 ∨ S 7 (S 1020 0) = 7 then 6 else (if S 7 (S 1020 0) = 12 ∨ S 7 (S 1020 0) = 13 ∨ S 7 (S 1020 0) = 3 then 7 else (if S 7 (S 1020 0) = 35 ∨ S 7 (S 1020 0) = 36 then 8 else (if S 7 (S 1020 0) = 37 ∨ S 7 (S 1020 0) = 38 ∨ S 7 (S 1020 0) = 39 then 9 else (-1))))))))))) else (-1)) : Int) = (if S 6 (S 1020 0) = 5 then (if S 7 (S 1020 0) = 15 then 0 else (if S 7 (S 1020 0) = 14 then 1 else (if S 7 (S 1020 0) = 41 then 2 else (if S 7 (S 1020 0) = 42 then 3 else (if S 7 (S 1020 0) = 40 then 4 else (if S 7 (S 1020 0) = 8 ∨ S 7 (S 1020 0) = 9 ∨ S 7 (S 1020 0) = 4 ∨ S 7 (S 1020 0) = 5 then 5 else (if S 7 (S 1020 0) = 33 ∨ S 7 (S 1020 0) = 34 ∨ S 7 (S 1020 0) = 6 ∨ S 7 (S 1020 0) = 7 then 6 else (if S 7 (S 1020 0) = 12 ∨ S 7 (S 1020 0) = 13 ∨ S 7 (S 1020 0) = 3 then 7 else (if S 7 (S 1020 0) = 35 ∨ S 7 (S 1020 0) = 36 then 8 else (if S 7 (S 1020 0) = 37 ∨ S 7 (S 1020 0) = 38 ∨ S 7 (S 1020 0) = 39 then 9 else (-1))))))))))) else (-1)) := if_neg h8_
        have e94_ : (if S 7 (S 1020 0) = 14 ∨ S 7 (S 1020 0) = 13 ∧ p1 = 1 then 6 else (-1) : Int) = (-1) := if_neg (la_bindsOf_86 h81_)
        exact (la_bindsOf_87 e83_ e84_ e87_ e89_ e90_ e91_ e93_)
      refine ⟨?_, ?_⟩
      · skip
        intro h95_
        refine ⟨la_bindsOf_88, ?_⟩
        refine ⟨la_bindsOf_89, ?_⟩
        refine ⟨(la_bindsOf_90 h9_), ?_⟩
        have e96_ : (if S 6 (S 1020 0) = 5 then (if S 7 (S 1020 0) = 15 then 0 else (if S 7 (S 1020 0) = 14 then 1 else (if S 7 (S 1020 0) = 41 then 2 else (if S 7 (S 1020 0) = 42 then 3 else (if S 7 (S 1020 0) = 40 then 4 else (if S 7 (S 1020 0) = 8 ∨ S 7 (S 1020 0) = 9 ∨ S 7 (S 1020 0) = 4 ∨ S 7 (S 1020 0) = 5 then 5 else (if S 7 (S 1020 0) = 33 ∨ S 7 (S 1020 0) = 34 ∨ S 7 (S 1020 0) = 6 ∨ S 7 (S 1020 0) = 7 then 6 else (if S 7 (S 1020 0) = 12 ∨ S 7 (S 1020 0) = 13 ∨ S 7 (S 1020 0) = 3 then 7 else (if S 7 (S 1020 0) = 35 ∨ S 7 (S 1020 0) = 36 then 8 else (if S 7 (S 1020 0) = 37 ∨ S 7 (S 1020 0) = 38 ∨ S 7 (S 1020 0) = 39 then 9 else (-1))))))))))) else (-1) : Int) = (if S 7 (S 1020 0) = 15 then 0 else (if S 7 (S 1020 0) = 14 then 1 else (if S 7 (S 1020 0) = 41 then 2 else (if S 7 (S 1020 0) = 42 then 3 else (if S 7 (S 1020 0) = 40 then 4 else (if S 7 (S 1020 0) = 8 ∨ S 7 (S 1020 0) = 9 ∨ S 7 (S 1020 0) = 4 ∨ S 7 (S 1020 0) = 5 then 5 else (if S 7 (S 1020 0) = 33 ∨ S 7 (S 1020 0) = 34 ∨ S 7 (S 1020 0) = 6 ∨ S 7 (S 1020 0) = 7 then 6 else (if S 7 (S 1020 0) = 12 ∨ S 7 (S 1020 0) = 13 ∨ S 7 (S 1020 0) = 3 then 7 else (if S 7 (S 1020 0) = 35 ∨ S 7 (S 1020 0) = 36 then 8 else (if S 7 (S 1020 0) = 37 ∨ S 7 (S 1020 0) = 38 ∨ S 7 (S 1020 0) = 39 then 9 else (-1))))))))))) := if_pos h9_
        have e97_ : (if S 6 (S 1020 0) = 2 then (if S 7 (S 1020 0) = 14 ∨ S 7 (S 1020 0) = 13 ∧ p1 = 1 then 6 else (-1)) else (if S 6 (S 1020 0) = 5 then (if S 7 (S 1020 0) = 15 then 0 else (if S 7 (S 1020 0) = 14 then 1 else (if S 7 (S 1020 0) = 41 then 2 else (if S 7 (S 1020 0) = 42 then 3 else (if S 7 (S 1020 0) = 40 then 4 else (if S 7 (S 1020 0) = 8 ∨ S 7 (S 1020 0) = 9 ∨ S 7 (S 1020 0) = 4 ∨ S 7 (S 1020 0) = 5 then 5 else (if S 7 (S 1020 0) = 33 ∨ S 7 (S 1020 0) = 34 ∨ S 7 (S 1020 0) = 6 ∨ S 7 (S 1020 0) = 7 then 6 else (if S 7 (S 1020 0) = 12 ∨ S 7 (S 1020 0) = 13 ∨ S 7 (S 1020 0) = 3 then 7 else (if S 7 (S 1020 0) = 35 ∨ S 7 (S 1020 0) = 36 then 8 else (if S 7 (S 1020 0) = 37 ∨ S 7 (S 1020 0) = 38 ∨ S 7 (S 1020 0) = 39 then 9 else (-1))))))))))) else (-1)) : Int) = (if S 6 (S 1020 0) = 5 then (if S 7 (S 1020 0) = 15 then 0 else (if S 7 (S 1020 0) = 14 then 1 else (if S 7 (S 1020 0) = 41 then 2 else (if S 7 (S 1020 0) = 42 then 3 else (if S 7 (S 1020 0) = 40 then 4 else (if S 7 (S 1020 0) = 8 ∨ S 7 (S 1020 0) = 9 ∨ S 7 (S 1020 0) = 4 ∨ S 7 (S 1020 0) = 5 then 5 else (if S 7 (S 1020 0) = 33 ∨ S 7 (S 1020 0) = 34 ∨ S 7 (S 1020 0) = 6 ∨ S 7 (S 1020 0) = 7 then 6 else (if S 7 (S 1020 0) = 12 ∨ S 7 (S 1020 0) = 13 ∨ S 7 (S 1020 0) = 3 then 7 else (if S 7 (S 1020 0) = 35 ∨ S 7 (S 1020 0) = 36 then 8 else (if S 7 (S 1020 0) = 37 ∨ S 7 (S 1020 0) = 38 ∨ S 7 (S 1020 0) = 39 then 9 else (-1))))))))))) else (-1)) := if_neg h8_
        have e98_ : (if S 7 (S 1020 0) = 33 ∨ S 7 (S 1020 0) = 34 ∨ S 7 (S 1020 0) = 6 ∨ S 7 (S 1020 0) = 7 then 6 else (if S 7 (S 1020 0) = 12 ∨ S 7 (S 1020 0) = 13 ∨ S 7 (S 1020 0) = 3 then 7 else (if S 7 (S 1020 0) = 35 ∨ S 7 (S 1020 0) = 36 then 8 else (if S 7 (S 1020 0) = 37 ∨ S 7 (S 1020 0) = 38 ∨ S 7 (S 1020 0) = 39 then 9 else (-1)))) : Int) = (if S 7 (S 1020 0) = 12 ∨ S 7 (S 1020 0) = 13 ∨ S 7 (S 1020 0) = 3 then 7 else (if S 7 (S 1020 0) = 35 ∨ S 7 (S 1020 0) = 36 then 8 else (if S 7 (S 1020 0) = 37 ∨ S 7 (S 1020 0) = 38 ∨ S 7 (S 1020 0) = 39 then 9 else (-1)))) := if_neg (la_bindsOf_91 h95_)
        have e99_ : (if S 7 (S 1020 0) = 41 then 2 else (if S 7 (S 1020 0) = 42 then 3 else (if S 7 (S 1020 0) = 40 then 4 else (if S 7 (S 1020 0) = 8 ∨ S 7 (S 1020 0) = 9 ∨ S 7 (S 1020 0) = 4 ∨ S 7 (S 1020 0) = 5 then 5 else (if S 7 (S 1020 0) = 33 ∨ S 7 (S 1020 0) = 34 ∨ S 7 (S 1020 0) = 6 ∨ S 7 (S 1020 0) = 7 then 6 else (if S 7 (S 1020 0) = 12 ∨ S 7 (S 1020 0) = 13 ∨ S 7 (S 1020 0) = 3 then 7 else (if S 7 (S 1020 0) = 35 ∨ S 7 (S 1020 0) = 36 then 8 else (if S 7 (S 1020 0) = 37 ∨ S 7 (S 1020 0) = 38 ∨ S 7 (S 1020 0) = 39 then 9 else (-1)))))))) : Int) = (if S 7 (S 1020 0) = 42 then 3 else (if S 7 (S 1020 0) = 40 then 4 else (if S 7 (S 1020 0) = 8 ∨ S 7 (S 1020 0) = 9 ∨ S 7 (S 1020 0) = 4 ∨ S 7 (S 1020 0) = 5 then 5 else (if S 7 (S 1020 0) = 33 ∨ S 7 (S 1020 0) = 34 ∨ S 7 (S 1020 0) = 6 ∨ S 7 (S 1020 0) = 7 then 6 else (if S 7 (S 1020 0) = 12 ∨ S 7 (S 1020 0) = 13 ∨ S 7 (S 1020 0) = 3 then 7 else (if S 7 (S 1020 0) = 35 ∨ S 7 (S 1020 0) = 36 then 8 else (if S 7 (S 1020 0) = 37 ∨ S 7 (S 1020 0) = 38 ∨ S 7 (S 1020 0) = 39 then 9 else (-1)))))))) := if_neg (la_bindsOf_92 h95_)
        have e100_ : (if S 7 (S 1020 0) = 42 then 3 else (if S 7 (S 1020 0) = 40 then 4 else (if S 7 (S 1020 0) = 8 ∨ S 7 (S 1020 0) = 9 ∨ S 7 (S 1020 0) = 4 ∨ S 7 (S 1020 0) = 5 then 5 else (if S 7 (S 1020 0) = 33 ∨ S 7 (S 1020 0) = 34 ∨ S 7 (S 1020 0) = 6 ∨ S 7 (S 1020 0) = 7 then 6 else (if S 7 (S 1020 0) = 12 ∨ S 7 (S 1020 0) = 13 ∨ S 7 (S 1020 0) = 3 then 7 else (if S 7 (S 1020 0) = 35 ∨ S 7 (S 1020 0) = 36 then 8 else (if S 7 (S 1020 0) = 37 ∨ S 7 (S 1020 0) = 38 ∨ S 7 (S 1020 0) = 39 then 9 else (-1))))))) : Int) = (if S 7 (S 1020 0) = 40 then 4 else (if S 7 (S 1020 0) = 8 ∨ S 7 (S 1020 0) = 9 ∨ S 7 (S 1020 0) = 4 ∨ S 7 (S 1020 0) = 5 then 5 else (if S 7 (S 1020 0) = 33 ∨ S 7 (S 1020 0) = 34 ∨ S 7 (S 1020 0) = 6 ∨ S 7 (S 1020 0) = 7 then 6 else (if S 7 (S 1020 0) = 12 ∨ S 7 (S 1020 0) = 13 ∨ S 7 (S 1020 0) = 3 then 7 else (if S 7 (S 1020 0) = 35 ∨ S 7 (S 1020 0) = 36 then 8 else (if S 7 (S 1020 0) = 37 ∨ S 7 (S 1020 0) = 38 ∨ S 7 (S 1020 0) = 39 then 9 else (-1))))))) := if_neg (la_bindsOf_93 h95_)
        have e101_ : (if S 7 (S 1020 0) = 37 ∨ S 7 (S 1020 0) = 38 ∨ S 7 (S 1020 0) = 39 then 9 else (-1) : Int) = (-1) := if_neg (la_bindsOf_94 h95_)
        have e102_ : (if S 7 (S 1020 0) = 8 ∨ S 7 (S 1020 0) = 9 ∨ S 7 (S 1020 0) = 4 ∨ S 7 (S 1020 0) = 5 then 5 else (if S 7 (S 1020 0) = 33 ∨ S 7 (S 1020 0) = 34 ∨ S 7 (S 1020 0) = 6 ∨ S 7 (S 1020 0) = 7 then 6 else (if S 7 (S 1020 0) = 12 ∨ S 7 (S 1020 0) = 13 ∨ S 7 (S 1020 0) = 3 then 7 else (if S 7 (S 1020 0) = 35 ∨ S 7 (S 1020 0) = 36 then 8 else (if S 7 (S 1020 0) = 37 ∨ S 7 (S 1020 0) = 38 ∨ S 7 (S 1020 0) = 39 then 9 else (-1))))) : Int) = 5 := if_pos (la_bindsOf_95 h95_)
        have e103_ : (if S 7 (S 1020 0) = 15 then 0 else (if S 7 (S 1020 0) = 14 then 1 else (if S 7 (S 1020 0) = 41 then 2 else (if S 7 (S 1020 0) = 42 then 3 else (if S 7 (S 1020 0) = 40 then 4 else (if S 7 (S 1020 0) = 8 ∨ S 7 (S 1020 0) = 9 ∨ S 7 (S 1020 0) = 4 ∨ S 7 (S 1020 0) = 5 then 5 else (if S 7 (S 1020 0) = 33 ∨ S 7 (S 1020 0) = 34 ∨ S 7 (S 1020 0) = 6 ∨ S 7 (S 1020 0) = 7 then 6 else (if S 7 (S 1020 0) = 12 ∨ S 7 (S 1020 0) = 13 ∨ S 7 (S 1020 0) = 3 then 7 else (if S 7 (S 1020 0) = 35 ∨ S 7 (S 1020 0) = 36 then 8 else (if S 7 (S 1020 0) = 37 ∨ S 7 (S 1020 0) = 38 ∨ S 7 (S 1020 0) = 39 then 9 else (-1)))))))))) : Int) = (if S 7 (S 1020 0) = 14 then 1 else (if S 7 (S 1020 0) = 41 then 2 else (if S 7 (S 1020 0) = 42 then 3 else (if S 7 (S 1020 0) = 40 then 4 else (if S 7 (S 1020 0) = 8 ∨ S 7 (S 1020 0) = 9 ∨ S 7 (S 1020 0) = 4 ∨ S 7 (S 1020 0) = 5 then 5 else (if S 7 (S 1020 0) = 33 ∨ S 7 (S 1020 0) = 34 ∨ S 7 (S 1020 0) = 6 ∨ S 7 (S 1020 0) = 7 then 6 else (if S 7 (S 1020 0) = 12 ∨ S 7 (S 1020 0) = 13 ∨ S 7 (S 1020 0) = 3 then 7 else (if S 7 (S 1020 0) = 35 ∨ S 7 (S 1020 0) = 36 then 8 else (if S 7 (S 1020 0) = 37 ∨ S 7 (S 1020 0) = 38 ∨ S 7 (S 1020 0) = 39 then 9 else (-1)))))))))) := if_neg (la_bindsOf_96 h95_)
        have e104_ : (if S 7 (S 1020 0) = 35 ∨ S 7 (S 1020 0) = 36 then 8 else (if S 7 (S 1020 0) = 37 ∨ S 7 (S 1020 0) = 38 ∨ S 7 (S 1020 0) = 39 then 9 else (-1)) : Int) = (if S 7 (S 1020 0) = 37 ∨ S 7 (S 1020 0) = 38 ∨ S 7 (S 1020 0) = 39 then 9 else (-1)) := if_neg (la_bindsOf_97 h95_)
        have e105_ : (if S 7 (S 1020 0) = 40 then 4 else (if S 7 (S 1020 0) = 8 ∨ S 7 (S 1020 0) = 9 ∨ S 7 (S 1020 0) = 4 ∨ S 7 (S 1020 0) = 5 then 5 else (if S 7 (S 1020 0) = 33 ∨ S 7 (S 1020 0) = 34 ∨ S 7 (S 1020 0) = 6 ∨ S 7 (S 1020 0) = 7 then 6 else (if S 7 (S 1020 0) = 12 ∨ S 7 (S 1020 0) = 13 ∨ S 7 (S 1020 0) = 3 then 7 else (if S 7 (S 1020 0) = 35 ∨ S 7 (S 1020 0) = 36 then 8 else (if S 7 (S 1020 0) = 37 ∨ S 7 (S 1020 0) = 38 ∨ S 7 (S 1020 0) = 39 then 9 else (-1)))))) : Int) = (if S 7 (S 1020 0) = 8 ∨ S 7 (S 1020 0) = 9 ∨ S 7 (S 1020 0) = 4 ∨ S 7 (S 1020 0) = 5 then 5 else (if S 7 (S 1020 0) = 33 ∨ S 7 (S 1020 0) = 34 ∨ S 7 (S 1020 0) = 6 ∨ S 7 (S 1020 0) = 7 then 6 else (if S 7 (S 1020 0) = 12 ∨ S 7 (S 1020 0) = 13 ∨ S 7 (S 1020 0) = 3 then 7 else (if S 7 (S 1020 0) = 35 ∨ S 7 (S 1020 0) = 36 then 8 else (if S 7 (S 1020 0) = 37 ∨ S 7 (S 1020 0) = 38 ∨ S 7 (S 1020 0) = 39 then 9 else (-1)))))) := if_neg (la_bindsOf_98 h95_)
        have e106_ : (if S 7 (S 1020 0) = 14 then 1 else (if S 7 (S 1020 0) = 41 then 2 else (if S 7 (S 1020 0) = 42 then 3 else (if S 7 (S 1020 0) = 40 then 4 else (if S 7 (S 1020 0) = 8 ∨ S 7 (S 1020 0) = 9 ∨ S 7 (S 1020 0) = 4 ∨ S 7 (S 1020 0) = 5 then 5 else (if S 7 (S 1020 0) = 33 ∨ S 7 (S 1020 0) = 34 ∨ S 7 (S 1020 0) = 6 ∨ S 7 (S 1020 0) = 7 then 6 else (if S 7 (S 1020 0) = 12 ∨ S 7 (S 1020 0) = 13 ∨ S 7 (S 1020 0) = 3 then 7 else (if S 7 (S 1020 0) = 35 ∨ S 7 (S 1020 0) = 36 then 8 else (if S 7 (S 1020 0) = 37 ∨ S 7 (S 1020 0) = 38 ∨ S 7 (S 1020 0) = 39 then 9 else (-1))))))))) : Int) = (if S 7 (S 1020 0) = 41 then 2 else (if S 7 (S 1020 0) = 42 then 3 else (if S 7 (S 1020 0) = 40 then 4 else (if S 7 (S 1020 0) = 8 ∨ S 7 (S 1020 0) = 9 ∨ S 7 (S 1020 0) = 4 ∨ S 7 (S 1020 0) = 5 then 5 else (if S 7 (S 1020 0) = 33 ∨ S 7 (S 1020 0) = 34 ∨ S 7 (S 1020 0) = 6 ∨ S 7 (S 1020 0) = 7 then 6 else (if S 7 (S 1020 0) = 12 ∨ S 7 (S 1020 0) = 13 ∨ S 7 (S 1020 0) = 3 then 7 else (if S 7 (S 1020 0) = 35 ∨ S 7 (S 1020 0) = 36 then 8 else (if S 7 (S 1020 0) = 37 ∨ S 7 (S 1020 0) = 38 ∨ S 7 (S 1020 0) = 39 then 9 else (-1))))))))) := if_neg (la_bindsOf_99 h95_)
        have e107_ : (if S 7 (S 1020 0) = 12 ∨ S 7 (S 1020 0) = 13 ∨ S 7 (S 1020 0) = 3 then 7 else (if S 7 (S 1020 0) = 35 ∨ S 7 (S 1020 0) = 36 then 8 else (if S 7 (S 1020 0) = 37 ∨ S 7 (S 1020 0) = 38 ∨ S 7 (S 1020 0) = 39 then 9 else (-1))) : Int) = (if S 7 (S 1020 0) = 35 ∨ S 7 (S 1020 0) = 36 then 8 else (if S 7 (S 1020 0) = 37 ∨ S 7 (S 1020 0) = 38 ∨ S 7 (S 1020 0) = 39 then 9 else (-1))) := if_neg (la_bindsOf_100 h95_)
        have e108_ : (if S 7 (S 1020 0) = 14 ∨ S 7 (S 1020 0) = 13 ∧ p1 = 1 then 6 else (-1) : Int) = (-1) := if_neg (la_bindsOf_101 h95_)
        exact (la_bindsOf_102 e96_ e97_ e99_ e100_ e102_ e103_ e105_ e106_)
      refine ⟨?_, ?_⟩
      · skip
        intro h109_
        refine ⟨la_bindsOf_103, ?_⟩
        refine ⟨la_bindsOf_104, ?_⟩
        refine ⟨(la_bindsOf_105 h9_), ?_⟩
        have e110_ : (if S 6 (S 1020 0) = 5 then (if S 7 (S 1020 0) = 15 then 0 else (if S 7 (S 1020 0) = 14 then 1 else (if S 7 (S 1020 0) = 41 then 2 else (if S 7 (S 1020 0) = 42 then 3 else (if S 7 (S 1020 0) = 40 then 4 else (if S 7 (S 1020 0) = 8 ∨ S 7 (S 1020 0) = 9 ∨ S 7 (S 1020 0) = 4 ∨ S 7 (S 1020 0) = 5 then 5 else (if S 7 (S 1020 0) = 33 ∨ S 7 (S 1020 0) = 34 ∨ S 7 (S 1020 0) = 6 ∨ S 7 (S 1020 0) = 7 then 6 else (if S 7 (S 1020 0) = 12 ∨ S 7 (S 1020 0) = 13 ∨ S 7 (S 1020 0) = 3 then 7 else (if S 7 (S 1020 0) = 35 ∨ S 7 (S 1020 0) = 36 then 8 else (if S 7 (S 1020 0) = 37 ∨ S 7 (S 1020 0) = 38 ∨ S 7 (S 1020 0) = 39 then 9 else (-1))))))))))) else (-1) : Int) = (if S 7 (S 1020 0) = 15 then 0 else (if S 7 (S 1020 0) = 14 then 1 else (if S 7 (S 1020 0) = 41 then 2 else (if S 7 (S 1020 0) = 42 then 3 else (if S 7 (S 1020 0) = 40 then 4 else (if S 7 (S 1020 0) = 8 ∨ S 7 (S 1020 0) = 9 ∨ S 7 (S 1020 0) = 4 ∨ S 7 (S 1020 0) = 5 then 5 else (if S 7 (S 1020 0) = 33 ∨ S 7 (S 1020 0) = 34 ∨ S 7 (S 1020 0) = 6 ∨ S 7 (S 1020 0) = 7 then 6 else (if S 7 (S 1020 0) = 12 ∨ S 7 (S 1020 0) = 13 ∨ S 7 (S 1020 0) = 3 then 7 else (if S 7 (S 1020 0) = 35 ∨ S 7 (S 1020 0) = 36 then 8 else (if S 7 (S 1020 0) = 37 ∨ S 7 (S 1020 0) = 38 ∨ S 7 (S 1020 0) = 39 then 9 else (-1))))))))))) := if_pos h9_
        have e111_ : (if S 6 (S 1020 0) = 2 then (if S 7 (S 1020 0) = 14 ∨ S 7 (S 1020 0) = 13 ∧ p1 = 1 then 6 else (-1)) else (if S 6 (S 1020 0) = 5 then (if S 7 (S 1020 0) = 15 then 0 else (if S 7 (S 1020 0) = 14 then 1 else (if S 7 (S 1020 0) = 41 then 2 else (if S 7 (S 1020 0) = 42 then 3 else (if S 7 (S 1020 0) = 40 then 4 else (if S 7 (S 1020 0) = 8 ∨ S 7 (S 1020 0) = 9 ∨ S 7 (S 1020 0) = 4 ∨ S 7 (S 1020 0) = 5 then 5 else (if S 7 (S 1020 0) = 33 ∨ S 7 (S 1020 0) = 34 ∨ S 7 (S 1020 0) = 6 ∨ S 7 (S 1020 0) = 7 then 6 else (if S 7 (S 1020 0) = 12 ∨ S 7 (S 1020 0) = 13 ∨ S 7 (S 1020 0) = 3 then 7 else (if S 7 (S 1020 0) = 35 ∨ S 7 (S 1020 0) = 36 then 8 else (if S 7 (S 1020 0) = 37 ∨ S 7 (S 1020 0) = 38 ∨ S 7 (S 1020 0) = 39 then 9 else (-1))))))))))) else (-1)) : Int) = (if S 6 (S 1020 0) = 5 then (if S 7 (S 1020 0) = 15 then 0 else (if S 7 (S 1020 0) = 14 then 1 else (if S 7 (S 1020 0) = 41 then 2 else (if S 7 (S 1020 0) = 42 then 3 else (if S 7 (S 1020 0) = 40 then 4 else (if S 7 (S 1020 0) = 8 ∨ S 7 (S 1020 0) = 9 ∨ S 7 (S 1020 0) = 4 ∨ S 7 (S 1020 0) = 5 then 5 else (if S 7 (S 1020 0) = 33 ∨ S 7 (S 1020 0) = 34 ∨ S 7 (S 1020 0) = 6 ∨ S 7 (S 1020 0) = 7 then 6 else (if S 7 (S 1020 0) = 12 ∨ S 7 (S 1020 0) = 13 ∨ S 7 (S 1020 0) = 3 then 7 else (if S 7 (S 1020 0) = 35 ∨ S 7 (S 1020 0) = 36 then 8 else (if S 7 (S 1020 0) = 37 ∨ S 7 (S 1020 0) = 38 ∨ S 7 (S 1020 0) = 39 then 9 else (-1))))))))))) else (-1)) := if_neg h8_
        have e112_ : (if S 7 (S 1020 0) = 33 ∨ S 7 (S 1020 0) = 34 ∨ S 7 (S 1020 0) = 6 ∨ S 7 (S 1020 0) = 7 then 6 else (if S 7 (S 1020 0) = 12 ∨ S 7 (S 1020 0) = 13 ∨ S 7 (S 1020 0) = 3 then 7 else (if S 7 (S 1020 0) = 35 ∨ S 7 (S 1020 0) = 36 then 8 else (if S 7 (S 1020 0) = 37 ∨ S 7 (S 1020 0) = 38 ∨ S 7 (S 1020 0) = 39 then 9 else (-1)))) : Int) = 6 := if_pos (la_bindsOf_106 h109_)
        have e113_ : (if S 7 (S 1020 0) = 41 then 2 else (if S 7 (S 1020 0) = 42 then 3 else (if S 7 (S 1020 0) = 40 then 4 else (if S 7 (S 1020 0) = 8 ∨ S 7 (S 1020 0) = 9 ∨ S 7 (S 1020 0) = 4 ∨ S 7 (S 1020 0) = 5 then 5 else (if S 7 (S 1020 0) = 33 ∨ S 7 (S 1020 0) = 34 ∨ S 7 (S 1020 0) = 6 ∨ S 7 (S 1020 0) = 7 then 6 else (if S 7 (S 1020 0) = 12 ∨ S 7 (S 1020 0) = 13 ∨ S 7 (S 1020 0) = 3 then 7 else (if S 7 (S 1020 0) = 35 ∨ S 7 (S 1020 0) = 36 then 8 else (if S 7 (S 1020 0) = 37 ∨ S 7 (S 1020 0) = 38 ∨ S 7 (S 1020 0) = 39 then 9 else (-1)))))))) : Int) = (if S 7 (S 1020 0) = 42 then 3 else (if S 7 (S 1020 0) = 40 then 4 else (if S 7 (S 1020 0) = 8 ∨ S 7 (S 1020 0) = 9 ∨ S 7 (S 1020 0) = 4 ∨ S 7 (S 1020 0) = 5 then 5 else (if S 7 (S 1020 0) = 33 ∨ S 7 (S 1020 0) = 34 ∨ S 7 (S 1020 0) = 6 ∨ S 7 (S 1020 0) = 7 then 6 else (if S 7 (S 1020 0) = 12 ∨ S 7 (S 1020 0) = 13 ∨ S 7 (S 1020 0) = 3 then 7 else (if S 7 (S 1020 0) = 35 ∨ S 7 (S 1020 0) = 36 then 8 else (if S 7 (S 1020 0) = 37 ∨ S 7 (S 1020 0) = 38 ∨ S 7 (S 1020 0) = 39 then 9 else (-1)))))))) := if_neg (la_bindsOf_107 h109_)
        have e114_ : (if S 7 (S 1020 0) = 42 then 3 else (if S 7 (S 1020 0) = 40 then 4 else (if S 7 (S 1020 0) = 8 ∨ S 7 (S 1020 0) = 9 ∨ S 7 (S 1020 0) = 4 ∨ S 7 (S 1020 0) = 5 then 5 else (if S 7 (S 1020 0) = 33 ∨ S 7 (S 1020 0) = 34 ∨ S 7 (S 1020 0) = 6 ∨ S 7 (S 1020 0) = 7 then 6 else (if S 7 (S 1020 0) = 12 ∨ S 7 (S 1020 0) = 13 ∨ S 7 (S 1020 0) = 3 then 7 else (if S 7 (S 1020 0) = 35 ∨ S 7 (S 1020 0) = 36 then 8 else (if S 7 (S 1020 0) = 37 ∨ S 7 (S 1020 0) = 38 ∨ S 7 (S 1020 0) = 39 then 9 else (-1))))))) : Int) = (if S 7 (S 1020 0) = 40 then 4 else (if S 7 (S 1020 0) = 8 ∨ S 7 (S 1020 0) = 9 ∨ S 7 (S 1020 0) = 4 ∨ S 7 (S 1020 0) = 5 then 5 else (if S 7 (S 1020 0) = 33 ∨ S 7 (S 1020 0) = 34 ∨ S 7 (S 1020 0) = 6 ∨ S 7 (S 1020 0) = 7 then 6 else (if S 7 (S 1020 0) = 12 ∨ S 7 (S 1020 0) = 13 ∨ S 7 (S 1020 0) = 3 then 7 else (if S 7 (S 1020 0) = 35 ∨ S 7 (S 1020 0) = 36 then 8 else (if S 7 (S 1020 0) = 37 ∨ S 7 (S 1020 0) = 38 ∨ S 7 (S 1020 0) = 39 then 9 else (-1))))))) := if_neg (la_bindsOf_108 h109_)
        have e115_ : (if S 7 (S 1020 0) = 37 ∨ S 7 (S 1020 0) = 38 ∨ S 7 (S 1020 0) = 39 then 9 else (-1) : Int) = (-1) := if_neg (la_bindsOf_109 h109_)
        have e116_ : (if S 7 (S 1020 0) = 8 ∨ S 7 (S 1020 0) = 9 ∨ S 7 (S 1020 0) = 4 ∨ S 7 (S 1020 0) = 5 then 5 else (if S 7 (S 1020 0) = 33 ∨ S 7 (S 1020 0) = 34 ∨ S 7 (S 1020 0) = 6 ∨ S 7 (S 1020 0) = 7 then 6 else (if S 7 (S 1020 0) = 12 ∨ S 7 (S 1020 0) = 13 ∨ S 7 (S 1020 0) = 3 then 7 else (if S 7 (S 1020 0) = 35 ∨ S 7 (S 1020 0) = 36 then 8 else (if S 7 (S 1020 0) = 37 ∨ S 7 (S 1020 0) = 38 ∨ S 7 (S 1020 0) = 39 then 9 else (-1))))) : Int) = (if S 7 (S 1020 0) = 33 ∨ S 7 (S 1020 0) = 34 ∨ S 7 (S 1020 0) = 6 ∨ S 7 (S 1020 0) = 7 then 6 else (if S 7 (S 1020 0) = 12 ∨ S 7 (S 1020 0) = 13 ∨ S 7 (S 1020 0) = 3 then 7 else (if S 7 (S 1020 0) = 35 ∨ S 7 (S 1020 0) = 36 then 8 else (if S 7 (S 1020 0) = 37 ∨ S 7 (S 1020 0) = 38 ∨ S 7 (S 1020 0) = 39 then 9 else (-1))))) := if_neg (la_bindsOf_110 h109_)
        have e117_ : (if S 7 (S 1020 0) = 15 then 0 else (if S 7 (S 1020 0) = 14 then 1 else (if S 7 (S 1020 0) = 41 then 2 else (if S 7 (S 1020 0) = 42 then 3 else (if S 7 (S 1020 0) = 40 then 4 else (if S 7 (S 1020 0) = 8 ∨ S 7 (S 1020 0) = 9 ∨ S 7 (S 1020 0) = 4 ∨ S 7 (S 1020 0) = 5 then 5 else (if S 7 (S 1020 0) = 33 ∨ S 7 (S 1020 0) = 34 ∨ S 7 (S 1020 0) = 6 ∨ S 7 (S 1020 0) = 7 then 6 else (if S 7 (S 1020 0) = 12 ∨ S 7 (S 1020 0) = 13 ∨ S 7 (S 1020 0) = 3 then 7 else (if S 7 (S 1020 0) = 35 ∨ S 7 (S 1020 0) = 36 then 8 else (if S 7 (S 1020 0) = 37 ∨ S 7 (S 1020 0) = 38 ∨ S 7 (S 1020 0) = 39 then 9 else (-1)))))))))) : Int) = (if S 7 (S 1020 0) = 14 then 1 else (if S 7 (S 1020 0) = 41 then 2 else (if S 7 (S 1020 0) = 42 then 3 else (if S 7 (S 1020 0) = 40 then 4 else (if S 7 (S 1020 0) = 8 ∨ S 7 (S 1020 0) = 9 ∨ S 7 (S 1020 0) = 4 ∨ S 7 (S 1020 0) = 5 then 5 else (if S 7 (S 1020 0) = 33 ∨ S 7 (S 1020 0) = 34 ∨ S 7 (S 1020 0) = 6 ∨ S 7 (S 1020 0) = 7 then 6 else (if S 7 (S 1020 0) = 12 ∨ S 7 (S 1020 0) = 13 ∨ S 7 (S 1020 0) = 3 then 7 else (if S 7 (S 1020 0) = 35 ∨ S 7 (S 1020 0) = 36 then 8 else (if S 7 (S 1020 0) = 37 ∨ S 7 (S 1020 0) = 38 ∨ S 7 (S 1020 0) = 39 then 9 else (-1)))))))))) := if_neg (la_bindsOf_111 h109_)
        have e118_ : (if S 7 (S 1020 0) = 35 ∨ S 7 (S 1020 0) = 36 then 8 else (if S 7 (S 1020 0) = 37 ∨ S 7 (S 1020 0) = 38 ∨ S 7 (S 1020 0) = 39 then 9 else (-1)) : Int) = (if S 7 (S 1020 0) = 37 ∨ S 7 (S 1020 0) = 38 ∨ S 7 (S 1020 0) = 39 then 9 else (-1)) := if_neg (la_bindsOf_112 h109_)
        have e119_ : (if S 7 (S 1020 0) = 40 then 4 else (if S 7 (S 1020 0) = 8 ∨ S 7 (S 1020 0) = 9 ∨ S 7 (S 1020 0) = 4 ∨ S 7 (S 1020 0) = 5 then 5 else (if S 7 (S 1020 0) = 33 ∨ S 7 (S 1020 0) = 34 ∨ S 7 (S 1020 0) = 6 ∨ S 7 (S 1020 0) = 7 then 6 else (if S 7 (S 1020 0) = 12 ∨ S 7 (S 1020 0) = 13 ∨ S 7 (S 1020 0) = 3 then 7 else (if S 7 (S 1020 0) = 35 ∨ S 7 (S 1020 0) = 36 then 8 else (if S 7 (S 1020 0) = 37 ∨ S 7 (S 1020 0) = 38 ∨ S 7 (S 1020 0) = 39 then 9 else (-1)))))) : Int) = (if S 7 (S 1020 0) = 8 ∨ S 7 (S 1020 0) = 9 ∨ S 7 (S 1020 0) = 4 ∨ S 7 (S 1020 0) = 5 then 5 else (if S 7 (S 1020 0) = 33 ∨ S 7 (S 1020 0) = 34 ∨ S 7 (S 1020 0) = 6 ∨ S 7 (S 1020 0) = 7 then 6 else (if S 7 (S 1020 0) = 12 ∨ S 7 (S 1020 0) = 13 ∨ S 7 (S 1020 0) = 3 then 7 else (if S 7 (S 1020 0) = 35 ∨ S 7 (S 1020 0) = 36 then 8 else (if S 7 (S 1020 0) = 37 ∨ S 7 (S 1020 0) = 38 ∨ S 7 (S 1020 0) = 39 then 9 else (-1)))))) := if_neg (la_bindsOf_113 h109_)
        have e120_ : (if S 7 (S 1020 0) = 14 then 1 else (if S 7 (S 1020 0) = 41 then 2 else (if S 7 (S 1020 0) = 42 then 3 else (if S 7 (S 1020 0) = 40 then 4 else (if S 7 (S 1020 0) = 8 ∨ S 7 (S 1020 0) = 9 ∨ S 7 (S 1020 0) = 4 ∨ S 7 (S 1020 0) = 5 then 5 else (if S 7 (S 1020 0) = 33 ∨ S 7 (S 1020 0) = 34 ∨ S 7 (S 1020 0) = 6 ∨ S 7 (S 1020 0) = 7 then 6 else (if S 7 (S 1020 0) = 12 ∨ S 7 (S 1020 0) = 13 ∨ S 7 (S 1020 0) = 3 then 7 else (if S 7 (S 1020 0) = 35 ∨ S 7 (S 1020 0) = 36 then 8 else (if S 7 (S 1020 0) = 37 ∨ S 7 (S 1020 0) = 38 ∨ S 7 (S 1020 0) = 39 then 9 else (-1))))))))) : Int) = (if S 7 (S 1020 0) = 41 then 2 else (if S 7 (S 1020 0) = 42 then 3 else (if S 7 (S 1020 0) = 40 then 4 else (if S 7 (S 1020 0) = 8 ∨ S 7 (S 1020 0) = 9 ∨ S 7 (S 1020 0) = 4 ∨ S 7 (S 1020 0) = 5 then 5 else (if S 7 (S 1020 0) = 33 ∨ S 7 (S 1020 0) = 34 ∨ S 7 (S 1020 0) = 6 ∨ S 7 (S 1020 0) = 7 then 6 else (if S 7 (S 1020 0) = 12 ∨ S 7 (S 1020 0) = 13 ∨ S 7 (S 1020 0) = 3 then 7 else (if S 7 (S 1020 0) = 35 ∨ S 7 (S 1020 0) = 36 then 8 else (if S 7 (S 1020 0) = 37 ∨ S 7 (S 1020 0) = 38 ∨ S 7 (S 1020 0) = 39 then 9 else (-1))))))))) := if_neg (la_bindsOf_114 h109_)
        have e121_ : (if S 7 (S 1020 0) = 12 ∨ S 7 (S 1020 0) = 13 ∨ S 7 (S 1020 0) = 3 then 7 else (if S 7 (S 1020 0) = 35 ∨ S 7 (S 1020 0) = 36 then 8 else (if S 7 (S 1020 0) = 37 ∨ S 7 (S 1020 0) = 38 ∨ S 7 (S 1020 0) = 39 then 9 else (-1))) : Int) = (if S 7 (S 1020 0) = 35 ∨ S 7 (S 1020 0) = 36 then 8 else (if S 7 (S 1020 0) = 37 ∨ S 7 (S 1020 0) = 38 ∨ S 7 (S 1020 0) = 39 then 9 else (-1))) := if_neg (la_bindsOf_115 h109_)
        have e122_ : (if S 7 (S 1020 0) = 14 ∨ S 7 (S 1020 0) = 13 ∧ p1 = 1 then 6 else (-1) : Int) = (-1) := if_neg (la_bindsOf_116 h109_)
        exact (la_bindsOf_117 e110_ e111_ e112_ e113_ e114_ e116_ e117_ e119_ e120_)
      refine ⟨?_, ?_⟩
      · skip
        intro h123_
        refine ⟨la_bindsOf_118, ?_⟩
        refine ⟨la_bindsOf_119, ?_⟩
        refine ⟨(la_bindsOf_120 h9_), ?_⟩
        have e124_ : (if S 6 (S 1020 0) = 5 then (if S 7 (S 1020 0) = 15 then 0 else (if S 7 (S 1020 0) = 14 then 1 else (if S 7 (S 1020 0) = 41 then 2 else (if S 7 (S 1020 0) = 42 then 3 else (if S 7 (S 1020 0) = 40 then 4 else (if S 7 (S 1020 0) = 8 ∨ S 7 (S 1020 0) = 9 ∨ S 7 (S 1020 0) = 4 ∨ S 7 (S 1020 0) = 5 then 5 else (if S 7 (S 1020 0) = 33 ∨ S 7 (S 1020 0) = 34 ∨ S 7 (S 1020 0) = 6 ∨ S 7 (S 1020 0) = 7 then 6 else (if S 7 (S 1020 0) = 12 ∨ S 7 (S 1020 0) = 13 ∨ S 7 (S 1020 0) = 3 then 7 else (if S 7 (S 1020 0) = 35 ∨ S 7 (S 1020 0) = 36 then 8 else (if S 7 (S 1020 0) = 37 ∨ S 7 (S 1020 0) = 38 ∨ S 7 (S 1020 0) = 39 then 9 else (-1))))))))))) else (-1) : Int) = (if S 7 (S 1020 0) = 15 then 0 else (if S 7 (S 1020 0) = 14 then 1 else (if S 7 (S 1020 0) = 41 then 2 else (if S 7 (S 1020 0) = 42 then 3 else (if S 7 (S 1020 0) = 40 then 4 else (if S 7 (S 1020 0) = 8 ∨ S 7 (S 1020 0) = 9 ∨ S 7 (S 1020 0) = 4 ∨ S 7 (S 1020 0) = 5 then 5 else (if S 7 (S 1020 0) = 33 ∨ S 7 (S 1020 0) = 34 ∨ S 7 (S 1020 0) = 6 ∨ S 7 (S 1020 0) = 7 then 6 else (if S 7 (S 1020 0) = 12 ∨ S 7 (S 1020 0) = 13 ∨ S 7 (S 1020 0) = 3 then 7 else (if S 7 (S 1020 0) = 35 ∨ S 7 (S 1020 0) = 36 then 8 else (if S 7 (S 1020 0) = 37 ∨ S 7 (S 1020 0) = 38 ∨ S 7 (S 1020 0) = 39 then 9 else (-1))))))))))) := if_pos h9_
        have e125_ : (if S 6 (S 1020 0) = 2 then (if S 7 (S 1020 0) = 14 ∨ S 7 (S 1020 0) = 13 ∧ p1 = 1 then 6 else (-1)) else (if S 6 (S 1020 0) = 5 then (if S 7 (S 1020 0) = 15 then 0 else (if S 7 (S 1020 0) = 14 then 1 else (if S 7 (S 1020 0) = 41 then 2 else (if S 7 (S 1020 0) = 42 then 3 else (if S 7 (S 1020 0) = 40 then 4 else (if S 7 (S 1020 0) = 8 ∨ S 7 (S 1020 0) = 9 ∨ S 7 (S 1020 0) = 4 ∨ S 7 (S 1020 0) = 5 then 5 else (if S 7 (S 1020 0) = 33 ∨ S 7 (S 1020 0) = 34 ∨ S 7 (S 1020 0) = 6 ∨ S 7 (S 1020 0) = 7 then 6 else (if S 7 (S 1020 0) = 12 ∨ S 7 (S 1020 0) = 13 ∨ S 7 (S 1020 0) = 3 then 7 else (if S 7 (S 1020 0) = 35 ∨ S 7 (S 1020 0) = 36 then 8 else (if S 7 (S 1020 0) = 37 ∨ S 7 (S 1020 0) = 38 ∨ S 7 (S 1020 0) = 39 then 9 else (-1))))))))))) else (-1)) : Int) = (if S 6 (S 1020 0) = 5 then (if S 7 (S 1020 0) = 15 then 0 else (if S 7 (S 1020 0) = 14 then 1 else (if S 7 (S 1020 0) = 41 then 2 else (if S 7 (S 1020 0) = 42 then 3 else (if S 7 (S 1020 0) = 40 then 4 else (if S 7 (S 1020 0) = 8 ∨ S 7 (S 1020 0) = 9 ∨ S 7 (S 1020 0) = 4 ∨ S 7 (S 1020 0) = 5 then 5 else (if S 7 (S 1020 0) = 33 ∨ S 7 (S 1020 0) = 34 ∨ S 7 (S 1020 0) = 6 ∨ S 7 (S 1020 0) = 7 then 6 else (if S 7 (S 1020 0) = 12 ∨ S 7 (S 1020 0) = 13 ∨ S 7 (S 1020 0) = 3 then 7 else (if S 7 (S 1020 0) = 35 ∨ S 7 (S 1020 0) = 36 then 8 else (if S 7 (S 1020 0) = 37 ∨ S 7 (S 1020 0) = 38 ∨ S 7 (S 1020 0) = 39 then 9 else (-1))))))))))) else (-1)) := if_neg h8_
        have e126_ : (if S 7 (S 1020 0) = 33 ∨ S 7 (S 1020 0) = 34 ∨ S 7 (S 1020 0) = 6 ∨ S 7 (S 1020 0) = 7 then 6 else (if S 7 (S 1020 0) = 12 ∨ S 7 (S 1020 0) = 13 ∨ S 7 (S 1020 0) = 3 then 7 else (if S 7 (S 1020 0) = 35 ∨ S 7 (S 1020 0) = 36 then 8 else (if S 7 (S 1020 0) = 37 ∨ S 7 (S 1020 0) = 38 ∨ S 7 (S 1020 0) = 39 then 9 else (-1)))) : Int) = (if S 7 (S 1020 0) = 12 ∨ S 7 (S 1020 0) = 13 ∨ S 7 (S 1020 0) = 3 then 7 else (if S 7 (S 1020 0) = 35 ∨ S 7 (S 1020 0) = 36 then 8 else (if S 7 (S 1020 0) = 37 ∨ S 7 (S 1020 0) = 38 ∨ S 7 (S 1020 0) = 39 then 9 else (-1)))) := if_neg (la_bindsOf_121 h123_)
        have e127_ : (if S 7 (S 1020 0) = 41 then 2 else (if S 7 (S 1020 0) = 42 then 3 else (if S 7 (S 1020 0) = 40 then 4 else (if S 7 (S 1020 0) = 8 ∨ S 7 (S 1020 0) = 9 ∨ S 7 (S 1020 0) = 4 ∨ S 7 (S 1020 0) = 5 then 5 else (if S 7 (S 1020 0) = 33 ∨ S 7 (S 1020 0) = 34 ∨ S 7 (S 1020 0) = 6 ∨ S 7 (S 1020 0) = 7 then 6 else (if S 7 (S 1020 0) = 12 ∨ S 7 (S 1020 0) = 13 ∨ S 7 (S 1020 0) = 3 then 7 else (if S 7 (S 1020 0) = 35 ∨ S 7 (S 1020 0) = 36 then 8 else (if S 7 (S 1020 0) = 37 ∨ S 7 (S 1020 0) = 38 ∨ S 7 (S 1020 0) = 39 then 9 else (-1)))))))) : Int) = (if S 7 (S 1020 0) = 42 then 3 else (if S 7 (S 1020 0) = 40 then 4 else (if S 7 (S 1020 0) = 8 ∨ S 7 (S 1020 0) = 9 ∨ S 7 (S 1020 0) = 4 ∨ S 7 (S 1020 0) = 5 then 5 else (if S 7 (S 1020 0) = 33 ∨ S 7 (S 1020 0) = 34 ∨ S 7 (S 1020 0) = 6 ∨ S 7 (S 1020 0) = 7 then 6 else (if S 7 (S 1020 0) = 12 ∨ S 7 (S 1020 0) = 13 ∨ S 7 (S 1020 0) = 3 then 7 else (if S 7 (S 1020 0) = 35 ∨ S 7 (S 1020 0) = 36 then 8 else (if S 7 (S 1020 0) = 37 ∨ S 7 (S 1020 0) = 38 ∨ S 7 (S 1020 0) = 39 then 9 else (-1)))))))) := if_neg (la_bindsOf_122 h123_)
        have e128_ : (if S 7 (S 1020 0) = 42 then 3 else (if S 7 (S 1020 0) = 40 then 4 else (if S 7 (S 1020 0) = 8 ∨ S 7 (S 1020 0) = 9 ∨ S 7 (S 1020 0) = 4 ∨ S 7 (S 1020 0) = 5 then 5 else (if S 7 (S 1020 0) = 33 ∨ S 7 (S 1020 0) = 34 ∨ S 7 (S 1020 0) = 6 ∨ S 7 (S 1020 0) = 7 then 6 else (if S 7 (S 1020 0) = 12 ∨ S 7 (S 1020 0) = 13 ∨ S 7 (S 1020 0) = 3 then 7 else (if S 7 (S 1020 0) = 35 ∨ S 7 (S 1020 0) = 36 then 8 else (if S 7 (S 1020 0) = 37 ∨ S 7 (S 1020 0) = 38 ∨ S 7 (S 1020 0) = 39 then 9 else (-1))))))) : Int) = (if S 7 (S 1020 0) = 40 then 4 else (if S 7 (S 1020 0) = 8 ∨ S 7 (S 1020 0) = 9 ∨ S 7 (S 1020 0) = 4 ∨ S 7 (S 1020 0) = 5 then 5 else (if S 7 (S 1020 0) = 33 ∨ S 7 (S 1020 0) = 34 ∨ S 7 (S 1020 0) = 6 ∨ S 7 (S 1020 0) = 7 then 6 else (if S 7 (S 1020 0) = 12 ∨ S 7 (S 1020 0) = 13 ∨ S 7 (S 1020 0) = 3 then 7 else (if S 7 (S 1020 0) = 35 ∨ S 7 (S 1020 0) = 36 then 8 else (if S 7 (S 1020 0) = 37 ∨ S 7 (S 1020 0) = 38 ∨ S 7 (S 1020 0) = 39 then 9 else (-1))))))) := if_neg (la_bindsOf_123 h123_)
        have e129_ : (if S 7 (S 1020 0) = 37 ∨ S 7 (S 1020 0) = 38 ∨ S 7 (S 1020 0) = 39 then 9 else (-1) : Int) = (-1) := if_neg (la_bindsOf_124 h123_)
        have e130_ : (if S 7 (S 1020 0) = 8 ∨ S 7 (S 1020 0) = 9 ∨ S 7 (S 1020 0) = 4 ∨ S 7 (S 1020 0) = 5 then 5 else (if S 7 (S 1020 0) = 33 ∨ S 7 (S 1020 0) = 34 ∨ S 7 (S 1020 0) = 6 ∨ S 7 (S 1020 0) = 7 then 6 else (if S 7 (S 1020 0) = 12 ∨ S 7 (S 1020 0) = 13 ∨ S 7 (S 1020 0) = 3 then 7 else (if S 7 (S 1020 0) = 35 ∨ S 7 (S 1020 0) = 36 then 8 else (if S 7 (S 1020 0) = 37 ∨ S 7 (S 1020 0) = 38 ∨ S 7 (S 1020 0) = 39 then 9 else (-1))))) : Int) = (if S 7 (S 1020 0) = 33 ∨ S 7 (S 1020 0) = 34 ∨ S 7 (S 1020 0) = 6 ∨ S 7 (S 1020 0) = 7 then 6 else (if S 7 (S 1020 0) = 12 ∨ S 7 (S 1020 0) = 13 ∨ S 7 (S 1020 0) = 3 then 7 else (if S 7 (S 1020 0) = 35 ∨ S 7 (S 1020 0) = 36 then 8 else (if S 7 (S 1020 0) = 37 ∨ S 7 (S 1020 0) = 38 ∨ S 7 (S 1020 0) = 39 then 9 else (-1))))) := if_neg (la_bindsOf_125 h123_)
        have e131_ : (if S 7 (S 1020 0) = 15 then 0 else (if S 7 (S 1020 0) = 14 then 1 else (if S 7 (S 1020 0) = 41 then 2 else (if S 7 (S 1020 0) = 42 then 3 else (if S 7 (S 1020 0) = 40 then 4 else (if S 7 (S 1020 0) = 8 ∨ S 7 (S 1020 0) = 9 ∨ S 7 (S 1020 0) = 4 ∨ S 7 (S 1020 0) = 5 then 5 else (if S 7 (S 1020 0) = 33 ∨ S 7 (S 1020 0) = 34 ∨ S 7 (S 1020 0) = 6 ∨ S 7 (S 1020 0) = 7 then 6 else (if S 7 (S 1020 0) = 12 ∨ S 7 (S 1020 0) = 13 ∨ S 7 (S 1020 0) = 3 then 7 else (if S 7 (S 1020 0) = 35 ∨ S 7 (S 1020 0) = 36 then 8 else (if S 7 (S 1020 0) = 37 ∨ S 7 (S 1020 0) = 38 ∨ S 7 (S 1020 0) = 39 then 9 else (-1)))))))))) : Int) = (if S 7 (S 1020 0) = 14 then 1 else (if S 7 (S 1020 0) = 41 then 2 else (if S 7 (S 1020 0) = 42 then 3 else (if S 7 (S 1020 0) = 40 then 4 else (if S 7 (S 1020 0) = 8 ∨ S 7 (S 1020 0) = 9 ∨ S 7 (S 1020 0) = 4 ∨ S 7 (S 1020 0) = 5 then 5 else (if S 7 (S 1020 0) = 33 ∨ S 7 (S 1020 0) = 34 ∨ S 7 (S 1020 0) = 6 ∨ S 7 (S 1020 0) = 7 then 6 else (if S 7 (S 1020 0) = 12 ∨ S 7 (S 1020 0) = 13 ∨ S 7 (S 1020 0) = 3 then 7 else (if S 7 (S 1020 0) = 35 ∨ S 7 (S 1020 0) = 36 then 8 else (if S 7 (S 1020 0) = 37 ∨ S 7 (S 1020 0) = 38 ∨ S 7 (S 1020 0) = 39 then 9 else (-1)))))))))) := if_neg (la_bindsOf_126 h123_)
        have e132_ : (if S 7 (S 1020 0) = 35 ∨ S 7 (S 1020 0) = 36 then 8 else (if S 7 (S 1020 0) = 37 ∨ S 7 (S 1020 0) = 38 ∨ S 7 (S 1020 0) = 39 then 9 else (-1)) : Int) = (if S 7 (S 1020 0) = 37 ∨ S 7 (S 1020 0) = 38 ∨ S 7 (S 1020 0) = 39 then 9 else (-1)) := if_neg (la_bindsOf_127 h123_)
        have e133_ : (if S 7 (S 1020 0) = 40 then 4 else (if S 7 (S 1020 0) = 8 ∨ S 7 (S 1020 0) = 9 ∨ S 7 (S 1020 0) = 4 ∨ S 7 (S 1020 0) = 5 then 5 else (if S 7 (S 1020 0) = 33 ∨ S 7 (S 1020 0) = 34 ∨ S 7 (S 1020 0) = 6 ∨ S 7 (S 1020 0) = 7 then 6 else (if S 7 (S 1020 0) = 12 ∨ S 7 (S 1020 0) = 13 ∨ S 7 (S 1020 0) = 3 then 7 else (if S 7 (S 1020 0) = 35 ∨ S 7 (S 1020 0) = 36 then 8 else (if S 7 (S 1020 0) = 37 ∨ S 7 (S 1020 0) = 38 ∨ S 7 (S 1020 0) = 39 then 9 else (-1)))))) : Int) = (if S 7 (S 1020 0) = 8 ∨ S 7 (S 1020 0) = 9 ∨ S 7 (S 1020 0) = 4 ∨ S 7 (S 1020 0) = 5 then 5 else (if S 7 (S 1020 0) = 33 ∨ S 7 (S 1020 0) = 34 ∨ S 7 (S 1020 0) = 6 ∨ S 7 (S 1020 0) = 7 then 6 else (if S 7 (S 1020 0) = 12 ∨ S 7 (S 1020 0) = 13 ∨ S 7 (S 1020 0) = 3 then 7 else (if S 7 (S 1020 0) = 35 ∨ S 7 (S 1020 0) = 36 then 8 else (if S 7 (S 1020 0) = 37 ∨ S 7 (S 1020 0) = 38 ∨ S 7 (S 1020 0) = 39 then 9 else (-1)))))) := if_neg (la_bindsOf_128 h123_)
        have e134_ : (if S 7 (S 1020 0) = 14 then 1 else (if S 7 (S 1020 0) = 41 then 2 else (if S 7 (S 1020 0) = 42 then 3 else (if S 7 (S 1020 0) = 40 then 4 else (if S 7 (S 1020 0) = 8 ∨ S 7 (S 1020 0) = 9 ∨ S 7 (S 1020 0) = 4 ∨ S 7 (S 1020 0) = 5 then 5 else (if S 7 (S 1020 0) = 33 ∨ S 7 (S 1020 0) = 34 ∨ S 7 (S 1020 0) = 6 ∨ S 7 (S 1020 0) = 7 then 6 else (if S 7 (S 1020 0) = 12 ∨ S 7 (S 1020 0) = 13 ∨ S 7 (S 1020 0) = 3 then 7 else (if S 7 (S 1020 0) = 35 ∨ S 7 (S 1020 0) = 36 then 8 else (if S 7 (S 1020 0) = 37 ∨ S 7 (S 1020 0) = 38 ∨ S 7 (S 1020 0) = 39 then 9 else (-1))))))))) : Int) = (if S 7 (S 1020 0) = 41 then 2 else (if S 7 (S 1020 0) = 42 then 3 else (if S 7 (S 1020 0) = 40 then 4 else (if S 7 (S 1020 0) = 8 ∨ S 7 (S 1020 0) = 9 ∨ S 7 (S 1020 0) = 4 ∨ S 7 (S 1020 0) = 5 then 5 else (if S 7 (S 1020 0) = 33 ∨ S 7 (S 1020 0) = 34 ∨ S 7 (S 1020 0) = 6 ∨ S 7 (S 1020 0) = 7 then 6 else (if S 7 (S 1020 0) = 12 ∨ S 7 (S 1020 0) = 13 ∨ S 7 (S 1020 0) = 3 then 7 else (if S 7 (S 1020 0) = 35 ∨ S 7 (S 1020 0) = 36 then 8 else (if S 7 (S 1020 0) = 37 ∨ S 7 (S 1020 0) = 38 ∨ S 7 (S 1020 0) = 39 then 9 else (-1))))))))) := if_neg (la_bindsOf_129 h123_)
        have e135_ : (if S 7 (S 1020 0) = 12 ∨ S 7 (S 1020 0) = 13 ∨ S 7 (S 1020 0) = 3 then 7 else (if S 7 (S 1020 0) = 35 ∨ S 7 (S 1020 0) = 36 then 8 else (if S 7 (S 1020 0) = 37 ∨ S 7 (S 1020 0) = 38 ∨ S 7 (S 1020 0) = 39 then 9 else (-1))) : Int) = 7 := if_pos (la_bindsOf_130 h123_)
        exact (la_bindsOf_131 e124_ e125_ e126_ e127_ e128_ e130_ e131_ e133_ e134_ e135_)
      refine ⟨?_, ?_⟩
      · skip
        intro h136_
        refine ⟨la_bindsOf_132, ?_⟩
        refine ⟨la_bindsOf_133, ?_⟩
        refine ⟨(la_bindsOf_134 h9_), ?_⟩
        have e137_ : (if S 7 (S 1020 0) = 35 ∨ S 7 (S 1020 0) = 36 then 8 else (if S 7 (S 1020 0) = 37 ∨ S 7 (S 1020 0) = 38 ∨ S 7 (S 1020 0) = 39 then 9 else (-1)) : Int) = 8 := if_pos h136_
        have e138_ : (if S 6 (S 1020 0) = 5 then (if S 7 (S 1020 0) = 15 then 0 else (if S 7 (S 1020 0) = 14 then 1 else (if S 7 (S 1020 0) = 41 then 2 else (if S 7 (S 1020 0) = 42 then 3 else (if S 7 (S 1020 0) = 40 then 4 else (if S 7 (S 1020 0) = 8 ∨ S 7 (S 1020 0) = 9 ∨ S 7 (S 1020 0) = 4 ∨ S 7 (S 1020 0) = 5 then 5 else (if S 7 (S 1020 0) = 33 ∨ S 7 (S 1020 0) = 34 ∨ S 7 (S 1020 0) = 6 ∨ S 7 (S 1020 0) = 7 then 6 else (if S 7 (S 1020 0) = 12 ∨ S 7 (S 1020 0) = 13 ∨ S 7 (S 1020 0) = 3 then 7 else (if S 7 (S 1020 0) = 35 ∨ S 7 (S 1020 0) = 36 then 8 else (if S 7 (S 1020 0) = 37 ∨ S 7 (S 1020 0) = 38 ∨ S 7 (S 1020 0) = 39 then 9 else (-1))))))))))) else (-1) : Int) = (if S 7 (S 1020 0) = 15 then 0 else (if S 7 (S 1020 0) = 14 then 1 else (if S 7 (S 1020 0) = 41 then 2 else (if S 7 (S 1020 0) = 42 then 3 else (if S 7 (S 1020 0) = 40 then 4 else (if S 7 (S 1020 0) = 8 ∨ S 7 (S 1020 0) = 9 ∨ S 7 (S 1020 0) = 4 ∨ S 7 (S 1020 0) = 5 then 5 else (if S 7 (S 1020 0) = 33 ∨ S 7 (S 1020 0) = 34 ∨ S 7 (S 1020 0) = 6 ∨ S 7 (S 1020 0) = 7 then 6 else (if S 7 (S 1020 0) = 12 ∨ S 7 (S 1020 0) = 13 ∨ S 7 (S 1020 0) = 3 then 7 else (if S 7 (S 1020 0) = 35 ∨ S 7 (S 1020 0) = 36 then 8 else (if S 7 (S 1020 0) = 37 ∨ S 7 (S 1020 0) = 38 ∨ S 7 (S 1020 0) = 39 then 9 else (-1))))))))))) := if_pos h9_
        have e139_ : (if S 6 (S 1020 0) = 2 then (if S 7 (S 1020 0) = 14 ∨ S 7 (S 1020 0) = 13 ∧ p1 = 1 then 6 else (-1)) else (if S 6 (S 1020 0) = 5 then (if S 7 (S 1020 0) = 15 then 0 else (if S 7 (S 1020 0) = 14 then 1 else (if S 7 (S 1020 0) = 41 then 2 else (if S 7 (S 1020 0) = 42 then 3 else (if S 7 (S 1020 0) = 40 then 4 else (if S 7 (S 1020 0) = 8 ∨ S 7 (S 1020 0) = 9 ∨ S 7 (S 1020 0) = 4 ∨ S 7 (S 1020 0) = 5 then 5 else (if S 7 (S 1020 0) = 33 ∨ S 7 (S 1020 0) = 34 ∨ S 7 (S 1020 0) = 6 ∨ S 7 (S 1020 0) = 7 then 6 else (if S 7 (S 1020 0) = 12 ∨ S 7 (S 1020 0) = 13 ∨ S 7 (S 1020 0) = 3 then 7 else (if S 7 (S 1020 0) = 35 ∨ S 7 (S 1020 0) = 36 then 8 else (if S 7 (S 1020 0) = 37 ∨ S 7 (S 1020 0) = 38 ∨ S 7 (S 1020 0) = 39 then 9 else (-1))))))))))) else (-1)) : Int) = (if S 6 (S 1020 0) = 5 then (if S 7 (S 1020 0) = 15 then 0 else (if S 7 (S 1020 0) = 14 then 1 else (if S 7 (S 1020 0) = 41 then 2 else (if S 7 (S 1020 0) = 42 then 3 else (if S 7 (S 1020 0) = 40 then 4 else (if S 7 (S 1020 0) = 8 ∨ S 7 (S 1020 0) = 9 ∨ S 7 (S 1020 0) = 4 ∨ S 7 (S 1020 0) = 5 then 5 else (if S 7 (S 1020 0) = 33 ∨ S 7 (S 1020 0) = 34 ∨ S 7 (S 1020 0) = 6 ∨ S 7 (S 1020 0) = 7 then 6 else (if S 7 (S 1020 0) = 12 ∨ S 7 (S 1020 0) = 13 ∨ S 7 (S 1020 0) = 3 then 7 else (if S 7 (S 1020 0) = 35 ∨ S 7 (S 1020 0) = 36 then 8 else (if S 7 (S 1020 0) = 37 ∨ S 7 (S 1020 0) = 38 ∨ S 7 (S 1020 0) = 39 then 9 else (-1))))))))))) else (-1)) := if_neg h8_
        have e140_ : (if S 7 (S 1020 0) = 33 ∨ S 7 (S 1020 0) = 34 ∨ S 7 (S 1020 0) = 6 ∨ S 7 (S 1020 0) = 7 then 6 else (if S 7 (S 1020 0) = 12 ∨ S 7 (S 1020 0) = 13 ∨ S 7 (S 1020 0) = 3 then 7 else (if S 7 (S 1020 0) = 35 ∨ S 7 (S 1020 0) = 36 then 8 else (if S 7 (S 1020 0) = 37 ∨ S 7 (S 1020 0) = 38 ∨ S 7 (S 1020 0) = 39 then 9 else (-1)))) : Int) = (if S 7 (S 1020 0) = 12 ∨ S 7 (S 1020 0) = 13 ∨ S 7 (S 1020 0) = 3 then 7 else (if S 7 (S 1020 0) = 35 ∨ S 7 (S 1020 0) = 36 then 8 else (if S 7 (S 1020 0) = 37 ∨ S 7 (S 1020 0) = 38 ∨ S 7 (S 1020 0) = 39 then 9 else (-1)))) := if_neg (la_bindsOf_135 h136_)
        have e141_ : (if S 7 (S 1020 0) = 41 then 2 else (if S 7 (S 1020 0) = 42 then 3 else (if S 7 (S 1020 0) = 40 then 4 else (if S 7 (S 1020 0) = 8 ∨ S 7 (S 1020 0) = 9 ∨ S 7 (S 1020 0) = 4 ∨ S 7 (S 1020 0) = 5 then 5 else (if S 7 (S 1020 0) = 33 ∨ S 7 (S 1020 0) = 34 ∨ S 7 (S 1020 0) = 6 ∨ S 7 (S 1020 0) = 7 then 6 else (if S 7 (S 1020 0) = 12 ∨ S 7 (S 1020 0) = 13 ∨ S 7 (S 1020 0) = 3 then 7 else (if S 7 (S 1020 0) = 35 ∨ S 7 (S 1020 0) = 36 then 8 else (if S 7 (S 1020 0) = 37 ∨ S 7 (S 1020 0) = 38 ∨ S 7 (S 1020 0) = 39 then 9 else (-1)))))))) : Int) = (if S 7 (S 1020 0) = 42 then 3 else (if S 7 (S 1020 0) = 40 then 4 else (if S 7 (S 1020 0) = 8 ∨ S 7 (S 1020 0) = 9 ∨ S 7 (S 1020 0) = 4 ∨ S 7 (S 1020 0) = 5 then 5 else (if S 7 (S 1020 0) = 33 ∨ S 7 (S 1020 0) = 34 ∨ S 7 (S 1020 0) = 6 ∨ S 7 (S 1020 0) = 7 then 6 else (if S 7 (S 1020 0) = 12 ∨ S 7 (S 1020 0) = 13 ∨ S 7 (S 1020 0) = 3 then 7 else (if S 7 (S 1020 0) = 35 ∨ S 7 (S 1020 0) = 36 then 8 else (if S 7 (S 1020 0) = 37 ∨ S 7 (S 1020 0) = 38 ∨ S 7 (S 1020 0) = 39 then 9 else (-1)))))))) := if_neg (la_bindsOf_136 h136_)
        have e142_ : (if S 7 (S 1020 0) = 42 then 3 else (if S 7 (S 1020 0) = 40 then 4 else (if S 7 (S 1020 0) = 8 ∨ S 7 (S 1020 0) = 9 ∨ S 7 (S 1020 0) = 4 ∨ S 7 (S 1020 0) = 5 then 5 else (if S 7 (S 1020 0) = 33 ∨ S 7 (S 1020 0) = 34 ∨ S 7 (S 1020 0) = 6 ∨ S 7 (S 1020 0) = 7 then 6 else (if S 7 (S 1020 0) = 12 ∨ S 7 (S 1020 0) = 13 ∨ S 7 (S 1020 0) = 3 then 7 else (if S 7 (S 1020 0) = 35 ∨ S 7 (S 1020 0) = 36 then 8 else (if S 7 (S 1020 0) = 37 ∨ S 7 (S 1020 0) = 38 ∨ S 7 (S 1020 0) = 39 then 9 else (-1))))))) : Int) = (if S 7 (S 1020 0) = 40 then 4 else (if S 7 (S 1020 0) = 8 ∨ S 7 (S 1020 0) = 9 ∨ S 7 (S 1020 0) = 4 ∨ S 7 (S 1020 0) = 5 then 5 else (if S 7 (S 1020 0) = 33 ∨ S 7 (S 1020 0) = 34 ∨ S 7 (S 1020 0) = 6 ∨ S 7 (S 1020 0) = 7 then 6 else (if S 7 (S 1020 0) = 12 ∨ S 7 (S 1020 0) = 13 ∨ S 7 (S 1020 0) = 3 then 7 else (if S 7 (S 1020 0) = 35 ∨ S 7 (S 1020 0) = 36 then 8 else (if S 7 (S 1020 0) = 37 ∨ S 7 (S 1020 0) = 38 ∨ S 7 (S 1020 0) = 39 then 9 else (-1))))))) := if_neg (la_bindsOf_137 h136_)
        have e143_ : (if S 7 (S 1020 0) = 37 ∨ S 7 (S 1020 0) = 38 ∨ S 7 (S 1020 0) = 39 then 9 else (-1) : Int) = (-1) := if_neg (la_bindsOf_138 h136_)
        have e144_ : (if S 7 (S 1020 0) = 8 ∨ S 7 (S 1020 0) = 9 ∨ S 7 (S 1020 0) = 4 ∨ S 7 (S 1020 0) = 5 then 5 else (if S 7 (S 1020 0) = 33 ∨ S 7 (S 1020 0) = 34 ∨ S 7 (S 1020 0) = 6 ∨ S 7 (S 1020 0) = 7 then 6 else (if S 7 (S 1020 0) = 12 ∨ S 7 (S 1020 0) = 13 ∨ S 7 (S 1020 0) = 3 then 7 else (if S 7 (S 1020 0) = 35 ∨ S 7 (S 1020 0) = 36 then 8 else (if S 7 (S 1020 0) = 37 ∨ S 7 (S 1020 0) = 38 ∨ S 7 (S 1020 0) = 39 then 9 else (-1))))) : Int) = (if S 7 (S 1020 0) = 33 ∨ S 7 (S 1020 0) = 34 ∨ S 7 (S 1020 0) = 6 ∨ S 7 (S 1020 0) = 7 then 6 else (if S 7 (S 1020 0) = 12 ∨ S 7 (S 1020 0) = 13 ∨ S 7 (S 1020 0) = 3 then 7 else (if S 7 (S 1020 0) = 35 ∨ S 7 (S 1020 0) = 36 then 8 else (if S 7 (S 1020 0) = 37 ∨ S 7 (S 1020 0) = 38 ∨ S 7 (S 1020 0) = 39 then 9 else (-1))))) := if_neg (la_bindsOf_139 h136_)
        have e145_ : (if S 7 (S 1020 0) = 15 then 0 else (if S 7 (S 1020 0) = 14 then 1 else (if S 7 (S 1020 0) = 41 then 2 else (if S 7 (S 1020 0) = 42 then 3 else (if S 7 (S 1020 0) = 40 then 4 else (if S 7 (S 1020 0) = 8 ∨ S 7 (S 1020 0) = 9 ∨ S 7 (S 1020 0) = 4 ∨ S 7 (S 1020 0) = 5 then 5 else (if S 7 (S 1020 0) = 33 ∨ S 7 (S 1020 0) = 34 ∨ S 7 (S 1020 0) = 6 ∨ S 7 (S 1020 0) = 7 then 6 else (if S 7 (S 1020 0) = 12 ∨ S 7 (S 1020 0) = 13 ∨ S 7 (S 1020 0) = 3 then 7 else (if S 7 (S 1020 0) = 35 ∨ S 7 (S 1020 0) = 36 then 8 else (if S 7 (S 1020 0) = 37 ∨ S 7 (S 1020 0) = 38 ∨ S 7 (S 1020 0) = 39 then 9 else (-1)))))))))) : Int) = (if S 7 (S 1020 0) = 14 then 1 else (if S 7 (S 1020 0) = 41 then 2 else (if S 7 (S 1020 0) = 42 then 3 else (if S 7 (S 1020 0) = 40 then 4 else (if S 7 (S 1020 0) = 8 ∨ S 7 (S 1020 0) = 9 ∨ S 7 (S 1020 0) = 4 ∨ S 7 (S 1020 0) = 5 then 5 else (if S 7 (S 1020 0) = 33 ∨ S 7 (S 1020 0) = 34 ∨ S 7 (S 1020 0) = 6 ∨ S 7 (S 1020 0) = 7 then 6 else (if S 7 (S 1020 0) = 12 ∨ S 7 (S 1020 0) = 13 ∨ S 7 (S 1020 0) = 3 then 7 else (if S 7 (S 1020 0) = 35 ∨ S 7 (S 1020 0) = 36 then 8 else (if S 7 (S 1020 0) = 37 ∨ S 7 (S 1020 0) = 38 ∨ S 7 (S 1020 0) = 39 then 9 else (-1)))))))))) := if_neg (la_bindsOf_140 h136_)
        have e146_ : (if S 7 (S 1020 0) = 40 then 4 else (if S 7 (S 1020 0) = 8 ∨ S 7 (S 1020 0) = 9 ∨ S 7 (S 1020 0) = 4 ∨ S 7 (S 1020 0) = 5 then 5 else (if S 7 (S 1020 0) = 33 ∨ S 7 (S 1020 0) = 34 ∨ S 7 (S 1020 0) = 6 ∨ S 7 (S 1020 0) = 7 then 6 else (if S 7 (S 1020 0) = 12 ∨ S 7 (S 1020 0) = 13 ∨ S 7 (S 1020 0) = 3 then 7 else (if S 7 (S 1020 0) = 35 ∨ S 7 (S 1020 0) = 36 then 8 else (if S 7 (S 1020 0) = 37 ∨ S 7 (S 1020 0) = 38 ∨ S 7 (S 1020 0) = 39 then 9 else (-1)))))) : Int) = (if S 7 (S 1020 0) = 8 ∨ S 7 (S 1020 0) = 9 ∨ S 7 (S 1020 0) = 4 ∨ S 7 (S 1020 0) = 5 then 5 else (if S 7 (S 1020 0) = 33 ∨ S 7 (S 1020 0) = 34 ∨ S 7 (S 1020 0) = 6 ∨ S 7 (S 1020 0) = 7 then 6 else (if S 7 (S 1020 0) = 12 ∨ S 7 (S 1020 0) = 13 ∨ S 7 (S 1020 0) = 3 then 7 else (if S 7 (S 1020 0) = 35 ∨ S 7 (S 1020 0) = 36 then 8 else (if S 7 (S 1020 0) = 37 ∨ S 7 (S 1020 0) = 38 ∨ S 7 (S 1020 0) = 39 then 9 else (-1)))))) := if_neg (la_bindsOf_141 h136_)
        have e147_ : (if S 7 (S 1020 0) = 14 then 1 else (if S 7 (S 1020 0) = 41 then 2 else (if S 7 (S 1020 0) = 42 then 3 else (if S 7 (S 1020 0) = 40 then 4 else (if S 7 (S 1020 0) = 8 ∨ S 7 (S 1020 0) = 9 ∨ S 7 (S 1020 0) = 4 ∨ S 7 (S 1020 0) = 5 then 5 else (if S 7 (S 1020 0) = 33 ∨ S 7 (S 1020 0) = 34 ∨ S 7 (S 1020 0) = 6 ∨ S 7 (S 1020 0) = 7 then 6 else (if S 7 (S 1020 0) = 12 ∨ S 7 (S 1020 0) = 13 ∨ S 7 (S 1020 0) = 3 then 7 else (if S 7 (S 1020 0) = 35 ∨ S 7 (S 1020 0) = 36 then 8 else (if S 7 (S 1020 0) = 37 ∨ S 7 (S 1020 0) = 38 ∨ S 7 (S 1020 0) = 39 then 9 else (-1))))))))) : Int) = (if S 7 (S 1020 0) = 41 then 2 else (if S 7 (S 1020 0) = 42 then 3 else (if S 7 (S 1020 0) = 40 then 4 else (if S 7 (S 1020 0) = 8 ∨ S 7 (S 1020 0) = 9 ∨ S 7 (S 1020 0) = 4 ∨ S 7 (S 1020 0) = 5 then 5 else (if S 7 (S 1020 0) = 33 ∨ S 7 (S 1020 0) = 34 ∨ S 7 (S 1020 0) = 6 ∨ S 7 (S 1020 0) = 7 then 6 else (if S 7 (S 1020 0) = 12 ∨ S 7 (S 1020 0) = 13 ∨ S 7 (S 1020 0) = 3 then 7 else (if S 7 (S 1020 0) = 35 ∨ S 7 (S 1020 0) = 36 then 8 else (if S 7 (S 1020 0) = 37 ∨ S 7 (S 1020 0) = 38 ∨ S 7 (S 1020 0) = 39 then 9 else (-1))))))))) := if_neg (la_bindsOf_142 h136_)
        have e148_ : (if S 7 (S 1020 0) = 12 ∨ S 7 (S 1020 0) = 13 ∨ S 7 (S 1020 0) = 3 then 7 else (if S 7 (S 1020 0) = 35 ∨ S 7 (S 1020 0) = 36 then 8 else (if S 7 (S 1020 0) = 37 ∨ S 7 (S 1020 0) = 38 ∨ S 7 (S 1020 0) = 39 then 9 else (-1))) : Int) = (if S 7 (S 1020 0) = 35 ∨ S 7 (S 1020 0) = 36 then 8 else (if S 7 (S 1020 0) = 37 ∨ S 7 (S 1020 0) = 38 ∨ S 7 (S 1020 0) = 39 then 9 else (-1))) := if_neg (la_bindsOf_143 h136_)
        have e149_ : (if S 7 (S 1020 0) = 14 ∨ S 7 (S 1020 0) = 13 ∧ p1 = 1 then 6 else (-1) : Int) = (-1) := if_neg (la_bindsOf_144 h136_)
        exact (la_bindsOf_145 e137_ e138_ e139_ e140_ e141_ e142_ e144_ e145_ e146_ e147_ e148_)
      intro h150_
      refine ⟨la_bindsOf_4, ?_⟩
      refine ⟨la_bindsOf_146, ?_⟩
      refine ⟨(la_bindsOf_147 h9_), ?_⟩
      have e151_ : (if S 7 (S 1020 0) = 37 ∨ S 7 (S 1020 0) = 38 ∨ S 7 (S 1020 0) = 39 then 9 else (-1) : Int) = 9 := if_pos h150_
      have e152_ : (if S 6 (S 1020 0) = 5 then (if S 7 (S 1020 0) = 15 then 0 else (if S 7 (S 1020 0) = 14 then 1 else (if S 7 (S 1020 0) = 41 then 2 else (if S 7 (S 1020 0) = 42 then 3 else (if S 7 (S 1020 0) = 40 then 4 else (if S 7 (S 1020 0) = 8 ∨ S 7 (S 1020 0) = 9 ∨ S 7 (S 1020 0) = 4 ∨ S 7 (S 1020 0) = 5 then 5 else (if S 7 (S 1020 0) = 33 ∨ S 7 (S 1020 0) = 34 ∨ S 7 (S 1020 0) = 6 ∨ S 7 (S 1020 0) = 7 then 6 else (if S 7 (S 1020 0) = 12 ∨ S 7 (S 1020 0) = 13 ∨ S 7 (S 1020 0) = 3 then 7 else (if S 7 (S 1020 0) = 35 ∨ S 7 (S 1020 0) = 36 then 8 else (if S 7 (S 1020 0) = 37 ∨ S 7 (S 1020 0) = 38 ∨ S 7 (S 1020 0) = 39 then 9 else (-1))))))))))) else (-1) : Int) = (if S 7 (S 1020 0) = 15 then 0 else (if S 7 (S 1020 0) = 14 then 1 else (if S 7 (S 1020 0) = 41 then 2 else (if S 7 (S 1020 0) = 42 then 3 else (if S 7 (S 1020 0) = 40 then 4 else (if S 7 (S 1020 0) = 8 ∨ S 7 (S 1020 0) = 9 ∨ S 7 (S 1020 0) = 4 ∨ S 7 (S 1020 0) = 5 then 5 else (if S 7 (S 1020 0) = 33 ∨ S 7 (S 1020 0) = 34 ∨ S 7 (S 1020 0) = 6 ∨ S 7 (S 1020 0) = 7 then 6 else (if S 7 (S 1020 0) = 12 ∨ S 7 (S 1020 0) = 13 ∨ S 7 (S 1020 0) = 3 then 7 else (if S 7 (S 1020 0) = 35 ∨ S 7 (S 1020 0) = 36 then 8 else (if S 7 (S 1020 0) = 37 ∨ S 7 (S 1020 0) = 38 ∨ S 7 (S 1020 0) = 39 then 9 else (-1))))))))))) := if_pos h9_
      have e153_ : (if S 6 (S 1020 0) = 2 then (if S 7 (S 1020 0) = 14 ∨ S 7 (S 1020 0) = 13 ∧ p1 = 1 then 6 else (-1)) else (if S 6 (S 1020 0) = 5 then (if S 7 (S 1020 0) = 15 then 0 else (if S 7 (S 1020 0) = 14 then 1 else (if S 7 (S 1020 0) = 41 then 2 else (if S 7 (S 1020 0) = 42 then 3 else (if S 7 (S 1020 0) = 40 then 4 else (if S 7 (S 1020 0) = 8 ∨ S 7 (S 1020 0) = 9 ∨ S 7 (S 1020 0) = 4 ∨ S 7 (S 1020 0) = 5 then 5 else (if S 7 (S 1020 0) = 33 ∨ S 7 (S 1020 0) = 34 ∨ S 7 (S 1020 0) = 6 ∨ S 7 (S 1020 0) = 7 then 6 else (if S 7 (S 1020 0) = 12 ∨ S 7 (S 1020 0) = 13 ∨ S 7 (S 1020 0) = 3 then 7 else (if S 7 (S 1020 0) = 35 ∨ S 7 (S 1020 0) = 36 then 8 else (if S 7 (S 1020 0) = 37 ∨ S 7 (S 1020 0) = 38 ∨ S 7 (S 1020 0) = 39 then 9 else (-1))))))))))) else (-1)) : Int) = (if S 6 (S 1020 0) = 5 then (if S 7 (S 1020 0) = 15 then 0 else (if S 7 (S 1020 0) = 14 then 1 else (if S 7 (S 1020 0) = 41 then 2 else (if S 7 (S 1020 0) = 42 then 3 else (if S 7 (S 1020 0) = 40 then 4 else (if S 7 (S 1020 0) = 8 ∨ S 7 (S 1020 0) = 9 ∨ S 7 (S 1020 0) = 4 ∨ S 7 (S 1020 0) = 5 then 5 else (if S 7 (S 1020 0) = 33 ∨ S 7 (S 1020 0) = 34 ∨ S 7 (S 1020 0) = 6 ∨ S 7 (S 1020 0) = 7 then 6 else (if S 7 (S 1020 0) = 12 ∨ S 7 (S 1020 0) = 13 ∨ S 7 (S 1020 0) = 3 then 7 else (if S 7 (S 1020 0) = 35 ∨ S 7 (S 1020 0) = 36 then 8 else (if S 7 (S 1020 0) = 37 ∨ S 7 (S 1020 0) = 38 ∨ S 7 (S 1020 0) = 39 then 9 else (-1))))))))))) else (-1)) := if_neg h8_
      have e154_ : (if S 7 (S 1020 0) = 33 ∨ S 7 (S 1020 0) = 34 ∨ S 7 (S 1020 0) = 6 ∨ S 7 (S 1020 0) = 7 then 6 else (if S 7 (S 1020 0) = 12 ∨ S 7 (S 1020 0) = 13 ∨ S 7 (S 1020 0) = 3 then 7 else (if S 7 (S 1020 0) = 35 ∨ S 7 (S 1020 0) = 36 then 8 else (if S 7 (S 1020 0) = 37 ∨ S 7 (S 1020 0) = 38 ∨ S 7 (S 1020 0) = 39 then 9 else (-1)))) : Int) = (if S 7 (S 1020 0) = 12 ∨ S 7 (S 1020 0) = 13 ∨ S 7 (S 1020 0) = 3 then 7 else (if S 7 (S 1020 0) = 35 ∨ S 7 (S 1020 0) = 36 then 8 else (if S 7 (S 1020 0) = 37 ∨ S 7 (S 1020 0) = 38 ∨ S 7 (S 1020 0) = 39 then 9 else (-1)))) := if_neg (la_bindsOf_148 h150_)
      have e155_ : (if S 7 (S 1020 0) = 41 then 2 else (if S 7 (S 1020 0) = 42 then 3 else (if S 7 (S 1020 0) = 40 then 4 else (if S 7 (S 1020 0) = 8 ∨ S 7 (S 1020 0) = 9 ∨ S 7 (S 1020 0) = 4 ∨ S 7 (S 1020 0) = 5 then 5 else (if S 7 (S 1020 0) = 33 ∨ S 7 (S 1020 0) = 34 ∨ S 7 (S 1020 0) = 6 ∨ S 7 (S 1020 0) = 7 then 6 else (if S 7 (S 1020 0) = 12 ∨ S 7 (S 1020 0) = 13 ∨ S 7 (S 1020 0) = 3 then 7 else (if S 7 (S 1020 0) = 35 ∨ S 7 (S 1020 0) = 36 then 8 else (if S 7 (S 1020 0) = 37 ∨ S 7 (S 1020 0) = 38 ∨ S 7 (S 1020 0) = 39 then 9 else (-1)))))))) : Int) = (if S 7 (S 1020 0) = 42 then 3 else (if S 7 (S 1020 0) = 40 then 4 else (if S 7 (S 1020 0) = 8 ∨ S 7 (S 1020 0) = 9 ∨ S 7 (S 1020 0) = 4 ∨ S 7 (S 1020 0) = 5 then 5 else (if S 7 (S 1020 0) = 33 ∨ S 7 (S 1020 0) = 34 ∨ S 7 (S 1020 0) = 6 ∨ S 7 (S 1020 0) = 7 then 6 else (if S 7 (S 1020 0) = 12 ∨ S 7 (S 1020 0) = 13 ∨ S 7 (S 1020 0) = 3 then 7 else (if S 7 (S 1020 0) = 35 ∨ S 7 (S 1020 0) = 36 then 8 else (if S 7 (S 1020 0) = 37 ∨ S 7 (S 1020 0) = 38 ∨ S 7 (S 1020 0) = 39 then 9 else (-1)))))))) := if_neg (la_bindsOf_149 h150_)
      have e156_ : (if S 7 (S 1020 0) = 42 then 3 else (if S 7 (S 1020 0) = 40 then 4 else (if S 7 (S 1020 0) = 8 ∨ S 7 (S 1020 0) = 9 ∨ S 7 (S 1020 0) = 4 ∨ S 7 (S 1020 0) = 5 then 5 else (if S 7 (S 1020 0) = 33 ∨ S 7 (S 1020 0) = 34 ∨ S 7 (S 1020 0) = 6 ∨ S 7 (S 1020 0) = 7 then 6 else (if S 7 (S 1020 0) = 12 ∨ S 7 (S 1020 0) = 13 ∨ S 7 (S 1020 0) = 3 then 7 else (if S 7 (S 1020 0) = 35 ∨ S 7 (S 1020 0) = 36 then 8 else (if S 7 (S 1020 0) = 37 ∨ S 7 (S 1020 0) = 38 ∨ S 7 (S 1020 0) = 39 then 9 else (-1))))))) : Int) = (if S 7 (S 1020 0) = 40 then 4 else (if S 7 (S 1020 0) = 8 ∨ S 7 (S 1020 0) = 9 ∨ S 7 (S 1020 0) = 4 ∨ S 7 (S 1020 0) = 5 then 5 else (if S 7 (S 1020 0) = 33 ∨ S 7 (S 1020 0) = 34 ∨ S 7 (S 1020 0) = 6 ∨ S 7 (S 1020 0) = 7 then 6 else (if S 7 (S 1020 0) = 12 ∨ S 7 (S 1020 0) = 13 ∨ S 7 (S 1020 0) = 3 then 7 else (if S 7 (S 1020 0) = 35 ∨ S 7 (S 1020 0) = 36 then 8 else (if S 7 (S 1020 0) = 37 ∨ S 7 (S 1020 0) = 38 ∨ S 7 (S 1020 0) = 39 then 9 else (-1))))))) := if_neg (la_bindsOf_150 h150_)
      have e157_ : (if S 7 (S 1020 0) = 8 ∨ S 7 (S 1020 0) = 9 ∨ S 7 (S 1020 0) = 4 ∨ S 7 (S 1020 0) = 5 then 5 else (if S 7 (S 1020 0) = 33 ∨ S 7 (S 1020 0) = 34 ∨ S 7 (S 1020 0) = 6 ∨ S 7 (S 1020 0) = 7 then 6 else (if S 7 (S 1020 0) = 12 ∨ S 7 (S 1020 0) = 13 ∨ S 7 (S 1020 0) = 3 then 7 else (if S 7 (S 1020 0) = 35 ∨ S 7 (S 1020 0) = 36 then 8 else (if S 7 (S 1020 0) = 37 ∨ S 7 (S 1020 0) = 38 ∨ S 7 (S 1020 0) = 39 then 9 else (-1))))) : Int) = (if S 7 (S 1020 0) = 33 ∨ S 7 (S 1020 0) = 34 ∨ S 7 (S 1020 0) = 6 ∨ S 7 (S 1020 0) = 7 then 6 else (if S 7 (S 1020 0) = 12 ∨ S 7 (S 1020 0) = 13 ∨ S 7 (S 1020 0) = 3 then 7 else (if S 7 (S 1020 0) = 35 ∨ S 7 (S 1020 0) = 36 then 8 else (if S 7 (S 1020 0) = 37 ∨ S 7 (S 1020 0) = 38 ∨ S 7 (S 1020 0) = 39 then 9 else (-1))))) := if_neg (la_bindsOf_151 h150_)
      have e158_ : (if S 7 (S 1020 0) = 15 then 0 else (if S 7 (S 1020 0) = 14 then 1 else (if S 7 (S 1020 0) = 41 then 2 else (if S 7 (S 1020 0) = 42 then 3 else (if S 7 (S 1020 0) = 40 then 4 else (if S 7 (S 1020 0) = 8 ∨ S 7 (S 1020 0) = 9 ∨ S 7 (S 1020 0) = 4 ∨ S 7 (S 1020 0) = 5 then 5 else (if S 7 (S 1020 0) = 33 ∨ S 7 (S 1020 0) = 34 ∨ S 7 (S 1020 0) = 6 ∨ S 7 (S 1020 0) = 7 then 6 else (if S 7 (S 1020 0) = 12 ∨ S 7 (S 1020 0) = 13 ∨ S 7 (S 1020 0) = 3 then 7 else (if S 7 (S 1020 0) = 35 ∨ S 7 (S 1020 0) = 36 then 8 else (if S 7 (S 1020 0) = 37 ∨ S 7 (S 1020 0) = 38 ∨ S 7 (S 1020 0) = 39 then 9 else (-1)))))))))) : Int) = (if S 7 (S 1020 0) = 14 then 1 else (if S 7 (S 1020 0) = 41 then 2 else (if S 7 (S 1020 0) = 42 then 3 else (if S 7 (S 1020 0) = 40 then 4 else (if S 7 (S 1020 0) = 8 ∨ S 7 (S 1020 0) = 9 ∨ S 7 (S 1020 0) = 4 ∨ S 7 (S 1020 0) = 5 then 5 else (if S 7 (S 1020 0) = 33 ∨ S 7 (S 1020 0) = 34 ∨ S 7 (S 1020 0) = 6 ∨ S 7 (S 1020 0) = 7 then 6 else (if S 7 (S 1020 0) = 12 ∨ S 7 (S 1020 0) = 13 ∨ S 7 (S 1020 0) = 3 then 7 else (if S 7 (S 1020 0) = 35 ∨ S 7 (S 1020 0) = 36 then 8 else (if S 7 (S 1020 0) = 37 ∨ S 7 (S 1020 0) = 38 ∨ S 7 (S 1020 0) = 39 then 9 else (-1)))))))))) := if_neg (la_bindsOf_152 h150_)
      have e159_ : (if S 7 (S 1020 0) = 35 ∨ S 7 (S 1020 0) = 36 then 8 else (if S 7 (S 1020 0) = 37 ∨ S 7 (S 1020 0) = 38 ∨ S 7 (S 1020 0) = 39 then 9 else (-1)) : Int) = (if S 7 (S 1020 0) = 37 ∨ S 7 (S 1020 0) = 38 ∨ S 7 (S 1020 0) = 39 then 9 else (-1)) := if_neg (la_bindsOf_153 h150_)
      have e160_ : (if S 7 (S 1020 0) = 40 then 4 else (if S 7 (S 1020 0) = 8 ∨ S 7 (S 1020 0) = 9 ∨ S 7 (S 1020 0) = 4 ∨ S 7 (S 1020 0) = 5 then 5 else (if S 7 (S 1020 0) = 33 ∨ S 7 (S 1020 0) = 34 ∨ S 7 (S 1020 0) = 6 ∨ S 7 (S 1020 0) = 7 then 6 else (if S 7 (S 1020 0) = 12 ∨ S 7 (S 1020 0) = 13 ∨ S 7 (S 1020 0) = 3 then 7 else (if S 7 (S 1020 0) = 35 ∨ S 7 (S 1020 0) = 36 then 8 else (if S 7 (S 1020 0) = 37 ∨ S 7 (S 1020 0) = 38 ∨ S 7 (S 1020 0) = 39 then 9 else (-1)))))) : Int) = (if S 7 (S 1020 0) = 8 ∨ S 7 (S 1020 0) = 9 ∨ S 7 (S 1020 0) = 4 ∨ S 7 (S 1020 0) = 5 then 5 else (if S 7 (S 1020 0) = 33 ∨ S 7 (S 1020 0) = 34 ∨ S 7 (S 1020 0) = 6 ∨ S 7 (S 1020 0) = 7 then 6 else (if S 7 (S 1020 0) = 12 ∨ S 7 (S 1020 0) = 13 ∨ S 7 (S 1020 0) = 3 then 7 else (if S 7 (S 1020 0) = 35 ∨ S 7 (S 1020 0) = 36 then 8 else (if S 7 (S 1020 0) = 37 ∨ S 7 (S 1020 0) = 38 ∨ S 7 (S 1020 0) = 39 then 9 else (-1)))))) := if_neg (la_bindsOf_154 h150_)
      have e161_ : (if S 7 (S 1020 0) = 14 then 1 else (if S 7 (S 1020 0) = 41 then 2 else (if S 7 (S 1020 0) = 42 then 3 else (if S 7 (S 1020 0) = 40 then 4 else (if S 7 (S 1020 0) = 8 ∨ S 7 (S 1020 0) = 9 ∨ S 7 (S 1020 0) = 4 ∨ S 7 (S 1020 0) = 5 then 5 else (if S 7 (S 1020 0) = 33 ∨ S 7 (S 1020 0) = 34 ∨ S 7 (S 1020 0) = 6 ∨ S 7 (S 1020 0) = 7 then 6 else (if S 7 (S 1020 0) = 12 ∨ S 7 (S 1020 0) = 13 ∨ S 7 (S 1020 0) = 3 then 7 else (if S 7 (S 1020 0) = 35 ∨ S 7 (S 1020 0) = 36 then 8 else (if S 7 (S 1020 0) = 37 ∨ S 7 (S 1020 0) = 38 ∨ S 7 (S 1020 0) = 39 then 9 else (-1))))))))) : Int) = (if S 7 (S 1020 0) = 41 then 2 else (if S 7 (S 1020 0) = 42 then 3 else (if S 7 (S 1020 0) = 40 then 4 else (if S 7 (S 1020 0) = 8 ∨ S 7 (S 1020 0) = 9 ∨ S 7 (S 1020 0) = 4 ∨ S 7 (S 1020 0) = 5 then 5 else (if S 7 (S 1020 0) = 33 ∨ S 7 (S 1020 0) = 34 ∨ S 7 (S 1020 0) = 6 ∨ S 7 (S 1020 0) = 7 then 6 else (if S 7 (S 1020 0) = 12 ∨ S 7 (S 1020 0) = 13 ∨ S 7 (S 1020 0) = 3 then 7 else (if S 7 (S 1020 0) = 35 ∨ S 7 (S 1020 0) = 36 then 8 else (if S 7 (S 1020 0) = 37 ∨ S 7 (S 1020 0) = 38 ∨ S 7 (S 1020 0) = 39 then 9 else (-1))))))))) := if_neg (la_bindsOf_155 h150_)
      have e162_ : (if S 7 (S 1020 0) = 12 ∨ S 7 (S 1020 0) = 13 ∨ S 7 (S 1020 0) = 3 then 7 else (if S 7 (S 1020 0) = 35 ∨ S 7 (S 1020 0) = 36 then 8 else (if S 7 (S 1020 0) = 37 ∨ S 7 (S 1020 0) = 38 ∨ S 7 (S 1020 0) = 39 then 9 else (-1))) : Int) = (if S 7 (S 1020 0) = 35 ∨ S 7 (S 1020 0) = 36 then 8 else (if S 7 (S 1020 0) = 37 ∨ S 7 (S 1020 0) = 38 ∨ S 7 (S 1020 0) = 39 then 9 else (-1))) := if_neg (la_bindsOf_156 h150_)
      have e163_ : (if S 7 (S 1020 0) = 14 ∨ S 7 (S 1020 0) = 13 ∧ p1 = 1 then 6 else (-1) : Int) = (-1) := if_neg (la_bindsOf_157 h150_)
      exact (la_bindsOf_158 e151_ e152_ e153_ e154_ e155_ e156_ e157_ e158_ e159_ e160_ e161_ e162_)
    intro h164_
    refine ⟨la_bindsOf_3, ?_⟩
    refine ⟨la_bindsOf_4, ?_⟩
    refine ⟨la_bindsOf_5, ?_⟩
    have e165_ : (if S 6 (S 1020 0) = 5 then (if S 7 (S 1020 0) = 15 then 0 else (if S 7 (S 1020 0) = 14 then 1 else (if S 7 (S 1020 0) = 41 then 2 else (if S 7 (S 1020 0) = 42 then 3 else (if S 7 (S 1020 0) = 40 then 4 else (if S 7 (S 1020 0) = 8 ∨ S 7 (S 1020 0) = 9 ∨ S 7 (S 1020 0) = 4 ∨ S 7 (S 1020 0) = 5 then 5 else (if S 7 (S 1020 0) = 33 ∨ S 7 (S 1020 0) = 34 ∨ S 7 (S 1020 0) = 6 ∨ S 7 (S 1020 0) = 7 then 6 else (if S 7 (S 1020 0) = 12 ∨ S 7 (S 1020 0) = 13 ∨ S 7 (S 1020 0) = 3 then 7 else (if S 7 (S 1020 0) = 35 ∨ S 7 (S 1020 0) = 36 then 8 else (if S 7 (S 1020 0) = 37 ∨ S 7 (S 1020 0) = 38 ∨ S 7 (S 1020 0) = 39 then 9 else (-1))))))))))) else (-1) : Int) = (-1) := if_neg h164_
    have e166_ : (if S 6 (S 1020 0) = 2 then (if S 7 (S 1020 0) = 14 ∨ S 7 (S 1020 0) = 13 ∧ p1 = 1 then 6 else (-1)) else (if S 6 (S 1020 0) = 5 then (if S 7 (S 1020 0) = 15 then 0 else (if S 7 (S 1020 0) = 14 then 1 else (if S 7 (S 1020 0) = 41 then 2 else (if S 7 (S 1020 0) = 42 then 3 else (if S 7 (S 1020 0) = 40 then 4 else (if S 7 (S 1020 0) = 8 ∨ S 7 (S 1020 0) = 9 ∨ S 7 (S 1020 0) = 4 ∨ S 7 (S 1020 0) = 5 then 5 else (if S 7 (S 1020 0) = 33 ∨ S 7 (S 1020 0) = 34 ∨ S 7 (S 1020 0) = 6 ∨ S 7 (S 1020 0) = 7 then 6 else (if S 7 (S 1020 0) = 12 ∨ S 7 (S 1020 0) = 13 ∨ S 7 (S 1020 0) = 3 then 7 else (if S 7 (S 1020 0) = 35 ∨ S 7 (S 1020 0) = 36 then 8 else (if S 7 (S 1020 0) = 37 ∨ S 7 (S 1020 0) = 38 ∨ S 7 (S 1020 0) = 39 then 9 else (-1))))))))))) else (-1)) : Int) = (if S 6 (S 1020 0) = 5 then (if S 7 (S 1020 0) = 15 then 0 else (if S 7 (S 1020 0) = 14 then 1 else (if S 7 (S 1020 0) = 41 then 2 else (if S 7 (S 1020 0) = 42 then 3 else (if S 7 (S 1020 0) = 40 then 4 else (if S 7 (S 1020 0) = 8 ∨ S 7 (S 1020 0) = 9 ∨ S 7 (S 1020 0) = 4 ∨ S 7 (S 1020 0) = 5 then 5 else (if S 7 (S 1020 0) = 33 ∨ S 7 (S 1020 0) = 34 ∨ S 7 (S 1020 0) = 6 ∨ S 7 (S 1020 0) = 7 then 6 else (if S 7 (S 1020 0) = 12 ∨ S 7 (S 1020 0) = 13 ∨ S 7 (S 1020 0) = 3 then 7 else (if S 7 (S 1020 0) = 35 ∨ S 7 (S 1020 0) = 36 then 8 else (if S 7 (S 1020 0) = 37 ∨ S 7 (S 1020 0) = 38 ∨ S 7 (S 1020 0) = 39 then 9 else (-1))))))))))) else (-1)) := if_neg h8_
    exact (la_bindsOf_159 e165_ e166_)
  intro h167_
  intro h168_
  refine ⟨?_, ?_⟩
  · skip
    intro h169_
    refine ⟨la_bindsOf_103, ?_⟩
    refine ⟨la_bindsOf_104, ?_⟩
    refine ⟨(la_bindsOf_160 h167_), ?_⟩
    have e170_ : (if S 7 (S 1020 0) = 33 ∨ S 7 (S 1020 0) = 34 ∨ S 7 (S 1020 0) = 6 ∨ S 7 (S 1020 0) = 7 then 6 else (if S 7 (S 1020 0) = 12 ∨ S 7 (S 1020 0) = 13 ∨ S 7 (S 1020 0) = 3 then 7 else (if S 7 (S 1020 0) = 35 ∨ S 7 (S 1020 0) = 36 then 8 else (if S 7 (S 1020 0) = 37 ∨ S 7 (S 1020 0) = 38 ∨ S 7 (S 1020 0) = 39 then 9 else (-1)))) : Int) = (if S 7 (S 1020 0) = 12 ∨ S 7 (S 1020 0) = 13 ∨ S 7 (S 1020 0) = 3 then 7 else (if S 7 (S 1020 0) = 35 ∨ S 7 (S 1020 0) = 36 then 8 else (if S 7 (S 1020 0) = 37 ∨ S 7 (S 1020 0) = 38 ∨ S 7 (S 1020 0) = 39 then 9 else (-1)))) := if_neg (la_bindsOf_35 h169_)
    have e171_ : (if S 7 (S 1020 0) = 41 then 2 else (if S 7 (S 1020 0) = 42 then 3 else (if S 7 (S 1020 0) = 40 then 4 else (if S 7 (S 1020 0) = 8 ∨ S 7 (S 1020 0) = 9 ∨ S 7 (S 1020 0) = 4 ∨ S 7 (S 1020 0) = 5 then 5 else (if S 7 (S 1020 0) = 33 ∨ S 7 (S 1020 0) = 34 ∨ S 7 (S 1020 0) = 6 ∨ S 7 (S 1020 0) = 7 then 6 else (if S 7 (S 1020 0) = 12 ∨ S 7 (S 1020 0) = 13 ∨ S 7 (S 1020 0) = 3 then 7 else (if S 7 (S 1020 0) = 35 ∨ S 7 (S 1020 0) = 36 then 8 else (if S 7 (S 1020 0) = 37 ∨ S 7 (S 1020 0) = 38 ∨ S 7 (S 1020 0) = 39 then 9 else (-1)))))))) : Int) = (if S 7 (S 1020 0) = 42 then 3 else (if S 7 (S 1020 0) = 40 then 4 else (if S 7 (S 1020 0) = 8 ∨ S 7 (S 1020 0) = 9 ∨ S 7 (S 1020 0) = 4 ∨ S 7 (S 1020 0) = 5 then 5 else (if S 7 (S 1020 0) = 33 ∨ S 7 (S 1020 0) = 34 ∨ S 7 (S 1020 0) = 6 ∨ S 7 (S 1020 0) = 7 then 6 else (if S 7 (S 1020 0) = 12 ∨ S 7 (S 1020 0) = 13 ∨ S 7 (S 1020 0) = 3 then 7 else (if S 7 (S 1020 0) = 35 ∨ S 7 (S 1020 0) = 36 then 8 else (if S 7 (S 1020 0) = 37 ∨ S 7 (S 1020 0) = 38 ∨ S 7 (S 1020 0) = 39 then 9 else (-1)))))))) := if_neg (la_bindsOf_36 h169_)
    have e172_ : (if S 7 (S 1020 0) = 42 then 3 else (if S 7 (S 1020 0) = 40 then 4 else (if S 7 (S 1020 0) = 8 ∨ S 7 (S 1020 0) = 9 ∨ S 7 (S 1020 0) = 4 ∨ S 7 (S 1020 0) = 5 then 5 else (if S 7 (S 1020 0) = 33 ∨ S 7 (S 1020 0) = 34 ∨ S 7 (S 1020 0) = 6 ∨ S 7 (S 1020 0) = 7 then 6 else (if S 7 (S 1020 0) = 12 ∨ S 7 (S 1020 0) = 13 ∨ S 7 (S 1020 0) = 3 then 7 else (if S 7 (S 1020 0) = 35 ∨ S 7 (S 1020 0) = 36 then 8 else (if S 7 (S 1020 0) = 37 ∨ S 7 (S 1020 0) = 38 ∨ S 7 (S 1020 0) = 39 then 9 else (-1))))))) : Int) = (if S 7 (S 1020 0) = 40 then 4 else (if S 7 (S 1020 0) = 8 ∨ S 7 (S 1020 0) = 9 ∨ S 7 (S 1020 0) = 4 ∨ S 7 (S 1020 0) = 5 then 5 else (if S 7 (S 1020 0) = 33 ∨ S 7 (S 1020 0) = 34 ∨ S 7 (S 1020 0) = 6 ∨ S 7 (S 1020 0) = 7 then 6 else (if S 7 (S 1020 0) = 12 ∨ S 7 (S 1020 0) = 13 ∨ S 7 (S 1020 0) = 3 then 7 else (if S 7 (S 1020 0) = 35 ∨ S 7 (S 1020 0) = 36 then 8 else (if S 7 (S 1020 0) = 37 ∨ S 7 (S 1020 0) = 38 ∨ S 7 (S 1020 0) = 39 then 9 else (-1))))))) := if_neg (la_bindsOf_37 h169_)
    have e173_ : (if S 7 (S 1020 0) = 37 ∨ S 7 (S 1020 0) = 38 ∨ S 7 (S 1020 0) = 39 then 9 else (-1) : Int) = (-1) := if_neg (la_bindsOf_38 h169_)
    have e174_ : (if S 7 (S 1020 0) = 8 ∨ S 7 (S 1020 0) = 9 ∨ S 7 (S 1020 0) = 4 ∨ S 7 (S 1020 0) = 5 then 5 else (if S 7 (S 1020 0) = 33 ∨ S 7 (S 1020 0) = 34 ∨ S 7 (S 1020 0) = 6 ∨ S 7 (S 1020 0) = 7 then 6 else (if S 7 (S 1020 0) = 12 ∨ S 7 (S 1020 0) = 13 ∨ S 7 (S 1020 0) = 3 then 7 else (if S 7 (S 1020 0) = 35 ∨ S 7 (S 1020 0) = 36 then 8 else (if S 7 (S 1020 0) = 37 ∨ S 7 (S 1020 0) = 38 ∨ S 7 (S 1020 0) = 39 then 9 else (-1))))) : Int) = (if S 7 (S 1020 0) = 33 ∨ S 7 (S 1020 0) = 34 ∨ S 7 (S 1020 0) = 6 ∨ S 7 (S 1020 0) = 7 then 6 else (if S 7 (S 1020 0) = 12 ∨ S 7 (S 1020 0) = 13 ∨ S 7 (S 1020 0) = 3 then 7 else (if S 7 (S 1020 0) = 35 ∨ S 7 (S 1020 0) = 36 then 8 else (if S 7 (S 1020 0) = 37 ∨ S 7 (S 1020 0) = 38 ∨ S 7 (S 1020 0) = 39 then 9 else (-1))))) := if_neg (la_bindsOf_39 h169_)
    have e175_ : (if S 7 (S 1020 0) = 15 then 0 else (if S 7 (S 1020 0) = 14 then 1 else (if S 7 (S 1020 0) = 41 then 2 else (if S 7 (S 1020 0) = 42 then 3 else (if S 7 (S 1020 0) = 40 then 4 else (if S 7 (S 1020 0) = 8 ∨ S 7 (S 1020 0) = 9 ∨ S 7 (S 1020 0) = 4 ∨ S 7 (S 1020 0) = 5 then 5 else (if S 7 (S 1020 0) = 33 ∨ S 7 (S 1020 0) = 34 ∨ S 7 (S 1020 0) = 6 ∨ S 7 (S 1020 0) = 7 then 6 else (if S 7 (S 1020 0) = 12 ∨ S 7 (S 1020 0) = 13 ∨ S 7 (S 1020 0) = 3 then 7 else (if S 7 (S 1020 0) = 35 ∨ S 7 (S 1020 0) = 36 then 8 else (if S 7 (S 1020 0) = 37 ∨ S 7 (S 1020 0) = 38 ∨ S 7 (S 1020 0) = 39 then 9 else (-1)))))))))) : Int) = (if S 7 (S 1020 0) = 14 then 1 else (if S 7 (S 1020 0) = 41 then 2 else (if S 7 (S 1020 0) = 42 then 3 else (if S 7 (S 1020 0) = 40 then 4 else (if S 7 (S 1020 0) = 8 ∨ S 7 (S 1020 0) = 9 ∨ S 7 (S 1020 0) = 4 ∨ S 7 (S 1020 0) = 5 then 5 else (if S 7 (S 1020 0) = 33 ∨ S 7 (S 1020 0) = 34 ∨ S 7 (S 1020 0) = 6 ∨ S 7 (S 1020 0) = 7 then 6 else (if S 7 (S 1020 0) = 12 ∨ S 7 (S 1020 0) = 13 ∨ S 7 (S 1020 0) = 3 then 7 else (if S 7 (S 1020 0) = 35 ∨ S 7 (S 1020 0) = 36 then 8 else (if S 7 (S 1020 0) = 37 ∨ S 7 (S 1020 0) = 38 ∨ S 7 (S 1020 0) = 39 then 9 else (-1)))))))))) := if_neg (la_bindsOf_40 h169_)
    have e176_ : (if S 7 (S 1020 0) = 35 ∨ S 7 (S 1020 0) = 36 then 8 else (if S 7 (S 1020 0) = 37 ∨ S 7 (S 1020 0) = 38 ∨ S 7 (S 1020 0) = 39 then 9 else (-1)) : Int) = (if S 7 (S 1020 0) = 37 ∨ S 7 (S 1020 0) = 38 ∨ S 7 (S 1020 0) = 39 then 9 else (-1)) := if_neg (la_bindsOf_41 h169_)
    have e177_ : (if S 7 (S 1020 0) = 40 then 4 else (if S 7 (S 1020 0) = 8 ∨ S 7 (S 1020 0) = 9 ∨ S 7 (S 1020 0) = 4 ∨ S 7 (S 1020 0) = 5 then 5 else (if S 7 (S 1020 0) = 33 ∨ S 7 (S 1020 0) = 34 ∨ S 7 (S 1020 0) = 6 ∨ S 7 (S 1020 0) = 7 then 6 else (if S 7 (S 1020 0) = 12 ∨ S 7 (S 1020 0) = 13 ∨ S 7 (S 1020 0) = 3 then 7 else (if S 7 (S 1020 0) = 35 ∨ S 7 (S 1020 0) = 36 then 8 else (if S 7 (S 1020 0) = 37 ∨ S 7 (S 1020 0) = 38 ∨ S 7 (S 1020 0) = 39 then 9 else (-1)))))) : Int) = (if S 7 (S 1020 0) = 8 ∨ S 7 (S 1020 0) = 9 ∨ S 7 (S 1020 0) = 4 ∨ S 7 (S 1020 0) = 5 then 5 else (if S 7 (S 1020 0) = 33 ∨ S 7 (S 1020 0) = 34 ∨ S 7 (S 1020 0) = 6 ∨ S 7 (S 1020 0) = 7 then 6 else (if S 7 (S 1020 0) = 12 ∨ S 7 (S 1020 0) = 13 ∨ S 7 (S 1020 0) = 3 then 7 else (if S 7 (S 1020 0) = 35 ∨ S 7 (S 1020 0) = 36 then 8 else (if S 7 (S 1020 0) = 37 ∨ S 7 (S 1020 0) = 38 ∨ S 7 (S 1020 0) = 39 then 9 else (-1)))))) := if_neg (la_bindsOf_42 h169_)
    have e178_ : (if S 6 (S 1020 0) = 5 then (if S 7 (S 1020 0) = 15 then 0 else (if S 7 (S 1020 0) = 14 then 1 else (if S 7 (S 1020 0) = 41 then 2 else (if S 7 (S 1020 0) = 42 then 3 else (if S 7 (S 1020 0) = 40 then 4 else (if S 7 (S 1020 0) = 8 ∨ S 7 (S 1020 0) = 9 ∨ S 7 (S 1020 0) = 4 ∨ S 7 (S 1020 0) = 5 then 5 else (if S 7 (S 1020 0) = 33 ∨ S 7 (S 1020 0) = 34 ∨ S 7 (S 1020 0) = 6 ∨ S 7 (S 1020 0) = 7 then 6 else (if S 7 (S 1020 0) = 12 ∨ S 7 (S 1020 0) = 13 ∨ S 7 (S 1020 0) = 3 then 7 else (if S 7 (S 1020 0) = 35 ∨ S 7 (S 1020 0) = 36 then 8 else (if S 7 (S 1020 0) = 37 ∨ S 7 (S 1020 0) = 38 ∨ S 7 (S 1020 0) = 39 then 9 else (-1))))))))))) else (-1) : Int) = (-1) := if_neg (la_bindsOf_161 h167_)
    have e179_ : (if S 7 (S 1020 0) = 14 then 1 else (if S 7 (S 1020 0) = 41 then 2 else (if S 7 (S 1020 0) = 42 then 3 else (if S 7 (S 1020 0) = 40 then 4 else (if S 7 (S 1020 0) = 8 ∨ S 7 (S 1020 0) = 9 ∨ S 7 (S 1020 0) = 4 ∨ S 7 (S 1020 0) = 5 then 5 else (if S 7 (S 1020 0) = 33 ∨ S 7 (S 1020 0) = 34 ∨ S 7 (S 1020 0) = 6 ∨ S 7 (S 1020 0) = 7 then 6 else (if S 7 (S 1020 0) = 12 ∨ S 7 (S 1020 0) = 13 ∨ S 7 (S 1020 0) = 3 then 7 else (if S 7 (S 1020 0) = 35 ∨ S 7 (S 1020 0) = 36 then 8 else (if S 7 (S 1020 0) = 37 ∨ S 7 (S 1020 0) = 38 ∨ S 7 (S 1020 0) = 39 then 9 else (-1))))))))) : Int) = 1 := if_pos h169_
    have e180_ : (if S 7 (S 1020 0) = 12 ∨ S 7 (S 1020 0) = 13 ∨ S 7 (S 1020 0) = 3 then 7 else (if S 7 (S 1020 0) = 35 ∨ S 7 (S 1020 0) = 36 then 8 else (if S 7 (S 1020 0) = 37 ∨ S 7 (S 1020 0) = 38 ∨ S 7 (S 1020 0) = 39 then 9 else (-1))) : Int) = (if S 7 (S 1020 0) = 35 ∨ S 7 (S 1020 0) = 36 then 8 else (if S 7 (S 1020 0) = 37 ∨ S 7 (S 1020 0) = 38 ∨ S 7 (S 1020 0) = 39 then 9 else (-1))) := if_neg (la_bindsOf_43 h169_)
    have e181_ : (if S 6 (S 1020 0) = 2 then (if S 7 (S 1020 0) = 14 ∨ S 7 (S 1020 0) = 13 ∧ p1 = 1 then 6 else (-1)) else (if S 6 (S 1020 0) = 5 then (if S 7 (S 1020 0) = 15 then 0 else (if S 7 (S 1020 0) = 14 then 1 else (if S 7 (S 1020 0) = 41 then 2 else (if S 7 (S 1020 0) = 42 then 3 else (if S 7 (S 1020 0) = 40 then 4 else (if S 7 (S 1020 0) = 8 ∨ S 7 (S 1020 0) = 9 ∨ S 7 (S 1020 0) = 4 ∨ S 7 (S 1020 0) = 5 then 5 else (if S 7 (S 1020 0) = 33 ∨ S 7 (S 1020 0) = 34 ∨ S 7 (S 1020 0) = 6 ∨ S 7 (S 1020 0) = 7 then 6 else (if S 7 (S 1020 0) = 12 ∨ S 7 (S 1020 0) = 13 ∨ S 7 (S 1020 0) = 3 then 7 else (if S 7 (S 1020 0) = 35 ∨ S 7 (S 1020 0) = 36 then 8 else (if S 7 (S 1020 0) = 37 ∨ S 7 (S 1020 0) = 38 ∨ S 7 (S 1020 0) = 39 then 9 else (-1))))))))))) else (-1)) : Int) = (if S 7 (S 1020 0) = 14 ∨ S 7 (S 1020 0) = 13 ∧ p1 = 1 then 6 else (-1)) := if_pos (la_bindsOf_162 h167_)
    have e182_ : (if S 7 (S 1020 0) = 14 ∨ S 7 (S 1020 0) = 13 ∧ p1 = 1 then 6 else (-1) : Int) = 6 := if_pos (la_bindsOf_44 h3_ h169_)
    exact (la_bindsOf_163 e181_ e182_)
  intro h183_
  refine ⟨?_, ?_⟩
  · skip
    intro h184_
    refine ⟨la_bindsOf_3, ?_⟩
    refine ⟨la_bindsOf_4, ?_⟩
    refine ⟨la_bindsOf_5, ?_⟩
    have e185_ : (if S 6 (S 1020 0) = 5 then (if S 7 (S 1020 0) = 15 then 0 else (if S 7 (S 1020 0) = 14 then 1 else (if S 7 (S 1020 0) = 41 then 2 else (if S 7 (S 1020 0) = 42 then 3 else (if S 7 (S 1020 0) = 40 then 4 else (if S 7 (S 1020 0) = 8 ∨ S 7 (S 1020 0) = 9 ∨ S 7 (S 1020 0) = 4 ∨ S 7 (S 1020 0) = 5 then 5 else (if S 7 (S 1020 0) = 33 ∨ S 7 (S 1020 0) = 34 ∨ S 7 (S 1020 0) = 6 ∨ S 7 (S 1020 0) = 7 then 6 else (if S 7 (S 1020 0) = 12 ∨ S 7 (S 1020 0) = 13 ∨ S 7 (S 1020 0) = 3 then 7 else (if S 7 (S 1020 0) = 35 ∨ S 7 (S 1020 0) = 36 then 8 else (if S 7 (S 1020 0) = 37 ∨ S 7 (S 1020 0) = 38 ∨ S 7 (S 1020 0) = 39 then 9 else (-1))))))))))) else (-1) : Int) = (-1) := if_neg (la_bindsOf_161 h167_)
    have e186_ : (if S 7 (S 1020 0) = 14 then 1 else (if S 7 (S 1020 0) = 41 then 2 else (if S 7 (S 1020 0) = 42 then 3 else (if S 7 (S 1020 0) = 40 then 4 else (if S 7 (S 1020 0) = 8 ∨ S 7 (S 1020 0) = 9 ∨ S 7 (S 1020 0) = 4 ∨ S 7 (S 1020 0) = 5 then 5 else (if S 7 (S 1020 0) = 33 ∨ S 7 (S 1020 0) = 34 ∨ S 7 (S 1020 0) = 6 ∨ S 7 (S 1020 0) = 7 then 6 else (if S 7 (S 1020 0) = 12 ∨ S 7 (S 1020 0) = 13 ∨ S 7 (S 1020 0) = 3 then 7 else (if S 7 (S 1020 0) = 35 ∨ S 7 (S 1020 0) = 36 then 8 else (if S 7 (S 1020 0) = 37 ∨ S 7 (S 1020 0) = 38 ∨ S 7 (S 1020 0) = 39 then 9 else (-1))))))))) : Int) = (if S 7 (S 1020 0) = 41 then 2 else (if S 7 (S 1020 0) = 42 then 3 else (if S 7 (S 1020 0) = 40 then 4 else (if S 7 (S 1020 0) = 8 ∨ S 7 (S 1020 0) = 9 ∨ S 7 (S 1020 0) = 4 ∨ S 7 (S 1020 0) = 5 then 5 else (if S 7 (S 1020 0) = 33 ∨ S 7 (S 1020 0) = 34 ∨ S 7 (S 1020 0) = 6 ∨ S 7 (S 1020 0) = 7 then 6 else (if S 7 (S 1020 0) = 12 ∨ S 7 (S 1020 0) = 13 ∨ S 7 (S 1020 0) = 3 then 7 else (if S 7 (S 1020 0) = 35 ∨ S 7 (S 1020 0) = 36 then 8 else (if S 7 (S 1020 0) = 37 ∨ S 7 (S 1020 0) = 38 ∨ S 7 (S 1020 0) = 39 then 9 else (-1))))))))) := if_neg h183_
    have e187_ : (if S 6 (S 1020 0) = 2 then (if S 7 (S 1020 0) = 14 ∨ S 7 (S 1020 0) = 13 ∧ p1 = 1 then 6 else (-1)) else (if S 6 (S 1020 0) = 5 then (if S 7 (S 1020 0) = 15 then 0 else (if S 7 (S 1020 0) = 14 then 1 else (if S 7 (S 1020 0) = 41 then 2 else (if S 7 (S 1020 0) = 42 then 3 else (if S 7 (S 1020 0) = 40 then 4 else (if S 7 (S 1020 0) = 8 ∨ S 7 (S 1020 0) = 9 ∨ S 7 (S 1020 0) = 4 ∨ S 7 (S 1020 0) = 5 then 5 else (if S 7 (S 1020 0) = 33 ∨ S 7 (S 1020 0) = 34 ∨ S 7 (S 1020 0) = 6 ∨ S 7 (S 1020 0) = 7 then 6 else (if S 7 (S 1020 0) = 12 ∨ S 7 (S 1020 0) = 13 ∨ S 7 (S 1020 0) = 3 then 7 else (if S 7 (S 1020 0) = 35 ∨ S 7 (S 1020 0) = 36 then 8 else (if S 7 (S 1020 0) = 37 ∨ S 7 (S 1020 0) = 38 ∨ S 7 (S 1020 0) = 39 then 9 else (-1))))))))))) else (-1)) : Int) = (if S 7 (S 1020 0) = 14 ∨ S 7 (S 1020 0) = 13 ∧ p1 = 1 then 6 else (-1)) := if_pos (la_bindsOf_162 h167_)
    have e188_ : (if S 7 (S 1020 0) = 14 ∨ S 7 (S 1020 0) = 13 ∧ p1 = 1 then 6 else (-1) : Int) = (-1) := if_neg (la_bindsOf_164 h183_ h184_)
    exact (la_bindsOf_165 e187_ e188_)
  intro h189_
  refine ⟨?_, ?_⟩
  · skip
    intro h190_
    refine ⟨la_bindsOf_3, ?_⟩
    refine ⟨la_bindsOf_4, ?_⟩
    refine ⟨la_bindsOf_5, ?_⟩
    have e191_ : (if S 7 (S 1020 0) = 33 ∨ S 7 (S 1020 0) = 34 ∨ S 7 (S 1020 0) = 6 ∨ S 7 (S 1020 0) = 7 then 6 else (if S 7 (S 1020 0) = 12 ∨ S 7 (S 1020 0) = 13 ∨ S 7 (S 1020 0) = 3 then 7 else (if S 7 (S 1020 0) = 35 ∨ S 7 (S 1020 0) = 36 then 8 else (if S 7 (S 1020 0) = 37 ∨ S 7 (S 1020 0) = 38 ∨ S 7 (S 1020 0) = 39 then 9 else (-1)))) : Int) = (if S 7 (S 1020 0) = 12 ∨ S 7 (S 1020 0) = 13 ∨ S 7 (S 1020 0) = 3 then 7 else (if S 7 (S 1020 0) = 35 ∨ S 7 (S 1020 0) = 36 then 8 else (if S 7 (S 1020 0) = 37 ∨ S 7 (S 1020 0) = 38 ∨ S 7 (S 1020 0) = 39 then 9 else (-1)))) := if_neg (la_bindsOf_168 h189_ (la_bindsOf_167 (la_bindsOf_166 h189_) h183_))
    have e192_ : (if S 7 (S 1020 0) = 41 then 2 else (if S 7 (S 1020 0) = 42 then 3 else (if S 7 (S 1020 0) = 40 then 4 else (if S 7 (S 1020 0) = 8 ∨ S 7 (S 1020 0) = 9 ∨ S 7 (S 1020 0) = 4 ∨ S 7 (S 1020 0) = 5 then 5 else (if S 7 (S 1020 0) = 33 ∨ S 7 (S 1020 0) = 34 ∨ S 7 (S 1020 0) = 6 ∨ S 7 (S 1020 0) = 7 then 6 else (if S 7 (S 1020 0) = 12 ∨ S 7 (S 1020 0) = 13 ∨ S 7 (S 1020 0) = 3 then 7 else (if S 7 (S 1020 0) = 35 ∨ S 7 (S 1020 0) = 36 then 8 else (if S 7 (S 1020 0) = 37 ∨ S 7 (S 1020 0) = 38 ∨ S 7 (S 1020 0) = 39 then 9 else (-1)))))))) : Int) = (if S 7 (S 1020 0) = 42 then 3 else (if S 7 (S 1020 0) = 40 then 4 else (if S 7 (S 1020 0) = 8 ∨ S 7 (S 1020 0) = 9 ∨ S 7 (S 1020 0) = 4 ∨ S 7 (S 1020 0) = 5 then 5 else (if S 7 (S 1020 0) = 33 ∨ S 7 (S 1020 0) = 34 ∨ S 7 (S 1020 0) = 6 ∨ S 7 (S 1020 0) = 7 then 6 else (if S 7 (S 1020 0) = 12 ∨ S 7 (S 1020 0) = 13 ∨ S 7 (S 1020 0) = 3 then 7 else (if S 7 (S 1020 0) = 35 ∨ S 7 (S 1020 0) = 36 then 8 else (if S 7 (S 1020 0) = 37 ∨ S 7 (S 1020 0) = 38 ∨ S 7 (S 1020 0) = 39 then 9 else (-1)))))))) := if_neg (la_bindsOf_169 (la_bindsOf_167 (la_bindsOf_166 h189_) h183_))
    have e193_ : (if S 7 (S 1020 0) = 42 then 3 else (if S 7 (S 1020 0) = 40 then 4 else (if S 7 (S 1020 0) = 8 ∨ S 7 (S 1020 0) = 9 ∨ S 7 (S 1020 0) = 4 ∨ S 7 (S 1020 0) = 5 then 5 else (if S 7 (S 1020 0) = 33 ∨ S 7 (S 1020 0) = 34 ∨ S 7 (S 1020 0) = 6 ∨ S 7 (S 1020 0) = 7 then 6 else (if S 7 (S 1020 0) = 12 ∨ S 7 (S 1020 0) = 13 ∨ S 7 (S 1020 0) = 3 then 7 else (if S 7 (S 1020 0) = 35 ∨ S 7 (S 1020 0) = 36 then 8 else (if S 7 (S 1020 0) = 37 ∨ S 7 (S 1020 0) = 38 ∨ S 7 (S 1020 0) = 39 then 9 else (-1))))))) : Int) = (if S 7 (S 1020 0) = 40 then 4 else (if S 7 (S 1020 0) = 8 ∨ S 7 (S 1020 0) = 9 ∨ S 7 (S 1020 0) = 4 ∨ S 7 (S 1020 0) = 5 then 5 else (if S 7 (S 1020 0) = 33 ∨ S 7 (S 1020 0) = 34 ∨ S 7 (S 1020 0) = 6 ∨ S 7 (S 1020 0) = 7 then 6 else (if S 7 (S 1020 0) = 12 ∨ S 7 (S 1020 0) = 13 ∨ S 7 (S 1020 0) = 3 then 7 else (if S 7 (S 1020 0) = 35 ∨ S 7 (S 1020 0) = 36 then 8 else (if S 7 (S 1020 0) = 37 ∨ S 7 (S 1020 0) = 38 ∨ S 7 (S 1020 0) = 39 then 9 else (-1))))))) := if_neg (la_bindsOf_170 (la_bindsOf_167 (la_bindsOf_166 h189_) h183_))
    have e194_ : (if S 7 (S 1020 0) = 37 ∨ S 7 (S 1020 0) = 38 ∨ S 7 (S 1020 0) = 39 then 9 else (-1) : Int) = (-1) := if_neg (la_bindsOf_171 (la_bindsOf_167 (la_bindsOf_166 h189_) h183_))
    have e195_ : (if S 7 (S 1020 0) = 8 ∨ S 7 (S 1020 0) = 9 ∨ S 7 (S 1020 0) = 4 ∨ S 7 (S 1020 0) = 5 then 5 else (if S 7 (S 1020 0) = 33 ∨ S 7 (S 1020 0) = 34 ∨ S 7 (S 1020 0) = 6 ∨ S 7 (S 1020 0) = 7 then 6 else (if S 7 (S 1020 0) = 12 ∨ S 7 (S 1020 0) = 13 ∨ S 7 (S 1020 0) = 3 then 7 else (if S 7 (S 1020 0) = 35 ∨ S 7 (S 1020 0) = 36 then 8 else (if S 7 (S 1020 0) = 37 ∨ S 7 (S 1020 0) = 38 ∨ S 7 (S 1020 0) = 39 then 9 else (-1))))) : Int) = (if S 7 (S 1020 0) = 33 ∨ S 7 (S 1020 0) = 34 ∨ S 7 (S 1020 0) = 6 ∨ S 7 (S 1020 0) = 7 then 6 else (if S 7 (S 1020 0) = 12 ∨ S 7 (S 1020 0) = 13 ∨ S 7 (S 1020 0) = 3 then 7 else (if S 7 (S 1020 0) = 35 ∨ S 7 (S 1020 0) = 36 then 8 else (if S 7 (S 1020 0) = 37 ∨ S 7 (S 1020 0) = 38 ∨ S 7 (S 1020 0) = 39 then 9 else (-1))))) := if_neg (la_bindsOf_172 h189_)
    have e196_ : (if S 7 (S 1020 0) = 15 then 0 else (if S 7 (S 1020 0) = 14 then 1 else (if S 7 (S 1020 0) = 41 then 2 else (if S 7 (S 1020 0) = 42 then 3 else (if S 7 (S 1020 0) = 40 then 4 else (if S 7 (S 1020 0) = 8 ∨ S 7 (S 1020 0) = 9 ∨ S 7 (S 1020 0) = 4 ∨ S 7 (S 1020 0) = 5 then 5 else (if S 7 (S 1020 0) = 33 ∨ S 7 (S 1020 0) = 34 ∨ S 7 (S 1020 0) = 6 ∨ S 7 (S 1020 0) = 7 then 6 else (if S 7 (S 1020 0) = 12 ∨ S 7 (S 1020 0) = 13 ∨ S 7 (S 1020 0) = 3 then 7 else (if S 7 (S 1020 0) = 35 ∨ S 7 (S 1020 0) = 36 then 8 else (if S 7 (S 1020 0) = 37 ∨ S 7 (S 1020 0) = 38 ∨ S 7 (S 1020 0) = 39 then 9 else (-1)))))))))) : Int) = (if S 7 (S 1020 0) = 14 then 1 else (if S 7 (S 1020 0) = 41 then 2 else (if S 7 (S 1020 0) = 42 then 3 else (if S 7 (S 1020 0) = 40 then 4 else (if S 7 (S 1020 0) = 8 ∨ S 7 (S 1020 0) = 9 ∨ S 7 (S 1020 0) = 4 ∨ S 7 (S 1020 0) = 5 then 5 else (if S 7 (S 1020 0) = 33 ∨ S 7 (S 1020 0) = 34 ∨ S 7 (S 1020 0) = 6 ∨ S 7 (S 1020 0) = 7 then 6 else (if S 7 (S 1020 0) = 12 ∨ S 7 (S 1020 0) = 13 ∨ S 7 (S 1020 0) = 3 then 7 else (if S 7 (S 1020 0) = 35 ∨ S 7 (S 1020 0) = 36 then 8 else (if S 7 (S 1020 0) = 37 ∨ S 7 (S 1020 0) = 38 ∨ S 7 (S 1020 0) = 39 then 9 else (-1)))))))))) := if_neg (la_bindsOf_173 (la_bindsOf_167 (la_bindsOf_166 h189_) h183_))
    have e197_ : (if S 7 (S 1020 0) = 35 ∨ S 7 (S 1020 0) = 36 then 8 else (if S 7 (S 1020 0) = 37 ∨ S 7 (S 1020 0) = 38 ∨ S 7 (S 1020 0) = 39 then 9 else (-1)) : Int) = (if S 7 (S 1020 0) = 37 ∨ S 7 (S 1020 0) = 38 ∨ S 7 (S 1020 0) = 39 then 9 else (-1)) := if_neg (la_bindsOf_174 (la_bindsOf_167 (la_bindsOf_166 h189_) h183_))
    have e198_ : (if S 7 (S 1020 0) = 40 then 4 else (if S 7 (S 1020 0) = 8 ∨ S 7 (S 1020 0) = 9 ∨ S 7 (S 1020 0) = 4 ∨ S 7 (S 1020 0) = 5 then 5 else (if S 7 (S 1020 0) = 33 ∨ S 7 (S 1020 0) = 34 ∨ S 7 (S 1020 0) = 6 ∨ S 7 (S 1020 0) = 7 then 6 else (if S 7 (S 1020 0) = 12 ∨ S 7 (S 1020 0) = 13 ∨ S 7 (S 1020 0) = 3 then 7 else (if S 7 (S 1020 0) = 35 ∨ S 7 (S 1020 0) = 36 then 8 else (if S 7 (S 1020 0) = 37 ∨ S 7 (S 1020 0) = 38 ∨ S 7 (S 1020 0) = 39 then 9 else (-1)))))) : Int) = (if S 7 (S 1020 0) = 8 ∨ S 7 (S 1020 0) = 9 ∨ S 7 (S 1020 0) = 4 ∨ S 7 (S 1020 0) = 5 then 5 else (if S 7 (S 1020 0) = 33 ∨ S 7 (S 1020 0) = 34 ∨ S 7 (S 1020 0) = 6 ∨ S 7 (S 1020 0) = 7 then 6 else (if S 7 (S 1020 0) = 12 ∨ S 7 (S 1020 0) = 13 ∨ S 7 (S 1020 0) = 3 then 7 else (if S 7 (S 1020 0) = 35 ∨ S 7 (S 1020 0) = 36 then 8 else (if S 7 (S 1020 0) = 37 ∨ S 7 (S 1020 0) = 38 ∨ S 7 (S 1020 0) = 39 then 9 else (-1)))))) := if_neg (la_bindsOf_175 (la_bindsOf_167 (la_bindsOf_166 h189_) h183_))
    have e199_ : (if S 6 (S 1020 0) = 5 then (if S 7 (S 1020 0) = 15 then 0 else (if S 7 (S 1020 0) = 14 then 1 else (if S 7 (S 1020 0) = 41 then 2 else (if S 7 (S 1020 0) = 42 then 3 else (if S 7 (S 1020 0) = 40 then 4 else (if S 7 (S 1020 0) = 8 ∨ S 7 (S 1020 0) = 9 ∨ S 7 (S 1020 0) = 4 ∨ S 7 (S 1020 0) = 5 then 5 else (if S 7 (S 1020 0) = 33 ∨ S 7 (S 1020 0) = 34 ∨ S 7 (S 1020 0) = 6 ∨ S 7 (S 1020 0) = 7 then 6 else (if S 7 (S 1020 0) = 12 ∨ S 7 (S 1020 0) = 13 ∨ S 7 (S 1020 0) = 3 then 7 else (if S 7 (S 1020 0) = 35 ∨ S 7 (S 1020 0) = 36 then 8 else (if S 7 (S 1020 0) = 37 ∨ S 7 (S 1020 0) = 38 ∨ S 7 (S 1020 0) = 39 then 9 else (-1))))))))))) else (-1) : Int) = (-1) := if_neg (la_bindsOf_161 h167_)
    have e200_ : (if S 7 (S 1020 0) = 14 then 1 else (if S 7 (S 1020 0) = 41 then 2 else (if S 7 (S 1020 0) = 42 then 3 else (if S 7 (S 1020 0) = 40 then 4 else (if S 7 (S 1020 0) = 8 ∨ S 7 (S 1020 0) = 9 ∨ S 7 (S 1020 0) = 4 ∨ S 7 (S 1020 0) = 5 then 5 else (if S 7 (S 1020 0) = 33 ∨ S 7 (S 1020 0) = 34 ∨ S 7 (S 1020 0) = 6 ∨ S 7 (S 1020 0) = 7 then 6 else (if S 7 (S 1020 0) = 12 ∨ S 7 (S 1020 0) = 13 ∨ S 7 (S 1020 0) = 3 then 7 else (if S 7 (S 1020 0) = 35 ∨ S 7 (S 1020 0) = 36 then 8 else (if S 7 (S 1020 0) = 37 ∨ S 7 (S 1020 0) = 38 ∨ S 7 (S 1020 0) = 39 then 9 else (-1))))))))) : Int) = (if S 7 (S 1020 0) = 41 then 2 else (if S 7 (S 1020 0) = 42 then 3 else (if S 7 (S 1020 0) = 40 then 4 else (if S 7 (S 1020 0) = 8 ∨ S 7 (S 1020 0) = 9 ∨ S 7 (S 1020 0) = 4 ∨ S 7 (S 1020 0) = 5 then 5 else (if S 7 (S 1020 0) = 33 ∨ S 7 (S 1020 0) = 34 ∨ S 7 (S 1020 0) = 6 ∨ S 7 (S 1020 0) = 7 then 6 else (if S 7 (S 1020 0) = 12 ∨ S 7 (S 1020 0) = 13 ∨ S 7 (S 1020 0) = 3 then 7 else (if S 7 (S 1020 0) = 35 ∨ S 7 (S 1020 0) = 36 then 8 else (if S 7 (S 1020 0) = 37 ∨ S 7 (S 1020 0) = 38 ∨ S 7 (S 1020 0) = 39 then 9 else (-1))))))))) := if_neg h183_
    have e201_ : (if S 7 (S 1020 0) = 12 ∨ S 7 (S 1020 0) = 13 ∨ S 7 (S 1020 0) = 3 then 7 else (if S 7 (S 1020 0) = 35 ∨ S 7 (S 1020 0) = 36 then 8 else (if S 7 (S 1020 0) = 37 ∨ S 7 (S 1020 0) = 38 ∨ S 7 (S 1020 0) = 39 then 9 else (-1))) : Int) = 7 := if_pos (la_bindsOf_176 h189_)
    have e202_ : (if S 6 (S 1020 0) = 2 then (if S 7 (S 1020 0) = 14 ∨ S 7 (S 1020 0) = 13 ∧ p1 = 1 then 6 else (-1)) else (if S 6 (S 1020 0) = 5 then (if S 7 (S 1020 0) = 15 then 0 else (if S 7 (S 1020 0) = 14 then 1 else (if S 7 (S 1020 0) = 41 then 2 else (if S 7 (S 1020 0) = 42 then 3 else (if S 7 (S 1020 0) = 40 then 4 else (if S 7 (S 1020 0) = 8 ∨ S 7 (S 1020 0) = 9 ∨ S 7 (S 1020 0) = 4 ∨ S 7 (S 1020 0) = 5 then 5 else (if S 7 (S 1020 0) = 33 ∨ S 7 (S 1020 0) = 34 ∨ S 7 (S 1020 0) = 6 ∨ S 7 (S 1020 0) = 7 then 6 else (if S 7 (S 1020 0) = 12 ∨ S 7 (S 1020 0) = 13 ∨ S 7 (S 1020 0) = 3 then 7 else (if S 7 (S 1020 0) = 35 ∨ S 7 (S 1020 0) = 36 then 8 else (if S 7 (S 1020 0) = 37 ∨ S 7 (S 1020 0) = 38 ∨ S 7 (S 1020 0) = 39 then 9 else (-1))))))))))) else (-1)) : Int) = (if S 7 (S 1020 0) = 14 ∨ S 7 (S 1020 0) = 13 ∧ p1 = 1 then 6 else (-1)) := if_pos (la_bindsOf_162 h167_)
    have e203_ : (if S 7 (S 1020 0) = 14 ∨ S 7 (S 1020 0) = 13 ∧ p1 = 1 then 6 else (-1) : Int) = (-1) := if_neg (la_bindsOf_177 (la_bindsOf_167 (la_bindsOf_166 h189_) h183_) h190_)
    exact (la_bindsOf_165 e202_ e203_)
  intro h204_
  refine ⟨la_bindsOf_103, ?_⟩
  refine ⟨la_bindsOf_104, ?_⟩
  refine ⟨(la_bindsOf_160 h167_), ?_⟩
  have e205_ : (if S 7 (S 1020 0) = 33 ∨ S 7 (S 1020 0) = 34 ∨ S 7 (S 1020 0) = 6 ∨ S 7 (S 1020 0) = 7 then 6 else (if S 7 (S 1020 0) = 12 ∨ S 7 (S 1020 0) = 13 ∨ S 7 (S 1020 0) = 3 then 7 else (if S 7 (S 1020 0) = 35 ∨ S 7 (S 1020 0) = 36 then 8 else (if S 7 (S 1020 0) = 37 ∨ S 7 (S 1020 0) = 38 ∨ S 7 (S 1020 0) = 39 then 9 else (-1)))) : Int) = (if S 7 (S 1020 0) = 12 ∨ S 7 (S 1020 0) = 13 ∨ S 7 (S 1020 0) = 3 then 7 else (if S 7 (S 1020 0) = 35 ∨ S 7 (S 1020 0) = 36 then 8 else (if S 7 (S 1020 0) = 37 ∨ S 7 (S 1020 0) = 38 ∨ S 7 (S 1020 0) = 39 then 9 else (-1)))) := if_neg (la_bindsOf_168 h189_ (la_bindsOf_167 (la_bindsOf_166 h189_) h183_))
  have e206_ : (if S 7 (S 1020 0) = 41 then 2 else (if S 7 (S 1020 0) = 42 then 3 else (if S 7 (S 1020 0) = 40 then 4 else (if S 7 (S 1020 0) = 8 ∨ S 7 (S 1020 0) = 9 ∨ S 7 (S 1020 0) = 4 ∨ S 7 (S 1020 0) = 5 then 5 else (if S 7 (S 1020 0) = 33 ∨ S 7 (S 1020 0) = 34 ∨ S 7 (S 1020 0) = 6 ∨ S 7 (S 1020 0) = 7 then 6 else (if S 7 (S 1020 0) = 12 ∨ S 7 (S 1020 0) = 13 ∨ S 7 (S 1020 0) = 3 then 7 else (if S 7 (S 1020 0) = 35 ∨ S 7 (S 1020 0) = 36 then 8 else (if S 7 (S 1020 0) = 37 ∨ S 7 (S 1020 0) = 38 ∨ S 7 (S 1020 0) = 39 then 9 else (-1)))))))) : Int) = (if S 7 (S 1020 0) = 42 then 3 else (if S 7 (S 1020 0) = 40 then 4 else (if S 7 (S 1020 0) = 8 ∨ S 7 (S 1020 0) = 9 ∨ S 7 (S 1020 0) = 4 ∨ S 7 (S 1020 0) = 5 then 5 else (if S 7 (S 1020 0) = 33 ∨ S 7 (S 1020 0) = 34 ∨ S 7 (S 1020 0) = 6 ∨ S 7 (S 1020 0) = 7 then 6 else (if S 7 (S 1020 0) = 12 ∨ S 7 (S 1020 0) = 13 ∨ S 7 (S 1020 0) = 3 then 7 else (if S 7 (S 1020 0) = 35 ∨ S 7 (S 1020 0) = 36 then 8 else (if S 7 (S 1020 0) = 37 ∨ S 7 (S 1020 0) = 38 ∨ S 7 (S 1020 0) = 39 then 9 else (-1)))))))) := if_neg (la_bindsOf_169 (la_bindsOf_167 (la_bindsOf_166 h189_) h183_))
  have e207_ : (if S 7 (S 1020 0) = 42 then 3 else (if S 7 (S 1020 0) = 40 then 4 else (if S 7 (S 1020 0) = 8 ∨ S 7 (S 1020 0) = 9 ∨ S 7 (S 1020 0) = 4 ∨ S 7 (S 1020 0) = 5 then 5 else (if S 7 (S 1020 0) = 33 ∨ S 7 (S 1020 0) = 34 ∨ S 7 (S 1020 0) = 6 ∨ S 7 (S 1020 0) = 7 then 6 else (if S 7 (S 1020 0) = 12 ∨ S 7 (S 1020 0) = 13 ∨ S 7 (S 1020 0) = 3 then 7 else (if S 7 (S 1020 0) = 35 ∨ S 7 (S 1020 0) = 36 then 8 else (if S 7 (S 1020 0) = 37 ∨ S 7 (S 1020 0) = 38 ∨ S 7 (S 1020 0) = 39 then 9 else (-1))))))) : Int) = (if S 7 (S 1020 0) = 40 then 4 else (if S 7 (S 1020 0) = 8 ∨ S 7 (S 1020 0) = 9 ∨ S 7 (S 1020 0) = 4 ∨ S 7 (S 1020 0) = 5 then 5 else (if S 7 (S 1020 0) = 33 ∨ S 7 (S 1020 0) = 34 ∨ S 7 (S 1020 0) = 6 ∨ S 7 (S 1020 0) = 7 then 6 else (if S 7 (S 1020 0) = 12 ∨ S 7 (S 1020 0) = 13 ∨ S 7 (S 1020 0) = 3 then 7 else (if S 7 (S 1020 0) = 35 ∨ S 7 (S 1020 0) = 36 then 8 else (if S 7 (S 1020 0) = 37 ∨ S 7 (S 1020 0) = 38 ∨ S 7 (S 1020 0) = 39 then 9 else (-1))))))) := if_neg (la_bindsOf_170 (la_bindsOf_167 (la_bindsOf_166 h189_) h183_))
  have e208_ : (if S 7 (S 1020 0) = 37 ∨ S 7 (S 1020 0) = 38 ∨ S 7 (S 1020 0) = 39 then 9 else (-1) : Int) = (-1) := if_neg (la_bindsOf_171 (la_bindsOf_167 (la_bindsOf_166 h189_) h183_))
  have e209_ : (if S 7 (S 1020 0) = 8 ∨ S 7 (S 1020 0) = 9 ∨ S 7 (S 1020 0) = 4 ∨ S 7 (S 1020 0) = 5 then 5 else (if S 7 (S 1020 0) = 33 ∨ S 7 (S 1020 0) = 34 ∨ S 7 (S 1020 0) = 6 ∨ S 7 (S 1020 0) = 7 then 6 else (if S 7 (S 1020 0) = 12 ∨ S 7 (S 1020 0) = 13 ∨ S 7 (S 1020 0) = 3 then 7 else (if S 7 (S 1020 0) = 35 ∨ S 7 (S 1020 0) = 36 then 8 else (if S 7 (S 1020 0) = 37 ∨ S 7 (S 1020 0) = 38 ∨ S 7 (S 1020 0) = 39 then 9 else (-1))))) : Int) = (if S 7 (S 1020 0) = 33 ∨ S 7 (S 1020 0) = 34 ∨ S 7 (S 1020 0) = 6 ∨ S 7 (S 1020 0) = 7 then 6 else (if S 7 (S 1020 0) = 12 ∨ S 7 (S 1020 0) = 13 ∨ S 7 (S 1020 0) = 3 then 7 else (if S 7 (S 1020 0) = 35 ∨ S 7 (S 1020 0) = 36 then 8 else (if S 7 (S 1020 0) = 37 ∨ S 7 (S 1020 0) = 38 ∨ S 7 (S 1020 0) = 39 then 9 else (-1))))) := if_neg (la_bindsOf_172 h189_)
  have e210_ : (if S 7 (S 1020 0) = 15 then 0 else (if S 7 (S 1020 0) = 14 then 1 else (if S 7 (S 1020 0) = 41 then 2 else (if S 7 (S 1020 0) = 42 then 3 else (if S 7 (S 1020 0) = 40 then 4 else (if S 7 (S 1020 0) = 8 ∨ S 7 (S 1020 0) = 9 ∨ S 7 (S 1020 0) = 4 ∨ S 7 (S 1020 0) = 5 then 5 else (if S 7 (S 1020 0) = 33 ∨ S 7 (S 1020 0) = 34 ∨ S 7 (S 1020 0) = 6 ∨ S 7 (S 1020 0) = 7 then 6 else (if S 7 (S 1020 0) = 12 ∨ S 7 (S 1020 0) = 13 ∨ S 7 (S 1020 0) = 3 then 7 else (if S 7 (S 1020 0) = 35 ∨ S 7 (S 1020 0) = 36 then 8 else (if S 7 (S 1020 0) = 37 ∨ S 7 (S 1020 0) = 38 ∨ S 7 (S 1020 0) = 39 then 9 else (-1)))))))))) : Int) = (if S 7 (S 1020 0) = 14 then 1 else (if S 7 (S 1020 0) = 41 then 2 else (if S 7 (S 1020 0) = 42 then 3 else (if S 7 (S 1020 0) = 40 then 4 else (if S 7 (S 1020 0) = 8 ∨ S 7 (S 1020 0) = 9 ∨ S 7 (S 1020 0) = 4 ∨ S 7 (S 1020 0) = 5 then 5 else (if S 7 (S 1020 0) = 33 ∨ S 7 (S 1020 0) = 34 ∨ S 7 (S 1020 0) = 6 ∨ S 7 (S 1020 0) = 7 then 6 else (if S 7 (S 1020 0) = 12 ∨ S 7 (S 1020 0) = 13 ∨ S 7 (S 1020 0) = 3 then 7 else (if S 7 (S 1020 0) = 35 ∨ S 7 (S 1020 0) = 36 then 8 else (if S 7 (S 1020 0) = 37 ∨ S 7 (S 1020 0) = 38 ∨ S 7 (S 1020 0) = 39 then 9 else (-1)))))))))) := if_neg (la_bindsOf_173 (la_bindsOf_167 (la_bindsOf_166 h189_) h183_))
  have e211_ : (if S 7 (S 1020 0) = 35 ∨ S 7 (S 1020 0) = 36 then 8 else (if S 7 (S 1020 0) = 37 ∨ S 7 (S 1020 0) = 38 ∨ S 7 (S 1020 0) = 39 then 9 else (-1)) : Int) = (if S 7 (S 1020 0) = 37 ∨ S 7 (S 1020 0) = 38 ∨ S 7 (S 1020 0) = 39 then 9 else (-1)) := if_neg (la_bindsOf_174 (la_bindsOf_167 (la_bindsOf_166 h189_) h183_))
  have e212_ : (if S 7 (S 1020 0) = 40 then 4 else (if S 7 (S 1020 0) = 8 ∨ S 7 (S 1020 0) = 9 ∨ S 7 (S 1020 0) = 4 ∨ S 7 (S 1020 0) = 5 then 5 else (if S 7 (S 1020 0) = 33 ∨ S 7 (S 1020 0) = 34 ∨ S 7 (S 1020 0) = 6 ∨ S 7 (S 1020 0) = 7 then 6 else (if S 7 (S 1020 0) = 12 ∨ S 7 (S 1020 0) = 13 ∨ S 7 (S 1020 0) = 3 then 7 else (if S 7 (S 1020 0) = 35 ∨ S 7 (S 1020 0) = 36 then 8 else (if S 7 (S 1020 0) = 37 ∨ S 7 (S 1020 0) = 38 ∨ S 7 (S 1020 0) = 39 then 9 else (-1)))))) : Int) = (if S 7 (S 1020 0) = 8 ∨ S 7 (S 1020 0) = 9 ∨ S 7 (S 1020 0) = 4 ∨ S 7 (S 1020 0) = 5 then 5 else (if S 7 (S 1020 0) = 33 ∨ S 7 (S 1020 0) = 34 ∨ S 7 (S 1020 0) = 6 ∨ S 7 (S 1020 0) = 7 then 6 else (if S 7 (S 1020 0) = 12 ∨ S 7 (S 1020 0) = 13 ∨ S 7 (S 1020 0) = 3 then 7 else (if S 7 (S 1020 0) = 35 ∨ S 7 (S 1020 0) = 36 then 8 else (if S 7 (S 1020 0) = 37 ∨ S 7 (S 1020 0) = 38 ∨ S 7 (S 1020 0) = 39 then 9 else (-1)))))) := if_neg (la_bindsOf_175 (la_bindsOf_167 (la_bindsOf_166 h189_) h183_))
  have e213_ : (if S 6 (S 1020 0) = 5 then (if S 7 (S 1020 0) = 15 then 0 else (if S 7 (S 1020 0) = 14 then 1 else (if S 7 (S 1020 0) = 41 then 2 else (if S 7 (S 1020 0) = 42 then 3 else (if S 7 (S 1020 0) = 40 then 4 else (if S 7 (S 1020 0) = 8 ∨ S 7 (S 1020 0) = 9 ∨ S 7 (S 1020 0) = 4 ∨ S 7 (S 1020 0) = 5 then 5 else (if S 7 (S 1020 0) = 33 ∨ S 7 (S 1020 0) = 34 ∨ S 7 (S 1020 0) = 6 ∨ S 7 (S 1020 0) = 7 then 6 else (if S 7 (S 1020 0) = 12 ∨ S 7 (S 1020 0) = 13 ∨ S 7 (S 1020 0) = 3 then 7 else (if S 7 (S 1020 0) = 35 ∨ S 7 (S 1020 0) = 36 then 8 else (if S 7 (S 1020 0) = 37 ∨ S 7 (S 1020 0) = 38 ∨ S 7 (S 1020 0) = 39 then 9 else (-1))))))))))) else (-1) : Int) = (-1) := if_neg (la_bindsOf_161 h167_)
  have e214_ : (if S 7 (S 1020 0) = 14 then 1 else (if S 7 (S 1020 0) = 41 then 2 else (if S 7 (S 1020 0) = 42 then 3 else (if S 7 (S 1020 0) = 40 then 4 else (if S 7 (S 1020 0) = 8 ∨ S 7 (S 1020 0) = 9 ∨ S 7 (S 1020 0) = 4 ∨ S 7 (S 1020 0) = 5 then 5 else (if S 7 (S 1020 0) = 33 ∨ S 7 (S 1020 0) = 34 ∨ S 7 (S 1020 0) = 6 ∨ S 7 (S 1020 0) = 7 then 6 else (if S 7 (S 1020 0) = 12 ∨ S 7 (S 1020 0) = 13 ∨ S 7 (S 1020 0) = 3 then 7 else (if S 7 (S 1020 0) = 35 ∨ S 7 (S 1020 0) = 36 then 8 else (if S 7 (S 1020 0) = 37 ∨ S 7 (S 1020 0) = 38 ∨ S 7 (S 1020 0) = 39 then 9 else (-1))))))))) : Int) = (if S 7 (S 1020 0) = 41 then 2 else (if S 7 (S 1020 0) = 42 then 3 else (if S 7 (S 1020 0) = 40 then 4 else (if S 7 (S 1020 0) = 8 ∨ S 7 (S 1020 0) = 9 ∨ S 7 (S 1020 0) = 4 ∨ S 7 (S 1020 0) = 5 then 5 else (if S 7 (S 1020 0) = 33 ∨ S 7 (S 1020 0) = 34 ∨ S 7 (S 1020 0) = 6 ∨ S 7 (S 1020 0) = 7 then 6 else (if S 7 (S 1020 0) = 12 ∨ S 7 (S 1020 0) = 13 ∨ S 7 (S 1020 0) = 3 then 7 else (if S 7 (S 1020 0) = 35 ∨ S 7 (S 1020 0) = 36 then 8 else (if S 7 (S 1020 0) = 37 ∨ S 7 (S 1020 0) = 38 ∨ S 7 (S 1020 0) = 39 then 9 else (-1))))))))) := if_neg h183_
  have e215_ : (if S 7 (S 1020 0) = 12 ∨ S 7 (S 1020 0) = 13 ∨ S 7 (S 1020 0) = 3 then 7 else (if S 7 (S 1020 0) = 35 ∨ S 7 (S 1020 0) = 36 then 8 else (if S 7 (S 1020 0) = 37 ∨ S 7 (S 1020 0) = 38 ∨ S 7 (S 1020 0) = 39 then 9 else (-1))) : Int) = 7 := if_pos (la_bindsOf_176 h189_)
  have e216_ : (if S 6 (S 1020 0) = 2 then (if S 7 (S 1020 0) = 14 ∨ S 7 (S 1020 0) = 13 ∧ p1 = 1 then 6 else (-1)) else (if S 6 (S 1020 0) = 5 then (if S 7 (S 1020 0) = 15 then 0 else (if S 7 (S 1020 0) = 14 then 1 else (if S 7 (S 1020 0) = 41 then 2 else (if S 7 (S 1020 0) = 42 then 3 else (if S 7 (S 1020 0) = 40 then 4 else (if S 7 (S 1020 0) = 8 ∨ S 7 (S 1020 0) = 9 ∨ S 7 (S 1020 0) = 4 ∨ S 7 (S 1020 0) = 5 then 5 else (if S 7 (S 1020 0) = 33 ∨ S 7 (S 1020 0) = 34 ∨ S 7 (S 1020 0) = 6 ∨ S 7 (S 1020 0) = 7 then 6 else (if S 7 (S 1020 0) = 12 ∨ S 7 (S 1020 0) = 13 ∨ S 7 (S 1020 0) = 3 then 7 else (if S 7 (S 1020 0) = 35 ∨ S 7 (S 1020 0) = 36 then 8 else (if S 7 (S 1020 0) = 37 ∨ S 7 (S 1020 0) = 38 ∨ S 7 (S 1020 0) = 39 then 9 else (-1))))))))))) else (-1)) : Int) = (if S 7 (S 1020 0) = 14 ∨ S 7 (S 1020 0) = 13 ∧ p1 = 1 then 6 else (-1)) := if_pos (la_bindsOf_162 h167_)
  have e217_ : (if S 7 (S 1020 0) = 14 ∨ S 7 (S 1020 0) = 13 ∧ p1 = 1 then 6 else (-1) : Int) = 6 := if_pos (la_bindsOf_179 h3_ h189_ (la_bindsOf_167 (la_bindsOf_166 h189_) h183_) (la_bindsOf_178 h2_ h204_))
  exact (la_bindsOf_163 e216_ e217_)
set_option maxRecDepth 8000 in
set_option maxHeartbeats 2000000 in
theorem t_bindsOf : ∀ (p1 : Int) (S : sv_S), sm_ok S → (0 ≤ p1 ∧ p1 ≤ 1) → (0 ≤ (S 1020 0) ∧ (S 1020 0) ≤ 4000) → sv_T sm_XS sm_cs sm_L sm_sh 0 (q_bindsOf p1 S) 49 0 (lv_args 0 [.ref 0, sv_I p1]) [] S := by
  intro p1 S hok hp1 hpre
  have h := f_bindsOf p1 S hok hp1 hpre
  have hM := sm_h49
  show sv_T sm_XS sm_cs sm_L sm_sh 0 (q_bindsOf p1 S) 49 0 [(0, .ref 0), (1, sv_I p1)] [] S
  refine sv_aload_n hM dX12_bindsOf_0 rfl rfl ?_
  refine sv_getA hM dX12_bindsOf_1 sm_fl_27 (sm_a0 _) sm_k13 rfl ?_
  refine sv_aload_n hM dX12_bindsOf_4 rfl rfl ?_
  have k1 : sv_R (S 1020 0) := sm_okI hok sm_r1020 0
  have h := h k1
  refine sv_getI hM dX12_bindsOf_5 sm_fl_392 (sm_a0 _) sm_k20 rfl (x := (S 1020 0)) rfl ?_
  obtain ⟨o2, h⟩ := h
  have k3 : sv_R (S 6 (S 1020 0)) := sm_okI hok sm_r6 (S 1020 0)
  have h := h k3
  refine sv_iald hM dX12_bindsOf_8 (sm_a6 _) (by decide) o2.1 o2.2 rfl (x := (S 6 (S 1020 0))) rfl ?_
  refine sv_iconst (d := (2 : Int)) hM dX12_bindsOf_9 rfl rfl ?_
  refine sv_icmp_ne hM dX12_bindsOf_10 k3 (⟨by decide, by decide⟩ : sv_R (2 : Int)) (t := 52) rfl rfl (fun hc => ?_) (fun hc => ?_)
  · have h := h.1 (hc)
    refine sv_aload_n hM dX12_bindsOf_52 rfl rfl ?_
    refine sv_getA hM dX12_bindsOf_53 sm_fl_27 (sm_a0 _) sm_k13 rfl ?_
    refine sv_aload_n hM dX12_bindsOf_56 rfl rfl ?_
    refine sv_getI hM dX12_bindsOf_57 sm_fl_392 (sm_a0 _) sm_k20 rfl (x := (S 1020 0)) rfl ?_
    refine sv_iald hM dX12_bindsOf_60 (sm_a6 _) (by decide) o2.1 o2.2 rfl (x := (S 6 (S 1020 0))) rfl ?_
    refine sv_iconst (d := (5 : Int)) hM dX12_bindsOf_61 rfl rfl ?_
    refine sv_icmp_eq hM dX12_bindsOf_62 k3 (⟨by decide, by decide⟩ : sv_R (5 : Int)) (t := 67) rfl rfl (fun hc => ?_) (fun hc => ?_)
    · have h := h.1 (hc)
      refine sv_aload_n hM dX12_bindsOf_67 rfl rfl ?_
      refine sv_getA hM dX12_bindsOf_68 sm_fl_30 (sm_a0 _) sm_k14 rfl ?_
      refine sv_aload_n hM dX12_bindsOf_71 rfl rfl ?_
      refine sv_getI hM dX12_bindsOf_72 sm_fl_392 (sm_a0 _) sm_k20 rfl (x := (S 1020 0)) rfl ?_
      have k4 : sv_R (S 7 (S 1020 0)) := sm_okI hok sm_r7 (S 1020 0)
      have h := h k4
      refine sv_iald hM dX12_bindsOf_75 (sm_a7 _) (by decide) o2.1 o2.2 rfl (x := (S 7 (S 1020 0))) rfl ?_
      have hS := h
      have J0 : ((S 7 (S 1020 0)) < (3 : Int) ∨ (42 : Int) < (S 7 (S 1020 0)) ∨ (S 7 (S 1020 0)) = (10 : Int) ∨ (S 7 (S 1020 0)) = (11 : Int) ∨ (S 7 (S 1020 0)) = (16 : Int) ∨ (S 7 (S 1020 0)) = (17 : Int) ∨ (S 7 (S 1020 0)) = (18 : Int) ∨ (S 7 (S 1020 0)) = (19 : Int) ∨ (S 7 (S 1020 0)) = (20 : Int) ∨ (S 7 (S 1020 0)) = (21 : Int) ∨ (S 7 (S 1020 0)) = (22 : Int) ∨ (S 7 (S 1020 0)) = (23 : Int) ∨ (S 7 (S 1020 0)) = (24 : Int) ∨ (S 7 (S 1020 0)) = (25 : Int) ∨ (S 7 (S 1020 0)) = (26 : Int) ∨ (S 7 (S 1020 0)) = (27 : Int) ∨ (S 7 (S 1020 0)) = (28 : Int) ∨ (S 7 (S 1020 0)) = (29 : Int) ∨ (S 7 (S 1020 0)) = (30 : Int) ∨ (S 7 (S 1020 0)) = (31 : Int) ∨ (S 7 (S 1020 0)) = (32 : Int)) → sv_T sm_XS sm_cs sm_L sm_sh 0 (q_bindsOf p1 S) 49 276 [(0, .ref 0), (1, sv_I p1)] [] S := by
        intro hc
        have h := hS.1 hc
        refine sv_iconst (d := (-1 : Int)) hM dX12_bindsOf_276 rfl rfl ?_
        exact sv_iret hM dX12_bindsOf_277 rfl rfl ⟨(-1 : Int), rfl, (⟨by decide, by decide⟩ : sv_R (-1 : Int)), hok, sv_mod.rf, h⟩
      have J1 : ((S 7 (S 1020 0)) = (15 : Int)) → sv_T sm_XS sm_cs sm_L sm_sh 0 (q_bindsOf p1 S) 49 252 [(0, .ref 0), (1, sv_I p1)] [] S := by
        intro hc
        have h := hS.2.1 hc
        refine sv_iconst (d := (0 : Int)) hM dX12_bindsOf_252 rfl rfl ?_
        exact sv_iret hM dX12_bindsOf_253 rfl rfl ⟨(0 : Int), rfl, (⟨by decide, by decide⟩ : sv_R (0 : Int)), hok, sv_mod.rf, h⟩
      have J2 : ((S 7 (S 1020 0)) = (14 : Int)) → sv_T sm_XS sm_cs sm_L sm_sh 0 (q_bindsOf p1 S) 49 254 [(0, .ref 0), (1, sv_I p1)] [] S := by
        intro hc
        have h := hS.2.2.1 hc
        refine sv_iconst (d := (1 : Int)) hM dX12_bindsOf_254 rfl rfl ?_
        exact sv_iret hM dX12_bindsOf_255 rfl rfl ⟨(1 : Int), rfl, (⟨by decide, by decide⟩ : sv_R (1 : Int)), hok, sv_mod.rf, h⟩
      have J3 : ((S 7 (S 1020 0)) = (41 : Int)) → sv_T sm_XS sm_cs sm_L sm_sh 0 (q_bindsOf p1 S) 49 256 [(0, .ref 0), (1, sv_I p1)] [] S := by
        intro hc
        have h := hS.2.2.2.1 hc
        refine sv_iconst (d := (2 : Int)) hM dX12_bindsOf_256 rfl rfl ?_
        exact sv_iret hM dX12_bindsOf_257 rfl rfl ⟨(2 : Int), rfl, (⟨by decide, by decide⟩ : sv_R (2 : Int)), hok, sv_mod.rf, h⟩
      have J4 : ((S 7 (S 1020 0)) = (42 : Int)) → sv_T sm_XS sm_cs sm_L sm_sh 0 (q_bindsOf p1 S) 49 258 [(0, .ref 0), (1, sv_I p1)] [] S := by
        intro hc
        have h := hS.2.2.2.2.1 hc
        refine sv_iconst (d := (3 : Int)) hM dX12_bindsOf_258 rfl rfl ?_
        exact sv_iret hM dX12_bindsOf_259 rfl rfl ⟨(3 : Int), rfl, (⟨by decide, by decide⟩ : sv_R (3 : Int)), hok, sv_mod.rf, h⟩
      have J5 : ((S 7 (S 1020 0)) = (40 : Int)) → sv_T sm_XS sm_cs sm_L sm_sh 0 (q_bindsOf p1 S) 49 260 [(0, .ref 0), (1, sv_I p1)] [] S := by
        intro hc
        have h := hS.2.2.2.2.2.1 hc
        refine sv_iconst (d := (4 : Int)) hM dX12_bindsOf_260 rfl rfl ?_
        exact sv_iret hM dX12_bindsOf_261 rfl rfl ⟨(4 : Int), rfl, (⟨by decide, by decide⟩ : sv_R (4 : Int)), hok, sv_mod.rf, h⟩
      have J6 : ((S 7 (S 1020 0)) = (4 : Int) ∨ (S 7 (S 1020 0)) = (5 : Int) ∨ (S 7 (S 1020 0)) = (8 : Int) ∨ (S 7 (S 1020 0)) = (9 : Int)) → sv_T sm_XS sm_cs sm_L sm_sh 0 (q_bindsOf p1 S) 49 262 [(0, .ref 0), (1, sv_I p1)] [] S := by
        intro hc
        have h := hS.2.2.2.2.2.2.1 hc
        refine sv_iconst (d := (5 : Int)) hM dX12_bindsOf_262 rfl rfl ?_
        exact sv_iret hM dX12_bindsOf_263 rfl rfl ⟨(5 : Int), rfl, (⟨by decide, by decide⟩ : sv_R (5 : Int)), hok, sv_mod.rf, h⟩
      have J7 : ((S 7 (S 1020 0)) = (6 : Int) ∨ (S 7 (S 1020 0)) = (7 : Int) ∨ (S 7 (S 1020 0)) = (33 : Int) ∨ (S 7 (S 1020 0)) = (34 : Int)) → sv_T sm_XS sm_cs sm_L sm_sh 0 (q_bindsOf p1 S) 49 264 [(0, .ref 0), (1, sv_I p1)] [] S := by
        intro hc
        have h := hS.2.2.2.2.2.2.2.1 hc
        refine sv_bipush (d := (6 : Int)) hM dX12_bindsOf_264 rfl rfl ?_
        exact sv_iret hM dX12_bindsOf_266 rfl rfl ⟨(6 : Int), rfl, (⟨by decide, by decide⟩ : sv_R (6 : Int)), hok, sv_mod.rf, h⟩
      have J8 : ((S 7 (S 1020 0)) = (3 : Int) ∨ (S 7 (S 1020 0)) = (12 : Int) ∨ (S 7 (S 1020 0)) = (13 : Int)) → sv_T sm_XS sm_cs sm_L sm_sh 0 (q_bindsOf p1 S) 49 267 [(0, .ref 0), (1, sv_I p1)] [] S := by
        intro hc
        have h := hS.2.2.2.2.2.2.2.2.1 hc
        refine sv_bipush (d := (7 : Int)) hM dX12_bindsOf_267 rfl rfl ?_
        exact sv_iret hM dX12_bindsOf_269 rfl rfl ⟨(7 : Int), rfl, (⟨by decide, by decide⟩ : sv_R (7 : Int)), hok, sv_mod.rf, h⟩
      have J9 : ((S 7 (S 1020 0)) = (35 : Int) ∨ (S 7 (S 1020 0)) = (36 : Int)) → sv_T sm_XS sm_cs sm_L sm_sh 0 (q_bindsOf p1 S) 49 270 [(0, .ref 0), (1, sv_I p1)] [] S := by
        intro hc
        have h := hS.2.2.2.2.2.2.2.2.2.1 hc
        refine sv_bipush (d := (8 : Int)) hM dX12_bindsOf_270 rfl rfl ?_
        exact sv_iret hM dX12_bindsOf_272 rfl rfl ⟨(8 : Int), rfl, (⟨by decide, by decide⟩ : sv_R (8 : Int)), hok, sv_mod.rf, h⟩
      have J10 : ((S 7 (S 1020 0)) = (37 : Int) ∨ (S 7 (S 1020 0)) = (38 : Int) ∨ (S 7 (S 1020 0)) = (39 : Int)) → sv_T sm_XS sm_cs sm_L sm_sh 0 (q_bindsOf p1 S) 49 273 [(0, .ref 0), (1, sv_I p1)] [] S := by
        intro hc
        have h := hS.2.2.2.2.2.2.2.2.2.2 hc
        refine sv_bipush (d := (9 : Int)) hM dX12_bindsOf_273 rfl rfl ?_
        exact sv_iret hM dX12_bindsOf_275 rfl rfl ⟨(9 : Int), rfl, (⟨by decide, by decide⟩ : sv_R (9 : Int)), hok, sv_mod.rf, h⟩
      refine sv_tsw hM dX12_bindsOf_76 k4 (t := 276) rfl (fun hc => J0 (by rcases hc with hc | hc; exact Or.inl hc; exact Or.inr (Or.inl hc))) (fun hc => ?_)
      have hv : (S 7 (S 1020 0)) = (3 : Int) ∨ (S 7 (S 1020 0)) = (4 : Int) ∨ (S 7 (S 1020 0)) = (5 : Int) ∨ (S 7 (S 1020 0)) = (6 : Int) ∨ (S 7 (S 1020 0)) = (7 : Int) ∨ (S 7 (S 1020 0)) = (8 : Int) ∨ (S 7 (S 1020 0)) = (9 : Int) ∨ (S 7 (S 1020 0)) = (10 : Int) ∨ (S 7 (S 1020 0)) = (11 : Int) ∨ (S 7 (S 1020 0)) = (12 : Int) ∨ (S 7 (S 1020 0)) = (13 : Int) ∨ (S 7 (S 1020 0)) = (14 : Int) ∨ (S 7 (S 1020 0)) = (15 : Int) ∨ (S 7 (S 1020 0)) = (16 : Int) ∨ (S 7 (S 1020 0)) = (17 : Int) ∨ (S 7 (S 1020 0)) = (18 : Int) ∨ (S 7 (S 1020 0)) = (19 : Int) ∨ (S 7 (S 1020 0)) = (20 : Int) ∨ (S 7 (S 1020 0)) = (21 : Int) ∨ (S 7 (S 1020 0)) = (22 : Int) ∨ (S 7 (S 1020 0)) = (23 : Int) ∨ (S 7 (S 1020 0)) = (24 : Int) ∨ (S 7 (S 1020 0)) = (25 : Int) ∨ (S 7 (S 1020 0)) = (26 : Int) ∨ (S 7 (S 1020 0)) = (27 : Int) ∨ (S 7 (S 1020 0)) = (28 : Int) ∨ (S 7 (S 1020 0)) = (29 : Int) ∨ (S 7 (S 1020 0)) = (30 : Int) ∨ (S 7 (S 1020 0)) = (31 : Int) ∨ (S 7 (S 1020 0)) = (32 : Int) ∨ (S 7 (S 1020 0)) = (33 : Int) ∨ (S 7 (S 1020 0)) = (34 : Int) ∨ (S 7 (S 1020 0)) = (35 : Int) ∨ (S 7 (S 1020 0)) = (36 : Int) ∨ (S 7 (S 1020 0)) = (37 : Int) ∨ (S 7 (S 1020 0)) = (38 : Int) ∨ (S 7 (S 1020 0)) = (39 : Int) ∨ (S 7 (S 1020 0)) = (40 : Int) ∨ (S 7 (S 1020 0)) = (41 : Int) ∨ (S 7 (S 1020 0)) = (42 : Int) := by omega
      rcases hv with hv | hv | hv | hv | hv | hv | hv | hv | hv | hv | hv | hv | hv | hv | hv | hv | hv | hv | hv | hv | hv | hv | hv | hv | hv | hv | hv | hv | hv | hv | hv | hv | hv | hv | hv | hv | hv | hv | hv | hv
      · exact ⟨191, 267, by rw [hv]; rfl, rfl, J8 (by omega)⟩
      · exact ⟨186, 262, by rw [hv]; rfl, rfl, J6 (by omega)⟩
      · exact ⟨186, 262, by rw [hv]; rfl, rfl, J6 (by omega)⟩
      · exact ⟨188, 264, by rw [hv]; rfl, rfl, J7 (by omega)⟩
      · exact ⟨188, 264, by rw [hv]; rfl, rfl, J7 (by omega)⟩
      · exact ⟨186, 262, by rw [hv]; rfl, rfl, J6 (by omega)⟩
      · exact ⟨186, 262, by rw [hv]; rfl, rfl, J6 (by omega)⟩
      · exact ⟨200, 276, by rw [hv]; rfl, rfl, J0 (by omega)⟩
      · exact ⟨200, 276, by rw [hv]; rfl, rfl, J0 (by omega)⟩
      · exact ⟨191, 267, by rw [hv]; rfl, rfl, J8 (by omega)⟩
      · exact ⟨191, 267, by rw [hv]; rfl, rfl, J8 (by omega)⟩
      · exact ⟨178, 254, by rw [hv]; rfl, rfl, J2 (by omega)⟩
      · exact ⟨176, 252, by rw [hv]; rfl, rfl, J1 (by omega)⟩
      · exact ⟨200, 276, by rw [hv]; rfl, rfl, J0 (by omega)⟩
      · exact ⟨200, 276, by rw [hv]; rfl, rfl, J0 (by omega)⟩
      · exact ⟨200, 276, by rw [hv]; rfl, rfl, J0 (by omega)⟩
      · exact ⟨200, 276, by rw [hv]; rfl, rfl, J0 (by omega)⟩
      · exact ⟨200, 276, by rw [hv]; rfl, rfl, J0 (by omega)⟩
      · exact ⟨200, 276, by rw [hv]; rfl, rfl, J0 (by omega)⟩
      · exact ⟨200, 276, by rw [hv]; rfl, rfl, J0 (by omega)⟩
      · exact ⟨200, 276, by rw [hv]; rfl, rfl, J0 (by omega)⟩
      · exact ⟨200, 276, by rw [hv]; rfl, rfl, J0 (by omega)⟩
      · exact ⟨200, 276, by rw [hv]; rfl, rfl, J0 (by omega)⟩
      · exact ⟨200, 276, by rw [hv]; rfl, rfl, J0 (by omega)⟩
      · exact ⟨200, 276, by rw [hv]; rfl, rfl, J0 (by omega)⟩
      · exact ⟨200, 276, by rw [hv]; rfl, rfl, J0 (by omega)⟩
      · exact ⟨200, 276, by rw [hv]; rfl, rfl, J0 (by omega)⟩
      · exact ⟨200, 276, by rw [hv]; rfl, rfl, J0 (by omega)⟩
      · exact ⟨200, 276, by rw [hv]; rfl, rfl, J0 (by omega)⟩
      · exact ⟨200, 276, by rw [hv]; rfl, rfl, J0 (by omega)⟩
      · exact ⟨188, 264, by rw [hv]; rfl, rfl, J7 (by omega)⟩
      · exact ⟨188, 264, by rw [hv]; rfl, rfl, J7 (by omega)⟩
      · exact ⟨194, 270, by rw [hv]; rfl, rfl, J9 (by omega)⟩
      · exact ⟨194, 270, by rw [hv]; rfl, rfl, J9 (by omega)⟩
      · exact ⟨197, 273, by rw [hv]; rfl, rfl, J10 (by omega)⟩
      · exact ⟨197, 273, by rw [hv]; rfl, rfl, J10 (by omega)⟩
      · exact ⟨197, 273, by rw [hv]; rfl, rfl, J10 (by omega)⟩
      · exact ⟨184, 260, by rw [hv]; rfl, rfl, J5 (by omega)⟩
      · exact ⟨180, 256, by rw [hv]; rfl, rfl, J3 (by omega)⟩
      · exact ⟨182, 258, by rw [hv]; rfl, rfl, J4 (by omega)⟩
    · have h := h.2 (hc)
      refine sv_iconst (d := (-1 : Int)) hM dX12_bindsOf_65 rfl rfl ?_
      exact sv_iret hM dX12_bindsOf_66 rfl rfl ⟨(-1 : Int), rfl, (⟨by decide, by decide⟩ : sv_R (-1 : Int)), hok, sv_mod.rf, h⟩
  · have h := h.2 (hc)
    refine sv_aload_n hM dX12_bindsOf_13 rfl rfl ?_
    refine sv_getA hM dX12_bindsOf_14 sm_fl_30 (sm_a0 _) sm_k14 rfl ?_
    refine sv_aload_n hM dX12_bindsOf_17 rfl rfl ?_
    refine sv_getI hM dX12_bindsOf_18 sm_fl_392 (sm_a0 _) sm_k20 rfl (x := (S 1020 0)) rfl ?_
    have k5 : sv_R (S 7 (S 1020 0)) := sm_okI hok sm_r7 (S 1020 0)
    have h := h k5
    refine sv_iald hM dX12_bindsOf_21 (sm_a7 _) (by decide) o2.1 o2.2 rfl (x := (S 7 (S 1020 0))) rfl ?_
    refine sv_bipush (d := (14 : Int)) hM dX12_bindsOf_22 rfl rfl ?_
    refine sv_icmp_eq hM dX12_bindsOf_24 k5 (⟨by decide, by decide⟩ : sv_R (14 : Int)) (t := 45) rfl rfl (fun hc => ?_) (fun hc => ?_)
    · have h := h.1 (hc)
      refine sv_bipush (d := (6 : Int)) hM dX12_bindsOf_45 rfl rfl ?_
      refine sv_goto hM dX12_bindsOf_47 (pc' := 51) rfl ?_
      exact sv_iret hM dX12_bindsOf_51 rfl rfl ⟨(6 : Int), rfl, (⟨by decide, by decide⟩ : sv_R (6 : Int)), hok, sv_mod.rf, h⟩
    · have h := h.2 (hc)
      refine sv_aload_n hM dX12_bindsOf_27 rfl rfl ?_
      refine sv_getA hM dX12_bindsOf_28 sm_fl_30 (sm_a0 _) sm_k14 rfl ?_
      refine sv_aload_n hM dX12_bindsOf_31 rfl rfl ?_
      refine sv_getI hM dX12_bindsOf_32 sm_fl_392 (sm_a0 _) sm_k20 rfl (x := (S 1020 0)) rfl ?_
      refine sv_iald hM dX12_bindsOf_35 (sm_a7 _) (by decide) o2.1 o2.2 rfl (x := (S 7 (S 1020 0))) rfl ?_
      refine sv_bipush (d := (13 : Int)) hM dX12_bindsOf_36 rfl rfl ?_
      refine sv_icmp_ne hM dX12_bindsOf_38 k5 (⟨by decide, by decide⟩ : sv_R (13 : Int)) (t := 50) rfl rfl (fun hc => ?_) (fun hc => ?_)
      · have h := h.1 (hc)
        refine sv_iconst (d := (-1 : Int)) hM dX12_bindsOf_50 rfl rfl ?_
        exact sv_iret hM dX12_bindsOf_51 rfl rfl ⟨(-1 : Int), rfl, (⟨by decide, by decide⟩ : sv_R (-1 : Int)), hok, sv_mod.rf, h⟩
      · have h := h.2 (hc)
        refine sv_iload_n hM dX12_bindsOf_41 rfl rfl ?_
        refine sv_cond_eq hM dX12_bindsOf_42 (sv_R01 hp1) (t := 50) rfl rfl (fun hc => ?_) (fun hc => ?_)
        · have h := h.1 (hc)
          refine sv_iconst (d := (-1 : Int)) hM dX12_bindsOf_50 rfl rfl ?_
          exact sv_iret hM dX12_bindsOf_51 rfl rfl ⟨(-1 : Int), rfl, (⟨by decide, by decide⟩ : sv_R (-1 : Int)), hok, sv_mod.rf, h⟩
        · have h := h.2 (hc)
          refine sv_bipush (d := (6 : Int)) hM dX12_bindsOf_45 rfl rfl ?_
          refine sv_goto hM dX12_bindsOf_47 (pc' := 51) rfl ?_
          exact sv_iret hM dX12_bindsOf_51 rfl rfl ⟨(6 : Int), rfl, (⟨by decide, by decide⟩ : sv_R (6 : Int)), hok, sv_mod.rf, h⟩
def q_binaryOf (S : sv_S) : Option Value → sv_S → Prop := fun v S' => ∃ r : Int, v = some (sv_I r) ∧ sv_R r ∧ sm_ok S' ∧ sv_mod [] S S' ∧ (0 ≤ r ∧ r ≤ 20)
set_option maxHeartbeats 2000000 in
theorem f_binaryOf : ∀ (S : sv_S), sm_ok S → (0 ≤ (S 1020 0) ∧ (S 1020 0) ≤ 4000) → (sv_R (S 1020 0) → (0 ≤ (S 1020 0) ∧ (S 1020 0) < 4002) ∧ (sv_R (S 6 (S 1020 0)) → (((¬ (S 6 (S 1020 0)) = (2 : Int)) → (sv_R (S 7 (S 1020 0)) → ((((S 7 (S 1020 0)) < (3 : Int) ∨ (42 : Int) < (S 7 (S 1020 0)) ∨ (S 7 (S 1020 0)) = (7 : Int) ∨ (S 7 (S 1020 0)) = (10 : Int) ∨ (S 7 (S 1020 0)) = (11 : Int) ∨ (S 7 (S 1020 0)) = (14 : Int) ∨ (S 7 (S 1020 0)) = (15 : Int) ∨ (S 7 (S 1020 0)) = (16 : Int) ∨ (S 7 (S 1020 0)) = (17 : Int) ∨ (S 7 (S 1020 0)) = (18 : Int) ∨ (S 7 (S 1020 0)) = (19 : Int) ∨ (S 7 (S 1020 0)) = (20 : Int) ∨ (S 7 (S 1020 0)) = (21 : Int) ∨ (S 7 (S 1020 0)) = (22 : Int) ∨ (S 7 (S 1020 0)) = (23 : Int) ∨ (S 7 (S 1020 0)) = (24 : Int) ∨ (S 7 (S 1020 0)) = (25 : Int) ∨ (S 7 (S 1020 0)) = (26 : Int) ∨ (S 7 (S 1020 0)) = (27 : Int) ∨ (S 7 (S 1020 0)) = (28 : Int) ∨ (S 7 (S 1020 0)) = (29 : Int) ∨ (S 7 (S 1020 0)) = (30 : Int) ∨ (S 7 (S 1020 0)) = (31 : Int) ∨ (S 7 (S 1020 0)) = (32 : Int)) → (0 ≤ (18 : Int) ∧ (18 : Int) ≤ 20)) ∧ (((S 7 (S 1020 0)) = (35 : Int)) → (0 ≤ (0 : Int) ∧ (0 : Int) ≤ 20)) ∧ (((S 7 (S 1020 0)) = (36 : Int)) → (0 ≤ (1 : Int) ∧ (1 : Int) ≤ 20)) ∧ (((S 7 (S 1020 0)) = (37 : Int)) → (0 ≤ (2 : Int) ∧ (2 : Int) ≤ 20)) ∧ (((S 7 (S 1020 0)) = (38 : Int)) → (0 ≤ (3 : Int) ∧ (3 : Int) ≤ 20)) ∧ (((S 7 (S 1020 0)) = (39 : Int)) → (0 ≤ (4 : Int) ∧ (4 : Int) ≤ 20)) ∧ (((S 7 (S 1020 0)) = (12 : Int)) → (0 ≤ (5 : Int) ∧ (5 : Int) ≤ 20)) ∧ (((S 7 (S 1020 0)) = (13 : Int)) → (0 ≤ (6 : Int) ∧ (6 : Int) ≤ 20)) ∧ (((S 7 (S 1020 0)) = (3 : Int)) → (0 ≤ (7 : Int) ∧ (7 : Int) ≤ 20)) ∧ (((S 7 (S 1020 0)) = (40 : Int)) → (0 ≤ (8 : Int) ∧ (8 : Int) ≤ 20)) ∧ (((S 7 (S 1020 0)) = (41 : Int)) → (0 ≤ (9 : Int) ∧ (9 : Int) ≤ 20)) ∧ (((S 7 (S 1020 0)) = (42 : Int)) → (0 ≤ (10 : Int) ∧ (10 : Int) ≤ 20)) ∧ (((S 7 (S 1020 0)) = (8 : Int)) → (0 ≤ (11 : Int) ∧ (11 : Int) ≤ 20)) ∧ (((S 7 (S 1020 0)) = (9 : Int)) → (0 ≤ (12 : Int) ∧ (12 : Int) ≤ 20)) ∧ (((S 7 (S 1020 0)) = (4 : Int)) → (0 ≤ (13 : Int) ∧ (13 : Int) ≤ 20)) ∧ (((S 7 (S 1020 0)) = (5 : Int)) → (0 ≤ (14 : Int) ∧ (14 : Int) ≤ 20)) ∧ (((S 7 (S 1020 0)) = (33 : Int)) → (0 ≤ (15 : Int) ∧ (15 : Int) ≤ 20)) ∧ (((S 7 (S 1020 0)) = (34 : Int)) → (0 ≤ (16 : Int) ∧ (16 : Int) ≤ 20)) ∧ (((S 7 (S 1020 0)) = (6 : Int)) → (0 ≤ (17 : Int) ∧ (17 : Int) ≤ 20))))) ∧ ((¬ (¬ (S 6 (S 1020 0)) = (2 : Int))) → (sv_R (S 7 (S 1020 0)) → (((¬ (S 7 (S 1020 0)) = (13 : Int)) → (0 ≤ (20 : Int) ∧ (20 : Int) ≤ 20)) ∧ ((¬ (¬ (S 7 (S 1020 0)) = (13 : Int))) → (0 ≤ (19 : Int) ∧ (19 : Int) ≤ 20)))))))) := by
  intro S hok hpre
  repeat' (first | (with_reducible refine And.intro ?_ ?_) | (with_reducible intro _))
  all_goals first | assumption | omega | grind
set_option maxRecDepth 8000 in
set_option maxHeartbeats 2000000 in
theorem t_binaryOf : ∀ (S : sv_S), sm_ok S → (0 ≤ (S 1020 0) ∧ (S 1020 0) ≤ 4000) → sv_T sm_XS sm_cs sm_L sm_sh 0 (q_binaryOf S) 50 0 (lv_args 0 [.ref 0]) [] S := by
  intro S hok hpre
  have h := f_binaryOf S hok hpre
  have hM := sm_h50
  show sv_T sm_XS sm_cs sm_L sm_sh 0 (q_binaryOf S) 50 0 [(0, .ref 0)] [] S
  refine sv_aload_n hM dX12_binaryOf_0 rfl rfl ?_
  refine sv_getA hM dX12_binaryOf_1 sm_fl_27 (sm_a0 _) sm_k13 rfl ?_
  refine sv_aload_n hM dX12_binaryOf_4 rfl rfl ?_
  have k1 : sv_R (S 1020 0) := sm_okI hok sm_r1020 0
  have h := h k1
  refine sv_getI hM dX12_binaryOf_5 sm_fl_392 (sm_a0 _) sm_k20 rfl (x := (S 1020 0)) rfl ?_
  obtain ⟨o2, h⟩ := h
  have k3 : sv_R (S 6 (S 1020 0)) := sm_okI hok sm_r6 (S 1020 0)
  have h := h k3
  refine sv_iald hM dX12_binaryOf_8 (sm_a6 _) (by decide) o2.1 o2.2 rfl (x := (S 6 (S 1020 0))) rfl ?_
  refine sv_iconst (d := (2 : Int)) hM dX12_binaryOf_9 rfl rfl ?_
  refine sv_icmp_ne hM dX12_binaryOf_10 k3 (⟨by decide, by decide⟩ : sv_R (2 : Int)) (t := 35) rfl rfl (fun hc => ?_) (fun hc => ?_)
  · have h := h.1 (hc)
    refine sv_aload_n hM dX12_binaryOf_35 rfl rfl ?_
    refine sv_getA hM dX12_binaryOf_36 sm_fl_30 (sm_a0 _) sm_k14 rfl ?_
    refine sv_aload_n hM dX12_binaryOf_39 rfl rfl ?_
    refine sv_getI hM dX12_binaryOf_40 sm_fl_392 (sm_a0 _) sm_k20 rfl (x := (S 1020 0)) rfl ?_
    have k4 : sv_R (S 7 (S 1020 0)) := sm_okI hok sm_r7 (S 1020 0)
    have h := h k4
    refine sv_iald hM dX12_binaryOf_43 (sm_a7 _) (by decide) o2.1 o2.2 rfl (x := (S 7 (S 1020 0))) rfl ?_
    have hS := h
    have J0 : ((S 7 (S 1020 0)) < (3 : Int) ∨ (42 : Int) < (S 7 (S 1020 0)) ∨ (S 7 (S 1020 0)) = (7 : Int) ∨ (S 7 (S 1020 0)) = (10 : Int) ∨ (S 7 (S 1020 0)) = (11 : Int) ∨ (S 7 (S 1020 0)) = (14 : Int) ∨ (S 7 (S 1020 0)) = (15 : Int) ∨ (S 7 (S 1020 0)) = (16 : Int) ∨ (S 7 (S 1020 0)) = (17 : Int) ∨ (S 7 (S 1020 0)) = (18 : Int) ∨ (S 7 (S 1020 0)) = (19 : Int) ∨ (S 7 (S 1020 0)) = (20 : Int) ∨ (S 7 (S 1020 0)) = (21 : Int) ∨ (S 7 (S 1020 0)) = (22 : Int) ∨ (S 7 (S 1020 0)) = (23 : Int) ∨ (S 7 (S 1020 0)) = (24 : Int) ∨ (S 7 (S 1020 0)) = (25 : Int) ∨ (S 7 (S 1020 0)) = (26 : Int) ∨ (S 7 (S 1020 0)) = (27 : Int) ∨ (S 7 (S 1020 0)) = (28 : Int) ∨ (S 7 (S 1020 0)) = (29 : Int) ∨ (S 7 (S 1020 0)) = (30 : Int) ∨ (S 7 (S 1020 0)) = (31 : Int) ∨ (S 7 (S 1020 0)) = (32 : Int)) → sv_T sm_XS sm_cs sm_L sm_sh 0 (q_binaryOf S) 50 268 [(0, .ref 0)] [] S := by
      intro hc
      have h := hS.1 hc
      refine sv_bipush (d := (18 : Int)) hM dX12_binaryOf_268 rfl rfl ?_
      exact sv_iret hM dX12_binaryOf_270 rfl rfl ⟨(18 : Int), rfl, (⟨by decide, by decide⟩ : sv_R (18 : Int)), hok, sv_mod.rf, h⟩
    have J1 : ((S 7 (S 1020 0)) = (35 : Int)) → sv_T sm_XS sm_cs sm_L sm_sh 0 (q_binaryOf S) 50 220 [(0, .ref 0)] [] S := by
      intro hc
      have h := hS.2.1 hc
      refine sv_iconst (d := (0 : Int)) hM dX12_binaryOf_220 rfl rfl ?_
      exact sv_iret hM dX12_binaryOf_221 rfl rfl ⟨(0 : Int), rfl, (⟨by decide, by decide⟩ : sv_R (0 : Int)), hok, sv_mod.rf, h⟩
    have J2 : ((S 7 (S 1020 0)) = (36 : Int)) → sv_T sm_XS sm_cs sm_L sm_sh 0 (q_binaryOf S) 50 222 [(0, .ref 0)] [] S := by
      intro hc
      have h := hS.2.2.1 hc
      refine sv_iconst (d := (1 : Int)) hM dX12_binaryOf_222 rfl rfl ?_
      exact sv_iret hM dX12_binaryOf_223 rfl rfl ⟨(1 : Int), rfl, (⟨by decide, by decide⟩ : sv_R (1 : Int)), hok, sv_mod.rf, h⟩
    have J3 : ((S 7 (S 1020 0)) = (37 : Int)) → sv_T sm_XS sm_cs sm_L sm_sh 0 (q_binaryOf S) 50 224 [(0, .ref 0)] [] S := by
      intro hc
      have h := hS.2.2.2.1 hc
      refine sv_iconst (d := (2 : Int)) hM dX12_binaryOf_224 rfl rfl ?_
      exact sv_iret hM dX12_binaryOf_225 rfl rfl ⟨(2 : Int), rfl, (⟨by decide, by decide⟩ : sv_R (2 : Int)), hok, sv_mod.rf, h⟩
    have J4 : ((S 7 (S 1020 0)) = (38 : Int)) → sv_T sm_XS sm_cs sm_L sm_sh 0 (q_binaryOf S) 50 226 [(0, .ref 0)] [] S := by
      intro hc
      have h := hS.2.2.2.2.1 hc
      refine sv_iconst (d := (3 : Int)) hM dX12_binaryOf_226 rfl rfl ?_
      exact sv_iret hM dX12_binaryOf_227 rfl rfl ⟨(3 : Int), rfl, (⟨by decide, by decide⟩ : sv_R (3 : Int)), hok, sv_mod.rf, h⟩
    have J5 : ((S 7 (S 1020 0)) = (39 : Int)) → sv_T sm_XS sm_cs sm_L sm_sh 0 (q_binaryOf S) 50 228 [(0, .ref 0)] [] S := by
      intro hc
      have h := hS.2.2.2.2.2.1 hc
      refine sv_iconst (d := (4 : Int)) hM dX12_binaryOf_228 rfl rfl ?_
      exact sv_iret hM dX12_binaryOf_229 rfl rfl ⟨(4 : Int), rfl, (⟨by decide, by decide⟩ : sv_R (4 : Int)), hok, sv_mod.rf, h⟩
    have J6 : ((S 7 (S 1020 0)) = (12 : Int)) → sv_T sm_XS sm_cs sm_L sm_sh 0 (q_binaryOf S) 50 230 [(0, .ref 0)] [] S := by
      intro hc
      have h := hS.2.2.2.2.2.2.1 hc
      refine sv_iconst (d := (5 : Int)) hM dX12_binaryOf_230 rfl rfl ?_
      exact sv_iret hM dX12_binaryOf_231 rfl rfl ⟨(5 : Int), rfl, (⟨by decide, by decide⟩ : sv_R (5 : Int)), hok, sv_mod.rf, h⟩
    have J7 : ((S 7 (S 1020 0)) = (13 : Int)) → sv_T sm_XS sm_cs sm_L sm_sh 0 (q_binaryOf S) 50 232 [(0, .ref 0)] [] S := by
      intro hc
      have h := hS.2.2.2.2.2.2.2.1 hc
      refine sv_bipush (d := (6 : Int)) hM dX12_binaryOf_232 rfl rfl ?_
      exact sv_iret hM dX12_binaryOf_234 rfl rfl ⟨(6 : Int), rfl, (⟨by decide, by decide⟩ : sv_R (6 : Int)), hok, sv_mod.rf, h⟩
    have J8 : ((S 7 (S 1020 0)) = (3 : Int)) → sv_T sm_XS sm_cs sm_L sm_sh 0 (q_binaryOf S) 50 235 [(0, .ref 0)] [] S := by
      intro hc
      have h := hS.2.2.2.2.2.2.2.2.1 hc
      refine sv_bipush (d := (7 : Int)) hM dX12_binaryOf_235 rfl rfl ?_
      exact sv_iret hM dX12_binaryOf_237 rfl rfl ⟨(7 : Int), rfl, (⟨by decide, by decide⟩ : sv_R (7 : Int)), hok, sv_mod.rf, h⟩
    have J9 : ((S 7 (S 1020 0)) = (40 : Int)) → sv_T sm_XS sm_cs sm_L sm_sh 0 (q_binaryOf S) 50 238 [(0, .ref 0)] [] S := by
      intro hc
      have h := hS.2.2.2.2.2.2.2.2.2.1 hc
      refine sv_bipush (d := (8 : Int)) hM dX12_binaryOf_238 rfl rfl ?_
      exact sv_iret hM dX12_binaryOf_240 rfl rfl ⟨(8 : Int), rfl, (⟨by decide, by decide⟩ : sv_R (8 : Int)), hok, sv_mod.rf, h⟩
    have J10 : ((S 7 (S 1020 0)) = (41 : Int)) → sv_T sm_XS sm_cs sm_L sm_sh 0 (q_binaryOf S) 50 241 [(0, .ref 0)] [] S := by
      intro hc
      have h := hS.2.2.2.2.2.2.2.2.2.2.1 hc
      refine sv_bipush (d := (9 : Int)) hM dX12_binaryOf_241 rfl rfl ?_
      exact sv_iret hM dX12_binaryOf_243 rfl rfl ⟨(9 : Int), rfl, (⟨by decide, by decide⟩ : sv_R (9 : Int)), hok, sv_mod.rf, h⟩
    have J11 : ((S 7 (S 1020 0)) = (42 : Int)) → sv_T sm_XS sm_cs sm_L sm_sh 0 (q_binaryOf S) 50 244 [(0, .ref 0)] [] S := by
      intro hc
      have h := hS.2.2.2.2.2.2.2.2.2.2.2.1 hc
      refine sv_bipush (d := (10 : Int)) hM dX12_binaryOf_244 rfl rfl ?_
      exact sv_iret hM dX12_binaryOf_246 rfl rfl ⟨(10 : Int), rfl, (⟨by decide, by decide⟩ : sv_R (10 : Int)), hok, sv_mod.rf, h⟩
    have J12 : ((S 7 (S 1020 0)) = (8 : Int)) → sv_T sm_XS sm_cs sm_L sm_sh 0 (q_binaryOf S) 50 247 [(0, .ref 0)] [] S := by
      intro hc
      have h := hS.2.2.2.2.2.2.2.2.2.2.2.2.1 hc
      refine sv_bipush (d := (11 : Int)) hM dX12_binaryOf_247 rfl rfl ?_
      exact sv_iret hM dX12_binaryOf_249 rfl rfl ⟨(11 : Int), rfl, (⟨by decide, by decide⟩ : sv_R (11 : Int)), hok, sv_mod.rf, h⟩
    have J13 : ((S 7 (S 1020 0)) = (9 : Int)) → sv_T sm_XS sm_cs sm_L sm_sh 0 (q_binaryOf S) 50 250 [(0, .ref 0)] [] S := by
      intro hc
      have h := hS.2.2.2.2.2.2.2.2.2.2.2.2.2.1 hc
      refine sv_bipush (d := (12 : Int)) hM dX12_binaryOf_250 rfl rfl ?_
      exact sv_iret hM dX12_binaryOf_252 rfl rfl ⟨(12 : Int), rfl, (⟨by decide, by decide⟩ : sv_R (12 : Int)), hok, sv_mod.rf, h⟩
    have J14 : ((S 7 (S 1020 0)) = (4 : Int)) → sv_T sm_XS sm_cs sm_L sm_sh 0 (q_binaryOf S) 50 253 [(0, .ref 0)] [] S := by
      intro hc
      have h := hS.2.2.2.2.2.2.2.2.2.2.2.2.2.2.1 hc
      refine sv_bipush (d := (13 : Int)) hM dX12_binaryOf_253 rfl rfl ?_
      exact sv_iret hM dX12_binaryOf_255 rfl rfl ⟨(13 : Int), rfl, (⟨by decide, by decide⟩ : sv_R (13 : Int)), hok, sv_mod.rf, h⟩
    have J15 : ((S 7 (S 1020 0)) = (5 : Int)) → sv_T sm_XS sm_cs sm_L sm_sh 0 (q_binaryOf S) 50 256 [(0, .ref 0)] [] S := by
      intro hc
      have h := hS.2.2.2.2.2.2.2.2.2.2.2.2.2.2.2.1 hc
      refine sv_bipush (d := (14 : Int)) hM dX12_binaryOf_256 rfl rfl ?_
      exact sv_iret hM dX12_binaryOf_258 rfl rfl ⟨(14 : Int), rfl, (⟨by decide, by decide⟩ : sv_R (14 : Int)), hok, sv_mod.rf, h⟩
    have J16 : ((S 7 (S 1020 0)) = (33 : Int)) → sv_T sm_XS sm_cs sm_L sm_sh 0 (q_binaryOf S) 50 259 [(0, .ref 0)] [] S := by
      intro hc
      have h := hS.2.2.2.2.2.2.2.2.2.2.2.2.2.2.2.2.1 hc
      refine sv_bipush (d := (15 : Int)) hM dX12_binaryOf_259 rfl rfl ?_
      exact sv_iret hM dX12_binaryOf_261 rfl rfl ⟨(15 : Int), rfl, (⟨by decide, by decide⟩ : sv_R (15 : Int)), hok, sv_mod.rf, h⟩
    have J17 : ((S 7 (S 1020 0)) = (34 : Int)) → sv_T sm_XS sm_cs sm_L sm_sh 0 (q_binaryOf S) 50 262 [(0, .ref 0)] [] S := by
      intro hc
      have h := hS.2.2.2.2.2.2.2.2.2.2.2.2.2.2.2.2.2.1 hc
      refine sv_bipush (d := (16 : Int)) hM dX12_binaryOf_262 rfl rfl ?_
      exact sv_iret hM dX12_binaryOf_264 rfl rfl ⟨(16 : Int), rfl, (⟨by decide, by decide⟩ : sv_R (16 : Int)), hok, sv_mod.rf, h⟩
    have J18 : ((S 7 (S 1020 0)) = (6 : Int)) → sv_T sm_XS sm_cs sm_L sm_sh 0 (q_binaryOf S) 50 265 [(0, .ref 0)] [] S := by
      intro hc
      have h := hS.2.2.2.2.2.2.2.2.2.2.2.2.2.2.2.2.2.2 hc
      refine sv_bipush (d := (17 : Int)) hM dX12_binaryOf_265 rfl rfl ?_
      exact sv_iret hM dX12_binaryOf_267 rfl rfl ⟨(17 : Int), rfl, (⟨by decide, by decide⟩ : sv_R (17 : Int)), hok, sv_mod.rf, h⟩
    refine sv_tsw hM dX12_binaryOf_44 k4 (t := 268) rfl (fun hc => J0 (by rcases hc with hc | hc; exact Or.inl hc; exact Or.inr (Or.inl hc))) (fun hc => ?_)
    have hv : (S 7 (S 1020 0)) = (3 : Int) ∨ (S 7 (S 1020 0)) = (4 : Int) ∨ (S 7 (S 1020 0)) = (5 : Int) ∨ (S 7 (S 1020 0)) = (6 : Int) ∨ (S 7 (S 1020 0)) = (7 : Int) ∨ (S 7 (S 1020 0)) = (8 : Int) ∨ (S 7 (S 1020 0)) = (9 : Int) ∨ (S 7 (S 1020 0)) = (10 : Int) ∨ (S 7 (S 1020 0)) = (11 : Int) ∨ (S 7 (S 1020 0)) = (12 : Int) ∨ (S 7 (S 1020 0)) = (13 : Int) ∨ (S 7 (S 1020 0)) = (14 : Int) ∨ (S 7 (S 1020 0)) = (15 : Int) ∨ (S 7 (S 1020 0)) = (16 : Int) ∨ (S 7 (S 1020 0)) = (17 : Int) ∨ (S 7 (S 1020 0)) = (18 : Int) ∨ (S 7 (S 1020 0)) = (19 : Int) ∨ (S 7 (S 1020 0)) = (20 : Int) ∨ (S 7 (S 1020 0)) = (21 : Int) ∨ (S 7 (S 1020 0)) = (22 : Int) ∨ (S 7 (S 1020 0)) = (23 : Int) ∨ (S 7 (S 1020 0)) = (24 : Int) ∨ (S 7 (S 1020 0)) = (25 : Int) ∨ (S 7 (S 1020 0)) = (26 : Int) ∨ (S 7 (S 1020 0)) = (27 : Int) ∨ (S 7 (S 1020 0)) = (28 : Int) ∨ (S 7 (S 1020 0)) = (29 : Int) ∨ (S 7 (S 1020 0)) = (30 : Int) ∨ (S 7 (S 1020 0)) = (31 : Int) ∨ (S 7 (S 1020 0)) = (32 : Int) ∨ (S 7 (S 1020 0)) = (33 : Int) ∨ (S 7 (S 1020 0)) = (34 : Int) ∨ (S 7 (S 1020 0)) = (35 : Int) ∨ (S 7 (S 1020 0)) = (36 : Int) ∨ (S 7 (S 1020 0)) = (37 : Int) ∨ (S 7 (S 1020 0)) = (38 : Int) ∨ (S 7 (S 1020 0)) = (39 : Int) ∨ (S 7 (S 1020 0)) = (40 : Int) ∨ (S 7 (S 1020 0)) = (41 : Int) ∨ (S 7 (S 1020 0)) = (42 : Int) := by omega
    rcases hv with hv | hv | hv | hv | hv | hv | hv | hv | hv | hv | hv | hv | hv | hv | hv | hv | hv | hv | hv | hv | hv | hv | hv | hv | hv | hv | hv | hv | hv | hv | hv | hv | hv | hv | hv | hv | hv | hv | hv | hv
    · exact ⟨191, 235, by rw [hv]; rfl, rfl, J8 (by omega)⟩
    · exact ⟨209, 253, by rw [hv]; rfl, rfl, J14 (by omega)⟩
    · exact ⟨212, 256, by rw [hv]; rfl, rfl, J15 (by omega)⟩
    · exact ⟨221, 265, by rw [hv]; rfl, rfl, J18 (by omega)⟩
    · exact ⟨224, 268, by rw [hv]; rfl, rfl, J0 (by omega)⟩
    · exact ⟨203, 247, by rw [hv]; rfl, rfl, J12 (by omega)⟩
    · exact ⟨206, 250, by rw [hv]; rfl, rfl, J13 (by omega)⟩
    · exact ⟨224, 268, by rw [hv]; rfl, rfl, J0 (by omega)⟩
    · exact ⟨224, 268, by rw [hv]; rfl, rfl, J0 (by omega)⟩
    · exact ⟨186, 230, by rw [hv]; rfl, rfl, J6 (by omega)⟩
    · exact ⟨188, 232, by rw [hv]; rfl, rfl, J7 (by omega)⟩
    · exact ⟨224, 268, by rw [hv]; rfl, rfl, J0 (by omega)⟩
    · exact ⟨224, 268, by rw [hv]; rfl, rfl, J0 (by omega)⟩
    · exact ⟨224, 268, by rw [hv]; rfl, rfl, J0 (by omega)⟩
    · exact ⟨224, 268, by rw [hv]; rfl, rfl, J0 (by omega)⟩
    · exact ⟨224, 268, by rw [hv]; rfl, rfl, J0 (by omega)⟩
    · exact ⟨224, 268, by rw [hv]; rfl, rfl, J0 (by omega)⟩
    · exact ⟨224, 268, by rw [hv]; rfl, rfl, J0 (by omega)⟩
    · exact ⟨224, 268, by rw [hv]; rfl, rfl, J0 (by omega)⟩
    · exact ⟨224, 268, by rw [hv]; rfl, rfl, J0 (by omega)⟩
    · exact ⟨224, 268, by rw [hv]; rfl, rfl, J0 (by omega)⟩
    · exact ⟨224, 268, by rw [hv]; rfl, rfl, J0 (by omega)⟩
    · exact ⟨224, 268, by rw [hv]; rfl, rfl, J0 (by omega)⟩
    · exact ⟨224, 268, by rw [hv]; rfl, rfl, J0 (by omega)⟩
    · exact ⟨224, 268, by rw [hv]; rfl, rfl, J0 (by omega)⟩
    · exact ⟨224, 268, by rw [hv]; rfl, rfl, J0 (by omega)⟩
    · exact ⟨224, 268, by rw [hv]; rfl, rfl, J0 (by omega)⟩
    · exact ⟨224, 268, by rw [hv]; rfl, rfl, J0 (by omega)⟩
    · exact ⟨224, 268, by rw [hv]; rfl, rfl, J0 (by omega)⟩
    · exact ⟨224, 268, by rw [hv]; rfl, rfl, J0 (by omega)⟩
    · exact ⟨215, 259, by rw [hv]; rfl, rfl, J16 (by omega)⟩
    · exact ⟨218, 262, by rw [hv]; rfl, rfl, J17 (by omega)⟩
    · exact ⟨176, 220, by rw [hv]; rfl, rfl, J1 (by omega)⟩
    · exact ⟨178, 222, by rw [hv]; rfl, rfl, J2 (by omega)⟩
    · exact ⟨180, 224, by rw [hv]; rfl, rfl, J3 (by omega)⟩
    · exact ⟨182, 226, by rw [hv]; rfl, rfl, J4 (by omega)⟩
    · exact ⟨184, 228, by rw [hv]; rfl, rfl, J5 (by omega)⟩
    · exact ⟨194, 238, by rw [hv]; rfl, rfl, J9 (by omega)⟩
    · exact ⟨197, 241, by rw [hv]; rfl, rfl, J10 (by omega)⟩
    · exact ⟨200, 244, by rw [hv]; rfl, rfl, J11 (by omega)⟩
  · have h := h.2 (hc)
    refine sv_aload_n hM dX12_binaryOf_13 rfl rfl ?_
    refine sv_getA hM dX12_binaryOf_14 sm_fl_30 (sm_a0 _) sm_k14 rfl ?_
    refine sv_aload_n hM dX12_binaryOf_17 rfl rfl ?_
    refine sv_getI hM dX12_binaryOf_18 sm_fl_392 (sm_a0 _) sm_k20 rfl (x := (S 1020 0)) rfl ?_
    have k5 : sv_R (S 7 (S 1020 0)) := sm_okI hok sm_r7 (S 1020 0)
    have h := h k5
    refine sv_iald hM dX12_binaryOf_21 (sm_a7 _) (by decide) o2.1 o2.2 rfl (x := (S 7 (S 1020 0))) rfl ?_
    refine sv_bipush (d := (13 : Int)) hM dX12_binaryOf_22 rfl rfl ?_
    refine sv_icmp_ne hM dX12_binaryOf_24 k5 (⟨by decide, by decide⟩ : sv_R (13 : Int)) (t := 32) rfl rfl (fun hc => ?_) (fun hc => ?_)
    · have h := h.1 (hc)
      refine sv_bipush (d := (20 : Int)) hM dX12_binaryOf_32 rfl rfl ?_
      exact sv_iret hM dX12_binaryOf_34 rfl rfl ⟨(20 : Int), rfl, (⟨by decide, by decide⟩ : sv_R (20 : Int)), hok, sv_mod.rf, h⟩
    · have h := h.2 (hc)
      refine sv_bipush (d := (19 : Int)) hM dX12_binaryOf_27 rfl rfl ?_
      refine sv_goto hM dX12_binaryOf_29 (pc' := 34) rfl ?_
      exact sv_iret hM dX12_binaryOf_34 rfl rfl ⟨(19 : Int), rfl, (⟨by decide, by decide⟩ : sv_R (19 : Int)), hok, sv_mod.rf, h⟩
def q_endOfStatement (S : sv_S) : Option Value → sv_S → Prop := fun v S' => v = none ∧ sm_ok S' ∧ sv_mod [1020, 1021, 1022] S S' ∧ (0 ≤ (S' 1021 0) ∧ (0 < (S 1021 0) → 0 < (S' 1021 0)) ∧ (S 1020 0) ≤ (S' 1020 0) ∧ (S' 1020 0) < (S' 1012 0))
theorem la_endOfStatement_0 {x0 : Int} (h0 : 0 ≤ x0) (h1 : x0 ≤ 0) : x0 = 0 := by omega
theorem la_endOfStatement_1 {x0 x1 : Int} (h0 : x0 < x1) (h1 : x1 ≤ 4001) (h2 : 1 ≤ x0) : 0 ≤ x0 ∧ x0 ≤ 4000 := by omega
theorem la_endOfStatement_2 {x0 x1 x2 x3 x4 : Int} (h0 : x0 < x1) (h1 : 0 ≤ x2) (h2 : x2 ≤ 0) : x3 = 5 ∧ x4 = 25 → 0 ≤ x2 ∧ (0 < x2 → 0 < x2) ∧ x0 ≤ x0 ∧ x0 < x1 := by omega
theorem la_endOfStatement_3 {x0 x1 : Int} (h0 : x0 < x1) (h1 : x1 ≤ 4001) (h2 : 1 ≤ x0) : 0 ≤ x0 ∧ x0 < 4002 := by omega
theorem la_endOfStatement_4 {x0 x1 x2 x3 : Int} (h0 : x0 < x1) (h1 : 0 ≤ x2) : x3 = 0 → 0 ≤ x2 ∧ (0 < x2 → 0 < x2) ∧ x0 ≤ x0 ∧ x0 < x1 := by omega
theorem la_endOfStatement_5 {x0 x1 : Int} (h0 : x0 < x1) (h1 : x1 ≤ 4001) (h2 : 1 ≤ x0) : 0 ≤ x0 - 1 ∧ x0 - 1 < 4002 := by omega
theorem la_endOfStatement_6 {x0 x1 x2 x3 x4 : Int} (h0 : x0 < x1) (h1 : 0 ≤ x2) (h2 : x2 ≤ 0) : ¬ x3 = x4 → 0 ≤ x2 ∧ (0 < x2 → 0 < x2) ∧ x0 ≤ x0 ∧ x0 < x1 := by omega
theorem la_endOfStatement_7 {x0 x1 x2 : Int} (h0 : x0 < x1) (h1 : x1 ≤ 4001) (h2 : 0 ≤ x2) (h3 : 1 ≤ x0) : 0 ≤ x0 ∧ x0 ≤ 4000 ∧ 0 ≤ x2 ∧ (1 : Int) ≤ 2 := by omega
theorem la_endOfStatement_8 {x0 : Int} (h0 : x0 ≤ 0) : ¬ 0 < x0 := by omega
theorem la_endOfStatement_9 {x0 : Int} (h0 : 0 < x0) : 0 ≤ x0 := by omega
theorem la_endOfStatement_10 {x0 x1 : Int} (h0 : x0 ≤ 0) : 0 < x0 → 0 < x1 := by omega
theorem la_endOfStatement_11 {x0 : Int} : x0 ≤ x0 := by omega
theorem la_endOfStatement_12 {x0 x1 : Int} (h0 : x0 < x1) (h1 : x1 ≤ 4001) (h2 : 1 ≤ x0) : sv_R (x0 + 1) := by omega
theorem la_endOfStatement_13 {x0 : Int} : 0 < x0 → 0 < x0 := by omega
theorem la_endOfStatement_14 {x0 : Int} : x0 ≤ x0 + 1 := by omega
theorem la_endOfStatement_15 {x0 : Int} (h0 : x0 = 5) : 1 ≤ x0 := by omega
theorem la_endOfStatement_16 {x0 : Int} (h0 : x0 = 5) : x0 ≤ 5 := by omega
theorem la_endOfStatement_17 {x0 : Int} (h0 : ¬ x0 ≤ 0) : ¬ x0 = 0 := by omega
theorem la_endOfStatement_18 {x0 : Int} (h0 : ¬ x0 ≤ 0) : 0 < x0 → 0 < x0 := by omega
set_option maxHeartbeats 2000000 in
theorem f_endOfStatement : ∀ (S : sv_S), sm_ok S → (0 ≤ (S 1020 0) ∧ (S 1020 0) < (S 1012 0) ∧ sm_TK (S 6) (S 8) (S 9) (S 10) (S 1012 0) ∧ 0 ≤ (S 1021 0) ∧ ((S 1021 0) = 0 → 1 ≤ (S 1020 0))) → (sv_R (S 1021 0) → ((((S 1021 0) ≤ (0 : Int)) → (0 ≤ (S 1020 0) ∧ (S 1020 0) ≤ 4000) ∧ (((¬ ((S 6 (S 1020 0)) = 5 ∧ (S 7 (S 1020 0)) = (31 : Int))) → ((((S 6 (S 1020 0)) = 5 ∧ (S 7 (S 1020 0)) = (25 : Int)) → (0 ≤ (S 1021 0) ∧ (0 < (S 1021 0) → 0 < (S 1021 0)) ∧ (S 1020 0) ≤ (S 1020 0) ∧ (S 1020 0) < (S 1012 0))) ∧ ((¬ ((S 6 (S 1020 0)) = 5 ∧ (S 7 (S 1020 0)) = (25 : Int))) → (sv_R (S 1020 0) → (0 ≤ (S 1020 0) ∧ (S 1020 0) < 4002) ∧ (sv_R (S 6 (S 1020 0)) → ((((S 6 (S 1020 0)) = (0 : Int)) → (0 ≤ (S 1021 0) ∧ (0 < (S 1021 0) → 0 < (S 1021 0)) ∧ (S 1020 0) ≤ (S 1020 0) ∧ (S 1020 0) < (S 1012 0))) ∧ ((¬ ((S 6 (S 1020 0)) = (0 : Int))) → (sv_R (S 10 (S 1020 0)) → (0 ≤ ((S 1020 0) - (1 : Int)) ∧ ((S 1020 0) - (1 : Int)) < 4002) ∧ (sv_R (S 10 ((S 1020 0) - (1 : Int))) → (((¬ (S 10 (S 1020 0)) = (S 10 ((S 1020 0) - (1 : Int)))) → (0 ≤ (S 1021 0) ∧ (0 < (S 1021 0) → 0 < (S 1021 0)) ∧ (S 1020 0) ≤ (S 1020 0) ∧ (S 1020 0) < (S 1012 0))) ∧ ((¬ (¬ (S 10 (S 1020 0)) = (S 10 ((S 1020 0) - (1 : Int))))) → (0 ≤ (S 1020 0) ∧ (S 1020 0) ≤ 4000 ∧ 0 ≤ (S 1021 0) ∧ 1 ≤ (2 : Int)) ∧ (∀ r14 : Int, sv_R r14 → ∀ g10 : sv_S, (r14 = 0 ∧ 0 < (g10 1021 0) ∧ (0 < (S 1021 0) → (g10 1021 0) = (S 1021 0))) → (0 ≤ (g10 1021 0) ∧ (0 < (S 1021 0) → 0 < (g10 1021 0)) ∧ (S 1020 0) ≤ (S 1020 0) ∧ (S 1020 0) < (S 1012 0)))))))))))))) ∧ (((S 6 (S 1020 0)) = 5 ∧ (S 7 (S 1020 0)) = (31 : Int)) → (sv_R (S 1020 0) → (sv_R ((S 1020 0) + (1 : Int))) ∧ (0 ≤ (S 1021 0) ∧ (0 < (S 1021 0) → 0 < (S 1021 0)) ∧ (S 1020 0) ≤ ((S 1020 0) + (1 : Int)) ∧ ((S 1020 0) + (1 : Int)) < (S 1012 0)))))) ∧ ((¬ ((S 1021 0) ≤ (0 : Int))) → (0 ≤ (S 1021 0) ∧ (0 < (S 1021 0) → 0 < (S 1021 0)) ∧ (S 1020 0) ≤ (S 1020 0) ∧ (S 1020 0) < (S 1012 0))))) := by
  intro S
  intro h1_
  rintro ⟨h2_, ⟨h3_, ⟨h4_, ⟨h5_, h6_⟩⟩⟩⟩
  intro h7_
  refine ⟨?_, ?_⟩
  · skip
    intro h8_
    have h9_ := (h6_ (la_endOfStatement_0 h5_ h8_))
    refine ⟨(la_endOfStatement_1 h3_ (sm_TK_t h4_).2 h9_), ?_⟩
    refine ⟨?_, ?_⟩
    · skip
      intro h10_
      refine ⟨(la_endOfStatement_2 h3_ h5_ h8_), ?_⟩
      intro h11_
      intro h12_
      refine ⟨(la_endOfStatement_3 h3_ (sm_TK_t h4_).2 h9_), ?_⟩
      intro h13_
      refine ⟨(la_endOfStatement_4 h3_ h5_), ?_⟩
      intro h14_
      intro h15_
      refine ⟨(la_endOfStatement_5 h3_ (sm_TK_t h4_).2 h9_), ?_⟩
      intro h16_
      refine ⟨(la_endOfStatement_6 h3_ h5_ h8_), ?_⟩
      intro h17_
      refine ⟨(la_endOfStatement_7 h3_ (sm_TK_t h4_).2 h5_ h9_), ?_⟩
      intro r14
      intro h18_
      intro g10
      rintro ⟨h19_, ⟨h20_, h21_⟩⟩
      refine ⟨(la_endOfStatement_9 h20_), ?_⟩
      refine ⟨(la_endOfStatement_10 h8_), ?_⟩
      refine ⟨la_endOfStatement_11, ?_⟩
      exact h3_
    rintro ⟨h22_, h23_⟩
    intro h24_
    refine ⟨(la_endOfStatement_12 h3_ (sm_TK_t h4_).2 h9_), ?_⟩
    refine ⟨h5_, ?_⟩
    refine ⟨la_endOfStatement_13, ?_⟩
    refine ⟨la_endOfStatement_14, ?_⟩
    have h25_ := ((sm_TK_go h4_ (S 1020 0) h2_ h3_) (la_endOfStatement_15 h22_))
    have h26_ := (h25_ (la_endOfStatement_16 h22_))
    exact h26_
  intro h27_
  refine ⟨h5_, ?_⟩
  refine ⟨(la_endOfStatement_18 h27_), ?_⟩
  refine ⟨la_endOfStatement_11, ?_⟩
  exact h3_
set_option maxRecDepth 8000 in
set_option maxHeartbeats 2000000 in
theorem t_endOfStatement : ∀ (S : sv_S), sm_ok S → (0 ≤ (S 1020 0) ∧ (S 1020 0) < (S 1012 0) ∧ sm_TK (S 6) (S 8) (S 9) (S 10) (S 1012 0) ∧ 0 ≤ (S 1021 0) ∧ ((S 1021 0) = 0 → 1 ≤ (S 1020 0))) → sv_T sm_XS sm_cs sm_L sm_sh 1 (q_endOfStatement S) 66 0 (lv_args 0 [.ref 0]) [] S := by
  intro S hok hpre
  have h := f_endOfStatement S hok hpre
  have hM := sm_h66
  show sv_T sm_XS sm_cs sm_L sm_sh 1 (q_endOfStatement S) 66 0 [(0, .ref 0)] [] S
  refine sv_aload_n hM dX12_endOfStatement_0 rfl rfl ?_
  have k1 : sv_R (S 1021 0) := sm_okI hok sm_r1021 0
  have h := h k1
  refine sv_getI hM dX12_endOfStatement_1 sm_fl_389 (sm_a0 _) sm_k21 rfl (x := (S 1021 0)) rfl ?_
  refine sv_cond_le hM dX12_endOfStatement_4 k1 (t := 8) rfl rfl (fun hc => ?_) (fun hc => ?_)
  · have h := h.1 (hc)
    refine sv_aload_n hM dX12_endOfStatement_8 rfl rfl ?_
    refine sv_bipush (d := (31 : Int)) hM dX12_endOfStatement_9 rfl rfl ?_
    obtain ⟨o2, h⟩ := h
    refine sv_callV hM dX12_endOfStatement_11 sm_iv_398 (by decide) (sm_a0 _) rfl rfl (Nat.le_of_ble_eq_true rfl) sm_h24 (Nat.le_of_ble_eq_true rfl) (Nat.le_of_ble_eq_true rfl) (F' := 0) (Nat.le_of_ble_eq_true rfl) rfl (t_isSign (31 : Int) S hok (⟨by decide, by decide⟩ : sv_R (31 : Int)) o2) (fun v S1 hq => ?_)
    obtain ⟨rfl, hS1⟩ := hq
    obtain rfl : S = S1 := hS1.symm
    show sv_T sm_XS sm_cs sm_L sm_sh 1 (q_endOfStatement S) 66 14 [(0, .ref 0)] [sv_I (if (S 6 (S 1020 0)) = 5 ∧ (S 7 (S 1020 0)) = (31 : Int) then 1 else 0)] S
    refine sv_cond_eq hM dX12_endOfStatement_14 (sv_Rite : sv_R (if (S 6 (S 1020 0)) = 5 ∧ (S 7 (S 1020 0)) = (31 : Int) then 1 else 0)) (t := 30) rfl rfl (fun hc => ?_) (fun hc => ?_)
    · have h := h.1 (sv_iten hc)
      refine sv_aload_n hM dX12_endOfStatement_30 rfl rfl ?_
      refine sv_bipush (d := (25 : Int)) hM dX12_endOfStatement_31 rfl rfl ?_
      refine sv_callV hM dX12_endOfStatement_33 sm_iv_398 (by decide) (sm_a0 _) rfl rfl (Nat.le_of_ble_eq_true rfl) sm_h24 (Nat.le_of_ble_eq_true rfl) (Nat.le_of_ble_eq_true rfl) (F' := 0) (Nat.le_of_ble_eq_true rfl) rfl (t_isSign (25 : Int) S hok (⟨by decide, by decide⟩ : sv_R (25 : Int)) o2) (fun v S1 hq => ?_)
      obtain ⟨rfl, hS1⟩ := hq
      obtain rfl : S = S1 := hS1.symm
      show sv_T sm_XS sm_cs sm_L sm_sh 1 (q_endOfStatement S) 66 36 [(0, .ref 0)] [sv_I (if (S 6 (S 1020 0)) = 5 ∧ (S 7 (S 1020 0)) = (25 : Int) then 1 else 0)] S
      refine sv_cond_ne hM dX12_endOfStatement_36 (sv_Rite : sv_R (if (S 6 (S 1020 0)) = 5 ∧ (S 7 (S 1020 0)) = (25 : Int) then 1 else 0)) (t := 80) rfl rfl (fun hc => ?_) (fun hc => ?_)
      · have h := h.1 (sv_itep hc)
        exact sv_vret hM dX12_endOfStatement_80 rfl ⟨rfl, hok, sv_mod.rf, h⟩
      · have h := h.2 (fun q => hc (by rw [if_pos q]; decide))
        refine sv_aload_n hM dX12_endOfStatement_39 rfl rfl ?_
        refine sv_getA hM dX12_endOfStatement_40 sm_fl_27 (sm_a0 _) sm_k13 rfl ?_
        refine sv_aload_n hM dX12_endOfStatement_43 rfl rfl ?_
        have k3 : sv_R (S 1020 0) := sm_okI hok sm_r1020 0
        have h := h k3
        refine sv_getI hM dX12_endOfStatement_44 sm_fl_392 (sm_a0 _) sm_k20 rfl (x := (S 1020 0)) rfl ?_
        obtain ⟨o4, h⟩ := h
        have k5 : sv_R (S 6 (S 1020 0)) := sm_okI hok sm_r6 (S 1020 0)
        have h := h k5
        refine sv_iald hM dX12_endOfStatement_47 (sm_a6 _) (by decide) o4.1 o4.2 rfl (x := (S 6 (S 1020 0))) rfl ?_
        refine sv_cond_eq hM dX12_endOfStatement_48 k5 (t := 80) rfl rfl (fun hc => ?_) (fun hc => ?_)
        · have h := h.1 (hc)
          exact sv_vret hM dX12_endOfStatement_80 rfl ⟨rfl, hok, sv_mod.rf, h⟩
        · have h := h.2 (hc)
          refine sv_aload_n hM dX12_endOfStatement_51 rfl rfl ?_
          refine sv_getA hM dX12_endOfStatement_52 sm_fl_39 (sm_a0 _) sm_k17 rfl ?_
          refine sv_aload_n hM dX12_endOfStatement_55 rfl rfl ?_
          refine sv_getI hM dX12_endOfStatement_56 sm_fl_392 (sm_a0 _) sm_k20 rfl (x := (S 1020 0)) rfl ?_
          have k6 : sv_R (S 10 (S 1020 0)) := sm_okI hok sm_r10 (S 1020 0)
          have h := h k6
          refine sv_iald hM dX12_endOfStatement_59 (sm_a10 _) (by decide) o4.1 o4.2 rfl (x := (S 10 (S 1020 0))) rfl ?_
          refine sv_aload_n hM dX12_endOfStatement_60 rfl rfl ?_
          refine sv_getA hM dX12_endOfStatement_61 sm_fl_39 (sm_a0 _) sm_k17 rfl ?_
          refine sv_aload_n hM dX12_endOfStatement_64 rfl rfl ?_
          refine sv_getI hM dX12_endOfStatement_65 sm_fl_392 (sm_a0 _) sm_k20 rfl (x := (S 1020 0)) rfl ?_
          refine sv_iconst (d := (1 : Int)) hM dX12_endOfStatement_68 rfl rfl ?_
          refine sv_isub hM dX12_endOfStatement_69 rfl ?_
          obtain ⟨o7, h⟩ := h
          have k8 : sv_R (S 10 ((S 1020 0) - (1 : Int))) := sm_okI hok sm_r10 ((S 1020 0) - (1 : Int))
          have h := h k8
          refine sv_iald hM dX12_endOfStatement_70 (sm_a10 _) (by decide) o7.1 o7.2 rfl (x := (S 10 ((S 1020 0) - (1 : Int)))) rfl ?_
          refine sv_icmp_ne hM dX12_endOfStatement_71 k6 k8 (t := 80) rfl rfl (fun hc => ?_) (fun hc => ?_)
          · have h := h.1 (hc)
            exact sv_vret hM dX12_endOfStatement_80 rfl ⟨rfl, hok, sv_mod.rf, h⟩
          · have h := h.2 (hc)
            refine sv_aload_n hM dX12_endOfStatement_74 rfl rfl ?_
            refine sv_iconst (d := (2 : Int)) hM dX12_endOfStatement_75 rfl rfl ?_
            obtain ⟨o9, h⟩ := h
            refine sv_callV hM dX12_endOfStatement_76 sm_iv_401 (by decide) (sm_a0 _) rfl rfl (Nat.le_of_ble_eq_true rfl) sm_h23 (Nat.le_of_ble_eq_true rfl) (Nat.le_of_ble_eq_true rfl) (F' := 0) (Nat.le_of_ble_eq_true rfl) rfl (t_fail (2 : Int) S hok (⟨by decide, by decide⟩ : sv_R (2 : Int)) o9) (fun v S1 hq => ?_)
            obtain ⟨r14, rfl, hr14, ok11, md12, hpo13⟩ := hq
            obtain ⟨g10, rfl⟩ : ∃ g, S1 = sv_sts S [1021, 1022] g := ⟨_, md12.eq⟩
            show sv_T sm_XS sm_cs sm_L sm_sh 1 (q_endOfStatement S) 66 79 [(0, .ref 0)] [sv_I r14] (sv_sts S [1021, 1022] g10)
            have md15 : sv_mod [1020, 1021, 1022] S (sv_sts S [1021, 1022] g10) := sv_mod.sts sv_mod.rf (by decide)
            have h := h r14 hr14 g10 hpo13
            refine sv_popI hM dX12_endOfStatement_79 rfl ?_
            exact sv_vret hM dX12_endOfStatement_80 rfl ⟨rfl, ok11, md15, h⟩
    · have h := h.2 (sv_itep hc)
      refine sv_aload_n hM dX12_endOfStatement_17 rfl rfl ?_
      refine sv_dupA hM dX12_endOfStatement_18 rfl ?_
      have k16 : sv_R (S 1020 0) := sm_okI hok sm_r1020 0
      have h := h k16
      refine sv_getI hM dX12_endOfStatement_19 sm_fl_392 (sm_a0 _) sm_k20 rfl (x := (S 1020 0)) rfl ?_
      refine sv_iconst (d := (1 : Int)) hM dX12_endOfStatement_22 rfl rfl ?_
      refine sv_iadd hM dX12_endOfStatement_23 rfl ?_
      obtain ⟨o17, h⟩ := h
      refine sv_putI sm_X hM dX12_endOfStatement_24 sm_fp_392 (sm_a0 _) sm_q20 (Or.inl rfl) rfl rfl rfl rfl ?_
      have ok18 : sm_ok (sv_up S 1020 0 ((S 1020 0) + (1 : Int))) := sm_upI hok sm_r1020 o17
      have md19 : sv_mod [1020, 1021, 1022] S (sv_up S 1020 0 ((S 1020 0) + (1 : Int))) := sv_mod.up sv_mod.rf (by decide)
      refine sv_goto hM dX12_endOfStatement_27 (pc' := 80) rfl ?_
      exact sv_vret hM dX12_endOfStatement_80 rfl ⟨rfl, ok18, md19, h⟩
  · have h := h.2 (hc)
    exact sv_vret hM dX12_endOfStatement_7 rfl ⟨rfl, hok, sv_mod.rf, h⟩
def q_sameTokens (p1 : Int) (p2 : Int) (S : sv_S) : Option Value → sv_S → Prop := fun v S' => ∃ r : Int, v = some (sv_I r) ∧ sv_R r ∧ sm_ok S' ∧ sv_mod [] S S' ∧ (r = 0 ∨ r = 1)
set_option maxHeartbeats 2000000 in
theorem f_sameTokens : ∀ (p1 : Int) (p2 : Int) (S : sv_S), sm_ok S → sv_R p1 → sv_R p2 → (0 ≤ (S 1004 0) ∧ (S 1004 0) ≤ 4000 ∧ sm_TK (S 6) (S 8) (S 9) (S 10) (S 1012 0) ∧ 0 ≤ p1 ∧ p1 < (S 1012 0) ∧ 0 ≤ p2 ∧ p2 < (S 1012 0)) → (0 ≤ p1 ∧ p1 < 4002) ∧ (sv_R (S 9 p1) → (sv_R (S 8 p1) → (0 ≤ p2 ∧ p2 < 4002) ∧ (sv_R (S 9 p2) → (sv_R (S 8 p2) → (sv_R ((S 9 p1) - (S 8 p1))) ∧ (sv_R ((S 9 p2) - (S 8 p2))) ∧ (((¬ ((S 9 p1) - (S 8 p1)) = ((S 9 p2) - (S 8 p2))) → ((0 ≤ (0 : Int) ∧ (0 : Int) ≤ (S 9 p1) - (S 8 p1) ∧ ((0 : Int) = 0 ∨ (0 : Int) = 1)) ∧ (∀ l3_9 : Int, sv_R l3_9 → ∀ l4_10 : Int, sv_R l4_10 → (0 ≤ l4_10 ∧ l4_10 ≤ (S 9 p1) - (S 8 p1) ∧ (l3_9 = 0 ∨ l3_9 = 1)) → (0 ≤ (S 9 p1) - (S 8 p1) - l4_10) ∧ (((((S 9 p1) - (S 8 p1)) ≤ l4_10) → (0 ≤ l3_9 ∧ l3_9 ≤ 1) ∧ (l3_9 = 0 ∨ l3_9 = 1)) ∧ ((¬ (((S 9 p1) - (S 8 p1)) ≤ l4_10)) → (((l3_9 = (0 : Int)) → (0 ≤ l3_9 ∧ l3_9 ≤ 1) ∧ (l3_9 = 0 ∨ l3_9 = 1)) ∧ ((¬ (l3_9 = (0 : Int))) → (sv_R ((S 8 p1) + l4_10)) ∧ (0 ≤ (S 1004 0) ∧ (S 1004 0) ≤ 4000 ∧ 0 ≤ ((S 8 p1) + l4_10)) ∧ (sv_R ((S 8 p2) + l4_10)) ∧ (0 ≤ (S 1004 0) ∧ (S 1004 0) ≤ 4000 ∧ 0 ≤ ((S 8 p2) + l4_10)) ∧ (sv_R ((if ((S 8 p1) + l4_10) < (S 1004 0) then (S 2 ((S 8 p1) + l4_10)) % 256 else 0))) ∧ (sv_R ((if ((S 8 p2) + l4_10) < (S 1004 0) then (S 2 ((S 8 p2) + l4_10)) % 256 else 0))) ∧ (((¬ ((if ((S 8 p1) + l4_10) < (S 1004 0) then (S 2 ((S 8 p1) + l4_10)) % 256 else 0)) = ((if ((S 8 p2) + l4_10) < (S 1004 0) then (S 2 ((S 8 p2) + l4_10)) % 256 else 0))) → (sv_R (l4_10 + (1 : Int))) ∧ ((0 ≤ (l4_10 + (1 : Int)) ∧ (l4_10 + (1 : Int)) ≤ (S 9 p1) - (S 8 p1) ∧ ((0 : Int) = 0 ∨ (0 : Int) = 1)) ∧ ((S 9 p1) - (S 8 p1) - (l4_10 + (1 : Int))) < ((S 9 p1) - (S 8 p1) - l4_10))) ∧ ((¬ (¬ ((if ((S 8 p1) + l4_10) < (S 1004 0) then (S 2 ((S 8 p1) + l4_10)) % 256 else 0)) = ((if ((S 8 p2) + l4_10) < (S 1004 0) then (S 2 ((S 8 p2) + l4_10)) % 256 else 0)))) → (sv_R (l4_10 + (1 : Int))) ∧ ((0 ≤ (l4_10 + (1 : Int)) ∧ (l4_10 + (1 : Int)) ≤ (S 9 p1) - (S 8 p1) ∧ ((1 : Int) = 0 ∨ (1 : Int) = 1)) ∧ ((S 9 p1) - (S 8 p1) - (l4_10 + (1 : Int))) < ((S 9 p1) - (S 8 p1) - l4_10))))))))))) ∧ ((¬ (¬ ((S 9 p1) - (S 8 p1)) = ((S 9 p2) - (S 8 p2)))) → ((0 ≤ (0 : Int) ∧ (0 : Int) ≤ (S 9 p1) - (S 8 p1) ∧ ((1 : Int) = 0 ∨ (1 : Int) = 1)) ∧ (∀ l3_24 : Int, sv_R l3_24 → ∀ l4_25 : Int, sv_R l4_25 → (0 ≤ l4_25 ∧ l4_25 ≤ (S 9 p1) - (S 8 p1) ∧ (l3_24 = 0 ∨ l3_24 = 1)) → (0 ≤ (S 9 p1) - (S 8 p1) - l4_25) ∧ (((((S 9 p1) - (S 8 p1)) ≤ l4_25) → (0 ≤ l3_24 ∧ l3_24 ≤ 1) ∧ (l3_24 = 0 ∨ l3_24 = 1)) ∧ ((¬ (((S 9 p1) - (S 8 p1)) ≤ l4_25)) → (((l3_24 = (0 : Int)) → (0 ≤ l3_24 ∧ l3_24 ≤ 1) ∧ (l3_24 = 0 ∨ l3_24 = 1)) ∧ ((¬ (l3_24 = (0 : Int))) → (sv_R ((S 8 p1) + l4_25)) ∧ (0 ≤ (S 1004 0) ∧ (S 1004 0) ≤ 4000 ∧ 0 ≤ ((S 8 p1) + l4_25)) ∧ (sv_R ((S 8 p2) + l4_25)) ∧ (0 ≤ (S 1004 0) ∧ (S 1004 0) ≤ 4000 ∧ 0 ≤ ((S 8 p2) + l4_25)) ∧ (sv_R ((if ((S 8 p1) + l4_25) < (S 1004 0) then (S 2 ((S 8 p1) + l4_25)) % 256 else 0))) ∧ (sv_R ((if ((S 8 p2) + l4_25) < (S 1004 0) then (S 2 ((S 8 p2) + l4_25)) % 256 else 0))) ∧ (((¬ ((if ((S 8 p1) + l4_25) < (S 1004 0) then (S 2 ((S 8 p1) + l4_25)) % 256 else 0)) = ((if ((S 8 p2) + l4_25) < (S 1004 0) then (S 2 ((S 8 p2) + l4_25)) % 256 else 0))) → (sv_R (l4_25 + (1 : Int))) ∧ ((0 ≤ (l4_25 + (1 : Int)) ∧ (l4_25 + (1 : Int)) ≤ (S 9 p1) - (S 8 p1) ∧ ((0 : Int) = 0 ∨ (0 : Int) = 1)) ∧ ((S 9 p1) - (S 8 p1) - (l4_25 + (1 : Int))) < ((S 9 p1) - (S 8 p1) - l4_25))) ∧ ((¬ (¬ ((if ((S 8 p1) + l4_25) < (S 1004 0) then (S 2 ((S 8 p1) + l4_25)) % 256 else 0)) = ((if ((S 8 p2) + l4_25) < (S 1004 0) then (S 2 ((S 8 p2) + l4_25)) % 256 else 0)))) → (sv_R (l4_25 + (1 : Int))) ∧ ((0 ≤ (l4_25 + (1 : Int)) ∧ (l4_25 + (1 : Int)) ≤ (S 9 p1) - (S 8 p1) ∧ ((1 : Int) = 0 ∨ (1 : Int) = 1)) ∧ ((S 9 p1) - (S 8 p1) - (l4_25 + (1 : Int))) < ((S 9 p1) - (S 8 p1) - l4_25)))))))))))))))) := by
  intro p1 p2 S hok hp1 hp2 hpre
  have hq := sm_TK_t hpre.2.2.1
  have hg := sm_TK_at hpre.2.2.1 p1
  have hh := sm_TK_at hpre.2.2.1 p2
  repeat' (first | (with_reducible refine And.intro ?_ ?_) | (with_reducible intro _))
  all_goals first | assumption | omega | grind
set_option maxRecDepth 8000 in
set_option maxHeartbeats 2000000 in
theorem t_sameTokens : ∀ (p1 : Int) (p2 : Int) (S : sv_S), sm_ok S → sv_R p1 → sv_R p2 → (0 ≤ (S 1004 0) ∧ (S 1004 0) ≤ 4000 ∧ sm_TK (S 6) (S 8) (S 9) (S 10) (S 1012 0) ∧ 0 ≤ p1 ∧ p1 < (S 1012 0) ∧ 0 ≤ p2 ∧ p2 < (S 1012 0)) → sv_T sm_XS sm_cs sm_L sm_sh 1 (q_sameTokens p1 p2 S) 63 0 (lv_args 0 [.ref 0, sv_I p1, sv_I p2]) [] S := by
  intro p1 p2 S hok hp1 hp2 hpre
  have h := f_sameTokens p1 p2 S hok hp1 hp2 hpre
  have hM := sm_h63
  show sv_T sm_XS sm_cs sm_L sm_sh 1 (q_sameTokens p1 p2 S) 63 0 [(0, .ref 0), (1, sv_I p1), (2, sv_I p2)] [] S
  refine sv_aload_n hM dX12_sameTokens_0 rfl rfl ?_
  refine sv_getA hM dX12_sameTokens_1 sm_fl_36 (sm_a0 _) sm_k16 rfl ?_
  refine sv_iload_n hM dX12_sameTokens_4 rfl rfl ?_
  obtain ⟨o1, h⟩ := h
  have k2 : sv_R (S 9 p1) := sm_okI hok sm_r9 p1
  have h := h k2
  refine sv_iald hM dX12_sameTokens_5 (sm_a9 _) (by decide) o1.1 o1.2 rfl (x := (S 9 p1)) rfl ?_
  refine sv_aload_n hM dX12_sameTokens_6 rfl rfl ?_
  refine sv_getA hM dX12_sameTokens_7 sm_fl_33 (sm_a0 _) sm_k15 rfl ?_
  refine sv_iload_n hM dX12_sameTokens_10 rfl rfl ?_
  have k3 : sv_R (S 8 p1) := sm_okI hok sm_r8 p1
  have h := h k3
  refine sv_iald hM dX12_sameTokens_11 (sm_a8 _) (by decide) o1.1 o1.2 rfl (x := (S 8 p1)) rfl ?_
  refine sv_isub hM dX12_sameTokens_12 rfl ?_
  refine sv_aload_n hM dX12_sameTokens_13 rfl rfl ?_
  refine sv_getA hM dX12_sameTokens_14 sm_fl_36 (sm_a0 _) sm_k16 rfl ?_
  refine sv_iload_n hM dX12_sameTokens_17 rfl rfl ?_
  obtain ⟨o4, h⟩ := h
  have k5 : sv_R (S 9 p2) := sm_okI hok sm_r9 p2
  have h := h k5
  refine sv_iald hM dX12_sameTokens_18 (sm_a9 _) (by decide) o4.1 o4.2 rfl (x := (S 9 p2)) rfl ?_
  refine sv_aload_n hM dX12_sameTokens_19 rfl rfl ?_
  refine sv_getA hM dX12_sameTokens_20 sm_fl_33 (sm_a0 _) sm_k15 rfl ?_
  refine sv_iload_n hM dX12_sameTokens_23 rfl rfl ?_
  have k6 : sv_R (S 8 p2) := sm_okI hok sm_r8 p2
  have h := h k6
  refine sv_iald hM dX12_sameTokens_24 (sm_a8 _) (by decide) o4.1 o4.2 rfl (x := (S 8 p2)) rfl ?_
  refine sv_isub hM dX12_sameTokens_25 rfl ?_
  obtain ⟨o7, h⟩ := h
  obtain ⟨o8, h⟩ := h
  refine sv_icmp_ne hM dX12_sameTokens_26 o7 o8 (t := 33) rfl rfl (fun hc => ?_) (fun hc => ?_)
  · have h := h.1 (hc)
    refine sv_iconst (d := (0 : Int)) hM dX12_sameTokens_33 rfl rfl ?_
    refine sv_istore_n hM dX12_sameTokens_34 (by decide) rfl ?_
    show sv_T sm_XS sm_cs sm_L sm_sh 1 (q_sameTokens p1 p2 S) 63 35 [(0, .ref 0), (1, sv_I p1), (2, sv_I p2), (3, sv_I (0 : Int))] [] S
    refine sv_iconst (d := (0 : Int)) hM dX12_sameTokens_35 rfl rfl ?_
    refine sv_istore hM dX12_sameTokens_36 (by decide) rfl ?_
    show sv_T sm_XS sm_cs sm_L sm_sh 1 (q_sameTokens p1 p2 S) 63 38 [(0, .ref 0), (1, sv_I p1), (2, sv_I p2), (3, sv_I (0 : Int)), (4, sv_I (0 : Int))] [] S
    obtain ⟨hin12, h⟩ := h
    have hJ : ∀ a : Int × Int × Unit, (sv_R a.1 ∧ sv_R a.2.1 ∧ sm_ok S ∧ (0 ≤ a.2.1 ∧ a.2.1 ≤ (S 9 p1) - (S 8 p1) ∧ (a.1 = 0 ∨ a.1 = 1))) → sv_T sm_XS sm_cs sm_L sm_sh 1 (q_sameTokens p1 p2 S) 63 38 [(0, .ref 0), (1, sv_I p1), (2, sv_I p2), (3, sv_I a.1), (4, sv_I a.2.1)] [] S := by
      refine sv_loop (α := Int × Int × Unit) (fun a => sv_R a.1 ∧ sv_R a.2.1 ∧ sm_ok S ∧ (0 ≤ a.2.1 ∧ a.2.1 ≤ (S 9 p1) - (S 8 p1) ∧ (a.1 = 0 ∨ a.1 = 1))) (fun a => (S 9 p1) - (S 8 p1) - a.2.1) (fun a => sv_T sm_XS sm_cs sm_L sm_sh 1 (q_sameTokens p1 p2 S) 63 38 [(0, .ref 0), (1, sv_I p1), (2, sv_I p2), (3, sv_I a.1), (4, sv_I a.2.1)] [] S) (fun a q => (h a.1 q.1 a.2.1 q.2.1 q.2.2.2).1) (fun a q ih11 => ?_)
      obtain ⟨l3_9, l4_10, _u⟩ := a
      obtain ⟨hl3_9, hl4_10, ok13, hin12i⟩ := q
      have h := (h l3_9 hl3_9 l4_10 hl4_10 hin12i).2
      show sv_T sm_XS sm_cs sm_L sm_sh 1 (q_sameTokens p1 p2 S) 63 38 [(0, .ref 0), (1, sv_I p1), (2, sv_I p2), (3, sv_I l3_9), (4, sv_I l4_10)] [] S
      refine sv_iload hM dX12_sameTokens_38 rfl rfl ?_
      refine sv_aload_n hM dX12_sameTokens_40 rfl rfl ?_
      refine sv_getA hM dX12_sameTokens_41 sm_fl_36 (sm_a0 _) sm_k16 rfl ?_
      refine sv_iload_n hM dX12_sameTokens_44 rfl rfl ?_
      refine sv_iald hM dX12_sameTokens_45 (sm_a9 _) (by decide) o1.1 o1.2 rfl (x := (S 9 p1)) rfl ?_
      refine sv_aload_n hM dX12_sameTokens_46 rfl rfl ?_
      refine sv_getA hM dX12_sameTokens_47 sm_fl_33 (sm_a0 _) sm_k15 rfl ?_
      refine sv_iload_n hM dX12_sameTokens_50 rfl rfl ?_
      refine sv_iald hM dX12_sameTokens_51 (sm_a8 _) (by decide) o1.1 o1.2 rfl (x := (S 8 p1)) rfl ?_
      refine sv_isub hM dX12_sameTokens_52 rfl ?_
      refine sv_icmp_ge hM dX12_sameTokens_53 hl4_10 o7 (t := 101) rfl rfl (fun hc => ?_) (fun hc => ?_)
      · have h := h.1 (hc)
        refine sv_iload_n hM dX12_sameTokens_101 rfl rfl ?_
        obtain ⟨o14, h⟩ := h
        exact sv_iret hM dX12_sameTokens_102 rfl (sv_nz o14) ⟨l3_9, rfl, sv_R01 o14, ok13, sv_mod.rf, h⟩
      · have h := h.2 (hc)
        refine sv_iload_n hM dX12_sameTokens_56 rfl rfl ?_
        refine sv_cond_eq hM dX12_sameTokens_57 hl3_9 (t := 101) rfl rfl (fun hc => ?_) (fun hc => ?_)
        · have h := h.1 (hc)
          refine sv_iload_n hM dX12_sameTokens_101 rfl rfl ?_
          obtain ⟨o15, h⟩ := h
          exact sv_iret hM dX12_sameTokens_102 rfl (sv_nz o15) ⟨l3_9, rfl, sv_R01 o15, ok13, sv_mod.rf, h⟩
        · have h := h.2 (hc)
          refine sv_aload_n hM dX12_sameTokens_60 rfl rfl ?_
          refine sv_aload_n hM dX12_sameTokens_61 rfl rfl ?_
          refine sv_getA hM dX12_sameTokens_62 sm_fl_33 (sm_a0 _) sm_k15 rfl ?_
          refine sv_iload_n hM dX12_sameTokens_65 rfl rfl ?_
          refine sv_iald hM dX12_sameTokens_66 (sm_a8 _) (by decide) o1.1 o1.2 rfl (x := (S 8 p1)) rfl ?_
          refine sv_iload hM dX12_sameTokens_67 rfl rfl ?_
          refine sv_iadd hM dX12_sameTokens_69 rfl ?_
          obtain ⟨o16, h⟩ := h
          obtain ⟨o17, h⟩ := h
          refine sv_callV hM dX12_sameTokens_70 sm_iv_334 (by decide) (sm_a0 _) rfl rfl (Nat.le_of_ble_eq_true rfl) sm_h10 (Nat.le_of_ble_eq_true rfl) (Nat.le_of_ble_eq_true rfl) (F' := 0) (Nat.le_of_ble_eq_true rfl) rfl (t_look ((S 8 p1) + l4_10) S ok13 o16 o17) (fun v S1 hq => ?_)
          obtain ⟨rfl, hS1⟩ := hq
          obtain rfl : S = S1 := hS1.symm
          show sv_T sm_XS sm_cs sm_L sm_sh 1 (q_sameTokens p1 p2 S) 63 73 [(0, .ref 0), (1, sv_I p1), (2, sv_I p2), (3, sv_I l3_9), (4, sv_I l4_10)] [sv_I ((if ((S 8 p1) + l4_10) < (S 1004 0) then (S 2 ((S 8 p1) + l4_10)) % 256 else 0))] S
          refine sv_aload_n hM dX12_sameTokens_73 rfl rfl ?_
          refine sv_aload_n hM dX12_sameTokens_74 rfl rfl ?_
          refine sv_getA hM dX12_sameTokens_75 sm_fl_33 (sm_a0 _) sm_k15 rfl ?_
          refine sv_iload_n hM dX12_sameTokens_78 rfl rfl ?_
          refine sv_iald hM dX12_sameTokens_79 (sm_a8 _) (by decide) o4.1 o4.2 rfl (x := (S 8 p2)) rfl ?_
          refine sv_iload hM dX12_sameTokens_80 rfl rfl ?_
          refine sv_iadd hM dX12_sameTokens_82 rfl ?_
          obtain ⟨o18, h⟩ := h
          obtain ⟨o19, h⟩ := h
          refine sv_callV hM dX12_sameTokens_83 sm_iv_334 (by decide) (sm_a0 _) rfl rfl (Nat.le_of_ble_eq_true rfl) sm_h10 (Nat.le_of_ble_eq_true rfl) (Nat.le_of_ble_eq_true rfl) (F' := 0) (Nat.le_of_ble_eq_true rfl) rfl (t_look ((S 8 p2) + l4_10) S ok13 o18 o19) (fun v S1 hq => ?_)
          obtain ⟨rfl, hS1⟩ := hq
          obtain rfl : S = S1 := hS1.symm
          show sv_T sm_XS sm_cs sm_L sm_sh 1 (q_sameTokens p1 p2 S) 63 86 [(0, .ref 0), (1, sv_I p1), (2, sv_I p2), (3, sv_I l3_9), (4, sv_I l4_10)] [sv_I ((if ((S 8 p2) + l4_10) < (S 1004 0) then (S 2 ((S 8 p2) + l4_10)) % 256 else 0)), sv_I ((if ((S 8 p1) + l4_10) < (S 1004 0) then (S 2 ((S 8 p1) + l4_10)) % 256 else 0))] S
          obtain ⟨o20, h⟩ := h
          obtain ⟨o21, h⟩ := h
          refine sv_icmp_ne hM dX12_sameTokens_86 o20 o21 (t := 93) rfl rfl (fun hc => ?_) (fun hc => ?_)
          · have h := h.1 (hc)
            refine sv_iconst (d := (0 : Int)) hM dX12_sameTokens_93 rfl rfl ?_
            refine sv_istore_n hM dX12_sameTokens_94 (by decide) rfl ?_
            show sv_T sm_XS sm_cs sm_L sm_sh 1 (q_sameTokens p1 p2 S) 63 95 [(0, .ref 0), (1, sv_I p1), (2, sv_I p2), (3, sv_I (0 : Int)), (4, sv_I l4_10)] [] S
            refine sv_iinc (d := (1 : Int)) hM dX12_sameTokens_95 rfl (by decide) rfl rfl ?_
            show sv_T sm_XS sm_cs sm_L sm_sh 1 (q_sameTokens p1 p2 S) 63 98 [(0, .ref 0), (1, sv_I p1), (2, sv_I p2), (3, sv_I (0 : Int)), (4, sv_I (l4_10 + (1 : Int)))] [] S
            refine sv_goto hM dX12_sameTokens_98 (pc' := 38) rfl ?_
            obtain ⟨o22, h⟩ := h
            have hb := ih11 ((0 : Int), (l4_10 + (1 : Int)), ()) ⟨(⟨by decide, by decide⟩ : sv_R (0 : Int)), o22, ok13, h.1⟩ h.2
            exact sv_less (lv := [(0, .ref 0), (1, sv_I p1), (2, sv_I p2), (3, sv_I (0 : Int)), (4, sv_I (l4_10 + (1 : Int)))]) (sv_Sub_cons rfl (sv_Sub_cons rfl (sv_Sub_cons rfl (sv_Sub_cons rfl (sv_Sub_cons rfl sv_Sub_nil))))) hb
          · have h := h.2 (hc)
            refine sv_iconst (d := (1 : Int)) hM dX12_sameTokens_89 rfl rfl ?_
            refine sv_goto hM dX12_sameTokens_90 (pc' := 94) rfl ?_
            refine sv_istore_n hM dX12_sameTokens_94 (by decide) rfl ?_
            show sv_T sm_XS sm_cs sm_L sm_sh 1 (q_sameTokens p1 p2 S) 63 95 [(0, .ref 0), (1, sv_I p1), (2, sv_I p2), (3, sv_I (1 : Int)), (4, sv_I l4_10)] [] S
            refine sv_iinc (d := (1 : Int)) hM dX12_sameTokens_95 rfl (by decide) rfl rfl ?_
            show sv_T sm_XS sm_cs sm_L sm_sh 1 (q_sameTokens p1 p2 S) 63 98 [(0, .ref 0), (1, sv_I p1), (2, sv_I p2), (3, sv_I (1 : Int)), (4, sv_I (l4_10 + (1 : Int)))] [] S
            refine sv_goto hM dX12_sameTokens_98 (pc' := 38) rfl ?_
            obtain ⟨o23, h⟩ := h
            have hb := ih11 ((1 : Int), (l4_10 + (1 : Int)), ()) ⟨(⟨by decide, by decide⟩ : sv_R (1 : Int)), o23, ok13, h.1⟩ h.2
            exact sv_less (lv := [(0, .ref 0), (1, sv_I p1), (2, sv_I p2), (3, sv_I (1 : Int)), (4, sv_I (l4_10 + (1 : Int)))]) (sv_Sub_cons rfl (sv_Sub_cons rfl (sv_Sub_cons rfl (sv_Sub_cons rfl (sv_Sub_cons rfl sv_Sub_nil))))) hb
    exact hJ ((0 : Int), (0 : Int), ()) ⟨(⟨by decide, by decide⟩ : sv_R (0 : Int)), (⟨by decide, by decide⟩ : sv_R (0 : Int)), hok, hin12⟩
  · have h := h.2 (hc)
    refine sv_iconst (d := (1 : Int)) hM dX12_sameTokens_29 rfl rfl ?_
    refine sv_goto hM dX12_sameTokens_30 (pc' := 34) rfl ?_
    refine sv_istore_n hM dX12_sameTokens_34 (by decide) rfl ?_
    show sv_T sm_XS sm_cs sm_L sm_sh 1 (q_sameTokens p1 p2 S) 63 35 [(0, .ref 0), (1, sv_I p1), (2, sv_I p2), (3, sv_I (1 : Int))] [] S
    refine sv_iconst (d := (0 : Int)) hM dX12_sameTokens_35 rfl rfl ?_
    refine sv_istore hM dX12_sameTokens_36 (by decide) rfl ?_
    show sv_T sm_XS sm_cs sm_L sm_sh 1 (q_sameTokens p1 p2 S) 63 38 [(0, .ref 0), (1, sv_I p1), (2, sv_I p2), (3, sv_I (1 : Int)), (4, sv_I (0 : Int))] [] S
    obtain ⟨hin27, h⟩ := h
    have hJ : ∀ a : Int × Int × Unit, (sv_R a.1 ∧ sv_R a.2.1 ∧ sm_ok S ∧ (0 ≤ a.2.1 ∧ a.2.1 ≤ (S 9 p1) - (S 8 p1) ∧ (a.1 = 0 ∨ a.1 = 1))) → sv_T sm_XS sm_cs sm_L sm_sh 1 (q_sameTokens p1 p2 S) 63 38 [(0, .ref 0), (1, sv_I p1), (2, sv_I p2), (3, sv_I a.1), (4, sv_I a.2.1)] [] S := by
      refine sv_loop (α := Int × Int × Unit) (fun a => sv_R a.1 ∧ sv_R a.2.1 ∧ sm_ok S ∧ (0 ≤ a.2.1 ∧ a.2.1 ≤ (S 9 p1) - (S 8 p1) ∧ (a.1 = 0 ∨ a.1 = 1))) (fun a => (S 9 p1) - (S 8 p1) - a.2.1) (fun a => sv_T sm_XS sm_cs sm_L sm_sh 1 (q_sameTokens p1 p2 S) 63 38 [(0, .ref 0), (1, sv_I p1), (2, sv_I p2), (3, sv_I a.1), (4, sv_I a.2.1)] [] S) (fun a q => (h a.1 q.1 a.2.1 q.2.1 q.2.2.2).1) (fun a q ih26 => ?_)
      obtain ⟨l3_24, l4_25, _u⟩ := a
      obtain ⟨hl3_24, hl4_25, ok28, hin27i⟩ := q
      have h := (h l3_24 hl3_24 l4_25 hl4_25 hin27i).2
      show sv_T sm_XS sm_cs sm_L sm_sh 1 (q_sameTokens p1 p2 S) 63 38 [(0, .ref 0), (1, sv_I p1), (2, sv_I p2), (3, sv_I l3_24), (4, sv_I l4_25)] [] S
      refine sv_iload hM dX12_sameTokens_38 rfl rfl ?_
      refine sv_aload_n hM dX12_sameTokens_40 rfl rfl ?_
      refine sv_getA hM dX12_sameTokens_41 sm_fl_36 (sm_a0 _) sm_k16 rfl ?_
      refine sv_iload_n hM dX12_sameTokens_44 rfl rfl ?_
      refine sv_iald hM dX12_sameTokens_45 (sm_a9 _) (by decide) o1.1 o1.2 rfl (x := (S 9 p1)) rfl ?_
      refine sv_aload_n hM dX12_sameTokens_46 rfl rfl ?_
      refine sv_getA hM dX12_sameTokens_47 sm_fl_33 (sm_a0 _) sm_k15 rfl ?_
      refine sv_iload_n hM dX12_sameTokens_50 rfl rfl ?_
      refine sv_iald hM dX12_sameTokens_51 (sm_a8 _) (by decide) o1.1 o1.2 rfl (x := (S 8 p1)) rfl ?_
      refine sv_isub hM dX12_sameTokens_52 rfl ?_
      refine sv_icmp_ge hM dX12_sameTokens_53 hl4_25 o7 (t := 101) rfl rfl (fun hc => ?_) (fun hc => ?_)
      · have h := h.1 (hc)
        refine sv_iload_n hM dX12_sameTokens_101 rfl rfl ?_
        obtain ⟨o29, h⟩ := h
        exact sv_iret hM dX12_sameTokens_102 rfl (sv_nz o29) ⟨l3_24, rfl, sv_R01 o29, ok28, sv_mod.rf, h⟩
      · have h := h.2 (hc)
        refine sv_iload_n hM dX12_sameTokens_56 rfl rfl ?_
        refine sv_cond_eq hM dX12_sameTokens_57 hl3_24 (t := 101) rfl rfl (fun hc => ?_) (fun hc => ?_)
        · have h := h.1 (hc)
          refine sv_iload_n hM dX12_sameTokens_101 rfl rfl ?_
          obtain ⟨o30, h⟩ := h
          exact sv_iret hM dX12_sameTokens_102 rfl (sv_nz o30) ⟨l3_24, rfl, sv_R01 o30, ok28, sv_mod.rf, h⟩
        · have h := h.2 (hc)
          refine sv_aload_n hM dX12_sameTokens_60 rfl rfl ?_
          refine sv_aload_n hM dX12_sameTokens_61 rfl rfl ?_
          refine sv_getA hM dX12_sameTokens_62 sm_fl_33 (sm_a0 _) sm_k15 rfl ?_
          refine sv_iload_n hM dX12_sameTokens_65 rfl rfl ?_
          refine sv_iald hM dX12_sameTokens_66 (sm_a8 _) (by decide) o1.1 o1.2 rfl (x := (S 8 p1)) rfl ?_
          refine sv_iload hM dX12_sameTokens_67 rfl rfl ?_
          refine sv_iadd hM dX12_sameTokens_69 rfl ?_
          obtain ⟨o31, h⟩ := h
          obtain ⟨o32, h⟩ := h
          refine sv_callV hM dX12_sameTokens_70 sm_iv_334 (by decide) (sm_a0 _) rfl rfl (Nat.le_of_ble_eq_true rfl) sm_h10 (Nat.le_of_ble_eq_true rfl) (Nat.le_of_ble_eq_true rfl) (F' := 0) (Nat.le_of_ble_eq_true rfl) rfl (t_look ((S 8 p1) + l4_25) S ok28 o31 o32) (fun v S1 hq => ?_)
          obtain ⟨rfl, hS1⟩ := hq
          obtain rfl : S = S1 := hS1.symm
          show sv_T sm_XS sm_cs sm_L sm_sh 1 (q_sameTokens p1 p2 S) 63 73 [(0, .ref 0), (1, sv_I p1), (2, sv_I p2), (3, sv_I l3_24), (4, sv_I l4_25)] [sv_I ((if ((S 8 p1) + l4_25) < (S 1004 0) then (S 2 ((S 8 p1) + l4_25)) % 256 else 0))] S
          refine sv_aload_n hM dX12_sameTokens_73 rfl rfl ?_
          refine sv_aload_n hM dX12_sameTokens_74 rfl rfl ?_
          refine sv_getA hM dX12_sameTokens_75 sm_fl_33 (sm_a0 _) sm_k15 rfl ?_
          refine sv_iload_n hM dX12_sameTokens_78 rfl rfl ?_
          refine sv_iald hM dX12_sameTokens_79 (sm_a8 _) (by decide) o4.1 o4.2 rfl (x := (S 8 p2)) rfl ?_
          refine sv_iload hM dX12_sameTokens_80 rfl rfl ?_
          refine sv_iadd hM dX12_sameTokens_82 rfl ?_
          obtain ⟨o33, h⟩ := h
          obtain ⟨o34, h⟩ := h
          refine sv_callV hM dX12_sameTokens_83 sm_iv_334 (by decide) (sm_a0 _) rfl rfl (Nat.le_of_ble_eq_true rfl) sm_h10 (Nat.le_of_ble_eq_true rfl) (Nat.le_of_ble_eq_true rfl) (F' := 0) (Nat.le_of_ble_eq_true rfl) rfl (t_look ((S 8 p2) + l4_25) S ok28 o33 o34) (fun v S1 hq => ?_)
          obtain ⟨rfl, hS1⟩ := hq
          obtain rfl : S = S1 := hS1.symm
          show sv_T sm_XS sm_cs sm_L sm_sh 1 (q_sameTokens p1 p2 S) 63 86 [(0, .ref 0), (1, sv_I p1), (2, sv_I p2), (3, sv_I l3_24), (4, sv_I l4_25)] [sv_I ((if ((S 8 p2) + l4_25) < (S 1004 0) then (S 2 ((S 8 p2) + l4_25)) % 256 else 0)), sv_I ((if ((S 8 p1) + l4_25) < (S 1004 0) then (S 2 ((S 8 p1) + l4_25)) % 256 else 0))] S
          obtain ⟨o35, h⟩ := h
          obtain ⟨o36, h⟩ := h
          refine sv_icmp_ne hM dX12_sameTokens_86 o35 o36 (t := 93) rfl rfl (fun hc => ?_) (fun hc => ?_)
          · have h := h.1 (hc)
            refine sv_iconst (d := (0 : Int)) hM dX12_sameTokens_93 rfl rfl ?_
            refine sv_istore_n hM dX12_sameTokens_94 (by decide) rfl ?_
            show sv_T sm_XS sm_cs sm_L sm_sh 1 (q_sameTokens p1 p2 S) 63 95 [(0, .ref 0), (1, sv_I p1), (2, sv_I p2), (3, sv_I (0 : Int)), (4, sv_I l4_25)] [] S
            refine sv_iinc (d := (1 : Int)) hM dX12_sameTokens_95 rfl (by decide) rfl rfl ?_
            show sv_T sm_XS sm_cs sm_L sm_sh 1 (q_sameTokens p1 p2 S) 63 98 [(0, .ref 0), (1, sv_I p1), (2, sv_I p2), (3, sv_I (0 : Int)), (4, sv_I (l4_25 + (1 : Int)))] [] S
            refine sv_goto hM dX12_sameTokens_98 (pc' := 38) rfl ?_
            obtain ⟨o37, h⟩ := h
            have hb := ih26 ((0 : Int), (l4_25 + (1 : Int)), ()) ⟨(⟨by decide, by decide⟩ : sv_R (0 : Int)), o37, ok28, h.1⟩ h.2
            exact sv_less (lv := [(0, .ref 0), (1, sv_I p1), (2, sv_I p2), (3, sv_I (0 : Int)), (4, sv_I (l4_25 + (1 : Int)))]) (sv_Sub_cons rfl (sv_Sub_cons rfl (sv_Sub_cons rfl (sv_Sub_cons rfl (sv_Sub_cons rfl sv_Sub_nil))))) hb
          · have h := h.2 (hc)
            refine sv_iconst (d := (1 : Int)) hM dX12_sameTokens_89 rfl rfl ?_
            refine sv_goto hM dX12_sameTokens_90 (pc' := 94) rfl ?_
            refine sv_istore_n hM dX12_sameTokens_94 (by decide) rfl ?_
            show sv_T sm_XS sm_cs sm_L sm_sh 1 (q_sameTokens p1 p2 S) 63 95 [(0, .ref 0), (1, sv_I p1), (2, sv_I p2), (3, sv_I (1 : Int)), (4, sv_I l4_25)] [] S
            refine sv_iinc (d := (1 : Int)) hM dX12_sameTokens_95 rfl (by decide) rfl rfl ?_
            show sv_T sm_XS sm_cs sm_L sm_sh 1 (q_sameTokens p1 p2 S) 63 98 [(0, .ref 0), (1, sv_I p1), (2, sv_I p2), (3, sv_I (1 : Int)), (4, sv_I (l4_25 + (1 : Int)))] [] S
            refine sv_goto hM dX12_sameTokens_98 (pc' := 38) rfl ?_
            obtain ⟨o38, h⟩ := h
            have hb := ih26 ((1 : Int), (l4_25 + (1 : Int)), ()) ⟨(⟨by decide, by decide⟩ : sv_R (1 : Int)), o38, ok28, h.1⟩ h.2
            exact sv_less (lv := [(0, .ref 0), (1, sv_I p1), (2, sv_I p2), (3, sv_I (1 : Int)), (4, sv_I (l4_25 + (1 : Int)))]) (sv_Sub_cons rfl (sv_Sub_cons rfl (sv_Sub_cons rfl (sv_Sub_cons rfl (sv_Sub_cons rfl sv_Sub_nil))))) hb
    exact hJ ((1 : Int), (0 : Int), ()) ⟨(⟨by decide, by decide⟩ : sv_R (1 : Int)), (⟨by decide, by decide⟩ : sv_R (0 : Int)), hok, hin27⟩
