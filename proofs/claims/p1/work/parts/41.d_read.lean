theorem dX1_clear_0 : decode cX1_clear 0 = .ok (.aload_n 0, 1) := by decide +kernel
theorem dX1_clear_1 : decode cX1_clear 1 = .ok (.iconst 0, 1) := by decide +kernel
theorem dX1_clear_2 : decode cX1_clear 2 = .ok (.putfield 53, 3) := by decide +kernel
theorem dX1_clear_5 : decode cX1_clear 5 = .ok (.aload_n 0, 1) := by decide +kernel
theorem dX1_clear_6 : decode cX1_clear 6 = .ok (.iconst 0, 1) := by decide +kernel
theorem dX1_clear_7 : decode cX1_clear 7 = .ok (.putfield 57, 3) := by decide +kernel
theorem dX1_clear_10 : decode cX1_clear 10 = .ok (.aload_n 0, 1) := by decide +kernel
theorem dX1_clear_11 : decode cX1_clear 11 = .ok (.iconst 0, 1) := by decide +kernel
theorem dX1_clear_12 : decode cX1_clear 12 = .ok (.putfield 60, 3) := by decide +kernel
theorem dX1_clear_15 : decode cX1_clear 15 = .ok (.aload_n 0, 1) := by decide +kernel
theorem dX1_clear_16 : decode cX1_clear 16 = .ok (.iconst 0, 1) := by decide +kernel
theorem dX1_clear_17 : decode cX1_clear 17 = .ok (.putfield 63, 3) := by decide +kernel
theorem dX1_clear_20 : decode cX1_clear 20 = .ok (.return_, 1) := by decide +kernel
theorem dX1_labels_0 : decode cX1_labels 0 = .ok (.bipush 29, 2) := by decide +kernel
theorem dX1_labels_2 : decode cX1_labels 2 = .ok (.bipush 6, 2) := by decide +kernel
theorem dX1_labels_4 : decode cX1_labels 4 = .ok (.aload_n 0, 1) := by decide +kernel
theorem dX1_labels_5 : decode cX1_labels 5 = .ok (.getfield 63, 3) := by decide +kernel
theorem dX1_labels_8 : decode cX1_labels 8 = .ok (.iconst 1, 1) := by decide +kernel
theorem dX1_labels_9 : decode cX1_labels 9 = .ok (.isub, 1) := by decide +kernel
theorem dX1_labels_10 : decode cX1_labels 10 = .ok (.imul, 1) := by decide +kernel
theorem dX1_labels_11 : decode cX1_labels 11 = .ok (.iadd, 1) := by decide +kernel
theorem dX1_labels_12 : decode cX1_labels 12 = .ok (.iconst 2, 1) := by decide +kernel
theorem dX1_labels_13 : decode cX1_labels 13 = .ok (.aload_n 0, 1) := by decide +kernel
theorem dX1_labels_14 : decode cX1_labels 14 = .ok (.getfield 57, 3) := by decide +kernel
theorem dX1_labels_17 : decode cX1_labels 17 = .ok (.imul, 1) := by decide +kernel
theorem dX1_labels_18 : decode cX1_labels 18 = .ok (.iadd, 1) := by decide +kernel
theorem dX1_labels_19 : decode cX1_labels 19 = .ok (.ireturn, 1) := by decide +kernel
theorem dX1_addFunction_0 : decode cX1_addFunction 0 = .ok (.aload_n 0, 1) := by decide +kernel
theorem dX1_addFunction_1 : decode cX1_addFunction 1 = .ok (.getfield 63, 3) := by decide +kernel
theorem dX1_addFunction_4 : decode cX1_addFunction 4 = .ok (.bipush 10, 2) := by decide +kernel
theorem dX1_addFunction_6 : decode cX1_addFunction 6 = .ok (.if_icmp .le 5, 3) := by decide +kernel
theorem dX1_addFunction_9 : decode cX1_addFunction 9 = .ok (.iconst (-1), 1) := by decide +kernel
theorem dX1_addFunction_10 : decode cX1_addFunction 10 = .ok (.ireturn, 1) := by decide +kernel
theorem dX1_addFunction_11 : decode cX1_addFunction 11 = .ok (.aload_n 0, 1) := by decide +kernel
theorem dX1_addFunction_12 : decode cX1_addFunction 12 = .ok (.getfield 63, 3) := by decide +kernel
theorem dX1_addFunction_15 : decode cX1_addFunction 15 = .ok (.istore_n 2, 1) := by decide +kernel
theorem dX1_addFunction_16 : decode cX1_addFunction 16 = .ok (.aload_n 0, 1) := by decide +kernel
theorem dX1_addFunction_17 : decode cX1_addFunction 17 = .ok (.dup, 1) := by decide +kernel
theorem dX1_addFunction_18 : decode cX1_addFunction 18 = .ok (.getfield 63, 3) := by decide +kernel
theorem dX1_addFunction_21 : decode cX1_addFunction 21 = .ok (.iconst 1, 1) := by decide +kernel
theorem dX1_addFunction_22 : decode cX1_addFunction 22 = .ok (.iadd, 1) := by decide +kernel
theorem dX1_addFunction_23 : decode cX1_addFunction 23 = .ok (.putfield 63, 3) := by decide +kernel
theorem dX1_addFunction_26 : decode cX1_addFunction 26 = .ok (.aload_n 0, 1) := by decide +kernel
theorem dX1_addFunction_27 : decode cX1_addFunction 27 = .ok (.getfield 33, 3) := by decide +kernel
theorem dX1_addFunction_30 : decode cX1_addFunction 30 = .ok (.iload_n 2, 1) := by decide +kernel
theorem dX1_addFunction_31 : decode cX1_addFunction 31 = .ok (.iload_n 1, 1) := by decide +kernel
theorem dX1_addFunction_32 : decode cX1_addFunction 32 = .ok (.iastore, 1) := by decide +kernel
theorem dX1_addFunction_33 : decode cX1_addFunction 33 = .ok (.aload_n 0, 1) := by decide +kernel
theorem dX1_addFunction_34 : decode cX1_addFunction 34 = .ok (.getfield 36, 3) := by decide +kernel
theorem dX1_addFunction_37 : decode cX1_addFunction 37 = .ok (.iload_n 2, 1) := by decide +kernel
theorem dX1_addFunction_38 : decode cX1_addFunction 38 = .ok (.iconst 0, 1) := by decide +kernel
theorem dX1_addFunction_39 : decode cX1_addFunction 39 = .ok (.iastore, 1) := by decide +kernel
theorem dX1_addFunction_40 : decode cX1_addFunction 40 = .ok (.aload_n 0, 1) := by decide +kernel
theorem dX1_addFunction_41 : decode cX1_addFunction 41 = .ok (.getfield 39, 3) := by decide +kernel
theorem dX1_addFunction_44 : decode cX1_addFunction 44 = .ok (.iload_n 2, 1) := by decide +kernel
theorem dX1_addFunction_45 : decode cX1_addFunction 45 = .ok (.iconst (-1), 1) := by decide +kernel
theorem dX1_addFunction_46 : decode cX1_addFunction 46 = .ok (.iastore, 1) := by decide +kernel
theorem dX1_addFunction_47 : decode cX1_addFunction 47 = .ok (.aload_n 0, 1) := by decide +kernel
theorem dX1_addFunction_48 : decode cX1_addFunction 48 = .ok (.getfield 42, 3) := by decide +kernel
theorem dX1_addFunction_51 : decode cX1_addFunction 51 = .ok (.iload_n 2, 1) := by decide +kernel
theorem dX1_addFunction_52 : decode cX1_addFunction 52 = .ok (.iconst (-1), 1) := by decide +kernel
theorem dX1_addFunction_53 : decode cX1_addFunction 53 = .ok (.iastore, 1) := by decide +kernel
theorem dX1_addFunction_54 : decode cX1_addFunction 54 = .ok (.aload_n 0, 1) := by decide +kernel
theorem dX1_addFunction_55 : decode cX1_addFunction 55 = .ok (.getfield 50, 3) := by decide +kernel
theorem dX1_addFunction_58 : decode cX1_addFunction 58 = .ok (.iload_n 2, 1) := by decide +kernel
theorem dX1_addFunction_59 : decode cX1_addFunction 59 = .ok (.iconst 0, 1) := by decide +kernel
theorem dX1_addFunction_60 : decode cX1_addFunction 60 = .ok (.iastore, 1) := by decide +kernel
theorem dX1_addFunction_61 : decode cX1_addFunction 61 = .ok (.iload_n 2, 1) := by decide +kernel
theorem dX1_addFunction_62 : decode cX1_addFunction 62 = .ok (.ireturn, 1) := by decide +kernel
theorem dX1_rise_0 : decode cX1_rise 0 = .ok (.aload_n 0, 1) := by decide +kernel
theorem dX1_rise_1 : decode cX1_rise 1 = .ok (.getfield 9, 3) := by decide +kernel
theorem dX1_rise_4 : decode cX1_rise 4 = .ok (.iload_n 1, 1) := by decide +kernel
theorem dX1_rise_5 : decode cX1_rise 5 = .ok (.iaload, 1) := by decide +kernel
theorem dX1_rise_6 : decode cX1_rise 6 = .ok (.bipush 15, 2) := by decide +kernel
theorem dX1_rise_8 : decode cX1_rise 8 = .ok (.if_icmp .ne 12, 3) := by decide +kernel
theorem dX1_rise_11 : decode cX1_rise 11 = .ok (.iconst (-1), 1) := by decide +kernel
theorem dX1_rise_12 : decode cX1_rise 12 = .ok (.aload_n 0, 1) := by decide +kernel
theorem dX1_rise_13 : decode cX1_rise 13 = .ok (.getfield 15, 3) := by decide +kernel
theorem dX1_rise_16 : decode cX1_rise 16 = .ok (.iload_n 1, 1) := by decide +kernel
theorem dX1_rise_17 : decode cX1_rise 17 = .ok (.iaload, 1) := by decide +kernel
theorem dX1_rise_18 : decode cX1_rise 18 = .ok (.isub, 1) := by decide +kernel
theorem dX1_rise_19 : decode cX1_rise 19 = .ok (.ireturn, 1) := by decide +kernel
theorem dX1_rise_20 : decode cX1_rise 20 = .ok (.aload_n 0, 1) := by decide +kernel
theorem dX1_rise_21 : decode cX1_rise 21 = .ok (.getfield 9, 3) := by decide +kernel
theorem dX1_rise_24 : decode cX1_rise 24 = .ok (.iload_n 1, 1) := by decide +kernel
theorem dX1_rise_25 : decode cX1_rise 25 = .ok (.iaload, 1) := by decide +kernel
theorem dX1_rise_26 : decode cX1_rise 26 = .ok (.bipush 16, 2) := by decide +kernel
theorem dX1_rise_28 : decode cX1_rise 28 = .ok (.if_icmp .ne 13, 3) := by decide +kernel
theorem dX1_rise_31 : decode cX1_rise 31 = .ok (.aload_n 0, 1) := by decide +kernel
theorem dX1_rise_32 : decode cX1_rise 32 = .ok (.getfield 15, 3) := by decide +kernel
theorem dX1_rise_35 : decode cX1_rise 35 = .ok (.iload_n 1, 1) := by decide +kernel
theorem dX1_rise_36 : decode cX1_rise 36 = .ok (.iaload, 1) := by decide +kernel
theorem dX1_rise_37 : decode cX1_rise 37 = .ok (.ineg, 1) := by decide +kernel
theorem dX1_rise_38 : decode cX1_rise 38 = .ok (.goto 13, 3) := by decide +kernel
theorem dX1_rise_41 : decode cX1_rise 41 = .ok (.getstatic 74, 3) := by decide +kernel
theorem dX1_rise_44 : decode cX1_rise 44 = .ok (.aload_n 0, 1) := by decide +kernel
theorem dX1_rise_45 : decode cX1_rise 45 = .ok (.getfield 9, 3) := by decide +kernel
theorem dX1_rise_48 : decode cX1_rise 48 = .ok (.iload_n 1, 1) := by decide +kernel
theorem dX1_rise_49 : decode cX1_rise 49 = .ok (.iaload, 1) := by decide +kernel
theorem dX1_rise_50 : decode cX1_rise 50 = .ok (.iaload, 1) := by decide +kernel
theorem dX1_rise_51 : decode cX1_rise 51 = .ok (.ireturn, 1) := by decide +kernel
theorem dX1_findHeights_0 : decode cX1_findHeights 0 = .ok (.aload_n 0, 1) := by decide +kernel
theorem dX1_findHeights_1 : decode cX1_findHeights 1 = .ok (.getfield 24, 3) := by decide +kernel
theorem dX1_findHeights_4 : decode cX1_findHeights 4 = .ok (.iconst (-1), 1) := by decide +kernel
theorem dX1_findHeights_5 : decode cX1_findHeights 5 = .ok (.invokestatic 77, 3) := by decide +kernel
theorem dX1_findHeights_8 : decode cX1_findHeights 8 = .ok (.iconst 0, 1) := by decide +kernel
theorem dX1_findHeights_9 : decode cX1_findHeights 9 = .ok (.istore_n 1, 1) := by decide +kernel
theorem dX1_findHeights_10 : decode cX1_findHeights 10 = .ok (.iload_n 1, 1) := by decide +kernel
theorem dX1_findHeights_11 : decode cX1_findHeights 11 = .ok (.aload_n 0, 1) := by decide +kernel
theorem dX1_findHeights_12 : decode cX1_findHeights 12 = .ok (.getfield 63, 3) := by decide +kernel
theorem dX1_findHeights_15 : decode cX1_findHeights 15 = .ok (.if_icmp .ge 21, 3) := by decide +kernel
theorem dX1_findHeights_18 : decode cX1_findHeights 18 = .ok (.aload_n 0, 1) := by decide +kernel
theorem dX1_findHeights_19 : decode cX1_findHeights 19 = .ok (.aload_n 0, 1) := by decide +kernel
theorem dX1_findHeights_20 : decode cX1_findHeights 20 = .ok (.getfield 30, 3) := by decide +kernel
theorem dX1_findHeights_23 : decode cX1_findHeights 23 = .ok (.iload_n 1, 1) := by decide +kernel
theorem dX1_findHeights_24 : decode cX1_findHeights 24 = .ok (.iaload, 1) := by decide +kernel
theorem dX1_findHeights_25 : decode cX1_findHeights 25 = .ok (.iconst 0, 1) := by decide +kernel
theorem dX1_findHeights_26 : decode cX1_findHeights 26 = .ok (.iconst (-1), 1) := by decide +kernel
theorem dX1_findHeights_27 : decode cX1_findHeights 27 = .ok (.invokevirtual 83, 3) := by decide +kernel
theorem dX1_findHeights_30 : decode cX1_findHeights 30 = .ok (.iinc 1 1, 3) := by decide +kernel
theorem dX1_findHeights_33 : decode cX1_findHeights 33 = .ok (.goto (-23), 3) := by decide +kernel
theorem dX1_findHeights_36 : decode cX1_findHeights 36 = .ok (.aload_n 0, 1) := by decide +kernel
theorem dX1_findHeights_37 : decode cX1_findHeights 37 = .ok (.iconst 1, 1) := by decide +kernel
theorem dX1_findHeights_38 : decode cX1_findHeights 38 = .ok (.putfield 87, 3) := by decide +kernel
theorem dX1_findHeights_41 : decode cX1_findHeights 41 = .ok (.iconst 0, 1) := by decide +kernel
theorem dX1_findHeights_42 : decode cX1_findHeights 42 = .ok (.istore_n 1, 1) := by decide +kernel
theorem dX1_findHeights_43 : decode cX1_findHeights 43 = .ok (.iload_n 1, 1) := by decide +kernel
theorem dX1_findHeights_44 : decode cX1_findHeights 44 = .ok (.aload_n 0, 1) := by decide +kernel
theorem dX1_findHeights_45 : decode cX1_findHeights 45 = .ok (.getfield 53, 3) := by decide +kernel
theorem dX1_findHeights_48 : decode cX1_findHeights 48 = .ok (.if_icmp .gt 51, 3) := by decide +kernel
theorem dX1_findHeights_51 : decode cX1_findHeights 51 = .ok (.aload_n 0, 1) := by decide +kernel
theorem dX1_findHeights_52 : decode cX1_findHeights 52 = .ok (.getfield 87, 3) := by decide +kernel
theorem dX1_findHeights_55 : decode cX1_findHeights 55 = .ok (.ifCond .eq 44, 3) := by decide +kernel
theorem dX1_findHeights_58 : decode cX1_findHeights 58 = .ok (.aload_n 0, 1) := by decide +kernel
theorem dX1_findHeights_59 : decode cX1_findHeights 59 = .ok (.iconst 0, 1) := by decide +kernel
theorem dX1_findHeights_60 : decode cX1_findHeights 60 = .ok (.putfield 87, 3) := by decide +kernel
theorem dX1_findHeights_63 : decode cX1_findHeights 63 = .ok (.iconst 0, 1) := by decide +kernel
theorem dX1_findHeights_64 : decode cX1_findHeights 64 = .ok (.istore_n 2, 1) := by decide +kernel
theorem dX1_findHeights_65 : decode cX1_findHeights 65 = .ok (.iload_n 2, 1) := by decide +kernel
theorem dX1_findHeights_66 : decode cX1_findHeights 66 = .ok (.aload_n 0, 1) := by decide +kernel
theorem dX1_findHeights_67 : decode cX1_findHeights 67 = .ok (.getfield 53, 3) := by decide +kernel
theorem dX1_findHeights_70 : decode cX1_findHeights 70 = .ok (.if_icmp .ge 23, 3) := by decide +kernel
theorem dX1_findHeights_73 : decode cX1_findHeights 73 = .ok (.aload_n 0, 1) := by decide +kernel
theorem dX1_findHeights_74 : decode cX1_findHeights 74 = .ok (.getfield 24, 3) := by decide +kernel
theorem dX1_findHeights_77 : decode cX1_findHeights 77 = .ok (.iload_n 2, 1) := by decide +kernel
theorem dX1_findHeights_78 : decode cX1_findHeights 78 = .ok (.iaload, 1) := by decide +kernel
theorem dX1_findHeights_79 : decode cX1_findHeights 79 = .ok (.ifCond .lt 8, 3) := by decide +kernel
theorem dX1_findHeights_82 : decode cX1_findHeights 82 = .ok (.aload_n 0, 1) := by decide +kernel
theorem dX1_findHeights_83 : decode cX1_findHeights 83 = .ok (.iload_n 2, 1) := by decide +kernel
theorem dX1_findHeights_84 : decode cX1_findHeights 84 = .ok (.invokevirtual 91, 3) := by decide +kernel
theorem dX1_findHeights_87 : decode cX1_findHeights 87 = .ok (.iinc 2 1, 3) := by decide +kernel
theorem dX1_findHeights_90 : decode cX1_findHeights 90 = .ok (.goto (-25), 3) := by decide +kernel
theorem dX1_findHeights_93 : decode cX1_findHeights 93 = .ok (.iinc 1 1, 3) := by decide +kernel
theorem dX1_findHeights_96 : decode cX1_findHeights 96 = .ok (.goto (-53), 3) := by decide +kernel
theorem dX1_findHeights_99 : decode cX1_findHeights 99 = .ok (.return_, 1) := by decide +kernel
theorem dX1_arrive_0 : decode cX1_arrive 0 = .ok (.iload_n 1, 1) := by decide +kernel
theorem dX1_arrive_1 : decode cX1_arrive 1 = .ok (.ifCond .lt 43, 3) := by decide +kernel
theorem dX1_arrive_4 : decode cX1_arrive 4 = .ok (.iload_n 1, 1) := by decide +kernel
theorem dX1_arrive_5 : decode cX1_arrive 5 = .ok (.aload_n 0, 1) := by decide +kernel
theorem dX1_arrive_6 : decode cX1_arrive 6 = .ok (.getfield 53, 3) := by decide +kernel
theorem dX1_arrive_9 : decode cX1_arrive 9 = .ok (.if_icmp .ge 35, 3) := by decide +kernel
theorem dX1_arrive_12 : decode cX1_arrive 12 = .ok (.aload_n 0, 1) := by decide +kernel
theorem dX1_arrive_13 : decode cX1_arrive 13 = .ok (.getfield 24, 3) := by decide +kernel
theorem dX1_arrive_16 : decode cX1_arrive 16 = .ok (.iload_n 1, 1) := by decide +kernel
theorem dX1_arrive_17 : decode cX1_arrive 17 = .ok (.iaload, 1) := by decide +kernel
theorem dX1_arrive_18 : decode cX1_arrive 18 = .ok (.ifCond .ge 26, 3) := by decide +kernel
theorem dX1_arrive_21 : decode cX1_arrive 21 = .ok (.iload_n 2, 1) := by decide +kernel
theorem dX1_arrive_22 : decode cX1_arrive 22 = .ok (.ifCond .lt 22, 3) := by decide +kernel
theorem dX1_arrive_25 : decode cX1_arrive 25 = .ok (.aload_n 0, 1) := by decide +kernel
theorem dX1_arrive_26 : decode cX1_arrive 26 = .ok (.getfield 24, 3) := by decide +kernel
theorem dX1_arrive_29 : decode cX1_arrive 29 = .ok (.iload_n 1, 1) := by decide +kernel
theorem dX1_arrive_30 : decode cX1_arrive 30 = .ok (.iload_n 2, 1) := by decide +kernel
theorem dX1_arrive_31 : decode cX1_arrive 31 = .ok (.iastore, 1) := by decide +kernel
theorem dX1_arrive_32 : decode cX1_arrive 32 = .ok (.aload_n 0, 1) := by decide +kernel
theorem dX1_arrive_33 : decode cX1_arrive 33 = .ok (.getfield 27, 3) := by decide +kernel
theorem dX1_arrive_36 : decode cX1_arrive 36 = .ok (.iload_n 1, 1) := by decide +kernel
theorem dX1_arrive_37 : decode cX1_arrive 37 = .ok (.iload_n 3, 1) := by decide +kernel
theorem dX1_arrive_38 : decode cX1_arrive 38 = .ok (.iastore, 1) := by decide +kernel
theorem dX1_arrive_39 : decode cX1_arrive 39 = .ok (.aload_n 0, 1) := by decide +kernel
theorem dX1_arrive_40 : decode cX1_arrive 40 = .ok (.iconst 1, 1) := by decide +kernel
theorem dX1_arrive_41 : decode cX1_arrive 41 = .ok (.putfield 87, 3) := by decide +kernel
theorem dX1_arrive_44 : decode cX1_arrive 44 = .ok (.return_, 1) := by decide +kernel
theorem dX1_follow_0 : decode cX1_follow 0 = .ok (.aload_n 0, 1) := by decide +kernel
theorem dX1_follow_1 : decode cX1_follow 1 = .ok (.getfield 24, 3) := by decide +kernel
theorem dX1_follow_4 : decode cX1_follow 4 = .ok (.iload_n 1, 1) := by decide +kernel
theorem dX1_follow_5 : decode cX1_follow 5 = .ok (.iaload, 1) := by decide +kernel
theorem dX1_follow_6 : decode cX1_follow 6 = .ok (.istore_n 2, 1) := by decide +kernel
theorem dX1_follow_7 : decode cX1_follow 7 = .ok (.aload_n 0, 1) := by decide +kernel
theorem dX1_follow_8 : decode cX1_follow 8 = .ok (.getfield 27, 3) := by decide +kernel
theorem dX1_follow_11 : decode cX1_follow 11 = .ok (.iload_n 1, 1) := by decide +kernel
theorem dX1_follow_12 : decode cX1_follow 12 = .ok (.iaload, 1) := by decide +kernel
theorem dX1_follow_13 : decode cX1_follow 13 = .ok (.istore_n 3, 1) := by decide +kernel
theorem dX1_follow_14 : decode cX1_follow 14 = .ok (.iload_n 3, 1) := by decide +kernel
theorem dX1_follow_15 : decode cX1_follow 15 = .ok (.ifCond .ge 7, 3) := by decide +kernel
theorem dX1_follow_18 : decode cX1_follow 18 = .ok (.iconst (-1), 1) := by decide +kernel
theorem dX1_follow_19 : decode cX1_follow 19 = .ok (.goto 9, 3) := by decide +kernel
theorem dX1_follow_22 : decode cX1_follow 22 = .ok (.aload_n 0, 1) := by decide +kernel
theorem dX1_follow_23 : decode cX1_follow 23 = .ok (.getfield 27, 3) := by decide +kernel
theorem dX1_follow_26 : decode cX1_follow 26 = .ok (.iload_n 3, 1) := by decide +kernel
theorem dX1_follow_27 : decode cX1_follow 27 = .ok (.iaload, 1) := by decide +kernel
theorem dX1_follow_28 : decode cX1_follow 28 = .ok (.istore 4, 2) := by decide +kernel
theorem dX1_follow_30 : decode cX1_follow 30 = .ok (.aload_n 0, 1) := by decide +kernel
theorem dX1_follow_31 : decode cX1_follow 31 = .ok (.getfield 9, 3) := by decide +kernel
theorem dX1_follow_34 : decode cX1_follow 34 = .ok (.iload_n 1, 1) := by decide +kernel
theorem dX1_follow_35 : decode cX1_follow 35 = .ok (.iaload, 1) := by decide +kernel
theorem dX1_follow_36 : decode cX1_follow 36 = .ok (.tableswitch 119 21 30 #[57, 70, 87, 87, 56, 56, 102, 119, 119, 70], 56) := by decide +kernel
theorem dX1_follow_92 : decode cX1_follow 92 = .ok (.return_, 1) := by decide +kernel
theorem dX1_follow_93 : decode cX1_follow 93 = .ok (.aload_n 0, 1) := by decide +kernel
theorem dX1_follow_94 : decode cX1_follow 94 = .ok (.aload_n 0, 1) := by decide +kernel
theorem dX1_follow_95 : decode cX1_follow 95 = .ok (.getfield 15, 3) := by decide +kernel
theorem dX1_follow_98 : decode cX1_follow 98 = .ok (.iload_n 1, 1) := by decide +kernel
theorem dX1_follow_99 : decode cX1_follow 99 = .ok (.iaload, 1) := by decide +kernel
theorem dX1_follow_100 : decode cX1_follow 100 = .ok (.iload_n 2, 1) := by decide +kernel
theorem dX1_follow_101 : decode cX1_follow 101 = .ok (.iload_n 3, 1) := by decide +kernel
theorem dX1_follow_102 : decode cX1_follow 102 = .ok (.invokevirtual 83, 3) := by decide +kernel
theorem dX1_follow_105 : decode cX1_follow 105 = .ok (.return_, 1) := by decide +kernel
theorem dX1_follow_106 : decode cX1_follow 106 = .ok (.aload_n 0, 1) := by decide +kernel
theorem dX1_follow_107 : decode cX1_follow 107 = .ok (.aload_n 0, 1) := by decide +kernel
theorem dX1_follow_108 : decode cX1_follow 108 = .ok (.getfield 15, 3) := by decide +kernel
theorem dX1_follow_111 : decode cX1_follow 111 = .ok (.iload_n 1, 1) := by decide +kernel
theorem dX1_follow_112 : decode cX1_follow 112 = .ok (.iaload, 1) := by decide +kernel
theorem dX1_follow_113 : decode cX1_follow 113 = .ok (.iload_n 2, 1) := by decide +kernel
theorem dX1_follow_114 : decode cX1_follow 114 = .ok (.iconst 1, 1) := by decide +kernel
theorem dX1_follow_115 : decode cX1_follow 115 = .ok (.isub, 1) := by decide +kernel
theorem dX1_follow_116 : decode cX1_follow 116 = .ok (.iload_n 3, 1) := by decide +kernel
theorem dX1_follow_117 : decode cX1_follow 117 = .ok (.invokevirtual 83, 3) := by decide +kernel
theorem dX1_follow_120 : decode cX1_follow 120 = .ok (.goto 35, 3) := by decide +kernel
theorem dX1_follow_123 : decode cX1_follow 123 = .ok (.aload_n 0, 1) := by decide +kernel
theorem dX1_follow_124 : decode cX1_follow 124 = .ok (.aload_n 0, 1) := by decide +kernel
theorem dX1_follow_125 : decode cX1_follow 125 = .ok (.getfield 15, 3) := by decide +kernel
theorem dX1_follow_128 : decode cX1_follow 128 = .ok (.iload_n 1, 1) := by decide +kernel
theorem dX1_follow_129 : decode cX1_follow 129 = .ok (.iaload, 1) := by decide +kernel
theorem dX1_follow_130 : decode cX1_follow 130 = .ok (.iload_n 2, 1) := by decide +kernel
theorem dX1_follow_131 : decode cX1_follow 131 = .ok (.iload_n 3, 1) := by decide +kernel
theorem dX1_follow_132 : decode cX1_follow 132 = .ok (.invokevirtual 83, 3) := by decide +kernel
theorem dX1_follow_135 : decode cX1_follow 135 = .ok (.goto 20, 3) := by decide +kernel
theorem dX1_follow_138 : decode cX1_follow 138 = .ok (.aload_n 0, 1) := by decide +kernel
theorem dX1_follow_139 : decode cX1_follow 139 = .ok (.aload_n 0, 1) := by decide +kernel
theorem dX1_follow_140 : decode cX1_follow 140 = .ok (.getfield 15, 3) := by decide +kernel
theorem dX1_follow_143 : decode cX1_follow 143 = .ok (.iload_n 1, 1) := by decide +kernel
theorem dX1_follow_144 : decode cX1_follow 144 = .ok (.iaload, 1) := by decide +kernel
theorem dX1_follow_145 : decode cX1_follow 145 = .ok (.iload_n 2, 1) := by decide +kernel
theorem dX1_follow_146 : decode cX1_follow 146 = .ok (.iconst 1, 1) := by decide +kernel
theorem dX1_follow_147 : decode cX1_follow 147 = .ok (.iadd, 1) := by decide +kernel
theorem dX1_follow_148 : decode cX1_follow 148 = .ok (.iload_n 3, 1) := by decide +kernel
theorem dX1_follow_149 : decode cX1_follow 149 = .ok (.invokevirtual 83, 3) := by decide +kernel
theorem dX1_follow_152 : decode cX1_follow 152 = .ok (.goto 3, 3) := by decide +kernel
theorem dX1_follow_155 : decode cX1_follow 155 = .ok (.aload_n 0, 1) := by decide +kernel
theorem dX1_follow_156 : decode cX1_follow 156 = .ok (.getfield 9, 3) := by decide +kernel
theorem dX1_follow_159 : decode cX1_follow 159 = .ok (.iload_n 1, 1) := by decide +kernel
theorem dX1_follow_160 : decode cX1_follow 160 = .ok (.iaload, 1) := by decide +kernel
theorem dX1_follow_161 : decode cX1_follow 161 = .ok (.bipush 28, 2) := by decide +kernel
theorem dX1_follow_163 : decode cX1_follow 163 = .ok (.if_icmp .ne 8, 3) := by decide +kernel
theorem dX1_follow_166 : decode cX1_follow 166 = .ok (.iload 4, 2) := by decide +kernel
theorem dX1_follow_168 : decode cX1_follow 168 = .ok (.goto 4, 3) := by decide +kernel
theorem dX1_follow_171 : decode cX1_follow 171 = .ok (.iload_n 3, 1) := by decide +kernel
theorem dX1_follow_172 : decode cX1_follow 172 = .ok (.istore 5, 2) := by decide +kernel
theorem dX1_follow_174 : decode cX1_follow 174 = .ok (.aload_n 0, 1) := by decide +kernel
theorem dX1_follow_175 : decode cX1_follow 175 = .ok (.iload_n 1, 1) := by decide +kernel
theorem dX1_follow_176 : decode cX1_follow 176 = .ok (.iconst 1, 1) := by decide +kernel
theorem dX1_follow_177 : decode cX1_follow 177 = .ok (.iadd, 1) := by decide +kernel
theorem dX1_follow_178 : decode cX1_follow 178 = .ok (.iload_n 2, 1) := by decide +kernel
theorem dX1_follow_179 : decode cX1_follow 179 = .ok (.aload_n 0, 1) := by decide +kernel
theorem dX1_follow_180 : decode cX1_follow 180 = .ok (.iload_n 1, 1) := by decide +kernel
theorem dX1_follow_181 : decode cX1_follow 181 = .ok (.invokevirtual 95, 3) := by decide +kernel
theorem dX1_follow_184 : decode cX1_follow 184 = .ok (.iadd, 1) := by decide +kernel
theorem dX1_follow_185 : decode cX1_follow 185 = .ok (.aload_n 0, 1) := by decide +kernel
theorem dX1_follow_186 : decode cX1_follow 186 = .ok (.getfield 9, 3) := by decide +kernel
theorem dX1_follow_189 : decode cX1_follow 189 = .ok (.iload_n 1, 1) := by decide +kernel
theorem dX1_follow_190 : decode cX1_follow 190 = .ok (.iaload, 1) := by decide +kernel
theorem dX1_follow_191 : decode cX1_follow 191 = .ok (.bipush 27, 2) := by decide +kernel
theorem dX1_follow_193 : decode cX1_follow 193 = .ok (.if_icmp .ne 7, 3) := by decide +kernel
theorem dX1_follow_196 : decode cX1_follow 196 = .ok (.iload_n 1, 1) := by decide +kernel
theorem dX1_follow_197 : decode cX1_follow 197 = .ok (.goto 5, 3) := by decide +kernel
theorem dX1_follow_200 : decode cX1_follow 200 = .ok (.iload 5, 2) := by decide +kernel
theorem dX1_follow_202 : decode cX1_follow 202 = .ok (.invokevirtual 83, 3) := by decide +kernel
theorem dX1_follow_205 : decode cX1_follow 205 = .ok (.return_, 1) := by decide +kernel
theorem dX2_clear_0 : decode cX2_clear 0 = .ok (.aload_n 0, 1) := by decide +kernel
theorem dX2_clear_1 : decode cX2_clear 1 = .ok (.iconst 0, 1) := by decide +kernel
theorem dX2_clear_2 : decode cX2_clear 2 = .ok (.putfield 46, 3) := by decide +kernel
theorem dX2_clear_5 : decode cX2_clear 5 = .ok (.aload_n 0, 1) := by decide +kernel
theorem dX2_clear_6 : decode cX2_clear 6 = .ok (.iconst 0, 1) := by decide +kernel
theorem dX2_clear_7 : decode cX2_clear 7 = .ok (.putfield 50, 3) := by decide +kernel
theorem dX2_clear_10 : decode cX2_clear 10 = .ok (.aload_n 0, 1) := by decide +kernel
theorem dX2_clear_11 : decode cX2_clear 11 = .ok (.iconst 0, 1) := by decide +kernel
theorem dX2_clear_12 : decode cX2_clear 12 = .ok (.putfield 53, 3) := by decide +kernel
theorem dX2_clear_15 : decode cX2_clear 15 = .ok (.aload_n 0, 1) := by decide +kernel
theorem dX2_clear_16 : decode cX2_clear 16 = .ok (.iconst 0, 1) := by decide +kernel
theorem dX2_clear_17 : decode cX2_clear 17 = .ok (.putfield 56, 3) := by decide +kernel
theorem dX2_clear_20 : decode cX2_clear 20 = .ok (.return_, 1) := by decide +kernel
theorem dX2_makeCode_0 : decode cX2_makeCode 0 = .ok (.aload_n 0, 1) := by decide +kernel
theorem dX2_makeCode_1 : decode cX2_makeCode 1 = .ok (.getfield 42, 3) := by decide +kernel
theorem dX2_makeCode_4 : decode cX2_makeCode 4 = .ok (.iconst 0, 1) := by decide +kernel
theorem dX2_makeCode_5 : decode cX2_makeCode 5 = .ok (.putfield 74, 3) := by decide +kernel
theorem dX2_makeCode_8 : decode cX2_makeCode 8 = .ok (.aload_n 0, 1) := by decide +kernel
theorem dX2_makeCode_9 : decode cX2_makeCode 9 = .ok (.getfield 42, 3) := by decide +kernel
theorem dX2_makeCode_12 : decode cX2_makeCode 12 = .ok (.iconst 0, 1) := by decide +kernel
theorem dX2_makeCode_13 : decode cX2_makeCode 13 = .ok (.putfield 79, 3) := by decide +kernel
theorem dX2_makeCode_16 : decode cX2_makeCode 16 = .ok (.aload_n 0, 1) := by decide +kernel
theorem dX2_makeCode_17 : decode cX2_makeCode 17 = .ok (.iconst 0, 1) := by decide +kernel
theorem dX2_makeCode_18 : decode cX2_makeCode 18 = .ok (.putfield 82, 3) := by decide +kernel
theorem dX2_makeCode_21 : decode cX2_makeCode 21 = .ok (.aload_n 0, 1) := by decide +kernel
theorem dX2_makeCode_22 : decode cX2_makeCode 22 = .ok (.getfield 24, 3) := by decide +kernel
theorem dX2_makeCode_25 : decode cX2_makeCode 25 = .ok (.iconst (-1), 1) := by decide +kernel
theorem dX2_makeCode_26 : decode cX2_makeCode 26 = .ok (.invokestatic 85, 3) := by decide +kernel
theorem dX2_makeCode_29 : decode cX2_makeCode 29 = .ok (.aload_n 0, 1) := by decide +kernel
theorem dX2_makeCode_30 : decode cX2_makeCode 30 = .ok (.getfield 21, 3) := by decide +kernel
theorem dX2_makeCode_33 : decode cX2_makeCode 33 = .ok (.iconst 0, 1) := by decide +kernel
theorem dX2_makeCode_34 : decode cX2_makeCode 34 = .ok (.invokestatic 85, 3) := by decide +kernel
theorem dX2_makeCode_37 : decode cX2_makeCode 37 = .ok (.aload_n 0, 1) := by decide +kernel
theorem dX2_makeCode_38 : decode cX2_makeCode 38 = .ok (.invokevirtual 91, 3) := by decide +kernel
theorem dX2_makeCode_41 : decode cX2_makeCode 41 = .ok (.iconst 0, 1) := by decide +kernel
theorem dX2_makeCode_42 : decode cX2_makeCode 42 = .ok (.istore_n 2, 1) := by decide +kernel
theorem dX2_makeCode_43 : decode cX2_makeCode 43 = .ok (.iload_n 2, 1) := by decide +kernel
theorem dX2_makeCode_44 : decode cX2_makeCode 44 = .ok (.aload_n 0, 1) := by decide +kernel
theorem dX2_makeCode_45 : decode cX2_makeCode 45 = .ok (.getfield 42, 3) := by decide +kernel
theorem dX2_makeCode_48 : decode cX2_makeCode 48 = .ok (.getfield 94, 3) := by decide +kernel
theorem dX2_makeCode_51 : decode cX2_makeCode 51 = .ok (.if_icmp .ge 75, 3) := by decide +kernel
theorem dX2_makeCode_54 : decode cX2_makeCode 54 = .ok (.aload_n 0, 1) := by decide +kernel
theorem dX2_makeCode_55 : decode cX2_makeCode 55 = .ok (.getfield 56, 3) := by decide +kernel
theorem dX2_makeCode_58 : decode cX2_makeCode 58 = .ok (.ifCond .ne 68, 3) := by decide +kernel
theorem dX2_makeCode_61 : decode cX2_makeCode 61 = .ok (.aload_n 0, 1) := by decide +kernel
theorem dX2_makeCode_62 : decode cX2_makeCode 62 = .ok (.iload_n 2, 1) := by decide +kernel
theorem dX2_makeCode_63 : decode cX2_makeCode 63 = .ok (.putfield 97, 3) := by decide +kernel
theorem dX2_makeCode_66 : decode cX2_makeCode 66 = .ok (.aload_n 0, 1) := by decide +kernel
theorem dX2_makeCode_67 : decode cX2_makeCode 67 = .ok (.getfield 42, 3) := by decide +kernel
theorem dX2_makeCode_70 : decode cX2_makeCode 70 = .ok (.getfield 100, 3) := by decide +kernel
theorem dX2_makeCode_73 : decode cX2_makeCode 73 = .ok (.iload_n 2, 1) := by decide +kernel
theorem dX2_makeCode_74 : decode cX2_makeCode 74 = .ok (.aload_n 0, 1) := by decide +kernel
theorem dX2_makeCode_75 : decode cX2_makeCode 75 = .ok (.getfield 42, 3) := by decide +kernel
theorem dX2_makeCode_78 : decode cX2_makeCode 78 = .ok (.getfield 74, 3) := by decide +kernel
theorem dX2_makeCode_81 : decode cX2_makeCode 81 = .ok (.iastore, 1) := by decide +kernel
theorem dX2_makeCode_82 : decode cX2_makeCode 82 = .ok (.aload_n 0, 1) := by decide +kernel
theorem dX2_makeCode_83 : decode cX2_makeCode 83 = .ok (.iload_n 2, 1) := by decide +kernel
theorem dX2_makeCode_84 : decode cX2_makeCode 84 = .ok (.invokevirtual 103, 3) := by decide +kernel
theorem dX2_makeCode_87 : decode cX2_makeCode 87 = .ok (.aload_n 0, 1) := by decide +kernel
theorem dX2_makeCode_88 : decode cX2_makeCode 88 = .ok (.aload_n 0, 1) := by decide +kernel
theorem dX2_makeCode_89 : decode cX2_makeCode 89 = .ok (.getfield 27, 3) := by decide +kernel
theorem dX2_makeCode_92 : decode cX2_makeCode 92 = .ok (.iload_n 2, 1) := by decide +kernel
theorem dX2_makeCode_93 : decode cX2_makeCode 93 = .ok (.iaload, 1) := by decide +kernel
theorem dX2_makeCode_94 : decode cX2_makeCode 94 = .ok (.aload_n 0, 1) := by decide +kernel
theorem dX2_makeCode_95 : decode cX2_makeCode 95 = .ok (.getfield 30, 3) := by decide +kernel
theorem dX2_makeCode_98 : decode cX2_makeCode 98 = .ok (.iload_n 2, 1) := by decide +kernel
theorem dX2_makeCode_99 : decode cX2_makeCode 99 = .ok (.iaload, 1) := by decide +kernel
theorem dX2_makeCode_100 : decode cX2_makeCode 100 = .ok (.iconst (-1), 1) := by decide +kernel
theorem dX2_makeCode_101 : decode cX2_makeCode 101 = .ok (.iconst 0, 1) := by decide +kernel
theorem dX2_makeCode_102 : decode cX2_makeCode 102 = .ok (.invokevirtual 107, 3) := by decide +kernel
theorem dX2_makeCode_105 : decode cX2_makeCode 105 = .ok (.aload_n 0, 1) := by decide +kernel
theorem dX2_makeCode_106 : decode cX2_makeCode 106 = .ok (.iconst 0, 1) := by decide +kernel
theorem dX2_makeCode_107 : decode cX2_makeCode 107 = .ok (.iconst 0, 1) := by decide +kernel
theorem dX2_makeCode_108 : decode cX2_makeCode 108 = .ok (.iconst 0, 1) := by decide +kernel
theorem dX2_makeCode_109 : decode cX2_makeCode 109 = .ok (.invokevirtual 110, 3) := by decide +kernel
theorem dX2_makeCode_112 : decode cX2_makeCode 112 = .ok (.aload_n 0, 1) := by decide +kernel
theorem dX2_makeCode_113 : decode cX2_makeCode 113 = .ok (.bipush 25, 2) := by decide +kernel
theorem dX2_makeCode_115 : decode cX2_makeCode 115 = .ok (.iconst 0, 1) := by decide +kernel
theorem dX2_makeCode_116 : decode cX2_makeCode 116 = .ok (.iconst 0, 1) := by decide +kernel
theorem dX2_makeCode_117 : decode cX2_makeCode 117 = .ok (.invokevirtual 110, 3) := by decide +kernel
theorem dX2_makeCode_120 : decode cX2_makeCode 120 = .ok (.iinc 2 1, 3) := by decide +kernel
theorem dX2_makeCode_123 : decode cX2_makeCode 123 = .ok (.goto (-80), 3) := by decide +kernel
theorem dX2_makeCode_126 : decode cX2_makeCode 126 = .ok (.aload_n 0, 1) := by decide +kernel
theorem dX2_makeCode_127 : decode cX2_makeCode 127 = .ok (.getfield 56, 3) := by decide +kernel
theorem dX2_makeCode_130 : decode cX2_makeCode 130 = .ok (.ifCond .ne 43, 3) := by decide +kernel
theorem dX2_makeCode_133 : decode cX2_makeCode 133 = .ok (.aload_n 0, 1) := by decide +kernel
theorem dX2_makeCode_134 : decode cX2_makeCode 134 = .ok (.getfield 42, 3) := by decide +kernel
theorem dX2_makeCode_137 : decode cX2_makeCode 137 = .ok (.getfield 74, 3) := by decide +kernel
theorem dX2_makeCode_140 : decode cX2_makeCode 140 = .ok (.i2l, 1) := by decide +kernel
theorem dX2_makeCode_141 : decode cX2_makeCode 141 = .ok (.ldc2_w 114, 3) := by decide +kernel
theorem dX2_makeCode_144 : decode cX2_makeCode 144 = .ok (.aload_n 0, 1) := by decide +kernel
theorem dX2_makeCode_145 : decode cX2_makeCode 145 = .ok (.getfield 42, 3) := by decide +kernel
theorem dX2_makeCode_148 : decode cX2_makeCode 148 = .ok (.getfield 94, 3) := by decide +kernel
theorem dX2_makeCode_151 : decode cX2_makeCode 151 = .ok (.i2l, 1) := by decide +kernel
theorem dX2_makeCode_152 : decode cX2_makeCode 152 = .ok (.lmul, 1) := by decide +kernel
theorem dX2_makeCode_153 : decode cX2_makeCode 153 = .ok (.ladd, 1) := by decide +kernel
theorem dX2_makeCode_154 : decode cX2_makeCode 154 = .ok (.aload_n 0, 1) := by decide +kernel
theorem dX2_makeCode_155 : decode cX2_makeCode 155 = .ok (.getfield 42, 3) := by decide +kernel
theorem dX2_makeCode_158 : decode cX2_makeCode 158 = .ok (.invokevirtual 116, 3) := by decide +kernel
theorem dX2_makeCode_161 : decode cX2_makeCode 161 = .ok (.i2l, 1) := by decide +kernel
theorem dX2_makeCode_162 : decode cX2_makeCode 162 = .ok (.lmul, 1) := by decide +kernel
theorem dX2_makeCode_163 : decode cX2_makeCode 163 = .ok (.iload_n 1, 1) := by decide +kernel
theorem dX2_makeCode_164 : decode cX2_makeCode 164 = .ok (.i2l, 1) := by decide +kernel
theorem dX2_makeCode_165 : decode cX2_makeCode 165 = .ok (.lmul, 1) := by decide +kernel
theorem dX2_makeCode_166 : decode cX2_makeCode 166 = .ok (.ldc2_w 119, 3) := by decide +kernel
theorem dX2_makeCode_169 : decode cX2_makeCode 169 = .ok (.lcmp, 1) := by decide +kernel
theorem dX2_makeCode_170 : decode cX2_makeCode 170 = .ok (.ifCond .le 5, 3) := by decide +kernel
theorem dX2_makeCode_173 : decode cX2_makeCode 173 = .ok (.iconst 0, 1) := by decide +kernel
theorem dX2_makeCode_174 : decode cX2_makeCode 174 = .ok (.ireturn, 1) := by decide +kernel
theorem dX2_makeCode_175 : decode cX2_makeCode 175 = .ok (.aload_n 0, 1) := by decide +kernel
theorem dX2_makeCode_176 : decode cX2_makeCode 176 = .ok (.getfield 42, 3) := by decide +kernel
theorem dX2_makeCode_179 : decode cX2_makeCode 179 = .ok (.invokevirtual 121, 3) := by decide +kernel
theorem dX2_makeCode_182 : decode cX2_makeCode 182 = .ok (.iconst 1, 1) := by decide +kernel
theorem dX2_makeCode_183 : decode cX2_makeCode 183 = .ok (.ireturn, 1) := by decide +kernel
theorem dX2_findParts_0 : decode cX2_findParts 0 = .ok (.aload_n 0, 1) := by decide +kernel
theorem dX2_findParts_1 : decode cX2_findParts 1 = .ok (.getfield 27, 3) := by decide +kernel
theorem dX2_findParts_4 : decode cX2_findParts 4 = .ok (.iconst 0, 1) := by decide +kernel
theorem dX2_findParts_5 : decode cX2_findParts 5 = .ok (.iconst 0, 1) := by decide +kernel
theorem dX2_findParts_6 : decode cX2_findParts 6 = .ok (.iastore, 1) := by decide +kernel
theorem dX2_findParts_7 : decode cX2_findParts 7 = .ok (.aload_n 0, 1) := by decide +kernel
theorem dX2_findParts_8 : decode cX2_findParts 8 = .ok (.getfield 30, 3) := by decide +kernel
theorem dX2_findParts_11 : decode cX2_findParts 11 = .ok (.iconst 0, 1) := by decide +kernel
theorem dX2_findParts_12 : decode cX2_findParts 12 = .ok (.aload_n 0, 1) := by decide +kernel
theorem dX2_findParts_13 : decode cX2_findParts 13 = .ok (.getfield 46, 3) := by decide +kernel
theorem dX2_findParts_16 : decode cX2_findParts 16 = .ok (.iastore, 1) := by decide +kernel
theorem dX2_findParts_17 : decode cX2_findParts 17 = .ok (.iconst 0, 1) := by decide +kernel
theorem dX2_findParts_18 : decode cX2_findParts 18 = .ok (.istore_n 1, 1) := by decide +kernel
theorem dX2_findParts_19 : decode cX2_findParts 19 = .ok (.iload_n 1, 1) := by decide +kernel
theorem dX2_findParts_20 : decode cX2_findParts 20 = .ok (.aload_n 0, 1) := by decide +kernel
theorem dX2_findParts_21 : decode cX2_findParts 21 = .ok (.getfield 46, 3) := by decide +kernel
theorem dX2_findParts_24 : decode cX2_findParts 24 = .ok (.if_icmp .ge 118, 3) := by decide +kernel
theorem dX2_findParts_27 : decode cX2_findParts 27 = .ok (.aload_n 0, 1) := by decide +kernel
theorem dX2_findParts_28 : decode cX2_findParts 28 = .ok (.getfield 56, 3) := by decide +kernel
theorem dX2_findParts_31 : decode cX2_findParts 31 = .ok (.ifCond .ne 111, 3) := by decide +kernel
theorem dX2_findParts_34 : decode cX2_findParts 34 = .ok (.aload_n 0, 1) := by decide +kernel
theorem dX2_findParts_35 : decode cX2_findParts 35 = .ok (.getfield 11, 3) := by decide +kernel
theorem dX2_findParts_38 : decode cX2_findParts 38 = .ok (.iload_n 1, 1) := by decide +kernel
theorem dX2_findParts_39 : decode cX2_findParts 39 = .ok (.iaload, 1) := by decide +kernel
theorem dX2_findParts_40 : decode cX2_findParts 40 = .ok (.tableswitch 96 43 46 #[64, 81, 32, 49], 32) := by decide +kernel
theorem dX2_findParts_72 : decode cX2_findParts 72 = .ok (.aload_n 0, 1) := by decide +kernel
theorem dX2_findParts_73 : decode cX2_findParts 73 = .ok (.getfield 27, 3) := by decide +kernel
theorem dX2_findParts_76 : decode cX2_findParts 76 = .ok (.aload_n 0, 1) := by decide +kernel
theorem dX2_findParts_77 : decode cX2_findParts 77 = .ok (.getfield 15, 3) := by decide +kernel
theorem dX2_findParts_80 : decode cX2_findParts 80 = .ok (.iload_n 1, 1) := by decide +kernel
theorem dX2_findParts_81 : decode cX2_findParts 81 = .ok (.iaload, 1) := by decide +kernel
theorem dX2_findParts_82 : decode cX2_findParts 82 = .ok (.iload_n 1, 1) := by decide +kernel
theorem dX2_findParts_83 : decode cX2_findParts 83 = .ok (.iconst 1, 1) := by decide +kernel
theorem dX2_findParts_84 : decode cX2_findParts 84 = .ok (.iadd, 1) := by decide +kernel
theorem dX2_findParts_85 : decode cX2_findParts 85 = .ok (.iastore, 1) := by decide +kernel
theorem dX2_findParts_86 : decode cX2_findParts 86 = .ok (.goto 50, 3) := by decide +kernel
theorem dX2_findParts_89 : decode cX2_findParts 89 = .ok (.aload_n 0, 1) := by decide +kernel
theorem dX2_findParts_90 : decode cX2_findParts 90 = .ok (.getfield 30, 3) := by decide +kernel
theorem dX2_findParts_93 : decode cX2_findParts 93 = .ok (.aload_n 0, 1) := by decide +kernel
theorem dX2_findParts_94 : decode cX2_findParts 94 = .ok (.getfield 15, 3) := by decide +kernel
theorem dX2_findParts_97 : decode cX2_findParts 97 = .ok (.iload_n 1, 1) := by decide +kernel
theorem dX2_findParts_98 : decode cX2_findParts 98 = .ok (.iaload, 1) := by decide +kernel
theorem dX2_findParts_99 : decode cX2_findParts 99 = .ok (.iload_n 1, 1) := by decide +kernel
theorem dX2_findParts_100 : decode cX2_findParts 100 = .ok (.iastore, 1) := by decide +kernel
theorem dX2_findParts_101 : decode cX2_findParts 101 = .ok (.goto 35, 3) := by decide +kernel
theorem dX2_findParts_104 : decode cX2_findParts 104 = .ok (.aload_n 0, 1) := by decide +kernel
theorem dX2_findParts_105 : decode cX2_findParts 105 = .ok (.getfield 33, 3) := by decide +kernel
theorem dX2_findParts_108 : decode cX2_findParts 108 = .ok (.aload_n 0, 1) := by decide +kernel
theorem dX2_findParts_109 : decode cX2_findParts 109 = .ok (.getfield 15, 3) := by decide +kernel
theorem dX2_findParts_112 : decode cX2_findParts 112 = .ok (.iload_n 1, 1) := by decide +kernel
theorem dX2_findParts_113 : decode cX2_findParts 113 = .ok (.iaload, 1) := by decide +kernel
theorem dX2_findParts_114 : decode cX2_findParts 114 = .ok (.iload_n 1, 1) := by decide +kernel
theorem dX2_findParts_115 : decode cX2_findParts 115 = .ok (.iconst 1, 1) := by decide +kernel
theorem dX2_findParts_116 : decode cX2_findParts 116 = .ok (.iadd, 1) := by decide +kernel
theorem dX2_findParts_117 : decode cX2_findParts 117 = .ok (.iastore, 1) := by decide +kernel
theorem dX2_findParts_118 : decode cX2_findParts 118 = .ok (.goto 18, 3) := by decide +kernel
theorem dX2_findParts_121 : decode cX2_findParts 121 = .ok (.aload_n 0, 1) := by decide +kernel
theorem dX2_findParts_122 : decode cX2_findParts 122 = .ok (.getfield 36, 3) := by decide +kernel
theorem dX2_findParts_125 : decode cX2_findParts 125 = .ok (.aload_n 0, 1) := by decide +kernel
theorem dX2_findParts_126 : decode cX2_findParts 126 = .ok (.getfield 15, 3) := by decide +kernel
theorem dX2_findParts_129 : decode cX2_findParts 129 = .ok (.iload_n 1, 1) := by decide +kernel
theorem dX2_findParts_130 : decode cX2_findParts 130 = .ok (.iaload, 1) := by decide +kernel
theorem dX2_findParts_131 : decode cX2_findParts 131 = .ok (.iload_n 1, 1) := by decide +kernel
theorem dX2_findParts_132 : decode cX2_findParts 132 = .ok (.iastore, 1) := by decide +kernel
theorem dX2_findParts_133 : decode cX2_findParts 133 = .ok (.goto 3, 3) := by decide +kernel
theorem dX2_findParts_136 : decode cX2_findParts 136 = .ok (.iinc 1 1, 3) := by decide +kernel
theorem dX2_findParts_139 : decode cX2_findParts 139 = .ok (.goto (-120), 3) := by decide +kernel
theorem dX2_findParts_142 : decode cX2_findParts 142 = .ok (.return_, 1) := by decide +kernel
theorem dX2_opening_0 : decode cX2_opening 0 = .ok (.iconst 0, 1) := by decide +kernel
theorem dX2_opening_1 : decode cX2_opening 1 = .ok (.istore_n 2, 1) := by decide +kernel
theorem dX2_opening_2 : decode cX2_opening 2 = .ok (.iload_n 1, 1) := by decide +kernel
theorem dX2_opening_3 : decode cX2_opening 3 = .ok (.ifCond .ne 52, 3) := by decide +kernel
theorem dX2_opening_6 : decode cX2_opening 6 = .ok (.iload_n 2, 1) := by decide +kernel
theorem dX2_opening_7 : decode cX2_opening 7 = .ok (.aload_n 0, 1) := by decide +kernel
theorem dX2_opening_8 : decode cX2_opening 8 = .ok (.getfield 42, 3) := by decide +kernel
theorem dX2_opening_11 : decode cX2_opening 11 = .ok (.getfield 124, 3) := by decide +kernel
theorem dX2_opening_14 : decode cX2_opening 14 = .ok (.iconst 0, 1) := by decide +kernel
theorem dX2_opening_15 : decode cX2_opening 15 = .ok (.iaload, 1) := by decide +kernel
theorem dX2_opening_16 : decode cX2_opening 16 = .ok (.if_icmp .ge 39, 3) := by decide +kernel
theorem dX2_opening_19 : decode cX2_opening 19 = .ok (.aload_n 0, 1) := by decide +kernel
theorem dX2_opening_20 : decode cX2_opening 20 = .ok (.iconst 0, 1) := by decide +kernel
theorem dX2_opening_21 : decode cX2_opening 21 = .ok (.iconst 0, 1) := by decide +kernel
theorem dX2_opening_22 : decode cX2_opening 22 = .ok (.iconst 0, 1) := by decide +kernel
theorem dX2_opening_23 : decode cX2_opening 23 = .ok (.invokevirtual 110, 3) := by decide +kernel
theorem dX2_opening_26 : decode cX2_opening 26 = .ok (.aload_n 0, 1) := by decide +kernel
theorem dX2_opening_27 : decode cX2_opening 27 = .ok (.aload_n 0, 1) := by decide +kernel
theorem dX2_opening_28 : decode cX2_opening 28 = .ok (.getfield 42, 3) := by decide +kernel
theorem dX2_opening_31 : decode cX2_opening 31 = .ok (.getfield 127, 3) := by decide +kernel
theorem dX2_opening_34 : decode cX2_opening 34 = .ok (.iconst 0, 1) := by decide +kernel
theorem dX2_opening_35 : decode cX2_opening 35 = .ok (.aaload, 1) := by decide +kernel
theorem dX2_opening_36 : decode cX2_opening 36 = .ok (.iload_n 2, 1) := by decide +kernel
theorem dX2_opening_37 : decode cX2_opening 37 = .ok (.iaload, 1) := by decide +kernel
theorem dX2_opening_38 : decode cX2_opening 38 = .ok (.invokevirtual 131, 3) := by decide +kernel
theorem dX2_opening_41 : decode cX2_opening 41 = .ok (.aload_n 0, 1) := by decide +kernel
theorem dX2_opening_42 : decode cX2_opening 42 = .ok (.bipush 17, 2) := by decide +kernel
theorem dX2_opening_44 : decode cX2_opening 44 = .ok (.iconst 0, 1) := by decide +kernel
theorem dX2_opening_45 : decode cX2_opening 45 = .ok (.iconst 0, 1) := by decide +kernel
theorem dX2_opening_46 : decode cX2_opening 46 = .ok (.invokevirtual 110, 3) := by decide +kernel
theorem dX2_opening_49 : decode cX2_opening 49 = .ok (.iinc 2 1, 3) := by decide +kernel
theorem dX2_opening_52 : decode cX2_opening 52 = .ok (.goto (-50), 3) := by decide +kernel
theorem dX2_opening_55 : decode cX2_opening 55 = .ok (.iconst 1, 1) := by decide +kernel
theorem dX2_opening_56 : decode cX2_opening 56 = .ok (.istore_n 2, 1) := by decide +kernel
theorem dX2_opening_57 : decode cX2_opening 57 = .ok (.iload_n 2, 1) := by decide +kernel
theorem dX2_opening_58 : decode cX2_opening 58 = .ok (.aload_n 0, 1) := by decide +kernel
theorem dX2_opening_59 : decode cX2_opening 59 = .ok (.getfield 42, 3) := by decide +kernel
theorem dX2_opening_62 : decode cX2_opening 62 = .ok (.getfield 94, 3) := by decide +kernel
theorem dX2_opening_65 : decode cX2_opening 65 = .ok (.if_icmp .ge 63, 3) := by decide +kernel
theorem dX2_opening_68 : decode cX2_opening 68 = .ok (.aload_n 0, 1) := by decide +kernel
theorem dX2_opening_69 : decode cX2_opening 69 = .ok (.getfield 42, 3) := by decide +kernel
theorem dX2_opening_72 : decode cX2_opening 72 = .ok (.getfield 134, 3) := by decide +kernel
theorem dX2_opening_75 : decode cX2_opening 75 = .ok (.iload_n 2, 1) := by decide +kernel
theorem dX2_opening_76 : decode cX2_opening 76 = .ok (.iaload, 1) := by decide +kernel
theorem dX2_opening_77 : decode cX2_opening 77 = .ok (.iload_n 1, 1) := by decide +kernel
theorem dX2_opening_78 : decode cX2_opening 78 = .ok (.if_icmp .ne 44, 3) := by decide +kernel
theorem dX2_opening_81 : decode cX2_opening 81 = .ok (.aload_n 0, 1) := by decide +kernel
theorem dX2_opening_82 : decode cX2_opening 82 = .ok (.getfield 42, 3) := by decide +kernel
theorem dX2_opening_85 : decode cX2_opening 85 = .ok (.getfield 137, 3) := by decide +kernel
theorem dX2_opening_88 : decode cX2_opening 88 = .ok (.iload_n 2, 1) := by decide +kernel
theorem dX2_opening_89 : decode cX2_opening 89 = .ok (.iaload, 1) := by decide +kernel
theorem dX2_opening_90 : decode cX2_opening 90 = .ok (.ifCond .lt 32, 3) := by decide +kernel
theorem dX2_opening_93 : decode cX2_opening 93 = .ok (.aload_n 0, 1) := by decide +kernel
theorem dX2_opening_94 : decode cX2_opening 94 = .ok (.bipush 9, 2) := by decide +kernel
theorem dX2_opening_96 : decode cX2_opening 96 = .ok (.iload_n 2, 1) := by decide +kernel
theorem dX2_opening_97 : decode cX2_opening 97 = .ok (.iconst 0, 1) := by decide +kernel
theorem dX2_opening_98 : decode cX2_opening 98 = .ok (.invokevirtual 110, 3) := by decide +kernel
theorem dX2_opening_101 : decode cX2_opening 101 = .ok (.aload_n 0, 1) := by decide +kernel
theorem dX2_opening_102 : decode cX2_opening 102 = .ok (.aload_n 0, 1) := by decide +kernel
theorem dX2_opening_103 : decode cX2_opening 103 = .ok (.getfield 42, 3) := by decide +kernel
theorem dX2_opening_106 : decode cX2_opening 106 = .ok (.getfield 137, 3) := by decide +kernel
theorem dX2_opening_109 : decode cX2_opening 109 = .ok (.iload_n 2, 1) := by decide +kernel
theorem dX2_opening_110 : decode cX2_opening 110 = .ok (.iaload, 1) := by decide +kernel
theorem dX2_opening_111 : decode cX2_opening 111 = .ok (.invokevirtual 131, 3) := by decide +kernel
theorem dX2_opening_114 : decode cX2_opening 114 = .ok (.aload_n 0, 1) := by decide +kernel
theorem dX2_opening_115 : decode cX2_opening 115 = .ok (.bipush 17, 2) := by decide +kernel
theorem dX2_opening_117 : decode cX2_opening 117 = .ok (.iconst 0, 1) := by decide +kernel
theorem dX2_opening_118 : decode cX2_opening 118 = .ok (.iconst 0, 1) := by decide +kernel
theorem dX2_opening_119 : decode cX2_opening 119 = .ok (.invokevirtual 110, 3) := by decide +kernel
theorem dX2_opening_122 : decode cX2_opening 122 = .ok (.iinc 2 1, 3) := by decide +kernel
theorem dX2_opening_125 : decode cX2_opening 125 = .ok (.goto (-68), 3) := by decide +kernel
theorem dX2_opening_128 : decode cX2_opening 128 = .ok (.return_, 1) := by decide +kernel
theorem dX2_put_0 : decode cX2_put 0 = .ok (.aload_n 0, 1) := by decide +kernel
theorem dX2_put_1 : decode cX2_put 1 = .ok (.getfield 42, 3) := by decide +kernel
theorem dX2_put_4 : decode cX2_put 4 = .ok (.getfield 74, 3) := by decide +kernel
theorem dX2_put_7 : decode cX2_put 7 = .ok (.sipush 600, 3) := by decide +kernel
theorem dX2_put_10 : decode cX2_put 10 = .ok (.if_icmp .lt 8, 3) := by decide +kernel
theorem dX2_put_13 : decode cX2_put 13 = .ok (.aload_n 0, 1) := by decide +kernel
theorem dX2_put_14 : decode cX2_put 14 = .ok (.iconst 1, 1) := by decide +kernel
theorem dX2_put_15 : decode cX2_put 15 = .ok (.putfield 56, 3) := by decide +kernel
theorem dX2_put_18 : decode cX2_put 18 = .ok (.aload_n 0, 1) := by decide +kernel
theorem dX2_put_19 : decode cX2_put 19 = .ok (.getfield 56, 3) := by decide +kernel
theorem dX2_put_22 : decode cX2_put 22 = .ok (.ifCond .eq 4, 3) := by decide +kernel
theorem dX2_put_25 : decode cX2_put 25 = .ok (.return_, 1) := by decide +kernel
theorem dX2_put_26 : decode cX2_put 26 = .ok (.aload_n 0, 1) := by decide +kernel
theorem dX2_put_27 : decode cX2_put 27 = .ok (.getfield 42, 3) := by decide +kernel
theorem dX2_put_30 : decode cX2_put 30 = .ok (.getfield 74, 3) := by decide +kernel
theorem dX2_put_33 : decode cX2_put 33 = .ok (.istore 4, 2) := by decide +kernel
theorem dX2_put_35 : decode cX2_put 35 = .ok (.aload_n 0, 1) := by decide +kernel
theorem dX2_put_36 : decode cX2_put 36 = .ok (.getfield 42, 3) := by decide +kernel
theorem dX2_put_39 : decode cX2_put 39 = .ok (.getfield 140, 3) := by decide +kernel
theorem dX2_put_42 : decode cX2_put 42 = .ok (.iload 4, 2) := by decide +kernel
theorem dX2_put_44 : decode cX2_put 44 = .ok (.iload_n 1, 1) := by decide +kernel
theorem dX2_put_45 : decode cX2_put 45 = .ok (.iastore, 1) := by decide +kernel
theorem dX2_put_46 : decode cX2_put 46 = .ok (.aload_n 0, 1) := by decide +kernel
theorem dX2_put_47 : decode cX2_put 47 = .ok (.getfield 42, 3) := by decide +kernel
theorem dX2_put_50 : decode cX2_put 50 = .ok (.getfield 141, 3) := by decide +kernel
theorem dX2_put_53 : decode cX2_put 53 = .ok (.iload 4, 2) := by decide +kernel
theorem dX2_put_55 : decode cX2_put 55 = .ok (.iload_n 2, 1) := by decide +kernel
theorem dX2_put_56 : decode cX2_put 56 = .ok (.iastore, 1) := by decide +kernel
theorem dX2_put_57 : decode cX2_put 57 = .ok (.aload_n 0, 1) := by decide +kernel
theorem dX2_put_58 : decode cX2_put 58 = .ok (.getfield 42, 3) := by decide +kernel
theorem dX2_put_61 : decode cX2_put 61 = .ok (.getfield 142, 3) := by decide +kernel
theorem dX2_put_64 : decode cX2_put 64 = .ok (.iload 4, 2) := by decide +kernel
theorem dX2_put_66 : decode cX2_put 66 = .ok (.iload_n 3, 1) := by decide +kernel
theorem dX2_put_67 : decode cX2_put 67 = .ok (.iastore, 1) := by decide +kernel
theorem dX2_put_68 : decode cX2_put 68 = .ok (.aload_n 0, 1) := by decide +kernel
theorem dX2_put_69 : decode cX2_put 69 = .ok (.getfield 42, 3) := by decide +kernel
theorem dX2_put_72 : decode cX2_put 72 = .ok (.getfield 143, 3) := by decide +kernel
theorem dX2_put_75 : decode cX2_put 75 = .ok (.iload 4, 2) := by decide +kernel
theorem dX2_put_77 : decode cX2_put 77 = .ok (.aload_n 0, 1) := by decide +kernel
theorem dX2_put_78 : decode cX2_put 78 = .ok (.getfield 97, 3) := by decide +kernel
theorem dX2_put_81 : decode cX2_put 81 = .ok (.iastore, 1) := by decide +kernel
theorem dX2_put_82 : decode cX2_put 82 = .ok (.aload_n 0, 1) := by decide +kernel
theorem dX2_put_83 : decode cX2_put 83 = .ok (.getfield 42, 3) := by decide +kernel
theorem dX2_put_86 : decode cX2_put 86 = .ok (.dup, 1) := by decide +kernel
theorem dX2_put_87 : decode cX2_put 87 = .ok (.getfield 74, 3) := by decide +kernel
theorem dX2_put_90 : decode cX2_put 90 = .ok (.iconst 1, 1) := by decide +kernel
theorem dX2_put_91 : decode cX2_put 91 = .ok (.iadd, 1) := by decide +kernel
theorem dX2_put_92 : decode cX2_put 92 = .ok (.putfield 74, 3) := by decide +kernel
theorem dX2_put_95 : decode cX2_put 95 = .ok (.return_, 1) := by decide +kernel
theorem dX2_part_0 : decode cX2_part 0 = .ok (.iload 4, 2) := by decide +kernel
theorem dX2_part_2 : decode cX2_part 2 = .ok (.bipush 30, 2) := by decide +kernel
theorem dX2_part_4 : decode cX2_part 4 = .ok (.if_icmp .le 8, 3) := by decide +kernel
theorem dX2_part_7 : decode cX2_part 7 = .ok (.aload_n 0, 1) := by decide +kernel
theorem dX2_part_8 : decode cX2_part 8 = .ok (.iconst 1, 1) := by decide +kernel
theorem dX2_part_9 : decode cX2_part 9 = .ok (.putfield 56, 3) := by decide +kernel
theorem dX2_part_12 : decode cX2_part 12 = .ok (.iload_n 3, 1) := by decide +kernel
theorem dX2_part_13 : decode cX2_part 13 = .ok (.istore 5, 2) := by decide +kernel
theorem dX2_part_15 : decode cX2_part 15 = .ok (.iload_n 1, 1) := by decide +kernel
theorem dX2_part_16 : decode cX2_part 16 = .ok (.istore 6, 2) := by decide +kernel
theorem dX2_part_18 : decode cX2_part 18 = .ok (.iload 6, 2) := by decide +kernel
theorem dX2_part_20 : decode cX2_part 20 = .ok (.iload_n 2, 1) := by decide +kernel
theorem dX2_part_21 : decode cX2_part 21 = .ok (.if_icmp .ge 265, 3) := by decide +kernel
theorem dX2_part_24 : decode cX2_part 24 = .ok (.aload_n 0, 1) := by decide +kernel
theorem dX2_part_25 : decode cX2_part 25 = .ok (.getfield 56, 3) := by decide +kernel
theorem dX2_part_28 : decode cX2_part 28 = .ok (.ifCond .ne 258, 3) := by decide +kernel
theorem dX2_part_31 : decode cX2_part 31 = .ok (.aload_n 0, 1) := by decide +kernel
theorem dX2_part_32 : decode cX2_part 32 = .ok (.getfield 11, 3) := by decide +kernel
theorem dX2_part_35 : decode cX2_part 35 = .ok (.iload 6, 2) := by decide +kernel
theorem dX2_part_37 : decode cX2_part 37 = .ok (.iaload, 1) := by decide +kernel
theorem dX2_part_38 : decode cX2_part 38 = .ok (.tableswitch 217 36 45 #[54, 111, 141, 141, 159, 79, 122, 217, 170, 195], 54) := by decide +kernel
theorem dX2_part_92 : decode cX2_part 92 = .ok (.aload_n 0, 1) := by decide +kernel
theorem dX2_part_93 : decode cX2_part 93 = .ok (.aload_n 0, 1) := by decide +kernel
theorem dX2_part_94 : decode cX2_part 94 = .ok (.getfield 15, 3) := by decide +kernel
theorem dX2_part_97 : decode cX2_part 97 = .ok (.iload 6, 2) := by decide +kernel
theorem dX2_part_99 : decode cX2_part 99 = .ok (.iaload, 1) := by decide +kernel
theorem dX2_part_100 : decode cX2_part 100 = .ok (.aload_n 0, 1) := by decide +kernel
theorem dX2_part_101 : decode cX2_part 101 = .ok (.getfield 18, 3) := by decide +kernel
theorem dX2_part_104 : decode cX2_part 104 = .ok (.iload 6, 2) := by decide +kernel
theorem dX2_part_106 : decode cX2_part 106 = .ok (.iaload, 1) := by decide +kernel
theorem dX2_part_107 : decode cX2_part 107 = .ok (.iload 5, 2) := by decide +kernel
theorem dX2_part_109 : decode cX2_part 109 = .ok (.invokevirtual 153, 3) := by decide +kernel
theorem dX2_part_112 : decode cX2_part 112 = .ok (.istore 5, 2) := by decide +kernel
theorem dX2_part_114 : decode cX2_part 114 = .ok (.goto 166, 3) := by decide +kernel
theorem dX2_part_117 : decode cX2_part 117 = .ok (.aload_n 0, 1) := by decide +kernel
theorem dX2_part_118 : decode cX2_part 118 = .ok (.bipush 27, 2) := by decide +kernel
theorem dX2_part_120 : decode cX2_part 120 = .ok (.aload_n 0, 1) := by decide +kernel
theorem dX2_part_121 : decode cX2_part 121 = .ok (.getfield 15, 3) := by decide +kernel
theorem dX2_part_124 : decode cX2_part 124 = .ok (.iload 6, 2) := by decide +kernel
theorem dX2_part_126 : decode cX2_part 126 = .ok (.iaload, 1) := by decide +kernel
theorem dX2_part_127 : decode cX2_part 127 = .ok (.invokevirtual 157, 3) := by decide +kernel
theorem dX2_part_130 : decode cX2_part 130 = .ok (.aload_n 0, 1) := by decide +kernel
theorem dX2_part_131 : decode cX2_part 131 = .ok (.iconst 4, 1) := by decide +kernel
theorem dX2_part_132 : decode cX2_part 132 = .ok (.aload_n 0, 1) := by decide +kernel
theorem dX2_part_133 : decode cX2_part 133 = .ok (.getfield 18, 3) := by decide +kernel
theorem dX2_part_136 : decode cX2_part 136 = .ok (.iload 6, 2) := by decide +kernel
theorem dX2_part_138 : decode cX2_part 138 = .ok (.iaload, 1) := by decide +kernel
theorem dX2_part_139 : decode cX2_part 139 = .ok (.iload 5, 2) := by decide +kernel
theorem dX2_part_141 : decode cX2_part 141 = .ok (.invokevirtual 153, 3) := by decide +kernel
theorem dX2_part_144 : decode cX2_part 144 = .ok (.istore 5, 2) := by decide +kernel
theorem dX2_part_146 : decode cX2_part 146 = .ok (.goto 134, 3) := by decide +kernel
theorem dX2_part_149 : decode cX2_part 149 = .ok (.aload_n 0, 1) := by decide +kernel
theorem dX2_part_150 : decode cX2_part 150 = .ok (.iload 5, 2) := by decide +kernel
theorem dX2_part_152 : decode cX2_part 152 = .ok (.invokevirtual 160, 3) := by decide +kernel
theorem dX2_part_155 : decode cX2_part 155 = .ok (.istore 5, 2) := by decide +kernel
theorem dX2_part_157 : decode cX2_part 157 = .ok (.goto 123, 3) := by decide +kernel
theorem dX2_part_160 : decode cX2_part 160 = .ok (.aload_n 0, 1) := by decide +kernel
theorem dX2_part_161 : decode cX2_part 161 = .ok (.bipush 28, 2) := by decide +kernel
theorem dX2_part_163 : decode cX2_part 163 = .ok (.iconst 0, 1) := by decide +kernel
theorem dX2_part_164 : decode cX2_part 164 = .ok (.iconst 0, 1) := by decide +kernel
theorem dX2_part_165 : decode cX2_part 165 = .ok (.invokevirtual 110, 3) := by decide +kernel
theorem dX2_part_168 : decode cX2_part 168 = .ok (.aload_n 0, 1) := by decide +kernel
theorem dX2_part_169 : decode cX2_part 169 = .ok (.iload 5, 2) := by decide +kernel
theorem dX2_part_171 : decode cX2_part 171 = .ok (.invokevirtual 160, 3) := by decide +kernel
theorem dX2_part_174 : decode cX2_part 174 = .ok (.istore 5, 2) := by decide +kernel
theorem dX2_part_176 : decode cX2_part 176 = .ok (.goto 104, 3) := by decide +kernel
theorem dX2_part_179 : decode cX2_part 179 = .ok (.aload_n 0, 1) := by decide +kernel
theorem dX2_part_180 : decode cX2_part 180 = .ok (.aload_n 0, 1) := by decide +kernel
theorem dX2_part_181 : decode cX2_part 181 = .ok (.getfield 11, 3) := by decide +kernel
theorem dX2_part_184 : decode cX2_part 184 = .ok (.iload 6, 2) := by decide +kernel
theorem dX2_part_186 : decode cX2_part 186 = .ok (.iaload, 1) := by decide +kernel
theorem dX2_part_187 : decode cX2_part 187 = .ok (.iload 5, 2) := by decide +kernel
theorem dX2_part_189 : decode cX2_part 189 = .ok (.iload 4, 2) := by decide +kernel
theorem dX2_part_191 : decode cX2_part 191 = .ok (.invokevirtual 164, 3) := by decide +kernel
theorem dX2_part_194 : decode cX2_part 194 = .ok (.goto 86, 3) := by decide +kernel
theorem dX2_part_197 : decode cX2_part 197 = .ok (.aload_n 0, 1) := by decide +kernel
theorem dX2_part_198 : decode cX2_part 198 = .ok (.iload 5, 2) := by decide +kernel
theorem dX2_part_200 : decode cX2_part 200 = .ok (.iload 4, 2) := by decide +kernel
theorem dX2_part_202 : decode cX2_part 202 = .ok (.invokevirtual 167, 3) := by decide +kernel
theorem dX2_part_205 : decode cX2_part 205 = .ok (.goto 75, 3) := by decide +kernel
theorem dX2_part_208 : decode cX2_part 208 = .ok (.aload_n 0, 1) := by decide +kernel
theorem dX2_part_209 : decode cX2_part 209 = .ok (.aload_n 0, 1) := by decide +kernel
theorem dX2_part_210 : decode cX2_part 210 = .ok (.getfield 15, 3) := by decide +kernel
theorem dX2_part_213 : decode cX2_part 213 = .ok (.iload 6, 2) := by decide +kernel
theorem dX2_part_215 : decode cX2_part 215 = .ok (.iaload, 1) := by decide +kernel
theorem dX2_part_216 : decode cX2_part 216 = .ok (.aload_n 0, 1) := by decide +kernel
theorem dX2_part_217 : decode cX2_part 217 = .ok (.getfield 18, 3) := by decide +kernel
theorem dX2_part_220 : decode cX2_part 220 = .ok (.iload 6, 2) := by decide +kernel
theorem dX2_part_222 : decode cX2_part 222 = .ok (.iaload, 1) := by decide +kernel
theorem dX2_part_223 : decode cX2_part 223 = .ok (.iload 5, 2) := by decide +kernel
theorem dX2_part_225 : decode cX2_part 225 = .ok (.iload 4, 2) := by decide +kernel
theorem dX2_part_227 : decode cX2_part 227 = .ok (.invokevirtual 170, 3) := by decide +kernel
theorem dX2_part_230 : decode cX2_part 230 = .ok (.goto 50, 3) := by decide +kernel
theorem dX2_part_233 : decode cX2_part 233 = .ok (.iload 6, 2) := by decide +kernel
theorem dX2_part_235 : decode cX2_part 235 = .ok (.aload_n 0, 1) := by decide +kernel
theorem dX2_part_236 : decode cX2_part 236 = .ok (.getfield 30, 3) := by decide +kernel
theorem dX2_part_239 : decode cX2_part 239 = .ok (.aload_n 0, 1) := by decide +kernel
theorem dX2_part_240 : decode cX2_part 240 = .ok (.getfield 15, 3) := by decide +kernel
theorem dX2_part_243 : decode cX2_part 243 = .ok (.iload 6, 2) := by decide +kernel
theorem dX2_part_245 : decode cX2_part 245 = .ok (.iaload, 1) := by decide +kernel
theorem dX2_part_246 : decode cX2_part 246 = .ok (.iaload, 1) := by decide +kernel
theorem dX2_part_247 : decode cX2_part 247 = .ok (.invokestatic 173, 3) := by decide +kernel
theorem dX2_part_250 : decode cX2_part 250 = .ok (.istore 6, 2) := by decide +kernel
theorem dX2_part_252 : decode cX2_part 252 = .ok (.goto 28, 3) := by decide +kernel
theorem dX2_part_255 : decode cX2_part 255 = .ok (.aload_n 0, 1) := by decide +kernel
theorem dX2_part_256 : decode cX2_part 256 = .ok (.aload_n 0, 1) := by decide +kernel
theorem dX2_part_257 : decode cX2_part 257 = .ok (.getfield 11, 3) := by decide +kernel
theorem dX2_part_260 : decode cX2_part 260 = .ok (.iload 6, 2) := by decide +kernel
theorem dX2_part_262 : decode cX2_part 262 = .ok (.iaload, 1) := by decide +kernel
theorem dX2_part_263 : decode cX2_part 263 = .ok (.aload_n 0, 1) := by decide +kernel
theorem dX2_part_264 : decode cX2_part 264 = .ok (.getfield 15, 3) := by decide +kernel
theorem dX2_part_267 : decode cX2_part 267 = .ok (.iload 6, 2) := by decide +kernel
theorem dX2_part_269 : decode cX2_part 269 = .ok (.iaload, 1) := by decide +kernel
theorem dX2_part_270 : decode cX2_part 270 = .ok (.aload_n 0, 1) := by decide +kernel
theorem dX2_part_271 : decode cX2_part 271 = .ok (.getfield 18, 3) := by decide +kernel
theorem dX2_part_274 : decode cX2_part 274 = .ok (.iload 6, 2) := by decide +kernel
theorem dX2_part_276 : decode cX2_part 276 = .ok (.iaload, 1) := by decide +kernel
theorem dX2_part_277 : decode cX2_part 277 = .ok (.invokevirtual 178, 3) := by decide +kernel
theorem dX2_part_280 : decode cX2_part 280 = .ok (.iinc 6 1, 3) := by decide +kernel
theorem dX2_part_283 : decode cX2_part 283 = .ok (.goto (-265), 3) := by decide +kernel
theorem dX2_part_286 : decode cX2_part 286 = .ok (.return_, 1) := by decide +kernel
theorem dX4_forget_0 : decode cX4_forget 0 = .ok (.aload_n 0, 1) := by decide +kernel
theorem dX4_forget_1 : decode cX4_forget 1 = .ok (.iconst 0, 1) := by decide +kernel
theorem dX4_forget_2 : decode cX4_forget 2 = .ok (.putfield 40, 3) := by decide +kernel
theorem dX4_forget_5 : decode cX4_forget 5 = .ok (.aload_n 0, 1) := by decide +kernel
theorem dX4_forget_6 : decode cX4_forget 6 = .ok (.iconst 0, 1) := by decide +kernel
theorem dX4_forget_7 : decode cX4_forget 7 = .ok (.putfield 44, 3) := by decide +kernel
theorem dX4_forget_10 : decode cX4_forget 10 = .ok (.return_, 1) := by decide +kernel
theorem dX5_parse_0 : decode cX5_parse 0 = .ok (.aload_n 0, 1) := by decide +kernel
theorem dX5_parse_1 : decode cX5_parse 1 = .ok (.getfield 24, 3) := by decide +kernel
theorem dX5_parse_4 : decode cX5_parse 4 = .ok (.bipush 31, 2) := by decide +kernel
theorem dX5_parse_6 : decode cX5_parse 6 = .ok (.invokevirtual 45, 3) := by decide +kernel
theorem dX5_parse_9 : decode cX5_parse 9 = .ok (.aload_n 0, 1) := by decide +kernel
theorem dX5_parse_10 : decode cX5_parse 10 = .ok (.getfield 28, 3) := by decide +kernel
theorem dX5_parse_13 : decode cX5_parse 13 = .ok (.invokevirtual 51, 3) := by decide +kernel
theorem dX5_parse_16 : decode cX5_parse 16 = .ok (.aload_n 0, 1) := by decide +kernel
theorem dX5_parse_17 : decode cX5_parse 17 = .ok (.getfield 32, 3) := by decide +kernel
theorem dX5_parse_20 : decode cX5_parse 20 = .ok (.invokevirtual 56, 3) := by decide +kernel
theorem dX5_parse_23 : decode cX5_parse 23 = .ok (.aload_n 0, 1) := by decide +kernel
theorem dX5_parse_24 : decode cX5_parse 24 = .ok (.iconst 0, 1) := by decide +kernel
theorem dX5_parse_25 : decode cX5_parse 25 = .ok (.putfield 59, 3) := by decide +kernel
theorem dX5_parse_28 : decode cX5_parse 28 = .ok (.aload_n 0, 1) := by decide +kernel
theorem dX5_parse_29 : decode cX5_parse 29 = .ok (.iconst 0, 1) := by decide +kernel
theorem dX5_parse_30 : decode cX5_parse 30 = .ok (.putfield 63, 3) := by decide +kernel
theorem dX5_parse_33 : decode cX5_parse 33 = .ok (.aload_n 0, 1) := by decide +kernel
theorem dX5_parse_34 : decode cX5_parse 34 = .ok (.iconst 0, 1) := by decide +kernel
theorem dX5_parse_35 : decode cX5_parse 35 = .ok (.putfield 66, 3) := by decide +kernel
theorem dX5_parse_38 : decode cX5_parse 38 = .ok (.aload_n 0, 1) := by decide +kernel
theorem dX5_parse_39 : decode cX5_parse 39 = .ok (.iconst 0, 1) := by decide +kernel
theorem dX5_parse_40 : decode cX5_parse 40 = .ok (.putfield 69, 3) := by decide +kernel
theorem dX5_parse_43 : decode cX5_parse 43 = .ok (.aload_n 0, 1) := by decide +kernel
theorem dX5_parse_44 : decode cX5_parse 44 = .ok (.iconst 0, 1) := by decide +kernel
theorem dX5_parse_45 : decode cX5_parse 45 = .ok (.putfield 73, 3) := by decide +kernel
theorem dX5_parse_48 : decode cX5_parse 48 = .ok (.aload_n 0, 1) := by decide +kernel
theorem dX5_parse_49 : decode cX5_parse 49 = .ok (.iconst 0, 1) := by decide +kernel
theorem dX5_parse_50 : decode cX5_parse 50 = .ok (.putfield 76, 3) := by decide +kernel
theorem dX5_parse_53 : decode cX5_parse 53 = .ok (.aload_n 0, 1) := by decide +kernel
theorem dX5_parse_54 : decode cX5_parse 54 = .ok (.aload_n 0, 1) := by decide +kernel
theorem dX5_parse_55 : decode cX5_parse 55 = .ok (.getfield 28, 3) := by decide +kernel
theorem dX5_parse_58 : decode cX5_parse 58 = .ok (.iconst (-1), 1) := by decide +kernel
theorem dX5_parse_59 : decode cX5_parse 59 = .ok (.invokevirtual 79, 3) := by decide +kernel
theorem dX5_parse_62 : decode cX5_parse 62 = .ok (.putfield 83, 3) := by decide +kernel
theorem dX5_parse_65 : decode cX5_parse 65 = .ok (.aload_n 0, 1) := by decide +kernel
theorem dX5_parse_66 : decode cX5_parse 66 = .ok (.getfield 41, 3) := by decide +kernel
theorem dX5_parse_69 : decode cX5_parse 69 = .ok (.iload_n 1, 1) := by decide +kernel
theorem dX5_parse_70 : decode cX5_parse 70 = .ok (.invokevirtual 86, 3) := by decide +kernel
theorem dX5_parse_73 : decode cX5_parse 73 = .ok (.aload_n 0, 1) := by decide +kernel
theorem dX5_parse_74 : decode cX5_parse 74 = .ok (.iconst 0, 1) := by decide +kernel
theorem dX5_parse_75 : decode cX5_parse 75 = .ok (.invokevirtual 89, 3) := by decide +kernel
theorem dX5_parse_78 : decode cX5_parse 78 = .ok (.goto 23, 3) := by decide +kernel
theorem dX5_parse_81 : decode cX5_parse 81 = .ok (.astore_n 2, 1) := by decide +kernel
theorem dX5_parse_82 : decode cX5_parse 82 = .ok (.aload_n 0, 1) := by decide +kernel
theorem dX5_parse_83 : decode cX5_parse 83 = .ok (.getfield 41, 3) := by decide +kernel
theorem dX5_parse_86 : decode cX5_parse 86 = .ok (.getfield 94, 3) := by decide +kernel
theorem dX5_parse_89 : decode cX5_parse 89 = .ok (.bipush 8, 2) := by decide +kernel
theorem dX5_parse_91 : decode cX5_parse 91 = .ok (.aload_n 0, 1) := by decide +kernel
theorem dX5_parse_92 : decode cX5_parse 92 = .ok (.getfield 41, 3) := by decide +kernel
theorem dX5_parse_95 : decode cX5_parse 95 = .ok (.getfield 97, 3) := by decide +kernel
theorem dX5_parse_98 : decode cX5_parse 98 = .ok (.imul, 1) := by decide +kernel
theorem dX5_parse_99 : decode cX5_parse 99 = .ok (.iadd, 1) := by decide +kernel
theorem dX5_parse_100 : decode cX5_parse 100 = .ok (.ireturn, 1) := by decide +kernel
theorem dX5_parse_101 : decode cX5_parse 101 = .ok (.iconst 0, 1) := by decide +kernel
theorem dX5_parse_102 : decode cX5_parse 102 = .ok (.ireturn, 1) := by decide +kernel
theorem dX5_at_0 : decode cX5_at 0 = .ok (.aload_n 0, 1) := by decide +kernel
theorem dX5_at_1 : decode cX5_at 1 = .ok (.getfield 41, 3) := by decide +kernel
theorem dX5_at_4 : decode cX5_at 4 = .ok (.getfield 100, 3) := by decide +kernel
theorem dX5_at_7 : decode cX5_at 7 = .ok (.iload_n 1, 1) := by decide +kernel
theorem dX5_at_8 : decode cX5_at 8 = .ok (.if_icmp .ne 7, 3) := by decide +kernel
theorem dX5_at_11 : decode cX5_at 11 = .ok (.iconst 1, 1) := by decide +kernel
theorem dX5_at_12 : decode cX5_at 12 = .ok (.goto 4, 3) := by decide +kernel
theorem dX5_at_15 : decode cX5_at 15 = .ok (.iconst 0, 1) := by decide +kernel
theorem dX5_at_16 : decode cX5_at 16 = .ok (.ireturn, 1) := by decide +kernel
theorem dX5_parts_0 : decode cX5_parts 0 = .ok (.iconst 0, 1) := by decide +kernel
theorem dX5_parts_1 : decode cX5_parts 1 = .ok (.istore_n 2, 1) := by decide +kernel
theorem dX5_parts_2 : decode cX5_parts 2 = .ok (.iload_n 2, 1) := by decide +kernel
theorem dX5_parts_3 : decode cX5_parts 3 = .ok (.sipush 4000, 3) := by decide +kernel
theorem dX5_parts_6 : decode cX5_parts 6 = .ok (.if_icmp .gt 37, 3) := by decide +kernel
theorem dX5_parts_9 : decode cX5_parts 9 = .ok (.aload_n 0, 1) := by decide +kernel
theorem dX5_parts_10 : decode cX5_parts 10 = .ok (.iload_n 1, 1) := by decide +kernel
theorem dX5_parts_11 : decode cX5_parts 11 = .ok (.invokevirtual 143, 3) := by decide +kernel
theorem dX5_parts_14 : decode cX5_parts 14 = .ok (.ifCond .ne 29, 3) := by decide +kernel
theorem dX5_parts_17 : decode cX5_parts 17 = .ok (.aload_n 0, 1) := by decide +kernel
theorem dX5_parts_18 : decode cX5_parts 18 = .ok (.bipush 15, 2) := by decide +kernel
theorem dX5_parts_20 : decode cX5_parts 20 = .ok (.invokevirtual 143, 3) := by decide +kernel
theorem dX5_parts_23 : decode cX5_parts 23 = .ok (.ifCond .eq 10, 3) := by decide +kernel
theorem dX5_parts_26 : decode cX5_parts 26 = .ok (.aload_n 0, 1) := by decide +kernel
theorem dX5_parts_27 : decode cX5_parts 27 = .ok (.invokevirtual 168, 3) := by decide +kernel
theorem dX5_parts_30 : decode cX5_parts 30 = .ok (.goto 7, 3) := by decide +kernel
theorem dX5_parts_33 : decode cX5_parts 33 = .ok (.aload_n 0, 1) := by decide +kernel
theorem dX5_parts_34 : decode cX5_parts 34 = .ok (.invokevirtual 171, 3) := by decide +kernel
theorem dX5_parts_37 : decode cX5_parts 37 = .ok (.iinc 2 1, 3) := by decide +kernel
theorem dX5_parts_40 : decode cX5_parts 40 = .ok (.goto (-38), 3) := by decide +kernel
theorem dX5_parts_43 : decode cX5_parts 43 = .ok (.return_, 1) := by decide +kernel
theorem dX6_open_0 : decode cX6_open 0 = .ok (.aload_n 0, 1) := by decide +kernel
theorem dX6_open_1 : decode cX6_open 1 = .ok (.iconst 0, 1) := by decide +kernel
theorem dX6_open_2 : decode cX6_open 2 = .ok (.iload_n 1, 1) := by decide +kernel
theorem dX6_open_3 : decode cX6_open 3 = .ok (.aload_n 0, 1) := by decide +kernel
theorem dX6_open_4 : decode cX6_open 4 = .ok (.getfield 13, 3) := by decide +kernel
theorem dX6_open_7 : decode cX6_open 7 = .ok (.arraylength, 1) := by decide +kernel
theorem dX6_open_8 : decode cX6_open 8 = .ok (.invokestatic 17, 3) := by decide +kernel
theorem dX6_open_11 : decode cX6_open 11 = .ok (.invokestatic 23, 3) := by decide +kernel
theorem dX6_open_14 : decode cX6_open 14 = .ok (.putfield 26, 3) := by decide +kernel
theorem dX6_open_17 : decode cX6_open 17 = .ok (.aload_n 0, 1) := by decide +kernel
theorem dX6_open_18 : decode cX6_open 18 = .ok (.iconst 0, 1) := by decide +kernel
theorem dX6_open_19 : decode cX6_open 19 = .ok (.putfield 30, 3) := by decide +kernel
theorem dX6_open_22 : decode cX6_open 22 = .ok (.aload_n 0, 1) := by decide +kernel
theorem dX6_open_23 : decode cX6_open 23 = .ok (.iconst 1, 1) := by decide +kernel
theorem dX6_open_24 : decode cX6_open 24 = .ok (.putfield 33, 3) := by decide +kernel
theorem dX6_open_27 : decode cX6_open 27 = .ok (.aload_n 0, 1) := by decide +kernel
theorem dX6_open_28 : decode cX6_open 28 = .ok (.iconst 1, 1) := by decide +kernel
theorem dX6_open_29 : decode cX6_open 29 = .ok (.putfield 36, 3) := by decide +kernel
theorem dX6_open_32 : decode cX6_open 32 = .ok (.aload_n 0, 1) := by decide +kernel
theorem dX6_open_33 : decode cX6_open 33 = .ok (.iconst 0, 1) := by decide +kernel
theorem dX6_open_34 : decode cX6_open 34 = .ok (.putfield 39, 3) := by decide +kernel
theorem dX6_open_37 : decode cX6_open 37 = .ok (.aload_n 0, 1) := by decide +kernel
theorem dX6_open_38 : decode cX6_open 38 = .ok (.iconst (-1), 1) := by decide +kernel
theorem dX6_open_39 : decode cX6_open 39 = .ok (.putfield 42, 3) := by decide +kernel
theorem dX6_open_42 : decode cX6_open 42 = .ok (.aload_n 0, 1) := by decide +kernel
theorem dX6_open_43 : decode cX6_open 43 = .ok (.iconst 0, 1) := by decide +kernel
theorem dX6_open_44 : decode cX6_open 44 = .ok (.putfield 45, 3) := by decide +kernel
theorem dX6_open_47 : decode cX6_open 47 = .ok (.aload_n 0, 1) := by decide +kernel
theorem dX6_open_48 : decode cX6_open 48 = .ok (.iconst 0, 1) := by decide +kernel
theorem dX6_open_49 : decode cX6_open 49 = .ok (.putfield 48, 3) := by decide +kernel
theorem dX6_open_52 : decode cX6_open 52 = .ok (.aload_n 0, 1) := by decide +kernel
theorem dX6_open_53 : decode cX6_open 53 = .ok (.invokevirtual 51, 3) := by decide +kernel
theorem dX6_open_56 : decode cX6_open 56 = .ok (.return_, 1) := by decide +kernel
theorem dX6_byteAt_0 : decode cX6_byteAt 0 = .ok (.iload_n 1, 1) := by decide +kernel
theorem dX6_byteAt_1 : decode cX6_byteAt 1 = .ok (.ifCond .lt 20, 3) := by decide +kernel
theorem dX6_byteAt_4 : decode cX6_byteAt 4 = .ok (.iload_n 1, 1) := by decide +kernel
theorem dX6_byteAt_5 : decode cX6_byteAt 5 = .ok (.aload_n 0, 1) := by decide +kernel
theorem dX6_byteAt_6 : decode cX6_byteAt 6 = .ok (.getfield 26, 3) := by decide +kernel
theorem dX6_byteAt_9 : decode cX6_byteAt 9 = .ok (.if_icmp .ge 12, 3) := by decide +kernel
theorem dX6_byteAt_12 : decode cX6_byteAt 12 = .ok (.aload_n 0, 1) := by decide +kernel
theorem dX6_byteAt_13 : decode cX6_byteAt 13 = .ok (.getfield 13, 3) := by decide +kernel
theorem dX6_byteAt_16 : decode cX6_byteAt 16 = .ok (.iload_n 1, 1) := by decide +kernel
theorem dX6_byteAt_17 : decode cX6_byteAt 17 = .ok (.iaload, 1) := by decide +kernel
theorem dX6_byteAt_18 : decode cX6_byteAt 18 = .ok (.goto 4, 3) := by decide +kernel
theorem dX6_byteAt_21 : decode cX6_byteAt 21 = .ok (.iconst (-1), 1) := by decide +kernel
theorem dX6_byteAt_22 : decode cX6_byteAt 22 = .ok (.ireturn, 1) := by decide +kernel
theorem dX6_advance_0 : decode cX6_advance 0 = .ok (.aload_n 0, 1) := by decide +kernel
theorem dX6_advance_1 : decode cX6_advance 1 = .ok (.aload_n 0, 1) := by decide +kernel
theorem dX6_advance_2 : decode cX6_advance 2 = .ok (.getfield 36, 3) := by decide +kernel
theorem dX6_advance_5 : decode cX6_advance 5 = .ok (.putfield 60, 3) := by decide +kernel
theorem dX6_advance_8 : decode cX6_advance 8 = .ok (.aload_n 0, 1) := by decide +kernel
theorem dX6_advance_9 : decode cX6_advance 9 = .ok (.dup, 1) := by decide +kernel
theorem dX6_advance_10 : decode cX6_advance 10 = .ok (.getfield 42, 3) := by decide +kernel
theorem dX6_advance_13 : decode cX6_advance 13 = .ok (.iconst 1, 1) := by decide +kernel
theorem dX6_advance_14 : decode cX6_advance 14 = .ok (.iadd, 1) := by decide +kernel
theorem dX6_advance_15 : decode cX6_advance 15 = .ok (.putfield 42, 3) := by decide +kernel
theorem dX6_advance_18 : decode cX6_advance 18 = .ok (.aload_n 0, 1) := by decide +kernel
theorem dX6_advance_19 : decode cX6_advance 19 = .ok (.invokevirtual 63, 3) := by decide +kernel
theorem dX6_advance_22 : decode cX6_advance 22 = .ok (.aload_n 0, 1) := by decide +kernel
theorem dX6_advance_23 : decode cX6_advance 23 = .ok (.aload_n 0, 1) := by decide +kernel
theorem dX6_advance_24 : decode cX6_advance 24 = .ok (.getfield 33, 3) := by decide +kernel
theorem dX6_advance_27 : decode cX6_advance 27 = .ok (.putfield 36, 3) := by decide +kernel
theorem dX6_advance_30 : decode cX6_advance 30 = .ok (.aload_n 0, 1) := by decide +kernel
theorem dX6_advance_31 : decode cX6_advance 31 = .ok (.aload_n 0, 1) := by decide +kernel
theorem dX6_advance_32 : decode cX6_advance 32 = .ok (.getfield 30, 3) := by decide +kernel
theorem dX6_advance_35 : decode cX6_advance 35 = .ok (.putfield 39, 3) := by decide +kernel
theorem dX6_advance_38 : decode cX6_advance 38 = .ok (.aload_n 0, 1) := by decide +kernel
theorem dX6_advance_39 : decode cX6_advance 39 = .ok (.aload_n 0, 1) := by decide +kernel
theorem dX6_advance_40 : decode cX6_advance 40 = .ok (.getfield 30, 3) := by decide +kernel
theorem dX6_advance_43 : decode cX6_advance 43 = .ok (.invokevirtual 66, 3) := by decide +kernel
theorem dX6_advance_46 : decode cX6_advance 46 = .ok (.istore_n 1, 1) := by decide +kernel
theorem dX6_advance_47 : decode cX6_advance 47 = .ok (.iload_n 1, 1) := by decide +kernel
theorem dX6_advance_48 : decode cX6_advance 48 = .ok (.ifCond .ge 11, 3) := by decide +kernel
theorem dX6_advance_51 : decode cX6_advance 51 = .ok (.aload_n 0, 1) := by decide +kernel
theorem dX6_advance_52 : decode cX6_advance 52 = .ok (.iconst 0, 1) := by decide +kernel
theorem dX6_advance_53 : decode cX6_advance 53 = .ok (.putfield 70, 3) := by decide +kernel
theorem dX6_advance_56 : decode cX6_advance 56 = .ok (.goto 55, 3) := by decide +kernel
theorem dX6_advance_59 : decode cX6_advance 59 = .ok (.iload_n 1, 1) := by decide +kernel
theorem dX6_advance_60 : decode cX6_advance 60 = .ok (.invokestatic 73, 3) := by decide +kernel
theorem dX6_advance_63 : decode cX6_advance 63 = .ok (.ifCond .eq 10, 3) := by decide +kernel
theorem dX6_advance_66 : decode cX6_advance 66 = .ok (.aload_n 0, 1) := by decide +kernel
theorem dX6_advance_67 : decode cX6_advance 67 = .ok (.invokevirtual 77, 3) := by decide +kernel
theorem dX6_advance_70 : decode cX6_advance 70 = .ok (.goto 41, 3) := by decide +kernel
theorem dX6_advance_73 : decode cX6_advance 73 = .ok (.iload_n 1, 1) := by decide +kernel
theorem dX6_advance_74 : decode cX6_advance 74 = .ok (.invokestatic 80, 3) := by decide +kernel
theorem dX6_advance_77 : decode cX6_advance 77 = .ok (.ifCond .eq 10, 3) := by decide +kernel
theorem dX6_advance_80 : decode cX6_advance 80 = .ok (.aload_n 0, 1) := by decide +kernel
theorem dX6_advance_81 : decode cX6_advance 81 = .ok (.invokevirtual 83, 3) := by decide +kernel
theorem dX6_advance_84 : decode cX6_advance 84 = .ok (.goto 27, 3) := by decide +kernel
theorem dX6_advance_87 : decode cX6_advance 87 = .ok (.iload_n 1, 1) := by decide +kernel
theorem dX6_advance_88 : decode cX6_advance 88 = .ok (.bipush 34, 2) := by decide +kernel
theorem dX6_advance_90 : decode cX6_advance 90 = .ok (.if_icmp .eq 9, 3) := by decide +kernel
theorem dX6_advance_93 : decode cX6_advance 93 = .ok (.iload_n 1, 1) := by decide +kernel
theorem dX6_advance_94 : decode cX6_advance 94 = .ok (.bipush 39, 2) := by decide +kernel
theorem dX6_advance_96 : decode cX6_advance 96 = .ok (.if_icmp .ne 11, 3) := by decide +kernel
theorem dX6_advance_99 : decode cX6_advance 99 = .ok (.aload_n 0, 1) := by decide +kernel
theorem dX6_advance_100 : decode cX6_advance 100 = .ok (.iload_n 1, 1) := by decide +kernel
theorem dX6_advance_101 : decode cX6_advance 101 = .ok (.invokevirtual 86, 3) := by decide +kernel
theorem dX6_advance_104 : decode cX6_advance 104 = .ok (.goto 7, 3) := by decide +kernel
theorem dX6_advance_107 : decode cX6_advance 107 = .ok (.aload_n 0, 1) := by decide +kernel
theorem dX6_advance_108 : decode cX6_advance 108 = .ok (.invokevirtual 90, 3) := by decide +kernel
theorem dX6_advance_111 : decode cX6_advance 111 = .ok (.return_, 1) := by decide +kernel
theorem dX6_skipBlanks_0 : decode cX6_skipBlanks 0 = .ok (.iconst 0, 1) := by decide +kernel
theorem dX6_skipBlanks_1 : decode cX6_skipBlanks 1 = .ok (.istore_n 1, 1) := by decide +kernel
theorem dX6_skipBlanks_2 : decode cX6_skipBlanks 2 = .ok (.iload_n 1, 1) := by decide +kernel
theorem dX6_skipBlanks_3 : decode cX6_skipBlanks 3 = .ok (.aload_n 0, 1) := by decide +kernel
theorem dX6_skipBlanks_4 : decode cX6_skipBlanks 4 = .ok (.getfield 26, 3) := by decide +kernel
theorem dX6_skipBlanks_7 : decode cX6_skipBlanks 7 = .ok (.if_icmp .gt 122, 3) := by decide +kernel
theorem dX6_skipBlanks_10 : decode cX6_skipBlanks 10 = .ok (.aload_n 0, 1) := by decide +kernel
theorem dX6_skipBlanks_11 : decode cX6_skipBlanks 11 = .ok (.aload_n 0, 1) := by decide +kernel
theorem dX6_skipBlanks_12 : decode cX6_skipBlanks 12 = .ok (.getfield 30, 3) := by decide +kernel
theorem dX6_skipBlanks_15 : decode cX6_skipBlanks 15 = .ok (.invokevirtual 66, 3) := by decide +kernel
theorem dX6_skipBlanks_18 : decode cX6_skipBlanks 18 = .ok (.istore_n 2, 1) := by decide +kernel
theorem dX6_skipBlanks_19 : decode cX6_skipBlanks 19 = .ok (.iload_n 2, 1) := by decide +kernel
theorem dX6_skipBlanks_20 : decode cX6_skipBlanks 20 = .ok (.bipush 10, 2) := by decide +kernel
theorem dX6_skipBlanks_22 : decode cX6_skipBlanks 22 = .ok (.if_icmp .ne 13, 3) := by decide +kernel
theorem dX6_skipBlanks_25 : decode cX6_skipBlanks 25 = .ok (.aload_n 0, 1) := by decide +kernel
theorem dX6_skipBlanks_26 : decode cX6_skipBlanks 26 = .ok (.dup, 1) := by decide +kernel
theorem dX6_skipBlanks_27 : decode cX6_skipBlanks 27 = .ok (.getfield 33, 3) := by decide +kernel
theorem dX6_skipBlanks_30 : decode cX6_skipBlanks 30 = .ok (.iconst 1, 1) := by decide +kernel
theorem dX6_skipBlanks_31 : decode cX6_skipBlanks 31 = .ok (.iadd, 1) := by decide +kernel
theorem dX6_skipBlanks_32 : decode cX6_skipBlanks 32 = .ok (.putfield 33, 3) := by decide +kernel
theorem dX6_skipBlanks_35 : decode cX6_skipBlanks 35 = .ok (.iload_n 2, 1) := by decide +kernel
theorem dX6_skipBlanks_36 : decode cX6_skipBlanks 36 = .ok (.bipush 9, 2) := by decide +kernel
theorem dX6_skipBlanks_38 : decode cX6_skipBlanks 38 = .ok (.if_icmp .eq 15, 3) := by decide +kernel
theorem dX6_skipBlanks_41 : decode cX6_skipBlanks 41 = .ok (.iload_n 2, 1) := by decide +kernel
theorem dX6_skipBlanks_42 : decode cX6_skipBlanks 42 = .ok (.bipush 10, 2) := by decide +kernel
theorem dX6_skipBlanks_44 : decode cX6_skipBlanks 44 = .ok (.if_icmp .eq 9, 3) := by decide +kernel
theorem dX6_skipBlanks_47 : decode cX6_skipBlanks 47 = .ok (.iload_n 2, 1) := by decide +kernel
theorem dX6_skipBlanks_48 : decode cX6_skipBlanks 48 = .ok (.bipush 32, 2) := by decide +kernel
theorem dX6_skipBlanks_50 : decode cX6_skipBlanks 50 = .ok (.if_icmp .ne 16, 3) := by decide +kernel
theorem dX6_skipBlanks_53 : decode cX6_skipBlanks 53 = .ok (.aload_n 0, 1) := by decide +kernel
theorem dX6_skipBlanks_54 : decode cX6_skipBlanks 54 = .ok (.dup, 1) := by decide +kernel
theorem dX6_skipBlanks_55 : decode cX6_skipBlanks 55 = .ok (.getfield 30, 3) := by decide +kernel
theorem dX6_skipBlanks_58 : decode cX6_skipBlanks 58 = .ok (.iconst 1, 1) := by decide +kernel
theorem dX6_skipBlanks_59 : decode cX6_skipBlanks 59 = .ok (.iadd, 1) := by decide +kernel
theorem dX6_skipBlanks_60 : decode cX6_skipBlanks 60 = .ok (.putfield 30, 3) := by decide +kernel
theorem dX6_skipBlanks_63 : decode cX6_skipBlanks 63 = .ok (.goto 60, 3) := by decide +kernel
theorem dX6_skipBlanks_66 : decode cX6_skipBlanks 66 = .ok (.iload_n 2, 1) := by decide +kernel
theorem dX6_skipBlanks_67 : decode cX6_skipBlanks 67 = .ok (.bipush 47, 2) := by decide +kernel
theorem dX6_skipBlanks_69 : decode cX6_skipBlanks 69 = .ok (.if_icmp .ne 25, 3) := by decide +kernel
theorem dX6_skipBlanks_72 : decode cX6_skipBlanks 72 = .ok (.aload_n 0, 1) := by decide +kernel
theorem dX6_skipBlanks_73 : decode cX6_skipBlanks 73 = .ok (.aload_n 0, 1) := by decide +kernel
theorem dX6_skipBlanks_74 : decode cX6_skipBlanks 74 = .ok (.getfield 30, 3) := by decide +kernel
theorem dX6_skipBlanks_77 : decode cX6_skipBlanks 77 = .ok (.iconst 1, 1) := by decide +kernel
theorem dX6_skipBlanks_78 : decode cX6_skipBlanks 78 = .ok (.iadd, 1) := by decide +kernel
theorem dX6_skipBlanks_79 : decode cX6_skipBlanks 79 = .ok (.invokevirtual 66, 3) := by decide +kernel
theorem dX6_skipBlanks_82 : decode cX6_skipBlanks 82 = .ok (.bipush 47, 2) := by decide +kernel
theorem dX6_skipBlanks_84 : decode cX6_skipBlanks 84 = .ok (.if_icmp .ne 10, 3) := by decide +kernel
theorem dX6_skipBlanks_87 : decode cX6_skipBlanks 87 = .ok (.aload_n 0, 1) := by decide +kernel
theorem dX6_skipBlanks_88 : decode cX6_skipBlanks 88 = .ok (.invokevirtual 93, 3) := by decide +kernel
theorem dX6_skipBlanks_91 : decode cX6_skipBlanks 91 = .ok (.goto 32, 3) := by decide +kernel
theorem dX6_skipBlanks_94 : decode cX6_skipBlanks 94 = .ok (.iload_n 2, 1) := by decide +kernel
theorem dX6_skipBlanks_95 : decode cX6_skipBlanks 95 = .ok (.bipush 47, 2) := by decide +kernel
theorem dX6_skipBlanks_97 : decode cX6_skipBlanks 97 = .ok (.if_icmp .ne 25, 3) := by decide +kernel
theorem dX6_skipBlanks_100 : decode cX6_skipBlanks 100 = .ok (.aload_n 0, 1) := by decide +kernel
theorem dX6_skipBlanks_101 : decode cX6_skipBlanks 101 = .ok (.aload_n 0, 1) := by decide +kernel
theorem dX6_skipBlanks_102 : decode cX6_skipBlanks 102 = .ok (.getfield 30, 3) := by decide +kernel
theorem dX6_skipBlanks_105 : decode cX6_skipBlanks 105 = .ok (.iconst 1, 1) := by decide +kernel
theorem dX6_skipBlanks_106 : decode cX6_skipBlanks 106 = .ok (.iadd, 1) := by decide +kernel
theorem dX6_skipBlanks_107 : decode cX6_skipBlanks 107 = .ok (.invokevirtual 66, 3) := by decide +kernel
theorem dX6_skipBlanks_110 : decode cX6_skipBlanks 110 = .ok (.bipush 42, 2) := by decide +kernel
theorem dX6_skipBlanks_112 : decode cX6_skipBlanks 112 = .ok (.if_icmp .ne 10, 3) := by decide +kernel
theorem dX6_skipBlanks_115 : decode cX6_skipBlanks 115 = .ok (.aload_n 0, 1) := by decide +kernel
theorem dX6_skipBlanks_116 : decode cX6_skipBlanks 116 = .ok (.invokevirtual 96, 3) := by decide +kernel
theorem dX6_skipBlanks_119 : decode cX6_skipBlanks 119 = .ok (.goto 4, 3) := by decide +kernel
theorem dX6_skipBlanks_122 : decode cX6_skipBlanks 122 = .ok (.return_, 1) := by decide +kernel
theorem dX6_skipBlanks_123 : decode cX6_skipBlanks 123 = .ok (.iinc 1 1, 3) := by decide +kernel
theorem dX6_skipBlanks_126 : decode cX6_skipBlanks 126 = .ok (.goto (-124), 3) := by decide +kernel
theorem dX6_skipBlanks_129 : decode cX6_skipBlanks 129 = .ok (.return_, 1) := by decide +kernel
theorem dX8_forget_0 : decode cX8_forget 0 = .ok (.aload_n 0, 1) := by decide +kernel
theorem dX8_forget_1 : decode cX8_forget 1 = .ok (.iconst 0, 1) := by decide +kernel
theorem dX8_forget_2 : decode cX8_forget 2 = .ok (.putfield 82, 3) := by decide +kernel
theorem dX8_forget_5 : decode cX8_forget 5 = .ok (.return_, 1) := by decide +kernel
theorem dX9_cutTo_0 : decode cX9_cutTo 0 = .ok (.aload_n 0, 1) := by decide +kernel
theorem dX9_cutTo_1 : decode cX9_cutTo 1 = .ok (.getfield 56, 3) := by decide +kernel
theorem dX9_cutTo_4 : decode cX9_cutTo 4 = .ok (.iconst 1, 1) := by decide +kernel
theorem dX9_cutTo_5 : decode cX9_cutTo 5 = .ok (.isub, 1) := by decide +kernel
theorem dX9_cutTo_6 : decode cX9_cutTo 6 = .ok (.istore_n 2, 1) := by decide +kernel
theorem dX9_cutTo_7 : decode cX9_cutTo 7 = .ok (.iload_n 2, 1) := by decide +kernel
theorem dX9_cutTo_8 : decode cX9_cutTo 8 = .ok (.iload_n 1, 1) := by decide +kernel
theorem dX9_cutTo_9 : decode cX9_cutTo 9 = .ok (.if_icmp .lt 45, 3) := by decide +kernel
theorem dX9_cutTo_12 : decode cX9_cutTo 12 = .ok (.iload_n 2, 1) := by decide +kernel
theorem dX9_cutTo_13 : decode cX9_cutTo 13 = .ok (.ifCond .lt 41, 3) := by decide +kernel
theorem dX9_cutTo_16 : decode cX9_cutTo 16 = .ok (.aload_n 0, 1) := by decide +kernel
theorem dX9_cutTo_17 : decode cX9_cutTo 17 = .ok (.invokevirtual 34, 3) := by decide +kernel
theorem dX9_cutTo_20 : decode cX9_cutTo 20 = .ok (.aload_n 0, 1) := by decide +kernel
theorem dX9_cutTo_21 : decode cX9_cutTo 21 = .ok (.iload_n 2, 1) := by decide +kernel
theorem dX9_cutTo_22 : decode cX9_cutTo 22 = .ok (.invokevirtual 79, 3) := by decide +kernel
theorem dX9_cutTo_25 : decode cX9_cutTo 25 = .ok (.aload_n 0, 1) := by decide +kernel
theorem dX9_cutTo_26 : decode cX9_cutTo 26 = .ok (.getfield 22, 3) := by decide +kernel
theorem dX9_cutTo_29 : decode cX9_cutTo 29 = .ok (.aload_n 0, 1) := by decide +kernel
theorem dX9_cutTo_30 : decode cX9_cutTo 30 = .ok (.getfield 66, 3) := by decide +kernel
theorem dX9_cutTo_33 : decode cX9_cutTo 33 = .ok (.bipush 127, 2) := by decide +kernel
theorem dX9_cutTo_35 : decode cX9_cutTo 35 = .ok (.iand, 1) := by decide +kernel
theorem dX9_cutTo_36 : decode cX9_cutTo 36 = .ok (.aload_n 0, 1) := by decide +kernel
theorem dX9_cutTo_37 : decode cX9_cutTo 37 = .ok (.getfield 19, 3) := by decide +kernel
theorem dX9_cutTo_40 : decode cX9_cutTo 40 = .ok (.iload_n 2, 1) := by decide +kernel
theorem dX9_cutTo_41 : decode cX9_cutTo 41 = .ok (.iaload, 1) := by decide +kernel
theorem dX9_cutTo_42 : decode cX9_cutTo 42 = .ok (.iastore, 1) := by decide +kernel
theorem dX9_cutTo_43 : decode cX9_cutTo 43 = .ok (.aload_n 0, 1) := by decide +kernel
theorem dX9_cutTo_44 : decode cX9_cutTo 44 = .ok (.iload_n 2, 1) := by decide +kernel
theorem dX9_cutTo_45 : decode cX9_cutTo 45 = .ok (.putfield 56, 3) := by decide +kernel
theorem dX9_cutTo_48 : decode cX9_cutTo 48 = .ok (.iinc 2 (-1), 3) := by decide +kernel
theorem dX9_cutTo_51 : decode cX9_cutTo 51 = .ok (.goto (-44), 3) := by decide +kernel
theorem dX9_cutTo_54 : decode cX9_cutTo 54 = .ok (.return_, 1) := by decide +kernel
theorem dX11_read_0 : decode cX11_read 0 = .ok (.aload_n 0, 1) := by decide +kernel
theorem dX11_read_1 : decode cX11_read 1 = .ok (.iconst 0, 1) := by decide +kernel
theorem dX11_read_2 : decode cX11_read 2 = .ok (.putfield 65, 3) := by decide +kernel
theorem dX11_read_5 : decode cX11_read 5 = .ok (.aload_n 0, 1) := by decide +kernel
theorem dX11_read_6 : decode cX11_read 6 = .ok (.getfield 50, 3) := by decide +kernel
theorem dX11_read_9 : decode cX11_read 9 = .ok (.invokevirtual 73, 3) := by decide +kernel
theorem dX11_read_12 : decode cX11_read 12 = .ok (.aload_n 0, 1) := by decide +kernel
theorem dX11_read_13 : decode cX11_read 13 = .ok (.getfield 57, 3) := by decide +kernel
theorem dX11_read_16 : decode cX11_read 16 = .ok (.invokevirtual 76, 3) := by decide +kernel
theorem dX11_read_19 : decode cX11_read 19 = .ok (.aload_n 0, 1) := by decide +kernel
theorem dX11_read_20 : decode cX11_read 20 = .ok (.getfield 61, 3) := by decide +kernel
theorem dX11_read_23 : decode cX11_read 23 = .ok (.istore_n 1, 1) := by decide +kernel
theorem dX11_read_24 : decode cX11_read 24 = .ok (.aload_n 0, 1) := by decide +kernel
theorem dX11_read_25 : decode cX11_read 25 = .ok (.iconst 0, 1) := by decide +kernel
theorem dX11_read_26 : decode cX11_read 26 = .ok (.putfield 61, 3) := by decide +kernel
theorem dX11_read_29 : decode cX11_read 29 = .ok (.aload_n 0, 1) := by decide +kernel
theorem dX11_read_30 : decode cX11_read 30 = .ok (.getfield 41, 3) := by decide +kernel
theorem dX11_read_33 : decode cX11_read 33 = .ok (.iload_n 1, 1) := by decide +kernel
theorem dX11_read_34 : decode cX11_read 34 = .ok (.invokevirtual 77, 3) := by decide +kernel
theorem dX11_read_37 : decode cX11_read 37 = .ok (.istore_n 2, 1) := by decide +kernel
theorem dX11_read_38 : decode cX11_read 38 = .ok (.iload_n 2, 1) := by decide +kernel
theorem dX11_read_39 : decode cX11_read 39 = .ok (.ifCond .ne 22, 3) := by decide +kernel
theorem dX11_read_42 : decode cX11_read 42 = .ok (.aload_n 0, 1) := by decide +kernel
theorem dX11_read_43 : decode cX11_read 43 = .ok (.getfield 32, 3) := by decide +kernel
theorem dX11_read_46 : decode cX11_read 46 = .ok (.aload_n 0, 1) := by decide +kernel
theorem dX11_read_47 : decode cX11_read 47 = .ok (.getfield 16, 3) := by decide +kernel
theorem dX11_read_50 : decode cX11_read 50 = .ok (.getfield 81, 3) := by decide +kernel
theorem dX11_read_53 : decode cX11_read 53 = .ok (.invokevirtual 84, 3) := by decide +kernel
theorem dX11_read_56 : decode cX11_read 56 = .ok (.ifCond .ne 5, 3) := by decide +kernel
theorem dX11_read_59 : decode cX11_read 59 = .ok (.iconst 4, 1) := by decide +kernel
theorem dX11_read_60 : decode cX11_read 60 = .ok (.istore_n 2, 1) := by decide +kernel
theorem dX11_read_61 : decode cX11_read 61 = .ok (.iload_n 2, 1) := by decide +kernel
theorem dX11_read_62 : decode cX11_read 62 = .ok (.ifCond .ne 36, 3) := by decide +kernel
theorem dX11_read_65 : decode cX11_read 65 = .ok (.aload_n 0, 1) := by decide +kernel
theorem dX11_read_66 : decode cX11_read 66 = .ok (.iconst 1, 1) := by decide +kernel
theorem dX11_read_67 : decode cX11_read 67 = .ok (.putfield 65, 3) := by decide +kernel
theorem dX11_read_70 : decode cX11_read 70 = .ok (.aload_n 0, 1) := by decide +kernel
theorem dX11_read_71 : decode cX11_read 71 = .ok (.getfield 16, 3) := by decide +kernel
theorem dX11_read_74 : decode cX11_read 74 = .ok (.aload_n 0, 1) := by decide +kernel
theorem dX11_read_75 : decode cX11_read 75 = .ok (.getfield 16, 3) := by decide +kernel
theorem dX11_read_78 : decode cX11_read 78 = .ok (.getfield 81, 3) := by decide +kernel
theorem dX11_read_81 : decode cX11_read 81 = .ok (.putfield 88, 3) := by decide +kernel
theorem dX11_read_84 : decode cX11_read 84 = .ok (.aload_n 0, 1) := by decide +kernel
theorem dX11_read_85 : decode cX11_read 85 = .ok (.getfield 23, 3) := by decide +kernel
theorem dX11_read_88 : decode cX11_read 88 = .ok (.aload_n 0, 1) := by decide +kernel
theorem dX11_read_89 : decode cX11_read 89 = .ok (.getfield 16, 3) := by decide +kernel
theorem dX11_read_92 : decode cX11_read 92 = .ok (.getfield 81, 3) := by decide +kernel
theorem dX11_read_95 : decode cX11_read 95 = .ok (.putfield 91, 3) := by decide +kernel
theorem dX11_read_98 : decode cX11_read 98 = .ok (.iload_n 2, 1) := by decide +kernel
theorem dX11_read_99 : decode cX11_read 99 = .ok (.ireturn, 1) := by decide +kernel
