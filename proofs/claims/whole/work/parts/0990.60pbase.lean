theorem dX12_fail_0 : decode cX12_fail 0 = .ok (.aload_n 0, 1) := by decide +kernel
theorem dX12_fail_1 : decode cX12_fail 1 = .ok (.getfield 389, 3) := by decide +kernel
theorem dX12_fail_4 : decode cX12_fail 4 = .ok (.ifCond .ne 39, 3) := by decide +kernel
theorem dX12_fail_7 : decode cX12_fail 7 = .ok (.aload_n 0, 1) := by decide +kernel
theorem dX12_fail_8 : decode cX12_fail 8 = .ok (.aload_n 0, 1) := by decide +kernel
theorem dX12_fail_9 : decode cX12_fail 9 = .ok (.getfield 27, 3) := by decide +kernel
theorem dX12_fail_12 : decode cX12_fail 12 = .ok (.aload_n 0, 1) := by decide +kernel
theorem dX12_fail_13 : decode cX12_fail 13 = .ok (.getfield 392, 3) := by decide +kernel
theorem dX12_fail_16 : decode cX12_fail 16 = .ok (.iaload, 1) := by decide +kernel
theorem dX12_fail_17 : decode cX12_fail 17 = .ok (.bipush 6, 2) := by decide +kernel
theorem dX12_fail_19 : decode cX12_fail 19 = .ok (.if_icmp .ne 7, 3) := by decide +kernel
theorem dX12_fail_22 : decode cX12_fail 22 = .ok (.iconst 1, 1) := by decide +kernel
theorem dX12_fail_23 : decode cX12_fail 23 = .ok (.goto 4, 3) := by decide +kernel
theorem dX12_fail_26 : decode cX12_fail 26 = .ok (.iload_n 1, 1) := by decide +kernel
theorem dX12_fail_27 : decode cX12_fail 27 = .ok (.putfield 389, 3) := by decide +kernel
theorem dX12_fail_30 : decode cX12_fail 30 = .ok (.aload_n 0, 1) := by decide +kernel
theorem dX12_fail_31 : decode cX12_fail 31 = .ok (.aload_n 0, 1) := by decide +kernel
theorem dX12_fail_32 : decode cX12_fail 32 = .ok (.getfield 39, 3) := by decide +kernel
theorem dX12_fail_35 : decode cX12_fail 35 = .ok (.aload_n 0, 1) := by decide +kernel
theorem dX12_fail_36 : decode cX12_fail 36 = .ok (.getfield 392, 3) := by decide +kernel
theorem dX12_fail_39 : decode cX12_fail 39 = .ok (.iaload, 1) := by decide +kernel
theorem dX12_fail_40 : decode cX12_fail 40 = .ok (.putfield 395, 3) := by decide +kernel
theorem dX12_fail_43 : decode cX12_fail 43 = .ok (.iconst 0, 1) := by decide +kernel
theorem dX12_fail_44 : decode cX12_fail 44 = .ok (.ireturn, 1) := by decide +kernel
theorem dX12_isSign_0 : decode cX12_isSign 0 = .ok (.aload_n 0, 1) := by decide +kernel
theorem dX12_isSign_1 : decode cX12_isSign 1 = .ok (.getfield 27, 3) := by decide +kernel
theorem dX12_isSign_4 : decode cX12_isSign 4 = .ok (.aload_n 0, 1) := by decide +kernel
theorem dX12_isSign_5 : decode cX12_isSign 5 = .ok (.getfield 392, 3) := by decide +kernel
theorem dX12_isSign_8 : decode cX12_isSign 8 = .ok (.iaload, 1) := by decide +kernel
theorem dX12_isSign_9 : decode cX12_isSign 9 = .ok (.iconst 5, 1) := by decide +kernel
theorem dX12_isSign_10 : decode cX12_isSign 10 = .ok (.if_icmp .ne 20, 3) := by decide +kernel
theorem dX12_isSign_13 : decode cX12_isSign 13 = .ok (.aload_n 0, 1) := by decide +kernel
theorem dX12_isSign_14 : decode cX12_isSign 14 = .ok (.getfield 30, 3) := by decide +kernel
theorem dX12_isSign_17 : decode cX12_isSign 17 = .ok (.aload_n 0, 1) := by decide +kernel
theorem dX12_isSign_18 : decode cX12_isSign 18 = .ok (.getfield 392, 3) := by decide +kernel
theorem dX12_isSign_21 : decode cX12_isSign 21 = .ok (.iaload, 1) := by decide +kernel
theorem dX12_isSign_22 : decode cX12_isSign 22 = .ok (.iload_n 1, 1) := by decide +kernel
theorem dX12_isSign_23 : decode cX12_isSign 23 = .ok (.if_icmp .ne 7, 3) := by decide +kernel
theorem dX12_isSign_26 : decode cX12_isSign 26 = .ok (.iconst 1, 1) := by decide +kernel
theorem dX12_isSign_27 : decode cX12_isSign 27 = .ok (.goto 4, 3) := by decide +kernel
theorem dX12_isSign_30 : decode cX12_isSign 30 = .ok (.iconst 0, 1) := by decide +kernel
theorem dX12_isSign_31 : decode cX12_isSign 31 = .ok (.ireturn, 1) := by decide +kernel
theorem dX12_isKeyword_0 : decode cX12_isKeyword 0 = .ok (.aload_n 0, 1) := by decide +kernel
theorem dX12_isKeyword_1 : decode cX12_isKeyword 1 = .ok (.getfield 27, 3) := by decide +kernel
theorem dX12_isKeyword_4 : decode cX12_isKeyword 4 = .ok (.aload_n 0, 1) := by decide +kernel
theorem dX12_isKeyword_5 : decode cX12_isKeyword 5 = .ok (.getfield 392, 3) := by decide +kernel
theorem dX12_isKeyword_8 : decode cX12_isKeyword 8 = .ok (.iaload, 1) := by decide +kernel
theorem dX12_isKeyword_9 : decode cX12_isKeyword 9 = .ok (.iconst 2, 1) := by decide +kernel
theorem dX12_isKeyword_10 : decode cX12_isKeyword 10 = .ok (.if_icmp .ne 20, 3) := by decide +kernel
theorem dX12_isKeyword_13 : decode cX12_isKeyword 13 = .ok (.aload_n 0, 1) := by decide +kernel
theorem dX12_isKeyword_14 : decode cX12_isKeyword 14 = .ok (.getfield 30, 3) := by decide +kernel
theorem dX12_isKeyword_17 : decode cX12_isKeyword 17 = .ok (.aload_n 0, 1) := by decide +kernel
theorem dX12_isKeyword_18 : decode cX12_isKeyword 18 = .ok (.getfield 392, 3) := by decide +kernel
theorem dX12_isKeyword_21 : decode cX12_isKeyword 21 = .ok (.iaload, 1) := by decide +kernel
theorem dX12_isKeyword_22 : decode cX12_isKeyword 22 = .ok (.iload_n 1, 1) := by decide +kernel
theorem dX12_isKeyword_23 : decode cX12_isKeyword 23 = .ok (.if_icmp .ne 7, 3) := by decide +kernel
theorem dX12_isKeyword_26 : decode cX12_isKeyword 26 = .ok (.iconst 1, 1) := by decide +kernel
theorem dX12_isKeyword_27 : decode cX12_isKeyword 27 = .ok (.goto 4, 3) := by decide +kernel
theorem dX12_isKeyword_30 : decode cX12_isKeyword 30 = .ok (.iconst 0, 1) := by decide +kernel
theorem dX12_isKeyword_31 : decode cX12_isKeyword 31 = .ok (.ireturn, 1) := by decide +kernel
theorem dX12_must_0 : decode cX12_must 0 = .ok (.aload_n 0, 1) := by decide +kernel
theorem dX12_must_1 : decode cX12_must 1 = .ok (.getfield 389, 3) := by decide +kernel
theorem dX12_must_4 : decode cX12_must 4 = .ok (.ifCond .gt 11, 3) := by decide +kernel
theorem dX12_must_7 : decode cX12_must 7 = .ok (.aload_n 0, 1) := by decide +kernel
theorem dX12_must_8 : decode cX12_must 8 = .ok (.iload_n 1, 1) := by decide +kernel
theorem dX12_must_9 : decode cX12_must 9 = .ok (.invokevirtual 398, 3) := by decide +kernel
theorem dX12_must_12 : decode cX12_must 12 = .ok (.ifCond .ne 9, 3) := by decide +kernel
theorem dX12_must_15 : decode cX12_must 15 = .ok (.aload_n 0, 1) := by decide +kernel
theorem dX12_must_16 : decode cX12_must 16 = .ok (.iconst 2, 1) := by decide +kernel
theorem dX12_must_17 : decode cX12_must 17 = .ok (.invokevirtual 401, 3) := by decide +kernel
theorem dX12_must_20 : decode cX12_must 20 = .ok (.ireturn, 1) := by decide +kernel
theorem dX12_must_21 : decode cX12_must 21 = .ok (.aload_n 0, 1) := by decide +kernel
theorem dX12_must_22 : decode cX12_must 22 = .ok (.dup, 1) := by decide +kernel
theorem dX12_must_23 : decode cX12_must 23 = .ok (.getfield 392, 3) := by decide +kernel
theorem dX12_must_26 : decode cX12_must 26 = .ok (.iconst 1, 1) := by decide +kernel
theorem dX12_must_27 : decode cX12_must 27 = .ok (.iadd, 1) := by decide +kernel
theorem dX12_must_28 : decode cX12_must 28 = .ok (.putfield 392, 3) := by decide +kernel
theorem dX12_must_31 : decode cX12_must 31 = .ok (.iconst 1, 1) := by decide +kernel
theorem dX12_must_32 : decode cX12_must 32 = .ok (.ireturn, 1) := by decide +kernel
theorem dX12_mustWord_0 : decode cX12_mustWord 0 = .ok (.aload_n 0, 1) := by decide +kernel
theorem dX12_mustWord_1 : decode cX12_mustWord 1 = .ok (.getfield 389, 3) := by decide +kernel
theorem dX12_mustWord_4 : decode cX12_mustWord 4 = .ok (.ifCond .gt 11, 3) := by decide +kernel
theorem dX12_mustWord_7 : decode cX12_mustWord 7 = .ok (.aload_n 0, 1) := by decide +kernel
theorem dX12_mustWord_8 : decode cX12_mustWord 8 = .ok (.iload_n 1, 1) := by decide +kernel
theorem dX12_mustWord_9 : decode cX12_mustWord 9 = .ok (.invokevirtual 404, 3) := by decide +kernel
theorem dX12_mustWord_12 : decode cX12_mustWord 12 = .ok (.ifCond .ne 9, 3) := by decide +kernel
theorem dX12_mustWord_15 : decode cX12_mustWord 15 = .ok (.aload_n 0, 1) := by decide +kernel
theorem dX12_mustWord_16 : decode cX12_mustWord 16 = .ok (.iconst 2, 1) := by decide +kernel
theorem dX12_mustWord_17 : decode cX12_mustWord 17 = .ok (.invokevirtual 401, 3) := by decide +kernel
theorem dX12_mustWord_20 : decode cX12_mustWord 20 = .ok (.ireturn, 1) := by decide +kernel
theorem dX12_mustWord_21 : decode cX12_mustWord 21 = .ok (.aload_n 0, 1) := by decide +kernel
theorem dX12_mustWord_22 : decode cX12_mustWord 22 = .ok (.dup, 1) := by decide +kernel
theorem dX12_mustWord_23 : decode cX12_mustWord 23 = .ok (.getfield 392, 3) := by decide +kernel
theorem dX12_mustWord_26 : decode cX12_mustWord 26 = .ok (.iconst 1, 1) := by decide +kernel
theorem dX12_mustWord_27 : decode cX12_mustWord 27 = .ok (.iadd, 1) := by decide +kernel
theorem dX12_mustWord_28 : decode cX12_mustWord 28 = .ok (.putfield 392, 3) := by decide +kernel
theorem dX12_mustWord_31 : decode cX12_mustWord 31 = .ok (.iconst 1, 1) := by decide +kernel
theorem dX12_mustWord_32 : decode cX12_mustWord 32 = .ok (.ireturn, 1) := by decide +kernel
theorem dX12_open_0 : decode cX12_open 0 = .ok (.aload_n 0, 1) := by decide +kernel
theorem dX12_open_1 : decode cX12_open 1 = .ok (.getfield 389, 3) := by decide +kernel
theorem dX12_open_4 : decode cX12_open 4 = .ok (.ifCond .le 4, 3) := by decide +kernel
theorem dX12_open_7 : decode cX12_open 7 = .ok (.return_, 1) := by decide +kernel
theorem dX12_open_8 : decode cX12_open 8 = .ok (.iload_n 1, 1) := by decide +kernel
theorem dX12_open_9 : decode cX12_open 9 = .ok (.ifCond .ne 12, 3) := by decide +kernel
theorem dX12_open_12 : decode cX12_open 12 = .ok (.aload_n 0, 1) := by decide +kernel
theorem dX12_open_13 : decode cX12_open 13 = .ok (.iconst 2, 1) := by decide +kernel
theorem dX12_open_14 : decode cX12_open 14 = .ok (.invokevirtual 401, 3) := by decide +kernel
theorem dX12_open_17 : decode cX12_open 17 = .ok (.pop, 1) := by decide +kernel
theorem dX12_open_18 : decode cX12_open 18 = .ok (.goto 18, 3) := by decide +kernel
theorem dX12_open_21 : decode cX12_open 21 = .ok (.aload_n 0, 1) := by decide +kernel
theorem dX12_open_22 : decode cX12_open 22 = .ok (.getfield 407, 3) := by decide +kernel
theorem dX12_open_25 : decode cX12_open 25 = .ok (.bipush 20, 2) := by decide +kernel
theorem dX12_open_27 : decode cX12_open 27 = .ok (.if_icmp .ne 9, 3) := by decide +kernel
theorem dX12_open_30 : decode cX12_open 30 = .ok (.aload_n 0, 1) := by decide +kernel
theorem dX12_open_31 : decode cX12_open 31 = .ok (.iconst 5, 1) := by decide +kernel
theorem dX12_open_32 : decode cX12_open 32 = .ok (.invokevirtual 401, 3) := by decide +kernel
theorem dX12_open_35 : decode cX12_open 35 = .ok (.pop, 1) := by decide +kernel
theorem dX12_open_36 : decode cX12_open 36 = .ok (.aload_n 0, 1) := by decide +kernel
theorem dX12_open_37 : decode cX12_open 37 = .ok (.dup, 1) := by decide +kernel
theorem dX12_open_38 : decode cX12_open 38 = .ok (.getfield 407, 3) := by decide +kernel
theorem dX12_open_41 : decode cX12_open 41 = .ok (.iconst 1, 1) := by decide +kernel
theorem dX12_open_42 : decode cX12_open 42 = .ok (.iadd, 1) := by decide +kernel
theorem dX12_open_43 : decode cX12_open 43 = .ok (.putfield 407, 3) := by decide +kernel
theorem dX12_open_46 : decode cX12_open 46 = .ok (.return_, 1) := by decide +kernel
theorem dX12_close_0 : decode cX12_close 0 = .ok (.aload_n 0, 1) := by decide +kernel
theorem dX12_close_1 : decode cX12_close 1 = .ok (.dup, 1) := by decide +kernel
theorem dX12_close_2 : decode cX12_close 2 = .ok (.getfield 407, 3) := by decide +kernel
theorem dX12_close_5 : decode cX12_close 5 = .ok (.iconst 1, 1) := by decide +kernel
theorem dX12_close_6 : decode cX12_close 6 = .ok (.isub, 1) := by decide +kernel
theorem dX12_close_7 : decode cX12_close 7 = .ok (.putfield 407, 3) := by decide +kernel
theorem dX12_close_10 : decode cX12_close 10 = .ok (.return_, 1) := by decide +kernel
theorem dX12_isLiteral_0 : decode cX12_isLiteral 0 = .ok (.aload_n 0, 1) := by decide +kernel
theorem dX12_isLiteral_1 : decode cX12_isLiteral 1 = .ok (.bipush 22, 2) := by decide +kernel
theorem dX12_isLiteral_3 : decode cX12_isLiteral 3 = .ok (.invokevirtual 404, 3) := by decide +kernel
theorem dX12_isLiteral_6 : decode cX12_isLiteral 6 = .ok (.ifCond .ne 39, 3) := by decide +kernel
theorem dX12_isLiteral_9 : decode cX12_isLiteral 9 = .ok (.aload_n 0, 1) := by decide +kernel
theorem dX12_isLiteral_10 : decode cX12_isLiteral 10 = .ok (.bipush 8, 2) := by decide +kernel
theorem dX12_isLiteral_12 : decode cX12_isLiteral 12 = .ok (.invokevirtual 404, 3) := by decide +kernel
theorem dX12_isLiteral_15 : decode cX12_isLiteral 15 = .ok (.ifCond .ne 30, 3) := by decide +kernel
theorem dX12_isLiteral_18 : decode cX12_isLiteral 18 = .ok (.aload_n 0, 1) := by decide +kernel
theorem dX12_isLiteral_19 : decode cX12_isLiteral 19 = .ok (.bipush 17, 2) := by decide +kernel
theorem dX12_isLiteral_21 : decode cX12_isLiteral 21 = .ok (.invokevirtual 404, 3) := by decide +kernel
theorem dX12_isLiteral_24 : decode cX12_isLiteral 24 = .ok (.ifCond .ne 21, 3) := by decide +kernel
theorem dX12_isLiteral_27 : decode cX12_isLiteral 27 = .ok (.aload_n 0, 1) := by decide +kernel
theorem dX12_isLiteral_28 : decode cX12_isLiteral 28 = .ok (.bipush 25, 2) := by decide +kernel
theorem dX12_isLiteral_30 : decode cX12_isLiteral 30 = .ok (.invokevirtual 404, 3) := by decide +kernel
theorem dX12_isLiteral_33 : decode cX12_isLiteral 33 = .ok (.ifCond .ne 12, 3) := by decide +kernel
theorem dX12_isLiteral_36 : decode cX12_isLiteral 36 = .ok (.aload_n 0, 1) := by decide +kernel
theorem dX12_isLiteral_37 : decode cX12_isLiteral 37 = .ok (.bipush 15, 2) := by decide +kernel
theorem dX12_isLiteral_39 : decode cX12_isLiteral 39 = .ok (.invokevirtual 404, 3) := by decide +kernel
theorem dX12_isLiteral_42 : decode cX12_isLiteral 42 = .ok (.ifCond .eq 7, 3) := by decide +kernel
theorem dX12_isLiteral_45 : decode cX12_isLiteral 45 = .ok (.iconst 1, 1) := by decide +kernel
theorem dX12_isLiteral_46 : decode cX12_isLiteral 46 = .ok (.goto 4, 3) := by decide +kernel
theorem dX12_isLiteral_49 : decode cX12_isLiteral 49 = .ok (.iconst 0, 1) := by decide +kernel
theorem dX12_isLiteral_50 : decode cX12_isLiteral 50 = .ok (.ireturn, 1) := by decide +kernel
theorem dX12_isPrefix_0 : decode cX12_isPrefix 0 = .ok (.aload_n 0, 1) := by decide +kernel
theorem dX12_isPrefix_1 : decode cX12_isPrefix 1 = .ok (.bipush 35, 2) := by decide +kernel
theorem dX12_isPrefix_3 : decode cX12_isPrefix 3 = .ok (.invokevirtual 398, 3) := by decide +kernel
theorem dX12_isPrefix_6 : decode cX12_isPrefix 6 = .ok (.ifCond .ne 74, 3) := by decide +kernel
theorem dX12_isPrefix_9 : decode cX12_isPrefix 9 = .ok (.aload_n 0, 1) := by decide +kernel
theorem dX12_isPrefix_10 : decode cX12_isPrefix 10 = .ok (.bipush 36, 2) := by decide +kernel
theorem dX12_isPrefix_12 : decode cX12_isPrefix 12 = .ok (.invokevirtual 398, 3) := by decide +kernel
theorem dX12_isPrefix_15 : decode cX12_isPrefix 15 = .ok (.ifCond .ne 65, 3) := by decide +kernel
theorem dX12_isPrefix_18 : decode cX12_isPrefix 18 = .ok (.aload_n 0, 1) := by decide +kernel
theorem dX12_isPrefix_19 : decode cX12_isPrefix 19 = .ok (.bipush 44, 2) := by decide +kernel
theorem dX12_isPrefix_21 : decode cX12_isPrefix 21 = .ok (.invokevirtual 398, 3) := by decide +kernel
theorem dX12_isPrefix_24 : decode cX12_isPrefix 24 = .ok (.ifCond .ne 56, 3) := by decide +kernel
theorem dX12_isPrefix_27 : decode cX12_isPrefix 27 = .ok (.aload_n 0, 1) := by decide +kernel
theorem dX12_isPrefix_28 : decode cX12_isPrefix 28 = .ok (.bipush 43, 2) := by decide +kernel
theorem dX12_isPrefix_30 : decode cX12_isPrefix 30 = .ok (.invokevirtual 398, 3) := by decide +kernel
theorem dX12_isPrefix_33 : decode cX12_isPrefix 33 = .ok (.ifCond .ne 47, 3) := by decide +kernel
theorem dX12_isPrefix_36 : decode cX12_isPrefix 36 = .ok (.aload_n 0, 1) := by decide +kernel
theorem dX12_isPrefix_37 : decode cX12_isPrefix 37 = .ok (.bipush 10, 2) := by decide +kernel
theorem dX12_isPrefix_39 : decode cX12_isPrefix 39 = .ok (.invokevirtual 398, 3) := by decide +kernel
theorem dX12_isPrefix_42 : decode cX12_isPrefix 42 = .ok (.ifCond .ne 38, 3) := by decide +kernel
theorem dX12_isPrefix_45 : decode cX12_isPrefix 45 = .ok (.aload_n 0, 1) := by decide +kernel
theorem dX12_isPrefix_46 : decode cX12_isPrefix 46 = .ok (.bipush 11, 2) := by decide +kernel
theorem dX12_isPrefix_48 : decode cX12_isPrefix 48 = .ok (.invokevirtual 398, 3) := by decide +kernel
theorem dX12_isPrefix_51 : decode cX12_isPrefix 51 = .ok (.ifCond .ne 29, 3) := by decide +kernel
theorem dX12_isPrefix_54 : decode cX12_isPrefix 54 = .ok (.aload_n 0, 1) := by decide +kernel
theorem dX12_isPrefix_55 : decode cX12_isPrefix 55 = .ok (.iconst 5, 1) := by decide +kernel
theorem dX12_isPrefix_56 : decode cX12_isPrefix 56 = .ok (.invokevirtual 404, 3) := by decide +kernel
theorem dX12_isPrefix_59 : decode cX12_isPrefix 59 = .ok (.ifCond .ne 21, 3) := by decide +kernel
theorem dX12_isPrefix_62 : decode cX12_isPrefix 62 = .ok (.aload_n 0, 1) := by decide +kernel
theorem dX12_isPrefix_63 : decode cX12_isPrefix 63 = .ok (.bipush 27, 2) := by decide +kernel
theorem dX12_isPrefix_65 : decode cX12_isPrefix 65 = .ok (.invokevirtual 404, 3) := by decide +kernel
theorem dX12_isPrefix_68 : decode cX12_isPrefix 68 = .ok (.ifCond .ne 12, 3) := by decide +kernel
theorem dX12_isPrefix_71 : decode cX12_isPrefix 71 = .ok (.aload_n 0, 1) := by decide +kernel
theorem dX12_isPrefix_72 : decode cX12_isPrefix 72 = .ok (.bipush 24, 2) := by decide +kernel
theorem dX12_isPrefix_74 : decode cX12_isPrefix 74 = .ok (.invokevirtual 404, 3) := by decide +kernel
theorem dX12_isPrefix_77 : decode cX12_isPrefix 77 = .ok (.ifCond .eq 7, 3) := by decide +kernel
theorem dX12_isPrefix_80 : decode cX12_isPrefix 80 = .ok (.iconst 1, 1) := by decide +kernel
theorem dX12_isPrefix_81 : decode cX12_isPrefix 81 = .ok (.goto 4, 3) := by decide +kernel
theorem dX12_isPrefix_84 : decode cX12_isPrefix 84 = .ok (.iconst 0, 1) := by decide +kernel
theorem dX12_isPrefix_85 : decode cX12_isPrefix 85 = .ok (.ireturn, 1) := by decide +kernel
theorem dX12_beginsExpression_0 : decode cX12_beginsExpression 0 = .ok (.aload_n 0, 1) := by decide +kernel
theorem dX12_beginsExpression_1 : decode cX12_beginsExpression 1 = .ok (.getfield 27, 3) := by decide +kernel
theorem dX12_beginsExpression_4 : decode cX12_beginsExpression 4 = .ok (.aload_n 0, 1) := by decide +kernel
theorem dX12_beginsExpression_5 : decode cX12_beginsExpression 5 = .ok (.getfield 392, 3) := by decide +kernel
theorem dX12_beginsExpression_8 : decode cX12_beginsExpression 8 = .ok (.iaload, 1) := by decide +kernel
theorem dX12_beginsExpression_9 : decode cX12_beginsExpression 9 = .ok (.iconst 1, 1) := by decide +kernel
theorem dX12_beginsExpression_10 : decode cX12_beginsExpression 10 = .ok (.if_icmp .eq 29, 3) := by decide +kernel
theorem dX12_beginsExpression_13 : decode cX12_beginsExpression 13 = .ok (.aload_n 0, 1) := by decide +kernel
theorem dX12_beginsExpression_14 : decode cX12_beginsExpression 14 = .ok (.getfield 27, 3) := by decide +kernel
theorem dX12_beginsExpression_17 : decode cX12_beginsExpression 17 = .ok (.aload_n 0, 1) := by decide +kernel
theorem dX12_beginsExpression_18 : decode cX12_beginsExpression 18 = .ok (.getfield 392, 3) := by decide +kernel
theorem dX12_beginsExpression_21 : decode cX12_beginsExpression 21 = .ok (.iaload, 1) := by decide +kernel
theorem dX12_beginsExpression_22 : decode cX12_beginsExpression 22 = .ok (.iconst 3, 1) := by decide +kernel
theorem dX12_beginsExpression_23 : decode cX12_beginsExpression 23 = .ok (.if_icmp .eq 16, 3) := by decide +kernel
theorem dX12_beginsExpression_26 : decode cX12_beginsExpression 26 = .ok (.aload_n 0, 1) := by decide +kernel
theorem dX12_beginsExpression_27 : decode cX12_beginsExpression 27 = .ok (.getfield 27, 3) := by decide +kernel
theorem dX12_beginsExpression_30 : decode cX12_beginsExpression 30 = .ok (.aload_n 0, 1) := by decide +kernel
theorem dX12_beginsExpression_31 : decode cX12_beginsExpression 31 = .ok (.getfield 392, 3) := by decide +kernel
theorem dX12_beginsExpression_34 : decode cX12_beginsExpression 34 = .ok (.iaload, 1) := by decide +kernel
theorem dX12_beginsExpression_35 : decode cX12_beginsExpression 35 = .ok (.iconst 4, 1) := by decide +kernel
theorem dX12_beginsExpression_36 : decode cX12_beginsExpression 36 = .ok (.if_icmp .ne 5, 3) := by decide +kernel
theorem dX12_beginsExpression_39 : decode cX12_beginsExpression 39 = .ok (.iconst 1, 1) := by decide +kernel
theorem dX12_beginsExpression_40 : decode cX12_beginsExpression 40 = .ok (.ireturn, 1) := by decide +kernel
theorem dX12_beginsExpression_41 : decode cX12_beginsExpression 41 = .ok (.aload_n 0, 1) := by decide +kernel
theorem dX12_beginsExpression_42 : decode cX12_beginsExpression 42 = .ok (.getfield 27, 3) := by decide +kernel
theorem dX12_beginsExpression_45 : decode cX12_beginsExpression 45 = .ok (.aload_n 0, 1) := by decide +kernel
theorem dX12_beginsExpression_46 : decode cX12_beginsExpression 46 = .ok (.getfield 392, 3) := by decide +kernel
theorem dX12_beginsExpression_49 : decode cX12_beginsExpression 49 = .ok (.iaload, 1) := by decide +kernel
theorem dX12_beginsExpression_50 : decode cX12_beginsExpression 50 = .ok (.iconst 5, 1) := by decide +kernel
theorem dX12_beginsExpression_51 : decode cX12_beginsExpression 51 = .ok (.if_icmp .ne 43, 3) := by decide +kernel
theorem dX12_beginsExpression_54 : decode cX12_beginsExpression 54 = .ok (.aload_n 0, 1) := by decide +kernel
theorem dX12_beginsExpression_55 : decode cX12_beginsExpression 55 = .ok (.bipush 26, 2) := by decide +kernel
theorem dX12_beginsExpression_57 : decode cX12_beginsExpression 57 = .ok (.invokevirtual 398, 3) := by decide +kernel
theorem dX12_beginsExpression_60 : decode cX12_beginsExpression 60 = .ok (.ifCond .ne 28, 3) := by decide +kernel
theorem dX12_beginsExpression_63 : decode cX12_beginsExpression 63 = .ok (.aload_n 0, 1) := by decide +kernel
theorem dX12_beginsExpression_64 : decode cX12_beginsExpression 64 = .ok (.bipush 28, 2) := by decide +kernel
theorem dX12_beginsExpression_66 : decode cX12_beginsExpression 66 = .ok (.invokevirtual 398, 3) := by decide +kernel
theorem dX12_beginsExpression_69 : decode cX12_beginsExpression 69 = .ok (.ifCond .ne 19, 3) := by decide +kernel
theorem dX12_beginsExpression_72 : decode cX12_beginsExpression 72 = .ok (.aload_n 0, 1) := by decide +kernel
theorem dX12_beginsExpression_73 : decode cX12_beginsExpression 73 = .ok (.bipush 24, 2) := by decide +kernel
theorem dX12_beginsExpression_75 : decode cX12_beginsExpression 75 = .ok (.invokevirtual 398, 3) := by decide +kernel
theorem dX12_beginsExpression_78 : decode cX12_beginsExpression 78 = .ok (.ifCond .ne 10, 3) := by decide +kernel
theorem dX12_beginsExpression_81 : decode cX12_beginsExpression 81 = .ok (.aload_n 0, 1) := by decide +kernel
theorem dX12_beginsExpression_82 : decode cX12_beginsExpression 82 = .ok (.invokevirtual 433, 3) := by decide +kernel
theorem dX12_beginsExpression_85 : decode cX12_beginsExpression 85 = .ok (.ifCond .eq 7, 3) := by decide +kernel
theorem dX12_beginsExpression_88 : decode cX12_beginsExpression 88 = .ok (.iconst 1, 1) := by decide +kernel
theorem dX12_beginsExpression_89 : decode cX12_beginsExpression 89 = .ok (.goto 4, 3) := by decide +kernel
theorem dX12_beginsExpression_92 : decode cX12_beginsExpression 92 = .ok (.iconst 0, 1) := by decide +kernel
theorem dX12_beginsExpression_93 : decode cX12_beginsExpression 93 = .ok (.ireturn, 1) := by decide +kernel
theorem dX12_beginsExpression_94 : decode cX12_beginsExpression 94 = .ok (.aload_n 0, 1) := by decide +kernel
theorem dX12_beginsExpression_95 : decode cX12_beginsExpression 95 = .ok (.getfield 27, 3) := by decide +kernel
theorem dX12_beginsExpression_98 : decode cX12_beginsExpression 98 = .ok (.aload_n 0, 1) := by decide +kernel
theorem dX12_beginsExpression_99 : decode cX12_beginsExpression 99 = .ok (.getfield 392, 3) := by decide +kernel
theorem dX12_beginsExpression_102 : decode cX12_beginsExpression 102 = .ok (.iaload, 1) := by decide +kernel
theorem dX12_beginsExpression_103 : decode cX12_beginsExpression 103 = .ok (.iconst 2, 1) := by decide +kernel
theorem dX12_beginsExpression_104 : decode cX12_beginsExpression 104 = .ok (.if_icmp .eq 5, 3) := by decide +kernel
theorem dX12_beginsExpression_107 : decode cX12_beginsExpression 107 = .ok (.iconst 0, 1) := by decide +kernel
theorem dX12_beginsExpression_108 : decode cX12_beginsExpression 108 = .ok (.ireturn, 1) := by decide +kernel
theorem dX12_beginsExpression_109 : decode cX12_beginsExpression 109 = .ok (.aload_n 0, 1) := by decide +kernel
theorem dX12_beginsExpression_110 : decode cX12_beginsExpression 110 = .ok (.invokevirtual 433, 3) := by decide +kernel
theorem dX12_beginsExpression_113 : decode cX12_beginsExpression 113 = .ok (.ifCond .ne 37, 3) := by decide +kernel
theorem dX12_beginsExpression_116 : decode cX12_beginsExpression 116 = .ok (.aload_n 0, 1) := by decide +kernel
theorem dX12_beginsExpression_117 : decode cX12_beginsExpression 117 = .ok (.bipush 20, 2) := by decide +kernel
theorem dX12_beginsExpression_119 : decode cX12_beginsExpression 119 = .ok (.invokevirtual 404, 3) := by decide +kernel
theorem dX12_beginsExpression_122 : decode cX12_beginsExpression 122 = .ok (.ifCond .ne 28, 3) := by decide +kernel
theorem dX12_beginsExpression_125 : decode cX12_beginsExpression 125 = .ok (.aload_n 0, 1) := by decide +kernel
theorem dX12_beginsExpression_126 : decode cX12_beginsExpression 126 = .ok (.bipush 16, 2) := by decide +kernel
theorem dX12_beginsExpression_128 : decode cX12_beginsExpression 128 = .ok (.invokevirtual 404, 3) := by decide +kernel
theorem dX12_beginsExpression_131 : decode cX12_beginsExpression 131 = .ok (.ifCond .ne 19, 3) := by decide +kernel
theorem dX12_beginsExpression_134 : decode cX12_beginsExpression 134 = .ok (.aload_n 0, 1) := by decide +kernel
theorem dX12_beginsExpression_135 : decode cX12_beginsExpression 135 = .ok (.bipush 11, 2) := by decide +kernel
theorem dX12_beginsExpression_137 : decode cX12_beginsExpression 137 = .ok (.invokevirtual 404, 3) := by decide +kernel
theorem dX12_beginsExpression_140 : decode cX12_beginsExpression 140 = .ok (.ifCond .ne 10, 3) := by decide +kernel
theorem dX12_beginsExpression_143 : decode cX12_beginsExpression 143 = .ok (.aload_n 0, 1) := by decide +kernel
theorem dX12_beginsExpression_144 : decode cX12_beginsExpression 144 = .ok (.invokevirtual 436, 3) := by decide +kernel
theorem dX12_beginsExpression_147 : decode cX12_beginsExpression 147 = .ok (.ifCond .eq 7, 3) := by decide +kernel
theorem dX12_beginsExpression_150 : decode cX12_beginsExpression 150 = .ok (.iconst 1, 1) := by decide +kernel
theorem dX12_beginsExpression_151 : decode cX12_beginsExpression 151 = .ok (.goto 4, 3) := by decide +kernel
theorem dX12_beginsExpression_154 : decode cX12_beginsExpression 154 = .ok (.iconst 0, 1) := by decide +kernel
theorem dX12_beginsExpression_155 : decode cX12_beginsExpression 155 = .ok (.ireturn, 1) := by decide +kernel
theorem dX12_beginsStatement_0 : decode cX12_beginsStatement 0 = .ok (.aload_n 0, 1) := by decide +kernel
theorem dX12_beginsStatement_1 : decode cX12_beginsStatement 1 = .ok (.bipush 24, 2) := by decide +kernel
theorem dX12_beginsStatement_3 : decode cX12_beginsStatement 3 = .ok (.invokevirtual 398, 3) := by decide +kernel
theorem dX12_beginsStatement_6 : decode cX12_beginsStatement 6 = .ok (.ifCond .ne 12, 3) := by decide +kernel
theorem dX12_beginsStatement_9 : decode cX12_beginsStatement 9 = .ok (.aload_n 0, 1) := by decide +kernel
theorem dX12_beginsStatement_10 : decode cX12_beginsStatement 10 = .ok (.bipush 31, 2) := by decide +kernel
theorem dX12_beginsStatement_12 : decode cX12_beginsStatement 12 = .ok (.invokevirtual 398, 3) := by decide +kernel
theorem dX12_beginsStatement_15 : decode cX12_beginsStatement 15 = .ok (.ifCond .eq 5, 3) := by decide +kernel
theorem dX12_beginsStatement_18 : decode cX12_beginsStatement 18 = .ok (.iconst 1, 1) := by decide +kernel
theorem dX12_beginsStatement_19 : decode cX12_beginsStatement 19 = .ok (.ireturn, 1) := by decide +kernel
theorem dX12_beginsStatement_20 : decode cX12_beginsStatement 20 = .ok (.aload_n 0, 1) := by decide +kernel
theorem dX12_beginsStatement_21 : decode cX12_beginsStatement 21 = .ok (.getfield 27, 3) := by decide +kernel
theorem dX12_beginsStatement_24 : decode cX12_beginsStatement 24 = .ok (.aload_n 0, 1) := by decide +kernel
theorem dX12_beginsStatement_25 : decode cX12_beginsStatement 25 = .ok (.getfield 392, 3) := by decide +kernel
theorem dX12_beginsStatement_28 : decode cX12_beginsStatement 28 = .ok (.iaload, 1) := by decide +kernel
theorem dX12_beginsStatement_29 : decode cX12_beginsStatement 29 = .ok (.iconst 2, 1) := by decide +kernel
theorem dX12_beginsStatement_30 : decode cX12_beginsStatement 30 = .ok (.if_icmp .eq 8, 3) := by decide +kernel
theorem dX12_beginsStatement_33 : decode cX12_beginsStatement 33 = .ok (.aload_n 0, 1) := by decide +kernel
theorem dX12_beginsStatement_34 : decode cX12_beginsStatement 34 = .ok (.invokevirtual 439, 3) := by decide +kernel
theorem dX12_beginsStatement_37 : decode cX12_beginsStatement 37 = .ok (.ireturn, 1) := by decide +kernel
theorem dX12_beginsStatement_38 : decode cX12_beginsStatement 38 = .ok (.aload_n 0, 1) := by decide +kernel
theorem dX12_beginsStatement_39 : decode cX12_beginsStatement 39 = .ok (.getfield 30, 3) := by decide +kernel
theorem dX12_beginsStatement_42 : decode cX12_beginsStatement 42 = .ok (.aload_n 0, 1) := by decide +kernel
theorem dX12_beginsStatement_43 : decode cX12_beginsStatement 43 = .ok (.getfield 392, 3) := by decide +kernel
theorem dX12_beginsStatement_46 : decode cX12_beginsStatement 46 = .ok (.iaload, 1) := by decide +kernel
theorem dX12_beginsStatement_47 : decode cX12_beginsStatement 47 = .ok (.istore_n 1, 1) := by decide +kernel
theorem dX12_beginsStatement_48 : decode cX12_beginsStatement 48 = .ok (.iload_n 1, 1) := by decide +kernel
theorem dX12_beginsStatement_49 : decode cX12_beginsStatement 49 = .ok (.bipush 26, 2) := by decide +kernel
theorem dX12_beginsStatement_51 : decode cX12_beginsStatement 51 = .ok (.if_icmp .eq 73, 3) := by decide +kernel
theorem dX12_beginsStatement_54 : decode cX12_beginsStatement 54 = .ok (.iload_n 1, 1) := by decide +kernel
theorem dX12_beginsStatement_55 : decode cX12_beginsStatement 55 = .ok (.bipush 12, 2) := by decide +kernel
theorem dX12_beginsStatement_57 : decode cX12_beginsStatement 57 = .ok (.if_icmp .eq 67, 3) := by decide +kernel
theorem dX12_beginsStatement_60 : decode cX12_beginsStatement 60 = .ok (.iload_n 1, 1) := by decide +kernel
theorem dX12_beginsStatement_61 : decode cX12_beginsStatement 61 = .ok (.bipush 28, 2) := by decide +kernel
theorem dX12_beginsStatement_63 : decode cX12_beginsStatement 63 = .ok (.if_icmp .eq 61, 3) := by decide +kernel
theorem dX12_beginsStatement_66 : decode cX12_beginsStatement 66 = .ok (.iload_n 1, 1) := by decide +kernel
theorem dX12_beginsStatement_67 : decode cX12_beginsStatement 67 = .ok (.bipush 6, 2) := by decide +kernel
theorem dX12_beginsStatement_69 : decode cX12_beginsStatement 69 = .ok (.if_icmp .eq 55, 3) := by decide +kernel
theorem dX12_beginsStatement_72 : decode cX12_beginsStatement 72 = .ok (.iload_n 1, 1) := by decide +kernel
theorem dX12_beginsStatement_73 : decode cX12_beginsStatement 73 = .ok (.bipush 10, 2) := by decide +kernel
theorem dX12_beginsStatement_75 : decode cX12_beginsStatement 75 = .ok (.if_icmp .eq 49, 3) := by decide +kernel
theorem dX12_beginsStatement_78 : decode cX12_beginsStatement 78 = .ok (.iload_n 1, 1) := by decide +kernel
theorem dX12_beginsStatement_79 : decode cX12_beginsStatement 79 = .ok (.iconst 3, 1) := by decide +kernel
theorem dX12_beginsStatement_80 : decode cX12_beginsStatement 80 = .ok (.if_icmp .eq 44, 3) := by decide +kernel
theorem dX12_beginsStatement_83 : decode cX12_beginsStatement 83 = .ok (.iload_n 1, 1) := by decide +kernel
theorem dX12_beginsStatement_84 : decode cX12_beginsStatement 84 = .ok (.ifCond .eq 40, 3) := by decide +kernel
theorem dX12_beginsStatement_87 : decode cX12_beginsStatement 87 = .ok (.iload_n 1, 1) := by decide +kernel
theorem dX12_beginsStatement_88 : decode cX12_beginsStatement 88 = .ok (.bipush 18, 2) := by decide +kernel
theorem dX12_beginsStatement_90 : decode cX12_beginsStatement 90 = .ok (.if_icmp .eq 34, 3) := by decide +kernel
theorem dX12_beginsStatement_93 : decode cX12_beginsStatement 93 = .ok (.iload_n 1, 1) := by decide +kernel
theorem dX12_beginsStatement_94 : decode cX12_beginsStatement 94 = .ok (.bipush 21, 2) := by decide +kernel
theorem dX12_beginsStatement_96 : decode cX12_beginsStatement 96 = .ok (.if_icmp .eq 28, 3) := by decide +kernel
theorem dX12_beginsStatement_99 : decode cX12_beginsStatement 99 = .ok (.iload_n 1, 1) := by decide +kernel
theorem dX12_beginsStatement_100 : decode cX12_beginsStatement 100 = .ok (.bipush 23, 2) := by decide +kernel
theorem dX12_beginsStatement_102 : decode cX12_beginsStatement 102 = .ok (.if_icmp .eq 22, 3) := by decide +kernel
theorem dX12_beginsStatement_105 : decode cX12_beginsStatement 105 = .ok (.iload_n 1, 1) := by decide +kernel
theorem dX12_beginsStatement_106 : decode cX12_beginsStatement 106 = .ok (.bipush 19, 2) := by decide +kernel
theorem dX12_beginsStatement_108 : decode cX12_beginsStatement 108 = .ok (.if_icmp .eq 16, 3) := by decide +kernel
theorem dX12_beginsStatement_111 : decode cX12_beginsStatement 111 = .ok (.iload_n 1, 1) := by decide +kernel
theorem dX12_beginsStatement_112 : decode cX12_beginsStatement 112 = .ok (.bipush 11, 2) := by decide +kernel
theorem dX12_beginsStatement_114 : decode cX12_beginsStatement 114 = .ok (.if_icmp .eq 14, 3) := by decide +kernel
theorem dX12_beginsStatement_117 : decode cX12_beginsStatement 117 = .ok (.aload_n 0, 1) := by decide +kernel
theorem dX12_beginsStatement_118 : decode cX12_beginsStatement 118 = .ok (.invokevirtual 439, 3) := by decide +kernel
theorem dX12_beginsStatement_121 : decode cX12_beginsStatement 121 = .ok (.ifCond .eq 7, 3) := by decide +kernel
theorem dX12_beginsStatement_124 : decode cX12_beginsStatement 124 = .ok (.iconst 1, 1) := by decide +kernel
theorem dX12_beginsStatement_125 : decode cX12_beginsStatement 125 = .ok (.goto 4, 3) := by decide +kernel
theorem dX12_beginsStatement_128 : decode cX12_beginsStatement 128 = .ok (.iconst 0, 1) := by decide +kernel
theorem dX12_beginsStatement_129 : decode cX12_beginsStatement 129 = .ok (.ireturn, 1) := by decide +kernel
theorem dX12_nameAt_0 : decode cX12_nameAt 0 = .ok (.aload_n 0, 1) := by decide +kernel
theorem dX12_nameAt_1 : decode cX12_nameAt 1 = .ok (.iconst 0, 1) := by decide +kernel
theorem dX12_nameAt_2 : decode cX12_nameAt 2 = .ok (.putfield 299, 3) := by decide +kernel
theorem dX12_nameAt_5 : decode cX12_nameAt 5 = .ok (.aload_n 0, 1) := by decide +kernel
theorem dX12_nameAt_6 : decode cX12_nameAt 6 = .ok (.getfield 27, 3) := by decide +kernel
theorem dX12_nameAt_9 : decode cX12_nameAt 9 = .ok (.iload_n 1, 1) := by decide +kernel
theorem dX12_nameAt_10 : decode cX12_nameAt 10 = .ok (.iaload, 1) := by decide +kernel
theorem dX12_nameAt_11 : decode cX12_nameAt 11 = .ok (.iconst 3, 1) := by decide +kernel
theorem dX12_nameAt_12 : decode cX12_nameAt 12 = .ok (.if_icmp .ne 16, 3) := by decide +kernel
theorem dX12_nameAt_15 : decode cX12_nameAt 15 = .ok (.aload_n 0, 1) := by decide +kernel
theorem dX12_nameAt_16 : decode cX12_nameAt 16 = .ok (.aload_n 0, 1) := by decide +kernel
theorem dX12_nameAt_17 : decode cX12_nameAt 17 = .ok (.getfield 30, 3) := by decide +kernel
theorem dX12_nameAt_20 : decode cX12_nameAt 20 = .ok (.iload_n 1, 1) := by decide +kernel
theorem dX12_nameAt_21 : decode cX12_nameAt 21 = .ok (.iaload, 1) := by decide +kernel
theorem dX12_nameAt_22 : decode cX12_nameAt 22 = .ok (.invokevirtual 410, 3) := by decide +kernel
theorem dX12_nameAt_25 : decode cX12_nameAt 25 = .ok (.goto 154, 3) := by decide +kernel
theorem dX12_nameAt_28 : decode cX12_nameAt 28 = .ok (.aload_n 0, 1) := by decide +kernel
theorem dX12_nameAt_29 : decode cX12_nameAt 29 = .ok (.getfield 27, 3) := by decide +kernel
theorem dX12_nameAt_32 : decode cX12_nameAt 32 = .ok (.iload_n 1, 1) := by decide +kernel
theorem dX12_nameAt_33 : decode cX12_nameAt 33 = .ok (.iaload, 1) := by decide +kernel
theorem dX12_nameAt_34 : decode cX12_nameAt 34 = .ok (.iconst 4, 1) := by decide +kernel
theorem dX12_nameAt_35 : decode cX12_nameAt 35 = .ok (.if_icmp .ne 112, 3) := by decide +kernel
theorem dX12_nameAt_38 : decode cX12_nameAt 38 = .ok (.aload_n 0, 1) := by decide +kernel
theorem dX12_nameAt_39 : decode cX12_nameAt 39 = .ok (.getfield 33, 3) := by decide +kernel
theorem dX12_nameAt_42 : decode cX12_nameAt 42 = .ok (.iload_n 1, 1) := by decide +kernel
theorem dX12_nameAt_43 : decode cX12_nameAt 43 = .ok (.iaload, 1) := by decide +kernel
theorem dX12_nameAt_44 : decode cX12_nameAt 44 = .ok (.iconst 1, 1) := by decide +kernel
theorem dX12_nameAt_45 : decode cX12_nameAt 45 = .ok (.iadd, 1) := by decide +kernel
theorem dX12_nameAt_46 : decode cX12_nameAt 46 = .ok (.istore_n 2, 1) := by decide +kernel
theorem dX12_nameAt_47 : decode cX12_nameAt 47 = .ok (.iload_n 2, 1) := by decide +kernel
theorem dX12_nameAt_48 : decode cX12_nameAt 48 = .ok (.aload_n 0, 1) := by decide +kernel
theorem dX12_nameAt_49 : decode cX12_nameAt 49 = .ok (.getfield 36, 3) := by decide +kernel
theorem dX12_nameAt_52 : decode cX12_nameAt 52 = .ok (.iload_n 1, 1) := by decide +kernel
theorem dX12_nameAt_53 : decode cX12_nameAt 53 = .ok (.iaload, 1) := by decide +kernel
theorem dX12_nameAt_54 : decode cX12_nameAt 54 = .ok (.iconst 1, 1) := by decide +kernel
theorem dX12_nameAt_55 : decode cX12_nameAt 55 = .ok (.isub, 1) := by decide +kernel
theorem dX12_nameAt_56 : decode cX12_nameAt 56 = .ok (.if_icmp .ge 88, 3) := by decide +kernel
theorem dX12_nameAt_59 : decode cX12_nameAt 59 = .ok (.aload_n 0, 1) := by decide +kernel
theorem dX12_nameAt_60 : decode cX12_nameAt 60 = .ok (.iload_n 2, 1) := by decide +kernel
theorem dX12_nameAt_61 : decode cX12_nameAt 61 = .ok (.invokevirtual 334, 3) := by decide +kernel
theorem dX12_nameAt_64 : decode cX12_nameAt 64 = .ok (.bipush 92, 2) := by decide +kernel
theorem dX12_nameAt_66 : decode cX12_nameAt 66 = .ok (.if_icmp .ne 7, 3) := by decide +kernel
theorem dX12_nameAt_69 : decode cX12_nameAt 69 = .ok (.iconst 1, 1) := by decide +kernel
theorem dX12_nameAt_70 : decode cX12_nameAt 70 = .ok (.goto 4, 3) := by decide +kernel
theorem dX12_nameAt_73 : decode cX12_nameAt 73 = .ok (.iconst 0, 1) := by decide +kernel
theorem dX12_nameAt_74 : decode cX12_nameAt 74 = .ok (.istore_n 3, 1) := by decide +kernel
theorem dX12_nameAt_75 : decode cX12_nameAt 75 = .ok (.iload_n 2, 1) := by decide +kernel
theorem dX12_nameAt_76 : decode cX12_nameAt 76 = .ok (.iload_n 3, 1) := by decide +kernel
theorem dX12_nameAt_77 : decode cX12_nameAt 77 = .ok (.ifCond .eq 7, 3) := by decide +kernel
theorem dX12_nameAt_80 : decode cX12_nameAt 80 = .ok (.iconst 1, 1) := by decide +kernel
theorem dX12_nameAt_81 : decode cX12_nameAt 81 = .ok (.goto 4, 3) := by decide +kernel
theorem dX12_nameAt_84 : decode cX12_nameAt 84 = .ok (.iconst 0, 1) := by decide +kernel
theorem dX12_nameAt_85 : decode cX12_nameAt 85 = .ok (.iadd, 1) := by decide +kernel
theorem dX12_nameAt_86 : decode cX12_nameAt 86 = .ok (.istore_n 2, 1) := by decide +kernel
theorem dX12_nameAt_87 : decode cX12_nameAt 87 = .ok (.aload_n 0, 1) := by decide +kernel
theorem dX12_nameAt_88 : decode cX12_nameAt 88 = .ok (.iload_n 3, 1) := by decide +kernel
theorem dX12_nameAt_89 : decode cX12_nameAt 89 = .ok (.ifCond .ne 11, 3) := by decide +kernel
theorem dX12_nameAt_92 : decode cX12_nameAt 92 = .ok (.aload_n 0, 1) := by decide +kernel
theorem dX12_nameAt_93 : decode cX12_nameAt 93 = .ok (.iload_n 2, 1) := by decide +kernel
theorem dX12_nameAt_94 : decode cX12_nameAt 94 = .ok (.invokevirtual 334, 3) := by decide +kernel
theorem dX12_nameAt_97 : decode cX12_nameAt 97 = .ok (.goto 38, 3) := by decide +kernel
theorem dX12_nameAt_100 : decode cX12_nameAt 100 = .ok (.aload_n 0, 1) := by decide +kernel
theorem dX12_nameAt_101 : decode cX12_nameAt 101 = .ok (.iload_n 2, 1) := by decide +kernel
theorem dX12_nameAt_102 : decode cX12_nameAt 102 = .ok (.invokevirtual 334, 3) := by decide +kernel
theorem dX12_nameAt_105 : decode cX12_nameAt 105 = .ok (.bipush 110, 2) := by decide +kernel
theorem dX12_nameAt_107 : decode cX12_nameAt 107 = .ok (.if_icmp .ne 8, 3) := by decide +kernel
theorem dX12_nameAt_110 : decode cX12_nameAt 110 = .ok (.bipush 10, 2) := by decide +kernel
theorem dX12_nameAt_112 : decode cX12_nameAt 112 = .ok (.goto 23, 3) := by decide +kernel
theorem dX12_nameAt_115 : decode cX12_nameAt 115 = .ok (.aload_n 0, 1) := by decide +kernel
theorem dX12_nameAt_116 : decode cX12_nameAt 116 = .ok (.iload_n 2, 1) := by decide +kernel
theorem dX12_nameAt_117 : decode cX12_nameAt 117 = .ok (.invokevirtual 334, 3) := by decide +kernel
theorem dX12_nameAt_120 : decode cX12_nameAt 120 = .ok (.bipush 116, 2) := by decide +kernel
theorem dX12_nameAt_122 : decode cX12_nameAt 122 = .ok (.if_icmp .ne 8, 3) := by decide +kernel
theorem dX12_nameAt_125 : decode cX12_nameAt 125 = .ok (.bipush 9, 2) := by decide +kernel
theorem dX12_nameAt_127 : decode cX12_nameAt 127 = .ok (.goto 8, 3) := by decide +kernel
theorem dX12_nameAt_130 : decode cX12_nameAt 130 = .ok (.aload_n 0, 1) := by decide +kernel
theorem dX12_nameAt_131 : decode cX12_nameAt 131 = .ok (.iload_n 2, 1) := by decide +kernel
theorem dX12_nameAt_132 : decode cX12_nameAt 132 = .ok (.invokevirtual 334, 3) := by decide +kernel
theorem dX12_nameAt_135 : decode cX12_nameAt 135 = .ok (.invokevirtual 324, 3) := by decide +kernel
theorem dX12_nameAt_138 : decode cX12_nameAt 138 = .ok (.iinc 2 1, 3) := by decide +kernel
theorem dX12_nameAt_141 : decode cX12_nameAt 141 = .ok (.goto (-94), 3) := by decide +kernel
theorem dX12_nameAt_144 : decode cX12_nameAt 144 = .ok (.goto 35, 3) := by decide +kernel
theorem dX12_nameAt_147 : decode cX12_nameAt 147 = .ok (.aload_n 0, 1) := by decide +kernel
theorem dX12_nameAt_148 : decode cX12_nameAt 148 = .ok (.getfield 33, 3) := by decide +kernel
theorem dX12_nameAt_151 : decode cX12_nameAt 151 = .ok (.iload_n 1, 1) := by decide +kernel
theorem dX12_nameAt_152 : decode cX12_nameAt 152 = .ok (.iaload, 1) := by decide +kernel
theorem dX12_nameAt_153 : decode cX12_nameAt 153 = .ok (.istore_n 2, 1) := by decide +kernel
theorem dX12_nameAt_154 : decode cX12_nameAt 154 = .ok (.iload_n 2, 1) := by decide +kernel
theorem dX12_nameAt_155 : decode cX12_nameAt 155 = .ok (.aload_n 0, 1) := by decide +kernel
theorem dX12_nameAt_156 : decode cX12_nameAt 156 = .ok (.getfield 36, 3) := by decide +kernel
theorem dX12_nameAt_159 : decode cX12_nameAt 159 = .ok (.iload_n 1, 1) := by decide +kernel
theorem dX12_nameAt_160 : decode cX12_nameAt 160 = .ok (.iaload, 1) := by decide +kernel
theorem dX12_nameAt_161 : decode cX12_nameAt 161 = .ok (.if_icmp .ge 18, 3) := by decide +kernel
theorem dX12_nameAt_164 : decode cX12_nameAt 164 = .ok (.aload_n 0, 1) := by decide +kernel
theorem dX12_nameAt_165 : decode cX12_nameAt 165 = .ok (.aload_n 0, 1) := by decide +kernel
theorem dX12_nameAt_166 : decode cX12_nameAt 166 = .ok (.iload_n 2, 1) := by decide +kernel
theorem dX12_nameAt_167 : decode cX12_nameAt 167 = .ok (.invokevirtual 334, 3) := by decide +kernel
theorem dX12_nameAt_170 : decode cX12_nameAt 170 = .ok (.invokevirtual 324, 3) := by decide +kernel
theorem dX12_nameAt_173 : decode cX12_nameAt 173 = .ok (.iinc 2 1, 3) := by decide +kernel
theorem dX12_nameAt_176 : decode cX12_nameAt 176 = .ok (.goto (-22), 3) := by decide +kernel
theorem dX12_nameAt_179 : decode cX12_nameAt 179 = .ok (.aload_n 0, 1) := by decide +kernel
theorem dX12_nameAt_180 : decode cX12_nameAt 180 = .ok (.invokevirtual 413, 3) := by decide +kernel
theorem dX12_nameAt_183 : decode cX12_nameAt 183 = .ok (.ireturn, 1) := by decide +kernel
/-- the tokens, as the parser takes them -/
def sm_TK (kind fr un li : Int → Int) (tokens : Int) : Prop := 1 ≤ tokens ∧ tokens ≤ 4001 ∧ (∀ k : Int, 0 ≤ k → k < tokens → 0 ≤ fr k ∧ fr k ≤ un k ∧ un k ≤ 4003 ∧ 1 ≤ li k ∧ li k ≤ 4001 ∧ 0 ≤ kind k ∧ kind k ≤ 6 ∧ (1 ≤ kind k → kind k ≤ 2 → un k - fr k ≤ 16) ∧ (kind k = 4 → un k - fr k ≤ 82)) ∧ (kind (tokens - 1) = 0 ∨ kind (tokens - 1) = 6) ∧ (∀ k : Int, 0 ≤ k → k < tokens - 1 → 1 ≤ kind k ∧ kind k ≤ 5)
theorem sm_TK_t {kind fr un li : Int → Int} {tokens : Int} (h : sm_TK kind fr un li tokens) : 1 ≤ tokens ∧ tokens ≤ 4001 := ⟨h.1, h.2.1⟩
theorem sm_TK_go {kind fr un li : Int → Int} {tokens : Int} (h : sm_TK kind fr un li tokens) (t : Int) (h0 : 0 ≤ t) (h1 : t < tokens) (h2 : 1 ≤ kind t) (h3 : kind t ≤ 5) : t + 1 < tokens := by
  by_cases h4 : t = tokens - 1
  · have := h.2.2.2.1
    rw [h4] at h2 h3
    omega
  · omega
theorem sm_TK_at {kind fr un li : Int → Int} {tokens : Int} (h : sm_TK kind fr un li tokens) (k : Int) (h0 : 0 ≤ k) (h1 : k < tokens) : 0 ≤ fr k ∧ fr k ≤ un k ∧ un k ≤ 4003 ∧ 1 ≤ li k ∧ li k ≤ 4001 ∧ 0 ≤ kind k ∧ kind k ≤ 6 ∧ (1 ≤ kind k → kind k ≤ 2 → un k - fr k ≤ 16) ∧ (kind k = 4 → un k - fr k ≤ 82) := h.2.2.1 k h0 h1

def q_fail (p1 : Int) (S : sv_S) : Option Value → sv_S → Prop := fun v S' => ∃ r : Int, v = some (sv_I r) ∧ sv_R r ∧ sm_ok S' ∧ sv_mod [1021, 1022] S S' ∧ (r = 0 ∧ 0 < (S' 1021 0) ∧ (0 < (S 1021 0) → (S' 1021 0) = (S 1021 0)))
set_option maxHeartbeats 2000000 in
theorem f_fail : ∀ (p1 : Int) (S : sv_S), sm_ok S → sv_R p1 → (0 ≤ (S 1020 0) ∧ (S 1020 0) ≤ 4000 ∧ 0 ≤ (S 1021 0) ∧ 1 ≤ p1) → (sv_R (S 1021 0) → (((¬ (S 1021 0) = (0 : Int)) → ((0 : Int) = 0 ∧ 0 < (S 1021 0) ∧ (0 < (S 1021 0) → (S 1021 0) = (S 1021 0)))) ∧ ((¬ (¬ (S 1021 0) = (0 : Int))) → (sv_R (S 1020 0) → (0 ≤ (S 1020 0) ∧ (S 1020 0) < 4002) ∧ (sv_R (S 6 (S 1020 0)) → (((¬ (S 6 (S 1020 0)) = (6 : Int)) → (sv_R (S 10 (S 1020 0)) → ((0 : Int) = 0 ∧ 0 < p1 ∧ (0 < (S 1021 0) → p1 = (S 1021 0))))) ∧ ((¬ (¬ (S 6 (S 1020 0)) = (6 : Int))) → (sv_R (S 10 (S 1020 0)) → ((0 : Int) = 0 ∧ 0 < (1 : Int) ∧ (0 < (S 1021 0) → (1 : Int) = (S 1021 0))))))))))) := by
  intro p1 S hok hp1 hpre
  repeat' (first | (with_reducible refine And.intro ?_ ?_) | (with_reducible intro _))
  all_goals first | assumption | omega | grind
set_option maxRecDepth 8000 in
set_option maxHeartbeats 2000000 in
theorem t_fail : ∀ (p1 : Int) (S : sv_S), sm_ok S → sv_R p1 → (0 ≤ (S 1020 0) ∧ (S 1020 0) ≤ 4000 ∧ 0 ≤ (S 1021 0) ∧ 1 ≤ p1) → sv_T sm_XS sm_cs sm_L sm_sh 0 (q_fail p1 S) 23 0 (lv_args 0 [.ref 0, sv_I p1]) [] S := by
  intro p1 S hok hp1 hpre
  have h := f_fail p1 S hok hp1 hpre
  have hM := sm_h23
  show sv_T sm_XS sm_cs sm_L sm_sh 0 (q_fail p1 S) 23 0 [(0, .ref 0), (1, sv_I p1)] [] S
  refine sv_aload_n hM dX12_fail_0 rfl rfl ?_
  have k1 : sv_R (S 1021 0) := sm_okI hok sm_r1021 0
  have h := h k1
  refine sv_getI hM dX12_fail_1 sm_fl_389 (sm_a0 _) sm_k21 rfl (x := (S 1021 0)) rfl ?_
  refine sv_cond_ne hM dX12_fail_4 k1 (t := 43) rfl rfl (fun hc => ?_) (fun hc => ?_)
  · have h := h.1 (hc)
    refine sv_iconst (d := (0 : Int)) hM dX12_fail_43 rfl rfl ?_
    exact sv_iret hM dX12_fail_44 rfl (sv_nz (⟨by decide, by decide⟩ : 0 ≤ (0 : Int) ∧ (0 : Int) ≤ 1)) ⟨(0 : Int), rfl, sv_R01 (⟨by decide, by decide⟩ : 0 ≤ (0 : Int) ∧ (0 : Int) ≤ 1), hok, sv_mod.rf, h⟩
  · have h := h.2 (hc)
    refine sv_aload_n hM dX12_fail_7 rfl rfl ?_
    refine sv_aload_n hM dX12_fail_8 rfl rfl ?_
    refine sv_getA hM dX12_fail_9 sm_fl_27 (sm_a0 _) sm_k13 rfl ?_
    refine sv_aload_n hM dX12_fail_12 rfl rfl ?_
    have k2 : sv_R (S 1020 0) := sm_okI hok sm_r1020 0
    have h := h k2
    refine sv_getI hM dX12_fail_13 sm_fl_392 (sm_a0 _) sm_k20 rfl (x := (S 1020 0)) rfl ?_
    obtain ⟨o3, h⟩ := h
    have k4 : sv_R (S 6 (S 1020 0)) := sm_okI hok sm_r6 (S 1020 0)
    have h := h k4
    refine sv_iald hM dX12_fail_16 (sm_a6 _) (by decide) o3.1 o3.2 rfl (x := (S 6 (S 1020 0))) rfl ?_
    refine sv_bipush (d := (6 : Int)) hM dX12_fail_17 rfl rfl ?_
    refine sv_icmp_ne hM dX12_fail_19 k4 (⟨by decide, by decide⟩ : sv_R (6 : Int)) (t := 26) rfl rfl (fun hc => ?_) (fun hc => ?_)
    · have h := h.1 (hc)
      refine sv_iload_n hM dX12_fail_26 rfl rfl ?_
      refine sv_putI sm_X hM dX12_fail_27 sm_fp_389 (sm_a0 _) sm_q21 (Or.inl rfl) rfl rfl rfl rfl ?_
      have ok5 : sm_ok (sv_up S 1021 0 p1) := sm_upI hok sm_r1021 hp1
      have md6 : sv_mod [1021, 1022] S (sv_up S 1021 0 p1) := sv_mod.up sv_mod.rf (by decide)
      refine sv_aload_n hM dX12_fail_30 rfl rfl ?_
      refine sv_aload_n hM dX12_fail_31 rfl rfl ?_
      refine sv_getA hM dX12_fail_32 sm_fl_39 (sm_a0 _) sm_k17 rfl ?_
      refine sv_aload_n hM dX12_fail_35 rfl rfl ?_
      refine sv_getI hM dX12_fail_36 sm_fl_392 (sm_a0 _) sm_k20 rfl (x := (S 1020 0)) rfl ?_
      have k7 : sv_R (S 10 (S 1020 0)) := sm_okI ok5 sm_r10 (S 1020 0)
      have h := h k7
      refine sv_iald hM dX12_fail_39 (sm_a10 _) (by decide) o3.1 o3.2 rfl (x := (S 10 (S 1020 0))) rfl ?_
      refine sv_putI sm_X hM dX12_fail_40 sm_fp_395 (sm_a0 _) sm_q22 (Or.inl rfl) rfl rfl rfl rfl ?_
      have ok8 : sm_ok (sv_up (sv_up S 1021 0 p1) 1022 0 (S 10 (S 1020 0))) := sm_upI ok5 sm_r1022 k7
      have md9 : sv_mod [1021, 1022] S (sv_up (sv_up S 1021 0 p1) 1022 0 (S 10 (S 1020 0))) := sv_mod.up md6 (by decide)
      refine sv_iconst (d := (0 : Int)) hM dX12_fail_43 rfl rfl ?_
      exact sv_iret hM dX12_fail_44 rfl (sv_nz (⟨by decide, by decide⟩ : 0 ≤ (0 : Int) ∧ (0 : Int) ≤ 1)) ⟨(0 : Int), rfl, sv_R01 (⟨by decide, by decide⟩ : 0 ≤ (0 : Int) ∧ (0 : Int) ≤ 1), ok8, md9, h⟩
    · have h := h.2 (hc)
      refine sv_iconst (d := (1 : Int)) hM dX12_fail_22 rfl rfl ?_
      refine sv_goto hM dX12_fail_23 (pc' := 27) rfl ?_
      refine sv_putI sm_X hM dX12_fail_27 sm_fp_389 (sm_a0 _) sm_q21 (Or.inl rfl) rfl rfl rfl rfl ?_
      have ok10 : sm_ok (sv_up S 1021 0 (1 : Int)) := sm_upI hok sm_r1021 (⟨by decide, by decide⟩ : sv_R (1 : Int))
      have md11 : sv_mod [1021, 1022] S (sv_up S 1021 0 (1 : Int)) := sv_mod.up sv_mod.rf (by decide)
      refine sv_aload_n hM dX12_fail_30 rfl rfl ?_
      refine sv_aload_n hM dX12_fail_31 rfl rfl ?_
      refine sv_getA hM dX12_fail_32 sm_fl_39 (sm_a0 _) sm_k17 rfl ?_
      refine sv_aload_n hM dX12_fail_35 rfl rfl ?_
      refine sv_getI hM dX12_fail_36 sm_fl_392 (sm_a0 _) sm_k20 rfl (x := (S 1020 0)) rfl ?_
      have k12 : sv_R (S 10 (S 1020 0)) := sm_okI ok10 sm_r10 (S 1020 0)
      have h := h k12
      refine sv_iald hM dX12_fail_39 (sm_a10 _) (by decide) o3.1 o3.2 rfl (x := (S 10 (S 1020 0))) rfl ?_
      refine sv_putI sm_X hM dX12_fail_40 sm_fp_395 (sm_a0 _) sm_q22 (Or.inl rfl) rfl rfl rfl rfl ?_
      have ok13 : sm_ok (sv_up (sv_up S 1021 0 (1 : Int)) 1022 0 (S 10 (S 1020 0))) := sm_upI ok10 sm_r1022 k12
      have md14 : sv_mod [1021, 1022] S (sv_up (sv_up S 1021 0 (1 : Int)) 1022 0 (S 10 (S 1020 0))) := sv_mod.up md11 (by decide)
      refine sv_iconst (d := (0 : Int)) hM dX12_fail_43 rfl rfl ?_
      exact sv_iret hM dX12_fail_44 rfl (sv_nz (⟨by decide, by decide⟩ : 0 ≤ (0 : Int) ∧ (0 : Int) ≤ 1)) ⟨(0 : Int), rfl, sv_R01 (⟨by decide, by decide⟩ : 0 ≤ (0 : Int) ∧ (0 : Int) ≤ 1), ok13, md14, h⟩
def q_isSign (p1 : Int) (S : sv_S) : Option Value → sv_S → Prop := fun v S' => v = some (sv_I (if (S 6 (S 1020 0)) = 5 ∧ (S 7 (S 1020 0)) = p1 then 1 else 0)) ∧ S' = S
set_option maxHeartbeats 2000000 in
theorem f_isSign : ∀ (p1 : Int) (S : sv_S), sm_ok S → sv_R p1 → (0 ≤ (S 1020 0) ∧ (S 1020 0) ≤ 4000) → (sv_R (S 1020 0) → (0 ≤ (S 1020 0) ∧ (S 1020 0) < 4002) ∧ (sv_R (S 6 (S 1020 0)) → (((¬ (S 6 (S 1020 0)) = (5 : Int)) → (0 : Int) = (if (S 6 (S 1020 0)) = 5 ∧ (S 7 (S 1020 0)) = p1 then 1 else 0)) ∧ ((¬ (¬ (S 6 (S 1020 0)) = (5 : Int))) → (sv_R (S 7 (S 1020 0)) → (((¬ (S 7 (S 1020 0)) = p1) → (0 : Int) = (if (S 6 (S 1020 0)) = 5 ∧ (S 7 (S 1020 0)) = p1 then 1 else 0)) ∧ ((¬ (¬ (S 7 (S 1020 0)) = p1)) → (1 : Int) = (if (S 6 (S 1020 0)) = 5 ∧ (S 7 (S 1020 0)) = p1 then 1 else 0)))))))) := by
  intro p1 S hok hp1 hpre
  repeat' (first | (with_reducible refine And.intro ?_ ?_) | (with_reducible intro _))
  all_goals first | assumption | omega | grind
set_option maxRecDepth 8000 in
set_option maxHeartbeats 2000000 in
theorem t_isSign : ∀ (p1 : Int) (S : sv_S), sm_ok S → sv_R p1 → (0 ≤ (S 1020 0) ∧ (S 1020 0) ≤ 4000) → sv_T sm_XS sm_cs sm_L sm_sh 0 (q_isSign p1 S) 24 0 (lv_args 0 [.ref 0, sv_I p1]) [] S := by
  intro p1 S hok hp1 hpre
  have h := f_isSign p1 S hok hp1 hpre
  have hM := sm_h24
  show sv_T sm_XS sm_cs sm_L sm_sh 0 (q_isSign p1 S) 24 0 [(0, .ref 0), (1, sv_I p1)] [] S
  refine sv_aload_n hM dX12_isSign_0 rfl rfl ?_
  refine sv_getA hM dX12_isSign_1 sm_fl_27 (sm_a0 _) sm_k13 rfl ?_
  refine sv_aload_n hM dX12_isSign_4 rfl rfl ?_
  have k1 : sv_R (S 1020 0) := sm_okI hok sm_r1020 0
  have h := h k1
  refine sv_getI hM dX12_isSign_5 sm_fl_392 (sm_a0 _) sm_k20 rfl (x := (S 1020 0)) rfl ?_
  obtain ⟨o2, h⟩ := h
  have k3 : sv_R (S 6 (S 1020 0)) := sm_okI hok sm_r6 (S 1020 0)
  have h := h k3
  refine sv_iald hM dX12_isSign_8 (sm_a6 _) (by decide) o2.1 o2.2 rfl (x := (S 6 (S 1020 0))) rfl ?_
  refine sv_iconst (d := (5 : Int)) hM dX12_isSign_9 rfl rfl ?_
  refine sv_icmp_ne hM dX12_isSign_10 k3 (⟨by decide, by decide⟩ : sv_R (5 : Int)) (t := 30) rfl rfl (fun hc => ?_) (fun hc => ?_)
  · have h := h.1 (hc)
    refine sv_iconst (d := (0 : Int)) hM dX12_isSign_30 rfl rfl ?_
    exact sv_iret hM dX12_isSign_31 rfl (sv_nz (⟨by decide, by decide⟩ : 0 ≤ (0 : Int) ∧ (0 : Int) ≤ 1)) ⟨congrArg (fun z => some (sv_I z)) h, rfl⟩
  · have h := h.2 (hc)
    refine sv_aload_n hM dX12_isSign_13 rfl rfl ?_
    refine sv_getA hM dX12_isSign_14 sm_fl_30 (sm_a0 _) sm_k14 rfl ?_
    refine sv_aload_n hM dX12_isSign_17 rfl rfl ?_
    refine sv_getI hM dX12_isSign_18 sm_fl_392 (sm_a0 _) sm_k20 rfl (x := (S 1020 0)) rfl ?_
    have k4 : sv_R (S 7 (S 1020 0)) := sm_okI hok sm_r7 (S 1020 0)
    have h := h k4
    refine sv_iald hM dX12_isSign_21 (sm_a7 _) (by decide) o2.1 o2.2 rfl (x := (S 7 (S 1020 0))) rfl ?_
    refine sv_iload_n hM dX12_isSign_22 rfl rfl ?_
    refine sv_icmp_ne hM dX12_isSign_23 k4 hp1 (t := 30) rfl rfl (fun hc => ?_) (fun hc => ?_)
    · have h := h.1 (hc)
      refine sv_iconst (d := (0 : Int)) hM dX12_isSign_30 rfl rfl ?_
      exact sv_iret hM dX12_isSign_31 rfl (sv_nz (⟨by decide, by decide⟩ : 0 ≤ (0 : Int) ∧ (0 : Int) ≤ 1)) ⟨congrArg (fun z => some (sv_I z)) h, rfl⟩
    · have h := h.2 (hc)
      refine sv_iconst (d := (1 : Int)) hM dX12_isSign_26 rfl rfl ?_
      refine sv_goto hM dX12_isSign_27 (pc' := 31) rfl ?_
      exact sv_iret hM dX12_isSign_31 rfl (sv_nz (⟨by decide, by decide⟩ : 0 ≤ (1 : Int) ∧ (1 : Int) ≤ 1)) ⟨congrArg (fun z => some (sv_I z)) h, rfl⟩
def q_isKeyword (p1 : Int) (S : sv_S) : Option Value → sv_S → Prop := fun v S' => v = some (sv_I (if (S 6 (S 1020 0)) = 2 ∧ (S 7 (S 1020 0)) = p1 then 1 else 0)) ∧ S' = S
set_option maxHeartbeats 2000000 in
theorem f_isKeyword : ∀ (p1 : Int) (S : sv_S), sm_ok S → sv_R p1 → (0 ≤ (S 1020 0) ∧ (S 1020 0) ≤ 4000) → (sv_R (S 1020 0) → (0 ≤ (S 1020 0) ∧ (S 1020 0) < 4002) ∧ (sv_R (S 6 (S 1020 0)) → (((¬ (S 6 (S 1020 0)) = (2 : Int)) → (0 : Int) = (if (S 6 (S 1020 0)) = 2 ∧ (S 7 (S 1020 0)) = p1 then 1 else 0)) ∧ ((¬ (¬ (S 6 (S 1020 0)) = (2 : Int))) → (sv_R (S 7 (S 1020 0)) → (((¬ (S 7 (S 1020 0)) = p1) → (0 : Int) = (if (S 6 (S 1020 0)) = 2 ∧ (S 7 (S 1020 0)) = p1 then 1 else 0)) ∧ ((¬ (¬ (S 7 (S 1020 0)) = p1)) → (1 : Int) = (if (S 6 (S 1020 0)) = 2 ∧ (S 7 (S 1020 0)) = p1 then 1 else 0)))))))) := by
  intro p1 S hok hp1 hpre
  repeat' (first | (with_reducible refine And.intro ?_ ?_) | (with_reducible intro _))
  all_goals first | assumption | omega | grind
set_option maxRecDepth 8000 in
set_option maxHeartbeats 2000000 in
theorem t_isKeyword : ∀ (p1 : Int) (S : sv_S), sm_ok S → sv_R p1 → (0 ≤ (S 1020 0) ∧ (S 1020 0) ≤ 4000) → sv_T sm_XS sm_cs sm_L sm_sh 0 (q_isKeyword p1 S) 25 0 (lv_args 0 [.ref 0, sv_I p1]) [] S := by
  intro p1 S hok hp1 hpre
  have h := f_isKeyword p1 S hok hp1 hpre
  have hM := sm_h25
  show sv_T sm_XS sm_cs sm_L sm_sh 0 (q_isKeyword p1 S) 25 0 [(0, .ref 0), (1, sv_I p1)] [] S
  refine sv_aload_n hM dX12_isKeyword_0 rfl rfl ?_
  refine sv_getA hM dX12_isKeyword_1 sm_fl_27 (sm_a0 _) sm_k13 rfl ?_
  refine sv_aload_n hM dX12_isKeyword_4 rfl rfl ?_
  have k1 : sv_R (S 1020 0) := sm_okI hok sm_r1020 0
  have h := h k1
  refine sv_getI hM dX12_isKeyword_5 sm_fl_392 (sm_a0 _) sm_k20 rfl (x := (S 1020 0)) rfl ?_
  obtain ⟨o2, h⟩ := h
  have k3 : sv_R (S 6 (S 1020 0)) := sm_okI hok sm_r6 (S 1020 0)
  have h := h k3
  refine sv_iald hM dX12_isKeyword_8 (sm_a6 _) (by decide) o2.1 o2.2 rfl (x := (S 6 (S 1020 0))) rfl ?_
  refine sv_iconst (d := (2 : Int)) hM dX12_isKeyword_9 rfl rfl ?_
  refine sv_icmp_ne hM dX12_isKeyword_10 k3 (⟨by decide, by decide⟩ : sv_R (2 : Int)) (t := 30) rfl rfl (fun hc => ?_) (fun hc => ?_)
  · have h := h.1 (hc)
    refine sv_iconst (d := (0 : Int)) hM dX12_isKeyword_30 rfl rfl ?_
    exact sv_iret hM dX12_isKeyword_31 rfl (sv_nz (⟨by decide, by decide⟩ : 0 ≤ (0 : Int) ∧ (0 : Int) ≤ 1)) ⟨congrArg (fun z => some (sv_I z)) h, rfl⟩
  · have h := h.2 (hc)
    refine sv_aload_n hM dX12_isKeyword_13 rfl rfl ?_
    refine sv_getA hM dX12_isKeyword_14 sm_fl_30 (sm_a0 _) sm_k14 rfl ?_
    refine sv_aload_n hM dX12_isKeyword_17 rfl rfl ?_
    refine sv_getI hM dX12_isKeyword_18 sm_fl_392 (sm_a0 _) sm_k20 rfl (x := (S 1020 0)) rfl ?_
    have k4 : sv_R (S 7 (S 1020 0)) := sm_okI hok sm_r7 (S 1020 0)
    have h := h k4
    refine sv_iald hM dX12_isKeyword_21 (sm_a7 _) (by decide) o2.1 o2.2 rfl (x := (S 7 (S 1020 0))) rfl ?_
    refine sv_iload_n hM dX12_isKeyword_22 rfl rfl ?_
    refine sv_icmp_ne hM dX12_isKeyword_23 k4 hp1 (t := 30) rfl rfl (fun hc => ?_) (fun hc => ?_)
    · have h := h.1 (hc)
      refine sv_iconst (d := (0 : Int)) hM dX12_isKeyword_30 rfl rfl ?_
      exact sv_iret hM dX12_isKeyword_31 rfl (sv_nz (⟨by decide, by decide⟩ : 0 ≤ (0 : Int) ∧ (0 : Int) ≤ 1)) ⟨congrArg (fun z => some (sv_I z)) h, rfl⟩
    · have h := h.2 (hc)
      refine sv_iconst (d := (1 : Int)) hM dX12_isKeyword_26 rfl rfl ?_
      refine sv_goto hM dX12_isKeyword_27 (pc' := 31) rfl ?_
      exact sv_iret hM dX12_isKeyword_31 rfl (sv_nz (⟨by decide, by decide⟩ : 0 ≤ (1 : Int) ∧ (1 : Int) ≤ 1)) ⟨congrArg (fun z => some (sv_I z)) h, rfl⟩
def q_must (p1 : Int) (S : sv_S) : Option Value → sv_S → Prop := fun v S' => ∃ r : Int, v = some (sv_I r) ∧ sv_R r ∧ sm_ok S' ∧ sv_mod [1021, 1022, 1020] S S' ∧ ((r = 0 ∧ 0 < (S' 1021 0) ∧ (S' 1020 0) = (S 1020 0)) ∨ (r = 1 ∧ (S' 1021 0) = 0 ∧ (S 1021 0) = 0 ∧ (S' 1020 0) = (S 1020 0) + 1 ∧ (S' 1020 0) < (S' 1012 0) ∧ (S' 6 (S 1020 0)) = 5))
set_option maxHeartbeats 2000000 in
theorem f_must : ∀ (p1 : Int) (S : sv_S), sm_ok S → sv_R p1 → (0 ≤ (S 1020 0) ∧ (S 1020 0) < (S 1012 0) ∧ sm_TK (S 6) (S 8) (S 9) (S 10) (S 1012 0) ∧ 0 ≤ (S 1021 0)) → (sv_R (S 1021 0) → ((((0 : Int) < (S 1021 0)) → (0 ≤ (S 1020 0) ∧ (S 1020 0) ≤ 4000 ∧ 0 ≤ (S 1021 0) ∧ 1 ≤ (2 : Int)) ∧ (∀ r7 : Int, sv_R r7 → ∀ g3 : sv_S, (r7 = 0 ∧ 0 < (g3 1021 0) ∧ (0 < (S 1021 0) → (g3 1021 0) = (S 1021 0))) → (0 ≤ r7 ∧ r7 ≤ 1) ∧ ((r7 = 0 ∧ 0 < (g3 1021 0) ∧ (S 1020 0) = (S 1020 0)) ∨ (r7 = 1 ∧ (g3 1021 0) = 0 ∧ (S 1021 0) = 0 ∧ (S 1020 0) = (S 1020 0) + 1 ∧ (S 1020 0) < (S 1012 0) ∧ (S 6 (S 1020 0)) = 5)))) ∧ ((¬ ((0 : Int) < (S 1021 0))) → (0 ≤ (S 1020 0) ∧ (S 1020 0) ≤ 4000) ∧ ((((S 6 (S 1020 0)) = 5 ∧ (S 7 (S 1020 0)) = p1) → (sv_R (S 1020 0) → (sv_R ((S 1020 0) + (1 : Int))) ∧ (((1 : Int) = 0 ∧ 0 < (S 1021 0) ∧ ((S 1020 0) + (1 : Int)) = (S 1020 0)) ∨ ((1 : Int) = 1 ∧ (S 1021 0) = 0 ∧ (S 1021 0) = 0 ∧ ((S 1020 0) + (1 : Int)) = (S 1020 0) + 1 ∧ ((S 1020 0) + (1 : Int)) < (S 1012 0) ∧ (S 6 (S 1020 0)) = 5)))) ∧ ((¬ ((S 6 (S 1020 0)) = 5 ∧ (S 7 (S 1020 0)) = p1)) → (0 ≤ (S 1020 0) ∧ (S 1020 0) ≤ 4000 ∧ 0 ≤ (S 1021 0) ∧ 1 ≤ (2 : Int)) ∧ (∀ r20 : Int, sv_R r20 → ∀ g16 : sv_S, (r20 = 0 ∧ 0 < (g16 1021 0) ∧ (0 < (S 1021 0) → (g16 1021 0) = (S 1021 0))) → (0 ≤ r20 ∧ r20 ≤ 1) ∧ ((r20 = 0 ∧ 0 < (g16 1021 0) ∧ (S 1020 0) = (S 1020 0)) ∨ (r20 = 1 ∧ (g16 1021 0) = 0 ∧ (S 1021 0) = 0 ∧ (S 1020 0) = (S 1020 0) + 1 ∧ (S 1020 0) < (S 1012 0) ∧ (S 6 (S 1020 0)) = 5)))))))) := by
  intro p1 S hok hp1 hpre
  have hq := sm_TK_t hpre.2.2.1
  have hg := sm_TK_go hpre.2.2.1 (S 1020 0)
  repeat' (first | (with_reducible refine And.intro ?_ ?_) | (with_reducible intro _))
  all_goals first | assumption | omega | grind
set_option maxRecDepth 8000 in
set_option maxHeartbeats 2000000 in
theorem t_must : ∀ (p1 : Int) (S : sv_S), sm_ok S → sv_R p1 → (0 ≤ (S 1020 0) ∧ (S 1020 0) < (S 1012 0) ∧ sm_TK (S 6) (S 8) (S 9) (S 10) (S 1012 0) ∧ 0 ≤ (S 1021 0)) → sv_T sm_XS sm_cs sm_L sm_sh 1 (q_must p1 S) 26 0 (lv_args 0 [.ref 0, sv_I p1]) [] S := by
  intro p1 S hok hp1 hpre
  have h := f_must p1 S hok hp1 hpre
  have hM := sm_h26
  show sv_T sm_XS sm_cs sm_L sm_sh 1 (q_must p1 S) 26 0 [(0, .ref 0), (1, sv_I p1)] [] S
  refine sv_aload_n hM dX12_must_0 rfl rfl ?_
  have k1 : sv_R (S 1021 0) := sm_okI hok sm_r1021 0
  have h := h k1
  refine sv_getI hM dX12_must_1 sm_fl_389 (sm_a0 _) sm_k21 rfl (x := (S 1021 0)) rfl ?_
  refine sv_cond_gt hM dX12_must_4 k1 (t := 15) rfl rfl (fun hc => ?_) (fun hc => ?_)
  · have h := h.1 (hc)
    refine sv_aload_n hM dX12_must_15 rfl rfl ?_
    refine sv_iconst (d := (2 : Int)) hM dX12_must_16 rfl rfl ?_
    obtain ⟨o2, h⟩ := h
    refine sv_callV hM dX12_must_17 sm_iv_401 (by decide) (sm_a0 _) rfl rfl (Nat.le_of_ble_eq_true rfl) sm_h23 (Nat.le_of_ble_eq_true rfl) (Nat.le_of_ble_eq_true rfl) (F' := 0) (Nat.le_of_ble_eq_true rfl) rfl (t_fail (2 : Int) S hok (⟨by decide, by decide⟩ : sv_R (2 : Int)) o2) (fun v S1 hq => ?_)
    obtain ⟨r7, rfl, hr7, ok4, md5, hpo6⟩ := hq
    obtain ⟨g3, rfl⟩ : ∃ g, S1 = sv_sts S [1021, 1022] g := ⟨_, md5.eq⟩
    show sv_T sm_XS sm_cs sm_L sm_sh 1 (q_must p1 S) 26 20 [(0, .ref 0), (1, sv_I p1)] [sv_I r7] (sv_sts S [1021, 1022] g3)
    have md8 : sv_mod [1021, 1022, 1020] S (sv_sts S [1021, 1022] g3) := sv_mod.sts sv_mod.rf (by decide)
    have h := h r7 hr7 g3 hpo6
    obtain ⟨o9, h⟩ := h
    exact sv_iret hM dX12_must_20 rfl (sv_nz o9) ⟨r7, rfl, sv_R01 o9, ok4, md8, h⟩
  · have h := h.2 (hc)
    refine sv_aload_n hM dX12_must_7 rfl rfl ?_
    refine sv_iload_n hM dX12_must_8 rfl rfl ?_
    obtain ⟨o10, h⟩ := h
    refine sv_callV hM dX12_must_9 sm_iv_398 (by decide) (sm_a0 _) rfl rfl (Nat.le_of_ble_eq_true rfl) sm_h24 (Nat.le_of_ble_eq_true rfl) (Nat.le_of_ble_eq_true rfl) (F' := 0) (Nat.le_of_ble_eq_true rfl) rfl (t_isSign p1 S hok hp1 o10) (fun v S1 hq => ?_)
    obtain ⟨rfl, hS1⟩ := hq
    obtain rfl : S = S1 := hS1.symm
    show sv_T sm_XS sm_cs sm_L sm_sh 1 (q_must p1 S) 26 12 [(0, .ref 0), (1, sv_I p1)] [sv_I (if (S 6 (S 1020 0)) = 5 ∧ (S 7 (S 1020 0)) = p1 then 1 else 0)] S
    refine sv_cond_ne hM dX12_must_12 (sv_Rite : sv_R (if (S 6 (S 1020 0)) = 5 ∧ (S 7 (S 1020 0)) = p1 then 1 else 0)) (t := 21) rfl rfl (fun hc => ?_) (fun hc => ?_)
    · have h := h.1 (sv_itep hc)
      refine sv_aload_n hM dX12_must_21 rfl rfl ?_
      refine sv_dupA hM dX12_must_22 rfl ?_
      have k11 : sv_R (S 1020 0) := sm_okI hok sm_r1020 0
      have h := h k11
      refine sv_getI hM dX12_must_23 sm_fl_392 (sm_a0 _) sm_k20 rfl (x := (S 1020 0)) rfl ?_
      refine sv_iconst (d := (1 : Int)) hM dX12_must_26 rfl rfl ?_
      refine sv_iadd hM dX12_must_27 rfl ?_
      obtain ⟨o12, h⟩ := h
      refine sv_putI sm_X hM dX12_must_28 sm_fp_392 (sm_a0 _) sm_q20 (Or.inl rfl) rfl rfl rfl rfl ?_
      have ok13 : sm_ok (sv_up S 1020 0 ((S 1020 0) + (1 : Int))) := sm_upI hok sm_r1020 o12
      have md14 : sv_mod [1021, 1022, 1020] S (sv_up S 1020 0 ((S 1020 0) + (1 : Int))) := sv_mod.up sv_mod.rf (by decide)
      refine sv_iconst (d := (1 : Int)) hM dX12_must_31 rfl rfl ?_
      exact sv_iret hM dX12_must_32 rfl (sv_nz (⟨by decide, by decide⟩ : 0 ≤ (1 : Int) ∧ (1 : Int) ≤ 1)) ⟨(1 : Int), rfl, sv_R01 (⟨by decide, by decide⟩ : 0 ≤ (1 : Int) ∧ (1 : Int) ≤ 1), ok13, md14, h⟩
    · have h := h.2 (fun q => hc (by rw [if_pos q]; decide))
      refine sv_aload_n hM dX12_must_15 rfl rfl ?_
      refine sv_iconst (d := (2 : Int)) hM dX12_must_16 rfl rfl ?_
      obtain ⟨o15, h⟩ := h
      refine sv_callV hM dX12_must_17 sm_iv_401 (by decide) (sm_a0 _) rfl rfl (Nat.le_of_ble_eq_true rfl) sm_h23 (Nat.le_of_ble_eq_true rfl) (Nat.le_of_ble_eq_true rfl) (F' := 0) (Nat.le_of_ble_eq_true rfl) rfl (t_fail (2 : Int) S hok (⟨by decide, by decide⟩ : sv_R (2 : Int)) o15) (fun v S1 hq => ?_)
      obtain ⟨r20, rfl, hr20, ok17, md18, hpo19⟩ := hq
      obtain ⟨g16, rfl⟩ : ∃ g, S1 = sv_sts S [1021, 1022] g := ⟨_, md18.eq⟩
      show sv_T sm_XS sm_cs sm_L sm_sh 1 (q_must p1 S) 26 20 [(0, .ref 0), (1, sv_I p1)] [sv_I r20] (sv_sts S [1021, 1022] g16)
      have md21 : sv_mod [1021, 1022, 1020] S (sv_sts S [1021, 1022] g16) := sv_mod.sts sv_mod.rf (by decide)
      have h := h r20 hr20 g16 hpo19
      obtain ⟨o22, h⟩ := h
      exact sv_iret hM dX12_must_20 rfl (sv_nz o22) ⟨r20, rfl, sv_R01 o22, ok17, md21, h⟩
def q_mustWord (p1 : Int) (S : sv_S) : Option Value → sv_S → Prop := fun v S' => ∃ r : Int, v = some (sv_I r) ∧ sv_R r ∧ sm_ok S' ∧ sv_mod [1021, 1022, 1020] S S' ∧ ((r = 0 ∧ 0 < (S' 1021 0) ∧ (S' 1020 0) = (S 1020 0)) ∨ (r = 1 ∧ (S' 1021 0) = 0 ∧ (S 1021 0) = 0 ∧ (S' 1020 0) = (S 1020 0) + 1 ∧ (S' 1020 0) < (S' 1012 0) ∧ (S' 6 (S 1020 0)) = 2))
set_option maxHeartbeats 2000000 in
theorem f_mustWord : ∀ (p1 : Int) (S : sv_S), sm_ok S → sv_R p1 → (0 ≤ (S 1020 0) ∧ (S 1020 0) < (S 1012 0) ∧ sm_TK (S 6) (S 8) (S 9) (S 10) (S 1012 0) ∧ 0 ≤ (S 1021 0)) → (sv_R (S 1021 0) → ((((0 : Int) < (S 1021 0)) → (0 ≤ (S 1020 0) ∧ (S 1020 0) ≤ 4000 ∧ 0 ≤ (S 1021 0) ∧ 1 ≤ (2 : Int)) ∧ (∀ r7 : Int, sv_R r7 → ∀ g3 : sv_S, (r7 = 0 ∧ 0 < (g3 1021 0) ∧ (0 < (S 1021 0) → (g3 1021 0) = (S 1021 0))) → (0 ≤ r7 ∧ r7 ≤ 1) ∧ ((r7 = 0 ∧ 0 < (g3 1021 0) ∧ (S 1020 0) = (S 1020 0)) ∨ (r7 = 1 ∧ (g3 1021 0) = 0 ∧ (S 1021 0) = 0 ∧ (S 1020 0) = (S 1020 0) + 1 ∧ (S 1020 0) < (S 1012 0) ∧ (S 6 (S 1020 0)) = 2)))) ∧ ((¬ ((0 : Int) < (S 1021 0))) → (0 ≤ (S 1020 0) ∧ (S 1020 0) ≤ 4000) ∧ ((((S 6 (S 1020 0)) = 2 ∧ (S 7 (S 1020 0)) = p1) → (sv_R (S 1020 0) → (sv_R ((S 1020 0) + (1 : Int))) ∧ (((1 : Int) = 0 ∧ 0 < (S 1021 0) ∧ ((S 1020 0) + (1 : Int)) = (S 1020 0)) ∨ ((1 : Int) = 1 ∧ (S 1021 0) = 0 ∧ (S 1021 0) = 0 ∧ ((S 1020 0) + (1 : Int)) = (S 1020 0) + 1 ∧ ((S 1020 0) + (1 : Int)) < (S 1012 0) ∧ (S 6 (S 1020 0)) = 2)))) ∧ ((¬ ((S 6 (S 1020 0)) = 2 ∧ (S 7 (S 1020 0)) = p1)) → (0 ≤ (S 1020 0) ∧ (S 1020 0) ≤ 4000 ∧ 0 ≤ (S 1021 0) ∧ 1 ≤ (2 : Int)) ∧ (∀ r20 : Int, sv_R r20 → ∀ g16 : sv_S, (r20 = 0 ∧ 0 < (g16 1021 0) ∧ (0 < (S 1021 0) → (g16 1021 0) = (S 1021 0))) → (0 ≤ r20 ∧ r20 ≤ 1) ∧ ((r20 = 0 ∧ 0 < (g16 1021 0) ∧ (S 1020 0) = (S 1020 0)) ∨ (r20 = 1 ∧ (g16 1021 0) = 0 ∧ (S 1021 0) = 0 ∧ (S 1020 0) = (S 1020 0) + 1 ∧ (S 1020 0) < (S 1012 0) ∧ (S 6 (S 1020 0)) = 2)))))))) := by
  intro p1 S hok hp1 hpre
  have hq := sm_TK_t hpre.2.2.1
  have hg := sm_TK_go hpre.2.2.1 (S 1020 0)
  repeat' (first | (with_reducible refine And.intro ?_ ?_) | (with_reducible intro _))
  all_goals first | assumption | omega | grind
set_option maxRecDepth 8000 in
set_option maxHeartbeats 2000000 in
theorem t_mustWord : ∀ (p1 : Int) (S : sv_S), sm_ok S → sv_R p1 → (0 ≤ (S 1020 0) ∧ (S 1020 0) < (S 1012 0) ∧ sm_TK (S 6) (S 8) (S 9) (S 10) (S 1012 0) ∧ 0 ≤ (S 1021 0)) → sv_T sm_XS sm_cs sm_L sm_sh 1 (q_mustWord p1 S) 27 0 (lv_args 0 [.ref 0, sv_I p1]) [] S := by
  intro p1 S hok hp1 hpre
  have h := f_mustWord p1 S hok hp1 hpre
  have hM := sm_h27
  show sv_T sm_XS sm_cs sm_L sm_sh 1 (q_mustWord p1 S) 27 0 [(0, .ref 0), (1, sv_I p1)] [] S
  refine sv_aload_n hM dX12_mustWord_0 rfl rfl ?_
  have k1 : sv_R (S 1021 0) := sm_okI hok sm_r1021 0
  have h := h k1
  refine sv_getI hM dX12_mustWord_1 sm_fl_389 (sm_a0 _) sm_k21 rfl (x := (S 1021 0)) rfl ?_
  refine sv_cond_gt hM dX12_mustWord_4 k1 (t := 15) rfl rfl (fun hc => ?_) (fun hc => ?_)
  · have h := h.1 (hc)
    refine sv_aload_n hM dX12_mustWord_15 rfl rfl ?_
    refine sv_iconst (d := (2 : Int)) hM dX12_mustWord_16 rfl rfl ?_
    obtain ⟨o2, h⟩ := h
    refine sv_callV hM dX12_mustWord_17 sm_iv_401 (by decide) (sm_a0 _) rfl rfl (Nat.le_of_ble_eq_true rfl) sm_h23 (Nat.le_of_ble_eq_true rfl) (Nat.le_of_ble_eq_true rfl) (F' := 0) (Nat.le_of_ble_eq_true rfl) rfl (t_fail (2 : Int) S hok (⟨by decide, by decide⟩ : sv_R (2 : Int)) o2) (fun v S1 hq => ?_)
    obtain ⟨r7, rfl, hr7, ok4, md5, hpo6⟩ := hq
    obtain ⟨g3, rfl⟩ : ∃ g, S1 = sv_sts S [1021, 1022] g := ⟨_, md5.eq⟩
    show sv_T sm_XS sm_cs sm_L sm_sh 1 (q_mustWord p1 S) 27 20 [(0, .ref 0), (1, sv_I p1)] [sv_I r7] (sv_sts S [1021, 1022] g3)
    have md8 : sv_mod [1021, 1022, 1020] S (sv_sts S [1021, 1022] g3) := sv_mod.sts sv_mod.rf (by decide)
    have h := h r7 hr7 g3 hpo6
    obtain ⟨o9, h⟩ := h
    exact sv_iret hM dX12_mustWord_20 rfl (sv_nz o9) ⟨r7, rfl, sv_R01 o9, ok4, md8, h⟩
  · have h := h.2 (hc)
    refine sv_aload_n hM dX12_mustWord_7 rfl rfl ?_
    refine sv_iload_n hM dX12_mustWord_8 rfl rfl ?_
    obtain ⟨o10, h⟩ := h
    refine sv_callV hM dX12_mustWord_9 sm_iv_404 (by decide) (sm_a0 _) rfl rfl (Nat.le_of_ble_eq_true rfl) sm_h25 (Nat.le_of_ble_eq_true rfl) (Nat.le_of_ble_eq_true rfl) (F' := 0) (Nat.le_of_ble_eq_true rfl) rfl (t_isKeyword p1 S hok hp1 o10) (fun v S1 hq => ?_)
    obtain ⟨rfl, hS1⟩ := hq
    obtain rfl : S = S1 := hS1.symm
    show sv_T sm_XS sm_cs sm_L sm_sh 1 (q_mustWord p1 S) 27 12 [(0, .ref 0), (1, sv_I p1)] [sv_I (if (S 6 (S 1020 0)) = 2 ∧ (S 7 (S 1020 0)) = p1 then 1 else 0)] S
    refine sv_cond_ne hM dX12_mustWord_12 (sv_Rite : sv_R (if (S 6 (S 1020 0)) = 2 ∧ (S 7 (S 1020 0)) = p1 then 1 else 0)) (t := 21) rfl rfl (fun hc => ?_) (fun hc => ?_)
    · have h := h.1 (sv_itep hc)
      refine sv_aload_n hM dX12_mustWord_21 rfl rfl ?_
      refine sv_dupA hM dX12_mustWord_22 rfl ?_
      have k11 : sv_R (S 1020 0) := sm_okI hok sm_r1020 0
      have h := h k11
      refine sv_getI hM dX12_mustWord_23 sm_fl_392 (sm_a0 _) sm_k20 rfl (x := (S 1020 0)) rfl ?_
      refine sv_iconst (d := (1 : Int)) hM dX12_mustWord_26 rfl rfl ?_
      refine sv_iadd hM dX12_mustWord_27 rfl ?_
      obtain ⟨o12, h⟩ := h
      refine sv_putI sm_X hM dX12_mustWord_28 sm_fp_392 (sm_a0 _) sm_q20 (Or.inl rfl) rfl rfl rfl rfl ?_
      have ok13 : sm_ok (sv_up S 1020 0 ((S 1020 0) + (1 : Int))) := sm_upI hok sm_r1020 o12
      have md14 : sv_mod [1021, 1022, 1020] S (sv_up S 1020 0 ((S 1020 0) + (1 : Int))) := sv_mod.up sv_mod.rf (by decide)
      refine sv_iconst (d := (1 : Int)) hM dX12_mustWord_31 rfl rfl ?_
      exact sv_iret hM dX12_mustWord_32 rfl (sv_nz (⟨by decide, by decide⟩ : 0 ≤ (1 : Int) ∧ (1 : Int) ≤ 1)) ⟨(1 : Int), rfl, sv_R01 (⟨by decide, by decide⟩ : 0 ≤ (1 : Int) ∧ (1 : Int) ≤ 1), ok13, md14, h⟩
    · have h := h.2 (fun q => hc (by rw [if_pos q]; decide))
      refine sv_aload_n hM dX12_mustWord_15 rfl rfl ?_
      refine sv_iconst (d := (2 : Int)) hM dX12_mustWord_16 rfl rfl ?_
      obtain ⟨o15, h⟩ := h
      refine sv_callV hM dX12_mustWord_17 sm_iv_401 (by decide) (sm_a0 _) rfl rfl (Nat.le_of_ble_eq_true rfl) sm_h23 (Nat.le_of_ble_eq_true rfl) (Nat.le_of_ble_eq_true rfl) (F' := 0) (Nat.le_of_ble_eq_true rfl) rfl (t_fail (2 : Int) S hok (⟨by decide, by decide⟩ : sv_R (2 : Int)) o15) (fun v S1 hq => ?_)
      obtain ⟨r20, rfl, hr20, ok17, md18, hpo19⟩ := hq
      obtain ⟨g16, rfl⟩ : ∃ g, S1 = sv_sts S [1021, 1022] g := ⟨_, md18.eq⟩
      show sv_T sm_XS sm_cs sm_L sm_sh 1 (q_mustWord p1 S) 27 20 [(0, .ref 0), (1, sv_I p1)] [sv_I r20] (sv_sts S [1021, 1022] g16)
      have md21 : sv_mod [1021, 1022, 1020] S (sv_sts S [1021, 1022] g16) := sv_mod.sts sv_mod.rf (by decide)
      have h := h r20 hr20 g16 hpo19
      obtain ⟨o22, h⟩ := h
      exact sv_iret hM dX12_mustWord_20 rfl (sv_nz o22) ⟨r20, rfl, sv_R01 o22, ok17, md21, h⟩
def q_open (p1 : Int) (S : sv_S) : Option Value → sv_S → Prop := fun v S' => v = none ∧ sm_ok S' ∧ sv_mod [1021, 1022, 1023] S S' ∧ (0 ≤ (S' 1021 0) ∧ (0 < (S 1021 0) → 0 < (S' 1021 0)) ∧ ((S' 1021 0) = 0 → (S 1021 0) = 0 ∧ (S' 1023 0) = (S 1023 0) + 1 ∧ (S 1023 0) < 20 ∧ p1 = 1))
set_option maxHeartbeats 2000000 in
theorem f_open : ∀ (p1 : Int) (S : sv_S), sm_ok S → (0 ≤ p1 ∧ p1 ≤ 1) → (0 ≤ (S 1020 0) ∧ (S 1020 0) ≤ 4000 ∧ 0 ≤ (S 1021 0) ∧ ((S 1021 0) = 0 → 0 ≤ (S 1023 0) ∧ (S 1023 0) ≤ 20)) → (sv_R (S 1021 0) → ((((S 1021 0) ≤ (0 : Int)) → (((¬ p1 = (0 : Int)) → (sv_R (S 1023 0) → (((¬ (S 1023 0) = (20 : Int)) → (sv_R ((S 1023 0) + (1 : Int))) ∧ (0 ≤ (S 1021 0) ∧ (0 < (S 1021 0) → 0 < (S 1021 0)) ∧ ((S 1021 0) = 0 → (S 1021 0) = 0 ∧ ((S 1023 0) + (1 : Int)) = (S 1023 0) + 1 ∧ (S 1023 0) < 20 ∧ p1 = 1))) ∧ ((¬ (¬ (S 1023 0) = (20 : Int))) → (0 ≤ (S 1020 0) ∧ (S 1020 0) ≤ 4000 ∧ 0 ≤ (S 1021 0) ∧ 1 ≤ (5 : Int)) ∧ (∀ r11 : Int, sv_R r11 → ∀ g7 : sv_S, (r11 = 0 ∧ 0 < (g7 1021 0) ∧ (0 < (S 1021 0) → (g7 1021 0) = (S 1021 0))) → (sv_R ((S 1023 0) + (1 : Int))) ∧ (0 ≤ (g7 1021 0) ∧ (0 < (S 1021 0) → 0 < (g7 1021 0)) ∧ ((g7 1021 0) = 0 → (S 1021 0) = 0 ∧ ((S 1023 0) + (1 : Int)) = (S 1023 0) + 1 ∧ (S 1023 0) < 20 ∧ p1 = 1))))))) ∧ ((¬ (¬ p1 = (0 : Int))) → (0 ≤ (S 1020 0) ∧ (S 1020 0) ≤ 4000 ∧ 0 ≤ (S 1021 0) ∧ 1 ≤ (2 : Int)) ∧ (∀ r21 : Int, sv_R r21 → ∀ g17 : sv_S, (r21 = 0 ∧ 0 < (g17 1021 0) ∧ (0 < (S 1021 0) → (g17 1021 0) = (S 1021 0))) → (sv_R (S 1023 0) → (sv_R ((S 1023 0) + (1 : Int))) ∧ (0 ≤ (g17 1021 0) ∧ (0 < (S 1021 0) → 0 < (g17 1021 0)) ∧ ((g17 1021 0) = 0 → (S 1021 0) = 0 ∧ ((S 1023 0) + (1 : Int)) = (S 1023 0) + 1 ∧ (S 1023 0) < 20 ∧ p1 = 1))))))) ∧ ((¬ ((S 1021 0) ≤ (0 : Int))) → (0 ≤ (S 1021 0) ∧ (0 < (S 1021 0) → 0 < (S 1021 0)) ∧ ((S 1021 0) = 0 → (S 1021 0) = 0 ∧ (S 1023 0) = (S 1023 0) + 1 ∧ (S 1023 0) < 20 ∧ p1 = 1))))) := by
  intro p1 S hok hp1 hpre
  repeat' (first | (with_reducible refine And.intro ?_ ?_) | (with_reducible intro _))
  all_goals first | assumption | omega | grind
set_option maxRecDepth 8000 in
set_option maxHeartbeats 2000000 in
theorem t_open : ∀ (p1 : Int) (S : sv_S), sm_ok S → (0 ≤ p1 ∧ p1 ≤ 1) → (0 ≤ (S 1020 0) ∧ (S 1020 0) ≤ 4000 ∧ 0 ≤ (S 1021 0) ∧ ((S 1021 0) = 0 → 0 ≤ (S 1023 0) ∧ (S 1023 0) ≤ 20)) → sv_T sm_XS sm_cs sm_L sm_sh 1 (q_open p1 S) 28 0 (lv_args 0 [.ref 0, sv_I p1]) [] S := by
  intro p1 S hok hp1 hpre
  have h := f_open p1 S hok hp1 hpre
  have hM := sm_h28
  show sv_T sm_XS sm_cs sm_L sm_sh 1 (q_open p1 S) 28 0 [(0, .ref 0), (1, sv_I p1)] [] S
  refine sv_aload_n hM dX12_open_0 rfl rfl ?_
  have k1 : sv_R (S 1021 0) := sm_okI hok sm_r1021 0
  have h := h k1
  refine sv_getI hM dX12_open_1 sm_fl_389 (sm_a0 _) sm_k21 rfl (x := (S 1021 0)) rfl ?_
  refine sv_cond_le hM dX12_open_4 k1 (t := 8) rfl rfl (fun hc => ?_) (fun hc => ?_)
  · have h := h.1 (hc)
    refine sv_iload_n hM dX12_open_8 rfl rfl ?_
    refine sv_cond_ne hM dX12_open_9 (sv_R01 hp1) (t := 21) rfl rfl (fun hc => ?_) (fun hc => ?_)
    · have h := h.1 (hc)
      refine sv_aload_n hM dX12_open_21 rfl rfl ?_
      have k2 : sv_R (S 1023 0) := sm_okI hok sm_r1023 0
      have h := h k2
      refine sv_getI hM dX12_open_22 sm_fl_407 (sm_a0 _) sm_k23 rfl (x := (S 1023 0)) rfl ?_
      refine sv_bipush (d := (20 : Int)) hM dX12_open_25 rfl rfl ?_
      refine sv_icmp_ne hM dX12_open_27 k2 (⟨by decide, by decide⟩ : sv_R (20 : Int)) (t := 36) rfl rfl (fun hc => ?_) (fun hc => ?_)
      · have h := h.1 (hc)
        refine sv_aload_n hM dX12_open_36 rfl rfl ?_
        refine sv_dupA hM dX12_open_37 rfl ?_
        refine sv_getI hM dX12_open_38 sm_fl_407 (sm_a0 _) sm_k23 rfl (x := (S 1023 0)) rfl ?_
        refine sv_iconst (d := (1 : Int)) hM dX12_open_41 rfl rfl ?_
        refine sv_iadd hM dX12_open_42 rfl ?_
        obtain ⟨o3, h⟩ := h
        refine sv_putI sm_X hM dX12_open_43 sm_fp_407 (sm_a0 _) sm_q23 (Or.inl rfl) rfl rfl rfl rfl ?_
        have ok4 : sm_ok (sv_up S 1023 0 ((S 1023 0) + (1 : Int))) := sm_upI hok sm_r1023 o3
        have md5 : sv_mod [1021, 1022, 1023] S (sv_up S 1023 0 ((S 1023 0) + (1 : Int))) := sv_mod.up sv_mod.rf (by decide)
        exact sv_vret hM dX12_open_46 rfl ⟨rfl, ok4, md5, h⟩
      · have h := h.2 (hc)
        refine sv_aload_n hM dX12_open_30 rfl rfl ?_
        refine sv_iconst (d := (5 : Int)) hM dX12_open_31 rfl rfl ?_
        obtain ⟨o6, h⟩ := h
        refine sv_callV hM dX12_open_32 sm_iv_401 (by decide) (sm_a0 _) rfl rfl (Nat.le_of_ble_eq_true rfl) sm_h23 (Nat.le_of_ble_eq_true rfl) (Nat.le_of_ble_eq_true rfl) (F' := 0) (Nat.le_of_ble_eq_true rfl) rfl (t_fail (5 : Int) S hok (⟨by decide, by decide⟩ : sv_R (5 : Int)) o6) (fun v S1 hq => ?_)
        obtain ⟨r11, rfl, hr11, ok8, md9, hpo10⟩ := hq
        obtain ⟨g7, rfl⟩ : ∃ g, S1 = sv_sts S [1021, 1022] g := ⟨_, md9.eq⟩
        show sv_T sm_XS sm_cs sm_L sm_sh 1 (q_open p1 S) 28 35 [(0, .ref 0), (1, sv_I p1)] [sv_I r11] (sv_sts S [1021, 1022] g7)
        have md12 : sv_mod [1021, 1022, 1023] S (sv_sts S [1021, 1022] g7) := sv_mod.sts sv_mod.rf (by decide)
        have h := h r11 hr11 g7 hpo10
        refine sv_popI hM dX12_open_35 rfl ?_
        refine sv_aload_n hM dX12_open_36 rfl rfl ?_
        refine sv_dupA hM dX12_open_37 rfl ?_
        refine sv_getI hM dX12_open_38 sm_fl_407 (sm_a0 _) sm_k23 rfl (x := (S 1023 0)) rfl ?_
        refine sv_iconst (d := (1 : Int)) hM dX12_open_41 rfl rfl ?_
        refine sv_iadd hM dX12_open_42 rfl ?_
        obtain ⟨o13, h⟩ := h
        refine sv_putI sm_X hM dX12_open_43 sm_fp_407 (sm_a0 _) sm_q23 (Or.inl rfl) rfl rfl rfl rfl ?_
        have ok14 : sm_ok (sv_up (sv_sts S [1021, 1022] g7) 1023 0 ((S 1023 0) + (1 : Int))) := sm_upI ok8 sm_r1023 o13
        have md15 : sv_mod [1021, 1022, 1023] S (sv_up (sv_sts S [1021, 1022] g7) 1023 0 ((S 1023 0) + (1 : Int))) := sv_mod.up md12 (by decide)
        exact sv_vret hM dX12_open_46 rfl ⟨rfl, ok14, md15, h⟩
    · have h := h.2 (hc)
      refine sv_aload_n hM dX12_open_12 rfl rfl ?_
      refine sv_iconst (d := (2 : Int)) hM dX12_open_13 rfl rfl ?_
      obtain ⟨o16, h⟩ := h
      refine sv_callV hM dX12_open_14 sm_iv_401 (by decide) (sm_a0 _) rfl rfl (Nat.le_of_ble_eq_true rfl) sm_h23 (Nat.le_of_ble_eq_true rfl) (Nat.le_of_ble_eq_true rfl) (F' := 0) (Nat.le_of_ble_eq_true rfl) rfl (t_fail (2 : Int) S hok (⟨by decide, by decide⟩ : sv_R (2 : Int)) o16) (fun v S1 hq => ?_)
      obtain ⟨r21, rfl, hr21, ok18, md19, hpo20⟩ := hq
      obtain ⟨g17, rfl⟩ : ∃ g, S1 = sv_sts S [1021, 1022] g := ⟨_, md19.eq⟩
      show sv_T sm_XS sm_cs sm_L sm_sh 1 (q_open p1 S) 28 17 [(0, .ref 0), (1, sv_I p1)] [sv_I r21] (sv_sts S [1021, 1022] g17)
      have md22 : sv_mod [1021, 1022, 1023] S (sv_sts S [1021, 1022] g17) := sv_mod.sts sv_mod.rf (by decide)
      have h := h r21 hr21 g17 hpo20
      refine sv_popI hM dX12_open_17 rfl ?_
      refine sv_goto hM dX12_open_18 (pc' := 36) rfl ?_
      refine sv_aload_n hM dX12_open_36 rfl rfl ?_
      refine sv_dupA hM dX12_open_37 rfl ?_
      have k23 : sv_R (S 1023 0) := sm_okI ok18 sm_r1023 0
      have h := h k23
      refine sv_getI hM dX12_open_38 sm_fl_407 (sm_a0 _) sm_k23 rfl (x := (S 1023 0)) rfl ?_
      refine sv_iconst (d := (1 : Int)) hM dX12_open_41 rfl rfl ?_
      refine sv_iadd hM dX12_open_42 rfl ?_
      obtain ⟨o24, h⟩ := h
      refine sv_putI sm_X hM dX12_open_43 sm_fp_407 (sm_a0 _) sm_q23 (Or.inl rfl) rfl rfl rfl rfl ?_
      have ok25 : sm_ok (sv_up (sv_sts S [1021, 1022] g17) 1023 0 ((S 1023 0) + (1 : Int))) := sm_upI ok18 sm_r1023 o24
      have md26 : sv_mod [1021, 1022, 1023] S (sv_up (sv_sts S [1021, 1022] g17) 1023 0 ((S 1023 0) + (1 : Int))) := sv_mod.up md22 (by decide)
      exact sv_vret hM dX12_open_46 rfl ⟨rfl, ok25, md26, h⟩
  · have h := h.2 (hc)
    exact sv_vret hM dX12_open_7 rfl ⟨rfl, hok, sv_mod.rf, h⟩
def q_close (S : sv_S) : Option Value → sv_S → Prop := fun v S' => v = none ∧ sm_ok S' ∧ sv_mod [1023] S S' ∧ ((sv_R ((S 1023 0) - 1) → (S' 1023 0) = (S 1023 0) - 1))
set_option maxHeartbeats 2000000 in
theorem f_close : ∀ (S : sv_S), sm_ok S → (sv_R (S 1023 0) → (∀ r2 : Int, sv_R r2 → (sv_R ((S 1023 0) - (1 : Int)) → r2 = ((S 1023 0) - (1 : Int))) → ((sv_R ((S 1023 0) - 1) → r2 = (S 1023 0) - 1)))) := by
  intro S hok
  repeat' (first | (with_reducible refine And.intro ?_ ?_) | (with_reducible intro _))
  all_goals first | assumption | omega | grind
set_option maxRecDepth 8000 in
set_option maxHeartbeats 2000000 in
theorem t_close : ∀ (S : sv_S), sm_ok S → sv_T sm_XS sm_cs sm_L sm_sh 0 (q_close S) 29 0 (lv_args 0 [.ref 0]) [] S := by
  intro S hok
  have h := f_close S hok
  have hM := sm_h29
  show sv_T sm_XS sm_cs sm_L sm_sh 0 (q_close S) 29 0 [(0, .ref 0)] [] S
  refine sv_aload_n hM dX12_close_0 rfl rfl ?_
  refine sv_dupA hM dX12_close_1 rfl ?_
  have k1 : sv_R (S 1023 0) := sm_okI hok sm_r1023 0
  have h := h k1
  refine sv_getI hM dX12_close_2 sm_fl_407 (sm_a0 _) sm_k23 rfl (x := (S 1023 0)) rfl ?_
  refine sv_iconst (d := (1 : Int)) hM dX12_close_5 rfl rfl ?_
  refine sv_anyI hM dX12_close_6 (x := Int32.ofInt (S 1023 0) - Int32.ofInt (1 : Int)) rfl rfl (fun r2 hr2 er2 => ?_)
  have h := h r2 hr2 (fun q => sv_wsub q er2)
  refine sv_putI sm_X hM dX12_close_7 sm_fp_407 (sm_a0 _) sm_q23 (Or.inl rfl) rfl rfl rfl rfl ?_
  have ok3 : sm_ok (sv_up S 1023 0 r2) := sm_upI hok sm_r1023 hr2
  have md4 : sv_mod [1023] S (sv_up S 1023 0 r2) := sv_mod.up sv_mod.rf (by decide)
  exact sv_vret hM dX12_close_10 rfl ⟨rfl, ok3, md4, h⟩
def q_isLiteral (S : sv_S) : Option Value → sv_S → Prop := fun v S' => v = some (sv_I (if (S 6 (S 1020 0)) = 2 ∧ ((S 7 (S 1020 0)) = 22 ∨ (S 7 (S 1020 0)) = 8 ∨ (S 7 (S 1020 0)) = 17 ∨ (S 7 (S 1020 0)) = 25 ∨ (S 7 (S 1020 0)) = 15) then 1 else 0)) ∧ S' = S
set_option maxHeartbeats 2000000 in
theorem f_isLiteral : ∀ (S : sv_S), sm_ok S → (0 ≤ (S 1020 0) ∧ (S 1020 0) ≤ 4000) → (0 ≤ (S 1020 0) ∧ (S 1020 0) ≤ 4000) ∧ ((((S 6 (S 1020 0)) = 2 ∧ (S 7 (S 1020 0)) = (22 : Int)) → (1 : Int) = (if (S 6 (S 1020 0)) = 2 ∧ ((S 7 (S 1020 0)) = 22 ∨ (S 7 (S 1020 0)) = 8 ∨ (S 7 (S 1020 0)) = 17 ∨ (S 7 (S 1020 0)) = 25 ∨ (S 7 (S 1020 0)) = 15) then 1 else 0)) ∧ ((¬ ((S 6 (S 1020 0)) = 2 ∧ (S 7 (S 1020 0)) = (22 : Int))) → ((((S 6 (S 1020 0)) = 2 ∧ (S 7 (S 1020 0)) = (8 : Int)) → (1 : Int) = (if (S 6 (S 1020 0)) = 2 ∧ ((S 7 (S 1020 0)) = 22 ∨ (S 7 (S 1020 0)) = 8 ∨ (S 7 (S 1020 0)) = 17 ∨ (S 7 (S 1020 0)) = 25 ∨ (S 7 (S 1020 0)) = 15) then 1 else 0)) ∧ ((¬ ((S 6 (S 1020 0)) = 2 ∧ (S 7 (S 1020 0)) = (8 : Int))) → ((((S 6 (S 1020 0)) = 2 ∧ (S 7 (S 1020 0)) = (17 : Int)) → (1 : Int) = (if (S 6 (S 1020 0)) = 2 ∧ ((S 7 (S 1020 0)) = 22 ∨ (S 7 (S 1020 0)) = 8 ∨ (S 7 (S 1020 0)) = 17 ∨ (S 7 (S 1020 0)) = 25 ∨ (S 7 (S 1020 0)) = 15) then 1 else 0)) ∧ ((¬ ((S 6 (S 1020 0)) = 2 ∧ (S 7 (S 1020 0)) = (17 : Int))) → ((((S 6 (S 1020 0)) = 2 ∧ (S 7 (S 1020 0)) = (25 : Int)) → (1 : Int) = (if (S 6 (S 1020 0)) = 2 ∧ ((S 7 (S 1020 0)) = 22 ∨ (S 7 (S 1020 0)) = 8 ∨ (S 7 (S 1020 0)) = 17 ∨ (S 7 (S 1020 0)) = 25 ∨ (S 7 (S 1020 0)) = 15) then 1 else 0)) ∧ ((¬ ((S 6 (S 1020 0)) = 2 ∧ (S 7 (S 1020 0)) = (25 : Int))) → (((¬ ((S 6 (S 1020 0)) = 2 ∧ (S 7 (S 1020 0)) = (15 : Int))) → (0 : Int) = (if (S 6 (S 1020 0)) = 2 ∧ ((S 7 (S 1020 0)) = 22 ∨ (S 7 (S 1020 0)) = 8 ∨ (S 7 (S 1020 0)) = 17 ∨ (S 7 (S 1020 0)) = 25 ∨ (S 7 (S 1020 0)) = 15) then 1 else 0)) ∧ (((S 6 (S 1020 0)) = 2 ∧ (S 7 (S 1020 0)) = (15 : Int)) → (1 : Int) = (if (S 6 (S 1020 0)) = 2 ∧ ((S 7 (S 1020 0)) = 22 ∨ (S 7 (S 1020 0)) = 8 ∨ (S 7 (S 1020 0)) = 17 ∨ (S 7 (S 1020 0)) = 25 ∨ (S 7 (S 1020 0)) = 15) then 1 else 0))))))))))) := by
  intro S hok hpre
  repeat' (first | (with_reducible refine And.intro ?_ ?_) | (with_reducible intro _))
  all_goals first | assumption | omega | grind
set_option maxRecDepth 8000 in
set_option maxHeartbeats 2000000 in
theorem t_isLiteral : ∀ (S : sv_S), sm_ok S → (0 ≤ (S 1020 0) ∧ (S 1020 0) ≤ 4000) → sv_T sm_XS sm_cs sm_L sm_sh 1 (q_isLiteral S) 40 0 (lv_args 0 [.ref 0]) [] S := by
  intro S hok hpre
  have h := f_isLiteral S hok hpre
  have hM := sm_h40
  show sv_T sm_XS sm_cs sm_L sm_sh 1 (q_isLiteral S) 40 0 [(0, .ref 0)] [] S
  refine sv_aload_n hM dX12_isLiteral_0 rfl rfl ?_
  refine sv_bipush (d := (22 : Int)) hM dX12_isLiteral_1 rfl rfl ?_
  obtain ⟨o1, h⟩ := h
  refine sv_callV hM dX12_isLiteral_3 sm_iv_404 (by decide) (sm_a0 _) rfl rfl (Nat.le_of_ble_eq_true rfl) sm_h25 (Nat.le_of_ble_eq_true rfl) (Nat.le_of_ble_eq_true rfl) (F' := 0) (Nat.le_of_ble_eq_true rfl) rfl (t_isKeyword (22 : Int) S hok (⟨by decide, by decide⟩ : sv_R (22 : Int)) o1) (fun v S1 hq => ?_)
  obtain ⟨rfl, hS1⟩ := hq
  obtain rfl : S = S1 := hS1.symm
  show sv_T sm_XS sm_cs sm_L sm_sh 1 (q_isLiteral S) 40 6 [(0, .ref 0)] [sv_I (if (S 6 (S 1020 0)) = 2 ∧ (S 7 (S 1020 0)) = (22 : Int) then 1 else 0)] S
  refine sv_cond_ne hM dX12_isLiteral_6 (sv_Rite : sv_R (if (S 6 (S 1020 0)) = 2 ∧ (S 7 (S 1020 0)) = (22 : Int) then 1 else 0)) (t := 45) rfl rfl (fun hc => ?_) (fun hc => ?_)
  · have h := h.1 (sv_itep hc)
    refine sv_iconst (d := (1 : Int)) hM dX12_isLiteral_45 rfl rfl ?_
    refine sv_goto hM dX12_isLiteral_46 (pc' := 50) rfl ?_
    exact sv_iret hM dX12_isLiteral_50 rfl (sv_nz (⟨by decide, by decide⟩ : 0 ≤ (1 : Int) ∧ (1 : Int) ≤ 1)) ⟨congrArg (fun z => some (sv_I z)) h, rfl⟩
  · have h := h.2 (fun q => hc (by rw [if_pos q]; decide))
    refine sv_aload_n hM dX12_isLiteral_9 rfl rfl ?_
    refine sv_bipush (d := (8 : Int)) hM dX12_isLiteral_10 rfl rfl ?_
    refine sv_callV hM dX12_isLiteral_12 sm_iv_404 (by decide) (sm_a0 _) rfl rfl (Nat.le_of_ble_eq_true rfl) sm_h25 (Nat.le_of_ble_eq_true rfl) (Nat.le_of_ble_eq_true rfl) (F' := 0) (Nat.le_of_ble_eq_true rfl) rfl (t_isKeyword (8 : Int) S hok (⟨by decide, by decide⟩ : sv_R (8 : Int)) o1) (fun v S1 hq => ?_)
    obtain ⟨rfl, hS1⟩ := hq
    obtain rfl : S = S1 := hS1.symm
    show sv_T sm_XS sm_cs sm_L sm_sh 1 (q_isLiteral S) 40 15 [(0, .ref 0)] [sv_I (if (S 6 (S 1020 0)) = 2 ∧ (S 7 (S 1020 0)) = (8 : Int) then 1 else 0)] S
    refine sv_cond_ne hM dX12_isLiteral_15 (sv_Rite : sv_R (if (S 6 (S 1020 0)) = 2 ∧ (S 7 (S 1020 0)) = (8 : Int) then 1 else 0)) (t := 45) rfl rfl (fun hc => ?_) (fun hc => ?_)
    · have h := h.1 (sv_itep hc)
      refine sv_iconst (d := (1 : Int)) hM dX12_isLiteral_45 rfl rfl ?_
      refine sv_goto hM dX12_isLiteral_46 (pc' := 50) rfl ?_
      exact sv_iret hM dX12_isLiteral_50 rfl (sv_nz (⟨by decide, by decide⟩ : 0 ≤ (1 : Int) ∧ (1 : Int) ≤ 1)) ⟨congrArg (fun z => some (sv_I z)) h, rfl⟩
    · have h := h.2 (fun q => hc (by rw [if_pos q]; decide))
      refine sv_aload_n hM dX12_isLiteral_18 rfl rfl ?_
      refine sv_bipush (d := (17 : Int)) hM dX12_isLiteral_19 rfl rfl ?_
      refine sv_callV hM dX12_isLiteral_21 sm_iv_404 (by decide) (sm_a0 _) rfl rfl (Nat.le_of_ble_eq_true rfl) sm_h25 (Nat.le_of_ble_eq_true rfl) (Nat.le_of_ble_eq_true rfl) (F' := 0) (Nat.le_of_ble_eq_true rfl) rfl (t_isKeyword (17 : Int) S hok (⟨by decide, by decide⟩ : sv_R (17 : Int)) o1) (fun v S1 hq => ?_)
      obtain ⟨rfl, hS1⟩ := hq
      obtain rfl : S = S1 := hS1.symm
      show sv_T sm_XS sm_cs sm_L sm_sh 1 (q_isLiteral S) 40 24 [(0, .ref 0)] [sv_I (if (S 6 (S 1020 0)) = 2 ∧ (S 7 (S 1020 0)) = (17 : Int) then 1 else 0)] S
      refine sv_cond_ne hM dX12_isLiteral_24 (sv_Rite : sv_R (if (S 6 (S 1020 0)) = 2 ∧ (S 7 (S 1020 0)) = (17 : Int) then 1 else 0)) (t := 45) rfl rfl (fun hc => ?_) (fun hc => ?_)
      · have h := h.1 (sv_itep hc)
        refine sv_iconst (d := (1 : Int)) hM dX12_isLiteral_45 rfl rfl ?_
        refine sv_goto hM dX12_isLiteral_46 (pc' := 50) rfl ?_
        exact sv_iret hM dX12_isLiteral_50 rfl (sv_nz (⟨by decide, by decide⟩ : 0 ≤ (1 : Int) ∧ (1 : Int) ≤ 1)) ⟨congrArg (fun z => some (sv_I z)) h, rfl⟩
      · have h := h.2 (fun q => hc (by rw [if_pos q]; decide))
        refine sv_aload_n hM dX12_isLiteral_27 rfl rfl ?_
        refine sv_bipush (d := (25 : Int)) hM dX12_isLiteral_28 rfl rfl ?_
        refine sv_callV hM dX12_isLiteral_30 sm_iv_404 (by decide) (sm_a0 _) rfl rfl (Nat.le_of_ble_eq_true rfl) sm_h25 (Nat.le_of_ble_eq_true rfl) (Nat.le_of_ble_eq_true rfl) (F' := 0) (Nat.le_of_ble_eq_true rfl) rfl (t_isKeyword (25 : Int) S hok (⟨by decide, by decide⟩ : sv_R (25 : Int)) o1) (fun v S1 hq => ?_)
        obtain ⟨rfl, hS1⟩ := hq
        obtain rfl : S = S1 := hS1.symm
        show sv_T sm_XS sm_cs sm_L sm_sh 1 (q_isLiteral S) 40 33 [(0, .ref 0)] [sv_I (if (S 6 (S 1020 0)) = 2 ∧ (S 7 (S 1020 0)) = (25 : Int) then 1 else 0)] S
        refine sv_cond_ne hM dX12_isLiteral_33 (sv_Rite : sv_R (if (S 6 (S 1020 0)) = 2 ∧ (S 7 (S 1020 0)) = (25 : Int) then 1 else 0)) (t := 45) rfl rfl (fun hc => ?_) (fun hc => ?_)
        · have h := h.1 (sv_itep hc)
          refine sv_iconst (d := (1 : Int)) hM dX12_isLiteral_45 rfl rfl ?_
          refine sv_goto hM dX12_isLiteral_46 (pc' := 50) rfl ?_
          exact sv_iret hM dX12_isLiteral_50 rfl (sv_nz (⟨by decide, by decide⟩ : 0 ≤ (1 : Int) ∧ (1 : Int) ≤ 1)) ⟨congrArg (fun z => some (sv_I z)) h, rfl⟩
        · have h := h.2 (fun q => hc (by rw [if_pos q]; decide))
          refine sv_aload_n hM dX12_isLiteral_36 rfl rfl ?_
          refine sv_bipush (d := (15 : Int)) hM dX12_isLiteral_37 rfl rfl ?_
          refine sv_callV hM dX12_isLiteral_39 sm_iv_404 (by decide) (sm_a0 _) rfl rfl (Nat.le_of_ble_eq_true rfl) sm_h25 (Nat.le_of_ble_eq_true rfl) (Nat.le_of_ble_eq_true rfl) (F' := 0) (Nat.le_of_ble_eq_true rfl) rfl (t_isKeyword (15 : Int) S hok (⟨by decide, by decide⟩ : sv_R (15 : Int)) o1) (fun v S1 hq => ?_)
          obtain ⟨rfl, hS1⟩ := hq
          obtain rfl : S = S1 := hS1.symm
          show sv_T sm_XS sm_cs sm_L sm_sh 1 (q_isLiteral S) 40 42 [(0, .ref 0)] [sv_I (if (S 6 (S 1020 0)) = 2 ∧ (S 7 (S 1020 0)) = (15 : Int) then 1 else 0)] S
          refine sv_cond_eq hM dX12_isLiteral_42 (sv_Rite : sv_R (if (S 6 (S 1020 0)) = 2 ∧ (S 7 (S 1020 0)) = (15 : Int) then 1 else 0)) (t := 49) rfl rfl (fun hc => ?_) (fun hc => ?_)
          · have h := h.1 (sv_iten hc)
            refine sv_iconst (d := (0 : Int)) hM dX12_isLiteral_49 rfl rfl ?_
            exact sv_iret hM dX12_isLiteral_50 rfl (sv_nz (⟨by decide, by decide⟩ : 0 ≤ (0 : Int) ∧ (0 : Int) ≤ 1)) ⟨congrArg (fun z => some (sv_I z)) h, rfl⟩
          · have h := h.2 (sv_itep hc)
            refine sv_iconst (d := (1 : Int)) hM dX12_isLiteral_45 rfl rfl ?_
            refine sv_goto hM dX12_isLiteral_46 (pc' := 50) rfl ?_
            exact sv_iret hM dX12_isLiteral_50 rfl (sv_nz (⟨by decide, by decide⟩ : 0 ≤ (1 : Int) ∧ (1 : Int) ≤ 1)) ⟨congrArg (fun z => some (sv_I z)) h, rfl⟩
def q_isPrefix (S : sv_S) : Option Value → sv_S → Prop := fun v S' => v = some (sv_I (if (((S 6 (S 1020 0)) = 5 ∧ ((S 7 (S 1020 0)) = 35 ∨ (S 7 (S 1020 0)) = 36 ∨ (S 7 (S 1020 0)) = 44 ∨ (S 7 (S 1020 0)) = 43 ∨ (S 7 (S 1020 0)) = 10 ∨ (S 7 (S 1020 0)) = 11)) ∨ ((S 6 (S 1020 0)) = 2 ∧ ((S 7 (S 1020 0)) = 5 ∨ (S 7 (S 1020 0)) = 27 ∨ (S 7 (S 1020 0)) = 24))) then 1 else 0)) ∧ S' = S
set_option maxHeartbeats 2000000 in
theorem f_isPrefix : ∀ (S : sv_S), sm_ok S → (0 ≤ (S 1020 0) ∧ (S 1020 0) ≤ 4000) → (0 ≤ (S 1020 0) ∧ (S 1020 0) ≤ 4000) ∧ ((((S 6 (S 1020 0)) = 5 ∧ (S 7 (S 1020 0)) = (35 : Int)) → (1 : Int) = (if (((S 6 (S 1020 0)) = 5 ∧ ((S 7 (S 1020 0)) = 35 ∨ (S 7 (S 1020 0)) = 36 ∨ (S 7 (S 1020 0)) = 44 ∨ (S 7 (S 1020 0)) = 43 ∨ (S 7 (S 1020 0)) = 10 ∨ (S 7 (S 1020 0)) = 11)) ∨ ((S 6 (S 1020 0)) = 2 ∧ ((S 7 (S 1020 0)) = 5 ∨ (S 7 (S 1020 0)) = 27 ∨ (S 7 (S 1020 0)) = 24))) then 1 else 0)) ∧ ((¬ ((S 6 (S 1020 0)) = 5 ∧ (S 7 (S 1020 0)) = (35 : Int))) → ((((S 6 (S 1020 0)) = 5 ∧ (S 7 (S 1020 0)) = (36 : Int)) → (1 : Int) = (if (((S 6 (S 1020 0)) = 5 ∧ ((S 7 (S 1020 0)) = 35 ∨ (S 7 (S 1020 0)) = 36 ∨ (S 7 (S 1020 0)) = 44 ∨ (S 7 (S 1020 0)) = 43 ∨ (S 7 (S 1020 0)) = 10 ∨ (S 7 (S 1020 0)) = 11)) ∨ ((S 6 (S 1020 0)) = 2 ∧ ((S 7 (S 1020 0)) = 5 ∨ (S 7 (S 1020 0)) = 27 ∨ (S 7 (S 1020 0)) = 24))) then 1 else 0)) ∧ ((¬ ((S 6 (S 1020 0)) = 5 ∧ (S 7 (S 1020 0)) = (36 : Int))) → ((((S 6 (S 1020 0)) = 5 ∧ (S 7 (S 1020 0)) = (44 : Int)) → (1 : Int) = (if (((S 6 (S 1020 0)) = 5 ∧ ((S 7 (S 1020 0)) = 35 ∨ (S 7 (S 1020 0)) = 36 ∨ (S 7 (S 1020 0)) = 44 ∨ (S 7 (S 1020 0)) = 43 ∨ (S 7 (S 1020 0)) = 10 ∨ (S 7 (S 1020 0)) = 11)) ∨ ((S 6 (S 1020 0)) = 2 ∧ ((S 7 (S 1020 0)) = 5 ∨ (S 7 (S 1020 0)) = 27 ∨ (S 7 (S 1020 0)) = 24))) then 1 else 0)) ∧ ((¬ ((S 6 (S 1020 0)) = 5 ∧ (S 7 (S 1020 0)) = (44 : Int))) → ((((S 6 (S 1020 0)) = 5 ∧ (S 7 (S 1020 0)) = (43 : Int)) → (1 : Int) = (if (((S 6 (S 1020 0)) = 5 ∧ ((S 7 (S 1020 0)) = 35 ∨ (S 7 (S 1020 0)) = 36 ∨ (S 7 (S 1020 0)) = 44 ∨ (S 7 (S 1020 0)) = 43 ∨ (S 7 (S 1020 0)) = 10 ∨ (S 7 (S 1020 0)) = 11)) ∨ ((S 6 (S 1020 0)) = 2 ∧ ((S 7 (S 1020 0)) = 5 ∨ (S 7 (S 1020 0)) = 27 ∨ (S 7 (S 1020 0)) = 24))) then 1 else 0)) ∧ ((¬ ((S 6 (S 1020 0)) = 5 ∧ (S 7 (S 1020 0)) = (43 : Int))) → ((((S 6 (S 1020 0)) = 5 ∧ (S 7 (S 1020 0)) = (10 : Int)) → (1 : Int) = (if (((S 6 (S 1020 0)) = 5 ∧ ((S 7 (S 1020 0)) = 35 ∨ (S 7 (S 1020 0)) = 36 ∨ (S 7 (S 1020 0)) = 44 ∨ (S 7 (S 1020 0)) = 43 ∨ (S 7 (S 1020 0)) = 10 ∨ (S 7 (S 1020 0)) = 11)) ∨ ((S 6 (S 1020 0)) = 2 ∧ ((S 7 (S 1020 0)) = 5 ∨ (S 7 (S 1020 0)) = 27 ∨ (S 7 (S 1020 0)) = 24))) then 1 else 0)) ∧ ((¬ ((S 6 (S 1020 0)) = 5 ∧ (S 7 (S 1020 0)) = (10 : Int))) → ((((S 6 (S 1020 0)) = 5 ∧ (S 7 (S 1020 0)) = (11 : Int)) → (1 : Int) = (if (((S 6 (S 1020 0)) = 5 ∧ ((S 7 (S 1020 0)) = 35 ∨ (S 7 (S 1020 0)) = 36 ∨ (S 7 (S 1020 0)) = 44 ∨ (S 7 (S 1020 0)) = 43 ∨ (S 7 (S 1020 0)) = 10 ∨ (S 7 (S 1020 0)) = 11)) ∨ ((S 6 (S 1020 0)) = 2 ∧ ((S 7 (S 1020 0)) = 5 ∨ (S 7 (S 1020 0)) = 27 ∨ (S 7 (S 1020 0)) = 24))) then 1 else 0)) ∧ ((¬ ((S 6 (S 1020 0)) = 5 ∧ (S 7 (S 1020 0)) = (11 : Int))) → ((((S 6 (S 1020 0)) = 2 ∧ (S 7 (S 1020 0)) = (5 : Int)) → (1 : Int) = (if (((S 6 (S 1020 0)) = 5 ∧ ((S 7 (S 1020 0)) = 35 ∨ (S 7 (S 1020 0)) = 36 ∨ (S 7 (S 1020 0)) = 44 ∨ (S 7 (S 1020 0)) = 43 ∨ (S 7 (S 1020 0)) = 10 ∨ (S 7 (S 1020 0)) = 11)) ∨ ((S 6 (S 1020 0)) = 2 ∧ ((S 7 (S 1020 0)) = 5 ∨ (S 7 (S 1020 0)) = 27 ∨ (S 7 (S 1020 0)) = 24))) then 1 else 0)) ∧ ((¬ ((S 6 (S 1020 0)) = 2 ∧ (S 7 (S 1020 0)) = (5 : Int))) → ((((S 6 (S 1020 0)) = 2 ∧ (S 7 (S 1020 0)) = (27 : Int)) → (1 : Int) = (if (((S 6 (S 1020 0)) = 5 ∧ ((S 7 (S 1020 0)) = 35 ∨ (S 7 (S 1020 0)) = 36 ∨ (S 7 (S 1020 0)) = 44 ∨ (S 7 (S 1020 0)) = 43 ∨ (S 7 (S 1020 0)) = 10 ∨ (S 7 (S 1020 0)) = 11)) ∨ ((S 6 (S 1020 0)) = 2 ∧ ((S 7 (S 1020 0)) = 5 ∨ (S 7 (S 1020 0)) = 27 ∨ (S 7 (S 1020 0)) = 24))) then 1 else 0)) ∧ ((¬ ((S 6 (S 1020 0)) = 2 ∧ (S 7 (S 1020 0)) = (27 : Int))) → (((¬ ((S 6 (S 1020 0)) = 2 ∧ (S 7 (S 1020 0)) = (24 : Int))) → (0 : Int) = (if (((S 6 (S 1020 0)) = 5 ∧ ((S 7 (S 1020 0)) = 35 ∨ (S 7 (S 1020 0)) = 36 ∨ (S 7 (S 1020 0)) = 44 ∨ (S 7 (S 1020 0)) = 43 ∨ (S 7 (S 1020 0)) = 10 ∨ (S 7 (S 1020 0)) = 11)) ∨ ((S 6 (S 1020 0)) = 2 ∧ ((S 7 (S 1020 0)) = 5 ∨ (S 7 (S 1020 0)) = 27 ∨ (S 7 (S 1020 0)) = 24))) then 1 else 0)) ∧ (((S 6 (S 1020 0)) = 2 ∧ (S 7 (S 1020 0)) = (24 : Int)) → (1 : Int) = (if (((S 6 (S 1020 0)) = 5 ∧ ((S 7 (S 1020 0)) = 35 ∨ (S 7 (S 1020 0)) = 36 ∨ (S 7 (S 1020 0)) = 44 ∨ (S 7 (S 1020 0)) = 43 ∨ (S 7 (S 1020 0)) = 10 ∨ (S 7 (S 1020 0)) = 11)) ∨ ((S 6 (S 1020 0)) = 2 ∧ ((S 7 (S 1020 0)) = 5 ∨ (S 7 (S 1020 0)) = 27 ∨ (S 7 (S 1020 0)) = 24))) then 1 else 0))))))))))))))))))) := by
  intro S hok hpre
  repeat' (first | (with_reducible refine And.intro ?_ ?_) | (with_reducible intro _))
  all_goals first | assumption | omega | grind
set_option maxRecDepth 8000 in
set_option maxHeartbeats 2000000 in
theorem t_isPrefix : ∀ (S : sv_S), sm_ok S → (0 ≤ (S 1020 0) ∧ (S 1020 0) ≤ 4000) → sv_T sm_XS sm_cs sm_L sm_sh 1 (q_isPrefix S) 41 0 (lv_args 0 [.ref 0]) [] S := by
  intro S hok hpre
  have h := f_isPrefix S hok hpre
  have hM := sm_h41
  show sv_T sm_XS sm_cs sm_L sm_sh 1 (q_isPrefix S) 41 0 [(0, .ref 0)] [] S
  refine sv_aload_n hM dX12_isPrefix_0 rfl rfl ?_
  refine sv_bipush (d := (35 : Int)) hM dX12_isPrefix_1 rfl rfl ?_
  obtain ⟨o1, h⟩ := h
  refine sv_callV hM dX12_isPrefix_3 sm_iv_398 (by decide) (sm_a0 _) rfl rfl (Nat.le_of_ble_eq_true rfl) sm_h24 (Nat.le_of_ble_eq_true rfl) (Nat.le_of_ble_eq_true rfl) (F' := 0) (Nat.le_of_ble_eq_true rfl) rfl (t_isSign (35 : Int) S hok (⟨by decide, by decide⟩ : sv_R (35 : Int)) o1) (fun v S1 hq => ?_)
  obtain ⟨rfl, hS1⟩ := hq
  obtain rfl : S = S1 := hS1.symm
  show sv_T sm_XS sm_cs sm_L sm_sh 1 (q_isPrefix S) 41 6 [(0, .ref 0)] [sv_I (if (S 6 (S 1020 0)) = 5 ∧ (S 7 (S 1020 0)) = (35 : Int) then 1 else 0)] S
  refine sv_cond_ne hM dX12_isPrefix_6 (sv_Rite : sv_R (if (S 6 (S 1020 0)) = 5 ∧ (S 7 (S 1020 0)) = (35 : Int) then 1 else 0)) (t := 80) rfl rfl (fun hc => ?_) (fun hc => ?_)
  · have h := h.1 (sv_itep hc)
    refine sv_iconst (d := (1 : Int)) hM dX12_isPrefix_80 rfl rfl ?_
    refine sv_goto hM dX12_isPrefix_81 (pc' := 85) rfl ?_
    exact sv_iret hM dX12_isPrefix_85 rfl (sv_nz (⟨by decide, by decide⟩ : 0 ≤ (1 : Int) ∧ (1 : Int) ≤ 1)) ⟨congrArg (fun z => some (sv_I z)) h, rfl⟩
  · have h := h.2 (fun q => hc (by rw [if_pos q]; decide))
    refine sv_aload_n hM dX12_isPrefix_9 rfl rfl ?_
    refine sv_bipush (d := (36 : Int)) hM dX12_isPrefix_10 rfl rfl ?_
    refine sv_callV hM dX12_isPrefix_12 sm_iv_398 (by decide) (sm_a0 _) rfl rfl (Nat.le_of_ble_eq_true rfl) sm_h24 (Nat.le_of_ble_eq_true rfl) (Nat.le_of_ble_eq_true rfl) (F' := 0) (Nat.le_of_ble_eq_true rfl) rfl (t_isSign (36 : Int) S hok (⟨by decide, by decide⟩ : sv_R (36 : Int)) o1) (fun v S1 hq => ?_)
    obtain ⟨rfl, hS1⟩ := hq
    obtain rfl : S = S1 := hS1.symm
    show sv_T sm_XS sm_cs sm_L sm_sh 1 (q_isPrefix S) 41 15 [(0, .ref 0)] [sv_I (if (S 6 (S 1020 0)) = 5 ∧ (S 7 (S 1020 0)) = (36 : Int) then 1 else 0)] S
    refine sv_cond_ne hM dX12_isPrefix_15 (sv_Rite : sv_R (if (S 6 (S 1020 0)) = 5 ∧ (S 7 (S 1020 0)) = (36 : Int) then 1 else 0)) (t := 80) rfl rfl (fun hc => ?_) (fun hc => ?_)
    · have h := h.1 (sv_itep hc)
      refine sv_iconst (d := (1 : Int)) hM dX12_isPrefix_80 rfl rfl ?_
      refine sv_goto hM dX12_isPrefix_81 (pc' := 85) rfl ?_
      exact sv_iret hM dX12_isPrefix_85 rfl (sv_nz (⟨by decide, by decide⟩ : 0 ≤ (1 : Int) ∧ (1 : Int) ≤ 1)) ⟨congrArg (fun z => some (sv_I z)) h, rfl⟩
    · have h := h.2 (fun q => hc (by rw [if_pos q]; decide))
      refine sv_aload_n hM dX12_isPrefix_18 rfl rfl ?_
      refine sv_bipush (d := (44 : Int)) hM dX12_isPrefix_19 rfl rfl ?_
      refine sv_callV hM dX12_isPrefix_21 sm_iv_398 (by decide) (sm_a0 _) rfl rfl (Nat.le_of_ble_eq_true rfl) sm_h24 (Nat.le_of_ble_eq_true rfl) (Nat.le_of_ble_eq_true rfl) (F' := 0) (Nat.le_of_ble_eq_true rfl) rfl (t_isSign (44 : Int) S hok (⟨by decide, by decide⟩ : sv_R (44 : Int)) o1) (fun v S1 hq => ?_)
      obtain ⟨rfl, hS1⟩ := hq
      obtain rfl : S = S1 := hS1.symm
      show sv_T sm_XS sm_cs sm_L sm_sh 1 (q_isPrefix S) 41 24 [(0, .ref 0)] [sv_I (if (S 6 (S 1020 0)) = 5 ∧ (S 7 (S 1020 0)) = (44 : Int) then 1 else 0)] S
      refine sv_cond_ne hM dX12_isPrefix_24 (sv_Rite : sv_R (if (S 6 (S 1020 0)) = 5 ∧ (S 7 (S 1020 0)) = (44 : Int) then 1 else 0)) (t := 80) rfl rfl (fun hc => ?_) (fun hc => ?_)
      · have h := h.1 (sv_itep hc)
        refine sv_iconst (d := (1 : Int)) hM dX12_isPrefix_80 rfl rfl ?_
        refine sv_goto hM dX12_isPrefix_81 (pc' := 85) rfl ?_
        exact sv_iret hM dX12_isPrefix_85 rfl (sv_nz (⟨by decide, by decide⟩ : 0 ≤ (1 : Int) ∧ (1 : Int) ≤ 1)) ⟨congrArg (fun z => some (sv_I z)) h, rfl⟩
      · have h := h.2 (fun q => hc (by rw [if_pos q]; decide))
        refine sv_aload_n hM dX12_isPrefix_27 rfl rfl ?_
        refine sv_bipush (d := (43 : Int)) hM dX12_isPrefix_28 rfl rfl ?_
        refine sv_callV hM dX12_isPrefix_30 sm_iv_398 (by decide) (sm_a0 _) rfl rfl (Nat.le_of_ble_eq_true rfl) sm_h24 (Nat.le_of_ble_eq_true rfl) (Nat.le_of_ble_eq_true rfl) (F' := 0) (Nat.le_of_ble_eq_true rfl) rfl (t_isSign (43 : Int) S hok (⟨by decide, by decide⟩ : sv_R (43 : Int)) o1) (fun v S1 hq => ?_)
        obtain ⟨rfl, hS1⟩ := hq
        obtain rfl : S = S1 := hS1.symm
        show sv_T sm_XS sm_cs sm_L sm_sh 1 (q_isPrefix S) 41 33 [(0, .ref 0)] [sv_I (if (S 6 (S 1020 0)) = 5 ∧ (S 7 (S 1020 0)) = (43 : Int) then 1 else 0)] S
        refine sv_cond_ne hM dX12_isPrefix_33 (sv_Rite : sv_R (if (S 6 (S 1020 0)) = 5 ∧ (S 7 (S 1020 0)) = (43 : Int) then 1 else 0)) (t := 80) rfl rfl (fun hc => ?_) (fun hc => ?_)
        · have h := h.1 (sv_itep hc)
          refine sv_iconst (d := (1 : Int)) hM dX12_isPrefix_80 rfl rfl ?_
          refine sv_goto hM dX12_isPrefix_81 (pc' := 85) rfl ?_
          exact sv_iret hM dX12_isPrefix_85 rfl (sv_nz (⟨by decide, by decide⟩ : 0 ≤ (1 : Int) ∧ (1 : Int) ≤ 1)) ⟨congrArg (fun z => some (sv_I z)) h, rfl⟩
        · have h := h.2 (fun q => hc (by rw [if_pos q]; decide))
          refine sv_aload_n hM dX12_isPrefix_36 rfl rfl ?_
          refine sv_bipush (d := (10 : Int)) hM dX12_isPrefix_37 rfl rfl ?_
          refine sv_callV hM dX12_isPrefix_39 sm_iv_398 (by decide) (sm_a0 _) rfl rfl (Nat.le_of_ble_eq_true rfl) sm_h24 (Nat.le_of_ble_eq_true rfl) (Nat.le_of_ble_eq_true rfl) (F' := 0) (Nat.le_of_ble_eq_true rfl) rfl (t_isSign (10 : Int) S hok (⟨by decide, by decide⟩ : sv_R (10 : Int)) o1) (fun v S1 hq => ?_)
          obtain ⟨rfl, hS1⟩ := hq
          obtain rfl : S = S1 := hS1.symm
          show sv_T sm_XS sm_cs sm_L sm_sh 1 (q_isPrefix S) 41 42 [(0, .ref 0)] [sv_I (if (S 6 (S 1020 0)) = 5 ∧ (S 7 (S 1020 0)) = (10 : Int) then 1 else 0)] S
          refine sv_cond_ne hM dX12_isPrefix_42 (sv_Rite : sv_R (if (S 6 (S 1020 0)) = 5 ∧ (S 7 (S 1020 0)) = (10 : Int) then 1 else 0)) (t := 80) rfl rfl (fun hc => ?_) (fun hc => ?_)
          · have h := h.1 (sv_itep hc)
            refine sv_iconst (d := (1 : Int)) hM dX12_isPrefix_80 rfl rfl ?_
            refine sv_goto hM dX12_isPrefix_81 (pc' := 85) rfl ?_
            exact sv_iret hM dX12_isPrefix_85 rfl (sv_nz (⟨by decide, by decide⟩ : 0 ≤ (1 : Int) ∧ (1 : Int) ≤ 1)) ⟨congrArg (fun z => some (sv_I z)) h, rfl⟩
          · have h := h.2 (fun q => hc (by rw [if_pos q]; decide))
            refine sv_aload_n hM dX12_isPrefix_45 rfl rfl ?_
            refine sv_bipush (d := (11 : Int)) hM dX12_isPrefix_46 rfl rfl ?_
            refine sv_callV hM dX12_isPrefix_48 sm_iv_398 (by decide) (sm_a0 _) rfl rfl (Nat.le_of_ble_eq_true rfl) sm_h24 (Nat.le_of_ble_eq_true rfl) (Nat.le_of_ble_eq_true rfl) (F' := 0) (Nat.le_of_ble_eq_true rfl) rfl (t_isSign (11 : Int) S hok (⟨by decide, by decide⟩ : sv_R (11 : Int)) o1) (fun v S1 hq => ?_)
            obtain ⟨rfl, hS1⟩ := hq
            obtain rfl : S = S1 := hS1.symm
            show sv_T sm_XS sm_cs sm_L sm_sh 1 (q_isPrefix S) 41 51 [(0, .ref 0)] [sv_I (if (S 6 (S 1020 0)) = 5 ∧ (S 7 (S 1020 0)) = (11 : Int) then 1 else 0)] S
            refine sv_cond_ne hM dX12_isPrefix_51 (sv_Rite : sv_R (if (S 6 (S 1020 0)) = 5 ∧ (S 7 (S 1020 0)) = (11 : Int) then 1 else 0)) (t := 80) rfl rfl (fun hc => ?_) (fun hc => ?_)
            · have h := h.1 (sv_itep hc)
              refine sv_iconst (d := (1 : Int)) hM dX12_isPrefix_80 rfl rfl ?_
              refine sv_goto hM dX12_isPrefix_81 (pc' := 85) rfl ?_
              exact sv_iret hM dX12_isPrefix_85 rfl (sv_nz (⟨by decide, by decide⟩ : 0 ≤ (1 : Int) ∧ (1 : Int) ≤ 1)) ⟨congrArg (fun z => some (sv_I z)) h, rfl⟩
            · have h := h.2 (fun q => hc (by rw [if_pos q]; decide))
              refine sv_aload_n hM dX12_isPrefix_54 rfl rfl ?_
              refine sv_iconst (d := (5 : Int)) hM dX12_isPrefix_55 rfl rfl ?_
              refine sv_callV hM dX12_isPrefix_56 sm_iv_404 (by decide) (sm_a0 _) rfl rfl (Nat.le_of_ble_eq_true rfl) sm_h25 (Nat.le_of_ble_eq_true rfl) (Nat.le_of_ble_eq_true rfl) (F' := 0) (Nat.le_of_ble_eq_true rfl) rfl (t_isKeyword (5 : Int) S hok (⟨by decide, by decide⟩ : sv_R (5 : Int)) o1) (fun v S1 hq => ?_)
              obtain ⟨rfl, hS1⟩ := hq
              obtain rfl : S = S1 := hS1.symm
              show sv_T sm_XS sm_cs sm_L sm_sh 1 (q_isPrefix S) 41 59 [(0, .ref 0)] [sv_I (if (S 6 (S 1020 0)) = 2 ∧ (S 7 (S 1020 0)) = (5 : Int) then 1 else 0)] S
              refine sv_cond_ne hM dX12_isPrefix_59 (sv_Rite : sv_R (if (S 6 (S 1020 0)) = 2 ∧ (S 7 (S 1020 0)) = (5 : Int) then 1 else 0)) (t := 80) rfl rfl (fun hc => ?_) (fun hc => ?_)
              · have h := h.1 (sv_itep hc)
                refine sv_iconst (d := (1 : Int)) hM dX12_isPrefix_80 rfl rfl ?_
                refine sv_goto hM dX12_isPrefix_81 (pc' := 85) rfl ?_
                exact sv_iret hM dX12_isPrefix_85 rfl (sv_nz (⟨by decide, by decide⟩ : 0 ≤ (1 : Int) ∧ (1 : Int) ≤ 1)) ⟨congrArg (fun z => some (sv_I z)) h, rfl⟩
              · have h := h.2 (fun q => hc (by rw [if_pos q]; decide))
                refine sv_aload_n hM dX12_isPrefix_62 rfl rfl ?_
                refine sv_bipush (d := (27 : Int)) hM dX12_isPrefix_63 rfl rfl ?_
                refine sv_callV hM dX12_isPrefix_65 sm_iv_404 (by decide) (sm_a0 _) rfl rfl (Nat.le_of_ble_eq_true rfl) sm_h25 (Nat.le_of_ble_eq_true rfl) (Nat.le_of_ble_eq_true rfl) (F' := 0) (Nat.le_of_ble_eq_true rfl) rfl (t_isKeyword (27 : Int) S hok (⟨by decide, by decide⟩ : sv_R (27 : Int)) o1) (fun v S1 hq => ?_)
                obtain ⟨rfl, hS1⟩ := hq
                obtain rfl : S = S1 := hS1.symm
                show sv_T sm_XS sm_cs sm_L sm_sh 1 (q_isPrefix S) 41 68 [(0, .ref 0)] [sv_I (if (S 6 (S 1020 0)) = 2 ∧ (S 7 (S 1020 0)) = (27 : Int) then 1 else 0)] S
                refine sv_cond_ne hM dX12_isPrefix_68 (sv_Rite : sv_R (if (S 6 (S 1020 0)) = 2 ∧ (S 7 (S 1020 0)) = (27 : Int) then 1 else 0)) (t := 80) rfl rfl (fun hc => ?_) (fun hc => ?_)
                · have h := h.1 (sv_itep hc)
                  refine sv_iconst (d := (1 : Int)) hM dX12_isPrefix_80 rfl rfl ?_
                  refine sv_goto hM dX12_isPrefix_81 (pc' := 85) rfl ?_
                  exact sv_iret hM dX12_isPrefix_85 rfl (sv_nz (⟨by decide, by decide⟩ : 0 ≤ (1 : Int) ∧ (1 : Int) ≤ 1)) ⟨congrArg (fun z => some (sv_I z)) h, rfl⟩
                · have h := h.2 (fun q => hc (by rw [if_pos q]; decide))
                  refine sv_aload_n hM dX12_isPrefix_71 rfl rfl ?_
                  refine sv_bipush (d := (24 : Int)) hM dX12_isPrefix_72 rfl rfl ?_
                  refine sv_callV hM dX12_isPrefix_74 sm_iv_404 (by decide) (sm_a0 _) rfl rfl (Nat.le_of_ble_eq_true rfl) sm_h25 (Nat.le_of_ble_eq_true rfl) (Nat.le_of_ble_eq_true rfl) (F' := 0) (Nat.le_of_ble_eq_true rfl) rfl (t_isKeyword (24 : Int) S hok (⟨by decide, by decide⟩ : sv_R (24 : Int)) o1) (fun v S1 hq => ?_)
                  obtain ⟨rfl, hS1⟩ := hq
                  obtain rfl : S = S1 := hS1.symm
                  show sv_T sm_XS sm_cs sm_L sm_sh 1 (q_isPrefix S) 41 77 [(0, .ref 0)] [sv_I (if (S 6 (S 1020 0)) = 2 ∧ (S 7 (S 1020 0)) = (24 : Int) then 1 else 0)] S
                  refine sv_cond_eq hM dX12_isPrefix_77 (sv_Rite : sv_R (if (S 6 (S 1020 0)) = 2 ∧ (S 7 (S 1020 0)) = (24 : Int) then 1 else 0)) (t := 84) rfl rfl (fun hc => ?_) (fun hc => ?_)
                  · have h := h.1 (sv_iten hc)
                    refine sv_iconst (d := (0 : Int)) hM dX12_isPrefix_84 rfl rfl ?_
                    exact sv_iret hM dX12_isPrefix_85 rfl (sv_nz (⟨by decide, by decide⟩ : 0 ≤ (0 : Int) ∧ (0 : Int) ≤ 1)) ⟨congrArg (fun z => some (sv_I z)) h, rfl⟩
                  · have h := h.2 (sv_itep hc)
                    refine sv_iconst (d := (1 : Int)) hM dX12_isPrefix_80 rfl rfl ?_
                    refine sv_goto hM dX12_isPrefix_81 (pc' := 85) rfl ?_
                    exact sv_iret hM dX12_isPrefix_85 rfl (sv_nz (⟨by decide, by decide⟩ : 0 ≤ (1 : Int) ∧ (1 : Int) ≤ 1)) ⟨congrArg (fun z => some (sv_I z)) h, rfl⟩
def q_beginsExpression (S : sv_S) : Option Value → sv_S → Prop := fun v S' => ∃ r : Int, v = some (sv_I r) ∧ sv_R r ∧ sm_ok S' ∧ sv_mod [] S S' ∧ ((r = 0 ∨ r = 1) ∧ (r = 1 → 1 ≤ (S' 6 (S' 1020 0)) ∧ (S' 6 (S' 1020 0)) ≤ 5))
set_option maxHeartbeats 2000000 in
theorem f_beginsExpression : ∀ (S : sv_S), sm_ok S → (0 ≤ (S 1020 0) ∧ (S 1020 0) ≤ 4000) → (sv_R (S 1020 0) → (0 ≤ (S 1020 0) ∧ (S 1020 0) < 4002) ∧ (sv_R (S 6 (S 1020 0)) → ((((S 6 (S 1020 0)) = (1 : Int)) → (((1 : Int) = 0 ∨ (1 : Int) = 1) ∧ ((1 : Int) = 1 → 1 ≤ (S 6 (S 1020 0)) ∧ (S 6 (S 1020 0)) ≤ 5))) ∧ ((¬ ((S 6 (S 1020 0)) = (1 : Int))) → ((((S 6 (S 1020 0)) = (3 : Int)) → (((1 : Int) = 0 ∨ (1 : Int) = 1) ∧ ((1 : Int) = 1 → 1 ≤ (S 6 (S 1020 0)) ∧ (S 6 (S 1020 0)) ≤ 5))) ∧ ((¬ ((S 6 (S 1020 0)) = (3 : Int))) → (((¬ (S 6 (S 1020 0)) = (4 : Int)) → (((¬ (S 6 (S 1020 0)) = (5 : Int)) → ((((S 6 (S 1020 0)) = (2 : Int)) → (0 ≤ (S 1020 0) ∧ (S 1020 0) ≤ 4000) ∧ ((((((S 6 (S 1020 0)) = 5 ∧ ((S 7 (S 1020 0)) = 35 ∨ (S 7 (S 1020 0)) = 36 ∨ (S 7 (S 1020 0)) = 44 ∨ (S 7 (S 1020 0)) = 43 ∨ (S 7 (S 1020 0)) = 10 ∨ (S 7 (S 1020 0)) = 11)) ∨ ((S 6 (S 1020 0)) = 2 ∧ ((S 7 (S 1020 0)) = 5 ∨ (S 7 (S 1020 0)) = 27 ∨ (S 7 (S 1020 0)) = 24)))) → (((1 : Int) = 0 ∨ (1 : Int) = 1) ∧ ((1 : Int) = 1 → 1 ≤ (S 6 (S 1020 0)) ∧ (S 6 (S 1020 0)) ≤ 5))) ∧ ((¬ ((((S 6 (S 1020 0)) = 5 ∧ ((S 7 (S 1020 0)) = 35 ∨ (S 7 (S 1020 0)) = 36 ∨ (S 7 (S 1020 0)) = 44 ∨ (S 7 (S 1020 0)) = 43 ∨ (S 7 (S 1020 0)) = 10 ∨ (S 7 (S 1020 0)) = 11)) ∨ ((S 6 (S 1020 0)) = 2 ∧ ((S 7 (S 1020 0)) = 5 ∨ (S 7 (S 1020 0)) = 27 ∨ (S 7 (S 1020 0)) = 24))))) → ((((S 6 (S 1020 0)) = 2 ∧ (S 7 (S 1020 0)) = (20 : Int)) → (((1 : Int) = 0 ∨ (1 : Int) = 1) ∧ ((1 : Int) = 1 → 1 ≤ (S 6 (S 1020 0)) ∧ (S 6 (S 1020 0)) ≤ 5))) ∧ ((¬ ((S 6 (S 1020 0)) = 2 ∧ (S 7 (S 1020 0)) = (20 : Int))) → ((((S 6 (S 1020 0)) = 2 ∧ (S 7 (S 1020 0)) = (16 : Int)) → (((1 : Int) = 0 ∨ (1 : Int) = 1) ∧ ((1 : Int) = 1 → 1 ≤ (S 6 (S 1020 0)) ∧ (S 6 (S 1020 0)) ≤ 5))) ∧ ((¬ ((S 6 (S 1020 0)) = 2 ∧ (S 7 (S 1020 0)) = (16 : Int))) → ((((S 6 (S 1020 0)) = 2 ∧ (S 7 (S 1020 0)) = (11 : Int)) → (((1 : Int) = 0 ∨ (1 : Int) = 1) ∧ ((1 : Int) = 1 → 1 ≤ (S 6 (S 1020 0)) ∧ (S 6 (S 1020 0)) ≤ 5))) ∧ ((¬ ((S 6 (S 1020 0)) = 2 ∧ (S 7 (S 1020 0)) = (11 : Int))) → (((¬ ((S 6 (S 1020 0)) = 2 ∧ ((S 7 (S 1020 0)) = 22 ∨ (S 7 (S 1020 0)) = 8 ∨ (S 7 (S 1020 0)) = 17 ∨ (S 7 (S 1020 0)) = 25 ∨ (S 7 (S 1020 0)) = 15))) → (((0 : Int) = 0 ∨ (0 : Int) = 1) ∧ ((0 : Int) = 1 → 1 ≤ (S 6 (S 1020 0)) ∧ (S 6 (S 1020 0)) ≤ 5))) ∧ (((S 6 (S 1020 0)) = 2 ∧ ((S 7 (S 1020 0)) = 22 ∨ (S 7 (S 1020 0)) = 8 ∨ (S 7 (S 1020 0)) = 17 ∨ (S 7 (S 1020 0)) = 25 ∨ (S 7 (S 1020 0)) = 15)) → (((1 : Int) = 0 ∨ (1 : Int) = 1) ∧ ((1 : Int) = 1 → 1 ≤ (S 6 (S 1020 0)) ∧ (S 6 (S 1020 0)) ≤ 5))))))))))))) ∧ ((¬ ((S 6 (S 1020 0)) = (2 : Int))) → (((0 : Int) = 0 ∨ (0 : Int) = 1) ∧ ((0 : Int) = 1 → 1 ≤ (S 6 (S 1020 0)) ∧ (S 6 (S 1020 0)) ≤ 5))))) ∧ ((¬ (¬ (S 6 (S 1020 0)) = (5 : Int))) → (0 ≤ (S 1020 0) ∧ (S 1020 0) ≤ 4000) ∧ ((((S 6 (S 1020 0)) = 5 ∧ (S 7 (S 1020 0)) = (26 : Int)) → (((1 : Int) = 0 ∨ (1 : Int) = 1) ∧ ((1 : Int) = 1 → 1 ≤ (S 6 (S 1020 0)) ∧ (S 6 (S 1020 0)) ≤ 5))) ∧ ((¬ ((S 6 (S 1020 0)) = 5 ∧ (S 7 (S 1020 0)) = (26 : Int))) → ((((S 6 (S 1020 0)) = 5 ∧ (S 7 (S 1020 0)) = (28 : Int)) → (((1 : Int) = 0 ∨ (1 : Int) = 1) ∧ ((1 : Int) = 1 → 1 ≤ (S 6 (S 1020 0)) ∧ (S 6 (S 1020 0)) ≤ 5))) ∧ ((¬ ((S 6 (S 1020 0)) = 5 ∧ (S 7 (S 1020 0)) = (28 : Int))) → ((((S 6 (S 1020 0)) = 5 ∧ (S 7 (S 1020 0)) = (24 : Int)) → (((1 : Int) = 0 ∨ (1 : Int) = 1) ∧ ((1 : Int) = 1 → 1 ≤ (S 6 (S 1020 0)) ∧ (S 6 (S 1020 0)) ≤ 5))) ∧ ((¬ ((S 6 (S 1020 0)) = 5 ∧ (S 7 (S 1020 0)) = (24 : Int))) → (((¬ ((((S 6 (S 1020 0)) = 5 ∧ ((S 7 (S 1020 0)) = 35 ∨ (S 7 (S 1020 0)) = 36 ∨ (S 7 (S 1020 0)) = 44 ∨ (S 7 (S 1020 0)) = 43 ∨ (S 7 (S 1020 0)) = 10 ∨ (S 7 (S 1020 0)) = 11)) ∨ ((S 6 (S 1020 0)) = 2 ∧ ((S 7 (S 1020 0)) = 5 ∨ (S 7 (S 1020 0)) = 27 ∨ (S 7 (S 1020 0)) = 24))))) → (((0 : Int) = 0 ∨ (0 : Int) = 1) ∧ ((0 : Int) = 1 → 1 ≤ (S 6 (S 1020 0)) ∧ (S 6 (S 1020 0)) ≤ 5))) ∧ (((((S 6 (S 1020 0)) = 5 ∧ ((S 7 (S 1020 0)) = 35 ∨ (S 7 (S 1020 0)) = 36 ∨ (S 7 (S 1020 0)) = 44 ∨ (S 7 (S 1020 0)) = 43 ∨ (S 7 (S 1020 0)) = 10 ∨ (S 7 (S 1020 0)) = 11)) ∨ ((S 6 (S 1020 0)) = 2 ∧ ((S 7 (S 1020 0)) = 5 ∨ (S 7 (S 1020 0)) = 27 ∨ (S 7 (S 1020 0)) = 24)))) → (((1 : Int) = 0 ∨ (1 : Int) = 1) ∧ ((1 : Int) = 1 → 1 ≤ (S 6 (S 1020 0)) ∧ (S 6 (S 1020 0)) ≤ 5))))))))))))) ∧ ((¬ (¬ (S 6 (S 1020 0)) = (4 : Int))) → (((1 : Int) = 0 ∨ (1 : Int) = 1) ∧ ((1 : Int) = 1 → 1 ≤ (S 6 (S 1020 0)) ∧ (S 6 (S 1020 0)) ≤ 5)))))))))) := by
  intro S hok hpre
  repeat' (first | (with_reducible refine And.intro ?_ ?_) | (with_reducible intro _))
  all_goals first | assumption | omega | grind
set_option maxRecDepth 8000 in
set_option maxHeartbeats 2000000 in
theorem t_beginsExpression : ∀ (S : sv_S), sm_ok S → (0 ≤ (S 1020 0) ∧ (S 1020 0) ≤ 4000) → sv_T sm_XS sm_cs sm_L sm_sh 2 (q_beginsExpression S) 39 0 (lv_args 0 [.ref 0]) [] S := by
  intro S hok hpre
  have h := f_beginsExpression S hok hpre
  have hM := sm_h39
  show sv_T sm_XS sm_cs sm_L sm_sh 2 (q_beginsExpression S) 39 0 [(0, .ref 0)] [] S
  refine sv_aload_n hM dX12_beginsExpression_0 rfl rfl ?_
  refine sv_getA hM dX12_beginsExpression_1 sm_fl_27 (sm_a0 _) sm_k13 rfl ?_
  refine sv_aload_n hM dX12_beginsExpression_4 rfl rfl ?_
  have k1 : sv_R (S 1020 0) := sm_okI hok sm_r1020 0
  have h := h k1
  refine sv_getI hM dX12_beginsExpression_5 sm_fl_392 (sm_a0 _) sm_k20 rfl (x := (S 1020 0)) rfl ?_
  obtain ⟨o2, h⟩ := h
  have k3 : sv_R (S 6 (S 1020 0)) := sm_okI hok sm_r6 (S 1020 0)
  have h := h k3
  refine sv_iald hM dX12_beginsExpression_8 (sm_a6 _) (by decide) o2.1 o2.2 rfl (x := (S 6 (S 1020 0))) rfl ?_
  refine sv_iconst (d := (1 : Int)) hM dX12_beginsExpression_9 rfl rfl ?_
  refine sv_icmp_eq hM dX12_beginsExpression_10 k3 (⟨by decide, by decide⟩ : sv_R (1 : Int)) (t := 39) rfl rfl (fun hc => ?_) (fun hc => ?_)
  · have h := h.1 (hc)
    refine sv_iconst (d := (1 : Int)) hM dX12_beginsExpression_39 rfl rfl ?_
    exact sv_iret hM dX12_beginsExpression_40 rfl (sv_nz (⟨by decide, by decide⟩ : 0 ≤ (1 : Int) ∧ (1 : Int) ≤ 1)) ⟨(1 : Int), rfl, sv_R01 (⟨by decide, by decide⟩ : 0 ≤ (1 : Int) ∧ (1 : Int) ≤ 1), hok, sv_mod.rf, h⟩
  · have h := h.2 (hc)
    refine sv_aload_n hM dX12_beginsExpression_13 rfl rfl ?_
    refine sv_getA hM dX12_beginsExpression_14 sm_fl_27 (sm_a0 _) sm_k13 rfl ?_
    refine sv_aload_n hM dX12_beginsExpression_17 rfl rfl ?_
    refine sv_getI hM dX12_beginsExpression_18 sm_fl_392 (sm_a0 _) sm_k20 rfl (x := (S 1020 0)) rfl ?_
    refine sv_iald hM dX12_beginsExpression_21 (sm_a6 _) (by decide) o2.1 o2.2 rfl (x := (S 6 (S 1020 0))) rfl ?_
    refine sv_iconst (d := (3 : Int)) hM dX12_beginsExpression_22 rfl rfl ?_
    refine sv_icmp_eq hM dX12_beginsExpression_23 k3 (⟨by decide, by decide⟩ : sv_R (3 : Int)) (t := 39) rfl rfl (fun hc => ?_) (fun hc => ?_)
    · have h := h.1 (hc)
      refine sv_iconst (d := (1 : Int)) hM dX12_beginsExpression_39 rfl rfl ?_
      exact sv_iret hM dX12_beginsExpression_40 rfl (sv_nz (⟨by decide, by decide⟩ : 0 ≤ (1 : Int) ∧ (1 : Int) ≤ 1)) ⟨(1 : Int), rfl, sv_R01 (⟨by decide, by decide⟩ : 0 ≤ (1 : Int) ∧ (1 : Int) ≤ 1), hok, sv_mod.rf, h⟩
    · have h := h.2 (hc)
      refine sv_aload_n hM dX12_beginsExpression_26 rfl rfl ?_
      refine sv_getA hM dX12_beginsExpression_27 sm_fl_27 (sm_a0 _) sm_k13 rfl ?_
      refine sv_aload_n hM dX12_beginsExpression_30 rfl rfl ?_
      refine sv_getI hM dX12_beginsExpression_31 sm_fl_392 (sm_a0 _) sm_k20 rfl (x := (S 1020 0)) rfl ?_
      refine sv_iald hM dX12_beginsExpression_34 (sm_a6 _) (by decide) o2.1 o2.2 rfl (x := (S 6 (S 1020 0))) rfl ?_
      refine sv_iconst (d := (4 : Int)) hM dX12_beginsExpression_35 rfl rfl ?_
      refine sv_icmp_ne hM dX12_beginsExpression_36 k3 (⟨by decide, by decide⟩ : sv_R (4 : Int)) (t := 41) rfl rfl (fun hc => ?_) (fun hc => ?_)
      · have h := h.1 (hc)
        refine sv_aload_n hM dX12_beginsExpression_41 rfl rfl ?_
        refine sv_getA hM dX12_beginsExpression_42 sm_fl_27 (sm_a0 _) sm_k13 rfl ?_
        refine sv_aload_n hM dX12_beginsExpression_45 rfl rfl ?_
        refine sv_getI hM dX12_beginsExpression_46 sm_fl_392 (sm_a0 _) sm_k20 rfl (x := (S 1020 0)) rfl ?_
        refine sv_iald hM dX12_beginsExpression_49 (sm_a6 _) (by decide) o2.1 o2.2 rfl (x := (S 6 (S 1020 0))) rfl ?_
        refine sv_iconst (d := (5 : Int)) hM dX12_beginsExpression_50 rfl rfl ?_
        refine sv_icmp_ne hM dX12_beginsExpression_51 k3 (⟨by decide, by decide⟩ : sv_R (5 : Int)) (t := 94) rfl rfl (fun hc => ?_) (fun hc => ?_)
        · have h := h.1 (hc)
          refine sv_aload_n hM dX12_beginsExpression_94 rfl rfl ?_
          refine sv_getA hM dX12_beginsExpression_95 sm_fl_27 (sm_a0 _) sm_k13 rfl ?_
          refine sv_aload_n hM dX12_beginsExpression_98 rfl rfl ?_
          refine sv_getI hM dX12_beginsExpression_99 sm_fl_392 (sm_a0 _) sm_k20 rfl (x := (S 1020 0)) rfl ?_
          refine sv_iald hM dX12_beginsExpression_102 (sm_a6 _) (by decide) o2.1 o2.2 rfl (x := (S 6 (S 1020 0))) rfl ?_
          refine sv_iconst (d := (2 : Int)) hM dX12_beginsExpression_103 rfl rfl ?_
          refine sv_icmp_eq hM dX12_beginsExpression_104 k3 (⟨by decide, by decide⟩ : sv_R (2 : Int)) (t := 109) rfl rfl (fun hc => ?_) (fun hc => ?_)
          · have h := h.1 (hc)
            refine sv_aload_n hM dX12_beginsExpression_109 rfl rfl ?_
            obtain ⟨o4, h⟩ := h
            refine sv_callV hM dX12_beginsExpression_110 sm_iv_433 (by decide) (sm_a0 _) rfl rfl (Nat.le_of_ble_eq_true rfl) sm_h41 (Nat.le_of_ble_eq_true rfl) (Nat.le_of_ble_eq_true rfl) (F' := 1) (Nat.le_of_ble_eq_true rfl) rfl (t_isPrefix  S hok o4) (fun v S1 hq => ?_)
            obtain ⟨rfl, hS1⟩ := hq
            obtain rfl : S = S1 := hS1.symm
            show sv_T sm_XS sm_cs sm_L sm_sh 2 (q_beginsExpression S) 39 113 [(0, .ref 0)] [sv_I (if (((S 6 (S 1020 0)) = 5 ∧ ((S 7 (S 1020 0)) = 35 ∨ (S 7 (S 1020 0)) = 36 ∨ (S 7 (S 1020 0)) = 44 ∨ (S 7 (S 1020 0)) = 43 ∨ (S 7 (S 1020 0)) = 10 ∨ (S 7 (S 1020 0)) = 11)) ∨ ((S 6 (S 1020 0)) = 2 ∧ ((S 7 (S 1020 0)) = 5 ∨ (S 7 (S 1020 0)) = 27 ∨ (S 7 (S 1020 0)) = 24))) then 1 else 0)] S
            refine sv_cond_ne hM dX12_beginsExpression_113 (sv_Rite : sv_R (if (((S 6 (S 1020 0)) = 5 ∧ ((S 7 (S 1020 0)) = 35 ∨ (S 7 (S 1020 0)) = 36 ∨ (S 7 (S 1020 0)) = 44 ∨ (S 7 (S 1020 0)) = 43 ∨ (S 7 (S 1020 0)) = 10 ∨ (S 7 (S 1020 0)) = 11)) ∨ ((S 6 (S 1020 0)) = 2 ∧ ((S 7 (S 1020 0)) = 5 ∨ (S 7 (S 1020 0)) = 27 ∨ (S 7 (S 1020 0)) = 24))) then 1 else 0)) (t := 150) rfl rfl (fun hc => ?_) (fun hc => ?_)
            · have h := h.1 (sv_itep hc)
              refine sv_iconst (d := (1 : Int)) hM dX12_beginsExpression_150 rfl rfl ?_
              refine sv_goto hM dX12_beginsExpression_151 (pc' := 155) rfl ?_
              exact sv_iret hM dX12_beginsExpression_155 rfl (sv_nz (⟨by decide, by decide⟩ : 0 ≤ (1 : Int) ∧ (1 : Int) ≤ 1)) ⟨(1 : Int), rfl, sv_R01 (⟨by decide, by decide⟩ : 0 ≤ (1 : Int) ∧ (1 : Int) ≤ 1), hok, sv_mod.rf, h⟩
            · have h := h.2 (fun q => hc (by rw [if_pos q]; decide))
              refine sv_aload_n hM dX12_beginsExpression_116 rfl rfl ?_
              refine sv_bipush (d := (20 : Int)) hM dX12_beginsExpression_117 rfl rfl ?_
              refine sv_callV hM dX12_beginsExpression_119 sm_iv_404 (by decide) (sm_a0 _) rfl rfl (Nat.le_of_ble_eq_true rfl) sm_h25 (Nat.le_of_ble_eq_true rfl) (Nat.le_of_ble_eq_true rfl) (F' := 0) (Nat.le_of_ble_eq_true rfl) rfl (t_isKeyword (20 : Int) S hok (⟨by decide, by decide⟩ : sv_R (20 : Int)) o4) (fun v S1 hq => ?_)
              obtain ⟨rfl, hS1⟩ := hq
              obtain rfl : S = S1 := hS1.symm
              show sv_T sm_XS sm_cs sm_L sm_sh 2 (q_beginsExpression S) 39 122 [(0, .ref 0)] [sv_I (if (S 6 (S 1020 0)) = 2 ∧ (S 7 (S 1020 0)) = (20 : Int) then 1 else 0)] S
              refine sv_cond_ne hM dX12_beginsExpression_122 (sv_Rite : sv_R (if (S 6 (S 1020 0)) = 2 ∧ (S 7 (S 1020 0)) = (20 : Int) then 1 else 0)) (t := 150) rfl rfl (fun hc => ?_) (fun hc => ?_)
              · have h := h.1 (sv_itep hc)
                refine sv_iconst (d := (1 : Int)) hM dX12_beginsExpression_150 rfl rfl ?_
                refine sv_goto hM dX12_beginsExpression_151 (pc' := 155) rfl ?_
                exact sv_iret hM dX12_beginsExpression_155 rfl (sv_nz (⟨by decide, by decide⟩ : 0 ≤ (1 : Int) ∧ (1 : Int) ≤ 1)) ⟨(1 : Int), rfl, sv_R01 (⟨by decide, by decide⟩ : 0 ≤ (1 : Int) ∧ (1 : Int) ≤ 1), hok, sv_mod.rf, h⟩
              · have h := h.2 (fun q => hc (by rw [if_pos q]; decide))
                refine sv_aload_n hM dX12_beginsExpression_125 rfl rfl ?_
                refine sv_bipush (d := (16 : Int)) hM dX12_beginsExpression_126 rfl rfl ?_
                refine sv_callV hM dX12_beginsExpression_128 sm_iv_404 (by decide) (sm_a0 _) rfl rfl (Nat.le_of_ble_eq_true rfl) sm_h25 (Nat.le_of_ble_eq_true rfl) (Nat.le_of_ble_eq_true rfl) (F' := 0) (Nat.le_of_ble_eq_true rfl) rfl (t_isKeyword (16 : Int) S hok (⟨by decide, by decide⟩ : sv_R (16 : Int)) o4) (fun v S1 hq => ?_)
                obtain ⟨rfl, hS1⟩ := hq
                obtain rfl : S = S1 := hS1.symm
                show sv_T sm_XS sm_cs sm_L sm_sh 2 (q_beginsExpression S) 39 131 [(0, .ref 0)] [sv_I (if (S 6 (S 1020 0)) = 2 ∧ (S 7 (S 1020 0)) = (16 : Int) then 1 else 0)] S
                refine sv_cond_ne hM dX12_beginsExpression_131 (sv_Rite : sv_R (if (S 6 (S 1020 0)) = 2 ∧ (S 7 (S 1020 0)) = (16 : Int) then 1 else 0)) (t := 150) rfl rfl (fun hc => ?_) (fun hc => ?_)
                · have h := h.1 (sv_itep hc)
                  refine sv_iconst (d := (1 : Int)) hM dX12_beginsExpression_150 rfl rfl ?_
                  refine sv_goto hM dX12_beginsExpression_151 (pc' := 155) rfl ?_
                  exact sv_iret hM dX12_beginsExpression_155 rfl (sv_nz (⟨by decide, by decide⟩ : 0 ≤ (1 : Int) ∧ (1 : Int) ≤ 1)) ⟨(1 : Int), rfl, sv_R01 (⟨by decide, by decide⟩ : 0 ≤ (1 : Int) ∧ (1 : Int) ≤ 1), hok, sv_mod.rf, h⟩
                · have h := h.2 (fun q => hc (by rw [if_pos q]; decide))
                  refine sv_aload_n hM dX12_beginsExpression_134 rfl rfl ?_
                  refine sv_bipush (d := (11 : Int)) hM dX12_beginsExpression_135 rfl rfl ?_
                  refine sv_callV hM dX12_beginsExpression_137 sm_iv_404 (by decide) (sm_a0 _) rfl rfl (Nat.le_of_ble_eq_true rfl) sm_h25 (Nat.le_of_ble_eq_true rfl) (Nat.le_of_ble_eq_true rfl) (F' := 0) (Nat.le_of_ble_eq_true rfl) rfl (t_isKeyword (11 : Int) S hok (⟨by decide, by decide⟩ : sv_R (11 : Int)) o4) (fun v S1 hq => ?_)
                  obtain ⟨rfl, hS1⟩ := hq
                  obtain rfl : S = S1 := hS1.symm
                  show sv_T sm_XS sm_cs sm_L sm_sh 2 (q_beginsExpression S) 39 140 [(0, .ref 0)] [sv_I (if (S 6 (S 1020 0)) = 2 ∧ (S 7 (S 1020 0)) = (11 : Int) then 1 else 0)] S
                  refine sv_cond_ne hM dX12_beginsExpression_140 (sv_Rite : sv_R (if (S 6 (S 1020 0)) = 2 ∧ (S 7 (S 1020 0)) = (11 : Int) then 1 else 0)) (t := 150) rfl rfl (fun hc => ?_) (fun hc => ?_)
                  · have h := h.1 (sv_itep hc)
                    refine sv_iconst (d := (1 : Int)) hM dX12_beginsExpression_150 rfl rfl ?_
                    refine sv_goto hM dX12_beginsExpression_151 (pc' := 155) rfl ?_
                    exact sv_iret hM dX12_beginsExpression_155 rfl (sv_nz (⟨by decide, by decide⟩ : 0 ≤ (1 : Int) ∧ (1 : Int) ≤ 1)) ⟨(1 : Int), rfl, sv_R01 (⟨by decide, by decide⟩ : 0 ≤ (1 : Int) ∧ (1 : Int) ≤ 1), hok, sv_mod.rf, h⟩
                  · have h := h.2 (fun q => hc (by rw [if_pos q]; decide))
                    refine sv_aload_n hM dX12_beginsExpression_143 rfl rfl ?_
                    refine sv_callV hM dX12_beginsExpression_144 sm_iv_436 (by decide) (sm_a0 _) rfl rfl (Nat.le_of_ble_eq_true rfl) sm_h40 (Nat.le_of_ble_eq_true rfl) (Nat.le_of_ble_eq_true rfl) (F' := 1) (Nat.le_of_ble_eq_true rfl) rfl (t_isLiteral  S hok o4) (fun v S1 hq => ?_)
                    obtain ⟨rfl, hS1⟩ := hq
                    obtain rfl : S = S1 := hS1.symm
                    show sv_T sm_XS sm_cs sm_L sm_sh 2 (q_beginsExpression S) 39 147 [(0, .ref 0)] [sv_I (if (S 6 (S 1020 0)) = 2 ∧ ((S 7 (S 1020 0)) = 22 ∨ (S 7 (S 1020 0)) = 8 ∨ (S 7 (S 1020 0)) = 17 ∨ (S 7 (S 1020 0)) = 25 ∨ (S 7 (S 1020 0)) = 15) then 1 else 0)] S
                    refine sv_cond_eq hM dX12_beginsExpression_147 (sv_Rite : sv_R (if (S 6 (S 1020 0)) = 2 ∧ ((S 7 (S 1020 0)) = 22 ∨ (S 7 (S 1020 0)) = 8 ∨ (S 7 (S 1020 0)) = 17 ∨ (S 7 (S 1020 0)) = 25 ∨ (S 7 (S 1020 0)) = 15) then 1 else 0)) (t := 154) rfl rfl (fun hc => ?_) (fun hc => ?_)
                    · have h := h.1 (sv_iten hc)
                      refine sv_iconst (d := (0 : Int)) hM dX12_beginsExpression_154 rfl rfl ?_
                      exact sv_iret hM dX12_beginsExpression_155 rfl (sv_nz (⟨by decide, by decide⟩ : 0 ≤ (0 : Int) ∧ (0 : Int) ≤ 1)) ⟨(0 : Int), rfl, sv_R01 (⟨by decide, by decide⟩ : 0 ≤ (0 : Int) ∧ (0 : Int) ≤ 1), hok, sv_mod.rf, h⟩
                    · have h := h.2 (sv_itep hc)
                      refine sv_iconst (d := (1 : Int)) hM dX12_beginsExpression_150 rfl rfl ?_
                      refine sv_goto hM dX12_beginsExpression_151 (pc' := 155) rfl ?_
                      exact sv_iret hM dX12_beginsExpression_155 rfl (sv_nz (⟨by decide, by decide⟩ : 0 ≤ (1 : Int) ∧ (1 : Int) ≤ 1)) ⟨(1 : Int), rfl, sv_R01 (⟨by decide, by decide⟩ : 0 ≤ (1 : Int) ∧ (1 : Int) ≤ 1), hok, sv_mod.rf, h⟩
          · have h := h.2 (hc)
            refine sv_iconst (d := (0 : Int)) hM dX12_beginsExpression_107 rfl rfl ?_
            exact sv_iret hM dX12_beginsExpression_108 rfl (sv_nz (⟨by decide, by decide⟩ : 0 ≤ (0 : Int) ∧ (0 : Int) ≤ 1)) ⟨(0 : Int), rfl, sv_R01 (⟨by decide, by decide⟩ : 0 ≤ (0 : Int) ∧ (0 : Int) ≤ 1), hok, sv_mod.rf, h⟩
        · have h := h.2 (hc)
          refine sv_aload_n hM dX12_beginsExpression_54 rfl rfl ?_
          refine sv_bipush (d := (26 : Int)) hM dX12_beginsExpression_55 rfl rfl ?_
          obtain ⟨o5, h⟩ := h
          refine sv_callV hM dX12_beginsExpression_57 sm_iv_398 (by decide) (sm_a0 _) rfl rfl (Nat.le_of_ble_eq_true rfl) sm_h24 (Nat.le_of_ble_eq_true rfl) (Nat.le_of_ble_eq_true rfl) (F' := 0) (Nat.le_of_ble_eq_true rfl) rfl (t_isSign (26 : Int) S hok (⟨by decide, by decide⟩ : sv_R (26 : Int)) o5) (fun v S1 hq => ?_)
          obtain ⟨rfl, hS1⟩ := hq
          obtain rfl : S = S1 := hS1.symm
          show sv_T sm_XS sm_cs sm_L sm_sh 2 (q_beginsExpression S) 39 60 [(0, .ref 0)] [sv_I (if (S 6 (S 1020 0)) = 5 ∧ (S 7 (S 1020 0)) = (26 : Int) then 1 else 0)] S
          refine sv_cond_ne hM dX12_beginsExpression_60 (sv_Rite : sv_R (if (S 6 (S 1020 0)) = 5 ∧ (S 7 (S 1020 0)) = (26 : Int) then 1 else 0)) (t := 88) rfl rfl (fun hc => ?_) (fun hc => ?_)
          · have h := h.1 (sv_itep hc)
            refine sv_iconst (d := (1 : Int)) hM dX12_beginsExpression_88 rfl rfl ?_
            refine sv_goto hM dX12_beginsExpression_89 (pc' := 93) rfl ?_
            exact sv_iret hM dX12_beginsExpression_93 rfl (sv_nz (⟨by decide, by decide⟩ : 0 ≤ (1 : Int) ∧ (1 : Int) ≤ 1)) ⟨(1 : Int), rfl, sv_R01 (⟨by decide, by decide⟩ : 0 ≤ (1 : Int) ∧ (1 : Int) ≤ 1), hok, sv_mod.rf, h⟩
          · have h := h.2 (fun q => hc (by rw [if_pos q]; decide))
            refine sv_aload_n hM dX12_beginsExpression_63 rfl rfl ?_
            refine sv_bipush (d := (28 : Int)) hM dX12_beginsExpression_64 rfl rfl ?_
            refine sv_callV hM dX12_beginsExpression_66 sm_iv_398 (by decide) (sm_a0 _) rfl rfl (Nat.le_of_ble_eq_true rfl) sm_h24 (Nat.le_of_ble_eq_true rfl) (Nat.le_of_ble_eq_true rfl) (F' := 0) (Nat.le_of_ble_eq_true rfl) rfl (t_isSign (28 : Int) S hok (⟨by decide, by decide⟩ : sv_R (28 : Int)) o5) (fun v S1 hq => ?_)
            obtain ⟨rfl, hS1⟩ := hq
            obtain rfl : S = S1 := hS1.symm
            show sv_T sm_XS sm_cs sm_L sm_sh 2 (q_beginsExpression S) 39 69 [(0, .ref 0)] [sv_I (if (S 6 (S 1020 0)) = 5 ∧ (S 7 (S 1020 0)) = (28 : Int) then 1 else 0)] S
            refine sv_cond_ne hM dX12_beginsExpression_69 (sv_Rite : sv_R (if (S 6 (S 1020 0)) = 5 ∧ (S 7 (S 1020 0)) = (28 : Int) then 1 else 0)) (t := 88) rfl rfl (fun hc => ?_) (fun hc => ?_)
            · have h := h.1 (sv_itep hc)
              refine sv_iconst (d := (1 : Int)) hM dX12_beginsExpression_88 rfl rfl ?_
              refine sv_goto hM dX12_beginsExpression_89 (pc' := 93) rfl ?_
              exact sv_iret hM dX12_beginsExpression_93 rfl (sv_nz (⟨by decide, by decide⟩ : 0 ≤ (1 : Int) ∧ (1 : Int) ≤ 1)) ⟨(1 : Int), rfl, sv_R01 (⟨by decide, by decide⟩ : 0 ≤ (1 : Int) ∧ (1 : Int) ≤ 1), hok, sv_mod.rf, h⟩
            · have h := h.2 (fun q => hc (by rw [if_pos q]; decide))
              refine sv_aload_n hM dX12_beginsExpression_72 rfl rfl ?_
              refine sv_bipush (d := (24 : Int)) hM dX12_beginsExpression_73 rfl rfl ?_
              refine sv_callV hM dX12_beginsExpression_75 sm_iv_398 (by decide) (sm_a0 _) rfl rfl (Nat.le_of_ble_eq_true rfl) sm_h24 (Nat.le_of_ble_eq_true rfl) (Nat.le_of_ble_eq_true rfl) (F' := 0) (Nat.le_of_ble_eq_true rfl) rfl (t_isSign (24 : Int) S hok (⟨by decide, by decide⟩ : sv_R (24 : Int)) o5) (fun v S1 hq => ?_)
              obtain ⟨rfl, hS1⟩ := hq
              obtain rfl : S = S1 := hS1.symm
              show sv_T sm_XS sm_cs sm_L sm_sh 2 (q_beginsExpression S) 39 78 [(0, .ref 0)] [sv_I (if (S 6 (S 1020 0)) = 5 ∧ (S 7 (S 1020 0)) = (24 : Int) then 1 else 0)] S
              refine sv_cond_ne hM dX12_beginsExpression_78 (sv_Rite : sv_R (if (S 6 (S 1020 0)) = 5 ∧ (S 7 (S 1020 0)) = (24 : Int) then 1 else 0)) (t := 88) rfl rfl (fun hc => ?_) (fun hc => ?_)
              · have h := h.1 (sv_itep hc)
                refine sv_iconst (d := (1 : Int)) hM dX12_beginsExpression_88 rfl rfl ?_
                refine sv_goto hM dX12_beginsExpression_89 (pc' := 93) rfl ?_
                exact sv_iret hM dX12_beginsExpression_93 rfl (sv_nz (⟨by decide, by decide⟩ : 0 ≤ (1 : Int) ∧ (1 : Int) ≤ 1)) ⟨(1 : Int), rfl, sv_R01 (⟨by decide, by decide⟩ : 0 ≤ (1 : Int) ∧ (1 : Int) ≤ 1), hok, sv_mod.rf, h⟩
              · have h := h.2 (fun q => hc (by rw [if_pos q]; decide))
                refine sv_aload_n hM dX12_beginsExpression_81 rfl rfl ?_
                refine sv_callV hM dX12_beginsExpression_82 sm_iv_433 (by decide) (sm_a0 _) rfl rfl (Nat.le_of_ble_eq_true rfl) sm_h41 (Nat.le_of_ble_eq_true rfl) (Nat.le_of_ble_eq_true rfl) (F' := 1) (Nat.le_of_ble_eq_true rfl) rfl (t_isPrefix  S hok o5) (fun v S1 hq => ?_)
                obtain ⟨rfl, hS1⟩ := hq
                obtain rfl : S = S1 := hS1.symm
                show sv_T sm_XS sm_cs sm_L sm_sh 2 (q_beginsExpression S) 39 85 [(0, .ref 0)] [sv_I (if (((S 6 (S 1020 0)) = 5 ∧ ((S 7 (S 1020 0)) = 35 ∨ (S 7 (S 1020 0)) = 36 ∨ (S 7 (S 1020 0)) = 44 ∨ (S 7 (S 1020 0)) = 43 ∨ (S 7 (S 1020 0)) = 10 ∨ (S 7 (S 1020 0)) = 11)) ∨ ((S 6 (S 1020 0)) = 2 ∧ ((S 7 (S 1020 0)) = 5 ∨ (S 7 (S 1020 0)) = 27 ∨ (S 7 (S 1020 0)) = 24))) then 1 else 0)] S
                refine sv_cond_eq hM dX12_beginsExpression_85 (sv_Rite : sv_R (if (((S 6 (S 1020 0)) = 5 ∧ ((S 7 (S 1020 0)) = 35 ∨ (S 7 (S 1020 0)) = 36 ∨ (S 7 (S 1020 0)) = 44 ∨ (S 7 (S 1020 0)) = 43 ∨ (S 7 (S 1020 0)) = 10 ∨ (S 7 (S 1020 0)) = 11)) ∨ ((S 6 (S 1020 0)) = 2 ∧ ((S 7 (S 1020 0)) = 5 ∨ (S 7 (S 1020 0)) = 27 ∨ (S 7 (S 1020 0)) = 24))) then 1 else 0)) (t := 92) rfl rfl (fun hc => ?_) (fun hc => ?_)
                · have h := h.1 (sv_iten hc)
                  refine sv_iconst (d := (0 : Int)) hM dX12_beginsExpression_92 rfl rfl ?_
                  exact sv_iret hM dX12_beginsExpression_93 rfl (sv_nz (⟨by decide, by decide⟩ : 0 ≤ (0 : Int) ∧ (0 : Int) ≤ 1)) ⟨(0 : Int), rfl, sv_R01 (⟨by decide, by decide⟩ : 0 ≤ (0 : Int) ∧ (0 : Int) ≤ 1), hok, sv_mod.rf, h⟩
                · have h := h.2 (sv_itep hc)
                  refine sv_iconst (d := (1 : Int)) hM dX12_beginsExpression_88 rfl rfl ?_
                  refine sv_goto hM dX12_beginsExpression_89 (pc' := 93) rfl ?_
                  exact sv_iret hM dX12_beginsExpression_93 rfl (sv_nz (⟨by decide, by decide⟩ : 0 ≤ (1 : Int) ∧ (1 : Int) ≤ 1)) ⟨(1 : Int), rfl, sv_R01 (⟨by decide, by decide⟩ : 0 ≤ (1 : Int) ∧ (1 : Int) ≤ 1), hok, sv_mod.rf, h⟩
      · have h := h.2 (hc)
        refine sv_iconst (d := (1 : Int)) hM dX12_beginsExpression_39 rfl rfl ?_
        exact sv_iret hM dX12_beginsExpression_40 rfl (sv_nz (⟨by decide, by decide⟩ : 0 ≤ (1 : Int) ∧ (1 : Int) ≤ 1)) ⟨(1 : Int), rfl, sv_R01 (⟨by decide, by decide⟩ : 0 ≤ (1 : Int) ∧ (1 : Int) ≤ 1), hok, sv_mod.rf, h⟩
def q_beginsStatement (S : sv_S) : Option Value → sv_S → Prop := fun v S' => ∃ r : Int, v = some (sv_I r) ∧ sv_R r ∧ sm_ok S' ∧ sv_mod [] S S' ∧ ((r = 0 ∨ r = 1) ∧ (r = 1 → 1 ≤ (S' 6 (S' 1020 0)) ∧ (S' 6 (S' 1020 0)) ≤ 5))
set_option maxHeartbeats 2000000 in
theorem f_beginsStatement : ∀ (S : sv_S), sm_ok S → (0 ≤ (S 1020 0) ∧ (S 1020 0) ≤ 4000) → (0 ≤ (S 1020 0) ∧ (S 1020 0) ≤ 4000) ∧ ((((S 6 (S 1020 0)) = 5 ∧ (S 7 (S 1020 0)) = (24 : Int)) → (((1 : Int) = 0 ∨ (1 : Int) = 1) ∧ ((1 : Int) = 1 → 1 ≤ (S 6 (S 1020 0)) ∧ (S 6 (S 1020 0)) ≤ 5))) ∧ ((¬ ((S 6 (S 1020 0)) = 5 ∧ (S 7 (S 1020 0)) = (24 : Int))) → (((¬ ((S 6 (S 1020 0)) = 5 ∧ (S 7 (S 1020 0)) = (31 : Int))) → (sv_R (S 1020 0) → (0 ≤ (S 1020 0) ∧ (S 1020 0) < 4002) ∧ (sv_R (S 6 (S 1020 0)) → ((((S 6 (S 1020 0)) = (2 : Int)) → (sv_R (S 7 (S 1020 0)) → ((((S 7 (S 1020 0)) = (26 : Int)) → (((1 : Int) = 0 ∨ (1 : Int) = 1) ∧ ((1 : Int) = 1 → 1 ≤ (S 6 (S 1020 0)) ∧ (S 6 (S 1020 0)) ≤ 5))) ∧ ((¬ ((S 7 (S 1020 0)) = (26 : Int))) → ((((S 7 (S 1020 0)) = (12 : Int)) → (((1 : Int) = 0 ∨ (1 : Int) = 1) ∧ ((1 : Int) = 1 → 1 ≤ (S 6 (S 1020 0)) ∧ (S 6 (S 1020 0)) ≤ 5))) ∧ ((¬ ((S 7 (S 1020 0)) = (12 : Int))) → ((((S 7 (S 1020 0)) = (28 : Int)) → (((1 : Int) = 0 ∨ (1 : Int) = 1) ∧ ((1 : Int) = 1 → 1 ≤ (S 6 (S 1020 0)) ∧ (S 6 (S 1020 0)) ≤ 5))) ∧ ((¬ ((S 7 (S 1020 0)) = (28 : Int))) → ((((S 7 (S 1020 0)) = (6 : Int)) → (((1 : Int) = 0 ∨ (1 : Int) = 1) ∧ ((1 : Int) = 1 → 1 ≤ (S 6 (S 1020 0)) ∧ (S 6 (S 1020 0)) ≤ 5))) ∧ ((¬ ((S 7 (S 1020 0)) = (6 : Int))) → ((((S 7 (S 1020 0)) = (10 : Int)) → (((1 : Int) = 0 ∨ (1 : Int) = 1) ∧ ((1 : Int) = 1 → 1 ≤ (S 6 (S 1020 0)) ∧ (S 6 (S 1020 0)) ≤ 5))) ∧ ((¬ ((S 7 (S 1020 0)) = (10 : Int))) → ((((S 7 (S 1020 0)) = (3 : Int)) → (((1 : Int) = 0 ∨ (1 : Int) = 1) ∧ ((1 : Int) = 1 → 1 ≤ (S 6 (S 1020 0)) ∧ (S 6 (S 1020 0)) ≤ 5))) ∧ ((¬ ((S 7 (S 1020 0)) = (3 : Int))) → ((((S 7 (S 1020 0)) = (0 : Int)) → (((1 : Int) = 0 ∨ (1 : Int) = 1) ∧ ((1 : Int) = 1 → 1 ≤ (S 6 (S 1020 0)) ∧ (S 6 (S 1020 0)) ≤ 5))) ∧ ((¬ ((S 7 (S 1020 0)) = (0 : Int))) → ((((S 7 (S 1020 0)) = (18 : Int)) → (((1 : Int) = 0 ∨ (1 : Int) = 1) ∧ ((1 : Int) = 1 → 1 ≤ (S 6 (S 1020 0)) ∧ (S 6 (S 1020 0)) ≤ 5))) ∧ ((¬ ((S 7 (S 1020 0)) = (18 : Int))) → ((((S 7 (S 1020 0)) = (21 : Int)) → (((1 : Int) = 0 ∨ (1 : Int) = 1) ∧ ((1 : Int) = 1 → 1 ≤ (S 6 (S 1020 0)) ∧ (S 6 (S 1020 0)) ≤ 5))) ∧ ((¬ ((S 7 (S 1020 0)) = (21 : Int))) → ((((S 7 (S 1020 0)) = (23 : Int)) → (((1 : Int) = 0 ∨ (1 : Int) = 1) ∧ ((1 : Int) = 1 → 1 ≤ (S 6 (S 1020 0)) ∧ (S 6 (S 1020 0)) ≤ 5))) ∧ ((¬ ((S 7 (S 1020 0)) = (23 : Int))) → ((((S 7 (S 1020 0)) = (19 : Int)) → (((1 : Int) = 0 ∨ (1 : Int) = 1) ∧ ((1 : Int) = 1 → 1 ≤ (S 6 (S 1020 0)) ∧ (S 6 (S 1020 0)) ≤ 5))) ∧ ((¬ ((S 7 (S 1020 0)) = (19 : Int))) → ((((S 7 (S 1020 0)) = (11 : Int)) → (((0 : Int) = 0 ∨ (0 : Int) = 1) ∧ ((0 : Int) = 1 → 1 ≤ (S 6 (S 1020 0)) ∧ (S 6 (S 1020 0)) ≤ 5))) ∧ ((¬ ((S 7 (S 1020 0)) = (11 : Int))) → (∀ r10 : Int, sv_R r10 → ((r10 = 0 ∨ r10 = 1) ∧ (r10 = 1 → 1 ≤ (S 6 (S 1020 0)) ∧ (S 6 (S 1020 0)) ≤ 5)) → (((r10 = (0 : Int)) → (((0 : Int) = 0 ∨ (0 : Int) = 1) ∧ ((0 : Int) = 1 → 1 ≤ (S 6 (S 1020 0)) ∧ (S 6 (S 1020 0)) ≤ 5))) ∧ ((¬ (r10 = (0 : Int))) → (((1 : Int) = 0 ∨ (1 : Int) = 1) ∧ ((1 : Int) = 1 → 1 ≤ (S 6 (S 1020 0)) ∧ (S 6 (S 1020 0)) ≤ 5))))))))))))))))))))))))))))))) ∧ ((¬ ((S 6 (S 1020 0)) = (2 : Int))) → (∀ r15 : Int, sv_R r15 → ((r15 = 0 ∨ r15 = 1) ∧ (r15 = 1 → 1 ≤ (S 6 (S 1020 0)) ∧ (S 6 (S 1020 0)) ≤ 5)) → (0 ≤ r15 ∧ r15 ≤ 1) ∧ ((r15 = 0 ∨ r15 = 1) ∧ (r15 = 1 → 1 ≤ (S 6 (S 1020 0)) ∧ (S 6 (S 1020 0)) ≤ 5)))))))) ∧ (((S 6 (S 1020 0)) = 5 ∧ (S 7 (S 1020 0)) = (31 : Int)) → (((1 : Int) = 0 ∨ (1 : Int) = 1) ∧ ((1 : Int) = 1 → 1 ≤ (S 6 (S 1020 0)) ∧ (S 6 (S 1020 0)) ≤ 5)))))) := by
  intro S hok hpre
  repeat' (first | (with_reducible refine And.intro ?_ ?_) | (with_reducible intro _))
  all_goals first | assumption | omega | grind
set_option maxRecDepth 8000 in
set_option maxHeartbeats 2000000 in
theorem t_beginsStatement : ∀ (S : sv_S), sm_ok S → (0 ≤ (S 1020 0) ∧ (S 1020 0) ≤ 4000) → sv_T sm_XS sm_cs sm_L sm_sh 3 (q_beginsStatement S) 42 0 (lv_args 0 [.ref 0]) [] S := by
  intro S hok hpre
  have h := f_beginsStatement S hok hpre
  have hM := sm_h42
  show sv_T sm_XS sm_cs sm_L sm_sh 3 (q_beginsStatement S) 42 0 [(0, .ref 0)] [] S
  refine sv_aload_n hM dX12_beginsStatement_0 rfl rfl ?_
  refine sv_bipush (d := (24 : Int)) hM dX12_beginsStatement_1 rfl rfl ?_
  obtain ⟨o1, h⟩ := h
  refine sv_callV hM dX12_beginsStatement_3 sm_iv_398 (by decide) (sm_a0 _) rfl rfl (Nat.le_of_ble_eq_true rfl) sm_h24 (Nat.le_of_ble_eq_true rfl) (Nat.le_of_ble_eq_true rfl) (F' := 0) (Nat.le_of_ble_eq_true rfl) rfl (t_isSign (24 : Int) S hok (⟨by decide, by decide⟩ : sv_R (24 : Int)) o1) (fun v S1 hq => ?_)
  obtain ⟨rfl, hS1⟩ := hq
  obtain rfl : S = S1 := hS1.symm
  show sv_T sm_XS sm_cs sm_L sm_sh 3 (q_beginsStatement S) 42 6 [(0, .ref 0)] [sv_I (if (S 6 (S 1020 0)) = 5 ∧ (S 7 (S 1020 0)) = (24 : Int) then 1 else 0)] S
  refine sv_cond_ne hM dX12_beginsStatement_6 (sv_Rite : sv_R (if (S 6 (S 1020 0)) = 5 ∧ (S 7 (S 1020 0)) = (24 : Int) then 1 else 0)) (t := 18) rfl rfl (fun hc => ?_) (fun hc => ?_)
  · have h := h.1 (sv_itep hc)
    refine sv_iconst (d := (1 : Int)) hM dX12_beginsStatement_18 rfl rfl ?_
    exact sv_iret hM dX12_beginsStatement_19 rfl (sv_nz (⟨by decide, by decide⟩ : 0 ≤ (1 : Int) ∧ (1 : Int) ≤ 1)) ⟨(1 : Int), rfl, sv_R01 (⟨by decide, by decide⟩ : 0 ≤ (1 : Int) ∧ (1 : Int) ≤ 1), hok, sv_mod.rf, h⟩
  · have h := h.2 (fun q => hc (by rw [if_pos q]; decide))
    refine sv_aload_n hM dX12_beginsStatement_9 rfl rfl ?_
    refine sv_bipush (d := (31 : Int)) hM dX12_beginsStatement_10 rfl rfl ?_
    refine sv_callV hM dX12_beginsStatement_12 sm_iv_398 (by decide) (sm_a0 _) rfl rfl (Nat.le_of_ble_eq_true rfl) sm_h24 (Nat.le_of_ble_eq_true rfl) (Nat.le_of_ble_eq_true rfl) (F' := 0) (Nat.le_of_ble_eq_true rfl) rfl (t_isSign (31 : Int) S hok (⟨by decide, by decide⟩ : sv_R (31 : Int)) o1) (fun v S1 hq => ?_)
    obtain ⟨rfl, hS1⟩ := hq
    obtain rfl : S = S1 := hS1.symm
    show sv_T sm_XS sm_cs sm_L sm_sh 3 (q_beginsStatement S) 42 15 [(0, .ref 0)] [sv_I (if (S 6 (S 1020 0)) = 5 ∧ (S 7 (S 1020 0)) = (31 : Int) then 1 else 0)] S
    refine sv_cond_eq hM dX12_beginsStatement_15 (sv_Rite : sv_R (if (S 6 (S 1020 0)) = 5 ∧ (S 7 (S 1020 0)) = (31 : Int) then 1 else 0)) (t := 20) rfl rfl (fun hc => ?_) (fun hc => ?_)
    · have h := h.1 (sv_iten hc)
      refine sv_aload_n hM dX12_beginsStatement_20 rfl rfl ?_
      refine sv_getA hM dX12_beginsStatement_21 sm_fl_27 (sm_a0 _) sm_k13 rfl ?_
      refine sv_aload_n hM dX12_beginsStatement_24 rfl rfl ?_
      have k2 : sv_R (S 1020 0) := sm_okI hok sm_r1020 0
      have h := h k2
      refine sv_getI hM dX12_beginsStatement_25 sm_fl_392 (sm_a0 _) sm_k20 rfl (x := (S 1020 0)) rfl ?_
      obtain ⟨o3, h⟩ := h
      have k4 : sv_R (S 6 (S 1020 0)) := sm_okI hok sm_r6 (S 1020 0)
      have h := h k4
      refine sv_iald hM dX12_beginsStatement_28 (sm_a6 _) (by decide) o3.1 o3.2 rfl (x := (S 6 (S 1020 0))) rfl ?_
      refine sv_iconst (d := (2 : Int)) hM dX12_beginsStatement_29 rfl rfl ?_
      refine sv_icmp_eq hM dX12_beginsStatement_30 k4 (⟨by decide, by decide⟩ : sv_R (2 : Int)) (t := 38) rfl rfl (fun hc => ?_) (fun hc => ?_)
      · have h := h.1 (hc)
        refine sv_aload_n hM dX12_beginsStatement_38 rfl rfl ?_
        refine sv_getA hM dX12_beginsStatement_39 sm_fl_30 (sm_a0 _) sm_k14 rfl ?_
        refine sv_aload_n hM dX12_beginsStatement_42 rfl rfl ?_
        refine sv_getI hM dX12_beginsStatement_43 sm_fl_392 (sm_a0 _) sm_k20 rfl (x := (S 1020 0)) rfl ?_
        have k5 : sv_R (S 7 (S 1020 0)) := sm_okI hok sm_r7 (S 1020 0)
        have h := h k5
        refine sv_iald hM dX12_beginsStatement_46 (sm_a7 _) (by decide) o3.1 o3.2 rfl (x := (S 7 (S 1020 0))) rfl ?_
        refine sv_istore_n hM dX12_beginsStatement_47 (by decide) rfl ?_
        show sv_T sm_XS sm_cs sm_L sm_sh 3 (q_beginsStatement S) 42 48 [(0, .ref 0), (1, sv_I (S 7 (S 1020 0)))] [] S
        refine sv_iload_n hM dX12_beginsStatement_48 rfl rfl ?_
        refine sv_bipush (d := (26 : Int)) hM dX12_beginsStatement_49 rfl rfl ?_
        refine sv_icmp_eq hM dX12_beginsStatement_51 k5 (⟨by decide, by decide⟩ : sv_R (26 : Int)) (t := 124) rfl rfl (fun hc => ?_) (fun hc => ?_)
        · have h := h.1 (hc)
          refine sv_iconst (d := (1 : Int)) hM dX12_beginsStatement_124 rfl rfl ?_
          refine sv_goto hM dX12_beginsStatement_125 (pc' := 129) rfl ?_
          exact sv_iret hM dX12_beginsStatement_129 rfl (sv_nz (⟨by decide, by decide⟩ : 0 ≤ (1 : Int) ∧ (1 : Int) ≤ 1)) ⟨(1 : Int), rfl, sv_R01 (⟨by decide, by decide⟩ : 0 ≤ (1 : Int) ∧ (1 : Int) ≤ 1), hok, sv_mod.rf, h⟩
        · have h := h.2 (hc)
          refine sv_iload_n hM dX12_beginsStatement_54 rfl rfl ?_
          refine sv_bipush (d := (12 : Int)) hM dX12_beginsStatement_55 rfl rfl ?_
          refine sv_icmp_eq hM dX12_beginsStatement_57 k5 (⟨by decide, by decide⟩ : sv_R (12 : Int)) (t := 124) rfl rfl (fun hc => ?_) (fun hc => ?_)
          · have h := h.1 (hc)
            refine sv_iconst (d := (1 : Int)) hM dX12_beginsStatement_124 rfl rfl ?_
            refine sv_goto hM dX12_beginsStatement_125 (pc' := 129) rfl ?_
            exact sv_iret hM dX12_beginsStatement_129 rfl (sv_nz (⟨by decide, by decide⟩ : 0 ≤ (1 : Int) ∧ (1 : Int) ≤ 1)) ⟨(1 : Int), rfl, sv_R01 (⟨by decide, by decide⟩ : 0 ≤ (1 : Int) ∧ (1 : Int) ≤ 1), hok, sv_mod.rf, h⟩
          · have h := h.2 (hc)
            refine sv_iload_n hM dX12_beginsStatement_60 rfl rfl ?_
            refine sv_bipush (d := (28 : Int)) hM dX12_beginsStatement_61 rfl rfl ?_
            refine sv_icmp_eq hM dX12_beginsStatement_63 k5 (⟨by decide, by decide⟩ : sv_R (28 : Int)) (t := 124) rfl rfl (fun hc => ?_) (fun hc => ?_)
            · have h := h.1 (hc)
              refine sv_iconst (d := (1 : Int)) hM dX12_beginsStatement_124 rfl rfl ?_
              refine sv_goto hM dX12_beginsStatement_125 (pc' := 129) rfl ?_
              exact sv_iret hM dX12_beginsStatement_129 rfl (sv_nz (⟨by decide, by decide⟩ : 0 ≤ (1 : Int) ∧ (1 : Int) ≤ 1)) ⟨(1 : Int), rfl, sv_R01 (⟨by decide, by decide⟩ : 0 ≤ (1 : Int) ∧ (1 : Int) ≤ 1), hok, sv_mod.rf, h⟩
            · have h := h.2 (hc)
              refine sv_iload_n hM dX12_beginsStatement_66 rfl rfl ?_
              refine sv_bipush (d := (6 : Int)) hM dX12_beginsStatement_67 rfl rfl ?_
              refine sv_icmp_eq hM dX12_beginsStatement_69 k5 (⟨by decide, by decide⟩ : sv_R (6 : Int)) (t := 124) rfl rfl (fun hc => ?_) (fun hc => ?_)
              · have h := h.1 (hc)
                refine sv_iconst (d := (1 : Int)) hM dX12_beginsStatement_124 rfl rfl ?_
                refine sv_goto hM dX12_beginsStatement_125 (pc' := 129) rfl ?_
                exact sv_iret hM dX12_beginsStatement_129 rfl (sv_nz (⟨by decide, by decide⟩ : 0 ≤ (1 : Int) ∧ (1 : Int) ≤ 1)) ⟨(1 : Int), rfl, sv_R01 (⟨by decide, by decide⟩ : 0 ≤ (1 : Int) ∧ (1 : Int) ≤ 1), hok, sv_mod.rf, h⟩
              · have h := h.2 (hc)
                refine sv_iload_n hM dX12_beginsStatement_72 rfl rfl ?_
                refine sv_bipush (d := (10 : Int)) hM dX12_beginsStatement_73 rfl rfl ?_
                refine sv_icmp_eq hM dX12_beginsStatement_75 k5 (⟨by decide, by decide⟩ : sv_R (10 : Int)) (t := 124) rfl rfl (fun hc => ?_) (fun hc => ?_)
                · have h := h.1 (hc)
                  refine sv_iconst (d := (1 : Int)) hM dX12_beginsStatement_124 rfl rfl ?_
                  refine sv_goto hM dX12_beginsStatement_125 (pc' := 129) rfl ?_
                  exact sv_iret hM dX12_beginsStatement_129 rfl (sv_nz (⟨by decide, by decide⟩ : 0 ≤ (1 : Int) ∧ (1 : Int) ≤ 1)) ⟨(1 : Int), rfl, sv_R01 (⟨by decide, by decide⟩ : 0 ≤ (1 : Int) ∧ (1 : Int) ≤ 1), hok, sv_mod.rf, h⟩
                · have h := h.2 (hc)
                  refine sv_iload_n hM dX12_beginsStatement_78 rfl rfl ?_
                  refine sv_iconst (d := (3 : Int)) hM dX12_beginsStatement_79 rfl rfl ?_
                  refine sv_icmp_eq hM dX12_beginsStatement_80 k5 (⟨by decide, by decide⟩ : sv_R (3 : Int)) (t := 124) rfl rfl (fun hc => ?_) (fun hc => ?_)
                  · have h := h.1 (hc)
                    refine sv_iconst (d := (1 : Int)) hM dX12_beginsStatement_124 rfl rfl ?_
                    refine sv_goto hM dX12_beginsStatement_125 (pc' := 129) rfl ?_
                    exact sv_iret hM dX12_beginsStatement_129 rfl (sv_nz (⟨by decide, by decide⟩ : 0 ≤ (1 : Int) ∧ (1 : Int) ≤ 1)) ⟨(1 : Int), rfl, sv_R01 (⟨by decide, by decide⟩ : 0 ≤ (1 : Int) ∧ (1 : Int) ≤ 1), hok, sv_mod.rf, h⟩
                  · have h := h.2 (hc)
                    refine sv_iload_n hM dX12_beginsStatement_83 rfl rfl ?_
                    refine sv_cond_eq hM dX12_beginsStatement_84 k5 (t := 124) rfl rfl (fun hc => ?_) (fun hc => ?_)
                    · have h := h.1 (hc)
                      refine sv_iconst (d := (1 : Int)) hM dX12_beginsStatement_124 rfl rfl ?_
                      refine sv_goto hM dX12_beginsStatement_125 (pc' := 129) rfl ?_
                      exact sv_iret hM dX12_beginsStatement_129 rfl (sv_nz (⟨by decide, by decide⟩ : 0 ≤ (1 : Int) ∧ (1 : Int) ≤ 1)) ⟨(1 : Int), rfl, sv_R01 (⟨by decide, by decide⟩ : 0 ≤ (1 : Int) ∧ (1 : Int) ≤ 1), hok, sv_mod.rf, h⟩
                    · have h := h.2 (hc)
                      refine sv_iload_n hM dX12_beginsStatement_87 rfl rfl ?_
                      refine sv_bipush (d := (18 : Int)) hM dX12_beginsStatement_88 rfl rfl ?_
                      refine sv_icmp_eq hM dX12_beginsStatement_90 k5 (⟨by decide, by decide⟩ : sv_R (18 : Int)) (t := 124) rfl rfl (fun hc => ?_) (fun hc => ?_)
                      · have h := h.1 (hc)
                        refine sv_iconst (d := (1 : Int)) hM dX12_beginsStatement_124 rfl rfl ?_
                        refine sv_goto hM dX12_beginsStatement_125 (pc' := 129) rfl ?_
                        exact sv_iret hM dX12_beginsStatement_129 rfl (sv_nz (⟨by decide, by decide⟩ : 0 ≤ (1 : Int) ∧ (1 : Int) ≤ 1)) ⟨(1 : Int), rfl, sv_R01 (⟨by decide, by decide⟩ : 0 ≤ (1 : Int) ∧ (1 : Int) ≤ 1), hok, sv_mod.rf, h⟩
                      · have h := h.2 (hc)
                        refine sv_iload_n hM dX12_beginsStatement_93 rfl rfl ?_
                        refine sv_bipush (d := (21 : Int)) hM dX12_beginsStatement_94 rfl rfl ?_
                        refine sv_icmp_eq hM dX12_beginsStatement_96 k5 (⟨by decide, by decide⟩ : sv_R (21 : Int)) (t := 124) rfl rfl (fun hc => ?_) (fun hc => ?_)
                        · have h := h.1 (hc)
                          refine sv_iconst (d := (1 : Int)) hM dX12_beginsStatement_124 rfl rfl ?_
                          refine sv_goto hM dX12_beginsStatement_125 (pc' := 129) rfl ?_
                          exact sv_iret hM dX12_beginsStatement_129 rfl (sv_nz (⟨by decide, by decide⟩ : 0 ≤ (1 : Int) ∧ (1 : Int) ≤ 1)) ⟨(1 : Int), rfl, sv_R01 (⟨by decide, by decide⟩ : 0 ≤ (1 : Int) ∧ (1 : Int) ≤ 1), hok, sv_mod.rf, h⟩
                        · have h := h.2 (hc)
                          refine sv_iload_n hM dX12_beginsStatement_99 rfl rfl ?_
                          refine sv_bipush (d := (23 : Int)) hM dX12_beginsStatement_100 rfl rfl ?_
                          refine sv_icmp_eq hM dX12_beginsStatement_102 k5 (⟨by decide, by decide⟩ : sv_R (23 : Int)) (t := 124) rfl rfl (fun hc => ?_) (fun hc => ?_)
                          · have h := h.1 (hc)
                            refine sv_iconst (d := (1 : Int)) hM dX12_beginsStatement_124 rfl rfl ?_
                            refine sv_goto hM dX12_beginsStatement_125 (pc' := 129) rfl ?_
                            exact sv_iret hM dX12_beginsStatement_129 rfl (sv_nz (⟨by decide, by decide⟩ : 0 ≤ (1 : Int) ∧ (1 : Int) ≤ 1)) ⟨(1 : Int), rfl, sv_R01 (⟨by decide, by decide⟩ : 0 ≤ (1 : Int) ∧ (1 : Int) ≤ 1), hok, sv_mod.rf, h⟩
                          · have h := h.2 (hc)
                            refine sv_iload_n hM dX12_beginsStatement_105 rfl rfl ?_
                            refine sv_bipush (d := (19 : Int)) hM dX12_beginsStatement_106 rfl rfl ?_
                            refine sv_icmp_eq hM dX12_beginsStatement_108 k5 (⟨by decide, by decide⟩ : sv_R (19 : Int)) (t := 124) rfl rfl (fun hc => ?_) (fun hc => ?_)
                            · have h := h.1 (hc)
                              refine sv_iconst (d := (1 : Int)) hM dX12_beginsStatement_124 rfl rfl ?_
                              refine sv_goto hM dX12_beginsStatement_125 (pc' := 129) rfl ?_
                              exact sv_iret hM dX12_beginsStatement_129 rfl (sv_nz (⟨by decide, by decide⟩ : 0 ≤ (1 : Int) ∧ (1 : Int) ≤ 1)) ⟨(1 : Int), rfl, sv_R01 (⟨by decide, by decide⟩ : 0 ≤ (1 : Int) ∧ (1 : Int) ≤ 1), hok, sv_mod.rf, h⟩
                            · have h := h.2 (hc)
                              refine sv_iload_n hM dX12_beginsStatement_111 rfl rfl ?_
                              refine sv_bipush (d := (11 : Int)) hM dX12_beginsStatement_112 rfl rfl ?_
                              refine sv_icmp_eq hM dX12_beginsStatement_114 k5 (⟨by decide, by decide⟩ : sv_R (11 : Int)) (t := 128) rfl rfl (fun hc => ?_) (fun hc => ?_)
                              · have h := h.1 (hc)
                                refine sv_iconst (d := (0 : Int)) hM dX12_beginsStatement_128 rfl rfl ?_
                                exact sv_iret hM dX12_beginsStatement_129 rfl (sv_nz (⟨by decide, by decide⟩ : 0 ≤ (0 : Int) ∧ (0 : Int) ≤ 1)) ⟨(0 : Int), rfl, sv_R01 (⟨by decide, by decide⟩ : 0 ≤ (0 : Int) ∧ (0 : Int) ≤ 1), hok, sv_mod.rf, h⟩
                              · have h := h.2 (hc)
                                refine sv_aload_n hM dX12_beginsStatement_117 rfl rfl ?_
                                refine sv_callV hM dX12_beginsStatement_118 sm_iv_439 (by decide) (sm_a0 _) rfl rfl (Nat.le_of_ble_eq_true rfl) sm_h39 (Nat.le_of_ble_eq_true rfl) (Nat.le_of_ble_eq_true rfl) (F' := 2) (Nat.le_of_ble_eq_true rfl) rfl (t_beginsExpression  S hok o1) (fun v S1 hq => ?_)
                                obtain ⟨r10, rfl, hr10, ok7, md8, hpo9⟩ := hq
                                obtain rfl : S = S1 := (funext fun j => md8 j (by intro q; cases q)).symm
                                show sv_T sm_XS sm_cs sm_L sm_sh 3 (q_beginsStatement S) 42 121 [(0, .ref 0), (1, sv_I (S 7 (S 1020 0)))] [sv_I r10] S
                                have h := h r10 hr10 hpo9
                                refine sv_cond_eq hM dX12_beginsStatement_121 hr10 (t := 128) rfl rfl (fun hc => ?_) (fun hc => ?_)
                                · have h := h.1 (hc)
                                  refine sv_iconst (d := (0 : Int)) hM dX12_beginsStatement_128 rfl rfl ?_
                                  exact sv_iret hM dX12_beginsStatement_129 rfl (sv_nz (⟨by decide, by decide⟩ : 0 ≤ (0 : Int) ∧ (0 : Int) ≤ 1)) ⟨(0 : Int), rfl, sv_R01 (⟨by decide, by decide⟩ : 0 ≤ (0 : Int) ∧ (0 : Int) ≤ 1), ok7, sv_mod.rf, h⟩
                                · have h := h.2 (hc)
                                  refine sv_iconst (d := (1 : Int)) hM dX12_beginsStatement_124 rfl rfl ?_
                                  refine sv_goto hM dX12_beginsStatement_125 (pc' := 129) rfl ?_
                                  exact sv_iret hM dX12_beginsStatement_129 rfl (sv_nz (⟨by decide, by decide⟩ : 0 ≤ (1 : Int) ∧ (1 : Int) ≤ 1)) ⟨(1 : Int), rfl, sv_R01 (⟨by decide, by decide⟩ : 0 ≤ (1 : Int) ∧ (1 : Int) ≤ 1), ok7, sv_mod.rf, h⟩
      · have h := h.2 (hc)
        refine sv_aload_n hM dX12_beginsStatement_33 rfl rfl ?_
        refine sv_callV hM dX12_beginsStatement_34 sm_iv_439 (by decide) (sm_a0 _) rfl rfl (Nat.le_of_ble_eq_true rfl) sm_h39 (Nat.le_of_ble_eq_true rfl) (Nat.le_of_ble_eq_true rfl) (F' := 2) (Nat.le_of_ble_eq_true rfl) rfl (t_beginsExpression  S hok o1) (fun v S1 hq => ?_)
        obtain ⟨r15, rfl, hr15, ok12, md13, hpo14⟩ := hq
        obtain rfl : S = S1 := (funext fun j => md13 j (by intro q; cases q)).symm
        show sv_T sm_XS sm_cs sm_L sm_sh 3 (q_beginsStatement S) 42 37 [(0, .ref 0)] [sv_I r15] S
        have h := h r15 hr15 hpo14
        obtain ⟨o16, h⟩ := h
        exact sv_iret hM dX12_beginsStatement_37 rfl (sv_nz o16) ⟨r15, rfl, sv_R01 o16, ok12, sv_mod.rf, h⟩
    · have h := h.2 (sv_itep hc)
      refine sv_iconst (d := (1 : Int)) hM dX12_beginsStatement_18 rfl rfl ?_
      exact sv_iret hM dX12_beginsStatement_19 rfl (sv_nz (⟨by decide, by decide⟩ : 0 ≤ (1 : Int) ∧ (1 : Int) ≤ 1)) ⟨(1 : Int), rfl, sv_R01 (⟨by decide, by decide⟩ : 0 ≤ (1 : Int) ∧ (1 : Int) ≤ 1), hok, sv_mod.rf, h⟩
def q_nameAt (p1 : Int) (S : sv_S) : Option Value → sv_S → Prop := fun v S' => ∃ r : Int, v = some (sv_I r) ∧ sv_R r ∧ sm_ok S' ∧ sv_mod [5, 1011, 3, 4, 1007, 1009] S S' ∧ ((S 1007 0) ≤ (S' 1007 0) ∧ (S' 1007 0) ≤ 90 ∧ sm_LN (S' 4) 400 (S' 1007 0) ∧ (r = -1 ∨ (0 ≤ r ∧ r < (S' 1007 0))) ∧ (r = -1 → (S' 1009 0) = 1) ∧ ((S 1009 0) = 1 → (S' 1009 0) = 1))
set_option maxHeartbeats 2000000 in
theorem f_nameAt : ∀ (p1 : Int) (S : sv_S), sm_ok S → sv_R p1 → (0 ≤ (S 1004 0) ∧ (S 1004 0) ≤ 4000 ∧ 1 ≤ (S 1007 0) ∧ (S 1007 0) ≤ 90 ∧ sm_LN (S 4) 400 (S 1007 0) ∧ sm_TK (S 6) (S 8) (S 9) (S 10) (S 1012 0) ∧ 0 ≤ p1 ∧ p1 < (S 1012 0) ∧ 1 ≤ (S 6 p1) ∧ (S 6 p1) ≤ 4) → ((∀ g1 : sv_S, (0 ≤ (g1 1011 0) ∧ (g1 1011 0) ≤ 90) → (1 ≤ (S 1007 0) ∧ (S 1007 0) ≤ 90 ∧ sm_LN (S 4) 400 (S 1007 0) ∧ 0 ≤ (g1 1011 0) ∧ (g1 1011 0) ≤ 90) ∧ (∀ r11 : Int, sv_R r11 → ∀ g7 : sv_S, ((S 1007 0) ≤ (g7 1007 0) ∧ (g7 1007 0) ≤ 90 ∧ sm_LN (g7 4) 400 (g7 1007 0) ∧ (r11 = -1 ∨ (0 ≤ r11 ∧ r11 < (g7 1007 0))) ∧ (r11 = -1 → (g7 1009 0) = 1) ∧ ((S 1009 0) = 1 → (g7 1009 0) = 1)) → ((S 1007 0) ≤ (g7 1007 0) ∧ (g7 1007 0) ≤ 90 ∧ sm_LN (g7 4) 400 (g7 1007 0) ∧ (r11 = -1 ∨ (0 ≤ r11 ∧ r11 < (g7 1007 0))) ∧ (r11 = -1 → (g7 1009 0) = 1) ∧ ((S 1009 0) = 1 → (g7 1009 0) = 1)))) ∧ (0 ≤ p1 ∧ p1 < 4002) ∧ (sv_R (S 6 p1) → (((¬ (S 6 p1) = (3 : Int)) → (((¬ (S 6 p1) = (4 : Int)) → (sv_R (S 8 p1) → (((S 8 p1) ≤ (S 8 p1) ∧ (S 8 p1) ≤ (S 9 p1) ∧ 0 ≤ (0 : Int) ∧ (0 : Int) ≤ (S 8 p1) - (S 8 p1)) ∧ (∀ l2_21 : Int, sv_R l2_21 → ∀ g20 : sv_S, ((S 8 p1) ≤ l2_21 ∧ l2_21 ≤ (S 9 p1) ∧ 0 ≤ (g20 1011 0) ∧ (g20 1011 0) ≤ l2_21 - (S 8 p1)) → (0 ≤ (S 9 p1) - l2_21) ∧ (sv_R (S 9 p1) → ((((S 9 p1) ≤ l2_21) → (0 ≤ (g20 1011 0) ∧ (g20 1011 0) ≤ 90)) ∧ ((¬ ((S 9 p1) ≤ l2_21)) → (0 ≤ (S 1004 0) ∧ (S 1004 0) ≤ 4000 ∧ 0 ≤ l2_21) ∧ (sv_R ((if l2_21 < (S 1004 0) then (S 2 l2_21) % 256 else 0))) ∧ (0 ≤ (g20 1011 0) ∧ (g20 1011 0) < 200 ∧ 0 ≤ ((if l2_21 < (S 1004 0) then (S 2 l2_21) % 256 else 0)) ∧ ((if l2_21 < (S 1004 0) then (S 2 l2_21) % 256 else 0)) ≤ 65535) ∧ (∀ g32 : sv_S, ((g32 1011 0) = (g20 1011 0) + 1) → (sv_R (l2_21 + (1 : Int))) ∧ (((S 8 p1) ≤ (l2_21 + (1 : Int)) ∧ (l2_21 + (1 : Int)) ≤ (S 9 p1) ∧ 0 ≤ (g32 1011 0) ∧ (g32 1011 0) ≤ (l2_21 + (1 : Int)) - (S 8 p1)) ∧ ((S 9 p1) - (l2_21 + (1 : Int))) < ((S 9 p1) - l2_21)))))))))) ∧ ((¬ (¬ (S 6 p1) = (4 : Int))) → (sv_R (S 8 p1) → (sv_R ((S 8 p1) + (1 : Int))) ∧ (((S 8 p1) + 1 ≤ ((S 8 p1) + (1 : Int)) ∧ ((S 8 p1) + (1 : Int)) ≤ (S 9 p1) + 1 ∧ 0 ≤ (0 : Int) ∧ (0 : Int) ≤ ((S 8 p1) + (1 : Int)) - (S 8 p1) - 1) ∧ (∀ l2_43 : Int, sv_R l2_43 → ∀ g42 : sv_S, ((S 8 p1) + 1 ≤ l2_43 ∧ l2_43 ≤ (S 9 p1) + 1 ∧ 0 ≤ (g42 1011 0) ∧ (g42 1011 0) ≤ l2_43 - (S 8 p1) - 1) → (0 ≤ (S 9 p1) + 1 - l2_43) ∧ (sv_R (S 9 p1) → (sv_R ((S 9 p1) - (1 : Int))) ∧ (((((S 9 p1) - (1 : Int)) ≤ l2_43) → (0 ≤ (g42 1011 0) ∧ (g42 1011 0) ≤ 90)) ∧ ((¬ (((S 9 p1) - (1 : Int)) ≤ l2_43)) → (0 ≤ (S 1004 0) ∧ (S 1004 0) ≤ 4000 ∧ 0 ≤ l2_43) ∧ (sv_R ((if l2_43 < (S 1004 0) then (S 2 l2_43) % 256 else 0))) ∧ (((¬ ((if l2_43 < (S 1004 0) then (S 2 l2_43) % 256 else 0)) = (92 : Int)) → ((((0 : Int) = (0 : Int)) → (((¬ (0 : Int) = (0 : Int)) → (sv_R (l2_43 + (0 : Int))) ∧ (0 ≤ (S 1004 0) ∧ (S 1004 0) ≤ 4000 ∧ 0 ≤ (l2_43 + (0 : Int))) ∧ (sv_R ((if (l2_43 + (0 : Int)) < (S 1004 0) then (S 2 (l2_43 + (0 : Int))) % 256 else 0))) ∧ (((¬ ((if (l2_43 + (0 : Int)) < (S 1004 0) then (S 2 (l2_43 + (0 : Int))) % 256 else 0)) = (110 : Int)) → (((¬ ((if (l2_43 + (0 : Int)) < (S 1004 0) then (S 2 (l2_43 + (0 : Int))) % 256 else 0)) = (116 : Int)) → (0 ≤ (g42 1011 0) ∧ (g42 1011 0) < 200 ∧ 0 ≤ ((if (l2_43 + (0 : Int)) < (S 1004 0) then (S 2 (l2_43 + (0 : Int))) % 256 else 0)) ∧ ((if (l2_43 + (0 : Int)) < (S 1004 0) then (S 2 (l2_43 + (0 : Int))) % 256 else 0)) ≤ 65535) ∧ (∀ g58 : sv_S, ((g58 1011 0) = (g42 1011 0) + 1) → (sv_R ((l2_43 + (0 : Int)) + (1 : Int))) ∧ (((S 8 p1) + 1 ≤ ((l2_43 + (0 : Int)) + (1 : Int)) ∧ ((l2_43 + (0 : Int)) + (1 : Int)) ≤ (S 9 p1) + 1 ∧ 0 ≤ (g58 1011 0) ∧ (g58 1011 0) ≤ ((l2_43 + (0 : Int)) + (1 : Int)) - (S 8 p1) - 1) ∧ ((S 9 p1) + 1 - ((l2_43 + (0 : Int)) + (1 : Int))) < ((S 9 p1) + 1 - l2_43)))) ∧ ((¬ (¬ ((if (l2_43 + (0 : Int)) < (S 1004 0) then (S 2 (l2_43 + (0 : Int))) % 256 else 0)) = (116 : Int))) → (0 ≤ (g42 1011 0) ∧ (g42 1011 0) < 200 ∧ 0 ≤ (9 : Int) ∧ (9 : Int) ≤ 65535) ∧ (∀ g67 : sv_S, ((g67 1011 0) = (g42 1011 0) + 1) → (sv_R ((l2_43 + (0 : Int)) + (1 : Int))) ∧ (((S 8 p1) + 1 ≤ ((l2_43 + (0 : Int)) + (1 : Int)) ∧ ((l2_43 + (0 : Int)) + (1 : Int)) ≤ (S 9 p1) + 1 ∧ 0 ≤ (g67 1011 0) ∧ (g67 1011 0) ≤ ((l2_43 + (0 : Int)) + (1 : Int)) - (S 8 p1) - 1) ∧ ((S 9 p1) + 1 - ((l2_43 + (0 : Int)) + (1 : Int))) < ((S 9 p1) + 1 - l2_43)))))) ∧ ((¬ (¬ ((if (l2_43 + (0 : Int)) < (S 1004 0) then (S 2 (l2_43 + (0 : Int))) % 256 else 0)) = (110 : Int))) → (0 ≤ (g42 1011 0) ∧ (g42 1011 0) < 200 ∧ 0 ≤ (10 : Int) ∧ (10 : Int) ≤ 65535) ∧ (∀ g76 : sv_S, ((g76 1011 0) = (g42 1011 0) + 1) → (sv_R ((l2_43 + (0 : Int)) + (1 : Int))) ∧ (((S 8 p1) + 1 ≤ ((l2_43 + (0 : Int)) + (1 : Int)) ∧ ((l2_43 + (0 : Int)) + (1 : Int)) ≤ (S 9 p1) + 1 ∧ 0 ≤ (g76 1011 0) ∧ (g76 1011 0) ≤ ((l2_43 + (0 : Int)) + (1 : Int)) - (S 8 p1) - 1) ∧ ((S 9 p1) + 1 - ((l2_43 + (0 : Int)) + (1 : Int))) < ((S 9 p1) + 1 - l2_43)))))) ∧ ((¬ (¬ (0 : Int) = (0 : Int))) → (sv_R (l2_43 + (0 : Int))) ∧ (0 ≤ (S 1004 0) ∧ (S 1004 0) ≤ 4000 ∧ 0 ≤ (l2_43 + (0 : Int))) ∧ (sv_R ((if (l2_43 + (0 : Int)) < (S 1004 0) then (S 2 (l2_43 + (0 : Int))) % 256 else 0))) ∧ (0 ≤ (g42 1011 0) ∧ (g42 1011 0) < 200 ∧ 0 ≤ ((if (l2_43 + (0 : Int)) < (S 1004 0) then (S 2 (l2_43 + (0 : Int))) % 256 else 0)) ∧ ((if (l2_43 + (0 : Int)) < (S 1004 0) then (S 2 (l2_43 + (0 : Int))) % 256 else 0)) ≤ 65535) ∧ (∀ g88 : sv_S, ((g88 1011 0) = (g42 1011 0) + 1) → (sv_R ((l2_43 + (0 : Int)) + (1 : Int))) ∧ (((S 8 p1) + 1 ≤ ((l2_43 + (0 : Int)) + (1 : Int)) ∧ ((l2_43 + (0 : Int)) + (1 : Int)) ≤ (S 9 p1) + 1 ∧ 0 ≤ (g88 1011 0) ∧ (g88 1011 0) ≤ ((l2_43 + (0 : Int)) + (1 : Int)) - (S 8 p1) - 1) ∧ ((S 9 p1) + 1 - ((l2_43 + (0 : Int)) + (1 : Int))) < ((S 9 p1) + 1 - l2_43)))))) ∧ ((¬ ((0 : Int) = (0 : Int))) → (((¬ (0 : Int) = (0 : Int)) → (sv_R (l2_43 + (1 : Int))) ∧ (0 ≤ (S 1004 0) ∧ (S 1004 0) ≤ 4000 ∧ 0 ≤ (l2_43 + (1 : Int))) ∧ (sv_R ((if (l2_43 + (1 : Int)) < (S 1004 0) then (S 2 (l2_43 + (1 : Int))) % 256 else 0))) ∧ (((¬ ((if (l2_43 + (1 : Int)) < (S 1004 0) then (S 2 (l2_43 + (1 : Int))) % 256 else 0)) = (110 : Int)) → (((¬ ((if (l2_43 + (1 : Int)) < (S 1004 0) then (S 2 (l2_43 + (1 : Int))) % 256 else 0)) = (116 : Int)) → (0 ≤ (g42 1011 0) ∧ (g42 1011 0) < 200 ∧ 0 ≤ ((if (l2_43 + (1 : Int)) < (S 1004 0) then (S 2 (l2_43 + (1 : Int))) % 256 else 0)) ∧ ((if (l2_43 + (1 : Int)) < (S 1004 0) then (S 2 (l2_43 + (1 : Int))) % 256 else 0)) ≤ 65535) ∧ (∀ g100 : sv_S, ((g100 1011 0) = (g42 1011 0) + 1) → (sv_R ((l2_43 + (1 : Int)) + (1 : Int))) ∧ (((S 8 p1) + 1 ≤ ((l2_43 + (1 : Int)) + (1 : Int)) ∧ ((l2_43 + (1 : Int)) + (1 : Int)) ≤ (S 9 p1) + 1 ∧ 0 ≤ (g100 1011 0) ∧ (g100 1011 0) ≤ ((l2_43 + (1 : Int)) + (1 : Int)) - (S 8 p1) - 1) ∧ ((S 9 p1) + 1 - ((l2_43 + (1 : Int)) + (1 : Int))) < ((S 9 p1) + 1 - l2_43)))) ∧ ((¬ (¬ ((if (l2_43 + (1 : Int)) < (S 1004 0) then (S 2 (l2_43 + (1 : Int))) % 256 else 0)) = (116 : Int))) → (0 ≤ (g42 1011 0) ∧ (g42 1011 0) < 200 ∧ 0 ≤ (9 : Int) ∧ (9 : Int) ≤ 65535) ∧ (∀ g109 : sv_S, ((g109 1011 0) = (g42 1011 0) + 1) → (sv_R ((l2_43 + (1 : Int)) + (1 : Int))) ∧ (((S 8 p1) + 1 ≤ ((l2_43 + (1 : Int)) + (1 : Int)) ∧ ((l2_43 + (1 : Int)) + (1 : Int)) ≤ (S 9 p1) + 1 ∧ 0 ≤ (g109 1011 0) ∧ (g109 1011 0) ≤ ((l2_43 + (1 : Int)) + (1 : Int)) - (S 8 p1) - 1) ∧ ((S 9 p1) + 1 - ((l2_43 + (1 : Int)) + (1 : Int))) < ((S 9 p1) + 1 - l2_43)))))) ∧ ((¬ (¬ ((if (l2_43 + (1 : Int)) < (S 1004 0) then (S 2 (l2_43 + (1 : Int))) % 256 else 0)) = (110 : Int))) → (0 ≤ (g42 1011 0) ∧ (g42 1011 0) < 200 ∧ 0 ≤ (10 : Int) ∧ (10 : Int) ≤ 65535) ∧ (∀ g118 : sv_S, ((g118 1011 0) = (g42 1011 0) + 1) → (sv_R ((l2_43 + (1 : Int)) + (1 : Int))) ∧ (((S 8 p1) + 1 ≤ ((l2_43 + (1 : Int)) + (1 : Int)) ∧ ((l2_43 + (1 : Int)) + (1 : Int)) ≤ (S 9 p1) + 1 ∧ 0 ≤ (g118 1011 0) ∧ (g118 1011 0) ≤ ((l2_43 + (1 : Int)) + (1 : Int)) - (S 8 p1) - 1) ∧ ((S 9 p1) + 1 - ((l2_43 + (1 : Int)) + (1 : Int))) < ((S 9 p1) + 1 - l2_43)))))) ∧ ((¬ (¬ (0 : Int) = (0 : Int))) → (sv_R (l2_43 + (1 : Int))) ∧ (0 ≤ (S 1004 0) ∧ (S 1004 0) ≤ 4000 ∧ 0 ≤ (l2_43 + (1 : Int))) ∧ (sv_R ((if (l2_43 + (1 : Int)) < (S 1004 0) then (S 2 (l2_43 + (1 : Int))) % 256 else 0))) ∧ (0 ≤ (g42 1011 0) ∧ (g42 1011 0) < 200 ∧ 0 ≤ ((if (l2_43 + (1 : Int)) < (S 1004 0) then (S 2 (l2_43 + (1 : Int))) % 256 else 0)) ∧ ((if (l2_43 + (1 : Int)) < (S 1004 0) then (S 2 (l2_43 + (1 : Int))) % 256 else 0)) ≤ 65535) ∧ (∀ g130 : sv_S, ((g130 1011 0) = (g42 1011 0) + 1) → (sv_R ((l2_43 + (1 : Int)) + (1 : Int))) ∧ (((S 8 p1) + 1 ≤ ((l2_43 + (1 : Int)) + (1 : Int)) ∧ ((l2_43 + (1 : Int)) + (1 : Int)) ≤ (S 9 p1) + 1 ∧ 0 ≤ (g130 1011 0) ∧ (g130 1011 0) ≤ ((l2_43 + (1 : Int)) + (1 : Int)) - (S 8 p1) - 1) ∧ ((S 9 p1) + 1 - ((l2_43 + (1 : Int)) + (1 : Int))) < ((S 9 p1) + 1 - l2_43)))))))) ∧ ((¬ (¬ ((if l2_43 < (S 1004 0) then (S 2 l2_43) % 256 else 0)) = (92 : Int))) → ((((1 : Int) = (0 : Int)) → (((¬ (1 : Int) = (0 : Int)) → (sv_R (l2_43 + (0 : Int))) ∧ (0 ≤ (S 1004 0) ∧ (S 1004 0) ≤ 4000 ∧ 0 ≤ (l2_43 + (0 : Int))) ∧ (sv_R ((if (l2_43 + (0 : Int)) < (S 1004 0) then (S 2 (l2_43 + (0 : Int))) % 256 else 0))) ∧ (((¬ ((if (l2_43 + (0 : Int)) < (S 1004 0) then (S 2 (l2_43 + (0 : Int))) % 256 else 0)) = (110 : Int)) → (((¬ ((if (l2_43 + (0 : Int)) < (S 1004 0) then (S 2 (l2_43 + (0 : Int))) % 256 else 0)) = (116 : Int)) → (0 ≤ (g42 1011 0) ∧ (g42 1011 0) < 200 ∧ 0 ≤ ((if (l2_43 + (0 : Int)) < (S 1004 0) then (S 2 (l2_43 + (0 : Int))) % 256 else 0)) ∧ ((if (l2_43 + (0 : Int)) < (S 1004 0) then (S 2 (l2_43 + (0 : Int))) % 256 else 0)) ≤ 65535) ∧ (∀ g142 : sv_S, ((g142 1011 0) = (g42 1011 0) + 1) → (sv_R ((l2_43 + (0 : Int)) + (1 : Int))) ∧ (((S 8 p1) + 1 ≤ ((l2_43 + (0 : Int)) + (1 : Int)) ∧ ((l2_43 + (0 : Int)) + (1 : Int)) ≤ (S 9 p1) + 1 ∧ 0 ≤ (g142 1011 0) ∧ (g142 1011 0) ≤ ((l2_43 + (0 : Int)) + (1 : Int)) - (S 8 p1) - 1) ∧ ((S 9 p1) + 1 - ((l2_43 + (0 : Int)) + (1 : Int))) < ((S 9 p1) + 1 - l2_43)))) ∧ ((¬ (¬ ((if (l2_43 + (0 : Int)) < (S 1004 0) then (S 2 (l2_43 + (0 : Int))) % 256 else 0)) = (116 : Int))) → (0 ≤ (g42 1011 0) ∧ (g42 1011 0) < 200 ∧ 0 ≤ (9 : Int) ∧ (9 : Int) ≤ 65535) ∧ (∀ g151 : sv_S, ((g151 1011 0) = (g42 1011 0) + 1) → (sv_R ((l2_43 + (0 : Int)) + (1 : Int))) ∧ (((S 8 p1) + 1 ≤ ((l2_43 + (0 : Int)) + (1 : Int)) ∧ ((l2_43 + (0 : Int)) + (1 : Int)) ≤ (S 9 p1) + 1 ∧ 0 ≤ (g151 1011 0) ∧ (g151 1011 0) ≤ ((l2_43 + (0 : Int)) + (1 : Int)) - (S 8 p1) - 1) ∧ ((S 9 p1) + 1 - ((l2_43 + (0 : Int)) + (1 : Int))) < ((S 9 p1) + 1 - l2_43)))))) ∧ ((¬ (¬ ((if (l2_43 + (0 : Int)) < (S 1004 0) then (S 2 (l2_43 + (0 : Int))) % 256 else 0)) = (110 : Int))) → (0 ≤ (g42 1011 0) ∧ (g42 1011 0) < 200 ∧ 0 ≤ (10 : Int) ∧ (10 : Int) ≤ 65535) ∧ (∀ g160 : sv_S, ((g160 1011 0) = (g42 1011 0) + 1) → (sv_R ((l2_43 + (0 : Int)) + (1 : Int))) ∧ (((S 8 p1) + 1 ≤ ((l2_43 + (0 : Int)) + (1 : Int)) ∧ ((l2_43 + (0 : Int)) + (1 : Int)) ≤ (S 9 p1) + 1 ∧ 0 ≤ (g160 1011 0) ∧ (g160 1011 0) ≤ ((l2_43 + (0 : Int)) + (1 : Int)) - (S 8 p1) - 1) ∧ ((S 9 p1) + 1 - ((l2_43 + (0 : Int)) + (1 : Int))) < ((S 9 p1) + 1 - l2_43)))))) ∧ ((¬ (¬ (1 : Int) = (0 : Int))) → (sv_R (l2_43 + (0 : Int))) ∧ (0 ≤ (S 1004 0) ∧ (S 1004 0) ≤ 4000 ∧ 0 ≤ (l2_43 + (0 : Int))) ∧ (sv_R ((if (l2_43 + (0 : Int)) < (S 1004 0) then (S 2 (l2_43 + (0 : Int))) % 256 else 0))) ∧ (0 ≤ (g42 1011 0) ∧ (g42 1011 0) < 200 ∧ 0 ≤ ((if (l2_43 + (0 : Int)) < (S 1004 0) then (S 2 (l2_43 + (0 : Int))) % 256 else 0)) ∧ ((if (l2_43 + (0 : Int)) < (S 1004 0) then (S 2 (l2_43 + (0 : Int))) % 256 else 0)) ≤ 65535) ∧ (∀ g172 : sv_S, ((g172 1011 0) = (g42 1011 0) + 1) → (sv_R ((l2_43 + (0 : Int)) + (1 : Int))) ∧ (((S 8 p1) + 1 ≤ ((l2_43 + (0 : Int)) + (1 : Int)) ∧ ((l2_43 + (0 : Int)) + (1 : Int)) ≤ (S 9 p1) + 1 ∧ 0 ≤ (g172 1011 0) ∧ (g172 1011 0) ≤ ((l2_43 + (0 : Int)) + (1 : Int)) - (S 8 p1) - 1) ∧ ((S 9 p1) + 1 - ((l2_43 + (0 : Int)) + (1 : Int))) < ((S 9 p1) + 1 - l2_43)))))) ∧ ((¬ ((1 : Int) = (0 : Int))) → (((¬ (1 : Int) = (0 : Int)) → (sv_R (l2_43 + (1 : Int))) ∧ (0 ≤ (S 1004 0) ∧ (S 1004 0) ≤ 4000 ∧ 0 ≤ (l2_43 + (1 : Int))) ∧ (sv_R ((if (l2_43 + (1 : Int)) < (S 1004 0) then (S 2 (l2_43 + (1 : Int))) % 256 else 0))) ∧ (((¬ ((if (l2_43 + (1 : Int)) < (S 1004 0) then (S 2 (l2_43 + (1 : Int))) % 256 else 0)) = (110 : Int)) → (((¬ ((if (l2_43 + (1 : Int)) < (S 1004 0) then (S 2 (l2_43 + (1 : Int))) % 256 else 0)) = (116 : Int)) → (0 ≤ (g42 1011 0) ∧ (g42 1011 0) < 200 ∧ 0 ≤ ((if (l2_43 + (1 : Int)) < (S 1004 0) then (S 2 (l2_43 + (1 : Int))) % 256 else 0)) ∧ ((if (l2_43 + (1 : Int)) < (S 1004 0) then (S 2 (l2_43 + (1 : Int))) % 256 else 0)) ≤ 65535) ∧ (∀ g184 : sv_S, ((g184 1011 0) = (g42 1011 0) + 1) → (sv_R ((l2_43 + (1 : Int)) + (1 : Int))) ∧ (((S 8 p1) + 1 ≤ ((l2_43 + (1 : Int)) + (1 : Int)) ∧ ((l2_43 + (1 : Int)) + (1 : Int)) ≤ (S 9 p1) + 1 ∧ 0 ≤ (g184 1011 0) ∧ (g184 1011 0) ≤ ((l2_43 + (1 : Int)) + (1 : Int)) - (S 8 p1) - 1) ∧ ((S 9 p1) + 1 - ((l2_43 + (1 : Int)) + (1 : Int))) < ((S 9 p1) + 1 - l2_43)))) ∧ ((¬ (¬ ((if (l2_43 + (1 : Int)) < (S 1004 0) then (S 2 (l2_43 + (1 : Int))) % 256 else 0)) = (116 : Int))) → (0 ≤ (g42 1011 0) ∧ (g42 1011 0) < 200 ∧ 0 ≤ (9 : Int) ∧ (9 : Int) ≤ 65535) ∧ (∀ g193 : sv_S, ((g193 1011 0) = (g42 1011 0) + 1) → (sv_R ((l2_43 + (1 : Int)) + (1 : Int))) ∧ (((S 8 p1) + 1 ≤ ((l2_43 + (1 : Int)) + (1 : Int)) ∧ ((l2_43 + (1 : Int)) + (1 : Int)) ≤ (S 9 p1) + 1 ∧ 0 ≤ (g193 1011 0) ∧ (g193 1011 0) ≤ ((l2_43 + (1 : Int)) + (1 : Int)) - (S 8 p1) - 1) ∧ ((S 9 p1) + 1 - ((l2_43 + (1 : Int)) + (1 : Int))) < ((S 9 p1) + 1 - l2_43)))))) ∧ ((¬ (¬ ((if (l2_43 + (1 : Int)) < (S 1004 0) then (S 2 (l2_43 + (1 : Int))) % 256 else 0)) = (110 : Int))) → (0 ≤ (g42 1011 0) ∧ (g42 1011 0) < 200 ∧ 0 ≤ (10 : Int) ∧ (10 : Int) ≤ 65535) ∧ (∀ g202 : sv_S, ((g202 1011 0) = (g42 1011 0) + 1) → (sv_R ((l2_43 + (1 : Int)) + (1 : Int))) ∧ (((S 8 p1) + 1 ≤ ((l2_43 + (1 : Int)) + (1 : Int)) ∧ ((l2_43 + (1 : Int)) + (1 : Int)) ≤ (S 9 p1) + 1 ∧ 0 ≤ (g202 1011 0) ∧ (g202 1011 0) ≤ ((l2_43 + (1 : Int)) + (1 : Int)) - (S 8 p1) - 1) ∧ ((S 9 p1) + 1 - ((l2_43 + (1 : Int)) + (1 : Int))) < ((S 9 p1) + 1 - l2_43)))))) ∧ ((¬ (¬ (1 : Int) = (0 : Int))) → (sv_R (l2_43 + (1 : Int))) ∧ (0 ≤ (S 1004 0) ∧ (S 1004 0) ≤ 4000 ∧ 0 ≤ (l2_43 + (1 : Int))) ∧ (sv_R ((if (l2_43 + (1 : Int)) < (S 1004 0) then (S 2 (l2_43 + (1 : Int))) % 256 else 0))) ∧ (0 ≤ (g42 1011 0) ∧ (g42 1011 0) < 200 ∧ 0 ≤ ((if (l2_43 + (1 : Int)) < (S 1004 0) then (S 2 (l2_43 + (1 : Int))) % 256 else 0)) ∧ ((if (l2_43 + (1 : Int)) < (S 1004 0) then (S 2 (l2_43 + (1 : Int))) % 256 else 0)) ≤ 65535) ∧ (∀ g214 : sv_S, ((g214 1011 0) = (g42 1011 0) + 1) → (sv_R ((l2_43 + (1 : Int)) + (1 : Int))) ∧ (((S 8 p1) + 1 ≤ ((l2_43 + (1 : Int)) + (1 : Int)) ∧ ((l2_43 + (1 : Int)) + (1 : Int)) ≤ (S 9 p1) + 1 ∧ 0 ≤ (g214 1011 0) ∧ (g214 1011 0) ≤ ((l2_43 + (1 : Int)) + (1 : Int)) - (S 8 p1) - 1) ∧ ((S 9 p1) + 1 - ((l2_43 + (1 : Int)) + (1 : Int))) < ((S 9 p1) + 1 - l2_43)))))))))))))))))) ∧ ((¬ (¬ (S 6 p1) = (3 : Int))) → (sv_R (S 7 p1) → (0 ≤ (0 : Int) ∧ (0 : Int) ≤ 188) ∧ (∀ g224 : sv_S, (0 ≤ (g224 1011 0) ∧ (0 : Int) ≤ (g224 1011 0) ∧ (g224 1011 0) ≤ (0 : Int) + 11 ∧ (0 ≤ (S 7 p1) → (S 7 p1) ≤ 100 → (g224 1011 0) ≤ (0 : Int) + 3)) → (0 ≤ (g224 1011 0) ∧ (g224 1011 0) ≤ 90))))))) := by
  intro p1 S hok hp1 hpre
  have hz := sm_TK_at hpre.2.2.2.2.2.1 p1
  have hq := sm_TK_t hpre.2.2.2.2.2.1
  repeat' (first | (with_reducible refine And.intro ?_ ?_) | (with_reducible intro _))
  all_goals first | omega | grind
set_option maxRecDepth 8000 in
set_option maxHeartbeats 2000000 in
theorem t_nameAt : ∀ (p1 : Int) (S : sv_S), sm_ok S → sv_R p1 → (0 ≤ (S 1004 0) ∧ (S 1004 0) ≤ 4000 ∧ 1 ≤ (S 1007 0) ∧ (S 1007 0) ≤ 90 ∧ sm_LN (S 4) 400 (S 1007 0) ∧ sm_TK (S 6) (S 8) (S 9) (S 10) (S 1012 0) ∧ 0 ≤ p1 ∧ p1 < (S 1012 0) ∧ 1 ≤ (S 6 p1) ∧ (S 6 p1) ≤ 4) → sv_T sm_XS sm_cs sm_L sm_sh 2 (q_nameAt p1 S) 30 0 (lv_args 0 [.ref 0, sv_I p1]) [] S := by
  intro p1 S hok hp1 hpre
  have h := f_nameAt p1 S hok hp1 hpre
  have hM := sm_h30
  show sv_T sm_XS sm_cs sm_L sm_sh 2 (q_nameAt p1 S) 30 0 [(0, .ref 0), (1, sv_I p1)] [] S
  have J13 : ∀ g1 : sv_S, sm_ok (sv_sts S [5, 1011] g1) → (0 ≤ (g1 1011 0) ∧ (g1 1011 0) ≤ 90) → sv_T sm_XS sm_cs sm_L sm_sh 2 (q_nameAt p1 S) 30 179 [(0, .ref 0), (1, sv_I p1)] [] (sv_sts S [5, 1011] g1) := by
    intro  g1 ok2 hin3
    have h := h.1 g1 hin3
    have md4 : sv_mod [5, 1011, 3, 4, 1007, 1009] S (sv_sts S [5, 1011] g1) := sv_mod.sts sv_mod.rf (by decide)
    have md5 : sv_mod [5, 1011] S (sv_sts S [5, 1011] g1) := sv_mod.sts sv_mod.rf (by decide)
    refine sv_aload_n hM dX12_nameAt_179 rfl rfl ?_
    obtain ⟨o6, h⟩ := h
    refine sv_callV hM dX12_nameAt_180 sm_iv_413 (by decide) (sm_a0 _) rfl rfl (Nat.le_of_ble_eq_true rfl) sm_h8 (Nat.le_of_ble_eq_true rfl) (Nat.le_of_ble_eq_true rfl) (F' := 1) (Nat.le_of_ble_eq_true rfl) rfl (t_nameOfText  (sv_sts S [5, 1011] g1) ok2 o6) (fun v S1 hq => ?_)
    obtain ⟨r11, rfl, hr11, ok8, md9, hpo10⟩ := hq
    obtain ⟨g7, rfl⟩ : ∃ g, S1 = sv_sts (sv_sts S [5, 1011] g1) [3, 4, 1007, 1009] g := ⟨_, md9.eq⟩
    show sv_T sm_XS sm_cs sm_L sm_sh 2 (q_nameAt p1 S) 30 183 [(0, .ref 0), (1, sv_I p1)] [sv_I r11] (sv_sts (sv_sts S [5, 1011] g1) [3, 4, 1007, 1009] g7)
    have md12 : sv_mod [5, 1011, 3, 4, 1007, 1009] S (sv_sts (sv_sts S [5, 1011] g1) [3, 4, 1007, 1009] g7) := sv_mod.sts md4 (by decide)
    have h := h r11 hr11 g7 hpo10
    exact sv_iret hM dX12_nameAt_183 rfl rfl ⟨r11, rfl, hr11, ok8, md12, h⟩
  have h := h.2
  refine sv_aload_n hM dX12_nameAt_0 rfl rfl ?_
  refine sv_iconst (d := (0 : Int)) hM dX12_nameAt_1 rfl rfl ?_
  refine sv_putI sm_X hM dX12_nameAt_2 sm_fp_299 (sm_a0 _) sm_q11 (Or.inl rfl) rfl rfl rfl rfl ?_
  have ok14 : sm_ok (sv_up S 1011 0 (0 : Int)) := sm_upI hok sm_r1011 (⟨by decide, by decide⟩ : sv_R (0 : Int))
  have md15 : sv_mod [5, 1011, 3, 4, 1007, 1009] S (sv_up S 1011 0 (0 : Int)) := sv_mod.up sv_mod.rf (by decide)
  have md16 : sv_mod [5, 1011] S (sv_up S 1011 0 (0 : Int)) := sv_mod.up (sv_mod.rf (l := [5, 1011]) (S := S)) (by decide)
  refine sv_aload_n hM dX12_nameAt_5 rfl rfl ?_
  refine sv_getA hM dX12_nameAt_6 sm_fl_27 (sm_a0 _) sm_k13 rfl ?_
  refine sv_iload_n hM dX12_nameAt_9 rfl rfl ?_
  obtain ⟨o17, h⟩ := h
  have k18 : sv_R (S 6 p1) := sm_okI ok14 sm_r6 p1
  have h := h k18
  refine sv_iald hM dX12_nameAt_10 (sm_a6 _) (by decide) o17.1 o17.2 rfl (x := (S 6 p1)) rfl ?_
  refine sv_iconst (d := (3 : Int)) hM dX12_nameAt_11 rfl rfl ?_
  refine sv_icmp_ne hM dX12_nameAt_12 k18 (⟨by decide, by decide⟩ : sv_R (3 : Int)) (t := 28) rfl rfl (fun hc => ?_) (fun hc => ?_)
  · have h := h.1 (hc)
    refine sv_aload_n hM dX12_nameAt_28 rfl rfl ?_
    refine sv_getA hM dX12_nameAt_29 sm_fl_27 (sm_a0 _) sm_k13 rfl ?_
    refine sv_iload_n hM dX12_nameAt_32 rfl rfl ?_
    refine sv_iald hM dX12_nameAt_33 (sm_a6 _) (by decide) o17.1 o17.2 rfl (x := (S 6 p1)) rfl ?_
    refine sv_iconst (d := (4 : Int)) hM dX12_nameAt_34 rfl rfl ?_
    refine sv_icmp_ne hM dX12_nameAt_35 k18 (⟨by decide, by decide⟩ : sv_R (4 : Int)) (t := 147) rfl rfl (fun hc => ?_) (fun hc => ?_)
    · have h := h.1 (hc)
      refine sv_aload_n hM dX12_nameAt_147 rfl rfl ?_
      refine sv_getA hM dX12_nameAt_148 sm_fl_33 (sm_a0 _) sm_k15 rfl ?_
      refine sv_iload_n hM dX12_nameAt_151 rfl rfl ?_
      have k19 : sv_R (S 8 p1) := sm_okI ok14 sm_r8 p1
      have h := h k19
      refine sv_iald hM dX12_nameAt_152 (sm_a8 _) (by decide) o17.1 o17.2 rfl (x := (S 8 p1)) rfl ?_
      refine sv_istore_n hM dX12_nameAt_153 (by decide) rfl ?_
      show sv_T sm_XS sm_cs sm_L sm_sh 2 (q_nameAt p1 S) 30 154 [(0, .ref 0), (1, sv_I p1), (2, sv_I (S 8 p1))] [] (sv_up S 1011 0 (0 : Int))
      obtain ⟨hin23, h⟩ := h
      have hJ : ∀ a : Int × sv_S, (sv_R a.1 ∧ sm_ok (sv_sts (sv_up S 1011 0 (0 : Int)) [5, 1011] a.2) ∧ ((S 8 p1) ≤ a.1 ∧ a.1 ≤ (S 9 p1) ∧ 0 ≤ (a.2 1011 0) ∧ (a.2 1011 0) ≤ a.1 - (S 8 p1))) → sv_T sm_XS sm_cs sm_L sm_sh 2 (q_nameAt p1 S) 30 154 [(0, .ref 0), (1, sv_I p1), (2, sv_I a.1)] [] (sv_sts (sv_up S 1011 0 (0 : Int)) [5, 1011] a.2) := by
        refine sv_loop (α := Int × sv_S) (fun a => sv_R a.1 ∧ sm_ok (sv_sts (sv_up S 1011 0 (0 : Int)) [5, 1011] a.2) ∧ ((S 8 p1) ≤ a.1 ∧ a.1 ≤ (S 9 p1) ∧ 0 ≤ (a.2 1011 0) ∧ (a.2 1011 0) ≤ a.1 - (S 8 p1))) (fun a => (S 9 p1) - a.1) (fun a => sv_T sm_XS sm_cs sm_L sm_sh 2 (q_nameAt p1 S) 30 154 [(0, .ref 0), (1, sv_I p1), (2, sv_I a.1)] [] (sv_sts (sv_up S 1011 0 (0 : Int)) [5, 1011] a.2)) (fun a q => (h a.1 q.1 a.2 q.2.2).1) (fun a q ih22 => ?_)
        obtain ⟨l2_21, g20⟩ := a
        obtain ⟨hl2_21, ok24, hin23i⟩ := q
        have h := (h l2_21 hl2_21 g20 hin23i).2
        show sv_T sm_XS sm_cs sm_L sm_sh 2 (q_nameAt p1 S) 30 154 [(0, .ref 0), (1, sv_I p1), (2, sv_I l2_21)] [] (sv_sts (sv_up S 1011 0 (0 : Int)) [5, 1011] g20)
        have md25 : sv_mod [5, 1011, 3, 4, 1007, 1009] S (sv_sts (sv_up S 1011 0 (0 : Int)) [5, 1011] g20) := sv_mod.sts md15 (by decide)
        have md26 : sv_mod [5, 1011] S (sv_sts (sv_up S 1011 0 (0 : Int)) [5, 1011] g20) := sv_mod.sts md16 (by decide)
        have md27 : sv_mod [5, 1011] (sv_up S 1011 0 (0 : Int)) (sv_sts (sv_up S 1011 0 (0 : Int)) [5, 1011] g20) := sv_mod.sts sv_mod.rf (by decide)
        refine sv_iload_n hM dX12_nameAt_154 rfl rfl ?_
        refine sv_aload_n hM dX12_nameAt_155 rfl rfl ?_
        refine sv_getA hM dX12_nameAt_156 sm_fl_36 (sm_a0 _) sm_k16 rfl ?_
        refine sv_iload_n hM dX12_nameAt_159 rfl rfl ?_
        have k28 : sv_R (S 9 p1) := sm_okI ok24 sm_r9 p1
        have h := h k28
        refine sv_iald hM dX12_nameAt_160 (sm_a9 _) (by decide) o17.1 o17.2 rfl (x := (S 9 p1)) rfl ?_
        refine sv_icmp_ge hM dX12_nameAt_161 hl2_21 k28 (t := 179) rfl rfl (fun hc => ?_) (fun hc => ?_)
        · have h := h.1 (hc)
          have eS := sv_mod.eq md26
          have hb := J13 (sv_sts (sv_up S 1011 0 (0 : Int)) [5, 1011] g20) (by rw [← eS]; exact ok24) h
          have hb : sv_T sm_XS sm_cs sm_L sm_sh 2 (q_nameAt p1 S) 30 179 [(0, .ref 0), (1, sv_I p1)] [] (sv_sts (sv_up S 1011 0 (0 : Int)) [5, 1011] g20) := Eq.mpr (congrArg (fun Z => sv_T sm_XS sm_cs sm_L sm_sh 2 (q_nameAt p1 S) 30 179 [(0, .ref 0), (1, sv_I p1)] [] Z) eS) hb
          exact sv_less (lv := [(0, .ref 0), (1, sv_I p1)]) (sv_Sub_cons rfl (sv_Sub_cons rfl sv_Sub_nil)) hb
        · have h := h.2 (hc)
          refine sv_aload_n hM dX12_nameAt_164 rfl rfl ?_
          refine sv_aload_n hM dX12_nameAt_165 rfl rfl ?_
          refine sv_iload_n hM dX12_nameAt_166 rfl rfl ?_
          obtain ⟨o29, h⟩ := h
          refine sv_callV hM dX12_nameAt_167 sm_iv_334 (by decide) (sm_a0 _) rfl rfl (Nat.le_of_ble_eq_true rfl) sm_h10 (Nat.le_of_ble_eq_true rfl) (Nat.le_of_ble_eq_true rfl) (F' := 0) (Nat.le_of_ble_eq_true rfl) rfl (t_look l2_21 (sv_sts (sv_up S 1011 0 (0 : Int)) [5, 1011] g20) ok24 hl2_21 o29) (fun v S1 hq => ?_)
          obtain ⟨rfl, hS1⟩ := hq
          obtain rfl : (sv_sts (sv_up S 1011 0 (0 : Int)) [5, 1011] g20) = S1 := hS1.symm
          show sv_T sm_XS sm_cs sm_L sm_sh 2 (q_nameAt p1 S) 30 170 [(0, .ref 0), (1, sv_I p1), (2, sv_I l2_21)] [sv_I ((if l2_21 < (S 1004 0) then (S 2 l2_21) % 256 else 0)), .ref 0] (sv_sts (sv_up S 1011 0 (0 : Int)) [5, 1011] g20)
          obtain ⟨o30, h⟩ := h
          obtain ⟨o31, h⟩ := h
          refine sv_callV hM dX12_nameAt_170 sm_iv_324 (by decide) (sm_a0 _) rfl rfl (Nat.le_of_ble_eq_true rfl) sm_h7 (Nat.le_of_ble_eq_true rfl) (Nat.le_of_ble_eq_true rfl) (F' := 0) (Nat.le_of_ble_eq_true rfl) rfl (t_put ((if l2_21 < (S 1004 0) then (S 2 l2_21) % 256 else 0)) (sv_sts (sv_up S 1011 0 (0 : Int)) [5, 1011] g20) ok24 o30 o31) (fun v S1 hq => ?_)
          obtain ⟨rfl, ok33, md34, hpo35⟩ := hq
          obtain ⟨g32, rfl⟩ : ∃ g, S1 = sv_sts (sv_sts (sv_up S 1011 0 (0 : Int)) [5, 1011] g20) [5, 1011] g := ⟨_, md34.eq⟩
          show sv_T sm_XS sm_cs sm_L sm_sh 2 (q_nameAt p1 S) 30 173 [(0, .ref 0), (1, sv_I p1), (2, sv_I l2_21)] [] (sv_sts (sv_sts (sv_up S 1011 0 (0 : Int)) [5, 1011] g20) [5, 1011] g32)
          have md36 : sv_mod [5, 1011, 3, 4, 1007, 1009] S (sv_sts (sv_sts (sv_up S 1011 0 (0 : Int)) [5, 1011] g20) [5, 1011] g32) := sv_mod.sts md25 (by decide)
          have md37 : sv_mod [5, 1011] S (sv_sts (sv_sts (sv_up S 1011 0 (0 : Int)) [5, 1011] g20) [5, 1011] g32) := sv_mod.sts md26 (by decide)
          have md38 : sv_mod [5, 1011] (sv_up S 1011 0 (0 : Int)) (sv_sts (sv_sts (sv_up S 1011 0 (0 : Int)) [5, 1011] g20) [5, 1011] g32) := sv_mod.sts md27 (by decide)
          have h := h g32 hpo35
          refine sv_iinc (d := (1 : Int)) hM dX12_nameAt_173 rfl (by decide) rfl rfl ?_
          show sv_T sm_XS sm_cs sm_L sm_sh 2 (q_nameAt p1 S) 30 176 [(0, .ref 0), (1, sv_I p1), (2, sv_I (l2_21 + (1 : Int)))] [] (sv_sts (sv_sts (sv_up S 1011 0 (0 : Int)) [5, 1011] g20) [5, 1011] g32)
          refine sv_goto hM dX12_nameAt_176 (pc' := 154) rfl ?_
          obtain ⟨o39, h⟩ := h
          have eS := sv_mod.eq md38
          have hb := ih22 ((l2_21 + (1 : Int)), (sv_sts (sv_sts (sv_up S 1011 0 (0 : Int)) [5, 1011] g20) [5, 1011] g32)) ⟨o39, (by rw [← eS]; exact ok33), h.1⟩ h.2
          have hb : sv_T sm_XS sm_cs sm_L sm_sh 2 (q_nameAt p1 S) 30 154 [(0, .ref 0), (1, sv_I p1), (2, sv_I (l2_21 + (1 : Int)))] [] (sv_sts (sv_sts (sv_up S 1011 0 (0 : Int)) [5, 1011] g20) [5, 1011] g32) := Eq.mpr (congrArg (fun Z => sv_T sm_XS sm_cs sm_L sm_sh 2 (q_nameAt p1 S) 30 154 [(0, .ref 0), (1, sv_I p1), (2, sv_I (l2_21 + (1 : Int)))] [] Z) eS) hb
          exact sv_less (lv := [(0, .ref 0), (1, sv_I p1), (2, sv_I (l2_21 + (1 : Int)))]) (sv_Sub_cons rfl (sv_Sub_cons rfl (sv_Sub_cons rfl sv_Sub_nil))) hb
      have eS := sv_mod.eq (sv_mod.rf (l := [5, 1011]) (S := (sv_up S 1011 0 (0 : Int))))
      have hb := hJ ((S 8 p1), (sv_up S 1011 0 (0 : Int))) ⟨k19, (by rw [← eS]; exact ok14), hin23⟩
      have hb : sv_T sm_XS sm_cs sm_L sm_sh 2 (q_nameAt p1 S) 30 154 [(0, .ref 0), (1, sv_I p1), (2, sv_I (S 8 p1))] [] (sv_up S 1011 0 (0 : Int)) := Eq.mpr (congrArg (fun Z => sv_T sm_XS sm_cs sm_L sm_sh 2 (q_nameAt p1 S) 30 154 [(0, .ref 0), (1, sv_I p1), (2, sv_I (S 8 p1))] [] Z) eS) hb
      exact hb
    · have h := h.2 (hc)
      refine sv_aload_n hM dX12_nameAt_38 rfl rfl ?_
      refine sv_getA hM dX12_nameAt_39 sm_fl_33 (sm_a0 _) sm_k15 rfl ?_
      refine sv_iload_n hM dX12_nameAt_42 rfl rfl ?_
      have k40 : sv_R (S 8 p1) := sm_okI ok14 sm_r8 p1
      have h := h k40
      refine sv_iald hM dX12_nameAt_43 (sm_a8 _) (by decide) o17.1 o17.2 rfl (x := (S 8 p1)) rfl ?_
      refine sv_iconst (d := (1 : Int)) hM dX12_nameAt_44 rfl rfl ?_
      refine sv_iadd hM dX12_nameAt_45 rfl ?_
      refine sv_istore_n hM dX12_nameAt_46 (by decide) rfl ?_
      show sv_T sm_XS sm_cs sm_L sm_sh 2 (q_nameAt p1 S) 30 47 [(0, .ref 0), (1, sv_I p1), (2, sv_I ((S 8 p1) + (1 : Int)))] [] (sv_up S 1011 0 (0 : Int))
      obtain ⟨o41, h⟩ := h
      obtain ⟨hin45, h⟩ := h
      have hJ : ∀ a : Int × sv_S, (sv_R a.1 ∧ sm_ok (sv_sts (sv_up S 1011 0 (0 : Int)) [5, 1011] a.2) ∧ ((S 8 p1) + 1 ≤ a.1 ∧ a.1 ≤ (S 9 p1) + 1 ∧ 0 ≤ (a.2 1011 0) ∧ (a.2 1011 0) ≤ a.1 - (S 8 p1) - 1)) → sv_T sm_XS sm_cs sm_L sm_sh 2 (q_nameAt p1 S) 30 47 [(0, .ref 0), (1, sv_I p1), (2, sv_I a.1)] [] (sv_sts (sv_up S 1011 0 (0 : Int)) [5, 1011] a.2) := by
        refine sv_loop (α := Int × sv_S) (fun a => sv_R a.1 ∧ sm_ok (sv_sts (sv_up S 1011 0 (0 : Int)) [5, 1011] a.2) ∧ ((S 8 p1) + 1 ≤ a.1 ∧ a.1 ≤ (S 9 p1) + 1 ∧ 0 ≤ (a.2 1011 0) ∧ (a.2 1011 0) ≤ a.1 - (S 8 p1) - 1)) (fun a => (S 9 p1) + 1 - a.1) (fun a => sv_T sm_XS sm_cs sm_L sm_sh 2 (q_nameAt p1 S) 30 47 [(0, .ref 0), (1, sv_I p1), (2, sv_I a.1)] [] (sv_sts (sv_up S 1011 0 (0 : Int)) [5, 1011] a.2)) (fun a q => (h a.1 q.1 a.2 q.2.2).1) (fun a q ih44 => ?_)
        obtain ⟨l2_43, g42⟩ := a
        obtain ⟨hl2_43, ok46, hin45i⟩ := q
        have h := (h l2_43 hl2_43 g42 hin45i).2
        show sv_T sm_XS sm_cs sm_L sm_sh 2 (q_nameAt p1 S) 30 47 [(0, .ref 0), (1, sv_I p1), (2, sv_I l2_43)] [] (sv_sts (sv_up S 1011 0 (0 : Int)) [5, 1011] g42)
        have md47 : sv_mod [5, 1011, 3, 4, 1007, 1009] S (sv_sts (sv_up S 1011 0 (0 : Int)) [5, 1011] g42) := sv_mod.sts md15 (by decide)
        have md48 : sv_mod [5, 1011] S (sv_sts (sv_up S 1011 0 (0 : Int)) [5, 1011] g42) := sv_mod.sts md16 (by decide)
        have md49 : sv_mod [5, 1011] (sv_up S 1011 0 (0 : Int)) (sv_sts (sv_up S 1011 0 (0 : Int)) [5, 1011] g42) := sv_mod.sts sv_mod.rf (by decide)
        refine sv_iload_n hM dX12_nameAt_47 rfl rfl ?_
        refine sv_aload_n hM dX12_nameAt_48 rfl rfl ?_
        refine sv_getA hM dX12_nameAt_49 sm_fl_36 (sm_a0 _) sm_k16 rfl ?_
        refine sv_iload_n hM dX12_nameAt_52 rfl rfl ?_
        have k50 : sv_R (S 9 p1) := sm_okI ok46 sm_r9 p1
        have h := h k50
        refine sv_iald hM dX12_nameAt_53 (sm_a9 _) (by decide) o17.1 o17.2 rfl (x := (S 9 p1)) rfl ?_
        refine sv_iconst (d := (1 : Int)) hM dX12_nameAt_54 rfl rfl ?_
        refine sv_isub hM dX12_nameAt_55 rfl ?_
        obtain ⟨o51, h⟩ := h
        refine sv_icmp_ge hM dX12_nameAt_56 hl2_43 o51 (t := 144) rfl rfl (fun hc => ?_) (fun hc => ?_)
        · have h := h.1 (hc)
          refine sv_goto hM dX12_nameAt_144 (pc' := 179) rfl ?_
          have eS := sv_mod.eq md48
          have hb := J13 (sv_sts (sv_up S 1011 0 (0 : Int)) [5, 1011] g42) (by rw [← eS]; exact ok46) h
          have hb : sv_T sm_XS sm_cs sm_L sm_sh 2 (q_nameAt p1 S) 30 179 [(0, .ref 0), (1, sv_I p1)] [] (sv_sts (sv_up S 1011 0 (0 : Int)) [5, 1011] g42) := Eq.mpr (congrArg (fun Z => sv_T sm_XS sm_cs sm_L sm_sh 2 (q_nameAt p1 S) 30 179 [(0, .ref 0), (1, sv_I p1)] [] Z) eS) hb
          exact sv_less (lv := [(0, .ref 0), (1, sv_I p1)]) (sv_Sub_cons rfl (sv_Sub_cons rfl sv_Sub_nil)) hb
        · have h := h.2 (hc)
          refine sv_aload_n hM dX12_nameAt_59 rfl rfl ?_
          refine sv_iload_n hM dX12_nameAt_60 rfl rfl ?_
          obtain ⟨o52, h⟩ := h
          refine sv_callV hM dX12_nameAt_61 sm_iv_334 (by decide) (sm_a0 _) rfl rfl (Nat.le_of_ble_eq_true rfl) sm_h10 (Nat.le_of_ble_eq_true rfl) (Nat.le_of_ble_eq_true rfl) (F' := 0) (Nat.le_of_ble_eq_true rfl) rfl (t_look l2_43 (sv_sts (sv_up S 1011 0 (0 : Int)) [5, 1011] g42) ok46 hl2_43 o52) (fun v S1 hq => ?_)
          obtain ⟨rfl, hS1⟩ := hq
          obtain rfl : (sv_sts (sv_up S 1011 0 (0 : Int)) [5, 1011] g42) = S1 := hS1.symm
          show sv_T sm_XS sm_cs sm_L sm_sh 2 (q_nameAt p1 S) 30 64 [(0, .ref 0), (1, sv_I p1), (2, sv_I l2_43)] [sv_I ((if l2_43 < (S 1004 0) then (S 2 l2_43) % 256 else 0))] (sv_sts (sv_up S 1011 0 (0 : Int)) [5, 1011] g42)
          refine sv_bipush (d := (92 : Int)) hM dX12_nameAt_64 rfl rfl ?_
          obtain ⟨o53, h⟩ := h
          refine sv_icmp_ne hM dX12_nameAt_66 o53 (⟨by decide, by decide⟩ : sv_R (92 : Int)) (t := 73) rfl rfl (fun hc => ?_) (fun hc => ?_)
          · have h := h.1 (hc)
            refine sv_iconst (d := (0 : Int)) hM dX12_nameAt_73 rfl rfl ?_
            refine sv_istore_n hM dX12_nameAt_74 (by decide) rfl ?_
            show sv_T sm_XS sm_cs sm_L sm_sh 2 (q_nameAt p1 S) 30 75 [(0, .ref 0), (1, sv_I p1), (2, sv_I l2_43), (3, sv_I (0 : Int))] [] (sv_sts (sv_up S 1011 0 (0 : Int)) [5, 1011] g42)
            refine sv_iload_n hM dX12_nameAt_75 rfl rfl ?_
            refine sv_iload_n hM dX12_nameAt_76 rfl rfl ?_
            refine sv_cond_eq hM dX12_nameAt_77 (⟨by decide, by decide⟩ : sv_R (0 : Int)) (t := 84) rfl rfl (fun hc => ?_) (fun hc => ?_)
            · have h := h.1 (hc)
              refine sv_iconst (d := (0 : Int)) hM dX12_nameAt_84 rfl rfl ?_
              refine sv_iadd hM dX12_nameAt_85 rfl ?_
              refine sv_istore_n hM dX12_nameAt_86 (by decide) rfl ?_
              show sv_T sm_XS sm_cs sm_L sm_sh 2 (q_nameAt p1 S) 30 87 [(0, .ref 0), (1, sv_I p1), (2, sv_I (l2_43 + (0 : Int))), (3, sv_I (0 : Int))] [] (sv_sts (sv_up S 1011 0 (0 : Int)) [5, 1011] g42)
              refine sv_aload_n hM dX12_nameAt_87 rfl rfl ?_
              refine sv_iload_n hM dX12_nameAt_88 rfl rfl ?_
              refine sv_cond_ne hM dX12_nameAt_89 (⟨by decide, by decide⟩ : sv_R (0 : Int)) (t := 100) rfl rfl (fun hc => ?_) (fun hc => ?_)
              · have h := h.1 (hc)
                refine sv_aload_n hM dX12_nameAt_100 rfl rfl ?_
                refine sv_iload_n hM dX12_nameAt_101 rfl rfl ?_
                obtain ⟨o54, h⟩ := h
                obtain ⟨o55, h⟩ := h
                refine sv_callV hM dX12_nameAt_102 sm_iv_334 (by decide) (sm_a0 _) rfl rfl (Nat.le_of_ble_eq_true rfl) sm_h10 (Nat.le_of_ble_eq_true rfl) (Nat.le_of_ble_eq_true rfl) (F' := 0) (Nat.le_of_ble_eq_true rfl) rfl (t_look (l2_43 + (0 : Int)) (sv_sts (sv_up S 1011 0 (0 : Int)) [5, 1011] g42) ok46 o54 o55) (fun v S1 hq => ?_)
                obtain ⟨rfl, hS1⟩ := hq
                obtain rfl : (sv_sts (sv_up S 1011 0 (0 : Int)) [5, 1011] g42) = S1 := hS1.symm
                show sv_T sm_XS sm_cs sm_L sm_sh 2 (q_nameAt p1 S) 30 105 [(0, .ref 0), (1, sv_I p1), (2, sv_I (l2_43 + (0 : Int))), (3, sv_I (0 : Int))] [sv_I ((if (l2_43 + (0 : Int)) < (S 1004 0) then (S 2 (l2_43 + (0 : Int))) % 256 else 0)), .ref 0] (sv_sts (sv_up S 1011 0 (0 : Int)) [5, 1011] g42)
                refine sv_bipush (d := (110 : Int)) hM dX12_nameAt_105 rfl rfl ?_
                obtain ⟨o56, h⟩ := h
                refine sv_icmp_ne hM dX12_nameAt_107 o56 (⟨by decide, by decide⟩ : sv_R (110 : Int)) (t := 115) rfl rfl (fun hc => ?_) (fun hc => ?_)
                · have h := h.1 (hc)
                  refine sv_aload_n hM dX12_nameAt_115 rfl rfl ?_
                  refine sv_iload_n hM dX12_nameAt_116 rfl rfl ?_
                  refine sv_callV hM dX12_nameAt_117 sm_iv_334 (by decide) (sm_a0 _) rfl rfl (Nat.le_of_ble_eq_true rfl) sm_h10 (Nat.le_of_ble_eq_true rfl) (Nat.le_of_ble_eq_true rfl) (F' := 0) (Nat.le_of_ble_eq_true rfl) rfl (t_look (l2_43 + (0 : Int)) (sv_sts (sv_up S 1011 0 (0 : Int)) [5, 1011] g42) ok46 o54 o55) (fun v S1 hq => ?_)
                  obtain ⟨rfl, hS1⟩ := hq
                  obtain rfl : (sv_sts (sv_up S 1011 0 (0 : Int)) [5, 1011] g42) = S1 := hS1.symm
                  show sv_T sm_XS sm_cs sm_L sm_sh 2 (q_nameAt p1 S) 30 120 [(0, .ref 0), (1, sv_I p1), (2, sv_I (l2_43 + (0 : Int))), (3, sv_I (0 : Int))] [sv_I ((if (l2_43 + (0 : Int)) < (S 1004 0) then (S 2 (l2_43 + (0 : Int))) % 256 else 0)), .ref 0] (sv_sts (sv_up S 1011 0 (0 : Int)) [5, 1011] g42)
                  refine sv_bipush (d := (116 : Int)) hM dX12_nameAt_120 rfl rfl ?_
                  refine sv_icmp_ne hM dX12_nameAt_122 o56 (⟨by decide, by decide⟩ : sv_R (116 : Int)) (t := 130) rfl rfl (fun hc => ?_) (fun hc => ?_)
                  · have h := h.1 (hc)
                    refine sv_aload_n hM dX12_nameAt_130 rfl rfl ?_
                    refine sv_iload_n hM dX12_nameAt_131 rfl rfl ?_
                    refine sv_callV hM dX12_nameAt_132 sm_iv_334 (by decide) (sm_a0 _) rfl rfl (Nat.le_of_ble_eq_true rfl) sm_h10 (Nat.le_of_ble_eq_true rfl) (Nat.le_of_ble_eq_true rfl) (F' := 0) (Nat.le_of_ble_eq_true rfl) rfl (t_look (l2_43 + (0 : Int)) (sv_sts (sv_up S 1011 0 (0 : Int)) [5, 1011] g42) ok46 o54 o55) (fun v S1 hq => ?_)
                    obtain ⟨rfl, hS1⟩ := hq
                    obtain rfl : (sv_sts (sv_up S 1011 0 (0 : Int)) [5, 1011] g42) = S1 := hS1.symm
                    show sv_T sm_XS sm_cs sm_L sm_sh 2 (q_nameAt p1 S) 30 135 [(0, .ref 0), (1, sv_I p1), (2, sv_I (l2_43 + (0 : Int))), (3, sv_I (0 : Int))] [sv_I ((if (l2_43 + (0 : Int)) < (S 1004 0) then (S 2 (l2_43 + (0 : Int))) % 256 else 0)), .ref 0] (sv_sts (sv_up S 1011 0 (0 : Int)) [5, 1011] g42)
                    obtain ⟨o57, h⟩ := h
                    refine sv_callV hM dX12_nameAt_135 sm_iv_324 (by decide) (sm_a0 _) rfl rfl (Nat.le_of_ble_eq_true rfl) sm_h7 (Nat.le_of_ble_eq_true rfl) (Nat.le_of_ble_eq_true rfl) (F' := 0) (Nat.le_of_ble_eq_true rfl) rfl (t_put ((if (l2_43 + (0 : Int)) < (S 1004 0) then (S 2 (l2_43 + (0 : Int))) % 256 else 0)) (sv_sts (sv_up S 1011 0 (0 : Int)) [5, 1011] g42) ok46 o56 o57) (fun v S1 hq => ?_)
                    obtain ⟨rfl, ok59, md60, hpo61⟩ := hq
                    obtain ⟨g58, rfl⟩ : ∃ g, S1 = sv_sts (sv_sts (sv_up S 1011 0 (0 : Int)) [5, 1011] g42) [5, 1011] g := ⟨_, md60.eq⟩
                    show sv_T sm_XS sm_cs sm_L sm_sh 2 (q_nameAt p1 S) 30 138 [(0, .ref 0), (1, sv_I p1), (2, sv_I (l2_43 + (0 : Int))), (3, sv_I (0 : Int))] [] (sv_sts (sv_sts (sv_up S 1011 0 (0 : Int)) [5, 1011] g42) [5, 1011] g58)
                    have md62 : sv_mod [5, 1011, 3, 4, 1007, 1009] S (sv_sts (sv_sts (sv_up S 1011 0 (0 : Int)) [5, 1011] g42) [5, 1011] g58) := sv_mod.sts md47 (by decide)
                    have md63 : sv_mod [5, 1011] S (sv_sts (sv_sts (sv_up S 1011 0 (0 : Int)) [5, 1011] g42) [5, 1011] g58) := sv_mod.sts md48 (by decide)
                    have md64 : sv_mod [5, 1011] (sv_up S 1011 0 (0 : Int)) (sv_sts (sv_sts (sv_up S 1011 0 (0 : Int)) [5, 1011] g42) [5, 1011] g58) := sv_mod.sts md49 (by decide)
                    have h := h g58 hpo61
                    refine sv_iinc (d := (1 : Int)) hM dX12_nameAt_138 rfl (by decide) rfl rfl ?_
                    show sv_T sm_XS sm_cs sm_L sm_sh 2 (q_nameAt p1 S) 30 141 [(0, .ref 0), (1, sv_I p1), (2, sv_I ((l2_43 + (0 : Int)) + (1 : Int))), (3, sv_I (0 : Int))] [] (sv_sts (sv_sts (sv_up S 1011 0 (0 : Int)) [5, 1011] g42) [5, 1011] g58)
                    refine sv_goto hM dX12_nameAt_141 (pc' := 47) rfl ?_
                    obtain ⟨o65, h⟩ := h
                    have eS := sv_mod.eq md64
                    have hb := ih44 (((l2_43 + (0 : Int)) + (1 : Int)), (sv_sts (sv_sts (sv_up S 1011 0 (0 : Int)) [5, 1011] g42) [5, 1011] g58)) ⟨o65, (by rw [← eS]; exact ok59), h.1⟩ h.2
                    have hb : sv_T sm_XS sm_cs sm_L sm_sh 2 (q_nameAt p1 S) 30 47 [(0, .ref 0), (1, sv_I p1), (2, sv_I ((l2_43 + (0 : Int)) + (1 : Int)))] [] (sv_sts (sv_sts (sv_up S 1011 0 (0 : Int)) [5, 1011] g42) [5, 1011] g58) := Eq.mpr (congrArg (fun Z => sv_T sm_XS sm_cs sm_L sm_sh 2 (q_nameAt p1 S) 30 47 [(0, .ref 0), (1, sv_I p1), (2, sv_I ((l2_43 + (0 : Int)) + (1 : Int)))] [] Z) eS) hb
                    exact sv_less (lv := [(0, .ref 0), (1, sv_I p1), (2, sv_I ((l2_43 + (0 : Int)) + (1 : Int)))]) (sv_Sub_cons rfl (sv_Sub_cons rfl (sv_Sub_cons rfl sv_Sub_nil))) hb
                  · have h := h.2 (hc)
                    refine sv_bipush (d := (9 : Int)) hM dX12_nameAt_125 rfl rfl ?_
                    refine sv_goto hM dX12_nameAt_127 (pc' := 135) rfl ?_
                    obtain ⟨o66, h⟩ := h
                    refine sv_callV hM dX12_nameAt_135 sm_iv_324 (by decide) (sm_a0 _) rfl rfl (Nat.le_of_ble_eq_true rfl) sm_h7 (Nat.le_of_ble_eq_true rfl) (Nat.le_of_ble_eq_true rfl) (F' := 0) (Nat.le_of_ble_eq_true rfl) rfl (t_put (9 : Int) (sv_sts (sv_up S 1011 0 (0 : Int)) [5, 1011] g42) ok46 (⟨by decide, by decide⟩ : sv_R (9 : Int)) o66) (fun v S1 hq => ?_)
                    obtain ⟨rfl, ok68, md69, hpo70⟩ := hq
                    obtain ⟨g67, rfl⟩ : ∃ g, S1 = sv_sts (sv_sts (sv_up S 1011 0 (0 : Int)) [5, 1011] g42) [5, 1011] g := ⟨_, md69.eq⟩
                    show sv_T sm_XS sm_cs sm_L sm_sh 2 (q_nameAt p1 S) 30 138 [(0, .ref 0), (1, sv_I p1), (2, sv_I (l2_43 + (0 : Int))), (3, sv_I (0 : Int))] [] (sv_sts (sv_sts (sv_up S 1011 0 (0 : Int)) [5, 1011] g42) [5, 1011] g67)
                    have md71 : sv_mod [5, 1011, 3, 4, 1007, 1009] S (sv_sts (sv_sts (sv_up S 1011 0 (0 : Int)) [5, 1011] g42) [5, 1011] g67) := sv_mod.sts md47 (by decide)
                    have md72 : sv_mod [5, 1011] S (sv_sts (sv_sts (sv_up S 1011 0 (0 : Int)) [5, 1011] g42) [5, 1011] g67) := sv_mod.sts md48 (by decide)
                    have md73 : sv_mod [5, 1011] (sv_up S 1011 0 (0 : Int)) (sv_sts (sv_sts (sv_up S 1011 0 (0 : Int)) [5, 1011] g42) [5, 1011] g67) := sv_mod.sts md49 (by decide)
                    have h := h g67 hpo70
                    refine sv_iinc (d := (1 : Int)) hM dX12_nameAt_138 rfl (by decide) rfl rfl ?_
                    show sv_T sm_XS sm_cs sm_L sm_sh 2 (q_nameAt p1 S) 30 141 [(0, .ref 0), (1, sv_I p1), (2, sv_I ((l2_43 + (0 : Int)) + (1 : Int))), (3, sv_I (0 : Int))] [] (sv_sts (sv_sts (sv_up S 1011 0 (0 : Int)) [5, 1011] g42) [5, 1011] g67)
                    refine sv_goto hM dX12_nameAt_141 (pc' := 47) rfl ?_
                    obtain ⟨o74, h⟩ := h
                    have eS := sv_mod.eq md73
                    have hb := ih44 (((l2_43 + (0 : Int)) + (1 : Int)), (sv_sts (sv_sts (sv_up S 1011 0 (0 : Int)) [5, 1011] g42) [5, 1011] g67)) ⟨o74, (by rw [← eS]; exact ok68), h.1⟩ h.2
                    have hb : sv_T sm_XS sm_cs sm_L sm_sh 2 (q_nameAt p1 S) 30 47 [(0, .ref 0), (1, sv_I p1), (2, sv_I ((l2_43 + (0 : Int)) + (1 : Int)))] [] (sv_sts (sv_sts (sv_up S 1011 0 (0 : Int)) [5, 1011] g42) [5, 1011] g67) := Eq.mpr (congrArg (fun Z => sv_T sm_XS sm_cs sm_L sm_sh 2 (q_nameAt p1 S) 30 47 [(0, .ref 0), (1, sv_I p1), (2, sv_I ((l2_43 + (0 : Int)) + (1 : Int)))] [] Z) eS) hb
                    exact sv_less (lv := [(0, .ref 0), (1, sv_I p1), (2, sv_I ((l2_43 + (0 : Int)) + (1 : Int)))]) (sv_Sub_cons rfl (sv_Sub_cons rfl (sv_Sub_cons rfl sv_Sub_nil))) hb
                · have h := h.2 (hc)
                  refine sv_bipush (d := (10 : Int)) hM dX12_nameAt_110 rfl rfl ?_
                  refine sv_goto hM dX12_nameAt_112 (pc' := 135) rfl ?_
                  obtain ⟨o75, h⟩ := h
                  refine sv_callV hM dX12_nameAt_135 sm_iv_324 (by decide) (sm_a0 _) rfl rfl (Nat.le_of_ble_eq_true rfl) sm_h7 (Nat.le_of_ble_eq_true rfl) (Nat.le_of_ble_eq_true rfl) (F' := 0) (Nat.le_of_ble_eq_true rfl) rfl (t_put (10 : Int) (sv_sts (sv_up S 1011 0 (0 : Int)) [5, 1011] g42) ok46 (⟨by decide, by decide⟩ : sv_R (10 : Int)) o75) (fun v S1 hq => ?_)
                  obtain ⟨rfl, ok77, md78, hpo79⟩ := hq
                  obtain ⟨g76, rfl⟩ : ∃ g, S1 = sv_sts (sv_sts (sv_up S 1011 0 (0 : Int)) [5, 1011] g42) [5, 1011] g := ⟨_, md78.eq⟩
                  show sv_T sm_XS sm_cs sm_L sm_sh 2 (q_nameAt p1 S) 30 138 [(0, .ref 0), (1, sv_I p1), (2, sv_I (l2_43 + (0 : Int))), (3, sv_I (0 : Int))] [] (sv_sts (sv_sts (sv_up S 1011 0 (0 : Int)) [5, 1011] g42) [5, 1011] g76)
                  have md80 : sv_mod [5, 1011, 3, 4, 1007, 1009] S (sv_sts (sv_sts (sv_up S 1011 0 (0 : Int)) [5, 1011] g42) [5, 1011] g76) := sv_mod.sts md47 (by decide)
                  have md81 : sv_mod [5, 1011] S (sv_sts (sv_sts (sv_up S 1011 0 (0 : Int)) [5, 1011] g42) [5, 1011] g76) := sv_mod.sts md48 (by decide)
                  have md82 : sv_mod [5, 1011] (sv_up S 1011 0 (0 : Int)) (sv_sts (sv_sts (sv_up S 1011 0 (0 : Int)) [5, 1011] g42) [5, 1011] g76) := sv_mod.sts md49 (by decide)
                  have h := h g76 hpo79
                  refine sv_iinc (d := (1 : Int)) hM dX12_nameAt_138 rfl (by decide) rfl rfl ?_
                  show sv_T sm_XS sm_cs sm_L sm_sh 2 (q_nameAt p1 S) 30 141 [(0, .ref 0), (1, sv_I p1), (2, sv_I ((l2_43 + (0 : Int)) + (1 : Int))), (3, sv_I (0 : Int))] [] (sv_sts (sv_sts (sv_up S 1011 0 (0 : Int)) [5, 1011] g42) [5, 1011] g76)
                  refine sv_goto hM dX12_nameAt_141 (pc' := 47) rfl ?_
                  obtain ⟨o83, h⟩ := h
                  have eS := sv_mod.eq md82
                  have hb := ih44 (((l2_43 + (0 : Int)) + (1 : Int)), (sv_sts (sv_sts (sv_up S 1011 0 (0 : Int)) [5, 1011] g42) [5, 1011] g76)) ⟨o83, (by rw [← eS]; exact ok77), h.1⟩ h.2
                  have hb : sv_T sm_XS sm_cs sm_L sm_sh 2 (q_nameAt p1 S) 30 47 [(0, .ref 0), (1, sv_I p1), (2, sv_I ((l2_43 + (0 : Int)) + (1 : Int)))] [] (sv_sts (sv_sts (sv_up S 1011 0 (0 : Int)) [5, 1011] g42) [5, 1011] g76) := Eq.mpr (congrArg (fun Z => sv_T sm_XS sm_cs sm_L sm_sh 2 (q_nameAt p1 S) 30 47 [(0, .ref 0), (1, sv_I p1), (2, sv_I ((l2_43 + (0 : Int)) + (1 : Int)))] [] Z) eS) hb
                  exact sv_less (lv := [(0, .ref 0), (1, sv_I p1), (2, sv_I ((l2_43 + (0 : Int)) + (1 : Int)))]) (sv_Sub_cons rfl (sv_Sub_cons rfl (sv_Sub_cons rfl sv_Sub_nil))) hb
              · have h := h.2 (hc)
                refine sv_aload_n hM dX12_nameAt_92 rfl rfl ?_
                refine sv_iload_n hM dX12_nameAt_93 rfl rfl ?_
                obtain ⟨o84, h⟩ := h
                obtain ⟨o85, h⟩ := h
                refine sv_callV hM dX12_nameAt_94 sm_iv_334 (by decide) (sm_a0 _) rfl rfl (Nat.le_of_ble_eq_true rfl) sm_h10 (Nat.le_of_ble_eq_true rfl) (Nat.le_of_ble_eq_true rfl) (F' := 0) (Nat.le_of_ble_eq_true rfl) rfl (t_look (l2_43 + (0 : Int)) (sv_sts (sv_up S 1011 0 (0 : Int)) [5, 1011] g42) ok46 o84 o85) (fun v S1 hq => ?_)
                obtain ⟨rfl, hS1⟩ := hq
                obtain rfl : (sv_sts (sv_up S 1011 0 (0 : Int)) [5, 1011] g42) = S1 := hS1.symm
                show sv_T sm_XS sm_cs sm_L sm_sh 2 (q_nameAt p1 S) 30 97 [(0, .ref 0), (1, sv_I p1), (2, sv_I (l2_43 + (0 : Int))), (3, sv_I (0 : Int))] [sv_I ((if (l2_43 + (0 : Int)) < (S 1004 0) then (S 2 (l2_43 + (0 : Int))) % 256 else 0)), .ref 0] (sv_sts (sv_up S 1011 0 (0 : Int)) [5, 1011] g42)
                refine sv_goto hM dX12_nameAt_97 (pc' := 135) rfl ?_
                obtain ⟨o86, h⟩ := h
                obtain ⟨o87, h⟩ := h
                refine sv_callV hM dX12_nameAt_135 sm_iv_324 (by decide) (sm_a0 _) rfl rfl (Nat.le_of_ble_eq_true rfl) sm_h7 (Nat.le_of_ble_eq_true rfl) (Nat.le_of_ble_eq_true rfl) (F' := 0) (Nat.le_of_ble_eq_true rfl) rfl (t_put ((if (l2_43 + (0 : Int)) < (S 1004 0) then (S 2 (l2_43 + (0 : Int))) % 256 else 0)) (sv_sts (sv_up S 1011 0 (0 : Int)) [5, 1011] g42) ok46 o86 o87) (fun v S1 hq => ?_)
                obtain ⟨rfl, ok89, md90, hpo91⟩ := hq
                obtain ⟨g88, rfl⟩ : ∃ g, S1 = sv_sts (sv_sts (sv_up S 1011 0 (0 : Int)) [5, 1011] g42) [5, 1011] g := ⟨_, md90.eq⟩
                show sv_T sm_XS sm_cs sm_L sm_sh 2 (q_nameAt p1 S) 30 138 [(0, .ref 0), (1, sv_I p1), (2, sv_I (l2_43 + (0 : Int))), (3, sv_I (0 : Int))] [] (sv_sts (sv_sts (sv_up S 1011 0 (0 : Int)) [5, 1011] g42) [5, 1011] g88)
                have md92 : sv_mod [5, 1011, 3, 4, 1007, 1009] S (sv_sts (sv_sts (sv_up S 1011 0 (0 : Int)) [5, 1011] g42) [5, 1011] g88) := sv_mod.sts md47 (by decide)
                have md93 : sv_mod [5, 1011] S (sv_sts (sv_sts (sv_up S 1011 0 (0 : Int)) [5, 1011] g42) [5, 1011] g88) := sv_mod.sts md48 (by decide)
                have md94 : sv_mod [5, 1011] (sv_up S 1011 0 (0 : Int)) (sv_sts (sv_sts (sv_up S 1011 0 (0 : Int)) [5, 1011] g42) [5, 1011] g88) := sv_mod.sts md49 (by decide)
                have h := h g88 hpo91
                refine sv_iinc (d := (1 : Int)) hM dX12_nameAt_138 rfl (by decide) rfl rfl ?_
                show sv_T sm_XS sm_cs sm_L sm_sh 2 (q_nameAt p1 S) 30 141 [(0, .ref 0), (1, sv_I p1), (2, sv_I ((l2_43 + (0 : Int)) + (1 : Int))), (3, sv_I (0 : Int))] [] (sv_sts (sv_sts (sv_up S 1011 0 (0 : Int)) [5, 1011] g42) [5, 1011] g88)
                refine sv_goto hM dX12_nameAt_141 (pc' := 47) rfl ?_
                obtain ⟨o95, h⟩ := h
                have eS := sv_mod.eq md94
                have hb := ih44 (((l2_43 + (0 : Int)) + (1 : Int)), (sv_sts (sv_sts (sv_up S 1011 0 (0 : Int)) [5, 1011] g42) [5, 1011] g88)) ⟨o95, (by rw [← eS]; exact ok89), h.1⟩ h.2
                have hb : sv_T sm_XS sm_cs sm_L sm_sh 2 (q_nameAt p1 S) 30 47 [(0, .ref 0), (1, sv_I p1), (2, sv_I ((l2_43 + (0 : Int)) + (1 : Int)))] [] (sv_sts (sv_sts (sv_up S 1011 0 (0 : Int)) [5, 1011] g42) [5, 1011] g88) := Eq.mpr (congrArg (fun Z => sv_T sm_XS sm_cs sm_L sm_sh 2 (q_nameAt p1 S) 30 47 [(0, .ref 0), (1, sv_I p1), (2, sv_I ((l2_43 + (0 : Int)) + (1 : Int)))] [] Z) eS) hb
                exact sv_less (lv := [(0, .ref 0), (1, sv_I p1), (2, sv_I ((l2_43 + (0 : Int)) + (1 : Int)))]) (sv_Sub_cons rfl (sv_Sub_cons rfl (sv_Sub_cons rfl sv_Sub_nil))) hb
            · have h := h.2 (hc)
              refine sv_iconst (d := (1 : Int)) hM dX12_nameAt_80 rfl rfl ?_
              refine sv_goto hM dX12_nameAt_81 (pc' := 85) rfl ?_
              refine sv_iadd hM dX12_nameAt_85 rfl ?_
              refine sv_istore_n hM dX12_nameAt_86 (by decide) rfl ?_
              show sv_T sm_XS sm_cs sm_L sm_sh 2 (q_nameAt p1 S) 30 87 [(0, .ref 0), (1, sv_I p1), (2, sv_I (l2_43 + (1 : Int))), (3, sv_I (0 : Int))] [] (sv_sts (sv_up S 1011 0 (0 : Int)) [5, 1011] g42)
              refine sv_aload_n hM dX12_nameAt_87 rfl rfl ?_
              refine sv_iload_n hM dX12_nameAt_88 rfl rfl ?_
              refine sv_cond_ne hM dX12_nameAt_89 (⟨by decide, by decide⟩ : sv_R (0 : Int)) (t := 100) rfl rfl (fun hc => ?_) (fun hc => ?_)
              · have h := h.1 (hc)
                refine sv_aload_n hM dX12_nameAt_100 rfl rfl ?_
                refine sv_iload_n hM dX12_nameAt_101 rfl rfl ?_
                obtain ⟨o96, h⟩ := h
                obtain ⟨o97, h⟩ := h
                refine sv_callV hM dX12_nameAt_102 sm_iv_334 (by decide) (sm_a0 _) rfl rfl (Nat.le_of_ble_eq_true rfl) sm_h10 (Nat.le_of_ble_eq_true rfl) (Nat.le_of_ble_eq_true rfl) (F' := 0) (Nat.le_of_ble_eq_true rfl) rfl (t_look (l2_43 + (1 : Int)) (sv_sts (sv_up S 1011 0 (0 : Int)) [5, 1011] g42) ok46 o96 o97) (fun v S1 hq => ?_)
                obtain ⟨rfl, hS1⟩ := hq
                obtain rfl : (sv_sts (sv_up S 1011 0 (0 : Int)) [5, 1011] g42) = S1 := hS1.symm
                show sv_T sm_XS sm_cs sm_L sm_sh 2 (q_nameAt p1 S) 30 105 [(0, .ref 0), (1, sv_I p1), (2, sv_I (l2_43 + (1 : Int))), (3, sv_I (0 : Int))] [sv_I ((if (l2_43 + (1 : Int)) < (S 1004 0) then (S 2 (l2_43 + (1 : Int))) % 256 else 0)), .ref 0] (sv_sts (sv_up S 1011 0 (0 : Int)) [5, 1011] g42)
                refine sv_bipush (d := (110 : Int)) hM dX12_nameAt_105 rfl rfl ?_
                obtain ⟨o98, h⟩ := h
                refine sv_icmp_ne hM dX12_nameAt_107 o98 (⟨by decide, by decide⟩ : sv_R (110 : Int)) (t := 115) rfl rfl (fun hc => ?_) (fun hc => ?_)
                · have h := h.1 (hc)
                  refine sv_aload_n hM dX12_nameAt_115 rfl rfl ?_
                  refine sv_iload_n hM dX12_nameAt_116 rfl rfl ?_
                  refine sv_callV hM dX12_nameAt_117 sm_iv_334 (by decide) (sm_a0 _) rfl rfl (Nat.le_of_ble_eq_true rfl) sm_h10 (Nat.le_of_ble_eq_true rfl) (Nat.le_of_ble_eq_true rfl) (F' := 0) (Nat.le_of_ble_eq_true rfl) rfl (t_look (l2_43 + (1 : Int)) (sv_sts (sv_up S 1011 0 (0 : Int)) [5, 1011] g42) ok46 o96 o97) (fun v S1 hq => ?_)
                  obtain ⟨rfl, hS1⟩ := hq
                  obtain rfl : (sv_sts (sv_up S 1011 0 (0 : Int)) [5, 1011] g42) = S1 := hS1.symm
                  show sv_T sm_XS sm_cs sm_L sm_sh 2 (q_nameAt p1 S) 30 120 [(0, .ref 0), (1, sv_I p1), (2, sv_I (l2_43 + (1 : Int))), (3, sv_I (0 : Int))] [sv_I ((if (l2_43 + (1 : Int)) < (S 1004 0) then (S 2 (l2_43 + (1 : Int))) % 256 else 0)), .ref 0] (sv_sts (sv_up S 1011 0 (0 : Int)) [5, 1011] g42)
                  refine sv_bipush (d := (116 : Int)) hM dX12_nameAt_120 rfl rfl ?_
                  refine sv_icmp_ne hM dX12_nameAt_122 o98 (⟨by decide, by decide⟩ : sv_R (116 : Int)) (t := 130) rfl rfl (fun hc => ?_) (fun hc => ?_)
                  · have h := h.1 (hc)
                    refine sv_aload_n hM dX12_nameAt_130 rfl rfl ?_
                    refine sv_iload_n hM dX12_nameAt_131 rfl rfl ?_
                    refine sv_callV hM dX12_nameAt_132 sm_iv_334 (by decide) (sm_a0 _) rfl rfl (Nat.le_of_ble_eq_true rfl) sm_h10 (Nat.le_of_ble_eq_true rfl) (Nat.le_of_ble_eq_true rfl) (F' := 0) (Nat.le_of_ble_eq_true rfl) rfl (t_look (l2_43 + (1 : Int)) (sv_sts (sv_up S 1011 0 (0 : Int)) [5, 1011] g42) ok46 o96 o97) (fun v S1 hq => ?_)
                    obtain ⟨rfl, hS1⟩ := hq
                    obtain rfl : (sv_sts (sv_up S 1011 0 (0 : Int)) [5, 1011] g42) = S1 := hS1.symm
                    show sv_T sm_XS sm_cs sm_L sm_sh 2 (q_nameAt p1 S) 30 135 [(0, .ref 0), (1, sv_I p1), (2, sv_I (l2_43 + (1 : Int))), (3, sv_I (0 : Int))] [sv_I ((if (l2_43 + (1 : Int)) < (S 1004 0) then (S 2 (l2_43 + (1 : Int))) % 256 else 0)), .ref 0] (sv_sts (sv_up S 1011 0 (0 : Int)) [5, 1011] g42)
                    obtain ⟨o99, h⟩ := h
                    refine sv_callV hM dX12_nameAt_135 sm_iv_324 (by decide) (sm_a0 _) rfl rfl (Nat.le_of_ble_eq_true rfl) sm_h7 (Nat.le_of_ble_eq_true rfl) (Nat.le_of_ble_eq_true rfl) (F' := 0) (Nat.le_of_ble_eq_true rfl) rfl (t_put ((if (l2_43 + (1 : Int)) < (S 1004 0) then (S 2 (l2_43 + (1 : Int))) % 256 else 0)) (sv_sts (sv_up S 1011 0 (0 : Int)) [5, 1011] g42) ok46 o98 o99) (fun v S1 hq => ?_)
                    obtain ⟨rfl, ok101, md102, hpo103⟩ := hq
                    obtain ⟨g100, rfl⟩ : ∃ g, S1 = sv_sts (sv_sts (sv_up S 1011 0 (0 : Int)) [5, 1011] g42) [5, 1011] g := ⟨_, md102.eq⟩
                    show sv_T sm_XS sm_cs sm_L sm_sh 2 (q_nameAt p1 S) 30 138 [(0, .ref 0), (1, sv_I p1), (2, sv_I (l2_43 + (1 : Int))), (3, sv_I (0 : Int))] [] (sv_sts (sv_sts (sv_up S 1011 0 (0 : Int)) [5, 1011] g42) [5, 1011] g100)
                    have md104 : sv_mod [5, 1011, 3, 4, 1007, 1009] S (sv_sts (sv_sts (sv_up S 1011 0 (0 : Int)) [5, 1011] g42) [5, 1011] g100) := sv_mod.sts md47 (by decide)
                    have md105 : sv_mod [5, 1011] S (sv_sts (sv_sts (sv_up S 1011 0 (0 : Int)) [5, 1011] g42) [5, 1011] g100) := sv_mod.sts md48 (by decide)
                    have md106 : sv_mod [5, 1011] (sv_up S 1011 0 (0 : Int)) (sv_sts (sv_sts (sv_up S 1011 0 (0 : Int)) [5, 1011] g42) [5, 1011] g100) := sv_mod.sts md49 (by decide)
                    have h := h g100 hpo103
                    refine sv_iinc (d := (1 : Int)) hM dX12_nameAt_138 rfl (by decide) rfl rfl ?_
                    show sv_T sm_XS sm_cs sm_L sm_sh 2 (q_nameAt p1 S) 30 141 [(0, .ref 0), (1, sv_I p1), (2, sv_I ((l2_43 + (1 : Int)) + (1 : Int))), (3, sv_I (0 : Int))] [] (sv_sts (sv_sts (sv_up S 1011 0 (0 : Int)) [5, 1011] g42) [5, 1011] g100)
                    refine sv_goto hM dX12_nameAt_141 (pc' := 47) rfl ?_
                    obtain ⟨o107, h⟩ := h
                    have eS := sv_mod.eq md106
                    have hb := ih44 (((l2_43 + (1 : Int)) + (1 : Int)), (sv_sts (sv_sts (sv_up S 1011 0 (0 : Int)) [5, 1011] g42) [5, 1011] g100)) ⟨o107, (by rw [← eS]; exact ok101), h.1⟩ h.2
                    have hb : sv_T sm_XS sm_cs sm_L sm_sh 2 (q_nameAt p1 S) 30 47 [(0, .ref 0), (1, sv_I p1), (2, sv_I ((l2_43 + (1 : Int)) + (1 : Int)))] [] (sv_sts (sv_sts (sv_up S 1011 0 (0 : Int)) [5, 1011] g42) [5, 1011] g100) := Eq.mpr (congrArg (fun Z => sv_T sm_XS sm_cs sm_L sm_sh 2 (q_nameAt p1 S) 30 47 [(0, .ref 0), (1, sv_I p1), (2, sv_I ((l2_43 + (1 : Int)) + (1 : Int)))] [] Z) eS) hb
                    exact sv_less (lv := [(0, .ref 0), (1, sv_I p1), (2, sv_I ((l2_43 + (1 : Int)) + (1 : Int)))]) (sv_Sub_cons rfl (sv_Sub_cons rfl (sv_Sub_cons rfl sv_Sub_nil))) hb
                  · have h := h.2 (hc)
                    refine sv_bipush (d := (9 : Int)) hM dX12_nameAt_125 rfl rfl ?_
                    refine sv_goto hM dX12_nameAt_127 (pc' := 135) rfl ?_
                    obtain ⟨o108, h⟩ := h
                    refine sv_callV hM dX12_nameAt_135 sm_iv_324 (by decide) (sm_a0 _) rfl rfl (Nat.le_of_ble_eq_true rfl) sm_h7 (Nat.le_of_ble_eq_true rfl) (Nat.le_of_ble_eq_true rfl) (F' := 0) (Nat.le_of_ble_eq_true rfl) rfl (t_put (9 : Int) (sv_sts (sv_up S 1011 0 (0 : Int)) [5, 1011] g42) ok46 (⟨by decide, by decide⟩ : sv_R (9 : Int)) o108) (fun v S1 hq => ?_)
                    obtain ⟨rfl, ok110, md111, hpo112⟩ := hq
                    obtain ⟨g109, rfl⟩ : ∃ g, S1 = sv_sts (sv_sts (sv_up S 1011 0 (0 : Int)) [5, 1011] g42) [5, 1011] g := ⟨_, md111.eq⟩
                    show sv_T sm_XS sm_cs sm_L sm_sh 2 (q_nameAt p1 S) 30 138 [(0, .ref 0), (1, sv_I p1), (2, sv_I (l2_43 + (1 : Int))), (3, sv_I (0 : Int))] [] (sv_sts (sv_sts (sv_up S 1011 0 (0 : Int)) [5, 1011] g42) [5, 1011] g109)
                    have md113 : sv_mod [5, 1011, 3, 4, 1007, 1009] S (sv_sts (sv_sts (sv_up S 1011 0 (0 : Int)) [5, 1011] g42) [5, 1011] g109) := sv_mod.sts md47 (by decide)
                    have md114 : sv_mod [5, 1011] S (sv_sts (sv_sts (sv_up S 1011 0 (0 : Int)) [5, 1011] g42) [5, 1011] g109) := sv_mod.sts md48 (by decide)
                    have md115 : sv_mod [5, 1011] (sv_up S 1011 0 (0 : Int)) (sv_sts (sv_sts (sv_up S 1011 0 (0 : Int)) [5, 1011] g42) [5, 1011] g109) := sv_mod.sts md49 (by decide)
                    have h := h g109 hpo112
                    refine sv_iinc (d := (1 : Int)) hM dX12_nameAt_138 rfl (by decide) rfl rfl ?_
                    show sv_T sm_XS sm_cs sm_L sm_sh 2 (q_nameAt p1 S) 30 141 [(0, .ref 0), (1, sv_I p1), (2, sv_I ((l2_43 + (1 : Int)) + (1 : Int))), (3, sv_I (0 : Int))] [] (sv_sts (sv_sts (sv_up S 1011 0 (0 : Int)) [5, 1011] g42) [5, 1011] g109)
                    refine sv_goto hM dX12_nameAt_141 (pc' := 47) rfl ?_
                    obtain ⟨o116, h⟩ := h
                    have eS := sv_mod.eq md115
                    have hb := ih44 (((l2_43 + (1 : Int)) + (1 : Int)), (sv_sts (sv_sts (sv_up S 1011 0 (0 : Int)) [5, 1011] g42) [5, 1011] g109)) ⟨o116, (by rw [← eS]; exact ok110), h.1⟩ h.2
                    have hb : sv_T sm_XS sm_cs sm_L sm_sh 2 (q_nameAt p1 S) 30 47 [(0, .ref 0), (1, sv_I p1), (2, sv_I ((l2_43 + (1 : Int)) + (1 : Int)))] [] (sv_sts (sv_sts (sv_up S 1011 0 (0 : Int)) [5, 1011] g42) [5, 1011] g109) := Eq.mpr (congrArg (fun Z => sv_T sm_XS sm_cs sm_L sm_sh 2 (q_nameAt p1 S) 30 47 [(0, .ref 0), (1, sv_I p1), (2, sv_I ((l2_43 + (1 : Int)) + (1 : Int)))] [] Z) eS) hb
                    exact sv_less (lv := [(0, .ref 0), (1, sv_I p1), (2, sv_I ((l2_43 + (1 : Int)) + (1 : Int)))]) (sv_Sub_cons rfl (sv_Sub_cons rfl (sv_Sub_cons rfl sv_Sub_nil))) hb
                · have h := h.2 (hc)
                  refine sv_bipush (d := (10 : Int)) hM dX12_nameAt_110 rfl rfl ?_
                  refine sv_goto hM dX12_nameAt_112 (pc' := 135) rfl ?_
                  obtain ⟨o117, h⟩ := h
                  refine sv_callV hM dX12_nameAt_135 sm_iv_324 (by decide) (sm_a0 _) rfl rfl (Nat.le_of_ble_eq_true rfl) sm_h7 (Nat.le_of_ble_eq_true rfl) (Nat.le_of_ble_eq_true rfl) (F' := 0) (Nat.le_of_ble_eq_true rfl) rfl (t_put (10 : Int) (sv_sts (sv_up S 1011 0 (0 : Int)) [5, 1011] g42) ok46 (⟨by decide, by decide⟩ : sv_R (10 : Int)) o117) (fun v S1 hq => ?_)
                  obtain ⟨rfl, ok119, md120, hpo121⟩ := hq
                  obtain ⟨g118, rfl⟩ : ∃ g, S1 = sv_sts (sv_sts (sv_up S 1011 0 (0 : Int)) [5, 1011] g42) [5, 1011] g := ⟨_, md120.eq⟩
                  show sv_T sm_XS sm_cs sm_L sm_sh 2 (q_nameAt p1 S) 30 138 [(0, .ref 0), (1, sv_I p1), (2, sv_I (l2_43 + (1 : Int))), (3, sv_I (0 : Int))] [] (sv_sts (sv_sts (sv_up S 1011 0 (0 : Int)) [5, 1011] g42) [5, 1011] g118)
                  have md122 : sv_mod [5, 1011, 3, 4, 1007, 1009] S (sv_sts (sv_sts (sv_up S 1011 0 (0 : Int)) [5, 1011] g42) [5, 1011] g118) := sv_mod.sts md47 (by decide)
                  have md123 : sv_mod [5, 1011] S (sv_sts (sv_sts (sv_up S 1011 0 (0 : Int)) [5, 1011] g42) [5, 1011] g118) := sv_mod.sts md48 (by decide)
                  have md124 : sv_mod [5, 1011] (sv_up S 1011 0 (0 : Int)) (sv_sts (sv_sts (sv_up S 1011 0 (0 : Int)) [5, 1011] g42) [5, 1011] g118) := sv_mod.sts md49 (by decide)
                  have h := h g118 hpo121
                  refine sv_iinc (d := (1 : Int)) hM dX12_nameAt_138 rfl (by decide) rfl rfl ?_
                  show sv_T sm_XS sm_cs sm_L sm_sh 2 (q_nameAt p1 S) 30 141 [(0, .ref 0), (1, sv_I p1), (2, sv_I ((l2_43 + (1 : Int)) + (1 : Int))), (3, sv_I (0 : Int))] [] (sv_sts (sv_sts (sv_up S 1011 0 (0 : Int)) [5, 1011] g42) [5, 1011] g118)
                  refine sv_goto hM dX12_nameAt_141 (pc' := 47) rfl ?_
                  obtain ⟨o125, h⟩ := h
                  have eS := sv_mod.eq md124
                  have hb := ih44 (((l2_43 + (1 : Int)) + (1 : Int)), (sv_sts (sv_sts (sv_up S 1011 0 (0 : Int)) [5, 1011] g42) [5, 1011] g118)) ⟨o125, (by rw [← eS]; exact ok119), h.1⟩ h.2
                  have hb : sv_T sm_XS sm_cs sm_L sm_sh 2 (q_nameAt p1 S) 30 47 [(0, .ref 0), (1, sv_I p1), (2, sv_I ((l2_43 + (1 : Int)) + (1 : Int)))] [] (sv_sts (sv_sts (sv_up S 1011 0 (0 : Int)) [5, 1011] g42) [5, 1011] g118) := Eq.mpr (congrArg (fun Z => sv_T sm_XS sm_cs sm_L sm_sh 2 (q_nameAt p1 S) 30 47 [(0, .ref 0), (1, sv_I p1), (2, sv_I ((l2_43 + (1 : Int)) + (1 : Int)))] [] Z) eS) hb
                  exact sv_less (lv := [(0, .ref 0), (1, sv_I p1), (2, sv_I ((l2_43 + (1 : Int)) + (1 : Int)))]) (sv_Sub_cons rfl (sv_Sub_cons rfl (sv_Sub_cons rfl sv_Sub_nil))) hb
              · have h := h.2 (hc)
                refine sv_aload_n hM dX12_nameAt_92 rfl rfl ?_
                refine sv_iload_n hM dX12_nameAt_93 rfl rfl ?_
                obtain ⟨o126, h⟩ := h
                obtain ⟨o127, h⟩ := h
                refine sv_callV hM dX12_nameAt_94 sm_iv_334 (by decide) (sm_a0 _) rfl rfl (Nat.le_of_ble_eq_true rfl) sm_h10 (Nat.le_of_ble_eq_true rfl) (Nat.le_of_ble_eq_true rfl) (F' := 0) (Nat.le_of_ble_eq_true rfl) rfl (t_look (l2_43 + (1 : Int)) (sv_sts (sv_up S 1011 0 (0 : Int)) [5, 1011] g42) ok46 o126 o127) (fun v S1 hq => ?_)
                obtain ⟨rfl, hS1⟩ := hq
                obtain rfl : (sv_sts (sv_up S 1011 0 (0 : Int)) [5, 1011] g42) = S1 := hS1.symm
                show sv_T sm_XS sm_cs sm_L sm_sh 2 (q_nameAt p1 S) 30 97 [(0, .ref 0), (1, sv_I p1), (2, sv_I (l2_43 + (1 : Int))), (3, sv_I (0 : Int))] [sv_I ((if (l2_43 + (1 : Int)) < (S 1004 0) then (S 2 (l2_43 + (1 : Int))) % 256 else 0)), .ref 0] (sv_sts (sv_up S 1011 0 (0 : Int)) [5, 1011] g42)
                refine sv_goto hM dX12_nameAt_97 (pc' := 135) rfl ?_
                obtain ⟨o128, h⟩ := h
                obtain ⟨o129, h⟩ := h
                refine sv_callV hM dX12_nameAt_135 sm_iv_324 (by decide) (sm_a0 _) rfl rfl (Nat.le_of_ble_eq_true rfl) sm_h7 (Nat.le_of_ble_eq_true rfl) (Nat.le_of_ble_eq_true rfl) (F' := 0) (Nat.le_of_ble_eq_true rfl) rfl (t_put ((if (l2_43 + (1 : Int)) < (S 1004 0) then (S 2 (l2_43 + (1 : Int))) % 256 else 0)) (sv_sts (sv_up S 1011 0 (0 : Int)) [5, 1011] g42) ok46 o128 o129) (fun v S1 hq => ?_)
                obtain ⟨rfl, ok131, md132, hpo133⟩ := hq
                obtain ⟨g130, rfl⟩ : ∃ g, S1 = sv_sts (sv_sts (sv_up S 1011 0 (0 : Int)) [5, 1011] g42) [5, 1011] g := ⟨_, md132.eq⟩
                show sv_T sm_XS sm_cs sm_L sm_sh 2 (q_nameAt p1 S) 30 138 [(0, .ref 0), (1, sv_I p1), (2, sv_I (l2_43 + (1 : Int))), (3, sv_I (0 : Int))] [] (sv_sts (sv_sts (sv_up S 1011 0 (0 : Int)) [5, 1011] g42) [5, 1011] g130)
                have md134 : sv_mod [5, 1011, 3, 4, 1007, 1009] S (sv_sts (sv_sts (sv_up S 1011 0 (0 : Int)) [5, 1011] g42) [5, 1011] g130) := sv_mod.sts md47 (by decide)
                have md135 : sv_mod [5, 1011] S (sv_sts (sv_sts (sv_up S 1011 0 (0 : Int)) [5, 1011] g42) [5, 1011] g130) := sv_mod.sts md48 (by decide)
                have md136 : sv_mod [5, 1011] (sv_up S 1011 0 (0 : Int)) (sv_sts (sv_sts (sv_up S 1011 0 (0 : Int)) [5, 1011] g42) [5, 1011] g130) := sv_mod.sts md49 (by decide)
                have h := h g130 hpo133
                refine sv_iinc (d := (1 : Int)) hM dX12_nameAt_138 rfl (by decide) rfl rfl ?_
                show sv_T sm_XS sm_cs sm_L sm_sh 2 (q_nameAt p1 S) 30 141 [(0, .ref 0), (1, sv_I p1), (2, sv_I ((l2_43 + (1 : Int)) + (1 : Int))), (3, sv_I (0 : Int))] [] (sv_sts (sv_sts (sv_up S 1011 0 (0 : Int)) [5, 1011] g42) [5, 1011] g130)
                refine sv_goto hM dX12_nameAt_141 (pc' := 47) rfl ?_
                obtain ⟨o137, h⟩ := h
                have eS := sv_mod.eq md136
                have hb := ih44 (((l2_43 + (1 : Int)) + (1 : Int)), (sv_sts (sv_sts (sv_up S 1011 0 (0 : Int)) [5, 1011] g42) [5, 1011] g130)) ⟨o137, (by rw [← eS]; exact ok131), h.1⟩ h.2
                have hb : sv_T sm_XS sm_cs sm_L sm_sh 2 (q_nameAt p1 S) 30 47 [(0, .ref 0), (1, sv_I p1), (2, sv_I ((l2_43 + (1 : Int)) + (1 : Int)))] [] (sv_sts (sv_sts (sv_up S 1011 0 (0 : Int)) [5, 1011] g42) [5, 1011] g130) := Eq.mpr (congrArg (fun Z => sv_T sm_XS sm_cs sm_L sm_sh 2 (q_nameAt p1 S) 30 47 [(0, .ref 0), (1, sv_I p1), (2, sv_I ((l2_43 + (1 : Int)) + (1 : Int)))] [] Z) eS) hb
                exact sv_less (lv := [(0, .ref 0), (1, sv_I p1), (2, sv_I ((l2_43 + (1 : Int)) + (1 : Int)))]) (sv_Sub_cons rfl (sv_Sub_cons rfl (sv_Sub_cons rfl sv_Sub_nil))) hb
          · have h := h.2 (hc)
            refine sv_iconst (d := (1 : Int)) hM dX12_nameAt_69 rfl rfl ?_
            refine sv_goto hM dX12_nameAt_70 (pc' := 74) rfl ?_
            refine sv_istore_n hM dX12_nameAt_74 (by decide) rfl ?_
            show sv_T sm_XS sm_cs sm_L sm_sh 2 (q_nameAt p1 S) 30 75 [(0, .ref 0), (1, sv_I p1), (2, sv_I l2_43), (3, sv_I (1 : Int))] [] (sv_sts (sv_up S 1011 0 (0 : Int)) [5, 1011] g42)
            refine sv_iload_n hM dX12_nameAt_75 rfl rfl ?_
            refine sv_iload_n hM dX12_nameAt_76 rfl rfl ?_
            refine sv_cond_eq hM dX12_nameAt_77 (⟨by decide, by decide⟩ : sv_R (1 : Int)) (t := 84) rfl rfl (fun hc => ?_) (fun hc => ?_)
            · have h := h.1 (hc)
              refine sv_iconst (d := (0 : Int)) hM dX12_nameAt_84 rfl rfl ?_
              refine sv_iadd hM dX12_nameAt_85 rfl ?_
              refine sv_istore_n hM dX12_nameAt_86 (by decide) rfl ?_
              show sv_T sm_XS sm_cs sm_L sm_sh 2 (q_nameAt p1 S) 30 87 [(0, .ref 0), (1, sv_I p1), (2, sv_I (l2_43 + (0 : Int))), (3, sv_I (1 : Int))] [] (sv_sts (sv_up S 1011 0 (0 : Int)) [5, 1011] g42)
              refine sv_aload_n hM dX12_nameAt_87 rfl rfl ?_
              refine sv_iload_n hM dX12_nameAt_88 rfl rfl ?_
              refine sv_cond_ne hM dX12_nameAt_89 (⟨by decide, by decide⟩ : sv_R (1 : Int)) (t := 100) rfl rfl (fun hc => ?_) (fun hc => ?_)
              · have h := h.1 (hc)
                refine sv_aload_n hM dX12_nameAt_100 rfl rfl ?_
                refine sv_iload_n hM dX12_nameAt_101 rfl rfl ?_
                obtain ⟨o138, h⟩ := h
                obtain ⟨o139, h⟩ := h
                refine sv_callV hM dX12_nameAt_102 sm_iv_334 (by decide) (sm_a0 _) rfl rfl (Nat.le_of_ble_eq_true rfl) sm_h10 (Nat.le_of_ble_eq_true rfl) (Nat.le_of_ble_eq_true rfl) (F' := 0) (Nat.le_of_ble_eq_true rfl) rfl (t_look (l2_43 + (0 : Int)) (sv_sts (sv_up S 1011 0 (0 : Int)) [5, 1011] g42) ok46 o138 o139) (fun v S1 hq => ?_)
                obtain ⟨rfl, hS1⟩ := hq
                obtain rfl : (sv_sts (sv_up S 1011 0 (0 : Int)) [5, 1011] g42) = S1 := hS1.symm
                show sv_T sm_XS sm_cs sm_L sm_sh 2 (q_nameAt p1 S) 30 105 [(0, .ref 0), (1, sv_I p1), (2, sv_I (l2_43 + (0 : Int))), (3, sv_I (1 : Int))] [sv_I ((if (l2_43 + (0 : Int)) < (S 1004 0) then (S 2 (l2_43 + (0 : Int))) % 256 else 0)), .ref 0] (sv_sts (sv_up S 1011 0 (0 : Int)) [5, 1011] g42)
                refine sv_bipush (d := (110 : Int)) hM dX12_nameAt_105 rfl rfl ?_
                obtain ⟨o140, h⟩ := h
                refine sv_icmp_ne hM dX12_nameAt_107 o140 (⟨by decide, by decide⟩ : sv_R (110 : Int)) (t := 115) rfl rfl (fun hc => ?_) (fun hc => ?_)
                · have h := h.1 (hc)
                  refine sv_aload_n hM dX12_nameAt_115 rfl rfl ?_
                  refine sv_iload_n hM dX12_nameAt_116 rfl rfl ?_
                  refine sv_callV hM dX12_nameAt_117 sm_iv_334 (by decide) (sm_a0 _) rfl rfl (Nat.le_of_ble_eq_true rfl) sm_h10 (Nat.le_of_ble_eq_true rfl) (Nat.le_of_ble_eq_true rfl) (F' := 0) (Nat.le_of_ble_eq_true rfl) rfl (t_look (l2_43 + (0 : Int)) (sv_sts (sv_up S 1011 0 (0 : Int)) [5, 1011] g42) ok46 o138 o139) (fun v S1 hq => ?_)
                  obtain ⟨rfl, hS1⟩ := hq
                  obtain rfl : (sv_sts (sv_up S 1011 0 (0 : Int)) [5, 1011] g42) = S1 := hS1.symm
                  show sv_T sm_XS sm_cs sm_L sm_sh 2 (q_nameAt p1 S) 30 120 [(0, .ref 0), (1, sv_I p1), (2, sv_I (l2_43 + (0 : Int))), (3, sv_I (1 : Int))] [sv_I ((if (l2_43 + (0 : Int)) < (S 1004 0) then (S 2 (l2_43 + (0 : Int))) % 256 else 0)), .ref 0] (sv_sts (sv_up S 1011 0 (0 : Int)) [5, 1011] g42)
                  refine sv_bipush (d := (116 : Int)) hM dX12_nameAt_120 rfl rfl ?_
                  refine sv_icmp_ne hM dX12_nameAt_122 o140 (⟨by decide, by decide⟩ : sv_R (116 : Int)) (t := 130) rfl rfl (fun hc => ?_) (fun hc => ?_)
                  · have h := h.1 (hc)
                    refine sv_aload_n hM dX12_nameAt_130 rfl rfl ?_
                    refine sv_iload_n hM dX12_nameAt_131 rfl rfl ?_
                    refine sv_callV hM dX12_nameAt_132 sm_iv_334 (by decide) (sm_a0 _) rfl rfl (Nat.le_of_ble_eq_true rfl) sm_h10 (Nat.le_of_ble_eq_true rfl) (Nat.le_of_ble_eq_true rfl) (F' := 0) (Nat.le_of_ble_eq_true rfl) rfl (t_look (l2_43 + (0 : Int)) (sv_sts (sv_up S 1011 0 (0 : Int)) [5, 1011] g42) ok46 o138 o139) (fun v S1 hq => ?_)
                    obtain ⟨rfl, hS1⟩ := hq
                    obtain rfl : (sv_sts (sv_up S 1011 0 (0 : Int)) [5, 1011] g42) = S1 := hS1.symm
                    show sv_T sm_XS sm_cs sm_L sm_sh 2 (q_nameAt p1 S) 30 135 [(0, .ref 0), (1, sv_I p1), (2, sv_I (l2_43 + (0 : Int))), (3, sv_I (1 : Int))] [sv_I ((if (l2_43 + (0 : Int)) < (S 1004 0) then (S 2 (l2_43 + (0 : Int))) % 256 else 0)), .ref 0] (sv_sts (sv_up S 1011 0 (0 : Int)) [5, 1011] g42)
                    obtain ⟨o141, h⟩ := h
                    refine sv_callV hM dX12_nameAt_135 sm_iv_324 (by decide) (sm_a0 _) rfl rfl (Nat.le_of_ble_eq_true rfl) sm_h7 (Nat.le_of_ble_eq_true rfl) (Nat.le_of_ble_eq_true rfl) (F' := 0) (Nat.le_of_ble_eq_true rfl) rfl (t_put ((if (l2_43 + (0 : Int)) < (S 1004 0) then (S 2 (l2_43 + (0 : Int))) % 256 else 0)) (sv_sts (sv_up S 1011 0 (0 : Int)) [5, 1011] g42) ok46 o140 o141) (fun v S1 hq => ?_)
                    obtain ⟨rfl, ok143, md144, hpo145⟩ := hq
                    obtain ⟨g142, rfl⟩ : ∃ g, S1 = sv_sts (sv_sts (sv_up S 1011 0 (0 : Int)) [5, 1011] g42) [5, 1011] g := ⟨_, md144.eq⟩
                    show sv_T sm_XS sm_cs sm_L sm_sh 2 (q_nameAt p1 S) 30 138 [(0, .ref 0), (1, sv_I p1), (2, sv_I (l2_43 + (0 : Int))), (3, sv_I (1 : Int))] [] (sv_sts (sv_sts (sv_up S 1011 0 (0 : Int)) [5, 1011] g42) [5, 1011] g142)
                    have md146 : sv_mod [5, 1011, 3, 4, 1007, 1009] S (sv_sts (sv_sts (sv_up S 1011 0 (0 : Int)) [5, 1011] g42) [5, 1011] g142) := sv_mod.sts md47 (by decide)
                    have md147 : sv_mod [5, 1011] S (sv_sts (sv_sts (sv_up S 1011 0 (0 : Int)) [5, 1011] g42) [5, 1011] g142) := sv_mod.sts md48 (by decide)
                    have md148 : sv_mod [5, 1011] (sv_up S 1011 0 (0 : Int)) (sv_sts (sv_sts (sv_up S 1011 0 (0 : Int)) [5, 1011] g42) [5, 1011] g142) := sv_mod.sts md49 (by decide)
                    have h := h g142 hpo145
                    refine sv_iinc (d := (1 : Int)) hM dX12_nameAt_138 rfl (by decide) rfl rfl ?_
                    show sv_T sm_XS sm_cs sm_L sm_sh 2 (q_nameAt p1 S) 30 141 [(0, .ref 0), (1, sv_I p1), (2, sv_I ((l2_43 + (0 : Int)) + (1 : Int))), (3, sv_I (1 : Int))] [] (sv_sts (sv_sts (sv_up S 1011 0 (0 : Int)) [5, 1011] g42) [5, 1011] g142)
                    refine sv_goto hM dX12_nameAt_141 (pc' := 47) rfl ?_
                    obtain ⟨o149, h⟩ := h
                    have eS := sv_mod.eq md148
                    have hb := ih44 (((l2_43 + (0 : Int)) + (1 : Int)), (sv_sts (sv_sts (sv_up S 1011 0 (0 : Int)) [5, 1011] g42) [5, 1011] g142)) ⟨o149, (by rw [← eS]; exact ok143), h.1⟩ h.2
                    have hb : sv_T sm_XS sm_cs sm_L sm_sh 2 (q_nameAt p1 S) 30 47 [(0, .ref 0), (1, sv_I p1), (2, sv_I ((l2_43 + (0 : Int)) + (1 : Int)))] [] (sv_sts (sv_sts (sv_up S 1011 0 (0 : Int)) [5, 1011] g42) [5, 1011] g142) := Eq.mpr (congrArg (fun Z => sv_T sm_XS sm_cs sm_L sm_sh 2 (q_nameAt p1 S) 30 47 [(0, .ref 0), (1, sv_I p1), (2, sv_I ((l2_43 + (0 : Int)) + (1 : Int)))] [] Z) eS) hb
                    exact sv_less (lv := [(0, .ref 0), (1, sv_I p1), (2, sv_I ((l2_43 + (0 : Int)) + (1 : Int)))]) (sv_Sub_cons rfl (sv_Sub_cons rfl (sv_Sub_cons rfl sv_Sub_nil))) hb
                  · have h := h.2 (hc)
                    refine sv_bipush (d := (9 : Int)) hM dX12_nameAt_125 rfl rfl ?_
                    refine sv_goto hM dX12_nameAt_127 (pc' := 135) rfl ?_
                    obtain ⟨o150, h⟩ := h
                    refine sv_callV hM dX12_nameAt_135 sm_iv_324 (by decide) (sm_a0 _) rfl rfl (Nat.le_of_ble_eq_true rfl) sm_h7 (Nat.le_of_ble_eq_true rfl) (Nat.le_of_ble_eq_true rfl) (F' := 0) (Nat.le_of_ble_eq_true rfl) rfl (t_put (9 : Int) (sv_sts (sv_up S 1011 0 (0 : Int)) [5, 1011] g42) ok46 (⟨by decide, by decide⟩ : sv_R (9 : Int)) o150) (fun v S1 hq => ?_)
                    obtain ⟨rfl, ok152, md153, hpo154⟩ := hq
                    obtain ⟨g151, rfl⟩ : ∃ g, S1 = sv_sts (sv_sts (sv_up S 1011 0 (0 : Int)) [5, 1011] g42) [5, 1011] g := ⟨_, md153.eq⟩
                    show sv_T sm_XS sm_cs sm_L sm_sh 2 (q_nameAt p1 S) 30 138 [(0, .ref 0), (1, sv_I p1), (2, sv_I (l2_43 + (0 : Int))), (3, sv_I (1 : Int))] [] (sv_sts (sv_sts (sv_up S 1011 0 (0 : Int)) [5, 1011] g42) [5, 1011] g151)
                    have md155 : sv_mod [5, 1011, 3, 4, 1007, 1009] S (sv_sts (sv_sts (sv_up S 1011 0 (0 : Int)) [5, 1011] g42) [5, 1011] g151) := sv_mod.sts md47 (by decide)
                    have md156 : sv_mod [5, 1011] S (sv_sts (sv_sts (sv_up S 1011 0 (0 : Int)) [5, 1011] g42) [5, 1011] g151) := sv_mod.sts md48 (by decide)
                    have md157 : sv_mod [5, 1011] (sv_up S 1011 0 (0 : Int)) (sv_sts (sv_sts (sv_up S 1011 0 (0 : Int)) [5, 1011] g42) [5, 1011] g151) := sv_mod.sts md49 (by decide)
                    have h := h g151 hpo154
                    refine sv_iinc (d := (1 : Int)) hM dX12_nameAt_138 rfl (by decide) rfl rfl ?_
                    show sv_T sm_XS sm_cs sm_L sm_sh 2 (q_nameAt p1 S) 30 141 [(0, .ref 0), (1, sv_I p1), (2, sv_I ((l2_43 + (0 : Int)) + (1 : Int))), (3, sv_I (1 : Int))] [] (sv_sts (sv_sts (sv_up S 1011 0 (0 : Int)) [5, 1011] g42) [5, 1011] g151)
                    refine sv_goto hM dX12_nameAt_141 (pc' := 47) rfl ?_
                    obtain ⟨o158, h⟩ := h
                    have eS := sv_mod.eq md157
                    have hb := ih44 (((l2_43 + (0 : Int)) + (1 : Int)), (sv_sts (sv_sts (sv_up S 1011 0 (0 : Int)) [5, 1011] g42) [5, 1011] g151)) ⟨o158, (by rw [← eS]; exact ok152), h.1⟩ h.2
                    have hb : sv_T sm_XS sm_cs sm_L sm_sh 2 (q_nameAt p1 S) 30 47 [(0, .ref 0), (1, sv_I p1), (2, sv_I ((l2_43 + (0 : Int)) + (1 : Int)))] [] (sv_sts (sv_sts (sv_up S 1011 0 (0 : Int)) [5, 1011] g42) [5, 1011] g151) := Eq.mpr (congrArg (fun Z => sv_T sm_XS sm_cs sm_L sm_sh 2 (q_nameAt p1 S) 30 47 [(0, .ref 0), (1, sv_I p1), (2, sv_I ((l2_43 + (0 : Int)) + (1 : Int)))] [] Z) eS) hb
                    exact sv_less (lv := [(0, .ref 0), (1, sv_I p1), (2, sv_I ((l2_43 + (0 : Int)) + (1 : Int)))]) (sv_Sub_cons rfl (sv_Sub_cons rfl (sv_Sub_cons rfl sv_Sub_nil))) hb
                · have h := h.2 (hc)
                  refine sv_bipush (d := (10 : Int)) hM dX12_nameAt_110 rfl rfl ?_
                  refine sv_goto hM dX12_nameAt_112 (pc' := 135) rfl ?_
                  obtain ⟨o159, h⟩ := h
                  refine sv_callV hM dX12_nameAt_135 sm_iv_324 (by decide) (sm_a0 _) rfl rfl (Nat.le_of_ble_eq_true rfl) sm_h7 (Nat.le_of_ble_eq_true rfl) (Nat.le_of_ble_eq_true rfl) (F' := 0) (Nat.le_of_ble_eq_true rfl) rfl (t_put (10 : Int) (sv_sts (sv_up S 1011 0 (0 : Int)) [5, 1011] g42) ok46 (⟨by decide, by decide⟩ : sv_R (10 : Int)) o159) (fun v S1 hq => ?_)
                  obtain ⟨rfl, ok161, md162, hpo163⟩ := hq
                  obtain ⟨g160, rfl⟩ : ∃ g, S1 = sv_sts (sv_sts (sv_up S 1011 0 (0 : Int)) [5, 1011] g42) [5, 1011] g := ⟨_, md162.eq⟩
                  show sv_T sm_XS sm_cs sm_L sm_sh 2 (q_nameAt p1 S) 30 138 [(0, .ref 0), (1, sv_I p1), (2, sv_I (l2_43 + (0 : Int))), (3, sv_I (1 : Int))] [] (sv_sts (sv_sts (sv_up S 1011 0 (0 : Int)) [5, 1011] g42) [5, 1011] g160)
                  have md164 : sv_mod [5, 1011, 3, 4, 1007, 1009] S (sv_sts (sv_sts (sv_up S 1011 0 (0 : Int)) [5, 1011] g42) [5, 1011] g160) := sv_mod.sts md47 (by decide)
                  have md165 : sv_mod [5, 1011] S (sv_sts (sv_sts (sv_up S 1011 0 (0 : Int)) [5, 1011] g42) [5, 1011] g160) := sv_mod.sts md48 (by decide)
                  have md166 : sv_mod [5, 1011] (sv_up S 1011 0 (0 : Int)) (sv_sts (sv_sts (sv_up S 1011 0 (0 : Int)) [5, 1011] g42) [5, 1011] g160) := sv_mod.sts md49 (by decide)
                  have h := h g160 hpo163
                  refine sv_iinc (d := (1 : Int)) hM dX12_nameAt_138 rfl (by decide) rfl rfl ?_
                  show sv_T sm_XS sm_cs sm_L sm_sh 2 (q_nameAt p1 S) 30 141 [(0, .ref 0), (1, sv_I p1), (2, sv_I ((l2_43 + (0 : Int)) + (1 : Int))), (3, sv_I (1 : Int))] [] (sv_sts (sv_sts (sv_up S 1011 0 (0 : Int)) [5, 1011] g42) [5, 1011] g160)
                  refine sv_goto hM dX12_nameAt_141 (pc' := 47) rfl ?_
                  obtain ⟨o167, h⟩ := h
                  have eS := sv_mod.eq md166
                  have hb := ih44 (((l2_43 + (0 : Int)) + (1 : Int)), (sv_sts (sv_sts (sv_up S 1011 0 (0 : Int)) [5, 1011] g42) [5, 1011] g160)) ⟨o167, (by rw [← eS]; exact ok161), h.1⟩ h.2
                  have hb : sv_T sm_XS sm_cs sm_L sm_sh 2 (q_nameAt p1 S) 30 47 [(0, .ref 0), (1, sv_I p1), (2, sv_I ((l2_43 + (0 : Int)) + (1 : Int)))] [] (sv_sts (sv_sts (sv_up S 1011 0 (0 : Int)) [5, 1011] g42) [5, 1011] g160) := Eq.mpr (congrArg (fun Z => sv_T sm_XS sm_cs sm_L sm_sh 2 (q_nameAt p1 S) 30 47 [(0, .ref 0), (1, sv_I p1), (2, sv_I ((l2_43 + (0 : Int)) + (1 : Int)))] [] Z) eS) hb
                  exact sv_less (lv := [(0, .ref 0), (1, sv_I p1), (2, sv_I ((l2_43 + (0 : Int)) + (1 : Int)))]) (sv_Sub_cons rfl (sv_Sub_cons rfl (sv_Sub_cons rfl sv_Sub_nil))) hb
              · have h := h.2 (hc)
                refine sv_aload_n hM dX12_nameAt_92 rfl rfl ?_
                refine sv_iload_n hM dX12_nameAt_93 rfl rfl ?_
                obtain ⟨o168, h⟩ := h
                obtain ⟨o169, h⟩ := h
                refine sv_callV hM dX12_nameAt_94 sm_iv_334 (by decide) (sm_a0 _) rfl rfl (Nat.le_of_ble_eq_true rfl) sm_h10 (Nat.le_of_ble_eq_true rfl) (Nat.le_of_ble_eq_true rfl) (F' := 0) (Nat.le_of_ble_eq_true rfl) rfl (t_look (l2_43 + (0 : Int)) (sv_sts (sv_up S 1011 0 (0 : Int)) [5, 1011] g42) ok46 o168 o169) (fun v S1 hq => ?_)
                obtain ⟨rfl, hS1⟩ := hq
                obtain rfl : (sv_sts (sv_up S 1011 0 (0 : Int)) [5, 1011] g42) = S1 := hS1.symm
                show sv_T sm_XS sm_cs sm_L sm_sh 2 (q_nameAt p1 S) 30 97 [(0, .ref 0), (1, sv_I p1), (2, sv_I (l2_43 + (0 : Int))), (3, sv_I (1 : Int))] [sv_I ((if (l2_43 + (0 : Int)) < (S 1004 0) then (S 2 (l2_43 + (0 : Int))) % 256 else 0)), .ref 0] (sv_sts (sv_up S 1011 0 (0 : Int)) [5, 1011] g42)
                refine sv_goto hM dX12_nameAt_97 (pc' := 135) rfl ?_
                obtain ⟨o170, h⟩ := h
                obtain ⟨o171, h⟩ := h
                refine sv_callV hM dX12_nameAt_135 sm_iv_324 (by decide) (sm_a0 _) rfl rfl (Nat.le_of_ble_eq_true rfl) sm_h7 (Nat.le_of_ble_eq_true rfl) (Nat.le_of_ble_eq_true rfl) (F' := 0) (Nat.le_of_ble_eq_true rfl) rfl (t_put ((if (l2_43 + (0 : Int)) < (S 1004 0) then (S 2 (l2_43 + (0 : Int))) % 256 else 0)) (sv_sts (sv_up S 1011 0 (0 : Int)) [5, 1011] g42) ok46 o170 o171) (fun v S1 hq => ?_)
                obtain ⟨rfl, ok173, md174, hpo175⟩ := hq
                obtain ⟨g172, rfl⟩ : ∃ g, S1 = sv_sts (sv_sts (sv_up S 1011 0 (0 : Int)) [5, 1011] g42) [5, 1011] g := ⟨_, md174.eq⟩
                show sv_T sm_XS sm_cs sm_L sm_sh 2 (q_nameAt p1 S) 30 138 [(0, .ref 0), (1, sv_I p1), (2, sv_I (l2_43 + (0 : Int))), (3, sv_I (1 : Int))] [] (sv_sts (sv_sts (sv_up S 1011 0 (0 : Int)) [5, 1011] g42) [5, 1011] g172)
                have md176 : sv_mod [5, 1011, 3, 4, 1007, 1009] S (sv_sts (sv_sts (sv_up S 1011 0 (0 : Int)) [5, 1011] g42) [5, 1011] g172) := sv_mod.sts md47 (by decide)
                have md177 : sv_mod [5, 1011] S (sv_sts (sv_sts (sv_up S 1011 0 (0 : Int)) [5, 1011] g42) [5, 1011] g172) := sv_mod.sts md48 (by decide)
                have md178 : sv_mod [5, 1011] (sv_up S 1011 0 (0 : Int)) (sv_sts (sv_sts (sv_up S 1011 0 (0 : Int)) [5, 1011] g42) [5, 1011] g172) := sv_mod.sts md49 (by decide)
                have h := h g172 hpo175
                refine sv_iinc (d := (1 : Int)) hM dX12_nameAt_138 rfl (by decide) rfl rfl ?_
                show sv_T sm_XS sm_cs sm_L sm_sh 2 (q_nameAt p1 S) 30 141 [(0, .ref 0), (1, sv_I p1), (2, sv_I ((l2_43 + (0 : Int)) + (1 : Int))), (3, sv_I (1 : Int))] [] (sv_sts (sv_sts (sv_up S 1011 0 (0 : Int)) [5, 1011] g42) [5, 1011] g172)
                refine sv_goto hM dX12_nameAt_141 (pc' := 47) rfl ?_
                obtain ⟨o179, h⟩ := h
                have eS := sv_mod.eq md178
                have hb := ih44 (((l2_43 + (0 : Int)) + (1 : Int)), (sv_sts (sv_sts (sv_up S 1011 0 (0 : Int)) [5, 1011] g42) [5, 1011] g172)) ⟨o179, (by rw [← eS]; exact ok173), h.1⟩ h.2
                have hb : sv_T sm_XS sm_cs sm_L sm_sh 2 (q_nameAt p1 S) 30 47 [(0, .ref 0), (1, sv_I p1), (2, sv_I ((l2_43 + (0 : Int)) + (1 : Int)))] [] (sv_sts (sv_sts (sv_up S 1011 0 (0 : Int)) [5, 1011] g42) [5, 1011] g172) := Eq.mpr (congrArg (fun Z => sv_T sm_XS sm_cs sm_L sm_sh 2 (q_nameAt p1 S) 30 47 [(0, .ref 0), (1, sv_I p1), (2, sv_I ((l2_43 + (0 : Int)) + (1 : Int)))] [] Z) eS) hb
                exact sv_less (lv := [(0, .ref 0), (1, sv_I p1), (2, sv_I ((l2_43 + (0 : Int)) + (1 : Int)))]) (sv_Sub_cons rfl (sv_Sub_cons rfl (sv_Sub_cons rfl sv_Sub_nil))) hb
            · have h := h.2 (hc)
              refine sv_iconst (d := (1 : Int)) hM dX12_nameAt_80 rfl rfl ?_
              refine sv_goto hM dX12_nameAt_81 (pc' := 85) rfl ?_
              refine sv_iadd hM dX12_nameAt_85 rfl ?_
              refine sv_istore_n hM dX12_nameAt_86 (by decide) rfl ?_
              show sv_T sm_XS sm_cs sm_L sm_sh 2 (q_nameAt p1 S) 30 87 [(0, .ref 0), (1, sv_I p1), (2, sv_I (l2_43 + (1 : Int))), (3, sv_I (1 : Int))] [] (sv_sts (sv_up S 1011 0 (0 : Int)) [5, 1011] g42)
              refine sv_aload_n hM dX12_nameAt_87 rfl rfl ?_
              refine sv_iload_n hM dX12_nameAt_88 rfl rfl ?_
              refine sv_cond_ne hM dX12_nameAt_89 (⟨by decide, by decide⟩ : sv_R (1 : Int)) (t := 100) rfl rfl (fun hc => ?_) (fun hc => ?_)
              · have h := h.1 (hc)
                refine sv_aload_n hM dX12_nameAt_100 rfl rfl ?_
                refine sv_iload_n hM dX12_nameAt_101 rfl rfl ?_
                obtain ⟨o180, h⟩ := h
                obtain ⟨o181, h⟩ := h
                refine sv_callV hM dX12_nameAt_102 sm_iv_334 (by decide) (sm_a0 _) rfl rfl (Nat.le_of_ble_eq_true rfl) sm_h10 (Nat.le_of_ble_eq_true rfl) (Nat.le_of_ble_eq_true rfl) (F' := 0) (Nat.le_of_ble_eq_true rfl) rfl (t_look (l2_43 + (1 : Int)) (sv_sts (sv_up S 1011 0 (0 : Int)) [5, 1011] g42) ok46 o180 o181) (fun v S1 hq => ?_)
                obtain ⟨rfl, hS1⟩ := hq
                obtain rfl : (sv_sts (sv_up S 1011 0 (0 : Int)) [5, 1011] g42) = S1 := hS1.symm
                show sv_T sm_XS sm_cs sm_L sm_sh 2 (q_nameAt p1 S) 30 105 [(0, .ref 0), (1, sv_I p1), (2, sv_I (l2_43 + (1 : Int))), (3, sv_I (1 : Int))] [sv_I ((if (l2_43 + (1 : Int)) < (S 1004 0) then (S 2 (l2_43 + (1 : Int))) % 256 else 0)), .ref 0] (sv_sts (sv_up S 1011 0 (0 : Int)) [5, 1011] g42)
                refine sv_bipush (d := (110 : Int)) hM dX12_nameAt_105 rfl rfl ?_
                obtain ⟨o182, h⟩ := h
                refine sv_icmp_ne hM dX12_nameAt_107 o182 (⟨by decide, by decide⟩ : sv_R (110 : Int)) (t := 115) rfl rfl (fun hc => ?_) (fun hc => ?_)
                · have h := h.1 (hc)
                  refine sv_aload_n hM dX12_nameAt_115 rfl rfl ?_
                  refine sv_iload_n hM dX12_nameAt_116 rfl rfl ?_
                  refine sv_callV hM dX12_nameAt_117 sm_iv_334 (by decide) (sm_a0 _) rfl rfl (Nat.le_of_ble_eq_true rfl) sm_h10 (Nat.le_of_ble_eq_true rfl) (Nat.le_of_ble_eq_true rfl) (F' := 0) (Nat.le_of_ble_eq_true rfl) rfl (t_look (l2_43 + (1 : Int)) (sv_sts (sv_up S 1011 0 (0 : Int)) [5, 1011] g42) ok46 o180 o181) (fun v S1 hq => ?_)
                  obtain ⟨rfl, hS1⟩ := hq
                  obtain rfl : (sv_sts (sv_up S 1011 0 (0 : Int)) [5, 1011] g42) = S1 := hS1.symm
                  show sv_T sm_XS sm_cs sm_L sm_sh 2 (q_nameAt p1 S) 30 120 [(0, .ref 0), (1, sv_I p1), (2, sv_I (l2_43 + (1 : Int))), (3, sv_I (1 : Int))] [sv_I ((if (l2_43 + (1 : Int)) < (S 1004 0) then (S 2 (l2_43 + (1 : Int))) % 256 else 0)), .ref 0] (sv_sts (sv_up S 1011 0 (0 : Int)) [5, 1011] g42)
                  refine sv_bipush (d := (116 : Int)) hM dX12_nameAt_120 rfl rfl ?_
                  refine sv_icmp_ne hM dX12_nameAt_122 o182 (⟨by decide, by decide⟩ : sv_R (116 : Int)) (t := 130) rfl rfl (fun hc => ?_) (fun hc => ?_)
                  · have h := h.1 (hc)
                    refine sv_aload_n hM dX12_nameAt_130 rfl rfl ?_
                    refine sv_iload_n hM dX12_nameAt_131 rfl rfl ?_
                    refine sv_callV hM dX12_nameAt_132 sm_iv_334 (by decide) (sm_a0 _) rfl rfl (Nat.le_of_ble_eq_true rfl) sm_h10 (Nat.le_of_ble_eq_true rfl) (Nat.le_of_ble_eq_true rfl) (F' := 0) (Nat.le_of_ble_eq_true rfl) rfl (t_look (l2_43 + (1 : Int)) (sv_sts (sv_up S 1011 0 (0 : Int)) [5, 1011] g42) ok46 o180 o181) (fun v S1 hq => ?_)
                    obtain ⟨rfl, hS1⟩ := hq
                    obtain rfl : (sv_sts (sv_up S 1011 0 (0 : Int)) [5, 1011] g42) = S1 := hS1.symm
                    show sv_T sm_XS sm_cs sm_L sm_sh 2 (q_nameAt p1 S) 30 135 [(0, .ref 0), (1, sv_I p1), (2, sv_I (l2_43 + (1 : Int))), (3, sv_I (1 : Int))] [sv_I ((if (l2_43 + (1 : Int)) < (S 1004 0) then (S 2 (l2_43 + (1 : Int))) % 256 else 0)), .ref 0] (sv_sts (sv_up S 1011 0 (0 : Int)) [5, 1011] g42)
                    obtain ⟨o183, h⟩ := h
                    refine sv_callV hM dX12_nameAt_135 sm_iv_324 (by decide) (sm_a0 _) rfl rfl (Nat.le_of_ble_eq_true rfl) sm_h7 (Nat.le_of_ble_eq_true rfl) (Nat.le_of_ble_eq_true rfl) (F' := 0) (Nat.le_of_ble_eq_true rfl) rfl (t_put ((if (l2_43 + (1 : Int)) < (S 1004 0) then (S 2 (l2_43 + (1 : Int))) % 256 else 0)) (sv_sts (sv_up S 1011 0 (0 : Int)) [5, 1011] g42) ok46 o182 o183) (fun v S1 hq => ?_)
                    obtain ⟨rfl, ok185, md186, hpo187⟩ := hq
                    obtain ⟨g184, rfl⟩ : ∃ g, S1 = sv_sts (sv_sts (sv_up S 1011 0 (0 : Int)) [5, 1011] g42) [5, 1011] g := ⟨_, md186.eq⟩
                    show sv_T sm_XS sm_cs sm_L sm_sh 2 (q_nameAt p1 S) 30 138 [(0, .ref 0), (1, sv_I p1), (2, sv_I (l2_43 + (1 : Int))), (3, sv_I (1 : Int))] [] (sv_sts (sv_sts (sv_up S 1011 0 (0 : Int)) [5, 1011] g42) [5, 1011] g184)
                    have md188 : sv_mod [5, 1011, 3, 4, 1007, 1009] S (sv_sts (sv_sts (sv_up S 1011 0 (0 : Int)) [5, 1011] g42) [5, 1011] g184) := sv_mod.sts md47 (by decide)
                    have md189 : sv_mod [5, 1011] S (sv_sts (sv_sts (sv_up S 1011 0 (0 : Int)) [5, 1011] g42) [5, 1011] g184) := sv_mod.sts md48 (by decide)
                    have md190 : sv_mod [5, 1011] (sv_up S 1011 0 (0 : Int)) (sv_sts (sv_sts (sv_up S 1011 0 (0 : Int)) [5, 1011] g42) [5, 1011] g184) := sv_mod.sts md49 (by decide)
                    have h := h g184 hpo187
                    refine sv_iinc (d := (1 : Int)) hM dX12_nameAt_138 rfl (by decide) rfl rfl ?_
                    show sv_T sm_XS sm_cs sm_L sm_sh 2 (q_nameAt p1 S) 30 141 [(0, .ref 0), (1, sv_I p1), (2, sv_I ((l2_43 + (1 : Int)) + (1 : Int))), (3, sv_I (1 : Int))] [] (sv_sts (sv_sts (sv_up S 1011 0 (0 : Int)) [5, 1011] g42) [5, 1011] g184)
                    refine sv_goto hM dX12_nameAt_141 (pc' := 47) rfl ?_
                    obtain ⟨o191, h⟩ := h
                    have eS := sv_mod.eq md190
                    have hb := ih44 (((l2_43 + (1 : Int)) + (1 : Int)), (sv_sts (sv_sts (sv_up S 1011 0 (0 : Int)) [5, 1011] g42) [5, 1011] g184)) ⟨o191, (by rw [← eS]; exact ok185), h.1⟩ h.2
                    have hb : sv_T sm_XS sm_cs sm_L sm_sh 2 (q_nameAt p1 S) 30 47 [(0, .ref 0), (1, sv_I p1), (2, sv_I ((l2_43 + (1 : Int)) + (1 : Int)))] [] (sv_sts (sv_sts (sv_up S 1011 0 (0 : Int)) [5, 1011] g42) [5, 1011] g184) := Eq.mpr (congrArg (fun Z => sv_T sm_XS sm_cs sm_L sm_sh 2 (q_nameAt p1 S) 30 47 [(0, .ref 0), (1, sv_I p1), (2, sv_I ((l2_43 + (1 : Int)) + (1 : Int)))] [] Z) eS) hb
                    exact sv_less (lv := [(0, .ref 0), (1, sv_I p1), (2, sv_I ((l2_43 + (1 : Int)) + (1 : Int)))]) (sv_Sub_cons rfl (sv_Sub_cons rfl (sv_Sub_cons rfl sv_Sub_nil))) hb
                  · have h := h.2 (hc)
                    refine sv_bipush (d := (9 : Int)) hM dX12_nameAt_125 rfl rfl ?_
                    refine sv_goto hM dX12_nameAt_127 (pc' := 135) rfl ?_
                    obtain ⟨o192, h⟩ := h
                    refine sv_callV hM dX12_nameAt_135 sm_iv_324 (by decide) (sm_a0 _) rfl rfl (Nat.le_of_ble_eq_true rfl) sm_h7 (Nat.le_of_ble_eq_true rfl) (Nat.le_of_ble_eq_true rfl) (F' := 0) (Nat.le_of_ble_eq_true rfl) rfl (t_put (9 : Int) (sv_sts (sv_up S 1011 0 (0 : Int)) [5, 1011] g42) ok46 (⟨by decide, by decide⟩ : sv_R (9 : Int)) o192) (fun v S1 hq => ?_)
                    obtain ⟨rfl, ok194, md195, hpo196⟩ := hq
                    obtain ⟨g193, rfl⟩ : ∃ g, S1 = sv_sts (sv_sts (sv_up S 1011 0 (0 : Int)) [5, 1011] g42) [5, 1011] g := ⟨_, md195.eq⟩
                    show sv_T sm_XS sm_cs sm_L sm_sh 2 (q_nameAt p1 S) 30 138 [(0, .ref 0), (1, sv_I p1), (2, sv_I (l2_43 + (1 : Int))), (3, sv_I (1 : Int))] [] (sv_sts (sv_sts (sv_up S 1011 0 (0 : Int)) [5, 1011] g42) [5, 1011] g193)
                    have md197 : sv_mod [5, 1011, 3, 4, 1007, 1009] S (sv_sts (sv_sts (sv_up S 1011 0 (0 : Int)) [5, 1011] g42) [5, 1011] g193) := sv_mod.sts md47 (by decide)
                    have md198 : sv_mod [5, 1011] S (sv_sts (sv_sts (sv_up S 1011 0 (0 : Int)) [5, 1011] g42) [5, 1011] g193) := sv_mod.sts md48 (by decide)
                    have md199 : sv_mod [5, 1011] (sv_up S 1011 0 (0 : Int)) (sv_sts (sv_sts (sv_up S 1011 0 (0 : Int)) [5, 1011] g42) [5, 1011] g193) := sv_mod.sts md49 (by decide)
                    have h := h g193 hpo196
                    refine sv_iinc (d := (1 : Int)) hM dX12_nameAt_138 rfl (by decide) rfl rfl ?_
                    show sv_T sm_XS sm_cs sm_L sm_sh 2 (q_nameAt p1 S) 30 141 [(0, .ref 0), (1, sv_I p1), (2, sv_I ((l2_43 + (1 : Int)) + (1 : Int))), (3, sv_I (1 : Int))] [] (sv_sts (sv_sts (sv_up S 1011 0 (0 : Int)) [5, 1011] g42) [5, 1011] g193)
                    refine sv_goto hM dX12_nameAt_141 (pc' := 47) rfl ?_
                    obtain ⟨o200, h⟩ := h
                    have eS := sv_mod.eq md199
                    have hb := ih44 (((l2_43 + (1 : Int)) + (1 : Int)), (sv_sts (sv_sts (sv_up S 1011 0 (0 : Int)) [5, 1011] g42) [5, 1011] g193)) ⟨o200, (by rw [← eS]; exact ok194), h.1⟩ h.2
                    have hb : sv_T sm_XS sm_cs sm_L sm_sh 2 (q_nameAt p1 S) 30 47 [(0, .ref 0), (1, sv_I p1), (2, sv_I ((l2_43 + (1 : Int)) + (1 : Int)))] [] (sv_sts (sv_sts (sv_up S 1011 0 (0 : Int)) [5, 1011] g42) [5, 1011] g193) := Eq.mpr (congrArg (fun Z => sv_T sm_XS sm_cs sm_L sm_sh 2 (q_nameAt p1 S) 30 47 [(0, .ref 0), (1, sv_I p1), (2, sv_I ((l2_43 + (1 : Int)) + (1 : Int)))] [] Z) eS) hb
                    exact sv_less (lv := [(0, .ref 0), (1, sv_I p1), (2, sv_I ((l2_43 + (1 : Int)) + (1 : Int)))]) (sv_Sub_cons rfl (sv_Sub_cons rfl (sv_Sub_cons rfl sv_Sub_nil))) hb
                · have h := h.2 (hc)
                  refine sv_bipush (d := (10 : Int)) hM dX12_nameAt_110 rfl rfl ?_
                  refine sv_goto hM dX12_nameAt_112 (pc' := 135) rfl ?_
                  obtain ⟨o201, h⟩ := h
                  refine sv_callV hM dX12_nameAt_135 sm_iv_324 (by decide) (sm_a0 _) rfl rfl (Nat.le_of_ble_eq_true rfl) sm_h7 (Nat.le_of_ble_eq_true rfl) (Nat.le_of_ble_eq_true rfl) (F' := 0) (Nat.le_of_ble_eq_true rfl) rfl (t_put (10 : Int) (sv_sts (sv_up S 1011 0 (0 : Int)) [5, 1011] g42) ok46 (⟨by decide, by decide⟩ : sv_R (10 : Int)) o201) (fun v S1 hq => ?_)
                  obtain ⟨rfl, ok203, md204, hpo205⟩ := hq
                  obtain ⟨g202, rfl⟩ : ∃ g, S1 = sv_sts (sv_sts (sv_up S 1011 0 (0 : Int)) [5, 1011] g42) [5, 1011] g := ⟨_, md204.eq⟩
                  show sv_T sm_XS sm_cs sm_L sm_sh 2 (q_nameAt p1 S) 30 138 [(0, .ref 0), (1, sv_I p1), (2, sv_I (l2_43 + (1 : Int))), (3, sv_I (1 : Int))] [] (sv_sts (sv_sts (sv_up S 1011 0 (0 : Int)) [5, 1011] g42) [5, 1011] g202)
                  have md206 : sv_mod [5, 1011, 3, 4, 1007, 1009] S (sv_sts (sv_sts (sv_up S 1011 0 (0 : Int)) [5, 1011] g42) [5, 1011] g202) := sv_mod.sts md47 (by decide)
                  have md207 : sv_mod [5, 1011] S (sv_sts (sv_sts (sv_up S 1011 0 (0 : Int)) [5, 1011] g42) [5, 1011] g202) := sv_mod.sts md48 (by decide)
                  have md208 : sv_mod [5, 1011] (sv_up S 1011 0 (0 : Int)) (sv_sts (sv_sts (sv_up S 1011 0 (0 : Int)) [5, 1011] g42) [5, 1011] g202) := sv_mod.sts md49 (by decide)
                  have h := h g202 hpo205
                  refine sv_iinc (d := (1 : Int)) hM dX12_nameAt_138 rfl (by decide) rfl rfl ?_
                  show sv_T sm_XS sm_cs sm_L sm_sh 2 (q_nameAt p1 S) 30 141 [(0, .ref 0), (1, sv_I p1), (2, sv_I ((l2_43 + (1 : Int)) + (1 : Int))), (3, sv_I (1 : Int))] [] (sv_sts (sv_sts (sv_up S 1011 0 (0 : Int)) [5, 1011] g42) [5, 1011] g202)
                  refine sv_goto hM dX12_nameAt_141 (pc' := 47) rfl ?_
                  obtain ⟨o209, h⟩ := h
                  have eS := sv_mod.eq md208
                  have hb := ih44 (((l2_43 + (1 : Int)) + (1 : Int)), (sv_sts (sv_sts (sv_up S 1011 0 (0 : Int)) [5, 1011] g42) [5, 1011] g202)) ⟨o209, (by rw [← eS]; exact ok203), h.1⟩ h.2
                  have hb : sv_T sm_XS sm_cs sm_L sm_sh 2 (q_nameAt p1 S) 30 47 [(0, .ref 0), (1, sv_I p1), (2, sv_I ((l2_43 + (1 : Int)) + (1 : Int)))] [] (sv_sts (sv_sts (sv_up S 1011 0 (0 : Int)) [5, 1011] g42) [5, 1011] g202) := Eq.mpr (congrArg (fun Z => sv_T sm_XS sm_cs sm_L sm_sh 2 (q_nameAt p1 S) 30 47 [(0, .ref 0), (1, sv_I p1), (2, sv_I ((l2_43 + (1 : Int)) + (1 : Int)))] [] Z) eS) hb
                  exact sv_less (lv := [(0, .ref 0), (1, sv_I p1), (2, sv_I ((l2_43 + (1 : Int)) + (1 : Int)))]) (sv_Sub_cons rfl (sv_Sub_cons rfl (sv_Sub_cons rfl sv_Sub_nil))) hb
              · have h := h.2 (hc)
                refine sv_aload_n hM dX12_nameAt_92 rfl rfl ?_
                refine sv_iload_n hM dX12_nameAt_93 rfl rfl ?_
                obtain ⟨o210, h⟩ := h
                obtain ⟨o211, h⟩ := h
                refine sv_callV hM dX12_nameAt_94 sm_iv_334 (by decide) (sm_a0 _) rfl rfl (Nat.le_of_ble_eq_true rfl) sm_h10 (Nat.le_of_ble_eq_true rfl) (Nat.le_of_ble_eq_true rfl) (F' := 0) (Nat.le_of_ble_eq_true rfl) rfl (t_look (l2_43 + (1 : Int)) (sv_sts (sv_up S 1011 0 (0 : Int)) [5, 1011] g42) ok46 o210 o211) (fun v S1 hq => ?_)
                obtain ⟨rfl, hS1⟩ := hq
                obtain rfl : (sv_sts (sv_up S 1011 0 (0 : Int)) [5, 1011] g42) = S1 := hS1.symm
                show sv_T sm_XS sm_cs sm_L sm_sh 2 (q_nameAt p1 S) 30 97 [(0, .ref 0), (1, sv_I p1), (2, sv_I (l2_43 + (1 : Int))), (3, sv_I (1 : Int))] [sv_I ((if (l2_43 + (1 : Int)) < (S 1004 0) then (S 2 (l2_43 + (1 : Int))) % 256 else 0)), .ref 0] (sv_sts (sv_up S 1011 0 (0 : Int)) [5, 1011] g42)
                refine sv_goto hM dX12_nameAt_97 (pc' := 135) rfl ?_
                obtain ⟨o212, h⟩ := h
                obtain ⟨o213, h⟩ := h
                refine sv_callV hM dX12_nameAt_135 sm_iv_324 (by decide) (sm_a0 _) rfl rfl (Nat.le_of_ble_eq_true rfl) sm_h7 (Nat.le_of_ble_eq_true rfl) (Nat.le_of_ble_eq_true rfl) (F' := 0) (Nat.le_of_ble_eq_true rfl) rfl (t_put ((if (l2_43 + (1 : Int)) < (S 1004 0) then (S 2 (l2_43 + (1 : Int))) % 256 else 0)) (sv_sts (sv_up S 1011 0 (0 : Int)) [5, 1011] g42) ok46 o212 o213) (fun v S1 hq => ?_)
                obtain ⟨rfl, ok215, md216, hpo217⟩ := hq
                obtain ⟨g214, rfl⟩ : ∃ g, S1 = sv_sts (sv_sts (sv_up S 1011 0 (0 : Int)) [5, 1011] g42) [5, 1011] g := ⟨_, md216.eq⟩
                show sv_T sm_XS sm_cs sm_L sm_sh 2 (q_nameAt p1 S) 30 138 [(0, .ref 0), (1, sv_I p1), (2, sv_I (l2_43 + (1 : Int))), (3, sv_I (1 : Int))] [] (sv_sts (sv_sts (sv_up S 1011 0 (0 : Int)) [5, 1011] g42) [5, 1011] g214)
                have md218 : sv_mod [5, 1011, 3, 4, 1007, 1009] S (sv_sts (sv_sts (sv_up S 1011 0 (0 : Int)) [5, 1011] g42) [5, 1011] g214) := sv_mod.sts md47 (by decide)
                have md219 : sv_mod [5, 1011] S (sv_sts (sv_sts (sv_up S 1011 0 (0 : Int)) [5, 1011] g42) [5, 1011] g214) := sv_mod.sts md48 (by decide)
                have md220 : sv_mod [5, 1011] (sv_up S 1011 0 (0 : Int)) (sv_sts (sv_sts (sv_up S 1011 0 (0 : Int)) [5, 1011] g42) [5, 1011] g214) := sv_mod.sts md49 (by decide)
                have h := h g214 hpo217
                refine sv_iinc (d := (1 : Int)) hM dX12_nameAt_138 rfl (by decide) rfl rfl ?_
                show sv_T sm_XS sm_cs sm_L sm_sh 2 (q_nameAt p1 S) 30 141 [(0, .ref 0), (1, sv_I p1), (2, sv_I ((l2_43 + (1 : Int)) + (1 : Int))), (3, sv_I (1 : Int))] [] (sv_sts (sv_sts (sv_up S 1011 0 (0 : Int)) [5, 1011] g42) [5, 1011] g214)
                refine sv_goto hM dX12_nameAt_141 (pc' := 47) rfl ?_
                obtain ⟨o221, h⟩ := h
                have eS := sv_mod.eq md220
                have hb := ih44 (((l2_43 + (1 : Int)) + (1 : Int)), (sv_sts (sv_sts (sv_up S 1011 0 (0 : Int)) [5, 1011] g42) [5, 1011] g214)) ⟨o221, (by rw [← eS]; exact ok215), h.1⟩ h.2
                have hb : sv_T sm_XS sm_cs sm_L sm_sh 2 (q_nameAt p1 S) 30 47 [(0, .ref 0), (1, sv_I p1), (2, sv_I ((l2_43 + (1 : Int)) + (1 : Int)))] [] (sv_sts (sv_sts (sv_up S 1011 0 (0 : Int)) [5, 1011] g42) [5, 1011] g214) := Eq.mpr (congrArg (fun Z => sv_T sm_XS sm_cs sm_L sm_sh 2 (q_nameAt p1 S) 30 47 [(0, .ref 0), (1, sv_I p1), (2, sv_I ((l2_43 + (1 : Int)) + (1 : Int)))] [] Z) eS) hb
                exact sv_less (lv := [(0, .ref 0), (1, sv_I p1), (2, sv_I ((l2_43 + (1 : Int)) + (1 : Int)))]) (sv_Sub_cons rfl (sv_Sub_cons rfl (sv_Sub_cons rfl sv_Sub_nil))) hb
      have eS := sv_mod.eq (sv_mod.rf (l := [5, 1011]) (S := (sv_up S 1011 0 (0 : Int))))
      have hb := hJ (((S 8 p1) + (1 : Int)), (sv_up S 1011 0 (0 : Int))) ⟨o41, (by rw [← eS]; exact ok14), hin45⟩
      have hb : sv_T sm_XS sm_cs sm_L sm_sh 2 (q_nameAt p1 S) 30 47 [(0, .ref 0), (1, sv_I p1), (2, sv_I ((S 8 p1) + (1 : Int)))] [] (sv_up S 1011 0 (0 : Int)) := Eq.mpr (congrArg (fun Z => sv_T sm_XS sm_cs sm_L sm_sh 2 (q_nameAt p1 S) 30 47 [(0, .ref 0), (1, sv_I p1), (2, sv_I ((S 8 p1) + (1 : Int)))] [] Z) eS) hb
      exact hb
  · have h := h.2 (hc)
    refine sv_aload_n hM dX12_nameAt_15 rfl rfl ?_
    refine sv_aload_n hM dX12_nameAt_16 rfl rfl ?_
    refine sv_getA hM dX12_nameAt_17 sm_fl_30 (sm_a0 _) sm_k14 rfl ?_
    refine sv_iload_n hM dX12_nameAt_20 rfl rfl ?_
    have k222 : sv_R (S 7 p1) := sm_okI ok14 sm_r7 p1
    have h := h k222
    refine sv_iald hM dX12_nameAt_21 (sm_a7 _) (by decide) o17.1 o17.2 rfl (x := (S 7 p1)) rfl ?_
    obtain ⟨o223, h⟩ := h
    refine sv_callV hM dX12_nameAt_22 sm_iv_410 (by decide) (sm_a0 _) rfl rfl (Nat.le_of_ble_eq_true rfl) sm_h31 (Nat.le_of_ble_eq_true rfl) (Nat.le_of_ble_eq_true rfl) (F' := 1) (Nat.le_of_ble_eq_true rfl) rfl (t_putNumber (S 7 p1) (sv_up S 1011 0 (0 : Int)) ok14 k222 o223) (fun v S1 hq => ?_)
    obtain ⟨rfl, ok225, md226, hpo227⟩ := hq
    obtain ⟨g224, rfl⟩ : ∃ g, S1 = sv_sts (sv_up S 1011 0 (0 : Int)) [5, 1011] g := ⟨_, md226.eq⟩
    show sv_T sm_XS sm_cs sm_L sm_sh 2 (q_nameAt p1 S) 30 25 [(0, .ref 0), (1, sv_I p1)] [] (sv_sts (sv_up S 1011 0 (0 : Int)) [5, 1011] g224)
    have md228 : sv_mod [5, 1011, 3, 4, 1007, 1009] S (sv_sts (sv_up S 1011 0 (0 : Int)) [5, 1011] g224) := sv_mod.sts md15 (by decide)
    have md229 : sv_mod [5, 1011] S (sv_sts (sv_up S 1011 0 (0 : Int)) [5, 1011] g224) := sv_mod.sts md16 (by decide)
    have h := h g224 hpo227
    refine sv_goto hM dX12_nameAt_25 (pc' := 179) rfl ?_
    have eS := sv_mod.eq md229
    have hb := J13 (sv_sts (sv_up S 1011 0 (0 : Int)) [5, 1011] g224) (by rw [← eS]; exact ok225) h
    have hb : sv_T sm_XS sm_cs sm_L sm_sh 2 (q_nameAt p1 S) 30 179 [(0, .ref 0), (1, sv_I p1)] [] (sv_sts (sv_up S 1011 0 (0 : Int)) [5, 1011] g224) := Eq.mpr (congrArg (fun Z => sv_T sm_XS sm_cs sm_L sm_sh 2 (q_nameAt p1 S) 30 179 [(0, .ref 0), (1, sv_I p1)] [] Z) eS) hb
    exact sv_less (lv := [(0, .ref 0), (1, sv_I p1)]) (sv_Sub_cons rfl (sv_Sub_cons rfl sv_Sub_nil)) hb
