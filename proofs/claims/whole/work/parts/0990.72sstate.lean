theorem dX12_fieldsAt_0 : decode cX12_fieldsAt 0 = .ok (.iload_n 1, 1) := by decide +kernel
theorem dX12_fieldsAt_1 : decode cX12_fieldsAt 1 = .ok (.sipush 639, 3) := by decide +kernel
theorem dX12_fieldsAt_4 : decode cX12_fieldsAt 4 = .ok (.if_icmp .ne 9, 3) := by decide +kernel
theorem dX12_fieldsAt_7 : decode cX12_fieldsAt 7 = .ok (.ldc_w 1084, 3) := by decide +kernel
theorem dX12_fieldsAt_10 : decode cX12_fieldsAt 10 = .ok (.goto 16, 3) := by decide +kernel
theorem dX12_fieldsAt_13 : decode cX12_fieldsAt 13 = .ok (.iload_n 1, 1) := by decide +kernel
theorem dX12_fieldsAt_14 : decode cX12_fieldsAt 14 = .ok (.aload_n 0, 1) := by decide +kernel
theorem dX12_fieldsAt_15 : decode cX12_fieldsAt 15 = .ok (.getfield 765, 3) := by decide +kernel
theorem dX12_fieldsAt_18 : decode cX12_fieldsAt 18 = .ok (.imul, 1) := by decide +kernel
theorem dX12_fieldsAt_19 : decode cX12_fieldsAt 19 = .ok (.aload_n 0, 1) := by decide +kernel
theorem dX12_fieldsAt_20 : decode cX12_fieldsAt 20 = .ok (.getfield 762, 3) := by decide +kernel
theorem dX12_fieldsAt_23 : decode cX12_fieldsAt 23 = .ok (.iconst 1, 1) := by decide +kernel
theorem dX12_fieldsAt_24 : decode cX12_fieldsAt 24 = .ok (.iadd, 1) := by decide +kernel
theorem dX12_fieldsAt_25 : decode cX12_fieldsAt 25 = .ok (.imul, 1) := by decide +kernel
theorem dX12_fieldsAt_26 : decode cX12_fieldsAt 26 = .ok (.ireturn, 1) := by decide +kernel
theorem dX12_labelsAt_0 : decode cX12_labelsAt 0 = .ok (.iload_n 1, 1) := by decide +kernel
theorem dX12_labelsAt_1 : decode cX12_labelsAt 1 = .ok (.sipush 639, 3) := by decide +kernel
theorem dX12_labelsAt_4 : decode cX12_labelsAt 4 = .ok (.if_icmp .ne 9, 3) := by decide +kernel
theorem dX12_labelsAt_7 : decode cX12_labelsAt 7 = .ok (.sipush 15000, 3) := by decide +kernel
theorem dX12_labelsAt_10 : decode cX12_labelsAt 10 = .ok (.goto 9, 3) := by decide +kernel
theorem dX12_labelsAt_13 : decode cX12_labelsAt 13 = .ok (.iload_n 1, 1) := by decide +kernel
theorem dX12_labelsAt_14 : decode cX12_labelsAt 14 = .ok (.aload_n 0, 1) := by decide +kernel
theorem dX12_labelsAt_15 : decode cX12_labelsAt 15 = .ok (.getfield 765, 3) := by decide +kernel
theorem dX12_labelsAt_18 : decode cX12_labelsAt 18 = .ok (.imul, 1) := by decide +kernel
theorem dX12_labelsAt_19 : decode cX12_labelsAt 19 = .ok (.ireturn, 1) := by decide +kernel
theorem dX12_field_0 : decode cX12_field 0 = .ok (.aload_n 0, 1) := by decide +kernel
theorem dX12_field_1 : decode cX12_field 1 = .ok (.iload_n 1, 1) := by decide +kernel
theorem dX12_field_2 : decode cX12_field 2 = .ok (.invokevirtual 1085, 3) := by decide +kernel
theorem dX12_field_5 : decode cX12_field 5 = .ok (.iload_n 2, 1) := by decide +kernel
theorem dX12_field_6 : decode cX12_field 6 = .ok (.aload_n 0, 1) := by decide +kernel
theorem dX12_field_7 : decode cX12_field 7 = .ok (.getfield 762, 3) := by decide +kernel
theorem dX12_field_10 : decode cX12_field 10 = .ok (.iconst 1, 1) := by decide +kernel
theorem dX12_field_11 : decode cX12_field 11 = .ok (.iadd, 1) := by decide +kernel
theorem dX12_field_12 : decode cX12_field 12 = .ok (.imul, 1) := by decide +kernel
theorem dX12_field_13 : decode cX12_field 13 = .ok (.iadd, 1) := by decide +kernel
theorem dX12_field_14 : decode cX12_field 14 = .ok (.iload_n 3, 1) := by decide +kernel
theorem dX12_field_15 : decode cX12_field 15 = .ok (.iadd, 1) := by decide +kernel
theorem dX12_field_16 : decode cX12_field 16 = .ok (.ireturn, 1) := by decide +kernel
theorem dX12_of_0 : decode cX12_of 0 = .ok (.aload_n 0, 1) := by decide +kernel
theorem dX12_of_1 : decode cX12_of 1 = .ok (.iload_n 1, 1) := by decide +kernel
theorem dX12_of_2 : decode cX12_of 2 = .ok (.invokevirtual 1088, 3) := by decide +kernel
theorem dX12_of_5 : decode cX12_of 5 = .ok (.iload_n 2, 1) := by decide +kernel
theorem dX12_of_6 : decode cX12_of 6 = .ok (.iadd, 1) := by decide +kernel
theorem dX12_of_7 : decode cX12_of 7 = .ok (.ireturn, 1) := by decide +kernel
theorem dX12_thisAt_0 : decode cX12_thisAt 0 = .ok (.ldc_w 1091, 3) := by decide +kernel
theorem dX12_thisAt_3 : decode cX12_thisAt 3 = .ok (.iload_n 1, 1) := by decide +kernel
theorem dX12_thisAt_4 : decode cX12_thisAt 4 = .ok (.iadd, 1) := by decide +kernel
theorem dX12_thisAt_5 : decode cX12_thisAt 5 = .ok (.ireturn, 1) := by decide +kernel
theorem dX12_onStack_0 : decode cX12_onStack 0 = .ok (.aload_n 0, 1) := by decide +kernel
theorem dX12_onStack_1 : decode cX12_onStack 1 = .ok (.getfield 238, 3) := by decide +kernel
theorem dX12_onStack_4 : decode cX12_onStack 4 = .ok (.iload_n 1, 1) := by decide +kernel
theorem dX12_onStack_5 : decode cX12_onStack 5 = .ok (.iaload, 1) := by decide +kernel
theorem dX12_onStack_6 : decode cX12_onStack 6 = .ok (.iload_n 2, 1) := by decide +kernel
theorem dX12_onStack_7 : decode cX12_onStack 7 = .ok (.iadd, 1) := by decide +kernel
theorem dX12_onStack_8 : decode cX12_onStack 8 = .ok (.ireturn, 1) := by decide +kernel
theorem dX12_fromTop_0 : decode cX12_fromTop 0 = .ok (.aload_n 0, 1) := by decide +kernel
theorem dX12_fromTop_1 : decode cX12_fromTop 1 = .ok (.getfield 238, 3) := by decide +kernel
theorem dX12_fromTop_4 : decode cX12_fromTop 4 = .ok (.sipush 639, 3) := by decide +kernel
theorem dX12_fromTop_7 : decode cX12_fromTop 7 = .ok (.iaload, 1) := by decide +kernel
theorem dX12_fromTop_8 : decode cX12_fromTop 8 = .ok (.aload_n 0, 1) := by decide +kernel
theorem dX12_fromTop_9 : decode cX12_fromTop 9 = .ok (.getfield 235, 3) := by decide +kernel
theorem dX12_fromTop_12 : decode cX12_fromTop 12 = .ok (.sipush 639, 3) := by decide +kernel
theorem dX12_fromTop_15 : decode cX12_fromTop 15 = .ok (.iaload, 1) := by decide +kernel
theorem dX12_fromTop_16 : decode cX12_fromTop 16 = .ok (.iadd, 1) := by decide +kernel
theorem dX12_fromTop_17 : decode cX12_fromTop 17 = .ok (.iconst 1, 1) := by decide +kernel
theorem dX12_fromTop_18 : decode cX12_fromTop 18 = .ok (.isub, 1) := by decide +kernel
theorem dX12_fromTop_19 : decode cX12_fromTop 19 = .ok (.iload_n 1, 1) := by decide +kernel
theorem dX12_fromTop_20 : decode cX12_fromTop 20 = .ok (.isub, 1) := by decide +kernel
theorem dX12_fromTop_21 : decode cX12_fromTop 21 = .ok (.ireturn, 1) := by decide +kernel
theorem dX12_pushSet_0 : decode cX12_pushSet 0 = .ok (.aload_n 0, 1) := by decide +kernel
theorem dX12_pushSet_1 : decode cX12_pushSet 1 = .ok (.getfield 238, 3) := by decide +kernel
theorem dX12_pushSet_4 : decode cX12_pushSet 4 = .ok (.sipush 639, 3) := by decide +kernel
theorem dX12_pushSet_7 : decode cX12_pushSet 7 = .ok (.iaload, 1) := by decide +kernel
theorem dX12_pushSet_8 : decode cX12_pushSet 8 = .ok (.aload_n 0, 1) := by decide +kernel
theorem dX12_pushSet_9 : decode cX12_pushSet 9 = .ok (.getfield 235, 3) := by decide +kernel
theorem dX12_pushSet_12 : decode cX12_pushSet 12 = .ok (.sipush 639, 3) := by decide +kernel
theorem dX12_pushSet_15 : decode cX12_pushSet 15 = .ok (.iaload, 1) := by decide +kernel
theorem dX12_pushSet_16 : decode cX12_pushSet 16 = .ok (.iadd, 1) := by decide +kernel
theorem dX12_pushSet_17 : decode cX12_pushSet 17 = .ok (.istore_n 1, 1) := by decide +kernel
theorem dX12_pushSet_18 : decode cX12_pushSet 18 = .ok (.aload_n 0, 1) := by decide +kernel
theorem dX12_pushSet_19 : decode cX12_pushSet 19 = .ok (.iload_n 1, 1) := by decide +kernel
theorem dX12_pushSet_20 : decode cX12_pushSet 20 = .ok (.invokevirtual 1066, 3) := by decide +kernel
theorem dX12_pushSet_23 : decode cX12_pushSet 23 = .ok (.aload_n 0, 1) := by decide +kernel
theorem dX12_pushSet_24 : decode cX12_pushSet 24 = .ok (.getfield 235, 3) := by decide +kernel
theorem dX12_pushSet_27 : decode cX12_pushSet 27 = .ok (.sipush 639, 3) := by decide +kernel
theorem dX12_pushSet_30 : decode cX12_pushSet 30 = .ok (.dup2, 1) := by decide +kernel
theorem dX12_pushSet_31 : decode cX12_pushSet 31 = .ok (.iaload, 1) := by decide +kernel
theorem dX12_pushSet_32 : decode cX12_pushSet 32 = .ok (.iconst 1, 1) := by decide +kernel
theorem dX12_pushSet_33 : decode cX12_pushSet 33 = .ok (.iadd, 1) := by decide +kernel
theorem dX12_pushSet_34 : decode cX12_pushSet 34 = .ok (.iastore, 1) := by decide +kernel
theorem dX12_pushSet_35 : decode cX12_pushSet 35 = .ok (.iload_n 1, 1) := by decide +kernel
theorem dX12_pushSet_36 : decode cX12_pushSet 36 = .ok (.ireturn, 1) := by decide +kernel
theorem dX12_isFunctionLabel_0 : decode cX12_isFunctionLabel 0 = .ok (.iload_n 1, 1) := by decide +kernel
theorem dX12_isFunctionLabel_1 : decode cX12_isFunctionLabel 1 = .ok (.bipush 9, 2) := by decide +kernel
theorem dX12_isFunctionLabel_3 : decode cX12_isFunctionLabel 3 = .ok (.if_icmp .lt 9, 3) := by decide +kernel
theorem dX12_isFunctionLabel_6 : decode cX12_isFunctionLabel 6 = .ok (.iload_n 1, 1) := by decide +kernel
theorem dX12_isFunctionLabel_7 : decode cX12_isFunctionLabel 7 = .ok (.bipush 23, 2) := by decide +kernel
theorem dX12_isFunctionLabel_9 : decode cX12_isFunctionLabel 9 = .ok (.if_icmp .lt 47, 3) := by decide +kernel
theorem dX12_isFunctionLabel_12 : decode cX12_isFunctionLabel 12 = .ok (.iload_n 1, 1) := by decide +kernel
theorem dX12_isFunctionLabel_13 : decode cX12_isFunctionLabel 13 = .ok (.bipush 29, 2) := by decide +kernel
theorem dX12_isFunctionLabel_15 : decode cX12_isFunctionLabel 15 = .ok (.if_icmp .lt 45, 3) := by decide +kernel
theorem dX12_isFunctionLabel_18 : decode cX12_isFunctionLabel 18 = .ok (.iload_n 1, 1) := by decide +kernel
theorem dX12_isFunctionLabel_19 : decode cX12_isFunctionLabel 19 = .ok (.bipush 29, 2) := by decide +kernel
theorem dX12_isFunctionLabel_21 : decode cX12_isFunctionLabel 21 = .ok (.bipush 6, 2) := by decide +kernel
theorem dX12_isFunctionLabel_23 : decode cX12_isFunctionLabel 23 = .ok (.aload_n 0, 1) := by decide +kernel
theorem dX12_isFunctionLabel_24 : decode cX12_isFunctionLabel 24 = .ok (.getfield 527, 3) := by decide +kernel
theorem dX12_isFunctionLabel_27 : decode cX12_isFunctionLabel 27 = .ok (.iconst 1, 1) := by decide +kernel
theorem dX12_isFunctionLabel_28 : decode cX12_isFunctionLabel 28 = .ok (.isub, 1) := by decide +kernel
theorem dX12_isFunctionLabel_29 : decode cX12_isFunctionLabel 29 = .ok (.imul, 1) := by decide +kernel
theorem dX12_isFunctionLabel_30 : decode cX12_isFunctionLabel 30 = .ok (.iadd, 1) := by decide +kernel
theorem dX12_isFunctionLabel_31 : decode cX12_isFunctionLabel 31 = .ok (.if_icmp .ge 29, 3) := by decide +kernel
theorem dX12_isFunctionLabel_34 : decode cX12_isFunctionLabel 34 = .ok (.iload_n 1, 1) := by decide +kernel
theorem dX12_isFunctionLabel_35 : decode cX12_isFunctionLabel 35 = .ok (.bipush 29, 2) := by decide +kernel
theorem dX12_isFunctionLabel_37 : decode cX12_isFunctionLabel 37 = .ok (.isub, 1) := by decide +kernel
theorem dX12_isFunctionLabel_38 : decode cX12_isFunctionLabel 38 = .ok (.bipush 6, 2) := by decide +kernel
theorem dX12_isFunctionLabel_40 : decode cX12_isFunctionLabel 40 = .ok (.irem, 1) := by decide +kernel
theorem dX12_isFunctionLabel_41 : decode cX12_isFunctionLabel 41 = .ok (.iconst 2, 1) := by decide +kernel
theorem dX12_isFunctionLabel_42 : decode cX12_isFunctionLabel 42 = .ok (.if_icmp .eq 14, 3) := by decide +kernel
theorem dX12_isFunctionLabel_45 : decode cX12_isFunctionLabel 45 = .ok (.iload_n 1, 1) := by decide +kernel
theorem dX12_isFunctionLabel_46 : decode cX12_isFunctionLabel 46 = .ok (.bipush 29, 2) := by decide +kernel
theorem dX12_isFunctionLabel_48 : decode cX12_isFunctionLabel 48 = .ok (.isub, 1) := by decide +kernel
theorem dX12_isFunctionLabel_49 : decode cX12_isFunctionLabel 49 = .ok (.bipush 6, 2) := by decide +kernel
theorem dX12_isFunctionLabel_51 : decode cX12_isFunctionLabel 51 = .ok (.irem, 1) := by decide +kernel
theorem dX12_isFunctionLabel_52 : decode cX12_isFunctionLabel 52 = .ok (.iconst 3, 1) := by decide +kernel
theorem dX12_isFunctionLabel_53 : decode cX12_isFunctionLabel 53 = .ok (.if_icmp .ne 7, 3) := by decide +kernel
theorem dX12_isFunctionLabel_56 : decode cX12_isFunctionLabel 56 = .ok (.iconst 1, 1) := by decide +kernel
theorem dX12_isFunctionLabel_57 : decode cX12_isFunctionLabel 57 = .ok (.goto 4, 3) := by decide +kernel
theorem dX12_isFunctionLabel_60 : decode cX12_isFunctionLabel 60 = .ok (.iconst 0, 1) := by decide +kernel
theorem dX12_isFunctionLabel_61 : decode cX12_isFunctionLabel 61 = .ok (.ireturn, 1) := by decide +kernel
theorem dX12_codeOfLabel_0 : decode cX12_codeOfLabel 0 = .ok (.iload_n 1, 1) := by decide +kernel
theorem dX12_codeOfLabel_1 : decode cX12_codeOfLabel 1 = .ok (.bipush 29, 2) := by decide +kernel
theorem dX12_codeOfLabel_3 : decode cX12_codeOfLabel 3 = .ok (.if_icmp .lt 23, 3) := by decide +kernel
theorem dX12_codeOfLabel_6 : decode cX12_codeOfLabel 6 = .ok (.aload_n 0, 1) := by decide +kernel
theorem dX12_codeOfLabel_7 : decode cX12_codeOfLabel 7 = .ok (.iload_n 1, 1) := by decide +kernel
theorem dX12_codeOfLabel_8 : decode cX12_codeOfLabel 8 = .ok (.invokevirtual 1115, 3) := by decide +kernel
theorem dX12_codeOfLabel_11 : decode cX12_codeOfLabel 11 = .ok (.ifCond .eq 15, 3) := by decide +kernel
theorem dX12_codeOfLabel_14 : decode cX12_codeOfLabel 14 = .ok (.iconst 1, 1) := by decide +kernel
theorem dX12_codeOfLabel_15 : decode cX12_codeOfLabel 15 = .ok (.iload_n 1, 1) := by decide +kernel
theorem dX12_codeOfLabel_16 : decode cX12_codeOfLabel 16 = .ok (.bipush 29, 2) := by decide +kernel
theorem dX12_codeOfLabel_18 : decode cX12_codeOfLabel 18 = .ok (.isub, 1) := by decide +kernel
theorem dX12_codeOfLabel_19 : decode cX12_codeOfLabel 19 = .ok (.bipush 6, 2) := by decide +kernel
theorem dX12_codeOfLabel_21 : decode cX12_codeOfLabel 21 = .ok (.idiv, 1) := by decide +kernel
theorem dX12_codeOfLabel_22 : decode cX12_codeOfLabel 22 = .ok (.iadd, 1) := by decide +kernel
theorem dX12_codeOfLabel_23 : decode cX12_codeOfLabel 23 = .ok (.goto 4, 3) := by decide +kernel
theorem dX12_codeOfLabel_26 : decode cX12_codeOfLabel 26 = .ok (.iconst 0, 1) := by decide +kernel
theorem dX12_codeOfLabel_27 : decode cX12_codeOfLabel 27 = .ok (.ireturn, 1) := by decide +kernel
theorem dX12_isArrayLabel_0 : decode cX12_isArrayLabel 0 = .ok (.iload_n 1, 1) := by decide +kernel
theorem dX12_isArrayLabel_1 : decode cX12_isArrayLabel 1 = .ok (.bipush 29, 2) := by decide +kernel
theorem dX12_isArrayLabel_3 : decode cX12_isArrayLabel 3 = .ok (.isub, 1) := by decide +kernel
theorem dX12_isArrayLabel_4 : decode cX12_isArrayLabel 4 = .ok (.bipush 6, 2) := by decide +kernel
theorem dX12_isArrayLabel_6 : decode cX12_isArrayLabel 6 = .ok (.aload_n 0, 1) := by decide +kernel
theorem dX12_isArrayLabel_7 : decode cX12_isArrayLabel 7 = .ok (.getfield 527, 3) := by decide +kernel
theorem dX12_isArrayLabel_10 : decode cX12_isArrayLabel 10 = .ok (.iconst 1, 1) := by decide +kernel
theorem dX12_isArrayLabel_11 : decode cX12_isArrayLabel 11 = .ok (.isub, 1) := by decide +kernel
theorem dX12_isArrayLabel_12 : decode cX12_isArrayLabel 12 = .ok (.imul, 1) := by decide +kernel
theorem dX12_isArrayLabel_13 : decode cX12_isArrayLabel 13 = .ok (.isub, 1) := by decide +kernel
theorem dX12_isArrayLabel_14 : decode cX12_isArrayLabel 14 = .ok (.iconst 2, 1) := by decide +kernel
theorem dX12_isArrayLabel_15 : decode cX12_isArrayLabel 15 = .ok (.idiv, 1) := by decide +kernel
theorem dX12_isArrayLabel_16 : decode cX12_isArrayLabel 16 = .ok (.istore_n 2, 1) := by decide +kernel
theorem dX12_isArrayLabel_17 : decode cX12_isArrayLabel 17 = .ok (.iload_n 1, 1) := by decide +kernel
theorem dX12_isArrayLabel_18 : decode cX12_isArrayLabel 18 = .ok (.bipush 24, 2) := by decide +kernel
theorem dX12_isArrayLabel_20 : decode cX12_isArrayLabel 20 = .ok (.if_icmp .eq 28, 3) := by decide +kernel
theorem dX12_isArrayLabel_23 : decode cX12_isArrayLabel 23 = .ok (.iload_n 1, 1) := by decide +kernel
theorem dX12_isArrayLabel_24 : decode cX12_isArrayLabel 24 = .ok (.bipush 29, 2) := by decide +kernel
theorem dX12_isArrayLabel_26 : decode cX12_isArrayLabel 26 = .ok (.bipush 6, 2) := by decide +kernel
theorem dX12_isArrayLabel_28 : decode cX12_isArrayLabel 28 = .ok (.aload_n 0, 1) := by decide +kernel
theorem dX12_isArrayLabel_29 : decode cX12_isArrayLabel 29 = .ok (.getfield 527, 3) := by decide +kernel
theorem dX12_isArrayLabel_32 : decode cX12_isArrayLabel 32 = .ok (.iconst 1, 1) := by decide +kernel
theorem dX12_isArrayLabel_33 : decode cX12_isArrayLabel 33 = .ok (.isub, 1) := by decide +kernel
theorem dX12_isArrayLabel_34 : decode cX12_isArrayLabel 34 = .ok (.imul, 1) := by decide +kernel
theorem dX12_isArrayLabel_35 : decode cX12_isArrayLabel 35 = .ok (.iadd, 1) := by decide +kernel
theorem dX12_isArrayLabel_36 : decode cX12_isArrayLabel 36 = .ok (.if_icmp .lt 16, 3) := by decide +kernel
theorem dX12_isArrayLabel_39 : decode cX12_isArrayLabel 39 = .ok (.aload_n 0, 1) := by decide +kernel
theorem dX12_isArrayLabel_40 : decode cX12_isArrayLabel 40 = .ok (.getfield 283, 3) := by decide +kernel
theorem dX12_isArrayLabel_43 : decode cX12_isArrayLabel 43 = .ok (.iload_n 2, 1) := by decide +kernel
theorem dX12_isArrayLabel_44 : decode cX12_isArrayLabel 44 = .ok (.baload, 1) := by decide +kernel
theorem dX12_isArrayLabel_45 : decode cX12_isArrayLabel 45 = .ok (.ifCond .eq 7, 3) := by decide +kernel
theorem dX12_isArrayLabel_48 : decode cX12_isArrayLabel 48 = .ok (.iconst 1, 1) := by decide +kernel
theorem dX12_isArrayLabel_49 : decode cX12_isArrayLabel 49 = .ok (.goto 4, 3) := by decide +kernel
theorem dX12_isArrayLabel_52 : decode cX12_isArrayLabel 52 = .ok (.iconst 0, 1) := by decide +kernel
theorem dX12_isArrayLabel_53 : decode cX12_isArrayLabel 53 = .ok (.ireturn, 1) := by decide +kernel
theorem dX12_isSingle_0 : decode cX12_isSingle 0 = .ok (.iload_n 0, 1) := by decide +kernel
theorem dX12_isSingle_1 : decode cX12_isSingle 1 = .ok (.bipush 23, 2) := by decide +kernel
theorem dX12_isSingle_3 : decode cX12_isSingle 3 = .ok (.if_icmp .lt 18, 3) := by decide +kernel
theorem dX12_isSingle_6 : decode cX12_isSingle 6 = .ok (.iload_n 0, 1) := by decide +kernel
theorem dX12_isSingle_7 : decode cX12_isSingle 7 = .ok (.bipush 29, 2) := by decide +kernel
theorem dX12_isSingle_9 : decode cX12_isSingle 9 = .ok (.if_icmp .lt 16, 3) := by decide +kernel
theorem dX12_isSingle_12 : decode cX12_isSingle 12 = .ok (.iload_n 0, 1) := by decide +kernel
theorem dX12_isSingle_13 : decode cX12_isSingle 13 = .ok (.bipush 29, 2) := by decide +kernel
theorem dX12_isSingle_15 : decode cX12_isSingle 15 = .ok (.isub, 1) := by decide +kernel
theorem dX12_isSingle_16 : decode cX12_isSingle 16 = .ok (.iconst 2, 1) := by decide +kernel
theorem dX12_isSingle_17 : decode cX12_isSingle 17 = .ok (.irem, 1) := by decide +kernel
theorem dX12_isSingle_18 : decode cX12_isSingle 18 = .ok (.ifCond .ne 7, 3) := by decide +kernel
theorem dX12_isSingle_21 : decode cX12_isSingle 21 = .ok (.iconst 1, 1) := by decide +kernel
theorem dX12_isSingle_22 : decode cX12_isSingle 22 = .ok (.goto 4, 3) := by decide +kernel
theorem dX12_isSingle_25 : decode cX12_isSingle 25 = .ok (.iconst 0, 1) := by decide +kernel
theorem dX12_isSingle_26 : decode cX12_isSingle 26 = .ok (.ireturn, 1) := by decide +kernel
theorem dX12_addKey_0 : decode cX12_addKey 0 = .ok (.iload_n 1, 1) := by decide +kernel
theorem dX12_addKey_1 : decode cX12_addKey 1 = .ok (.bipush 64, 2) := by decide +kernel
theorem dX12_addKey_3 : decode cX12_addKey 3 = .ok (.if_icmp .ge 18, 3) := by decide +kernel
theorem dX12_addKey_6 : decode cX12_addKey 6 = .ok (.aload_n 0, 1) := by decide +kernel
theorem dX12_addKey_7 : decode cX12_addKey 7 = .ok (.aload_n 0, 1) := by decide +kernel
theorem dX12_addKey_8 : decode cX12_addKey 8 = .ok (.getfield 1118, 3) := by decide +kernel
theorem dX12_addKey_11 : decode cX12_addKey 11 = .ok (.lconst 1, 1) := by decide +kernel
theorem dX12_addKey_12 : decode cX12_addKey 12 = .ok (.iload_n 1, 1) := by decide +kernel
theorem dX12_addKey_13 : decode cX12_addKey 13 = .ok (.lshl, 1) := by decide +kernel
theorem dX12_addKey_14 : decode cX12_addKey 14 = .ok (.lor, 1) := by decide +kernel
theorem dX12_addKey_15 : decode cX12_addKey 15 = .ok (.putfield 1118, 3) := by decide +kernel
theorem dX12_addKey_18 : decode cX12_addKey 18 = .ok (.goto 18, 3) := by decide +kernel
theorem dX12_addKey_21 : decode cX12_addKey 21 = .ok (.aload_n 0, 1) := by decide +kernel
theorem dX12_addKey_22 : decode cX12_addKey 22 = .ok (.aload_n 0, 1) := by decide +kernel
theorem dX12_addKey_23 : decode cX12_addKey 23 = .ok (.getfield 1122, 3) := by decide +kernel
theorem dX12_addKey_26 : decode cX12_addKey 26 = .ok (.lconst 1, 1) := by decide +kernel
theorem dX12_addKey_27 : decode cX12_addKey 27 = .ok (.iload_n 1, 1) := by decide +kernel
theorem dX12_addKey_28 : decode cX12_addKey 28 = .ok (.bipush 64, 2) := by decide +kernel
theorem dX12_addKey_30 : decode cX12_addKey 30 = .ok (.isub, 1) := by decide +kernel
theorem dX12_addKey_31 : decode cX12_addKey 31 = .ok (.lshl, 1) := by decide +kernel
theorem dX12_addKey_32 : decode cX12_addKey 32 = .ok (.lor, 1) := by decide +kernel
theorem dX12_addKey_33 : decode cX12_addKey 33 = .ok (.putfield 1122, 3) := by decide +kernel
theorem dX12_addKey_36 : decode cX12_addKey 36 = .ok (.return_, 1) := by decide +kernel
theorem dX12_hasKey_0 : decode cX12_hasKey 0 = .ok (.aload_n 0, 1) := by decide +kernel
theorem dX12_hasKey_1 : decode cX12_hasKey 1 = .ok (.getfield 1118, 3) := by decide +kernel
theorem dX12_hasKey_4 : decode cX12_hasKey 4 = .ok (.aload_n 0, 1) := by decide +kernel
theorem dX12_hasKey_5 : decode cX12_hasKey 5 = .ok (.getfield 1122, 3) := by decide +kernel
theorem dX12_hasKey_8 : decode cX12_hasKey 8 = .ok (.iload_n 1, 1) := by decide +kernel
theorem dX12_hasKey_9 : decode cX12_hasKey 9 = .ok (.invokestatic 1125, 3) := by decide +kernel
theorem dX12_hasKey_12 : decode cX12_hasKey 12 = .ok (.ireturn, 1) := by decide +kernel
theorem dX12_manyKeys_0 : decode cX12_manyKeys 0 = .ok (.aload_n 0, 1) := by decide +kernel
theorem dX12_manyKeys_1 : decode cX12_manyKeys 1 = .ok (.getfield 1118, 3) := by decide +kernel
theorem dX12_manyKeys_4 : decode cX12_manyKeys 4 = .ok (.invokestatic 1129, 3) := by decide +kernel
theorem dX12_manyKeys_7 : decode cX12_manyKeys 7 = .ok (.aload_n 0, 1) := by decide +kernel
theorem dX12_manyKeys_8 : decode cX12_manyKeys 8 = .ok (.getfield 1122, 3) := by decide +kernel
theorem dX12_manyKeys_11 : decode cX12_manyKeys 11 = .ok (.invokestatic 1129, 3) := by decide +kernel
theorem dX12_manyKeys_14 : decode cX12_manyKeys 14 = .ok (.iadd, 1) := by decide +kernel
theorem dX12_manyKeys_15 : decode cX12_manyKeys 15 = .ok (.ireturn, 1) := by decide +kernel
theorem dX12_noKeys_0 : decode cX12_noKeys 0 = .ok (.aload_n 0, 1) := by decide +kernel
theorem dX12_noKeys_1 : decode cX12_noKeys 1 = .ok (.lconst 0, 1) := by decide +kernel
theorem dX12_noKeys_2 : decode cX12_noKeys 2 = .ok (.putfield 1118, 3) := by decide +kernel
theorem dX12_noKeys_5 : decode cX12_noKeys 5 = .ok (.aload_n 0, 1) := by decide +kernel
theorem dX12_noKeys_6 : decode cX12_noKeys 6 = .ok (.lconst 0, 1) := by decide +kernel
theorem dX12_noKeys_7 : decode cX12_noKeys 7 = .ok (.putfield 1122, 3) := by decide +kernel
theorem dX12_noKeys_10 : decode cX12_noKeys 10 = .ok (.return_, 1) := by decide +kernel
theorem dX12_findName_0 : decode cX12_findName 0 = .ok (.aload_n 0, 1) := by decide +kernel
theorem dX12_findName_1 : decode cX12_findName 1 = .ok (.invokevirtual 302, 3) := by decide +kernel
theorem dX12_findName_4 : decode cX12_findName 4 = .ok (.istore_n 1, 1) := by decide +kernel
theorem dX12_findName_5 : decode cX12_findName 5 = .ok (.iload_n 1, 1) := by decide +kernel
theorem dX12_findName_6 : decode cX12_findName 6 = .ok (.aload_n 0, 1) := by decide +kernel
theorem dX12_findName_7 : decode cX12_findName 7 = .ok (.getfield 762, 3) := by decide +kernel
theorem dX12_findName_10 : decode cX12_findName 10 = .ok (.if_icmp .ge 7, 3) := by decide +kernel
theorem dX12_findName_13 : decode cX12_findName 13 = .ok (.iload_n 1, 1) := by decide +kernel
theorem dX12_findName_14 : decode cX12_findName 14 = .ok (.goto 4, 3) := by decide +kernel
theorem dX12_findName_17 : decode cX12_findName 17 = .ok (.iconst (-1), 1) := by decide +kernel
theorem dX12_findName_18 : decode cX12_findName 18 = .ok (.ireturn, 1) := by decide +kernel
theorem dX12_nameOfNumber_0 : decode cX12_nameOfNumber 0 = .ok (.aload_n 0, 1) := by decide +kernel
theorem dX12_nameOfNumber_1 : decode cX12_nameOfNumber 1 = .ok (.iconst 0, 1) := by decide +kernel
theorem dX12_nameOfNumber_2 : decode cX12_nameOfNumber 2 = .ok (.putfield 299, 3) := by decide +kernel
theorem dX12_nameOfNumber_5 : decode cX12_nameOfNumber 5 = .ok (.aload_n 0, 1) := by decide +kernel
theorem dX12_nameOfNumber_6 : decode cX12_nameOfNumber 6 = .ok (.iload_n 1, 1) := by decide +kernel
theorem dX12_nameOfNumber_7 : decode cX12_nameOfNumber 7 = .ok (.invokevirtual 410, 3) := by decide +kernel
theorem dX12_nameOfNumber_10 : decode cX12_nameOfNumber 10 = .ok (.aload_n 0, 1) := by decide +kernel
theorem dX12_nameOfNumber_11 : decode cX12_nameOfNumber 11 = .ok (.invokevirtual 1144, 3) := by decide +kernel
theorem dX12_nameOfNumber_14 : decode cX12_nameOfNumber 14 = .ok (.ireturn, 1) := by decide +kernel
theorem dX12_keysOf_0 : decode cX12_keysOf 0 = .ok (.aload_n 0, 1) := by decide +kernel
theorem dX12_keysOf_1 : decode cX12_keysOf 1 = .ok (.invokevirtual 1135, 3) := by decide +kernel
theorem dX12_keysOf_4 : decode cX12_keysOf 4 = .ok (.aload_n 0, 1) := by decide +kernel
theorem dX12_keysOf_5 : decode cX12_keysOf 5 = .ok (.iload_n 1, 1) := by decide +kernel
theorem dX12_keysOf_6 : decode cX12_keysOf 6 = .ok (.invokevirtual 1047, 3) := by decide +kernel
theorem dX12_keysOf_9 : decode cX12_keysOf 9 = .ok (.istore_n 2, 1) := by decide +kernel
theorem dX12_keysOf_10 : decode cX12_keysOf 10 = .ok (.iload_n 2, 1) := by decide +kernel
theorem dX12_keysOf_11 : decode cX12_keysOf 11 = .ok (.iconst 1, 1) := by decide +kernel
theorem dX12_keysOf_12 : decode cX12_keysOf 12 = .ok (.iand, 1) := by decide +kernel
theorem dX12_keysOf_13 : decode cX12_keysOf 13 = .ok (.ifCond .eq 9, 3) := by decide +kernel
theorem dX12_keysOf_16 : decode cX12_keysOf 16 = .ok (.aload_n 0, 1) := by decide +kernel
theorem dX12_keysOf_17 : decode cX12_keysOf 17 = .ok (.bipush 19, 2) := by decide +kernel
theorem dX12_keysOf_19 : decode cX12_keysOf 19 = .ok (.invokevirtual 1138, 3) := by decide +kernel
theorem dX12_keysOf_22 : decode cX12_keysOf 22 = .ok (.iload_n 2, 1) := by decide +kernel
theorem dX12_keysOf_23 : decode cX12_keysOf 23 = .ok (.iconst 2, 1) := by decide +kernel
theorem dX12_keysOf_24 : decode cX12_keysOf 24 = .ok (.iand, 1) := by decide +kernel
theorem dX12_keysOf_25 : decode cX12_keysOf 25 = .ok (.ifCond .eq 9, 3) := by decide +kernel
theorem dX12_keysOf_28 : decode cX12_keysOf 28 = .ok (.aload_n 0, 1) := by decide +kernel
theorem dX12_keysOf_29 : decode cX12_keysOf 29 = .ok (.bipush 25, 2) := by decide +kernel
theorem dX12_keysOf_31 : decode cX12_keysOf 31 = .ok (.invokevirtual 1138, 3) := by decide +kernel
theorem dX12_keysOf_34 : decode cX12_keysOf 34 = .ok (.iload_n 2, 1) := by decide +kernel
theorem dX12_keysOf_35 : decode cX12_keysOf 35 = .ok (.iconst 4, 1) := by decide +kernel
theorem dX12_keysOf_36 : decode cX12_keysOf 36 = .ok (.iand, 1) := by decide +kernel
theorem dX12_keysOf_37 : decode cX12_keysOf 37 = .ok (.ifCond .eq 9, 3) := by decide +kernel
theorem dX12_keysOf_40 : decode cX12_keysOf 40 = .ok (.aload_n 0, 1) := by decide +kernel
theorem dX12_keysOf_41 : decode cX12_keysOf 41 = .ok (.bipush 26, 2) := by decide +kernel
theorem dX12_keysOf_43 : decode cX12_keysOf 43 = .ok (.invokevirtual 1138, 3) := by decide +kernel
theorem dX12_keysOf_46 : decode cX12_keysOf 46 = .ok (.iload_n 2, 1) := by decide +kernel
theorem dX12_keysOf_47 : decode cX12_keysOf 47 = .ok (.bipush 8, 2) := by decide +kernel
theorem dX12_keysOf_49 : decode cX12_keysOf 49 = .ok (.iand, 1) := by decide +kernel
theorem dX12_keysOf_50 : decode cX12_keysOf 50 = .ok (.ifCond .eq 9, 3) := by decide +kernel
theorem dX12_keysOf_53 : decode cX12_keysOf 53 = .ok (.aload_n 0, 1) := by decide +kernel
theorem dX12_keysOf_54 : decode cX12_keysOf 54 = .ok (.bipush 27, 2) := by decide +kernel
theorem dX12_keysOf_56 : decode cX12_keysOf 56 = .ok (.invokevirtual 1138, 3) := by decide +kernel
theorem dX12_keysOf_59 : decode cX12_keysOf 59 = .ok (.iload_n 2, 1) := by decide +kernel
theorem dX12_keysOf_60 : decode cX12_keysOf 60 = .ok (.bipush 16, 2) := by decide +kernel
theorem dX12_keysOf_62 : decode cX12_keysOf 62 = .ok (.iand, 1) := by decide +kernel
theorem dX12_keysOf_63 : decode cX12_keysOf 63 = .ok (.ifCond .eq 9, 3) := by decide +kernel
theorem dX12_keysOf_66 : decode cX12_keysOf 66 = .ok (.aload_n 0, 1) := by decide +kernel
theorem dX12_keysOf_67 : decode cX12_keysOf 67 = .ok (.bipush 28, 2) := by decide +kernel
theorem dX12_keysOf_69 : decode cX12_keysOf 69 = .ok (.invokevirtual 1138, 3) := by decide +kernel
theorem dX12_keysOf_72 : decode cX12_keysOf 72 = .ok (.iload_n 2, 1) := by decide +kernel
theorem dX12_keysOf_73 : decode cX12_keysOf 73 = .ok (.bipush 32, 2) := by decide +kernel
theorem dX12_keysOf_75 : decode cX12_keysOf 75 = .ok (.iand, 1) := by decide +kernel
theorem dX12_keysOf_76 : decode cX12_keysOf 76 = .ok (.ifCond .eq 30, 3) := by decide +kernel
theorem dX12_keysOf_79 : decode cX12_keysOf 79 = .ok (.aload_n 0, 1) := by decide +kernel
theorem dX12_keysOf_80 : decode cX12_keysOf 80 = .ok (.aload_n 0, 1) := by decide +kernel
theorem dX12_keysOf_81 : decode cX12_keysOf 81 = .ok (.iload_n 1, 1) := by decide +kernel
theorem dX12_keysOf_82 : decode cX12_keysOf 82 = .ok (.invokevirtual 1050, 3) := by decide +kernel
theorem dX12_keysOf_85 : decode cX12_keysOf 85 = .ok (.invokevirtual 1141, 3) := by decide +kernel
theorem dX12_keysOf_88 : decode cX12_keysOf 88 = .ok (.istore_n 3, 1) := by decide +kernel
theorem dX12_keysOf_89 : decode cX12_keysOf 89 = .ok (.aload_n 0, 1) := by decide +kernel
theorem dX12_keysOf_90 : decode cX12_keysOf 90 = .ok (.iload_n 3, 1) := by decide +kernel
theorem dX12_keysOf_91 : decode cX12_keysOf 91 = .ok (.iconst (-1), 1) := by decide +kernel
theorem dX12_keysOf_92 : decode cX12_keysOf 92 = .ok (.if_icmp .ne 10, 3) := by decide +kernel
theorem dX12_keysOf_95 : decode cX12_keysOf 95 = .ok (.aload_n 0, 1) := by decide +kernel
theorem dX12_keysOf_96 : decode cX12_keysOf 96 = .ok (.getfield 762, 3) := by decide +kernel
theorem dX12_keysOf_99 : decode cX12_keysOf 99 = .ok (.goto 4, 3) := by decide +kernel
theorem dX12_keysOf_102 : decode cX12_keysOf 102 = .ok (.iload_n 3, 1) := by decide +kernel
theorem dX12_keysOf_103 : decode cX12_keysOf 103 = .ok (.invokevirtual 1138, 3) := by decide +kernel
theorem dX12_keysOf_106 : decode cX12_keysOf 106 = .ok (.iconst 0, 1) := by decide +kernel
theorem dX12_keysOf_107 : decode cX12_keysOf 107 = .ok (.istore_n 3, 1) := by decide +kernel
theorem dX12_keysOf_108 : decode cX12_keysOf 108 = .ok (.iload_n 3, 1) := by decide +kernel
theorem dX12_keysOf_109 : decode cX12_keysOf 109 = .ok (.aload_n 0, 1) := by decide +kernel
theorem dX12_keysOf_110 : decode cX12_keysOf 110 = .ok (.getfield 762, 3) := by decide +kernel
theorem dX12_keysOf_113 : decode cX12_keysOf 113 = .ok (.if_icmp .gt 58, 3) := by decide +kernel
theorem dX12_keysOf_116 : decode cX12_keysOf 116 = .ok (.iload_n 2, 1) := by decide +kernel
theorem dX12_keysOf_117 : decode cX12_keysOf 117 = .ok (.sipush 256, 3) := by decide +kernel
theorem dX12_keysOf_120 : decode cX12_keysOf 120 = .ok (.iand, 1) := by decide +kernel
theorem dX12_keysOf_121 : decode cX12_keysOf 121 = .ok (.ifCond .ne 27, 3) := by decide +kernel
theorem dX12_keysOf_124 : decode cX12_keysOf 124 = .ok (.iload_n 2, 1) := by decide +kernel
theorem dX12_keysOf_125 : decode cX12_keysOf 125 = .ok (.bipush 64, 2) := by decide +kernel
theorem dX12_keysOf_127 : decode cX12_keysOf 127 = .ok (.iand, 1) := by decide +kernel
theorem dX12_keysOf_128 : decode cX12_keysOf 128 = .ok (.ifCond .eq 24, 3) := by decide +kernel
theorem dX12_keysOf_131 : decode cX12_keysOf 131 = .ok (.iload_n 3, 1) := by decide +kernel
theorem dX12_keysOf_132 : decode cX12_keysOf 132 = .ok (.aload_n 0, 1) := by decide +kernel
theorem dX12_keysOf_133 : decode cX12_keysOf 133 = .ok (.getfield 762, 3) := by decide +kernel
theorem dX12_keysOf_136 : decode cX12_keysOf 136 = .ok (.if_icmp .eq 12, 3) := by decide +kernel
theorem dX12_keysOf_139 : decode cX12_keysOf 139 = .ok (.aload_n 0, 1) := by decide +kernel
theorem dX12_keysOf_140 : decode cX12_keysOf 140 = .ok (.getfield 274, 3) := by decide +kernel
theorem dX12_keysOf_143 : decode cX12_keysOf 143 = .ok (.iload_n 3, 1) := by decide +kernel
theorem dX12_keysOf_144 : decode cX12_keysOf 144 = .ok (.baload, 1) := by decide +kernel
theorem dX12_keysOf_145 : decode cX12_keysOf 145 = .ok (.ifCond .eq 7, 3) := by decide +kernel
theorem dX12_keysOf_148 : decode cX12_keysOf 148 = .ok (.iconst 1, 1) := by decide +kernel
theorem dX12_keysOf_149 : decode cX12_keysOf 149 = .ok (.goto 4, 3) := by decide +kernel
theorem dX12_keysOf_152 : decode cX12_keysOf 152 = .ok (.iconst 0, 1) := by decide +kernel
theorem dX12_keysOf_153 : decode cX12_keysOf 153 = .ok (.istore 4, 2) := by decide +kernel
theorem dX12_keysOf_155 : decode cX12_keysOf 155 = .ok (.iload 4, 2) := by decide +kernel
theorem dX12_keysOf_157 : decode cX12_keysOf 157 = .ok (.ifCond .eq 8, 3) := by decide +kernel
theorem dX12_keysOf_160 : decode cX12_keysOf 160 = .ok (.aload_n 0, 1) := by decide +kernel
theorem dX12_keysOf_161 : decode cX12_keysOf 161 = .ok (.iload_n 3, 1) := by decide +kernel
theorem dX12_keysOf_162 : decode cX12_keysOf 162 = .ok (.invokevirtual 1138, 3) := by decide +kernel
theorem dX12_keysOf_165 : decode cX12_keysOf 165 = .ok (.iinc 3 1, 3) := by decide +kernel
theorem dX12_keysOf_168 : decode cX12_keysOf 168 = .ok (.goto (-60), 3) := by decide +kernel
theorem dX12_keysOf_171 : decode cX12_keysOf 171 = .ok (.iload_n 2, 1) := by decide +kernel
theorem dX12_keysOf_172 : decode cX12_keysOf 172 = .ok (.sipush 128, 3) := by decide +kernel
theorem dX12_keysOf_175 : decode cX12_keysOf 175 = .ok (.iand, 1) := by decide +kernel
theorem dX12_keysOf_176 : decode cX12_keysOf 176 = .ok (.ifCond .eq 12, 3) := by decide +kernel
theorem dX12_keysOf_179 : decode cX12_keysOf 179 = .ok (.aload_n 0, 1) := by decide +kernel
theorem dX12_keysOf_180 : decode cX12_keysOf 180 = .ok (.aload_n 0, 1) := by decide +kernel
theorem dX12_keysOf_181 : decode cX12_keysOf 181 = .ok (.iload_n 1, 1) := by decide +kernel
theorem dX12_keysOf_182 : decode cX12_keysOf 182 = .ok (.invokevirtual 1053, 3) := by decide +kernel
theorem dX12_keysOf_185 : decode cX12_keysOf 185 = .ok (.invokevirtual 1138, 3) := by decide +kernel
theorem dX12_keysOf_188 : decode cX12_keysOf 188 = .ok (.aload_n 0, 1) := by decide +kernel
theorem dX12_keysOf_189 : decode cX12_keysOf 189 = .ok (.iload_n 1, 1) := by decide +kernel
theorem dX12_keysOf_190 : decode cX12_keysOf 190 = .ok (.invokevirtual 1062, 3) := by decide +kernel
theorem dX12_keysOf_193 : decode cX12_keysOf 193 = .ok (.ifCond .eq 9, 3) := by decide +kernel
theorem dX12_keysOf_196 : decode cX12_keysOf 196 = .ok (.aload_n 0, 1) := by decide +kernel
theorem dX12_keysOf_197 : decode cX12_keysOf 197 = .ok (.bipush 29, 2) := by decide +kernel
theorem dX12_keysOf_199 : decode cX12_keysOf 199 = .ok (.invokevirtual 1138, 3) := by decide +kernel
theorem dX12_keysOf_202 : decode cX12_keysOf 202 = .ok (.return_, 1) := by decide +kernel
theorem dX12_addTextOf_0 : decode cX12_addTextOf 0 = .ok (.aload_n 0, 1) := by decide +kernel
theorem dX12_addTextOf_1 : decode cX12_addTextOf 1 = .ok (.iload_n 1, 1) := by decide +kernel
theorem dX12_addTextOf_2 : decode cX12_addTextOf 2 = .ok (.invokevirtual 1147, 3) := by decide +kernel
theorem dX12_addTextOf_5 : decode cX12_addTextOf 5 = .ok (.iconst (-1), 1) := by decide +kernel
theorem dX12_addTextOf_6 : decode cX12_addTextOf 6 = .ok (.istore_n 3, 1) := by decide +kernel
theorem dX12_addTextOf_7 : decode cX12_addTextOf 7 = .ok (.iconst 0, 1) := by decide +kernel
theorem dX12_addTextOf_8 : decode cX12_addTextOf 8 = .ok (.istore 4, 2) := by decide +kernel
theorem dX12_addTextOf_10 : decode cX12_addTextOf 10 = .ok (.iload 4, 2) := by decide +kernel
theorem dX12_addTextOf_12 : decode cX12_addTextOf 12 = .ok (.aload_n 0, 1) := by decide +kernel
theorem dX12_addTextOf_13 : decode cX12_addTextOf 13 = .ok (.getfield 762, 3) := by decide +kernel
theorem dX12_addTextOf_16 : decode cX12_addTextOf 16 = .ok (.if_icmp .ge 33, 3) := by decide +kernel
theorem dX12_addTextOf_19 : decode cX12_addTextOf 19 = .ok (.aload_n 0, 1) := by decide +kernel
theorem dX12_addTextOf_20 : decode cX12_addTextOf 20 = .ok (.invokevirtual 1150, 3) := by decide +kernel
theorem dX12_addTextOf_23 : decode cX12_addTextOf 23 = .ok (.iconst 1, 1) := by decide +kernel
theorem dX12_addTextOf_24 : decode cX12_addTextOf 24 = .ok (.if_icmp .ne 25, 3) := by decide +kernel
theorem dX12_addTextOf_27 : decode cX12_addTextOf 27 = .ok (.aload_n 0, 1) := by decide +kernel
theorem dX12_addTextOf_28 : decode cX12_addTextOf 28 = .ok (.iload 4, 2) := by decide +kernel
theorem dX12_addTextOf_30 : decode cX12_addTextOf 30 = .ok (.invokevirtual 1153, 3) := by decide +kernel
theorem dX12_addTextOf_33 : decode cX12_addTextOf 33 = .ok (.ifCond .eq 8, 3) := by decide +kernel
theorem dX12_addTextOf_36 : decode cX12_addTextOf 36 = .ok (.iload 4, 2) := by decide +kernel
theorem dX12_addTextOf_38 : decode cX12_addTextOf 38 = .ok (.goto 4, 3) := by decide +kernel
theorem dX12_addTextOf_41 : decode cX12_addTextOf 41 = .ok (.iload_n 3, 1) := by decide +kernel
theorem dX12_addTextOf_42 : decode cX12_addTextOf 42 = .ok (.istore_n 3, 1) := by decide +kernel
theorem dX12_addTextOf_43 : decode cX12_addTextOf 43 = .ok (.iinc 4 1, 3) := by decide +kernel
theorem dX12_addTextOf_46 : decode cX12_addTextOf 46 = .ok (.goto (-36), 3) := by decide +kernel
theorem dX12_addTextOf_49 : decode cX12_addTextOf 49 = .ok (.aload_n 0, 1) := by decide +kernel
theorem dX12_addTextOf_50 : decode cX12_addTextOf 50 = .ok (.iload_n 2, 1) := by decide +kernel
theorem dX12_addTextOf_51 : decode cX12_addTextOf 51 = .ok (.iload_n 3, 1) := by decide +kernel
theorem dX12_addTextOf_52 : decode cX12_addTextOf 52 = .ok (.invokevirtual 1078, 3) := by decide +kernel
theorem dX12_addTextOf_55 : decode cX12_addTextOf 55 = .ok (.return_, 1) := by decide +kernel
theorem dX12_readKey_0 : decode cX12_readKey 0 = .ok (.lload_n 1, 1) := by decide +kernel
theorem dX12_readKey_1 : decode cX12_readKey 1 = .ok (.lstore 7, 2) := by decide +kernel
theorem dX12_readKey_3 : decode cX12_readKey 3 = .ok (.lload_n 3, 1) := by decide +kernel
theorem dX12_readKey_4 : decode cX12_readKey 4 = .ok (.lstore 9, 2) := by decide +kernel
theorem dX12_readKey_6 : decode cX12_readKey 6 = .ok (.lconst 0, 1) := by decide +kernel
theorem dX12_readKey_7 : decode cX12_readKey 7 = .ok (.lstore 11, 2) := by decide +kernel
theorem dX12_readKey_9 : decode cX12_readKey 9 = .ok (.lconst 0, 1) := by decide +kernel
theorem dX12_readKey_10 : decode cX12_readKey 10 = .ok (.lstore 13, 2) := by decide +kernel
theorem dX12_readKey_12 : decode cX12_readKey 12 = .ok (.lload 7, 2) := by decide +kernel
theorem dX12_readKey_14 : decode cX12_readKey 14 = .ok (.lload 11, 2) := by decide +kernel
theorem dX12_readKey_16 : decode cX12_readKey 16 = .ok (.ldc2_w 1110, 3) := by decide +kernel
theorem dX12_readKey_19 : decode cX12_readKey 19 = .ok (.lxor, 1) := by decide +kernel
theorem dX12_readKey_20 : decode cX12_readKey 20 = .ok (.land, 1) := by decide +kernel
theorem dX12_readKey_21 : decode cX12_readKey 21 = .ok (.lconst 0, 1) := by decide +kernel
theorem dX12_readKey_22 : decode cX12_readKey 22 = .ok (.lcmp, 1) := by decide +kernel
theorem dX12_readKey_23 : decode cX12_readKey 23 = .ok (.ifCond .ne 17, 3) := by decide +kernel
theorem dX12_readKey_26 : decode cX12_readKey 26 = .ok (.lload 9, 2) := by decide +kernel
theorem dX12_readKey_28 : decode cX12_readKey 28 = .ok (.lload 13, 2) := by decide +kernel
theorem dX12_readKey_30 : decode cX12_readKey 30 = .ok (.ldc2_w 1110, 3) := by decide +kernel
theorem dX12_readKey_33 : decode cX12_readKey 33 = .ok (.lxor, 1) := by decide +kernel
theorem dX12_readKey_34 : decode cX12_readKey 34 = .ok (.land, 1) := by decide +kernel
theorem dX12_readKey_35 : decode cX12_readKey 35 = .ok (.lconst 0, 1) := by decide +kernel
theorem dX12_readKey_36 : decode cX12_readKey 36 = .ok (.lcmp, 1) := by decide +kernel
theorem dX12_readKey_37 : decode cX12_readKey 37 = .ok (.ifCond .eq 172, 3) := by decide +kernel
theorem dX12_readKey_40 : decode cX12_readKey 40 = .ok (.iconst 0, 1) := by decide +kernel
theorem dX12_readKey_41 : decode cX12_readKey 41 = .ok (.istore 15, 2) := by decide +kernel
theorem dX12_readKey_43 : decode cX12_readKey 43 = .ok (.lload 7, 2) := by decide +kernel
theorem dX12_readKey_45 : decode cX12_readKey 45 = .ok (.lload 11, 2) := by decide +kernel
theorem dX12_readKey_47 : decode cX12_readKey 47 = .ok (.ldc2_w 1110, 3) := by decide +kernel
theorem dX12_readKey_50 : decode cX12_readKey 50 = .ok (.lxor, 1) := by decide +kernel
theorem dX12_readKey_51 : decode cX12_readKey 51 = .ok (.land, 1) := by decide +kernel
theorem dX12_readKey_52 : decode cX12_readKey 52 = .ok (.lload 9, 2) := by decide +kernel
theorem dX12_readKey_54 : decode cX12_readKey 54 = .ok (.lload 13, 2) := by decide +kernel
theorem dX12_readKey_56 : decode cX12_readKey 56 = .ok (.ldc2_w 1110, 3) := by decide +kernel
theorem dX12_readKey_59 : decode cX12_readKey 59 = .ok (.lxor, 1) := by decide +kernel
theorem dX12_readKey_60 : decode cX12_readKey 60 = .ok (.land, 1) := by decide +kernel
theorem dX12_readKey_61 : decode cX12_readKey 61 = .ok (.iload 15, 2) := by decide +kernel
theorem dX12_readKey_63 : decode cX12_readKey 63 = .ok (.invokestatic 1125, 3) := by decide +kernel
theorem dX12_readKey_66 : decode cX12_readKey 66 = .ok (.ifCond .ne 9, 3) := by decide +kernel
theorem dX12_readKey_69 : decode cX12_readKey 69 = .ok (.iinc 15 1, 3) := by decide +kernel
theorem dX12_readKey_72 : decode cX12_readKey 72 = .ok (.goto (-29), 3) := by decide +kernel
theorem dX12_readKey_75 : decode cX12_readKey 75 = .ok (.iload 15, 2) := by decide +kernel
theorem dX12_readKey_77 : decode cX12_readKey 77 = .ok (.bipush 64, 2) := by decide +kernel
theorem dX12_readKey_79 : decode cX12_readKey 79 = .ok (.if_icmp .ge 15, 3) := by decide +kernel
theorem dX12_readKey_82 : decode cX12_readKey 82 = .ok (.lload 11, 2) := by decide +kernel
theorem dX12_readKey_84 : decode cX12_readKey 84 = .ok (.lconst 1, 1) := by decide +kernel
theorem dX12_readKey_85 : decode cX12_readKey 85 = .ok (.iload 15, 2) := by decide +kernel
theorem dX12_readKey_87 : decode cX12_readKey 87 = .ok (.lshl, 1) := by decide +kernel
theorem dX12_readKey_88 : decode cX12_readKey 88 = .ok (.lor, 1) := by decide +kernel
theorem dX12_readKey_89 : decode cX12_readKey 89 = .ok (.lstore 11, 2) := by decide +kernel
theorem dX12_readKey_91 : decode cX12_readKey 91 = .ok (.goto 15, 3) := by decide +kernel
theorem dX12_readKey_94 : decode cX12_readKey 94 = .ok (.lload 13, 2) := by decide +kernel
theorem dX12_readKey_96 : decode cX12_readKey 96 = .ok (.lconst 1, 1) := by decide +kernel
theorem dX12_readKey_97 : decode cX12_readKey 97 = .ok (.iload 15, 2) := by decide +kernel
theorem dX12_readKey_99 : decode cX12_readKey 99 = .ok (.bipush 64, 2) := by decide +kernel
theorem dX12_readKey_101 : decode cX12_readKey 101 = .ok (.isub, 1) := by decide +kernel
theorem dX12_readKey_102 : decode cX12_readKey 102 = .ok (.lshl, 1) := by decide +kernel
theorem dX12_readKey_103 : decode cX12_readKey 103 = .ok (.lor, 1) := by decide +kernel
theorem dX12_readKey_104 : decode cX12_readKey 104 = .ok (.lstore 13, 2) := by decide +kernel
theorem dX12_readKey_106 : decode cX12_readKey 106 = .ok (.aload_n 0, 1) := by decide +kernel
theorem dX12_readKey_107 : decode cX12_readKey 107 = .ok (.sipush 639, 3) := by decide +kernel
theorem dX12_readKey_110 : decode cX12_readKey 110 = .ok (.iload 15, 2) := by decide +kernel
theorem dX12_readKey_112 : decode cX12_readKey 112 = .ok (.iload 5, 2) := by decide +kernel
theorem dX12_readKey_114 : decode cX12_readKey 114 = .ok (.invokevirtual 1163, 3) := by decide +kernel
theorem dX12_readKey_117 : decode cX12_readKey 117 = .ok (.istore 16, 2) := by decide +kernel
theorem dX12_readKey_119 : decode cX12_readKey 119 = .ok (.aload_n 0, 1) := by decide +kernel
theorem dX12_readKey_120 : decode cX12_readKey 120 = .ok (.iload 16, 2) := by decide +kernel
theorem dX12_readKey_122 : decode cX12_readKey 122 = .ok (.iload 6, 2) := by decide +kernel
theorem dX12_readKey_124 : decode cX12_readKey 124 = .ok (.invokevirtual 1069, 3) := by decide +kernel
theorem dX12_readKey_127 : decode cX12_readKey 127 = .ok (.istore 17, 2) := by decide +kernel
theorem dX12_readKey_129 : decode cX12_readKey 129 = .ok (.aload_n 0, 1) := by decide +kernel
theorem dX12_readKey_130 : decode cX12_readKey 130 = .ok (.iload 16, 2) := by decide +kernel
theorem dX12_readKey_132 : decode cX12_readKey 132 = .ok (.invokevirtual 1047, 3) := by decide +kernel
theorem dX12_readKey_135 : decode cX12_readKey 135 = .ok (.sipush 512, 3) := by decide +kernel
theorem dX12_readKey_138 : decode cX12_readKey 138 = .ok (.iand, 1) := by decide +kernel
theorem dX12_readKey_139 : decode cX12_readKey 139 = .ok (.ifCond .ne 6, 3) := by decide +kernel
theorem dX12_readKey_142 : decode cX12_readKey 142 = .ok (.goto (-130), 3) := by decide +kernel
theorem dX12_readKey_145 : decode cX12_readKey 145 = .ok (.aload_n 0, 1) := by decide +kernel
theorem dX12_readKey_146 : decode cX12_readKey 146 = .ok (.sipush 639, 3) := by decide +kernel
theorem dX12_readKey_149 : decode cX12_readKey 149 = .ok (.iload 15, 2) := by decide +kernel
theorem dX12_readKey_151 : decode cX12_readKey 151 = .ok (.invokevirtual 1101, 3) := by decide +kernel
theorem dX12_readKey_154 : decode cX12_readKey 154 = .ok (.istore 18, 2) := by decide +kernel
theorem dX12_readKey_156 : decode cX12_readKey 156 = .ok (.lload 7, 2) := by decide +kernel
theorem dX12_readKey_158 : decode cX12_readKey 158 = .ok (.aload_n 0, 1) := by decide +kernel
theorem dX12_readKey_159 : decode cX12_readKey 159 = .ok (.getfield 262, 3) := by decide +kernel
theorem dX12_readKey_162 : decode cX12_readKey 162 = .ok (.iload 18, 2) := by decide +kernel
theorem dX12_readKey_164 : decode cX12_readKey 164 = .ok (.laload, 1) := by decide +kernel
theorem dX12_readKey_165 : decode cX12_readKey 165 = .ok (.lor, 1) := by decide +kernel
theorem dX12_readKey_166 : decode cX12_readKey 166 = .ok (.lstore 7, 2) := by decide +kernel
theorem dX12_readKey_168 : decode cX12_readKey 168 = .ok (.lload 9, 2) := by decide +kernel
theorem dX12_readKey_170 : decode cX12_readKey 170 = .ok (.aload_n 0, 1) := by decide +kernel
theorem dX12_readKey_171 : decode cX12_readKey 171 = .ok (.getfield 265, 3) := by decide +kernel
theorem dX12_readKey_174 : decode cX12_readKey 174 = .ok (.iload 18, 2) := by decide +kernel
theorem dX12_readKey_176 : decode cX12_readKey 176 = .ok (.laload, 1) := by decide +kernel
theorem dX12_readKey_177 : decode cX12_readKey 177 = .ok (.lor, 1) := by decide +kernel
theorem dX12_readKey_178 : decode cX12_readKey 178 = .ok (.lstore 9, 2) := by decide +kernel
theorem dX12_readKey_180 : decode cX12_readKey 180 = .ok (.aload_n 0, 1) := by decide +kernel
theorem dX12_readKey_181 : decode cX12_readKey 181 = .ok (.aload_n 0, 1) := by decide +kernel
theorem dX12_readKey_182 : decode cX12_readKey 182 = .ok (.getfield 1156, 3) := by decide +kernel
theorem dX12_readKey_185 : decode cX12_readKey 185 = .ok (.ifCond .ne 13, 3) := by decide +kernel
theorem dX12_readKey_188 : decode cX12_readKey 188 = .ok (.aload_n 0, 1) := by decide +kernel
theorem dX12_readKey_189 : decode cX12_readKey 189 = .ok (.getfield 259, 3) := by decide +kernel
theorem dX12_readKey_192 : decode cX12_readKey 192 = .ok (.iload 18, 2) := by decide +kernel
theorem dX12_readKey_194 : decode cX12_readKey 194 = .ok (.baload, 1) := by decide +kernel
theorem dX12_readKey_195 : decode cX12_readKey 195 = .ok (.ifCond .eq 7, 3) := by decide +kernel
theorem dX12_readKey_198 : decode cX12_readKey 198 = .ok (.iconst 1, 1) := by decide +kernel
theorem dX12_readKey_199 : decode cX12_readKey 199 = .ok (.goto 4, 3) := by decide +kernel
theorem dX12_readKey_202 : decode cX12_readKey 202 = .ok (.iconst 0, 1) := by decide +kernel
theorem dX12_readKey_203 : decode cX12_readKey 203 = .ok (.putfield 1156, 3) := by decide +kernel
theorem dX12_readKey_206 : decode cX12_readKey 206 = .ok (.goto (-194), 3) := by decide +kernel
theorem dX12_readKey_209 : decode cX12_readKey 209 = .ok (.aload_n 0, 1) := by decide +kernel
theorem dX12_readKey_210 : decode cX12_readKey 210 = .ok (.iload 6, 2) := by decide +kernel
theorem dX12_readKey_212 : decode cX12_readKey 212 = .ok (.aload_n 0, 1) := by decide +kernel
theorem dX12_readKey_213 : decode cX12_readKey 213 = .ok (.iload 6, 2) := by decide +kernel
theorem dX12_readKey_215 : decode cX12_readKey 215 = .ok (.invokevirtual 1059, 3) := by decide +kernel
theorem dX12_readKey_218 : decode cX12_readKey 218 = .ok (.aload_n 0, 1) := by decide +kernel
theorem dX12_readKey_219 : decode cX12_readKey 219 = .ok (.iload 6, 2) := by decide +kernel
theorem dX12_readKey_221 : decode cX12_readKey 221 = .ok (.invokevirtual 1053, 3) := by decide +kernel
theorem dX12_readKey_224 : decode cX12_readKey 224 = .ok (.aload_n 0, 1) := by decide +kernel
theorem dX12_readKey_225 : decode cX12_readKey 225 = .ok (.iload 6, 2) := by decide +kernel
theorem dX12_readKey_227 : decode cX12_readKey 227 = .ok (.invokevirtual 1050, 3) := by decide +kernel
theorem dX12_readKey_230 : decode cX12_readKey 230 = .ok (.invokevirtual 1056, 3) := by decide +kernel
theorem dX12_readKey_233 : decode cX12_readKey 233 = .ok (.return_, 1) := by decide +kernel
theorem dX12_readFrom_0 : decode cX12_readFrom 0 = .ok (.aload_n 0, 1) := by decide +kernel
theorem dX12_readFrom_1 : decode cX12_readFrom 1 = .ok (.iload 5, 2) := by decide +kernel
theorem dX12_readFrom_3 : decode cX12_readFrom 3 = .ok (.invokevirtual 1066, 3) := by decide +kernel
theorem dX12_readFrom_6 : decode cX12_readFrom 6 = .ok (.aload_n 0, 1) := by decide +kernel
theorem dX12_readFrom_7 : decode cX12_readFrom 7 = .ok (.iconst 0, 1) := by decide +kernel
theorem dX12_readFrom_8 : decode cX12_readFrom 8 = .ok (.putfield 1156, 3) := by decide +kernel
theorem dX12_readFrom_11 : decode cX12_readFrom 11 = .ok (.iconst 0, 1) := by decide +kernel
theorem dX12_readFrom_12 : decode cX12_readFrom 12 = .ok (.istore 6, 2) := by decide +kernel
theorem dX12_readFrom_14 : decode cX12_readFrom 14 = .ok (.iload 6, 2) := by decide +kernel
theorem dX12_readFrom_16 : decode cX12_readFrom 16 = .ok (.aload_n 0, 1) := by decide +kernel
theorem dX12_readFrom_17 : decode cX12_readFrom 17 = .ok (.getfield 762, 3) := by decide +kernel
theorem dX12_readFrom_20 : decode cX12_readFrom 20 = .ok (.if_icmp .gt 28, 3) := by decide +kernel
theorem dX12_readFrom_23 : decode cX12_readFrom 23 = .ok (.aload_n 0, 1) := by decide +kernel
theorem dX12_readFrom_24 : decode cX12_readFrom 24 = .ok (.iload 6, 2) := by decide +kernel
theorem dX12_readFrom_26 : decode cX12_readFrom 26 = .ok (.invokevirtual 1153, 3) := by decide +kernel
theorem dX12_readFrom_29 : decode cX12_readFrom 29 = .ok (.ifCond .eq 13, 3) := by decide +kernel
theorem dX12_readFrom_32 : decode cX12_readFrom 32 = .ok (.aload_n 0, 1) := by decide +kernel
theorem dX12_readFrom_33 : decode cX12_readFrom 33 = .ok (.lload_n 1, 1) := by decide +kernel
theorem dX12_readFrom_34 : decode cX12_readFrom 34 = .ok (.lload_n 3, 1) := by decide +kernel
theorem dX12_readFrom_35 : decode cX12_readFrom 35 = .ok (.iload 6, 2) := by decide +kernel
theorem dX12_readFrom_37 : decode cX12_readFrom 37 = .ok (.iload 5, 2) := by decide +kernel
theorem dX12_readFrom_39 : decode cX12_readFrom 39 = .ok (.invokevirtual 1159, 3) := by decide +kernel
theorem dX12_readFrom_42 : decode cX12_readFrom 42 = .ok (.iinc 6 1, 3) := by decide +kernel
theorem dX12_readFrom_45 : decode cX12_readFrom 45 = .ok (.goto (-31), 3) := by decide +kernel
theorem dX12_readFrom_48 : decode cX12_readFrom 48 = .ok (.return_, 1) := by decide +kernel

def q_fieldsAt (p1 : Int) (S : sv_S) : Option Value → sv_S → Prop := fun v S' => ∃ r : Int, v = some (sv_I r) ∧ sv_R r ∧ sm_ok S' ∧ sv_mod [] S S' ∧ ((p1 = 639 → r = 635640) ∧ (¬ p1 = 639 → 0 ≤ r ∧ r + (S' 1071 0) * ((S' 1008 0) + 1) ≤ 464520))
theorem la_fieldsAt_0 {x0 x1 x2 : Int} (h0 : x0 + 2 * x1 ≤ 500) (h1 : x2 < x0 + 2 * x1) : x2 ≤ 639 := by omega
theorem la_fieldsAt_1 {x0 : Int} (h0 : x0 ≤ 639) (h1 : ¬ x0 = 639) : x0 < 639 := by omega
theorem la_fieldsAt_2 {x0 x1 : Int} (h0 : 0 ≤ x0) (h1 : 0 ≤ x1) (h2 : x1 + x0 ≤ 464520) : sv_R x1 := by omega
theorem la_fieldsAt_3 {x0 x1 x2 x3 x4 : Int} (h0 : x0 + 2 * x1 ≤ 500) (h1 : 0 ≤ x2) (h2 : x3 < x0 + 2 * x1) (h3 : x4 + x2 ≤ 464520) : x3 = 639 → x4 = 635640 := by omega
theorem la_fieldsAt_4 {x0 x1 x2 : Int} (h0 : x0 + 2 * x1 ≤ 500) (h1 : ¬ ¬ x2 = 639) : ¬ x2 < x0 + 2 * x1 := by omega
theorem la_fieldsAt_5 {x0 : Int} : x0 = 639 → (635640 : Int) = 635640 := by omega
theorem la_fieldsAt_6 {x0 : Int} (h0 : ¬ ¬ x0 = 639) : x0 ≤ 639 := by omega
theorem la_fieldsAt_7 : (0 : Int) ≤ 635640 := by omega
theorem la_fieldsAt_8 {x0 : Int} (h0 : ¬ ¬ x0 = 639) (h1 : x0 < 639) : False := by omega
set_option maxHeartbeats 2000000 in
theorem f_fieldsAt : ∀ (p1 : Int) (S : sv_S), sm_ok S → sv_R p1 → (29 ≤ (S 1071 0) ∧ (S 1071 0) ≤ 127 ∧ 31 ≤ (S 1008 0) ∧ (S 1008 0) ≤ 90 ∧ 1 ≤ (S 1032 0) ∧ (S 1032 0) ≤ 11 ∧ 0 ≤ (S 1055 0) ∧ (S 1055 0) ≤ 19 ∧ (S 1071 0) = 29 + 6 * ((S 1032 0) - 1) + 2 * (S 1055 0) ∧ 0 ≤ (S 1046 0) ∧ (S 1046 0) + 2 * (S 1032 0) ≤ 500 ∧ sm_PD (S 1046 0) (S 1032 0) (S 1071 0) (S 1008 0) ∧ 0 ≤ (S 1071 0) * ((S 1008 0) + 1) ∧ (S 1071 0) * ((S 1008 0) + 1) ≤ 11557 ∧ 0 ≤ p1 ∧ (p1 = 639 ∨ p1 < (S 1046 0) + 2 * (S 1032 0))) → (((¬ p1 = (639 : Int)) → ((sm_PD (S 1046 0) (S 1032 0) (S 1071 0) (S 1008 0) → 29 ≤ (S 1071 0) → 31 ≤ (S 1008 0) → 0 ≤ p1 → p1 < (S 1046 0) + 2 * (S 1032 0) → (0 ≤ p1 * (S 1071 0) * ((S 1008 0) + 1) ∧ p1 * (S 1071 0) * ((S 1008 0) + 1) + (S 1071 0) * ((S 1008 0) + 1) ≤ 464520) ∧ (0 ≤ p1 * (S 1071 0) ∧ p1 * (S 1071 0) + (S 1071 0) ≤ 14520)) → (sv_R (S 1071 0) → (sv_R (S 1008 0) → (sv_R ((p1 * (S 1071 0)) * ((S 1008 0) + (1 : Int)))) ∧ ((p1 = 639 → ((p1 * (S 1071 0)) * ((S 1008 0) + (1 : Int))) = 635640) ∧ (¬ p1 = 639 → 0 ≤ ((p1 * (S 1071 0)) * ((S 1008 0) + (1 : Int))) ∧ ((p1 * (S 1071 0)) * ((S 1008 0) + (1 : Int))) + (S 1071 0) * ((S 1008 0) + 1) ≤ 464520)))))) ∧ ((¬ (¬ p1 = (639 : Int))) → ((p1 = 639 → (635640 : Int) = 635640) ∧ (¬ p1 = 639 → 0 ≤ (635640 : Int) ∧ (635640 : Int) + (S 1071 0) * ((S 1008 0) + 1) ≤ 464520)))) := by
  intro p1
  intro S
  intro h1_
  intro h2_
  rintro ⟨h3_, ⟨h4_, ⟨h5_, ⟨h6_, ⟨h7_, ⟨h8_, ⟨h9_, ⟨h10_, ⟨h11_, ⟨h12_, ⟨h13_, ⟨h14_, ⟨h15_, ⟨h16_, ⟨h17_, h18_⟩⟩⟩⟩⟩⟩⟩⟩⟩⟩⟩⟩⟩⟩⟩
  refine ⟨?_, ?_⟩
  · skip
    intro h19_
    have h20_ := (h18_.resolve_left h19_)
    intro h21_
    have h22_ := (h21_ h14_)
    have h23_ := (h22_ h3_)
    have h24_ := (h23_ h5_)
    have h25_ := (h24_ h17_)
    obtain ⟨⟨h26_, h27_⟩, ⟨h28_, h29_⟩⟩ := (h25_ h20_)
    intro h30_
    intro h31_
    refine ⟨(la_fieldsAt_2 h15_ h26_ h27_), ?_⟩
    refine ⟨(la_fieldsAt_3 h13_ h15_ h20_ h27_), ?_⟩
    intro h32_
    refine ⟨h26_, ?_⟩
    exact h27_
  intro h33_
  have h34_ := (h18_.resolve_right (la_fieldsAt_4 h13_ h33_))
  refine ⟨la_fieldsAt_5, ?_⟩
  intro h35_
  refine ⟨la_fieldsAt_7, ?_⟩
  exact ((la_fieldsAt_8 h33_ (la_fieldsAt_1 (la_fieldsAt_6 h33_) h35_))).elim
set_option maxRecDepth 8000 in
set_option maxHeartbeats 2000000 in
theorem t_fieldsAt : ∀ (p1 : Int) (S : sv_S), sm_ok S → sv_R p1 → (29 ≤ (S 1071 0) ∧ (S 1071 0) ≤ 127 ∧ 31 ≤ (S 1008 0) ∧ (S 1008 0) ≤ 90 ∧ 1 ≤ (S 1032 0) ∧ (S 1032 0) ≤ 11 ∧ 0 ≤ (S 1055 0) ∧ (S 1055 0) ≤ 19 ∧ (S 1071 0) = 29 + 6 * ((S 1032 0) - 1) + 2 * (S 1055 0) ∧ 0 ≤ (S 1046 0) ∧ (S 1046 0) + 2 * (S 1032 0) ≤ 500 ∧ sm_PD (S 1046 0) (S 1032 0) (S 1071 0) (S 1008 0) ∧ 0 ≤ (S 1071 0) * ((S 1008 0) + 1) ∧ (S 1071 0) * ((S 1008 0) + 1) ≤ 11557 ∧ 0 ≤ p1 ∧ (p1 = 639 ∨ p1 < (S 1046 0) + 2 * (S 1032 0))) → sv_T sm_XS sm_cs sm_L sm_sh 0 (q_fieldsAt p1 S) 223 0 (lv_args 0 [.ref 0, sv_I p1]) [] S := by
  intro p1 S hok hp1 hpre
  have h := f_fieldsAt p1 S hok hp1 hpre
  have hM := sm_h223
  show sv_T sm_XS sm_cs sm_L sm_sh 0 (q_fieldsAt p1 S) 223 0 [(0, .ref 0), (1, sv_I p1)] [] S
  refine sv_iload_n hM dX12_fieldsAt_0 rfl rfl ?_
  refine sv_sipush (d := (639 : Int)) hM dX12_fieldsAt_1 rfl rfl ?_
  refine sv_icmp_ne hM dX12_fieldsAt_4 hp1 (⟨by decide, by decide⟩ : sv_R (639 : Int)) (t := 13) rfl rfl (fun hc => ?_) (fun hc => ?_)
  · have h := h.1 (hc)
    have k1 : (sm_PD (S 1046 0) (S 1032 0) (S 1071 0) (S 1008 0) → 29 ≤ (S 1071 0) → 31 ≤ (S 1008 0) → 0 ≤ p1 → p1 < (S 1046 0) + 2 * (S 1032 0) → (0 ≤ p1 * (S 1071 0) * ((S 1008 0) + 1) ∧ p1 * (S 1071 0) * ((S 1008 0) + 1) + (S 1071 0) * ((S 1008 0) + 1) ≤ 464520) ∧ (0 ≤ p1 * (S 1071 0) ∧ p1 * (S 1071 0) + (S 1071 0) ≤ 14520)) := sm_PD_at
    have h := h k1
    refine sv_iload_n hM dX12_fieldsAt_13 rfl rfl ?_
    refine sv_aload_n hM dX12_fieldsAt_14 rfl rfl ?_
    have k2 : sv_R (S 1071 0) := sm_okI hok sm_r1071 0
    have h := h k2
    refine sv_getI hM dX12_fieldsAt_15 sm_fl_765 (sm_a0 _) sm_k71 rfl (x := (S 1071 0)) rfl ?_
    refine sv_imul hM dX12_fieldsAt_18 rfl ?_
    refine sv_aload_n hM dX12_fieldsAt_19 rfl rfl ?_
    have k3 : sv_R (S 1008 0) := sm_okI hok sm_r1008 0
    have h := h k3
    refine sv_getI hM dX12_fieldsAt_20 sm_fl_762 (sm_a0 _) sm_k8 rfl (x := (S 1008 0)) rfl ?_
    refine sv_iconst (d := (1 : Int)) hM dX12_fieldsAt_23 rfl rfl ?_
    refine sv_iadd hM dX12_fieldsAt_24 rfl ?_
    refine sv_imul hM dX12_fieldsAt_25 rfl ?_
    obtain ⟨o4, h⟩ := h
    exact sv_iret hM dX12_fieldsAt_26 rfl rfl ⟨((p1 * (S 1071 0)) * ((S 1008 0) + (1 : Int))), rfl, o4, hok, sv_mod.rf, h⟩
  · have h := h.2 (hc)
    refine sv_ldc_w (d := (635640 : Int)) hM dX12_fieldsAt_7 sm_ck_1084 rfl rfl ?_
    refine sv_goto hM dX12_fieldsAt_10 (pc' := 26) rfl ?_
    exact sv_iret hM dX12_fieldsAt_26 rfl rfl ⟨(635640 : Int), rfl, (⟨by decide, by decide⟩ : sv_R (635640 : Int)), hok, sv_mod.rf, h⟩
def q_labelsAt (p1 : Int) (S : sv_S) : Option Value → sv_S → Prop := fun v S' => ∃ r : Int, v = some (sv_I r) ∧ sv_R r ∧ sm_ok S' ∧ sv_mod [] S S' ∧ ((p1 = 639 → r = 15000) ∧ (¬ p1 = 639 → 0 ≤ r ∧ r + (S' 1071 0) ≤ 14520))
theorem la_labelsAt_0 {x0 x1 x2 : Int} (h0 : x0 + 2 * x1 ≤ 500) (h1 : x2 < x0 + 2 * x1) : x2 ≤ 639 := by omega
theorem la_labelsAt_1 {x0 : Int} (h0 : x0 ≤ 639) (h1 : ¬ x0 = 639) : x0 < 639 := by omega
theorem la_labelsAt_2 {x0 x1 : Int} (h0 : 29 ≤ x0) (h1 : 0 ≤ x1) (h2 : x1 + x0 ≤ 14520) : sv_R x1 := by omega
theorem la_labelsAt_3 {x0 x1 x2 x3 x4 : Int} (h0 : 29 ≤ x0) (h1 : x1 + 2 * x2 ≤ 500) (h2 : x3 < x1 + 2 * x2) (h3 : x4 + x0 ≤ 14520) : x3 = 639 → x4 = 15000 := by omega
theorem la_labelsAt_4 {x0 x1 x2 : Int} (h0 : x0 + 2 * x1 ≤ 500) (h1 : ¬ ¬ x2 = 639) : ¬ x2 < x0 + 2 * x1 := by omega
theorem la_labelsAt_5 {x0 : Int} : x0 = 639 → (15000 : Int) = 15000 := by omega
theorem la_labelsAt_6 {x0 : Int} (h0 : ¬ ¬ x0 = 639) : x0 ≤ 639 := by omega
theorem la_labelsAt_7 : (0 : Int) ≤ 15000 := by omega
theorem la_labelsAt_8 {x0 : Int} (h0 : ¬ ¬ x0 = 639) (h1 : x0 < 639) : False := by omega
set_option maxHeartbeats 2000000 in
theorem f_labelsAt : ∀ (p1 : Int) (S : sv_S), sm_ok S → sv_R p1 → (29 ≤ (S 1071 0) ∧ (S 1071 0) ≤ 127 ∧ 31 ≤ (S 1008 0) ∧ (S 1008 0) ≤ 90 ∧ 1 ≤ (S 1032 0) ∧ (S 1032 0) ≤ 11 ∧ 0 ≤ (S 1055 0) ∧ (S 1055 0) ≤ 19 ∧ (S 1071 0) = 29 + 6 * ((S 1032 0) - 1) + 2 * (S 1055 0) ∧ 0 ≤ (S 1046 0) ∧ (S 1046 0) + 2 * (S 1032 0) ≤ 500 ∧ sm_PD (S 1046 0) (S 1032 0) (S 1071 0) (S 1008 0) ∧ 0 ≤ (S 1071 0) * ((S 1008 0) + 1) ∧ (S 1071 0) * ((S 1008 0) + 1) ≤ 11557 ∧ 0 ≤ p1 ∧ (p1 = 639 ∨ p1 < (S 1046 0) + 2 * (S 1032 0))) → (((¬ p1 = (639 : Int)) → ((sm_PD (S 1046 0) (S 1032 0) (S 1071 0) (S 1008 0) → 29 ≤ (S 1071 0) → 31 ≤ (S 1008 0) → 0 ≤ p1 → p1 < (S 1046 0) + 2 * (S 1032 0) → (0 ≤ p1 * (S 1071 0) * ((S 1008 0) + 1) ∧ p1 * (S 1071 0) * ((S 1008 0) + 1) + (S 1071 0) * ((S 1008 0) + 1) ≤ 464520) ∧ (0 ≤ p1 * (S 1071 0) ∧ p1 * (S 1071 0) + (S 1071 0) ≤ 14520)) → (sv_R (S 1071 0) → (sv_R (p1 * (S 1071 0))) ∧ ((p1 = 639 → (p1 * (S 1071 0)) = 15000) ∧ (¬ p1 = 639 → 0 ≤ (p1 * (S 1071 0)) ∧ (p1 * (S 1071 0)) + (S 1071 0) ≤ 14520))))) ∧ ((¬ (¬ p1 = (639 : Int))) → ((p1 = 639 → (15000 : Int) = 15000) ∧ (¬ p1 = 639 → 0 ≤ (15000 : Int) ∧ (15000 : Int) + (S 1071 0) ≤ 14520)))) := by
  intro p1
  intro S
  intro h1_
  intro h2_
  rintro ⟨h3_, ⟨h4_, ⟨h5_, ⟨h6_, ⟨h7_, ⟨h8_, ⟨h9_, ⟨h10_, ⟨h11_, ⟨h12_, ⟨h13_, ⟨h14_, ⟨h15_, ⟨h16_, ⟨h17_, h18_⟩⟩⟩⟩⟩⟩⟩⟩⟩⟩⟩⟩⟩⟩⟩
  refine ⟨?_, ?_⟩
  · skip
    intro h19_
    have h20_ := (h18_.resolve_left h19_)
    intro h21_
    have h22_ := (h21_ h14_)
    have h23_ := (h22_ h3_)
    have h24_ := (h23_ h5_)
    have h25_ := (h24_ h17_)
    obtain ⟨⟨h26_, h27_⟩, ⟨h28_, h29_⟩⟩ := (h25_ h20_)
    intro h30_
    refine ⟨(la_labelsAt_2 h3_ h28_ h29_), ?_⟩
    refine ⟨(la_labelsAt_3 h3_ h13_ h20_ h29_), ?_⟩
    intro h31_
    refine ⟨h28_, ?_⟩
    exact h29_
  intro h32_
  have h33_ := (h18_.resolve_right (la_labelsAt_4 h13_ h32_))
  refine ⟨la_labelsAt_5, ?_⟩
  intro h34_
  refine ⟨la_labelsAt_7, ?_⟩
  exact ((la_labelsAt_8 h32_ (la_labelsAt_1 (la_labelsAt_6 h32_) h34_))).elim
set_option maxRecDepth 8000 in
set_option maxHeartbeats 2000000 in
theorem t_labelsAt : ∀ (p1 : Int) (S : sv_S), sm_ok S → sv_R p1 → (29 ≤ (S 1071 0) ∧ (S 1071 0) ≤ 127 ∧ 31 ≤ (S 1008 0) ∧ (S 1008 0) ≤ 90 ∧ 1 ≤ (S 1032 0) ∧ (S 1032 0) ≤ 11 ∧ 0 ≤ (S 1055 0) ∧ (S 1055 0) ≤ 19 ∧ (S 1071 0) = 29 + 6 * ((S 1032 0) - 1) + 2 * (S 1055 0) ∧ 0 ≤ (S 1046 0) ∧ (S 1046 0) + 2 * (S 1032 0) ≤ 500 ∧ sm_PD (S 1046 0) (S 1032 0) (S 1071 0) (S 1008 0) ∧ 0 ≤ (S 1071 0) * ((S 1008 0) + 1) ∧ (S 1071 0) * ((S 1008 0) + 1) ≤ 11557 ∧ 0 ≤ p1 ∧ (p1 = 639 ∨ p1 < (S 1046 0) + 2 * (S 1032 0))) → sv_T sm_XS sm_cs sm_L sm_sh 0 (q_labelsAt p1 S) 224 0 (lv_args 0 [.ref 0, sv_I p1]) [] S := by
  intro p1 S hok hp1 hpre
  have h := f_labelsAt p1 S hok hp1 hpre
  have hM := sm_h224
  show sv_T sm_XS sm_cs sm_L sm_sh 0 (q_labelsAt p1 S) 224 0 [(0, .ref 0), (1, sv_I p1)] [] S
  refine sv_iload_n hM dX12_labelsAt_0 rfl rfl ?_
  refine sv_sipush (d := (639 : Int)) hM dX12_labelsAt_1 rfl rfl ?_
  refine sv_icmp_ne hM dX12_labelsAt_4 hp1 (⟨by decide, by decide⟩ : sv_R (639 : Int)) (t := 13) rfl rfl (fun hc => ?_) (fun hc => ?_)
  · have h := h.1 (hc)
    have k1 : (sm_PD (S 1046 0) (S 1032 0) (S 1071 0) (S 1008 0) → 29 ≤ (S 1071 0) → 31 ≤ (S 1008 0) → 0 ≤ p1 → p1 < (S 1046 0) + 2 * (S 1032 0) → (0 ≤ p1 * (S 1071 0) * ((S 1008 0) + 1) ∧ p1 * (S 1071 0) * ((S 1008 0) + 1) + (S 1071 0) * ((S 1008 0) + 1) ≤ 464520) ∧ (0 ≤ p1 * (S 1071 0) ∧ p1 * (S 1071 0) + (S 1071 0) ≤ 14520)) := sm_PD_at
    have h := h k1
    refine sv_iload_n hM dX12_labelsAt_13 rfl rfl ?_
    refine sv_aload_n hM dX12_labelsAt_14 rfl rfl ?_
    have k2 : sv_R (S 1071 0) := sm_okI hok sm_r1071 0
    have h := h k2
    refine sv_getI hM dX12_labelsAt_15 sm_fl_765 (sm_a0 _) sm_k71 rfl (x := (S 1071 0)) rfl ?_
    refine sv_imul hM dX12_labelsAt_18 rfl ?_
    obtain ⟨o3, h⟩ := h
    exact sv_iret hM dX12_labelsAt_19 rfl rfl ⟨(p1 * (S 1071 0)), rfl, o3, hok, sv_mod.rf, h⟩
  · have h := h.2 (hc)
    refine sv_sipush (d := (15000 : Int)) hM dX12_labelsAt_7 rfl rfl ?_
    refine sv_goto hM dX12_labelsAt_10 (pc' := 19) rfl ?_
    exact sv_iret hM dX12_labelsAt_19 rfl rfl ⟨(15000 : Int), rfl, (⟨by decide, by decide⟩ : sv_R (15000 : Int)), hok, sv_mod.rf, h⟩
def q_field (p1 : Int) (p2 : Int) (p3 : Int) (S : sv_S) : Option Value → sv_S → Prop := fun v S' => ∃ r : Int, v = some (sv_I r) ∧ sv_R r ∧ sm_ok S' ∧ sv_mod [] S S' ∧ ((p1 = 639 → 635640 ≤ r ∧ r < 647340) ∧ (¬ p1 = 639 → 0 ≤ r ∧ r < 464520))
theorem la_field_0 {x0 x1 x2 x3 x4 x5 x6 x7 x8 x9 : Int} (h0 : x0 ≤ 127) (h1 : x1 ≤ 90) (h2 : x2 + 2 * x3 ≤ 500) (h3 : 0 ≤ x4) (h4 : x5 = 639 ∨ x5 < x2 + 2 * x3) (h5 : x6 < x0 ∨ x5 = 639 ∧ x6 < 128) (h6 : 0 ≤ x7) (h7 : x7 ≤ x1) (h8 : sv_R x8) (h9 : x5 = 639 → x8 = 635640) (h10 : ¬ x5 = 639 → 0 ≤ x8 ∧ x8 + x4 ≤ 464520) (h11 : x6 < 128 → 0 ≤ x7 → x7 ≤ x1 → x1 ≤ 90 → 0 ≤ x9 ∧ x9 + x7 < 11700) : sv_R (x8 + x9 + x7) := by omega
theorem la_field_1 {x0 x1 x2 x3 x4 x5 x6 x7 x8 : Int} (h0 : x0 ≤ 127) (h1 : x1 ≤ 90) (h2 : x2 + 2 * x3 ≤ 500) (h3 : x4 = 639 ∨ x4 < x2 + 2 * x3) (h4 : x5 < x0 ∨ x4 = 639 ∧ x5 < 128) (h5 : 0 ≤ x6) (h6 : x6 ≤ x1) (h7 : x4 = 639 → x7 = 635640) (h8 : x5 < 128 → 0 ≤ x6 → x6 ≤ x1 → x1 ≤ 90 → 0 ≤ x8 ∧ x8 + x6 < 11700) : x4 = 639 → 635640 ≤ x7 + x8 + x6 ∧ x7 + x8 + x6 < 647340 := by omega
theorem la_field_2 {x0 x1 x2 x3 : Int} (h0 : x0 + 2 * x1 ≤ 500) (h1 : x2 < x0 + 2 * x1) : ¬ (x2 = 639 ∧ x3 < 128) := by omega
theorem la_field_3 {x0 x1 : Int} (h0 : x0 ≤ 127) (h1 : x1 < x0) : x1 < 128 := by omega
theorem la_field_4 {x0 x1 x2 : Int} (h0 : x0 + 2 * x1 ≤ 500) (h1 : x2 < x0 + 2 * x1) : x2 ≤ 639 := by omega
theorem la_field_5 {x0 : Int} (h0 : x0 ≤ 639) (h1 : ¬ x0 = 639) : x0 < 639 := by omega
theorem la_field_6 {x0 x1 x2 : Int} (h0 : 0 ≤ x0) (h1 : 0 ≤ x1) (h2 : 0 ≤ x2) : 0 ≤ x1 + x2 + x0 := by omega
theorem la_field_7 {x0 x1 x2 x3 : Int} (h0 : x0 + x1 ≤ 464520) (h1 : x2 + x3 < x1) : x0 + x2 + x3 < 464520 := by omega
set_option maxHeartbeats 2000000 in
theorem f_field : ∀ (p1 : Int) (p2 : Int) (p3 : Int) (S : sv_S), sm_ok S → sv_R p1 → sv_R p2 → sv_R p3 → (29 ≤ (S 1071 0) ∧ (S 1071 0) ≤ 127 ∧ 31 ≤ (S 1008 0) ∧ (S 1008 0) ≤ 90 ∧ 1 ≤ (S 1032 0) ∧ (S 1032 0) ≤ 11 ∧ 0 ≤ (S 1055 0) ∧ (S 1055 0) ≤ 19 ∧ (S 1071 0) = 29 + 6 * ((S 1032 0) - 1) + 2 * (S 1055 0) ∧ 0 ≤ (S 1046 0) ∧ (S 1046 0) + 2 * (S 1032 0) ≤ 500 ∧ sm_PD (S 1046 0) (S 1032 0) (S 1071 0) (S 1008 0) ∧ 0 ≤ (S 1071 0) * ((S 1008 0) + 1) ∧ (S 1071 0) * ((S 1008 0) + 1) ≤ 11557 ∧ 0 ≤ p1 ∧ (p1 = 639 ∨ p1 < (S 1046 0) + 2 * (S 1032 0)) ∧ 0 ≤ p2 ∧ (p2 < (S 1071 0) ∨ (p1 = 639 ∧ p2 < 128)) ∧ 0 ≤ p3 ∧ p3 ≤ (S 1008 0)) → (29 ≤ (S 1071 0) ∧ (S 1071 0) ≤ 127 ∧ 31 ≤ (S 1008 0) ∧ (S 1008 0) ≤ 90 ∧ 1 ≤ (S 1032 0) ∧ (S 1032 0) ≤ 11 ∧ 0 ≤ (S 1055 0) ∧ (S 1055 0) ≤ 19 ∧ (S 1071 0) = 29 + 6 * ((S 1032 0) - 1) + 2 * (S 1055 0) ∧ 0 ≤ (S 1046 0) ∧ (S 1046 0) + 2 * (S 1032 0) ≤ 500 ∧ sm_PD (S 1046 0) (S 1032 0) (S 1071 0) (S 1008 0) ∧ 0 ≤ (S 1071 0) * ((S 1008 0) + 1) ∧ (S 1071 0) * ((S 1008 0) + 1) ≤ 11557 ∧ 0 ≤ p1 ∧ (p1 = 639 ∨ p1 < (S 1046 0) + 2 * (S 1032 0))) ∧ (∀ r6 : Int, sv_R r6 → ((p1 = 639 → r6 = 635640) ∧ (¬ p1 = 639 → 0 ≤ r6 ∧ r6 + (S 1071 0) * ((S 1008 0) + 1) ≤ 464520)) → ((0 ≤ p2 → p2 < 128 → 0 ≤ p3 → p3 ≤ (S 1008 0) → (S 1008 0) ≤ 90 → 0 ≤ p2 * ((S 1008 0) + 1) ∧ p2 * ((S 1008 0) + 1) + p3 < 11700) → ((0 ≤ p2 → p2 < (S 1071 0) → 0 ≤ p3 → p3 ≤ (S 1008 0) → 0 ≤ p2 * ((S 1008 0) + 1) ∧ p2 * ((S 1008 0) + 1) + p3 < (S 1071 0) * ((S 1008 0) + 1)) → (sv_R (S 1008 0) → (sv_R ((r6 + (p2 * ((S 1008 0) + (1 : Int)))) + p3)) ∧ ((p1 = 639 → 635640 ≤ ((r6 + (p2 * ((S 1008 0) + (1 : Int)))) + p3) ∧ ((r6 + (p2 * ((S 1008 0) + (1 : Int)))) + p3) < 647340) ∧ (¬ p1 = 639 → 0 ≤ ((r6 + (p2 * ((S 1008 0) + (1 : Int)))) + p3) ∧ ((r6 + (p2 * ((S 1008 0) + (1 : Int)))) + p3) < 464520)))))) := by
  intro p1
  intro p2
  intro p3
  intro S
  intro h1_
  intro h2_
  intro h3_
  intro h4_
  rintro ⟨h5_, ⟨h6_, ⟨h7_, ⟨h8_, ⟨h9_, ⟨h10_, ⟨h11_, ⟨h12_, ⟨h13_, ⟨h14_, ⟨h15_, ⟨h16_, ⟨h17_, ⟨h18_, ⟨h19_, ⟨h20_, ⟨h21_, ⟨h22_, ⟨h23_, h24_⟩⟩⟩⟩⟩⟩⟩⟩⟩⟩⟩⟩⟩⟩⟩⟩⟩⟩⟩
  refine ⟨⟨h5_, ⟨h6_, ⟨h7_, ⟨h8_, ⟨h9_, ⟨h10_, ⟨h11_, ⟨h12_, ⟨h13_, ⟨h14_, ⟨h15_, ⟨h16_, ⟨h17_, ⟨h18_, ⟨h19_, h20_⟩⟩⟩⟩⟩⟩⟩⟩⟩⟩⟩⟩⟩⟩⟩, ?_⟩
  intro r6
  intro h25_
  rintro ⟨h26_, h27_⟩
  intro h28_
  have h29_ := (h28_ h21_)
  intro h30_
  have h31_ := (h30_ h21_)
  intro h32_
  refine ⟨?_, ?_⟩
  · skip
    exact (la_field_0 h6_ h8_ h15_ h17_ h20_ h22_ h23_ h24_ h25_ h26_ h27_ h29_)
  refine ⟨(la_field_1 h6_ h8_ h15_ h20_ h22_ h23_ h24_ h26_ h29_), ?_⟩
  intro h33_
  have h34_ := (h20_.resolve_left h33_)
  have h35_ := (h22_.resolve_right (la_field_2 h15_ h34_))
  obtain ⟨h36_, h37_⟩ := (h27_ h33_)
  have h38_ := (h29_ (la_field_3 h6_ h35_))
  have h39_ := (h31_ h35_)
  have h40_ := (h38_ h23_)
  have h41_ := (h39_ h23_)
  have h42_ := (h40_ h24_)
  obtain ⟨h43_, h44_⟩ := (h41_ h24_)
  obtain ⟨h45_, h46_⟩ := (h42_ h8_)
  refine ⟨(la_field_6 h23_ h36_ h43_), ?_⟩
  exact (la_field_7 h37_ h44_)
set_option maxRecDepth 8000 in
set_option maxHeartbeats 2000000 in
theorem t_field : ∀ (p1 : Int) (p2 : Int) (p3 : Int) (S : sv_S), sm_ok S → sv_R p1 → sv_R p2 → sv_R p3 → (29 ≤ (S 1071 0) ∧ (S 1071 0) ≤ 127 ∧ 31 ≤ (S 1008 0) ∧ (S 1008 0) ≤ 90 ∧ 1 ≤ (S 1032 0) ∧ (S 1032 0) ≤ 11 ∧ 0 ≤ (S 1055 0) ∧ (S 1055 0) ≤ 19 ∧ (S 1071 0) = 29 + 6 * ((S 1032 0) - 1) + 2 * (S 1055 0) ∧ 0 ≤ (S 1046 0) ∧ (S 1046 0) + 2 * (S 1032 0) ≤ 500 ∧ sm_PD (S 1046 0) (S 1032 0) (S 1071 0) (S 1008 0) ∧ 0 ≤ (S 1071 0) * ((S 1008 0) + 1) ∧ (S 1071 0) * ((S 1008 0) + 1) ≤ 11557 ∧ 0 ≤ p1 ∧ (p1 = 639 ∨ p1 < (S 1046 0) + 2 * (S 1032 0)) ∧ 0 ≤ p2 ∧ (p2 < (S 1071 0) ∨ (p1 = 639 ∧ p2 < 128)) ∧ 0 ≤ p3 ∧ p3 ≤ (S 1008 0)) → sv_T sm_XS sm_cs sm_L sm_sh 1 (q_field p1 p2 p3 S) 225 0 (lv_args 0 [.ref 0, sv_I p1, sv_I p2, sv_I p3]) [] S := by
  intro p1 p2 p3 S hok hp1 hp2 hp3 hpre
  have h := f_field p1 p2 p3 S hok hp1 hp2 hp3 hpre
  have hM := sm_h225
  show sv_T sm_XS sm_cs sm_L sm_sh 1 (q_field p1 p2 p3 S) 225 0 [(0, .ref 0), (1, sv_I p1), (2, sv_I p2), (3, sv_I p3)] [] S
  refine sv_aload_n hM dX12_field_0 rfl rfl ?_
  refine sv_iload_n hM dX12_field_1 rfl rfl ?_
  obtain ⟨o1, h⟩ := h
  refine sv_callV hM dX12_field_2 sm_iv_1085 (by decide) (sm_a0 _) rfl rfl (Nat.le_of_ble_eq_true rfl) sm_h223 (Nat.le_of_ble_eq_true rfl) (Nat.le_of_ble_eq_true rfl) (F' := 0) (Nat.le_of_ble_eq_true rfl) rfl (t_fieldsAt p1 S hok hp1 o1) (fun v S1 hq => ?_)
  obtain ⟨r6, rfl, hr6, ok3, md4, hpo5⟩ := hq
  obtain rfl : S = S1 := (funext fun j => md4 j (by intro q; cases q)).symm
  show sv_T sm_XS sm_cs sm_L sm_sh 1 (q_field p1 p2 p3 S) 225 5 [(0, .ref 0), (1, sv_I p1), (2, sv_I p2), (3, sv_I p3)] [sv_I r6] S
  have h := h r6 hr6 hpo5
  have k7 : (0 ≤ p2 → p2 < 128 → 0 ≤ p3 → p3 ≤ (S 1008 0) → (S 1008 0) ≤ 90 → 0 ≤ p2 * ((S 1008 0) + 1) ∧ p2 * ((S 1008 0) + 1) + p3 < 11700) := sm_PD_f2
  have h := h k7
  have k8 : (0 ≤ p2 → p2 < (S 1071 0) → 0 ≤ p3 → p3 ≤ (S 1008 0) → 0 ≤ p2 * ((S 1008 0) + 1) ∧ p2 * ((S 1008 0) + 1) + p3 < (S 1071 0) * ((S 1008 0) + 1)) := sm_PD_fl
  have h := h k8
  refine sv_iload_n hM dX12_field_5 rfl rfl ?_
  refine sv_aload_n hM dX12_field_6 rfl rfl ?_
  have k9 : sv_R (S 1008 0) := sm_okI ok3 sm_r1008 0
  have h := h k9
  refine sv_getI hM dX12_field_7 sm_fl_762 (sm_a0 _) sm_k8 rfl (x := (S 1008 0)) rfl ?_
  refine sv_iconst (d := (1 : Int)) hM dX12_field_10 rfl rfl ?_
  refine sv_iadd hM dX12_field_11 rfl ?_
  refine sv_imul hM dX12_field_12 rfl ?_
  refine sv_iadd hM dX12_field_13 rfl ?_
  refine sv_iload_n hM dX12_field_14 rfl rfl ?_
  refine sv_iadd hM dX12_field_15 rfl ?_
  obtain ⟨o10, h⟩ := h
  exact sv_iret hM dX12_field_16 rfl rfl ⟨((r6 + (p2 * ((S 1008 0) + (1 : Int)))) + p3), rfl, o10, ok3, sv_mod.rf, h⟩
def q_of (p1 : Int) (p2 : Int) (S : sv_S) : Option Value → sv_S → Prop := fun v S' => ∃ r : Int, v = some (sv_I r) ∧ sv_R r ∧ sm_ok S' ∧ sv_mod [] S S' ∧ ((p1 = 639 → r = 15000 + p2) ∧ (¬ p1 = 639 → 0 ≤ r ∧ r < 14520))
theorem la_of_0 {x0 x1 x2 x3 x4 x5 : Int} (h0 : x0 ≤ 127) (h1 : x1 + 2 * x2 ≤ 500) (h2 : x3 = 639 ∨ x3 < x1 + 2 * x2) (h3 : 0 ≤ x4) (h4 : x4 < x0 ∨ x3 = 639 ∧ x4 < 128) (h5 : sv_R x5) (h6 : x3 = 639 → x5 = 15000) (h7 : ¬ x3 = 639 → 0 ≤ x5 ∧ x5 + x0 ≤ 14520) : sv_R (x5 + x4) := by omega
theorem la_of_1 {x0 x1 x2 x3 x4 : Int} (h0 : x0 + 2 * x1 ≤ 500) (h1 : x2 = 639 ∨ x2 < x0 + 2 * x1) (h2 : x2 = 639 → x3 = 15000) : x2 = 639 → x3 + x4 = 15000 + x4 := by omega
theorem la_of_2 {x0 x1 x2 x3 : Int} (h0 : x0 + 2 * x1 ≤ 500) (h1 : x2 < x0 + 2 * x1) : ¬ (x2 = 639 ∧ x3 < 128) := by omega
theorem la_of_3 {x0 x1 x2 : Int} (h0 : x0 + 2 * x1 ≤ 500) (h1 : x2 < x0 + 2 * x1) : x2 ≤ 639 := by omega
theorem la_of_4 {x0 : Int} (h0 : x0 ≤ 639) (h1 : ¬ x0 = 639) : x0 < 639 := by omega
theorem la_of_5 {x0 x1 : Int} (h0 : 0 ≤ x0) (h1 : 0 ≤ x1) : 0 ≤ x1 + x0 := by omega
theorem la_of_6 {x0 x1 x2 : Int} (h0 : x0 < x1) (h1 : x2 + x1 ≤ 14520) : x2 + x0 < 14520 := by omega
set_option maxHeartbeats 2000000 in
theorem f_of : ∀ (p1 : Int) (p2 : Int) (S : sv_S), sm_ok S → sv_R p1 → sv_R p2 → (29 ≤ (S 1071 0) ∧ (S 1071 0) ≤ 127 ∧ 31 ≤ (S 1008 0) ∧ (S 1008 0) ≤ 90 ∧ 1 ≤ (S 1032 0) ∧ (S 1032 0) ≤ 11 ∧ 0 ≤ (S 1055 0) ∧ (S 1055 0) ≤ 19 ∧ (S 1071 0) = 29 + 6 * ((S 1032 0) - 1) + 2 * (S 1055 0) ∧ 0 ≤ (S 1046 0) ∧ (S 1046 0) + 2 * (S 1032 0) ≤ 500 ∧ sm_PD (S 1046 0) (S 1032 0) (S 1071 0) (S 1008 0) ∧ 0 ≤ (S 1071 0) * ((S 1008 0) + 1) ∧ (S 1071 0) * ((S 1008 0) + 1) ≤ 11557 ∧ 0 ≤ p1 ∧ (p1 = 639 ∨ p1 < (S 1046 0) + 2 * (S 1032 0)) ∧ 0 ≤ p2 ∧ (p2 < (S 1071 0) ∨ (p1 = 639 ∧ p2 < 128))) → (29 ≤ (S 1071 0) ∧ (S 1071 0) ≤ 127 ∧ 31 ≤ (S 1008 0) ∧ (S 1008 0) ≤ 90 ∧ 1 ≤ (S 1032 0) ∧ (S 1032 0) ≤ 11 ∧ 0 ≤ (S 1055 0) ∧ (S 1055 0) ≤ 19 ∧ (S 1071 0) = 29 + 6 * ((S 1032 0) - 1) + 2 * (S 1055 0) ∧ 0 ≤ (S 1046 0) ∧ (S 1046 0) + 2 * (S 1032 0) ≤ 500 ∧ sm_PD (S 1046 0) (S 1032 0) (S 1071 0) (S 1008 0) ∧ 0 ≤ (S 1071 0) * ((S 1008 0) + 1) ∧ (S 1071 0) * ((S 1008 0) + 1) ≤ 11557 ∧ 0 ≤ p1 ∧ (p1 = 639 ∨ p1 < (S 1046 0) + 2 * (S 1032 0))) ∧ (∀ r6 : Int, sv_R r6 → ((p1 = 639 → r6 = 15000) ∧ (¬ p1 = 639 → 0 ≤ r6 ∧ r6 + (S 1071 0) ≤ 14520)) → (sv_R (r6 + p2)) ∧ ((p1 = 639 → (r6 + p2) = 15000 + p2) ∧ (¬ p1 = 639 → 0 ≤ (r6 + p2) ∧ (r6 + p2) < 14520))) := by
  intro p1
  intro p2
  intro S
  intro h1_
  intro h2_
  intro h3_
  rintro ⟨h4_, ⟨h5_, ⟨h6_, ⟨h7_, ⟨h8_, ⟨h9_, ⟨h10_, ⟨h11_, ⟨h12_, ⟨h13_, ⟨h14_, ⟨h15_, ⟨h16_, ⟨h17_, ⟨h18_, ⟨h19_, ⟨h20_, h21_⟩⟩⟩⟩⟩⟩⟩⟩⟩⟩⟩⟩⟩⟩⟩⟩⟩
  refine ⟨⟨h4_, ⟨h5_, ⟨h6_, ⟨h7_, ⟨h8_, ⟨h9_, ⟨h10_, ⟨h11_, ⟨h12_, ⟨h13_, ⟨h14_, ⟨h15_, ⟨h16_, ⟨h17_, ⟨h18_, h19_⟩⟩⟩⟩⟩⟩⟩⟩⟩⟩⟩⟩⟩⟩⟩, ?_⟩
  intro r6
  intro h22_
  rintro ⟨h23_, h24_⟩
  refine ⟨?_, ?_⟩
  · skip
    exact (la_of_0 h5_ h14_ h19_ h20_ h21_ h22_ h23_ h24_)
  refine ⟨(la_of_1 h14_ h19_ h23_), ?_⟩
  intro h25_
  have h26_ := (h19_.resolve_left h25_)
  have h27_ := (h21_.resolve_right (la_of_2 h14_ h26_))
  obtain ⟨h28_, h29_⟩ := (h24_ h25_)
  refine ⟨(la_of_5 h20_ h28_), ?_⟩
  exact (la_of_6 h27_ h29_)
set_option maxRecDepth 8000 in
set_option maxHeartbeats 2000000 in
theorem t_of : ∀ (p1 : Int) (p2 : Int) (S : sv_S), sm_ok S → sv_R p1 → sv_R p2 → (29 ≤ (S 1071 0) ∧ (S 1071 0) ≤ 127 ∧ 31 ≤ (S 1008 0) ∧ (S 1008 0) ≤ 90 ∧ 1 ≤ (S 1032 0) ∧ (S 1032 0) ≤ 11 ∧ 0 ≤ (S 1055 0) ∧ (S 1055 0) ≤ 19 ∧ (S 1071 0) = 29 + 6 * ((S 1032 0) - 1) + 2 * (S 1055 0) ∧ 0 ≤ (S 1046 0) ∧ (S 1046 0) + 2 * (S 1032 0) ≤ 500 ∧ sm_PD (S 1046 0) (S 1032 0) (S 1071 0) (S 1008 0) ∧ 0 ≤ (S 1071 0) * ((S 1008 0) + 1) ∧ (S 1071 0) * ((S 1008 0) + 1) ≤ 11557 ∧ 0 ≤ p1 ∧ (p1 = 639 ∨ p1 < (S 1046 0) + 2 * (S 1032 0)) ∧ 0 ≤ p2 ∧ (p2 < (S 1071 0) ∨ (p1 = 639 ∧ p2 < 128))) → sv_T sm_XS sm_cs sm_L sm_sh 1 (q_of p1 p2 S) 226 0 (lv_args 0 [.ref 0, sv_I p1, sv_I p2]) [] S := by
  intro p1 p2 S hok hp1 hp2 hpre
  have h := f_of p1 p2 S hok hp1 hp2 hpre
  have hM := sm_h226
  show sv_T sm_XS sm_cs sm_L sm_sh 1 (q_of p1 p2 S) 226 0 [(0, .ref 0), (1, sv_I p1), (2, sv_I p2)] [] S
  refine sv_aload_n hM dX12_of_0 rfl rfl ?_
  refine sv_iload_n hM dX12_of_1 rfl rfl ?_
  obtain ⟨o1, h⟩ := h
  refine sv_callV hM dX12_of_2 sm_iv_1088 (by decide) (sm_a0 _) rfl rfl (Nat.le_of_ble_eq_true rfl) sm_h224 (Nat.le_of_ble_eq_true rfl) (Nat.le_of_ble_eq_true rfl) (F' := 0) (Nat.le_of_ble_eq_true rfl) rfl (t_labelsAt p1 S hok hp1 o1) (fun v S1 hq => ?_)
  obtain ⟨r6, rfl, hr6, ok3, md4, hpo5⟩ := hq
  obtain rfl : S = S1 := (funext fun j => md4 j (by intro q; cases q)).symm
  show sv_T sm_XS sm_cs sm_L sm_sh 1 (q_of p1 p2 S) 226 5 [(0, .ref 0), (1, sv_I p1), (2, sv_I p2)] [sv_I r6] S
  have h := h r6 hr6 hpo5
  refine sv_iload_n hM dX12_of_5 rfl rfl ?_
  refine sv_iadd hM dX12_of_6 rfl ?_
  obtain ⟨o7, h⟩ := h
  exact sv_iret hM dX12_of_7 rfl rfl ⟨(r6 + p2), rfl, o7, ok3, sv_mod.rf, h⟩
def q_thisAt (p1 : Int) (S : sv_S) : Option Value → sv_S → Prop := fun v S' => v = some (sv_I (635000 + p1)) ∧ S' = S
theorem la_thisAt_0 {x0 : Int} : 635000 + x0 = 635000 + x0 := by omega
set_option maxHeartbeats 2000000 in
theorem f_thisAt : ∀ (p1 : Int) (S : sv_S), sm_ok S → sv_R p1 → ((635000 : Int) + p1) = (635000 + p1) := by
  intro p1
  intro S
  intro h1_
  intro h2_
  exact la_thisAt_0
set_option maxRecDepth 8000 in
set_option maxHeartbeats 2000000 in
theorem t_thisAt : ∀ (p1 : Int) (S : sv_S), sm_ok S → sv_R p1 → sv_T sm_XS sm_cs sm_L sm_sh 0 (q_thisAt p1 S) 227 0 (lv_args 0 [.ref 0, sv_I p1]) [] S := by
  intro p1 S hok hp1
  have h := f_thisAt p1 S hok hp1
  have hM := sm_h227
  show sv_T sm_XS sm_cs sm_L sm_sh 0 (q_thisAt p1 S) 227 0 [(0, .ref 0), (1, sv_I p1)] [] S
  refine sv_ldc_w (d := (635000 : Int)) hM dX12_thisAt_0 sm_ck_1091 rfl rfl ?_
  refine sv_iload_n hM dX12_thisAt_3 rfl rfl ?_
  refine sv_iadd hM dX12_thisAt_4 rfl ?_
  exact sv_iret hM dX12_thisAt_5 rfl rfl ⟨congrArg (fun z => some (sv_I z)) h, rfl⟩
def q_onStack (p1 : Int) (p2 : Int) (S : sv_S) : Option Value → sv_S → Prop := fun v S' => ∃ r : Int, v = some (sv_I r) ∧ sv_R r ∧ sm_ok S' ∧ sv_mod [] S S' ∧ (r = (S' 75 p1) + p2)
theorem la_onStack_0 {x0 : Int} (h0 : 0 ≤ x0) (h1 : x0 < 640) : 0 ≤ x0 ∧ x0 < 640 := by omega
theorem la_onStack_1 {x0 x1 : Int} (h0 : (-1000) ≤ x0) (h1 : x0 ≤ 1000) (h2 : 0 ≤ x1) (h3 : x1 ≤ 647800) : sv_R (x1 + x0) := by omega
theorem la_onStack_2 {x0 x1 : Int} : x0 + x1 = x0 + x1 := by omega
set_option maxHeartbeats 2000000 in
theorem f_onStack : ∀ (p1 : Int) (p2 : Int) (S : sv_S), sm_ok S → sv_R p1 → sv_R p2 → (0 ≤ p1 ∧ p1 < 640 ∧ -1000 ≤ p2 ∧ p2 ≤ 1000 ∧ 0 ≤ (S 75 p1) ∧ (S 75 p1) ≤ 647800) → (0 ≤ p1 ∧ p1 < 640) ∧ (sv_R (S 75 p1) → (sv_R ((S 75 p1) + p2)) ∧ (((S 75 p1) + p2) = (S 75 p1) + p2)) := by
  intro p1
  intro p2
  intro S
  intro h1_
  intro h2_
  intro h3_
  rintro ⟨h4_, ⟨h5_, ⟨h6_, ⟨h7_, ⟨h8_, h9_⟩⟩⟩⟩⟩
  refine ⟨(la_onStack_0 h4_ h5_), ?_⟩
  intro h10_
  refine ⟨(la_onStack_1 h6_ h7_ h8_ h9_), ?_⟩
  exact la_onStack_2
set_option maxRecDepth 8000 in
set_option maxHeartbeats 2000000 in
theorem t_onStack : ∀ (p1 : Int) (p2 : Int) (S : sv_S), sm_ok S → sv_R p1 → sv_R p2 → (0 ≤ p1 ∧ p1 < 640 ∧ -1000 ≤ p2 ∧ p2 ≤ 1000 ∧ 0 ≤ (S 75 p1) ∧ (S 75 p1) ≤ 647800) → sv_T sm_XS sm_cs sm_L sm_sh 0 (q_onStack p1 p2 S) 228 0 (lv_args 0 [.ref 0, sv_I p1, sv_I p2]) [] S := by
  intro p1 p2 S hok hp1 hp2 hpre
  have h := f_onStack p1 p2 S hok hp1 hp2 hpre
  have hM := sm_h228
  show sv_T sm_XS sm_cs sm_L sm_sh 0 (q_onStack p1 p2 S) 228 0 [(0, .ref 0), (1, sv_I p1), (2, sv_I p2)] [] S
  refine sv_aload_n hM dX12_onStack_0 rfl rfl ?_
  refine sv_getA hM dX12_onStack_1 sm_fl_238 (sm_a0 _) sm_k126 rfl ?_
  refine sv_iload_n hM dX12_onStack_4 rfl rfl ?_
  obtain ⟨o1, h⟩ := h
  have k2 : sv_R (S 75 p1) := sm_okI hok sm_r75 p1
  have h := h k2
  refine sv_iald hM dX12_onStack_5 (sm_a75 _) (by decide) o1.1 o1.2 rfl (x := (S 75 p1)) rfl ?_
  refine sv_iload_n hM dX12_onStack_6 rfl rfl ?_
  refine sv_iadd hM dX12_onStack_7 rfl ?_
  obtain ⟨o3, h⟩ := h
  exact sv_iret hM dX12_onStack_8 rfl rfl ⟨((S 75 p1) + p2), rfl, o3, hok, sv_mod.rf, h⟩
def q_fromTop (p1 : Int) (S : sv_S) : Option Value → sv_S → Prop := fun v S' => ∃ r : Int, v = some (sv_I r) ∧ sv_R r ∧ sm_ok S' ∧ sv_mod [] S S' ∧ (r = 647339 + (S' 74 639) - p1)
theorem la_fromTop_0 : (0 : Int) ≤ 639 ∧ (639 : Int) < 640 := by omega
theorem la_fromTop_1 {x0 x1 x2 : Int} (h0 : x0 = 647340) (h1 : 0 ≤ x1) (h2 : x1 ≤ 400) (h3 : (-1) ≤ x2) (h4 : x2 ≤ 1000) : sv_R (x0 + x1 - 1 - x2) := by omega
theorem la_fromTop_2 {x0 x1 x2 : Int} (h0 : x0 = 647340) : x0 + x1 - 1 - x2 = 647339 + x1 - x2 := by omega
set_option maxHeartbeats 2000000 in
theorem f_fromTop : ∀ (p1 : Int) (S : sv_S), sm_ok S → sv_R p1 → ((S 75 639) = 647340 ∧ 0 ≤ (S 74 639) ∧ (S 74 639) ≤ 400 ∧ -1 ≤ p1 ∧ p1 ≤ 1000) → (0 ≤ (639 : Int) ∧ (639 : Int) < 640) ∧ (sv_R (S 75 (639 : Int)) → (sv_R (S 74 (639 : Int)) → (sv_R ((((S 75 (639 : Int)) + (S 74 (639 : Int))) - (1 : Int)) - p1)) ∧ (((((S 75 (639 : Int)) + (S 74 (639 : Int))) - (1 : Int)) - p1) = 647339 + (S 74 639) - p1))) := by
  intro p1
  intro S
  intro h1_
  intro h2_
  rintro ⟨h3_, ⟨h4_, ⟨h5_, ⟨h6_, h7_⟩⟩⟩⟩
  refine ⟨la_fromTop_0, ?_⟩
  intro h8_
  intro h9_
  refine ⟨(la_fromTop_1 h3_ h4_ h5_ h6_ h7_), ?_⟩
  exact (la_fromTop_2 h3_)
set_option maxRecDepth 8000 in
set_option maxHeartbeats 2000000 in
theorem t_fromTop : ∀ (p1 : Int) (S : sv_S), sm_ok S → sv_R p1 → ((S 75 639) = 647340 ∧ 0 ≤ (S 74 639) ∧ (S 74 639) ≤ 400 ∧ -1 ≤ p1 ∧ p1 ≤ 1000) → sv_T sm_XS sm_cs sm_L sm_sh 0 (q_fromTop p1 S) 229 0 (lv_args 0 [.ref 0, sv_I p1]) [] S := by
  intro p1 S hok hp1 hpre
  have h := f_fromTop p1 S hok hp1 hpre
  have hM := sm_h229
  show sv_T sm_XS sm_cs sm_L sm_sh 0 (q_fromTop p1 S) 229 0 [(0, .ref 0), (1, sv_I p1)] [] S
  refine sv_aload_n hM dX12_fromTop_0 rfl rfl ?_
  refine sv_getA hM dX12_fromTop_1 sm_fl_238 (sm_a0 _) sm_k126 rfl ?_
  refine sv_sipush (d := (639 : Int)) hM dX12_fromTop_4 rfl rfl ?_
  obtain ⟨o1, h⟩ := h
  have k2 : sv_R (S 75 (639 : Int)) := sm_okI hok sm_r75 (639 : Int)
  have h := h k2
  refine sv_iald hM dX12_fromTop_7 (sm_a75 _) (by decide) o1.1 o1.2 rfl (x := (S 75 (639 : Int))) rfl ?_
  refine sv_aload_n hM dX12_fromTop_8 rfl rfl ?_
  refine sv_getA hM dX12_fromTop_9 sm_fl_235 (sm_a0 _) sm_k125 rfl ?_
  refine sv_sipush (d := (639 : Int)) hM dX12_fromTop_12 rfl rfl ?_
  have k3 : sv_R (S 74 (639 : Int)) := sm_okI hok sm_r74 (639 : Int)
  have h := h k3
  refine sv_iald hM dX12_fromTop_15 (sm_a74 _) (by decide) o1.1 o1.2 rfl (x := (S 74 (639 : Int))) rfl ?_
  refine sv_iadd hM dX12_fromTop_16 rfl ?_
  refine sv_iconst (d := (1 : Int)) hM dX12_fromTop_17 rfl rfl ?_
  refine sv_isub hM dX12_fromTop_18 rfl ?_
  refine sv_iload_n hM dX12_fromTop_19 rfl rfl ?_
  refine sv_isub hM dX12_fromTop_20 rfl ?_
  obtain ⟨o4, h⟩ := h
  exact sv_iret hM dX12_fromTop_21 rfl rfl ⟨((((S 75 (639 : Int)) + (S 74 (639 : Int))) - (1 : Int)) - p1), rfl, o4, hok, sv_mod.rf, h⟩
def q_pushSet (S : sv_S) : Option Value → sv_S → Prop := fun v S' => ∃ r : Int, v = some (sv_I r) ∧ sv_R r ∧ sm_ok S' ∧ sv_mod [68, 69, 70, 74] S S' ∧ (r = 647340 + (S 74 639) ∧ (S' 74 639) = (S 74 639) + 1 ∧ sm_F1 (S 74) (S' 74) 639 ∧ sm_pt (S' 68) (S' 69) (S' 70) = sm_pt (S 68) (S 69) (S 70))
theorem la_pushSet_0 : (0 : Int) ≤ 639 ∧ (639 : Int) < 640 := by omega
theorem la_pushSet_1 {x0 x1 x2 : Int} (h0 : x0 = 647340) (h1 : 0 ≤ x1) (h2 : x1 < 400) (h3 : x0 + x1 = x2) : sv_R x2 := by omega
theorem la_pushSet_2 {x0 x1 x2 : Int} (h0 : x0 = 647340) (h1 : 0 ≤ x1) (h2 : x1 < 400) (h3 : x0 + x1 = x2) : 0 ≤ x2 ∧ x2 < 647800 := by omega
theorem la_pushSet_3 {x0 x1 x2 : Int} (h0 : x0 = 647340) (h1 : 0 ≤ x1) (h2 : x0 + x1 = x2) : 635639 ≤ x2 := by omega
theorem la_pushSet_4 {x0 : Int} (h0 : 0 ≤ x0) (h1 : x0 < 400) : sv_R (x0 + 1) := by omega
theorem la_pushSet_5 {x0 x1 x2 : Int} (h0 : x0 = 647340) (h1 : x0 + x1 = x2) : x2 = 647340 + x1 := by omega
theorem la_pushSet_6 : (639 : Int) = 639 := by omega
set_option maxHeartbeats 2000000 in
theorem f_pushSet : ∀ (S : sv_S), sm_ok S → ((S 75 639) = 647340 ∧ 0 ≤ (S 74 639) ∧ (S 74 639) ≤ 400 ∧ (S 74 639) < 400) → (0 ≤ (639 : Int) ∧ (639 : Int) < 640) ∧ (sv_R (S 75 (639 : Int)) → (sv_R (S 74 (639 : Int)) → (∀ x4 : Int, ((S 75 (639 : Int)) + (S 74 (639 : Int))) = x4 → (sv_R x4) ∧ (0 ≤ x4 ∧ x4 < 647800) ∧ (∀ g8 : sv_S, (635639 ≤ x4 → sm_pt (g8 68) (g8 69) (g8 70) = sm_pt (S 68) (S 69) (S 70)) → (sv_R ((S 74 (639 : Int)) + (1 : Int))) ∧ (x4 = 647340 + (S 74 639) ∧ (if 639 = (639 : Int) then ((S 74 (639 : Int)) + (1 : Int)) else (S 74 639)) = (S 74 639) + 1 ∧ sm_F1 (S 74) (fun i' : Int => if i' = (639 : Int) then ((S 74 (639 : Int)) + (1 : Int)) else (S 74) i') 639 ∧ sm_pt (g8 68) (g8 69) (g8 70) = sm_pt (S 68) (S 69) (S 70)))))) := by
  intro S
  intro h1_
  rintro ⟨h2_, ⟨h3_, ⟨h4_, h5_⟩⟩⟩
  refine ⟨la_pushSet_0, ?_⟩
  intro h6_
  intro h7_
  intro x4
  intro h8_
  refine ⟨(la_pushSet_1 h2_ h3_ h5_ h8_), ?_⟩
  refine ⟨(la_pushSet_2 h2_ h3_ h5_ h8_), ?_⟩
  intro g8
  intro h9_
  have h10_ := (h9_ (la_pushSet_3 h2_ h3_ h8_))
  refine ⟨(la_pushSet_4 h3_ h5_), ?_⟩
  refine ⟨(la_pushSet_5 h2_ h8_), ?_⟩
  refine ⟨?_, ?_⟩
  · skip
    have e11_ : (if (639 : Int) = 639 then S 74 639 + 1 else S 74 639 : Int) = S 74 639 + 1 := if_pos la_pushSet_6
    exact e11_
  refine ⟨(sm_F1_up sm_F1_rf (Int.le_refl _)), ?_⟩
  exact h10_
set_option maxRecDepth 8000 in
set_option maxHeartbeats 2000000 in
theorem t_pushSet : ∀ (S : sv_S), sm_ok S → ((S 75 639) = 647340 ∧ 0 ≤ (S 74 639) ∧ (S 74 639) ≤ 400 ∧ (S 74 639) < 400) → sv_T sm_XS sm_cs sm_L sm_sh 1 (q_pushSet S) 230 0 (lv_args 0 [.ref 0]) [] S := by
  intro S hok hpre
  have h := f_pushSet S hok hpre
  have hM := sm_h230
  show sv_T sm_XS sm_cs sm_L sm_sh 1 (q_pushSet S) 230 0 [(0, .ref 0)] [] S
  refine sv_aload_n hM dX12_pushSet_0 rfl rfl ?_
  refine sv_getA hM dX12_pushSet_1 sm_fl_238 (sm_a0 _) sm_k126 rfl ?_
  refine sv_sipush (d := (639 : Int)) hM dX12_pushSet_4 rfl rfl ?_
  obtain ⟨o1, h⟩ := h
  have k2 : sv_R (S 75 (639 : Int)) := sm_okI hok sm_r75 (639 : Int)
  have h := h k2
  refine sv_iald hM dX12_pushSet_7 (sm_a75 _) (by decide) o1.1 o1.2 rfl (x := (S 75 (639 : Int))) rfl ?_
  refine sv_aload_n hM dX12_pushSet_8 rfl rfl ?_
  refine sv_getA hM dX12_pushSet_9 sm_fl_235 (sm_a0 _) sm_k125 rfl ?_
  refine sv_sipush (d := (639 : Int)) hM dX12_pushSet_12 rfl rfl ?_
  have k3 : sv_R (S 74 (639 : Int)) := sm_okI hok sm_r74 (639 : Int)
  have h := h k3
  refine sv_iald hM dX12_pushSet_15 (sm_a74 _) (by decide) o1.1 o1.2 rfl (x := (S 74 (639 : Int))) rfl ?_
  refine sv_iadd hM dX12_pushSet_16 rfl ?_
  obtain ⟨x4, e5⟩ : ∃ x : Int, ((S 75 (639 : Int)) + (S 74 (639 : Int))) = x := ⟨_, rfl⟩
  have h := h x4 e5
  refine sv_nameI e5 ?_
  refine sv_istore_n hM dX12_pushSet_17 (by decide) rfl ?_
  show sv_T sm_XS sm_cs sm_L sm_sh 1 (q_pushSet S) 230 18 [(0, .ref 0), (1, sv_I x4)] [] S
  refine sv_aload_n hM dX12_pushSet_18 rfl rfl ?_
  refine sv_iload_n hM dX12_pushSet_19 rfl rfl ?_
  obtain ⟨o6, h⟩ := h
  obtain ⟨o7, h⟩ := h
  refine sv_callV hM dX12_pushSet_20 sm_iv_1066 (by decide) (sm_a0 _) rfl rfl (Nat.le_of_ble_eq_true rfl) sm_h206 (Nat.le_of_ble_eq_true rfl) (Nat.le_of_ble_eq_true rfl) (F' := 0) (Nat.le_of_ble_eq_true rfl) rfl (t_empty x4 S hok o6 o7) (fun v S1 hq => ?_)
  obtain ⟨rfl, ok9, md10, hpo11⟩ := hq
  obtain ⟨g8, rfl⟩ : ∃ g, S1 = sv_sts S [68, 69, 70] g := ⟨_, md10.eq⟩
  show sv_T sm_XS sm_cs sm_L sm_sh 1 (q_pushSet S) 230 23 [(0, .ref 0), (1, sv_I x4)] [] (sv_sts S [68, 69, 70] g8)
  have md12 : sv_mod [68, 69, 70, 74] S (sv_sts S [68, 69, 70] g8) := sv_mod.sts sv_mod.rf (by decide)
  have h := h g8 hpo11
  refine sv_aload_n hM dX12_pushSet_23 rfl rfl ?_
  refine sv_getA hM dX12_pushSet_24 sm_fl_235 (sm_a0 _) sm_k125 rfl ?_
  refine sv_sipush (d := (639 : Int)) hM dX12_pushSet_27 rfl rfl ?_
  refine sv_dup2 hM dX12_pushSet_30 rfl ?_
  refine sv_iald hM dX12_pushSet_31 (sm_a74 _) (by decide) o1.1 o1.2 rfl (x := (S 74 (639 : Int))) rfl ?_
  refine sv_iconst (d := (1 : Int)) hM dX12_pushSet_32 rfl rfl ?_
  refine sv_iadd hM dX12_pushSet_33 rfl ?_
  obtain ⟨o13, h⟩ := h
  refine sv_iast sm_X hM dX12_pushSet_34 (sm_a74 _) (by decide) o1.1 o1.2 rfl ?_
  have ok14 : sm_ok (sv_up (sv_sts S [68, 69, 70] g8) 74 (639 : Int) ((S 74 (639 : Int)) + (1 : Int))) := sm_upI ok9 sm_r74 o13
  have md15 : sv_mod [68, 69, 70, 74] S (sv_up (sv_sts S [68, 69, 70] g8) 74 (639 : Int) ((S 74 (639 : Int)) + (1 : Int))) := sv_mod.up md12 (by decide)
  refine sv_iload_n hM dX12_pushSet_35 rfl rfl ?_
  exact sv_iret hM dX12_pushSet_36 rfl rfl ⟨x4, rfl, o6, ok14, md15, h⟩
def q_isFunctionLabel (p1 : Int) (S : sv_S) : Option Value → sv_S → Prop := fun v S' => ∃ r : Int, v = some (sv_I r) ∧ sv_R r ∧ sm_ok S' ∧ sv_mod [] S S' ∧ ((r = 0 ∨ r = 1) ∧ (r = 1 → p1 < 29 + 6 * ((S' 1032 0) - 1)))
theorem la_isFunctionLabel_0 {x0 x1 : Int} (h0 : 1 ≤ x0) (h1 : x0 ≤ 11) : x1 < 9 → (x1 < 29 → ((0 : Int) = 0 ∨ (0 : Int) = 1) ∧ ((0 : Int) = 1 → x1 < 29 + 6 * (x0 - 1))) ∧ (¬ x1 < 29 → sv_R x0 → sv_R (29 + 6 * (x0 - 1)) ∧ (29 + 6 * (x0 - 1) ≤ x1 → ((0 : Int) = 0 ∨ (0 : Int) = 1) ∧ ((0 : Int) = 1 → x1 < 29 + 6 * (x0 - 1))) ∧ (¬ 29 + 6 * (x0 - 1) ≤ x1 → (0 ≤ x1 - 29 ∧ x1 - 29 ≤ 2147483647) ∧ ((0 : Int) < 6 ∧ (6 : Int) ≤ 2147483647) ∧ sv_R ((x1 - 29) % 6) ∧ ((x1 - 29) % 6 = 2 → ((1 : Int) = 0 ∨ (1 : Int) = 1) ∧ ((1 : Int) = 1 → x1 < 29 + 6 * (x0 - 1))) ∧ (¬ (x1 - 29) % 6 = 2 → (¬ (x1 - 29) % 6 = 3 → ((0 : Int) = 0 ∨ (0 : Int) = 1) ∧ ((0 : Int) = 1 → x1 < 29 + 6 * (x0 - 1))) ∧ (¬ ¬ (x1 - 29) % 6 = 3 → ((1 : Int) = 0 ∨ (1 : Int) = 1) ∧ ((1 : Int) = 1 → x1 < 29 + 6 * (x0 - 1)))))) := by omega
theorem la_isFunctionLabel_1 {x0 x1 : Int} (h0 : 1 ≤ x0) : x1 < 23 → ((1 : Int) = 0 ∨ (1 : Int) = 1) ∧ ((1 : Int) = 1 → x1 < 29 + 6 * (x0 - 1)) := by omega
theorem la_isFunctionLabel_2 {x0 x1 : Int} : x0 < 29 → ((0 : Int) = 0 ∨ (0 : Int) = 1) ∧ ((0 : Int) = 1 → x0 < 29 + 6 * (x1 - 1)) := by omega
theorem la_isFunctionLabel_3 {x0 : Int} (h0 : 1 ≤ x0) (h1 : x0 ≤ 11) : sv_R (29 + 6 * (x0 - 1)) := by omega
theorem la_isFunctionLabel_4 {x0 x1 : Int} : 29 + 6 * (x0 - 1) ≤ x1 → ((0 : Int) = 0 ∨ (0 : Int) = 1) ∧ ((0 : Int) = 1 → x1 < 29 + 6 * (x0 - 1)) := by omega
theorem la_isFunctionLabel_5 {x0 : Int} (h0 : x0 ≤ 200) (h1 : ¬ x0 < 29) : 0 ≤ x0 - 29 ∧ x0 - 29 ≤ 2147483647 := by omega
theorem la_isFunctionLabel_6 : (0 : Int) < 6 ∧ (6 : Int) ≤ 2147483647 := by omega
theorem la_isFunctionLabel_7 {x0 : Int} : sv_R ((x0 - 29) % 6) := by omega
theorem la_isFunctionLabel_8 {x0 x1 : Int} (h0 : ¬ 29 + 6 * (x0 - 1) ≤ x1) : (x1 - 29) % 6 = 2 → ((1 : Int) = 0 ∨ (1 : Int) = 1) ∧ ((1 : Int) = 1 → x1 < 29 + 6 * (x0 - 1)) := by omega
theorem la_isFunctionLabel_9 {x0 x1 : Int} : ¬ (x0 - 29) % 6 = 3 → ((0 : Int) = 0 ∨ (0 : Int) = 1) ∧ ((0 : Int) = 1 → x0 < 29 + 6 * (x1 - 1)) := by omega
theorem la_isFunctionLabel_10 {x0 : Int} (h0 : ¬ ¬ (x0 - 29) % 6 = 3) : 2 ≤ (x0 - 29) % 6 := by omega
theorem la_isFunctionLabel_11 {x0 : Int} (h0 : 2 ≤ (x0 - 29) % 6) (h1 : ¬ (x0 - 29) % 6 = 2) : 2 < (x0 - 29) % 6 := by omega
theorem la_isFunctionLabel_12 : (1 : Int) = 0 ∨ (1 : Int) = 1 := by omega
theorem la_isFunctionLabel_13 {x0 x1 : Int} (h0 : ¬ 29 + 6 * (x0 - 1) ≤ x1) : x1 < 29 + 6 * (x0 - 1) := by omega
set_option maxHeartbeats 2000000 in
theorem f_isFunctionLabel : ∀ (p1 : Int) (S : sv_S), sm_ok S → sv_R p1 → (1 ≤ (S 1032 0) ∧ (S 1032 0) ≤ 11 ∧ 0 ≤ p1 ∧ p1 ≤ 200) → (((p1 < (9 : Int)) → (((p1 < (29 : Int)) → (((0 : Int) = 0 ∨ (0 : Int) = 1) ∧ ((0 : Int) = 1 → p1 < 29 + 6 * ((S 1032 0) - 1)))) ∧ ((¬ (p1 < (29 : Int))) → (sv_R (S 1032 0) → (sv_R ((29 : Int) + ((6 : Int) * ((S 1032 0) - (1 : Int))))) ∧ (((((29 : Int) + ((6 : Int) * ((S 1032 0) - (1 : Int)))) ≤ p1) → (((0 : Int) = 0 ∨ (0 : Int) = 1) ∧ ((0 : Int) = 1 → p1 < 29 + 6 * ((S 1032 0) - 1)))) ∧ ((¬ (((29 : Int) + ((6 : Int) * ((S 1032 0) - (1 : Int)))) ≤ p1)) → (0 ≤ (p1 - (29 : Int)) ∧ (p1 - (29 : Int)) ≤ 2147483647) ∧ (0 < (6 : Int) ∧ (6 : Int) ≤ 2147483647) ∧ (sv_R ((p1 - (29 : Int)) % (6 : Int))) ∧ (((((p1 - (29 : Int)) % (6 : Int)) = (2 : Int)) → (((1 : Int) = 0 ∨ (1 : Int) = 1) ∧ ((1 : Int) = 1 → p1 < 29 + 6 * ((S 1032 0) - 1)))) ∧ ((¬ (((p1 - (29 : Int)) % (6 : Int)) = (2 : Int))) → (((¬ ((p1 - (29 : Int)) % (6 : Int)) = (3 : Int)) → (((0 : Int) = 0 ∨ (0 : Int) = 1) ∧ ((0 : Int) = 1 → p1 < 29 + 6 * ((S 1032 0) - 1)))) ∧ ((¬ (¬ ((p1 - (29 : Int)) % (6 : Int)) = (3 : Int))) → (((1 : Int) = 0 ∨ (1 : Int) = 1) ∧ ((1 : Int) = 1 → p1 < 29 + 6 * ((S 1032 0) - 1))))))))))))) ∧ ((¬ (p1 < (9 : Int))) → (((p1 < (23 : Int)) → (((1 : Int) = 0 ∨ (1 : Int) = 1) ∧ ((1 : Int) = 1 → p1 < 29 + 6 * ((S 1032 0) - 1)))) ∧ ((¬ (p1 < (23 : Int))) → (((p1 < (29 : Int)) → (((0 : Int) = 0 ∨ (0 : Int) = 1) ∧ ((0 : Int) = 1 → p1 < 29 + 6 * ((S 1032 0) - 1)))) ∧ ((¬ (p1 < (29 : Int))) → (sv_R (S 1032 0) → (sv_R ((29 : Int) + ((6 : Int) * ((S 1032 0) - (1 : Int))))) ∧ (((((29 : Int) + ((6 : Int) * ((S 1032 0) - (1 : Int)))) ≤ p1) → (((0 : Int) = 0 ∨ (0 : Int) = 1) ∧ ((0 : Int) = 1 → p1 < 29 + 6 * ((S 1032 0) - 1)))) ∧ ((¬ (((29 : Int) + ((6 : Int) * ((S 1032 0) - (1 : Int)))) ≤ p1)) → (0 ≤ (p1 - (29 : Int)) ∧ (p1 - (29 : Int)) ≤ 2147483647) ∧ (0 < (6 : Int) ∧ (6 : Int) ≤ 2147483647) ∧ (sv_R ((p1 - (29 : Int)) % (6 : Int))) ∧ (((((p1 - (29 : Int)) % (6 : Int)) = (2 : Int)) → (((1 : Int) = 0 ∨ (1 : Int) = 1) ∧ ((1 : Int) = 1 → p1 < 29 + 6 * ((S 1032 0) - 1)))) ∧ ((¬ (((p1 - (29 : Int)) % (6 : Int)) = (2 : Int))) → (((¬ ((p1 - (29 : Int)) % (6 : Int)) = (3 : Int)) → (((0 : Int) = 0 ∨ (0 : Int) = 1) ∧ ((0 : Int) = 1 → p1 < 29 + 6 * ((S 1032 0) - 1)))) ∧ ((¬ (¬ ((p1 - (29 : Int)) % (6 : Int)) = (3 : Int))) → (((1 : Int) = 0 ∨ (1 : Int) = 1) ∧ ((1 : Int) = 1 → p1 < 29 + 6 * ((S 1032 0) - 1)))))))))))))))) := by
  intro p1
  intro S
  intro h1_
  intro h2_
  rintro ⟨h3_, ⟨h4_, ⟨h5_, h6_⟩⟩⟩
  refine ⟨(la_isFunctionLabel_0 h3_ h4_), ?_⟩
  intro h7_
  refine ⟨(la_isFunctionLabel_1 h3_), ?_⟩
  intro h8_
  refine ⟨la_isFunctionLabel_2, ?_⟩
  intro h9_
  intro h10_
  refine ⟨(la_isFunctionLabel_3 h3_ h4_), ?_⟩
  refine ⟨la_isFunctionLabel_4, ?_⟩
  intro h11_
  refine ⟨(la_isFunctionLabel_5 h6_ h9_), ?_⟩
  refine ⟨la_isFunctionLabel_6, ?_⟩
  refine ⟨la_isFunctionLabel_7, ?_⟩
  refine ⟨(la_isFunctionLabel_8 h11_), ?_⟩
  intro h12_
  refine ⟨la_isFunctionLabel_9, ?_⟩
  intro h13_
  refine ⟨la_isFunctionLabel_12, ?_⟩
  intro h14_
  exact (la_isFunctionLabel_13 h11_)
set_option maxRecDepth 8000 in
set_option maxHeartbeats 2000000 in
theorem t_isFunctionLabel : ∀ (p1 : Int) (S : sv_S), sm_ok S → sv_R p1 → (1 ≤ (S 1032 0) ∧ (S 1032 0) ≤ 11 ∧ 0 ≤ p1 ∧ p1 ≤ 200) → sv_T sm_XS sm_cs sm_L sm_sh 0 (q_isFunctionLabel p1 S) 237 0 (lv_args 0 [.ref 0, sv_I p1]) [] S := by
  intro p1 S hok hp1 hpre
  have h := f_isFunctionLabel p1 S hok hp1 hpre
  have hM := sm_h237
  show sv_T sm_XS sm_cs sm_L sm_sh 0 (q_isFunctionLabel p1 S) 237 0 [(0, .ref 0), (1, sv_I p1)] [] S
  refine sv_iload_n hM dX12_isFunctionLabel_0 rfl rfl ?_
  refine sv_bipush (d := (9 : Int)) hM dX12_isFunctionLabel_1 rfl rfl ?_
  refine sv_icmp_lt hM dX12_isFunctionLabel_3 hp1 (⟨by decide, by decide⟩ : sv_R (9 : Int)) (t := 12) rfl rfl (fun hc => ?_) (fun hc => ?_)
  · have h := h.1 (hc)
    refine sv_iload_n hM dX12_isFunctionLabel_12 rfl rfl ?_
    refine sv_bipush (d := (29 : Int)) hM dX12_isFunctionLabel_13 rfl rfl ?_
    refine sv_icmp_lt hM dX12_isFunctionLabel_15 hp1 (⟨by decide, by decide⟩ : sv_R (29 : Int)) (t := 60) rfl rfl (fun hc => ?_) (fun hc => ?_)
    · have h := h.1 (hc)
      refine sv_iconst (d := (0 : Int)) hM dX12_isFunctionLabel_60 rfl rfl ?_
      exact sv_iret hM dX12_isFunctionLabel_61 rfl (sv_nz (⟨by decide, by decide⟩ : 0 ≤ (0 : Int) ∧ (0 : Int) ≤ 1)) ⟨(0 : Int), rfl, sv_R01 (⟨by decide, by decide⟩ : 0 ≤ (0 : Int) ∧ (0 : Int) ≤ 1), hok, sv_mod.rf, h⟩
    · have h := h.2 (hc)
      refine sv_iload_n hM dX12_isFunctionLabel_18 rfl rfl ?_
      refine sv_bipush (d := (29 : Int)) hM dX12_isFunctionLabel_19 rfl rfl ?_
      refine sv_bipush (d := (6 : Int)) hM dX12_isFunctionLabel_21 rfl rfl ?_
      refine sv_aload_n hM dX12_isFunctionLabel_23 rfl rfl ?_
      have k1 : sv_R (S 1032 0) := sm_okI hok sm_r1032 0
      have h := h k1
      refine sv_getI hM dX12_isFunctionLabel_24 sm_fl_527 (sm_a0 _) sm_k32 rfl (x := (S 1032 0)) rfl ?_
      refine sv_iconst (d := (1 : Int)) hM dX12_isFunctionLabel_27 rfl rfl ?_
      refine sv_isub hM dX12_isFunctionLabel_28 rfl ?_
      refine sv_imul hM dX12_isFunctionLabel_29 rfl ?_
      refine sv_iadd hM dX12_isFunctionLabel_30 rfl ?_
      obtain ⟨o2, h⟩ := h
      refine sv_icmp_ge hM dX12_isFunctionLabel_31 hp1 o2 (t := 60) rfl rfl (fun hc => ?_) (fun hc => ?_)
      · have h := h.1 (hc)
        refine sv_iconst (d := (0 : Int)) hM dX12_isFunctionLabel_60 rfl rfl ?_
        exact sv_iret hM dX12_isFunctionLabel_61 rfl (sv_nz (⟨by decide, by decide⟩ : 0 ≤ (0 : Int) ∧ (0 : Int) ≤ 1)) ⟨(0 : Int), rfl, sv_R01 (⟨by decide, by decide⟩ : 0 ≤ (0 : Int) ∧ (0 : Int) ≤ 1), hok, sv_mod.rf, h⟩
      · have h := h.2 (hc)
        refine sv_iload_n hM dX12_isFunctionLabel_34 rfl rfl ?_
        refine sv_bipush (d := (29 : Int)) hM dX12_isFunctionLabel_35 rfl rfl ?_
        refine sv_isub hM dX12_isFunctionLabel_37 rfl ?_
        refine sv_bipush (d := (6 : Int)) hM dX12_isFunctionLabel_38 rfl rfl ?_
        obtain ⟨o3, h⟩ := h
        obtain ⟨o4, h⟩ := h
        refine sv_irem hM dX12_isFunctionLabel_40 o3 o4 rfl ?_
        refine sv_iconst (d := (2 : Int)) hM dX12_isFunctionLabel_41 rfl rfl ?_
        obtain ⟨o5, h⟩ := h
        refine sv_icmp_eq hM dX12_isFunctionLabel_42 o5 (⟨by decide, by decide⟩ : sv_R (2 : Int)) (t := 56) rfl rfl (fun hc => ?_) (fun hc => ?_)
        · have h := h.1 (hc)
          refine sv_iconst (d := (1 : Int)) hM dX12_isFunctionLabel_56 rfl rfl ?_
          refine sv_goto hM dX12_isFunctionLabel_57 (pc' := 61) rfl ?_
          exact sv_iret hM dX12_isFunctionLabel_61 rfl (sv_nz (⟨by decide, by decide⟩ : 0 ≤ (1 : Int) ∧ (1 : Int) ≤ 1)) ⟨(1 : Int), rfl, sv_R01 (⟨by decide, by decide⟩ : 0 ≤ (1 : Int) ∧ (1 : Int) ≤ 1), hok, sv_mod.rf, h⟩
        · have h := h.2 (hc)
          refine sv_iload_n hM dX12_isFunctionLabel_45 rfl rfl ?_
          refine sv_bipush (d := (29 : Int)) hM dX12_isFunctionLabel_46 rfl rfl ?_
          refine sv_isub hM dX12_isFunctionLabel_48 rfl ?_
          refine sv_bipush (d := (6 : Int)) hM dX12_isFunctionLabel_49 rfl rfl ?_
          refine sv_irem hM dX12_isFunctionLabel_51 o3 o4 rfl ?_
          refine sv_iconst (d := (3 : Int)) hM dX12_isFunctionLabel_52 rfl rfl ?_
          refine sv_icmp_ne hM dX12_isFunctionLabel_53 o5 (⟨by decide, by decide⟩ : sv_R (3 : Int)) (t := 60) rfl rfl (fun hc => ?_) (fun hc => ?_)
          · have h := h.1 (hc)
            refine sv_iconst (d := (0 : Int)) hM dX12_isFunctionLabel_60 rfl rfl ?_
            exact sv_iret hM dX12_isFunctionLabel_61 rfl (sv_nz (⟨by decide, by decide⟩ : 0 ≤ (0 : Int) ∧ (0 : Int) ≤ 1)) ⟨(0 : Int), rfl, sv_R01 (⟨by decide, by decide⟩ : 0 ≤ (0 : Int) ∧ (0 : Int) ≤ 1), hok, sv_mod.rf, h⟩
          · have h := h.2 (hc)
            refine sv_iconst (d := (1 : Int)) hM dX12_isFunctionLabel_56 rfl rfl ?_
            refine sv_goto hM dX12_isFunctionLabel_57 (pc' := 61) rfl ?_
            exact sv_iret hM dX12_isFunctionLabel_61 rfl (sv_nz (⟨by decide, by decide⟩ : 0 ≤ (1 : Int) ∧ (1 : Int) ≤ 1)) ⟨(1 : Int), rfl, sv_R01 (⟨by decide, by decide⟩ : 0 ≤ (1 : Int) ∧ (1 : Int) ≤ 1), hok, sv_mod.rf, h⟩
  · have h := h.2 (hc)
    refine sv_iload_n hM dX12_isFunctionLabel_6 rfl rfl ?_
    refine sv_bipush (d := (23 : Int)) hM dX12_isFunctionLabel_7 rfl rfl ?_
    refine sv_icmp_lt hM dX12_isFunctionLabel_9 hp1 (⟨by decide, by decide⟩ : sv_R (23 : Int)) (t := 56) rfl rfl (fun hc => ?_) (fun hc => ?_)
    · have h := h.1 (hc)
      refine sv_iconst (d := (1 : Int)) hM dX12_isFunctionLabel_56 rfl rfl ?_
      refine sv_goto hM dX12_isFunctionLabel_57 (pc' := 61) rfl ?_
      exact sv_iret hM dX12_isFunctionLabel_61 rfl (sv_nz (⟨by decide, by decide⟩ : 0 ≤ (1 : Int) ∧ (1 : Int) ≤ 1)) ⟨(1 : Int), rfl, sv_R01 (⟨by decide, by decide⟩ : 0 ≤ (1 : Int) ∧ (1 : Int) ≤ 1), hok, sv_mod.rf, h⟩
    · have h := h.2 (hc)
      refine sv_iload_n hM dX12_isFunctionLabel_12 rfl rfl ?_
      refine sv_bipush (d := (29 : Int)) hM dX12_isFunctionLabel_13 rfl rfl ?_
      refine sv_icmp_lt hM dX12_isFunctionLabel_15 hp1 (⟨by decide, by decide⟩ : sv_R (29 : Int)) (t := 60) rfl rfl (fun hc => ?_) (fun hc => ?_)
      · have h := h.1 (hc)
        refine sv_iconst (d := (0 : Int)) hM dX12_isFunctionLabel_60 rfl rfl ?_
        exact sv_iret hM dX12_isFunctionLabel_61 rfl (sv_nz (⟨by decide, by decide⟩ : 0 ≤ (0 : Int) ∧ (0 : Int) ≤ 1)) ⟨(0 : Int), rfl, sv_R01 (⟨by decide, by decide⟩ : 0 ≤ (0 : Int) ∧ (0 : Int) ≤ 1), hok, sv_mod.rf, h⟩
      · have h := h.2 (hc)
        refine sv_iload_n hM dX12_isFunctionLabel_18 rfl rfl ?_
        refine sv_bipush (d := (29 : Int)) hM dX12_isFunctionLabel_19 rfl rfl ?_
        refine sv_bipush (d := (6 : Int)) hM dX12_isFunctionLabel_21 rfl rfl ?_
        refine sv_aload_n hM dX12_isFunctionLabel_23 rfl rfl ?_
        have k6 : sv_R (S 1032 0) := sm_okI hok sm_r1032 0
        have h := h k6
        refine sv_getI hM dX12_isFunctionLabel_24 sm_fl_527 (sm_a0 _) sm_k32 rfl (x := (S 1032 0)) rfl ?_
        refine sv_iconst (d := (1 : Int)) hM dX12_isFunctionLabel_27 rfl rfl ?_
        refine sv_isub hM dX12_isFunctionLabel_28 rfl ?_
        refine sv_imul hM dX12_isFunctionLabel_29 rfl ?_
        refine sv_iadd hM dX12_isFunctionLabel_30 rfl ?_
        obtain ⟨o7, h⟩ := h
        refine sv_icmp_ge hM dX12_isFunctionLabel_31 hp1 o7 (t := 60) rfl rfl (fun hc => ?_) (fun hc => ?_)
        · have h := h.1 (hc)
          refine sv_iconst (d := (0 : Int)) hM dX12_isFunctionLabel_60 rfl rfl ?_
          exact sv_iret hM dX12_isFunctionLabel_61 rfl (sv_nz (⟨by decide, by decide⟩ : 0 ≤ (0 : Int) ∧ (0 : Int) ≤ 1)) ⟨(0 : Int), rfl, sv_R01 (⟨by decide, by decide⟩ : 0 ≤ (0 : Int) ∧ (0 : Int) ≤ 1), hok, sv_mod.rf, h⟩
        · have h := h.2 (hc)
          refine sv_iload_n hM dX12_isFunctionLabel_34 rfl rfl ?_
          refine sv_bipush (d := (29 : Int)) hM dX12_isFunctionLabel_35 rfl rfl ?_
          refine sv_isub hM dX12_isFunctionLabel_37 rfl ?_
          refine sv_bipush (d := (6 : Int)) hM dX12_isFunctionLabel_38 rfl rfl ?_
          obtain ⟨o8, h⟩ := h
          obtain ⟨o9, h⟩ := h
          refine sv_irem hM dX12_isFunctionLabel_40 o8 o9 rfl ?_
          refine sv_iconst (d := (2 : Int)) hM dX12_isFunctionLabel_41 rfl rfl ?_
          obtain ⟨o10, h⟩ := h
          refine sv_icmp_eq hM dX12_isFunctionLabel_42 o10 (⟨by decide, by decide⟩ : sv_R (2 : Int)) (t := 56) rfl rfl (fun hc => ?_) (fun hc => ?_)
          · have h := h.1 (hc)
            refine sv_iconst (d := (1 : Int)) hM dX12_isFunctionLabel_56 rfl rfl ?_
            refine sv_goto hM dX12_isFunctionLabel_57 (pc' := 61) rfl ?_
            exact sv_iret hM dX12_isFunctionLabel_61 rfl (sv_nz (⟨by decide, by decide⟩ : 0 ≤ (1 : Int) ∧ (1 : Int) ≤ 1)) ⟨(1 : Int), rfl, sv_R01 (⟨by decide, by decide⟩ : 0 ≤ (1 : Int) ∧ (1 : Int) ≤ 1), hok, sv_mod.rf, h⟩
          · have h := h.2 (hc)
            refine sv_iload_n hM dX12_isFunctionLabel_45 rfl rfl ?_
            refine sv_bipush (d := (29 : Int)) hM dX12_isFunctionLabel_46 rfl rfl ?_
            refine sv_isub hM dX12_isFunctionLabel_48 rfl ?_
            refine sv_bipush (d := (6 : Int)) hM dX12_isFunctionLabel_49 rfl rfl ?_
            refine sv_irem hM dX12_isFunctionLabel_51 o8 o9 rfl ?_
            refine sv_iconst (d := (3 : Int)) hM dX12_isFunctionLabel_52 rfl rfl ?_
            refine sv_icmp_ne hM dX12_isFunctionLabel_53 o10 (⟨by decide, by decide⟩ : sv_R (3 : Int)) (t := 60) rfl rfl (fun hc => ?_) (fun hc => ?_)
            · have h := h.1 (hc)
              refine sv_iconst (d := (0 : Int)) hM dX12_isFunctionLabel_60 rfl rfl ?_
              exact sv_iret hM dX12_isFunctionLabel_61 rfl (sv_nz (⟨by decide, by decide⟩ : 0 ≤ (0 : Int) ∧ (0 : Int) ≤ 1)) ⟨(0 : Int), rfl, sv_R01 (⟨by decide, by decide⟩ : 0 ≤ (0 : Int) ∧ (0 : Int) ≤ 1), hok, sv_mod.rf, h⟩
            · have h := h.2 (hc)
              refine sv_iconst (d := (1 : Int)) hM dX12_isFunctionLabel_56 rfl rfl ?_
              refine sv_goto hM dX12_isFunctionLabel_57 (pc' := 61) rfl ?_
              exact sv_iret hM dX12_isFunctionLabel_61 rfl (sv_nz (⟨by decide, by decide⟩ : 0 ≤ (1 : Int) ∧ (1 : Int) ≤ 1)) ⟨(1 : Int), rfl, sv_R01 (⟨by decide, by decide⟩ : 0 ≤ (1 : Int) ∧ (1 : Int) ≤ 1), hok, sv_mod.rf, h⟩
def q_codeOfLabel (p1 : Int) (S : sv_S) : Option Value → sv_S → Prop := fun v S' => ∃ r : Int, v = some (sv_I r) ∧ sv_R r ∧ sm_ok S' ∧ sv_mod [] S S' ∧ (0 ≤ r ∧ r < (S' 1032 0))
theorem la_codeOfLabel_0 {x0 x1 : Int} (h0 : 1 ≤ x0) : x1 < 29 → (0 : Int) ≤ 0 ∧ 0 < x0 := by omega
theorem la_codeOfLabel_1 {x0 x1 : Int} (h0 : 1 ≤ x0) (h1 : x0 ≤ 11) (h2 : x1 ≤ 200) (h3 : ¬ x1 < 29) : 1 ≤ x0 ∧ x0 ≤ 11 ∧ 0 ≤ x1 ∧ x1 ≤ 200 := by omega
theorem la_codeOfLabel_2 {x0 x1 : Int} (h0 : 1 ≤ x0) : x1 = 0 → (0 : Int) ≤ 0 ∧ 0 < x0 := by omega
theorem la_codeOfLabel_3 {x0 : Int} (h0 : x0 = 1) : 0 ≤ x0 := by omega
theorem la_codeOfLabel_4 {x0 : Int} (h0 : 0 ≤ x0) (h1 : ¬ x0 = 0) : 0 < x0 := by omega
theorem la_codeOfLabel_5 {x0 : Int} (h0 : x0 ≤ 200) (h1 : ¬ x0 < 29) : 0 ≤ x0 - 29 ∧ x0 - 29 ≤ 2147483647 := by omega
theorem la_codeOfLabel_6 : (0 : Int) < 6 ∧ (6 : Int) ≤ 2147483647 := by omega
theorem la_codeOfLabel_7 {x0 : Int} (h0 : x0 ≤ 200) (h1 : ¬ x0 < 29) : sv_R (1 + (x0 - 29) / 6) := by omega
theorem la_codeOfLabel_8 {x0 : Int} (h0 : ¬ x0 < 29) : 0 ≤ 1 + (x0 - 29) / 6 := by omega
theorem la_codeOfLabel_9 {x0 x1 : Int} (h0 : x0 < 29 + 6 * (x1 - 1)) : 1 + (x0 - 29) / 6 < x1 := by omega
set_option maxHeartbeats 2000000 in
theorem f_codeOfLabel : ∀ (p1 : Int) (S : sv_S), sm_ok S → sv_R p1 → (1 ≤ (S 1032 0) ∧ (S 1032 0) ≤ 11 ∧ 0 ≤ p1 ∧ p1 ≤ 200) → (((p1 < (29 : Int)) → (0 ≤ (0 : Int) ∧ (0 : Int) < (S 1032 0))) ∧ ((¬ (p1 < (29 : Int))) → (1 ≤ (S 1032 0) ∧ (S 1032 0) ≤ 11 ∧ 0 ≤ p1 ∧ p1 ≤ 200) ∧ (∀ r6 : Int, sv_R r6 → ((r6 = 0 ∨ r6 = 1) ∧ (r6 = 1 → p1 < 29 + 6 * ((S 1032 0) - 1))) → (((r6 = (0 : Int)) → (0 ≤ (0 : Int) ∧ (0 : Int) < (S 1032 0))) ∧ ((¬ (r6 = (0 : Int))) → (0 ≤ (p1 - (29 : Int)) ∧ (p1 - (29 : Int)) ≤ 2147483647) ∧ (0 < (6 : Int) ∧ (6 : Int) ≤ 2147483647) ∧ (sv_R ((1 : Int) + ((p1 - (29 : Int)) / (6 : Int)))) ∧ (0 ≤ ((1 : Int) + ((p1 - (29 : Int)) / (6 : Int))) ∧ ((1 : Int) + ((p1 - (29 : Int)) / (6 : Int))) < (S 1032 0))))))) := by
  intro p1
  intro S
  intro h1_
  intro h2_
  rintro ⟨h3_, ⟨h4_, ⟨h5_, h6_⟩⟩⟩
  refine ⟨(la_codeOfLabel_0 h3_), ?_⟩
  intro h7_
  refine ⟨(la_codeOfLabel_1 h3_ h4_ h6_ h7_), ?_⟩
  intro r6
  intro h8_
  rintro ⟨h9_, h10_⟩
  refine ⟨(la_codeOfLabel_2 h3_), ?_⟩
  intro h11_
  have h12_ := (h9_.resolve_left h11_)
  have h13_ := (h10_ h12_)
  refine ⟨(la_codeOfLabel_5 h6_ h7_), ?_⟩
  refine ⟨la_codeOfLabel_6, ?_⟩
  refine ⟨(la_codeOfLabel_7 h6_ h7_), ?_⟩
  refine ⟨(la_codeOfLabel_8 h7_), ?_⟩
  exact (la_codeOfLabel_9 h13_)
set_option maxRecDepth 8000 in
set_option maxHeartbeats 2000000 in
theorem t_codeOfLabel : ∀ (p1 : Int) (S : sv_S), sm_ok S → sv_R p1 → (1 ≤ (S 1032 0) ∧ (S 1032 0) ≤ 11 ∧ 0 ≤ p1 ∧ p1 ≤ 200) → sv_T sm_XS sm_cs sm_L sm_sh 1 (q_codeOfLabel p1 S) 238 0 (lv_args 0 [.ref 0, sv_I p1]) [] S := by
  intro p1 S hok hp1 hpre
  have h := f_codeOfLabel p1 S hok hp1 hpre
  have hM := sm_h238
  show sv_T sm_XS sm_cs sm_L sm_sh 1 (q_codeOfLabel p1 S) 238 0 [(0, .ref 0), (1, sv_I p1)] [] S
  refine sv_iload_n hM dX12_codeOfLabel_0 rfl rfl ?_
  refine sv_bipush (d := (29 : Int)) hM dX12_codeOfLabel_1 rfl rfl ?_
  refine sv_icmp_lt hM dX12_codeOfLabel_3 hp1 (⟨by decide, by decide⟩ : sv_R (29 : Int)) (t := 26) rfl rfl (fun hc => ?_) (fun hc => ?_)
  · have h := h.1 (hc)
    refine sv_iconst (d := (0 : Int)) hM dX12_codeOfLabel_26 rfl rfl ?_
    exact sv_iret hM dX12_codeOfLabel_27 rfl rfl ⟨(0 : Int), rfl, (⟨by decide, by decide⟩ : sv_R (0 : Int)), hok, sv_mod.rf, h⟩
  · have h := h.2 (hc)
    refine sv_aload_n hM dX12_codeOfLabel_6 rfl rfl ?_
    refine sv_iload_n hM dX12_codeOfLabel_7 rfl rfl ?_
    obtain ⟨o1, h⟩ := h
    refine sv_callV hM dX12_codeOfLabel_8 sm_iv_1115 (by decide) (sm_a0 _) rfl rfl (Nat.le_of_ble_eq_true rfl) sm_h237 (Nat.le_of_ble_eq_true rfl) (Nat.le_of_ble_eq_true rfl) (F' := 0) (Nat.le_of_ble_eq_true rfl) rfl (t_isFunctionLabel p1 S hok hp1 o1) (fun v S1 hq => ?_)
    obtain ⟨r6, rfl, hr6, ok3, md4, hpo5⟩ := hq
    obtain rfl : S = S1 := (funext fun j => md4 j (by intro q; cases q)).symm
    show sv_T sm_XS sm_cs sm_L sm_sh 1 (q_codeOfLabel p1 S) 238 11 [(0, .ref 0), (1, sv_I p1)] [sv_I r6] S
    have h := h r6 hr6 hpo5
    refine sv_cond_eq hM dX12_codeOfLabel_11 hr6 (t := 26) rfl rfl (fun hc => ?_) (fun hc => ?_)
    · have h := h.1 (hc)
      refine sv_iconst (d := (0 : Int)) hM dX12_codeOfLabel_26 rfl rfl ?_
      exact sv_iret hM dX12_codeOfLabel_27 rfl rfl ⟨(0 : Int), rfl, (⟨by decide, by decide⟩ : sv_R (0 : Int)), ok3, sv_mod.rf, h⟩
    · have h := h.2 (hc)
      refine sv_iconst (d := (1 : Int)) hM dX12_codeOfLabel_14 rfl rfl ?_
      refine sv_iload_n hM dX12_codeOfLabel_15 rfl rfl ?_
      refine sv_bipush (d := (29 : Int)) hM dX12_codeOfLabel_16 rfl rfl ?_
      refine sv_isub hM dX12_codeOfLabel_18 rfl ?_
      refine sv_bipush (d := (6 : Int)) hM dX12_codeOfLabel_19 rfl rfl ?_
      obtain ⟨o7, h⟩ := h
      obtain ⟨o8, h⟩ := h
      refine sv_idiv hM dX12_codeOfLabel_21 o7 o8 rfl ?_
      refine sv_iadd hM dX12_codeOfLabel_22 rfl ?_
      refine sv_goto hM dX12_codeOfLabel_23 (pc' := 27) rfl ?_
      obtain ⟨o9, h⟩ := h
      exact sv_iret hM dX12_codeOfLabel_27 rfl rfl ⟨((1 : Int) + ((p1 - (29 : Int)) / (6 : Int))), rfl, o9, ok3, sv_mod.rf, h⟩
def q_isArrayLabel (p1 : Int) (S : sv_S) : Option Value → sv_S → Prop := fun v S' => ∃ r : Int, v = some (sv_I r) ∧ sv_R r ∧ sm_ok S' ∧ sv_mod [] S S' ∧ (r = 0 ∨ r = 1)
theorem la_isArrayLabel_0 {x0 x1 x2 : Int} (h0 : x0 ≤ 127) (h1 : 1 ≤ x1) (h2 : x1 ≤ 11) (h3 : 0 ≤ x2) (h4 : x2 < x0) : sv_R (x2 - 29 - 6 * (x1 - 1)) := by omega
theorem la_isArrayLabel_1 : (0 : Int) < 2 ∧ (2 : Int) ≤ 2147483647 := by omega
theorem la_isArrayLabel_2 {x0 : Int} : x0 = 24 → (1 : Int) = 0 ∨ (1 : Int) = 1 := by omega
theorem la_isArrayLabel_3 {x0 : Int} (h0 : 1 ≤ x0) (h1 : x0 ≤ 11) : sv_R (29 + 6 * (x0 - 1)) := by omega
theorem la_isArrayLabel_4 {x0 x1 : Int} : x0 < 29 + 6 * (x1 - 1) → (0 : Int) = 0 ∨ (0 : Int) = 1 := by omega
theorem la_isArrayLabel_5 {x0 x1 : Int} (h0 : ¬ x0 < 29 + 6 * (x1 - 1)) : 0 ≤ x0 - 29 - 6 * (x1 - 1) := by omega
theorem la_isArrayLabel_6 {x0 x1 : Int} (h0 : 1 ≤ x0) (h1 : ¬ x1 < 29 + 6 * (x0 - 1)) : 24 ≤ x1 := by omega
theorem la_isArrayLabel_7 {x0 : Int} (h0 : 24 ≤ x0) (h1 : ¬ x0 = 24) : 24 < x0 := by omega
theorem la_isArrayLabel_8 {x0 x1 x2 x3 x4 : Int} (h0 : x0 ≤ 19) (h1 : x1 = 29 + 6 * (x2 - 1) + 2 * x0) (h2 : x3 < x1) (h3 : ¬ x3 < 29 + 6 * (x2 - 1)) (h4 : x4 = (x3 - 29 - 6 * (x2 - 1)) / 2) : 0 ≤ x4 ∧ x4 < 20 := by omega
theorem la_isArrayLabel_9 {x0 : Int} : x0 = 0 → (0 : Int) = 0 ∨ (0 : Int) = 1 := by omega
theorem la_isArrayLabel_10 {x0 : Int} (h0 : 0 ≤ x0) (h1 : ¬ x0 = 0) : 0 < x0 := by omega
theorem la_isArrayLabel_11 : (1 : Int) = 0 ∨ (1 : Int) = 1 := by omega
set_option maxHeartbeats 2000000 in
theorem f_isArrayLabel : ∀ (p1 : Int) (S : sv_S), sm_ok S → sv_R p1 → (29 ≤ (S 1071 0) ∧ (S 1071 0) ≤ 127 ∧ 31 ≤ (S 1008 0) ∧ (S 1008 0) ≤ 90 ∧ 1 ≤ (S 1032 0) ∧ (S 1032 0) ≤ 11 ∧ 0 ≤ (S 1055 0) ∧ (S 1055 0) ≤ 19 ∧ (S 1071 0) = 29 + 6 * ((S 1032 0) - 1) + 2 * (S 1055 0) ∧ 0 ≤ (S 1046 0) ∧ (S 1046 0) + 2 * (S 1032 0) ≤ 500 ∧ sm_PD (S 1046 0) (S 1032 0) (S 1071 0) (S 1008 0) ∧ 0 ≤ (S 1071 0) * ((S 1008 0) + 1) ∧ (S 1071 0) * ((S 1008 0) + 1) ≤ 11557 ∧ 0 ≤ p1 ∧ p1 < (S 1071 0)) → (sv_R (S 1032 0) → (sv_R ((p1 - (29 : Int)) - ((6 : Int) * ((S 1032 0) - (1 : Int))))) ∧ (0 < (2 : Int) ∧ (2 : Int) ≤ 2147483647) ∧ (∀ r2 : Int, sv_R r2 → (0 ≤ ((p1 - (29 : Int)) - ((6 : Int) * ((S 1032 0) - (1 : Int)))) → r2 = ((p1 - (29 : Int)) - ((6 : Int) * ((S 1032 0) - (1 : Int)))) / (2 : Int)) → (((p1 = (24 : Int)) → ((1 : Int) = 0 ∨ (1 : Int) = 1)) ∧ ((¬ (p1 = (24 : Int))) → (sv_R ((29 : Int) + ((6 : Int) * ((S 1032 0) - (1 : Int))))) ∧ (((p1 < ((29 : Int) + ((6 : Int) * ((S 1032 0) - (1 : Int))))) → ((0 : Int) = 0 ∨ (0 : Int) = 1)) ∧ ((¬ (p1 < ((29 : Int) + ((6 : Int) * ((S 1032 0) - (1 : Int)))))) → (0 ≤ r2 ∧ r2 < 20) ∧ ((0 ≤ (S 90 r2) ∧ (S 90 r2) ≤ 1) → ((((S 90 r2) = (0 : Int)) → ((0 : Int) = 0 ∨ (0 : Int) = 1)) ∧ ((¬ ((S 90 r2) = (0 : Int))) → ((1 : Int) = 0 ∨ (1 : Int) = 1)))))))))) := by
  intro p1
  intro S
  intro h1_
  intro h2_
  rintro ⟨h3_, ⟨h4_, ⟨h5_, ⟨h6_, ⟨h7_, ⟨h8_, ⟨h9_, ⟨h10_, ⟨h11_, ⟨h12_, ⟨h13_, ⟨h14_, ⟨h15_, ⟨h16_, ⟨h17_, h18_⟩⟩⟩⟩⟩⟩⟩⟩⟩⟩⟩⟩⟩⟩⟩
  intro h19_
  refine ⟨(la_isArrayLabel_0 h4_ h7_ h8_ h17_ h18_), ?_⟩
  refine ⟨la_isArrayLabel_1, ?_⟩
  intro r2
  intro h20_
  intro h21_
  refine ⟨la_isArrayLabel_2, ?_⟩
  intro h22_
  refine ⟨(la_isArrayLabel_3 h7_ h8_), ?_⟩
  refine ⟨la_isArrayLabel_4, ?_⟩
  intro h23_
  have h24_ := (h21_ (la_isArrayLabel_5 h23_))
  refine ⟨(la_isArrayLabel_8 h10_ h11_ h18_ h23_ h24_), ?_⟩
  rintro ⟨h25_, h26_⟩
  refine ⟨la_isArrayLabel_9, ?_⟩
  intro h27_
  exact la_isArrayLabel_11
set_option maxRecDepth 8000 in
set_option maxHeartbeats 2000000 in
theorem t_isArrayLabel : ∀ (p1 : Int) (S : sv_S), sm_ok S → sv_R p1 → (29 ≤ (S 1071 0) ∧ (S 1071 0) ≤ 127 ∧ 31 ≤ (S 1008 0) ∧ (S 1008 0) ≤ 90 ∧ 1 ≤ (S 1032 0) ∧ (S 1032 0) ≤ 11 ∧ 0 ≤ (S 1055 0) ∧ (S 1055 0) ≤ 19 ∧ (S 1071 0) = 29 + 6 * ((S 1032 0) - 1) + 2 * (S 1055 0) ∧ 0 ≤ (S 1046 0) ∧ (S 1046 0) + 2 * (S 1032 0) ≤ 500 ∧ sm_PD (S 1046 0) (S 1032 0) (S 1071 0) (S 1008 0) ∧ 0 ≤ (S 1071 0) * ((S 1008 0) + 1) ∧ (S 1071 0) * ((S 1008 0) + 1) ≤ 11557 ∧ 0 ≤ p1 ∧ p1 < (S 1071 0)) → sv_T sm_XS sm_cs sm_L sm_sh 0 (q_isArrayLabel p1 S) 239 0 (lv_args 0 [.ref 0, sv_I p1]) [] S := by
  intro p1 S hok hp1 hpre
  have h := f_isArrayLabel p1 S hok hp1 hpre
  have hM := sm_h239
  show sv_T sm_XS sm_cs sm_L sm_sh 0 (q_isArrayLabel p1 S) 239 0 [(0, .ref 0), (1, sv_I p1)] [] S
  refine sv_iload_n hM dX12_isArrayLabel_0 rfl rfl ?_
  refine sv_bipush (d := (29 : Int)) hM dX12_isArrayLabel_1 rfl rfl ?_
  refine sv_isub hM dX12_isArrayLabel_3 rfl ?_
  refine sv_bipush (d := (6 : Int)) hM dX12_isArrayLabel_4 rfl rfl ?_
  refine sv_aload_n hM dX12_isArrayLabel_6 rfl rfl ?_
  have k1 : sv_R (S 1032 0) := sm_okI hok sm_r1032 0
  have h := h k1
  refine sv_getI hM dX12_isArrayLabel_7 sm_fl_527 (sm_a0 _) sm_k32 rfl (x := (S 1032 0)) rfl ?_
  refine sv_iconst (d := (1 : Int)) hM dX12_isArrayLabel_10 rfl rfl ?_
  refine sv_isub hM dX12_isArrayLabel_11 rfl ?_
  refine sv_imul hM dX12_isArrayLabel_12 rfl ?_
  refine sv_isub hM dX12_isArrayLabel_13 rfl ?_
  refine sv_iconst (d := (2 : Int)) hM dX12_isArrayLabel_14 rfl rfl ?_
  obtain ⟨o3, h⟩ := h
  obtain ⟨o4, h⟩ := h
  refine sv_idivP hM dX12_isArrayLabel_15 o3 o4 rfl (fun r2 hr2 er2 => ?_)
  have h := h r2 hr2 er2
  refine sv_istore_n hM dX12_isArrayLabel_16 (by decide) rfl ?_
  show sv_T sm_XS sm_cs sm_L sm_sh 0 (q_isArrayLabel p1 S) 239 17 [(0, .ref 0), (1, sv_I p1), (2, sv_I r2)] [] S
  refine sv_iload_n hM dX12_isArrayLabel_17 rfl rfl ?_
  refine sv_bipush (d := (24 : Int)) hM dX12_isArrayLabel_18 rfl rfl ?_
  refine sv_icmp_eq hM dX12_isArrayLabel_20 hp1 (⟨by decide, by decide⟩ : sv_R (24 : Int)) (t := 48) rfl rfl (fun hc => ?_) (fun hc => ?_)
  · have h := h.1 (hc)
    refine sv_iconst (d := (1 : Int)) hM dX12_isArrayLabel_48 rfl rfl ?_
    refine sv_goto hM dX12_isArrayLabel_49 (pc' := 53) rfl ?_
    exact sv_iret hM dX12_isArrayLabel_53 rfl (sv_nz (⟨by decide, by decide⟩ : 0 ≤ (1 : Int) ∧ (1 : Int) ≤ 1)) ⟨(1 : Int), rfl, sv_R01 (⟨by decide, by decide⟩ : 0 ≤ (1 : Int) ∧ (1 : Int) ≤ 1), hok, sv_mod.rf, h⟩
  · have h := h.2 (hc)
    refine sv_iload_n hM dX12_isArrayLabel_23 rfl rfl ?_
    refine sv_bipush (d := (29 : Int)) hM dX12_isArrayLabel_24 rfl rfl ?_
    refine sv_bipush (d := (6 : Int)) hM dX12_isArrayLabel_26 rfl rfl ?_
    refine sv_aload_n hM dX12_isArrayLabel_28 rfl rfl ?_
    refine sv_getI hM dX12_isArrayLabel_29 sm_fl_527 (sm_a0 _) sm_k32 rfl (x := (S 1032 0)) rfl ?_
    refine sv_iconst (d := (1 : Int)) hM dX12_isArrayLabel_32 rfl rfl ?_
    refine sv_isub hM dX12_isArrayLabel_33 rfl ?_
    refine sv_imul hM dX12_isArrayLabel_34 rfl ?_
    refine sv_iadd hM dX12_isArrayLabel_35 rfl ?_
    obtain ⟨o5, h⟩ := h
    refine sv_icmp_lt hM dX12_isArrayLabel_36 hp1 o5 (t := 52) rfl rfl (fun hc => ?_) (fun hc => ?_)
    · have h := h.1 (hc)
      refine sv_iconst (d := (0 : Int)) hM dX12_isArrayLabel_52 rfl rfl ?_
      exact sv_iret hM dX12_isArrayLabel_53 rfl (sv_nz (⟨by decide, by decide⟩ : 0 ≤ (0 : Int) ∧ (0 : Int) ≤ 1)) ⟨(0 : Int), rfl, sv_R01 (⟨by decide, by decide⟩ : 0 ≤ (0 : Int) ∧ (0 : Int) ≤ 1), hok, sv_mod.rf, h⟩
    · have h := h.2 (hc)
      refine sv_aload_n hM dX12_isArrayLabel_39 rfl rfl ?_
      refine sv_getA hM dX12_isArrayLabel_40 sm_fl_283 (sm_a0 _) sm_k142 rfl ?_
      refine sv_iload_n hM dX12_isArrayLabel_43 rfl rfl ?_
      obtain ⟨o6, h⟩ := h
      have k7 : (0 ≤ (S 90 r2) ∧ (S 90 r2) ≤ 1) := sm_okZ hok sm_r90 r2
      have h := h k7
      refine sv_zald hM dX12_isArrayLabel_44 (sm_a90 _) (by decide) o6.1 o6.2 rfl (x := (S 90 r2)) rfl ?_
      refine sv_cond_eq hM dX12_isArrayLabel_45 (sv_R01 k7) (t := 52) rfl rfl (fun hc => ?_) (fun hc => ?_)
      · have h := h.1 (hc)
        refine sv_iconst (d := (0 : Int)) hM dX12_isArrayLabel_52 rfl rfl ?_
        exact sv_iret hM dX12_isArrayLabel_53 rfl (sv_nz (⟨by decide, by decide⟩ : 0 ≤ (0 : Int) ∧ (0 : Int) ≤ 1)) ⟨(0 : Int), rfl, sv_R01 (⟨by decide, by decide⟩ : 0 ≤ (0 : Int) ∧ (0 : Int) ≤ 1), hok, sv_mod.rf, h⟩
      · have h := h.2 (hc)
        refine sv_iconst (d := (1 : Int)) hM dX12_isArrayLabel_48 rfl rfl ?_
        refine sv_goto hM dX12_isArrayLabel_49 (pc' := 53) rfl ?_
        exact sv_iret hM dX12_isArrayLabel_53 rfl (sv_nz (⟨by decide, by decide⟩ : 0 ≤ (1 : Int) ∧ (1 : Int) ≤ 1)) ⟨(1 : Int), rfl, sv_R01 (⟨by decide, by decide⟩ : 0 ≤ (1 : Int) ∧ (1 : Int) ≤ 1), hok, sv_mod.rf, h⟩
def q_isSingle (p0 : Int) (S : sv_S) : Option Value → sv_S → Prop := fun v S' => ∃ r : Int, v = some (sv_I r) ∧ sv_R r ∧ sm_ok S' ∧ sv_mod [] S S' ∧ (r = 0 ∨ r = 1)
theorem la_isSingle_0 {x0 : Int} : x0 < 23 → (1 : Int) = 0 ∨ (1 : Int) = 1 := by omega
theorem la_isSingle_1 {x0 : Int} : x0 < 29 → (0 : Int) = 0 ∨ (0 : Int) = 1 := by omega
theorem la_isSingle_2 {x0 : Int} (h0 : x0 ≤ 200) (h1 : ¬ x0 < 29) : 0 ≤ x0 - 29 ∧ x0 - 29 ≤ 2147483647 := by omega
theorem la_isSingle_3 : (0 : Int) < 2 ∧ (2 : Int) ≤ 2147483647 := by omega
theorem la_isSingle_4 {x0 : Int} : sv_R ((x0 - 29) % 2) := by omega
theorem la_isSingle_5 {x0 : Int} : ¬ (x0 - 29) % 2 = 0 → (0 : Int) = 0 ∨ (0 : Int) = 1 := by omega
theorem la_isSingle_6 : (1 : Int) = 0 ∨ (1 : Int) = 1 := by omega
set_option maxHeartbeats 2000000 in
theorem f_isSingle : ∀ (p0 : Int) (S : sv_S), sm_ok S → sv_R p0 → (0 ≤ p0 ∧ p0 ≤ 200) → (((p0 < (23 : Int)) → ((1 : Int) = 0 ∨ (1 : Int) = 1)) ∧ ((¬ (p0 < (23 : Int))) → (((p0 < (29 : Int)) → ((0 : Int) = 0 ∨ (0 : Int) = 1)) ∧ ((¬ (p0 < (29 : Int))) → (0 ≤ (p0 - (29 : Int)) ∧ (p0 - (29 : Int)) ≤ 2147483647) ∧ (0 < (2 : Int) ∧ (2 : Int) ≤ 2147483647) ∧ (sv_R ((p0 - (29 : Int)) % (2 : Int))) ∧ (((¬ ((p0 - (29 : Int)) % (2 : Int)) = (0 : Int)) → ((0 : Int) = 0 ∨ (0 : Int) = 1)) ∧ ((¬ (¬ ((p0 - (29 : Int)) % (2 : Int)) = (0 : Int))) → ((1 : Int) = 0 ∨ (1 : Int) = 1))))))) := by
  intro p0
  intro S
  intro h1_
  intro h2_
  rintro ⟨h3_, h4_⟩
  refine ⟨la_isSingle_0, ?_⟩
  intro h5_
  refine ⟨la_isSingle_1, ?_⟩
  intro h6_
  refine ⟨(la_isSingle_2 h4_ h6_), ?_⟩
  refine ⟨la_isSingle_3, ?_⟩
  refine ⟨la_isSingle_4, ?_⟩
  refine ⟨la_isSingle_5, ?_⟩
  intro h7_
  exact la_isSingle_6
set_option maxRecDepth 8000 in
set_option maxHeartbeats 2000000 in
theorem t_isSingle : ∀ (p0 : Int) (S : sv_S), sm_ok S → sv_R p0 → (0 ≤ p0 ∧ p0 ≤ 200) → sv_T sm_XS sm_cs sm_L sm_sh 0 (q_isSingle p0 S) 240 0 (lv_args 0 [sv_I p0]) [] S := by
  intro p0 S hok hp0 hpre
  have h := f_isSingle p0 S hok hp0 hpre
  have hM := sm_h240
  show sv_T sm_XS sm_cs sm_L sm_sh 0 (q_isSingle p0 S) 240 0 [(0, sv_I p0)] [] S
  refine sv_iload_n hM dX12_isSingle_0 rfl rfl ?_
  refine sv_bipush (d := (23 : Int)) hM dX12_isSingle_1 rfl rfl ?_
  refine sv_icmp_lt hM dX12_isSingle_3 hp0 (⟨by decide, by decide⟩ : sv_R (23 : Int)) (t := 21) rfl rfl (fun hc => ?_) (fun hc => ?_)
  · have h := h.1 (hc)
    refine sv_iconst (d := (1 : Int)) hM dX12_isSingle_21 rfl rfl ?_
    refine sv_goto hM dX12_isSingle_22 (pc' := 26) rfl ?_
    exact sv_iret hM dX12_isSingle_26 rfl (sv_nz (⟨by decide, by decide⟩ : 0 ≤ (1 : Int) ∧ (1 : Int) ≤ 1)) ⟨(1 : Int), rfl, sv_R01 (⟨by decide, by decide⟩ : 0 ≤ (1 : Int) ∧ (1 : Int) ≤ 1), hok, sv_mod.rf, h⟩
  · have h := h.2 (hc)
    refine sv_iload_n hM dX12_isSingle_6 rfl rfl ?_
    refine sv_bipush (d := (29 : Int)) hM dX12_isSingle_7 rfl rfl ?_
    refine sv_icmp_lt hM dX12_isSingle_9 hp0 (⟨by decide, by decide⟩ : sv_R (29 : Int)) (t := 25) rfl rfl (fun hc => ?_) (fun hc => ?_)
    · have h := h.1 (hc)
      refine sv_iconst (d := (0 : Int)) hM dX12_isSingle_25 rfl rfl ?_
      exact sv_iret hM dX12_isSingle_26 rfl (sv_nz (⟨by decide, by decide⟩ : 0 ≤ (0 : Int) ∧ (0 : Int) ≤ 1)) ⟨(0 : Int), rfl, sv_R01 (⟨by decide, by decide⟩ : 0 ≤ (0 : Int) ∧ (0 : Int) ≤ 1), hok, sv_mod.rf, h⟩
    · have h := h.2 (hc)
      refine sv_iload_n hM dX12_isSingle_12 rfl rfl ?_
      refine sv_bipush (d := (29 : Int)) hM dX12_isSingle_13 rfl rfl ?_
      refine sv_isub hM dX12_isSingle_15 rfl ?_
      refine sv_iconst (d := (2 : Int)) hM dX12_isSingle_16 rfl rfl ?_
      obtain ⟨o1, h⟩ := h
      obtain ⟨o2, h⟩ := h
      refine sv_irem hM dX12_isSingle_17 o1 o2 rfl ?_
      obtain ⟨o3, h⟩ := h
      refine sv_cond_ne hM dX12_isSingle_18 o3 (t := 25) rfl rfl (fun hc => ?_) (fun hc => ?_)
      · have h := h.1 (hc)
        refine sv_iconst (d := (0 : Int)) hM dX12_isSingle_25 rfl rfl ?_
        exact sv_iret hM dX12_isSingle_26 rfl (sv_nz (⟨by decide, by decide⟩ : 0 ≤ (0 : Int) ∧ (0 : Int) ≤ 1)) ⟨(0 : Int), rfl, sv_R01 (⟨by decide, by decide⟩ : 0 ≤ (0 : Int) ∧ (0 : Int) ≤ 1), hok, sv_mod.rf, h⟩
      · have h := h.2 (hc)
        refine sv_iconst (d := (1 : Int)) hM dX12_isSingle_21 rfl rfl ?_
        refine sv_goto hM dX12_isSingle_22 (pc' := 26) rfl ?_
        exact sv_iret hM dX12_isSingle_26 rfl (sv_nz (⟨by decide, by decide⟩ : 0 ≤ (1 : Int) ∧ (1 : Int) ≤ 1)) ⟨(1 : Int), rfl, sv_R01 (⟨by decide, by decide⟩ : 0 ≤ (1 : Int) ∧ (1 : Int) ≤ 1), hok, sv_mod.rf, h⟩
def q_addKey (p1 : Int) (S : sv_S) : Option Value → sv_S → Prop := fun v S' => v = none ∧ sm_ok S' ∧ sv_mod [1143, 1144] S S' ∧ (True)
set_option maxHeartbeats 2000000 in
theorem f_addKey : ∀ (p1 : Int) (S : sv_S), sm_ok S → sv_R p1 → (0 ≤ p1 ∧ p1 ≤ 1000) → ((((64 : Int) ≤ p1) → (sv_RL (S 1144 0) → (∀ r2 : Int, sv_RL r2 → (∀ r3 : Int, sv_RL r3 → (True))))) ∧ ((¬ ((64 : Int) ≤ p1)) → (sv_RL (S 1143 0) → (∀ r7 : Int, sv_RL r7 → (∀ r8 : Int, sv_RL r8 → (True)))))) := by
  intro p1
  intro S
  intro h1_
  intro h2_
  rintro ⟨h3_, h4_⟩
  refine ⟨?_, ?_⟩
  · skip
    intro h5_
    intro h6_
    intro r2
    intro h7_
    intro r3
    intro h8_
    exact trivial
  intro h9_
  intro h10_
  intro r7
  intro h11_
  intro r8
  intro h12_
  exact trivial
set_option maxRecDepth 8000 in
set_option maxHeartbeats 2000000 in
theorem t_addKey : ∀ (p1 : Int) (S : sv_S), sm_ok S → sv_R p1 → (0 ≤ p1 ∧ p1 ≤ 1000) → sv_T sm_XS sm_cs sm_L sm_sh 0 (q_addKey p1 S) 241 0 (lv_args 0 [.ref 0, sv_I p1]) [] S := by
  intro p1 S hok hp1 hpre
  have h := f_addKey p1 S hok hp1 hpre
  have hM := sm_h241
  show sv_T sm_XS sm_cs sm_L sm_sh 0 (q_addKey p1 S) 241 0 [(0, .ref 0), (1, sv_I p1)] [] S
  refine sv_iload_n hM dX12_addKey_0 rfl rfl ?_
  refine sv_bipush (d := (64 : Int)) hM dX12_addKey_1 rfl rfl ?_
  refine sv_icmp_ge hM dX12_addKey_3 hp1 (⟨by decide, by decide⟩ : sv_R (64 : Int)) (t := 21) rfl rfl (fun hc => ?_) (fun hc => ?_)
  · have h := h.1 (hc)
    refine sv_aload_n hM dX12_addKey_21 rfl rfl ?_
    refine sv_aload_n hM dX12_addKey_22 rfl rfl ?_
    have k1 : sv_RL (S 1144 0) := sm_okJ hok sm_r1144 0
    have h := h k1
    refine sv_getL hM dX12_addKey_23 sm_fl_1122 (sm_a0 _) sm_k144 rfl (x := (S 1144 0)) rfl ?_
    refine sv_lconst (d := (1 : Int)) hM dX12_addKey_26 rfl rfl ?_
    refine sv_iload_n hM dX12_addKey_27 rfl rfl ?_
    refine sv_bipush (d := (64 : Int)) hM dX12_addKey_28 rfl rfl ?_
    refine sv_isub hM dX12_addKey_30 rfl ?_
    refine sv_anyL hM dX12_addKey_31 rfl rfl (fun r2 hr2 _ => ?_)
    have h := h r2 hr2
    refine sv_anyL hM dX12_addKey_32 rfl rfl (fun r3 hr3 _ => ?_)
    have h := h r3 hr3
    refine sv_putL sm_X hM dX12_addKey_33 sm_fp_1122 (sm_a0 _) sm_q144 rfl rfl ?_
    have ok4 : sm_ok (sv_up S 1144 0 r3) := sm_upJ hok sm_r1144 hr3
    have md5 : sv_mod [1143, 1144] S (sv_up S 1144 0 r3) := sv_mod.up sv_mod.rf (by decide)
    exact sv_vret hM dX12_addKey_36 rfl ⟨rfl, ok4, md5, h⟩
  · have h := h.2 (hc)
    refine sv_aload_n hM dX12_addKey_6 rfl rfl ?_
    refine sv_aload_n hM dX12_addKey_7 rfl rfl ?_
    have k6 : sv_RL (S 1143 0) := sm_okJ hok sm_r1143 0
    have h := h k6
    refine sv_getL hM dX12_addKey_8 sm_fl_1118 (sm_a0 _) sm_k143 rfl (x := (S 1143 0)) rfl ?_
    refine sv_lconst (d := (1 : Int)) hM dX12_addKey_11 rfl rfl ?_
    refine sv_iload_n hM dX12_addKey_12 rfl rfl ?_
    refine sv_anyL hM dX12_addKey_13 rfl rfl (fun r7 hr7 _ => ?_)
    have h := h r7 hr7
    refine sv_anyL hM dX12_addKey_14 rfl rfl (fun r8 hr8 _ => ?_)
    have h := h r8 hr8
    refine sv_putL sm_X hM dX12_addKey_15 sm_fp_1118 (sm_a0 _) sm_q143 rfl rfl ?_
    have ok9 : sm_ok (sv_up S 1143 0 r8) := sm_upJ hok sm_r1143 hr8
    have md10 : sv_mod [1143, 1144] S (sv_up S 1143 0 r8) := sv_mod.up sv_mod.rf (by decide)
    refine sv_goto hM dX12_addKey_18 (pc' := 36) rfl ?_
    exact sv_vret hM dX12_addKey_36 rfl ⟨rfl, ok9, md10, h⟩
def q_hasKey (p1 : Int) (S : sv_S) : Option Value → sv_S → Prop := fun v S' => ∃ r : Int, v = some (sv_I r) ∧ sv_R r ∧ sm_ok S' ∧ sv_mod [] S S' ∧ (r = 0 ∨ r = 1)
theorem la_hasKey_0 {x0 : Int} (h0 : 0 ≤ x0) (h1 : x0 < 128) : 0 ≤ x0 ∧ x0 < 128 := by omega
theorem la_hasKey_1 {x0 : Int} (h0 : x0 = 0 ∨ x0 = 1) : 0 ≤ x0 := by omega
theorem la_hasKey_2 {x0 : Int} (h0 : x0 = 0 ∨ x0 = 1) : x0 ≤ 1 := by omega
set_option maxHeartbeats 2000000 in
theorem f_hasKey : ∀ (p1 : Int) (S : sv_S), sm_ok S → sv_R p1 → (0 ≤ p1 ∧ p1 < 128) → (sv_RL (S 1143 0) → (sv_RL (S 1144 0) → (0 ≤ p1 ∧ p1 < 128) ∧ (∀ r8 : Int, sv_R r8 → (r8 = sm_in (S 1143 0) (S 1144 0) p1 ∧ (r8 = 0 ∨ r8 = 1)) → (0 ≤ r8 ∧ r8 ≤ 1) ∧ (r8 = 0 ∨ r8 = 1)))) := by
  intro p1
  intro S
  intro h1_
  intro h2_
  rintro ⟨h3_, h4_⟩
  intro h5_
  intro h6_
  refine ⟨(la_hasKey_0 h3_ h4_), ?_⟩
  intro r8
  intro h7_
  rintro ⟨h8_, h9_⟩
  refine ⟨?_, ?_⟩
  · skip
    refine ⟨?_, ?_⟩
    · skip
      exact (la_hasKey_1 h9_)
    exact (la_hasKey_2 h9_)
  exact h9_
set_option maxRecDepth 8000 in
set_option maxHeartbeats 2000000 in
theorem t_hasKey : ∀ (p1 : Int) (S : sv_S), sm_ok S → sv_R p1 → (0 ≤ p1 ∧ p1 < 128) → sv_T sm_XS sm_cs sm_L sm_sh 1 (q_hasKey p1 S) 242 0 (lv_args 0 [.ref 0, sv_I p1]) [] S := by
  intro p1 S hok hp1 hpre
  have h := f_hasKey p1 S hok hp1 hpre
  have hM := sm_h242
  show sv_T sm_XS sm_cs sm_L sm_sh 1 (q_hasKey p1 S) 242 0 [(0, .ref 0), (1, sv_I p1)] [] S
  refine sv_aload_n hM dX12_hasKey_0 rfl rfl ?_
  have k1 : sv_RL (S 1143 0) := sm_okJ hok sm_r1143 0
  have h := h k1
  refine sv_getL hM dX12_hasKey_1 sm_fl_1118 (sm_a0 _) sm_k143 rfl (x := (S 1143 0)) rfl ?_
  refine sv_aload_n hM dX12_hasKey_4 rfl rfl ?_
  have k2 : sv_RL (S 1144 0) := sm_okJ hok sm_r1144 0
  have h := h k2
  refine sv_getL hM dX12_hasKey_5 sm_fl_1122 (sm_a0 _) sm_k144 rfl (x := (S 1144 0)) rfl ?_
  refine sv_iload_n hM dX12_hasKey_8 rfl rfl ?_
  obtain ⟨o3, h⟩ := h
  refine sv_callS hM dX12_hasKey_9 sm_iv_1125 (Nat.le_of_ble_eq_true rfl) rfl rfl (Nat.le_of_ble_eq_true rfl) sm_h217 (Nat.le_of_ble_eq_true rfl) (Nat.le_of_ble_eq_true rfl) (F' := 0) (Nat.le_of_ble_eq_true rfl) rfl (t_isIn (S 1143 0) (S 1144 0) p1 S hok k1 k2 hp1 o3) (fun v S1 hq => ?_)
  obtain ⟨r8, rfl, hr8, ok5, md6, hpo7⟩ := hq
  obtain rfl : S = S1 := (funext fun j => md6 j (by intro q; cases q)).symm
  show sv_T sm_XS sm_cs sm_L sm_sh 1 (q_hasKey p1 S) 242 12 [(0, .ref 0), (1, sv_I p1)] [sv_I r8] S
  have h := h r8 hr8 hpo7
  obtain ⟨o9, h⟩ := h
  exact sv_iret hM dX12_hasKey_12 rfl (sv_nz o9) ⟨r8, rfl, sv_R01 o9, ok5, sv_mod.rf, h⟩
def q_manyKeys (S : sv_S) : Option Value → sv_S → Prop := fun v S' => ∃ r : Int, v = some (sv_I r) ∧ sv_R r ∧ sm_ok S' ∧ sv_mod [] S S' ∧ (0 ≤ r ∧ r ≤ 128)
theorem la_manyKeys_0 {x0 x1 : Int} (h0 : 0 ≤ x0) (h1 : x0 ≤ 64) (h2 : 0 ≤ x1) (h3 : x1 ≤ 64) : sv_R (x0 + x1) := by omega
theorem la_manyKeys_1 {x0 x1 : Int} (h0 : 0 ≤ x0) (h1 : 0 ≤ x1) : 0 ≤ x0 + x1 := by omega
theorem la_manyKeys_2 {x0 x1 : Int} (h0 : x0 ≤ 64) (h1 : x1 ≤ 64) : x0 + x1 ≤ 128 := by omega
set_option maxHeartbeats 2000000 in
theorem f_manyKeys : ∀ (S : sv_S), sm_ok S → (sv_RL (S 1143 0) → (∀ r2 : Int, (0 ≤ r2 ∧ r2 ≤ 64) → (sv_RL (S 1144 0) → (∀ r4 : Int, (0 ≤ r4 ∧ r4 ≤ 64) → (sv_R (r2 + r4)) ∧ (0 ≤ (r2 + r4) ∧ (r2 + r4) ≤ 128))))) := by
  intro S
  intro h1_
  intro h2_
  intro r2
  rintro ⟨h3_, h4_⟩
  intro h5_
  intro r4
  rintro ⟨h6_, h7_⟩
  refine ⟨(la_manyKeys_0 h3_ h4_ h6_ h7_), ?_⟩
  refine ⟨(la_manyKeys_1 h3_ h6_), ?_⟩
  exact (la_manyKeys_2 h4_ h7_)
set_option maxRecDepth 8000 in
set_option maxHeartbeats 2000000 in
theorem t_manyKeys : ∀ (S : sv_S), sm_ok S → sv_T sm_XS sm_cs sm_L sm_sh 4 (q_manyKeys S) 243 0 (lv_args 0 [.ref 0]) [] S := by
  intro S hok
  have h := f_manyKeys S hok
  have hM := sm_h243
  show sv_T sm_XS sm_cs sm_L sm_sh 4 (q_manyKeys S) 243 0 [(0, .ref 0)] [] S
  refine sv_aload_n hM dX12_manyKeys_0 rfl rfl ?_
  have k1 : sv_RL (S 1143 0) := sm_okJ hok sm_r1143 0
  have h := h k1
  refine sv_getL hM dX12_manyKeys_1 sm_fl_1118 (sm_a0 _) sm_k143 rfl (x := (S 1143 0)) rfl ?_
  refine sv_bitcount hM dX12_manyKeys_4 sm_iv_1129 sm_h1002 (Nat.le_of_ble_eq_true rfl) (Nat.le_of_ble_eq_true rfl) rfl (fun r2 hr2 => ?_)
  have h := h r2 hr2
  refine sv_aload_n hM dX12_manyKeys_7 rfl rfl ?_
  have k3 : sv_RL (S 1144 0) := sm_okJ hok sm_r1144 0
  have h := h k3
  refine sv_getL hM dX12_manyKeys_8 sm_fl_1122 (sm_a0 _) sm_k144 rfl (x := (S 1144 0)) rfl ?_
  refine sv_bitcount hM dX12_manyKeys_11 sm_iv_1129 sm_h1002 (Nat.le_of_ble_eq_true rfl) (Nat.le_of_ble_eq_true rfl) rfl (fun r4 hr4 => ?_)
  have h := h r4 hr4
  refine sv_iadd hM dX12_manyKeys_14 rfl ?_
  obtain ⟨o5, h⟩ := h
  exact sv_iret hM dX12_manyKeys_15 rfl rfl ⟨(r2 + r4), rfl, o5, hok, sv_mod.rf, h⟩
def q_noKeys (S : sv_S) : Option Value → sv_S → Prop := fun v S' => v = none ∧ sm_ok S' ∧ sv_mod [1143, 1144] S S' ∧ (True)
set_option maxHeartbeats 2000000 in
theorem f_noKeys : ∀ (S : sv_S), sm_ok S → (True) := by
  intro S
  intro h1_
  exact trivial
set_option maxRecDepth 8000 in
set_option maxHeartbeats 2000000 in
theorem t_noKeys : ∀ (S : sv_S), sm_ok S → sv_T sm_XS sm_cs sm_L sm_sh 0 (q_noKeys S) 244 0 (lv_args 0 [.ref 0]) [] S := by
  intro S hok
  have h := f_noKeys S hok
  have hM := sm_h244
  show sv_T sm_XS sm_cs sm_L sm_sh 0 (q_noKeys S) 244 0 [(0, .ref 0)] [] S
  refine sv_aload_n hM dX12_noKeys_0 rfl rfl ?_
  refine sv_lconst (d := (0 : Int)) hM dX12_noKeys_1 rfl rfl ?_
  refine sv_putL sm_X hM dX12_noKeys_2 sm_fp_1118 (sm_a0 _) sm_q143 rfl rfl ?_
  have ok1 : sm_ok (sv_up S 1143 0 (0 : Int)) := sm_upJ hok sm_r1143 (⟨by decide, by decide⟩ : sv_RL (0 : Int))
  have md2 : sv_mod [1143, 1144] S (sv_up S 1143 0 (0 : Int)) := sv_mod.up sv_mod.rf (by decide)
  refine sv_aload_n hM dX12_noKeys_5 rfl rfl ?_
  refine sv_lconst (d := (0 : Int)) hM dX12_noKeys_6 rfl rfl ?_
  refine sv_putL sm_X hM dX12_noKeys_7 sm_fp_1122 (sm_a0 _) sm_q144 rfl rfl ?_
  have ok3 : sm_ok (sv_up (sv_up S 1143 0 (0 : Int)) 1144 0 (0 : Int)) := sm_upJ ok1 sm_r1144 (⟨by decide, by decide⟩ : sv_RL (0 : Int))
  have md4 : sv_mod [1143, 1144] S (sv_up (sv_up S 1143 0 (0 : Int)) 1144 0 (0 : Int)) := sv_mod.up md2 (by decide)
  exact sv_vret hM dX12_noKeys_10 rfl ⟨rfl, ok3, md4, h⟩
def q_findName (S : sv_S) : Option Value → sv_S → Prop := fun v S' => ∃ r : Int, v = some (sv_I r) ∧ sv_R r ∧ sm_ok S' ∧ sv_mod [] S S' ∧ (-1 ≤ r ∧ r < (S' 1008 0))
theorem la_findName_0 {x0 : Int} (h0 : 31 ≤ x0) : 0 ≤ x0 := by omega
theorem la_findName_1 {x0 : Int} (h0 : 0 ≤ x0) (h1 : x0 ≤ 200) : 0 ≤ x0 ∧ x0 ≤ 200 := by omega
theorem la_findName_2 {x0 x1 : Int} (h0 : 31 ≤ x0) : x0 ≤ x1 → ((-1) : Int) ≤ (-1) ∧ (-1) < x0 := by omega
theorem la_findName_3 {x0 x1 x2 x3 : Int} (h0 : x0 = (-1) ∨ 0 ≤ x0 ∧ x0 < x1 ∧ x2 = x3) : (-1) ≤ x0 := by omega
theorem la_findName_4 {x0 x1 : Int} (h0 : ¬ x0 ≤ x1) : x1 < x0 := by omega
set_option maxHeartbeats 2000000 in
theorem f_findName : ∀ (S : sv_S), sm_ok S → (31 ≤ (S 1007 0) ∧ (S 1007 0) ≤ 400 ∧ sm_LN (S 4) 400 (S 1007 0) ∧ 0 ≤ (S 1011 0) ∧ (S 1011 0) ≤ 200 ∧ 31 ≤ (S 1008 0) ∧ (S 1008 0) ≤ 90) → (0 ≤ (S 1007 0) ∧ (S 1007 0) ≤ 400 ∧ sm_LN (S 4) 400 (S 1007 0) ∧ 0 ≤ (S 1011 0) ∧ (S 1011 0) ≤ 200) ∧ (∀ r6 : Int, sv_R r6 → (r6 = -1 ∨ (0 ≤ r6 ∧ r6 < (S 1007 0) ∧ (S 4 r6) = (S 1011 0))) → (sv_R (S 1008 0) → ((((S 1008 0) ≤ r6) → (-1 ≤ (-1 : Int) ∧ (-1 : Int) < (S 1008 0))) ∧ ((¬ ((S 1008 0) ≤ r6)) → (-1 ≤ r6 ∧ r6 < (S 1008 0)))))) := by
  intro S
  intro h1_
  rintro ⟨h2_, ⟨h3_, ⟨h4_, ⟨h5_, ⟨h6_, ⟨h7_, h8_⟩⟩⟩⟩⟩⟩
  refine ⟨⟨(la_findName_0 h2_), ⟨h3_, ⟨h4_, (la_findName_1 h5_ h6_)⟩⟩⟩, ?_⟩
  intro r6
  intro h9_
  intro h10_
  intro h11_
  refine ⟨(la_findName_2 h7_), ?_⟩
  intro h12_
  refine ⟨?_, ?_⟩
  · skip
    exact (la_findName_3 h10_)
  exact (la_findName_4 h12_)
set_option maxRecDepth 8000 in
set_option maxHeartbeats 2000000 in
theorem t_findName : ∀ (S : sv_S), sm_ok S → (31 ≤ (S 1007 0) ∧ (S 1007 0) ≤ 400 ∧ sm_LN (S 4) 400 (S 1007 0) ∧ 0 ≤ (S 1011 0) ∧ (S 1011 0) ≤ 200 ∧ 31 ≤ (S 1008 0) ∧ (S 1008 0) ≤ 90) → sv_T sm_XS sm_cs sm_L sm_sh 1 (q_findName S) 246 0 (lv_args 0 [.ref 0]) [] S := by
  intro S hok hpre
  have h := f_findName S hok hpre
  have hM := sm_h246
  show sv_T sm_XS sm_cs sm_L sm_sh 1 (q_findName S) 246 0 [(0, .ref 0)] [] S
  refine sv_aload_n hM dX12_findName_0 rfl rfl ?_
  obtain ⟨o1, h⟩ := h
  refine sv_callV hM dX12_findName_1 sm_iv_302 (by decide) (sm_a0 _) rfl rfl (Nat.le_of_ble_eq_true rfl) sm_h5 (Nat.le_of_ble_eq_true rfl) (Nat.le_of_ble_eq_true rfl) (F' := 0) (Nat.le_of_ble_eq_true rfl) rfl (t_findText  S hok o1) (fun v S1 hq => ?_)
  obtain ⟨r6, rfl, hr6, ok3, md4, hpo5⟩ := hq
  obtain rfl : S = S1 := (funext fun j => md4 j (by intro q; cases q)).symm
  show sv_T sm_XS sm_cs sm_L sm_sh 1 (q_findName S) 246 4 [(0, .ref 0)] [sv_I r6] S
  have h := h r6 hr6 hpo5
  refine sv_istore_n hM dX12_findName_4 (by decide) rfl ?_
  show sv_T sm_XS sm_cs sm_L sm_sh 1 (q_findName S) 246 5 [(0, .ref 0), (1, sv_I r6)] [] S
  refine sv_iload_n hM dX12_findName_5 rfl rfl ?_
  refine sv_aload_n hM dX12_findName_6 rfl rfl ?_
  have k7 : sv_R (S 1008 0) := sm_okI ok3 sm_r1008 0
  have h := h k7
  refine sv_getI hM dX12_findName_7 sm_fl_762 (sm_a0 _) sm_k8 rfl (x := (S 1008 0)) rfl ?_
  refine sv_icmp_ge hM dX12_findName_10 hr6 k7 (t := 17) rfl rfl (fun hc => ?_) (fun hc => ?_)
  · have h := h.1 (hc)
    refine sv_iconst (d := (-1 : Int)) hM dX12_findName_17 rfl rfl ?_
    exact sv_iret hM dX12_findName_18 rfl rfl ⟨(-1 : Int), rfl, (⟨by decide, by decide⟩ : sv_R (-1 : Int)), ok3, sv_mod.rf, h⟩
  · have h := h.2 (hc)
    refine sv_iload_n hM dX12_findName_13 rfl rfl ?_
    refine sv_goto hM dX12_findName_14 (pc' := 18) rfl ?_
    exact sv_iret hM dX12_findName_18 rfl rfl ⟨r6, rfl, hr6, ok3, sv_mod.rf, h⟩
def q_nameOfNumber (p1 : Int) (S : sv_S) : Option Value → sv_S → Prop := fun v S' => ∃ r : Int, v = some (sv_I r) ∧ sv_R r ∧ sm_ok S' ∧ sv_mod [5, 1011] S S' ∧ (-1 ≤ r ∧ r < (S' 1008 0))
theorem la_nameOfNumber_0 : (0 : Int) ≤ 0 ∧ (0 : Int) ≤ 188 := by omega
theorem la_nameOfNumber_1 {x0 x1 : Int} (h0 : 31 ≤ x0) (h1 : x0 ≤ 90) (h2 : 0 ≤ x1) (h3 : x1 ≤ 0 + 11) : 0 ≤ x1 ∧ x1 ≤ 200 ∧ 31 ≤ x0 ∧ x0 ≤ 90 := by omega
set_option maxHeartbeats 2000000 in
theorem f_nameOfNumber : ∀ (p1 : Int) (S : sv_S), sm_ok S → sv_R p1 → (31 ≤ (S 1007 0) ∧ (S 1007 0) ≤ 400 ∧ sm_LN (S 4) 400 (S 1007 0) ∧ 31 ≤ (S 1008 0) ∧ (S 1008 0) ≤ 90) → (0 ≤ (0 : Int) ∧ (0 : Int) ≤ 188) ∧ (∀ g4 : sv_S, (0 ≤ (g4 1011 0) ∧ (0 : Int) ≤ (g4 1011 0) ∧ (g4 1011 0) ≤ (0 : Int) + 11 ∧ (0 ≤ p1 → p1 ≤ 100 → (g4 1011 0) ≤ (0 : Int) + 3)) → (31 ≤ (S 1007 0) ∧ (S 1007 0) ≤ 400 ∧ sm_LN (S 4) 400 (S 1007 0) ∧ 0 ≤ (g4 1011 0) ∧ (g4 1011 0) ≤ 200 ∧ 31 ≤ (S 1008 0) ∧ (S 1008 0) ≤ 90) ∧ (∀ r14 : Int, sv_R r14 → (-1 ≤ r14 ∧ r14 < (S 1008 0)) → (-1 ≤ r14 ∧ r14 < (S 1008 0)))) := by
  intro p1
  intro S
  intro h1_
  intro h2_
  rintro ⟨h3_, ⟨h4_, ⟨h5_, ⟨h6_, h7_⟩⟩⟩⟩
  refine ⟨la_nameOfNumber_0, ?_⟩
  intro g4
  rintro ⟨h8_, ⟨h9_, ⟨h10_, h11_⟩⟩⟩
  refine ⟨⟨h3_, ⟨h4_, ⟨h5_, (la_nameOfNumber_1 h6_ h7_ h8_ h10_)⟩⟩⟩, ?_⟩
  intro r14
  intro h12_
  rintro ⟨h13_, h14_⟩
  refine ⟨h13_, ?_⟩
  exact h14_
set_option maxRecDepth 8000 in
set_option maxHeartbeats 2000000 in
theorem t_nameOfNumber : ∀ (p1 : Int) (S : sv_S), sm_ok S → sv_R p1 → (31 ≤ (S 1007 0) ∧ (S 1007 0) ≤ 400 ∧ sm_LN (S 4) 400 (S 1007 0) ∧ 31 ≤ (S 1008 0) ∧ (S 1008 0) ≤ 90) → sv_T sm_XS sm_cs sm_L sm_sh 2 (q_nameOfNumber p1 S) 247 0 (lv_args 0 [.ref 0, sv_I p1]) [] S := by
  intro p1 S hok hp1 hpre
  have h := f_nameOfNumber p1 S hok hp1 hpre
  have hM := sm_h247
  show sv_T sm_XS sm_cs sm_L sm_sh 2 (q_nameOfNumber p1 S) 247 0 [(0, .ref 0), (1, sv_I p1)] [] S
  refine sv_aload_n hM dX12_nameOfNumber_0 rfl rfl ?_
  refine sv_iconst (d := (0 : Int)) hM dX12_nameOfNumber_1 rfl rfl ?_
  refine sv_putI sm_X hM dX12_nameOfNumber_2 sm_fp_299 (sm_a0 _) sm_q11 (Or.inl rfl) rfl rfl rfl rfl ?_
  have ok1 : sm_ok (sv_up S 1011 0 (0 : Int)) := sm_upI hok sm_r1011 (⟨by decide, by decide⟩ : sv_R (0 : Int))
  have md2 : sv_mod [5, 1011] S (sv_up S 1011 0 (0 : Int)) := sv_mod.up sv_mod.rf (by decide)
  refine sv_aload_n hM dX12_nameOfNumber_5 rfl rfl ?_
  refine sv_iload_n hM dX12_nameOfNumber_6 rfl rfl ?_
  obtain ⟨o3, h⟩ := h
  refine sv_callV hM dX12_nameOfNumber_7 sm_iv_410 (by decide) (sm_a0 _) rfl rfl (Nat.le_of_ble_eq_true rfl) sm_h31 (Nat.le_of_ble_eq_true rfl) (Nat.le_of_ble_eq_true rfl) (F' := 1) (Nat.le_of_ble_eq_true rfl) rfl (t_putNumber p1 (sv_up S 1011 0 (0 : Int)) ok1 hp1 o3) (fun v S1 hq => ?_)
  obtain ⟨rfl, ok5, md6, hpo7⟩ := hq
  obtain ⟨g4, rfl⟩ : ∃ g, S1 = sv_sts (sv_up S 1011 0 (0 : Int)) [5, 1011] g := ⟨_, md6.eq⟩
  show sv_T sm_XS sm_cs sm_L sm_sh 2 (q_nameOfNumber p1 S) 247 10 [(0, .ref 0), (1, sv_I p1)] [] (sv_sts (sv_up S 1011 0 (0 : Int)) [5, 1011] g4)
  have md8 : sv_mod [5, 1011] S (sv_sts (sv_up S 1011 0 (0 : Int)) [5, 1011] g4) := sv_mod.sts md2 (by decide)
  have h := h g4 hpo7
  refine sv_aload_n hM dX12_nameOfNumber_10 rfl rfl ?_
  obtain ⟨o9, h⟩ := h
  refine sv_callV hM dX12_nameOfNumber_11 sm_iv_1144 (by decide) (sm_a0 _) rfl rfl (Nat.le_of_ble_eq_true rfl) sm_h246 (Nat.le_of_ble_eq_true rfl) (Nat.le_of_ble_eq_true rfl) (F' := 1) (Nat.le_of_ble_eq_true rfl) rfl (t_findName  (sv_sts (sv_up S 1011 0 (0 : Int)) [5, 1011] g4) ok5 o9) (fun v S1 hq => ?_)
  obtain ⟨r14, rfl, hr14, ok11, md12, hpo13⟩ := hq
  obtain rfl : (sv_sts (sv_up S 1011 0 (0 : Int)) [5, 1011] g4) = S1 := (funext fun j => md12 j (by intro q; cases q)).symm
  show sv_T sm_XS sm_cs sm_L sm_sh 2 (q_nameOfNumber p1 S) 247 14 [(0, .ref 0), (1, sv_I p1)] [sv_I r14] (sv_sts (sv_up S 1011 0 (0 : Int)) [5, 1011] g4)
  have h := h r14 hr14 hpo13
  exact sv_iret hM dX12_nameOfNumber_14 rfl rfl ⟨r14, rfl, hr14, ok11, md8, h⟩
def q_keysOf (p1 : Int) (S : sv_S) : Option Value → sv_S → Prop := fun v S' => v = none ∧ sm_ok S' ∧ sv_mod [1143, 1144, 5, 1011] S S' ∧ (True)
theorem la_keysOf_0 {x0 : Int} (h0 : 0 ≤ x0) (h1 : x0 < 647800) : 0 ≤ x0 ∧ x0 < 647800 := by omega
theorem la_keysOf_1 {x0 : Int} (h0 : 31 ≤ x0) : (0 : Int) ≤ 0 ∧ 0 ≤ x0 + 1 := by omega
theorem la_keysOf_2 {x0 x1 : Int} (h0 : x0 ≤ x1 + 1) : 0 ≤ x1 + 1 - x0 := by omega
theorem la_keysOf_3 {x0 : Int} (h0 : x0 = 0) : ¬ x0 = 1 := by omega
theorem la_keysOf_4 {x0 : Int} (h0 : x0 = 1) : 0 ≤ x0 := by omega
theorem la_keysOf_5 {x0 : Int} (h0 : 0 ≤ x0) (h1 : ¬ x0 = 0) : 0 < x0 := by omega
theorem la_keysOf_6 : (0 : Int) ≤ 29 ∧ (29 : Int) ≤ 1000 := by omega
theorem la_keysOf_7 {x0 : Int} (h0 : 0 ≤ x0) (h1 : x0 ≤ 127) : 0 ≤ x0 ∧ x0 ≤ 1000 := by omega
theorem la_keysOf_8 {x0 x1 x2 : Int} (h0 : x0 ≤ 90) (h1 : 0 ≤ x1) (h2 : ¬ x0 < x1) : x2 = 0 → sv_R (x1 + 1) ∧ (0 ≤ x1 + 1 ∧ x1 + 1 ≤ x0 + 1) ∧ x0 + 1 - (x1 + 1) < x0 + 1 - x1 := by omega
theorem la_keysOf_9 {x0 x1 : Int} (h0 : x0 ≤ 90) (h1 : 0 ≤ x1) (h2 : ¬ x0 < x1) : 0 ≤ x1 ∧ x1 ≤ 1000 := by omega
theorem la_keysOf_10 {x0 x1 : Int} (h0 : x0 ≤ 90) (h1 : 0 ≤ x1) (h2 : ¬ x0 < x1) : sv_R (x1 + 1) := by omega
theorem la_keysOf_11 {x0 x1 : Int} (h0 : 0 ≤ x0) (h1 : ¬ x1 < x0) : 0 ≤ x0 + 1 ∧ x0 + 1 ≤ x1 + 1 := by omega
theorem la_keysOf_12 {x0 x1 : Int} : x0 + 1 - (x1 + 1) < x0 + 1 - x1 := by omega
theorem la_keysOf_13 {x0 : Int} : ¬ x0 = 0 → (1 : Int) = 0 ∨ (1 : Int) = 1 := by omega
theorem la_keysOf_14 {x0 : Int} : x0 = 0 → (0 : Int) = 0 ∨ (0 : Int) = 1 := by omega
theorem la_keysOf_15 {x0 x1 : Int} : x0 = x1 → (1 : Int) = 0 ∨ (1 : Int) = 1 := by omega
theorem la_keysOf_16 {x0 x1 : Int} (h0 : ¬ x0 < x1) : x1 ≤ x0 := by omega
theorem la_keysOf_17 {x0 x1 : Int} (h0 : x0 ≤ x1) (h1 : ¬ x0 = x1) : x0 < x1 := by omega
theorem la_keysOf_18 {x0 x1 : Int} (h0 : x0 ≤ 90) (h1 : 0 ≤ x1) (h2 : x1 < x0) : 0 ≤ x1 ∧ x1 < 90 := by omega
theorem la_keysOf_19 : (1 : Int) = 0 ∨ (1 : Int) = 1 := by omega
theorem la_keysOf_20 {x0 : Int} (h0 : 31 ≤ x0) (h1 : x0 ≤ 90) : 31 ≤ x0 ∧ x0 ≤ 90 := by omega
theorem la_keysOf_21 {x0 : Int} (h0 : (-1) ≤ x0) (h1 : ¬ x0 = (-1)) : (-1) < x0 := by omega
theorem la_keysOf_22 {x0 x1 : Int} (h0 : x0 ≤ 90) (h1 : x1 < x0) (h2 : (-1) < x1) : 0 ≤ x1 ∧ x1 ≤ 1000 := by omega
theorem la_keysOf_23 {x0 : Int} (h0 : 31 ≤ x0) (h1 : x0 ≤ 90) : 0 ≤ x0 ∧ x0 ≤ 1000 := by omega
theorem la_keysOf_24 : (0 : Int) ≤ 28 ∧ (28 : Int) ≤ 1000 := by omega
theorem la_keysOf_25 : (0 : Int) ≤ 27 ∧ (27 : Int) ≤ 1000 := by omega
theorem la_keysOf_26 : (0 : Int) ≤ 26 ∧ (26 : Int) ≤ 1000 := by omega
theorem la_keysOf_27 : (0 : Int) ≤ 25 ∧ (25 : Int) ≤ 1000 := by omega
theorem la_keysOf_28 {x0 : Int} : 0 ≤ x0 % 2 := by omega
theorem la_keysOf_29 {x0 : Int} (h0 : 0 ≤ x0 % 2) (h1 : ¬ x0 % 2 = 0) : 0 < x0 % 2 := by omega
theorem la_keysOf_30 : (0 : Int) ≤ 19 ∧ (19 : Int) ≤ 1000 := by omega
set_option maxHeartbeats 2000000 in
theorem f_keysOf : ∀ (p1 : Int) (S : sv_S), sm_ok S → sv_R p1 → (31 ≤ (S 1007 0) ∧ (S 1007 0) ≤ 400 ∧ sm_LN (S 4) 400 (S 1007 0) ∧ 0 ≤ p1 ∧ p1 < 647800 ∧ 29 ≤ (S 1071 0) ∧ (S 1071 0) ≤ 127 ∧ 31 ≤ (S 1008 0) ∧ (S 1008 0) ≤ 90 ∧ 1 ≤ (S 1032 0) ∧ (S 1032 0) ≤ 11 ∧ 0 ≤ (S 1055 0) ∧ (S 1055 0) ≤ 19 ∧ (S 1071 0) = 29 + 6 * ((S 1032 0) - 1) + 2 * (S 1055 0) ∧ 0 ≤ (S 1046 0) ∧ (S 1046 0) + 2 * (S 1032 0) ≤ 500 ∧ sm_PD (S 1046 0) (S 1032 0) (S 1071 0) (S 1008 0) ∧ 0 ≤ (S 1071 0) * ((S 1008 0) + 1) ∧ (S 1071 0) * ((S 1008 0) + 1) ≤ 11557) → (∀ g1 : sv_S, (True) → (0 ≤ p1 ∧ p1 < 647800) ∧ (∀ r11 : Int, sv_R r11 → (r11 = (S 68 p1) % 1024 ∧ 0 ≤ r11 ∧ r11 ≤ 1023) → ((∀ g12 : sv_S, (True) → ((∀ g17 : sv_S, (True) → ((∀ g22 : sv_S, (True) → ((∀ g27 : sv_S, (True) → ((∀ g32 : sv_S, (True) → ((∀ g37 : sv_S, (True) → ((0 ≤ (0 : Int) ∧ (0 : Int) ≤ (S 1008 0) + 1) ∧ (∀ l3_43 : Int, sv_R l3_43 → ∀ g42 : sv_S, (0 ≤ l3_43 ∧ l3_43 ≤ (S 1008 0) + 1) → (0 ≤ (S 1008 0) + 1 - l3_43) ∧ (sv_R (S 1008 0) → ((((S 1008 0) < l3_43) → ((∀ g50 : sv_S, (True) → (∀ r60 : Int, sv_R r60 → (r60 = 0 ∨ r60 = 1) → (((r60 = (0 : Int)) → (True)) ∧ ((¬ (r60 = (0 : Int))) → (0 ≤ (29 : Int) ∧ (29 : Int) ≤ 1000) ∧ (∀ g62 : sv_S, (True) → (True)))))) ∧ (∀ r69 : Int, (0 ≤ r69 ∧ r69 ≤ (128 : Int)) → (((r69 = (0 : Int)) → (True)) ∧ ((¬ (r69 = (0 : Int))) → (∀ r74 : Int, sv_R r74 → (0 ≤ r74 ∧ r74 ≤ 127) → (0 ≤ r74 ∧ r74 ≤ 1000) ∧ (∀ g76 : sv_S, (True) → (True)))))))) ∧ ((¬ ((S 1008 0) < l3_43)) → ((∀ s83 : Int, sv_R s83 → (s83 = 0 ∨ s83 = 1) → (((s83 = (0 : Int)) → (sv_R (l3_43 + (1 : Int))) ∧ ((0 ≤ (l3_43 + (1 : Int)) ∧ (l3_43 + (1 : Int)) ≤ (S 1008 0) + 1) ∧ ((S 1008 0) + 1 - (l3_43 + (1 : Int))) < ((S 1008 0) + 1 - l3_43))) ∧ ((¬ (s83 = (0 : Int))) → (0 ≤ l3_43 ∧ l3_43 ≤ 1000) ∧ (∀ g87 : sv_S, (True) → (sv_R (l3_43 + (1 : Int))) ∧ ((0 ≤ (l3_43 + (1 : Int)) ∧ (l3_43 + (1 : Int)) ≤ (S 1008 0) + 1) ∧ ((S 1008 0) + 1 - (l3_43 + (1 : Int))) < ((S 1008 0) + 1 - l3_43)))))) ∧ (∀ r95 : Int, (0 ≤ r95 ∧ r95 ≤ (256 : Int)) → (((¬ r95 = (0 : Int)) → ((1 : Int) = 0 ∨ (1 : Int) = 1)) ∧ ((¬ (¬ r95 = (0 : Int))) → (∀ r96 : Int, (0 ≤ r96 ∧ r96 ≤ (64 : Int)) → (((r96 = (0 : Int)) → ((0 : Int) = 0 ∨ (0 : Int) = 1)) ∧ ((¬ (r96 = (0 : Int))) → (((l3_43 = (S 1008 0)) → ((1 : Int) = 0 ∨ (1 : Int) = 1)) ∧ ((¬ (l3_43 = (S 1008 0))) → (0 ≤ l3_43 ∧ l3_43 < 90) ∧ ((0 ≤ (S 87 l3_43) ∧ (S 87 l3_43) ≤ 1) → ((((S 87 l3_43) = (0 : Int)) → ((0 : Int) = 0 ∨ (0 : Int) = 1)) ∧ ((¬ ((S 87 l3_43) = (0 : Int))) → ((1 : Int) = 0 ∨ (1 : Int) = 1))))))))))))))))))) ∧ (∀ r100 : Int, (0 ≤ r100 ∧ r100 ≤ (32 : Int)) → (((r100 = (0 : Int)) → (True)) ∧ ((¬ (r100 = (0 : Int))) → (∀ r105 : Int, sv_R r105 → (True) → (31 ≤ (S 1007 0) ∧ (S 1007 0) ≤ 400 ∧ sm_LN (S 4) 400 (S 1007 0) ∧ 31 ≤ (S 1008 0) ∧ (S 1008 0) ≤ 90) ∧ (∀ r111 : Int, sv_R r111 → ∀ g107 : sv_S, (-1 ≤ r111 ∧ r111 < (S 1008 0)) → (((¬ r111 = (-1 : Int)) → (0 ≤ r111 ∧ r111 ≤ 1000) ∧ (∀ g115 : sv_S, (True) → (True))) ∧ ((¬ (¬ r111 = (-1 : Int))) → (sv_R (S 1008 0) → (0 ≤ (S 1008 0) ∧ (S 1008 0) ≤ 1000) ∧ (∀ g123 : sv_S, (True) → (True)))))))))))) ∧ (∀ r130 : Int, (0 ≤ r130 ∧ r130 ≤ (16 : Int)) → (((r130 = (0 : Int)) → (True)) ∧ ((¬ (r130 = (0 : Int))) → (0 ≤ (28 : Int) ∧ (28 : Int) ≤ 1000) ∧ (∀ g132 : sv_S, (True) → (True))))))) ∧ (∀ r139 : Int, (0 ≤ r139 ∧ r139 ≤ (8 : Int)) → (((r139 = (0 : Int)) → (True)) ∧ ((¬ (r139 = (0 : Int))) → (0 ≤ (27 : Int) ∧ (27 : Int) ≤ 1000) ∧ (∀ g141 : sv_S, (True) → (True))))))) ∧ (∀ r148 : Int, (0 ≤ r148 ∧ r148 ≤ (4 : Int)) → (((r148 = (0 : Int)) → (True)) ∧ ((¬ (r148 = (0 : Int))) → (0 ≤ (26 : Int) ∧ (26 : Int) ≤ 1000) ∧ (∀ g150 : sv_S, (True) → (True))))))) ∧ (∀ r157 : Int, (0 ≤ r157 ∧ r157 ≤ (2 : Int)) → (((r157 = (0 : Int)) → (True)) ∧ ((¬ (r157 = (0 : Int))) → (0 ≤ (25 : Int) ∧ (25 : Int) ≤ 1000) ∧ (∀ g159 : sv_S, (True) → (True))))))) ∧ ((((r11 % 2) = (0 : Int)) → (True)) ∧ ((¬ ((r11 % 2) = (0 : Int))) → (0 ≤ (19 : Int) ∧ (19 : Int) ≤ 1000) ∧ (∀ g167 : sv_S, (True) → (True))))))) := by
  intro p1
  intro S
  intro h1_
  intro h2_
  rintro ⟨h3_, ⟨h4_, ⟨h5_, ⟨h6_, ⟨h7_, ⟨h8_, ⟨h9_, ⟨h10_, ⟨h11_, ⟨h12_, ⟨h13_, ⟨h14_, ⟨h15_, ⟨h16_, ⟨h17_, ⟨h18_, ⟨h19_, ⟨h20_, h21_⟩⟩⟩⟩⟩⟩⟩⟩⟩⟩⟩⟩⟩⟩⟩⟩⟩⟩
  intro g1
  intro _
  refine ⟨(la_keysOf_0 h6_ h7_), ?_⟩
  intro r11
  intro h22_
  rintro ⟨h23_, ⟨h24_, h25_⟩⟩
  refine ⟨?_, ?_⟩
  · skip
    intro g12
    intro _
    refine ⟨?_, ?_⟩
    · skip
      intro g17
      intro _
      refine ⟨?_, ?_⟩
      · skip
        intro g22
        intro _
        refine ⟨?_, ?_⟩
        · skip
          intro g27
          intro _
          refine ⟨?_, ?_⟩
          · skip
            intro g32
            intro _
            refine ⟨?_, ?_⟩
            · skip
              intro g37
              intro _
              refine ⟨(la_keysOf_1 h10_), ?_⟩
              intro l3_43
              intro h26_
              intro g42
              rintro ⟨h27_, h28_⟩
              refine ⟨(la_keysOf_2 h28_), ?_⟩
              intro h29_
              refine ⟨?_, ?_⟩
              · skip
                intro h30_
                refine ⟨?_, ?_⟩
                · skip
                  intro g50
                  intro _
                  intro r60
                  intro h31_
                  intro h32_
                  refine ⟨?_, ?_⟩
                  · skip
                    intro h33_
                    have h34_ := (h32_.resolve_right (la_keysOf_3 h33_))
                    exact trivial
                  intro h35_
                  have h36_ := (h32_.resolve_left h35_)
                  refine ⟨la_keysOf_6, ?_⟩
                  intro g62
                  intro _
                  exact trivial
                intro r69
                rintro ⟨h37_, h38_⟩
                refine ⟨?_, ?_⟩
                · skip
                  intro h39_
                  exact trivial
                intro h40_
                intro r74
                intro h41_
                rintro ⟨h42_, h43_⟩
                refine ⟨(la_keysOf_7 h42_ h43_), ?_⟩
                intro g76
                intro _
                exact trivial
              intro h44_
              refine ⟨?_, ?_⟩
              · skip
                intro s83
                intro h45_
                intro h46_
                refine ⟨(la_keysOf_8 h11_ h27_ h44_), ?_⟩
                intro h47_
                have h48_ := (h46_.resolve_left h47_)
                refine ⟨(la_keysOf_9 h11_ h27_ h44_), ?_⟩
                intro g87
                intro _
                refine ⟨(la_keysOf_10 h11_ h27_ h44_), ?_⟩
                refine ⟨(la_keysOf_11 h27_ h44_), ?_⟩
                exact la_keysOf_12
              intro r95
              rintro ⟨h49_, h50_⟩
              refine ⟨la_keysOf_13, ?_⟩
              intro h51_
              intro r96
              rintro ⟨h52_, h53_⟩
              refine ⟨la_keysOf_14, ?_⟩
              intro h54_
              refine ⟨la_keysOf_15, ?_⟩
              intro h55_
              refine ⟨(la_keysOf_18 h11_ h27_ (la_keysOf_17 (la_keysOf_16 h44_) h55_)), ?_⟩
              rintro ⟨h56_, h57_⟩
              refine ⟨la_keysOf_14, ?_⟩
              intro h58_
              exact la_keysOf_19
            intro r100
            rintro ⟨h59_, h60_⟩
            refine ⟨?_, ?_⟩
            · skip
              intro h61_
              exact trivial
            intro h62_
            intro r105
            intro h63_
            intro _
            refine ⟨⟨h3_, ⟨h4_, ⟨h5_, (la_keysOf_20 h10_ h11_)⟩⟩⟩, ?_⟩
            intro r111
            intro h64_
            intro g107
            rintro ⟨h65_, h66_⟩
            refine ⟨?_, ?_⟩
            · skip
              intro h67_
              refine ⟨(la_keysOf_22 h11_ h66_ (la_keysOf_21 h65_ h67_)), ?_⟩
              intro g115
              intro _
              exact trivial
            intro h68_
            intro h69_
            refine ⟨(la_keysOf_23 h10_ h11_), ?_⟩
            intro g123
            intro _
            exact trivial
          intro r130
          rintro ⟨h70_, h71_⟩
          refine ⟨?_, ?_⟩
          · skip
            intro h72_
            exact trivial
          intro h73_
          refine ⟨la_keysOf_24, ?_⟩
          intro g132
          intro _
          exact trivial
        intro r139
        rintro ⟨h74_, h75_⟩
        refine ⟨?_, ?_⟩
        · skip
          intro h76_
          exact trivial
        intro h77_
        refine ⟨la_keysOf_25, ?_⟩
        intro g141
        intro _
        exact trivial
      intro r148
      rintro ⟨h78_, h79_⟩
      refine ⟨?_, ?_⟩
      · skip
        intro h80_
        exact trivial
      intro h81_
      refine ⟨la_keysOf_26, ?_⟩
      intro g150
      intro _
      exact trivial
    intro r157
    rintro ⟨h82_, h83_⟩
    refine ⟨?_, ?_⟩
    · skip
      intro h84_
      exact trivial
    intro h85_
    refine ⟨la_keysOf_27, ?_⟩
    intro g159
    intro _
    exact trivial
  refine ⟨?_, ?_⟩
  · skip
    intro h86_
    exact trivial
  intro h87_
  refine ⟨la_keysOf_30, ?_⟩
  intro g167
  intro _
  exact trivial
set_option maxRecDepth 8000 in
set_option maxHeartbeats 2000000 in
theorem t_keysOf : ∀ (p1 : Int) (S : sv_S), sm_ok S → sv_R p1 → (31 ≤ (S 1007 0) ∧ (S 1007 0) ≤ 400 ∧ sm_LN (S 4) 400 (S 1007 0) ∧ 0 ≤ p1 ∧ p1 < 647800 ∧ 29 ≤ (S 1071 0) ∧ (S 1071 0) ≤ 127 ∧ 31 ≤ (S 1008 0) ∧ (S 1008 0) ≤ 90 ∧ 1 ≤ (S 1032 0) ∧ (S 1032 0) ≤ 11 ∧ 0 ≤ (S 1055 0) ∧ (S 1055 0) ≤ 19 ∧ (S 1071 0) = 29 + 6 * ((S 1032 0) - 1) + 2 * (S 1055 0) ∧ 0 ≤ (S 1046 0) ∧ (S 1046 0) + 2 * (S 1032 0) ≤ 500 ∧ sm_PD (S 1046 0) (S 1032 0) (S 1071 0) (S 1008 0) ∧ 0 ≤ (S 1071 0) * ((S 1008 0) + 1) ∧ (S 1071 0) * ((S 1008 0) + 1) ≤ 11557) → sv_T sm_XS sm_cs sm_L sm_sh 3 (q_keysOf p1 S) 245 0 (lv_args 0 [.ref 0, sv_I p1]) [] S := by
  intro p1 S hok hp1 hpre
  have h := f_keysOf p1 S hok hp1 hpre
  have hM := sm_h245
  show sv_T sm_XS sm_cs sm_L sm_sh 3 (q_keysOf p1 S) 245 0 [(0, .ref 0), (1, sv_I p1)] [] S
  refine sv_aload_n hM dX12_keysOf_0 rfl rfl ?_
  refine sv_callV hM dX12_keysOf_1 sm_iv_1135 (by decide) (sm_a0 _) rfl rfl (Nat.le_of_ble_eq_true rfl) sm_h244 (Nat.le_of_ble_eq_true rfl) (Nat.le_of_ble_eq_true rfl) (F' := 0) (Nat.le_of_ble_eq_true rfl) rfl (t_noKeys  S hok) (fun v S1 hq => ?_)
  obtain ⟨rfl, ok2, md3, hpo4⟩ := hq
  obtain ⟨g1, rfl⟩ : ∃ g, S1 = sv_sts S [1143, 1144] g := ⟨_, md3.eq⟩
  show sv_T sm_XS sm_cs sm_L sm_sh 3 (q_keysOf p1 S) 245 4 [(0, .ref 0), (1, sv_I p1)] [] (sv_sts S [1143, 1144] g1)
  have md5 : sv_mod [1143, 1144, 5, 1011] S (sv_sts S [1143, 1144] g1) := sv_mod.sts sv_mod.rf (by decide)
  have h := h g1 hpo4
  refine sv_aload_n hM dX12_keysOf_4 rfl rfl ?_
  refine sv_iload_n hM dX12_keysOf_5 rfl rfl ?_
  obtain ⟨o6, h⟩ := h
  refine sv_callV hM dX12_keysOf_6 sm_iv_1047 (by decide) (sm_a0 _) rfl rfl (Nat.le_of_ble_eq_true rfl) sm_h202 (Nat.le_of_ble_eq_true rfl) (Nat.le_of_ble_eq_true rfl) (F' := 0) (Nat.le_of_ble_eq_true rfl) rfl (t_has p1 (sv_sts S [1143, 1144] g1) ok2 hp1 o6) (fun v S1 hq => ?_)
  obtain ⟨r11, rfl, hr11, ok8, md9, hpo10⟩ := hq
  obtain rfl : (sv_sts S [1143, 1144] g1) = S1 := (funext fun j => md9 j (by intro q; cases q)).symm
  show sv_T sm_XS sm_cs sm_L sm_sh 3 (q_keysOf p1 S) 245 9 [(0, .ref 0), (1, sv_I p1)] [sv_I r11] (sv_sts S [1143, 1144] g1)
  have h := h r11 hr11 hpo10
  refine sv_istore_n hM dX12_keysOf_9 (by decide) rfl ?_
  show sv_T sm_XS sm_cs sm_L sm_sh 3 (q_keysOf p1 S) 245 10 [(0, .ref 0), (1, sv_I p1), (2, sv_I r11)] [] (sv_sts S [1143, 1144] g1)
  have J165 : ∀ g12 : sv_S, sm_ok (sv_sts (sv_sts S [1143, 1144] g1) [1143, 1144] g12) → (True) → sv_T sm_XS sm_cs sm_L sm_sh 3 (q_keysOf p1 S) 245 22 [(0, .ref 0), (1, sv_I p1), (2, sv_I r11)] [] (sv_sts (sv_sts S [1143, 1144] g1) [1143, 1144] g12) := by
    intro  g12 ok13 hin14
    have h := h.1 g12 hin14
    have md15 : sv_mod [1143, 1144, 5, 1011] S (sv_sts (sv_sts S [1143, 1144] g1) [1143, 1144] g12) := sv_mod.sts md5 (by decide)
    have md16 : sv_mod [1143, 1144] (sv_sts S [1143, 1144] g1) (sv_sts (sv_sts S [1143, 1144] g1) [1143, 1144] g12) := sv_mod.sts sv_mod.rf (by decide)
    have J156 : ∀ g17 : sv_S, sm_ok (sv_sts (sv_sts (sv_sts S [1143, 1144] g1) [1143, 1144] g12) [1143, 1144] g17) → (True) → sv_T sm_XS sm_cs sm_L sm_sh 3 (q_keysOf p1 S) 245 34 [(0, .ref 0), (1, sv_I p1), (2, sv_I r11)] [] (sv_sts (sv_sts (sv_sts S [1143, 1144] g1) [1143, 1144] g12) [1143, 1144] g17) := by
      intro  g17 ok18 hin19
      have h := h.1 g17 hin19
      have md20 : sv_mod [1143, 1144, 5, 1011] S (sv_sts (sv_sts (sv_sts S [1143, 1144] g1) [1143, 1144] g12) [1143, 1144] g17) := sv_mod.sts md15 (by decide)
      have md21 : sv_mod [1143, 1144] (sv_sts (sv_sts S [1143, 1144] g1) [1143, 1144] g12) (sv_sts (sv_sts (sv_sts S [1143, 1144] g1) [1143, 1144] g12) [1143, 1144] g17) := sv_mod.sts sv_mod.rf (by decide)
      have J147 : ∀ g22 : sv_S, sm_ok (sv_sts (sv_sts (sv_sts (sv_sts S [1143, 1144] g1) [1143, 1144] g12) [1143, 1144] g17) [1143, 1144] g22) → (True) → sv_T sm_XS sm_cs sm_L sm_sh 3 (q_keysOf p1 S) 245 46 [(0, .ref 0), (1, sv_I p1), (2, sv_I r11)] [] (sv_sts (sv_sts (sv_sts (sv_sts S [1143, 1144] g1) [1143, 1144] g12) [1143, 1144] g17) [1143, 1144] g22) := by
        intro  g22 ok23 hin24
        have h := h.1 g22 hin24
        have md25 : sv_mod [1143, 1144, 5, 1011] S (sv_sts (sv_sts (sv_sts (sv_sts S [1143, 1144] g1) [1143, 1144] g12) [1143, 1144] g17) [1143, 1144] g22) := sv_mod.sts md20 (by decide)
        have md26 : sv_mod [1143, 1144] (sv_sts (sv_sts (sv_sts S [1143, 1144] g1) [1143, 1144] g12) [1143, 1144] g17) (sv_sts (sv_sts (sv_sts (sv_sts S [1143, 1144] g1) [1143, 1144] g12) [1143, 1144] g17) [1143, 1144] g22) := sv_mod.sts sv_mod.rf (by decide)
        have J138 : ∀ g27 : sv_S, sm_ok (sv_sts (sv_sts (sv_sts (sv_sts (sv_sts S [1143, 1144] g1) [1143, 1144] g12) [1143, 1144] g17) [1143, 1144] g22) [1143, 1144] g27) → (True) → sv_T sm_XS sm_cs sm_L sm_sh 3 (q_keysOf p1 S) 245 59 [(0, .ref 0), (1, sv_I p1), (2, sv_I r11)] [] (sv_sts (sv_sts (sv_sts (sv_sts (sv_sts S [1143, 1144] g1) [1143, 1144] g12) [1143, 1144] g17) [1143, 1144] g22) [1143, 1144] g27) := by
          intro  g27 ok28 hin29
          have h := h.1 g27 hin29
          have md30 : sv_mod [1143, 1144, 5, 1011] S (sv_sts (sv_sts (sv_sts (sv_sts (sv_sts S [1143, 1144] g1) [1143, 1144] g12) [1143, 1144] g17) [1143, 1144] g22) [1143, 1144] g27) := sv_mod.sts md25 (by decide)
          have md31 : sv_mod [1143, 1144] (sv_sts (sv_sts (sv_sts (sv_sts S [1143, 1144] g1) [1143, 1144] g12) [1143, 1144] g17) [1143, 1144] g22) (sv_sts (sv_sts (sv_sts (sv_sts (sv_sts S [1143, 1144] g1) [1143, 1144] g12) [1143, 1144] g17) [1143, 1144] g22) [1143, 1144] g27) := sv_mod.sts sv_mod.rf (by decide)
          have J129 : ∀ g32 : sv_S, sm_ok (sv_sts (sv_sts (sv_sts (sv_sts (sv_sts (sv_sts S [1143, 1144] g1) [1143, 1144] g12) [1143, 1144] g17) [1143, 1144] g22) [1143, 1144] g27) [1143, 1144] g32) → (True) → sv_T sm_XS sm_cs sm_L sm_sh 3 (q_keysOf p1 S) 245 72 [(0, .ref 0), (1, sv_I p1), (2, sv_I r11)] [] (sv_sts (sv_sts (sv_sts (sv_sts (sv_sts (sv_sts S [1143, 1144] g1) [1143, 1144] g12) [1143, 1144] g17) [1143, 1144] g22) [1143, 1144] g27) [1143, 1144] g32) := by
            intro  g32 ok33 hin34
            have h := h.1 g32 hin34
            have md35 : sv_mod [1143, 1144, 5, 1011] S (sv_sts (sv_sts (sv_sts (sv_sts (sv_sts (sv_sts S [1143, 1144] g1) [1143, 1144] g12) [1143, 1144] g17) [1143, 1144] g22) [1143, 1144] g27) [1143, 1144] g32) := sv_mod.sts md30 (by decide)
            have md36 : sv_mod [1143, 1144] (sv_sts (sv_sts (sv_sts (sv_sts (sv_sts S [1143, 1144] g1) [1143, 1144] g12) [1143, 1144] g17) [1143, 1144] g22) [1143, 1144] g27) (sv_sts (sv_sts (sv_sts (sv_sts (sv_sts (sv_sts S [1143, 1144] g1) [1143, 1144] g12) [1143, 1144] g17) [1143, 1144] g22) [1143, 1144] g27) [1143, 1144] g32) := sv_mod.sts sv_mod.rf (by decide)
            have J99 : ∀ g37 : sv_S, sm_ok (sv_sts (sv_sts (sv_sts (sv_sts (sv_sts (sv_sts (sv_sts S [1143, 1144] g1) [1143, 1144] g12) [1143, 1144] g17) [1143, 1144] g22) [1143, 1144] g27) [1143, 1144] g32) [1143, 1144, 5, 1011] g37) → (True) → sv_T sm_XS sm_cs sm_L sm_sh 3 (q_keysOf p1 S) 245 106 [(0, .ref 0), (1, sv_I p1), (2, sv_I r11)] [] (sv_sts (sv_sts (sv_sts (sv_sts (sv_sts (sv_sts (sv_sts S [1143, 1144] g1) [1143, 1144] g12) [1143, 1144] g17) [1143, 1144] g22) [1143, 1144] g27) [1143, 1144] g32) [1143, 1144, 5, 1011] g37) := by
              intro  g37 ok38 hin39
              have h := h.1 g37 hin39
              have md40 : sv_mod [1143, 1144, 5, 1011] S (sv_sts (sv_sts (sv_sts (sv_sts (sv_sts (sv_sts (sv_sts S [1143, 1144] g1) [1143, 1144] g12) [1143, 1144] g17) [1143, 1144] g22) [1143, 1144] g27) [1143, 1144] g32) [1143, 1144, 5, 1011] g37) := sv_mod.sts md35 (by decide)
              have md41 : sv_mod [1143, 1144, 5, 1011] (sv_sts (sv_sts (sv_sts (sv_sts (sv_sts (sv_sts S [1143, 1144] g1) [1143, 1144] g12) [1143, 1144] g17) [1143, 1144] g22) [1143, 1144] g27) [1143, 1144] g32) (sv_sts (sv_sts (sv_sts (sv_sts (sv_sts (sv_sts (sv_sts S [1143, 1144] g1) [1143, 1144] g12) [1143, 1144] g17) [1143, 1144] g22) [1143, 1144] g27) [1143, 1144] g32) [1143, 1144, 5, 1011] g37) := sv_mod.sts sv_mod.rf (by decide)
              refine sv_iconst (d := (0 : Int)) hM dX12_keysOf_106 rfl rfl ?_
              refine sv_istore_n hM dX12_keysOf_107 (by decide) rfl ?_
              show sv_T sm_XS sm_cs sm_L sm_sh 3 (q_keysOf p1 S) 245 108 [(0, .ref 0), (1, sv_I p1), (2, sv_I r11), (3, sv_I (0 : Int))] [] (sv_sts (sv_sts (sv_sts (sv_sts (sv_sts (sv_sts (sv_sts S [1143, 1144] g1) [1143, 1144] g12) [1143, 1144] g17) [1143, 1144] g22) [1143, 1144] g27) [1143, 1144] g32) [1143, 1144, 5, 1011] g37)
              obtain ⟨hin45, h⟩ := h
              have hJ : ∀ a : Int × sv_S, (sv_R a.1 ∧ sm_ok (sv_sts (sv_sts (sv_sts (sv_sts (sv_sts (sv_sts (sv_sts (sv_sts S [1143, 1144] g1) [1143, 1144] g12) [1143, 1144] g17) [1143, 1144] g22) [1143, 1144] g27) [1143, 1144] g32) [1143, 1144, 5, 1011] g37) [1143, 1144] a.2) ∧ (0 ≤ a.1 ∧ a.1 ≤ (S 1008 0) + 1)) → sv_T sm_XS sm_cs sm_L sm_sh 3 (q_keysOf p1 S) 245 108 [(0, .ref 0), (1, sv_I p1), (2, sv_I r11), (3, sv_I a.1)] [] (sv_sts (sv_sts (sv_sts (sv_sts (sv_sts (sv_sts (sv_sts (sv_sts S [1143, 1144] g1) [1143, 1144] g12) [1143, 1144] g17) [1143, 1144] g22) [1143, 1144] g27) [1143, 1144] g32) [1143, 1144, 5, 1011] g37) [1143, 1144] a.2) := by
                refine sv_loop (α := Int × sv_S) (fun a => sv_R a.1 ∧ sm_ok (sv_sts (sv_sts (sv_sts (sv_sts (sv_sts (sv_sts (sv_sts (sv_sts S [1143, 1144] g1) [1143, 1144] g12) [1143, 1144] g17) [1143, 1144] g22) [1143, 1144] g27) [1143, 1144] g32) [1143, 1144, 5, 1011] g37) [1143, 1144] a.2) ∧ (0 ≤ a.1 ∧ a.1 ≤ (S 1008 0) + 1)) (fun a => (S 1008 0) + 1 - a.1) (fun a => sv_T sm_XS sm_cs sm_L sm_sh 3 (q_keysOf p1 S) 245 108 [(0, .ref 0), (1, sv_I p1), (2, sv_I r11), (3, sv_I a.1)] [] (sv_sts (sv_sts (sv_sts (sv_sts (sv_sts (sv_sts (sv_sts (sv_sts S [1143, 1144] g1) [1143, 1144] g12) [1143, 1144] g17) [1143, 1144] g22) [1143, 1144] g27) [1143, 1144] g32) [1143, 1144, 5, 1011] g37) [1143, 1144] a.2)) (fun a q => (h a.1 q.1 a.2 q.2.2).1) (fun a q ih44 => ?_)
                obtain ⟨l3_43, g42⟩ := a
                obtain ⟨hl3_43, ok46, hin45i⟩ := q
                have h := (h l3_43 hl3_43 g42 hin45i).2
                show sv_T sm_XS sm_cs sm_L sm_sh 3 (q_keysOf p1 S) 245 108 [(0, .ref 0), (1, sv_I p1), (2, sv_I r11), (3, sv_I l3_43)] [] (sv_sts (sv_sts (sv_sts (sv_sts (sv_sts (sv_sts (sv_sts (sv_sts S [1143, 1144] g1) [1143, 1144] g12) [1143, 1144] g17) [1143, 1144] g22) [1143, 1144] g27) [1143, 1144] g32) [1143, 1144, 5, 1011] g37) [1143, 1144] g42)
                have md47 : sv_mod [1143, 1144, 5, 1011] S (sv_sts (sv_sts (sv_sts (sv_sts (sv_sts (sv_sts (sv_sts (sv_sts S [1143, 1144] g1) [1143, 1144] g12) [1143, 1144] g17) [1143, 1144] g22) [1143, 1144] g27) [1143, 1144] g32) [1143, 1144, 5, 1011] g37) [1143, 1144] g42) := sv_mod.sts md40 (by decide)
                have md48 : sv_mod [1143, 1144] (sv_sts (sv_sts (sv_sts (sv_sts (sv_sts (sv_sts (sv_sts S [1143, 1144] g1) [1143, 1144] g12) [1143, 1144] g17) [1143, 1144] g22) [1143, 1144] g27) [1143, 1144] g32) [1143, 1144, 5, 1011] g37) (sv_sts (sv_sts (sv_sts (sv_sts (sv_sts (sv_sts (sv_sts (sv_sts S [1143, 1144] g1) [1143, 1144] g12) [1143, 1144] g17) [1143, 1144] g22) [1143, 1144] g27) [1143, 1144] g32) [1143, 1144, 5, 1011] g37) [1143, 1144] g42) := sv_mod.sts sv_mod.rf (by decide)
                refine sv_iload_n hM dX12_keysOf_108 rfl rfl ?_
                refine sv_aload_n hM dX12_keysOf_109 rfl rfl ?_
                have k49 : sv_R (S 1008 0) := sm_okI ok46 sm_r1008 0
                have h := h k49
                refine sv_getI hM dX12_keysOf_110 sm_fl_762 (sm_a0 _) sm_k8 rfl (x := (S 1008 0)) rfl ?_
                refine sv_icmp_gt hM dX12_keysOf_113 hl3_43 k49 (t := 171) rfl rfl (fun hc => ?_) (fun hc => ?_)
                · have h := h.1 (hc)
                  have J68 : ∀ g50 : sv_S, sm_ok (sv_sts (sv_sts (sv_sts (sv_sts (sv_sts (sv_sts (sv_sts (sv_sts (sv_sts S [1143, 1144] g1) [1143, 1144] g12) [1143, 1144] g17) [1143, 1144] g22) [1143, 1144] g27) [1143, 1144] g32) [1143, 1144, 5, 1011] g37) [1143, 1144] g42) [1143, 1144] g50) → (True) → sv_T sm_XS sm_cs sm_L sm_sh 3 (q_keysOf p1 S) 245 188 [(0, .ref 0), (1, sv_I p1), (2, sv_I r11), (3, sv_I l3_43)] [] (sv_sts (sv_sts (sv_sts (sv_sts (sv_sts (sv_sts (sv_sts (sv_sts (sv_sts S [1143, 1144] g1) [1143, 1144] g12) [1143, 1144] g17) [1143, 1144] g22) [1143, 1144] g27) [1143, 1144] g32) [1143, 1144, 5, 1011] g37) [1143, 1144] g42) [1143, 1144] g50) := by
                    intro  g50 ok51 hin52
                    have h := h.1 g50 hin52
                    have md53 : sv_mod [1143, 1144, 5, 1011] S (sv_sts (sv_sts (sv_sts (sv_sts (sv_sts (sv_sts (sv_sts (sv_sts (sv_sts S [1143, 1144] g1) [1143, 1144] g12) [1143, 1144] g17) [1143, 1144] g22) [1143, 1144] g27) [1143, 1144] g32) [1143, 1144, 5, 1011] g37) [1143, 1144] g42) [1143, 1144] g50) := sv_mod.sts md47 (by decide)
                    have md54 : sv_mod [1143, 1144] (sv_sts (sv_sts (sv_sts (sv_sts (sv_sts (sv_sts (sv_sts S [1143, 1144] g1) [1143, 1144] g12) [1143, 1144] g17) [1143, 1144] g22) [1143, 1144] g27) [1143, 1144] g32) [1143, 1144, 5, 1011] g37) (sv_sts (sv_sts (sv_sts (sv_sts (sv_sts (sv_sts (sv_sts (sv_sts (sv_sts S [1143, 1144] g1) [1143, 1144] g12) [1143, 1144] g17) [1143, 1144] g22) [1143, 1144] g27) [1143, 1144] g32) [1143, 1144, 5, 1011] g37) [1143, 1144] g42) [1143, 1144] g50) := sv_mod.sts md48 (by decide)
                    have md55 : sv_mod [1143, 1144] (sv_sts (sv_sts (sv_sts (sv_sts (sv_sts (sv_sts (sv_sts (sv_sts S [1143, 1144] g1) [1143, 1144] g12) [1143, 1144] g17) [1143, 1144] g22) [1143, 1144] g27) [1143, 1144] g32) [1143, 1144, 5, 1011] g37) [1143, 1144] g42) (sv_sts (sv_sts (sv_sts (sv_sts (sv_sts (sv_sts (sv_sts (sv_sts (sv_sts S [1143, 1144] g1) [1143, 1144] g12) [1143, 1144] g17) [1143, 1144] g22) [1143, 1144] g27) [1143, 1144] g32) [1143, 1144, 5, 1011] g37) [1143, 1144] g42) [1143, 1144] g50) := sv_mod.sts sv_mod.rf (by decide)
                    refine sv_aload_n hM dX12_keysOf_188 rfl rfl ?_
                    refine sv_iload_n hM dX12_keysOf_189 rfl rfl ?_
                    refine sv_callV hM dX12_keysOf_190 sm_iv_1062 (by decide) (sm_a0 _) rfl rfl (Nat.le_of_ble_eq_true rfl) sm_h209 (Nat.le_of_ble_eq_true rfl) (Nat.le_of_ble_eq_true rfl) (F' := 0) (Nat.le_of_ble_eq_true rfl) rfl (t_hasLabels p1 (sv_sts (sv_sts (sv_sts (sv_sts (sv_sts (sv_sts (sv_sts (sv_sts (sv_sts S [1143, 1144] g1) [1143, 1144] g12) [1143, 1144] g17) [1143, 1144] g22) [1143, 1144] g27) [1143, 1144] g32) [1143, 1144, 5, 1011] g37) [1143, 1144] g42) [1143, 1144] g50) ok51 hp1 o6) (fun v S1 hq => ?_)
                    obtain ⟨r60, rfl, hr60, ok57, md58, hpo59⟩ := hq
                    obtain rfl : (sv_sts (sv_sts (sv_sts (sv_sts (sv_sts (sv_sts (sv_sts (sv_sts (sv_sts S [1143, 1144] g1) [1143, 1144] g12) [1143, 1144] g17) [1143, 1144] g22) [1143, 1144] g27) [1143, 1144] g32) [1143, 1144, 5, 1011] g37) [1143, 1144] g42) [1143, 1144] g50) = S1 := (funext fun j => md58 j (by intro q; cases q)).symm
                    show sv_T sm_XS sm_cs sm_L sm_sh 3 (q_keysOf p1 S) 245 193 [(0, .ref 0), (1, sv_I p1), (2, sv_I r11), (3, sv_I l3_43)] [sv_I r60] (sv_sts (sv_sts (sv_sts (sv_sts (sv_sts (sv_sts (sv_sts (sv_sts (sv_sts S [1143, 1144] g1) [1143, 1144] g12) [1143, 1144] g17) [1143, 1144] g22) [1143, 1144] g27) [1143, 1144] g32) [1143, 1144, 5, 1011] g37) [1143, 1144] g42) [1143, 1144] g50)
                    have h := h r60 hr60 hpo59
                    refine sv_cond_eq hM dX12_keysOf_193 hr60 (t := 202) rfl rfl (fun hc => ?_) (fun hc => ?_)
                    · have h := h.1 (hc)
                      exact sv_vret hM dX12_keysOf_202 rfl ⟨rfl, ok57, md53, h⟩
                    · have h := h.2 (hc)
                      refine sv_aload_n hM dX12_keysOf_196 rfl rfl ?_
                      refine sv_bipush (d := (29 : Int)) hM dX12_keysOf_197 rfl rfl ?_
                      obtain ⟨o61, h⟩ := h
                      refine sv_callV hM dX12_keysOf_199 sm_iv_1138 (by decide) (sm_a0 _) rfl rfl (Nat.le_of_ble_eq_true rfl) sm_h241 (Nat.le_of_ble_eq_true rfl) (Nat.le_of_ble_eq_true rfl) (F' := 0) (Nat.le_of_ble_eq_true rfl) rfl (t_addKey (29 : Int) (sv_sts (sv_sts (sv_sts (sv_sts (sv_sts (sv_sts (sv_sts (sv_sts (sv_sts S [1143, 1144] g1) [1143, 1144] g12) [1143, 1144] g17) [1143, 1144] g22) [1143, 1144] g27) [1143, 1144] g32) [1143, 1144, 5, 1011] g37) [1143, 1144] g42) [1143, 1144] g50) ok57 (⟨by decide, by decide⟩ : sv_R (29 : Int)) o61) (fun v S1 hq => ?_)
                      obtain ⟨rfl, ok63, md64, hpo65⟩ := hq
                      obtain ⟨g62, rfl⟩ : ∃ g, S1 = sv_sts (sv_sts (sv_sts (sv_sts (sv_sts (sv_sts (sv_sts (sv_sts (sv_sts (sv_sts S [1143, 1144] g1) [1143, 1144] g12) [1143, 1144] g17) [1143, 1144] g22) [1143, 1144] g27) [1143, 1144] g32) [1143, 1144, 5, 1011] g37) [1143, 1144] g42) [1143, 1144] g50) [1143, 1144] g := ⟨_, md64.eq⟩
                      show sv_T sm_XS sm_cs sm_L sm_sh 3 (q_keysOf p1 S) 245 202 [(0, .ref 0), (1, sv_I p1), (2, sv_I r11), (3, sv_I l3_43)] [] (sv_sts (sv_sts (sv_sts (sv_sts (sv_sts (sv_sts (sv_sts (sv_sts (sv_sts (sv_sts S [1143, 1144] g1) [1143, 1144] g12) [1143, 1144] g17) [1143, 1144] g22) [1143, 1144] g27) [1143, 1144] g32) [1143, 1144, 5, 1011] g37) [1143, 1144] g42) [1143, 1144] g50) [1143, 1144] g62)
                      have md66 : sv_mod [1143, 1144, 5, 1011] S (sv_sts (sv_sts (sv_sts (sv_sts (sv_sts (sv_sts (sv_sts (sv_sts (sv_sts (sv_sts S [1143, 1144] g1) [1143, 1144] g12) [1143, 1144] g17) [1143, 1144] g22) [1143, 1144] g27) [1143, 1144] g32) [1143, 1144, 5, 1011] g37) [1143, 1144] g42) [1143, 1144] g50) [1143, 1144] g62) := sv_mod.sts md53 (by decide)
                      have md67 : sv_mod [1143, 1144] (sv_sts (sv_sts (sv_sts (sv_sts (sv_sts (sv_sts (sv_sts S [1143, 1144] g1) [1143, 1144] g12) [1143, 1144] g17) [1143, 1144] g22) [1143, 1144] g27) [1143, 1144] g32) [1143, 1144, 5, 1011] g37) (sv_sts (sv_sts (sv_sts (sv_sts (sv_sts (sv_sts (sv_sts (sv_sts (sv_sts (sv_sts S [1143, 1144] g1) [1143, 1144] g12) [1143, 1144] g17) [1143, 1144] g22) [1143, 1144] g27) [1143, 1144] g32) [1143, 1144, 5, 1011] g37) [1143, 1144] g42) [1143, 1144] g50) [1143, 1144] g62) := sv_mod.sts md54 (by decide)
                      have h := h g62 hpo65
                      exact sv_vret hM dX12_keysOf_202 rfl ⟨rfl, ok63, md66, h⟩
                  have h := h.2
                  refine sv_iload_n hM dX12_keysOf_171 rfl rfl ?_
                  refine sv_sipush (d := (128 : Int)) hM dX12_keysOf_172 rfl rfl ?_
                  refine sv_iand hM dX12_keysOf_175 ⟨by decide, by decide⟩ rfl (fun r69 hr69 => ?_)
                  have h := h r69 hr69
                  refine sv_cond_eq hM dX12_keysOf_176 (⟨by omega, by omega⟩ : sv_R r69) (t := 188) rfl rfl (fun hc => ?_) (fun hc => ?_)
                  · have h := h.1 (hc)
                    have eS := sv_mod.eq (sv_mod.rf (l := [1143, 1144]) (S := (sv_sts (sv_sts (sv_sts (sv_sts (sv_sts (sv_sts (sv_sts (sv_sts S [1143, 1144] g1) [1143, 1144] g12) [1143, 1144] g17) [1143, 1144] g22) [1143, 1144] g27) [1143, 1144] g32) [1143, 1144, 5, 1011] g37) [1143, 1144] g42)))
                    have hb := J68 (sv_sts (sv_sts (sv_sts (sv_sts (sv_sts (sv_sts (sv_sts (sv_sts S [1143, 1144] g1) [1143, 1144] g12) [1143, 1144] g17) [1143, 1144] g22) [1143, 1144] g27) [1143, 1144] g32) [1143, 1144, 5, 1011] g37) [1143, 1144] g42) (by rw [← eS]; exact ok46) h
                    have hb : sv_T sm_XS sm_cs sm_L sm_sh 3 (q_keysOf p1 S) 245 188 [(0, .ref 0), (1, sv_I p1), (2, sv_I r11), (3, sv_I l3_43)] [] (sv_sts (sv_sts (sv_sts (sv_sts (sv_sts (sv_sts (sv_sts (sv_sts S [1143, 1144] g1) [1143, 1144] g12) [1143, 1144] g17) [1143, 1144] g22) [1143, 1144] g27) [1143, 1144] g32) [1143, 1144, 5, 1011] g37) [1143, 1144] g42) := Eq.mpr (congrArg (fun Z => sv_T sm_XS sm_cs sm_L sm_sh 3 (q_keysOf p1 S) 245 188 [(0, .ref 0), (1, sv_I p1), (2, sv_I r11), (3, sv_I l3_43)] [] Z) eS) hb
                    exact sv_less (lv := [(0, .ref 0), (1, sv_I p1), (2, sv_I r11), (3, sv_I l3_43)]) (sv_Sub_cons rfl (sv_Sub_cons rfl (sv_Sub_cons rfl (sv_Sub_cons rfl sv_Sub_nil)))) hb
                  · have h := h.2 (hc)
                    refine sv_aload_n hM dX12_keysOf_179 rfl rfl ?_
                    refine sv_aload_n hM dX12_keysOf_180 rfl rfl ?_
                    refine sv_iload_n hM dX12_keysOf_181 rfl rfl ?_
                    refine sv_callV hM dX12_keysOf_182 sm_iv_1053 (by decide) (sm_a0 _) rfl rfl (Nat.le_of_ble_eq_true rfl) sm_h203 (Nat.le_of_ble_eq_true rfl) (Nat.le_of_ble_eq_true rfl) (F' := 0) (Nat.le_of_ble_eq_true rfl) rfl (t_name p1 (sv_sts (sv_sts (sv_sts (sv_sts (sv_sts (sv_sts (sv_sts (sv_sts S [1143, 1144] g1) [1143, 1144] g12) [1143, 1144] g17) [1143, 1144] g22) [1143, 1144] g27) [1143, 1144] g32) [1143, 1144, 5, 1011] g37) [1143, 1144] g42) ok46 hp1 o6) (fun v S1 hq => ?_)
                    obtain ⟨r74, rfl, hr74, ok71, md72, hpo73⟩ := hq
                    obtain rfl : (sv_sts (sv_sts (sv_sts (sv_sts (sv_sts (sv_sts (sv_sts (sv_sts S [1143, 1144] g1) [1143, 1144] g12) [1143, 1144] g17) [1143, 1144] g22) [1143, 1144] g27) [1143, 1144] g32) [1143, 1144, 5, 1011] g37) [1143, 1144] g42) = S1 := (funext fun j => md72 j (by intro q; cases q)).symm
                    show sv_T sm_XS sm_cs sm_L sm_sh 3 (q_keysOf p1 S) 245 185 [(0, .ref 0), (1, sv_I p1), (2, sv_I r11), (3, sv_I l3_43)] [sv_I r74, .ref 0] (sv_sts (sv_sts (sv_sts (sv_sts (sv_sts (sv_sts (sv_sts (sv_sts S [1143, 1144] g1) [1143, 1144] g12) [1143, 1144] g17) [1143, 1144] g22) [1143, 1144] g27) [1143, 1144] g32) [1143, 1144, 5, 1011] g37) [1143, 1144] g42)
                    have h := h r74 hr74 hpo73
                    obtain ⟨o75, h⟩ := h
                    refine sv_callV hM dX12_keysOf_185 sm_iv_1138 (by decide) (sm_a0 _) rfl rfl (Nat.le_of_ble_eq_true rfl) sm_h241 (Nat.le_of_ble_eq_true rfl) (Nat.le_of_ble_eq_true rfl) (F' := 0) (Nat.le_of_ble_eq_true rfl) rfl (t_addKey r74 (sv_sts (sv_sts (sv_sts (sv_sts (sv_sts (sv_sts (sv_sts (sv_sts S [1143, 1144] g1) [1143, 1144] g12) [1143, 1144] g17) [1143, 1144] g22) [1143, 1144] g27) [1143, 1144] g32) [1143, 1144, 5, 1011] g37) [1143, 1144] g42) ok71 hr74 o75) (fun v S1 hq => ?_)
                    obtain ⟨rfl, ok77, md78, hpo79⟩ := hq
                    obtain ⟨g76, rfl⟩ : ∃ g, S1 = sv_sts (sv_sts (sv_sts (sv_sts (sv_sts (sv_sts (sv_sts (sv_sts (sv_sts S [1143, 1144] g1) [1143, 1144] g12) [1143, 1144] g17) [1143, 1144] g22) [1143, 1144] g27) [1143, 1144] g32) [1143, 1144, 5, 1011] g37) [1143, 1144] g42) [1143, 1144] g := ⟨_, md78.eq⟩
                    show sv_T sm_XS sm_cs sm_L sm_sh 3 (q_keysOf p1 S) 245 188 [(0, .ref 0), (1, sv_I p1), (2, sv_I r11), (3, sv_I l3_43)] [] (sv_sts (sv_sts (sv_sts (sv_sts (sv_sts (sv_sts (sv_sts (sv_sts (sv_sts S [1143, 1144] g1) [1143, 1144] g12) [1143, 1144] g17) [1143, 1144] g22) [1143, 1144] g27) [1143, 1144] g32) [1143, 1144, 5, 1011] g37) [1143, 1144] g42) [1143, 1144] g76)
                    have md80 : sv_mod [1143, 1144, 5, 1011] S (sv_sts (sv_sts (sv_sts (sv_sts (sv_sts (sv_sts (sv_sts (sv_sts (sv_sts S [1143, 1144] g1) [1143, 1144] g12) [1143, 1144] g17) [1143, 1144] g22) [1143, 1144] g27) [1143, 1144] g32) [1143, 1144, 5, 1011] g37) [1143, 1144] g42) [1143, 1144] g76) := sv_mod.sts md47 (by decide)
                    have md81 : sv_mod [1143, 1144] (sv_sts (sv_sts (sv_sts (sv_sts (sv_sts (sv_sts (sv_sts S [1143, 1144] g1) [1143, 1144] g12) [1143, 1144] g17) [1143, 1144] g22) [1143, 1144] g27) [1143, 1144] g32) [1143, 1144, 5, 1011] g37) (sv_sts (sv_sts (sv_sts (sv_sts (sv_sts (sv_sts (sv_sts (sv_sts (sv_sts S [1143, 1144] g1) [1143, 1144] g12) [1143, 1144] g17) [1143, 1144] g22) [1143, 1144] g27) [1143, 1144] g32) [1143, 1144, 5, 1011] g37) [1143, 1144] g42) [1143, 1144] g76) := sv_mod.sts md48 (by decide)
                    have md82 : sv_mod [1143, 1144] (sv_sts (sv_sts (sv_sts (sv_sts (sv_sts (sv_sts (sv_sts (sv_sts S [1143, 1144] g1) [1143, 1144] g12) [1143, 1144] g17) [1143, 1144] g22) [1143, 1144] g27) [1143, 1144] g32) [1143, 1144, 5, 1011] g37) [1143, 1144] g42) (sv_sts (sv_sts (sv_sts (sv_sts (sv_sts (sv_sts (sv_sts (sv_sts (sv_sts S [1143, 1144] g1) [1143, 1144] g12) [1143, 1144] g17) [1143, 1144] g22) [1143, 1144] g27) [1143, 1144] g32) [1143, 1144, 5, 1011] g37) [1143, 1144] g42) [1143, 1144] g76) := sv_mod.sts (sv_mod.rf (l := [1143, 1144]) (S := (sv_sts (sv_sts (sv_sts (sv_sts (sv_sts (sv_sts (sv_sts (sv_sts S [1143, 1144] g1) [1143, 1144] g12) [1143, 1144] g17) [1143, 1144] g22) [1143, 1144] g27) [1143, 1144] g32) [1143, 1144, 5, 1011] g37) [1143, 1144] g42))) (by decide)
                    have h := h g76 hpo79
                    have eS := sv_mod.eq md82
                    have hb := J68 (sv_sts (sv_sts (sv_sts (sv_sts (sv_sts (sv_sts (sv_sts (sv_sts (sv_sts S [1143, 1144] g1) [1143, 1144] g12) [1143, 1144] g17) [1143, 1144] g22) [1143, 1144] g27) [1143, 1144] g32) [1143, 1144, 5, 1011] g37) [1143, 1144] g42) [1143, 1144] g76) (by rw [← eS]; exact ok77) h
                    have hb : sv_T sm_XS sm_cs sm_L sm_sh 3 (q_keysOf p1 S) 245 188 [(0, .ref 0), (1, sv_I p1), (2, sv_I r11), (3, sv_I l3_43)] [] (sv_sts (sv_sts (sv_sts (sv_sts (sv_sts (sv_sts (sv_sts (sv_sts (sv_sts S [1143, 1144] g1) [1143, 1144] g12) [1143, 1144] g17) [1143, 1144] g22) [1143, 1144] g27) [1143, 1144] g32) [1143, 1144, 5, 1011] g37) [1143, 1144] g42) [1143, 1144] g76) := Eq.mpr (congrArg (fun Z => sv_T sm_XS sm_cs sm_L sm_sh 3 (q_keysOf p1 S) 245 188 [(0, .ref 0), (1, sv_I p1), (2, sv_I r11), (3, sv_I l3_43)] [] Z) eS) hb
                    exact sv_less (lv := [(0, .ref 0), (1, sv_I p1), (2, sv_I r11), (3, sv_I l3_43)]) (sv_Sub_cons rfl (sv_Sub_cons rfl (sv_Sub_cons rfl (sv_Sub_cons rfl sv_Sub_nil)))) hb
                · have h := h.2 (hc)
                  have J94 : ∀ s83 : Int, sv_R s83 → (s83 = 0 ∨ s83 = 1) → sv_T sm_XS sm_cs sm_L sm_sh 3 (q_keysOf p1 S) 245 153 [(0, .ref 0), (1, sv_I p1), (2, sv_I r11), (3, sv_I l3_43)] [sv_I s83] (sv_sts (sv_sts (sv_sts (sv_sts (sv_sts (sv_sts (sv_sts (sv_sts S [1143, 1144] g1) [1143, 1144] g12) [1143, 1144] g17) [1143, 1144] g22) [1143, 1144] g27) [1143, 1144] g32) [1143, 1144, 5, 1011] g37) [1143, 1144] g42) := by
                    intro s83 hs83 hin84
                    have h := h.1 s83 hs83 hin84
                    refine sv_istore hM dX12_keysOf_153 (by decide) rfl ?_
                    show sv_T sm_XS sm_cs sm_L sm_sh 3 (q_keysOf p1 S) 245 155 [(0, .ref 0), (1, sv_I p1), (2, sv_I r11), (3, sv_I l3_43), (4, sv_I s83)] [] (sv_sts (sv_sts (sv_sts (sv_sts (sv_sts (sv_sts (sv_sts (sv_sts S [1143, 1144] g1) [1143, 1144] g12) [1143, 1144] g17) [1143, 1144] g22) [1143, 1144] g27) [1143, 1144] g32) [1143, 1144, 5, 1011] g37) [1143, 1144] g42)
                    refine sv_iload hM dX12_keysOf_155 rfl rfl ?_
                    refine sv_cond_eq hM dX12_keysOf_157 hs83 (t := 165) rfl rfl (fun hc => ?_) (fun hc => ?_)
                    · have h := h.1 (hc)
                      refine sv_iinc (d := (1 : Int)) hM dX12_keysOf_165 rfl (by decide) rfl rfl ?_
                      show sv_T sm_XS sm_cs sm_L sm_sh 3 (q_keysOf p1 S) 245 168 [(0, .ref 0), (1, sv_I p1), (2, sv_I r11), (3, sv_I (l3_43 + (1 : Int))), (4, sv_I s83)] [] (sv_sts (sv_sts (sv_sts (sv_sts (sv_sts (sv_sts (sv_sts (sv_sts S [1143, 1144] g1) [1143, 1144] g12) [1143, 1144] g17) [1143, 1144] g22) [1143, 1144] g27) [1143, 1144] g32) [1143, 1144, 5, 1011] g37) [1143, 1144] g42)
                      refine sv_goto hM dX12_keysOf_168 (pc' := 108) rfl ?_
                      obtain ⟨o85, h⟩ := h
                      have eS := sv_mod.eq md48
                      have hb := ih44 ((l3_43 + (1 : Int)), (sv_sts (sv_sts (sv_sts (sv_sts (sv_sts (sv_sts (sv_sts (sv_sts S [1143, 1144] g1) [1143, 1144] g12) [1143, 1144] g17) [1143, 1144] g22) [1143, 1144] g27) [1143, 1144] g32) [1143, 1144, 5, 1011] g37) [1143, 1144] g42)) ⟨o85, (by rw [← eS]; exact ok46), h.1⟩ h.2
                      have hb : sv_T sm_XS sm_cs sm_L sm_sh 3 (q_keysOf p1 S) 245 108 [(0, .ref 0), (1, sv_I p1), (2, sv_I r11), (3, sv_I (l3_43 + (1 : Int)))] [] (sv_sts (sv_sts (sv_sts (sv_sts (sv_sts (sv_sts (sv_sts (sv_sts S [1143, 1144] g1) [1143, 1144] g12) [1143, 1144] g17) [1143, 1144] g22) [1143, 1144] g27) [1143, 1144] g32) [1143, 1144, 5, 1011] g37) [1143, 1144] g42) := Eq.mpr (congrArg (fun Z => sv_T sm_XS sm_cs sm_L sm_sh 3 (q_keysOf p1 S) 245 108 [(0, .ref 0), (1, sv_I p1), (2, sv_I r11), (3, sv_I (l3_43 + (1 : Int)))] [] Z) eS) hb
                      exact sv_less (lv := [(0, .ref 0), (1, sv_I p1), (2, sv_I r11), (3, sv_I (l3_43 + (1 : Int)))]) (sv_Sub_cons rfl (sv_Sub_cons rfl (sv_Sub_cons rfl (sv_Sub_cons rfl sv_Sub_nil)))) hb
                    · have h := h.2 (hc)
                      refine sv_aload_n hM dX12_keysOf_160 rfl rfl ?_
                      refine sv_iload_n hM dX12_keysOf_161 rfl rfl ?_
                      obtain ⟨o86, h⟩ := h
                      refine sv_callV hM dX12_keysOf_162 sm_iv_1138 (by decide) (sm_a0 _) rfl rfl (Nat.le_of_ble_eq_true rfl) sm_h241 (Nat.le_of_ble_eq_true rfl) (Nat.le_of_ble_eq_true rfl) (F' := 0) (Nat.le_of_ble_eq_true rfl) rfl (t_addKey l3_43 (sv_sts (sv_sts (sv_sts (sv_sts (sv_sts (sv_sts (sv_sts (sv_sts S [1143, 1144] g1) [1143, 1144] g12) [1143, 1144] g17) [1143, 1144] g22) [1143, 1144] g27) [1143, 1144] g32) [1143, 1144, 5, 1011] g37) [1143, 1144] g42) ok46 hl3_43 o86) (fun v S1 hq => ?_)
                      obtain ⟨rfl, ok88, md89, hpo90⟩ := hq
                      obtain ⟨g87, rfl⟩ : ∃ g, S1 = sv_sts (sv_sts (sv_sts (sv_sts (sv_sts (sv_sts (sv_sts (sv_sts (sv_sts S [1143, 1144] g1) [1143, 1144] g12) [1143, 1144] g17) [1143, 1144] g22) [1143, 1144] g27) [1143, 1144] g32) [1143, 1144, 5, 1011] g37) [1143, 1144] g42) [1143, 1144] g := ⟨_, md89.eq⟩
                      show sv_T sm_XS sm_cs sm_L sm_sh 3 (q_keysOf p1 S) 245 165 [(0, .ref 0), (1, sv_I p1), (2, sv_I r11), (3, sv_I l3_43), (4, sv_I s83)] [] (sv_sts (sv_sts (sv_sts (sv_sts (sv_sts (sv_sts (sv_sts (sv_sts (sv_sts S [1143, 1144] g1) [1143, 1144] g12) [1143, 1144] g17) [1143, 1144] g22) [1143, 1144] g27) [1143, 1144] g32) [1143, 1144, 5, 1011] g37) [1143, 1144] g42) [1143, 1144] g87)
                      have md91 : sv_mod [1143, 1144, 5, 1011] S (sv_sts (sv_sts (sv_sts (sv_sts (sv_sts (sv_sts (sv_sts (sv_sts (sv_sts S [1143, 1144] g1) [1143, 1144] g12) [1143, 1144] g17) [1143, 1144] g22) [1143, 1144] g27) [1143, 1144] g32) [1143, 1144, 5, 1011] g37) [1143, 1144] g42) [1143, 1144] g87) := sv_mod.sts md47 (by decide)
                      have md92 : sv_mod [1143, 1144] (sv_sts (sv_sts (sv_sts (sv_sts (sv_sts (sv_sts (sv_sts S [1143, 1144] g1) [1143, 1144] g12) [1143, 1144] g17) [1143, 1144] g22) [1143, 1144] g27) [1143, 1144] g32) [1143, 1144, 5, 1011] g37) (sv_sts (sv_sts (sv_sts (sv_sts (sv_sts (sv_sts (sv_sts (sv_sts (sv_sts S [1143, 1144] g1) [1143, 1144] g12) [1143, 1144] g17) [1143, 1144] g22) [1143, 1144] g27) [1143, 1144] g32) [1143, 1144, 5, 1011] g37) [1143, 1144] g42) [1143, 1144] g87) := sv_mod.sts md48 (by decide)
                      have h := h g87 hpo90
                      refine sv_iinc (d := (1 : Int)) hM dX12_keysOf_165 rfl (by decide) rfl rfl ?_
                      show sv_T sm_XS sm_cs sm_L sm_sh 3 (q_keysOf p1 S) 245 168 [(0, .ref 0), (1, sv_I p1), (2, sv_I r11), (3, sv_I (l3_43 + (1 : Int))), (4, sv_I s83)] [] (sv_sts (sv_sts (sv_sts (sv_sts (sv_sts (sv_sts (sv_sts (sv_sts (sv_sts S [1143, 1144] g1) [1143, 1144] g12) [1143, 1144] g17) [1143, 1144] g22) [1143, 1144] g27) [1143, 1144] g32) [1143, 1144, 5, 1011] g37) [1143, 1144] g42) [1143, 1144] g87)
                      refine sv_goto hM dX12_keysOf_168 (pc' := 108) rfl ?_
                      obtain ⟨o93, h⟩ := h
                      have eS := sv_mod.eq md92
                      have hb := ih44 ((l3_43 + (1 : Int)), (sv_sts (sv_sts (sv_sts (sv_sts (sv_sts (sv_sts (sv_sts (sv_sts (sv_sts S [1143, 1144] g1) [1143, 1144] g12) [1143, 1144] g17) [1143, 1144] g22) [1143, 1144] g27) [1143, 1144] g32) [1143, 1144, 5, 1011] g37) [1143, 1144] g42) [1143, 1144] g87)) ⟨o93, (by rw [← eS]; exact ok88), h.1⟩ h.2
                      have hb : sv_T sm_XS sm_cs sm_L sm_sh 3 (q_keysOf p1 S) 245 108 [(0, .ref 0), (1, sv_I p1), (2, sv_I r11), (3, sv_I (l3_43 + (1 : Int)))] [] (sv_sts (sv_sts (sv_sts (sv_sts (sv_sts (sv_sts (sv_sts (sv_sts (sv_sts S [1143, 1144] g1) [1143, 1144] g12) [1143, 1144] g17) [1143, 1144] g22) [1143, 1144] g27) [1143, 1144] g32) [1143, 1144, 5, 1011] g37) [1143, 1144] g42) [1143, 1144] g87) := Eq.mpr (congrArg (fun Z => sv_T sm_XS sm_cs sm_L sm_sh 3 (q_keysOf p1 S) 245 108 [(0, .ref 0), (1, sv_I p1), (2, sv_I r11), (3, sv_I (l3_43 + (1 : Int)))] [] Z) eS) hb
                      exact sv_less (lv := [(0, .ref 0), (1, sv_I p1), (2, sv_I r11), (3, sv_I (l3_43 + (1 : Int)))]) (sv_Sub_cons rfl (sv_Sub_cons rfl (sv_Sub_cons rfl (sv_Sub_cons rfl sv_Sub_nil)))) hb
                  have h := h.2
                  refine sv_iload_n hM dX12_keysOf_116 rfl rfl ?_
                  refine sv_sipush (d := (256 : Int)) hM dX12_keysOf_117 rfl rfl ?_
                  refine sv_iand hM dX12_keysOf_120 ⟨by decide, by decide⟩ rfl (fun r95 hr95 => ?_)
                  have h := h r95 hr95
                  refine sv_cond_ne hM dX12_keysOf_121 (⟨by omega, by omega⟩ : sv_R r95) (t := 148) rfl rfl (fun hc => ?_) (fun hc => ?_)
                  · have h := h.1 (hc)
                    refine sv_iconst (d := (1 : Int)) hM dX12_keysOf_148 rfl rfl ?_
                    refine sv_goto hM dX12_keysOf_149 (pc' := 153) rfl ?_
                    have hb := J94 (1 : Int) (⟨by decide, by decide⟩ : sv_R (1 : Int)) h
                    exact sv_less (lv := [(0, .ref 0), (1, sv_I p1), (2, sv_I r11), (3, sv_I l3_43)]) (sv_Sub_cons rfl (sv_Sub_cons rfl (sv_Sub_cons rfl (sv_Sub_cons rfl sv_Sub_nil)))) hb
                  · have h := h.2 (hc)
                    refine sv_iload_n hM dX12_keysOf_124 rfl rfl ?_
                    refine sv_bipush (d := (64 : Int)) hM dX12_keysOf_125 rfl rfl ?_
                    refine sv_iand hM dX12_keysOf_127 ⟨by decide, by decide⟩ rfl (fun r96 hr96 => ?_)
                    have h := h r96 hr96
                    refine sv_cond_eq hM dX12_keysOf_128 (⟨by omega, by omega⟩ : sv_R r96) (t := 152) rfl rfl (fun hc => ?_) (fun hc => ?_)
                    · have h := h.1 (hc)
                      refine sv_iconst (d := (0 : Int)) hM dX12_keysOf_152 rfl rfl ?_
                      have hb := J94 (0 : Int) (⟨by decide, by decide⟩ : sv_R (0 : Int)) h
                      exact sv_less (lv := [(0, .ref 0), (1, sv_I p1), (2, sv_I r11), (3, sv_I l3_43)]) (sv_Sub_cons rfl (sv_Sub_cons rfl (sv_Sub_cons rfl (sv_Sub_cons rfl sv_Sub_nil)))) hb
                    · have h := h.2 (hc)
                      refine sv_iload_n hM dX12_keysOf_131 rfl rfl ?_
                      refine sv_aload_n hM dX12_keysOf_132 rfl rfl ?_
                      refine sv_getI hM dX12_keysOf_133 sm_fl_762 (sm_a0 _) sm_k8 rfl (x := (S 1008 0)) rfl ?_
                      refine sv_icmp_eq hM dX12_keysOf_136 hl3_43 k49 (t := 148) rfl rfl (fun hc => ?_) (fun hc => ?_)
                      · have h := h.1 (hc)
                        refine sv_iconst (d := (1 : Int)) hM dX12_keysOf_148 rfl rfl ?_
                        refine sv_goto hM dX12_keysOf_149 (pc' := 153) rfl ?_
                        have hb := J94 (1 : Int) (⟨by decide, by decide⟩ : sv_R (1 : Int)) h
                        exact sv_less (lv := [(0, .ref 0), (1, sv_I p1), (2, sv_I r11), (3, sv_I l3_43)]) (sv_Sub_cons rfl (sv_Sub_cons rfl (sv_Sub_cons rfl (sv_Sub_cons rfl sv_Sub_nil)))) hb
                      · have h := h.2 (hc)
                        refine sv_aload_n hM dX12_keysOf_139 rfl rfl ?_
                        refine sv_getA hM dX12_keysOf_140 sm_fl_274 (sm_a0 _) sm_k139 rfl ?_
                        refine sv_iload_n hM dX12_keysOf_143 rfl rfl ?_
                        obtain ⟨o97, h⟩ := h
                        have k98 : (0 ≤ (S 87 l3_43) ∧ (S 87 l3_43) ≤ 1) := sm_okZ ok46 sm_r87 l3_43
                        have h := h k98
                        refine sv_zald hM dX12_keysOf_144 (sm_a87 _) (by decide) o97.1 o97.2 rfl (x := (S 87 l3_43)) rfl ?_
                        refine sv_cond_eq hM dX12_keysOf_145 (sv_R01 k98) (t := 152) rfl rfl (fun hc => ?_) (fun hc => ?_)
                        · have h := h.1 (hc)
                          refine sv_iconst (d := (0 : Int)) hM dX12_keysOf_152 rfl rfl ?_
                          have hb := J94 (0 : Int) (⟨by decide, by decide⟩ : sv_R (0 : Int)) h
                          exact sv_less (lv := [(0, .ref 0), (1, sv_I p1), (2, sv_I r11), (3, sv_I l3_43)]) (sv_Sub_cons rfl (sv_Sub_cons rfl (sv_Sub_cons rfl (sv_Sub_cons rfl sv_Sub_nil)))) hb
                        · have h := h.2 (hc)
                          refine sv_iconst (d := (1 : Int)) hM dX12_keysOf_148 rfl rfl ?_
                          refine sv_goto hM dX12_keysOf_149 (pc' := 153) rfl ?_
                          have hb := J94 (1 : Int) (⟨by decide, by decide⟩ : sv_R (1 : Int)) h
                          exact sv_less (lv := [(0, .ref 0), (1, sv_I p1), (2, sv_I r11), (3, sv_I l3_43)]) (sv_Sub_cons rfl (sv_Sub_cons rfl (sv_Sub_cons rfl (sv_Sub_cons rfl sv_Sub_nil)))) hb
              have eS := sv_mod.eq (sv_mod.rf (l := [1143, 1144]) (S := (sv_sts (sv_sts (sv_sts (sv_sts (sv_sts (sv_sts (sv_sts S [1143, 1144] g1) [1143, 1144] g12) [1143, 1144] g17) [1143, 1144] g22) [1143, 1144] g27) [1143, 1144] g32) [1143, 1144, 5, 1011] g37)))
              have hb := hJ ((0 : Int), (sv_sts (sv_sts (sv_sts (sv_sts (sv_sts (sv_sts (sv_sts S [1143, 1144] g1) [1143, 1144] g12) [1143, 1144] g17) [1143, 1144] g22) [1143, 1144] g27) [1143, 1144] g32) [1143, 1144, 5, 1011] g37)) ⟨(⟨by decide, by decide⟩ : sv_R (0 : Int)), (by rw [← eS]; exact ok38), hin45⟩
              have hb : sv_T sm_XS sm_cs sm_L sm_sh 3 (q_keysOf p1 S) 245 108 [(0, .ref 0), (1, sv_I p1), (2, sv_I r11), (3, sv_I (0 : Int))] [] (sv_sts (sv_sts (sv_sts (sv_sts (sv_sts (sv_sts (sv_sts S [1143, 1144] g1) [1143, 1144] g12) [1143, 1144] g17) [1143, 1144] g22) [1143, 1144] g27) [1143, 1144] g32) [1143, 1144, 5, 1011] g37) := Eq.mpr (congrArg (fun Z => sv_T sm_XS sm_cs sm_L sm_sh 3 (q_keysOf p1 S) 245 108 [(0, .ref 0), (1, sv_I p1), (2, sv_I r11), (3, sv_I (0 : Int))] [] Z) eS) hb
              exact hb
            have h := h.2
            refine sv_iload_n hM dX12_keysOf_72 rfl rfl ?_
            refine sv_bipush (d := (32 : Int)) hM dX12_keysOf_73 rfl rfl ?_
            refine sv_iand hM dX12_keysOf_75 ⟨by decide, by decide⟩ rfl (fun r100 hr100 => ?_)
            have h := h r100 hr100
            refine sv_cond_eq hM dX12_keysOf_76 (⟨by omega, by omega⟩ : sv_R r100) (t := 106) rfl rfl (fun hc => ?_) (fun hc => ?_)
            · have h := h.1 (hc)
              have eS := sv_mod.eq (sv_mod.rf (l := [1143, 1144, 5, 1011]) (S := (sv_sts (sv_sts (sv_sts (sv_sts (sv_sts (sv_sts S [1143, 1144] g1) [1143, 1144] g12) [1143, 1144] g17) [1143, 1144] g22) [1143, 1144] g27) [1143, 1144] g32)))
              have hb := J99 (sv_sts (sv_sts (sv_sts (sv_sts (sv_sts (sv_sts S [1143, 1144] g1) [1143, 1144] g12) [1143, 1144] g17) [1143, 1144] g22) [1143, 1144] g27) [1143, 1144] g32) (by rw [← eS]; exact ok33) h
              have hb : sv_T sm_XS sm_cs sm_L sm_sh 3 (q_keysOf p1 S) 245 106 [(0, .ref 0), (1, sv_I p1), (2, sv_I r11)] [] (sv_sts (sv_sts (sv_sts (sv_sts (sv_sts (sv_sts S [1143, 1144] g1) [1143, 1144] g12) [1143, 1144] g17) [1143, 1144] g22) [1143, 1144] g27) [1143, 1144] g32) := Eq.mpr (congrArg (fun Z => sv_T sm_XS sm_cs sm_L sm_sh 3 (q_keysOf p1 S) 245 106 [(0, .ref 0), (1, sv_I p1), (2, sv_I r11)] [] Z) eS) hb
              exact sv_less (lv := [(0, .ref 0), (1, sv_I p1), (2, sv_I r11)]) (sv_Sub_cons rfl (sv_Sub_cons rfl (sv_Sub_cons rfl sv_Sub_nil))) hb
            · have h := h.2 (hc)
              refine sv_aload_n hM dX12_keysOf_79 rfl rfl ?_
              refine sv_aload_n hM dX12_keysOf_80 rfl rfl ?_
              refine sv_iload_n hM dX12_keysOf_81 rfl rfl ?_
              refine sv_callV hM dX12_keysOf_82 sm_iv_1050 (by decide) (sm_a0 _) rfl rfl (Nat.le_of_ble_eq_true rfl) sm_h204 (Nat.le_of_ble_eq_true rfl) (Nat.le_of_ble_eq_true rfl) (F' := 0) (Nat.le_of_ble_eq_true rfl) rfl (t_number p1 (sv_sts (sv_sts (sv_sts (sv_sts (sv_sts (sv_sts S [1143, 1144] g1) [1143, 1144] g12) [1143, 1144] g17) [1143, 1144] g22) [1143, 1144] g27) [1143, 1144] g32) ok33 hp1 o6) (fun v S1 hq => ?_)
              obtain ⟨r105, rfl, hr105, ok102, md103, hpo104⟩ := hq
              obtain rfl : (sv_sts (sv_sts (sv_sts (sv_sts (sv_sts (sv_sts S [1143, 1144] g1) [1143, 1144] g12) [1143, 1144] g17) [1143, 1144] g22) [1143, 1144] g27) [1143, 1144] g32) = S1 := (funext fun j => md103 j (by intro q; cases q)).symm
              show sv_T sm_XS sm_cs sm_L sm_sh 3 (q_keysOf p1 S) 245 85 [(0, .ref 0), (1, sv_I p1), (2, sv_I r11)] [sv_I r105, .ref 0] (sv_sts (sv_sts (sv_sts (sv_sts (sv_sts (sv_sts S [1143, 1144] g1) [1143, 1144] g12) [1143, 1144] g17) [1143, 1144] g22) [1143, 1144] g27) [1143, 1144] g32)
              have h := h r105 hr105 hpo104
              obtain ⟨o106, h⟩ := h
              refine sv_callV hM dX12_keysOf_85 sm_iv_1141 (by decide) (sm_a0 _) rfl rfl (Nat.le_of_ble_eq_true rfl) sm_h247 (Nat.le_of_ble_eq_true rfl) (Nat.le_of_ble_eq_true rfl) (F' := 2) (Nat.le_of_ble_eq_true rfl) rfl (t_nameOfNumber r105 (sv_sts (sv_sts (sv_sts (sv_sts (sv_sts (sv_sts S [1143, 1144] g1) [1143, 1144] g12) [1143, 1144] g17) [1143, 1144] g22) [1143, 1144] g27) [1143, 1144] g32) ok102 hr105 o106) (fun v S1 hq => ?_)
              obtain ⟨r111, rfl, hr111, ok108, md109, hpo110⟩ := hq
              obtain ⟨g107, rfl⟩ : ∃ g, S1 = sv_sts (sv_sts (sv_sts (sv_sts (sv_sts (sv_sts (sv_sts S [1143, 1144] g1) [1143, 1144] g12) [1143, 1144] g17) [1143, 1144] g22) [1143, 1144] g27) [1143, 1144] g32) [5, 1011] g := ⟨_, md109.eq⟩
              show sv_T sm_XS sm_cs sm_L sm_sh 3 (q_keysOf p1 S) 245 88 [(0, .ref 0), (1, sv_I p1), (2, sv_I r11)] [sv_I r111] (sv_sts (sv_sts (sv_sts (sv_sts (sv_sts (sv_sts (sv_sts S [1143, 1144] g1) [1143, 1144] g12) [1143, 1144] g17) [1143, 1144] g22) [1143, 1144] g27) [1143, 1144] g32) [5, 1011] g107)
              have md112 : sv_mod [1143, 1144, 5, 1011] S (sv_sts (sv_sts (sv_sts (sv_sts (sv_sts (sv_sts (sv_sts S [1143, 1144] g1) [1143, 1144] g12) [1143, 1144] g17) [1143, 1144] g22) [1143, 1144] g27) [1143, 1144] g32) [5, 1011] g107) := sv_mod.sts md35 (by decide)
              have md113 : sv_mod [1143, 1144, 5, 1011] (sv_sts (sv_sts (sv_sts (sv_sts (sv_sts (sv_sts S [1143, 1144] g1) [1143, 1144] g12) [1143, 1144] g17) [1143, 1144] g22) [1143, 1144] g27) [1143, 1144] g32) (sv_sts (sv_sts (sv_sts (sv_sts (sv_sts (sv_sts (sv_sts S [1143, 1144] g1) [1143, 1144] g12) [1143, 1144] g17) [1143, 1144] g22) [1143, 1144] g27) [1143, 1144] g32) [5, 1011] g107) := sv_mod.sts (sv_mod.rf (l := [1143, 1144, 5, 1011]) (S := (sv_sts (sv_sts (sv_sts (sv_sts (sv_sts (sv_sts S [1143, 1144] g1) [1143, 1144] g12) [1143, 1144] g17) [1143, 1144] g22) [1143, 1144] g27) [1143, 1144] g32))) (by decide)
              have h := h r111 hr111 g107 hpo110
              refine sv_istore_n hM dX12_keysOf_88 (by decide) rfl ?_
              show sv_T sm_XS sm_cs sm_L sm_sh 3 (q_keysOf p1 S) 245 89 [(0, .ref 0), (1, sv_I p1), (2, sv_I r11), (3, sv_I r111)] [] (sv_sts (sv_sts (sv_sts (sv_sts (sv_sts (sv_sts (sv_sts S [1143, 1144] g1) [1143, 1144] g12) [1143, 1144] g17) [1143, 1144] g22) [1143, 1144] g27) [1143, 1144] g32) [5, 1011] g107)
              refine sv_aload_n hM dX12_keysOf_89 rfl rfl ?_
              refine sv_iload_n hM dX12_keysOf_90 rfl rfl ?_
              refine sv_iconst (d := (-1 : Int)) hM dX12_keysOf_91 rfl rfl ?_
              refine sv_icmp_ne hM dX12_keysOf_92 hr111 (⟨by decide, by decide⟩ : sv_R (-1 : Int)) (t := 102) rfl rfl (fun hc => ?_) (fun hc => ?_)
              · have h := h.1 (hc)
                refine sv_iload_n hM dX12_keysOf_102 rfl rfl ?_
                obtain ⟨o114, h⟩ := h
                refine sv_callV hM dX12_keysOf_103 sm_iv_1138 (by decide) (sm_a0 _) rfl rfl (Nat.le_of_ble_eq_true rfl) sm_h241 (Nat.le_of_ble_eq_true rfl) (Nat.le_of_ble_eq_true rfl) (F' := 0) (Nat.le_of_ble_eq_true rfl) rfl (t_addKey r111 (sv_sts (sv_sts (sv_sts (sv_sts (sv_sts (sv_sts (sv_sts S [1143, 1144] g1) [1143, 1144] g12) [1143, 1144] g17) [1143, 1144] g22) [1143, 1144] g27) [1143, 1144] g32) [5, 1011] g107) ok108 hr111 o114) (fun v S1 hq => ?_)
                obtain ⟨rfl, ok116, md117, hpo118⟩ := hq
                obtain ⟨g115, rfl⟩ : ∃ g, S1 = sv_sts (sv_sts (sv_sts (sv_sts (sv_sts (sv_sts (sv_sts (sv_sts S [1143, 1144] g1) [1143, 1144] g12) [1143, 1144] g17) [1143, 1144] g22) [1143, 1144] g27) [1143, 1144] g32) [5, 1011] g107) [1143, 1144] g := ⟨_, md117.eq⟩
                show sv_T sm_XS sm_cs sm_L sm_sh 3 (q_keysOf p1 S) 245 106 [(0, .ref 0), (1, sv_I p1), (2, sv_I r11), (3, sv_I r111)] [] (sv_sts (sv_sts (sv_sts (sv_sts (sv_sts (sv_sts (sv_sts (sv_sts S [1143, 1144] g1) [1143, 1144] g12) [1143, 1144] g17) [1143, 1144] g22) [1143, 1144] g27) [1143, 1144] g32) [5, 1011] g107) [1143, 1144] g115)
                have md119 : sv_mod [1143, 1144, 5, 1011] S (sv_sts (sv_sts (sv_sts (sv_sts (sv_sts (sv_sts (sv_sts (sv_sts S [1143, 1144] g1) [1143, 1144] g12) [1143, 1144] g17) [1143, 1144] g22) [1143, 1144] g27) [1143, 1144] g32) [5, 1011] g107) [1143, 1144] g115) := sv_mod.sts md112 (by decide)
                have md120 : sv_mod [1143, 1144, 5, 1011] (sv_sts (sv_sts (sv_sts (sv_sts (sv_sts (sv_sts S [1143, 1144] g1) [1143, 1144] g12) [1143, 1144] g17) [1143, 1144] g22) [1143, 1144] g27) [1143, 1144] g32) (sv_sts (sv_sts (sv_sts (sv_sts (sv_sts (sv_sts (sv_sts (sv_sts S [1143, 1144] g1) [1143, 1144] g12) [1143, 1144] g17) [1143, 1144] g22) [1143, 1144] g27) [1143, 1144] g32) [5, 1011] g107) [1143, 1144] g115) := sv_mod.sts md113 (by decide)
                have h := h g115 hpo118
                have eS := sv_mod.eq md120
                have hb := J99 (sv_sts (sv_sts (sv_sts (sv_sts (sv_sts (sv_sts (sv_sts (sv_sts S [1143, 1144] g1) [1143, 1144] g12) [1143, 1144] g17) [1143, 1144] g22) [1143, 1144] g27) [1143, 1144] g32) [5, 1011] g107) [1143, 1144] g115) (by rw [← eS]; exact ok116) h
                have hb : sv_T sm_XS sm_cs sm_L sm_sh 3 (q_keysOf p1 S) 245 106 [(0, .ref 0), (1, sv_I p1), (2, sv_I r11)] [] (sv_sts (sv_sts (sv_sts (sv_sts (sv_sts (sv_sts (sv_sts (sv_sts S [1143, 1144] g1) [1143, 1144] g12) [1143, 1144] g17) [1143, 1144] g22) [1143, 1144] g27) [1143, 1144] g32) [5, 1011] g107) [1143, 1144] g115) := Eq.mpr (congrArg (fun Z => sv_T sm_XS sm_cs sm_L sm_sh 3 (q_keysOf p1 S) 245 106 [(0, .ref 0), (1, sv_I p1), (2, sv_I r11)] [] Z) eS) hb
                exact sv_less (lv := [(0, .ref 0), (1, sv_I p1), (2, sv_I r11)]) (sv_Sub_cons rfl (sv_Sub_cons rfl (sv_Sub_cons rfl sv_Sub_nil))) hb
              · have h := h.2 (hc)
                refine sv_aload_n hM dX12_keysOf_95 rfl rfl ?_
                have k121 : sv_R (S 1008 0) := sm_okI ok108 sm_r1008 0
                have h := h k121
                refine sv_getI hM dX12_keysOf_96 sm_fl_762 (sm_a0 _) sm_k8 rfl (x := (S 1008 0)) rfl ?_
                refine sv_goto hM dX12_keysOf_99 (pc' := 103) rfl ?_
                obtain ⟨o122, h⟩ := h
                refine sv_callV hM dX12_keysOf_103 sm_iv_1138 (by decide) (sm_a0 _) rfl rfl (Nat.le_of_ble_eq_true rfl) sm_h241 (Nat.le_of_ble_eq_true rfl) (Nat.le_of_ble_eq_true rfl) (F' := 0) (Nat.le_of_ble_eq_true rfl) rfl (t_addKey (S 1008 0) (sv_sts (sv_sts (sv_sts (sv_sts (sv_sts (sv_sts (sv_sts S [1143, 1144] g1) [1143, 1144] g12) [1143, 1144] g17) [1143, 1144] g22) [1143, 1144] g27) [1143, 1144] g32) [5, 1011] g107) ok108 k121 o122) (fun v S1 hq => ?_)
                obtain ⟨rfl, ok124, md125, hpo126⟩ := hq
                obtain ⟨g123, rfl⟩ : ∃ g, S1 = sv_sts (sv_sts (sv_sts (sv_sts (sv_sts (sv_sts (sv_sts (sv_sts S [1143, 1144] g1) [1143, 1144] g12) [1143, 1144] g17) [1143, 1144] g22) [1143, 1144] g27) [1143, 1144] g32) [5, 1011] g107) [1143, 1144] g := ⟨_, md125.eq⟩
                show sv_T sm_XS sm_cs sm_L sm_sh 3 (q_keysOf p1 S) 245 106 [(0, .ref 0), (1, sv_I p1), (2, sv_I r11), (3, sv_I r111)] [] (sv_sts (sv_sts (sv_sts (sv_sts (sv_sts (sv_sts (sv_sts (sv_sts S [1143, 1144] g1) [1143, 1144] g12) [1143, 1144] g17) [1143, 1144] g22) [1143, 1144] g27) [1143, 1144] g32) [5, 1011] g107) [1143, 1144] g123)
                have md127 : sv_mod [1143, 1144, 5, 1011] S (sv_sts (sv_sts (sv_sts (sv_sts (sv_sts (sv_sts (sv_sts (sv_sts S [1143, 1144] g1) [1143, 1144] g12) [1143, 1144] g17) [1143, 1144] g22) [1143, 1144] g27) [1143, 1144] g32) [5, 1011] g107) [1143, 1144] g123) := sv_mod.sts md112 (by decide)
                have md128 : sv_mod [1143, 1144, 5, 1011] (sv_sts (sv_sts (sv_sts (sv_sts (sv_sts (sv_sts S [1143, 1144] g1) [1143, 1144] g12) [1143, 1144] g17) [1143, 1144] g22) [1143, 1144] g27) [1143, 1144] g32) (sv_sts (sv_sts (sv_sts (sv_sts (sv_sts (sv_sts (sv_sts (sv_sts S [1143, 1144] g1) [1143, 1144] g12) [1143, 1144] g17) [1143, 1144] g22) [1143, 1144] g27) [1143, 1144] g32) [5, 1011] g107) [1143, 1144] g123) := sv_mod.sts md113 (by decide)
                have h := h g123 hpo126
                have eS := sv_mod.eq md128
                have hb := J99 (sv_sts (sv_sts (sv_sts (sv_sts (sv_sts (sv_sts (sv_sts (sv_sts S [1143, 1144] g1) [1143, 1144] g12) [1143, 1144] g17) [1143, 1144] g22) [1143, 1144] g27) [1143, 1144] g32) [5, 1011] g107) [1143, 1144] g123) (by rw [← eS]; exact ok124) h
                have hb : sv_T sm_XS sm_cs sm_L sm_sh 3 (q_keysOf p1 S) 245 106 [(0, .ref 0), (1, sv_I p1), (2, sv_I r11)] [] (sv_sts (sv_sts (sv_sts (sv_sts (sv_sts (sv_sts (sv_sts (sv_sts S [1143, 1144] g1) [1143, 1144] g12) [1143, 1144] g17) [1143, 1144] g22) [1143, 1144] g27) [1143, 1144] g32) [5, 1011] g107) [1143, 1144] g123) := Eq.mpr (congrArg (fun Z => sv_T sm_XS sm_cs sm_L sm_sh 3 (q_keysOf p1 S) 245 106 [(0, .ref 0), (1, sv_I p1), (2, sv_I r11)] [] Z) eS) hb
                exact sv_less (lv := [(0, .ref 0), (1, sv_I p1), (2, sv_I r11)]) (sv_Sub_cons rfl (sv_Sub_cons rfl (sv_Sub_cons rfl sv_Sub_nil))) hb
          have h := h.2
          refine sv_iload_n hM dX12_keysOf_59 rfl rfl ?_
          refine sv_bipush (d := (16 : Int)) hM dX12_keysOf_60 rfl rfl ?_
          refine sv_iand hM dX12_keysOf_62 ⟨by decide, by decide⟩ rfl (fun r130 hr130 => ?_)
          have h := h r130 hr130
          refine sv_cond_eq hM dX12_keysOf_63 (⟨by omega, by omega⟩ : sv_R r130) (t := 72) rfl rfl (fun hc => ?_) (fun hc => ?_)
          · have h := h.1 (hc)
            have eS := sv_mod.eq (sv_mod.rf (l := [1143, 1144]) (S := (sv_sts (sv_sts (sv_sts (sv_sts (sv_sts S [1143, 1144] g1) [1143, 1144] g12) [1143, 1144] g17) [1143, 1144] g22) [1143, 1144] g27)))
            have hb := J129 (sv_sts (sv_sts (sv_sts (sv_sts (sv_sts S [1143, 1144] g1) [1143, 1144] g12) [1143, 1144] g17) [1143, 1144] g22) [1143, 1144] g27) (by rw [← eS]; exact ok28) h
            have hb : sv_T sm_XS sm_cs sm_L sm_sh 3 (q_keysOf p1 S) 245 72 [(0, .ref 0), (1, sv_I p1), (2, sv_I r11)] [] (sv_sts (sv_sts (sv_sts (sv_sts (sv_sts S [1143, 1144] g1) [1143, 1144] g12) [1143, 1144] g17) [1143, 1144] g22) [1143, 1144] g27) := Eq.mpr (congrArg (fun Z => sv_T sm_XS sm_cs sm_L sm_sh 3 (q_keysOf p1 S) 245 72 [(0, .ref 0), (1, sv_I p1), (2, sv_I r11)] [] Z) eS) hb
            exact sv_less (lv := [(0, .ref 0), (1, sv_I p1), (2, sv_I r11)]) (sv_Sub_cons rfl (sv_Sub_cons rfl (sv_Sub_cons rfl sv_Sub_nil))) hb
          · have h := h.2 (hc)
            refine sv_aload_n hM dX12_keysOf_66 rfl rfl ?_
            refine sv_bipush (d := (28 : Int)) hM dX12_keysOf_67 rfl rfl ?_
            obtain ⟨o131, h⟩ := h
            refine sv_callV hM dX12_keysOf_69 sm_iv_1138 (by decide) (sm_a0 _) rfl rfl (Nat.le_of_ble_eq_true rfl) sm_h241 (Nat.le_of_ble_eq_true rfl) (Nat.le_of_ble_eq_true rfl) (F' := 0) (Nat.le_of_ble_eq_true rfl) rfl (t_addKey (28 : Int) (sv_sts (sv_sts (sv_sts (sv_sts (sv_sts S [1143, 1144] g1) [1143, 1144] g12) [1143, 1144] g17) [1143, 1144] g22) [1143, 1144] g27) ok28 (⟨by decide, by decide⟩ : sv_R (28 : Int)) o131) (fun v S1 hq => ?_)
            obtain ⟨rfl, ok133, md134, hpo135⟩ := hq
            obtain ⟨g132, rfl⟩ : ∃ g, S1 = sv_sts (sv_sts (sv_sts (sv_sts (sv_sts (sv_sts S [1143, 1144] g1) [1143, 1144] g12) [1143, 1144] g17) [1143, 1144] g22) [1143, 1144] g27) [1143, 1144] g := ⟨_, md134.eq⟩
            show sv_T sm_XS sm_cs sm_L sm_sh 3 (q_keysOf p1 S) 245 72 [(0, .ref 0), (1, sv_I p1), (2, sv_I r11)] [] (sv_sts (sv_sts (sv_sts (sv_sts (sv_sts (sv_sts S [1143, 1144] g1) [1143, 1144] g12) [1143, 1144] g17) [1143, 1144] g22) [1143, 1144] g27) [1143, 1144] g132)
            have md136 : sv_mod [1143, 1144, 5, 1011] S (sv_sts (sv_sts (sv_sts (sv_sts (sv_sts (sv_sts S [1143, 1144] g1) [1143, 1144] g12) [1143, 1144] g17) [1143, 1144] g22) [1143, 1144] g27) [1143, 1144] g132) := sv_mod.sts md30 (by decide)
            have md137 : sv_mod [1143, 1144] (sv_sts (sv_sts (sv_sts (sv_sts (sv_sts S [1143, 1144] g1) [1143, 1144] g12) [1143, 1144] g17) [1143, 1144] g22) [1143, 1144] g27) (sv_sts (sv_sts (sv_sts (sv_sts (sv_sts (sv_sts S [1143, 1144] g1) [1143, 1144] g12) [1143, 1144] g17) [1143, 1144] g22) [1143, 1144] g27) [1143, 1144] g132) := sv_mod.sts (sv_mod.rf (l := [1143, 1144]) (S := (sv_sts (sv_sts (sv_sts (sv_sts (sv_sts S [1143, 1144] g1) [1143, 1144] g12) [1143, 1144] g17) [1143, 1144] g22) [1143, 1144] g27))) (by decide)
            have h := h g132 hpo135
            have eS := sv_mod.eq md137
            have hb := J129 (sv_sts (sv_sts (sv_sts (sv_sts (sv_sts (sv_sts S [1143, 1144] g1) [1143, 1144] g12) [1143, 1144] g17) [1143, 1144] g22) [1143, 1144] g27) [1143, 1144] g132) (by rw [← eS]; exact ok133) h
            have hb : sv_T sm_XS sm_cs sm_L sm_sh 3 (q_keysOf p1 S) 245 72 [(0, .ref 0), (1, sv_I p1), (2, sv_I r11)] [] (sv_sts (sv_sts (sv_sts (sv_sts (sv_sts (sv_sts S [1143, 1144] g1) [1143, 1144] g12) [1143, 1144] g17) [1143, 1144] g22) [1143, 1144] g27) [1143, 1144] g132) := Eq.mpr (congrArg (fun Z => sv_T sm_XS sm_cs sm_L sm_sh 3 (q_keysOf p1 S) 245 72 [(0, .ref 0), (1, sv_I p1), (2, sv_I r11)] [] Z) eS) hb
            exact sv_less (lv := [(0, .ref 0), (1, sv_I p1), (2, sv_I r11)]) (sv_Sub_cons rfl (sv_Sub_cons rfl (sv_Sub_cons rfl sv_Sub_nil))) hb
        have h := h.2
        refine sv_iload_n hM dX12_keysOf_46 rfl rfl ?_
        refine sv_bipush (d := (8 : Int)) hM dX12_keysOf_47 rfl rfl ?_
        refine sv_iand hM dX12_keysOf_49 ⟨by decide, by decide⟩ rfl (fun r139 hr139 => ?_)
        have h := h r139 hr139
        refine sv_cond_eq hM dX12_keysOf_50 (⟨by omega, by omega⟩ : sv_R r139) (t := 59) rfl rfl (fun hc => ?_) (fun hc => ?_)
        · have h := h.1 (hc)
          have eS := sv_mod.eq (sv_mod.rf (l := [1143, 1144]) (S := (sv_sts (sv_sts (sv_sts (sv_sts S [1143, 1144] g1) [1143, 1144] g12) [1143, 1144] g17) [1143, 1144] g22)))
          have hb := J138 (sv_sts (sv_sts (sv_sts (sv_sts S [1143, 1144] g1) [1143, 1144] g12) [1143, 1144] g17) [1143, 1144] g22) (by rw [← eS]; exact ok23) h
          have hb : sv_T sm_XS sm_cs sm_L sm_sh 3 (q_keysOf p1 S) 245 59 [(0, .ref 0), (1, sv_I p1), (2, sv_I r11)] [] (sv_sts (sv_sts (sv_sts (sv_sts S [1143, 1144] g1) [1143, 1144] g12) [1143, 1144] g17) [1143, 1144] g22) := Eq.mpr (congrArg (fun Z => sv_T sm_XS sm_cs sm_L sm_sh 3 (q_keysOf p1 S) 245 59 [(0, .ref 0), (1, sv_I p1), (2, sv_I r11)] [] Z) eS) hb
          exact sv_less (lv := [(0, .ref 0), (1, sv_I p1), (2, sv_I r11)]) (sv_Sub_cons rfl (sv_Sub_cons rfl (sv_Sub_cons rfl sv_Sub_nil))) hb
        · have h := h.2 (hc)
          refine sv_aload_n hM dX12_keysOf_53 rfl rfl ?_
          refine sv_bipush (d := (27 : Int)) hM dX12_keysOf_54 rfl rfl ?_
          obtain ⟨o140, h⟩ := h
          refine sv_callV hM dX12_keysOf_56 sm_iv_1138 (by decide) (sm_a0 _) rfl rfl (Nat.le_of_ble_eq_true rfl) sm_h241 (Nat.le_of_ble_eq_true rfl) (Nat.le_of_ble_eq_true rfl) (F' := 0) (Nat.le_of_ble_eq_true rfl) rfl (t_addKey (27 : Int) (sv_sts (sv_sts (sv_sts (sv_sts S [1143, 1144] g1) [1143, 1144] g12) [1143, 1144] g17) [1143, 1144] g22) ok23 (⟨by decide, by decide⟩ : sv_R (27 : Int)) o140) (fun v S1 hq => ?_)
          obtain ⟨rfl, ok142, md143, hpo144⟩ := hq
          obtain ⟨g141, rfl⟩ : ∃ g, S1 = sv_sts (sv_sts (sv_sts (sv_sts (sv_sts S [1143, 1144] g1) [1143, 1144] g12) [1143, 1144] g17) [1143, 1144] g22) [1143, 1144] g := ⟨_, md143.eq⟩
          show sv_T sm_XS sm_cs sm_L sm_sh 3 (q_keysOf p1 S) 245 59 [(0, .ref 0), (1, sv_I p1), (2, sv_I r11)] [] (sv_sts (sv_sts (sv_sts (sv_sts (sv_sts S [1143, 1144] g1) [1143, 1144] g12) [1143, 1144] g17) [1143, 1144] g22) [1143, 1144] g141)
          have md145 : sv_mod [1143, 1144, 5, 1011] S (sv_sts (sv_sts (sv_sts (sv_sts (sv_sts S [1143, 1144] g1) [1143, 1144] g12) [1143, 1144] g17) [1143, 1144] g22) [1143, 1144] g141) := sv_mod.sts md25 (by decide)
          have md146 : sv_mod [1143, 1144] (sv_sts (sv_sts (sv_sts (sv_sts S [1143, 1144] g1) [1143, 1144] g12) [1143, 1144] g17) [1143, 1144] g22) (sv_sts (sv_sts (sv_sts (sv_sts (sv_sts S [1143, 1144] g1) [1143, 1144] g12) [1143, 1144] g17) [1143, 1144] g22) [1143, 1144] g141) := sv_mod.sts (sv_mod.rf (l := [1143, 1144]) (S := (sv_sts (sv_sts (sv_sts (sv_sts S [1143, 1144] g1) [1143, 1144] g12) [1143, 1144] g17) [1143, 1144] g22))) (by decide)
          have h := h g141 hpo144
          have eS := sv_mod.eq md146
          have hb := J138 (sv_sts (sv_sts (sv_sts (sv_sts (sv_sts S [1143, 1144] g1) [1143, 1144] g12) [1143, 1144] g17) [1143, 1144] g22) [1143, 1144] g141) (by rw [← eS]; exact ok142) h
          have hb : sv_T sm_XS sm_cs sm_L sm_sh 3 (q_keysOf p1 S) 245 59 [(0, .ref 0), (1, sv_I p1), (2, sv_I r11)] [] (sv_sts (sv_sts (sv_sts (sv_sts (sv_sts S [1143, 1144] g1) [1143, 1144] g12) [1143, 1144] g17) [1143, 1144] g22) [1143, 1144] g141) := Eq.mpr (congrArg (fun Z => sv_T sm_XS sm_cs sm_L sm_sh 3 (q_keysOf p1 S) 245 59 [(0, .ref 0), (1, sv_I p1), (2, sv_I r11)] [] Z) eS) hb
          exact sv_less (lv := [(0, .ref 0), (1, sv_I p1), (2, sv_I r11)]) (sv_Sub_cons rfl (sv_Sub_cons rfl (sv_Sub_cons rfl sv_Sub_nil))) hb
      have h := h.2
      refine sv_iload_n hM dX12_keysOf_34 rfl rfl ?_
      refine sv_iconst (d := (4 : Int)) hM dX12_keysOf_35 rfl rfl ?_
      refine sv_iand hM dX12_keysOf_36 ⟨by decide, by decide⟩ rfl (fun r148 hr148 => ?_)
      have h := h r148 hr148
      refine sv_cond_eq hM dX12_keysOf_37 (⟨by omega, by omega⟩ : sv_R r148) (t := 46) rfl rfl (fun hc => ?_) (fun hc => ?_)
      · have h := h.1 (hc)
        have eS := sv_mod.eq (sv_mod.rf (l := [1143, 1144]) (S := (sv_sts (sv_sts (sv_sts S [1143, 1144] g1) [1143, 1144] g12) [1143, 1144] g17)))
        have hb := J147 (sv_sts (sv_sts (sv_sts S [1143, 1144] g1) [1143, 1144] g12) [1143, 1144] g17) (by rw [← eS]; exact ok18) h
        have hb : sv_T sm_XS sm_cs sm_L sm_sh 3 (q_keysOf p1 S) 245 46 [(0, .ref 0), (1, sv_I p1), (2, sv_I r11)] [] (sv_sts (sv_sts (sv_sts S [1143, 1144] g1) [1143, 1144] g12) [1143, 1144] g17) := Eq.mpr (congrArg (fun Z => sv_T sm_XS sm_cs sm_L sm_sh 3 (q_keysOf p1 S) 245 46 [(0, .ref 0), (1, sv_I p1), (2, sv_I r11)] [] Z) eS) hb
        exact sv_less (lv := [(0, .ref 0), (1, sv_I p1), (2, sv_I r11)]) (sv_Sub_cons rfl (sv_Sub_cons rfl (sv_Sub_cons rfl sv_Sub_nil))) hb
      · have h := h.2 (hc)
        refine sv_aload_n hM dX12_keysOf_40 rfl rfl ?_
        refine sv_bipush (d := (26 : Int)) hM dX12_keysOf_41 rfl rfl ?_
        obtain ⟨o149, h⟩ := h
        refine sv_callV hM dX12_keysOf_43 sm_iv_1138 (by decide) (sm_a0 _) rfl rfl (Nat.le_of_ble_eq_true rfl) sm_h241 (Nat.le_of_ble_eq_true rfl) (Nat.le_of_ble_eq_true rfl) (F' := 0) (Nat.le_of_ble_eq_true rfl) rfl (t_addKey (26 : Int) (sv_sts (sv_sts (sv_sts S [1143, 1144] g1) [1143, 1144] g12) [1143, 1144] g17) ok18 (⟨by decide, by decide⟩ : sv_R (26 : Int)) o149) (fun v S1 hq => ?_)
        obtain ⟨rfl, ok151, md152, hpo153⟩ := hq
        obtain ⟨g150, rfl⟩ : ∃ g, S1 = sv_sts (sv_sts (sv_sts (sv_sts S [1143, 1144] g1) [1143, 1144] g12) [1143, 1144] g17) [1143, 1144] g := ⟨_, md152.eq⟩
        show sv_T sm_XS sm_cs sm_L sm_sh 3 (q_keysOf p1 S) 245 46 [(0, .ref 0), (1, sv_I p1), (2, sv_I r11)] [] (sv_sts (sv_sts (sv_sts (sv_sts S [1143, 1144] g1) [1143, 1144] g12) [1143, 1144] g17) [1143, 1144] g150)
        have md154 : sv_mod [1143, 1144, 5, 1011] S (sv_sts (sv_sts (sv_sts (sv_sts S [1143, 1144] g1) [1143, 1144] g12) [1143, 1144] g17) [1143, 1144] g150) := sv_mod.sts md20 (by decide)
        have md155 : sv_mod [1143, 1144] (sv_sts (sv_sts (sv_sts S [1143, 1144] g1) [1143, 1144] g12) [1143, 1144] g17) (sv_sts (sv_sts (sv_sts (sv_sts S [1143, 1144] g1) [1143, 1144] g12) [1143, 1144] g17) [1143, 1144] g150) := sv_mod.sts (sv_mod.rf (l := [1143, 1144]) (S := (sv_sts (sv_sts (sv_sts S [1143, 1144] g1) [1143, 1144] g12) [1143, 1144] g17))) (by decide)
        have h := h g150 hpo153
        have eS := sv_mod.eq md155
        have hb := J147 (sv_sts (sv_sts (sv_sts (sv_sts S [1143, 1144] g1) [1143, 1144] g12) [1143, 1144] g17) [1143, 1144] g150) (by rw [← eS]; exact ok151) h
        have hb : sv_T sm_XS sm_cs sm_L sm_sh 3 (q_keysOf p1 S) 245 46 [(0, .ref 0), (1, sv_I p1), (2, sv_I r11)] [] (sv_sts (sv_sts (sv_sts (sv_sts S [1143, 1144] g1) [1143, 1144] g12) [1143, 1144] g17) [1143, 1144] g150) := Eq.mpr (congrArg (fun Z => sv_T sm_XS sm_cs sm_L sm_sh 3 (q_keysOf p1 S) 245 46 [(0, .ref 0), (1, sv_I p1), (2, sv_I r11)] [] Z) eS) hb
        exact sv_less (lv := [(0, .ref 0), (1, sv_I p1), (2, sv_I r11)]) (sv_Sub_cons rfl (sv_Sub_cons rfl (sv_Sub_cons rfl sv_Sub_nil))) hb
    have h := h.2
    refine sv_iload_n hM dX12_keysOf_22 rfl rfl ?_
    refine sv_iconst (d := (2 : Int)) hM dX12_keysOf_23 rfl rfl ?_
    refine sv_iand hM dX12_keysOf_24 ⟨by decide, by decide⟩ rfl (fun r157 hr157 => ?_)
    have h := h r157 hr157
    refine sv_cond_eq hM dX12_keysOf_25 (⟨by omega, by omega⟩ : sv_R r157) (t := 34) rfl rfl (fun hc => ?_) (fun hc => ?_)
    · have h := h.1 (hc)
      have eS := sv_mod.eq (sv_mod.rf (l := [1143, 1144]) (S := (sv_sts (sv_sts S [1143, 1144] g1) [1143, 1144] g12)))
      have hb := J156 (sv_sts (sv_sts S [1143, 1144] g1) [1143, 1144] g12) (by rw [← eS]; exact ok13) h
      have hb : sv_T sm_XS sm_cs sm_L sm_sh 3 (q_keysOf p1 S) 245 34 [(0, .ref 0), (1, sv_I p1), (2, sv_I r11)] [] (sv_sts (sv_sts S [1143, 1144] g1) [1143, 1144] g12) := Eq.mpr (congrArg (fun Z => sv_T sm_XS sm_cs sm_L sm_sh 3 (q_keysOf p1 S) 245 34 [(0, .ref 0), (1, sv_I p1), (2, sv_I r11)] [] Z) eS) hb
      exact sv_less (lv := [(0, .ref 0), (1, sv_I p1), (2, sv_I r11)]) (sv_Sub_cons rfl (sv_Sub_cons rfl (sv_Sub_cons rfl sv_Sub_nil))) hb
    · have h := h.2 (hc)
      refine sv_aload_n hM dX12_keysOf_28 rfl rfl ?_
      refine sv_bipush (d := (25 : Int)) hM dX12_keysOf_29 rfl rfl ?_
      obtain ⟨o158, h⟩ := h
      refine sv_callV hM dX12_keysOf_31 sm_iv_1138 (by decide) (sm_a0 _) rfl rfl (Nat.le_of_ble_eq_true rfl) sm_h241 (Nat.le_of_ble_eq_true rfl) (Nat.le_of_ble_eq_true rfl) (F' := 0) (Nat.le_of_ble_eq_true rfl) rfl (t_addKey (25 : Int) (sv_sts (sv_sts S [1143, 1144] g1) [1143, 1144] g12) ok13 (⟨by decide, by decide⟩ : sv_R (25 : Int)) o158) (fun v S1 hq => ?_)
      obtain ⟨rfl, ok160, md161, hpo162⟩ := hq
      obtain ⟨g159, rfl⟩ : ∃ g, S1 = sv_sts (sv_sts (sv_sts S [1143, 1144] g1) [1143, 1144] g12) [1143, 1144] g := ⟨_, md161.eq⟩
      show sv_T sm_XS sm_cs sm_L sm_sh 3 (q_keysOf p1 S) 245 34 [(0, .ref 0), (1, sv_I p1), (2, sv_I r11)] [] (sv_sts (sv_sts (sv_sts S [1143, 1144] g1) [1143, 1144] g12) [1143, 1144] g159)
      have md163 : sv_mod [1143, 1144, 5, 1011] S (sv_sts (sv_sts (sv_sts S [1143, 1144] g1) [1143, 1144] g12) [1143, 1144] g159) := sv_mod.sts md15 (by decide)
      have md164 : sv_mod [1143, 1144] (sv_sts (sv_sts S [1143, 1144] g1) [1143, 1144] g12) (sv_sts (sv_sts (sv_sts S [1143, 1144] g1) [1143, 1144] g12) [1143, 1144] g159) := sv_mod.sts (sv_mod.rf (l := [1143, 1144]) (S := (sv_sts (sv_sts S [1143, 1144] g1) [1143, 1144] g12))) (by decide)
      have h := h g159 hpo162
      have eS := sv_mod.eq md164
      have hb := J156 (sv_sts (sv_sts (sv_sts S [1143, 1144] g1) [1143, 1144] g12) [1143, 1144] g159) (by rw [← eS]; exact ok160) h
      have hb : sv_T sm_XS sm_cs sm_L sm_sh 3 (q_keysOf p1 S) 245 34 [(0, .ref 0), (1, sv_I p1), (2, sv_I r11)] [] (sv_sts (sv_sts (sv_sts S [1143, 1144] g1) [1143, 1144] g12) [1143, 1144] g159) := Eq.mpr (congrArg (fun Z => sv_T sm_XS sm_cs sm_L sm_sh 3 (q_keysOf p1 S) 245 34 [(0, .ref 0), (1, sv_I p1), (2, sv_I r11)] [] Z) eS) hb
      exact sv_less (lv := [(0, .ref 0), (1, sv_I p1), (2, sv_I r11)]) (sv_Sub_cons rfl (sv_Sub_cons rfl (sv_Sub_cons rfl sv_Sub_nil))) hb
  have h := h.2
  refine sv_iload_n hM dX12_keysOf_10 rfl rfl ?_
  refine sv_iconst (d := (1 : Int)) hM dX12_keysOf_11 rfl rfl ?_
  refine sv_iandm 1 (m := 2) (by decide) (by decide) (by decide) hM dX12_keysOf_12 rfl ?_
  refine sv_cond_eq hM dX12_keysOf_13 (⟨by omega, by omega⟩ : sv_R (r11 % 2)) (t := 22) rfl rfl (fun hc => ?_) (fun hc => ?_)
  · have h := h.1 (hc)
    have eS := sv_mod.eq (sv_mod.rf (l := [1143, 1144]) (S := (sv_sts S [1143, 1144] g1)))
    have hb := J165 (sv_sts S [1143, 1144] g1) (by rw [← eS]; exact ok8) h
    have hb : sv_T sm_XS sm_cs sm_L sm_sh 3 (q_keysOf p1 S) 245 22 [(0, .ref 0), (1, sv_I p1), (2, sv_I r11)] [] (sv_sts S [1143, 1144] g1) := Eq.mpr (congrArg (fun Z => sv_T sm_XS sm_cs sm_L sm_sh 3 (q_keysOf p1 S) 245 22 [(0, .ref 0), (1, sv_I p1), (2, sv_I r11)] [] Z) eS) hb
    exact sv_less (lv := [(0, .ref 0), (1, sv_I p1), (2, sv_I r11)]) (sv_Sub_cons rfl (sv_Sub_cons rfl (sv_Sub_cons rfl sv_Sub_nil))) hb
  · have h := h.2 (hc)
    refine sv_aload_n hM dX12_keysOf_16 rfl rfl ?_
    refine sv_bipush (d := (19 : Int)) hM dX12_keysOf_17 rfl rfl ?_
    obtain ⟨o166, h⟩ := h
    refine sv_callV hM dX12_keysOf_19 sm_iv_1138 (by decide) (sm_a0 _) rfl rfl (Nat.le_of_ble_eq_true rfl) sm_h241 (Nat.le_of_ble_eq_true rfl) (Nat.le_of_ble_eq_true rfl) (F' := 0) (Nat.le_of_ble_eq_true rfl) rfl (t_addKey (19 : Int) (sv_sts S [1143, 1144] g1) ok8 (⟨by decide, by decide⟩ : sv_R (19 : Int)) o166) (fun v S1 hq => ?_)
    obtain ⟨rfl, ok168, md169, hpo170⟩ := hq
    obtain ⟨g167, rfl⟩ : ∃ g, S1 = sv_sts (sv_sts S [1143, 1144] g1) [1143, 1144] g := ⟨_, md169.eq⟩
    show sv_T sm_XS sm_cs sm_L sm_sh 3 (q_keysOf p1 S) 245 22 [(0, .ref 0), (1, sv_I p1), (2, sv_I r11)] [] (sv_sts (sv_sts S [1143, 1144] g1) [1143, 1144] g167)
    have md171 : sv_mod [1143, 1144, 5, 1011] S (sv_sts (sv_sts S [1143, 1144] g1) [1143, 1144] g167) := sv_mod.sts md5 (by decide)
    have md172 : sv_mod [1143, 1144] (sv_sts S [1143, 1144] g1) (sv_sts (sv_sts S [1143, 1144] g1) [1143, 1144] g167) := sv_mod.sts (sv_mod.rf (l := [1143, 1144]) (S := (sv_sts S [1143, 1144] g1))) (by decide)
    have h := h g167 hpo170
    have eS := sv_mod.eq md172
    have hb := J165 (sv_sts (sv_sts S [1143, 1144] g1) [1143, 1144] g167) (by rw [← eS]; exact ok168) h
    have hb : sv_T sm_XS sm_cs sm_L sm_sh 3 (q_keysOf p1 S) 245 22 [(0, .ref 0), (1, sv_I p1), (2, sv_I r11)] [] (sv_sts (sv_sts S [1143, 1144] g1) [1143, 1144] g167) := Eq.mpr (congrArg (fun Z => sv_T sm_XS sm_cs sm_L sm_sh 3 (q_keysOf p1 S) 245 22 [(0, .ref 0), (1, sv_I p1), (2, sv_I r11)] [] Z) eS) hb
    exact sv_less (lv := [(0, .ref 0), (1, sv_I p1), (2, sv_I r11)]) (sv_Sub_cons rfl (sv_Sub_cons rfl (sv_Sub_cons rfl sv_Sub_nil))) hb
def q_addTextOf (p1 : Int) (p2 : Int) (S : sv_S) : Option Value → sv_S → Prop := fun v S' => v = none ∧ sm_ok S' ∧ sv_mod [1143, 1144, 5, 1011, 68, 69, 70] S S' ∧ (sm_pt (S' 68) (S' 69) (S' 70) = sm_pt (S 68) (S 69) (S 70))
theorem la_addTextOf_0 {x0 : Int} (h0 : 0 ≤ x0) (h1 : x0 ≤ 11557) : 0 ≤ x0 ∧ x0 ≤ 11557 := by omega
theorem la_addTextOf_1 {x0 : Int} (h0 : 31 ≤ x0) : (0 : Int) ≤ 0 ∧ 0 ≤ x0 ∧ (((-1) : Int) = (-1) ∨ (0 : Int) ≤ (-1) ∧ (-1) < x0) := by omega
theorem la_addTextOf_2 {x0 x1 : Int} (h0 : x0 ≤ x1) : 0 ≤ x1 - x0 := by omega
theorem la_addTextOf_3 {x0 : Int} (h0 : 635639 ≤ x0) (h1 : x0 < 647790) : 635639 ≤ x0 ∧ x0 < 647790 := by omega
theorem la_addTextOf_4 {x0 x1 : Int} (h0 : x0 ≤ 90) (h1 : 0 ≤ x1) (h2 : ¬ x0 ≤ x1) : 0 ≤ x1 ∧ x1 < 128 := by omega
theorem la_addTextOf_5 {x0 x1 x2 x3 : Int} (h0 : 31 ≤ x0) (h1 : x0 ≤ 90) (h2 : 0 ≤ x1) (h3 : x2 = (-1) ∨ 0 ≤ x2 ∧ x2 < x0) (h4 : ¬ x0 ≤ x1) : x3 = 0 → sv_R (x1 + 1) ∧ (0 ≤ x1 + 1 ∧ x1 + 1 ≤ x0 ∧ (x2 = (-1) ∨ 0 ≤ x2 ∧ x2 < x0)) ∧ x0 - (x1 + 1) < x0 - x1 := by omega
theorem la_addTextOf_6 {x0 : Int} (h0 : x0 = 1) : 0 ≤ x0 := by omega
theorem la_addTextOf_7 {x0 : Int} (h0 : 0 ≤ x0) (h1 : ¬ x0 = 0) : 0 < x0 := by omega
theorem la_addTextOf_8 {x0 x1 : Int} (h0 : x0 ≤ 90) (h1 : 0 ≤ x1) (h2 : ¬ x0 ≤ x1) : sv_R (x1 + 1) := by omega
theorem la_addTextOf_9 {x0 x1 : Int} (h0 : 31 ≤ x0) (h1 : 0 ≤ x1) (h2 : ¬ x0 ≤ x1) : 0 ≤ x1 + 1 ∧ x1 + 1 ≤ x0 ∧ (x1 = (-1) ∨ 0 ≤ x1 ∧ x1 < x0) := by omega
theorem la_addTextOf_10 {x0 x1 : Int} : x0 - (x1 + 1) < x0 - x1 := by omega
set_option maxHeartbeats 2000000 in
theorem f_addTextOf : ∀ (p1 : Int) (p2 : Int) (S : sv_S), sm_ok S → sv_R p1 → sv_R p2 → (31 ≤ (S 1007 0) ∧ (S 1007 0) ≤ 400 ∧ sm_LN (S 4) 400 (S 1007 0) ∧ 0 ≤ p1 ∧ p1 < 647800 ∧ 635639 ≤ p2 ∧ p2 < 647790 ∧ 29 ≤ (S 1071 0) ∧ (S 1071 0) ≤ 127 ∧ 31 ≤ (S 1008 0) ∧ (S 1008 0) ≤ 90 ∧ 1 ≤ (S 1032 0) ∧ (S 1032 0) ≤ 11 ∧ 0 ≤ (S 1055 0) ∧ (S 1055 0) ≤ 19 ∧ (S 1071 0) = 29 + 6 * ((S 1032 0) - 1) + 2 * (S 1055 0) ∧ 0 ≤ (S 1046 0) ∧ (S 1046 0) + 2 * (S 1032 0) ≤ 500 ∧ sm_PD (S 1046 0) (S 1032 0) (S 1071 0) (S 1008 0) ∧ 0 ≤ (S 1071 0) * ((S 1008 0) + 1) ∧ (S 1071 0) * ((S 1008 0) + 1) ≤ 11557) → (31 ≤ (S 1007 0) ∧ (S 1007 0) ≤ 400 ∧ sm_LN (S 4) 400 (S 1007 0) ∧ 0 ≤ p1 ∧ p1 < 647800 ∧ 29 ≤ (S 1071 0) ∧ (S 1071 0) ≤ 127 ∧ 31 ≤ (S 1008 0) ∧ (S 1008 0) ≤ 90 ∧ 1 ≤ (S 1032 0) ∧ (S 1032 0) ≤ 11 ∧ 0 ≤ (S 1055 0) ∧ (S 1055 0) ≤ 19 ∧ (S 1071 0) = 29 + 6 * ((S 1032 0) - 1) + 2 * (S 1055 0) ∧ 0 ≤ (S 1046 0) ∧ (S 1046 0) + 2 * (S 1032 0) ≤ 500 ∧ sm_PD (S 1046 0) (S 1032 0) (S 1071 0) (S 1008 0) ∧ 0 ≤ (S 1071 0) * ((S 1008 0) + 1) ∧ (S 1071 0) * ((S 1008 0) + 1) ≤ 11557) ∧ (∀ g2 : sv_S, (True) → ((0 ≤ (0 : Int) ∧ (0 : Int) ≤ (S 1008 0) ∧ ((-1 : Int) = -1 ∨ (0 ≤ (-1 : Int) ∧ (-1 : Int) < (S 1008 0)))) ∧ (∀ l3_7 : Int, sv_R l3_7 → ∀ l4_8 : Int, sv_R l4_8 → (0 ≤ l4_8 ∧ l4_8 ≤ (S 1008 0) ∧ (l3_7 = -1 ∨ (0 ≤ l3_7 ∧ l3_7 < (S 1008 0)))) → (0 ≤ (S 1008 0) - l4_8) ∧ (sv_R (S 1008 0) → ((((S 1008 0) ≤ l4_8) → (635639 ≤ p2 ∧ p2 < 647790) ∧ (∀ g14 : sv_S, (sm_pt (g14 68) (g14 69) (g14 70) = sm_pt (S 68) (S 69) (S 70)) → (sm_pt (g14 68) (g14 69) (g14 70) = sm_pt (S 68) (S 69) (S 70)))) ∧ ((¬ ((S 1008 0) ≤ l4_8)) → (∀ r23 : Int, sv_R r23 → (0 ≤ r23 ∧ r23 ≤ 128) → (((¬ r23 = (1 : Int)) → (635639 ≤ p2 ∧ p2 < 647790) ∧ (∀ g25 : sv_S, (sm_pt (g25 68) (g25 69) (g25 70) = sm_pt (S 68) (S 69) (S 70)) → (sm_pt (g25 68) (g25 69) (g25 70) = sm_pt (S 68) (S 69) (S 70)))) ∧ ((¬ (¬ r23 = (1 : Int))) → (0 ≤ l4_8 ∧ l4_8 < 128) ∧ (∀ r35 : Int, sv_R r35 → (r35 = 0 ∨ r35 = 1) → (((r35 = (0 : Int)) → (sv_R (l4_8 + (1 : Int))) ∧ ((0 ≤ (l4_8 + (1 : Int)) ∧ (l4_8 + (1 : Int)) ≤ (S 1008 0) ∧ (l3_7 = -1 ∨ (0 ≤ l3_7 ∧ l3_7 < (S 1008 0)))) ∧ ((S 1008 0) - (l4_8 + (1 : Int))) < ((S 1008 0) - l4_8))) ∧ ((¬ (r35 = (0 : Int))) → (sv_R (l4_8 + (1 : Int))) ∧ ((0 ≤ (l4_8 + (1 : Int)) ∧ (l4_8 + (1 : Int)) ≤ (S 1008 0) ∧ (l4_8 = -1 ∨ (0 ≤ l4_8 ∧ l4_8 < (S 1008 0)))) ∧ ((S 1008 0) - (l4_8 + (1 : Int))) < ((S 1008 0) - l4_8)))))))))))))) := by
  intro p1
  intro p2
  intro S
  intro h1_
  intro h2_
  intro h3_
  rintro ⟨h4_, ⟨h5_, ⟨h6_, ⟨h7_, ⟨h8_, ⟨h9_, ⟨h10_, ⟨h11_, ⟨h12_, ⟨h13_, ⟨h14_, ⟨h15_, ⟨h16_, ⟨h17_, ⟨h18_, ⟨h19_, ⟨h20_, ⟨h21_, ⟨h22_, ⟨h23_, h24_⟩⟩⟩⟩⟩⟩⟩⟩⟩⟩⟩⟩⟩⟩⟩⟩⟩⟩⟩⟩
  refine ⟨⟨h4_, ⟨h5_, ⟨h6_, ⟨h7_, ⟨h8_, ⟨h11_, ⟨h12_, ⟨h13_, ⟨h14_, ⟨h15_, ⟨h16_, ⟨h17_, ⟨h18_, ⟨h19_, ⟨h20_, ⟨h21_, ⟨h22_, (la_addTextOf_0 h23_ h24_)⟩⟩⟩⟩⟩⟩⟩⟩⟩⟩⟩⟩⟩⟩⟩⟩⟩, ?_⟩
  intro g2
  intro _
  refine ⟨(la_addTextOf_1 h13_), ?_⟩
  intro l3_7
  intro h25_
  intro l4_8
  intro h26_
  rintro ⟨h27_, ⟨h28_, h29_⟩⟩
  refine ⟨(la_addTextOf_2 h28_), ?_⟩
  intro h30_
  refine ⟨?_, ?_⟩
  · skip
    intro h31_
    refine ⟨(la_addTextOf_3 h9_ h10_), ?_⟩
    intro g14
    intro h32_
    exact h32_
  intro h33_
  intro r23
  intro h34_
  rintro ⟨h35_, h36_⟩
  refine ⟨?_, ?_⟩
  · skip
    intro h37_
    refine ⟨(la_addTextOf_3 h9_ h10_), ?_⟩
    intro g25
    intro h38_
    exact h38_
  intro h39_
  refine ⟨(la_addTextOf_4 h14_ h27_ h33_), ?_⟩
  intro r35
  intro h40_
  intro h41_
  refine ⟨(la_addTextOf_5 h13_ h14_ h27_ h29_ h33_), ?_⟩
  intro h42_
  have h43_ := (h41_.resolve_left h42_)
  refine ⟨(la_addTextOf_8 h14_ h27_ h33_), ?_⟩
  refine ⟨(la_addTextOf_9 h13_ h27_ h33_), ?_⟩
  exact la_addTextOf_10
set_option maxRecDepth 8000 in
set_option maxHeartbeats 2000000 in
theorem t_addTextOf : ∀ (p1 : Int) (p2 : Int) (S : sv_S), sm_ok S → sv_R p1 → sv_R p2 → (31 ≤ (S 1007 0) ∧ (S 1007 0) ≤ 400 ∧ sm_LN (S 4) 400 (S 1007 0) ∧ 0 ≤ p1 ∧ p1 < 647800 ∧ 635639 ≤ p2 ∧ p2 < 647790 ∧ 29 ≤ (S 1071 0) ∧ (S 1071 0) ≤ 127 ∧ 31 ≤ (S 1008 0) ∧ (S 1008 0) ≤ 90 ∧ 1 ≤ (S 1032 0) ∧ (S 1032 0) ≤ 11 ∧ 0 ≤ (S 1055 0) ∧ (S 1055 0) ≤ 19 ∧ (S 1071 0) = 29 + 6 * ((S 1032 0) - 1) + 2 * (S 1055 0) ∧ 0 ≤ (S 1046 0) ∧ (S 1046 0) + 2 * (S 1032 0) ≤ 500 ∧ sm_PD (S 1046 0) (S 1032 0) (S 1071 0) (S 1008 0) ∧ 0 ≤ (S 1071 0) * ((S 1008 0) + 1) ∧ (S 1071 0) * ((S 1008 0) + 1) ≤ 11557) → sv_T sm_XS sm_cs sm_L sm_sh 5 (q_addTextOf p1 p2 S) 248 0 (lv_args 0 [.ref 0, sv_I p1, sv_I p2]) [] S := by
  intro p1 p2 S hok hp1 hp2 hpre
  have h := f_addTextOf p1 p2 S hok hp1 hp2 hpre
  have hM := sm_h248
  show sv_T sm_XS sm_cs sm_L sm_sh 5 (q_addTextOf p1 p2 S) 248 0 [(0, .ref 0), (1, sv_I p1), (2, sv_I p2)] [] S
  refine sv_aload_n hM dX12_addTextOf_0 rfl rfl ?_
  refine sv_iload_n hM dX12_addTextOf_1 rfl rfl ?_
  obtain ⟨o1, h⟩ := h
  refine sv_callV hM dX12_addTextOf_2 sm_iv_1147 (by decide) (sm_a0 _) rfl rfl (Nat.le_of_ble_eq_true rfl) sm_h245 (Nat.le_of_ble_eq_true rfl) (Nat.le_of_ble_eq_true rfl) (F' := 3) (Nat.le_of_ble_eq_true rfl) rfl (t_keysOf p1 S hok hp1 o1) (fun v S1 hq => ?_)
  obtain ⟨rfl, ok3, md4, hpo5⟩ := hq
  obtain ⟨g2, rfl⟩ : ∃ g, S1 = sv_sts S [1143, 1144, 5, 1011] g := ⟨_, md4.eq⟩
  show sv_T sm_XS sm_cs sm_L sm_sh 5 (q_addTextOf p1 p2 S) 248 5 [(0, .ref 0), (1, sv_I p1), (2, sv_I p2)] [] (sv_sts S [1143, 1144, 5, 1011] g2)
  have md6 : sv_mod [1143, 1144, 5, 1011, 68, 69, 70] S (sv_sts S [1143, 1144, 5, 1011] g2) := sv_mod.sts sv_mod.rf (by decide)
  have h := h g2 hpo5
  refine sv_iconst (d := (-1 : Int)) hM dX12_addTextOf_5 rfl rfl ?_
  refine sv_istore_n hM dX12_addTextOf_6 (by decide) rfl ?_
  show sv_T sm_XS sm_cs sm_L sm_sh 5 (q_addTextOf p1 p2 S) 248 7 [(0, .ref 0), (1, sv_I p1), (2, sv_I p2), (3, sv_I (-1 : Int))] [] (sv_sts S [1143, 1144, 5, 1011] g2)
  refine sv_iconst (d := (0 : Int)) hM dX12_addTextOf_7 rfl rfl ?_
  refine sv_istore hM dX12_addTextOf_8 (by decide) rfl ?_
  show sv_T sm_XS sm_cs sm_L sm_sh 5 (q_addTextOf p1 p2 S) 248 10 [(0, .ref 0), (1, sv_I p1), (2, sv_I p2), (3, sv_I (-1 : Int)), (4, sv_I (0 : Int))] [] (sv_sts S [1143, 1144, 5, 1011] g2)
  obtain ⟨hin10, h⟩ := h
  have hJ : ∀ a : Int × Int × Unit, (sv_R a.1 ∧ sv_R a.2.1 ∧ sm_ok (sv_sts S [1143, 1144, 5, 1011] g2) ∧ (0 ≤ a.2.1 ∧ a.2.1 ≤ (S 1008 0) ∧ (a.1 = -1 ∨ (0 ≤ a.1 ∧ a.1 < (S 1008 0))))) → sv_T sm_XS sm_cs sm_L sm_sh 5 (q_addTextOf p1 p2 S) 248 10 [(0, .ref 0), (1, sv_I p1), (2, sv_I p2), (3, sv_I a.1), (4, sv_I a.2.1)] [] (sv_sts S [1143, 1144, 5, 1011] g2) := by
    refine sv_loop (α := Int × Int × Unit) (fun a => sv_R a.1 ∧ sv_R a.2.1 ∧ sm_ok (sv_sts S [1143, 1144, 5, 1011] g2) ∧ (0 ≤ a.2.1 ∧ a.2.1 ≤ (S 1008 0) ∧ (a.1 = -1 ∨ (0 ≤ a.1 ∧ a.1 < (S 1008 0))))) (fun a => (S 1008 0) - a.2.1) (fun a => sv_T sm_XS sm_cs sm_L sm_sh 5 (q_addTextOf p1 p2 S) 248 10 [(0, .ref 0), (1, sv_I p1), (2, sv_I p2), (3, sv_I a.1), (4, sv_I a.2.1)] [] (sv_sts S [1143, 1144, 5, 1011] g2)) (fun a q => (h a.1 q.1 a.2.1 q.2.1 q.2.2.2).1) (fun a q ih9 => ?_)
    obtain ⟨l3_7, l4_8, _u⟩ := a
    obtain ⟨hl3_7, hl4_8, ok11, hin10i⟩ := q
    have h := (h l3_7 hl3_7 l4_8 hl4_8 hin10i).2
    show sv_T sm_XS sm_cs sm_L sm_sh 5 (q_addTextOf p1 p2 S) 248 10 [(0, .ref 0), (1, sv_I p1), (2, sv_I p2), (3, sv_I l3_7), (4, sv_I l4_8)] [] (sv_sts S [1143, 1144, 5, 1011] g2)
    refine sv_iload hM dX12_addTextOf_10 rfl rfl ?_
    refine sv_aload_n hM dX12_addTextOf_12 rfl rfl ?_
    have k12 : sv_R (S 1008 0) := sm_okI ok11 sm_r1008 0
    have h := h k12
    refine sv_getI hM dX12_addTextOf_13 sm_fl_762 (sm_a0 _) sm_k8 rfl (x := (S 1008 0)) rfl ?_
    refine sv_icmp_ge hM dX12_addTextOf_16 hl4_8 k12 (t := 49) rfl rfl (fun hc => ?_) (fun hc => ?_)
    · have h := h.1 (hc)
      refine sv_aload_n hM dX12_addTextOf_49 rfl rfl ?_
      refine sv_iload_n hM dX12_addTextOf_50 rfl rfl ?_
      refine sv_iload_n hM dX12_addTextOf_51 rfl rfl ?_
      obtain ⟨o13, h⟩ := h
      refine sv_callV hM dX12_addTextOf_52 sm_iv_1078 (by decide) (sm_a0 _) rfl rfl (Nat.le_of_ble_eq_true rfl) sm_h215 (Nat.le_of_ble_eq_true rfl) (Nat.le_of_ble_eq_true rfl) (F' := 2) (Nat.le_of_ble_eq_true rfl) rfl (t_addString p2 l3_7 (sv_sts S [1143, 1144, 5, 1011] g2) ok11 hp2 hl3_7 o13) (fun v S1 hq => ?_)
      obtain ⟨rfl, ok15, md16, hpo17⟩ := hq
      obtain ⟨g14, rfl⟩ : ∃ g, S1 = sv_sts (sv_sts S [1143, 1144, 5, 1011] g2) [68, 69, 70] g := ⟨_, md16.eq⟩
      show sv_T sm_XS sm_cs sm_L sm_sh 5 (q_addTextOf p1 p2 S) 248 55 [(0, .ref 0), (1, sv_I p1), (2, sv_I p2), (3, sv_I l3_7), (4, sv_I l4_8)] [] (sv_sts (sv_sts S [1143, 1144, 5, 1011] g2) [68, 69, 70] g14)
      have md18 : sv_mod [1143, 1144, 5, 1011, 68, 69, 70] S (sv_sts (sv_sts S [1143, 1144, 5, 1011] g2) [68, 69, 70] g14) := sv_mod.sts md6 (by decide)
      have h := h g14 hpo17
      exact sv_vret hM dX12_addTextOf_55 rfl ⟨rfl, ok15, md18, h⟩
    · have h := h.2 (hc)
      refine sv_aload_n hM dX12_addTextOf_19 rfl rfl ?_
      refine sv_callV hM dX12_addTextOf_20 sm_iv_1150 (by decide) (sm_a0 _) rfl rfl (Nat.le_of_ble_eq_true rfl) sm_h243 (Nat.le_of_ble_eq_true rfl) (Nat.le_of_ble_eq_true rfl) (F' := 4) (Nat.le_of_ble_eq_true rfl) rfl (t_manyKeys  (sv_sts S [1143, 1144, 5, 1011] g2) ok11) (fun v S1 hq => ?_)
      obtain ⟨r23, rfl, hr23, ok20, md21, hpo22⟩ := hq
      obtain rfl : (sv_sts S [1143, 1144, 5, 1011] g2) = S1 := (funext fun j => md21 j (by intro q; cases q)).symm
      show sv_T sm_XS sm_cs sm_L sm_sh 5 (q_addTextOf p1 p2 S) 248 23 [(0, .ref 0), (1, sv_I p1), (2, sv_I p2), (3, sv_I l3_7), (4, sv_I l4_8)] [sv_I r23] (sv_sts S [1143, 1144, 5, 1011] g2)
      have h := h r23 hr23 hpo22
      refine sv_iconst (d := (1 : Int)) hM dX12_addTextOf_23 rfl rfl ?_
      refine sv_icmp_ne hM dX12_addTextOf_24 hr23 (⟨by decide, by decide⟩ : sv_R (1 : Int)) (t := 49) rfl rfl (fun hc => ?_) (fun hc => ?_)
      · have h := h.1 (hc)
        refine sv_aload_n hM dX12_addTextOf_49 rfl rfl ?_
        refine sv_iload_n hM dX12_addTextOf_50 rfl rfl ?_
        refine sv_iload_n hM dX12_addTextOf_51 rfl rfl ?_
        obtain ⟨o24, h⟩ := h
        refine sv_callV hM dX12_addTextOf_52 sm_iv_1078 (by decide) (sm_a0 _) rfl rfl (Nat.le_of_ble_eq_true rfl) sm_h215 (Nat.le_of_ble_eq_true rfl) (Nat.le_of_ble_eq_true rfl) (F' := 2) (Nat.le_of_ble_eq_true rfl) rfl (t_addString p2 l3_7 (sv_sts S [1143, 1144, 5, 1011] g2) ok20 hp2 hl3_7 o24) (fun v S1 hq => ?_)
        obtain ⟨rfl, ok26, md27, hpo28⟩ := hq
        obtain ⟨g25, rfl⟩ : ∃ g, S1 = sv_sts (sv_sts S [1143, 1144, 5, 1011] g2) [68, 69, 70] g := ⟨_, md27.eq⟩
        show sv_T sm_XS sm_cs sm_L sm_sh 5 (q_addTextOf p1 p2 S) 248 55 [(0, .ref 0), (1, sv_I p1), (2, sv_I p2), (3, sv_I l3_7), (4, sv_I l4_8)] [] (sv_sts (sv_sts S [1143, 1144, 5, 1011] g2) [68, 69, 70] g25)
        have md29 : sv_mod [1143, 1144, 5, 1011, 68, 69, 70] S (sv_sts (sv_sts S [1143, 1144, 5, 1011] g2) [68, 69, 70] g25) := sv_mod.sts md6 (by decide)
        have h := h g25 hpo28
        exact sv_vret hM dX12_addTextOf_55 rfl ⟨rfl, ok26, md29, h⟩
      · have h := h.2 (hc)
        refine sv_aload_n hM dX12_addTextOf_27 rfl rfl ?_
        refine sv_iload hM dX12_addTextOf_28 rfl rfl ?_
        obtain ⟨o30, h⟩ := h
        refine sv_callV hM dX12_addTextOf_30 sm_iv_1153 (by decide) (sm_a0 _) rfl rfl (Nat.le_of_ble_eq_true rfl) sm_h242 (Nat.le_of_ble_eq_true rfl) (Nat.le_of_ble_eq_true rfl) (F' := 1) (Nat.le_of_ble_eq_true rfl) rfl (t_hasKey l4_8 (sv_sts S [1143, 1144, 5, 1011] g2) ok20 hl4_8 o30) (fun v S1 hq => ?_)
        obtain ⟨r35, rfl, hr35, ok32, md33, hpo34⟩ := hq
        obtain rfl : (sv_sts S [1143, 1144, 5, 1011] g2) = S1 := (funext fun j => md33 j (by intro q; cases q)).symm
        show sv_T sm_XS sm_cs sm_L sm_sh 5 (q_addTextOf p1 p2 S) 248 33 [(0, .ref 0), (1, sv_I p1), (2, sv_I p2), (3, sv_I l3_7), (4, sv_I l4_8)] [sv_I r35] (sv_sts S [1143, 1144, 5, 1011] g2)
        have h := h r35 hr35 hpo34
        refine sv_cond_eq hM dX12_addTextOf_33 hr35 (t := 41) rfl rfl (fun hc => ?_) (fun hc => ?_)
        · have h := h.1 (hc)
          refine sv_iload_n hM dX12_addTextOf_41 rfl rfl ?_
          refine sv_istore_n hM dX12_addTextOf_42 (by decide) rfl ?_
          show sv_T sm_XS sm_cs sm_L sm_sh 5 (q_addTextOf p1 p2 S) 248 43 [(0, .ref 0), (1, sv_I p1), (2, sv_I p2), (3, sv_I l3_7), (4, sv_I l4_8)] [] (sv_sts S [1143, 1144, 5, 1011] g2)
          refine sv_iinc (d := (1 : Int)) hM dX12_addTextOf_43 rfl (by decide) rfl rfl ?_
          show sv_T sm_XS sm_cs sm_L sm_sh 5 (q_addTextOf p1 p2 S) 248 46 [(0, .ref 0), (1, sv_I p1), (2, sv_I p2), (3, sv_I l3_7), (4, sv_I (l4_8 + (1 : Int)))] [] (sv_sts S [1143, 1144, 5, 1011] g2)
          refine sv_goto hM dX12_addTextOf_46 (pc' := 10) rfl ?_
          obtain ⟨o36, h⟩ := h
          have hb := ih9 (l3_7, (l4_8 + (1 : Int)), ()) ⟨hl3_7, o36, ok32, h.1⟩ h.2
          exact sv_less (lv := [(0, .ref 0), (1, sv_I p1), (2, sv_I p2), (3, sv_I l3_7), (4, sv_I (l4_8 + (1 : Int)))]) (sv_Sub_cons rfl (sv_Sub_cons rfl (sv_Sub_cons rfl (sv_Sub_cons rfl (sv_Sub_cons rfl sv_Sub_nil))))) hb
        · have h := h.2 (hc)
          refine sv_iload hM dX12_addTextOf_36 rfl rfl ?_
          refine sv_goto hM dX12_addTextOf_38 (pc' := 42) rfl ?_
          refine sv_istore_n hM dX12_addTextOf_42 (by decide) rfl ?_
          show sv_T sm_XS sm_cs sm_L sm_sh 5 (q_addTextOf p1 p2 S) 248 43 [(0, .ref 0), (1, sv_I p1), (2, sv_I p2), (3, sv_I l4_8), (4, sv_I l4_8)] [] (sv_sts S [1143, 1144, 5, 1011] g2)
          refine sv_iinc (d := (1 : Int)) hM dX12_addTextOf_43 rfl (by decide) rfl rfl ?_
          show sv_T sm_XS sm_cs sm_L sm_sh 5 (q_addTextOf p1 p2 S) 248 46 [(0, .ref 0), (1, sv_I p1), (2, sv_I p2), (3, sv_I l4_8), (4, sv_I (l4_8 + (1 : Int)))] [] (sv_sts S [1143, 1144, 5, 1011] g2)
          refine sv_goto hM dX12_addTextOf_46 (pc' := 10) rfl ?_
          obtain ⟨o37, h⟩ := h
          have hb := ih9 (l4_8, (l4_8 + (1 : Int)), ()) ⟨hl4_8, o37, ok32, h.1⟩ h.2
          exact sv_less (lv := [(0, .ref 0), (1, sv_I p1), (2, sv_I p2), (3, sv_I l4_8), (4, sv_I (l4_8 + (1 : Int)))]) (sv_Sub_cons rfl (sv_Sub_cons rfl (sv_Sub_cons rfl (sv_Sub_cons rfl (sv_Sub_cons rfl sv_Sub_nil))))) hb
  exact hJ ((-1 : Int), (0 : Int), ()) ⟨(⟨by decide, by decide⟩ : sv_R (-1 : Int)), (⟨by decide, by decide⟩ : sv_R (0 : Int)), ok3, hin10⟩
def q_readKey (p1 : Int) (p3 : Int) (p5 : Int) (p6 : Int) (S : sv_S) : Option Value → sv_S → Prop := fun v S' => v = none ∧ sm_ok S' ∧ sv_mod [68, 69, 70, 1145] S S' ∧ (sm_pt (S' 68) (S' 69) (S' 70) = sm_pt (S 68) (S 69) (S 70))
theorem la_readKey_0 {x0 : Int} : x0 = x0 := by omega
theorem la_readKey_1 {x0 x1 : Int} (h0 : x0 ≤ 64) (h1 : x1 ≤ 64) : 0 ≤ 128 - x1 - x0 := by omega
theorem la_readKey_2 : (0 : Int) ≤ 0 := by omega
theorem la_readKey_3 {x0 x1 x2 x3 : Int} (h0 : ¬ x0 = 0) (h1 : ¬ x0 = 0 ∨ ¬ x1 = 0 → 0 ≤ x2 ∧ x2 < 128 ∧ x3 = 1) : 0 ≤ x2 := by omega
theorem la_readKey_4 {x0 x1 x2 x3 : Int} (h0 : ¬ x0 = 0) (h1 : ¬ x0 = 0 ∨ ¬ x1 = 0 → 0 ≤ x2 ∧ x2 < 128 ∧ x3 = 1) : x2 < 128 := by omega
theorem la_readKey_5 {x0 x1 x2 x3 : Int} (h0 : ¬ x0 = 0) (h1 : ¬ x0 = 0 ∨ ¬ x1 = 0 → 0 ≤ x2 ∧ x2 < 128 ∧ x3 = 1) : x3 = 1 := by omega
theorem la_readKey_6 {x0 x1 : Int} (h0 : x0 ≤ x1) (h1 : x1 < 128) : 0 ≤ 128 - x0 := by omega
theorem la_readKey_7 {x0 x1 : Int} (h0 : 0 ≤ x0) (h1 : x0 ≤ x1) (h2 : x1 < 128) : 0 ≤ x0 ∧ x0 < 128 := by omega
theorem la_readKey_8 {x0 : Int} (h0 : x0 = 1) : 0 ≤ x0 := by omega
theorem la_readKey_9 {x0 : Int} (h0 : 0 ≤ x0) (h1 : ¬ x0 = 0) : 0 < x0 := by omega
theorem la_readKey_10 {x0 x1 : Int} (h0 : x0 = x1) (h1 : x0 = 1) (h2 : 0 < x0) : x1 = 1 := by omega
theorem la_readKey_11 {x0 x1 : Int} (h0 : x0 ≤ x1) (h1 : x1 < 128) : x0 < 128 := by omega
theorem la_readKey_12 {x0 : Int} (h0 : 64 ≤ x0) : ¬ x0 < 64 := by omega
theorem la_readKey_13 {x0 x1 x2 x3 x4 x5 x6 x7 : Int} (h0 : 0 ≤ x0) (h1 : x0 ≤ 11557) (h2 : 0 ≤ x1) (h3 : x1 ≤ x2) (h4 : x3 ≤ x4) (h5 : x4 < 128) (h6 : 64 ≤ x3) : 0 ≤ x0 ∧ x0 ≤ 11557 ∧ (0 : Int) ≤ 639 ∧ ((639 : Int) = 639 ∨ 639 < x5 + 2 * x6) ∧ 0 ≤ x3 ∧ (x3 < x7 ∨ (639 : Int) = 639 ∧ x3 < 128) ∧ 0 ≤ x1 ∧ x1 ≤ x2 := by omega
theorem la_readKey_14 : (639 : Int) = 639 := by omega
theorem la_readKey_15 : ¬ ¬ (639 : Int) = 639 := by omega
theorem la_readKey_16 {x0 x1 : Int} (h0 : 635639 ≤ x0) (h1 : x0 < 647790) (h2 : 635640 ≤ x1) (h3 : x1 < 647340) : 0 ≤ x1 ∧ x1 < 647800 ∧ 0 ≤ x0 ∧ x0 < 647800 := by omega
theorem la_readKey_17 {x0 : Int} (h0 : 635639 ≤ x0) : ¬ x0 < 635639 := by omega
theorem la_readKey_18 {x0 : Int} (h0 : 635640 ≤ x0) (h1 : x0 < 647340) : 0 ≤ x0 ∧ x0 < 647800 := by omega
theorem la_readKey_19 {x0 x1 x2 x3 x4 x5 : Int} (h0 : 0 ≤ x0) (h1 : x0 ≤ 11557) (h2 : x1 ≤ x2) (h3 : x2 < 128) (h4 : 64 ≤ x1) : 0 ≤ x0 ∧ x0 ≤ 11557 ∧ (0 : Int) ≤ 639 ∧ ((639 : Int) = 639 ∨ 639 < x3 + 2 * x4) ∧ 0 ≤ x1 ∧ (x1 < x5 ∨ (639 : Int) = 639 ∧ x1 < 128) := by omega
theorem la_readKey_20 {x0 x1 x2 : Int} (h0 : x0 ≤ x1) (h1 : x1 < 128) (h2 : 64 ≤ x0) (h3 : x2 = 15000 + x0) : 0 ≤ x2 ∧ x2 < 15128 := by omega
theorem la_readKey_21 {x0 x1 x2 : Int} (h0 : x0 = x1) (h1 : x2 = x0) : x2 = x1 := by omega
theorem la_readKey_22 {x0 x1 : Int} (h0 : x0 = x1) : x1 = x0 := by omega
theorem la_readKey_23 {x0 x1 x2 x3 : Int} (h0 : x0 + 1 ≤ x1) (h1 : x2 = x1) : 128 - x3 - x2 < 128 - x3 - x0 := by omega
theorem la_readKey_24 {x0 : Int} (h0 : ¬ 64 ≤ x0) : x0 < 64 := by omega
theorem la_readKey_25 {x0 : Int} (h0 : ¬ 64 ≤ x0) : ¬ ¬ x0 < 64 := by omega
theorem la_readKey_26 {x0 x1 x2 x3 x4 x5 x6 : Int} (h0 : 0 ≤ x0) (h1 : x0 ≤ 11557) (h2 : 0 ≤ x1) (h3 : x1 ≤ x2) (h4 : 0 ≤ x3) (h5 : ¬ 64 ≤ x3) : 0 ≤ x0 ∧ x0 ≤ 11557 ∧ (0 : Int) ≤ 639 ∧ ((639 : Int) = 639 ∨ 639 < x4 + 2 * x5) ∧ 0 ≤ x3 ∧ (x3 < x6 ∨ (639 : Int) = 639 ∧ x3 < 128) ∧ 0 ≤ x1 ∧ x1 ≤ x2 := by omega
theorem la_readKey_27 {x0 x1 x2 x3 x4 : Int} (h0 : 0 ≤ x0) (h1 : x0 ≤ 11557) (h2 : 0 ≤ x1) (h3 : ¬ 64 ≤ x1) : 0 ≤ x0 ∧ x0 ≤ 11557 ∧ (0 : Int) ≤ 639 ∧ ((639 : Int) = 639 ∨ 639 < x2 + 2 * x3) ∧ 0 ≤ x1 ∧ (x1 < x4 ∨ (639 : Int) = 639 ∧ x1 < 128) := by omega
theorem la_readKey_28 {x0 x1 : Int} (h0 : 0 ≤ x0) (h1 : ¬ 64 ≤ x0) (h2 : x1 = 15000 + x0) : 0 ≤ x1 ∧ x1 < 15128 := by omega
theorem la_readKey_29 {x0 x1 x2 x3 : Int} (h0 : x0 + 1 ≤ x1) (h1 : x2 = x1) : 128 - x2 - x3 < 128 - x0 - x3 := by omega
theorem la_readKey_30 {x0 : Int} (h0 : ¬ ¬ x0 = 0) : ¬ x0 = 1 := by omega
theorem la_readKey_31 {x0 x1 : Int} (h0 : x0 = x1) (h1 : ¬ ¬ x0 = 0) : x1 = 0 := by omega
theorem la_readKey_32 {x0 x1 : Int} (h0 : x0 ≤ x1) (h1 : ¬ x0 = x1) : x0 < x1 := by omega
theorem la_readKey_33 {x0 x1 : Int} (h0 : 0 ≤ x0) (h1 : x1 < 128) (h2 : x0 < x1) : sv_R (x0 + 1) := by omega
theorem la_readKey_34 {x0 x1 x2 : Int} (h0 : 0 ≤ x0) (h1 : x1 < 128) (h2 : x2 = 1) (h3 : x0 < x1) : 0 ≤ x0 + 1 ∧ x0 + 1 ≤ x1 ∧ 0 ≤ x1 ∧ x1 < 128 ∧ x2 = 1 := by omega
theorem la_readKey_35 {x0 : Int} : 128 - (x0 + 1) < 128 - x0 := by omega
theorem la_readKey_36 {x0 : Int} (h0 : 635639 ≤ x0) (h1 : x0 < 647790) : 0 ≤ x0 ∧ x0 < 647800 := by omega
theorem la_readKey_37 {x0 x1 x2 x3 : Int} (h0 : ¬ x0 = 0) (h1 : ¬ x1 = 0 ∨ ¬ x0 = 0 → 0 ≤ x2 ∧ x2 < 128 ∧ x3 = 1) : 0 ≤ x2 := by omega
theorem la_readKey_38 {x0 x1 x2 x3 : Int} (h0 : ¬ x0 = 0) (h1 : ¬ x1 = 0 ∨ ¬ x0 = 0 → 0 ≤ x2 ∧ x2 < 128 ∧ x3 = 1) : x2 < 128 := by omega
theorem la_readKey_39 {x0 x1 x2 x3 : Int} (h0 : ¬ x0 = 0) (h1 : ¬ x1 = 0 ∨ ¬ x0 = 0 → 0 ≤ x2 ∧ x2 < 128 ∧ x3 = 1) : x3 = 1 := by omega
theorem la_readKey_40 {x0 x1 : Int} (h0 : x0 = x1) (h1 : x0 = 1) : x1 = 1 := by omega
set_option maxHeartbeats 2000000 in
theorem f_readKey : ∀ (p1 : Int) (p3 : Int) (p5 : Int) (p6 : Int) (S : sv_S), sm_ok S → sv_RL p1 → sv_RL p3 → sv_R p5 → sv_R p6 → (29 ≤ (S 1071 0) ∧ (S 1071 0) ≤ 127 ∧ 31 ≤ (S 1008 0) ∧ (S 1008 0) ≤ 90 ∧ 1 ≤ (S 1032 0) ∧ (S 1032 0) ≤ 11 ∧ 0 ≤ (S 1055 0) ∧ (S 1055 0) ≤ 19 ∧ (S 1071 0) = 29 + 6 * ((S 1032 0) - 1) + 2 * (S 1055 0) ∧ 0 ≤ (S 1046 0) ∧ (S 1046 0) + 2 * (S 1032 0) ≤ 500 ∧ sm_PD (S 1046 0) (S 1032 0) (S 1071 0) (S 1008 0) ∧ 0 ≤ (S 1071 0) * ((S 1008 0) + 1) ∧ (S 1071 0) * ((S 1008 0) + 1) ≤ 11557 ∧ 0 ≤ p5 ∧ p5 ≤ (S 1008 0) ∧ 635639 ≤ p6 ∧ p6 < 647790) → ((sm_pt (S 68) (S 69) (S 70) = sm_pt (S 68) (S 69) (S 70)) ∧ (∀ l7_2 : Int, sv_RL l7_2 → ∀ l9_3 : Int, sv_RL l9_3 → ∀ l11_4 : Int, sv_RL l11_4 → ∀ l13_5 : Int, sv_RL l13_5 → ∀ g1 : sv_S, (sm_pt (g1 68) (g1 69) (g1 70) = sm_pt (S 68) (S 69) (S 70)) → (0 ≤ 128 - sm_pc l11_4 - sm_pc l13_5) ∧ ((0 ≤ sm_pc l11_4 ∧ sm_pc l11_4 ≤ 64) → ((0 ≤ sm_pc l13_5 ∧ sm_pc l13_5 ≤ 64) → (sv_RL (sm_lxor l11_4 (-1 : Int)) → (sv_RL (sm_land l7_2 (sm_lxor l11_4 (-1 : Int))) → (((¬ (sm_land l7_2 (sm_lxor l11_4 (-1 : Int))) = (0 : Int)) → ((¬ (sm_land l7_2 (sm_lxor l11_4 (-1))) = 0 ∨ ¬ (sm_land l9_3 (sm_lxor l13_5 (-1))) = 0 → 0 ≤ (sm_fst (sm_land l7_2 (sm_lxor l11_4 (-1))) (sm_land l9_3 (sm_lxor l13_5 (-1)))) ∧ (sm_fst (sm_land l7_2 (sm_lxor l11_4 (-1))) (sm_land l9_3 (sm_lxor l13_5 (-1)))) < 128 ∧ sm_in (sm_land l7_2 (sm_lxor l11_4 (-1))) (sm_land l9_3 (sm_lxor l13_5 (-1))) (sm_fst (sm_land l7_2 (sm_lxor l11_4 (-1))) (sm_land l9_3 (sm_lxor l13_5 (-1)))) = 1) → ((0 ≤ (0 : Int) ∧ (0 : Int) ≤ (sm_fst (sm_land l7_2 (sm_lxor l11_4 (-1))) (sm_land l9_3 (sm_lxor l13_5 (-1)))) ∧ 0 ≤ (sm_fst (sm_land l7_2 (sm_lxor l11_4 (-1))) (sm_land l9_3 (sm_lxor l13_5 (-1)))) ∧ (sm_fst (sm_land l7_2 (sm_lxor l11_4 (-1))) (sm_land l9_3 (sm_lxor l13_5 (-1)))) < 128 ∧ sm_in (sm_land l7_2 (sm_lxor l11_4 (-1))) (sm_land l9_3 (sm_lxor l13_5 (-1))) (sm_fst (sm_land l7_2 (sm_lxor l11_4 (-1))) (sm_land l9_3 (sm_lxor l13_5 (-1)))) = 1) ∧ (∀ l15_18 : Int, sv_R l15_18 → (0 ≤ l15_18 ∧ l15_18 ≤ (sm_fst (sm_land l7_2 (sm_lxor l11_4 (-1))) (sm_land l9_3 (sm_lxor l13_5 (-1)))) ∧ 0 ≤ (sm_fst (sm_land l7_2 (sm_lxor l11_4 (-1))) (sm_land l9_3 (sm_lxor l13_5 (-1)))) ∧ (sm_fst (sm_land l7_2 (sm_lxor l11_4 (-1))) (sm_land l9_3 (sm_lxor l13_5 (-1)))) < 128 ∧ sm_in (sm_land l7_2 (sm_lxor l11_4 (-1))) (sm_land l9_3 (sm_lxor l13_5 (-1))) (sm_fst (sm_land l7_2 (sm_lxor l11_4 (-1))) (sm_land l9_3 (sm_lxor l13_5 (-1)))) = 1) → (0 ≤ 128 - l15_18) ∧ (sv_RL (sm_lxor l11_4 (-1 : Int)) → (sv_RL (sm_land l7_2 (sm_lxor l11_4 (-1 : Int))) → (sv_RL (sm_lxor l13_5 (-1 : Int)) → (sv_RL (sm_land l9_3 (sm_lxor l13_5 (-1 : Int))) → (0 ≤ l15_18 ∧ l15_18 < 128) ∧ (∀ r35 : Int, sv_R r35 → (r35 = sm_in (sm_land l7_2 (sm_lxor l11_4 (-1 : Int))) (sm_land l9_3 (sm_lxor l13_5 (-1 : Int))) l15_18 ∧ (r35 = 0 ∨ r35 = 1)) → (((¬ r35 = (0 : Int)) → ((sm_in (sm_land l7_2 (sm_lxor l11_4 (-1))) (sm_land l9_3 (sm_lxor l13_5 (-1))) l15_18 = 1 → 0 ≤ l15_18 → l15_18 < 128 → sv_RL l11_4 → sv_RL l13_5 → (l15_18 < 64 → sm_pc l11_4 + 1 ≤ sm_pc (sm_lor l11_4 (sm_shl 1 l15_18))) ∧ (¬ l15_18 < 64 → sm_pc l13_5 + 1 ≤ sm_pc (sm_lor l13_5 (sm_shl 1 (l15_18 - 64))))) → ((((64 : Int) ≤ l15_18) → (sv_RL (sm_shl (1 : Int) (l15_18 - (64 : Int))) → (sv_RL (sm_lor l13_5 (sm_shl (1 : Int) (l15_18 - (64 : Int)))) → (∀ x41 : Int, (sm_lor l13_5 (sm_shl (1 : Int) (l15_18 - (64 : Int)))) = x41 → (29 ≤ (S 1071 0) ∧ (S 1071 0) ≤ 127 ∧ 31 ≤ (S 1008 0) ∧ (S 1008 0) ≤ 90 ∧ 1 ≤ (S 1032 0) ∧ (S 1032 0) ≤ 11 ∧ 0 ≤ (S 1055 0) ∧ (S 1055 0) ≤ 19 ∧ (S 1071 0) = 29 + 6 * ((S 1032 0) - 1) + 2 * (S 1055 0) ∧ 0 ≤ (S 1046 0) ∧ (S 1046 0) + 2 * (S 1032 0) ≤ 500 ∧ sm_PD (S 1046 0) (S 1032 0) (S 1071 0) (S 1008 0) ∧ 0 ≤ (S 1071 0) * ((S 1008 0) + 1) ∧ (S 1071 0) * ((S 1008 0) + 1) ≤ 11557 ∧ 0 ≤ (639 : Int) ∧ ((639 : Int) = 639 ∨ (639 : Int) < (S 1046 0) + 2 * (S 1032 0)) ∧ 0 ≤ l15_18 ∧ (l15_18 < (S 1071 0) ∨ ((639 : Int) = 639 ∧ l15_18 < 128)) ∧ 0 ≤ p5 ∧ p5 ≤ (S 1008 0)) ∧ (∀ r48 : Int, sv_R r48 → (((639 : Int) = 639 → 635640 ≤ r48 ∧ r48 < 647340) ∧ (¬ (639 : Int) = 639 → 0 ≤ r48 ∧ r48 < 464520)) → (0 ≤ r48 ∧ r48 < 647800 ∧ 0 ≤ p6 ∧ p6 < 647800) ∧ (∀ r54 : Int, sv_R r54 → ∀ g50 : sv_S, ((635639 ≤ p6 → sm_pt (g50 68) (g50 69) (g50 70) = sm_pt (g1 68) (g1 69) (g1 70)) ∧ (r54 = 0 ∨ r54 = 1) ∧ (p6 < 635639 → sm_pt (g50 68) (g50 69) (g50 70) + r54 ≤ sm_pt (g1 68) (g1 69) (g1 70))) → (0 ≤ r48 ∧ r48 < 647800) ∧ (∀ r62 : Int, sv_R r62 → (r62 = (g50 68 r48) % 1024 ∧ 0 ≤ r62 ∧ r62 ≤ 1023) → (∀ r63 : Int, (0 ≤ r63 ∧ r63 ≤ (512 : Int)) → (((¬ r63 = (0 : Int)) → (29 ≤ (S 1071 0) ∧ (S 1071 0) ≤ 127 ∧ 31 ≤ (S 1008 0) ∧ (S 1008 0) ≤ 90 ∧ 1 ≤ (S 1032 0) ∧ (S 1032 0) ≤ 11 ∧ 0 ≤ (S 1055 0) ∧ (S 1055 0) ≤ 19 ∧ (S 1071 0) = 29 + 6 * ((S 1032 0) - 1) + 2 * (S 1055 0) ∧ 0 ≤ (S 1046 0) ∧ (S 1046 0) + 2 * (S 1032 0) ≤ 500 ∧ sm_PD (S 1046 0) (S 1032 0) (S 1071 0) (S 1008 0) ∧ 0 ≤ (S 1071 0) * ((S 1008 0) + 1) ∧ (S 1071 0) * ((S 1008 0) + 1) ≤ 11557 ∧ 0 ≤ (639 : Int) ∧ ((639 : Int) = 639 ∨ (639 : Int) < (S 1046 0) + 2 * (S 1032 0)) ∧ 0 ≤ l15_18 ∧ (l15_18 < (S 1071 0) ∨ ((639 : Int) = 639 ∧ l15_18 < 128))) ∧ (∀ r69 : Int, sv_R r69 → (((639 : Int) = 639 → r69 = 15000 + l15_18) ∧ (¬ (639 : Int) = 639 → 0 ≤ r69 ∧ r69 < 14520)) → (0 ≤ r69 ∧ r69 < 15128) ∧ (sv_RL (S 83 r69) → (∀ r72 : Int, sv_RL r72 → (sv_RL (S 84 r69) → (∀ r74 : Int, sv_RL r74 → ((0 ≤ (g1 1145 0) ∧ (g1 1145 0) ≤ 1) → (((¬ (g1 1145 0) = (0 : Int)) → ((sm_pt (g50 68) (g50 69) (g50 70) = sm_pt (S 68) (S 69) (S 70)) ∧ (128 - sm_pc l11_4 - sm_pc x41) < (128 - sm_pc l11_4 - sm_pc l13_5))) ∧ ((¬ (¬ (g1 1145 0) = (0 : Int))) → ((0 ≤ (S 82 r69) ∧ (S 82 r69) ≤ 1) → ((((S 82 r69) = (0 : Int)) → ((sm_pt (g50 68) (g50 69) (g50 70) = sm_pt (S 68) (S 69) (S 70)) ∧ (128 - sm_pc l11_4 - sm_pc x41) < (128 - sm_pc l11_4 - sm_pc l13_5))) ∧ ((¬ ((S 82 r69) = (0 : Int))) → ((sm_pt (g50 68) (g50 69) (g50 70) = sm_pt (S 68) (S 69) (S 70)) ∧ (128 - sm_pc l11_4 - sm_pc x41) < (128 - sm_pc l11_4 - sm_pc l13_5)))))))))))))) ∧ ((¬ (¬ r63 = (0 : Int))) → ((sm_pt (g50 68) (g50 69) (g50 70) = sm_pt (S 68) (S 69) (S 70)) ∧ (128 - sm_pc l11_4 - sm_pc x41) < (128 - sm_pc l11_4 - sm_pc l13_5)))))))))))) ∧ ((¬ ((64 : Int) ≤ l15_18)) → (sv_RL (sm_shl (1 : Int) l15_18) → (sv_RL (sm_lor l11_4 (sm_shl (1 : Int) l15_18)) → (∀ x90 : Int, (sm_lor l11_4 (sm_shl (1 : Int) l15_18)) = x90 → (29 ≤ (S 1071 0) ∧ (S 1071 0) ≤ 127 ∧ 31 ≤ (S 1008 0) ∧ (S 1008 0) ≤ 90 ∧ 1 ≤ (S 1032 0) ∧ (S 1032 0) ≤ 11 ∧ 0 ≤ (S 1055 0) ∧ (S 1055 0) ≤ 19 ∧ (S 1071 0) = 29 + 6 * ((S 1032 0) - 1) + 2 * (S 1055 0) ∧ 0 ≤ (S 1046 0) ∧ (S 1046 0) + 2 * (S 1032 0) ≤ 500 ∧ sm_PD (S 1046 0) (S 1032 0) (S 1071 0) (S 1008 0) ∧ 0 ≤ (S 1071 0) * ((S 1008 0) + 1) ∧ (S 1071 0) * ((S 1008 0) + 1) ≤ 11557 ∧ 0 ≤ (639 : Int) ∧ ((639 : Int) = 639 ∨ (639 : Int) < (S 1046 0) + 2 * (S 1032 0)) ∧ 0 ≤ l15_18 ∧ (l15_18 < (S 1071 0) ∨ ((639 : Int) = 639 ∧ l15_18 < 128)) ∧ 0 ≤ p5 ∧ p5 ≤ (S 1008 0)) ∧ (∀ r97 : Int, sv_R r97 → (((639 : Int) = 639 → 635640 ≤ r97 ∧ r97 < 647340) ∧ (¬ (639 : Int) = 639 → 0 ≤ r97 ∧ r97 < 464520)) → (0 ≤ r97 ∧ r97 < 647800 ∧ 0 ≤ p6 ∧ p6 < 647800) ∧ (∀ r103 : Int, sv_R r103 → ∀ g99 : sv_S, ((635639 ≤ p6 → sm_pt (g99 68) (g99 69) (g99 70) = sm_pt (g1 68) (g1 69) (g1 70)) ∧ (r103 = 0 ∨ r103 = 1) ∧ (p6 < 635639 → sm_pt (g99 68) (g99 69) (g99 70) + r103 ≤ sm_pt (g1 68) (g1 69) (g1 70))) → (0 ≤ r97 ∧ r97 < 647800) ∧ (∀ r111 : Int, sv_R r111 → (r111 = (g99 68 r97) % 1024 ∧ 0 ≤ r111 ∧ r111 ≤ 1023) → (∀ r112 : Int, (0 ≤ r112 ∧ r112 ≤ (512 : Int)) → (((¬ r112 = (0 : Int)) → (29 ≤ (S 1071 0) ∧ (S 1071 0) ≤ 127 ∧ 31 ≤ (S 1008 0) ∧ (S 1008 0) ≤ 90 ∧ 1 ≤ (S 1032 0) ∧ (S 1032 0) ≤ 11 ∧ 0 ≤ (S 1055 0) ∧ (S 1055 0) ≤ 19 ∧ (S 1071 0) = 29 + 6 * ((S 1032 0) - 1) + 2 * (S 1055 0) ∧ 0 ≤ (S 1046 0) ∧ (S 1046 0) + 2 * (S 1032 0) ≤ 500 ∧ sm_PD (S 1046 0) (S 1032 0) (S 1071 0) (S 1008 0) ∧ 0 ≤ (S 1071 0) * ((S 1008 0) + 1) ∧ (S 1071 0) * ((S 1008 0) + 1) ≤ 11557 ∧ 0 ≤ (639 : Int) ∧ ((639 : Int) = 639 ∨ (639 : Int) < (S 1046 0) + 2 * (S 1032 0)) ∧ 0 ≤ l15_18 ∧ (l15_18 < (S 1071 0) ∨ ((639 : Int) = 639 ∧ l15_18 < 128))) ∧ (∀ r118 : Int, sv_R r118 → (((639 : Int) = 639 → r118 = 15000 + l15_18) ∧ (¬ (639 : Int) = 639 → 0 ≤ r118 ∧ r118 < 14520)) → (0 ≤ r118 ∧ r118 < 15128) ∧ (sv_RL (S 83 r118) → (∀ r121 : Int, sv_RL r121 → (sv_RL (S 84 r118) → (∀ r123 : Int, sv_RL r123 → ((0 ≤ (g1 1145 0) ∧ (g1 1145 0) ≤ 1) → (((¬ (g1 1145 0) = (0 : Int)) → ((sm_pt (g99 68) (g99 69) (g99 70) = sm_pt (S 68) (S 69) (S 70)) ∧ (128 - sm_pc x90 - sm_pc l13_5) < (128 - sm_pc l11_4 - sm_pc l13_5))) ∧ ((¬ (¬ (g1 1145 0) = (0 : Int))) → ((0 ≤ (S 82 r118) ∧ (S 82 r118) ≤ 1) → ((((S 82 r118) = (0 : Int)) → ((sm_pt (g99 68) (g99 69) (g99 70) = sm_pt (S 68) (S 69) (S 70)) ∧ (128 - sm_pc x90 - sm_pc l13_5) < (128 - sm_pc l11_4 - sm_pc l13_5))) ∧ ((¬ ((S 82 r118) = (0 : Int))) → ((sm_pt (g99 68) (g99 69) (g99 70) = sm_pt (S 68) (S 69) (S 70)) ∧ (128 - sm_pc x90 - sm_pc l13_5) < (128 - sm_pc l11_4 - sm_pc l13_5)))))))))))))) ∧ ((¬ (¬ r112 = (0 : Int))) → ((sm_pt (g99 68) (g99 69) (g99 70) = sm_pt (S 68) (S 69) (S 70)) ∧ (128 - sm_pc x90 - sm_pc l13_5) < (128 - sm_pc l11_4 - sm_pc l13_5))))))))))))))) ∧ ((¬ (¬ r35 = (0 : Int))) → ((sm_in (sm_land l7_2 (sm_lxor l11_4 (-1))) (sm_land l9_3 (sm_lxor l13_5 (-1))) (sm_fst (sm_land l7_2 (sm_lxor l11_4 (-1))) (sm_land l9_3 (sm_lxor l13_5 (-1)))) = 1 → sm_in (sm_land l7_2 (sm_lxor l11_4 (-1))) (sm_land l9_3 (sm_lxor l13_5 (-1))) l15_18 = 0 → ¬ l15_18 = (sm_fst (sm_land l7_2 (sm_lxor l11_4 (-1))) (sm_land l9_3 (sm_lxor l13_5 (-1))))) → (sv_R (l15_18 + (1 : Int))) ∧ ((0 ≤ (l15_18 + (1 : Int)) ∧ (l15_18 + (1 : Int)) ≤ (sm_fst (sm_land l7_2 (sm_lxor l11_4 (-1))) (sm_land l9_3 (sm_lxor l13_5 (-1)))) ∧ 0 ≤ (sm_fst (sm_land l7_2 (sm_lxor l11_4 (-1))) (sm_land l9_3 (sm_lxor l13_5 (-1)))) ∧ (sm_fst (sm_land l7_2 (sm_lxor l11_4 (-1))) (sm_land l9_3 (sm_lxor l13_5 (-1)))) < 128 ∧ sm_in (sm_land l7_2 (sm_lxor l11_4 (-1))) (sm_land l9_3 (sm_lxor l13_5 (-1))) (sm_fst (sm_land l7_2 (sm_lxor l11_4 (-1))) (sm_land l9_3 (sm_lxor l13_5 (-1)))) = 1) ∧ (128 - (l15_18 + (1 : Int))) < (128 - l15_18)))))))))))))) ∧ ((¬ (¬ (sm_land l7_2 (sm_lxor l11_4 (-1 : Int))) = (0 : Int))) → (sv_RL (sm_lxor l13_5 (-1 : Int)) → (sv_RL (sm_land l9_3 (sm_lxor l13_5 (-1 : Int))) → ((((sm_land l9_3 (sm_lxor l13_5 (-1 : Int))) = (0 : Int)) → (0 ≤ p6 ∧ p6 < 647800) ∧ (∀ r146 : Int, sv_R r146 → (sm_iand ((g1 68 p6) % 1024) (-513) = r146) → (∀ r151 : Int, sv_R r151 → (0 ≤ r151 ∧ r151 ≤ 127) → (∀ r156 : Int, sv_R r156 → (True) → (∀ g157 : sv_S, ((0 ≤ r146 → r146 < 1024 → (g157 68 p6) % 1024 = r146) ∧ (635639 ≤ p6 → sm_pt (g157 68) (g1 69) (g1 70) = sm_pt (g1 68) (g1 69) (g1 70)) ∧ (p6 < 635639 → sm_pt (g157 68) (g1 69) (g1 70) = sm_pt (g1 68) (g1 69) (g1 70) + sm_rs (g1 68 p6) (g1 69 p6) (g1 70 p6) - sm_rs (g157 68 p6) (g1 69 p6) (g1 70 p6))) → (sm_pt (g157 68) (g1 69) (g1 70) = sm_pt (S 68) (S 69) (S 70))))))) ∧ ((¬ ((sm_land l9_3 (sm_lxor l13_5 (-1 : Int))) = (0 : Int))) → ((¬ (sm_land l7_2 (sm_lxor l11_4 (-1))) = 0 ∨ ¬ (sm_land l9_3 (sm_lxor l13_5 (-1))) = 0 → 0 ≤ (sm_fst (sm_land l7_2 (sm_lxor l11_4 (-1))) (sm_land l9_3 (sm_lxor l13_5 (-1)))) ∧ (sm_fst (sm_land l7_2 (sm_lxor l11_4 (-1))) (sm_land l9_3 (sm_lxor l13_5 (-1)))) < 128 ∧ sm_in (sm_land l7_2 (sm_lxor l11_4 (-1))) (sm_land l9_3 (sm_lxor l13_5 (-1))) (sm_fst (sm_land l7_2 (sm_lxor l11_4 (-1))) (sm_land l9_3 (sm_lxor l13_5 (-1)))) = 1) → ((0 ≤ (0 : Int) ∧ (0 : Int) ≤ (sm_fst (sm_land l7_2 (sm_lxor l11_4 (-1))) (sm_land l9_3 (sm_lxor l13_5 (-1)))) ∧ 0 ≤ (sm_fst (sm_land l7_2 (sm_lxor l11_4 (-1))) (sm_land l9_3 (sm_lxor l13_5 (-1)))) ∧ (sm_fst (sm_land l7_2 (sm_lxor l11_4 (-1))) (sm_land l9_3 (sm_lxor l13_5 (-1)))) < 128 ∧ sm_in (sm_land l7_2 (sm_lxor l11_4 (-1))) (sm_land l9_3 (sm_lxor l13_5 (-1))) (sm_fst (sm_land l7_2 (sm_lxor l11_4 (-1))) (sm_land l9_3 (sm_lxor l13_5 (-1)))) = 1) ∧ (∀ l15_164 : Int, sv_R l15_164 → (0 ≤ l15_164 ∧ l15_164 ≤ (sm_fst (sm_land l7_2 (sm_lxor l11_4 (-1))) (sm_land l9_3 (sm_lxor l13_5 (-1)))) ∧ 0 ≤ (sm_fst (sm_land l7_2 (sm_lxor l11_4 (-1))) (sm_land l9_3 (sm_lxor l13_5 (-1)))) ∧ (sm_fst (sm_land l7_2 (sm_lxor l11_4 (-1))) (sm_land l9_3 (sm_lxor l13_5 (-1)))) < 128 ∧ sm_in (sm_land l7_2 (sm_lxor l11_4 (-1))) (sm_land l9_3 (sm_lxor l13_5 (-1))) (sm_fst (sm_land l7_2 (sm_lxor l11_4 (-1))) (sm_land l9_3 (sm_lxor l13_5 (-1)))) = 1) → (0 ≤ 128 - l15_164) ∧ (sv_RL (sm_lxor l11_4 (-1 : Int)) → (sv_RL (sm_land l7_2 (sm_lxor l11_4 (-1 : Int))) → (sv_RL (sm_lxor l13_5 (-1 : Int)) → (sv_RL (sm_land l9_3 (sm_lxor l13_5 (-1 : Int))) → (0 ≤ l15_164 ∧ l15_164 < 128) ∧ (∀ r181 : Int, sv_R r181 → (r181 = sm_in (sm_land l7_2 (sm_lxor l11_4 (-1 : Int))) (sm_land l9_3 (sm_lxor l13_5 (-1 : Int))) l15_164 ∧ (r181 = 0 ∨ r181 = 1)) → (((¬ r181 = (0 : Int)) → ((sm_in (sm_land l7_2 (sm_lxor l11_4 (-1))) (sm_land l9_3 (sm_lxor l13_5 (-1))) l15_164 = 1 → 0 ≤ l15_164 → l15_164 < 128 → sv_RL l11_4 → sv_RL l13_5 → (l15_164 < 64 → sm_pc l11_4 + 1 ≤ sm_pc (sm_lor l11_4 (sm_shl 1 l15_164))) ∧ (¬ l15_164 < 64 → sm_pc l13_5 + 1 ≤ sm_pc (sm_lor l13_5 (sm_shl 1 (l15_164 - 64))))) → ((((64 : Int) ≤ l15_164) → (sv_RL (sm_shl (1 : Int) (l15_164 - (64 : Int))) → (sv_RL (sm_lor l13_5 (sm_shl (1 : Int) (l15_164 - (64 : Int)))) → (∀ x187 : Int, (sm_lor l13_5 (sm_shl (1 : Int) (l15_164 - (64 : Int)))) = x187 → (29 ≤ (S 1071 0) ∧ (S 1071 0) ≤ 127 ∧ 31 ≤ (S 1008 0) ∧ (S 1008 0) ≤ 90 ∧ 1 ≤ (S 1032 0) ∧ (S 1032 0) ≤ 11 ∧ 0 ≤ (S 1055 0) ∧ (S 1055 0) ≤ 19 ∧ (S 1071 0) = 29 + 6 * ((S 1032 0) - 1) + 2 * (S 1055 0) ∧ 0 ≤ (S 1046 0) ∧ (S 1046 0) + 2 * (S 1032 0) ≤ 500 ∧ sm_PD (S 1046 0) (S 1032 0) (S 1071 0) (S 1008 0) ∧ 0 ≤ (S 1071 0) * ((S 1008 0) + 1) ∧ (S 1071 0) * ((S 1008 0) + 1) ≤ 11557 ∧ 0 ≤ (639 : Int) ∧ ((639 : Int) = 639 ∨ (639 : Int) < (S 1046 0) + 2 * (S 1032 0)) ∧ 0 ≤ l15_164 ∧ (l15_164 < (S 1071 0) ∨ ((639 : Int) = 639 ∧ l15_164 < 128)) ∧ 0 ≤ p5 ∧ p5 ≤ (S 1008 0)) ∧ (∀ r194 : Int, sv_R r194 → (((639 : Int) = 639 → 635640 ≤ r194 ∧ r194 < 647340) ∧ (¬ (639 : Int) = 639 → 0 ≤ r194 ∧ r194 < 464520)) → (0 ≤ r194 ∧ r194 < 647800 ∧ 0 ≤ p6 ∧ p6 < 647800) ∧ (∀ r200 : Int, sv_R r200 → ∀ g196 : sv_S, ((635639 ≤ p6 → sm_pt (g196 68) (g196 69) (g196 70) = sm_pt (g1 68) (g1 69) (g1 70)) ∧ (r200 = 0 ∨ r200 = 1) ∧ (p6 < 635639 → sm_pt (g196 68) (g196 69) (g196 70) + r200 ≤ sm_pt (g1 68) (g1 69) (g1 70))) → (0 ≤ r194 ∧ r194 < 647800) ∧ (∀ r208 : Int, sv_R r208 → (r208 = (g196 68 r194) % 1024 ∧ 0 ≤ r208 ∧ r208 ≤ 1023) → (∀ r209 : Int, (0 ≤ r209 ∧ r209 ≤ (512 : Int)) → (((¬ r209 = (0 : Int)) → (29 ≤ (S 1071 0) ∧ (S 1071 0) ≤ 127 ∧ 31 ≤ (S 1008 0) ∧ (S 1008 0) ≤ 90 ∧ 1 ≤ (S 1032 0) ∧ (S 1032 0) ≤ 11 ∧ 0 ≤ (S 1055 0) ∧ (S 1055 0) ≤ 19 ∧ (S 1071 0) = 29 + 6 * ((S 1032 0) - 1) + 2 * (S 1055 0) ∧ 0 ≤ (S 1046 0) ∧ (S 1046 0) + 2 * (S 1032 0) ≤ 500 ∧ sm_PD (S 1046 0) (S 1032 0) (S 1071 0) (S 1008 0) ∧ 0 ≤ (S 1071 0) * ((S 1008 0) + 1) ∧ (S 1071 0) * ((S 1008 0) + 1) ≤ 11557 ∧ 0 ≤ (639 : Int) ∧ ((639 : Int) = 639 ∨ (639 : Int) < (S 1046 0) + 2 * (S 1032 0)) ∧ 0 ≤ l15_164 ∧ (l15_164 < (S 1071 0) ∨ ((639 : Int) = 639 ∧ l15_164 < 128))) ∧ (∀ r215 : Int, sv_R r215 → (((639 : Int) = 639 → r215 = 15000 + l15_164) ∧ (¬ (639 : Int) = 639 → 0 ≤ r215 ∧ r215 < 14520)) → (0 ≤ r215 ∧ r215 < 15128) ∧ (sv_RL (S 83 r215) → (∀ r218 : Int, sv_RL r218 → (sv_RL (S 84 r215) → (∀ r220 : Int, sv_RL r220 → ((0 ≤ (g1 1145 0) ∧ (g1 1145 0) ≤ 1) → (((¬ (g1 1145 0) = (0 : Int)) → ((sm_pt (g196 68) (g196 69) (g196 70) = sm_pt (S 68) (S 69) (S 70)) ∧ (128 - sm_pc l11_4 - sm_pc x187) < (128 - sm_pc l11_4 - sm_pc l13_5))) ∧ ((¬ (¬ (g1 1145 0) = (0 : Int))) → ((0 ≤ (S 82 r215) ∧ (S 82 r215) ≤ 1) → ((((S 82 r215) = (0 : Int)) → ((sm_pt (g196 68) (g196 69) (g196 70) = sm_pt (S 68) (S 69) (S 70)) ∧ (128 - sm_pc l11_4 - sm_pc x187) < (128 - sm_pc l11_4 - sm_pc l13_5))) ∧ ((¬ ((S 82 r215) = (0 : Int))) → ((sm_pt (g196 68) (g196 69) (g196 70) = sm_pt (S 68) (S 69) (S 70)) ∧ (128 - sm_pc l11_4 - sm_pc x187) < (128 - sm_pc l11_4 - sm_pc l13_5)))))))))))))) ∧ ((¬ (¬ r209 = (0 : Int))) → ((sm_pt (g196 68) (g196 69) (g196 70) = sm_pt (S 68) (S 69) (S 70)) ∧ (128 - sm_pc l11_4 - sm_pc x187) < (128 - sm_pc l11_4 - sm_pc l13_5)))))))))))) ∧ ((¬ ((64 : Int) ≤ l15_164)) → (sv_RL (sm_shl (1 : Int) l15_164) → (sv_RL (sm_lor l11_4 (sm_shl (1 : Int) l15_164)) → (∀ x236 : Int, (sm_lor l11_4 (sm_shl (1 : Int) l15_164)) = x236 → (29 ≤ (S 1071 0) ∧ (S 1071 0) ≤ 127 ∧ 31 ≤ (S 1008 0) ∧ (S 1008 0) ≤ 90 ∧ 1 ≤ (S 1032 0) ∧ (S 1032 0) ≤ 11 ∧ 0 ≤ (S 1055 0) ∧ (S 1055 0) ≤ 19 ∧ (S 1071 0) = 29 + 6 * ((S 1032 0) - 1) + 2 * (S 1055 0) ∧ 0 ≤ (S 1046 0) ∧ (S 1046 0) + 2 * (S 1032 0) ≤ 500 ∧ sm_PD (S 1046 0) (S 1032 0) (S 1071 0) (S 1008 0) ∧ 0 ≤ (S 1071 0) * ((S 1008 0) + 1) ∧ (S 1071 0) * ((S 1008 0) + 1) ≤ 11557 ∧ 0 ≤ (639 : Int) ∧ ((639 : Int) = 639 ∨ (639 : Int) < (S 1046 0) + 2 * (S 1032 0)) ∧ 0 ≤ l15_164 ∧ (l15_164 < (S 1071 0) ∨ ((639 : Int) = 639 ∧ l15_164 < 128)) ∧ 0 ≤ p5 ∧ p5 ≤ (S 1008 0)) ∧ (∀ r243 : Int, sv_R r243 → (((639 : Int) = 639 → 635640 ≤ r243 ∧ r243 < 647340) ∧ (¬ (639 : Int) = 639 → 0 ≤ r243 ∧ r243 < 464520)) → (0 ≤ r243 ∧ r243 < 647800 ∧ 0 ≤ p6 ∧ p6 < 647800) ∧ (∀ r249 : Int, sv_R r249 → ∀ g245 : sv_S, ((635639 ≤ p6 → sm_pt (g245 68) (g245 69) (g245 70) = sm_pt (g1 68) (g1 69) (g1 70)) ∧ (r249 = 0 ∨ r249 = 1) ∧ (p6 < 635639 → sm_pt (g245 68) (g245 69) (g245 70) + r249 ≤ sm_pt (g1 68) (g1 69) (g1 70))) → (0 ≤ r243 ∧ r243 < 647800) ∧ (∀ r257 : Int, sv_R r257 → (r257 = (g245 68 r243) % 1024 ∧ 0 ≤ r257 ∧ r257 ≤ 1023) → (∀ r258 : Int, (0 ≤ r258 ∧ r258 ≤ (512 : Int)) → (((¬ r258 = (0 : Int)) → (29 ≤ (S 1071 0) ∧ (S 1071 0) ≤ 127 ∧ 31 ≤ (S 1008 0) ∧ (S 1008 0) ≤ 90 ∧ 1 ≤ (S 1032 0) ∧ (S 1032 0) ≤ 11 ∧ 0 ≤ (S 1055 0) ∧ (S 1055 0) ≤ 19 ∧ (S 1071 0) = 29 + 6 * ((S 1032 0) - 1) + 2 * (S 1055 0) ∧ 0 ≤ (S 1046 0) ∧ (S 1046 0) + 2 * (S 1032 0) ≤ 500 ∧ sm_PD (S 1046 0) (S 1032 0) (S 1071 0) (S 1008 0) ∧ 0 ≤ (S 1071 0) * ((S 1008 0) + 1) ∧ (S 1071 0) * ((S 1008 0) + 1) ≤ 11557 ∧ 0 ≤ (639 : Int) ∧ ((639 : Int) = 639 ∨ (639 : Int) < (S 1046 0) + 2 * (S 1032 0)) ∧ 0 ≤ l15_164 ∧ (l15_164 < (S 1071 0) ∨ ((639 : Int) = 639 ∧ l15_164 < 128))) ∧ (∀ r264 : Int, sv_R r264 → (((639 : Int) = 639 → r264 = 15000 + l15_164) ∧ (¬ (639 : Int) = 639 → 0 ≤ r264 ∧ r264 < 14520)) → (0 ≤ r264 ∧ r264 < 15128) ∧ (sv_RL (S 83 r264) → (∀ r267 : Int, sv_RL r267 → (sv_RL (S 84 r264) → (∀ r269 : Int, sv_RL r269 → ((0 ≤ (g1 1145 0) ∧ (g1 1145 0) ≤ 1) → (((¬ (g1 1145 0) = (0 : Int)) → ((sm_pt (g245 68) (g245 69) (g245 70) = sm_pt (S 68) (S 69) (S 70)) ∧ (128 - sm_pc x236 - sm_pc l13_5) < (128 - sm_pc l11_4 - sm_pc l13_5))) ∧ ((¬ (¬ (g1 1145 0) = (0 : Int))) → ((0 ≤ (S 82 r264) ∧ (S 82 r264) ≤ 1) → ((((S 82 r264) = (0 : Int)) → ((sm_pt (g245 68) (g245 69) (g245 70) = sm_pt (S 68) (S 69) (S 70)) ∧ (128 - sm_pc x236 - sm_pc l13_5) < (128 - sm_pc l11_4 - sm_pc l13_5))) ∧ ((¬ ((S 82 r264) = (0 : Int))) → ((sm_pt (g245 68) (g245 69) (g245 70) = sm_pt (S 68) (S 69) (S 70)) ∧ (128 - sm_pc x236 - sm_pc l13_5) < (128 - sm_pc l11_4 - sm_pc l13_5)))))))))))))) ∧ ((¬ (¬ r258 = (0 : Int))) → ((sm_pt (g245 68) (g245 69) (g245 70) = sm_pt (S 68) (S 69) (S 70)) ∧ (128 - sm_pc x236 - sm_pc l13_5) < (128 - sm_pc l11_4 - sm_pc l13_5))))))))))))))) ∧ ((¬ (¬ r181 = (0 : Int))) → ((sm_in (sm_land l7_2 (sm_lxor l11_4 (-1))) (sm_land l9_3 (sm_lxor l13_5 (-1))) (sm_fst (sm_land l7_2 (sm_lxor l11_4 (-1))) (sm_land l9_3 (sm_lxor l13_5 (-1)))) = 1 → sm_in (sm_land l7_2 (sm_lxor l11_4 (-1))) (sm_land l9_3 (sm_lxor l13_5 (-1))) l15_164 = 0 → ¬ l15_164 = (sm_fst (sm_land l7_2 (sm_lxor l11_4 (-1))) (sm_land l9_3 (sm_lxor l13_5 (-1))))) → (sv_R (l15_164 + (1 : Int))) ∧ ((0 ≤ (l15_164 + (1 : Int)) ∧ (l15_164 + (1 : Int)) ≤ (sm_fst (sm_land l7_2 (sm_lxor l11_4 (-1))) (sm_land l9_3 (sm_lxor l13_5 (-1)))) ∧ 0 ≤ (sm_fst (sm_land l7_2 (sm_lxor l11_4 (-1))) (sm_land l9_3 (sm_lxor l13_5 (-1)))) ∧ (sm_fst (sm_land l7_2 (sm_lxor l11_4 (-1))) (sm_land l9_3 (sm_lxor l13_5 (-1)))) < 128 ∧ sm_in (sm_land l7_2 (sm_lxor l11_4 (-1))) (sm_land l9_3 (sm_lxor l13_5 (-1))) (sm_fst (sm_land l7_2 (sm_lxor l11_4 (-1))) (sm_land l9_3 (sm_lxor l13_5 (-1)))) = 1) ∧ (128 - (l15_164 + (1 : Int))) < (128 - l15_164))))))))))))))))))))))))) := by
  intro p1
  intro p3
  intro p5
  intro p6
  intro S
  intro h1_
  intro h2_
  intro h3_
  intro h4_
  intro h5_
  rintro ⟨h6_, ⟨h7_, ⟨h8_, ⟨h9_, ⟨h10_, ⟨h11_, ⟨h12_, ⟨h13_, ⟨h14_, ⟨h15_, ⟨h16_, ⟨h17_, ⟨h18_, ⟨h19_, ⟨h20_, ⟨h21_, ⟨h22_, h23_⟩⟩⟩⟩⟩⟩⟩⟩⟩⟩⟩⟩⟩⟩⟩⟩⟩
  refine ⟨la_readKey_0, ?_⟩
  intro l7_2
  intro h24_
  intro l9_3
  intro h25_
  intro l11_4
  intro h26_
  intro l13_5
  intro h27_
  intro g1
  intro h28_
  refine ⟨?_, ?_⟩
  · skip
    exact (la_readKey_1 (sm_pc_r l13_5).2 (sm_pc_r l11_4).2)
  rintro ⟨h29_, h30_⟩
  rintro ⟨h31_, h32_⟩
  intro h33_
  intro h34_
  refine ⟨?_, ?_⟩
  · skip
    intro h35_
    intro h36_
    refine ⟨?_, ?_⟩
    · skip
      refine ⟨la_readKey_2, ?_⟩
      refine ⟨?_, ?_⟩
      · skip
        exact (la_readKey_3 h35_ h36_)
      refine ⟨?_, ?_⟩
      · skip
        exact (la_readKey_3 h35_ h36_)
      refine ⟨?_, ?_⟩
      · skip
        exact (la_readKey_4 h35_ h36_)
      exact (la_readKey_5 h35_ h36_)
    intro l15_18
    intro h37_
    rintro ⟨h38_, ⟨h39_, ⟨h40_, ⟨h41_, h42_⟩⟩⟩⟩
    refine ⟨(la_readKey_6 h39_ h41_), ?_⟩
    intro h43_
    intro h44_
    intro h45_
    intro h46_
    refine ⟨(la_readKey_7 h38_ h39_ h41_), ?_⟩
    intro r35
    intro h47_
    rintro ⟨h48_, h49_⟩
    refine ⟨?_, ?_⟩
    · skip
      intro h50_
      have h51_ := (h49_.resolve_left h50_)
      intro h52_
      have h53_ := (h52_ (la_readKey_10 h48_ h51_ (la_readKey_9 (la_readKey_8 h51_) h50_)))
      have h54_ := (h53_ h38_)
      have h55_ := (h54_ (la_readKey_11 h39_ h41_))
      have h56_ := (h55_ h26_)
      obtain ⟨h57_, h58_⟩ := (h56_ h27_)
      refine ⟨?_, ?_⟩
      · skip
        intro h59_
        have h60_ := (h58_ (la_readKey_12 h59_))
        intro h61_
        intro h62_
        intro x41
        intro h63_
        refine ⟨⟨h6_, ⟨h7_, ⟨h8_, ⟨h9_, ⟨h10_, ⟨h11_, ⟨h12_, ⟨h13_, ⟨h14_, ⟨h15_, ⟨h16_, ⟨h17_, (la_readKey_13 h18_ h19_ h20_ h21_ h39_ h41_ h59_)⟩⟩⟩⟩⟩⟩⟩⟩⟩⟩⟩⟩, ?_⟩
        intro r48
        intro h64_
        rintro ⟨h65_, h66_⟩
        obtain ⟨h67_, h68_⟩ := (h65_ la_readKey_14)
        refine ⟨(la_readKey_16 h22_ h23_ h67_ h68_), ?_⟩
        intro r54
        intro h69_
        intro g50
        rintro ⟨h70_, ⟨h71_, h72_⟩⟩
        have h73_ := (h70_ h22_)
        refine ⟨(la_readKey_18 h67_ h68_), ?_⟩
        intro r62
        intro h74_
        rintro ⟨h75_, ⟨h76_, h77_⟩⟩
        intro r63
        rintro ⟨h78_, h79_⟩
        refine ⟨?_, ?_⟩
        · skip
          intro h80_
          refine ⟨⟨h6_, ⟨h7_, ⟨h8_, ⟨h9_, ⟨h10_, ⟨h11_, ⟨h12_, ⟨h13_, ⟨h14_, ⟨h15_, ⟨h16_, ⟨h17_, (la_readKey_19 h18_ h19_ h39_ h41_ h59_)⟩⟩⟩⟩⟩⟩⟩⟩⟩⟩⟩⟩, ?_⟩
          intro r69
          intro h81_
          rintro ⟨h82_, h83_⟩
          have h84_ := (h82_ la_readKey_14)
          refine ⟨(la_readKey_20 h39_ h41_ h59_ h84_), ?_⟩
          intro h85_
          intro r72
          intro h86_
          intro h87_
          intro r74
          intro h88_
          rintro ⟨h89_, h90_⟩
          refine ⟨?_, ?_⟩
          · skip
            intro h91_
            refine ⟨(la_readKey_21 h28_ h73_), ?_⟩
            have e92_ : sm_pc x41 = sm_pc (sm_lor l13_5 (sm_shl 1 (l15_18 - 64))) := congrArg (sm_pc) (la_readKey_22 h63_)
            exact (la_readKey_23 h60_ e92_)
          intro h93_
          rintro ⟨h94_, h95_⟩
          refine ⟨?_, ?_⟩
          · skip
            intro h96_
            refine ⟨(la_readKey_21 h28_ h73_), ?_⟩
            have e97_ : sm_pc x41 = sm_pc (sm_lor l13_5 (sm_shl 1 (l15_18 - 64))) := congrArg (sm_pc) (la_readKey_22 h63_)
            exact (la_readKey_23 h60_ e97_)
          intro h98_
          refine ⟨(la_readKey_21 h28_ h73_), ?_⟩
          have e99_ : sm_pc x41 = sm_pc (sm_lor l13_5 (sm_shl 1 (l15_18 - 64))) := congrArg (sm_pc) (la_readKey_22 h63_)
          exact (la_readKey_23 h60_ e99_)
        intro h100_
        refine ⟨(la_readKey_21 h28_ h73_), ?_⟩
        have e101_ : sm_pc x41 = sm_pc (sm_lor l13_5 (sm_shl 1 (l15_18 - 64))) := congrArg (sm_pc) (la_readKey_22 h63_)
        exact (la_readKey_23 h60_ e101_)
      intro h102_
      have h103_ := (h57_ (la_readKey_24 h102_))
      intro h104_
      intro h105_
      intro x90
      intro h106_
      refine ⟨⟨h6_, ⟨h7_, ⟨h8_, ⟨h9_, ⟨h10_, ⟨h11_, ⟨h12_, ⟨h13_, ⟨h14_, ⟨h15_, ⟨h16_, ⟨h17_, (la_readKey_26 h18_ h19_ h20_ h21_ h38_ h102_)⟩⟩⟩⟩⟩⟩⟩⟩⟩⟩⟩⟩, ?_⟩
      intro r97
      intro h107_
      rintro ⟨h108_, h109_⟩
      obtain ⟨h110_, h111_⟩ := (h108_ la_readKey_14)
      refine ⟨(la_readKey_16 h22_ h23_ h110_ h111_), ?_⟩
      intro r103
      intro h112_
      intro g99
      rintro ⟨h113_, ⟨h114_, h115_⟩⟩
      have h116_ := (h113_ h22_)
      refine ⟨(la_readKey_18 h110_ h111_), ?_⟩
      intro r111
      intro h117_
      rintro ⟨h118_, ⟨h119_, h120_⟩⟩
      intro r112
      rintro ⟨h121_, h122_⟩
      refine ⟨?_, ?_⟩
      · skip
        intro h123_
        refine ⟨⟨h6_, ⟨h7_, ⟨h8_, ⟨h9_, ⟨h10_, ⟨h11_, ⟨h12_, ⟨h13_, ⟨h14_, ⟨h15_, ⟨h16_, ⟨h17_, (la_readKey_27 h18_ h19_ h38_ h102_)⟩⟩⟩⟩⟩⟩⟩⟩⟩⟩⟩⟩, ?_⟩
        intro r118
        intro h124_
        rintro ⟨h125_, h126_⟩
        have h127_ := (h125_ la_readKey_14)
        refine ⟨(la_readKey_28 h38_ h102_ h127_), ?_⟩
        intro h128_
        intro r121
        intro h129_
        intro h130_
        intro r123
        intro h131_
        rintro ⟨h132_, h133_⟩
        refine ⟨?_, ?_⟩
        · skip
          intro h134_
          refine ⟨(la_readKey_21 h28_ h116_), ?_⟩
          have e135_ : sm_pc x90 = sm_pc (sm_lor l11_4 (sm_shl 1 l15_18)) := congrArg (sm_pc) (la_readKey_22 h106_)
          exact (la_readKey_29 h103_ e135_)
        intro h136_
        rintro ⟨h137_, h138_⟩
        refine ⟨?_, ?_⟩
        · skip
          intro h139_
          refine ⟨(la_readKey_21 h28_ h116_), ?_⟩
          have e140_ : sm_pc x90 = sm_pc (sm_lor l11_4 (sm_shl 1 l15_18)) := congrArg (sm_pc) (la_readKey_22 h106_)
          exact (la_readKey_29 h103_ e140_)
        intro h141_
        refine ⟨(la_readKey_21 h28_ h116_), ?_⟩
        have e142_ : sm_pc x90 = sm_pc (sm_lor l11_4 (sm_shl 1 l15_18)) := congrArg (sm_pc) (la_readKey_22 h106_)
        exact (la_readKey_29 h103_ e142_)
      intro h143_
      refine ⟨(la_readKey_21 h28_ h116_), ?_⟩
      have e144_ : sm_pc x90 = sm_pc (sm_lor l11_4 (sm_shl 1 l15_18)) := congrArg (sm_pc) (la_readKey_22 h106_)
      exact (la_readKey_29 h103_ e144_)
    intro h145_
    have h146_ := (h49_.resolve_right (la_readKey_30 h145_))
    intro h147_
    have h148_ := (h147_ h42_)
    have h149_ := (h148_ (la_readKey_31 h48_ h145_))
    refine ⟨(la_readKey_33 h38_ h41_ (la_readKey_32 h39_ h149_)), ?_⟩
    refine ⟨(la_readKey_34 h38_ h41_ h42_ (la_readKey_32 h39_ h149_)), ?_⟩
    exact la_readKey_35
  intro h150_
  intro h151_
  intro h152_
  refine ⟨?_, ?_⟩
  · skip
    intro h153_
    refine ⟨(la_readKey_36 h22_ h23_), ?_⟩
    intro r146
    intro h154_
    intro h155_
    intro r151
    intro h156_
    rintro ⟨h157_, h158_⟩
    intro r156
    intro h159_
    intro _
    intro g157
    rintro ⟨h160_, ⟨h161_, h162_⟩⟩
    have h163_ := (h161_ h22_)
    exact (la_readKey_21 h28_ h163_)
  intro h164_
  intro h165_
  refine ⟨?_, ?_⟩
  · skip
    refine ⟨la_readKey_2, ?_⟩
    refine ⟨?_, ?_⟩
    · skip
      exact (la_readKey_37 h164_ h165_)
    refine ⟨?_, ?_⟩
    · skip
      exact (la_readKey_37 h164_ h165_)
    refine ⟨?_, ?_⟩
    · skip
      exact (la_readKey_38 h164_ h165_)
    exact (la_readKey_39 h164_ h165_)
  intro l15_164
  intro h166_
  rintro ⟨h167_, ⟨h168_, ⟨h169_, ⟨h170_, h171_⟩⟩⟩⟩
  refine ⟨(la_readKey_6 h168_ h170_), ?_⟩
  intro h172_
  intro h173_
  intro h174_
  intro h175_
  refine ⟨(la_readKey_7 h167_ h168_ h170_), ?_⟩
  intro r181
  intro h176_
  rintro ⟨h177_, h178_⟩
  refine ⟨?_, ?_⟩
  · skip
    intro h179_
    have h180_ := (h178_.resolve_left h179_)
    intro h181_
    have h182_ := (h181_ (la_readKey_40 h177_ h180_))
    have h183_ := (h182_ h167_)
    have h184_ := (h183_ (la_readKey_11 h168_ h170_))
    have h185_ := (h184_ h26_)
    obtain ⟨h186_, h187_⟩ := (h185_ h27_)
    refine ⟨?_, ?_⟩
    · skip
      intro h188_
      have h189_ := (h187_ (la_readKey_12 h188_))
      intro h190_
      intro h191_
      intro x187
      intro h192_
      refine ⟨⟨h6_, ⟨h7_, ⟨h8_, ⟨h9_, ⟨h10_, ⟨h11_, ⟨h12_, ⟨h13_, ⟨h14_, ⟨h15_, ⟨h16_, ⟨h17_, (la_readKey_13 h18_ h19_ h20_ h21_ h168_ h170_ h188_)⟩⟩⟩⟩⟩⟩⟩⟩⟩⟩⟩⟩, ?_⟩
      intro r194
      intro h193_
      rintro ⟨h194_, h195_⟩
      obtain ⟨h196_, h197_⟩ := (h194_ la_readKey_14)
      refine ⟨(la_readKey_16 h22_ h23_ h196_ h197_), ?_⟩
      intro r200
      intro h198_
      intro g196
      rintro ⟨h199_, ⟨h200_, h201_⟩⟩
      have h202_ := (h199_ h22_)
      refine ⟨(la_readKey_18 h196_ h197_), ?_⟩
      intro r208
      intro h203_
      rintro ⟨h204_, ⟨h205_, h206_⟩⟩
      intro r209
      rintro ⟨h207_, h208_⟩
      refine ⟨?_, ?_⟩
      · skip
        intro h209_
        refine ⟨⟨h6_, ⟨h7_, ⟨h8_, ⟨h9_, ⟨h10_, ⟨h11_, ⟨h12_, ⟨h13_, ⟨h14_, ⟨h15_, ⟨h16_, ⟨h17_, (la_readKey_19 h18_ h19_ h168_ h170_ h188_)⟩⟩⟩⟩⟩⟩⟩⟩⟩⟩⟩⟩, ?_⟩
        intro r215
        intro h210_
        rintro ⟨h211_, h212_⟩
        have h213_ := (h211_ la_readKey_14)
        refine ⟨(la_readKey_20 h168_ h170_ h188_ h213_), ?_⟩
        intro h214_
        intro r218
        intro h215_
        intro h216_
        intro r220
        intro h217_
        rintro ⟨h218_, h219_⟩
        refine ⟨?_, ?_⟩
        · skip
          intro h220_
          refine ⟨(la_readKey_21 h28_ h202_), ?_⟩
          have e221_ : sm_pc x187 = sm_pc (sm_lor l13_5 (sm_shl 1 (l15_164 - 64))) := congrArg (sm_pc) (la_readKey_22 h192_)
          exact (la_readKey_23 h189_ e221_)
        intro h222_
        rintro ⟨h223_, h224_⟩
        refine ⟨?_, ?_⟩
        · skip
          intro h225_
          refine ⟨(la_readKey_21 h28_ h202_), ?_⟩
          have e226_ : sm_pc x187 = sm_pc (sm_lor l13_5 (sm_shl 1 (l15_164 - 64))) := congrArg (sm_pc) (la_readKey_22 h192_)
          exact (la_readKey_23 h189_ e226_)
        intro h227_
        refine ⟨(la_readKey_21 h28_ h202_), ?_⟩
        have e228_ : sm_pc x187 = sm_pc (sm_lor l13_5 (sm_shl 1 (l15_164 - 64))) := congrArg (sm_pc) (la_readKey_22 h192_)
        exact (la_readKey_23 h189_ e228_)
      intro h229_
      refine ⟨(la_readKey_21 h28_ h202_), ?_⟩
      have e230_ : sm_pc x187 = sm_pc (sm_lor l13_5 (sm_shl 1 (l15_164 - 64))) := congrArg (sm_pc) (la_readKey_22 h192_)
      exact (la_readKey_23 h189_ e230_)
    intro h231_
    have h232_ := (h186_ (la_readKey_24 h231_))
    intro h233_
    intro h234_
    intro x236
    intro h235_
    refine ⟨⟨h6_, ⟨h7_, ⟨h8_, ⟨h9_, ⟨h10_, ⟨h11_, ⟨h12_, ⟨h13_, ⟨h14_, ⟨h15_, ⟨h16_, ⟨h17_, (la_readKey_26 h18_ h19_ h20_ h21_ h167_ h231_)⟩⟩⟩⟩⟩⟩⟩⟩⟩⟩⟩⟩, ?_⟩
    intro r243
    intro h236_
    rintro ⟨h237_, h238_⟩
    obtain ⟨h239_, h240_⟩ := (h237_ la_readKey_14)
    refine ⟨(la_readKey_16 h22_ h23_ h239_ h240_), ?_⟩
    intro r249
    intro h241_
    intro g245
    rintro ⟨h242_, ⟨h243_, h244_⟩⟩
    have h245_ := (h242_ h22_)
    refine ⟨(la_readKey_18 h239_ h240_), ?_⟩
    intro r257
    intro h246_
    rintro ⟨h247_, ⟨h248_, h249_⟩⟩
    intro r258
    rintro ⟨h250_, h251_⟩
    refine ⟨?_, ?_⟩
    · skip
      intro h252_
      refine ⟨⟨h6_, ⟨h7_, ⟨h8_, ⟨h9_, ⟨h10_, ⟨h11_, ⟨h12_, ⟨h13_, ⟨h14_, ⟨h15_, ⟨h16_, ⟨h17_, (la_readKey_27 h18_ h19_ h167_ h231_)⟩⟩⟩⟩⟩⟩⟩⟩⟩⟩⟩⟩, ?_⟩
      intro r264
      intro h253_
      rintro ⟨h254_, h255_⟩
      have h256_ := (h254_ la_readKey_14)
      refine ⟨(la_readKey_28 h167_ h231_ h256_), ?_⟩
      intro h257_
      intro r267
      intro h258_
      intro h259_
      intro r269
      intro h260_
      rintro ⟨h261_, h262_⟩
      refine ⟨?_, ?_⟩
      · skip
        intro h263_
        refine ⟨(la_readKey_21 h28_ h245_), ?_⟩
        have e264_ : sm_pc x236 = sm_pc (sm_lor l11_4 (sm_shl 1 l15_164)) := congrArg (sm_pc) (la_readKey_22 h235_)
        exact (la_readKey_29 h232_ e264_)
      intro h265_
      rintro ⟨h266_, h267_⟩
      refine ⟨?_, ?_⟩
      · skip
        intro h268_
        refine ⟨(la_readKey_21 h28_ h245_), ?_⟩
        have e269_ : sm_pc x236 = sm_pc (sm_lor l11_4 (sm_shl 1 l15_164)) := congrArg (sm_pc) (la_readKey_22 h235_)
        exact (la_readKey_29 h232_ e269_)
      intro h270_
      refine ⟨(la_readKey_21 h28_ h245_), ?_⟩
      have e271_ : sm_pc x236 = sm_pc (sm_lor l11_4 (sm_shl 1 l15_164)) := congrArg (sm_pc) (la_readKey_22 h235_)
      exact (la_readKey_29 h232_ e271_)
    intro h272_
    refine ⟨(la_readKey_21 h28_ h245_), ?_⟩
    have e273_ : sm_pc x236 = sm_pc (sm_lor l11_4 (sm_shl 1 l15_164)) := congrArg (sm_pc) (la_readKey_22 h235_)
    exact (la_readKey_29 h232_ e273_)
  intro h274_
  have h275_ := (h178_.resolve_right (la_readKey_30 h274_))
  intro h276_
  have h277_ := (h276_ h171_)
  have h278_ := (h277_ (la_readKey_31 h177_ h274_))
  refine ⟨(la_readKey_33 h167_ h170_ (la_readKey_32 h168_ h278_)), ?_⟩
  refine ⟨(la_readKey_34 h167_ h170_ h171_ (la_readKey_32 h168_ h278_)), ?_⟩
  exact la_readKey_35
set_option maxRecDepth 8000 in
set_option maxHeartbeats 2000000 in
theorem t_readKey : ∀ (p1 : Int) (p3 : Int) (p5 : Int) (p6 : Int) (S : sv_S), sm_ok S → sv_RL p1 → sv_RL p3 → sv_R p5 → sv_R p6 → (29 ≤ (S 1071 0) ∧ (S 1071 0) ≤ 127 ∧ 31 ≤ (S 1008 0) ∧ (S 1008 0) ≤ 90 ∧ 1 ≤ (S 1032 0) ∧ (S 1032 0) ≤ 11 ∧ 0 ≤ (S 1055 0) ∧ (S 1055 0) ≤ 19 ∧ (S 1071 0) = 29 + 6 * ((S 1032 0) - 1) + 2 * (S 1055 0) ∧ 0 ≤ (S 1046 0) ∧ (S 1046 0) + 2 * (S 1032 0) ≤ 500 ∧ sm_PD (S 1046 0) (S 1032 0) (S 1071 0) (S 1008 0) ∧ 0 ≤ (S 1071 0) * ((S 1008 0) + 1) ∧ (S 1071 0) * ((S 1008 0) + 1) ≤ 11557 ∧ 0 ≤ p5 ∧ p5 ≤ (S 1008 0) ∧ 635639 ≤ p6 ∧ p6 < 647790) → sv_T sm_XS sm_cs sm_L sm_sh 2 (q_readKey p1 p3 p5 p6 S) 250 0 (lv_args 0 [.ref 0, sv_L p1, sv_L p3, sv_I p5, sv_I p6]) [] S := by
  intro p1 p3 p5 p6 S hok hp1 hp3 hp5 hp6 hpre
  have h := f_readKey p1 p3 p5 p6 S hok hp1 hp3 hp5 hp6 hpre
  have hM := sm_h250
  show sv_T sm_XS sm_cs sm_L sm_sh 2 (q_readKey p1 p3 p5 p6 S) 250 0 [(0, .ref 0), (1, sv_L p1), (3, sv_L p3), (5, sv_I p5), (6, sv_I p6)] [] S
  refine sv_lload_n hM dX12_readKey_0 rfl rfl ?_
  refine sv_lstore hM dX12_readKey_1 (by decide) rfl ?_
  show sv_T sm_XS sm_cs sm_L sm_sh 2 (q_readKey p1 p3 p5 p6 S) 250 3 [(0, .ref 0), (1, sv_L p1), (3, sv_L p3), (5, sv_I p5), (6, sv_I p6), (7, sv_L p1)] [] S
  refine sv_lload_n hM dX12_readKey_3 rfl rfl ?_
  refine sv_lstore hM dX12_readKey_4 (by decide) rfl ?_
  show sv_T sm_XS sm_cs sm_L sm_sh 2 (q_readKey p1 p3 p5 p6 S) 250 6 [(0, .ref 0), (1, sv_L p1), (3, sv_L p3), (5, sv_I p5), (6, sv_I p6), (7, sv_L p1), (9, sv_L p3)] [] S
  refine sv_lconst (d := (0 : Int)) hM dX12_readKey_6 rfl rfl ?_
  refine sv_lstore hM dX12_readKey_7 (by decide) rfl ?_
  show sv_T sm_XS sm_cs sm_L sm_sh 2 (q_readKey p1 p3 p5 p6 S) 250 9 [(0, .ref 0), (1, sv_L p1), (3, sv_L p3), (5, sv_I p5), (6, sv_I p6), (7, sv_L p1), (9, sv_L p3), (11, sv_L (0 : Int))] [] S
  refine sv_lconst (d := (0 : Int)) hM dX12_readKey_9 rfl rfl ?_
  refine sv_lstore hM dX12_readKey_10 (by decide) rfl ?_
  show sv_T sm_XS sm_cs sm_L sm_sh 2 (q_readKey p1 p3 p5 p6 S) 250 12 [(0, .ref 0), (1, sv_L p1), (3, sv_L p3), (5, sv_I p5), (6, sv_I p6), (7, sv_L p1), (9, sv_L p3), (11, sv_L (0 : Int)), (13, sv_L (0 : Int))] [] S
  obtain ⟨hin7, h⟩ := h
  have hJ : ∀ a : Int × Int × Int × Int × sv_S, (sv_RL a.1 ∧ sv_RL a.2.1 ∧ sv_RL a.2.2.1 ∧ sv_RL a.2.2.2.1 ∧ sm_ok (sv_sts S [68, 69, 70, 1145] a.2.2.2.2) ∧ (sm_pt (a.2.2.2.2 68) (a.2.2.2.2 69) (a.2.2.2.2 70) = sm_pt (S 68) (S 69) (S 70))) → sv_T sm_XS sm_cs sm_L sm_sh 2 (q_readKey p1 p3 p5 p6 S) 250 12 [(0, .ref 0), (1, sv_L p1), (3, sv_L p3), (5, sv_I p5), (6, sv_I p6), (7, sv_L a.1), (9, sv_L a.2.1), (11, sv_L a.2.2.1), (13, sv_L a.2.2.2.1)] [] (sv_sts S [68, 69, 70, 1145] a.2.2.2.2) := by
    refine sv_loop (α := Int × Int × Int × Int × sv_S) (fun a => sv_RL a.1 ∧ sv_RL a.2.1 ∧ sv_RL a.2.2.1 ∧ sv_RL a.2.2.2.1 ∧ sm_ok (sv_sts S [68, 69, 70, 1145] a.2.2.2.2) ∧ (sm_pt (a.2.2.2.2 68) (a.2.2.2.2 69) (a.2.2.2.2 70) = sm_pt (S 68) (S 69) (S 70))) (fun a => 128 - sm_pc a.2.2.1 - sm_pc a.2.2.2.1) (fun a => sv_T sm_XS sm_cs sm_L sm_sh 2 (q_readKey p1 p3 p5 p6 S) 250 12 [(0, .ref 0), (1, sv_L p1), (3, sv_L p3), (5, sv_I p5), (6, sv_I p6), (7, sv_L a.1), (9, sv_L a.2.1), (11, sv_L a.2.2.1), (13, sv_L a.2.2.2.1)] [] (sv_sts S [68, 69, 70, 1145] a.2.2.2.2)) (fun a q => (h a.1 q.1 a.2.1 q.2.1 a.2.2.1 q.2.2.1 a.2.2.2.1 q.2.2.2.1 a.2.2.2.2 q.2.2.2.2.2).1) (fun a q ih6 => ?_)
    obtain ⟨l7_2, l9_3, l11_4, l13_5, g1⟩ := a
    obtain ⟨hl7_2, hl9_3, hl11_4, hl13_5, ok8, hin7i⟩ := q
    have h := (h l7_2 hl7_2 l9_3 hl9_3 l11_4 hl11_4 l13_5 hl13_5 g1 hin7i).2
    show sv_T sm_XS sm_cs sm_L sm_sh 2 (q_readKey p1 p3 p5 p6 S) 250 12 [(0, .ref 0), (1, sv_L p1), (3, sv_L p3), (5, sv_I p5), (6, sv_I p6), (7, sv_L l7_2), (9, sv_L l9_3), (11, sv_L l11_4), (13, sv_L l13_5)] [] (sv_sts S [68, 69, 70, 1145] g1)
    have md9 : sv_mod [68, 69, 70, 1145] S (sv_sts S [68, 69, 70, 1145] g1) := sv_mod.sts sv_mod.rf (by decide)
    have md10 : sv_mod [68, 69, 70, 1145] S (sv_sts S [68, 69, 70, 1145] g1) := sv_mod.sts sv_mod.rf (by decide)
    have k11 : (0 ≤ sm_pc l11_4 ∧ sm_pc l11_4 ≤ 64) := sm_pc_r l11_4
    have h := h k11
    have k12 : (0 ≤ sm_pc l13_5 ∧ sm_pc l13_5 ≤ 64) := sm_pc_r l13_5
    have h := h k12
    refine sv_lload hM dX12_readKey_12 rfl rfl ?_
    refine sv_lload hM dX12_readKey_14 rfl rfl ?_
    refine sv_ldc2_w (d := (-1 : Int)) hM dX12_readKey_16 sm_ck_1110 rfl rfl ?_
    refine sv_anyL hM dX12_readKey_19 rfl rfl (fun r13 hr13 er13 => ?_)
    have er13v : (sm_lxor l11_4 (-1 : Int)) = r13 := er13
    have k14 : sv_RL (sm_lxor l11_4 (-1 : Int)) := er13v.symm ▸ hr13
    rw [← er13v]
    have h := h k14
    refine sv_anyL hM dX12_readKey_20 rfl rfl (fun r15 hr15 er15 => ?_)
    have er15v : (sm_land l7_2 (sm_lxor l11_4 (-1 : Int))) = r15 := er15
    have k16 : sv_RL (sm_land l7_2 (sm_lxor l11_4 (-1 : Int))) := er15v.symm ▸ hr15
    rw [← er15v]
    have h := h k16
    refine sv_lconst (d := (0 : Int)) hM dX12_readKey_21 rfl rfl ?_
    refine sv_lcmp hM dX12_readKey_22 k16 (⟨by decide, by decide⟩ : sv_RL (0 : Int)) rfl ?_
    refine sv_cond_ne hM dX12_readKey_23 sv_Rcmp (t := 40) rfl rfl (fun hc => ?_) (fun hc => ?_)
    · have h := h.1 ((sv_cmp_ne).mp hc)
      have k17 : (¬ (sm_land l7_2 (sm_lxor l11_4 (-1))) = 0 ∨ ¬ (sm_land l9_3 (sm_lxor l13_5 (-1))) = 0 → 0 ≤ (sm_fst (sm_land l7_2 (sm_lxor l11_4 (-1))) (sm_land l9_3 (sm_lxor l13_5 (-1)))) ∧ (sm_fst (sm_land l7_2 (sm_lxor l11_4 (-1))) (sm_land l9_3 (sm_lxor l13_5 (-1)))) < 128 ∧ sm_in (sm_land l7_2 (sm_lxor l11_4 (-1))) (sm_land l9_3 (sm_lxor l13_5 (-1))) (sm_fst (sm_land l7_2 (sm_lxor l11_4 (-1))) (sm_land l9_3 (sm_lxor l13_5 (-1)))) = 1) := sm_fst_q
      have h := h k17
      refine sv_iconst (d := (0 : Int)) hM dX12_readKey_40 rfl rfl ?_
      refine sv_istore hM dX12_readKey_41 (by decide) rfl ?_
      show sv_T sm_XS sm_cs sm_L sm_sh 2 (q_readKey p1 p3 p5 p6 S) 250 43 [(0, .ref 0), (1, sv_L p1), (3, sv_L p3), (5, sv_I p5), (6, sv_I p6), (7, sv_L l7_2), (9, sv_L l9_3), (11, sv_L l11_4), (13, sv_L l13_5), (15, sv_I (0 : Int))] [] (sv_sts S [68, 69, 70, 1145] g1)
      obtain ⟨hin20, h⟩ := h
      have hJ : ∀ a : Int × Unit, (sv_R a.1 ∧ sm_ok (sv_sts S [68, 69, 70, 1145] g1) ∧ (0 ≤ a.1 ∧ a.1 ≤ (sm_fst (sm_land l7_2 (sm_lxor l11_4 (-1))) (sm_land l9_3 (sm_lxor l13_5 (-1)))) ∧ 0 ≤ (sm_fst (sm_land l7_2 (sm_lxor l11_4 (-1))) (sm_land l9_3 (sm_lxor l13_5 (-1)))) ∧ (sm_fst (sm_land l7_2 (sm_lxor l11_4 (-1))) (sm_land l9_3 (sm_lxor l13_5 (-1)))) < 128 ∧ sm_in (sm_land l7_2 (sm_lxor l11_4 (-1))) (sm_land l9_3 (sm_lxor l13_5 (-1))) (sm_fst (sm_land l7_2 (sm_lxor l11_4 (-1))) (sm_land l9_3 (sm_lxor l13_5 (-1)))) = 1)) → sv_T sm_XS sm_cs sm_L sm_sh 2 (q_readKey p1 p3 p5 p6 S) 250 43 [(0, .ref 0), (1, sv_L p1), (3, sv_L p3), (5, sv_I p5), (6, sv_I p6), (7, sv_L l7_2), (9, sv_L l9_3), (11, sv_L l11_4), (13, sv_L l13_5), (15, sv_I a.1)] [] (sv_sts S [68, 69, 70, 1145] g1) := by
        refine sv_loop (α := Int × Unit) (fun a => sv_R a.1 ∧ sm_ok (sv_sts S [68, 69, 70, 1145] g1) ∧ (0 ≤ a.1 ∧ a.1 ≤ (sm_fst (sm_land l7_2 (sm_lxor l11_4 (-1))) (sm_land l9_3 (sm_lxor l13_5 (-1)))) ∧ 0 ≤ (sm_fst (sm_land l7_2 (sm_lxor l11_4 (-1))) (sm_land l9_3 (sm_lxor l13_5 (-1)))) ∧ (sm_fst (sm_land l7_2 (sm_lxor l11_4 (-1))) (sm_land l9_3 (sm_lxor l13_5 (-1)))) < 128 ∧ sm_in (sm_land l7_2 (sm_lxor l11_4 (-1))) (sm_land l9_3 (sm_lxor l13_5 (-1))) (sm_fst (sm_land l7_2 (sm_lxor l11_4 (-1))) (sm_land l9_3 (sm_lxor l13_5 (-1)))) = 1)) (fun a => 128 - a.1) (fun a => sv_T sm_XS sm_cs sm_L sm_sh 2 (q_readKey p1 p3 p5 p6 S) 250 43 [(0, .ref 0), (1, sv_L p1), (3, sv_L p3), (5, sv_I p5), (6, sv_I p6), (7, sv_L l7_2), (9, sv_L l9_3), (11, sv_L l11_4), (13, sv_L l13_5), (15, sv_I a.1)] [] (sv_sts S [68, 69, 70, 1145] g1)) (fun a q => (h a.1 q.1 q.2.2).1) (fun a q ih19 => ?_)
        obtain ⟨l15_18, _u⟩ := a
        obtain ⟨hl15_18, ok21, hin20i⟩ := q
        have h := (h l15_18 hl15_18 hin20i).2
        show sv_T sm_XS sm_cs sm_L sm_sh 2 (q_readKey p1 p3 p5 p6 S) 250 43 [(0, .ref 0), (1, sv_L p1), (3, sv_L p3), (5, sv_I p5), (6, sv_I p6), (7, sv_L l7_2), (9, sv_L l9_3), (11, sv_L l11_4), (13, sv_L l13_5), (15, sv_I l15_18)] [] (sv_sts S [68, 69, 70, 1145] g1)
        refine sv_lload hM dX12_readKey_43 rfl rfl ?_
        refine sv_lload hM dX12_readKey_45 rfl rfl ?_
        refine sv_ldc2_w (d := (-1 : Int)) hM dX12_readKey_47 sm_ck_1110 rfl rfl ?_
        refine sv_anyL hM dX12_readKey_50 rfl rfl (fun r22 hr22 er22 => ?_)
        have er22v : (sm_lxor l11_4 (-1 : Int)) = r22 := er22
        have k23 : sv_RL (sm_lxor l11_4 (-1 : Int)) := er22v.symm ▸ hr22
        rw [← er22v]
        have h := h k23
        refine sv_anyL hM dX12_readKey_51 rfl rfl (fun r24 hr24 er24 => ?_)
        have er24v : (sm_land l7_2 (sm_lxor l11_4 (-1 : Int))) = r24 := er24
        have k25 : sv_RL (sm_land l7_2 (sm_lxor l11_4 (-1 : Int))) := er24v.symm ▸ hr24
        rw [← er24v]
        have h := h k25
        refine sv_lload hM dX12_readKey_52 rfl rfl ?_
        refine sv_lload hM dX12_readKey_54 rfl rfl ?_
        refine sv_ldc2_w (d := (-1 : Int)) hM dX12_readKey_56 sm_ck_1110 rfl rfl ?_
        refine sv_anyL hM dX12_readKey_59 rfl rfl (fun r26 hr26 er26 => ?_)
        have er26v : (sm_lxor l13_5 (-1 : Int)) = r26 := er26
        have k27 : sv_RL (sm_lxor l13_5 (-1 : Int)) := er26v.symm ▸ hr26
        rw [← er26v]
        have h := h k27
        refine sv_anyL hM dX12_readKey_60 rfl rfl (fun r28 hr28 er28 => ?_)
        have er28v : (sm_land l9_3 (sm_lxor l13_5 (-1 : Int))) = r28 := er28
        have k29 : sv_RL (sm_land l9_3 (sm_lxor l13_5 (-1 : Int))) := er28v.symm ▸ hr28
        rw [← er28v]
        have h := h k29
        refine sv_iload hM dX12_readKey_61 rfl rfl ?_
        obtain ⟨o30, h⟩ := h
        refine sv_callS hM dX12_readKey_63 sm_iv_1125 (Nat.le_of_ble_eq_true rfl) rfl rfl (Nat.le_of_ble_eq_true rfl) sm_h217 (Nat.le_of_ble_eq_true rfl) (Nat.le_of_ble_eq_true rfl) (F' := 0) (Nat.le_of_ble_eq_true rfl) rfl (t_isIn (sm_land l7_2 (sm_lxor l11_4 (-1 : Int))) (sm_land l9_3 (sm_lxor l13_5 (-1 : Int))) l15_18 (sv_sts S [68, 69, 70, 1145] g1) ok21 k25 k29 hl15_18 o30) (fun v S1 hq => ?_)
        obtain ⟨r35, rfl, hr35, ok32, md33, hpo34⟩ := hq
        obtain rfl : (sv_sts S [68, 69, 70, 1145] g1) = S1 := (funext fun j => md33 j (by intro q; cases q)).symm
        show sv_T sm_XS sm_cs sm_L sm_sh 2 (q_readKey p1 p3 p5 p6 S) 250 66 [(0, .ref 0), (1, sv_L p1), (3, sv_L p3), (5, sv_I p5), (6, sv_I p6), (7, sv_L l7_2), (9, sv_L l9_3), (11, sv_L l11_4), (13, sv_L l13_5), (15, sv_I l15_18)] [sv_I r35] (sv_sts S [68, 69, 70, 1145] g1)
        have h := h r35 hr35 hpo34
        refine sv_cond_ne hM dX12_readKey_66 hr35 (t := 75) rfl rfl (fun hc => ?_) (fun hc => ?_)
        · have h := h.1 (hc)
          have k36 : (sm_in (sm_land l7_2 (sm_lxor l11_4 (-1))) (sm_land l9_3 (sm_lxor l13_5 (-1))) l15_18 = 1 → 0 ≤ l15_18 → l15_18 < 128 → sv_RL l11_4 → sv_RL l13_5 → (l15_18 < 64 → sm_pc l11_4 + 1 ≤ sm_pc (sm_lor l11_4 (sm_shl 1 l15_18))) ∧ (¬ l15_18 < 64 → sm_pc l13_5 + 1 ≤ sm_pc (sm_lor l13_5 (sm_shl 1 (l15_18 - 64))))) := sm_dones
          have h := h k36
          refine sv_iload hM dX12_readKey_75 rfl rfl ?_
          refine sv_bipush (d := (64 : Int)) hM dX12_readKey_77 rfl rfl ?_
          refine sv_icmp_ge hM dX12_readKey_79 hl15_18 (⟨by decide, by decide⟩ : sv_R (64 : Int)) (t := 94) rfl rfl (fun hc => ?_) (fun hc => ?_)
          · have h := h.1 (hc)
            refine sv_lload hM dX12_readKey_94 rfl rfl ?_
            refine sv_lconst (d := (1 : Int)) hM dX12_readKey_96 rfl rfl ?_
            refine sv_iload hM dX12_readKey_97 rfl rfl ?_
            refine sv_bipush (d := (64 : Int)) hM dX12_readKey_99 rfl rfl ?_
            refine sv_isub hM dX12_readKey_101 rfl ?_
            refine sv_anyL hM dX12_readKey_102 rfl rfl (fun r37 hr37 er37 => ?_)
            have er37v : (sm_shl (1 : Int) (l15_18 - (64 : Int))) = r37 := er37
            have k38 : sv_RL (sm_shl (1 : Int) (l15_18 - (64 : Int))) := er37v.symm ▸ hr37
            rw [← er37v]
            have h := h k38
            refine sv_anyL hM dX12_readKey_103 rfl rfl (fun r39 hr39 er39 => ?_)
            have er39v : (sm_lor l13_5 (sm_shl (1 : Int) (l15_18 - (64 : Int)))) = r39 := er39
            have k40 : sv_RL (sm_lor l13_5 (sm_shl (1 : Int) (l15_18 - (64 : Int)))) := er39v.symm ▸ hr39
            rw [← er39v]
            have h := h k40
            obtain ⟨x41, e42⟩ : ∃ x : Int, (sm_lor l13_5 (sm_shl (1 : Int) (l15_18 - (64 : Int)))) = x := ⟨_, rfl⟩
            have h := h x41 e42
            have e42r : sv_RL x41 := e42 ▸ k40
            refine sv_nameL e42 ?_
            refine sv_lstore hM dX12_readKey_104 (by decide) rfl ?_
            show sv_T sm_XS sm_cs sm_L sm_sh 2 (q_readKey p1 p3 p5 p6 S) 250 106 [(0, .ref 0), (1, sv_L p1), (3, sv_L p3), (5, sv_I p5), (6, sv_I p6), (7, sv_L l7_2), (9, sv_L l9_3), (11, sv_L l11_4), (13, sv_L x41), (15, sv_I l15_18)] [] (sv_sts S [68, 69, 70, 1145] g1)
            refine sv_aload_n hM dX12_readKey_106 rfl rfl ?_
            refine sv_sipush (d := (639 : Int)) hM dX12_readKey_107 rfl rfl ?_
            refine sv_iload hM dX12_readKey_110 rfl rfl ?_
            refine sv_iload hM dX12_readKey_112 rfl rfl ?_
            obtain ⟨o43, h⟩ := h
            refine sv_callV hM dX12_readKey_114 sm_iv_1163 (by decide) (sm_a0 _) rfl rfl (Nat.le_of_ble_eq_true rfl) sm_h225 (Nat.le_of_ble_eq_true rfl) (Nat.le_of_ble_eq_true rfl) (F' := 1) (Nat.le_of_ble_eq_true rfl) rfl (t_field (639 : Int) l15_18 p5 (sv_sts S [68, 69, 70, 1145] g1) ok32 (⟨by decide, by decide⟩ : sv_R (639 : Int)) hl15_18 hp5 o43) (fun v S1 hq => ?_)
            obtain ⟨r48, rfl, hr48, ok45, md46, hpo47⟩ := hq
            obtain rfl : (sv_sts S [68, 69, 70, 1145] g1) = S1 := (funext fun j => md46 j (by intro q; cases q)).symm
            show sv_T sm_XS sm_cs sm_L sm_sh 2 (q_readKey p1 p3 p5 p6 S) 250 117 [(0, .ref 0), (1, sv_L p1), (3, sv_L p3), (5, sv_I p5), (6, sv_I p6), (7, sv_L l7_2), (9, sv_L l9_3), (11, sv_L l11_4), (13, sv_L x41), (15, sv_I l15_18)] [sv_I r48] (sv_sts S [68, 69, 70, 1145] g1)
            have h := h r48 hr48 hpo47
            refine sv_istore hM dX12_readKey_117 (by decide) rfl ?_
            show sv_T sm_XS sm_cs sm_L sm_sh 2 (q_readKey p1 p3 p5 p6 S) 250 119 [(0, .ref 0), (1, sv_L p1), (3, sv_L p3), (5, sv_I p5), (6, sv_I p6), (7, sv_L l7_2), (9, sv_L l9_3), (11, sv_L l11_4), (13, sv_L x41), (15, sv_I l15_18), (16, sv_I r48)] [] (sv_sts S [68, 69, 70, 1145] g1)
            refine sv_aload_n hM dX12_readKey_119 rfl rfl ?_
            refine sv_iload hM dX12_readKey_120 rfl rfl ?_
            refine sv_iload hM dX12_readKey_122 rfl rfl ?_
            obtain ⟨o49, h⟩ := h
            refine sv_callV hM dX12_readKey_124 sm_iv_1069 (by decide) (sm_a0 _) rfl rfl (Nat.le_of_ble_eq_true rfl) sm_h208 (Nat.le_of_ble_eq_true rfl) (Nat.le_of_ble_eq_true rfl) (F' := 1) (Nat.le_of_ble_eq_true rfl) rfl (t_join r48 p6 (sv_sts S [68, 69, 70, 1145] g1) ok45 hr48 hp6 o49) (fun v S1 hq => ?_)
            obtain ⟨r54, rfl, hr54, ok51, md52, hpo53⟩ := hq
            obtain ⟨g50, rfl⟩ : ∃ g, S1 = sv_sts (sv_sts S [68, 69, 70, 1145] g1) [68, 69, 70] g := ⟨_, md52.eq⟩
            show sv_T sm_XS sm_cs sm_L sm_sh 2 (q_readKey p1 p3 p5 p6 S) 250 127 [(0, .ref 0), (1, sv_L p1), (3, sv_L p3), (5, sv_I p5), (6, sv_I p6), (7, sv_L l7_2), (9, sv_L l9_3), (11, sv_L l11_4), (13, sv_L x41), (15, sv_I l15_18), (16, sv_I r48)] [sv_I r54] (sv_sts (sv_sts S [68, 69, 70, 1145] g1) [68, 69, 70] g50)
            have md55 : sv_mod [68, 69, 70, 1145] S (sv_sts (sv_sts S [68, 69, 70, 1145] g1) [68, 69, 70] g50) := sv_mod.sts md9 (by decide)
            have md56 : sv_mod [68, 69, 70, 1145] S (sv_sts (sv_sts S [68, 69, 70, 1145] g1) [68, 69, 70] g50) := sv_mod.sts md10 (by decide)
            have h := h r54 hr54 g50 hpo53
            refine sv_istore hM dX12_readKey_127 (by decide) rfl ?_
            show sv_T sm_XS sm_cs sm_L sm_sh 2 (q_readKey p1 p3 p5 p6 S) 250 129 [(0, .ref 0), (1, sv_L p1), (3, sv_L p3), (5, sv_I p5), (6, sv_I p6), (7, sv_L l7_2), (9, sv_L l9_3), (11, sv_L l11_4), (13, sv_L x41), (15, sv_I l15_18), (16, sv_I r48), (17, sv_I r54)] [] (sv_sts (sv_sts S [68, 69, 70, 1145] g1) [68, 69, 70] g50)
            refine sv_aload_n hM dX12_readKey_129 rfl rfl ?_
            refine sv_iload hM dX12_readKey_130 rfl rfl ?_
            obtain ⟨o57, h⟩ := h
            refine sv_callV hM dX12_readKey_132 sm_iv_1047 (by decide) (sm_a0 _) rfl rfl (Nat.le_of_ble_eq_true rfl) sm_h202 (Nat.le_of_ble_eq_true rfl) (Nat.le_of_ble_eq_true rfl) (F' := 0) (Nat.le_of_ble_eq_true rfl) rfl (t_has r48 (sv_sts (sv_sts S [68, 69, 70, 1145] g1) [68, 69, 70] g50) ok51 hr48 o57) (fun v S1 hq => ?_)
            obtain ⟨r62, rfl, hr62, ok59, md60, hpo61⟩ := hq
            obtain rfl : (sv_sts (sv_sts S [68, 69, 70, 1145] g1) [68, 69, 70] g50) = S1 := (funext fun j => md60 j (by intro q; cases q)).symm
            show sv_T sm_XS sm_cs sm_L sm_sh 2 (q_readKey p1 p3 p5 p6 S) 250 135 [(0, .ref 0), (1, sv_L p1), (3, sv_L p3), (5, sv_I p5), (6, sv_I p6), (7, sv_L l7_2), (9, sv_L l9_3), (11, sv_L l11_4), (13, sv_L x41), (15, sv_I l15_18), (16, sv_I r48), (17, sv_I r54)] [sv_I r62] (sv_sts (sv_sts S [68, 69, 70, 1145] g1) [68, 69, 70] g50)
            have h := h r62 hr62 hpo61
            refine sv_sipush (d := (512 : Int)) hM dX12_readKey_135 rfl rfl ?_
            refine sv_iand hM dX12_readKey_138 ⟨by decide, by decide⟩ rfl (fun r63 hr63 => ?_)
            have h := h r63 hr63
            refine sv_cond_ne hM dX12_readKey_139 (⟨by omega, by omega⟩ : sv_R r63) (t := 145) rfl rfl (fun hc => ?_) (fun hc => ?_)
            · have h := h.1 (hc)
              refine sv_aload_n hM dX12_readKey_145 rfl rfl ?_
              refine sv_sipush (d := (639 : Int)) hM dX12_readKey_146 rfl rfl ?_
              refine sv_iload hM dX12_readKey_149 rfl rfl ?_
              obtain ⟨o64, h⟩ := h
              refine sv_callV hM dX12_readKey_151 sm_iv_1101 (by decide) (sm_a0 _) rfl rfl (Nat.le_of_ble_eq_true rfl) sm_h226 (Nat.le_of_ble_eq_true rfl) (Nat.le_of_ble_eq_true rfl) (F' := 1) (Nat.le_of_ble_eq_true rfl) rfl (t_of (639 : Int) l15_18 (sv_sts (sv_sts S [68, 69, 70, 1145] g1) [68, 69, 70] g50) ok59 (⟨by decide, by decide⟩ : sv_R (639 : Int)) hl15_18 o64) (fun v S1 hq => ?_)
              obtain ⟨r69, rfl, hr69, ok66, md67, hpo68⟩ := hq
              obtain rfl : (sv_sts (sv_sts S [68, 69, 70, 1145] g1) [68, 69, 70] g50) = S1 := (funext fun j => md67 j (by intro q; cases q)).symm
              show sv_T sm_XS sm_cs sm_L sm_sh 2 (q_readKey p1 p3 p5 p6 S) 250 154 [(0, .ref 0), (1, sv_L p1), (3, sv_L p3), (5, sv_I p5), (6, sv_I p6), (7, sv_L l7_2), (9, sv_L l9_3), (11, sv_L l11_4), (13, sv_L x41), (15, sv_I l15_18), (16, sv_I r48), (17, sv_I r54)] [sv_I r69] (sv_sts (sv_sts S [68, 69, 70, 1145] g1) [68, 69, 70] g50)
              have h := h r69 hr69 hpo68
              refine sv_istore hM dX12_readKey_154 (by decide) rfl ?_
              show sv_T sm_XS sm_cs sm_L sm_sh 2 (q_readKey p1 p3 p5 p6 S) 250 156 [(0, .ref 0), (1, sv_L p1), (3, sv_L p3), (5, sv_I p5), (6, sv_I p6), (7, sv_L l7_2), (9, sv_L l9_3), (11, sv_L l11_4), (13, sv_L x41), (15, sv_I l15_18), (16, sv_I r48), (17, sv_I r54), (18, sv_I r69)] [] (sv_sts (sv_sts S [68, 69, 70, 1145] g1) [68, 69, 70] g50)
              refine sv_lload hM dX12_readKey_156 rfl rfl ?_
              refine sv_aload_n hM dX12_readKey_158 rfl rfl ?_
              refine sv_getA hM dX12_readKey_159 sm_fl_262 (sm_a0 _) sm_k135 rfl ?_
              refine sv_iload hM dX12_readKey_162 rfl rfl ?_
              obtain ⟨o70, h⟩ := h
              have k71 : sv_RL (S 83 r69) := sm_okJ ok66 sm_r83 r69
              have h := h k71
              refine sv_lald hM dX12_readKey_164 (sm_a83 _) (by decide) o70.1 o70.2 rfl (x := (S 83 r69)) rfl ?_
              refine sv_anyL hM dX12_readKey_165 rfl rfl (fun r72 hr72 _ => ?_)
              have h := h r72 hr72
              refine sv_lstore hM dX12_readKey_166 (by decide) rfl ?_
              show sv_T sm_XS sm_cs sm_L sm_sh 2 (q_readKey p1 p3 p5 p6 S) 250 168 [(0, .ref 0), (1, sv_L p1), (3, sv_L p3), (5, sv_I p5), (6, sv_I p6), (7, sv_L r72), (9, sv_L l9_3), (11, sv_L l11_4), (13, sv_L x41), (15, sv_I l15_18), (16, sv_I r48), (17, sv_I r54), (18, sv_I r69)] [] (sv_sts (sv_sts S [68, 69, 70, 1145] g1) [68, 69, 70] g50)
              refine sv_lload hM dX12_readKey_168 rfl rfl ?_
              refine sv_aload_n hM dX12_readKey_170 rfl rfl ?_
              refine sv_getA hM dX12_readKey_171 sm_fl_265 (sm_a0 _) sm_k136 rfl ?_
              refine sv_iload hM dX12_readKey_174 rfl rfl ?_
              have k73 : sv_RL (S 84 r69) := sm_okJ ok66 sm_r84 r69
              have h := h k73
              refine sv_lald hM dX12_readKey_176 (sm_a84 _) (by decide) o70.1 o70.2 rfl (x := (S 84 r69)) rfl ?_
              refine sv_anyL hM dX12_readKey_177 rfl rfl (fun r74 hr74 _ => ?_)
              have h := h r74 hr74
              refine sv_lstore hM dX12_readKey_178 (by decide) rfl ?_
              show sv_T sm_XS sm_cs sm_L sm_sh 2 (q_readKey p1 p3 p5 p6 S) 250 180 [(0, .ref 0), (1, sv_L p1), (3, sv_L p3), (5, sv_I p5), (6, sv_I p6), (7, sv_L r72), (9, sv_L r74), (11, sv_L l11_4), (13, sv_L x41), (15, sv_I l15_18), (16, sv_I r48), (17, sv_I r54), (18, sv_I r69)] [] (sv_sts (sv_sts S [68, 69, 70, 1145] g1) [68, 69, 70] g50)
              refine sv_aload_n hM dX12_readKey_180 rfl rfl ?_
              refine sv_aload_n hM dX12_readKey_181 rfl rfl ?_
              have k75 : (0 ≤ (g1 1145 0) ∧ (g1 1145 0) ≤ 1) := sm_okZ ok66 sm_r1145 0
              have h := h k75
              refine sv_getI hM dX12_readKey_182 sm_fl_1156 (sm_a0 _) sm_k145 rfl (x := (g1 1145 0)) rfl ?_
              refine sv_cond_ne hM dX12_readKey_185 (sv_R01 k75) (t := 198) rfl rfl (fun hc => ?_) (fun hc => ?_)
              · have h := h.1 (hc)
                refine sv_iconst (d := (1 : Int)) hM dX12_readKey_198 rfl rfl ?_
                refine sv_goto hM dX12_readKey_199 (pc' := 203) rfl ?_
                refine sv_putI sm_X hM dX12_readKey_203 sm_fp_1156 (sm_a0 _) sm_q145 (Or.inr rfl) rfl (sv_nz (⟨by decide, by decide⟩ : 0 ≤ (1 : Int) ∧ (1 : Int) ≤ 1)) (sv_fz (⟨by decide, by decide⟩ : 0 ≤ (1 : Int) ∧ (1 : Int) ≤ 1)) rfl ?_
                have ok76 : sm_ok (sv_up (sv_sts (sv_sts S [68, 69, 70, 1145] g1) [68, 69, 70] g50) 1145 0 (1 : Int)) := sm_upZ ok66 sm_r1145 (⟨by decide, by decide⟩ : 0 ≤ (1 : Int) ∧ (1 : Int) ≤ 1)
                have md77 : sv_mod [68, 69, 70, 1145] S (sv_up (sv_sts (sv_sts S [68, 69, 70, 1145] g1) [68, 69, 70] g50) 1145 0 (1 : Int)) := sv_mod.up md55 (by decide)
                have md78 : sv_mod [68, 69, 70, 1145] S (sv_up (sv_sts (sv_sts S [68, 69, 70, 1145] g1) [68, 69, 70] g50) 1145 0 (1 : Int)) := sv_mod.up md56 (by decide)
                refine sv_goto hM dX12_readKey_206 (pc' := 12) rfl ?_
                have eS := sv_mod.eq md78
                have hb := ih6 (r72, r74, l11_4, x41, (sv_up (sv_sts (sv_sts S [68, 69, 70, 1145] g1) [68, 69, 70] g50) 1145 0 (1 : Int))) ⟨hr72, hr74, hl11_4, e42r, (by rw [← eS]; exact ok76), h.1⟩ h.2
                have hb : sv_T sm_XS sm_cs sm_L sm_sh 2 (q_readKey p1 p3 p5 p6 S) 250 12 [(0, .ref 0), (1, sv_L p1), (3, sv_L p3), (5, sv_I p5), (6, sv_I p6), (7, sv_L r72), (9, sv_L r74), (11, sv_L l11_4), (13, sv_L x41)] [] (sv_up (sv_sts (sv_sts S [68, 69, 70, 1145] g1) [68, 69, 70] g50) 1145 0 (1 : Int)) := Eq.mpr (congrArg (fun Z => sv_T sm_XS sm_cs sm_L sm_sh 2 (q_readKey p1 p3 p5 p6 S) 250 12 [(0, .ref 0), (1, sv_L p1), (3, sv_L p3), (5, sv_I p5), (6, sv_I p6), (7, sv_L r72), (9, sv_L r74), (11, sv_L l11_4), (13, sv_L x41)] [] Z) eS) hb
                exact sv_less (lv := [(0, .ref 0), (1, sv_L p1), (3, sv_L p3), (5, sv_I p5), (6, sv_I p6), (7, sv_L r72), (9, sv_L r74), (11, sv_L l11_4), (13, sv_L x41)]) (sv_Sub_cons rfl (sv_Sub_cons rfl (sv_Sub_cons rfl (sv_Sub_cons rfl (sv_Sub_cons rfl (sv_Sub_cons rfl (sv_Sub_cons rfl (sv_Sub_cons rfl (sv_Sub_cons rfl sv_Sub_nil))))))))) hb
              · have h := h.2 (hc)
                refine sv_aload_n hM dX12_readKey_188 rfl rfl ?_
                refine sv_getA hM dX12_readKey_189 sm_fl_259 (sm_a0 _) sm_k134 rfl ?_
                refine sv_iload hM dX12_readKey_192 rfl rfl ?_
                have k79 : (0 ≤ (S 82 r69) ∧ (S 82 r69) ≤ 1) := sm_okZ ok66 sm_r82 r69
                have h := h k79
                refine sv_zald hM dX12_readKey_194 (sm_a82 _) (by decide) o70.1 o70.2 rfl (x := (S 82 r69)) rfl ?_
                refine sv_cond_eq hM dX12_readKey_195 (sv_R01 k79) (t := 202) rfl rfl (fun hc => ?_) (fun hc => ?_)
                · have h := h.1 (hc)
                  refine sv_iconst (d := (0 : Int)) hM dX12_readKey_202 rfl rfl ?_
                  refine sv_putI sm_X hM dX12_readKey_203 sm_fp_1156 (sm_a0 _) sm_q145 (Or.inr rfl) rfl (sv_nz (⟨by decide, by decide⟩ : 0 ≤ (0 : Int) ∧ (0 : Int) ≤ 1)) (sv_fz (⟨by decide, by decide⟩ : 0 ≤ (0 : Int) ∧ (0 : Int) ≤ 1)) rfl ?_
                  have ok80 : sm_ok (sv_up (sv_sts (sv_sts S [68, 69, 70, 1145] g1) [68, 69, 70] g50) 1145 0 (0 : Int)) := sm_upZ ok66 sm_r1145 (⟨by decide, by decide⟩ : 0 ≤ (0 : Int) ∧ (0 : Int) ≤ 1)
                  have md81 : sv_mod [68, 69, 70, 1145] S (sv_up (sv_sts (sv_sts S [68, 69, 70, 1145] g1) [68, 69, 70] g50) 1145 0 (0 : Int)) := sv_mod.up md55 (by decide)
                  have md82 : sv_mod [68, 69, 70, 1145] S (sv_up (sv_sts (sv_sts S [68, 69, 70, 1145] g1) [68, 69, 70] g50) 1145 0 (0 : Int)) := sv_mod.up md56 (by decide)
                  refine sv_goto hM dX12_readKey_206 (pc' := 12) rfl ?_
                  have eS := sv_mod.eq md82
                  have hb := ih6 (r72, r74, l11_4, x41, (sv_up (sv_sts (sv_sts S [68, 69, 70, 1145] g1) [68, 69, 70] g50) 1145 0 (0 : Int))) ⟨hr72, hr74, hl11_4, e42r, (by rw [← eS]; exact ok80), h.1⟩ h.2
                  have hb : sv_T sm_XS sm_cs sm_L sm_sh 2 (q_readKey p1 p3 p5 p6 S) 250 12 [(0, .ref 0), (1, sv_L p1), (3, sv_L p3), (5, sv_I p5), (6, sv_I p6), (7, sv_L r72), (9, sv_L r74), (11, sv_L l11_4), (13, sv_L x41)] [] (sv_up (sv_sts (sv_sts S [68, 69, 70, 1145] g1) [68, 69, 70] g50) 1145 0 (0 : Int)) := Eq.mpr (congrArg (fun Z => sv_T sm_XS sm_cs sm_L sm_sh 2 (q_readKey p1 p3 p5 p6 S) 250 12 [(0, .ref 0), (1, sv_L p1), (3, sv_L p3), (5, sv_I p5), (6, sv_I p6), (7, sv_L r72), (9, sv_L r74), (11, sv_L l11_4), (13, sv_L x41)] [] Z) eS) hb
                  exact sv_less (lv := [(0, .ref 0), (1, sv_L p1), (3, sv_L p3), (5, sv_I p5), (6, sv_I p6), (7, sv_L r72), (9, sv_L r74), (11, sv_L l11_4), (13, sv_L x41)]) (sv_Sub_cons rfl (sv_Sub_cons rfl (sv_Sub_cons rfl (sv_Sub_cons rfl (sv_Sub_cons rfl (sv_Sub_cons rfl (sv_Sub_cons rfl (sv_Sub_cons rfl (sv_Sub_cons rfl sv_Sub_nil))))))))) hb
                · have h := h.2 (hc)
                  refine sv_iconst (d := (1 : Int)) hM dX12_readKey_198 rfl rfl ?_
                  refine sv_goto hM dX12_readKey_199 (pc' := 203) rfl ?_
                  refine sv_putI sm_X hM dX12_readKey_203 sm_fp_1156 (sm_a0 _) sm_q145 (Or.inr rfl) rfl (sv_nz (⟨by decide, by decide⟩ : 0 ≤ (1 : Int) ∧ (1 : Int) ≤ 1)) (sv_fz (⟨by decide, by decide⟩ : 0 ≤ (1 : Int) ∧ (1 : Int) ≤ 1)) rfl ?_
                  have ok83 : sm_ok (sv_up (sv_sts (sv_sts S [68, 69, 70, 1145] g1) [68, 69, 70] g50) 1145 0 (1 : Int)) := sm_upZ ok66 sm_r1145 (⟨by decide, by decide⟩ : 0 ≤ (1 : Int) ∧ (1 : Int) ≤ 1)
                  have md84 : sv_mod [68, 69, 70, 1145] S (sv_up (sv_sts (sv_sts S [68, 69, 70, 1145] g1) [68, 69, 70] g50) 1145 0 (1 : Int)) := sv_mod.up md55 (by decide)
                  have md85 : sv_mod [68, 69, 70, 1145] S (sv_up (sv_sts (sv_sts S [68, 69, 70, 1145] g1) [68, 69, 70] g50) 1145 0 (1 : Int)) := sv_mod.up md56 (by decide)
                  refine sv_goto hM dX12_readKey_206 (pc' := 12) rfl ?_
                  have eS := sv_mod.eq md85
                  have hb := ih6 (r72, r74, l11_4, x41, (sv_up (sv_sts (sv_sts S [68, 69, 70, 1145] g1) [68, 69, 70] g50) 1145 0 (1 : Int))) ⟨hr72, hr74, hl11_4, e42r, (by rw [← eS]; exact ok83), h.1⟩ h.2
                  have hb : sv_T sm_XS sm_cs sm_L sm_sh 2 (q_readKey p1 p3 p5 p6 S) 250 12 [(0, .ref 0), (1, sv_L p1), (3, sv_L p3), (5, sv_I p5), (6, sv_I p6), (7, sv_L r72), (9, sv_L r74), (11, sv_L l11_4), (13, sv_L x41)] [] (sv_up (sv_sts (sv_sts S [68, 69, 70, 1145] g1) [68, 69, 70] g50) 1145 0 (1 : Int)) := Eq.mpr (congrArg (fun Z => sv_T sm_XS sm_cs sm_L sm_sh 2 (q_readKey p1 p3 p5 p6 S) 250 12 [(0, .ref 0), (1, sv_L p1), (3, sv_L p3), (5, sv_I p5), (6, sv_I p6), (7, sv_L r72), (9, sv_L r74), (11, sv_L l11_4), (13, sv_L x41)] [] Z) eS) hb
                  exact sv_less (lv := [(0, .ref 0), (1, sv_L p1), (3, sv_L p3), (5, sv_I p5), (6, sv_I p6), (7, sv_L r72), (9, sv_L r74), (11, sv_L l11_4), (13, sv_L x41)]) (sv_Sub_cons rfl (sv_Sub_cons rfl (sv_Sub_cons rfl (sv_Sub_cons rfl (sv_Sub_cons rfl (sv_Sub_cons rfl (sv_Sub_cons rfl (sv_Sub_cons rfl (sv_Sub_cons rfl sv_Sub_nil))))))))) hb
            · have h := h.2 (hc)
              refine sv_goto hM dX12_readKey_142 (pc' := 12) rfl ?_
              have eS := sv_mod.eq md56
              have hb := ih6 (l7_2, l9_3, l11_4, x41, (sv_sts (sv_sts S [68, 69, 70, 1145] g1) [68, 69, 70] g50)) ⟨hl7_2, hl9_3, hl11_4, e42r, (by rw [← eS]; exact ok59), h.1⟩ h.2
              have hb : sv_T sm_XS sm_cs sm_L sm_sh 2 (q_readKey p1 p3 p5 p6 S) 250 12 [(0, .ref 0), (1, sv_L p1), (3, sv_L p3), (5, sv_I p5), (6, sv_I p6), (7, sv_L l7_2), (9, sv_L l9_3), (11, sv_L l11_4), (13, sv_L x41)] [] (sv_sts (sv_sts S [68, 69, 70, 1145] g1) [68, 69, 70] g50) := Eq.mpr (congrArg (fun Z => sv_T sm_XS sm_cs sm_L sm_sh 2 (q_readKey p1 p3 p5 p6 S) 250 12 [(0, .ref 0), (1, sv_L p1), (3, sv_L p3), (5, sv_I p5), (6, sv_I p6), (7, sv_L l7_2), (9, sv_L l9_3), (11, sv_L l11_4), (13, sv_L x41)] [] Z) eS) hb
              exact sv_less (lv := [(0, .ref 0), (1, sv_L p1), (3, sv_L p3), (5, sv_I p5), (6, sv_I p6), (7, sv_L l7_2), (9, sv_L l9_3), (11, sv_L l11_4), (13, sv_L x41)]) (sv_Sub_cons rfl (sv_Sub_cons rfl (sv_Sub_cons rfl (sv_Sub_cons rfl (sv_Sub_cons rfl (sv_Sub_cons rfl (sv_Sub_cons rfl (sv_Sub_cons rfl (sv_Sub_cons rfl sv_Sub_nil))))))))) hb
          · have h := h.2 (hc)
            refine sv_lload hM dX12_readKey_82 rfl rfl ?_
            refine sv_lconst (d := (1 : Int)) hM dX12_readKey_84 rfl rfl ?_
            refine sv_iload hM dX12_readKey_85 rfl rfl ?_
            refine sv_anyL hM dX12_readKey_87 rfl rfl (fun r86 hr86 er86 => ?_)
            have er86v : (sm_shl (1 : Int) l15_18) = r86 := er86
            have k87 : sv_RL (sm_shl (1 : Int) l15_18) := er86v.symm ▸ hr86
            rw [← er86v]
            have h := h k87
            refine sv_anyL hM dX12_readKey_88 rfl rfl (fun r88 hr88 er88 => ?_)
            have er88v : (sm_lor l11_4 (sm_shl (1 : Int) l15_18)) = r88 := er88
            have k89 : sv_RL (sm_lor l11_4 (sm_shl (1 : Int) l15_18)) := er88v.symm ▸ hr88
            rw [← er88v]
            have h := h k89
            obtain ⟨x90, e91⟩ : ∃ x : Int, (sm_lor l11_4 (sm_shl (1 : Int) l15_18)) = x := ⟨_, rfl⟩
            have h := h x90 e91
            have e91r : sv_RL x90 := e91 ▸ k89
            refine sv_nameL e91 ?_
            refine sv_lstore hM dX12_readKey_89 (by decide) rfl ?_
            show sv_T sm_XS sm_cs sm_L sm_sh 2 (q_readKey p1 p3 p5 p6 S) 250 91 [(0, .ref 0), (1, sv_L p1), (3, sv_L p3), (5, sv_I p5), (6, sv_I p6), (7, sv_L l7_2), (9, sv_L l9_3), (11, sv_L x90), (13, sv_L l13_5), (15, sv_I l15_18)] [] (sv_sts S [68, 69, 70, 1145] g1)
            refine sv_goto hM dX12_readKey_91 (pc' := 106) rfl ?_
            refine sv_aload_n hM dX12_readKey_106 rfl rfl ?_
            refine sv_sipush (d := (639 : Int)) hM dX12_readKey_107 rfl rfl ?_
            refine sv_iload hM dX12_readKey_110 rfl rfl ?_
            refine sv_iload hM dX12_readKey_112 rfl rfl ?_
            obtain ⟨o92, h⟩ := h
            refine sv_callV hM dX12_readKey_114 sm_iv_1163 (by decide) (sm_a0 _) rfl rfl (Nat.le_of_ble_eq_true rfl) sm_h225 (Nat.le_of_ble_eq_true rfl) (Nat.le_of_ble_eq_true rfl) (F' := 1) (Nat.le_of_ble_eq_true rfl) rfl (t_field (639 : Int) l15_18 p5 (sv_sts S [68, 69, 70, 1145] g1) ok32 (⟨by decide, by decide⟩ : sv_R (639 : Int)) hl15_18 hp5 o92) (fun v S1 hq => ?_)
            obtain ⟨r97, rfl, hr97, ok94, md95, hpo96⟩ := hq
            obtain rfl : (sv_sts S [68, 69, 70, 1145] g1) = S1 := (funext fun j => md95 j (by intro q; cases q)).symm
            show sv_T sm_XS sm_cs sm_L sm_sh 2 (q_readKey p1 p3 p5 p6 S) 250 117 [(0, .ref 0), (1, sv_L p1), (3, sv_L p3), (5, sv_I p5), (6, sv_I p6), (7, sv_L l7_2), (9, sv_L l9_3), (11, sv_L x90), (13, sv_L l13_5), (15, sv_I l15_18)] [sv_I r97] (sv_sts S [68, 69, 70, 1145] g1)
            have h := h r97 hr97 hpo96
            refine sv_istore hM dX12_readKey_117 (by decide) rfl ?_
            show sv_T sm_XS sm_cs sm_L sm_sh 2 (q_readKey p1 p3 p5 p6 S) 250 119 [(0, .ref 0), (1, sv_L p1), (3, sv_L p3), (5, sv_I p5), (6, sv_I p6), (7, sv_L l7_2), (9, sv_L l9_3), (11, sv_L x90), (13, sv_L l13_5), (15, sv_I l15_18), (16, sv_I r97)] [] (sv_sts S [68, 69, 70, 1145] g1)
            refine sv_aload_n hM dX12_readKey_119 rfl rfl ?_
            refine sv_iload hM dX12_readKey_120 rfl rfl ?_
            refine sv_iload hM dX12_readKey_122 rfl rfl ?_
            obtain ⟨o98, h⟩ := h
            refine sv_callV hM dX12_readKey_124 sm_iv_1069 (by decide) (sm_a0 _) rfl rfl (Nat.le_of_ble_eq_true rfl) sm_h208 (Nat.le_of_ble_eq_true rfl) (Nat.le_of_ble_eq_true rfl) (F' := 1) (Nat.le_of_ble_eq_true rfl) rfl (t_join r97 p6 (sv_sts S [68, 69, 70, 1145] g1) ok94 hr97 hp6 o98) (fun v S1 hq => ?_)
            obtain ⟨r103, rfl, hr103, ok100, md101, hpo102⟩ := hq
            obtain ⟨g99, rfl⟩ : ∃ g, S1 = sv_sts (sv_sts S [68, 69, 70, 1145] g1) [68, 69, 70] g := ⟨_, md101.eq⟩
            show sv_T sm_XS sm_cs sm_L sm_sh 2 (q_readKey p1 p3 p5 p6 S) 250 127 [(0, .ref 0), (1, sv_L p1), (3, sv_L p3), (5, sv_I p5), (6, sv_I p6), (7, sv_L l7_2), (9, sv_L l9_3), (11, sv_L x90), (13, sv_L l13_5), (15, sv_I l15_18), (16, sv_I r97)] [sv_I r103] (sv_sts (sv_sts S [68, 69, 70, 1145] g1) [68, 69, 70] g99)
            have md104 : sv_mod [68, 69, 70, 1145] S (sv_sts (sv_sts S [68, 69, 70, 1145] g1) [68, 69, 70] g99) := sv_mod.sts md9 (by decide)
            have md105 : sv_mod [68, 69, 70, 1145] S (sv_sts (sv_sts S [68, 69, 70, 1145] g1) [68, 69, 70] g99) := sv_mod.sts md10 (by decide)
            have h := h r103 hr103 g99 hpo102
            refine sv_istore hM dX12_readKey_127 (by decide) rfl ?_
            show sv_T sm_XS sm_cs sm_L sm_sh 2 (q_readKey p1 p3 p5 p6 S) 250 129 [(0, .ref 0), (1, sv_L p1), (3, sv_L p3), (5, sv_I p5), (6, sv_I p6), (7, sv_L l7_2), (9, sv_L l9_3), (11, sv_L x90), (13, sv_L l13_5), (15, sv_I l15_18), (16, sv_I r97), (17, sv_I r103)] [] (sv_sts (sv_sts S [68, 69, 70, 1145] g1) [68, 69, 70] g99)
            refine sv_aload_n hM dX12_readKey_129 rfl rfl ?_
            refine sv_iload hM dX12_readKey_130 rfl rfl ?_
            obtain ⟨o106, h⟩ := h
            refine sv_callV hM dX12_readKey_132 sm_iv_1047 (by decide) (sm_a0 _) rfl rfl (Nat.le_of_ble_eq_true rfl) sm_h202 (Nat.le_of_ble_eq_true rfl) (Nat.le_of_ble_eq_true rfl) (F' := 0) (Nat.le_of_ble_eq_true rfl) rfl (t_has r97 (sv_sts (sv_sts S [68, 69, 70, 1145] g1) [68, 69, 70] g99) ok100 hr97 o106) (fun v S1 hq => ?_)
            obtain ⟨r111, rfl, hr111, ok108, md109, hpo110⟩ := hq
            obtain rfl : (sv_sts (sv_sts S [68, 69, 70, 1145] g1) [68, 69, 70] g99) = S1 := (funext fun j => md109 j (by intro q; cases q)).symm
            show sv_T sm_XS sm_cs sm_L sm_sh 2 (q_readKey p1 p3 p5 p6 S) 250 135 [(0, .ref 0), (1, sv_L p1), (3, sv_L p3), (5, sv_I p5), (6, sv_I p6), (7, sv_L l7_2), (9, sv_L l9_3), (11, sv_L x90), (13, sv_L l13_5), (15, sv_I l15_18), (16, sv_I r97), (17, sv_I r103)] [sv_I r111] (sv_sts (sv_sts S [68, 69, 70, 1145] g1) [68, 69, 70] g99)
            have h := h r111 hr111 hpo110
            refine sv_sipush (d := (512 : Int)) hM dX12_readKey_135 rfl rfl ?_
            refine sv_iand hM dX12_readKey_138 ⟨by decide, by decide⟩ rfl (fun r112 hr112 => ?_)
            have h := h r112 hr112
            refine sv_cond_ne hM dX12_readKey_139 (⟨by omega, by omega⟩ : sv_R r112) (t := 145) rfl rfl (fun hc => ?_) (fun hc => ?_)
            · have h := h.1 (hc)
              refine sv_aload_n hM dX12_readKey_145 rfl rfl ?_
              refine sv_sipush (d := (639 : Int)) hM dX12_readKey_146 rfl rfl ?_
              refine sv_iload hM dX12_readKey_149 rfl rfl ?_
              obtain ⟨o113, h⟩ := h
              refine sv_callV hM dX12_readKey_151 sm_iv_1101 (by decide) (sm_a0 _) rfl rfl (Nat.le_of_ble_eq_true rfl) sm_h226 (Nat.le_of_ble_eq_true rfl) (Nat.le_of_ble_eq_true rfl) (F' := 1) (Nat.le_of_ble_eq_true rfl) rfl (t_of (639 : Int) l15_18 (sv_sts (sv_sts S [68, 69, 70, 1145] g1) [68, 69, 70] g99) ok108 (⟨by decide, by decide⟩ : sv_R (639 : Int)) hl15_18 o113) (fun v S1 hq => ?_)
              obtain ⟨r118, rfl, hr118, ok115, md116, hpo117⟩ := hq
              obtain rfl : (sv_sts (sv_sts S [68, 69, 70, 1145] g1) [68, 69, 70] g99) = S1 := (funext fun j => md116 j (by intro q; cases q)).symm
              show sv_T sm_XS sm_cs sm_L sm_sh 2 (q_readKey p1 p3 p5 p6 S) 250 154 [(0, .ref 0), (1, sv_L p1), (3, sv_L p3), (5, sv_I p5), (6, sv_I p6), (7, sv_L l7_2), (9, sv_L l9_3), (11, sv_L x90), (13, sv_L l13_5), (15, sv_I l15_18), (16, sv_I r97), (17, sv_I r103)] [sv_I r118] (sv_sts (sv_sts S [68, 69, 70, 1145] g1) [68, 69, 70] g99)
              have h := h r118 hr118 hpo117
              refine sv_istore hM dX12_readKey_154 (by decide) rfl ?_
              show sv_T sm_XS sm_cs sm_L sm_sh 2 (q_readKey p1 p3 p5 p6 S) 250 156 [(0, .ref 0), (1, sv_L p1), (3, sv_L p3), (5, sv_I p5), (6, sv_I p6), (7, sv_L l7_2), (9, sv_L l9_3), (11, sv_L x90), (13, sv_L l13_5), (15, sv_I l15_18), (16, sv_I r97), (17, sv_I r103), (18, sv_I r118)] [] (sv_sts (sv_sts S [68, 69, 70, 1145] g1) [68, 69, 70] g99)
              refine sv_lload hM dX12_readKey_156 rfl rfl ?_
              refine sv_aload_n hM dX12_readKey_158 rfl rfl ?_
              refine sv_getA hM dX12_readKey_159 sm_fl_262 (sm_a0 _) sm_k135 rfl ?_
              refine sv_iload hM dX12_readKey_162 rfl rfl ?_
              obtain ⟨o119, h⟩ := h
              have k120 : sv_RL (S 83 r118) := sm_okJ ok115 sm_r83 r118
              have h := h k120
              refine sv_lald hM dX12_readKey_164 (sm_a83 _) (by decide) o119.1 o119.2 rfl (x := (S 83 r118)) rfl ?_
              refine sv_anyL hM dX12_readKey_165 rfl rfl (fun r121 hr121 _ => ?_)
              have h := h r121 hr121
              refine sv_lstore hM dX12_readKey_166 (by decide) rfl ?_
              show sv_T sm_XS sm_cs sm_L sm_sh 2 (q_readKey p1 p3 p5 p6 S) 250 168 [(0, .ref 0), (1, sv_L p1), (3, sv_L p3), (5, sv_I p5), (6, sv_I p6), (7, sv_L r121), (9, sv_L l9_3), (11, sv_L x90), (13, sv_L l13_5), (15, sv_I l15_18), (16, sv_I r97), (17, sv_I r103), (18, sv_I r118)] [] (sv_sts (sv_sts S [68, 69, 70, 1145] g1) [68, 69, 70] g99)
              refine sv_lload hM dX12_readKey_168 rfl rfl ?_
              refine sv_aload_n hM dX12_readKey_170 rfl rfl ?_
              refine sv_getA hM dX12_readKey_171 sm_fl_265 (sm_a0 _) sm_k136 rfl ?_
              refine sv_iload hM dX12_readKey_174 rfl rfl ?_
              have k122 : sv_RL (S 84 r118) := sm_okJ ok115 sm_r84 r118
              have h := h k122
              refine sv_lald hM dX12_readKey_176 (sm_a84 _) (by decide) o119.1 o119.2 rfl (x := (S 84 r118)) rfl ?_
              refine sv_anyL hM dX12_readKey_177 rfl rfl (fun r123 hr123 _ => ?_)
              have h := h r123 hr123
              refine sv_lstore hM dX12_readKey_178 (by decide) rfl ?_
              show sv_T sm_XS sm_cs sm_L sm_sh 2 (q_readKey p1 p3 p5 p6 S) 250 180 [(0, .ref 0), (1, sv_L p1), (3, sv_L p3), (5, sv_I p5), (6, sv_I p6), (7, sv_L r121), (9, sv_L r123), (11, sv_L x90), (13, sv_L l13_5), (15, sv_I l15_18), (16, sv_I r97), (17, sv_I r103), (18, sv_I r118)] [] (sv_sts (sv_sts S [68, 69, 70, 1145] g1) [68, 69, 70] g99)
              refine sv_aload_n hM dX12_readKey_180 rfl rfl ?_
              refine sv_aload_n hM dX12_readKey_181 rfl rfl ?_
              have k124 : (0 ≤ (g1 1145 0) ∧ (g1 1145 0) ≤ 1) := sm_okZ ok115 sm_r1145 0
              have h := h k124
              refine sv_getI hM dX12_readKey_182 sm_fl_1156 (sm_a0 _) sm_k145 rfl (x := (g1 1145 0)) rfl ?_
              refine sv_cond_ne hM dX12_readKey_185 (sv_R01 k124) (t := 198) rfl rfl (fun hc => ?_) (fun hc => ?_)
              · have h := h.1 (hc)
                refine sv_iconst (d := (1 : Int)) hM dX12_readKey_198 rfl rfl ?_
                refine sv_goto hM dX12_readKey_199 (pc' := 203) rfl ?_
                refine sv_putI sm_X hM dX12_readKey_203 sm_fp_1156 (sm_a0 _) sm_q145 (Or.inr rfl) rfl (sv_nz (⟨by decide, by decide⟩ : 0 ≤ (1 : Int) ∧ (1 : Int) ≤ 1)) (sv_fz (⟨by decide, by decide⟩ : 0 ≤ (1 : Int) ∧ (1 : Int) ≤ 1)) rfl ?_
                have ok125 : sm_ok (sv_up (sv_sts (sv_sts S [68, 69, 70, 1145] g1) [68, 69, 70] g99) 1145 0 (1 : Int)) := sm_upZ ok115 sm_r1145 (⟨by decide, by decide⟩ : 0 ≤ (1 : Int) ∧ (1 : Int) ≤ 1)
                have md126 : sv_mod [68, 69, 70, 1145] S (sv_up (sv_sts (sv_sts S [68, 69, 70, 1145] g1) [68, 69, 70] g99) 1145 0 (1 : Int)) := sv_mod.up md104 (by decide)
                have md127 : sv_mod [68, 69, 70, 1145] S (sv_up (sv_sts (sv_sts S [68, 69, 70, 1145] g1) [68, 69, 70] g99) 1145 0 (1 : Int)) := sv_mod.up md105 (by decide)
                refine sv_goto hM dX12_readKey_206 (pc' := 12) rfl ?_
                have eS := sv_mod.eq md127
                have hb := ih6 (r121, r123, x90, l13_5, (sv_up (sv_sts (sv_sts S [68, 69, 70, 1145] g1) [68, 69, 70] g99) 1145 0 (1 : Int))) ⟨hr121, hr123, e91r, hl13_5, (by rw [← eS]; exact ok125), h.1⟩ h.2
                have hb : sv_T sm_XS sm_cs sm_L sm_sh 2 (q_readKey p1 p3 p5 p6 S) 250 12 [(0, .ref 0), (1, sv_L p1), (3, sv_L p3), (5, sv_I p5), (6, sv_I p6), (7, sv_L r121), (9, sv_L r123), (11, sv_L x90), (13, sv_L l13_5)] [] (sv_up (sv_sts (sv_sts S [68, 69, 70, 1145] g1) [68, 69, 70] g99) 1145 0 (1 : Int)) := Eq.mpr (congrArg (fun Z => sv_T sm_XS sm_cs sm_L sm_sh 2 (q_readKey p1 p3 p5 p6 S) 250 12 [(0, .ref 0), (1, sv_L p1), (3, sv_L p3), (5, sv_I p5), (6, sv_I p6), (7, sv_L r121), (9, sv_L r123), (11, sv_L x90), (13, sv_L l13_5)] [] Z) eS) hb
                exact sv_less (lv := [(0, .ref 0), (1, sv_L p1), (3, sv_L p3), (5, sv_I p5), (6, sv_I p6), (7, sv_L r121), (9, sv_L r123), (11, sv_L x90), (13, sv_L l13_5)]) (sv_Sub_cons rfl (sv_Sub_cons rfl (sv_Sub_cons rfl (sv_Sub_cons rfl (sv_Sub_cons rfl (sv_Sub_cons rfl (sv_Sub_cons rfl (sv_Sub_cons rfl (sv_Sub_cons rfl sv_Sub_nil))))))))) hb
              · have h := h.2 (hc)
                refine sv_aload_n hM dX12_readKey_188 rfl rfl ?_
                refine sv_getA hM dX12_readKey_189 sm_fl_259 (sm_a0 _) sm_k134 rfl ?_
                refine sv_iload hM dX12_readKey_192 rfl rfl ?_
                have k128 : (0 ≤ (S 82 r118) ∧ (S 82 r118) ≤ 1) := sm_okZ ok115 sm_r82 r118
                have h := h k128
                refine sv_zald hM dX12_readKey_194 (sm_a82 _) (by decide) o119.1 o119.2 rfl (x := (S 82 r118)) rfl ?_
                refine sv_cond_eq hM dX12_readKey_195 (sv_R01 k128) (t := 202) rfl rfl (fun hc => ?_) (fun hc => ?_)
                · have h := h.1 (hc)
                  refine sv_iconst (d := (0 : Int)) hM dX12_readKey_202 rfl rfl ?_
                  refine sv_putI sm_X hM dX12_readKey_203 sm_fp_1156 (sm_a0 _) sm_q145 (Or.inr rfl) rfl (sv_nz (⟨by decide, by decide⟩ : 0 ≤ (0 : Int) ∧ (0 : Int) ≤ 1)) (sv_fz (⟨by decide, by decide⟩ : 0 ≤ (0 : Int) ∧ (0 : Int) ≤ 1)) rfl ?_
                  have ok129 : sm_ok (sv_up (sv_sts (sv_sts S [68, 69, 70, 1145] g1) [68, 69, 70] g99) 1145 0 (0 : Int)) := sm_upZ ok115 sm_r1145 (⟨by decide, by decide⟩ : 0 ≤ (0 : Int) ∧ (0 : Int) ≤ 1)
                  have md130 : sv_mod [68, 69, 70, 1145] S (sv_up (sv_sts (sv_sts S [68, 69, 70, 1145] g1) [68, 69, 70] g99) 1145 0 (0 : Int)) := sv_mod.up md104 (by decide)
                  have md131 : sv_mod [68, 69, 70, 1145] S (sv_up (sv_sts (sv_sts S [68, 69, 70, 1145] g1) [68, 69, 70] g99) 1145 0 (0 : Int)) := sv_mod.up md105 (by decide)
                  refine sv_goto hM dX12_readKey_206 (pc' := 12) rfl ?_
                  have eS := sv_mod.eq md131
                  have hb := ih6 (r121, r123, x90, l13_5, (sv_up (sv_sts (sv_sts S [68, 69, 70, 1145] g1) [68, 69, 70] g99) 1145 0 (0 : Int))) ⟨hr121, hr123, e91r, hl13_5, (by rw [← eS]; exact ok129), h.1⟩ h.2
                  have hb : sv_T sm_XS sm_cs sm_L sm_sh 2 (q_readKey p1 p3 p5 p6 S) 250 12 [(0, .ref 0), (1, sv_L p1), (3, sv_L p3), (5, sv_I p5), (6, sv_I p6), (7, sv_L r121), (9, sv_L r123), (11, sv_L x90), (13, sv_L l13_5)] [] (sv_up (sv_sts (sv_sts S [68, 69, 70, 1145] g1) [68, 69, 70] g99) 1145 0 (0 : Int)) := Eq.mpr (congrArg (fun Z => sv_T sm_XS sm_cs sm_L sm_sh 2 (q_readKey p1 p3 p5 p6 S) 250 12 [(0, .ref 0), (1, sv_L p1), (3, sv_L p3), (5, sv_I p5), (6, sv_I p6), (7, sv_L r121), (9, sv_L r123), (11, sv_L x90), (13, sv_L l13_5)] [] Z) eS) hb
                  exact sv_less (lv := [(0, .ref 0), (1, sv_L p1), (3, sv_L p3), (5, sv_I p5), (6, sv_I p6), (7, sv_L r121), (9, sv_L r123), (11, sv_L x90), (13, sv_L l13_5)]) (sv_Sub_cons rfl (sv_Sub_cons rfl (sv_Sub_cons rfl (sv_Sub_cons rfl (sv_Sub_cons rfl (sv_Sub_cons rfl (sv_Sub_cons rfl (sv_Sub_cons rfl (sv_Sub_cons rfl sv_Sub_nil))))))))) hb
                · have h := h.2 (hc)
                  refine sv_iconst (d := (1 : Int)) hM dX12_readKey_198 rfl rfl ?_
                  refine sv_goto hM dX12_readKey_199 (pc' := 203) rfl ?_
                  refine sv_putI sm_X hM dX12_readKey_203 sm_fp_1156 (sm_a0 _) sm_q145 (Or.inr rfl) rfl (sv_nz (⟨by decide, by decide⟩ : 0 ≤ (1 : Int) ∧ (1 : Int) ≤ 1)) (sv_fz (⟨by decide, by decide⟩ : 0 ≤ (1 : Int) ∧ (1 : Int) ≤ 1)) rfl ?_
                  have ok132 : sm_ok (sv_up (sv_sts (sv_sts S [68, 69, 70, 1145] g1) [68, 69, 70] g99) 1145 0 (1 : Int)) := sm_upZ ok115 sm_r1145 (⟨by decide, by decide⟩ : 0 ≤ (1 : Int) ∧ (1 : Int) ≤ 1)
                  have md133 : sv_mod [68, 69, 70, 1145] S (sv_up (sv_sts (sv_sts S [68, 69, 70, 1145] g1) [68, 69, 70] g99) 1145 0 (1 : Int)) := sv_mod.up md104 (by decide)
                  have md134 : sv_mod [68, 69, 70, 1145] S (sv_up (sv_sts (sv_sts S [68, 69, 70, 1145] g1) [68, 69, 70] g99) 1145 0 (1 : Int)) := sv_mod.up md105 (by decide)
                  refine sv_goto hM dX12_readKey_206 (pc' := 12) rfl ?_
                  have eS := sv_mod.eq md134
                  have hb := ih6 (r121, r123, x90, l13_5, (sv_up (sv_sts (sv_sts S [68, 69, 70, 1145] g1) [68, 69, 70] g99) 1145 0 (1 : Int))) ⟨hr121, hr123, e91r, hl13_5, (by rw [← eS]; exact ok132), h.1⟩ h.2
                  have hb : sv_T sm_XS sm_cs sm_L sm_sh 2 (q_readKey p1 p3 p5 p6 S) 250 12 [(0, .ref 0), (1, sv_L p1), (3, sv_L p3), (5, sv_I p5), (6, sv_I p6), (7, sv_L r121), (9, sv_L r123), (11, sv_L x90), (13, sv_L l13_5)] [] (sv_up (sv_sts (sv_sts S [68, 69, 70, 1145] g1) [68, 69, 70] g99) 1145 0 (1 : Int)) := Eq.mpr (congrArg (fun Z => sv_T sm_XS sm_cs sm_L sm_sh 2 (q_readKey p1 p3 p5 p6 S) 250 12 [(0, .ref 0), (1, sv_L p1), (3, sv_L p3), (5, sv_I p5), (6, sv_I p6), (7, sv_L r121), (9, sv_L r123), (11, sv_L x90), (13, sv_L l13_5)] [] Z) eS) hb
                  exact sv_less (lv := [(0, .ref 0), (1, sv_L p1), (3, sv_L p3), (5, sv_I p5), (6, sv_I p6), (7, sv_L r121), (9, sv_L r123), (11, sv_L x90), (13, sv_L l13_5)]) (sv_Sub_cons rfl (sv_Sub_cons rfl (sv_Sub_cons rfl (sv_Sub_cons rfl (sv_Sub_cons rfl (sv_Sub_cons rfl (sv_Sub_cons rfl (sv_Sub_cons rfl (sv_Sub_cons rfl sv_Sub_nil))))))))) hb
            · have h := h.2 (hc)
              refine sv_goto hM dX12_readKey_142 (pc' := 12) rfl ?_
              have eS := sv_mod.eq md105
              have hb := ih6 (l7_2, l9_3, x90, l13_5, (sv_sts (sv_sts S [68, 69, 70, 1145] g1) [68, 69, 70] g99)) ⟨hl7_2, hl9_3, e91r, hl13_5, (by rw [← eS]; exact ok108), h.1⟩ h.2
              have hb : sv_T sm_XS sm_cs sm_L sm_sh 2 (q_readKey p1 p3 p5 p6 S) 250 12 [(0, .ref 0), (1, sv_L p1), (3, sv_L p3), (5, sv_I p5), (6, sv_I p6), (7, sv_L l7_2), (9, sv_L l9_3), (11, sv_L x90), (13, sv_L l13_5)] [] (sv_sts (sv_sts S [68, 69, 70, 1145] g1) [68, 69, 70] g99) := Eq.mpr (congrArg (fun Z => sv_T sm_XS sm_cs sm_L sm_sh 2 (q_readKey p1 p3 p5 p6 S) 250 12 [(0, .ref 0), (1, sv_L p1), (3, sv_L p3), (5, sv_I p5), (6, sv_I p6), (7, sv_L l7_2), (9, sv_L l9_3), (11, sv_L x90), (13, sv_L l13_5)] [] Z) eS) hb
              exact sv_less (lv := [(0, .ref 0), (1, sv_L p1), (3, sv_L p3), (5, sv_I p5), (6, sv_I p6), (7, sv_L l7_2), (9, sv_L l9_3), (11, sv_L x90), (13, sv_L l13_5)]) (sv_Sub_cons rfl (sv_Sub_cons rfl (sv_Sub_cons rfl (sv_Sub_cons rfl (sv_Sub_cons rfl (sv_Sub_cons rfl (sv_Sub_cons rfl (sv_Sub_cons rfl (sv_Sub_cons rfl sv_Sub_nil))))))))) hb
        · have h := h.2 (hc)
          have k135 : (sm_in (sm_land l7_2 (sm_lxor l11_4 (-1))) (sm_land l9_3 (sm_lxor l13_5 (-1))) (sm_fst (sm_land l7_2 (sm_lxor l11_4 (-1))) (sm_land l9_3 (sm_lxor l13_5 (-1)))) = 1 → sm_in (sm_land l7_2 (sm_lxor l11_4 (-1))) (sm_land l9_3 (sm_lxor l13_5 (-1))) l15_18 = 0 → ¬ l15_18 = (sm_fst (sm_land l7_2 (sm_lxor l11_4 (-1))) (sm_land l9_3 (sm_lxor l13_5 (-1))))) := sm_in_ne
          have h := h k135
          refine sv_iinc (d := (1 : Int)) hM dX12_readKey_69 rfl (by decide) rfl rfl ?_
          show sv_T sm_XS sm_cs sm_L sm_sh 2 (q_readKey p1 p3 p5 p6 S) 250 72 [(0, .ref 0), (1, sv_L p1), (3, sv_L p3), (5, sv_I p5), (6, sv_I p6), (7, sv_L l7_2), (9, sv_L l9_3), (11, sv_L l11_4), (13, sv_L l13_5), (15, sv_I (l15_18 + (1 : Int)))] [] (sv_sts S [68, 69, 70, 1145] g1)
          refine sv_goto hM dX12_readKey_72 (pc' := 43) rfl ?_
          obtain ⟨o136, h⟩ := h
          have hb := ih19 ((l15_18 + (1 : Int)), ()) ⟨o136, ok32, h.1⟩ h.2
          exact sv_less (lv := [(0, .ref 0), (1, sv_L p1), (3, sv_L p3), (5, sv_I p5), (6, sv_I p6), (7, sv_L l7_2), (9, sv_L l9_3), (11, sv_L l11_4), (13, sv_L l13_5), (15, sv_I (l15_18 + (1 : Int)))]) (sv_Sub_cons rfl (sv_Sub_cons rfl (sv_Sub_cons rfl (sv_Sub_cons rfl (sv_Sub_cons rfl (sv_Sub_cons rfl (sv_Sub_cons rfl (sv_Sub_cons rfl (sv_Sub_cons rfl (sv_Sub_cons rfl sv_Sub_nil)))))))))) hb
      exact hJ ((0 : Int), ()) ⟨(⟨by decide, by decide⟩ : sv_R (0 : Int)), ok8, hin20⟩
    · have h := h.2 (fun q => hc ((sv_cmp_ne).mpr q))
      refine sv_lload hM dX12_readKey_26 rfl rfl ?_
      refine sv_lload hM dX12_readKey_28 rfl rfl ?_
      refine sv_ldc2_w (d := (-1 : Int)) hM dX12_readKey_30 sm_ck_1110 rfl rfl ?_
      refine sv_anyL hM dX12_readKey_33 rfl rfl (fun r137 hr137 er137 => ?_)
      have er137v : (sm_lxor l13_5 (-1 : Int)) = r137 := er137
      have k138 : sv_RL (sm_lxor l13_5 (-1 : Int)) := er137v.symm ▸ hr137
      rw [← er137v]
      have h := h k138
      refine sv_anyL hM dX12_readKey_34 rfl rfl (fun r139 hr139 er139 => ?_)
      have er139v : (sm_land l9_3 (sm_lxor l13_5 (-1 : Int))) = r139 := er139
      have k140 : sv_RL (sm_land l9_3 (sm_lxor l13_5 (-1 : Int))) := er139v.symm ▸ hr139
      rw [← er139v]
      have h := h k140
      refine sv_lconst (d := (0 : Int)) hM dX12_readKey_35 rfl rfl ?_
      refine sv_lcmp hM dX12_readKey_36 k140 (⟨by decide, by decide⟩ : sv_RL (0 : Int)) rfl ?_
      refine sv_cond_eq hM dX12_readKey_37 sv_Rcmp (t := 209) rfl rfl (fun hc => ?_) (fun hc => ?_)
      · have h := h.1 ((sv_cmp_eq).mp hc)
        refine sv_aload_n hM dX12_readKey_209 rfl rfl ?_
        refine sv_iload hM dX12_readKey_210 rfl rfl ?_
        refine sv_aload_n hM dX12_readKey_212 rfl rfl ?_
        refine sv_iload hM dX12_readKey_213 rfl rfl ?_
        obtain ⟨o141, h⟩ := h
        refine sv_callV hM dX12_readKey_215 sm_iv_1059 (by decide) (sm_a0 _) rfl rfl (Nat.le_of_ble_eq_true rfl) sm_h210 (Nat.le_of_ble_eq_true rfl) (Nat.le_of_ble_eq_true rfl) (F' := 1) (Nat.le_of_ble_eq_true rfl) rfl (t_plainly p6 (sv_sts S [68, 69, 70, 1145] g1) ok8 hp6 o141) (fun v S1 hq => ?_)
        obtain ⟨r146, rfl, hr146, ok143, md144, hpo145⟩ := hq
        obtain rfl : (sv_sts S [68, 69, 70, 1145] g1) = S1 := (funext fun j => md144 j (by intro q; cases q)).symm
        show sv_T sm_XS sm_cs sm_L sm_sh 2 (q_readKey p1 p3 p5 p6 S) 250 218 [(0, .ref 0), (1, sv_L p1), (3, sv_L p3), (5, sv_I p5), (6, sv_I p6), (7, sv_L l7_2), (9, sv_L l9_3), (11, sv_L l11_4), (13, sv_L l13_5)] [sv_I r146, sv_I p6, .ref 0] (sv_sts S [68, 69, 70, 1145] g1)
        have h := h r146 hr146 hpo145
        refine sv_aload_n hM dX12_readKey_218 rfl rfl ?_
        refine sv_iload hM dX12_readKey_219 rfl rfl ?_
        refine sv_callV hM dX12_readKey_221 sm_iv_1053 (by decide) (sm_a0 _) rfl rfl (Nat.le_of_ble_eq_true rfl) sm_h203 (Nat.le_of_ble_eq_true rfl) (Nat.le_of_ble_eq_true rfl) (F' := 0) (Nat.le_of_ble_eq_true rfl) rfl (t_name p6 (sv_sts S [68, 69, 70, 1145] g1) ok143 hp6 o141) (fun v S1 hq => ?_)
        obtain ⟨r151, rfl, hr151, ok148, md149, hpo150⟩ := hq
        obtain rfl : (sv_sts S [68, 69, 70, 1145] g1) = S1 := (funext fun j => md149 j (by intro q; cases q)).symm
        show sv_T sm_XS sm_cs sm_L sm_sh 2 (q_readKey p1 p3 p5 p6 S) 250 224 [(0, .ref 0), (1, sv_L p1), (3, sv_L p3), (5, sv_I p5), (6, sv_I p6), (7, sv_L l7_2), (9, sv_L l9_3), (11, sv_L l11_4), (13, sv_L l13_5)] [sv_I r151, sv_I r146, sv_I p6, .ref 0] (sv_sts S [68, 69, 70, 1145] g1)
        have h := h r151 hr151 hpo150
        refine sv_aload_n hM dX12_readKey_224 rfl rfl ?_
        refine sv_iload hM dX12_readKey_225 rfl rfl ?_
        refine sv_callV hM dX12_readKey_227 sm_iv_1050 (by decide) (sm_a0 _) rfl rfl (Nat.le_of_ble_eq_true rfl) sm_h204 (Nat.le_of_ble_eq_true rfl) (Nat.le_of_ble_eq_true rfl) (F' := 0) (Nat.le_of_ble_eq_true rfl) rfl (t_number p6 (sv_sts S [68, 69, 70, 1145] g1) ok148 hp6 o141) (fun v S1 hq => ?_)
        obtain ⟨r156, rfl, hr156, ok153, md154, hpo155⟩ := hq
        obtain rfl : (sv_sts S [68, 69, 70, 1145] g1) = S1 := (funext fun j => md154 j (by intro q; cases q)).symm
        show sv_T sm_XS sm_cs sm_L sm_sh 2 (q_readKey p1 p3 p5 p6 S) 250 230 [(0, .ref 0), (1, sv_L p1), (3, sv_L p3), (5, sv_I p5), (6, sv_I p6), (7, sv_L l7_2), (9, sv_L l9_3), (11, sv_L l11_4), (13, sv_L l13_5)] [sv_I r156, sv_I r151, sv_I r146, sv_I p6, .ref 0] (sv_sts S [68, 69, 70, 1145] g1)
        have h := h r156 hr156 hpo155
        refine sv_callV hM dX12_readKey_230 sm_iv_1056 (by decide) (sm_a0 _) rfl rfl (Nat.le_of_ble_eq_true rfl) sm_h205 (Nat.le_of_ble_eq_true rfl) (Nat.le_of_ble_eq_true rfl) (F' := 0) (Nat.le_of_ble_eq_true rfl) rfl (t_write p6 r146 r151 r156 (sv_sts S [68, 69, 70, 1145] g1) ok153 hp6 hr146 hr151 hr156 o141) (fun v S1 hq => ?_)
        obtain ⟨rfl, ok158, md159, hpo160⟩ := hq
        obtain ⟨g157, rfl⟩ : ∃ g, S1 = sv_sts (sv_sts S [68, 69, 70, 1145] g1) [68] g := ⟨_, md159.eq⟩
        show sv_T sm_XS sm_cs sm_L sm_sh 2 (q_readKey p1 p3 p5 p6 S) 250 233 [(0, .ref 0), (1, sv_L p1), (3, sv_L p3), (5, sv_I p5), (6, sv_I p6), (7, sv_L l7_2), (9, sv_L l9_3), (11, sv_L l11_4), (13, sv_L l13_5)] [] (sv_sts (sv_sts S [68, 69, 70, 1145] g1) [68] g157)
        have md161 : sv_mod [68, 69, 70, 1145] S (sv_sts (sv_sts S [68, 69, 70, 1145] g1) [68] g157) := sv_mod.sts md9 (by decide)
        have md162 : sv_mod [68, 69, 70, 1145] S (sv_sts (sv_sts S [68, 69, 70, 1145] g1) [68] g157) := sv_mod.sts md10 (by decide)
        have h := h g157 hpo160
        exact sv_vret hM dX12_readKey_233 rfl ⟨rfl, ok158, md161, h⟩
      · have h := h.2 (fun q => hc ((sv_cmp_eq).mpr q))
        have k163 : (¬ (sm_land l7_2 (sm_lxor l11_4 (-1))) = 0 ∨ ¬ (sm_land l9_3 (sm_lxor l13_5 (-1))) = 0 → 0 ≤ (sm_fst (sm_land l7_2 (sm_lxor l11_4 (-1))) (sm_land l9_3 (sm_lxor l13_5 (-1)))) ∧ (sm_fst (sm_land l7_2 (sm_lxor l11_4 (-1))) (sm_land l9_3 (sm_lxor l13_5 (-1)))) < 128 ∧ sm_in (sm_land l7_2 (sm_lxor l11_4 (-1))) (sm_land l9_3 (sm_lxor l13_5 (-1))) (sm_fst (sm_land l7_2 (sm_lxor l11_4 (-1))) (sm_land l9_3 (sm_lxor l13_5 (-1)))) = 1) := sm_fst_q
        have h := h k163
        refine sv_iconst (d := (0 : Int)) hM dX12_readKey_40 rfl rfl ?_
        refine sv_istore hM dX12_readKey_41 (by decide) rfl ?_
        show sv_T sm_XS sm_cs sm_L sm_sh 2 (q_readKey p1 p3 p5 p6 S) 250 43 [(0, .ref 0), (1, sv_L p1), (3, sv_L p3), (5, sv_I p5), (6, sv_I p6), (7, sv_L l7_2), (9, sv_L l9_3), (11, sv_L l11_4), (13, sv_L l13_5), (15, sv_I (0 : Int))] [] (sv_sts S [68, 69, 70, 1145] g1)
        obtain ⟨hin166, h⟩ := h
        have hJ : ∀ a : Int × Unit, (sv_R a.1 ∧ sm_ok (sv_sts S [68, 69, 70, 1145] g1) ∧ (0 ≤ a.1 ∧ a.1 ≤ (sm_fst (sm_land l7_2 (sm_lxor l11_4 (-1))) (sm_land l9_3 (sm_lxor l13_5 (-1)))) ∧ 0 ≤ (sm_fst (sm_land l7_2 (sm_lxor l11_4 (-1))) (sm_land l9_3 (sm_lxor l13_5 (-1)))) ∧ (sm_fst (sm_land l7_2 (sm_lxor l11_4 (-1))) (sm_land l9_3 (sm_lxor l13_5 (-1)))) < 128 ∧ sm_in (sm_land l7_2 (sm_lxor l11_4 (-1))) (sm_land l9_3 (sm_lxor l13_5 (-1))) (sm_fst (sm_land l7_2 (sm_lxor l11_4 (-1))) (sm_land l9_3 (sm_lxor l13_5 (-1)))) = 1)) → sv_T sm_XS sm_cs sm_L sm_sh 2 (q_readKey p1 p3 p5 p6 S) 250 43 [(0, .ref 0), (1, sv_L p1), (3, sv_L p3), (5, sv_I p5), (6, sv_I p6), (7, sv_L l7_2), (9, sv_L l9_3), (11, sv_L l11_4), (13, sv_L l13_5), (15, sv_I a.1)] [] (sv_sts S [68, 69, 70, 1145] g1) := by
          refine sv_loop (α := Int × Unit) (fun a => sv_R a.1 ∧ sm_ok (sv_sts S [68, 69, 70, 1145] g1) ∧ (0 ≤ a.1 ∧ a.1 ≤ (sm_fst (sm_land l7_2 (sm_lxor l11_4 (-1))) (sm_land l9_3 (sm_lxor l13_5 (-1)))) ∧ 0 ≤ (sm_fst (sm_land l7_2 (sm_lxor l11_4 (-1))) (sm_land l9_3 (sm_lxor l13_5 (-1)))) ∧ (sm_fst (sm_land l7_2 (sm_lxor l11_4 (-1))) (sm_land l9_3 (sm_lxor l13_5 (-1)))) < 128 ∧ sm_in (sm_land l7_2 (sm_lxor l11_4 (-1))) (sm_land l9_3 (sm_lxor l13_5 (-1))) (sm_fst (sm_land l7_2 (sm_lxor l11_4 (-1))) (sm_land l9_3 (sm_lxor l13_5 (-1)))) = 1)) (fun a => 128 - a.1) (fun a => sv_T sm_XS sm_cs sm_L sm_sh 2 (q_readKey p1 p3 p5 p6 S) 250 43 [(0, .ref 0), (1, sv_L p1), (3, sv_L p3), (5, sv_I p5), (6, sv_I p6), (7, sv_L l7_2), (9, sv_L l9_3), (11, sv_L l11_4), (13, sv_L l13_5), (15, sv_I a.1)] [] (sv_sts S [68, 69, 70, 1145] g1)) (fun a q => (h a.1 q.1 q.2.2).1) (fun a q ih165 => ?_)
          obtain ⟨l15_164, _u⟩ := a
          obtain ⟨hl15_164, ok167, hin166i⟩ := q
          have h := (h l15_164 hl15_164 hin166i).2
          show sv_T sm_XS sm_cs sm_L sm_sh 2 (q_readKey p1 p3 p5 p6 S) 250 43 [(0, .ref 0), (1, sv_L p1), (3, sv_L p3), (5, sv_I p5), (6, sv_I p6), (7, sv_L l7_2), (9, sv_L l9_3), (11, sv_L l11_4), (13, sv_L l13_5), (15, sv_I l15_164)] [] (sv_sts S [68, 69, 70, 1145] g1)
          refine sv_lload hM dX12_readKey_43 rfl rfl ?_
          refine sv_lload hM dX12_readKey_45 rfl rfl ?_
          refine sv_ldc2_w (d := (-1 : Int)) hM dX12_readKey_47 sm_ck_1110 rfl rfl ?_
          refine sv_anyL hM dX12_readKey_50 rfl rfl (fun r168 hr168 er168 => ?_)
          have er168v : (sm_lxor l11_4 (-1 : Int)) = r168 := er168
          have k169 : sv_RL (sm_lxor l11_4 (-1 : Int)) := er168v.symm ▸ hr168
          rw [← er168v]
          have h := h k169
          refine sv_anyL hM dX12_readKey_51 rfl rfl (fun r170 hr170 er170 => ?_)
          have er170v : (sm_land l7_2 (sm_lxor l11_4 (-1 : Int))) = r170 := er170
          have k171 : sv_RL (sm_land l7_2 (sm_lxor l11_4 (-1 : Int))) := er170v.symm ▸ hr170
          rw [← er170v]
          have h := h k171
          refine sv_lload hM dX12_readKey_52 rfl rfl ?_
          refine sv_lload hM dX12_readKey_54 rfl rfl ?_
          refine sv_ldc2_w (d := (-1 : Int)) hM dX12_readKey_56 sm_ck_1110 rfl rfl ?_
          refine sv_anyL hM dX12_readKey_59 rfl rfl (fun r172 hr172 er172 => ?_)
          have er172v : (sm_lxor l13_5 (-1 : Int)) = r172 := er172
          have k173 : sv_RL (sm_lxor l13_5 (-1 : Int)) := er172v.symm ▸ hr172
          rw [← er172v]
          have h := h k173
          refine sv_anyL hM dX12_readKey_60 rfl rfl (fun r174 hr174 er174 => ?_)
          have er174v : (sm_land l9_3 (sm_lxor l13_5 (-1 : Int))) = r174 := er174
          have k175 : sv_RL (sm_land l9_3 (sm_lxor l13_5 (-1 : Int))) := er174v.symm ▸ hr174
          rw [← er174v]
          have h := h k175
          refine sv_iload hM dX12_readKey_61 rfl rfl ?_
          obtain ⟨o176, h⟩ := h
          refine sv_callS hM dX12_readKey_63 sm_iv_1125 (Nat.le_of_ble_eq_true rfl) rfl rfl (Nat.le_of_ble_eq_true rfl) sm_h217 (Nat.le_of_ble_eq_true rfl) (Nat.le_of_ble_eq_true rfl) (F' := 0) (Nat.le_of_ble_eq_true rfl) rfl (t_isIn (sm_land l7_2 (sm_lxor l11_4 (-1 : Int))) (sm_land l9_3 (sm_lxor l13_5 (-1 : Int))) l15_164 (sv_sts S [68, 69, 70, 1145] g1) ok167 k171 k175 hl15_164 o176) (fun v S1 hq => ?_)
          obtain ⟨r181, rfl, hr181, ok178, md179, hpo180⟩ := hq
          obtain rfl : (sv_sts S [68, 69, 70, 1145] g1) = S1 := (funext fun j => md179 j (by intro q; cases q)).symm
          show sv_T sm_XS sm_cs sm_L sm_sh 2 (q_readKey p1 p3 p5 p6 S) 250 66 [(0, .ref 0), (1, sv_L p1), (3, sv_L p3), (5, sv_I p5), (6, sv_I p6), (7, sv_L l7_2), (9, sv_L l9_3), (11, sv_L l11_4), (13, sv_L l13_5), (15, sv_I l15_164)] [sv_I r181] (sv_sts S [68, 69, 70, 1145] g1)
          have h := h r181 hr181 hpo180
          refine sv_cond_ne hM dX12_readKey_66 hr181 (t := 75) rfl rfl (fun hc => ?_) (fun hc => ?_)
          · have h := h.1 (hc)
            have k182 : (sm_in (sm_land l7_2 (sm_lxor l11_4 (-1))) (sm_land l9_3 (sm_lxor l13_5 (-1))) l15_164 = 1 → 0 ≤ l15_164 → l15_164 < 128 → sv_RL l11_4 → sv_RL l13_5 → (l15_164 < 64 → sm_pc l11_4 + 1 ≤ sm_pc (sm_lor l11_4 (sm_shl 1 l15_164))) ∧ (¬ l15_164 < 64 → sm_pc l13_5 + 1 ≤ sm_pc (sm_lor l13_5 (sm_shl 1 (l15_164 - 64))))) := sm_dones
            have h := h k182
            refine sv_iload hM dX12_readKey_75 rfl rfl ?_
            refine sv_bipush (d := (64 : Int)) hM dX12_readKey_77 rfl rfl ?_
            refine sv_icmp_ge hM dX12_readKey_79 hl15_164 (⟨by decide, by decide⟩ : sv_R (64 : Int)) (t := 94) rfl rfl (fun hc => ?_) (fun hc => ?_)
            · have h := h.1 (hc)
              refine sv_lload hM dX12_readKey_94 rfl rfl ?_
              refine sv_lconst (d := (1 : Int)) hM dX12_readKey_96 rfl rfl ?_
              refine sv_iload hM dX12_readKey_97 rfl rfl ?_
              refine sv_bipush (d := (64 : Int)) hM dX12_readKey_99 rfl rfl ?_
              refine sv_isub hM dX12_readKey_101 rfl ?_
              refine sv_anyL hM dX12_readKey_102 rfl rfl (fun r183 hr183 er183 => ?_)
              have er183v : (sm_shl (1 : Int) (l15_164 - (64 : Int))) = r183 := er183
              have k184 : sv_RL (sm_shl (1 : Int) (l15_164 - (64 : Int))) := er183v.symm ▸ hr183
              rw [← er183v]
              have h := h k184
              refine sv_anyL hM dX12_readKey_103 rfl rfl (fun r185 hr185 er185 => ?_)
              have er185v : (sm_lor l13_5 (sm_shl (1 : Int) (l15_164 - (64 : Int)))) = r185 := er185
              have k186 : sv_RL (sm_lor l13_5 (sm_shl (1 : Int) (l15_164 - (64 : Int)))) := er185v.symm ▸ hr185
              rw [← er185v]
              have h := h k186
              obtain ⟨x187, e188⟩ : ∃ x : Int, (sm_lor l13_5 (sm_shl (1 : Int) (l15_164 - (64 : Int)))) = x := ⟨_, rfl⟩
              have h := h x187 e188
              have e188r : sv_RL x187 := e188 ▸ k186
              refine sv_nameL e188 ?_
              refine sv_lstore hM dX12_readKey_104 (by decide) rfl ?_
              show sv_T sm_XS sm_cs sm_L sm_sh 2 (q_readKey p1 p3 p5 p6 S) 250 106 [(0, .ref 0), (1, sv_L p1), (3, sv_L p3), (5, sv_I p5), (6, sv_I p6), (7, sv_L l7_2), (9, sv_L l9_3), (11, sv_L l11_4), (13, sv_L x187), (15, sv_I l15_164)] [] (sv_sts S [68, 69, 70, 1145] g1)
              refine sv_aload_n hM dX12_readKey_106 rfl rfl ?_
              refine sv_sipush (d := (639 : Int)) hM dX12_readKey_107 rfl rfl ?_
              refine sv_iload hM dX12_readKey_110 rfl rfl ?_
              refine sv_iload hM dX12_readKey_112 rfl rfl ?_
              obtain ⟨o189, h⟩ := h
              refine sv_callV hM dX12_readKey_114 sm_iv_1163 (by decide) (sm_a0 _) rfl rfl (Nat.le_of_ble_eq_true rfl) sm_h225 (Nat.le_of_ble_eq_true rfl) (Nat.le_of_ble_eq_true rfl) (F' := 1) (Nat.le_of_ble_eq_true rfl) rfl (t_field (639 : Int) l15_164 p5 (sv_sts S [68, 69, 70, 1145] g1) ok178 (⟨by decide, by decide⟩ : sv_R (639 : Int)) hl15_164 hp5 o189) (fun v S1 hq => ?_)
              obtain ⟨r194, rfl, hr194, ok191, md192, hpo193⟩ := hq
              obtain rfl : (sv_sts S [68, 69, 70, 1145] g1) = S1 := (funext fun j => md192 j (by intro q; cases q)).symm
              show sv_T sm_XS sm_cs sm_L sm_sh 2 (q_readKey p1 p3 p5 p6 S) 250 117 [(0, .ref 0), (1, sv_L p1), (3, sv_L p3), (5, sv_I p5), (6, sv_I p6), (7, sv_L l7_2), (9, sv_L l9_3), (11, sv_L l11_4), (13, sv_L x187), (15, sv_I l15_164)] [sv_I r194] (sv_sts S [68, 69, 70, 1145] g1)
              have h := h r194 hr194 hpo193
              refine sv_istore hM dX12_readKey_117 (by decide) rfl ?_
              show sv_T sm_XS sm_cs sm_L sm_sh 2 (q_readKey p1 p3 p5 p6 S) 250 119 [(0, .ref 0), (1, sv_L p1), (3, sv_L p3), (5, sv_I p5), (6, sv_I p6), (7, sv_L l7_2), (9, sv_L l9_3), (11, sv_L l11_4), (13, sv_L x187), (15, sv_I l15_164), (16, sv_I r194)] [] (sv_sts S [68, 69, 70, 1145] g1)
              refine sv_aload_n hM dX12_readKey_119 rfl rfl ?_
              refine sv_iload hM dX12_readKey_120 rfl rfl ?_
              refine sv_iload hM dX12_readKey_122 rfl rfl ?_
              obtain ⟨o195, h⟩ := h
              refine sv_callV hM dX12_readKey_124 sm_iv_1069 (by decide) (sm_a0 _) rfl rfl (Nat.le_of_ble_eq_true rfl) sm_h208 (Nat.le_of_ble_eq_true rfl) (Nat.le_of_ble_eq_true rfl) (F' := 1) (Nat.le_of_ble_eq_true rfl) rfl (t_join r194 p6 (sv_sts S [68, 69, 70, 1145] g1) ok191 hr194 hp6 o195) (fun v S1 hq => ?_)
              obtain ⟨r200, rfl, hr200, ok197, md198, hpo199⟩ := hq
              obtain ⟨g196, rfl⟩ : ∃ g, S1 = sv_sts (sv_sts S [68, 69, 70, 1145] g1) [68, 69, 70] g := ⟨_, md198.eq⟩
              show sv_T sm_XS sm_cs sm_L sm_sh 2 (q_readKey p1 p3 p5 p6 S) 250 127 [(0, .ref 0), (1, sv_L p1), (3, sv_L p3), (5, sv_I p5), (6, sv_I p6), (7, sv_L l7_2), (9, sv_L l9_3), (11, sv_L l11_4), (13, sv_L x187), (15, sv_I l15_164), (16, sv_I r194)] [sv_I r200] (sv_sts (sv_sts S [68, 69, 70, 1145] g1) [68, 69, 70] g196)
              have md201 : sv_mod [68, 69, 70, 1145] S (sv_sts (sv_sts S [68, 69, 70, 1145] g1) [68, 69, 70] g196) := sv_mod.sts md9 (by decide)
              have md202 : sv_mod [68, 69, 70, 1145] S (sv_sts (sv_sts S [68, 69, 70, 1145] g1) [68, 69, 70] g196) := sv_mod.sts md10 (by decide)
              have h := h r200 hr200 g196 hpo199
              refine sv_istore hM dX12_readKey_127 (by decide) rfl ?_
              show sv_T sm_XS sm_cs sm_L sm_sh 2 (q_readKey p1 p3 p5 p6 S) 250 129 [(0, .ref 0), (1, sv_L p1), (3, sv_L p3), (5, sv_I p5), (6, sv_I p6), (7, sv_L l7_2), (9, sv_L l9_3), (11, sv_L l11_4), (13, sv_L x187), (15, sv_I l15_164), (16, sv_I r194), (17, sv_I r200)] [] (sv_sts (sv_sts S [68, 69, 70, 1145] g1) [68, 69, 70] g196)
              refine sv_aload_n hM dX12_readKey_129 rfl rfl ?_
              refine sv_iload hM dX12_readKey_130 rfl rfl ?_
              obtain ⟨o203, h⟩ := h
              refine sv_callV hM dX12_readKey_132 sm_iv_1047 (by decide) (sm_a0 _) rfl rfl (Nat.le_of_ble_eq_true rfl) sm_h202 (Nat.le_of_ble_eq_true rfl) (Nat.le_of_ble_eq_true rfl) (F' := 0) (Nat.le_of_ble_eq_true rfl) rfl (t_has r194 (sv_sts (sv_sts S [68, 69, 70, 1145] g1) [68, 69, 70] g196) ok197 hr194 o203) (fun v S1 hq => ?_)
              obtain ⟨r208, rfl, hr208, ok205, md206, hpo207⟩ := hq
              obtain rfl : (sv_sts (sv_sts S [68, 69, 70, 1145] g1) [68, 69, 70] g196) = S1 := (funext fun j => md206 j (by intro q; cases q)).symm
              show sv_T sm_XS sm_cs sm_L sm_sh 2 (q_readKey p1 p3 p5 p6 S) 250 135 [(0, .ref 0), (1, sv_L p1), (3, sv_L p3), (5, sv_I p5), (6, sv_I p6), (7, sv_L l7_2), (9, sv_L l9_3), (11, sv_L l11_4), (13, sv_L x187), (15, sv_I l15_164), (16, sv_I r194), (17, sv_I r200)] [sv_I r208] (sv_sts (sv_sts S [68, 69, 70, 1145] g1) [68, 69, 70] g196)
              have h := h r208 hr208 hpo207
              refine sv_sipush (d := (512 : Int)) hM dX12_readKey_135 rfl rfl ?_
              refine sv_iand hM dX12_readKey_138 ⟨by decide, by decide⟩ rfl (fun r209 hr209 => ?_)
              have h := h r209 hr209
              refine sv_cond_ne hM dX12_readKey_139 (⟨by omega, by omega⟩ : sv_R r209) (t := 145) rfl rfl (fun hc => ?_) (fun hc => ?_)
              · have h := h.1 (hc)
                refine sv_aload_n hM dX12_readKey_145 rfl rfl ?_
                refine sv_sipush (d := (639 : Int)) hM dX12_readKey_146 rfl rfl ?_
                refine sv_iload hM dX12_readKey_149 rfl rfl ?_
                obtain ⟨o210, h⟩ := h
                refine sv_callV hM dX12_readKey_151 sm_iv_1101 (by decide) (sm_a0 _) rfl rfl (Nat.le_of_ble_eq_true rfl) sm_h226 (Nat.le_of_ble_eq_true rfl) (Nat.le_of_ble_eq_true rfl) (F' := 1) (Nat.le_of_ble_eq_true rfl) rfl (t_of (639 : Int) l15_164 (sv_sts (sv_sts S [68, 69, 70, 1145] g1) [68, 69, 70] g196) ok205 (⟨by decide, by decide⟩ : sv_R (639 : Int)) hl15_164 o210) (fun v S1 hq => ?_)
                obtain ⟨r215, rfl, hr215, ok212, md213, hpo214⟩ := hq
                obtain rfl : (sv_sts (sv_sts S [68, 69, 70, 1145] g1) [68, 69, 70] g196) = S1 := (funext fun j => md213 j (by intro q; cases q)).symm
                show sv_T sm_XS sm_cs sm_L sm_sh 2 (q_readKey p1 p3 p5 p6 S) 250 154 [(0, .ref 0), (1, sv_L p1), (3, sv_L p3), (5, sv_I p5), (6, sv_I p6), (7, sv_L l7_2), (9, sv_L l9_3), (11, sv_L l11_4), (13, sv_L x187), (15, sv_I l15_164), (16, sv_I r194), (17, sv_I r200)] [sv_I r215] (sv_sts (sv_sts S [68, 69, 70, 1145] g1) [68, 69, 70] g196)
                have h := h r215 hr215 hpo214
                refine sv_istore hM dX12_readKey_154 (by decide) rfl ?_
                show sv_T sm_XS sm_cs sm_L sm_sh 2 (q_readKey p1 p3 p5 p6 S) 250 156 [(0, .ref 0), (1, sv_L p1), (3, sv_L p3), (5, sv_I p5), (6, sv_I p6), (7, sv_L l7_2), (9, sv_L l9_3), (11, sv_L l11_4), (13, sv_L x187), (15, sv_I l15_164), (16, sv_I r194), (17, sv_I r200), (18, sv_I r215)] [] (sv_sts (sv_sts S [68, 69, 70, 1145] g1) [68, 69, 70] g196)
                refine sv_lload hM dX12_readKey_156 rfl rfl ?_
                refine sv_aload_n hM dX12_readKey_158 rfl rfl ?_
                refine sv_getA hM dX12_readKey_159 sm_fl_262 (sm_a0 _) sm_k135 rfl ?_
                refine sv_iload hM dX12_readKey_162 rfl rfl ?_
                obtain ⟨o216, h⟩ := h
                have k217 : sv_RL (S 83 r215) := sm_okJ ok212 sm_r83 r215
                have h := h k217
                refine sv_lald hM dX12_readKey_164 (sm_a83 _) (by decide) o216.1 o216.2 rfl (x := (S 83 r215)) rfl ?_
                refine sv_anyL hM dX12_readKey_165 rfl rfl (fun r218 hr218 _ => ?_)
                have h := h r218 hr218
                refine sv_lstore hM dX12_readKey_166 (by decide) rfl ?_
                show sv_T sm_XS sm_cs sm_L sm_sh 2 (q_readKey p1 p3 p5 p6 S) 250 168 [(0, .ref 0), (1, sv_L p1), (3, sv_L p3), (5, sv_I p5), (6, sv_I p6), (7, sv_L r218), (9, sv_L l9_3), (11, sv_L l11_4), (13, sv_L x187), (15, sv_I l15_164), (16, sv_I r194), (17, sv_I r200), (18, sv_I r215)] [] (sv_sts (sv_sts S [68, 69, 70, 1145] g1) [68, 69, 70] g196)
                refine sv_lload hM dX12_readKey_168 rfl rfl ?_
                refine sv_aload_n hM dX12_readKey_170 rfl rfl ?_
                refine sv_getA hM dX12_readKey_171 sm_fl_265 (sm_a0 _) sm_k136 rfl ?_
                refine sv_iload hM dX12_readKey_174 rfl rfl ?_
                have k219 : sv_RL (S 84 r215) := sm_okJ ok212 sm_r84 r215
                have h := h k219
                refine sv_lald hM dX12_readKey_176 (sm_a84 _) (by decide) o216.1 o216.2 rfl (x := (S 84 r215)) rfl ?_
                refine sv_anyL hM dX12_readKey_177 rfl rfl (fun r220 hr220 _ => ?_)
                have h := h r220 hr220
                refine sv_lstore hM dX12_readKey_178 (by decide) rfl ?_
                show sv_T sm_XS sm_cs sm_L sm_sh 2 (q_readKey p1 p3 p5 p6 S) 250 180 [(0, .ref 0), (1, sv_L p1), (3, sv_L p3), (5, sv_I p5), (6, sv_I p6), (7, sv_L r218), (9, sv_L r220), (11, sv_L l11_4), (13, sv_L x187), (15, sv_I l15_164), (16, sv_I r194), (17, sv_I r200), (18, sv_I r215)] [] (sv_sts (sv_sts S [68, 69, 70, 1145] g1) [68, 69, 70] g196)
                refine sv_aload_n hM dX12_readKey_180 rfl rfl ?_
                refine sv_aload_n hM dX12_readKey_181 rfl rfl ?_
                have k221 : (0 ≤ (g1 1145 0) ∧ (g1 1145 0) ≤ 1) := sm_okZ ok212 sm_r1145 0
                have h := h k221
                refine sv_getI hM dX12_readKey_182 sm_fl_1156 (sm_a0 _) sm_k145 rfl (x := (g1 1145 0)) rfl ?_
                refine sv_cond_ne hM dX12_readKey_185 (sv_R01 k221) (t := 198) rfl rfl (fun hc => ?_) (fun hc => ?_)
                · have h := h.1 (hc)
                  refine sv_iconst (d := (1 : Int)) hM dX12_readKey_198 rfl rfl ?_
                  refine sv_goto hM dX12_readKey_199 (pc' := 203) rfl ?_
                  refine sv_putI sm_X hM dX12_readKey_203 sm_fp_1156 (sm_a0 _) sm_q145 (Or.inr rfl) rfl (sv_nz (⟨by decide, by decide⟩ : 0 ≤ (1 : Int) ∧ (1 : Int) ≤ 1)) (sv_fz (⟨by decide, by decide⟩ : 0 ≤ (1 : Int) ∧ (1 : Int) ≤ 1)) rfl ?_
                  have ok222 : sm_ok (sv_up (sv_sts (sv_sts S [68, 69, 70, 1145] g1) [68, 69, 70] g196) 1145 0 (1 : Int)) := sm_upZ ok212 sm_r1145 (⟨by decide, by decide⟩ : 0 ≤ (1 : Int) ∧ (1 : Int) ≤ 1)
                  have md223 : sv_mod [68, 69, 70, 1145] S (sv_up (sv_sts (sv_sts S [68, 69, 70, 1145] g1) [68, 69, 70] g196) 1145 0 (1 : Int)) := sv_mod.up md201 (by decide)
                  have md224 : sv_mod [68, 69, 70, 1145] S (sv_up (sv_sts (sv_sts S [68, 69, 70, 1145] g1) [68, 69, 70] g196) 1145 0 (1 : Int)) := sv_mod.up md202 (by decide)
                  refine sv_goto hM dX12_readKey_206 (pc' := 12) rfl ?_
                  have eS := sv_mod.eq md224
                  have hb := ih6 (r218, r220, l11_4, x187, (sv_up (sv_sts (sv_sts S [68, 69, 70, 1145] g1) [68, 69, 70] g196) 1145 0 (1 : Int))) ⟨hr218, hr220, hl11_4, e188r, (by rw [← eS]; exact ok222), h.1⟩ h.2
                  have hb : sv_T sm_XS sm_cs sm_L sm_sh 2 (q_readKey p1 p3 p5 p6 S) 250 12 [(0, .ref 0), (1, sv_L p1), (3, sv_L p3), (5, sv_I p5), (6, sv_I p6), (7, sv_L r218), (9, sv_L r220), (11, sv_L l11_4), (13, sv_L x187)] [] (sv_up (sv_sts (sv_sts S [68, 69, 70, 1145] g1) [68, 69, 70] g196) 1145 0 (1 : Int)) := Eq.mpr (congrArg (fun Z => sv_T sm_XS sm_cs sm_L sm_sh 2 (q_readKey p1 p3 p5 p6 S) 250 12 [(0, .ref 0), (1, sv_L p1), (3, sv_L p3), (5, sv_I p5), (6, sv_I p6), (7, sv_L r218), (9, sv_L r220), (11, sv_L l11_4), (13, sv_L x187)] [] Z) eS) hb
                  exact sv_less (lv := [(0, .ref 0), (1, sv_L p1), (3, sv_L p3), (5, sv_I p5), (6, sv_I p6), (7, sv_L r218), (9, sv_L r220), (11, sv_L l11_4), (13, sv_L x187)]) (sv_Sub_cons rfl (sv_Sub_cons rfl (sv_Sub_cons rfl (sv_Sub_cons rfl (sv_Sub_cons rfl (sv_Sub_cons rfl (sv_Sub_cons rfl (sv_Sub_cons rfl (sv_Sub_cons rfl sv_Sub_nil))))))))) hb
                · have h := h.2 (hc)
                  refine sv_aload_n hM dX12_readKey_188 rfl rfl ?_
                  refine sv_getA hM dX12_readKey_189 sm_fl_259 (sm_a0 _) sm_k134 rfl ?_
                  refine sv_iload hM dX12_readKey_192 rfl rfl ?_
                  have k225 : (0 ≤ (S 82 r215) ∧ (S 82 r215) ≤ 1) := sm_okZ ok212 sm_r82 r215
                  have h := h k225
                  refine sv_zald hM dX12_readKey_194 (sm_a82 _) (by decide) o216.1 o216.2 rfl (x := (S 82 r215)) rfl ?_
                  refine sv_cond_eq hM dX12_readKey_195 (sv_R01 k225) (t := 202) rfl rfl (fun hc => ?_) (fun hc => ?_)
                  · have h := h.1 (hc)
                    refine sv_iconst (d := (0 : Int)) hM dX12_readKey_202 rfl rfl ?_
                    refine sv_putI sm_X hM dX12_readKey_203 sm_fp_1156 (sm_a0 _) sm_q145 (Or.inr rfl) rfl (sv_nz (⟨by decide, by decide⟩ : 0 ≤ (0 : Int) ∧ (0 : Int) ≤ 1)) (sv_fz (⟨by decide, by decide⟩ : 0 ≤ (0 : Int) ∧ (0 : Int) ≤ 1)) rfl ?_
                    have ok226 : sm_ok (sv_up (sv_sts (sv_sts S [68, 69, 70, 1145] g1) [68, 69, 70] g196) 1145 0 (0 : Int)) := sm_upZ ok212 sm_r1145 (⟨by decide, by decide⟩ : 0 ≤ (0 : Int) ∧ (0 : Int) ≤ 1)
                    have md227 : sv_mod [68, 69, 70, 1145] S (sv_up (sv_sts (sv_sts S [68, 69, 70, 1145] g1) [68, 69, 70] g196) 1145 0 (0 : Int)) := sv_mod.up md201 (by decide)
                    have md228 : sv_mod [68, 69, 70, 1145] S (sv_up (sv_sts (sv_sts S [68, 69, 70, 1145] g1) [68, 69, 70] g196) 1145 0 (0 : Int)) := sv_mod.up md202 (by decide)
                    refine sv_goto hM dX12_readKey_206 (pc' := 12) rfl ?_
                    have eS := sv_mod.eq md228
                    have hb := ih6 (r218, r220, l11_4, x187, (sv_up (sv_sts (sv_sts S [68, 69, 70, 1145] g1) [68, 69, 70] g196) 1145 0 (0 : Int))) ⟨hr218, hr220, hl11_4, e188r, (by rw [← eS]; exact ok226), h.1⟩ h.2
                    have hb : sv_T sm_XS sm_cs sm_L sm_sh 2 (q_readKey p1 p3 p5 p6 S) 250 12 [(0, .ref 0), (1, sv_L p1), (3, sv_L p3), (5, sv_I p5), (6, sv_I p6), (7, sv_L r218), (9, sv_L r220), (11, sv_L l11_4), (13, sv_L x187)] [] (sv_up (sv_sts (sv_sts S [68, 69, 70, 1145] g1) [68, 69, 70] g196) 1145 0 (0 : Int)) := Eq.mpr (congrArg (fun Z => sv_T sm_XS sm_cs sm_L sm_sh 2 (q_readKey p1 p3 p5 p6 S) 250 12 [(0, .ref 0), (1, sv_L p1), (3, sv_L p3), (5, sv_I p5), (6, sv_I p6), (7, sv_L r218), (9, sv_L r220), (11, sv_L l11_4), (13, sv_L x187)] [] Z) eS) hb
                    exact sv_less (lv := [(0, .ref 0), (1, sv_L p1), (3, sv_L p3), (5, sv_I p5), (6, sv_I p6), (7, sv_L r218), (9, sv_L r220), (11, sv_L l11_4), (13, sv_L x187)]) (sv_Sub_cons rfl (sv_Sub_cons rfl (sv_Sub_cons rfl (sv_Sub_cons rfl (sv_Sub_cons rfl (sv_Sub_cons rfl (sv_Sub_cons rfl (sv_Sub_cons rfl (sv_Sub_cons rfl sv_Sub_nil))))))))) hb
                  · have h := h.2 (hc)
                    refine sv_iconst (d := (1 : Int)) hM dX12_readKey_198 rfl rfl ?_
                    refine sv_goto hM dX12_readKey_199 (pc' := 203) rfl ?_
                    refine sv_putI sm_X hM dX12_readKey_203 sm_fp_1156 (sm_a0 _) sm_q145 (Or.inr rfl) rfl (sv_nz (⟨by decide, by decide⟩ : 0 ≤ (1 : Int) ∧ (1 : Int) ≤ 1)) (sv_fz (⟨by decide, by decide⟩ : 0 ≤ (1 : Int) ∧ (1 : Int) ≤ 1)) rfl ?_
                    have ok229 : sm_ok (sv_up (sv_sts (sv_sts S [68, 69, 70, 1145] g1) [68, 69, 70] g196) 1145 0 (1 : Int)) := sm_upZ ok212 sm_r1145 (⟨by decide, by decide⟩ : 0 ≤ (1 : Int) ∧ (1 : Int) ≤ 1)
                    have md230 : sv_mod [68, 69, 70, 1145] S (sv_up (sv_sts (sv_sts S [68, 69, 70, 1145] g1) [68, 69, 70] g196) 1145 0 (1 : Int)) := sv_mod.up md201 (by decide)
                    have md231 : sv_mod [68, 69, 70, 1145] S (sv_up (sv_sts (sv_sts S [68, 69, 70, 1145] g1) [68, 69, 70] g196) 1145 0 (1 : Int)) := sv_mod.up md202 (by decide)
                    refine sv_goto hM dX12_readKey_206 (pc' := 12) rfl ?_
                    have eS := sv_mod.eq md231
                    have hb := ih6 (r218, r220, l11_4, x187, (sv_up (sv_sts (sv_sts S [68, 69, 70, 1145] g1) [68, 69, 70] g196) 1145 0 (1 : Int))) ⟨hr218, hr220, hl11_4, e188r, (by rw [← eS]; exact ok229), h.1⟩ h.2
                    have hb : sv_T sm_XS sm_cs sm_L sm_sh 2 (q_readKey p1 p3 p5 p6 S) 250 12 [(0, .ref 0), (1, sv_L p1), (3, sv_L p3), (5, sv_I p5), (6, sv_I p6), (7, sv_L r218), (9, sv_L r220), (11, sv_L l11_4), (13, sv_L x187)] [] (sv_up (sv_sts (sv_sts S [68, 69, 70, 1145] g1) [68, 69, 70] g196) 1145 0 (1 : Int)) := Eq.mpr (congrArg (fun Z => sv_T sm_XS sm_cs sm_L sm_sh 2 (q_readKey p1 p3 p5 p6 S) 250 12 [(0, .ref 0), (1, sv_L p1), (3, sv_L p3), (5, sv_I p5), (6, sv_I p6), (7, sv_L r218), (9, sv_L r220), (11, sv_L l11_4), (13, sv_L x187)] [] Z) eS) hb
                    exact sv_less (lv := [(0, .ref 0), (1, sv_L p1), (3, sv_L p3), (5, sv_I p5), (6, sv_I p6), (7, sv_L r218), (9, sv_L r220), (11, sv_L l11_4), (13, sv_L x187)]) (sv_Sub_cons rfl (sv_Sub_cons rfl (sv_Sub_cons rfl (sv_Sub_cons rfl (sv_Sub_cons rfl (sv_Sub_cons rfl (sv_Sub_cons rfl (sv_Sub_cons rfl (sv_Sub_cons rfl sv_Sub_nil))))))))) hb
              · have h := h.2 (hc)
                refine sv_goto hM dX12_readKey_142 (pc' := 12) rfl ?_
                have eS := sv_mod.eq md202
                have hb := ih6 (l7_2, l9_3, l11_4, x187, (sv_sts (sv_sts S [68, 69, 70, 1145] g1) [68, 69, 70] g196)) ⟨hl7_2, hl9_3, hl11_4, e188r, (by rw [← eS]; exact ok205), h.1⟩ h.2
                have hb : sv_T sm_XS sm_cs sm_L sm_sh 2 (q_readKey p1 p3 p5 p6 S) 250 12 [(0, .ref 0), (1, sv_L p1), (3, sv_L p3), (5, sv_I p5), (6, sv_I p6), (7, sv_L l7_2), (9, sv_L l9_3), (11, sv_L l11_4), (13, sv_L x187)] [] (sv_sts (sv_sts S [68, 69, 70, 1145] g1) [68, 69, 70] g196) := Eq.mpr (congrArg (fun Z => sv_T sm_XS sm_cs sm_L sm_sh 2 (q_readKey p1 p3 p5 p6 S) 250 12 [(0, .ref 0), (1, sv_L p1), (3, sv_L p3), (5, sv_I p5), (6, sv_I p6), (7, sv_L l7_2), (9, sv_L l9_3), (11, sv_L l11_4), (13, sv_L x187)] [] Z) eS) hb
                exact sv_less (lv := [(0, .ref 0), (1, sv_L p1), (3, sv_L p3), (5, sv_I p5), (6, sv_I p6), (7, sv_L l7_2), (9, sv_L l9_3), (11, sv_L l11_4), (13, sv_L x187)]) (sv_Sub_cons rfl (sv_Sub_cons rfl (sv_Sub_cons rfl (sv_Sub_cons rfl (sv_Sub_cons rfl (sv_Sub_cons rfl (sv_Sub_cons rfl (sv_Sub_cons rfl (sv_Sub_cons rfl sv_Sub_nil))))))))) hb
            · have h := h.2 (hc)
              refine sv_lload hM dX12_readKey_82 rfl rfl ?_
              refine sv_lconst (d := (1 : Int)) hM dX12_readKey_84 rfl rfl ?_
              refine sv_iload hM dX12_readKey_85 rfl rfl ?_
              refine sv_anyL hM dX12_readKey_87 rfl rfl (fun r232 hr232 er232 => ?_)
              have er232v : (sm_shl (1 : Int) l15_164) = r232 := er232
              have k233 : sv_RL (sm_shl (1 : Int) l15_164) := er232v.symm ▸ hr232
              rw [← er232v]
              have h := h k233
              refine sv_anyL hM dX12_readKey_88 rfl rfl (fun r234 hr234 er234 => ?_)
              have er234v : (sm_lor l11_4 (sm_shl (1 : Int) l15_164)) = r234 := er234
              have k235 : sv_RL (sm_lor l11_4 (sm_shl (1 : Int) l15_164)) := er234v.symm ▸ hr234
              rw [← er234v]
              have h := h k235
              obtain ⟨x236, e237⟩ : ∃ x : Int, (sm_lor l11_4 (sm_shl (1 : Int) l15_164)) = x := ⟨_, rfl⟩
              have h := h x236 e237
              have e237r : sv_RL x236 := e237 ▸ k235
              refine sv_nameL e237 ?_
              refine sv_lstore hM dX12_readKey_89 (by decide) rfl ?_
              show sv_T sm_XS sm_cs sm_L sm_sh 2 (q_readKey p1 p3 p5 p6 S) 250 91 [(0, .ref 0), (1, sv_L p1), (3, sv_L p3), (5, sv_I p5), (6, sv_I p6), (7, sv_L l7_2), (9, sv_L l9_3), (11, sv_L x236), (13, sv_L l13_5), (15, sv_I l15_164)] [] (sv_sts S [68, 69, 70, 1145] g1)
              refine sv_goto hM dX12_readKey_91 (pc' := 106) rfl ?_
              refine sv_aload_n hM dX12_readKey_106 rfl rfl ?_
              refine sv_sipush (d := (639 : Int)) hM dX12_readKey_107 rfl rfl ?_
              refine sv_iload hM dX12_readKey_110 rfl rfl ?_
              refine sv_iload hM dX12_readKey_112 rfl rfl ?_
              obtain ⟨o238, h⟩ := h
              refine sv_callV hM dX12_readKey_114 sm_iv_1163 (by decide) (sm_a0 _) rfl rfl (Nat.le_of_ble_eq_true rfl) sm_h225 (Nat.le_of_ble_eq_true rfl) (Nat.le_of_ble_eq_true rfl) (F' := 1) (Nat.le_of_ble_eq_true rfl) rfl (t_field (639 : Int) l15_164 p5 (sv_sts S [68, 69, 70, 1145] g1) ok178 (⟨by decide, by decide⟩ : sv_R (639 : Int)) hl15_164 hp5 o238) (fun v S1 hq => ?_)
              obtain ⟨r243, rfl, hr243, ok240, md241, hpo242⟩ := hq
              obtain rfl : (sv_sts S [68, 69, 70, 1145] g1) = S1 := (funext fun j => md241 j (by intro q; cases q)).symm
              show sv_T sm_XS sm_cs sm_L sm_sh 2 (q_readKey p1 p3 p5 p6 S) 250 117 [(0, .ref 0), (1, sv_L p1), (3, sv_L p3), (5, sv_I p5), (6, sv_I p6), (7, sv_L l7_2), (9, sv_L l9_3), (11, sv_L x236), (13, sv_L l13_5), (15, sv_I l15_164)] [sv_I r243] (sv_sts S [68, 69, 70, 1145] g1)
              have h := h r243 hr243 hpo242
              refine sv_istore hM dX12_readKey_117 (by decide) rfl ?_
              show sv_T sm_XS sm_cs sm_L sm_sh 2 (q_readKey p1 p3 p5 p6 S) 250 119 [(0, .ref 0), (1, sv_L p1), (3, sv_L p3), (5, sv_I p5), (6, sv_I p6), (7, sv_L l7_2), (9, sv_L l9_3), (11, sv_L x236), (13, sv_L l13_5), (15, sv_I l15_164), (16, sv_I r243)] [] (sv_sts S [68, 69, 70, 1145] g1)
              refine sv_aload_n hM dX12_readKey_119 rfl rfl ?_
              refine sv_iload hM dX12_readKey_120 rfl rfl ?_
              refine sv_iload hM dX12_readKey_122 rfl rfl ?_
              obtain ⟨o244, h⟩ := h
              refine sv_callV hM dX12_readKey_124 sm_iv_1069 (by decide) (sm_a0 _) rfl rfl (Nat.le_of_ble_eq_true rfl) sm_h208 (Nat.le_of_ble_eq_true rfl) (Nat.le_of_ble_eq_true rfl) (F' := 1) (Nat.le_of_ble_eq_true rfl) rfl (t_join r243 p6 (sv_sts S [68, 69, 70, 1145] g1) ok240 hr243 hp6 o244) (fun v S1 hq => ?_)
              obtain ⟨r249, rfl, hr249, ok246, md247, hpo248⟩ := hq
              obtain ⟨g245, rfl⟩ : ∃ g, S1 = sv_sts (sv_sts S [68, 69, 70, 1145] g1) [68, 69, 70] g := ⟨_, md247.eq⟩
              show sv_T sm_XS sm_cs sm_L sm_sh 2 (q_readKey p1 p3 p5 p6 S) 250 127 [(0, .ref 0), (1, sv_L p1), (3, sv_L p3), (5, sv_I p5), (6, sv_I p6), (7, sv_L l7_2), (9, sv_L l9_3), (11, sv_L x236), (13, sv_L l13_5), (15, sv_I l15_164), (16, sv_I r243)] [sv_I r249] (sv_sts (sv_sts S [68, 69, 70, 1145] g1) [68, 69, 70] g245)
              have md250 : sv_mod [68, 69, 70, 1145] S (sv_sts (sv_sts S [68, 69, 70, 1145] g1) [68, 69, 70] g245) := sv_mod.sts md9 (by decide)
              have md251 : sv_mod [68, 69, 70, 1145] S (sv_sts (sv_sts S [68, 69, 70, 1145] g1) [68, 69, 70] g245) := sv_mod.sts md10 (by decide)
              have h := h r249 hr249 g245 hpo248
              refine sv_istore hM dX12_readKey_127 (by decide) rfl ?_
              show sv_T sm_XS sm_cs sm_L sm_sh 2 (q_readKey p1 p3 p5 p6 S) 250 129 [(0, .ref 0), (1, sv_L p1), (3, sv_L p3), (5, sv_I p5), (6, sv_I p6), (7, sv_L l7_2), (9, sv_L l9_3), (11, sv_L x236), (13, sv_L l13_5), (15, sv_I l15_164), (16, sv_I r243), (17, sv_I r249)] [] (sv_sts (sv_sts S [68, 69, 70, 1145] g1) [68, 69, 70] g245)
              refine sv_aload_n hM dX12_readKey_129 rfl rfl ?_
              refine sv_iload hM dX12_readKey_130 rfl rfl ?_
              obtain ⟨o252, h⟩ := h
              refine sv_callV hM dX12_readKey_132 sm_iv_1047 (by decide) (sm_a0 _) rfl rfl (Nat.le_of_ble_eq_true rfl) sm_h202 (Nat.le_of_ble_eq_true rfl) (Nat.le_of_ble_eq_true rfl) (F' := 0) (Nat.le_of_ble_eq_true rfl) rfl (t_has r243 (sv_sts (sv_sts S [68, 69, 70, 1145] g1) [68, 69, 70] g245) ok246 hr243 o252) (fun v S1 hq => ?_)
              obtain ⟨r257, rfl, hr257, ok254, md255, hpo256⟩ := hq
              obtain rfl : (sv_sts (sv_sts S [68, 69, 70, 1145] g1) [68, 69, 70] g245) = S1 := (funext fun j => md255 j (by intro q; cases q)).symm
              show sv_T sm_XS sm_cs sm_L sm_sh 2 (q_readKey p1 p3 p5 p6 S) 250 135 [(0, .ref 0), (1, sv_L p1), (3, sv_L p3), (5, sv_I p5), (6, sv_I p6), (7, sv_L l7_2), (9, sv_L l9_3), (11, sv_L x236), (13, sv_L l13_5), (15, sv_I l15_164), (16, sv_I r243), (17, sv_I r249)] [sv_I r257] (sv_sts (sv_sts S [68, 69, 70, 1145] g1) [68, 69, 70] g245)
              have h := h r257 hr257 hpo256
              refine sv_sipush (d := (512 : Int)) hM dX12_readKey_135 rfl rfl ?_
              refine sv_iand hM dX12_readKey_138 ⟨by decide, by decide⟩ rfl (fun r258 hr258 => ?_)
              have h := h r258 hr258
              refine sv_cond_ne hM dX12_readKey_139 (⟨by omega, by omega⟩ : sv_R r258) (t := 145) rfl rfl (fun hc => ?_) (fun hc => ?_)
              · have h := h.1 (hc)
                refine sv_aload_n hM dX12_readKey_145 rfl rfl ?_
                refine sv_sipush (d := (639 : Int)) hM dX12_readKey_146 rfl rfl ?_
                refine sv_iload hM dX12_readKey_149 rfl rfl ?_
                obtain ⟨o259, h⟩ := h
                refine sv_callV hM dX12_readKey_151 sm_iv_1101 (by decide) (sm_a0 _) rfl rfl (Nat.le_of_ble_eq_true rfl) sm_h226 (Nat.le_of_ble_eq_true rfl) (Nat.le_of_ble_eq_true rfl) (F' := 1) (Nat.le_of_ble_eq_true rfl) rfl (t_of (639 : Int) l15_164 (sv_sts (sv_sts S [68, 69, 70, 1145] g1) [68, 69, 70] g245) ok254 (⟨by decide, by decide⟩ : sv_R (639 : Int)) hl15_164 o259) (fun v S1 hq => ?_)
                obtain ⟨r264, rfl, hr264, ok261, md262, hpo263⟩ := hq
                obtain rfl : (sv_sts (sv_sts S [68, 69, 70, 1145] g1) [68, 69, 70] g245) = S1 := (funext fun j => md262 j (by intro q; cases q)).symm
                show sv_T sm_XS sm_cs sm_L sm_sh 2 (q_readKey p1 p3 p5 p6 S) 250 154 [(0, .ref 0), (1, sv_L p1), (3, sv_L p3), (5, sv_I p5), (6, sv_I p6), (7, sv_L l7_2), (9, sv_L l9_3), (11, sv_L x236), (13, sv_L l13_5), (15, sv_I l15_164), (16, sv_I r243), (17, sv_I r249)] [sv_I r264] (sv_sts (sv_sts S [68, 69, 70, 1145] g1) [68, 69, 70] g245)
                have h := h r264 hr264 hpo263
                refine sv_istore hM dX12_readKey_154 (by decide) rfl ?_
                show sv_T sm_XS sm_cs sm_L sm_sh 2 (q_readKey p1 p3 p5 p6 S) 250 156 [(0, .ref 0), (1, sv_L p1), (3, sv_L p3), (5, sv_I p5), (6, sv_I p6), (7, sv_L l7_2), (9, sv_L l9_3), (11, sv_L x236), (13, sv_L l13_5), (15, sv_I l15_164), (16, sv_I r243), (17, sv_I r249), (18, sv_I r264)] [] (sv_sts (sv_sts S [68, 69, 70, 1145] g1) [68, 69, 70] g245)
                refine sv_lload hM dX12_readKey_156 rfl rfl ?_
                refine sv_aload_n hM dX12_readKey_158 rfl rfl ?_
                refine sv_getA hM dX12_readKey_159 sm_fl_262 (sm_a0 _) sm_k135 rfl ?_
                refine sv_iload hM dX12_readKey_162 rfl rfl ?_
                obtain ⟨o265, h⟩ := h
                have k266 : sv_RL (S 83 r264) := sm_okJ ok261 sm_r83 r264
                have h := h k266
                refine sv_lald hM dX12_readKey_164 (sm_a83 _) (by decide) o265.1 o265.2 rfl (x := (S 83 r264)) rfl ?_
                refine sv_anyL hM dX12_readKey_165 rfl rfl (fun r267 hr267 _ => ?_)
                have h := h r267 hr267
                refine sv_lstore hM dX12_readKey_166 (by decide) rfl ?_
                show sv_T sm_XS sm_cs sm_L sm_sh 2 (q_readKey p1 p3 p5 p6 S) 250 168 [(0, .ref 0), (1, sv_L p1), (3, sv_L p3), (5, sv_I p5), (6, sv_I p6), (7, sv_L r267), (9, sv_L l9_3), (11, sv_L x236), (13, sv_L l13_5), (15, sv_I l15_164), (16, sv_I r243), (17, sv_I r249), (18, sv_I r264)] [] (sv_sts (sv_sts S [68, 69, 70, 1145] g1) [68, 69, 70] g245)
                refine sv_lload hM dX12_readKey_168 rfl rfl ?_
                refine sv_aload_n hM dX12_readKey_170 rfl rfl ?_
                refine sv_getA hM dX12_readKey_171 sm_fl_265 (sm_a0 _) sm_k136 rfl ?_
                refine sv_iload hM dX12_readKey_174 rfl rfl ?_
                have k268 : sv_RL (S 84 r264) := sm_okJ ok261 sm_r84 r264
                have h := h k268
                refine sv_lald hM dX12_readKey_176 (sm_a84 _) (by decide) o265.1 o265.2 rfl (x := (S 84 r264)) rfl ?_
                refine sv_anyL hM dX12_readKey_177 rfl rfl (fun r269 hr269 _ => ?_)
                have h := h r269 hr269
                refine sv_lstore hM dX12_readKey_178 (by decide) rfl ?_
                show sv_T sm_XS sm_cs sm_L sm_sh 2 (q_readKey p1 p3 p5 p6 S) 250 180 [(0, .ref 0), (1, sv_L p1), (3, sv_L p3), (5, sv_I p5), (6, sv_I p6), (7, sv_L r267), (9, sv_L r269), (11, sv_L x236), (13, sv_L l13_5), (15, sv_I l15_164), (16, sv_I r243), (17, sv_I r249), (18, sv_I r264)] [] (sv_sts (sv_sts S [68, 69, 70, 1145] g1) [68, 69, 70] g245)
                refine sv_aload_n hM dX12_readKey_180 rfl rfl ?_
                refine sv_aload_n hM dX12_readKey_181 rfl rfl ?_
                have k270 : (0 ≤ (g1 1145 0) ∧ (g1 1145 0) ≤ 1) := sm_okZ ok261 sm_r1145 0
                have h := h k270
                refine sv_getI hM dX12_readKey_182 sm_fl_1156 (sm_a0 _) sm_k145 rfl (x := (g1 1145 0)) rfl ?_
                refine sv_cond_ne hM dX12_readKey_185 (sv_R01 k270) (t := 198) rfl rfl (fun hc => ?_) (fun hc => ?_)
                · have h := h.1 (hc)
                  refine sv_iconst (d := (1 : Int)) hM dX12_readKey_198 rfl rfl ?_
                  refine sv_goto hM dX12_readKey_199 (pc' := 203) rfl ?_
                  refine sv_putI sm_X hM dX12_readKey_203 sm_fp_1156 (sm_a0 _) sm_q145 (Or.inr rfl) rfl (sv_nz (⟨by decide, by decide⟩ : 0 ≤ (1 : Int) ∧ (1 : Int) ≤ 1)) (sv_fz (⟨by decide, by decide⟩ : 0 ≤ (1 : Int) ∧ (1 : Int) ≤ 1)) rfl ?_
                  have ok271 : sm_ok (sv_up (sv_sts (sv_sts S [68, 69, 70, 1145] g1) [68, 69, 70] g245) 1145 0 (1 : Int)) := sm_upZ ok261 sm_r1145 (⟨by decide, by decide⟩ : 0 ≤ (1 : Int) ∧ (1 : Int) ≤ 1)
                  have md272 : sv_mod [68, 69, 70, 1145] S (sv_up (sv_sts (sv_sts S [68, 69, 70, 1145] g1) [68, 69, 70] g245) 1145 0 (1 : Int)) := sv_mod.up md250 (by decide)
                  have md273 : sv_mod [68, 69, 70, 1145] S (sv_up (sv_sts (sv_sts S [68, 69, 70, 1145] g1) [68, 69, 70] g245) 1145 0 (1 : Int)) := sv_mod.up md251 (by decide)
                  refine sv_goto hM dX12_readKey_206 (pc' := 12) rfl ?_
                  have eS := sv_mod.eq md273
                  have hb := ih6 (r267, r269, x236, l13_5, (sv_up (sv_sts (sv_sts S [68, 69, 70, 1145] g1) [68, 69, 70] g245) 1145 0 (1 : Int))) ⟨hr267, hr269, e237r, hl13_5, (by rw [← eS]; exact ok271), h.1⟩ h.2
                  have hb : sv_T sm_XS sm_cs sm_L sm_sh 2 (q_readKey p1 p3 p5 p6 S) 250 12 [(0, .ref 0), (1, sv_L p1), (3, sv_L p3), (5, sv_I p5), (6, sv_I p6), (7, sv_L r267), (9, sv_L r269), (11, sv_L x236), (13, sv_L l13_5)] [] (sv_up (sv_sts (sv_sts S [68, 69, 70, 1145] g1) [68, 69, 70] g245) 1145 0 (1 : Int)) := Eq.mpr (congrArg (fun Z => sv_T sm_XS sm_cs sm_L sm_sh 2 (q_readKey p1 p3 p5 p6 S) 250 12 [(0, .ref 0), (1, sv_L p1), (3, sv_L p3), (5, sv_I p5), (6, sv_I p6), (7, sv_L r267), (9, sv_L r269), (11, sv_L x236), (13, sv_L l13_5)] [] Z) eS) hb
                  exact sv_less (lv := [(0, .ref 0), (1, sv_L p1), (3, sv_L p3), (5, sv_I p5), (6, sv_I p6), (7, sv_L r267), (9, sv_L r269), (11, sv_L x236), (13, sv_L l13_5)]) (sv_Sub_cons rfl (sv_Sub_cons rfl (sv_Sub_cons rfl (sv_Sub_cons rfl (sv_Sub_cons rfl (sv_Sub_cons rfl (sv_Sub_cons rfl (sv_Sub_cons rfl (sv_Sub_cons rfl sv_Sub_nil))))))))) hb
                · have h := h.2 (hc)
                  refine sv_aload_n hM dX12_readKey_188 rfl rfl ?_
                  refine sv_getA hM dX12_readKey_189 sm_fl_259 (sm_a0 _) sm_k134 rfl ?_
                  refine sv_iload hM dX12_readKey_192 rfl rfl ?_
                  have k274 : (0 ≤ (S 82 r264) ∧ (S 82 r264) ≤ 1) := sm_okZ ok261 sm_r82 r264
                  have h := h k274
                  refine sv_zald hM dX12_readKey_194 (sm_a82 _) (by decide) o265.1 o265.2 rfl (x := (S 82 r264)) rfl ?_
                  refine sv_cond_eq hM dX12_readKey_195 (sv_R01 k274) (t := 202) rfl rfl (fun hc => ?_) (fun hc => ?_)
                  · have h := h.1 (hc)
                    refine sv_iconst (d := (0 : Int)) hM dX12_readKey_202 rfl rfl ?_
                    refine sv_putI sm_X hM dX12_readKey_203 sm_fp_1156 (sm_a0 _) sm_q145 (Or.inr rfl) rfl (sv_nz (⟨by decide, by decide⟩ : 0 ≤ (0 : Int) ∧ (0 : Int) ≤ 1)) (sv_fz (⟨by decide, by decide⟩ : 0 ≤ (0 : Int) ∧ (0 : Int) ≤ 1)) rfl ?_
                    have ok275 : sm_ok (sv_up (sv_sts (sv_sts S [68, 69, 70, 1145] g1) [68, 69, 70] g245) 1145 0 (0 : Int)) := sm_upZ ok261 sm_r1145 (⟨by decide, by decide⟩ : 0 ≤ (0 : Int) ∧ (0 : Int) ≤ 1)
                    have md276 : sv_mod [68, 69, 70, 1145] S (sv_up (sv_sts (sv_sts S [68, 69, 70, 1145] g1) [68, 69, 70] g245) 1145 0 (0 : Int)) := sv_mod.up md250 (by decide)
                    have md277 : sv_mod [68, 69, 70, 1145] S (sv_up (sv_sts (sv_sts S [68, 69, 70, 1145] g1) [68, 69, 70] g245) 1145 0 (0 : Int)) := sv_mod.up md251 (by decide)
                    refine sv_goto hM dX12_readKey_206 (pc' := 12) rfl ?_
                    have eS := sv_mod.eq md277
                    have hb := ih6 (r267, r269, x236, l13_5, (sv_up (sv_sts (sv_sts S [68, 69, 70, 1145] g1) [68, 69, 70] g245) 1145 0 (0 : Int))) ⟨hr267, hr269, e237r, hl13_5, (by rw [← eS]; exact ok275), h.1⟩ h.2
                    have hb : sv_T sm_XS sm_cs sm_L sm_sh 2 (q_readKey p1 p3 p5 p6 S) 250 12 [(0, .ref 0), (1, sv_L p1), (3, sv_L p3), (5, sv_I p5), (6, sv_I p6), (7, sv_L r267), (9, sv_L r269), (11, sv_L x236), (13, sv_L l13_5)] [] (sv_up (sv_sts (sv_sts S [68, 69, 70, 1145] g1) [68, 69, 70] g245) 1145 0 (0 : Int)) := Eq.mpr (congrArg (fun Z => sv_T sm_XS sm_cs sm_L sm_sh 2 (q_readKey p1 p3 p5 p6 S) 250 12 [(0, .ref 0), (1, sv_L p1), (3, sv_L p3), (5, sv_I p5), (6, sv_I p6), (7, sv_L r267), (9, sv_L r269), (11, sv_L x236), (13, sv_L l13_5)] [] Z) eS) hb
                    exact sv_less (lv := [(0, .ref 0), (1, sv_L p1), (3, sv_L p3), (5, sv_I p5), (6, sv_I p6), (7, sv_L r267), (9, sv_L r269), (11, sv_L x236), (13, sv_L l13_5)]) (sv_Sub_cons rfl (sv_Sub_cons rfl (sv_Sub_cons rfl (sv_Sub_cons rfl (sv_Sub_cons rfl (sv_Sub_cons rfl (sv_Sub_cons rfl (sv_Sub_cons rfl (sv_Sub_cons rfl sv_Sub_nil))))))))) hb
                  · have h := h.2 (hc)
                    refine sv_iconst (d := (1 : Int)) hM dX12_readKey_198 rfl rfl ?_
                    refine sv_goto hM dX12_readKey_199 (pc' := 203) rfl ?_
                    refine sv_putI sm_X hM dX12_readKey_203 sm_fp_1156 (sm_a0 _) sm_q145 (Or.inr rfl) rfl (sv_nz (⟨by decide, by decide⟩ : 0 ≤ (1 : Int) ∧ (1 : Int) ≤ 1)) (sv_fz (⟨by decide, by decide⟩ : 0 ≤ (1 : Int) ∧ (1 : Int) ≤ 1)) rfl ?_
                    have ok278 : sm_ok (sv_up (sv_sts (sv_sts S [68, 69, 70, 1145] g1) [68, 69, 70] g245) 1145 0 (1 : Int)) := sm_upZ ok261 sm_r1145 (⟨by decide, by decide⟩ : 0 ≤ (1 : Int) ∧ (1 : Int) ≤ 1)
                    have md279 : sv_mod [68, 69, 70, 1145] S (sv_up (sv_sts (sv_sts S [68, 69, 70, 1145] g1) [68, 69, 70] g245) 1145 0 (1 : Int)) := sv_mod.up md250 (by decide)
                    have md280 : sv_mod [68, 69, 70, 1145] S (sv_up (sv_sts (sv_sts S [68, 69, 70, 1145] g1) [68, 69, 70] g245) 1145 0 (1 : Int)) := sv_mod.up md251 (by decide)
                    refine sv_goto hM dX12_readKey_206 (pc' := 12) rfl ?_
                    have eS := sv_mod.eq md280
                    have hb := ih6 (r267, r269, x236, l13_5, (sv_up (sv_sts (sv_sts S [68, 69, 70, 1145] g1) [68, 69, 70] g245) 1145 0 (1 : Int))) ⟨hr267, hr269, e237r, hl13_5, (by rw [← eS]; exact ok278), h.1⟩ h.2
                    have hb : sv_T sm_XS sm_cs sm_L sm_sh 2 (q_readKey p1 p3 p5 p6 S) 250 12 [(0, .ref 0), (1, sv_L p1), (3, sv_L p3), (5, sv_I p5), (6, sv_I p6), (7, sv_L r267), (9, sv_L r269), (11, sv_L x236), (13, sv_L l13_5)] [] (sv_up (sv_sts (sv_sts S [68, 69, 70, 1145] g1) [68, 69, 70] g245) 1145 0 (1 : Int)) := Eq.mpr (congrArg (fun Z => sv_T sm_XS sm_cs sm_L sm_sh 2 (q_readKey p1 p3 p5 p6 S) 250 12 [(0, .ref 0), (1, sv_L p1), (3, sv_L p3), (5, sv_I p5), (6, sv_I p6), (7, sv_L r267), (9, sv_L r269), (11, sv_L x236), (13, sv_L l13_5)] [] Z) eS) hb
                    exact sv_less (lv := [(0, .ref 0), (1, sv_L p1), (3, sv_L p3), (5, sv_I p5), (6, sv_I p6), (7, sv_L r267), (9, sv_L r269), (11, sv_L x236), (13, sv_L l13_5)]) (sv_Sub_cons rfl (sv_Sub_cons rfl (sv_Sub_cons rfl (sv_Sub_cons rfl (sv_Sub_cons rfl (sv_Sub_cons rfl (sv_Sub_cons rfl (sv_Sub_cons rfl (sv_Sub_cons rfl sv_Sub_nil))))))))) hb
              · have h := h.2 (hc)
                refine sv_goto hM dX12_readKey_142 (pc' := 12) rfl ?_
                have eS := sv_mod.eq md251
                have hb := ih6 (l7_2, l9_3, x236, l13_5, (sv_sts (sv_sts S [68, 69, 70, 1145] g1) [68, 69, 70] g245)) ⟨hl7_2, hl9_3, e237r, hl13_5, (by rw [← eS]; exact ok254), h.1⟩ h.2
                have hb : sv_T sm_XS sm_cs sm_L sm_sh 2 (q_readKey p1 p3 p5 p6 S) 250 12 [(0, .ref 0), (1, sv_L p1), (3, sv_L p3), (5, sv_I p5), (6, sv_I p6), (7, sv_L l7_2), (9, sv_L l9_3), (11, sv_L x236), (13, sv_L l13_5)] [] (sv_sts (sv_sts S [68, 69, 70, 1145] g1) [68, 69, 70] g245) := Eq.mpr (congrArg (fun Z => sv_T sm_XS sm_cs sm_L sm_sh 2 (q_readKey p1 p3 p5 p6 S) 250 12 [(0, .ref 0), (1, sv_L p1), (3, sv_L p3), (5, sv_I p5), (6, sv_I p6), (7, sv_L l7_2), (9, sv_L l9_3), (11, sv_L x236), (13, sv_L l13_5)] [] Z) eS) hb
                exact sv_less (lv := [(0, .ref 0), (1, sv_L p1), (3, sv_L p3), (5, sv_I p5), (6, sv_I p6), (7, sv_L l7_2), (9, sv_L l9_3), (11, sv_L x236), (13, sv_L l13_5)]) (sv_Sub_cons rfl (sv_Sub_cons rfl (sv_Sub_cons rfl (sv_Sub_cons rfl (sv_Sub_cons rfl (sv_Sub_cons rfl (sv_Sub_cons rfl (sv_Sub_cons rfl (sv_Sub_cons rfl sv_Sub_nil))))))))) hb
          · have h := h.2 (hc)
            have k281 : (sm_in (sm_land l7_2 (sm_lxor l11_4 (-1))) (sm_land l9_3 (sm_lxor l13_5 (-1))) (sm_fst (sm_land l7_2 (sm_lxor l11_4 (-1))) (sm_land l9_3 (sm_lxor l13_5 (-1)))) = 1 → sm_in (sm_land l7_2 (sm_lxor l11_4 (-1))) (sm_land l9_3 (sm_lxor l13_5 (-1))) l15_164 = 0 → ¬ l15_164 = (sm_fst (sm_land l7_2 (sm_lxor l11_4 (-1))) (sm_land l9_3 (sm_lxor l13_5 (-1))))) := sm_in_ne
            have h := h k281
            refine sv_iinc (d := (1 : Int)) hM dX12_readKey_69 rfl (by decide) rfl rfl ?_
            show sv_T sm_XS sm_cs sm_L sm_sh 2 (q_readKey p1 p3 p5 p6 S) 250 72 [(0, .ref 0), (1, sv_L p1), (3, sv_L p3), (5, sv_I p5), (6, sv_I p6), (7, sv_L l7_2), (9, sv_L l9_3), (11, sv_L l11_4), (13, sv_L l13_5), (15, sv_I (l15_164 + (1 : Int)))] [] (sv_sts S [68, 69, 70, 1145] g1)
            refine sv_goto hM dX12_readKey_72 (pc' := 43) rfl ?_
            obtain ⟨o282, h⟩ := h
            have hb := ih165 ((l15_164 + (1 : Int)), ()) ⟨o282, ok178, h.1⟩ h.2
            exact sv_less (lv := [(0, .ref 0), (1, sv_L p1), (3, sv_L p3), (5, sv_I p5), (6, sv_I p6), (7, sv_L l7_2), (9, sv_L l9_3), (11, sv_L l11_4), (13, sv_L l13_5), (15, sv_I (l15_164 + (1 : Int)))]) (sv_Sub_cons rfl (sv_Sub_cons rfl (sv_Sub_cons rfl (sv_Sub_cons rfl (sv_Sub_cons rfl (sv_Sub_cons rfl (sv_Sub_cons rfl (sv_Sub_cons rfl (sv_Sub_cons rfl (sv_Sub_cons rfl sv_Sub_nil)))))))))) hb
        exact hJ ((0 : Int), ()) ⟨(⟨by decide, by decide⟩ : sv_R (0 : Int)), ok8, hin166⟩
  have eS := sv_mod.eq (sv_mod.rf (l := [68, 69, 70, 1145]) (S := S))
  have hb := hJ (p1, p3, (0 : Int), (0 : Int), S) ⟨hp1, hp3, (⟨by decide, by decide⟩ : sv_RL (0 : Int)), (⟨by decide, by decide⟩ : sv_RL (0 : Int)), (by rw [← eS]; exact hok), hin7⟩
  have hb : sv_T sm_XS sm_cs sm_L sm_sh 2 (q_readKey p1 p3 p5 p6 S) 250 12 [(0, .ref 0), (1, sv_L p1), (3, sv_L p3), (5, sv_I p5), (6, sv_I p6), (7, sv_L p1), (9, sv_L p3), (11, sv_L (0 : Int)), (13, sv_L (0 : Int))] [] S := Eq.mpr (congrArg (fun Z => sv_T sm_XS sm_cs sm_L sm_sh 2 (q_readKey p1 p3 p5 p6 S) 250 12 [(0, .ref 0), (1, sv_L p1), (3, sv_L p3), (5, sv_I p5), (6, sv_I p6), (7, sv_L p1), (9, sv_L p3), (11, sv_L (0 : Int)), (13, sv_L (0 : Int))] [] Z) eS) hb
  exact hb
def q_readFrom (p1 : Int) (p3 : Int) (p5 : Int) (S : sv_S) : Option Value → sv_S → Prop := fun v S' => v = none ∧ sm_ok S' ∧ sv_mod [68, 69, 70, 1145] S S' ∧ (sm_pt (S' 68) (S' 69) (S' 70) = sm_pt (S 68) (S 69) (S 70))
theorem la_readFrom_0 {x0 : Int} (h0 : 635639 ≤ x0) (h1 : x0 < 647790) : 0 ≤ x0 ∧ x0 < 647800 := by omega
theorem la_readFrom_1 {x0 x1 x2 : Int} (h0 : 31 ≤ x0) (h1 : x1 = x2) : (0 : Int) ≤ 0 ∧ 0 ≤ x0 + 1 ∧ x1 = x2 := by omega
theorem la_readFrom_2 {x0 x1 : Int} (h0 : x0 ≤ x1 + 1) : 0 ≤ x1 + 1 - x0 := by omega
theorem la_readFrom_3 {x0 x1 x2 x3 : Int} (h0 : x0 = x1) : x2 < x3 → x0 = x1 := by omega
theorem la_readFrom_4 {x0 x1 : Int} (h0 : x0 ≤ 90) (h1 : 0 ≤ x1) (h2 : ¬ x0 < x1) : 0 ≤ x1 ∧ x1 < 128 := by omega
theorem la_readFrom_5 {x0 x1 x2 x3 x4 : Int} (h0 : x0 ≤ 90) (h1 : 0 ≤ x1) (h2 : x2 = x3) (h3 : ¬ x0 < x1) : x4 = 0 → sv_R (x1 + 1) ∧ (0 ≤ x1 + 1 ∧ x1 + 1 ≤ x0 + 1 ∧ x2 = x3) ∧ x0 + 1 - (x1 + 1) < x0 + 1 - x1 := by omega
theorem la_readFrom_6 {x0 : Int} (h0 : x0 = 1) : 0 ≤ x0 := by omega
theorem la_readFrom_7 {x0 : Int} (h0 : 0 ≤ x0) (h1 : ¬ x0 = 0) : 0 < x0 := by omega
theorem la_readFrom_8 {x0 x1 x2 x3 : Int} (h0 : 0 ≤ x0) (h1 : x0 ≤ 11557) (h2 : 635639 ≤ x1) (h3 : x1 < 647790) (h4 : 0 ≤ x2) (h5 : ¬ x3 < x2) : 0 ≤ x0 ∧ x0 ≤ 11557 ∧ 0 ≤ x2 ∧ x2 ≤ x3 ∧ 635639 ≤ x1 ∧ x1 < 647790 := by omega
theorem la_readFrom_9 {x0 x1 : Int} (h0 : x0 ≤ 90) (h1 : 0 ≤ x1) (h2 : ¬ x0 < x1) : sv_R (x1 + 1) := by omega
theorem la_readFrom_10 {x0 x1 x2 x3 x4 : Int} (h0 : 0 ≤ x0) (h1 : x1 = x2) (h2 : ¬ x3 < x0) (h3 : x4 = x1) : 0 ≤ x0 + 1 ∧ x0 + 1 ≤ x3 + 1 ∧ x4 = x2 := by omega
theorem la_readFrom_11 {x0 x1 : Int} : x0 + 1 - (x1 + 1) < x0 + 1 - x1 := by omega
set_option maxHeartbeats 2000000 in
theorem f_readFrom : ∀ (p1 : Int) (p3 : Int) (p5 : Int) (S : sv_S), sm_ok S → sv_RL p1 → sv_RL p3 → sv_R p5 → (29 ≤ (S 1071 0) ∧ (S 1071 0) ≤ 127 ∧ 31 ≤ (S 1008 0) ∧ (S 1008 0) ≤ 90 ∧ 1 ≤ (S 1032 0) ∧ (S 1032 0) ≤ 11 ∧ 0 ≤ (S 1055 0) ∧ (S 1055 0) ≤ 19 ∧ (S 1071 0) = 29 + 6 * ((S 1032 0) - 1) + 2 * (S 1055 0) ∧ 0 ≤ (S 1046 0) ∧ (S 1046 0) + 2 * (S 1032 0) ≤ 500 ∧ sm_PD (S 1046 0) (S 1032 0) (S 1071 0) (S 1008 0) ∧ 0 ≤ (S 1071 0) * ((S 1008 0) + 1) ∧ (S 1071 0) * ((S 1008 0) + 1) ≤ 11557 ∧ 635639 ≤ p5 ∧ p5 < 647790) → (0 ≤ p5 ∧ p5 < 647800) ∧ (∀ g2 : sv_S, (635639 ≤ p5 → sm_pt (g2 68) (g2 69) (g2 70) = sm_pt (S 68) (S 69) (S 70)) → ((0 ≤ (0 : Int) ∧ (0 : Int) ≤ (S 1008 0) + 1 ∧ sm_pt (g2 68) (g2 69) (g2 70) = sm_pt (S 68) (S 69) (S 70)) ∧ (∀ l6_10 : Int, sv_R l6_10 → ∀ g9 : sv_S, (0 ≤ l6_10 ∧ l6_10 ≤ (S 1008 0) + 1 ∧ sm_pt (g9 68) (g9 69) (g9 70) = sm_pt (S 68) (S 69) (S 70)) → (0 ≤ (S 1008 0) + 1 - l6_10) ∧ (sv_R (S 1008 0) → ((((S 1008 0) < l6_10) → (sm_pt (g9 68) (g9 69) (g9 70) = sm_pt (S 68) (S 69) (S 70))) ∧ ((¬ ((S 1008 0) < l6_10)) → (0 ≤ l6_10 ∧ l6_10 < 128) ∧ (∀ r22 : Int, sv_R r22 → (r22 = 0 ∨ r22 = 1) → (((r22 = (0 : Int)) → (sv_R (l6_10 + (1 : Int))) ∧ ((0 ≤ (l6_10 + (1 : Int)) ∧ (l6_10 + (1 : Int)) ≤ (S 1008 0) + 1 ∧ sm_pt (g9 68) (g9 69) (g9 70) = sm_pt (S 68) (S 69) (S 70)) ∧ ((S 1008 0) + 1 - (l6_10 + (1 : Int))) < ((S 1008 0) + 1 - l6_10))) ∧ ((¬ (r22 = (0 : Int))) → (29 ≤ (S 1071 0) ∧ (S 1071 0) ≤ 127 ∧ 31 ≤ (S 1008 0) ∧ (S 1008 0) ≤ 90 ∧ 1 ≤ (S 1032 0) ∧ (S 1032 0) ≤ 11 ∧ 0 ≤ (S 1055 0) ∧ (S 1055 0) ≤ 19 ∧ (S 1071 0) = 29 + 6 * ((S 1032 0) - 1) + 2 * (S 1055 0) ∧ 0 ≤ (S 1046 0) ∧ (S 1046 0) + 2 * (S 1032 0) ≤ 500 ∧ sm_PD (S 1046 0) (S 1032 0) (S 1071 0) (S 1008 0) ∧ 0 ≤ (S 1071 0) * ((S 1008 0) + 1) ∧ (S 1071 0) * ((S 1008 0) + 1) ≤ 11557 ∧ 0 ≤ l6_10 ∧ l6_10 ≤ (S 1008 0) ∧ 635639 ≤ p5 ∧ p5 < 647790) ∧ (∀ g25 : sv_S, (sm_pt (g25 68) (g25 69) (g25 70) = sm_pt (g9 68) (g9 69) (g9 70)) → (sv_R (l6_10 + (1 : Int))) ∧ ((0 ≤ (l6_10 + (1 : Int)) ∧ (l6_10 + (1 : Int)) ≤ (S 1008 0) + 1 ∧ sm_pt (g25 68) (g25 69) (g25 70) = sm_pt (S 68) (S 69) (S 70)) ∧ ((S 1008 0) + 1 - (l6_10 + (1 : Int))) < ((S 1008 0) + 1 - l6_10)))))))))))) := by
  intro p1
  intro p3
  intro p5
  intro S
  intro h1_
  intro h2_
  intro h3_
  intro h4_
  rintro ⟨h5_, ⟨h6_, ⟨h7_, ⟨h8_, ⟨h9_, ⟨h10_, ⟨h11_, ⟨h12_, ⟨h13_, ⟨h14_, ⟨h15_, ⟨h16_, ⟨h17_, ⟨h18_, ⟨h19_, h20_⟩⟩⟩⟩⟩⟩⟩⟩⟩⟩⟩⟩⟩⟩⟩
  refine ⟨(la_readFrom_0 h19_ h20_), ?_⟩
  intro g2
  intro h21_
  have h22_ := (h21_ h19_)
  refine ⟨(la_readFrom_1 h7_ h22_), ?_⟩
  intro l6_10
  intro h23_
  intro g9
  rintro ⟨h24_, ⟨h25_, h26_⟩⟩
  refine ⟨(la_readFrom_2 h25_), ?_⟩
  intro h27_
  refine ⟨(la_readFrom_3 h26_), ?_⟩
  intro h28_
  refine ⟨(la_readFrom_4 h8_ h24_ h28_), ?_⟩
  intro r22
  intro h29_
  intro h30_
  refine ⟨(la_readFrom_5 h8_ h24_ h26_ h28_), ?_⟩
  intro h31_
  have h32_ := (h30_.resolve_left h31_)
  refine ⟨⟨h5_, ⟨h6_, ⟨h7_, ⟨h8_, ⟨h9_, ⟨h10_, ⟨h11_, ⟨h12_, ⟨h13_, ⟨h14_, ⟨h15_, ⟨h16_, (la_readFrom_8 h17_ h18_ h19_ h20_ h24_ h28_)⟩⟩⟩⟩⟩⟩⟩⟩⟩⟩⟩⟩, ?_⟩
  intro g25
  intro h33_
  refine ⟨(la_readFrom_9 h8_ h24_ h28_), ?_⟩
  refine ⟨(la_readFrom_10 h24_ h26_ h28_ h33_), ?_⟩
  exact la_readFrom_11
set_option maxRecDepth 8000 in
set_option maxHeartbeats 2000000 in
theorem t_readFrom : ∀ (p1 : Int) (p3 : Int) (p5 : Int) (S : sv_S), sm_ok S → sv_RL p1 → sv_RL p3 → sv_R p5 → (29 ≤ (S 1071 0) ∧ (S 1071 0) ≤ 127 ∧ 31 ≤ (S 1008 0) ∧ (S 1008 0) ≤ 90 ∧ 1 ≤ (S 1032 0) ∧ (S 1032 0) ≤ 11 ∧ 0 ≤ (S 1055 0) ∧ (S 1055 0) ≤ 19 ∧ (S 1071 0) = 29 + 6 * ((S 1032 0) - 1) + 2 * (S 1055 0) ∧ 0 ≤ (S 1046 0) ∧ (S 1046 0) + 2 * (S 1032 0) ≤ 500 ∧ sm_PD (S 1046 0) (S 1032 0) (S 1071 0) (S 1008 0) ∧ 0 ≤ (S 1071 0) * ((S 1008 0) + 1) ∧ (S 1071 0) * ((S 1008 0) + 1) ≤ 11557 ∧ 635639 ≤ p5 ∧ p5 < 647790) → sv_T sm_XS sm_cs sm_L sm_sh 3 (q_readFrom p1 p3 p5 S) 249 0 (lv_args 0 [.ref 0, sv_L p1, sv_L p3, sv_I p5]) [] S := by
  intro p1 p3 p5 S hok hp1 hp3 hp5 hpre
  have h := f_readFrom p1 p3 p5 S hok hp1 hp3 hp5 hpre
  have hM := sm_h249
  show sv_T sm_XS sm_cs sm_L sm_sh 3 (q_readFrom p1 p3 p5 S) 249 0 [(0, .ref 0), (1, sv_L p1), (3, sv_L p3), (5, sv_I p5)] [] S
  refine sv_aload_n hM dX12_readFrom_0 rfl rfl ?_
  refine sv_iload hM dX12_readFrom_1 rfl rfl ?_
  obtain ⟨o1, h⟩ := h
  refine sv_callV hM dX12_readFrom_3 sm_iv_1066 (by decide) (sm_a0 _) rfl rfl (Nat.le_of_ble_eq_true rfl) sm_h206 (Nat.le_of_ble_eq_true rfl) (Nat.le_of_ble_eq_true rfl) (F' := 0) (Nat.le_of_ble_eq_true rfl) rfl (t_empty p5 S hok hp5 o1) (fun v S1 hq => ?_)
  obtain ⟨rfl, ok3, md4, hpo5⟩ := hq
  obtain ⟨g2, rfl⟩ : ∃ g, S1 = sv_sts S [68, 69, 70] g := ⟨_, md4.eq⟩
  show sv_T sm_XS sm_cs sm_L sm_sh 3 (q_readFrom p1 p3 p5 S) 249 6 [(0, .ref 0), (1, sv_L p1), (3, sv_L p3), (5, sv_I p5)] [] (sv_sts S [68, 69, 70] g2)
  have md6 : sv_mod [68, 69, 70, 1145] S (sv_sts S [68, 69, 70] g2) := sv_mod.sts sv_mod.rf (by decide)
  have h := h g2 hpo5
  refine sv_aload_n hM dX12_readFrom_6 rfl rfl ?_
  refine sv_iconst (d := (0 : Int)) hM dX12_readFrom_7 rfl rfl ?_
  refine sv_putI sm_X hM dX12_readFrom_8 sm_fp_1156 (sm_a0 _) sm_q145 (Or.inr rfl) rfl (sv_nz (⟨by decide, by decide⟩ : 0 ≤ (0 : Int) ∧ (0 : Int) ≤ 1)) (sv_fz (⟨by decide, by decide⟩ : 0 ≤ (0 : Int) ∧ (0 : Int) ≤ 1)) rfl ?_
  have ok7 : sm_ok (sv_up (sv_sts S [68, 69, 70] g2) 1145 0 (0 : Int)) := sm_upZ ok3 sm_r1145 (⟨by decide, by decide⟩ : 0 ≤ (0 : Int) ∧ (0 : Int) ≤ 1)
  have md8 : sv_mod [68, 69, 70, 1145] S (sv_up (sv_sts S [68, 69, 70] g2) 1145 0 (0 : Int)) := sv_mod.up md6 (by decide)
  refine sv_iconst (d := (0 : Int)) hM dX12_readFrom_11 rfl rfl ?_
  refine sv_istore hM dX12_readFrom_12 (by decide) rfl ?_
  show sv_T sm_XS sm_cs sm_L sm_sh 3 (q_readFrom p1 p3 p5 S) 249 14 [(0, .ref 0), (1, sv_L p1), (3, sv_L p3), (5, sv_I p5), (6, sv_I (0 : Int))] [] (sv_up (sv_sts S [68, 69, 70] g2) 1145 0 (0 : Int))
  obtain ⟨hin12, h⟩ := h
  have hJ : ∀ a : Int × sv_S, (sv_R a.1 ∧ sm_ok (sv_sts (sv_up (sv_sts S [68, 69, 70] g2) 1145 0 (0 : Int)) [68, 69, 70, 1145] a.2) ∧ (0 ≤ a.1 ∧ a.1 ≤ (S 1008 0) + 1 ∧ sm_pt (a.2 68) (a.2 69) (a.2 70) = sm_pt (S 68) (S 69) (S 70))) → sv_T sm_XS sm_cs sm_L sm_sh 3 (q_readFrom p1 p3 p5 S) 249 14 [(0, .ref 0), (1, sv_L p1), (3, sv_L p3), (5, sv_I p5), (6, sv_I a.1)] [] (sv_sts (sv_up (sv_sts S [68, 69, 70] g2) 1145 0 (0 : Int)) [68, 69, 70, 1145] a.2) := by
    refine sv_loop (α := Int × sv_S) (fun a => sv_R a.1 ∧ sm_ok (sv_sts (sv_up (sv_sts S [68, 69, 70] g2) 1145 0 (0 : Int)) [68, 69, 70, 1145] a.2) ∧ (0 ≤ a.1 ∧ a.1 ≤ (S 1008 0) + 1 ∧ sm_pt (a.2 68) (a.2 69) (a.2 70) = sm_pt (S 68) (S 69) (S 70))) (fun a => (S 1008 0) + 1 - a.1) (fun a => sv_T sm_XS sm_cs sm_L sm_sh 3 (q_readFrom p1 p3 p5 S) 249 14 [(0, .ref 0), (1, sv_L p1), (3, sv_L p3), (5, sv_I p5), (6, sv_I a.1)] [] (sv_sts (sv_up (sv_sts S [68, 69, 70] g2) 1145 0 (0 : Int)) [68, 69, 70, 1145] a.2)) (fun a q => (h a.1 q.1 a.2 q.2.2).1) (fun a q ih11 => ?_)
    obtain ⟨l6_10, g9⟩ := a
    obtain ⟨hl6_10, ok13, hin12i⟩ := q
    have h := (h l6_10 hl6_10 g9 hin12i).2
    show sv_T sm_XS sm_cs sm_L sm_sh 3 (q_readFrom p1 p3 p5 S) 249 14 [(0, .ref 0), (1, sv_L p1), (3, sv_L p3), (5, sv_I p5), (6, sv_I l6_10)] [] (sv_sts (sv_up (sv_sts S [68, 69, 70] g2) 1145 0 (0 : Int)) [68, 69, 70, 1145] g9)
    have md14 : sv_mod [68, 69, 70, 1145] S (sv_sts (sv_up (sv_sts S [68, 69, 70] g2) 1145 0 (0 : Int)) [68, 69, 70, 1145] g9) := sv_mod.sts md8 (by decide)
    have md15 : sv_mod [68, 69, 70, 1145] (sv_up (sv_sts S [68, 69, 70] g2) 1145 0 (0 : Int)) (sv_sts (sv_up (sv_sts S [68, 69, 70] g2) 1145 0 (0 : Int)) [68, 69, 70, 1145] g9) := sv_mod.sts sv_mod.rf (by decide)
    refine sv_iload hM dX12_readFrom_14 rfl rfl ?_
    refine sv_aload_n hM dX12_readFrom_16 rfl rfl ?_
    have k16 : sv_R (S 1008 0) := sm_okI ok13 sm_r1008 0
    have h := h k16
    refine sv_getI hM dX12_readFrom_17 sm_fl_762 (sm_a0 _) sm_k8 rfl (x := (S 1008 0)) rfl ?_
    refine sv_icmp_gt hM dX12_readFrom_20 hl6_10 k16 (t := 48) rfl rfl (fun hc => ?_) (fun hc => ?_)
    · have h := h.1 (hc)
      exact sv_vret hM dX12_readFrom_48 rfl ⟨rfl, ok13, md14, h⟩
    · have h := h.2 (hc)
      refine sv_aload_n hM dX12_readFrom_23 rfl rfl ?_
      refine sv_iload hM dX12_readFrom_24 rfl rfl ?_
      obtain ⟨o17, h⟩ := h
      refine sv_callV hM dX12_readFrom_26 sm_iv_1153 (by decide) (sm_a0 _) rfl rfl (Nat.le_of_ble_eq_true rfl) sm_h242 (Nat.le_of_ble_eq_true rfl) (Nat.le_of_ble_eq_true rfl) (F' := 1) (Nat.le_of_ble_eq_true rfl) rfl (t_hasKey l6_10 (sv_sts (sv_up (sv_sts S [68, 69, 70] g2) 1145 0 (0 : Int)) [68, 69, 70, 1145] g9) ok13 hl6_10 o17) (fun v S1 hq => ?_)
      obtain ⟨r22, rfl, hr22, ok19, md20, hpo21⟩ := hq
      obtain rfl : (sv_sts (sv_up (sv_sts S [68, 69, 70] g2) 1145 0 (0 : Int)) [68, 69, 70, 1145] g9) = S1 := (funext fun j => md20 j (by intro q; cases q)).symm
      show sv_T sm_XS sm_cs sm_L sm_sh 3 (q_readFrom p1 p3 p5 S) 249 29 [(0, .ref 0), (1, sv_L p1), (3, sv_L p3), (5, sv_I p5), (6, sv_I l6_10)] [sv_I r22] (sv_sts (sv_up (sv_sts S [68, 69, 70] g2) 1145 0 (0 : Int)) [68, 69, 70, 1145] g9)
      have h := h r22 hr22 hpo21
      refine sv_cond_eq hM dX12_readFrom_29 hr22 (t := 42) rfl rfl (fun hc => ?_) (fun hc => ?_)
      · have h := h.1 (hc)
        refine sv_iinc (d := (1 : Int)) hM dX12_readFrom_42 rfl (by decide) rfl rfl ?_
        show sv_T sm_XS sm_cs sm_L sm_sh 3 (q_readFrom p1 p3 p5 S) 249 45 [(0, .ref 0), (1, sv_L p1), (3, sv_L p3), (5, sv_I p5), (6, sv_I (l6_10 + (1 : Int)))] [] (sv_sts (sv_up (sv_sts S [68, 69, 70] g2) 1145 0 (0 : Int)) [68, 69, 70, 1145] g9)
        refine sv_goto hM dX12_readFrom_45 (pc' := 14) rfl ?_
        obtain ⟨o23, h⟩ := h
        have eS := sv_mod.eq md15
        have hb := ih11 ((l6_10 + (1 : Int)), (sv_sts (sv_up (sv_sts S [68, 69, 70] g2) 1145 0 (0 : Int)) [68, 69, 70, 1145] g9)) ⟨o23, (by rw [← eS]; exact ok19), h.1⟩ h.2
        have hb : sv_T sm_XS sm_cs sm_L sm_sh 3 (q_readFrom p1 p3 p5 S) 249 14 [(0, .ref 0), (1, sv_L p1), (3, sv_L p3), (5, sv_I p5), (6, sv_I (l6_10 + (1 : Int)))] [] (sv_sts (sv_up (sv_sts S [68, 69, 70] g2) 1145 0 (0 : Int)) [68, 69, 70, 1145] g9) := Eq.mpr (congrArg (fun Z => sv_T sm_XS sm_cs sm_L sm_sh 3 (q_readFrom p1 p3 p5 S) 249 14 [(0, .ref 0), (1, sv_L p1), (3, sv_L p3), (5, sv_I p5), (6, sv_I (l6_10 + (1 : Int)))] [] Z) eS) hb
        exact sv_less (lv := [(0, .ref 0), (1, sv_L p1), (3, sv_L p3), (5, sv_I p5), (6, sv_I (l6_10 + (1 : Int)))]) (sv_Sub_cons rfl (sv_Sub_cons rfl (sv_Sub_cons rfl (sv_Sub_cons rfl (sv_Sub_cons rfl sv_Sub_nil))))) hb
      · have h := h.2 (hc)
        refine sv_aload_n hM dX12_readFrom_32 rfl rfl ?_
        refine sv_lload_n hM dX12_readFrom_33 rfl rfl ?_
        refine sv_lload_n hM dX12_readFrom_34 rfl rfl ?_
        refine sv_iload hM dX12_readFrom_35 rfl rfl ?_
        refine sv_iload hM dX12_readFrom_37 rfl rfl ?_
        obtain ⟨o24, h⟩ := h
        refine sv_callV hM dX12_readFrom_39 sm_iv_1159 (by decide) (sm_a0 _) rfl rfl (Nat.le_of_ble_eq_true rfl) sm_h250 (Nat.le_of_ble_eq_true rfl) (Nat.le_of_ble_eq_true rfl) (F' := 2) (Nat.le_of_ble_eq_true rfl) rfl (t_readKey p1 p3 l6_10 p5 (sv_sts (sv_up (sv_sts S [68, 69, 70] g2) 1145 0 (0 : Int)) [68, 69, 70, 1145] g9) ok19 hp1 hp3 hl6_10 hp5 o24) (fun v S1 hq => ?_)
        obtain ⟨rfl, ok26, md27, hpo28⟩ := hq
        obtain ⟨g25, rfl⟩ : ∃ g, S1 = sv_sts (sv_sts (sv_up (sv_sts S [68, 69, 70] g2) 1145 0 (0 : Int)) [68, 69, 70, 1145] g9) [68, 69, 70, 1145] g := ⟨_, md27.eq⟩
        show sv_T sm_XS sm_cs sm_L sm_sh 3 (q_readFrom p1 p3 p5 S) 249 42 [(0, .ref 0), (1, sv_L p1), (3, sv_L p3), (5, sv_I p5), (6, sv_I l6_10)] [] (sv_sts (sv_sts (sv_up (sv_sts S [68, 69, 70] g2) 1145 0 (0 : Int)) [68, 69, 70, 1145] g9) [68, 69, 70, 1145] g25)
        have md29 : sv_mod [68, 69, 70, 1145] S (sv_sts (sv_sts (sv_up (sv_sts S [68, 69, 70] g2) 1145 0 (0 : Int)) [68, 69, 70, 1145] g9) [68, 69, 70, 1145] g25) := sv_mod.sts md14 (by decide)
        have md30 : sv_mod [68, 69, 70, 1145] (sv_up (sv_sts S [68, 69, 70] g2) 1145 0 (0 : Int)) (sv_sts (sv_sts (sv_up (sv_sts S [68, 69, 70] g2) 1145 0 (0 : Int)) [68, 69, 70, 1145] g9) [68, 69, 70, 1145] g25) := sv_mod.sts md15 (by decide)
        have h := h g25 hpo28
        refine sv_iinc (d := (1 : Int)) hM dX12_readFrom_42 rfl (by decide) rfl rfl ?_
        show sv_T sm_XS sm_cs sm_L sm_sh 3 (q_readFrom p1 p3 p5 S) 249 45 [(0, .ref 0), (1, sv_L p1), (3, sv_L p3), (5, sv_I p5), (6, sv_I (l6_10 + (1 : Int)))] [] (sv_sts (sv_sts (sv_up (sv_sts S [68, 69, 70] g2) 1145 0 (0 : Int)) [68, 69, 70, 1145] g9) [68, 69, 70, 1145] g25)
        refine sv_goto hM dX12_readFrom_45 (pc' := 14) rfl ?_
        obtain ⟨o31, h⟩ := h
        have eS := sv_mod.eq md30
        have hb := ih11 ((l6_10 + (1 : Int)), (sv_sts (sv_sts (sv_up (sv_sts S [68, 69, 70] g2) 1145 0 (0 : Int)) [68, 69, 70, 1145] g9) [68, 69, 70, 1145] g25)) ⟨o31, (by rw [← eS]; exact ok26), h.1⟩ h.2
        have hb : sv_T sm_XS sm_cs sm_L sm_sh 3 (q_readFrom p1 p3 p5 S) 249 14 [(0, .ref 0), (1, sv_L p1), (3, sv_L p3), (5, sv_I p5), (6, sv_I (l6_10 + (1 : Int)))] [] (sv_sts (sv_sts (sv_up (sv_sts S [68, 69, 70] g2) 1145 0 (0 : Int)) [68, 69, 70, 1145] g9) [68, 69, 70, 1145] g25) := Eq.mpr (congrArg (fun Z => sv_T sm_XS sm_cs sm_L sm_sh 3 (q_readFrom p1 p3 p5 S) 249 14 [(0, .ref 0), (1, sv_L p1), (3, sv_L p3), (5, sv_I p5), (6, sv_I (l6_10 + (1 : Int)))] [] Z) eS) hb
        exact sv_less (lv := [(0, .ref 0), (1, sv_L p1), (3, sv_L p3), (5, sv_I p5), (6, sv_I (l6_10 + (1 : Int)))]) (sv_Sub_cons rfl (sv_Sub_cons rfl (sv_Sub_cons rfl (sv_Sub_cons rfl (sv_Sub_cons rfl sv_Sub_nil))))) hb
  have eS := sv_mod.eq (sv_mod.rf (l := [68, 69, 70, 1145]) (S := (sv_up (sv_sts S [68, 69, 70] g2) 1145 0 (0 : Int))))
  have hb := hJ ((0 : Int), (sv_up (sv_sts S [68, 69, 70] g2) 1145 0 (0 : Int))) ⟨(⟨by decide, by decide⟩ : sv_R (0 : Int)), (by rw [← eS]; exact ok7), hin12⟩
  have hb : sv_T sm_XS sm_cs sm_L sm_sh 3 (q_readFrom p1 p3 p5 S) 249 14 [(0, .ref 0), (1, sv_L p1), (3, sv_L p3), (5, sv_I p5), (6, sv_I (0 : Int))] [] (sv_up (sv_sts S [68, 69, 70] g2) 1145 0 (0 : Int)) := Eq.mpr (congrArg (fun Z => sv_T sm_XS sm_cs sm_L sm_sh 3 (q_readFrom p1 p3 p5 S) 249 14 [(0, .ref 0), (1, sv_L p1), (3, sv_L p3), (5, sv_I p5), (6, sv_I (0 : Int))] [] Z) eS) hb
  exact hb
