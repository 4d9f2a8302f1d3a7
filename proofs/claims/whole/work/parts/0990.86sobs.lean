theorem dX12_isReached_0 : decode cX12_isReached 0 = .ok (.aload_n 0, 1) := by decide +kernel
theorem dX12_isReached_1 : decode cX12_isReached 1 = .ok (.iconst 0, 1) := by decide +kernel
theorem dX12_isReached_2 : decode cX12_isReached 2 = .ok (.putfield 289, 3) := by decide +kernel
theorem dX12_isReached_5 : decode cX12_isReached 5 = .ok (.aload_n 0, 1) := by decide +kernel
theorem dX12_isReached_6 : decode cX12_isReached 6 = .ok (.getfield 776, 3) := by decide +kernel
theorem dX12_isReached_9 : decode cX12_isReached 9 = .ok (.ifCond .eq 30, 3) := by decide +kernel
theorem dX12_isReached_12 : decode cX12_isReached 12 = .ok (.iload_n 1, 1) := by decide +kernel
theorem dX12_isReached_13 : decode cX12_isReached 13 = .ok (.iconst 0, 1) := by decide +kernel
theorem dX12_isReached_14 : decode cX12_isReached 14 = .ok (.aload_n 0, 1) := by decide +kernel
theorem dX12_isReached_15 : decode cX12_isReached 15 = .ok (.getfield 606, 3) := by decide +kernel
theorem dX12_isReached_18 : decode cX12_isReached 18 = .ok (.iconst 1, 1) := by decide +kernel
theorem dX12_isReached_19 : decode cX12_isReached 19 = .ok (.isub, 1) := by decide +kernel
theorem dX12_isReached_20 : decode cX12_isReached 20 = .ok (.invokestatic 899, 3) := by decide +kernel
theorem dX12_isReached_23 : decode cX12_isReached 23 = .ok (.ifCond .eq 16, 3) := by decide +kernel
theorem dX12_isReached_26 : decode cX12_isReached 26 = .ok (.aload_n 0, 1) := by decide +kernel
theorem dX12_isReached_27 : decode cX12_isReached 27 = .ok (.getfield 226, 3) := by decide +kernel
theorem dX12_isReached_30 : decode cX12_isReached 30 = .ok (.iload_n 1, 1) := by decide +kernel
theorem dX12_isReached_31 : decode cX12_isReached 31 = .ok (.baload, 1) := by decide +kernel
theorem dX12_isReached_32 : decode cX12_isReached 32 = .ok (.ifCond .eq 7, 3) := by decide +kernel
theorem dX12_isReached_35 : decode cX12_isReached 35 = .ok (.iconst 1, 1) := by decide +kernel
theorem dX12_isReached_36 : decode cX12_isReached 36 = .ok (.goto 4, 3) := by decide +kernel
theorem dX12_isReached_39 : decode cX12_isReached 39 = .ok (.iconst 0, 1) := by decide +kernel
theorem dX12_isReached_40 : decode cX12_isReached 40 = .ok (.ireturn, 1) := by decide +kernel
theorem dX12_tell_0 : decode cX12_tell 0 = .ok (.iload_n 2, 1) := by decide +kernel
theorem dX12_tell_1 : decode cX12_tell 1 = .ok (.tableswitch 70 0 4 #[35, 42, 49, 56, 63], 35) := by decide +kernel
theorem dX12_tell_36 : decode cX12_tell 36 = .ok (.aload_n 0, 1) := by decide +kernel
theorem dX12_tell_37 : decode cX12_tell 37 = .ok (.iload_n 1, 1) := by decide +kernel
theorem dX12_tell_38 : decode cX12_tell 38 = .ok (.invokevirtual 1047, 3) := by decide +kernel
theorem dX12_tell_41 : decode cX12_tell 41 = .ok (.i2l, 1) := by decide +kernel
theorem dX12_tell_42 : decode cX12_tell 42 = .ok (.lreturn, 1) := by decide +kernel
theorem dX12_tell_43 : decode cX12_tell 43 = .ok (.aload_n 0, 1) := by decide +kernel
theorem dX12_tell_44 : decode cX12_tell 44 = .ok (.iload_n 1, 1) := by decide +kernel
theorem dX12_tell_45 : decode cX12_tell 45 = .ok (.invokevirtual 1050, 3) := by decide +kernel
theorem dX12_tell_48 : decode cX12_tell 48 = .ok (.i2l, 1) := by decide +kernel
theorem dX12_tell_49 : decode cX12_tell 49 = .ok (.lreturn, 1) := by decide +kernel
theorem dX12_tell_50 : decode cX12_tell 50 = .ok (.aload_n 0, 1) := by decide +kernel
theorem dX12_tell_51 : decode cX12_tell 51 = .ok (.iload_n 1, 1) := by decide +kernel
theorem dX12_tell_52 : decode cX12_tell 52 = .ok (.invokevirtual 1053, 3) := by decide +kernel
theorem dX12_tell_55 : decode cX12_tell 55 = .ok (.i2l, 1) := by decide +kernel
theorem dX12_tell_56 : decode cX12_tell 56 = .ok (.lreturn, 1) := by decide +kernel
theorem dX12_tell_57 : decode cX12_tell 57 = .ok (.aload_n 0, 1) := by decide +kernel
theorem dX12_tell_58 : decode cX12_tell 58 = .ok (.getfield 220, 3) := by decide +kernel
theorem dX12_tell_61 : decode cX12_tell 61 = .ok (.iload_n 1, 1) := by decide +kernel
theorem dX12_tell_62 : decode cX12_tell 62 = .ok (.laload, 1) := by decide +kernel
theorem dX12_tell_63 : decode cX12_tell 63 = .ok (.lreturn, 1) := by decide +kernel
theorem dX12_tell_64 : decode cX12_tell 64 = .ok (.aload_n 0, 1) := by decide +kernel
theorem dX12_tell_65 : decode cX12_tell 65 = .ok (.getfield 223, 3) := by decide +kernel
theorem dX12_tell_68 : decode cX12_tell 68 = .ok (.iload_n 1, 1) := by decide +kernel
theorem dX12_tell_69 : decode cX12_tell 69 = .ok (.laload, 1) := by decide +kernel
theorem dX12_tell_70 : decode cX12_tell 70 = .ok (.lreturn, 1) := by decide +kernel
theorem dX12_tell_71 : decode cX12_tell 71 = .ok (.lconst 0, 1) := by decide +kernel
theorem dX12_tell_72 : decode cX12_tell 72 = .ok (.lreturn, 1) := by decide +kernel
theorem dX12_height_0 : decode cX12_height 0 = .ok (.aload_n 0, 1) := by decide +kernel
theorem dX12_height_1 : decode cX12_height 1 = .ok (.iload_n 1, 1) := by decide +kernel
theorem dX12_height_2 : decode cX12_height 2 = .ok (.invokevirtual 1387, 3) := by decide +kernel
theorem dX12_height_5 : decode cX12_height 5 = .ok (.ifCond .eq 12, 3) := by decide +kernel
theorem dX12_height_8 : decode cX12_height 8 = .ok (.aload_n 0, 1) := by decide +kernel
theorem dX12_height_9 : decode cX12_height 9 = .ok (.getfield 235, 3) := by decide +kernel
theorem dX12_height_12 : decode cX12_height 12 = .ok (.iload_n 1, 1) := by decide +kernel
theorem dX12_height_13 : decode cX12_height 13 = .ok (.iaload, 1) := by decide +kernel
theorem dX12_height_14 : decode cX12_height 14 = .ok (.goto 4, 3) := by decide +kernel
theorem dX12_height_17 : decode cX12_height 17 = .ok (.iconst (-1), 1) := by decide +kernel
theorem dX12_height_18 : decode cX12_height 18 = .ok (.ireturn, 1) := by decide +kernel
theorem dX12_slot_0 : decode cX12_slot 0 = .ok (.aload_n 0, 1) := by decide +kernel
theorem dX12_slot_1 : decode cX12_slot 1 = .ok (.iload_n 1, 1) := by decide +kernel
theorem dX12_slot_2 : decode cX12_slot 2 = .ok (.invokevirtual 1387, 3) := by decide +kernel
theorem dX12_slot_5 : decode cX12_slot 5 = .ok (.ifCond .eq 19, 3) := by decide +kernel
theorem dX12_slot_8 : decode cX12_slot 8 = .ok (.iload_n 2, 1) := by decide +kernel
theorem dX12_slot_9 : decode cX12_slot 9 = .ok (.iconst (-1), 1) := by decide +kernel
theorem dX12_slot_10 : decode cX12_slot 10 = .ok (.aload_n 0, 1) := by decide +kernel
theorem dX12_slot_11 : decode cX12_slot 11 = .ok (.getfield 235, 3) := by decide +kernel
theorem dX12_slot_14 : decode cX12_slot 14 = .ok (.iload_n 1, 1) := by decide +kernel
theorem dX12_slot_15 : decode cX12_slot 15 = .ok (.iaload, 1) := by decide +kernel
theorem dX12_slot_16 : decode cX12_slot 16 = .ok (.iconst 1, 1) := by decide +kernel
theorem dX12_slot_17 : decode cX12_slot 17 = .ok (.isub, 1) := by decide +kernel
theorem dX12_slot_18 : decode cX12_slot 18 = .ok (.invokestatic 899, 3) := by decide +kernel
theorem dX12_slot_21 : decode cX12_slot 21 = .ok (.ifCond .ne 5, 3) := by decide +kernel
theorem dX12_slot_24 : decode cX12_slot 24 = .ok (.lconst 0, 1) := by decide +kernel
theorem dX12_slot_25 : decode cX12_slot 25 = .ok (.lreturn, 1) := by decide +kernel
theorem dX12_slot_26 : decode cX12_slot 26 = .ok (.aload_n 0, 1) := by decide +kernel
theorem dX12_slot_27 : decode cX12_slot 27 = .ok (.iload_n 2, 1) := by decide +kernel
theorem dX12_slot_28 : decode cX12_slot 28 = .ok (.iconst (-1), 1) := by decide +kernel
theorem dX12_slot_29 : decode cX12_slot 29 = .ok (.if_icmp .ne 11, 3) := by decide +kernel
theorem dX12_slot_32 : decode cX12_slot 32 = .ok (.aload_n 0, 1) := by decide +kernel
theorem dX12_slot_33 : decode cX12_slot 33 = .ok (.iload_n 1, 1) := by decide +kernel
theorem dX12_slot_34 : decode cX12_slot 34 = .ok (.invokevirtual 1098, 3) := by decide +kernel
theorem dX12_slot_37 : decode cX12_slot 37 = .ok (.goto 9, 3) := by decide +kernel
theorem dX12_slot_40 : decode cX12_slot 40 = .ok (.aload_n 0, 1) := by decide +kernel
theorem dX12_slot_41 : decode cX12_slot 41 = .ok (.iload_n 1, 1) := by decide +kernel
theorem dX12_slot_42 : decode cX12_slot 42 = .ok (.iload_n 2, 1) := by decide +kernel
theorem dX12_slot_43 : decode cX12_slot 43 = .ok (.invokevirtual 1323, 3) := by decide +kernel
theorem dX12_slot_46 : decode cX12_slot 46 = .ok (.iload_n 3, 1) := by decide +kernel
theorem dX12_slot_47 : decode cX12_slot 47 = .ok (.invokevirtual 1390, 3) := by decide +kernel
theorem dX12_slot_50 : decode cX12_slot 50 = .ok (.lreturn, 1) := by decide +kernel
theorem dX12_field__0 : decode cX12_field_ 0 = .ok (.aload_n 0, 1) := by decide +kernel
theorem dX12_field__1 : decode cX12_field_ 1 = .ok (.iload_n 1, 1) := by decide +kernel
theorem dX12_field__2 : decode cX12_field_ 2 = .ok (.invokevirtual 1387, 3) := by decide +kernel
theorem dX12_field__5 : decode cX12_field_ 5 = .ok (.ifCond .eq 47, 3) := by decide +kernel
theorem dX12_field__8 : decode cX12_field_ 8 = .ok (.iload_n 2, 1) := by decide +kernel
theorem dX12_field__9 : decode cX12_field_ 9 = .ok (.iconst 0, 1) := by decide +kernel
theorem dX12_field__10 : decode cX12_field_ 10 = .ok (.aload_n 0, 1) := by decide +kernel
theorem dX12_field__11 : decode cX12_field_ 11 = .ok (.getfield 765, 3) := by decide +kernel
theorem dX12_field__14 : decode cX12_field_ 14 = .ok (.iconst 1, 1) := by decide +kernel
theorem dX12_field__15 : decode cX12_field_ 15 = .ok (.isub, 1) := by decide +kernel
theorem dX12_field__16 : decode cX12_field_ 16 = .ok (.invokestatic 899, 3) := by decide +kernel
theorem dX12_field__19 : decode cX12_field_ 19 = .ok (.ifCond .eq 33, 3) := by decide +kernel
theorem dX12_field__22 : decode cX12_field_ 22 = .ok (.iload_n 3, 1) := by decide +kernel
theorem dX12_field__23 : decode cX12_field_ 23 = .ok (.iconst 0, 1) := by decide +kernel
theorem dX12_field__24 : decode cX12_field_ 24 = .ok (.aload_n 0, 1) := by decide +kernel
theorem dX12_field__25 : decode cX12_field_ 25 = .ok (.getfield 762, 3) := by decide +kernel
theorem dX12_field__28 : decode cX12_field_ 28 = .ok (.invokestatic 899, 3) := by decide +kernel
theorem dX12_field__31 : decode cX12_field_ 31 = .ok (.ifCond .eq 21, 3) := by decide +kernel
theorem dX12_field__34 : decode cX12_field_ 34 = .ok (.aload_n 0, 1) := by decide +kernel
theorem dX12_field__35 : decode cX12_field_ 35 = .ok (.getfield 256, 3) := by decide +kernel
theorem dX12_field__38 : decode cX12_field_ 38 = .ok (.aload_n 0, 1) := by decide +kernel
theorem dX12_field__39 : decode cX12_field_ 39 = .ok (.iload_n 1, 1) := by decide +kernel
theorem dX12_field__40 : decode cX12_field_ 40 = .ok (.iload_n 2, 1) := by decide +kernel
theorem dX12_field__41 : decode cX12_field_ 41 = .ok (.invokevirtual 1101, 3) := by decide +kernel
theorem dX12_field__44 : decode cX12_field_ 44 = .ok (.baload, 1) := by decide +kernel
theorem dX12_field__45 : decode cX12_field_ 45 = .ok (.ifCond .eq 7, 3) := by decide +kernel
theorem dX12_field__48 : decode cX12_field_ 48 = .ok (.iconst 1, 1) := by decide +kernel
theorem dX12_field__49 : decode cX12_field_ 49 = .ok (.goto 4, 3) := by decide +kernel
theorem dX12_field__52 : decode cX12_field_ 52 = .ok (.iconst 0, 1) := by decide +kernel
theorem dX12_field__53 : decode cX12_field_ 53 = .ok (.istore 5, 2) := by decide +kernel
theorem dX12_field__55 : decode cX12_field_ 55 = .ok (.iload 5, 2) := by decide +kernel
theorem dX12_field__57 : decode cX12_field_ 57 = .ok (.ifCond .eq 19, 3) := by decide +kernel
theorem dX12_field__60 : decode cX12_field_ 60 = .ok (.aload_n 0, 1) := by decide +kernel
theorem dX12_field__61 : decode cX12_field_ 61 = .ok (.aload_n 0, 1) := by decide +kernel
theorem dX12_field__62 : decode cX12_field_ 62 = .ok (.iload_n 1, 1) := by decide +kernel
theorem dX12_field__63 : decode cX12_field_ 63 = .ok (.iload_n 2, 1) := by decide +kernel
theorem dX12_field__64 : decode cX12_field_ 64 = .ok (.iload_n 3, 1) := by decide +kernel
theorem dX12_field__65 : decode cX12_field_ 65 = .ok (.invokevirtual 1163, 3) := by decide +kernel
theorem dX12_field__68 : decode cX12_field_ 68 = .ok (.iload 4, 2) := by decide +kernel
theorem dX12_field__70 : decode cX12_field_ 70 = .ok (.invokevirtual 1390, 3) := by decide +kernel
theorem dX12_field__73 : decode cX12_field_ 73 = .ok (.goto 4, 3) := by decide +kernel
theorem dX12_field__76 : decode cX12_field_ 76 = .ok (.lconst 0, 1) := by decide +kernel
theorem dX12_field__77 : decode cX12_field_ 77 = .ok (.lreturn, 1) := by decide +kernel
theorem dX12_link_0 : decode cX12_link 0 = .ok (.aload_n 0, 1) := by decide +kernel
theorem dX12_link_1 : decode cX12_link 1 = .ok (.iload_n 1, 1) := by decide +kernel
theorem dX12_link_2 : decode cX12_link 2 = .ok (.invokevirtual 1387, 3) := by decide +kernel
theorem dX12_link_5 : decode cX12_link 5 = .ok (.ifCond .eq 17, 3) := by decide +kernel
theorem dX12_link_8 : decode cX12_link 8 = .ok (.iload_n 2, 1) := by decide +kernel
theorem dX12_link_9 : decode cX12_link 9 = .ok (.iconst (-1), 1) := by decide +kernel
theorem dX12_link_10 : decode cX12_link 10 = .ok (.aload_n 0, 1) := by decide +kernel
theorem dX12_link_11 : decode cX12_link 11 = .ok (.getfield 765, 3) := by decide +kernel
theorem dX12_link_14 : decode cX12_link 14 = .ok (.iconst 1, 1) := by decide +kernel
theorem dX12_link_15 : decode cX12_link 15 = .ok (.isub, 1) := by decide +kernel
theorem dX12_link_16 : decode cX12_link 16 = .ok (.invokestatic 899, 3) := by decide +kernel
theorem dX12_link_19 : decode cX12_link 19 = .ok (.ifCond .ne 5, 3) := by decide +kernel
theorem dX12_link_22 : decode cX12_link 22 = .ok (.lconst 0, 1) := by decide +kernel
theorem dX12_link_23 : decode cX12_link 23 = .ok (.lreturn, 1) := by decide +kernel
theorem dX12_link_24 : decode cX12_link 24 = .ok (.iload_n 2, 1) := by decide +kernel
theorem dX12_link_25 : decode cX12_link 25 = .ok (.iconst (-1), 1) := by decide +kernel
theorem dX12_link_26 : decode cX12_link 26 = .ok (.if_icmp .ne 33, 3) := by decide +kernel
theorem dX12_link_29 : decode cX12_link 29 = .ok (.iload_n 3, 1) := by decide +kernel
theorem dX12_link_30 : decode cX12_link 30 = .ok (.iconst 3, 1) := by decide +kernel
theorem dX12_link_31 : decode cX12_link 31 = .ok (.if_icmp .ne 12, 3) := by decide +kernel
theorem dX12_link_34 : decode cX12_link 34 = .ok (.aload_n 0, 1) := by decide +kernel
theorem dX12_link_35 : decode cX12_link 35 = .ok (.getfield 241, 3) := by decide +kernel
theorem dX12_link_38 : decode cX12_link 38 = .ok (.iload_n 1, 1) := by decide +kernel
theorem dX12_link_39 : decode cX12_link 39 = .ok (.laload, 1) := by decide +kernel
theorem dX12_link_40 : decode cX12_link 40 = .ok (.goto 18, 3) := by decide +kernel
theorem dX12_link_43 : decode cX12_link 43 = .ok (.iload_n 3, 1) := by decide +kernel
theorem dX12_link_44 : decode cX12_link 44 = .ok (.iconst 4, 1) := by decide +kernel
theorem dX12_link_45 : decode cX12_link 45 = .ok (.if_icmp .ne 12, 3) := by decide +kernel
theorem dX12_link_48 : decode cX12_link 48 = .ok (.aload_n 0, 1) := by decide +kernel
theorem dX12_link_49 : decode cX12_link 49 = .ok (.getfield 244, 3) := by decide +kernel
theorem dX12_link_52 : decode cX12_link 52 = .ok (.iload_n 1, 1) := by decide +kernel
theorem dX12_link_53 : decode cX12_link 53 = .ok (.laload, 1) := by decide +kernel
theorem dX12_link_54 : decode cX12_link 54 = .ok (.goto 4, 3) := by decide +kernel
theorem dX12_link_57 : decode cX12_link 57 = .ok (.lconst 0, 1) := by decide +kernel
theorem dX12_link_58 : decode cX12_link 58 = .ok (.lreturn, 1) := by decide +kernel
theorem dX12_link_59 : decode cX12_link 59 = .ok (.aload_n 0, 1) := by decide +kernel
theorem dX12_link_60 : decode cX12_link 60 = .ok (.iload_n 1, 1) := by decide +kernel
theorem dX12_link_61 : decode cX12_link 61 = .ok (.iload_n 2, 1) := by decide +kernel
theorem dX12_link_62 : decode cX12_link 62 = .ok (.invokevirtual 1101, 3) := by decide +kernel
theorem dX12_link_65 : decode cX12_link 65 = .ok (.istore 4, 2) := by decide +kernel
theorem dX12_link_67 : decode cX12_link 67 = .ok (.iload_n 3, 1) := by decide +kernel
theorem dX12_link_68 : decode cX12_link 68 = .ok (.tableswitch 104 0 5 #[40, 48, 56, 72, 80, 88], 40) := by decide +kernel
theorem dX12_link_108 : decode cX12_link 108 = .ok (.aload_n 0, 1) := by decide +kernel
theorem dX12_link_109 : decode cX12_link 109 = .ok (.getfield 262, 3) := by decide +kernel
theorem dX12_link_112 : decode cX12_link 112 = .ok (.iload 4, 2) := by decide +kernel
theorem dX12_link_114 : decode cX12_link 114 = .ok (.laload, 1) := by decide +kernel
theorem dX12_link_115 : decode cX12_link 115 = .ok (.lreturn, 1) := by decide +kernel
theorem dX12_link_116 : decode cX12_link 116 = .ok (.aload_n 0, 1) := by decide +kernel
theorem dX12_link_117 : decode cX12_link 117 = .ok (.getfield 265, 3) := by decide +kernel
theorem dX12_link_120 : decode cX12_link 120 = .ok (.iload 4, 2) := by decide +kernel
theorem dX12_link_122 : decode cX12_link 122 = .ok (.laload, 1) := by decide +kernel
theorem dX12_link_123 : decode cX12_link 123 = .ok (.lreturn, 1) := by decide +kernel
theorem dX12_link_124 : decode cX12_link 124 = .ok (.aload_n 0, 1) := by decide +kernel
theorem dX12_link_125 : decode cX12_link 125 = .ok (.getfield 259, 3) := by decide +kernel
theorem dX12_link_128 : decode cX12_link 128 = .ok (.iload 4, 2) := by decide +kernel
theorem dX12_link_130 : decode cX12_link 130 = .ok (.baload, 1) := by decide +kernel
theorem dX12_link_131 : decode cX12_link 131 = .ok (.ifCond .eq 7, 3) := by decide +kernel
theorem dX12_link_134 : decode cX12_link 134 = .ok (.lconst 1, 1) := by decide +kernel
theorem dX12_link_135 : decode cX12_link 135 = .ok (.goto 4, 3) := by decide +kernel
theorem dX12_link_138 : decode cX12_link 138 = .ok (.lconst 0, 1) := by decide +kernel
theorem dX12_link_139 : decode cX12_link 139 = .ok (.lreturn, 1) := by decide +kernel
theorem dX12_link_140 : decode cX12_link 140 = .ok (.aload_n 0, 1) := by decide +kernel
theorem dX12_link_141 : decode cX12_link 141 = .ok (.getfield 268, 3) := by decide +kernel
theorem dX12_link_144 : decode cX12_link 144 = .ok (.iload 4, 2) := by decide +kernel
theorem dX12_link_146 : decode cX12_link 146 = .ok (.laload, 1) := by decide +kernel
theorem dX12_link_147 : decode cX12_link 147 = .ok (.lreturn, 1) := by decide +kernel
theorem dX12_link_148 : decode cX12_link 148 = .ok (.aload_n 0, 1) := by decide +kernel
theorem dX12_link_149 : decode cX12_link 149 = .ok (.getfield 271, 3) := by decide +kernel
theorem dX12_link_152 : decode cX12_link 152 = .ok (.iload 4, 2) := by decide +kernel
theorem dX12_link_154 : decode cX12_link 154 = .ok (.laload, 1) := by decide +kernel
theorem dX12_link_155 : decode cX12_link 155 = .ok (.lreturn, 1) := by decide +kernel
theorem dX12_link_156 : decode cX12_link 156 = .ok (.aload_n 0, 1) := by decide +kernel
theorem dX12_link_157 : decode cX12_link 157 = .ok (.getfield 256, 3) := by decide +kernel
theorem dX12_link_160 : decode cX12_link 160 = .ok (.iload 4, 2) := by decide +kernel
theorem dX12_link_162 : decode cX12_link 162 = .ok (.baload, 1) := by decide +kernel
theorem dX12_link_163 : decode cX12_link 163 = .ok (.ifCond .eq 7, 3) := by decide +kernel
theorem dX12_link_166 : decode cX12_link 166 = .ok (.lconst 1, 1) := by decide +kernel
theorem dX12_link_167 : decode cX12_link 167 = .ok (.goto 4, 3) := by decide +kernel
theorem dX12_link_170 : decode cX12_link 170 = .ok (.lconst 0, 1) := by decide +kernel
theorem dX12_link_171 : decode cX12_link 171 = .ok (.lreturn, 1) := by decide +kernel
theorem dX12_link_172 : decode cX12_link 172 = .ok (.lconst 0, 1) := by decide +kernel
theorem dX12_link_173 : decode cX12_link 173 = .ok (.lreturn, 1) := by decide +kernel
theorem dX12_result_0 : decode cX12_result 0 = .ok (.aload_n 0, 1) := by decide +kernel
theorem dX12_result_1 : decode cX12_result 1 = .ok (.iconst 0, 1) := by decide +kernel
theorem dX12_result_2 : decode cX12_result 2 = .ok (.putfield 289, 3) := by decide +kernel
theorem dX12_result_5 : decode cX12_result 5 = .ok (.aload_n 0, 1) := by decide +kernel
theorem dX12_result_6 : decode cX12_result 6 = .ok (.getfield 776, 3) := by decide +kernel
theorem dX12_result_9 : decode cX12_result 9 = .ok (.ifCond .eq 26, 3) := by decide +kernel
theorem dX12_result_12 : decode cX12_result 12 = .ok (.iload_n 1, 1) := by decide +kernel
theorem dX12_result_13 : decode cX12_result 13 = .ok (.iconst 0, 1) := by decide +kernel
theorem dX12_result_14 : decode cX12_result 14 = .ok (.aload_n 0, 1) := by decide +kernel
theorem dX12_result_15 : decode cX12_result 15 = .ok (.getfield 527, 3) := by decide +kernel
theorem dX12_result_18 : decode cX12_result 18 = .ok (.iconst 1, 1) := by decide +kernel
theorem dX12_result_19 : decode cX12_result 19 = .ok (.isub, 1) := by decide +kernel
theorem dX12_result_20 : decode cX12_result 20 = .ok (.invokestatic 899, 3) := by decide +kernel
theorem dX12_result_23 : decode cX12_result 23 = .ok (.ifCond .eq 12, 3) := by decide +kernel
theorem dX12_result_26 : decode cX12_result 26 = .ok (.iload_n 2, 1) := by decide +kernel
theorem dX12_result_27 : decode cX12_result 27 = .ok (.iconst 0, 1) := by decide +kernel
theorem dX12_result_28 : decode cX12_result 28 = .ok (.iconst 1, 1) := by decide +kernel
theorem dX12_result_29 : decode cX12_result 29 = .ok (.invokestatic 899, 3) := by decide +kernel
theorem dX12_result_32 : decode cX12_result 32 = .ok (.ifCond .ne 5, 3) := by decide +kernel
theorem dX12_result_35 : decode cX12_result 35 = .ok (.lconst 0, 1) := by decide +kernel
theorem dX12_result_36 : decode cX12_result 36 = .ok (.lreturn, 1) := by decide +kernel
theorem dX12_result_37 : decode cX12_result 37 = .ok (.aload_n 0, 1) := by decide +kernel
theorem dX12_result_38 : decode cX12_result 38 = .ok (.getfield 606, 3) := by decide +kernel
theorem dX12_result_41 : decode cX12_result 41 = .ok (.iconst 2, 1) := by decide +kernel
theorem dX12_result_42 : decode cX12_result 42 = .ok (.iload_n 1, 1) := by decide +kernel
theorem dX12_result_43 : decode cX12_result 43 = .ok (.imul, 1) := by decide +kernel
theorem dX12_result_44 : decode cX12_result 44 = .ok (.iadd, 1) := by decide +kernel
theorem dX12_result_45 : decode cX12_result 45 = .ok (.iload_n 2, 1) := by decide +kernel
theorem dX12_result_46 : decode cX12_result 46 = .ok (.iadd, 1) := by decide +kernel
theorem dX12_result_47 : decode cX12_result 47 = .ok (.istore 4, 2) := by decide +kernel
theorem dX12_result_49 : decode cX12_result 49 = .ok (.aload_n 0, 1) := by decide +kernel
theorem dX12_result_50 : decode cX12_result 50 = .ok (.getfield 226, 3) := by decide +kernel
theorem dX12_result_53 : decode cX12_result 53 = .ok (.iload 4, 2) := by decide +kernel
theorem dX12_result_55 : decode cX12_result 55 = .ok (.baload, 1) := by decide +kernel
theorem dX12_result_56 : decode cX12_result 56 = .ok (.ifCond .eq 18, 3) := by decide +kernel
theorem dX12_result_59 : decode cX12_result 59 = .ok (.aload_n 0, 1) := by decide +kernel
theorem dX12_result_60 : decode cX12_result 60 = .ok (.aload_n 0, 1) := by decide +kernel
theorem dX12_result_61 : decode cX12_result 61 = .ok (.getfield 238, 3) := by decide +kernel
theorem dX12_result_64 : decode cX12_result 64 = .ok (.iload 4, 2) := by decide +kernel
theorem dX12_result_66 : decode cX12_result 66 = .ok (.iaload, 1) := by decide +kernel
theorem dX12_result_67 : decode cX12_result 67 = .ok (.iload_n 3, 1) := by decide +kernel
theorem dX12_result_68 : decode cX12_result 68 = .ok (.invokevirtual 1390, 3) := by decide +kernel
theorem dX12_result_71 : decode cX12_result 71 = .ok (.goto 4, 3) := by decide +kernel
theorem dX12_result_74 : decode cX12_result 74 = .ok (.lconst 0, 1) := by decide +kernel
theorem dX12_result_75 : decode cX12_result 75 = .ok (.lreturn, 1) := by decide +kernel
theorem dX12_warns_0 : decode cX12_warns 0 = .ok (.aload_n 0, 1) := by decide +kernel
theorem dX12_warns_1 : decode cX12_warns 1 = .ok (.iload_n 1, 1) := by decide +kernel
theorem dX12_warns_2 : decode cX12_warns 2 = .ok (.invokevirtual 1387, 3) := by decide +kernel
theorem dX12_warns_5 : decode cX12_warns 5 = .ok (.ifCond .eq 12, 3) := by decide +kernel
theorem dX12_warns_8 : decode cX12_warns 8 = .ok (.aload_n 0, 1) := by decide +kernel
theorem dX12_warns_9 : decode cX12_warns 9 = .ok (.getfield 232, 3) := by decide +kernel
theorem dX12_warns_12 : decode cX12_warns 12 = .ok (.iload_n 1, 1) := by decide +kernel
theorem dX12_warns_13 : decode cX12_warns 13 = .ok (.iaload, 1) := by decide +kernel
theorem dX12_warns_14 : decode cX12_warns 14 = .ok (.goto 4, 3) := by decide +kernel
theorem dX12_warns_17 : decode cX12_warns 17 = .ok (.iconst (-1), 1) := by decide +kernel
theorem dX12_warns_18 : decode cX12_warns 18 = .ok (.ireturn, 1) := by decide +kernel

def q_isReached (p1 : Int) (S : sv_S) : Option Value → sv_S → Prop := fun v S' => ∃ r : Int, v = some (sv_I r) ∧ sv_R r ∧ sm_ok S' ∧ sv_mod [1000] S S' ∧ ((r = 0 ∨ r = 1) ∧ (r = 1 → (S' 1119 0) = 1 ∧ 0 ≤ p1 ∧ p1 < (S' 1046 0) ∧ (S' 71 p1) = 1))
theorem la_isReached_0 {x0 x1 x2 x3 : Int} : x0 = 0 → ((0 : Int) = 0 ∨ (0 : Int) = 1) ∧ ((0 : Int) = 1 → x0 = 1 ∧ 0 ≤ x1 ∧ x1 < x2 ∧ x3 = 1) := by omega
theorem la_isReached_1 {x0 : Int} (h0 : 0 ≤ x0) (h1 : ¬ x0 = 0) : 0 < x0 := by omega
theorem la_isReached_2 {x0 : Int} (h0 : x0 ≤ 1) (h1 : 0 < x0) : x0 = 1 := by omega
theorem la_isReached_3 {x0 : Int} (h0 : 0 ≤ x0) (h1 : x0 ≤ 600) : sv_R (x0 - 1) := by omega
theorem la_isReached_4 {x0 x1 x2 x3 : Int} : ¬ (0 ≤ x0 ∧ x0 ≤ x1 - 1) → ((0 : Int) = 0 ∨ (0 : Int) = 1) ∧ ((0 : Int) = 1 → x2 = 1 ∧ 0 ≤ x0 ∧ x0 < x1 ∧ x3 = 1) := by omega
theorem la_isReached_5 {x0 x1 : Int} (h0 : x0 ≤ 600) (h1 : 0 ≤ x1) (h2 : x1 ≤ x0 - 1) : 0 ≤ x1 ∧ x1 < 640 := by omega
theorem la_isReached_6 {x0 x1 x2 x3 : Int} : x0 = 0 → ((0 : Int) = 0 ∨ (0 : Int) = 1) ∧ ((0 : Int) = 1 → x1 = 1 ∧ 0 ≤ x2 ∧ x2 < x3 ∧ x0 = 1) := by omega
theorem la_isReached_7 : (1 : Int) = 0 ∨ (1 : Int) = 1 := by omega
theorem la_isReached_8 {x0 x1 : Int} (h0 : x0 ≤ x1 - 1) : x0 < x1 := by omega
set_option maxHeartbeats 2000000 in
theorem f_isReached : ∀ (p1 : Int) (S : sv_S), sm_ok S → sv_R p1 → (((S 1119 0) = 1 → 0 ≤ (S 1046 0) ∧ (S 1046 0) ≤ 600)) → ((0 ≤ (S 1119 0) ∧ (S 1119 0) ≤ 1) → ((((S 1119 0) = (0 : Int)) → (((0 : Int) = 0 ∨ (0 : Int) = 1) ∧ ((0 : Int) = 1 → (S 1119 0) = 1 ∧ 0 ≤ p1 ∧ p1 < (S 1046 0) ∧ (S 71 p1) = 1))) ∧ ((¬ ((S 1119 0) = (0 : Int))) → (sv_R (S 1046 0) → (sv_R ((S 1046 0) - (1 : Int))) ∧ (((¬ ((0 : Int) ≤ p1 ∧ p1 ≤ ((S 1046 0) - (1 : Int)))) → (((0 : Int) = 0 ∨ (0 : Int) = 1) ∧ ((0 : Int) = 1 → (S 1119 0) = 1 ∧ 0 ≤ p1 ∧ p1 < (S 1046 0) ∧ (S 71 p1) = 1))) ∧ (((0 : Int) ≤ p1 ∧ p1 ≤ ((S 1046 0) - (1 : Int))) → (0 ≤ p1 ∧ p1 < 640) ∧ ((0 ≤ (S 71 p1) ∧ (S 71 p1) ≤ 1) → ((((S 71 p1) = (0 : Int)) → (((0 : Int) = 0 ∨ (0 : Int) = 1) ∧ ((0 : Int) = 1 → (S 1119 0) = 1 ∧ 0 ≤ p1 ∧ p1 < (S 1046 0) ∧ (S 71 p1) = 1))) ∧ ((¬ ((S 71 p1) = (0 : Int))) → (((1 : Int) = 0 ∨ (1 : Int) = 1) ∧ ((1 : Int) = 1 → (S 1119 0) = 1 ∧ 0 ≤ p1 ∧ p1 < (S 1046 0) ∧ (S 71 p1) = 1))))))))))) := by
  intro p1
  intro S
  intro h1_
  intro h2_
  intro h3_
  rintro ⟨h4_, h5_⟩
  refine ⟨la_isReached_0, ?_⟩
  intro h6_
  obtain ⟨h7_, h8_⟩ := (h3_ (la_isReached_2 h5_ (la_isReached_1 h4_ h6_)))
  intro h9_
  refine ⟨(la_isReached_3 h7_ h8_), ?_⟩
  refine ⟨la_isReached_4, ?_⟩
  rintro ⟨h10_, h11_⟩
  refine ⟨(la_isReached_5 h8_ h10_ h11_), ?_⟩
  rintro ⟨h12_, h13_⟩
  refine ⟨la_isReached_6, ?_⟩
  intro h14_
  refine ⟨la_isReached_7, ?_⟩
  intro h15_
  refine ⟨(la_isReached_2 h5_ (la_isReached_1 h4_ h6_)), ?_⟩
  refine ⟨h10_, ?_⟩
  refine ⟨(la_isReached_8 h11_), ?_⟩
  exact (la_isReached_2 h13_ (la_isReached_1 h12_ h14_))
set_option maxRecDepth 8000 in
set_option maxHeartbeats 2000000 in
theorem t_isReached : ∀ (p1 : Int) (S : sv_S), sm_ok S → sv_R p1 → (((S 1119 0) = 1 → 0 ≤ (S 1046 0) ∧ (S 1046 0) ≤ 600)) → sv_T sm_XS sm_cs sm_L sm_sh 1 (q_isReached p1 S) 295 0 (lv_args 0 [.ref 0, sv_I p1]) [] S := by
  intro p1 S hok hp1 hpre
  have h := f_isReached p1 S hok hp1 hpre
  have hM := sm_h295
  show sv_T sm_XS sm_cs sm_L sm_sh 1 (q_isReached p1 S) 295 0 [(0, .ref 0), (1, sv_I p1)] [] S
  refine sv_aload_n hM dX12_isReached_0 rfl rfl ?_
  refine sv_iconst (d := (0 : Int)) hM dX12_isReached_1 rfl rfl ?_
  refine sv_putI sm_X hM dX12_isReached_2 sm_fp_289 (sm_a0 _) sm_q0 (Or.inl rfl) rfl rfl rfl rfl ?_
  have ok1 : sm_ok (sv_up S 1000 0 (0 : Int)) := sm_upI hok sm_r1000 (⟨by decide, by decide⟩ : sv_R (0 : Int))
  have md2 : sv_mod [1000] S (sv_up S 1000 0 (0 : Int)) := sv_mod.up sv_mod.rf (by decide)
  refine sv_aload_n hM dX12_isReached_5 rfl rfl ?_
  have k3 : (0 ≤ (S 1119 0) ∧ (S 1119 0) ≤ 1) := sm_okZ ok1 sm_r1119 0
  have h := h k3
  refine sv_getI hM dX12_isReached_6 sm_fl_776 (sm_a0 _) sm_k119 rfl (x := (S 1119 0)) rfl ?_
  refine sv_cond_eq hM dX12_isReached_9 (sv_R01 k3) (t := 39) rfl rfl (fun hc => ?_) (fun hc => ?_)
  · have h := h.1 (hc)
    refine sv_iconst (d := (0 : Int)) hM dX12_isReached_39 rfl rfl ?_
    exact sv_iret hM dX12_isReached_40 rfl (sv_nz (⟨by decide, by decide⟩ : 0 ≤ (0 : Int) ∧ (0 : Int) ≤ 1)) ⟨(0 : Int), rfl, sv_R01 (⟨by decide, by decide⟩ : 0 ≤ (0 : Int) ∧ (0 : Int) ≤ 1), ok1, md2, h⟩
  · have h := h.2 (hc)
    refine sv_iload_n hM dX12_isReached_12 rfl rfl ?_
    refine sv_iconst (d := (0 : Int)) hM dX12_isReached_13 rfl rfl ?_
    refine sv_aload_n hM dX12_isReached_14 rfl rfl ?_
    have k4 : sv_R (S 1046 0) := sm_okI ok1 sm_r1046 0
    have h := h k4
    refine sv_getI hM dX12_isReached_15 sm_fl_606 (sm_a0 _) sm_k46 rfl (x := (S 1046 0)) rfl ?_
    refine sv_iconst (d := (1 : Int)) hM dX12_isReached_18 rfl rfl ?_
    refine sv_isub hM dX12_isReached_19 rfl ?_
    obtain ⟨o5, h⟩ := h
    refine sv_callS hM dX12_isReached_20 sm_iv_899 (Nat.le_of_ble_eq_true rfl) rfl rfl (Nat.le_of_ble_eq_true rfl) sm_h4 (Nat.le_of_ble_eq_true rfl) (Nat.le_of_ble_eq_true rfl) (F' := 0) (Nat.le_of_ble_eq_true rfl) rfl (t_in p1 (0 : Int) ((S 1046 0) - (1 : Int)) (sv_up S 1000 0 (0 : Int)) ok1 hp1 (⟨by decide, by decide⟩ : sv_R (0 : Int)) o5) (fun v S1 hq => ?_)
    obtain ⟨rfl, hS1⟩ := hq
    obtain rfl : (sv_up S 1000 0 (0 : Int)) = S1 := hS1.symm
    show sv_T sm_XS sm_cs sm_L sm_sh 1 (q_isReached p1 S) 295 23 [(0, .ref 0), (1, sv_I p1)] [sv_I (if (0 : Int) ≤ p1 ∧ p1 ≤ ((S 1046 0) - (1 : Int)) then 1 else 0)] (sv_up S 1000 0 (0 : Int))
    refine sv_cond_eq hM dX12_isReached_23 (sv_Rite : sv_R (if (0 : Int) ≤ p1 ∧ p1 ≤ ((S 1046 0) - (1 : Int)) then 1 else 0)) (t := 39) rfl rfl (fun hc => ?_) (fun hc => ?_)
    · have h := h.1 (sv_iten hc)
      refine sv_iconst (d := (0 : Int)) hM dX12_isReached_39 rfl rfl ?_
      exact sv_iret hM dX12_isReached_40 rfl (sv_nz (⟨by decide, by decide⟩ : 0 ≤ (0 : Int) ∧ (0 : Int) ≤ 1)) ⟨(0 : Int), rfl, sv_R01 (⟨by decide, by decide⟩ : 0 ≤ (0 : Int) ∧ (0 : Int) ≤ 1), ok1, md2, h⟩
    · have h := h.2 (sv_itep hc)
      refine sv_aload_n hM dX12_isReached_26 rfl rfl ?_
      refine sv_getA hM dX12_isReached_27 sm_fl_226 (sm_a0 _) sm_k122 rfl ?_
      refine sv_iload_n hM dX12_isReached_30 rfl rfl ?_
      obtain ⟨o6, h⟩ := h
      have k7 : (0 ≤ (S 71 p1) ∧ (S 71 p1) ≤ 1) := sm_okZ ok1 sm_r71 p1
      have h := h k7
      refine sv_zald hM dX12_isReached_31 (sm_a71 _) (by decide) o6.1 o6.2 rfl (x := (S 71 p1)) rfl ?_
      refine sv_cond_eq hM dX12_isReached_32 (sv_R01 k7) (t := 39) rfl rfl (fun hc => ?_) (fun hc => ?_)
      · have h := h.1 (hc)
        refine sv_iconst (d := (0 : Int)) hM dX12_isReached_39 rfl rfl ?_
        exact sv_iret hM dX12_isReached_40 rfl (sv_nz (⟨by decide, by decide⟩ : 0 ≤ (0 : Int) ∧ (0 : Int) ≤ 1)) ⟨(0 : Int), rfl, sv_R01 (⟨by decide, by decide⟩ : 0 ≤ (0 : Int) ∧ (0 : Int) ≤ 1), ok1, md2, h⟩
      · have h := h.2 (hc)
        refine sv_iconst (d := (1 : Int)) hM dX12_isReached_35 rfl rfl ?_
        refine sv_goto hM dX12_isReached_36 (pc' := 40) rfl ?_
        exact sv_iret hM dX12_isReached_40 rfl (sv_nz (⟨by decide, by decide⟩ : 0 ≤ (1 : Int) ∧ (1 : Int) ≤ 1)) ⟨(1 : Int), rfl, sv_R01 (⟨by decide, by decide⟩ : 0 ≤ (1 : Int) ∧ (1 : Int) ≤ 1), ok1, md2, h⟩
def q_tell (p1 : Int) (p2 : Int) (S : sv_S) : Option Value → sv_S → Prop := fun v S' => ∃ r : Int, v = some (sv_L r) ∧ sv_RL r ∧ sm_ok S' ∧ sv_mod [] S S' ∧ (True)
theorem la_tell_0 {x0 : Int} (h0 : 0 ≤ x0) (h1 : x0 < 647800) : 0 ≤ x0 ∧ x0 < 647800 := by omega
set_option maxHeartbeats 2000000 in
theorem f_tell : ∀ (p1 : Int) (p2 : Int) (S : sv_S), sm_ok S → sv_R p1 → sv_R p2 → (0 ≤ p1 ∧ p1 < 647800) → (((p2 < (0 : Int) ∨ (4 : Int) < p2) → (True)) ∧ ((p2 = (0 : Int)) → (0 ≤ p1 ∧ p1 < 647800) ∧ (∀ r6 : Int, sv_R r6 → (r6 = (S 68 p1) % 1024 ∧ 0 ≤ r6 ∧ r6 ≤ 1023) → (True))) ∧ ((p2 = (1 : Int)) → (0 ≤ p1 ∧ p1 < 647800) ∧ (∀ r12 : Int, sv_R r12 → (True) → (True))) ∧ ((p2 = (2 : Int)) → (0 ≤ p1 ∧ p1 < 647800) ∧ (∀ r18 : Int, sv_R r18 → (0 ≤ r18 ∧ r18 ≤ 127) → (True))) ∧ ((p2 = (3 : Int)) → (0 ≤ p1 ∧ p1 < 647800) ∧ (sv_RL (S 69 p1) → (True))) ∧ ((p2 = (4 : Int)) → (0 ≤ p1 ∧ p1 < 647800) ∧ (sv_RL (S 70 p1) → (True)))) := by
  intro p1
  intro p2
  intro S
  intro h1_
  intro h2_
  intro h3_
  rintro ⟨h4_, h5_⟩
  refine ⟨?_, ?_⟩
  · skip
    intro h6_
    exact trivial
  refine ⟨?_, ?_⟩
  · skip
    intro h7_
    refine ⟨(la_tell_0 h4_ h5_), ?_⟩
    intro r6
    intro h8_
    rintro ⟨h9_, ⟨h10_, h11_⟩⟩
    exact trivial
  refine ⟨?_, ?_⟩
  · skip
    intro h12_
    refine ⟨(la_tell_0 h4_ h5_), ?_⟩
    intro r12
    intro h13_
    intro _
    exact trivial
  refine ⟨?_, ?_⟩
  · skip
    intro h14_
    refine ⟨(la_tell_0 h4_ h5_), ?_⟩
    intro r18
    intro h15_
    rintro ⟨h16_, h17_⟩
    exact trivial
  refine ⟨?_, ?_⟩
  · skip
    intro h18_
    refine ⟨(la_tell_0 h4_ h5_), ?_⟩
    intro h19_
    exact trivial
  intro h20_
  refine ⟨(la_tell_0 h4_ h5_), ?_⟩
  intro h21_
  exact trivial
set_option maxRecDepth 8000 in
set_option maxHeartbeats 2000000 in
theorem t_tell : ∀ (p1 : Int) (p2 : Int) (S : sv_S), sm_ok S → sv_R p1 → sv_R p2 → (0 ≤ p1 ∧ p1 < 647800) → sv_T sm_XS sm_cs sm_L sm_sh 1 (q_tell p1 p2 S) 296 0 (lv_args 0 [.ref 0, sv_I p1, sv_I p2]) [] S := by
  intro p1 p2 S hok hp1 hp2 hpre
  have h := f_tell p1 p2 S hok hp1 hp2 hpre
  have hM := sm_h296
  show sv_T sm_XS sm_cs sm_L sm_sh 1 (q_tell p1 p2 S) 296 0 [(0, .ref 0), (1, sv_I p1), (2, sv_I p2)] [] S
  refine sv_iload_n hM dX12_tell_0 rfl rfl ?_
  have hS := h
  have J0 : (p2 < (0 : Int) ∨ (4 : Int) < p2) → sv_T sm_XS sm_cs sm_L sm_sh 1 (q_tell p1 p2 S) 296 71 [(0, .ref 0), (1, sv_I p1), (2, sv_I p2)] [] S := by
    intro hc
    have h := hS.1 hc
    refine sv_lconst (d := (0 : Int)) hM dX12_tell_71 rfl rfl ?_
    exact sv_lret hM dX12_tell_72 rfl ⟨(0 : Int), rfl, (⟨by decide, by decide⟩ : sv_RL (0 : Int)), hok, sv_mod.rf, h⟩
  have J1 : (p2 = (0 : Int)) → sv_T sm_XS sm_cs sm_L sm_sh 1 (q_tell p1 p2 S) 296 36 [(0, .ref 0), (1, sv_I p1), (2, sv_I p2)] [] S := by
    intro hc
    have h := hS.2.1 hc
    refine sv_aload_n hM dX12_tell_36 rfl rfl ?_
    refine sv_iload_n hM dX12_tell_37 rfl rfl ?_
    obtain ⟨o1, h⟩ := h
    refine sv_callV hM dX12_tell_38 sm_iv_1047 (by decide) (sm_a0 _) rfl rfl (Nat.le_of_ble_eq_true rfl) sm_h202 (Nat.le_of_ble_eq_true rfl) (Nat.le_of_ble_eq_true rfl) (F' := 0) (Nat.le_of_ble_eq_true rfl) rfl (t_has p1 S hok hp1 o1) (fun v S1 hq => ?_)
    obtain ⟨r6, rfl, hr6, ok3, md4, hpo5⟩ := hq
    obtain rfl : S = S1 := (funext fun j => md4 j (by intro q; cases q)).symm
    show sv_T sm_XS sm_cs sm_L sm_sh 1 (q_tell p1 p2 S) 296 41 [(0, .ref 0), (1, sv_I p1), (2, sv_I p2)] [sv_I r6] S
    have h := h r6 hr6 hpo5
    refine sv_i2l hM dX12_tell_41 hr6 rfl ?_
    exact sv_lret hM dX12_tell_42 rfl ⟨r6, rfl, (sv_RLR hr6), ok3, sv_mod.rf, h⟩
  have J2 : (p2 = (1 : Int)) → sv_T sm_XS sm_cs sm_L sm_sh 1 (q_tell p1 p2 S) 296 43 [(0, .ref 0), (1, sv_I p1), (2, sv_I p2)] [] S := by
    intro hc
    have h := hS.2.2.1 hc
    refine sv_aload_n hM dX12_tell_43 rfl rfl ?_
    refine sv_iload_n hM dX12_tell_44 rfl rfl ?_
    obtain ⟨o7, h⟩ := h
    refine sv_callV hM dX12_tell_45 sm_iv_1050 (by decide) (sm_a0 _) rfl rfl (Nat.le_of_ble_eq_true rfl) sm_h204 (Nat.le_of_ble_eq_true rfl) (Nat.le_of_ble_eq_true rfl) (F' := 0) (Nat.le_of_ble_eq_true rfl) rfl (t_number p1 S hok hp1 o7) (fun v S1 hq => ?_)
    obtain ⟨r12, rfl, hr12, ok9, md10, hpo11⟩ := hq
    obtain rfl : S = S1 := (funext fun j => md10 j (by intro q; cases q)).symm
    show sv_T sm_XS sm_cs sm_L sm_sh 1 (q_tell p1 p2 S) 296 48 [(0, .ref 0), (1, sv_I p1), (2, sv_I p2)] [sv_I r12] S
    have h := h r12 hr12 hpo11
    refine sv_i2l hM dX12_tell_48 hr12 rfl ?_
    exact sv_lret hM dX12_tell_49 rfl ⟨r12, rfl, (sv_RLR hr12), ok9, sv_mod.rf, h⟩
  have J3 : (p2 = (2 : Int)) → sv_T sm_XS sm_cs sm_L sm_sh 1 (q_tell p1 p2 S) 296 50 [(0, .ref 0), (1, sv_I p1), (2, sv_I p2)] [] S := by
    intro hc
    have h := hS.2.2.2.1 hc
    refine sv_aload_n hM dX12_tell_50 rfl rfl ?_
    refine sv_iload_n hM dX12_tell_51 rfl rfl ?_
    obtain ⟨o13, h⟩ := h
    refine sv_callV hM dX12_tell_52 sm_iv_1053 (by decide) (sm_a0 _) rfl rfl (Nat.le_of_ble_eq_true rfl) sm_h203 (Nat.le_of_ble_eq_true rfl) (Nat.le_of_ble_eq_true rfl) (F' := 0) (Nat.le_of_ble_eq_true rfl) rfl (t_name p1 S hok hp1 o13) (fun v S1 hq => ?_)
    obtain ⟨r18, rfl, hr18, ok15, md16, hpo17⟩ := hq
    obtain rfl : S = S1 := (funext fun j => md16 j (by intro q; cases q)).symm
    show sv_T sm_XS sm_cs sm_L sm_sh 1 (q_tell p1 p2 S) 296 55 [(0, .ref 0), (1, sv_I p1), (2, sv_I p2)] [sv_I r18] S
    have h := h r18 hr18 hpo17
    refine sv_i2l hM dX12_tell_55 hr18 rfl ?_
    exact sv_lret hM dX12_tell_56 rfl ⟨r18, rfl, (sv_RLR hr18), ok15, sv_mod.rf, h⟩
  have J4 : (p2 = (3 : Int)) → sv_T sm_XS sm_cs sm_L sm_sh 1 (q_tell p1 p2 S) 296 57 [(0, .ref 0), (1, sv_I p1), (2, sv_I p2)] [] S := by
    intro hc
    have h := hS.2.2.2.2.1 hc
    refine sv_aload_n hM dX12_tell_57 rfl rfl ?_
    refine sv_getA hM dX12_tell_58 sm_fl_220 (sm_a0 _) sm_k117 rfl ?_
    refine sv_iload_n hM dX12_tell_61 rfl rfl ?_
    obtain ⟨o19, h⟩ := h
    have k20 : sv_RL (S 69 p1) := sm_okJ hok sm_r69 p1
    have h := h k20
    refine sv_lald hM dX12_tell_62 (sm_a69 _) (by decide) o19.1 o19.2 rfl (x := (S 69 p1)) rfl ?_
    exact sv_lret hM dX12_tell_63 rfl ⟨(S 69 p1), rfl, k20, hok, sv_mod.rf, h⟩
  have J5 : (p2 = (4 : Int)) → sv_T sm_XS sm_cs sm_L sm_sh 1 (q_tell p1 p2 S) 296 64 [(0, .ref 0), (1, sv_I p1), (2, sv_I p2)] [] S := by
    intro hc
    have h := hS.2.2.2.2.2 hc
    refine sv_aload_n hM dX12_tell_64 rfl rfl ?_
    refine sv_getA hM dX12_tell_65 sm_fl_223 (sm_a0 _) sm_k118 rfl ?_
    refine sv_iload_n hM dX12_tell_68 rfl rfl ?_
    obtain ⟨o21, h⟩ := h
    have k22 : sv_RL (S 70 p1) := sm_okJ hok sm_r70 p1
    have h := h k22
    refine sv_lald hM dX12_tell_69 (sm_a70 _) (by decide) o21.1 o21.2 rfl (x := (S 70 p1)) rfl ?_
    exact sv_lret hM dX12_tell_70 rfl ⟨(S 70 p1), rfl, k22, hok, sv_mod.rf, h⟩
  refine sv_tsw hM dX12_tell_1 hp2 (t := 71) rfl (fun hc => J0 (by rcases hc with hc | hc; exact Or.inl hc; exact Or.inr hc)) (fun hc => ?_)
  have hv : p2 = (0 : Int) ∨ p2 = (1 : Int) ∨ p2 = (2 : Int) ∨ p2 = (3 : Int) ∨ p2 = (4 : Int) := by omega
  rcases hv with hv | hv | hv | hv | hv
  · exact ⟨35, 36, by rw [hv]; rfl, rfl, J1 (by omega)⟩
  · exact ⟨42, 43, by rw [hv]; rfl, rfl, J2 (by omega)⟩
  · exact ⟨49, 50, by rw [hv]; rfl, rfl, J3 (by omega)⟩
  · exact ⟨56, 57, by rw [hv]; rfl, rfl, J4 (by omega)⟩
  · exact ⟨63, 64, by rw [hv]; rfl, rfl, J5 (by omega)⟩
def q_height (p1 : Int) (S : sv_S) : Option Value → sv_S → Prop := fun v S' => ∃ r : Int, v = some (sv_I r) ∧ sv_R r ∧ sm_ok S' ∧ sv_mod [1000] S S' ∧ (True)
theorem la_height_0 {x0 x1 : Int} (h0 : 1 ≤ x0) (h1 : x1 + 2 * x0 ≤ 500) : x1 ≤ 600 := by omega
theorem la_height_1 {x0 : Int} (h0 : x0 = 0) : ¬ x0 = 1 := by omega
theorem la_height_2 {x0 : Int} (h0 : x0 = 1) : 0 ≤ x0 := by omega
theorem la_height_3 {x0 : Int} (h0 : 0 ≤ x0) (h1 : ¬ x0 = 0) : 0 < x0 := by omega
theorem la_height_4 {x0 x1 x2 : Int} (h0 : 0 ≤ x0) (h1 : x0 < x1) (h2 : 1 ≤ x2) (h3 : x1 + 2 * x2 ≤ 500) : 0 ≤ x0 ∧ x0 < 640 := by omega
set_option maxHeartbeats 2000000 in
theorem f_height : ∀ (p1 : Int) (S : sv_S), sm_ok S → sv_R p1 → (((S 1119 0) = 1 → 29 ≤ (S 1071 0) ∧ (S 1071 0) ≤ 127 ∧ 31 ≤ (S 1008 0) ∧ (S 1008 0) ≤ 90 ∧ 1 ≤ (S 1032 0) ∧ (S 1032 0) ≤ 11 ∧ 0 ≤ (S 1055 0) ∧ (S 1055 0) ≤ 19 ∧ (S 1071 0) = 29 + 6 * ((S 1032 0) - 1) + 2 * (S 1055 0) ∧ 0 ≤ (S 1046 0) ∧ (S 1046 0) + 2 * (S 1032 0) ≤ 500 ∧ sm_PD (S 1046 0) (S 1032 0) (S 1071 0) (S 1008 0) ∧ 0 ≤ (S 1071 0) * ((S 1008 0) + 1) ∧ (S 1071 0) * ((S 1008 0) + 1) ≤ 11557 ∧ sm_ST (S 71) (S 74) (S 75) (S 78) (S 79) (S 80) (S 27) (S 1100007) (S 1100023) (S 1100024) (S 1046 0) ((S 1046 0) + 2 * (S 1032 0)) (S 1127 0) ∧ 465000 ≤ (S 1127 0) ∧ (S 1127 0) ≤ 635000 ∧ sm_NH (S 1100007))) → (((S 1119 0) = 1 → 0 ≤ (S 1046 0) ∧ (S 1046 0) ≤ 600)) ∧ (∀ r6 : Int, sv_R r6 → ∀ g2 : sv_S, ((r6 = 0 ∨ r6 = 1) ∧ (r6 = 1 → (S 1119 0) = 1 ∧ 0 ≤ p1 ∧ p1 < (S 1046 0) ∧ (S 71 p1) = 1)) → (((r6 = (0 : Int)) → (True)) ∧ ((¬ (r6 = (0 : Int))) → (0 ≤ p1 ∧ p1 < 640) ∧ (sv_R (S 74 p1) → (True))))) := by
  intro p1
  intro S
  intro h1_
  intro h2_
  intro h3_
  refine ⟨?_, ?_⟩
  · skip
    intro h4_
    obtain ⟨h5_, ⟨h6_, ⟨h7_, ⟨h8_, ⟨h9_, ⟨h10_, ⟨h11_, ⟨h12_, ⟨h13_, ⟨h14_, ⟨h15_, ⟨h16_, ⟨h17_, ⟨h18_, ⟨h19_, ⟨h20_, ⟨h21_, h22_⟩⟩⟩⟩⟩⟩⟩⟩⟩⟩⟩⟩⟩⟩⟩⟩⟩ := (h3_ h4_)
    refine ⟨h14_, ?_⟩
    exact (la_height_0 h9_ h15_)
  intro r6
  intro h23_
  intro g2
  rintro ⟨h24_, h25_⟩
  refine ⟨?_, ?_⟩
  · skip
    intro h26_
    have h27_ := (h24_.resolve_right (la_height_1 h26_))
    exact trivial
  intro h28_
  have h29_ := (h24_.resolve_left h28_)
  obtain ⟨h30_, ⟨h31_, ⟨h32_, h33_⟩⟩⟩ := (h25_ h29_)
  obtain ⟨h34_, ⟨h35_, ⟨h36_, ⟨h37_, ⟨h38_, ⟨h39_, ⟨h40_, ⟨h41_, ⟨h42_, ⟨h43_, ⟨h44_, ⟨h45_, ⟨h46_, ⟨h47_, ⟨h48_, ⟨h49_, ⟨h50_, h51_⟩⟩⟩⟩⟩⟩⟩⟩⟩⟩⟩⟩⟩⟩⟩⟩⟩ := (h3_ h30_)
  refine ⟨(la_height_4 h31_ h32_ h38_ h44_), ?_⟩
  intro h52_
  exact trivial
set_option maxRecDepth 8000 in
set_option maxHeartbeats 2000000 in
theorem t_height : ∀ (p1 : Int) (S : sv_S), sm_ok S → sv_R p1 → (((S 1119 0) = 1 → 29 ≤ (S 1071 0) ∧ (S 1071 0) ≤ 127 ∧ 31 ≤ (S 1008 0) ∧ (S 1008 0) ≤ 90 ∧ 1 ≤ (S 1032 0) ∧ (S 1032 0) ≤ 11 ∧ 0 ≤ (S 1055 0) ∧ (S 1055 0) ≤ 19 ∧ (S 1071 0) = 29 + 6 * ((S 1032 0) - 1) + 2 * (S 1055 0) ∧ 0 ≤ (S 1046 0) ∧ (S 1046 0) + 2 * (S 1032 0) ≤ 500 ∧ sm_PD (S 1046 0) (S 1032 0) (S 1071 0) (S 1008 0) ∧ 0 ≤ (S 1071 0) * ((S 1008 0) + 1) ∧ (S 1071 0) * ((S 1008 0) + 1) ≤ 11557 ∧ sm_ST (S 71) (S 74) (S 75) (S 78) (S 79) (S 80) (S 27) (S 1100007) (S 1100023) (S 1100024) (S 1046 0) ((S 1046 0) + 2 * (S 1032 0)) (S 1127 0) ∧ 465000 ≤ (S 1127 0) ∧ (S 1127 0) ≤ 635000 ∧ sm_NH (S 1100007))) → sv_T sm_XS sm_cs sm_L sm_sh 2 (q_height p1 S) 297 0 (lv_args 0 [.ref 0, sv_I p1]) [] S := by
  intro p1 S hok hp1 hpre
  have h := f_height p1 S hok hp1 hpre
  have hM := sm_h297
  show sv_T sm_XS sm_cs sm_L sm_sh 2 (q_height p1 S) 297 0 [(0, .ref 0), (1, sv_I p1)] [] S
  refine sv_aload_n hM dX12_height_0 rfl rfl ?_
  refine sv_iload_n hM dX12_height_1 rfl rfl ?_
  obtain ⟨o1, h⟩ := h
  refine sv_callV hM dX12_height_2 sm_iv_1387 (by decide) (sm_a0 _) rfl rfl (Nat.le_of_ble_eq_true rfl) sm_h295 (Nat.le_of_ble_eq_true rfl) (Nat.le_of_ble_eq_true rfl) (F' := 1) (Nat.le_of_ble_eq_true rfl) rfl (t_isReached p1 S hok hp1 o1) (fun v S1 hq => ?_)
  obtain ⟨r6, rfl, hr6, ok3, md4, hpo5⟩ := hq
  obtain ⟨g2, rfl⟩ : ∃ g, S1 = sv_sts S [1000] g := ⟨_, md4.eq⟩
  show sv_T sm_XS sm_cs sm_L sm_sh 2 (q_height p1 S) 297 5 [(0, .ref 0), (1, sv_I p1)] [sv_I r6] (sv_sts S [1000] g2)
  have md7 : sv_mod [1000] S (sv_sts S [1000] g2) := sv_mod.sts sv_mod.rf (by decide)
  have h := h r6 hr6 g2 hpo5
  refine sv_cond_eq hM dX12_height_5 hr6 (t := 17) rfl rfl (fun hc => ?_) (fun hc => ?_)
  · have h := h.1 (hc)
    refine sv_iconst (d := (-1 : Int)) hM dX12_height_17 rfl rfl ?_
    exact sv_iret hM dX12_height_18 rfl rfl ⟨(-1 : Int), rfl, (⟨by decide, by decide⟩ : sv_R (-1 : Int)), ok3, md7, h⟩
  · have h := h.2 (hc)
    refine sv_aload_n hM dX12_height_8 rfl rfl ?_
    refine sv_getA hM dX12_height_9 sm_fl_235 (sm_a0 _) sm_k125 rfl ?_
    refine sv_iload_n hM dX12_height_12 rfl rfl ?_
    obtain ⟨o8, h⟩ := h
    have k9 : sv_R (S 74 p1) := sm_okI ok3 sm_r74 p1
    have h := h k9
    refine sv_iald hM dX12_height_13 (sm_a74 _) (by decide) o8.1 o8.2 rfl (x := (S 74 p1)) rfl ?_
    refine sv_goto hM dX12_height_14 (pc' := 18) rfl ?_
    exact sv_iret hM dX12_height_18 rfl rfl ⟨(S 74 p1), rfl, k9, ok3, md7, h⟩
def q_slot (p1 : Int) (p2 : Int) (p3 : Int) (S : sv_S) : Option Value → sv_S → Prop := fun v S' => ∃ r : Int, v = some (sv_L r) ∧ sv_RL r ∧ sm_ok S' ∧ sv_mod [1000] S S' ∧ (True)
theorem la_slot_0 {x0 x1 : Int} (h0 : 1 ≤ x0) (h1 : x1 + 2 * x0 ≤ 500) : x1 ≤ 600 := by omega
theorem la_slot_1 {x0 : Int} (h0 : x0 = 0) : ¬ x0 = 1 := by omega
theorem la_slot_2 {x0 : Int} (h0 : x0 = 1) : 0 ≤ x0 := by omega
theorem la_slot_3 {x0 : Int} (h0 : 0 ≤ x0) (h1 : ¬ x0 = 0) : 0 < x0 := by omega
theorem la_slot_4 {x0 x1 x2 : Int} (h0 : x0 < x1) (h1 : 1 ≤ x2) : x0 < x1 + 2 * x2 := by omega
theorem la_slot_5 {x0 x1 x2 : Int} (h0 : x0 < x1) (h1 : 1 ≤ x2) (h2 : x1 + 2 * x2 ≤ 500) : x0 < 640 := by omega
theorem la_slot_6 {x0 x1 x2 : Int} (h0 : 0 ≤ x0) (h1 : x0 < x1) (h2 : 1 ≤ x2) (h3 : x1 + 2 * x2 ≤ 500) : 0 ≤ x0 ∧ x0 < 640 := by omega
theorem la_slot_7 {x0 x1 : Int} (h0 : x0 = x1) (h1 : 0 ≤ x1) (h2 : x1 ≤ 400) : sv_R (x0 - 1) := by omega
theorem la_slot_8 {x0 : Int} (h0 : (-1) ≤ x0) (h1 : ¬ x0 = (-1)) : (-1) < x0 := by omega
theorem la_slot_9 {x0 x1 x2 x3 x4 x5 x6 x7 : Int} (h0 : 0 ≤ x0) (h1 : x0 < x1) (h2 : 1 ≤ x2) (h3 : x1 + 2 * x2 ≤ 500) (h4 : x3 ≤ 635000) (h5 : x4 = x5) (h6 : 465000 ≤ x6) (h7 : x6 + x4 ≤ x3) (h8 : x5 ≤ 400) (h9 : x7 ≤ x4 - 1) (h10 : (-1) < x7) : 0 ≤ x0 ∧ x0 < 640 ∧ (-1000) ≤ x7 ∧ x7 ≤ 1000 ∧ 0 ≤ x6 ∧ x6 ≤ 647800 := by omega
theorem la_slot_10 {x0 x1 x2 x3 x4 : Int} (h0 : x0 ≤ 635000) (h1 : 465000 ≤ x1) (h2 : x1 + x2 ≤ x0) (h3 : x3 ≤ x2 - 1) (h4 : (-1) < x3) (h5 : x4 = x1 + x3) : 0 ≤ x4 ∧ x4 < 647800 := by omega
theorem la_slot_11 {x0 x1 x2 : Int} (h0 : 0 ≤ x0) (h1 : x0 < x1) (h2 : 1 ≤ x2) (h3 : x1 + 2 * x2 ≤ 500) : sv_R (635000 + x0) := by omega
theorem la_slot_12 {x0 x1 x2 : Int} (h0 : 0 ≤ x0) (h1 : x0 < x1) (h2 : 1 ≤ x2) (h3 : x1 + 2 * x2 ≤ 500) : 0 ≤ 635000 + x0 ∧ 635000 + x0 < 647800 := by omega
set_option maxHeartbeats 2000000 in
theorem f_slot : ∀ (p1 : Int) (p2 : Int) (p3 : Int) (S : sv_S), sm_ok S → sv_R p1 → sv_R p2 → sv_R p3 → (((S 1119 0) = 1 → 29 ≤ (S 1071 0) ∧ (S 1071 0) ≤ 127 ∧ 31 ≤ (S 1008 0) ∧ (S 1008 0) ≤ 90 ∧ 1 ≤ (S 1032 0) ∧ (S 1032 0) ≤ 11 ∧ 0 ≤ (S 1055 0) ∧ (S 1055 0) ≤ 19 ∧ (S 1071 0) = 29 + 6 * ((S 1032 0) - 1) + 2 * (S 1055 0) ∧ 0 ≤ (S 1046 0) ∧ (S 1046 0) + 2 * (S 1032 0) ≤ 500 ∧ sm_PD (S 1046 0) (S 1032 0) (S 1071 0) (S 1008 0) ∧ 0 ≤ (S 1071 0) * ((S 1008 0) + 1) ∧ (S 1071 0) * ((S 1008 0) + 1) ≤ 11557 ∧ sm_ST (S 71) (S 74) (S 75) (S 78) (S 79) (S 80) (S 27) (S 1100007) (S 1100023) (S 1100024) (S 1046 0) ((S 1046 0) + 2 * (S 1032 0)) (S 1127 0) ∧ 465000 ≤ (S 1127 0) ∧ (S 1127 0) ≤ 635000 ∧ sm_NH (S 1100007))) → (((S 1119 0) = 1 → 0 ≤ (S 1046 0) ∧ (S 1046 0) ≤ 600)) ∧ (∀ r6 : Int, sv_R r6 → ∀ g2 : sv_S, ((r6 = 0 ∨ r6 = 1) ∧ (r6 = 1 → (S 1119 0) = 1 ∧ 0 ≤ p1 ∧ p1 < (S 1046 0) ∧ (S 71 p1) = 1)) → (((r6 = (0 : Int)) → (True)) ∧ ((¬ (r6 = (0 : Int))) → ((sm_ST (S 71) (S 74) (S 75) (S 78) (S 79) (S 80) (S 27) (S 1100007) (S 1100023) (S 1100024) (S 1046 0) ((S 1046 0) + 2 * (S 1032 0)) (S 1127 0) → 0 ≤ p1 → p1 < ((S 1046 0) + 2 * (S 1032 0)) → (S 71 p1) = 1 → (S 74 p1) = (S 1100007 p1) ∧ 465000 ≤ (S 75 p1) ∧ (S 75 p1) + (S 74 p1) ≤ (S 1127 0) ∧ 0 ≤ (S 78 p1) ∧ (S 78 p1) ≤ 40) → ((sm_NH (S 1100007) → 0 ≤ p1 → p1 < 640 → 0 ≤ (S 1100007 p1) ∧ (S 1100007 p1) ≤ 400) → (0 ≤ p1 ∧ p1 < 640) ∧ (sv_R (S 74 p1) → (sv_R ((S 74 p1) - (1 : Int))) ∧ ((((-1 : Int) ≤ p2 ∧ p2 ≤ ((S 74 p1) - (1 : Int))) → ((sm_ST (S 71) (S 74) (S 75) (S 78) (S 79) (S 80) (S 27) (S 1100007) (S 1100023) (S 1100024) (S 1046 0) ((S 1046 0) + 2 * (S 1032 0)) (S 1127 0) → 0 ≤ p1 → p1 < ((S 1046 0) + 2 * (S 1032 0)) → (S 71 p1) = 1 → (S 74 p1) = (S 1100007 p1) ∧ 465000 ≤ (S 75 p1) ∧ (S 75 p1) + (S 74 p1) ≤ (S 1127 0) ∧ 0 ≤ (S 78 p1) ∧ (S 78 p1) ≤ 40) → ((sm_NH (S 1100007) → 0 ≤ p1 → p1 < 640 → 0 ≤ (S 1100007 p1) ∧ (S 1100007 p1) ≤ 400) → (((¬ p2 = (-1 : Int)) → (0 ≤ p1 ∧ p1 < 640 ∧ -1000 ≤ p2 ∧ p2 ≤ 1000 ∧ 0 ≤ (S 75 p1) ∧ (S 75 p1) ≤ 647800) ∧ (∀ r20 : Int, sv_R r20 → (r20 = (S 75 p1) + p2) → (0 ≤ r20 ∧ r20 < 647800) ∧ (∀ r26 : Int, sv_RL r26 → (True) → (True)))) ∧ ((¬ (¬ p2 = (-1 : Int))) → (sv_R (635000 + p1)) ∧ (0 ≤ (635000 + p1) ∧ (635000 + p1) < 647800) ∧ (∀ r33 : Int, sv_RL r33 → (True) → (True))))))) ∧ ((¬ ((-1 : Int) ≤ p2 ∧ p2 ≤ ((S 74 p1) - (1 : Int)))) → (True))))))))) := by
  intro p1
  intro p2
  intro p3
  intro S
  intro h1_
  intro h2_
  intro h3_
  intro h4_
  intro h5_
  refine ⟨?_, ?_⟩
  · skip
    intro h6_
    obtain ⟨h7_, ⟨h8_, ⟨h9_, ⟨h10_, ⟨h11_, ⟨h12_, ⟨h13_, ⟨h14_, ⟨h15_, ⟨h16_, ⟨h17_, ⟨h18_, ⟨h19_, ⟨h20_, ⟨h21_, ⟨h22_, ⟨h23_, h24_⟩⟩⟩⟩⟩⟩⟩⟩⟩⟩⟩⟩⟩⟩⟩⟩⟩ := (h5_ h6_)
    refine ⟨h16_, ?_⟩
    exact (la_slot_0 h11_ h17_)
  intro r6
  intro h25_
  intro g2
  rintro ⟨h26_, h27_⟩
  refine ⟨?_, ?_⟩
  · skip
    intro h28_
    have h29_ := (h26_.resolve_right (la_slot_1 h28_))
    exact trivial
  intro h30_
  have h31_ := (h26_.resolve_left h30_)
  obtain ⟨h32_, ⟨h33_, ⟨h34_, h35_⟩⟩⟩ := (h27_ h31_)
  obtain ⟨h36_, ⟨h37_, ⟨h38_, ⟨h39_, ⟨h40_, ⟨h41_, ⟨h42_, ⟨h43_, ⟨h44_, ⟨h45_, ⟨h46_, ⟨h47_, ⟨h48_, ⟨h49_, ⟨h50_, ⟨h51_, ⟨h52_, h53_⟩⟩⟩⟩⟩⟩⟩⟩⟩⟩⟩⟩⟩⟩⟩⟩⟩ := (h5_ h32_)
  intro h54_
  have h55_ := (h54_ h50_)
  have h56_ := (h55_ h33_)
  have h57_ := (h56_ (la_slot_4 h34_ h40_))
  obtain ⟨h58_, ⟨h59_, ⟨h60_, ⟨h61_, h62_⟩⟩⟩⟩ := (h57_ h35_)
  intro h63_
  have h64_ := (h63_ h53_)
  have h65_ := (h64_ h33_)
  obtain ⟨h66_, h67_⟩ := (h65_ (la_slot_5 h34_ h40_ h46_))
  refine ⟨(la_slot_6 h33_ h34_ h40_ h46_), ?_⟩
  intro h68_
  refine ⟨(la_slot_7 h58_ h66_ h67_), ?_⟩
  refine ⟨?_, ?_⟩
  · skip
    rintro ⟨h69_, h70_⟩
    intro h71_
    intro h72_
    refine ⟨?_, ?_⟩
    · skip
      intro h73_
      refine ⟨(la_slot_9 h33_ h34_ h40_ h46_ h52_ h58_ h59_ h60_ h67_ h70_ (la_slot_8 h69_ h73_)), ?_⟩
      intro r20
      intro h74_
      intro h75_
      refine ⟨(la_slot_10 h52_ h59_ h60_ h70_ (la_slot_8 h69_ h73_) h75_), ?_⟩
      intro r26
      intro h76_
      intro _
      exact trivial
    intro h77_
    refine ⟨(la_slot_11 h33_ h34_ h40_ h46_), ?_⟩
    refine ⟨(la_slot_12 h33_ h34_ h40_ h46_), ?_⟩
    intro r33
    intro h78_
    intro _
    exact trivial
  intro h79_
  exact trivial
set_option maxRecDepth 8000 in
set_option maxHeartbeats 2000000 in
theorem t_slot : ∀ (p1 : Int) (p2 : Int) (p3 : Int) (S : sv_S), sm_ok S → sv_R p1 → sv_R p2 → sv_R p3 → (((S 1119 0) = 1 → 29 ≤ (S 1071 0) ∧ (S 1071 0) ≤ 127 ∧ 31 ≤ (S 1008 0) ∧ (S 1008 0) ≤ 90 ∧ 1 ≤ (S 1032 0) ∧ (S 1032 0) ≤ 11 ∧ 0 ≤ (S 1055 0) ∧ (S 1055 0) ≤ 19 ∧ (S 1071 0) = 29 + 6 * ((S 1032 0) - 1) + 2 * (S 1055 0) ∧ 0 ≤ (S 1046 0) ∧ (S 1046 0) + 2 * (S 1032 0) ≤ 500 ∧ sm_PD (S 1046 0) (S 1032 0) (S 1071 0) (S 1008 0) ∧ 0 ≤ (S 1071 0) * ((S 1008 0) + 1) ∧ (S 1071 0) * ((S 1008 0) + 1) ≤ 11557 ∧ sm_ST (S 71) (S 74) (S 75) (S 78) (S 79) (S 80) (S 27) (S 1100007) (S 1100023) (S 1100024) (S 1046 0) ((S 1046 0) + 2 * (S 1032 0)) (S 1127 0) ∧ 465000 ≤ (S 1127 0) ∧ (S 1127 0) ≤ 635000 ∧ sm_NH (S 1100007))) → sv_T sm_XS sm_cs sm_L sm_sh 2 (q_slot p1 p2 p3 S) 298 0 (lv_args 0 [.ref 0, sv_I p1, sv_I p2, sv_I p3]) [] S := by
  intro p1 p2 p3 S hok hp1 hp2 hp3 hpre
  have h := f_slot p1 p2 p3 S hok hp1 hp2 hp3 hpre
  have hM := sm_h298
  show sv_T sm_XS sm_cs sm_L sm_sh 2 (q_slot p1 p2 p3 S) 298 0 [(0, .ref 0), (1, sv_I p1), (2, sv_I p2), (3, sv_I p3)] [] S
  refine sv_aload_n hM dX12_slot_0 rfl rfl ?_
  refine sv_iload_n hM dX12_slot_1 rfl rfl ?_
  obtain ⟨o1, h⟩ := h
  refine sv_callV hM dX12_slot_2 sm_iv_1387 (by decide) (sm_a0 _) rfl rfl (Nat.le_of_ble_eq_true rfl) sm_h295 (Nat.le_of_ble_eq_true rfl) (Nat.le_of_ble_eq_true rfl) (F' := 1) (Nat.le_of_ble_eq_true rfl) rfl (t_isReached p1 S hok hp1 o1) (fun v S1 hq => ?_)
  obtain ⟨r6, rfl, hr6, ok3, md4, hpo5⟩ := hq
  obtain ⟨g2, rfl⟩ : ∃ g, S1 = sv_sts S [1000] g := ⟨_, md4.eq⟩
  show sv_T sm_XS sm_cs sm_L sm_sh 2 (q_slot p1 p2 p3 S) 298 5 [(0, .ref 0), (1, sv_I p1), (2, sv_I p2), (3, sv_I p3)] [sv_I r6] (sv_sts S [1000] g2)
  have md7 : sv_mod [1000] S (sv_sts S [1000] g2) := sv_mod.sts sv_mod.rf (by decide)
  have h := h r6 hr6 g2 hpo5
  refine sv_cond_eq hM dX12_slot_5 hr6 (t := 24) rfl rfl (fun hc => ?_) (fun hc => ?_)
  · have h := h.1 (hc)
    refine sv_lconst (d := (0 : Int)) hM dX12_slot_24 rfl rfl ?_
    exact sv_lret hM dX12_slot_25 rfl ⟨(0 : Int), rfl, (⟨by decide, by decide⟩ : sv_RL (0 : Int)), ok3, md7, h⟩
  · have h := h.2 (hc)
    have k8 : (sm_ST (S 71) (S 74) (S 75) (S 78) (S 79) (S 80) (S 27) (S 1100007) (S 1100023) (S 1100024) (S 1046 0) ((S 1046 0) + 2 * (S 1032 0)) (S 1127 0) → 0 ≤ p1 → p1 < ((S 1046 0) + 2 * (S 1032 0)) → (S 71 p1) = 1 → (S 74 p1) = (S 1100007 p1) ∧ 465000 ≤ (S 75 p1) ∧ (S 75 p1) + (S 74 p1) ≤ (S 1127 0) ∧ 0 ≤ (S 78 p1) ∧ (S 78 p1) ≤ 40) := fun h h0 h1 h2 => ⟨(sm_ST_at h p1 h0 h1 h2).1, (sm_ST_at h p1 h0 h1 h2).2.1, (sm_ST_at h p1 h0 h1 h2).2.2.1, (sm_ST_at h p1 h0 h1 h2).2.2.2.1, (sm_ST_at h p1 h0 h1 h2).2.2.2.2.1⟩
    have h := h k8
    have k9 : (sm_NH (S 1100007) → 0 ≤ p1 → p1 < 640 → 0 ≤ (S 1100007 p1) ∧ (S 1100007 p1) ≤ 400) := fun h h0 h1 => sm_NH_at h p1 h0 h1
    have h := h k9
    refine sv_iload_n hM dX12_slot_8 rfl rfl ?_
    refine sv_iconst (d := (-1 : Int)) hM dX12_slot_9 rfl rfl ?_
    refine sv_aload_n hM dX12_slot_10 rfl rfl ?_
    refine sv_getA hM dX12_slot_11 sm_fl_235 (sm_a0 _) sm_k125 rfl ?_
    refine sv_iload_n hM dX12_slot_14 rfl rfl ?_
    obtain ⟨o10, h⟩ := h
    have k11 : sv_R (S 74 p1) := sm_okI ok3 sm_r74 p1
    have h := h k11
    refine sv_iald hM dX12_slot_15 (sm_a74 _) (by decide) o10.1 o10.2 rfl (x := (S 74 p1)) rfl ?_
    refine sv_iconst (d := (1 : Int)) hM dX12_slot_16 rfl rfl ?_
    refine sv_isub hM dX12_slot_17 rfl ?_
    obtain ⟨o12, h⟩ := h
    refine sv_callS hM dX12_slot_18 sm_iv_899 (Nat.le_of_ble_eq_true rfl) rfl rfl (Nat.le_of_ble_eq_true rfl) sm_h4 (Nat.le_of_ble_eq_true rfl) (Nat.le_of_ble_eq_true rfl) (F' := 0) (Nat.le_of_ble_eq_true rfl) rfl (t_in p2 (-1 : Int) ((S 74 p1) - (1 : Int)) (sv_sts S [1000] g2) ok3 hp2 (⟨by decide, by decide⟩ : sv_R (-1 : Int)) o12) (fun v S1 hq => ?_)
    obtain ⟨rfl, hS1⟩ := hq
    obtain rfl : (sv_sts S [1000] g2) = S1 := hS1.symm
    show sv_T sm_XS sm_cs sm_L sm_sh 2 (q_slot p1 p2 p3 S) 298 21 [(0, .ref 0), (1, sv_I p1), (2, sv_I p2), (3, sv_I p3)] [sv_I (if (-1 : Int) ≤ p2 ∧ p2 ≤ ((S 74 p1) - (1 : Int)) then 1 else 0)] (sv_sts S [1000] g2)
    refine sv_cond_ne hM dX12_slot_21 (sv_Rite : sv_R (if (-1 : Int) ≤ p2 ∧ p2 ≤ ((S 74 p1) - (1 : Int)) then 1 else 0)) (t := 26) rfl rfl (fun hc => ?_) (fun hc => ?_)
    · have h := h.1 (sv_itep hc)
      have k13 : (sm_ST (S 71) (S 74) (S 75) (S 78) (S 79) (S 80) (S 27) (S 1100007) (S 1100023) (S 1100024) (S 1046 0) ((S 1046 0) + 2 * (S 1032 0)) (S 1127 0) → 0 ≤ p1 → p1 < ((S 1046 0) + 2 * (S 1032 0)) → (S 71 p1) = 1 → (S 74 p1) = (S 1100007 p1) ∧ 465000 ≤ (S 75 p1) ∧ (S 75 p1) + (S 74 p1) ≤ (S 1127 0) ∧ 0 ≤ (S 78 p1) ∧ (S 78 p1) ≤ 40) := fun h h0 h1 h2 => ⟨(sm_ST_at h p1 h0 h1 h2).1, (sm_ST_at h p1 h0 h1 h2).2.1, (sm_ST_at h p1 h0 h1 h2).2.2.1, (sm_ST_at h p1 h0 h1 h2).2.2.2.1, (sm_ST_at h p1 h0 h1 h2).2.2.2.2.1⟩
      have h := h k13
      have k14 : (sm_NH (S 1100007) → 0 ≤ p1 → p1 < 640 → 0 ≤ (S 1100007 p1) ∧ (S 1100007 p1) ≤ 400) := fun h h0 h1 => sm_NH_at h p1 h0 h1
      have h := h k14
      refine sv_aload_n hM dX12_slot_26 rfl rfl ?_
      refine sv_iload_n hM dX12_slot_27 rfl rfl ?_
      refine sv_iconst (d := (-1 : Int)) hM dX12_slot_28 rfl rfl ?_
      refine sv_icmp_ne hM dX12_slot_29 hp2 (⟨by decide, by decide⟩ : sv_R (-1 : Int)) (t := 40) rfl rfl (fun hc => ?_) (fun hc => ?_)
      · have h := h.1 (hc)
        refine sv_aload_n hM dX12_slot_40 rfl rfl ?_
        refine sv_iload_n hM dX12_slot_41 rfl rfl ?_
        refine sv_iload_n hM dX12_slot_42 rfl rfl ?_
        obtain ⟨o15, h⟩ := h
        refine sv_callV hM dX12_slot_43 sm_iv_1323 (by decide) (sm_a0 _) rfl rfl (Nat.le_of_ble_eq_true rfl) sm_h228 (Nat.le_of_ble_eq_true rfl) (Nat.le_of_ble_eq_true rfl) (F' := 0) (Nat.le_of_ble_eq_true rfl) rfl (t_onStack p1 p2 (sv_sts S [1000] g2) ok3 hp1 hp2 o15) (fun v S1 hq => ?_)
        obtain ⟨r20, rfl, hr20, ok17, md18, hpo19⟩ := hq
        obtain rfl : (sv_sts S [1000] g2) = S1 := (funext fun j => md18 j (by intro q; cases q)).symm
        show sv_T sm_XS sm_cs sm_L sm_sh 2 (q_slot p1 p2 p3 S) 298 46 [(0, .ref 0), (1, sv_I p1), (2, sv_I p2), (3, sv_I p3)] [sv_I r20, .ref 0] (sv_sts S [1000] g2)
        have h := h r20 hr20 hpo19
        refine sv_iload_n hM dX12_slot_46 rfl rfl ?_
        obtain ⟨o21, h⟩ := h
        refine sv_callV hM dX12_slot_47 sm_iv_1390 (by decide) (sm_a0 _) rfl rfl (Nat.le_of_ble_eq_true rfl) sm_h296 (Nat.le_of_ble_eq_true rfl) (Nat.le_of_ble_eq_true rfl) (F' := 1) (Nat.le_of_ble_eq_true rfl) rfl (t_tell r20 p3 (sv_sts S [1000] g2) ok17 hr20 hp3 o21) (fun v S1 hq => ?_)
        obtain ⟨r26, rfl, hr26, ok23, md24, hpo25⟩ := hq
        obtain rfl : (sv_sts S [1000] g2) = S1 := (funext fun j => md24 j (by intro q; cases q)).symm
        show sv_T sm_XS sm_cs sm_L sm_sh 2 (q_slot p1 p2 p3 S) 298 50 [(0, .ref 0), (1, sv_I p1), (2, sv_I p2), (3, sv_I p3)] [sv_L r26] (sv_sts S [1000] g2)
        have h := h r26 hr26 hpo25
        exact sv_lret hM dX12_slot_50 rfl ⟨r26, rfl, hr26, ok23, md7, h⟩
      · have h := h.2 (hc)
        refine sv_aload_n hM dX12_slot_32 rfl rfl ?_
        refine sv_iload_n hM dX12_slot_33 rfl rfl ?_
        refine sv_callV hM dX12_slot_34 sm_iv_1098 (by decide) (sm_a0 _) rfl rfl (Nat.le_of_ble_eq_true rfl) sm_h227 (Nat.le_of_ble_eq_true rfl) (Nat.le_of_ble_eq_true rfl) (F' := 0) (Nat.le_of_ble_eq_true rfl) rfl (t_thisAt p1 (sv_sts S [1000] g2) ok3 hp1) (fun v S1 hq => ?_)
        obtain ⟨rfl, hS1⟩ := hq
        obtain rfl : (sv_sts S [1000] g2) = S1 := hS1.symm
        show sv_T sm_XS sm_cs sm_L sm_sh 2 (q_slot p1 p2 p3 S) 298 37 [(0, .ref 0), (1, sv_I p1), (2, sv_I p2), (3, sv_I p3)] [sv_I (635000 + p1), .ref 0] (sv_sts S [1000] g2)
        refine sv_goto hM dX12_slot_37 (pc' := 46) rfl ?_
        refine sv_iload_n hM dX12_slot_46 rfl rfl ?_
        obtain ⟨o27, h⟩ := h
        obtain ⟨o28, h⟩ := h
        refine sv_callV hM dX12_slot_47 sm_iv_1390 (by decide) (sm_a0 _) rfl rfl (Nat.le_of_ble_eq_true rfl) sm_h296 (Nat.le_of_ble_eq_true rfl) (Nat.le_of_ble_eq_true rfl) (F' := 1) (Nat.le_of_ble_eq_true rfl) rfl (t_tell (635000 + p1) p3 (sv_sts S [1000] g2) ok3 o27 hp3 o28) (fun v S1 hq => ?_)
        obtain ⟨r33, rfl, hr33, ok30, md31, hpo32⟩ := hq
        obtain rfl : (sv_sts S [1000] g2) = S1 := (funext fun j => md31 j (by intro q; cases q)).symm
        show sv_T sm_XS sm_cs sm_L sm_sh 2 (q_slot p1 p2 p3 S) 298 50 [(0, .ref 0), (1, sv_I p1), (2, sv_I p2), (3, sv_I p3)] [sv_L r33] (sv_sts S [1000] g2)
        have h := h r33 hr33 hpo32
        exact sv_lret hM dX12_slot_50 rfl ⟨r33, rfl, hr33, ok30, md7, h⟩
    · have h := h.2 (fun q => hc (by rw [if_pos q]; decide))
      refine sv_lconst (d := (0 : Int)) hM dX12_slot_24 rfl rfl ?_
      exact sv_lret hM dX12_slot_25 rfl ⟨(0 : Int), rfl, (⟨by decide, by decide⟩ : sv_RL (0 : Int)), ok3, md7, h⟩
def q_field_ (p1 : Int) (p2 : Int) (p3 : Int) (p4 : Int) (S : sv_S) : Option Value → sv_S → Prop := fun v S' => ∃ r : Int, v = some (sv_L r) ∧ sv_RL r ∧ sm_ok S' ∧ sv_mod [1000] S S' ∧ (True)
theorem la_field__0 {x0 x1 : Int} (h0 : 1 ≤ x0) (h1 : x1 + 2 * x0 ≤ 500) : x1 ≤ 600 := by omega
theorem la_field__1 {x0 : Int} (h0 : x0 = 0) : ¬ x0 = 1 := by omega
theorem la_field__2 : (0 : Int) ≤ 0 := by omega
theorem la_field__3 (h0 : (0 : Int) ≤ 0) (h1 : ¬ (0 : Int) = 0) : (0 : Int) < 0 := by omega
theorem la_field__4 {x0 : Int} (h0 : (0 : Int) < 0) : 29 ≤ x0 := by omega
theorem la_field__5 {x0 : Int} (h0 : (0 : Int) < 0) : x0 ≤ 127 := by omega
theorem la_field__6 {x0 : Int} (h0 : (0 : Int) < 0) : 31 ≤ x0 := by omega
theorem la_field__7 {x0 : Int} (h0 : (0 : Int) < 0) : x0 ≤ 90 := by omega
theorem la_field__8 {x0 : Int} (h0 : (0 : Int) < 0) : 1 ≤ x0 := by omega
theorem la_field__9 {x0 : Int} (h0 : (0 : Int) < 0) : x0 ≤ 11 := by omega
theorem la_field__10 {x0 : Int} (h0 : (0 : Int) < 0) : 0 ≤ x0 := by omega
theorem la_field__11 {x0 : Int} (h0 : (0 : Int) < 0) : x0 ≤ 19 := by omega
theorem la_field__12 {x0 x1 x2 : Int} (h0 : (0 : Int) < 0) : x0 = 29 + 6 * (x1 - 1) + 2 * x2 := by omega
theorem la_field__13 {x0 x1 : Int} (h0 : (0 : Int) < 0) : x0 + 2 * x1 ≤ 500 := by omega
theorem la_field__14 {x0 : Int} (h0 : (0 : Int) < 0) : x0 = 1 := by omega
theorem la_field__15 {x0 : Int} (h0 : (0 : Int) < 0) : x0 ≤ 11557 := by omega
theorem la_field__16 {x0 x1 x2 : Int} (h0 : (0 : Int) < 0) : x0 = 639 ∨ x0 < x1 + 2 * x2 := by omega
theorem la_field__17 {x0 x1 x2 : Int} (h0 : (0 : Int) < 0) : x0 < x1 ∨ x2 = 639 ∧ x0 < 128 := by omega
theorem la_field__18 {x0 x1 : Int} (h0 : (0 : Int) < 0) : x0 ≤ x1 := by omega
theorem la_field__19 {x0 : Int} (h0 : (0 : Int) < 0) : x0 = 639 := by omega
theorem la_field__20 {x0 : Int} (h0 : (0 : Int) < 0) : ¬ x0 = 639 := by omega
theorem la_field__21 {x0 : Int} (h0 : (0 : Int) < 0) : 0 ≤ x0 ∧ x0 < 647800 := by omega
theorem la_field__22 {x0 : Int} (h0 : x0 = 1) : 0 ≤ x0 := by omega
theorem la_field__23 {x0 : Int} (h0 : 0 ≤ x0) (h1 : ¬ x0 = 0) : 0 < x0 := by omega
theorem la_field__24 {x0 : Int} (h0 : 29 ≤ x0) (h1 : x0 ≤ 127) : sv_R (x0 - 1) := by omega
theorem la_field__25 {x0 x1 x2 x3 x4 x5 x6 x7 : Int} (h0 : (0 : Int) < 0) : 0 ≤ x0 ∧ x0 ≤ 11557 ∧ 0 ≤ x1 ∧ (x1 = 639 ∨ x1 < x2 + 2 * x3) ∧ 0 ≤ x4 ∧ (x4 < x5 ∨ x1 = 639 ∧ x4 < 128) ∧ 0 ≤ x6 ∧ x6 ≤ x7 := by omega
theorem la_field__26 {x0 x1 x2 x3 x4 x5 : Int} (h0 : 0 ≤ x0) (h1 : x0 < x1) (h2 : x2 ≤ 127) (h3 : 1 ≤ x3) (h4 : x1 + 2 * x3 ≤ 500) (h5 : 0 ≤ x4) (h6 : x4 ≤ 11557) (h7 : 0 ≤ x5) (h8 : x5 ≤ x2 - 1) : 0 ≤ x4 ∧ x4 ≤ 11557 ∧ 0 ≤ x0 ∧ (x0 = 639 ∨ x0 < x1 + 2 * x3) ∧ 0 ≤ x5 ∧ (x5 < x2 ∨ x0 = 639 ∧ x5 < 128) := by omega
theorem la_field__27 {x0 x1 x2 : Int} (h0 : x0 < x1) (h1 : 1 ≤ x2) (h2 : x1 + 2 * x2 ≤ 500) : ¬ x0 = 639 := by omega
theorem la_field__28 {x0 : Int} (h0 : 0 ≤ x0) (h1 : x0 < 14520) : 0 ≤ x0 ∧ x0 < 15128 := by omega
theorem la_field__29 : (0 : Int) ≤ 1 := by omega
theorem la_field__30 (h0 : (0 : Int) ≤ 1) (h1 : ¬ (1 : Int) = 0) : (0 : Int) < 1 := by omega
theorem la_field__31 {x0 x1 x2 x3 x4 x5 x6 x7 : Int} (h0 : 0 ≤ x0) (h1 : x0 < x1) (h2 : x2 ≤ 127) (h3 : 1 ≤ x3) (h4 : x1 + 2 * x3 ≤ 500) (h5 : 0 ≤ x4) (h6 : x4 ≤ 11557) (h7 : 0 ≤ x5) (h8 : x5 ≤ x2 - 1) (h9 : 0 ≤ x6) (h10 : x6 ≤ x7) : 0 ≤ x4 ∧ x4 ≤ 11557 ∧ 0 ≤ x0 ∧ (x0 = 639 ∨ x0 < x1 + 2 * x3) ∧ 0 ≤ x5 ∧ (x5 < x2 ∨ x0 = 639 ∧ x5 < 128) ∧ 0 ≤ x6 ∧ x6 ≤ x7 := by omega
theorem la_field__32 {x0 : Int} (h0 : 0 ≤ x0) (h1 : x0 < 464520) : 0 ≤ x0 ∧ x0 < 647800 := by omega
set_option maxHeartbeats 2000000 in
theorem f_field_ : ∀ (p1 : Int) (p2 : Int) (p3 : Int) (p4 : Int) (S : sv_S), sm_ok S → sv_R p1 → sv_R p2 → sv_R p3 → sv_R p4 → (((S 1119 0) = 1 → 29 ≤ (S 1071 0) ∧ (S 1071 0) ≤ 127 ∧ 31 ≤ (S 1008 0) ∧ (S 1008 0) ≤ 90 ∧ 1 ≤ (S 1032 0) ∧ (S 1032 0) ≤ 11 ∧ 0 ≤ (S 1055 0) ∧ (S 1055 0) ≤ 19 ∧ (S 1071 0) = 29 + 6 * ((S 1032 0) - 1) + 2 * (S 1055 0) ∧ 0 ≤ (S 1046 0) ∧ (S 1046 0) + 2 * (S 1032 0) ≤ 500 ∧ sm_PD (S 1046 0) (S 1032 0) (S 1071 0) (S 1008 0) ∧ 0 ≤ (S 1071 0) * ((S 1008 0) + 1) ∧ (S 1071 0) * ((S 1008 0) + 1) ≤ 11557 ∧ sm_ST (S 71) (S 74) (S 75) (S 78) (S 79) (S 80) (S 27) (S 1100007) (S 1100023) (S 1100024) (S 1046 0) ((S 1046 0) + 2 * (S 1032 0)) (S 1127 0) ∧ 465000 ≤ (S 1127 0) ∧ (S 1127 0) ≤ 635000 ∧ sm_NH (S 1100007))) → (((S 1119 0) = 1 → 0 ≤ (S 1046 0) ∧ (S 1046 0) ≤ 600)) ∧ (∀ r6 : Int, sv_R r6 → ∀ g2 : sv_S, ((r6 = 0 ∨ r6 = 1) ∧ (r6 = 1 → (S 1119 0) = 1 ∧ 0 ≤ p1 ∧ p1 < (S 1046 0) ∧ (S 71 p1) = 1)) → (((r6 = (0 : Int)) → ((((0 : Int) = (0 : Int)) → (True)) ∧ ((¬ ((0 : Int) = (0 : Int))) → (29 ≤ (S 1071 0) ∧ (S 1071 0) ≤ 127 ∧ 31 ≤ (S 1008 0) ∧ (S 1008 0) ≤ 90 ∧ 1 ≤ (S 1032 0) ∧ (S 1032 0) ≤ 11 ∧ 0 ≤ (S 1055 0) ∧ (S 1055 0) ≤ 19 ∧ (S 1071 0) = 29 + 6 * ((S 1032 0) - 1) + 2 * (S 1055 0) ∧ 0 ≤ (S 1046 0) ∧ (S 1046 0) + 2 * (S 1032 0) ≤ 500 ∧ sm_PD (S 1046 0) (S 1032 0) (S 1071 0) (S 1008 0) ∧ 0 ≤ (S 1071 0) * ((S 1008 0) + 1) ∧ (S 1071 0) * ((S 1008 0) + 1) ≤ 11557 ∧ 0 ≤ p1 ∧ (p1 = 639 ∨ p1 < (S 1046 0) + 2 * (S 1032 0)) ∧ 0 ≤ p2 ∧ (p2 < (S 1071 0) ∨ (p1 = 639 ∧ p2 < 128)) ∧ 0 ≤ p3 ∧ p3 ≤ (S 1008 0)) ∧ (∀ r13 : Int, sv_R r13 → ((p1 = 639 → 635640 ≤ r13 ∧ r13 < 647340) ∧ (¬ p1 = 639 → 0 ≤ r13 ∧ r13 < 464520)) → (0 ≤ r13 ∧ r13 < 647800) ∧ (∀ r19 : Int, sv_RL r19 → (True) → (True)))))) ∧ ((¬ (r6 = (0 : Int))) → (sv_R (S 1071 0) → (sv_R ((S 1071 0) - (1 : Int))) ∧ (((¬ ((0 : Int) ≤ p2 ∧ p2 ≤ ((S 1071 0) - (1 : Int)))) → ((((0 : Int) = (0 : Int)) → (True)) ∧ ((¬ ((0 : Int) = (0 : Int))) → (29 ≤ (S 1071 0) ∧ (S 1071 0) ≤ 127 ∧ 31 ≤ (S 1008 0) ∧ (S 1008 0) ≤ 90 ∧ 1 ≤ (S 1032 0) ∧ (S 1032 0) ≤ 11 ∧ 0 ≤ (S 1055 0) ∧ (S 1055 0) ≤ 19 ∧ (S 1071 0) = 29 + 6 * ((S 1032 0) - 1) + 2 * (S 1055 0) ∧ 0 ≤ (S 1046 0) ∧ (S 1046 0) + 2 * (S 1032 0) ≤ 500 ∧ sm_PD (S 1046 0) (S 1032 0) (S 1071 0) (S 1008 0) ∧ 0 ≤ (S 1071 0) * ((S 1008 0) + 1) ∧ (S 1071 0) * ((S 1008 0) + 1) ≤ 11557 ∧ 0 ≤ p1 ∧ (p1 = 639 ∨ p1 < (S 1046 0) + 2 * (S 1032 0)) ∧ 0 ≤ p2 ∧ (p2 < (S 1071 0) ∨ (p1 = 639 ∧ p2 < 128)) ∧ 0 ≤ p3 ∧ p3 ≤ (S 1008 0)) ∧ (∀ r27 : Int, sv_R r27 → ((p1 = 639 → 635640 ≤ r27 ∧ r27 < 647340) ∧ (¬ p1 = 639 → 0 ≤ r27 ∧ r27 < 464520)) → (0 ≤ r27 ∧ r27 < 647800) ∧ (∀ r33 : Int, sv_RL r33 → (True) → (True)))))) ∧ (((0 : Int) ≤ p2 ∧ p2 ≤ ((S 1071 0) - (1 : Int))) → (sv_R (S 1008 0) → (((¬ ((0 : Int) ≤ p3 ∧ p3 ≤ (S 1008 0))) → ((((0 : Int) = (0 : Int)) → (True)) ∧ ((¬ ((0 : Int) = (0 : Int))) → (29 ≤ (S 1071 0) ∧ (S 1071 0) ≤ 127 ∧ 31 ≤ (S 1008 0) ∧ (S 1008 0) ≤ 90 ∧ 1 ≤ (S 1032 0) ∧ (S 1032 0) ≤ 11 ∧ 0 ≤ (S 1055 0) ∧ (S 1055 0) ≤ 19 ∧ (S 1071 0) = 29 + 6 * ((S 1032 0) - 1) + 2 * (S 1055 0) ∧ 0 ≤ (S 1046 0) ∧ (S 1046 0) + 2 * (S 1032 0) ≤ 500 ∧ sm_PD (S 1046 0) (S 1032 0) (S 1071 0) (S 1008 0) ∧ 0 ≤ (S 1071 0) * ((S 1008 0) + 1) ∧ (S 1071 0) * ((S 1008 0) + 1) ≤ 11557 ∧ 0 ≤ p1 ∧ (p1 = 639 ∨ p1 < (S 1046 0) + 2 * (S 1032 0)) ∧ 0 ≤ p2 ∧ (p2 < (S 1071 0) ∨ (p1 = 639 ∧ p2 < 128)) ∧ 0 ≤ p3 ∧ p3 ≤ (S 1008 0)) ∧ (∀ r40 : Int, sv_R r40 → ((p1 = 639 → 635640 ≤ r40 ∧ r40 < 647340) ∧ (¬ p1 = 639 → 0 ≤ r40 ∧ r40 < 464520)) → (0 ≤ r40 ∧ r40 < 647800) ∧ (∀ r46 : Int, sv_RL r46 → (True) → (True)))))) ∧ (((0 : Int) ≤ p3 ∧ p3 ≤ (S 1008 0)) → (29 ≤ (S 1071 0) ∧ (S 1071 0) ≤ 127 ∧ 31 ≤ (S 1008 0) ∧ (S 1008 0) ≤ 90 ∧ 1 ≤ (S 1032 0) ∧ (S 1032 0) ≤ 11 ∧ 0 ≤ (S 1055 0) ∧ (S 1055 0) ≤ 19 ∧ (S 1071 0) = 29 + 6 * ((S 1032 0) - 1) + 2 * (S 1055 0) ∧ 0 ≤ (S 1046 0) ∧ (S 1046 0) + 2 * (S 1032 0) ≤ 500 ∧ sm_PD (S 1046 0) (S 1032 0) (S 1071 0) (S 1008 0) ∧ 0 ≤ (S 1071 0) * ((S 1008 0) + 1) ∧ (S 1071 0) * ((S 1008 0) + 1) ≤ 11557 ∧ 0 ≤ p1 ∧ (p1 = 639 ∨ p1 < (S 1046 0) + 2 * (S 1032 0)) ∧ 0 ≤ p2 ∧ (p2 < (S 1071 0) ∨ (p1 = 639 ∧ p2 < 128))) ∧ (∀ r52 : Int, sv_R r52 → ((p1 = 639 → r52 = 15000 + p2) ∧ (¬ p1 = 639 → 0 ≤ r52 ∧ r52 < 14520)) → (0 ≤ r52 ∧ r52 < 15128) ∧ ((0 ≤ (S 81 r52) ∧ (S 81 r52) ≤ 1) → ((((S 81 r52) = (0 : Int)) → ((((0 : Int) = (0 : Int)) → (True)) ∧ ((¬ ((0 : Int) = (0 : Int))) → (29 ≤ (S 1071 0) ∧ (S 1071 0) ≤ 127 ∧ 31 ≤ (S 1008 0) ∧ (S 1008 0) ≤ 90 ∧ 1 ≤ (S 1032 0) ∧ (S 1032 0) ≤ 11 ∧ 0 ≤ (S 1055 0) ∧ (S 1055 0) ≤ 19 ∧ (S 1071 0) = 29 + 6 * ((S 1032 0) - 1) + 2 * (S 1055 0) ∧ 0 ≤ (S 1046 0) ∧ (S 1046 0) + 2 * (S 1032 0) ≤ 500 ∧ sm_PD (S 1046 0) (S 1032 0) (S 1071 0) (S 1008 0) ∧ 0 ≤ (S 1071 0) * ((S 1008 0) + 1) ∧ (S 1071 0) * ((S 1008 0) + 1) ≤ 11557 ∧ 0 ≤ p1 ∧ (p1 = 639 ∨ p1 < (S 1046 0) + 2 * (S 1032 0)) ∧ 0 ≤ p2 ∧ (p2 < (S 1071 0) ∨ (p1 = 639 ∧ p2 < 128)) ∧ 0 ≤ p3 ∧ p3 ≤ (S 1008 0)) ∧ (∀ r60 : Int, sv_R r60 → ((p1 = 639 → 635640 ≤ r60 ∧ r60 < 647340) ∧ (¬ p1 = 639 → 0 ≤ r60 ∧ r60 < 464520)) → (0 ≤ r60 ∧ r60 < 647800) ∧ (∀ r66 : Int, sv_RL r66 → (True) → (True)))))) ∧ ((¬ ((S 81 r52) = (0 : Int))) → ((((1 : Int) = (0 : Int)) → (True)) ∧ ((¬ ((1 : Int) = (0 : Int))) → (29 ≤ (S 1071 0) ∧ (S 1071 0) ≤ 127 ∧ 31 ≤ (S 1008 0) ∧ (S 1008 0) ≤ 90 ∧ 1 ≤ (S 1032 0) ∧ (S 1032 0) ≤ 11 ∧ 0 ≤ (S 1055 0) ∧ (S 1055 0) ≤ 19 ∧ (S 1071 0) = 29 + 6 * ((S 1032 0) - 1) + 2 * (S 1055 0) ∧ 0 ≤ (S 1046 0) ∧ (S 1046 0) + 2 * (S 1032 0) ≤ 500 ∧ sm_PD (S 1046 0) (S 1032 0) (S 1071 0) (S 1008 0) ∧ 0 ≤ (S 1071 0) * ((S 1008 0) + 1) ∧ (S 1071 0) * ((S 1008 0) + 1) ≤ 11557 ∧ 0 ≤ p1 ∧ (p1 = 639 ∨ p1 < (S 1046 0) + 2 * (S 1032 0)) ∧ 0 ≤ p2 ∧ (p2 < (S 1071 0) ∨ (p1 = 639 ∧ p2 < 128)) ∧ 0 ≤ p3 ∧ p3 ≤ (S 1008 0)) ∧ (∀ r72 : Int, sv_R r72 → ((p1 = 639 → 635640 ≤ r72 ∧ r72 < 647340) ∧ (¬ p1 = 639 → 0 ≤ r72 ∧ r72 < 464520)) → (0 ≤ r72 ∧ r72 < 647800) ∧ (∀ r78 : Int, sv_RL r78 → (True) → (True)))))))))))))))))) := by
  intro p1
  intro p2
  intro p3
  intro p4
  intro S
  intro h1_
  intro h2_
  intro h3_
  intro h4_
  intro h5_
  intro h6_
  refine ⟨?_, ?_⟩
  · skip
    intro h7_
    obtain ⟨h8_, ⟨h9_, ⟨h10_, ⟨h11_, ⟨h12_, ⟨h13_, ⟨h14_, ⟨h15_, ⟨h16_, ⟨h17_, ⟨h18_, ⟨h19_, ⟨h20_, ⟨h21_, ⟨h22_, ⟨h23_, ⟨h24_, h25_⟩⟩⟩⟩⟩⟩⟩⟩⟩⟩⟩⟩⟩⟩⟩⟩⟩ := (h6_ h7_)
    refine ⟨h17_, ?_⟩
    exact (la_field__0 h12_ h18_)
  intro r6
  intro h26_
  intro g2
  rintro ⟨h27_, h28_⟩
  refine ⟨?_, ?_⟩
  · skip
    intro h29_
    have h30_ := (h27_.resolve_right (la_field__1 h29_))
    refine ⟨?_, ?_⟩
    · skip
      intro h31_
      exact trivial
    intro h32_
    refine ⟨?_, ?_⟩
    · skip
      refine ⟨(la_field__4 (la_field__3 la_field__2 h32_)), ?_⟩
      refine ⟨(la_field__5 (la_field__3 la_field__2 h32_)), ?_⟩
      refine ⟨(la_field__6 (la_field__3 la_field__2 h32_)), ?_⟩
      refine ⟨(la_field__7 (la_field__3 la_field__2 h32_)), ?_⟩
      refine ⟨(la_field__8 (la_field__3 la_field__2 h32_)), ?_⟩
      refine ⟨(la_field__9 (la_field__3 la_field__2 h32_)), ?_⟩
      refine ⟨(la_field__10 (la_field__3 la_field__2 h32_)), ?_⟩
      refine ⟨(la_field__11 (la_field__3 la_field__2 h32_)), ?_⟩
      refine ⟨(la_field__12 (la_field__3 la_field__2 h32_)), ?_⟩
      refine ⟨(la_field__10 (la_field__3 la_field__2 h32_)), ?_⟩
      refine ⟨(la_field__13 (la_field__3 la_field__2 h32_)), ?_⟩
      refine ⟨?_, ?_⟩
      · skip
        obtain ⟨h33_, ⟨h34_, ⟨h35_, ⟨h36_, ⟨h37_, ⟨h38_, ⟨h39_, ⟨h40_, ⟨h41_, ⟨h42_, ⟨h43_, ⟨h44_, ⟨h45_, ⟨h46_, ⟨h47_, ⟨h48_, ⟨h49_, h50_⟩⟩⟩⟩⟩⟩⟩⟩⟩⟩⟩⟩⟩⟩⟩⟩⟩ := (h6_ (la_field__14 (la_field__3 la_field__2 h32_)))
        exact h44_
      refine ⟨(la_field__10 (la_field__3 la_field__2 h32_)), ?_⟩
      refine ⟨(la_field__15 (la_field__3 la_field__2 h32_)), ?_⟩
      refine ⟨(la_field__10 (la_field__3 la_field__2 h32_)), ?_⟩
      refine ⟨(la_field__16 (la_field__3 la_field__2 h32_)), ?_⟩
      refine ⟨(la_field__10 (la_field__3 la_field__2 h32_)), ?_⟩
      refine ⟨(la_field__17 (la_field__3 la_field__2 h32_)), ?_⟩
      refine ⟨(la_field__10 (la_field__3 la_field__2 h32_)), ?_⟩
      exact (la_field__18 (la_field__3 la_field__2 h32_))
    intro r13
    intro h51_
    rintro ⟨h52_, h53_⟩
    obtain ⟨h54_, h55_⟩ := (h52_ (la_field__19 (la_field__3 la_field__2 h32_)))
    obtain ⟨h56_, h57_⟩ := (h53_ (la_field__20 (la_field__3 la_field__2 h32_)))
    refine ⟨(la_field__21 (la_field__3 la_field__2 h32_)), ?_⟩
    intro r19
    intro h58_
    intro _
    exact trivial
  intro h59_
  have h60_ := (h27_.resolve_left h59_)
  obtain ⟨h61_, ⟨h62_, ⟨h63_, h64_⟩⟩⟩ := (h28_ h60_)
  obtain ⟨h65_, ⟨h66_, ⟨h67_, ⟨h68_, ⟨h69_, ⟨h70_, ⟨h71_, ⟨h72_, ⟨h73_, ⟨h74_, ⟨h75_, ⟨h76_, ⟨h77_, ⟨h78_, ⟨h79_, ⟨h80_, ⟨h81_, h82_⟩⟩⟩⟩⟩⟩⟩⟩⟩⟩⟩⟩⟩⟩⟩⟩⟩ := (h6_ h61_)
  intro h83_
  refine ⟨(la_field__24 h65_ h66_), ?_⟩
  refine ⟨?_, ?_⟩
  · skip
    intro h84_
    refine ⟨?_, ?_⟩
    · skip
      intro h85_
      exact trivial
    intro h86_
    refine ⟨⟨h65_, ⟨h66_, ⟨h67_, ⟨h68_, ⟨h69_, ⟨h70_, ⟨h71_, ⟨h72_, ⟨h73_, ⟨h74_, ⟨h75_, ⟨h76_, (la_field__25 (la_field__3 la_field__2 h86_))⟩⟩⟩⟩⟩⟩⟩⟩⟩⟩⟩⟩, ?_⟩
    intro r27
    intro h87_
    rintro ⟨h88_, h89_⟩
    have h90_ : ¬ (p2 ≤ S 1071 0 - 1) := fun q_ => h84_ ⟨(la_field__10 (la_field__3 la_field__2 h86_)), q_⟩
    obtain ⟨h91_, h92_⟩ := (h88_ (la_field__19 (la_field__3 la_field__2 h86_)))
    obtain ⟨h93_, h94_⟩ := (h89_ (la_field__20 (la_field__3 la_field__2 h86_)))
    refine ⟨(la_field__21 (la_field__3 la_field__2 h86_)), ?_⟩
    intro r33
    intro h95_
    intro _
    exact trivial
  rintro ⟨h96_, h97_⟩
  intro h98_
  refine ⟨?_, ?_⟩
  · skip
    intro h99_
    refine ⟨?_, ?_⟩
    · skip
      intro h100_
      exact trivial
    intro h101_
    refine ⟨⟨h65_, ⟨h66_, ⟨h67_, ⟨h68_, ⟨h69_, ⟨h70_, ⟨h71_, ⟨h72_, ⟨h73_, ⟨h74_, ⟨h75_, ⟨h76_, (la_field__25 (la_field__3 la_field__2 h101_))⟩⟩⟩⟩⟩⟩⟩⟩⟩⟩⟩⟩, ?_⟩
    intro r40
    intro h102_
    rintro ⟨h103_, h104_⟩
    obtain ⟨h105_, h106_⟩ := (h103_ (la_field__19 (la_field__3 la_field__2 h101_)))
    obtain ⟨h107_, h108_⟩ := (h104_ (la_field__20 (la_field__3 la_field__2 h101_)))
    refine ⟨(la_field__21 (la_field__3 la_field__2 h101_)), ?_⟩
    intro r46
    intro h109_
    intro _
    exact trivial
  rintro ⟨h110_, h111_⟩
  refine ⟨⟨h65_, ⟨h66_, ⟨h67_, ⟨h68_, ⟨h69_, ⟨h70_, ⟨h71_, ⟨h72_, ⟨h73_, ⟨h74_, ⟨h75_, ⟨h76_, (la_field__26 h62_ h63_ h66_ h69_ h75_ h77_ h78_ h96_ h97_)⟩⟩⟩⟩⟩⟩⟩⟩⟩⟩⟩⟩, ?_⟩
  intro r52
  intro h112_
  rintro ⟨h113_, h114_⟩
  obtain ⟨h115_, h116_⟩ := (h114_ (la_field__27 h63_ h69_ h75_))
  refine ⟨(la_field__28 h115_ h116_), ?_⟩
  rintro ⟨h117_, h118_⟩
  refine ⟨?_, ?_⟩
  · skip
    intro h119_
    refine ⟨?_, ?_⟩
    · skip
      intro h120_
      exact trivial
    intro h121_
    refine ⟨⟨h65_, ⟨h66_, ⟨h67_, ⟨h68_, ⟨h69_, ⟨h70_, ⟨h71_, ⟨h72_, ⟨h73_, ⟨h74_, ⟨h75_, ⟨h76_, (la_field__25 (la_field__3 la_field__2 h121_))⟩⟩⟩⟩⟩⟩⟩⟩⟩⟩⟩⟩, ?_⟩
    intro r60
    intro h122_
    rintro ⟨h123_, h124_⟩
    obtain ⟨h125_, h126_⟩ := (h123_ (la_field__19 (la_field__3 la_field__2 h121_)))
    obtain ⟨h127_, h128_⟩ := (h124_ (la_field__20 (la_field__3 la_field__2 h121_)))
    refine ⟨(la_field__21 (la_field__3 la_field__2 h121_)), ?_⟩
    intro r66
    intro h129_
    intro _
    exact trivial
  intro h130_
  refine ⟨?_, ?_⟩
  · skip
    intro h131_
    exact trivial
  intro h132_
  refine ⟨⟨h65_, ⟨h66_, ⟨h67_, ⟨h68_, ⟨h69_, ⟨h70_, ⟨h71_, ⟨h72_, ⟨h73_, ⟨h74_, ⟨h75_, ⟨h76_, (la_field__31 h62_ h63_ h66_ h69_ h75_ h77_ h78_ h96_ h97_ h110_ h111_)⟩⟩⟩⟩⟩⟩⟩⟩⟩⟩⟩⟩, ?_⟩
  intro r72
  intro h133_
  rintro ⟨h134_, h135_⟩
  obtain ⟨h136_, h137_⟩ := (h135_ (la_field__27 h63_ h69_ h75_))
  refine ⟨(la_field__32 h136_ h137_), ?_⟩
  intro r78
  intro h138_
  intro _
  exact trivial
set_option maxRecDepth 8000 in
set_option maxHeartbeats 2000000 in
theorem t_field_ : ∀ (p1 : Int) (p2 : Int) (p3 : Int) (p4 : Int) (S : sv_S), sm_ok S → sv_R p1 → sv_R p2 → sv_R p3 → sv_R p4 → (((S 1119 0) = 1 → 29 ≤ (S 1071 0) ∧ (S 1071 0) ≤ 127 ∧ 31 ≤ (S 1008 0) ∧ (S 1008 0) ≤ 90 ∧ 1 ≤ (S 1032 0) ∧ (S 1032 0) ≤ 11 ∧ 0 ≤ (S 1055 0) ∧ (S 1055 0) ≤ 19 ∧ (S 1071 0) = 29 + 6 * ((S 1032 0) - 1) + 2 * (S 1055 0) ∧ 0 ≤ (S 1046 0) ∧ (S 1046 0) + 2 * (S 1032 0) ≤ 500 ∧ sm_PD (S 1046 0) (S 1032 0) (S 1071 0) (S 1008 0) ∧ 0 ≤ (S 1071 0) * ((S 1008 0) + 1) ∧ (S 1071 0) * ((S 1008 0) + 1) ≤ 11557 ∧ sm_ST (S 71) (S 74) (S 75) (S 78) (S 79) (S 80) (S 27) (S 1100007) (S 1100023) (S 1100024) (S 1046 0) ((S 1046 0) + 2 * (S 1032 0)) (S 1127 0) ∧ 465000 ≤ (S 1127 0) ∧ (S 1127 0) ≤ 635000 ∧ sm_NH (S 1100007))) → sv_T sm_XS sm_cs sm_L sm_sh 2 (q_field_ p1 p2 p3 p4 S) 299 0 (lv_args 0 [.ref 0, sv_I p1, sv_I p2, sv_I p3, sv_I p4]) [] S := by
  intro p1 p2 p3 p4 S hok hp1 hp2 hp3 hp4 hpre
  have h := f_field_ p1 p2 p3 p4 S hok hp1 hp2 hp3 hp4 hpre
  have hM := sm_h299
  show sv_T sm_XS sm_cs sm_L sm_sh 2 (q_field_ p1 p2 p3 p4 S) 299 0 [(0, .ref 0), (1, sv_I p1), (2, sv_I p2), (3, sv_I p3), (4, sv_I p4)] [] S
  refine sv_aload_n hM dX12_field__0 rfl rfl ?_
  refine sv_iload_n hM dX12_field__1 rfl rfl ?_
  obtain ⟨o1, h⟩ := h
  refine sv_callV hM dX12_field__2 sm_iv_1387 (by decide) (sm_a0 _) rfl rfl (Nat.le_of_ble_eq_true rfl) sm_h295 (Nat.le_of_ble_eq_true rfl) (Nat.le_of_ble_eq_true rfl) (F' := 1) (Nat.le_of_ble_eq_true rfl) rfl (t_isReached p1 S hok hp1 o1) (fun v S1 hq => ?_)
  obtain ⟨r6, rfl, hr6, ok3, md4, hpo5⟩ := hq
  obtain ⟨g2, rfl⟩ : ∃ g, S1 = sv_sts S [1000] g := ⟨_, md4.eq⟩
  show sv_T sm_XS sm_cs sm_L sm_sh 2 (q_field_ p1 p2 p3 p4 S) 299 5 [(0, .ref 0), (1, sv_I p1), (2, sv_I p2), (3, sv_I p3), (4, sv_I p4)] [sv_I r6] (sv_sts S [1000] g2)
  have md7 : sv_mod [1000] S (sv_sts S [1000] g2) := sv_mod.sts sv_mod.rf (by decide)
  have h := h r6 hr6 g2 hpo5
  refine sv_cond_eq hM dX12_field__5 hr6 (t := 52) rfl rfl (fun hc => ?_) (fun hc => ?_)
  · have h := h.1 (hc)
    refine sv_iconst (d := (0 : Int)) hM dX12_field__52 rfl rfl ?_
    refine sv_istore hM dX12_field__53 (by decide) rfl ?_
    show sv_T sm_XS sm_cs sm_L sm_sh 2 (q_field_ p1 p2 p3 p4 S) 299 55 [(0, .ref 0), (1, sv_I p1), (2, sv_I p2), (3, sv_I p3), (4, sv_I p4), (5, sv_I (0 : Int))] [] (sv_sts S [1000] g2)
    refine sv_iload hM dX12_field__55 rfl rfl ?_
    refine sv_cond_eq hM dX12_field__57 (⟨by decide, by decide⟩ : sv_R (0 : Int)) (t := 76) rfl rfl (fun hc => ?_) (fun hc => ?_)
    · have h := h.1 (hc)
      refine sv_lconst (d := (0 : Int)) hM dX12_field__76 rfl rfl ?_
      exact sv_lret hM dX12_field__77 rfl ⟨(0 : Int), rfl, (⟨by decide, by decide⟩ : sv_RL (0 : Int)), ok3, md7, h⟩
    · have h := h.2 (hc)
      refine sv_aload_n hM dX12_field__60 rfl rfl ?_
      refine sv_aload_n hM dX12_field__61 rfl rfl ?_
      refine sv_iload_n hM dX12_field__62 rfl rfl ?_
      refine sv_iload_n hM dX12_field__63 rfl rfl ?_
      refine sv_iload_n hM dX12_field__64 rfl rfl ?_
      obtain ⟨o8, h⟩ := h
      refine sv_callV hM dX12_field__65 sm_iv_1163 (by decide) (sm_a0 _) rfl rfl (Nat.le_of_ble_eq_true rfl) sm_h225 (Nat.le_of_ble_eq_true rfl) (Nat.le_of_ble_eq_true rfl) (F' := 1) (Nat.le_of_ble_eq_true rfl) rfl (t_field p1 p2 p3 (sv_sts S [1000] g2) ok3 hp1 hp2 hp3 o8) (fun v S1 hq => ?_)
      obtain ⟨r13, rfl, hr13, ok10, md11, hpo12⟩ := hq
      obtain rfl : (sv_sts S [1000] g2) = S1 := (funext fun j => md11 j (by intro q; cases q)).symm
      show sv_T sm_XS sm_cs sm_L sm_sh 2 (q_field_ p1 p2 p3 p4 S) 299 68 [(0, .ref 0), (1, sv_I p1), (2, sv_I p2), (3, sv_I p3), (4, sv_I p4), (5, sv_I (0 : Int))] [sv_I r13, .ref 0] (sv_sts S [1000] g2)
      have h := h r13 hr13 hpo12
      refine sv_iload hM dX12_field__68 rfl rfl ?_
      obtain ⟨o14, h⟩ := h
      refine sv_callV hM dX12_field__70 sm_iv_1390 (by decide) (sm_a0 _) rfl rfl (Nat.le_of_ble_eq_true rfl) sm_h296 (Nat.le_of_ble_eq_true rfl) (Nat.le_of_ble_eq_true rfl) (F' := 1) (Nat.le_of_ble_eq_true rfl) rfl (t_tell r13 p4 (sv_sts S [1000] g2) ok10 hr13 hp4 o14) (fun v S1 hq => ?_)
      obtain ⟨r19, rfl, hr19, ok16, md17, hpo18⟩ := hq
      obtain rfl : (sv_sts S [1000] g2) = S1 := (funext fun j => md17 j (by intro q; cases q)).symm
      show sv_T sm_XS sm_cs sm_L sm_sh 2 (q_field_ p1 p2 p3 p4 S) 299 73 [(0, .ref 0), (1, sv_I p1), (2, sv_I p2), (3, sv_I p3), (4, sv_I p4), (5, sv_I (0 : Int))] [sv_L r19] (sv_sts S [1000] g2)
      have h := h r19 hr19 hpo18
      refine sv_goto hM dX12_field__73 (pc' := 77) rfl ?_
      exact sv_lret hM dX12_field__77 rfl ⟨r19, rfl, hr19, ok16, md7, h⟩
  · have h := h.2 (hc)
    refine sv_iload_n hM dX12_field__8 rfl rfl ?_
    refine sv_iconst (d := (0 : Int)) hM dX12_field__9 rfl rfl ?_
    refine sv_aload_n hM dX12_field__10 rfl rfl ?_
    have k20 : sv_R (S 1071 0) := sm_okI ok3 sm_r1071 0
    have h := h k20
    refine sv_getI hM dX12_field__11 sm_fl_765 (sm_a0 _) sm_k71 rfl (x := (S 1071 0)) rfl ?_
    refine sv_iconst (d := (1 : Int)) hM dX12_field__14 rfl rfl ?_
    refine sv_isub hM dX12_field__15 rfl ?_
    obtain ⟨o21, h⟩ := h
    refine sv_callS hM dX12_field__16 sm_iv_899 (Nat.le_of_ble_eq_true rfl) rfl rfl (Nat.le_of_ble_eq_true rfl) sm_h4 (Nat.le_of_ble_eq_true rfl) (Nat.le_of_ble_eq_true rfl) (F' := 0) (Nat.le_of_ble_eq_true rfl) rfl (t_in p2 (0 : Int) ((S 1071 0) - (1 : Int)) (sv_sts S [1000] g2) ok3 hp2 (⟨by decide, by decide⟩ : sv_R (0 : Int)) o21) (fun v S1 hq => ?_)
    obtain ⟨rfl, hS1⟩ := hq
    obtain rfl : (sv_sts S [1000] g2) = S1 := hS1.symm
    show sv_T sm_XS sm_cs sm_L sm_sh 2 (q_field_ p1 p2 p3 p4 S) 299 19 [(0, .ref 0), (1, sv_I p1), (2, sv_I p2), (3, sv_I p3), (4, sv_I p4)] [sv_I (if (0 : Int) ≤ p2 ∧ p2 ≤ ((S 1071 0) - (1 : Int)) then 1 else 0)] (sv_sts S [1000] g2)
    refine sv_cond_eq hM dX12_field__19 (sv_Rite : sv_R (if (0 : Int) ≤ p2 ∧ p2 ≤ ((S 1071 0) - (1 : Int)) then 1 else 0)) (t := 52) rfl rfl (fun hc => ?_) (fun hc => ?_)
    · have h := h.1 (sv_iten hc)
      refine sv_iconst (d := (0 : Int)) hM dX12_field__52 rfl rfl ?_
      refine sv_istore hM dX12_field__53 (by decide) rfl ?_
      show sv_T sm_XS sm_cs sm_L sm_sh 2 (q_field_ p1 p2 p3 p4 S) 299 55 [(0, .ref 0), (1, sv_I p1), (2, sv_I p2), (3, sv_I p3), (4, sv_I p4), (5, sv_I (0 : Int))] [] (sv_sts S [1000] g2)
      refine sv_iload hM dX12_field__55 rfl rfl ?_
      refine sv_cond_eq hM dX12_field__57 (⟨by decide, by decide⟩ : sv_R (0 : Int)) (t := 76) rfl rfl (fun hc => ?_) (fun hc => ?_)
      · have h := h.1 (hc)
        refine sv_lconst (d := (0 : Int)) hM dX12_field__76 rfl rfl ?_
        exact sv_lret hM dX12_field__77 rfl ⟨(0 : Int), rfl, (⟨by decide, by decide⟩ : sv_RL (0 : Int)), ok3, md7, h⟩
      · have h := h.2 (hc)
        refine sv_aload_n hM dX12_field__60 rfl rfl ?_
        refine sv_aload_n hM dX12_field__61 rfl rfl ?_
        refine sv_iload_n hM dX12_field__62 rfl rfl ?_
        refine sv_iload_n hM dX12_field__63 rfl rfl ?_
        refine sv_iload_n hM dX12_field__64 rfl rfl ?_
        obtain ⟨o22, h⟩ := h
        refine sv_callV hM dX12_field__65 sm_iv_1163 (by decide) (sm_a0 _) rfl rfl (Nat.le_of_ble_eq_true rfl) sm_h225 (Nat.le_of_ble_eq_true rfl) (Nat.le_of_ble_eq_true rfl) (F' := 1) (Nat.le_of_ble_eq_true rfl) rfl (t_field p1 p2 p3 (sv_sts S [1000] g2) ok3 hp1 hp2 hp3 o22) (fun v S1 hq => ?_)
        obtain ⟨r27, rfl, hr27, ok24, md25, hpo26⟩ := hq
        obtain rfl : (sv_sts S [1000] g2) = S1 := (funext fun j => md25 j (by intro q; cases q)).symm
        show sv_T sm_XS sm_cs sm_L sm_sh 2 (q_field_ p1 p2 p3 p4 S) 299 68 [(0, .ref 0), (1, sv_I p1), (2, sv_I p2), (3, sv_I p3), (4, sv_I p4), (5, sv_I (0 : Int))] [sv_I r27, .ref 0] (sv_sts S [1000] g2)
        have h := h r27 hr27 hpo26
        refine sv_iload hM dX12_field__68 rfl rfl ?_
        obtain ⟨o28, h⟩ := h
        refine sv_callV hM dX12_field__70 sm_iv_1390 (by decide) (sm_a0 _) rfl rfl (Nat.le_of_ble_eq_true rfl) sm_h296 (Nat.le_of_ble_eq_true rfl) (Nat.le_of_ble_eq_true rfl) (F' := 1) (Nat.le_of_ble_eq_true rfl) rfl (t_tell r27 p4 (sv_sts S [1000] g2) ok24 hr27 hp4 o28) (fun v S1 hq => ?_)
        obtain ⟨r33, rfl, hr33, ok30, md31, hpo32⟩ := hq
        obtain rfl : (sv_sts S [1000] g2) = S1 := (funext fun j => md31 j (by intro q; cases q)).symm
        show sv_T sm_XS sm_cs sm_L sm_sh 2 (q_field_ p1 p2 p3 p4 S) 299 73 [(0, .ref 0), (1, sv_I p1), (2, sv_I p2), (3, sv_I p3), (4, sv_I p4), (5, sv_I (0 : Int))] [sv_L r33] (sv_sts S [1000] g2)
        have h := h r33 hr33 hpo32
        refine sv_goto hM dX12_field__73 (pc' := 77) rfl ?_
        exact sv_lret hM dX12_field__77 rfl ⟨r33, rfl, hr33, ok30, md7, h⟩
    · have h := h.2 (sv_itep hc)
      refine sv_iload_n hM dX12_field__22 rfl rfl ?_
      refine sv_iconst (d := (0 : Int)) hM dX12_field__23 rfl rfl ?_
      refine sv_aload_n hM dX12_field__24 rfl rfl ?_
      have k34 : sv_R (S 1008 0) := sm_okI ok3 sm_r1008 0
      have h := h k34
      refine sv_getI hM dX12_field__25 sm_fl_762 (sm_a0 _) sm_k8 rfl (x := (S 1008 0)) rfl ?_
      refine sv_callS hM dX12_field__28 sm_iv_899 (Nat.le_of_ble_eq_true rfl) rfl rfl (Nat.le_of_ble_eq_true rfl) sm_h4 (Nat.le_of_ble_eq_true rfl) (Nat.le_of_ble_eq_true rfl) (F' := 0) (Nat.le_of_ble_eq_true rfl) rfl (t_in p3 (0 : Int) (S 1008 0) (sv_sts S [1000] g2) ok3 hp3 (⟨by decide, by decide⟩ : sv_R (0 : Int)) k34) (fun v S1 hq => ?_)
      obtain ⟨rfl, hS1⟩ := hq
      obtain rfl : (sv_sts S [1000] g2) = S1 := hS1.symm
      show sv_T sm_XS sm_cs sm_L sm_sh 2 (q_field_ p1 p2 p3 p4 S) 299 31 [(0, .ref 0), (1, sv_I p1), (2, sv_I p2), (3, sv_I p3), (4, sv_I p4)] [sv_I (if (0 : Int) ≤ p3 ∧ p3 ≤ (S 1008 0) then 1 else 0)] (sv_sts S [1000] g2)
      refine sv_cond_eq hM dX12_field__31 (sv_Rite : sv_R (if (0 : Int) ≤ p3 ∧ p3 ≤ (S 1008 0) then 1 else 0)) (t := 52) rfl rfl (fun hc => ?_) (fun hc => ?_)
      · have h := h.1 (sv_iten hc)
        refine sv_iconst (d := (0 : Int)) hM dX12_field__52 rfl rfl ?_
        refine sv_istore hM dX12_field__53 (by decide) rfl ?_
        show sv_T sm_XS sm_cs sm_L sm_sh 2 (q_field_ p1 p2 p3 p4 S) 299 55 [(0, .ref 0), (1, sv_I p1), (2, sv_I p2), (3, sv_I p3), (4, sv_I p4), (5, sv_I (0 : Int))] [] (sv_sts S [1000] g2)
        refine sv_iload hM dX12_field__55 rfl rfl ?_
        refine sv_cond_eq hM dX12_field__57 (⟨by decide, by decide⟩ : sv_R (0 : Int)) (t := 76) rfl rfl (fun hc => ?_) (fun hc => ?_)
        · have h := h.1 (hc)
          refine sv_lconst (d := (0 : Int)) hM dX12_field__76 rfl rfl ?_
          exact sv_lret hM dX12_field__77 rfl ⟨(0 : Int), rfl, (⟨by decide, by decide⟩ : sv_RL (0 : Int)), ok3, md7, h⟩
        · have h := h.2 (hc)
          refine sv_aload_n hM dX12_field__60 rfl rfl ?_
          refine sv_aload_n hM dX12_field__61 rfl rfl ?_
          refine sv_iload_n hM dX12_field__62 rfl rfl ?_
          refine sv_iload_n hM dX12_field__63 rfl rfl ?_
          refine sv_iload_n hM dX12_field__64 rfl rfl ?_
          obtain ⟨o35, h⟩ := h
          refine sv_callV hM dX12_field__65 sm_iv_1163 (by decide) (sm_a0 _) rfl rfl (Nat.le_of_ble_eq_true rfl) sm_h225 (Nat.le_of_ble_eq_true rfl) (Nat.le_of_ble_eq_true rfl) (F' := 1) (Nat.le_of_ble_eq_true rfl) rfl (t_field p1 p2 p3 (sv_sts S [1000] g2) ok3 hp1 hp2 hp3 o35) (fun v S1 hq => ?_)
          obtain ⟨r40, rfl, hr40, ok37, md38, hpo39⟩ := hq
          obtain rfl : (sv_sts S [1000] g2) = S1 := (funext fun j => md38 j (by intro q; cases q)).symm
          show sv_T sm_XS sm_cs sm_L sm_sh 2 (q_field_ p1 p2 p3 p4 S) 299 68 [(0, .ref 0), (1, sv_I p1), (2, sv_I p2), (3, sv_I p3), (4, sv_I p4), (5, sv_I (0 : Int))] [sv_I r40, .ref 0] (sv_sts S [1000] g2)
          have h := h r40 hr40 hpo39
          refine sv_iload hM dX12_field__68 rfl rfl ?_
          obtain ⟨o41, h⟩ := h
          refine sv_callV hM dX12_field__70 sm_iv_1390 (by decide) (sm_a0 _) rfl rfl (Nat.le_of_ble_eq_true rfl) sm_h296 (Nat.le_of_ble_eq_true rfl) (Nat.le_of_ble_eq_true rfl) (F' := 1) (Nat.le_of_ble_eq_true rfl) rfl (t_tell r40 p4 (sv_sts S [1000] g2) ok37 hr40 hp4 o41) (fun v S1 hq => ?_)
          obtain ⟨r46, rfl, hr46, ok43, md44, hpo45⟩ := hq
          obtain rfl : (sv_sts S [1000] g2) = S1 := (funext fun j => md44 j (by intro q; cases q)).symm
          show sv_T sm_XS sm_cs sm_L sm_sh 2 (q_field_ p1 p2 p3 p4 S) 299 73 [(0, .ref 0), (1, sv_I p1), (2, sv_I p2), (3, sv_I p3), (4, sv_I p4), (5, sv_I (0 : Int))] [sv_L r46] (sv_sts S [1000] g2)
          have h := h r46 hr46 hpo45
          refine sv_goto hM dX12_field__73 (pc' := 77) rfl ?_
          exact sv_lret hM dX12_field__77 rfl ⟨r46, rfl, hr46, ok43, md7, h⟩
      · have h := h.2 (sv_itep hc)
        refine sv_aload_n hM dX12_field__34 rfl rfl ?_
        refine sv_getA hM dX12_field__35 sm_fl_256 (sm_a0 _) sm_k133 rfl ?_
        refine sv_aload_n hM dX12_field__38 rfl rfl ?_
        refine sv_iload_n hM dX12_field__39 rfl rfl ?_
        refine sv_iload_n hM dX12_field__40 rfl rfl ?_
        obtain ⟨o47, h⟩ := h
        refine sv_callV hM dX12_field__41 sm_iv_1101 (by decide) (sm_a0 _) rfl rfl (Nat.le_of_ble_eq_true rfl) sm_h226 (Nat.le_of_ble_eq_true rfl) (Nat.le_of_ble_eq_true rfl) (F' := 1) (Nat.le_of_ble_eq_true rfl) rfl (t_of p1 p2 (sv_sts S [1000] g2) ok3 hp1 hp2 o47) (fun v S1 hq => ?_)
        obtain ⟨r52, rfl, hr52, ok49, md50, hpo51⟩ := hq
        obtain rfl : (sv_sts S [1000] g2) = S1 := (funext fun j => md50 j (by intro q; cases q)).symm
        show sv_T sm_XS sm_cs sm_L sm_sh 2 (q_field_ p1 p2 p3 p4 S) 299 44 [(0, .ref 0), (1, sv_I p1), (2, sv_I p2), (3, sv_I p3), (4, sv_I p4)] [sv_I r52, .ref 81] (sv_sts S [1000] g2)
        have h := h r52 hr52 hpo51
        obtain ⟨o53, h⟩ := h
        have k54 : (0 ≤ (S 81 r52) ∧ (S 81 r52) ≤ 1) := sm_okZ ok49 sm_r81 r52
        have h := h k54
        refine sv_zald hM dX12_field__44 (sm_a81 _) (by decide) o53.1 o53.2 rfl (x := (S 81 r52)) rfl ?_
        refine sv_cond_eq hM dX12_field__45 (sv_R01 k54) (t := 52) rfl rfl (fun hc => ?_) (fun hc => ?_)
        · have h := h.1 (hc)
          refine sv_iconst (d := (0 : Int)) hM dX12_field__52 rfl rfl ?_
          refine sv_istore hM dX12_field__53 (by decide) rfl ?_
          show sv_T sm_XS sm_cs sm_L sm_sh 2 (q_field_ p1 p2 p3 p4 S) 299 55 [(0, .ref 0), (1, sv_I p1), (2, sv_I p2), (3, sv_I p3), (4, sv_I p4), (5, sv_I (0 : Int))] [] (sv_sts S [1000] g2)
          refine sv_iload hM dX12_field__55 rfl rfl ?_
          refine sv_cond_eq hM dX12_field__57 (⟨by decide, by decide⟩ : sv_R (0 : Int)) (t := 76) rfl rfl (fun hc => ?_) (fun hc => ?_)
          · have h := h.1 (hc)
            refine sv_lconst (d := (0 : Int)) hM dX12_field__76 rfl rfl ?_
            exact sv_lret hM dX12_field__77 rfl ⟨(0 : Int), rfl, (⟨by decide, by decide⟩ : sv_RL (0 : Int)), ok49, md7, h⟩
          · have h := h.2 (hc)
            refine sv_aload_n hM dX12_field__60 rfl rfl ?_
            refine sv_aload_n hM dX12_field__61 rfl rfl ?_
            refine sv_iload_n hM dX12_field__62 rfl rfl ?_
            refine sv_iload_n hM dX12_field__63 rfl rfl ?_
            refine sv_iload_n hM dX12_field__64 rfl rfl ?_
            obtain ⟨o55, h⟩ := h
            refine sv_callV hM dX12_field__65 sm_iv_1163 (by decide) (sm_a0 _) rfl rfl (Nat.le_of_ble_eq_true rfl) sm_h225 (Nat.le_of_ble_eq_true rfl) (Nat.le_of_ble_eq_true rfl) (F' := 1) (Nat.le_of_ble_eq_true rfl) rfl (t_field p1 p2 p3 (sv_sts S [1000] g2) ok49 hp1 hp2 hp3 o55) (fun v S1 hq => ?_)
            obtain ⟨r60, rfl, hr60, ok57, md58, hpo59⟩ := hq
            obtain rfl : (sv_sts S [1000] g2) = S1 := (funext fun j => md58 j (by intro q; cases q)).symm
            show sv_T sm_XS sm_cs sm_L sm_sh 2 (q_field_ p1 p2 p3 p4 S) 299 68 [(0, .ref 0), (1, sv_I p1), (2, sv_I p2), (3, sv_I p3), (4, sv_I p4), (5, sv_I (0 : Int))] [sv_I r60, .ref 0] (sv_sts S [1000] g2)
            have h := h r60 hr60 hpo59
            refine sv_iload hM dX12_field__68 rfl rfl ?_
            obtain ⟨o61, h⟩ := h
            refine sv_callV hM dX12_field__70 sm_iv_1390 (by decide) (sm_a0 _) rfl rfl (Nat.le_of_ble_eq_true rfl) sm_h296 (Nat.le_of_ble_eq_true rfl) (Nat.le_of_ble_eq_true rfl) (F' := 1) (Nat.le_of_ble_eq_true rfl) rfl (t_tell r60 p4 (sv_sts S [1000] g2) ok57 hr60 hp4 o61) (fun v S1 hq => ?_)
            obtain ⟨r66, rfl, hr66, ok63, md64, hpo65⟩ := hq
            obtain rfl : (sv_sts S [1000] g2) = S1 := (funext fun j => md64 j (by intro q; cases q)).symm
            show sv_T sm_XS sm_cs sm_L sm_sh 2 (q_field_ p1 p2 p3 p4 S) 299 73 [(0, .ref 0), (1, sv_I p1), (2, sv_I p2), (3, sv_I p3), (4, sv_I p4), (5, sv_I (0 : Int))] [sv_L r66] (sv_sts S [1000] g2)
            have h := h r66 hr66 hpo65
            refine sv_goto hM dX12_field__73 (pc' := 77) rfl ?_
            exact sv_lret hM dX12_field__77 rfl ⟨r66, rfl, hr66, ok63, md7, h⟩
        · have h := h.2 (hc)
          refine sv_iconst (d := (1 : Int)) hM dX12_field__48 rfl rfl ?_
          refine sv_goto hM dX12_field__49 (pc' := 53) rfl ?_
          refine sv_istore hM dX12_field__53 (by decide) rfl ?_
          show sv_T sm_XS sm_cs sm_L sm_sh 2 (q_field_ p1 p2 p3 p4 S) 299 55 [(0, .ref 0), (1, sv_I p1), (2, sv_I p2), (3, sv_I p3), (4, sv_I p4), (5, sv_I (1 : Int))] [] (sv_sts S [1000] g2)
          refine sv_iload hM dX12_field__55 rfl rfl ?_
          refine sv_cond_eq hM dX12_field__57 (⟨by decide, by decide⟩ : sv_R (1 : Int)) (t := 76) rfl rfl (fun hc => ?_) (fun hc => ?_)
          · have h := h.1 (hc)
            refine sv_lconst (d := (0 : Int)) hM dX12_field__76 rfl rfl ?_
            exact sv_lret hM dX12_field__77 rfl ⟨(0 : Int), rfl, (⟨by decide, by decide⟩ : sv_RL (0 : Int)), ok49, md7, h⟩
          · have h := h.2 (hc)
            refine sv_aload_n hM dX12_field__60 rfl rfl ?_
            refine sv_aload_n hM dX12_field__61 rfl rfl ?_
            refine sv_iload_n hM dX12_field__62 rfl rfl ?_
            refine sv_iload_n hM dX12_field__63 rfl rfl ?_
            refine sv_iload_n hM dX12_field__64 rfl rfl ?_
            obtain ⟨o67, h⟩ := h
            refine sv_callV hM dX12_field__65 sm_iv_1163 (by decide) (sm_a0 _) rfl rfl (Nat.le_of_ble_eq_true rfl) sm_h225 (Nat.le_of_ble_eq_true rfl) (Nat.le_of_ble_eq_true rfl) (F' := 1) (Nat.le_of_ble_eq_true rfl) rfl (t_field p1 p2 p3 (sv_sts S [1000] g2) ok49 hp1 hp2 hp3 o67) (fun v S1 hq => ?_)
            obtain ⟨r72, rfl, hr72, ok69, md70, hpo71⟩ := hq
            obtain rfl : (sv_sts S [1000] g2) = S1 := (funext fun j => md70 j (by intro q; cases q)).symm
            show sv_T sm_XS sm_cs sm_L sm_sh 2 (q_field_ p1 p2 p3 p4 S) 299 68 [(0, .ref 0), (1, sv_I p1), (2, sv_I p2), (3, sv_I p3), (4, sv_I p4), (5, sv_I (1 : Int))] [sv_I r72, .ref 0] (sv_sts S [1000] g2)
            have h := h r72 hr72 hpo71
            refine sv_iload hM dX12_field__68 rfl rfl ?_
            obtain ⟨o73, h⟩ := h
            refine sv_callV hM dX12_field__70 sm_iv_1390 (by decide) (sm_a0 _) rfl rfl (Nat.le_of_ble_eq_true rfl) sm_h296 (Nat.le_of_ble_eq_true rfl) (Nat.le_of_ble_eq_true rfl) (F' := 1) (Nat.le_of_ble_eq_true rfl) rfl (t_tell r72 p4 (sv_sts S [1000] g2) ok69 hr72 hp4 o73) (fun v S1 hq => ?_)
            obtain ⟨r78, rfl, hr78, ok75, md76, hpo77⟩ := hq
            obtain rfl : (sv_sts S [1000] g2) = S1 := (funext fun j => md76 j (by intro q; cases q)).symm
            show sv_T sm_XS sm_cs sm_L sm_sh 2 (q_field_ p1 p2 p3 p4 S) 299 73 [(0, .ref 0), (1, sv_I p1), (2, sv_I p2), (3, sv_I p3), (4, sv_I p4), (5, sv_I (1 : Int))] [sv_L r78] (sv_sts S [1000] g2)
            have h := h r78 hr78 hpo77
            refine sv_goto hM dX12_field__73 (pc' := 77) rfl ?_
            exact sv_lret hM dX12_field__77 rfl ⟨r78, rfl, hr78, ok75, md7, h⟩
def q_link (p1 : Int) (p2 : Int) (p3 : Int) (S : sv_S) : Option Value → sv_S → Prop := fun v S' => ∃ r : Int, v = some (sv_L r) ∧ sv_RL r ∧ sm_ok S' ∧ sv_mod [1000] S S' ∧ (True)
theorem la_link_0 {x0 x1 : Int} (h0 : 1 ≤ x0) (h1 : x1 + 2 * x0 ≤ 500) : x1 ≤ 600 := by omega
theorem la_link_1 {x0 : Int} (h0 : x0 = 0) : ¬ x0 = 1 := by omega
theorem la_link_2 {x0 : Int} (h0 : x0 = 1) : 0 ≤ x0 := by omega
theorem la_link_3 {x0 : Int} (h0 : 0 ≤ x0) (h1 : ¬ x0 = 0) : 0 < x0 := by omega
theorem la_link_4 {x0 : Int} (h0 : 29 ≤ x0) (h1 : x0 ≤ 127) : sv_R (x0 - 1) := by omega
theorem la_link_5 {x0 : Int} (h0 : (-1) ≤ x0) (h1 : ¬ x0 = (-1)) : (-1) < x0 := by omega
theorem la_link_6 {x0 x1 x2 x3 x4 x5 : Int} (h0 : 0 ≤ x0) (h1 : x0 < x1) (h2 : x2 ≤ 127) (h3 : 1 ≤ x3) (h4 : x1 + 2 * x3 ≤ 500) (h5 : 0 ≤ x4) (h6 : x4 ≤ 11557) (h7 : x5 ≤ x2 - 1) (h8 : (-1) < x5) : 0 ≤ x4 ∧ x4 ≤ 11557 ∧ 0 ≤ x0 ∧ (x0 = 639 ∨ x0 < x1 + 2 * x3) ∧ 0 ≤ x5 ∧ (x5 < x2 ∨ x0 = 639 ∧ x5 < 128) := by omega
theorem la_link_7 {x0 x1 x2 : Int} (h0 : x0 < x1) (h1 : 1 ≤ x2) (h2 : x1 + 2 * x2 ≤ 500) : ¬ x0 = 639 := by omega
theorem la_link_8 {x0 : Int} (h0 : 0 ≤ x0) (h1 : x0 < 14520) : 0 ≤ x0 ∧ x0 < 15128 := by omega
theorem la_link_9 {x0 : Int} (h0 : ¬ ¬ x0 = 4) : 3 ≤ x0 := by omega
theorem la_link_10 {x0 : Int} (h0 : 3 ≤ x0) (h1 : ¬ x0 = 3) : 3 < x0 := by omega
theorem la_link_11 {x0 x1 x2 : Int} (h0 : 0 ≤ x0) (h1 : x0 < x1) (h2 : 1 ≤ x2) (h3 : x1 + 2 * x2 ≤ 500) : 0 ≤ x0 ∧ x0 < 640 := by omega
set_option maxHeartbeats 2000000 in
theorem f_link : ∀ (p1 : Int) (p2 : Int) (p3 : Int) (S : sv_S), sm_ok S → sv_R p1 → sv_R p2 → sv_R p3 → (((S 1119 0) = 1 → 29 ≤ (S 1071 0) ∧ (S 1071 0) ≤ 127 ∧ 31 ≤ (S 1008 0) ∧ (S 1008 0) ≤ 90 ∧ 1 ≤ (S 1032 0) ∧ (S 1032 0) ≤ 11 ∧ 0 ≤ (S 1055 0) ∧ (S 1055 0) ≤ 19 ∧ (S 1071 0) = 29 + 6 * ((S 1032 0) - 1) + 2 * (S 1055 0) ∧ 0 ≤ (S 1046 0) ∧ (S 1046 0) + 2 * (S 1032 0) ≤ 500 ∧ sm_PD (S 1046 0) (S 1032 0) (S 1071 0) (S 1008 0) ∧ 0 ≤ (S 1071 0) * ((S 1008 0) + 1) ∧ (S 1071 0) * ((S 1008 0) + 1) ≤ 11557 ∧ sm_ST (S 71) (S 74) (S 75) (S 78) (S 79) (S 80) (S 27) (S 1100007) (S 1100023) (S 1100024) (S 1046 0) ((S 1046 0) + 2 * (S 1032 0)) (S 1127 0) ∧ 465000 ≤ (S 1127 0) ∧ (S 1127 0) ≤ 635000 ∧ sm_NH (S 1100007))) → (((S 1119 0) = 1 → 0 ≤ (S 1046 0) ∧ (S 1046 0) ≤ 600)) ∧ (∀ r6 : Int, sv_R r6 → ∀ g2 : sv_S, ((r6 = 0 ∨ r6 = 1) ∧ (r6 = 1 → (S 1119 0) = 1 ∧ 0 ≤ p1 ∧ p1 < (S 1046 0) ∧ (S 71 p1) = 1)) → (((r6 = (0 : Int)) → (True)) ∧ ((¬ (r6 = (0 : Int))) → (sv_R (S 1071 0) → (sv_R ((S 1071 0) - (1 : Int))) ∧ ((((-1 : Int) ≤ p2 ∧ p2 ≤ ((S 1071 0) - (1 : Int))) → (((¬ p2 = (-1 : Int)) → (29 ≤ (S 1071 0) ∧ (S 1071 0) ≤ 127 ∧ 31 ≤ (S 1008 0) ∧ (S 1008 0) ≤ 90 ∧ 1 ≤ (S 1032 0) ∧ (S 1032 0) ≤ 11 ∧ 0 ≤ (S 1055 0) ∧ (S 1055 0) ≤ 19 ∧ (S 1071 0) = 29 + 6 * ((S 1032 0) - 1) + 2 * (S 1055 0) ∧ 0 ≤ (S 1046 0) ∧ (S 1046 0) + 2 * (S 1032 0) ≤ 500 ∧ sm_PD (S 1046 0) (S 1032 0) (S 1071 0) (S 1008 0) ∧ 0 ≤ (S 1071 0) * ((S 1008 0) + 1) ∧ (S 1071 0) * ((S 1008 0) + 1) ≤ 11557 ∧ 0 ≤ p1 ∧ (p1 = 639 ∨ p1 < (S 1046 0) + 2 * (S 1032 0)) ∧ 0 ≤ p2 ∧ (p2 < (S 1071 0) ∨ (p1 = 639 ∧ p2 < 128))) ∧ (∀ r15 : Int, sv_R r15 → ((p1 = 639 → r15 = 15000 + p2) ∧ (¬ p1 = 639 → 0 ≤ r15 ∧ r15 < 14520)) → (((p3 < (0 : Int) ∨ (5 : Int) < p3) → (True)) ∧ ((p3 = (0 : Int)) → (0 ≤ r15 ∧ r15 < 15128) ∧ (sv_RL (S 83 r15) → (True))) ∧ ((p3 = (1 : Int)) → (0 ≤ r15 ∧ r15 < 15128) ∧ (sv_RL (S 84 r15) → (True))) ∧ ((p3 = (2 : Int)) → (0 ≤ r15 ∧ r15 < 15128) ∧ ((0 ≤ (S 82 r15) ∧ (S 82 r15) ≤ 1) → ((((S 82 r15) = (0 : Int)) → (True)) ∧ ((¬ ((S 82 r15) = (0 : Int))) → (True))))) ∧ ((p3 = (3 : Int)) → (0 ≤ r15 ∧ r15 < 15128) ∧ (sv_RL (S 85 r15) → (True))) ∧ ((p3 = (4 : Int)) → (0 ≤ r15 ∧ r15 < 15128) ∧ (sv_RL (S 86 r15) → (True))) ∧ ((p3 = (5 : Int)) → (0 ≤ r15 ∧ r15 < 15128) ∧ ((0 ≤ (S 81 r15) ∧ (S 81 r15) ≤ 1) → ((((S 81 r15) = (0 : Int)) → (True)) ∧ ((¬ ((S 81 r15) = (0 : Int))) → (True)))))))) ∧ ((¬ (¬ p2 = (-1 : Int))) → (((¬ p3 = (3 : Int)) → (((¬ p3 = (4 : Int)) → (True)) ∧ ((¬ (¬ p3 = (4 : Int))) → (0 ≤ p1 ∧ p1 < 640) ∧ (sv_RL (S 77 p1) → (True))))) ∧ ((¬ (¬ p3 = (3 : Int))) → (0 ≤ p1 ∧ p1 < 640) ∧ (sv_RL (S 76 p1) → (True))))))) ∧ ((¬ ((-1 : Int) ≤ p2 ∧ p2 ≤ ((S 1071 0) - (1 : Int)))) → (True))))))) := by
  intro p1
  intro p2
  intro p3
  intro S
  intro h1_
  intro h2_
  intro h3_
  intro h4_
  intro h5_
  refine ⟨?_, ?_⟩
  · skip
    intro h6_
    obtain ⟨h7_, ⟨h8_, ⟨h9_, ⟨h10_, ⟨h11_, ⟨h12_, ⟨h13_, ⟨h14_, ⟨h15_, ⟨h16_, ⟨h17_, ⟨h18_, ⟨h19_, ⟨h20_, ⟨h21_, ⟨h22_, ⟨h23_, h24_⟩⟩⟩⟩⟩⟩⟩⟩⟩⟩⟩⟩⟩⟩⟩⟩⟩ := (h5_ h6_)
    refine ⟨h16_, ?_⟩
    exact (la_link_0 h11_ h17_)
  intro r6
  intro h25_
  intro g2
  rintro ⟨h26_, h27_⟩
  refine ⟨?_, ?_⟩
  · skip
    intro h28_
    have h29_ := (h26_.resolve_right (la_link_1 h28_))
    exact trivial
  intro h30_
  have h31_ := (h26_.resolve_left h30_)
  obtain ⟨h32_, ⟨h33_, ⟨h34_, h35_⟩⟩⟩ := (h27_ h31_)
  obtain ⟨h36_, ⟨h37_, ⟨h38_, ⟨h39_, ⟨h40_, ⟨h41_, ⟨h42_, ⟨h43_, ⟨h44_, ⟨h45_, ⟨h46_, ⟨h47_, ⟨h48_, ⟨h49_, ⟨h50_, ⟨h51_, ⟨h52_, h53_⟩⟩⟩⟩⟩⟩⟩⟩⟩⟩⟩⟩⟩⟩⟩⟩⟩ := (h5_ h32_)
  intro h54_
  refine ⟨(la_link_4 h36_ h37_), ?_⟩
  refine ⟨?_, ?_⟩
  · skip
    rintro ⟨h55_, h56_⟩
    refine ⟨?_, ?_⟩
    · skip
      intro h57_
      refine ⟨⟨h36_, ⟨h37_, ⟨h38_, ⟨h39_, ⟨h40_, ⟨h41_, ⟨h42_, ⟨h43_, ⟨h44_, ⟨h45_, ⟨h46_, ⟨h47_, (la_link_6 h33_ h34_ h37_ h40_ h46_ h48_ h49_ h56_ (la_link_5 h55_ h57_))⟩⟩⟩⟩⟩⟩⟩⟩⟩⟩⟩⟩, ?_⟩
      intro r15
      intro h58_
      rintro ⟨h59_, h60_⟩
      obtain ⟨h61_, h62_⟩ := (h60_ (la_link_7 h34_ h40_ h46_))
      refine ⟨?_, ?_⟩
      · skip
        intro h63_
        exact trivial
      refine ⟨?_, ?_⟩
      · skip
        intro h64_
        refine ⟨(la_link_8 h61_ h62_), ?_⟩
        intro h65_
        exact trivial
      refine ⟨?_, ?_⟩
      · skip
        intro h66_
        refine ⟨(la_link_8 h61_ h62_), ?_⟩
        intro h67_
        exact trivial
      refine ⟨?_, ?_⟩
      · skip
        intro h68_
        refine ⟨(la_link_8 h61_ h62_), ?_⟩
        rintro ⟨h69_, h70_⟩
        refine ⟨?_, ?_⟩
        · skip
          intro h71_
          exact trivial
        intro h72_
        exact trivial
      refine ⟨?_, ?_⟩
      · skip
        intro h73_
        refine ⟨(la_link_8 h61_ h62_), ?_⟩
        intro h74_
        exact trivial
      refine ⟨?_, ?_⟩
      · skip
        intro h75_
        refine ⟨(la_link_8 h61_ h62_), ?_⟩
        intro h76_
        exact trivial
      intro h77_
      refine ⟨(la_link_8 h61_ h62_), ?_⟩
      rintro ⟨h78_, h79_⟩
      refine ⟨?_, ?_⟩
      · skip
        intro h80_
        exact trivial
      intro h81_
      exact trivial
    intro h82_
    refine ⟨?_, ?_⟩
    · skip
      intro h83_
      refine ⟨?_, ?_⟩
      · skip
        intro h84_
        exact trivial
      intro h85_
      refine ⟨(la_link_11 h33_ h34_ h40_ h46_), ?_⟩
      intro h86_
      exact trivial
    intro h87_
    refine ⟨(la_link_11 h33_ h34_ h40_ h46_), ?_⟩
    intro h88_
    exact trivial
  intro h89_
  exact trivial
set_option maxRecDepth 8000 in
set_option maxHeartbeats 2000000 in
theorem t_obslink : ∀ (p1 : Int) (p2 : Int) (p3 : Int) (S : sv_S), sm_ok S → sv_R p1 → sv_R p2 → sv_R p3 → (((S 1119 0) = 1 → 29 ≤ (S 1071 0) ∧ (S 1071 0) ≤ 127 ∧ 31 ≤ (S 1008 0) ∧ (S 1008 0) ≤ 90 ∧ 1 ≤ (S 1032 0) ∧ (S 1032 0) ≤ 11 ∧ 0 ≤ (S 1055 0) ∧ (S 1055 0) ≤ 19 ∧ (S 1071 0) = 29 + 6 * ((S 1032 0) - 1) + 2 * (S 1055 0) ∧ 0 ≤ (S 1046 0) ∧ (S 1046 0) + 2 * (S 1032 0) ≤ 500 ∧ sm_PD (S 1046 0) (S 1032 0) (S 1071 0) (S 1008 0) ∧ 0 ≤ (S 1071 0) * ((S 1008 0) + 1) ∧ (S 1071 0) * ((S 1008 0) + 1) ≤ 11557 ∧ sm_ST (S 71) (S 74) (S 75) (S 78) (S 79) (S 80) (S 27) (S 1100007) (S 1100023) (S 1100024) (S 1046 0) ((S 1046 0) + 2 * (S 1032 0)) (S 1127 0) ∧ 465000 ≤ (S 1127 0) ∧ (S 1127 0) ≤ 635000 ∧ sm_NH (S 1100007))) → sv_T sm_XS sm_cs sm_L sm_sh 2 (q_link p1 p2 p3 S) 300 0 (lv_args 0 [.ref 0, sv_I p1, sv_I p2, sv_I p3]) [] S := by
  intro p1 p2 p3 S hok hp1 hp2 hp3 hpre
  have h := f_link p1 p2 p3 S hok hp1 hp2 hp3 hpre
  have hM := sm_h300
  show sv_T sm_XS sm_cs sm_L sm_sh 2 (q_link p1 p2 p3 S) 300 0 [(0, .ref 0), (1, sv_I p1), (2, sv_I p2), (3, sv_I p3)] [] S
  refine sv_aload_n hM dX12_link_0 rfl rfl ?_
  refine sv_iload_n hM dX12_link_1 rfl rfl ?_
  obtain ⟨o1, h⟩ := h
  refine sv_callV hM dX12_link_2 sm_iv_1387 (by decide) (sm_a0 _) rfl rfl (Nat.le_of_ble_eq_true rfl) sm_h295 (Nat.le_of_ble_eq_true rfl) (Nat.le_of_ble_eq_true rfl) (F' := 1) (Nat.le_of_ble_eq_true rfl) rfl (t_isReached p1 S hok hp1 o1) (fun v S1 hq => ?_)
  obtain ⟨r6, rfl, hr6, ok3, md4, hpo5⟩ := hq
  obtain ⟨g2, rfl⟩ : ∃ g, S1 = sv_sts S [1000] g := ⟨_, md4.eq⟩
  show sv_T sm_XS sm_cs sm_L sm_sh 2 (q_link p1 p2 p3 S) 300 5 [(0, .ref 0), (1, sv_I p1), (2, sv_I p2), (3, sv_I p3)] [sv_I r6] (sv_sts S [1000] g2)
  have md7 : sv_mod [1000] S (sv_sts S [1000] g2) := sv_mod.sts sv_mod.rf (by decide)
  have h := h r6 hr6 g2 hpo5
  refine sv_cond_eq hM dX12_link_5 hr6 (t := 22) rfl rfl (fun hc => ?_) (fun hc => ?_)
  · have h := h.1 (hc)
    refine sv_lconst (d := (0 : Int)) hM dX12_link_22 rfl rfl ?_
    exact sv_lret hM dX12_link_23 rfl ⟨(0 : Int), rfl, (⟨by decide, by decide⟩ : sv_RL (0 : Int)), ok3, md7, h⟩
  · have h := h.2 (hc)
    refine sv_iload_n hM dX12_link_8 rfl rfl ?_
    refine sv_iconst (d := (-1 : Int)) hM dX12_link_9 rfl rfl ?_
    refine sv_aload_n hM dX12_link_10 rfl rfl ?_
    have k8 : sv_R (S 1071 0) := sm_okI ok3 sm_r1071 0
    have h := h k8
    refine sv_getI hM dX12_link_11 sm_fl_765 (sm_a0 _) sm_k71 rfl (x := (S 1071 0)) rfl ?_
    refine sv_iconst (d := (1 : Int)) hM dX12_link_14 rfl rfl ?_
    refine sv_isub hM dX12_link_15 rfl ?_
    obtain ⟨o9, h⟩ := h
    refine sv_callS hM dX12_link_16 sm_iv_899 (Nat.le_of_ble_eq_true rfl) rfl rfl (Nat.le_of_ble_eq_true rfl) sm_h4 (Nat.le_of_ble_eq_true rfl) (Nat.le_of_ble_eq_true rfl) (F' := 0) (Nat.le_of_ble_eq_true rfl) rfl (t_in p2 (-1 : Int) ((S 1071 0) - (1 : Int)) (sv_sts S [1000] g2) ok3 hp2 (⟨by decide, by decide⟩ : sv_R (-1 : Int)) o9) (fun v S1 hq => ?_)
    obtain ⟨rfl, hS1⟩ := hq
    obtain rfl : (sv_sts S [1000] g2) = S1 := hS1.symm
    show sv_T sm_XS sm_cs sm_L sm_sh 2 (q_link p1 p2 p3 S) 300 19 [(0, .ref 0), (1, sv_I p1), (2, sv_I p2), (3, sv_I p3)] [sv_I (if (-1 : Int) ≤ p2 ∧ p2 ≤ ((S 1071 0) - (1 : Int)) then 1 else 0)] (sv_sts S [1000] g2)
    refine sv_cond_ne hM dX12_link_19 (sv_Rite : sv_R (if (-1 : Int) ≤ p2 ∧ p2 ≤ ((S 1071 0) - (1 : Int)) then 1 else 0)) (t := 24) rfl rfl (fun hc => ?_) (fun hc => ?_)
    · have h := h.1 (sv_itep hc)
      refine sv_iload_n hM dX12_link_24 rfl rfl ?_
      refine sv_iconst (d := (-1 : Int)) hM dX12_link_25 rfl rfl ?_
      refine sv_icmp_ne hM dX12_link_26 hp2 (⟨by decide, by decide⟩ : sv_R (-1 : Int)) (t := 59) rfl rfl (fun hc => ?_) (fun hc => ?_)
      · have h := h.1 (hc)
        refine sv_aload_n hM dX12_link_59 rfl rfl ?_
        refine sv_iload_n hM dX12_link_60 rfl rfl ?_
        refine sv_iload_n hM dX12_link_61 rfl rfl ?_
        obtain ⟨o10, h⟩ := h
        refine sv_callV hM dX12_link_62 sm_iv_1101 (by decide) (sm_a0 _) rfl rfl (Nat.le_of_ble_eq_true rfl) sm_h226 (Nat.le_of_ble_eq_true rfl) (Nat.le_of_ble_eq_true rfl) (F' := 1) (Nat.le_of_ble_eq_true rfl) rfl (t_of p1 p2 (sv_sts S [1000] g2) ok3 hp1 hp2 o10) (fun v S1 hq => ?_)
        obtain ⟨r15, rfl, hr15, ok12, md13, hpo14⟩ := hq
        obtain rfl : (sv_sts S [1000] g2) = S1 := (funext fun j => md13 j (by intro q; cases q)).symm
        show sv_T sm_XS sm_cs sm_L sm_sh 2 (q_link p1 p2 p3 S) 300 65 [(0, .ref 0), (1, sv_I p1), (2, sv_I p2), (3, sv_I p3)] [sv_I r15] (sv_sts S [1000] g2)
        have h := h r15 hr15 hpo14
        refine sv_istore hM dX12_link_65 (by decide) rfl ?_
        show sv_T sm_XS sm_cs sm_L sm_sh 2 (q_link p1 p2 p3 S) 300 67 [(0, .ref 0), (1, sv_I p1), (2, sv_I p2), (3, sv_I p3), (4, sv_I r15)] [] (sv_sts S [1000] g2)
        refine sv_iload_n hM dX12_link_67 rfl rfl ?_
        have hS := h
        have J0 : (p3 < (0 : Int) ∨ (5 : Int) < p3) → sv_T sm_XS sm_cs sm_L sm_sh 2 (q_link p1 p2 p3 S) 300 172 [(0, .ref 0), (1, sv_I p1), (2, sv_I p2), (3, sv_I p3), (4, sv_I r15)] [] (sv_sts S [1000] g2) := by
          intro hc
          have h := hS.1 hc
          refine sv_lconst (d := (0 : Int)) hM dX12_link_172 rfl rfl ?_
          exact sv_lret hM dX12_link_173 rfl ⟨(0 : Int), rfl, (⟨by decide, by decide⟩ : sv_RL (0 : Int)), ok12, md7, h⟩
        have J1 : (p3 = (0 : Int)) → sv_T sm_XS sm_cs sm_L sm_sh 2 (q_link p1 p2 p3 S) 300 108 [(0, .ref 0), (1, sv_I p1), (2, sv_I p2), (3, sv_I p3), (4, sv_I r15)] [] (sv_sts S [1000] g2) := by
          intro hc
          have h := hS.2.1 hc
          refine sv_aload_n hM dX12_link_108 rfl rfl ?_
          refine sv_getA hM dX12_link_109 sm_fl_262 (sm_a0 _) sm_k135 rfl ?_
          refine sv_iload hM dX12_link_112 rfl rfl ?_
          obtain ⟨o16, h⟩ := h
          have k17 : sv_RL (S 83 r15) := sm_okJ ok12 sm_r83 r15
          have h := h k17
          refine sv_lald hM dX12_link_114 (sm_a83 _) (by decide) o16.1 o16.2 rfl (x := (S 83 r15)) rfl ?_
          exact sv_lret hM dX12_link_115 rfl ⟨(S 83 r15), rfl, k17, ok12, md7, h⟩
        have J2 : (p3 = (1 : Int)) → sv_T sm_XS sm_cs sm_L sm_sh 2 (q_link p1 p2 p3 S) 300 116 [(0, .ref 0), (1, sv_I p1), (2, sv_I p2), (3, sv_I p3), (4, sv_I r15)] [] (sv_sts S [1000] g2) := by
          intro hc
          have h := hS.2.2.1 hc
          refine sv_aload_n hM dX12_link_116 rfl rfl ?_
          refine sv_getA hM dX12_link_117 sm_fl_265 (sm_a0 _) sm_k136 rfl ?_
          refine sv_iload hM dX12_link_120 rfl rfl ?_
          obtain ⟨o18, h⟩ := h
          have k19 : sv_RL (S 84 r15) := sm_okJ ok12 sm_r84 r15
          have h := h k19
          refine sv_lald hM dX12_link_122 (sm_a84 _) (by decide) o18.1 o18.2 rfl (x := (S 84 r15)) rfl ?_
          exact sv_lret hM dX12_link_123 rfl ⟨(S 84 r15), rfl, k19, ok12, md7, h⟩
        have J3 : (p3 = (2 : Int)) → sv_T sm_XS sm_cs sm_L sm_sh 2 (q_link p1 p2 p3 S) 300 124 [(0, .ref 0), (1, sv_I p1), (2, sv_I p2), (3, sv_I p3), (4, sv_I r15)] [] (sv_sts S [1000] g2) := by
          intro hc
          have h := hS.2.2.2.1 hc
          refine sv_aload_n hM dX12_link_124 rfl rfl ?_
          refine sv_getA hM dX12_link_125 sm_fl_259 (sm_a0 _) sm_k134 rfl ?_
          refine sv_iload hM dX12_link_128 rfl rfl ?_
          obtain ⟨o20, h⟩ := h
          have k21 : (0 ≤ (S 82 r15) ∧ (S 82 r15) ≤ 1) := sm_okZ ok12 sm_r82 r15
          have h := h k21
          refine sv_zald hM dX12_link_130 (sm_a82 _) (by decide) o20.1 o20.2 rfl (x := (S 82 r15)) rfl ?_
          refine sv_cond_eq hM dX12_link_131 (sv_R01 k21) (t := 138) rfl rfl (fun hc => ?_) (fun hc => ?_)
          · have h := h.1 (hc)
            refine sv_lconst (d := (0 : Int)) hM dX12_link_138 rfl rfl ?_
            exact sv_lret hM dX12_link_139 rfl ⟨(0 : Int), rfl, (⟨by decide, by decide⟩ : sv_RL (0 : Int)), ok12, md7, h⟩
          · have h := h.2 (hc)
            refine sv_lconst (d := (1 : Int)) hM dX12_link_134 rfl rfl ?_
            refine sv_goto hM dX12_link_135 (pc' := 139) rfl ?_
            exact sv_lret hM dX12_link_139 rfl ⟨(1 : Int), rfl, (⟨by decide, by decide⟩ : sv_RL (1 : Int)), ok12, md7, h⟩
        have J4 : (p3 = (3 : Int)) → sv_T sm_XS sm_cs sm_L sm_sh 2 (q_link p1 p2 p3 S) 300 140 [(0, .ref 0), (1, sv_I p1), (2, sv_I p2), (3, sv_I p3), (4, sv_I r15)] [] (sv_sts S [1000] g2) := by
          intro hc
          have h := hS.2.2.2.2.1 hc
          refine sv_aload_n hM dX12_link_140 rfl rfl ?_
          refine sv_getA hM dX12_link_141 sm_fl_268 (sm_a0 _) sm_k137 rfl ?_
          refine sv_iload hM dX12_link_144 rfl rfl ?_
          obtain ⟨o22, h⟩ := h
          have k23 : sv_RL (S 85 r15) := sm_okJ ok12 sm_r85 r15
          have h := h k23
          refine sv_lald hM dX12_link_146 (sm_a85 _) (by decide) o22.1 o22.2 rfl (x := (S 85 r15)) rfl ?_
          exact sv_lret hM dX12_link_147 rfl ⟨(S 85 r15), rfl, k23, ok12, md7, h⟩
        have J5 : (p3 = (4 : Int)) → sv_T sm_XS sm_cs sm_L sm_sh 2 (q_link p1 p2 p3 S) 300 148 [(0, .ref 0), (1, sv_I p1), (2, sv_I p2), (3, sv_I p3), (4, sv_I r15)] [] (sv_sts S [1000] g2) := by
          intro hc
          have h := hS.2.2.2.2.2.1 hc
          refine sv_aload_n hM dX12_link_148 rfl rfl ?_
          refine sv_getA hM dX12_link_149 sm_fl_271 (sm_a0 _) sm_k138 rfl ?_
          refine sv_iload hM dX12_link_152 rfl rfl ?_
          obtain ⟨o24, h⟩ := h
          have k25 : sv_RL (S 86 r15) := sm_okJ ok12 sm_r86 r15
          have h := h k25
          refine sv_lald hM dX12_link_154 (sm_a86 _) (by decide) o24.1 o24.2 rfl (x := (S 86 r15)) rfl ?_
          exact sv_lret hM dX12_link_155 rfl ⟨(S 86 r15), rfl, k25, ok12, md7, h⟩
        have J6 : (p3 = (5 : Int)) → sv_T sm_XS sm_cs sm_L sm_sh 2 (q_link p1 p2 p3 S) 300 156 [(0, .ref 0), (1, sv_I p1), (2, sv_I p2), (3, sv_I p3), (4, sv_I r15)] [] (sv_sts S [1000] g2) := by
          intro hc
          have h := hS.2.2.2.2.2.2 hc
          refine sv_aload_n hM dX12_link_156 rfl rfl ?_
          refine sv_getA hM dX12_link_157 sm_fl_256 (sm_a0 _) sm_k133 rfl ?_
          refine sv_iload hM dX12_link_160 rfl rfl ?_
          obtain ⟨o26, h⟩ := h
          have k27 : (0 ≤ (S 81 r15) ∧ (S 81 r15) ≤ 1) := sm_okZ ok12 sm_r81 r15
          have h := h k27
          refine sv_zald hM dX12_link_162 (sm_a81 _) (by decide) o26.1 o26.2 rfl (x := (S 81 r15)) rfl ?_
          refine sv_cond_eq hM dX12_link_163 (sv_R01 k27) (t := 170) rfl rfl (fun hc => ?_) (fun hc => ?_)
          · have h := h.1 (hc)
            refine sv_lconst (d := (0 : Int)) hM dX12_link_170 rfl rfl ?_
            exact sv_lret hM dX12_link_171 rfl ⟨(0 : Int), rfl, (⟨by decide, by decide⟩ : sv_RL (0 : Int)), ok12, md7, h⟩
          · have h := h.2 (hc)
            refine sv_lconst (d := (1 : Int)) hM dX12_link_166 rfl rfl ?_
            refine sv_goto hM dX12_link_167 (pc' := 171) rfl ?_
            exact sv_lret hM dX12_link_171 rfl ⟨(1 : Int), rfl, (⟨by decide, by decide⟩ : sv_RL (1 : Int)), ok12, md7, h⟩
        refine sv_tsw hM dX12_link_68 hp3 (t := 172) rfl (fun hc => J0 (by rcases hc with hc | hc; exact Or.inl hc; exact Or.inr hc)) (fun hc => ?_)
        have hv : p3 = (0 : Int) ∨ p3 = (1 : Int) ∨ p3 = (2 : Int) ∨ p3 = (3 : Int) ∨ p3 = (4 : Int) ∨ p3 = (5 : Int) := by omega
        rcases hv with hv | hv | hv | hv | hv | hv
        · exact ⟨40, 108, by rw [hv]; rfl, rfl, J1 (by omega)⟩
        · exact ⟨48, 116, by rw [hv]; rfl, rfl, J2 (by omega)⟩
        · exact ⟨56, 124, by rw [hv]; rfl, rfl, J3 (by omega)⟩
        · exact ⟨72, 140, by rw [hv]; rfl, rfl, J4 (by omega)⟩
        · exact ⟨80, 148, by rw [hv]; rfl, rfl, J5 (by omega)⟩
        · exact ⟨88, 156, by rw [hv]; rfl, rfl, J6 (by omega)⟩
      · have h := h.2 (hc)
        refine sv_iload_n hM dX12_link_29 rfl rfl ?_
        refine sv_iconst (d := (3 : Int)) hM dX12_link_30 rfl rfl ?_
        refine sv_icmp_ne hM dX12_link_31 hp3 (⟨by decide, by decide⟩ : sv_R (3 : Int)) (t := 43) rfl rfl (fun hc => ?_) (fun hc => ?_)
        · have h := h.1 (hc)
          refine sv_iload_n hM dX12_link_43 rfl rfl ?_
          refine sv_iconst (d := (4 : Int)) hM dX12_link_44 rfl rfl ?_
          refine sv_icmp_ne hM dX12_link_45 hp3 (⟨by decide, by decide⟩ : sv_R (4 : Int)) (t := 57) rfl rfl (fun hc => ?_) (fun hc => ?_)
          · have h := h.1 (hc)
            refine sv_lconst (d := (0 : Int)) hM dX12_link_57 rfl rfl ?_
            exact sv_lret hM dX12_link_58 rfl ⟨(0 : Int), rfl, (⟨by decide, by decide⟩ : sv_RL (0 : Int)), ok3, md7, h⟩
          · have h := h.2 (hc)
            refine sv_aload_n hM dX12_link_48 rfl rfl ?_
            refine sv_getA hM dX12_link_49 sm_fl_244 (sm_a0 _) sm_k129 rfl ?_
            refine sv_iload_n hM dX12_link_52 rfl rfl ?_
            obtain ⟨o28, h⟩ := h
            have k29 : sv_RL (S 77 p1) := sm_okJ ok3 sm_r77 p1
            have h := h k29
            refine sv_lald hM dX12_link_53 (sm_a77 _) (by decide) o28.1 o28.2 rfl (x := (S 77 p1)) rfl ?_
            refine sv_goto hM dX12_link_54 (pc' := 58) rfl ?_
            exact sv_lret hM dX12_link_58 rfl ⟨(S 77 p1), rfl, k29, ok3, md7, h⟩
        · have h := h.2 (hc)
          refine sv_aload_n hM dX12_link_34 rfl rfl ?_
          refine sv_getA hM dX12_link_35 sm_fl_241 (sm_a0 _) sm_k128 rfl ?_
          refine sv_iload_n hM dX12_link_38 rfl rfl ?_
          obtain ⟨o30, h⟩ := h
          have k31 : sv_RL (S 76 p1) := sm_okJ ok3 sm_r76 p1
          have h := h k31
          refine sv_lald hM dX12_link_39 (sm_a76 _) (by decide) o30.1 o30.2 rfl (x := (S 76 p1)) rfl ?_
          refine sv_goto hM dX12_link_40 (pc' := 58) rfl ?_
          exact sv_lret hM dX12_link_58 rfl ⟨(S 76 p1), rfl, k31, ok3, md7, h⟩
    · have h := h.2 (fun q => hc (by rw [if_pos q]; decide))
      refine sv_lconst (d := (0 : Int)) hM dX12_link_22 rfl rfl ?_
      exact sv_lret hM dX12_link_23 rfl ⟨(0 : Int), rfl, (⟨by decide, by decide⟩ : sv_RL (0 : Int)), ok3, md7, h⟩
def q_result (p1 : Int) (p2 : Int) (p3 : Int) (S : sv_S) : Option Value → sv_S → Prop := fun v S' => ∃ r : Int, v = some (sv_L r) ∧ sv_RL r ∧ sm_ok S' ∧ sv_mod [1000] S S' ∧ (True)
theorem la_result_0 {x0 : Int} (h0 : x0 = 0) : ¬ x0 = 1 := by omega
theorem la_result_1 {x0 : Int} (h0 : 0 ≤ x0) (h1 : ¬ x0 = 0) : 0 < x0 := by omega
theorem la_result_2 {x0 : Int} (h0 : x0 ≤ 1) (h1 : 0 < x0) : x0 = 1 := by omega
theorem la_result_3 {x0 : Int} (h0 : 1 ≤ x0) (h1 : x0 ≤ 11) : sv_R (x0 - 1) := by omega
theorem la_result_4 {x0 x1 x2 x3 x4 : Int} (h0 : 0 ≤ x0) (h1 : x0 + 2 * x1 ≤ 500) (h2 : 0 ≤ x2) (h3 : x2 ≤ x1 - 1) (h4 : 0 ≤ x3) (h5 : x3 ≤ 1) (h6 : x0 + 2 * x2 + x3 = x4) : 0 ≤ x4 ∧ x4 < 640 := by omega
theorem la_result_5 {x0 x1 x2 x3 : Int} (h0 : 0 ≤ x0) (h1 : 0 ≤ x1) (h2 : 0 ≤ x2) (h3 : x0 + 2 * x1 + x2 = x3) : 0 ≤ x3 := by omega
theorem la_result_6 {x0 x1 x2 x3 x4 : Int} (h0 : x0 ≤ x1 - 1) (h1 : x2 ≤ 1) (h2 : x3 + 2 * x0 + x2 = x4) : x4 < x3 + 2 * x1 := by omega
theorem la_result_7 {x0 x1 x2 x3 x4 : Int} (h0 : x0 + 2 * x1 ≤ 500) (h1 : x2 ≤ x1 - 1) (h2 : x3 ≤ 1) (h3 : x0 + 2 * x2 + x3 = x4) : x4 < 640 := by omega
theorem la_result_8 {x0 x1 x2 x3 : Int} (h0 : x0 ≤ 635000) (h1 : x1 = x2) (h2 : 465000 ≤ x3) (h3 : x3 + x1 ≤ x0) (h4 : 0 ≤ x2) : 0 ≤ x3 ∧ x3 < 647800 := by omega
set_option maxHeartbeats 2000000 in
theorem f_result : ∀ (p1 : Int) (p2 : Int) (p3 : Int) (S : sv_S), sm_ok S → sv_R p1 → sv_R p2 → sv_R p3 → (((S 1119 0) = 1 → 29 ≤ (S 1071 0) ∧ (S 1071 0) ≤ 127 ∧ 31 ≤ (S 1008 0) ∧ (S 1008 0) ≤ 90 ∧ 1 ≤ (S 1032 0) ∧ (S 1032 0) ≤ 11 ∧ 0 ≤ (S 1055 0) ∧ (S 1055 0) ≤ 19 ∧ (S 1071 0) = 29 + 6 * ((S 1032 0) - 1) + 2 * (S 1055 0) ∧ 0 ≤ (S 1046 0) ∧ (S 1046 0) + 2 * (S 1032 0) ≤ 500 ∧ sm_PD (S 1046 0) (S 1032 0) (S 1071 0) (S 1008 0) ∧ 0 ≤ (S 1071 0) * ((S 1008 0) + 1) ∧ (S 1071 0) * ((S 1008 0) + 1) ≤ 11557 ∧ sm_ST (S 71) (S 74) (S 75) (S 78) (S 79) (S 80) (S 27) (S 1100007) (S 1100023) (S 1100024) (S 1046 0) ((S 1046 0) + 2 * (S 1032 0)) (S 1127 0) ∧ 465000 ≤ (S 1127 0) ∧ (S 1127 0) ≤ 635000 ∧ sm_NH (S 1100007))) → ((0 ≤ (S 1119 0) ∧ (S 1119 0) ≤ 1) → ((((S 1119 0) = (0 : Int)) → (True)) ∧ ((¬ ((S 1119 0) = (0 : Int))) → (sv_R (S 1032 0) → (sv_R ((S 1032 0) - (1 : Int))) ∧ (((¬ ((0 : Int) ≤ p1 ∧ p1 ≤ ((S 1032 0) - (1 : Int)))) → (True)) ∧ (((0 : Int) ≤ p1 ∧ p1 ≤ ((S 1032 0) - (1 : Int))) → ((((0 : Int) ≤ p2 ∧ p2 ≤ (1 : Int)) → (sv_R (S 1046 0) → (∀ x7 : Int, (((S 1046 0) + ((2 : Int) * p1)) + p2) = x7 → (0 ≤ x7 ∧ x7 < 640) ∧ ((0 ≤ (S 71 x7) ∧ (S 71 x7) ≤ 1) → ((((S 71 x7) = (0 : Int)) → (True)) ∧ ((¬ ((S 71 x7) = (0 : Int))) → ((sm_ST (S 71) (S 74) (S 75) (S 78) (S 79) (S 80) (S 27) (S 1100007) (S 1100023) (S 1100024) (S 1046 0) ((S 1046 0) + 2 * (S 1032 0)) (S 1127 0) → 0 ≤ x7 → x7 < ((S 1046 0) + 2 * (S 1032 0)) → (S 71 x7) = 1 → (S 74 x7) = (S 1100007 x7) ∧ 465000 ≤ (S 75 x7) ∧ (S 75 x7) + (S 74 x7) ≤ (S 1127 0) ∧ 0 ≤ (S 78 x7) ∧ (S 78 x7) ≤ 40) → ((sm_NH (S 1100007) → 0 ≤ x7 → x7 < 640 → 0 ≤ (S 1100007 x7) ∧ (S 1100007 x7) ≤ 400) → (sv_R (S 75 x7) → (0 ≤ (S 75 x7) ∧ (S 75 x7) < 647800) ∧ (∀ r19 : Int, sv_RL r19 → (True) → (True))))))))))) ∧ ((¬ ((0 : Int) ≤ p2 ∧ p2 ≤ (1 : Int))) → (True))))))))) := by
  intro p1
  intro p2
  intro p3
  intro S
  intro h1_
  intro h2_
  intro h3_
  intro h4_
  intro h5_
  rintro ⟨h6_, h7_⟩
  refine ⟨?_, ?_⟩
  · skip
    intro h8_
    exact trivial
  intro h9_
  obtain ⟨h10_, ⟨h11_, ⟨h12_, ⟨h13_, ⟨h14_, ⟨h15_, ⟨h16_, ⟨h17_, ⟨h18_, ⟨h19_, ⟨h20_, ⟨h21_, ⟨h22_, ⟨h23_, ⟨h24_, ⟨h25_, ⟨h26_, h27_⟩⟩⟩⟩⟩⟩⟩⟩⟩⟩⟩⟩⟩⟩⟩⟩⟩ := (h5_ (la_result_2 h7_ (la_result_1 h6_ h9_)))
  intro h28_
  refine ⟨(la_result_3 h14_ h15_), ?_⟩
  refine ⟨?_, ?_⟩
  · skip
    intro h29_
    exact trivial
  rintro ⟨h30_, h31_⟩
  refine ⟨?_, ?_⟩
  · skip
    rintro ⟨h32_, h33_⟩
    intro h34_
    intro x7
    intro h35_
    refine ⟨(la_result_4 h19_ h20_ h30_ h31_ h32_ h33_ h35_), ?_⟩
    rintro ⟨h36_, h37_⟩
    refine ⟨?_, ?_⟩
    · skip
      intro h38_
      exact trivial
    intro h39_
    intro h40_
    have h41_ := (h40_ h24_)
    have h42_ := (h41_ (la_result_5 h19_ h30_ h32_ h35_))
    have h43_ := (h42_ (la_result_6 h31_ h33_ h35_))
    obtain ⟨h44_, ⟨h45_, ⟨h46_, ⟨h47_, h48_⟩⟩⟩⟩ := (h43_ (la_result_2 h37_ (la_result_1 h36_ h39_)))
    intro h49_
    have h50_ := (h49_ h27_)
    have h51_ := (h50_ (la_result_5 h19_ h30_ h32_ h35_))
    obtain ⟨h52_, h53_⟩ := (h51_ (la_result_7 h20_ h31_ h33_ h35_))
    intro h54_
    refine ⟨(la_result_8 h26_ h44_ h45_ h46_ h52_), ?_⟩
    intro r19
    intro h55_
    intro _
    exact trivial
  intro h56_
  exact trivial
set_option maxRecDepth 8000 in
set_option maxHeartbeats 2000000 in
theorem t_result : ∀ (p1 : Int) (p2 : Int) (p3 : Int) (S : sv_S), sm_ok S → sv_R p1 → sv_R p2 → sv_R p3 → (((S 1119 0) = 1 → 29 ≤ (S 1071 0) ∧ (S 1071 0) ≤ 127 ∧ 31 ≤ (S 1008 0) ∧ (S 1008 0) ≤ 90 ∧ 1 ≤ (S 1032 0) ∧ (S 1032 0) ≤ 11 ∧ 0 ≤ (S 1055 0) ∧ (S 1055 0) ≤ 19 ∧ (S 1071 0) = 29 + 6 * ((S 1032 0) - 1) + 2 * (S 1055 0) ∧ 0 ≤ (S 1046 0) ∧ (S 1046 0) + 2 * (S 1032 0) ≤ 500 ∧ sm_PD (S 1046 0) (S 1032 0) (S 1071 0) (S 1008 0) ∧ 0 ≤ (S 1071 0) * ((S 1008 0) + 1) ∧ (S 1071 0) * ((S 1008 0) + 1) ≤ 11557 ∧ sm_ST (S 71) (S 74) (S 75) (S 78) (S 79) (S 80) (S 27) (S 1100007) (S 1100023) (S 1100024) (S 1046 0) ((S 1046 0) + 2 * (S 1032 0)) (S 1127 0) ∧ 465000 ≤ (S 1127 0) ∧ (S 1127 0) ≤ 635000 ∧ sm_NH (S 1100007))) → sv_T sm_XS sm_cs sm_L sm_sh 2 (q_result p1 p2 p3 S) 301 0 (lv_args 0 [.ref 0, sv_I p1, sv_I p2, sv_I p3]) [] S := by
  intro p1 p2 p3 S hok hp1 hp2 hp3 hpre
  have h := f_result p1 p2 p3 S hok hp1 hp2 hp3 hpre
  have hM := sm_h301
  show sv_T sm_XS sm_cs sm_L sm_sh 2 (q_result p1 p2 p3 S) 301 0 [(0, .ref 0), (1, sv_I p1), (2, sv_I p2), (3, sv_I p3)] [] S
  refine sv_aload_n hM dX12_result_0 rfl rfl ?_
  refine sv_iconst (d := (0 : Int)) hM dX12_result_1 rfl rfl ?_
  refine sv_putI sm_X hM dX12_result_2 sm_fp_289 (sm_a0 _) sm_q0 (Or.inl rfl) rfl rfl rfl rfl ?_
  have ok1 : sm_ok (sv_up S 1000 0 (0 : Int)) := sm_upI hok sm_r1000 (⟨by decide, by decide⟩ : sv_R (0 : Int))
  have md2 : sv_mod [1000] S (sv_up S 1000 0 (0 : Int)) := sv_mod.up sv_mod.rf (by decide)
  refine sv_aload_n hM dX12_result_5 rfl rfl ?_
  have k3 : (0 ≤ (S 1119 0) ∧ (S 1119 0) ≤ 1) := sm_okZ ok1 sm_r1119 0
  have h := h k3
  refine sv_getI hM dX12_result_6 sm_fl_776 (sm_a0 _) sm_k119 rfl (x := (S 1119 0)) rfl ?_
  refine sv_cond_eq hM dX12_result_9 (sv_R01 k3) (t := 35) rfl rfl (fun hc => ?_) (fun hc => ?_)
  · have h := h.1 (hc)
    refine sv_lconst (d := (0 : Int)) hM dX12_result_35 rfl rfl ?_
    exact sv_lret hM dX12_result_36 rfl ⟨(0 : Int), rfl, (⟨by decide, by decide⟩ : sv_RL (0 : Int)), ok1, md2, h⟩
  · have h := h.2 (hc)
    refine sv_iload_n hM dX12_result_12 rfl rfl ?_
    refine sv_iconst (d := (0 : Int)) hM dX12_result_13 rfl rfl ?_
    refine sv_aload_n hM dX12_result_14 rfl rfl ?_
    have k4 : sv_R (S 1032 0) := sm_okI ok1 sm_r1032 0
    have h := h k4
    refine sv_getI hM dX12_result_15 sm_fl_527 (sm_a0 _) sm_k32 rfl (x := (S 1032 0)) rfl ?_
    refine sv_iconst (d := (1 : Int)) hM dX12_result_18 rfl rfl ?_
    refine sv_isub hM dX12_result_19 rfl ?_
    obtain ⟨o5, h⟩ := h
    refine sv_callS hM dX12_result_20 sm_iv_899 (Nat.le_of_ble_eq_true rfl) rfl rfl (Nat.le_of_ble_eq_true rfl) sm_h4 (Nat.le_of_ble_eq_true rfl) (Nat.le_of_ble_eq_true rfl) (F' := 0) (Nat.le_of_ble_eq_true rfl) rfl (t_in p1 (0 : Int) ((S 1032 0) - (1 : Int)) (sv_up S 1000 0 (0 : Int)) ok1 hp1 (⟨by decide, by decide⟩ : sv_R (0 : Int)) o5) (fun v S1 hq => ?_)
    obtain ⟨rfl, hS1⟩ := hq
    obtain rfl : (sv_up S 1000 0 (0 : Int)) = S1 := hS1.symm
    show sv_T sm_XS sm_cs sm_L sm_sh 2 (q_result p1 p2 p3 S) 301 23 [(0, .ref 0), (1, sv_I p1), (2, sv_I p2), (3, sv_I p3)] [sv_I (if (0 : Int) ≤ p1 ∧ p1 ≤ ((S 1032 0) - (1 : Int)) then 1 else 0)] (sv_up S 1000 0 (0 : Int))
    refine sv_cond_eq hM dX12_result_23 (sv_Rite : sv_R (if (0 : Int) ≤ p1 ∧ p1 ≤ ((S 1032 0) - (1 : Int)) then 1 else 0)) (t := 35) rfl rfl (fun hc => ?_) (fun hc => ?_)
    · have h := h.1 (sv_iten hc)
      refine sv_lconst (d := (0 : Int)) hM dX12_result_35 rfl rfl ?_
      exact sv_lret hM dX12_result_36 rfl ⟨(0 : Int), rfl, (⟨by decide, by decide⟩ : sv_RL (0 : Int)), ok1, md2, h⟩
    · have h := h.2 (sv_itep hc)
      refine sv_iload_n hM dX12_result_26 rfl rfl ?_
      refine sv_iconst (d := (0 : Int)) hM dX12_result_27 rfl rfl ?_
      refine sv_iconst (d := (1 : Int)) hM dX12_result_28 rfl rfl ?_
      refine sv_callS hM dX12_result_29 sm_iv_899 (Nat.le_of_ble_eq_true rfl) rfl rfl (Nat.le_of_ble_eq_true rfl) sm_h4 (Nat.le_of_ble_eq_true rfl) (Nat.le_of_ble_eq_true rfl) (F' := 0) (Nat.le_of_ble_eq_true rfl) rfl (t_in p2 (0 : Int) (1 : Int) (sv_up S 1000 0 (0 : Int)) ok1 hp2 (⟨by decide, by decide⟩ : sv_R (0 : Int)) (⟨by decide, by decide⟩ : sv_R (1 : Int))) (fun v S1 hq => ?_)
      obtain ⟨rfl, hS1⟩ := hq
      obtain rfl : (sv_up S 1000 0 (0 : Int)) = S1 := hS1.symm
      show sv_T sm_XS sm_cs sm_L sm_sh 2 (q_result p1 p2 p3 S) 301 32 [(0, .ref 0), (1, sv_I p1), (2, sv_I p2), (3, sv_I p3)] [sv_I (if (0 : Int) ≤ p2 ∧ p2 ≤ (1 : Int) then 1 else 0)] (sv_up S 1000 0 (0 : Int))
      refine sv_cond_ne hM dX12_result_32 (sv_Rite : sv_R (if (0 : Int) ≤ p2 ∧ p2 ≤ (1 : Int) then 1 else 0)) (t := 37) rfl rfl (fun hc => ?_) (fun hc => ?_)
      · have h := h.1 (sv_itep hc)
        refine sv_aload_n hM dX12_result_37 rfl rfl ?_
        have k6 : sv_R (S 1046 0) := sm_okI ok1 sm_r1046 0
        have h := h k6
        refine sv_getI hM dX12_result_38 sm_fl_606 (sm_a0 _) sm_k46 rfl (x := (S 1046 0)) rfl ?_
        refine sv_iconst (d := (2 : Int)) hM dX12_result_41 rfl rfl ?_
        refine sv_iload_n hM dX12_result_42 rfl rfl ?_
        refine sv_imul hM dX12_result_43 rfl ?_
        refine sv_iadd hM dX12_result_44 rfl ?_
        refine sv_iload_n hM dX12_result_45 rfl rfl ?_
        refine sv_iadd hM dX12_result_46 rfl ?_
        obtain ⟨x7, e8⟩ : ∃ x : Int, (((S 1046 0) + ((2 : Int) * p1)) + p2) = x := ⟨_, rfl⟩
        have h := h x7 e8
        refine sv_nameI e8 ?_
        refine sv_istore hM dX12_result_47 (by decide) rfl ?_
        show sv_T sm_XS sm_cs sm_L sm_sh 2 (q_result p1 p2 p3 S) 301 49 [(0, .ref 0), (1, sv_I p1), (2, sv_I p2), (3, sv_I p3), (4, sv_I x7)] [] (sv_up S 1000 0 (0 : Int))
        refine sv_aload_n hM dX12_result_49 rfl rfl ?_
        refine sv_getA hM dX12_result_50 sm_fl_226 (sm_a0 _) sm_k122 rfl ?_
        refine sv_iload hM dX12_result_53 rfl rfl ?_
        obtain ⟨o9, h⟩ := h
        have k10 : (0 ≤ (S 71 x7) ∧ (S 71 x7) ≤ 1) := sm_okZ ok1 sm_r71 x7
        have h := h k10
        refine sv_zald hM dX12_result_55 (sm_a71 _) (by decide) o9.1 o9.2 rfl (x := (S 71 x7)) rfl ?_
        refine sv_cond_eq hM dX12_result_56 (sv_R01 k10) (t := 74) rfl rfl (fun hc => ?_) (fun hc => ?_)
        · have h := h.1 (hc)
          refine sv_lconst (d := (0 : Int)) hM dX12_result_74 rfl rfl ?_
          exact sv_lret hM dX12_result_75 rfl ⟨(0 : Int), rfl, (⟨by decide, by decide⟩ : sv_RL (0 : Int)), ok1, md2, h⟩
        · have h := h.2 (hc)
          have k11 : (sm_ST (S 71) (S 74) (S 75) (S 78) (S 79) (S 80) (S 27) (S 1100007) (S 1100023) (S 1100024) (S 1046 0) ((S 1046 0) + 2 * (S 1032 0)) (S 1127 0) → 0 ≤ x7 → x7 < ((S 1046 0) + 2 * (S 1032 0)) → (S 71 x7) = 1 → (S 74 x7) = (S 1100007 x7) ∧ 465000 ≤ (S 75 x7) ∧ (S 75 x7) + (S 74 x7) ≤ (S 1127 0) ∧ 0 ≤ (S 78 x7) ∧ (S 78 x7) ≤ 40) := fun h h0 h1 h2 => ⟨(sm_ST_at h x7 h0 h1 h2).1, (sm_ST_at h x7 h0 h1 h2).2.1, (sm_ST_at h x7 h0 h1 h2).2.2.1, (sm_ST_at h x7 h0 h1 h2).2.2.2.1, (sm_ST_at h x7 h0 h1 h2).2.2.2.2.1⟩
          have h := h k11
          have k12 : (sm_NH (S 1100007) → 0 ≤ x7 → x7 < 640 → 0 ≤ (S 1100007 x7) ∧ (S 1100007 x7) ≤ 400) := fun h h0 h1 => sm_NH_at h x7 h0 h1
          have h := h k12
          refine sv_aload_n hM dX12_result_59 rfl rfl ?_
          refine sv_aload_n hM dX12_result_60 rfl rfl ?_
          refine sv_getA hM dX12_result_61 sm_fl_238 (sm_a0 _) sm_k126 rfl ?_
          refine sv_iload hM dX12_result_64 rfl rfl ?_
          have k13 : sv_R (S 75 x7) := sm_okI ok1 sm_r75 x7
          have h := h k13
          refine sv_iald hM dX12_result_66 (sm_a75 _) (by decide) o9.1 o9.2 rfl (x := (S 75 x7)) rfl ?_
          refine sv_iload_n hM dX12_result_67 rfl rfl ?_
          obtain ⟨o14, h⟩ := h
          refine sv_callV hM dX12_result_68 sm_iv_1390 (by decide) (sm_a0 _) rfl rfl (Nat.le_of_ble_eq_true rfl) sm_h296 (Nat.le_of_ble_eq_true rfl) (Nat.le_of_ble_eq_true rfl) (F' := 1) (Nat.le_of_ble_eq_true rfl) rfl (t_tell (S 75 x7) p3 (sv_up S 1000 0 (0 : Int)) ok1 k13 hp3 o14) (fun v S1 hq => ?_)
          obtain ⟨r19, rfl, hr19, ok16, md17, hpo18⟩ := hq
          obtain rfl : (sv_up S 1000 0 (0 : Int)) = S1 := (funext fun j => md17 j (by intro q; cases q)).symm
          show sv_T sm_XS sm_cs sm_L sm_sh 2 (q_result p1 p2 p3 S) 301 71 [(0, .ref 0), (1, sv_I p1), (2, sv_I p2), (3, sv_I p3), (4, sv_I x7)] [sv_L r19] (sv_up S 1000 0 (0 : Int))
          have h := h r19 hr19 hpo18
          refine sv_goto hM dX12_result_71 (pc' := 75) rfl ?_
          exact sv_lret hM dX12_result_75 rfl ⟨r19, rfl, hr19, ok16, md2, h⟩
      · have h := h.2 (fun q => hc (by rw [if_pos q]; decide))
        refine sv_lconst (d := (0 : Int)) hM dX12_result_35 rfl rfl ?_
        exact sv_lret hM dX12_result_36 rfl ⟨(0 : Int), rfl, (⟨by decide, by decide⟩ : sv_RL (0 : Int)), ok1, md2, h⟩
def q_warns (p1 : Int) (S : sv_S) : Option Value → sv_S → Prop := fun v S' => ∃ r : Int, v = some (sv_I r) ∧ sv_R r ∧ sm_ok S' ∧ sv_mod [1000] S S' ∧ (True)
theorem la_warns_0 {x0 x1 : Int} (h0 : 1 ≤ x0) (h1 : x1 + 2 * x0 ≤ 500) : x1 ≤ 600 := by omega
theorem la_warns_1 {x0 : Int} (h0 : x0 = 0) : ¬ x0 = 1 := by omega
theorem la_warns_2 {x0 : Int} (h0 : x0 = 1) : 0 ≤ x0 := by omega
theorem la_warns_3 {x0 : Int} (h0 : 0 ≤ x0) (h1 : ¬ x0 = 0) : 0 < x0 := by omega
theorem la_warns_4 {x0 x1 x2 : Int} (h0 : 0 ≤ x0) (h1 : x0 < x1) (h2 : 1 ≤ x2) (h3 : x1 + 2 * x2 ≤ 500) : 0 ≤ x0 ∧ x0 < 640 := by omega
set_option maxHeartbeats 2000000 in
theorem f_warns : ∀ (p1 : Int) (S : sv_S), sm_ok S → sv_R p1 → (((S 1119 0) = 1 → 29 ≤ (S 1071 0) ∧ (S 1071 0) ≤ 127 ∧ 31 ≤ (S 1008 0) ∧ (S 1008 0) ≤ 90 ∧ 1 ≤ (S 1032 0) ∧ (S 1032 0) ≤ 11 ∧ 0 ≤ (S 1055 0) ∧ (S 1055 0) ≤ 19 ∧ (S 1071 0) = 29 + 6 * ((S 1032 0) - 1) + 2 * (S 1055 0) ∧ 0 ≤ (S 1046 0) ∧ (S 1046 0) + 2 * (S 1032 0) ≤ 500 ∧ sm_PD (S 1046 0) (S 1032 0) (S 1071 0) (S 1008 0) ∧ 0 ≤ (S 1071 0) * ((S 1008 0) + 1) ∧ (S 1071 0) * ((S 1008 0) + 1) ≤ 11557 ∧ sm_ST (S 71) (S 74) (S 75) (S 78) (S 79) (S 80) (S 27) (S 1100007) (S 1100023) (S 1100024) (S 1046 0) ((S 1046 0) + 2 * (S 1032 0)) (S 1127 0) ∧ 465000 ≤ (S 1127 0) ∧ (S 1127 0) ≤ 635000 ∧ sm_NH (S 1100007))) → (((S 1119 0) = 1 → 0 ≤ (S 1046 0) ∧ (S 1046 0) ≤ 600)) ∧ (∀ r6 : Int, sv_R r6 → ∀ g2 : sv_S, ((r6 = 0 ∨ r6 = 1) ∧ (r6 = 1 → (S 1119 0) = 1 ∧ 0 ≤ p1 ∧ p1 < (S 1046 0) ∧ (S 71 p1) = 1)) → (((r6 = (0 : Int)) → (True)) ∧ ((¬ (r6 = (0 : Int))) → (0 ≤ p1 ∧ p1 < 640) ∧ (sv_R (S 73 p1) → (True))))) := by
  intro p1
  intro S
  intro h1_
  intro h2_
  intro h3_
  refine ⟨?_, ?_⟩
  · skip
    intro h4_
    obtain ⟨h5_, ⟨h6_, ⟨h7_, ⟨h8_, ⟨h9_, ⟨h10_, ⟨h11_, ⟨h12_, ⟨h13_, ⟨h14_, ⟨h15_, ⟨h16_, ⟨h17_, ⟨h18_, ⟨h19_, ⟨h20_, ⟨h21_, h22_⟩⟩⟩⟩⟩⟩⟩⟩⟩⟩⟩⟩⟩⟩⟩⟩⟩ := (h3_ h4_)
    refine ⟨h14_, ?_⟩
    exact (la_warns_0 h9_ h15_)
  intro r6
  intro h23_
  intro g2
  rintro ⟨h24_, h25_⟩
  refine ⟨?_, ?_⟩
  · skip
    intro h26_
    have h27_ := (h24_.resolve_right (la_warns_1 h26_))
    exact trivial
  intro h28_
  have h29_ := (h24_.resolve_left h28_)
  obtain ⟨h30_, ⟨h31_, ⟨h32_, h33_⟩⟩⟩ := (h25_ h29_)
  obtain ⟨h34_, ⟨h35_, ⟨h36_, ⟨h37_, ⟨h38_, ⟨h39_, ⟨h40_, ⟨h41_, ⟨h42_, ⟨h43_, ⟨h44_, ⟨h45_, ⟨h46_, ⟨h47_, ⟨h48_, ⟨h49_, ⟨h50_, h51_⟩⟩⟩⟩⟩⟩⟩⟩⟩⟩⟩⟩⟩⟩⟩⟩⟩ := (h3_ h30_)
  refine ⟨(la_warns_4 h31_ h32_ h38_ h44_), ?_⟩
  intro h52_
  exact trivial
set_option maxRecDepth 8000 in
set_option maxHeartbeats 2000000 in
theorem t_warns : ∀ (p1 : Int) (S : sv_S), sm_ok S → sv_R p1 → (((S 1119 0) = 1 → 29 ≤ (S 1071 0) ∧ (S 1071 0) ≤ 127 ∧ 31 ≤ (S 1008 0) ∧ (S 1008 0) ≤ 90 ∧ 1 ≤ (S 1032 0) ∧ (S 1032 0) ≤ 11 ∧ 0 ≤ (S 1055 0) ∧ (S 1055 0) ≤ 19 ∧ (S 1071 0) = 29 + 6 * ((S 1032 0) - 1) + 2 * (S 1055 0) ∧ 0 ≤ (S 1046 0) ∧ (S 1046 0) + 2 * (S 1032 0) ≤ 500 ∧ sm_PD (S 1046 0) (S 1032 0) (S 1071 0) (S 1008 0) ∧ 0 ≤ (S 1071 0) * ((S 1008 0) + 1) ∧ (S 1071 0) * ((S 1008 0) + 1) ≤ 11557 ∧ sm_ST (S 71) (S 74) (S 75) (S 78) (S 79) (S 80) (S 27) (S 1100007) (S 1100023) (S 1100024) (S 1046 0) ((S 1046 0) + 2 * (S 1032 0)) (S 1127 0) ∧ 465000 ≤ (S 1127 0) ∧ (S 1127 0) ≤ 635000 ∧ sm_NH (S 1100007))) → sv_T sm_XS sm_cs sm_L sm_sh 2 (q_warns p1 S) 302 0 (lv_args 0 [.ref 0, sv_I p1]) [] S := by
  intro p1 S hok hp1 hpre
  have h := f_warns p1 S hok hp1 hpre
  have hM := sm_h302
  show sv_T sm_XS sm_cs sm_L sm_sh 2 (q_warns p1 S) 302 0 [(0, .ref 0), (1, sv_I p1)] [] S
  refine sv_aload_n hM dX12_warns_0 rfl rfl ?_
  refine sv_iload_n hM dX12_warns_1 rfl rfl ?_
  obtain ⟨o1, h⟩ := h
  refine sv_callV hM dX12_warns_2 sm_iv_1387 (by decide) (sm_a0 _) rfl rfl (Nat.le_of_ble_eq_true rfl) sm_h295 (Nat.le_of_ble_eq_true rfl) (Nat.le_of_ble_eq_true rfl) (F' := 1) (Nat.le_of_ble_eq_true rfl) rfl (t_isReached p1 S hok hp1 o1) (fun v S1 hq => ?_)
  obtain ⟨r6, rfl, hr6, ok3, md4, hpo5⟩ := hq
  obtain ⟨g2, rfl⟩ : ∃ g, S1 = sv_sts S [1000] g := ⟨_, md4.eq⟩
  show sv_T sm_XS sm_cs sm_L sm_sh 2 (q_warns p1 S) 302 5 [(0, .ref 0), (1, sv_I p1)] [sv_I r6] (sv_sts S [1000] g2)
  have md7 : sv_mod [1000] S (sv_sts S [1000] g2) := sv_mod.sts sv_mod.rf (by decide)
  have h := h r6 hr6 g2 hpo5
  refine sv_cond_eq hM dX12_warns_5 hr6 (t := 17) rfl rfl (fun hc => ?_) (fun hc => ?_)
  · have h := h.1 (hc)
    refine sv_iconst (d := (-1 : Int)) hM dX12_warns_17 rfl rfl ?_
    exact sv_iret hM dX12_warns_18 rfl rfl ⟨(-1 : Int), rfl, (⟨by decide, by decide⟩ : sv_R (-1 : Int)), ok3, md7, h⟩
  · have h := h.2 (hc)
    refine sv_aload_n hM dX12_warns_8 rfl rfl ?_
    refine sv_getA hM dX12_warns_9 sm_fl_232 (sm_a0 _) sm_k124 rfl ?_
    refine sv_iload_n hM dX12_warns_12 rfl rfl ?_
    obtain ⟨o8, h⟩ := h
    have k9 : sv_R (S 73 p1) := sm_okI ok3 sm_r73 p1
    have h := h k9
    refine sv_iald hM dX12_warns_13 (sm_a73 _) (by decide) o8.1 o8.2 rfl (x := (S 73 p1)) rfl ?_
    refine sv_goto hM dX12_warns_14 (pc' := 18) rfl ?_
    exact sv_iret hM dX12_warns_18 rfl rfl ⟨(S 73 p1), rfl, k9, ok3, md7, h⟩
