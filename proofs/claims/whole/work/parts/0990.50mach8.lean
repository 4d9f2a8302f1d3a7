theorem dX12_leftOf_0 : decode cX12_leftOf 0 = .ok (.aload_n 0, 1) := by decide +kernel
theorem dX12_leftOf_1 : decode cX12_leftOf 1 = .ok (.getfield 203, 3) := by decide +kernel
theorem dX12_leftOf_4 : decode cX12_leftOf 4 = .ok (.iload_n 1, 1) := by decide +kernel
theorem dX12_leftOf_5 : decode cX12_leftOf 5 = .ok (.iaload, 1) := by decide +kernel
theorem dX12_leftOf_6 : decode cX12_leftOf 6 = .ok (.istore_n 2, 1) := by decide +kernel
theorem dX12_leftOf_7 : decode cX12_leftOf 7 = .ok (.iconst 0, 1) := by decide +kernel
theorem dX12_leftOf_8 : decode cX12_leftOf 8 = .ok (.istore_n 3, 1) := by decide +kernel
theorem dX12_leftOf_9 : decode cX12_leftOf 9 = .ok (.iload_n 2, 1) := by decide +kernel
theorem dX12_leftOf_10 : decode cX12_leftOf 10 = .ok (.iconst (-1), 1) := by decide +kernel
theorem dX12_leftOf_11 : decode cX12_leftOf 11 = .ok (.if_icmp .ne 7, 3) := by decide +kernel
theorem dX12_leftOf_14 : decode cX12_leftOf 14 = .ok (.iconst (-1), 1) := by decide +kernel
theorem dX12_leftOf_15 : decode cX12_leftOf 15 = .ok (.goto 9, 3) := by decide +kernel
theorem dX12_leftOf_18 : decode cX12_leftOf 18 = .ok (.aload_n 0, 1) := by decide +kernel
theorem dX12_leftOf_19 : decode cX12_leftOf 19 = .ok (.getfield 149, 3) := by decide +kernel
theorem dX12_leftOf_22 : decode cX12_leftOf 22 = .ok (.iload_n 2, 1) := by decide +kernel
theorem dX12_leftOf_23 : decode cX12_leftOf 23 = .ok (.iaload, 1) := by decide +kernel
theorem dX12_leftOf_24 : decode cX12_leftOf 24 = .ok (.istore 4, 2) := by decide +kernel
theorem dX12_leftOf_26 : decode cX12_leftOf 26 = .ok (.iload 4, 2) := by decide +kernel
theorem dX12_leftOf_28 : decode cX12_leftOf 28 = .ok (.iconst (-1), 1) := by decide +kernel
theorem dX12_leftOf_29 : decode cX12_leftOf 29 = .ok (.if_icmp .eq 87, 3) := by decide +kernel
theorem dX12_leftOf_32 : decode cX12_leftOf 32 = .ok (.aload_n 0, 1) := by decide +kernel
theorem dX12_leftOf_33 : decode cX12_leftOf 33 = .ok (.getfield 164, 3) := by decide +kernel
theorem dX12_leftOf_36 : decode cX12_leftOf 36 = .ok (.iload 4, 2) := by decide +kernel
theorem dX12_leftOf_38 : decode cX12_leftOf 38 = .ok (.iaload, 1) := by decide +kernel
theorem dX12_leftOf_39 : decode cX12_leftOf 39 = .ok (.aload_n 0, 1) := by decide +kernel
theorem dX12_leftOf_40 : decode cX12_leftOf 40 = .ok (.getfield 206, 3) := by decide +kernel
theorem dX12_leftOf_43 : decode cX12_leftOf 43 = .ok (.iload_n 1, 1) := by decide +kernel
theorem dX12_leftOf_44 : decode cX12_leftOf 44 = .ok (.iaload, 1) := by decide +kernel
theorem dX12_leftOf_45 : decode cX12_leftOf 45 = .ok (.if_icmp .le 43, 3) := by decide +kernel
theorem dX12_leftOf_48 : decode cX12_leftOf 48 = .ok (.aload_n 0, 1) := by decide +kernel
theorem dX12_leftOf_49 : decode cX12_leftOf 49 = .ok (.getfield 164, 3) := by decide +kernel
theorem dX12_leftOf_52 : decode cX12_leftOf 52 = .ok (.iload 4, 2) := by decide +kernel
theorem dX12_leftOf_54 : decode cX12_leftOf 54 = .ok (.iaload, 1) := by decide +kernel
theorem dX12_leftOf_55 : decode cX12_leftOf 55 = .ok (.aload_n 0, 1) := by decide +kernel
theorem dX12_leftOf_56 : decode cX12_leftOf 56 = .ok (.getfield 209, 3) := by decide +kernel
theorem dX12_leftOf_59 : decode cX12_leftOf 59 = .ok (.iload_n 1, 1) := by decide +kernel
theorem dX12_leftOf_60 : decode cX12_leftOf 60 = .ok (.iaload, 1) := by decide +kernel
theorem dX12_leftOf_61 : decode cX12_leftOf 61 = .ok (.if_icmp .gt 27, 3) := by decide +kernel
theorem dX12_leftOf_64 : decode cX12_leftOf 64 = .ok (.aload_n 0, 1) := by decide +kernel
theorem dX12_leftOf_65 : decode cX12_leftOf 65 = .ok (.getfield 143, 3) := by decide +kernel
theorem dX12_leftOf_68 : decode cX12_leftOf 68 = .ok (.iload_n 2, 1) := by decide +kernel
theorem dX12_leftOf_69 : decode cX12_leftOf 69 = .ok (.iaload, 1) := by decide +kernel
theorem dX12_leftOf_70 : decode cX12_leftOf 70 = .ok (.iconst 2, 1) := by decide +kernel
theorem dX12_leftOf_71 : decode cX12_leftOf 71 = .ok (.if_icmp .ne 13, 3) := by decide +kernel
theorem dX12_leftOf_74 : decode cX12_leftOf 74 = .ok (.aload_n 0, 1) := by decide +kernel
theorem dX12_leftOf_75 : decode cX12_leftOf 75 = .ok (.getfield 155, 3) := by decide +kernel
theorem dX12_leftOf_78 : decode cX12_leftOf 78 = .ok (.iload 4, 2) := by decide +kernel
theorem dX12_leftOf_80 : decode cX12_leftOf 80 = .ok (.iaload, 1) := by decide +kernel
theorem dX12_leftOf_81 : decode cX12_leftOf 81 = .ok (.ifCond .eq 7, 3) := by decide +kernel
theorem dX12_leftOf_84 : decode cX12_leftOf 84 = .ok (.iconst 1, 1) := by decide +kernel
theorem dX12_leftOf_85 : decode cX12_leftOf 85 = .ok (.goto 4, 3) := by decide +kernel
theorem dX12_leftOf_88 : decode cX12_leftOf 88 = .ok (.iconst 0, 1) := by decide +kernel
theorem dX12_leftOf_89 : decode cX12_leftOf 89 = .ok (.istore 5, 2) := by decide +kernel
theorem dX12_leftOf_91 : decode cX12_leftOf 91 = .ok (.iload_n 3, 1) := by decide +kernel
theorem dX12_leftOf_92 : decode cX12_leftOf 92 = .ok (.iload 5, 2) := by decide +kernel
theorem dX12_leftOf_94 : decode cX12_leftOf 94 = .ok (.ifCond .eq 7, 3) := by decide +kernel
theorem dX12_leftOf_97 : decode cX12_leftOf 97 = .ok (.iconst 1, 1) := by decide +kernel
theorem dX12_leftOf_98 : decode cX12_leftOf 98 = .ok (.goto 4, 3) := by decide +kernel
theorem dX12_leftOf_101 : decode cX12_leftOf 101 = .ok (.iconst 0, 1) := by decide +kernel
theorem dX12_leftOf_102 : decode cX12_leftOf 102 = .ok (.iadd, 1) := by decide +kernel
theorem dX12_leftOf_103 : decode cX12_leftOf 103 = .ok (.istore_n 3, 1) := by decide +kernel
theorem dX12_leftOf_104 : decode cX12_leftOf 104 = .ok (.aload_n 0, 1) := by decide +kernel
theorem dX12_leftOf_105 : decode cX12_leftOf 105 = .ok (.getfield 167, 3) := by decide +kernel
theorem dX12_leftOf_108 : decode cX12_leftOf 108 = .ok (.iload 4, 2) := by decide +kernel
theorem dX12_leftOf_110 : decode cX12_leftOf 110 = .ok (.iaload, 1) := by decide +kernel
theorem dX12_leftOf_111 : decode cX12_leftOf 111 = .ok (.istore 4, 2) := by decide +kernel
theorem dX12_leftOf_113 : decode cX12_leftOf 113 = .ok (.goto (-87), 3) := by decide +kernel
theorem dX12_leftOf_116 : decode cX12_leftOf 116 = .ok (.iload_n 3, 1) := by decide +kernel
theorem dX12_leftOf_117 : decode cX12_leftOf 117 = .ok (.ireturn, 1) := by decide +kernel
theorem dX12_object__0 : decode cX12_object_ 0 = .ok (.aload_n 0, 1) := by decide +kernel
theorem dX12_object__1 : decode cX12_object_ 1 = .ok (.iconst 0, 1) := by decide +kernel
theorem dX12_object__2 : decode cX12_object_ 2 = .ok (.putfield 289, 3) := by decide +kernel
theorem dX12_object__5 : decode cX12_object_ 5 = .ok (.aload_n 0, 1) := by decide +kernel
theorem dX12_object__6 : decode cX12_object_ 6 = .ok (.getfield 773, 3) := by decide +kernel
theorem dX12_object__9 : decode cX12_object_ 9 = .ok (.ifCond .eq 17, 3) := by decide +kernel
theorem dX12_object__12 : decode cX12_object_ 12 = .ok (.iload_n 1, 1) := by decide +kernel
theorem dX12_object__13 : decode cX12_object_ 13 = .ok (.iconst 0, 1) := by decide +kernel
theorem dX12_object__14 : decode cX12_object_ 14 = .ok (.aload_n 0, 1) := by decide +kernel
theorem dX12_object__15 : decode cX12_object_ 15 = .ok (.getfield 843, 3) := by decide +kernel
theorem dX12_object__18 : decode cX12_object_ 18 = .ok (.iconst 1, 1) := by decide +kernel
theorem dX12_object__19 : decode cX12_object_ 19 = .ok (.isub, 1) := by decide +kernel
theorem dX12_object__20 : decode cX12_object_ 20 = .ok (.invokestatic 899, 3) := by decide +kernel
theorem dX12_object__23 : decode cX12_object_ 23 = .ok (.ifCond .ne 5, 3) := by decide +kernel
theorem dX12_object__26 : decode cX12_object_ 26 = .ok (.iconst (-1), 1) := by decide +kernel
theorem dX12_object__27 : decode cX12_object_ 27 = .ok (.ireturn, 1) := by decide +kernel
theorem dX12_object__28 : decode cX12_object_ 28 = .ok (.iload_n 2, 1) := by decide +kernel
theorem dX12_object__29 : decode cX12_object_ 29 = .ok (.tableswitch 96 0 4 #[35, 42, 49, 56, 89], 35) := by decide +kernel
theorem dX12_object__64 : decode cX12_object_ 64 = .ok (.aload_n 0, 1) := by decide +kernel
theorem dX12_object__65 : decode cX12_object_ 65 = .ok (.getfield 134, 3) := by decide +kernel
theorem dX12_object__68 : decode cX12_object_ 68 = .ok (.iload_n 1, 1) := by decide +kernel
theorem dX12_object__69 : decode cX12_object_ 69 = .ok (.iaload, 1) := by decide +kernel
theorem dX12_object__70 : decode cX12_object_ 70 = .ok (.ireturn, 1) := by decide +kernel
theorem dX12_object__71 : decode cX12_object_ 71 = .ok (.aload_n 0, 1) := by decide +kernel
theorem dX12_object__72 : decode cX12_object_ 72 = .ok (.getfield 137, 3) := by decide +kernel
theorem dX12_object__75 : decode cX12_object_ 75 = .ok (.iload_n 1, 1) := by decide +kernel
theorem dX12_object__76 : decode cX12_object_ 76 = .ok (.iaload, 1) := by decide +kernel
theorem dX12_object__77 : decode cX12_object_ 77 = .ok (.ireturn, 1) := by decide +kernel
theorem dX12_object__78 : decode cX12_object_ 78 = .ok (.aload_n 0, 1) := by decide +kernel
theorem dX12_object__79 : decode cX12_object_ 79 = .ok (.getfield 140, 3) := by decide +kernel
theorem dX12_object__82 : decode cX12_object_ 82 = .ok (.iload_n 1, 1) := by decide +kernel
theorem dX12_object__83 : decode cX12_object_ 83 = .ok (.iaload, 1) := by decide +kernel
theorem dX12_object__84 : decode cX12_object_ 84 = .ok (.ireturn, 1) := by decide +kernel
theorem dX12_object__85 : decode cX12_object_ 85 = .ok (.iconst 0, 1) := by decide +kernel
theorem dX12_object__86 : decode cX12_object_ 86 = .ok (.istore_n 3, 1) := by decide +kernel
theorem dX12_object__87 : decode cX12_object_ 87 = .ok (.aload_n 0, 1) := by decide +kernel
theorem dX12_object__88 : decode cX12_object_ 88 = .ok (.getfield 149, 3) := by decide +kernel
theorem dX12_object__91 : decode cX12_object_ 91 = .ok (.iload_n 1, 1) := by decide +kernel
theorem dX12_object__92 : decode cX12_object_ 92 = .ok (.iaload, 1) := by decide +kernel
theorem dX12_object__93 : decode cX12_object_ 93 = .ok (.istore 4, 2) := by decide +kernel
theorem dX12_object__95 : decode cX12_object_ 95 = .ok (.iload 4, 2) := by decide +kernel
theorem dX12_object__97 : decode cX12_object_ 97 = .ok (.iconst (-1), 1) := by decide +kernel
theorem dX12_object__98 : decode cX12_object_ 98 = .ok (.if_icmp .eq 18, 3) := by decide +kernel
theorem dX12_object__101 : decode cX12_object_ 101 = .ok (.iinc 3 1, 3) := by decide +kernel
theorem dX12_object__104 : decode cX12_object_ 104 = .ok (.aload_n 0, 1) := by decide +kernel
theorem dX12_object__105 : decode cX12_object_ 105 = .ok (.getfield 167, 3) := by decide +kernel
theorem dX12_object__108 : decode cX12_object_ 108 = .ok (.iload 4, 2) := by decide +kernel
theorem dX12_object__110 : decode cX12_object_ 110 = .ok (.iaload, 1) := by decide +kernel
theorem dX12_object__111 : decode cX12_object_ 111 = .ok (.istore 4, 2) := by decide +kernel
theorem dX12_object__113 : decode cX12_object_ 113 = .ok (.goto (-18), 3) := by decide +kernel
theorem dX12_object__116 : decode cX12_object_ 116 = .ok (.iload_n 3, 1) := by decide +kernel
theorem dX12_object__117 : decode cX12_object_ 117 = .ok (.ireturn, 1) := by decide +kernel
theorem dX12_object__118 : decode cX12_object_ 118 = .ok (.aload_n 0, 1) := by decide +kernel
theorem dX12_object__119 : decode cX12_object_ 119 = .ok (.getfield 143, 3) := by decide +kernel
theorem dX12_object__122 : decode cX12_object_ 122 = .ok (.iload_n 1, 1) := by decide +kernel
theorem dX12_object__123 : decode cX12_object_ 123 = .ok (.iaload, 1) := by decide +kernel
theorem dX12_object__124 : decode cX12_object_ 124 = .ok (.ireturn, 1) := by decide +kernel
theorem dX12_object__125 : decode cX12_object_ 125 = .ok (.iconst (-1), 1) := by decide +kernel
theorem dX12_object__126 : decode cX12_object_ 126 = .ok (.ireturn, 1) := by decide +kernel
theorem dX12_property_0 : decode cX12_property 0 = .ok (.aload_n 0, 1) := by decide +kernel
theorem dX12_property_1 : decode cX12_property 1 = .ok (.iconst 0, 1) := by decide +kernel
theorem dX12_property_2 : decode cX12_property 2 = .ok (.putfield 289, 3) := by decide +kernel
theorem dX12_property_5 : decode cX12_property 5 = .ok (.aload_n 0, 1) := by decide +kernel
theorem dX12_property_6 : decode cX12_property 6 = .ok (.getfield 773, 3) := by decide +kernel
theorem dX12_property_9 : decode cX12_property 9 = .ok (.ifCond .eq 21, 3) := by decide +kernel
theorem dX12_property_12 : decode cX12_property 12 = .ok (.iload_n 1, 1) := by decide +kernel
theorem dX12_property_13 : decode cX12_property 13 = .ok (.iconst 0, 1) := by decide +kernel
theorem dX12_property_14 : decode cX12_property 14 = .ok (.aload_n 0, 1) := by decide +kernel
theorem dX12_property_15 : decode cX12_property 15 = .ok (.getfield 843, 3) := by decide +kernel
theorem dX12_property_18 : decode cX12_property 18 = .ok (.iconst 1, 1) := by decide +kernel
theorem dX12_property_19 : decode cX12_property 19 = .ok (.isub, 1) := by decide +kernel
theorem dX12_property_20 : decode cX12_property 20 = .ok (.invokestatic 899, 3) := by decide +kernel
theorem dX12_property_23 : decode cX12_property 23 = .ok (.ifCond .eq 7, 3) := by decide +kernel
theorem dX12_property_26 : decode cX12_property 26 = .ok (.iload_n 2, 1) := by decide +kernel
theorem dX12_property_27 : decode cX12_property 27 = .ok (.ifCond .ge 5, 3) := by decide +kernel
theorem dX12_property_30 : decode cX12_property 30 = .ok (.iconst (-1), 1) := by decide +kernel
theorem dX12_property_31 : decode cX12_property 31 = .ok (.ireturn, 1) := by decide +kernel
theorem dX12_property_32 : decode cX12_property 32 = .ok (.aload_n 0, 1) := by decide +kernel
theorem dX12_property_33 : decode cX12_property 33 = .ok (.getfield 149, 3) := by decide +kernel
theorem dX12_property_36 : decode cX12_property 36 = .ok (.iload_n 1, 1) := by decide +kernel
theorem dX12_property_37 : decode cX12_property 37 = .ok (.iaload, 1) := by decide +kernel
theorem dX12_property_38 : decode cX12_property 38 = .ok (.istore 4, 2) := by decide +kernel
theorem dX12_property_40 : decode cX12_property 40 = .ok (.iconst 0, 1) := by decide +kernel
theorem dX12_property_41 : decode cX12_property 41 = .ok (.istore 5, 2) := by decide +kernel
theorem dX12_property_43 : decode cX12_property 43 = .ok (.iload 5, 2) := by decide +kernel
theorem dX12_property_45 : decode cX12_property 45 = .ok (.iload_n 2, 1) := by decide +kernel
theorem dX12_property_46 : decode cX12_property 46 = .ok (.if_icmp .ge 24, 3) := by decide +kernel
theorem dX12_property_49 : decode cX12_property 49 = .ok (.iload 4, 2) := by decide +kernel
theorem dX12_property_51 : decode cX12_property 51 = .ok (.iconst (-1), 1) := by decide +kernel
theorem dX12_property_52 : decode cX12_property 52 = .ok (.if_icmp .eq 18, 3) := by decide +kernel
theorem dX12_property_55 : decode cX12_property 55 = .ok (.aload_n 0, 1) := by decide +kernel
theorem dX12_property_56 : decode cX12_property 56 = .ok (.getfield 167, 3) := by decide +kernel
theorem dX12_property_59 : decode cX12_property 59 = .ok (.iload 4, 2) := by decide +kernel
theorem dX12_property_61 : decode cX12_property 61 = .ok (.iaload, 1) := by decide +kernel
theorem dX12_property_62 : decode cX12_property 62 = .ok (.istore 4, 2) := by decide +kernel
theorem dX12_property_64 : decode cX12_property 64 = .ok (.iinc 5 1, 3) := by decide +kernel
theorem dX12_property_67 : decode cX12_property 67 = .ok (.goto (-24), 3) := by decide +kernel
theorem dX12_property_70 : decode cX12_property 70 = .ok (.iload 4, 2) := by decide +kernel
theorem dX12_property_72 : decode cX12_property 72 = .ok (.iconst (-1), 1) := by decide +kernel
theorem dX12_property_73 : decode cX12_property 73 = .ok (.if_icmp .ne 5, 3) := by decide +kernel
theorem dX12_property_76 : decode cX12_property 76 = .ok (.iconst (-1), 1) := by decide +kernel
theorem dX12_property_77 : decode cX12_property 77 = .ok (.ireturn, 1) := by decide +kernel
theorem dX12_property_78 : decode cX12_property 78 = .ok (.iload_n 3, 1) := by decide +kernel
theorem dX12_property_79 : decode cX12_property 79 = .ok (.ifCond .ne 13, 3) := by decide +kernel
theorem dX12_property_82 : decode cX12_property 82 = .ok (.aload_n 0, 1) := by decide +kernel
theorem dX12_property_83 : decode cX12_property 83 = .ok (.getfield 155, 3) := by decide +kernel
theorem dX12_property_86 : decode cX12_property 86 = .ok (.iload 4, 2) := by decide +kernel
theorem dX12_property_88 : decode cX12_property 88 = .ok (.iaload, 1) := by decide +kernel
theorem dX12_property_89 : decode cX12_property 89 = .ok (.goto 40, 3) := by decide +kernel
theorem dX12_property_92 : decode cX12_property 92 = .ok (.aload_n 0, 1) := by decide +kernel
theorem dX12_property_93 : decode cX12_property 93 = .ok (.aload_n 0, 1) := by decide +kernel
theorem dX12_property_94 : decode cX12_property 94 = .ok (.getfield 158, 3) := by decide +kernel
theorem dX12_property_97 : decode cX12_property 97 = .ok (.iload 4, 2) := by decide +kernel
theorem dX12_property_99 : decode cX12_property 99 = .ok (.iaload, 1) := by decide +kernel
theorem dX12_property_100 : decode cX12_property 100 = .ok (.aload_n 0, 1) := by decide +kernel
theorem dX12_property_101 : decode cX12_property 101 = .ok (.getfield 161, 3) := by decide +kernel
theorem dX12_property_104 : decode cX12_property 104 = .ok (.iload 4, 2) := by decide +kernel
theorem dX12_property_106 : decode cX12_property 106 = .ok (.iaload, 1) := by decide +kernel
theorem dX12_property_107 : decode cX12_property 107 = .ok (.iload_n 3, 1) := by decide +kernel
theorem dX12_property_108 : decode cX12_property 108 = .ok (.iconst 1, 1) := by decide +kernel
theorem dX12_property_109 : decode cX12_property 109 = .ok (.if_icmp .ne 7, 3) := by decide +kernel
theorem dX12_property_112 : decode cX12_property 112 = .ok (.iconst 0, 1) := by decide +kernel
theorem dX12_property_113 : decode cX12_property 113 = .ok (.goto 13, 3) := by decide +kernel
theorem dX12_property_116 : decode cX12_property 116 = .ok (.iload_n 3, 1) := by decide +kernel
theorem dX12_property_117 : decode cX12_property 117 = .ok (.iconst 2, 1) := by decide +kernel
theorem dX12_property_118 : decode cX12_property 118 = .ok (.if_icmp .ne 7, 3) := by decide +kernel
theorem dX12_property_121 : decode cX12_property 121 = .ok (.iconst 1, 1) := by decide +kernel
theorem dX12_property_122 : decode cX12_property 122 = .ok (.goto 4, 3) := by decide +kernel
theorem dX12_property_125 : decode cX12_property 125 = .ok (.iconst (-1), 1) := by decide +kernel
theorem dX12_property_126 : decode cX12_property 126 = .ok (.invokevirtual 1037, 3) := by decide +kernel
theorem dX12_property_129 : decode cX12_property 129 = .ok (.ireturn, 1) := by decide +kernel
theorem dX12_value__0 : decode cX12_value_ 0 = .ok (.aload_n 0, 1) := by decide +kernel
theorem dX12_value__1 : decode cX12_value_ 1 = .ok (.iconst 0, 1) := by decide +kernel
theorem dX12_value__2 : decode cX12_value_ 2 = .ok (.putfield 289, 3) := by decide +kernel
theorem dX12_value__5 : decode cX12_value_ 5 = .ok (.aload_n 0, 1) := by decide +kernel
theorem dX12_value__6 : decode cX12_value_ 6 = .ok (.getfield 773, 3) := by decide +kernel
theorem dX12_value__9 : decode cX12_value_ 9 = .ok (.ifCond .eq 17, 3) := by decide +kernel
theorem dX12_value__12 : decode cX12_value_ 12 = .ok (.iload_n 1, 1) := by decide +kernel
theorem dX12_value__13 : decode cX12_value_ 13 = .ok (.iconst 0, 1) := by decide +kernel
theorem dX12_value__14 : decode cX12_value_ 14 = .ok (.aload_n 0, 1) := by decide +kernel
theorem dX12_value__15 : decode cX12_value_ 15 = .ok (.getfield 872, 3) := by decide +kernel
theorem dX12_value__18 : decode cX12_value_ 18 = .ok (.iconst 1, 1) := by decide +kernel
theorem dX12_value__19 : decode cX12_value_ 19 = .ok (.isub, 1) := by decide +kernel
theorem dX12_value__20 : decode cX12_value_ 20 = .ok (.invokestatic 899, 3) := by decide +kernel
theorem dX12_value__23 : decode cX12_value_ 23 = .ok (.ifCond .ne 5, 3) := by decide +kernel
theorem dX12_value__26 : decode cX12_value_ 26 = .ok (.iconst (-1), 1) := by decide +kernel
theorem dX12_value__27 : decode cX12_value_ 27 = .ok (.ireturn, 1) := by decide +kernel
theorem dX12_value__28 : decode cX12_value_ 28 = .ok (.aload_n 0, 1) := by decide +kernel
theorem dX12_value__29 : decode cX12_value_ 29 = .ok (.getfield 872, 3) := by decide +kernel
theorem dX12_value__32 : decode cX12_value_ 32 = .ok (.iconst 1, 1) := by decide +kernel
theorem dX12_value__33 : decode cX12_value_ 33 = .ok (.isub, 1) := by decide +kernel
theorem dX12_value__34 : decode cX12_value_ 34 = .ok (.iload_n 1, 1) := by decide +kernel
theorem dX12_value__35 : decode cX12_value_ 35 = .ok (.isub, 1) := by decide +kernel
theorem dX12_value__36 : decode cX12_value_ 36 = .ok (.istore 4, 2) := by decide +kernel
theorem dX12_value__38 : decode cX12_value_ 38 = .ok (.iload_n 2, 1) := by decide +kernel
theorem dX12_value__39 : decode cX12_value_ 39 = .ok (.iconst (-1), 1) := by decide +kernel
theorem dX12_value__40 : decode cX12_value_ 40 = .ok (.if_icmp .ne 23, 3) := by decide +kernel
theorem dX12_value__43 : decode cX12_value_ 43 = .ok (.aload_n 0, 1) := by decide +kernel
theorem dX12_value__44 : decode cX12_value_ 44 = .ok (.aload_n 0, 1) := by decide +kernel
theorem dX12_value__45 : decode cX12_value_ 45 = .ok (.getfield 176, 3) := by decide +kernel
theorem dX12_value__48 : decode cX12_value_ 48 = .ok (.iload 4, 2) := by decide +kernel
theorem dX12_value__50 : decode cX12_value_ 50 = .ok (.iaload, 1) := by decide +kernel
theorem dX12_value__51 : decode cX12_value_ 51 = .ok (.aload_n 0, 1) := by decide +kernel
theorem dX12_value__52 : decode cX12_value_ 52 = .ok (.getfield 179, 3) := by decide +kernel
theorem dX12_value__55 : decode cX12_value_ 55 = .ok (.iload 4, 2) := by decide +kernel
theorem dX12_value__57 : decode cX12_value_ 57 = .ok (.iaload, 1) := by decide +kernel
theorem dX12_value__58 : decode cX12_value_ 58 = .ok (.iload_n 3, 1) := by decide +kernel
theorem dX12_value__59 : decode cX12_value_ 59 = .ok (.invokevirtual 1037, 3) := by decide +kernel
theorem dX12_value__62 : decode cX12_value_ 62 = .ok (.ireturn, 1) := by decide +kernel
theorem dX12_value__63 : decode cX12_value_ 63 = .ok (.iload_n 2, 1) := by decide +kernel
theorem dX12_value__64 : decode cX12_value_ 64 = .ok (.iconst 0, 1) := by decide +kernel
theorem dX12_value__65 : decode cX12_value_ 65 = .ok (.aload_n 0, 1) := by decide +kernel
theorem dX12_value__66 : decode cX12_value_ 66 = .ok (.getfield 185, 3) := by decide +kernel
theorem dX12_value__69 : decode cX12_value_ 69 = .ok (.iload 4, 2) := by decide +kernel
theorem dX12_value__71 : decode cX12_value_ 71 = .ok (.iaload, 1) := by decide +kernel
theorem dX12_value__72 : decode cX12_value_ 72 = .ok (.iconst 1, 1) := by decide +kernel
theorem dX12_value__73 : decode cX12_value_ 73 = .ok (.isub, 1) := by decide +kernel
theorem dX12_value__74 : decode cX12_value_ 74 = .ok (.invokestatic 899, 3) := by decide +kernel
theorem dX12_value__77 : decode cX12_value_ 77 = .ok (.ifCond .ne 5, 3) := by decide +kernel
theorem dX12_value__80 : decode cX12_value_ 80 = .ok (.iconst (-1), 1) := by decide +kernel
theorem dX12_value__81 : decode cX12_value_ 81 = .ok (.ireturn, 1) := by decide +kernel
theorem dX12_value__82 : decode cX12_value_ 82 = .ok (.sipush 400, 3) := by decide +kernel
theorem dX12_value__85 : decode cX12_value_ 85 = .ok (.iload 4, 2) := by decide +kernel
theorem dX12_value__87 : decode cX12_value_ 87 = .ok (.imul, 1) := by decide +kernel
theorem dX12_value__88 : decode cX12_value_ 88 = .ok (.iload_n 2, 1) := by decide +kernel
theorem dX12_value__89 : decode cX12_value_ 89 = .ok (.iadd, 1) := by decide +kernel
theorem dX12_value__90 : decode cX12_value_ 90 = .ok (.istore 5, 2) := by decide +kernel
theorem dX12_value__92 : decode cX12_value_ 92 = .ok (.aload_n 0, 1) := by decide +kernel
theorem dX12_value__93 : decode cX12_value_ 93 = .ok (.getfield 200, 3) := by decide +kernel
theorem dX12_value__96 : decode cX12_value_ 96 = .ok (.iload 5, 2) := by decide +kernel
theorem dX12_value__98 : decode cX12_value_ 98 = .ok (.iaload, 1) := by decide +kernel
theorem dX12_value__99 : decode cX12_value_ 99 = .ok (.bipush 8, 2) := by decide +kernel
theorem dX12_value__101 : decode cX12_value_ 101 = .ok (.if_icmp .ne 15, 3) := by decide +kernel
theorem dX12_value__104 : decode cX12_value_ 104 = .ok (.iload_n 3, 1) := by decide +kernel
theorem dX12_value__105 : decode cX12_value_ 105 = .ok (.iconst 1, 1) := by decide +kernel
theorem dX12_value__106 : decode cX12_value_ 106 = .ok (.if_icmp .ne 10, 3) := by decide +kernel
theorem dX12_value__109 : decode cX12_value_ 109 = .ok (.aload_n 0, 1) := by decide +kernel
theorem dX12_value__110 : decode cX12_value_ 110 = .ok (.iload 5, 2) := by decide +kernel
theorem dX12_value__112 : decode cX12_value_ 112 = .ok (.invokevirtual 1040, 3) := by decide +kernel
theorem dX12_value__115 : decode cX12_value_ 115 = .ok (.ireturn, 1) := by decide +kernel
theorem dX12_value__116 : decode cX12_value_ 116 = .ok (.aload_n 0, 1) := by decide +kernel
theorem dX12_value__117 : decode cX12_value_ 117 = .ok (.aload_n 0, 1) := by decide +kernel
theorem dX12_value__118 : decode cX12_value_ 118 = .ok (.getfield 200, 3) := by decide +kernel
theorem dX12_value__121 : decode cX12_value_ 121 = .ok (.iload 5, 2) := by decide +kernel
theorem dX12_value__123 : decode cX12_value_ 123 = .ok (.iaload, 1) := by decide +kernel
theorem dX12_value__124 : decode cX12_value_ 124 = .ok (.aload_n 0, 1) := by decide +kernel
theorem dX12_value__125 : decode cX12_value_ 125 = .ok (.getfield 203, 3) := by decide +kernel
theorem dX12_value__128 : decode cX12_value_ 128 = .ok (.iload 5, 2) := by decide +kernel
theorem dX12_value__130 : decode cX12_value_ 130 = .ok (.iaload, 1) := by decide +kernel
theorem dX12_value__131 : decode cX12_value_ 131 = .ok (.iload_n 3, 1) := by decide +kernel
theorem dX12_value__132 : decode cX12_value_ 132 = .ok (.invokevirtual 1037, 3) := by decide +kernel
theorem dX12_value__135 : decode cX12_value_ 135 = .ok (.ireturn, 1) := by decide +kernel

def q_leftOf (p1 : Int) (S : sv_S) : Option Value → sv_S → Prop := fun v S' => ∃ r : Int, v = some (sv_I r) ∧ sv_R r ∧ sm_ok S' ∧ sv_mod [] S S' ∧ (0 ≤ r)
theorem la_leftOf_0 {x0 : Int} (h0 : 0 ≤ x0) (h1 : x0 < 9600) : 0 ≤ x0 ∧ x0 < 9600 := by omega
theorem la_leftOf_1 {x0 : Int} (h0 : (-1) ≤ x0) (h1 : ¬ x0 = (-1)) : (-1) < x0 := by omega
theorem la_leftOf_2 {x0 : Int} (h0 : (-1) < x0) : 0 ≤ x0 := by omega
theorem la_leftOf_3 {x0 x1 : Int} (h0 : x0 ≤ 300) (h1 : x1 < x0) (h2 : (-1) < x1) : 0 ≤ x1 ∧ x1 < 300 := by omega
theorem la_leftOf_4 : (0 : Int) ≤ 0 := by omega
theorem la_leftOf_5 {x0 x1 : Int} (h0 : 0 ≤ x0) : x1 = (-1) → 0 ≤ x0 := by omega
theorem la_leftOf_6 {x0 : Int} (h0 : 0 ≤ x0) : (-1) ≤ x0 := by omega
theorem la_leftOf_7 {x0 : Int} (h0 : x0 = (-1)) : ¬ ¬ x0 = (-1) := by omega
theorem la_leftOf_8 {x0 : Int} (h0 : x0 = 0) : 0 ≤ x0 := by omega
theorem la_leftOf_9 {x0 x1 x2 : Int} (h0 : x0 = x1 + 1 - x2) (h1 : x2 ≤ x1) : 0 ≤ x0 := by omega
theorem la_leftOf_10 {x0 : Int} (h0 : x0 = 0) : ¬ x0 = 1 := by omega
theorem la_leftOf_11 {x0 : Int} (h0 : 0 ≤ x0) (h1 : x0 < 3000) : 0 ≤ x0 ∧ x0 < 3000 := by omega
theorem la_leftOf_12 {x0 x1 x2 : Int} (h0 : x0 ≤ 2000000000) (h1 : 0 ≤ x1) (h2 : x2 ≤ x0) (h3 : x1 < x2) : sv_R (x1 + 0) := by omega
theorem la_leftOf_13 {x0 : Int} (h0 : 0 ≤ x0) : 0 ≤ x0 + 0 := by omega
theorem la_leftOf_14 {x0 x1 x2 x3 : Int} (h0 : x0 ≤ x1) (h1 : x2 < x0) : x3 = (-1) → x2 + 0 ≤ x1 := by omega
theorem la_leftOf_15 {x0 x1 x2 : Int} (h0 : x0 < x1) (h1 : x1 < x2) : x0 + 0 < x2 := by omega
theorem la_leftOf_16 {x0 x1 x2 x3 x4 : Int} (h0 : x0 = (-1)) : ¬ (0 ≤ x0 ∧ x0 < 3000 ∧ x1 = x2 ∧ 0 < x3 ∧ x3 ≤ x4) := by omega
theorem la_leftOf_17 {x0 x1 x2 x3 : Int} (h0 : x0 ≤ x1) (h1 : x2 = x1 + 1 - x0) (h2 : x3 = 0) : x3 < x2 := by omega
theorem la_leftOf_18 {x0 x1 x2 x3 x4 : Int} (h0 : x0 = x1 + 1 - x2) (h1 : x3 = x1 + 1 - x4) (h2 : x2 < x4) : x3 < x0 := by omega
theorem la_leftOf_19 {x0 : Int} (h0 : x0 = 1) : 0 ≤ x0 := by omega
theorem la_leftOf_20 {x0 : Int} (h0 : 0 ≤ x0) (h1 : ¬ x0 = 0) : 0 < x0 := by omega
theorem la_leftOf_21 {x0 x1 x2 : Int} (h0 : x0 ≤ 2000000000) (h1 : 0 ≤ x1) (h2 : x2 ≤ x0) (h3 : x1 < x2) : sv_R (x1 + 1) := by omega
theorem la_leftOf_22 {x0 : Int} (h0 : 0 ≤ x0) : 0 ≤ x0 + 1 := by omega
theorem la_leftOf_23 {x0 x1 x2 x3 : Int} (h0 : x0 ≤ x1) (h1 : x2 < x0) : x3 = (-1) → x2 + 1 ≤ x1 := by omega
theorem la_leftOf_24 {x0 x1 x2 : Int} (h0 : x0 < x1) (h1 : x1 < x2) : x0 + 1 < x2 := by omega
theorem la_leftOf_25 {x0 x1 : Int} : x0 ≤ x1 → (0 : Int) = 0 ∨ (0 : Int) = 1 := by omega
theorem la_leftOf_26 {x0 x1 : Int} : x0 < x1 → (0 : Int) = 0 ∨ (0 : Int) = 1 := by omega
theorem la_leftOf_27 {x0 : Int} : ¬ x0 = 2 → (1 : Int) = 0 ∨ (1 : Int) = 1 := by omega
theorem la_leftOf_28 {x0 : Int} : x0 = 0 → (0 : Int) = 0 ∨ (0 : Int) = 1 := by omega
theorem la_leftOf_29 : (1 : Int) = 0 ∨ (1 : Int) = 1 := by omega
theorem la_leftOf_30 {x0 : Int} (h0 : 0 ≤ x0) : ((-1) : Int) = (-1) → 0 ≤ x0 := by omega
theorem la_leftOf_31 : ((-1) : Int) ≤ (-1) := by omega
theorem la_leftOf_32 (h0 : ((-1) : Int) ≤ (-1)) (h1 : ¬ ((-1) : Int) = (-1)) : ((-1) : Int) < (-1) := by omega
theorem la_leftOf_33 (h0 : ((-1) : Int) < (-1)) : (0 : Int) ≤ (-1) := by omega
theorem la_leftOf_34 {x0 : Int} (h0 : ((-1) : Int) < (-1)) : 0 ≤ x0 := by omega
theorem la_leftOf_35 (h0 : ((-1) : Int) < (-1)) : False := by omega
theorem la_leftOf_36 {x0 x1 : Int} (h0 : ((-1) : Int) < (-1)) : x0 ≤ x1 := by omega
theorem la_leftOf_37 {x0 : Int} (h0 : ((-1) : Int) < (-1)) : 0 < x0 := by omega
theorem la_leftOf_38 {x0 x1 : Int} (h0 : ¬ ¬ x0 = (-1)) (h1 : 0 ≤ x0) : ¬ x1 = (-1) := by omega
theorem la_leftOf_39 {x0 x1 x2 x3 x4 : Int} (h0 : x0 < x1) (h1 : x1 < x2) (h2 : x2 ≤ x3) : x4 = (-1) → x0 + 0 ≤ x3 := by omega
theorem la_leftOf_40 {x0 : Int} (h0 : 0 ≤ x0) : ¬ x0 = (-1) := by omega
theorem la_leftOf_41 {x0 x1 x2 x3 x4 : Int} (h0 : x0 < x1) (h1 : x2 = x3 + 1 - x1) (h2 : x4 = x3 + 1 - x0) : x2 < x4 := by omega
theorem la_leftOf_42 {x0 x1 x2 x3 x4 : Int} (h0 : x0 < x1) (h1 : x1 < x2) (h2 : x2 ≤ x3) : x4 = (-1) → x0 + 1 ≤ x3 := by omega
theorem la_leftOf_43 {x0 : Int} (h0 : ¬ ¬ x0 = (-1)) (h1 : 0 ≤ x0) : 0 ≤ x0 ∧ x0 < 300 := by omega
set_option maxHeartbeats 2000000 in
theorem f_leftOf : ∀ (p1 : Int) (S : sv_S), sm_ok S → sv_R p1 → (sm_PL (S 1100020) (S 51) (S 52) (S 46) (S 47) (S 1076 0) (S 1086 0) ∧ 0 ≤ (S 1076 0) ∧ (S 1076 0) ≤ 300 ∧ 0 ≤ (S 1084 0) ∧ (S 1084 0) ≤ 3000 ∧ 0 ≤ (S 1086 0) ∧ (S 1086 0) ≤ 2000000000 ∧ 0 ≤ p1 ∧ p1 < 9600 ∧ -1 ≤ (S 64 p1) ∧ (S 64 p1) < (S 1076 0)) → (0 ≤ p1 ∧ p1 < 9600) ∧ (sv_R (S 64 p1) → (((¬ (S 64 p1) = (-1 : Int)) → ((sm_PL (S 1100020) (S 51) (S 52) (S 46) (S 47) (S 1076 0) (S 1086 0) → 0 ≤ (S 64 p1) → (S 64 p1) < (S 1076 0) → sm_PC (S 1100020) (S 51) (S 1086 0) ((S 64 p1)) ((S 46 (S 64 p1)))) → ((sm_PC (S 1100020) (S 51) (S 1086 0) ((S 64 p1)) ((S 46 (S 64 p1))) → (S 46 (S 64 p1)) = -1 ∨ (0 ≤ (S 46 (S 64 p1)) ∧ (S 46 (S 64 p1)) < 3000 ∧ (S 1100020 (S 46 (S 64 p1))) = (S 64 p1) ∧ 0 < (S 51 (S 46 (S 64 p1))) ∧ (S 51 (S 46 (S 64 p1))) ≤ (S 1086 0))) → (0 ≤ (S 64 p1) ∧ (S 64 p1) < 300) ∧ (sv_R (S 46 (S 64 p1)) → ((0 ≤ (0 : Int) ∧ ((S 46 (S 64 p1)) = -1 → (0 : Int) ≤ (S 1086 0)) ∧ (¬ (S 46 (S 64 p1)) = -1 → 0 ≤ (S 46 (S 64 p1)) ∧ 0 ≤ (S 64 p1) ∧ (S 64 p1) < (S 1076 0) ∧ sm_PC (S 1100020) (S 51) (S 1086 0) ((S 64 p1)) ((S 46 (S 64 p1))) ∧ (S 51 (S 46 (S 64 p1))) ≤ (S 1086 0) ∧ (0 : Int) < (S 51 (S 46 (S 64 p1))))) ∧ (∀ l3_7 : Int, sv_R l3_7 → ∀ l4_8 : Int, sv_R l4_8 → (0 ≤ l3_7 ∧ (l4_8 = -1 → l3_7 ≤ (S 1086 0)) ∧ (¬ l4_8 = -1 → 0 ≤ l4_8 ∧ 0 ≤ (S 64 p1) ∧ (S 64 p1) < (S 1076 0) ∧ sm_PC (S 1100020) (S 51) (S 1086 0) ((S 64 p1)) (l4_8) ∧ (S 51 l4_8) ≤ (S 1086 0) ∧ l3_7 < (S 51 l4_8))) → (0 ≤ (if l4_8 = -1 then 0 else (S 1086 0) + 1 - (S 51 l4_8))) ∧ (((l4_8 = (-1 : Int)) → (0 ≤ l3_7)) ∧ ((¬ (l4_8 = (-1 : Int))) → ((sm_PC (S 1100020) (S 51) (S 1086 0) ((S 64 p1)) (l4_8) → l4_8 = -1 ∨ (0 ≤ l4_8 ∧ l4_8 < 3000 ∧ (S 1100020 l4_8) = (S 64 p1) ∧ 0 < (S 51 l4_8) ∧ (S 51 l4_8) ≤ (S 1086 0))) → ((∀ s13 : Int, sv_R s13 → (s13 = 0 ∨ s13 = 1) → (((s13 = (0 : Int)) → ((sm_PL (S 1100020) (S 51) (S 52) (S 46) (S 47) (S 1076 0) (S 1086 0) → 0 ≤ l4_8 → l4_8 < 3000 → (S 1100020 l4_8) = (S 64 p1) → 0 ≤ (S 64 p1) → sm_PC (S 1100020) (S 51) (S 1086 0) ((S 64 p1)) ((S 52 l4_8)) ∧ (¬ (S 52 l4_8) = -1 → (S 51 l4_8) < (S 51 (S 52 l4_8)))) → ((sm_PC (S 1100020) (S 51) (S 1086 0) ((S 64 p1)) ((S 52 l4_8)) → (S 52 l4_8) = -1 ∨ (0 ≤ (S 52 l4_8) ∧ (S 52 l4_8) < 3000 ∧ (S 1100020 (S 52 l4_8)) = (S 64 p1) ∧ 0 < (S 51 (S 52 l4_8)) ∧ (S 51 (S 52 l4_8)) ≤ (S 1086 0))) → (0 ≤ l4_8 ∧ l4_8 < 3000) ∧ (sv_R (S 52 l4_8) → (sv_R (l3_7 + (0 : Int))) ∧ ((0 ≤ (l3_7 + (0 : Int)) ∧ ((S 52 l4_8) = -1 → (l3_7 + (0 : Int)) ≤ (S 1086 0)) ∧ (¬ (S 52 l4_8) = -1 → 0 ≤ (S 52 l4_8) ∧ 0 ≤ (S 64 p1) ∧ (S 64 p1) < (S 1076 0) ∧ sm_PC (S 1100020) (S 51) (S 1086 0) ((S 64 p1)) ((S 52 l4_8)) ∧ (S 51 (S 52 l4_8)) ≤ (S 1086 0) ∧ (l3_7 + (0 : Int)) < (S 51 (S 52 l4_8)))) ∧ ((if (S 52 l4_8) = -1 then 0 else (S 1086 0) + 1 - (S 51 (S 52 l4_8)))) < ((if l4_8 = -1 then 0 else (S 1086 0) + 1 - (S 51 l4_8)))))))) ∧ ((¬ (s13 = (0 : Int))) → ((sm_PL (S 1100020) (S 51) (S 52) (S 46) (S 47) (S 1076 0) (S 1086 0) → 0 ≤ l4_8 → l4_8 < 3000 → (S 1100020 l4_8) = (S 64 p1) → 0 ≤ (S 64 p1) → sm_PC (S 1100020) (S 51) (S 1086 0) ((S 64 p1)) ((S 52 l4_8)) ∧ (¬ (S 52 l4_8) = -1 → (S 51 l4_8) < (S 51 (S 52 l4_8)))) → ((sm_PC (S 1100020) (S 51) (S 1086 0) ((S 64 p1)) ((S 52 l4_8)) → (S 52 l4_8) = -1 ∨ (0 ≤ (S 52 l4_8) ∧ (S 52 l4_8) < 3000 ∧ (S 1100020 (S 52 l4_8)) = (S 64 p1) ∧ 0 < (S 51 (S 52 l4_8)) ∧ (S 51 (S 52 l4_8)) ≤ (S 1086 0))) → (0 ≤ l4_8 ∧ l4_8 < 3000) ∧ (sv_R (S 52 l4_8) → (sv_R (l3_7 + (1 : Int))) ∧ ((0 ≤ (l3_7 + (1 : Int)) ∧ ((S 52 l4_8) = -1 → (l3_7 + (1 : Int)) ≤ (S 1086 0)) ∧ (¬ (S 52 l4_8) = -1 → 0 ≤ (S 52 l4_8) ∧ 0 ≤ (S 64 p1) ∧ (S 64 p1) < (S 1076 0) ∧ sm_PC (S 1100020) (S 51) (S 1086 0) ((S 64 p1)) ((S 52 l4_8)) ∧ (S 51 (S 52 l4_8)) ≤ (S 1086 0) ∧ (l3_7 + (1 : Int)) < (S 51 (S 52 l4_8)))) ∧ ((if (S 52 l4_8) = -1 then 0 else (S 1086 0) + 1 - (S 51 (S 52 l4_8)))) < ((if l4_8 = -1 then 0 else (S 1086 0) + 1 - (S 51 l4_8)))))))))) ∧ ((sm_PC (S 1100020) (S 51) (S 1086 0) ((S 64 p1)) (l4_8) → l4_8 = -1 ∨ (0 ≤ l4_8 ∧ l4_8 < 3000 ∧ (S 1100020 l4_8) = (S 64 p1) ∧ 0 < (S 51 l4_8) ∧ (S 51 l4_8) ≤ (S 1086 0))) → (0 ≤ l4_8 ∧ l4_8 < 3000) ∧ (sv_R (S 51 l4_8) → (sv_R (S 65 p1) → ((((S 51 l4_8) ≤ (S 65 p1)) → ((0 : Int) = 0 ∨ (0 : Int) = 1)) ∧ ((¬ ((S 51 l4_8) ≤ (S 65 p1))) → (sv_R (S 66 p1) → ((((S 66 p1) < (S 51 l4_8)) → ((0 : Int) = 0 ∨ (0 : Int) = 1)) ∧ ((¬ ((S 66 p1) < (S 51 l4_8))) → (sv_R (S 44 (S 64 p1)) → (((¬ (S 44 (S 64 p1)) = (2 : Int)) → ((1 : Int) = 0 ∨ (1 : Int) = 1)) ∧ ((¬ (¬ (S 44 (S 64 p1)) = (2 : Int))) → (sv_R (S 48 l4_8) → ((((S 48 l4_8) = (0 : Int)) → ((0 : Int) = 0 ∨ (0 : Int) = 1)) ∧ ((¬ ((S 48 l4_8) = (0 : Int))) → ((1 : Int) = 0 ∨ (1 : Int) = 1))))))))))))))))))))))))) ∧ ((¬ (¬ (S 64 p1) = (-1 : Int))) → ((0 ≤ (0 : Int) ∧ ((-1 : Int) = -1 → (0 : Int) ≤ (S 1086 0)) ∧ (¬ (-1 : Int) = -1 → 0 ≤ (-1 : Int) ∧ 0 ≤ (S 64 p1) ∧ (S 64 p1) < (S 1076 0) ∧ sm_PC (S 1100020) (S 51) (S 1086 0) ((S 64 p1)) ((-1 : Int)) ∧ (S 51 (-1 : Int)) ≤ (S 1086 0) ∧ (0 : Int) < (S 51 (-1 : Int)))) ∧ (∀ l3_33 : Int, sv_R l3_33 → ∀ l4_34 : Int, sv_R l4_34 → (0 ≤ l3_33 ∧ (l4_34 = -1 → l3_33 ≤ (S 1086 0)) ∧ (¬ l4_34 = -1 → 0 ≤ l4_34 ∧ 0 ≤ (S 64 p1) ∧ (S 64 p1) < (S 1076 0) ∧ sm_PC (S 1100020) (S 51) (S 1086 0) ((S 64 p1)) (l4_34) ∧ (S 51 l4_34) ≤ (S 1086 0) ∧ l3_33 < (S 51 l4_34))) → (0 ≤ (if l4_34 = -1 then 0 else (S 1086 0) + 1 - (S 51 l4_34))) ∧ (((l4_34 = (-1 : Int)) → (0 ≤ l3_33)) ∧ ((¬ (l4_34 = (-1 : Int))) → ((sm_PC (S 1100020) (S 51) (S 1086 0) ((S 64 p1)) (l4_34) → l4_34 = -1 ∨ (0 ≤ l4_34 ∧ l4_34 < 3000 ∧ (S 1100020 l4_34) = (S 64 p1) ∧ 0 < (S 51 l4_34) ∧ (S 51 l4_34) ≤ (S 1086 0))) → ((∀ s39 : Int, sv_R s39 → (s39 = 0 ∨ s39 = 1) → (((s39 = (0 : Int)) → ((sm_PL (S 1100020) (S 51) (S 52) (S 46) (S 47) (S 1076 0) (S 1086 0) → 0 ≤ l4_34 → l4_34 < 3000 → (S 1100020 l4_34) = (S 64 p1) → 0 ≤ (S 64 p1) → sm_PC (S 1100020) (S 51) (S 1086 0) ((S 64 p1)) ((S 52 l4_34)) ∧ (¬ (S 52 l4_34) = -1 → (S 51 l4_34) < (S 51 (S 52 l4_34)))) → ((sm_PC (S 1100020) (S 51) (S 1086 0) ((S 64 p1)) ((S 52 l4_34)) → (S 52 l4_34) = -1 ∨ (0 ≤ (S 52 l4_34) ∧ (S 52 l4_34) < 3000 ∧ (S 1100020 (S 52 l4_34)) = (S 64 p1) ∧ 0 < (S 51 (S 52 l4_34)) ∧ (S 51 (S 52 l4_34)) ≤ (S 1086 0))) → (0 ≤ l4_34 ∧ l4_34 < 3000) ∧ (sv_R (S 52 l4_34) → (sv_R (l3_33 + (0 : Int))) ∧ ((0 ≤ (l3_33 + (0 : Int)) ∧ ((S 52 l4_34) = -1 → (l3_33 + (0 : Int)) ≤ (S 1086 0)) ∧ (¬ (S 52 l4_34) = -1 → 0 ≤ (S 52 l4_34) ∧ 0 ≤ (S 64 p1) ∧ (S 64 p1) < (S 1076 0) ∧ sm_PC (S 1100020) (S 51) (S 1086 0) ((S 64 p1)) ((S 52 l4_34)) ∧ (S 51 (S 52 l4_34)) ≤ (S 1086 0) ∧ (l3_33 + (0 : Int)) < (S 51 (S 52 l4_34)))) ∧ ((if (S 52 l4_34) = -1 then 0 else (S 1086 0) + 1 - (S 51 (S 52 l4_34)))) < ((if l4_34 = -1 then 0 else (S 1086 0) + 1 - (S 51 l4_34)))))))) ∧ ((¬ (s39 = (0 : Int))) → ((sm_PL (S 1100020) (S 51) (S 52) (S 46) (S 47) (S 1076 0) (S 1086 0) → 0 ≤ l4_34 → l4_34 < 3000 → (S 1100020 l4_34) = (S 64 p1) → 0 ≤ (S 64 p1) → sm_PC (S 1100020) (S 51) (S 1086 0) ((S 64 p1)) ((S 52 l4_34)) ∧ (¬ (S 52 l4_34) = -1 → (S 51 l4_34) < (S 51 (S 52 l4_34)))) → ((sm_PC (S 1100020) (S 51) (S 1086 0) ((S 64 p1)) ((S 52 l4_34)) → (S 52 l4_34) = -1 ∨ (0 ≤ (S 52 l4_34) ∧ (S 52 l4_34) < 3000 ∧ (S 1100020 (S 52 l4_34)) = (S 64 p1) ∧ 0 < (S 51 (S 52 l4_34)) ∧ (S 51 (S 52 l4_34)) ≤ (S 1086 0))) → (0 ≤ l4_34 ∧ l4_34 < 3000) ∧ (sv_R (S 52 l4_34) → (sv_R (l3_33 + (1 : Int))) ∧ ((0 ≤ (l3_33 + (1 : Int)) ∧ ((S 52 l4_34) = -1 → (l3_33 + (1 : Int)) ≤ (S 1086 0)) ∧ (¬ (S 52 l4_34) = -1 → 0 ≤ (S 52 l4_34) ∧ 0 ≤ (S 64 p1) ∧ (S 64 p1) < (S 1076 0) ∧ sm_PC (S 1100020) (S 51) (S 1086 0) ((S 64 p1)) ((S 52 l4_34)) ∧ (S 51 (S 52 l4_34)) ≤ (S 1086 0) ∧ (l3_33 + (1 : Int)) < (S 51 (S 52 l4_34)))) ∧ ((if (S 52 l4_34) = -1 then 0 else (S 1086 0) + 1 - (S 51 (S 52 l4_34)))) < ((if l4_34 = -1 then 0 else (S 1086 0) + 1 - (S 51 l4_34)))))))))) ∧ ((sm_PC (S 1100020) (S 51) (S 1086 0) ((S 64 p1)) (l4_34) → l4_34 = -1 ∨ (0 ≤ l4_34 ∧ l4_34 < 3000 ∧ (S 1100020 l4_34) = (S 64 p1) ∧ 0 < (S 51 l4_34) ∧ (S 51 l4_34) ≤ (S 1086 0))) → (0 ≤ l4_34 ∧ l4_34 < 3000) ∧ (sv_R (S 51 l4_34) → (sv_R (S 65 p1) → ((((S 51 l4_34) ≤ (S 65 p1)) → ((0 : Int) = 0 ∨ (0 : Int) = 1)) ∧ ((¬ ((S 51 l4_34) ≤ (S 65 p1))) → (sv_R (S 66 p1) → ((((S 66 p1) < (S 51 l4_34)) → ((0 : Int) = 0 ∨ (0 : Int) = 1)) ∧ ((¬ ((S 66 p1) < (S 51 l4_34))) → (0 ≤ (S 64 p1) ∧ (S 64 p1) < 300) ∧ (sv_R (S 44 (S 64 p1)) → (((¬ (S 44 (S 64 p1)) = (2 : Int)) → ((1 : Int) = 0 ∨ (1 : Int) = 1)) ∧ ((¬ (¬ (S 44 (S 64 p1)) = (2 : Int))) → (sv_R (S 48 l4_34) → ((((S 48 l4_34) = (0 : Int)) → ((0 : Int) = 0 ∨ (0 : Int) = 1)) ∧ ((¬ ((S 48 l4_34) = (0 : Int))) → ((1 : Int) = 0 ∨ (1 : Int) = 1)))))))))))))))))))))))) := by
  intro p1
  intro S
  intro h1_
  intro h2_
  rintro ⟨h3_, ⟨h4_, ⟨h5_, ⟨h6_, ⟨h7_, ⟨h8_, ⟨h9_, ⟨h10_, ⟨h11_, ⟨h12_, h13_⟩⟩⟩⟩⟩⟩⟩⟩⟩⟩
  refine ⟨(la_leftOf_0 h10_ h11_), ?_⟩
  intro h14_
  refine ⟨?_, ?_⟩
  · skip
    intro h15_
    intro h16_
    have h17_ := (h16_ h3_)
    have h18_ := (h17_ (la_leftOf_2 (la_leftOf_1 h12_ h15_)))
    have h19_ := (h18_ h13_)
    intro h20_
    have h21_ := (h20_ h19_)
    refine ⟨(la_leftOf_3 h5_ h13_ (la_leftOf_1 h12_ h15_)), ?_⟩
    intro h22_
    refine ⟨?_, ?_⟩
    · skip
      refine ⟨la_leftOf_4, ?_⟩
      refine ⟨(la_leftOf_5 h8_), ?_⟩
      intro h23_
      obtain ⟨h24_, ⟨h25_, ⟨h26_, ⟨h27_, h28_⟩⟩⟩⟩ := (h21_.resolve_left h23_)
      refine ⟨h24_, ?_⟩
      refine ⟨(la_leftOf_2 (la_leftOf_1 h12_ h15_)), ?_⟩
      refine ⟨h13_, ?_⟩
      refine ⟨h19_, ?_⟩
      refine ⟨h28_, ?_⟩
      exact h27_
    intro l3_7
    intro h29_
    intro l4_8
    intro h30_
    rintro ⟨h31_, ⟨h32_, h33_⟩⟩
    refine ⟨?_, ?_⟩
    · skip
      by_cases c34_ : l4_8 = (-1)
      · skip
        have e35_ : (if l4_8 = (-1) then 0 else S 1086 0 + 1 - S 51 l4_8 : Int) = 0 := if_pos c34_
        have h36_ := (h32_ c34_)
        exact (la_leftOf_8 e35_)
      · skip
        have e37_ : (if l4_8 = (-1) then 0 else S 1086 0 + 1 - S 51 l4_8 : Int) = S 1086 0 + 1 - S 51 l4_8 := if_neg c34_
        obtain ⟨h38_, ⟨h39_, ⟨h40_, ⟨h41_, ⟨h42_, h43_⟩⟩⟩⟩⟩ := (h33_ c34_)
        exact (la_leftOf_9 e37_ h42_)
    refine ⟨(la_leftOf_5 h31_), ?_⟩
    intro h44_
    obtain ⟨h45_, ⟨h46_, ⟨h47_, ⟨h48_, ⟨h49_, h50_⟩⟩⟩⟩⟩ := (h33_ h44_)
    intro h51_
    have h52_ := (h51_ h48_)
    obtain ⟨h53_, ⟨h54_, ⟨h55_, ⟨h56_, h57_⟩⟩⟩⟩ := (h52_.resolve_left h44_)
    refine ⟨?_, ?_⟩
    · skip
      intro s13
      intro h58_
      intro h59_
      refine ⟨?_, ?_⟩
      · skip
        intro h60_
        have h61_ := (h59_.resolve_right (la_leftOf_10 h60_))
        intro h62_
        have h63_ := (h62_ h3_)
        have h64_ := (h63_ h45_)
        have h65_ := (h64_ h54_)
        have h66_ := (h65_ h55_)
        obtain ⟨h67_, h68_⟩ := (h66_ h46_)
        intro h69_
        have h70_ := (h69_ h67_)
        refine ⟨(la_leftOf_11 h45_ h54_), ?_⟩
        intro h71_
        refine ⟨(la_leftOf_12 h9_ h31_ h49_ h50_), ?_⟩
        refine ⟨?_, ?_⟩
        · skip
          refine ⟨(la_leftOf_13 h31_), ?_⟩
          refine ⟨(la_leftOf_14 h49_ h50_), ?_⟩
          intro h72_
          have h73_ := (h68_ h72_)
          obtain ⟨h74_, ⟨h75_, ⟨h76_, ⟨h77_, h78_⟩⟩⟩⟩ := (h70_.resolve_left h72_)
          refine ⟨h74_, ?_⟩
          refine ⟨h46_, ?_⟩
          refine ⟨h13_, ?_⟩
          refine ⟨h67_, ?_⟩
          refine ⟨h78_, ?_⟩
          exact (la_leftOf_15 h50_ h73_)
        have e79_ : (if l4_8 = (-1) then 0 else S 1086 0 + 1 - S 51 l4_8 : Int) = S 1086 0 + 1 - S 51 l4_8 := if_neg h44_
        by_cases c80_ : S 52 l4_8 = (-1)
        · skip
          have e81_ : (if S 52 l4_8 = (-1) then 0 else S 1086 0 + 1 - S 51 (S 52 l4_8) : Int) = 0 := if_pos c80_
          have h82_ := (h70_.resolve_right (la_leftOf_16 c80_))
          exact (la_leftOf_17 h49_ e79_ e81_)
        · skip
          have e83_ : (if S 52 l4_8 = (-1) then 0 else S 1086 0 + 1 - S 51 (S 52 l4_8) : Int) = S 1086 0 + 1 - S 51 (S 52 l4_8) := if_neg c80_
          have h84_ := (h68_ c80_)
          obtain ⟨h85_, ⟨h86_, ⟨h87_, ⟨h88_, h89_⟩⟩⟩⟩ := (h70_.resolve_left c80_)
          exact (la_leftOf_18 e79_ e83_ h84_)
      intro h90_
      have h91_ := (h59_.resolve_left h90_)
      intro h92_
      have h93_ := (h92_ h3_)
      have h94_ := (h93_ h45_)
      have h95_ := (h94_ h54_)
      have h96_ := (h95_ h55_)
      obtain ⟨h97_, h98_⟩ := (h96_ h46_)
      intro h99_
      have h100_ := (h99_ h97_)
      refine ⟨(la_leftOf_11 h45_ h54_), ?_⟩
      intro h101_
      refine ⟨(la_leftOf_21 h9_ h31_ h49_ h50_), ?_⟩
      refine ⟨?_, ?_⟩
      · skip
        refine ⟨(la_leftOf_22 h31_), ?_⟩
        refine ⟨(la_leftOf_23 h49_ h50_), ?_⟩
        intro h102_
        have h103_ := (h98_ h102_)
        obtain ⟨h104_, ⟨h105_, ⟨h106_, ⟨h107_, h108_⟩⟩⟩⟩ := (h100_.resolve_left h102_)
        refine ⟨h104_, ?_⟩
        refine ⟨h46_, ?_⟩
        refine ⟨h13_, ?_⟩
        refine ⟨h97_, ?_⟩
        refine ⟨h108_, ?_⟩
        exact (la_leftOf_24 h50_ h103_)
      have e109_ : (if l4_8 = (-1) then 0 else S 1086 0 + 1 - S 51 l4_8 : Int) = S 1086 0 + 1 - S 51 l4_8 := if_neg h44_
      by_cases c110_ : S 52 l4_8 = (-1)
      · skip
        have e111_ : (if S 52 l4_8 = (-1) then 0 else S 1086 0 + 1 - S 51 (S 52 l4_8) : Int) = 0 := if_pos c110_
        have h112_ := (h100_.resolve_right (la_leftOf_16 c110_))
        exact (la_leftOf_17 h49_ e109_ e111_)
      · skip
        have e113_ : (if S 52 l4_8 = (-1) then 0 else S 1086 0 + 1 - S 51 (S 52 l4_8) : Int) = S 1086 0 + 1 - S 51 (S 52 l4_8) := if_neg c110_
        have h114_ := (h98_ c110_)
        obtain ⟨h115_, ⟨h116_, ⟨h117_, ⟨h118_, h119_⟩⟩⟩⟩ := (h100_.resolve_left c110_)
        exact (la_leftOf_18 e109_ e113_ h114_)
    intro h120_
    refine ⟨(la_leftOf_11 h45_ h54_), ?_⟩
    intro h121_
    intro h122_
    refine ⟨la_leftOf_25, ?_⟩
    intro h123_
    intro h124_
    refine ⟨la_leftOf_26, ?_⟩
    intro h125_
    intro h126_
    refine ⟨la_leftOf_27, ?_⟩
    intro h127_
    intro h128_
    refine ⟨la_leftOf_28, ?_⟩
    intro h129_
    exact la_leftOf_29
  intro h130_
  refine ⟨?_, ?_⟩
  · skip
    refine ⟨la_leftOf_4, ?_⟩
    refine ⟨(la_leftOf_30 h8_), ?_⟩
    intro h131_
    refine ⟨(la_leftOf_33 (la_leftOf_32 la_leftOf_31 h131_)), ?_⟩
    refine ⟨(la_leftOf_34 (la_leftOf_32 la_leftOf_31 h131_)), ?_⟩
    refine ⟨h13_, ?_⟩
    refine ⟨?_, ?_⟩
    · skip
      exact ((la_leftOf_35 (la_leftOf_32 la_leftOf_31 h131_))).elim
    refine ⟨(la_leftOf_36 (la_leftOf_32 la_leftOf_31 h131_)), ?_⟩
    exact (la_leftOf_37 (la_leftOf_32 la_leftOf_31 h131_))
  intro l3_33
  intro h132_
  intro l4_34
  intro h133_
  rintro ⟨h134_, ⟨h135_, h136_⟩⟩
  refine ⟨?_, ?_⟩
  · skip
    by_cases c137_ : l4_34 = (-1)
    · skip
      have e138_ : (if l4_34 = (-1) then 0 else S 1086 0 + 1 - S 51 l4_34 : Int) = 0 := if_pos c137_
      have h139_ := (h135_ c137_)
      exact (la_leftOf_8 e138_)
    · skip
      have e140_ : (if l4_34 = (-1) then 0 else S 1086 0 + 1 - S 51 l4_34 : Int) = S 1086 0 + 1 - S 51 l4_34 := if_neg c137_
      obtain ⟨h141_, ⟨h142_, ⟨h143_, ⟨h144_, ⟨h145_, h146_⟩⟩⟩⟩⟩ := (h136_ c137_)
      exact (la_leftOf_9 e140_ h145_)
  refine ⟨(la_leftOf_5 h134_), ?_⟩
  intro h147_
  obtain ⟨h148_, ⟨h149_, ⟨h150_, ⟨h151_, ⟨h152_, h153_⟩⟩⟩⟩⟩ := (h136_ h147_)
  intro h154_
  have h155_ := (h154_ h151_)
  obtain ⟨h156_, ⟨h157_, ⟨h158_, ⟨h159_, h160_⟩⟩⟩⟩ := (h155_.resolve_left h147_)
  refine ⟨?_, ?_⟩
  · skip
    intro s39
    intro h161_
    intro h162_
    refine ⟨?_, ?_⟩
    · skip
      intro h163_
      have h164_ := (h162_.resolve_right (la_leftOf_10 h163_))
      intro h165_
      have h166_ := (h165_ h3_)
      have h167_ := (h166_ h148_)
      have h168_ := (h167_ h157_)
      have h169_ := (h168_ h158_)
      obtain ⟨h170_, h171_⟩ := (h169_ h149_)
      intro h172_
      have h173_ := (h172_ h170_)
      have h174_ := (h171_ (la_leftOf_38 h130_ h149_))
      obtain ⟨h175_, ⟨h176_, ⟨h177_, ⟨h178_, h179_⟩⟩⟩⟩ := (h173_.resolve_left (la_leftOf_38 h130_ h149_))
      refine ⟨(la_leftOf_11 h148_ h157_), ?_⟩
      intro h180_
      refine ⟨(la_leftOf_12 h9_ h134_ h152_ h153_), ?_⟩
      refine ⟨?_, ?_⟩
      · skip
        refine ⟨(la_leftOf_13 h134_), ?_⟩
        refine ⟨(la_leftOf_39 h153_ h174_ h179_), ?_⟩
        intro h181_
        refine ⟨h175_, ?_⟩
        refine ⟨h149_, ?_⟩
        refine ⟨h13_, ?_⟩
        refine ⟨h170_, ?_⟩
        refine ⟨h179_, ?_⟩
        exact (la_leftOf_15 h153_ h174_)
      have e182_ : (if S 52 l4_34 = (-1) then 0 else S 1086 0 + 1 - S 51 (S 52 l4_34) : Int) = S 1086 0 + 1 - S 51 (S 52 l4_34) := if_neg (la_leftOf_40 h175_)
      have e183_ : (if l4_34 = (-1) then 0 else S 1086 0 + 1 - S 51 l4_34 : Int) = S 1086 0 + 1 - S 51 l4_34 := if_neg h147_
      exact (la_leftOf_41 h174_ e182_ e183_)
    intro h184_
    have h185_ := (h162_.resolve_left h184_)
    intro h186_
    have h187_ := (h186_ h3_)
    have h188_ := (h187_ h148_)
    have h189_ := (h188_ h157_)
    have h190_ := (h189_ h158_)
    obtain ⟨h191_, h192_⟩ := (h190_ h149_)
    intro h193_
    have h194_ := (h193_ h191_)
    have h195_ := (h192_ (la_leftOf_38 h130_ h149_))
    obtain ⟨h196_, ⟨h197_, ⟨h198_, ⟨h199_, h200_⟩⟩⟩⟩ := (h194_.resolve_left (la_leftOf_38 h130_ h149_))
    refine ⟨(la_leftOf_11 h148_ h157_), ?_⟩
    intro h201_
    refine ⟨(la_leftOf_21 h9_ h134_ h152_ h153_), ?_⟩
    refine ⟨?_, ?_⟩
    · skip
      refine ⟨(la_leftOf_22 h134_), ?_⟩
      refine ⟨(la_leftOf_42 h153_ h195_ h200_), ?_⟩
      intro h202_
      refine ⟨h196_, ?_⟩
      refine ⟨h149_, ?_⟩
      refine ⟨h13_, ?_⟩
      refine ⟨h191_, ?_⟩
      refine ⟨h200_, ?_⟩
      exact (la_leftOf_24 h153_ h195_)
    have e203_ : (if S 52 l4_34 = (-1) then 0 else S 1086 0 + 1 - S 51 (S 52 l4_34) : Int) = S 1086 0 + 1 - S 51 (S 52 l4_34) := if_neg (la_leftOf_40 h196_)
    have e204_ : (if l4_34 = (-1) then 0 else S 1086 0 + 1 - S 51 l4_34 : Int) = S 1086 0 + 1 - S 51 l4_34 := if_neg h147_
    exact (la_leftOf_41 h195_ e203_ e204_)
  intro h205_
  refine ⟨(la_leftOf_11 h148_ h157_), ?_⟩
  intro h206_
  intro h207_
  refine ⟨la_leftOf_25, ?_⟩
  intro h208_
  intro h209_
  refine ⟨la_leftOf_26, ?_⟩
  intro h210_
  refine ⟨(la_leftOf_43 h130_ h149_), ?_⟩
  intro h211_
  refine ⟨la_leftOf_27, ?_⟩
  intro h212_
  intro h213_
  refine ⟨la_leftOf_28, ?_⟩
  intro h214_
  exact la_leftOf_29
set_option maxRecDepth 8000 in
set_option maxHeartbeats 2000000 in
theorem t_leftOf : ∀ (p1 : Int) (S : sv_S), sm_ok S → sv_R p1 → (sm_PL (S 1100020) (S 51) (S 52) (S 46) (S 47) (S 1076 0) (S 1086 0) ∧ 0 ≤ (S 1076 0) ∧ (S 1076 0) ≤ 300 ∧ 0 ≤ (S 1084 0) ∧ (S 1084 0) ≤ 3000 ∧ 0 ≤ (S 1086 0) ∧ (S 1086 0) ≤ 2000000000 ∧ 0 ≤ p1 ∧ p1 < 9600 ∧ -1 ≤ (S 64 p1) ∧ (S 64 p1) < (S 1076 0)) → sv_T sm_XS sm_cs sm_L sm_sh 0 (q_leftOf p1 S) 165 0 (lv_args 0 [.ref 0, sv_I p1]) [] S := by
  intro p1 S hok hp1 hpre
  have h := f_leftOf p1 S hok hp1 hpre
  have hM := sm_h165
  show sv_T sm_XS sm_cs sm_L sm_sh 0 (q_leftOf p1 S) 165 0 [(0, .ref 0), (1, sv_I p1)] [] S
  refine sv_aload_n hM dX12_leftOf_0 rfl rfl ?_
  refine sv_getA hM dX12_leftOf_1 sm_fl_203 (sm_a0 _) sm_k104 rfl ?_
  refine sv_iload_n hM dX12_leftOf_4 rfl rfl ?_
  obtain ⟨o1, h⟩ := h
  have k2 : sv_R (S 64 p1) := sm_okI hok sm_r64 p1
  have h := h k2
  refine sv_iald hM dX12_leftOf_5 (sm_a64 _) (by decide) o1.1 o1.2 rfl (x := (S 64 p1)) rfl ?_
  refine sv_istore_n hM dX12_leftOf_6 (by decide) rfl ?_
  show sv_T sm_XS sm_cs sm_L sm_sh 0 (q_leftOf p1 S) 165 7 [(0, .ref 0), (1, sv_I p1), (2, sv_I (S 64 p1))] [] S
  refine sv_iconst (d := (0 : Int)) hM dX12_leftOf_7 rfl rfl ?_
  refine sv_istore_n hM dX12_leftOf_8 (by decide) rfl ?_
  show sv_T sm_XS sm_cs sm_L sm_sh 0 (q_leftOf p1 S) 165 9 [(0, .ref 0), (1, sv_I p1), (2, sv_I (S 64 p1)), (3, sv_I (0 : Int))] [] S
  refine sv_iload_n hM dX12_leftOf_9 rfl rfl ?_
  refine sv_iconst (d := (-1 : Int)) hM dX12_leftOf_10 rfl rfl ?_
  refine sv_icmp_ne hM dX12_leftOf_11 k2 (⟨by decide, by decide⟩ : sv_R (-1 : Int)) (t := 18) rfl rfl (fun hc => ?_) (fun hc => ?_)
  · have h := h.1 (hc)
    refine sv_aload_n hM dX12_leftOf_18 rfl rfl ?_
    have k3 : (sm_PL (S 1100020) (S 51) (S 52) (S 46) (S 47) (S 1076 0) (S 1086 0) → 0 ≤ (S 64 p1) → (S 64 p1) < (S 1076 0) → sm_PC (S 1100020) (S 51) (S 1086 0) ((S 64 p1)) ((S 46 (S 64 p1)))) := fun h a b => sm_PL_fi h (S 64 p1) a b
    have h := h k3
    have k4 : (sm_PC (S 1100020) (S 51) (S 1086 0) ((S 64 p1)) ((S 46 (S 64 p1))) → (S 46 (S 64 p1)) = -1 ∨ (0 ≤ (S 46 (S 64 p1)) ∧ (S 46 (S 64 p1)) < 3000 ∧ (S 1100020 (S 46 (S 64 p1))) = (S 64 p1) ∧ 0 < (S 51 (S 46 (S 64 p1))) ∧ (S 51 (S 46 (S 64 p1))) ≤ (S 1086 0))) := sm_PC_e
    have h := h k4
    refine sv_getA hM dX12_leftOf_19 sm_fl_149 (sm_a0 _) sm_k82 rfl ?_
    refine sv_iload_n hM dX12_leftOf_22 rfl rfl ?_
    obtain ⟨o5, h⟩ := h
    have k6 : sv_R (S 46 (S 64 p1)) := sm_okI hok sm_r46 (S 64 p1)
    have h := h k6
    refine sv_iald hM dX12_leftOf_23 (sm_a46 _) (by decide) o5.1 o5.2 rfl (x := (S 46 (S 64 p1))) rfl ?_
    refine sv_istore hM dX12_leftOf_24 (by decide) rfl ?_
    show sv_T sm_XS sm_cs sm_L sm_sh 0 (q_leftOf p1 S) 165 26 [(0, .ref 0), (1, sv_I p1), (2, sv_I (S 64 p1)), (3, sv_I (0 : Int)), (4, sv_I (S 46 (S 64 p1)))] [] S
    obtain ⟨hin10, h⟩ := h
    have hJ : ∀ a : Int × Int × Unit, (sv_R a.1 ∧ sv_R a.2.1 ∧ sm_ok S ∧ (0 ≤ a.1 ∧ (a.2.1 = -1 → a.1 ≤ (S 1086 0)) ∧ (¬ a.2.1 = -1 → 0 ≤ a.2.1 ∧ 0 ≤ (S 64 p1) ∧ (S 64 p1) < (S 1076 0) ∧ sm_PC (S 1100020) (S 51) (S 1086 0) ((S 64 p1)) (a.2.1) ∧ (S 51 a.2.1) ≤ (S 1086 0) ∧ a.1 < (S 51 a.2.1)))) → sv_T sm_XS sm_cs sm_L sm_sh 0 (q_leftOf p1 S) 165 26 [(0, .ref 0), (1, sv_I p1), (2, sv_I (S 64 p1)), (3, sv_I a.1), (4, sv_I a.2.1)] [] S := by
      refine sv_loop (α := Int × Int × Unit) (fun a => sv_R a.1 ∧ sv_R a.2.1 ∧ sm_ok S ∧ (0 ≤ a.1 ∧ (a.2.1 = -1 → a.1 ≤ (S 1086 0)) ∧ (¬ a.2.1 = -1 → 0 ≤ a.2.1 ∧ 0 ≤ (S 64 p1) ∧ (S 64 p1) < (S 1076 0) ∧ sm_PC (S 1100020) (S 51) (S 1086 0) ((S 64 p1)) (a.2.1) ∧ (S 51 a.2.1) ≤ (S 1086 0) ∧ a.1 < (S 51 a.2.1)))) (fun a => (if a.2.1 = -1 then 0 else (S 1086 0) + 1 - (S 51 a.2.1))) (fun a => sv_T sm_XS sm_cs sm_L sm_sh 0 (q_leftOf p1 S) 165 26 [(0, .ref 0), (1, sv_I p1), (2, sv_I (S 64 p1)), (3, sv_I a.1), (4, sv_I a.2.1)] [] S) (fun a q => (h a.1 q.1 a.2.1 q.2.1 q.2.2.2).1) (fun a q ih9 => ?_)
      obtain ⟨l3_7, l4_8, _u⟩ := a
      obtain ⟨hl3_7, hl4_8, ok11, hin10i⟩ := q
      have h := (h l3_7 hl3_7 l4_8 hl4_8 hin10i).2
      show sv_T sm_XS sm_cs sm_L sm_sh 0 (q_leftOf p1 S) 165 26 [(0, .ref 0), (1, sv_I p1), (2, sv_I (S 64 p1)), (3, sv_I l3_7), (4, sv_I l4_8)] [] S
      refine sv_iload hM dX12_leftOf_26 rfl rfl ?_
      refine sv_iconst (d := (-1 : Int)) hM dX12_leftOf_28 rfl rfl ?_
      refine sv_icmp_eq hM dX12_leftOf_29 hl4_8 (⟨by decide, by decide⟩ : sv_R (-1 : Int)) (t := 116) rfl rfl (fun hc => ?_) (fun hc => ?_)
      · have h := h.1 (hc)
        refine sv_iload_n hM dX12_leftOf_116 rfl rfl ?_
        exact sv_iret hM dX12_leftOf_117 rfl rfl ⟨l3_7, rfl, hl3_7, ok11, sv_mod.rf, h⟩
      · have h := h.2 (hc)
        have k12 : (sm_PC (S 1100020) (S 51) (S 1086 0) ((S 64 p1)) (l4_8) → l4_8 = -1 ∨ (0 ≤ l4_8 ∧ l4_8 < 3000 ∧ (S 1100020 l4_8) = (S 64 p1) ∧ 0 < (S 51 l4_8) ∧ (S 51 l4_8) ≤ (S 1086 0))) := sm_PC_e
        have h := h k12
        have J25 : ∀ s13 : Int, sv_R s13 → (s13 = 0 ∨ s13 = 1) → sv_T sm_XS sm_cs sm_L sm_sh 0 (q_leftOf p1 S) 165 89 [(0, .ref 0), (1, sv_I p1), (2, sv_I (S 64 p1)), (3, sv_I l3_7), (4, sv_I l4_8)] [sv_I s13] S := by
          intro s13 hs13 hin14
          have h := h.1 s13 hs13 hin14
          refine sv_istore hM dX12_leftOf_89 (by decide) rfl ?_
          show sv_T sm_XS sm_cs sm_L sm_sh 0 (q_leftOf p1 S) 165 91 [(0, .ref 0), (1, sv_I p1), (2, sv_I (S 64 p1)), (3, sv_I l3_7), (4, sv_I l4_8), (5, sv_I s13)] [] S
          refine sv_iload_n hM dX12_leftOf_91 rfl rfl ?_
          refine sv_iload hM dX12_leftOf_92 rfl rfl ?_
          refine sv_cond_eq hM dX12_leftOf_94 hs13 (t := 101) rfl rfl (fun hc => ?_) (fun hc => ?_)
          · have h := h.1 (hc)
            refine sv_iconst (d := (0 : Int)) hM dX12_leftOf_101 rfl rfl ?_
            refine sv_iadd hM dX12_leftOf_102 rfl ?_
            refine sv_istore_n hM dX12_leftOf_103 (by decide) rfl ?_
            show sv_T sm_XS sm_cs sm_L sm_sh 0 (q_leftOf p1 S) 165 104 [(0, .ref 0), (1, sv_I p1), (2, sv_I (S 64 p1)), (3, sv_I (l3_7 + (0 : Int))), (4, sv_I l4_8), (5, sv_I s13)] [] S
            have k15 : (sm_PL (S 1100020) (S 51) (S 52) (S 46) (S 47) (S 1076 0) (S 1086 0) → 0 ≤ l4_8 → l4_8 < 3000 → (S 1100020 l4_8) = (S 64 p1) → 0 ≤ (S 64 p1) → sm_PC (S 1100020) (S 51) (S 1086 0) ((S 64 p1)) ((S 52 l4_8)) ∧ (¬ (S 52 l4_8) = -1 → (S 51 l4_8) < (S 51 (S 52 l4_8)))) := fun h a b c d => sm_PL_ne h _ a b c d
            have h := h k15
            have k16 : (sm_PC (S 1100020) (S 51) (S 1086 0) ((S 64 p1)) ((S 52 l4_8)) → (S 52 l4_8) = -1 ∨ (0 ≤ (S 52 l4_8) ∧ (S 52 l4_8) < 3000 ∧ (S 1100020 (S 52 l4_8)) = (S 64 p1) ∧ 0 < (S 51 (S 52 l4_8)) ∧ (S 51 (S 52 l4_8)) ≤ (S 1086 0))) := sm_PC_e
            have h := h k16
            refine sv_aload_n hM dX12_leftOf_104 rfl rfl ?_
            refine sv_getA hM dX12_leftOf_105 sm_fl_167 (sm_a0 _) sm_k91 rfl ?_
            refine sv_iload hM dX12_leftOf_108 rfl rfl ?_
            obtain ⟨o17, h⟩ := h
            have k18 : sv_R (S 52 l4_8) := sm_okI ok11 sm_r52 l4_8
            have h := h k18
            refine sv_iald hM dX12_leftOf_110 (sm_a52 _) (by decide) o17.1 o17.2 rfl (x := (S 52 l4_8)) rfl ?_
            refine sv_istore hM dX12_leftOf_111 (by decide) rfl ?_
            show sv_T sm_XS sm_cs sm_L sm_sh 0 (q_leftOf p1 S) 165 113 [(0, .ref 0), (1, sv_I p1), (2, sv_I (S 64 p1)), (3, sv_I (l3_7 + (0 : Int))), (4, sv_I (S 52 l4_8)), (5, sv_I s13)] [] S
            refine sv_goto hM dX12_leftOf_113 (pc' := 26) rfl ?_
            obtain ⟨o19, h⟩ := h
            have hb := ih9 ((l3_7 + (0 : Int)), (S 52 l4_8), ()) ⟨o19, k18, ok11, h.1⟩ h.2
            exact sv_less (lv := [(0, .ref 0), (1, sv_I p1), (2, sv_I (S 64 p1)), (3, sv_I (l3_7 + (0 : Int))), (4, sv_I (S 52 l4_8))]) (sv_Sub_cons rfl (sv_Sub_cons rfl (sv_Sub_cons rfl (sv_Sub_cons rfl (sv_Sub_cons rfl sv_Sub_nil))))) hb
          · have h := h.2 (hc)
            refine sv_iconst (d := (1 : Int)) hM dX12_leftOf_97 rfl rfl ?_
            refine sv_goto hM dX12_leftOf_98 (pc' := 102) rfl ?_
            refine sv_iadd hM dX12_leftOf_102 rfl ?_
            refine sv_istore_n hM dX12_leftOf_103 (by decide) rfl ?_
            show sv_T sm_XS sm_cs sm_L sm_sh 0 (q_leftOf p1 S) 165 104 [(0, .ref 0), (1, sv_I p1), (2, sv_I (S 64 p1)), (3, sv_I (l3_7 + (1 : Int))), (4, sv_I l4_8), (5, sv_I s13)] [] S
            have k20 : (sm_PL (S 1100020) (S 51) (S 52) (S 46) (S 47) (S 1076 0) (S 1086 0) → 0 ≤ l4_8 → l4_8 < 3000 → (S 1100020 l4_8) = (S 64 p1) → 0 ≤ (S 64 p1) → sm_PC (S 1100020) (S 51) (S 1086 0) ((S 64 p1)) ((S 52 l4_8)) ∧ (¬ (S 52 l4_8) = -1 → (S 51 l4_8) < (S 51 (S 52 l4_8)))) := fun h a b c d => sm_PL_ne h _ a b c d
            have h := h k20
            have k21 : (sm_PC (S 1100020) (S 51) (S 1086 0) ((S 64 p1)) ((S 52 l4_8)) → (S 52 l4_8) = -1 ∨ (0 ≤ (S 52 l4_8) ∧ (S 52 l4_8) < 3000 ∧ (S 1100020 (S 52 l4_8)) = (S 64 p1) ∧ 0 < (S 51 (S 52 l4_8)) ∧ (S 51 (S 52 l4_8)) ≤ (S 1086 0))) := sm_PC_e
            have h := h k21
            refine sv_aload_n hM dX12_leftOf_104 rfl rfl ?_
            refine sv_getA hM dX12_leftOf_105 sm_fl_167 (sm_a0 _) sm_k91 rfl ?_
            refine sv_iload hM dX12_leftOf_108 rfl rfl ?_
            obtain ⟨o22, h⟩ := h
            have k23 : sv_R (S 52 l4_8) := sm_okI ok11 sm_r52 l4_8
            have h := h k23
            refine sv_iald hM dX12_leftOf_110 (sm_a52 _) (by decide) o22.1 o22.2 rfl (x := (S 52 l4_8)) rfl ?_
            refine sv_istore hM dX12_leftOf_111 (by decide) rfl ?_
            show sv_T sm_XS sm_cs sm_L sm_sh 0 (q_leftOf p1 S) 165 113 [(0, .ref 0), (1, sv_I p1), (2, sv_I (S 64 p1)), (3, sv_I (l3_7 + (1 : Int))), (4, sv_I (S 52 l4_8)), (5, sv_I s13)] [] S
            refine sv_goto hM dX12_leftOf_113 (pc' := 26) rfl ?_
            obtain ⟨o24, h⟩ := h
            have hb := ih9 ((l3_7 + (1 : Int)), (S 52 l4_8), ()) ⟨o24, k23, ok11, h.1⟩ h.2
            exact sv_less (lv := [(0, .ref 0), (1, sv_I p1), (2, sv_I (S 64 p1)), (3, sv_I (l3_7 + (1 : Int))), (4, sv_I (S 52 l4_8))]) (sv_Sub_cons rfl (sv_Sub_cons rfl (sv_Sub_cons rfl (sv_Sub_cons rfl (sv_Sub_cons rfl sv_Sub_nil))))) hb
        have h := h.2
        have k26 : (sm_PC (S 1100020) (S 51) (S 1086 0) ((S 64 p1)) (l4_8) → l4_8 = -1 ∨ (0 ≤ l4_8 ∧ l4_8 < 3000 ∧ (S 1100020 l4_8) = (S 64 p1) ∧ 0 < (S 51 l4_8) ∧ (S 51 l4_8) ≤ (S 1086 0))) := sm_PC_e
        have h := h k26
        refine sv_aload_n hM dX12_leftOf_32 rfl rfl ?_
        refine sv_getA hM dX12_leftOf_33 sm_fl_164 (sm_a0 _) sm_k90 rfl ?_
        refine sv_iload hM dX12_leftOf_36 rfl rfl ?_
        obtain ⟨o27, h⟩ := h
        have k28 : sv_R (S 51 l4_8) := sm_okI ok11 sm_r51 l4_8
        have h := h k28
        refine sv_iald hM dX12_leftOf_38 (sm_a51 _) (by decide) o27.1 o27.2 rfl (x := (S 51 l4_8)) rfl ?_
        refine sv_aload_n hM dX12_leftOf_39 rfl rfl ?_
        refine sv_getA hM dX12_leftOf_40 sm_fl_206 (sm_a0 _) sm_k105 rfl ?_
        refine sv_iload_n hM dX12_leftOf_43 rfl rfl ?_
        have k29 : sv_R (S 65 p1) := sm_okI ok11 sm_r65 p1
        have h := h k29
        refine sv_iald hM dX12_leftOf_44 (sm_a65 _) (by decide) o1.1 o1.2 rfl (x := (S 65 p1)) rfl ?_
        refine sv_icmp_le hM dX12_leftOf_45 k28 k29 (t := 88) rfl rfl (fun hc => ?_) (fun hc => ?_)
        · have h := h.1 (hc)
          refine sv_iconst (d := (0 : Int)) hM dX12_leftOf_88 rfl rfl ?_
          have hb := J25 (0 : Int) (⟨by decide, by decide⟩ : sv_R (0 : Int)) h
          exact sv_less (lv := [(0, .ref 0), (1, sv_I p1), (2, sv_I (S 64 p1)), (3, sv_I l3_7), (4, sv_I l4_8)]) (sv_Sub_cons rfl (sv_Sub_cons rfl (sv_Sub_cons rfl (sv_Sub_cons rfl (sv_Sub_cons rfl sv_Sub_nil))))) hb
        · have h := h.2 (hc)
          refine sv_aload_n hM dX12_leftOf_48 rfl rfl ?_
          refine sv_getA hM dX12_leftOf_49 sm_fl_164 (sm_a0 _) sm_k90 rfl ?_
          refine sv_iload hM dX12_leftOf_52 rfl rfl ?_
          refine sv_iald hM dX12_leftOf_54 (sm_a51 _) (by decide) o27.1 o27.2 rfl (x := (S 51 l4_8)) rfl ?_
          refine sv_aload_n hM dX12_leftOf_55 rfl rfl ?_
          refine sv_getA hM dX12_leftOf_56 sm_fl_209 (sm_a0 _) sm_k106 rfl ?_
          refine sv_iload_n hM dX12_leftOf_59 rfl rfl ?_
          have k30 : sv_R (S 66 p1) := sm_okI ok11 sm_r66 p1
          have h := h k30
          refine sv_iald hM dX12_leftOf_60 (sm_a66 _) (by decide) o1.1 o1.2 rfl (x := (S 66 p1)) rfl ?_
          refine sv_icmp_gt hM dX12_leftOf_61 k28 k30 (t := 88) rfl rfl (fun hc => ?_) (fun hc => ?_)
          · have h := h.1 (hc)
            refine sv_iconst (d := (0 : Int)) hM dX12_leftOf_88 rfl rfl ?_
            have hb := J25 (0 : Int) (⟨by decide, by decide⟩ : sv_R (0 : Int)) h
            exact sv_less (lv := [(0, .ref 0), (1, sv_I p1), (2, sv_I (S 64 p1)), (3, sv_I l3_7), (4, sv_I l4_8)]) (sv_Sub_cons rfl (sv_Sub_cons rfl (sv_Sub_cons rfl (sv_Sub_cons rfl (sv_Sub_cons rfl sv_Sub_nil))))) hb
          · have h := h.2 (hc)
            refine sv_aload_n hM dX12_leftOf_64 rfl rfl ?_
            refine sv_getA hM dX12_leftOf_65 sm_fl_143 (sm_a0 _) sm_k80 rfl ?_
            refine sv_iload_n hM dX12_leftOf_68 rfl rfl ?_
            have k31 : sv_R (S 44 (S 64 p1)) := sm_okI ok11 sm_r44 (S 64 p1)
            have h := h k31
            refine sv_iald hM dX12_leftOf_69 (sm_a44 _) (by decide) o5.1 o5.2 rfl (x := (S 44 (S 64 p1))) rfl ?_
            refine sv_iconst (d := (2 : Int)) hM dX12_leftOf_70 rfl rfl ?_
            refine sv_icmp_ne hM dX12_leftOf_71 k31 (⟨by decide, by decide⟩ : sv_R (2 : Int)) (t := 84) rfl rfl (fun hc => ?_) (fun hc => ?_)
            · have h := h.1 (hc)
              refine sv_iconst (d := (1 : Int)) hM dX12_leftOf_84 rfl rfl ?_
              refine sv_goto hM dX12_leftOf_85 (pc' := 89) rfl ?_
              have hb := J25 (1 : Int) (⟨by decide, by decide⟩ : sv_R (1 : Int)) h
              exact sv_less (lv := [(0, .ref 0), (1, sv_I p1), (2, sv_I (S 64 p1)), (3, sv_I l3_7), (4, sv_I l4_8)]) (sv_Sub_cons rfl (sv_Sub_cons rfl (sv_Sub_cons rfl (sv_Sub_cons rfl (sv_Sub_cons rfl sv_Sub_nil))))) hb
            · have h := h.2 (hc)
              refine sv_aload_n hM dX12_leftOf_74 rfl rfl ?_
              refine sv_getA hM dX12_leftOf_75 sm_fl_155 (sm_a0 _) sm_k87 rfl ?_
              refine sv_iload hM dX12_leftOf_78 rfl rfl ?_
              have k32 : sv_R (S 48 l4_8) := sm_okI ok11 sm_r48 l4_8
              have h := h k32
              refine sv_iald hM dX12_leftOf_80 (sm_a48 _) (by decide) o27.1 o27.2 rfl (x := (S 48 l4_8)) rfl ?_
              refine sv_cond_eq hM dX12_leftOf_81 k32 (t := 88) rfl rfl (fun hc => ?_) (fun hc => ?_)
              · have h := h.1 (hc)
                refine sv_iconst (d := (0 : Int)) hM dX12_leftOf_88 rfl rfl ?_
                have hb := J25 (0 : Int) (⟨by decide, by decide⟩ : sv_R (0 : Int)) h
                exact sv_less (lv := [(0, .ref 0), (1, sv_I p1), (2, sv_I (S 64 p1)), (3, sv_I l3_7), (4, sv_I l4_8)]) (sv_Sub_cons rfl (sv_Sub_cons rfl (sv_Sub_cons rfl (sv_Sub_cons rfl (sv_Sub_cons rfl sv_Sub_nil))))) hb
              · have h := h.2 (hc)
                refine sv_iconst (d := (1 : Int)) hM dX12_leftOf_84 rfl rfl ?_
                refine sv_goto hM dX12_leftOf_85 (pc' := 89) rfl ?_
                have hb := J25 (1 : Int) (⟨by decide, by decide⟩ : sv_R (1 : Int)) h
                exact sv_less (lv := [(0, .ref 0), (1, sv_I p1), (2, sv_I (S 64 p1)), (3, sv_I l3_7), (4, sv_I l4_8)]) (sv_Sub_cons rfl (sv_Sub_cons rfl (sv_Sub_cons rfl (sv_Sub_cons rfl (sv_Sub_cons rfl sv_Sub_nil))))) hb
    exact hJ ((0 : Int), (S 46 (S 64 p1)), ()) ⟨(⟨by decide, by decide⟩ : sv_R (0 : Int)), k6, hok, hin10⟩
  · have h := h.2 (hc)
    refine sv_iconst (d := (-1 : Int)) hM dX12_leftOf_14 rfl rfl ?_
    refine sv_goto hM dX12_leftOf_15 (pc' := 24) rfl ?_
    refine sv_istore hM dX12_leftOf_24 (by decide) rfl ?_
    show sv_T sm_XS sm_cs sm_L sm_sh 0 (q_leftOf p1 S) 165 26 [(0, .ref 0), (1, sv_I p1), (2, sv_I (S 64 p1)), (3, sv_I (0 : Int)), (4, sv_I (-1 : Int))] [] S
    obtain ⟨hin36, h⟩ := h
    have hJ : ∀ a : Int × Int × Unit, (sv_R a.1 ∧ sv_R a.2.1 ∧ sm_ok S ∧ (0 ≤ a.1 ∧ (a.2.1 = -1 → a.1 ≤ (S 1086 0)) ∧ (¬ a.2.1 = -1 → 0 ≤ a.2.1 ∧ 0 ≤ (S 64 p1) ∧ (S 64 p1) < (S 1076 0) ∧ sm_PC (S 1100020) (S 51) (S 1086 0) ((S 64 p1)) (a.2.1) ∧ (S 51 a.2.1) ≤ (S 1086 0) ∧ a.1 < (S 51 a.2.1)))) → sv_T sm_XS sm_cs sm_L sm_sh 0 (q_leftOf p1 S) 165 26 [(0, .ref 0), (1, sv_I p1), (2, sv_I (S 64 p1)), (3, sv_I a.1), (4, sv_I a.2.1)] [] S := by
      refine sv_loop (α := Int × Int × Unit) (fun a => sv_R a.1 ∧ sv_R a.2.1 ∧ sm_ok S ∧ (0 ≤ a.1 ∧ (a.2.1 = -1 → a.1 ≤ (S 1086 0)) ∧ (¬ a.2.1 = -1 → 0 ≤ a.2.1 ∧ 0 ≤ (S 64 p1) ∧ (S 64 p1) < (S 1076 0) ∧ sm_PC (S 1100020) (S 51) (S 1086 0) ((S 64 p1)) (a.2.1) ∧ (S 51 a.2.1) ≤ (S 1086 0) ∧ a.1 < (S 51 a.2.1)))) (fun a => (if a.2.1 = -1 then 0 else (S 1086 0) + 1 - (S 51 a.2.1))) (fun a => sv_T sm_XS sm_cs sm_L sm_sh 0 (q_leftOf p1 S) 165 26 [(0, .ref 0), (1, sv_I p1), (2, sv_I (S 64 p1)), (3, sv_I a.1), (4, sv_I a.2.1)] [] S) (fun a q => (h a.1 q.1 a.2.1 q.2.1 q.2.2.2).1) (fun a q ih35 => ?_)
      obtain ⟨l3_33, l4_34, _u⟩ := a
      obtain ⟨hl3_33, hl4_34, ok37, hin36i⟩ := q
      have h := (h l3_33 hl3_33 l4_34 hl4_34 hin36i).2
      show sv_T sm_XS sm_cs sm_L sm_sh 0 (q_leftOf p1 S) 165 26 [(0, .ref 0), (1, sv_I p1), (2, sv_I (S 64 p1)), (3, sv_I l3_33), (4, sv_I l4_34)] [] S
      refine sv_iload hM dX12_leftOf_26 rfl rfl ?_
      refine sv_iconst (d := (-1 : Int)) hM dX12_leftOf_28 rfl rfl ?_
      refine sv_icmp_eq hM dX12_leftOf_29 hl4_34 (⟨by decide, by decide⟩ : sv_R (-1 : Int)) (t := 116) rfl rfl (fun hc => ?_) (fun hc => ?_)
      · have h := h.1 (hc)
        refine sv_iload_n hM dX12_leftOf_116 rfl rfl ?_
        exact sv_iret hM dX12_leftOf_117 rfl rfl ⟨l3_33, rfl, hl3_33, ok37, sv_mod.rf, h⟩
      · have h := h.2 (hc)
        have k38 : (sm_PC (S 1100020) (S 51) (S 1086 0) ((S 64 p1)) (l4_34) → l4_34 = -1 ∨ (0 ≤ l4_34 ∧ l4_34 < 3000 ∧ (S 1100020 l4_34) = (S 64 p1) ∧ 0 < (S 51 l4_34) ∧ (S 51 l4_34) ≤ (S 1086 0))) := sm_PC_e
        have h := h k38
        have J51 : ∀ s39 : Int, sv_R s39 → (s39 = 0 ∨ s39 = 1) → sv_T sm_XS sm_cs sm_L sm_sh 0 (q_leftOf p1 S) 165 89 [(0, .ref 0), (1, sv_I p1), (2, sv_I (S 64 p1)), (3, sv_I l3_33), (4, sv_I l4_34)] [sv_I s39] S := by
          intro s39 hs39 hin40
          have h := h.1 s39 hs39 hin40
          refine sv_istore hM dX12_leftOf_89 (by decide) rfl ?_
          show sv_T sm_XS sm_cs sm_L sm_sh 0 (q_leftOf p1 S) 165 91 [(0, .ref 0), (1, sv_I p1), (2, sv_I (S 64 p1)), (3, sv_I l3_33), (4, sv_I l4_34), (5, sv_I s39)] [] S
          refine sv_iload_n hM dX12_leftOf_91 rfl rfl ?_
          refine sv_iload hM dX12_leftOf_92 rfl rfl ?_
          refine sv_cond_eq hM dX12_leftOf_94 hs39 (t := 101) rfl rfl (fun hc => ?_) (fun hc => ?_)
          · have h := h.1 (hc)
            refine sv_iconst (d := (0 : Int)) hM dX12_leftOf_101 rfl rfl ?_
            refine sv_iadd hM dX12_leftOf_102 rfl ?_
            refine sv_istore_n hM dX12_leftOf_103 (by decide) rfl ?_
            show sv_T sm_XS sm_cs sm_L sm_sh 0 (q_leftOf p1 S) 165 104 [(0, .ref 0), (1, sv_I p1), (2, sv_I (S 64 p1)), (3, sv_I (l3_33 + (0 : Int))), (4, sv_I l4_34), (5, sv_I s39)] [] S
            have k41 : (sm_PL (S 1100020) (S 51) (S 52) (S 46) (S 47) (S 1076 0) (S 1086 0) → 0 ≤ l4_34 → l4_34 < 3000 → (S 1100020 l4_34) = (S 64 p1) → 0 ≤ (S 64 p1) → sm_PC (S 1100020) (S 51) (S 1086 0) ((S 64 p1)) ((S 52 l4_34)) ∧ (¬ (S 52 l4_34) = -1 → (S 51 l4_34) < (S 51 (S 52 l4_34)))) := fun h a b c d => sm_PL_ne h _ a b c d
            have h := h k41
            have k42 : (sm_PC (S 1100020) (S 51) (S 1086 0) ((S 64 p1)) ((S 52 l4_34)) → (S 52 l4_34) = -1 ∨ (0 ≤ (S 52 l4_34) ∧ (S 52 l4_34) < 3000 ∧ (S 1100020 (S 52 l4_34)) = (S 64 p1) ∧ 0 < (S 51 (S 52 l4_34)) ∧ (S 51 (S 52 l4_34)) ≤ (S 1086 0))) := sm_PC_e
            have h := h k42
            refine sv_aload_n hM dX12_leftOf_104 rfl rfl ?_
            refine sv_getA hM dX12_leftOf_105 sm_fl_167 (sm_a0 _) sm_k91 rfl ?_
            refine sv_iload hM dX12_leftOf_108 rfl rfl ?_
            obtain ⟨o43, h⟩ := h
            have k44 : sv_R (S 52 l4_34) := sm_okI ok37 sm_r52 l4_34
            have h := h k44
            refine sv_iald hM dX12_leftOf_110 (sm_a52 _) (by decide) o43.1 o43.2 rfl (x := (S 52 l4_34)) rfl ?_
            refine sv_istore hM dX12_leftOf_111 (by decide) rfl ?_
            show sv_T sm_XS sm_cs sm_L sm_sh 0 (q_leftOf p1 S) 165 113 [(0, .ref 0), (1, sv_I p1), (2, sv_I (S 64 p1)), (3, sv_I (l3_33 + (0 : Int))), (4, sv_I (S 52 l4_34)), (5, sv_I s39)] [] S
            refine sv_goto hM dX12_leftOf_113 (pc' := 26) rfl ?_
            obtain ⟨o45, h⟩ := h
            have hb := ih35 ((l3_33 + (0 : Int)), (S 52 l4_34), ()) ⟨o45, k44, ok37, h.1⟩ h.2
            exact sv_less (lv := [(0, .ref 0), (1, sv_I p1), (2, sv_I (S 64 p1)), (3, sv_I (l3_33 + (0 : Int))), (4, sv_I (S 52 l4_34))]) (sv_Sub_cons rfl (sv_Sub_cons rfl (sv_Sub_cons rfl (sv_Sub_cons rfl (sv_Sub_cons rfl sv_Sub_nil))))) hb
          · have h := h.2 (hc)
            refine sv_iconst (d := (1 : Int)) hM dX12_leftOf_97 rfl rfl ?_
            refine sv_goto hM dX12_leftOf_98 (pc' := 102) rfl ?_
            refine sv_iadd hM dX12_leftOf_102 rfl ?_
            refine sv_istore_n hM dX12_leftOf_103 (by decide) rfl ?_
            show sv_T sm_XS sm_cs sm_L sm_sh 0 (q_leftOf p1 S) 165 104 [(0, .ref 0), (1, sv_I p1), (2, sv_I (S 64 p1)), (3, sv_I (l3_33 + (1 : Int))), (4, sv_I l4_34), (5, sv_I s39)] [] S
            have k46 : (sm_PL (S 1100020) (S 51) (S 52) (S 46) (S 47) (S 1076 0) (S 1086 0) → 0 ≤ l4_34 → l4_34 < 3000 → (S 1100020 l4_34) = (S 64 p1) → 0 ≤ (S 64 p1) → sm_PC (S 1100020) (S 51) (S 1086 0) ((S 64 p1)) ((S 52 l4_34)) ∧ (¬ (S 52 l4_34) = -1 → (S 51 l4_34) < (S 51 (S 52 l4_34)))) := fun h a b c d => sm_PL_ne h _ a b c d
            have h := h k46
            have k47 : (sm_PC (S 1100020) (S 51) (S 1086 0) ((S 64 p1)) ((S 52 l4_34)) → (S 52 l4_34) = -1 ∨ (0 ≤ (S 52 l4_34) ∧ (S 52 l4_34) < 3000 ∧ (S 1100020 (S 52 l4_34)) = (S 64 p1) ∧ 0 < (S 51 (S 52 l4_34)) ∧ (S 51 (S 52 l4_34)) ≤ (S 1086 0))) := sm_PC_e
            have h := h k47
            refine sv_aload_n hM dX12_leftOf_104 rfl rfl ?_
            refine sv_getA hM dX12_leftOf_105 sm_fl_167 (sm_a0 _) sm_k91 rfl ?_
            refine sv_iload hM dX12_leftOf_108 rfl rfl ?_
            obtain ⟨o48, h⟩ := h
            have k49 : sv_R (S 52 l4_34) := sm_okI ok37 sm_r52 l4_34
            have h := h k49
            refine sv_iald hM dX12_leftOf_110 (sm_a52 _) (by decide) o48.1 o48.2 rfl (x := (S 52 l4_34)) rfl ?_
            refine sv_istore hM dX12_leftOf_111 (by decide) rfl ?_
            show sv_T sm_XS sm_cs sm_L sm_sh 0 (q_leftOf p1 S) 165 113 [(0, .ref 0), (1, sv_I p1), (2, sv_I (S 64 p1)), (3, sv_I (l3_33 + (1 : Int))), (4, sv_I (S 52 l4_34)), (5, sv_I s39)] [] S
            refine sv_goto hM dX12_leftOf_113 (pc' := 26) rfl ?_
            obtain ⟨o50, h⟩ := h
            have hb := ih35 ((l3_33 + (1 : Int)), (S 52 l4_34), ()) ⟨o50, k49, ok37, h.1⟩ h.2
            exact sv_less (lv := [(0, .ref 0), (1, sv_I p1), (2, sv_I (S 64 p1)), (3, sv_I (l3_33 + (1 : Int))), (4, sv_I (S 52 l4_34))]) (sv_Sub_cons rfl (sv_Sub_cons rfl (sv_Sub_cons rfl (sv_Sub_cons rfl (sv_Sub_cons rfl sv_Sub_nil))))) hb
        have h := h.2
        have k52 : (sm_PC (S 1100020) (S 51) (S 1086 0) ((S 64 p1)) (l4_34) → l4_34 = -1 ∨ (0 ≤ l4_34 ∧ l4_34 < 3000 ∧ (S 1100020 l4_34) = (S 64 p1) ∧ 0 < (S 51 l4_34) ∧ (S 51 l4_34) ≤ (S 1086 0))) := sm_PC_e
        have h := h k52
        refine sv_aload_n hM dX12_leftOf_32 rfl rfl ?_
        refine sv_getA hM dX12_leftOf_33 sm_fl_164 (sm_a0 _) sm_k90 rfl ?_
        refine sv_iload hM dX12_leftOf_36 rfl rfl ?_
        obtain ⟨o53, h⟩ := h
        have k54 : sv_R (S 51 l4_34) := sm_okI ok37 sm_r51 l4_34
        have h := h k54
        refine sv_iald hM dX12_leftOf_38 (sm_a51 _) (by decide) o53.1 o53.2 rfl (x := (S 51 l4_34)) rfl ?_
        refine sv_aload_n hM dX12_leftOf_39 rfl rfl ?_
        refine sv_getA hM dX12_leftOf_40 sm_fl_206 (sm_a0 _) sm_k105 rfl ?_
        refine sv_iload_n hM dX12_leftOf_43 rfl rfl ?_
        have k55 : sv_R (S 65 p1) := sm_okI ok37 sm_r65 p1
        have h := h k55
        refine sv_iald hM dX12_leftOf_44 (sm_a65 _) (by decide) o1.1 o1.2 rfl (x := (S 65 p1)) rfl ?_
        refine sv_icmp_le hM dX12_leftOf_45 k54 k55 (t := 88) rfl rfl (fun hc => ?_) (fun hc => ?_)
        · have h := h.1 (hc)
          refine sv_iconst (d := (0 : Int)) hM dX12_leftOf_88 rfl rfl ?_
          have hb := J51 (0 : Int) (⟨by decide, by decide⟩ : sv_R (0 : Int)) h
          exact sv_less (lv := [(0, .ref 0), (1, sv_I p1), (2, sv_I (S 64 p1)), (3, sv_I l3_33), (4, sv_I l4_34)]) (sv_Sub_cons rfl (sv_Sub_cons rfl (sv_Sub_cons rfl (sv_Sub_cons rfl (sv_Sub_cons rfl sv_Sub_nil))))) hb
        · have h := h.2 (hc)
          refine sv_aload_n hM dX12_leftOf_48 rfl rfl ?_
          refine sv_getA hM dX12_leftOf_49 sm_fl_164 (sm_a0 _) sm_k90 rfl ?_
          refine sv_iload hM dX12_leftOf_52 rfl rfl ?_
          refine sv_iald hM dX12_leftOf_54 (sm_a51 _) (by decide) o53.1 o53.2 rfl (x := (S 51 l4_34)) rfl ?_
          refine sv_aload_n hM dX12_leftOf_55 rfl rfl ?_
          refine sv_getA hM dX12_leftOf_56 sm_fl_209 (sm_a0 _) sm_k106 rfl ?_
          refine sv_iload_n hM dX12_leftOf_59 rfl rfl ?_
          have k56 : sv_R (S 66 p1) := sm_okI ok37 sm_r66 p1
          have h := h k56
          refine sv_iald hM dX12_leftOf_60 (sm_a66 _) (by decide) o1.1 o1.2 rfl (x := (S 66 p1)) rfl ?_
          refine sv_icmp_gt hM dX12_leftOf_61 k54 k56 (t := 88) rfl rfl (fun hc => ?_) (fun hc => ?_)
          · have h := h.1 (hc)
            refine sv_iconst (d := (0 : Int)) hM dX12_leftOf_88 rfl rfl ?_
            have hb := J51 (0 : Int) (⟨by decide, by decide⟩ : sv_R (0 : Int)) h
            exact sv_less (lv := [(0, .ref 0), (1, sv_I p1), (2, sv_I (S 64 p1)), (3, sv_I l3_33), (4, sv_I l4_34)]) (sv_Sub_cons rfl (sv_Sub_cons rfl (sv_Sub_cons rfl (sv_Sub_cons rfl (sv_Sub_cons rfl sv_Sub_nil))))) hb
          · have h := h.2 (hc)
            refine sv_aload_n hM dX12_leftOf_64 rfl rfl ?_
            refine sv_getA hM dX12_leftOf_65 sm_fl_143 (sm_a0 _) sm_k80 rfl ?_
            refine sv_iload_n hM dX12_leftOf_68 rfl rfl ?_
            obtain ⟨o57, h⟩ := h
            have k58 : sv_R (S 44 (S 64 p1)) := sm_okI ok37 sm_r44 (S 64 p1)
            have h := h k58
            refine sv_iald hM dX12_leftOf_69 (sm_a44 _) (by decide) o57.1 o57.2 rfl (x := (S 44 (S 64 p1))) rfl ?_
            refine sv_iconst (d := (2 : Int)) hM dX12_leftOf_70 rfl rfl ?_
            refine sv_icmp_ne hM dX12_leftOf_71 k58 (⟨by decide, by decide⟩ : sv_R (2 : Int)) (t := 84) rfl rfl (fun hc => ?_) (fun hc => ?_)
            · have h := h.1 (hc)
              refine sv_iconst (d := (1 : Int)) hM dX12_leftOf_84 rfl rfl ?_
              refine sv_goto hM dX12_leftOf_85 (pc' := 89) rfl ?_
              have hb := J51 (1 : Int) (⟨by decide, by decide⟩ : sv_R (1 : Int)) h
              exact sv_less (lv := [(0, .ref 0), (1, sv_I p1), (2, sv_I (S 64 p1)), (3, sv_I l3_33), (4, sv_I l4_34)]) (sv_Sub_cons rfl (sv_Sub_cons rfl (sv_Sub_cons rfl (sv_Sub_cons rfl (sv_Sub_cons rfl sv_Sub_nil))))) hb
            · have h := h.2 (hc)
              refine sv_aload_n hM dX12_leftOf_74 rfl rfl ?_
              refine sv_getA hM dX12_leftOf_75 sm_fl_155 (sm_a0 _) sm_k87 rfl ?_
              refine sv_iload hM dX12_leftOf_78 rfl rfl ?_
              have k59 : sv_R (S 48 l4_34) := sm_okI ok37 sm_r48 l4_34
              have h := h k59
              refine sv_iald hM dX12_leftOf_80 (sm_a48 _) (by decide) o53.1 o53.2 rfl (x := (S 48 l4_34)) rfl ?_
              refine sv_cond_eq hM dX12_leftOf_81 k59 (t := 88) rfl rfl (fun hc => ?_) (fun hc => ?_)
              · have h := h.1 (hc)
                refine sv_iconst (d := (0 : Int)) hM dX12_leftOf_88 rfl rfl ?_
                have hb := J51 (0 : Int) (⟨by decide, by decide⟩ : sv_R (0 : Int)) h
                exact sv_less (lv := [(0, .ref 0), (1, sv_I p1), (2, sv_I (S 64 p1)), (3, sv_I l3_33), (4, sv_I l4_34)]) (sv_Sub_cons rfl (sv_Sub_cons rfl (sv_Sub_cons rfl (sv_Sub_cons rfl (sv_Sub_cons rfl sv_Sub_nil))))) hb
              · have h := h.2 (hc)
                refine sv_iconst (d := (1 : Int)) hM dX12_leftOf_84 rfl rfl ?_
                refine sv_goto hM dX12_leftOf_85 (pc' := 89) rfl ?_
                have hb := J51 (1 : Int) (⟨by decide, by decide⟩ : sv_R (1 : Int)) h
                exact sv_less (lv := [(0, .ref 0), (1, sv_I p1), (2, sv_I (S 64 p1)), (3, sv_I l3_33), (4, sv_I l4_34)]) (sv_Sub_cons rfl (sv_Sub_cons rfl (sv_Sub_cons rfl (sv_Sub_cons rfl (sv_Sub_cons rfl sv_Sub_nil))))) hb
    exact hJ ((0 : Int), (-1 : Int), ()) ⟨(⟨by decide, by decide⟩ : sv_R (0 : Int)), (⟨by decide, by decide⟩ : sv_R (-1 : Int)), hok, hin36⟩
def q_object_ (p1 : Int) (p2 : Int) (S : sv_S) : Option Value → sv_S → Prop := fun v S' => ∃ r : Int, v = some (sv_I r) ∧ sv_R r ∧ sm_ok S' ∧ sv_mod [1000] S S' ∧ (True)
theorem la_object__0 {x0 : Int} (h0 : 0 ≤ x0) (h1 : x0 ≤ 300) : sv_R (x0 - 1) := by omega
theorem la_object__1 {x0 x1 : Int} (h0 : x0 ≤ 300) (h1 : 0 ≤ x1) (h2 : x1 ≤ x0 - 1) : 0 ≤ x1 ∧ x1 < 300 := by omega
theorem la_object__2 {x0 x1 : Int} (h0 : x0 ≤ x1 - 1) : x0 < x1 := by omega
theorem la_object__3 : (0 : Int) ≤ 0 := by omega
theorem la_object__4 {x0 x1 : Int} (h0 : 0 ≤ x0) : x1 = (-1) → 0 ≤ x0 := by omega
theorem la_object__5 {x0 : Int} (h0 : 0 ≤ x0) : (-1) ≤ x0 := by omega
theorem la_object__6 {x0 : Int} (h0 : (-1) ≤ x0) (h1 : ¬ x0 = (-1)) : (-1) < x0 := by omega
theorem la_object__7 {x0 : Int} (h0 : x0 = (-1)) : ¬ ¬ x0 = (-1) := by omega
theorem la_object__8 {x0 : Int} (h0 : x0 = 0) : 0 ≤ x0 := by omega
theorem la_object__9 {x0 x1 x2 : Int} (h0 : x0 = x1 + 1 - x2) (h1 : x2 ≤ x1) : 0 ≤ x0 := by omega
theorem la_object__10 {x0 : Int} (h0 : 0 ≤ x0) (h1 : x0 < 3000) : 0 ≤ x0 ∧ x0 < 3000 := by omega
theorem la_object__11 {x0 x1 x2 : Int} (h0 : x0 ≤ 2000000000) (h1 : 0 ≤ x1) (h2 : x2 ≤ x0) (h3 : x1 < x2) : sv_R (x1 + 1) := by omega
theorem la_object__12 {x0 : Int} (h0 : 0 ≤ x0) : 0 ≤ x0 + 1 := by omega
theorem la_object__13 {x0 x1 x2 x3 : Int} (h0 : x0 ≤ x1) (h1 : x2 < x0) : x3 = (-1) → x2 + 1 ≤ x1 := by omega
theorem la_object__14 {x0 x1 x2 : Int} (h0 : x0 < x1) (h1 : x1 < x2) : x0 + 1 < x2 := by omega
theorem la_object__15 {x0 x1 x2 x3 x4 : Int} (h0 : x0 = (-1)) : ¬ (0 ≤ x0 ∧ x0 < 3000 ∧ x1 = x2 ∧ 0 < x3 ∧ x3 ≤ x4) := by omega
theorem la_object__16 {x0 x1 x2 x3 : Int} (h0 : x0 ≤ x1) (h1 : x2 = x1 + 1 - x0) (h2 : x3 = 0) : x3 < x2 := by omega
theorem la_object__17 {x0 x1 x2 x3 x4 : Int} (h0 : x0 = x1 + 1 - x2) (h1 : x3 = x1 + 1 - x4) (h2 : x2 < x4) : x3 < x0 := by omega
set_option maxHeartbeats 2000000 in
theorem f_object_ : ∀ (p1 : Int) (p2 : Int) (S : sv_S), sm_ok S → sv_R p1 → sv_R p2 → (sm_PL (S 1100020) (S 51) (S 52) (S 46) (S 47) (S 1076 0) (S 1086 0) ∧ 0 ≤ (S 1076 0) ∧ (S 1076 0) ≤ 300 ∧ 0 ≤ (S 1084 0) ∧ (S 1084 0) ≤ 3000 ∧ 0 ≤ (S 1086 0) ∧ (S 1086 0) ≤ 2000000000) → (sv_R (S 1073 0) → ((((S 1073 0) = (0 : Int)) → (True)) ∧ ((¬ ((S 1073 0) = (0 : Int))) → (sv_R (S 1076 0) → (sv_R ((S 1076 0) - (1 : Int))) ∧ ((((0 : Int) ≤ p1 ∧ p1 ≤ ((S 1076 0) - (1 : Int))) → (((p2 < (0 : Int) ∨ (4 : Int) < p2) → (True)) ∧ ((p2 = (0 : Int)) → (0 ≤ p1 ∧ p1 < 300) ∧ (sv_R (S 41 p1) → (True))) ∧ ((p2 = (1 : Int)) → (0 ≤ p1 ∧ p1 < 300) ∧ (sv_R (S 42 p1) → (True))) ∧ ((p2 = (2 : Int)) → (0 ≤ p1 ∧ p1 < 300) ∧ (sv_R (S 43 p1) → (True))) ∧ ((p2 = (3 : Int)) → ((sm_PL (S 1100020) (S 51) (S 52) (S 46) (S 47) (S 1076 0) (S 1086 0) → 0 ≤ p1 → p1 < (S 1076 0) → sm_PC (S 1100020) (S 51) (S 1086 0) (p1) ((S 46 p1))) → ((sm_PC (S 1100020) (S 51) (S 1086 0) (p1) ((S 46 p1)) → (S 46 p1) = -1 ∨ (0 ≤ (S 46 p1) ∧ (S 46 p1) < 3000 ∧ (S 1100020 (S 46 p1)) = p1 ∧ 0 < (S 51 (S 46 p1)) ∧ (S 51 (S 46 p1)) ≤ (S 1086 0))) → (0 ≤ p1 ∧ p1 < 300) ∧ (sv_R (S 46 p1) → ((0 ≤ (0 : Int) ∧ ((S 46 p1) = -1 → (0 : Int) ≤ (S 1086 0)) ∧ (¬ (S 46 p1) = -1 → 0 ≤ (S 46 p1) ∧ sm_PC (S 1100020) (S 51) (S 1086 0) (p1) ((S 46 p1)) ∧ (S 51 (S 46 p1)) ≤ (S 1086 0) ∧ (0 : Int) < (S 51 (S 46 p1)))) ∧ (∀ l3_16 : Int, sv_R l3_16 → ∀ l4_17 : Int, sv_R l4_17 → (0 ≤ l3_16 ∧ (l4_17 = -1 → l3_16 ≤ (S 1086 0)) ∧ (¬ l4_17 = -1 → 0 ≤ l4_17 ∧ sm_PC (S 1100020) (S 51) (S 1086 0) (p1) (l4_17) ∧ (S 51 l4_17) ≤ (S 1086 0) ∧ l3_16 < (S 51 l4_17))) → (0 ≤ (if l4_17 = -1 then 0 else (S 1086 0) + 1 - (S 51 l4_17))) ∧ (((l4_17 = (-1 : Int)) → (True)) ∧ ((¬ (l4_17 = (-1 : Int))) → ((sm_PC (S 1100020) (S 51) (S 1086 0) (p1) (l4_17) → l4_17 = -1 ∨ (0 ≤ l4_17 ∧ l4_17 < 3000 ∧ (S 1100020 l4_17) = p1 ∧ 0 < (S 51 l4_17) ∧ (S 51 l4_17) ≤ (S 1086 0))) → ((sm_PL (S 1100020) (S 51) (S 52) (S 46) (S 47) (S 1076 0) (S 1086 0) → 0 ≤ l4_17 → l4_17 < 3000 → (S 1100020 l4_17) = p1 → 0 ≤ p1 → sm_PC (S 1100020) (S 51) (S 1086 0) (p1) ((S 52 l4_17)) ∧ (¬ (S 52 l4_17) = -1 → (S 51 l4_17) < (S 51 (S 52 l4_17)))) → ((sm_PC (S 1100020) (S 51) (S 1086 0) (p1) ((S 52 l4_17)) → (S 52 l4_17) = -1 ∨ (0 ≤ (S 52 l4_17) ∧ (S 52 l4_17) < 3000 ∧ (S 1100020 (S 52 l4_17)) = p1 ∧ 0 < (S 51 (S 52 l4_17)) ∧ (S 51 (S 52 l4_17)) ≤ (S 1086 0))) → (0 ≤ l4_17 ∧ l4_17 < 3000) ∧ (sv_R (S 52 l4_17) → (sv_R (l3_16 + (1 : Int))) ∧ ((0 ≤ (l3_16 + (1 : Int)) ∧ ((S 52 l4_17) = -1 → (l3_16 + (1 : Int)) ≤ (S 1086 0)) ∧ (¬ (S 52 l4_17) = -1 → 0 ≤ (S 52 l4_17) ∧ sm_PC (S 1100020) (S 51) (S 1086 0) (p1) ((S 52 l4_17)) ∧ (S 51 (S 52 l4_17)) ≤ (S 1086 0) ∧ (l3_16 + (1 : Int)) < (S 51 (S 52 l4_17)))) ∧ ((if (S 52 l4_17) = -1 then 0 else (S 1086 0) + 1 - (S 51 (S 52 l4_17)))) < ((if l4_17 = -1 then 0 else (S 1086 0) + 1 - (S 51 l4_17)))))))))))))))) ∧ ((p2 = (4 : Int)) → (0 ≤ p1 ∧ p1 < 300) ∧ (sv_R (S 44 p1) → (True))))) ∧ ((¬ ((0 : Int) ≤ p1 ∧ p1 ≤ ((S 1076 0) - (1 : Int)))) → (True))))))) := by
  intro p1
  intro p2
  intro S
  intro h1_
  intro h2_
  intro h3_
  rintro ⟨h4_, ⟨h5_, ⟨h6_, ⟨h7_, ⟨h8_, ⟨h9_, h10_⟩⟩⟩⟩⟩⟩
  intro h11_
  refine ⟨?_, ?_⟩
  · skip
    intro h12_
    exact trivial
  intro h13_
  intro h14_
  refine ⟨(la_object__0 h5_ h6_), ?_⟩
  refine ⟨?_, ?_⟩
  · skip
    rintro ⟨h15_, h16_⟩
    refine ⟨?_, ?_⟩
    · skip
      intro h17_
      exact trivial
    refine ⟨?_, ?_⟩
    · skip
      intro h18_
      refine ⟨(la_object__1 h6_ h15_ h16_), ?_⟩
      intro h19_
      exact trivial
    refine ⟨?_, ?_⟩
    · skip
      intro h20_
      refine ⟨(la_object__1 h6_ h15_ h16_), ?_⟩
      intro h21_
      exact trivial
    refine ⟨?_, ?_⟩
    · skip
      intro h22_
      refine ⟨(la_object__1 h6_ h15_ h16_), ?_⟩
      intro h23_
      exact trivial
    refine ⟨?_, ?_⟩
    · skip
      intro h24_
      intro h25_
      have h26_ := (h25_ h4_)
      have h27_ := (h26_ h15_)
      have h28_ := (h27_ (la_object__2 h16_))
      intro h29_
      have h30_ := (h29_ h28_)
      refine ⟨(la_object__1 h6_ h15_ h16_), ?_⟩
      intro h31_
      refine ⟨?_, ?_⟩
      · skip
        refine ⟨la_object__3, ?_⟩
        refine ⟨(la_object__4 h9_), ?_⟩
        intro h32_
        obtain ⟨h33_, ⟨h34_, ⟨h35_, ⟨h36_, h37_⟩⟩⟩⟩ := (h30_.resolve_left h32_)
        refine ⟨h33_, ?_⟩
        refine ⟨h28_, ?_⟩
        refine ⟨h37_, ?_⟩
        exact h36_
      intro l3_16
      intro h38_
      intro l4_17
      intro h39_
      rintro ⟨h40_, ⟨h41_, h42_⟩⟩
      refine ⟨?_, ?_⟩
      · skip
        by_cases c43_ : l4_17 = (-1)
        · skip
          have e44_ : (if l4_17 = (-1) then 0 else S 1086 0 + 1 - S 51 l4_17 : Int) = 0 := if_pos c43_
          have h45_ := (h41_ c43_)
          exact (la_object__8 e44_)
        · skip
          have e46_ : (if l4_17 = (-1) then 0 else S 1086 0 + 1 - S 51 l4_17 : Int) = S 1086 0 + 1 - S 51 l4_17 := if_neg c43_
          obtain ⟨h47_, ⟨h48_, ⟨h49_, h50_⟩⟩⟩ := (h42_ c43_)
          exact (la_object__9 e46_ h49_)
      refine ⟨?_, ?_⟩
      · skip
        intro h51_
        have h52_ := (h41_ h51_)
        exact trivial
      intro h53_
      obtain ⟨h54_, ⟨h55_, ⟨h56_, h57_⟩⟩⟩ := (h42_ h53_)
      intro h58_
      have h59_ := (h58_ h55_)
      obtain ⟨h60_, ⟨h61_, ⟨h62_, ⟨h63_, h64_⟩⟩⟩⟩ := (h59_.resolve_left h53_)
      intro h65_
      have h66_ := (h65_ h4_)
      have h67_ := (h66_ h54_)
      have h68_ := (h67_ h61_)
      have h69_ := (h68_ h62_)
      obtain ⟨h70_, h71_⟩ := (h69_ h15_)
      intro h72_
      have h73_ := (h72_ h70_)
      refine ⟨(la_object__10 h54_ h61_), ?_⟩
      intro h74_
      refine ⟨(la_object__11 h10_ h40_ h56_ h57_), ?_⟩
      refine ⟨?_, ?_⟩
      · skip
        refine ⟨(la_object__12 h40_), ?_⟩
        refine ⟨(la_object__13 h56_ h57_), ?_⟩
        intro h75_
        have h76_ := (h71_ h75_)
        obtain ⟨h77_, ⟨h78_, ⟨h79_, ⟨h80_, h81_⟩⟩⟩⟩ := (h73_.resolve_left h75_)
        refine ⟨h77_, ?_⟩
        refine ⟨h70_, ?_⟩
        refine ⟨h81_, ?_⟩
        exact (la_object__14 h57_ h76_)
      have e82_ : (if l4_17 = (-1) then 0 else S 1086 0 + 1 - S 51 l4_17 : Int) = S 1086 0 + 1 - S 51 l4_17 := if_neg h53_
      by_cases c83_ : S 52 l4_17 = (-1)
      · skip
        have e84_ : (if S 52 l4_17 = (-1) then 0 else S 1086 0 + 1 - S 51 (S 52 l4_17) : Int) = 0 := if_pos c83_
        have h85_ := (h73_.resolve_right (la_object__15 c83_))
        exact (la_object__16 h56_ e82_ e84_)
      · skip
        have e86_ : (if S 52 l4_17 = (-1) then 0 else S 1086 0 + 1 - S 51 (S 52 l4_17) : Int) = S 1086 0 + 1 - S 51 (S 52 l4_17) := if_neg c83_
        have h87_ := (h71_ c83_)
        obtain ⟨h88_, ⟨h89_, ⟨h90_, ⟨h91_, h92_⟩⟩⟩⟩ := (h73_.resolve_left c83_)
        exact (la_object__17 e82_ e86_ h87_)
    intro h93_
    refine ⟨(la_object__1 h6_ h15_ h16_), ?_⟩
    intro h94_
    exact trivial
  intro h95_
  exact trivial
set_option maxRecDepth 8000 in
set_option maxHeartbeats 2000000 in
theorem t_object_ : ∀ (p1 : Int) (p2 : Int) (S : sv_S), sm_ok S → sv_R p1 → sv_R p2 → (sm_PL (S 1100020) (S 51) (S 52) (S 46) (S 47) (S 1076 0) (S 1086 0) ∧ 0 ≤ (S 1076 0) ∧ (S 1076 0) ≤ 300 ∧ 0 ≤ (S 1084 0) ∧ (S 1084 0) ≤ 3000 ∧ 0 ≤ (S 1086 0) ∧ (S 1086 0) ≤ 2000000000) → sv_T sm_XS sm_cs sm_L sm_sh 1 (q_object_ p1 p2 S) 198 0 (lv_args 0 [.ref 0, sv_I p1, sv_I p2]) [] S := by
  intro p1 p2 S hok hp1 hp2 hpre
  have h := f_object_ p1 p2 S hok hp1 hp2 hpre
  have hM := sm_h198
  show sv_T sm_XS sm_cs sm_L sm_sh 1 (q_object_ p1 p2 S) 198 0 [(0, .ref 0), (1, sv_I p1), (2, sv_I p2)] [] S
  refine sv_aload_n hM dX12_object__0 rfl rfl ?_
  refine sv_iconst (d := (0 : Int)) hM dX12_object__1 rfl rfl ?_
  refine sv_putI sm_X hM dX12_object__2 sm_fp_289 (sm_a0 _) sm_q0 (Or.inl rfl) rfl rfl rfl rfl ?_
  have ok1 : sm_ok (sv_up S 1000 0 (0 : Int)) := sm_upI hok sm_r1000 (⟨by decide, by decide⟩ : sv_R (0 : Int))
  have md2 : sv_mod [1000] S (sv_up S 1000 0 (0 : Int)) := sv_mod.up sv_mod.rf (by decide)
  refine sv_aload_n hM dX12_object__5 rfl rfl ?_
  have k3 : sv_R (S 1073 0) := sm_okI ok1 sm_r1073 0
  have h := h k3
  refine sv_getI hM dX12_object__6 sm_fl_773 (sm_a0 _) sm_k73 rfl (x := (S 1073 0)) rfl ?_
  refine sv_cond_eq hM dX12_object__9 k3 (t := 26) rfl rfl (fun hc => ?_) (fun hc => ?_)
  · have h := h.1 (hc)
    refine sv_iconst (d := (-1 : Int)) hM dX12_object__26 rfl rfl ?_
    exact sv_iret hM dX12_object__27 rfl rfl ⟨(-1 : Int), rfl, (⟨by decide, by decide⟩ : sv_R (-1 : Int)), ok1, md2, h⟩
  · have h := h.2 (hc)
    refine sv_iload_n hM dX12_object__12 rfl rfl ?_
    refine sv_iconst (d := (0 : Int)) hM dX12_object__13 rfl rfl ?_
    refine sv_aload_n hM dX12_object__14 rfl rfl ?_
    have k4 : sv_R (S 1076 0) := sm_okI ok1 sm_r1076 0
    have h := h k4
    refine sv_getI hM dX12_object__15 sm_fl_843 (sm_a0 _) sm_k76 rfl (x := (S 1076 0)) rfl ?_
    refine sv_iconst (d := (1 : Int)) hM dX12_object__18 rfl rfl ?_
    refine sv_isub hM dX12_object__19 rfl ?_
    obtain ⟨o5, h⟩ := h
    refine sv_callS hM dX12_object__20 sm_iv_899 (Nat.le_of_ble_eq_true rfl) rfl rfl (Nat.le_of_ble_eq_true rfl) sm_h4 (Nat.le_of_ble_eq_true rfl) (Nat.le_of_ble_eq_true rfl) (F' := 0) (Nat.le_of_ble_eq_true rfl) rfl (t_in p1 (0 : Int) ((S 1076 0) - (1 : Int)) (sv_up S 1000 0 (0 : Int)) ok1 hp1 (⟨by decide, by decide⟩ : sv_R (0 : Int)) o5) (fun v S1 hq => ?_)
    obtain ⟨rfl, hS1⟩ := hq
    obtain rfl : (sv_up S 1000 0 (0 : Int)) = S1 := hS1.symm
    show sv_T sm_XS sm_cs sm_L sm_sh 1 (q_object_ p1 p2 S) 198 23 [(0, .ref 0), (1, sv_I p1), (2, sv_I p2)] [sv_I (if (0 : Int) ≤ p1 ∧ p1 ≤ ((S 1076 0) - (1 : Int)) then 1 else 0)] (sv_up S 1000 0 (0 : Int))
    refine sv_cond_ne hM dX12_object__23 (sv_Rite : sv_R (if (0 : Int) ≤ p1 ∧ p1 ≤ ((S 1076 0) - (1 : Int)) then 1 else 0)) (t := 28) rfl rfl (fun hc => ?_) (fun hc => ?_)
    · have h := h.1 (sv_itep hc)
      refine sv_iload_n hM dX12_object__28 rfl rfl ?_
      have hS := h
      have J0 : (p2 < (0 : Int) ∨ (4 : Int) < p2) → sv_T sm_XS sm_cs sm_L sm_sh 1 (q_object_ p1 p2 S) 198 125 [(0, .ref 0), (1, sv_I p1), (2, sv_I p2)] [] (sv_up S 1000 0 (0 : Int)) := by
        intro hc
        have h := hS.1 hc
        refine sv_iconst (d := (-1 : Int)) hM dX12_object__125 rfl rfl ?_
        exact sv_iret hM dX12_object__126 rfl rfl ⟨(-1 : Int), rfl, (⟨by decide, by decide⟩ : sv_R (-1 : Int)), ok1, md2, h⟩
      have J1 : (p2 = (0 : Int)) → sv_T sm_XS sm_cs sm_L sm_sh 1 (q_object_ p1 p2 S) 198 64 [(0, .ref 0), (1, sv_I p1), (2, sv_I p2)] [] (sv_up S 1000 0 (0 : Int)) := by
        intro hc
        have h := hS.2.1 hc
        refine sv_aload_n hM dX12_object__64 rfl rfl ?_
        refine sv_getA hM dX12_object__65 sm_fl_134 (sm_a0 _) sm_k77 rfl ?_
        refine sv_iload_n hM dX12_object__68 rfl rfl ?_
        obtain ⟨o6, h⟩ := h
        have k7 : sv_R (S 41 p1) := sm_okI ok1 sm_r41 p1
        have h := h k7
        refine sv_iald hM dX12_object__69 (sm_a41 _) (by decide) o6.1 o6.2 rfl (x := (S 41 p1)) rfl ?_
        exact sv_iret hM dX12_object__70 rfl rfl ⟨(S 41 p1), rfl, k7, ok1, md2, h⟩
      have J2 : (p2 = (1 : Int)) → sv_T sm_XS sm_cs sm_L sm_sh 1 (q_object_ p1 p2 S) 198 71 [(0, .ref 0), (1, sv_I p1), (2, sv_I p2)] [] (sv_up S 1000 0 (0 : Int)) := by
        intro hc
        have h := hS.2.2.1 hc
        refine sv_aload_n hM dX12_object__71 rfl rfl ?_
        refine sv_getA hM dX12_object__72 sm_fl_137 (sm_a0 _) sm_k78 rfl ?_
        refine sv_iload_n hM dX12_object__75 rfl rfl ?_
        obtain ⟨o8, h⟩ := h
        have k9 : sv_R (S 42 p1) := sm_okI ok1 sm_r42 p1
        have h := h k9
        refine sv_iald hM dX12_object__76 (sm_a42 _) (by decide) o8.1 o8.2 rfl (x := (S 42 p1)) rfl ?_
        exact sv_iret hM dX12_object__77 rfl rfl ⟨(S 42 p1), rfl, k9, ok1, md2, h⟩
      have J3 : (p2 = (2 : Int)) → sv_T sm_XS sm_cs sm_L sm_sh 1 (q_object_ p1 p2 S) 198 78 [(0, .ref 0), (1, sv_I p1), (2, sv_I p2)] [] (sv_up S 1000 0 (0 : Int)) := by
        intro hc
        have h := hS.2.2.2.1 hc
        refine sv_aload_n hM dX12_object__78 rfl rfl ?_
        refine sv_getA hM dX12_object__79 sm_fl_140 (sm_a0 _) sm_k79 rfl ?_
        refine sv_iload_n hM dX12_object__82 rfl rfl ?_
        obtain ⟨o10, h⟩ := h
        have k11 : sv_R (S 43 p1) := sm_okI ok1 sm_r43 p1
        have h := h k11
        refine sv_iald hM dX12_object__83 (sm_a43 _) (by decide) o10.1 o10.2 rfl (x := (S 43 p1)) rfl ?_
        exact sv_iret hM dX12_object__84 rfl rfl ⟨(S 43 p1), rfl, k11, ok1, md2, h⟩
      have J4 : (p2 = (3 : Int)) → sv_T sm_XS sm_cs sm_L sm_sh 1 (q_object_ p1 p2 S) 198 85 [(0, .ref 0), (1, sv_I p1), (2, sv_I p2)] [] (sv_up S 1000 0 (0 : Int)) := by
        intro hc
        have h := hS.2.2.2.2.1 hc
        refine sv_iconst (d := (0 : Int)) hM dX12_object__85 rfl rfl ?_
        refine sv_istore_n hM dX12_object__86 (by decide) rfl ?_
        show sv_T sm_XS sm_cs sm_L sm_sh 1 (q_object_ p1 p2 S) 198 87 [(0, .ref 0), (1, sv_I p1), (2, sv_I p2), (3, sv_I (0 : Int))] [] (sv_up S 1000 0 (0 : Int))
        have k12 : (sm_PL (S 1100020) (S 51) (S 52) (S 46) (S 47) (S 1076 0) (S 1086 0) → 0 ≤ p1 → p1 < (S 1076 0) → sm_PC (S 1100020) (S 51) (S 1086 0) (p1) ((S 46 p1))) := fun h a b => sm_PL_fi h p1 a b
        have h := h k12
        have k13 : (sm_PC (S 1100020) (S 51) (S 1086 0) (p1) ((S 46 p1)) → (S 46 p1) = -1 ∨ (0 ≤ (S 46 p1) ∧ (S 46 p1) < 3000 ∧ (S 1100020 (S 46 p1)) = p1 ∧ 0 < (S 51 (S 46 p1)) ∧ (S 51 (S 46 p1)) ≤ (S 1086 0))) := sm_PC_e
        have h := h k13
        refine sv_aload_n hM dX12_object__87 rfl rfl ?_
        refine sv_getA hM dX12_object__88 sm_fl_149 (sm_a0 _) sm_k82 rfl ?_
        refine sv_iload_n hM dX12_object__91 rfl rfl ?_
        obtain ⟨o14, h⟩ := h
        have k15 : sv_R (S 46 p1) := sm_okI ok1 sm_r46 p1
        have h := h k15
        refine sv_iald hM dX12_object__92 (sm_a46 _) (by decide) o14.1 o14.2 rfl (x := (S 46 p1)) rfl ?_
        refine sv_istore hM dX12_object__93 (by decide) rfl ?_
        show sv_T sm_XS sm_cs sm_L sm_sh 1 (q_object_ p1 p2 S) 198 95 [(0, .ref 0), (1, sv_I p1), (2, sv_I p2), (3, sv_I (0 : Int)), (4, sv_I (S 46 p1))] [] (sv_up S 1000 0 (0 : Int))
        obtain ⟨hin19, h⟩ := h
        have hJ : ∀ a : Int × Int × Unit, (sv_R a.1 ∧ sv_R a.2.1 ∧ sm_ok (sv_up S 1000 0 (0 : Int)) ∧ (0 ≤ a.1 ∧ (a.2.1 = -1 → a.1 ≤ (S 1086 0)) ∧ (¬ a.2.1 = -1 → 0 ≤ a.2.1 ∧ sm_PC (S 1100020) (S 51) (S 1086 0) (p1) (a.2.1) ∧ (S 51 a.2.1) ≤ (S 1086 0) ∧ a.1 < (S 51 a.2.1)))) → sv_T sm_XS sm_cs sm_L sm_sh 1 (q_object_ p1 p2 S) 198 95 [(0, .ref 0), (1, sv_I p1), (2, sv_I p2), (3, sv_I a.1), (4, sv_I a.2.1)] [] (sv_up S 1000 0 (0 : Int)) := by
          refine sv_loop (α := Int × Int × Unit) (fun a => sv_R a.1 ∧ sv_R a.2.1 ∧ sm_ok (sv_up S 1000 0 (0 : Int)) ∧ (0 ≤ a.1 ∧ (a.2.1 = -1 → a.1 ≤ (S 1086 0)) ∧ (¬ a.2.1 = -1 → 0 ≤ a.2.1 ∧ sm_PC (S 1100020) (S 51) (S 1086 0) (p1) (a.2.1) ∧ (S 51 a.2.1) ≤ (S 1086 0) ∧ a.1 < (S 51 a.2.1)))) (fun a => (if a.2.1 = -1 then 0 else (S 1086 0) + 1 - (S 51 a.2.1))) (fun a => sv_T sm_XS sm_cs sm_L sm_sh 1 (q_object_ p1 p2 S) 198 95 [(0, .ref 0), (1, sv_I p1), (2, sv_I p2), (3, sv_I a.1), (4, sv_I a.2.1)] [] (sv_up S 1000 0 (0 : Int))) (fun a q => (h a.1 q.1 a.2.1 q.2.1 q.2.2.2).1) (fun a q ih18 => ?_)
          obtain ⟨l3_16, l4_17, _u⟩ := a
          obtain ⟨hl3_16, hl4_17, ok20, hin19i⟩ := q
          have h := (h l3_16 hl3_16 l4_17 hl4_17 hin19i).2
          show sv_T sm_XS sm_cs sm_L sm_sh 1 (q_object_ p1 p2 S) 198 95 [(0, .ref 0), (1, sv_I p1), (2, sv_I p2), (3, sv_I l3_16), (4, sv_I l4_17)] [] (sv_up S 1000 0 (0 : Int))
          refine sv_iload hM dX12_object__95 rfl rfl ?_
          refine sv_iconst (d := (-1 : Int)) hM dX12_object__97 rfl rfl ?_
          refine sv_icmp_eq hM dX12_object__98 hl4_17 (⟨by decide, by decide⟩ : sv_R (-1 : Int)) (t := 116) rfl rfl (fun hc => ?_) (fun hc => ?_)
          · have h := h.1 (hc)
            refine sv_iload_n hM dX12_object__116 rfl rfl ?_
            exact sv_iret hM dX12_object__117 rfl rfl ⟨l3_16, rfl, hl3_16, ok20, md2, h⟩
          · have h := h.2 (hc)
            have k21 : (sm_PC (S 1100020) (S 51) (S 1086 0) (p1) (l4_17) → l4_17 = -1 ∨ (0 ≤ l4_17 ∧ l4_17 < 3000 ∧ (S 1100020 l4_17) = p1 ∧ 0 < (S 51 l4_17) ∧ (S 51 l4_17) ≤ (S 1086 0))) := sm_PC_e
            have h := h k21
            have k22 : (sm_PL (S 1100020) (S 51) (S 52) (S 46) (S 47) (S 1076 0) (S 1086 0) → 0 ≤ l4_17 → l4_17 < 3000 → (S 1100020 l4_17) = p1 → 0 ≤ p1 → sm_PC (S 1100020) (S 51) (S 1086 0) (p1) ((S 52 l4_17)) ∧ (¬ (S 52 l4_17) = -1 → (S 51 l4_17) < (S 51 (S 52 l4_17)))) := fun h a b c d => sm_PL_ne h _ a b c d
            have h := h k22
            have k23 : (sm_PC (S 1100020) (S 51) (S 1086 0) (p1) ((S 52 l4_17)) → (S 52 l4_17) = -1 ∨ (0 ≤ (S 52 l4_17) ∧ (S 52 l4_17) < 3000 ∧ (S 1100020 (S 52 l4_17)) = p1 ∧ 0 < (S 51 (S 52 l4_17)) ∧ (S 51 (S 52 l4_17)) ≤ (S 1086 0))) := sm_PC_e
            have h := h k23
            refine sv_iinc (d := (1 : Int)) hM dX12_object__101 rfl (by decide) rfl rfl ?_
            show sv_T sm_XS sm_cs sm_L sm_sh 1 (q_object_ p1 p2 S) 198 104 [(0, .ref 0), (1, sv_I p1), (2, sv_I p2), (3, sv_I (l3_16 + (1 : Int))), (4, sv_I l4_17)] [] (sv_up S 1000 0 (0 : Int))
            refine sv_aload_n hM dX12_object__104 rfl rfl ?_
            refine sv_getA hM dX12_object__105 sm_fl_167 (sm_a0 _) sm_k91 rfl ?_
            refine sv_iload hM dX12_object__108 rfl rfl ?_
            obtain ⟨o24, h⟩ := h
            have k25 : sv_R (S 52 l4_17) := sm_okI ok20 sm_r52 l4_17
            have h := h k25
            refine sv_iald hM dX12_object__110 (sm_a52 _) (by decide) o24.1 o24.2 rfl (x := (S 52 l4_17)) rfl ?_
            refine sv_istore hM dX12_object__111 (by decide) rfl ?_
            show sv_T sm_XS sm_cs sm_L sm_sh 1 (q_object_ p1 p2 S) 198 113 [(0, .ref 0), (1, sv_I p1), (2, sv_I p2), (3, sv_I (l3_16 + (1 : Int))), (4, sv_I (S 52 l4_17))] [] (sv_up S 1000 0 (0 : Int))
            refine sv_goto hM dX12_object__113 (pc' := 95) rfl ?_
            obtain ⟨o26, h⟩ := h
            have hb := ih18 ((l3_16 + (1 : Int)), (S 52 l4_17), ()) ⟨o26, k25, ok20, h.1⟩ h.2
            exact sv_less (lv := [(0, .ref 0), (1, sv_I p1), (2, sv_I p2), (3, sv_I (l3_16 + (1 : Int))), (4, sv_I (S 52 l4_17))]) (sv_Sub_cons rfl (sv_Sub_cons rfl (sv_Sub_cons rfl (sv_Sub_cons rfl (sv_Sub_cons rfl sv_Sub_nil))))) hb
        exact hJ ((0 : Int), (S 46 p1), ()) ⟨(⟨by decide, by decide⟩ : sv_R (0 : Int)), k15, ok1, hin19⟩
      have J5 : (p2 = (4 : Int)) → sv_T sm_XS sm_cs sm_L sm_sh 1 (q_object_ p1 p2 S) 198 118 [(0, .ref 0), (1, sv_I p1), (2, sv_I p2)] [] (sv_up S 1000 0 (0 : Int)) := by
        intro hc
        have h := hS.2.2.2.2.2 hc
        refine sv_aload_n hM dX12_object__118 rfl rfl ?_
        refine sv_getA hM dX12_object__119 sm_fl_143 (sm_a0 _) sm_k80 rfl ?_
        refine sv_iload_n hM dX12_object__122 rfl rfl ?_
        obtain ⟨o27, h⟩ := h
        have k28 : sv_R (S 44 p1) := sm_okI ok1 sm_r44 p1
        have h := h k28
        refine sv_iald hM dX12_object__123 (sm_a44 _) (by decide) o27.1 o27.2 rfl (x := (S 44 p1)) rfl ?_
        exact sv_iret hM dX12_object__124 rfl rfl ⟨(S 44 p1), rfl, k28, ok1, md2, h⟩
      refine sv_tsw hM dX12_object__29 hp2 (t := 125) rfl (fun hc => J0 (by rcases hc with hc | hc; exact Or.inl hc; exact Or.inr hc)) (fun hc => ?_)
      have hv : p2 = (0 : Int) ∨ p2 = (1 : Int) ∨ p2 = (2 : Int) ∨ p2 = (3 : Int) ∨ p2 = (4 : Int) := by omega
      rcases hv with hv | hv | hv | hv | hv
      · exact ⟨35, 64, by rw [hv]; rfl, rfl, J1 (by omega)⟩
      · exact ⟨42, 71, by rw [hv]; rfl, rfl, J2 (by omega)⟩
      · exact ⟨49, 78, by rw [hv]; rfl, rfl, J3 (by omega)⟩
      · exact ⟨56, 85, by rw [hv]; rfl, rfl, J4 (by omega)⟩
      · exact ⟨89, 118, by rw [hv]; rfl, rfl, J5 (by omega)⟩
    · have h := h.2 (fun q => hc (by rw [if_pos q]; decide))
      refine sv_iconst (d := (-1 : Int)) hM dX12_object__26 rfl rfl ?_
      exact sv_iret hM dX12_object__27 rfl rfl ⟨(-1 : Int), rfl, (⟨by decide, by decide⟩ : sv_R (-1 : Int)), ok1, md2, h⟩
def q_property (p1 : Int) (p2 : Int) (p3 : Int) (S : sv_S) : Option Value → sv_S → Prop := fun v S' => ∃ r : Int, v = some (sv_I r) ∧ sv_R r ∧ sm_ok S' ∧ sv_mod [1000] S S' ∧ (True)
theorem la_property_0 {x0 : Int} (h0 : 0 ≤ x0) (h1 : x0 ≤ 300) : sv_R (x0 - 1) := by omega
theorem la_property_1 {x0 x1 : Int} (h0 : x0 ≤ x1 - 1) : x0 < x1 := by omega
theorem la_property_2 {x0 x1 : Int} (h0 : x0 ≤ 300) (h1 : 0 ≤ x1) (h2 : x1 ≤ x0 - 1) : 0 ≤ x1 ∧ x1 < 300 := by omega
theorem la_property_3 : (0 : Int) ≤ 0 := by omega
theorem la_property_4 {x0 x1 x2 x3 x4 : Int} (h0 : x0 = (-1) ∨ 0 ≤ x0 ∧ x0 < 3000 ∧ x1 = x2 ∧ 0 < x3 ∧ x3 ≤ x4) : ¬ x0 = (-1) → 0 ≤ x0 ∧ x3 ≤ x4 := by omega
theorem la_property_5 {x0 x1 : Int} (h0 : x0 ≤ x1) : 0 ≤ x1 - x0 := by omega
theorem la_property_6 {x0 : Int} (h0 : 0 ≤ x0) : (-1) ≤ x0 := by omega
theorem la_property_7 {x0 : Int} (h0 : (-1) ≤ x0) (h1 : ¬ x0 = (-1)) : (-1) < x0 := by omega
theorem la_property_8 {x0 : Int} (h0 : 0 ≤ x0) (h1 : x0 < 3000) : 0 ≤ x0 ∧ x0 < 3000 := by omega
theorem la_property_9 {x0 : Int} (h0 : ¬ ¬ x0 = 2) : 0 ≤ x0 := by omega
theorem la_property_10 {x0 : Int} (h0 : 0 ≤ x0) (h1 : ¬ x0 = 0) : 0 < x0 := by omega
theorem la_property_11 {x0 : Int} (h0 : ¬ ¬ x0 = 2) : 1 ≤ x0 := by omega
theorem la_property_12 {x0 : Int} (h0 : 1 ≤ x0) (h1 : ¬ x0 = 1) : 1 < x0 := by omega
theorem la_property_13 {x0 : Int} (h0 : ¬ ¬ x0 = 1) : 0 ≤ x0 := by omega
theorem la_property_14 {x0 : Int} (h0 : x0 = (-1)) : ¬ ¬ x0 = (-1) := by omega
theorem la_property_15 {x0 : Int} (h0 : x0 = (-1)) : x0 ≤ (-1) := by omega
theorem la_property_16 {x0 : Int} (h0 : x0 ≤ (-1)) (h1 : ¬ x0 = (-1)) : x0 < (-1) := by omega
theorem la_property_17 {x0 x1 : Int} (h0 : x0 = (-1)) (h1 : x0 < (-1)) : ¬ x1 = (-1) := by omega
theorem la_property_18 {x0 : Int} (h0 : x0 < (-1)) (h1 : 0 ≤ x0) : 0 ≤ x0 ∧ x0 < 3000 := by omega
theorem la_property_19 {x0 x1 : Int} (h0 : sv_R x0) (h1 : 0 ≤ x1) (h2 : ¬ x0 ≤ x1) : sv_R (x1 + 1) := by omega
theorem la_property_20 {x0 : Int} (h0 : 0 ≤ x0) : 0 ≤ x0 + 1 := by omega
theorem la_property_21 {x0 x1 : Int} (h0 : ¬ x0 ≤ x1) : x1 + 1 ≤ x0 := by omega
theorem la_property_22 {x0 x1 : Int} : x0 - (x1 + 1) < x0 - x1 := by omega
set_option maxHeartbeats 2000000 in
theorem f_property : ∀ (p1 : Int) (p2 : Int) (p3 : Int) (S : sv_S), sm_ok S → sv_R p1 → sv_R p2 → sv_R p3 → (sm_PL (S 1100020) (S 51) (S 52) (S 46) (S 47) (S 1076 0) (S 1086 0) ∧ 0 ≤ (S 1076 0) ∧ (S 1076 0) ≤ 300 ∧ 0 ≤ (S 1084 0) ∧ (S 1084 0) ≤ 3000 ∧ 0 ≤ (S 1086 0) ∧ (S 1086 0) ≤ 2000000000) → (sv_R (S 1073 0) → ((((S 1073 0) = (0 : Int)) → (True)) ∧ ((¬ ((S 1073 0) = (0 : Int))) → (sv_R (S 1076 0) → (sv_R ((S 1076 0) - (1 : Int))) ∧ (((¬ ((0 : Int) ≤ p1 ∧ p1 ≤ ((S 1076 0) - (1 : Int)))) → (True)) ∧ (((0 : Int) ≤ p1 ∧ p1 ≤ ((S 1076 0) - (1 : Int))) → ((((0 : Int) ≤ p2) → ((sm_PL (S 1100020) (S 51) (S 52) (S 46) (S 47) (S 1076 0) (S 1086 0) → 0 ≤ p1 → p1 < (S 1076 0) → sm_PC (S 1100020) (S 51) (S 1086 0) (p1) ((S 46 p1))) → ((sm_PC (S 1100020) (S 51) (S 1086 0) (p1) ((S 46 p1)) → (S 46 p1) = -1 ∨ (0 ≤ (S 46 p1) ∧ (S 46 p1) < 3000 ∧ (S 1100020 (S 46 p1)) = p1 ∧ 0 < (S 51 (S 46 p1)) ∧ (S 51 (S 46 p1)) ≤ (S 1086 0))) → (0 ≤ p1 ∧ p1 < 300) ∧ (sv_R (S 46 p1) → ((0 ≤ (0 : Int) ∧ (0 : Int) ≤ p2 ∧ sm_PC (S 1100020) (S 51) (S 1086 0) (p1) ((S 46 p1)) ∧ (¬ (S 46 p1) = -1 → 0 ≤ (S 46 p1) ∧ (S 51 (S 46 p1)) ≤ (S 1086 0))) ∧ (∀ l4_10 : Int, sv_R l4_10 → ∀ l5_11 : Int, sv_R l5_11 → (0 ≤ l5_11 ∧ l5_11 ≤ p2 ∧ sm_PC (S 1100020) (S 51) (S 1086 0) (p1) (l4_10) ∧ (¬ l4_10 = -1 → 0 ≤ l4_10 ∧ (S 51 l4_10) ≤ (S 1086 0))) → (0 ≤ p2 - l5_11) ∧ (((p2 ≤ l5_11) → (((¬ l4_10 = (-1 : Int)) → ((sm_PC (S 1100020) (S 51) (S 1086 0) (p1) (l4_10) → l4_10 = -1 ∨ (0 ≤ l4_10 ∧ l4_10 < 3000 ∧ (S 1100020 l4_10) = p1 ∧ 0 < (S 51 l4_10) ∧ (S 51 l4_10) ≤ (S 1086 0))) → (((¬ p3 = (0 : Int)) → (0 ≤ l4_10 ∧ l4_10 < 3000) ∧ (sv_R (S 49 l4_10) → (sv_R (S 50 l4_10) → (((¬ p3 = (1 : Int)) → (((¬ p3 = (2 : Int)) → (∀ r23 : Int, sv_R r23 → (True) → (True))) ∧ ((¬ (¬ p3 = (2 : Int))) → (∀ r28 : Int, sv_R r28 → (True) → (True))))) ∧ ((¬ (¬ p3 = (1 : Int))) → (∀ r33 : Int, sv_R r33 → (True) → (True))))))) ∧ ((¬ (¬ p3 = (0 : Int))) → (0 ≤ l4_10 ∧ l4_10 < 3000) ∧ (sv_R (S 48 l4_10) → (True)))))) ∧ ((¬ (¬ l4_10 = (-1 : Int))) → (True)))) ∧ ((¬ (p2 ≤ l5_11)) → (((l4_10 = (-1 : Int)) → (((¬ l4_10 = (-1 : Int)) → ((sm_PC (S 1100020) (S 51) (S 1086 0) (p1) (l4_10) → l4_10 = -1 ∨ (0 ≤ l4_10 ∧ l4_10 < 3000 ∧ (S 1100020 l4_10) = p1 ∧ 0 < (S 51 l4_10) ∧ (S 51 l4_10) ≤ (S 1086 0))) → (((¬ p3 = (0 : Int)) → (0 ≤ l4_10 ∧ l4_10 < 3000) ∧ (sv_R (S 49 l4_10) → (sv_R (S 50 l4_10) → (((¬ p3 = (1 : Int)) → (((¬ p3 = (2 : Int)) → (∀ r44 : Int, sv_R r44 → (True) → (True))) ∧ ((¬ (¬ p3 = (2 : Int))) → (∀ r49 : Int, sv_R r49 → (True) → (True))))) ∧ ((¬ (¬ p3 = (1 : Int))) → (∀ r54 : Int, sv_R r54 → (True) → (True))))))) ∧ ((¬ (¬ p3 = (0 : Int))) → (0 ≤ l4_10 ∧ l4_10 < 3000) ∧ (sv_R (S 48 l4_10) → (True)))))) ∧ ((¬ (¬ l4_10 = (-1 : Int))) → (True)))) ∧ ((¬ (l4_10 = (-1 : Int))) → ((sm_PC (S 1100020) (S 51) (S 1086 0) (p1) (l4_10) → l4_10 = -1 ∨ (0 ≤ l4_10 ∧ l4_10 < 3000 ∧ (S 1100020 l4_10) = p1 ∧ 0 < (S 51 l4_10) ∧ (S 51 l4_10) ≤ (S 1086 0))) → ((sm_PL (S 1100020) (S 51) (S 52) (S 46) (S 47) (S 1076 0) (S 1086 0) → 0 ≤ l4_10 → l4_10 < 3000 → (S 1100020 l4_10) = p1 → 0 ≤ p1 → sm_PC (S 1100020) (S 51) (S 1086 0) (p1) ((S 52 l4_10)) ∧ (¬ (S 52 l4_10) = -1 → (S 51 l4_10) < (S 51 (S 52 l4_10)))) → ((sm_PC (S 1100020) (S 51) (S 1086 0) (p1) ((S 52 l4_10)) → (S 52 l4_10) = -1 ∨ (0 ≤ (S 52 l4_10) ∧ (S 52 l4_10) < 3000 ∧ (S 1100020 (S 52 l4_10)) = p1 ∧ 0 < (S 51 (S 52 l4_10)) ∧ (S 51 (S 52 l4_10)) ≤ (S 1086 0))) → (0 ≤ l4_10 ∧ l4_10 < 3000) ∧ (sv_R (S 52 l4_10) → (sv_R (l5_11 + (1 : Int))) ∧ ((0 ≤ (l5_11 + (1 : Int)) ∧ (l5_11 + (1 : Int)) ≤ p2 ∧ sm_PC (S 1100020) (S 51) (S 1086 0) (p1) ((S 52 l4_10)) ∧ (¬ (S 52 l4_10) = -1 → 0 ≤ (S 52 l4_10) ∧ (S 51 (S 52 l4_10)) ≤ (S 1086 0))) ∧ (p2 - (l5_11 + (1 : Int))) < (p2 - l5_11)))))))))))))))) ∧ ((¬ ((0 : Int) ≤ p2)) → (True))))))))) := by
  intro p1
  intro p2
  intro p3
  intro S
  intro h1_
  intro h2_
  intro h3_
  intro h4_
  rintro ⟨h5_, ⟨h6_, ⟨h7_, ⟨h8_, ⟨h9_, ⟨h10_, h11_⟩⟩⟩⟩⟩⟩
  intro h12_
  refine ⟨?_, ?_⟩
  · skip
    intro h13_
    exact trivial
  intro h14_
  intro h15_
  refine ⟨(la_property_0 h6_ h7_), ?_⟩
  refine ⟨?_, ?_⟩
  · skip
    intro h16_
    exact trivial
  rintro ⟨h17_, h18_⟩
  refine ⟨?_, ?_⟩
  · skip
    intro h19_
    intro h20_
    have h21_ := (h20_ h5_)
    have h22_ := (h21_ h17_)
    have h23_ := (h22_ (la_property_1 h18_))
    intro h24_
    have h25_ := (h24_ h23_)
    refine ⟨(la_property_2 h7_ h17_ h18_), ?_⟩
    intro h26_
    refine ⟨⟨la_property_3, ⟨h19_, ⟨h23_, (la_property_4 h25_)⟩⟩⟩, ?_⟩
    intro l4_10
    intro h27_
    intro l5_11
    intro h28_
    rintro ⟨h29_, ⟨h30_, ⟨h31_, h32_⟩⟩⟩
    refine ⟨(la_property_5 h30_), ?_⟩
    refine ⟨?_, ?_⟩
    · skip
      intro h33_
      refine ⟨?_, ?_⟩
      · skip
        intro h34_
        obtain ⟨h35_, h36_⟩ := (h32_ h34_)
        intro h37_
        have h38_ := (h37_ h31_)
        obtain ⟨h39_, ⟨h40_, ⟨h41_, ⟨h42_, h43_⟩⟩⟩⟩ := (h38_.resolve_left h34_)
        refine ⟨?_, ?_⟩
        · skip
          intro h44_
          refine ⟨(la_property_8 h35_ h40_), ?_⟩
          intro h45_
          intro h46_
          refine ⟨?_, ?_⟩
          · skip
            intro h47_
            refine ⟨?_, ?_⟩
            · skip
              intro h48_
              intro r23
              intro h49_
              intro _
              exact trivial
            intro h50_
            intro r28
            intro h51_
            intro _
            exact trivial
          intro h52_
          intro r33
          intro h53_
          intro _
          exact trivial
        intro h54_
        refine ⟨(la_property_8 h35_ h40_), ?_⟩
        intro h55_
        exact trivial
      intro h56_
      exact trivial
    intro h57_
    refine ⟨?_, ?_⟩
    · skip
      intro h58_
      refine ⟨?_, ?_⟩
      · skip
        intro h59_
        intro h60_
        have h61_ := (h60_ h31_)
        obtain ⟨h62_, ⟨h63_, ⟨h64_, ⟨h65_, h66_⟩⟩⟩⟩ := (h25_.resolve_left (la_property_17 h58_ (la_property_16 (la_property_15 h58_) h59_)))
        obtain ⟨h67_, ⟨h68_, ⟨h69_, ⟨h70_, h71_⟩⟩⟩⟩ := (h61_.resolve_left h59_)
        refine ⟨?_, ?_⟩
        · skip
          intro h72_
          refine ⟨(la_property_18 (la_property_16 (la_property_15 h58_) h59_) h67_), ?_⟩
          intro h73_
          intro h74_
          refine ⟨?_, ?_⟩
          · skip
            intro h75_
            refine ⟨?_, ?_⟩
            · skip
              intro h76_
              intro r44
              intro h77_
              intro _
              exact trivial
            intro h78_
            intro r49
            intro h79_
            intro _
            exact trivial
          intro h80_
          intro r54
          intro h81_
          intro _
          exact trivial
        intro h82_
        refine ⟨(la_property_18 (la_property_16 (la_property_15 h58_) h59_) h67_), ?_⟩
        intro h83_
        exact trivial
      intro h84_
      exact trivial
    intro h85_
    obtain ⟨h86_, h87_⟩ := (h32_ h85_)
    intro h88_
    have h89_ := (h88_ h31_)
    obtain ⟨h90_, ⟨h91_, ⟨h92_, ⟨h93_, h94_⟩⟩⟩⟩ := (h89_.resolve_left h85_)
    intro h95_
    have h96_ := (h95_ h5_)
    have h97_ := (h96_ h86_)
    have h98_ := (h97_ h91_)
    have h99_ := (h98_ h92_)
    obtain ⟨h100_, h101_⟩ := (h99_ h17_)
    intro h102_
    have h103_ := (h102_ h100_)
    refine ⟨(la_property_8 h86_ h91_), ?_⟩
    intro h104_
    refine ⟨(la_property_19 h3_ h29_ h57_), ?_⟩
    refine ⟨⟨(la_property_20 h29_), ⟨(la_property_21 h57_), ⟨h100_, (la_property_4 h103_)⟩⟩⟩, ?_⟩
    exact la_property_22
  intro h105_
  exact trivial
set_option maxRecDepth 8000 in
set_option maxHeartbeats 2000000 in
theorem t_property : ∀ (p1 : Int) (p2 : Int) (p3 : Int) (S : sv_S), sm_ok S → sv_R p1 → sv_R p2 → sv_R p3 → (sm_PL (S 1100020) (S 51) (S 52) (S 46) (S 47) (S 1076 0) (S 1086 0) ∧ 0 ≤ (S 1076 0) ∧ (S 1076 0) ≤ 300 ∧ 0 ≤ (S 1084 0) ∧ (S 1084 0) ≤ 3000 ∧ 0 ≤ (S 1086 0) ∧ (S 1086 0) ≤ 2000000000) → sv_T sm_XS sm_cs sm_L sm_sh 1 (q_property p1 p2 p3 S) 199 0 (lv_args 0 [.ref 0, sv_I p1, sv_I p2, sv_I p3]) [] S := by
  intro p1 p2 p3 S hok hp1 hp2 hp3 hpre
  have h := f_property p1 p2 p3 S hok hp1 hp2 hp3 hpre
  have hM := sm_h199
  show sv_T sm_XS sm_cs sm_L sm_sh 1 (q_property p1 p2 p3 S) 199 0 [(0, .ref 0), (1, sv_I p1), (2, sv_I p2), (3, sv_I p3)] [] S
  refine sv_aload_n hM dX12_property_0 rfl rfl ?_
  refine sv_iconst (d := (0 : Int)) hM dX12_property_1 rfl rfl ?_
  refine sv_putI sm_X hM dX12_property_2 sm_fp_289 (sm_a0 _) sm_q0 (Or.inl rfl) rfl rfl rfl rfl ?_
  have ok1 : sm_ok (sv_up S 1000 0 (0 : Int)) := sm_upI hok sm_r1000 (⟨by decide, by decide⟩ : sv_R (0 : Int))
  have md2 : sv_mod [1000] S (sv_up S 1000 0 (0 : Int)) := sv_mod.up sv_mod.rf (by decide)
  refine sv_aload_n hM dX12_property_5 rfl rfl ?_
  have k3 : sv_R (S 1073 0) := sm_okI ok1 sm_r1073 0
  have h := h k3
  refine sv_getI hM dX12_property_6 sm_fl_773 (sm_a0 _) sm_k73 rfl (x := (S 1073 0)) rfl ?_
  refine sv_cond_eq hM dX12_property_9 k3 (t := 30) rfl rfl (fun hc => ?_) (fun hc => ?_)
  · have h := h.1 (hc)
    refine sv_iconst (d := (-1 : Int)) hM dX12_property_30 rfl rfl ?_
    exact sv_iret hM dX12_property_31 rfl rfl ⟨(-1 : Int), rfl, (⟨by decide, by decide⟩ : sv_R (-1 : Int)), ok1, md2, h⟩
  · have h := h.2 (hc)
    refine sv_iload_n hM dX12_property_12 rfl rfl ?_
    refine sv_iconst (d := (0 : Int)) hM dX12_property_13 rfl rfl ?_
    refine sv_aload_n hM dX12_property_14 rfl rfl ?_
    have k4 : sv_R (S 1076 0) := sm_okI ok1 sm_r1076 0
    have h := h k4
    refine sv_getI hM dX12_property_15 sm_fl_843 (sm_a0 _) sm_k76 rfl (x := (S 1076 0)) rfl ?_
    refine sv_iconst (d := (1 : Int)) hM dX12_property_18 rfl rfl ?_
    refine sv_isub hM dX12_property_19 rfl ?_
    obtain ⟨o5, h⟩ := h
    refine sv_callS hM dX12_property_20 sm_iv_899 (Nat.le_of_ble_eq_true rfl) rfl rfl (Nat.le_of_ble_eq_true rfl) sm_h4 (Nat.le_of_ble_eq_true rfl) (Nat.le_of_ble_eq_true rfl) (F' := 0) (Nat.le_of_ble_eq_true rfl) rfl (t_in p1 (0 : Int) ((S 1076 0) - (1 : Int)) (sv_up S 1000 0 (0 : Int)) ok1 hp1 (⟨by decide, by decide⟩ : sv_R (0 : Int)) o5) (fun v S1 hq => ?_)
    obtain ⟨rfl, hS1⟩ := hq
    obtain rfl : (sv_up S 1000 0 (0 : Int)) = S1 := hS1.symm
    show sv_T sm_XS sm_cs sm_L sm_sh 1 (q_property p1 p2 p3 S) 199 23 [(0, .ref 0), (1, sv_I p1), (2, sv_I p2), (3, sv_I p3)] [sv_I (if (0 : Int) ≤ p1 ∧ p1 ≤ ((S 1076 0) - (1 : Int)) then 1 else 0)] (sv_up S 1000 0 (0 : Int))
    refine sv_cond_eq hM dX12_property_23 (sv_Rite : sv_R (if (0 : Int) ≤ p1 ∧ p1 ≤ ((S 1076 0) - (1 : Int)) then 1 else 0)) (t := 30) rfl rfl (fun hc => ?_) (fun hc => ?_)
    · have h := h.1 (sv_iten hc)
      refine sv_iconst (d := (-1 : Int)) hM dX12_property_30 rfl rfl ?_
      exact sv_iret hM dX12_property_31 rfl rfl ⟨(-1 : Int), rfl, (⟨by decide, by decide⟩ : sv_R (-1 : Int)), ok1, md2, h⟩
    · have h := h.2 (sv_itep hc)
      refine sv_iload_n hM dX12_property_26 rfl rfl ?_
      refine sv_cond_ge hM dX12_property_27 hp2 (t := 32) rfl rfl (fun hc => ?_) (fun hc => ?_)
      · have h := h.1 (hc)
        have k6 : (sm_PL (S 1100020) (S 51) (S 52) (S 46) (S 47) (S 1076 0) (S 1086 0) → 0 ≤ p1 → p1 < (S 1076 0) → sm_PC (S 1100020) (S 51) (S 1086 0) (p1) ((S 46 p1))) := fun h a b => sm_PL_fi h p1 a b
        have h := h k6
        have k7 : (sm_PC (S 1100020) (S 51) (S 1086 0) (p1) ((S 46 p1)) → (S 46 p1) = -1 ∨ (0 ≤ (S 46 p1) ∧ (S 46 p1) < 3000 ∧ (S 1100020 (S 46 p1)) = p1 ∧ 0 < (S 51 (S 46 p1)) ∧ (S 51 (S 46 p1)) ≤ (S 1086 0))) := sm_PC_e
        have h := h k7
        refine sv_aload_n hM dX12_property_32 rfl rfl ?_
        refine sv_getA hM dX12_property_33 sm_fl_149 (sm_a0 _) sm_k82 rfl ?_
        refine sv_iload_n hM dX12_property_36 rfl rfl ?_
        obtain ⟨o8, h⟩ := h
        have k9 : sv_R (S 46 p1) := sm_okI ok1 sm_r46 p1
        have h := h k9
        refine sv_iald hM dX12_property_37 (sm_a46 _) (by decide) o8.1 o8.2 rfl (x := (S 46 p1)) rfl ?_
        refine sv_istore hM dX12_property_38 (by decide) rfl ?_
        show sv_T sm_XS sm_cs sm_L sm_sh 1 (q_property p1 p2 p3 S) 199 40 [(0, .ref 0), (1, sv_I p1), (2, sv_I p2), (3, sv_I p3), (4, sv_I (S 46 p1))] [] (sv_up S 1000 0 (0 : Int))
        refine sv_iconst (d := (0 : Int)) hM dX12_property_40 rfl rfl ?_
        refine sv_istore hM dX12_property_41 (by decide) rfl ?_
        show sv_T sm_XS sm_cs sm_L sm_sh 1 (q_property p1 p2 p3 S) 199 43 [(0, .ref 0), (1, sv_I p1), (2, sv_I p2), (3, sv_I p3), (4, sv_I (S 46 p1)), (5, sv_I (0 : Int))] [] (sv_up S 1000 0 (0 : Int))
        obtain ⟨hin13, h⟩ := h
        have hJ : ∀ a : Int × Int × Unit, (sv_R a.1 ∧ sv_R a.2.1 ∧ sm_ok (sv_up S 1000 0 (0 : Int)) ∧ (0 ≤ a.2.1 ∧ a.2.1 ≤ p2 ∧ sm_PC (S 1100020) (S 51) (S 1086 0) (p1) (a.1) ∧ (¬ a.1 = -1 → 0 ≤ a.1 ∧ (S 51 a.1) ≤ (S 1086 0)))) → sv_T sm_XS sm_cs sm_L sm_sh 1 (q_property p1 p2 p3 S) 199 43 [(0, .ref 0), (1, sv_I p1), (2, sv_I p2), (3, sv_I p3), (4, sv_I a.1), (5, sv_I a.2.1)] [] (sv_up S 1000 0 (0 : Int)) := by
          refine sv_loop (α := Int × Int × Unit) (fun a => sv_R a.1 ∧ sv_R a.2.1 ∧ sm_ok (sv_up S 1000 0 (0 : Int)) ∧ (0 ≤ a.2.1 ∧ a.2.1 ≤ p2 ∧ sm_PC (S 1100020) (S 51) (S 1086 0) (p1) (a.1) ∧ (¬ a.1 = -1 → 0 ≤ a.1 ∧ (S 51 a.1) ≤ (S 1086 0)))) (fun a => p2 - a.2.1) (fun a => sv_T sm_XS sm_cs sm_L sm_sh 1 (q_property p1 p2 p3 S) 199 43 [(0, .ref 0), (1, sv_I p1), (2, sv_I p2), (3, sv_I p3), (4, sv_I a.1), (5, sv_I a.2.1)] [] (sv_up S 1000 0 (0 : Int))) (fun a q => (h a.1 q.1 a.2.1 q.2.1 q.2.2.2).1) (fun a q ih12 => ?_)
          obtain ⟨l4_10, l5_11, _u⟩ := a
          obtain ⟨hl4_10, hl5_11, ok14, hin13i⟩ := q
          have h := (h l4_10 hl4_10 l5_11 hl5_11 hin13i).2
          show sv_T sm_XS sm_cs sm_L sm_sh 1 (q_property p1 p2 p3 S) 199 43 [(0, .ref 0), (1, sv_I p1), (2, sv_I p2), (3, sv_I p3), (4, sv_I l4_10), (5, sv_I l5_11)] [] (sv_up S 1000 0 (0 : Int))
          refine sv_iload hM dX12_property_43 rfl rfl ?_
          refine sv_iload_n hM dX12_property_45 rfl rfl ?_
          refine sv_icmp_ge hM dX12_property_46 hl5_11 hp2 (t := 70) rfl rfl (fun hc => ?_) (fun hc => ?_)
          · have h := h.1 (hc)
            refine sv_iload hM dX12_property_70 rfl rfl ?_
            refine sv_iconst (d := (-1 : Int)) hM dX12_property_72 rfl rfl ?_
            refine sv_icmp_ne hM dX12_property_73 hl4_10 (⟨by decide, by decide⟩ : sv_R (-1 : Int)) (t := 78) rfl rfl (fun hc => ?_) (fun hc => ?_)
            · have h := h.1 (hc)
              have k15 : (sm_PC (S 1100020) (S 51) (S 1086 0) (p1) (l4_10) → l4_10 = -1 ∨ (0 ≤ l4_10 ∧ l4_10 < 3000 ∧ (S 1100020 l4_10) = p1 ∧ 0 < (S 51 l4_10) ∧ (S 51 l4_10) ≤ (S 1086 0))) := sm_PC_e
              have h := h k15
              refine sv_iload_n hM dX12_property_78 rfl rfl ?_
              refine sv_cond_ne hM dX12_property_79 hp3 (t := 92) rfl rfl (fun hc => ?_) (fun hc => ?_)
              · have h := h.1 (hc)
                refine sv_aload_n hM dX12_property_92 rfl rfl ?_
                refine sv_aload_n hM dX12_property_93 rfl rfl ?_
                refine sv_getA hM dX12_property_94 sm_fl_158 (sm_a0 _) sm_k88 rfl ?_
                refine sv_iload hM dX12_property_97 rfl rfl ?_
                obtain ⟨o16, h⟩ := h
                have k17 : sv_R (S 49 l4_10) := sm_okI ok14 sm_r49 l4_10
                have h := h k17
                refine sv_iald hM dX12_property_99 (sm_a49 _) (by decide) o16.1 o16.2 rfl (x := (S 49 l4_10)) rfl ?_
                refine sv_aload_n hM dX12_property_100 rfl rfl ?_
                refine sv_getA hM dX12_property_101 sm_fl_161 (sm_a0 _) sm_k89 rfl ?_
                refine sv_iload hM dX12_property_104 rfl rfl ?_
                have k18 : sv_R (S 50 l4_10) := sm_okI ok14 sm_r50 l4_10
                have h := h k18
                refine sv_iald hM dX12_property_106 (sm_a50 _) (by decide) o16.1 o16.2 rfl (x := (S 50 l4_10)) rfl ?_
                refine sv_iload_n hM dX12_property_107 rfl rfl ?_
                refine sv_iconst (d := (1 : Int)) hM dX12_property_108 rfl rfl ?_
                refine sv_icmp_ne hM dX12_property_109 hp3 (⟨by decide, by decide⟩ : sv_R (1 : Int)) (t := 116) rfl rfl (fun hc => ?_) (fun hc => ?_)
                · have h := h.1 (hc)
                  refine sv_iload_n hM dX12_property_116 rfl rfl ?_
                  refine sv_iconst (d := (2 : Int)) hM dX12_property_117 rfl rfl ?_
                  refine sv_icmp_ne hM dX12_property_118 hp3 (⟨by decide, by decide⟩ : sv_R (2 : Int)) (t := 125) rfl rfl (fun hc => ?_) (fun hc => ?_)
                  · have h := h.1 (hc)
                    refine sv_iconst (d := (-1 : Int)) hM dX12_property_125 rfl rfl ?_
                    refine sv_callV hM dX12_property_126 sm_iv_1037 (by decide) (sm_a0 _) rfl rfl (Nat.le_of_ble_eq_true rfl) sm_h196 (Nat.le_of_ble_eq_true rfl) (Nat.le_of_ble_eq_true rfl) (F' := 0) (Nat.le_of_ble_eq_true rfl) rfl (t_told (S 49 l4_10) (S 50 l4_10) (-1 : Int) (sv_up S 1000 0 (0 : Int)) ok14 k17 k18 (⟨by decide, by decide⟩ : sv_R (-1 : Int))) (fun v S1 hq => ?_)
                    obtain ⟨r23, rfl, hr23, ok20, md21, hpo22⟩ := hq
                    obtain rfl : (sv_up S 1000 0 (0 : Int)) = S1 := (funext fun j => md21 j (by intro q; cases q)).symm
                    show sv_T sm_XS sm_cs sm_L sm_sh 1 (q_property p1 p2 p3 S) 199 129 [(0, .ref 0), (1, sv_I p1), (2, sv_I p2), (3, sv_I p3), (4, sv_I l4_10), (5, sv_I l5_11)] [sv_I r23] (sv_up S 1000 0 (0 : Int))
                    have h := h r23 hr23 hpo22
                    exact sv_iret hM dX12_property_129 rfl rfl ⟨r23, rfl, hr23, ok20, md2, h⟩
                  · have h := h.2 (hc)
                    refine sv_iconst (d := (1 : Int)) hM dX12_property_121 rfl rfl ?_
                    refine sv_goto hM dX12_property_122 (pc' := 126) rfl ?_
                    refine sv_callV hM dX12_property_126 sm_iv_1037 (by decide) (sm_a0 _) rfl rfl (Nat.le_of_ble_eq_true rfl) sm_h196 (Nat.le_of_ble_eq_true rfl) (Nat.le_of_ble_eq_true rfl) (F' := 0) (Nat.le_of_ble_eq_true rfl) rfl (t_told (S 49 l4_10) (S 50 l4_10) (1 : Int) (sv_up S 1000 0 (0 : Int)) ok14 k17 k18 (⟨by decide, by decide⟩ : sv_R (1 : Int))) (fun v S1 hq => ?_)
                    obtain ⟨r28, rfl, hr28, ok25, md26, hpo27⟩ := hq
                    obtain rfl : (sv_up S 1000 0 (0 : Int)) = S1 := (funext fun j => md26 j (by intro q; cases q)).symm
                    show sv_T sm_XS sm_cs sm_L sm_sh 1 (q_property p1 p2 p3 S) 199 129 [(0, .ref 0), (1, sv_I p1), (2, sv_I p2), (3, sv_I p3), (4, sv_I l4_10), (5, sv_I l5_11)] [sv_I r28] (sv_up S 1000 0 (0 : Int))
                    have h := h r28 hr28 hpo27
                    exact sv_iret hM dX12_property_129 rfl rfl ⟨r28, rfl, hr28, ok25, md2, h⟩
                · have h := h.2 (hc)
                  refine sv_iconst (d := (0 : Int)) hM dX12_property_112 rfl rfl ?_
                  refine sv_goto hM dX12_property_113 (pc' := 126) rfl ?_
                  refine sv_callV hM dX12_property_126 sm_iv_1037 (by decide) (sm_a0 _) rfl rfl (Nat.le_of_ble_eq_true rfl) sm_h196 (Nat.le_of_ble_eq_true rfl) (Nat.le_of_ble_eq_true rfl) (F' := 0) (Nat.le_of_ble_eq_true rfl) rfl (t_told (S 49 l4_10) (S 50 l4_10) (0 : Int) (sv_up S 1000 0 (0 : Int)) ok14 k17 k18 (⟨by decide, by decide⟩ : sv_R (0 : Int))) (fun v S1 hq => ?_)
                  obtain ⟨r33, rfl, hr33, ok30, md31, hpo32⟩ := hq
                  obtain rfl : (sv_up S 1000 0 (0 : Int)) = S1 := (funext fun j => md31 j (by intro q; cases q)).symm
                  show sv_T sm_XS sm_cs sm_L sm_sh 1 (q_property p1 p2 p3 S) 199 129 [(0, .ref 0), (1, sv_I p1), (2, sv_I p2), (3, sv_I p3), (4, sv_I l4_10), (5, sv_I l5_11)] [sv_I r33] (sv_up S 1000 0 (0 : Int))
                  have h := h r33 hr33 hpo32
                  exact sv_iret hM dX12_property_129 rfl rfl ⟨r33, rfl, hr33, ok30, md2, h⟩
              · have h := h.2 (hc)
                refine sv_aload_n hM dX12_property_82 rfl rfl ?_
                refine sv_getA hM dX12_property_83 sm_fl_155 (sm_a0 _) sm_k87 rfl ?_
                refine sv_iload hM dX12_property_86 rfl rfl ?_
                obtain ⟨o34, h⟩ := h
                have k35 : sv_R (S 48 l4_10) := sm_okI ok14 sm_r48 l4_10
                have h := h k35
                refine sv_iald hM dX12_property_88 (sm_a48 _) (by decide) o34.1 o34.2 rfl (x := (S 48 l4_10)) rfl ?_
                refine sv_goto hM dX12_property_89 (pc' := 129) rfl ?_
                exact sv_iret hM dX12_property_129 rfl rfl ⟨(S 48 l4_10), rfl, k35, ok14, md2, h⟩
            · have h := h.2 (hc)
              refine sv_iconst (d := (-1 : Int)) hM dX12_property_76 rfl rfl ?_
              exact sv_iret hM dX12_property_77 rfl rfl ⟨(-1 : Int), rfl, (⟨by decide, by decide⟩ : sv_R (-1 : Int)), ok14, md2, h⟩
          · have h := h.2 (hc)
            refine sv_iload hM dX12_property_49 rfl rfl ?_
            refine sv_iconst (d := (-1 : Int)) hM dX12_property_51 rfl rfl ?_
            refine sv_icmp_eq hM dX12_property_52 hl4_10 (⟨by decide, by decide⟩ : sv_R (-1 : Int)) (t := 70) rfl rfl (fun hc => ?_) (fun hc => ?_)
            · have h := h.1 (hc)
              refine sv_iload hM dX12_property_70 rfl rfl ?_
              refine sv_iconst (d := (-1 : Int)) hM dX12_property_72 rfl rfl ?_
              refine sv_icmp_ne hM dX12_property_73 hl4_10 (⟨by decide, by decide⟩ : sv_R (-1 : Int)) (t := 78) rfl rfl (fun hc => ?_) (fun hc => ?_)
              · have h := h.1 (hc)
                have k36 : (sm_PC (S 1100020) (S 51) (S 1086 0) (p1) (l4_10) → l4_10 = -1 ∨ (0 ≤ l4_10 ∧ l4_10 < 3000 ∧ (S 1100020 l4_10) = p1 ∧ 0 < (S 51 l4_10) ∧ (S 51 l4_10) ≤ (S 1086 0))) := sm_PC_e
                have h := h k36
                refine sv_iload_n hM dX12_property_78 rfl rfl ?_
                refine sv_cond_ne hM dX12_property_79 hp3 (t := 92) rfl rfl (fun hc => ?_) (fun hc => ?_)
                · have h := h.1 (hc)
                  refine sv_aload_n hM dX12_property_92 rfl rfl ?_
                  refine sv_aload_n hM dX12_property_93 rfl rfl ?_
                  refine sv_getA hM dX12_property_94 sm_fl_158 (sm_a0 _) sm_k88 rfl ?_
                  refine sv_iload hM dX12_property_97 rfl rfl ?_
                  obtain ⟨o37, h⟩ := h
                  have k38 : sv_R (S 49 l4_10) := sm_okI ok14 sm_r49 l4_10
                  have h := h k38
                  refine sv_iald hM dX12_property_99 (sm_a49 _) (by decide) o37.1 o37.2 rfl (x := (S 49 l4_10)) rfl ?_
                  refine sv_aload_n hM dX12_property_100 rfl rfl ?_
                  refine sv_getA hM dX12_property_101 sm_fl_161 (sm_a0 _) sm_k89 rfl ?_
                  refine sv_iload hM dX12_property_104 rfl rfl ?_
                  have k39 : sv_R (S 50 l4_10) := sm_okI ok14 sm_r50 l4_10
                  have h := h k39
                  refine sv_iald hM dX12_property_106 (sm_a50 _) (by decide) o37.1 o37.2 rfl (x := (S 50 l4_10)) rfl ?_
                  refine sv_iload_n hM dX12_property_107 rfl rfl ?_
                  refine sv_iconst (d := (1 : Int)) hM dX12_property_108 rfl rfl ?_
                  refine sv_icmp_ne hM dX12_property_109 hp3 (⟨by decide, by decide⟩ : sv_R (1 : Int)) (t := 116) rfl rfl (fun hc => ?_) (fun hc => ?_)
                  · have h := h.1 (hc)
                    refine sv_iload_n hM dX12_property_116 rfl rfl ?_
                    refine sv_iconst (d := (2 : Int)) hM dX12_property_117 rfl rfl ?_
                    refine sv_icmp_ne hM dX12_property_118 hp3 (⟨by decide, by decide⟩ : sv_R (2 : Int)) (t := 125) rfl rfl (fun hc => ?_) (fun hc => ?_)
                    · have h := h.1 (hc)
                      refine sv_iconst (d := (-1 : Int)) hM dX12_property_125 rfl rfl ?_
                      refine sv_callV hM dX12_property_126 sm_iv_1037 (by decide) (sm_a0 _) rfl rfl (Nat.le_of_ble_eq_true rfl) sm_h196 (Nat.le_of_ble_eq_true rfl) (Nat.le_of_ble_eq_true rfl) (F' := 0) (Nat.le_of_ble_eq_true rfl) rfl (t_told (S 49 l4_10) (S 50 l4_10) (-1 : Int) (sv_up S 1000 0 (0 : Int)) ok14 k38 k39 (⟨by decide, by decide⟩ : sv_R (-1 : Int))) (fun v S1 hq => ?_)
                      obtain ⟨r44, rfl, hr44, ok41, md42, hpo43⟩ := hq
                      obtain rfl : (sv_up S 1000 0 (0 : Int)) = S1 := (funext fun j => md42 j (by intro q; cases q)).symm
                      show sv_T sm_XS sm_cs sm_L sm_sh 1 (q_property p1 p2 p3 S) 199 129 [(0, .ref 0), (1, sv_I p1), (2, sv_I p2), (3, sv_I p3), (4, sv_I l4_10), (5, sv_I l5_11)] [sv_I r44] (sv_up S 1000 0 (0 : Int))
                      have h := h r44 hr44 hpo43
                      exact sv_iret hM dX12_property_129 rfl rfl ⟨r44, rfl, hr44, ok41, md2, h⟩
                    · have h := h.2 (hc)
                      refine sv_iconst (d := (1 : Int)) hM dX12_property_121 rfl rfl ?_
                      refine sv_goto hM dX12_property_122 (pc' := 126) rfl ?_
                      refine sv_callV hM dX12_property_126 sm_iv_1037 (by decide) (sm_a0 _) rfl rfl (Nat.le_of_ble_eq_true rfl) sm_h196 (Nat.le_of_ble_eq_true rfl) (Nat.le_of_ble_eq_true rfl) (F' := 0) (Nat.le_of_ble_eq_true rfl) rfl (t_told (S 49 l4_10) (S 50 l4_10) (1 : Int) (sv_up S 1000 0 (0 : Int)) ok14 k38 k39 (⟨by decide, by decide⟩ : sv_R (1 : Int))) (fun v S1 hq => ?_)
                      obtain ⟨r49, rfl, hr49, ok46, md47, hpo48⟩ := hq
                      obtain rfl : (sv_up S 1000 0 (0 : Int)) = S1 := (funext fun j => md47 j (by intro q; cases q)).symm
                      show sv_T sm_XS sm_cs sm_L sm_sh 1 (q_property p1 p2 p3 S) 199 129 [(0, .ref 0), (1, sv_I p1), (2, sv_I p2), (3, sv_I p3), (4, sv_I l4_10), (5, sv_I l5_11)] [sv_I r49] (sv_up S 1000 0 (0 : Int))
                      have h := h r49 hr49 hpo48
                      exact sv_iret hM dX12_property_129 rfl rfl ⟨r49, rfl, hr49, ok46, md2, h⟩
                  · have h := h.2 (hc)
                    refine sv_iconst (d := (0 : Int)) hM dX12_property_112 rfl rfl ?_
                    refine sv_goto hM dX12_property_113 (pc' := 126) rfl ?_
                    refine sv_callV hM dX12_property_126 sm_iv_1037 (by decide) (sm_a0 _) rfl rfl (Nat.le_of_ble_eq_true rfl) sm_h196 (Nat.le_of_ble_eq_true rfl) (Nat.le_of_ble_eq_true rfl) (F' := 0) (Nat.le_of_ble_eq_true rfl) rfl (t_told (S 49 l4_10) (S 50 l4_10) (0 : Int) (sv_up S 1000 0 (0 : Int)) ok14 k38 k39 (⟨by decide, by decide⟩ : sv_R (0 : Int))) (fun v S1 hq => ?_)
                    obtain ⟨r54, rfl, hr54, ok51, md52, hpo53⟩ := hq
                    obtain rfl : (sv_up S 1000 0 (0 : Int)) = S1 := (funext fun j => md52 j (by intro q; cases q)).symm
                    show sv_T sm_XS sm_cs sm_L sm_sh 1 (q_property p1 p2 p3 S) 199 129 [(0, .ref 0), (1, sv_I p1), (2, sv_I p2), (3, sv_I p3), (4, sv_I l4_10), (5, sv_I l5_11)] [sv_I r54] (sv_up S 1000 0 (0 : Int))
                    have h := h r54 hr54 hpo53
                    exact sv_iret hM dX12_property_129 rfl rfl ⟨r54, rfl, hr54, ok51, md2, h⟩
                · have h := h.2 (hc)
                  refine sv_aload_n hM dX12_property_82 rfl rfl ?_
                  refine sv_getA hM dX12_property_83 sm_fl_155 (sm_a0 _) sm_k87 rfl ?_
                  refine sv_iload hM dX12_property_86 rfl rfl ?_
                  obtain ⟨o55, h⟩ := h
                  have k56 : sv_R (S 48 l4_10) := sm_okI ok14 sm_r48 l4_10
                  have h := h k56
                  refine sv_iald hM dX12_property_88 (sm_a48 _) (by decide) o55.1 o55.2 rfl (x := (S 48 l4_10)) rfl ?_
                  refine sv_goto hM dX12_property_89 (pc' := 129) rfl ?_
                  exact sv_iret hM dX12_property_129 rfl rfl ⟨(S 48 l4_10), rfl, k56, ok14, md2, h⟩
              · have h := h.2 (hc)
                refine sv_iconst (d := (-1 : Int)) hM dX12_property_76 rfl rfl ?_
                exact sv_iret hM dX12_property_77 rfl rfl ⟨(-1 : Int), rfl, (⟨by decide, by decide⟩ : sv_R (-1 : Int)), ok14, md2, h⟩
            · have h := h.2 (hc)
              have k57 : (sm_PC (S 1100020) (S 51) (S 1086 0) (p1) (l4_10) → l4_10 = -1 ∨ (0 ≤ l4_10 ∧ l4_10 < 3000 ∧ (S 1100020 l4_10) = p1 ∧ 0 < (S 51 l4_10) ∧ (S 51 l4_10) ≤ (S 1086 0))) := sm_PC_e
              have h := h k57
              have k58 : (sm_PL (S 1100020) (S 51) (S 52) (S 46) (S 47) (S 1076 0) (S 1086 0) → 0 ≤ l4_10 → l4_10 < 3000 → (S 1100020 l4_10) = p1 → 0 ≤ p1 → sm_PC (S 1100020) (S 51) (S 1086 0) (p1) ((S 52 l4_10)) ∧ (¬ (S 52 l4_10) = -1 → (S 51 l4_10) < (S 51 (S 52 l4_10)))) := fun h a b c d => sm_PL_ne h _ a b c d
              have h := h k58
              have k59 : (sm_PC (S 1100020) (S 51) (S 1086 0) (p1) ((S 52 l4_10)) → (S 52 l4_10) = -1 ∨ (0 ≤ (S 52 l4_10) ∧ (S 52 l4_10) < 3000 ∧ (S 1100020 (S 52 l4_10)) = p1 ∧ 0 < (S 51 (S 52 l4_10)) ∧ (S 51 (S 52 l4_10)) ≤ (S 1086 0))) := sm_PC_e
              have h := h k59
              refine sv_aload_n hM dX12_property_55 rfl rfl ?_
              refine sv_getA hM dX12_property_56 sm_fl_167 (sm_a0 _) sm_k91 rfl ?_
              refine sv_iload hM dX12_property_59 rfl rfl ?_
              obtain ⟨o60, h⟩ := h
              have k61 : sv_R (S 52 l4_10) := sm_okI ok14 sm_r52 l4_10
              have h := h k61
              refine sv_iald hM dX12_property_61 (sm_a52 _) (by decide) o60.1 o60.2 rfl (x := (S 52 l4_10)) rfl ?_
              refine sv_istore hM dX12_property_62 (by decide) rfl ?_
              show sv_T sm_XS sm_cs sm_L sm_sh 1 (q_property p1 p2 p3 S) 199 64 [(0, .ref 0), (1, sv_I p1), (2, sv_I p2), (3, sv_I p3), (4, sv_I (S 52 l4_10)), (5, sv_I l5_11)] [] (sv_up S 1000 0 (0 : Int))
              refine sv_iinc (d := (1 : Int)) hM dX12_property_64 rfl (by decide) rfl rfl ?_
              show sv_T sm_XS sm_cs sm_L sm_sh 1 (q_property p1 p2 p3 S) 199 67 [(0, .ref 0), (1, sv_I p1), (2, sv_I p2), (3, sv_I p3), (4, sv_I (S 52 l4_10)), (5, sv_I (l5_11 + (1 : Int)))] [] (sv_up S 1000 0 (0 : Int))
              refine sv_goto hM dX12_property_67 (pc' := 43) rfl ?_
              obtain ⟨o62, h⟩ := h
              have hb := ih12 ((S 52 l4_10), (l5_11 + (1 : Int)), ()) ⟨k61, o62, ok14, h.1⟩ h.2
              exact sv_less (lv := [(0, .ref 0), (1, sv_I p1), (2, sv_I p2), (3, sv_I p3), (4, sv_I (S 52 l4_10)), (5, sv_I (l5_11 + (1 : Int)))]) (sv_Sub_cons rfl (sv_Sub_cons rfl (sv_Sub_cons rfl (sv_Sub_cons rfl (sv_Sub_cons rfl (sv_Sub_cons rfl sv_Sub_nil)))))) hb
        exact hJ ((S 46 p1), (0 : Int), ()) ⟨k9, (⟨by decide, by decide⟩ : sv_R (0 : Int)), ok1, hin13⟩
      · have h := h.2 (hc)
        refine sv_iconst (d := (-1 : Int)) hM dX12_property_30 rfl rfl ?_
        exact sv_iret hM dX12_property_31 rfl rfl ⟨(-1 : Int), rfl, (⟨by decide, by decide⟩ : sv_R (-1 : Int)), ok1, md2, h⟩
def q_value_ (p1 : Int) (p2 : Int) (p3 : Int) (S : sv_S) : Option Value → sv_S → Prop := fun v S' => ∃ r : Int, v = some (sv_I r) ∧ sv_R r ∧ sm_ok S' ∧ sv_mod [1000] S S' ∧ (True)
theorem la_value__0 {x0 : Int} (h0 : 0 ≤ x0) (h1 : x0 ≤ 24) : sv_R (x0 - 1) := by omega
theorem la_value__1 {x0 x1 x2 : Int} (h0 : x0 ≤ x1 - 1) (h1 : x1 - 1 - x0 = x2) : 0 ≤ x2 := by omega
theorem la_value__2 {x0 x1 x2 : Int} (h0 : 0 ≤ x0) (h1 : x1 - 1 - x0 = x2) : x2 < x1 := by omega
theorem la_value__3 {x0 x1 x2 : Int} (h0 : x0 ≤ 24) (h1 : 0 ≤ x1) (h2 : x1 ≤ x0 - 1) (h3 : x0 - 1 - x1 = x2) : 0 ≤ x2 ∧ x2 < 24 := by omega
theorem la_value__4 {x0 : Int} (h0 : 0 ≤ x0) (h1 : x0 ≤ 400) : sv_R (x0 - 1) := by omega
theorem la_value__5 {x0 : Int} (h0 : 0 ≤ x0) : (-1) ≤ x0 := by omega
theorem la_value__6 {x0 : Int} (h0 : (-1) ≤ x0) (h1 : ¬ x0 = (-1)) : (-1) < x0 := by omega
theorem la_value__7 {x0 x1 x2 x3 x4 x5 : Int} (h0 : x0 ≤ 24) (h1 : 0 ≤ x1) (h2 : x1 ≤ x0 - 1) (h3 : x0 - 1 - x1 = x2) (h4 : x3 ≤ 400) (h5 : 0 ≤ x4) (h6 : x4 ≤ x3 - 1) (h7 : 400 * x2 + x4 = x5) : 0 ≤ x5 ∧ x5 < 9600 := by omega
theorem la_value__8 {x0 x1 : Int} (h0 : x0 ≤ x1 - 1) : x0 < x1 := by omega
theorem la_value__9 {x0 x1 x2 x3 x4 x5 : Int} (h0 : x0 ≤ 24) (h1 : 0 ≤ x1) (h2 : x1 ≤ x0 - 1) (h3 : x0 - 1 - x1 = x2) (h4 : x3 ≤ 400) (h5 : x4 ≤ x3 - 1) (h6 : (-1) < x4) (h7 : 400 * x2 + x4 = x5) : sv_R x5 := by omega
theorem la_value__10 {x0 x1 x2 x3 x4 : Int} (h0 : x0 ≤ x1 - 1) (h1 : x1 - 1 - x0 = x2) (h2 : 0 ≤ x3) (h3 : 400 * x2 + x3 = x4) : 0 ≤ x4 := by omega
theorem la_value__11 {x0 x1 x2 x3 x4 x5 : Int} (h0 : x0 ≤ 24) (h1 : 0 ≤ x1) (h2 : x0 - 1 - x1 = x2) (h3 : x3 ≤ 400) (h4 : x4 ≤ x3 - 1) (h5 : 400 * x2 + x4 = x5) : x5 < 9600 := by omega
theorem la_value__12 {x0 x1 x2 : Int} (h0 : 400 * x0 + x1 = x2) : x2 = 400 * x0 + x1 := by omega
theorem la_value__13 {x0 x1 : Int} (h0 : ¬ ¬ x0 = 8) (h1 : x0 = x1) : x1 = 8 := by omega
theorem la_value__14 {x0 x1 : Int} (h0 : x0 = x1) (h1 : (-1) ≤ x1) : (-1) ≤ x0 := by omega
theorem la_value__15 {x0 x1 x2 : Int} (h0 : x0 = x1) (h1 : x1 < x2) : x0 < x2 := by omega
set_option maxHeartbeats 2000000 in
theorem f_value_ : ∀ (p1 : Int) (p2 : Int) (p3 : Int) (S : sv_S), sm_ok S → sv_R p1 → sv_R p2 → sv_R p3 → (sm_PL (S 1100020) (S 51) (S 52) (S 46) (S 47) (S 1076 0) (S 1086 0) ∧ 0 ≤ (S 1076 0) ∧ (S 1076 0) ≤ 300 ∧ 0 ≤ (S 1084 0) ∧ (S 1084 0) ≤ 3000 ∧ 0 ≤ (S 1086 0) ∧ (S 1086 0) ≤ 2000000000 ∧ 0 ≤ (S 1092 0) ∧ (S 1092 0) ≤ 24 ∧ sm_LX (S 58) (S 63) (S 64) (S 1092 0) (S 1076 0)) → (sv_R (S 1073 0) → ((((S 1073 0) = (0 : Int)) → (True)) ∧ ((¬ ((S 1073 0) = (0 : Int))) → (sv_R (S 1092 0) → (sv_R ((S 1092 0) - (1 : Int))) ∧ ((((0 : Int) ≤ p1 ∧ p1 ≤ ((S 1092 0) - (1 : Int))) → (∀ x6 : Int, (((S 1092 0) - (1 : Int)) - p1) = x6 → (((¬ p2 = (-1 : Int)) → ((sm_LX (S 58) (S 63) (S 64) (S 1092 0) (S 1076 0) → 0 ≤ x6 → x6 < (S 1092 0) → 0 ≤ (S 58 x6) ∧ (S 58 x6) ≤ 400) → (0 ≤ x6 ∧ x6 < 24) ∧ (sv_R (S 58 x6) → (sv_R ((S 58 x6) - (1 : Int))) ∧ ((((0 : Int) ≤ p2 ∧ p2 ≤ ((S 58 x6) - (1 : Int))) → (∀ x12 : Int, (((400 : Int) * x6) + p2) = x12 → (0 ≤ x12 ∧ x12 < 9600) ∧ (sv_R (S 63 x12) → ((sm_LX (S 58) (S 63) (S 64) (S 1092 0) (S 1076 0) → 0 ≤ x6 → x6 < (S 1092 0) → 0 ≤ p2 → p2 < (S 58 x6) → (S 63 (400 * x6 + p2)) = 8 → -1 ≤ (S 64 (400 * x6 + p2)) ∧ (S 64 (400 * x6 + p2)) < (S 1076 0)) → (((¬ (S 63 x12) = (8 : Int)) → (sv_R (S 64 x12) → (∀ r22 : Int, sv_R r22 → (True) → (True)))) ∧ ((¬ (¬ (S 63 x12) = (8 : Int))) → (((¬ p3 = (1 : Int)) → (sv_R (S 64 x12) → (∀ r28 : Int, sv_R r28 → (True) → (True)))) ∧ ((¬ (¬ p3 = (1 : Int))) → (sv_R x12) ∧ (sm_PL (S 1100020) (S 51) (S 52) (S 46) (S 47) (S 1076 0) (S 1086 0) ∧ 0 ≤ (S 1076 0) ∧ (S 1076 0) ≤ 300 ∧ 0 ≤ (S 1084 0) ∧ (S 1084 0) ≤ 3000 ∧ 0 ≤ (S 1086 0) ∧ (S 1086 0) ≤ 2000000000 ∧ 0 ≤ x12 ∧ x12 < 9600 ∧ -1 ≤ (S 64 x12) ∧ (S 64 x12) < (S 1076 0)) ∧ (∀ r35 : Int, sv_R r35 → (0 ≤ r35) → (True)))))))))) ∧ ((¬ ((0 : Int) ≤ p2 ∧ p2 ≤ ((S 58 x6) - (1 : Int)))) → (True)))))) ∧ ((¬ (¬ p2 = (-1 : Int))) → (0 ≤ x6 ∧ x6 < 24) ∧ (sv_R (S 55 x6) → (sv_R (S 56 x6) → (∀ r43 : Int, sv_R r43 → (True) → (True)))))))) ∧ ((¬ ((0 : Int) ≤ p1 ∧ p1 ≤ ((S 1092 0) - (1 : Int)))) → (True))))))) := by
  intro p1
  intro p2
  intro p3
  intro S
  intro h1_
  intro h2_
  intro h3_
  intro h4_
  rintro ⟨h5_, ⟨h6_, ⟨h7_, ⟨h8_, ⟨h9_, ⟨h10_, ⟨h11_, ⟨h12_, ⟨h13_, h14_⟩⟩⟩⟩⟩⟩⟩⟩⟩
  intro h15_
  refine ⟨?_, ?_⟩
  · skip
    intro h16_
    exact trivial
  intro h17_
  intro h18_
  refine ⟨(la_value__0 h12_ h13_), ?_⟩
  refine ⟨?_, ?_⟩
  · skip
    rintro ⟨h19_, h20_⟩
    intro x6
    intro h21_
    refine ⟨?_, ?_⟩
    · skip
      intro h22_
      intro h23_
      have h24_ := (h23_ h14_)
      have h25_ := (h24_ (la_value__1 h20_ h21_))
      obtain ⟨h26_, h27_⟩ := (h25_ (la_value__2 h19_ h21_))
      refine ⟨(la_value__3 h13_ h19_ h20_ h21_), ?_⟩
      intro h28_
      refine ⟨(la_value__4 h26_ h27_), ?_⟩
      refine ⟨?_, ?_⟩
      · skip
        rintro ⟨h29_, h30_⟩
        intro x12
        intro h31_
        refine ⟨(la_value__7 h13_ h19_ h20_ h21_ h27_ h29_ h30_ h31_), ?_⟩
        intro h32_
        intro h33_
        have h34_ := (h33_ h14_)
        have h35_ := (h34_ (la_value__1 h20_ h21_))
        have h36_ := (h35_ (la_value__2 h19_ h21_))
        have h37_ := (h36_ h29_)
        have h38_ := (h37_ (la_value__8 h30_))
        refine ⟨?_, ?_⟩
        · skip
          intro h39_
          intro h40_
          intro r22
          intro h41_
          intro _
          exact trivial
        intro h42_
        refine ⟨?_, ?_⟩
        · skip
          intro h43_
          intro h44_
          intro r28
          intro h45_
          intro _
          exact trivial
        intro h46_
        refine ⟨(la_value__9 h13_ h19_ h20_ h21_ h27_ h30_ (la_value__6 (la_value__5 h29_) h22_) h31_), ?_⟩
        refine ⟨?_, ?_⟩
        · skip
          refine ⟨h5_, ?_⟩
          refine ⟨h6_, ?_⟩
          refine ⟨h7_, ?_⟩
          refine ⟨h8_, ?_⟩
          refine ⟨h9_, ?_⟩
          refine ⟨h10_, ?_⟩
          refine ⟨h11_, ?_⟩
          refine ⟨(la_value__10 h20_ h21_ h29_ h31_), ?_⟩
          refine ⟨(la_value__11 h13_ h19_ h21_ h27_ h30_ h31_), ?_⟩
          refine ⟨?_, ?_⟩
          · skip
            have e47_ : S 63 x12 = S 63 (400 * x6 + p2) := congrArg ((S 63)) (la_value__12 h31_)
            have e48_ : S 64 x12 = S 64 (400 * x6 + p2) := congrArg ((S 64)) (la_value__12 h31_)
            obtain ⟨h49_, h50_⟩ := (h38_ (la_value__13 h42_ e47_))
            exact (la_value__14 e48_ h49_)
          have e51_ : S 63 x12 = S 63 (400 * x6 + p2) := congrArg ((S 63)) (la_value__12 h31_)
          have e52_ : S 64 x12 = S 64 (400 * x6 + p2) := congrArg ((S 64)) (la_value__12 h31_)
          obtain ⟨h53_, h54_⟩ := (h38_ (la_value__13 h42_ e51_))
          exact (la_value__15 e52_ h54_)
        intro r35
        intro h55_
        intro h56_
        exact trivial
      intro h57_
      exact trivial
    intro h58_
    refine ⟨(la_value__3 h13_ h19_ h20_ h21_), ?_⟩
    intro h59_
    intro h60_
    intro r43
    intro h61_
    intro _
    exact trivial
  intro h62_
  exact trivial
set_option maxRecDepth 8000 in
set_option maxHeartbeats 2000000 in
theorem t_value_ : ∀ (p1 : Int) (p2 : Int) (p3 : Int) (S : sv_S), sm_ok S → sv_R p1 → sv_R p2 → sv_R p3 → (sm_PL (S 1100020) (S 51) (S 52) (S 46) (S 47) (S 1076 0) (S 1086 0) ∧ 0 ≤ (S 1076 0) ∧ (S 1076 0) ≤ 300 ∧ 0 ≤ (S 1084 0) ∧ (S 1084 0) ≤ 3000 ∧ 0 ≤ (S 1086 0) ∧ (S 1086 0) ≤ 2000000000 ∧ 0 ≤ (S 1092 0) ∧ (S 1092 0) ≤ 24 ∧ sm_LX (S 58) (S 63) (S 64) (S 1092 0) (S 1076 0)) → sv_T sm_XS sm_cs sm_L sm_sh 1 (q_value_ p1 p2 p3 S) 197 0 (lv_args 0 [.ref 0, sv_I p1, sv_I p2, sv_I p3]) [] S := by
  intro p1 p2 p3 S hok hp1 hp2 hp3 hpre
  have h := f_value_ p1 p2 p3 S hok hp1 hp2 hp3 hpre
  have hM := sm_h197
  show sv_T sm_XS sm_cs sm_L sm_sh 1 (q_value_ p1 p2 p3 S) 197 0 [(0, .ref 0), (1, sv_I p1), (2, sv_I p2), (3, sv_I p3)] [] S
  refine sv_aload_n hM dX12_value__0 rfl rfl ?_
  refine sv_iconst (d := (0 : Int)) hM dX12_value__1 rfl rfl ?_
  refine sv_putI sm_X hM dX12_value__2 sm_fp_289 (sm_a0 _) sm_q0 (Or.inl rfl) rfl rfl rfl rfl ?_
  have ok1 : sm_ok (sv_up S 1000 0 (0 : Int)) := sm_upI hok sm_r1000 (⟨by decide, by decide⟩ : sv_R (0 : Int))
  have md2 : sv_mod [1000] S (sv_up S 1000 0 (0 : Int)) := sv_mod.up sv_mod.rf (by decide)
  refine sv_aload_n hM dX12_value__5 rfl rfl ?_
  have k3 : sv_R (S 1073 0) := sm_okI ok1 sm_r1073 0
  have h := h k3
  refine sv_getI hM dX12_value__6 sm_fl_773 (sm_a0 _) sm_k73 rfl (x := (S 1073 0)) rfl ?_
  refine sv_cond_eq hM dX12_value__9 k3 (t := 26) rfl rfl (fun hc => ?_) (fun hc => ?_)
  · have h := h.1 (hc)
    refine sv_iconst (d := (-1 : Int)) hM dX12_value__26 rfl rfl ?_
    exact sv_iret hM dX12_value__27 rfl rfl ⟨(-1 : Int), rfl, (⟨by decide, by decide⟩ : sv_R (-1 : Int)), ok1, md2, h⟩
  · have h := h.2 (hc)
    refine sv_iload_n hM dX12_value__12 rfl rfl ?_
    refine sv_iconst (d := (0 : Int)) hM dX12_value__13 rfl rfl ?_
    refine sv_aload_n hM dX12_value__14 rfl rfl ?_
    have k4 : sv_R (S 1092 0) := sm_okI ok1 sm_r1092 0
    have h := h k4
    refine sv_getI hM dX12_value__15 sm_fl_872 (sm_a0 _) sm_k92 rfl (x := (S 1092 0)) rfl ?_
    refine sv_iconst (d := (1 : Int)) hM dX12_value__18 rfl rfl ?_
    refine sv_isub hM dX12_value__19 rfl ?_
    obtain ⟨o5, h⟩ := h
    refine sv_callS hM dX12_value__20 sm_iv_899 (Nat.le_of_ble_eq_true rfl) rfl rfl (Nat.le_of_ble_eq_true rfl) sm_h4 (Nat.le_of_ble_eq_true rfl) (Nat.le_of_ble_eq_true rfl) (F' := 0) (Nat.le_of_ble_eq_true rfl) rfl (t_in p1 (0 : Int) ((S 1092 0) - (1 : Int)) (sv_up S 1000 0 (0 : Int)) ok1 hp1 (⟨by decide, by decide⟩ : sv_R (0 : Int)) o5) (fun v S1 hq => ?_)
    obtain ⟨rfl, hS1⟩ := hq
    obtain rfl : (sv_up S 1000 0 (0 : Int)) = S1 := hS1.symm
    show sv_T sm_XS sm_cs sm_L sm_sh 1 (q_value_ p1 p2 p3 S) 197 23 [(0, .ref 0), (1, sv_I p1), (2, sv_I p2), (3, sv_I p3)] [sv_I (if (0 : Int) ≤ p1 ∧ p1 ≤ ((S 1092 0) - (1 : Int)) then 1 else 0)] (sv_up S 1000 0 (0 : Int))
    refine sv_cond_ne hM dX12_value__23 (sv_Rite : sv_R (if (0 : Int) ≤ p1 ∧ p1 ≤ ((S 1092 0) - (1 : Int)) then 1 else 0)) (t := 28) rfl rfl (fun hc => ?_) (fun hc => ?_)
    · have h := h.1 (sv_itep hc)
      refine sv_aload_n hM dX12_value__28 rfl rfl ?_
      refine sv_getI hM dX12_value__29 sm_fl_872 (sm_a0 _) sm_k92 rfl (x := (S 1092 0)) rfl ?_
      refine sv_iconst (d := (1 : Int)) hM dX12_value__32 rfl rfl ?_
      refine sv_isub hM dX12_value__33 rfl ?_
      refine sv_iload_n hM dX12_value__34 rfl rfl ?_
      refine sv_isub hM dX12_value__35 rfl ?_
      obtain ⟨x6, e7⟩ : ∃ x : Int, (((S 1092 0) - (1 : Int)) - p1) = x := ⟨_, rfl⟩
      have h := h x6 e7
      refine sv_nameI e7 ?_
      refine sv_istore hM dX12_value__36 (by decide) rfl ?_
      show sv_T sm_XS sm_cs sm_L sm_sh 1 (q_value_ p1 p2 p3 S) 197 38 [(0, .ref 0), (1, sv_I p1), (2, sv_I p2), (3, sv_I p3), (4, sv_I x6)] [] (sv_up S 1000 0 (0 : Int))
      refine sv_iload_n hM dX12_value__38 rfl rfl ?_
      refine sv_iconst (d := (-1 : Int)) hM dX12_value__39 rfl rfl ?_
      refine sv_icmp_ne hM dX12_value__40 hp2 (⟨by decide, by decide⟩ : sv_R (-1 : Int)) (t := 63) rfl rfl (fun hc => ?_) (fun hc => ?_)
      · have h := h.1 (hc)
        have k8 : (sm_LX (S 58) (S 63) (S 64) (S 1092 0) (S 1076 0) → 0 ≤ x6 → x6 < (S 1092 0) → 0 ≤ (S 58 x6) ∧ (S 58 x6) ≤ 400) := fun h a b => sm_LX_at h a b
        have h := h k8
        refine sv_iload_n hM dX12_value__63 rfl rfl ?_
        refine sv_iconst (d := (0 : Int)) hM dX12_value__64 rfl rfl ?_
        refine sv_aload_n hM dX12_value__65 rfl rfl ?_
        refine sv_getA hM dX12_value__66 sm_fl_185 (sm_a0 _) sm_k98 rfl ?_
        refine sv_iload hM dX12_value__69 rfl rfl ?_
        obtain ⟨o9, h⟩ := h
        have k10 : sv_R (S 58 x6) := sm_okI ok1 sm_r58 x6
        have h := h k10
        refine sv_iald hM dX12_value__71 (sm_a58 _) (by decide) o9.1 o9.2 rfl (x := (S 58 x6)) rfl ?_
        refine sv_iconst (d := (1 : Int)) hM dX12_value__72 rfl rfl ?_
        refine sv_isub hM dX12_value__73 rfl ?_
        obtain ⟨o11, h⟩ := h
        refine sv_callS hM dX12_value__74 sm_iv_899 (Nat.le_of_ble_eq_true rfl) rfl rfl (Nat.le_of_ble_eq_true rfl) sm_h4 (Nat.le_of_ble_eq_true rfl) (Nat.le_of_ble_eq_true rfl) (F' := 0) (Nat.le_of_ble_eq_true rfl) rfl (t_in p2 (0 : Int) ((S 58 x6) - (1 : Int)) (sv_up S 1000 0 (0 : Int)) ok1 hp2 (⟨by decide, by decide⟩ : sv_R (0 : Int)) o11) (fun v S1 hq => ?_)
        obtain ⟨rfl, hS1⟩ := hq
        obtain rfl : (sv_up S 1000 0 (0 : Int)) = S1 := hS1.symm
        show sv_T sm_XS sm_cs sm_L sm_sh 1 (q_value_ p1 p2 p3 S) 197 77 [(0, .ref 0), (1, sv_I p1), (2, sv_I p2), (3, sv_I p3), (4, sv_I x6)] [sv_I (if (0 : Int) ≤ p2 ∧ p2 ≤ ((S 58 x6) - (1 : Int)) then 1 else 0)] (sv_up S 1000 0 (0 : Int))
        refine sv_cond_ne hM dX12_value__77 (sv_Rite : sv_R (if (0 : Int) ≤ p2 ∧ p2 ≤ ((S 58 x6) - (1 : Int)) then 1 else 0)) (t := 82) rfl rfl (fun hc => ?_) (fun hc => ?_)
        · have h := h.1 (sv_itep hc)
          refine sv_sipush (d := (400 : Int)) hM dX12_value__82 rfl rfl ?_
          refine sv_iload hM dX12_value__85 rfl rfl ?_
          refine sv_imul hM dX12_value__87 rfl ?_
          refine sv_iload_n hM dX12_value__88 rfl rfl ?_
          refine sv_iadd hM dX12_value__89 rfl ?_
          obtain ⟨x12, e13⟩ : ∃ x : Int, (((400 : Int) * x6) + p2) = x := ⟨_, rfl⟩
          have h := h x12 e13
          refine sv_nameI e13 ?_
          refine sv_istore hM dX12_value__90 (by decide) rfl ?_
          show sv_T sm_XS sm_cs sm_L sm_sh 1 (q_value_ p1 p2 p3 S) 197 92 [(0, .ref 0), (1, sv_I p1), (2, sv_I p2), (3, sv_I p3), (4, sv_I x6), (5, sv_I x12)] [] (sv_up S 1000 0 (0 : Int))
          refine sv_aload_n hM dX12_value__92 rfl rfl ?_
          refine sv_getA hM dX12_value__93 sm_fl_200 (sm_a0 _) sm_k103 rfl ?_
          refine sv_iload hM dX12_value__96 rfl rfl ?_
          obtain ⟨o14, h⟩ := h
          have k15 : sv_R (S 63 x12) := sm_okI ok1 sm_r63 x12
          have h := h k15
          refine sv_iald hM dX12_value__98 (sm_a63 _) (by decide) o14.1 o14.2 rfl (x := (S 63 x12)) rfl ?_
          refine sv_bipush (d := (8 : Int)) hM dX12_value__99 rfl rfl ?_
          have k16 : (sm_LX (S 58) (S 63) (S 64) (S 1092 0) (S 1076 0) → 0 ≤ x6 → x6 < (S 1092 0) → 0 ≤ p2 → p2 < (S 58 x6) → (S 63 (400 * x6 + p2)) = 8 → -1 ≤ (S 64 (400 * x6 + p2)) ∧ (S 64 (400 * x6 + p2)) < (S 1076 0)) := fun h a b d e g => sm_LX_l h a b d e g
          have h := h k16
          refine sv_icmp_ne hM dX12_value__101 k15 (⟨by decide, by decide⟩ : sv_R (8 : Int)) (t := 116) rfl rfl (fun hc => ?_) (fun hc => ?_)
          · have h := h.1 (hc)
            refine sv_aload_n hM dX12_value__116 rfl rfl ?_
            refine sv_aload_n hM dX12_value__117 rfl rfl ?_
            refine sv_getA hM dX12_value__118 sm_fl_200 (sm_a0 _) sm_k103 rfl ?_
            refine sv_iload hM dX12_value__121 rfl rfl ?_
            refine sv_iald hM dX12_value__123 (sm_a63 _) (by decide) o14.1 o14.2 rfl (x := (S 63 x12)) rfl ?_
            refine sv_aload_n hM dX12_value__124 rfl rfl ?_
            refine sv_getA hM dX12_value__125 sm_fl_203 (sm_a0 _) sm_k104 rfl ?_
            refine sv_iload hM dX12_value__128 rfl rfl ?_
            have k17 : sv_R (S 64 x12) := sm_okI ok1 sm_r64 x12
            have h := h k17
            refine sv_iald hM dX12_value__130 (sm_a64 _) (by decide) o14.1 o14.2 rfl (x := (S 64 x12)) rfl ?_
            refine sv_iload_n hM dX12_value__131 rfl rfl ?_
            refine sv_callV hM dX12_value__132 sm_iv_1037 (by decide) (sm_a0 _) rfl rfl (Nat.le_of_ble_eq_true rfl) sm_h196 (Nat.le_of_ble_eq_true rfl) (Nat.le_of_ble_eq_true rfl) (F' := 0) (Nat.le_of_ble_eq_true rfl) rfl (t_told (S 63 x12) (S 64 x12) p3 (sv_up S 1000 0 (0 : Int)) ok1 k15 k17 hp3) (fun v S1 hq => ?_)
            obtain ⟨r22, rfl, hr22, ok19, md20, hpo21⟩ := hq
            obtain rfl : (sv_up S 1000 0 (0 : Int)) = S1 := (funext fun j => md20 j (by intro q; cases q)).symm
            show sv_T sm_XS sm_cs sm_L sm_sh 1 (q_value_ p1 p2 p3 S) 197 135 [(0, .ref 0), (1, sv_I p1), (2, sv_I p2), (3, sv_I p3), (4, sv_I x6), (5, sv_I x12)] [sv_I r22] (sv_up S 1000 0 (0 : Int))
            have h := h r22 hr22 hpo21
            exact sv_iret hM dX12_value__135 rfl rfl ⟨r22, rfl, hr22, ok19, md2, h⟩
          · have h := h.2 (hc)
            refine sv_iload_n hM dX12_value__104 rfl rfl ?_
            refine sv_iconst (d := (1 : Int)) hM dX12_value__105 rfl rfl ?_
            refine sv_icmp_ne hM dX12_value__106 hp3 (⟨by decide, by decide⟩ : sv_R (1 : Int)) (t := 116) rfl rfl (fun hc => ?_) (fun hc => ?_)
            · have h := h.1 (hc)
              refine sv_aload_n hM dX12_value__116 rfl rfl ?_
              refine sv_aload_n hM dX12_value__117 rfl rfl ?_
              refine sv_getA hM dX12_value__118 sm_fl_200 (sm_a0 _) sm_k103 rfl ?_
              refine sv_iload hM dX12_value__121 rfl rfl ?_
              refine sv_iald hM dX12_value__123 (sm_a63 _) (by decide) o14.1 o14.2 rfl (x := (S 63 x12)) rfl ?_
              refine sv_aload_n hM dX12_value__124 rfl rfl ?_
              refine sv_getA hM dX12_value__125 sm_fl_203 (sm_a0 _) sm_k104 rfl ?_
              refine sv_iload hM dX12_value__128 rfl rfl ?_
              have k23 : sv_R (S 64 x12) := sm_okI ok1 sm_r64 x12
              have h := h k23
              refine sv_iald hM dX12_value__130 (sm_a64 _) (by decide) o14.1 o14.2 rfl (x := (S 64 x12)) rfl ?_
              refine sv_iload_n hM dX12_value__131 rfl rfl ?_
              refine sv_callV hM dX12_value__132 sm_iv_1037 (by decide) (sm_a0 _) rfl rfl (Nat.le_of_ble_eq_true rfl) sm_h196 (Nat.le_of_ble_eq_true rfl) (Nat.le_of_ble_eq_true rfl) (F' := 0) (Nat.le_of_ble_eq_true rfl) rfl (t_told (S 63 x12) (S 64 x12) p3 (sv_up S 1000 0 (0 : Int)) ok1 k15 k23 hp3) (fun v S1 hq => ?_)
              obtain ⟨r28, rfl, hr28, ok25, md26, hpo27⟩ := hq
              obtain rfl : (sv_up S 1000 0 (0 : Int)) = S1 := (funext fun j => md26 j (by intro q; cases q)).symm
              show sv_T sm_XS sm_cs sm_L sm_sh 1 (q_value_ p1 p2 p3 S) 197 135 [(0, .ref 0), (1, sv_I p1), (2, sv_I p2), (3, sv_I p3), (4, sv_I x6), (5, sv_I x12)] [sv_I r28] (sv_up S 1000 0 (0 : Int))
              have h := h r28 hr28 hpo27
              exact sv_iret hM dX12_value__135 rfl rfl ⟨r28, rfl, hr28, ok25, md2, h⟩
            · have h := h.2 (hc)
              refine sv_aload_n hM dX12_value__109 rfl rfl ?_
              refine sv_iload hM dX12_value__110 rfl rfl ?_
              obtain ⟨o29, h⟩ := h
              obtain ⟨o30, h⟩ := h
              refine sv_callV hM dX12_value__112 sm_iv_1040 (by decide) (sm_a0 _) rfl rfl (Nat.le_of_ble_eq_true rfl) sm_h165 (Nat.le_of_ble_eq_true rfl) (Nat.le_of_ble_eq_true rfl) (F' := 0) (Nat.le_of_ble_eq_true rfl) rfl (t_leftOf x12 (sv_up S 1000 0 (0 : Int)) ok1 o29 o30) (fun v S1 hq => ?_)
              obtain ⟨r35, rfl, hr35, ok32, md33, hpo34⟩ := hq
              obtain rfl : (sv_up S 1000 0 (0 : Int)) = S1 := (funext fun j => md33 j (by intro q; cases q)).symm
              show sv_T sm_XS sm_cs sm_L sm_sh 1 (q_value_ p1 p2 p3 S) 197 115 [(0, .ref 0), (1, sv_I p1), (2, sv_I p2), (3, sv_I p3), (4, sv_I x6), (5, sv_I x12)] [sv_I r35] (sv_up S 1000 0 (0 : Int))
              have h := h r35 hr35 hpo34
              exact sv_iret hM dX12_value__115 rfl rfl ⟨r35, rfl, hr35, ok32, md2, h⟩
        · have h := h.2 (fun q => hc (by rw [if_pos q]; decide))
          refine sv_iconst (d := (-1 : Int)) hM dX12_value__80 rfl rfl ?_
          exact sv_iret hM dX12_value__81 rfl rfl ⟨(-1 : Int), rfl, (⟨by decide, by decide⟩ : sv_R (-1 : Int)), ok1, md2, h⟩
      · have h := h.2 (hc)
        refine sv_aload_n hM dX12_value__43 rfl rfl ?_
        refine sv_aload_n hM dX12_value__44 rfl rfl ?_
        refine sv_getA hM dX12_value__45 sm_fl_176 (sm_a0 _) sm_k95 rfl ?_
        refine sv_iload hM dX12_value__48 rfl rfl ?_
        obtain ⟨o36, h⟩ := h
        have k37 : sv_R (S 55 x6) := sm_okI ok1 sm_r55 x6
        have h := h k37
        refine sv_iald hM dX12_value__50 (sm_a55 _) (by decide) o36.1 o36.2 rfl (x := (S 55 x6)) rfl ?_
        refine sv_aload_n hM dX12_value__51 rfl rfl ?_
        refine sv_getA hM dX12_value__52 sm_fl_179 (sm_a0 _) sm_k96 rfl ?_
        refine sv_iload hM dX12_value__55 rfl rfl ?_
        have k38 : sv_R (S 56 x6) := sm_okI ok1 sm_r56 x6
        have h := h k38
        refine sv_iald hM dX12_value__57 (sm_a56 _) (by decide) o36.1 o36.2 rfl (x := (S 56 x6)) rfl ?_
        refine sv_iload_n hM dX12_value__58 rfl rfl ?_
        refine sv_callV hM dX12_value__59 sm_iv_1037 (by decide) (sm_a0 _) rfl rfl (Nat.le_of_ble_eq_true rfl) sm_h196 (Nat.le_of_ble_eq_true rfl) (Nat.le_of_ble_eq_true rfl) (F' := 0) (Nat.le_of_ble_eq_true rfl) rfl (t_told (S 55 x6) (S 56 x6) p3 (sv_up S 1000 0 (0 : Int)) ok1 k37 k38 hp3) (fun v S1 hq => ?_)
        obtain ⟨r43, rfl, hr43, ok40, md41, hpo42⟩ := hq
        obtain rfl : (sv_up S 1000 0 (0 : Int)) = S1 := (funext fun j => md41 j (by intro q; cases q)).symm
        show sv_T sm_XS sm_cs sm_L sm_sh 1 (q_value_ p1 p2 p3 S) 197 62 [(0, .ref 0), (1, sv_I p1), (2, sv_I p2), (3, sv_I p3), (4, sv_I x6)] [sv_I r43] (sv_up S 1000 0 (0 : Int))
        have h := h r43 hr43 hpo42
        exact sv_iret hM dX12_value__62 rfl rfl ⟨r43, rfl, hr43, ok40, md2, h⟩
    · have h := h.2 (fun q => hc (by rw [if_pos q]; decide))
      refine sv_iconst (d := (-1 : Int)) hM dX12_value__26 rfl rfl ?_
      exact sv_iret hM dX12_value__27 rfl rfl ⟨(-1 : Int), rfl, (⟨by decide, by decide⟩ : sv_R (-1 : Int)), ok1, md2, h⟩
