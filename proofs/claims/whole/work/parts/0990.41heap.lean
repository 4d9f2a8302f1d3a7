theorem dX12_findProperty_0 : decode cX12_findProperty 0 = .ok (.aload_n 0, 1) := by decide +kernel
theorem dX12_findProperty_1 : decode cX12_findProperty 1 = .ok (.getfield 149, 3) := by decide +kernel
theorem dX12_findProperty_4 : decode cX12_findProperty 4 = .ok (.iload_n 1, 1) := by decide +kernel
theorem dX12_findProperty_5 : decode cX12_findProperty 5 = .ok (.iaload, 1) := by decide +kernel
theorem dX12_findProperty_6 : decode cX12_findProperty 6 = .ok (.istore_n 3, 1) := by decide +kernel
theorem dX12_findProperty_7 : decode cX12_findProperty 7 = .ok (.iload_n 3, 1) := by decide +kernel
theorem dX12_findProperty_8 : decode cX12_findProperty 8 = .ok (.iconst (-1), 1) := by decide +kernel
theorem dX12_findProperty_9 : decode cX12_findProperty 9 = .ok (.if_icmp .eq 23, 3) := by decide +kernel
theorem dX12_findProperty_12 : decode cX12_findProperty 12 = .ok (.aload_n 0, 1) := by decide +kernel
theorem dX12_findProperty_13 : decode cX12_findProperty 13 = .ok (.getfield 155, 3) := by decide +kernel
theorem dX12_findProperty_16 : decode cX12_findProperty 16 = .ok (.iload_n 3, 1) := by decide +kernel
theorem dX12_findProperty_17 : decode cX12_findProperty 17 = .ok (.iaload, 1) := by decide +kernel
theorem dX12_findProperty_18 : decode cX12_findProperty 18 = .ok (.iload_n 2, 1) := by decide +kernel
theorem dX12_findProperty_19 : decode cX12_findProperty 19 = .ok (.if_icmp .eq 13, 3) := by decide +kernel
theorem dX12_findProperty_22 : decode cX12_findProperty 22 = .ok (.aload_n 0, 1) := by decide +kernel
theorem dX12_findProperty_23 : decode cX12_findProperty 23 = .ok (.getfield 167, 3) := by decide +kernel
theorem dX12_findProperty_26 : decode cX12_findProperty 26 = .ok (.iload_n 3, 1) := by decide +kernel
theorem dX12_findProperty_27 : decode cX12_findProperty 27 = .ok (.iaload, 1) := by decide +kernel
theorem dX12_findProperty_28 : decode cX12_findProperty 28 = .ok (.istore_n 3, 1) := by decide +kernel
theorem dX12_findProperty_29 : decode cX12_findProperty 29 = .ok (.goto (-22), 3) := by decide +kernel
theorem dX12_findProperty_32 : decode cX12_findProperty 32 = .ok (.iload_n 3, 1) := by decide +kernel
theorem dX12_findProperty_33 : decode cX12_findProperty 33 = .ok (.ireturn, 1) := by decide +kernel
theorem dX12_set__0 : decode cX12_set_ 0 = .ok (.aload_n 0, 1) := by decide +kernel
theorem dX12_set__1 : decode cX12_set_ 1 = .ok (.iload_n 1, 1) := by decide +kernel
theorem dX12_set__2 : decode cX12_set_ 2 = .ok (.iload_n 2, 1) := by decide +kernel
theorem dX12_set__3 : decode cX12_set_ 3 = .ok (.invokevirtual 846, 3) := by decide +kernel
theorem dX12_set__6 : decode cX12_set_ 6 = .ok (.istore 5, 2) := by decide +kernel
theorem dX12_set__8 : decode cX12_set_ 8 = .ok (.iload 5, 2) := by decide +kernel
theorem dX12_set__10 : decode cX12_set_ 10 = .ok (.iconst (-1), 1) := by decide +kernel
theorem dX12_set__11 : decode cX12_set_ 11 = .ok (.if_icmp .ne 125, 3) := by decide +kernel
theorem dX12_set__14 : decode cX12_set_ 14 = .ok (.aload_n 0, 1) := by decide +kernel
theorem dX12_set__15 : decode cX12_set_ 15 = .ok (.getfield 849, 3) := by decide +kernel
theorem dX12_set__18 : decode cX12_set_ 18 = .ok (.sipush 3000, 3) := by decide +kernel
theorem dX12_set__21 : decode cX12_set_ 21 = .ok (.if_icmp .ne 9, 3) := by decide +kernel
theorem dX12_set__24 : decode cX12_set_ 24 = .ok (.aload_n 0, 1) := by decide +kernel
theorem dX12_set__25 : decode cX12_set_ 25 = .ok (.iconst 1, 1) := by decide +kernel
theorem dX12_set__26 : decode cX12_set_ 26 = .ok (.putfield 794, 3) := by decide +kernel
theorem dX12_set__29 : decode cX12_set_ 29 = .ok (.return_, 1) := by decide +kernel
theorem dX12_set__30 : decode cX12_set_ 30 = .ok (.aload_n 0, 1) := by decide +kernel
theorem dX12_set__31 : decode cX12_set_ 31 = .ok (.getfield 852, 3) := by decide +kernel
theorem dX12_set__34 : decode cX12_set_ 34 = .ok (.istore 5, 2) := by decide +kernel
theorem dX12_set__36 : decode cX12_set_ 36 = .ok (.aload_n 0, 1) := by decide +kernel
theorem dX12_set__37 : decode cX12_set_ 37 = .ok (.aload_n 0, 1) := by decide +kernel
theorem dX12_set__38 : decode cX12_set_ 38 = .ok (.getfield 167, 3) := by decide +kernel
theorem dX12_set__41 : decode cX12_set_ 41 = .ok (.iload 5, 2) := by decide +kernel
theorem dX12_set__43 : decode cX12_set_ 43 = .ok (.iaload, 1) := by decide +kernel
theorem dX12_set__44 : decode cX12_set_ 44 = .ok (.putfield 852, 3) := by decide +kernel
theorem dX12_set__47 : decode cX12_set_ 47 = .ok (.aload_n 0, 1) := by decide +kernel
theorem dX12_set__48 : decode cX12_set_ 48 = .ok (.dup, 1) := by decide +kernel
theorem dX12_set__49 : decode cX12_set_ 49 = .ok (.getfield 849, 3) := by decide +kernel
theorem dX12_set__52 : decode cX12_set_ 52 = .ok (.iconst 1, 1) := by decide +kernel
theorem dX12_set__53 : decode cX12_set_ 53 = .ok (.iadd, 1) := by decide +kernel
theorem dX12_set__54 : decode cX12_set_ 54 = .ok (.putfield 849, 3) := by decide +kernel
theorem dX12_set__57 : decode cX12_set_ 57 = .ok (.aload_n 0, 1) := by decide +kernel
theorem dX12_set__58 : decode cX12_set_ 58 = .ok (.getfield 155, 3) := by decide +kernel
theorem dX12_set__61 : decode cX12_set_ 61 = .ok (.iload 5, 2) := by decide +kernel
theorem dX12_set__63 : decode cX12_set_ 63 = .ok (.iload_n 2, 1) := by decide +kernel
theorem dX12_set__64 : decode cX12_set_ 64 = .ok (.iastore, 1) := by decide +kernel
theorem dX12_set__65 : decode cX12_set_ 65 = .ok (.aload_n 0, 1) := by decide +kernel
theorem dX12_set__66 : decode cX12_set_ 66 = .ok (.dup, 1) := by decide +kernel
theorem dX12_set__67 : decode cX12_set_ 67 = .ok (.getfield 855, 3) := by decide +kernel
theorem dX12_set__70 : decode cX12_set_ 70 = .ok (.iconst 1, 1) := by decide +kernel
theorem dX12_set__71 : decode cX12_set_ 71 = .ok (.iadd, 1) := by decide +kernel
theorem dX12_set__72 : decode cX12_set_ 72 = .ok (.putfield 855, 3) := by decide +kernel
theorem dX12_set__75 : decode cX12_set_ 75 = .ok (.aload_n 0, 1) := by decide +kernel
theorem dX12_set__76 : decode cX12_set_ 76 = .ok (.getfield 164, 3) := by decide +kernel
theorem dX12_set__79 : decode cX12_set_ 79 = .ok (.iload 5, 2) := by decide +kernel
theorem dX12_set__81 : decode cX12_set_ 81 = .ok (.aload_n 0, 1) := by decide +kernel
theorem dX12_set__82 : decode cX12_set_ 82 = .ok (.getfield 855, 3) := by decide +kernel
theorem dX12_set__85 : decode cX12_set_ 85 = .ok (.iastore, 1) := by decide +kernel
theorem dX12_set__86 : decode cX12_set_ 86 = .ok (.aload_n 0, 1) := by decide +kernel
theorem dX12_set__87 : decode cX12_set_ 87 = .ok (.getfield 167, 3) := by decide +kernel
theorem dX12_set__90 : decode cX12_set_ 90 = .ok (.iload 5, 2) := by decide +kernel
theorem dX12_set__92 : decode cX12_set_ 92 = .ok (.iconst (-1), 1) := by decide +kernel
theorem dX12_set__93 : decode cX12_set_ 93 = .ok (.iastore, 1) := by decide +kernel
theorem dX12_set__94 : decode cX12_set_ 94 = .ok (.aload_n 0, 1) := by decide +kernel
theorem dX12_set__95 : decode cX12_set_ 95 = .ok (.getfield 152, 3) := by decide +kernel
theorem dX12_set__98 : decode cX12_set_ 98 = .ok (.iload_n 1, 1) := by decide +kernel
theorem dX12_set__99 : decode cX12_set_ 99 = .ok (.iaload, 1) := by decide +kernel
theorem dX12_set__100 : decode cX12_set_ 100 = .ok (.iconst (-1), 1) := by decide +kernel
theorem dX12_set__101 : decode cX12_set_ 101 = .ok (.if_icmp .ne 14, 3) := by decide +kernel
theorem dX12_set__104 : decode cX12_set_ 104 = .ok (.aload_n 0, 1) := by decide +kernel
theorem dX12_set__105 : decode cX12_set_ 105 = .ok (.getfield 149, 3) := by decide +kernel
theorem dX12_set__108 : decode cX12_set_ 108 = .ok (.iload_n 1, 1) := by decide +kernel
theorem dX12_set__109 : decode cX12_set_ 109 = .ok (.iload 5, 2) := by decide +kernel
theorem dX12_set__111 : decode cX12_set_ 111 = .ok (.iastore, 1) := by decide +kernel
theorem dX12_set__112 : decode cX12_set_ 112 = .ok (.goto 16, 3) := by decide +kernel
theorem dX12_set__115 : decode cX12_set_ 115 = .ok (.aload_n 0, 1) := by decide +kernel
theorem dX12_set__116 : decode cX12_set_ 116 = .ok (.getfield 167, 3) := by decide +kernel
theorem dX12_set__119 : decode cX12_set_ 119 = .ok (.aload_n 0, 1) := by decide +kernel
theorem dX12_set__120 : decode cX12_set_ 120 = .ok (.getfield 152, 3) := by decide +kernel
theorem dX12_set__123 : decode cX12_set_ 123 = .ok (.iload_n 1, 1) := by decide +kernel
theorem dX12_set__124 : decode cX12_set_ 124 = .ok (.iaload, 1) := by decide +kernel
theorem dX12_set__125 : decode cX12_set_ 125 = .ok (.iload 5, 2) := by decide +kernel
theorem dX12_set__127 : decode cX12_set_ 127 = .ok (.iastore, 1) := by decide +kernel
theorem dX12_set__128 : decode cX12_set_ 128 = .ok (.aload_n 0, 1) := by decide +kernel
theorem dX12_set__129 : decode cX12_set_ 129 = .ok (.getfield 152, 3) := by decide +kernel
theorem dX12_set__132 : decode cX12_set_ 132 = .ok (.iload_n 1, 1) := by decide +kernel
theorem dX12_set__133 : decode cX12_set_ 133 = .ok (.iload 5, 2) := by decide +kernel
theorem dX12_set__135 : decode cX12_set_ 135 = .ok (.iastore, 1) := by decide +kernel
theorem dX12_set__136 : decode cX12_set_ 136 = .ok (.aload_n 0, 1) := by decide +kernel
theorem dX12_set__137 : decode cX12_set_ 137 = .ok (.getfield 158, 3) := by decide +kernel
theorem dX12_set__140 : decode cX12_set_ 140 = .ok (.iload 5, 2) := by decide +kernel
theorem dX12_set__142 : decode cX12_set_ 142 = .ok (.iload_n 3, 1) := by decide +kernel
theorem dX12_set__143 : decode cX12_set_ 143 = .ok (.iastore, 1) := by decide +kernel
theorem dX12_set__144 : decode cX12_set_ 144 = .ok (.aload_n 0, 1) := by decide +kernel
theorem dX12_set__145 : decode cX12_set_ 145 = .ok (.getfield 161, 3) := by decide +kernel
theorem dX12_set__148 : decode cX12_set_ 148 = .ok (.iload 5, 2) := by decide +kernel
theorem dX12_set__150 : decode cX12_set_ 150 = .ok (.iload 4, 2) := by decide +kernel
theorem dX12_set__152 : decode cX12_set_ 152 = .ok (.iastore, 1) := by decide +kernel
theorem dX12_set__153 : decode cX12_set_ 153 = .ok (.return_, 1) := by decide +kernel
theorem dX12_lengthOf_0 : decode cX12_lengthOf 0 = .ok (.aload_n 0, 1) := by decide +kernel
theorem dX12_lengthOf_1 : decode cX12_lengthOf 1 = .ok (.getfield 161, 3) := by decide +kernel
theorem dX12_lengthOf_4 : decode cX12_lengthOf 4 = .ok (.aload_n 0, 1) := by decide +kernel
theorem dX12_lengthOf_5 : decode cX12_lengthOf 5 = .ok (.iload_n 1, 1) := by decide +kernel
theorem dX12_lengthOf_6 : decode cX12_lengthOf 6 = .ok (.iconst 0, 1) := by decide +kernel
theorem dX12_lengthOf_7 : decode cX12_lengthOf 7 = .ok (.invokevirtual 846, 3) := by decide +kernel
theorem dX12_lengthOf_10 : decode cX12_lengthOf 10 = .ok (.iaload, 1) := by decide +kernel
theorem dX12_lengthOf_11 : decode cX12_lengthOf 11 = .ok (.ireturn, 1) := by decide +kernel
theorem dX12_remove_0 : decode cX12_remove 0 = .ok (.aload_n 0, 1) := by decide +kernel
theorem dX12_remove_1 : decode cX12_remove 1 = .ok (.iload_n 1, 1) := by decide +kernel
theorem dX12_remove_2 : decode cX12_remove 2 = .ok (.iload_n 2, 1) := by decide +kernel
theorem dX12_remove_3 : decode cX12_remove 3 = .ok (.invokevirtual 846, 3) := by decide +kernel
theorem dX12_remove_6 : decode cX12_remove 6 = .ok (.istore_n 3, 1) := by decide +kernel
theorem dX12_remove_7 : decode cX12_remove 7 = .ok (.iload_n 3, 1) := by decide +kernel
theorem dX12_remove_8 : decode cX12_remove 8 = .ok (.iconst (-1), 1) := by decide +kernel
theorem dX12_remove_9 : decode cX12_remove 9 = .ok (.if_icmp .ne 4, 3) := by decide +kernel
theorem dX12_remove_12 : decode cX12_remove 12 = .ok (.return_, 1) := by decide +kernel
theorem dX12_remove_13 : decode cX12_remove 13 = .ok (.iconst (-1), 1) := by decide +kernel
theorem dX12_remove_14 : decode cX12_remove 14 = .ok (.istore 4, 2) := by decide +kernel
theorem dX12_remove_16 : decode cX12_remove 16 = .ok (.aload_n 0, 1) := by decide +kernel
theorem dX12_remove_17 : decode cX12_remove 17 = .ok (.getfield 149, 3) := by decide +kernel
theorem dX12_remove_20 : decode cX12_remove 20 = .ok (.iload_n 1, 1) := by decide +kernel
theorem dX12_remove_21 : decode cX12_remove 21 = .ok (.iaload, 1) := by decide +kernel
theorem dX12_remove_22 : decode cX12_remove 22 = .ok (.istore 5, 2) := by decide +kernel
theorem dX12_remove_24 : decode cX12_remove 24 = .ok (.iload 5, 2) := by decide +kernel
theorem dX12_remove_26 : decode cX12_remove 26 = .ok (.iload_n 3, 1) := by decide +kernel
theorem dX12_remove_27 : decode cX12_remove 27 = .ok (.if_icmp .eq 19, 3) := by decide +kernel
theorem dX12_remove_30 : decode cX12_remove 30 = .ok (.iload 5, 2) := by decide +kernel
theorem dX12_remove_32 : decode cX12_remove 32 = .ok (.istore 4, 2) := by decide +kernel
theorem dX12_remove_34 : decode cX12_remove 34 = .ok (.aload_n 0, 1) := by decide +kernel
theorem dX12_remove_35 : decode cX12_remove 35 = .ok (.getfield 167, 3) := by decide +kernel
theorem dX12_remove_38 : decode cX12_remove 38 = .ok (.iload 5, 2) := by decide +kernel
theorem dX12_remove_40 : decode cX12_remove 40 = .ok (.iaload, 1) := by decide +kernel
theorem dX12_remove_41 : decode cX12_remove 41 = .ok (.istore 5, 2) := by decide +kernel
theorem dX12_remove_43 : decode cX12_remove 43 = .ok (.goto (-19), 3) := by decide +kernel
theorem dX12_remove_46 : decode cX12_remove 46 = .ok (.iload 4, 2) := by decide +kernel
theorem dX12_remove_48 : decode cX12_remove 48 = .ok (.iconst (-1), 1) := by decide +kernel
theorem dX12_remove_49 : decode cX12_remove 49 = .ok (.if_icmp .ne 18, 3) := by decide +kernel
theorem dX12_remove_52 : decode cX12_remove 52 = .ok (.aload_n 0, 1) := by decide +kernel
theorem dX12_remove_53 : decode cX12_remove 53 = .ok (.getfield 149, 3) := by decide +kernel
theorem dX12_remove_56 : decode cX12_remove 56 = .ok (.iload_n 1, 1) := by decide +kernel
theorem dX12_remove_57 : decode cX12_remove 57 = .ok (.aload_n 0, 1) := by decide +kernel
theorem dX12_remove_58 : decode cX12_remove 58 = .ok (.getfield 167, 3) := by decide +kernel
theorem dX12_remove_61 : decode cX12_remove 61 = .ok (.iload_n 3, 1) := by decide +kernel
theorem dX12_remove_62 : decode cX12_remove 62 = .ok (.iaload, 1) := by decide +kernel
theorem dX12_remove_63 : decode cX12_remove 63 = .ok (.iastore, 1) := by decide +kernel
theorem dX12_remove_64 : decode cX12_remove 64 = .ok (.goto 16, 3) := by decide +kernel
theorem dX12_remove_67 : decode cX12_remove 67 = .ok (.aload_n 0, 1) := by decide +kernel
theorem dX12_remove_68 : decode cX12_remove 68 = .ok (.getfield 167, 3) := by decide +kernel
theorem dX12_remove_71 : decode cX12_remove 71 = .ok (.iload 4, 2) := by decide +kernel
theorem dX12_remove_73 : decode cX12_remove 73 = .ok (.aload_n 0, 1) := by decide +kernel
theorem dX12_remove_74 : decode cX12_remove 74 = .ok (.getfield 167, 3) := by decide +kernel
theorem dX12_remove_77 : decode cX12_remove 77 = .ok (.iload_n 3, 1) := by decide +kernel
theorem dX12_remove_78 : decode cX12_remove 78 = .ok (.iaload, 1) := by decide +kernel
theorem dX12_remove_79 : decode cX12_remove 79 = .ok (.iastore, 1) := by decide +kernel
theorem dX12_remove_80 : decode cX12_remove 80 = .ok (.aload_n 0, 1) := by decide +kernel
theorem dX12_remove_81 : decode cX12_remove 81 = .ok (.getfield 152, 3) := by decide +kernel
theorem dX12_remove_84 : decode cX12_remove 84 = .ok (.iload_n 1, 1) := by decide +kernel
theorem dX12_remove_85 : decode cX12_remove 85 = .ok (.iaload, 1) := by decide +kernel
theorem dX12_remove_86 : decode cX12_remove 86 = .ok (.iload_n 3, 1) := by decide +kernel
theorem dX12_remove_87 : decode cX12_remove 87 = .ok (.if_icmp .ne 11, 3) := by decide +kernel
theorem dX12_remove_90 : decode cX12_remove 90 = .ok (.aload_n 0, 1) := by decide +kernel
theorem dX12_remove_91 : decode cX12_remove 91 = .ok (.getfield 152, 3) := by decide +kernel
theorem dX12_remove_94 : decode cX12_remove 94 = .ok (.iload_n 1, 1) := by decide +kernel
theorem dX12_remove_95 : decode cX12_remove 95 = .ok (.iload 4, 2) := by decide +kernel
theorem dX12_remove_97 : decode cX12_remove 97 = .ok (.iastore, 1) := by decide +kernel
theorem dX12_remove_98 : decode cX12_remove 98 = .ok (.aload_n 0, 1) := by decide +kernel
theorem dX12_remove_99 : decode cX12_remove 99 = .ok (.getfield 167, 3) := by decide +kernel
theorem dX12_remove_102 : decode cX12_remove 102 = .ok (.iload_n 3, 1) := by decide +kernel
theorem dX12_remove_103 : decode cX12_remove 103 = .ok (.aload_n 0, 1) := by decide +kernel
theorem dX12_remove_104 : decode cX12_remove 104 = .ok (.getfield 852, 3) := by decide +kernel
theorem dX12_remove_107 : decode cX12_remove 107 = .ok (.iastore, 1) := by decide +kernel
theorem dX12_remove_108 : decode cX12_remove 108 = .ok (.aload_n 0, 1) := by decide +kernel
theorem dX12_remove_109 : decode cX12_remove 109 = .ok (.iload_n 3, 1) := by decide +kernel
theorem dX12_remove_110 : decode cX12_remove 110 = .ok (.putfield 852, 3) := by decide +kernel
theorem dX12_remove_113 : decode cX12_remove 113 = .ok (.aload_n 0, 1) := by decide +kernel
theorem dX12_remove_114 : decode cX12_remove 114 = .ok (.dup, 1) := by decide +kernel
theorem dX12_remove_115 : decode cX12_remove 115 = .ok (.getfield 849, 3) := by decide +kernel
theorem dX12_remove_118 : decode cX12_remove 118 = .ok (.iconst 1, 1) := by decide +kernel
theorem dX12_remove_119 : decode cX12_remove 119 = .ok (.isub, 1) := by decide +kernel
theorem dX12_remove_120 : decode cX12_remove 120 = .ok (.putfield 849, 3) := by decide +kernel
theorem dX12_remove_123 : decode cX12_remove 123 = .ok (.return_, 1) := by decide +kernel
/-! THE MACHINE'S HEAP: lists of properties by owner (ow, -1: free), serials (se), next (ne), an object's first and last (fi, la) -/
def sm_PL (ow se ne fi la : Int → Int) (nb sr : Int) : Prop :=
  (∀ p : Int, 0 ≤ p → p < 3000 → -1 ≤ ow p ∧ ow p < nb) ∧
  (∀ p : Int, 0 ≤ p → p < 3000 → 0 ≤ ow p → 0 < se p ∧ se p ≤ sr ∧ (ne p = -1 ∨ (0 ≤ ne p ∧ ne p < 3000 ∧ ow (ne p) = ow p ∧ se p < se (ne p))) ∧ 0 ≤ fi (ow p) ∧ se (fi (ow p)) ≤ se p ∧ se p ≤ se (la (ow p))) ∧
  (∀ o : Int, 0 ≤ o → o < nb → (fi o = -1 ∧ la o = -1) ∨ (0 ≤ fi o ∧ fi o < 3000 ∧ ow (fi o) = o ∧ 0 ≤ la o ∧ la o < 3000 ∧ ow (la o) = o ∧ ne (la o) = -1)) ∧
  (∀ p q : Int, 0 ≤ p → p < 3000 → 0 ≤ q → q < 3000 → 0 ≤ ow p → ow q = ow p → se p < se q → ¬ ne p = -1 ∧ se (ne p) ≤ se q) ∧
  (∀ p q : Int, 0 ≤ p → p < 3000 → 0 ≤ q → q < 3000 → 0 ≤ ow p → ow q = ow p → se p = se q → p = q)
/-- a list's cell: none, or one of object o -/
def sm_PC (ow se : Int → Int) (sr o p : Int) : Prop := p = -1 ∨ (0 ≤ p ∧ p < 3000 ∧ ow p = o ∧ 0 < se p ∧ se p ≤ sr)
theorem sm_PL_fi {ow se ne fi la : Int → Int} {nb sr : Int} (h : sm_PL ow se ne fi la nb sr) (o : Int) (h0 : 0 ≤ o) (h1 : o < nb) : sm_PC ow se sr o (fi o) := by
  rcases h.2.2.1 o h0 h1 with q | q
  · exact Or.inl q.1
  · have := h.2.1 (fi o) q.1 q.2.1 (by omega)
    exact Or.inr ⟨q.1, q.2.1, q.2.2.1, this.1, this.2.1⟩
theorem sm_PL_ne {ow se ne fi la : Int → Int} {nb sr o : Int} (h : sm_PL ow se ne fi la nb sr) (p : Int) (h0 : 0 ≤ p) (h1 : p < 3000) (ho : ow p = o) (h2 : 0 ≤ o) : sm_PC ow se sr o (ne p) ∧ (¬ ne p = -1 → se p < se (ne p)) := by
  have a := h.2.1 p h0 h1 (by omega)
  rcases a.2.2.1 with q | q
  · exact ⟨Or.inl q, fun z => absurd q z⟩
  · have b := h.2.1 (ne p) q.1 q.2.1 (by omega)
    exact ⟨Or.inr ⟨q.1, q.2.1, q.2.2.1.trans ho, b.1, b.2.1⟩, fun _ => q.2.2.2⟩
theorem sm_PC_e {ow se : Int → Int} {sr o p : Int} (h : sm_PC ow se sr o p) : p = -1 ∨ (0 ≤ p ∧ p < 3000 ∧ ow p = o ∧ 0 < se p ∧ se p ≤ sr) := h
/-- no cell of object o ahead of p has the name (none at all: p = -1) -/
def sm_NB (ow se pn : Int → Int) (o name p : Int) : Prop := ∀ q : Int, 0 ≤ q → q < 3000 → ow q = o → (p = -1 ∨ se q < se p) → ¬ pn q = name
theorem sm_NB_0 {ow se ne fi la pn : Int → Int} {nb sr o name : Int} (h : sm_PL ow se ne fi la nb sr) (h0 : 0 ≤ o) (h1 : o < nb) : sm_NB ow se pn o name (fi o) := fun q q0 q1 q2 q3 => by
  have a := h.2.1 q q0 q1 (by omega)
  rw [q2] at a
  rcases q3 with q3 | q3 <;> omega
theorem sm_NB_s {ow se ne fi la pn : Int → Int} {nb sr o name p : Int} (h : sm_PL ow se ne fi la nb sr) (b : sm_NB ow se pn o name p) (h0 : 0 ≤ p) (h1 : p < 3000) (ho : ow p = o) (h2 : 0 ≤ o) (hn : ¬ pn p = name) : sm_NB ow se pn o name (ne p) := fun q q0 q1 q2 q3 => by
  by_cases e : se q < se p
  · exact b q q0 q1 q2 (Or.inr e)
  · by_cases e2 : se p < se q
    · have a := h.2.2.2.1 p q h0 h1 q0 q1 (by omega) (by omega) e2
      rcases q3 with q3 | q3
      · exact absurd q3 a.1
      · omega
    · have := h.2.2.2.2 p q h0 h1 q0 q1 (by omega) (by omega) (by omega)
      rw [← this]; exact hn
/-- the free cells: a stack fr of m, each with its place fx in it -/
def sm_FR (ow ne fr fx : Int → Int) (m fre : Int) : Prop := 0 ≤ m ∧ m ≤ 3000 ∧ (∀ n : Int, 0 ≤ n → n < m → 0 ≤ fr n ∧ fr n < 3000 ∧ ow (fr n) = -1 ∧ fx (fr n) = n ∧ (1 ≤ n → ne (fr n) = fr (n - 1))) ∧ (1 ≤ m → fre = fr (m - 1))
theorem sm_FR_c {ow ne fr fx : Int → Int} {m fre : Int} (h : sm_FR ow ne fr fx m fre) (p : Int) (h0 : 0 ≤ p) (h1 : p < 3000) (h2 : 0 ≤ ow p) : m < 3000 := by
  by_cases q : m < 3000
  · exact q
  · exfalso
    have hm : m = 3000 := by have := h.2.1; omega
    refine absurd (sv_pig 3000 3001 (fun i => if i = 3000 then p else fr i) ?_ ?_) (by decide)
    · intro i i0 i1
      (try dsimp only)
      by_cases hi : i = 3000
      · rw [if_pos hi]; exact ⟨h0, by omega⟩
      · rw [if_neg hi]
        have := h.2.2.1 i i0 (by omega)
        exact ⟨this.1, by omega⟩
    · intro i j i0 i1 j0 j1 e
      (try dsimp only at e)
      by_cases hi : i = 3000
      · by_cases hj : j = 3000
        · omega
        · rw [if_pos hi, if_neg hj] at e
          have w := (h.2.2.1 j j0 (by omega)).2.2.1
          rw [← e] at w
          omega
      · by_cases hj : j = 3000
        · rw [if_neg hi, if_pos hj] at e
          have w := (h.2.2.1 i i0 (by omega)).2.2.1
          rw [e] at w
          omega
        · rw [if_neg hi, if_neg hj] at e
          have u := (h.2.2.1 i i0 (by omega)).2.2.2.1
          have v := (h.2.2.1 j j0 (by omega)).2.2.2.1
          rw [e] at u
          omega
theorem sm_FR_top {ow ne fr fx : Int → Int} {m fre : Int} (h : sm_FR ow ne fr fx m fre) (hm : 1 ≤ m) : 0 ≤ fre ∧ fre < 3000 ∧ ow fre = -1 := by
  have a := h.2.2.1 (m - 1) (by omega) (by omega)
  rw [h.2.2.2 hm]
  exact ⟨a.1, a.2.1, a.2.2.1⟩
/-- a free cell is taken and put at the end of o's list -/
theorem sm_FR_pop {ow ne fr fx ne' : Int → Int} {m m' fre fre' o : Int} (h : sm_FR ow ne fr fx m fre) (hm : 1 ≤ m) (hf : fre' = ne fre) (hm' : m' = m - 1) (hn : ∀ q : Int, ow q = -1 → ¬ q = fre → ne' q = ne q) : sm_FR (fun i' : Int => if i' = fre then o else ow i') ne' fr fx m' fre' := by
  obtain ⟨a, b, c, d⟩ := h
  have t := c (m - 1) (by omega) (by omega)
  rw [← d hm] at t
  have hne : ∀ n : Int, 0 ≤ n → n < m - 1 → ¬ fr n = fre := fun n n0 n1 q => by
    have := c n n0 (by omega)
    rw [q, t.2.2.2.1] at this
    omega
  refine ⟨by omega, by omega, fun n n0 n1 => ?_, fun h1 => ?_⟩
  · have e := c n n0 (by omega)
    have f := hne n n0 (by omega)
    refine ⟨e.1, e.2.1, ?_, e.2.2.2.1, fun g => ?_⟩
    · (try dsimp only); rw [if_neg f]; exact e.2.2.1
    · rw [hn (fr n) e.2.2.1 f]; exact e.2.2.2.2 g
  · rw [hf, t.2.2.2.2 (by omega)]
    rw [show m' - 1 = m - 1 - 1 by omega]
theorem sm_FR_push {ow ne fr fx : Int → Int} {m m' fre p : Int} {ne' : Int → Int} (h : sm_FR ow ne fr fx m fre) (hm : m < 3000) (hp : 0 ≤ p ∧ p < 3000) (ho : 0 ≤ ow p) (hm' : m' = m + 1) (hn : ∀ q : Int, ow q = -1 → ne' q = ne q) (hp2 : ne' p = fre) : sm_FR (fun i' : Int => if i' = p then -1 else ow i') ne' (fun i' : Int => if i' = m then p else fr i') (fun i' : Int => if i' = p then m else fx i') m' p := by
  obtain ⟨a, b, c, d⟩ := h
  refine ⟨by omega, by omega, fun n n0 n1 => ?_, fun h1 => ?_⟩
  · (try dsimp only)
    by_cases q : n = m
    · rw [if_pos q, if_pos rfl, if_pos rfl]
      refine ⟨hp.1, hp.2, rfl, q.symm, fun g => ?_⟩
      rw [if_neg (by omega), hp2, q]
      exact d (by omega)
    · have e := c n n0 (by omega)
      have f : ¬ fr n = p := fun z => by rw [z] at e; omega
      rw [if_neg q, if_neg f, if_neg f]
      refine ⟨e.1, e.2.1, e.2.2.1, e.2.2.2.1, fun g => ?_⟩
      rw [if_neg (by omega), hn (fr n) e.2.2.1]
      exact e.2.2.2.2 g
  · (try dsimp only)
    rw [if_pos (by omega)]
/-- appended to o's list -/
theorem sm_PL_app {ow se ne fi la ne' fi' la' : Int → Int} {nb sr sr' o p : Int} (h : sm_PL ow se ne fi la nb sr) (h0 : 0 ≤ o) (h1 : o < nb) (hp : 0 ≤ p ∧ p < 3000) (hf : ow p = -1) (hs : 0 ≤ sr) (hsr : sr' = sr + 1)
    (e1 : ∀ q : Int, ne' q = if q = p then -1 else if (¬ la o = -1) ∧ q = la o then p else ne q) (e2 : ∀ x : Int, fi' x = if x = o ∧ la o = -1 then p else fi x) (e3 : ∀ x : Int, la' x = if x = o then p else la x) : sm_PL (fun i' : Int => if i' = p then o else ow i') (fun i' : Int => if i' = p then sr' else se i') ne' fi' la' nb sr' := by
  obtain ⟨a, b, c, d, e⟩ := h
  have hlo : ¬ la o = p := fun q => by
    rcases c o h0 h1 with z | z
    · omega
    · rw [q, hf] at z; omega
  refine ⟨fun q q0 q1 => ?_, fun q q0 q1 q2 => ?_, fun x x0 x1 => ?_, fun q r q0 q1 r0 r1 q2 hr hlt => ?_, fun q r q0 q1 r0 r1 q2 hr heq => ?_⟩
  · (try dsimp only)
    split
    · omega
    · exact a q q0 q1
  · dsimp only at q2 ⊢
    by_cases hq : q = p
    · rw [if_pos hq, if_pos hq, e1, if_pos hq, e2, e3, if_pos rfl, if_pos rfl]
      refine ⟨by omega, by omega, Or.inl rfl, ?_, ?_, Int.le_refl _⟩
      · by_cases z : la o = -1
        · rw [if_pos ⟨rfl, z⟩]; exact hp.1
        · rw [if_neg (fun w => z w.2)]
          rcases c o h0 h1 with y | y
          · exact absurd y.2 z
          · exact y.1
      · by_cases z : la o = -1
        · exact Int.le_of_eq (if_pos (show (if o = o ∧ la o = -1 then p else fi o) = p from if_pos ⟨rfl, z⟩))
        · rw [show (if o = o ∧ la o = -1 then p else fi o) = fi o from if_neg (fun w => z w.2)]
          rcases c o h0 h1 with y | y
          · exact absurd y.2 z
          · have hfp : ¬ fi o = p := fun w => by rw [w, hf] at y; omega
            rw [if_neg hfp]
            have := (b (fi o) y.1 y.2.1 (by omega)).2.1
            omega
    · rw [if_neg hq] at q2
      have bb := b q q0 q1 q2
      have aq := a q q0 q1
      rw [if_neg hq, if_neg hq]
      refine ⟨bb.1, by omega, ?_, ?_, ?_, ?_⟩
      · rw [e1, if_neg hq]
        by_cases z : (¬ la o = -1) ∧ q = la o
        · rw [if_pos z, if_pos rfl, if_pos rfl]
          rcases c o h0 h1 with y | y
          · exact absurd y.2 z.1
          · exact Or.inr ⟨hp.1, hp.2, by rw [z.2]; exact y.2.2.2.2.2.1.symm, by omega⟩
        · rw [if_neg z]
          rcases bb.2.2.1 with w | w
          · exact Or.inl w
          · have hnp : ¬ ne q = p := fun v => by rw [v, hf] at w; omega
            rw [if_neg hnp, if_neg hnp]
            exact Or.inr w
      · rw [e2]
        by_cases z : ow q = o ∧ la o = -1
        · rw [if_pos z]; exact hp.1
        · rw [if_neg z]; exact bb.2.2.2.1
      · rw [e2]
        by_cases z : ow q = o ∧ la o = -1
        · rcases c o h0 h1 with y | y
          · have := bb.2.2.2.1; rw [z.1] at this; omega
          · omega
        · rw [if_neg z]
          have hfp : ¬ fi (ow q) = p := fun w => by
            rcases c (ow q) q2 aq.2 with y | y
            · omega
            · rw [w, hf] at y; omega
          rw [if_neg hfp]; exact bb.2.2.2.2.1
      · rw [e3]
        by_cases z : ow q = o
        · rw [if_pos z, if_pos rfl]; omega
        · rw [if_neg z]
          have hfp : ¬ la (ow q) = p := fun w => by
            rcases c (ow q) q2 aq.2 with y | y
            · omega
            · rw [w, hf] at y; omega
          rw [if_neg hfp]; exact bb.2.2.2.2.2
  · rw [e2, e3]
    by_cases z : x = o
    · rw [if_pos z]
      by_cases w : la o = -1
      · rw [if_pos ⟨z, w⟩, e1, if_pos rfl]
        (try dsimp only)
        rw [if_pos rfl]
        exact Or.inr ⟨hp.1, hp.2, z.symm, hp.1, hp.2, z.symm, rfl⟩
      · rw [if_neg (fun v => w v.2), e1, if_pos rfl]
        (try dsimp only)
        rw [if_pos rfl]
        rcases c o h0 h1 with y | y
        · exact absurd y.2 w
        · have hfp : ¬ fi x = p := fun v => by rw [z] at v; rw [v, hf] at y; omega
          rw [if_neg hfp, z]
          exact Or.inr ⟨y.1, y.2.1, y.2.2.1, hp.1, hp.2, rfl, rfl⟩
    · rw [if_neg z, if_neg (fun v => z v.1)]
      rcases c x x0 x1 with y | y
      · exact Or.inl y
      · have hfp : ¬ fi x = p := fun v => by rw [v, hf] at y; omega
        have hlp : ¬ la x = p := fun v => by rw [v, hf] at y; omega
        (try dsimp only)
        rw [if_neg hfp, if_neg hlp, e1, if_neg hlp]
        have hlo2 : ¬ ((¬ la o = -1) ∧ la x = la o) := fun v => by
          rcases c o h0 h1 with u | u
          · exact v.1 u.2
          · rw [v.2] at y; omega
        rw [if_neg hlo2]
        exact Or.inr y
  · dsimp only at q2 hr hlt
    by_cases hq : q = p
    · rw [if_pos hq] at hlt
      by_cases hr' : r = p
      · rw [if_pos hr'] at hlt; omega
      · rw [if_neg hr'] at hr hlt
        rw [if_pos hq] at hr
        have := (b r r0 r1 (by omega)).2.1
        omega
    · rw [if_neg hq] at q2 hr hlt
      rw [e1, if_neg hq]
      by_cases hr' : r = p
      · rw [if_pos hr'] at hr hlt
        by_cases z : (¬ la o = -1) ∧ q = la o
        · rw [if_pos z]
          (try dsimp only)
          rw [if_pos rfl, if_pos hr']
          exact ⟨by omega, Int.le_refl _⟩
        · rw [if_neg z]
          have bq := b q q0 q1 q2
          rcases c o h0 h1 with y | y
          · have := bq.2.2.2.1; rw [← hr] at this; omega
          · have hql : ¬ q = la o := fun v => z ⟨by omega, v⟩
            have hle := bq.2.2.2.2.2
            rw [← hr] at hle
            have hlt2 : se q < se (la o) := by
              by_cases w : se q = se (la o)
              · exact absurd (e q (la o) q0 q1 y.2.2.2.1 y.2.2.2.2.1 q2 (by omega) w) hql
              · omega
            have dd := d q (la o) q0 q1 y.2.2.2.1 y.2.2.2.2.1 q2 (by omega) hlt2
            have hnp : ¬ ne q = p := fun v => by
              rcases bq.2.2.1 with w | w
              · exact dd.1 w
              · rw [v, hf] at w; omega
            (try dsimp only)
            rw [if_neg hnp, if_pos hr']
            have := (b (la o) y.2.2.2.1 y.2.2.2.2.1 (by omega)).2.1
            exact ⟨dd.1, by omega⟩
      · rw [if_neg hr'] at hr hlt
        have dd := d q r q0 q1 r0 r1 q2 hr hlt
        by_cases z : (¬ la o = -1) ∧ q = la o
        · rcases c o h0 h1 with y | y
          · exact absurd y.2 z.1
          · rw [z.2] at dd; exact absurd y.2.2.2.2.2.2 dd.1
        · rw [if_neg z]
          have hnp : ¬ ne q = p := fun v => by
            rcases (b q q0 q1 q2).2.2.1 with w | w
            · exact dd.1 w
            · rw [v, hf] at w; omega
          (try dsimp only)
          rw [if_neg hnp, if_neg hr']
          exact dd
  · dsimp only at q2 hr heq
    by_cases hq : q = p
    · by_cases hr' : r = p
      · rw [hq, hr']
      · rw [if_pos hq, if_neg hr'] at heq
        rw [if_pos hq, if_neg hr'] at hr
        have := (b r r0 r1 (by omega)).2.1
        omega
    · rw [if_neg hq] at q2 hr heq
      by_cases hr' : r = p
      · rw [if_pos hr'] at heq
        have := (b q q0 q1 q2).2.1
        omega
      · rw [if_neg hr'] at hr heq
        exact e q r q0 q1 r0 r1 q2 hr heq
theorem sm_PL_step {ow se ne fi la : Int → Int} {nb sr o q p : Int} (h : sm_PL ow se ne fi la nb sr) (q0 : 0 ≤ q) (q1 : q < 3000) (q2 : ow q = o) (p0 : 0 ≤ p) (p1 : p < 3000) (p2 : ow p = o) (ho : 0 ≤ o) (hs : se q ≤ se p) (hne : ¬ q = p) : 0 ≤ ne q ∧ ne q < 3000 ∧ ow (ne q) = o ∧ se q < se (ne q) ∧ se (ne q) ≤ se p := by
  obtain ⟨a, b, c, d, e⟩ := h
  have hlt : se q < se p := by
    by_cases z : se q = se p
    · exact absurd (e q p q0 q1 p0 p1 (by omega) (by omega) z) hne
    · omega
  have dd := d q p q0 q1 p0 p1 (by omega) (by omega) hlt
  rcases (b q q0 q1 (by omega)).2.2.1 with w | w
  · exact absurd w dd.1
  · exact ⟨w.1, w.2.1, w.2.2.1.trans q2, w.2.2.2, dd.2⟩
/-- p goes out of o's list, b is ahead of it (-1: it is the first) -/
theorem sm_PL_rem {ow se ne fi la ne' fi' la' : Int → Int} {nb sr o p b0 fre : Int} (h : sm_PL ow se ne fi la nb sr) (h0 : 0 ≤ o) (h1 : o < nb) (hp : 0 ≤ p ∧ p < 3000) (hf : ow p = o)
    (hb : (b0 = -1 ∧ fi o = p) ∨ (0 ≤ b0 ∧ b0 < 3000 ∧ ow b0 = o ∧ ne b0 = p))
    (e1 : ∀ q : Int, ne' q = if q = p then fre else if (¬ b0 = -1) ∧ q = b0 then ne p else ne q) (e2 : ∀ x : Int, fi' x = if x = o ∧ b0 = -1 then ne p else fi x) (e3 : ∀ x : Int, la' x = if x = o ∧ la o = p then b0 else la x) : sm_PL (fun i' : Int => if i' = p then -1 else ow i') se ne' fi' la' nb sr := by
  obtain ⟨a, b, c, d, e⟩ := h
  have bp := b p hp.1 hp.2 (by omega)
  have hbs : ¬ b0 = -1 → 0 ≤ b0 ∧ b0 < 3000 ∧ ow b0 = o ∧ ne b0 = p ∧ se b0 < se p := fun z => by
    rcases hb with w | w
    · exact absurd w.1 z
    · have := (b b0 w.1 w.2.1 (by omega)).2.2.1
      rcases this with v | v
      · omega
      · rw [w.2.2.2] at v; exact ⟨w.1, w.2.1, w.2.2.1, w.2.2.2, v.2.2.2⟩
  have hbf : b0 = -1 → fi o = p := fun z => by
    rcases hb with w | w
    · exact w.2
    · omega
  have hnp : ∀ q : Int, 0 ≤ q → q < 3000 → 0 ≤ ow q → ¬ q = b0 → ¬ ne q = p := fun q q0 q1 q2 qb z => by
    have bq := b q q0 q1 q2
    rcases bq.2.2.1 with v | v
    · omega
    · rw [z, hf] at v
      by_cases w : b0 = -1
      · have := bq.2.2.2.2.1
        rw [← v.2.2.1, hbf w] at this
        omega
      · have k := hbs w
        by_cases s1 : se q < se b0
        · have := (d q b0 q0 q1 k.1 k.2.1 q2 (by omega) s1).2
          rw [z] at this; omega
        · by_cases s2 : se b0 < se q
          · have := (d b0 q k.1 k.2.1 q0 q1 (by omega) (by omega) s2).2
            rw [k.2.2.2.1] at this; omega
          · exact qb (e q b0 q0 q1 k.1 k.2.1 q2 (by omega) (by omega))
  have hnpp : ¬ ne p = p := fun z => by
    rcases bp.2.2.1 with v | v
    · omega
    · rw [z] at v; omega
  have hlast : ne p = -1 → la o = p := fun z => by
    by_cases w : la o = p
    · exact w
    · rcases c o h0 h1 with y | y
      · have := bp.2.2.2.1; rw [hf] at this; omega
      · have hl := bp.2.2.2.2.2
        rw [hf] at hl
        have hlt : se p < se (la o) := by
          by_cases u : se p = se (la o)
          · exact absurd (e p (la o) hp.1 hp.2 y.2.2.2.1 y.2.2.2.2.1 (by omega) (by omega) u).symm w
          · omega
        exact absurd z (d p (la o) hp.1 hp.2 y.2.2.2.1 y.2.2.2.2.1 (by omega) (by omega) hlt).1
  refine ⟨fun q q0 q1 => ?_, fun q q0 q1 q2 => ?_, fun x x0 x1 => ?_, fun q r q0 q1 r0 r1 q2 hr hlt => ?_, fun q r q0 q1 r0 r1 q2 hr heq => ?_⟩
  · (try dsimp only)
    split
    · omega
    · exact a q q0 q1
  · dsimp only at q2 ⊢
    by_cases hq : q = p
    · rw [if_pos hq] at q2; omega
    · rw [if_neg hq] at q2
      have bq := b q q0 q1 q2
      rw [if_neg hq, e1, if_neg hq, e2, e3]
      refine ⟨bq.1, bq.2.1, ?_, ?_, ?_, ?_⟩
      · by_cases z : (¬ b0 = -1) ∧ q = b0
        · rw [if_pos z]
          have k := hbs z.1
          rcases bp.2.2.1 with v | v
          · exact Or.inl v
          · rw [if_neg hnpp]
            exact Or.inr ⟨v.1, v.2.1, by rw [v.2.2.1, z.2]; omega, by rw [z.2]; omega⟩
        · rw [if_neg z]
          have hqb : ¬ q = b0 := fun w => z ⟨by omega, w⟩
          have := hnp q q0 q1 q2 hqb
          rw [if_neg this]
          exact bq.2.2.1
      · by_cases z : ow q = o ∧ b0 = -1
        · rw [if_pos z]
          have hle := bq.2.2.2.2.1
          rw [z.1, hbf z.2] at hle
          exact (sm_PL_step ⟨a, b, c, d, e⟩ hp.1 hp.2 hf q0 q1 z.1 h0 hle (fun w => hq w.symm)).1
        · rw [if_neg z]; exact bq.2.2.2.1
      · by_cases z : ow q = o ∧ b0 = -1
        · rw [if_pos z]
          have hle := bq.2.2.2.2.1
          rw [z.1, hbf z.2] at hle
          exact (sm_PL_step ⟨a, b, c, d, e⟩ hp.1 hp.2 hf q0 q1 z.1 h0 hle (fun w => hq w.symm)).2.2.2.2
        · rw [if_neg z]; exact bq.2.2.2.2.1
      · by_cases z : ow q = o ∧ la o = p
        · rw [if_pos z]
          have hle := bq.2.2.2.2.2
          rw [z.1, z.2] at hle
          by_cases w : b0 = -1
          · have := bq.2.2.2.2.1
            rw [z.1, hbf w] at this
            exact absurd (e q p q0 q1 hp.1 hp.2 q2 (by omega) (by omega)) hq
          · have k := hbs w
            by_cases u : se b0 < se q
            · have := (d b0 q k.1 k.2.1 q0 q1 (by omega) (by omega) u).2
              rw [k.2.2.2.1] at this
              exact absurd (e q p q0 q1 hp.1 hp.2 q2 (by omega) (by omega)) hq
            · omega
        · rw [if_neg z]; exact bq.2.2.2.2.2
  · rw [e2, e3]
    by_cases z : x = o
    · subst z
      rcases c x x0 x1 with y | y
      · have := bp.2.2.2.1; rw [hf] at this; omega
      · by_cases w : b0 = -1
        · rw [if_pos ⟨rfl, w⟩]
          rcases bp.2.2.1 with v | v
          · rw [if_pos ⟨rfl, hlast v⟩]
            exact Or.inl ⟨v, w⟩
          · have hlp : ¬ la x = p := fun u => by rw [u] at y; omega
            rw [if_neg (fun u => hlp u.2), e1, if_neg hlp, if_neg (fun u => u.1 w)]
            (try dsimp only)
            rw [if_neg hnpp, if_neg hlp]
            exact Or.inr ⟨v.1, v.2.1, by rw [v.2.2.1]; exact hf, y.2.2.2.1, y.2.2.2.2.1, y.2.2.2.2.2.1, y.2.2.2.2.2.2⟩
        · have k := hbs w
          have hfp : ¬ fi x = p := fun u => by
            have := (b b0 k.1 k.2.1 (by omega)).2.2.2.2.1
            rw [k.2.2.1, u] at this; omega
          have hbp : ¬ b0 = p := fun u => by rw [u] at k; omega
          rw [if_neg (fun u => w u.2)]
          by_cases u : la x = p
          · rw [if_pos ⟨rfl, u⟩, e1, if_neg hbp, if_pos ⟨w, rfl⟩]
            (try dsimp only)
            rw [if_neg hfp, if_neg hbp]
            exact Or.inr ⟨y.1, y.2.1, y.2.2.1, k.1, k.2.1, k.2.2.1, by rw [← u]; exact y.2.2.2.2.2.2⟩
          · have hlb : ¬ ((¬ b0 = -1) ∧ la x = b0) := fun v => by rw [v.2, k.2.2.2.1] at y; omega
            rw [if_neg (fun v => u v.2), e1, if_neg u, if_neg hlb]
            (try dsimp only)
            rw [if_neg hfp, if_neg u]
            exact Or.inr y
    · rw [if_neg (fun v => z v.1), if_neg (fun v => z v.1)]
      rcases c x x0 x1 with y | y
      · exact Or.inl y
      · have hfp : ¬ fi x = p := fun v => by rw [v, hf] at y; omega
        have hlp : ¬ la x = p := fun v => by rw [v, hf] at y; omega
        have hlb : ¬ ((¬ b0 = -1) ∧ la x = b0) := fun v => by
          have := (hbs v.1).2.2.1
          rw [v.2] at y; omega
        rw [e1, if_neg hlp, if_neg hlb]
        (try dsimp only)
        rw [if_neg hfp, if_neg hlp]
        exact Or.inr y
  · dsimp only at q2 hr
    by_cases hq : q = p
    · rw [if_pos hq] at q2; omega
    · rw [if_neg hq] at q2 hr
      by_cases hr' : r = p
      · rw [if_pos hr'] at hr; omega
      · rw [if_neg hr'] at hr
        rw [e1, if_neg hq]
        have dd := d q r q0 q1 r0 r1 q2 hr hlt
        by_cases z : (¬ b0 = -1) ∧ q = b0
        · rw [if_pos z]
          have k := hbs z.1
          rw [z.2, k.2.2.2.1] at dd
          have := sm_PL_step ⟨a, b, c, d, e⟩ hp.1 hp.2 hf r0 r1 (by rw [hr, z.2]; exact k.2.2.1) h0 dd.2 (fun w => hr' w.symm)
          exact ⟨by omega, this.2.2.2.2⟩
        · rw [if_neg z]; exact dd
  · dsimp only at q2 hr
    by_cases hq : q = p
    · rw [if_pos hq] at q2; omega
    · rw [if_neg hq] at q2 hr
      by_cases hr' : r = p
      · rw [if_pos hr'] at hr; omega
      · rw [if_neg hr'] at hr
        exact e q r q0 q1 r0 r1 q2 hr heq
theorem sm_PL_new {ow se ne fi la : Int → Int} {nb nb' sr x y o o2 : Int} (h : sm_PL ow se ne fi la nb sr) (h0 : 0 ≤ nb) (hx : x = -1) (hy : y = -1) (ho : o = nb) (ho2 : o2 = nb) (hn : nb' = nb + 1) : sm_PL ow se ne (fun i' : Int => if i' = o then x else fi i') (fun i' : Int => if i' = o2 then y else la i') nb' sr := by
  obtain ⟨a, b, c, d, e⟩ := h
  refine ⟨fun p p0 p1 => ⟨(a p p0 p1).1, by have := (a p p0 p1).2; omega⟩, fun p p0 p1 p2 => ?_, fun q q0 q1 => ?_, d, e⟩
  · have q := a p p0 p1
    (try dsimp only)
    rw [if_neg (by omega), if_neg (by omega)]
    exact b p p0 p1 p2
  · (try dsimp only)
    by_cases z : q = nb
    · rw [if_pos (by omega), if_pos (by omega)]; exact Or.inl ⟨hx, hy⟩
    · rw [if_neg (by omega), if_neg (by omega)]; exact c q q0 (by omega)
theorem sm_PL_sr {ow se ne fi la : Int → Int} {nb sr sr' : Int} (h : sm_PL ow se ne fi la nb sr) (hs : sr ≤ sr') : sm_PL ow se ne fi la nb sr' := ⟨h.1, fun p p0 p1 p2 => by
  have := h.2.1 p p0 p1 p2
  exact ⟨this.1, by omega, this.2.2⟩, h.2.2⟩
/-! values -/
def sm_VO (so : Int → Int) (nb ns s v : Int) : Prop := 0 ≤ s ∧ s ≤ 7 ∧ (s = 6 → 0 ≤ v ∧ v < ns) ∧ (s = 7 → 0 ≤ v ∧ v < nb ∧ ¬ so v = 3)
theorem sm_VO_e {so : Int → Int} {nb ns s v : Int} (h : sm_VO so nb ns s v) : 0 ≤ s ∧ s ≤ 7 ∧ (s = 6 → 0 ≤ v ∧ v < ns) ∧ (s = 7 → 0 ≤ v ∧ v < nb ∧ ¬ so v = 3) := h
theorem sm_VO_i {so : Int → Int} {nb ns s v : Int} (h0 : 0 ≤ s) (h1 : s ≤ 7) (h2 : s = 6 → 0 ≤ v ∧ v < ns) (h3 : s = 7 → 0 ≤ v ∧ v < nb ∧ ¬ so v = 3) : sm_VO so nb ns s v := ⟨h0, h1, h2, h3⟩
/-- objects that were there keep their sort -/
theorem sm_VO_m {so so' : Int → Int} {nb nb' ns ns' s v : Int} (h : sm_VO so nb ns s v) (hn : nb ≤ nb') (hs : ns ≤ ns') (f : sm_F1 so so' nb) : sm_VO so' nb' ns' s v := ⟨h.1, h.2.1, fun q => by have := h.2.2.1 q; omega, fun q => by
  have := h.2.2.2 q
  refine ⟨this.1, by omega, ?_⟩
  rw [f v this.2.1]; exact this.2.2⟩
def sm_PV (ow pn ps pv so : Int → Int) (nb ns : Int) : Prop := ∀ p : Int, 0 ≤ p → p < 3000 → 0 ≤ ow p → (0 ≤ pn p ∧ pn p < ns) ∧ sm_VO so nb ns (ps p) (pv p)
theorem sm_PV_at {ow pn ps pv so : Int → Int} {nb ns : Int} (h : sm_PV ow pn ps pv so nb ns) (p : Int) (h0 : 0 ≤ p) (h1 : p < 3000) (h2 : 0 ≤ ow p) : (0 ≤ pn p ∧ pn p < ns) ∧ sm_VO so nb ns (ps p) (pv p) := h p h0 h1 h2
theorem sm_PV_m {ow pn ps pv so so' : Int → Int} {nb nb' ns ns' : Int} (h : sm_PV ow pn ps pv so nb ns) (hn : nb ≤ nb') (hs : ns ≤ ns') (f : sm_F1 so so' nb) : sm_PV ow pn ps pv so' nb' ns' := fun p h0 h1 h2 => by
  have := h p h0 h1 h2
  exact ⟨by omega, sm_VO_m this.2 hn hs f⟩
theorem sm_PV_ow {ow pn ps pv so : Int → Int} {nb ns p p2 s v : Int} (h : sm_PV ow pn ps pv so nb ns) (hv : sm_VO so nb ns s v) (e : p2 = p) : sm_PV ow pn (fun i' : Int => if i' = p then s else ps i') (fun i' : Int => if i' = p2 then v else pv i') so nb ns := fun q h0 h1 h2 => by
  have := h q h0 h1 h2
  refine ⟨this.1, ?_⟩
  (try dsimp only)
  by_cases z : q = p
  · rw [if_pos z, if_pos (by omega)]; exact hv
  · rw [if_neg z, if_neg (by omega)]; exact this.2
theorem sm_PV_new {ow pn ps pv so : Int → Int} {nb ns p o n s v : Int} (h : sm_PV ow pn ps pv so nb ns) (hn : 0 ≤ n ∧ n < ns) (hv : sm_VO so nb ns s v) : sm_PV (fun i' : Int => if i' = p then o else ow i') (fun i' : Int => if i' = p then n else pn i') (fun i' : Int => if i' = p then s else ps i') (fun i' : Int => if i' = p then v else pv i') so nb ns := fun q h0 h1 h2 => by
  dsimp only at h2 ⊢
  by_cases z : q = p
  · rw [if_pos z, if_pos z, if_pos z]; exact ⟨hn, hv⟩
  · rw [if_neg z] at h2
    rw [if_neg z, if_neg z, if_neg z]; exact h q h0 h1 h2
theorem sm_PV_rem {ow pn ps pv so : Int → Int} {nb ns p : Int} (h : sm_PV ow pn ps pv so nb ns) : sm_PV (fun i' : Int => if i' = p then -1 else ow i') pn ps pv so nb ns := fun q h0 h1 h2 => by
  dsimp only at h2
  by_cases z : q = p
  · rw [if_pos z] at h2; omega
  · rw [if_neg z] at h2; exact h q h0 h1 h2
/-! arrays have length, scopes their variables -/
def sm_AL (ow pn ps pv so : Int → Int) (nb e : Int) : Prop := (∀ o : Int, 0 ≤ o → o < nb → so o = 2 → ¬ o = e → ∃ p : Int, 0 ≤ p ∧ p < 3000 ∧ ow p = o ∧ pn p = 0) ∧ (∀ p : Int, 0 ≤ p → p < 3000 → 0 ≤ ow p → so (ow p) = 2 → pn p = 0 → ps p = 5 ∧ 0 ≤ pv p ∧ pv p ≤ 100)
theorem sm_AL_at {ow pn ps pv so : Int → Int} {nb e : Int} (h : sm_AL ow pn ps pv so nb e) (p : Int) (h0 : 0 ≤ p) (h1 : p < 3000) (h2 : 0 ≤ ow p) (h3 : so (ow p) = 2) (h4 : pn p = 0) : ps p = 5 ∧ 0 ≤ pv p ∧ pv p ≤ 100 := h.2 p h0 h1 h2 h3 h4
theorem sm_AL_has {ow se pn ps pv so : Int → Int} {nb e o : Int} (h : sm_AL ow pn ps pv so nb e) (h0 : 0 ≤ o) (h1 : o < nb) (h2 : so o = 2) (h3 : ¬ o = e) (b : sm_NB ow se pn o 0 (-1)) : False := by
  obtain ⟨p, a1, a2, a3, a4⟩ := h.1 o h0 h1 h2 h3
  exact b p a1 a2 a3 (Or.inl rfl) a4
theorem sm_AL_ow {ow pn ps pv so : Int → Int} {nb e p p2 s v o : Int} (h : sm_AL ow pn ps pv so nb e) (ho : ow p = o) (hv : so o = 2 → pn p = 0 → s = 5 ∧ 0 ≤ v ∧ v ≤ 100) (q : p2 = p) : sm_AL ow pn (fun i' : Int => if i' = p then s else ps i') (fun i' : Int => if i' = p2 then v else pv i') so nb e := ⟨h.1, fun x x0 x1 x2 x3 x4 => by
  (try dsimp only)
  by_cases z : x = p
  · rw [if_pos z, if_pos (by omega)]; rw [z] at x3 x4; rw [ho] at x3; exact hv x3 x4
  · rw [if_neg z, if_neg (by omega)]; exact h.2 x x0 x1 x2 x3 x4⟩
theorem sm_AL_new {ow pn ps pv so : Int → Int} {nb e p o n s v : Int} (h : sm_AL ow pn ps pv so nb e) (hf : ow p = -1) (hv : so o = 2 → n = 0 → s = 5 ∧ 0 ≤ v ∧ v ≤ 100) : sm_AL (fun i' : Int => if i' = p then o else ow i') (fun i' : Int => if i' = p then n else pn i') (fun i' : Int => if i' = p then s else ps i') (fun i' : Int => if i' = p then v else pv i') so nb e := ⟨fun x x0 x1 x2 x3 => by
  obtain ⟨q, a1, a2, a3, a4⟩ := h.1 x x0 x1 x2 x3
  have z : ¬ q = p := fun w => by rw [w, hf] at a3; omega
  refine ⟨q, a1, a2, ?_, ?_⟩ <;> (try dsimp only) <;> rw [if_neg z] <;> assumption, fun x x0 x1 x2 x3 x4 => by
  dsimp only at x2 x3 x4 ⊢
  by_cases z : x = p
  · rw [if_pos z] at x3 x4; rw [if_pos z, if_pos z]; exact hv x3 x4
  · rw [if_neg z] at x2 x3 x4; rw [if_neg z, if_neg z]; exact h.2 x x0 x1 x2 x3 x4⟩
/-- the array that had no length yet has one -/
theorem sm_AL_e {ow pn ps pv so : Int → Int} {nb e p : Int} (h : sm_AL ow pn ps pv so nb e) (h0 : 0 ≤ p) (h1 : p < 3000) (h2 : ow p = e) (h3 : pn p = 0) (e' : Int) : sm_AL ow pn ps pv so nb e' := ⟨fun x x0 x1 x2 x3 => by
  by_cases z : x = e
  · exact ⟨p, h0, h1, h2.trans z.symm, h3⟩
  · exact h.1 x x0 x1 x2 z, h.2⟩
theorem sm_AL_rem {ow pn ps pv so : Int → Int} {nb e p o : Int} (h : sm_AL ow pn ps pv so nb e) (ho : ow p = o) (hn : ¬ (so o = 2 ∧ pn p = 0)) : sm_AL (fun i' : Int => if i' = p then -1 else ow i') pn ps pv so nb e := ⟨fun x x0 x1 x2 x3 => by
  obtain ⟨q, a1, a2, a3, a4⟩ := h.1 x x0 x1 x2 x3
  have z : ¬ q = p := fun w => hn (by rw [← ho, ← w, a3]; exact ⟨x2, a4⟩)
  refine ⟨q, a1, a2, ?_, a4⟩
  (try dsimp only)
  rw [if_neg z]; exact a3, fun x x0 x1 x2 x3 x4 => by
  dsimp only at x2 x3
  by_cases z : x = p
  · rw [if_pos z] at x2; omega
  · rw [if_neg z] at x2 x3; exact h.2 x x0 x1 x2 x3 x4⟩
theorem sm_AL_obj {ow se ne fi la pn ps pv so : Int → Int} {nb nb' e e' sr o s : Int} (h : sm_AL ow pn ps pv so nb e) (l : sm_PL ow se ne fi la nb sr) (ho : o = nb) (hn : nb' = nb + 1) (he : s = 2 → e' = nb) (hq : ∀ x : Int, 0 ≤ x → x < nb → x = e → x = e') : sm_AL ow pn ps pv (fun i' : Int => if i' = o then s else so i') nb' e' := ⟨fun x x0 x1 x2 x3 => by
  dsimp only at x2
  by_cases z : x = o
  · rw [if_pos z] at x2; exact absurd (by have := he x2; omega) x3
  · rw [if_neg z] at x2
    exact h.1 x x0 (by omega) x2 (fun w => x3 (hq x x0 (by omega) w)), fun x x0 x1 x2 x3 x4 => by
  have := (l.1 x x0 x1).2
  dsimp only at x3
  rw [if_neg (by omega)] at x3
  exact h.2 x x0 x1 x2 x3 x4⟩
/-- what was owned is owned still, with its name -/
def sm_KP (ow pn ow' pn' : Int → Int) : Prop := ∀ p : Int, 0 ≤ p → p < 3000 → 0 ≤ ow p → ow' p = ow p ∧ pn' p = pn p
theorem sm_KP_rf {ow pn : Int → Int} : sm_KP ow pn ow pn := fun _ _ _ _ => ⟨rfl, rfl⟩
theorem sm_KP_tr {ow pn ow' pn' ow2 pn2 : Int → Int} (h : sm_KP ow pn ow' pn') (k : sm_KP ow' pn' ow2 pn2) : sm_KP ow pn ow2 pn2 := fun p p0 p1 p2 => by
  obtain ⟨a, b⟩ := h p p0 p1 p2
  obtain ⟨c, d⟩ := k p p0 p1 (by omega)
  exact ⟨c.trans a, d.trans b⟩
theorem sm_KP_new {ow pn : Int → Int} {p o n : Int} (hf : ow p = -1) : sm_KP ow pn (fun i' : Int => if i' = p then o else ow i') (fun i' : Int => if i' = p then n else pn i') := fun q q0 q1 q2 => by
  have z : ¬ q = p := fun w => by rw [w, hf] at q2; omega
  exact ⟨if_neg z, if_neg z⟩
def sm_HN (ow pn : Int → Int) (o name : Int) : Prop := ∃ p : Int, 0 ≤ p ∧ p < 3000 ∧ ow p = o ∧ pn p = name
theorem sm_HN_i {ow pn : Int → Int} {o name p : Int} (h0 : 0 ≤ p) (h1 : p < 3000) (h2 : ow p = o) (h3 : pn p = name) : sm_HN ow pn o name := ⟨p, h0, h1, h2, h3⟩
theorem sm_HN_new {ow pn : Int → Int} {o name p : Int} (h0 : 0 ≤ p) (h1 : p < 3000) : sm_HN (fun i' : Int => if i' = p then o else ow i') (fun i' : Int => if i' = p then name else pn i') o name := ⟨p, h0, h1, if_pos rfl, if_pos rfl⟩
theorem sm_HN_KP {ow pn ow' pn' : Int → Int} {o name : Int} (h : sm_HN ow pn o name) (ho : 0 ≤ o) (k : sm_KP ow pn ow' pn') : sm_HN ow' pn' o name := by
  obtain ⟨p, a1, a2, a3, a4⟩ := h
  obtain ⟨c, d⟩ := k p a1 a2 (by omega)
  exact ⟨p, a1, a2, c.trans a3, d.trans a4⟩
theorem sm_HN_no {ow se pn : Int → Int} {o name : Int} (h : sm_HN ow pn o name) (b : sm_NB ow se pn o name (-1)) : False := by
  obtain ⟨p, a1, a2, a3, a4⟩ := h
  exact b p a1 a2 a3 (Or.inl rfl) a4
def sm_SV (ow pn gs vs vm : Int → Int) (nb nf : Int) : Prop := ∀ o : Int, 0 ≤ o → o < nb → 1 ≤ gs o → gs o < nf ∧ ∀ k : Int, 0 ≤ k → k < vm (gs o) → sm_HN ow pn o (vs (100 * gs o + k))
theorem sm_SV_KP {ow pn ow' pn' gs vs vm : Int → Int} {nb nf : Int} (h : sm_SV ow pn gs vs vm nb nf) (k : sm_KP ow pn ow' pn') : sm_SV ow' pn' gs vs vm nb nf := fun o o0 o1 o2 => by
  obtain ⟨a, b⟩ := h o o0 o1 o2
  exact ⟨a, fun j j0 j1 => sm_HN_KP (b j j0 j1) o0 k⟩
theorem sm_SV_rem {ow pn gs vs vm : Int → Int} {nb nf p o0 : Int} (h : sm_SV ow pn gs vs vm nb nf) (ho : ow p = o0) (hg : gs o0 < 1) : sm_SV (fun i' : Int => if i' = p then -1 else ow i') pn gs vs vm nb nf := fun o oa o1 o2 => by
  obtain ⟨a, b⟩ := h o oa o1 o2
  refine ⟨a, fun j j0 j1 => ?_⟩
  obtain ⟨q, q0, q1, q2, q3⟩ := b j j0 j1
  have z : ¬ q = p := fun w => by rw [w, ho] at q2; rw [q2] at hg; omega
  exact ⟨q, q0, q1, (if_neg z).trans q2, q3⟩
theorem sm_SV_obj {ow pn gs vs vm : Int → Int} {nb nb' nf o x : Int} (h : sm_SV ow pn gs vs vm nb nf) (ho : o = nb) (hn : nb' = nb + 1) (hx : x < 1) : sm_SV ow pn (fun i' : Int => if i' = o then x else gs i') vs vm nb' nf := fun q q0 q1 q2 => by
  dsimp only at q2 ⊢
  by_cases z : q = o
  · rw [if_pos z] at q2; omega
  · rw [if_neg z] at q2 ⊢; exact h q q0 (by omega) q2
theorem sm_SV_at {ow pn gs vs vm : Int → Int} {nb nf : Int} (h : sm_SV ow pn gs vs vm nb nf) (o k : Int) (h0 : 0 ≤ o) (h1 : o < nb) (h2 : 1 ≤ gs o) (h3 : 0 ≤ k) (h4 : k < vm (gs o)) : sm_HN ow pn o (vs (100 * gs o + k)) := (h o h0 h1 h2).2 k h3 h4
/-- so many of a function's variables are there -/
def sm_SJ (ow pn vs : Int → Int) (o g j : Int) : Prop := ∀ k : Int, 0 ≤ k → k < j → sm_HN ow pn o (vs (100 * g + k))
theorem sm_SJ_0 {ow pn vs : Int → Int} {o g j : Int} (h : j ≤ 0) : sm_SJ ow pn vs o g j := fun k k0 k1 => by omega
theorem sm_SJ_s {ow pn ow' pn' vs : Int → Int} {o g j j' : Int} (h : sm_SJ ow pn vs o g j) (ho : 0 ≤ o) (k : sm_KP ow pn ow' pn') (n : sm_HN ow' pn' o (vs (100 * g + j))) (hj : j' = j + 1) : sm_SJ ow' pn' vs o g j' := fun i i0 i1 => by
  by_cases z : i = j
  · rw [z]; exact n
  · exact sm_HN_KP (h i i0 (by omega)) ho k
theorem sm_SV_set {ow pn gs vs vm : Int → Int} {nb nf o g : Int} (h : sm_SV ow pn gs vs vm nb nf) (j : sm_SJ ow pn vs o g (vm g)) (hg : 1 ≤ g ∧ g < nf) : sm_SV ow pn (fun i' : Int => if i' = o then g else gs i') vs vm nb nf := fun q q0 q1 q2 => by
  dsimp only at q2 ⊢
  by_cases z : q = o
  · rw [if_pos z]; exact ⟨hg.2, fun k k0 k1 => by rw [z]; exact j k k0 k1⟩
  · rw [if_neg z] at q2 ⊢; exact h q q0 q1 q2
def sm_LK (gs : Int → Int) (nb x h : Int) : Prop := (h = 0 ∧ x = -1) ∨ (1 ≤ h ∧ 0 ≤ x ∧ x < nb ∧ gs x = h)
def sm_SC (gs so co li ar : Int → Int) (nb nf : Int) : Prop := ∀ o : Int, 0 ≤ o → o < nb → (so o = 1 → 1 ≤ co o → co o < nf ∧ sm_LK gs nb (li o) (ar (co o))) ∧ (1 ≤ gs o → so o = 3 ∧ sm_LK gs nb (li o) (ar (gs o)))
def sm_PO (pr : Int → Int) (nb : Int) : Prop := ∀ o : Int, 0 ≤ o → o < nb → pr o = -1 ∨ (0 ≤ pr o ∧ (pr o < nb ∨ nb = 1) ∧ (pr o < o ∨ (o = 0 ∧ pr o = 1)) ∧ ¬ o = 1) 
theorem sm_PO_at {pr : Int → Int} {nb : Int} (h : sm_PO pr nb) (o : Int) (h0 : 0 ≤ o) (h1 : o < nb) (h2 : 2 ≤ nb) : pr o = -1 ∨ (0 ≤ pr o ∧ pr o < nb ∧ (pr o < o ∨ (o = 0 ∧ pr o = 1)) ∧ ¬ o = 1) := by
  have := h o h0 h1
  omega
theorem sm_PO_0 {pr : Int → Int} {nb : Int} (h : nb ≤ 0) : sm_PO pr nb := fun o h0 h1 => by omega
theorem sm_PO_new {pr : Int → Int} {nb nb' o x : Int} (h : sm_PO pr nb) (ho : o = nb) (hn : nb' = nb + 1) (hx : x = -1 ∨ (0 ≤ x ∧ x < nb) ∨ (nb = 0 ∧ x = 1)) (h2 : nb = 1 → x = -1) (h3 : 0 ≤ nb) : sm_PO (fun i' : Int => if i' = o then x else pr i') nb' := fun q q0 q1 => by
  (try dsimp only)
  by_cases z : q = o
  · rw [if_pos z]; omega
  · rw [if_neg z]
    have := h q q0 (by omega)
    omega
theorem sm_SC_new {gs so co li ar : Int → Int} {nb nb' nf o o2 o3 o4 g s c l : Int} (h : sm_SC gs so co li ar nb nf) (ho : o = nb) (ho2 : o2 = nb) (ho3 : o3 = nb) (ho4 : o4 = nb) (hn : nb' = nb + 1) (hg : g < 1) (hc : c < 1) : sm_SC (fun i' : Int => if i' = o then g else gs i') (fun i' : Int => if i' = o2 then s else so i') (fun i' : Int => if i' = o3 then c else co i') (fun i' : Int => if i' = o4 then l else li i') ar nb' nf := fun q q0 q1 => by
  (try dsimp only)
  by_cases z : q = nb
  · rw [if_pos (by omega), if_pos (by omega), if_pos (by omega)]
    exact ⟨fun _ w => by omega, fun w => by omega⟩
  · rw [if_neg (by omega), if_neg (by omega), if_neg (by omega), if_neg (by omega)]
    obtain ⟨a, b⟩ := h q q0 (by omega)
    have m : ∀ x y : Int, sm_LK gs nb x y → sm_LK (fun i' : Int => if i' = o then g else gs i') nb' x y := fun x y w => by
      rcases w with w | w
      · exact Or.inl w
      · refine Or.inr ⟨w.1, w.2.1, by omega, ?_⟩
        (try dsimp only)
        rw [if_neg (by omega)]; exact w.2.2.2
    exact ⟨fun w1 w2 => ⟨(a w1 w2).1, m _ _ (a w1 w2).2⟩, fun w => ⟨(b w).1, m _ _ (b w).2⟩⟩
/-! the rows as they are written -/
section PLX
variable {ow se ne fi la : Int → Int} {nb sr sr' o p : Int}
theorem sm_PL_app0 {x y p1 p2 p3 o1 o2 y1 : Int} (h : sm_PL ow se ne fi la nb sr) (h0 : 0 ≤ o) (h1 : o < nb) (hp : 0 ≤ p ∧ p < 3000) (hf : ow p = -1) (hs : 0 ≤ sr) (hy : y = sr + 1) (hy1 : y1 = y) (hx : x = -1) (hl : la o = -1) (ha : p1 = p ∧ p2 = p ∧ p3 = p ∧ o1 = o ∧ o2 = o) : sm_PL (fun i' : Int => if i' = p then o else ow i') (fun i' : Int => if i' = p then y1 else se i') (fun i' : Int => if i' = p1 then x else ne i') (fun i' : Int => if i' = o1 then p2 else fi i') (fun i' : Int => if i' = o2 then p3 else la i') nb y := by
  obtain ⟨a1, a2, a3, a4, a5⟩ := ha
  subst a1 a2 a3 a4 a5 hx hy1
  refine sm_PL_app h h0 h1 hp hf hs hy (fun q => ?_) (fun q => ?_) (fun q => rfl)
  · (try dsimp only)
    by_cases z : q = p3
    · rw [if_pos z, if_pos z]
    · rw [if_neg z, if_neg z, if_neg (fun w => w.1 hl)]
  · (try dsimp only)
    by_cases z : q = o2
    · rw [if_pos z, if_pos ⟨z, hl⟩]
    · rw [if_neg z, if_neg (fun w => z w.1)]
theorem sm_PL_app1 {x y p1 p2 p3 l o2 y1 : Int} (h : sm_PL ow se ne fi la nb sr) (h0 : 0 ≤ o) (h1 : o < nb) (hp : 0 ≤ p ∧ p < 3000) (hf : ow p = -1) (hs : 0 ≤ sr) (hy : y = sr + 1) (hy1 : y1 = y) (hx : x = -1) (hl : ¬ la o = -1) (ha : p1 = p ∧ p2 = p ∧ p3 = p ∧ l = la o ∧ o2 = o) : sm_PL (fun i' : Int => if i' = p then o else ow i') (fun i' : Int => if i' = p then y1 else se i') (fun i' : Int => if i' = l then p2 else if i' = p1 then x else ne i') fi (fun i' : Int => if i' = o2 then p3 else la i') nb y := by
  obtain ⟨a1, a2, a3, a4, a5⟩ := ha
  subst a1 a2 a3 a4 a5 hx hy1
  have hlp : ¬ la o2 = p3 := fun w => by
    rcases h.2.2.1 o2 h0 h1 with z | z
    · exact hl z.2
    · rw [w, hf] at z; omega
  refine sm_PL_app h h0 h1 hp hf hs hy (fun q => ?_) (fun q => ?_) (fun q => rfl)
  · (try dsimp only)
    by_cases z : q = p3
    · rw [if_pos z, if_neg (fun w => hlp (by rw [← w]; exact z)), if_pos z]
    · by_cases w : q = la o2
      · rw [if_pos w, if_neg z, if_pos ⟨hl, w⟩]
      · rw [if_neg w, if_neg z, if_neg z, if_neg (fun u => w u.2)]
  · rw [if_neg (fun w => hl w.2)]
theorem sm_PL_rem00 {fre x p1 o1 : Int} (h : sm_PL ow se ne fi la nb sr) (h0 : 0 ≤ o) (h1 : o < nb) (hp : 0 ≤ p ∧ p < 3000) (hf : ow p = o) (hb : fi o = p) (hl : ¬ la o = p) (ha : x = ne p ∧ p1 = p ∧ o1 = o) : sm_PL (fun i' : Int => if i' = p then -1 else ow i') se (fun i' : Int => if i' = p1 then fre else ne i') (fun i' : Int => if i' = o1 then x else fi i') la nb sr := by
  obtain ⟨a1, a2, a3⟩ := ha
  subst a1 a2 a3
  refine sm_PL_rem (b0 := -1) (fre := fre) h h0 h1 hp hf (Or.inl ⟨rfl, hb⟩) (fun q => ?_) (fun q => ?_) (fun q => ?_)
  · (try dsimp only)
    by_cases z : q = p1
    · rw [if_pos z, if_pos z]
    · rw [if_neg z, if_neg z, if_neg (fun w => w.1 rfl)]
  · (try dsimp only)
    by_cases z : q = o1
    · rw [if_pos z, if_pos ⟨z, rfl⟩]
    · rw [if_neg z, if_neg (fun w => z w.1)]
  · rw [if_neg (fun w => hl w.2)]
theorem sm_PL_rem01 {fre x p1 o1 o2 y : Int} (h : sm_PL ow se ne fi la nb sr) (h0 : 0 ≤ o) (h1 : o < nb) (hp : 0 ≤ p ∧ p < 3000) (hf : ow p = o) (hb : fi o = p) (hl : la o = p) (ha : x = ne p ∧ p1 = p ∧ o1 = o ∧ o2 = o ∧ y = -1) : sm_PL (fun i' : Int => if i' = p then -1 else ow i') se (fun i' : Int => if i' = p1 then fre else ne i') (fun i' : Int => if i' = o1 then x else fi i') (fun i' : Int => if i' = o2 then y else la i') nb sr := by
  obtain ⟨a1, a2, a3, a4, a5⟩ := ha
  subst a1 a2 a3 a4 a5
  refine sm_PL_rem (b0 := -1) (fre := fre) h h0 h1 hp hf (Or.inl ⟨rfl, hb⟩) (fun q => ?_) (fun q => ?_) (fun q => ?_)
  · (try dsimp only)
    by_cases z : q = p1
    · rw [if_pos z, if_pos z]
    · rw [if_neg z, if_neg z, if_neg (fun w => w.1 rfl)]
  · (try dsimp only)
    by_cases z : q = o2
    · rw [if_pos z, if_pos ⟨z, rfl⟩]
    · rw [if_neg z, if_neg (fun w => z w.1)]
  · (try dsimp only)
    by_cases z : q = o2
    · rw [if_pos z, if_pos ⟨z, hl⟩]
    · rw [if_neg z, if_neg (fun w => z w.1)]
theorem sm_PL_rem10 {fre x p1 b b1 : Int} (h : sm_PL ow se ne fi la nb sr) (h0 : 0 ≤ o) (h1 : o < nb) (hp : 0 ≤ p ∧ p < 3000) (hf : ow p = o) (hb : 0 ≤ b ∧ b < 3000 ∧ ow b = o ∧ ne b = p) (hl : ¬ la o = p) (ha : x = ne p ∧ p1 = p ∧ b1 = b) : sm_PL (fun i' : Int => if i' = p then -1 else ow i') se (fun i' : Int => if i' = p1 then fre else if i' = b1 then x else ne i') fi la nb sr := by
  obtain ⟨a1, a2, a3⟩ := ha
  subst a1 a2 a3
  refine sm_PL_rem (b0 := b1) (fre := fre) h h0 h1 hp hf (Or.inr hb) (fun q => ?_) (fun q => ?_) (fun q => ?_)
  · (try dsimp only)
    by_cases z : q = p1
    · rw [if_pos z, if_pos z]
    · rw [if_neg z, if_neg z]
      by_cases w : q = b1
      · rw [if_pos w, if_pos ⟨by omega, w⟩]
      · rw [if_neg w, if_neg (fun u => w u.2)]
  · rw [if_neg (fun w => by omega)]
  · rw [if_neg (fun w => hl w.2)]
theorem sm_PL_rem11 {fre x p1 b b1 o2 y : Int} (h : sm_PL ow se ne fi la nb sr) (h0 : 0 ≤ o) (h1 : o < nb) (hp : 0 ≤ p ∧ p < 3000) (hf : ow p = o) (hb : 0 ≤ b ∧ b < 3000 ∧ ow b = o ∧ ne b = p) (hl : la o = p) (ha : x = ne p ∧ p1 = p ∧ b1 = b ∧ o2 = o ∧ y = b) : sm_PL (fun i' : Int => if i' = p then -1 else ow i') se (fun i' : Int => if i' = p1 then fre else if i' = b1 then x else ne i') fi (fun i' : Int => if i' = o2 then y else la i') nb sr := by
  obtain ⟨a1, a2, a3, a4, a5⟩ := ha
  subst a1 a2 a3 a4 a5
  refine sm_PL_rem (b0 := y) (fre := fre) h h0 h1 hp hf (Or.inr hb) (fun q => ?_) (fun q => ?_) (fun q => ?_)
  · (try dsimp only)
    by_cases z : q = p1
    · rw [if_pos z, if_pos z]
    · rw [if_neg z, if_neg z]
      by_cases w : q = y
      · rw [if_pos w, if_pos ⟨by omega, w⟩]
      · rw [if_neg w, if_neg (fun u => w u.2)]
  · rw [if_neg (fun w => by omega)]
  · (try dsimp only)
    by_cases z : q = o2
    · rw [if_pos z, if_pos ⟨z, hl⟩]
    · rw [if_neg z, if_neg (fun w => z w.1)]
end PLX
theorem sm_FR_pop0 {ow ne fr fx : Int → Int} {m m' fre fre' o p p1 x : Int} (h : sm_FR ow ne fr fx m fre) (hm : 1 ≤ m) (hp : p = fre) (hf : fre' = ne fre) (hm' : m' = m - 1) (h1 : p1 = p) : sm_FR (fun i' : Int => if i' = p then o else ow i') (fun i' : Int => if i' = p1 then x else ne i') fr fx m' fre' := by
  subst hp h1
  exact sm_FR_pop h hm hf hm' (fun q _ hq => if_neg hq)
theorem sm_FR_pop1 {ow ne fr fx : Int → Int} {m m' fre fre' o p p1 x l y : Int} (h : sm_FR ow ne fr fx m fre) (hm : 1 ≤ m) (hp : p = fre) (hf : fre' = ne fre) (hm' : m' = m - 1) (h1 : p1 = p) (hl : 0 ≤ ow l) : sm_FR (fun i' : Int => if i' = p then o else ow i') (fun i' : Int => if i' = l then y else if i' = p1 then x else ne i') fr fx m' fre' := by
  subst hp h1
  refine sm_FR_pop h hm hf hm' (fun q hq0 hq => ?_)
  (try dsimp only)
  rw [if_neg (fun w => by rw [w] at hq0; omega), if_neg hq]
theorem sm_FR_push0 {ow ne fr fx : Int → Int} {m m' fre p p1 p2 p3 m1 m2 x : Int} (h : sm_FR ow ne fr fx m fre) (hm : m < 3000) (hp : 0 ≤ p ∧ p < 3000) (ho : 0 ≤ ow p) (hm' : m' = m + 1) (ha : p1 = p ∧ p2 = p ∧ p3 = p ∧ m1 = m ∧ m2 = m ∧ x = fre) : sm_FR (fun i' : Int => if i' = p then -1 else ow i') (fun i' : Int => if i' = p1 then x else ne i') (fun i' : Int => if i' = m1 then p2 else fr i') (fun i' : Int => if i' = p3 then m2 else fx i') m' p := by
  obtain ⟨a1, a2, a3, a4, a5, a6⟩ := ha
  subst a1 a2 a3 a4 a5 a6
  exact sm_FR_push h hm hp ho hm' (fun q hq => if_neg (fun w => by rw [w] at hq; omega)) (if_pos rfl)
theorem sm_FR_push1 {ow ne fr fx : Int → Int} {m m' fre p p1 p2 p3 m1 m2 x b y : Int} (h : sm_FR ow ne fr fx m fre) (hm : m < 3000) (hp : 0 ≤ p ∧ p < 3000) (ho : 0 ≤ ow p) (hm' : m' = m + 1) (ha : p1 = p ∧ p2 = p ∧ p3 = p ∧ m1 = m ∧ m2 = m ∧ x = fre) (hb : 0 ≤ ow b) : sm_FR (fun i' : Int => if i' = p then -1 else ow i') (fun i' : Int => if i' = p1 then x else if i' = b then y else ne i') (fun i' : Int => if i' = m1 then p2 else fr i') (fun i' : Int => if i' = p3 then m2 else fx i') m' p := by
  obtain ⟨a1, a2, a3, a4, a5, a6⟩ := ha
  subst a1 a2 a3 a4 a5 a6
  refine sm_FR_push h hm hp ho hm' (fun q hq => ?_) (if_pos rfl)
  (try dsimp only)
  rw [if_neg (fun w => by rw [w] at hq; omega), if_neg (fun w => by rw [w] at hq; omega)]
theorem sm_AL_x {ow pn ps pv so : Int → Int} {nb e : Int} (h : sm_AL ow pn ps pv so nb e) (he : e < 0 ∨ nb ≤ e) (e' : Int) : sm_AL ow pn ps pv so nb e' := ⟨fun o o0 o1 o2 _ => h.1 o o0 o1 o2 (by omega), h.2⟩
def sm_pm (x : Int) : Int := if x = -1 then 0 else if x = 0 then 5 else 2 * x + 2
theorem sm_pm_0 {x : Int} (h : -1 ≤ x) : 0 ≤ sm_pm x := by unfold sm_pm; split; omega; split <;> omega
theorem sm_pm_s {pr : Int → Int} {nb : Int} (h : sm_PO pr nb) (o : Int) (h0 : 0 ≤ o) (h1 : o < nb) : sm_pm (pr o) < sm_pm o := by
  have := h o h0 h1
  unfold sm_pm
  repeat' split
  all_goals omega
theorem sm_VO_eq {so : Int → Int} {nb ns s v s' v' : Int} (h : sm_VO so nb ns s v) (hs : s' = s) (hv : v' = v) : sm_VO so nb ns s' v' := hs ▸ hv ▸ h
/-- a function is one of the built in or has code; object 0 is plain -/
def sm_FO (so co : Int → Int) (nb : Int) : Prop := (∀ o : Int, 0 ≤ o → o < nb → so o = 1 → (9 ≤ o ∧ o < 23 ∧ co o = 0) ∨ 1 ≤ co o) ∧ (1 ≤ nb → so 0 = 0)
theorem sm_FO_at {so co : Int → Int} {nb o : Int} (h : sm_FO so co nb) (h0 : 0 ≤ o) (h1 : o < nb) (h2 : so o = 1) (hn : ¬ (9 ≤ o ∧ o < 23 ∧ co o = 0)) : 1 ≤ co o := (h.1 o h0 h1 h2).resolve_left hn
theorem sm_FO_s {so co so' co' : Int → Int} {nb : Int} (h : sm_FO so co nb) (f : sm_F1 so so' nb) (g : sm_F1 co co' nb) : sm_FO so' co' nb := ⟨fun o o0 o1 o2 => by
  rw [f o o1] at o2
  rw [g o o1]
  exact h.1 o o0 o1 o2, fun q => (f 0 (by omega)).trans (h.2 q)⟩
theorem sm_FO_d {so co so' co' : Int → Int} {nb nb' x y : Int} (h : sm_FO so co nb) (f : sm_F1 so so' nb) (g : sm_F1 co co' nb) (hn : nb' = nb + 1) (e : so' nb = x) (e2 : co' nb = y) (hx : ¬ x = 1 ∨ (9 ≤ nb ∧ nb < 23 ∧ y = 0)) (h0 : 1 ≤ nb ∨ (nb = 0 ∧ x = 0)) : sm_FO so' co' nb' := ⟨fun o o0 o1 o2 => by
  by_cases z : o = nb
  · rw [z, e] at o2
    rw [z, e2]
    rcases hx with hx | hx
    · exact absurd o2 hx
    · exact Or.inl hx
  · exact (sm_FO_s h f g).1 o o0 (by omega) o2, fun q => by
  rcases h0 with h0 | h0
  · exact (sm_FO_s h f g).2 h0
  · have z := e
    rw [h0.1] at z
    exact z.trans h0.2⟩
theorem sm_FO_n {so co so' co' : Int → Int} {nb nb' x : Int} (h : sm_FO so co nb) (f : sm_F1 so so' nb) (g : sm_F1 co co' nb) (hn : nb' = nb + 1) (e : so' nb = x) (hx : ¬ x = 1) (h0 : 1 ≤ nb ∨ (nb = 0 ∧ x = 0)) : sm_FO so' co' nb' := sm_FO_d h f g hn e rfl (Or.inl hx) h0
theorem sm_FO_f {so co so' co' : Int → Int} {nb nb' x : Int} (h : sm_FO so co nb) (f : sm_F1 so so' nb) (g : sm_F1 co co' nb) (hn : nb' = nb + 1) (e : co' nb = x) (hx : 1 ≤ x) (h0 : 1 ≤ nb) : sm_FO so' co' nb' := ⟨fun o o0 o1 o2 => by
  by_cases z : o = nb
  · rw [z, e]; exact Or.inr hx
  · exact (sm_FO_s h f g).1 o o0 (by omega) o2, fun _ => (sm_FO_s h f g).2 h0⟩
theorem sm_FO_0 {so co : Int → Int} {nb : Int} (h : nb ≤ 0) : sm_FO so co nb := ⟨fun o h0 h1 => by omega, fun q => by omega⟩
def sm_fr0 (n : Int) : Int := if 0 ≤ n ∧ n < 3000 then 2999 - n else 0
def sm_mn1 (_ : Int) : Int := -1
theorem sm_fr0_R (n : Int) : sv_R (sm_fr0 n) := by unfold sm_fr0 sv_R; split <;> omega
theorem sm_mn1_R (n : Int) : sv_R (sm_mn1 n) := by unfold sm_mn1 sv_R; omega
/-- the empty heap -/
theorem sm_HP0 {se ne fi la pn ps pv so gs vs vm co li ar pr : Int → Int} {nf ns e : Int} (hne : ∀ k : Int, 0 ≤ k → k < 3000 → ne k = k + 1) : sm_PL sm_mn1 se ne fi la 0 0 ∧ sm_FR sm_mn1 ne sm_fr0 sm_fr0 3000 0 ∧ sm_PV sm_mn1 pn ps pv so 0 ns ∧ sm_AL sm_mn1 pn ps pv so 0 e ∧ sm_SV sm_mn1 pn gs vs vm 0 nf ∧ sm_SC gs so co li ar 0 nf ∧ sm_PO pr 0 := by
  refine ⟨⟨fun p h0 h1 => ?_, fun p h0 h1 h2 => ?_, fun o h0 h1 => by omega, fun p q h0 h1 h2 h3 h4 => ?_, fun p q h0 h1 h2 h3 h4 => ?_⟩, ⟨by omega, by omega, fun n h0 h1 => ?_, fun _ => ?_⟩, fun p h0 h1 h2 => ?_, ⟨fun o h0 h1 => by omega, fun p h0 h1 h2 => ?_⟩, fun o h0 h1 => by omega, fun o h0 h1 => by omega, fun o h0 h1 => by omega⟩
  · unfold sm_mn1; omega
  · unfold sm_mn1 at h2; omega
  · unfold sm_mn1 at h4; omega
  · unfold sm_mn1 at h4; omega
  · have e1 : sm_fr0 n = 2999 - n := if_pos ⟨h0, h1⟩
    rw [e1]
    refine ⟨by omega, by omega, rfl, ?_, fun q => ?_⟩
    · have : sm_fr0 (2999 - n) = 2999 - (2999 - n) := if_pos ⟨by omega, by omega⟩
      omega
    · have e2 : sm_fr0 (n - 1) = 2999 - (n - 1) := if_pos ⟨by omega, by omega⟩
      rw [e2, hne _ (by omega) (by omega)]
      omega
  · have e2 : sm_fr0 (3000 - 1) = 2999 - (3000 - 1) := if_pos ⟨by omega, by omega⟩
    rw [e2]
    omega
  · unfold sm_mn1 at h2; omega
  · unfold sm_mn1 at h2; omega

def q_findProperty (p1 : Int) (p2 : Int) (S : sv_S) : Option Value → sv_S → Prop := fun v S' => ∃ r : Int, v = some (sv_I r) ∧ sv_R r ∧ sm_ok S' ∧ sv_mod [] S S' ∧ ((r = -1 ∨ (0 ≤ r ∧ r < 3000 ∧ (S' 1100020 r) = p1 ∧ (S' 48 r) = p2)) ∧ (r = -1 → sm_NB (S' 1100020) (S' 51) (S' 48) (p1) (p2) (-1)))
theorem la_findProperty_0 {x0 x1 : Int} (h0 : x0 ≤ 300) (h1 : 0 ≤ x1) (h2 : x1 < x0) : 0 ≤ x1 ∧ x1 < 300 := by omega
theorem la_findProperty_1 {x0 x1 x2 x3 x4 : Int} (h0 : x0 = (-1) ∨ 0 ≤ x0 ∧ x0 < 3000 ∧ x1 = x2 ∧ 0 < x3 ∧ x3 ≤ x4) : x0 = (-1) ∨ 0 ≤ x0 ∧ x3 ≤ x4 := by omega
theorem la_findProperty_2 {x0 x1 x2 : Int} (h0 : x0 = (-1)) : ¬ (0 ≤ x0 ∧ x1 ≤ x2) := by omega
theorem la_findProperty_3 {x0 : Int} (h0 : x0 = 0) : 0 ≤ x0 := by omega
theorem la_findProperty_4 {x0 : Int} (h0 : 0 ≤ x0) : (-1) ≤ x0 := by omega
theorem la_findProperty_5 {x0 : Int} (h0 : (-1) ≤ x0) (h1 : ¬ x0 = (-1)) : (-1) < x0 := by omega
theorem la_findProperty_6 {x0 x1 x2 : Int} (h0 : x0 = x1 + 1 - x2) (h1 : x2 ≤ x1) : 0 ≤ x0 := by omega
theorem la_findProperty_7 {x0 x1 x2 x3 x4 : Int} (h0 : x0 = (-1)) : ¬ (0 ≤ x0 ∧ x0 < 3000 ∧ x1 = x2 ∧ 0 < x3 ∧ x3 ≤ x4) := by omega
theorem la_findProperty_8 {x0 x1 x2 x3 x4 : Int} (h0 : x0 = (-1)) : x0 = (-1) ∨ 0 ≤ x0 ∧ x0 < 3000 ∧ x1 = x2 ∧ x3 = x4 := by omega
theorem la_findProperty_9 {x0 : Int} (h0 : 0 ≤ x0) (h1 : x0 < 3000) : 0 ≤ x0 ∧ x0 < 3000 := by omega
theorem la_findProperty_10 {x0 x1 x2 x3 x4 : Int} (h0 : 0 ≤ x0) (h1 : (-1) < x0) (h2 : x0 < 3000) (h3 : x1 = x2) (h4 : x3 = x4) : x0 = (-1) ∨ 0 ≤ x0 ∧ x0 < 3000 ∧ x1 = x2 ∧ x3 = x4 := by omega
theorem la_findProperty_11 {x0 x1 : Int} (h0 : 0 ≤ x0) (h1 : x0 = (-1)) : x0 = x1 := by omega
theorem la_findProperty_12 {x0 : Int} (h0 : 0 ≤ x0) (h1 : x0 = (-1)) : False := by omega
theorem la_findProperty_13 {x0 : Int} (h0 : x0 = (-1)) : ¬ ¬ x0 = (-1) := by omega
theorem la_findProperty_14 {x0 x1 x2 x3 : Int} (h0 : x0 ≤ x1) (h1 : x2 = x1 + 1 - x0) (h2 : x3 = 0) : x3 < x2 := by omega
theorem la_findProperty_15 {x0 x1 x2 x3 x4 : Int} (h0 : x0 = x1 + 1 - x2) (h1 : x3 = x1 + 1 - x4) (h2 : x2 < x4) : x3 < x0 := by omega
set_option maxHeartbeats 2000000 in
theorem f_findProperty : ∀ (p1 : Int) (p2 : Int) (S : sv_S), sm_ok S → sv_R p1 → sv_R p2 → (sm_PL (S 1100020) (S 51) (S 52) (S 46) (S 47) (S 1076 0) (S 1086 0) ∧ 0 ≤ (S 1076 0) ∧ (S 1076 0) ≤ 300 ∧ 0 ≤ (S 1084 0) ∧ (S 1084 0) ≤ 3000 ∧ 0 ≤ (S 1086 0) ∧ 0 ≤ p1 ∧ p1 < (S 1076 0)) → ((sm_PL (S 1100020) (S 51) (S 52) (S 46) (S 47) (S 1076 0) (S 1086 0) → 0 ≤ p1 → p1 < (S 1076 0) → sm_PC (S 1100020) (S 51) (S 1086 0) (p1) ((S 46 p1)) ∧ sm_NB (S 1100020) (S 51) (S 48) (p1) (p2) ((S 46 p1))) → ((sm_PC (S 1100020) (S 51) (S 1086 0) (p1) ((S 46 p1)) → (S 46 p1) = -1 ∨ (0 ≤ (S 46 p1) ∧ (S 46 p1) < 3000 ∧ (S 1100020 (S 46 p1)) = p1 ∧ 0 < (S 51 (S 46 p1)) ∧ (S 51 (S 46 p1)) ≤ (S 1086 0))) → (0 ≤ p1 ∧ p1 < 300) ∧ (sv_R (S 46 p1) → ((sm_PC (S 1100020) (S 51) (S 1086 0) (p1) ((S 46 p1)) ∧ sm_NB (S 1100020) (S 51) (S 48) (p1) (p2) ((S 46 p1)) ∧ ((S 46 p1) = -1 ∨ (0 ≤ (S 46 p1) ∧ (S 51 (S 46 p1)) ≤ (S 1086 0)))) ∧ (∀ l3_5 : Int, sv_R l3_5 → (sm_PC (S 1100020) (S 51) (S 1086 0) (p1) (l3_5) ∧ sm_NB (S 1100020) (S 51) (S 48) (p1) (p2) (l3_5) ∧ (l3_5 = -1 ∨ (0 ≤ l3_5 ∧ (S 51 l3_5) ≤ (S 1086 0)))) → (0 ≤ (if l3_5 = -1 then 0 else (S 1086 0) + 1 - (S 51 l3_5))) ∧ (((l3_5 = (-1 : Int)) → ((sm_PC (S 1100020) (S 51) (S 1086 0) (p1) (l3_5) → l3_5 = -1 ∨ (0 ≤ l3_5 ∧ l3_5 < 3000 ∧ (S 1100020 l3_5) = p1 ∧ 0 < (S 51 l3_5) ∧ (S 51 l3_5) ≤ (S 1086 0))) → ((l3_5 = -1 → sm_NB (S 1100020) (S 51) (S 48) (p1) (p2) (l3_5) → sm_NB (S 1100020) (S 51) (S 48) (p1) (p2) (-1)) → ((l3_5 = -1 ∨ (0 ≤ l3_5 ∧ l3_5 < 3000 ∧ (S 1100020 l3_5) = p1 ∧ (S 48 l3_5) = p2)) ∧ (l3_5 = -1 → sm_NB (S 1100020) (S 51) (S 48) (p1) (p2) (-1)))))) ∧ ((¬ (l3_5 = (-1 : Int))) → ((sm_PC (S 1100020) (S 51) (S 1086 0) (p1) (l3_5) → l3_5 = -1 ∨ (0 ≤ l3_5 ∧ l3_5 < 3000 ∧ (S 1100020 l3_5) = p1 ∧ 0 < (S 51 l3_5) ∧ (S 51 l3_5) ≤ (S 1086 0))) → (0 ≤ l3_5 ∧ l3_5 < 3000) ∧ (sv_R (S 48 l3_5) → ((((S 48 l3_5) = p2) → ((sm_PC (S 1100020) (S 51) (S 1086 0) (p1) (l3_5) → l3_5 = -1 ∨ (0 ≤ l3_5 ∧ l3_5 < 3000 ∧ (S 1100020 l3_5) = p1 ∧ 0 < (S 51 l3_5) ∧ (S 51 l3_5) ≤ (S 1086 0))) → ((l3_5 = -1 → sm_NB (S 1100020) (S 51) (S 48) (p1) (p2) (l3_5) → sm_NB (S 1100020) (S 51) (S 48) (p1) (p2) (-1)) → ((l3_5 = -1 ∨ (0 ≤ l3_5 ∧ l3_5 < 3000 ∧ (S 1100020 l3_5) = p1 ∧ (S 48 l3_5) = p2)) ∧ (l3_5 = -1 → sm_NB (S 1100020) (S 51) (S 48) (p1) (p2) (-1)))))) ∧ ((¬ ((S 48 l3_5) = p2)) → ((sm_PL (S 1100020) (S 51) (S 52) (S 46) (S 47) (S 1076 0) (S 1086 0) → 0 ≤ l3_5 → l3_5 < 3000 → (S 1100020 l3_5) = p1 → 0 ≤ p1 → sm_PC (S 1100020) (S 51) (S 1086 0) (p1) ((S 52 l3_5)) ∧ (¬ (S 52 l3_5) = -1 → (S 51 l3_5) < (S 51 (S 52 l3_5)))) → ((sm_PC (S 1100020) (S 51) (S 1086 0) (p1) ((S 52 l3_5)) → (S 52 l3_5) = -1 ∨ (0 ≤ (S 52 l3_5) ∧ (S 52 l3_5) < 3000 ∧ (S 1100020 (S 52 l3_5)) = p1 ∧ 0 < (S 51 (S 52 l3_5)) ∧ (S 51 (S 52 l3_5)) ≤ (S 1086 0))) → ((sm_PL (S 1100020) (S 51) (S 52) (S 46) (S 47) (S 1076 0) (S 1086 0) → sm_NB (S 1100020) (S 51) (S 48) (p1) (p2) (l3_5) → 0 ≤ l3_5 → l3_5 < 3000 → (S 1100020 l3_5) = p1 → 0 ≤ p1 → ¬ (S 48 l3_5) = p2 → sm_NB (S 1100020) (S 51) (S 48) (p1) (p2) ((S 52 l3_5))) → (sv_R (S 52 l3_5) → ((sm_PC (S 1100020) (S 51) (S 1086 0) (p1) ((S 52 l3_5)) ∧ sm_NB (S 1100020) (S 51) (S 48) (p1) (p2) ((S 52 l3_5)) ∧ ((S 52 l3_5) = -1 ∨ (0 ≤ (S 52 l3_5) ∧ (S 51 (S 52 l3_5)) ≤ (S 1086 0)))) ∧ ((if (S 52 l3_5) = -1 then 0 else (S 1086 0) + 1 - (S 51 (S 52 l3_5)))) < ((if l3_5 = -1 then 0 else (S 1086 0) + 1 - (S 51 l3_5))))))))))))))))))) := by
  intro p1
  intro p2
  intro S
  intro h1_
  intro h2_
  intro h3_
  rintro ⟨h4_, ⟨h5_, ⟨h6_, ⟨h7_, ⟨h8_, ⟨h9_, ⟨h10_, h11_⟩⟩⟩⟩⟩⟩⟩
  intro h12_
  have h13_ := (h12_ h4_)
  have h14_ := (h13_ h10_)
  obtain ⟨h15_, h16_⟩ := (h14_ h11_)
  intro h17_
  have h18_ := (h17_ h15_)
  refine ⟨(la_findProperty_0 h6_ h10_ h11_), ?_⟩
  intro h19_
  refine ⟨⟨h15_, ⟨h16_, (la_findProperty_1 h18_)⟩⟩, ?_⟩
  intro l3_5
  intro h20_
  rintro ⟨h21_, ⟨h22_, h23_⟩⟩
  refine ⟨?_, ?_⟩
  · skip
    by_cases c24_ : l3_5 = (-1)
    · skip
      have e25_ : (if l3_5 = (-1) then 0 else S 1086 0 + 1 - S 51 l3_5 : Int) = 0 := if_pos c24_
      have h26_ := (h23_.resolve_right (la_findProperty_2 c24_))
      exact (la_findProperty_3 e25_)
    · skip
      have e27_ : (if l3_5 = (-1) then 0 else S 1086 0 + 1 - S 51 l3_5 : Int) = S 1086 0 + 1 - S 51 l3_5 := if_neg c24_
      obtain ⟨h28_, h29_⟩ := (h23_.resolve_left c24_)
      exact (la_findProperty_6 e27_ h29_)
  refine ⟨?_, ?_⟩
  · skip
    intro h30_
    have h31_ := (h23_.resolve_right (la_findProperty_2 h30_))
    intro h32_
    have h33_ := (h32_ h21_)
    have h34_ := (h33_.resolve_right (la_findProperty_7 h30_))
    intro h35_
    have h36_ := (h35_ h30_)
    have h37_ := (h36_ h22_)
    refine ⟨(la_findProperty_8 h30_), ?_⟩
    intro h38_
    exact h37_
  intro h39_
  obtain ⟨h40_, h41_⟩ := (h23_.resolve_left h39_)
  intro h42_
  have h43_ := (h42_ h21_)
  obtain ⟨h44_, ⟨h45_, ⟨h46_, ⟨h47_, h48_⟩⟩⟩⟩ := (h43_.resolve_left h39_)
  refine ⟨(la_findProperty_9 h40_ h45_), ?_⟩
  intro h49_
  refine ⟨?_, ?_⟩
  · skip
    intro h50_
    intro h51_
    intro h52_
    refine ⟨(la_findProperty_10 h40_ (la_findProperty_5 (la_findProperty_4 h40_) h39_) h45_ h46_ h50_), ?_⟩
    intro h53_
    have e54_ : S 1100020 l3_5 = S 1100020 (S 46 p1) := congrArg ((S 1100020)) (la_findProperty_11 h40_ h53_)
    have e55_ : S 51 l3_5 = S 51 (S 46 p1) := congrArg ((S 51)) (la_findProperty_11 h40_ h53_)
    exact ((la_findProperty_12 h40_ h53_)).elim
  intro h56_
  intro h57_
  have h58_ := (h57_ h4_)
  have h59_ := (h58_ h40_)
  have h60_ := (h59_ h45_)
  have h61_ := (h60_ h46_)
  obtain ⟨h62_, h63_⟩ := (h61_ h10_)
  intro h64_
  have h65_ := (h64_ h62_)
  intro h66_
  have h67_ := (h66_ h4_)
  have h68_ := (h67_ h22_)
  have h69_ := (h68_ h40_)
  have h70_ := (h69_ h45_)
  have h71_ := (h70_ h46_)
  have h72_ := (h71_ h10_)
  have h73_ := (h72_ h56_)
  intro h74_
  refine ⟨⟨h62_, ⟨h73_, (la_findProperty_1 h65_)⟩⟩, ?_⟩
  have e75_ : (if l3_5 = (-1) then 0 else S 1086 0 + 1 - S 51 l3_5 : Int) = S 1086 0 + 1 - S 51 l3_5 := if_neg h39_
  by_cases c76_ : S 52 l3_5 = (-1)
  · skip
    have e77_ : (if S 52 l3_5 = (-1) then 0 else S 1086 0 + 1 - S 51 (S 52 l3_5) : Int) = 0 := if_pos c76_
    have h78_ := (h65_.resolve_right (la_findProperty_7 c76_))
    exact (la_findProperty_14 h41_ e75_ e77_)
  · skip
    have e79_ : (if S 52 l3_5 = (-1) then 0 else S 1086 0 + 1 - S 51 (S 52 l3_5) : Int) = S 1086 0 + 1 - S 51 (S 52 l3_5) := if_neg c76_
    have h80_ := (h63_ c76_)
    obtain ⟨h81_, ⟨h82_, ⟨h83_, ⟨h84_, h85_⟩⟩⟩⟩ := (h65_.resolve_left c76_)
    exact (la_findProperty_15 e75_ e79_ h80_)
set_option maxRecDepth 8000 in
set_option maxHeartbeats 2000000 in
theorem t_findProperty : ∀ (p1 : Int) (p2 : Int) (S : sv_S), sm_ok S → sv_R p1 → sv_R p2 → (sm_PL (S 1100020) (S 51) (S 52) (S 46) (S 47) (S 1076 0) (S 1086 0) ∧ 0 ≤ (S 1076 0) ∧ (S 1076 0) ≤ 300 ∧ 0 ≤ (S 1084 0) ∧ (S 1084 0) ≤ 3000 ∧ 0 ≤ (S 1086 0) ∧ 0 ≤ p1 ∧ p1 < (S 1076 0)) → sv_T sm_XS sm_cs sm_L sm_sh 0 (q_findProperty p1 p2 S) 140 0 (lv_args 0 [.ref 0, sv_I p1, sv_I p2]) [] S := by
  intro p1 p2 S hok hp1 hp2 hpre
  have h := f_findProperty p1 p2 S hok hp1 hp2 hpre
  have hM := sm_h140
  show sv_T sm_XS sm_cs sm_L sm_sh 0 (q_findProperty p1 p2 S) 140 0 [(0, .ref 0), (1, sv_I p1), (2, sv_I p2)] [] S
  have k1 : (sm_PL (S 1100020) (S 51) (S 52) (S 46) (S 47) (S 1076 0) (S 1086 0) → 0 ≤ p1 → p1 < (S 1076 0) → sm_PC (S 1100020) (S 51) (S 1086 0) (p1) ((S 46 p1)) ∧ sm_NB (S 1100020) (S 51) (S 48) (p1) (p2) ((S 46 p1))) := fun h a b => ⟨sm_PL_fi h p1 a b, sm_NB_0 h a b⟩
  have h := h k1
  have k2 : (sm_PC (S 1100020) (S 51) (S 1086 0) (p1) ((S 46 p1)) → (S 46 p1) = -1 ∨ (0 ≤ (S 46 p1) ∧ (S 46 p1) < 3000 ∧ (S 1100020 (S 46 p1)) = p1 ∧ 0 < (S 51 (S 46 p1)) ∧ (S 51 (S 46 p1)) ≤ (S 1086 0))) := sm_PC_e
  have h := h k2
  refine sv_aload_n hM dX12_findProperty_0 rfl rfl ?_
  refine sv_getA hM dX12_findProperty_1 sm_fl_149 (sm_a0 _) sm_k82 rfl ?_
  refine sv_iload_n hM dX12_findProperty_4 rfl rfl ?_
  obtain ⟨o3, h⟩ := h
  have k4 : sv_R (S 46 p1) := sm_okI hok sm_r46 p1
  have h := h k4
  refine sv_iald hM dX12_findProperty_5 (sm_a46 _) (by decide) o3.1 o3.2 rfl (x := (S 46 p1)) rfl ?_
  refine sv_istore_n hM dX12_findProperty_6 (by decide) rfl ?_
  show sv_T sm_XS sm_cs sm_L sm_sh 0 (q_findProperty p1 p2 S) 140 7 [(0, .ref 0), (1, sv_I p1), (2, sv_I p2), (3, sv_I (S 46 p1))] [] S
  obtain ⟨hin7, h⟩ := h
  have hJ : ∀ a : Int × Unit, (sv_R a.1 ∧ sm_ok S ∧ (sm_PC (S 1100020) (S 51) (S 1086 0) (p1) (a.1) ∧ sm_NB (S 1100020) (S 51) (S 48) (p1) (p2) (a.1) ∧ (a.1 = -1 ∨ (0 ≤ a.1 ∧ (S 51 a.1) ≤ (S 1086 0))))) → sv_T sm_XS sm_cs sm_L sm_sh 0 (q_findProperty p1 p2 S) 140 7 [(0, .ref 0), (1, sv_I p1), (2, sv_I p2), (3, sv_I a.1)] [] S := by
    refine sv_loop (α := Int × Unit) (fun a => sv_R a.1 ∧ sm_ok S ∧ (sm_PC (S 1100020) (S 51) (S 1086 0) (p1) (a.1) ∧ sm_NB (S 1100020) (S 51) (S 48) (p1) (p2) (a.1) ∧ (a.1 = -1 ∨ (0 ≤ a.1 ∧ (S 51 a.1) ≤ (S 1086 0))))) (fun a => (if a.1 = -1 then 0 else (S 1086 0) + 1 - (S 51 a.1))) (fun a => sv_T sm_XS sm_cs sm_L sm_sh 0 (q_findProperty p1 p2 S) 140 7 [(0, .ref 0), (1, sv_I p1), (2, sv_I p2), (3, sv_I a.1)] [] S) (fun a q => (h a.1 q.1 q.2.2).1) (fun a q ih6 => ?_)
    obtain ⟨l3_5, _u⟩ := a
    obtain ⟨hl3_5, ok8, hin7i⟩ := q
    have h := (h l3_5 hl3_5 hin7i).2
    show sv_T sm_XS sm_cs sm_L sm_sh 0 (q_findProperty p1 p2 S) 140 7 [(0, .ref 0), (1, sv_I p1), (2, sv_I p2), (3, sv_I l3_5)] [] S
    refine sv_iload_n hM dX12_findProperty_7 rfl rfl ?_
    refine sv_iconst (d := (-1 : Int)) hM dX12_findProperty_8 rfl rfl ?_
    refine sv_icmp_eq hM dX12_findProperty_9 hl3_5 (⟨by decide, by decide⟩ : sv_R (-1 : Int)) (t := 32) rfl rfl (fun hc => ?_) (fun hc => ?_)
    · have h := h.1 (hc)
      have k9 : (sm_PC (S 1100020) (S 51) (S 1086 0) (p1) (l3_5) → l3_5 = -1 ∨ (0 ≤ l3_5 ∧ l3_5 < 3000 ∧ (S 1100020 l3_5) = p1 ∧ 0 < (S 51 l3_5) ∧ (S 51 l3_5) ≤ (S 1086 0))) := sm_PC_e
      have h := h k9
      have k10 : (l3_5 = -1 → sm_NB (S 1100020) (S 51) (S 48) (p1) (p2) (l3_5) → sm_NB (S 1100020) (S 51) (S 48) (p1) (p2) (-1)) := fun e h => e ▸ h
      have h := h k10
      refine sv_iload_n hM dX12_findProperty_32 rfl rfl ?_
      exact sv_iret hM dX12_findProperty_33 rfl rfl ⟨l3_5, rfl, hl3_5, ok8, sv_mod.rf, h⟩
    · have h := h.2 (hc)
      have k11 : (sm_PC (S 1100020) (S 51) (S 1086 0) (p1) (l3_5) → l3_5 = -1 ∨ (0 ≤ l3_5 ∧ l3_5 < 3000 ∧ (S 1100020 l3_5) = p1 ∧ 0 < (S 51 l3_5) ∧ (S 51 l3_5) ≤ (S 1086 0))) := sm_PC_e
      have h := h k11
      refine sv_aload_n hM dX12_findProperty_12 rfl rfl ?_
      refine sv_getA hM dX12_findProperty_13 sm_fl_155 (sm_a0 _) sm_k87 rfl ?_
      refine sv_iload_n hM dX12_findProperty_16 rfl rfl ?_
      obtain ⟨o12, h⟩ := h
      have k13 : sv_R (S 48 l3_5) := sm_okI ok8 sm_r48 l3_5
      have h := h k13
      refine sv_iald hM dX12_findProperty_17 (sm_a48 _) (by decide) o12.1 o12.2 rfl (x := (S 48 l3_5)) rfl ?_
      refine sv_iload_n hM dX12_findProperty_18 rfl rfl ?_
      refine sv_icmp_eq hM dX12_findProperty_19 k13 hp2 (t := 32) rfl rfl (fun hc => ?_) (fun hc => ?_)
      · have h := h.1 (hc)
        have k14 : (sm_PC (S 1100020) (S 51) (S 1086 0) (p1) (l3_5) → l3_5 = -1 ∨ (0 ≤ l3_5 ∧ l3_5 < 3000 ∧ (S 1100020 l3_5) = p1 ∧ 0 < (S 51 l3_5) ∧ (S 51 l3_5) ≤ (S 1086 0))) := sm_PC_e
        have h := h k14
        have k15 : (l3_5 = -1 → sm_NB (S 1100020) (S 51) (S 48) (p1) (p2) (l3_5) → sm_NB (S 1100020) (S 51) (S 48) (p1) (p2) (-1)) := fun e h => e ▸ h
        have h := h k15
        refine sv_iload_n hM dX12_findProperty_32 rfl rfl ?_
        exact sv_iret hM dX12_findProperty_33 rfl rfl ⟨l3_5, rfl, hl3_5, ok8, sv_mod.rf, h⟩
      · have h := h.2 (hc)
        have k16 : (sm_PL (S 1100020) (S 51) (S 52) (S 46) (S 47) (S 1076 0) (S 1086 0) → 0 ≤ l3_5 → l3_5 < 3000 → (S 1100020 l3_5) = p1 → 0 ≤ p1 → sm_PC (S 1100020) (S 51) (S 1086 0) (p1) ((S 52 l3_5)) ∧ (¬ (S 52 l3_5) = -1 → (S 51 l3_5) < (S 51 (S 52 l3_5)))) := fun h a b c d => sm_PL_ne h _ a b c d
        have h := h k16
        have k17 : (sm_PC (S 1100020) (S 51) (S 1086 0) (p1) ((S 52 l3_5)) → (S 52 l3_5) = -1 ∨ (0 ≤ (S 52 l3_5) ∧ (S 52 l3_5) < 3000 ∧ (S 1100020 (S 52 l3_5)) = p1 ∧ 0 < (S 51 (S 52 l3_5)) ∧ (S 51 (S 52 l3_5)) ≤ (S 1086 0))) := sm_PC_e
        have h := h k17
        have k18 : (sm_PL (S 1100020) (S 51) (S 52) (S 46) (S 47) (S 1076 0) (S 1086 0) → sm_NB (S 1100020) (S 51) (S 48) (p1) (p2) (l3_5) → 0 ≤ l3_5 → l3_5 < 3000 → (S 1100020 l3_5) = p1 → 0 ≤ p1 → ¬ (S 48 l3_5) = p2 → sm_NB (S 1100020) (S 51) (S 48) (p1) (p2) ((S 52 l3_5))) := fun h a b c d e f => sm_NB_s h a b c d e f
        have h := h k18
        refine sv_aload_n hM dX12_findProperty_22 rfl rfl ?_
        refine sv_getA hM dX12_findProperty_23 sm_fl_167 (sm_a0 _) sm_k91 rfl ?_
        refine sv_iload_n hM dX12_findProperty_26 rfl rfl ?_
        have k19 : sv_R (S 52 l3_5) := sm_okI ok8 sm_r52 l3_5
        have h := h k19
        refine sv_iald hM dX12_findProperty_27 (sm_a52 _) (by decide) o12.1 o12.2 rfl (x := (S 52 l3_5)) rfl ?_
        refine sv_istore_n hM dX12_findProperty_28 (by decide) rfl ?_
        show sv_T sm_XS sm_cs sm_L sm_sh 0 (q_findProperty p1 p2 S) 140 29 [(0, .ref 0), (1, sv_I p1), (2, sv_I p2), (3, sv_I (S 52 l3_5))] [] S
        refine sv_goto hM dX12_findProperty_29 (pc' := 7) rfl ?_
        have hb := ih6 ((S 52 l3_5), ()) ⟨k19, ok8, h.1⟩ h.2
        exact sv_less (lv := [(0, .ref 0), (1, sv_I p1), (2, sv_I p2), (3, sv_I (S 52 l3_5))]) (sv_Sub_cons rfl (sv_Sub_cons rfl (sv_Sub_cons rfl (sv_Sub_cons rfl sv_Sub_nil)))) hb
  exact hJ ((S 46 p1), ()) ⟨k4, hok, hin7⟩
def q_set_ (p1 : Int) (p2 : Int) (p3 : Int) (p4 : Int) (S : sv_S) : Option Value → sv_S → Prop := fun v S' => v = none ∧ sm_ok S' ∧ sv_mod [1084, 1085, 48, 1086, 51, 52, 46, 47, 49, 50, 1075, 1100020, 1100021, 1100022] S S' ∧ (sm_PL (S' 1100020) (S' 51) (S' 52) (S' 46) (S' 47) (S' 1076 0) (S' 1086 0) ∧ sm_FR (S' 1100020) (S' 52) (S' 1100021) (S' 1100022) (3000 - (S' 1084 0)) (S' 1085 0) ∧ sm_PV (S' 1100020) (S' 48) (S' 49) (S' 50) (S' 44) (S' 1076 0) (S' 1007 0) ∧ sm_AL (S' 1100020) (S' 48) (S' 49) (S' 50) (S' 44) (S' 1076 0) (S' 1100032 0) ∧ sm_SV (S' 1100020) (S' 48) (S' 1100029) (S' 32) (S' 33) (S' 1076 0) (S' 1032 0) ∧ 0 ≤ (S' 1076 0) ∧ (S' 1076 0) ≤ 300 ∧ 0 ≤ (S' 1084 0) ∧ (S' 1084 0) ≤ 3000 ∧ 0 ≤ (S' 1086 0) ∧ sm_KP (S 1100020) (S 48) (S' 1100020) (S' 48) ∧ ((S 1075 0) = 1 → (S' 1075 0) = 1) ∧ ((S' 1075 0) = 0 → sm_HN (S' 1100020) (S' 48) p1 p2) ∧ (S 1086 0) ≤ (S' 1086 0) ∧ (S' 1086 0) ≤ (S 1086 0) + 1 ∧ ((S 1084 0) < 3000 → (S' 1075 0) = (S 1075 0)) ∧ (S' 1084 0) ≤ (S 1084 0) + 1)
theorem la_set__0 {x0 x1 x2 x3 : Int} (h0 : x0 ≤ 300) (h1 : 0 ≤ x1) (h2 : x1 ≤ 3000) (h3 : 0 ≤ x2) (h4 : 0 ≤ x3) (h5 : x3 < x0) : 0 ≤ x0 ∧ x0 ≤ 300 ∧ 0 ≤ x1 ∧ x1 ≤ 3000 ∧ 0 ≤ x2 ∧ 0 ≤ x3 ∧ x3 < x0 := by omega
theorem la_set__1 {x0 : Int} (h0 : 0 ≤ x0) : (-1) ≤ x0 := by omega
theorem la_set__2 {x0 : Int} (h0 : (-1) ≤ x0) (h1 : ¬ x0 = (-1)) : (-1) < x0 := by omega
theorem la_set__3 {x0 : Int} (h0 : 0 ≤ x0) (h1 : x0 < 3000) : 0 ≤ x0 ∧ x0 < 3000 := by omega
theorem la_set__4 {x0 x1 x2 x3 x4 : Int} (h0 : 0 ≤ x0) (h1 : x1 = 2 → x0 = 0 → x2 = 5 ∧ 0 ≤ x3 ∧ x3 ≤ 100) (h2 : x4 = x0) : x1 = 2 → x4 = 0 → x2 = 5 ∧ 0 ≤ x3 ∧ x3 ≤ 100 := by omega
theorem la_set__5 {x0 : Int} : x0 = 1 → x0 = 1 := by omega
theorem la_set__6 {x0 : Int} : x0 ≤ x0 := by omega
theorem la_set__7 {x0 : Int} : x0 ≤ x0 + 1 := by omega
theorem la_set__8 {x0 x1 : Int} : x0 < 3000 → x1 = x1 := by omega
theorem la_set__9 {x0 x1 x2 x3 x4 : Int} (h0 : ¬ ¬ x0 = (-1)) : ¬ (0 ≤ x0 ∧ x0 < 3000 ∧ x1 = x2 ∧ x3 = x4) := by omega
theorem la_set__10 {x0 : Int} (h0 : x0 ≤ 3000) (h1 : ¬ x0 = 3000) : x0 < 3000 := by omega
theorem la_set__11 {x0 : Int} (h0 : x0 < 3000) : 1 ≤ 3000 - x0 := by omega
theorem la_set__12 {x0 : Int} (h0 : 0 ≤ x0) (h1 : x0 < 3000) : sv_R (x0 + 1) := by omega
theorem la_set__13 {x0 : Int} (h0 : 0 ≤ x0) (h1 : x0 < 2000000000) : sv_R (x0 + 1) := by omega
theorem la_set__14 {x0 x1 : Int} (h0 : x0 ≤ 300) (h1 : 0 ≤ x1) (h2 : x1 < x0) : 0 ≤ x1 ∧ x1 < 300 := by omega
theorem la_set__15 {x0 : Int} : 3000 - (x0 + 1) = 3000 - x0 - 1 := by omega
theorem la_set__16 {x0 x1 : Int} (h0 : 0 ≤ x0) (h1 : x1 = x0) : 0 ≤ x1 := by omega
theorem la_set__17 {x0 x1 : Int} (h0 : 0 ≤ x0) (h1 : x0 < x1) : 0 ≤ x0 ∧ x0 < x1 := by omega
theorem la_set__18 {x0 : Int} (h0 : 0 ≤ x0) : 0 ≤ x0 + 1 := by omega
theorem la_set__19 {x0 : Int} (h0 : x0 < 3000) : x0 + 1 ≤ 3000 := by omega
theorem la_set__20 {x0 : Int} : x0 + 1 ≤ x0 + 1 := by omega
theorem la_set__21 {x0 x1 x2 x3 x4 x5 : Int} (h0 : ¬ ¬ x0 = (-1)) : ¬ (0 ≤ x1 ∧ x1 < 3000 ∧ x2 = x3 ∧ 0 ≤ x0 ∧ x0 < 3000 ∧ x4 = x3 ∧ x5 = (-1)) := by omega
theorem la_set__22 {x0 : Int} : x0 = 1 → (1 : Int) = 1 := by omega
theorem la_set__23 {x0 x1 : Int} (h0 : (1 : Int) = 0) : x0 = x1 := by omega
theorem la_set__24 {x0 : Int} (h0 : (1 : Int) = 0) : x0 = 6 := by omega
theorem la_set__25 {x0 : Int} (h0 : (1 : Int) = 0) : x0 = 7 := by omega
theorem la_set__26 {x0 : Int} (h0 : (1 : Int) = 0) : x0 = 2 := by omega
theorem la_set__27 {x0 : Int} (h0 : (1 : Int) = 0) : x0 ≤ 3 := by omega
theorem la_set__28 {x0 : Int} (h0 : x0 ≤ 3) (h1 : ¬ x0 = 3) : x0 < 3 := by omega
theorem la_set__29 {x0 : Int} (h0 : (1 : Int) = 0) : x0 = 0 := by omega
theorem la_set__30 (h0 : (1 : Int) = 0) : False := by omega
theorem la_set__31 {x0 x1 : Int} (h0 : ¬ ¬ x0 = 3000) : x0 < 3000 → 1 = x1 := by omega
set_option maxHeartbeats 2000000 in
theorem f_set_ : ∀ (p1 : Int) (p2 : Int) (p3 : Int) (p4 : Int) (S : sv_S), sm_ok S → sv_R p1 → sv_R p2 → sv_R p3 → sv_R p4 → (sm_PL (S 1100020) (S 51) (S 52) (S 46) (S 47) (S 1076 0) (S 1086 0) ∧ sm_FR (S 1100020) (S 52) (S 1100021) (S 1100022) (3000 - (S 1084 0)) (S 1085 0) ∧ sm_PV (S 1100020) (S 48) (S 49) (S 50) (S 44) (S 1076 0) (S 1007 0) ∧ sm_AL (S 1100020) (S 48) (S 49) (S 50) (S 44) (S 1076 0) (S 1100032 0) ∧ sm_SV (S 1100020) (S 48) (S 1100029) (S 32) (S 33) (S 1076 0) (S 1032 0) ∧ 0 ≤ (S 1076 0) ∧ (S 1076 0) ≤ 300 ∧ 0 ≤ (S 1084 0) ∧ (S 1084 0) ≤ 3000 ∧ 0 ≤ (S 1086 0) ∧ 0 ≤ p1 ∧ p1 < (S 1076 0) ∧ 0 ≤ p2 ∧ p2 < (S 1007 0) ∧ sm_VO (S 44) (S 1076 0) (S 1007 0) (p3) (p4) ∧ ((S 44 p1) = 2 → p2 = 0 → p3 = 5 ∧ 0 ≤ p4 ∧ p4 ≤ 100) ∧ (S 1086 0) < 2000000000) → (sm_PL (S 1100020) (S 51) (S 52) (S 46) (S 47) (S 1076 0) (S 1086 0) ∧ 0 ≤ (S 1076 0) ∧ (S 1076 0) ≤ 300 ∧ 0 ≤ (S 1084 0) ∧ (S 1084 0) ≤ 3000 ∧ 0 ≤ (S 1086 0) ∧ 0 ≤ p1 ∧ p1 < (S 1076 0)) ∧ (∀ r6 : Int, sv_R r6 → ((r6 = -1 ∨ (0 ≤ r6 ∧ r6 < 3000 ∧ (S 1100020 r6) = p1 ∧ (S 48 r6) = p2)) ∧ (r6 = -1 → sm_NB (S 1100020) (S 51) (S 48) (p1) (p2) (-1))) → (((¬ r6 = (-1 : Int)) → (0 ≤ r6 ∧ r6 < 3000) ∧ (sm_PL (S 1100020) (S 51) (S 52) (S 46) (S 47) (S 1076 0) (S 1086 0) ∧ sm_FR (S 1100020) (S 52) (S 1100021) (S 1100022) (3000 - (S 1084 0)) (S 1085 0) ∧ sm_PV (S 1100020) (S 48) (fun i' : Int => if i' = r6 then p3 else (S 49) i') (fun i' : Int => if i' = r6 then p4 else (S 50) i') (S 44) (S 1076 0) (S 1007 0) ∧ sm_AL (S 1100020) (S 48) (fun i' : Int => if i' = r6 then p3 else (S 49) i') (fun i' : Int => if i' = r6 then p4 else (S 50) i') (S 44) (S 1076 0) (S 1100032 0) ∧ sm_SV (S 1100020) (S 48) (S 1100029) (S 32) (S 33) (S 1076 0) (S 1032 0) ∧ 0 ≤ (S 1076 0) ∧ (S 1076 0) ≤ 300 ∧ 0 ≤ (S 1084 0) ∧ (S 1084 0) ≤ 3000 ∧ 0 ≤ (S 1086 0) ∧ sm_KP (S 1100020) (S 48) (S 1100020) (S 48) ∧ ((S 1075 0) = 1 → (S 1075 0) = 1) ∧ ((S 1075 0) = 0 → sm_HN (S 1100020) (S 48) p1 p2) ∧ (S 1086 0) ≤ (S 1086 0) ∧ (S 1086 0) ≤ (S 1086 0) + 1 ∧ ((S 1084 0) < 3000 → (S 1075 0) = (S 1075 0)) ∧ (S 1084 0) ≤ (S 1084 0) + 1)) ∧ ((¬ (¬ r6 = (-1 : Int))) → (sv_R (S 1084 0) → (((¬ (S 1084 0) = (3000 : Int)) → ((sm_FR (S 1100020) (S 52) (S 1100021) (S 1100022) (3000 - (S 1084 0)) (S 1085 0) → 1 ≤ 3000 - (S 1084 0) → 0 ≤ (S 1085 0) ∧ (S 1085 0) < 3000 ∧ (S 1100020 (S 1085 0)) = -1) → ((sm_PL (S 1100020) (S 51) (S 52) (S 46) (S 47) (S 1076 0) (S 1086 0) → 0 ≤ p1 → p1 < (S 1076 0) → ((S 46 p1) = -1 ∧ (S 47 p1) = -1) ∨ (0 ≤ (S 46 p1) ∧ (S 46 p1) < 3000 ∧ (S 1100020 (S 46 p1)) = p1 ∧ 0 ≤ (S 47 p1) ∧ (S 47 p1) < 3000 ∧ (S 1100020 (S 47 p1)) = p1 ∧ (S 52 (S 47 p1)) = -1)) → (sv_R (S 1085 0) → (0 ≤ (S 1085 0) ∧ (S 1085 0) < 3000) ∧ (sv_R (S 52 (S 1085 0)) → (sv_R ((S 1084 0) + (1 : Int))) ∧ (sv_R (p1)) ∧ (sv_R (S 1086 0) → (sv_R ((S 1086 0) + (1 : Int))) ∧ (0 ≤ p1 ∧ p1 < 300) ∧ (sv_R (S 47 p1) → (((¬ (S 47 p1) = (-1 : Int)) → (0 ≤ (S 47 p1) ∧ (S 47 p1) < 3000) ∧ (sm_PL (fun i' : Int => if i' = (S 1085 0) then (p1) else (S 1100020) i') (fun i' : Int => if i' = (S 1085 0) then ((S 1086 0) + (1 : Int)) else (S 51) i') (fun i' : Int => if i' = (S 47 p1) then (S 1085 0) else (fun i' : Int => if i' = (S 1085 0) then (-1 : Int) else (S 52) i') i') (S 46) (fun i' : Int => if i' = p1 then (S 1085 0) else (S 47) i') (S 1076 0) ((S 1086 0) + (1 : Int)) ∧ sm_FR (fun i' : Int => if i' = (S 1085 0) then (p1) else (S 1100020) i') (fun i' : Int => if i' = (S 47 p1) then (S 1085 0) else (fun i' : Int => if i' = (S 1085 0) then (-1 : Int) else (S 52) i') i') (S 1100021) (S 1100022) (3000 - ((S 1084 0) + (1 : Int))) (S 52 (S 1085 0)) ∧ sm_PV (fun i' : Int => if i' = (S 1085 0) then (p1) else (S 1100020) i') (fun i' : Int => if i' = (S 1085 0) then p2 else (S 48) i') (fun i' : Int => if i' = (S 1085 0) then p3 else (S 49) i') (fun i' : Int => if i' = (S 1085 0) then p4 else (S 50) i') (S 44) (S 1076 0) (S 1007 0) ∧ sm_AL (fun i' : Int => if i' = (S 1085 0) then (p1) else (S 1100020) i') (fun i' : Int => if i' = (S 1085 0) then p2 else (S 48) i') (fun i' : Int => if i' = (S 1085 0) then p3 else (S 49) i') (fun i' : Int => if i' = (S 1085 0) then p4 else (S 50) i') (S 44) (S 1076 0) (S 1100032 0) ∧ sm_SV (fun i' : Int => if i' = (S 1085 0) then (p1) else (S 1100020) i') (fun i' : Int => if i' = (S 1085 0) then p2 else (S 48) i') (S 1100029) (S 32) (S 33) (S 1076 0) (S 1032 0) ∧ 0 ≤ (S 1076 0) ∧ (S 1076 0) ≤ 300 ∧ 0 ≤ ((S 1084 0) + (1 : Int)) ∧ ((S 1084 0) + (1 : Int)) ≤ 3000 ∧ 0 ≤ ((S 1086 0) + (1 : Int)) ∧ sm_KP (S 1100020) (S 48) (fun i' : Int => if i' = (S 1085 0) then (p1) else (S 1100020) i') (fun i' : Int => if i' = (S 1085 0) then p2 else (S 48) i') ∧ ((S 1075 0) = 1 → (S 1075 0) = 1) ∧ ((S 1075 0) = 0 → sm_HN (fun i' : Int => if i' = (S 1085 0) then (p1) else (S 1100020) i') (fun i' : Int => if i' = (S 1085 0) then p2 else (S 48) i') p1 p2) ∧ (S 1086 0) ≤ ((S 1086 0) + (1 : Int)) ∧ ((S 1086 0) + (1 : Int)) ≤ (S 1086 0) + 1 ∧ ((S 1084 0) < 3000 → (S 1075 0) = (S 1075 0)) ∧ ((S 1084 0) + (1 : Int)) ≤ (S 1084 0) + 1)) ∧ ((¬ (¬ (S 47 p1) = (-1 : Int))) → (sm_PL (fun i' : Int => if i' = (S 1085 0) then (p1) else (S 1100020) i') (fun i' : Int => if i' = (S 1085 0) then ((S 1086 0) + (1 : Int)) else (S 51) i') (fun i' : Int => if i' = (S 1085 0) then (-1 : Int) else (S 52) i') (fun i' : Int => if i' = p1 then (S 1085 0) else (S 46) i') (fun i' : Int => if i' = p1 then (S 1085 0) else (S 47) i') (S 1076 0) ((S 1086 0) + (1 : Int)) ∧ sm_FR (fun i' : Int => if i' = (S 1085 0) then (p1) else (S 1100020) i') (fun i' : Int => if i' = (S 1085 0) then (-1 : Int) else (S 52) i') (S 1100021) (S 1100022) (3000 - ((S 1084 0) + (1 : Int))) (S 52 (S 1085 0)) ∧ sm_PV (fun i' : Int => if i' = (S 1085 0) then (p1) else (S 1100020) i') (fun i' : Int => if i' = (S 1085 0) then p2 else (S 48) i') (fun i' : Int => if i' = (S 1085 0) then p3 else (S 49) i') (fun i' : Int => if i' = (S 1085 0) then p4 else (S 50) i') (S 44) (S 1076 0) (S 1007 0) ∧ sm_AL (fun i' : Int => if i' = (S 1085 0) then (p1) else (S 1100020) i') (fun i' : Int => if i' = (S 1085 0) then p2 else (S 48) i') (fun i' : Int => if i' = (S 1085 0) then p3 else (S 49) i') (fun i' : Int => if i' = (S 1085 0) then p4 else (S 50) i') (S 44) (S 1076 0) (S 1100032 0) ∧ sm_SV (fun i' : Int => if i' = (S 1085 0) then (p1) else (S 1100020) i') (fun i' : Int => if i' = (S 1085 0) then p2 else (S 48) i') (S 1100029) (S 32) (S 33) (S 1076 0) (S 1032 0) ∧ 0 ≤ (S 1076 0) ∧ (S 1076 0) ≤ 300 ∧ 0 ≤ ((S 1084 0) + (1 : Int)) ∧ ((S 1084 0) + (1 : Int)) ≤ 3000 ∧ 0 ≤ ((S 1086 0) + (1 : Int)) ∧ sm_KP (S 1100020) (S 48) (fun i' : Int => if i' = (S 1085 0) then (p1) else (S 1100020) i') (fun i' : Int => if i' = (S 1085 0) then p2 else (S 48) i') ∧ ((S 1075 0) = 1 → (S 1075 0) = 1) ∧ ((S 1075 0) = 0 → sm_HN (fun i' : Int => if i' = (S 1085 0) then (p1) else (S 1100020) i') (fun i' : Int => if i' = (S 1085 0) then p2 else (S 48) i') p1 p2) ∧ (S 1086 0) ≤ ((S 1086 0) + (1 : Int)) ∧ ((S 1086 0) + (1 : Int)) ≤ (S 1086 0) + 1 ∧ ((S 1084 0) < 3000 → (S 1075 0) = (S 1075 0)) ∧ ((S 1084 0) + (1 : Int)) ≤ (S 1084 0) + 1)))))))))) ∧ ((¬ (¬ (S 1084 0) = (3000 : Int))) → (sm_PL (S 1100020) (S 51) (S 52) (S 46) (S 47) (S 1076 0) (S 1086 0) ∧ sm_FR (S 1100020) (S 52) (S 1100021) (S 1100022) (3000 - (S 1084 0)) (S 1085 0) ∧ sm_PV (S 1100020) (S 48) (S 49) (S 50) (S 44) (S 1076 0) (S 1007 0) ∧ sm_AL (S 1100020) (S 48) (S 49) (S 50) (S 44) (S 1076 0) (S 1100032 0) ∧ sm_SV (S 1100020) (S 48) (S 1100029) (S 32) (S 33) (S 1076 0) (S 1032 0) ∧ 0 ≤ (S 1076 0) ∧ (S 1076 0) ≤ 300 ∧ 0 ≤ (S 1084 0) ∧ (S 1084 0) ≤ 3000 ∧ 0 ≤ (S 1086 0) ∧ sm_KP (S 1100020) (S 48) (S 1100020) (S 48) ∧ ((S 1075 0) = 1 → (1 : Int) = 1) ∧ ((1 : Int) = 0 → sm_HN (S 1100020) (S 48) p1 p2) ∧ (S 1086 0) ≤ (S 1086 0) ∧ (S 1086 0) ≤ (S 1086 0) + 1 ∧ ((S 1084 0) < 3000 → (1 : Int) = (S 1075 0)) ∧ (S 1084 0) ≤ (S 1084 0) + 1))))))) := by
  intro p1
  intro p2
  intro p3
  intro p4
  intro S
  intro h1_
  intro h2_
  intro h3_
  intro h4_
  intro h5_
  rintro ⟨h6_, ⟨h7_, ⟨h8_, ⟨h9_, ⟨h10_, ⟨h11_, ⟨h12_, ⟨h13_, ⟨h14_, ⟨h15_, ⟨h16_, ⟨h17_, ⟨h18_, ⟨h19_, ⟨h20_, ⟨h21_, h22_⟩⟩⟩⟩⟩⟩⟩⟩⟩⟩⟩⟩⟩⟩⟩⟩
  refine ⟨⟨h6_, (la_set__0 h12_ h13_ h14_ h15_ h16_ h17_)⟩, ?_⟩
  intro r6
  intro h23_
  rintro ⟨h24_, h25_⟩
  refine ⟨?_, ?_⟩
  · skip
    intro h26_
    obtain ⟨h27_, ⟨h28_, ⟨h29_, h30_⟩⟩⟩ := (h24_.resolve_left h26_)
    refine ⟨(la_set__3 h27_ h28_), ?_⟩
    refine ⟨h6_, ?_⟩
    refine ⟨h7_, ?_⟩
    refine ⟨(sm_PV_ow h8_ h20_ rfl), ?_⟩
    refine ⟨(sm_AL_ow h9_ h29_ (la_set__4 h18_ h21_ h30_) rfl), ?_⟩
    refine ⟨h10_, ?_⟩
    refine ⟨h11_, ?_⟩
    refine ⟨h12_, ?_⟩
    refine ⟨h13_, ?_⟩
    refine ⟨h14_, ?_⟩
    refine ⟨h15_, ?_⟩
    refine ⟨sm_KP_rf, ?_⟩
    refine ⟨la_set__5, ?_⟩
    refine ⟨?_, ?_⟩
    · skip
      intro h31_
      exact (sm_HN_i h27_ h28_ h29_ h30_)
    refine ⟨la_set__6, ?_⟩
    refine ⟨la_set__7, ?_⟩
    refine ⟨la_set__8, ?_⟩
    exact la_set__7
  intro h32_
  have h33_ := (h24_.resolve_right (la_set__9 h32_))
  have h34_ := (h25_ h33_)
  intro h35_
  refine ⟨?_, ?_⟩
  · skip
    intro h36_
    intro h37_
    have h38_ := (h37_ h7_)
    obtain ⟨h39_, ⟨h40_, h41_⟩⟩ := (h38_ (la_set__11 (la_set__10 h14_ h36_)))
    intro h42_
    have h43_ := (h42_ h6_)
    have h44_ := (h43_ h16_)
    have h45_ := (h44_ h17_)
    intro h46_
    refine ⟨(la_set__3 h39_ h40_), ?_⟩
    intro h47_
    refine ⟨(la_set__12 h13_ (la_set__10 h14_ h36_)), ?_⟩
    refine ⟨h2_, ?_⟩
    intro h48_
    refine ⟨(la_set__13 h15_ h22_), ?_⟩
    refine ⟨(la_set__14 h12_ h16_ h17_), ?_⟩
    intro h49_
    refine ⟨?_, ?_⟩
    · skip
      intro h50_
      obtain ⟨h51_, ⟨h52_, ⟨h53_, ⟨h54_, ⟨h55_, ⟨h56_, h57_⟩⟩⟩⟩⟩⟩ := (h45_.resolve_left (fun q_ => h50_ q_.2))
      refine ⟨(la_set__3 h54_ h55_), ?_⟩
      refine ⟨(sm_PL_app1 h6_ h16_ h17_ (la_set__3 h39_ h40_) h41_ h15_ rfl rfl rfl h50_ ⟨rfl, rfl, rfl, rfl, rfl⟩), ?_⟩
      refine ⟨(sm_FR_pop1 h7_ (la_set__11 (la_set__10 h14_ h36_)) rfl rfl la_set__15 rfl (la_set__16 h16_ h56_)), ?_⟩
      refine ⟨(sm_PV_new h8_ (la_set__17 h18_ h19_) h20_), ?_⟩
      refine ⟨(sm_AL_new h9_ h41_ h21_), ?_⟩
      refine ⟨(sm_SV_KP h10_ (sm_KP_new h41_)), ?_⟩
      refine ⟨h11_, ?_⟩
      refine ⟨h12_, ?_⟩
      refine ⟨(la_set__18 h13_), ?_⟩
      refine ⟨(la_set__19 (la_set__10 h14_ h36_)), ?_⟩
      refine ⟨(la_set__18 h15_), ?_⟩
      refine ⟨(sm_KP_new h41_), ?_⟩
      refine ⟨la_set__5, ?_⟩
      refine ⟨?_, ?_⟩
      · skip
        intro h58_
        exact (sm_HN_new h39_ h40_)
      refine ⟨la_set__7, ?_⟩
      refine ⟨la_set__20, ?_⟩
      refine ⟨la_set__8, ?_⟩
      exact la_set__20
    intro h59_
    obtain ⟨h60_, h61_⟩ := (h45_.resolve_right (la_set__21 h59_))
    refine ⟨(sm_PL_app0 h6_ h16_ h17_ (la_set__3 h39_ h40_) h41_ h15_ rfl rfl rfl h61_ ⟨rfl, rfl, rfl, rfl, rfl⟩), ?_⟩
    refine ⟨(sm_FR_pop0 h7_ (la_set__11 (la_set__10 h14_ h36_)) rfl rfl la_set__15 rfl), ?_⟩
    refine ⟨(sm_PV_new h8_ (la_set__17 h18_ h19_) h20_), ?_⟩
    refine ⟨(sm_AL_new h9_ h41_ h21_), ?_⟩
    refine ⟨(sm_SV_KP h10_ (sm_KP_new h41_)), ?_⟩
    refine ⟨h11_, ?_⟩
    refine ⟨h12_, ?_⟩
    refine ⟨(la_set__18 h13_), ?_⟩
    refine ⟨(la_set__19 (la_set__10 h14_ h36_)), ?_⟩
    refine ⟨(la_set__18 h15_), ?_⟩
    refine ⟨(sm_KP_new h41_), ?_⟩
    refine ⟨la_set__5, ?_⟩
    refine ⟨?_, ?_⟩
    · skip
      intro h62_
      exact (sm_HN_new h39_ h40_)
    refine ⟨la_set__7, ?_⟩
    refine ⟨la_set__20, ?_⟩
    refine ⟨la_set__8, ?_⟩
    exact la_set__20
  intro h63_
  refine ⟨h6_, ?_⟩
  refine ⟨h7_, ?_⟩
  refine ⟨h8_, ?_⟩
  refine ⟨h9_, ?_⟩
  refine ⟨h10_, ?_⟩
  refine ⟨h11_, ?_⟩
  refine ⟨h12_, ?_⟩
  refine ⟨h13_, ?_⟩
  refine ⟨h14_, ?_⟩
  refine ⟨h15_, ?_⟩
  refine ⟨sm_KP_rf, ?_⟩
  refine ⟨la_set__22, ?_⟩
  refine ⟨?_, ?_⟩
  · skip
    intro h64_
    have e65_ : S 44 p4 = S 44 p1 := congrArg ((S 44)) (la_set__23 h64_)
    obtain ⟨h66_, h67_⟩ := ((sm_VO_e h20_).2.2.1 (la_set__24 h64_))
    obtain ⟨h68_, ⟨h69_, h70_⟩⟩ := ((sm_VO_e h20_).2.2.2 (la_set__25 h64_))
    have h71_ := (h21_ (la_set__26 h64_))
    obtain ⟨h72_, ⟨h73_, h74_⟩⟩ := (h71_ (la_set__29 h64_))
    exact ((la_set__30 h64_)).elim
  refine ⟨la_set__6, ?_⟩
  refine ⟨la_set__7, ?_⟩
  refine ⟨(la_set__31 h63_), ?_⟩
  exact la_set__7
set_option maxRecDepth 8000 in
set_option maxHeartbeats 2000000 in
theorem t_set_ : ∀ (p1 : Int) (p2 : Int) (p3 : Int) (p4 : Int) (S : sv_S), sm_ok S → sv_R p1 → sv_R p2 → sv_R p3 → sv_R p4 → (sm_PL (S 1100020) (S 51) (S 52) (S 46) (S 47) (S 1076 0) (S 1086 0) ∧ sm_FR (S 1100020) (S 52) (S 1100021) (S 1100022) (3000 - (S 1084 0)) (S 1085 0) ∧ sm_PV (S 1100020) (S 48) (S 49) (S 50) (S 44) (S 1076 0) (S 1007 0) ∧ sm_AL (S 1100020) (S 48) (S 49) (S 50) (S 44) (S 1076 0) (S 1100032 0) ∧ sm_SV (S 1100020) (S 48) (S 1100029) (S 32) (S 33) (S 1076 0) (S 1032 0) ∧ 0 ≤ (S 1076 0) ∧ (S 1076 0) ≤ 300 ∧ 0 ≤ (S 1084 0) ∧ (S 1084 0) ≤ 3000 ∧ 0 ≤ (S 1086 0) ∧ 0 ≤ p1 ∧ p1 < (S 1076 0) ∧ 0 ≤ p2 ∧ p2 < (S 1007 0) ∧ sm_VO (S 44) (S 1076 0) (S 1007 0) (p3) (p4) ∧ ((S 44 p1) = 2 → p2 = 0 → p3 = 5 ∧ 0 ≤ p4 ∧ p4 ≤ 100) ∧ (S 1086 0) < 2000000000) → sv_T sm_XS sm_cs sm_L sm_sh 1 (q_set_ p1 p2 p3 p4 S) 141 0 (lv_args 0 [.ref 0, sv_I p1, sv_I p2, sv_I p3, sv_I p4]) [] S := by
  intro p1 p2 p3 p4 S hok hp1 hp2 hp3 hp4 hpre
  have h := f_set_ p1 p2 p3 p4 S hok hp1 hp2 hp3 hp4 hpre
  have hM := sm_h141
  show sv_T sm_XS sm_cs sm_L sm_sh 1 (q_set_ p1 p2 p3 p4 S) 141 0 [(0, .ref 0), (1, sv_I p1), (2, sv_I p2), (3, sv_I p3), (4, sv_I p4)] [] S
  refine sv_aload_n hM dX12_set__0 rfl rfl ?_
  refine sv_iload_n hM dX12_set__1 rfl rfl ?_
  refine sv_iload_n hM dX12_set__2 rfl rfl ?_
  obtain ⟨o1, h⟩ := h
  refine sv_callV hM dX12_set__3 sm_iv_846 (by decide) (sm_a0 _) rfl rfl (Nat.le_of_ble_eq_true rfl) sm_h140 (Nat.le_of_ble_eq_true rfl) (Nat.le_of_ble_eq_true rfl) (F' := 0) (Nat.le_of_ble_eq_true rfl) rfl (t_findProperty p1 p2 S hok hp1 hp2 o1) (fun v S1 hq => ?_)
  obtain ⟨r6, rfl, hr6, ok3, md4, hpo5⟩ := hq
  obtain rfl : S = S1 := (funext fun j => md4 j (by intro q; cases q)).symm
  show sv_T sm_XS sm_cs sm_L sm_sh 1 (q_set_ p1 p2 p3 p4 S) 141 6 [(0, .ref 0), (1, sv_I p1), (2, sv_I p2), (3, sv_I p3), (4, sv_I p4)] [sv_I r6] S
  have h := h r6 hr6 hpo5
  refine sv_istore hM dX12_set__6 (by decide) rfl ?_
  show sv_T sm_XS sm_cs sm_L sm_sh 1 (q_set_ p1 p2 p3 p4 S) 141 8 [(0, .ref 0), (1, sv_I p1), (2, sv_I p2), (3, sv_I p3), (4, sv_I p4), (5, sv_I r6)] [] S
  refine sv_iload hM dX12_set__8 rfl rfl ?_
  refine sv_iconst (d := (-1 : Int)) hM dX12_set__10 rfl rfl ?_
  refine sv_icmp_ne hM dX12_set__11 hr6 (⟨by decide, by decide⟩ : sv_R (-1 : Int)) (t := 136) rfl rfl (fun hc => ?_) (fun hc => ?_)
  · have h := h.1 (hc)
    refine sv_aload_n hM dX12_set__136 rfl rfl ?_
    refine sv_getA hM dX12_set__137 sm_fl_158 (sm_a0 _) sm_k88 rfl ?_
    refine sv_iload hM dX12_set__140 rfl rfl ?_
    refine sv_iload_n hM dX12_set__142 rfl rfl ?_
    obtain ⟨o7, h⟩ := h
    refine sv_iast sm_X hM dX12_set__143 (sm_a49 _) (by decide) o7.1 o7.2 rfl ?_
    have ok8 : sm_ok (sv_up S 49 r6 p3) := sm_upI ok3 sm_r49 hp3
    have md9 : sv_mod [1084, 1085, 48, 1086, 51, 52, 46, 47, 49, 50, 1075, 1100020, 1100021, 1100022] S (sv_up S 49 r6 p3) := sv_mod.up sv_mod.rf (by decide)
    refine sv_aload_n hM dX12_set__144 rfl rfl ?_
    refine sv_getA hM dX12_set__145 sm_fl_161 (sm_a0 _) sm_k89 rfl ?_
    refine sv_iload hM dX12_set__148 rfl rfl ?_
    refine sv_iload hM dX12_set__150 rfl rfl ?_
    refine sv_iast sm_X hM dX12_set__152 (sm_a50 _) (by decide) o7.1 o7.2 rfl ?_
    have ok10 : sm_ok (sv_up (sv_up S 49 r6 p3) 50 r6 p4) := sm_upI ok8 sm_r50 hp4
    have md11 : sv_mod [1084, 1085, 48, 1086, 51, 52, 46, 47, 49, 50, 1075, 1100020, 1100021, 1100022] S (sv_up (sv_up S 49 r6 p3) 50 r6 p4) := sv_mod.up md9 (by decide)
    exact sv_vret hM dX12_set__153 rfl ⟨rfl, ok10, md11, h⟩
  · have h := h.2 (hc)
    refine sv_aload_n hM dX12_set__14 rfl rfl ?_
    have k12 : sv_R (S 1084 0) := sm_okI ok3 sm_r1084 0
    have h := h k12
    refine sv_getI hM dX12_set__15 sm_fl_849 (sm_a0 _) sm_k84 rfl (x := (S 1084 0)) rfl ?_
    refine sv_sipush (d := (3000 : Int)) hM dX12_set__18 rfl rfl ?_
    refine sv_icmp_ne hM dX12_set__21 k12 (⟨by decide, by decide⟩ : sv_R (3000 : Int)) (t := 30) rfl rfl (fun hc => ?_) (fun hc => ?_)
    · have h := h.1 (hc)
      have k13 : (sm_FR (S 1100020) (S 52) (S 1100021) (S 1100022) (3000 - (S 1084 0)) (S 1085 0) → 1 ≤ 3000 - (S 1084 0) → 0 ≤ (S 1085 0) ∧ (S 1085 0) < 3000 ∧ (S 1100020 (S 1085 0)) = -1) := sm_FR_top
      have h := h k13
      have k14 : (sm_PL (S 1100020) (S 51) (S 52) (S 46) (S 47) (S 1076 0) (S 1086 0) → 0 ≤ p1 → p1 < (S 1076 0) → ((S 46 p1) = -1 ∧ (S 47 p1) = -1) ∨ (0 ≤ (S 46 p1) ∧ (S 46 p1) < 3000 ∧ (S 1100020 (S 46 p1)) = p1 ∧ 0 ≤ (S 47 p1) ∧ (S 47 p1) < 3000 ∧ (S 1100020 (S 47 p1)) = p1 ∧ (S 52 (S 47 p1)) = -1)) := fun h a b => h.2.2.1 _ a b
      have h := h k14
      refine sv_aload_n hM dX12_set__30 rfl rfl ?_
      have k15 : sv_R (S 1085 0) := sm_okI ok3 sm_r1085 0
      have h := h k15
      refine sv_getI hM dX12_set__31 sm_fl_852 (sm_a0 _) sm_k85 rfl (x := (S 1085 0)) rfl ?_
      refine sv_istore hM dX12_set__34 (by decide) rfl ?_
      show sv_T sm_XS sm_cs sm_L sm_sh 1 (q_set_ p1 p2 p3 p4 S) 141 36 [(0, .ref 0), (1, sv_I p1), (2, sv_I p2), (3, sv_I p3), (4, sv_I p4), (5, sv_I (S 1085 0))] [] S
      refine sv_aload_n hM dX12_set__36 rfl rfl ?_
      refine sv_aload_n hM dX12_set__37 rfl rfl ?_
      refine sv_getA hM dX12_set__38 sm_fl_167 (sm_a0 _) sm_k91 rfl ?_
      refine sv_iload hM dX12_set__41 rfl rfl ?_
      obtain ⟨o16, h⟩ := h
      have k17 : sv_R (S 52 (S 1085 0)) := sm_okI ok3 sm_r52 (S 1085 0)
      have h := h k17
      refine sv_iald hM dX12_set__43 (sm_a52 _) (by decide) o16.1 o16.2 rfl (x := (S 52 (S 1085 0))) rfl ?_
      refine sv_putI sm_X hM dX12_set__44 sm_fp_852 (sm_a0 _) sm_q85 (Or.inl rfl) rfl rfl rfl rfl ?_
      have ok18 : sm_ok (sv_up S 1085 0 (S 52 (S 1085 0))) := sm_upI ok3 sm_r1085 k17
      have md19 : sv_mod [1084, 1085, 48, 1086, 51, 52, 46, 47, 49, 50, 1075, 1100020, 1100021, 1100022] S (sv_up S 1085 0 (S 52 (S 1085 0))) := sv_mod.up sv_mod.rf (by decide)
      refine sv_aload_n hM dX12_set__47 rfl rfl ?_
      refine sv_dupA hM dX12_set__48 rfl ?_
      refine sv_getI hM dX12_set__49 sm_fl_849 (sm_a0 _) sm_k84 rfl (x := (S 1084 0)) rfl ?_
      refine sv_iconst (d := (1 : Int)) hM dX12_set__52 rfl rfl ?_
      refine sv_iadd hM dX12_set__53 rfl ?_
      obtain ⟨o20, h⟩ := h
      refine sv_putI sm_X hM dX12_set__54 sm_fp_849 (sm_a0 _) sm_q84 (Or.inl rfl) rfl rfl rfl rfl ?_
      have ok21 : sm_ok (sv_up (sv_up S 1085 0 (S 52 (S 1085 0))) 1084 0 ((S 1084 0) + (1 : Int))) := sm_upI ok18 sm_r1084 o20
      have md22 : sv_mod [1084, 1085, 48, 1086, 51, 52, 46, 47, 49, 50, 1075, 1100020, 1100021, 1100022] S (sv_up (sv_up S 1085 0 (S 52 (S 1085 0))) 1084 0 ((S 1084 0) + (1 : Int))) := sv_mod.up md19 (by decide)
      obtain ⟨o23, h⟩ := h
      refine sv_ghost sm_X 1100020 (S 1085 0) (p1) (by decide) ?_
      have ok24 : sm_ok (sv_up (sv_up (sv_up S 1085 0 (S 52 (S 1085 0))) 1084 0 ((S 1084 0) + (1 : Int))) 1100020 (S 1085 0) (p1)) := sm_upI ok21 sm_r1100020 o23
      have md25 : sv_mod [1084, 1085, 48, 1086, 51, 52, 46, 47, 49, 50, 1075, 1100020, 1100021, 1100022] S (sv_up (sv_up (sv_up S 1085 0 (S 52 (S 1085 0))) 1084 0 ((S 1084 0) + (1 : Int))) 1100020 (S 1085 0) (p1)) := sv_mod.up md22 (by decide)
      refine sv_aload_n hM dX12_set__57 rfl rfl ?_
      refine sv_getA hM dX12_set__58 sm_fl_155 (sm_a0 _) sm_k87 rfl ?_
      refine sv_iload hM dX12_set__61 rfl rfl ?_
      refine sv_iload_n hM dX12_set__63 rfl rfl ?_
      refine sv_iast sm_X hM dX12_set__64 (sm_a48 _) (by decide) o16.1 o16.2 rfl ?_
      have ok26 : sm_ok (sv_up (sv_up (sv_up (sv_up S 1085 0 (S 52 (S 1085 0))) 1084 0 ((S 1084 0) + (1 : Int))) 1100020 (S 1085 0) (p1)) 48 (S 1085 0) p2) := sm_upI ok24 sm_r48 hp2
      have md27 : sv_mod [1084, 1085, 48, 1086, 51, 52, 46, 47, 49, 50, 1075, 1100020, 1100021, 1100022] S (sv_up (sv_up (sv_up (sv_up S 1085 0 (S 52 (S 1085 0))) 1084 0 ((S 1084 0) + (1 : Int))) 1100020 (S 1085 0) (p1)) 48 (S 1085 0) p2) := sv_mod.up md25 (by decide)
      refine sv_aload_n hM dX12_set__65 rfl rfl ?_
      refine sv_dupA hM dX12_set__66 rfl ?_
      have k28 : sv_R (S 1086 0) := sm_okI ok26 sm_r1086 0
      have h := h k28
      refine sv_getI hM dX12_set__67 sm_fl_855 (sm_a0 _) sm_k86 rfl (x := (S 1086 0)) rfl ?_
      refine sv_iconst (d := (1 : Int)) hM dX12_set__70 rfl rfl ?_
      refine sv_iadd hM dX12_set__71 rfl ?_
      obtain ⟨o29, h⟩ := h
      refine sv_putI sm_X hM dX12_set__72 sm_fp_855 (sm_a0 _) sm_q86 (Or.inl rfl) rfl rfl rfl rfl ?_
      have ok30 : sm_ok (sv_up (sv_up (sv_up (sv_up (sv_up S 1085 0 (S 52 (S 1085 0))) 1084 0 ((S 1084 0) + (1 : Int))) 1100020 (S 1085 0) (p1)) 48 (S 1085 0) p2) 1086 0 ((S 1086 0) + (1 : Int))) := sm_upI ok26 sm_r1086 o29
      have md31 : sv_mod [1084, 1085, 48, 1086, 51, 52, 46, 47, 49, 50, 1075, 1100020, 1100021, 1100022] S (sv_up (sv_up (sv_up (sv_up (sv_up S 1085 0 (S 52 (S 1085 0))) 1084 0 ((S 1084 0) + (1 : Int))) 1100020 (S 1085 0) (p1)) 48 (S 1085 0) p2) 1086 0 ((S 1086 0) + (1 : Int))) := sv_mod.up md27 (by decide)
      refine sv_aload_n hM dX12_set__75 rfl rfl ?_
      refine sv_getA hM dX12_set__76 sm_fl_164 (sm_a0 _) sm_k90 rfl ?_
      refine sv_iload hM dX12_set__79 rfl rfl ?_
      refine sv_aload_n hM dX12_set__81 rfl rfl ?_
      refine sv_getI hM dX12_set__82 sm_fl_855 (sm_a0 _) sm_k86 rfl (x := ((S 1086 0) + (1 : Int))) rfl ?_
      refine sv_iast sm_X hM dX12_set__85 (sm_a51 _) (by decide) o16.1 o16.2 rfl ?_
      have ok32 : sm_ok (sv_up (sv_up (sv_up (sv_up (sv_up (sv_up S 1085 0 (S 52 (S 1085 0))) 1084 0 ((S 1084 0) + (1 : Int))) 1100020 (S 1085 0) (p1)) 48 (S 1085 0) p2) 1086 0 ((S 1086 0) + (1 : Int))) 51 (S 1085 0) ((S 1086 0) + (1 : Int))) := sm_upI ok30 sm_r51 o29
      have md33 : sv_mod [1084, 1085, 48, 1086, 51, 52, 46, 47, 49, 50, 1075, 1100020, 1100021, 1100022] S (sv_up (sv_up (sv_up (sv_up (sv_up (sv_up S 1085 0 (S 52 (S 1085 0))) 1084 0 ((S 1084 0) + (1 : Int))) 1100020 (S 1085 0) (p1)) 48 (S 1085 0) p2) 1086 0 ((S 1086 0) + (1 : Int))) 51 (S 1085 0) ((S 1086 0) + (1 : Int))) := sv_mod.up md31 (by decide)
      refine sv_aload_n hM dX12_set__86 rfl rfl ?_
      refine sv_getA hM dX12_set__87 sm_fl_167 (sm_a0 _) sm_k91 rfl ?_
      refine sv_iload hM dX12_set__90 rfl rfl ?_
      refine sv_iconst (d := (-1 : Int)) hM dX12_set__92 rfl rfl ?_
      refine sv_iast sm_X hM dX12_set__93 (sm_a52 _) (by decide) o16.1 o16.2 rfl ?_
      have ok34 : sm_ok (sv_up (sv_up (sv_up (sv_up (sv_up (sv_up (sv_up S 1085 0 (S 52 (S 1085 0))) 1084 0 ((S 1084 0) + (1 : Int))) 1100020 (S 1085 0) (p1)) 48 (S 1085 0) p2) 1086 0 ((S 1086 0) + (1 : Int))) 51 (S 1085 0) ((S 1086 0) + (1 : Int))) 52 (S 1085 0) (-1 : Int)) := sm_upI ok32 sm_r52 (⟨by decide, by decide⟩ : sv_R (-1 : Int))
      have md35 : sv_mod [1084, 1085, 48, 1086, 51, 52, 46, 47, 49, 50, 1075, 1100020, 1100021, 1100022] S (sv_up (sv_up (sv_up (sv_up (sv_up (sv_up (sv_up S 1085 0 (S 52 (S 1085 0))) 1084 0 ((S 1084 0) + (1 : Int))) 1100020 (S 1085 0) (p1)) 48 (S 1085 0) p2) 1086 0 ((S 1086 0) + (1 : Int))) 51 (S 1085 0) ((S 1086 0) + (1 : Int))) 52 (S 1085 0) (-1 : Int)) := sv_mod.up md33 (by decide)
      refine sv_aload_n hM dX12_set__94 rfl rfl ?_
      refine sv_getA hM dX12_set__95 sm_fl_152 (sm_a0 _) sm_k83 rfl ?_
      refine sv_iload_n hM dX12_set__98 rfl rfl ?_
      obtain ⟨o36, h⟩ := h
      have k37 : sv_R (S 47 p1) := sm_okI ok34 sm_r47 p1
      have h := h k37
      refine sv_iald hM dX12_set__99 (sm_a47 _) (by decide) o36.1 o36.2 rfl (x := (S 47 p1)) rfl ?_
      refine sv_iconst (d := (-1 : Int)) hM dX12_set__100 rfl rfl ?_
      refine sv_icmp_ne hM dX12_set__101 k37 (⟨by decide, by decide⟩ : sv_R (-1 : Int)) (t := 115) rfl rfl (fun hc => ?_) (fun hc => ?_)
      · have h := h.1 (hc)
        refine sv_aload_n hM dX12_set__115 rfl rfl ?_
        refine sv_getA hM dX12_set__116 sm_fl_167 (sm_a0 _) sm_k91 rfl ?_
        refine sv_aload_n hM dX12_set__119 rfl rfl ?_
        refine sv_getA hM dX12_set__120 sm_fl_152 (sm_a0 _) sm_k83 rfl ?_
        refine sv_iload_n hM dX12_set__123 rfl rfl ?_
        refine sv_iald hM dX12_set__124 (sm_a47 _) (by decide) o36.1 o36.2 rfl (x := (S 47 p1)) rfl ?_
        refine sv_iload hM dX12_set__125 rfl rfl ?_
        obtain ⟨o38, h⟩ := h
        refine sv_iast sm_X hM dX12_set__127 (sm_a52 _) (by decide) o38.1 o38.2 rfl ?_
        have ok39 : sm_ok (sv_up (sv_up (sv_up (sv_up (sv_up (sv_up (sv_up (sv_up S 1085 0 (S 52 (S 1085 0))) 1084 0 ((S 1084 0) + (1 : Int))) 1100020 (S 1085 0) (p1)) 48 (S 1085 0) p2) 1086 0 ((S 1086 0) + (1 : Int))) 51 (S 1085 0) ((S 1086 0) + (1 : Int))) 52 (S 1085 0) (-1 : Int)) 52 (S 47 p1) (S 1085 0)) := sm_upI ok34 sm_r52 k15
        have md40 : sv_mod [1084, 1085, 48, 1086, 51, 52, 46, 47, 49, 50, 1075, 1100020, 1100021, 1100022] S (sv_up (sv_up (sv_up (sv_up (sv_up (sv_up (sv_up (sv_up S 1085 0 (S 52 (S 1085 0))) 1084 0 ((S 1084 0) + (1 : Int))) 1100020 (S 1085 0) (p1)) 48 (S 1085 0) p2) 1086 0 ((S 1086 0) + (1 : Int))) 51 (S 1085 0) ((S 1086 0) + (1 : Int))) 52 (S 1085 0) (-1 : Int)) 52 (S 47 p1) (S 1085 0)) := sv_mod.up md35 (by decide)
        refine sv_aload_n hM dX12_set__128 rfl rfl ?_
        refine sv_getA hM dX12_set__129 sm_fl_152 (sm_a0 _) sm_k83 rfl ?_
        refine sv_iload_n hM dX12_set__132 rfl rfl ?_
        refine sv_iload hM dX12_set__133 rfl rfl ?_
        refine sv_iast sm_X hM dX12_set__135 (sm_a47 _) (by decide) o36.1 o36.2 rfl ?_
        have ok41 : sm_ok (sv_up (sv_up (sv_up (sv_up (sv_up (sv_up (sv_up (sv_up (sv_up S 1085 0 (S 52 (S 1085 0))) 1084 0 ((S 1084 0) + (1 : Int))) 1100020 (S 1085 0) (p1)) 48 (S 1085 0) p2) 1086 0 ((S 1086 0) + (1 : Int))) 51 (S 1085 0) ((S 1086 0) + (1 : Int))) 52 (S 1085 0) (-1 : Int)) 52 (S 47 p1) (S 1085 0)) 47 p1 (S 1085 0)) := sm_upI ok39 sm_r47 k15
        have md42 : sv_mod [1084, 1085, 48, 1086, 51, 52, 46, 47, 49, 50, 1075, 1100020, 1100021, 1100022] S (sv_up (sv_up (sv_up (sv_up (sv_up (sv_up (sv_up (sv_up (sv_up S 1085 0 (S 52 (S 1085 0))) 1084 0 ((S 1084 0) + (1 : Int))) 1100020 (S 1085 0) (p1)) 48 (S 1085 0) p2) 1086 0 ((S 1086 0) + (1 : Int))) 51 (S 1085 0) ((S 1086 0) + (1 : Int))) 52 (S 1085 0) (-1 : Int)) 52 (S 47 p1) (S 1085 0)) 47 p1 (S 1085 0)) := sv_mod.up md40 (by decide)
        refine sv_aload_n hM dX12_set__136 rfl rfl ?_
        refine sv_getA hM dX12_set__137 sm_fl_158 (sm_a0 _) sm_k88 rfl ?_
        refine sv_iload hM dX12_set__140 rfl rfl ?_
        refine sv_iload_n hM dX12_set__142 rfl rfl ?_
        refine sv_iast sm_X hM dX12_set__143 (sm_a49 _) (by decide) o16.1 o16.2 rfl ?_
        have ok43 : sm_ok (sv_up (sv_up (sv_up (sv_up (sv_up (sv_up (sv_up (sv_up (sv_up (sv_up S 1085 0 (S 52 (S 1085 0))) 1084 0 ((S 1084 0) + (1 : Int))) 1100020 (S 1085 0) (p1)) 48 (S 1085 0) p2) 1086 0 ((S 1086 0) + (1 : Int))) 51 (S 1085 0) ((S 1086 0) + (1 : Int))) 52 (S 1085 0) (-1 : Int)) 52 (S 47 p1) (S 1085 0)) 47 p1 (S 1085 0)) 49 (S 1085 0) p3) := sm_upI ok41 sm_r49 hp3
        have md44 : sv_mod [1084, 1085, 48, 1086, 51, 52, 46, 47, 49, 50, 1075, 1100020, 1100021, 1100022] S (sv_up (sv_up (sv_up (sv_up (sv_up (sv_up (sv_up (sv_up (sv_up (sv_up S 1085 0 (S 52 (S 1085 0))) 1084 0 ((S 1084 0) + (1 : Int))) 1100020 (S 1085 0) (p1)) 48 (S 1085 0) p2) 1086 0 ((S 1086 0) + (1 : Int))) 51 (S 1085 0) ((S 1086 0) + (1 : Int))) 52 (S 1085 0) (-1 : Int)) 52 (S 47 p1) (S 1085 0)) 47 p1 (S 1085 0)) 49 (S 1085 0) p3) := sv_mod.up md42 (by decide)
        refine sv_aload_n hM dX12_set__144 rfl rfl ?_
        refine sv_getA hM dX12_set__145 sm_fl_161 (sm_a0 _) sm_k89 rfl ?_
        refine sv_iload hM dX12_set__148 rfl rfl ?_
        refine sv_iload hM dX12_set__150 rfl rfl ?_
        refine sv_iast sm_X hM dX12_set__152 (sm_a50 _) (by decide) o16.1 o16.2 rfl ?_
        have ok45 : sm_ok (sv_up (sv_up (sv_up (sv_up (sv_up (sv_up (sv_up (sv_up (sv_up (sv_up (sv_up S 1085 0 (S 52 (S 1085 0))) 1084 0 ((S 1084 0) + (1 : Int))) 1100020 (S 1085 0) (p1)) 48 (S 1085 0) p2) 1086 0 ((S 1086 0) + (1 : Int))) 51 (S 1085 0) ((S 1086 0) + (1 : Int))) 52 (S 1085 0) (-1 : Int)) 52 (S 47 p1) (S 1085 0)) 47 p1 (S 1085 0)) 49 (S 1085 0) p3) 50 (S 1085 0) p4) := sm_upI ok43 sm_r50 hp4
        have md46 : sv_mod [1084, 1085, 48, 1086, 51, 52, 46, 47, 49, 50, 1075, 1100020, 1100021, 1100022] S (sv_up (sv_up (sv_up (sv_up (sv_up (sv_up (sv_up (sv_up (sv_up (sv_up (sv_up S 1085 0 (S 52 (S 1085 0))) 1084 0 ((S 1084 0) + (1 : Int))) 1100020 (S 1085 0) (p1)) 48 (S 1085 0) p2) 1086 0 ((S 1086 0) + (1 : Int))) 51 (S 1085 0) ((S 1086 0) + (1 : Int))) 52 (S 1085 0) (-1 : Int)) 52 (S 47 p1) (S 1085 0)) 47 p1 (S 1085 0)) 49 (S 1085 0) p3) 50 (S 1085 0) p4) := sv_mod.up md44 (by decide)
        exact sv_vret hM dX12_set__153 rfl ⟨rfl, ok45, md46, h⟩
      · have h := h.2 (hc)
        refine sv_aload_n hM dX12_set__104 rfl rfl ?_
        refine sv_getA hM dX12_set__105 sm_fl_149 (sm_a0 _) sm_k82 rfl ?_
        refine sv_iload_n hM dX12_set__108 rfl rfl ?_
        refine sv_iload hM dX12_set__109 rfl rfl ?_
        refine sv_iast sm_X hM dX12_set__111 (sm_a46 _) (by decide) o36.1 o36.2 rfl ?_
        have ok47 : sm_ok (sv_up (sv_up (sv_up (sv_up (sv_up (sv_up (sv_up (sv_up S 1085 0 (S 52 (S 1085 0))) 1084 0 ((S 1084 0) + (1 : Int))) 1100020 (S 1085 0) (p1)) 48 (S 1085 0) p2) 1086 0 ((S 1086 0) + (1 : Int))) 51 (S 1085 0) ((S 1086 0) + (1 : Int))) 52 (S 1085 0) (-1 : Int)) 46 p1 (S 1085 0)) := sm_upI ok34 sm_r46 k15
        have md48 : sv_mod [1084, 1085, 48, 1086, 51, 52, 46, 47, 49, 50, 1075, 1100020, 1100021, 1100022] S (sv_up (sv_up (sv_up (sv_up (sv_up (sv_up (sv_up (sv_up S 1085 0 (S 52 (S 1085 0))) 1084 0 ((S 1084 0) + (1 : Int))) 1100020 (S 1085 0) (p1)) 48 (S 1085 0) p2) 1086 0 ((S 1086 0) + (1 : Int))) 51 (S 1085 0) ((S 1086 0) + (1 : Int))) 52 (S 1085 0) (-1 : Int)) 46 p1 (S 1085 0)) := sv_mod.up md35 (by decide)
        refine sv_goto hM dX12_set__112 (pc' := 128) rfl ?_
        refine sv_aload_n hM dX12_set__128 rfl rfl ?_
        refine sv_getA hM dX12_set__129 sm_fl_152 (sm_a0 _) sm_k83 rfl ?_
        refine sv_iload_n hM dX12_set__132 rfl rfl ?_
        refine sv_iload hM dX12_set__133 rfl rfl ?_
        refine sv_iast sm_X hM dX12_set__135 (sm_a47 _) (by decide) o36.1 o36.2 rfl ?_
        have ok49 : sm_ok (sv_up (sv_up (sv_up (sv_up (sv_up (sv_up (sv_up (sv_up (sv_up S 1085 0 (S 52 (S 1085 0))) 1084 0 ((S 1084 0) + (1 : Int))) 1100020 (S 1085 0) (p1)) 48 (S 1085 0) p2) 1086 0 ((S 1086 0) + (1 : Int))) 51 (S 1085 0) ((S 1086 0) + (1 : Int))) 52 (S 1085 0) (-1 : Int)) 46 p1 (S 1085 0)) 47 p1 (S 1085 0)) := sm_upI ok47 sm_r47 k15
        have md50 : sv_mod [1084, 1085, 48, 1086, 51, 52, 46, 47, 49, 50, 1075, 1100020, 1100021, 1100022] S (sv_up (sv_up (sv_up (sv_up (sv_up (sv_up (sv_up (sv_up (sv_up S 1085 0 (S 52 (S 1085 0))) 1084 0 ((S 1084 0) + (1 : Int))) 1100020 (S 1085 0) (p1)) 48 (S 1085 0) p2) 1086 0 ((S 1086 0) + (1 : Int))) 51 (S 1085 0) ((S 1086 0) + (1 : Int))) 52 (S 1085 0) (-1 : Int)) 46 p1 (S 1085 0)) 47 p1 (S 1085 0)) := sv_mod.up md48 (by decide)
        refine sv_aload_n hM dX12_set__136 rfl rfl ?_
        refine sv_getA hM dX12_set__137 sm_fl_158 (sm_a0 _) sm_k88 rfl ?_
        refine sv_iload hM dX12_set__140 rfl rfl ?_
        refine sv_iload_n hM dX12_set__142 rfl rfl ?_
        refine sv_iast sm_X hM dX12_set__143 (sm_a49 _) (by decide) o16.1 o16.2 rfl ?_
        have ok51 : sm_ok (sv_up (sv_up (sv_up (sv_up (sv_up (sv_up (sv_up (sv_up (sv_up (sv_up S 1085 0 (S 52 (S 1085 0))) 1084 0 ((S 1084 0) + (1 : Int))) 1100020 (S 1085 0) (p1)) 48 (S 1085 0) p2) 1086 0 ((S 1086 0) + (1 : Int))) 51 (S 1085 0) ((S 1086 0) + (1 : Int))) 52 (S 1085 0) (-1 : Int)) 46 p1 (S 1085 0)) 47 p1 (S 1085 0)) 49 (S 1085 0) p3) := sm_upI ok49 sm_r49 hp3
        have md52 : sv_mod [1084, 1085, 48, 1086, 51, 52, 46, 47, 49, 50, 1075, 1100020, 1100021, 1100022] S (sv_up (sv_up (sv_up (sv_up (sv_up (sv_up (sv_up (sv_up (sv_up (sv_up S 1085 0 (S 52 (S 1085 0))) 1084 0 ((S 1084 0) + (1 : Int))) 1100020 (S 1085 0) (p1)) 48 (S 1085 0) p2) 1086 0 ((S 1086 0) + (1 : Int))) 51 (S 1085 0) ((S 1086 0) + (1 : Int))) 52 (S 1085 0) (-1 : Int)) 46 p1 (S 1085 0)) 47 p1 (S 1085 0)) 49 (S 1085 0) p3) := sv_mod.up md50 (by decide)
        refine sv_aload_n hM dX12_set__144 rfl rfl ?_
        refine sv_getA hM dX12_set__145 sm_fl_161 (sm_a0 _) sm_k89 rfl ?_
        refine sv_iload hM dX12_set__148 rfl rfl ?_
        refine sv_iload hM dX12_set__150 rfl rfl ?_
        refine sv_iast sm_X hM dX12_set__152 (sm_a50 _) (by decide) o16.1 o16.2 rfl ?_
        have ok53 : sm_ok (sv_up (sv_up (sv_up (sv_up (sv_up (sv_up (sv_up (sv_up (sv_up (sv_up (sv_up S 1085 0 (S 52 (S 1085 0))) 1084 0 ((S 1084 0) + (1 : Int))) 1100020 (S 1085 0) (p1)) 48 (S 1085 0) p2) 1086 0 ((S 1086 0) + (1 : Int))) 51 (S 1085 0) ((S 1086 0) + (1 : Int))) 52 (S 1085 0) (-1 : Int)) 46 p1 (S 1085 0)) 47 p1 (S 1085 0)) 49 (S 1085 0) p3) 50 (S 1085 0) p4) := sm_upI ok51 sm_r50 hp4
        have md54 : sv_mod [1084, 1085, 48, 1086, 51, 52, 46, 47, 49, 50, 1075, 1100020, 1100021, 1100022] S (sv_up (sv_up (sv_up (sv_up (sv_up (sv_up (sv_up (sv_up (sv_up (sv_up (sv_up S 1085 0 (S 52 (S 1085 0))) 1084 0 ((S 1084 0) + (1 : Int))) 1100020 (S 1085 0) (p1)) 48 (S 1085 0) p2) 1086 0 ((S 1086 0) + (1 : Int))) 51 (S 1085 0) ((S 1086 0) + (1 : Int))) 52 (S 1085 0) (-1 : Int)) 46 p1 (S 1085 0)) 47 p1 (S 1085 0)) 49 (S 1085 0) p3) 50 (S 1085 0) p4) := sv_mod.up md52 (by decide)
        exact sv_vret hM dX12_set__153 rfl ⟨rfl, ok53, md54, h⟩
    · have h := h.2 (hc)
      refine sv_aload_n hM dX12_set__24 rfl rfl ?_
      refine sv_iconst (d := (1 : Int)) hM dX12_set__25 rfl rfl ?_
      refine sv_putI sm_X hM dX12_set__26 sm_fp_794 (sm_a0 _) sm_q75 (Or.inr rfl) rfl (sv_nz (⟨by decide, by decide⟩ : 0 ≤ (1 : Int) ∧ (1 : Int) ≤ 1)) (sv_fz (⟨by decide, by decide⟩ : 0 ≤ (1 : Int) ∧ (1 : Int) ≤ 1)) rfl ?_
      have ok55 : sm_ok (sv_up S 1075 0 (1 : Int)) := sm_upZ ok3 sm_r1075 (⟨by decide, by decide⟩ : 0 ≤ (1 : Int) ∧ (1 : Int) ≤ 1)
      have md56 : sv_mod [1084, 1085, 48, 1086, 51, 52, 46, 47, 49, 50, 1075, 1100020, 1100021, 1100022] S (sv_up S 1075 0 (1 : Int)) := sv_mod.up sv_mod.rf (by decide)
      exact sv_vret hM dX12_set__29 rfl ⟨rfl, ok55, md56, h⟩
def q_lengthOf (p1 : Int) (S : sv_S) : Option Value → sv_S → Prop := fun v S' => ∃ r : Int, v = some (sv_I r) ∧ sv_R r ∧ sm_ok S' ∧ sv_mod [] S S' ∧ (0 ≤ r ∧ r ≤ 100)
theorem la_lengthOf_0 {x0 x1 x2 x3 : Int} (h0 : x0 ≤ 300) (h1 : 0 ≤ x1) (h2 : x1 ≤ 3000) (h3 : 0 ≤ x2) (h4 : 0 ≤ x3) (h5 : x3 < x0) : 0 ≤ x0 ∧ x0 ≤ 300 ∧ 0 ≤ x1 ∧ x1 ≤ 3000 ∧ 0 ≤ x2 ∧ 0 ≤ x3 ∧ x3 < x0 := by omega
theorem la_lengthOf_1 {x0 : Int} (h0 : 0 ≤ x0) : (-1) ≤ x0 := by omega
theorem la_lengthOf_2 {x0 : Int} (h0 : (-1) ≤ x0) (h1 : ¬ x0 = (-1)) : (-1) < x0 := by omega
theorem la_lengthOf_3 {x0 x1 : Int} (h0 : 0 ≤ x0) (h1 : x1 = x0) : 0 ≤ x1 := by omega
theorem la_lengthOf_4 {x0 : Int} (h0 : 0 ≤ x0) (h1 : x0 < 3000) : 0 ≤ x0 ∧ x0 < 3000 := by omega
theorem la_lengthOf_5 {x0 x1 : Int} (h0 : x0 = x1) : x1 = x0 := by omega
theorem la_lengthOf_6 {x0 x1 : Int} (h0 : x0 = 2) (h1 : x0 = x1) : x1 = 2 := by omega
set_option maxHeartbeats 2000000 in
theorem f_lengthOf : ∀ (p1 : Int) (S : sv_S), sm_ok S → sv_R p1 → (sm_PL (S 1100020) (S 51) (S 52) (S 46) (S 47) (S 1076 0) (S 1086 0) ∧ sm_FR (S 1100020) (S 52) (S 1100021) (S 1100022) (3000 - (S 1084 0)) (S 1085 0) ∧ sm_PV (S 1100020) (S 48) (S 49) (S 50) (S 44) (S 1076 0) (S 1007 0) ∧ sm_AL (S 1100020) (S 48) (S 49) (S 50) (S 44) (S 1076 0) (S 1100032 0) ∧ sm_SV (S 1100020) (S 48) (S 1100029) (S 32) (S 33) (S 1076 0) (S 1032 0) ∧ 0 ≤ (S 1076 0) ∧ (S 1076 0) ≤ 300 ∧ 0 ≤ (S 1084 0) ∧ (S 1084 0) ≤ 3000 ∧ 0 ≤ (S 1086 0) ∧ 0 ≤ p1 ∧ p1 < (S 1076 0) ∧ (S 44 p1) = 2 ∧ ¬ p1 = (S 1100032 0)) → (sm_PL (S 1100020) (S 51) (S 52) (S 46) (S 47) (S 1076 0) (S 1086 0) ∧ 0 ≤ (S 1076 0) ∧ (S 1076 0) ≤ 300 ∧ 0 ≤ (S 1084 0) ∧ (S 1084 0) ≤ 3000 ∧ 0 ≤ (S 1086 0) ∧ 0 ≤ p1 ∧ p1 < (S 1076 0)) ∧ (∀ r6 : Int, sv_R r6 → ((r6 = -1 ∨ (0 ≤ r6 ∧ r6 < 3000 ∧ (S 1100020 r6) = p1 ∧ (S 48 r6) = (0 : Int))) ∧ (r6 = -1 → sm_NB (S 1100020) (S 51) (S 48) (p1) ((0 : Int)) (-1))) → ((sm_AL (S 1100020) (S 48) (S 49) (S 50) (S 44) (S 1076 0) (S 1100032 0) → 0 ≤ p1 → p1 < (S 1076 0) → (S 44 p1) = 2 → ¬ p1 = (S 1100032 0) → (r6 = -1 → sm_NB (S 1100020) (S 51) (S 48) (p1) (0) (-1)) → ¬ r6 = -1) → ((sm_AL (S 1100020) (S 48) (S 49) (S 50) (S 44) (S 1076 0) (S 1100032 0) → 0 ≤ r6 → r6 < 3000 → 0 ≤ (S 1100020 r6) → (S 44 (S 1100020 r6)) = 2 → (S 48 r6) = 0 → (S 49 r6) = 5 ∧ 0 ≤ (S 50 r6) ∧ (S 50 r6) ≤ 100) → (0 ≤ r6 ∧ r6 < 3000) ∧ (sv_R (S 50 r6) → (0 ≤ (S 50 r6) ∧ (S 50 r6) ≤ 100))))) := by
  intro p1
  intro S
  intro h1_
  intro h2_
  rintro ⟨h3_, ⟨h4_, ⟨h5_, ⟨h6_, ⟨h7_, ⟨h8_, ⟨h9_, ⟨h10_, ⟨h11_, ⟨h12_, ⟨h13_, ⟨h14_, ⟨h15_, h16_⟩⟩⟩⟩⟩⟩⟩⟩⟩⟩⟩⟩⟩
  refine ⟨⟨h3_, (la_lengthOf_0 h9_ h10_ h11_ h12_ h13_ h14_)⟩, ?_⟩
  intro r6
  intro h17_
  rintro ⟨h18_, h19_⟩
  intro h20_
  have h21_ := (h20_ h6_)
  have h22_ := (h21_ h13_)
  have h23_ := (h22_ h14_)
  have h24_ := (h23_ h15_)
  have h25_ := (h24_ h16_)
  have h26_ := (h25_ h19_)
  obtain ⟨h27_, ⟨h28_, ⟨h29_, h30_⟩⟩⟩ := (h18_.resolve_left h26_)
  intro h31_
  have h32_ := (h31_ h6_)
  have h33_ := (h32_ h27_)
  have h34_ := (h33_ h28_)
  have h35_ := (h34_ (la_lengthOf_3 h13_ h29_))
  refine ⟨(la_lengthOf_4 h27_ h28_), ?_⟩
  intro h36_
  refine ⟨?_, ?_⟩
  · skip
    have e37_ : S 44 p1 = S 44 (S 1100020 r6) := congrArg ((S 44)) (la_lengthOf_5 h29_)
    have h38_ := (h35_ (la_lengthOf_6 h15_ e37_))
    obtain ⟨h39_, ⟨h40_, h41_⟩⟩ := (h38_ h30_)
    exact h40_
  have e42_ : S 44 p1 = S 44 (S 1100020 r6) := congrArg ((S 44)) (la_lengthOf_5 h29_)
  have h43_ := (h35_ (la_lengthOf_6 h15_ e42_))
  obtain ⟨h44_, ⟨h45_, h46_⟩⟩ := (h43_ h30_)
  exact h46_
set_option maxRecDepth 8000 in
set_option maxHeartbeats 2000000 in
theorem t_lengthOf : ∀ (p1 : Int) (S : sv_S), sm_ok S → sv_R p1 → (sm_PL (S 1100020) (S 51) (S 52) (S 46) (S 47) (S 1076 0) (S 1086 0) ∧ sm_FR (S 1100020) (S 52) (S 1100021) (S 1100022) (3000 - (S 1084 0)) (S 1085 0) ∧ sm_PV (S 1100020) (S 48) (S 49) (S 50) (S 44) (S 1076 0) (S 1007 0) ∧ sm_AL (S 1100020) (S 48) (S 49) (S 50) (S 44) (S 1076 0) (S 1100032 0) ∧ sm_SV (S 1100020) (S 48) (S 1100029) (S 32) (S 33) (S 1076 0) (S 1032 0) ∧ 0 ≤ (S 1076 0) ∧ (S 1076 0) ≤ 300 ∧ 0 ≤ (S 1084 0) ∧ (S 1084 0) ≤ 3000 ∧ 0 ≤ (S 1086 0) ∧ 0 ≤ p1 ∧ p1 < (S 1076 0) ∧ (S 44 p1) = 2 ∧ ¬ p1 = (S 1100032 0)) → sv_T sm_XS sm_cs sm_L sm_sh 1 (q_lengthOf p1 S) 144 0 (lv_args 0 [.ref 0, sv_I p1]) [] S := by
  intro p1 S hok hp1 hpre
  have h := f_lengthOf p1 S hok hp1 hpre
  have hM := sm_h144
  show sv_T sm_XS sm_cs sm_L sm_sh 1 (q_lengthOf p1 S) 144 0 [(0, .ref 0), (1, sv_I p1)] [] S
  refine sv_aload_n hM dX12_lengthOf_0 rfl rfl ?_
  refine sv_getA hM dX12_lengthOf_1 sm_fl_161 (sm_a0 _) sm_k89 rfl ?_
  refine sv_aload_n hM dX12_lengthOf_4 rfl rfl ?_
  refine sv_iload_n hM dX12_lengthOf_5 rfl rfl ?_
  refine sv_iconst (d := (0 : Int)) hM dX12_lengthOf_6 rfl rfl ?_
  obtain ⟨o1, h⟩ := h
  refine sv_callV hM dX12_lengthOf_7 sm_iv_846 (by decide) (sm_a0 _) rfl rfl (Nat.le_of_ble_eq_true rfl) sm_h140 (Nat.le_of_ble_eq_true rfl) (Nat.le_of_ble_eq_true rfl) (F' := 0) (Nat.le_of_ble_eq_true rfl) rfl (t_findProperty p1 (0 : Int) S hok hp1 (⟨by decide, by decide⟩ : sv_R (0 : Int)) o1) (fun v S1 hq => ?_)
  obtain ⟨r6, rfl, hr6, ok3, md4, hpo5⟩ := hq
  obtain rfl : S = S1 := (funext fun j => md4 j (by intro q; cases q)).symm
  show sv_T sm_XS sm_cs sm_L sm_sh 1 (q_lengthOf p1 S) 144 10 [(0, .ref 0), (1, sv_I p1)] [sv_I r6, .ref 50] S
  have h := h r6 hr6 hpo5
  have k7 : (sm_AL (S 1100020) (S 48) (S 49) (S 50) (S 44) (S 1076 0) (S 1100032 0) → 0 ≤ p1 → p1 < (S 1076 0) → (S 44 p1) = 2 → ¬ p1 = (S 1100032 0) → (r6 = -1 → sm_NB (S 1100020) (S 51) (S 48) (p1) (0) (-1)) → ¬ r6 = -1) := fun h a b c d e q => (sm_AL_has h a b c d (e q)).elim
  have h := h k7
  have k8 : (sm_AL (S 1100020) (S 48) (S 49) (S 50) (S 44) (S 1076 0) (S 1100032 0) → 0 ≤ r6 → r6 < 3000 → 0 ≤ (S 1100020 r6) → (S 44 (S 1100020 r6)) = 2 → (S 48 r6) = 0 → (S 49 r6) = 5 ∧ 0 ≤ (S 50 r6) ∧ (S 50 r6) ≤ 100) := fun h a b c d e => sm_AL_at h _ a b c d e
  have h := h k8
  obtain ⟨o9, h⟩ := h
  have k10 : sv_R (S 50 r6) := sm_okI ok3 sm_r50 r6
  have h := h k10
  refine sv_iald hM dX12_lengthOf_10 (sm_a50 _) (by decide) o9.1 o9.2 rfl (x := (S 50 r6)) rfl ?_
  exact sv_iret hM dX12_lengthOf_11 rfl rfl ⟨(S 50 r6), rfl, k10, ok3, sv_mod.rf, h⟩
def q_remove (p1 : Int) (p2 : Int) (S : sv_S) : Option Value → sv_S → Prop := fun v S' => v = none ∧ sm_ok S' ∧ sv_mod [46, 47, 52, 1085, 1084, 1100020, 1100021, 1100022] S S' ∧ (sm_PL (S' 1100020) (S' 51) (S' 52) (S' 46) (S' 47) (S' 1076 0) (S' 1086 0) ∧ sm_FR (S' 1100020) (S' 52) (S' 1100021) (S' 1100022) (3000 - (S' 1084 0)) (S' 1085 0) ∧ sm_PV (S' 1100020) (S' 48) (S' 49) (S' 50) (S' 44) (S' 1076 0) (S' 1007 0) ∧ sm_AL (S' 1100020) (S' 48) (S' 49) (S' 50) (S' 44) (S' 1076 0) (S' 1100032 0) ∧ sm_SV (S' 1100020) (S' 48) (S' 1100029) (S' 32) (S' 33) (S' 1076 0) (S' 1032 0) ∧ 0 ≤ (S' 1076 0) ∧ (S' 1076 0) ≤ 300 ∧ 0 ≤ (S' 1084 0) ∧ (S' 1084 0) ≤ 3000 ∧ 0 ≤ (S' 1086 0))
theorem la_remove_0 {x0 x1 x2 x3 : Int} (h0 : x0 ≤ 300) (h1 : 0 ≤ x1) (h2 : x1 ≤ 3000) (h3 : 0 ≤ x2) (h4 : 0 ≤ x3) (h5 : x3 < x0) : 0 ≤ x0 ∧ x0 ≤ 300 ∧ 0 ≤ x1 ∧ x1 ≤ 3000 ∧ 0 ≤ x2 ∧ 0 ≤ x3 ∧ x3 < x0 := by omega
theorem la_remove_1 {x0 : Int} (h0 : 0 ≤ x0) : (-1) ≤ x0 := by omega
theorem la_remove_2 {x0 : Int} (h0 : (-1) ≤ x0) (h1 : ¬ x0 = (-1)) : (-1) < x0 := by omega
theorem la_remove_3 {x0 x1 : Int} (h0 : 0 ≤ x0) (h1 : x1 = x0) : 0 ≤ x1 := by omega
theorem la_remove_4 {x0 x1 : Int} (h0 : x0 ≤ 300) (h1 : 0 ≤ x1) (h2 : x1 < x0) : 0 ≤ x1 ∧ x1 < 300 := by omega
theorem la_remove_5 {x0 x1 : Int} (h0 : x0 = x1) : x1 = x0 := by omega
theorem la_remove_6 {x0 x1 x2 : Int} (h0 : 0 ≤ x0) (h1 : x1 = x0) : ¬ (x1 = (-1) ∧ x2 = (-1)) := by omega
theorem la_remove_7 {x0 x1 x2 : Int} (h0 : x0 ≤ x1) (h1 : x2 = x0) : x2 ≤ x1 := by omega
theorem la_remove_8 {x0 x1 x2 x3 : Int} : ((-1) : Int) = (-1) ∧ x0 = x0 ∨ (0 : Int) ≤ (-1) ∧ ((-1) : Int) < 3000 ∧ x1 = x2 ∧ x3 = x0 := by omega
theorem la_remove_9 {x0 x1 x2 : Int} (h0 : x0 ≤ x1) (h1 : x2 = x1 - x0) : 0 ≤ x2 := by omega
theorem la_remove_10 {x0 : Int} (h0 : x0 < 3000) (h1 : (-1) < x0) : 0 ≤ x0 ∧ x0 < 3000 := by omega
theorem la_remove_11 {x0 : Int} (h0 : 0 ≤ x0) (h1 : x0 < 3000) : 0 ≤ x0 ∧ x0 < 3000 := by omega
theorem la_remove_12 {x0 : Int} (h0 : x0 ≤ 3000) (h1 : 1 ≤ x0) : sv_R (x0 - 1) := by omega
theorem la_remove_13 {x0 : Int} (h0 : x0 ≤ 3000) (h1 : 1 ≤ x0) : sv_R (3000 - (x0 - 1) - 1) := by omega
theorem la_remove_14 {x0 x1 x2 : Int} (h0 : x0 < x1) (h1 : x2 = x0) : x2 < x1 := by omega
theorem la_remove_15 {x0 x1 x2 : Int} (h0 : x0 = x1) (h1 : x2 = x1) : x0 = x2 := by omega
theorem la_remove_16 {x0 x1 x2 x3 x4 : Int} (h0 : x0 = x1) (h1 : 0 ≤ x2) (h2 : x2 < 3000) (h3 : x3 = x0) : 0 ≤ x2 ∧ x2 < 3000 ∧ x4 = x4 ∧ x3 = x1 := by omega
theorem la_remove_17 {x0 x1 x2 x3 x4 x5 x6 : Int} (h0 : x0 = x1) (h1 : x2 = x3) (h2 : 0 ≤ x4) (h3 : x4 < 3000) (h4 : x5 = x1) (h5 : x6 = x2) : 0 ≤ x4 ∧ x4 < 3000 ∧ x5 = x0 ∧ x6 = x3 := by omega
theorem la_remove_18 {x0 x1 x2 x3 x4 x5 : Int} (h0 : x0 = x1) (h1 : 0 ≤ x2) (h2 : x2 < 3000) (h3 : x3 = x4) (h4 : x5 = x0) : 0 ≤ x2 ∧ x2 < 3000 ∧ x3 = x4 ∧ x5 = x1 := by omega
theorem la_remove_19 {x0 : Int} (h0 : 1 ≤ x0) : 3000 - x0 < 3000 := by omega
theorem la_remove_20 {x0 : Int} : 3000 - (x0 - 1) = 3000 - x0 + 1 := by omega
theorem la_remove_21 {x0 : Int} : 3000 - (x0 - 1) - 1 = 3000 - x0 := by omega
theorem la_remove_22 {x0 x1 x2 : Int} (h0 : ¬ (x0 = 2 ∧ x1 = 0)) (h1 : x2 = x1) : ¬ (x0 = 2 ∧ x2 = 0) := by omega
theorem la_remove_23 {x0 : Int} (h0 : 1 ≤ x0) : 0 ≤ x0 - 1 := by omega
theorem la_remove_24 {x0 : Int} (h0 : x0 ≤ 3000) : x0 - 1 ≤ 3000 := by omega
theorem la_remove_25 {x0 x1 x2 : Int} (h0 : (-1) < x0) (h1 : ¬ ¬ x1 = x0) : ¬ (x2 = (-1) ∧ x1 = (-1)) := by omega
theorem la_remove_26 {x0 x1 x2 x3 x4 x5 x6 : Int} (h0 : x0 = x1) (h1 : 0 ≤ x2) (h2 : x2 < 3000) (h3 : x3 = x4) (h4 : x5 = x0) (h5 : x6 = x4) : 0 ≤ x2 ∧ x2 < 3000 ∧ x3 = x6 ∧ x5 = x1 := by omega
theorem la_remove_27 {x0 x1 : Int} (h0 : ¬ ¬ x0 = x1) : x0 = x1 := by omega
theorem la_remove_28 {x0 x1 x2 x3 x4 : Int} (h0 : ¬ ¬ x0 = (-1)) : ¬ (0 ≤ x0 ∧ x0 < 3000 ∧ x1 = x2 ∧ x3 = x4) := by omega
theorem la_remove_29 {x0 x1 x2 : Int} (h0 : 0 ≤ x0) (h1 : x0 = x1) : ¬ (x1 = (-1) ∧ x2 = (-1)) := by omega
theorem la_remove_30 {x0 x1 x2 : Int} (h0 : x0 = x1) (h1 : x0 = x2) : x2 = x1 := by omega
theorem la_remove_31 {x0 x1 x2 x3 x4 x5 x6 x7 : Int} (h0 : 0 ≤ x0) (h1 : x0 < 3000) (h2 : x1 = x2) (h3 : 0 ≤ x3) (h4 : x3 < 3000) (h5 : x4 = x2) (h6 : x5 ≤ x6) : 0 ≤ x3 ∧ x3 < 3000 ∧ x4 = x2 ∧ x5 ≤ x6 ∧ (x0 = (-1) ∧ x3 = x7 ∨ 0 ≤ x0 ∧ x0 < 3000 ∧ x1 = x2 ∧ x3 = x3) := by omega
theorem la_remove_32 {x0 x1 x2 x3 x4 : Int} (h0 : x0 < x1) (h1 : x2 = x3 - x1) (h2 : x4 = x3 - x0) : x2 < x4 := by omega
set_option maxHeartbeats 2000000 in
theorem f_remove : ∀ (p1 : Int) (p2 : Int) (S : sv_S), sm_ok S → sv_R p1 → sv_R p2 → (sm_PL (S 1100020) (S 51) (S 52) (S 46) (S 47) (S 1076 0) (S 1086 0) ∧ sm_FR (S 1100020) (S 52) (S 1100021) (S 1100022) (3000 - (S 1084 0)) (S 1085 0) ∧ sm_PV (S 1100020) (S 48) (S 49) (S 50) (S 44) (S 1076 0) (S 1007 0) ∧ sm_AL (S 1100020) (S 48) (S 49) (S 50) (S 44) (S 1076 0) (S 1100032 0) ∧ sm_SV (S 1100020) (S 48) (S 1100029) (S 32) (S 33) (S 1076 0) (S 1032 0) ∧ 0 ≤ (S 1076 0) ∧ (S 1076 0) ≤ 300 ∧ 0 ≤ (S 1084 0) ∧ (S 1084 0) ≤ 3000 ∧ 0 ≤ (S 1086 0) ∧ 0 ≤ p1 ∧ p1 < (S 1076 0) ∧ ¬ ((S 44 p1) = 2 ∧ p2 = 0) ∧ (S 1100029 p1) < 1) → (sm_PL (S 1100020) (S 51) (S 52) (S 46) (S 47) (S 1076 0) (S 1086 0) ∧ 0 ≤ (S 1076 0) ∧ (S 1076 0) ≤ 300 ∧ 0 ≤ (S 1084 0) ∧ (S 1084 0) ≤ 3000 ∧ 0 ≤ (S 1086 0) ∧ 0 ≤ p1 ∧ p1 < (S 1076 0)) ∧ (∀ r6 : Int, sv_R r6 → ((r6 = -1 ∨ (0 ≤ r6 ∧ r6 < 3000 ∧ (S 1100020 r6) = p1 ∧ (S 48 r6) = p2)) ∧ (r6 = -1 → sm_NB (S 1100020) (S 51) (S 48) (p1) (p2) (-1))) → (((¬ r6 = (-1 : Int)) → ((sm_FR (S 1100020) (S 52) (S 1100021) (S 1100022) (3000 - (S 1084 0)) (S 1085 0) → 0 ≤ r6 → r6 < 3000 → 0 ≤ (S 1100020 r6) → 1 ≤ (S 1084 0)) → ((sm_PL (S 1100020) (S 51) (S 52) (S 46) (S 47) (S 1076 0) (S 1086 0) → 0 ≤ r6 → r6 < 3000 → 0 ≤ (S 1100020 r6) → 0 < (S 51 r6) ∧ (S 51 r6) ≤ (S 1086 0) ∧ 0 ≤ (S 46 (S 1100020 r6)) ∧ (S 51 (S 46 (S 1100020 r6))) ≤ (S 51 r6)) → ((sm_PL (S 1100020) (S 51) (S 52) (S 46) (S 47) (S 1076 0) (S 1086 0) → 0 ≤ p1 → p1 < (S 1076 0) → ((S 46 p1) = -1 ∧ (S 47 p1) = -1) ∨ (0 ≤ (S 46 p1) ∧ (S 46 p1) < 3000 ∧ (S 1100020 (S 46 p1)) = p1 ∧ 0 ≤ (S 47 p1) ∧ (S 47 p1) < 3000 ∧ (S 1100020 (S 47 p1)) = p1 ∧ (S 52 (S 47 p1)) = -1)) → (0 ≤ p1 ∧ p1 < 300) ∧ (sv_R (S 46 p1) → ((0 ≤ (S 46 p1) ∧ (S 46 p1) < 3000 ∧ (S 1100020 (S 46 p1)) = p1 ∧ (S 51 (S 46 p1)) ≤ (S 51 r6) ∧ (((-1 : Int) = -1 ∧ (S 46 p1) = (S 46 p1)) ∨ (0 ≤ (-1 : Int) ∧ (-1 : Int) < 3000 ∧ (S 1100020 (-1 : Int)) = p1 ∧ (S 52 (-1 : Int)) = (S 46 p1)))) ∧ (∀ l4_12 : Int, sv_R l4_12 → ∀ l5_13 : Int, sv_R l5_13 → (0 ≤ l5_13 ∧ l5_13 < 3000 ∧ (S 1100020 l5_13) = p1 ∧ (S 51 l5_13) ≤ (S 51 r6) ∧ ((l4_12 = -1 ∧ l5_13 = (S 46 p1)) ∨ (0 ≤ l4_12 ∧ l4_12 < 3000 ∧ (S 1100020 l4_12) = p1 ∧ (S 52 l4_12) = l5_13))) → (0 ≤ (if (S 51 l5_13) ≤ (S 51 r6) then (S 51 r6) - (S 51 l5_13) else 0)) ∧ (((l5_13 = r6) → (((¬ l4_12 = (-1 : Int)) → (0 ≤ r6 ∧ r6 < 3000) ∧ (sv_R (S 52 r6) → (0 ≤ l4_12 ∧ l4_12 < 3000) ∧ (sv_R (S 47 p1) → (((¬ (S 47 p1) = r6) → (sv_R (S 1085 0) → (sv_R (S 1084 0) → (sv_R ((S 1084 0) - (1 : Int))) ∧ (sv_R (r6)) ∧ (sv_R ((3000 - ((S 1084 0) - (1 : Int)) - 1))) ∧ (sm_PL (fun i' : Int => if i' = r6 then (-1 : Int) else (S 1100020) i') (S 51) (fun i' : Int => if i' = r6 then (S 1085 0) else (fun i' : Int => if i' = l4_12 then (S 52 r6) else (S 52) i') i') (S 46) (S 47) (S 1076 0) (S 1086 0) ∧ sm_FR (fun i' : Int => if i' = r6 then (-1 : Int) else (S 1100020) i') (fun i' : Int => if i' = r6 then (S 1085 0) else (fun i' : Int => if i' = l4_12 then (S 52 r6) else (S 52) i') i') (fun i' : Int => if i' = (3000 - ((S 1084 0) - (1 : Int)) - 1) then (r6) else (S 1100021) i') (fun i' : Int => if i' = r6 then ((3000 - ((S 1084 0) - (1 : Int)) - 1)) else (S 1100022) i') (3000 - ((S 1084 0) - (1 : Int))) r6 ∧ sm_PV (fun i' : Int => if i' = r6 then (-1 : Int) else (S 1100020) i') (S 48) (S 49) (S 50) (S 44) (S 1076 0) (S 1007 0) ∧ sm_AL (fun i' : Int => if i' = r6 then (-1 : Int) else (S 1100020) i') (S 48) (S 49) (S 50) (S 44) (S 1076 0) (S 1100032 0) ∧ sm_SV (fun i' : Int => if i' = r6 then (-1 : Int) else (S 1100020) i') (S 48) (S 1100029) (S 32) (S 33) (S 1076 0) (S 1032 0) ∧ 0 ≤ (S 1076 0) ∧ (S 1076 0) ≤ 300 ∧ 0 ≤ ((S 1084 0) - (1 : Int)) ∧ ((S 1084 0) - (1 : Int)) ≤ 3000 ∧ 0 ≤ (S 1086 0))))) ∧ ((¬ (¬ (S 47 p1) = r6)) → (sv_R (S 1085 0) → (sv_R (S 1084 0) → (sv_R ((S 1084 0) - (1 : Int))) ∧ (sv_R (r6)) ∧ (sv_R ((3000 - ((S 1084 0) - (1 : Int)) - 1))) ∧ (sm_PL (fun i' : Int => if i' = r6 then (-1 : Int) else (S 1100020) i') (S 51) (fun i' : Int => if i' = r6 then (S 1085 0) else (fun i' : Int => if i' = l4_12 then (S 52 r6) else (S 52) i') i') (S 46) (fun i' : Int => if i' = p1 then l4_12 else (S 47) i') (S 1076 0) (S 1086 0) ∧ sm_FR (fun i' : Int => if i' = r6 then (-1 : Int) else (S 1100020) i') (fun i' : Int => if i' = r6 then (S 1085 0) else (fun i' : Int => if i' = l4_12 then (S 52 r6) else (S 52) i') i') (fun i' : Int => if i' = (3000 - ((S 1084 0) - (1 : Int)) - 1) then (r6) else (S 1100021) i') (fun i' : Int => if i' = r6 then ((3000 - ((S 1084 0) - (1 : Int)) - 1)) else (S 1100022) i') (3000 - ((S 1084 0) - (1 : Int))) r6 ∧ sm_PV (fun i' : Int => if i' = r6 then (-1 : Int) else (S 1100020) i') (S 48) (S 49) (S 50) (S 44) (S 1076 0) (S 1007 0) ∧ sm_AL (fun i' : Int => if i' = r6 then (-1 : Int) else (S 1100020) i') (S 48) (S 49) (S 50) (S 44) (S 1076 0) (S 1100032 0) ∧ sm_SV (fun i' : Int => if i' = r6 then (-1 : Int) else (S 1100020) i') (S 48) (S 1100029) (S 32) (S 33) (S 1076 0) (S 1032 0) ∧ 0 ≤ (S 1076 0) ∧ (S 1076 0) ≤ 300 ∧ 0 ≤ ((S 1084 0) - (1 : Int)) ∧ ((S 1084 0) - (1 : Int)) ≤ 3000 ∧ 0 ≤ (S 1086 0))))))))) ∧ ((¬ (¬ l4_12 = (-1 : Int))) → (0 ≤ r6 ∧ r6 < 3000) ∧ (sv_R (S 52 r6) → (sv_R (S 47 p1) → (((¬ (S 47 p1) = r6) → (sv_R (S 1085 0) → (sv_R (S 1084 0) → (sv_R ((S 1084 0) - (1 : Int))) ∧ (sv_R (r6)) ∧ (sv_R ((3000 - ((S 1084 0) - (1 : Int)) - 1))) ∧ (sm_PL (fun i' : Int => if i' = r6 then (-1 : Int) else (S 1100020) i') (S 51) (fun i' : Int => if i' = r6 then (S 1085 0) else (S 52) i') (fun i' : Int => if i' = p1 then (S 52 r6) else (S 46) i') (S 47) (S 1076 0) (S 1086 0) ∧ sm_FR (fun i' : Int => if i' = r6 then (-1 : Int) else (S 1100020) i') (fun i' : Int => if i' = r6 then (S 1085 0) else (S 52) i') (fun i' : Int => if i' = (3000 - ((S 1084 0) - (1 : Int)) - 1) then (r6) else (S 1100021) i') (fun i' : Int => if i' = r6 then ((3000 - ((S 1084 0) - (1 : Int)) - 1)) else (S 1100022) i') (3000 - ((S 1084 0) - (1 : Int))) r6 ∧ sm_PV (fun i' : Int => if i' = r6 then (-1 : Int) else (S 1100020) i') (S 48) (S 49) (S 50) (S 44) (S 1076 0) (S 1007 0) ∧ sm_AL (fun i' : Int => if i' = r6 then (-1 : Int) else (S 1100020) i') (S 48) (S 49) (S 50) (S 44) (S 1076 0) (S 1100032 0) ∧ sm_SV (fun i' : Int => if i' = r6 then (-1 : Int) else (S 1100020) i') (S 48) (S 1100029) (S 32) (S 33) (S 1076 0) (S 1032 0) ∧ 0 ≤ (S 1076 0) ∧ (S 1076 0) ≤ 300 ∧ 0 ≤ ((S 1084 0) - (1 : Int)) ∧ ((S 1084 0) - (1 : Int)) ≤ 3000 ∧ 0 ≤ (S 1086 0))))) ∧ ((¬ (¬ (S 47 p1) = r6)) → (sv_R (S 1085 0) → (sv_R (S 1084 0) → (sv_R ((S 1084 0) - (1 : Int))) ∧ (sv_R (r6)) ∧ (sv_R ((3000 - ((S 1084 0) - (1 : Int)) - 1))) ∧ (sm_PL (fun i' : Int => if i' = r6 then (-1 : Int) else (S 1100020) i') (S 51) (fun i' : Int => if i' = r6 then (S 1085 0) else (S 52) i') (fun i' : Int => if i' = p1 then (S 52 r6) else (S 46) i') (fun i' : Int => if i' = p1 then l4_12 else (S 47) i') (S 1076 0) (S 1086 0) ∧ sm_FR (fun i' : Int => if i' = r6 then (-1 : Int) else (S 1100020) i') (fun i' : Int => if i' = r6 then (S 1085 0) else (S 52) i') (fun i' : Int => if i' = (3000 - ((S 1084 0) - (1 : Int)) - 1) then (r6) else (S 1100021) i') (fun i' : Int => if i' = r6 then ((3000 - ((S 1084 0) - (1 : Int)) - 1)) else (S 1100022) i') (3000 - ((S 1084 0) - (1 : Int))) r6 ∧ sm_PV (fun i' : Int => if i' = r6 then (-1 : Int) else (S 1100020) i') (S 48) (S 49) (S 50) (S 44) (S 1076 0) (S 1007 0) ∧ sm_AL (fun i' : Int => if i' = r6 then (-1 : Int) else (S 1100020) i') (S 48) (S 49) (S 50) (S 44) (S 1076 0) (S 1100032 0) ∧ sm_SV (fun i' : Int => if i' = r6 then (-1 : Int) else (S 1100020) i') (S 48) (S 1100029) (S 32) (S 33) (S 1076 0) (S 1032 0) ∧ 0 ≤ (S 1076 0) ∧ (S 1076 0) ≤ 300 ∧ 0 ≤ ((S 1084 0) - (1 : Int)) ∧ ((S 1084 0) - (1 : Int)) ≤ 3000 ∧ 0 ≤ (S 1086 0))))))))))) ∧ ((¬ (l5_13 = r6)) → ((sm_PL (S 1100020) (S 51) (S 52) (S 46) (S 47) (S 1076 0) (S 1086 0) → 0 ≤ l5_13 → l5_13 < 3000 → (S 1100020 l5_13) = p1 → 0 ≤ r6 → r6 < 3000 → (S 1100020 r6) = p1 → 0 ≤ p1 → (S 51 l5_13) ≤ (S 51 r6) → ¬ l5_13 = r6 → 0 ≤ (S 52 l5_13) ∧ (S 52 l5_13) < 3000 ∧ (S 1100020 (S 52 l5_13)) = p1 ∧ (S 51 l5_13) < (S 51 (S 52 l5_13)) ∧ (S 51 (S 52 l5_13)) ≤ (S 51 r6)) → (0 ≤ l5_13 ∧ l5_13 < 3000) ∧ (sv_R (S 52 l5_13) → ((0 ≤ (S 52 l5_13) ∧ (S 52 l5_13) < 3000 ∧ (S 1100020 (S 52 l5_13)) = p1 ∧ (S 51 (S 52 l5_13)) ≤ (S 51 r6) ∧ ((l5_13 = -1 ∧ (S 52 l5_13) = (S 46 p1)) ∨ (0 ≤ l5_13 ∧ l5_13 < 3000 ∧ (S 1100020 l5_13) = p1 ∧ (S 52 l5_13) = (S 52 l5_13)))) ∧ ((if (S 51 (S 52 l5_13)) ≤ (S 51 r6) then (S 51 r6) - (S 51 (S 52 l5_13)) else 0)) < ((if (S 51 l5_13) ≤ (S 51 r6) then (S 51 r6) - (S 51 l5_13) else 0)))))))))))))) ∧ ((¬ (¬ r6 = (-1 : Int))) → (sm_PL (S 1100020) (S 51) (S 52) (S 46) (S 47) (S 1076 0) (S 1086 0) ∧ sm_FR (S 1100020) (S 52) (S 1100021) (S 1100022) (3000 - (S 1084 0)) (S 1085 0) ∧ sm_PV (S 1100020) (S 48) (S 49) (S 50) (S 44) (S 1076 0) (S 1007 0) ∧ sm_AL (S 1100020) (S 48) (S 49) (S 50) (S 44) (S 1076 0) (S 1100032 0) ∧ sm_SV (S 1100020) (S 48) (S 1100029) (S 32) (S 33) (S 1076 0) (S 1032 0) ∧ 0 ≤ (S 1076 0) ∧ (S 1076 0) ≤ 300 ∧ 0 ≤ (S 1084 0) ∧ (S 1084 0) ≤ 3000 ∧ 0 ≤ (S 1086 0))))) := by
  intro p1
  intro p2
  intro S
  intro h1_
  intro h2_
  intro h3_
  rintro ⟨h4_, ⟨h5_, ⟨h6_, ⟨h7_, ⟨h8_, ⟨h9_, ⟨h10_, ⟨h11_, ⟨h12_, ⟨h13_, ⟨h14_, ⟨h15_, ⟨h16_, h17_⟩⟩⟩⟩⟩⟩⟩⟩⟩⟩⟩⟩⟩
  refine ⟨⟨h4_, (la_remove_0 h10_ h11_ h12_ h13_ h14_ h15_)⟩, ?_⟩
  intro r6
  intro h18_
  rintro ⟨h19_, h20_⟩
  refine ⟨?_, ?_⟩
  · skip
    intro h21_
    obtain ⟨h22_, ⟨h23_, ⟨h24_, h25_⟩⟩⟩ := (h19_.resolve_left h21_)
    intro h26_
    have h27_ := (h26_ h5_)
    have h28_ := (h27_ h22_)
    have h29_ := (h28_ h23_)
    have h30_ := (h29_ (la_remove_3 h14_ h24_))
    intro h31_
    have h32_ := (h31_ h4_)
    have h33_ := (h32_ h22_)
    have h34_ := (h33_ h23_)
    obtain ⟨h35_, ⟨h36_, ⟨h37_, h38_⟩⟩⟩ := (h34_ (la_remove_3 h14_ h24_))
    intro h39_
    have h40_ := (h39_ h4_)
    have h41_ := (h40_ h14_)
    have h42_ := (h41_ h15_)
    refine ⟨(la_remove_4 h10_ h14_ h15_), ?_⟩
    intro h43_
    refine ⟨?_, ?_⟩
    · skip
      refine ⟨?_, ?_⟩
      · skip
        have e44_ : S 46 p1 = S 46 (S 1100020 r6) := congrArg ((S 46)) (la_remove_5 h24_)
        obtain ⟨h45_, ⟨h46_, ⟨h47_, ⟨h48_, ⟨h49_, ⟨h50_, h51_⟩⟩⟩⟩⟩⟩ := (h42_.resolve_left (la_remove_6 h37_ e44_))
        exact h45_
      refine ⟨?_, ?_⟩
      · skip
        have e52_ : S 46 p1 = S 46 (S 1100020 r6) := congrArg ((S 46)) (la_remove_5 h24_)
        obtain ⟨h53_, ⟨h54_, ⟨h55_, ⟨h56_, ⟨h57_, ⟨h58_, h59_⟩⟩⟩⟩⟩⟩ := (h42_.resolve_left (la_remove_6 h37_ e52_))
        exact h54_
      refine ⟨?_, ?_⟩
      · skip
        have e60_ : S 46 p1 = S 46 (S 1100020 r6) := congrArg ((S 46)) (la_remove_5 h24_)
        obtain ⟨h61_, ⟨h62_, ⟨h63_, ⟨h64_, ⟨h65_, ⟨h66_, h67_⟩⟩⟩⟩⟩⟩ := (h42_.resolve_left (la_remove_6 h37_ e60_))
        exact h63_
      refine ⟨?_, ?_⟩
      · skip
        have e68_ : S 46 p1 = S 46 (S 1100020 r6) := congrArg ((S 46)) (la_remove_5 h24_)
        have e69_ : S 51 (S 46 p1) = S 51 (S 46 (S 1100020 r6)) := congrArg ((S 51)) e68_
        obtain ⟨h70_, ⟨h71_, ⟨h72_, ⟨h73_, ⟨h74_, ⟨h75_, h76_⟩⟩⟩⟩⟩⟩ := (h42_.resolve_left (la_remove_6 h37_ e68_))
        exact (la_remove_7 h38_ e69_)
      exact la_remove_8
    intro l4_12
    intro h77_
    intro l5_13
    intro h78_
    rintro ⟨h79_, ⟨h80_, ⟨h81_, ⟨h82_, h83_⟩⟩⟩⟩
    refine ⟨?_, ?_⟩
    · skip
      have e84_ : (if S 51 l5_13 ≤ S 51 r6 then S 51 r6 - S 51 l5_13 else 0 : Int) = S 51 r6 - S 51 l5_13 := if_pos h82_
      have e85_ : S 46 p1 = S 46 (S 1100020 r6) := congrArg ((S 46)) (la_remove_5 h24_)
      obtain ⟨h86_, ⟨h87_, ⟨h88_, ⟨h89_, ⟨h90_, ⟨h91_, h92_⟩⟩⟩⟩⟩⟩ := (h42_.resolve_left (la_remove_6 h37_ e85_))
      exact (la_remove_9 h82_ e84_)
    refine ⟨?_, ?_⟩
    · skip
      intro h93_
      refine ⟨?_, ?_⟩
      · skip
        intro h94_
        obtain ⟨h95_, ⟨h96_, ⟨h97_, h98_⟩⟩⟩ := (h83_.resolve_left (fun q_ => h94_ q_.1))
        refine ⟨(la_remove_10 h23_ (la_remove_2 (la_remove_1 h22_) h21_)), ?_⟩
        intro h99_
        refine ⟨(la_remove_11 h95_ h96_), ?_⟩
        intro h100_
        refine ⟨?_, ?_⟩
        · skip
          intro h101_
          intro h102_
          intro h103_
          refine ⟨(la_remove_12 h12_ h30_), ?_⟩
          refine ⟨h18_, ?_⟩
          refine ⟨(la_remove_13 h12_ h30_), ?_⟩
          refine ⟨(sm_PL_rem10 h4_ h14_ h15_ (la_remove_11 h22_ h23_) h24_ (la_remove_18 h93_ h95_ h96_ h97_ h98_) h101_ ⟨rfl, rfl, rfl⟩), ?_⟩
          refine ⟨(sm_FR_push1 h5_ (la_remove_19 h30_) (la_remove_11 h22_ h23_) (la_remove_3 h14_ h24_) la_remove_20 ⟨rfl, rfl, rfl, la_remove_21, la_remove_21, rfl⟩ (la_remove_3 h14_ h97_)), ?_⟩
          refine ⟨(sm_PV_rem h6_), ?_⟩
          refine ⟨(sm_AL_rem h7_ h24_ (la_remove_22 h16_ h25_)), ?_⟩
          refine ⟨(sm_SV_rem h8_ h24_ h17_), ?_⟩
          refine ⟨h9_, ?_⟩
          refine ⟨h10_, ?_⟩
          refine ⟨(la_remove_23 h30_), ?_⟩
          refine ⟨(la_remove_24 h12_), ?_⟩
          exact h13_
        intro h104_
        obtain ⟨h105_, ⟨h106_, ⟨h107_, ⟨h108_, ⟨h109_, ⟨h110_, h111_⟩⟩⟩⟩⟩⟩ := (h42_.resolve_left (la_remove_25 (la_remove_2 (la_remove_1 h22_) h21_) h104_))
        intro h112_
        intro h113_
        refine ⟨(la_remove_12 h12_ h30_), ?_⟩
        refine ⟨h18_, ?_⟩
        refine ⟨(la_remove_13 h12_ h30_), ?_⟩
        refine ⟨(sm_PL_rem11 h4_ h14_ h15_ (la_remove_11 h22_ h23_) h24_ (la_remove_18 h93_ h95_ h96_ h97_ h98_) (la_remove_27 h104_) ⟨rfl, rfl, rfl, rfl, rfl⟩), ?_⟩
        refine ⟨(sm_FR_push1 h5_ (la_remove_19 h30_) (la_remove_11 h22_ h23_) (la_remove_3 h14_ h24_) la_remove_20 ⟨rfl, rfl, rfl, la_remove_21, la_remove_21, rfl⟩ (la_remove_3 h14_ h97_)), ?_⟩
        refine ⟨(sm_PV_rem h6_), ?_⟩
        refine ⟨(sm_AL_rem h7_ h24_ (la_remove_22 h16_ h25_)), ?_⟩
        refine ⟨(sm_SV_rem h8_ h24_ h17_), ?_⟩
        refine ⟨h9_, ?_⟩
        refine ⟨h10_, ?_⟩
        refine ⟨(la_remove_23 h30_), ?_⟩
        refine ⟨(la_remove_24 h12_), ?_⟩
        exact h13_
      intro h114_
      obtain ⟨h115_, h116_⟩ := (h83_.resolve_right (la_remove_28 h114_))
      obtain ⟨h117_, ⟨h118_, ⟨h119_, ⟨h120_, ⟨h121_, ⟨h122_, h123_⟩⟩⟩⟩⟩⟩ := (h42_.resolve_left (la_remove_29 h79_ h116_))
      refine ⟨(la_remove_11 h22_ h23_), ?_⟩
      intro h124_
      intro h125_
      refine ⟨?_, ?_⟩
      · skip
        intro h126_
        intro h127_
        intro h128_
        refine ⟨(la_remove_12 h12_ h30_), ?_⟩
        refine ⟨h18_, ?_⟩
        refine ⟨(la_remove_13 h12_ h30_), ?_⟩
        refine ⟨(sm_PL_rem00 h4_ h14_ h15_ (la_remove_10 h23_ (la_remove_2 (la_remove_1 h22_) h21_)) h24_ (la_remove_30 h93_ h116_) h126_ ⟨rfl, rfl, rfl⟩), ?_⟩
        refine ⟨(sm_FR_push0 h5_ (la_remove_19 h30_) (la_remove_10 h23_ (la_remove_2 (la_remove_1 h22_) h21_)) (la_remove_3 h14_ h24_) la_remove_20 ⟨rfl, rfl, rfl, la_remove_21, la_remove_21, rfl⟩), ?_⟩
        refine ⟨(sm_PV_rem h6_), ?_⟩
        refine ⟨(sm_AL_rem h7_ h24_ (la_remove_22 h16_ h25_)), ?_⟩
        refine ⟨(sm_SV_rem h8_ h24_ h17_), ?_⟩
        refine ⟨h9_, ?_⟩
        refine ⟨h10_, ?_⟩
        refine ⟨(la_remove_23 h30_), ?_⟩
        refine ⟨(la_remove_24 h12_), ?_⟩
        exact h13_
      intro h129_
      intro h130_
      intro h131_
      refine ⟨(la_remove_12 h12_ h30_), ?_⟩
      refine ⟨h18_, ?_⟩
      refine ⟨(la_remove_13 h12_ h30_), ?_⟩
      refine ⟨(sm_PL_rem01 h4_ h14_ h15_ (la_remove_11 h22_ h23_) h24_ (la_remove_30 h93_ h116_) (la_remove_27 h129_) ⟨rfl, rfl, rfl, rfl, h115_⟩), ?_⟩
      refine ⟨(sm_FR_push0 h5_ (la_remove_19 h30_) (la_remove_11 h22_ h23_) (la_remove_3 h14_ h24_) la_remove_20 ⟨rfl, rfl, rfl, la_remove_21, la_remove_21, rfl⟩), ?_⟩
      refine ⟨(sm_PV_rem h6_), ?_⟩
      refine ⟨(sm_AL_rem h7_ h24_ (la_remove_22 h16_ h25_)), ?_⟩
      refine ⟨(sm_SV_rem h8_ h24_ h17_), ?_⟩
      refine ⟨h9_, ?_⟩
      refine ⟨h10_, ?_⟩
      refine ⟨(la_remove_23 h30_), ?_⟩
      refine ⟨(la_remove_24 h12_), ?_⟩
      exact h13_
    intro h132_
    intro h133_
    have h134_ := (h133_ h4_)
    have h135_ := (h134_ h79_)
    have h136_ := (h135_ h80_)
    have h137_ := (h136_ h81_)
    have h138_ := (h137_ h22_)
    have h139_ := (h138_ h23_)
    have h140_ := (h139_ h24_)
    have h141_ := (h140_ h14_)
    have h142_ := (h141_ h82_)
    obtain ⟨h143_, ⟨h144_, ⟨h145_, ⟨h146_, h147_⟩⟩⟩⟩ := (h142_ h132_)
    refine ⟨(la_remove_11 h79_ h80_), ?_⟩
    intro h148_
    refine ⟨(la_remove_31 h79_ h80_ h81_ h143_ h144_ h145_ h147_), ?_⟩
    have e149_ : (if S 51 (S 52 l5_13) ≤ S 51 r6 then S 51 r6 - S 51 (S 52 l5_13) else 0 : Int) = S 51 r6 - S 51 (S 52 l5_13) := if_pos h147_
    have e150_ : (if S 51 l5_13 ≤ S 51 r6 then S 51 r6 - S 51 l5_13 else 0 : Int) = S 51 r6 - S 51 l5_13 := if_pos h82_
    have e151_ : S 46 p1 = S 46 (S 1100020 r6) := congrArg ((S 46)) (la_remove_5 h24_)
    obtain ⟨h152_, ⟨h153_, ⟨h154_, ⟨h155_, ⟨h156_, ⟨h157_, h158_⟩⟩⟩⟩⟩⟩ := (h42_.resolve_left (la_remove_6 h37_ e151_))
    exact (la_remove_32 h146_ e149_ e150_)
  intro h159_
  have h160_ := (h19_.resolve_right (la_remove_28 h159_))
  have h161_ := (h20_ h160_)
  refine ⟨h4_, ?_⟩
  refine ⟨h5_, ?_⟩
  refine ⟨h6_, ?_⟩
  refine ⟨h7_, ?_⟩
  refine ⟨h8_, ?_⟩
  refine ⟨h9_, ?_⟩
  refine ⟨h10_, ?_⟩
  refine ⟨h11_, ?_⟩
  refine ⟨h12_, ?_⟩
  exact h13_
set_option maxRecDepth 8000 in
set_option maxHeartbeats 2000000 in
theorem t_remove : ∀ (p1 : Int) (p2 : Int) (S : sv_S), sm_ok S → sv_R p1 → sv_R p2 → (sm_PL (S 1100020) (S 51) (S 52) (S 46) (S 47) (S 1076 0) (S 1086 0) ∧ sm_FR (S 1100020) (S 52) (S 1100021) (S 1100022) (3000 - (S 1084 0)) (S 1085 0) ∧ sm_PV (S 1100020) (S 48) (S 49) (S 50) (S 44) (S 1076 0) (S 1007 0) ∧ sm_AL (S 1100020) (S 48) (S 49) (S 50) (S 44) (S 1076 0) (S 1100032 0) ∧ sm_SV (S 1100020) (S 48) (S 1100029) (S 32) (S 33) (S 1076 0) (S 1032 0) ∧ 0 ≤ (S 1076 0) ∧ (S 1076 0) ≤ 300 ∧ 0 ≤ (S 1084 0) ∧ (S 1084 0) ≤ 3000 ∧ 0 ≤ (S 1086 0) ∧ 0 ≤ p1 ∧ p1 < (S 1076 0) ∧ ¬ ((S 44 p1) = 2 ∧ p2 = 0) ∧ (S 1100029 p1) < 1) → sv_T sm_XS sm_cs sm_L sm_sh 1 (q_remove p1 p2 S) 142 0 (lv_args 0 [.ref 0, sv_I p1, sv_I p2]) [] S := by
  intro p1 p2 S hok hp1 hp2 hpre
  have h := f_remove p1 p2 S hok hp1 hp2 hpre
  have hM := sm_h142
  show sv_T sm_XS sm_cs sm_L sm_sh 1 (q_remove p1 p2 S) 142 0 [(0, .ref 0), (1, sv_I p1), (2, sv_I p2)] [] S
  refine sv_aload_n hM dX12_remove_0 rfl rfl ?_
  refine sv_iload_n hM dX12_remove_1 rfl rfl ?_
  refine sv_iload_n hM dX12_remove_2 rfl rfl ?_
  obtain ⟨o1, h⟩ := h
  refine sv_callV hM dX12_remove_3 sm_iv_846 (by decide) (sm_a0 _) rfl rfl (Nat.le_of_ble_eq_true rfl) sm_h140 (Nat.le_of_ble_eq_true rfl) (Nat.le_of_ble_eq_true rfl) (F' := 0) (Nat.le_of_ble_eq_true rfl) rfl (t_findProperty p1 p2 S hok hp1 hp2 o1) (fun v S1 hq => ?_)
  obtain ⟨r6, rfl, hr6, ok3, md4, hpo5⟩ := hq
  obtain rfl : S = S1 := (funext fun j => md4 j (by intro q; cases q)).symm
  show sv_T sm_XS sm_cs sm_L sm_sh 1 (q_remove p1 p2 S) 142 6 [(0, .ref 0), (1, sv_I p1), (2, sv_I p2)] [sv_I r6] S
  have h := h r6 hr6 hpo5
  refine sv_istore_n hM dX12_remove_6 (by decide) rfl ?_
  show sv_T sm_XS sm_cs sm_L sm_sh 1 (q_remove p1 p2 S) 142 7 [(0, .ref 0), (1, sv_I p1), (2, sv_I p2), (3, sv_I r6)] [] S
  refine sv_iload_n hM dX12_remove_7 rfl rfl ?_
  refine sv_iconst (d := (-1 : Int)) hM dX12_remove_8 rfl rfl ?_
  refine sv_icmp_ne hM dX12_remove_9 hr6 (⟨by decide, by decide⟩ : sv_R (-1 : Int)) (t := 13) rfl rfl (fun hc => ?_) (fun hc => ?_)
  · have h := h.1 (hc)
    have k7 : (sm_FR (S 1100020) (S 52) (S 1100021) (S 1100022) (3000 - (S 1084 0)) (S 1085 0) → 0 ≤ r6 → r6 < 3000 → 0 ≤ (S 1100020 r6) → 1 ≤ (S 1084 0)) := fun h a b d => by have := sm_FR_c h _ a b d; omega
    have h := h k7
    have k8 : (sm_PL (S 1100020) (S 51) (S 52) (S 46) (S 47) (S 1076 0) (S 1086 0) → 0 ≤ r6 → r6 < 3000 → 0 ≤ (S 1100020 r6) → 0 < (S 51 r6) ∧ (S 51 r6) ≤ (S 1086 0) ∧ 0 ≤ (S 46 (S 1100020 r6)) ∧ (S 51 (S 46 (S 1100020 r6))) ≤ (S 51 r6)) := fun h a b d => by have q := h.2.1 _ a b d; exact ⟨q.1, q.2.1, q.2.2.2.1, q.2.2.2.2.1⟩
    have h := h k8
    have k9 : (sm_PL (S 1100020) (S 51) (S 52) (S 46) (S 47) (S 1076 0) (S 1086 0) → 0 ≤ p1 → p1 < (S 1076 0) → ((S 46 p1) = -1 ∧ (S 47 p1) = -1) ∨ (0 ≤ (S 46 p1) ∧ (S 46 p1) < 3000 ∧ (S 1100020 (S 46 p1)) = p1 ∧ 0 ≤ (S 47 p1) ∧ (S 47 p1) < 3000 ∧ (S 1100020 (S 47 p1)) = p1 ∧ (S 52 (S 47 p1)) = -1)) := fun h a b => h.2.2.1 _ a b
    have h := h k9
    refine sv_iconst (d := (-1 : Int)) hM dX12_remove_13 rfl rfl ?_
    refine sv_istore hM dX12_remove_14 (by decide) rfl ?_
    show sv_T sm_XS sm_cs sm_L sm_sh 1 (q_remove p1 p2 S) 142 16 [(0, .ref 0), (1, sv_I p1), (2, sv_I p2), (3, sv_I r6), (4, sv_I (-1 : Int))] [] S
    refine sv_aload_n hM dX12_remove_16 rfl rfl ?_
    refine sv_getA hM dX12_remove_17 sm_fl_149 (sm_a0 _) sm_k82 rfl ?_
    refine sv_iload_n hM dX12_remove_20 rfl rfl ?_
    obtain ⟨o10, h⟩ := h
    have k11 : sv_R (S 46 p1) := sm_okI ok3 sm_r46 p1
    have h := h k11
    refine sv_iald hM dX12_remove_21 (sm_a46 _) (by decide) o10.1 o10.2 rfl (x := (S 46 p1)) rfl ?_
    refine sv_istore hM dX12_remove_22 (by decide) rfl ?_
    show sv_T sm_XS sm_cs sm_L sm_sh 1 (q_remove p1 p2 S) 142 24 [(0, .ref 0), (1, sv_I p1), (2, sv_I p2), (3, sv_I r6), (4, sv_I (-1 : Int)), (5, sv_I (S 46 p1))] [] S
    obtain ⟨hin15, h⟩ := h
    have hJ : ∀ a : Int × Int × Unit, (sv_R a.1 ∧ sv_R a.2.1 ∧ sm_ok S ∧ (0 ≤ a.2.1 ∧ a.2.1 < 3000 ∧ (S 1100020 a.2.1) = p1 ∧ (S 51 a.2.1) ≤ (S 51 r6) ∧ ((a.1 = -1 ∧ a.2.1 = (S 46 p1)) ∨ (0 ≤ a.1 ∧ a.1 < 3000 ∧ (S 1100020 a.1) = p1 ∧ (S 52 a.1) = a.2.1)))) → sv_T sm_XS sm_cs sm_L sm_sh 1 (q_remove p1 p2 S) 142 24 [(0, .ref 0), (1, sv_I p1), (2, sv_I p2), (3, sv_I r6), (4, sv_I a.1), (5, sv_I a.2.1)] [] S := by
      refine sv_loop (α := Int × Int × Unit) (fun a => sv_R a.1 ∧ sv_R a.2.1 ∧ sm_ok S ∧ (0 ≤ a.2.1 ∧ a.2.1 < 3000 ∧ (S 1100020 a.2.1) = p1 ∧ (S 51 a.2.1) ≤ (S 51 r6) ∧ ((a.1 = -1 ∧ a.2.1 = (S 46 p1)) ∨ (0 ≤ a.1 ∧ a.1 < 3000 ∧ (S 1100020 a.1) = p1 ∧ (S 52 a.1) = a.2.1)))) (fun a => (if (S 51 a.2.1) ≤ (S 51 r6) then (S 51 r6) - (S 51 a.2.1) else 0)) (fun a => sv_T sm_XS sm_cs sm_L sm_sh 1 (q_remove p1 p2 S) 142 24 [(0, .ref 0), (1, sv_I p1), (2, sv_I p2), (3, sv_I r6), (4, sv_I a.1), (5, sv_I a.2.1)] [] S) (fun a q => (h a.1 q.1 a.2.1 q.2.1 q.2.2.2).1) (fun a q ih14 => ?_)
      obtain ⟨l4_12, l5_13, _u⟩ := a
      obtain ⟨hl4_12, hl5_13, ok16, hin15i⟩ := q
      have h := (h l4_12 hl4_12 l5_13 hl5_13 hin15i).2
      show sv_T sm_XS sm_cs sm_L sm_sh 1 (q_remove p1 p2 S) 142 24 [(0, .ref 0), (1, sv_I p1), (2, sv_I p2), (3, sv_I r6), (4, sv_I l4_12), (5, sv_I l5_13)] [] S
      refine sv_iload hM dX12_remove_24 rfl rfl ?_
      refine sv_iload_n hM dX12_remove_26 rfl rfl ?_
      refine sv_icmp_eq hM dX12_remove_27 hl5_13 hr6 (t := 46) rfl rfl (fun hc => ?_) (fun hc => ?_)
      · have h := h.1 (hc)
        refine sv_iload hM dX12_remove_46 rfl rfl ?_
        refine sv_iconst (d := (-1 : Int)) hM dX12_remove_48 rfl rfl ?_
        refine sv_icmp_ne hM dX12_remove_49 hl4_12 (⟨by decide, by decide⟩ : sv_R (-1 : Int)) (t := 67) rfl rfl (fun hc => ?_) (fun hc => ?_)
        · have h := h.1 (hc)
          refine sv_aload_n hM dX12_remove_67 rfl rfl ?_
          refine sv_getA hM dX12_remove_68 sm_fl_167 (sm_a0 _) sm_k91 rfl ?_
          refine sv_iload hM dX12_remove_71 rfl rfl ?_
          refine sv_aload_n hM dX12_remove_73 rfl rfl ?_
          refine sv_getA hM dX12_remove_74 sm_fl_167 (sm_a0 _) sm_k91 rfl ?_
          refine sv_iload_n hM dX12_remove_77 rfl rfl ?_
          obtain ⟨o17, h⟩ := h
          have k18 : sv_R (S 52 r6) := sm_okI ok16 sm_r52 r6
          have h := h k18
          refine sv_iald hM dX12_remove_78 (sm_a52 _) (by decide) o17.1 o17.2 rfl (x := (S 52 r6)) rfl ?_
          obtain ⟨o19, h⟩ := h
          refine sv_iast sm_X hM dX12_remove_79 (sm_a52 _) (by decide) o19.1 o19.2 rfl ?_
          have ok20 : sm_ok (sv_up S 52 l4_12 (S 52 r6)) := sm_upI ok16 sm_r52 k18
          have md21 : sv_mod [46, 47, 52, 1085, 1084, 1100020, 1100021, 1100022] S (sv_up S 52 l4_12 (S 52 r6)) := sv_mod.up sv_mod.rf (by decide)
          refine sv_aload_n hM dX12_remove_80 rfl rfl ?_
          refine sv_getA hM dX12_remove_81 sm_fl_152 (sm_a0 _) sm_k83 rfl ?_
          refine sv_iload_n hM dX12_remove_84 rfl rfl ?_
          have k22 : sv_R (S 47 p1) := sm_okI ok20 sm_r47 p1
          have h := h k22
          refine sv_iald hM dX12_remove_85 (sm_a47 _) (by decide) o10.1 o10.2 rfl (x := (S 47 p1)) rfl ?_
          refine sv_iload_n hM dX12_remove_86 rfl rfl ?_
          refine sv_icmp_ne hM dX12_remove_87 k22 hr6 (t := 98) rfl rfl (fun hc => ?_) (fun hc => ?_)
          · have h := h.1 (hc)
            refine sv_aload_n hM dX12_remove_98 rfl rfl ?_
            refine sv_getA hM dX12_remove_99 sm_fl_167 (sm_a0 _) sm_k91 rfl ?_
            refine sv_iload_n hM dX12_remove_102 rfl rfl ?_
            refine sv_aload_n hM dX12_remove_103 rfl rfl ?_
            have k23 : sv_R (S 1085 0) := sm_okI ok20 sm_r1085 0
            have h := h k23
            refine sv_getI hM dX12_remove_104 sm_fl_852 (sm_a0 _) sm_k85 rfl (x := (S 1085 0)) rfl ?_
            refine sv_iast sm_X hM dX12_remove_107 (sm_a52 _) (by decide) o17.1 o17.2 rfl ?_
            have ok24 : sm_ok (sv_up (sv_up S 52 l4_12 (S 52 r6)) 52 r6 (S 1085 0)) := sm_upI ok20 sm_r52 k23
            have md25 : sv_mod [46, 47, 52, 1085, 1084, 1100020, 1100021, 1100022] S (sv_up (sv_up S 52 l4_12 (S 52 r6)) 52 r6 (S 1085 0)) := sv_mod.up md21 (by decide)
            refine sv_aload_n hM dX12_remove_108 rfl rfl ?_
            refine sv_iload_n hM dX12_remove_109 rfl rfl ?_
            refine sv_putI sm_X hM dX12_remove_110 sm_fp_852 (sm_a0 _) sm_q85 (Or.inl rfl) rfl rfl rfl rfl ?_
            have ok26 : sm_ok (sv_up (sv_up (sv_up S 52 l4_12 (S 52 r6)) 52 r6 (S 1085 0)) 1085 0 r6) := sm_upI ok24 sm_r1085 hr6
            have md27 : sv_mod [46, 47, 52, 1085, 1084, 1100020, 1100021, 1100022] S (sv_up (sv_up (sv_up S 52 l4_12 (S 52 r6)) 52 r6 (S 1085 0)) 1085 0 r6) := sv_mod.up md25 (by decide)
            refine sv_aload_n hM dX12_remove_113 rfl rfl ?_
            refine sv_dupA hM dX12_remove_114 rfl ?_
            have k28 : sv_R (S 1084 0) := sm_okI ok26 sm_r1084 0
            have h := h k28
            refine sv_getI hM dX12_remove_115 sm_fl_849 (sm_a0 _) sm_k84 rfl (x := (S 1084 0)) rfl ?_
            refine sv_iconst (d := (1 : Int)) hM dX12_remove_118 rfl rfl ?_
            refine sv_isub hM dX12_remove_119 rfl ?_
            obtain ⟨o29, h⟩ := h
            refine sv_putI sm_X hM dX12_remove_120 sm_fp_849 (sm_a0 _) sm_q84 (Or.inl rfl) rfl rfl rfl rfl ?_
            have ok30 : sm_ok (sv_up (sv_up (sv_up (sv_up S 52 l4_12 (S 52 r6)) 52 r6 (S 1085 0)) 1085 0 r6) 1084 0 ((S 1084 0) - (1 : Int))) := sm_upI ok26 sm_r1084 o29
            have md31 : sv_mod [46, 47, 52, 1085, 1084, 1100020, 1100021, 1100022] S (sv_up (sv_up (sv_up (sv_up S 52 l4_12 (S 52 r6)) 52 r6 (S 1085 0)) 1085 0 r6) 1084 0 ((S 1084 0) - (1 : Int))) := sv_mod.up md27 (by decide)
            refine sv_ghost sm_X 1100020 r6 (-1 : Int) (by decide) ?_
            have ok32 : sm_ok (sv_up (sv_up (sv_up (sv_up (sv_up S 52 l4_12 (S 52 r6)) 52 r6 (S 1085 0)) 1085 0 r6) 1084 0 ((S 1084 0) - (1 : Int))) 1100020 r6 (-1 : Int)) := sm_upI ok30 sm_r1100020 (⟨by decide, by decide⟩ : sv_R (-1 : Int))
            have md33 : sv_mod [46, 47, 52, 1085, 1084, 1100020, 1100021, 1100022] S (sv_up (sv_up (sv_up (sv_up (sv_up S 52 l4_12 (S 52 r6)) 52 r6 (S 1085 0)) 1085 0 r6) 1084 0 ((S 1084 0) - (1 : Int))) 1100020 r6 (-1 : Int)) := sv_mod.up md31 (by decide)
            obtain ⟨o34, h⟩ := h
            refine sv_ghost sm_X 1100021 (3000 - ((S 1084 0) - (1 : Int)) - 1) (r6) (by decide) ?_
            have ok35 : sm_ok (sv_up (sv_up (sv_up (sv_up (sv_up (sv_up S 52 l4_12 (S 52 r6)) 52 r6 (S 1085 0)) 1085 0 r6) 1084 0 ((S 1084 0) - (1 : Int))) 1100020 r6 (-1 : Int)) 1100021 (3000 - ((S 1084 0) - (1 : Int)) - 1) (r6)) := sm_upI ok32 sm_r1100021 o34
            have md36 : sv_mod [46, 47, 52, 1085, 1084, 1100020, 1100021, 1100022] S (sv_up (sv_up (sv_up (sv_up (sv_up (sv_up S 52 l4_12 (S 52 r6)) 52 r6 (S 1085 0)) 1085 0 r6) 1084 0 ((S 1084 0) - (1 : Int))) 1100020 r6 (-1 : Int)) 1100021 (3000 - ((S 1084 0) - (1 : Int)) - 1) (r6)) := sv_mod.up md33 (by decide)
            obtain ⟨o37, h⟩ := h
            refine sv_ghost sm_X 1100022 r6 ((3000 - ((S 1084 0) - (1 : Int)) - 1)) (by decide) ?_
            have ok38 : sm_ok (sv_up (sv_up (sv_up (sv_up (sv_up (sv_up (sv_up S 52 l4_12 (S 52 r6)) 52 r6 (S 1085 0)) 1085 0 r6) 1084 0 ((S 1084 0) - (1 : Int))) 1100020 r6 (-1 : Int)) 1100021 (3000 - ((S 1084 0) - (1 : Int)) - 1) (r6)) 1100022 r6 ((3000 - ((S 1084 0) - (1 : Int)) - 1))) := sm_upI ok35 sm_r1100022 o37
            have md39 : sv_mod [46, 47, 52, 1085, 1084, 1100020, 1100021, 1100022] S (sv_up (sv_up (sv_up (sv_up (sv_up (sv_up (sv_up S 52 l4_12 (S 52 r6)) 52 r6 (S 1085 0)) 1085 0 r6) 1084 0 ((S 1084 0) - (1 : Int))) 1100020 r6 (-1 : Int)) 1100021 (3000 - ((S 1084 0) - (1 : Int)) - 1) (r6)) 1100022 r6 ((3000 - ((S 1084 0) - (1 : Int)) - 1))) := sv_mod.up md36 (by decide)
            exact sv_vret hM dX12_remove_123 rfl ⟨rfl, ok38, md39, h⟩
          · have h := h.2 (hc)
            refine sv_aload_n hM dX12_remove_90 rfl rfl ?_
            refine sv_getA hM dX12_remove_91 sm_fl_152 (sm_a0 _) sm_k83 rfl ?_
            refine sv_iload_n hM dX12_remove_94 rfl rfl ?_
            refine sv_iload hM dX12_remove_95 rfl rfl ?_
            refine sv_iast sm_X hM dX12_remove_97 (sm_a47 _) (by decide) o10.1 o10.2 rfl ?_
            have ok40 : sm_ok (sv_up (sv_up S 52 l4_12 (S 52 r6)) 47 p1 l4_12) := sm_upI ok20 sm_r47 hl4_12
            have md41 : sv_mod [46, 47, 52, 1085, 1084, 1100020, 1100021, 1100022] S (sv_up (sv_up S 52 l4_12 (S 52 r6)) 47 p1 l4_12) := sv_mod.up md21 (by decide)
            refine sv_aload_n hM dX12_remove_98 rfl rfl ?_
            refine sv_getA hM dX12_remove_99 sm_fl_167 (sm_a0 _) sm_k91 rfl ?_
            refine sv_iload_n hM dX12_remove_102 rfl rfl ?_
            refine sv_aload_n hM dX12_remove_103 rfl rfl ?_
            have k42 : sv_R (S 1085 0) := sm_okI ok40 sm_r1085 0
            have h := h k42
            refine sv_getI hM dX12_remove_104 sm_fl_852 (sm_a0 _) sm_k85 rfl (x := (S 1085 0)) rfl ?_
            refine sv_iast sm_X hM dX12_remove_107 (sm_a52 _) (by decide) o17.1 o17.2 rfl ?_
            have ok43 : sm_ok (sv_up (sv_up (sv_up S 52 l4_12 (S 52 r6)) 47 p1 l4_12) 52 r6 (S 1085 0)) := sm_upI ok40 sm_r52 k42
            have md44 : sv_mod [46, 47, 52, 1085, 1084, 1100020, 1100021, 1100022] S (sv_up (sv_up (sv_up S 52 l4_12 (S 52 r6)) 47 p1 l4_12) 52 r6 (S 1085 0)) := sv_mod.up md41 (by decide)
            refine sv_aload_n hM dX12_remove_108 rfl rfl ?_
            refine sv_iload_n hM dX12_remove_109 rfl rfl ?_
            refine sv_putI sm_X hM dX12_remove_110 sm_fp_852 (sm_a0 _) sm_q85 (Or.inl rfl) rfl rfl rfl rfl ?_
            have ok45 : sm_ok (sv_up (sv_up (sv_up (sv_up S 52 l4_12 (S 52 r6)) 47 p1 l4_12) 52 r6 (S 1085 0)) 1085 0 r6) := sm_upI ok43 sm_r1085 hr6
            have md46 : sv_mod [46, 47, 52, 1085, 1084, 1100020, 1100021, 1100022] S (sv_up (sv_up (sv_up (sv_up S 52 l4_12 (S 52 r6)) 47 p1 l4_12) 52 r6 (S 1085 0)) 1085 0 r6) := sv_mod.up md44 (by decide)
            refine sv_aload_n hM dX12_remove_113 rfl rfl ?_
            refine sv_dupA hM dX12_remove_114 rfl ?_
            have k47 : sv_R (S 1084 0) := sm_okI ok45 sm_r1084 0
            have h := h k47
            refine sv_getI hM dX12_remove_115 sm_fl_849 (sm_a0 _) sm_k84 rfl (x := (S 1084 0)) rfl ?_
            refine sv_iconst (d := (1 : Int)) hM dX12_remove_118 rfl rfl ?_
            refine sv_isub hM dX12_remove_119 rfl ?_
            obtain ⟨o48, h⟩ := h
            refine sv_putI sm_X hM dX12_remove_120 sm_fp_849 (sm_a0 _) sm_q84 (Or.inl rfl) rfl rfl rfl rfl ?_
            have ok49 : sm_ok (sv_up (sv_up (sv_up (sv_up (sv_up S 52 l4_12 (S 52 r6)) 47 p1 l4_12) 52 r6 (S 1085 0)) 1085 0 r6) 1084 0 ((S 1084 0) - (1 : Int))) := sm_upI ok45 sm_r1084 o48
            have md50 : sv_mod [46, 47, 52, 1085, 1084, 1100020, 1100021, 1100022] S (sv_up (sv_up (sv_up (sv_up (sv_up S 52 l4_12 (S 52 r6)) 47 p1 l4_12) 52 r6 (S 1085 0)) 1085 0 r6) 1084 0 ((S 1084 0) - (1 : Int))) := sv_mod.up md46 (by decide)
            refine sv_ghost sm_X 1100020 r6 (-1 : Int) (by decide) ?_
            have ok51 : sm_ok (sv_up (sv_up (sv_up (sv_up (sv_up (sv_up S 52 l4_12 (S 52 r6)) 47 p1 l4_12) 52 r6 (S 1085 0)) 1085 0 r6) 1084 0 ((S 1084 0) - (1 : Int))) 1100020 r6 (-1 : Int)) := sm_upI ok49 sm_r1100020 (⟨by decide, by decide⟩ : sv_R (-1 : Int))
            have md52 : sv_mod [46, 47, 52, 1085, 1084, 1100020, 1100021, 1100022] S (sv_up (sv_up (sv_up (sv_up (sv_up (sv_up S 52 l4_12 (S 52 r6)) 47 p1 l4_12) 52 r6 (S 1085 0)) 1085 0 r6) 1084 0 ((S 1084 0) - (1 : Int))) 1100020 r6 (-1 : Int)) := sv_mod.up md50 (by decide)
            obtain ⟨o53, h⟩ := h
            refine sv_ghost sm_X 1100021 (3000 - ((S 1084 0) - (1 : Int)) - 1) (r6) (by decide) ?_
            have ok54 : sm_ok (sv_up (sv_up (sv_up (sv_up (sv_up (sv_up (sv_up S 52 l4_12 (S 52 r6)) 47 p1 l4_12) 52 r6 (S 1085 0)) 1085 0 r6) 1084 0 ((S 1084 0) - (1 : Int))) 1100020 r6 (-1 : Int)) 1100021 (3000 - ((S 1084 0) - (1 : Int)) - 1) (r6)) := sm_upI ok51 sm_r1100021 o53
            have md55 : sv_mod [46, 47, 52, 1085, 1084, 1100020, 1100021, 1100022] S (sv_up (sv_up (sv_up (sv_up (sv_up (sv_up (sv_up S 52 l4_12 (S 52 r6)) 47 p1 l4_12) 52 r6 (S 1085 0)) 1085 0 r6) 1084 0 ((S 1084 0) - (1 : Int))) 1100020 r6 (-1 : Int)) 1100021 (3000 - ((S 1084 0) - (1 : Int)) - 1) (r6)) := sv_mod.up md52 (by decide)
            obtain ⟨o56, h⟩ := h
            refine sv_ghost sm_X 1100022 r6 ((3000 - ((S 1084 0) - (1 : Int)) - 1)) (by decide) ?_
            have ok57 : sm_ok (sv_up (sv_up (sv_up (sv_up (sv_up (sv_up (sv_up (sv_up S 52 l4_12 (S 52 r6)) 47 p1 l4_12) 52 r6 (S 1085 0)) 1085 0 r6) 1084 0 ((S 1084 0) - (1 : Int))) 1100020 r6 (-1 : Int)) 1100021 (3000 - ((S 1084 0) - (1 : Int)) - 1) (r6)) 1100022 r6 ((3000 - ((S 1084 0) - (1 : Int)) - 1))) := sm_upI ok54 sm_r1100022 o56
            have md58 : sv_mod [46, 47, 52, 1085, 1084, 1100020, 1100021, 1100022] S (sv_up (sv_up (sv_up (sv_up (sv_up (sv_up (sv_up (sv_up S 52 l4_12 (S 52 r6)) 47 p1 l4_12) 52 r6 (S 1085 0)) 1085 0 r6) 1084 0 ((S 1084 0) - (1 : Int))) 1100020 r6 (-1 : Int)) 1100021 (3000 - ((S 1084 0) - (1 : Int)) - 1) (r6)) 1100022 r6 ((3000 - ((S 1084 0) - (1 : Int)) - 1))) := sv_mod.up md55 (by decide)
            exact sv_vret hM dX12_remove_123 rfl ⟨rfl, ok57, md58, h⟩
        · have h := h.2 (hc)
          refine sv_aload_n hM dX12_remove_52 rfl rfl ?_
          refine sv_getA hM dX12_remove_53 sm_fl_149 (sm_a0 _) sm_k82 rfl ?_
          refine sv_iload_n hM dX12_remove_56 rfl rfl ?_
          refine sv_aload_n hM dX12_remove_57 rfl rfl ?_
          refine sv_getA hM dX12_remove_58 sm_fl_167 (sm_a0 _) sm_k91 rfl ?_
          refine sv_iload_n hM dX12_remove_61 rfl rfl ?_
          obtain ⟨o59, h⟩ := h
          have k60 : sv_R (S 52 r6) := sm_okI ok16 sm_r52 r6
          have h := h k60
          refine sv_iald hM dX12_remove_62 (sm_a52 _) (by decide) o59.1 o59.2 rfl (x := (S 52 r6)) rfl ?_
          refine sv_iast sm_X hM dX12_remove_63 (sm_a46 _) (by decide) o10.1 o10.2 rfl ?_
          have ok61 : sm_ok (sv_up S 46 p1 (S 52 r6)) := sm_upI ok16 sm_r46 k60
          have md62 : sv_mod [46, 47, 52, 1085, 1084, 1100020, 1100021, 1100022] S (sv_up S 46 p1 (S 52 r6)) := sv_mod.up sv_mod.rf (by decide)
          refine sv_goto hM dX12_remove_64 (pc' := 80) rfl ?_
          refine sv_aload_n hM dX12_remove_80 rfl rfl ?_
          refine sv_getA hM dX12_remove_81 sm_fl_152 (sm_a0 _) sm_k83 rfl ?_
          refine sv_iload_n hM dX12_remove_84 rfl rfl ?_
          have k63 : sv_R (S 47 p1) := sm_okI ok61 sm_r47 p1
          have h := h k63
          refine sv_iald hM dX12_remove_85 (sm_a47 _) (by decide) o10.1 o10.2 rfl (x := (S 47 p1)) rfl ?_
          refine sv_iload_n hM dX12_remove_86 rfl rfl ?_
          refine sv_icmp_ne hM dX12_remove_87 k63 hr6 (t := 98) rfl rfl (fun hc => ?_) (fun hc => ?_)
          · have h := h.1 (hc)
            refine sv_aload_n hM dX12_remove_98 rfl rfl ?_
            refine sv_getA hM dX12_remove_99 sm_fl_167 (sm_a0 _) sm_k91 rfl ?_
            refine sv_iload_n hM dX12_remove_102 rfl rfl ?_
            refine sv_aload_n hM dX12_remove_103 rfl rfl ?_
            have k64 : sv_R (S 1085 0) := sm_okI ok61 sm_r1085 0
            have h := h k64
            refine sv_getI hM dX12_remove_104 sm_fl_852 (sm_a0 _) sm_k85 rfl (x := (S 1085 0)) rfl ?_
            refine sv_iast sm_X hM dX12_remove_107 (sm_a52 _) (by decide) o59.1 o59.2 rfl ?_
            have ok65 : sm_ok (sv_up (sv_up S 46 p1 (S 52 r6)) 52 r6 (S 1085 0)) := sm_upI ok61 sm_r52 k64
            have md66 : sv_mod [46, 47, 52, 1085, 1084, 1100020, 1100021, 1100022] S (sv_up (sv_up S 46 p1 (S 52 r6)) 52 r6 (S 1085 0)) := sv_mod.up md62 (by decide)
            refine sv_aload_n hM dX12_remove_108 rfl rfl ?_
            refine sv_iload_n hM dX12_remove_109 rfl rfl ?_
            refine sv_putI sm_X hM dX12_remove_110 sm_fp_852 (sm_a0 _) sm_q85 (Or.inl rfl) rfl rfl rfl rfl ?_
            have ok67 : sm_ok (sv_up (sv_up (sv_up S 46 p1 (S 52 r6)) 52 r6 (S 1085 0)) 1085 0 r6) := sm_upI ok65 sm_r1085 hr6
            have md68 : sv_mod [46, 47, 52, 1085, 1084, 1100020, 1100021, 1100022] S (sv_up (sv_up (sv_up S 46 p1 (S 52 r6)) 52 r6 (S 1085 0)) 1085 0 r6) := sv_mod.up md66 (by decide)
            refine sv_aload_n hM dX12_remove_113 rfl rfl ?_
            refine sv_dupA hM dX12_remove_114 rfl ?_
            have k69 : sv_R (S 1084 0) := sm_okI ok67 sm_r1084 0
            have h := h k69
            refine sv_getI hM dX12_remove_115 sm_fl_849 (sm_a0 _) sm_k84 rfl (x := (S 1084 0)) rfl ?_
            refine sv_iconst (d := (1 : Int)) hM dX12_remove_118 rfl rfl ?_
            refine sv_isub hM dX12_remove_119 rfl ?_
            obtain ⟨o70, h⟩ := h
            refine sv_putI sm_X hM dX12_remove_120 sm_fp_849 (sm_a0 _) sm_q84 (Or.inl rfl) rfl rfl rfl rfl ?_
            have ok71 : sm_ok (sv_up (sv_up (sv_up (sv_up S 46 p1 (S 52 r6)) 52 r6 (S 1085 0)) 1085 0 r6) 1084 0 ((S 1084 0) - (1 : Int))) := sm_upI ok67 sm_r1084 o70
            have md72 : sv_mod [46, 47, 52, 1085, 1084, 1100020, 1100021, 1100022] S (sv_up (sv_up (sv_up (sv_up S 46 p1 (S 52 r6)) 52 r6 (S 1085 0)) 1085 0 r6) 1084 0 ((S 1084 0) - (1 : Int))) := sv_mod.up md68 (by decide)
            refine sv_ghost sm_X 1100020 r6 (-1 : Int) (by decide) ?_
            have ok73 : sm_ok (sv_up (sv_up (sv_up (sv_up (sv_up S 46 p1 (S 52 r6)) 52 r6 (S 1085 0)) 1085 0 r6) 1084 0 ((S 1084 0) - (1 : Int))) 1100020 r6 (-1 : Int)) := sm_upI ok71 sm_r1100020 (⟨by decide, by decide⟩ : sv_R (-1 : Int))
            have md74 : sv_mod [46, 47, 52, 1085, 1084, 1100020, 1100021, 1100022] S (sv_up (sv_up (sv_up (sv_up (sv_up S 46 p1 (S 52 r6)) 52 r6 (S 1085 0)) 1085 0 r6) 1084 0 ((S 1084 0) - (1 : Int))) 1100020 r6 (-1 : Int)) := sv_mod.up md72 (by decide)
            obtain ⟨o75, h⟩ := h
            refine sv_ghost sm_X 1100021 (3000 - ((S 1084 0) - (1 : Int)) - 1) (r6) (by decide) ?_
            have ok76 : sm_ok (sv_up (sv_up (sv_up (sv_up (sv_up (sv_up S 46 p1 (S 52 r6)) 52 r6 (S 1085 0)) 1085 0 r6) 1084 0 ((S 1084 0) - (1 : Int))) 1100020 r6 (-1 : Int)) 1100021 (3000 - ((S 1084 0) - (1 : Int)) - 1) (r6)) := sm_upI ok73 sm_r1100021 o75
            have md77 : sv_mod [46, 47, 52, 1085, 1084, 1100020, 1100021, 1100022] S (sv_up (sv_up (sv_up (sv_up (sv_up (sv_up S 46 p1 (S 52 r6)) 52 r6 (S 1085 0)) 1085 0 r6) 1084 0 ((S 1084 0) - (1 : Int))) 1100020 r6 (-1 : Int)) 1100021 (3000 - ((S 1084 0) - (1 : Int)) - 1) (r6)) := sv_mod.up md74 (by decide)
            obtain ⟨o78, h⟩ := h
            refine sv_ghost sm_X 1100022 r6 ((3000 - ((S 1084 0) - (1 : Int)) - 1)) (by decide) ?_
            have ok79 : sm_ok (sv_up (sv_up (sv_up (sv_up (sv_up (sv_up (sv_up S 46 p1 (S 52 r6)) 52 r6 (S 1085 0)) 1085 0 r6) 1084 0 ((S 1084 0) - (1 : Int))) 1100020 r6 (-1 : Int)) 1100021 (3000 - ((S 1084 0) - (1 : Int)) - 1) (r6)) 1100022 r6 ((3000 - ((S 1084 0) - (1 : Int)) - 1))) := sm_upI ok76 sm_r1100022 o78
            have md80 : sv_mod [46, 47, 52, 1085, 1084, 1100020, 1100021, 1100022] S (sv_up (sv_up (sv_up (sv_up (sv_up (sv_up (sv_up S 46 p1 (S 52 r6)) 52 r6 (S 1085 0)) 1085 0 r6) 1084 0 ((S 1084 0) - (1 : Int))) 1100020 r6 (-1 : Int)) 1100021 (3000 - ((S 1084 0) - (1 : Int)) - 1) (r6)) 1100022 r6 ((3000 - ((S 1084 0) - (1 : Int)) - 1))) := sv_mod.up md77 (by decide)
            exact sv_vret hM dX12_remove_123 rfl ⟨rfl, ok79, md80, h⟩
          · have h := h.2 (hc)
            refine sv_aload_n hM dX12_remove_90 rfl rfl ?_
            refine sv_getA hM dX12_remove_91 sm_fl_152 (sm_a0 _) sm_k83 rfl ?_
            refine sv_iload_n hM dX12_remove_94 rfl rfl ?_
            refine sv_iload hM dX12_remove_95 rfl rfl ?_
            refine sv_iast sm_X hM dX12_remove_97 (sm_a47 _) (by decide) o10.1 o10.2 rfl ?_
            have ok81 : sm_ok (sv_up (sv_up S 46 p1 (S 52 r6)) 47 p1 l4_12) := sm_upI ok61 sm_r47 hl4_12
            have md82 : sv_mod [46, 47, 52, 1085, 1084, 1100020, 1100021, 1100022] S (sv_up (sv_up S 46 p1 (S 52 r6)) 47 p1 l4_12) := sv_mod.up md62 (by decide)
            refine sv_aload_n hM dX12_remove_98 rfl rfl ?_
            refine sv_getA hM dX12_remove_99 sm_fl_167 (sm_a0 _) sm_k91 rfl ?_
            refine sv_iload_n hM dX12_remove_102 rfl rfl ?_
            refine sv_aload_n hM dX12_remove_103 rfl rfl ?_
            have k83 : sv_R (S 1085 0) := sm_okI ok81 sm_r1085 0
            have h := h k83
            refine sv_getI hM dX12_remove_104 sm_fl_852 (sm_a0 _) sm_k85 rfl (x := (S 1085 0)) rfl ?_
            refine sv_iast sm_X hM dX12_remove_107 (sm_a52 _) (by decide) o59.1 o59.2 rfl ?_
            have ok84 : sm_ok (sv_up (sv_up (sv_up S 46 p1 (S 52 r6)) 47 p1 l4_12) 52 r6 (S 1085 0)) := sm_upI ok81 sm_r52 k83
            have md85 : sv_mod [46, 47, 52, 1085, 1084, 1100020, 1100021, 1100022] S (sv_up (sv_up (sv_up S 46 p1 (S 52 r6)) 47 p1 l4_12) 52 r6 (S 1085 0)) := sv_mod.up md82 (by decide)
            refine sv_aload_n hM dX12_remove_108 rfl rfl ?_
            refine sv_iload_n hM dX12_remove_109 rfl rfl ?_
            refine sv_putI sm_X hM dX12_remove_110 sm_fp_852 (sm_a0 _) sm_q85 (Or.inl rfl) rfl rfl rfl rfl ?_
            have ok86 : sm_ok (sv_up (sv_up (sv_up (sv_up S 46 p1 (S 52 r6)) 47 p1 l4_12) 52 r6 (S 1085 0)) 1085 0 r6) := sm_upI ok84 sm_r1085 hr6
            have md87 : sv_mod [46, 47, 52, 1085, 1084, 1100020, 1100021, 1100022] S (sv_up (sv_up (sv_up (sv_up S 46 p1 (S 52 r6)) 47 p1 l4_12) 52 r6 (S 1085 0)) 1085 0 r6) := sv_mod.up md85 (by decide)
            refine sv_aload_n hM dX12_remove_113 rfl rfl ?_
            refine sv_dupA hM dX12_remove_114 rfl ?_
            have k88 : sv_R (S 1084 0) := sm_okI ok86 sm_r1084 0
            have h := h k88
            refine sv_getI hM dX12_remove_115 sm_fl_849 (sm_a0 _) sm_k84 rfl (x := (S 1084 0)) rfl ?_
            refine sv_iconst (d := (1 : Int)) hM dX12_remove_118 rfl rfl ?_
            refine sv_isub hM dX12_remove_119 rfl ?_
            obtain ⟨o89, h⟩ := h
            refine sv_putI sm_X hM dX12_remove_120 sm_fp_849 (sm_a0 _) sm_q84 (Or.inl rfl) rfl rfl rfl rfl ?_
            have ok90 : sm_ok (sv_up (sv_up (sv_up (sv_up (sv_up S 46 p1 (S 52 r6)) 47 p1 l4_12) 52 r6 (S 1085 0)) 1085 0 r6) 1084 0 ((S 1084 0) - (1 : Int))) := sm_upI ok86 sm_r1084 o89
            have md91 : sv_mod [46, 47, 52, 1085, 1084, 1100020, 1100021, 1100022] S (sv_up (sv_up (sv_up (sv_up (sv_up S 46 p1 (S 52 r6)) 47 p1 l4_12) 52 r6 (S 1085 0)) 1085 0 r6) 1084 0 ((S 1084 0) - (1 : Int))) := sv_mod.up md87 (by decide)
            refine sv_ghost sm_X 1100020 r6 (-1 : Int) (by decide) ?_
            have ok92 : sm_ok (sv_up (sv_up (sv_up (sv_up (sv_up (sv_up S 46 p1 (S 52 r6)) 47 p1 l4_12) 52 r6 (S 1085 0)) 1085 0 r6) 1084 0 ((S 1084 0) - (1 : Int))) 1100020 r6 (-1 : Int)) := sm_upI ok90 sm_r1100020 (⟨by decide, by decide⟩ : sv_R (-1 : Int))
            have md93 : sv_mod [46, 47, 52, 1085, 1084, 1100020, 1100021, 1100022] S (sv_up (sv_up (sv_up (sv_up (sv_up (sv_up S 46 p1 (S 52 r6)) 47 p1 l4_12) 52 r6 (S 1085 0)) 1085 0 r6) 1084 0 ((S 1084 0) - (1 : Int))) 1100020 r6 (-1 : Int)) := sv_mod.up md91 (by decide)
            obtain ⟨o94, h⟩ := h
            refine sv_ghost sm_X 1100021 (3000 - ((S 1084 0) - (1 : Int)) - 1) (r6) (by decide) ?_
            have ok95 : sm_ok (sv_up (sv_up (sv_up (sv_up (sv_up (sv_up (sv_up S 46 p1 (S 52 r6)) 47 p1 l4_12) 52 r6 (S 1085 0)) 1085 0 r6) 1084 0 ((S 1084 0) - (1 : Int))) 1100020 r6 (-1 : Int)) 1100021 (3000 - ((S 1084 0) - (1 : Int)) - 1) (r6)) := sm_upI ok92 sm_r1100021 o94
            have md96 : sv_mod [46, 47, 52, 1085, 1084, 1100020, 1100021, 1100022] S (sv_up (sv_up (sv_up (sv_up (sv_up (sv_up (sv_up S 46 p1 (S 52 r6)) 47 p1 l4_12) 52 r6 (S 1085 0)) 1085 0 r6) 1084 0 ((S 1084 0) - (1 : Int))) 1100020 r6 (-1 : Int)) 1100021 (3000 - ((S 1084 0) - (1 : Int)) - 1) (r6)) := sv_mod.up md93 (by decide)
            obtain ⟨o97, h⟩ := h
            refine sv_ghost sm_X 1100022 r6 ((3000 - ((S 1084 0) - (1 : Int)) - 1)) (by decide) ?_
            have ok98 : sm_ok (sv_up (sv_up (sv_up (sv_up (sv_up (sv_up (sv_up (sv_up S 46 p1 (S 52 r6)) 47 p1 l4_12) 52 r6 (S 1085 0)) 1085 0 r6) 1084 0 ((S 1084 0) - (1 : Int))) 1100020 r6 (-1 : Int)) 1100021 (3000 - ((S 1084 0) - (1 : Int)) - 1) (r6)) 1100022 r6 ((3000 - ((S 1084 0) - (1 : Int)) - 1))) := sm_upI ok95 sm_r1100022 o97
            have md99 : sv_mod [46, 47, 52, 1085, 1084, 1100020, 1100021, 1100022] S (sv_up (sv_up (sv_up (sv_up (sv_up (sv_up (sv_up (sv_up S 46 p1 (S 52 r6)) 47 p1 l4_12) 52 r6 (S 1085 0)) 1085 0 r6) 1084 0 ((S 1084 0) - (1 : Int))) 1100020 r6 (-1 : Int)) 1100021 (3000 - ((S 1084 0) - (1 : Int)) - 1) (r6)) 1100022 r6 ((3000 - ((S 1084 0) - (1 : Int)) - 1))) := sv_mod.up md96 (by decide)
            exact sv_vret hM dX12_remove_123 rfl ⟨rfl, ok98, md99, h⟩
      · have h := h.2 (hc)
        refine sv_iload hM dX12_remove_30 rfl rfl ?_
        refine sv_istore hM dX12_remove_32 (by decide) rfl ?_
        show sv_T sm_XS sm_cs sm_L sm_sh 1 (q_remove p1 p2 S) 142 34 [(0, .ref 0), (1, sv_I p1), (2, sv_I p2), (3, sv_I r6), (4, sv_I l5_13), (5, sv_I l5_13)] [] S
        have k100 : (sm_PL (S 1100020) (S 51) (S 52) (S 46) (S 47) (S 1076 0) (S 1086 0) → 0 ≤ l5_13 → l5_13 < 3000 → (S 1100020 l5_13) = p1 → 0 ≤ r6 → r6 < 3000 → (S 1100020 r6) = p1 → 0 ≤ p1 → (S 51 l5_13) ≤ (S 51 r6) → ¬ l5_13 = r6 → 0 ≤ (S 52 l5_13) ∧ (S 52 l5_13) < 3000 ∧ (S 1100020 (S 52 l5_13)) = p1 ∧ (S 51 l5_13) < (S 51 (S 52 l5_13)) ∧ (S 51 (S 52 l5_13)) ≤ (S 51 r6)) := fun h a b c d e g i j k => sm_PL_step h a b c d e g i j k
        have h := h k100
        refine sv_aload_n hM dX12_remove_34 rfl rfl ?_
        refine sv_getA hM dX12_remove_35 sm_fl_167 (sm_a0 _) sm_k91 rfl ?_
        refine sv_iload hM dX12_remove_38 rfl rfl ?_
        obtain ⟨o101, h⟩ := h
        have k102 : sv_R (S 52 l5_13) := sm_okI ok16 sm_r52 l5_13
        have h := h k102
        refine sv_iald hM dX12_remove_40 (sm_a52 _) (by decide) o101.1 o101.2 rfl (x := (S 52 l5_13)) rfl ?_
        refine sv_istore hM dX12_remove_41 (by decide) rfl ?_
        show sv_T sm_XS sm_cs sm_L sm_sh 1 (q_remove p1 p2 S) 142 43 [(0, .ref 0), (1, sv_I p1), (2, sv_I p2), (3, sv_I r6), (4, sv_I l5_13), (5, sv_I (S 52 l5_13))] [] S
        refine sv_goto hM dX12_remove_43 (pc' := 24) rfl ?_
        have hb := ih14 (l5_13, (S 52 l5_13), ()) ⟨hl5_13, k102, ok16, h.1⟩ h.2
        exact sv_less (lv := [(0, .ref 0), (1, sv_I p1), (2, sv_I p2), (3, sv_I r6), (4, sv_I l5_13), (5, sv_I (S 52 l5_13))]) (sv_Sub_cons rfl (sv_Sub_cons rfl (sv_Sub_cons rfl (sv_Sub_cons rfl (sv_Sub_cons rfl (sv_Sub_cons rfl sv_Sub_nil)))))) hb
    exact hJ ((-1 : Int), (S 46 p1), ()) ⟨(⟨by decide, by decide⟩ : sv_R (-1 : Int)), k11, ok3, hin15⟩
  · have h := h.2 (hc)
    exact sv_vret hM dX12_remove_12 rfl ⟨rfl, ok3, sv_mod.rf, h⟩
