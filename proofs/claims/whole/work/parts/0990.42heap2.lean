theorem dX12_newObject_0 : decode cX12_newObject 0 = .ok (.aload_n 0, 1) := by decide +kernel
theorem dX12_newObject_1 : decode cX12_newObject 1 = .ok (.getfield 843, 3) := by decide +kernel
theorem dX12_newObject_4 : decode cX12_newObject 4 = .ok (.sipush 300, 3) := by decide +kernel
theorem dX12_newObject_7 : decode cX12_newObject 7 = .ok (.if_icmp .ne 10, 3) := by decide +kernel
theorem dX12_newObject_10 : decode cX12_newObject 10 = .ok (.aload_n 0, 1) := by decide +kernel
theorem dX12_newObject_11 : decode cX12_newObject 11 = .ok (.iconst 1, 1) := by decide +kernel
theorem dX12_newObject_12 : decode cX12_newObject 12 = .ok (.putfield 794, 3) := by decide +kernel
theorem dX12_newObject_15 : decode cX12_newObject 15 = .ok (.iconst 0, 1) := by decide +kernel
theorem dX12_newObject_16 : decode cX12_newObject 16 = .ok (.ireturn, 1) := by decide +kernel
theorem dX12_newObject_17 : decode cX12_newObject 17 = .ok (.iconst 0, 1) := by decide +kernel
theorem dX12_newObject_18 : decode cX12_newObject 18 = .ok (.istore 4, 2) := by decide +kernel
theorem dX12_newObject_20 : decode cX12_newObject 20 = .ok (.iload_n 2, 1) := by decide +kernel
theorem dX12_newObject_21 : decode cX12_newObject 21 = .ok (.bipush 29, 2) := by decide +kernel
theorem dX12_newObject_23 : decode cX12_newObject 23 = .ok (.if_icmp .lt 49, 3) := by decide +kernel
theorem dX12_newObject_26 : decode cX12_newObject 26 = .ok (.iload 4, 2) := by decide +kernel
theorem dX12_newObject_28 : decode cX12_newObject 28 = .ok (.aload_n 0, 1) := by decide +kernel
theorem dX12_newObject_29 : decode cX12_newObject 29 = .ok (.getfield 843, 3) := by decide +kernel
theorem dX12_newObject_32 : decode cX12_newObject 32 = .ok (.if_icmp .ge 40, 3) := by decide +kernel
theorem dX12_newObject_35 : decode cX12_newObject 35 = .ok (.aload_n 0, 1) := by decide +kernel
theorem dX12_newObject_36 : decode cX12_newObject 36 = .ok (.getfield 134, 3) := by decide +kernel
theorem dX12_newObject_39 : decode cX12_newObject 39 = .ok (.iload 4, 2) := by decide +kernel
theorem dX12_newObject_41 : decode cX12_newObject 41 = .ok (.aload_n 0, 1) := by decide +kernel
theorem dX12_newObject_42 : decode cX12_newObject 42 = .ok (.getfield 134, 3) := by decide +kernel
theorem dX12_newObject_45 : decode cX12_newObject 45 = .ok (.iload 4, 2) := by decide +kernel
theorem dX12_newObject_47 : decode cX12_newObject 47 = .ok (.iaload, 1) := by decide +kernel
theorem dX12_newObject_48 : decode cX12_newObject 48 = .ok (.iload_n 2, 1) := by decide +kernel
theorem dX12_newObject_49 : decode cX12_newObject 49 = .ok (.if_icmp .ne 9, 3) := by decide +kernel
theorem dX12_newObject_52 : decode cX12_newObject 52 = .ok (.iload_n 2, 1) := by decide +kernel
theorem dX12_newObject_53 : decode cX12_newObject 53 = .ok (.iconst 1, 1) := by decide +kernel
theorem dX12_newObject_54 : decode cX12_newObject 54 = .ok (.iadd, 1) := by decide +kernel
theorem dX12_newObject_55 : decode cX12_newObject 55 = .ok (.goto 10, 3) := by decide +kernel
theorem dX12_newObject_58 : decode cX12_newObject 58 = .ok (.aload_n 0, 1) := by decide +kernel
theorem dX12_newObject_59 : decode cX12_newObject 59 = .ok (.getfield 134, 3) := by decide +kernel
theorem dX12_newObject_62 : decode cX12_newObject 62 = .ok (.iload 4, 2) := by decide +kernel
theorem dX12_newObject_64 : decode cX12_newObject 64 = .ok (.iaload, 1) := by decide +kernel
theorem dX12_newObject_65 : decode cX12_newObject 65 = .ok (.iastore, 1) := by decide +kernel
theorem dX12_newObject_66 : decode cX12_newObject 66 = .ok (.iinc 4 1, 3) := by decide +kernel
theorem dX12_newObject_69 : decode cX12_newObject 69 = .ok (.goto (-49), 3) := by decide +kernel
theorem dX12_newObject_72 : decode cX12_newObject 72 = .ok (.aload_n 0, 1) := by decide +kernel
theorem dX12_newObject_73 : decode cX12_newObject 73 = .ok (.getfield 843, 3) := by decide +kernel
theorem dX12_newObject_76 : decode cX12_newObject 76 = .ok (.istore 4, 2) := by decide +kernel
theorem dX12_newObject_78 : decode cX12_newObject 78 = .ok (.aload_n 0, 1) := by decide +kernel
theorem dX12_newObject_79 : decode cX12_newObject 79 = .ok (.dup, 1) := by decide +kernel
theorem dX12_newObject_80 : decode cX12_newObject 80 = .ok (.getfield 843, 3) := by decide +kernel
theorem dX12_newObject_83 : decode cX12_newObject 83 = .ok (.iconst 1, 1) := by decide +kernel
theorem dX12_newObject_84 : decode cX12_newObject 84 = .ok (.iadd, 1) := by decide +kernel
theorem dX12_newObject_85 : decode cX12_newObject 85 = .ok (.putfield 843, 3) := by decide +kernel
theorem dX12_newObject_88 : decode cX12_newObject 88 = .ok (.aload_n 0, 1) := by decide +kernel
theorem dX12_newObject_89 : decode cX12_newObject 89 = .ok (.getfield 134, 3) := by decide +kernel
theorem dX12_newObject_92 : decode cX12_newObject 92 = .ok (.iload 4, 2) := by decide +kernel
theorem dX12_newObject_94 : decode cX12_newObject 94 = .ok (.iload_n 2, 1) := by decide +kernel
theorem dX12_newObject_95 : decode cX12_newObject 95 = .ok (.iastore, 1) := by decide +kernel
theorem dX12_newObject_96 : decode cX12_newObject 96 = .ok (.aload_n 0, 1) := by decide +kernel
theorem dX12_newObject_97 : decode cX12_newObject 97 = .ok (.getfield 137, 3) := by decide +kernel
theorem dX12_newObject_100 : decode cX12_newObject 100 = .ok (.iload 4, 2) := by decide +kernel
theorem dX12_newObject_102 : decode cX12_newObject 102 = .ok (.iload_n 1, 1) := by decide +kernel
theorem dX12_newObject_103 : decode cX12_newObject 103 = .ok (.iastore, 1) := by decide +kernel
theorem dX12_newObject_104 : decode cX12_newObject 104 = .ok (.aload_n 0, 1) := by decide +kernel
theorem dX12_newObject_105 : decode cX12_newObject 105 = .ok (.getfield 140, 3) := by decide +kernel
theorem dX12_newObject_108 : decode cX12_newObject 108 = .ok (.iload 4, 2) := by decide +kernel
theorem dX12_newObject_110 : decode cX12_newObject 110 = .ok (.iconst (-1), 1) := by decide +kernel
theorem dX12_newObject_111 : decode cX12_newObject 111 = .ok (.iastore, 1) := by decide +kernel
theorem dX12_newObject_112 : decode cX12_newObject 112 = .ok (.aload_n 0, 1) := by decide +kernel
theorem dX12_newObject_113 : decode cX12_newObject 113 = .ok (.getfield 143, 3) := by decide +kernel
theorem dX12_newObject_116 : decode cX12_newObject 116 = .ok (.iload 4, 2) := by decide +kernel
theorem dX12_newObject_118 : decode cX12_newObject 118 = .ok (.iload_n 3, 1) := by decide +kernel
theorem dX12_newObject_119 : decode cX12_newObject 119 = .ok (.iastore, 1) := by decide +kernel
theorem dX12_newObject_120 : decode cX12_newObject 120 = .ok (.aload_n 0, 1) := by decide +kernel
theorem dX12_newObject_121 : decode cX12_newObject 121 = .ok (.getfield 146, 3) := by decide +kernel
theorem dX12_newObject_124 : decode cX12_newObject 124 = .ok (.iload 4, 2) := by decide +kernel
theorem dX12_newObject_126 : decode cX12_newObject 126 = .ok (.iconst 0, 1) := by decide +kernel
theorem dX12_newObject_127 : decode cX12_newObject 127 = .ok (.iastore, 1) := by decide +kernel
theorem dX12_newObject_128 : decode cX12_newObject 128 = .ok (.aload_n 0, 1) := by decide +kernel
theorem dX12_newObject_129 : decode cX12_newObject 129 = .ok (.getfield 149, 3) := by decide +kernel
theorem dX12_newObject_132 : decode cX12_newObject 132 = .ok (.iload 4, 2) := by decide +kernel
theorem dX12_newObject_134 : decode cX12_newObject 134 = .ok (.iconst (-1), 1) := by decide +kernel
theorem dX12_newObject_135 : decode cX12_newObject 135 = .ok (.iastore, 1) := by decide +kernel
theorem dX12_newObject_136 : decode cX12_newObject 136 = .ok (.aload_n 0, 1) := by decide +kernel
theorem dX12_newObject_137 : decode cX12_newObject 137 = .ok (.getfield 152, 3) := by decide +kernel
theorem dX12_newObject_140 : decode cX12_newObject 140 = .ok (.iload 4, 2) := by decide +kernel
theorem dX12_newObject_142 : decode cX12_newObject 142 = .ok (.iconst (-1), 1) := by decide +kernel
theorem dX12_newObject_143 : decode cX12_newObject 143 = .ok (.iastore, 1) := by decide +kernel
theorem dX12_newObject_144 : decode cX12_newObject 144 = .ok (.iload 4, 2) := by decide +kernel
theorem dX12_newObject_146 : decode cX12_newObject 146 = .ok (.ireturn, 1) := by decide +kernel
theorem dX12_read__0 : decode cX12_read_ 0 = .ok (.iload_n 1, 1) := by decide +kernel
theorem dX12_read__1 : decode cX12_read_ 1 = .ok (.istore_n 3, 1) := by decide +kernel
theorem dX12_read__2 : decode cX12_read_ 2 = .ok (.iload_n 3, 1) := by decide +kernel
theorem dX12_read__3 : decode cX12_read_ 3 = .ok (.iconst (-1), 1) := by decide +kernel
theorem dX12_read__4 : decode cX12_read_ 4 = .ok (.if_icmp .eq 47, 3) := by decide +kernel
theorem dX12_read__7 : decode cX12_read_ 7 = .ok (.aload_n 0, 1) := by decide +kernel
theorem dX12_read__8 : decode cX12_read_ 8 = .ok (.iload_n 3, 1) := by decide +kernel
theorem dX12_read__9 : decode cX12_read_ 9 = .ok (.iload_n 2, 1) := by decide +kernel
theorem dX12_read__10 : decode cX12_read_ 10 = .ok (.invokevirtual 846, 3) := by decide +kernel
theorem dX12_read__13 : decode cX12_read_ 13 = .ok (.istore 4, 2) := by decide +kernel
theorem dX12_read__15 : decode cX12_read_ 15 = .ok (.iload 4, 2) := by decide +kernel
theorem dX12_read__17 : decode cX12_read_ 17 = .ok (.iconst (-1), 1) := by decide +kernel
theorem dX12_read__18 : decode cX12_read_ 18 = .ok (.if_icmp .eq 23, 3) := by decide +kernel
theorem dX12_read__21 : decode cX12_read_ 21 = .ok (.aload_n 0, 1) := by decide +kernel
theorem dX12_read__22 : decode cX12_read_ 22 = .ok (.aload_n 0, 1) := by decide +kernel
theorem dX12_read__23 : decode cX12_read_ 23 = .ok (.getfield 158, 3) := by decide +kernel
theorem dX12_read__26 : decode cX12_read_ 26 = .ok (.iload 4, 2) := by decide +kernel
theorem dX12_read__28 : decode cX12_read_ 28 = .ok (.iaload, 1) := by decide +kernel
theorem dX12_read__29 : decode cX12_read_ 29 = .ok (.aload_n 0, 1) := by decide +kernel
theorem dX12_read__30 : decode cX12_read_ 30 = .ok (.getfield 161, 3) := by decide +kernel
theorem dX12_read__33 : decode cX12_read_ 33 = .ok (.iload 4, 2) := by decide +kernel
theorem dX12_read__35 : decode cX12_read_ 35 = .ok (.iaload, 1) := by decide +kernel
theorem dX12_read__36 : decode cX12_read_ 36 = .ok (.invokevirtual 822, 3) := by decide +kernel
theorem dX12_read__39 : decode cX12_read_ 39 = .ok (.iconst 1, 1) := by decide +kernel
theorem dX12_read__40 : decode cX12_read_ 40 = .ok (.ireturn, 1) := by decide +kernel
theorem dX12_read__41 : decode cX12_read_ 41 = .ok (.aload_n 0, 1) := by decide +kernel
theorem dX12_read__42 : decode cX12_read_ 42 = .ok (.getfield 137, 3) := by decide +kernel
theorem dX12_read__45 : decode cX12_read_ 45 = .ok (.iload_n 3, 1) := by decide +kernel
theorem dX12_read__46 : decode cX12_read_ 46 = .ok (.iaload, 1) := by decide +kernel
theorem dX12_read__47 : decode cX12_read_ 47 = .ok (.istore_n 3, 1) := by decide +kernel
theorem dX12_read__48 : decode cX12_read_ 48 = .ok (.goto (-46), 3) := by decide +kernel
theorem dX12_read__51 : decode cX12_read_ 51 = .ok (.aload_n 0, 1) := by decide +kernel
theorem dX12_read__52 : decode cX12_read_ 52 = .ok (.iconst 0, 1) := by decide +kernel
theorem dX12_read__53 : decode cX12_read_ 53 = .ok (.iconst 0, 1) := by decide +kernel
theorem dX12_read__54 : decode cX12_read_ 54 = .ok (.invokevirtual 822, 3) := by decide +kernel
theorem dX12_read__57 : decode cX12_read_ 57 = .ok (.iconst 0, 1) := by decide +kernel
theorem dX12_read__58 : decode cX12_read_ 58 = .ok (.ireturn, 1) := by decide +kernel

def q_newObject (p1 : Int) (p2 : Int) (p3 : Int) (S : sv_S) : Option Value → sv_S → Prop := fun v S' => ∃ r : Int, v = some (sv_I r) ∧ sv_R r ∧ sm_ok S' ∧ sv_mod [1076, 41, 42, 43, 44, 45, 46, 47, 1075, 1100029] S S' ∧ (sm_PL (S' 1100020) (S' 51) (S' 52) (S' 46) (S' 47) (S' 1076 0) (S' 1086 0) ∧ sm_FR (S' 1100020) (S' 52) (S' 1100021) (S' 1100022) (3000 - (S' 1084 0)) (S' 1085 0) ∧ sm_PV (S' 1100020) (S' 48) (S' 49) (S' 50) (S' 44) (S' 1076 0) (S' 1007 0) ∧ sm_AL (S' 1100020) (S' 48) (S' 49) (S' 50) (S' 44) (S' 1076 0) (S' 1100032 0) ∧ sm_SV (S' 1100020) (S' 48) (S' 1100029) (S' 32) (S' 33) (S' 1076 0) (S' 1032 0) ∧ 0 ≤ (S' 1076 0) ∧ (S' 1076 0) ≤ 300 ∧ 0 ≤ (S' 1084 0) ∧ (S' 1084 0) ≤ 3000 ∧ 0 ≤ (S' 1086 0) ∧ sm_SC (S' 1100029) (S' 44) (S' 45) (S' 43) (S' 21) (S' 1076 0) (S' 1032 0) ∧ sm_PO (S' 42) (S' 1076 0) ∧ 0 ≤ r ∧ r < (S' 1076 0) ∧ ((S 1075 0) = 1 → (S' 1075 0) = 1) ∧ (S 1076 0) ≤ (S' 1076 0) ∧ sm_F1 (S 44) (S' 44) (S 1076 0) ∧ sm_F1 (S 1100029) (S' 1100029) (S 1076 0) ∧ sm_F1 (S 42) (S' 42) (S 1076 0) ∧ sm_F1 (S 43) (S' 43) (S 1076 0) ∧ sm_F1 (S 45) (S' 45) (S 1076 0) ∧ ((S' 1075 0) = 0 → r = (S 1076 0) ∧ (S' 1076 0) = r + 1 ∧ (S' 44 r) = p3 ∧ (S' 1100029 r) = 0 ∧ (S' 45 r) = 0 ∧ (S' 43 r) = -1 ∧ (S' 42 r) = p1) ∧ ((S' 1076 0) = (S 1076 0) → r = 0) ∧ ((S' 1075 0) = 1 → (S 1075 0) = 0 → (S' 1076 0) = (S 1076 0)) ∧ (sm_FO (S 44) (S 45) (S 1076 0) → (¬ p3 = 1 ∨ (9 ≤ (S 1076 0) ∧ (S 1076 0) < 23)) → (1 ≤ (S 1076 0) ∨ ((S 1076 0) = 0 ∧ p3 = 0)) → sm_FO (S' 44) (S' 45) (S' 1076 0)) ∧ ((S 1076 0) < 300 → (S' 1075 0) = (S 1075 0) ∧ (S' 1076 0) = (S 1076 0) + 1))
theorem la_newObject_0 {x0 : Int} (h0 : x0 ≤ 300) (h1 : ¬ x0 = 300) : x0 < 300 := by omega
theorem la_newObject_1 {x0 : Int} (h0 : 0 ≤ x0) : (0 : Int) ≤ 0 ∧ 0 ≤ x0 := by omega
theorem la_newObject_2 {x0 x1 : Int} (h0 : x0 ≤ x1) : 0 ≤ x1 - x0 := by omega
theorem la_newObject_3 {x0 : Int} (h0 : 0 ≤ x0) (h1 : x0 < 300) : sv_R (x0 + 1) := by omega
theorem la_newObject_4 {x0 : Int} (h0 : 0 ≤ x0) (h1 : x0 < 300) : 0 ≤ x0 ∧ x0 < 300 := by omega
theorem la_newObject_5 {x0 : Int} : x0 ≤ x0 + 1 := by omega
theorem la_newObject_6 : (0 : Int) < 1 := by omega
theorem la_newObject_7 {x0 : Int} (h0 : 0 ≤ x0) : 0 ≤ x0 + 1 := by omega
theorem la_newObject_8 {x0 : Int} (h0 : x0 < 300) : x0 + 1 ≤ 300 := by omega
theorem la_newObject_9 {x0 : Int} : x0 < x0 + 1 := by omega
theorem la_newObject_10 {x0 : Int} : x0 = 1 → x0 = 1 := by omega
theorem la_newObject_11 {x0 : Int} : x0 = x0 := by omega
theorem la_newObject_12 {x0 : Int} : x0 + 1 = x0 + 1 := by omega
theorem la_newObject_13 {x0 : Int} : x0 + 1 = x0 → x0 = 0 := by omega
theorem la_newObject_14 {x0 x1 : Int} : x0 = 1 → x0 = 0 → x1 + 1 = x1 := by omega
theorem la_newObject_15 {x0 x1 : Int} (h0 : ¬ x0 = 1 ∨ 9 ≤ x1 ∧ x1 < 23) : ¬ x0 = 1 ∨ 9 ≤ x1 ∧ x1 < 23 ∧ (0 : Int) = 0 := by omega
theorem la_newObject_16 {x0 x1 : Int} (h0 : x0 < 300) (h1 : 0 ≤ x1) (h2 : ¬ x0 ≤ x1) : 0 ≤ x1 ∧ x1 < 300 := by omega
theorem la_newObject_17 {x0 x1 x2 x3 : Int} (h0 : x0 < 300) (h1 : 0 ≤ x1) (h2 : ¬ x0 ≤ x1) : ¬ x2 = x3 → sv_R (x1 + 1) ∧ (0 ≤ x1 + 1 ∧ x1 + 1 ≤ x0) ∧ x0 - (x1 + 1) < x0 - x1 := by omega
theorem la_newObject_18 {x0 : Int} (h0 : x0 ≤ 1000) (h1 : ¬ x0 < 29) : sv_R (x0 + 1) := by omega
theorem la_newObject_19 {x0 x1 : Int} (h0 : x0 < 300) (h1 : 0 ≤ x1) (h2 : ¬ x0 ≤ x1) : sv_R (x1 + 1) := by omega
theorem la_newObject_20 {x0 x1 : Int} (h0 : 0 ≤ x0) (h1 : ¬ x1 ≤ x0) : 0 ≤ x0 + 1 ∧ x0 + 1 ≤ x1 := by omega
theorem la_newObject_21 {x0 x1 : Int} : x0 - (x1 + 1) < x0 - x1 := by omega
theorem la_newObject_22 {x0 : Int} (h0 : ¬ ¬ x0 = 300) : ¬ x0 = 1 := by omega
theorem la_newObject_23 : (0 : Int) ≤ 0 := by omega
theorem la_newObject_24 {x0 : Int} (h0 : ¬ ¬ x0 = 300) : 0 < x0 := by omega
theorem la_newObject_25 {x0 : Int} : x0 = 1 → (1 : Int) = 1 := by omega
theorem la_newObject_26 {x0 : Int} : x0 ≤ x0 := by omega
theorem la_newObject_27 {x0 x1 x2 x3 x4 x5 x6 x7 : Int} : (1 : Int) = 0 → 0 = x0 ∧ x0 = 0 + 1 ∧ x1 = x2 ∧ x3 = 0 ∧ x4 = 0 ∧ x5 = (-1) ∧ x6 = x7 := by omega
theorem la_newObject_28 {x0 : Int} : x0 = x0 → (0 : Int) = 0 := by omega
theorem la_newObject_29 {x0 x1 : Int} : (1 : Int) = 1 → x0 = 0 → x1 = x1 := by omega
theorem la_newObject_30 {x0 : Int} (h0 : ¬ ¬ x0 = 300) : ¬ (9 ≤ x0 ∧ x0 < 23) := by omega
theorem la_newObject_31 {x0 x1 : Int} (h0 : ¬ ¬ x0 = 300) : ¬ (x0 = 0 ∧ x1 = 0) := by omega
theorem la_newObject_32 {x0 x1 : Int} (h0 : ¬ ¬ x0 = 300) (h1 : x0 < 300) : ¬ x1 = (-1) := by omega
theorem la_newObject_33 {x0 x1 : Int} (h0 : ¬ ¬ x0 = 300) (h1 : x0 < 300) : x1 = 2 := by omega
theorem la_newObject_34 {x0 x1 : Int} (h0 : ¬ ¬ x0 = 300) (h1 : x0 < 300) : ¬ (0 ≤ x1 ∧ x1 < x0) := by omega
theorem la_newObject_35 {x0 : Int} (h0 : ¬ ¬ x0 = 300) (h1 : x0 = 0) : False := by omega
set_option maxHeartbeats 2000000 in
theorem f_newObject : ∀ (p1 : Int) (p2 : Int) (p3 : Int) (S : sv_S), sm_ok S → sv_R p1 → sv_R p2 → sv_R p3 → (sm_PL (S 1100020) (S 51) (S 52) (S 46) (S 47) (S 1076 0) (S 1086 0) ∧ sm_FR (S 1100020) (S 52) (S 1100021) (S 1100022) (3000 - (S 1084 0)) (S 1085 0) ∧ sm_PV (S 1100020) (S 48) (S 49) (S 50) (S 44) (S 1076 0) (S 1007 0) ∧ sm_AL (S 1100020) (S 48) (S 49) (S 50) (S 44) (S 1076 0) (S 1100032 0) ∧ sm_SV (S 1100020) (S 48) (S 1100029) (S 32) (S 33) (S 1076 0) (S 1032 0) ∧ 0 ≤ (S 1076 0) ∧ (S 1076 0) ≤ 300 ∧ 0 ≤ (S 1084 0) ∧ (S 1084 0) ≤ 3000 ∧ 0 ≤ (S 1086 0) ∧ sm_SC (S 1100029) (S 44) (S 45) (S 43) (S 21) (S 1076 0) (S 1032 0) ∧ sm_PO (S 42) (S 1076 0) ∧ (p1 = -1 ∨ (0 ≤ p1 ∧ p1 < (S 1076 0)) ∨ ((S 1076 0) = 0 ∧ p1 = 1)) ∧ ((S 1076 0) = 1 → p1 = -1) ∧ 0 ≤ p2 ∧ p2 ≤ 1000 ∧ 0 ≤ p3 ∧ p3 ≤ 3 ∧ (p3 = 2 → (S 1100032 0) = (S 1076 0))) → (sv_R (S 1076 0) → (((¬ (S 1076 0) = (300 : Int)) → ((0 ≤ (0 : Int) ∧ (0 : Int) ≤ (S 1076 0)) ∧ (∀ l4_3 : Int, sv_R l4_3 → ∀ g2 : sv_S, (0 ≤ l4_3 ∧ l4_3 ≤ (S 1076 0)) → (0 ≤ (S 1076 0) - l4_3) ∧ (((p2 < (29 : Int)) → (sv_R ((S 1076 0) + (1 : Int))) ∧ (0 ≤ (S 1076 0) ∧ (S 1076 0) < 300) ∧ (sm_PL (S 1100020) (S 51) (S 52) (fun i' : Int => if i' = (S 1076 0) then (-1 : Int) else (S 46) i') (fun i' : Int => if i' = (S 1076 0) then (-1 : Int) else (S 47) i') ((S 1076 0) + (1 : Int)) (S 1086 0) ∧ sm_FR (S 1100020) (S 52) (S 1100021) (S 1100022) (3000 - (S 1084 0)) (S 1085 0) ∧ sm_PV (S 1100020) (S 48) (S 49) (S 50) (fun i' : Int => if i' = (S 1076 0) then p3 else (S 44) i') ((S 1076 0) + (1 : Int)) (S 1007 0) ∧ sm_AL (S 1100020) (S 48) (S 49) (S 50) (fun i' : Int => if i' = (S 1076 0) then p3 else (S 44) i') ((S 1076 0) + (1 : Int)) (S 1100032 0) ∧ sm_SV (S 1100020) (S 48) (fun i' : Int => if i' = (S 1076 0) then (0 : Int) else (S 1100029) i') (S 32) (S 33) ((S 1076 0) + (1 : Int)) (S 1032 0) ∧ 0 ≤ ((S 1076 0) + (1 : Int)) ∧ ((S 1076 0) + (1 : Int)) ≤ 300 ∧ 0 ≤ (S 1084 0) ∧ (S 1084 0) ≤ 3000 ∧ 0 ≤ (S 1086 0) ∧ sm_SC (fun i' : Int => if i' = (S 1076 0) then (0 : Int) else (S 1100029) i') (fun i' : Int => if i' = (S 1076 0) then p3 else (S 44) i') (fun i' : Int => if i' = (S 1076 0) then (0 : Int) else (S 45) i') (fun i' : Int => if i' = (S 1076 0) then (-1 : Int) else (S 43) i') (S 21) ((S 1076 0) + (1 : Int)) (S 1032 0) ∧ sm_PO (fun i' : Int => if i' = (S 1076 0) then p1 else (S 42) i') ((S 1076 0) + (1 : Int)) ∧ 0 ≤ (S 1076 0) ∧ (S 1076 0) < ((S 1076 0) + (1 : Int)) ∧ ((S 1075 0) = 1 → (S 1075 0) = 1) ∧ (S 1076 0) ≤ ((S 1076 0) + (1 : Int)) ∧ sm_F1 (S 44) (fun i' : Int => if i' = (S 1076 0) then p3 else (S 44) i') (S 1076 0) ∧ sm_F1 (S 1100029) (fun i' : Int => if i' = (S 1076 0) then (0 : Int) else (S 1100029) i') (S 1076 0) ∧ sm_F1 (S 42) (fun i' : Int => if i' = (S 1076 0) then p1 else (S 42) i') (S 1076 0) ∧ sm_F1 (S 43) (fun i' : Int => if i' = (S 1076 0) then (-1 : Int) else (S 43) i') (S 1076 0) ∧ sm_F1 (S 45) (fun i' : Int => if i' = (S 1076 0) then (0 : Int) else (S 45) i') (S 1076 0) ∧ ((S 1075 0) = 0 → (S 1076 0) = (S 1076 0) ∧ ((S 1076 0) + (1 : Int)) = (S 1076 0) + 1 ∧ (if (S 1076 0) = (S 1076 0) then p3 else (S 44 (S 1076 0))) = p3 ∧ (if (S 1076 0) = (S 1076 0) then (0 : Int) else (S 1100029 (S 1076 0))) = 0 ∧ (if (S 1076 0) = (S 1076 0) then (0 : Int) else (S 45 (S 1076 0))) = 0 ∧ (if (S 1076 0) = (S 1076 0) then (-1 : Int) else (S 43 (S 1076 0))) = -1 ∧ (if (S 1076 0) = (S 1076 0) then p1 else (S 42 (S 1076 0))) = p1) ∧ (((S 1076 0) + (1 : Int)) = (S 1076 0) → (S 1076 0) = 0) ∧ ((S 1075 0) = 1 → (S 1075 0) = 0 → ((S 1076 0) + (1 : Int)) = (S 1076 0)) ∧ (sm_FO (S 44) (S 45) (S 1076 0) → (¬ p3 = 1 ∨ (9 ≤ (S 1076 0) ∧ (S 1076 0) < 23)) → (1 ≤ (S 1076 0) ∨ ((S 1076 0) = 0 ∧ p3 = 0)) → sm_FO (fun i' : Int => if i' = (S 1076 0) then p3 else (S 44) i') (fun i' : Int => if i' = (S 1076 0) then (0 : Int) else (S 45) i') ((S 1076 0) + (1 : Int))) ∧ ((S 1076 0) < 300 → (S 1075 0) = (S 1075 0) ∧ ((S 1076 0) + (1 : Int)) = (S 1076 0) + 1))) ∧ ((¬ (p2 < (29 : Int))) → ((((S 1076 0) ≤ l4_3) → (sv_R ((S 1076 0) + (1 : Int))) ∧ (0 ≤ (S 1076 0) ∧ (S 1076 0) < 300) ∧ (sm_PL (S 1100020) (S 51) (S 52) (fun i' : Int => if i' = (S 1076 0) then (-1 : Int) else (S 46) i') (fun i' : Int => if i' = (S 1076 0) then (-1 : Int) else (S 47) i') ((S 1076 0) + (1 : Int)) (S 1086 0) ∧ sm_FR (S 1100020) (S 52) (S 1100021) (S 1100022) (3000 - (S 1084 0)) (S 1085 0) ∧ sm_PV (S 1100020) (S 48) (S 49) (S 50) (fun i' : Int => if i' = (S 1076 0) then p3 else (S 44) i') ((S 1076 0) + (1 : Int)) (S 1007 0) ∧ sm_AL (S 1100020) (S 48) (S 49) (S 50) (fun i' : Int => if i' = (S 1076 0) then p3 else (S 44) i') ((S 1076 0) + (1 : Int)) (S 1100032 0) ∧ sm_SV (S 1100020) (S 48) (fun i' : Int => if i' = (S 1076 0) then (0 : Int) else (S 1100029) i') (S 32) (S 33) ((S 1076 0) + (1 : Int)) (S 1032 0) ∧ 0 ≤ ((S 1076 0) + (1 : Int)) ∧ ((S 1076 0) + (1 : Int)) ≤ 300 ∧ 0 ≤ (S 1084 0) ∧ (S 1084 0) ≤ 3000 ∧ 0 ≤ (S 1086 0) ∧ sm_SC (fun i' : Int => if i' = (S 1076 0) then (0 : Int) else (S 1100029) i') (fun i' : Int => if i' = (S 1076 0) then p3 else (S 44) i') (fun i' : Int => if i' = (S 1076 0) then (0 : Int) else (S 45) i') (fun i' : Int => if i' = (S 1076 0) then (-1 : Int) else (S 43) i') (S 21) ((S 1076 0) + (1 : Int)) (S 1032 0) ∧ sm_PO (fun i' : Int => if i' = (S 1076 0) then p1 else (S 42) i') ((S 1076 0) + (1 : Int)) ∧ 0 ≤ (S 1076 0) ∧ (S 1076 0) < ((S 1076 0) + (1 : Int)) ∧ ((S 1075 0) = 1 → (S 1075 0) = 1) ∧ (S 1076 0) ≤ ((S 1076 0) + (1 : Int)) ∧ sm_F1 (S 44) (fun i' : Int => if i' = (S 1076 0) then p3 else (S 44) i') (S 1076 0) ∧ sm_F1 (S 1100029) (fun i' : Int => if i' = (S 1076 0) then (0 : Int) else (S 1100029) i') (S 1076 0) ∧ sm_F1 (S 42) (fun i' : Int => if i' = (S 1076 0) then p1 else (S 42) i') (S 1076 0) ∧ sm_F1 (S 43) (fun i' : Int => if i' = (S 1076 0) then (-1 : Int) else (S 43) i') (S 1076 0) ∧ sm_F1 (S 45) (fun i' : Int => if i' = (S 1076 0) then (0 : Int) else (S 45) i') (S 1076 0) ∧ ((S 1075 0) = 0 → (S 1076 0) = (S 1076 0) ∧ ((S 1076 0) + (1 : Int)) = (S 1076 0) + 1 ∧ (if (S 1076 0) = (S 1076 0) then p3 else (S 44 (S 1076 0))) = p3 ∧ (if (S 1076 0) = (S 1076 0) then (0 : Int) else (S 1100029 (S 1076 0))) = 0 ∧ (if (S 1076 0) = (S 1076 0) then (0 : Int) else (S 45 (S 1076 0))) = 0 ∧ (if (S 1076 0) = (S 1076 0) then (-1 : Int) else (S 43 (S 1076 0))) = -1 ∧ (if (S 1076 0) = (S 1076 0) then p1 else (S 42 (S 1076 0))) = p1) ∧ (((S 1076 0) + (1 : Int)) = (S 1076 0) → (S 1076 0) = 0) ∧ ((S 1075 0) = 1 → (S 1075 0) = 0 → ((S 1076 0) + (1 : Int)) = (S 1076 0)) ∧ (sm_FO (S 44) (S 45) (S 1076 0) → (¬ p3 = 1 ∨ (9 ≤ (S 1076 0) ∧ (S 1076 0) < 23)) → (1 ≤ (S 1076 0) ∨ ((S 1076 0) = 0 ∧ p3 = 0)) → sm_FO (fun i' : Int => if i' = (S 1076 0) then p3 else (S 44) i') (fun i' : Int => if i' = (S 1076 0) then (0 : Int) else (S 45) i') ((S 1076 0) + (1 : Int))) ∧ ((S 1076 0) < 300 → (S 1075 0) = (S 1075 0) ∧ ((S 1076 0) + (1 : Int)) = (S 1076 0) + 1))) ∧ ((¬ ((S 1076 0) ≤ l4_3)) → (0 ≤ l4_3 ∧ l4_3 < 300) ∧ (sv_R (g2 41 l4_3) → (((¬ (g2 41 l4_3) = p2) → (sv_R (l4_3 + (1 : Int))) ∧ ((0 ≤ (l4_3 + (1 : Int)) ∧ (l4_3 + (1 : Int)) ≤ (S 1076 0)) ∧ ((S 1076 0) - (l4_3 + (1 : Int))) < ((S 1076 0) - l4_3))) ∧ ((¬ (¬ (g2 41 l4_3) = p2)) → (sv_R (p2 + (1 : Int))) ∧ (sv_R (l4_3 + (1 : Int))) ∧ ((0 ≤ (l4_3 + (1 : Int)) ∧ (l4_3 + (1 : Int)) ≤ (S 1076 0)) ∧ ((S 1076 0) - (l4_3 + (1 : Int))) < ((S 1076 0) - l4_3)))))))))))) ∧ ((¬ (¬ (S 1076 0) = (300 : Int))) → (sm_PL (S 1100020) (S 51) (S 52) (S 46) (S 47) (S 1076 0) (S 1086 0) ∧ sm_FR (S 1100020) (S 52) (S 1100021) (S 1100022) (3000 - (S 1084 0)) (S 1085 0) ∧ sm_PV (S 1100020) (S 48) (S 49) (S 50) (S 44) (S 1076 0) (S 1007 0) ∧ sm_AL (S 1100020) (S 48) (S 49) (S 50) (S 44) (S 1076 0) (S 1100032 0) ∧ sm_SV (S 1100020) (S 48) (S 1100029) (S 32) (S 33) (S 1076 0) (S 1032 0) ∧ 0 ≤ (S 1076 0) ∧ (S 1076 0) ≤ 300 ∧ 0 ≤ (S 1084 0) ∧ (S 1084 0) ≤ 3000 ∧ 0 ≤ (S 1086 0) ∧ sm_SC (S 1100029) (S 44) (S 45) (S 43) (S 21) (S 1076 0) (S 1032 0) ∧ sm_PO (S 42) (S 1076 0) ∧ 0 ≤ (0 : Int) ∧ (0 : Int) < (S 1076 0) ∧ ((S 1075 0) = 1 → (1 : Int) = 1) ∧ (S 1076 0) ≤ (S 1076 0) ∧ sm_F1 (S 44) (S 44) (S 1076 0) ∧ sm_F1 (S 1100029) (S 1100029) (S 1076 0) ∧ sm_F1 (S 42) (S 42) (S 1076 0) ∧ sm_F1 (S 43) (S 43) (S 1076 0) ∧ sm_F1 (S 45) (S 45) (S 1076 0) ∧ ((1 : Int) = 0 → (0 : Int) = (S 1076 0) ∧ (S 1076 0) = (0 : Int) + 1 ∧ (S 44 (0 : Int)) = p3 ∧ (S 1100029 (0 : Int)) = 0 ∧ (S 45 (0 : Int)) = 0 ∧ (S 43 (0 : Int)) = -1 ∧ (S 42 (0 : Int)) = p1) ∧ ((S 1076 0) = (S 1076 0) → (0 : Int) = 0) ∧ ((1 : Int) = 1 → (S 1075 0) = 0 → (S 1076 0) = (S 1076 0)) ∧ (sm_FO (S 44) (S 45) (S 1076 0) → (¬ p3 = 1 ∨ (9 ≤ (S 1076 0) ∧ (S 1076 0) < 23)) → (1 ≤ (S 1076 0) ∨ ((S 1076 0) = 0 ∧ p3 = 0)) → sm_FO (S 44) (S 45) (S 1076 0)) ∧ ((S 1076 0) < 300 → (1 : Int) = (S 1075 0) ∧ (S 1076 0) = (S 1076 0) + 1))))) := by
  intro p1
  intro p2
  intro p3
  intro S
  intro h1_
  intro h2_
  intro h3_
  intro h4_
  rintro ⟨h5_, ⟨h6_, ⟨h7_, ⟨h8_, ⟨h9_, ⟨h10_, ⟨h11_, ⟨h12_, ⟨h13_, ⟨h14_, ⟨h15_, ⟨h16_, ⟨h17_, ⟨h18_, ⟨h19_, ⟨h20_, ⟨h21_, ⟨h22_, h23_⟩⟩⟩⟩⟩⟩⟩⟩⟩⟩⟩⟩⟩⟩⟩⟩⟩⟩
  intro h24_
  refine ⟨?_, ?_⟩
  · skip
    intro h25_
    refine ⟨(la_newObject_1 h10_), ?_⟩
    intro l4_3
    intro h26_
    intro g2
    rintro ⟨h27_, h28_⟩
    refine ⟨(la_newObject_2 h28_), ?_⟩
    refine ⟨?_, ?_⟩
    · skip
      intro h29_
      refine ⟨(la_newObject_3 h10_ (la_newObject_0 h11_ h25_)), ?_⟩
      refine ⟨(la_newObject_4 h10_ (la_newObject_0 h11_ h25_)), ?_⟩
      refine ⟨(sm_PL_new h5_ h10_ rfl rfl rfl rfl rfl), ?_⟩
      refine ⟨h6_, ?_⟩
      refine ⟨(sm_PV_m h7_ la_newObject_5 (Int.le_refl _) (sm_F1_up sm_F1_rf (Int.le_refl _))), ?_⟩
      refine ⟨(sm_AL_obj h8_ h5_ rfl rfl h23_ (fun _ _ _ h_ => h_)), ?_⟩
      refine ⟨(sm_SV_obj h9_ rfl rfl la_newObject_6), ?_⟩
      refine ⟨(la_newObject_7 h10_), ?_⟩
      refine ⟨(la_newObject_8 (la_newObject_0 h11_ h25_)), ?_⟩
      refine ⟨h12_, ?_⟩
      refine ⟨h13_, ?_⟩
      refine ⟨h14_, ?_⟩
      refine ⟨(sm_SC_new h15_ rfl rfl rfl rfl rfl la_newObject_6 la_newObject_6), ?_⟩
      refine ⟨(sm_PO_new h16_ rfl rfl h17_ h18_ h10_), ?_⟩
      refine ⟨h10_, ?_⟩
      refine ⟨la_newObject_9, ?_⟩
      refine ⟨la_newObject_10, ?_⟩
      refine ⟨la_newObject_5, ?_⟩
      refine ⟨(sm_F1_up sm_F1_rf (Int.le_refl _)), ?_⟩
      refine ⟨(sm_F1_up sm_F1_rf (Int.le_refl _)), ?_⟩
      refine ⟨(sm_F1_up sm_F1_rf (Int.le_refl _)), ?_⟩
      refine ⟨(sm_F1_up sm_F1_rf (Int.le_refl _)), ?_⟩
      refine ⟨(sm_F1_up sm_F1_rf (Int.le_refl _)), ?_⟩
      refine ⟨?_, ?_⟩
      · skip
        intro h30_
        refine ⟨la_newObject_11, ?_⟩
        refine ⟨la_newObject_12, ?_⟩
        refine ⟨?_, ?_⟩
        · skip
          have e31_ : (if S 1076 0 = S 1076 0 then p3 else S 44 (S 1076 0) : Int) = p3 := if_pos la_newObject_11
          exact e31_
        refine ⟨?_, ?_⟩
        · skip
          have e32_ : (if S 1076 0 = S 1076 0 then 0 else S 1100029 (S 1076 0) : Int) = 0 := if_pos la_newObject_11
          exact e32_
        refine ⟨?_, ?_⟩
        · skip
          have e33_ : (if S 1076 0 = S 1076 0 then 0 else S 45 (S 1076 0) : Int) = 0 := if_pos la_newObject_11
          exact e33_
        refine ⟨?_, ?_⟩
        · skip
          have e34_ : (if S 1076 0 = S 1076 0 then (-1) else S 43 (S 1076 0) : Int) = (-1) := if_pos la_newObject_11
          exact e34_
        have e35_ : (if S 1076 0 = S 1076 0 then p1 else S 42 (S 1076 0) : Int) = p1 := if_pos la_newObject_11
        exact e35_
      refine ⟨la_newObject_13, ?_⟩
      refine ⟨la_newObject_14, ?_⟩
      refine ⟨?_, ?_⟩
      · skip
        intro h36_
        intro h37_
        intro h38_
        exact (sm_FO_d h36_ (sm_F1_up sm_F1_rf (Int.le_refl _)) (sm_F1_up sm_F1_rf (Int.le_refl _)) la_newObject_12 (if_pos la_newObject_11) (if_pos la_newObject_11) (la_newObject_15 h37_) h38_)
      intro h39_
      refine ⟨la_newObject_11, ?_⟩
      exact la_newObject_12
    intro h40_
    refine ⟨?_, ?_⟩
    · skip
      intro h41_
      refine ⟨(la_newObject_3 h10_ (la_newObject_0 h11_ h25_)), ?_⟩
      refine ⟨(la_newObject_4 h10_ (la_newObject_0 h11_ h25_)), ?_⟩
      refine ⟨(sm_PL_new h5_ h10_ rfl rfl rfl rfl rfl), ?_⟩
      refine ⟨h6_, ?_⟩
      refine ⟨(sm_PV_m h7_ la_newObject_5 (Int.le_refl _) (sm_F1_up sm_F1_rf (Int.le_refl _))), ?_⟩
      refine ⟨(sm_AL_obj h8_ h5_ rfl rfl h23_ (fun _ _ _ h_ => h_)), ?_⟩
      refine ⟨(sm_SV_obj h9_ rfl rfl la_newObject_6), ?_⟩
      refine ⟨(la_newObject_7 h10_), ?_⟩
      refine ⟨(la_newObject_8 (la_newObject_0 h11_ h25_)), ?_⟩
      refine ⟨h12_, ?_⟩
      refine ⟨h13_, ?_⟩
      refine ⟨h14_, ?_⟩
      refine ⟨(sm_SC_new h15_ rfl rfl rfl rfl rfl la_newObject_6 la_newObject_6), ?_⟩
      refine ⟨(sm_PO_new h16_ rfl rfl h17_ h18_ h10_), ?_⟩
      refine ⟨h10_, ?_⟩
      refine ⟨la_newObject_9, ?_⟩
      refine ⟨la_newObject_10, ?_⟩
      refine ⟨la_newObject_5, ?_⟩
      refine ⟨(sm_F1_up sm_F1_rf (Int.le_refl _)), ?_⟩
      refine ⟨(sm_F1_up sm_F1_rf (Int.le_refl _)), ?_⟩
      refine ⟨(sm_F1_up sm_F1_rf (Int.le_refl _)), ?_⟩
      refine ⟨(sm_F1_up sm_F1_rf (Int.le_refl _)), ?_⟩
      refine ⟨(sm_F1_up sm_F1_rf (Int.le_refl _)), ?_⟩
      refine ⟨?_, ?_⟩
      · skip
        intro h42_
        refine ⟨la_newObject_11, ?_⟩
        refine ⟨la_newObject_12, ?_⟩
        refine ⟨?_, ?_⟩
        · skip
          have e43_ : (if S 1076 0 = S 1076 0 then p3 else S 44 (S 1076 0) : Int) = p3 := if_pos la_newObject_11
          exact e43_
        refine ⟨?_, ?_⟩
        · skip
          have e44_ : (if S 1076 0 = S 1076 0 then 0 else S 1100029 (S 1076 0) : Int) = 0 := if_pos la_newObject_11
          exact e44_
        refine ⟨?_, ?_⟩
        · skip
          have e45_ : (if S 1076 0 = S 1076 0 then 0 else S 45 (S 1076 0) : Int) = 0 := if_pos la_newObject_11
          exact e45_
        refine ⟨?_, ?_⟩
        · skip
          have e46_ : (if S 1076 0 = S 1076 0 then (-1) else S 43 (S 1076 0) : Int) = (-1) := if_pos la_newObject_11
          exact e46_
        have e47_ : (if S 1076 0 = S 1076 0 then p1 else S 42 (S 1076 0) : Int) = p1 := if_pos la_newObject_11
        exact e47_
      refine ⟨la_newObject_13, ?_⟩
      refine ⟨la_newObject_14, ?_⟩
      refine ⟨?_, ?_⟩
      · skip
        intro h48_
        intro h49_
        intro h50_
        exact (sm_FO_d h48_ (sm_F1_up sm_F1_rf (Int.le_refl _)) (sm_F1_up sm_F1_rf (Int.le_refl _)) la_newObject_12 (if_pos la_newObject_11) (if_pos la_newObject_11) (la_newObject_15 h49_) h50_)
      intro h51_
      refine ⟨la_newObject_11, ?_⟩
      exact la_newObject_12
    intro h52_
    refine ⟨(la_newObject_16 (la_newObject_0 h11_ h25_) h27_ h52_), ?_⟩
    intro h53_
    refine ⟨(la_newObject_17 (la_newObject_0 h11_ h25_) h27_ h52_), ?_⟩
    intro h54_
    refine ⟨(la_newObject_18 h20_ h40_), ?_⟩
    refine ⟨(la_newObject_19 (la_newObject_0 h11_ h25_) h27_ h52_), ?_⟩
    refine ⟨(la_newObject_20 h27_ h52_), ?_⟩
    exact la_newObject_21
  intro h55_
  refine ⟨h5_, ?_⟩
  refine ⟨h6_, ?_⟩
  refine ⟨h7_, ?_⟩
  refine ⟨h8_, ?_⟩
  refine ⟨h9_, ?_⟩
  refine ⟨h10_, ?_⟩
  refine ⟨h11_, ?_⟩
  refine ⟨h12_, ?_⟩
  refine ⟨h13_, ?_⟩
  refine ⟨h14_, ?_⟩
  refine ⟨h15_, ?_⟩
  refine ⟨h16_, ?_⟩
  refine ⟨la_newObject_23, ?_⟩
  refine ⟨(la_newObject_24 h55_), ?_⟩
  refine ⟨la_newObject_25, ?_⟩
  refine ⟨la_newObject_26, ?_⟩
  refine ⟨sm_F1_rf, ?_⟩
  refine ⟨sm_F1_rf, ?_⟩
  refine ⟨sm_F1_rf, ?_⟩
  refine ⟨sm_F1_rf, ?_⟩
  refine ⟨sm_F1_rf, ?_⟩
  refine ⟨la_newObject_27, ?_⟩
  refine ⟨la_newObject_28, ?_⟩
  refine ⟨la_newObject_29, ?_⟩
  refine ⟨?_, ?_⟩
  · skip
    intro h56_
    intro h57_
    have h58_ := (h57_.resolve_right (la_newObject_30 h55_))
    intro h59_
    have h60_ := (h59_.resolve_right (la_newObject_31 h55_))
    exact h56_
  intro h61_
  have h62_ := (h17_.resolve_left (la_newObject_32 h55_ h61_))
  have h63_ := (h23_ (la_newObject_33 h55_ h61_))
  obtain ⟨h64_, h65_⟩ := (h62_.resolve_left (la_newObject_34 h55_ h61_))
  refine ⟨?_, ?_⟩
  · skip
    exact ((la_newObject_35 h55_ h64_)).elim
  exact ((la_newObject_35 h55_ h64_)).elim
set_option maxRecDepth 8000 in
set_option maxHeartbeats 2000000 in
theorem t_newObject : ∀ (p1 : Int) (p2 : Int) (p3 : Int) (S : sv_S), sm_ok S → sv_R p1 → sv_R p2 → sv_R p3 → (sm_PL (S 1100020) (S 51) (S 52) (S 46) (S 47) (S 1076 0) (S 1086 0) ∧ sm_FR (S 1100020) (S 52) (S 1100021) (S 1100022) (3000 - (S 1084 0)) (S 1085 0) ∧ sm_PV (S 1100020) (S 48) (S 49) (S 50) (S 44) (S 1076 0) (S 1007 0) ∧ sm_AL (S 1100020) (S 48) (S 49) (S 50) (S 44) (S 1076 0) (S 1100032 0) ∧ sm_SV (S 1100020) (S 48) (S 1100029) (S 32) (S 33) (S 1076 0) (S 1032 0) ∧ 0 ≤ (S 1076 0) ∧ (S 1076 0) ≤ 300 ∧ 0 ≤ (S 1084 0) ∧ (S 1084 0) ≤ 3000 ∧ 0 ≤ (S 1086 0) ∧ sm_SC (S 1100029) (S 44) (S 45) (S 43) (S 21) (S 1076 0) (S 1032 0) ∧ sm_PO (S 42) (S 1076 0) ∧ (p1 = -1 ∨ (0 ≤ p1 ∧ p1 < (S 1076 0)) ∨ ((S 1076 0) = 0 ∧ p1 = 1)) ∧ ((S 1076 0) = 1 → p1 = -1) ∧ 0 ≤ p2 ∧ p2 ≤ 1000 ∧ 0 ≤ p3 ∧ p3 ≤ 3 ∧ (p3 = 2 → (S 1100032 0) = (S 1076 0))) → sv_T sm_XS sm_cs sm_L sm_sh 0 (q_newObject p1 p2 p3 S) 139 0 (lv_args 0 [.ref 0, sv_I p1, sv_I p2, sv_I p3]) [] S := by
  intro p1 p2 p3 S hok hp1 hp2 hp3 hpre
  have h := f_newObject p1 p2 p3 S hok hp1 hp2 hp3 hpre
  have hM := sm_h139
  show sv_T sm_XS sm_cs sm_L sm_sh 0 (q_newObject p1 p2 p3 S) 139 0 [(0, .ref 0), (1, sv_I p1), (2, sv_I p2), (3, sv_I p3)] [] S
  refine sv_aload_n hM dX12_newObject_0 rfl rfl ?_
  have k1 : sv_R (S 1076 0) := sm_okI hok sm_r1076 0
  have h := h k1
  refine sv_getI hM dX12_newObject_1 sm_fl_843 (sm_a0 _) sm_k76 rfl (x := (S 1076 0)) rfl ?_
  refine sv_sipush (d := (300 : Int)) hM dX12_newObject_4 rfl rfl ?_
  refine sv_icmp_ne hM dX12_newObject_7 k1 (⟨by decide, by decide⟩ : sv_R (300 : Int)) (t := 17) rfl rfl (fun hc => ?_) (fun hc => ?_)
  · have h := h.1 (hc)
    refine sv_iconst (d := (0 : Int)) hM dX12_newObject_17 rfl rfl ?_
    refine sv_istore hM dX12_newObject_18 (by decide) rfl ?_
    show sv_T sm_XS sm_cs sm_L sm_sh 0 (q_newObject p1 p2 p3 S) 139 20 [(0, .ref 0), (1, sv_I p1), (2, sv_I p2), (3, sv_I p3), (4, sv_I (0 : Int))] [] S
    obtain ⟨hin5, h⟩ := h
    have hJ : ∀ a : Int × sv_S, (sv_R a.1 ∧ sm_ok (sv_sts S [41] a.2) ∧ (0 ≤ a.1 ∧ a.1 ≤ (S 1076 0))) → sv_T sm_XS sm_cs sm_L sm_sh 0 (q_newObject p1 p2 p3 S) 139 20 [(0, .ref 0), (1, sv_I p1), (2, sv_I p2), (3, sv_I p3), (4, sv_I a.1)] [] (sv_sts S [41] a.2) := by
      refine sv_loop (α := Int × sv_S) (fun a => sv_R a.1 ∧ sm_ok (sv_sts S [41] a.2) ∧ (0 ≤ a.1 ∧ a.1 ≤ (S 1076 0))) (fun a => (S 1076 0) - a.1) (fun a => sv_T sm_XS sm_cs sm_L sm_sh 0 (q_newObject p1 p2 p3 S) 139 20 [(0, .ref 0), (1, sv_I p1), (2, sv_I p2), (3, sv_I p3), (4, sv_I a.1)] [] (sv_sts S [41] a.2)) (fun a q => (h a.1 q.1 a.2 q.2.2).1) (fun a q ih4 => ?_)
      obtain ⟨l4_3, g2⟩ := a
      obtain ⟨hl4_3, ok6, hin5i⟩ := q
      have h := (h l4_3 hl4_3 g2 hin5i).2
      show sv_T sm_XS sm_cs sm_L sm_sh 0 (q_newObject p1 p2 p3 S) 139 20 [(0, .ref 0), (1, sv_I p1), (2, sv_I p2), (3, sv_I p3), (4, sv_I l4_3)] [] (sv_sts S [41] g2)
      have md7 : sv_mod [1076, 41, 42, 43, 44, 45, 46, 47, 1075, 1100029] S (sv_sts S [41] g2) := sv_mod.sts sv_mod.rf (by decide)
      have md8 : sv_mod [41] S (sv_sts S [41] g2) := sv_mod.sts sv_mod.rf (by decide)
      refine sv_iload_n hM dX12_newObject_20 rfl rfl ?_
      refine sv_bipush (d := (29 : Int)) hM dX12_newObject_21 rfl rfl ?_
      refine sv_icmp_lt hM dX12_newObject_23 hp2 (⟨by decide, by decide⟩ : sv_R (29 : Int)) (t := 72) rfl rfl (fun hc => ?_) (fun hc => ?_)
      · have h := h.1 (hc)
        refine sv_aload_n hM dX12_newObject_72 rfl rfl ?_
        refine sv_getI hM dX12_newObject_73 sm_fl_843 (sm_a0 _) sm_k76 rfl (x := (S 1076 0)) rfl ?_
        refine sv_istore hM dX12_newObject_76 (by decide) rfl ?_
        show sv_T sm_XS sm_cs sm_L sm_sh 0 (q_newObject p1 p2 p3 S) 139 78 [(0, .ref 0), (1, sv_I p1), (2, sv_I p2), (3, sv_I p3), (4, sv_I (S 1076 0))] [] (sv_sts S [41] g2)
        refine sv_aload_n hM dX12_newObject_78 rfl rfl ?_
        refine sv_dupA hM dX12_newObject_79 rfl ?_
        refine sv_getI hM dX12_newObject_80 sm_fl_843 (sm_a0 _) sm_k76 rfl (x := (S 1076 0)) rfl ?_
        refine sv_iconst (d := (1 : Int)) hM dX12_newObject_83 rfl rfl ?_
        refine sv_iadd hM dX12_newObject_84 rfl ?_
        obtain ⟨o9, h⟩ := h
        refine sv_putI sm_X hM dX12_newObject_85 sm_fp_843 (sm_a0 _) sm_q76 (Or.inl rfl) rfl rfl rfl rfl ?_
        have ok10 : sm_ok (sv_up (sv_sts S [41] g2) 1076 0 ((S 1076 0) + (1 : Int))) := sm_upI ok6 sm_r1076 o9
        have md11 : sv_mod [1076, 41, 42, 43, 44, 45, 46, 47, 1075, 1100029] S (sv_up (sv_sts S [41] g2) 1076 0 ((S 1076 0) + (1 : Int))) := sv_mod.up md7 (by decide)
        refine sv_aload_n hM dX12_newObject_88 rfl rfl ?_
        refine sv_getA hM dX12_newObject_89 sm_fl_134 (sm_a0 _) sm_k77 rfl ?_
        refine sv_iload hM dX12_newObject_92 rfl rfl ?_
        refine sv_iload_n hM dX12_newObject_94 rfl rfl ?_
        obtain ⟨o12, h⟩ := h
        refine sv_iast sm_X hM dX12_newObject_95 (sm_a41 _) (by decide) o12.1 o12.2 rfl ?_
        have ok13 : sm_ok (sv_up (sv_up (sv_sts S [41] g2) 1076 0 ((S 1076 0) + (1 : Int))) 41 (S 1076 0) p2) := sm_upI ok10 sm_r41 hp2
        have md14 : sv_mod [1076, 41, 42, 43, 44, 45, 46, 47, 1075, 1100029] S (sv_up (sv_up (sv_sts S [41] g2) 1076 0 ((S 1076 0) + (1 : Int))) 41 (S 1076 0) p2) := sv_mod.up md11 (by decide)
        refine sv_aload_n hM dX12_newObject_96 rfl rfl ?_
        refine sv_getA hM dX12_newObject_97 sm_fl_137 (sm_a0 _) sm_k78 rfl ?_
        refine sv_iload hM dX12_newObject_100 rfl rfl ?_
        refine sv_iload_n hM dX12_newObject_102 rfl rfl ?_
        refine sv_iast sm_X hM dX12_newObject_103 (sm_a42 _) (by decide) o12.1 o12.2 rfl ?_
        have ok15 : sm_ok (sv_up (sv_up (sv_up (sv_sts S [41] g2) 1076 0 ((S 1076 0) + (1 : Int))) 41 (S 1076 0) p2) 42 (S 1076 0) p1) := sm_upI ok13 sm_r42 hp1
        have md16 : sv_mod [1076, 41, 42, 43, 44, 45, 46, 47, 1075, 1100029] S (sv_up (sv_up (sv_up (sv_sts S [41] g2) 1076 0 ((S 1076 0) + (1 : Int))) 41 (S 1076 0) p2) 42 (S 1076 0) p1) := sv_mod.up md14 (by decide)
        refine sv_aload_n hM dX12_newObject_104 rfl rfl ?_
        refine sv_getA hM dX12_newObject_105 sm_fl_140 (sm_a0 _) sm_k79 rfl ?_
        refine sv_iload hM dX12_newObject_108 rfl rfl ?_
        refine sv_iconst (d := (-1 : Int)) hM dX12_newObject_110 rfl rfl ?_
        refine sv_iast sm_X hM dX12_newObject_111 (sm_a43 _) (by decide) o12.1 o12.2 rfl ?_
        have ok17 : sm_ok (sv_up (sv_up (sv_up (sv_up (sv_sts S [41] g2) 1076 0 ((S 1076 0) + (1 : Int))) 41 (S 1076 0) p2) 42 (S 1076 0) p1) 43 (S 1076 0) (-1 : Int)) := sm_upI ok15 sm_r43 (⟨by decide, by decide⟩ : sv_R (-1 : Int))
        have md18 : sv_mod [1076, 41, 42, 43, 44, 45, 46, 47, 1075, 1100029] S (sv_up (sv_up (sv_up (sv_up (sv_sts S [41] g2) 1076 0 ((S 1076 0) + (1 : Int))) 41 (S 1076 0) p2) 42 (S 1076 0) p1) 43 (S 1076 0) (-1 : Int)) := sv_mod.up md16 (by decide)
        refine sv_aload_n hM dX12_newObject_112 rfl rfl ?_
        refine sv_getA hM dX12_newObject_113 sm_fl_143 (sm_a0 _) sm_k80 rfl ?_
        refine sv_iload hM dX12_newObject_116 rfl rfl ?_
        refine sv_iload_n hM dX12_newObject_118 rfl rfl ?_
        refine sv_iast sm_X hM dX12_newObject_119 (sm_a44 _) (by decide) o12.1 o12.2 rfl ?_
        have ok19 : sm_ok (sv_up (sv_up (sv_up (sv_up (sv_up (sv_sts S [41] g2) 1076 0 ((S 1076 0) + (1 : Int))) 41 (S 1076 0) p2) 42 (S 1076 0) p1) 43 (S 1076 0) (-1 : Int)) 44 (S 1076 0) p3) := sm_upI ok17 sm_r44 hp3
        have md20 : sv_mod [1076, 41, 42, 43, 44, 45, 46, 47, 1075, 1100029] S (sv_up (sv_up (sv_up (sv_up (sv_up (sv_sts S [41] g2) 1076 0 ((S 1076 0) + (1 : Int))) 41 (S 1076 0) p2) 42 (S 1076 0) p1) 43 (S 1076 0) (-1 : Int)) 44 (S 1076 0) p3) := sv_mod.up md18 (by decide)
        refine sv_aload_n hM dX12_newObject_120 rfl rfl ?_
        refine sv_getA hM dX12_newObject_121 sm_fl_146 (sm_a0 _) sm_k81 rfl ?_
        refine sv_iload hM dX12_newObject_124 rfl rfl ?_
        refine sv_iconst (d := (0 : Int)) hM dX12_newObject_126 rfl rfl ?_
        refine sv_iast sm_X hM dX12_newObject_127 (sm_a45 _) (by decide) o12.1 o12.2 rfl ?_
        have ok21 : sm_ok (sv_up (sv_up (sv_up (sv_up (sv_up (sv_up (sv_sts S [41] g2) 1076 0 ((S 1076 0) + (1 : Int))) 41 (S 1076 0) p2) 42 (S 1076 0) p1) 43 (S 1076 0) (-1 : Int)) 44 (S 1076 0) p3) 45 (S 1076 0) (0 : Int)) := sm_upI ok19 sm_r45 (⟨by decide, by decide⟩ : sv_R (0 : Int))
        have md22 : sv_mod [1076, 41, 42, 43, 44, 45, 46, 47, 1075, 1100029] S (sv_up (sv_up (sv_up (sv_up (sv_up (sv_up (sv_sts S [41] g2) 1076 0 ((S 1076 0) + (1 : Int))) 41 (S 1076 0) p2) 42 (S 1076 0) p1) 43 (S 1076 0) (-1 : Int)) 44 (S 1076 0) p3) 45 (S 1076 0) (0 : Int)) := sv_mod.up md20 (by decide)
        refine sv_aload_n hM dX12_newObject_128 rfl rfl ?_
        refine sv_getA hM dX12_newObject_129 sm_fl_149 (sm_a0 _) sm_k82 rfl ?_
        refine sv_iload hM dX12_newObject_132 rfl rfl ?_
        refine sv_iconst (d := (-1 : Int)) hM dX12_newObject_134 rfl rfl ?_
        refine sv_iast sm_X hM dX12_newObject_135 (sm_a46 _) (by decide) o12.1 o12.2 rfl ?_
        have ok23 : sm_ok (sv_up (sv_up (sv_up (sv_up (sv_up (sv_up (sv_up (sv_sts S [41] g2) 1076 0 ((S 1076 0) + (1 : Int))) 41 (S 1076 0) p2) 42 (S 1076 0) p1) 43 (S 1076 0) (-1 : Int)) 44 (S 1076 0) p3) 45 (S 1076 0) (0 : Int)) 46 (S 1076 0) (-1 : Int)) := sm_upI ok21 sm_r46 (⟨by decide, by decide⟩ : sv_R (-1 : Int))
        have md24 : sv_mod [1076, 41, 42, 43, 44, 45, 46, 47, 1075, 1100029] S (sv_up (sv_up (sv_up (sv_up (sv_up (sv_up (sv_up (sv_sts S [41] g2) 1076 0 ((S 1076 0) + (1 : Int))) 41 (S 1076 0) p2) 42 (S 1076 0) p1) 43 (S 1076 0) (-1 : Int)) 44 (S 1076 0) p3) 45 (S 1076 0) (0 : Int)) 46 (S 1076 0) (-1 : Int)) := sv_mod.up md22 (by decide)
        refine sv_aload_n hM dX12_newObject_136 rfl rfl ?_
        refine sv_getA hM dX12_newObject_137 sm_fl_152 (sm_a0 _) sm_k83 rfl ?_
        refine sv_iload hM dX12_newObject_140 rfl rfl ?_
        refine sv_iconst (d := (-1 : Int)) hM dX12_newObject_142 rfl rfl ?_
        refine sv_iast sm_X hM dX12_newObject_143 (sm_a47 _) (by decide) o12.1 o12.2 rfl ?_
        have ok25 : sm_ok (sv_up (sv_up (sv_up (sv_up (sv_up (sv_up (sv_up (sv_up (sv_sts S [41] g2) 1076 0 ((S 1076 0) + (1 : Int))) 41 (S 1076 0) p2) 42 (S 1076 0) p1) 43 (S 1076 0) (-1 : Int)) 44 (S 1076 0) p3) 45 (S 1076 0) (0 : Int)) 46 (S 1076 0) (-1 : Int)) 47 (S 1076 0) (-1 : Int)) := sm_upI ok23 sm_r47 (⟨by decide, by decide⟩ : sv_R (-1 : Int))
        have md26 : sv_mod [1076, 41, 42, 43, 44, 45, 46, 47, 1075, 1100029] S (sv_up (sv_up (sv_up (sv_up (sv_up (sv_up (sv_up (sv_up (sv_sts S [41] g2) 1076 0 ((S 1076 0) + (1 : Int))) 41 (S 1076 0) p2) 42 (S 1076 0) p1) 43 (S 1076 0) (-1 : Int)) 44 (S 1076 0) p3) 45 (S 1076 0) (0 : Int)) 46 (S 1076 0) (-1 : Int)) 47 (S 1076 0) (-1 : Int)) := sv_mod.up md24 (by decide)
        refine sv_ghost sm_X 1100029 (S 1076 0) (0 : Int) (by decide) ?_
        have ok27 : sm_ok (sv_up (sv_up (sv_up (sv_up (sv_up (sv_up (sv_up (sv_up (sv_up (sv_sts S [41] g2) 1076 0 ((S 1076 0) + (1 : Int))) 41 (S 1076 0) p2) 42 (S 1076 0) p1) 43 (S 1076 0) (-1 : Int)) 44 (S 1076 0) p3) 45 (S 1076 0) (0 : Int)) 46 (S 1076 0) (-1 : Int)) 47 (S 1076 0) (-1 : Int)) 1100029 (S 1076 0) (0 : Int)) := sm_upI ok25 sm_r1100029 (⟨by decide, by decide⟩ : sv_R (0 : Int))
        have md28 : sv_mod [1076, 41, 42, 43, 44, 45, 46, 47, 1075, 1100029] S (sv_up (sv_up (sv_up (sv_up (sv_up (sv_up (sv_up (sv_up (sv_up (sv_sts S [41] g2) 1076 0 ((S 1076 0) + (1 : Int))) 41 (S 1076 0) p2) 42 (S 1076 0) p1) 43 (S 1076 0) (-1 : Int)) 44 (S 1076 0) p3) 45 (S 1076 0) (0 : Int)) 46 (S 1076 0) (-1 : Int)) 47 (S 1076 0) (-1 : Int)) 1100029 (S 1076 0) (0 : Int)) := sv_mod.up md26 (by decide)
        refine sv_iload hM dX12_newObject_144 rfl rfl ?_
        exact sv_iret hM dX12_newObject_146 rfl rfl ⟨(S 1076 0), rfl, k1, ok27, md28, h⟩
      · have h := h.2 (hc)
        refine sv_iload hM dX12_newObject_26 rfl rfl ?_
        refine sv_aload_n hM dX12_newObject_28 rfl rfl ?_
        refine sv_getI hM dX12_newObject_29 sm_fl_843 (sm_a0 _) sm_k76 rfl (x := (S 1076 0)) rfl ?_
        refine sv_icmp_ge hM dX12_newObject_32 hl4_3 k1 (t := 72) rfl rfl (fun hc => ?_) (fun hc => ?_)
        · have h := h.1 (hc)
          refine sv_aload_n hM dX12_newObject_72 rfl rfl ?_
          refine sv_getI hM dX12_newObject_73 sm_fl_843 (sm_a0 _) sm_k76 rfl (x := (S 1076 0)) rfl ?_
          refine sv_istore hM dX12_newObject_76 (by decide) rfl ?_
          show sv_T sm_XS sm_cs sm_L sm_sh 0 (q_newObject p1 p2 p3 S) 139 78 [(0, .ref 0), (1, sv_I p1), (2, sv_I p2), (3, sv_I p3), (4, sv_I (S 1076 0))] [] (sv_sts S [41] g2)
          refine sv_aload_n hM dX12_newObject_78 rfl rfl ?_
          refine sv_dupA hM dX12_newObject_79 rfl ?_
          refine sv_getI hM dX12_newObject_80 sm_fl_843 (sm_a0 _) sm_k76 rfl (x := (S 1076 0)) rfl ?_
          refine sv_iconst (d := (1 : Int)) hM dX12_newObject_83 rfl rfl ?_
          refine sv_iadd hM dX12_newObject_84 rfl ?_
          obtain ⟨o29, h⟩ := h
          refine sv_putI sm_X hM dX12_newObject_85 sm_fp_843 (sm_a0 _) sm_q76 (Or.inl rfl) rfl rfl rfl rfl ?_
          have ok30 : sm_ok (sv_up (sv_sts S [41] g2) 1076 0 ((S 1076 0) + (1 : Int))) := sm_upI ok6 sm_r1076 o29
          have md31 : sv_mod [1076, 41, 42, 43, 44, 45, 46, 47, 1075, 1100029] S (sv_up (sv_sts S [41] g2) 1076 0 ((S 1076 0) + (1 : Int))) := sv_mod.up md7 (by decide)
          refine sv_aload_n hM dX12_newObject_88 rfl rfl ?_
          refine sv_getA hM dX12_newObject_89 sm_fl_134 (sm_a0 _) sm_k77 rfl ?_
          refine sv_iload hM dX12_newObject_92 rfl rfl ?_
          refine sv_iload_n hM dX12_newObject_94 rfl rfl ?_
          obtain ⟨o32, h⟩ := h
          refine sv_iast sm_X hM dX12_newObject_95 (sm_a41 _) (by decide) o32.1 o32.2 rfl ?_
          have ok33 : sm_ok (sv_up (sv_up (sv_sts S [41] g2) 1076 0 ((S 1076 0) + (1 : Int))) 41 (S 1076 0) p2) := sm_upI ok30 sm_r41 hp2
          have md34 : sv_mod [1076, 41, 42, 43, 44, 45, 46, 47, 1075, 1100029] S (sv_up (sv_up (sv_sts S [41] g2) 1076 0 ((S 1076 0) + (1 : Int))) 41 (S 1076 0) p2) := sv_mod.up md31 (by decide)
          refine sv_aload_n hM dX12_newObject_96 rfl rfl ?_
          refine sv_getA hM dX12_newObject_97 sm_fl_137 (sm_a0 _) sm_k78 rfl ?_
          refine sv_iload hM dX12_newObject_100 rfl rfl ?_
          refine sv_iload_n hM dX12_newObject_102 rfl rfl ?_
          refine sv_iast sm_X hM dX12_newObject_103 (sm_a42 _) (by decide) o32.1 o32.2 rfl ?_
          have ok35 : sm_ok (sv_up (sv_up (sv_up (sv_sts S [41] g2) 1076 0 ((S 1076 0) + (1 : Int))) 41 (S 1076 0) p2) 42 (S 1076 0) p1) := sm_upI ok33 sm_r42 hp1
          have md36 : sv_mod [1076, 41, 42, 43, 44, 45, 46, 47, 1075, 1100029] S (sv_up (sv_up (sv_up (sv_sts S [41] g2) 1076 0 ((S 1076 0) + (1 : Int))) 41 (S 1076 0) p2) 42 (S 1076 0) p1) := sv_mod.up md34 (by decide)
          refine sv_aload_n hM dX12_newObject_104 rfl rfl ?_
          refine sv_getA hM dX12_newObject_105 sm_fl_140 (sm_a0 _) sm_k79 rfl ?_
          refine sv_iload hM dX12_newObject_108 rfl rfl ?_
          refine sv_iconst (d := (-1 : Int)) hM dX12_newObject_110 rfl rfl ?_
          refine sv_iast sm_X hM dX12_newObject_111 (sm_a43 _) (by decide) o32.1 o32.2 rfl ?_
          have ok37 : sm_ok (sv_up (sv_up (sv_up (sv_up (sv_sts S [41] g2) 1076 0 ((S 1076 0) + (1 : Int))) 41 (S 1076 0) p2) 42 (S 1076 0) p1) 43 (S 1076 0) (-1 : Int)) := sm_upI ok35 sm_r43 (⟨by decide, by decide⟩ : sv_R (-1 : Int))
          have md38 : sv_mod [1076, 41, 42, 43, 44, 45, 46, 47, 1075, 1100029] S (sv_up (sv_up (sv_up (sv_up (sv_sts S [41] g2) 1076 0 ((S 1076 0) + (1 : Int))) 41 (S 1076 0) p2) 42 (S 1076 0) p1) 43 (S 1076 0) (-1 : Int)) := sv_mod.up md36 (by decide)
          refine sv_aload_n hM dX12_newObject_112 rfl rfl ?_
          refine sv_getA hM dX12_newObject_113 sm_fl_143 (sm_a0 _) sm_k80 rfl ?_
          refine sv_iload hM dX12_newObject_116 rfl rfl ?_
          refine sv_iload_n hM dX12_newObject_118 rfl rfl ?_
          refine sv_iast sm_X hM dX12_newObject_119 (sm_a44 _) (by decide) o32.1 o32.2 rfl ?_
          have ok39 : sm_ok (sv_up (sv_up (sv_up (sv_up (sv_up (sv_sts S [41] g2) 1076 0 ((S 1076 0) + (1 : Int))) 41 (S 1076 0) p2) 42 (S 1076 0) p1) 43 (S 1076 0) (-1 : Int)) 44 (S 1076 0) p3) := sm_upI ok37 sm_r44 hp3
          have md40 : sv_mod [1076, 41, 42, 43, 44, 45, 46, 47, 1075, 1100029] S (sv_up (sv_up (sv_up (sv_up (sv_up (sv_sts S [41] g2) 1076 0 ((S 1076 0) + (1 : Int))) 41 (S 1076 0) p2) 42 (S 1076 0) p1) 43 (S 1076 0) (-1 : Int)) 44 (S 1076 0) p3) := sv_mod.up md38 (by decide)
          refine sv_aload_n hM dX12_newObject_120 rfl rfl ?_
          refine sv_getA hM dX12_newObject_121 sm_fl_146 (sm_a0 _) sm_k81 rfl ?_
          refine sv_iload hM dX12_newObject_124 rfl rfl ?_
          refine sv_iconst (d := (0 : Int)) hM dX12_newObject_126 rfl rfl ?_
          refine sv_iast sm_X hM dX12_newObject_127 (sm_a45 _) (by decide) o32.1 o32.2 rfl ?_
          have ok41 : sm_ok (sv_up (sv_up (sv_up (sv_up (sv_up (sv_up (sv_sts S [41] g2) 1076 0 ((S 1076 0) + (1 : Int))) 41 (S 1076 0) p2) 42 (S 1076 0) p1) 43 (S 1076 0) (-1 : Int)) 44 (S 1076 0) p3) 45 (S 1076 0) (0 : Int)) := sm_upI ok39 sm_r45 (⟨by decide, by decide⟩ : sv_R (0 : Int))
          have md42 : sv_mod [1076, 41, 42, 43, 44, 45, 46, 47, 1075, 1100029] S (sv_up (sv_up (sv_up (sv_up (sv_up (sv_up (sv_sts S [41] g2) 1076 0 ((S 1076 0) + (1 : Int))) 41 (S 1076 0) p2) 42 (S 1076 0) p1) 43 (S 1076 0) (-1 : Int)) 44 (S 1076 0) p3) 45 (S 1076 0) (0 : Int)) := sv_mod.up md40 (by decide)
          refine sv_aload_n hM dX12_newObject_128 rfl rfl ?_
          refine sv_getA hM dX12_newObject_129 sm_fl_149 (sm_a0 _) sm_k82 rfl ?_
          refine sv_iload hM dX12_newObject_132 rfl rfl ?_
          refine sv_iconst (d := (-1 : Int)) hM dX12_newObject_134 rfl rfl ?_
          refine sv_iast sm_X hM dX12_newObject_135 (sm_a46 _) (by decide) o32.1 o32.2 rfl ?_
          have ok43 : sm_ok (sv_up (sv_up (sv_up (sv_up (sv_up (sv_up (sv_up (sv_sts S [41] g2) 1076 0 ((S 1076 0) + (1 : Int))) 41 (S 1076 0) p2) 42 (S 1076 0) p1) 43 (S 1076 0) (-1 : Int)) 44 (S 1076 0) p3) 45 (S 1076 0) (0 : Int)) 46 (S 1076 0) (-1 : Int)) := sm_upI ok41 sm_r46 (⟨by decide, by decide⟩ : sv_R (-1 : Int))
          have md44 : sv_mod [1076, 41, 42, 43, 44, 45, 46, 47, 1075, 1100029] S (sv_up (sv_up (sv_up (sv_up (sv_up (sv_up (sv_up (sv_sts S [41] g2) 1076 0 ((S 1076 0) + (1 : Int))) 41 (S 1076 0) p2) 42 (S 1076 0) p1) 43 (S 1076 0) (-1 : Int)) 44 (S 1076 0) p3) 45 (S 1076 0) (0 : Int)) 46 (S 1076 0) (-1 : Int)) := sv_mod.up md42 (by decide)
          refine sv_aload_n hM dX12_newObject_136 rfl rfl ?_
          refine sv_getA hM dX12_newObject_137 sm_fl_152 (sm_a0 _) sm_k83 rfl ?_
          refine sv_iload hM dX12_newObject_140 rfl rfl ?_
          refine sv_iconst (d := (-1 : Int)) hM dX12_newObject_142 rfl rfl ?_
          refine sv_iast sm_X hM dX12_newObject_143 (sm_a47 _) (by decide) o32.1 o32.2 rfl ?_
          have ok45 : sm_ok (sv_up (sv_up (sv_up (sv_up (sv_up (sv_up (sv_up (sv_up (sv_sts S [41] g2) 1076 0 ((S 1076 0) + (1 : Int))) 41 (S 1076 0) p2) 42 (S 1076 0) p1) 43 (S 1076 0) (-1 : Int)) 44 (S 1076 0) p3) 45 (S 1076 0) (0 : Int)) 46 (S 1076 0) (-1 : Int)) 47 (S 1076 0) (-1 : Int)) := sm_upI ok43 sm_r47 (⟨by decide, by decide⟩ : sv_R (-1 : Int))
          have md46 : sv_mod [1076, 41, 42, 43, 44, 45, 46, 47, 1075, 1100029] S (sv_up (sv_up (sv_up (sv_up (sv_up (sv_up (sv_up (sv_up (sv_sts S [41] g2) 1076 0 ((S 1076 0) + (1 : Int))) 41 (S 1076 0) p2) 42 (S 1076 0) p1) 43 (S 1076 0) (-1 : Int)) 44 (S 1076 0) p3) 45 (S 1076 0) (0 : Int)) 46 (S 1076 0) (-1 : Int)) 47 (S 1076 0) (-1 : Int)) := sv_mod.up md44 (by decide)
          refine sv_ghost sm_X 1100029 (S 1076 0) (0 : Int) (by decide) ?_
          have ok47 : sm_ok (sv_up (sv_up (sv_up (sv_up (sv_up (sv_up (sv_up (sv_up (sv_up (sv_sts S [41] g2) 1076 0 ((S 1076 0) + (1 : Int))) 41 (S 1076 0) p2) 42 (S 1076 0) p1) 43 (S 1076 0) (-1 : Int)) 44 (S 1076 0) p3) 45 (S 1076 0) (0 : Int)) 46 (S 1076 0) (-1 : Int)) 47 (S 1076 0) (-1 : Int)) 1100029 (S 1076 0) (0 : Int)) := sm_upI ok45 sm_r1100029 (⟨by decide, by decide⟩ : sv_R (0 : Int))
          have md48 : sv_mod [1076, 41, 42, 43, 44, 45, 46, 47, 1075, 1100029] S (sv_up (sv_up (sv_up (sv_up (sv_up (sv_up (sv_up (sv_up (sv_up (sv_sts S [41] g2) 1076 0 ((S 1076 0) + (1 : Int))) 41 (S 1076 0) p2) 42 (S 1076 0) p1) 43 (S 1076 0) (-1 : Int)) 44 (S 1076 0) p3) 45 (S 1076 0) (0 : Int)) 46 (S 1076 0) (-1 : Int)) 47 (S 1076 0) (-1 : Int)) 1100029 (S 1076 0) (0 : Int)) := sv_mod.up md46 (by decide)
          refine sv_iload hM dX12_newObject_144 rfl rfl ?_
          exact sv_iret hM dX12_newObject_146 rfl rfl ⟨(S 1076 0), rfl, k1, ok47, md48, h⟩
        · have h := h.2 (hc)
          refine sv_aload_n hM dX12_newObject_35 rfl rfl ?_
          refine sv_getA hM dX12_newObject_36 sm_fl_134 (sm_a0 _) sm_k77 rfl ?_
          refine sv_iload hM dX12_newObject_39 rfl rfl ?_
          refine sv_aload_n hM dX12_newObject_41 rfl rfl ?_
          refine sv_getA hM dX12_newObject_42 sm_fl_134 (sm_a0 _) sm_k77 rfl ?_
          refine sv_iload hM dX12_newObject_45 rfl rfl ?_
          obtain ⟨o49, h⟩ := h
          have k50 : sv_R (g2 41 l4_3) := sm_okI ok6 sm_r41 l4_3
          have h := h k50
          refine sv_iald hM dX12_newObject_47 (sm_a41 _) (by decide) o49.1 o49.2 rfl (x := (g2 41 l4_3)) rfl ?_
          refine sv_iload_n hM dX12_newObject_48 rfl rfl ?_
          refine sv_icmp_ne hM dX12_newObject_49 k50 hp2 (t := 58) rfl rfl (fun hc => ?_) (fun hc => ?_)
          · have h := h.1 (hc)
            refine sv_aload_n hM dX12_newObject_58 rfl rfl ?_
            refine sv_getA hM dX12_newObject_59 sm_fl_134 (sm_a0 _) sm_k77 rfl ?_
            refine sv_iload hM dX12_newObject_62 rfl rfl ?_
            refine sv_iald hM dX12_newObject_64 (sm_a41 _) (by decide) o49.1 o49.2 rfl (x := (g2 41 l4_3)) rfl ?_
            refine sv_iast sm_X hM dX12_newObject_65 (sm_a41 _) (by decide) o49.1 o49.2 rfl ?_
            have ok51 : sm_ok (sv_up (sv_sts S [41] g2) 41 l4_3 (g2 41 l4_3)) := sm_upI ok6 sm_r41 k50
            have md52 : sv_mod [1076, 41, 42, 43, 44, 45, 46, 47, 1075, 1100029] S (sv_up (sv_sts S [41] g2) 41 l4_3 (g2 41 l4_3)) := sv_mod.up md7 (by decide)
            have md53 : sv_mod [41] S (sv_up (sv_sts S [41] g2) 41 l4_3 (g2 41 l4_3)) := sv_mod.up md8 (by decide)
            refine sv_iinc (d := (1 : Int)) hM dX12_newObject_66 rfl (by decide) rfl rfl ?_
            show sv_T sm_XS sm_cs sm_L sm_sh 0 (q_newObject p1 p2 p3 S) 139 69 [(0, .ref 0), (1, sv_I p1), (2, sv_I p2), (3, sv_I p3), (4, sv_I (l4_3 + (1 : Int)))] [] (sv_up (sv_sts S [41] g2) 41 l4_3 (g2 41 l4_3))
            refine sv_goto hM dX12_newObject_69 (pc' := 20) rfl ?_
            obtain ⟨o54, h⟩ := h
            have eS := sv_mod.eq md53
            have hb := ih4 ((l4_3 + (1 : Int)), (sv_up (sv_sts S [41] g2) 41 l4_3 (g2 41 l4_3))) ⟨o54, (by rw [← eS]; exact ok51), h.1⟩ h.2
            have hb : sv_T sm_XS sm_cs sm_L sm_sh 0 (q_newObject p1 p2 p3 S) 139 20 [(0, .ref 0), (1, sv_I p1), (2, sv_I p2), (3, sv_I p3), (4, sv_I (l4_3 + (1 : Int)))] [] (sv_up (sv_sts S [41] g2) 41 l4_3 (g2 41 l4_3)) := Eq.mpr (congrArg (fun Z => sv_T sm_XS sm_cs sm_L sm_sh 0 (q_newObject p1 p2 p3 S) 139 20 [(0, .ref 0), (1, sv_I p1), (2, sv_I p2), (3, sv_I p3), (4, sv_I (l4_3 + (1 : Int)))] [] Z) eS) hb
            exact sv_less (lv := [(0, .ref 0), (1, sv_I p1), (2, sv_I p2), (3, sv_I p3), (4, sv_I (l4_3 + (1 : Int)))]) (sv_Sub_cons rfl (sv_Sub_cons rfl (sv_Sub_cons rfl (sv_Sub_cons rfl (sv_Sub_cons rfl sv_Sub_nil))))) hb
          · have h := h.2 (hc)
            refine sv_iload_n hM dX12_newObject_52 rfl rfl ?_
            refine sv_iconst (d := (1 : Int)) hM dX12_newObject_53 rfl rfl ?_
            refine sv_iadd hM dX12_newObject_54 rfl ?_
            refine sv_goto hM dX12_newObject_55 (pc' := 65) rfl ?_
            obtain ⟨o55, h⟩ := h
            refine sv_iast sm_X hM dX12_newObject_65 (sm_a41 _) (by decide) o49.1 o49.2 rfl ?_
            have ok56 : sm_ok (sv_up (sv_sts S [41] g2) 41 l4_3 (p2 + (1 : Int))) := sm_upI ok6 sm_r41 o55
            have md57 : sv_mod [1076, 41, 42, 43, 44, 45, 46, 47, 1075, 1100029] S (sv_up (sv_sts S [41] g2) 41 l4_3 (p2 + (1 : Int))) := sv_mod.up md7 (by decide)
            have md58 : sv_mod [41] S (sv_up (sv_sts S [41] g2) 41 l4_3 (p2 + (1 : Int))) := sv_mod.up md8 (by decide)
            refine sv_iinc (d := (1 : Int)) hM dX12_newObject_66 rfl (by decide) rfl rfl ?_
            show sv_T sm_XS sm_cs sm_L sm_sh 0 (q_newObject p1 p2 p3 S) 139 69 [(0, .ref 0), (1, sv_I p1), (2, sv_I p2), (3, sv_I p3), (4, sv_I (l4_3 + (1 : Int)))] [] (sv_up (sv_sts S [41] g2) 41 l4_3 (p2 + (1 : Int)))
            refine sv_goto hM dX12_newObject_69 (pc' := 20) rfl ?_
            obtain ⟨o59, h⟩ := h
            have eS := sv_mod.eq md58
            have hb := ih4 ((l4_3 + (1 : Int)), (sv_up (sv_sts S [41] g2) 41 l4_3 (p2 + (1 : Int)))) ⟨o59, (by rw [← eS]; exact ok56), h.1⟩ h.2
            have hb : sv_T sm_XS sm_cs sm_L sm_sh 0 (q_newObject p1 p2 p3 S) 139 20 [(0, .ref 0), (1, sv_I p1), (2, sv_I p2), (3, sv_I p3), (4, sv_I (l4_3 + (1 : Int)))] [] (sv_up (sv_sts S [41] g2) 41 l4_3 (p2 + (1 : Int))) := Eq.mpr (congrArg (fun Z => sv_T sm_XS sm_cs sm_L sm_sh 0 (q_newObject p1 p2 p3 S) 139 20 [(0, .ref 0), (1, sv_I p1), (2, sv_I p2), (3, sv_I p3), (4, sv_I (l4_3 + (1 : Int)))] [] Z) eS) hb
            exact sv_less (lv := [(0, .ref 0), (1, sv_I p1), (2, sv_I p2), (3, sv_I p3), (4, sv_I (l4_3 + (1 : Int)))]) (sv_Sub_cons rfl (sv_Sub_cons rfl (sv_Sub_cons rfl (sv_Sub_cons rfl (sv_Sub_cons rfl sv_Sub_nil))))) hb
    have eS := sv_mod.eq (sv_mod.rf (l := [41]) (S := S))
    have hb := hJ ((0 : Int), S) ⟨(⟨by decide, by decide⟩ : sv_R (0 : Int)), (by rw [← eS]; exact hok), hin5⟩
    have hb : sv_T sm_XS sm_cs sm_L sm_sh 0 (q_newObject p1 p2 p3 S) 139 20 [(0, .ref 0), (1, sv_I p1), (2, sv_I p2), (3, sv_I p3), (4, sv_I (0 : Int))] [] S := Eq.mpr (congrArg (fun Z => sv_T sm_XS sm_cs sm_L sm_sh 0 (q_newObject p1 p2 p3 S) 139 20 [(0, .ref 0), (1, sv_I p1), (2, sv_I p2), (3, sv_I p3), (4, sv_I (0 : Int))] [] Z) eS) hb
    exact hb
  · have h := h.2 (hc)
    refine sv_aload_n hM dX12_newObject_10 rfl rfl ?_
    refine sv_iconst (d := (1 : Int)) hM dX12_newObject_11 rfl rfl ?_
    refine sv_putI sm_X hM dX12_newObject_12 sm_fp_794 (sm_a0 _) sm_q75 (Or.inr rfl) rfl (sv_nz (⟨by decide, by decide⟩ : 0 ≤ (1 : Int) ∧ (1 : Int) ≤ 1)) (sv_fz (⟨by decide, by decide⟩ : 0 ≤ (1 : Int) ∧ (1 : Int) ≤ 1)) rfl ?_
    have ok60 : sm_ok (sv_up S 1075 0 (1 : Int)) := sm_upZ hok sm_r1075 (⟨by decide, by decide⟩ : 0 ≤ (1 : Int) ∧ (1 : Int) ≤ 1)
    have md61 : sv_mod [1076, 41, 42, 43, 44, 45, 46, 47, 1075, 1100029] S (sv_up S 1075 0 (1 : Int)) := sv_mod.up sv_mod.rf (by decide)
    refine sv_iconst (d := (0 : Int)) hM dX12_newObject_15 rfl rfl ?_
    exact sv_iret hM dX12_newObject_16 rfl rfl ⟨(0 : Int), rfl, (⟨by decide, by decide⟩ : sv_R (0 : Int)), ok60, md61, h⟩
def q_read_ (p1 : Int) (p2 : Int) (S : sv_S) : Option Value → sv_S → Prop := fun v S' => ∃ r : Int, v = some (sv_I r) ∧ sv_R r ∧ sm_ok S' ∧ sv_mod [1111, 1112] S S' ∧ ((r = 0 ∨ r = 1) ∧ sm_VO (S' 44) (S' 1076 0) (S' 1007 0) ((S' 1111 0)) ((S' 1112 0)))
theorem la_read__0 {x0 : Int} (h0 : 0 ≤ x0) : (-1) ≤ x0 := by omega
theorem la_read__1 {x0 x1 x2 : Int} (h0 : 0 ≤ x0) (h1 : x0 < x1) (h2 : 0 ≤ x2) : (-1) ≤ x0 ∧ x0 < x1 ∧ 0 ≤ x2 := by omega
theorem la_read__2 : (0 : Int) = 0 ∨ (0 : Int) = 1 := by omega
theorem la_read__3 {x0 : Int} (h0 : x0 = 0) : 0 ≤ x0 := by omega
theorem la_read__4 {x0 : Int} (h0 : x0 = 0) : x0 ≤ 7 := by omega
theorem la_read__5 {x0 x1 x2 : Int} (h0 : x0 = 0) : x0 = 6 → 0 ≤ x1 ∧ x1 < x2 := by omega
theorem la_read__6 {x0 x1 x2 x3 : Int} (h0 : x0 = 0) : x0 = 7 → 0 ≤ x1 ∧ x1 < x2 ∧ ¬ x3 = 3 := by omega
theorem la_read__7 {x0 : Int} (h0 : (-1) ≤ x0) (h1 : ¬ x0 = (-1)) : (-1) < x0 := by omega
theorem la_read__8 {x0 x1 x2 x3 : Int} (h0 : x0 ≤ 300) (h1 : 0 ≤ x1) (h2 : x1 ≤ 3000) (h3 : 0 ≤ x2) (h4 : 2 ≤ x0) (h5 : x3 < x0) (h6 : (-1) < x3) : 0 ≤ x0 ∧ x0 ≤ 300 ∧ 0 ≤ x1 ∧ x1 ≤ 3000 ∧ 0 ≤ x2 ∧ 0 ≤ x3 ∧ x3 < x0 := by omega
theorem la_read__9 {x0 x1 x2 x3 x4 : Int} (h0 : x0 = (-1)) : ¬ (0 ≤ x0 ∧ x0 < 3000 ∧ x1 = x2 ∧ x3 = x4) := by omega
theorem la_read__10 {x0 : Int} (h0 : (-1) < x0) : 0 ≤ x0 := by omega
theorem la_read__11 {x0 x1 : Int} (h0 : x0 ≤ 300) (h1 : x1 < x0) (h2 : (-1) < x1) : 0 ≤ x1 ∧ x1 < 300 := by omega
theorem la_read__12 {x0 x1 x2 : Int} (h0 : x0 = (-1) ∨ 0 ≤ x0 ∧ x0 < x1 ∧ (x0 < x2 ∨ x2 = 0 ∧ x0 = 1) ∧ ¬ x2 = 1) : (-1) ≤ x0 := by omega
theorem la_read__13 {x0 x1 x2 : Int} (h0 : 2 ≤ x0) (h1 : x1 < x0) (h2 : x2 = (-1) ∨ 0 ≤ x2 ∧ x2 < x0 ∧ (x2 < x1 ∨ x1 = 0 ∧ x2 = 1) ∧ ¬ x1 = 1) : x2 < x0 := by omega
theorem la_read__14 {x0 x1 x2 x3 : Int} (h0 : x0 = (-1) ∨ 0 ≤ x0 ∧ x0 < x1 ∧ (x0 < x2 ∨ x2 = 0 ∧ x0 = 1) ∧ ¬ x2 = 1) (h1 : (-1) ≤ x0 → 0 ≤ x3) : 0 ≤ x3 := by omega
theorem la_read__15 {x0 x1 : Int} (h0 : (-1) < x0) (h1 : x1 = x0) : 0 ≤ x1 := by omega
theorem la_read__16 {x0 : Int} (h0 : 0 ≤ x0) (h1 : x0 < 3000) : 0 ≤ x0 ∧ x0 < 3000 := by omega
theorem la_read__17 : (1 : Int) = 0 ∨ (1 : Int) = 1 := by omega
set_option maxHeartbeats 2000000 in
theorem f_read_ : ∀ (p1 : Int) (p2 : Int) (S : sv_S), sm_ok S → sv_R p1 → sv_R p2 → (sm_PL (S 1100020) (S 51) (S 52) (S 46) (S 47) (S 1076 0) (S 1086 0) ∧ sm_FR (S 1100020) (S 52) (S 1100021) (S 1100022) (3000 - (S 1084 0)) (S 1085 0) ∧ sm_PV (S 1100020) (S 48) (S 49) (S 50) (S 44) (S 1076 0) (S 1007 0) ∧ sm_AL (S 1100020) (S 48) (S 49) (S 50) (S 44) (S 1076 0) (S 1100032 0) ∧ sm_SV (S 1100020) (S 48) (S 1100029) (S 32) (S 33) (S 1076 0) (S 1032 0) ∧ 0 ≤ (S 1076 0) ∧ (S 1076 0) ≤ 300 ∧ 0 ≤ (S 1084 0) ∧ (S 1084 0) ≤ 3000 ∧ 0 ≤ (S 1086 0) ∧ sm_SC (S 1100029) (S 44) (S 45) (S 43) (S 21) (S 1076 0) (S 1032 0) ∧ sm_PO (S 42) (S 1076 0) ∧ 2 ≤ (S 1076 0) ∧ 0 ≤ p1 ∧ p1 < (S 1076 0)) → ((-1 ≤ p1 → 0 ≤ sm_pm p1) → ((-1 ≤ p1 ∧ p1 < (S 1076 0) ∧ 0 ≤ sm_pm p1) ∧ (∀ l3_2 : Int, sv_R l3_2 → (-1 ≤ l3_2 ∧ l3_2 < (S 1076 0) ∧ 0 ≤ sm_pm l3_2) → (0 ≤ sm_pm l3_2) ∧ (((l3_2 = (-1 : Int)) → (∀ g6 : sv_S, ((g6 1111 0) = (0 : Int) ∧ (g6 1112 0) = (0 : Int)) → (((0 : Int) = 0 ∨ (0 : Int) = 1) ∧ sm_VO (S 44) (S 1076 0) (S 1007 0) ((g6 1111 0)) ((g6 1112 0))))) ∧ ((¬ (l3_2 = (-1 : Int))) → (sm_PL (S 1100020) (S 51) (S 52) (S 46) (S 47) (S 1076 0) (S 1086 0) ∧ 0 ≤ (S 1076 0) ∧ (S 1076 0) ≤ 300 ∧ 0 ≤ (S 1084 0) ∧ (S 1084 0) ≤ 3000 ∧ 0 ≤ (S 1086 0) ∧ 0 ≤ l3_2 ∧ l3_2 < (S 1076 0)) ∧ (∀ r16 : Int, sv_R r16 → ((r16 = -1 ∨ (0 ≤ r16 ∧ r16 < 3000 ∧ (S 1100020 r16) = l3_2 ∧ (S 48 r16) = p2)) ∧ (r16 = -1 → sm_NB (S 1100020) (S 51) (S 48) (l3_2) (p2) (-1))) → (((r16 = (-1 : Int)) → ((sm_PO (S 42) (S 1076 0) → 0 ≤ l3_2 → l3_2 < (S 1076 0) → 2 ≤ (S 1076 0) → (S 42 l3_2) = -1 ∨ (0 ≤ (S 42 l3_2) ∧ (S 42 l3_2) < (S 1076 0) ∧ ((S 42 l3_2) < l3_2 ∨ (l3_2 = 0 ∧ (S 42 l3_2) = 1)) ∧ ¬ l3_2 = 1)) → ((-1 ≤ (S 42 l3_2) → 0 ≤ sm_pm (S 42 l3_2)) → ((sm_PO (S 42) (S 1076 0) → 0 ≤ l3_2 → l3_2 < (S 1076 0) → sm_pm (S 42 l3_2) < sm_pm l3_2) → (0 ≤ l3_2 ∧ l3_2 < 300) ∧ (sv_R (S 42 l3_2) → ((-1 ≤ (S 42 l3_2) ∧ (S 42 l3_2) < (S 1076 0) ∧ 0 ≤ sm_pm (S 42 l3_2)) ∧ (sm_pm (S 42 l3_2)) < (sm_pm l3_2))))))) ∧ ((¬ (r16 = (-1 : Int))) → ((sm_PV (S 1100020) (S 48) (S 49) (S 50) (S 44) (S 1076 0) (S 1007 0) → 0 ≤ r16 → r16 < 3000 → 0 ≤ (S 1100020 r16) → (0 ≤ (S 48 r16) ∧ (S 48 r16) < (S 1007 0)) ∧ sm_VO (S 44) (S 1076 0) (S 1007 0) ((S 49 r16)) ((S 50 r16))) → (0 ≤ r16 ∧ r16 < 3000) ∧ (sv_R (S 49 r16) → (sv_R (S 50 r16) → (∀ g26 : sv_S, ((g26 1111 0) = (S 49 r16) ∧ (g26 1112 0) = (S 50 r16)) → (((1 : Int) = 0 ∨ (1 : Int) = 1) ∧ sm_VO (S 44) (S 1076 0) (S 1007 0) ((g26 1111 0)) ((g26 1112 0))))))))))))))) := by
  intro p1
  intro p2
  intro S
  intro h1_
  intro h2_
  intro h3_
  rintro ⟨h4_, ⟨h5_, ⟨h6_, ⟨h7_, ⟨h8_, ⟨h9_, ⟨h10_, ⟨h11_, ⟨h12_, ⟨h13_, ⟨h14_, ⟨h15_, ⟨h16_, ⟨h17_, h18_⟩⟩⟩⟩⟩⟩⟩⟩⟩⟩⟩⟩⟩⟩
  intro h19_
  have h20_ := (h19_ (la_read__0 h17_))
  refine ⟨(la_read__1 h17_ h18_ h20_), ?_⟩
  intro l3_2
  intro h21_
  rintro ⟨h22_, ⟨h23_, h24_⟩⟩
  refine ⟨h24_, ?_⟩
  refine ⟨?_, ?_⟩
  · skip
    intro h25_
    intro g6
    rintro ⟨h26_, h27_⟩
    refine ⟨la_read__2, ?_⟩
    exact (sm_VO_i (la_read__3 h26_) (la_read__4 h26_) (la_read__5 h26_) (la_read__6 h26_))
  intro h28_
  refine ⟨⟨h4_, (la_read__8 h10_ h11_ h12_ h13_ h16_ h23_ (la_read__7 h22_ h28_))⟩, ?_⟩
  intro r16
  intro h29_
  rintro ⟨h30_, h31_⟩
  refine ⟨?_, ?_⟩
  · skip
    intro h32_
    have h33_ := (h30_.resolve_right (la_read__9 h32_))
    have h34_ := (h31_ h32_)
    intro h35_
    have h36_ := (h35_ h15_)
    have h37_ := (h36_ (la_read__10 (la_read__7 h22_ h28_)))
    have h38_ := (h37_ h23_)
    have h39_ := (h38_ h16_)
    intro h40_
    intro h41_
    have h42_ := (h41_ h15_)
    have h43_ := (h42_ (la_read__10 (la_read__7 h22_ h28_)))
    have h44_ := (h43_ h23_)
    refine ⟨(la_read__11 h10_ h23_ (la_read__7 h22_ h28_)), ?_⟩
    intro h45_
    refine ⟨?_, ?_⟩
    · skip
      refine ⟨?_, ?_⟩
      · skip
        exact (la_read__12 h39_)
      refine ⟨?_, ?_⟩
      · skip
        exact (la_read__13 h16_ h23_ h39_)
      exact (la_read__14 h39_ h40_)
    exact h44_
  intro h46_
  obtain ⟨h47_, ⟨h48_, ⟨h49_, h50_⟩⟩⟩ := (h30_.resolve_left h46_)
  intro h51_
  have h52_ := (h51_ h6_)
  have h53_ := (h52_ h47_)
  have h54_ := (h53_ h48_)
  obtain ⟨⟨h55_, h56_⟩, h57_⟩ := (h54_ (la_read__15 (la_read__7 h22_ h28_) h49_))
  refine ⟨(la_read__16 h47_ h48_), ?_⟩
  intro h58_
  intro h59_
  intro g26
  rintro ⟨h60_, h61_⟩
  refine ⟨la_read__17, ?_⟩
  exact (sm_VO_eq h57_ h60_ h61_)
set_option maxRecDepth 8000 in
set_option maxHeartbeats 2000000 in
theorem t_read_ : ∀ (p1 : Int) (p2 : Int) (S : sv_S), sm_ok S → sv_R p1 → sv_R p2 → (sm_PL (S 1100020) (S 51) (S 52) (S 46) (S 47) (S 1076 0) (S 1086 0) ∧ sm_FR (S 1100020) (S 52) (S 1100021) (S 1100022) (3000 - (S 1084 0)) (S 1085 0) ∧ sm_PV (S 1100020) (S 48) (S 49) (S 50) (S 44) (S 1076 0) (S 1007 0) ∧ sm_AL (S 1100020) (S 48) (S 49) (S 50) (S 44) (S 1076 0) (S 1100032 0) ∧ sm_SV (S 1100020) (S 48) (S 1100029) (S 32) (S 33) (S 1076 0) (S 1032 0) ∧ 0 ≤ (S 1076 0) ∧ (S 1076 0) ≤ 300 ∧ 0 ≤ (S 1084 0) ∧ (S 1084 0) ≤ 3000 ∧ 0 ≤ (S 1086 0) ∧ sm_SC (S 1100029) (S 44) (S 45) (S 43) (S 21) (S 1076 0) (S 1032 0) ∧ sm_PO (S 42) (S 1076 0) ∧ 2 ≤ (S 1076 0) ∧ 0 ≤ p1 ∧ p1 < (S 1076 0)) → sv_T sm_XS sm_cs sm_L sm_sh 1 (q_read_ p1 p2 S) 143 0 (lv_args 0 [.ref 0, sv_I p1, sv_I p2]) [] S := by
  intro p1 p2 S hok hp1 hp2 hpre
  have h := f_read_ p1 p2 S hok hp1 hp2 hpre
  have hM := sm_h143
  show sv_T sm_XS sm_cs sm_L sm_sh 1 (q_read_ p1 p2 S) 143 0 [(0, .ref 0), (1, sv_I p1), (2, sv_I p2)] [] S
  have k1 : (-1 ≤ p1 → 0 ≤ sm_pm p1) := sm_pm_0
  have h := h k1
  refine sv_iload_n hM dX12_read__0 rfl rfl ?_
  refine sv_istore_n hM dX12_read__1 (by decide) rfl ?_
  show sv_T sm_XS sm_cs sm_L sm_sh 1 (q_read_ p1 p2 S) 143 2 [(0, .ref 0), (1, sv_I p1), (2, sv_I p2), (3, sv_I p1)] [] S
  obtain ⟨hin4, h⟩ := h
  have hJ : ∀ a : Int × Unit, (sv_R a.1 ∧ sm_ok S ∧ (-1 ≤ a.1 ∧ a.1 < (S 1076 0) ∧ 0 ≤ sm_pm a.1)) → sv_T sm_XS sm_cs sm_L sm_sh 1 (q_read_ p1 p2 S) 143 2 [(0, .ref 0), (1, sv_I p1), (2, sv_I p2), (3, sv_I a.1)] [] S := by
    refine sv_loop (α := Int × Unit) (fun a => sv_R a.1 ∧ sm_ok S ∧ (-1 ≤ a.1 ∧ a.1 < (S 1076 0) ∧ 0 ≤ sm_pm a.1)) (fun a => sm_pm a.1) (fun a => sv_T sm_XS sm_cs sm_L sm_sh 1 (q_read_ p1 p2 S) 143 2 [(0, .ref 0), (1, sv_I p1), (2, sv_I p2), (3, sv_I a.1)] [] S) (fun a q => (h a.1 q.1 q.2.2).1) (fun a q ih3 => ?_)
    obtain ⟨l3_2, _u⟩ := a
    obtain ⟨hl3_2, ok5, hin4i⟩ := q
    have h := (h l3_2 hl3_2 hin4i).2
    show sv_T sm_XS sm_cs sm_L sm_sh 1 (q_read_ p1 p2 S) 143 2 [(0, .ref 0), (1, sv_I p1), (2, sv_I p2), (3, sv_I l3_2)] [] S
    refine sv_iload_n hM dX12_read__2 rfl rfl ?_
    refine sv_iconst (d := (-1 : Int)) hM dX12_read__3 rfl rfl ?_
    refine sv_icmp_eq hM dX12_read__4 hl3_2 (⟨by decide, by decide⟩ : sv_R (-1 : Int)) (t := 51) rfl rfl (fun hc => ?_) (fun hc => ?_)
    · have h := h.1 (hc)
      refine sv_aload_n hM dX12_read__51 rfl rfl ?_
      refine sv_iconst (d := (0 : Int)) hM dX12_read__52 rfl rfl ?_
      refine sv_iconst (d := (0 : Int)) hM dX12_read__53 rfl rfl ?_
      refine sv_callV hM dX12_read__54 sm_iv_822 (by decide) (sm_a0 _) rfl rfl (Nat.le_of_ble_eq_true rfl) sm_h122 (Nat.le_of_ble_eq_true rfl) (Nat.le_of_ble_eq_true rfl) (F' := 0) (Nat.le_of_ble_eq_true rfl) rfl (t_give_ (0 : Int) (0 : Int) S ok5 (⟨by decide, by decide⟩ : sv_R (0 : Int)) (⟨by decide, by decide⟩ : sv_R (0 : Int))) (fun v S1 hq => ?_)
      obtain ⟨rfl, ok7, md8, hpo9⟩ := hq
      obtain ⟨g6, rfl⟩ : ∃ g, S1 = sv_sts S [1111, 1112] g := ⟨_, md8.eq⟩
      show sv_T sm_XS sm_cs sm_L sm_sh 1 (q_read_ p1 p2 S) 143 57 [(0, .ref 0), (1, sv_I p1), (2, sv_I p2), (3, sv_I l3_2)] [] (sv_sts S [1111, 1112] g6)
      have md10 : sv_mod [1111, 1112] S (sv_sts S [1111, 1112] g6) := sv_mod.sts sv_mod.rf (by decide)
      have h := h g6 hpo9
      refine sv_iconst (d := (0 : Int)) hM dX12_read__57 rfl rfl ?_
      exact sv_iret hM dX12_read__58 rfl (sv_nz (⟨by decide, by decide⟩ : 0 ≤ (0 : Int) ∧ (0 : Int) ≤ 1)) ⟨(0 : Int), rfl, sv_R01 (⟨by decide, by decide⟩ : 0 ≤ (0 : Int) ∧ (0 : Int) ≤ 1), ok7, md10, h⟩
    · have h := h.2 (hc)
      refine sv_aload_n hM dX12_read__7 rfl rfl ?_
      refine sv_iload_n hM dX12_read__8 rfl rfl ?_
      refine sv_iload_n hM dX12_read__9 rfl rfl ?_
      obtain ⟨o11, h⟩ := h
      refine sv_callV hM dX12_read__10 sm_iv_846 (by decide) (sm_a0 _) rfl rfl (Nat.le_of_ble_eq_true rfl) sm_h140 (Nat.le_of_ble_eq_true rfl) (Nat.le_of_ble_eq_true rfl) (F' := 0) (Nat.le_of_ble_eq_true rfl) rfl (t_findProperty l3_2 p2 S ok5 hl3_2 hp2 o11) (fun v S1 hq => ?_)
      obtain ⟨r16, rfl, hr16, ok13, md14, hpo15⟩ := hq
      obtain rfl : S = S1 := (funext fun j => md14 j (by intro q; cases q)).symm
      show sv_T sm_XS sm_cs sm_L sm_sh 1 (q_read_ p1 p2 S) 143 13 [(0, .ref 0), (1, sv_I p1), (2, sv_I p2), (3, sv_I l3_2)] [sv_I r16] S
      have h := h r16 hr16 hpo15
      refine sv_istore hM dX12_read__13 (by decide) rfl ?_
      show sv_T sm_XS sm_cs sm_L sm_sh 1 (q_read_ p1 p2 S) 143 15 [(0, .ref 0), (1, sv_I p1), (2, sv_I p2), (3, sv_I l3_2), (4, sv_I r16)] [] S
      refine sv_iload hM dX12_read__15 rfl rfl ?_
      refine sv_iconst (d := (-1 : Int)) hM dX12_read__17 rfl rfl ?_
      refine sv_icmp_eq hM dX12_read__18 hr16 (⟨by decide, by decide⟩ : sv_R (-1 : Int)) (t := 41) rfl rfl (fun hc => ?_) (fun hc => ?_)
      · have h := h.1 (hc)
        have k17 : (sm_PO (S 42) (S 1076 0) → 0 ≤ l3_2 → l3_2 < (S 1076 0) → 2 ≤ (S 1076 0) → (S 42 l3_2) = -1 ∨ (0 ≤ (S 42 l3_2) ∧ (S 42 l3_2) < (S 1076 0) ∧ ((S 42 l3_2) < l3_2 ∨ (l3_2 = 0 ∧ (S 42 l3_2) = 1)) ∧ ¬ l3_2 = 1)) := fun h a b e => sm_PO_at h _ a b e
        have h := h k17
        have k18 : (-1 ≤ (S 42 l3_2) → 0 ≤ sm_pm (S 42 l3_2)) := sm_pm_0
        have h := h k18
        have k19 : (sm_PO (S 42) (S 1076 0) → 0 ≤ l3_2 → l3_2 < (S 1076 0) → sm_pm (S 42 l3_2) < sm_pm l3_2) := fun h a b => sm_pm_s h _ a b
        have h := h k19
        refine sv_aload_n hM dX12_read__41 rfl rfl ?_
        refine sv_getA hM dX12_read__42 sm_fl_137 (sm_a0 _) sm_k78 rfl ?_
        refine sv_iload_n hM dX12_read__45 rfl rfl ?_
        obtain ⟨o20, h⟩ := h
        have k21 : sv_R (S 42 l3_2) := sm_okI ok13 sm_r42 l3_2
        have h := h k21
        refine sv_iald hM dX12_read__46 (sm_a42 _) (by decide) o20.1 o20.2 rfl (x := (S 42 l3_2)) rfl ?_
        refine sv_istore_n hM dX12_read__47 (by decide) rfl ?_
        show sv_T sm_XS sm_cs sm_L sm_sh 1 (q_read_ p1 p2 S) 143 48 [(0, .ref 0), (1, sv_I p1), (2, sv_I p2), (3, sv_I (S 42 l3_2)), (4, sv_I r16)] [] S
        refine sv_goto hM dX12_read__48 (pc' := 2) rfl ?_
        have hb := ih3 ((S 42 l3_2), ()) ⟨k21, ok13, h.1⟩ h.2
        exact sv_less (lv := [(0, .ref 0), (1, sv_I p1), (2, sv_I p2), (3, sv_I (S 42 l3_2))]) (sv_Sub_cons rfl (sv_Sub_cons rfl (sv_Sub_cons rfl (sv_Sub_cons rfl sv_Sub_nil)))) hb
      · have h := h.2 (hc)
        have k22 : (sm_PV (S 1100020) (S 48) (S 49) (S 50) (S 44) (S 1076 0) (S 1007 0) → 0 ≤ r16 → r16 < 3000 → 0 ≤ (S 1100020 r16) → (0 ≤ (S 48 r16) ∧ (S 48 r16) < (S 1007 0)) ∧ sm_VO (S 44) (S 1076 0) (S 1007 0) ((S 49 r16)) ((S 50 r16))) := fun h a b d => sm_PV_at h _ a b d
        have h := h k22
        refine sv_aload_n hM dX12_read__21 rfl rfl ?_
        refine sv_aload_n hM dX12_read__22 rfl rfl ?_
        refine sv_getA hM dX12_read__23 sm_fl_158 (sm_a0 _) sm_k88 rfl ?_
        refine sv_iload hM dX12_read__26 rfl rfl ?_
        obtain ⟨o23, h⟩ := h
        have k24 : sv_R (S 49 r16) := sm_okI ok13 sm_r49 r16
        have h := h k24
        refine sv_iald hM dX12_read__28 (sm_a49 _) (by decide) o23.1 o23.2 rfl (x := (S 49 r16)) rfl ?_
        refine sv_aload_n hM dX12_read__29 rfl rfl ?_
        refine sv_getA hM dX12_read__30 sm_fl_161 (sm_a0 _) sm_k89 rfl ?_
        refine sv_iload hM dX12_read__33 rfl rfl ?_
        have k25 : sv_R (S 50 r16) := sm_okI ok13 sm_r50 r16
        have h := h k25
        refine sv_iald hM dX12_read__35 (sm_a50 _) (by decide) o23.1 o23.2 rfl (x := (S 50 r16)) rfl ?_
        refine sv_callV hM dX12_read__36 sm_iv_822 (by decide) (sm_a0 _) rfl rfl (Nat.le_of_ble_eq_true rfl) sm_h122 (Nat.le_of_ble_eq_true rfl) (Nat.le_of_ble_eq_true rfl) (F' := 0) (Nat.le_of_ble_eq_true rfl) rfl (t_give_ (S 49 r16) (S 50 r16) S ok13 k24 k25) (fun v S1 hq => ?_)
        obtain ⟨rfl, ok27, md28, hpo29⟩ := hq
        obtain ⟨g26, rfl⟩ : ∃ g, S1 = sv_sts S [1111, 1112] g := ⟨_, md28.eq⟩
        show sv_T sm_XS sm_cs sm_L sm_sh 1 (q_read_ p1 p2 S) 143 39 [(0, .ref 0), (1, sv_I p1), (2, sv_I p2), (3, sv_I l3_2), (4, sv_I r16)] [] (sv_sts S [1111, 1112] g26)
        have md30 : sv_mod [1111, 1112] S (sv_sts S [1111, 1112] g26) := sv_mod.sts sv_mod.rf (by decide)
        have h := h g26 hpo29
        refine sv_iconst (d := (1 : Int)) hM dX12_read__39 rfl rfl ?_
        exact sv_iret hM dX12_read__40 rfl (sv_nz (⟨by decide, by decide⟩ : 0 ≤ (1 : Int) ∧ (1 : Int) ≤ 1)) ⟨(1 : Int), rfl, sv_R01 (⟨by decide, by decide⟩ : 0 ≤ (1 : Int) ∧ (1 : Int) ≤ 1), ok27, md30, h⟩
  exact hJ (p1, ()) ⟨hp1, hok, hin4⟩
