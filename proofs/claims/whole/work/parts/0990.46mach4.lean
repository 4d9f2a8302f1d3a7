theorem dX12_nextOf_0 : decode cX12_nextOf 0 = .ok (.aload_n 0, 1) := by decide +kernel
theorem dX12_nextOf_1 : decode cX12_nextOf 1 = .ok (.getfield 203, 3) := by decide +kernel
theorem dX12_nextOf_4 : decode cX12_nextOf 4 = .ok (.iload_n 1, 1) := by decide +kernel
theorem dX12_nextOf_5 : decode cX12_nextOf 5 = .ok (.iaload, 1) := by decide +kernel
theorem dX12_nextOf_6 : decode cX12_nextOf 6 = .ok (.istore_n 2, 1) := by decide +kernel
theorem dX12_nextOf_7 : decode cX12_nextOf 7 = .ok (.iload_n 2, 1) := by decide +kernel
theorem dX12_nextOf_8 : decode cX12_nextOf 8 = .ok (.iconst (-1), 1) := by decide +kernel
theorem dX12_nextOf_9 : decode cX12_nextOf 9 = .ok (.if_icmp .ne 5, 3) := by decide +kernel
theorem dX12_nextOf_12 : decode cX12_nextOf 12 = .ok (.iconst (-1), 1) := by decide +kernel
theorem dX12_nextOf_13 : decode cX12_nextOf 13 = .ok (.ireturn, 1) := by decide +kernel
theorem dX12_nextOf_14 : decode cX12_nextOf 14 = .ok (.aload_n 0, 1) := by decide +kernel
theorem dX12_nextOf_15 : decode cX12_nextOf 15 = .ok (.getfield 149, 3) := by decide +kernel
theorem dX12_nextOf_18 : decode cX12_nextOf 18 = .ok (.iload_n 2, 1) := by decide +kernel
theorem dX12_nextOf_19 : decode cX12_nextOf 19 = .ok (.iaload, 1) := by decide +kernel
theorem dX12_nextOf_20 : decode cX12_nextOf 20 = .ok (.istore_n 3, 1) := by decide +kernel
theorem dX12_nextOf_21 : decode cX12_nextOf 21 = .ok (.iload_n 3, 1) := by decide +kernel
theorem dX12_nextOf_22 : decode cX12_nextOf 22 = .ok (.iconst (-1), 1) := by decide +kernel
theorem dX12_nextOf_23 : decode cX12_nextOf 23 = .ok (.if_icmp .eq 47, 3) := by decide +kernel
theorem dX12_nextOf_26 : decode cX12_nextOf 26 = .ok (.aload_n 0, 1) := by decide +kernel
theorem dX12_nextOf_27 : decode cX12_nextOf 27 = .ok (.getfield 164, 3) := by decide +kernel
theorem dX12_nextOf_30 : decode cX12_nextOf 30 = .ok (.iload_n 3, 1) := by decide +kernel
theorem dX12_nextOf_31 : decode cX12_nextOf 31 = .ok (.iaload, 1) := by decide +kernel
theorem dX12_nextOf_32 : decode cX12_nextOf 32 = .ok (.aload_n 0, 1) := by decide +kernel
theorem dX12_nextOf_33 : decode cX12_nextOf 33 = .ok (.getfield 206, 3) := by decide +kernel
theorem dX12_nextOf_36 : decode cX12_nextOf 36 = .ok (.iload_n 1, 1) := by decide +kernel
theorem dX12_nextOf_37 : decode cX12_nextOf 37 = .ok (.iaload, 1) := by decide +kernel
theorem dX12_nextOf_38 : decode cX12_nextOf 38 = .ok (.if_icmp .le 22, 3) := by decide +kernel
theorem dX12_nextOf_41 : decode cX12_nextOf 41 = .ok (.aload_n 0, 1) := by decide +kernel
theorem dX12_nextOf_42 : decode cX12_nextOf 42 = .ok (.getfield 143, 3) := by decide +kernel
theorem dX12_nextOf_45 : decode cX12_nextOf 45 = .ok (.iload_n 2, 1) := by decide +kernel
theorem dX12_nextOf_46 : decode cX12_nextOf 46 = .ok (.iaload, 1) := by decide +kernel
theorem dX12_nextOf_47 : decode cX12_nextOf 47 = .ok (.iconst 2, 1) := by decide +kernel
theorem dX12_nextOf_48 : decode cX12_nextOf 48 = .ok (.if_icmp .ne 22, 3) := by decide +kernel
theorem dX12_nextOf_51 : decode cX12_nextOf 51 = .ok (.aload_n 0, 1) := by decide +kernel
theorem dX12_nextOf_52 : decode cX12_nextOf 52 = .ok (.getfield 155, 3) := by decide +kernel
theorem dX12_nextOf_55 : decode cX12_nextOf 55 = .ok (.iload_n 3, 1) := by decide +kernel
theorem dX12_nextOf_56 : decode cX12_nextOf 56 = .ok (.iaload, 1) := by decide +kernel
theorem dX12_nextOf_57 : decode cX12_nextOf 57 = .ok (.ifCond .ne 13, 3) := by decide +kernel
theorem dX12_nextOf_60 : decode cX12_nextOf 60 = .ok (.aload_n 0, 1) := by decide +kernel
theorem dX12_nextOf_61 : decode cX12_nextOf 61 = .ok (.getfield 167, 3) := by decide +kernel
theorem dX12_nextOf_64 : decode cX12_nextOf 64 = .ok (.iload_n 3, 1) := by decide +kernel
theorem dX12_nextOf_65 : decode cX12_nextOf 65 = .ok (.iaload, 1) := by decide +kernel
theorem dX12_nextOf_66 : decode cX12_nextOf 66 = .ok (.istore_n 3, 1) := by decide +kernel
theorem dX12_nextOf_67 : decode cX12_nextOf 67 = .ok (.goto (-46), 3) := by decide +kernel
theorem dX12_nextOf_70 : decode cX12_nextOf 70 = .ok (.iload_n 3, 1) := by decide +kernel
theorem dX12_nextOf_71 : decode cX12_nextOf 71 = .ok (.iconst (-1), 1) := by decide +kernel
theorem dX12_nextOf_72 : decode cX12_nextOf 72 = .ok (.if_icmp .eq 22, 3) := by decide +kernel
theorem dX12_nextOf_75 : decode cX12_nextOf 75 = .ok (.aload_n 0, 1) := by decide +kernel
theorem dX12_nextOf_76 : decode cX12_nextOf 76 = .ok (.getfield 164, 3) := by decide +kernel
theorem dX12_nextOf_79 : decode cX12_nextOf 79 = .ok (.iload_n 3, 1) := by decide +kernel
theorem dX12_nextOf_80 : decode cX12_nextOf 80 = .ok (.iaload, 1) := by decide +kernel
theorem dX12_nextOf_81 : decode cX12_nextOf 81 = .ok (.aload_n 0, 1) := by decide +kernel
theorem dX12_nextOf_82 : decode cX12_nextOf 82 = .ok (.getfield 209, 3) := by decide +kernel
theorem dX12_nextOf_85 : decode cX12_nextOf 85 = .ok (.iload_n 1, 1) := by decide +kernel
theorem dX12_nextOf_86 : decode cX12_nextOf 86 = .ok (.iaload, 1) := by decide +kernel
theorem dX12_nextOf_87 : decode cX12_nextOf 87 = .ok (.if_icmp .gt 7, 3) := by decide +kernel
theorem dX12_nextOf_90 : decode cX12_nextOf 90 = .ok (.iload_n 3, 1) := by decide +kernel
theorem dX12_nextOf_91 : decode cX12_nextOf 91 = .ok (.goto 4, 3) := by decide +kernel
theorem dX12_nextOf_94 : decode cX12_nextOf 94 = .ok (.iconst (-1), 1) := by decide +kernel
theorem dX12_nextOf_95 : decode cX12_nextOf 95 = .ok (.ireturn, 1) := by decide +kernel
theorem dX12_goNext_0 : decode cX12_goNext 0 = .ok (.aload_n 0, 1) := by decide +kernel
theorem dX12_goNext_1 : decode cX12_goNext 1 = .ok (.aload_n 0, 1) := by decide +kernel
theorem dX12_goNext_2 : decode cX12_goNext 2 = .ok (.invokevirtual 879, 3) := by decide +kernel
theorem dX12_goNext_5 : decode cX12_goNext 5 = .ok (.iconst 1, 1) := by decide +kernel
theorem dX12_goNext_6 : decode cX12_goNext 6 = .ok (.isub, 1) := by decide +kernel
theorem dX12_goNext_7 : decode cX12_goNext 7 = .ok (.invokevirtual 963, 3) := by decide +kernel
theorem dX12_goNext_10 : decode cX12_goNext 10 = .ok (.istore_n 2, 1) := by decide +kernel
theorem dX12_goNext_11 : decode cX12_goNext 11 = .ok (.iload_n 2, 1) := by decide +kernel
theorem dX12_goNext_12 : decode cX12_goNext 12 = .ok (.iconst (-1), 1) := by decide +kernel
theorem dX12_goNext_13 : decode cX12_goNext 13 = .ok (.if_icmp .ne 21, 3) := by decide +kernel
theorem dX12_goNext_16 : decode cX12_goNext 16 = .ok (.aload_n 0, 1) := by decide +kernel
theorem dX12_goNext_17 : decode cX12_goNext 17 = .ok (.iconst 1, 1) := by decide +kernel
theorem dX12_goNext_18 : decode cX12_goNext 18 = .ok (.invokevirtual 882, 3) := by decide +kernel
theorem dX12_goNext_21 : decode cX12_goNext 21 = .ok (.aload_n 0, 1) := by decide +kernel
theorem dX12_goNext_22 : decode cX12_goNext 22 = .ok (.getfield 182, 3) := by decide +kernel
theorem dX12_goNext_25 : decode cX12_goNext 25 = .ok (.aload_n 0, 1) := by decide +kernel
theorem dX12_goNext_26 : decode cX12_goNext 26 = .ok (.getfield 872, 3) := by decide +kernel
theorem dX12_goNext_29 : decode cX12_goNext 29 = .ok (.iconst 1, 1) := by decide +kernel
theorem dX12_goNext_30 : decode cX12_goNext 30 = .ok (.isub, 1) := by decide +kernel
theorem dX12_goNext_31 : decode cX12_goNext 31 = .ok (.iload_n 1, 1) := by decide +kernel
theorem dX12_goNext_32 : decode cX12_goNext 32 = .ok (.iastore, 1) := by decide +kernel
theorem dX12_goNext_33 : decode cX12_goNext 33 = .ok (.return_, 1) := by decide +kernel
theorem dX12_goNext_34 : decode cX12_goNext 34 = .ok (.aload_n 0, 1) := by decide +kernel
theorem dX12_goNext_35 : decode cX12_goNext 35 = .ok (.getfield 206, 3) := by decide +kernel
theorem dX12_goNext_38 : decode cX12_goNext 38 = .ok (.aload_n 0, 1) := by decide +kernel
theorem dX12_goNext_39 : decode cX12_goNext 39 = .ok (.invokevirtual 879, 3) := by decide +kernel
theorem dX12_goNext_42 : decode cX12_goNext 42 = .ok (.iconst 1, 1) := by decide +kernel
theorem dX12_goNext_43 : decode cX12_goNext 43 = .ok (.isub, 1) := by decide +kernel
theorem dX12_goNext_44 : decode cX12_goNext 44 = .ok (.aload_n 0, 1) := by decide +kernel
theorem dX12_goNext_45 : decode cX12_goNext 45 = .ok (.getfield 164, 3) := by decide +kernel
theorem dX12_goNext_48 : decode cX12_goNext 48 = .ok (.iload_n 2, 1) := by decide +kernel
theorem dX12_goNext_49 : decode cX12_goNext 49 = .ok (.iaload, 1) := by decide +kernel
theorem dX12_goNext_50 : decode cX12_goNext 50 = .ok (.iastore, 1) := by decide +kernel
theorem dX12_goNext_51 : decode cX12_goNext 51 = .ok (.aload_n 0, 1) := by decide +kernel
theorem dX12_goNext_52 : decode cX12_goNext 52 = .ok (.bipush 6, 2) := by decide +kernel
theorem dX12_goNext_54 : decode cX12_goNext 54 = .ok (.aload_n 0, 1) := by decide +kernel
theorem dX12_goNext_55 : decode cX12_goNext 55 = .ok (.getfield 155, 3) := by decide +kernel
theorem dX12_goNext_58 : decode cX12_goNext 58 = .ok (.iload_n 2, 1) := by decide +kernel
theorem dX12_goNext_59 : decode cX12_goNext 59 = .ok (.iaload, 1) := by decide +kernel
theorem dX12_goNext_60 : decode cX12_goNext 60 = .ok (.invokevirtual 885, 3) := by decide +kernel
theorem dX12_goNext_63 : decode cX12_goNext 63 = .ok (.aload_n 0, 1) := by decide +kernel
theorem dX12_goNext_64 : decode cX12_goNext 64 = .ok (.invokevirtual 888, 3) := by decide +kernel
theorem dX12_goNext_67 : decode cX12_goNext 67 = .ok (.return_, 1) := by decide +kernel
theorem dX12_goBack_0 : decode cX12_goBack 0 = .ok (.aload_n 0, 1) := by decide +kernel
theorem dX12_goBack_1 : decode cX12_goBack 1 = .ok (.getfield 188, 3) := by decide +kernel
theorem dX12_goBack_4 : decode cX12_goBack 4 = .ok (.aload_n 0, 1) := by decide +kernel
theorem dX12_goBack_5 : decode cX12_goBack 5 = .ok (.getfield 872, 3) := by decide +kernel
theorem dX12_goBack_8 : decode cX12_goBack 8 = .ok (.iconst 1, 1) := by decide +kernel
theorem dX12_goBack_9 : decode cX12_goBack 9 = .ok (.isub, 1) := by decide +kernel
theorem dX12_goBack_10 : decode cX12_goBack 10 = .ok (.iaload, 1) := by decide +kernel
theorem dX12_goBack_11 : decode cX12_goBack 11 = .ok (.istore_n 3, 1) := by decide +kernel
theorem dX12_goBack_12 : decode cX12_goBack 12 = .ok (.aload_n 0, 1) := by decide +kernel
theorem dX12_goBack_13 : decode cX12_goBack 13 = .ok (.dup, 1) := by decide +kernel
theorem dX12_goBack_14 : decode cX12_goBack 14 = .ok (.getfield 872, 3) := by decide +kernel
theorem dX12_goBack_17 : decode cX12_goBack 17 = .ok (.iconst 1, 1) := by decide +kernel
theorem dX12_goBack_18 : decode cX12_goBack 18 = .ok (.isub, 1) := by decide +kernel
theorem dX12_goBack_19 : decode cX12_goBack 19 = .ok (.putfield 872, 3) := by decide +kernel
theorem dX12_goBack_22 : decode cX12_goBack 22 = .ok (.aload_n 0, 1) := by decide +kernel
theorem dX12_goBack_23 : decode cX12_goBack 23 = .ok (.getfield 872, 3) := by decide +kernel
theorem dX12_goBack_26 : decode cX12_goBack 26 = .ok (.ifCond .ne 9, 3) := by decide +kernel
theorem dX12_goBack_29 : decode cX12_goBack 29 = .ok (.aload_n 0, 1) := by decide +kernel
theorem dX12_goBack_30 : decode cX12_goBack 30 = .ok (.iconst 2, 1) := by decide +kernel
theorem dX12_goBack_31 : decode cX12_goBack 31 = .ok (.putfield 773, 3) := by decide +kernel
theorem dX12_goBack_34 : decode cX12_goBack 34 = .ok (.return_, 1) := by decide +kernel
theorem dX12_goBack_35 : decode cX12_goBack 35 = .ok (.iload_n 3, 1) := by decide +kernel
theorem dX12_goBack_36 : decode cX12_goBack 36 = .ok (.iconst (-1), 1) := by decide +kernel
theorem dX12_goBack_37 : decode cX12_goBack 37 = .ok (.if_icmp .eq 19, 3) := by decide +kernel
theorem dX12_goBack_40 : decode cX12_goBack 40 = .ok (.iload_n 1, 1) := by decide +kernel
theorem dX12_goBack_41 : decode cX12_goBack 41 = .ok (.bipush 7, 2) := by decide +kernel
theorem dX12_goBack_43 : decode cX12_goBack 43 = .ok (.if_icmp .eq 13, 3) := by decide +kernel
theorem dX12_goBack_46 : decode cX12_goBack 46 = .ok (.aload_n 0, 1) := by decide +kernel
theorem dX12_goBack_47 : decode cX12_goBack 47 = .ok (.bipush 7, 2) := by decide +kernel
theorem dX12_goBack_49 : decode cX12_goBack 49 = .ok (.iload_n 3, 1) := by decide +kernel
theorem dX12_goBack_50 : decode cX12_goBack 50 = .ok (.invokevirtual 885, 3) := by decide +kernel
theorem dX12_goBack_53 : decode cX12_goBack 53 = .ok (.goto 9, 3) := by decide +kernel
theorem dX12_goBack_56 : decode cX12_goBack 56 = .ok (.aload_n 0, 1) := by decide +kernel
theorem dX12_goBack_57 : decode cX12_goBack 57 = .ok (.iload_n 1, 1) := by decide +kernel
theorem dX12_goBack_58 : decode cX12_goBack 58 = .ok (.iload_n 2, 1) := by decide +kernel
theorem dX12_goBack_59 : decode cX12_goBack 59 = .ok (.invokevirtual 885, 3) := by decide +kernel
theorem dX12_goBack_62 : decode cX12_goBack 62 = .ok (.return_, 1) := by decide +kernel

def q_nextOf (p1 : Int) (S : sv_S) : Option Value → sv_S → Prop := fun v S' => ∃ r : Int, v = some (sv_I r) ∧ sv_R r ∧ sm_ok S' ∧ sv_mod [] S S' ∧ (r = -1 ∨ (0 ≤ r ∧ r < 3000 ∧ 0 ≤ (S' 1100020 r)))
theorem la_nextOf_0 {x0 : Int} (h0 : 0 ≤ x0) (h1 : x0 < 9600) : 0 ≤ x0 ∧ x0 < 9600 := by omega
theorem la_nextOf_1 {x0 : Int} (h0 : (-1) ≤ x0) (h1 : ¬ x0 = (-1)) : (-1) < x0 := by omega
theorem la_nextOf_2 {x0 : Int} (h0 : (-1) < x0) : 0 ≤ x0 := by omega
theorem la_nextOf_3 {x0 x1 : Int} (h0 : x0 ≤ 300) (h1 : x1 < x0) (h2 : (-1) < x1) : 0 ≤ x1 ∧ x1 < 300 := by omega
theorem la_nextOf_4 {x0 x1 x2 x3 x4 : Int} (h0 : x0 = (-1) ∨ 0 ≤ x0 ∧ x0 < 3000 ∧ x1 = x2 ∧ 0 < x3 ∧ x3 ≤ x4) : x0 = (-1) ∨ 0 ≤ x0 ∧ x3 ≤ x4 := by omega
theorem la_nextOf_5 {x0 x1 x2 : Int} (h0 : x0 = (-1)) : ¬ (0 ≤ x0 ∧ x1 ≤ x2) := by omega
theorem la_nextOf_6 {x0 : Int} (h0 : x0 = 0) : 0 ≤ x0 := by omega
theorem la_nextOf_7 {x0 : Int} (h0 : 0 ≤ x0) : (-1) ≤ x0 := by omega
theorem la_nextOf_8 {x0 x1 x2 : Int} (h0 : x0 = x1 + 1 - x2) (h1 : x2 ≤ x1) : 0 ≤ x0 := by omega
theorem la_nextOf_9 {x0 x1 x2 x3 x4 : Int} (h0 : x0 = (-1)) : ¬ (0 ≤ x0 ∧ x0 < 3000 ∧ x1 = x2 ∧ 0 < x3 ∧ x3 ≤ x4) := by omega
theorem la_nextOf_10 {x0 x1 : Int} : x0 = (-1) → ((-1) : Int) = (-1) ∨ (0 : Int) ≤ (-1) ∧ ((-1) : Int) < 3000 ∧ 0 ≤ x1 := by omega
theorem la_nextOf_11 {x0 : Int} (h0 : x0 = (-1)) : x0 ≤ (-1) := by omega
theorem la_nextOf_12 {x0 : Int} (h0 : x0 ≤ (-1)) (h1 : ¬ x0 = (-1)) : x0 < (-1) := by omega
theorem la_nextOf_13 {x0 : Int} (h0 : x0 = (-1)) (h1 : x0 < (-1)) : 0 ≤ x0 ∧ x0 < 3000 := by omega
theorem la_nextOf_14 {x0 x1 x2 : Int} : x0 < x1 → ((-1) : Int) = (-1) ∨ (0 : Int) ≤ (-1) ∧ ((-1) : Int) < 3000 ∧ 0 ≤ x2 := by omega
theorem la_nextOf_15 {x0 x1 : Int} (h0 : x0 = (-1)) (h1 : x0 < (-1)) : x0 = (-1) ∨ 0 ≤ x0 ∧ x0 < 3000 ∧ 0 ≤ x1 := by omega
theorem la_nextOf_16 {x0 : Int} (h0 : 0 ≤ x0) (h1 : x0 < 3000) : 0 ≤ x0 ∧ x0 < 3000 := by omega
theorem la_nextOf_17 {x0 : Int} (h0 : x0 = (-1)) : ¬ ¬ x0 = (-1) := by omega
theorem la_nextOf_18 {x0 x1 x2 x3 : Int} (h0 : x0 ≤ x1) (h1 : x2 = x1 + 1 - x0) (h2 : x3 = 0) : x3 < x2 := by omega
theorem la_nextOf_19 {x0 x1 x2 x3 x4 : Int} (h0 : x0 = x1 + 1 - x2) (h1 : x3 = x1 + 1 - x4) (h2 : x2 < x4) : x3 < x0 := by omega
theorem la_nextOf_20 {x0 x1 x2 : Int} (h0 : (-1) < x0) (h1 : 0 ≤ x1) (h2 : (-1) < x1) (h3 : x1 < 3000) (h4 : x2 = x0) : x1 = (-1) ∨ 0 ≤ x1 ∧ x1 < 3000 ∧ 0 ≤ x2 := by omega
theorem la_nextOf_21 {x0 : Int} : ((-1) : Int) = (-1) ∨ (0 : Int) ≤ (-1) ∧ ((-1) : Int) < 3000 ∧ 0 ≤ x0 := by omega
set_option maxHeartbeats 2000000 in
theorem f_nextOf : ∀ (p1 : Int) (S : sv_S), sm_ok S → sv_R p1 → (sm_PL (S 1100020) (S 51) (S 52) (S 46) (S 47) (S 1076 0) (S 1086 0) ∧ 0 ≤ (S 1076 0) ∧ (S 1076 0) ≤ 300 ∧ 0 ≤ (S 1084 0) ∧ (S 1084 0) ≤ 3000 ∧ 0 ≤ (S 1086 0) ∧ 0 ≤ p1 ∧ p1 < 9600 ∧ -1 ≤ (S 64 p1) ∧ (S 64 p1) < (S 1076 0)) → (0 ≤ p1 ∧ p1 < 9600) ∧ (sv_R (S 64 p1) → (((¬ (S 64 p1) = (-1 : Int)) → ((sm_PL (S 1100020) (S 51) (S 52) (S 46) (S 47) (S 1076 0) (S 1086 0) → 0 ≤ (S 64 p1) → (S 64 p1) < (S 1076 0) → sm_PC (S 1100020) (S 51) (S 1086 0) ((S 64 p1)) ((S 46 (S 64 p1)))) → ((sm_PC (S 1100020) (S 51) (S 1086 0) ((S 64 p1)) ((S 46 (S 64 p1))) → (S 46 (S 64 p1)) = -1 ∨ (0 ≤ (S 46 (S 64 p1)) ∧ (S 46 (S 64 p1)) < 3000 ∧ (S 1100020 (S 46 (S 64 p1))) = (S 64 p1) ∧ 0 < (S 51 (S 46 (S 64 p1))) ∧ (S 51 (S 46 (S 64 p1))) ≤ (S 1086 0))) → (0 ≤ (S 64 p1) ∧ (S 64 p1) < 300) ∧ (sv_R (S 46 (S 64 p1)) → ((sm_PC (S 1100020) (S 51) (S 1086 0) ((S 64 p1)) ((S 46 (S 64 p1))) ∧ ((S 46 (S 64 p1)) = -1 ∨ (0 ≤ (S 46 (S 64 p1)) ∧ (S 51 (S 46 (S 64 p1))) ≤ (S 1086 0)))) ∧ (∀ l3_7 : Int, sv_R l3_7 → (sm_PC (S 1100020) (S 51) (S 1086 0) ((S 64 p1)) (l3_7) ∧ (l3_7 = -1 ∨ (0 ≤ l3_7 ∧ (S 51 l3_7) ≤ (S 1086 0)))) → (0 ≤ (if l3_7 = -1 then 0 else (S 1086 0) + 1 - (S 51 l3_7))) ∧ (((l3_7 = (-1 : Int)) → ((sm_PC (S 1100020) (S 51) (S 1086 0) ((S 64 p1)) (l3_7) → l3_7 = -1 ∨ (0 ≤ l3_7 ∧ l3_7 < 3000 ∧ (S 1100020 l3_7) = (S 64 p1) ∧ 0 < (S 51 l3_7) ∧ (S 51 l3_7) ≤ (S 1086 0))) → (((l3_7 = (-1 : Int)) → ((-1 : Int) = -1 ∨ (0 ≤ (-1 : Int) ∧ (-1 : Int) < 3000 ∧ 0 ≤ (S 1100020 (-1 : Int))))) ∧ ((¬ (l3_7 = (-1 : Int))) → (0 ≤ l3_7 ∧ l3_7 < 3000) ∧ (sv_R (S 51 l3_7) → (sv_R (S 66 p1) → ((((S 66 p1) < (S 51 l3_7)) → ((-1 : Int) = -1 ∨ (0 ≤ (-1 : Int) ∧ (-1 : Int) < 3000 ∧ 0 ≤ (S 1100020 (-1 : Int))))) ∧ ((¬ ((S 66 p1) < (S 51 l3_7))) → (l3_7 = -1 ∨ (0 ≤ l3_7 ∧ l3_7 < 3000 ∧ 0 ≤ (S 1100020 l3_7))))))))))) ∧ ((¬ (l3_7 = (-1 : Int))) → ((sm_PC (S 1100020) (S 51) (S 1086 0) ((S 64 p1)) (l3_7) → l3_7 = -1 ∨ (0 ≤ l3_7 ∧ l3_7 < 3000 ∧ (S 1100020 l3_7) = (S 64 p1) ∧ 0 < (S 51 l3_7) ∧ (S 51 l3_7) ≤ (S 1086 0))) → (0 ≤ l3_7 ∧ l3_7 < 3000) ∧ (sv_R (S 51 l3_7) → (sv_R (S 65 p1) → ((((S 51 l3_7) ≤ (S 65 p1)) → ((sm_PL (S 1100020) (S 51) (S 52) (S 46) (S 47) (S 1076 0) (S 1086 0) → 0 ≤ l3_7 → l3_7 < 3000 → (S 1100020 l3_7) = (S 64 p1) → 0 ≤ (S 64 p1) → sm_PC (S 1100020) (S 51) (S 1086 0) ((S 64 p1)) ((S 52 l3_7)) ∧ (¬ (S 52 l3_7) = -1 → (S 51 l3_7) < (S 51 (S 52 l3_7)))) → ((sm_PC (S 1100020) (S 51) (S 1086 0) ((S 64 p1)) ((S 52 l3_7)) → (S 52 l3_7) = -1 ∨ (0 ≤ (S 52 l3_7) ∧ (S 52 l3_7) < 3000 ∧ (S 1100020 (S 52 l3_7)) = (S 64 p1) ∧ 0 < (S 51 (S 52 l3_7)) ∧ (S 51 (S 52 l3_7)) ≤ (S 1086 0))) → (sv_R (S 52 l3_7) → ((sm_PC (S 1100020) (S 51) (S 1086 0) ((S 64 p1)) ((S 52 l3_7)) ∧ ((S 52 l3_7) = -1 ∨ (0 ≤ (S 52 l3_7) ∧ (S 51 (S 52 l3_7)) ≤ (S 1086 0)))) ∧ ((if (S 52 l3_7) = -1 then 0 else (S 1086 0) + 1 - (S 51 (S 52 l3_7)))) < ((if l3_7 = -1 then 0 else (S 1086 0) + 1 - (S 51 l3_7)))))))) ∧ ((¬ ((S 51 l3_7) ≤ (S 65 p1))) → (sv_R (S 44 (S 64 p1)) → (((¬ (S 44 (S 64 p1)) = (2 : Int)) → ((sm_PC (S 1100020) (S 51) (S 1086 0) ((S 64 p1)) (l3_7) → l3_7 = -1 ∨ (0 ≤ l3_7 ∧ l3_7 < 3000 ∧ (S 1100020 l3_7) = (S 64 p1) ∧ 0 < (S 51 l3_7) ∧ (S 51 l3_7) ≤ (S 1086 0))) → (((l3_7 = (-1 : Int)) → ((-1 : Int) = -1 ∨ (0 ≤ (-1 : Int) ∧ (-1 : Int) < 3000 ∧ 0 ≤ (S 1100020 (-1 : Int))))) ∧ ((¬ (l3_7 = (-1 : Int))) → (sv_R (S 66 p1) → ((((S 66 p1) < (S 51 l3_7)) → ((-1 : Int) = -1 ∨ (0 ≤ (-1 : Int) ∧ (-1 : Int) < 3000 ∧ 0 ≤ (S 1100020 (-1 : Int))))) ∧ ((¬ ((S 66 p1) < (S 51 l3_7))) → (l3_7 = -1 ∨ (0 ≤ l3_7 ∧ l3_7 < 3000 ∧ 0 ≤ (S 1100020 l3_7)))))))))) ∧ ((¬ (¬ (S 44 (S 64 p1)) = (2 : Int))) → (sv_R (S 48 l3_7) → (((¬ (S 48 l3_7) = (0 : Int)) → ((sm_PC (S 1100020) (S 51) (S 1086 0) ((S 64 p1)) (l3_7) → l3_7 = -1 ∨ (0 ≤ l3_7 ∧ l3_7 < 3000 ∧ (S 1100020 l3_7) = (S 64 p1) ∧ 0 < (S 51 l3_7) ∧ (S 51 l3_7) ≤ (S 1086 0))) → (((l3_7 = (-1 : Int)) → ((-1 : Int) = -1 ∨ (0 ≤ (-1 : Int) ∧ (-1 : Int) < 3000 ∧ 0 ≤ (S 1100020 (-1 : Int))))) ∧ ((¬ (l3_7 = (-1 : Int))) → (sv_R (S 66 p1) → ((((S 66 p1) < (S 51 l3_7)) → ((-1 : Int) = -1 ∨ (0 ≤ (-1 : Int) ∧ (-1 : Int) < 3000 ∧ 0 ≤ (S 1100020 (-1 : Int))))) ∧ ((¬ ((S 66 p1) < (S 51 l3_7))) → (l3_7 = -1 ∨ (0 ≤ l3_7 ∧ l3_7 < 3000 ∧ 0 ≤ (S 1100020 l3_7)))))))))) ∧ ((¬ (¬ (S 48 l3_7) = (0 : Int))) → ((sm_PL (S 1100020) (S 51) (S 52) (S 46) (S 47) (S 1076 0) (S 1086 0) → 0 ≤ l3_7 → l3_7 < 3000 → (S 1100020 l3_7) = (S 64 p1) → 0 ≤ (S 64 p1) → sm_PC (S 1100020) (S 51) (S 1086 0) ((S 64 p1)) ((S 52 l3_7)) ∧ (¬ (S 52 l3_7) = -1 → (S 51 l3_7) < (S 51 (S 52 l3_7)))) → ((sm_PC (S 1100020) (S 51) (S 1086 0) ((S 64 p1)) ((S 52 l3_7)) → (S 52 l3_7) = -1 ∨ (0 ≤ (S 52 l3_7) ∧ (S 52 l3_7) < 3000 ∧ (S 1100020 (S 52 l3_7)) = (S 64 p1) ∧ 0 < (S 51 (S 52 l3_7)) ∧ (S 51 (S 52 l3_7)) ≤ (S 1086 0))) → (sv_R (S 52 l3_7) → ((sm_PC (S 1100020) (S 51) (S 1086 0) ((S 64 p1)) ((S 52 l3_7)) ∧ ((S 52 l3_7) = -1 ∨ (0 ≤ (S 52 l3_7) ∧ (S 51 (S 52 l3_7)) ≤ (S 1086 0)))) ∧ ((if (S 52 l3_7) = -1 then 0 else (S 1086 0) + 1 - (S 51 (S 52 l3_7)))) < ((if l3_7 = -1 then 0 else (S 1086 0) + 1 - (S 51 l3_7)))))))))))))))))))))))))) ∧ ((¬ (¬ (S 64 p1) = (-1 : Int))) → ((-1 : Int) = -1 ∨ (0 ≤ (-1 : Int) ∧ (-1 : Int) < 3000 ∧ 0 ≤ (S 1100020 (-1 : Int))))))) := by
  intro p1
  intro S
  intro h1_
  intro h2_
  rintro ⟨h3_, ⟨h4_, ⟨h5_, ⟨h6_, ⟨h7_, ⟨h8_, ⟨h9_, ⟨h10_, ⟨h11_, h12_⟩⟩⟩⟩⟩⟩⟩⟩⟩
  refine ⟨(la_nextOf_0 h9_ h10_), ?_⟩
  intro h13_
  refine ⟨?_, ?_⟩
  · skip
    intro h14_
    intro h15_
    have h16_ := (h15_ h3_)
    have h17_ := (h16_ (la_nextOf_2 (la_nextOf_1 h11_ h14_)))
    have h18_ := (h17_ h12_)
    intro h19_
    have h20_ := (h19_ h18_)
    refine ⟨(la_nextOf_3 h5_ h12_ (la_nextOf_1 h11_ h14_)), ?_⟩
    intro h21_
    refine ⟨⟨h18_, (la_nextOf_4 h20_)⟩, ?_⟩
    intro l3_7
    intro h22_
    rintro ⟨h23_, h24_⟩
    refine ⟨?_, ?_⟩
    · skip
      by_cases c25_ : l3_7 = (-1)
      · skip
        have e26_ : (if l3_7 = (-1) then 0 else S 1086 0 + 1 - S 51 l3_7 : Int) = 0 := if_pos c25_
        have h27_ := (h24_.resolve_right (la_nextOf_5 c25_))
        exact (la_nextOf_6 e26_)
      · skip
        have e28_ : (if l3_7 = (-1) then 0 else S 1086 0 + 1 - S 51 l3_7 : Int) = S 1086 0 + 1 - S 51 l3_7 := if_neg c25_
        obtain ⟨h29_, h30_⟩ := (h24_.resolve_left c25_)
        exact (la_nextOf_8 e28_ h30_)
    refine ⟨?_, ?_⟩
    · skip
      intro h31_
      have h32_ := (h24_.resolve_right (la_nextOf_5 h31_))
      intro h33_
      have h34_ := (h33_ h23_)
      have h35_ := (h34_.resolve_right (la_nextOf_9 h31_))
      refine ⟨la_nextOf_10, ?_⟩
      intro h36_
      refine ⟨(la_nextOf_13 h31_ (la_nextOf_12 (la_nextOf_11 h31_) h36_)), ?_⟩
      intro h37_
      intro h38_
      refine ⟨la_nextOf_14, ?_⟩
      intro h39_
      exact (la_nextOf_15 h31_ (la_nextOf_12 (la_nextOf_11 h31_) h36_))
    intro h40_
    obtain ⟨h41_, h42_⟩ := (h24_.resolve_left h40_)
    intro h43_
    have h44_ := (h43_ h23_)
    obtain ⟨h45_, ⟨h46_, ⟨h47_, ⟨h48_, h49_⟩⟩⟩⟩ := (h44_.resolve_left h40_)
    refine ⟨(la_nextOf_16 h41_ h46_), ?_⟩
    intro h50_
    intro h51_
    refine ⟨?_, ?_⟩
    · skip
      intro h52_
      intro h53_
      have h54_ := (h53_ h3_)
      have h55_ := (h54_ h41_)
      have h56_ := (h55_ h46_)
      have h57_ := (h56_ h47_)
      obtain ⟨h58_, h59_⟩ := (h57_ (la_nextOf_2 (la_nextOf_1 h11_ h14_)))
      intro h60_
      have h61_ := (h60_ h58_)
      intro h62_
      refine ⟨⟨h58_, (la_nextOf_4 h61_)⟩, ?_⟩
      have e63_ : (if l3_7 = (-1) then 0 else S 1086 0 + 1 - S 51 l3_7 : Int) = S 1086 0 + 1 - S 51 l3_7 := if_neg h40_
      by_cases c64_ : S 52 l3_7 = (-1)
      · skip
        have e65_ : (if S 52 l3_7 = (-1) then 0 else S 1086 0 + 1 - S 51 (S 52 l3_7) : Int) = 0 := if_pos c64_
        have h66_ := (h61_.resolve_right (la_nextOf_9 c64_))
        exact (la_nextOf_18 h42_ e63_ e65_)
      · skip
        have e67_ : (if S 52 l3_7 = (-1) then 0 else S 1086 0 + 1 - S 51 (S 52 l3_7) : Int) = S 1086 0 + 1 - S 51 (S 52 l3_7) := if_neg c64_
        have h68_ := (h59_ c64_)
        obtain ⟨h69_, ⟨h70_, ⟨h71_, ⟨h72_, h73_⟩⟩⟩⟩ := (h61_.resolve_left c64_)
        exact (la_nextOf_19 e63_ e67_ h68_)
    intro h74_
    intro h75_
    refine ⟨?_, ?_⟩
    · skip
      intro h76_
      intro h77_
      refine ⟨la_nextOf_10, ?_⟩
      intro h78_
      intro h79_
      refine ⟨la_nextOf_14, ?_⟩
      intro h80_
      exact (la_nextOf_20 (la_nextOf_1 h11_ h14_) h41_ (la_nextOf_1 (la_nextOf_7 h41_) h40_) h46_ h47_)
    intro h81_
    intro h82_
    refine ⟨?_, ?_⟩
    · skip
      intro h83_
      intro h84_
      refine ⟨la_nextOf_10, ?_⟩
      intro h85_
      intro h86_
      refine ⟨la_nextOf_14, ?_⟩
      intro h87_
      exact (la_nextOf_20 (la_nextOf_1 h11_ h14_) h41_ (la_nextOf_1 (la_nextOf_7 h41_) h40_) h46_ h47_)
    intro h88_
    intro h89_
    have h90_ := (h89_ h3_)
    have h91_ := (h90_ h41_)
    have h92_ := (h91_ h46_)
    have h93_ := (h92_ h47_)
    obtain ⟨h94_, h95_⟩ := (h93_ (la_nextOf_2 (la_nextOf_1 h11_ h14_)))
    intro h96_
    have h97_ := (h96_ h94_)
    intro h98_
    refine ⟨⟨h94_, (la_nextOf_4 h97_)⟩, ?_⟩
    have e99_ : (if l3_7 = (-1) then 0 else S 1086 0 + 1 - S 51 l3_7 : Int) = S 1086 0 + 1 - S 51 l3_7 := if_neg h40_
    by_cases c100_ : S 52 l3_7 = (-1)
    · skip
      have e101_ : (if S 52 l3_7 = (-1) then 0 else S 1086 0 + 1 - S 51 (S 52 l3_7) : Int) = 0 := if_pos c100_
      have h102_ := (h97_.resolve_right (la_nextOf_9 c100_))
      exact (la_nextOf_18 h42_ e99_ e101_)
    · skip
      have e103_ : (if S 52 l3_7 = (-1) then 0 else S 1086 0 + 1 - S 51 (S 52 l3_7) : Int) = S 1086 0 + 1 - S 51 (S 52 l3_7) := if_neg c100_
      have h104_ := (h95_ c100_)
      obtain ⟨h105_, ⟨h106_, ⟨h107_, ⟨h108_, h109_⟩⟩⟩⟩ := (h97_.resolve_left c100_)
      exact (la_nextOf_19 e99_ e103_ h104_)
  intro h110_
  exact la_nextOf_21
set_option maxRecDepth 8000 in
set_option maxHeartbeats 2000000 in
theorem t_nextOf : ∀ (p1 : Int) (S : sv_S), sm_ok S → sv_R p1 → (sm_PL (S 1100020) (S 51) (S 52) (S 46) (S 47) (S 1076 0) (S 1086 0) ∧ 0 ≤ (S 1076 0) ∧ (S 1076 0) ≤ 300 ∧ 0 ≤ (S 1084 0) ∧ (S 1084 0) ≤ 3000 ∧ 0 ≤ (S 1086 0) ∧ 0 ≤ p1 ∧ p1 < 9600 ∧ -1 ≤ (S 64 p1) ∧ (S 64 p1) < (S 1076 0)) → sv_T sm_XS sm_cs sm_L sm_sh 0 (q_nextOf p1 S) 163 0 (lv_args 0 [.ref 0, sv_I p1]) [] S := by
  intro p1 S hok hp1 hpre
  have h := f_nextOf p1 S hok hp1 hpre
  have hM := sm_h163
  show sv_T sm_XS sm_cs sm_L sm_sh 0 (q_nextOf p1 S) 163 0 [(0, .ref 0), (1, sv_I p1)] [] S
  refine sv_aload_n hM dX12_nextOf_0 rfl rfl ?_
  refine sv_getA hM dX12_nextOf_1 sm_fl_203 (sm_a0 _) sm_k104 rfl ?_
  refine sv_iload_n hM dX12_nextOf_4 rfl rfl ?_
  obtain ⟨o1, h⟩ := h
  have k2 : sv_R (S 64 p1) := sm_okI hok sm_r64 p1
  have h := h k2
  refine sv_iald hM dX12_nextOf_5 (sm_a64 _) (by decide) o1.1 o1.2 rfl (x := (S 64 p1)) rfl ?_
  refine sv_istore_n hM dX12_nextOf_6 (by decide) rfl ?_
  show sv_T sm_XS sm_cs sm_L sm_sh 0 (q_nextOf p1 S) 163 7 [(0, .ref 0), (1, sv_I p1), (2, sv_I (S 64 p1))] [] S
  refine sv_iload_n hM dX12_nextOf_7 rfl rfl ?_
  refine sv_iconst (d := (-1 : Int)) hM dX12_nextOf_8 rfl rfl ?_
  refine sv_icmp_ne hM dX12_nextOf_9 k2 (⟨by decide, by decide⟩ : sv_R (-1 : Int)) (t := 14) rfl rfl (fun hc => ?_) (fun hc => ?_)
  · have h := h.1 (hc)
    have k3 : (sm_PL (S 1100020) (S 51) (S 52) (S 46) (S 47) (S 1076 0) (S 1086 0) → 0 ≤ (S 64 p1) → (S 64 p1) < (S 1076 0) → sm_PC (S 1100020) (S 51) (S 1086 0) ((S 64 p1)) ((S 46 (S 64 p1)))) := fun h a b => sm_PL_fi h (S 64 p1) a b
    have h := h k3
    have k4 : (sm_PC (S 1100020) (S 51) (S 1086 0) ((S 64 p1)) ((S 46 (S 64 p1))) → (S 46 (S 64 p1)) = -1 ∨ (0 ≤ (S 46 (S 64 p1)) ∧ (S 46 (S 64 p1)) < 3000 ∧ (S 1100020 (S 46 (S 64 p1))) = (S 64 p1) ∧ 0 < (S 51 (S 46 (S 64 p1))) ∧ (S 51 (S 46 (S 64 p1))) ≤ (S 1086 0))) := sm_PC_e
    have h := h k4
    refine sv_aload_n hM dX12_nextOf_14 rfl rfl ?_
    refine sv_getA hM dX12_nextOf_15 sm_fl_149 (sm_a0 _) sm_k82 rfl ?_
    refine sv_iload_n hM dX12_nextOf_18 rfl rfl ?_
    obtain ⟨o5, h⟩ := h
    have k6 : sv_R (S 46 (S 64 p1)) := sm_okI hok sm_r46 (S 64 p1)
    have h := h k6
    refine sv_iald hM dX12_nextOf_19 (sm_a46 _) (by decide) o5.1 o5.2 rfl (x := (S 46 (S 64 p1))) rfl ?_
    refine sv_istore_n hM dX12_nextOf_20 (by decide) rfl ?_
    show sv_T sm_XS sm_cs sm_L sm_sh 0 (q_nextOf p1 S) 163 21 [(0, .ref 0), (1, sv_I p1), (2, sv_I (S 64 p1)), (3, sv_I (S 46 (S 64 p1)))] [] S
    obtain ⟨hin9, h⟩ := h
    have hJ : ∀ a : Int × Unit, (sv_R a.1 ∧ sm_ok S ∧ (sm_PC (S 1100020) (S 51) (S 1086 0) ((S 64 p1)) (a.1) ∧ (a.1 = -1 ∨ (0 ≤ a.1 ∧ (S 51 a.1) ≤ (S 1086 0))))) → sv_T sm_XS sm_cs sm_L sm_sh 0 (q_nextOf p1 S) 163 21 [(0, .ref 0), (1, sv_I p1), (2, sv_I (S 64 p1)), (3, sv_I a.1)] [] S := by
      refine sv_loop (α := Int × Unit) (fun a => sv_R a.1 ∧ sm_ok S ∧ (sm_PC (S 1100020) (S 51) (S 1086 0) ((S 64 p1)) (a.1) ∧ (a.1 = -1 ∨ (0 ≤ a.1 ∧ (S 51 a.1) ≤ (S 1086 0))))) (fun a => (if a.1 = -1 then 0 else (S 1086 0) + 1 - (S 51 a.1))) (fun a => sv_T sm_XS sm_cs sm_L sm_sh 0 (q_nextOf p1 S) 163 21 [(0, .ref 0), (1, sv_I p1), (2, sv_I (S 64 p1)), (3, sv_I a.1)] [] S) (fun a q => (h a.1 q.1 q.2.2).1) (fun a q ih8 => ?_)
      obtain ⟨l3_7, _u⟩ := a
      obtain ⟨hl3_7, ok10, hin9i⟩ := q
      have h := (h l3_7 hl3_7 hin9i).2
      show sv_T sm_XS sm_cs sm_L sm_sh 0 (q_nextOf p1 S) 163 21 [(0, .ref 0), (1, sv_I p1), (2, sv_I (S 64 p1)), (3, sv_I l3_7)] [] S
      refine sv_iload_n hM dX12_nextOf_21 rfl rfl ?_
      refine sv_iconst (d := (-1 : Int)) hM dX12_nextOf_22 rfl rfl ?_
      refine sv_icmp_eq hM dX12_nextOf_23 hl3_7 (⟨by decide, by decide⟩ : sv_R (-1 : Int)) (t := 70) rfl rfl (fun hc => ?_) (fun hc => ?_)
      · have h := h.1 (hc)
        have k11 : (sm_PC (S 1100020) (S 51) (S 1086 0) ((S 64 p1)) (l3_7) → l3_7 = -1 ∨ (0 ≤ l3_7 ∧ l3_7 < 3000 ∧ (S 1100020 l3_7) = (S 64 p1) ∧ 0 < (S 51 l3_7) ∧ (S 51 l3_7) ≤ (S 1086 0))) := sm_PC_e
        have h := h k11
        refine sv_iload_n hM dX12_nextOf_70 rfl rfl ?_
        refine sv_iconst (d := (-1 : Int)) hM dX12_nextOf_71 rfl rfl ?_
        refine sv_icmp_eq hM dX12_nextOf_72 hl3_7 (⟨by decide, by decide⟩ : sv_R (-1 : Int)) (t := 94) rfl rfl (fun hc => ?_) (fun hc => ?_)
        · have h := h.1 (hc)
          refine sv_iconst (d := (-1 : Int)) hM dX12_nextOf_94 rfl rfl ?_
          exact sv_iret hM dX12_nextOf_95 rfl rfl ⟨(-1 : Int), rfl, (⟨by decide, by decide⟩ : sv_R (-1 : Int)), ok10, sv_mod.rf, h⟩
        · have h := h.2 (hc)
          refine sv_aload_n hM dX12_nextOf_75 rfl rfl ?_
          refine sv_getA hM dX12_nextOf_76 sm_fl_164 (sm_a0 _) sm_k90 rfl ?_
          refine sv_iload_n hM dX12_nextOf_79 rfl rfl ?_
          obtain ⟨o12, h⟩ := h
          have k13 : sv_R (S 51 l3_7) := sm_okI ok10 sm_r51 l3_7
          have h := h k13
          refine sv_iald hM dX12_nextOf_80 (sm_a51 _) (by decide) o12.1 o12.2 rfl (x := (S 51 l3_7)) rfl ?_
          refine sv_aload_n hM dX12_nextOf_81 rfl rfl ?_
          refine sv_getA hM dX12_nextOf_82 sm_fl_209 (sm_a0 _) sm_k106 rfl ?_
          refine sv_iload_n hM dX12_nextOf_85 rfl rfl ?_
          have k14 : sv_R (S 66 p1) := sm_okI ok10 sm_r66 p1
          have h := h k14
          refine sv_iald hM dX12_nextOf_86 (sm_a66 _) (by decide) o1.1 o1.2 rfl (x := (S 66 p1)) rfl ?_
          refine sv_icmp_gt hM dX12_nextOf_87 k13 k14 (t := 94) rfl rfl (fun hc => ?_) (fun hc => ?_)
          · have h := h.1 (hc)
            refine sv_iconst (d := (-1 : Int)) hM dX12_nextOf_94 rfl rfl ?_
            exact sv_iret hM dX12_nextOf_95 rfl rfl ⟨(-1 : Int), rfl, (⟨by decide, by decide⟩ : sv_R (-1 : Int)), ok10, sv_mod.rf, h⟩
          · have h := h.2 (hc)
            refine sv_iload_n hM dX12_nextOf_90 rfl rfl ?_
            refine sv_goto hM dX12_nextOf_91 (pc' := 95) rfl ?_
            exact sv_iret hM dX12_nextOf_95 rfl rfl ⟨l3_7, rfl, hl3_7, ok10, sv_mod.rf, h⟩
      · have h := h.2 (hc)
        have k15 : (sm_PC (S 1100020) (S 51) (S 1086 0) ((S 64 p1)) (l3_7) → l3_7 = -1 ∨ (0 ≤ l3_7 ∧ l3_7 < 3000 ∧ (S 1100020 l3_7) = (S 64 p1) ∧ 0 < (S 51 l3_7) ∧ (S 51 l3_7) ≤ (S 1086 0))) := sm_PC_e
        have h := h k15
        refine sv_aload_n hM dX12_nextOf_26 rfl rfl ?_
        refine sv_getA hM dX12_nextOf_27 sm_fl_164 (sm_a0 _) sm_k90 rfl ?_
        refine sv_iload_n hM dX12_nextOf_30 rfl rfl ?_
        obtain ⟨o16, h⟩ := h
        have k17 : sv_R (S 51 l3_7) := sm_okI ok10 sm_r51 l3_7
        have h := h k17
        refine sv_iald hM dX12_nextOf_31 (sm_a51 _) (by decide) o16.1 o16.2 rfl (x := (S 51 l3_7)) rfl ?_
        refine sv_aload_n hM dX12_nextOf_32 rfl rfl ?_
        refine sv_getA hM dX12_nextOf_33 sm_fl_206 (sm_a0 _) sm_k105 rfl ?_
        refine sv_iload_n hM dX12_nextOf_36 rfl rfl ?_
        have k18 : sv_R (S 65 p1) := sm_okI ok10 sm_r65 p1
        have h := h k18
        refine sv_iald hM dX12_nextOf_37 (sm_a65 _) (by decide) o1.1 o1.2 rfl (x := (S 65 p1)) rfl ?_
        refine sv_icmp_le hM dX12_nextOf_38 k17 k18 (t := 60) rfl rfl (fun hc => ?_) (fun hc => ?_)
        · have h := h.1 (hc)
          have k19 : (sm_PL (S 1100020) (S 51) (S 52) (S 46) (S 47) (S 1076 0) (S 1086 0) → 0 ≤ l3_7 → l3_7 < 3000 → (S 1100020 l3_7) = (S 64 p1) → 0 ≤ (S 64 p1) → sm_PC (S 1100020) (S 51) (S 1086 0) ((S 64 p1)) ((S 52 l3_7)) ∧ (¬ (S 52 l3_7) = -1 → (S 51 l3_7) < (S 51 (S 52 l3_7)))) := fun h a b c d => sm_PL_ne h _ a b c d
          have h := h k19
          have k20 : (sm_PC (S 1100020) (S 51) (S 1086 0) ((S 64 p1)) ((S 52 l3_7)) → (S 52 l3_7) = -1 ∨ (0 ≤ (S 52 l3_7) ∧ (S 52 l3_7) < 3000 ∧ (S 1100020 (S 52 l3_7)) = (S 64 p1) ∧ 0 < (S 51 (S 52 l3_7)) ∧ (S 51 (S 52 l3_7)) ≤ (S 1086 0))) := sm_PC_e
          have h := h k20
          refine sv_aload_n hM dX12_nextOf_60 rfl rfl ?_
          refine sv_getA hM dX12_nextOf_61 sm_fl_167 (sm_a0 _) sm_k91 rfl ?_
          refine sv_iload_n hM dX12_nextOf_64 rfl rfl ?_
          have k21 : sv_R (S 52 l3_7) := sm_okI ok10 sm_r52 l3_7
          have h := h k21
          refine sv_iald hM dX12_nextOf_65 (sm_a52 _) (by decide) o16.1 o16.2 rfl (x := (S 52 l3_7)) rfl ?_
          refine sv_istore_n hM dX12_nextOf_66 (by decide) rfl ?_
          show sv_T sm_XS sm_cs sm_L sm_sh 0 (q_nextOf p1 S) 163 67 [(0, .ref 0), (1, sv_I p1), (2, sv_I (S 64 p1)), (3, sv_I (S 52 l3_7))] [] S
          refine sv_goto hM dX12_nextOf_67 (pc' := 21) rfl ?_
          have hb := ih8 ((S 52 l3_7), ()) ⟨k21, ok10, h.1⟩ h.2
          exact sv_less (lv := [(0, .ref 0), (1, sv_I p1), (2, sv_I (S 64 p1)), (3, sv_I (S 52 l3_7))]) (sv_Sub_cons rfl (sv_Sub_cons rfl (sv_Sub_cons rfl (sv_Sub_cons rfl sv_Sub_nil)))) hb
        · have h := h.2 (hc)
          refine sv_aload_n hM dX12_nextOf_41 rfl rfl ?_
          refine sv_getA hM dX12_nextOf_42 sm_fl_143 (sm_a0 _) sm_k80 rfl ?_
          refine sv_iload_n hM dX12_nextOf_45 rfl rfl ?_
          have k22 : sv_R (S 44 (S 64 p1)) := sm_okI ok10 sm_r44 (S 64 p1)
          have h := h k22
          refine sv_iald hM dX12_nextOf_46 (sm_a44 _) (by decide) o5.1 o5.2 rfl (x := (S 44 (S 64 p1))) rfl ?_
          refine sv_iconst (d := (2 : Int)) hM dX12_nextOf_47 rfl rfl ?_
          refine sv_icmp_ne hM dX12_nextOf_48 k22 (⟨by decide, by decide⟩ : sv_R (2 : Int)) (t := 70) rfl rfl (fun hc => ?_) (fun hc => ?_)
          · have h := h.1 (hc)
            have k23 : (sm_PC (S 1100020) (S 51) (S 1086 0) ((S 64 p1)) (l3_7) → l3_7 = -1 ∨ (0 ≤ l3_7 ∧ l3_7 < 3000 ∧ (S 1100020 l3_7) = (S 64 p1) ∧ 0 < (S 51 l3_7) ∧ (S 51 l3_7) ≤ (S 1086 0))) := sm_PC_e
            have h := h k23
            refine sv_iload_n hM dX12_nextOf_70 rfl rfl ?_
            refine sv_iconst (d := (-1 : Int)) hM dX12_nextOf_71 rfl rfl ?_
            refine sv_icmp_eq hM dX12_nextOf_72 hl3_7 (⟨by decide, by decide⟩ : sv_R (-1 : Int)) (t := 94) rfl rfl (fun hc => ?_) (fun hc => ?_)
            · have h := h.1 (hc)
              refine sv_iconst (d := (-1 : Int)) hM dX12_nextOf_94 rfl rfl ?_
              exact sv_iret hM dX12_nextOf_95 rfl rfl ⟨(-1 : Int), rfl, (⟨by decide, by decide⟩ : sv_R (-1 : Int)), ok10, sv_mod.rf, h⟩
            · have h := h.2 (hc)
              refine sv_aload_n hM dX12_nextOf_75 rfl rfl ?_
              refine sv_getA hM dX12_nextOf_76 sm_fl_164 (sm_a0 _) sm_k90 rfl ?_
              refine sv_iload_n hM dX12_nextOf_79 rfl rfl ?_
              refine sv_iald hM dX12_nextOf_80 (sm_a51 _) (by decide) o16.1 o16.2 rfl (x := (S 51 l3_7)) rfl ?_
              refine sv_aload_n hM dX12_nextOf_81 rfl rfl ?_
              refine sv_getA hM dX12_nextOf_82 sm_fl_209 (sm_a0 _) sm_k106 rfl ?_
              refine sv_iload_n hM dX12_nextOf_85 rfl rfl ?_
              have k24 : sv_R (S 66 p1) := sm_okI ok10 sm_r66 p1
              have h := h k24
              refine sv_iald hM dX12_nextOf_86 (sm_a66 _) (by decide) o1.1 o1.2 rfl (x := (S 66 p1)) rfl ?_
              refine sv_icmp_gt hM dX12_nextOf_87 k17 k24 (t := 94) rfl rfl (fun hc => ?_) (fun hc => ?_)
              · have h := h.1 (hc)
                refine sv_iconst (d := (-1 : Int)) hM dX12_nextOf_94 rfl rfl ?_
                exact sv_iret hM dX12_nextOf_95 rfl rfl ⟨(-1 : Int), rfl, (⟨by decide, by decide⟩ : sv_R (-1 : Int)), ok10, sv_mod.rf, h⟩
              · have h := h.2 (hc)
                refine sv_iload_n hM dX12_nextOf_90 rfl rfl ?_
                refine sv_goto hM dX12_nextOf_91 (pc' := 95) rfl ?_
                exact sv_iret hM dX12_nextOf_95 rfl rfl ⟨l3_7, rfl, hl3_7, ok10, sv_mod.rf, h⟩
          · have h := h.2 (hc)
            refine sv_aload_n hM dX12_nextOf_51 rfl rfl ?_
            refine sv_getA hM dX12_nextOf_52 sm_fl_155 (sm_a0 _) sm_k87 rfl ?_
            refine sv_iload_n hM dX12_nextOf_55 rfl rfl ?_
            have k25 : sv_R (S 48 l3_7) := sm_okI ok10 sm_r48 l3_7
            have h := h k25
            refine sv_iald hM dX12_nextOf_56 (sm_a48 _) (by decide) o16.1 o16.2 rfl (x := (S 48 l3_7)) rfl ?_
            refine sv_cond_ne hM dX12_nextOf_57 k25 (t := 70) rfl rfl (fun hc => ?_) (fun hc => ?_)
            · have h := h.1 (hc)
              have k26 : (sm_PC (S 1100020) (S 51) (S 1086 0) ((S 64 p1)) (l3_7) → l3_7 = -1 ∨ (0 ≤ l3_7 ∧ l3_7 < 3000 ∧ (S 1100020 l3_7) = (S 64 p1) ∧ 0 < (S 51 l3_7) ∧ (S 51 l3_7) ≤ (S 1086 0))) := sm_PC_e
              have h := h k26
              refine sv_iload_n hM dX12_nextOf_70 rfl rfl ?_
              refine sv_iconst (d := (-1 : Int)) hM dX12_nextOf_71 rfl rfl ?_
              refine sv_icmp_eq hM dX12_nextOf_72 hl3_7 (⟨by decide, by decide⟩ : sv_R (-1 : Int)) (t := 94) rfl rfl (fun hc => ?_) (fun hc => ?_)
              · have h := h.1 (hc)
                refine sv_iconst (d := (-1 : Int)) hM dX12_nextOf_94 rfl rfl ?_
                exact sv_iret hM dX12_nextOf_95 rfl rfl ⟨(-1 : Int), rfl, (⟨by decide, by decide⟩ : sv_R (-1 : Int)), ok10, sv_mod.rf, h⟩
              · have h := h.2 (hc)
                refine sv_aload_n hM dX12_nextOf_75 rfl rfl ?_
                refine sv_getA hM dX12_nextOf_76 sm_fl_164 (sm_a0 _) sm_k90 rfl ?_
                refine sv_iload_n hM dX12_nextOf_79 rfl rfl ?_
                refine sv_iald hM dX12_nextOf_80 (sm_a51 _) (by decide) o16.1 o16.2 rfl (x := (S 51 l3_7)) rfl ?_
                refine sv_aload_n hM dX12_nextOf_81 rfl rfl ?_
                refine sv_getA hM dX12_nextOf_82 sm_fl_209 (sm_a0 _) sm_k106 rfl ?_
                refine sv_iload_n hM dX12_nextOf_85 rfl rfl ?_
                have k27 : sv_R (S 66 p1) := sm_okI ok10 sm_r66 p1
                have h := h k27
                refine sv_iald hM dX12_nextOf_86 (sm_a66 _) (by decide) o1.1 o1.2 rfl (x := (S 66 p1)) rfl ?_
                refine sv_icmp_gt hM dX12_nextOf_87 k17 k27 (t := 94) rfl rfl (fun hc => ?_) (fun hc => ?_)
                · have h := h.1 (hc)
                  refine sv_iconst (d := (-1 : Int)) hM dX12_nextOf_94 rfl rfl ?_
                  exact sv_iret hM dX12_nextOf_95 rfl rfl ⟨(-1 : Int), rfl, (⟨by decide, by decide⟩ : sv_R (-1 : Int)), ok10, sv_mod.rf, h⟩
                · have h := h.2 (hc)
                  refine sv_iload_n hM dX12_nextOf_90 rfl rfl ?_
                  refine sv_goto hM dX12_nextOf_91 (pc' := 95) rfl ?_
                  exact sv_iret hM dX12_nextOf_95 rfl rfl ⟨l3_7, rfl, hl3_7, ok10, sv_mod.rf, h⟩
            · have h := h.2 (hc)
              have k28 : (sm_PL (S 1100020) (S 51) (S 52) (S 46) (S 47) (S 1076 0) (S 1086 0) → 0 ≤ l3_7 → l3_7 < 3000 → (S 1100020 l3_7) = (S 64 p1) → 0 ≤ (S 64 p1) → sm_PC (S 1100020) (S 51) (S 1086 0) ((S 64 p1)) ((S 52 l3_7)) ∧ (¬ (S 52 l3_7) = -1 → (S 51 l3_7) < (S 51 (S 52 l3_7)))) := fun h a b c d => sm_PL_ne h _ a b c d
              have h := h k28
              have k29 : (sm_PC (S 1100020) (S 51) (S 1086 0) ((S 64 p1)) ((S 52 l3_7)) → (S 52 l3_7) = -1 ∨ (0 ≤ (S 52 l3_7) ∧ (S 52 l3_7) < 3000 ∧ (S 1100020 (S 52 l3_7)) = (S 64 p1) ∧ 0 < (S 51 (S 52 l3_7)) ∧ (S 51 (S 52 l3_7)) ≤ (S 1086 0))) := sm_PC_e
              have h := h k29
              refine sv_aload_n hM dX12_nextOf_60 rfl rfl ?_
              refine sv_getA hM dX12_nextOf_61 sm_fl_167 (sm_a0 _) sm_k91 rfl ?_
              refine sv_iload_n hM dX12_nextOf_64 rfl rfl ?_
              have k30 : sv_R (S 52 l3_7) := sm_okI ok10 sm_r52 l3_7
              have h := h k30
              refine sv_iald hM dX12_nextOf_65 (sm_a52 _) (by decide) o16.1 o16.2 rfl (x := (S 52 l3_7)) rfl ?_
              refine sv_istore_n hM dX12_nextOf_66 (by decide) rfl ?_
              show sv_T sm_XS sm_cs sm_L sm_sh 0 (q_nextOf p1 S) 163 67 [(0, .ref 0), (1, sv_I p1), (2, sv_I (S 64 p1)), (3, sv_I (S 52 l3_7))] [] S
              refine sv_goto hM dX12_nextOf_67 (pc' := 21) rfl ?_
              have hb := ih8 ((S 52 l3_7), ()) ⟨k30, ok10, h.1⟩ h.2
              exact sv_less (lv := [(0, .ref 0), (1, sv_I p1), (2, sv_I (S 64 p1)), (3, sv_I (S 52 l3_7))]) (sv_Sub_cons rfl (sv_Sub_cons rfl (sv_Sub_cons rfl (sv_Sub_cons rfl sv_Sub_nil)))) hb
    exact hJ ((S 46 (S 64 p1)), ()) ⟨k6, hok, hin9⟩
  · have h := h.2 (hc)
    refine sv_iconst (d := (-1 : Int)) hM dX12_nextOf_12 rfl rfl ?_
    exact sv_iret hM dX12_nextOf_13 rfl rfl ⟨(-1 : Int), rfl, (⟨by decide, by decide⟩ : sv_R (-1 : Int)), hok, sv_mod.rf, h⟩
def q_goNext (p1 : Int) (S : sv_S) : Option Value → sv_S → Prop := fun v S' => v = none ∧ sm_ok S' ∧ sv_mod [58, 57, 63, 64, 65] S S' ∧ (sm_PL (S' 1100020) (S' 51) (S' 52) (S' 46) (S' 47) (S' 1076 0) (S' 1086 0) ∧ sm_FR (S' 1100020) (S' 52) (S' 1100021) (S' 1100022) (3000 - (S' 1084 0)) (S' 1085 0) ∧ sm_PV (S' 1100020) (S' 48) (S' 49) (S' 50) (S' 44) (S' 1076 0) (S' 1007 0) ∧ sm_AL (S' 1100020) (S' 48) (S' 49) (S' 50) (S' 44) (S' 1076 0) (S' 1100032 0) ∧ sm_SV (S' 1100020) (S' 48) (S' 1100029) (S' 32) (S' 33) (S' 1076 0) (S' 1032 0) ∧ 0 ≤ (S' 1076 0) ∧ (S' 1076 0) ≤ 300 ∧ 0 ≤ (S' 1084 0) ∧ (S' 1084 0) ≤ 3000 ∧ 0 ≤ (S' 1086 0) ∧ sm_SC (S' 1100029) (S' 44) (S' 45) (S' 43) (S' 21) (S' 1076 0) (S' 1032 0) ∧ sm_PO (S' 42) (S' 1076 0) ∧ ((S' 1075 0) = 0 → (S' 1100032 0) = -1 ∧ sm_FO (S' 44) (S' 45) (S' 1076 0)) ∧ 23 ≤ (S' 1076 0) ∧ 31 ≤ (S' 1007 0) ∧ (S' 1007 0) ≤ 400 ∧ sm_LN (S' 4) 400 (S' 1007 0) ∧ (S' 1008 0) ≤ (S' 1007 0) ∧ ((S 1075 0) = 1 → (S' 1075 0) = 1) ∧ 0 ≤ (S' 1092 0) ∧ (S' 1092 0) ≤ 24 ∧ (S 1007 0) ≤ (S' 1007 0) ∧ (¬ (S' 1075 0) = 0 → sm_LX (S' 58) (S' 63) (S' 64) (S' 1092 0) (S' 1076 0)) ∧ ((S' 1075 0) = 0 → (S' 1073 0) = 1 → 1 ≤ (S' 1092 0) ∧ (S' 1092 0) ≤ 24 ∧ 0 ≤ (S' 57 ((S' 1092 0) - 1)) ∧ (S' 57 ((S' 1092 0) - 1)) < (S' 1046 0) ∧ (S' 29 (S' 57 ((S' 1092 0) - 1))) = (S' 53 ((S' 1092 0) - 1)) ∧ 0 ≤ (S' 53 ((S' 1092 0) - 1)) ∧ (S' 53 ((S' 1092 0) - 1)) < (S' 1032 0) ∧ (S' 60 ((S' 1092 0) - 1)) = sm_dp (S' 1100024) (S' 1100023 (S' 57 ((S' 1092 0) - 1))) ∧ sm_TC (S' 61) (S' 62) (S' 27) (S' 1100007) (S' 1100023) (S' 1100024) (40 * ((S' 1092 0) - 1)) (S' 1100023 (S' 57 ((S' 1092 0) - 1))) ∧ sm_LK (S' 1100029) (S' 1076 0) (S' 54 ((S' 1092 0) - 1)) (S' 53 ((S' 1092 0) - 1)) ∧ sm_VO (S' 44) (S' 1076 0) (S' 1007 0) ((S' 55 ((S' 1092 0) - 1))) ((S' 56 ((S' 1092 0) - 1))) ∧ sm_FW (S' 44) (S' 1076 0) (S' 59 ((S' 1092 0) - 1)) ∧ sm_FL (S' 53) (S' 54) (S' 55) (S' 56) (S' 57) (S' 58) (S' 59) (S' 60) (S' 61) (S' 62) (S' 63) (S' 64) (S' 27) (S' 29) (S' 1100007) (S' 1100023) (S' 1100024) (S' 1100025) (S' 26) (S' 1100029) (S' 44) (S' 1046 0) (S' 1032 0) (S' 1076 0) (S' 1007 0) (((S' 1092 0) - 1)) ∧ (S' 58 ((S' 1092 0) - 1)) = (S' 1100007 (S' 57 ((S' 1092 0) - 1))) ∧ sm_SK (S' 63) (S' 64) (S' 44) (S' 1100007) (S' 1100025) (S' 1076 0) (S' 1007 0) (400 * ((S' 1092 0) - 1)) ((S' 58 ((S' 1092 0) - 1))) ((S' 1100025 (S' 57 ((S' 1092 0) - 1))))) ∧ ((S' 1073 0) = 1 ∨ (S' 1092 0) = 0 ∧ (S' 1075 0) = 0 ∧ ((S' 1073 0) = 2 ∨ (S' 1073 0) = 3)))
theorem la_goNext_0 {x0 x1 : Int} (h0 : 1 ≤ x0) (h1 : x0 ≤ 24) (h2 : x1 ≤ 396) (h3 : 1 ≤ x1) : 1 ≤ x0 ∧ x0 ≤ 24 ∧ 0 ≤ x1 ∧ x1 ≤ 400 := by omega
theorem la_goNext_1 {x0 x1 : Int} (h0 : 1 ≤ x0) (h1 : x0 ≤ 24) (h2 : x1 ≤ 396) (h3 : 1 ≤ x1) : sv_R (400 * (x0 - 1) + x1 - 1) := by omega
theorem la_goNext_2 {x0 x1 x2 x3 x4 x5 : Int} (h0 : x0 ≤ 300) (h1 : 0 ≤ x1) (h2 : x1 ≤ 3000) (h3 : 0 ≤ x2) (h4 : 23 ≤ x0) (h5 : 1 ≤ x3) (h6 : x3 ≤ 24) (h7 : x4 ≤ 396) (h8 : 1 ≤ x4) (h9 : (-1) ≤ x5) (h10 : x5 < x0) : 0 ≤ x0 ∧ x0 ≤ 300 ∧ 0 ≤ x1 ∧ x1 ≤ 3000 ∧ 0 ≤ x2 ∧ 0 ≤ 400 * (x3 - 1) + x4 - 1 ∧ 400 * (x3 - 1) + x4 - 1 < 9600 ∧ (-1) ≤ x5 ∧ x5 < x0 := by omega
theorem la_goNext_3 {x0 : Int} (h0 : 0 ≤ x0) : (-1) ≤ x0 := by omega
theorem la_goNext_4 {x0 : Int} (h0 : (-1) ≤ x0) (h1 : ¬ x0 = (-1)) : (-1) < x0 := by omega
theorem la_goNext_5 {x0 : Int} (h0 : 0 ≤ x0) (h1 : x0 < 3000) : 0 ≤ x0 ∧ x0 < 3000 := by omega
theorem la_goNext_6 {x0 x1 : Int} (h0 : 1 ≤ x0) (h1 : x0 ≤ 24) (h2 : x1 ≤ 396) (h3 : 1 ≤ x1) : 0 ≤ 400 * (x0 - 1) + x1 - 1 ∧ 400 * (x0 - 1) + x1 - 1 < 9600 := by omega
theorem la_goNext_7 {x0 x1 : Int} (h0 : 1 ≤ x0) (h1 : x0 ≤ 24) (h2 : x1 ≤ 396) (h3 : 1 ≤ x1) : 1 ≤ x0 ∧ x0 ≤ 24 ∧ 0 ≤ x1 ∧ x1 ≤ 400 ∧ x1 < 400 := by omega
theorem la_goNext_8 {x0 x1 x2 x3 : Int} (h0 : x0 ≤ 600) (h1 : 1 ≤ x1) (h2 : x1 ≤ 24) (h3 : 0 ≤ x2) (h4 : x3 = x2) (h5 : x2 + 1 < x0) : 1 ≤ x1 ∧ x1 ≤ 24 ∧ 0 ≤ x3 ∧ x3 ≤ 600 := by omega
theorem la_goNext_9 {x0 : Int} (h0 : x0 = 0) : x0 = 1 → x0 = 1 := by omega
theorem la_goNext_10 {x0 : Int} (h0 : 1 ≤ x0) : 0 ≤ x0 := by omega
theorem la_goNext_11 {x0 : Int} : x0 ≤ x0 := by omega
theorem la_goNext_12 {x0 : Int} (h0 : x0 = 0) : x0 ≤ 0 := by omega
theorem la_goNext_13 {x0 : Int} (h0 : x0 ≤ 0) (h1 : ¬ x0 = 0) : x0 < 0 := by omega
theorem la_goNext_14 {x0 x1 : Int} : ¬ 400 * (x0 - 1) + x1 - 1 = 400 * (x0 - 1) + x1 := by omega
theorem la_goNext_15 {x0 : Int} : ¬ ¬ x0 - 1 = x0 - 1 := by omega
theorem la_goNext_16 {x0 x1 : Int} : ¬ ¬ 400 * (x0 - 1) + x1 = 400 * (x0 - 1) + x1 := by omega
theorem la_goNext_17 {x0 : Int} (h0 : x0 = 0) (h1 : x0 < 0) : False := by omega
theorem la_goNext_18 {x0 x1 x2 : Int} (h0 : 0 ≤ x0) (h1 : x1 = x0) (h2 : x2 = x1 + 1) : 0 ≤ x2 := by omega
theorem la_goNext_19 {x0 x1 x2 x3 : Int} (h0 : x0 = x1) (h1 : x1 + 1 < x2) (h2 : x3 = x0 + 1) : x3 < x2 := by omega
theorem la_goNext_20 {x0 x1 x2 : Int} (h0 : x0 = x1) (h1 : x2 = x0 + 1) : x2 = x1 + 1 := by omega
theorem la_goNext_21 {x0 x1 x2 x3 : Int} (h0 : x0 = x1) (h1 : x2 = x0) (h2 : x3 = x2) : x3 = x1 := by omega
theorem la_goNext_22 {x0 x1 x2 : Int} (h0 : x0 = x1) (h1 : x2 = x0) : x2 = x1 := by omega
theorem la_goNext_23 {x0 x1 x2 : Int} (h0 : x0 = x1) (h1 : x2 = x1) : x0 = x2 := by omega
theorem la_goNext_24 {x0 x1 x2 : Int} (h0 : x0 = x1) (h1 : x2 = x0) : x1 = x2 := by omega
theorem la_goNext_25 {x0 x1 : Int} (h0 : 1 ≤ x0) : 400 * (x1 - 1) ≤ 400 * (x1 - 1) + x0 := by omega
theorem la_goNext_26 {x0 x1 x2 x3 : Int} (h0 : x0 = x1 + 1) (h1 : x2 = x1 + 1) (h2 : x3 = x0) : x2 = x3 := by omega
theorem la_goNext_27 {x0 : Int} (h0 : x0 = 6) : 0 ≤ x0 := by omega
theorem la_goNext_28 {x0 : Int} (h0 : x0 = 6) : x0 ≤ 7 := by omega
theorem la_goNext_29 {x0 x1 x2 x3 : Int} (h0 : 0 ≤ x0) (h1 : x0 < x1) (h2 : x2 = x0) : x3 = 6 → 0 ≤ x2 ∧ x2 < x1 := by omega
theorem la_goNext_30 {x0 x1 x2 x3 : Int} (h0 : x0 = 6) : x0 = 7 → 0 ≤ x1 ∧ x1 < x2 ∧ ¬ x3 = 3 := by omega
theorem la_goNext_31 {x0 x1 x2 x3 : Int} (h0 : x0 = x1) (h1 : x2 = 29) : 0 ≤ x3 → x2 = 29 ∧ x0 ≤ x1 := by omega
theorem la_goNext_32 {x0 x1 x2 : Int} (h0 : x0 = 0) (h1 : x1 = 1) (h2 : 1 ≤ x2) : x1 = 1 ∨ x2 = 0 ∧ x0 = 0 ∧ (x1 = 2 ∨ x1 = 3) := by omega
theorem la_goNext_33 {x0 x1 : Int} (h0 : ¬ ¬ x0 = (-1)) : ¬ (0 ≤ x0 ∧ x0 < 3000 ∧ 0 ≤ x1) := by omega
theorem la_goNext_34 {x0 : Int} (h0 : ¬ ¬ x0 = (-1)) : ¬ 0 ≤ x0 := by omega
theorem la_goNext_35 {x0 x1 : Int} (h0 : 1 ≤ x0) (h1 : x0 ≤ 24) (h2 : x1 ≤ 396) (h3 : 1 ≤ x1) : 1 ≤ x0 ∧ x0 ≤ 24 ∧ 0 ≤ x1 ∧ x1 ≤ 400 ∧ (0 : Int) ≤ 1 ∧ 1 ≤ x1 := by omega
theorem la_goNext_36 {x0 : Int} (h0 : 1 ≤ x0) (h1 : x0 ≤ 24) : 0 ≤ x0 - 1 ∧ x0 - 1 < 24 := by omega
theorem la_goNext_37 {x0 : Int} : x0 - 1 = x0 - 1 := by omega
theorem la_goNext_38 {x0 x1 : Int} (h0 : 0 ≤ x0) (h1 : x1 = x0) : 0 ≤ x1 := by omega
theorem la_goNext_39 {x0 x1 x2 : Int} (h0 : x0 < x1) (h1 : x2 = x0) : x2 < x1 := by omega
theorem la_goNext_40 {x0 x1 : Int} (h0 : x0 = x1) : x1 = x0 := by omega
theorem la_goNext_41 {x0 x1 x2 x3 : Int} (h0 : x0 = x1) (h1 : x2 = x0) (h2 : x2 = x3) : x3 = x1 := by omega
theorem la_goNext_42 {x0 x1 x2 : Int} (h0 : x0 = x1) (h1 : x0 = x2) : x2 = x1 := by omega
theorem la_goNext_43 {x0 x1 x2 : Int} (h0 : x0 = x1) (h1 : x0 = x2) : x1 = x2 := by omega
theorem la_goNext_44 {x0 x1 x2 x3 : Int} (h0 : x0 = x1 - 1) (h1 : x2 = x1 - 1) (h2 : x0 = x3) : x2 = x3 := by omega
set_option maxHeartbeats 2000000 in
theorem f_goNext : ∀ (p1 : Int) (S : sv_S), sm_ok S → sv_R p1 → ((S 1075 0) = 0 ∧ (S 1073 0) = 1 ∧ sm_LX (S 58) (S 63) (S 64) (S 1092 0) (S 1076 0) ∧ sm_PL (S 1100020) (S 51) (S 52) (S 46) (S 47) (S 1076 0) (S 1086 0) ∧ sm_FR (S 1100020) (S 52) (S 1100021) (S 1100022) (3000 - (S 1084 0)) (S 1085 0) ∧ sm_PV (S 1100020) (S 48) (S 49) (S 50) (S 44) (S 1076 0) (S 1007 0) ∧ sm_AL (S 1100020) (S 48) (S 49) (S 50) (S 44) (S 1076 0) (S 1100032 0) ∧ sm_SV (S 1100020) (S 48) (S 1100029) (S 32) (S 33) (S 1076 0) (S 1032 0) ∧ 0 ≤ (S 1076 0) ∧ (S 1076 0) ≤ 300 ∧ 0 ≤ (S 1084 0) ∧ (S 1084 0) ≤ 3000 ∧ 0 ≤ (S 1086 0) ∧ sm_SC (S 1100029) (S 44) (S 45) (S 43) (S 21) (S 1076 0) (S 1032 0) ∧ sm_PO (S 42) (S 1076 0) ∧ (S 1100032 0) = -1 ∧ sm_FO (S 44) (S 45) (S 1076 0) ∧ 23 ≤ (S 1076 0) ∧ 31 ≤ (S 1007 0) ∧ (S 1007 0) ≤ 400 ∧ sm_LN (S 4) 400 (S 1007 0) ∧ sm_CT (S 26) (S 27) (S 28) (S 29) (S 1100007) (S 1100023) (S 1100024) (S 1100025) (S 21) (S 1046 0) (S 1032 0) (S 1008 0) (S 1055 0) ∧ sm_LS (S 26) (S 1100007) (S 1100025) (S 1046 0) ∧ sm_CL (S 1100007) (S 1100023) (S 1100025) (S 1046 0) ∧ 1 ≤ (S 1032 0) ∧ (S 1032 0) ≤ 11 ∧ 0 ≤ (S 1046 0) ∧ (S 1046 0) ≤ 600 ∧ 31 ≤ (S 1008 0) ∧ (S 1008 0) ≤ (S 1007 0) ∧ 0 ≤ (S 1055 0) ∧ (S 1055 0) ≤ 19 ∧ 1 ≤ (S 1092 0) ∧ (S 1092 0) ≤ 24 ∧ 0 ≤ (S 1100033 0) ∧ (S 1100033 0) < (S 1046 0) ∧ (S 29 (S 1100033 0)) = (S 53 ((S 1092 0) - 1)) ∧ 0 ≤ (S 53 ((S 1092 0) - 1)) ∧ (S 53 ((S 1092 0) - 1)) < (S 1032 0) ∧ (S 60 ((S 1092 0) - 1)) = sm_dp (S 1100024) (S 1100023 (S 1100033 0)) ∧ sm_TC (S 61) (S 62) (S 27) (S 1100007) (S 1100023) (S 1100024) (40 * ((S 1092 0) - 1)) (S 1100023 (S 1100033 0)) ∧ sm_LK (S 1100029) (S 1076 0) (S 54 ((S 1092 0) - 1)) (S 53 ((S 1092 0) - 1)) ∧ sm_VO (S 44) (S 1076 0) (S 1007 0) ((S 55 ((S 1092 0) - 1))) ((S 56 ((S 1092 0) - 1))) ∧ sm_FW (S 44) (S 1076 0) (S 59 ((S 1092 0) - 1)) ∧ sm_FL (S 53) (S 54) (S 55) (S 56) (S 57) (S 58) (S 59) (S 60) (S 61) (S 62) (S 63) (S 64) (S 27) (S 29) (S 1100007) (S 1100023) (S 1100024) (S 1100025) (S 26) (S 1100029) (S 44) (S 1046 0) (S 1032 0) (S 1076 0) (S 1007 0) (((S 1092 0) - 1)) ∧ (S 57 ((S 1092 0) - 1)) = (S 1100033 0) ∧ 0 ≤ (S 58 ((S 1092 0) - 1)) ∧ (S 58 ((S 1092 0) - 1)) ≤ 400 ∧ sm_SK (S 63) (S 64) (S 44) (S 1100007) (S 1100025) (S 1076 0) (S 1007 0) (400 * ((S 1092 0) - 1)) ((S 58 ((S 1092 0) - 1))) ((S 1100034 0)) ∧ -1 ≤ (S 1100034 0) ∧ (S 1100034 0) < (S 1046 0) ∧ (0 ≤ (S 1100034 0) → (S 26 (S 1100034 0)) = 29) ∧ (S 58 ((S 1092 0) - 1)) = (S 1100007 (S 1100033 0)) ∧ (S 1100034 0) = (S 1100025 (S 1100033 0)) ∧ (0 ≤ (S 1100023 (S 1100033 0)) → (S 1100007 (S 1100023 (S 1100033 0))) ≤ (S 58 ((S 1092 0) - 1))) ∧ (S 58 ((S 1092 0) - 1)) ≤ 396 ∧ 0 ≤ (S 1100034 0) ∧ 1 ≤ (S 58 ((S 1092 0) - 1)) ∧ (S 1100007 (S 1100034 0)) = (S 58 ((S 1092 0) - 1)) ∧ (S 1100033 0) + 1 < (S 1046 0) ∧ (S 29 ((S 1100033 0) + 1)) = (S 29 (S 1100033 0)) ∧ (S 1100007 ((S 1100033 0) + 1)) = (S 58 ((S 1092 0) - 1)) + 1 ∧ (S 1100023 ((S 1100033 0) + 1)) = (S 1100023 (S 1100033 0)) ∧ (S 1100025 ((S 1100033 0) + 1)) = (S 1100034 0) ∧ 0 ≤ p1 ∧ p1 < (S 1046 0) ∧ (S 29 p1) = (S 29 (S 1100033 0)) ∧ (S 1100007 p1) = (S 58 ((S 1092 0) - 1)) - 1 ∧ (S 1100023 p1) = (S 1100023 (S 1100033 0)) ∧ (S 1100025 p1) = (S 1100025 (S 1100034 0))) → ((sm_SK (S 63) (S 64) (S 44) (S 1100007) (S 1100025) (S 1076 0) (S 1007 0) (400 * ((S 1092 0) - 1)) ((S 58 ((S 1092 0) - 1))) ((S 1100034 0)) → sm_LS (S 26) (S 1100007) (S 1100025) (S 1046 0) → 0 ≤ (S 1100034 0) → (S 1100034 0) < (S 1046 0) → (S 26 (S 1100034 0)) = 29 → (S 1100007 (S 1100034 0)) = (S 58 ((S 1092 0) - 1)) → (S 63 (400 * ((S 1092 0) - 1) + (S 58 ((S 1092 0) - 1)) - 1)) = 8 ∧ -1 ≤ (S 64 (400 * ((S 1092 0) - 1) + (S 58 ((S 1092 0) - 1)) - 1)) ∧ (S 64 (400 * ((S 1092 0) - 1) + (S 58 ((S 1092 0) - 1)) - 1)) < (S 1076 0)) → (1 ≤ (S 1092 0) ∧ (S 1092 0) ≤ 24 ∧ 0 ≤ (S 58 ((S 1092 0) - 1)) ∧ (S 58 ((S 1092 0) - 1)) ≤ 400) ∧ (sv_R (((400 * ((S 1092 0) - 1) + (S 58 ((S 1092 0) - 1)))) - (1 : Int))) ∧ (sm_PL (S 1100020) (S 51) (S 52) (S 46) (S 47) (S 1076 0) (S 1086 0) ∧ 0 ≤ (S 1076 0) ∧ (S 1076 0) ≤ 300 ∧ 0 ≤ (S 1084 0) ∧ (S 1084 0) ≤ 3000 ∧ 0 ≤ (S 1086 0) ∧ 0 ≤ (((400 * ((S 1092 0) - 1) + (S 58 ((S 1092 0) - 1)))) - (1 : Int)) ∧ (((400 * ((S 1092 0) - 1) + (S 58 ((S 1092 0) - 1)))) - (1 : Int)) < 9600 ∧ -1 ≤ (S 64 (((400 * ((S 1092 0) - 1) + (S 58 ((S 1092 0) - 1)))) - (1 : Int))) ∧ (S 64 (((400 * ((S 1092 0) - 1) + (S 58 ((S 1092 0) - 1)))) - (1 : Int))) < (S 1076 0)) ∧ (∀ r9 : Int, sv_R r9 → (r9 = -1 ∨ (0 ≤ r9 ∧ r9 < 3000 ∧ 0 ≤ (S 1100020 r9))) → ((sm_PV (S 1100020) (S 48) (S 49) (S 50) (S 44) (S 1076 0) (S 1007 0) → 0 ≤ r9 → r9 < 3000 → 0 ≤ (S 1100020 r9) → (0 ≤ (S 48 r9) ∧ (S 48 r9) < (S 1007 0)) ∧ sm_VO (S 44) (S 1076 0) (S 1007 0) ((S 49 r9)) ((S 50 r9))) → (((¬ r9 = (-1 : Int)) → (0 ≤ r9 ∧ r9 < 3000) ∧ (sv_R (S 51 r9) → (0 ≤ (((400 * ((S 1092 0) - 1) + (S 58 ((S 1092 0) - 1)))) - (1 : Int)) ∧ (((400 * ((S 1092 0) - 1) + (S 58 ((S 1092 0) - 1)))) - (1 : Int)) < 9600) ∧ (sv_R (S 48 r9) → (1 ≤ (S 1092 0) ∧ (S 1092 0) ≤ 24 ∧ 0 ≤ (S 58 ((S 1092 0) - 1)) ∧ (S 58 ((S 1092 0) - 1)) ≤ 400 ∧ (S 58 ((S 1092 0) - 1)) < 400) ∧ (∀ g18 : sv_S, ((g18 58 ((S 1092 0) - 1)) = (S 58 ((S 1092 0) - 1)) + 1 ∧ (g18 63 (400 * ((S 1092 0) - 1) + (S 58 ((S 1092 0) - 1)))) = (6 : Int) ∧ (g18 64 (400 * ((S 1092 0) - 1) + (S 58 ((S 1092 0) - 1)))) = (S 48 r9) ∧ (∀ k : Int, ¬ k = (S 1092 0) - 1 → (g18 58 k) = (S 58 k)) ∧ (∀ k : Int, ¬ k = (400 * ((S 1092 0) - 1) + (S 58 ((S 1092 0) - 1))) → (g18 63 k) = (S 63 k)) ∧ (∀ k : Int, ¬ k = (400 * ((S 1092 0) - 1) + (S 58 ((S 1092 0) - 1))) → (g18 64 k) = (S 64 k))) → (1 ≤ (S 1092 0) ∧ (S 1092 0) ≤ 24 ∧ 0 ≤ (S 57 ((S 1092 0) - 1)) ∧ (S 57 ((S 1092 0) - 1)) ≤ 600) ∧ (∀ g24 : sv_S, ((g24 57 ((S 1092 0) - 1)) = (S 57 ((S 1092 0) - 1)) + 1 ∧ (∀ k : Int, ¬ k = (S 1092 0) - 1 → (g24 57 k) = (S 57 k))) → (sm_PL (S 1100020) (S 51) (S 52) (S 46) (S 47) (S 1076 0) (S 1086 0) ∧ sm_FR (S 1100020) (S 52) (S 1100021) (S 1100022) (3000 - (S 1084 0)) (S 1085 0) ∧ sm_PV (S 1100020) (S 48) (S 49) (S 50) (S 44) (S 1076 0) (S 1007 0) ∧ sm_AL (S 1100020) (S 48) (S 49) (S 50) (S 44) (S 1076 0) (S 1100032 0) ∧ sm_SV (S 1100020) (S 48) (S 1100029) (S 32) (S 33) (S 1076 0) (S 1032 0) ∧ 0 ≤ (S 1076 0) ∧ (S 1076 0) ≤ 300 ∧ 0 ≤ (S 1084 0) ∧ (S 1084 0) ≤ 3000 ∧ 0 ≤ (S 1086 0) ∧ sm_SC (S 1100029) (S 44) (S 45) (S 43) (S 21) (S 1076 0) (S 1032 0) ∧ sm_PO (S 42) (S 1076 0) ∧ ((S 1075 0) = 0 → (S 1100032 0) = -1 ∧ sm_FO (S 44) (S 45) (S 1076 0)) ∧ 23 ≤ (S 1076 0) ∧ 31 ≤ (S 1007 0) ∧ (S 1007 0) ≤ 400 ∧ sm_LN (S 4) 400 (S 1007 0) ∧ (S 1008 0) ≤ (S 1007 0) ∧ ((S 1075 0) = 1 → (S 1075 0) = 1) ∧ 0 ≤ (S 1092 0) ∧ (S 1092 0) ≤ 24 ∧ (S 1007 0) ≤ (S 1007 0) ∧ (¬ (S 1075 0) = 0 → sm_LX (g18 58) (g18 63) (g18 64) (S 1092 0) (S 1076 0)) ∧ ((S 1075 0) = 0 → (S 1073 0) = 1 → 1 ≤ (S 1092 0) ∧ (S 1092 0) ≤ 24 ∧ 0 ≤ (g24 57 ((S 1092 0) - 1)) ∧ (g24 57 ((S 1092 0) - 1)) < (S 1046 0) ∧ (S 29 (g24 57 ((S 1092 0) - 1))) = (S 53 ((S 1092 0) - 1)) ∧ 0 ≤ (S 53 ((S 1092 0) - 1)) ∧ (S 53 ((S 1092 0) - 1)) < (S 1032 0) ∧ (S 60 ((S 1092 0) - 1)) = sm_dp (S 1100024) (S 1100023 (g24 57 ((S 1092 0) - 1))) ∧ sm_TC (S 61) (S 62) (S 27) (S 1100007) (S 1100023) (S 1100024) (40 * ((S 1092 0) - 1)) (S 1100023 (g24 57 ((S 1092 0) - 1))) ∧ sm_LK (S 1100029) (S 1076 0) (S 54 ((S 1092 0) - 1)) (S 53 ((S 1092 0) - 1)) ∧ sm_VO (S 44) (S 1076 0) (S 1007 0) ((S 55 ((S 1092 0) - 1))) ((S 56 ((S 1092 0) - 1))) ∧ sm_FW (S 44) (S 1076 0) (S 59 ((S 1092 0) - 1)) ∧ sm_FL (S 53) (S 54) (S 55) (S 56) (g24 57) (g18 58) (S 59) (S 60) (S 61) (S 62) (g18 63) (g18 64) (S 27) (S 29) (S 1100007) (S 1100023) (S 1100024) (S 1100025) (S 26) (S 1100029) (S 44) (S 1046 0) (S 1032 0) (S 1076 0) (S 1007 0) (((S 1092 0) - 1)) ∧ (g18 58 ((S 1092 0) - 1)) = (S 1100007 (g24 57 ((S 1092 0) - 1))) ∧ sm_SK (g18 63) (g18 64) (S 44) (S 1100007) (S 1100025) (S 1076 0) (S 1007 0) (400 * ((S 1092 0) - 1)) ((g18 58 ((S 1092 0) - 1))) ((S 1100025 (g24 57 ((S 1092 0) - 1))))) ∧ ((S 1073 0) = 1 ∨ (S 1092 0) = 0 ∧ (S 1075 0) = 0 ∧ ((S 1073 0) = 2 ∨ (S 1073 0) = 3)))))))) ∧ ((¬ (¬ r9 = (-1 : Int))) → (1 ≤ (S 1092 0) ∧ (S 1092 0) ≤ 24 ∧ 0 ≤ (S 58 ((S 1092 0) - 1)) ∧ (S 58 ((S 1092 0) - 1)) ≤ 400 ∧ 0 ≤ (1 : Int) ∧ (1 : Int) ≤ (S 58 ((S 1092 0) - 1))) ∧ (∀ g30 : sv_S, ((g30 58 ((S 1092 0) - 1)) = (S 58 ((S 1092 0) - 1)) - (1 : Int) ∧ (∀ k : Int, ¬ k = (S 1092 0) - 1 → (g30 58 k) = (S 58 k))) → (sv_R (S 1092 0) → (0 ≤ ((S 1092 0) - (1 : Int)) ∧ ((S 1092 0) - (1 : Int)) < 24) ∧ (sm_PL (S 1100020) (S 51) (S 52) (S 46) (S 47) (S 1076 0) (S 1086 0) ∧ sm_FR (S 1100020) (S 52) (S 1100021) (S 1100022) (3000 - (S 1084 0)) (S 1085 0) ∧ sm_PV (S 1100020) (S 48) (S 49) (S 50) (S 44) (S 1076 0) (S 1007 0) ∧ sm_AL (S 1100020) (S 48) (S 49) (S 50) (S 44) (S 1076 0) (S 1100032 0) ∧ sm_SV (S 1100020) (S 48) (S 1100029) (S 32) (S 33) (S 1076 0) (S 1032 0) ∧ 0 ≤ (S 1076 0) ∧ (S 1076 0) ≤ 300 ∧ 0 ≤ (S 1084 0) ∧ (S 1084 0) ≤ 3000 ∧ 0 ≤ (S 1086 0) ∧ sm_SC (S 1100029) (S 44) (S 45) (S 43) (S 21) (S 1076 0) (S 1032 0) ∧ sm_PO (S 42) (S 1076 0) ∧ ((S 1075 0) = 0 → (S 1100032 0) = -1 ∧ sm_FO (S 44) (S 45) (S 1076 0)) ∧ 23 ≤ (S 1076 0) ∧ 31 ≤ (S 1007 0) ∧ (S 1007 0) ≤ 400 ∧ sm_LN (S 4) 400 (S 1007 0) ∧ (S 1008 0) ≤ (S 1007 0) ∧ ((S 1075 0) = 1 → (S 1075 0) = 1) ∧ 0 ≤ (S 1092 0) ∧ (S 1092 0) ≤ 24 ∧ (S 1007 0) ≤ (S 1007 0) ∧ (¬ (S 1075 0) = 0 → sm_LX (g30 58) (S 63) (S 64) (S 1092 0) (S 1076 0)) ∧ ((S 1075 0) = 0 → (S 1073 0) = 1 → 1 ≤ (S 1092 0) ∧ (S 1092 0) ≤ 24 ∧ 0 ≤ (if ((S 1092 0) - 1) = ((S 1092 0) - (1 : Int)) then p1 else (S 57 ((S 1092 0) - 1))) ∧ (if ((S 1092 0) - 1) = ((S 1092 0) - (1 : Int)) then p1 else (S 57 ((S 1092 0) - 1))) < (S 1046 0) ∧ (S 29 (if ((S 1092 0) - 1) = ((S 1092 0) - (1 : Int)) then p1 else (S 57 ((S 1092 0) - 1)))) = (S 53 ((S 1092 0) - 1)) ∧ 0 ≤ (S 53 ((S 1092 0) - 1)) ∧ (S 53 ((S 1092 0) - 1)) < (S 1032 0) ∧ (S 60 ((S 1092 0) - 1)) = sm_dp (S 1100024) (S 1100023 (if ((S 1092 0) - 1) = ((S 1092 0) - (1 : Int)) then p1 else (S 57 ((S 1092 0) - 1)))) ∧ sm_TC (S 61) (S 62) (S 27) (S 1100007) (S 1100023) (S 1100024) (40 * ((S 1092 0) - 1)) (S 1100023 (if ((S 1092 0) - 1) = ((S 1092 0) - (1 : Int)) then p1 else (S 57 ((S 1092 0) - 1)))) ∧ sm_LK (S 1100029) (S 1076 0) (S 54 ((S 1092 0) - 1)) (S 53 ((S 1092 0) - 1)) ∧ sm_VO (S 44) (S 1076 0) (S 1007 0) ((S 55 ((S 1092 0) - 1))) ((S 56 ((S 1092 0) - 1))) ∧ sm_FW (S 44) (S 1076 0) (S 59 ((S 1092 0) - 1)) ∧ sm_FL (S 53) (S 54) (S 55) (S 56) (fun i' : Int => if i' = ((S 1092 0) - (1 : Int)) then p1 else (S 57) i') (g30 58) (S 59) (S 60) (S 61) (S 62) (S 63) (S 64) (S 27) (S 29) (S 1100007) (S 1100023) (S 1100024) (S 1100025) (S 26) (S 1100029) (S 44) (S 1046 0) (S 1032 0) (S 1076 0) (S 1007 0) (((S 1092 0) - 1)) ∧ (g30 58 ((S 1092 0) - 1)) = (S 1100007 (if ((S 1092 0) - 1) = ((S 1092 0) - (1 : Int)) then p1 else (S 57 ((S 1092 0) - 1)))) ∧ sm_SK (S 63) (S 64) (S 44) (S 1100007) (S 1100025) (S 1076 0) (S 1007 0) (400 * ((S 1092 0) - 1)) ((g30 58 ((S 1092 0) - 1))) ((S 1100025 (if ((S 1092 0) - 1) = ((S 1092 0) - (1 : Int)) then p1 else (S 57 ((S 1092 0) - 1)))))) ∧ ((S 1073 0) = 1 ∨ (S 1092 0) = 0 ∧ (S 1075 0) = 0 ∧ ((S 1073 0) = 2 ∨ (S 1073 0) = 3)))))))))) := by
  intro p1
  intro S
  intro h1_
  intro h2_
  rintro ⟨h3_, ⟨h4_, ⟨h5_, ⟨h6_, ⟨h7_, ⟨h8_, ⟨h9_, ⟨h10_, ⟨h11_, ⟨h12_, ⟨h13_, ⟨h14_, ⟨h15_, ⟨h16_, ⟨h17_, ⟨h18_, ⟨h19_, ⟨h20_, ⟨h21_, ⟨h22_, ⟨h23_, ⟨h24_, ⟨h25_, ⟨h26_, ⟨h27_, ⟨h28_, ⟨h29_, ⟨h30_, ⟨h31_, ⟨h32_, ⟨h33_, ⟨h34_, ⟨h35_, ⟨h36_, ⟨h37_, ⟨h38_, ⟨h39_, ⟨h40_, ⟨h41_, ⟨h42_, ⟨h43_, ⟨h44_, ⟨h45_, ⟨h46_, ⟨h47_, ⟨h48_, ⟨h49_, ⟨h50_, ⟨h51_, ⟨h52_, ⟨h53_, ⟨h54_, ⟨h55_, ⟨h56_, ⟨h57_, ⟨h58_, ⟨h59_, ⟨h60_, ⟨h61_, ⟨h62_, ⟨h63_, ⟨h64_, ⟨h65_, ⟨h66_, ⟨h67_, ⟨h68_, ⟨h69_, ⟨h70_, ⟨h71_, h72_⟩⟩⟩⟩⟩⟩⟩⟩⟩⟩⟩⟩⟩⟩⟩⟩⟩⟩⟩⟩⟩⟩⟩⟩⟩⟩⟩⟩⟩⟩⟩⟩⟩⟩⟩⟩⟩⟩⟩⟩⟩⟩⟩⟩⟩⟩⟩⟩⟩⟩⟩⟩⟩⟩⟩⟩⟩⟩⟩⟩⟩⟩⟩⟩⟩⟩⟩⟩⟩
  have h73_ := (h54_ h59_)
  intro h74_
  have h75_ := (h74_ h51_)
  have h76_ := (h75_ h25_)
  have h77_ := (h76_ h59_)
  have h78_ := (h77_ h53_)
  have h79_ := (h78_ h73_)
  obtain ⟨h80_, ⟨h81_, h82_⟩⟩ := (h79_ h61_)
  refine ⟨(la_goNext_0 h35_ h36_ h58_ h60_), ?_⟩
  refine ⟨(la_goNext_1 h35_ h36_ h58_ h60_), ?_⟩
  refine ⟨⟨h6_, (la_goNext_2 h12_ h13_ h14_ h15_ h20_ h35_ h36_ h58_ h60_ h81_ h82_)⟩, ?_⟩
  intro r9
  intro h83_
  intro h84_
  intro h85_
  have h86_ := (h85_ h8_)
  refine ⟨?_, ?_⟩
  · skip
    intro h87_
    obtain ⟨h88_, ⟨h89_, h90_⟩⟩ := (h84_.resolve_left h87_)
    have h91_ := (h86_ h88_)
    have h92_ := (h91_ h89_)
    obtain ⟨⟨h93_, h94_⟩, h95_⟩ := (h92_ h90_)
    refine ⟨(la_goNext_5 h88_ h89_), ?_⟩
    intro h96_
    refine ⟨(la_goNext_6 h35_ h36_ h58_ h60_), ?_⟩
    intro h97_
    refine ⟨(la_goNext_7 h35_ h36_ h58_ h60_), ?_⟩
    intro g18
    rintro ⟨h98_, ⟨h99_, ⟨h100_, ⟨h101_, ⟨h102_, h103_⟩⟩⟩⟩⟩
    refine ⟨(la_goNext_8 h30_ h35_ h36_ h37_ h48_ h62_), ?_⟩
    intro g24
    rintro ⟨h104_, h105_⟩
    refine ⟨h6_, ?_⟩
    refine ⟨h7_, ?_⟩
    refine ⟨h8_, ?_⟩
    refine ⟨h9_, ?_⟩
    refine ⟨h10_, ?_⟩
    refine ⟨h11_, ?_⟩
    refine ⟨h12_, ?_⟩
    refine ⟨h13_, ?_⟩
    refine ⟨h14_, ?_⟩
    refine ⟨h15_, ?_⟩
    refine ⟨h16_, ?_⟩
    refine ⟨h17_, ?_⟩
    refine ⟨?_, ?_⟩
    · skip
      intro h106_
      refine ⟨h18_, ?_⟩
      exact h19_
    refine ⟨h20_, ?_⟩
    refine ⟨h21_, ?_⟩
    refine ⟨h22_, ?_⟩
    refine ⟨h23_, ?_⟩
    refine ⟨h32_, ?_⟩
    refine ⟨(la_goNext_9 h3_), ?_⟩
    refine ⟨(la_goNext_10 h35_), ?_⟩
    refine ⟨h36_, ?_⟩
    refine ⟨la_goNext_11, ?_⟩
    refine ⟨?_, ?_⟩
    · skip
      intro h107_
      have h108_ := (h101_ (S 1092 0 - 1))
      have h109_ := (h102_ (400 * (S 1092 0 - 1) + S 58 (S 1092 0 - 1)))
      have h110_ := ((h102_ (400 * (S 1092 0 - 1) + S 58 (S 1092 0 - 1) - 1)) la_goNext_14)
      have h111_ := (h103_ (400 * (S 1092 0 - 1) + S 58 (S 1092 0 - 1)))
      have h112_ := ((h103_ (400 * (S 1092 0 - 1) + S 58 (S 1092 0 - 1) - 1)) la_goNext_14)
      have h113_ := (h105_ (S 1092 0 - 1))
      exact ((la_goNext_17 h3_ (la_goNext_13 (la_goNext_12 h3_) h107_))).elim
    refine ⟨?_, ?_⟩
    · skip
      intro h114_
      intro h115_
      refine ⟨h35_, ?_⟩
      refine ⟨h36_, ?_⟩
      refine ⟨(la_goNext_18 h37_ h48_ h104_), ?_⟩
      refine ⟨(la_goNext_19 h48_ h62_ h104_), ?_⟩
      refine ⟨?_, ?_⟩
      · skip
        have h116_ := (h101_ (S 1092 0 - 1))
        have h117_ := (h102_ (400 * (S 1092 0 - 1) + S 58 (S 1092 0 - 1)))
        have h118_ := ((h102_ (400 * (S 1092 0 - 1) + S 58 (S 1092 0 - 1) - 1)) la_goNext_14)
        have h119_ := (h103_ (400 * (S 1092 0 - 1) + S 58 (S 1092 0 - 1)))
        have h120_ := ((h103_ (400 * (S 1092 0 - 1) + S 58 (S 1092 0 - 1) - 1)) la_goNext_14)
        have h121_ := (h105_ (S 1092 0 - 1))
        have e122_ : S 29 (g24 57 (S 1092 0 - 1)) = S 29 (S 1100033 0 + 1) := congrArg ((S 29)) (la_goNext_20 h48_ h104_)
        exact (la_goNext_21 h39_ h63_ e122_)
      refine ⟨h40_, ?_⟩
      refine ⟨h41_, ?_⟩
      refine ⟨?_, ?_⟩
      · skip
        have h123_ := (h101_ (S 1092 0 - 1))
        have h124_ := (h102_ (400 * (S 1092 0 - 1) + S 58 (S 1092 0 - 1)))
        have h125_ := ((h102_ (400 * (S 1092 0 - 1) + S 58 (S 1092 0 - 1) - 1)) la_goNext_14)
        have h126_ := (h103_ (400 * (S 1092 0 - 1) + S 58 (S 1092 0 - 1)))
        have h127_ := ((h103_ (400 * (S 1092 0 - 1) + S 58 (S 1092 0 - 1) - 1)) la_goNext_14)
        have h128_ := (h105_ (S 1092 0 - 1))
        have e129_ : S 1100023 (g24 57 (S 1092 0 - 1)) = S 1100023 (S 1100033 0 + 1) := congrArg ((S 1100023)) (la_goNext_20 h48_ h104_)
        have e130_ : sm_dp (S 1100024) (S 1100023 (g24 57 (S 1092 0 - 1))) = sm_dp (S 1100024) (S 1100023 (S 1100033 0)) := congrArg ((sm_dp (S 1100024))) (la_goNext_22 h65_ e129_)
        exact (la_goNext_23 h42_ e130_)
      refine ⟨?_, ?_⟩
      · skip
        have h131_ := (h101_ (S 1092 0 - 1))
        have h132_ := (h102_ (400 * (S 1092 0 - 1) + S 58 (S 1092 0 - 1)))
        have h133_ := ((h102_ (400 * (S 1092 0 - 1) + S 58 (S 1092 0 - 1) - 1)) la_goNext_14)
        have h134_ := (h103_ (400 * (S 1092 0 - 1) + S 58 (S 1092 0 - 1)))
        have h135_ := ((h103_ (400 * (S 1092 0 - 1) + S 58 (S 1092 0 - 1) - 1)) la_goNext_14)
        have h136_ := (h105_ (S 1092 0 - 1))
        have e137_ : S 1100023 (g24 57 (S 1092 0 - 1)) = S 1100023 (S 1100033 0 + 1) := congrArg ((S 1100023)) (la_goNext_20 h48_ h104_)
        exact (sm_TC_t h43_ (la_goNext_24 h65_ e137_))
      refine ⟨h44_, ?_⟩
      refine ⟨h45_, ?_⟩
      refine ⟨h46_, ?_⟩
      refine ⟨(sm_FL_F h47_ sm_F1_rf sm_F1_rf sm_F1_rf sm_F1_rf (sm_F1_le (sm_F1_ne h105_ (Int.le_refl _)) (Int.le_refl _)) (sm_F1_le (sm_F1_ne h101_ (Int.le_refl _)) (Int.le_refl _)) sm_F1_rf sm_F1_rf sm_F1_rf sm_F1_rf (sm_F1_le (sm_F1_ne h102_ (Int.le_refl _)) (la_goNext_25 h60_)) (sm_F1_le (sm_F1_ne h103_ (Int.le_refl _)) (la_goNext_25 h60_)) (Int.le_refl _) (Int.le_refl _) sm_F1_rf sm_F1_rf (sm_FL_dp h47_ h24_)), ?_⟩
      refine ⟨?_, ?_⟩
      · skip
        have h138_ := (h101_ (S 1092 0 - 1))
        have h139_ := (h102_ (400 * (S 1092 0 - 1) + S 58 (S 1092 0 - 1)))
        have h140_ := ((h102_ (400 * (S 1092 0 - 1) + S 58 (S 1092 0 - 1) - 1)) la_goNext_14)
        have h141_ := (h103_ (400 * (S 1092 0 - 1) + S 58 (S 1092 0 - 1)))
        have h142_ := ((h103_ (400 * (S 1092 0 - 1) + S 58 (S 1092 0 - 1) - 1)) la_goNext_14)
        have h143_ := (h105_ (S 1092 0 - 1))
        have e144_ : S 1100007 (g24 57 (S 1092 0 - 1)) = S 1100007 (S 1100033 0 + 1) := congrArg ((S 1100007)) (la_goNext_20 h48_ h104_)
        exact (la_goNext_26 h64_ h98_ e144_)
      have h145_ := (h101_ (S 1092 0 - 1))
      have h146_ := (h102_ (400 * (S 1092 0 - 1) + S 58 (S 1092 0 - 1)))
      have h147_ := ((h102_ (400 * (S 1092 0 - 1) + S 58 (S 1092 0 - 1) - 1)) la_goNext_14)
      have h148_ := (h103_ (400 * (S 1092 0 - 1) + S 58 (S 1092 0 - 1)))
      have h149_ := ((h103_ (400 * (S 1092 0 - 1) + S 58 (S 1092 0 - 1) - 1)) la_goNext_14)
      have h150_ := (h105_ (S 1092 0 - 1))
      have e151_ : S 1100025 (g24 57 (S 1092 0 - 1)) = S 1100025 (S 1100033 0 + 1) := congrArg ((S 1100025)) (la_goNext_20 h48_ h104_)
      exact (sm_SK_q (sm_SK_q (sm_SK_push (sm_SK_F h51_ (sm_F1_le (sm_F1_ne h102_ (Int.le_refl _)) (Int.le_refl _)) (sm_F1_le (sm_F1_ne h103_ (Int.le_refl _)) (Int.le_refl _)) (Int.le_refl _) (Int.le_refl _)) h25_ h53_ (la_goNext_31 h61_ h73_) rfl (sm_VO_i (la_goNext_27 h99_) (la_goNext_28 h99_) (la_goNext_29 h93_ h94_ h100_) (la_goNext_30 h99_)) rfl) rfl h98_ rfl) (la_goNext_22 h66_ e151_) rfl rfl)
    exact (la_goNext_32 h3_ h4_ h35_)
  intro h152_
  have h153_ := (h84_.resolve_right (la_goNext_33 h152_))
  refine ⟨(la_goNext_35 h35_ h36_ h58_ h60_), ?_⟩
  intro g30
  rintro ⟨h154_, h155_⟩
  intro h156_
  refine ⟨(la_goNext_36 h35_ h36_), ?_⟩
  refine ⟨h6_, ?_⟩
  refine ⟨h7_, ?_⟩
  refine ⟨h8_, ?_⟩
  refine ⟨h9_, ?_⟩
  refine ⟨h10_, ?_⟩
  refine ⟨h11_, ?_⟩
  refine ⟨h12_, ?_⟩
  refine ⟨h13_, ?_⟩
  refine ⟨h14_, ?_⟩
  refine ⟨h15_, ?_⟩
  refine ⟨h16_, ?_⟩
  refine ⟨h17_, ?_⟩
  refine ⟨?_, ?_⟩
  · skip
    intro h157_
    refine ⟨h18_, ?_⟩
    exact h19_
  refine ⟨h20_, ?_⟩
  refine ⟨h21_, ?_⟩
  refine ⟨h22_, ?_⟩
  refine ⟨h23_, ?_⟩
  refine ⟨h32_, ?_⟩
  refine ⟨(la_goNext_9 h3_), ?_⟩
  refine ⟨(la_goNext_10 h35_), ?_⟩
  refine ⟨h36_, ?_⟩
  refine ⟨la_goNext_11, ?_⟩
  refine ⟨?_, ?_⟩
  · skip
    intro h158_
    have h159_ := (h155_ (S 1092 0 - 1))
    exact ((la_goNext_17 h3_ (la_goNext_13 (la_goNext_12 h3_) h158_))).elim
  refine ⟨?_, ?_⟩
  · skip
    intro h160_
    intro h161_
    refine ⟨h35_, ?_⟩
    refine ⟨h36_, ?_⟩
    refine ⟨?_, ?_⟩
    · skip
      have h162_ := (h155_ (S 1092 0 - 1))
      have e163_ : (if S 1092 0 - 1 = S 1092 0 - 1 then p1 else S 57 (S 1092 0 - 1) : Int) = p1 := if_pos la_goNext_37
      exact (la_goNext_38 h67_ e163_)
    refine ⟨?_, ?_⟩
    · skip
      have h164_ := (h155_ (S 1092 0 - 1))
      have e165_ : (if S 1092 0 - 1 = S 1092 0 - 1 then p1 else S 57 (S 1092 0 - 1) : Int) = p1 := if_pos la_goNext_37
      exact (la_goNext_39 h68_ e165_)
    refine ⟨?_, ?_⟩
    · skip
      have h166_ := (h155_ (S 1092 0 - 1))
      have e167_ : (if S 1092 0 - 1 = S 1092 0 - 1 then p1 else S 57 (S 1092 0 - 1) : Int) = p1 := if_pos la_goNext_37
      have e168_ : S 29 p1 = S 29 (if S 1092 0 - 1 = S 1092 0 - 1 then p1 else S 57 (S 1092 0 - 1)) := congrArg ((S 29)) (la_goNext_40 e167_)
      exact (la_goNext_41 h39_ h69_ e168_)
    refine ⟨h40_, ?_⟩
    refine ⟨h41_, ?_⟩
    refine ⟨?_, ?_⟩
    · skip
      have h169_ := (h155_ (S 1092 0 - 1))
      have e170_ : (if S 1092 0 - 1 = S 1092 0 - 1 then p1 else S 57 (S 1092 0 - 1) : Int) = p1 := if_pos la_goNext_37
      have e171_ : S 1100023 p1 = S 1100023 (if S 1092 0 - 1 = S 1092 0 - 1 then p1 else S 57 (S 1092 0 - 1)) := congrArg ((S 1100023)) (la_goNext_40 e170_)
      have e172_ : sm_dp (S 1100024) (S 1100023 (if S 1092 0 - 1 = S 1092 0 - 1 then p1 else S 57 (S 1092 0 - 1))) = sm_dp (S 1100024) (S 1100023 (S 1100033 0)) := congrArg ((sm_dp (S 1100024))) (la_goNext_42 h71_ e171_)
      exact (la_goNext_23 h42_ e172_)
    refine ⟨?_, ?_⟩
    · skip
      have h173_ := (h155_ (S 1092 0 - 1))
      have e174_ : (if S 1092 0 - 1 = S 1092 0 - 1 then p1 else S 57 (S 1092 0 - 1) : Int) = p1 := if_pos la_goNext_37
      have e175_ : S 1100023 p1 = S 1100023 (if S 1092 0 - 1 = S 1092 0 - 1 then p1 else S 57 (S 1092 0 - 1)) := congrArg ((S 1100023)) (la_goNext_40 e174_)
      exact (sm_TC_t h43_ (la_goNext_43 h71_ e175_))
    refine ⟨h44_, ?_⟩
    refine ⟨h45_, ?_⟩
    refine ⟨h46_, ?_⟩
    refine ⟨(sm_FL_F h47_ sm_F1_rf sm_F1_rf sm_F1_rf sm_F1_rf (sm_F1_up sm_F1_rf (Int.le_refl _)) (sm_F1_le (sm_F1_ne h155_ (Int.le_refl _)) (Int.le_refl _)) sm_F1_rf sm_F1_rf sm_F1_rf sm_F1_rf sm_F1_rf sm_F1_rf (Int.le_refl _) (Int.le_refl _) sm_F1_rf sm_F1_rf (sm_FL_dp h47_ h24_)), ?_⟩
    refine ⟨?_, ?_⟩
    · skip
      have h176_ := (h155_ (S 1092 0 - 1))
      have e177_ : (if S 1092 0 - 1 = S 1092 0 - 1 then p1 else S 57 (S 1092 0 - 1) : Int) = p1 := if_pos la_goNext_37
      have e178_ : S 1100007 p1 = S 1100007 (if S 1092 0 - 1 = S 1092 0 - 1 then p1 else S 57 (S 1092 0 - 1)) := congrArg ((S 1100007)) (la_goNext_40 e177_)
      exact (la_goNext_44 h70_ h154_ e178_)
    have h179_ := (h155_ (S 1092 0 - 1))
    have e180_ : (if S 1092 0 - 1 = S 1092 0 - 1 then p1 else S 57 (S 1092 0 - 1) : Int) = p1 := if_pos la_goNext_37
    have e181_ : S 1100025 p1 = S 1100025 (if S 1092 0 - 1 = S 1092 0 - 1 then p1 else S 57 (S 1092 0 - 1)) := congrArg ((S 1100025)) (la_goNext_40 e180_)
    exact (sm_SK_q (sm_SK_dropl h51_ h25_ h59_ h53_ h73_ h61_ h154_) (la_goNext_42 h72_ e181_) rfl rfl)
  exact (la_goNext_32 h3_ h4_ h35_)
set_option maxRecDepth 8000 in
set_option maxHeartbeats 2000000 in
theorem t_goNext : ∀ (p1 : Int) (S : sv_S), sm_ok S → sv_R p1 → ((S 1075 0) = 0 ∧ (S 1073 0) = 1 ∧ sm_LX (S 58) (S 63) (S 64) (S 1092 0) (S 1076 0) ∧ sm_PL (S 1100020) (S 51) (S 52) (S 46) (S 47) (S 1076 0) (S 1086 0) ∧ sm_FR (S 1100020) (S 52) (S 1100021) (S 1100022) (3000 - (S 1084 0)) (S 1085 0) ∧ sm_PV (S 1100020) (S 48) (S 49) (S 50) (S 44) (S 1076 0) (S 1007 0) ∧ sm_AL (S 1100020) (S 48) (S 49) (S 50) (S 44) (S 1076 0) (S 1100032 0) ∧ sm_SV (S 1100020) (S 48) (S 1100029) (S 32) (S 33) (S 1076 0) (S 1032 0) ∧ 0 ≤ (S 1076 0) ∧ (S 1076 0) ≤ 300 ∧ 0 ≤ (S 1084 0) ∧ (S 1084 0) ≤ 3000 ∧ 0 ≤ (S 1086 0) ∧ sm_SC (S 1100029) (S 44) (S 45) (S 43) (S 21) (S 1076 0) (S 1032 0) ∧ sm_PO (S 42) (S 1076 0) ∧ (S 1100032 0) = -1 ∧ sm_FO (S 44) (S 45) (S 1076 0) ∧ 23 ≤ (S 1076 0) ∧ 31 ≤ (S 1007 0) ∧ (S 1007 0) ≤ 400 ∧ sm_LN (S 4) 400 (S 1007 0) ∧ sm_CT (S 26) (S 27) (S 28) (S 29) (S 1100007) (S 1100023) (S 1100024) (S 1100025) (S 21) (S 1046 0) (S 1032 0) (S 1008 0) (S 1055 0) ∧ sm_LS (S 26) (S 1100007) (S 1100025) (S 1046 0) ∧ sm_CL (S 1100007) (S 1100023) (S 1100025) (S 1046 0) ∧ 1 ≤ (S 1032 0) ∧ (S 1032 0) ≤ 11 ∧ 0 ≤ (S 1046 0) ∧ (S 1046 0) ≤ 600 ∧ 31 ≤ (S 1008 0) ∧ (S 1008 0) ≤ (S 1007 0) ∧ 0 ≤ (S 1055 0) ∧ (S 1055 0) ≤ 19 ∧ 1 ≤ (S 1092 0) ∧ (S 1092 0) ≤ 24 ∧ 0 ≤ (S 1100033 0) ∧ (S 1100033 0) < (S 1046 0) ∧ (S 29 (S 1100033 0)) = (S 53 ((S 1092 0) - 1)) ∧ 0 ≤ (S 53 ((S 1092 0) - 1)) ∧ (S 53 ((S 1092 0) - 1)) < (S 1032 0) ∧ (S 60 ((S 1092 0) - 1)) = sm_dp (S 1100024) (S 1100023 (S 1100033 0)) ∧ sm_TC (S 61) (S 62) (S 27) (S 1100007) (S 1100023) (S 1100024) (40 * ((S 1092 0) - 1)) (S 1100023 (S 1100033 0)) ∧ sm_LK (S 1100029) (S 1076 0) (S 54 ((S 1092 0) - 1)) (S 53 ((S 1092 0) - 1)) ∧ sm_VO (S 44) (S 1076 0) (S 1007 0) ((S 55 ((S 1092 0) - 1))) ((S 56 ((S 1092 0) - 1))) ∧ sm_FW (S 44) (S 1076 0) (S 59 ((S 1092 0) - 1)) ∧ sm_FL (S 53) (S 54) (S 55) (S 56) (S 57) (S 58) (S 59) (S 60) (S 61) (S 62) (S 63) (S 64) (S 27) (S 29) (S 1100007) (S 1100023) (S 1100024) (S 1100025) (S 26) (S 1100029) (S 44) (S 1046 0) (S 1032 0) (S 1076 0) (S 1007 0) (((S 1092 0) - 1)) ∧ (S 57 ((S 1092 0) - 1)) = (S 1100033 0) ∧ 0 ≤ (S 58 ((S 1092 0) - 1)) ∧ (S 58 ((S 1092 0) - 1)) ≤ 400 ∧ sm_SK (S 63) (S 64) (S 44) (S 1100007) (S 1100025) (S 1076 0) (S 1007 0) (400 * ((S 1092 0) - 1)) ((S 58 ((S 1092 0) - 1))) ((S 1100034 0)) ∧ -1 ≤ (S 1100034 0) ∧ (S 1100034 0) < (S 1046 0) ∧ (0 ≤ (S 1100034 0) → (S 26 (S 1100034 0)) = 29) ∧ (S 58 ((S 1092 0) - 1)) = (S 1100007 (S 1100033 0)) ∧ (S 1100034 0) = (S 1100025 (S 1100033 0)) ∧ (0 ≤ (S 1100023 (S 1100033 0)) → (S 1100007 (S 1100023 (S 1100033 0))) ≤ (S 58 ((S 1092 0) - 1))) ∧ (S 58 ((S 1092 0) - 1)) ≤ 396 ∧ 0 ≤ (S 1100034 0) ∧ 1 ≤ (S 58 ((S 1092 0) - 1)) ∧ (S 1100007 (S 1100034 0)) = (S 58 ((S 1092 0) - 1)) ∧ (S 1100033 0) + 1 < (S 1046 0) ∧ (S 29 ((S 1100033 0) + 1)) = (S 29 (S 1100033 0)) ∧ (S 1100007 ((S 1100033 0) + 1)) = (S 58 ((S 1092 0) - 1)) + 1 ∧ (S 1100023 ((S 1100033 0) + 1)) = (S 1100023 (S 1100033 0)) ∧ (S 1100025 ((S 1100033 0) + 1)) = (S 1100034 0) ∧ 0 ≤ p1 ∧ p1 < (S 1046 0) ∧ (S 29 p1) = (S 29 (S 1100033 0)) ∧ (S 1100007 p1) = (S 58 ((S 1092 0) - 1)) - 1 ∧ (S 1100023 p1) = (S 1100023 (S 1100033 0)) ∧ (S 1100025 p1) = (S 1100025 (S 1100034 0))) → sv_T sm_XS sm_cs sm_L sm_sh 2 (q_goNext p1 S) 164 0 (lv_args 0 [.ref 0, sv_I p1]) [] S := by
  intro p1 S hok hp1 hpre
  have h := f_goNext p1 S hok hp1 hpre
  have hM := sm_h164
  show sv_T sm_XS sm_cs sm_L sm_sh 2 (q_goNext p1 S) 164 0 [(0, .ref 0), (1, sv_I p1)] [] S
  have k1 : (sm_SK (S 63) (S 64) (S 44) (S 1100007) (S 1100025) (S 1076 0) (S 1007 0) (400 * ((S 1092 0) - 1)) ((S 58 ((S 1092 0) - 1))) ((S 1100034 0)) → sm_LS (S 26) (S 1100007) (S 1100025) (S 1046 0) → 0 ≤ (S 1100034 0) → (S 1100034 0) < (S 1046 0) → (S 26 (S 1100034 0)) = 29 → (S 1100007 (S 1100034 0)) = (S 58 ((S 1092 0) - 1)) → (S 63 (400 * ((S 1092 0) - 1) + (S 58 ((S 1092 0) - 1)) - 1)) = 8 ∧ -1 ≤ (S 64 (400 * ((S 1092 0) - 1) + (S 58 ((S 1092 0) - 1)) - 1)) ∧ (S 64 (400 * ((S 1092 0) - 1) + (S 58 ((S 1092 0) - 1)) - 1)) < (S 1076 0)) := fun h l a b e g => sm_SK_list h l a b e g
  have h := h k1
  refine sv_aload_n hM dX12_goNext_0 rfl rfl ?_
  refine sv_aload_n hM dX12_goNext_1 rfl rfl ?_
  obtain ⟨o2, h⟩ := h
  refine sv_callV hM dX12_goNext_2 sm_iv_879 (by decide) (sm_a0 _) rfl rfl (Nat.le_of_ble_eq_true rfl) sm_h149 (Nat.le_of_ble_eq_true rfl) (Nat.le_of_ble_eq_true rfl) (F' := 0) (Nat.le_of_ble_eq_true rfl) rfl (t_top  S hok o2) (fun v S1 hq => ?_)
  obtain ⟨rfl, hS1⟩ := hq
  obtain rfl : S = S1 := hS1.symm
  show sv_T sm_XS sm_cs sm_L sm_sh 2 (q_goNext p1 S) 164 5 [(0, .ref 0), (1, sv_I p1)] [sv_I ((400 * ((S 1092 0) - 1) + (S 58 ((S 1092 0) - 1)))), .ref 0] S
  refine sv_iconst (d := (1 : Int)) hM dX12_goNext_5 rfl rfl ?_
  refine sv_isub hM dX12_goNext_6 rfl ?_
  obtain ⟨o3, h⟩ := h
  obtain ⟨o4, h⟩ := h
  refine sv_callV hM dX12_goNext_7 sm_iv_963 (by decide) (sm_a0 _) rfl rfl (Nat.le_of_ble_eq_true rfl) sm_h163 (Nat.le_of_ble_eq_true rfl) (Nat.le_of_ble_eq_true rfl) (F' := 0) (Nat.le_of_ble_eq_true rfl) rfl (t_nextOf (((400 * ((S 1092 0) - 1) + (S 58 ((S 1092 0) - 1)))) - (1 : Int)) S hok o3 o4) (fun v S1 hq => ?_)
  obtain ⟨r9, rfl, hr9, ok6, md7, hpo8⟩ := hq
  obtain rfl : S = S1 := (funext fun j => md7 j (by intro q; cases q)).symm
  show sv_T sm_XS sm_cs sm_L sm_sh 2 (q_goNext p1 S) 164 10 [(0, .ref 0), (1, sv_I p1)] [sv_I r9] S
  have h := h r9 hr9 hpo8
  have k10 : (sm_PV (S 1100020) (S 48) (S 49) (S 50) (S 44) (S 1076 0) (S 1007 0) → 0 ≤ r9 → r9 < 3000 → 0 ≤ (S 1100020 r9) → (0 ≤ (S 48 r9) ∧ (S 48 r9) < (S 1007 0)) ∧ sm_VO (S 44) (S 1076 0) (S 1007 0) ((S 49 r9)) ((S 50 r9))) := fun h a b d => sm_PV_at h _ a b d
  have h := h k10
  refine sv_istore_n hM dX12_goNext_10 (by decide) rfl ?_
  show sv_T sm_XS sm_cs sm_L sm_sh 2 (q_goNext p1 S) 164 11 [(0, .ref 0), (1, sv_I p1), (2, sv_I r9)] [] S
  refine sv_iload_n hM dX12_goNext_11 rfl rfl ?_
  refine sv_iconst (d := (-1 : Int)) hM dX12_goNext_12 rfl rfl ?_
  refine sv_icmp_ne hM dX12_goNext_13 hr9 (⟨by decide, by decide⟩ : sv_R (-1 : Int)) (t := 34) rfl rfl (fun hc => ?_) (fun hc => ?_)
  · have h := h.1 (hc)
    refine sv_aload_n hM dX12_goNext_34 rfl rfl ?_
    refine sv_getA hM dX12_goNext_35 sm_fl_206 (sm_a0 _) sm_k105 rfl ?_
    refine sv_aload_n hM dX12_goNext_38 rfl rfl ?_
    refine sv_callV hM dX12_goNext_39 sm_iv_879 (by decide) (sm_a0 _) rfl rfl (Nat.le_of_ble_eq_true rfl) sm_h149 (Nat.le_of_ble_eq_true rfl) (Nat.le_of_ble_eq_true rfl) (F' := 0) (Nat.le_of_ble_eq_true rfl) rfl (t_top  S ok6 o2) (fun v S1 hq => ?_)
    obtain ⟨rfl, hS1⟩ := hq
    obtain rfl : S = S1 := hS1.symm
    show sv_T sm_XS sm_cs sm_L sm_sh 2 (q_goNext p1 S) 164 42 [(0, .ref 0), (1, sv_I p1), (2, sv_I r9)] [sv_I ((400 * ((S 1092 0) - 1) + (S 58 ((S 1092 0) - 1)))), .ref 65] S
    refine sv_iconst (d := (1 : Int)) hM dX12_goNext_42 rfl rfl ?_
    refine sv_isub hM dX12_goNext_43 rfl ?_
    refine sv_aload_n hM dX12_goNext_44 rfl rfl ?_
    refine sv_getA hM dX12_goNext_45 sm_fl_164 (sm_a0 _) sm_k90 rfl ?_
    refine sv_iload_n hM dX12_goNext_48 rfl rfl ?_
    obtain ⟨o11, h⟩ := h
    have k12 : sv_R (S 51 r9) := sm_okI ok6 sm_r51 r9
    have h := h k12
    refine sv_iald hM dX12_goNext_49 (sm_a51 _) (by decide) o11.1 o11.2 rfl (x := (S 51 r9)) rfl ?_
    obtain ⟨o13, h⟩ := h
    refine sv_iast sm_X hM dX12_goNext_50 (sm_a65 _) (by decide) o13.1 o13.2 rfl ?_
    have ok14 : sm_ok (sv_up S 65 (((400 * ((S 1092 0) - 1) + (S 58 ((S 1092 0) - 1)))) - (1 : Int)) (S 51 r9)) := sm_upI ok6 sm_r65 k12
    have md15 : sv_mod [58, 57, 63, 64, 65] S (sv_up S 65 (((400 * ((S 1092 0) - 1) + (S 58 ((S 1092 0) - 1)))) - (1 : Int)) (S 51 r9)) := sv_mod.up sv_mod.rf (by decide)
    refine sv_aload_n hM dX12_goNext_51 rfl rfl ?_
    refine sv_bipush (d := (6 : Int)) hM dX12_goNext_52 rfl rfl ?_
    refine sv_aload_n hM dX12_goNext_54 rfl rfl ?_
    refine sv_getA hM dX12_goNext_55 sm_fl_155 (sm_a0 _) sm_k87 rfl ?_
    refine sv_iload_n hM dX12_goNext_58 rfl rfl ?_
    have k16 : sv_R (S 48 r9) := sm_okI ok14 sm_r48 r9
    have h := h k16
    refine sv_iald hM dX12_goNext_59 (sm_a48 _) (by decide) o11.1 o11.2 rfl (x := (S 48 r9)) rfl ?_
    obtain ⟨o17, h⟩ := h
    refine sv_callV hM dX12_goNext_60 sm_iv_885 (by decide) (sm_a0 _) rfl rfl (Nat.le_of_ble_eq_true rfl) sm_h152 (Nat.le_of_ble_eq_true rfl) (Nat.le_of_ble_eq_true rfl) (F' := 1) (Nat.le_of_ble_eq_true rfl) rfl (t_push (6 : Int) (S 48 r9) (sv_up S 65 (((400 * ((S 1092 0) - 1) + (S 58 ((S 1092 0) - 1)))) - (1 : Int)) (S 51 r9)) ok14 (⟨by decide, by decide⟩ : sv_R (6 : Int)) k16 o17) (fun v S1 hq => ?_)
    obtain ⟨rfl, ok19, md20, hpo21⟩ := hq
    obtain ⟨g18, rfl⟩ : ∃ g, S1 = sv_sts (sv_up S 65 (((400 * ((S 1092 0) - 1) + (S 58 ((S 1092 0) - 1)))) - (1 : Int)) (S 51 r9)) [63, 64, 58] g := ⟨_, md20.eq⟩
    show sv_T sm_XS sm_cs sm_L sm_sh 2 (q_goNext p1 S) 164 63 [(0, .ref 0), (1, sv_I p1), (2, sv_I r9)] [] (sv_sts (sv_up S 65 (((400 * ((S 1092 0) - 1) + (S 58 ((S 1092 0) - 1)))) - (1 : Int)) (S 51 r9)) [63, 64, 58] g18)
    have md22 : sv_mod [58, 57, 63, 64, 65] S (sv_sts (sv_up S 65 (((400 * ((S 1092 0) - 1) + (S 58 ((S 1092 0) - 1)))) - (1 : Int)) (S 51 r9)) [63, 64, 58] g18) := sv_mod.sts md15 (by decide)
    have h := h g18 hpo21
    refine sv_aload_n hM dX12_goNext_63 rfl rfl ?_
    obtain ⟨o23, h⟩ := h
    refine sv_callV hM dX12_goNext_64 sm_iv_888 (by decide) (sm_a0 _) rfl rfl (Nat.le_of_ble_eq_true rfl) sm_h154 (Nat.le_of_ble_eq_true rfl) (Nat.le_of_ble_eq_true rfl) (F' := 0) (Nat.le_of_ble_eq_true rfl) rfl (t_goOn  (sv_sts (sv_up S 65 (((400 * ((S 1092 0) - 1) + (S 58 ((S 1092 0) - 1)))) - (1 : Int)) (S 51 r9)) [63, 64, 58] g18) ok19 o23) (fun v S1 hq => ?_)
    obtain ⟨rfl, ok25, md26, hpo27⟩ := hq
    obtain ⟨g24, rfl⟩ : ∃ g, S1 = sv_sts (sv_sts (sv_up S 65 (((400 * ((S 1092 0) - 1) + (S 58 ((S 1092 0) - 1)))) - (1 : Int)) (S 51 r9)) [63, 64, 58] g18) [57] g := ⟨_, md26.eq⟩
    show sv_T sm_XS sm_cs sm_L sm_sh 2 (q_goNext p1 S) 164 67 [(0, .ref 0), (1, sv_I p1), (2, sv_I r9)] [] (sv_sts (sv_sts (sv_up S 65 (((400 * ((S 1092 0) - 1) + (S 58 ((S 1092 0) - 1)))) - (1 : Int)) (S 51 r9)) [63, 64, 58] g18) [57] g24)
    have md28 : sv_mod [58, 57, 63, 64, 65] S (sv_sts (sv_sts (sv_up S 65 (((400 * ((S 1092 0) - 1) + (S 58 ((S 1092 0) - 1)))) - (1 : Int)) (S 51 r9)) [63, 64, 58] g18) [57] g24) := sv_mod.sts md22 (by decide)
    have h := h g24 hpo27
    exact sv_vret hM dX12_goNext_67 rfl ⟨rfl, ok25, md28, h⟩
  · have h := h.2 (hc)
    refine sv_aload_n hM dX12_goNext_16 rfl rfl ?_
    refine sv_iconst (d := (1 : Int)) hM dX12_goNext_17 rfl rfl ?_
    obtain ⟨o29, h⟩ := h
    refine sv_callV hM dX12_goNext_18 sm_iv_882 (by decide) (sm_a0 _) rfl rfl (Nat.le_of_ble_eq_true rfl) sm_h153 (Nat.le_of_ble_eq_true rfl) (Nat.le_of_ble_eq_true rfl) (F' := 0) (Nat.le_of_ble_eq_true rfl) rfl (t_drop (1 : Int) S ok6 (⟨by decide, by decide⟩ : sv_R (1 : Int)) o29) (fun v S1 hq => ?_)
    obtain ⟨rfl, ok31, md32, hpo33⟩ := hq
    obtain ⟨g30, rfl⟩ : ∃ g, S1 = sv_sts S [58] g := ⟨_, md32.eq⟩
    show sv_T sm_XS sm_cs sm_L sm_sh 2 (q_goNext p1 S) 164 21 [(0, .ref 0), (1, sv_I p1), (2, sv_I r9)] [] (sv_sts S [58] g30)
    have md34 : sv_mod [58, 57, 63, 64, 65] S (sv_sts S [58] g30) := sv_mod.sts sv_mod.rf (by decide)
    have h := h g30 hpo33
    refine sv_aload_n hM dX12_goNext_21 rfl rfl ?_
    refine sv_getA hM dX12_goNext_22 sm_fl_182 (sm_a0 _) sm_k97 rfl ?_
    refine sv_aload_n hM dX12_goNext_25 rfl rfl ?_
    have k35 : sv_R (S 1092 0) := sm_okI ok31 sm_r1092 0
    have h := h k35
    refine sv_getI hM dX12_goNext_26 sm_fl_872 (sm_a0 _) sm_k92 rfl (x := (S 1092 0)) rfl ?_
    refine sv_iconst (d := (1 : Int)) hM dX12_goNext_29 rfl rfl ?_
    refine sv_isub hM dX12_goNext_30 rfl ?_
    refine sv_iload_n hM dX12_goNext_31 rfl rfl ?_
    obtain ⟨o36, h⟩ := h
    refine sv_iast sm_X hM dX12_goNext_32 (sm_a57 _) (by decide) o36.1 o36.2 rfl ?_
    have ok37 : sm_ok (sv_up (sv_sts S [58] g30) 57 ((S 1092 0) - (1 : Int)) p1) := sm_upI ok31 sm_r57 hp1
    have md38 : sv_mod [58, 57, 63, 64, 65] S (sv_up (sv_sts S [58] g30) 57 ((S 1092 0) - (1 : Int)) p1) := sv_mod.up md34 (by decide)
    exact sv_vret hM dX12_goNext_33 rfl ⟨rfl, ok37, md38, h⟩
def q_goBack (p1 : Int) (p2 : Int) (S : sv_S) : Option Value → sv_S → Prop := fun v S' => v = none ∧ sm_ok S' ∧ sv_mod [1092, 1073, 58, 63, 64] S S' ∧ (sm_PL (S' 1100020) (S' 51) (S' 52) (S' 46) (S' 47) (S' 1076 0) (S' 1086 0) ∧ sm_FR (S' 1100020) (S' 52) (S' 1100021) (S' 1100022) (3000 - (S' 1084 0)) (S' 1085 0) ∧ sm_PV (S' 1100020) (S' 48) (S' 49) (S' 50) (S' 44) (S' 1076 0) (S' 1007 0) ∧ sm_AL (S' 1100020) (S' 48) (S' 49) (S' 50) (S' 44) (S' 1076 0) (S' 1100032 0) ∧ sm_SV (S' 1100020) (S' 48) (S' 1100029) (S' 32) (S' 33) (S' 1076 0) (S' 1032 0) ∧ 0 ≤ (S' 1076 0) ∧ (S' 1076 0) ≤ 300 ∧ 0 ≤ (S' 1084 0) ∧ (S' 1084 0) ≤ 3000 ∧ 0 ≤ (S' 1086 0) ∧ sm_SC (S' 1100029) (S' 44) (S' 45) (S' 43) (S' 21) (S' 1076 0) (S' 1032 0) ∧ sm_PO (S' 42) (S' 1076 0) ∧ ((S' 1075 0) = 0 → (S' 1100032 0) = -1 ∧ sm_FO (S' 44) (S' 45) (S' 1076 0)) ∧ 23 ≤ (S' 1076 0) ∧ 31 ≤ (S' 1007 0) ∧ (S' 1007 0) ≤ 400 ∧ sm_LN (S' 4) 400 (S' 1007 0) ∧ (S' 1008 0) ≤ (S' 1007 0) ∧ ((S 1075 0) = 1 → (S' 1075 0) = 1) ∧ 0 ≤ (S' 1092 0) ∧ (S' 1092 0) ≤ 24 ∧ (S 1007 0) ≤ (S' 1007 0) ∧ (¬ (S' 1075 0) = 0 → sm_LX (S' 58) (S' 63) (S' 64) (S' 1092 0) (S' 1076 0)) ∧ ((S' 1075 0) = 0 → (S' 1073 0) = 1 → 1 ≤ (S' 1092 0) ∧ (S' 1092 0) ≤ 24 ∧ 0 ≤ (S' 57 ((S' 1092 0) - 1)) ∧ (S' 57 ((S' 1092 0) - 1)) < (S' 1046 0) ∧ (S' 29 (S' 57 ((S' 1092 0) - 1))) = (S' 53 ((S' 1092 0) - 1)) ∧ 0 ≤ (S' 53 ((S' 1092 0) - 1)) ∧ (S' 53 ((S' 1092 0) - 1)) < (S' 1032 0) ∧ (S' 60 ((S' 1092 0) - 1)) = sm_dp (S' 1100024) (S' 1100023 (S' 57 ((S' 1092 0) - 1))) ∧ sm_TC (S' 61) (S' 62) (S' 27) (S' 1100007) (S' 1100023) (S' 1100024) (40 * ((S' 1092 0) - 1)) (S' 1100023 (S' 57 ((S' 1092 0) - 1))) ∧ sm_LK (S' 1100029) (S' 1076 0) (S' 54 ((S' 1092 0) - 1)) (S' 53 ((S' 1092 0) - 1)) ∧ sm_VO (S' 44) (S' 1076 0) (S' 1007 0) ((S' 55 ((S' 1092 0) - 1))) ((S' 56 ((S' 1092 0) - 1))) ∧ sm_FW (S' 44) (S' 1076 0) (S' 59 ((S' 1092 0) - 1)) ∧ sm_FL (S' 53) (S' 54) (S' 55) (S' 56) (S' 57) (S' 58) (S' 59) (S' 60) (S' 61) (S' 62) (S' 63) (S' 64) (S' 27) (S' 29) (S' 1100007) (S' 1100023) (S' 1100024) (S' 1100025) (S' 26) (S' 1100029) (S' 44) (S' 1046 0) (S' 1032 0) (S' 1076 0) (S' 1007 0) (((S' 1092 0) - 1)) ∧ (S' 58 ((S' 1092 0) - 1)) = (S' 1100007 (S' 57 ((S' 1092 0) - 1))) ∧ sm_SK (S' 63) (S' 64) (S' 44) (S' 1100007) (S' 1100025) (S' 1076 0) (S' 1007 0) (400 * ((S' 1092 0) - 1)) ((S' 58 ((S' 1092 0) - 1))) ((S' 1100025 (S' 57 ((S' 1092 0) - 1))))) ∧ ((S' 1073 0) = 1 ∨ (S' 1092 0) = 0 ∧ (S' 1075 0) = 0 ∧ ((S' 1073 0) = 2 ∨ (S' 1073 0) = 3)) ∧ ((S' 1073 0) = 1 ∨ (S' 1073 0) = 2))
theorem la_goBack_0 {x0 : Int} (h0 : 1 ≤ x0) (h1 : x0 ≤ 24) : 0 ≤ x0 - 1 ∧ x0 - 1 < 24 := by omega
theorem la_goBack_1 {x0 x1 : Int} (h0 : x0 = x1) : x1 = x0 := by omega
theorem la_goBack_2 {x0 : Int} (h0 : 1 ≤ x0) (h1 : x0 ≤ 24) : sv_R (x0 - 1) := by omega
theorem la_goBack_3 {x0 : Int} (h0 : 1 ≤ x0) : 0 ≤ x0 - 1 := by omega
theorem la_goBack_4 {x0 : Int} (h0 : 0 ≤ x0 - 1) (h1 : ¬ x0 - 1 = 0) : 0 < x0 - 1 := by omega
theorem la_goBack_5 {x0 : Int} (h0 : 0 < x0 - 1) : 0 ≤ x0 - 1 - 1 := by omega
theorem la_goBack_6 {x0 : Int} : x0 - 1 - 1 < x0 - 1 := by omega
theorem la_goBack_7 {x0 x1 x2 : Int} (h0 : x0 = (-1)) : ¬ (0 ≤ x0 ∧ x0 < x1 ∧ ¬ x2 = 3) := by omega
theorem la_goBack_8 {x0 x1 : Int} (h0 : x0 ≤ 24) (h1 : 0 < x0 - 1) (h2 : 0 ≤ x1) (h3 : x1 ≤ 396) : 1 ≤ x0 - 1 ∧ x0 - 1 ≤ 24 ∧ 0 ≤ x1 ∧ x1 ≤ 400 ∧ x1 < 400 := by omega
theorem la_goBack_9 {x0 : Int} (h0 : x0 = 0) : x0 = 1 → x0 = 1 := by omega
theorem la_goBack_10 {x0 : Int} (h0 : 0 < x0 - 1) : 0 ≤ x0 - 1 := by omega
theorem la_goBack_11 {x0 : Int} (h0 : x0 ≤ 24) : x0 - 1 ≤ 24 := by omega
theorem la_goBack_12 {x0 : Int} : x0 ≤ x0 := by omega
theorem la_goBack_13 {x0 : Int} (h0 : x0 = 0) : x0 ≤ 0 := by omega
theorem la_goBack_14 {x0 : Int} (h0 : x0 ≤ 0) (h1 : ¬ x0 = 0) : x0 < 0 := by omega
theorem la_goBack_15 {x0 : Int} : ¬ x0 - 1 = x0 - 1 - 1 := by omega
theorem la_goBack_16 {x0 : Int} : ¬ ¬ x0 - 1 - 1 = x0 - 1 - 1 := by omega
theorem la_goBack_17 {x0 x1 : Int} : ¬ ¬ 400 * (x0 - 1 - 1) + x1 = 400 * (x0 - 1 - 1) + x1 := by omega
theorem la_goBack_18 {x0 : Int} (h0 : x0 = 0) (h1 : x0 < 0) : False := by omega
theorem la_goBack_19 {x0 : Int} (h0 : 0 < x0 - 1) : 1 ≤ x0 - 1 := by omega
theorem la_goBack_20 {x0 : Int} : x0 - 1 - 1 ≤ x0 - 1 := by omega
theorem la_goBack_21 {x0 x1 : Int} (h0 : 0 ≤ x0) : 400 * (x1 - 1 - 1) ≤ 400 * (x1 - 1 - 1) + x0 := by omega
theorem la_goBack_22 {x0 x1 x2 : Int} (h0 : x0 = x1 - 1) (h1 : x2 = x0 + 1) : x2 = x1 := by omega
theorem la_goBack_23 {x0 x1 x2 : Int} (h0 : x0 < x1) (h1 : x2 < x0) : x2 < x1 := by omega
theorem la_goBack_24 {x0 x1 x2 : Int} (h0 : x0 = 0) (h1 : x1 = 1) (h2 : 0 < x2 - 1) : x1 = 1 ∨ x2 - 1 = 0 ∧ x0 = 0 ∧ (x1 = 2 ∨ x1 = 3) := by omega
theorem la_goBack_25 {x0 : Int} (h0 : x0 = 1) : x0 = 1 ∨ x0 = 2 := by omega
theorem la_goBack_26 {x0 : Int} (h0 : 0 ≤ x0) : (-1) ≤ x0 := by omega
theorem la_goBack_27 {x0 : Int} (h0 : (-1) ≤ x0) (h1 : ¬ x0 = (-1)) : (-1) < x0 := by omega
theorem la_goBack_28 {x0 : Int} (h0 : x0 = 7) : ¬ x0 = 6 := by omega
theorem la_goBack_29 {x0 : Int} (h0 : x0 ≤ 7) (h1 : ¬ x0 = 7) : x0 < 7 := by omega
theorem la_goBack_30 : ¬ (7 : Int) = 6 := by omega
theorem la_goBack_31 : (7 : Int) = 7 := by omega
theorem la_goBack_32 {x0 : Int} (h0 : ¬ ¬ x0 - 1 = 0) : ¬ 0 ≤ x0 - 1 - 1 := by omega
theorem la_goBack_33 {x0 : Int} (h0 : ¬ ¬ x0 - 1 = 0) : 0 ≤ x0 - 1 := by omega
theorem la_goBack_34 {x0 : Int} (h0 : ¬ ¬ x0 - 1 = 0) : x0 - 1 ≤ 24 := by omega
theorem la_goBack_35 {x0 : Int} (h0 : ¬ ¬ x0 - 1 = 0) : x0 - 1 ≤ 0 := by omega
theorem la_goBack_36 {x0 : Int} (h0 : (2 : Int) = 1) : 1 ≤ x0 - 1 := by omega
theorem la_goBack_37 {x0 : Int} (h0 : (2 : Int) = 1) : x0 - 1 ≤ 24 := by omega
theorem la_goBack_38 {x0 : Int} (h0 : (2 : Int) = 1) : 0 ≤ x0 := by omega
theorem la_goBack_39 {x0 x1 : Int} (h0 : (2 : Int) = 1) : x0 < x1 := by omega
theorem la_goBack_40 {x0 x1 : Int} (h0 : (2 : Int) = 1) : x0 = x1 := by omega
theorem la_goBack_41 {x0 : Int} (h0 : (2 : Int) = 1) : x0 < 0 := by omega
theorem la_goBack_42 {x0 : Int} (h0 : (2 : Int) = 1) : x0 - 1 - 1 ≤ 0 := by omega
theorem la_goBack_43 {x0 : Int} (h0 : (2 : Int) = 1) : x0 ≤ 0 := by omega
theorem la_goBack_44 {x0 x1 : Int} (h0 : x0 = 0) (h1 : ¬ ¬ x1 - 1 = 0) : (2 : Int) = 1 ∨ x1 - 1 = 0 ∧ x0 = 0 ∧ ((2 : Int) = 2 ∨ (2 : Int) = 3) := by omega
theorem la_goBack_45 : (2 : Int) = 1 ∨ (2 : Int) = 2 := by omega
set_option maxHeartbeats 2000000 in
theorem f_goBack : ∀ (p1 : Int) (p2 : Int) (S : sv_S), sm_ok S → sv_R p1 → sv_R p2 → ((S 1075 0) = 0 ∧ (S 1073 0) = 1 ∧ sm_LX (S 58) (S 63) (S 64) (S 1092 0) (S 1076 0) ∧ sm_PL (S 1100020) (S 51) (S 52) (S 46) (S 47) (S 1076 0) (S 1086 0) ∧ sm_FR (S 1100020) (S 52) (S 1100021) (S 1100022) (3000 - (S 1084 0)) (S 1085 0) ∧ sm_PV (S 1100020) (S 48) (S 49) (S 50) (S 44) (S 1076 0) (S 1007 0) ∧ sm_AL (S 1100020) (S 48) (S 49) (S 50) (S 44) (S 1076 0) (S 1100032 0) ∧ sm_SV (S 1100020) (S 48) (S 1100029) (S 32) (S 33) (S 1076 0) (S 1032 0) ∧ 0 ≤ (S 1076 0) ∧ (S 1076 0) ≤ 300 ∧ 0 ≤ (S 1084 0) ∧ (S 1084 0) ≤ 3000 ∧ 0 ≤ (S 1086 0) ∧ sm_SC (S 1100029) (S 44) (S 45) (S 43) (S 21) (S 1076 0) (S 1032 0) ∧ sm_PO (S 42) (S 1076 0) ∧ (S 1100032 0) = -1 ∧ sm_FO (S 44) (S 45) (S 1076 0) ∧ 23 ≤ (S 1076 0) ∧ 31 ≤ (S 1007 0) ∧ (S 1007 0) ≤ 400 ∧ sm_LN (S 4) 400 (S 1007 0) ∧ sm_CT (S 26) (S 27) (S 28) (S 29) (S 1100007) (S 1100023) (S 1100024) (S 1100025) (S 21) (S 1046 0) (S 1032 0) (S 1008 0) (S 1055 0) ∧ sm_LS (S 26) (S 1100007) (S 1100025) (S 1046 0) ∧ sm_CL (S 1100007) (S 1100023) (S 1100025) (S 1046 0) ∧ 1 ≤ (S 1032 0) ∧ (S 1032 0) ≤ 11 ∧ 0 ≤ (S 1046 0) ∧ (S 1046 0) ≤ 600 ∧ 31 ≤ (S 1008 0) ∧ (S 1008 0) ≤ (S 1007 0) ∧ 0 ≤ (S 1055 0) ∧ (S 1055 0) ≤ 19 ∧ 1 ≤ (S 1092 0) ∧ (S 1092 0) ≤ 24 ∧ 0 ≤ (S 1100033 0) ∧ (S 1100033 0) < (S 1046 0) ∧ (S 29 (S 1100033 0)) = (S 53 ((S 1092 0) - 1)) ∧ 0 ≤ (S 53 ((S 1092 0) - 1)) ∧ (S 53 ((S 1092 0) - 1)) < (S 1032 0) ∧ (S 60 ((S 1092 0) - 1)) = sm_dp (S 1100024) (S 1100023 (S 1100033 0)) ∧ sm_TC (S 61) (S 62) (S 27) (S 1100007) (S 1100023) (S 1100024) (40 * ((S 1092 0) - 1)) (S 1100023 (S 1100033 0)) ∧ sm_LK (S 1100029) (S 1076 0) (S 54 ((S 1092 0) - 1)) (S 53 ((S 1092 0) - 1)) ∧ sm_VO (S 44) (S 1076 0) (S 1007 0) ((S 55 ((S 1092 0) - 1))) ((S 56 ((S 1092 0) - 1))) ∧ sm_FW (S 44) (S 1076 0) (S 59 ((S 1092 0) - 1)) ∧ sm_FL (S 53) (S 54) (S 55) (S 56) (S 57) (S 58) (S 59) (S 60) (S 61) (S 62) (S 63) (S 64) (S 27) (S 29) (S 1100007) (S 1100023) (S 1100024) (S 1100025) (S 26) (S 1100029) (S 44) (S 1046 0) (S 1032 0) (S 1076 0) (S 1007 0) (((S 1092 0) - 1)) ∧ (S 57 ((S 1092 0) - 1)) = (S 1100033 0) ∧ 0 ≤ (S 58 ((S 1092 0) - 1)) ∧ (S 58 ((S 1092 0) - 1)) ≤ 400 ∧ sm_SK (S 63) (S 64) (S 44) (S 1100007) (S 1100025) (S 1076 0) (S 1007 0) (400 * ((S 1092 0) - 1)) ((S 58 ((S 1092 0) - 1))) ((S 1100034 0)) ∧ -1 ≤ (S 1100034 0) ∧ (S 1100034 0) < (S 1046 0) ∧ (0 ≤ (S 1100034 0) → (S 26 (S 1100034 0)) = 29) ∧ (S 58 ((S 1092 0) - 1)) = (S 1100007 (S 1100033 0)) ∧ (S 1100034 0) = (S 1100025 (S 1100033 0)) ∧ (0 ≤ (S 1100023 (S 1100033 0)) → (S 1100007 (S 1100023 (S 1100033 0))) ≤ (S 58 ((S 1092 0) - 1))) ∧ (S 58 ((S 1092 0) - 1)) ≤ 396 ∧ sm_VO (S 44) (S 1076 0) (S 1007 0) (p1) (p2)) → (sv_R (S 1092 0) → (0 ≤ ((S 1092 0) - (1 : Int)) ∧ ((S 1092 0) - (1 : Int)) < 24) ∧ (sv_R (S 59 ((S 1092 0) - (1 : Int))) → (∀ x4 : Int, (S 59 ((S 1092 0) - (1 : Int))) = x4 → ((sm_FW (S 44) (S 1076 0) x4 → x4 = -1 ∨ (0 ≤ x4 ∧ x4 < (S 1076 0) ∧ ¬ (S 44 x4) = 3)) → (sv_R ((S 1092 0) - (1 : Int))) ∧ ((sm_FL (S 53) (S 54) (S 55) (S 56) (S 57) (S 58) (S 59) (S 60) (S 61) (S 62) (S 63) (S 64) (S 27) (S 29) (S 1100007) (S 1100023) (S 1100024) (S 1100025) (S 26) (S 1100029) (S 44) (S 1046 0) (S 1032 0) (S 1076 0) (S 1007 0) (((S 1092 0) - 1)) → 0 ≤ ((S 1092 0) - (1 : Int)) - 1 → ((S 1092 0) - (1 : Int)) - 1 < (S 1092 0) - 1 → (0 ≤ (S 53 (((S 1092 0) - (1 : Int)) - 1)) ∧ (S 53 (((S 1092 0) - (1 : Int)) - 1)) < (S 1032 0) ∧ 0 ≤ (S 57 (((S 1092 0) - (1 : Int)) - 1)) ∧ (S 57 (((S 1092 0) - (1 : Int)) - 1)) < (S 1046 0) ∧ (S 29 (S 57 (((S 1092 0) - (1 : Int)) - 1))) = (S 53 (((S 1092 0) - (1 : Int)) - 1)) ∧ (S 58 (((S 1092 0) - (1 : Int)) - 1)) = (S 1100007 (S 57 (((S 1092 0) - (1 : Int)) - 1))) - 1 ∧ 0 ≤ (S 58 (((S 1092 0) - (1 : Int)) - 1)) ∧ (S 58 (((S 1092 0) - (1 : Int)) - 1)) ≤ 396) ∧ ((S 60 (((S 1092 0) - (1 : Int)) - 1)) = sm_dp (S 1100024) (S 1100023 (S 57 (((S 1092 0) - (1 : Int)) - 1)))) ∧ sm_TC (S 61) (S 62) (S 27) (S 1100007) (S 1100023) (S 1100024) (40 * (((S 1092 0) - (1 : Int)) - 1)) (S 1100023 (S 57 (((S 1092 0) - (1 : Int)) - 1))) ∧ sm_SK (S 63) (S 64) (S 44) (S 1100007) (S 1100025) (S 1076 0) (S 1007 0) (400 * (((S 1092 0) - (1 : Int)) - 1)) ((S 58 (((S 1092 0) - (1 : Int)) - 1))) ((S 1100025 (S 57 (((S 1092 0) - (1 : Int)) - 1)))) ∧ (0 ≤ (S 1100025 (S 57 (((S 1092 0) - (1 : Int)) - 1))) → (S 26 (S 1100025 (S 57 (((S 1092 0) - (1 : Int)) - 1)))) = 29 ∧ (S 1100007 (S 1100025 (S 57 (((S 1092 0) - (1 : Int)) - 1)))) ≤ (S 58 (((S 1092 0) - (1 : Int)) - 1))) ∧ (0 ≤ (S 1100023 (S 57 (((S 1092 0) - (1 : Int)) - 1))) → (S 26 (S 1100023 (S 57 (((S 1092 0) - (1 : Int)) - 1)))) = 27 ∧ (S 1100007 (S 1100023 (S 57 (((S 1092 0) - (1 : Int)) - 1)))) ≤ (S 58 (((S 1092 0) - (1 : Int)) - 1))) ∧ sm_LK (S 1100029) (S 1076 0) (S 54 (((S 1092 0) - (1 : Int)) - 1)) (S 53 (((S 1092 0) - (1 : Int)) - 1)) ∧ sm_VO (S 44) (S 1076 0) (S 1007 0) ((S 55 (((S 1092 0) - (1 : Int)) - 1))) ((S 56 (((S 1092 0) - (1 : Int)) - 1))) ∧ sm_FW (S 44) (S 1076 0) (S 59 (((S 1092 0) - (1 : Int)) - 1))) → ((sm_CT (S 26) (S 27) (S 28) (S 29) (S 1100007) (S 1100023) (S 1100024) (S 1100025) (S 21) (S 1046 0) (S 1032 0) (S 1008 0) (S 1055 0) → 0 ≤ (S 57 (((S 1092 0) - (1 : Int)) - 1)) → (S 57 (((S 1092 0) - (1 : Int)) - 1)) < (S 1046 0) → (0 ≤ (S 1100025 (S 57 (((S 1092 0) - (1 : Int)) - 1))) → (S 26 (S 1100025 (S 57 (((S 1092 0) - (1 : Int)) - 1)))) = 29 ∧ (S 1100007 (S 1100025 (S 57 (((S 1092 0) - (1 : Int)) - 1)))) ≤ (S 1100007 (S 57 (((S 1092 0) - (1 : Int)) - 1)))) ∧ (0 ≤ (S 1100007 (S 57 (((S 1092 0) - (1 : Int)) - 1))) ∧ (S 1100007 (S 57 (((S 1092 0) - (1 : Int)) - 1))) ≤ 396 ∧ -1 ≤ (S 1100023 (S 57 (((S 1092 0) - (1 : Int)) - 1))) ∧ (S 1100023 (S 57 (((S 1092 0) - (1 : Int)) - 1))) < (S 57 (((S 1092 0) - (1 : Int)) - 1)) ∧ -1 ≤ (S 1100025 (S 57 (((S 1092 0) - (1 : Int)) - 1))) ∧ (S 1100025 (S 57 (((S 1092 0) - (1 : Int)) - 1))) < (S 57 (((S 1092 0) - (1 : Int)) - 1)) ∧ 0 ≤ (S 26 (S 57 (((S 1092 0) - (1 : Int)) - 1))) ∧ (S 26 (S 57 (((S 1092 0) - (1 : Int)) - 1))) ≤ 30)) → (((¬ ((S 1092 0) - (1 : Int)) = (0 : Int)) → (((x4 = (-1 : Int)) → (1 ≤ ((S 1092 0) - (1 : Int)) ∧ ((S 1092 0) - (1 : Int)) ≤ 24 ∧ 0 ≤ (S 58 (((S 1092 0) - (1 : Int)) - 1)) ∧ (S 58 (((S 1092 0) - (1 : Int)) - 1)) ≤ 400 ∧ (S 58 (((S 1092 0) - (1 : Int)) - 1)) < 400) ∧ (∀ g13 : sv_S, ((g13 58 (((S 1092 0) - (1 : Int)) - 1)) = (S 58 (((S 1092 0) - (1 : Int)) - 1)) + 1 ∧ (g13 63 (400 * (((S 1092 0) - (1 : Int)) - 1) + (S 58 (((S 1092 0) - (1 : Int)) - 1)))) = p1 ∧ (g13 64 (400 * (((S 1092 0) - (1 : Int)) - 1) + (S 58 (((S 1092 0) - (1 : Int)) - 1)))) = p2 ∧ (∀ k : Int, ¬ k = ((S 1092 0) - (1 : Int)) - 1 → (g13 58 k) = (S 58 k)) ∧ (∀ k : Int, ¬ k = (400 * (((S 1092 0) - (1 : Int)) - 1) + (S 58 (((S 1092 0) - (1 : Int)) - 1))) → (g13 63 k) = (S 63 k)) ∧ (∀ k : Int, ¬ k = (400 * (((S 1092 0) - (1 : Int)) - 1) + (S 58 (((S 1092 0) - (1 : Int)) - 1))) → (g13 64 k) = (S 64 k))) → (sm_PL (S 1100020) (S 51) (S 52) (S 46) (S 47) (S 1076 0) (S 1086 0) ∧ sm_FR (S 1100020) (S 52) (S 1100021) (S 1100022) (3000 - (S 1084 0)) (S 1085 0) ∧ sm_PV (S 1100020) (S 48) (S 49) (S 50) (S 44) (S 1076 0) (S 1007 0) ∧ sm_AL (S 1100020) (S 48) (S 49) (S 50) (S 44) (S 1076 0) (S 1100032 0) ∧ sm_SV (S 1100020) (S 48) (S 1100029) (S 32) (S 33) (S 1076 0) (S 1032 0) ∧ 0 ≤ (S 1076 0) ∧ (S 1076 0) ≤ 300 ∧ 0 ≤ (S 1084 0) ∧ (S 1084 0) ≤ 3000 ∧ 0 ≤ (S 1086 0) ∧ sm_SC (S 1100029) (S 44) (S 45) (S 43) (S 21) (S 1076 0) (S 1032 0) ∧ sm_PO (S 42) (S 1076 0) ∧ ((S 1075 0) = 0 → (S 1100032 0) = -1 ∧ sm_FO (S 44) (S 45) (S 1076 0)) ∧ 23 ≤ (S 1076 0) ∧ 31 ≤ (S 1007 0) ∧ (S 1007 0) ≤ 400 ∧ sm_LN (S 4) 400 (S 1007 0) ∧ (S 1008 0) ≤ (S 1007 0) ∧ ((S 1075 0) = 1 → (S 1075 0) = 1) ∧ 0 ≤ ((S 1092 0) - (1 : Int)) ∧ ((S 1092 0) - (1 : Int)) ≤ 24 ∧ (S 1007 0) ≤ (S 1007 0) ∧ (¬ (S 1075 0) = 0 → sm_LX (g13 58) (g13 63) (g13 64) ((S 1092 0) - (1 : Int)) (S 1076 0)) ∧ ((S 1075 0) = 0 → (S 1073 0) = 1 → 1 ≤ ((S 1092 0) - (1 : Int)) ∧ ((S 1092 0) - (1 : Int)) ≤ 24 ∧ 0 ≤ (S 57 (((S 1092 0) - (1 : Int)) - 1)) ∧ (S 57 (((S 1092 0) - (1 : Int)) - 1)) < (S 1046 0) ∧ (S 29 (S 57 (((S 1092 0) - (1 : Int)) - 1))) = (S 53 (((S 1092 0) - (1 : Int)) - 1)) ∧ 0 ≤ (S 53 (((S 1092 0) - (1 : Int)) - 1)) ∧ (S 53 (((S 1092 0) - (1 : Int)) - 1)) < (S 1032 0) ∧ (S 60 (((S 1092 0) - (1 : Int)) - 1)) = sm_dp (S 1100024) (S 1100023 (S 57 (((S 1092 0) - (1 : Int)) - 1))) ∧ sm_TC (S 61) (S 62) (S 27) (S 1100007) (S 1100023) (S 1100024) (40 * (((S 1092 0) - (1 : Int)) - 1)) (S 1100023 (S 57 (((S 1092 0) - (1 : Int)) - 1))) ∧ sm_LK (S 1100029) (S 1076 0) (S 54 (((S 1092 0) - (1 : Int)) - 1)) (S 53 (((S 1092 0) - (1 : Int)) - 1)) ∧ sm_VO (S 44) (S 1076 0) (S 1007 0) ((S 55 (((S 1092 0) - (1 : Int)) - 1))) ((S 56 (((S 1092 0) - (1 : Int)) - 1))) ∧ sm_FW (S 44) (S 1076 0) (S 59 (((S 1092 0) - (1 : Int)) - 1)) ∧ sm_FL (S 53) (S 54) (S 55) (S 56) (S 57) (g13 58) (S 59) (S 60) (S 61) (S 62) (g13 63) (g13 64) (S 27) (S 29) (S 1100007) (S 1100023) (S 1100024) (S 1100025) (S 26) (S 1100029) (S 44) (S 1046 0) (S 1032 0) (S 1076 0) (S 1007 0) ((((S 1092 0) - (1 : Int)) - 1)) ∧ (g13 58 (((S 1092 0) - (1 : Int)) - 1)) = (S 1100007 (S 57 (((S 1092 0) - (1 : Int)) - 1))) ∧ sm_SK (g13 63) (g13 64) (S 44) (S 1100007) (S 1100025) (S 1076 0) (S 1007 0) (400 * (((S 1092 0) - (1 : Int)) - 1)) ((g13 58 (((S 1092 0) - (1 : Int)) - 1))) ((S 1100025 (S 57 (((S 1092 0) - (1 : Int)) - 1))))) ∧ ((S 1073 0) = 1 ∨ ((S 1092 0) - (1 : Int)) = 0 ∧ (S 1075 0) = 0 ∧ ((S 1073 0) = 2 ∨ (S 1073 0) = 3)) ∧ ((S 1073 0) = 1 ∨ (S 1073 0) = 2)))) ∧ ((¬ (x4 = (-1 : Int))) → (((p1 = (7 : Int)) → (1 ≤ ((S 1092 0) - (1 : Int)) ∧ ((S 1092 0) - (1 : Int)) ≤ 24 ∧ 0 ≤ (S 58 (((S 1092 0) - (1 : Int)) - 1)) ∧ (S 58 (((S 1092 0) - (1 : Int)) - 1)) ≤ 400 ∧ (S 58 (((S 1092 0) - (1 : Int)) - 1)) < 400) ∧ (∀ g19 : sv_S, ((g19 58 (((S 1092 0) - (1 : Int)) - 1)) = (S 58 (((S 1092 0) - (1 : Int)) - 1)) + 1 ∧ (g19 63 (400 * (((S 1092 0) - (1 : Int)) - 1) + (S 58 (((S 1092 0) - (1 : Int)) - 1)))) = p1 ∧ (g19 64 (400 * (((S 1092 0) - (1 : Int)) - 1) + (S 58 (((S 1092 0) - (1 : Int)) - 1)))) = p2 ∧ (∀ k : Int, ¬ k = ((S 1092 0) - (1 : Int)) - 1 → (g19 58 k) = (S 58 k)) ∧ (∀ k : Int, ¬ k = (400 * (((S 1092 0) - (1 : Int)) - 1) + (S 58 (((S 1092 0) - (1 : Int)) - 1))) → (g19 63 k) = (S 63 k)) ∧ (∀ k : Int, ¬ k = (400 * (((S 1092 0) - (1 : Int)) - 1) + (S 58 (((S 1092 0) - (1 : Int)) - 1))) → (g19 64 k) = (S 64 k))) → (sm_PL (S 1100020) (S 51) (S 52) (S 46) (S 47) (S 1076 0) (S 1086 0) ∧ sm_FR (S 1100020) (S 52) (S 1100021) (S 1100022) (3000 - (S 1084 0)) (S 1085 0) ∧ sm_PV (S 1100020) (S 48) (S 49) (S 50) (S 44) (S 1076 0) (S 1007 0) ∧ sm_AL (S 1100020) (S 48) (S 49) (S 50) (S 44) (S 1076 0) (S 1100032 0) ∧ sm_SV (S 1100020) (S 48) (S 1100029) (S 32) (S 33) (S 1076 0) (S 1032 0) ∧ 0 ≤ (S 1076 0) ∧ (S 1076 0) ≤ 300 ∧ 0 ≤ (S 1084 0) ∧ (S 1084 0) ≤ 3000 ∧ 0 ≤ (S 1086 0) ∧ sm_SC (S 1100029) (S 44) (S 45) (S 43) (S 21) (S 1076 0) (S 1032 0) ∧ sm_PO (S 42) (S 1076 0) ∧ ((S 1075 0) = 0 → (S 1100032 0) = -1 ∧ sm_FO (S 44) (S 45) (S 1076 0)) ∧ 23 ≤ (S 1076 0) ∧ 31 ≤ (S 1007 0) ∧ (S 1007 0) ≤ 400 ∧ sm_LN (S 4) 400 (S 1007 0) ∧ (S 1008 0) ≤ (S 1007 0) ∧ ((S 1075 0) = 1 → (S 1075 0) = 1) ∧ 0 ≤ ((S 1092 0) - (1 : Int)) ∧ ((S 1092 0) - (1 : Int)) ≤ 24 ∧ (S 1007 0) ≤ (S 1007 0) ∧ (¬ (S 1075 0) = 0 → sm_LX (g19 58) (g19 63) (g19 64) ((S 1092 0) - (1 : Int)) (S 1076 0)) ∧ ((S 1075 0) = 0 → (S 1073 0) = 1 → 1 ≤ ((S 1092 0) - (1 : Int)) ∧ ((S 1092 0) - (1 : Int)) ≤ 24 ∧ 0 ≤ (S 57 (((S 1092 0) - (1 : Int)) - 1)) ∧ (S 57 (((S 1092 0) - (1 : Int)) - 1)) < (S 1046 0) ∧ (S 29 (S 57 (((S 1092 0) - (1 : Int)) - 1))) = (S 53 (((S 1092 0) - (1 : Int)) - 1)) ∧ 0 ≤ (S 53 (((S 1092 0) - (1 : Int)) - 1)) ∧ (S 53 (((S 1092 0) - (1 : Int)) - 1)) < (S 1032 0) ∧ (S 60 (((S 1092 0) - (1 : Int)) - 1)) = sm_dp (S 1100024) (S 1100023 (S 57 (((S 1092 0) - (1 : Int)) - 1))) ∧ sm_TC (S 61) (S 62) (S 27) (S 1100007) (S 1100023) (S 1100024) (40 * (((S 1092 0) - (1 : Int)) - 1)) (S 1100023 (S 57 (((S 1092 0) - (1 : Int)) - 1))) ∧ sm_LK (S 1100029) (S 1076 0) (S 54 (((S 1092 0) - (1 : Int)) - 1)) (S 53 (((S 1092 0) - (1 : Int)) - 1)) ∧ sm_VO (S 44) (S 1076 0) (S 1007 0) ((S 55 (((S 1092 0) - (1 : Int)) - 1))) ((S 56 (((S 1092 0) - (1 : Int)) - 1))) ∧ sm_FW (S 44) (S 1076 0) (S 59 (((S 1092 0) - (1 : Int)) - 1)) ∧ sm_FL (S 53) (S 54) (S 55) (S 56) (S 57) (g19 58) (S 59) (S 60) (S 61) (S 62) (g19 63) (g19 64) (S 27) (S 29) (S 1100007) (S 1100023) (S 1100024) (S 1100025) (S 26) (S 1100029) (S 44) (S 1046 0) (S 1032 0) (S 1076 0) (S 1007 0) ((((S 1092 0) - (1 : Int)) - 1)) ∧ (g19 58 (((S 1092 0) - (1 : Int)) - 1)) = (S 1100007 (S 57 (((S 1092 0) - (1 : Int)) - 1))) ∧ sm_SK (g19 63) (g19 64) (S 44) (S 1100007) (S 1100025) (S 1076 0) (S 1007 0) (400 * (((S 1092 0) - (1 : Int)) - 1)) ((g19 58 (((S 1092 0) - (1 : Int)) - 1))) ((S 1100025 (S 57 (((S 1092 0) - (1 : Int)) - 1))))) ∧ ((S 1073 0) = 1 ∨ ((S 1092 0) - (1 : Int)) = 0 ∧ (S 1075 0) = 0 ∧ ((S 1073 0) = 2 ∨ (S 1073 0) = 3)) ∧ ((S 1073 0) = 1 ∨ (S 1073 0) = 2)))) ∧ ((¬ (p1 = (7 : Int))) → ((0 ≤ x4 → x4 < (S 1076 0) → ¬ (S 44 x4) = 3 → sm_VO (S 44) (S 1076 0) (S 1007 0) (7) (x4)) → (1 ≤ ((S 1092 0) - (1 : Int)) ∧ ((S 1092 0) - (1 : Int)) ≤ 24 ∧ 0 ≤ (S 58 (((S 1092 0) - (1 : Int)) - 1)) ∧ (S 58 (((S 1092 0) - (1 : Int)) - 1)) ≤ 400 ∧ (S 58 (((S 1092 0) - (1 : Int)) - 1)) < 400) ∧ (∀ g26 : sv_S, ((g26 58 (((S 1092 0) - (1 : Int)) - 1)) = (S 58 (((S 1092 0) - (1 : Int)) - 1)) + 1 ∧ (g26 63 (400 * (((S 1092 0) - (1 : Int)) - 1) + (S 58 (((S 1092 0) - (1 : Int)) - 1)))) = (7 : Int) ∧ (g26 64 (400 * (((S 1092 0) - (1 : Int)) - 1) + (S 58 (((S 1092 0) - (1 : Int)) - 1)))) = x4 ∧ (∀ k : Int, ¬ k = ((S 1092 0) - (1 : Int)) - 1 → (g26 58 k) = (S 58 k)) ∧ (∀ k : Int, ¬ k = (400 * (((S 1092 0) - (1 : Int)) - 1) + (S 58 (((S 1092 0) - (1 : Int)) - 1))) → (g26 63 k) = (S 63 k)) ∧ (∀ k : Int, ¬ k = (400 * (((S 1092 0) - (1 : Int)) - 1) + (S 58 (((S 1092 0) - (1 : Int)) - 1))) → (g26 64 k) = (S 64 k))) → (sm_PL (S 1100020) (S 51) (S 52) (S 46) (S 47) (S 1076 0) (S 1086 0) ∧ sm_FR (S 1100020) (S 52) (S 1100021) (S 1100022) (3000 - (S 1084 0)) (S 1085 0) ∧ sm_PV (S 1100020) (S 48) (S 49) (S 50) (S 44) (S 1076 0) (S 1007 0) ∧ sm_AL (S 1100020) (S 48) (S 49) (S 50) (S 44) (S 1076 0) (S 1100032 0) ∧ sm_SV (S 1100020) (S 48) (S 1100029) (S 32) (S 33) (S 1076 0) (S 1032 0) ∧ 0 ≤ (S 1076 0) ∧ (S 1076 0) ≤ 300 ∧ 0 ≤ (S 1084 0) ∧ (S 1084 0) ≤ 3000 ∧ 0 ≤ (S 1086 0) ∧ sm_SC (S 1100029) (S 44) (S 45) (S 43) (S 21) (S 1076 0) (S 1032 0) ∧ sm_PO (S 42) (S 1076 0) ∧ ((S 1075 0) = 0 → (S 1100032 0) = -1 ∧ sm_FO (S 44) (S 45) (S 1076 0)) ∧ 23 ≤ (S 1076 0) ∧ 31 ≤ (S 1007 0) ∧ (S 1007 0) ≤ 400 ∧ sm_LN (S 4) 400 (S 1007 0) ∧ (S 1008 0) ≤ (S 1007 0) ∧ ((S 1075 0) = 1 → (S 1075 0) = 1) ∧ 0 ≤ ((S 1092 0) - (1 : Int)) ∧ ((S 1092 0) - (1 : Int)) ≤ 24 ∧ (S 1007 0) ≤ (S 1007 0) ∧ (¬ (S 1075 0) = 0 → sm_LX (g26 58) (g26 63) (g26 64) ((S 1092 0) - (1 : Int)) (S 1076 0)) ∧ ((S 1075 0) = 0 → (S 1073 0) = 1 → 1 ≤ ((S 1092 0) - (1 : Int)) ∧ ((S 1092 0) - (1 : Int)) ≤ 24 ∧ 0 ≤ (S 57 (((S 1092 0) - (1 : Int)) - 1)) ∧ (S 57 (((S 1092 0) - (1 : Int)) - 1)) < (S 1046 0) ∧ (S 29 (S 57 (((S 1092 0) - (1 : Int)) - 1))) = (S 53 (((S 1092 0) - (1 : Int)) - 1)) ∧ 0 ≤ (S 53 (((S 1092 0) - (1 : Int)) - 1)) ∧ (S 53 (((S 1092 0) - (1 : Int)) - 1)) < (S 1032 0) ∧ (S 60 (((S 1092 0) - (1 : Int)) - 1)) = sm_dp (S 1100024) (S 1100023 (S 57 (((S 1092 0) - (1 : Int)) - 1))) ∧ sm_TC (S 61) (S 62) (S 27) (S 1100007) (S 1100023) (S 1100024) (40 * (((S 1092 0) - (1 : Int)) - 1)) (S 1100023 (S 57 (((S 1092 0) - (1 : Int)) - 1))) ∧ sm_LK (S 1100029) (S 1076 0) (S 54 (((S 1092 0) - (1 : Int)) - 1)) (S 53 (((S 1092 0) - (1 : Int)) - 1)) ∧ sm_VO (S 44) (S 1076 0) (S 1007 0) ((S 55 (((S 1092 0) - (1 : Int)) - 1))) ((S 56 (((S 1092 0) - (1 : Int)) - 1))) ∧ sm_FW (S 44) (S 1076 0) (S 59 (((S 1092 0) - (1 : Int)) - 1)) ∧ sm_FL (S 53) (S 54) (S 55) (S 56) (S 57) (g26 58) (S 59) (S 60) (S 61) (S 62) (g26 63) (g26 64) (S 27) (S 29) (S 1100007) (S 1100023) (S 1100024) (S 1100025) (S 26) (S 1100029) (S 44) (S 1046 0) (S 1032 0) (S 1076 0) (S 1007 0) ((((S 1092 0) - (1 : Int)) - 1)) ∧ (g26 58 (((S 1092 0) - (1 : Int)) - 1)) = (S 1100007 (S 57 (((S 1092 0) - (1 : Int)) - 1))) ∧ sm_SK (g26 63) (g26 64) (S 44) (S 1100007) (S 1100025) (S 1076 0) (S 1007 0) (400 * (((S 1092 0) - (1 : Int)) - 1)) ((g26 58 (((S 1092 0) - (1 : Int)) - 1))) ((S 1100025 (S 57 (((S 1092 0) - (1 : Int)) - 1))))) ∧ ((S 1073 0) = 1 ∨ ((S 1092 0) - (1 : Int)) = 0 ∧ (S 1075 0) = 0 ∧ ((S 1073 0) = 2 ∨ (S 1073 0) = 3)) ∧ ((S 1073 0) = 1 ∨ (S 1073 0) = 2))))))))) ∧ ((¬ (¬ ((S 1092 0) - (1 : Int)) = (0 : Int))) → (sm_PL (S 1100020) (S 51) (S 52) (S 46) (S 47) (S 1076 0) (S 1086 0) ∧ sm_FR (S 1100020) (S 52) (S 1100021) (S 1100022) (3000 - (S 1084 0)) (S 1085 0) ∧ sm_PV (S 1100020) (S 48) (S 49) (S 50) (S 44) (S 1076 0) (S 1007 0) ∧ sm_AL (S 1100020) (S 48) (S 49) (S 50) (S 44) (S 1076 0) (S 1100032 0) ∧ sm_SV (S 1100020) (S 48) (S 1100029) (S 32) (S 33) (S 1076 0) (S 1032 0) ∧ 0 ≤ (S 1076 0) ∧ (S 1076 0) ≤ 300 ∧ 0 ≤ (S 1084 0) ∧ (S 1084 0) ≤ 3000 ∧ 0 ≤ (S 1086 0) ∧ sm_SC (S 1100029) (S 44) (S 45) (S 43) (S 21) (S 1076 0) (S 1032 0) ∧ sm_PO (S 42) (S 1076 0) ∧ ((S 1075 0) = 0 → (S 1100032 0) = -1 ∧ sm_FO (S 44) (S 45) (S 1076 0)) ∧ 23 ≤ (S 1076 0) ∧ 31 ≤ (S 1007 0) ∧ (S 1007 0) ≤ 400 ∧ sm_LN (S 4) 400 (S 1007 0) ∧ (S 1008 0) ≤ (S 1007 0) ∧ ((S 1075 0) = 1 → (S 1075 0) = 1) ∧ 0 ≤ ((S 1092 0) - (1 : Int)) ∧ ((S 1092 0) - (1 : Int)) ≤ 24 ∧ (S 1007 0) ≤ (S 1007 0) ∧ (¬ (S 1075 0) = 0 → sm_LX (S 58) (S 63) (S 64) ((S 1092 0) - (1 : Int)) (S 1076 0)) ∧ ((S 1075 0) = 0 → (2 : Int) = 1 → 1 ≤ ((S 1092 0) - (1 : Int)) ∧ ((S 1092 0) - (1 : Int)) ≤ 24 ∧ 0 ≤ (S 57 (((S 1092 0) - (1 : Int)) - 1)) ∧ (S 57 (((S 1092 0) - (1 : Int)) - 1)) < (S 1046 0) ∧ (S 29 (S 57 (((S 1092 0) - (1 : Int)) - 1))) = (S 53 (((S 1092 0) - (1 : Int)) - 1)) ∧ 0 ≤ (S 53 (((S 1092 0) - (1 : Int)) - 1)) ∧ (S 53 (((S 1092 0) - (1 : Int)) - 1)) < (S 1032 0) ∧ (S 60 (((S 1092 0) - (1 : Int)) - 1)) = sm_dp (S 1100024) (S 1100023 (S 57 (((S 1092 0) - (1 : Int)) - 1))) ∧ sm_TC (S 61) (S 62) (S 27) (S 1100007) (S 1100023) (S 1100024) (40 * (((S 1092 0) - (1 : Int)) - 1)) (S 1100023 (S 57 (((S 1092 0) - (1 : Int)) - 1))) ∧ sm_LK (S 1100029) (S 1076 0) (S 54 (((S 1092 0) - (1 : Int)) - 1)) (S 53 (((S 1092 0) - (1 : Int)) - 1)) ∧ sm_VO (S 44) (S 1076 0) (S 1007 0) ((S 55 (((S 1092 0) - (1 : Int)) - 1))) ((S 56 (((S 1092 0) - (1 : Int)) - 1))) ∧ sm_FW (S 44) (S 1076 0) (S 59 (((S 1092 0) - (1 : Int)) - 1)) ∧ sm_FL (S 53) (S 54) (S 55) (S 56) (S 57) (S 58) (S 59) (S 60) (S 61) (S 62) (S 63) (S 64) (S 27) (S 29) (S 1100007) (S 1100023) (S 1100024) (S 1100025) (S 26) (S 1100029) (S 44) (S 1046 0) (S 1032 0) (S 1076 0) (S 1007 0) ((((S 1092 0) - (1 : Int)) - 1)) ∧ (S 58 (((S 1092 0) - (1 : Int)) - 1)) = (S 1100007 (S 57 (((S 1092 0) - (1 : Int)) - 1))) ∧ sm_SK (S 63) (S 64) (S 44) (S 1100007) (S 1100025) (S 1076 0) (S 1007 0) (400 * (((S 1092 0) - (1 : Int)) - 1)) ((S 58 (((S 1092 0) - (1 : Int)) - 1))) ((S 1100025 (S 57 (((S 1092 0) - (1 : Int)) - 1))))) ∧ ((2 : Int) = 1 ∨ ((S 1092 0) - (1 : Int)) = 0 ∧ (S 1075 0) = 0 ∧ ((2 : Int) = 2 ∨ (2 : Int) = 3)) ∧ ((2 : Int) = 1 ∨ (2 : Int) = 2)))))))))) := by
  intro p1
  intro p2
  intro S
  intro h1_
  intro h2_
  intro h3_
  rintro ⟨h4_, ⟨h5_, ⟨h6_, ⟨h7_, ⟨h8_, ⟨h9_, ⟨h10_, ⟨h11_, ⟨h12_, ⟨h13_, ⟨h14_, ⟨h15_, ⟨h16_, ⟨h17_, ⟨h18_, ⟨h19_, ⟨h20_, ⟨h21_, ⟨h22_, ⟨h23_, ⟨h24_, ⟨h25_, ⟨h26_, ⟨h27_, ⟨h28_, ⟨h29_, ⟨h30_, ⟨h31_, ⟨h32_, ⟨h33_, ⟨h34_, ⟨h35_, ⟨h36_, ⟨h37_, ⟨h38_, ⟨h39_, ⟨h40_, ⟨h41_, ⟨h42_, ⟨h43_, ⟨h44_, ⟨h45_, ⟨h46_, ⟨h47_, ⟨h48_, ⟨h49_, ⟨h50_, ⟨h51_, ⟨h52_, ⟨h53_, ⟨h54_, ⟨h55_, ⟨h56_, ⟨h57_, ⟨h58_, ⟨h59_, h60_⟩⟩⟩⟩⟩⟩⟩⟩⟩⟩⟩⟩⟩⟩⟩⟩⟩⟩⟩⟩⟩⟩⟩⟩⟩⟩⟩⟩⟩⟩⟩⟩⟩⟩⟩⟩⟩⟩⟩⟩⟩⟩⟩⟩⟩⟩⟩⟩⟩⟩⟩⟩⟩⟩⟩⟩
  intro h61_
  refine ⟨(la_goBack_0 h36_ h37_), ?_⟩
  intro h62_
  intro x4
  intro h63_
  intro h64_
  have h65_ := (h64_ (sm_FW_q h47_ (la_goBack_1 h63_)))
  refine ⟨(la_goBack_2 h36_ h37_), ?_⟩
  intro h66_
  have h67_ := (h66_ h48_)
  intro h68_
  have h69_ := (h68_ h25_)
  refine ⟨?_, ?_⟩
  · skip
    intro h70_
    have h71_ := (h67_ (la_goBack_5 (la_goBack_4 (la_goBack_3 h36_) h70_)))
    obtain ⟨⟨h72_, ⟨h73_, ⟨h74_, ⟨h75_, ⟨h76_, ⟨h77_, ⟨h78_, h79_⟩⟩⟩⟩⟩⟩⟩, ⟨h80_, ⟨h81_, ⟨h82_, ⟨h83_, ⟨h84_, ⟨h85_, ⟨h86_, h87_⟩⟩⟩⟩⟩⟩⟩⟩ := (h71_ la_goBack_6)
    have h88_ := (h69_ h74_)
    obtain ⟨h89_, ⟨h90_, ⟨h91_, ⟨h92_, ⟨h93_, ⟨h94_, ⟨h95_, ⟨h96_, h97_⟩⟩⟩⟩⟩⟩⟩⟩ := (h88_ h75_)
    refine ⟨?_, ?_⟩
    · skip
      intro h98_
      have h99_ := (h65_.resolve_right (la_goBack_7 h98_))
      refine ⟨(la_goBack_8 h37_ (la_goBack_4 (la_goBack_3 h36_) h70_) h78_ h79_), ?_⟩
      intro g13
      rintro ⟨h100_, ⟨h101_, ⟨h102_, ⟨h103_, ⟨h104_, h105_⟩⟩⟩⟩⟩
      refine ⟨h7_, ?_⟩
      refine ⟨h8_, ?_⟩
      refine ⟨h9_, ?_⟩
      refine ⟨h10_, ?_⟩
      refine ⟨h11_, ?_⟩
      refine ⟨h12_, ?_⟩
      refine ⟨h13_, ?_⟩
      refine ⟨h14_, ?_⟩
      refine ⟨h15_, ?_⟩
      refine ⟨h16_, ?_⟩
      refine ⟨h17_, ?_⟩
      refine ⟨h18_, ?_⟩
      refine ⟨?_, ?_⟩
      · skip
        intro h106_
        refine ⟨h19_, ?_⟩
        exact h20_
      refine ⟨h21_, ?_⟩
      refine ⟨h22_, ?_⟩
      refine ⟨h23_, ?_⟩
      refine ⟨h24_, ?_⟩
      refine ⟨h33_, ?_⟩
      refine ⟨(la_goBack_9 h4_), ?_⟩
      refine ⟨(la_goBack_10 (la_goBack_4 (la_goBack_3 h36_) h70_)), ?_⟩
      refine ⟨(la_goBack_11 h37_), ?_⟩
      refine ⟨la_goBack_12, ?_⟩
      refine ⟨?_, ?_⟩
      · skip
        intro h107_
        have h108_ := ((h103_ (S 1092 0 - 1)) la_goBack_15)
        have h109_ := (h103_ (S 1092 0 - 1 - 1))
        have h110_ := (h104_ (400 * (S 1092 0 - 1 - 1) + S 58 (S 1092 0 - 1 - 1)))
        have h111_ := (h105_ (400 * (S 1092 0 - 1 - 1) + S 58 (S 1092 0 - 1 - 1)))
        exact ((la_goBack_18 h4_ (la_goBack_14 (la_goBack_13 h4_) h107_))).elim
      refine ⟨?_, ?_⟩
      · skip
        intro h112_
        intro h113_
        refine ⟨(la_goBack_19 (la_goBack_4 (la_goBack_3 h36_) h70_)), ?_⟩
        refine ⟨(la_goBack_11 h37_), ?_⟩
        refine ⟨h74_, ?_⟩
        refine ⟨h75_, ?_⟩
        refine ⟨h76_, ?_⟩
        refine ⟨h72_, ?_⟩
        refine ⟨h73_, ?_⟩
        refine ⟨h80_, ?_⟩
        refine ⟨h81_, ?_⟩
        refine ⟨h85_, ?_⟩
        refine ⟨h86_, ?_⟩
        refine ⟨h87_, ?_⟩
        refine ⟨(sm_FL_F (sm_FL_w h48_ la_goBack_20) sm_F1_rf sm_F1_rf sm_F1_rf sm_F1_rf sm_F1_rf (sm_F1_le (sm_F1_ne h103_ (Int.le_refl _)) (Int.le_refl _)) sm_F1_rf sm_F1_rf sm_F1_rf sm_F1_rf (sm_F1_le (sm_F1_ne h104_ (Int.le_refl _)) (la_goBack_21 h78_)) (sm_F1_le (sm_F1_ne h105_ (Int.le_refl _)) (la_goBack_21 h78_)) (Int.le_refl _) (Int.le_refl _) sm_F1_rf sm_F1_rf (sm_FL_dp (sm_FL_w h48_ la_goBack_20) h25_)), ?_⟩
        refine ⟨(la_goBack_22 h77_ h100_), ?_⟩
        exact (sm_SK_q (sm_SK_push (sm_SK_F h82_ (sm_F1_le (sm_F1_ne h104_ (Int.le_refl _)) (Int.le_refl _)) (sm_F1_le (sm_F1_ne h105_ (Int.le_refl _)) (Int.le_refl _)) (Int.le_refl _) (Int.le_refl _)) h26_ (la_goBack_23 h75_ h95_) h83_ rfl (sm_VO_eq h60_ h101_ h102_) rfl) rfl h100_ rfl)
      refine ⟨(la_goBack_24 h4_ h5_ (la_goBack_4 (la_goBack_3 h36_) h70_)), ?_⟩
      exact (la_goBack_25 h5_)
    intro h114_
    obtain ⟨h115_, ⟨h116_, h117_⟩⟩ := (h65_.resolve_left h114_)
    refine ⟨?_, ?_⟩
    · skip
      intro h118_
      obtain ⟨h119_, ⟨h120_, h121_⟩⟩ := ((sm_VO_e h60_).2.2.2 h118_)
      refine ⟨(la_goBack_8 h37_ (la_goBack_4 (la_goBack_3 h36_) h70_) h78_ h79_), ?_⟩
      intro g19
      rintro ⟨h122_, ⟨h123_, ⟨h124_, ⟨h125_, ⟨h126_, h127_⟩⟩⟩⟩⟩
      refine ⟨h7_, ?_⟩
      refine ⟨h8_, ?_⟩
      refine ⟨h9_, ?_⟩
      refine ⟨h10_, ?_⟩
      refine ⟨h11_, ?_⟩
      refine ⟨h12_, ?_⟩
      refine ⟨h13_, ?_⟩
      refine ⟨h14_, ?_⟩
      refine ⟨h15_, ?_⟩
      refine ⟨h16_, ?_⟩
      refine ⟨h17_, ?_⟩
      refine ⟨h18_, ?_⟩
      refine ⟨?_, ?_⟩
      · skip
        intro h128_
        refine ⟨h19_, ?_⟩
        exact h20_
      refine ⟨h21_, ?_⟩
      refine ⟨h22_, ?_⟩
      refine ⟨h23_, ?_⟩
      refine ⟨h24_, ?_⟩
      refine ⟨h33_, ?_⟩
      refine ⟨(la_goBack_9 h4_), ?_⟩
      refine ⟨(la_goBack_10 (la_goBack_4 (la_goBack_3 h36_) h70_)), ?_⟩
      refine ⟨(la_goBack_11 h37_), ?_⟩
      refine ⟨la_goBack_12, ?_⟩
      refine ⟨?_, ?_⟩
      · skip
        intro h129_
        have h130_ := ((h125_ (S 1092 0 - 1)) la_goBack_15)
        have h131_ := (h125_ (S 1092 0 - 1 - 1))
        have h132_ := (h126_ (400 * (S 1092 0 - 1 - 1) + S 58 (S 1092 0 - 1 - 1)))
        have h133_ := (h127_ (400 * (S 1092 0 - 1 - 1) + S 58 (S 1092 0 - 1 - 1)))
        exact ((la_goBack_18 h4_ (la_goBack_14 (la_goBack_13 h4_) h129_))).elim
      refine ⟨?_, ?_⟩
      · skip
        intro h134_
        intro h135_
        refine ⟨(la_goBack_19 (la_goBack_4 (la_goBack_3 h36_) h70_)), ?_⟩
        refine ⟨(la_goBack_11 h37_), ?_⟩
        refine ⟨h74_, ?_⟩
        refine ⟨h75_, ?_⟩
        refine ⟨h76_, ?_⟩
        refine ⟨h72_, ?_⟩
        refine ⟨h73_, ?_⟩
        refine ⟨h80_, ?_⟩
        refine ⟨h81_, ?_⟩
        refine ⟨h85_, ?_⟩
        refine ⟨h86_, ?_⟩
        refine ⟨h87_, ?_⟩
        refine ⟨(sm_FL_F (sm_FL_w h48_ la_goBack_20) sm_F1_rf sm_F1_rf sm_F1_rf sm_F1_rf sm_F1_rf (sm_F1_le (sm_F1_ne h125_ (Int.le_refl _)) (Int.le_refl _)) sm_F1_rf sm_F1_rf sm_F1_rf sm_F1_rf (sm_F1_le (sm_F1_ne h126_ (Int.le_refl _)) (la_goBack_21 h78_)) (sm_F1_le (sm_F1_ne h127_ (Int.le_refl _)) (la_goBack_21 h78_)) (Int.le_refl _) (Int.le_refl _) sm_F1_rf sm_F1_rf (sm_FL_dp (sm_FL_w h48_ la_goBack_20) h25_)), ?_⟩
        refine ⟨(la_goBack_22 h77_ h122_), ?_⟩
        exact (sm_SK_q (sm_SK_push (sm_SK_F h82_ (sm_F1_le (sm_F1_ne h126_ (Int.le_refl _)) (Int.le_refl _)) (sm_F1_le (sm_F1_ne h127_ (Int.le_refl _)) (Int.le_refl _)) (Int.le_refl _) (Int.le_refl _)) h26_ (la_goBack_23 h75_ h95_) h83_ rfl (sm_VO_eq h60_ h123_ h124_) rfl) rfl h122_ rfl)
      refine ⟨(la_goBack_24 h4_ h5_ (la_goBack_4 (la_goBack_3 h36_) h70_)), ?_⟩
      exact (la_goBack_25 h5_)
    intro h136_
    intro h137_
    have h138_ := (h137_ h115_)
    have h139_ := (h138_ h116_)
    have h140_ := (h139_ h117_)
    obtain ⟨h141_, ⟨h142_, h143_⟩⟩ := ((sm_VO_e h140_).2.2.2 la_goBack_31)
    refine ⟨(la_goBack_8 h37_ (la_goBack_4 (la_goBack_3 h36_) h70_) h78_ h79_), ?_⟩
    intro g26
    rintro ⟨h144_, ⟨h145_, ⟨h146_, ⟨h147_, ⟨h148_, h149_⟩⟩⟩⟩⟩
    refine ⟨h7_, ?_⟩
    refine ⟨h8_, ?_⟩
    refine ⟨h9_, ?_⟩
    refine ⟨h10_, ?_⟩
    refine ⟨h11_, ?_⟩
    refine ⟨h12_, ?_⟩
    refine ⟨h13_, ?_⟩
    refine ⟨h14_, ?_⟩
    refine ⟨h15_, ?_⟩
    refine ⟨h16_, ?_⟩
    refine ⟨h17_, ?_⟩
    refine ⟨h18_, ?_⟩
    refine ⟨?_, ?_⟩
    · skip
      intro h150_
      refine ⟨h19_, ?_⟩
      exact h20_
    refine ⟨h21_, ?_⟩
    refine ⟨h22_, ?_⟩
    refine ⟨h23_, ?_⟩
    refine ⟨h24_, ?_⟩
    refine ⟨h33_, ?_⟩
    refine ⟨(la_goBack_9 h4_), ?_⟩
    refine ⟨(la_goBack_10 (la_goBack_4 (la_goBack_3 h36_) h70_)), ?_⟩
    refine ⟨(la_goBack_11 h37_), ?_⟩
    refine ⟨la_goBack_12, ?_⟩
    refine ⟨?_, ?_⟩
    · skip
      intro h151_
      have h152_ := ((h147_ (S 1092 0 - 1)) la_goBack_15)
      have h153_ := (h147_ (S 1092 0 - 1 - 1))
      have h154_ := (h148_ (400 * (S 1092 0 - 1 - 1) + S 58 (S 1092 0 - 1 - 1)))
      have h155_ := (h149_ (400 * (S 1092 0 - 1 - 1) + S 58 (S 1092 0 - 1 - 1)))
      exact ((la_goBack_18 h4_ (la_goBack_14 (la_goBack_13 h4_) h151_))).elim
    refine ⟨?_, ?_⟩
    · skip
      intro h156_
      intro h157_
      refine ⟨(la_goBack_19 (la_goBack_4 (la_goBack_3 h36_) h70_)), ?_⟩
      refine ⟨(la_goBack_11 h37_), ?_⟩
      refine ⟨h74_, ?_⟩
      refine ⟨h75_, ?_⟩
      refine ⟨h76_, ?_⟩
      refine ⟨h72_, ?_⟩
      refine ⟨h73_, ?_⟩
      refine ⟨h80_, ?_⟩
      refine ⟨h81_, ?_⟩
      refine ⟨h85_, ?_⟩
      refine ⟨h86_, ?_⟩
      refine ⟨h87_, ?_⟩
      refine ⟨(sm_FL_F (sm_FL_w h48_ la_goBack_20) sm_F1_rf sm_F1_rf sm_F1_rf sm_F1_rf sm_F1_rf (sm_F1_le (sm_F1_ne h147_ (Int.le_refl _)) (Int.le_refl _)) sm_F1_rf sm_F1_rf sm_F1_rf sm_F1_rf (sm_F1_le (sm_F1_ne h148_ (Int.le_refl _)) (la_goBack_21 h78_)) (sm_F1_le (sm_F1_ne h149_ (Int.le_refl _)) (la_goBack_21 h78_)) (Int.le_refl _) (Int.le_refl _) sm_F1_rf sm_F1_rf (sm_FL_dp (sm_FL_w h48_ la_goBack_20) h25_)), ?_⟩
      refine ⟨(la_goBack_22 h77_ h144_), ?_⟩
      exact (sm_SK_q (sm_SK_push (sm_SK_F h82_ (sm_F1_le (sm_F1_ne h148_ (Int.le_refl _)) (Int.le_refl _)) (sm_F1_le (sm_F1_ne h149_ (Int.le_refl _)) (Int.le_refl _)) (Int.le_refl _) (Int.le_refl _)) h26_ (la_goBack_23 h75_ h95_) h83_ rfl (sm_VO_eq h140_ h145_ h146_) rfl) rfl h144_ rfl)
    refine ⟨(la_goBack_24 h4_ h5_ (la_goBack_4 (la_goBack_3 h36_) h70_)), ?_⟩
    exact (la_goBack_25 h5_)
  intro h158_
  refine ⟨h7_, ?_⟩
  refine ⟨h8_, ?_⟩
  refine ⟨h9_, ?_⟩
  refine ⟨h10_, ?_⟩
  refine ⟨h11_, ?_⟩
  refine ⟨h12_, ?_⟩
  refine ⟨h13_, ?_⟩
  refine ⟨h14_, ?_⟩
  refine ⟨h15_, ?_⟩
  refine ⟨h16_, ?_⟩
  refine ⟨h17_, ?_⟩
  refine ⟨h18_, ?_⟩
  refine ⟨?_, ?_⟩
  · skip
    intro h159_
    refine ⟨h19_, ?_⟩
    exact h20_
  refine ⟨h21_, ?_⟩
  refine ⟨h22_, ?_⟩
  refine ⟨h23_, ?_⟩
  refine ⟨h24_, ?_⟩
  refine ⟨h33_, ?_⟩
  refine ⟨(la_goBack_9 h4_), ?_⟩
  refine ⟨(la_goBack_33 h158_), ?_⟩
  refine ⟨(la_goBack_34 h158_), ?_⟩
  refine ⟨la_goBack_12, ?_⟩
  refine ⟨?_, ?_⟩
  · skip
    intro h160_
    exact (sm_LX_0 (la_goBack_35 h158_))
  refine ⟨?_, ?_⟩
  · skip
    intro h161_
    intro h162_
    refine ⟨(la_goBack_36 h162_), ?_⟩
    refine ⟨(la_goBack_37 h162_), ?_⟩
    refine ⟨(la_goBack_38 h162_), ?_⟩
    refine ⟨(la_goBack_39 h162_), ?_⟩
    refine ⟨(la_goBack_40 h162_), ?_⟩
    refine ⟨(la_goBack_38 h162_), ?_⟩
    refine ⟨(la_goBack_39 h162_), ?_⟩
    refine ⟨(la_goBack_40 h162_), ?_⟩
    refine ⟨(sm_TC_0 (la_goBack_41 h162_)), ?_⟩
    refine ⟨(sm_LK_q h45_ (la_goBack_40 h162_) (la_goBack_40 h162_)), ?_⟩
    refine ⟨(sm_VO_eq h46_ (la_goBack_40 h162_) (la_goBack_40 h162_)), ?_⟩
    refine ⟨(sm_FW_q h47_ (la_goBack_40 h162_)), ?_⟩
    refine ⟨(sm_FL_0 (la_goBack_42 h162_)), ?_⟩
    refine ⟨(la_goBack_40 h162_), ?_⟩
    exact (sm_SK_0 (la_goBack_43 h162_))
  refine ⟨(la_goBack_44 h4_ h158_), ?_⟩
  exact la_goBack_45
set_option maxRecDepth 8000 in
set_option maxHeartbeats 2000000 in
theorem t_goBack : ∀ (p1 : Int) (p2 : Int) (S : sv_S), sm_ok S → sv_R p1 → sv_R p2 → ((S 1075 0) = 0 ∧ (S 1073 0) = 1 ∧ sm_LX (S 58) (S 63) (S 64) (S 1092 0) (S 1076 0) ∧ sm_PL (S 1100020) (S 51) (S 52) (S 46) (S 47) (S 1076 0) (S 1086 0) ∧ sm_FR (S 1100020) (S 52) (S 1100021) (S 1100022) (3000 - (S 1084 0)) (S 1085 0) ∧ sm_PV (S 1100020) (S 48) (S 49) (S 50) (S 44) (S 1076 0) (S 1007 0) ∧ sm_AL (S 1100020) (S 48) (S 49) (S 50) (S 44) (S 1076 0) (S 1100032 0) ∧ sm_SV (S 1100020) (S 48) (S 1100029) (S 32) (S 33) (S 1076 0) (S 1032 0) ∧ 0 ≤ (S 1076 0) ∧ (S 1076 0) ≤ 300 ∧ 0 ≤ (S 1084 0) ∧ (S 1084 0) ≤ 3000 ∧ 0 ≤ (S 1086 0) ∧ sm_SC (S 1100029) (S 44) (S 45) (S 43) (S 21) (S 1076 0) (S 1032 0) ∧ sm_PO (S 42) (S 1076 0) ∧ (S 1100032 0) = -1 ∧ sm_FO (S 44) (S 45) (S 1076 0) ∧ 23 ≤ (S 1076 0) ∧ 31 ≤ (S 1007 0) ∧ (S 1007 0) ≤ 400 ∧ sm_LN (S 4) 400 (S 1007 0) ∧ sm_CT (S 26) (S 27) (S 28) (S 29) (S 1100007) (S 1100023) (S 1100024) (S 1100025) (S 21) (S 1046 0) (S 1032 0) (S 1008 0) (S 1055 0) ∧ sm_LS (S 26) (S 1100007) (S 1100025) (S 1046 0) ∧ sm_CL (S 1100007) (S 1100023) (S 1100025) (S 1046 0) ∧ 1 ≤ (S 1032 0) ∧ (S 1032 0) ≤ 11 ∧ 0 ≤ (S 1046 0) ∧ (S 1046 0) ≤ 600 ∧ 31 ≤ (S 1008 0) ∧ (S 1008 0) ≤ (S 1007 0) ∧ 0 ≤ (S 1055 0) ∧ (S 1055 0) ≤ 19 ∧ 1 ≤ (S 1092 0) ∧ (S 1092 0) ≤ 24 ∧ 0 ≤ (S 1100033 0) ∧ (S 1100033 0) < (S 1046 0) ∧ (S 29 (S 1100033 0)) = (S 53 ((S 1092 0) - 1)) ∧ 0 ≤ (S 53 ((S 1092 0) - 1)) ∧ (S 53 ((S 1092 0) - 1)) < (S 1032 0) ∧ (S 60 ((S 1092 0) - 1)) = sm_dp (S 1100024) (S 1100023 (S 1100033 0)) ∧ sm_TC (S 61) (S 62) (S 27) (S 1100007) (S 1100023) (S 1100024) (40 * ((S 1092 0) - 1)) (S 1100023 (S 1100033 0)) ∧ sm_LK (S 1100029) (S 1076 0) (S 54 ((S 1092 0) - 1)) (S 53 ((S 1092 0) - 1)) ∧ sm_VO (S 44) (S 1076 0) (S 1007 0) ((S 55 ((S 1092 0) - 1))) ((S 56 ((S 1092 0) - 1))) ∧ sm_FW (S 44) (S 1076 0) (S 59 ((S 1092 0) - 1)) ∧ sm_FL (S 53) (S 54) (S 55) (S 56) (S 57) (S 58) (S 59) (S 60) (S 61) (S 62) (S 63) (S 64) (S 27) (S 29) (S 1100007) (S 1100023) (S 1100024) (S 1100025) (S 26) (S 1100029) (S 44) (S 1046 0) (S 1032 0) (S 1076 0) (S 1007 0) (((S 1092 0) - 1)) ∧ (S 57 ((S 1092 0) - 1)) = (S 1100033 0) ∧ 0 ≤ (S 58 ((S 1092 0) - 1)) ∧ (S 58 ((S 1092 0) - 1)) ≤ 400 ∧ sm_SK (S 63) (S 64) (S 44) (S 1100007) (S 1100025) (S 1076 0) (S 1007 0) (400 * ((S 1092 0) - 1)) ((S 58 ((S 1092 0) - 1))) ((S 1100034 0)) ∧ -1 ≤ (S 1100034 0) ∧ (S 1100034 0) < (S 1046 0) ∧ (0 ≤ (S 1100034 0) → (S 26 (S 1100034 0)) = 29) ∧ (S 58 ((S 1092 0) - 1)) = (S 1100007 (S 1100033 0)) ∧ (S 1100034 0) = (S 1100025 (S 1100033 0)) ∧ (0 ≤ (S 1100023 (S 1100033 0)) → (S 1100007 (S 1100023 (S 1100033 0))) ≤ (S 58 ((S 1092 0) - 1))) ∧ (S 58 ((S 1092 0) - 1)) ≤ 396 ∧ sm_VO (S 44) (S 1076 0) (S 1007 0) (p1) (p2)) → sv_T sm_XS sm_cs sm_L sm_sh 2 (q_goBack p1 p2 S) 184 0 (lv_args 0 [.ref 0, sv_I p1, sv_I p2]) [] S := by
  intro p1 p2 S hok hp1 hp2 hpre
  have h := f_goBack p1 p2 S hok hp1 hp2 hpre
  have hM := sm_h184
  show sv_T sm_XS sm_cs sm_L sm_sh 2 (q_goBack p1 p2 S) 184 0 [(0, .ref 0), (1, sv_I p1), (2, sv_I p2)] [] S
  refine sv_aload_n hM dX12_goBack_0 rfl rfl ?_
  refine sv_getA hM dX12_goBack_1 sm_fl_188 (sm_a0 _) sm_k99 rfl ?_
  refine sv_aload_n hM dX12_goBack_4 rfl rfl ?_
  have k1 : sv_R (S 1092 0) := sm_okI hok sm_r1092 0
  have h := h k1
  refine sv_getI hM dX12_goBack_5 sm_fl_872 (sm_a0 _) sm_k92 rfl (x := (S 1092 0)) rfl ?_
  refine sv_iconst (d := (1 : Int)) hM dX12_goBack_8 rfl rfl ?_
  refine sv_isub hM dX12_goBack_9 rfl ?_
  obtain ⟨o2, h⟩ := h
  have k3 : sv_R (S 59 ((S 1092 0) - (1 : Int))) := sm_okI hok sm_r59 ((S 1092 0) - (1 : Int))
  have h := h k3
  refine sv_iald hM dX12_goBack_10 (sm_a59 _) (by decide) o2.1 o2.2 rfl (x := (S 59 ((S 1092 0) - (1 : Int)))) rfl ?_
  obtain ⟨x4, e5⟩ : ∃ x : Int, (S 59 ((S 1092 0) - (1 : Int))) = x := ⟨_, rfl⟩
  have h := h x4 e5
  have e5r : sv_R x4 := e5 ▸ k3
  refine sv_nameI e5 ?_
  refine sv_istore_n hM dX12_goBack_11 (by decide) rfl ?_
  show sv_T sm_XS sm_cs sm_L sm_sh 2 (q_goBack p1 p2 S) 184 12 [(0, .ref 0), (1, sv_I p1), (2, sv_I p2), (3, sv_I x4)] [] S
  have k6 : (sm_FW (S 44) (S 1076 0) x4 → x4 = -1 ∨ (0 ≤ x4 ∧ x4 < (S 1076 0) ∧ ¬ (S 44 x4) = 3)) := sm_FW_e
  have h := h k6
  refine sv_aload_n hM dX12_goBack_12 rfl rfl ?_
  refine sv_dupA hM dX12_goBack_13 rfl ?_
  refine sv_getI hM dX12_goBack_14 sm_fl_872 (sm_a0 _) sm_k92 rfl (x := (S 1092 0)) rfl ?_
  refine sv_iconst (d := (1 : Int)) hM dX12_goBack_17 rfl rfl ?_
  refine sv_isub hM dX12_goBack_18 rfl ?_
  obtain ⟨o7, h⟩ := h
  refine sv_putI sm_X hM dX12_goBack_19 sm_fp_872 (sm_a0 _) sm_q92 (Or.inl rfl) rfl rfl rfl rfl ?_
  have ok8 : sm_ok (sv_up S 1092 0 ((S 1092 0) - (1 : Int))) := sm_upI hok sm_r1092 o7
  have md9 : sv_mod [1092, 1073, 58, 63, 64] S (sv_up S 1092 0 ((S 1092 0) - (1 : Int))) := sv_mod.up sv_mod.rf (by decide)
  refine sv_aload_n hM dX12_goBack_22 rfl rfl ?_
  refine sv_getI hM dX12_goBack_23 sm_fl_872 (sm_a0 _) sm_k92 rfl (x := ((S 1092 0) - (1 : Int))) rfl ?_
  have k10 : (sm_FL (S 53) (S 54) (S 55) (S 56) (S 57) (S 58) (S 59) (S 60) (S 61) (S 62) (S 63) (S 64) (S 27) (S 29) (S 1100007) (S 1100023) (S 1100024) (S 1100025) (S 26) (S 1100029) (S 44) (S 1046 0) (S 1032 0) (S 1076 0) (S 1007 0) (((S 1092 0) - 1)) → 0 ≤ ((S 1092 0) - (1 : Int)) - 1 → ((S 1092 0) - (1 : Int)) - 1 < (S 1092 0) - 1 → (0 ≤ (S 53 (((S 1092 0) - (1 : Int)) - 1)) ∧ (S 53 (((S 1092 0) - (1 : Int)) - 1)) < (S 1032 0) ∧ 0 ≤ (S 57 (((S 1092 0) - (1 : Int)) - 1)) ∧ (S 57 (((S 1092 0) - (1 : Int)) - 1)) < (S 1046 0) ∧ (S 29 (S 57 (((S 1092 0) - (1 : Int)) - 1))) = (S 53 (((S 1092 0) - (1 : Int)) - 1)) ∧ (S 58 (((S 1092 0) - (1 : Int)) - 1)) = (S 1100007 (S 57 (((S 1092 0) - (1 : Int)) - 1))) - 1 ∧ 0 ≤ (S 58 (((S 1092 0) - (1 : Int)) - 1)) ∧ (S 58 (((S 1092 0) - (1 : Int)) - 1)) ≤ 396) ∧ ((S 60 (((S 1092 0) - (1 : Int)) - 1)) = sm_dp (S 1100024) (S 1100023 (S 57 (((S 1092 0) - (1 : Int)) - 1)))) ∧ sm_TC (S 61) (S 62) (S 27) (S 1100007) (S 1100023) (S 1100024) (40 * (((S 1092 0) - (1 : Int)) - 1)) (S 1100023 (S 57 (((S 1092 0) - (1 : Int)) - 1))) ∧ sm_SK (S 63) (S 64) (S 44) (S 1100007) (S 1100025) (S 1076 0) (S 1007 0) (400 * (((S 1092 0) - (1 : Int)) - 1)) ((S 58 (((S 1092 0) - (1 : Int)) - 1))) ((S 1100025 (S 57 (((S 1092 0) - (1 : Int)) - 1)))) ∧ (0 ≤ (S 1100025 (S 57 (((S 1092 0) - (1 : Int)) - 1))) → (S 26 (S 1100025 (S 57 (((S 1092 0) - (1 : Int)) - 1)))) = 29 ∧ (S 1100007 (S 1100025 (S 57 (((S 1092 0) - (1 : Int)) - 1)))) ≤ (S 58 (((S 1092 0) - (1 : Int)) - 1))) ∧ (0 ≤ (S 1100023 (S 57 (((S 1092 0) - (1 : Int)) - 1))) → (S 26 (S 1100023 (S 57 (((S 1092 0) - (1 : Int)) - 1)))) = 27 ∧ (S 1100007 (S 1100023 (S 57 (((S 1092 0) - (1 : Int)) - 1)))) ≤ (S 58 (((S 1092 0) - (1 : Int)) - 1))) ∧ sm_LK (S 1100029) (S 1076 0) (S 54 (((S 1092 0) - (1 : Int)) - 1)) (S 53 (((S 1092 0) - (1 : Int)) - 1)) ∧ sm_VO (S 44) (S 1076 0) (S 1007 0) ((S 55 (((S 1092 0) - (1 : Int)) - 1))) ((S 56 (((S 1092 0) - (1 : Int)) - 1))) ∧ sm_FW (S 44) (S 1076 0) (S 59 (((S 1092 0) - (1 : Int)) - 1))) := fun w a b => sm_FL_at w _ a b
  have h := h k10
  have k11 : (sm_CT (S 26) (S 27) (S 28) (S 29) (S 1100007) (S 1100023) (S 1100024) (S 1100025) (S 21) (S 1046 0) (S 1032 0) (S 1008 0) (S 1055 0) → 0 ≤ (S 57 (((S 1092 0) - (1 : Int)) - 1)) → (S 57 (((S 1092 0) - (1 : Int)) - 1)) < (S 1046 0) → (0 ≤ (S 1100025 (S 57 (((S 1092 0) - (1 : Int)) - 1))) → (S 26 (S 1100025 (S 57 (((S 1092 0) - (1 : Int)) - 1)))) = 29 ∧ (S 1100007 (S 1100025 (S 57 (((S 1092 0) - (1 : Int)) - 1)))) ≤ (S 1100007 (S 57 (((S 1092 0) - (1 : Int)) - 1)))) ∧ (0 ≤ (S 1100007 (S 57 (((S 1092 0) - (1 : Int)) - 1))) ∧ (S 1100007 (S 57 (((S 1092 0) - (1 : Int)) - 1))) ≤ 396 ∧ -1 ≤ (S 1100023 (S 57 (((S 1092 0) - (1 : Int)) - 1))) ∧ (S 1100023 (S 57 (((S 1092 0) - (1 : Int)) - 1))) < (S 57 (((S 1092 0) - (1 : Int)) - 1)) ∧ -1 ≤ (S 1100025 (S 57 (((S 1092 0) - (1 : Int)) - 1))) ∧ (S 1100025 (S 57 (((S 1092 0) - (1 : Int)) - 1))) < (S 57 (((S 1092 0) - (1 : Int)) - 1)) ∧ 0 ≤ (S 26 (S 57 (((S 1092 0) - (1 : Int)) - 1))) ∧ (S 26 (S 57 (((S 1092 0) - (1 : Int)) - 1))) ≤ 30)) := fun h a b => by have q := sm_ct_0 h _ a b; have w := sm_ct_3 h _ a b; exact ⟨fun z => ⟨(w z).1, (w z).2.2.1⟩, by omega⟩
  have h := h k11
  refine sv_cond_ne hM dX12_goBack_26 o7 (t := 35) rfl rfl (fun hc => ?_) (fun hc => ?_)
  · have h := h.1 (hc)
    refine sv_iload_n hM dX12_goBack_35 rfl rfl ?_
    refine sv_iconst (d := (-1 : Int)) hM dX12_goBack_36 rfl rfl ?_
    refine sv_icmp_eq hM dX12_goBack_37 e5r (⟨by decide, by decide⟩ : sv_R (-1 : Int)) (t := 56) rfl rfl (fun hc => ?_) (fun hc => ?_)
    · have h := h.1 (hc)
      refine sv_aload_n hM dX12_goBack_56 rfl rfl ?_
      refine sv_iload_n hM dX12_goBack_57 rfl rfl ?_
      refine sv_iload_n hM dX12_goBack_58 rfl rfl ?_
      obtain ⟨o12, h⟩ := h
      refine sv_callV hM dX12_goBack_59 sm_iv_885 (by decide) (sm_a0 _) rfl rfl (Nat.le_of_ble_eq_true rfl) sm_h152 (Nat.le_of_ble_eq_true rfl) (Nat.le_of_ble_eq_true rfl) (F' := 1) (Nat.le_of_ble_eq_true rfl) rfl (t_push p1 p2 (sv_up S 1092 0 ((S 1092 0) - (1 : Int))) ok8 hp1 hp2 o12) (fun v S1 hq => ?_)
      obtain ⟨rfl, ok14, md15, hpo16⟩ := hq
      obtain ⟨g13, rfl⟩ : ∃ g, S1 = sv_sts (sv_up S 1092 0 ((S 1092 0) - (1 : Int))) [63, 64, 58] g := ⟨_, md15.eq⟩
      show sv_T sm_XS sm_cs sm_L sm_sh 2 (q_goBack p1 p2 S) 184 62 [(0, .ref 0), (1, sv_I p1), (2, sv_I p2), (3, sv_I x4)] [] (sv_sts (sv_up S 1092 0 ((S 1092 0) - (1 : Int))) [63, 64, 58] g13)
      have md17 : sv_mod [1092, 1073, 58, 63, 64] S (sv_sts (sv_up S 1092 0 ((S 1092 0) - (1 : Int))) [63, 64, 58] g13) := sv_mod.sts md9 (by decide)
      have h := h g13 hpo16
      exact sv_vret hM dX12_goBack_62 rfl ⟨rfl, ok14, md17, h⟩
    · have h := h.2 (hc)
      refine sv_iload_n hM dX12_goBack_40 rfl rfl ?_
      refine sv_bipush (d := (7 : Int)) hM dX12_goBack_41 rfl rfl ?_
      refine sv_icmp_eq hM dX12_goBack_43 hp1 (⟨by decide, by decide⟩ : sv_R (7 : Int)) (t := 56) rfl rfl (fun hc => ?_) (fun hc => ?_)
      · have h := h.1 (hc)
        refine sv_aload_n hM dX12_goBack_56 rfl rfl ?_
        refine sv_iload_n hM dX12_goBack_57 rfl rfl ?_
        refine sv_iload_n hM dX12_goBack_58 rfl rfl ?_
        obtain ⟨o18, h⟩ := h
        refine sv_callV hM dX12_goBack_59 sm_iv_885 (by decide) (sm_a0 _) rfl rfl (Nat.le_of_ble_eq_true rfl) sm_h152 (Nat.le_of_ble_eq_true rfl) (Nat.le_of_ble_eq_true rfl) (F' := 1) (Nat.le_of_ble_eq_true rfl) rfl (t_push p1 p2 (sv_up S 1092 0 ((S 1092 0) - (1 : Int))) ok8 hp1 hp2 o18) (fun v S1 hq => ?_)
        obtain ⟨rfl, ok20, md21, hpo22⟩ := hq
        obtain ⟨g19, rfl⟩ : ∃ g, S1 = sv_sts (sv_up S 1092 0 ((S 1092 0) - (1 : Int))) [63, 64, 58] g := ⟨_, md21.eq⟩
        show sv_T sm_XS sm_cs sm_L sm_sh 2 (q_goBack p1 p2 S) 184 62 [(0, .ref 0), (1, sv_I p1), (2, sv_I p2), (3, sv_I x4)] [] (sv_sts (sv_up S 1092 0 ((S 1092 0) - (1 : Int))) [63, 64, 58] g19)
        have md23 : sv_mod [1092, 1073, 58, 63, 64] S (sv_sts (sv_up S 1092 0 ((S 1092 0) - (1 : Int))) [63, 64, 58] g19) := sv_mod.sts md9 (by decide)
        have h := h g19 hpo22
        exact sv_vret hM dX12_goBack_62 rfl ⟨rfl, ok20, md23, h⟩
      · have h := h.2 (hc)
        have k24 : (0 ≤ x4 → x4 < (S 1076 0) → ¬ (S 44 x4) = 3 → sm_VO (S 44) (S 1076 0) (S 1007 0) (7) (x4)) := fun a b e => sm_VO_7 a b e
        have h := h k24
        refine sv_aload_n hM dX12_goBack_46 rfl rfl ?_
        refine sv_bipush (d := (7 : Int)) hM dX12_goBack_47 rfl rfl ?_
        refine sv_iload_n hM dX12_goBack_49 rfl rfl ?_
        obtain ⟨o25, h⟩ := h
        refine sv_callV hM dX12_goBack_50 sm_iv_885 (by decide) (sm_a0 _) rfl rfl (Nat.le_of_ble_eq_true rfl) sm_h152 (Nat.le_of_ble_eq_true rfl) (Nat.le_of_ble_eq_true rfl) (F' := 1) (Nat.le_of_ble_eq_true rfl) rfl (t_push (7 : Int) x4 (sv_up S 1092 0 ((S 1092 0) - (1 : Int))) ok8 (⟨by decide, by decide⟩ : sv_R (7 : Int)) e5r o25) (fun v S1 hq => ?_)
        obtain ⟨rfl, ok27, md28, hpo29⟩ := hq
        obtain ⟨g26, rfl⟩ : ∃ g, S1 = sv_sts (sv_up S 1092 0 ((S 1092 0) - (1 : Int))) [63, 64, 58] g := ⟨_, md28.eq⟩
        show sv_T sm_XS sm_cs sm_L sm_sh 2 (q_goBack p1 p2 S) 184 53 [(0, .ref 0), (1, sv_I p1), (2, sv_I p2), (3, sv_I x4)] [] (sv_sts (sv_up S 1092 0 ((S 1092 0) - (1 : Int))) [63, 64, 58] g26)
        have md30 : sv_mod [1092, 1073, 58, 63, 64] S (sv_sts (sv_up S 1092 0 ((S 1092 0) - (1 : Int))) [63, 64, 58] g26) := sv_mod.sts md9 (by decide)
        have h := h g26 hpo29
        refine sv_goto hM dX12_goBack_53 (pc' := 62) rfl ?_
        exact sv_vret hM dX12_goBack_62 rfl ⟨rfl, ok27, md30, h⟩
  · have h := h.2 (hc)
    refine sv_aload_n hM dX12_goBack_29 rfl rfl ?_
    refine sv_iconst (d := (2 : Int)) hM dX12_goBack_30 rfl rfl ?_
    refine sv_putI sm_X hM dX12_goBack_31 sm_fp_773 (sm_a0 _) sm_q73 (Or.inl rfl) rfl rfl rfl rfl ?_
    have ok31 : sm_ok (sv_up (sv_up S 1092 0 ((S 1092 0) - (1 : Int))) 1073 0 (2 : Int)) := sm_upI ok8 sm_r1073 (⟨by decide, by decide⟩ : sv_R (2 : Int))
    have md32 : sv_mod [1092, 1073, 58, 63, 64] S (sv_up (sv_up S 1092 0 ((S 1092 0) - (1 : Int))) 1073 0 (2 : Int)) := sv_mod.up md9 (by decide)
    exact sv_vret hM dX12_goBack_34 rfl ⟨rfl, ok31, md32, h⟩
