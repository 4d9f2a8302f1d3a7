theorem dX12_cutOne_0 : decode cX12_cutOne 0 = .ok (.aload_n 0, 1) := by decide +kernel
theorem dX12_cutOne_1 : decode cX12_cutOne 1 = .ok (.aload_n 0, 1) := by decide +kernel
theorem dX12_cutOne_2 : decode cX12_cutOne 2 = .ok (.getfield 344, 3) := by decide +kernel
theorem dX12_cutOne_5 : decode cX12_cutOne 5 = .ok (.invokevirtual 334, 3) := by decide +kernel
theorem dX12_cutOne_8 : decode cX12_cutOne 8 = .ok (.istore_n 1, 1) := by decide +kernel
theorem dX12_cutOne_9 : decode cX12_cutOne 9 = .ok (.iload_n 1, 1) := by decide +kernel
theorem dX12_cutOne_10 : decode cX12_cutOne 10 = .ok (.invokestatic 338, 3) := by decide +kernel
theorem dX12_cutOne_13 : decode cX12_cutOne 13 = .ok (.ifCond .eq 10, 3) := by decide +kernel
theorem dX12_cutOne_16 : decode cX12_cutOne 16 = .ok (.aload_n 0, 1) := by decide +kernel
theorem dX12_cutOne_17 : decode cX12_cutOne 17 = .ok (.invokevirtual 360, 3) := by decide +kernel
theorem dX12_cutOne_20 : decode cX12_cutOne 20 = .ok (.goto 41, 3) := by decide +kernel
theorem dX12_cutOne_23 : decode cX12_cutOne 23 = .ok (.iload_n 1, 1) := by decide +kernel
theorem dX12_cutOne_24 : decode cX12_cutOne 24 = .ok (.invokestatic 341, 3) := by decide +kernel
theorem dX12_cutOne_27 : decode cX12_cutOne 27 = .ok (.ifCond .eq 10, 3) := by decide +kernel
theorem dX12_cutOne_30 : decode cX12_cutOne 30 = .ok (.aload_n 0, 1) := by decide +kernel
theorem dX12_cutOne_31 : decode cX12_cutOne 31 = .ok (.invokevirtual 363, 3) := by decide +kernel
theorem dX12_cutOne_34 : decode cX12_cutOne 34 = .ok (.goto 27, 3) := by decide +kernel
theorem dX12_cutOne_37 : decode cX12_cutOne 37 = .ok (.iload_n 1, 1) := by decide +kernel
theorem dX12_cutOne_38 : decode cX12_cutOne 38 = .ok (.bipush 34, 2) := by decide +kernel
theorem dX12_cutOne_40 : decode cX12_cutOne 40 = .ok (.if_icmp .eq 9, 3) := by decide +kernel
theorem dX12_cutOne_43 : decode cX12_cutOne 43 = .ok (.iload_n 1, 1) := by decide +kernel
theorem dX12_cutOne_44 : decode cX12_cutOne 44 = .ok (.bipush 39, 2) := by decide +kernel
theorem dX12_cutOne_46 : decode cX12_cutOne 46 = .ok (.if_icmp .ne 11, 3) := by decide +kernel
theorem dX12_cutOne_49 : decode cX12_cutOne 49 = .ok (.aload_n 0, 1) := by decide +kernel
theorem dX12_cutOne_50 : decode cX12_cutOne 50 = .ok (.iload_n 1, 1) := by decide +kernel
theorem dX12_cutOne_51 : decode cX12_cutOne 51 = .ok (.invokevirtual 366, 3) := by decide +kernel
theorem dX12_cutOne_54 : decode cX12_cutOne 54 = .ok (.goto 7, 3) := by decide +kernel
theorem dX12_cutOne_57 : decode cX12_cutOne 57 = .ok (.aload_n 0, 1) := by decide +kernel
theorem dX12_cutOne_58 : decode cX12_cutOne 58 = .ok (.invokevirtual 369, 3) := by decide +kernel
theorem dX12_cutOne_61 : decode cX12_cutOne 61 = .ok (.return_, 1) := by decide +kernel
theorem dX12_cut_0 : decode cX12_cut 0 = .ok (.aload_n 0, 1) := by decide +kernel
theorem dX12_cut_1 : decode cX12_cut 1 = .ok (.iconst 0, 1) := by decide +kernel
theorem dX12_cut_2 : decode cX12_cut 2 = .ok (.putfield 350, 3) := by decide +kernel
theorem dX12_cut_5 : decode cX12_cut 5 = .ok (.aload_n 0, 1) := by decide +kernel
theorem dX12_cut_6 : decode cX12_cut 6 = .ok (.iconst 0, 1) := by decide +kernel
theorem dX12_cut_7 : decode cX12_cut 7 = .ok (.putfield 344, 3) := by decide +kernel
theorem dX12_cut_10 : decode cX12_cut 10 = .ok (.aload_n 0, 1) := by decide +kernel
theorem dX12_cut_11 : decode cX12_cut 11 = .ok (.iconst 1, 1) := by decide +kernel
theorem dX12_cut_12 : decode cX12_cut 12 = .ok (.putfield 347, 3) := by decide +kernel
theorem dX12_cut_15 : decode cX12_cut 15 = .ok (.iconst 1, 1) := by decide +kernel
theorem dX12_cut_16 : decode cX12_cut 16 = .ok (.istore_n 1, 1) := by decide +kernel
theorem dX12_cut_17 : decode cX12_cut 17 = .ok (.iload_n 1, 1) := by decide +kernel
theorem dX12_cut_18 : decode cX12_cut 18 = .ok (.ifCond .eq 138, 3) := by decide +kernel
theorem dX12_cut_21 : decode cX12_cut 21 = .ok (.aload_n 0, 1) := by decide +kernel
theorem dX12_cut_22 : decode cX12_cut 22 = .ok (.invokevirtual 353, 3) := by decide +kernel
theorem dX12_cut_25 : decode cX12_cut 25 = .ok (.istore_n 2, 1) := by decide +kernel
theorem dX12_cut_26 : decode cX12_cut 26 = .ok (.aload_n 0, 1) := by decide +kernel
theorem dX12_cut_27 : decode cX12_cut 27 = .ok (.getfield 33, 3) := by decide +kernel
theorem dX12_cut_30 : decode cX12_cut 30 = .ok (.aload_n 0, 1) := by decide +kernel
theorem dX12_cut_31 : decode cX12_cut 31 = .ok (.getfield 350, 3) := by decide +kernel
theorem dX12_cut_34 : decode cX12_cut 34 = .ok (.aload_n 0, 1) := by decide +kernel
theorem dX12_cut_35 : decode cX12_cut 35 = .ok (.getfield 344, 3) := by decide +kernel
theorem dX12_cut_38 : decode cX12_cut 38 = .ok (.iastore, 1) := by decide +kernel
theorem dX12_cut_39 : decode cX12_cut 39 = .ok (.aload_n 0, 1) := by decide +kernel
theorem dX12_cut_40 : decode cX12_cut 40 = .ok (.getfield 39, 3) := by decide +kernel
theorem dX12_cut_43 : decode cX12_cut 43 = .ok (.aload_n 0, 1) := by decide +kernel
theorem dX12_cut_44 : decode cX12_cut 44 = .ok (.getfield 350, 3) := by decide +kernel
theorem dX12_cut_47 : decode cX12_cut 47 = .ok (.aload_n 0, 1) := by decide +kernel
theorem dX12_cut_48 : decode cX12_cut 48 = .ok (.getfield 347, 3) := by decide +kernel
theorem dX12_cut_51 : decode cX12_cut 51 = .ok (.iastore, 1) := by decide +kernel
theorem dX12_cut_52 : decode cX12_cut 52 = .ok (.iload_n 2, 1) := by decide +kernel
theorem dX12_cut_53 : decode cX12_cut 53 = .ok (.ifCond .ne 17, 3) := by decide +kernel
theorem dX12_cut_56 : decode cX12_cut 56 = .ok (.aload_n 0, 1) := by decide +kernel
theorem dX12_cut_57 : decode cX12_cut 57 = .ok (.getfield 27, 3) := by decide +kernel
theorem dX12_cut_60 : decode cX12_cut 60 = .ok (.aload_n 0, 1) := by decide +kernel
theorem dX12_cut_61 : decode cX12_cut 61 = .ok (.getfield 350, 3) := by decide +kernel
theorem dX12_cut_64 : decode cX12_cut 64 = .ok (.bipush 6, 2) := by decide +kernel
theorem dX12_cut_66 : decode cX12_cut 66 = .ok (.iastore, 1) := by decide +kernel
theorem dX12_cut_67 : decode cX12_cut 67 = .ok (.goto 31, 3) := by decide +kernel
theorem dX12_cut_70 : decode cX12_cut 70 = .ok (.aload_n 0, 1) := by decide +kernel
theorem dX12_cut_71 : decode cX12_cut 71 = .ok (.aload_n 0, 1) := by decide +kernel
theorem dX12_cut_72 : decode cX12_cut 72 = .ok (.getfield 344, 3) := by decide +kernel
theorem dX12_cut_75 : decode cX12_cut 75 = .ok (.invokevirtual 331, 3) := by decide +kernel
theorem dX12_cut_78 : decode cX12_cut 78 = .ok (.ifCond .ne 16, 3) := by decide +kernel
theorem dX12_cut_81 : decode cX12_cut 81 = .ok (.aload_n 0, 1) := by decide +kernel
theorem dX12_cut_82 : decode cX12_cut 82 = .ok (.getfield 27, 3) := by decide +kernel
theorem dX12_cut_85 : decode cX12_cut 85 = .ok (.aload_n 0, 1) := by decide +kernel
theorem dX12_cut_86 : decode cX12_cut 86 = .ok (.getfield 350, 3) := by decide +kernel
theorem dX12_cut_89 : decode cX12_cut 89 = .ok (.iconst 0, 1) := by decide +kernel
theorem dX12_cut_90 : decode cX12_cut 90 = .ok (.iastore, 1) := by decide +kernel
theorem dX12_cut_91 : decode cX12_cut 91 = .ok (.goto 7, 3) := by decide +kernel
theorem dX12_cut_94 : decode cX12_cut 94 = .ok (.aload_n 0, 1) := by decide +kernel
theorem dX12_cut_95 : decode cX12_cut 95 = .ok (.invokevirtual 357, 3) := by decide +kernel
theorem dX12_cut_98 : decode cX12_cut 98 = .ok (.aload_n 0, 1) := by decide +kernel
theorem dX12_cut_99 : decode cX12_cut 99 = .ok (.getfield 36, 3) := by decide +kernel
theorem dX12_cut_102 : decode cX12_cut 102 = .ok (.aload_n 0, 1) := by decide +kernel
theorem dX12_cut_103 : decode cX12_cut 103 = .ok (.getfield 350, 3) := by decide +kernel
theorem dX12_cut_106 : decode cX12_cut 106 = .ok (.aload_n 0, 1) := by decide +kernel
theorem dX12_cut_107 : decode cX12_cut 107 = .ok (.getfield 344, 3) := by decide +kernel
theorem dX12_cut_110 : decode cX12_cut 110 = .ok (.iastore, 1) := by decide +kernel
theorem dX12_cut_111 : decode cX12_cut 111 = .ok (.aload_n 0, 1) := by decide +kernel
theorem dX12_cut_112 : decode cX12_cut 112 = .ok (.getfield 27, 3) := by decide +kernel
theorem dX12_cut_115 : decode cX12_cut 115 = .ok (.aload_n 0, 1) := by decide +kernel
theorem dX12_cut_116 : decode cX12_cut 116 = .ok (.getfield 350, 3) := by decide +kernel
theorem dX12_cut_119 : decode cX12_cut 119 = .ok (.iaload, 1) := by decide +kernel
theorem dX12_cut_120 : decode cX12_cut 120 = .ok (.bipush 6, 2) := by decide +kernel
theorem dX12_cut_122 : decode cX12_cut 122 = .ok (.if_icmp .eq 19, 3) := by decide +kernel
theorem dX12_cut_125 : decode cX12_cut 125 = .ok (.aload_n 0, 1) := by decide +kernel
theorem dX12_cut_126 : decode cX12_cut 126 = .ok (.getfield 27, 3) := by decide +kernel
theorem dX12_cut_129 : decode cX12_cut 129 = .ok (.aload_n 0, 1) := by decide +kernel
theorem dX12_cut_130 : decode cX12_cut 130 = .ok (.getfield 350, 3) := by decide +kernel
theorem dX12_cut_133 : decode cX12_cut 133 = .ok (.iaload, 1) := by decide +kernel
theorem dX12_cut_134 : decode cX12_cut 134 = .ok (.ifCond .eq 7, 3) := by decide +kernel
theorem dX12_cut_137 : decode cX12_cut 137 = .ok (.iconst 1, 1) := by decide +kernel
theorem dX12_cut_138 : decode cX12_cut 138 = .ok (.goto 4, 3) := by decide +kernel
theorem dX12_cut_141 : decode cX12_cut 141 = .ok (.iconst 0, 1) := by decide +kernel
theorem dX12_cut_142 : decode cX12_cut 142 = .ok (.istore_n 1, 1) := by decide +kernel
theorem dX12_cut_143 : decode cX12_cut 143 = .ok (.aload_n 0, 1) := by decide +kernel
theorem dX12_cut_144 : decode cX12_cut 144 = .ok (.dup, 1) := by decide +kernel
theorem dX12_cut_145 : decode cX12_cut 145 = .ok (.getfield 350, 3) := by decide +kernel
theorem dX12_cut_148 : decode cX12_cut 148 = .ok (.iconst 1, 1) := by decide +kernel
theorem dX12_cut_149 : decode cX12_cut 149 = .ok (.iadd, 1) := by decide +kernel
theorem dX12_cut_150 : decode cX12_cut 150 = .ok (.putfield 350, 3) := by decide +kernel
theorem dX12_cut_153 : decode cX12_cut 153 = .ok (.goto (-136), 3) := by decide +kernel
theorem dX12_cut_156 : decode cX12_cut 156 = .ok (.return_, 1) := by decide +kernel

def q_cutOne (S : sv_S) : Option Value → sv_S → Prop := fun v S' => v = none ∧ sm_ok S' ∧ sv_mod [1018, 7, 6] S S' ∧ ((S 1018 0) ≤ (S' 1018 0) ∧ (S' 1018 0) ≤ (S' 1004 0) + 3 ∧ ((S' 6 (S' 1012 0)) = 6 ∨ (1 ≤ (S' 6 (S' 1012 0)) ∧ (S' 6 (S' 1012 0)) ≤ 5 ∧ (S 1018 0) < (S' 1018 0) ∧ (S' 1018 0) ≤ (S' 1004 0) ∧ ((S' 6 (S' 1012 0)) ≤ 2 → (S' 1018 0) - (S 1018 0) ≤ 16) ∧ ((S' 6 (S' 1012 0)) = 4 → (S' 1018 0) - (S 1018 0) ≤ 82))) ∧ (∀ k : Int, k ≠ (S' 1012 0) → (S' 6 k) = (S 6 k)))
set_option maxHeartbeats 2000000 in
theorem f_cutOne : ∀ (S : sv_S), sm_ok S → (0 ≤ (S 1004 0) ∧ (S 1004 0) ≤ 4000 ∧ 0 ≤ (S 1018 0) ∧ (S 1018 0) ≤ (S 1004 0) ∧ 0 ≤ (S 1012 0) ∧ (S 1012 0) ≤ 4001 ∧ (S 1018 0) < (S 1004 0)) → (sv_R (S 1018 0) → (0 ≤ (S 1004 0) ∧ (S 1004 0) ≤ 4000 ∧ 0 ≤ (S 1018 0)) ∧ (∀ x3 : Int, ((if (S 1018 0) < (S 1004 0) then (S 2 (S 1018 0)) % 256 else 0)) = x3 → (sv_R x3) ∧ (((¬ ((x3 ≥ 97 ∧ x3 ≤ 122 ∨ x3 ≥ 65 ∧ x3 ≤ 90 ∨ x3 = 95 ∨ x3 = 36))) → (((¬ ((x3 ≥ 48 ∧ x3 ≤ 57))) → (((x3 = (34 : Int)) → (0 ≤ (S 1004 0) ∧ (S 1004 0) ≤ 4000 ∧ 0 ≤ (S 1018 0) ∧ (S 1018 0) ≤ (S 1004 0) ∧ 0 ≤ (S 1012 0) ∧ (S 1012 0) ≤ 4001 ∧ (S 1018 0) < (S 1004 0)) ∧ (∀ g7 : sv_S, ((S 1018 0) < (g7 1018 0) ∧ (g7 1018 0) ≤ (S 1004 0) + 3 ∧ ((g7 6 (S 1012 0)) = 6 ∨ ((g7 6 (S 1012 0)) = 4 ∧ (g7 1018 0) ≤ (S 1004 0) ∧ (g7 1018 0) - (S 1018 0) ≤ 82)) ∧ (∀ k : Int, k ≠ (S 1012 0) → (g7 6 k) = (S 6 k))) → ((S 1018 0) ≤ (g7 1018 0) ∧ (g7 1018 0) ≤ (S 1004 0) + 3 ∧ ((g7 6 (S 1012 0)) = 6 ∨ (1 ≤ (g7 6 (S 1012 0)) ∧ (g7 6 (S 1012 0)) ≤ 5 ∧ (S 1018 0) < (g7 1018 0) ∧ (g7 1018 0) ≤ (S 1004 0) ∧ ((g7 6 (S 1012 0)) ≤ 2 → (g7 1018 0) - (S 1018 0) ≤ 16) ∧ ((g7 6 (S 1012 0)) = 4 → (g7 1018 0) - (S 1018 0) ≤ 82))) ∧ (∀ k : Int, k ≠ (S 1012 0) → (g7 6 k) = (S 6 k))))) ∧ ((¬ (x3 = (34 : Int))) → (((¬ x3 = (39 : Int)) → (0 ≤ (S 1004 0) ∧ (S 1004 0) ≤ 4000 ∧ 0 ≤ (S 1018 0) ∧ (S 1018 0) ≤ (S 1004 0) ∧ 0 ≤ (S 1012 0) ∧ (S 1012 0) ≤ 4001 ∧ (S 1018 0) < (S 1004 0)) ∧ (∀ g13 : sv_S, ((S 1018 0) ≤ (g13 1018 0) ∧ (g13 1018 0) ≤ (S 1004 0) ∧ ((g13 6 (S 1012 0)) = 6 ∨ ((g13 6 (S 1012 0)) = 5 ∧ (S 1018 0) < (g13 1018 0))) ∧ (∀ k : Int, k ≠ (S 1012 0) → (g13 6 k) = (S 6 k))) → ((S 1018 0) ≤ (g13 1018 0) ∧ (g13 1018 0) ≤ (S 1004 0) + 3 ∧ ((g13 6 (S 1012 0)) = 6 ∨ (1 ≤ (g13 6 (S 1012 0)) ∧ (g13 6 (S 1012 0)) ≤ 5 ∧ (S 1018 0) < (g13 1018 0) ∧ (g13 1018 0) ≤ (S 1004 0) ∧ ((g13 6 (S 1012 0)) ≤ 2 → (g13 1018 0) - (S 1018 0) ≤ 16) ∧ ((g13 6 (S 1012 0)) = 4 → (g13 1018 0) - (S 1018 0) ≤ 82))) ∧ (∀ k : Int, k ≠ (S 1012 0) → (g13 6 k) = (S 6 k))))) ∧ ((¬ (¬ x3 = (39 : Int))) → (0 ≤ (S 1004 0) ∧ (S 1004 0) ≤ 4000 ∧ 0 ≤ (S 1018 0) ∧ (S 1018 0) ≤ (S 1004 0) ∧ 0 ≤ (S 1012 0) ∧ (S 1012 0) ≤ 4001 ∧ (S 1018 0) < (S 1004 0)) ∧ (∀ g19 : sv_S, ((S 1018 0) < (g19 1018 0) ∧ (g19 1018 0) ≤ (S 1004 0) + 3 ∧ ((g19 6 (S 1012 0)) = 6 ∨ ((g19 6 (S 1012 0)) = 4 ∧ (g19 1018 0) ≤ (S 1004 0) ∧ (g19 1018 0) - (S 1018 0) ≤ 82)) ∧ (∀ k : Int, k ≠ (S 1012 0) → (g19 6 k) = (S 6 k))) → ((S 1018 0) ≤ (g19 1018 0) ∧ (g19 1018 0) ≤ (S 1004 0) + 3 ∧ ((g19 6 (S 1012 0)) = 6 ∨ (1 ≤ (g19 6 (S 1012 0)) ∧ (g19 6 (S 1012 0)) ≤ 5 ∧ (S 1018 0) < (g19 1018 0) ∧ (g19 1018 0) ≤ (S 1004 0) ∧ ((g19 6 (S 1012 0)) ≤ 2 → (g19 1018 0) - (S 1018 0) ≤ 16) ∧ ((g19 6 (S 1012 0)) = 4 → (g19 1018 0) - (S 1018 0) ≤ 82))) ∧ (∀ k : Int, k ≠ (S 1012 0) → (g19 6 k) = (S 6 k))))))))) ∧ (((x3 ≥ 48 ∧ x3 ≤ 57)) → (0 ≤ (S 1004 0) ∧ (S 1004 0) ≤ 4000 ∧ 0 ≤ (S 1018 0) ∧ (S 1018 0) ≤ (S 1004 0) ∧ 0 ≤ (S 1012 0) ∧ (S 1012 0) ≤ 4001 ∧ (S 1018 0) < (S 1004 0) ∧ ((if (S 1018 0) < (S 1004 0) then (S 2 (S 1018 0)) % 256 else 0) ≥ 48 ∧ (if (S 1018 0) < (S 1004 0) then (S 2 (S 1018 0)) % 256 else 0) ≤ 57)) ∧ (∀ g25 : sv_S, ((S 1018 0) < (g25 1018 0) ∧ (g25 1018 0) ≤ (S 1004 0) ∧ ((g25 6 (S 1012 0)) = 6 ∨ (g25 6 (S 1012 0)) = 3) ∧ (∀ k : Int, k ≠ (S 1012 0) → (g25 6 k) = (S 6 k))) → ((S 1018 0) ≤ (g25 1018 0) ∧ (g25 1018 0) ≤ (S 1004 0) + 3 ∧ ((g25 6 (S 1012 0)) = 6 ∨ (1 ≤ (g25 6 (S 1012 0)) ∧ (g25 6 (S 1012 0)) ≤ 5 ∧ (S 1018 0) < (g25 1018 0) ∧ (g25 1018 0) ≤ (S 1004 0) ∧ ((g25 6 (S 1012 0)) ≤ 2 → (g25 1018 0) - (S 1018 0) ≤ 16) ∧ ((g25 6 (S 1012 0)) = 4 → (g25 1018 0) - (S 1018 0) ≤ 82))) ∧ (∀ k : Int, k ≠ (S 1012 0) → (g25 6 k) = (S 6 k))))))) ∧ (((x3 ≥ 97 ∧ x3 ≤ 122 ∨ x3 ≥ 65 ∧ x3 ≤ 90 ∨ x3 = 95 ∨ x3 = 36)) → (0 ≤ (S 1004 0) ∧ (S 1004 0) ≤ 4000 ∧ 0 ≤ (S 1018 0) ∧ (S 1018 0) ≤ (S 1004 0) ∧ 0 ≤ (S 1012 0) ∧ (S 1012 0) ≤ 4001 ∧ (S 1018 0) < (S 1004 0) ∧ ((if (S 1018 0) < (S 1004 0) then (S 2 (S 1018 0)) % 256 else 0) ≥ 97 ∧ (if (S 1018 0) < (S 1004 0) then (S 2 (S 1018 0)) % 256 else 0) ≤ 122 ∨ (if (S 1018 0) < (S 1004 0) then (S 2 (S 1018 0)) % 256 else 0) ≥ 65 ∧ (if (S 1018 0) < (S 1004 0) then (S 2 (S 1018 0)) % 256 else 0) ≤ 90 ∨ (if (S 1018 0) < (S 1004 0) then (S 2 (S 1018 0)) % 256 else 0) = 95 ∨ (if (S 1018 0) < (S 1004 0) then (S 2 (S 1018 0)) % 256 else 0) = 36)) ∧ (∀ g31 : sv_S, ((S 1018 0) < (g31 1018 0) ∧ (g31 1018 0) ≤ (S 1004 0) ∧ ((g31 6 (S 1012 0)) = 6 ∨ (((g31 6 (S 1012 0)) = 1 ∨ (g31 6 (S 1012 0)) = 2) ∧ (g31 1018 0) - (S 1018 0) ≤ 16)) ∧ (∀ k : Int, k ≠ (S 1012 0) → (g31 6 k) = (S 6 k))) → ((S 1018 0) ≤ (g31 1018 0) ∧ (g31 1018 0) ≤ (S 1004 0) + 3 ∧ ((g31 6 (S 1012 0)) = 6 ∨ (1 ≤ (g31 6 (S 1012 0)) ∧ (g31 6 (S 1012 0)) ≤ 5 ∧ (S 1018 0) < (g31 1018 0) ∧ (g31 1018 0) ≤ (S 1004 0) ∧ ((g31 6 (S 1012 0)) ≤ 2 → (g31 1018 0) - (S 1018 0) ≤ 16) ∧ ((g31 6 (S 1012 0)) = 4 → (g31 1018 0) - (S 1018 0) ≤ 82))) ∧ (∀ k : Int, k ≠ (S 1012 0) → (g31 6 k) = (S 6 k)))))))) := by
  intro S hok hpre
  repeat' (first | (refine And.intro ?_ ?_) | (intro _))
  all_goals first | assumption | omega | grind
set_option maxRecDepth 8000 in
set_option maxHeartbeats 2000000 in
theorem t_cutOne : ∀ (S : sv_S), sm_ok S → (0 ≤ (S 1004 0) ∧ (S 1004 0) ≤ 4000 ∧ 0 ≤ (S 1018 0) ∧ (S 1018 0) ≤ (S 1004 0) ∧ 0 ≤ (S 1012 0) ∧ (S 1012 0) ≤ 4001 ∧ (S 1018 0) < (S 1004 0)) → sv_T sm_XS sm_cs sm_L sm_sh 6 (q_cutOne S) 17 0 (lv_args 0 [.ref 0]) [] S := by
  intro S hok hpre
  have h := f_cutOne S hok hpre
  have hM := sm_h17
  show sv_T sm_XS sm_cs sm_L sm_sh 6 (q_cutOne S) 17 0 [(0, .ref 0)] [] S
  refine sv_aload_n hM dX12_cutOne_0 rfl rfl ?_
  refine sv_aload_n hM dX12_cutOne_1 rfl rfl ?_
  have k1 : sv_R (S 1018 0) := sm_okI hok sm_r1018 0
  have h := h k1
  refine sv_getI hM dX12_cutOne_2 sm_fl_344 (sm_a0 _) sm_k18 rfl (x := (S 1018 0)) rfl ?_
  obtain ⟨o2, h⟩ := h
  refine sv_callV hM dX12_cutOne_5 sm_iv_334 (by decide) (sm_a0 _) rfl rfl (Nat.le_of_ble_eq_true rfl) sm_h10 (Nat.le_of_ble_eq_true rfl) (Nat.le_of_ble_eq_true rfl) (F' := 0) (Nat.le_of_ble_eq_true rfl) rfl (t_look (S 1018 0) S hok k1 o2) (fun v S1 hq => ?_)
  obtain ⟨rfl, hS1⟩ := hq
  obtain rfl : S = S1 := hS1.symm
  show sv_T sm_XS sm_cs sm_L sm_sh 6 (q_cutOne S) 17 8 [(0, .ref 0)] [sv_I ((if (S 1018 0) < (S 1004 0) then (S 2 (S 1018 0)) % 256 else 0))] S
  obtain ⟨x3, e4⟩ : ∃ x : Int, ((if (S 1018 0) < (S 1004 0) then (S 2 (S 1018 0)) % 256 else 0)) = x := ⟨_, rfl⟩
  have h := h x3 e4
  refine sv_nameI e4 ?_
  refine sv_istore_n hM dX12_cutOne_8 (by decide) rfl ?_
  show sv_T sm_XS sm_cs sm_L sm_sh 6 (q_cutOne S) 17 9 [(0, .ref 0), (1, sv_I x3)] [] S
  refine sv_iload_n hM dX12_cutOne_9 rfl rfl ?_
  obtain ⟨o5, h⟩ := h
  refine sv_callS hM dX12_cutOne_10 sm_iv_338 (Nat.le_of_ble_eq_true rfl) rfl rfl (Nat.le_of_ble_eq_true rfl) sm_h12 (Nat.le_of_ble_eq_true rfl) (Nat.le_of_ble_eq_true rfl) (F' := 0) (Nat.le_of_ble_eq_true rfl) rfl (t_isLetter x3 S hok o5) (fun v S1 hq => ?_)
  obtain ⟨rfl, hS1⟩ := hq
  obtain rfl : S = S1 := hS1.symm
  show sv_T sm_XS sm_cs sm_L sm_sh 6 (q_cutOne S) 17 13 [(0, .ref 0), (1, sv_I x3)] [sv_I (if (x3 ≥ 97 ∧ x3 ≤ 122 ∨ x3 ≥ 65 ∧ x3 ≤ 90 ∨ x3 = 95 ∨ x3 = 36) then 1 else 0)] S
  refine sv_cond_eq hM dX12_cutOne_13 (sv_Rite : sv_R (if (x3 ≥ 97 ∧ x3 ≤ 122 ∨ x3 ≥ 65 ∧ x3 ≤ 90 ∨ x3 = 95 ∨ x3 = 36) then 1 else 0)) (t := 23) rfl rfl (fun hc => ?_) (fun hc => ?_)
  · have h := h.1 (sv_iten hc)
    refine sv_iload_n hM dX12_cutOne_23 rfl rfl ?_
    refine sv_callS hM dX12_cutOne_24 sm_iv_341 (Nat.le_of_ble_eq_true rfl) rfl rfl (Nat.le_of_ble_eq_true rfl) sm_h13 (Nat.le_of_ble_eq_true rfl) (Nat.le_of_ble_eq_true rfl) (F' := 0) (Nat.le_of_ble_eq_true rfl) rfl (t_isDigit x3 S hok o5) (fun v S1 hq => ?_)
    obtain ⟨rfl, hS1⟩ := hq
    obtain rfl : S = S1 := hS1.symm
    show sv_T sm_XS sm_cs sm_L sm_sh 6 (q_cutOne S) 17 27 [(0, .ref 0), (1, sv_I x3)] [sv_I (if (x3 ≥ 48 ∧ x3 ≤ 57) then 1 else 0)] S
    refine sv_cond_eq hM dX12_cutOne_27 (sv_Rite : sv_R (if (x3 ≥ 48 ∧ x3 ≤ 57) then 1 else 0)) (t := 37) rfl rfl (fun hc => ?_) (fun hc => ?_)
    · have h := h.1 (sv_iten hc)
      refine sv_iload_n hM dX12_cutOne_37 rfl rfl ?_
      refine sv_bipush (d := (34 : Int)) hM dX12_cutOne_38 rfl rfl ?_
      refine sv_icmp_eq hM dX12_cutOne_40 o5 (⟨by decide, by decide⟩ : sv_R (34 : Int)) (t := 49) rfl rfl (fun hc => ?_) (fun hc => ?_)
      · have h := h.1 (hc)
        refine sv_aload_n hM dX12_cutOne_49 rfl rfl ?_
        refine sv_iload_n hM dX12_cutOne_50 rfl rfl ?_
        obtain ⟨o6, h⟩ := h
        refine sv_callV hM dX12_cutOne_51 sm_iv_366 (by decide) (sm_a0 _) rfl rfl (Nat.le_of_ble_eq_true rfl) sm_h21 (Nat.le_of_ble_eq_true rfl) (Nat.le_of_ble_eq_true rfl) (F' := 1) (Nat.le_of_ble_eq_true rfl) rfl (t_cutString x3 S hok o5 o6) (fun v S1 hq => ?_)
        obtain ⟨rfl, ok8, md9, hp10⟩ := hq
        obtain ⟨g7, rfl⟩ : ∃ g, S1 = sv_sts S [1018, 6] g := ⟨_, md9.eq⟩
        show sv_T sm_XS sm_cs sm_L sm_sh 6 (q_cutOne S) 17 54 [(0, .ref 0), (1, sv_I x3)] [] (sv_sts S [1018, 6] g7)
        have md11 : sv_mod [1018, 7, 6] S (sv_sts S [1018, 6] g7) := sv_mod.sts sv_mod.rf (by decide)
        have h := h g7 hp10
        refine sv_goto hM dX12_cutOne_54 (pc' := 61) rfl ?_
        exact sv_vret hM dX12_cutOne_61 rfl ⟨rfl, ok8, md11, h⟩
      · have h := h.2 (hc)
        refine sv_iload_n hM dX12_cutOne_43 rfl rfl ?_
        refine sv_bipush (d := (39 : Int)) hM dX12_cutOne_44 rfl rfl ?_
        refine sv_icmp_ne hM dX12_cutOne_46 o5 (⟨by decide, by decide⟩ : sv_R (39 : Int)) (t := 57) rfl rfl (fun hc => ?_) (fun hc => ?_)
        · have h := h.1 (hc)
          refine sv_aload_n hM dX12_cutOne_57 rfl rfl ?_
          obtain ⟨o12, h⟩ := h
          refine sv_callV hM dX12_cutOne_58 sm_iv_369 (by decide) (sm_a0 _) rfl rfl (Nat.le_of_ble_eq_true rfl) sm_h22 (Nat.le_of_ble_eq_true rfl) (Nat.le_of_ble_eq_true rfl) (F' := 4) (Nat.le_of_ble_eq_true rfl) rfl (t_cutSign  S hok o12) (fun v S1 hq => ?_)
          obtain ⟨rfl, ok14, md15, hp16⟩ := hq
          obtain ⟨g13, rfl⟩ : ∃ g, S1 = sv_sts S [1018, 7, 6] g := ⟨_, md15.eq⟩
          show sv_T sm_XS sm_cs sm_L sm_sh 6 (q_cutOne S) 17 61 [(0, .ref 0), (1, sv_I x3)] [] (sv_sts S [1018, 7, 6] g13)
          have md17 : sv_mod [1018, 7, 6] S (sv_sts S [1018, 7, 6] g13) := sv_mod.sts sv_mod.rf (by decide)
          have h := h g13 hp16
          exact sv_vret hM dX12_cutOne_61 rfl ⟨rfl, ok14, md17, h⟩
        · have h := h.2 (hc)
          refine sv_aload_n hM dX12_cutOne_49 rfl rfl ?_
          refine sv_iload_n hM dX12_cutOne_50 rfl rfl ?_
          obtain ⟨o18, h⟩ := h
          refine sv_callV hM dX12_cutOne_51 sm_iv_366 (by decide) (sm_a0 _) rfl rfl (Nat.le_of_ble_eq_true rfl) sm_h21 (Nat.le_of_ble_eq_true rfl) (Nat.le_of_ble_eq_true rfl) (F' := 1) (Nat.le_of_ble_eq_true rfl) rfl (t_cutString x3 S hok o5 o18) (fun v S1 hq => ?_)
          obtain ⟨rfl, ok20, md21, hp22⟩ := hq
          obtain ⟨g19, rfl⟩ : ∃ g, S1 = sv_sts S [1018, 6] g := ⟨_, md21.eq⟩
          show sv_T sm_XS sm_cs sm_L sm_sh 6 (q_cutOne S) 17 54 [(0, .ref 0), (1, sv_I x3)] [] (sv_sts S [1018, 6] g19)
          have md23 : sv_mod [1018, 7, 6] S (sv_sts S [1018, 6] g19) := sv_mod.sts sv_mod.rf (by decide)
          have h := h g19 hp22
          refine sv_goto hM dX12_cutOne_54 (pc' := 61) rfl ?_
          exact sv_vret hM dX12_cutOne_61 rfl ⟨rfl, ok20, md23, h⟩
    · have h := h.2 (sv_itep hc)
      refine sv_aload_n hM dX12_cutOne_30 rfl rfl ?_
      obtain ⟨o24, h⟩ := h
      refine sv_callV hM dX12_cutOne_31 sm_iv_363 (by decide) (sm_a0 _) rfl rfl (Nat.le_of_ble_eq_true rfl) sm_h20 (Nat.le_of_ble_eq_true rfl) (Nat.le_of_ble_eq_true rfl) (F' := 2) (Nat.le_of_ble_eq_true rfl) rfl (t_cutNumber  S hok o24) (fun v S1 hq => ?_)
      obtain ⟨rfl, ok26, md27, hp28⟩ := hq
      obtain ⟨g25, rfl⟩ : ∃ g, S1 = sv_sts S [1018, 7, 6] g := ⟨_, md27.eq⟩
      show sv_T sm_XS sm_cs sm_L sm_sh 6 (q_cutOne S) 17 34 [(0, .ref 0), (1, sv_I x3)] [] (sv_sts S [1018, 7, 6] g25)
      have md29 : sv_mod [1018, 7, 6] S (sv_sts S [1018, 7, 6] g25) := sv_mod.sts sv_mod.rf (by decide)
      have h := h g25 hp28
      refine sv_goto hM dX12_cutOne_34 (pc' := 61) rfl ?_
      exact sv_vret hM dX12_cutOne_61 rfl ⟨rfl, ok26, md29, h⟩
  · have h := h.2 (sv_itep hc)
    refine sv_aload_n hM dX12_cutOne_16 rfl rfl ?_
    obtain ⟨o30, h⟩ := h
    refine sv_callV hM dX12_cutOne_17 sm_iv_360 (by decide) (sm_a0 _) rfl rfl (Nat.le_of_ble_eq_true rfl) sm_h18 (Nat.le_of_ble_eq_true rfl) (Nat.le_of_ble_eq_true rfl) (F' := 5) (Nat.le_of_ble_eq_true rfl) rfl (t_cutName  S hok o30) (fun v S1 hq => ?_)
    obtain ⟨rfl, ok32, md33, hp34⟩ := hq
    obtain ⟨g31, rfl⟩ : ∃ g, S1 = sv_sts S [1018, 7, 6] g := ⟨_, md33.eq⟩
    show sv_T sm_XS sm_cs sm_L sm_sh 6 (q_cutOne S) 17 20 [(0, .ref 0), (1, sv_I x3)] [] (sv_sts S [1018, 7, 6] g31)
    have md35 : sv_mod [1018, 7, 6] S (sv_sts S [1018, 7, 6] g31) := sv_mod.sts sv_mod.rf (by decide)
    have h := h g31 hp34
    refine sv_goto hM dX12_cutOne_20 (pc' := 61) rfl ?_
    exact sv_vret hM dX12_cutOne_61 rfl ⟨rfl, ok32, md35, h⟩
def q_cut (S : sv_S) : Option Value → sv_S → Prop := fun v S' => v = none ∧ sm_ok S' ∧ sv_mod [1012, 1018, 1019, 8, 10, 6, 9, 7] S S' ∧ (1 ≤ (S' 1012 0) ∧ (S' 1012 0) ≤ 4001 ∧ (∀ k : Int, 0 ≤ k → k < (S' 1012 0) → 0 ≤ (S' 8 k) ∧ (S' 8 k) ≤ (S' 9 k) ∧ (S' 9 k) ≤ 4003 ∧ 1 ≤ (S' 10 k) ∧ (S' 10 k) ≤ 4001 ∧ 0 ≤ (S' 6 k) ∧ (S' 6 k) ≤ 6 ∧ (1 ≤ (S' 6 k) → (S' 6 k) ≤ 2 → (S' 9 k) - (S' 8 k) ≤ 16) ∧ ((S' 6 k) = 4 → (S' 9 k) - (S' 8 k) ≤ 82)) ∧ ((S' 6 ((S' 1012 0) - 1)) = 0 ∨ (S' 6 ((S' 1012 0) - 1)) = 6) ∧ (∀ k : Int, 0 ≤ k → k < (S' 1012 0) - 1 → 1 ≤ (S' 6 k) ∧ (S' 6 k) ≤ 5))
set_option maxHeartbeats 2000000 in
theorem f_cut : ∀ (S : sv_S), sm_ok S → (0 ≤ (S 1004 0) ∧ (S 1004 0) ≤ 4000) → ((((1 : Int) = 0 ∨ (1 : Int) = 1) ∧ 0 ≤ (0 : Int) ∧ (0 : Int) ≤ 4001 ∧ ((1 : Int) = 1 → (0 : Int) ≤ (0 : Int) ∧ 0 ≤ (0 : Int) ∧ (0 : Int) ≤ (S 1004 0) ∧ 1 ≤ (1 : Int) ∧ (1 : Int) ≤ 1 + (0 : Int) ∧ (∀ k : Int, 0 ≤ k → k < (0 : Int) → 1 ≤ (S 6 k) ∧ (S 6 k) ≤ 5)) ∧ ((1 : Int) = 0 → 1 ≤ (0 : Int) ∧ ((S 6 ((0 : Int) - 1)) = 0 ∨ (S 6 ((0 : Int) - 1)) = 6) ∧ (∀ k : Int, 0 ≤ k → k < (0 : Int) - 1 → 1 ≤ (S 6 k) ∧ (S 6 k) ≤ 5)) ∧ (∀ k : Int, 0 ≤ k → k < (0 : Int) → 0 ≤ (S 8 k) ∧ (S 8 k) ≤ (S 9 k) ∧ (S 9 k) ≤ 4003 ∧ 1 ≤ (S 10 k) ∧ (S 10 k) ≤ 4001 ∧ 0 ≤ (S 6 k) ∧ (S 6 k) ≤ 6 ∧ (1 ≤ (S 6 k) → (S 6 k) ≤ 2 → (S 9 k) - (S 8 k) ≤ 16) ∧ ((S 6 k) = 4 → (S 9 k) - (S 8 k) ≤ 82))) ∧ (∀ l1_8 : Int, sv_R l1_8 → ∀ g7 : sv_S, ((l1_8 = 0 ∨ l1_8 = 1) ∧ 0 ≤ (g7 1012 0) ∧ (g7 1012 0) ≤ 4001 ∧ (l1_8 = 1 → (g7 1012 0) ≤ (g7 1018 0) ∧ 0 ≤ (g7 1018 0) ∧ (g7 1018 0) ≤ (S 1004 0) ∧ 1 ≤ (g7 1019 0) ∧ (g7 1019 0) ≤ 1 + (g7 1018 0) ∧ (∀ k : Int, 0 ≤ k → k < (g7 1012 0) → 1 ≤ (g7 6 k) ∧ (g7 6 k) ≤ 5)) ∧ (l1_8 = 0 → 1 ≤ (g7 1012 0) ∧ ((g7 6 ((g7 1012 0) - 1)) = 0 ∨ (g7 6 ((g7 1012 0) - 1)) = 6) ∧ (∀ k : Int, 0 ≤ k → k < (g7 1012 0) - 1 → 1 ≤ (g7 6 k) ∧ (g7 6 k) ≤ 5)) ∧ (∀ k : Int, 0 ≤ k → k < (g7 1012 0) → 0 ≤ (g7 8 k) ∧ (g7 8 k) ≤ (g7 9 k) ∧ (g7 9 k) ≤ 4003 ∧ 1 ≤ (g7 10 k) ∧ (g7 10 k) ≤ 4001 ∧ 0 ≤ (g7 6 k) ∧ (g7 6 k) ≤ 6 ∧ (1 ≤ (g7 6 k) → (g7 6 k) ≤ 2 → (g7 9 k) - (g7 8 k) ≤ 16) ∧ ((g7 6 k) = 4 → (g7 9 k) - (g7 8 k) ≤ 82))) → (0 ≤ 2 * (4001 - (g7 1012 0)) + l1_8) ∧ (((l1_8 = (0 : Int)) → (1 ≤ (g7 1012 0) ∧ (g7 1012 0) ≤ 4001 ∧ (∀ k : Int, 0 ≤ k → k < (g7 1012 0) → 0 ≤ (g7 8 k) ∧ (g7 8 k) ≤ (g7 9 k) ∧ (g7 9 k) ≤ 4003 ∧ 1 ≤ (g7 10 k) ∧ (g7 10 k) ≤ 4001 ∧ 0 ≤ (g7 6 k) ∧ (g7 6 k) ≤ 6 ∧ (1 ≤ (g7 6 k) → (g7 6 k) ≤ 2 → (g7 9 k) - (g7 8 k) ≤ 16) ∧ ((g7 6 k) = 4 → (g7 9 k) - (g7 8 k) ≤ 82)) ∧ ((g7 6 ((g7 1012 0) - 1)) = 0 ∨ (g7 6 ((g7 1012 0) - 1)) = 6) ∧ (∀ k : Int, 0 ≤ k → k < (g7 1012 0) - 1 → 1 ≤ (g7 6 k) ∧ (g7 6 k) ≤ 5))) ∧ ((¬ (l1_8 = (0 : Int))) → (0 ≤ (S 1004 0) ∧ (S 1004 0) ≤ 4000 ∧ 0 ≤ (g7 1018 0) ∧ (g7 1018 0) ≤ (S 1004 0) ∧ 1 ≤ (g7 1019 0) ∧ (g7 1019 0) ≤ 1 + (g7 1018 0)) ∧ (∀ r19 : Int, sv_R r19 → ∀ g15 : sv_S, ((r19 = 0 ∨ r19 = 1) ∧ (g7 1018 0) ≤ (g15 1018 0) ∧ (g15 1018 0) ≤ (S 1004 0) ∧ 1 ≤ (g15 1019 0) ∧ (g15 1019 0) ≤ 1 + (g15 1018 0)) → (sv_R (g7 1012 0) → (sv_R (g15 1018 0) → (0 ≤ (g7 1012 0) ∧ (g7 1012 0) < 4002) ∧ (sv_R (g15 1019 0) → (((¬ r19 = (0 : Int)) → ((((g15 1018 0) < (S 1004 0)) → (0 ≤ (S 1004 0) ∧ (S 1004 0) ≤ 4000 ∧ 0 ≤ (g15 1018 0) ∧ (g15 1018 0) ≤ (S 1004 0) ∧ 0 ≤ (g7 1012 0) ∧ (g7 1012 0) ≤ 4001 ∧ (g15 1018 0) < (S 1004 0)) ∧ (∀ g33 : sv_S, ((g15 1018 0) ≤ (g33 1018 0) ∧ (g33 1018 0) ≤ (S 1004 0) + 3 ∧ ((g33 6 (g7 1012 0)) = 6 ∨ (1 ≤ (g33 6 (g7 1012 0)) ∧ (g33 6 (g7 1012 0)) ≤ 5 ∧ (g15 1018 0) < (g33 1018 0) ∧ (g33 1018 0) ≤ (S 1004 0) ∧ ((g33 6 (g7 1012 0)) ≤ 2 → (g33 1018 0) - (g15 1018 0) ≤ 16) ∧ ((g33 6 (g7 1012 0)) = 4 → (g33 1018 0) - (g15 1018 0) ≤ 82))) ∧ (∀ k : Int, k ≠ (g7 1012 0) → (g33 6 k) = (g7 6 k))) → (sv_R (g33 1018 0) → (sv_R (g33 6 (g7 1012 0)) → ((((g33 6 (g7 1012 0)) = (6 : Int)) → (sv_R ((g7 1012 0) + (1 : Int))) ∧ ((((0 : Int) = 0 ∨ (0 : Int) = 1) ∧ 0 ≤ ((g7 1012 0) + (1 : Int)) ∧ ((g7 1012 0) + (1 : Int)) ≤ 4001 ∧ ((0 : Int) = 1 → ((g7 1012 0) + (1 : Int)) ≤ (g33 1018 0) ∧ 0 ≤ (g33 1018 0) ∧ (g33 1018 0) ≤ (S 1004 0) ∧ 1 ≤ (g15 1019 0) ∧ (g15 1019 0) ≤ 1 + (g33 1018 0) ∧ (∀ k : Int, 0 ≤ k → k < ((g7 1012 0) + (1 : Int)) → 1 ≤ (g33 6 k) ∧ (g33 6 k) ≤ 5)) ∧ ((0 : Int) = 0 → 1 ≤ ((g7 1012 0) + (1 : Int)) ∧ ((g33 6 (((g7 1012 0) + (1 : Int)) - 1)) = 0 ∨ (g33 6 (((g7 1012 0) + (1 : Int)) - 1)) = 6) ∧ (∀ k : Int, 0 ≤ k → k < ((g7 1012 0) + (1 : Int)) - 1 → 1 ≤ (g33 6 k) ∧ (g33 6 k) ≤ 5)) ∧ (∀ k : Int, 0 ≤ k → k < ((g7 1012 0) + (1 : Int)) → 0 ≤ (if k = (g7 1012 0) then (g15 1018 0) else (g7 8 k)) ∧ (if k = (g7 1012 0) then (g15 1018 0) else (g7 8 k)) ≤ (if k = (g7 1012 0) then (g33 1018 0) else (g7 9 k)) ∧ (if k = (g7 1012 0) then (g33 1018 0) else (g7 9 k)) ≤ 4003 ∧ 1 ≤ (if k = (g7 1012 0) then (g15 1019 0) else (g7 10 k)) ∧ (if k = (g7 1012 0) then (g15 1019 0) else (g7 10 k)) ≤ 4001 ∧ 0 ≤ (g33 6 k) ∧ (g33 6 k) ≤ 6 ∧ (1 ≤ (g33 6 k) → (g33 6 k) ≤ 2 → (if k = (g7 1012 0) then (g33 1018 0) else (g7 9 k)) - (if k = (g7 1012 0) then (g15 1018 0) else (g7 8 k)) ≤ 16) ∧ ((g33 6 k) = 4 → (if k = (g7 1012 0) then (g33 1018 0) else (g7 9 k)) - (if k = (g7 1012 0) then (g15 1018 0) else (g7 8 k)) ≤ 82))) ∧ (2 * (4001 - ((g7 1012 0) + (1 : Int))) + (0 : Int)) < (2 * (4001 - (g7 1012 0)) + l1_8))) ∧ ((¬ ((g33 6 (g7 1012 0)) = (6 : Int))) → ((((g33 6 (g7 1012 0)) = (0 : Int)) → (sv_R ((g7 1012 0) + (1 : Int))) ∧ ((((0 : Int) = 0 ∨ (0 : Int) = 1) ∧ 0 ≤ ((g7 1012 0) + (1 : Int)) ∧ ((g7 1012 0) + (1 : Int)) ≤ 4001 ∧ ((0 : Int) = 1 → ((g7 1012 0) + (1 : Int)) ≤ (g33 1018 0) ∧ 0 ≤ (g33 1018 0) ∧ (g33 1018 0) ≤ (S 1004 0) ∧ 1 ≤ (g15 1019 0) ∧ (g15 1019 0) ≤ 1 + (g33 1018 0) ∧ (∀ k : Int, 0 ≤ k → k < ((g7 1012 0) + (1 : Int)) → 1 ≤ (g33 6 k) ∧ (g33 6 k) ≤ 5)) ∧ ((0 : Int) = 0 → 1 ≤ ((g7 1012 0) + (1 : Int)) ∧ ((g33 6 (((g7 1012 0) + (1 : Int)) - 1)) = 0 ∨ (g33 6 (((g7 1012 0) + (1 : Int)) - 1)) = 6) ∧ (∀ k : Int, 0 ≤ k → k < ((g7 1012 0) + (1 : Int)) - 1 → 1 ≤ (g33 6 k) ∧ (g33 6 k) ≤ 5)) ∧ (∀ k : Int, 0 ≤ k → k < ((g7 1012 0) + (1 : Int)) → 0 ≤ (if k = (g7 1012 0) then (g15 1018 0) else (g7 8 k)) ∧ (if k = (g7 1012 0) then (g15 1018 0) else (g7 8 k)) ≤ (if k = (g7 1012 0) then (g33 1018 0) else (g7 9 k)) ∧ (if k = (g7 1012 0) then (g33 1018 0) else (g7 9 k)) ≤ 4003 ∧ 1 ≤ (if k = (g7 1012 0) then (g15 1019 0) else (g7 10 k)) ∧ (if k = (g7 1012 0) then (g15 1019 0) else (g7 10 k)) ≤ 4001 ∧ 0 ≤ (g33 6 k) ∧ (g33 6 k) ≤ 6 ∧ (1 ≤ (g33 6 k) → (g33 6 k) ≤ 2 → (if k = (g7 1012 0) then (g33 1018 0) else (g7 9 k)) - (if k = (g7 1012 0) then (g15 1018 0) else (g7 8 k)) ≤ 16) ∧ ((g33 6 k) = 4 → (if k = (g7 1012 0) then (g33 1018 0) else (g7 9 k)) - (if k = (g7 1012 0) then (g15 1018 0) else (g7 8 k)) ≤ 82))) ∧ (2 * (4001 - ((g7 1012 0) + (1 : Int))) + (0 : Int)) < (2 * (4001 - (g7 1012 0)) + l1_8))) ∧ ((¬ ((g33 6 (g7 1012 0)) = (0 : Int))) → (sv_R ((g7 1012 0) + (1 : Int))) ∧ ((((1 : Int) = 0 ∨ (1 : Int) = 1) ∧ 0 ≤ ((g7 1012 0) + (1 : Int)) ∧ ((g7 1012 0) + (1 : Int)) ≤ 4001 ∧ ((1 : Int) = 1 → ((g7 1012 0) + (1 : Int)) ≤ (g33 1018 0) ∧ 0 ≤ (g33 1018 0) ∧ (g33 1018 0) ≤ (S 1004 0) ∧ 1 ≤ (g15 1019 0) ∧ (g15 1019 0) ≤ 1 + (g33 1018 0) ∧ (∀ k : Int, 0 ≤ k → k < ((g7 1012 0) + (1 : Int)) → 1 ≤ (g33 6 k) ∧ (g33 6 k) ≤ 5)) ∧ ((1 : Int) = 0 → 1 ≤ ((g7 1012 0) + (1 : Int)) ∧ ((g33 6 (((g7 1012 0) + (1 : Int)) - 1)) = 0 ∨ (g33 6 (((g7 1012 0) + (1 : Int)) - 1)) = 6) ∧ (∀ k : Int, 0 ≤ k → k < ((g7 1012 0) + (1 : Int)) - 1 → 1 ≤ (g33 6 k) ∧ (g33 6 k) ≤ 5)) ∧ (∀ k : Int, 0 ≤ k → k < ((g7 1012 0) + (1 : Int)) → 0 ≤ (if k = (g7 1012 0) then (g15 1018 0) else (g7 8 k)) ∧ (if k = (g7 1012 0) then (g15 1018 0) else (g7 8 k)) ≤ (if k = (g7 1012 0) then (g33 1018 0) else (g7 9 k)) ∧ (if k = (g7 1012 0) then (g33 1018 0) else (g7 9 k)) ≤ 4003 ∧ 1 ≤ (if k = (g7 1012 0) then (g15 1019 0) else (g7 10 k)) ∧ (if k = (g7 1012 0) then (g15 1019 0) else (g7 10 k)) ≤ 4001 ∧ 0 ≤ (g33 6 k) ∧ (g33 6 k) ≤ 6 ∧ (1 ≤ (g33 6 k) → (g33 6 k) ≤ 2 → (if k = (g7 1012 0) then (g33 1018 0) else (g7 9 k)) - (if k = (g7 1012 0) then (g15 1018 0) else (g7 8 k)) ≤ 16) ∧ ((g33 6 k) = 4 → (if k = (g7 1012 0) then (g33 1018 0) else (g7 9 k)) - (if k = (g7 1012 0) then (g15 1018 0) else (g7 8 k)) ≤ 82))) ∧ (2 * (4001 - ((g7 1012 0) + (1 : Int))) + (1 : Int)) < (2 * (4001 - (g7 1012 0)) + l1_8)))))))))) ∧ ((¬ ((g15 1018 0) < (S 1004 0))) → (∀ v62 : Int, (if (g7 1012 0) = (g7 1012 0) then (0 : Int) else (g7 6 (g7 1012 0))) = v62 → (sv_R v62 → (((v62 = (6 : Int)) → (sv_R ((g7 1012 0) + (1 : Int))) ∧ ((((0 : Int) = 0 ∨ (0 : Int) = 1) ∧ 0 ≤ ((g7 1012 0) + (1 : Int)) ∧ ((g7 1012 0) + (1 : Int)) ≤ 4001 ∧ ((0 : Int) = 1 → ((g7 1012 0) + (1 : Int)) ≤ (g15 1018 0) ∧ 0 ≤ (g15 1018 0) ∧ (g15 1018 0) ≤ (S 1004 0) ∧ 1 ≤ (g15 1019 0) ∧ (g15 1019 0) ≤ 1 + (g15 1018 0) ∧ (∀ k : Int, 0 ≤ k → k < ((g7 1012 0) + (1 : Int)) → 1 ≤ (if k = (g7 1012 0) then (0 : Int) else (g7 6 k)) ∧ (if k = (g7 1012 0) then (0 : Int) else (g7 6 k)) ≤ 5)) ∧ ((0 : Int) = 0 → 1 ≤ ((g7 1012 0) + (1 : Int)) ∧ ((if (((g7 1012 0) + (1 : Int)) - 1) = (g7 1012 0) then (0 : Int) else (g7 6 (((g7 1012 0) + (1 : Int)) - 1))) = 0 ∨ (if (((g7 1012 0) + (1 : Int)) - 1) = (g7 1012 0) then (0 : Int) else (g7 6 (((g7 1012 0) + (1 : Int)) - 1))) = 6) ∧ (∀ k : Int, 0 ≤ k → k < ((g7 1012 0) + (1 : Int)) - 1 → 1 ≤ (if k = (g7 1012 0) then (0 : Int) else (g7 6 k)) ∧ (if k = (g7 1012 0) then (0 : Int) else (g7 6 k)) ≤ 5)) ∧ (∀ k : Int, 0 ≤ k → k < ((g7 1012 0) + (1 : Int)) → 0 ≤ (if k = (g7 1012 0) then (g15 1018 0) else (g7 8 k)) ∧ (if k = (g7 1012 0) then (g15 1018 0) else (g7 8 k)) ≤ (if k = (g7 1012 0) then (g15 1018 0) else (g7 9 k)) ∧ (if k = (g7 1012 0) then (g15 1018 0) else (g7 9 k)) ≤ 4003 ∧ 1 ≤ (if k = (g7 1012 0) then (g15 1019 0) else (g7 10 k)) ∧ (if k = (g7 1012 0) then (g15 1019 0) else (g7 10 k)) ≤ 4001 ∧ 0 ≤ (if k = (g7 1012 0) then (0 : Int) else (g7 6 k)) ∧ (if k = (g7 1012 0) then (0 : Int) else (g7 6 k)) ≤ 6 ∧ (1 ≤ (if k = (g7 1012 0) then (0 : Int) else (g7 6 k)) → (if k = (g7 1012 0) then (0 : Int) else (g7 6 k)) ≤ 2 → (if k = (g7 1012 0) then (g15 1018 0) else (g7 9 k)) - (if k = (g7 1012 0) then (g15 1018 0) else (g7 8 k)) ≤ 16) ∧ ((if k = (g7 1012 0) then (0 : Int) else (g7 6 k)) = 4 → (if k = (g7 1012 0) then (g15 1018 0) else (g7 9 k)) - (if k = (g7 1012 0) then (g15 1018 0) else (g7 8 k)) ≤ 82))) ∧ (2 * (4001 - ((g7 1012 0) + (1 : Int))) + (0 : Int)) < (2 * (4001 - (g7 1012 0)) + l1_8))) ∧ ((¬ (v62 = (6 : Int))) → (∀ v68 : Int, (if (g7 1012 0) = (g7 1012 0) then (0 : Int) else (g7 6 (g7 1012 0))) = v68 → (sv_R v68 → (((v68 = (0 : Int)) → (sv_R ((g7 1012 0) + (1 : Int))) ∧ ((((0 : Int) = 0 ∨ (0 : Int) = 1) ∧ 0 ≤ ((g7 1012 0) + (1 : Int)) ∧ ((g7 1012 0) + (1 : Int)) ≤ 4001 ∧ ((0 : Int) = 1 → ((g7 1012 0) + (1 : Int)) ≤ (g15 1018 0) ∧ 0 ≤ (g15 1018 0) ∧ (g15 1018 0) ≤ (S 1004 0) ∧ 1 ≤ (g15 1019 0) ∧ (g15 1019 0) ≤ 1 + (g15 1018 0) ∧ (∀ k : Int, 0 ≤ k → k < ((g7 1012 0) + (1 : Int)) → 1 ≤ (if k = (g7 1012 0) then (0 : Int) else (g7 6 k)) ∧ (if k = (g7 1012 0) then (0 : Int) else (g7 6 k)) ≤ 5)) ∧ ((0 : Int) = 0 → 1 ≤ ((g7 1012 0) + (1 : Int)) ∧ ((if (((g7 1012 0) + (1 : Int)) - 1) = (g7 1012 0) then (0 : Int) else (g7 6 (((g7 1012 0) + (1 : Int)) - 1))) = 0 ∨ (if (((g7 1012 0) + (1 : Int)) - 1) = (g7 1012 0) then (0 : Int) else (g7 6 (((g7 1012 0) + (1 : Int)) - 1))) = 6) ∧ (∀ k : Int, 0 ≤ k → k < ((g7 1012 0) + (1 : Int)) - 1 → 1 ≤ (if k = (g7 1012 0) then (0 : Int) else (g7 6 k)) ∧ (if k = (g7 1012 0) then (0 : Int) else (g7 6 k)) ≤ 5)) ∧ (∀ k : Int, 0 ≤ k → k < ((g7 1012 0) + (1 : Int)) → 0 ≤ (if k = (g7 1012 0) then (g15 1018 0) else (g7 8 k)) ∧ (if k = (g7 1012 0) then (g15 1018 0) else (g7 8 k)) ≤ (if k = (g7 1012 0) then (g15 1018 0) else (g7 9 k)) ∧ (if k = (g7 1012 0) then (g15 1018 0) else (g7 9 k)) ≤ 4003 ∧ 1 ≤ (if k = (g7 1012 0) then (g15 1019 0) else (g7 10 k)) ∧ (if k = (g7 1012 0) then (g15 1019 0) else (g7 10 k)) ≤ 4001 ∧ 0 ≤ (if k = (g7 1012 0) then (0 : Int) else (g7 6 k)) ∧ (if k = (g7 1012 0) then (0 : Int) else (g7 6 k)) ≤ 6 ∧ (1 ≤ (if k = (g7 1012 0) then (0 : Int) else (g7 6 k)) → (if k = (g7 1012 0) then (0 : Int) else (g7 6 k)) ≤ 2 → (if k = (g7 1012 0) then (g15 1018 0) else (g7 9 k)) - (if k = (g7 1012 0) then (g15 1018 0) else (g7 8 k)) ≤ 16) ∧ ((if k = (g7 1012 0) then (0 : Int) else (g7 6 k)) = 4 → (if k = (g7 1012 0) then (g15 1018 0) else (g7 9 k)) - (if k = (g7 1012 0) then (g15 1018 0) else (g7 8 k)) ≤ 82))) ∧ (2 * (4001 - ((g7 1012 0) + (1 : Int))) + (0 : Int)) < (2 * (4001 - (g7 1012 0)) + l1_8))) ∧ ((¬ (v68 = (0 : Int))) → (sv_R ((g7 1012 0) + (1 : Int))) ∧ ((((1 : Int) = 0 ∨ (1 : Int) = 1) ∧ 0 ≤ ((g7 1012 0) + (1 : Int)) ∧ ((g7 1012 0) + (1 : Int)) ≤ 4001 ∧ ((1 : Int) = 1 → ((g7 1012 0) + (1 : Int)) ≤ (g15 1018 0) ∧ 0 ≤ (g15 1018 0) ∧ (g15 1018 0) ≤ (S 1004 0) ∧ 1 ≤ (g15 1019 0) ∧ (g15 1019 0) ≤ 1 + (g15 1018 0) ∧ (∀ k : Int, 0 ≤ k → k < ((g7 1012 0) + (1 : Int)) → 1 ≤ (if k = (g7 1012 0) then (0 : Int) else (g7 6 k)) ∧ (if k = (g7 1012 0) then (0 : Int) else (g7 6 k)) ≤ 5)) ∧ ((1 : Int) = 0 → 1 ≤ ((g7 1012 0) + (1 : Int)) ∧ ((if (((g7 1012 0) + (1 : Int)) - 1) = (g7 1012 0) then (0 : Int) else (g7 6 (((g7 1012 0) + (1 : Int)) - 1))) = 0 ∨ (if (((g7 1012 0) + (1 : Int)) - 1) = (g7 1012 0) then (0 : Int) else (g7 6 (((g7 1012 0) + (1 : Int)) - 1))) = 6) ∧ (∀ k : Int, 0 ≤ k → k < ((g7 1012 0) + (1 : Int)) - 1 → 1 ≤ (if k = (g7 1012 0) then (0 : Int) else (g7 6 k)) ∧ (if k = (g7 1012 0) then (0 : Int) else (g7 6 k)) ≤ 5)) ∧ (∀ k : Int, 0 ≤ k → k < ((g7 1012 0) + (1 : Int)) → 0 ≤ (if k = (g7 1012 0) then (g15 1018 0) else (g7 8 k)) ∧ (if k = (g7 1012 0) then (g15 1018 0) else (g7 8 k)) ≤ (if k = (g7 1012 0) then (g15 1018 0) else (g7 9 k)) ∧ (if k = (g7 1012 0) then (g15 1018 0) else (g7 9 k)) ≤ 4003 ∧ 1 ≤ (if k = (g7 1012 0) then (g15 1019 0) else (g7 10 k)) ∧ (if k = (g7 1012 0) then (g15 1019 0) else (g7 10 k)) ≤ 4001 ∧ 0 ≤ (if k = (g7 1012 0) then (0 : Int) else (g7 6 k)) ∧ (if k = (g7 1012 0) then (0 : Int) else (g7 6 k)) ≤ 6 ∧ (1 ≤ (if k = (g7 1012 0) then (0 : Int) else (g7 6 k)) → (if k = (g7 1012 0) then (0 : Int) else (g7 6 k)) ≤ 2 → (if k = (g7 1012 0) then (g15 1018 0) else (g7 9 k)) - (if k = (g7 1012 0) then (g15 1018 0) else (g7 8 k)) ≤ 16) ∧ ((if k = (g7 1012 0) then (0 : Int) else (g7 6 k)) = 4 → (if k = (g7 1012 0) then (g15 1018 0) else (g7 9 k)) - (if k = (g7 1012 0) then (g15 1018 0) else (g7 8 k)) ≤ 82))) ∧ (2 * (4001 - ((g7 1012 0) + (1 : Int))) + (1 : Int)) < (2 * (4001 - (g7 1012 0)) + l1_8))))))))))))) ∧ ((¬ (¬ r19 = (0 : Int))) → (∀ v84 : Int, (if (g7 1012 0) = (g7 1012 0) then (6 : Int) else (g7 6 (g7 1012 0))) = v84 → (sv_R v84 → (((v84 = (6 : Int)) → (sv_R ((g7 1012 0) + (1 : Int))) ∧ ((((0 : Int) = 0 ∨ (0 : Int) = 1) ∧ 0 ≤ ((g7 1012 0) + (1 : Int)) ∧ ((g7 1012 0) + (1 : Int)) ≤ 4001 ∧ ((0 : Int) = 1 → ((g7 1012 0) + (1 : Int)) ≤ (g15 1018 0) ∧ 0 ≤ (g15 1018 0) ∧ (g15 1018 0) ≤ (S 1004 0) ∧ 1 ≤ (g15 1019 0) ∧ (g15 1019 0) ≤ 1 + (g15 1018 0) ∧ (∀ k : Int, 0 ≤ k → k < ((g7 1012 0) + (1 : Int)) → 1 ≤ (if k = (g7 1012 0) then (6 : Int) else (g7 6 k)) ∧ (if k = (g7 1012 0) then (6 : Int) else (g7 6 k)) ≤ 5)) ∧ ((0 : Int) = 0 → 1 ≤ ((g7 1012 0) + (1 : Int)) ∧ ((if (((g7 1012 0) + (1 : Int)) - 1) = (g7 1012 0) then (6 : Int) else (g7 6 (((g7 1012 0) + (1 : Int)) - 1))) = 0 ∨ (if (((g7 1012 0) + (1 : Int)) - 1) = (g7 1012 0) then (6 : Int) else (g7 6 (((g7 1012 0) + (1 : Int)) - 1))) = 6) ∧ (∀ k : Int, 0 ≤ k → k < ((g7 1012 0) + (1 : Int)) - 1 → 1 ≤ (if k = (g7 1012 0) then (6 : Int) else (g7 6 k)) ∧ (if k = (g7 1012 0) then (6 : Int) else (g7 6 k)) ≤ 5)) ∧ (∀ k : Int, 0 ≤ k → k < ((g7 1012 0) + (1 : Int)) → 0 ≤ (if k = (g7 1012 0) then (g15 1018 0) else (g7 8 k)) ∧ (if k = (g7 1012 0) then (g15 1018 0) else (g7 8 k)) ≤ (if k = (g7 1012 0) then (g15 1018 0) else (g7 9 k)) ∧ (if k = (g7 1012 0) then (g15 1018 0) else (g7 9 k)) ≤ 4003 ∧ 1 ≤ (if k = (g7 1012 0) then (g15 1019 0) else (g7 10 k)) ∧ (if k = (g7 1012 0) then (g15 1019 0) else (g7 10 k)) ≤ 4001 ∧ 0 ≤ (if k = (g7 1012 0) then (6 : Int) else (g7 6 k)) ∧ (if k = (g7 1012 0) then (6 : Int) else (g7 6 k)) ≤ 6 ∧ (1 ≤ (if k = (g7 1012 0) then (6 : Int) else (g7 6 k)) → (if k = (g7 1012 0) then (6 : Int) else (g7 6 k)) ≤ 2 → (if k = (g7 1012 0) then (g15 1018 0) else (g7 9 k)) - (if k = (g7 1012 0) then (g15 1018 0) else (g7 8 k)) ≤ 16) ∧ ((if k = (g7 1012 0) then (6 : Int) else (g7 6 k)) = 4 → (if k = (g7 1012 0) then (g15 1018 0) else (g7 9 k)) - (if k = (g7 1012 0) then (g15 1018 0) else (g7 8 k)) ≤ 82))) ∧ (2 * (4001 - ((g7 1012 0) + (1 : Int))) + (0 : Int)) < (2 * (4001 - (g7 1012 0)) + l1_8))) ∧ ((¬ (v84 = (6 : Int))) → (∀ v90 : Int, (if (g7 1012 0) = (g7 1012 0) then (6 : Int) else (g7 6 (g7 1012 0))) = v90 → (sv_R v90 → (((v90 = (0 : Int)) → (sv_R ((g7 1012 0) + (1 : Int))) ∧ ((((0 : Int) = 0 ∨ (0 : Int) = 1) ∧ 0 ≤ ((g7 1012 0) + (1 : Int)) ∧ ((g7 1012 0) + (1 : Int)) ≤ 4001 ∧ ((0 : Int) = 1 → ((g7 1012 0) + (1 : Int)) ≤ (g15 1018 0) ∧ 0 ≤ (g15 1018 0) ∧ (g15 1018 0) ≤ (S 1004 0) ∧ 1 ≤ (g15 1019 0) ∧ (g15 1019 0) ≤ 1 + (g15 1018 0) ∧ (∀ k : Int, 0 ≤ k → k < ((g7 1012 0) + (1 : Int)) → 1 ≤ (if k = (g7 1012 0) then (6 : Int) else (g7 6 k)) ∧ (if k = (g7 1012 0) then (6 : Int) else (g7 6 k)) ≤ 5)) ∧ ((0 : Int) = 0 → 1 ≤ ((g7 1012 0) + (1 : Int)) ∧ ((if (((g7 1012 0) + (1 : Int)) - 1) = (g7 1012 0) then (6 : Int) else (g7 6 (((g7 1012 0) + (1 : Int)) - 1))) = 0 ∨ (if (((g7 1012 0) + (1 : Int)) - 1) = (g7 1012 0) then (6 : Int) else (g7 6 (((g7 1012 0) + (1 : Int)) - 1))) = 6) ∧ (∀ k : Int, 0 ≤ k → k < ((g7 1012 0) + (1 : Int)) - 1 → 1 ≤ (if k = (g7 1012 0) then (6 : Int) else (g7 6 k)) ∧ (if k = (g7 1012 0) then (6 : Int) else (g7 6 k)) ≤ 5)) ∧ (∀ k : Int, 0 ≤ k → k < ((g7 1012 0) + (1 : Int)) → 0 ≤ (if k = (g7 1012 0) then (g15 1018 0) else (g7 8 k)) ∧ (if k = (g7 1012 0) then (g15 1018 0) else (g7 8 k)) ≤ (if k = (g7 1012 0) then (g15 1018 0) else (g7 9 k)) ∧ (if k = (g7 1012 0) then (g15 1018 0) else (g7 9 k)) ≤ 4003 ∧ 1 ≤ (if k = (g7 1012 0) then (g15 1019 0) else (g7 10 k)) ∧ (if k = (g7 1012 0) then (g15 1019 0) else (g7 10 k)) ≤ 4001 ∧ 0 ≤ (if k = (g7 1012 0) then (6 : Int) else (g7 6 k)) ∧ (if k = (g7 1012 0) then (6 : Int) else (g7 6 k)) ≤ 6 ∧ (1 ≤ (if k = (g7 1012 0) then (6 : Int) else (g7 6 k)) → (if k = (g7 1012 0) then (6 : Int) else (g7 6 k)) ≤ 2 → (if k = (g7 1012 0) then (g15 1018 0) else (g7 9 k)) - (if k = (g7 1012 0) then (g15 1018 0) else (g7 8 k)) ≤ 16) ∧ ((if k = (g7 1012 0) then (6 : Int) else (g7 6 k)) = 4 → (if k = (g7 1012 0) then (g15 1018 0) else (g7 9 k)) - (if k = (g7 1012 0) then (g15 1018 0) else (g7 8 k)) ≤ 82))) ∧ (2 * (4001 - ((g7 1012 0) + (1 : Int))) + (0 : Int)) < (2 * (4001 - (g7 1012 0)) + l1_8))) ∧ ((¬ (v90 = (0 : Int))) → (sv_R ((g7 1012 0) + (1 : Int))) ∧ ((((1 : Int) = 0 ∨ (1 : Int) = 1) ∧ 0 ≤ ((g7 1012 0) + (1 : Int)) ∧ ((g7 1012 0) + (1 : Int)) ≤ 4001 ∧ ((1 : Int) = 1 → ((g7 1012 0) + (1 : Int)) ≤ (g15 1018 0) ∧ 0 ≤ (g15 1018 0) ∧ (g15 1018 0) ≤ (S 1004 0) ∧ 1 ≤ (g15 1019 0) ∧ (g15 1019 0) ≤ 1 + (g15 1018 0) ∧ (∀ k : Int, 0 ≤ k → k < ((g7 1012 0) + (1 : Int)) → 1 ≤ (if k = (g7 1012 0) then (6 : Int) else (g7 6 k)) ∧ (if k = (g7 1012 0) then (6 : Int) else (g7 6 k)) ≤ 5)) ∧ ((1 : Int) = 0 → 1 ≤ ((g7 1012 0) + (1 : Int)) ∧ ((if (((g7 1012 0) + (1 : Int)) - 1) = (g7 1012 0) then (6 : Int) else (g7 6 (((g7 1012 0) + (1 : Int)) - 1))) = 0 ∨ (if (((g7 1012 0) + (1 : Int)) - 1) = (g7 1012 0) then (6 : Int) else (g7 6 (((g7 1012 0) + (1 : Int)) - 1))) = 6) ∧ (∀ k : Int, 0 ≤ k → k < ((g7 1012 0) + (1 : Int)) - 1 → 1 ≤ (if k = (g7 1012 0) then (6 : Int) else (g7 6 k)) ∧ (if k = (g7 1012 0) then (6 : Int) else (g7 6 k)) ≤ 5)) ∧ (∀ k : Int, 0 ≤ k → k < ((g7 1012 0) + (1 : Int)) → 0 ≤ (if k = (g7 1012 0) then (g15 1018 0) else (g7 8 k)) ∧ (if k = (g7 1012 0) then (g15 1018 0) else (g7 8 k)) ≤ (if k = (g7 1012 0) then (g15 1018 0) else (g7 9 k)) ∧ (if k = (g7 1012 0) then (g15 1018 0) else (g7 9 k)) ≤ 4003 ∧ 1 ≤ (if k = (g7 1012 0) then (g15 1019 0) else (g7 10 k)) ∧ (if k = (g7 1012 0) then (g15 1019 0) else (g7 10 k)) ≤ 4001 ∧ 0 ≤ (if k = (g7 1012 0) then (6 : Int) else (g7 6 k)) ∧ (if k = (g7 1012 0) then (6 : Int) else (g7 6 k)) ≤ 6 ∧ (1 ≤ (if k = (g7 1012 0) then (6 : Int) else (g7 6 k)) → (if k = (g7 1012 0) then (6 : Int) else (g7 6 k)) ≤ 2 → (if k = (g7 1012 0) then (g15 1018 0) else (g7 9 k)) - (if k = (g7 1012 0) then (g15 1018 0) else (g7 8 k)) ≤ 16) ∧ ((if k = (g7 1012 0) then (6 : Int) else (g7 6 k)) = 4 → (if k = (g7 1012 0) then (g15 1018 0) else (g7 9 k)) - (if k = (g7 1012 0) then (g15 1018 0) else (g7 8 k)) ≤ 82))) ∧ (2 * (4001 - ((g7 1012 0) + (1 : Int))) + (1 : Int)) < (2 * (4001 - (g7 1012 0)) + l1_8)))))))))))))))))))) := by
  intro S hok hpre
  repeat' (first | (refine And.intro ?_ ?_) | (intro _))
  all_goals first | assumption | omega | grind
set_option maxRecDepth 8000 in
set_option maxHeartbeats 2000000 in
theorem t_cut : ∀ (S : sv_S), sm_ok S → (0 ≤ (S 1004 0) ∧ (S 1004 0) ≤ 4000) → sv_T sm_XS sm_cs sm_L sm_sh 7 (q_cut S) 16 0 (lv_args 0 [.ref 0]) [] S := by
  intro S hok hpre
  have h := f_cut S hok hpre
  have hM := sm_h16
  show sv_T sm_XS sm_cs sm_L sm_sh 7 (q_cut S) 16 0 [(0, .ref 0)] [] S
  refine sv_aload_n hM dX12_cut_0 rfl rfl ?_
  refine sv_iconst (d := (0 : Int)) hM dX12_cut_1 rfl rfl ?_
  refine sv_putI sm_X hM dX12_cut_2 sm_fp_350 (sm_a0 _) sm_q12 (Or.inl rfl) rfl rfl rfl rfl ?_
  have ok1 : sm_ok (sv_up S 1012 0 (0 : Int)) := sm_upI hok sm_r1012 (⟨by decide, by decide⟩ : sv_R (0 : Int))
  have md2 : sv_mod [1012, 1018, 1019, 8, 10, 6, 9, 7] S (sv_up S 1012 0 (0 : Int)) := sv_mod.up sv_mod.rf (by decide)
  refine sv_aload_n hM dX12_cut_5 rfl rfl ?_
  refine sv_iconst (d := (0 : Int)) hM dX12_cut_6 rfl rfl ?_
  refine sv_putI sm_X hM dX12_cut_7 sm_fp_344 (sm_a0 _) sm_q18 (Or.inl rfl) rfl rfl rfl rfl ?_
  have ok3 : sm_ok (sv_up (sv_up S 1012 0 (0 : Int)) 1018 0 (0 : Int)) := sm_upI ok1 sm_r1018 (⟨by decide, by decide⟩ : sv_R (0 : Int))
  have md4 : sv_mod [1012, 1018, 1019, 8, 10, 6, 9, 7] S (sv_up (sv_up S 1012 0 (0 : Int)) 1018 0 (0 : Int)) := sv_mod.up md2 (by decide)
  refine sv_aload_n hM dX12_cut_10 rfl rfl ?_
  refine sv_iconst (d := (1 : Int)) hM dX12_cut_11 rfl rfl ?_
  refine sv_putI sm_X hM dX12_cut_12 sm_fp_347 (sm_a0 _) sm_q19 (Or.inl rfl) rfl rfl rfl rfl ?_
  have ok5 : sm_ok (sv_up (sv_up (sv_up S 1012 0 (0 : Int)) 1018 0 (0 : Int)) 1019 0 (1 : Int)) := sm_upI ok3 sm_r1019 (⟨by decide, by decide⟩ : sv_R (1 : Int))
  have md6 : sv_mod [1012, 1018, 1019, 8, 10, 6, 9, 7] S (sv_up (sv_up (sv_up S 1012 0 (0 : Int)) 1018 0 (0 : Int)) 1019 0 (1 : Int)) := sv_mod.up md4 (by decide)
  refine sv_iconst (d := (1 : Int)) hM dX12_cut_15 rfl rfl ?_
  refine sv_istore_n hM dX12_cut_16 (by decide) rfl ?_
  show sv_T sm_XS sm_cs sm_L sm_sh 7 (q_cut S) 16 17 [(0, .ref 0), (1, sv_I (1 : Int))] [] (sv_up (sv_up (sv_up S 1012 0 (0 : Int)) 1018 0 (0 : Int)) 1019 0 (1 : Int))
  obtain ⟨hin10, h⟩ := h
  have hJ : ∀ a : Int × sv_S, (sv_R a.1 ∧ sm_ok (sv_sts (sv_up (sv_up (sv_up S 1012 0 (0 : Int)) 1018 0 (0 : Int)) 1019 0 (1 : Int)) [1012, 1018, 1019, 8, 10, 6, 9, 7] a.2) ∧ ((a.1 = 0 ∨ a.1 = 1) ∧ 0 ≤ (a.2 1012 0) ∧ (a.2 1012 0) ≤ 4001 ∧ (a.1 = 1 → (a.2 1012 0) ≤ (a.2 1018 0) ∧ 0 ≤ (a.2 1018 0) ∧ (a.2 1018 0) ≤ (S 1004 0) ∧ 1 ≤ (a.2 1019 0) ∧ (a.2 1019 0) ≤ 1 + (a.2 1018 0) ∧ (∀ k : Int, 0 ≤ k → k < (a.2 1012 0) → 1 ≤ (a.2 6 k) ∧ (a.2 6 k) ≤ 5)) ∧ (a.1 = 0 → 1 ≤ (a.2 1012 0) ∧ ((a.2 6 ((a.2 1012 0) - 1)) = 0 ∨ (a.2 6 ((a.2 1012 0) - 1)) = 6) ∧ (∀ k : Int, 0 ≤ k → k < (a.2 1012 0) - 1 → 1 ≤ (a.2 6 k) ∧ (a.2 6 k) ≤ 5)) ∧ (∀ k : Int, 0 ≤ k → k < (a.2 1012 0) → 0 ≤ (a.2 8 k) ∧ (a.2 8 k) ≤ (a.2 9 k) ∧ (a.2 9 k) ≤ 4003 ∧ 1 ≤ (a.2 10 k) ∧ (a.2 10 k) ≤ 4001 ∧ 0 ≤ (a.2 6 k) ∧ (a.2 6 k) ≤ 6 ∧ (1 ≤ (a.2 6 k) → (a.2 6 k) ≤ 2 → (a.2 9 k) - (a.2 8 k) ≤ 16) ∧ ((a.2 6 k) = 4 → (a.2 9 k) - (a.2 8 k) ≤ 82)))) → sv_T sm_XS sm_cs sm_L sm_sh 7 (q_cut S) 16 17 [(0, .ref 0), (1, sv_I a.1)] [] (sv_sts (sv_up (sv_up (sv_up S 1012 0 (0 : Int)) 1018 0 (0 : Int)) 1019 0 (1 : Int)) [1012, 1018, 1019, 8, 10, 6, 9, 7] a.2) := by
    refine sv_loop (α := Int × sv_S) (fun a => sv_R a.1 ∧ sm_ok (sv_sts (sv_up (sv_up (sv_up S 1012 0 (0 : Int)) 1018 0 (0 : Int)) 1019 0 (1 : Int)) [1012, 1018, 1019, 8, 10, 6, 9, 7] a.2) ∧ ((a.1 = 0 ∨ a.1 = 1) ∧ 0 ≤ (a.2 1012 0) ∧ (a.2 1012 0) ≤ 4001 ∧ (a.1 = 1 → (a.2 1012 0) ≤ (a.2 1018 0) ∧ 0 ≤ (a.2 1018 0) ∧ (a.2 1018 0) ≤ (S 1004 0) ∧ 1 ≤ (a.2 1019 0) ∧ (a.2 1019 0) ≤ 1 + (a.2 1018 0) ∧ (∀ k : Int, 0 ≤ k → k < (a.2 1012 0) → 1 ≤ (a.2 6 k) ∧ (a.2 6 k) ≤ 5)) ∧ (a.1 = 0 → 1 ≤ (a.2 1012 0) ∧ ((a.2 6 ((a.2 1012 0) - 1)) = 0 ∨ (a.2 6 ((a.2 1012 0) - 1)) = 6) ∧ (∀ k : Int, 0 ≤ k → k < (a.2 1012 0) - 1 → 1 ≤ (a.2 6 k) ∧ (a.2 6 k) ≤ 5)) ∧ (∀ k : Int, 0 ≤ k → k < (a.2 1012 0) → 0 ≤ (a.2 8 k) ∧ (a.2 8 k) ≤ (a.2 9 k) ∧ (a.2 9 k) ≤ 4003 ∧ 1 ≤ (a.2 10 k) ∧ (a.2 10 k) ≤ 4001 ∧ 0 ≤ (a.2 6 k) ∧ (a.2 6 k) ≤ 6 ∧ (1 ≤ (a.2 6 k) → (a.2 6 k) ≤ 2 → (a.2 9 k) - (a.2 8 k) ≤ 16) ∧ ((a.2 6 k) = 4 → (a.2 9 k) - (a.2 8 k) ≤ 82)))) (fun a => 2 * (4001 - (a.2 1012 0)) + a.1) (fun a => sv_T sm_XS sm_cs sm_L sm_sh 7 (q_cut S) 16 17 [(0, .ref 0), (1, sv_I a.1)] [] (sv_sts (sv_up (sv_up (sv_up S 1012 0 (0 : Int)) 1018 0 (0 : Int)) 1019 0 (1 : Int)) [1012, 1018, 1019, 8, 10, 6, 9, 7] a.2)) (fun a q => (h a.1 q.1 a.2 q.2.2).1) (fun a q ih9 => ?_)
    obtain ⟨l1_8, g7⟩ := a
    obtain ⟨hl1_8, ok11, hin10i⟩ := q
    have h := (h l1_8 hl1_8 g7 hin10i).2
    show sv_T sm_XS sm_cs sm_L sm_sh 7 (q_cut S) 16 17 [(0, .ref 0), (1, sv_I l1_8)] [] (sv_sts (sv_up (sv_up (sv_up S 1012 0 (0 : Int)) 1018 0 (0 : Int)) 1019 0 (1 : Int)) [1012, 1018, 1019, 8, 10, 6, 9, 7] g7)
    have md12 : sv_mod [1012, 1018, 1019, 8, 10, 6, 9, 7] S (sv_sts (sv_up (sv_up (sv_up S 1012 0 (0 : Int)) 1018 0 (0 : Int)) 1019 0 (1 : Int)) [1012, 1018, 1019, 8, 10, 6, 9, 7] g7) := sv_mod.sts md6 (by decide)
    have md13 : sv_mod [1012, 1018, 1019, 8, 10, 6, 9, 7] (sv_up (sv_up (sv_up S 1012 0 (0 : Int)) 1018 0 (0 : Int)) 1019 0 (1 : Int)) (sv_sts (sv_up (sv_up (sv_up S 1012 0 (0 : Int)) 1018 0 (0 : Int)) 1019 0 (1 : Int)) [1012, 1018, 1019, 8, 10, 6, 9, 7] g7) := sv_mod.sts sv_mod.rf (by decide)
    refine sv_iload_n hM dX12_cut_17 rfl rfl ?_
    refine sv_cond_eq hM dX12_cut_18 hl1_8 (t := 156) rfl rfl (fun hc => ?_) (fun hc => ?_)
    · have h := h.1 (hc)
      exact sv_vret hM dX12_cut_156 rfl ⟨rfl, ok11, md12, h⟩
    · have h := h.2 (hc)
      refine sv_aload_n hM dX12_cut_21 rfl rfl ?_
      obtain ⟨o14, h⟩ := h
      refine sv_callV hM dX12_cut_22 sm_iv_353 (by decide) (sm_a0 _) rfl rfl (Nat.le_of_ble_eq_true rfl) sm_h15 (Nat.le_of_ble_eq_true rfl) (Nat.le_of_ble_eq_true rfl) (F' := 1) (Nat.le_of_ble_eq_true rfl) rfl (t_skip  (sv_sts (sv_up (sv_up (sv_up S 1012 0 (0 : Int)) 1018 0 (0 : Int)) 1019 0 (1 : Int)) [1012, 1018, 1019, 8, 10, 6, 9, 7] g7) ok11 o14) (fun v S1 hq => ?_)
      obtain ⟨r19, rfl, hr19, ok16, md17, hp18⟩ := hq
      obtain ⟨g15, rfl⟩ : ∃ g, S1 = sv_sts (sv_sts (sv_up (sv_up (sv_up S 1012 0 (0 : Int)) 1018 0 (0 : Int)) 1019 0 (1 : Int)) [1012, 1018, 1019, 8, 10, 6, 9, 7] g7) [1018, 1019] g := ⟨_, md17.eq⟩
      show sv_T sm_XS sm_cs sm_L sm_sh 7 (q_cut S) 16 25 [(0, .ref 0), (1, sv_I l1_8)] [sv_I r19] (sv_sts (sv_sts (sv_up (sv_up (sv_up S 1012 0 (0 : Int)) 1018 0 (0 : Int)) 1019 0 (1 : Int)) [1012, 1018, 1019, 8, 10, 6, 9, 7] g7) [1018, 1019] g15)
      have md20 : sv_mod [1012, 1018, 1019, 8, 10, 6, 9, 7] S (sv_sts (sv_sts (sv_up (sv_up (sv_up S 1012 0 (0 : Int)) 1018 0 (0 : Int)) 1019 0 (1 : Int)) [1012, 1018, 1019, 8, 10, 6, 9, 7] g7) [1018, 1019] g15) := sv_mod.sts md12 (by decide)
      have md21 : sv_mod [1012, 1018, 1019, 8, 10, 6, 9, 7] (sv_up (sv_up (sv_up S 1012 0 (0 : Int)) 1018 0 (0 : Int)) 1019 0 (1 : Int)) (sv_sts (sv_sts (sv_up (sv_up (sv_up S 1012 0 (0 : Int)) 1018 0 (0 : Int)) 1019 0 (1 : Int)) [1012, 1018, 1019, 8, 10, 6, 9, 7] g7) [1018, 1019] g15) := sv_mod.sts md13 (by decide)
      have h := h r19 hr19 g15 hp18
      refine sv_istore_n hM dX12_cut_25 (by decide) rfl ?_
      show sv_T sm_XS sm_cs sm_L sm_sh 7 (q_cut S) 16 26 [(0, .ref 0), (1, sv_I l1_8), (2, sv_I r19)] [] (sv_sts (sv_sts (sv_up (sv_up (sv_up S 1012 0 (0 : Int)) 1018 0 (0 : Int)) 1019 0 (1 : Int)) [1012, 1018, 1019, 8, 10, 6, 9, 7] g7) [1018, 1019] g15)
      refine sv_aload_n hM dX12_cut_26 rfl rfl ?_
      refine sv_getA hM dX12_cut_27 sm_fl_33 (sm_a0 _) sm_k15 rfl ?_
      refine sv_aload_n hM dX12_cut_30 rfl rfl ?_
      have k22 : sv_R (g7 1012 0) := sm_okI ok16 sm_r1012 0
      have h := h k22
      refine sv_getI hM dX12_cut_31 sm_fl_350 (sm_a0 _) sm_k12 rfl (x := (g7 1012 0)) rfl ?_
      refine sv_aload_n hM dX12_cut_34 rfl rfl ?_
      have k23 : sv_R (g15 1018 0) := sm_okI ok16 sm_r1018 0
      have h := h k23
      refine sv_getI hM dX12_cut_35 sm_fl_344 (sm_a0 _) sm_k18 rfl (x := (g15 1018 0)) rfl ?_
      obtain ⟨o24, h⟩ := h
      refine sv_iast sm_X hM dX12_cut_38 (sm_a8 _) (by decide) o24.1 o24.2 rfl ?_
      have ok25 : sm_ok (sv_up (sv_sts (sv_sts (sv_up (sv_up (sv_up S 1012 0 (0 : Int)) 1018 0 (0 : Int)) 1019 0 (1 : Int)) [1012, 1018, 1019, 8, 10, 6, 9, 7] g7) [1018, 1019] g15) 8 (g7 1012 0) (g15 1018 0)) := sm_upI ok16 sm_r8 k23
      have md26 : sv_mod [1012, 1018, 1019, 8, 10, 6, 9, 7] S (sv_up (sv_sts (sv_sts (sv_up (sv_up (sv_up S 1012 0 (0 : Int)) 1018 0 (0 : Int)) 1019 0 (1 : Int)) [1012, 1018, 1019, 8, 10, 6, 9, 7] g7) [1018, 1019] g15) 8 (g7 1012 0) (g15 1018 0)) := sv_mod.up md20 (by decide)
      have md27 : sv_mod [1012, 1018, 1019, 8, 10, 6, 9, 7] (sv_up (sv_up (sv_up S 1012 0 (0 : Int)) 1018 0 (0 : Int)) 1019 0 (1 : Int)) (sv_up (sv_sts (sv_sts (sv_up (sv_up (sv_up S 1012 0 (0 : Int)) 1018 0 (0 : Int)) 1019 0 (1 : Int)) [1012, 1018, 1019, 8, 10, 6, 9, 7] g7) [1018, 1019] g15) 8 (g7 1012 0) (g15 1018 0)) := sv_mod.up md21 (by decide)
      refine sv_aload_n hM dX12_cut_39 rfl rfl ?_
      refine sv_getA hM dX12_cut_40 sm_fl_39 (sm_a0 _) sm_k17 rfl ?_
      refine sv_aload_n hM dX12_cut_43 rfl rfl ?_
      refine sv_getI hM dX12_cut_44 sm_fl_350 (sm_a0 _) sm_k12 rfl (x := (g7 1012 0)) rfl ?_
      refine sv_aload_n hM dX12_cut_47 rfl rfl ?_
      have k28 : sv_R (g15 1019 0) := sm_okI ok25 sm_r1019 0
      have h := h k28
      refine sv_getI hM dX12_cut_48 sm_fl_347 (sm_a0 _) sm_k19 rfl (x := (g15 1019 0)) rfl ?_
      refine sv_iast sm_X hM dX12_cut_51 (sm_a10 _) (by decide) o24.1 o24.2 rfl ?_
      have ok29 : sm_ok (sv_up (sv_up (sv_sts (sv_sts (sv_up (sv_up (sv_up S 1012 0 (0 : Int)) 1018 0 (0 : Int)) 1019 0 (1 : Int)) [1012, 1018, 1019, 8, 10, 6, 9, 7] g7) [1018, 1019] g15) 8 (g7 1012 0) (g15 1018 0)) 10 (g7 1012 0) (g15 1019 0)) := sm_upI ok25 sm_r10 k28
      have md30 : sv_mod [1012, 1018, 1019, 8, 10, 6, 9, 7] S (sv_up (sv_up (sv_sts (sv_sts (sv_up (sv_up (sv_up S 1012 0 (0 : Int)) 1018 0 (0 : Int)) 1019 0 (1 : Int)) [1012, 1018, 1019, 8, 10, 6, 9, 7] g7) [1018, 1019] g15) 8 (g7 1012 0) (g15 1018 0)) 10 (g7 1012 0) (g15 1019 0)) := sv_mod.up md26 (by decide)
      have md31 : sv_mod [1012, 1018, 1019, 8, 10, 6, 9, 7] (sv_up (sv_up (sv_up S 1012 0 (0 : Int)) 1018 0 (0 : Int)) 1019 0 (1 : Int)) (sv_up (sv_up (sv_sts (sv_sts (sv_up (sv_up (sv_up S 1012 0 (0 : Int)) 1018 0 (0 : Int)) 1019 0 (1 : Int)) [1012, 1018, 1019, 8, 10, 6, 9, 7] g7) [1018, 1019] g15) 8 (g7 1012 0) (g15 1018 0)) 10 (g7 1012 0) (g15 1019 0)) := sv_mod.up md27 (by decide)
      refine sv_iload_n hM dX12_cut_52 rfl rfl ?_
      refine sv_cond_ne hM dX12_cut_53 hr19 (t := 70) rfl rfl (fun hc => ?_) (fun hc => ?_)
      · have h := h.1 (hc)
        refine sv_aload_n hM dX12_cut_70 rfl rfl ?_
        refine sv_aload_n hM dX12_cut_71 rfl rfl ?_
        refine sv_getI hM dX12_cut_72 sm_fl_344 (sm_a0 _) sm_k18 rfl (x := (g15 1018 0)) rfl ?_
        refine sv_callV hM dX12_cut_75 sm_iv_331 (by decide) (sm_a0 _) rfl rfl (Nat.le_of_ble_eq_true rfl) sm_h11 (Nat.le_of_ble_eq_true rfl) (Nat.le_of_ble_eq_true rfl) (F' := 0) (Nat.le_of_ble_eq_true rfl) rfl (t_isThere (g15 1018 0) (sv_up (sv_up (sv_sts (sv_sts (sv_up (sv_up (sv_up S 1012 0 (0 : Int)) 1018 0 (0 : Int)) 1019 0 (1 : Int)) [1012, 1018, 1019, 8, 10, 6, 9, 7] g7) [1018, 1019] g15) 8 (g7 1012 0) (g15 1018 0)) 10 (g7 1012 0) (g15 1019 0)) ok29 k23) (fun v S1 hq => ?_)
        obtain ⟨rfl, hS1⟩ := hq
        obtain rfl : (sv_up (sv_up (sv_sts (sv_sts (sv_up (sv_up (sv_up S 1012 0 (0 : Int)) 1018 0 (0 : Int)) 1019 0 (1 : Int)) [1012, 1018, 1019, 8, 10, 6, 9, 7] g7) [1018, 1019] g15) 8 (g7 1012 0) (g15 1018 0)) 10 (g7 1012 0) (g15 1019 0)) = S1 := hS1.symm
        show sv_T sm_XS sm_cs sm_L sm_sh 7 (q_cut S) 16 78 [(0, .ref 0), (1, sv_I l1_8), (2, sv_I r19)] [sv_I (if (g15 1018 0) < (S 1004 0) then 1 else 0)] (sv_up (sv_up (sv_sts (sv_sts (sv_up (sv_up (sv_up S 1012 0 (0 : Int)) 1018 0 (0 : Int)) 1019 0 (1 : Int)) [1012, 1018, 1019, 8, 10, 6, 9, 7] g7) [1018, 1019] g15) 8 (g7 1012 0) (g15 1018 0)) 10 (g7 1012 0) (g15 1019 0))
        refine sv_cond_ne hM dX12_cut_78 (sv_Rite : sv_R (if (g15 1018 0) < (S 1004 0) then 1 else 0)) (t := 94) rfl rfl (fun hc => ?_) (fun hc => ?_)
        · have h := h.1 (sv_itep hc)
          refine sv_aload_n hM dX12_cut_94 rfl rfl ?_
          obtain ⟨o32, h⟩ := h
          refine sv_callV hM dX12_cut_95 sm_iv_357 (by decide) (sm_a0 _) rfl rfl (Nat.le_of_ble_eq_true rfl) sm_h17 (Nat.le_of_ble_eq_true rfl) (Nat.le_of_ble_eq_true rfl) (F' := 6) (Nat.le_of_ble_eq_true rfl) rfl (t_cutOne  (sv_up (sv_up (sv_sts (sv_sts (sv_up (sv_up (sv_up S 1012 0 (0 : Int)) 1018 0 (0 : Int)) 1019 0 (1 : Int)) [1012, 1018, 1019, 8, 10, 6, 9, 7] g7) [1018, 1019] g15) 8 (g7 1012 0) (g15 1018 0)) 10 (g7 1012 0) (g15 1019 0)) ok29 o32) (fun v S1 hq => ?_)
          obtain ⟨rfl, ok34, md35, hp36⟩ := hq
          obtain ⟨g33, rfl⟩ : ∃ g, S1 = sv_sts (sv_up (sv_up (sv_sts (sv_sts (sv_up (sv_up (sv_up S 1012 0 (0 : Int)) 1018 0 (0 : Int)) 1019 0 (1 : Int)) [1012, 1018, 1019, 8, 10, 6, 9, 7] g7) [1018, 1019] g15) 8 (g7 1012 0) (g15 1018 0)) 10 (g7 1012 0) (g15 1019 0)) [1018, 7, 6] g := ⟨_, md35.eq⟩
          show sv_T sm_XS sm_cs sm_L sm_sh 7 (q_cut S) 16 98 [(0, .ref 0), (1, sv_I l1_8), (2, sv_I r19)] [] (sv_sts (sv_up (sv_up (sv_sts (sv_sts (sv_up (sv_up (sv_up S 1012 0 (0 : Int)) 1018 0 (0 : Int)) 1019 0 (1 : Int)) [1012, 1018, 1019, 8, 10, 6, 9, 7] g7) [1018, 1019] g15) 8 (g7 1012 0) (g15 1018 0)) 10 (g7 1012 0) (g15 1019 0)) [1018, 7, 6] g33)
          have md37 : sv_mod [1012, 1018, 1019, 8, 10, 6, 9, 7] S (sv_sts (sv_up (sv_up (sv_sts (sv_sts (sv_up (sv_up (sv_up S 1012 0 (0 : Int)) 1018 0 (0 : Int)) 1019 0 (1 : Int)) [1012, 1018, 1019, 8, 10, 6, 9, 7] g7) [1018, 1019] g15) 8 (g7 1012 0) (g15 1018 0)) 10 (g7 1012 0) (g15 1019 0)) [1018, 7, 6] g33) := sv_mod.sts md30 (by decide)
          have md38 : sv_mod [1012, 1018, 1019, 8, 10, 6, 9, 7] (sv_up (sv_up (sv_up S 1012 0 (0 : Int)) 1018 0 (0 : Int)) 1019 0 (1 : Int)) (sv_sts (sv_up (sv_up (sv_sts (sv_sts (sv_up (sv_up (sv_up S 1012 0 (0 : Int)) 1018 0 (0 : Int)) 1019 0 (1 : Int)) [1012, 1018, 1019, 8, 10, 6, 9, 7] g7) [1018, 1019] g15) 8 (g7 1012 0) (g15 1018 0)) 10 (g7 1012 0) (g15 1019 0)) [1018, 7, 6] g33) := sv_mod.sts md31 (by decide)
          have h := h g33 hp36
          refine sv_aload_n hM dX12_cut_98 rfl rfl ?_
          refine sv_getA hM dX12_cut_99 sm_fl_36 (sm_a0 _) sm_k16 rfl ?_
          refine sv_aload_n hM dX12_cut_102 rfl rfl ?_
          refine sv_getI hM dX12_cut_103 sm_fl_350 (sm_a0 _) sm_k12 rfl (x := (g7 1012 0)) rfl ?_
          refine sv_aload_n hM dX12_cut_106 rfl rfl ?_
          have k39 : sv_R (g33 1018 0) := sm_okI ok34 sm_r1018 0
          have h := h k39
          refine sv_getI hM dX12_cut_107 sm_fl_344 (sm_a0 _) sm_k18 rfl (x := (g33 1018 0)) rfl ?_
          refine sv_iast sm_X hM dX12_cut_110 (sm_a9 _) (by decide) o24.1 o24.2 rfl ?_
          have ok40 : sm_ok (sv_up (sv_sts (sv_up (sv_up (sv_sts (sv_sts (sv_up (sv_up (sv_up S 1012 0 (0 : Int)) 1018 0 (0 : Int)) 1019 0 (1 : Int)) [1012, 1018, 1019, 8, 10, 6, 9, 7] g7) [1018, 1019] g15) 8 (g7 1012 0) (g15 1018 0)) 10 (g7 1012 0) (g15 1019 0)) [1018, 7, 6] g33) 9 (g7 1012 0) (g33 1018 0)) := sm_upI ok34 sm_r9 k39
          have md41 : sv_mod [1012, 1018, 1019, 8, 10, 6, 9, 7] S (sv_up (sv_sts (sv_up (sv_up (sv_sts (sv_sts (sv_up (sv_up (sv_up S 1012 0 (0 : Int)) 1018 0 (0 : Int)) 1019 0 (1 : Int)) [1012, 1018, 1019, 8, 10, 6, 9, 7] g7) [1018, 1019] g15) 8 (g7 1012 0) (g15 1018 0)) 10 (g7 1012 0) (g15 1019 0)) [1018, 7, 6] g33) 9 (g7 1012 0) (g33 1018 0)) := sv_mod.up md37 (by decide)
          have md42 : sv_mod [1012, 1018, 1019, 8, 10, 6, 9, 7] (sv_up (sv_up (sv_up S 1012 0 (0 : Int)) 1018 0 (0 : Int)) 1019 0 (1 : Int)) (sv_up (sv_sts (sv_up (sv_up (sv_sts (sv_sts (sv_up (sv_up (sv_up S 1012 0 (0 : Int)) 1018 0 (0 : Int)) 1019 0 (1 : Int)) [1012, 1018, 1019, 8, 10, 6, 9, 7] g7) [1018, 1019] g15) 8 (g7 1012 0) (g15 1018 0)) 10 (g7 1012 0) (g15 1019 0)) [1018, 7, 6] g33) 9 (g7 1012 0) (g33 1018 0)) := sv_mod.up md38 (by decide)
          refine sv_aload_n hM dX12_cut_111 rfl rfl ?_
          refine sv_getA hM dX12_cut_112 sm_fl_27 (sm_a0 _) sm_k13 rfl ?_
          refine sv_aload_n hM dX12_cut_115 rfl rfl ?_
          refine sv_getI hM dX12_cut_116 sm_fl_350 (sm_a0 _) sm_k12 rfl (x := (g7 1012 0)) rfl ?_
          have k43 : sv_R (g33 6 (g7 1012 0)) := sm_okI ok40 sm_r6 (g7 1012 0)
          have h := h k43
          refine sv_iald hM dX12_cut_119 (sm_a6 _) (by decide) o24.1 o24.2 rfl (x := (g33 6 (g7 1012 0))) rfl ?_
          refine sv_bipush (d := (6 : Int)) hM dX12_cut_120 rfl rfl ?_
          refine sv_icmp_eq hM dX12_cut_122 k43 (⟨by decide, by decide⟩ : sv_R (6 : Int)) (t := 141) rfl rfl (fun hc => ?_) (fun hc => ?_)
          · have h := h.1 (hc)
            refine sv_iconst (d := (0 : Int)) hM dX12_cut_141 rfl rfl ?_
            refine sv_istore_n hM dX12_cut_142 (by decide) rfl ?_
            show sv_T sm_XS sm_cs sm_L sm_sh 7 (q_cut S) 16 143 [(0, .ref 0), (1, sv_I (0 : Int)), (2, sv_I r19)] [] (sv_up (sv_sts (sv_up (sv_up (sv_sts (sv_sts (sv_up (sv_up (sv_up S 1012 0 (0 : Int)) 1018 0 (0 : Int)) 1019 0 (1 : Int)) [1012, 1018, 1019, 8, 10, 6, 9, 7] g7) [1018, 1019] g15) 8 (g7 1012 0) (g15 1018 0)) 10 (g7 1012 0) (g15 1019 0)) [1018, 7, 6] g33) 9 (g7 1012 0) (g33 1018 0))
            refine sv_aload_n hM dX12_cut_143 rfl rfl ?_
            refine sv_dupA hM dX12_cut_144 rfl ?_
            refine sv_getI hM dX12_cut_145 sm_fl_350 (sm_a0 _) sm_k12 rfl (x := (g7 1012 0)) rfl ?_
            refine sv_iconst (d := (1 : Int)) hM dX12_cut_148 rfl rfl ?_
            refine sv_iadd hM dX12_cut_149 rfl ?_
            obtain ⟨o44, h⟩ := h
            refine sv_putI sm_X hM dX12_cut_150 sm_fp_350 (sm_a0 _) sm_q12 (Or.inl rfl) rfl rfl rfl rfl ?_
            have ok45 : sm_ok (sv_up (sv_up (sv_sts (sv_up (sv_up (sv_sts (sv_sts (sv_up (sv_up (sv_up S 1012 0 (0 : Int)) 1018 0 (0 : Int)) 1019 0 (1 : Int)) [1012, 1018, 1019, 8, 10, 6, 9, 7] g7) [1018, 1019] g15) 8 (g7 1012 0) (g15 1018 0)) 10 (g7 1012 0) (g15 1019 0)) [1018, 7, 6] g33) 9 (g7 1012 0) (g33 1018 0)) 1012 0 ((g7 1012 0) + (1 : Int))) := sm_upI ok40 sm_r1012 o44
            have md46 : sv_mod [1012, 1018, 1019, 8, 10, 6, 9, 7] S (sv_up (sv_up (sv_sts (sv_up (sv_up (sv_sts (sv_sts (sv_up (sv_up (sv_up S 1012 0 (0 : Int)) 1018 0 (0 : Int)) 1019 0 (1 : Int)) [1012, 1018, 1019, 8, 10, 6, 9, 7] g7) [1018, 1019] g15) 8 (g7 1012 0) (g15 1018 0)) 10 (g7 1012 0) (g15 1019 0)) [1018, 7, 6] g33) 9 (g7 1012 0) (g33 1018 0)) 1012 0 ((g7 1012 0) + (1 : Int))) := sv_mod.up md41 (by decide)
            have md47 : sv_mod [1012, 1018, 1019, 8, 10, 6, 9, 7] (sv_up (sv_up (sv_up S 1012 0 (0 : Int)) 1018 0 (0 : Int)) 1019 0 (1 : Int)) (sv_up (sv_up (sv_sts (sv_up (sv_up (sv_sts (sv_sts (sv_up (sv_up (sv_up S 1012 0 (0 : Int)) 1018 0 (0 : Int)) 1019 0 (1 : Int)) [1012, 1018, 1019, 8, 10, 6, 9, 7] g7) [1018, 1019] g15) 8 (g7 1012 0) (g15 1018 0)) 10 (g7 1012 0) (g15 1019 0)) [1018, 7, 6] g33) 9 (g7 1012 0) (g33 1018 0)) 1012 0 ((g7 1012 0) + (1 : Int))) := sv_mod.up md42 (by decide)
            refine sv_goto hM dX12_cut_153 (pc' := 17) rfl ?_
            have eS := sv_mod.eq md47
            have hb := ih9 ((0 : Int), (sv_up (sv_up (sv_sts (sv_up (sv_up (sv_sts (sv_sts (sv_up (sv_up (sv_up S 1012 0 (0 : Int)) 1018 0 (0 : Int)) 1019 0 (1 : Int)) [1012, 1018, 1019, 8, 10, 6, 9, 7] g7) [1018, 1019] g15) 8 (g7 1012 0) (g15 1018 0)) 10 (g7 1012 0) (g15 1019 0)) [1018, 7, 6] g33) 9 (g7 1012 0) (g33 1018 0)) 1012 0 ((g7 1012 0) + (1 : Int)))) ⟨(⟨by decide, by decide⟩ : sv_R (0 : Int)), (by rw [← eS]; exact ok45), h.1⟩ h.2
            have hb : sv_T sm_XS sm_cs sm_L sm_sh 7 (q_cut S) 16 17 [(0, .ref 0), (1, sv_I (0 : Int))] [] (sv_up (sv_up (sv_sts (sv_up (sv_up (sv_sts (sv_sts (sv_up (sv_up (sv_up S 1012 0 (0 : Int)) 1018 0 (0 : Int)) 1019 0 (1 : Int)) [1012, 1018, 1019, 8, 10, 6, 9, 7] g7) [1018, 1019] g15) 8 (g7 1012 0) (g15 1018 0)) 10 (g7 1012 0) (g15 1019 0)) [1018, 7, 6] g33) 9 (g7 1012 0) (g33 1018 0)) 1012 0 ((g7 1012 0) + (1 : Int))) := Eq.mpr (congrArg (fun Z => sv_T sm_XS sm_cs sm_L sm_sh 7 (q_cut S) 16 17 [(0, .ref 0), (1, sv_I (0 : Int))] [] Z) eS) hb
            exact sv_less (lv := [(0, .ref 0), (1, sv_I (0 : Int))]) (sv_Sub_cons rfl (sv_Sub_cons rfl sv_Sub_nil)) hb
          · have h := h.2 (hc)
            refine sv_aload_n hM dX12_cut_125 rfl rfl ?_
            refine sv_getA hM dX12_cut_126 sm_fl_27 (sm_a0 _) sm_k13 rfl ?_
            refine sv_aload_n hM dX12_cut_129 rfl rfl ?_
            refine sv_getI hM dX12_cut_130 sm_fl_350 (sm_a0 _) sm_k12 rfl (x := (g7 1012 0)) rfl ?_
            refine sv_iald hM dX12_cut_133 (sm_a6 _) (by decide) o24.1 o24.2 rfl (x := (g33 6 (g7 1012 0))) rfl ?_
            refine sv_cond_eq hM dX12_cut_134 k43 (t := 141) rfl rfl (fun hc => ?_) (fun hc => ?_)
            · have h := h.1 (hc)
              refine sv_iconst (d := (0 : Int)) hM dX12_cut_141 rfl rfl ?_
              refine sv_istore_n hM dX12_cut_142 (by decide) rfl ?_
              show sv_T sm_XS sm_cs sm_L sm_sh 7 (q_cut S) 16 143 [(0, .ref 0), (1, sv_I (0 : Int)), (2, sv_I r19)] [] (sv_up (sv_sts (sv_up (sv_up (sv_sts (sv_sts (sv_up (sv_up (sv_up S 1012 0 (0 : Int)) 1018 0 (0 : Int)) 1019 0 (1 : Int)) [1012, 1018, 1019, 8, 10, 6, 9, 7] g7) [1018, 1019] g15) 8 (g7 1012 0) (g15 1018 0)) 10 (g7 1012 0) (g15 1019 0)) [1018, 7, 6] g33) 9 (g7 1012 0) (g33 1018 0))
              refine sv_aload_n hM dX12_cut_143 rfl rfl ?_
              refine sv_dupA hM dX12_cut_144 rfl ?_
              refine sv_getI hM dX12_cut_145 sm_fl_350 (sm_a0 _) sm_k12 rfl (x := (g7 1012 0)) rfl ?_
              refine sv_iconst (d := (1 : Int)) hM dX12_cut_148 rfl rfl ?_
              refine sv_iadd hM dX12_cut_149 rfl ?_
              obtain ⟨o48, h⟩ := h
              refine sv_putI sm_X hM dX12_cut_150 sm_fp_350 (sm_a0 _) sm_q12 (Or.inl rfl) rfl rfl rfl rfl ?_
              have ok49 : sm_ok (sv_up (sv_up (sv_sts (sv_up (sv_up (sv_sts (sv_sts (sv_up (sv_up (sv_up S 1012 0 (0 : Int)) 1018 0 (0 : Int)) 1019 0 (1 : Int)) [1012, 1018, 1019, 8, 10, 6, 9, 7] g7) [1018, 1019] g15) 8 (g7 1012 0) (g15 1018 0)) 10 (g7 1012 0) (g15 1019 0)) [1018, 7, 6] g33) 9 (g7 1012 0) (g33 1018 0)) 1012 0 ((g7 1012 0) + (1 : Int))) := sm_upI ok40 sm_r1012 o48
              have md50 : sv_mod [1012, 1018, 1019, 8, 10, 6, 9, 7] S (sv_up (sv_up (sv_sts (sv_up (sv_up (sv_sts (sv_sts (sv_up (sv_up (sv_up S 1012 0 (0 : Int)) 1018 0 (0 : Int)) 1019 0 (1 : Int)) [1012, 1018, 1019, 8, 10, 6, 9, 7] g7) [1018, 1019] g15) 8 (g7 1012 0) (g15 1018 0)) 10 (g7 1012 0) (g15 1019 0)) [1018, 7, 6] g33) 9 (g7 1012 0) (g33 1018 0)) 1012 0 ((g7 1012 0) + (1 : Int))) := sv_mod.up md41 (by decide)
              have md51 : sv_mod [1012, 1018, 1019, 8, 10, 6, 9, 7] (sv_up (sv_up (sv_up S 1012 0 (0 : Int)) 1018 0 (0 : Int)) 1019 0 (1 : Int)) (sv_up (sv_up (sv_sts (sv_up (sv_up (sv_sts (sv_sts (sv_up (sv_up (sv_up S 1012 0 (0 : Int)) 1018 0 (0 : Int)) 1019 0 (1 : Int)) [1012, 1018, 1019, 8, 10, 6, 9, 7] g7) [1018, 1019] g15) 8 (g7 1012 0) (g15 1018 0)) 10 (g7 1012 0) (g15 1019 0)) [1018, 7, 6] g33) 9 (g7 1012 0) (g33 1018 0)) 1012 0 ((g7 1012 0) + (1 : Int))) := sv_mod.up md42 (by decide)
              refine sv_goto hM dX12_cut_153 (pc' := 17) rfl ?_
              have eS := sv_mod.eq md51
              have hb := ih9 ((0 : Int), (sv_up (sv_up (sv_sts (sv_up (sv_up (sv_sts (sv_sts (sv_up (sv_up (sv_up S 1012 0 (0 : Int)) 1018 0 (0 : Int)) 1019 0 (1 : Int)) [1012, 1018, 1019, 8, 10, 6, 9, 7] g7) [1018, 1019] g15) 8 (g7 1012 0) (g15 1018 0)) 10 (g7 1012 0) (g15 1019 0)) [1018, 7, 6] g33) 9 (g7 1012 0) (g33 1018 0)) 1012 0 ((g7 1012 0) + (1 : Int)))) ⟨(⟨by decide, by decide⟩ : sv_R (0 : Int)), (by rw [← eS]; exact ok49), h.1⟩ h.2
              have hb : sv_T sm_XS sm_cs sm_L sm_sh 7 (q_cut S) 16 17 [(0, .ref 0), (1, sv_I (0 : Int))] [] (sv_up (sv_up (sv_sts (sv_up (sv_up (sv_sts (sv_sts (sv_up (sv_up (sv_up S 1012 0 (0 : Int)) 1018 0 (0 : Int)) 1019 0 (1 : Int)) [1012, 1018, 1019, 8, 10, 6, 9, 7] g7) [1018, 1019] g15) 8 (g7 1012 0) (g15 1018 0)) 10 (g7 1012 0) (g15 1019 0)) [1018, 7, 6] g33) 9 (g7 1012 0) (g33 1018 0)) 1012 0 ((g7 1012 0) + (1 : Int))) := Eq.mpr (congrArg (fun Z => sv_T sm_XS sm_cs sm_L sm_sh 7 (q_cut S) 16 17 [(0, .ref 0), (1, sv_I (0 : Int))] [] Z) eS) hb
              exact sv_less (lv := [(0, .ref 0), (1, sv_I (0 : Int))]) (sv_Sub_cons rfl (sv_Sub_cons rfl sv_Sub_nil)) hb
            · have h := h.2 (hc)
              refine sv_iconst (d := (1 : Int)) hM dX12_cut_137 rfl rfl ?_
              refine sv_goto hM dX12_cut_138 (pc' := 142) rfl ?_
              refine sv_istore_n hM dX12_cut_142 (by decide) rfl ?_
              show sv_T sm_XS sm_cs sm_L sm_sh 7 (q_cut S) 16 143 [(0, .ref 0), (1, sv_I (1 : Int)), (2, sv_I r19)] [] (sv_up (sv_sts (sv_up (sv_up (sv_sts (sv_sts (sv_up (sv_up (sv_up S 1012 0 (0 : Int)) 1018 0 (0 : Int)) 1019 0 (1 : Int)) [1012, 1018, 1019, 8, 10, 6, 9, 7] g7) [1018, 1019] g15) 8 (g7 1012 0) (g15 1018 0)) 10 (g7 1012 0) (g15 1019 0)) [1018, 7, 6] g33) 9 (g7 1012 0) (g33 1018 0))
              refine sv_aload_n hM dX12_cut_143 rfl rfl ?_
              refine sv_dupA hM dX12_cut_144 rfl ?_
              refine sv_getI hM dX12_cut_145 sm_fl_350 (sm_a0 _) sm_k12 rfl (x := (g7 1012 0)) rfl ?_
              refine sv_iconst (d := (1 : Int)) hM dX12_cut_148 rfl rfl ?_
              refine sv_iadd hM dX12_cut_149 rfl ?_
              obtain ⟨o52, h⟩ := h
              refine sv_putI sm_X hM dX12_cut_150 sm_fp_350 (sm_a0 _) sm_q12 (Or.inl rfl) rfl rfl rfl rfl ?_
              have ok53 : sm_ok (sv_up (sv_up (sv_sts (sv_up (sv_up (sv_sts (sv_sts (sv_up (sv_up (sv_up S 1012 0 (0 : Int)) 1018 0 (0 : Int)) 1019 0 (1 : Int)) [1012, 1018, 1019, 8, 10, 6, 9, 7] g7) [1018, 1019] g15) 8 (g7 1012 0) (g15 1018 0)) 10 (g7 1012 0) (g15 1019 0)) [1018, 7, 6] g33) 9 (g7 1012 0) (g33 1018 0)) 1012 0 ((g7 1012 0) + (1 : Int))) := sm_upI ok40 sm_r1012 o52
              have md54 : sv_mod [1012, 1018, 1019, 8, 10, 6, 9, 7] S (sv_up (sv_up (sv_sts (sv_up (sv_up (sv_sts (sv_sts (sv_up (sv_up (sv_up S 1012 0 (0 : Int)) 1018 0 (0 : Int)) 1019 0 (1 : Int)) [1012, 1018, 1019, 8, 10, 6, 9, 7] g7) [1018, 1019] g15) 8 (g7 1012 0) (g15 1018 0)) 10 (g7 1012 0) (g15 1019 0)) [1018, 7, 6] g33) 9 (g7 1012 0) (g33 1018 0)) 1012 0 ((g7 1012 0) + (1 : Int))) := sv_mod.up md41 (by decide)
              have md55 : sv_mod [1012, 1018, 1019, 8, 10, 6, 9, 7] (sv_up (sv_up (sv_up S 1012 0 (0 : Int)) 1018 0 (0 : Int)) 1019 0 (1 : Int)) (sv_up (sv_up (sv_sts (sv_up (sv_up (sv_sts (sv_sts (sv_up (sv_up (sv_up S 1012 0 (0 : Int)) 1018 0 (0 : Int)) 1019 0 (1 : Int)) [1012, 1018, 1019, 8, 10, 6, 9, 7] g7) [1018, 1019] g15) 8 (g7 1012 0) (g15 1018 0)) 10 (g7 1012 0) (g15 1019 0)) [1018, 7, 6] g33) 9 (g7 1012 0) (g33 1018 0)) 1012 0 ((g7 1012 0) + (1 : Int))) := sv_mod.up md42 (by decide)
              refine sv_goto hM dX12_cut_153 (pc' := 17) rfl ?_
              have eS := sv_mod.eq md55
              have hb := ih9 ((1 : Int), (sv_up (sv_up (sv_sts (sv_up (sv_up (sv_sts (sv_sts (sv_up (sv_up (sv_up S 1012 0 (0 : Int)) 1018 0 (0 : Int)) 1019 0 (1 : Int)) [1012, 1018, 1019, 8, 10, 6, 9, 7] g7) [1018, 1019] g15) 8 (g7 1012 0) (g15 1018 0)) 10 (g7 1012 0) (g15 1019 0)) [1018, 7, 6] g33) 9 (g7 1012 0) (g33 1018 0)) 1012 0 ((g7 1012 0) + (1 : Int)))) ⟨(⟨by decide, by decide⟩ : sv_R (1 : Int)), (by rw [← eS]; exact ok53), h.1⟩ h.2
              have hb : sv_T sm_XS sm_cs sm_L sm_sh 7 (q_cut S) 16 17 [(0, .ref 0), (1, sv_I (1 : Int))] [] (sv_up (sv_up (sv_sts (sv_up (sv_up (sv_sts (sv_sts (sv_up (sv_up (sv_up S 1012 0 (0 : Int)) 1018 0 (0 : Int)) 1019 0 (1 : Int)) [1012, 1018, 1019, 8, 10, 6, 9, 7] g7) [1018, 1019] g15) 8 (g7 1012 0) (g15 1018 0)) 10 (g7 1012 0) (g15 1019 0)) [1018, 7, 6] g33) 9 (g7 1012 0) (g33 1018 0)) 1012 0 ((g7 1012 0) + (1 : Int))) := Eq.mpr (congrArg (fun Z => sv_T sm_XS sm_cs sm_L sm_sh 7 (q_cut S) 16 17 [(0, .ref 0), (1, sv_I (1 : Int))] [] Z) eS) hb
              exact sv_less (lv := [(0, .ref 0), (1, sv_I (1 : Int))]) (sv_Sub_cons rfl (sv_Sub_cons rfl sv_Sub_nil)) hb
        · have h := h.2 (fun q => hc (by rw [if_pos q]; decide))
          refine sv_aload_n hM dX12_cut_81 rfl rfl ?_
          refine sv_getA hM dX12_cut_82 sm_fl_27 (sm_a0 _) sm_k13 rfl ?_
          refine sv_aload_n hM dX12_cut_85 rfl rfl ?_
          refine sv_getI hM dX12_cut_86 sm_fl_350 (sm_a0 _) sm_k12 rfl (x := (g7 1012 0)) rfl ?_
          refine sv_iconst (d := (0 : Int)) hM dX12_cut_89 rfl rfl ?_
          refine sv_iast sm_X hM dX12_cut_90 (sm_a6 _) (by decide) o24.1 o24.2 rfl ?_
          have ok56 : sm_ok (sv_up (sv_up (sv_up (sv_sts (sv_sts (sv_up (sv_up (sv_up S 1012 0 (0 : Int)) 1018 0 (0 : Int)) 1019 0 (1 : Int)) [1012, 1018, 1019, 8, 10, 6, 9, 7] g7) [1018, 1019] g15) 8 (g7 1012 0) (g15 1018 0)) 10 (g7 1012 0) (g15 1019 0)) 6 (g7 1012 0) (0 : Int)) := sm_upI ok29 sm_r6 (⟨by decide, by decide⟩ : sv_R (0 : Int))
          have md57 : sv_mod [1012, 1018, 1019, 8, 10, 6, 9, 7] S (sv_up (sv_up (sv_up (sv_sts (sv_sts (sv_up (sv_up (sv_up S 1012 0 (0 : Int)) 1018 0 (0 : Int)) 1019 0 (1 : Int)) [1012, 1018, 1019, 8, 10, 6, 9, 7] g7) [1018, 1019] g15) 8 (g7 1012 0) (g15 1018 0)) 10 (g7 1012 0) (g15 1019 0)) 6 (g7 1012 0) (0 : Int)) := sv_mod.up md30 (by decide)
          have md58 : sv_mod [1012, 1018, 1019, 8, 10, 6, 9, 7] (sv_up (sv_up (sv_up S 1012 0 (0 : Int)) 1018 0 (0 : Int)) 1019 0 (1 : Int)) (sv_up (sv_up (sv_up (sv_sts (sv_sts (sv_up (sv_up (sv_up S 1012 0 (0 : Int)) 1018 0 (0 : Int)) 1019 0 (1 : Int)) [1012, 1018, 1019, 8, 10, 6, 9, 7] g7) [1018, 1019] g15) 8 (g7 1012 0) (g15 1018 0)) 10 (g7 1012 0) (g15 1019 0)) 6 (g7 1012 0) (0 : Int)) := sv_mod.up md31 (by decide)
          refine sv_goto hM dX12_cut_91 (pc' := 98) rfl ?_
          refine sv_aload_n hM dX12_cut_98 rfl rfl ?_
          refine sv_getA hM dX12_cut_99 sm_fl_36 (sm_a0 _) sm_k16 rfl ?_
          refine sv_aload_n hM dX12_cut_102 rfl rfl ?_
          refine sv_getI hM dX12_cut_103 sm_fl_350 (sm_a0 _) sm_k12 rfl (x := (g7 1012 0)) rfl ?_
          refine sv_aload_n hM dX12_cut_106 rfl rfl ?_
          refine sv_getI hM dX12_cut_107 sm_fl_344 (sm_a0 _) sm_k18 rfl (x := (g15 1018 0)) rfl ?_
          refine sv_iast sm_X hM dX12_cut_110 (sm_a9 _) (by decide) o24.1 o24.2 rfl ?_
          have ok59 : sm_ok (sv_up (sv_up (sv_up (sv_up (sv_sts (sv_sts (sv_up (sv_up (sv_up S 1012 0 (0 : Int)) 1018 0 (0 : Int)) 1019 0 (1 : Int)) [1012, 1018, 1019, 8, 10, 6, 9, 7] g7) [1018, 1019] g15) 8 (g7 1012 0) (g15 1018 0)) 10 (g7 1012 0) (g15 1019 0)) 6 (g7 1012 0) (0 : Int)) 9 (g7 1012 0) (g15 1018 0)) := sm_upI ok56 sm_r9 k23
          have md60 : sv_mod [1012, 1018, 1019, 8, 10, 6, 9, 7] S (sv_up (sv_up (sv_up (sv_up (sv_sts (sv_sts (sv_up (sv_up (sv_up S 1012 0 (0 : Int)) 1018 0 (0 : Int)) 1019 0 (1 : Int)) [1012, 1018, 1019, 8, 10, 6, 9, 7] g7) [1018, 1019] g15) 8 (g7 1012 0) (g15 1018 0)) 10 (g7 1012 0) (g15 1019 0)) 6 (g7 1012 0) (0 : Int)) 9 (g7 1012 0) (g15 1018 0)) := sv_mod.up md57 (by decide)
          have md61 : sv_mod [1012, 1018, 1019, 8, 10, 6, 9, 7] (sv_up (sv_up (sv_up S 1012 0 (0 : Int)) 1018 0 (0 : Int)) 1019 0 (1 : Int)) (sv_up (sv_up (sv_up (sv_up (sv_sts (sv_sts (sv_up (sv_up (sv_up S 1012 0 (0 : Int)) 1018 0 (0 : Int)) 1019 0 (1 : Int)) [1012, 1018, 1019, 8, 10, 6, 9, 7] g7) [1018, 1019] g15) 8 (g7 1012 0) (g15 1018 0)) 10 (g7 1012 0) (g15 1019 0)) 6 (g7 1012 0) (0 : Int)) 9 (g7 1012 0) (g15 1018 0)) := sv_mod.up md58 (by decide)
          refine sv_aload_n hM dX12_cut_111 rfl rfl ?_
          refine sv_getA hM dX12_cut_112 sm_fl_27 (sm_a0 _) sm_k13 rfl ?_
          refine sv_aload_n hM dX12_cut_115 rfl rfl ?_
          refine sv_getI hM dX12_cut_116 sm_fl_350 (sm_a0 _) sm_k12 rfl (x := (g7 1012 0)) rfl ?_
          obtain ⟨v62, ev62⟩ : ∃ x : Int, (if (g7 1012 0) = (g7 1012 0) then (0 : Int) else (g7 6 (g7 1012 0))) = x := ⟨_, rfl⟩
          have h := h v62 ev62
          have k63 : sv_R v62 := ev62 ▸ (sm_okI ok59 sm_r6 (g7 1012 0))
          have h := h k63
          refine sv_iald hM dX12_cut_119 (sm_a6 _) (by decide) o24.1 o24.2 rfl (x := v62) ev62 ?_
          refine sv_bipush (d := (6 : Int)) hM dX12_cut_120 rfl rfl ?_
          refine sv_icmp_eq hM dX12_cut_122 k63 (⟨by decide, by decide⟩ : sv_R (6 : Int)) (t := 141) rfl rfl (fun hc => ?_) (fun hc => ?_)
          · have h := h.1 (hc)
            refine sv_iconst (d := (0 : Int)) hM dX12_cut_141 rfl rfl ?_
            refine sv_istore_n hM dX12_cut_142 (by decide) rfl ?_
            show sv_T sm_XS sm_cs sm_L sm_sh 7 (q_cut S) 16 143 [(0, .ref 0), (1, sv_I (0 : Int)), (2, sv_I r19)] [] (sv_up (sv_up (sv_up (sv_up (sv_sts (sv_sts (sv_up (sv_up (sv_up S 1012 0 (0 : Int)) 1018 0 (0 : Int)) 1019 0 (1 : Int)) [1012, 1018, 1019, 8, 10, 6, 9, 7] g7) [1018, 1019] g15) 8 (g7 1012 0) (g15 1018 0)) 10 (g7 1012 0) (g15 1019 0)) 6 (g7 1012 0) (0 : Int)) 9 (g7 1012 0) (g15 1018 0))
            refine sv_aload_n hM dX12_cut_143 rfl rfl ?_
            refine sv_dupA hM dX12_cut_144 rfl ?_
            refine sv_getI hM dX12_cut_145 sm_fl_350 (sm_a0 _) sm_k12 rfl (x := (g7 1012 0)) rfl ?_
            refine sv_iconst (d := (1 : Int)) hM dX12_cut_148 rfl rfl ?_
            refine sv_iadd hM dX12_cut_149 rfl ?_
            obtain ⟨o64, h⟩ := h
            refine sv_putI sm_X hM dX12_cut_150 sm_fp_350 (sm_a0 _) sm_q12 (Or.inl rfl) rfl rfl rfl rfl ?_
            have ok65 : sm_ok (sv_up (sv_up (sv_up (sv_up (sv_up (sv_sts (sv_sts (sv_up (sv_up (sv_up S 1012 0 (0 : Int)) 1018 0 (0 : Int)) 1019 0 (1 : Int)) [1012, 1018, 1019, 8, 10, 6, 9, 7] g7) [1018, 1019] g15) 8 (g7 1012 0) (g15 1018 0)) 10 (g7 1012 0) (g15 1019 0)) 6 (g7 1012 0) (0 : Int)) 9 (g7 1012 0) (g15 1018 0)) 1012 0 ((g7 1012 0) + (1 : Int))) := sm_upI ok59 sm_r1012 o64
            have md66 : sv_mod [1012, 1018, 1019, 8, 10, 6, 9, 7] S (sv_up (sv_up (sv_up (sv_up (sv_up (sv_sts (sv_sts (sv_up (sv_up (sv_up S 1012 0 (0 : Int)) 1018 0 (0 : Int)) 1019 0 (1 : Int)) [1012, 1018, 1019, 8, 10, 6, 9, 7] g7) [1018, 1019] g15) 8 (g7 1012 0) (g15 1018 0)) 10 (g7 1012 0) (g15 1019 0)) 6 (g7 1012 0) (0 : Int)) 9 (g7 1012 0) (g15 1018 0)) 1012 0 ((g7 1012 0) + (1 : Int))) := sv_mod.up md60 (by decide)
            have md67 : sv_mod [1012, 1018, 1019, 8, 10, 6, 9, 7] (sv_up (sv_up (sv_up S 1012 0 (0 : Int)) 1018 0 (0 : Int)) 1019 0 (1 : Int)) (sv_up (sv_up (sv_up (sv_up (sv_up (sv_sts (sv_sts (sv_up (sv_up (sv_up S 1012 0 (0 : Int)) 1018 0 (0 : Int)) 1019 0 (1 : Int)) [1012, 1018, 1019, 8, 10, 6, 9, 7] g7) [1018, 1019] g15) 8 (g7 1012 0) (g15 1018 0)) 10 (g7 1012 0) (g15 1019 0)) 6 (g7 1012 0) (0 : Int)) 9 (g7 1012 0) (g15 1018 0)) 1012 0 ((g7 1012 0) + (1 : Int))) := sv_mod.up md61 (by decide)
            refine sv_goto hM dX12_cut_153 (pc' := 17) rfl ?_
            have eS := sv_mod.eq md67
            have hb := ih9 ((0 : Int), (sv_up (sv_up (sv_up (sv_up (sv_up (sv_sts (sv_sts (sv_up (sv_up (sv_up S 1012 0 (0 : Int)) 1018 0 (0 : Int)) 1019 0 (1 : Int)) [1012, 1018, 1019, 8, 10, 6, 9, 7] g7) [1018, 1019] g15) 8 (g7 1012 0) (g15 1018 0)) 10 (g7 1012 0) (g15 1019 0)) 6 (g7 1012 0) (0 : Int)) 9 (g7 1012 0) (g15 1018 0)) 1012 0 ((g7 1012 0) + (1 : Int)))) ⟨(⟨by decide, by decide⟩ : sv_R (0 : Int)), (by rw [← eS]; exact ok65), h.1⟩ h.2
            have hb : sv_T sm_XS sm_cs sm_L sm_sh 7 (q_cut S) 16 17 [(0, .ref 0), (1, sv_I (0 : Int))] [] (sv_up (sv_up (sv_up (sv_up (sv_up (sv_sts (sv_sts (sv_up (sv_up (sv_up S 1012 0 (0 : Int)) 1018 0 (0 : Int)) 1019 0 (1 : Int)) [1012, 1018, 1019, 8, 10, 6, 9, 7] g7) [1018, 1019] g15) 8 (g7 1012 0) (g15 1018 0)) 10 (g7 1012 0) (g15 1019 0)) 6 (g7 1012 0) (0 : Int)) 9 (g7 1012 0) (g15 1018 0)) 1012 0 ((g7 1012 0) + (1 : Int))) := Eq.mpr (congrArg (fun Z => sv_T sm_XS sm_cs sm_L sm_sh 7 (q_cut S) 16 17 [(0, .ref 0), (1, sv_I (0 : Int))] [] Z) eS) hb
            exact sv_less (lv := [(0, .ref 0), (1, sv_I (0 : Int))]) (sv_Sub_cons rfl (sv_Sub_cons rfl sv_Sub_nil)) hb
          · have h := h.2 (hc)
            refine sv_aload_n hM dX12_cut_125 rfl rfl ?_
            refine sv_getA hM dX12_cut_126 sm_fl_27 (sm_a0 _) sm_k13 rfl ?_
            refine sv_aload_n hM dX12_cut_129 rfl rfl ?_
            refine sv_getI hM dX12_cut_130 sm_fl_350 (sm_a0 _) sm_k12 rfl (x := (g7 1012 0)) rfl ?_
            obtain ⟨v68, ev68⟩ : ∃ x : Int, (if (g7 1012 0) = (g7 1012 0) then (0 : Int) else (g7 6 (g7 1012 0))) = x := ⟨_, rfl⟩
            have h := h v68 ev68
            have k69 : sv_R v68 := ev68 ▸ (sm_okI ok59 sm_r6 (g7 1012 0))
            have h := h k69
            refine sv_iald hM dX12_cut_133 (sm_a6 _) (by decide) o24.1 o24.2 rfl (x := v68) ev68 ?_
            refine sv_cond_eq hM dX12_cut_134 k69 (t := 141) rfl rfl (fun hc => ?_) (fun hc => ?_)
            · have h := h.1 (hc)
              refine sv_iconst (d := (0 : Int)) hM dX12_cut_141 rfl rfl ?_
              refine sv_istore_n hM dX12_cut_142 (by decide) rfl ?_
              show sv_T sm_XS sm_cs sm_L sm_sh 7 (q_cut S) 16 143 [(0, .ref 0), (1, sv_I (0 : Int)), (2, sv_I r19)] [] (sv_up (sv_up (sv_up (sv_up (sv_sts (sv_sts (sv_up (sv_up (sv_up S 1012 0 (0 : Int)) 1018 0 (0 : Int)) 1019 0 (1 : Int)) [1012, 1018, 1019, 8, 10, 6, 9, 7] g7) [1018, 1019] g15) 8 (g7 1012 0) (g15 1018 0)) 10 (g7 1012 0) (g15 1019 0)) 6 (g7 1012 0) (0 : Int)) 9 (g7 1012 0) (g15 1018 0))
              refine sv_aload_n hM dX12_cut_143 rfl rfl ?_
              refine sv_dupA hM dX12_cut_144 rfl ?_
              refine sv_getI hM dX12_cut_145 sm_fl_350 (sm_a0 _) sm_k12 rfl (x := (g7 1012 0)) rfl ?_
              refine sv_iconst (d := (1 : Int)) hM dX12_cut_148 rfl rfl ?_
              refine sv_iadd hM dX12_cut_149 rfl ?_
              obtain ⟨o70, h⟩ := h
              refine sv_putI sm_X hM dX12_cut_150 sm_fp_350 (sm_a0 _) sm_q12 (Or.inl rfl) rfl rfl rfl rfl ?_
              have ok71 : sm_ok (sv_up (sv_up (sv_up (sv_up (sv_up (sv_sts (sv_sts (sv_up (sv_up (sv_up S 1012 0 (0 : Int)) 1018 0 (0 : Int)) 1019 0 (1 : Int)) [1012, 1018, 1019, 8, 10, 6, 9, 7] g7) [1018, 1019] g15) 8 (g7 1012 0) (g15 1018 0)) 10 (g7 1012 0) (g15 1019 0)) 6 (g7 1012 0) (0 : Int)) 9 (g7 1012 0) (g15 1018 0)) 1012 0 ((g7 1012 0) + (1 : Int))) := sm_upI ok59 sm_r1012 o70
              have md72 : sv_mod [1012, 1018, 1019, 8, 10, 6, 9, 7] S (sv_up (sv_up (sv_up (sv_up (sv_up (sv_sts (sv_sts (sv_up (sv_up (sv_up S 1012 0 (0 : Int)) 1018 0 (0 : Int)) 1019 0 (1 : Int)) [1012, 1018, 1019, 8, 10, 6, 9, 7] g7) [1018, 1019] g15) 8 (g7 1012 0) (g15 1018 0)) 10 (g7 1012 0) (g15 1019 0)) 6 (g7 1012 0) (0 : Int)) 9 (g7 1012 0) (g15 1018 0)) 1012 0 ((g7 1012 0) + (1 : Int))) := sv_mod.up md60 (by decide)
              have md73 : sv_mod [1012, 1018, 1019, 8, 10, 6, 9, 7] (sv_up (sv_up (sv_up S 1012 0 (0 : Int)) 1018 0 (0 : Int)) 1019 0 (1 : Int)) (sv_up (sv_up (sv_up (sv_up (sv_up (sv_sts (sv_sts (sv_up (sv_up (sv_up S 1012 0 (0 : Int)) 1018 0 (0 : Int)) 1019 0 (1 : Int)) [1012, 1018, 1019, 8, 10, 6, 9, 7] g7) [1018, 1019] g15) 8 (g7 1012 0) (g15 1018 0)) 10 (g7 1012 0) (g15 1019 0)) 6 (g7 1012 0) (0 : Int)) 9 (g7 1012 0) (g15 1018 0)) 1012 0 ((g7 1012 0) + (1 : Int))) := sv_mod.up md61 (by decide)
              refine sv_goto hM dX12_cut_153 (pc' := 17) rfl ?_
              have eS := sv_mod.eq md73
              have hb := ih9 ((0 : Int), (sv_up (sv_up (sv_up (sv_up (sv_up (sv_sts (sv_sts (sv_up (sv_up (sv_up S 1012 0 (0 : Int)) 1018 0 (0 : Int)) 1019 0 (1 : Int)) [1012, 1018, 1019, 8, 10, 6, 9, 7] g7) [1018, 1019] g15) 8 (g7 1012 0) (g15 1018 0)) 10 (g7 1012 0) (g15 1019 0)) 6 (g7 1012 0) (0 : Int)) 9 (g7 1012 0) (g15 1018 0)) 1012 0 ((g7 1012 0) + (1 : Int)))) ⟨(⟨by decide, by decide⟩ : sv_R (0 : Int)), (by rw [← eS]; exact ok71), h.1⟩ h.2
              have hb : sv_T sm_XS sm_cs sm_L sm_sh 7 (q_cut S) 16 17 [(0, .ref 0), (1, sv_I (0 : Int))] [] (sv_up (sv_up (sv_up (sv_up (sv_up (sv_sts (sv_sts (sv_up (sv_up (sv_up S 1012 0 (0 : Int)) 1018 0 (0 : Int)) 1019 0 (1 : Int)) [1012, 1018, 1019, 8, 10, 6, 9, 7] g7) [1018, 1019] g15) 8 (g7 1012 0) (g15 1018 0)) 10 (g7 1012 0) (g15 1019 0)) 6 (g7 1012 0) (0 : Int)) 9 (g7 1012 0) (g15 1018 0)) 1012 0 ((g7 1012 0) + (1 : Int))) := Eq.mpr (congrArg (fun Z => sv_T sm_XS sm_cs sm_L sm_sh 7 (q_cut S) 16 17 [(0, .ref 0), (1, sv_I (0 : Int))] [] Z) eS) hb
              exact sv_less (lv := [(0, .ref 0), (1, sv_I (0 : Int))]) (sv_Sub_cons rfl (sv_Sub_cons rfl sv_Sub_nil)) hb
            · have h := h.2 (hc)
              refine sv_iconst (d := (1 : Int)) hM dX12_cut_137 rfl rfl ?_
              refine sv_goto hM dX12_cut_138 (pc' := 142) rfl ?_
              refine sv_istore_n hM dX12_cut_142 (by decide) rfl ?_
              show sv_T sm_XS sm_cs sm_L sm_sh 7 (q_cut S) 16 143 [(0, .ref 0), (1, sv_I (1 : Int)), (2, sv_I r19)] [] (sv_up (sv_up (sv_up (sv_up (sv_sts (sv_sts (sv_up (sv_up (sv_up S 1012 0 (0 : Int)) 1018 0 (0 : Int)) 1019 0 (1 : Int)) [1012, 1018, 1019, 8, 10, 6, 9, 7] g7) [1018, 1019] g15) 8 (g7 1012 0) (g15 1018 0)) 10 (g7 1012 0) (g15 1019 0)) 6 (g7 1012 0) (0 : Int)) 9 (g7 1012 0) (g15 1018 0))
              refine sv_aload_n hM dX12_cut_143 rfl rfl ?_
              refine sv_dupA hM dX12_cut_144 rfl ?_
              refine sv_getI hM dX12_cut_145 sm_fl_350 (sm_a0 _) sm_k12 rfl (x := (g7 1012 0)) rfl ?_
              refine sv_iconst (d := (1 : Int)) hM dX12_cut_148 rfl rfl ?_
              refine sv_iadd hM dX12_cut_149 rfl ?_
              obtain ⟨o74, h⟩ := h
              refine sv_putI sm_X hM dX12_cut_150 sm_fp_350 (sm_a0 _) sm_q12 (Or.inl rfl) rfl rfl rfl rfl ?_
              have ok75 : sm_ok (sv_up (sv_up (sv_up (sv_up (sv_up (sv_sts (sv_sts (sv_up (sv_up (sv_up S 1012 0 (0 : Int)) 1018 0 (0 : Int)) 1019 0 (1 : Int)) [1012, 1018, 1019, 8, 10, 6, 9, 7] g7) [1018, 1019] g15) 8 (g7 1012 0) (g15 1018 0)) 10 (g7 1012 0) (g15 1019 0)) 6 (g7 1012 0) (0 : Int)) 9 (g7 1012 0) (g15 1018 0)) 1012 0 ((g7 1012 0) + (1 : Int))) := sm_upI ok59 sm_r1012 o74
              have md76 : sv_mod [1012, 1018, 1019, 8, 10, 6, 9, 7] S (sv_up (sv_up (sv_up (sv_up (sv_up (sv_sts (sv_sts (sv_up (sv_up (sv_up S 1012 0 (0 : Int)) 1018 0 (0 : Int)) 1019 0 (1 : Int)) [1012, 1018, 1019, 8, 10, 6, 9, 7] g7) [1018, 1019] g15) 8 (g7 1012 0) (g15 1018 0)) 10 (g7 1012 0) (g15 1019 0)) 6 (g7 1012 0) (0 : Int)) 9 (g7 1012 0) (g15 1018 0)) 1012 0 ((g7 1012 0) + (1 : Int))) := sv_mod.up md60 (by decide)
              have md77 : sv_mod [1012, 1018, 1019, 8, 10, 6, 9, 7] (sv_up (sv_up (sv_up S 1012 0 (0 : Int)) 1018 0 (0 : Int)) 1019 0 (1 : Int)) (sv_up (sv_up (sv_up (sv_up (sv_up (sv_sts (sv_sts (sv_up (sv_up (sv_up S 1012 0 (0 : Int)) 1018 0 (0 : Int)) 1019 0 (1 : Int)) [1012, 1018, 1019, 8, 10, 6, 9, 7] g7) [1018, 1019] g15) 8 (g7 1012 0) (g15 1018 0)) 10 (g7 1012 0) (g15 1019 0)) 6 (g7 1012 0) (0 : Int)) 9 (g7 1012 0) (g15 1018 0)) 1012 0 ((g7 1012 0) + (1 : Int))) := sv_mod.up md61 (by decide)
              refine sv_goto hM dX12_cut_153 (pc' := 17) rfl ?_
              have eS := sv_mod.eq md77
              have hb := ih9 ((1 : Int), (sv_up (sv_up (sv_up (sv_up (sv_up (sv_sts (sv_sts (sv_up (sv_up (sv_up S 1012 0 (0 : Int)) 1018 0 (0 : Int)) 1019 0 (1 : Int)) [1012, 1018, 1019, 8, 10, 6, 9, 7] g7) [1018, 1019] g15) 8 (g7 1012 0) (g15 1018 0)) 10 (g7 1012 0) (g15 1019 0)) 6 (g7 1012 0) (0 : Int)) 9 (g7 1012 0) (g15 1018 0)) 1012 0 ((g7 1012 0) + (1 : Int)))) ⟨(⟨by decide, by decide⟩ : sv_R (1 : Int)), (by rw [← eS]; exact ok75), h.1⟩ h.2
              have hb : sv_T sm_XS sm_cs sm_L sm_sh 7 (q_cut S) 16 17 [(0, .ref 0), (1, sv_I (1 : Int))] [] (sv_up (sv_up (sv_up (sv_up (sv_up (sv_sts (sv_sts (sv_up (sv_up (sv_up S 1012 0 (0 : Int)) 1018 0 (0 : Int)) 1019 0 (1 : Int)) [1012, 1018, 1019, 8, 10, 6, 9, 7] g7) [1018, 1019] g15) 8 (g7 1012 0) (g15 1018 0)) 10 (g7 1012 0) (g15 1019 0)) 6 (g7 1012 0) (0 : Int)) 9 (g7 1012 0) (g15 1018 0)) 1012 0 ((g7 1012 0) + (1 : Int))) := Eq.mpr (congrArg (fun Z => sv_T sm_XS sm_cs sm_L sm_sh 7 (q_cut S) 16 17 [(0, .ref 0), (1, sv_I (1 : Int))] [] Z) eS) hb
              exact sv_less (lv := [(0, .ref 0), (1, sv_I (1 : Int))]) (sv_Sub_cons rfl (sv_Sub_cons rfl sv_Sub_nil)) hb
      · have h := h.2 (hc)
        refine sv_aload_n hM dX12_cut_56 rfl rfl ?_
        refine sv_getA hM dX12_cut_57 sm_fl_27 (sm_a0 _) sm_k13 rfl ?_
        refine sv_aload_n hM dX12_cut_60 rfl rfl ?_
        refine sv_getI hM dX12_cut_61 sm_fl_350 (sm_a0 _) sm_k12 rfl (x := (g7 1012 0)) rfl ?_
        refine sv_bipush (d := (6 : Int)) hM dX12_cut_64 rfl rfl ?_
        refine sv_iast sm_X hM dX12_cut_66 (sm_a6 _) (by decide) o24.1 o24.2 rfl ?_
        have ok78 : sm_ok (sv_up (sv_up (sv_up (sv_sts (sv_sts (sv_up (sv_up (sv_up S 1012 0 (0 : Int)) 1018 0 (0 : Int)) 1019 0 (1 : Int)) [1012, 1018, 1019, 8, 10, 6, 9, 7] g7) [1018, 1019] g15) 8 (g7 1012 0) (g15 1018 0)) 10 (g7 1012 0) (g15 1019 0)) 6 (g7 1012 0) (6 : Int)) := sm_upI ok29 sm_r6 (⟨by decide, by decide⟩ : sv_R (6 : Int))
        have md79 : sv_mod [1012, 1018, 1019, 8, 10, 6, 9, 7] S (sv_up (sv_up (sv_up (sv_sts (sv_sts (sv_up (sv_up (sv_up S 1012 0 (0 : Int)) 1018 0 (0 : Int)) 1019 0 (1 : Int)) [1012, 1018, 1019, 8, 10, 6, 9, 7] g7) [1018, 1019] g15) 8 (g7 1012 0) (g15 1018 0)) 10 (g7 1012 0) (g15 1019 0)) 6 (g7 1012 0) (6 : Int)) := sv_mod.up md30 (by decide)
        have md80 : sv_mod [1012, 1018, 1019, 8, 10, 6, 9, 7] (sv_up (sv_up (sv_up S 1012 0 (0 : Int)) 1018 0 (0 : Int)) 1019 0 (1 : Int)) (sv_up (sv_up (sv_up (sv_sts (sv_sts (sv_up (sv_up (sv_up S 1012 0 (0 : Int)) 1018 0 (0 : Int)) 1019 0 (1 : Int)) [1012, 1018, 1019, 8, 10, 6, 9, 7] g7) [1018, 1019] g15) 8 (g7 1012 0) (g15 1018 0)) 10 (g7 1012 0) (g15 1019 0)) 6 (g7 1012 0) (6 : Int)) := sv_mod.up md31 (by decide)
        refine sv_goto hM dX12_cut_67 (pc' := 98) rfl ?_
        refine sv_aload_n hM dX12_cut_98 rfl rfl ?_
        refine sv_getA hM dX12_cut_99 sm_fl_36 (sm_a0 _) sm_k16 rfl ?_
        refine sv_aload_n hM dX12_cut_102 rfl rfl ?_
        refine sv_getI hM dX12_cut_103 sm_fl_350 (sm_a0 _) sm_k12 rfl (x := (g7 1012 0)) rfl ?_
        refine sv_aload_n hM dX12_cut_106 rfl rfl ?_
        refine sv_getI hM dX12_cut_107 sm_fl_344 (sm_a0 _) sm_k18 rfl (x := (g15 1018 0)) rfl ?_
        refine sv_iast sm_X hM dX12_cut_110 (sm_a9 _) (by decide) o24.1 o24.2 rfl ?_
        have ok81 : sm_ok (sv_up (sv_up (sv_up (sv_up (sv_sts (sv_sts (sv_up (sv_up (sv_up S 1012 0 (0 : Int)) 1018 0 (0 : Int)) 1019 0 (1 : Int)) [1012, 1018, 1019, 8, 10, 6, 9, 7] g7) [1018, 1019] g15) 8 (g7 1012 0) (g15 1018 0)) 10 (g7 1012 0) (g15 1019 0)) 6 (g7 1012 0) (6 : Int)) 9 (g7 1012 0) (g15 1018 0)) := sm_upI ok78 sm_r9 k23
        have md82 : sv_mod [1012, 1018, 1019, 8, 10, 6, 9, 7] S (sv_up (sv_up (sv_up (sv_up (sv_sts (sv_sts (sv_up (sv_up (sv_up S 1012 0 (0 : Int)) 1018 0 (0 : Int)) 1019 0 (1 : Int)) [1012, 1018, 1019, 8, 10, 6, 9, 7] g7) [1018, 1019] g15) 8 (g7 1012 0) (g15 1018 0)) 10 (g7 1012 0) (g15 1019 0)) 6 (g7 1012 0) (6 : Int)) 9 (g7 1012 0) (g15 1018 0)) := sv_mod.up md79 (by decide)
        have md83 : sv_mod [1012, 1018, 1019, 8, 10, 6, 9, 7] (sv_up (sv_up (sv_up S 1012 0 (0 : Int)) 1018 0 (0 : Int)) 1019 0 (1 : Int)) (sv_up (sv_up (sv_up (sv_up (sv_sts (sv_sts (sv_up (sv_up (sv_up S 1012 0 (0 : Int)) 1018 0 (0 : Int)) 1019 0 (1 : Int)) [1012, 1018, 1019, 8, 10, 6, 9, 7] g7) [1018, 1019] g15) 8 (g7 1012 0) (g15 1018 0)) 10 (g7 1012 0) (g15 1019 0)) 6 (g7 1012 0) (6 : Int)) 9 (g7 1012 0) (g15 1018 0)) := sv_mod.up md80 (by decide)
        refine sv_aload_n hM dX12_cut_111 rfl rfl ?_
        refine sv_getA hM dX12_cut_112 sm_fl_27 (sm_a0 _) sm_k13 rfl ?_
        refine sv_aload_n hM dX12_cut_115 rfl rfl ?_
        refine sv_getI hM dX12_cut_116 sm_fl_350 (sm_a0 _) sm_k12 rfl (x := (g7 1012 0)) rfl ?_
        obtain ⟨v84, ev84⟩ : ∃ x : Int, (if (g7 1012 0) = (g7 1012 0) then (6 : Int) else (g7 6 (g7 1012 0))) = x := ⟨_, rfl⟩
        have h := h v84 ev84
        have k85 : sv_R v84 := ev84 ▸ (sm_okI ok81 sm_r6 (g7 1012 0))
        have h := h k85
        refine sv_iald hM dX12_cut_119 (sm_a6 _) (by decide) o24.1 o24.2 rfl (x := v84) ev84 ?_
        refine sv_bipush (d := (6 : Int)) hM dX12_cut_120 rfl rfl ?_
        refine sv_icmp_eq hM dX12_cut_122 k85 (⟨by decide, by decide⟩ : sv_R (6 : Int)) (t := 141) rfl rfl (fun hc => ?_) (fun hc => ?_)
        · have h := h.1 (hc)
          refine sv_iconst (d := (0 : Int)) hM dX12_cut_141 rfl rfl ?_
          refine sv_istore_n hM dX12_cut_142 (by decide) rfl ?_
          show sv_T sm_XS sm_cs sm_L sm_sh 7 (q_cut S) 16 143 [(0, .ref 0), (1, sv_I (0 : Int)), (2, sv_I r19)] [] (sv_up (sv_up (sv_up (sv_up (sv_sts (sv_sts (sv_up (sv_up (sv_up S 1012 0 (0 : Int)) 1018 0 (0 : Int)) 1019 0 (1 : Int)) [1012, 1018, 1019, 8, 10, 6, 9, 7] g7) [1018, 1019] g15) 8 (g7 1012 0) (g15 1018 0)) 10 (g7 1012 0) (g15 1019 0)) 6 (g7 1012 0) (6 : Int)) 9 (g7 1012 0) (g15 1018 0))
          refine sv_aload_n hM dX12_cut_143 rfl rfl ?_
          refine sv_dupA hM dX12_cut_144 rfl ?_
          refine sv_getI hM dX12_cut_145 sm_fl_350 (sm_a0 _) sm_k12 rfl (x := (g7 1012 0)) rfl ?_
          refine sv_iconst (d := (1 : Int)) hM dX12_cut_148 rfl rfl ?_
          refine sv_iadd hM dX12_cut_149 rfl ?_
          obtain ⟨o86, h⟩ := h
          refine sv_putI sm_X hM dX12_cut_150 sm_fp_350 (sm_a0 _) sm_q12 (Or.inl rfl) rfl rfl rfl rfl ?_
          have ok87 : sm_ok (sv_up (sv_up (sv_up (sv_up (sv_up (sv_sts (sv_sts (sv_up (sv_up (sv_up S 1012 0 (0 : Int)) 1018 0 (0 : Int)) 1019 0 (1 : Int)) [1012, 1018, 1019, 8, 10, 6, 9, 7] g7) [1018, 1019] g15) 8 (g7 1012 0) (g15 1018 0)) 10 (g7 1012 0) (g15 1019 0)) 6 (g7 1012 0) (6 : Int)) 9 (g7 1012 0) (g15 1018 0)) 1012 0 ((g7 1012 0) + (1 : Int))) := sm_upI ok81 sm_r1012 o86
          have md88 : sv_mod [1012, 1018, 1019, 8, 10, 6, 9, 7] S (sv_up (sv_up (sv_up (sv_up (sv_up (sv_sts (sv_sts (sv_up (sv_up (sv_up S 1012 0 (0 : Int)) 1018 0 (0 : Int)) 1019 0 (1 : Int)) [1012, 1018, 1019, 8, 10, 6, 9, 7] g7) [1018, 1019] g15) 8 (g7 1012 0) (g15 1018 0)) 10 (g7 1012 0) (g15 1019 0)) 6 (g7 1012 0) (6 : Int)) 9 (g7 1012 0) (g15 1018 0)) 1012 0 ((g7 1012 0) + (1 : Int))) := sv_mod.up md82 (by decide)
          have md89 : sv_mod [1012, 1018, 1019, 8, 10, 6, 9, 7] (sv_up (sv_up (sv_up S 1012 0 (0 : Int)) 1018 0 (0 : Int)) 1019 0 (1 : Int)) (sv_up (sv_up (sv_up (sv_up (sv_up (sv_sts (sv_sts (sv_up (sv_up (sv_up S 1012 0 (0 : Int)) 1018 0 (0 : Int)) 1019 0 (1 : Int)) [1012, 1018, 1019, 8, 10, 6, 9, 7] g7) [1018, 1019] g15) 8 (g7 1012 0) (g15 1018 0)) 10 (g7 1012 0) (g15 1019 0)) 6 (g7 1012 0) (6 : Int)) 9 (g7 1012 0) (g15 1018 0)) 1012 0 ((g7 1012 0) + (1 : Int))) := sv_mod.up md83 (by decide)
          refine sv_goto hM dX12_cut_153 (pc' := 17) rfl ?_
          have eS := sv_mod.eq md89
          have hb := ih9 ((0 : Int), (sv_up (sv_up (sv_up (sv_up (sv_up (sv_sts (sv_sts (sv_up (sv_up (sv_up S 1012 0 (0 : Int)) 1018 0 (0 : Int)) 1019 0 (1 : Int)) [1012, 1018, 1019, 8, 10, 6, 9, 7] g7) [1018, 1019] g15) 8 (g7 1012 0) (g15 1018 0)) 10 (g7 1012 0) (g15 1019 0)) 6 (g7 1012 0) (6 : Int)) 9 (g7 1012 0) (g15 1018 0)) 1012 0 ((g7 1012 0) + (1 : Int)))) ⟨(⟨by decide, by decide⟩ : sv_R (0 : Int)), (by rw [← eS]; exact ok87), h.1⟩ h.2
          have hb : sv_T sm_XS sm_cs sm_L sm_sh 7 (q_cut S) 16 17 [(0, .ref 0), (1, sv_I (0 : Int))] [] (sv_up (sv_up (sv_up (sv_up (sv_up (sv_sts (sv_sts (sv_up (sv_up (sv_up S 1012 0 (0 : Int)) 1018 0 (0 : Int)) 1019 0 (1 : Int)) [1012, 1018, 1019, 8, 10, 6, 9, 7] g7) [1018, 1019] g15) 8 (g7 1012 0) (g15 1018 0)) 10 (g7 1012 0) (g15 1019 0)) 6 (g7 1012 0) (6 : Int)) 9 (g7 1012 0) (g15 1018 0)) 1012 0 ((g7 1012 0) + (1 : Int))) := Eq.mpr (congrArg (fun Z => sv_T sm_XS sm_cs sm_L sm_sh 7 (q_cut S) 16 17 [(0, .ref 0), (1, sv_I (0 : Int))] [] Z) eS) hb
          exact sv_less (lv := [(0, .ref 0), (1, sv_I (0 : Int))]) (sv_Sub_cons rfl (sv_Sub_cons rfl sv_Sub_nil)) hb
        · have h := h.2 (hc)
          refine sv_aload_n hM dX12_cut_125 rfl rfl ?_
          refine sv_getA hM dX12_cut_126 sm_fl_27 (sm_a0 _) sm_k13 rfl ?_
          refine sv_aload_n hM dX12_cut_129 rfl rfl ?_
          refine sv_getI hM dX12_cut_130 sm_fl_350 (sm_a0 _) sm_k12 rfl (x := (g7 1012 0)) rfl ?_
          obtain ⟨v90, ev90⟩ : ∃ x : Int, (if (g7 1012 0) = (g7 1012 0) then (6 : Int) else (g7 6 (g7 1012 0))) = x := ⟨_, rfl⟩
          have h := h v90 ev90
          have k91 : sv_R v90 := ev90 ▸ (sm_okI ok81 sm_r6 (g7 1012 0))
          have h := h k91
          refine sv_iald hM dX12_cut_133 (sm_a6 _) (by decide) o24.1 o24.2 rfl (x := v90) ev90 ?_
          refine sv_cond_eq hM dX12_cut_134 k91 (t := 141) rfl rfl (fun hc => ?_) (fun hc => ?_)
          · have h := h.1 (hc)
            refine sv_iconst (d := (0 : Int)) hM dX12_cut_141 rfl rfl ?_
            refine sv_istore_n hM dX12_cut_142 (by decide) rfl ?_
            show sv_T sm_XS sm_cs sm_L sm_sh 7 (q_cut S) 16 143 [(0, .ref 0), (1, sv_I (0 : Int)), (2, sv_I r19)] [] (sv_up (sv_up (sv_up (sv_up (sv_sts (sv_sts (sv_up (sv_up (sv_up S 1012 0 (0 : Int)) 1018 0 (0 : Int)) 1019 0 (1 : Int)) [1012, 1018, 1019, 8, 10, 6, 9, 7] g7) [1018, 1019] g15) 8 (g7 1012 0) (g15 1018 0)) 10 (g7 1012 0) (g15 1019 0)) 6 (g7 1012 0) (6 : Int)) 9 (g7 1012 0) (g15 1018 0))
            refine sv_aload_n hM dX12_cut_143 rfl rfl ?_
            refine sv_dupA hM dX12_cut_144 rfl ?_
            refine sv_getI hM dX12_cut_145 sm_fl_350 (sm_a0 _) sm_k12 rfl (x := (g7 1012 0)) rfl ?_
            refine sv_iconst (d := (1 : Int)) hM dX12_cut_148 rfl rfl ?_
            refine sv_iadd hM dX12_cut_149 rfl ?_
            obtain ⟨o92, h⟩ := h
            refine sv_putI sm_X hM dX12_cut_150 sm_fp_350 (sm_a0 _) sm_q12 (Or.inl rfl) rfl rfl rfl rfl ?_
            have ok93 : sm_ok (sv_up (sv_up (sv_up (sv_up (sv_up (sv_sts (sv_sts (sv_up (sv_up (sv_up S 1012 0 (0 : Int)) 1018 0 (0 : Int)) 1019 0 (1 : Int)) [1012, 1018, 1019, 8, 10, 6, 9, 7] g7) [1018, 1019] g15) 8 (g7 1012 0) (g15 1018 0)) 10 (g7 1012 0) (g15 1019 0)) 6 (g7 1012 0) (6 : Int)) 9 (g7 1012 0) (g15 1018 0)) 1012 0 ((g7 1012 0) + (1 : Int))) := sm_upI ok81 sm_r1012 o92
            have md94 : sv_mod [1012, 1018, 1019, 8, 10, 6, 9, 7] S (sv_up (sv_up (sv_up (sv_up (sv_up (sv_sts (sv_sts (sv_up (sv_up (sv_up S 1012 0 (0 : Int)) 1018 0 (0 : Int)) 1019 0 (1 : Int)) [1012, 1018, 1019, 8, 10, 6, 9, 7] g7) [1018, 1019] g15) 8 (g7 1012 0) (g15 1018 0)) 10 (g7 1012 0) (g15 1019 0)) 6 (g7 1012 0) (6 : Int)) 9 (g7 1012 0) (g15 1018 0)) 1012 0 ((g7 1012 0) + (1 : Int))) := sv_mod.up md82 (by decide)
            have md95 : sv_mod [1012, 1018, 1019, 8, 10, 6, 9, 7] (sv_up (sv_up (sv_up S 1012 0 (0 : Int)) 1018 0 (0 : Int)) 1019 0 (1 : Int)) (sv_up (sv_up (sv_up (sv_up (sv_up (sv_sts (sv_sts (sv_up (sv_up (sv_up S 1012 0 (0 : Int)) 1018 0 (0 : Int)) 1019 0 (1 : Int)) [1012, 1018, 1019, 8, 10, 6, 9, 7] g7) [1018, 1019] g15) 8 (g7 1012 0) (g15 1018 0)) 10 (g7 1012 0) (g15 1019 0)) 6 (g7 1012 0) (6 : Int)) 9 (g7 1012 0) (g15 1018 0)) 1012 0 ((g7 1012 0) + (1 : Int))) := sv_mod.up md83 (by decide)
            refine sv_goto hM dX12_cut_153 (pc' := 17) rfl ?_
            have eS := sv_mod.eq md95
            have hb := ih9 ((0 : Int), (sv_up (sv_up (sv_up (sv_up (sv_up (sv_sts (sv_sts (sv_up (sv_up (sv_up S 1012 0 (0 : Int)) 1018 0 (0 : Int)) 1019 0 (1 : Int)) [1012, 1018, 1019, 8, 10, 6, 9, 7] g7) [1018, 1019] g15) 8 (g7 1012 0) (g15 1018 0)) 10 (g7 1012 0) (g15 1019 0)) 6 (g7 1012 0) (6 : Int)) 9 (g7 1012 0) (g15 1018 0)) 1012 0 ((g7 1012 0) + (1 : Int)))) ⟨(⟨by decide, by decide⟩ : sv_R (0 : Int)), (by rw [← eS]; exact ok93), h.1⟩ h.2
            have hb : sv_T sm_XS sm_cs sm_L sm_sh 7 (q_cut S) 16 17 [(0, .ref 0), (1, sv_I (0 : Int))] [] (sv_up (sv_up (sv_up (sv_up (sv_up (sv_sts (sv_sts (sv_up (sv_up (sv_up S 1012 0 (0 : Int)) 1018 0 (0 : Int)) 1019 0 (1 : Int)) [1012, 1018, 1019, 8, 10, 6, 9, 7] g7) [1018, 1019] g15) 8 (g7 1012 0) (g15 1018 0)) 10 (g7 1012 0) (g15 1019 0)) 6 (g7 1012 0) (6 : Int)) 9 (g7 1012 0) (g15 1018 0)) 1012 0 ((g7 1012 0) + (1 : Int))) := Eq.mpr (congrArg (fun Z => sv_T sm_XS sm_cs sm_L sm_sh 7 (q_cut S) 16 17 [(0, .ref 0), (1, sv_I (0 : Int))] [] Z) eS) hb
            exact sv_less (lv := [(0, .ref 0), (1, sv_I (0 : Int))]) (sv_Sub_cons rfl (sv_Sub_cons rfl sv_Sub_nil)) hb
          · have h := h.2 (hc)
            refine sv_iconst (d := (1 : Int)) hM dX12_cut_137 rfl rfl ?_
            refine sv_goto hM dX12_cut_138 (pc' := 142) rfl ?_
            refine sv_istore_n hM dX12_cut_142 (by decide) rfl ?_
            show sv_T sm_XS sm_cs sm_L sm_sh 7 (q_cut S) 16 143 [(0, .ref 0), (1, sv_I (1 : Int)), (2, sv_I r19)] [] (sv_up (sv_up (sv_up (sv_up (sv_sts (sv_sts (sv_up (sv_up (sv_up S 1012 0 (0 : Int)) 1018 0 (0 : Int)) 1019 0 (1 : Int)) [1012, 1018, 1019, 8, 10, 6, 9, 7] g7) [1018, 1019] g15) 8 (g7 1012 0) (g15 1018 0)) 10 (g7 1012 0) (g15 1019 0)) 6 (g7 1012 0) (6 : Int)) 9 (g7 1012 0) (g15 1018 0))
            refine sv_aload_n hM dX12_cut_143 rfl rfl ?_
            refine sv_dupA hM dX12_cut_144 rfl ?_
            refine sv_getI hM dX12_cut_145 sm_fl_350 (sm_a0 _) sm_k12 rfl (x := (g7 1012 0)) rfl ?_
            refine sv_iconst (d := (1 : Int)) hM dX12_cut_148 rfl rfl ?_
            refine sv_iadd hM dX12_cut_149 rfl ?_
            obtain ⟨o96, h⟩ := h
            refine sv_putI sm_X hM dX12_cut_150 sm_fp_350 (sm_a0 _) sm_q12 (Or.inl rfl) rfl rfl rfl rfl ?_
            have ok97 : sm_ok (sv_up (sv_up (sv_up (sv_up (sv_up (sv_sts (sv_sts (sv_up (sv_up (sv_up S 1012 0 (0 : Int)) 1018 0 (0 : Int)) 1019 0 (1 : Int)) [1012, 1018, 1019, 8, 10, 6, 9, 7] g7) [1018, 1019] g15) 8 (g7 1012 0) (g15 1018 0)) 10 (g7 1012 0) (g15 1019 0)) 6 (g7 1012 0) (6 : Int)) 9 (g7 1012 0) (g15 1018 0)) 1012 0 ((g7 1012 0) + (1 : Int))) := sm_upI ok81 sm_r1012 o96
            have md98 : sv_mod [1012, 1018, 1019, 8, 10, 6, 9, 7] S (sv_up (sv_up (sv_up (sv_up (sv_up (sv_sts (sv_sts (sv_up (sv_up (sv_up S 1012 0 (0 : Int)) 1018 0 (0 : Int)) 1019 0 (1 : Int)) [1012, 1018, 1019, 8, 10, 6, 9, 7] g7) [1018, 1019] g15) 8 (g7 1012 0) (g15 1018 0)) 10 (g7 1012 0) (g15 1019 0)) 6 (g7 1012 0) (6 : Int)) 9 (g7 1012 0) (g15 1018 0)) 1012 0 ((g7 1012 0) + (1 : Int))) := sv_mod.up md82 (by decide)
            have md99 : sv_mod [1012, 1018, 1019, 8, 10, 6, 9, 7] (sv_up (sv_up (sv_up S 1012 0 (0 : Int)) 1018 0 (0 : Int)) 1019 0 (1 : Int)) (sv_up (sv_up (sv_up (sv_up (sv_up (sv_sts (sv_sts (sv_up (sv_up (sv_up S 1012 0 (0 : Int)) 1018 0 (0 : Int)) 1019 0 (1 : Int)) [1012, 1018, 1019, 8, 10, 6, 9, 7] g7) [1018, 1019] g15) 8 (g7 1012 0) (g15 1018 0)) 10 (g7 1012 0) (g15 1019 0)) 6 (g7 1012 0) (6 : Int)) 9 (g7 1012 0) (g15 1018 0)) 1012 0 ((g7 1012 0) + (1 : Int))) := sv_mod.up md83 (by decide)
            refine sv_goto hM dX12_cut_153 (pc' := 17) rfl ?_
            have eS := sv_mod.eq md99
            have hb := ih9 ((1 : Int), (sv_up (sv_up (sv_up (sv_up (sv_up (sv_sts (sv_sts (sv_up (sv_up (sv_up S 1012 0 (0 : Int)) 1018 0 (0 : Int)) 1019 0 (1 : Int)) [1012, 1018, 1019, 8, 10, 6, 9, 7] g7) [1018, 1019] g15) 8 (g7 1012 0) (g15 1018 0)) 10 (g7 1012 0) (g15 1019 0)) 6 (g7 1012 0) (6 : Int)) 9 (g7 1012 0) (g15 1018 0)) 1012 0 ((g7 1012 0) + (1 : Int)))) ⟨(⟨by decide, by decide⟩ : sv_R (1 : Int)), (by rw [← eS]; exact ok97), h.1⟩ h.2
            have hb : sv_T sm_XS sm_cs sm_L sm_sh 7 (q_cut S) 16 17 [(0, .ref 0), (1, sv_I (1 : Int))] [] (sv_up (sv_up (sv_up (sv_up (sv_up (sv_sts (sv_sts (sv_up (sv_up (sv_up S 1012 0 (0 : Int)) 1018 0 (0 : Int)) 1019 0 (1 : Int)) [1012, 1018, 1019, 8, 10, 6, 9, 7] g7) [1018, 1019] g15) 8 (g7 1012 0) (g15 1018 0)) 10 (g7 1012 0) (g15 1019 0)) 6 (g7 1012 0) (6 : Int)) 9 (g7 1012 0) (g15 1018 0)) 1012 0 ((g7 1012 0) + (1 : Int))) := Eq.mpr (congrArg (fun Z => sv_T sm_XS sm_cs sm_L sm_sh 7 (q_cut S) 16 17 [(0, .ref 0), (1, sv_I (1 : Int))] [] Z) eS) hb
            exact sv_less (lv := [(0, .ref 0), (1, sv_I (1 : Int))]) (sv_Sub_cons rfl (sv_Sub_cons rfl sv_Sub_nil)) hb
  have eS := sv_mod.eq (sv_mod.rf (l := [1012, 1018, 1019, 8, 10, 6, 9, 7]) (S := (sv_up (sv_up (sv_up S 1012 0 (0 : Int)) 1018 0 (0 : Int)) 1019 0 (1 : Int))))
  have hb := hJ ((1 : Int), (sv_up (sv_up (sv_up S 1012 0 (0 : Int)) 1018 0 (0 : Int)) 1019 0 (1 : Int))) ⟨(⟨by decide, by decide⟩ : sv_R (1 : Int)), (by rw [← eS]; exact ok5), hin10⟩
  have hb : sv_T sm_XS sm_cs sm_L sm_sh 7 (q_cut S) 16 17 [(0, .ref 0), (1, sv_I (1 : Int))] [] (sv_up (sv_up (sv_up S 1012 0 (0 : Int)) 1018 0 (0 : Int)) 1019 0 (1 : Int)) := Eq.mpr (congrArg (fun Z => sv_T sm_XS sm_cs sm_L sm_sh 7 (q_cut S) 16 17 [(0, .ref 0), (1, sv_I (1 : Int))] [] Z) eS) hb
  exact hb
