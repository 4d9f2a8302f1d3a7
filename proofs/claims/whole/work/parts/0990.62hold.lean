theorem dX12_hold_0 : decode cX12_hold 0 = .ok (.aload_n 0, 1) := by decide +kernel
theorem dX12_hold_1 : decode cX12_hold 1 = .ok (.getfield 427, 3) := by decide +kernel
theorem dX12_hold_4 : decode cX12_hold 4 = .ok (.bipush 12, 2) := by decide +kernel
theorem dX12_hold_6 : decode cX12_hold 6 = .ok (.if_icmp .ge 8, 3) := by decide +kernel
theorem dX12_hold_9 : decode cX12_hold 9 = .ok (.iload_n 1, 1) := by decide +kernel
theorem dX12_hold_10 : decode cX12_hold 10 = .ok (.iconst (-1), 1) := by decide +kernel
theorem dX12_hold_11 : decode cX12_hold 11 = .ok (.if_icmp .ne 4, 3) := by decide +kernel
theorem dX12_hold_14 : decode cX12_hold 14 = .ok (.return_, 1) := by decide +kernel
theorem dX12_hold_15 : decode cX12_hold 15 = .ok (.aload_n 0, 1) := by decide +kernel
theorem dX12_hold_16 : decode cX12_hold 16 = .ok (.getfield 427, 3) := by decide +kernel
theorem dX12_hold_19 : decode cX12_hold 19 = .ok (.ifCond .ne 72, 3) := by decide +kernel
theorem dX12_hold_22 : decode cX12_hold 22 = .ok (.iload_n 2, 1) := by decide +kernel
theorem dX12_hold_23 : decode cX12_hold 23 = .ok (.ifCond .ne 68, 3) := by decide +kernel
theorem dX12_hold_26 : decode cX12_hold 26 = .ok (.iconst 0, 1) := by decide +kernel
theorem dX12_hold_27 : decode cX12_hold 27 = .ok (.istore_n 3, 1) := by decide +kernel
theorem dX12_hold_28 : decode cX12_hold 28 = .ok (.iconst 0, 1) := by decide +kernel
theorem dX12_hold_29 : decode cX12_hold 29 = .ok (.istore 4, 2) := by decide +kernel
theorem dX12_hold_31 : decode cX12_hold 31 = .ok (.iload 4, 2) := by decide +kernel
theorem dX12_hold_33 : decode cX12_hold 33 = .ok (.aload_n 0, 1) := by decide +kernel
theorem dX12_hold_34 : decode cX12_hold 34 = .ok (.getfield 430, 3) := by decide +kernel
theorem dX12_hold_37 : decode cX12_hold 37 = .ok (.if_icmp .ge 30, 3) := by decide +kernel
theorem dX12_hold_40 : decode cX12_hold 40 = .ok (.iload_n 3, 1) := by decide +kernel
theorem dX12_hold_41 : decode cX12_hold 41 = .ok (.ifCond .ne 14, 3) := by decide +kernel
theorem dX12_hold_44 : decode cX12_hold 44 = .ok (.aload_n 0, 1) := by decide +kernel
theorem dX12_hold_45 : decode cX12_hold 45 = .ok (.getfield 86, 3) := by decide +kernel
theorem dX12_hold_48 : decode cX12_hold 48 = .ok (.iload 4, 2) := by decide +kernel
theorem dX12_hold_50 : decode cX12_hold 50 = .ok (.iaload, 1) := by decide +kernel
theorem dX12_hold_51 : decode cX12_hold 51 = .ok (.iload_n 1, 1) := by decide +kernel
theorem dX12_hold_52 : decode cX12_hold 52 = .ok (.if_icmp .ne 7, 3) := by decide +kernel
theorem dX12_hold_55 : decode cX12_hold 55 = .ok (.iconst 1, 1) := by decide +kernel
theorem dX12_hold_56 : decode cX12_hold 56 = .ok (.goto 4, 3) := by decide +kernel
theorem dX12_hold_59 : decode cX12_hold 59 = .ok (.iconst 0, 1) := by decide +kernel
theorem dX12_hold_60 : decode cX12_hold 60 = .ok (.istore_n 3, 1) := by decide +kernel
theorem dX12_hold_61 : decode cX12_hold 61 = .ok (.iinc 4 1, 3) := by decide +kernel
theorem dX12_hold_64 : decode cX12_hold 64 = .ok (.goto (-33), 3) := by decide +kernel
theorem dX12_hold_67 : decode cX12_hold 67 = .ok (.iload_n 3, 1) := by decide +kernel
theorem dX12_hold_68 : decode cX12_hold 68 = .ok (.ifCond .ne 23, 3) := by decide +kernel
theorem dX12_hold_71 : decode cX12_hold 71 = .ok (.aload_n 0, 1) := by decide +kernel
theorem dX12_hold_72 : decode cX12_hold 72 = .ok (.getfield 86, 3) := by decide +kernel
theorem dX12_hold_75 : decode cX12_hold 75 = .ok (.aload_n 0, 1) := by decide +kernel
theorem dX12_hold_76 : decode cX12_hold 76 = .ok (.getfield 430, 3) := by decide +kernel
theorem dX12_hold_79 : decode cX12_hold 79 = .ok (.iload_n 1, 1) := by decide +kernel
theorem dX12_hold_80 : decode cX12_hold 80 = .ok (.iastore, 1) := by decide +kernel
theorem dX12_hold_81 : decode cX12_hold 81 = .ok (.aload_n 0, 1) := by decide +kernel
theorem dX12_hold_82 : decode cX12_hold 82 = .ok (.dup, 1) := by decide +kernel
theorem dX12_hold_83 : decode cX12_hold 83 = .ok (.getfield 430, 3) := by decide +kernel
theorem dX12_hold_86 : decode cX12_hold 86 = .ok (.iconst 1, 1) := by decide +kernel
theorem dX12_hold_87 : decode cX12_hold 87 = .ok (.iadd, 1) := by decide +kernel
theorem dX12_hold_88 : decode cX12_hold 88 = .ok (.putfield 430, 3) := by decide +kernel
theorem dX12_hold_91 : decode cX12_hold 91 = .ok (.aload_n 0, 1) := by decide +kernel
theorem dX12_hold_92 : decode cX12_hold 92 = .ok (.getfield 83, 3) := by decide +kernel
theorem dX12_hold_95 : decode cX12_hold 95 = .ok (.aload_n 0, 1) := by decide +kernel
theorem dX12_hold_96 : decode cX12_hold 96 = .ok (.getfield 427, 3) := by decide +kernel
theorem dX12_hold_99 : decode cX12_hold 99 = .ok (.iaload, 1) := by decide +kernel
theorem dX12_hold_100 : decode cX12_hold 100 = .ok (.istore_n 3, 1) := by decide +kernel
theorem dX12_hold_101 : decode cX12_hold 101 = .ok (.iconst 0, 1) := by decide +kernel
theorem dX12_hold_102 : decode cX12_hold 102 = .ok (.istore 4, 2) := by decide +kernel
theorem dX12_hold_104 : decode cX12_hold 104 = .ok (.iload 4, 2) := by decide +kernel
theorem dX12_hold_106 : decode cX12_hold 106 = .ok (.iload_n 3, 1) := by decide +kernel
theorem dX12_hold_107 : decode cX12_hold 107 = .ok (.if_icmp .ge 29, 3) := by decide +kernel
theorem dX12_hold_110 : decode cX12_hold 110 = .ok (.aload_n 0, 1) := by decide +kernel
theorem dX12_hold_111 : decode cX12_hold 111 = .ok (.getfield 80, 3) := by decide +kernel
theorem dX12_hold_114 : decode cX12_hold 114 = .ok (.bipush 100, 2) := by decide +kernel
theorem dX12_hold_116 : decode cX12_hold 116 = .ok (.aload_n 0, 1) := by decide +kernel
theorem dX12_hold_117 : decode cX12_hold 117 = .ok (.getfield 427, 3) := by decide +kernel
theorem dX12_hold_120 : decode cX12_hold 120 = .ok (.imul, 1) := by decide +kernel
theorem dX12_hold_121 : decode cX12_hold 121 = .ok (.iload 4, 2) := by decide +kernel
theorem dX12_hold_123 : decode cX12_hold 123 = .ok (.iadd, 1) := by decide +kernel
theorem dX12_hold_124 : decode cX12_hold 124 = .ok (.iaload, 1) := by decide +kernel
theorem dX12_hold_125 : decode cX12_hold 125 = .ok (.iload_n 1, 1) := by decide +kernel
theorem dX12_hold_126 : decode cX12_hold 126 = .ok (.if_icmp .ne 4, 3) := by decide +kernel
theorem dX12_hold_129 : decode cX12_hold 129 = .ok (.return_, 1) := by decide +kernel
theorem dX12_hold_130 : decode cX12_hold 130 = .ok (.iinc 4 1, 3) := by decide +kernel
theorem dX12_hold_133 : decode cX12_hold 133 = .ok (.goto (-29), 3) := by decide +kernel
theorem dX12_hold_136 : decode cX12_hold 136 = .ok (.aload_n 0, 1) := by decide +kernel
theorem dX12_hold_137 : decode cX12_hold 137 = .ok (.getfield 80, 3) := by decide +kernel
theorem dX12_hold_140 : decode cX12_hold 140 = .ok (.bipush 100, 2) := by decide +kernel
theorem dX12_hold_142 : decode cX12_hold 142 = .ok (.aload_n 0, 1) := by decide +kernel
theorem dX12_hold_143 : decode cX12_hold 143 = .ok (.getfield 427, 3) := by decide +kernel
theorem dX12_hold_146 : decode cX12_hold 146 = .ok (.imul, 1) := by decide +kernel
theorem dX12_hold_147 : decode cX12_hold 147 = .ok (.iload_n 3, 1) := by decide +kernel
theorem dX12_hold_148 : decode cX12_hold 148 = .ok (.iadd, 1) := by decide +kernel
theorem dX12_hold_149 : decode cX12_hold 149 = .ok (.iload_n 1, 1) := by decide +kernel
theorem dX12_hold_150 : decode cX12_hold 150 = .ok (.iastore, 1) := by decide +kernel
theorem dX12_hold_151 : decode cX12_hold 151 = .ok (.aload_n 0, 1) := by decide +kernel
theorem dX12_hold_152 : decode cX12_hold 152 = .ok (.getfield 83, 3) := by decide +kernel
theorem dX12_hold_155 : decode cX12_hold 155 = .ok (.aload_n 0, 1) := by decide +kernel
theorem dX12_hold_156 : decode cX12_hold 156 = .ok (.getfield 427, 3) := by decide +kernel
theorem dX12_hold_159 : decode cX12_hold 159 = .ok (.dup2, 1) := by decide +kernel
theorem dX12_hold_160 : decode cX12_hold 160 = .ok (.iaload, 1) := by decide +kernel
theorem dX12_hold_161 : decode cX12_hold 161 = .ok (.iconst 1, 1) := by decide +kernel
theorem dX12_hold_162 : decode cX12_hold 162 = .ok (.iadd, 1) := by decide +kernel
theorem dX12_hold_163 : decode cX12_hold 163 = .ok (.iastore, 1) := by decide +kernel
theorem dX12_hold_164 : decode cX12_hold 164 = .ok (.return_, 1) := by decide +kernel

def q_hold (p1 : Int) (p2 : Int) (S : sv_S) : Option Value → sv_S → Prop := fun v S' => v = none ∧ sm_ok S' ∧ sv_mod [25, 1042, 23, 24] S S' ∧ (sm_HD (S' 23) (S' 24) (S' 1100018 0) (S' 1007 0) ∧ sm_HD (S' 25) (fun _ : Int => (S' 1042 0)) 1 (S' 1007 0))
set_option maxHeartbeats 2000000 in
theorem f_hold : ∀ (p1 : Int) (p2 : Int) (S : sv_S), sm_ok S → sv_R p1 → (0 ≤ p2 ∧ p2 ≤ 1) → (0 ≤ (S 1043 0) ∧ (S 1043 0) < (S 1100018 0) ∧ sm_HD (S 23) (S 24) (S 1100018 0) (S 1007 0) ∧ sm_HD (S 25) (fun _ : Int => (S 1042 0)) 1 (S 1007 0) ∧ 0 ≤ (S 1007 0) ∧ (S 1007 0) ≤ 90 ∧ (p1 = -1 ∨ (0 ≤ p1 ∧ p1 < (S 1007 0)))) → ((0 ≤ (S 1043 0) → (S 1043 0) < (S 1100018 0) → (S 1043 0) < 12 → 0 ≤ (S 24 (S 1043 0)) ∧ (0 ≤ (S 1007 0) → (S 24 (S 1043 0)) ≤ (S 1007 0))) → ((0 ≤ (S 1042 0) ∧ (0 ≤ (S 1007 0) → (S 1042 0) ≤ (S 1007 0))) → (sv_R (S 1043 0) → ((((12 : Int) ≤ (S 1043 0)) → (sm_HD (S 23) (S 24) (S 1100018 0) (S 1007 0) ∧ sm_HD (S 25) (fun _ : Int => (S 1042 0)) 1 (S 1007 0))) ∧ ((¬ ((12 : Int) ≤ (S 1043 0))) → (((¬ p1 = (-1 : Int)) → (((¬ (S 1043 0) = (0 : Int)) → (0 ≤ (S 1043 0) ∧ (S 1043 0) < 12) ∧ (sv_R (S 24 (S 1043 0)) → ((0 ≤ (0 : Int) ∧ (0 : Int) ≤ (S 24 (S 1043 0)) ∧ (S 24 (S 1043 0)) = (S 24 (S 1043 0)) ∧ (∀ k : Int, 0 ≤ k → k < (0 : Int) → ¬ (S 23 (100 * (S 1043 0) + k)) = p1)) ∧ (∀ l4_6 : Int, sv_R l4_6 → (0 ≤ l4_6 ∧ l4_6 ≤ (S 24 (S 1043 0)) ∧ (S 24 (S 1043 0)) = (S 24 (S 1043 0)) ∧ (∀ k : Int, 0 ≤ k → k < l4_6 → ¬ (S 23 (100 * (S 1043 0) + k)) = p1)) → (0 ≤ (S 24 (S 1043 0)) - l4_6) ∧ ((((S 24 (S 1043 0)) ≤ l4_6) → (0 ≤ (((100 : Int) * (S 1043 0)) + (S 24 (S 1043 0))) ∧ (((100 : Int) * (S 1043 0)) + (S 24 (S 1043 0))) < 1200) ∧ (sv_R ((S 24 (S 1043 0)) + (1 : Int))) ∧ (sm_HD (fun i' : Int => if i' = (((100 : Int) * (S 1043 0)) + (S 24 (S 1043 0))) then p1 else (S 23) i') (fun i' : Int => if i' = (S 1043 0) then ((S 24 (S 1043 0)) + (1 : Int)) else (S 24) i') (S 1100018 0) (S 1007 0) ∧ sm_HD (S 25) (fun _ : Int => (S 1042 0)) 1 (S 1007 0))) ∧ ((¬ ((S 24 (S 1043 0)) ≤ l4_6)) → (0 ≤ (((100 : Int) * (S 1043 0)) + l4_6) ∧ (((100 : Int) * (S 1043 0)) + l4_6) < 1200) ∧ (sv_R (S 23 (((100 : Int) * (S 1043 0)) + l4_6)) → (((¬ (S 23 (((100 : Int) * (S 1043 0)) + l4_6)) = p1) → (sv_R (l4_6 + (1 : Int))) ∧ ((0 ≤ (l4_6 + (1 : Int)) ∧ (l4_6 + (1 : Int)) ≤ (S 24 (S 1043 0)) ∧ (S 24 (S 1043 0)) = (S 24 (S 1043 0)) ∧ (∀ k : Int, 0 ≤ k → k < (l4_6 + (1 : Int)) → ¬ (S 23 (100 * (S 1043 0) + k)) = p1)) ∧ ((S 24 (S 1043 0)) - (l4_6 + (1 : Int))) < ((S 24 (S 1043 0)) - l4_6))) ∧ ((¬ (¬ (S 23 (((100 : Int) * (S 1043 0)) + l4_6)) = p1)) → (sm_HD (S 23) (S 24) (S 1100018 0) (S 1007 0) ∧ sm_HD (S 25) (fun _ : Int => (S 1042 0)) 1 (S 1007 0))))))))))) ∧ ((¬ (¬ (S 1043 0) = (0 : Int))) → (((¬ p2 = (0 : Int)) → (0 ≤ (S 1043 0) ∧ (S 1043 0) < 12) ∧ (sv_R (S 24 (S 1043 0)) → ((0 ≤ (0 : Int) ∧ (0 : Int) ≤ (S 24 (S 1043 0)) ∧ (S 24 (S 1043 0)) = (S 24 (S 1043 0)) ∧ (∀ k : Int, 0 ≤ k → k < (0 : Int) → ¬ (S 23 (100 * (S 1043 0) + k)) = p1)) ∧ (∀ l4_21 : Int, sv_R l4_21 → (0 ≤ l4_21 ∧ l4_21 ≤ (S 24 (S 1043 0)) ∧ (S 24 (S 1043 0)) = (S 24 (S 1043 0)) ∧ (∀ k : Int, 0 ≤ k → k < l4_21 → ¬ (S 23 (100 * (S 1043 0) + k)) = p1)) → (0 ≤ (S 24 (S 1043 0)) - l4_21) ∧ ((((S 24 (S 1043 0)) ≤ l4_21) → (0 ≤ (((100 : Int) * (S 1043 0)) + (S 24 (S 1043 0))) ∧ (((100 : Int) * (S 1043 0)) + (S 24 (S 1043 0))) < 1200) ∧ (sv_R ((S 24 (S 1043 0)) + (1 : Int))) ∧ (sm_HD (fun i' : Int => if i' = (((100 : Int) * (S 1043 0)) + (S 24 (S 1043 0))) then p1 else (S 23) i') (fun i' : Int => if i' = (S 1043 0) then ((S 24 (S 1043 0)) + (1 : Int)) else (S 24) i') (S 1100018 0) (S 1007 0) ∧ sm_HD (S 25) (fun _ : Int => (S 1042 0)) 1 (S 1007 0))) ∧ ((¬ ((S 24 (S 1043 0)) ≤ l4_21)) → (0 ≤ (((100 : Int) * (S 1043 0)) + l4_21) ∧ (((100 : Int) * (S 1043 0)) + l4_21) < 1200) ∧ (sv_R (S 23 (((100 : Int) * (S 1043 0)) + l4_21)) → (((¬ (S 23 (((100 : Int) * (S 1043 0)) + l4_21)) = p1) → (sv_R (l4_21 + (1 : Int))) ∧ ((0 ≤ (l4_21 + (1 : Int)) ∧ (l4_21 + (1 : Int)) ≤ (S 24 (S 1043 0)) ∧ (S 24 (S 1043 0)) = (S 24 (S 1043 0)) ∧ (∀ k : Int, 0 ≤ k → k < (l4_21 + (1 : Int)) → ¬ (S 23 (100 * (S 1043 0) + k)) = p1)) ∧ ((S 24 (S 1043 0)) - (l4_21 + (1 : Int))) < ((S 24 (S 1043 0)) - l4_21))) ∧ ((¬ (¬ (S 23 (((100 : Int) * (S 1043 0)) + l4_21)) = p1)) → (sm_HD (S 23) (S 24) (S 1100018 0) (S 1007 0) ∧ sm_HD (S 25) (fun _ : Int => (S 1042 0)) 1 (S 1007 0))))))))))) ∧ ((¬ (¬ p2 = (0 : Int))) → ((0 ≤ (0 : Int) ∧ (0 : Int) ≤ (S 1042 0) ∧ ((0 : Int) = 0 ∨ (0 : Int) = 1) ∧ ((0 : Int) = 0 → ∀ k : Int, 0 ≤ k → k < (0 : Int) → ¬ (S 25 k) = p1)) ∧ (∀ l3_34 : Int, sv_R l3_34 → ∀ l4_35 : Int, sv_R l4_35 → (0 ≤ l4_35 ∧ l4_35 ≤ (S 1042 0) ∧ (l3_34 = 0 ∨ l3_34 = 1) ∧ (l3_34 = 0 → ∀ k : Int, 0 ≤ k → k < l4_35 → ¬ (S 25 k) = p1)) → (0 ≤ (S 1042 0) - l4_35) ∧ (sv_R (S 1042 0) → ((((S 1042 0) ≤ l4_35) → (((¬ l3_34 = (0 : Int)) → (0 ≤ (S 1043 0) ∧ (S 1043 0) < 12) ∧ (sv_R (S 24 (S 1043 0)) → ((0 ≤ (0 : Int) ∧ (0 : Int) ≤ (S 24 (S 1043 0)) ∧ (S 24 (S 1043 0)) = (S 24 (S 1043 0)) ∧ (∀ k : Int, 0 ≤ k → k < (0 : Int) → ¬ (S 23 (100 * (S 1043 0) + k)) = p1)) ∧ (∀ l4_42 : Int, sv_R l4_42 → (0 ≤ l4_42 ∧ l4_42 ≤ (S 24 (S 1043 0)) ∧ (S 24 (S 1043 0)) = (S 24 (S 1043 0)) ∧ (∀ k : Int, 0 ≤ k → k < l4_42 → ¬ (S 23 (100 * (S 1043 0) + k)) = p1)) → (0 ≤ (S 24 (S 1043 0)) - l4_42) ∧ ((((S 24 (S 1043 0)) ≤ l4_42) → (0 ≤ (((100 : Int) * (S 1043 0)) + (S 24 (S 1043 0))) ∧ (((100 : Int) * (S 1043 0)) + (S 24 (S 1043 0))) < 1200) ∧ (sv_R ((S 24 (S 1043 0)) + (1 : Int))) ∧ (sm_HD (fun i' : Int => if i' = (((100 : Int) * (S 1043 0)) + (S 24 (S 1043 0))) then p1 else (S 23) i') (fun i' : Int => if i' = (S 1043 0) then ((S 24 (S 1043 0)) + (1 : Int)) else (S 24) i') (S 1100018 0) (S 1007 0) ∧ sm_HD (S 25) (fun _ : Int => (S 1042 0)) 1 (S 1007 0))) ∧ ((¬ ((S 24 (S 1043 0)) ≤ l4_42)) → (0 ≤ (((100 : Int) * (S 1043 0)) + l4_42) ∧ (((100 : Int) * (S 1043 0)) + l4_42) < 1200) ∧ (sv_R (S 23 (((100 : Int) * (S 1043 0)) + l4_42)) → (((¬ (S 23 (((100 : Int) * (S 1043 0)) + l4_42)) = p1) → (sv_R (l4_42 + (1 : Int))) ∧ ((0 ≤ (l4_42 + (1 : Int)) ∧ (l4_42 + (1 : Int)) ≤ (S 24 (S 1043 0)) ∧ (S 24 (S 1043 0)) = (S 24 (S 1043 0)) ∧ (∀ k : Int, 0 ≤ k → k < (l4_42 + (1 : Int)) → ¬ (S 23 (100 * (S 1043 0) + k)) = p1)) ∧ ((S 24 (S 1043 0)) - (l4_42 + (1 : Int))) < ((S 24 (S 1043 0)) - l4_42))) ∧ ((¬ (¬ (S 23 (((100 : Int) * (S 1043 0)) + l4_42)) = p1)) → (sm_HD (S 23) (S 24) (S 1100018 0) (S 1007 0) ∧ sm_HD (S 25) (fun _ : Int => (S 1042 0)) 1 (S 1007 0))))))))))) ∧ ((¬ (¬ l3_34 = (0 : Int))) → (0 ≤ (S 1042 0) ∧ (S 1042 0) < 100) ∧ (sv_R ((S 1042 0) + (1 : Int))) ∧ (0 ≤ (S 1043 0) ∧ (S 1043 0) < 12) ∧ (sv_R (S 24 (S 1043 0)) → ((0 ≤ (0 : Int) ∧ (0 : Int) ≤ (S 24 (S 1043 0)) ∧ (S 24 (S 1043 0)) = (S 24 (S 1043 0)) ∧ (∀ k : Int, 0 ≤ k → k < (0 : Int) → ¬ (S 23 (100 * (S 1043 0) + k)) = p1)) ∧ (∀ l4_63 : Int, sv_R l4_63 → (0 ≤ l4_63 ∧ l4_63 ≤ (S 24 (S 1043 0)) ∧ (S 24 (S 1043 0)) = (S 24 (S 1043 0)) ∧ (∀ k : Int, 0 ≤ k → k < l4_63 → ¬ (S 23 (100 * (S 1043 0) + k)) = p1)) → (0 ≤ (S 24 (S 1043 0)) - l4_63) ∧ ((((S 24 (S 1043 0)) ≤ l4_63) → (0 ≤ (((100 : Int) * (S 1043 0)) + (S 24 (S 1043 0))) ∧ (((100 : Int) * (S 1043 0)) + (S 24 (S 1043 0))) < 1200) ∧ (sv_R ((S 24 (S 1043 0)) + (1 : Int))) ∧ (sm_HD (fun i' : Int => if i' = (((100 : Int) * (S 1043 0)) + (S 24 (S 1043 0))) then p1 else (S 23) i') (fun i' : Int => if i' = (S 1043 0) then ((S 24 (S 1043 0)) + (1 : Int)) else (S 24) i') (S 1100018 0) (S 1007 0) ∧ sm_HD (fun i' : Int => if i' = (S 1042 0) then p1 else (S 25) i') (fun _ : Int => ((S 1042 0) + (1 : Int))) 1 (S 1007 0))) ∧ ((¬ ((S 24 (S 1043 0)) ≤ l4_63)) → (0 ≤ (((100 : Int) * (S 1043 0)) + l4_63) ∧ (((100 : Int) * (S 1043 0)) + l4_63) < 1200) ∧ (sv_R (S 23 (((100 : Int) * (S 1043 0)) + l4_63)) → (((¬ (S 23 (((100 : Int) * (S 1043 0)) + l4_63)) = p1) → (sv_R (l4_63 + (1 : Int))) ∧ ((0 ≤ (l4_63 + (1 : Int)) ∧ (l4_63 + (1 : Int)) ≤ (S 24 (S 1043 0)) ∧ (S 24 (S 1043 0)) = (S 24 (S 1043 0)) ∧ (∀ k : Int, 0 ≤ k → k < (l4_63 + (1 : Int)) → ¬ (S 23 (100 * (S 1043 0) + k)) = p1)) ∧ ((S 24 (S 1043 0)) - (l4_63 + (1 : Int))) < ((S 24 (S 1043 0)) - l4_63))) ∧ ((¬ (¬ (S 23 (((100 : Int) * (S 1043 0)) + l4_63)) = p1)) → (sm_HD (S 23) (S 24) (S 1100018 0) (S 1007 0) ∧ sm_HD (fun i' : Int => if i' = (S 1042 0) then p1 else (S 25) i') (fun _ : Int => ((S 1042 0) + (1 : Int))) 1 (S 1007 0))))))))))))) ∧ ((¬ ((S 1042 0) ≤ l4_35)) → (((¬ l3_34 = (0 : Int)) → (sv_R (l4_35 + (1 : Int))) ∧ ((0 ≤ (l4_35 + (1 : Int)) ∧ (l4_35 + (1 : Int)) ≤ (S 1042 0) ∧ ((1 : Int) = 0 ∨ (1 : Int) = 1) ∧ ((1 : Int) = 0 → ∀ k : Int, 0 ≤ k → k < (l4_35 + (1 : Int)) → ¬ (S 25 k) = p1)) ∧ ((S 1042 0) - (l4_35 + (1 : Int))) < ((S 1042 0) - l4_35))) ∧ ((¬ (¬ l3_34 = (0 : Int))) → (0 ≤ l4_35 ∧ l4_35 < 100) ∧ (sv_R (S 25 l4_35) → (((¬ (S 25 l4_35) = p1) → (sv_R (l4_35 + (1 : Int))) ∧ ((0 ≤ (l4_35 + (1 : Int)) ∧ (l4_35 + (1 : Int)) ≤ (S 1042 0) ∧ ((0 : Int) = 0 ∨ (0 : Int) = 1) ∧ ((0 : Int) = 0 → ∀ k : Int, 0 ≤ k → k < (l4_35 + (1 : Int)) → ¬ (S 25 k) = p1)) ∧ ((S 1042 0) - (l4_35 + (1 : Int))) < ((S 1042 0) - l4_35))) ∧ ((¬ (¬ (S 25 l4_35) = p1)) → (sv_R (l4_35 + (1 : Int))) ∧ ((0 ≤ (l4_35 + (1 : Int)) ∧ (l4_35 + (1 : Int)) ≤ (S 1042 0) ∧ ((1 : Int) = 0 ∨ (1 : Int) = 1) ∧ ((1 : Int) = 0 → ∀ k : Int, 0 ≤ k → k < (l4_35 + (1 : Int)) → ¬ (S 25 k) = p1)) ∧ ((S 1042 0) - (l4_35 + (1 : Int))) < ((S 1042 0) - l4_35))))))))))))))))) ∧ ((¬ (¬ p1 = (-1 : Int))) → (sm_HD (S 23) (S 24) (S 1100018 0) (S 1007 0) ∧ sm_HD (S 25) (fun _ : Int => (S 1042 0)) 1 (S 1007 0))))))))) := by
  intro p1 p2 S hok hp1 hp2 hpre
  repeat' (first | (with_reducible refine And.intro ?_ ?_) | (with_reducible intro _))
  all_goals first | assumption | omega | grind | (refine sm_HD_add (f := S 1043 0) (x := p1) hpre.2.2.1 ⟨by omega, by omega⟩ ⟨by omega, by omega⟩ ?_ ⟨by omega, by omega⟩ (fun _ => rfl) (fun _ => rfl); grind) | (refine sm_GD_add (x := p1) hpre.2.2.2.1 ⟨by omega, by omega⟩ ?_ ⟨by omega, by omega⟩; grind) | exact hpre.2.2.1 | exact hpre.2.2.2.1
set_option maxRecDepth 8000 in
set_option maxHeartbeats 2000000 in
theorem t_hold : ∀ (p1 : Int) (p2 : Int) (S : sv_S), sm_ok S → sv_R p1 → (0 ≤ p2 ∧ p2 ≤ 1) → (0 ≤ (S 1043 0) ∧ (S 1043 0) < (S 1100018 0) ∧ sm_HD (S 23) (S 24) (S 1100018 0) (S 1007 0) ∧ sm_HD (S 25) (fun _ : Int => (S 1042 0)) 1 (S 1007 0) ∧ 0 ≤ (S 1007 0) ∧ (S 1007 0) ≤ 90 ∧ (p1 = -1 ∨ (0 ≤ p1 ∧ p1 < (S 1007 0)))) → sv_T sm_XS sm_cs sm_L sm_sh 0 (q_hold p1 p2 S) 38 0 (lv_args 0 [.ref 0, sv_I p1, sv_I p2]) [] S := by
  intro p1 p2 S hok hp1 hp2 hpre
  have h := f_hold p1 p2 S hok hp1 hp2 hpre
  have hM := sm_h38
  show sv_T sm_XS sm_cs sm_L sm_sh 0 (q_hold p1 p2 S) 38 0 [(0, .ref 0), (1, sv_I p1), (2, sv_I p2)] [] S
  have k1 : (0 ≤ (S 1043 0) → (S 1043 0) < (S 1100018 0) → (S 1043 0) < 12 → 0 ≤ (S 24 (S 1043 0)) ∧ (0 ≤ (S 1007 0) → (S 24 (S 1043 0)) ≤ (S 1007 0))) := sm_HD_le hpre.2.2.1 (S 1043 0)
  have h := h k1
  have k2 : (0 ≤ (S 1042 0) ∧ (0 ≤ (S 1007 0) → (S 1042 0) ≤ (S 1007 0))) := sm_HD_le hpre.2.2.2.1 0 (by decide) (by decide) (by decide)
  have h := h k2
  refine sv_aload_n hM dX12_hold_0 rfl rfl ?_
  have k3 : sv_R (S 1043 0) := sm_okI hok sm_r1043 0
  have h := h k3
  refine sv_getI hM dX12_hold_1 sm_fl_427 (sm_a0 _) sm_k43 rfl (x := (S 1043 0)) rfl ?_
  refine sv_bipush (d := (12 : Int)) hM dX12_hold_4 rfl rfl ?_
  refine sv_icmp_ge hM dX12_hold_6 k3 (⟨by decide, by decide⟩ : sv_R (12 : Int)) (t := 14) rfl rfl (fun hc => ?_) (fun hc => ?_)
  · have h := h.1 (hc)
    exact sv_vret hM dX12_hold_14 rfl ⟨rfl, hok, sv_mod.rf, h⟩
  · have h := h.2 (hc)
    refine sv_iload_n hM dX12_hold_9 rfl rfl ?_
    refine sv_iconst (d := (-1 : Int)) hM dX12_hold_10 rfl rfl ?_
    refine sv_icmp_ne hM dX12_hold_11 hp1 (⟨by decide, by decide⟩ : sv_R (-1 : Int)) (t := 15) rfl rfl (fun hc => ?_) (fun hc => ?_)
    · have h := h.1 (hc)
      refine sv_aload_n hM dX12_hold_15 rfl rfl ?_
      refine sv_getI hM dX12_hold_16 sm_fl_427 (sm_a0 _) sm_k43 rfl (x := (S 1043 0)) rfl ?_
      refine sv_cond_ne hM dX12_hold_19 k3 (t := 91) rfl rfl (fun hc => ?_) (fun hc => ?_)
      · have h := h.1 (hc)
        refine sv_aload_n hM dX12_hold_91 rfl rfl ?_
        refine sv_getA hM dX12_hold_92 sm_fl_83 (sm_a0 _) sm_k40 rfl ?_
        refine sv_aload_n hM dX12_hold_95 rfl rfl ?_
        refine sv_getI hM dX12_hold_96 sm_fl_427 (sm_a0 _) sm_k43 rfl (x := (S 1043 0)) rfl ?_
        obtain ⟨o4, h⟩ := h
        have k5 : sv_R (S 24 (S 1043 0)) := sm_okI hok sm_r24 (S 1043 0)
        have h := h k5
        refine sv_iald hM dX12_hold_99 (sm_a24 _) (by decide) o4.1 o4.2 rfl (x := (S 24 (S 1043 0))) rfl ?_
        refine sv_istore_n hM dX12_hold_100 (by decide) rfl ?_
        show sv_T sm_XS sm_cs sm_L sm_sh 0 (q_hold p1 p2 S) 38 101 [(0, .ref 0), (1, sv_I p1), (2, sv_I p2), (3, sv_I (S 24 (S 1043 0)))] [] S
        refine sv_iconst (d := (0 : Int)) hM dX12_hold_101 rfl rfl ?_
        refine sv_istore hM dX12_hold_102 (by decide) rfl ?_
        show sv_T sm_XS sm_cs sm_L sm_sh 0 (q_hold p1 p2 S) 38 104 [(0, .ref 0), (1, sv_I p1), (2, sv_I p2), (3, sv_I (S 24 (S 1043 0))), (4, sv_I (0 : Int))] [] S
        obtain ⟨hin8, h⟩ := h
        have hJ : ∀ a : Int × Unit, (sv_R a.1 ∧ sm_ok S ∧ (0 ≤ a.1 ∧ a.1 ≤ (S 24 (S 1043 0)) ∧ (S 24 (S 1043 0)) = (S 24 (S 1043 0)) ∧ (∀ k : Int, 0 ≤ k → k < a.1 → ¬ (S 23 (100 * (S 1043 0) + k)) = p1))) → sv_T sm_XS sm_cs sm_L sm_sh 0 (q_hold p1 p2 S) 38 104 [(0, .ref 0), (1, sv_I p1), (2, sv_I p2), (3, sv_I (S 24 (S 1043 0))), (4, sv_I a.1)] [] S := by
          refine sv_loop (α := Int × Unit) (fun a => sv_R a.1 ∧ sm_ok S ∧ (0 ≤ a.1 ∧ a.1 ≤ (S 24 (S 1043 0)) ∧ (S 24 (S 1043 0)) = (S 24 (S 1043 0)) ∧ (∀ k : Int, 0 ≤ k → k < a.1 → ¬ (S 23 (100 * (S 1043 0) + k)) = p1))) (fun a => (S 24 (S 1043 0)) - a.1) (fun a => sv_T sm_XS sm_cs sm_L sm_sh 0 (q_hold p1 p2 S) 38 104 [(0, .ref 0), (1, sv_I p1), (2, sv_I p2), (3, sv_I (S 24 (S 1043 0))), (4, sv_I a.1)] [] S) (fun a q => (h a.1 q.1 q.2.2).1) (fun a q ih7 => ?_)
          obtain ⟨l4_6, _u⟩ := a
          obtain ⟨hl4_6, ok9, hin8i⟩ := q
          have h := (h l4_6 hl4_6 hin8i).2
          show sv_T sm_XS sm_cs sm_L sm_sh 0 (q_hold p1 p2 S) 38 104 [(0, .ref 0), (1, sv_I p1), (2, sv_I p2), (3, sv_I (S 24 (S 1043 0))), (4, sv_I l4_6)] [] S
          refine sv_iload hM dX12_hold_104 rfl rfl ?_
          refine sv_iload_n hM dX12_hold_106 rfl rfl ?_
          refine sv_icmp_ge hM dX12_hold_107 hl4_6 k5 (t := 136) rfl rfl (fun hc => ?_) (fun hc => ?_)
          · have h := h.1 (hc)
            refine sv_aload_n hM dX12_hold_136 rfl rfl ?_
            refine sv_getA hM dX12_hold_137 sm_fl_80 (sm_a0 _) sm_k39 rfl ?_
            refine sv_bipush (d := (100 : Int)) hM dX12_hold_140 rfl rfl ?_
            refine sv_aload_n hM dX12_hold_142 rfl rfl ?_
            refine sv_getI hM dX12_hold_143 sm_fl_427 (sm_a0 _) sm_k43 rfl (x := (S 1043 0)) rfl ?_
            refine sv_imul hM dX12_hold_146 rfl ?_
            refine sv_iload_n hM dX12_hold_147 rfl rfl ?_
            refine sv_iadd hM dX12_hold_148 rfl ?_
            refine sv_iload_n hM dX12_hold_149 rfl rfl ?_
            obtain ⟨o10, h⟩ := h
            refine sv_iast sm_X hM dX12_hold_150 (sm_a23 _) (by decide) o10.1 o10.2 rfl ?_
            have ok11 : sm_ok (sv_up S 23 (((100 : Int) * (S 1043 0)) + (S 24 (S 1043 0))) p1) := sm_upI ok9 sm_r23 hp1
            have md12 : sv_mod [25, 1042, 23, 24] S (sv_up S 23 (((100 : Int) * (S 1043 0)) + (S 24 (S 1043 0))) p1) := sv_mod.up sv_mod.rf (by decide)
            refine sv_aload_n hM dX12_hold_151 rfl rfl ?_
            refine sv_getA hM dX12_hold_152 sm_fl_83 (sm_a0 _) sm_k40 rfl ?_
            refine sv_aload_n hM dX12_hold_155 rfl rfl ?_
            refine sv_getI hM dX12_hold_156 sm_fl_427 (sm_a0 _) sm_k43 rfl (x := (S 1043 0)) rfl ?_
            refine sv_dup2 hM dX12_hold_159 rfl ?_
            refine sv_iald hM dX12_hold_160 (sm_a24 _) (by decide) o4.1 o4.2 rfl (x := (S 24 (S 1043 0))) rfl ?_
            refine sv_iconst (d := (1 : Int)) hM dX12_hold_161 rfl rfl ?_
            refine sv_iadd hM dX12_hold_162 rfl ?_
            obtain ⟨o13, h⟩ := h
            refine sv_iast sm_X hM dX12_hold_163 (sm_a24 _) (by decide) o4.1 o4.2 rfl ?_
            have ok14 : sm_ok (sv_up (sv_up S 23 (((100 : Int) * (S 1043 0)) + (S 24 (S 1043 0))) p1) 24 (S 1043 0) ((S 24 (S 1043 0)) + (1 : Int))) := sm_upI ok11 sm_r24 o13
            have md15 : sv_mod [25, 1042, 23, 24] S (sv_up (sv_up S 23 (((100 : Int) * (S 1043 0)) + (S 24 (S 1043 0))) p1) 24 (S 1043 0) ((S 24 (S 1043 0)) + (1 : Int))) := sv_mod.up md12 (by decide)
            exact sv_vret hM dX12_hold_164 rfl ⟨rfl, ok14, md15, h⟩
          · have h := h.2 (hc)
            refine sv_aload_n hM dX12_hold_110 rfl rfl ?_
            refine sv_getA hM dX12_hold_111 sm_fl_80 (sm_a0 _) sm_k39 rfl ?_
            refine sv_bipush (d := (100 : Int)) hM dX12_hold_114 rfl rfl ?_
            refine sv_aload_n hM dX12_hold_116 rfl rfl ?_
            refine sv_getI hM dX12_hold_117 sm_fl_427 (sm_a0 _) sm_k43 rfl (x := (S 1043 0)) rfl ?_
            refine sv_imul hM dX12_hold_120 rfl ?_
            refine sv_iload hM dX12_hold_121 rfl rfl ?_
            refine sv_iadd hM dX12_hold_123 rfl ?_
            obtain ⟨o16, h⟩ := h
            have k17 : sv_R (S 23 (((100 : Int) * (S 1043 0)) + l4_6)) := sm_okI ok9 sm_r23 (((100 : Int) * (S 1043 0)) + l4_6)
            have h := h k17
            refine sv_iald hM dX12_hold_124 (sm_a23 _) (by decide) o16.1 o16.2 rfl (x := (S 23 (((100 : Int) * (S 1043 0)) + l4_6))) rfl ?_
            refine sv_iload_n hM dX12_hold_125 rfl rfl ?_
            refine sv_icmp_ne hM dX12_hold_126 k17 hp1 (t := 130) rfl rfl (fun hc => ?_) (fun hc => ?_)
            · have h := h.1 (hc)
              refine sv_iinc (d := (1 : Int)) hM dX12_hold_130 rfl (by decide) rfl rfl ?_
              show sv_T sm_XS sm_cs sm_L sm_sh 0 (q_hold p1 p2 S) 38 133 [(0, .ref 0), (1, sv_I p1), (2, sv_I p2), (3, sv_I (S 24 (S 1043 0))), (4, sv_I (l4_6 + (1 : Int)))] [] S
              refine sv_goto hM dX12_hold_133 (pc' := 104) rfl ?_
              obtain ⟨o18, h⟩ := h
              have hb := ih7 ((l4_6 + (1 : Int)), ()) ⟨o18, ok9, h.1⟩ h.2
              exact sv_less (lv := [(0, .ref 0), (1, sv_I p1), (2, sv_I p2), (3, sv_I (S 24 (S 1043 0))), (4, sv_I (l4_6 + (1 : Int)))]) (sv_Sub_cons rfl (sv_Sub_cons rfl (sv_Sub_cons rfl (sv_Sub_cons rfl (sv_Sub_cons rfl sv_Sub_nil))))) hb
            · have h := h.2 (hc)
              exact sv_vret hM dX12_hold_129 rfl ⟨rfl, ok9, sv_mod.rf, h⟩
        exact hJ ((0 : Int), ()) ⟨(⟨by decide, by decide⟩ : sv_R (0 : Int)), hok, hin8⟩
      · have h := h.2 (hc)
        refine sv_iload_n hM dX12_hold_22 rfl rfl ?_
        refine sv_cond_ne hM dX12_hold_23 (sv_R01 hp2) (t := 91) rfl rfl (fun hc => ?_) (fun hc => ?_)
        · have h := h.1 (hc)
          refine sv_aload_n hM dX12_hold_91 rfl rfl ?_
          refine sv_getA hM dX12_hold_92 sm_fl_83 (sm_a0 _) sm_k40 rfl ?_
          refine sv_aload_n hM dX12_hold_95 rfl rfl ?_
          refine sv_getI hM dX12_hold_96 sm_fl_427 (sm_a0 _) sm_k43 rfl (x := (S 1043 0)) rfl ?_
          obtain ⟨o19, h⟩ := h
          have k20 : sv_R (S 24 (S 1043 0)) := sm_okI hok sm_r24 (S 1043 0)
          have h := h k20
          refine sv_iald hM dX12_hold_99 (sm_a24 _) (by decide) o19.1 o19.2 rfl (x := (S 24 (S 1043 0))) rfl ?_
          refine sv_istore_n hM dX12_hold_100 (by decide) rfl ?_
          show sv_T sm_XS sm_cs sm_L sm_sh 0 (q_hold p1 p2 S) 38 101 [(0, .ref 0), (1, sv_I p1), (2, sv_I p2), (3, sv_I (S 24 (S 1043 0)))] [] S
          refine sv_iconst (d := (0 : Int)) hM dX12_hold_101 rfl rfl ?_
          refine sv_istore hM dX12_hold_102 (by decide) rfl ?_
          show sv_T sm_XS sm_cs sm_L sm_sh 0 (q_hold p1 p2 S) 38 104 [(0, .ref 0), (1, sv_I p1), (2, sv_I p2), (3, sv_I (S 24 (S 1043 0))), (4, sv_I (0 : Int))] [] S
          obtain ⟨hin23, h⟩ := h
          have hJ : ∀ a : Int × Unit, (sv_R a.1 ∧ sm_ok S ∧ (0 ≤ a.1 ∧ a.1 ≤ (S 24 (S 1043 0)) ∧ (S 24 (S 1043 0)) = (S 24 (S 1043 0)) ∧ (∀ k : Int, 0 ≤ k → k < a.1 → ¬ (S 23 (100 * (S 1043 0) + k)) = p1))) → sv_T sm_XS sm_cs sm_L sm_sh 0 (q_hold p1 p2 S) 38 104 [(0, .ref 0), (1, sv_I p1), (2, sv_I p2), (3, sv_I (S 24 (S 1043 0))), (4, sv_I a.1)] [] S := by
            refine sv_loop (α := Int × Unit) (fun a => sv_R a.1 ∧ sm_ok S ∧ (0 ≤ a.1 ∧ a.1 ≤ (S 24 (S 1043 0)) ∧ (S 24 (S 1043 0)) = (S 24 (S 1043 0)) ∧ (∀ k : Int, 0 ≤ k → k < a.1 → ¬ (S 23 (100 * (S 1043 0) + k)) = p1))) (fun a => (S 24 (S 1043 0)) - a.1) (fun a => sv_T sm_XS sm_cs sm_L sm_sh 0 (q_hold p1 p2 S) 38 104 [(0, .ref 0), (1, sv_I p1), (2, sv_I p2), (3, sv_I (S 24 (S 1043 0))), (4, sv_I a.1)] [] S) (fun a q => (h a.1 q.1 q.2.2).1) (fun a q ih22 => ?_)
            obtain ⟨l4_21, _u⟩ := a
            obtain ⟨hl4_21, ok24, hin23i⟩ := q
            have h := (h l4_21 hl4_21 hin23i).2
            show sv_T sm_XS sm_cs sm_L sm_sh 0 (q_hold p1 p2 S) 38 104 [(0, .ref 0), (1, sv_I p1), (2, sv_I p2), (3, sv_I (S 24 (S 1043 0))), (4, sv_I l4_21)] [] S
            refine sv_iload hM dX12_hold_104 rfl rfl ?_
            refine sv_iload_n hM dX12_hold_106 rfl rfl ?_
            refine sv_icmp_ge hM dX12_hold_107 hl4_21 k20 (t := 136) rfl rfl (fun hc => ?_) (fun hc => ?_)
            · have h := h.1 (hc)
              refine sv_aload_n hM dX12_hold_136 rfl rfl ?_
              refine sv_getA hM dX12_hold_137 sm_fl_80 (sm_a0 _) sm_k39 rfl ?_
              refine sv_bipush (d := (100 : Int)) hM dX12_hold_140 rfl rfl ?_
              refine sv_aload_n hM dX12_hold_142 rfl rfl ?_
              refine sv_getI hM dX12_hold_143 sm_fl_427 (sm_a0 _) sm_k43 rfl (x := (S 1043 0)) rfl ?_
              refine sv_imul hM dX12_hold_146 rfl ?_
              refine sv_iload_n hM dX12_hold_147 rfl rfl ?_
              refine sv_iadd hM dX12_hold_148 rfl ?_
              refine sv_iload_n hM dX12_hold_149 rfl rfl ?_
              obtain ⟨o25, h⟩ := h
              refine sv_iast sm_X hM dX12_hold_150 (sm_a23 _) (by decide) o25.1 o25.2 rfl ?_
              have ok26 : sm_ok (sv_up S 23 (((100 : Int) * (S 1043 0)) + (S 24 (S 1043 0))) p1) := sm_upI ok24 sm_r23 hp1
              have md27 : sv_mod [25, 1042, 23, 24] S (sv_up S 23 (((100 : Int) * (S 1043 0)) + (S 24 (S 1043 0))) p1) := sv_mod.up sv_mod.rf (by decide)
              refine sv_aload_n hM dX12_hold_151 rfl rfl ?_
              refine sv_getA hM dX12_hold_152 sm_fl_83 (sm_a0 _) sm_k40 rfl ?_
              refine sv_aload_n hM dX12_hold_155 rfl rfl ?_
              refine sv_getI hM dX12_hold_156 sm_fl_427 (sm_a0 _) sm_k43 rfl (x := (S 1043 0)) rfl ?_
              refine sv_dup2 hM dX12_hold_159 rfl ?_
              refine sv_iald hM dX12_hold_160 (sm_a24 _) (by decide) o19.1 o19.2 rfl (x := (S 24 (S 1043 0))) rfl ?_
              refine sv_iconst (d := (1 : Int)) hM dX12_hold_161 rfl rfl ?_
              refine sv_iadd hM dX12_hold_162 rfl ?_
              obtain ⟨o28, h⟩ := h
              refine sv_iast sm_X hM dX12_hold_163 (sm_a24 _) (by decide) o19.1 o19.2 rfl ?_
              have ok29 : sm_ok (sv_up (sv_up S 23 (((100 : Int) * (S 1043 0)) + (S 24 (S 1043 0))) p1) 24 (S 1043 0) ((S 24 (S 1043 0)) + (1 : Int))) := sm_upI ok26 sm_r24 o28
              have md30 : sv_mod [25, 1042, 23, 24] S (sv_up (sv_up S 23 (((100 : Int) * (S 1043 0)) + (S 24 (S 1043 0))) p1) 24 (S 1043 0) ((S 24 (S 1043 0)) + (1 : Int))) := sv_mod.up md27 (by decide)
              exact sv_vret hM dX12_hold_164 rfl ⟨rfl, ok29, md30, h⟩
            · have h := h.2 (hc)
              refine sv_aload_n hM dX12_hold_110 rfl rfl ?_
              refine sv_getA hM dX12_hold_111 sm_fl_80 (sm_a0 _) sm_k39 rfl ?_
              refine sv_bipush (d := (100 : Int)) hM dX12_hold_114 rfl rfl ?_
              refine sv_aload_n hM dX12_hold_116 rfl rfl ?_
              refine sv_getI hM dX12_hold_117 sm_fl_427 (sm_a0 _) sm_k43 rfl (x := (S 1043 0)) rfl ?_
              refine sv_imul hM dX12_hold_120 rfl ?_
              refine sv_iload hM dX12_hold_121 rfl rfl ?_
              refine sv_iadd hM dX12_hold_123 rfl ?_
              obtain ⟨o31, h⟩ := h
              have k32 : sv_R (S 23 (((100 : Int) * (S 1043 0)) + l4_21)) := sm_okI ok24 sm_r23 (((100 : Int) * (S 1043 0)) + l4_21)
              have h := h k32
              refine sv_iald hM dX12_hold_124 (sm_a23 _) (by decide) o31.1 o31.2 rfl (x := (S 23 (((100 : Int) * (S 1043 0)) + l4_21))) rfl ?_
              refine sv_iload_n hM dX12_hold_125 rfl rfl ?_
              refine sv_icmp_ne hM dX12_hold_126 k32 hp1 (t := 130) rfl rfl (fun hc => ?_) (fun hc => ?_)
              · have h := h.1 (hc)
                refine sv_iinc (d := (1 : Int)) hM dX12_hold_130 rfl (by decide) rfl rfl ?_
                show sv_T sm_XS sm_cs sm_L sm_sh 0 (q_hold p1 p2 S) 38 133 [(0, .ref 0), (1, sv_I p1), (2, sv_I p2), (3, sv_I (S 24 (S 1043 0))), (4, sv_I (l4_21 + (1 : Int)))] [] S
                refine sv_goto hM dX12_hold_133 (pc' := 104) rfl ?_
                obtain ⟨o33, h⟩ := h
                have hb := ih22 ((l4_21 + (1 : Int)), ()) ⟨o33, ok24, h.1⟩ h.2
                exact sv_less (lv := [(0, .ref 0), (1, sv_I p1), (2, sv_I p2), (3, sv_I (S 24 (S 1043 0))), (4, sv_I (l4_21 + (1 : Int)))]) (sv_Sub_cons rfl (sv_Sub_cons rfl (sv_Sub_cons rfl (sv_Sub_cons rfl (sv_Sub_cons rfl sv_Sub_nil))))) hb
              · have h := h.2 (hc)
                exact sv_vret hM dX12_hold_129 rfl ⟨rfl, ok24, sv_mod.rf, h⟩
          exact hJ ((0 : Int), ()) ⟨(⟨by decide, by decide⟩ : sv_R (0 : Int)), hok, hin23⟩
        · have h := h.2 (hc)
          refine sv_iconst (d := (0 : Int)) hM dX12_hold_26 rfl rfl ?_
          refine sv_istore_n hM dX12_hold_27 (by decide) rfl ?_
          show sv_T sm_XS sm_cs sm_L sm_sh 0 (q_hold p1 p2 S) 38 28 [(0, .ref 0), (1, sv_I p1), (2, sv_I p2), (3, sv_I (0 : Int))] [] S
          refine sv_iconst (d := (0 : Int)) hM dX12_hold_28 rfl rfl ?_
          refine sv_istore hM dX12_hold_29 (by decide) rfl ?_
          show sv_T sm_XS sm_cs sm_L sm_sh 0 (q_hold p1 p2 S) 38 31 [(0, .ref 0), (1, sv_I p1), (2, sv_I p2), (3, sv_I (0 : Int)), (4, sv_I (0 : Int))] [] S
          obtain ⟨hin37, h⟩ := h
          have hJ : ∀ a : Int × Int × Unit, (sv_R a.1 ∧ sv_R a.2.1 ∧ sm_ok S ∧ (0 ≤ a.2.1 ∧ a.2.1 ≤ (S 1042 0) ∧ (a.1 = 0 ∨ a.1 = 1) ∧ (a.1 = 0 → ∀ k : Int, 0 ≤ k → k < a.2.1 → ¬ (S 25 k) = p1))) → sv_T sm_XS sm_cs sm_L sm_sh 0 (q_hold p1 p2 S) 38 31 [(0, .ref 0), (1, sv_I p1), (2, sv_I p2), (3, sv_I a.1), (4, sv_I a.2.1)] [] S := by
            refine sv_loop (α := Int × Int × Unit) (fun a => sv_R a.1 ∧ sv_R a.2.1 ∧ sm_ok S ∧ (0 ≤ a.2.1 ∧ a.2.1 ≤ (S 1042 0) ∧ (a.1 = 0 ∨ a.1 = 1) ∧ (a.1 = 0 → ∀ k : Int, 0 ≤ k → k < a.2.1 → ¬ (S 25 k) = p1))) (fun a => (S 1042 0) - a.2.1) (fun a => sv_T sm_XS sm_cs sm_L sm_sh 0 (q_hold p1 p2 S) 38 31 [(0, .ref 0), (1, sv_I p1), (2, sv_I p2), (3, sv_I a.1), (4, sv_I a.2.1)] [] S) (fun a q => (h a.1 q.1 a.2.1 q.2.1 q.2.2.2).1) (fun a q ih36 => ?_)
            obtain ⟨l3_34, l4_35, _u⟩ := a
            obtain ⟨hl3_34, hl4_35, ok38, hin37i⟩ := q
            have h := (h l3_34 hl3_34 l4_35 hl4_35 hin37i).2
            show sv_T sm_XS sm_cs sm_L sm_sh 0 (q_hold p1 p2 S) 38 31 [(0, .ref 0), (1, sv_I p1), (2, sv_I p2), (3, sv_I l3_34), (4, sv_I l4_35)] [] S
            refine sv_iload hM dX12_hold_31 rfl rfl ?_
            refine sv_aload_n hM dX12_hold_33 rfl rfl ?_
            have k39 : sv_R (S 1042 0) := sm_okI ok38 sm_r1042 0
            have h := h k39
            refine sv_getI hM dX12_hold_34 sm_fl_430 (sm_a0 _) sm_k42 rfl (x := (S 1042 0)) rfl ?_
            refine sv_icmp_ge hM dX12_hold_37 hl4_35 k39 (t := 67) rfl rfl (fun hc => ?_) (fun hc => ?_)
            · have h := h.1 (hc)
              refine sv_iload_n hM dX12_hold_67 rfl rfl ?_
              refine sv_cond_ne hM dX12_hold_68 hl3_34 (t := 91) rfl rfl (fun hc => ?_) (fun hc => ?_)
              · have h := h.1 (hc)
                refine sv_aload_n hM dX12_hold_91 rfl rfl ?_
                refine sv_getA hM dX12_hold_92 sm_fl_83 (sm_a0 _) sm_k40 rfl ?_
                refine sv_aload_n hM dX12_hold_95 rfl rfl ?_
                refine sv_getI hM dX12_hold_96 sm_fl_427 (sm_a0 _) sm_k43 rfl (x := (S 1043 0)) rfl ?_
                obtain ⟨o40, h⟩ := h
                have k41 : sv_R (S 24 (S 1043 0)) := sm_okI ok38 sm_r24 (S 1043 0)
                have h := h k41
                refine sv_iald hM dX12_hold_99 (sm_a24 _) (by decide) o40.1 o40.2 rfl (x := (S 24 (S 1043 0))) rfl ?_
                refine sv_istore_n hM dX12_hold_100 (by decide) rfl ?_
                show sv_T sm_XS sm_cs sm_L sm_sh 0 (q_hold p1 p2 S) 38 101 [(0, .ref 0), (1, sv_I p1), (2, sv_I p2), (3, sv_I (S 24 (S 1043 0))), (4, sv_I l4_35)] [] S
                refine sv_iconst (d := (0 : Int)) hM dX12_hold_101 rfl rfl ?_
                refine sv_istore hM dX12_hold_102 (by decide) rfl ?_
                show sv_T sm_XS sm_cs sm_L sm_sh 0 (q_hold p1 p2 S) 38 104 [(0, .ref 0), (1, sv_I p1), (2, sv_I p2), (3, sv_I (S 24 (S 1043 0))), (4, sv_I (0 : Int))] [] S
                obtain ⟨hin44, h⟩ := h
                have hJ : ∀ a : Int × Unit, (sv_R a.1 ∧ sm_ok S ∧ (0 ≤ a.1 ∧ a.1 ≤ (S 24 (S 1043 0)) ∧ (S 24 (S 1043 0)) = (S 24 (S 1043 0)) ∧ (∀ k : Int, 0 ≤ k → k < a.1 → ¬ (S 23 (100 * (S 1043 0) + k)) = p1))) → sv_T sm_XS sm_cs sm_L sm_sh 0 (q_hold p1 p2 S) 38 104 [(0, .ref 0), (1, sv_I p1), (2, sv_I p2), (3, sv_I (S 24 (S 1043 0))), (4, sv_I a.1)] [] S := by
                  refine sv_loop (α := Int × Unit) (fun a => sv_R a.1 ∧ sm_ok S ∧ (0 ≤ a.1 ∧ a.1 ≤ (S 24 (S 1043 0)) ∧ (S 24 (S 1043 0)) = (S 24 (S 1043 0)) ∧ (∀ k : Int, 0 ≤ k → k < a.1 → ¬ (S 23 (100 * (S 1043 0) + k)) = p1))) (fun a => (S 24 (S 1043 0)) - a.1) (fun a => sv_T sm_XS sm_cs sm_L sm_sh 0 (q_hold p1 p2 S) 38 104 [(0, .ref 0), (1, sv_I p1), (2, sv_I p2), (3, sv_I (S 24 (S 1043 0))), (4, sv_I a.1)] [] S) (fun a q => (h a.1 q.1 q.2.2).1) (fun a q ih43 => ?_)
                  obtain ⟨l4_42, _u⟩ := a
                  obtain ⟨hl4_42, ok45, hin44i⟩ := q
                  have h := (h l4_42 hl4_42 hin44i).2
                  show sv_T sm_XS sm_cs sm_L sm_sh 0 (q_hold p1 p2 S) 38 104 [(0, .ref 0), (1, sv_I p1), (2, sv_I p2), (3, sv_I (S 24 (S 1043 0))), (4, sv_I l4_42)] [] S
                  refine sv_iload hM dX12_hold_104 rfl rfl ?_
                  refine sv_iload_n hM dX12_hold_106 rfl rfl ?_
                  refine sv_icmp_ge hM dX12_hold_107 hl4_42 k41 (t := 136) rfl rfl (fun hc => ?_) (fun hc => ?_)
                  · have h := h.1 (hc)
                    refine sv_aload_n hM dX12_hold_136 rfl rfl ?_
                    refine sv_getA hM dX12_hold_137 sm_fl_80 (sm_a0 _) sm_k39 rfl ?_
                    refine sv_bipush (d := (100 : Int)) hM dX12_hold_140 rfl rfl ?_
                    refine sv_aload_n hM dX12_hold_142 rfl rfl ?_
                    refine sv_getI hM dX12_hold_143 sm_fl_427 (sm_a0 _) sm_k43 rfl (x := (S 1043 0)) rfl ?_
                    refine sv_imul hM dX12_hold_146 rfl ?_
                    refine sv_iload_n hM dX12_hold_147 rfl rfl ?_
                    refine sv_iadd hM dX12_hold_148 rfl ?_
                    refine sv_iload_n hM dX12_hold_149 rfl rfl ?_
                    obtain ⟨o46, h⟩ := h
                    refine sv_iast sm_X hM dX12_hold_150 (sm_a23 _) (by decide) o46.1 o46.2 rfl ?_
                    have ok47 : sm_ok (sv_up S 23 (((100 : Int) * (S 1043 0)) + (S 24 (S 1043 0))) p1) := sm_upI ok45 sm_r23 hp1
                    have md48 : sv_mod [25, 1042, 23, 24] S (sv_up S 23 (((100 : Int) * (S 1043 0)) + (S 24 (S 1043 0))) p1) := sv_mod.up sv_mod.rf (by decide)
                    refine sv_aload_n hM dX12_hold_151 rfl rfl ?_
                    refine sv_getA hM dX12_hold_152 sm_fl_83 (sm_a0 _) sm_k40 rfl ?_
                    refine sv_aload_n hM dX12_hold_155 rfl rfl ?_
                    refine sv_getI hM dX12_hold_156 sm_fl_427 (sm_a0 _) sm_k43 rfl (x := (S 1043 0)) rfl ?_
                    refine sv_dup2 hM dX12_hold_159 rfl ?_
                    refine sv_iald hM dX12_hold_160 (sm_a24 _) (by decide) o40.1 o40.2 rfl (x := (S 24 (S 1043 0))) rfl ?_
                    refine sv_iconst (d := (1 : Int)) hM dX12_hold_161 rfl rfl ?_
                    refine sv_iadd hM dX12_hold_162 rfl ?_
                    obtain ⟨o49, h⟩ := h
                    refine sv_iast sm_X hM dX12_hold_163 (sm_a24 _) (by decide) o40.1 o40.2 rfl ?_
                    have ok50 : sm_ok (sv_up (sv_up S 23 (((100 : Int) * (S 1043 0)) + (S 24 (S 1043 0))) p1) 24 (S 1043 0) ((S 24 (S 1043 0)) + (1 : Int))) := sm_upI ok47 sm_r24 o49
                    have md51 : sv_mod [25, 1042, 23, 24] S (sv_up (sv_up S 23 (((100 : Int) * (S 1043 0)) + (S 24 (S 1043 0))) p1) 24 (S 1043 0) ((S 24 (S 1043 0)) + (1 : Int))) := sv_mod.up md48 (by decide)
                    exact sv_vret hM dX12_hold_164 rfl ⟨rfl, ok50, md51, h⟩
                  · have h := h.2 (hc)
                    refine sv_aload_n hM dX12_hold_110 rfl rfl ?_
                    refine sv_getA hM dX12_hold_111 sm_fl_80 (sm_a0 _) sm_k39 rfl ?_
                    refine sv_bipush (d := (100 : Int)) hM dX12_hold_114 rfl rfl ?_
                    refine sv_aload_n hM dX12_hold_116 rfl rfl ?_
                    refine sv_getI hM dX12_hold_117 sm_fl_427 (sm_a0 _) sm_k43 rfl (x := (S 1043 0)) rfl ?_
                    refine sv_imul hM dX12_hold_120 rfl ?_
                    refine sv_iload hM dX12_hold_121 rfl rfl ?_
                    refine sv_iadd hM dX12_hold_123 rfl ?_
                    obtain ⟨o52, h⟩ := h
                    have k53 : sv_R (S 23 (((100 : Int) * (S 1043 0)) + l4_42)) := sm_okI ok45 sm_r23 (((100 : Int) * (S 1043 0)) + l4_42)
                    have h := h k53
                    refine sv_iald hM dX12_hold_124 (sm_a23 _) (by decide) o52.1 o52.2 rfl (x := (S 23 (((100 : Int) * (S 1043 0)) + l4_42))) rfl ?_
                    refine sv_iload_n hM dX12_hold_125 rfl rfl ?_
                    refine sv_icmp_ne hM dX12_hold_126 k53 hp1 (t := 130) rfl rfl (fun hc => ?_) (fun hc => ?_)
                    · have h := h.1 (hc)
                      refine sv_iinc (d := (1 : Int)) hM dX12_hold_130 rfl (by decide) rfl rfl ?_
                      show sv_T sm_XS sm_cs sm_L sm_sh 0 (q_hold p1 p2 S) 38 133 [(0, .ref 0), (1, sv_I p1), (2, sv_I p2), (3, sv_I (S 24 (S 1043 0))), (4, sv_I (l4_42 + (1 : Int)))] [] S
                      refine sv_goto hM dX12_hold_133 (pc' := 104) rfl ?_
                      obtain ⟨o54, h⟩ := h
                      have hb := ih43 ((l4_42 + (1 : Int)), ()) ⟨o54, ok45, h.1⟩ h.2
                      exact sv_less (lv := [(0, .ref 0), (1, sv_I p1), (2, sv_I p2), (3, sv_I (S 24 (S 1043 0))), (4, sv_I (l4_42 + (1 : Int)))]) (sv_Sub_cons rfl (sv_Sub_cons rfl (sv_Sub_cons rfl (sv_Sub_cons rfl (sv_Sub_cons rfl sv_Sub_nil))))) hb
                    · have h := h.2 (hc)
                      exact sv_vret hM dX12_hold_129 rfl ⟨rfl, ok45, sv_mod.rf, h⟩
                exact hJ ((0 : Int), ()) ⟨(⟨by decide, by decide⟩ : sv_R (0 : Int)), ok38, hin44⟩
              · have h := h.2 (hc)
                refine sv_aload_n hM dX12_hold_71 rfl rfl ?_
                refine sv_getA hM dX12_hold_72 sm_fl_86 (sm_a0 _) sm_k41 rfl ?_
                refine sv_aload_n hM dX12_hold_75 rfl rfl ?_
                refine sv_getI hM dX12_hold_76 sm_fl_430 (sm_a0 _) sm_k42 rfl (x := (S 1042 0)) rfl ?_
                refine sv_iload_n hM dX12_hold_79 rfl rfl ?_
                obtain ⟨o55, h⟩ := h
                refine sv_iast sm_X hM dX12_hold_80 (sm_a25 _) (by decide) o55.1 o55.2 rfl ?_
                have ok56 : sm_ok (sv_up S 25 (S 1042 0) p1) := sm_upI ok38 sm_r25 hp1
                have md57 : sv_mod [25, 1042, 23, 24] S (sv_up S 25 (S 1042 0) p1) := sv_mod.up sv_mod.rf (by decide)
                refine sv_aload_n hM dX12_hold_81 rfl rfl ?_
                refine sv_dupA hM dX12_hold_82 rfl ?_
                refine sv_getI hM dX12_hold_83 sm_fl_430 (sm_a0 _) sm_k42 rfl (x := (S 1042 0)) rfl ?_
                refine sv_iconst (d := (1 : Int)) hM dX12_hold_86 rfl rfl ?_
                refine sv_iadd hM dX12_hold_87 rfl ?_
                obtain ⟨o58, h⟩ := h
                refine sv_putI sm_X hM dX12_hold_88 sm_fp_430 (sm_a0 _) sm_q42 (Or.inl rfl) rfl rfl rfl rfl ?_
                have ok59 : sm_ok (sv_up (sv_up S 25 (S 1042 0) p1) 1042 0 ((S 1042 0) + (1 : Int))) := sm_upI ok56 sm_r1042 o58
                have md60 : sv_mod [25, 1042, 23, 24] S (sv_up (sv_up S 25 (S 1042 0) p1) 1042 0 ((S 1042 0) + (1 : Int))) := sv_mod.up md57 (by decide)
                refine sv_aload_n hM dX12_hold_91 rfl rfl ?_
                refine sv_getA hM dX12_hold_92 sm_fl_83 (sm_a0 _) sm_k40 rfl ?_
                refine sv_aload_n hM dX12_hold_95 rfl rfl ?_
                refine sv_getI hM dX12_hold_96 sm_fl_427 (sm_a0 _) sm_k43 rfl (x := (S 1043 0)) rfl ?_
                obtain ⟨o61, h⟩ := h
                have k62 : sv_R (S 24 (S 1043 0)) := sm_okI ok59 sm_r24 (S 1043 0)
                have h := h k62
                refine sv_iald hM dX12_hold_99 (sm_a24 _) (by decide) o61.1 o61.2 rfl (x := (S 24 (S 1043 0))) rfl ?_
                refine sv_istore_n hM dX12_hold_100 (by decide) rfl ?_
                show sv_T sm_XS sm_cs sm_L sm_sh 0 (q_hold p1 p2 S) 38 101 [(0, .ref 0), (1, sv_I p1), (2, sv_I p2), (3, sv_I (S 24 (S 1043 0))), (4, sv_I l4_35)] [] (sv_up (sv_up S 25 (S 1042 0) p1) 1042 0 ((S 1042 0) + (1 : Int)))
                refine sv_iconst (d := (0 : Int)) hM dX12_hold_101 rfl rfl ?_
                refine sv_istore hM dX12_hold_102 (by decide) rfl ?_
                show sv_T sm_XS sm_cs sm_L sm_sh 0 (q_hold p1 p2 S) 38 104 [(0, .ref 0), (1, sv_I p1), (2, sv_I p2), (3, sv_I (S 24 (S 1043 0))), (4, sv_I (0 : Int))] [] (sv_up (sv_up S 25 (S 1042 0) p1) 1042 0 ((S 1042 0) + (1 : Int)))
                obtain ⟨hin65, h⟩ := h
                have hJ : ∀ a : Int × Unit, (sv_R a.1 ∧ sm_ok (sv_up (sv_up S 25 (S 1042 0) p1) 1042 0 ((S 1042 0) + (1 : Int))) ∧ (0 ≤ a.1 ∧ a.1 ≤ (S 24 (S 1043 0)) ∧ (S 24 (S 1043 0)) = (S 24 (S 1043 0)) ∧ (∀ k : Int, 0 ≤ k → k < a.1 → ¬ (S 23 (100 * (S 1043 0) + k)) = p1))) → sv_T sm_XS sm_cs sm_L sm_sh 0 (q_hold p1 p2 S) 38 104 [(0, .ref 0), (1, sv_I p1), (2, sv_I p2), (3, sv_I (S 24 (S 1043 0))), (4, sv_I a.1)] [] (sv_up (sv_up S 25 (S 1042 0) p1) 1042 0 ((S 1042 0) + (1 : Int))) := by
                  refine sv_loop (α := Int × Unit) (fun a => sv_R a.1 ∧ sm_ok (sv_up (sv_up S 25 (S 1042 0) p1) 1042 0 ((S 1042 0) + (1 : Int))) ∧ (0 ≤ a.1 ∧ a.1 ≤ (S 24 (S 1043 0)) ∧ (S 24 (S 1043 0)) = (S 24 (S 1043 0)) ∧ (∀ k : Int, 0 ≤ k → k < a.1 → ¬ (S 23 (100 * (S 1043 0) + k)) = p1))) (fun a => (S 24 (S 1043 0)) - a.1) (fun a => sv_T sm_XS sm_cs sm_L sm_sh 0 (q_hold p1 p2 S) 38 104 [(0, .ref 0), (1, sv_I p1), (2, sv_I p2), (3, sv_I (S 24 (S 1043 0))), (4, sv_I a.1)] [] (sv_up (sv_up S 25 (S 1042 0) p1) 1042 0 ((S 1042 0) + (1 : Int)))) (fun a q => (h a.1 q.1 q.2.2).1) (fun a q ih64 => ?_)
                  obtain ⟨l4_63, _u⟩ := a
                  obtain ⟨hl4_63, ok66, hin65i⟩ := q
                  have h := (h l4_63 hl4_63 hin65i).2
                  show sv_T sm_XS sm_cs sm_L sm_sh 0 (q_hold p1 p2 S) 38 104 [(0, .ref 0), (1, sv_I p1), (2, sv_I p2), (3, sv_I (S 24 (S 1043 0))), (4, sv_I l4_63)] [] (sv_up (sv_up S 25 (S 1042 0) p1) 1042 0 ((S 1042 0) + (1 : Int)))
                  refine sv_iload hM dX12_hold_104 rfl rfl ?_
                  refine sv_iload_n hM dX12_hold_106 rfl rfl ?_
                  refine sv_icmp_ge hM dX12_hold_107 hl4_63 k62 (t := 136) rfl rfl (fun hc => ?_) (fun hc => ?_)
                  · have h := h.1 (hc)
                    refine sv_aload_n hM dX12_hold_136 rfl rfl ?_
                    refine sv_getA hM dX12_hold_137 sm_fl_80 (sm_a0 _) sm_k39 rfl ?_
                    refine sv_bipush (d := (100 : Int)) hM dX12_hold_140 rfl rfl ?_
                    refine sv_aload_n hM dX12_hold_142 rfl rfl ?_
                    refine sv_getI hM dX12_hold_143 sm_fl_427 (sm_a0 _) sm_k43 rfl (x := (S 1043 0)) rfl ?_
                    refine sv_imul hM dX12_hold_146 rfl ?_
                    refine sv_iload_n hM dX12_hold_147 rfl rfl ?_
                    refine sv_iadd hM dX12_hold_148 rfl ?_
                    refine sv_iload_n hM dX12_hold_149 rfl rfl ?_
                    obtain ⟨o67, h⟩ := h
                    refine sv_iast sm_X hM dX12_hold_150 (sm_a23 _) (by decide) o67.1 o67.2 rfl ?_
                    have ok68 : sm_ok (sv_up (sv_up (sv_up S 25 (S 1042 0) p1) 1042 0 ((S 1042 0) + (1 : Int))) 23 (((100 : Int) * (S 1043 0)) + (S 24 (S 1043 0))) p1) := sm_upI ok66 sm_r23 hp1
                    have md69 : sv_mod [25, 1042, 23, 24] S (sv_up (sv_up (sv_up S 25 (S 1042 0) p1) 1042 0 ((S 1042 0) + (1 : Int))) 23 (((100 : Int) * (S 1043 0)) + (S 24 (S 1043 0))) p1) := sv_mod.up md60 (by decide)
                    refine sv_aload_n hM dX12_hold_151 rfl rfl ?_
                    refine sv_getA hM dX12_hold_152 sm_fl_83 (sm_a0 _) sm_k40 rfl ?_
                    refine sv_aload_n hM dX12_hold_155 rfl rfl ?_
                    refine sv_getI hM dX12_hold_156 sm_fl_427 (sm_a0 _) sm_k43 rfl (x := (S 1043 0)) rfl ?_
                    refine sv_dup2 hM dX12_hold_159 rfl ?_
                    refine sv_iald hM dX12_hold_160 (sm_a24 _) (by decide) o61.1 o61.2 rfl (x := (S 24 (S 1043 0))) rfl ?_
                    refine sv_iconst (d := (1 : Int)) hM dX12_hold_161 rfl rfl ?_
                    refine sv_iadd hM dX12_hold_162 rfl ?_
                    obtain ⟨o70, h⟩ := h
                    refine sv_iast sm_X hM dX12_hold_163 (sm_a24 _) (by decide) o61.1 o61.2 rfl ?_
                    have ok71 : sm_ok (sv_up (sv_up (sv_up (sv_up S 25 (S 1042 0) p1) 1042 0 ((S 1042 0) + (1 : Int))) 23 (((100 : Int) * (S 1043 0)) + (S 24 (S 1043 0))) p1) 24 (S 1043 0) ((S 24 (S 1043 0)) + (1 : Int))) := sm_upI ok68 sm_r24 o70
                    have md72 : sv_mod [25, 1042, 23, 24] S (sv_up (sv_up (sv_up (sv_up S 25 (S 1042 0) p1) 1042 0 ((S 1042 0) + (1 : Int))) 23 (((100 : Int) * (S 1043 0)) + (S 24 (S 1043 0))) p1) 24 (S 1043 0) ((S 24 (S 1043 0)) + (1 : Int))) := sv_mod.up md69 (by decide)
                    exact sv_vret hM dX12_hold_164 rfl ⟨rfl, ok71, md72, h⟩
                  · have h := h.2 (hc)
                    refine sv_aload_n hM dX12_hold_110 rfl rfl ?_
                    refine sv_getA hM dX12_hold_111 sm_fl_80 (sm_a0 _) sm_k39 rfl ?_
                    refine sv_bipush (d := (100 : Int)) hM dX12_hold_114 rfl rfl ?_
                    refine sv_aload_n hM dX12_hold_116 rfl rfl ?_
                    refine sv_getI hM dX12_hold_117 sm_fl_427 (sm_a0 _) sm_k43 rfl (x := (S 1043 0)) rfl ?_
                    refine sv_imul hM dX12_hold_120 rfl ?_
                    refine sv_iload hM dX12_hold_121 rfl rfl ?_
                    refine sv_iadd hM dX12_hold_123 rfl ?_
                    obtain ⟨o73, h⟩ := h
                    have k74 : sv_R (S 23 (((100 : Int) * (S 1043 0)) + l4_63)) := sm_okI ok66 sm_r23 (((100 : Int) * (S 1043 0)) + l4_63)
                    have h := h k74
                    refine sv_iald hM dX12_hold_124 (sm_a23 _) (by decide) o73.1 o73.2 rfl (x := (S 23 (((100 : Int) * (S 1043 0)) + l4_63))) rfl ?_
                    refine sv_iload_n hM dX12_hold_125 rfl rfl ?_
                    refine sv_icmp_ne hM dX12_hold_126 k74 hp1 (t := 130) rfl rfl (fun hc => ?_) (fun hc => ?_)
                    · have h := h.1 (hc)
                      refine sv_iinc (d := (1 : Int)) hM dX12_hold_130 rfl (by decide) rfl rfl ?_
                      show sv_T sm_XS sm_cs sm_L sm_sh 0 (q_hold p1 p2 S) 38 133 [(0, .ref 0), (1, sv_I p1), (2, sv_I p2), (3, sv_I (S 24 (S 1043 0))), (4, sv_I (l4_63 + (1 : Int)))] [] (sv_up (sv_up S 25 (S 1042 0) p1) 1042 0 ((S 1042 0) + (1 : Int)))
                      refine sv_goto hM dX12_hold_133 (pc' := 104) rfl ?_
                      obtain ⟨o75, h⟩ := h
                      have hb := ih64 ((l4_63 + (1 : Int)), ()) ⟨o75, ok66, h.1⟩ h.2
                      exact sv_less (lv := [(0, .ref 0), (1, sv_I p1), (2, sv_I p2), (3, sv_I (S 24 (S 1043 0))), (4, sv_I (l4_63 + (1 : Int)))]) (sv_Sub_cons rfl (sv_Sub_cons rfl (sv_Sub_cons rfl (sv_Sub_cons rfl (sv_Sub_cons rfl sv_Sub_nil))))) hb
                    · have h := h.2 (hc)
                      exact sv_vret hM dX12_hold_129 rfl ⟨rfl, ok66, md60, h⟩
                exact hJ ((0 : Int), ()) ⟨(⟨by decide, by decide⟩ : sv_R (0 : Int)), ok59, hin65⟩
            · have h := h.2 (hc)
              refine sv_iload_n hM dX12_hold_40 rfl rfl ?_
              refine sv_cond_ne hM dX12_hold_41 hl3_34 (t := 55) rfl rfl (fun hc => ?_) (fun hc => ?_)
              · have h := h.1 (hc)
                refine sv_iconst (d := (1 : Int)) hM dX12_hold_55 rfl rfl ?_
                refine sv_goto hM dX12_hold_56 (pc' := 60) rfl ?_
                refine sv_istore_n hM dX12_hold_60 (by decide) rfl ?_
                show sv_T sm_XS sm_cs sm_L sm_sh 0 (q_hold p1 p2 S) 38 61 [(0, .ref 0), (1, sv_I p1), (2, sv_I p2), (3, sv_I (1 : Int)), (4, sv_I l4_35)] [] S
                refine sv_iinc (d := (1 : Int)) hM dX12_hold_61 rfl (by decide) rfl rfl ?_
                show sv_T sm_XS sm_cs sm_L sm_sh 0 (q_hold p1 p2 S) 38 64 [(0, .ref 0), (1, sv_I p1), (2, sv_I p2), (3, sv_I (1 : Int)), (4, sv_I (l4_35 + (1 : Int)))] [] S
                refine sv_goto hM dX12_hold_64 (pc' := 31) rfl ?_
                obtain ⟨o76, h⟩ := h
                have hb := ih36 ((1 : Int), (l4_35 + (1 : Int)), ()) ⟨(⟨by decide, by decide⟩ : sv_R (1 : Int)), o76, ok38, h.1⟩ h.2
                exact sv_less (lv := [(0, .ref 0), (1, sv_I p1), (2, sv_I p2), (3, sv_I (1 : Int)), (4, sv_I (l4_35 + (1 : Int)))]) (sv_Sub_cons rfl (sv_Sub_cons rfl (sv_Sub_cons rfl (sv_Sub_cons rfl (sv_Sub_cons rfl sv_Sub_nil))))) hb
              · have h := h.2 (hc)
                refine sv_aload_n hM dX12_hold_44 rfl rfl ?_
                refine sv_getA hM dX12_hold_45 sm_fl_86 (sm_a0 _) sm_k41 rfl ?_
                refine sv_iload hM dX12_hold_48 rfl rfl ?_
                obtain ⟨o77, h⟩ := h
                have k78 : sv_R (S 25 l4_35) := sm_okI ok38 sm_r25 l4_35
                have h := h k78
                refine sv_iald hM dX12_hold_50 (sm_a25 _) (by decide) o77.1 o77.2 rfl (x := (S 25 l4_35)) rfl ?_
                refine sv_iload_n hM dX12_hold_51 rfl rfl ?_
                refine sv_icmp_ne hM dX12_hold_52 k78 hp1 (t := 59) rfl rfl (fun hc => ?_) (fun hc => ?_)
                · have h := h.1 (hc)
                  refine sv_iconst (d := (0 : Int)) hM dX12_hold_59 rfl rfl ?_
                  refine sv_istore_n hM dX12_hold_60 (by decide) rfl ?_
                  show sv_T sm_XS sm_cs sm_L sm_sh 0 (q_hold p1 p2 S) 38 61 [(0, .ref 0), (1, sv_I p1), (2, sv_I p2), (3, sv_I (0 : Int)), (4, sv_I l4_35)] [] S
                  refine sv_iinc (d := (1 : Int)) hM dX12_hold_61 rfl (by decide) rfl rfl ?_
                  show sv_T sm_XS sm_cs sm_L sm_sh 0 (q_hold p1 p2 S) 38 64 [(0, .ref 0), (1, sv_I p1), (2, sv_I p2), (3, sv_I (0 : Int)), (4, sv_I (l4_35 + (1 : Int)))] [] S
                  refine sv_goto hM dX12_hold_64 (pc' := 31) rfl ?_
                  obtain ⟨o79, h⟩ := h
                  have hb := ih36 ((0 : Int), (l4_35 + (1 : Int)), ()) ⟨(⟨by decide, by decide⟩ : sv_R (0 : Int)), o79, ok38, h.1⟩ h.2
                  exact sv_less (lv := [(0, .ref 0), (1, sv_I p1), (2, sv_I p2), (3, sv_I (0 : Int)), (4, sv_I (l4_35 + (1 : Int)))]) (sv_Sub_cons rfl (sv_Sub_cons rfl (sv_Sub_cons rfl (sv_Sub_cons rfl (sv_Sub_cons rfl sv_Sub_nil))))) hb
                · have h := h.2 (hc)
                  refine sv_iconst (d := (1 : Int)) hM dX12_hold_55 rfl rfl ?_
                  refine sv_goto hM dX12_hold_56 (pc' := 60) rfl ?_
                  refine sv_istore_n hM dX12_hold_60 (by decide) rfl ?_
                  show sv_T sm_XS sm_cs sm_L sm_sh 0 (q_hold p1 p2 S) 38 61 [(0, .ref 0), (1, sv_I p1), (2, sv_I p2), (3, sv_I (1 : Int)), (4, sv_I l4_35)] [] S
                  refine sv_iinc (d := (1 : Int)) hM dX12_hold_61 rfl (by decide) rfl rfl ?_
                  show sv_T sm_XS sm_cs sm_L sm_sh 0 (q_hold p1 p2 S) 38 64 [(0, .ref 0), (1, sv_I p1), (2, sv_I p2), (3, sv_I (1 : Int)), (4, sv_I (l4_35 + (1 : Int)))] [] S
                  refine sv_goto hM dX12_hold_64 (pc' := 31) rfl ?_
                  obtain ⟨o80, h⟩ := h
                  have hb := ih36 ((1 : Int), (l4_35 + (1 : Int)), ()) ⟨(⟨by decide, by decide⟩ : sv_R (1 : Int)), o80, ok38, h.1⟩ h.2
                  exact sv_less (lv := [(0, .ref 0), (1, sv_I p1), (2, sv_I p2), (3, sv_I (1 : Int)), (4, sv_I (l4_35 + (1 : Int)))]) (sv_Sub_cons rfl (sv_Sub_cons rfl (sv_Sub_cons rfl (sv_Sub_cons rfl (sv_Sub_cons rfl sv_Sub_nil))))) hb
          exact hJ ((0 : Int), (0 : Int), ()) ⟨(⟨by decide, by decide⟩ : sv_R (0 : Int)), (⟨by decide, by decide⟩ : sv_R (0 : Int)), hok, hin37⟩
    · have h := h.2 (hc)
      exact sv_vret hM dX12_hold_14 rfl ⟨rfl, hok, sv_mod.rf, h⟩
