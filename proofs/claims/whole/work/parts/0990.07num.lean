theorem dX12_putNumber_0 : decode cX12_putNumber 0 = .ok (.iload_n 1, 1) := by decide +kernel
theorem dX12_putNumber_1 : decode cX12_putNumber 1 = .ok (.ifCond .ge 9, 3) := by decide +kernel
theorem dX12_putNumber_4 : decode cX12_putNumber 4 = .ok (.iload_n 1, 1) := by decide +kernel
theorem dX12_putNumber_5 : decode cX12_putNumber 5 = .ok (.i2l, 1) := by decide +kernel
theorem dX12_putNumber_6 : decode cX12_putNumber 6 = .ok (.lneg, 1) := by decide +kernel
theorem dX12_putNumber_7 : decode cX12_putNumber 7 = .ok (.goto 5, 3) := by decide +kernel
theorem dX12_putNumber_10 : decode cX12_putNumber 10 = .ok (.iload_n 1, 1) := by decide +kernel
theorem dX12_putNumber_11 : decode cX12_putNumber 11 = .ok (.i2l, 1) := by decide +kernel
theorem dX12_putNumber_12 : decode cX12_putNumber 12 = .ok (.lstore_n 2, 1) := by decide +kernel
theorem dX12_putNumber_13 : decode cX12_putNumber 13 = .ok (.iload_n 1, 1) := by decide +kernel
theorem dX12_putNumber_14 : decode cX12_putNumber 14 = .ok (.ifCond .ge 9, 3) := by decide +kernel
theorem dX12_putNumber_17 : decode cX12_putNumber 17 = .ok (.aload_n 0, 1) := by decide +kernel
theorem dX12_putNumber_18 : decode cX12_putNumber 18 = .ok (.bipush 45, 2) := by decide +kernel
theorem dX12_putNumber_20 : decode cX12_putNumber 20 = .ok (.invokevirtual 324, 3) := by decide +kernel
theorem dX12_putNumber_23 : decode cX12_putNumber 23 = .ok (.lconst 1, 1) := by decide +kernel
theorem dX12_putNumber_24 : decode cX12_putNumber 24 = .ok (.lstore 4, 2) := by decide +kernel
theorem dX12_putNumber_26 : decode cX12_putNumber 26 = .ok (.lload_n 2, 1) := by decide +kernel
theorem dX12_putNumber_27 : decode cX12_putNumber 27 = .ok (.lload 4, 2) := by decide +kernel
theorem dX12_putNumber_29 : decode cX12_putNumber 29 = .ok (.ldiv, 1) := by decide +kernel
theorem dX12_putNumber_30 : decode cX12_putNumber 30 = .ok (.ldc2_w 416, 3) := by decide +kernel
theorem dX12_putNumber_33 : decode cX12_putNumber 33 = .ok (.lcmp, 1) := by decide +kernel
theorem dX12_putNumber_34 : decode cX12_putNumber 34 = .ok (.ifCond .le 14, 3) := by decide +kernel
theorem dX12_putNumber_37 : decode cX12_putNumber 37 = .ok (.ldc2_w 381, 3) := by decide +kernel
theorem dX12_putNumber_40 : decode cX12_putNumber 40 = .ok (.lload 4, 2) := by decide +kernel
theorem dX12_putNumber_42 : decode cX12_putNumber 42 = .ok (.lmul, 1) := by decide +kernel
theorem dX12_putNumber_43 : decode cX12_putNumber 43 = .ok (.lstore 4, 2) := by decide +kernel
theorem dX12_putNumber_45 : decode cX12_putNumber 45 = .ok (.goto (-19), 3) := by decide +kernel
theorem dX12_putNumber_48 : decode cX12_putNumber 48 = .ok (.lload 4, 2) := by decide +kernel
theorem dX12_putNumber_50 : decode cX12_putNumber 50 = .ok (.lconst 0, 1) := by decide +kernel
theorem dX12_putNumber_51 : decode cX12_putNumber 51 = .ok (.lcmp, 1) := by decide +kernel
theorem dX12_putNumber_52 : decode cX12_putNumber 52 = .ok (.ifCond .le 30, 3) := by decide +kernel
theorem dX12_putNumber_55 : decode cX12_putNumber 55 = .ok (.aload_n 0, 1) := by decide +kernel
theorem dX12_putNumber_56 : decode cX12_putNumber 56 = .ok (.bipush 48, 2) := by decide +kernel
theorem dX12_putNumber_58 : decode cX12_putNumber 58 = .ok (.lload_n 2, 1) := by decide +kernel
theorem dX12_putNumber_59 : decode cX12_putNumber 59 = .ok (.lload 4, 2) := by decide +kernel
theorem dX12_putNumber_61 : decode cX12_putNumber 61 = .ok (.ldiv, 1) := by decide +kernel
theorem dX12_putNumber_62 : decode cX12_putNumber 62 = .ok (.ldc2_w 381, 3) := by decide +kernel
theorem dX12_putNumber_65 : decode cX12_putNumber 65 = .ok (.lrem, 1) := by decide +kernel
theorem dX12_putNumber_66 : decode cX12_putNumber 66 = .ok (.l2i, 1) := by decide +kernel
theorem dX12_putNumber_67 : decode cX12_putNumber 67 = .ok (.iadd, 1) := by decide +kernel
theorem dX12_putNumber_68 : decode cX12_putNumber 68 = .ok (.invokevirtual 324, 3) := by decide +kernel
theorem dX12_putNumber_71 : decode cX12_putNumber 71 = .ok (.lload 4, 2) := by decide +kernel
theorem dX12_putNumber_73 : decode cX12_putNumber 73 = .ok (.ldc2_w 381, 3) := by decide +kernel
theorem dX12_putNumber_76 : decode cX12_putNumber 76 = .ok (.ldiv, 1) := by decide +kernel
theorem dX12_putNumber_77 : decode cX12_putNumber 77 = .ok (.lstore 4, 2) := by decide +kernel
theorem dX12_putNumber_79 : decode cX12_putNumber 79 = .ok (.goto (-31), 3) := by decide +kernel
theorem dX12_putNumber_82 : decode cX12_putNumber 82 = .ok (.return_, 1) := by decide +kernel

def q_putNumber (p1 : Int) (S : sv_S) : Option Value → sv_S → Prop := fun v S' => v = none ∧ sm_ok S' ∧ sv_mod [5, 1011] S S' ∧ (0 ≤ (S' 1011 0) ∧ (S 1011 0) ≤ (S' 1011 0) ∧ (S' 1011 0) ≤ (S 1011 0) + 11)
set_option maxHeartbeats 2000000 in
theorem f_putNumber : ∀ (p1 : Int) (S : sv_S), sm_ok S → sv_R p1 → (0 ≤ (S 1011 0) ∧ (S 1011 0) ≤ 188) → ((((0 : Int) ≤ p1) → ((((0 : Int) ≤ p1) → ((0 ≤ p1 ∧ p1 ≤ 2147483648 ∧ 1 ≤ (1 : Int) ∧ (1 : Int) ≤ 2147483648 ∧ ((1 : Int) = 1 ∨ (1 : Int) ≤ p1) ∧ (S 1011 0) ≤ (S 1011 0) ∧ (S 1011 0) ≤ (S 1011 0) + 1) ∧ (∀ l4_1 : Int, sv_RL l4_1 → (0 ≤ p1 ∧ p1 ≤ 2147483648 ∧ 1 ≤ l4_1 ∧ l4_1 ≤ 2147483648 ∧ (l4_1 = 1 ∨ l4_1 ≤ p1) ∧ (S 1011 0) ≤ (S 1011 0) ∧ (S 1011 0) ≤ (S 1011 0) + 1) → (0 ≤ 2147483649 - l4_1) ∧ (0 ≤ p1 ∧ p1 ≤ 9223372036854775807) ∧ (0 < l4_1 ∧ l4_1 ≤ 9223372036854775807) ∧ (∀ r5 : Int, (0 ≤ r5 ∧ r5 ≤ p1) → (9 < r5 → 10 * l4_1 ≤ p1) → r5 = p1 / l4_1 → (((r5 ≤ (9 : Int)) → ((0 ≤ p1 ∧ p1 ≤ 2147483648 ∧ 0 ≤ l4_1 ∧ l4_1 ≤ 2147483648 ∧ (S 1011 0) ≤ (S 1011 0) ∧ (1 ≤ l4_1 → (S 1011 0) ≤ (S 1011 0) + 10) ∧ (10 ≤ l4_1 → (S 1011 0) ≤ (S 1011 0) + 9) ∧ (100 ≤ l4_1 → (S 1011 0) ≤ (S 1011 0) + 8) ∧ (1000 ≤ l4_1 → (S 1011 0) ≤ (S 1011 0) + 7) ∧ (10000 ≤ l4_1 → (S 1011 0) ≤ (S 1011 0) + 6) ∧ (100000 ≤ l4_1 → (S 1011 0) ≤ (S 1011 0) + 5) ∧ (1000000 ≤ l4_1 → (S 1011 0) ≤ (S 1011 0) + 4) ∧ (10000000 ≤ l4_1 → (S 1011 0) ≤ (S 1011 0) + 3) ∧ (100000000 ≤ l4_1 → (S 1011 0) ≤ (S 1011 0) + 2) ∧ (1000000000 ≤ l4_1 → (S 1011 0) ≤ (S 1011 0) + 1) ∧ (S 1011 0) ≤ (S 1011 0) + 11) ∧ (∀ l4_9 : Int, sv_RL l4_9 → ∀ g8 : sv_S, (0 ≤ p1 ∧ p1 ≤ 2147483648 ∧ 0 ≤ l4_9 ∧ l4_9 ≤ 2147483648 ∧ (S 1011 0) ≤ (g8 1011 0) ∧ (1 ≤ l4_9 → (g8 1011 0) ≤ (S 1011 0) + 10) ∧ (10 ≤ l4_9 → (g8 1011 0) ≤ (S 1011 0) + 9) ∧ (100 ≤ l4_9 → (g8 1011 0) ≤ (S 1011 0) + 8) ∧ (1000 ≤ l4_9 → (g8 1011 0) ≤ (S 1011 0) + 7) ∧ (10000 ≤ l4_9 → (g8 1011 0) ≤ (S 1011 0) + 6) ∧ (100000 ≤ l4_9 → (g8 1011 0) ≤ (S 1011 0) + 5) ∧ (1000000 ≤ l4_9 → (g8 1011 0) ≤ (S 1011 0) + 4) ∧ (10000000 ≤ l4_9 → (g8 1011 0) ≤ (S 1011 0) + 3) ∧ (100000000 ≤ l4_9 → (g8 1011 0) ≤ (S 1011 0) + 2) ∧ (1000000000 ≤ l4_9 → (g8 1011 0) ≤ (S 1011 0) + 1) ∧ (g8 1011 0) ≤ (S 1011 0) + 11) → (0 ≤ l4_9) ∧ (((l4_9 ≤ (0 : Int)) → (0 ≤ (g8 1011 0) ∧ (S 1011 0) ≤ (g8 1011 0) ∧ (g8 1011 0) ≤ (S 1011 0) + 11)) ∧ ((¬ (l4_9 ≤ (0 : Int))) → (0 < l4_9 ∧ l4_9 ≤ 9223372036854775807) ∧ (∀ r15 : Int, (0 ≤ r15 ∧ r15 ≤ p1) → (9 < r15 → 10 * l4_9 ≤ p1) → r15 = p1 / l4_9 → (0 ≤ r15 ∧ r15 ≤ 9223372036854775807) ∧ (0 < (10 : Int) ∧ (10 : Int) ≤ 9223372036854775807) ∧ (∀ r19 : Int, sv_R r19 → (sv_R (r15 % (10 : Int)) → r19 = (r15 % (10 : Int))) → (sv_R ((48 : Int) + r19)) ∧ (0 ≤ (g8 1011 0) ∧ (g8 1011 0) < 200 ∧ 0 ≤ ((48 : Int) + r19) ∧ ((48 : Int) + r19) ≤ 65535) ∧ (∀ g22 : sv_S, ((g22 1011 0) = (g8 1011 0) + 1) → (0 ≤ l4_9 ∧ l4_9 ≤ 9223372036854775807) ∧ (∀ r28 : Int, (0 ≤ r28 ∧ r28 ≤ l4_9) → (9 < r28 → 10 * (10 : Int) ≤ l4_9) → r28 = l4_9 / (10 : Int) → ((0 ≤ p1 ∧ p1 ≤ 2147483648 ∧ 0 ≤ r28 ∧ r28 ≤ 2147483648 ∧ (S 1011 0) ≤ (g22 1011 0) ∧ (1 ≤ r28 → (g22 1011 0) ≤ (S 1011 0) + 10) ∧ (10 ≤ r28 → (g22 1011 0) ≤ (S 1011 0) + 9) ∧ (100 ≤ r28 → (g22 1011 0) ≤ (S 1011 0) + 8) ∧ (1000 ≤ r28 → (g22 1011 0) ≤ (S 1011 0) + 7) ∧ (10000 ≤ r28 → (g22 1011 0) ≤ (S 1011 0) + 6) ∧ (100000 ≤ r28 → (g22 1011 0) ≤ (S 1011 0) + 5) ∧ (1000000 ≤ r28 → (g22 1011 0) ≤ (S 1011 0) + 4) ∧ (10000000 ≤ r28 → (g22 1011 0) ≤ (S 1011 0) + 3) ∧ (100000000 ≤ r28 → (g22 1011 0) ≤ (S 1011 0) + 2) ∧ (1000000000 ≤ r28 → (g22 1011 0) ≤ (S 1011 0) + 1) ∧ (g22 1011 0) ≤ (S 1011 0) + 11) ∧ (r28) < (l4_9))))))))))) ∧ ((¬ (r5 ≤ (9 : Int))) → (sv_RL ((10 : Int) * l4_1)) ∧ ((0 ≤ p1 ∧ p1 ≤ 2147483648 ∧ 1 ≤ ((10 : Int) * l4_1) ∧ ((10 : Int) * l4_1) ≤ 2147483648 ∧ (((10 : Int) * l4_1) = 1 ∨ ((10 : Int) * l4_1) ≤ p1) ∧ (S 1011 0) ≤ (S 1011 0) ∧ (S 1011 0) ≤ (S 1011 0) + 1) ∧ (2147483649 - ((10 : Int) * l4_1)) < (2147483649 - l4_1)))))))) ∧ ((¬ ((0 : Int) ≤ p1)) → (0 ≤ (S 1011 0) ∧ (S 1011 0) < 200 ∧ 0 ≤ (45 : Int) ∧ (45 : Int) ≤ 65535) ∧ (∀ g32 : sv_S, ((g32 1011 0) = (S 1011 0) + 1) → ((0 ≤ p1 ∧ p1 ≤ 2147483648 ∧ 1 ≤ (1 : Int) ∧ (1 : Int) ≤ 2147483648 ∧ ((1 : Int) = 1 ∨ (1 : Int) ≤ p1) ∧ (S 1011 0) ≤ (g32 1011 0) ∧ (g32 1011 0) ≤ (S 1011 0) + 1) ∧ (∀ l4_37 : Int, sv_RL l4_37 → (0 ≤ p1 ∧ p1 ≤ 2147483648 ∧ 1 ≤ l4_37 ∧ l4_37 ≤ 2147483648 ∧ (l4_37 = 1 ∨ l4_37 ≤ p1) ∧ (S 1011 0) ≤ (g32 1011 0) ∧ (g32 1011 0) ≤ (S 1011 0) + 1) → (0 ≤ 2147483649 - l4_37) ∧ (0 ≤ p1 ∧ p1 ≤ 9223372036854775807) ∧ (0 < l4_37 ∧ l4_37 ≤ 9223372036854775807) ∧ (∀ r41 : Int, (0 ≤ r41 ∧ r41 ≤ p1) → (9 < r41 → 10 * l4_37 ≤ p1) → r41 = p1 / l4_37 → (((r41 ≤ (9 : Int)) → ((0 ≤ p1 ∧ p1 ≤ 2147483648 ∧ 0 ≤ l4_37 ∧ l4_37 ≤ 2147483648 ∧ (S 1011 0) ≤ (g32 1011 0) ∧ (1 ≤ l4_37 → (g32 1011 0) ≤ (S 1011 0) + 10) ∧ (10 ≤ l4_37 → (g32 1011 0) ≤ (S 1011 0) + 9) ∧ (100 ≤ l4_37 → (g32 1011 0) ≤ (S 1011 0) + 8) ∧ (1000 ≤ l4_37 → (g32 1011 0) ≤ (S 1011 0) + 7) ∧ (10000 ≤ l4_37 → (g32 1011 0) ≤ (S 1011 0) + 6) ∧ (100000 ≤ l4_37 → (g32 1011 0) ≤ (S 1011 0) + 5) ∧ (1000000 ≤ l4_37 → (g32 1011 0) ≤ (S 1011 0) + 4) ∧ (10000000 ≤ l4_37 → (g32 1011 0) ≤ (S 1011 0) + 3) ∧ (100000000 ≤ l4_37 → (g32 1011 0) ≤ (S 1011 0) + 2) ∧ (1000000000 ≤ l4_37 → (g32 1011 0) ≤ (S 1011 0) + 1) ∧ (g32 1011 0) ≤ (S 1011 0) + 11) ∧ (∀ l4_45 : Int, sv_RL l4_45 → ∀ g44 : sv_S, (0 ≤ p1 ∧ p1 ≤ 2147483648 ∧ 0 ≤ l4_45 ∧ l4_45 ≤ 2147483648 ∧ (S 1011 0) ≤ (g44 1011 0) ∧ (1 ≤ l4_45 → (g44 1011 0) ≤ (S 1011 0) + 10) ∧ (10 ≤ l4_45 → (g44 1011 0) ≤ (S 1011 0) + 9) ∧ (100 ≤ l4_45 → (g44 1011 0) ≤ (S 1011 0) + 8) ∧ (1000 ≤ l4_45 → (g44 1011 0) ≤ (S 1011 0) + 7) ∧ (10000 ≤ l4_45 → (g44 1011 0) ≤ (S 1011 0) + 6) ∧ (100000 ≤ l4_45 → (g44 1011 0) ≤ (S 1011 0) + 5) ∧ (1000000 ≤ l4_45 → (g44 1011 0) ≤ (S 1011 0) + 4) ∧ (10000000 ≤ l4_45 → (g44 1011 0) ≤ (S 1011 0) + 3) ∧ (100000000 ≤ l4_45 → (g44 1011 0) ≤ (S 1011 0) + 2) ∧ (1000000000 ≤ l4_45 → (g44 1011 0) ≤ (S 1011 0) + 1) ∧ (g44 1011 0) ≤ (S 1011 0) + 11) → (0 ≤ l4_45) ∧ (((l4_45 ≤ (0 : Int)) → (0 ≤ (g44 1011 0) ∧ (S 1011 0) ≤ (g44 1011 0) ∧ (g44 1011 0) ≤ (S 1011 0) + 11)) ∧ ((¬ (l4_45 ≤ (0 : Int))) → (0 < l4_45 ∧ l4_45 ≤ 9223372036854775807) ∧ (∀ r51 : Int, (0 ≤ r51 ∧ r51 ≤ p1) → (9 < r51 → 10 * l4_45 ≤ p1) → r51 = p1 / l4_45 → (0 ≤ r51 ∧ r51 ≤ 9223372036854775807) ∧ (0 < (10 : Int) ∧ (10 : Int) ≤ 9223372036854775807) ∧ (∀ r55 : Int, sv_R r55 → (sv_R (r51 % (10 : Int)) → r55 = (r51 % (10 : Int))) → (sv_R ((48 : Int) + r55)) ∧ (0 ≤ (g44 1011 0) ∧ (g44 1011 0) < 200 ∧ 0 ≤ ((48 : Int) + r55) ∧ ((48 : Int) + r55) ≤ 65535) ∧ (∀ g58 : sv_S, ((g58 1011 0) = (g44 1011 0) + 1) → (0 ≤ l4_45 ∧ l4_45 ≤ 9223372036854775807) ∧ (∀ r64 : Int, (0 ≤ r64 ∧ r64 ≤ l4_45) → (9 < r64 → 10 * (10 : Int) ≤ l4_45) → r64 = l4_45 / (10 : Int) → ((0 ≤ p1 ∧ p1 ≤ 2147483648 ∧ 0 ≤ r64 ∧ r64 ≤ 2147483648 ∧ (S 1011 0) ≤ (g58 1011 0) ∧ (1 ≤ r64 → (g58 1011 0) ≤ (S 1011 0) + 10) ∧ (10 ≤ r64 → (g58 1011 0) ≤ (S 1011 0) + 9) ∧ (100 ≤ r64 → (g58 1011 0) ≤ (S 1011 0) + 8) ∧ (1000 ≤ r64 → (g58 1011 0) ≤ (S 1011 0) + 7) ∧ (10000 ≤ r64 → (g58 1011 0) ≤ (S 1011 0) + 6) ∧ (100000 ≤ r64 → (g58 1011 0) ≤ (S 1011 0) + 5) ∧ (1000000 ≤ r64 → (g58 1011 0) ≤ (S 1011 0) + 4) ∧ (10000000 ≤ r64 → (g58 1011 0) ≤ (S 1011 0) + 3) ∧ (100000000 ≤ r64 → (g58 1011 0) ≤ (S 1011 0) + 2) ∧ (1000000000 ≤ r64 → (g58 1011 0) ≤ (S 1011 0) + 1) ∧ (g58 1011 0) ≤ (S 1011 0) + 11) ∧ (r64) < (l4_45))))))))))) ∧ ((¬ (r41 ≤ (9 : Int))) → (sv_RL ((10 : Int) * l4_37)) ∧ ((0 ≤ p1 ∧ p1 ≤ 2147483648 ∧ 1 ≤ ((10 : Int) * l4_37) ∧ ((10 : Int) * l4_37) ≤ 2147483648 ∧ (((10 : Int) * l4_37) = 1 ∨ ((10 : Int) * l4_37) ≤ p1) ∧ (S 1011 0) ≤ (g32 1011 0) ∧ (g32 1011 0) ≤ (S 1011 0) + 1) ∧ (2147483649 - ((10 : Int) * l4_37)) < (2147483649 - l4_37))))))))))) ∧ ((¬ ((0 : Int) ≤ p1)) → ((((0 : Int) ≤ p1) → ((0 ≤ (-p1) ∧ (-p1) ≤ 2147483648 ∧ 1 ≤ (1 : Int) ∧ (1 : Int) ≤ 2147483648 ∧ ((1 : Int) = 1 ∨ (1 : Int) ≤ (-p1)) ∧ (S 1011 0) ≤ (S 1011 0) ∧ (S 1011 0) ≤ (S 1011 0) + 1) ∧ (∀ l4_67 : Int, sv_RL l4_67 → (0 ≤ (-p1) ∧ (-p1) ≤ 2147483648 ∧ 1 ≤ l4_67 ∧ l4_67 ≤ 2147483648 ∧ (l4_67 = 1 ∨ l4_67 ≤ (-p1)) ∧ (S 1011 0) ≤ (S 1011 0) ∧ (S 1011 0) ≤ (S 1011 0) + 1) → (0 ≤ 2147483649 - l4_67) ∧ (0 ≤ (-p1) ∧ (-p1) ≤ 9223372036854775807) ∧ (0 < l4_67 ∧ l4_67 ≤ 9223372036854775807) ∧ (∀ r71 : Int, (0 ≤ r71 ∧ r71 ≤ (-p1)) → (9 < r71 → 10 * l4_67 ≤ (-p1)) → r71 = (-p1) / l4_67 → (((r71 ≤ (9 : Int)) → ((0 ≤ (-p1) ∧ (-p1) ≤ 2147483648 ∧ 0 ≤ l4_67 ∧ l4_67 ≤ 2147483648 ∧ (S 1011 0) ≤ (S 1011 0) ∧ (1 ≤ l4_67 → (S 1011 0) ≤ (S 1011 0) + 10) ∧ (10 ≤ l4_67 → (S 1011 0) ≤ (S 1011 0) + 9) ∧ (100 ≤ l4_67 → (S 1011 0) ≤ (S 1011 0) + 8) ∧ (1000 ≤ l4_67 → (S 1011 0) ≤ (S 1011 0) + 7) ∧ (10000 ≤ l4_67 → (S 1011 0) ≤ (S 1011 0) + 6) ∧ (100000 ≤ l4_67 → (S 1011 0) ≤ (S 1011 0) + 5) ∧ (1000000 ≤ l4_67 → (S 1011 0) ≤ (S 1011 0) + 4) ∧ (10000000 ≤ l4_67 → (S 1011 0) ≤ (S 1011 0) + 3) ∧ (100000000 ≤ l4_67 → (S 1011 0) ≤ (S 1011 0) + 2) ∧ (1000000000 ≤ l4_67 → (S 1011 0) ≤ (S 1011 0) + 1) ∧ (S 1011 0) ≤ (S 1011 0) + 11) ∧ (∀ l4_75 : Int, sv_RL l4_75 → ∀ g74 : sv_S, (0 ≤ (-p1) ∧ (-p1) ≤ 2147483648 ∧ 0 ≤ l4_75 ∧ l4_75 ≤ 2147483648 ∧ (S 1011 0) ≤ (g74 1011 0) ∧ (1 ≤ l4_75 → (g74 1011 0) ≤ (S 1011 0) + 10) ∧ (10 ≤ l4_75 → (g74 1011 0) ≤ (S 1011 0) + 9) ∧ (100 ≤ l4_75 → (g74 1011 0) ≤ (S 1011 0) + 8) ∧ (1000 ≤ l4_75 → (g74 1011 0) ≤ (S 1011 0) + 7) ∧ (10000 ≤ l4_75 → (g74 1011 0) ≤ (S 1011 0) + 6) ∧ (100000 ≤ l4_75 → (g74 1011 0) ≤ (S 1011 0) + 5) ∧ (1000000 ≤ l4_75 → (g74 1011 0) ≤ (S 1011 0) + 4) ∧ (10000000 ≤ l4_75 → (g74 1011 0) ≤ (S 1011 0) + 3) ∧ (100000000 ≤ l4_75 → (g74 1011 0) ≤ (S 1011 0) + 2) ∧ (1000000000 ≤ l4_75 → (g74 1011 0) ≤ (S 1011 0) + 1) ∧ (g74 1011 0) ≤ (S 1011 0) + 11) → (0 ≤ l4_75) ∧ (((l4_75 ≤ (0 : Int)) → (0 ≤ (g74 1011 0) ∧ (S 1011 0) ≤ (g74 1011 0) ∧ (g74 1011 0) ≤ (S 1011 0) + 11)) ∧ ((¬ (l4_75 ≤ (0 : Int))) → (0 < l4_75 ∧ l4_75 ≤ 9223372036854775807) ∧ (∀ r81 : Int, (0 ≤ r81 ∧ r81 ≤ (-p1)) → (9 < r81 → 10 * l4_75 ≤ (-p1)) → r81 = (-p1) / l4_75 → (0 ≤ r81 ∧ r81 ≤ 9223372036854775807) ∧ (0 < (10 : Int) ∧ (10 : Int) ≤ 9223372036854775807) ∧ (∀ r85 : Int, sv_R r85 → (sv_R (r81 % (10 : Int)) → r85 = (r81 % (10 : Int))) → (sv_R ((48 : Int) + r85)) ∧ (0 ≤ (g74 1011 0) ∧ (g74 1011 0) < 200 ∧ 0 ≤ ((48 : Int) + r85) ∧ ((48 : Int) + r85) ≤ 65535) ∧ (∀ g88 : sv_S, ((g88 1011 0) = (g74 1011 0) + 1) → (0 ≤ l4_75 ∧ l4_75 ≤ 9223372036854775807) ∧ (∀ r94 : Int, (0 ≤ r94 ∧ r94 ≤ l4_75) → (9 < r94 → 10 * (10 : Int) ≤ l4_75) → r94 = l4_75 / (10 : Int) → ((0 ≤ (-p1) ∧ (-p1) ≤ 2147483648 ∧ 0 ≤ r94 ∧ r94 ≤ 2147483648 ∧ (S 1011 0) ≤ (g88 1011 0) ∧ (1 ≤ r94 → (g88 1011 0) ≤ (S 1011 0) + 10) ∧ (10 ≤ r94 → (g88 1011 0) ≤ (S 1011 0) + 9) ∧ (100 ≤ r94 → (g88 1011 0) ≤ (S 1011 0) + 8) ∧ (1000 ≤ r94 → (g88 1011 0) ≤ (S 1011 0) + 7) ∧ (10000 ≤ r94 → (g88 1011 0) ≤ (S 1011 0) + 6) ∧ (100000 ≤ r94 → (g88 1011 0) ≤ (S 1011 0) + 5) ∧ (1000000 ≤ r94 → (g88 1011 0) ≤ (S 1011 0) + 4) ∧ (10000000 ≤ r94 → (g88 1011 0) ≤ (S 1011 0) + 3) ∧ (100000000 ≤ r94 → (g88 1011 0) ≤ (S 1011 0) + 2) ∧ (1000000000 ≤ r94 → (g88 1011 0) ≤ (S 1011 0) + 1) ∧ (g88 1011 0) ≤ (S 1011 0) + 11) ∧ (r94) < (l4_75))))))))))) ∧ ((¬ (r71 ≤ (9 : Int))) → (sv_RL ((10 : Int) * l4_67)) ∧ ((0 ≤ (-p1) ∧ (-p1) ≤ 2147483648 ∧ 1 ≤ ((10 : Int) * l4_67) ∧ ((10 : Int) * l4_67) ≤ 2147483648 ∧ (((10 : Int) * l4_67) = 1 ∨ ((10 : Int) * l4_67) ≤ (-p1)) ∧ (S 1011 0) ≤ (S 1011 0) ∧ (S 1011 0) ≤ (S 1011 0) + 1) ∧ (2147483649 - ((10 : Int) * l4_67)) < (2147483649 - l4_67)))))))) ∧ ((¬ ((0 : Int) ≤ p1)) → (0 ≤ (S 1011 0) ∧ (S 1011 0) < 200 ∧ 0 ≤ (45 : Int) ∧ (45 : Int) ≤ 65535) ∧ (∀ g98 : sv_S, ((g98 1011 0) = (S 1011 0) + 1) → ((0 ≤ (-p1) ∧ (-p1) ≤ 2147483648 ∧ 1 ≤ (1 : Int) ∧ (1 : Int) ≤ 2147483648 ∧ ((1 : Int) = 1 ∨ (1 : Int) ≤ (-p1)) ∧ (S 1011 0) ≤ (g98 1011 0) ∧ (g98 1011 0) ≤ (S 1011 0) + 1) ∧ (∀ l4_103 : Int, sv_RL l4_103 → (0 ≤ (-p1) ∧ (-p1) ≤ 2147483648 ∧ 1 ≤ l4_103 ∧ l4_103 ≤ 2147483648 ∧ (l4_103 = 1 ∨ l4_103 ≤ (-p1)) ∧ (S 1011 0) ≤ (g98 1011 0) ∧ (g98 1011 0) ≤ (S 1011 0) + 1) → (0 ≤ 2147483649 - l4_103) ∧ (0 ≤ (-p1) ∧ (-p1) ≤ 9223372036854775807) ∧ (0 < l4_103 ∧ l4_103 ≤ 9223372036854775807) ∧ (∀ r107 : Int, (0 ≤ r107 ∧ r107 ≤ (-p1)) → (9 < r107 → 10 * l4_103 ≤ (-p1)) → r107 = (-p1) / l4_103 → (((r107 ≤ (9 : Int)) → ((0 ≤ (-p1) ∧ (-p1) ≤ 2147483648 ∧ 0 ≤ l4_103 ∧ l4_103 ≤ 2147483648 ∧ (S 1011 0) ≤ (g98 1011 0) ∧ (1 ≤ l4_103 → (g98 1011 0) ≤ (S 1011 0) + 10) ∧ (10 ≤ l4_103 → (g98 1011 0) ≤ (S 1011 0) + 9) ∧ (100 ≤ l4_103 → (g98 1011 0) ≤ (S 1011 0) + 8) ∧ (1000 ≤ l4_103 → (g98 1011 0) ≤ (S 1011 0) + 7) ∧ (10000 ≤ l4_103 → (g98 1011 0) ≤ (S 1011 0) + 6) ∧ (100000 ≤ l4_103 → (g98 1011 0) ≤ (S 1011 0) + 5) ∧ (1000000 ≤ l4_103 → (g98 1011 0) ≤ (S 1011 0) + 4) ∧ (10000000 ≤ l4_103 → (g98 1011 0) ≤ (S 1011 0) + 3) ∧ (100000000 ≤ l4_103 → (g98 1011 0) ≤ (S 1011 0) + 2) ∧ (1000000000 ≤ l4_103 → (g98 1011 0) ≤ (S 1011 0) + 1) ∧ (g98 1011 0) ≤ (S 1011 0) + 11) ∧ (∀ l4_111 : Int, sv_RL l4_111 → ∀ g110 : sv_S, (0 ≤ (-p1) ∧ (-p1) ≤ 2147483648 ∧ 0 ≤ l4_111 ∧ l4_111 ≤ 2147483648 ∧ (S 1011 0) ≤ (g110 1011 0) ∧ (1 ≤ l4_111 → (g110 1011 0) ≤ (S 1011 0) + 10) ∧ (10 ≤ l4_111 → (g110 1011 0) ≤ (S 1011 0) + 9) ∧ (100 ≤ l4_111 → (g110 1011 0) ≤ (S 1011 0) + 8) ∧ (1000 ≤ l4_111 → (g110 1011 0) ≤ (S 1011 0) + 7) ∧ (10000 ≤ l4_111 → (g110 1011 0) ≤ (S 1011 0) + 6) ∧ (100000 ≤ l4_111 → (g110 1011 0) ≤ (S 1011 0) + 5) ∧ (1000000 ≤ l4_111 → (g110 1011 0) ≤ (S 1011 0) + 4) ∧ (10000000 ≤ l4_111 → (g110 1011 0) ≤ (S 1011 0) + 3) ∧ (100000000 ≤ l4_111 → (g110 1011 0) ≤ (S 1011 0) + 2) ∧ (1000000000 ≤ l4_111 → (g110 1011 0) ≤ (S 1011 0) + 1) ∧ (g110 1011 0) ≤ (S 1011 0) + 11) → (0 ≤ l4_111) ∧ (((l4_111 ≤ (0 : Int)) → (0 ≤ (g110 1011 0) ∧ (S 1011 0) ≤ (g110 1011 0) ∧ (g110 1011 0) ≤ (S 1011 0) + 11)) ∧ ((¬ (l4_111 ≤ (0 : Int))) → (0 < l4_111 ∧ l4_111 ≤ 9223372036854775807) ∧ (∀ r117 : Int, (0 ≤ r117 ∧ r117 ≤ (-p1)) → (9 < r117 → 10 * l4_111 ≤ (-p1)) → r117 = (-p1) / l4_111 → (0 ≤ r117 ∧ r117 ≤ 9223372036854775807) ∧ (0 < (10 : Int) ∧ (10 : Int) ≤ 9223372036854775807) ∧ (∀ r121 : Int, sv_R r121 → (sv_R (r117 % (10 : Int)) → r121 = (r117 % (10 : Int))) → (sv_R ((48 : Int) + r121)) ∧ (0 ≤ (g110 1011 0) ∧ (g110 1011 0) < 200 ∧ 0 ≤ ((48 : Int) + r121) ∧ ((48 : Int) + r121) ≤ 65535) ∧ (∀ g124 : sv_S, ((g124 1011 0) = (g110 1011 0) + 1) → (0 ≤ l4_111 ∧ l4_111 ≤ 9223372036854775807) ∧ (∀ r130 : Int, (0 ≤ r130 ∧ r130 ≤ l4_111) → (9 < r130 → 10 * (10 : Int) ≤ l4_111) → r130 = l4_111 / (10 : Int) → ((0 ≤ (-p1) ∧ (-p1) ≤ 2147483648 ∧ 0 ≤ r130 ∧ r130 ≤ 2147483648 ∧ (S 1011 0) ≤ (g124 1011 0) ∧ (1 ≤ r130 → (g124 1011 0) ≤ (S 1011 0) + 10) ∧ (10 ≤ r130 → (g124 1011 0) ≤ (S 1011 0) + 9) ∧ (100 ≤ r130 → (g124 1011 0) ≤ (S 1011 0) + 8) ∧ (1000 ≤ r130 → (g124 1011 0) ≤ (S 1011 0) + 7) ∧ (10000 ≤ r130 → (g124 1011 0) ≤ (S 1011 0) + 6) ∧ (100000 ≤ r130 → (g124 1011 0) ≤ (S 1011 0) + 5) ∧ (1000000 ≤ r130 → (g124 1011 0) ≤ (S 1011 0) + 4) ∧ (10000000 ≤ r130 → (g124 1011 0) ≤ (S 1011 0) + 3) ∧ (100000000 ≤ r130 → (g124 1011 0) ≤ (S 1011 0) + 2) ∧ (1000000000 ≤ r130 → (g124 1011 0) ≤ (S 1011 0) + 1) ∧ (g124 1011 0) ≤ (S 1011 0) + 11) ∧ (r130) < (l4_111))))))))))) ∧ ((¬ (r107 ≤ (9 : Int))) → (sv_RL ((10 : Int) * l4_103)) ∧ ((0 ≤ (-p1) ∧ (-p1) ≤ 2147483648 ∧ 1 ≤ ((10 : Int) * l4_103) ∧ ((10 : Int) * l4_103) ≤ 2147483648 ∧ (((10 : Int) * l4_103) = 1 ∨ ((10 : Int) * l4_103) ≤ (-p1)) ∧ (S 1011 0) ≤ (g98 1011 0) ∧ (g98 1011 0) ≤ (S 1011 0) + 1) ∧ (2147483649 - ((10 : Int) * l4_103)) < (2147483649 - l4_103)))))))))))) := by
  intro p1 S hok hp1 hpre
  repeat' (first | (with_reducible refine And.intro ?_ ?_) | (with_reducible intro _))
  all_goals first | assumption | omega | grind
set_option maxRecDepth 8000 in
set_option maxHeartbeats 2000000 in
theorem t_putNumber : ∀ (p1 : Int) (S : sv_S), sm_ok S → sv_R p1 → (0 ≤ (S 1011 0) ∧ (S 1011 0) ≤ 188) → sv_T sm_XS sm_cs sm_L sm_sh 1 (q_putNumber p1 S) 31 0 (lv_args 0 [.ref 0, sv_I p1]) [] S := by
  intro p1 S hok hp1 hpre
  have h := f_putNumber p1 S hok hp1 hpre
  have hM := sm_h31
  show sv_T sm_XS sm_cs sm_L sm_sh 1 (q_putNumber p1 S) 31 0 [(0, .ref 0), (1, sv_I p1)] [] S
  refine sv_iload_n hM dX12_putNumber_0 rfl rfl ?_
  refine sv_cond_ge hM dX12_putNumber_1 hp1 (t := 10) rfl rfl (fun hc => ?_) (fun hc => ?_)
  · have h := h.1 (hc)
    refine sv_iload_n hM dX12_putNumber_10 rfl rfl ?_
    refine sv_i2l hM dX12_putNumber_11 hp1 rfl ?_
    refine sv_lstore_n hM dX12_putNumber_12 (by decide) rfl ?_
    show sv_T sm_XS sm_cs sm_L sm_sh 1 (q_putNumber p1 S) 31 13 [(0, .ref 0), (1, sv_I p1), (2, sv_L p1)] [] S
    refine sv_iload_n hM dX12_putNumber_13 rfl rfl ?_
    refine sv_cond_ge hM dX12_putNumber_14 hp1 (t := 23) rfl rfl (fun hc => ?_) (fun hc => ?_)
    · have h := h.1 (hc)
      refine sv_lconst (d := (1 : Int)) hM dX12_putNumber_23 rfl rfl ?_
      refine sv_lstore hM dX12_putNumber_24 (by decide) rfl ?_
      show sv_T sm_XS sm_cs sm_L sm_sh 1 (q_putNumber p1 S) 31 26 [(0, .ref 0), (1, sv_I p1), (2, sv_L p1), (4, sv_L (1 : Int))] [] S
      obtain ⟨hin3, h⟩ := h
      have hJ : ∀ a : Int × Unit, (sv_RL a.1 ∧ sm_ok S ∧ (0 ≤ p1 ∧ p1 ≤ 2147483648 ∧ 1 ≤ a.1 ∧ a.1 ≤ 2147483648 ∧ (a.1 = 1 ∨ a.1 ≤ p1) ∧ (S 1011 0) ≤ (S 1011 0) ∧ (S 1011 0) ≤ (S 1011 0) + 1)) → sv_T sm_XS sm_cs sm_L sm_sh 1 (q_putNumber p1 S) 31 26 [(0, .ref 0), (1, sv_I p1), (2, sv_L p1), (4, sv_L a.1)] [] S := by
        refine sv_loop (α := Int × Unit) (fun a => sv_RL a.1 ∧ sm_ok S ∧ (0 ≤ p1 ∧ p1 ≤ 2147483648 ∧ 1 ≤ a.1 ∧ a.1 ≤ 2147483648 ∧ (a.1 = 1 ∨ a.1 ≤ p1) ∧ (S 1011 0) ≤ (S 1011 0) ∧ (S 1011 0) ≤ (S 1011 0) + 1)) (fun a => 2147483649 - a.1) (fun a => sv_T sm_XS sm_cs sm_L sm_sh 1 (q_putNumber p1 S) 31 26 [(0, .ref 0), (1, sv_I p1), (2, sv_L p1), (4, sv_L a.1)] [] S) (fun a q => (h a.1 q.1 q.2.2).1) (fun a q ih2 => ?_)
        obtain ⟨l4_1, _u⟩ := a
        obtain ⟨hl4_1, ok4, hin3i⟩ := q
        have h := (h l4_1 hl4_1 hin3i).2
        show sv_T sm_XS sm_cs sm_L sm_sh 1 (q_putNumber p1 S) 31 26 [(0, .ref 0), (1, sv_I p1), (2, sv_L p1), (4, sv_L l4_1)] [] S
        refine sv_lload_n hM dX12_putNumber_26 rfl rfl ?_
        refine sv_lload hM dX12_putNumber_27 rfl rfl ?_
        obtain ⟨o6, h⟩ := h
        obtain ⟨o7, h⟩ := h
        refine sv_ldiv hM dX12_putNumber_29 o6 o7 rfl (fun r5 hr5 dr5 er5 => ?_)
        have h := h r5 hr5 dr5 er5
        refine sv_ldc2_w (d := (9 : Int)) hM dX12_putNumber_30 sm_ck_416 rfl rfl ?_
        refine sv_lcmp hM dX12_putNumber_33 (⟨by have := hr5; have := o6; omega, by have := hr5; have := o6; omega⟩ : sv_RL r5) (⟨by decide, by decide⟩ : sv_RL (9 : Int)) rfl ?_
        refine sv_cond_le hM dX12_putNumber_34 sv_Rcmp (t := 48) rfl rfl (fun hc => ?_) (fun hc => ?_)
        · have h := h.1 ((sv_cmp_le).mp hc)
          obtain ⟨hin11, h⟩ := h
          have hJ : ∀ a : Int × sv_S, (sv_RL a.1 ∧ sm_ok (sv_sts S [5, 1011] a.2) ∧ (0 ≤ p1 ∧ p1 ≤ 2147483648 ∧ 0 ≤ a.1 ∧ a.1 ≤ 2147483648 ∧ (S 1011 0) ≤ (a.2 1011 0) ∧ (1 ≤ a.1 → (a.2 1011 0) ≤ (S 1011 0) + 10) ∧ (10 ≤ a.1 → (a.2 1011 0) ≤ (S 1011 0) + 9) ∧ (100 ≤ a.1 → (a.2 1011 0) ≤ (S 1011 0) + 8) ∧ (1000 ≤ a.1 → (a.2 1011 0) ≤ (S 1011 0) + 7) ∧ (10000 ≤ a.1 → (a.2 1011 0) ≤ (S 1011 0) + 6) ∧ (100000 ≤ a.1 → (a.2 1011 0) ≤ (S 1011 0) + 5) ∧ (1000000 ≤ a.1 → (a.2 1011 0) ≤ (S 1011 0) + 4) ∧ (10000000 ≤ a.1 → (a.2 1011 0) ≤ (S 1011 0) + 3) ∧ (100000000 ≤ a.1 → (a.2 1011 0) ≤ (S 1011 0) + 2) ∧ (1000000000 ≤ a.1 → (a.2 1011 0) ≤ (S 1011 0) + 1) ∧ (a.2 1011 0) ≤ (S 1011 0) + 11)) → sv_T sm_XS sm_cs sm_L sm_sh 1 (q_putNumber p1 S) 31 48 [(0, .ref 0), (1, sv_I p1), (2, sv_L p1), (4, sv_L a.1)] [] (sv_sts S [5, 1011] a.2) := by
            refine sv_loop (α := Int × sv_S) (fun a => sv_RL a.1 ∧ sm_ok (sv_sts S [5, 1011] a.2) ∧ (0 ≤ p1 ∧ p1 ≤ 2147483648 ∧ 0 ≤ a.1 ∧ a.1 ≤ 2147483648 ∧ (S 1011 0) ≤ (a.2 1011 0) ∧ (1 ≤ a.1 → (a.2 1011 0) ≤ (S 1011 0) + 10) ∧ (10 ≤ a.1 → (a.2 1011 0) ≤ (S 1011 0) + 9) ∧ (100 ≤ a.1 → (a.2 1011 0) ≤ (S 1011 0) + 8) ∧ (1000 ≤ a.1 → (a.2 1011 0) ≤ (S 1011 0) + 7) ∧ (10000 ≤ a.1 → (a.2 1011 0) ≤ (S 1011 0) + 6) ∧ (100000 ≤ a.1 → (a.2 1011 0) ≤ (S 1011 0) + 5) ∧ (1000000 ≤ a.1 → (a.2 1011 0) ≤ (S 1011 0) + 4) ∧ (10000000 ≤ a.1 → (a.2 1011 0) ≤ (S 1011 0) + 3) ∧ (100000000 ≤ a.1 → (a.2 1011 0) ≤ (S 1011 0) + 2) ∧ (1000000000 ≤ a.1 → (a.2 1011 0) ≤ (S 1011 0) + 1) ∧ (a.2 1011 0) ≤ (S 1011 0) + 11)) (fun a => a.1) (fun a => sv_T sm_XS sm_cs sm_L sm_sh 1 (q_putNumber p1 S) 31 48 [(0, .ref 0), (1, sv_I p1), (2, sv_L p1), (4, sv_L a.1)] [] (sv_sts S [5, 1011] a.2)) (fun a q => (h a.1 q.1 a.2 q.2.2).1) (fun a q ih10 => ?_)
            obtain ⟨l4_9, g8⟩ := a
            obtain ⟨hl4_9, ok12, hin11i⟩ := q
            have h := (h l4_9 hl4_9 g8 hin11i).2
            show sv_T sm_XS sm_cs sm_L sm_sh 1 (q_putNumber p1 S) 31 48 [(0, .ref 0), (1, sv_I p1), (2, sv_L p1), (4, sv_L l4_9)] [] (sv_sts S [5, 1011] g8)
            have md13 : sv_mod [5, 1011] S (sv_sts S [5, 1011] g8) := sv_mod.sts sv_mod.rf (by decide)
            have md14 : sv_mod [5, 1011] S (sv_sts S [5, 1011] g8) := sv_mod.sts sv_mod.rf (by decide)
            refine sv_lload hM dX12_putNumber_48 rfl rfl ?_
            refine sv_lconst (d := (0 : Int)) hM dX12_putNumber_50 rfl rfl ?_
            refine sv_lcmp hM dX12_putNumber_51 hl4_9 (⟨by decide, by decide⟩ : sv_RL (0 : Int)) rfl ?_
            refine sv_cond_le hM dX12_putNumber_52 sv_Rcmp (t := 82) rfl rfl (fun hc => ?_) (fun hc => ?_)
            · have h := h.1 ((sv_cmp_le).mp hc)
              exact sv_vret hM dX12_putNumber_82 rfl ⟨rfl, ok12, md13, h⟩
            · have h := h.2 (fun q => hc ((sv_cmp_le).mpr q))
              refine sv_aload_n hM dX12_putNumber_55 rfl rfl ?_
              refine sv_bipush (d := (48 : Int)) hM dX12_putNumber_56 rfl rfl ?_
              refine sv_lload_n hM dX12_putNumber_58 rfl rfl ?_
              refine sv_lload hM dX12_putNumber_59 rfl rfl ?_
              obtain ⟨o16, h⟩ := h
              refine sv_ldiv hM dX12_putNumber_61 o6 o16 rfl (fun r15 hr15 dr15 er15 => ?_)
              have h := h r15 hr15 dr15 er15
              refine sv_ldc2_w (d := (10 : Int)) hM dX12_putNumber_62 sm_ck_381 rfl rfl ?_
              obtain ⟨o17, h⟩ := h
              obtain ⟨o18, h⟩ := h
              refine sv_lrem hM dX12_putNumber_65 o17 o18 rfl ?_
              refine sv_l2iR hM dX12_putNumber_66 rfl (fun r19 hr19 er19 => ?_)
              have h := h r19 hr19 er19
              refine sv_iadd hM dX12_putNumber_67 rfl ?_
              obtain ⟨o20, h⟩ := h
              obtain ⟨o21, h⟩ := h
              refine sv_callV hM dX12_putNumber_68 sm_iv_324 (by decide) (sm_a0 _) rfl rfl (Nat.le_of_ble_eq_true rfl) sm_h7 (Nat.le_of_ble_eq_true rfl) (Nat.le_of_ble_eq_true rfl) (F' := 0) (Nat.le_of_ble_eq_true rfl) rfl (t_put ((48 : Int) + r19) (sv_sts S [5, 1011] g8) ok12 o20 o21) (fun v S1 hq => ?_)
              obtain ⟨rfl, ok23, md24, hp25⟩ := hq
              obtain ⟨g22, rfl⟩ : ∃ g, S1 = sv_sts (sv_sts S [5, 1011] g8) [5, 1011] g := ⟨_, md24.eq⟩
              show sv_T sm_XS sm_cs sm_L sm_sh 1 (q_putNumber p1 S) 31 71 [(0, .ref 0), (1, sv_I p1), (2, sv_L p1), (4, sv_L l4_9)] [] (sv_sts (sv_sts S [5, 1011] g8) [5, 1011] g22)
              have md26 : sv_mod [5, 1011] S (sv_sts (sv_sts S [5, 1011] g8) [5, 1011] g22) := sv_mod.sts md13 (by decide)
              have md27 : sv_mod [5, 1011] S (sv_sts (sv_sts S [5, 1011] g8) [5, 1011] g22) := sv_mod.sts md14 (by decide)
              have h := h g22 hp25
              refine sv_lload hM dX12_putNumber_71 rfl rfl ?_
              refine sv_ldc2_w (d := (10 : Int)) hM dX12_putNumber_73 sm_ck_381 rfl rfl ?_
              obtain ⟨o29, h⟩ := h
              refine sv_ldiv hM dX12_putNumber_76 o29 o18 rfl (fun r28 hr28 dr28 er28 => ?_)
              have h := h r28 hr28 dr28 er28
              refine sv_lstore hM dX12_putNumber_77 (by decide) rfl ?_
              show sv_T sm_XS sm_cs sm_L sm_sh 1 (q_putNumber p1 S) 31 79 [(0, .ref 0), (1, sv_I p1), (2, sv_L p1), (4, sv_L r28)] [] (sv_sts (sv_sts S [5, 1011] g8) [5, 1011] g22)
              refine sv_goto hM dX12_putNumber_79 (pc' := 48) rfl ?_
              have eS := sv_mod.eq md27
              have hb := ih10 (r28, (sv_sts (sv_sts S [5, 1011] g8) [5, 1011] g22)) ⟨(⟨by have := hr28; have := o29; omega, by have := hr28; have := o29; omega⟩ : sv_RL r28), (by rw [← eS]; exact ok23), h.1⟩ h.2
              have hb : sv_T sm_XS sm_cs sm_L sm_sh 1 (q_putNumber p1 S) 31 48 [(0, .ref 0), (1, sv_I p1), (2, sv_L p1), (4, sv_L r28)] [] (sv_sts (sv_sts S [5, 1011] g8) [5, 1011] g22) := Eq.mpr (congrArg (fun Z => sv_T sm_XS sm_cs sm_L sm_sh 1 (q_putNumber p1 S) 31 48 [(0, .ref 0), (1, sv_I p1), (2, sv_L p1), (4, sv_L r28)] [] Z) eS) hb
              exact sv_less (lv := [(0, .ref 0), (1, sv_I p1), (2, sv_L p1), (4, sv_L r28)]) (sv_Sub_cons rfl (sv_Sub_cons rfl (sv_Sub_cons rfl (sv_Sub_cons rfl sv_Sub_nil)))) hb
          have eS := sv_mod.eq (sv_mod.rf (l := [5, 1011]) (S := S))
          have hb := hJ (l4_1, S) ⟨hl4_1, (by rw [← eS]; exact ok4), hin11⟩
          have hb : sv_T sm_XS sm_cs sm_L sm_sh 1 (q_putNumber p1 S) 31 48 [(0, .ref 0), (1, sv_I p1), (2, sv_L p1), (4, sv_L l4_1)] [] S := Eq.mpr (congrArg (fun Z => sv_T sm_XS sm_cs sm_L sm_sh 1 (q_putNumber p1 S) 31 48 [(0, .ref 0), (1, sv_I p1), (2, sv_L p1), (4, sv_L l4_1)] [] Z) eS) hb
          exact hb
        · have h := h.2 (fun q => hc ((sv_cmp_le).mpr q))
          refine sv_ldc2_w (d := (10 : Int)) hM dX12_putNumber_37 sm_ck_381 rfl rfl ?_
          refine sv_lload hM dX12_putNumber_40 rfl rfl ?_
          refine sv_lmul hM dX12_putNumber_42 rfl ?_
          refine sv_lstore hM dX12_putNumber_43 (by decide) rfl ?_
          show sv_T sm_XS sm_cs sm_L sm_sh 1 (q_putNumber p1 S) 31 45 [(0, .ref 0), (1, sv_I p1), (2, sv_L p1), (4, sv_L ((10 : Int) * l4_1))] [] S
          refine sv_goto hM dX12_putNumber_45 (pc' := 26) rfl ?_
          obtain ⟨o30, h⟩ := h
          have hb := ih2 (((10 : Int) * l4_1), ()) ⟨o30, ok4, h.1⟩ h.2
          exact sv_less (lv := [(0, .ref 0), (1, sv_I p1), (2, sv_L p1), (4, sv_L ((10 : Int) * l4_1))]) (sv_Sub_cons rfl (sv_Sub_cons rfl (sv_Sub_cons rfl (sv_Sub_cons rfl sv_Sub_nil)))) hb
      exact hJ ((1 : Int), ()) ⟨(⟨by decide, by decide⟩ : sv_RL (1 : Int)), hok, hin3⟩
    · have h := h.2 (hc)
      refine sv_aload_n hM dX12_putNumber_17 rfl rfl ?_
      refine sv_bipush (d := (45 : Int)) hM dX12_putNumber_18 rfl rfl ?_
      obtain ⟨o31, h⟩ := h
      refine sv_callV hM dX12_putNumber_20 sm_iv_324 (by decide) (sm_a0 _) rfl rfl (Nat.le_of_ble_eq_true rfl) sm_h7 (Nat.le_of_ble_eq_true rfl) (Nat.le_of_ble_eq_true rfl) (F' := 0) (Nat.le_of_ble_eq_true rfl) rfl (t_put (45 : Int) S hok (⟨by decide, by decide⟩ : sv_R (45 : Int)) o31) (fun v S1 hq => ?_)
      obtain ⟨rfl, ok33, md34, hp35⟩ := hq
      obtain ⟨g32, rfl⟩ : ∃ g, S1 = sv_sts S [5, 1011] g := ⟨_, md34.eq⟩
      show sv_T sm_XS sm_cs sm_L sm_sh 1 (q_putNumber p1 S) 31 23 [(0, .ref 0), (1, sv_I p1), (2, sv_L p1)] [] (sv_sts S [5, 1011] g32)
      have md36 : sv_mod [5, 1011] S (sv_sts S [5, 1011] g32) := sv_mod.sts sv_mod.rf (by decide)
      have h := h g32 hp35
      refine sv_lconst (d := (1 : Int)) hM dX12_putNumber_23 rfl rfl ?_
      refine sv_lstore hM dX12_putNumber_24 (by decide) rfl ?_
      show sv_T sm_XS sm_cs sm_L sm_sh 1 (q_putNumber p1 S) 31 26 [(0, .ref 0), (1, sv_I p1), (2, sv_L p1), (4, sv_L (1 : Int))] [] (sv_sts S [5, 1011] g32)
      obtain ⟨hin39, h⟩ := h
      have hJ : ∀ a : Int × Unit, (sv_RL a.1 ∧ sm_ok (sv_sts S [5, 1011] g32) ∧ (0 ≤ p1 ∧ p1 ≤ 2147483648 ∧ 1 ≤ a.1 ∧ a.1 ≤ 2147483648 ∧ (a.1 = 1 ∨ a.1 ≤ p1) ∧ (S 1011 0) ≤ (g32 1011 0) ∧ (g32 1011 0) ≤ (S 1011 0) + 1)) → sv_T sm_XS sm_cs sm_L sm_sh 1 (q_putNumber p1 S) 31 26 [(0, .ref 0), (1, sv_I p1), (2, sv_L p1), (4, sv_L a.1)] [] (sv_sts S [5, 1011] g32) := by
        refine sv_loop (α := Int × Unit) (fun a => sv_RL a.1 ∧ sm_ok (sv_sts S [5, 1011] g32) ∧ (0 ≤ p1 ∧ p1 ≤ 2147483648 ∧ 1 ≤ a.1 ∧ a.1 ≤ 2147483648 ∧ (a.1 = 1 ∨ a.1 ≤ p1) ∧ (S 1011 0) ≤ (g32 1011 0) ∧ (g32 1011 0) ≤ (S 1011 0) + 1)) (fun a => 2147483649 - a.1) (fun a => sv_T sm_XS sm_cs sm_L sm_sh 1 (q_putNumber p1 S) 31 26 [(0, .ref 0), (1, sv_I p1), (2, sv_L p1), (4, sv_L a.1)] [] (sv_sts S [5, 1011] g32)) (fun a q => (h a.1 q.1 q.2.2).1) (fun a q ih38 => ?_)
        obtain ⟨l4_37, _u⟩ := a
        obtain ⟨hl4_37, ok40, hin39i⟩ := q
        have h := (h l4_37 hl4_37 hin39i).2
        show sv_T sm_XS sm_cs sm_L sm_sh 1 (q_putNumber p1 S) 31 26 [(0, .ref 0), (1, sv_I p1), (2, sv_L p1), (4, sv_L l4_37)] [] (sv_sts S [5, 1011] g32)
        refine sv_lload_n hM dX12_putNumber_26 rfl rfl ?_
        refine sv_lload hM dX12_putNumber_27 rfl rfl ?_
        obtain ⟨o42, h⟩ := h
        obtain ⟨o43, h⟩ := h
        refine sv_ldiv hM dX12_putNumber_29 o42 o43 rfl (fun r41 hr41 dr41 er41 => ?_)
        have h := h r41 hr41 dr41 er41
        refine sv_ldc2_w (d := (9 : Int)) hM dX12_putNumber_30 sm_ck_416 rfl rfl ?_
        refine sv_lcmp hM dX12_putNumber_33 (⟨by have := hr41; have := o42; omega, by have := hr41; have := o42; omega⟩ : sv_RL r41) (⟨by decide, by decide⟩ : sv_RL (9 : Int)) rfl ?_
        refine sv_cond_le hM dX12_putNumber_34 sv_Rcmp (t := 48) rfl rfl (fun hc => ?_) (fun hc => ?_)
        · have h := h.1 ((sv_cmp_le).mp hc)
          obtain ⟨hin47, h⟩ := h
          have hJ : ∀ a : Int × sv_S, (sv_RL a.1 ∧ sm_ok (sv_sts (sv_sts S [5, 1011] g32) [5, 1011] a.2) ∧ (0 ≤ p1 ∧ p1 ≤ 2147483648 ∧ 0 ≤ a.1 ∧ a.1 ≤ 2147483648 ∧ (S 1011 0) ≤ (a.2 1011 0) ∧ (1 ≤ a.1 → (a.2 1011 0) ≤ (S 1011 0) + 10) ∧ (10 ≤ a.1 → (a.2 1011 0) ≤ (S 1011 0) + 9) ∧ (100 ≤ a.1 → (a.2 1011 0) ≤ (S 1011 0) + 8) ∧ (1000 ≤ a.1 → (a.2 1011 0) ≤ (S 1011 0) + 7) ∧ (10000 ≤ a.1 → (a.2 1011 0) ≤ (S 1011 0) + 6) ∧ (100000 ≤ a.1 → (a.2 1011 0) ≤ (S 1011 0) + 5) ∧ (1000000 ≤ a.1 → (a.2 1011 0) ≤ (S 1011 0) + 4) ∧ (10000000 ≤ a.1 → (a.2 1011 0) ≤ (S 1011 0) + 3) ∧ (100000000 ≤ a.1 → (a.2 1011 0) ≤ (S 1011 0) + 2) ∧ (1000000000 ≤ a.1 → (a.2 1011 0) ≤ (S 1011 0) + 1) ∧ (a.2 1011 0) ≤ (S 1011 0) + 11)) → sv_T sm_XS sm_cs sm_L sm_sh 1 (q_putNumber p1 S) 31 48 [(0, .ref 0), (1, sv_I p1), (2, sv_L p1), (4, sv_L a.1)] [] (sv_sts (sv_sts S [5, 1011] g32) [5, 1011] a.2) := by
            refine sv_loop (α := Int × sv_S) (fun a => sv_RL a.1 ∧ sm_ok (sv_sts (sv_sts S [5, 1011] g32) [5, 1011] a.2) ∧ (0 ≤ p1 ∧ p1 ≤ 2147483648 ∧ 0 ≤ a.1 ∧ a.1 ≤ 2147483648 ∧ (S 1011 0) ≤ (a.2 1011 0) ∧ (1 ≤ a.1 → (a.2 1011 0) ≤ (S 1011 0) + 10) ∧ (10 ≤ a.1 → (a.2 1011 0) ≤ (S 1011 0) + 9) ∧ (100 ≤ a.1 → (a.2 1011 0) ≤ (S 1011 0) + 8) ∧ (1000 ≤ a.1 → (a.2 1011 0) ≤ (S 1011 0) + 7) ∧ (10000 ≤ a.1 → (a.2 1011 0) ≤ (S 1011 0) + 6) ∧ (100000 ≤ a.1 → (a.2 1011 0) ≤ (S 1011 0) + 5) ∧ (1000000 ≤ a.1 → (a.2 1011 0) ≤ (S 1011 0) + 4) ∧ (10000000 ≤ a.1 → (a.2 1011 0) ≤ (S 1011 0) + 3) ∧ (100000000 ≤ a.1 → (a.2 1011 0) ≤ (S 1011 0) + 2) ∧ (1000000000 ≤ a.1 → (a.2 1011 0) ≤ (S 1011 0) + 1) ∧ (a.2 1011 0) ≤ (S 1011 0) + 11)) (fun a => a.1) (fun a => sv_T sm_XS sm_cs sm_L sm_sh 1 (q_putNumber p1 S) 31 48 [(0, .ref 0), (1, sv_I p1), (2, sv_L p1), (4, sv_L a.1)] [] (sv_sts (sv_sts S [5, 1011] g32) [5, 1011] a.2)) (fun a q => (h a.1 q.1 a.2 q.2.2).1) (fun a q ih46 => ?_)
            obtain ⟨l4_45, g44⟩ := a
            obtain ⟨hl4_45, ok48, hin47i⟩ := q
            have h := (h l4_45 hl4_45 g44 hin47i).2
            show sv_T sm_XS sm_cs sm_L sm_sh 1 (q_putNumber p1 S) 31 48 [(0, .ref 0), (1, sv_I p1), (2, sv_L p1), (4, sv_L l4_45)] [] (sv_sts (sv_sts S [5, 1011] g32) [5, 1011] g44)
            have md49 : sv_mod [5, 1011] S (sv_sts (sv_sts S [5, 1011] g32) [5, 1011] g44) := sv_mod.sts md36 (by decide)
            have md50 : sv_mod [5, 1011] (sv_sts S [5, 1011] g32) (sv_sts (sv_sts S [5, 1011] g32) [5, 1011] g44) := sv_mod.sts sv_mod.rf (by decide)
            refine sv_lload hM dX12_putNumber_48 rfl rfl ?_
            refine sv_lconst (d := (0 : Int)) hM dX12_putNumber_50 rfl rfl ?_
            refine sv_lcmp hM dX12_putNumber_51 hl4_45 (⟨by decide, by decide⟩ : sv_RL (0 : Int)) rfl ?_
            refine sv_cond_le hM dX12_putNumber_52 sv_Rcmp (t := 82) rfl rfl (fun hc => ?_) (fun hc => ?_)
            · have h := h.1 ((sv_cmp_le).mp hc)
              exact sv_vret hM dX12_putNumber_82 rfl ⟨rfl, ok48, md49, h⟩
            · have h := h.2 (fun q => hc ((sv_cmp_le).mpr q))
              refine sv_aload_n hM dX12_putNumber_55 rfl rfl ?_
              refine sv_bipush (d := (48 : Int)) hM dX12_putNumber_56 rfl rfl ?_
              refine sv_lload_n hM dX12_putNumber_58 rfl rfl ?_
              refine sv_lload hM dX12_putNumber_59 rfl rfl ?_
              obtain ⟨o52, h⟩ := h
              refine sv_ldiv hM dX12_putNumber_61 o42 o52 rfl (fun r51 hr51 dr51 er51 => ?_)
              have h := h r51 hr51 dr51 er51
              refine sv_ldc2_w (d := (10 : Int)) hM dX12_putNumber_62 sm_ck_381 rfl rfl ?_
              obtain ⟨o53, h⟩ := h
              obtain ⟨o54, h⟩ := h
              refine sv_lrem hM dX12_putNumber_65 o53 o54 rfl ?_
              refine sv_l2iR hM dX12_putNumber_66 rfl (fun r55 hr55 er55 => ?_)
              have h := h r55 hr55 er55
              refine sv_iadd hM dX12_putNumber_67 rfl ?_
              obtain ⟨o56, h⟩ := h
              obtain ⟨o57, h⟩ := h
              refine sv_callV hM dX12_putNumber_68 sm_iv_324 (by decide) (sm_a0 _) rfl rfl (Nat.le_of_ble_eq_true rfl) sm_h7 (Nat.le_of_ble_eq_true rfl) (Nat.le_of_ble_eq_true rfl) (F' := 0) (Nat.le_of_ble_eq_true rfl) rfl (t_put ((48 : Int) + r55) (sv_sts (sv_sts S [5, 1011] g32) [5, 1011] g44) ok48 o56 o57) (fun v S1 hq => ?_)
              obtain ⟨rfl, ok59, md60, hp61⟩ := hq
              obtain ⟨g58, rfl⟩ : ∃ g, S1 = sv_sts (sv_sts (sv_sts S [5, 1011] g32) [5, 1011] g44) [5, 1011] g := ⟨_, md60.eq⟩
              show sv_T sm_XS sm_cs sm_L sm_sh 1 (q_putNumber p1 S) 31 71 [(0, .ref 0), (1, sv_I p1), (2, sv_L p1), (4, sv_L l4_45)] [] (sv_sts (sv_sts (sv_sts S [5, 1011] g32) [5, 1011] g44) [5, 1011] g58)
              have md62 : sv_mod [5, 1011] S (sv_sts (sv_sts (sv_sts S [5, 1011] g32) [5, 1011] g44) [5, 1011] g58) := sv_mod.sts md49 (by decide)
              have md63 : sv_mod [5, 1011] (sv_sts S [5, 1011] g32) (sv_sts (sv_sts (sv_sts S [5, 1011] g32) [5, 1011] g44) [5, 1011] g58) := sv_mod.sts md50 (by decide)
              have h := h g58 hp61
              refine sv_lload hM dX12_putNumber_71 rfl rfl ?_
              refine sv_ldc2_w (d := (10 : Int)) hM dX12_putNumber_73 sm_ck_381 rfl rfl ?_
              obtain ⟨o65, h⟩ := h
              refine sv_ldiv hM dX12_putNumber_76 o65 o54 rfl (fun r64 hr64 dr64 er64 => ?_)
              have h := h r64 hr64 dr64 er64
              refine sv_lstore hM dX12_putNumber_77 (by decide) rfl ?_
              show sv_T sm_XS sm_cs sm_L sm_sh 1 (q_putNumber p1 S) 31 79 [(0, .ref 0), (1, sv_I p1), (2, sv_L p1), (4, sv_L r64)] [] (sv_sts (sv_sts (sv_sts S [5, 1011] g32) [5, 1011] g44) [5, 1011] g58)
              refine sv_goto hM dX12_putNumber_79 (pc' := 48) rfl ?_
              have eS := sv_mod.eq md63
              have hb := ih46 (r64, (sv_sts (sv_sts (sv_sts S [5, 1011] g32) [5, 1011] g44) [5, 1011] g58)) ⟨(⟨by have := hr64; have := o65; omega, by have := hr64; have := o65; omega⟩ : sv_RL r64), (by rw [← eS]; exact ok59), h.1⟩ h.2
              have hb : sv_T sm_XS sm_cs sm_L sm_sh 1 (q_putNumber p1 S) 31 48 [(0, .ref 0), (1, sv_I p1), (2, sv_L p1), (4, sv_L r64)] [] (sv_sts (sv_sts (sv_sts S [5, 1011] g32) [5, 1011] g44) [5, 1011] g58) := Eq.mpr (congrArg (fun Z => sv_T sm_XS sm_cs sm_L sm_sh 1 (q_putNumber p1 S) 31 48 [(0, .ref 0), (1, sv_I p1), (2, sv_L p1), (4, sv_L r64)] [] Z) eS) hb
              exact sv_less (lv := [(0, .ref 0), (1, sv_I p1), (2, sv_L p1), (4, sv_L r64)]) (sv_Sub_cons rfl (sv_Sub_cons rfl (sv_Sub_cons rfl (sv_Sub_cons rfl sv_Sub_nil)))) hb
          have eS := sv_mod.eq (sv_mod.rf (l := [5, 1011]) (S := (sv_sts S [5, 1011] g32)))
          have hb := hJ (l4_37, (sv_sts S [5, 1011] g32)) ⟨hl4_37, (by rw [← eS]; exact ok40), hin47⟩
          have hb : sv_T sm_XS sm_cs sm_L sm_sh 1 (q_putNumber p1 S) 31 48 [(0, .ref 0), (1, sv_I p1), (2, sv_L p1), (4, sv_L l4_37)] [] (sv_sts S [5, 1011] g32) := Eq.mpr (congrArg (fun Z => sv_T sm_XS sm_cs sm_L sm_sh 1 (q_putNumber p1 S) 31 48 [(0, .ref 0), (1, sv_I p1), (2, sv_L p1), (4, sv_L l4_37)] [] Z) eS) hb
          exact hb
        · have h := h.2 (fun q => hc ((sv_cmp_le).mpr q))
          refine sv_ldc2_w (d := (10 : Int)) hM dX12_putNumber_37 sm_ck_381 rfl rfl ?_
          refine sv_lload hM dX12_putNumber_40 rfl rfl ?_
          refine sv_lmul hM dX12_putNumber_42 rfl ?_
          refine sv_lstore hM dX12_putNumber_43 (by decide) rfl ?_
          show sv_T sm_XS sm_cs sm_L sm_sh 1 (q_putNumber p1 S) 31 45 [(0, .ref 0), (1, sv_I p1), (2, sv_L p1), (4, sv_L ((10 : Int) * l4_37))] [] (sv_sts S [5, 1011] g32)
          refine sv_goto hM dX12_putNumber_45 (pc' := 26) rfl ?_
          obtain ⟨o66, h⟩ := h
          have hb := ih38 (((10 : Int) * l4_37), ()) ⟨o66, ok40, h.1⟩ h.2
          exact sv_less (lv := [(0, .ref 0), (1, sv_I p1), (2, sv_L p1), (4, sv_L ((10 : Int) * l4_37))]) (sv_Sub_cons rfl (sv_Sub_cons rfl (sv_Sub_cons rfl (sv_Sub_cons rfl sv_Sub_nil)))) hb
      exact hJ ((1 : Int), ()) ⟨(⟨by decide, by decide⟩ : sv_RL (1 : Int)), ok33, hin39⟩
  · have h := h.2 (hc)
    refine sv_iload_n hM dX12_putNumber_4 rfl rfl ?_
    refine sv_i2l hM dX12_putNumber_5 hp1 rfl ?_
    refine sv_lneg hM dX12_putNumber_6 rfl ?_
    refine sv_goto hM dX12_putNumber_7 (pc' := 12) rfl ?_
    refine sv_lstore_n hM dX12_putNumber_12 (by decide) rfl ?_
    show sv_T sm_XS sm_cs sm_L sm_sh 1 (q_putNumber p1 S) 31 13 [(0, .ref 0), (1, sv_I p1), (2, sv_L (-p1))] [] S
    refine sv_iload_n hM dX12_putNumber_13 rfl rfl ?_
    refine sv_cond_ge hM dX12_putNumber_14 hp1 (t := 23) rfl rfl (fun hc => ?_) (fun hc => ?_)
    · have h := h.1 (hc)
      refine sv_lconst (d := (1 : Int)) hM dX12_putNumber_23 rfl rfl ?_
      refine sv_lstore hM dX12_putNumber_24 (by decide) rfl ?_
      show sv_T sm_XS sm_cs sm_L sm_sh 1 (q_putNumber p1 S) 31 26 [(0, .ref 0), (1, sv_I p1), (2, sv_L (-p1)), (4, sv_L (1 : Int))] [] S
      obtain ⟨hin69, h⟩ := h
      have hJ : ∀ a : Int × Unit, (sv_RL a.1 ∧ sm_ok S ∧ (0 ≤ (-p1) ∧ (-p1) ≤ 2147483648 ∧ 1 ≤ a.1 ∧ a.1 ≤ 2147483648 ∧ (a.1 = 1 ∨ a.1 ≤ (-p1)) ∧ (S 1011 0) ≤ (S 1011 0) ∧ (S 1011 0) ≤ (S 1011 0) + 1)) → sv_T sm_XS sm_cs sm_L sm_sh 1 (q_putNumber p1 S) 31 26 [(0, .ref 0), (1, sv_I p1), (2, sv_L (-p1)), (4, sv_L a.1)] [] S := by
        refine sv_loop (α := Int × Unit) (fun a => sv_RL a.1 ∧ sm_ok S ∧ (0 ≤ (-p1) ∧ (-p1) ≤ 2147483648 ∧ 1 ≤ a.1 ∧ a.1 ≤ 2147483648 ∧ (a.1 = 1 ∨ a.1 ≤ (-p1)) ∧ (S 1011 0) ≤ (S 1011 0) ∧ (S 1011 0) ≤ (S 1011 0) + 1)) (fun a => 2147483649 - a.1) (fun a => sv_T sm_XS sm_cs sm_L sm_sh 1 (q_putNumber p1 S) 31 26 [(0, .ref 0), (1, sv_I p1), (2, sv_L (-p1)), (4, sv_L a.1)] [] S) (fun a q => (h a.1 q.1 q.2.2).1) (fun a q ih68 => ?_)
        obtain ⟨l4_67, _u⟩ := a
        obtain ⟨hl4_67, ok70, hin69i⟩ := q
        have h := (h l4_67 hl4_67 hin69i).2
        show sv_T sm_XS sm_cs sm_L sm_sh 1 (q_putNumber p1 S) 31 26 [(0, .ref 0), (1, sv_I p1), (2, sv_L (-p1)), (4, sv_L l4_67)] [] S
        refine sv_lload_n hM dX12_putNumber_26 rfl rfl ?_
        refine sv_lload hM dX12_putNumber_27 rfl rfl ?_
        obtain ⟨o72, h⟩ := h
        obtain ⟨o73, h⟩ := h
        refine sv_ldiv hM dX12_putNumber_29 o72 o73 rfl (fun r71 hr71 dr71 er71 => ?_)
        have h := h r71 hr71 dr71 er71
        refine sv_ldc2_w (d := (9 : Int)) hM dX12_putNumber_30 sm_ck_416 rfl rfl ?_
        refine sv_lcmp hM dX12_putNumber_33 (⟨by have := hr71; have := o72; omega, by have := hr71; have := o72; omega⟩ : sv_RL r71) (⟨by decide, by decide⟩ : sv_RL (9 : Int)) rfl ?_
        refine sv_cond_le hM dX12_putNumber_34 sv_Rcmp (t := 48) rfl rfl (fun hc => ?_) (fun hc => ?_)
        · have h := h.1 ((sv_cmp_le).mp hc)
          obtain ⟨hin77, h⟩ := h
          have hJ : ∀ a : Int × sv_S, (sv_RL a.1 ∧ sm_ok (sv_sts S [5, 1011] a.2) ∧ (0 ≤ (-p1) ∧ (-p1) ≤ 2147483648 ∧ 0 ≤ a.1 ∧ a.1 ≤ 2147483648 ∧ (S 1011 0) ≤ (a.2 1011 0) ∧ (1 ≤ a.1 → (a.2 1011 0) ≤ (S 1011 0) + 10) ∧ (10 ≤ a.1 → (a.2 1011 0) ≤ (S 1011 0) + 9) ∧ (100 ≤ a.1 → (a.2 1011 0) ≤ (S 1011 0) + 8) ∧ (1000 ≤ a.1 → (a.2 1011 0) ≤ (S 1011 0) + 7) ∧ (10000 ≤ a.1 → (a.2 1011 0) ≤ (S 1011 0) + 6) ∧ (100000 ≤ a.1 → (a.2 1011 0) ≤ (S 1011 0) + 5) ∧ (1000000 ≤ a.1 → (a.2 1011 0) ≤ (S 1011 0) + 4) ∧ (10000000 ≤ a.1 → (a.2 1011 0) ≤ (S 1011 0) + 3) ∧ (100000000 ≤ a.1 → (a.2 1011 0) ≤ (S 1011 0) + 2) ∧ (1000000000 ≤ a.1 → (a.2 1011 0) ≤ (S 1011 0) + 1) ∧ (a.2 1011 0) ≤ (S 1011 0) + 11)) → sv_T sm_XS sm_cs sm_L sm_sh 1 (q_putNumber p1 S) 31 48 [(0, .ref 0), (1, sv_I p1), (2, sv_L (-p1)), (4, sv_L a.1)] [] (sv_sts S [5, 1011] a.2) := by
            refine sv_loop (α := Int × sv_S) (fun a => sv_RL a.1 ∧ sm_ok (sv_sts S [5, 1011] a.2) ∧ (0 ≤ (-p1) ∧ (-p1) ≤ 2147483648 ∧ 0 ≤ a.1 ∧ a.1 ≤ 2147483648 ∧ (S 1011 0) ≤ (a.2 1011 0) ∧ (1 ≤ a.1 → (a.2 1011 0) ≤ (S 1011 0) + 10) ∧ (10 ≤ a.1 → (a.2 1011 0) ≤ (S 1011 0) + 9) ∧ (100 ≤ a.1 → (a.2 1011 0) ≤ (S 1011 0) + 8) ∧ (1000 ≤ a.1 → (a.2 1011 0) ≤ (S 1011 0) + 7) ∧ (10000 ≤ a.1 → (a.2 1011 0) ≤ (S 1011 0) + 6) ∧ (100000 ≤ a.1 → (a.2 1011 0) ≤ (S 1011 0) + 5) ∧ (1000000 ≤ a.1 → (a.2 1011 0) ≤ (S 1011 0) + 4) ∧ (10000000 ≤ a.1 → (a.2 1011 0) ≤ (S 1011 0) + 3) ∧ (100000000 ≤ a.1 → (a.2 1011 0) ≤ (S 1011 0) + 2) ∧ (1000000000 ≤ a.1 → (a.2 1011 0) ≤ (S 1011 0) + 1) ∧ (a.2 1011 0) ≤ (S 1011 0) + 11)) (fun a => a.1) (fun a => sv_T sm_XS sm_cs sm_L sm_sh 1 (q_putNumber p1 S) 31 48 [(0, .ref 0), (1, sv_I p1), (2, sv_L (-p1)), (4, sv_L a.1)] [] (sv_sts S [5, 1011] a.2)) (fun a q => (h a.1 q.1 a.2 q.2.2).1) (fun a q ih76 => ?_)
            obtain ⟨l4_75, g74⟩ := a
            obtain ⟨hl4_75, ok78, hin77i⟩ := q
            have h := (h l4_75 hl4_75 g74 hin77i).2
            show sv_T sm_XS sm_cs sm_L sm_sh 1 (q_putNumber p1 S) 31 48 [(0, .ref 0), (1, sv_I p1), (2, sv_L (-p1)), (4, sv_L l4_75)] [] (sv_sts S [5, 1011] g74)
            have md79 : sv_mod [5, 1011] S (sv_sts S [5, 1011] g74) := sv_mod.sts sv_mod.rf (by decide)
            have md80 : sv_mod [5, 1011] S (sv_sts S [5, 1011] g74) := sv_mod.sts sv_mod.rf (by decide)
            refine sv_lload hM dX12_putNumber_48 rfl rfl ?_
            refine sv_lconst (d := (0 : Int)) hM dX12_putNumber_50 rfl rfl ?_
            refine sv_lcmp hM dX12_putNumber_51 hl4_75 (⟨by decide, by decide⟩ : sv_RL (0 : Int)) rfl ?_
            refine sv_cond_le hM dX12_putNumber_52 sv_Rcmp (t := 82) rfl rfl (fun hc => ?_) (fun hc => ?_)
            · have h := h.1 ((sv_cmp_le).mp hc)
              exact sv_vret hM dX12_putNumber_82 rfl ⟨rfl, ok78, md79, h⟩
            · have h := h.2 (fun q => hc ((sv_cmp_le).mpr q))
              refine sv_aload_n hM dX12_putNumber_55 rfl rfl ?_
              refine sv_bipush (d := (48 : Int)) hM dX12_putNumber_56 rfl rfl ?_
              refine sv_lload_n hM dX12_putNumber_58 rfl rfl ?_
              refine sv_lload hM dX12_putNumber_59 rfl rfl ?_
              obtain ⟨o82, h⟩ := h
              refine sv_ldiv hM dX12_putNumber_61 o72 o82 rfl (fun r81 hr81 dr81 er81 => ?_)
              have h := h r81 hr81 dr81 er81
              refine sv_ldc2_w (d := (10 : Int)) hM dX12_putNumber_62 sm_ck_381 rfl rfl ?_
              obtain ⟨o83, h⟩ := h
              obtain ⟨o84, h⟩ := h
              refine sv_lrem hM dX12_putNumber_65 o83 o84 rfl ?_
              refine sv_l2iR hM dX12_putNumber_66 rfl (fun r85 hr85 er85 => ?_)
              have h := h r85 hr85 er85
              refine sv_iadd hM dX12_putNumber_67 rfl ?_
              obtain ⟨o86, h⟩ := h
              obtain ⟨o87, h⟩ := h
              refine sv_callV hM dX12_putNumber_68 sm_iv_324 (by decide) (sm_a0 _) rfl rfl (Nat.le_of_ble_eq_true rfl) sm_h7 (Nat.le_of_ble_eq_true rfl) (Nat.le_of_ble_eq_true rfl) (F' := 0) (Nat.le_of_ble_eq_true rfl) rfl (t_put ((48 : Int) + r85) (sv_sts S [5, 1011] g74) ok78 o86 o87) (fun v S1 hq => ?_)
              obtain ⟨rfl, ok89, md90, hp91⟩ := hq
              obtain ⟨g88, rfl⟩ : ∃ g, S1 = sv_sts (sv_sts S [5, 1011] g74) [5, 1011] g := ⟨_, md90.eq⟩
              show sv_T sm_XS sm_cs sm_L sm_sh 1 (q_putNumber p1 S) 31 71 [(0, .ref 0), (1, sv_I p1), (2, sv_L (-p1)), (4, sv_L l4_75)] [] (sv_sts (sv_sts S [5, 1011] g74) [5, 1011] g88)
              have md92 : sv_mod [5, 1011] S (sv_sts (sv_sts S [5, 1011] g74) [5, 1011] g88) := sv_mod.sts md79 (by decide)
              have md93 : sv_mod [5, 1011] S (sv_sts (sv_sts S [5, 1011] g74) [5, 1011] g88) := sv_mod.sts md80 (by decide)
              have h := h g88 hp91
              refine sv_lload hM dX12_putNumber_71 rfl rfl ?_
              refine sv_ldc2_w (d := (10 : Int)) hM dX12_putNumber_73 sm_ck_381 rfl rfl ?_
              obtain ⟨o95, h⟩ := h
              refine sv_ldiv hM dX12_putNumber_76 o95 o84 rfl (fun r94 hr94 dr94 er94 => ?_)
              have h := h r94 hr94 dr94 er94
              refine sv_lstore hM dX12_putNumber_77 (by decide) rfl ?_
              show sv_T sm_XS sm_cs sm_L sm_sh 1 (q_putNumber p1 S) 31 79 [(0, .ref 0), (1, sv_I p1), (2, sv_L (-p1)), (4, sv_L r94)] [] (sv_sts (sv_sts S [5, 1011] g74) [5, 1011] g88)
              refine sv_goto hM dX12_putNumber_79 (pc' := 48) rfl ?_
              have eS := sv_mod.eq md93
              have hb := ih76 (r94, (sv_sts (sv_sts S [5, 1011] g74) [5, 1011] g88)) ⟨(⟨by have := hr94; have := o95; omega, by have := hr94; have := o95; omega⟩ : sv_RL r94), (by rw [← eS]; exact ok89), h.1⟩ h.2
              have hb : sv_T sm_XS sm_cs sm_L sm_sh 1 (q_putNumber p1 S) 31 48 [(0, .ref 0), (1, sv_I p1), (2, sv_L (-p1)), (4, sv_L r94)] [] (sv_sts (sv_sts S [5, 1011] g74) [5, 1011] g88) := Eq.mpr (congrArg (fun Z => sv_T sm_XS sm_cs sm_L sm_sh 1 (q_putNumber p1 S) 31 48 [(0, .ref 0), (1, sv_I p1), (2, sv_L (-p1)), (4, sv_L r94)] [] Z) eS) hb
              exact sv_less (lv := [(0, .ref 0), (1, sv_I p1), (2, sv_L (-p1)), (4, sv_L r94)]) (sv_Sub_cons rfl (sv_Sub_cons rfl (sv_Sub_cons rfl (sv_Sub_cons rfl sv_Sub_nil)))) hb
          have eS := sv_mod.eq (sv_mod.rf (l := [5, 1011]) (S := S))
          have hb := hJ (l4_67, S) ⟨hl4_67, (by rw [← eS]; exact ok70), hin77⟩
          have hb : sv_T sm_XS sm_cs sm_L sm_sh 1 (q_putNumber p1 S) 31 48 [(0, .ref 0), (1, sv_I p1), (2, sv_L (-p1)), (4, sv_L l4_67)] [] S := Eq.mpr (congrArg (fun Z => sv_T sm_XS sm_cs sm_L sm_sh 1 (q_putNumber p1 S) 31 48 [(0, .ref 0), (1, sv_I p1), (2, sv_L (-p1)), (4, sv_L l4_67)] [] Z) eS) hb
          exact hb
        · have h := h.2 (fun q => hc ((sv_cmp_le).mpr q))
          refine sv_ldc2_w (d := (10 : Int)) hM dX12_putNumber_37 sm_ck_381 rfl rfl ?_
          refine sv_lload hM dX12_putNumber_40 rfl rfl ?_
          refine sv_lmul hM dX12_putNumber_42 rfl ?_
          refine sv_lstore hM dX12_putNumber_43 (by decide) rfl ?_
          show sv_T sm_XS sm_cs sm_L sm_sh 1 (q_putNumber p1 S) 31 45 [(0, .ref 0), (1, sv_I p1), (2, sv_L (-p1)), (4, sv_L ((10 : Int) * l4_67))] [] S
          refine sv_goto hM dX12_putNumber_45 (pc' := 26) rfl ?_
          obtain ⟨o96, h⟩ := h
          have hb := ih68 (((10 : Int) * l4_67), ()) ⟨o96, ok70, h.1⟩ h.2
          exact sv_less (lv := [(0, .ref 0), (1, sv_I p1), (2, sv_L (-p1)), (4, sv_L ((10 : Int) * l4_67))]) (sv_Sub_cons rfl (sv_Sub_cons rfl (sv_Sub_cons rfl (sv_Sub_cons rfl sv_Sub_nil)))) hb
      exact hJ ((1 : Int), ()) ⟨(⟨by decide, by decide⟩ : sv_RL (1 : Int)), hok, hin69⟩
    · have h := h.2 (hc)
      refine sv_aload_n hM dX12_putNumber_17 rfl rfl ?_
      refine sv_bipush (d := (45 : Int)) hM dX12_putNumber_18 rfl rfl ?_
      obtain ⟨o97, h⟩ := h
      refine sv_callV hM dX12_putNumber_20 sm_iv_324 (by decide) (sm_a0 _) rfl rfl (Nat.le_of_ble_eq_true rfl) sm_h7 (Nat.le_of_ble_eq_true rfl) (Nat.le_of_ble_eq_true rfl) (F' := 0) (Nat.le_of_ble_eq_true rfl) rfl (t_put (45 : Int) S hok (⟨by decide, by decide⟩ : sv_R (45 : Int)) o97) (fun v S1 hq => ?_)
      obtain ⟨rfl, ok99, md100, hp101⟩ := hq
      obtain ⟨g98, rfl⟩ : ∃ g, S1 = sv_sts S [5, 1011] g := ⟨_, md100.eq⟩
      show sv_T sm_XS sm_cs sm_L sm_sh 1 (q_putNumber p1 S) 31 23 [(0, .ref 0), (1, sv_I p1), (2, sv_L (-p1))] [] (sv_sts S [5, 1011] g98)
      have md102 : sv_mod [5, 1011] S (sv_sts S [5, 1011] g98) := sv_mod.sts sv_mod.rf (by decide)
      have h := h g98 hp101
      refine sv_lconst (d := (1 : Int)) hM dX12_putNumber_23 rfl rfl ?_
      refine sv_lstore hM dX12_putNumber_24 (by decide) rfl ?_
      show sv_T sm_XS sm_cs sm_L sm_sh 1 (q_putNumber p1 S) 31 26 [(0, .ref 0), (1, sv_I p1), (2, sv_L (-p1)), (4, sv_L (1 : Int))] [] (sv_sts S [5, 1011] g98)
      obtain ⟨hin105, h⟩ := h
      have hJ : ∀ a : Int × Unit, (sv_RL a.1 ∧ sm_ok (sv_sts S [5, 1011] g98) ∧ (0 ≤ (-p1) ∧ (-p1) ≤ 2147483648 ∧ 1 ≤ a.1 ∧ a.1 ≤ 2147483648 ∧ (a.1 = 1 ∨ a.1 ≤ (-p1)) ∧ (S 1011 0) ≤ (g98 1011 0) ∧ (g98 1011 0) ≤ (S 1011 0) + 1)) → sv_T sm_XS sm_cs sm_L sm_sh 1 (q_putNumber p1 S) 31 26 [(0, .ref 0), (1, sv_I p1), (2, sv_L (-p1)), (4, sv_L a.1)] [] (sv_sts S [5, 1011] g98) := by
        refine sv_loop (α := Int × Unit) (fun a => sv_RL a.1 ∧ sm_ok (sv_sts S [5, 1011] g98) ∧ (0 ≤ (-p1) ∧ (-p1) ≤ 2147483648 ∧ 1 ≤ a.1 ∧ a.1 ≤ 2147483648 ∧ (a.1 = 1 ∨ a.1 ≤ (-p1)) ∧ (S 1011 0) ≤ (g98 1011 0) ∧ (g98 1011 0) ≤ (S 1011 0) + 1)) (fun a => 2147483649 - a.1) (fun a => sv_T sm_XS sm_cs sm_L sm_sh 1 (q_putNumber p1 S) 31 26 [(0, .ref 0), (1, sv_I p1), (2, sv_L (-p1)), (4, sv_L a.1)] [] (sv_sts S [5, 1011] g98)) (fun a q => (h a.1 q.1 q.2.2).1) (fun a q ih104 => ?_)
        obtain ⟨l4_103, _u⟩ := a
        obtain ⟨hl4_103, ok106, hin105i⟩ := q
        have h := (h l4_103 hl4_103 hin105i).2
        show sv_T sm_XS sm_cs sm_L sm_sh 1 (q_putNumber p1 S) 31 26 [(0, .ref 0), (1, sv_I p1), (2, sv_L (-p1)), (4, sv_L l4_103)] [] (sv_sts S [5, 1011] g98)
        refine sv_lload_n hM dX12_putNumber_26 rfl rfl ?_
        refine sv_lload hM dX12_putNumber_27 rfl rfl ?_
        obtain ⟨o108, h⟩ := h
        obtain ⟨o109, h⟩ := h
        refine sv_ldiv hM dX12_putNumber_29 o108 o109 rfl (fun r107 hr107 dr107 er107 => ?_)
        have h := h r107 hr107 dr107 er107
        refine sv_ldc2_w (d := (9 : Int)) hM dX12_putNumber_30 sm_ck_416 rfl rfl ?_
        refine sv_lcmp hM dX12_putNumber_33 (⟨by have := hr107; have := o108; omega, by have := hr107; have := o108; omega⟩ : sv_RL r107) (⟨by decide, by decide⟩ : sv_RL (9 : Int)) rfl ?_
        refine sv_cond_le hM dX12_putNumber_34 sv_Rcmp (t := 48) rfl rfl (fun hc => ?_) (fun hc => ?_)
        · have h := h.1 ((sv_cmp_le).mp hc)
          obtain ⟨hin113, h⟩ := h
          have hJ : ∀ a : Int × sv_S, (sv_RL a.1 ∧ sm_ok (sv_sts (sv_sts S [5, 1011] g98) [5, 1011] a.2) ∧ (0 ≤ (-p1) ∧ (-p1) ≤ 2147483648 ∧ 0 ≤ a.1 ∧ a.1 ≤ 2147483648 ∧ (S 1011 0) ≤ (a.2 1011 0) ∧ (1 ≤ a.1 → (a.2 1011 0) ≤ (S 1011 0) + 10) ∧ (10 ≤ a.1 → (a.2 1011 0) ≤ (S 1011 0) + 9) ∧ (100 ≤ a.1 → (a.2 1011 0) ≤ (S 1011 0) + 8) ∧ (1000 ≤ a.1 → (a.2 1011 0) ≤ (S 1011 0) + 7) ∧ (10000 ≤ a.1 → (a.2 1011 0) ≤ (S 1011 0) + 6) ∧ (100000 ≤ a.1 → (a.2 1011 0) ≤ (S 1011 0) + 5) ∧ (1000000 ≤ a.1 → (a.2 1011 0) ≤ (S 1011 0) + 4) ∧ (10000000 ≤ a.1 → (a.2 1011 0) ≤ (S 1011 0) + 3) ∧ (100000000 ≤ a.1 → (a.2 1011 0) ≤ (S 1011 0) + 2) ∧ (1000000000 ≤ a.1 → (a.2 1011 0) ≤ (S 1011 0) + 1) ∧ (a.2 1011 0) ≤ (S 1011 0) + 11)) → sv_T sm_XS sm_cs sm_L sm_sh 1 (q_putNumber p1 S) 31 48 [(0, .ref 0), (1, sv_I p1), (2, sv_L (-p1)), (4, sv_L a.1)] [] (sv_sts (sv_sts S [5, 1011] g98) [5, 1011] a.2) := by
            refine sv_loop (α := Int × sv_S) (fun a => sv_RL a.1 ∧ sm_ok (sv_sts (sv_sts S [5, 1011] g98) [5, 1011] a.2) ∧ (0 ≤ (-p1) ∧ (-p1) ≤ 2147483648 ∧ 0 ≤ a.1 ∧ a.1 ≤ 2147483648 ∧ (S 1011 0) ≤ (a.2 1011 0) ∧ (1 ≤ a.1 → (a.2 1011 0) ≤ (S 1011 0) + 10) ∧ (10 ≤ a.1 → (a.2 1011 0) ≤ (S 1011 0) + 9) ∧ (100 ≤ a.1 → (a.2 1011 0) ≤ (S 1011 0) + 8) ∧ (1000 ≤ a.1 → (a.2 1011 0) ≤ (S 1011 0) + 7) ∧ (10000 ≤ a.1 → (a.2 1011 0) ≤ (S 1011 0) + 6) ∧ (100000 ≤ a.1 → (a.2 1011 0) ≤ (S 1011 0) + 5) ∧ (1000000 ≤ a.1 → (a.2 1011 0) ≤ (S 1011 0) + 4) ∧ (10000000 ≤ a.1 → (a.2 1011 0) ≤ (S 1011 0) + 3) ∧ (100000000 ≤ a.1 → (a.2 1011 0) ≤ (S 1011 0) + 2) ∧ (1000000000 ≤ a.1 → (a.2 1011 0) ≤ (S 1011 0) + 1) ∧ (a.2 1011 0) ≤ (S 1011 0) + 11)) (fun a => a.1) (fun a => sv_T sm_XS sm_cs sm_L sm_sh 1 (q_putNumber p1 S) 31 48 [(0, .ref 0), (1, sv_I p1), (2, sv_L (-p1)), (4, sv_L a.1)] [] (sv_sts (sv_sts S [5, 1011] g98) [5, 1011] a.2)) (fun a q => (h a.1 q.1 a.2 q.2.2).1) (fun a q ih112 => ?_)
            obtain ⟨l4_111, g110⟩ := a
            obtain ⟨hl4_111, ok114, hin113i⟩ := q
            have h := (h l4_111 hl4_111 g110 hin113i).2
            show sv_T sm_XS sm_cs sm_L sm_sh 1 (q_putNumber p1 S) 31 48 [(0, .ref 0), (1, sv_I p1), (2, sv_L (-p1)), (4, sv_L l4_111)] [] (sv_sts (sv_sts S [5, 1011] g98) [5, 1011] g110)
            have md115 : sv_mod [5, 1011] S (sv_sts (sv_sts S [5, 1011] g98) [5, 1011] g110) := sv_mod.sts md102 (by decide)
            have md116 : sv_mod [5, 1011] (sv_sts S [5, 1011] g98) (sv_sts (sv_sts S [5, 1011] g98) [5, 1011] g110) := sv_mod.sts sv_mod.rf (by decide)
            refine sv_lload hM dX12_putNumber_48 rfl rfl ?_
            refine sv_lconst (d := (0 : Int)) hM dX12_putNumber_50 rfl rfl ?_
            refine sv_lcmp hM dX12_putNumber_51 hl4_111 (⟨by decide, by decide⟩ : sv_RL (0 : Int)) rfl ?_
            refine sv_cond_le hM dX12_putNumber_52 sv_Rcmp (t := 82) rfl rfl (fun hc => ?_) (fun hc => ?_)
            · have h := h.1 ((sv_cmp_le).mp hc)
              exact sv_vret hM dX12_putNumber_82 rfl ⟨rfl, ok114, md115, h⟩
            · have h := h.2 (fun q => hc ((sv_cmp_le).mpr q))
              refine sv_aload_n hM dX12_putNumber_55 rfl rfl ?_
              refine sv_bipush (d := (48 : Int)) hM dX12_putNumber_56 rfl rfl ?_
              refine sv_lload_n hM dX12_putNumber_58 rfl rfl ?_
              refine sv_lload hM dX12_putNumber_59 rfl rfl ?_
              obtain ⟨o118, h⟩ := h
              refine sv_ldiv hM dX12_putNumber_61 o108 o118 rfl (fun r117 hr117 dr117 er117 => ?_)
              have h := h r117 hr117 dr117 er117
              refine sv_ldc2_w (d := (10 : Int)) hM dX12_putNumber_62 sm_ck_381 rfl rfl ?_
              obtain ⟨o119, h⟩ := h
              obtain ⟨o120, h⟩ := h
              refine sv_lrem hM dX12_putNumber_65 o119 o120 rfl ?_
              refine sv_l2iR hM dX12_putNumber_66 rfl (fun r121 hr121 er121 => ?_)
              have h := h r121 hr121 er121
              refine sv_iadd hM dX12_putNumber_67 rfl ?_
              obtain ⟨o122, h⟩ := h
              obtain ⟨o123, h⟩ := h
              refine sv_callV hM dX12_putNumber_68 sm_iv_324 (by decide) (sm_a0 _) rfl rfl (Nat.le_of_ble_eq_true rfl) sm_h7 (Nat.le_of_ble_eq_true rfl) (Nat.le_of_ble_eq_true rfl) (F' := 0) (Nat.le_of_ble_eq_true rfl) rfl (t_put ((48 : Int) + r121) (sv_sts (sv_sts S [5, 1011] g98) [5, 1011] g110) ok114 o122 o123) (fun v S1 hq => ?_)
              obtain ⟨rfl, ok125, md126, hp127⟩ := hq
              obtain ⟨g124, rfl⟩ : ∃ g, S1 = sv_sts (sv_sts (sv_sts S [5, 1011] g98) [5, 1011] g110) [5, 1011] g := ⟨_, md126.eq⟩
              show sv_T sm_XS sm_cs sm_L sm_sh 1 (q_putNumber p1 S) 31 71 [(0, .ref 0), (1, sv_I p1), (2, sv_L (-p1)), (4, sv_L l4_111)] [] (sv_sts (sv_sts (sv_sts S [5, 1011] g98) [5, 1011] g110) [5, 1011] g124)
              have md128 : sv_mod [5, 1011] S (sv_sts (sv_sts (sv_sts S [5, 1011] g98) [5, 1011] g110) [5, 1011] g124) := sv_mod.sts md115 (by decide)
              have md129 : sv_mod [5, 1011] (sv_sts S [5, 1011] g98) (sv_sts (sv_sts (sv_sts S [5, 1011] g98) [5, 1011] g110) [5, 1011] g124) := sv_mod.sts md116 (by decide)
              have h := h g124 hp127
              refine sv_lload hM dX12_putNumber_71 rfl rfl ?_
              refine sv_ldc2_w (d := (10 : Int)) hM dX12_putNumber_73 sm_ck_381 rfl rfl ?_
              obtain ⟨o131, h⟩ := h
              refine sv_ldiv hM dX12_putNumber_76 o131 o120 rfl (fun r130 hr130 dr130 er130 => ?_)
              have h := h r130 hr130 dr130 er130
              refine sv_lstore hM dX12_putNumber_77 (by decide) rfl ?_
              show sv_T sm_XS sm_cs sm_L sm_sh 1 (q_putNumber p1 S) 31 79 [(0, .ref 0), (1, sv_I p1), (2, sv_L (-p1)), (4, sv_L r130)] [] (sv_sts (sv_sts (sv_sts S [5, 1011] g98) [5, 1011] g110) [5, 1011] g124)
              refine sv_goto hM dX12_putNumber_79 (pc' := 48) rfl ?_
              have eS := sv_mod.eq md129
              have hb := ih112 (r130, (sv_sts (sv_sts (sv_sts S [5, 1011] g98) [5, 1011] g110) [5, 1011] g124)) ⟨(⟨by have := hr130; have := o131; omega, by have := hr130; have := o131; omega⟩ : sv_RL r130), (by rw [← eS]; exact ok125), h.1⟩ h.2
              have hb : sv_T sm_XS sm_cs sm_L sm_sh 1 (q_putNumber p1 S) 31 48 [(0, .ref 0), (1, sv_I p1), (2, sv_L (-p1)), (4, sv_L r130)] [] (sv_sts (sv_sts (sv_sts S [5, 1011] g98) [5, 1011] g110) [5, 1011] g124) := Eq.mpr (congrArg (fun Z => sv_T sm_XS sm_cs sm_L sm_sh 1 (q_putNumber p1 S) 31 48 [(0, .ref 0), (1, sv_I p1), (2, sv_L (-p1)), (4, sv_L r130)] [] Z) eS) hb
              exact sv_less (lv := [(0, .ref 0), (1, sv_I p1), (2, sv_L (-p1)), (4, sv_L r130)]) (sv_Sub_cons rfl (sv_Sub_cons rfl (sv_Sub_cons rfl (sv_Sub_cons rfl sv_Sub_nil)))) hb
          have eS := sv_mod.eq (sv_mod.rf (l := [5, 1011]) (S := (sv_sts S [5, 1011] g98)))
          have hb := hJ (l4_103, (sv_sts S [5, 1011] g98)) ⟨hl4_103, (by rw [← eS]; exact ok106), hin113⟩
          have hb : sv_T sm_XS sm_cs sm_L sm_sh 1 (q_putNumber p1 S) 31 48 [(0, .ref 0), (1, sv_I p1), (2, sv_L (-p1)), (4, sv_L l4_103)] [] (sv_sts S [5, 1011] g98) := Eq.mpr (congrArg (fun Z => sv_T sm_XS sm_cs sm_L sm_sh 1 (q_putNumber p1 S) 31 48 [(0, .ref 0), (1, sv_I p1), (2, sv_L (-p1)), (4, sv_L l4_103)] [] Z) eS) hb
          exact hb
        · have h := h.2 (fun q => hc ((sv_cmp_le).mpr q))
          refine sv_ldc2_w (d := (10 : Int)) hM dX12_putNumber_37 sm_ck_381 rfl rfl ?_
          refine sv_lload hM dX12_putNumber_40 rfl rfl ?_
          refine sv_lmul hM dX12_putNumber_42 rfl ?_
          refine sv_lstore hM dX12_putNumber_43 (by decide) rfl ?_
          show sv_T sm_XS sm_cs sm_L sm_sh 1 (q_putNumber p1 S) 31 45 [(0, .ref 0), (1, sv_I p1), (2, sv_L (-p1)), (4, sv_L ((10 : Int) * l4_103))] [] (sv_sts S [5, 1011] g98)
          refine sv_goto hM dX12_putNumber_45 (pc' := 26) rfl ?_
          obtain ⟨o132, h⟩ := h
          have hb := ih104 (((10 : Int) * l4_103), ()) ⟨o132, ok106, h.1⟩ h.2
          exact sv_less (lv := [(0, .ref 0), (1, sv_I p1), (2, sv_L (-p1)), (4, sv_L ((10 : Int) * l4_103))]) (sv_Sub_cons rfl (sv_Sub_cons rfl (sv_Sub_cons rfl (sv_Sub_cons rfl sv_Sub_nil)))) hb
      exact hJ ((1 : Int), ()) ⟨(⟨by decide, by decide⟩ : sv_RL (1 : Int)), ok99, hin105⟩
