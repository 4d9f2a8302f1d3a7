theorem dX12_firstNames_0 : decode cX12_firstNames 0 = .ok (.aload_n 0, 1) := by decide +kernel
theorem dX12_firstNames_1 : decode cX12_firstNames 1 = .ok (.iconst 0, 1) := by decide +kernel
theorem dX12_firstNames_2 : decode cX12_firstNames 2 = .ok (.putfield 296, 3) := by decide +kernel
theorem dX12_firstNames_5 : decode cX12_firstNames 5 = .ok (.aload_n 0, 1) := by decide +kernel
theorem dX12_firstNames_6 : decode cX12_firstNames 6 = .ok (.iconst 0, 1) := by decide +kernel
theorem dX12_firstNames_7 : decode cX12_firstNames 7 = .ok (.putfield 306, 3) := by decide +kernel
theorem dX12_firstNames_10 : decode cX12_firstNames 10 = .ok (.aload_n 0, 1) := by decide +kernel
theorem dX12_firstNames_11 : decode cX12_firstNames 11 = .ok (.iconst 0, 1) := by decide +kernel
theorem dX12_firstNames_12 : decode cX12_firstNames 12 = .ok (.putfield 299, 3) := by decide +kernel
theorem dX12_firstNames_15 : decode cX12_firstNames 15 = .ok (.iconst 0, 1) := by decide +kernel
theorem dX12_firstNames_16 : decode cX12_firstNames 16 = .ok (.istore_n 1, 1) := by decide +kernel
theorem dX12_firstNames_17 : decode cX12_firstNames 17 = .ok (.iload_n 1, 1) := by decide +kernel
theorem dX12_firstNames_18 : decode cX12_firstNames 18 = .ok (.ldc_w 313, 3) := by decide +kernel
theorem dX12_firstNames_21 : decode cX12_firstNames 21 = .ok (.invokevirtual 315, 3) := by decide +kernel
theorem dX12_firstNames_24 : decode cX12_firstNames 24 = .ok (.if_icmp .ge 45, 3) := by decide +kernel
theorem dX12_firstNames_27 : decode cX12_firstNames 27 = .ok (.ldc_w 313, 3) := by decide +kernel
theorem dX12_firstNames_30 : decode cX12_firstNames 30 = .ok (.iload_n 1, 1) := by decide +kernel
theorem dX12_firstNames_31 : decode cX12_firstNames 31 = .ok (.invokevirtual 320, 3) := by decide +kernel
theorem dX12_firstNames_34 : decode cX12_firstNames 34 = .ok (.bipush 32, 2) := by decide +kernel
theorem dX12_firstNames_36 : decode cX12_firstNames 36 = .ok (.if_icmp .eq 17, 3) := by decide +kernel
theorem dX12_firstNames_39 : decode cX12_firstNames 39 = .ok (.aload_n 0, 1) := by decide +kernel
theorem dX12_firstNames_40 : decode cX12_firstNames 40 = .ok (.ldc_w 313, 3) := by decide +kernel
theorem dX12_firstNames_43 : decode cX12_firstNames 43 = .ok (.iload_n 1, 1) := by decide +kernel
theorem dX12_firstNames_44 : decode cX12_firstNames 44 = .ok (.invokevirtual 320, 3) := by decide +kernel
theorem dX12_firstNames_47 : decode cX12_firstNames 47 = .ok (.invokevirtual 324, 3) := by decide +kernel
theorem dX12_firstNames_50 : decode cX12_firstNames 50 = .ok (.goto 13, 3) := by decide +kernel
theorem dX12_firstNames_53 : decode cX12_firstNames 53 = .ok (.aload_n 0, 1) := by decide +kernel
theorem dX12_firstNames_54 : decode cX12_firstNames 54 = .ok (.invokevirtual 310, 3) := by decide +kernel
theorem dX12_firstNames_57 : decode cX12_firstNames 57 = .ok (.istore_n 2, 1) := by decide +kernel
theorem dX12_firstNames_58 : decode cX12_firstNames 58 = .ok (.aload_n 0, 1) := by decide +kernel
theorem dX12_firstNames_59 : decode cX12_firstNames 59 = .ok (.iconst 0, 1) := by decide +kernel
theorem dX12_firstNames_60 : decode cX12_firstNames 60 = .ok (.putfield 299, 3) := by decide +kernel
theorem dX12_firstNames_63 : decode cX12_firstNames 63 = .ok (.iinc 1 1, 3) := by decide +kernel
theorem dX12_firstNames_66 : decode cX12_firstNames 66 = .ok (.goto (-49), 3) := by decide +kernel
theorem dX12_firstNames_69 : decode cX12_firstNames 69 = .ok (.return_, 1) := by decide +kernel
theorem sm_c900_r (x : Int) : sv_R (sm_c900 x) := sv_RI _
def sm_sp (n : Nat) : Nat := ((sm_s900.take n).filter (fun c => c == 32)).length
def sm_tl (n : Nat) : Nat := ((sm_s900.take n).reverse.takeWhile (fun c => !(c == 32))).length
theorem sm_spt : ∀ n : Fin 230, 0 ≤ (sm_s900.getD n.val 0).toInt ∧ (sm_s900.getD n.val 0).toInt ≤ 127 ∧ sm_sp n.val ≤ 30 ∧ sm_tl n.val ≤ 18 ∧ ((sm_s900.getD n.val 0).toInt = 32 → sm_sp (n.val + 1) = sm_sp n.val + 1 ∧ sm_tl (n.val + 1) = 0) ∧ (¬ (sm_s900.getD n.val 0).toInt = 32 → sm_sp (n.val + 1) = sm_sp n.val ∧ sm_tl (n.val + 1) = sm_tl n.val + 1) := by decide +kernel
def sm_spi (x : Int) : Int := sm_sp x.toNat
def sm_tli (x : Int) : Int := sm_tl x.toNat
theorem sm_w900 (x : Int) (h0 : 0 ≤ x) (h1 : x < 230) : 0 ≤ sm_c900 x ∧ sm_c900 x ≤ 127 ∧ 0 ≤ sm_spi x ∧ sm_spi x ≤ 30 ∧ 0 ≤ sm_tli x ∧ sm_tli x ≤ 18 ∧ (sm_c900 x = 32 → sm_spi (x + 1) = sm_spi x + 1 ∧ sm_tli (x + 1) = 0) ∧ (¬ sm_c900 x = 32 → sm_spi (x + 1) = sm_spi x ∧ sm_tli (x + 1) = sm_tli x + 1) := by
  have h := sm_spt ⟨x.toNat, by omega⟩
  have e : (x + 1).toNat = x.toNat + 1 := by omega
  unfold sm_c900 sm_spi sm_tli
  rw [e]
  simp only at h
  obtain ⟨a1, a2, a3, a4, a5, a6⟩ := h
  exact ⟨a1, a2, by omega, by omega, by omega, by omega, fun q => by have := a5 q; omega, fun q => by have := a6 q; omega⟩
theorem sm_u900 : ∀ n : Fin 230, (sm_s900.getD n.val 0).toInt = 32 → sm_sp n.val = 0 → sm_tl n.val = 6 := by decide +kernel
theorem sm_f900 (x : Int) (h0 : 0 ≤ x) (h1 : x < 230) (h2 : sm_c900 x = 32) (h3 : sm_spi x = 0) : sm_tli x = 6 := by
  have h := sm_u900 ⟨x.toNat, by omega⟩
  unfold sm_c900 at h2
  unfold sm_spi at h3
  unfold sm_tli
  simp only at h
  have := h h2 (by omega)
  omega
theorem sm_v900 : sm_spi 0 = 0 ∧ sm_tli 0 = 0 ∧ sm_spi 230 = 31 ∧ sm_tli 230 = 0 := by decide +kernel

def q_firstNames (S : sv_S) : Option Value → sv_S → Prop := fun v S' => v = none ∧ sm_ok S' ∧ sv_mod [1007, 1009, 1011, 5, 3, 4] S S' ∧ ((S' 1007 0) = 31 ∧ (S' 1009 0) = 0 ∧ 0 ≤ (S' 1011 0) ∧ (S' 1011 0) ≤ 200 ∧ sm_LN (S' 4) 400 (S' 1007 0))
theorem la_firstNames_0 : (0 : Int) ≤ 0 := by omega
theorem la_firstNames_1 : (0 : Int) ≤ 230 := by omega
theorem la_firstNames_2 {x0 : Int} (h0 : x0 = 0) : 0 = x0 := by omega
theorem la_firstNames_3 : (0 : Int) = 0 := by omega
theorem la_firstNames_4 {x0 : Int} (h0 : x0 ≤ 230) : 0 ≤ 230 - x0 := by omega
theorem la_firstNames_5 {x0 : Int} (h0 : 230 ≤ x0) : ¬ x0 < 230 := by omega
theorem la_firstNames_6 {x0 : Int} (h0 : x0 ≤ 230) (h1 : 230 ≤ x0) : x0 = 230 := by omega
theorem la_firstNames_7 {x0 x1 : Int} (h0 : x0 = x1) (h1 : x1 = 31) : x0 = 31 := by omega
theorem la_firstNames_8 {x0 x1 : Int} (h0 : x0 = x1) (h1 : x1 = 0) : 0 ≤ x0 := by omega
theorem la_firstNames_9 {x0 x1 : Int} (h0 : x0 = x1) (h1 : x1 = 0) : x0 ≤ 200 := by omega
theorem la_firstNames_10 {x0 : Int} (h0 : ¬ 230 ≤ x0) : x0 < 230 := by omega
theorem la_firstNames_11 {x0 : Int} (h0 : ¬ 230 ≤ x0) : ¬ x0 = 230 := by omega
theorem la_firstNames_12 {x0 : Int} (h0 : 0 ≤ x0) (h1 : ¬ 230 ≤ x0) : 0 ≤ x0 ∧ x0 < 230 := by omega
theorem la_firstNames_13 {x0 x1 : Int} (h0 : x0 = x1) (h1 : x1 = 32) : x0 = 32 := by omega
theorem la_firstNames_14 {x0 x1 : Int} (h0 : x0 = x1) (h1 : x1 = 32) : ¬ ¬ x0 = 32 := by omega
theorem la_firstNames_15 {x0 x1 : Int} (h0 : x0 = x1) (h1 : 0 ≤ x1) : 0 ≤ x0 := by omega
theorem la_firstNames_16 {x0 x1 : Int} (h0 : x0 = x1) (h1 : x1 ≤ 30) : x0 < 400 := by omega
theorem la_firstNames_17 {x0 x1 : Int} (h0 : x0 = x1) (h1 : x1 ≤ 18) : x0 ≤ 90 := by omega
theorem la_firstNames_18 {x0 x1 x2 x3 : Int} (h0 : x0 = x1) (h1 : x2 = x3) (h2 : x1 ≤ 30) (h3 : x3 ≤ 18) : 60 * x0 + x2 ≤ 24000 := by omega
theorem la_firstNames_19 {x0 x1 : Int} (h0 : x0 = x1) (h1 : 0 ≤ x1) (h2 : x0 = 0) : x1 = 0 := by omega
theorem la_firstNames_20 {x0 x1 : Int} (h0 : x0 = x1) (h1 : x1 = 6) : x0 = 6 := by omega
theorem la_firstNames_21 {x0 : Int} (h0 : 0 ≤ x0) (h1 : ¬ 230 ≤ x0) : sv_R (x0 + 1) := by omega
theorem la_firstNames_22 {x0 : Int} (h0 : 0 ≤ x0) : 0 ≤ x0 + 1 := by omega
theorem la_firstNames_23 {x0 : Int} (h0 : ¬ 230 ≤ x0) : x0 + 1 ≤ 230 := by omega
theorem la_firstNames_24 {x0 x1 x2 x3 : Int} (h0 : x0 = x1) (h1 : x2 = x1 + 1) (h2 : x3 = x0 + 1) : x3 = x2 := by omega
theorem la_firstNames_25 {x0 : Int} : 230 - (x0 + 1) < 230 - x0 := by omega
theorem la_firstNames_26 {x0 x1 x2 x3 : Int} (h0 : x0 = x1) (h1 : 0 ≤ x2) (h2 : x2 ≤ 127) (h3 : 0 ≤ x1) (h4 : x1 ≤ 18) (h5 : x2 = x3) : 0 ≤ x0 ∧ x0 < 200 ∧ 0 ≤ x3 ∧ x3 ≤ 65535 := by omega
theorem la_firstNames_27 {x0 x1 x2 x3 x4 x5 x6 : Int} (h0 : x0 = x1) (h1 : x2 = 32 → x3 = x1 + 1 ∧ x4 = 0) (h2 : ¬ x2 = 32 → x3 = x1 ∧ x4 = x5 + 1) (h3 : x2 = x6) (h4 : ¬ x6 = 32) : x0 = x3 := by omega
theorem la_firstNames_28 {x0 x1 x2 x3 x4 x5 x6 x7 : Int} (h0 : x0 = x1) (h1 : 0 ≤ x1) (h2 : x2 = 32 → x3 = x4 + 1 ∧ x5 = 0) (h3 : ¬ x2 = 32 → x3 = x4 ∧ x5 = x1 + 1) (h4 : x2 = x6) (h5 : ¬ x6 = 32) (h6 : x7 = x0 + 1) : x7 = x5 := by omega
set_option maxHeartbeats 2000000 in
theorem f_firstNames : ∀ (S : sv_S), sm_ok S → (sm_LN (S 4) 400 (S 1007 0)) → ((sm_spi 0 = 0 ∧ sm_tli 0 = 0 ∧ sm_spi 230 = 31 ∧ sm_tli 230 = 0) → ((0 ≤ (0 : Int) ∧ (0 : Int) ≤ 230 ∧ (0 : Int) = sm_spi (0 : Int) ∧ (0 : Int) = sm_tli (0 : Int) ∧ (0 : Int) = 0 ∧ sm_LN (S 4) 400 (0 : Int)) ∧ (∀ l1_9 : Int, sv_R l1_9 → ∀ g8 : sv_S, (0 ≤ l1_9 ∧ l1_9 ≤ 230 ∧ (g8 1007 0) = sm_spi l1_9 ∧ (g8 1011 0) = sm_tli l1_9 ∧ (0 : Int) = 0 ∧ sm_LN (g8 4) 400 (g8 1007 0)) → (0 ≤ 230 - l1_9) ∧ ((0 ≤ l1_9 → l1_9 < 230 → 0 ≤ sm_c900 l1_9 ∧ sm_c900 l1_9 ≤ 127 ∧ 0 ≤ sm_spi l1_9 ∧ sm_spi l1_9 ≤ 30 ∧ 0 ≤ sm_tli l1_9 ∧ sm_tli l1_9 ≤ 18 ∧ (sm_c900 l1_9 = 32 → sm_spi (l1_9 + 1) = sm_spi l1_9 + 1 ∧ sm_tli (l1_9 + 1) = 0) ∧ (¬ sm_c900 l1_9 = 32 → sm_spi (l1_9 + 1) = sm_spi l1_9 ∧ sm_tli (l1_9 + 1) = sm_tli l1_9 + 1)) → ((0 ≤ l1_9 → l1_9 < 230 → sm_c900 l1_9 = 32 → sm_spi l1_9 = 0 → sm_tli l1_9 = 6) → ((l1_9 = 230 → sm_spi l1_9 = 31 ∧ sm_tli l1_9 = 0) → ((((230 : Int) ≤ l1_9) → ((g8 1007 0) = 31 ∧ (0 : Int) = 0 ∧ 0 ≤ (g8 1011 0) ∧ (g8 1011 0) ≤ 200 ∧ sm_LN (g8 4) 400 (g8 1007 0))) ∧ ((¬ ((230 : Int) ≤ l1_9)) → (0 ≤ l1_9 ∧ l1_9 < 230) ∧ (∀ r18 : Int, sv_R r18 → (sm_c900 l1_9) = r18 → (((r18 = (32 : Int)) → (0 ≤ (g8 1007 0) ∧ (g8 1007 0) < 400 ∧ 0 ≤ (g8 1011 0) ∧ (g8 1011 0) ≤ 90 ∧ 60 * (g8 1007 0) + (g8 1011 0) ≤ 24000 ∧ ((g8 1007 0) = 0 → (g8 1011 0) = 6)) ∧ (∀ r25 : Int, sv_R r25 → ∀ g21 : sv_S, (r25 = (g8 1007 0) ∧ (g21 1007 0) = (g8 1007 0) + 1 ∧ (g21 4 (g8 1007 0)) = (g8 1011 0) ∧ (sm_LN (g8 4) 400 (g8 1007 0) → sm_LN (g21 4) 400 (g21 1007 0))) → (sv_R (l1_9 + (1 : Int))) ∧ ((0 ≤ (l1_9 + (1 : Int)) ∧ (l1_9 + (1 : Int)) ≤ 230 ∧ (g21 1007 0) = sm_spi (l1_9 + (1 : Int)) ∧ (0 : Int) = sm_tli (l1_9 + (1 : Int)) ∧ (0 : Int) = 0 ∧ sm_LN (g21 4) 400 (g21 1007 0)) ∧ (230 - (l1_9 + (1 : Int))) < (230 - l1_9)))) ∧ ((¬ (r18 = (32 : Int))) → (∀ r32 : Int, sv_R r32 → (sm_c900 l1_9) = r32 → (0 ≤ (g8 1011 0) ∧ (g8 1011 0) < 200 ∧ 0 ≤ r32 ∧ r32 ≤ 65535) ∧ (∀ g34 : sv_S, ((g34 1011 0) = (g8 1011 0) + 1) → (sv_R (l1_9 + (1 : Int))) ∧ ((0 ≤ (l1_9 + (1 : Int)) ∧ (l1_9 + (1 : Int)) ≤ 230 ∧ (g8 1007 0) = sm_spi (l1_9 + (1 : Int)) ∧ (g34 1011 0) = sm_tli (l1_9 + (1 : Int)) ∧ (0 : Int) = 0 ∧ sm_LN (g8 4) 400 (g8 1007 0)) ∧ (230 - (l1_9 + (1 : Int))) < (230 - l1_9))))))))))))))) := by
  intro S
  intro h1_
  intro h2_
  rintro ⟨h3_, ⟨h4_, ⟨h5_, h6_⟩⟩⟩
  refine ⟨⟨la_firstNames_0, ⟨la_firstNames_1, ⟨(la_firstNames_2 h3_), ⟨(la_firstNames_2 h4_), ⟨la_firstNames_3, (sm_LN_z h2_ la_firstNames_0)⟩⟩⟩⟩⟩, ?_⟩
  intro l1_9
  intro h7_
  intro g8
  rintro ⟨h8_, ⟨h9_, ⟨h10_, ⟨h11_, ⟨h12_, h13_⟩⟩⟩⟩⟩
  refine ⟨(la_firstNames_4 h9_), ?_⟩
  intro h14_
  have h15_ := (h14_ h8_)
  intro h16_
  have h17_ := (h16_ h8_)
  intro h18_
  refine ⟨?_, ?_⟩
  · skip
    intro h19_
    obtain ⟨h20_, h21_⟩ := (h18_ (la_firstNames_6 h9_ h19_))
    refine ⟨(la_firstNames_7 h10_ h20_), ?_⟩
    refine ⟨h12_, ?_⟩
    refine ⟨(la_firstNames_8 h11_ h21_), ?_⟩
    refine ⟨(la_firstNames_9 h11_ h21_), ?_⟩
    exact h13_
  intro h22_
  obtain ⟨h23_, ⟨h24_, ⟨h25_, ⟨h26_, ⟨h27_, ⟨h28_, ⟨h29_, h30_⟩⟩⟩⟩⟩⟩⟩ := (h15_ (la_firstNames_10 h22_))
  have h31_ := (h17_ (la_firstNames_10 h22_))
  refine ⟨(la_firstNames_12 h8_ h22_), ?_⟩
  intro r18
  intro h32_
  intro h33_
  refine ⟨?_, ?_⟩
  · skip
    intro h34_
    obtain ⟨h35_, h36_⟩ := (h29_ (la_firstNames_13 h33_ h34_))
    have h37_ := (h31_ (la_firstNames_13 h33_ h34_))
    refine ⟨?_, ?_⟩
    · skip
      refine ⟨(la_firstNames_15 h10_ h25_), ?_⟩
      refine ⟨(la_firstNames_16 h10_ h26_), ?_⟩
      refine ⟨(la_firstNames_15 h11_ h27_), ?_⟩
      refine ⟨(la_firstNames_17 h11_ h28_), ?_⟩
      refine ⟨(la_firstNames_18 h10_ h11_ h26_ h28_), ?_⟩
      intro h38_
      have h39_ := (h37_ (la_firstNames_19 h10_ h25_ h38_))
      exact (la_firstNames_20 h11_ h39_)
    intro r25
    intro h40_
    intro g21
    rintro ⟨h41_, ⟨h42_, ⟨h43_, h44_⟩⟩⟩
    have h45_ := (h44_ h13_)
    refine ⟨(la_firstNames_21 h8_ h22_), ?_⟩
    refine ⟨⟨(la_firstNames_22 h8_), ⟨(la_firstNames_23 h22_), ⟨(la_firstNames_24 h10_ h35_ h42_), ⟨(la_firstNames_2 h36_), ⟨h12_, h45_⟩⟩⟩⟩⟩, ?_⟩
    exact la_firstNames_25
  intro h46_
  intro r32
  intro h47_
  intro h48_
  refine ⟨(la_firstNames_26 h11_ h23_ h24_ h27_ h28_ h48_), ?_⟩
  intro g34
  intro h49_
  refine ⟨(la_firstNames_21 h8_ h22_), ?_⟩
  refine ⟨⟨(la_firstNames_22 h8_), ⟨(la_firstNames_23 h22_), ⟨(la_firstNames_27 h10_ h29_ h30_ h33_ h46_), ⟨(la_firstNames_28 h11_ h27_ h29_ h30_ h33_ h46_ h49_), ⟨h12_, h13_⟩⟩⟩⟩⟩, ?_⟩
  exact la_firstNames_25
set_option maxRecDepth 8000 in
set_option maxHeartbeats 2000000 in
theorem t_firstNames : ∀ (S : sv_S), sm_ok S → (sm_LN (S 4) 400 (S 1007 0)) → sv_T sm_XS sm_cs sm_L sm_sh 4 (q_firstNames S) 9 0 (lv_args 0 [.ref 0]) [] S := by
  intro S hok hpre
  have h := f_firstNames S hok hpre
  have hM := sm_h9
  show sv_T sm_XS sm_cs sm_L sm_sh 4 (q_firstNames S) 9 0 [(0, .ref 0)] [] S
  have k1 : (sm_spi 0 = 0 ∧ sm_tli 0 = 0 ∧ sm_spi 230 = 31 ∧ sm_tli 230 = 0) := sm_v900
  have h := h k1
  refine sv_aload_n hM dX12_firstNames_0 rfl rfl ?_
  refine sv_iconst (d := (0 : Int)) hM dX12_firstNames_1 rfl rfl ?_
  refine sv_putI sm_X hM dX12_firstNames_2 sm_fp_296 (sm_a0 _) sm_q7 (Or.inl rfl) rfl rfl rfl rfl ?_
  have ok2 : sm_ok (sv_up S 1007 0 (0 : Int)) := sm_upI hok sm_r1007 (⟨by decide, by decide⟩ : sv_R (0 : Int))
  have md3 : sv_mod [1007, 1009, 1011, 5, 3, 4] S (sv_up S 1007 0 (0 : Int)) := sv_mod.up sv_mod.rf (by decide)
  refine sv_aload_n hM dX12_firstNames_5 rfl rfl ?_
  refine sv_iconst (d := (0 : Int)) hM dX12_firstNames_6 rfl rfl ?_
  refine sv_putI sm_X hM dX12_firstNames_7 sm_fp_306 (sm_a0 _) sm_q9 (Or.inr rfl) rfl (sv_nz (⟨by decide, by decide⟩ : 0 ≤ (0 : Int) ∧ (0 : Int) ≤ 1)) (sv_fz (⟨by decide, by decide⟩ : 0 ≤ (0 : Int) ∧ (0 : Int) ≤ 1)) rfl ?_
  have ok4 : sm_ok (sv_up (sv_up S 1007 0 (0 : Int)) 1009 0 (0 : Int)) := sm_upZ ok2 sm_r1009 (⟨by decide, by decide⟩ : 0 ≤ (0 : Int) ∧ (0 : Int) ≤ 1)
  have md5 : sv_mod [1007, 1009, 1011, 5, 3, 4] S (sv_up (sv_up S 1007 0 (0 : Int)) 1009 0 (0 : Int)) := sv_mod.up md3 (by decide)
  refine sv_aload_n hM dX12_firstNames_10 rfl rfl ?_
  refine sv_iconst (d := (0 : Int)) hM dX12_firstNames_11 rfl rfl ?_
  refine sv_putI sm_X hM dX12_firstNames_12 sm_fp_299 (sm_a0 _) sm_q11 (Or.inl rfl) rfl rfl rfl rfl ?_
  have ok6 : sm_ok (sv_up (sv_up (sv_up S 1007 0 (0 : Int)) 1009 0 (0 : Int)) 1011 0 (0 : Int)) := sm_upI ok4 sm_r1011 (⟨by decide, by decide⟩ : sv_R (0 : Int))
  have md7 : sv_mod [1007, 1009, 1011, 5, 3, 4] S (sv_up (sv_up (sv_up S 1007 0 (0 : Int)) 1009 0 (0 : Int)) 1011 0 (0 : Int)) := sv_mod.up md5 (by decide)
  refine sv_iconst (d := (0 : Int)) hM dX12_firstNames_15 rfl rfl ?_
  refine sv_istore_n hM dX12_firstNames_16 (by decide) rfl ?_
  show sv_T sm_XS sm_cs sm_L sm_sh 4 (q_firstNames S) 9 17 [(0, .ref 0), (1, sv_I (0 : Int))] [] (sv_up (sv_up (sv_up S 1007 0 (0 : Int)) 1009 0 (0 : Int)) 1011 0 (0 : Int))
  obtain ⟨hin11, h⟩ := h
  have hJ : ∀ a : Int × sv_S, (sv_R a.1 ∧ sm_ok (sv_sts (sv_up (sv_up (sv_up S 1007 0 (0 : Int)) 1009 0 (0 : Int)) 1011 0 (0 : Int)) [1007, 1011, 5, 3, 4] a.2) ∧ (0 ≤ a.1 ∧ a.1 ≤ 230 ∧ (a.2 1007 0) = sm_spi a.1 ∧ (a.2 1011 0) = sm_tli a.1 ∧ (0 : Int) = 0 ∧ sm_LN (a.2 4) 400 (a.2 1007 0))) → sv_T sm_XS sm_cs sm_L sm_sh 4 (q_firstNames S) 9 17 [(0, .ref 0), (1, sv_I a.1)] [] (sv_sts (sv_up (sv_up (sv_up S 1007 0 (0 : Int)) 1009 0 (0 : Int)) 1011 0 (0 : Int)) [1007, 1011, 5, 3, 4] a.2) := by
    refine sv_loop (α := Int × sv_S) (fun a => sv_R a.1 ∧ sm_ok (sv_sts (sv_up (sv_up (sv_up S 1007 0 (0 : Int)) 1009 0 (0 : Int)) 1011 0 (0 : Int)) [1007, 1011, 5, 3, 4] a.2) ∧ (0 ≤ a.1 ∧ a.1 ≤ 230 ∧ (a.2 1007 0) = sm_spi a.1 ∧ (a.2 1011 0) = sm_tli a.1 ∧ (0 : Int) = 0 ∧ sm_LN (a.2 4) 400 (a.2 1007 0))) (fun a => 230 - a.1) (fun a => sv_T sm_XS sm_cs sm_L sm_sh 4 (q_firstNames S) 9 17 [(0, .ref 0), (1, sv_I a.1)] [] (sv_sts (sv_up (sv_up (sv_up S 1007 0 (0 : Int)) 1009 0 (0 : Int)) 1011 0 (0 : Int)) [1007, 1011, 5, 3, 4] a.2)) (fun a q => (h a.1 q.1 a.2 q.2.2).1) (fun a q ih10 => ?_)
    obtain ⟨l1_9, g8⟩ := a
    obtain ⟨hl1_9, ok12, hin11i⟩ := q
    have h := (h l1_9 hl1_9 g8 hin11i).2
    show sv_T sm_XS sm_cs sm_L sm_sh 4 (q_firstNames S) 9 17 [(0, .ref 0), (1, sv_I l1_9)] [] (sv_sts (sv_up (sv_up (sv_up S 1007 0 (0 : Int)) 1009 0 (0 : Int)) 1011 0 (0 : Int)) [1007, 1011, 5, 3, 4] g8)
    have md13 : sv_mod [1007, 1009, 1011, 5, 3, 4] S (sv_sts (sv_up (sv_up (sv_up S 1007 0 (0 : Int)) 1009 0 (0 : Int)) 1011 0 (0 : Int)) [1007, 1011, 5, 3, 4] g8) := sv_mod.sts md7 (by decide)
    have md14 : sv_mod [1007, 1011, 5, 3, 4] (sv_up (sv_up (sv_up S 1007 0 (0 : Int)) 1009 0 (0 : Int)) 1011 0 (0 : Int)) (sv_sts (sv_up (sv_up (sv_up S 1007 0 (0 : Int)) 1009 0 (0 : Int)) 1011 0 (0 : Int)) [1007, 1011, 5, 3, 4] g8) := sv_mod.sts sv_mod.rf (by decide)
    have k15 : (0 ≤ l1_9 → l1_9 < 230 → 0 ≤ sm_c900 l1_9 ∧ sm_c900 l1_9 ≤ 127 ∧ 0 ≤ sm_spi l1_9 ∧ sm_spi l1_9 ≤ 30 ∧ 0 ≤ sm_tli l1_9 ∧ sm_tli l1_9 ≤ 18 ∧ (sm_c900 l1_9 = 32 → sm_spi (l1_9 + 1) = sm_spi l1_9 + 1 ∧ sm_tli (l1_9 + 1) = 0) ∧ (¬ sm_c900 l1_9 = 32 → sm_spi (l1_9 + 1) = sm_spi l1_9 ∧ sm_tli (l1_9 + 1) = sm_tli l1_9 + 1)) := sm_w900 l1_9
    have h := h k15
    have k16 : (0 ≤ l1_9 → l1_9 < 230 → sm_c900 l1_9 = 32 → sm_spi l1_9 = 0 → sm_tli l1_9 = 6) := sm_f900 l1_9
    have h := h k16
    have k17 : (l1_9 = 230 → sm_spi l1_9 = 31 ∧ sm_tli l1_9 = 0) := fun e => by rw [e]; exact sm_v900.2.2
    have h := h k17
    refine sv_iload_n hM dX12_firstNames_17 rfl rfl ?_
    refine sv_ldc_wA hM dX12_firstNames_18 sm_ck_313 rfl ?_
    refine sv_strlen hM dX12_firstNames_21 sm_iv_315 (bs := sm_s900) sm_x900 sm_h1001 (Nat.le_of_ble_eq_true rfl) (Nat.le_of_ble_eq_true rfl) rfl (r := (230 : Int)) sm_z900 ?_
    refine sv_icmp_ge hM dX12_firstNames_24 hl1_9 (⟨by decide, by decide⟩ : sv_R (230 : Int)) (t := 69) rfl rfl (fun hc => ?_) (fun hc => ?_)
    · have h := h.1 (hc)
      exact sv_vret hM dX12_firstNames_69 rfl ⟨rfl, ok12, md13, h⟩
    · have h := h.2 (hc)
      refine sv_ldc_wA hM dX12_firstNames_27 sm_ck_313 rfl ?_
      refine sv_iload_n hM dX12_firstNames_30 rfl rfl ?_
      obtain ⟨o19, h⟩ := h
      obtain ⟨r18, hr18, er18⟩ : ∃ r : Int, sv_R r ∧ (sm_c900 l1_9) = r := ⟨_, sv_RI (sm_s900.getD (l1_9).toNat 0), rfl⟩
      have h := h r18 hr18 er18
      refine sv_charAt hM dX12_firstNames_31 sm_iv_320 (bs := sm_s900) sm_x900 sm_h1000 o19.1 (by rw [sm_z900]; exact o19.2) sm_y900 (Nat.le_of_ble_eq_true rfl) (Nat.le_of_ble_eq_true rfl) rfl er18 ?_
      refine sv_bipush (d := (32 : Int)) hM dX12_firstNames_34 rfl rfl ?_
      refine sv_icmp_eq hM dX12_firstNames_36 hr18 (⟨by decide, by decide⟩ : sv_R (32 : Int)) (t := 53) rfl rfl (fun hc => ?_) (fun hc => ?_)
      · have h := h.1 (hc)
        refine sv_aload_n hM dX12_firstNames_53 rfl rfl ?_
        obtain ⟨o20, h⟩ := h
        refine sv_callV hM dX12_firstNames_54 sm_iv_310 (by decide) (sm_a0 _) rfl rfl (Nat.le_of_ble_eq_true rfl) sm_h6 (Nat.le_of_ble_eq_true rfl) (Nat.le_of_ble_eq_true rfl) (F' := 0) (Nat.le_of_ble_eq_true rfl) rfl (t_addText  (sv_sts (sv_up (sv_up (sv_up S 1007 0 (0 : Int)) 1009 0 (0 : Int)) 1011 0 (0 : Int)) [1007, 1011, 5, 3, 4] g8) ok12 o20) (fun v S1 hq => ?_)
        obtain ⟨r25, rfl, hr25, ok22, md23, hpo24⟩ := hq
        obtain ⟨g21, rfl⟩ : ∃ g, S1 = sv_sts (sv_sts (sv_up (sv_up (sv_up S 1007 0 (0 : Int)) 1009 0 (0 : Int)) 1011 0 (0 : Int)) [1007, 1011, 5, 3, 4] g8) [3, 4, 1007] g := ⟨_, md23.eq⟩
        show sv_T sm_XS sm_cs sm_L sm_sh 4 (q_firstNames S) 9 57 [(0, .ref 0), (1, sv_I l1_9)] [sv_I r25] (sv_sts (sv_sts (sv_up (sv_up (sv_up S 1007 0 (0 : Int)) 1009 0 (0 : Int)) 1011 0 (0 : Int)) [1007, 1011, 5, 3, 4] g8) [3, 4, 1007] g21)
        have md26 : sv_mod [1007, 1009, 1011, 5, 3, 4] S (sv_sts (sv_sts (sv_up (sv_up (sv_up S 1007 0 (0 : Int)) 1009 0 (0 : Int)) 1011 0 (0 : Int)) [1007, 1011, 5, 3, 4] g8) [3, 4, 1007] g21) := sv_mod.sts md13 (by decide)
        have md27 : sv_mod [1007, 1011, 5, 3, 4] (sv_up (sv_up (sv_up S 1007 0 (0 : Int)) 1009 0 (0 : Int)) 1011 0 (0 : Int)) (sv_sts (sv_sts (sv_up (sv_up (sv_up S 1007 0 (0 : Int)) 1009 0 (0 : Int)) 1011 0 (0 : Int)) [1007, 1011, 5, 3, 4] g8) [3, 4, 1007] g21) := sv_mod.sts md14 (by decide)
        have h := h r25 hr25 g21 hpo24
        refine sv_istore_n hM dX12_firstNames_57 (by decide) rfl ?_
        show sv_T sm_XS sm_cs sm_L sm_sh 4 (q_firstNames S) 9 58 [(0, .ref 0), (1, sv_I l1_9), (2, sv_I r25)] [] (sv_sts (sv_sts (sv_up (sv_up (sv_up S 1007 0 (0 : Int)) 1009 0 (0 : Int)) 1011 0 (0 : Int)) [1007, 1011, 5, 3, 4] g8) [3, 4, 1007] g21)
        refine sv_aload_n hM dX12_firstNames_58 rfl rfl ?_
        refine sv_iconst (d := (0 : Int)) hM dX12_firstNames_59 rfl rfl ?_
        refine sv_putI sm_X hM dX12_firstNames_60 sm_fp_299 (sm_a0 _) sm_q11 (Or.inl rfl) rfl rfl rfl rfl ?_
        have ok28 : sm_ok (sv_up (sv_sts (sv_sts (sv_up (sv_up (sv_up S 1007 0 (0 : Int)) 1009 0 (0 : Int)) 1011 0 (0 : Int)) [1007, 1011, 5, 3, 4] g8) [3, 4, 1007] g21) 1011 0 (0 : Int)) := sm_upI ok22 sm_r1011 (⟨by decide, by decide⟩ : sv_R (0 : Int))
        have md29 : sv_mod [1007, 1009, 1011, 5, 3, 4] S (sv_up (sv_sts (sv_sts (sv_up (sv_up (sv_up S 1007 0 (0 : Int)) 1009 0 (0 : Int)) 1011 0 (0 : Int)) [1007, 1011, 5, 3, 4] g8) [3, 4, 1007] g21) 1011 0 (0 : Int)) := sv_mod.up md26 (by decide)
        have md30 : sv_mod [1007, 1011, 5, 3, 4] (sv_up (sv_up (sv_up S 1007 0 (0 : Int)) 1009 0 (0 : Int)) 1011 0 (0 : Int)) (sv_up (sv_sts (sv_sts (sv_up (sv_up (sv_up S 1007 0 (0 : Int)) 1009 0 (0 : Int)) 1011 0 (0 : Int)) [1007, 1011, 5, 3, 4] g8) [3, 4, 1007] g21) 1011 0 (0 : Int)) := sv_mod.up md27 (by decide)
        refine sv_iinc (d := (1 : Int)) hM dX12_firstNames_63 rfl (by decide) rfl rfl ?_
        show sv_T sm_XS sm_cs sm_L sm_sh 4 (q_firstNames S) 9 66 [(0, .ref 0), (1, sv_I (l1_9 + (1 : Int))), (2, sv_I r25)] [] (sv_up (sv_sts (sv_sts (sv_up (sv_up (sv_up S 1007 0 (0 : Int)) 1009 0 (0 : Int)) 1011 0 (0 : Int)) [1007, 1011, 5, 3, 4] g8) [3, 4, 1007] g21) 1011 0 (0 : Int))
        refine sv_goto hM dX12_firstNames_66 (pc' := 17) rfl ?_
        obtain ⟨o31, h⟩ := h
        have eS := sv_mod.eq md30
        have hb := ih10 ((l1_9 + (1 : Int)), (sv_up (sv_sts (sv_sts (sv_up (sv_up (sv_up S 1007 0 (0 : Int)) 1009 0 (0 : Int)) 1011 0 (0 : Int)) [1007, 1011, 5, 3, 4] g8) [3, 4, 1007] g21) 1011 0 (0 : Int))) ⟨o31, (by rw [← eS]; exact ok28), h.1⟩ h.2
        have hb : sv_T sm_XS sm_cs sm_L sm_sh 4 (q_firstNames S) 9 17 [(0, .ref 0), (1, sv_I (l1_9 + (1 : Int)))] [] (sv_up (sv_sts (sv_sts (sv_up (sv_up (sv_up S 1007 0 (0 : Int)) 1009 0 (0 : Int)) 1011 0 (0 : Int)) [1007, 1011, 5, 3, 4] g8) [3, 4, 1007] g21) 1011 0 (0 : Int)) := Eq.mpr (congrArg (fun Z => sv_T sm_XS sm_cs sm_L sm_sh 4 (q_firstNames S) 9 17 [(0, .ref 0), (1, sv_I (l1_9 + (1 : Int)))] [] Z) eS) hb
        exact sv_less (lv := [(0, .ref 0), (1, sv_I (l1_9 + (1 : Int)))]) (sv_Sub_cons rfl (sv_Sub_cons rfl sv_Sub_nil)) hb
      · have h := h.2 (hc)
        refine sv_aload_n hM dX12_firstNames_39 rfl rfl ?_
        refine sv_ldc_wA hM dX12_firstNames_40 sm_ck_313 rfl ?_
        refine sv_iload_n hM dX12_firstNames_43 rfl rfl ?_
        obtain ⟨r32, hr32, er32⟩ : ∃ r : Int, sv_R r ∧ (sm_c900 l1_9) = r := ⟨_, sv_RI (sm_s900.getD (l1_9).toNat 0), rfl⟩
        have h := h r32 hr32 er32
        refine sv_charAt hM dX12_firstNames_44 sm_iv_320 (bs := sm_s900) sm_x900 sm_h1000 o19.1 (by rw [sm_z900]; exact o19.2) sm_y900 (Nat.le_of_ble_eq_true rfl) (Nat.le_of_ble_eq_true rfl) rfl er32 ?_
        obtain ⟨o33, h⟩ := h
        refine sv_callV hM dX12_firstNames_47 sm_iv_324 (by decide) (sm_a0 _) rfl rfl (Nat.le_of_ble_eq_true rfl) sm_h7 (Nat.le_of_ble_eq_true rfl) (Nat.le_of_ble_eq_true rfl) (F' := 0) (Nat.le_of_ble_eq_true rfl) rfl (t_put r32 (sv_sts (sv_up (sv_up (sv_up S 1007 0 (0 : Int)) 1009 0 (0 : Int)) 1011 0 (0 : Int)) [1007, 1011, 5, 3, 4] g8) ok12 hr32 o33) (fun v S1 hq => ?_)
        obtain ⟨rfl, ok35, md36, hpo37⟩ := hq
        obtain ⟨g34, rfl⟩ : ∃ g, S1 = sv_sts (sv_sts (sv_up (sv_up (sv_up S 1007 0 (0 : Int)) 1009 0 (0 : Int)) 1011 0 (0 : Int)) [1007, 1011, 5, 3, 4] g8) [5, 1011] g := ⟨_, md36.eq⟩
        show sv_T sm_XS sm_cs sm_L sm_sh 4 (q_firstNames S) 9 50 [(0, .ref 0), (1, sv_I l1_9)] [] (sv_sts (sv_sts (sv_up (sv_up (sv_up S 1007 0 (0 : Int)) 1009 0 (0 : Int)) 1011 0 (0 : Int)) [1007, 1011, 5, 3, 4] g8) [5, 1011] g34)
        have md38 : sv_mod [1007, 1009, 1011, 5, 3, 4] S (sv_sts (sv_sts (sv_up (sv_up (sv_up S 1007 0 (0 : Int)) 1009 0 (0 : Int)) 1011 0 (0 : Int)) [1007, 1011, 5, 3, 4] g8) [5, 1011] g34) := sv_mod.sts md13 (by decide)
        have md39 : sv_mod [1007, 1011, 5, 3, 4] (sv_up (sv_up (sv_up S 1007 0 (0 : Int)) 1009 0 (0 : Int)) 1011 0 (0 : Int)) (sv_sts (sv_sts (sv_up (sv_up (sv_up S 1007 0 (0 : Int)) 1009 0 (0 : Int)) 1011 0 (0 : Int)) [1007, 1011, 5, 3, 4] g8) [5, 1011] g34) := sv_mod.sts md14 (by decide)
        have h := h g34 hpo37
        refine sv_goto hM dX12_firstNames_50 (pc' := 63) rfl ?_
        refine sv_iinc (d := (1 : Int)) hM dX12_firstNames_63 rfl (by decide) rfl rfl ?_
        show sv_T sm_XS sm_cs sm_L sm_sh 4 (q_firstNames S) 9 66 [(0, .ref 0), (1, sv_I (l1_9 + (1 : Int)))] [] (sv_sts (sv_sts (sv_up (sv_up (sv_up S 1007 0 (0 : Int)) 1009 0 (0 : Int)) 1011 0 (0 : Int)) [1007, 1011, 5, 3, 4] g8) [5, 1011] g34)
        refine sv_goto hM dX12_firstNames_66 (pc' := 17) rfl ?_
        obtain ⟨o40, h⟩ := h
        have eS := sv_mod.eq md39
        have hb := ih10 ((l1_9 + (1 : Int)), (sv_sts (sv_sts (sv_up (sv_up (sv_up S 1007 0 (0 : Int)) 1009 0 (0 : Int)) 1011 0 (0 : Int)) [1007, 1011, 5, 3, 4] g8) [5, 1011] g34)) ⟨o40, (by rw [← eS]; exact ok35), h.1⟩ h.2
        have hb : sv_T sm_XS sm_cs sm_L sm_sh 4 (q_firstNames S) 9 17 [(0, .ref 0), (1, sv_I (l1_9 + (1 : Int)))] [] (sv_sts (sv_sts (sv_up (sv_up (sv_up S 1007 0 (0 : Int)) 1009 0 (0 : Int)) 1011 0 (0 : Int)) [1007, 1011, 5, 3, 4] g8) [5, 1011] g34) := Eq.mpr (congrArg (fun Z => sv_T sm_XS sm_cs sm_L sm_sh 4 (q_firstNames S) 9 17 [(0, .ref 0), (1, sv_I (l1_9 + (1 : Int)))] [] Z) eS) hb
        exact sv_less (lv := [(0, .ref 0), (1, sv_I (l1_9 + (1 : Int)))]) (sv_Sub_cons rfl (sv_Sub_cons rfl sv_Sub_nil)) hb
  have eS := sv_mod.eq (sv_mod.rf (l := [1007, 1011, 5, 3, 4]) (S := (sv_up (sv_up (sv_up S 1007 0 (0 : Int)) 1009 0 (0 : Int)) 1011 0 (0 : Int))))
  have hb := hJ ((0 : Int), (sv_up (sv_up (sv_up S 1007 0 (0 : Int)) 1009 0 (0 : Int)) 1011 0 (0 : Int))) ⟨(⟨by decide, by decide⟩ : sv_R (0 : Int)), (by rw [← eS]; exact ok6), hin11⟩
  have hb : sv_T sm_XS sm_cs sm_L sm_sh 4 (q_firstNames S) 9 17 [(0, .ref 0), (1, sv_I (0 : Int))] [] (sv_up (sv_up (sv_up S 1007 0 (0 : Int)) 1009 0 (0 : Int)) 1011 0 (0 : Int)) := Eq.mpr (congrArg (fun Z => sv_T sm_XS sm_cs sm_L sm_sh 4 (q_firstNames S) 9 17 [(0, .ref 0), (1, sv_I (0 : Int))] [] Z) eS) hb
  exact hb
