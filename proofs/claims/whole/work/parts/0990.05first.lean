theorem dX12_firstNames_0 : decode cX12_firstNames 0 = .ok (.aload_n 0, 1) := by decide +kernel
theorem dX12_firstNames_1 : decode cX12_firstNames 1 = .ok (.iconst 0, 1) := by decide +kernel
theorem dX12_firstNames_2 : decode cX12_firstNames 2 = .ok (.putfield 296, 3) := by decide +kernel
theorem dX12_firstNames_5 : decode cX12_firstNames 5 = .ok (.aload_n 0, 1) := by decide +kernel
theorem dX12_firstNames_6 : decode cX12_firstNames 6 = .ok (.iconst 0, 1) := by decide +kernel
theorem dX12_firstNames_7 : decode cX12_firstNames 7 = .ok (.putfield 306, 3) := by decide +kernel
theorem dX12_firstNames_10 : decode cX12_firstNames 10 = .ok (.aload_n 0, 1) := by decide +kernel
theorem dX12_firstNames_11 : decode cX12_firstNames 11 = .ok (.iconst 0, 1) := by decide +kernel
theorem dX12_firstNames_12 : decode cX12_firstNames 12 = .ok (.putfield 299, 3) := by decide +kernel
theorem dX12_firstNames_15 : decode cX12_firstNames 15 = .ok (.iconst 0, 1) := by decide +kernel
theorem dX12_firstNames_16 : decode cX12_firstNames 16 = .ok (.istore_n 1, 1) := by decide +kernel
theorem dX12_firstNames_17 : decode cX12_firstNames 17 = .ok (.iload_n 1, 1) := by decide +kernel
theorem dX12_firstNames_18 : decode cX12_firstNames 18 = .ok (.ldc_w 313, 3) := by decide +kernel
theorem dX12_firstNames_21 : decode cX12_firstNames 21 = .ok (.invokevirtual 315, 3) := by decide +kernel
theorem dX12_firstNames_24 : decode cX12_firstNames 24 = .ok (.if_icmp .ge 45, 3) := by decide +kernel
theorem dX12_firstNames_27 : decode cX12_firstNames 27 = .ok (.ldc_w 313, 3) := by decide +kernel
theorem dX12_firstNames_30 : decode cX12_firstNames 30 = .ok (.iload_n 1, 1) := by decide +kernel
theorem dX12_firstNames_31 : decode cX12_firstNames 31 = .ok (.invokevirtual 320, 3) := by decide +kernel
theorem dX12_firstNames_34 : decode cX12_firstNames 34 = .ok (.bipush 32, 2) := by decide +kernel
theorem dX12_firstNames_36 : decode cX12_firstNames 36 = .ok (.if_icmp .eq 17, 3) := by decide +kernel
theorem dX12_firstNames_39 : decode cX12_firstNames 39 = .ok (.aload_n 0, 1) := by decide +kernel
theorem dX12_firstNames_40 : decode cX12_firstNames 40 = .ok (.ldc_w 313, 3) := by decide +kernel
theorem dX12_firstNames_43 : decode cX12_firstNames 43 = .ok (.iload_n 1, 1) := by decide +kernel
theorem dX12_firstNames_44 : decode cX12_firstNames 44 = .ok (.invokevirtual 320, 3) := by decide +kernel
theorem dX12_firstNames_47 : decode cX12_firstNames 47 = .ok (.invokevirtual 324, 3) := by decide +kernel
theorem dX12_firstNames_50 : decode cX12_firstNames 50 = .ok (.goto 13, 3) := by decide +kernel
theorem dX12_firstNames_53 : decode cX12_firstNames 53 = .ok (.aload_n 0, 1) := by decide +kernel
theorem dX12_firstNames_54 : decode cX12_firstNames 54 = .ok (.invokevirtual 310, 3) := by decide +kernel
theorem dX12_firstNames_57 : decode cX12_firstNames 57 = .ok (.istore_n 2, 1) := by decide +kernel
theorem dX12_firstNames_58 : decode cX12_firstNames 58 = .ok (.aload_n 0, 1) := by decide +kernel
theorem dX12_firstNames_59 : decode cX12_firstNames 59 = .ok (.iconst 0, 1) := by decide +kernel
theorem dX12_firstNames_60 : decode cX12_firstNames 60 = .ok (.putfield 299, 3) := by decide +kernel
theorem dX12_firstNames_63 : decode cX12_firstNames 63 = .ok (.iinc 1 1, 3) := by decide +kernel
theorem dX12_firstNames_66 : decode cX12_firstNames 66 = .ok (.goto (-49), 3) := by decide +kernel
theorem dX12_firstNames_69 : decode cX12_firstNames 69 = .ok (.return_, 1) := by decide +kernel
theorem sm_c900_r (x : Int) : sv_R (sm_c900 x) := sv_RI _
def sm_sp (n : Nat) : Nat := ((sm_s900.take n).filter (fun c => c == 32)).length
def sm_tl (n : Nat) : Nat := ((sm_s900.take n).reverse.takeWhile (fun c => !(c == 32))).length
theorem sm_spt : ∀ n : Fin 230, 0 ≤ (sm_s900.getD n.val 0).toInt ∧ (sm_s900.getD n.val 0).toInt ≤ 127 ∧ sm_sp n.val ≤ 30 ∧ sm_tl n.val ≤ 18 ∧ ((sm_s900.getD n.val 0).toInt = 32 → sm_sp (n.val + 1) = sm_sp n.val + 1 ∧ sm_tl (n.val + 1) = 0) ∧ (¬ (sm_s900.getD n.val 0).toInt = 32 → sm_sp (n.val + 1) = sm_sp n.val ∧ sm_tl (n.val + 1) = sm_tl n.val + 1) := by decide +kernel
def sm_spi (x : Int) : Int := sm_sp x.toNat
def sm_tli (x : Int) : Int := sm_tl x.toNat
theorem sm_w900 (x : Int) (h0 : 0 ≤ x) (h1 : x < 230) : 0 ≤ sm_c900 x ∧ sm_c900 x ≤ 127 ∧ 0 ≤ sm_spi x ∧ sm_spi x ≤ 30 ∧ 0 ≤ sm_tli x ∧ sm_tli x ≤ 18 ∧ (sm_c900 x = 32 → sm_spi (x + 1) = sm_spi x + 1 ∧ sm_tli (x + 1) = 0) ∧ (¬ sm_c900 x = 32 → sm_spi (x + 1) = sm_spi x ∧ sm_tli (x + 1) = sm_tli x + 1) := by
  have h := sm_spt ⟨x.toNat, by omega⟩
  have e : (x + 1).toNat = x.toNat + 1 := by omega
  unfold sm_c900 sm_spi sm_tli
  rw [e]
  simp only at h
  obtain ⟨a1, a2, a3, a4, a5, a6⟩ := h
  exact ⟨a1, a2, by omega, by omega, by omega, by omega, fun q => by have := a5 q; omega, fun q => by have := a6 q; omega⟩
theorem sm_v900 : sm_spi 0 = 0 ∧ sm_tli 0 = 0 ∧ sm_spi 230 = 31 ∧ sm_tli 230 = 0 := by decide +kernel

def q_firstNames (S : sv_S) : Option Value → sv_S → Prop := fun v S' => v = none ∧ sm_ok S' ∧ sv_mod [1007, 1009, 1011, 5, 3, 4] S S' ∧ ((S' 1007 0) = 31 ∧ (S' 1009 0) = 0 ∧ 0 ≤ (S' 1011 0) ∧ (S' 1011 0) ≤ 200 ∧ sm_LN (S' 4) 400)
set_option maxHeartbeats 2000000 in
theorem f_firstNames : ∀ (S : sv_S), sm_ok S → (sm_LN (S 4) 400) → ((0 ≤ (0 : Int) ∧ (0 : Int) ≤ 230 ∧ (0 : Int) = sm_spi (0 : Int) ∧ (0 : Int) = sm_tli (0 : Int) ∧ (0 : Int) = 0 ∧ sm_LN (S 4) 400) ∧ (∀ l1_8 : Int, sv_R l1_8 → ∀ g7 : sv_S, (0 ≤ l1_8 ∧ l1_8 ≤ 230 ∧ (g7 1007 0) = sm_spi l1_8 ∧ (g7 1011 0) = sm_tli l1_8 ∧ (0 : Int) = 0 ∧ sm_LN (g7 4) 400) → (0 ≤ 230 - l1_8) ∧ ((0 ≤ l1_8 → l1_8 < 230 → 0 ≤ sm_c900 l1_8 ∧ sm_c900 l1_8 ≤ 127 ∧ 0 ≤ sm_spi l1_8 ∧ sm_spi l1_8 ≤ 30 ∧ 0 ≤ sm_tli l1_8 ∧ sm_tli l1_8 ≤ 18 ∧ (sm_c900 l1_8 = 32 → sm_spi (l1_8 + 1) = sm_spi l1_8 + 1 ∧ sm_tli (l1_8 + 1) = 0) ∧ (¬ sm_c900 l1_8 = 32 → sm_spi (l1_8 + 1) = sm_spi l1_8 ∧ sm_tli (l1_8 + 1) = sm_tli l1_8 + 1)) → ((((230 : Int) ≤ l1_8) → ((g7 1007 0) = 31 ∧ (0 : Int) = 0 ∧ 0 ≤ (g7 1011 0) ∧ (g7 1011 0) ≤ 200 ∧ sm_LN (g7 4) 400)) ∧ ((¬ ((230 : Int) ≤ l1_8)) → (0 ≤ l1_8 ∧ l1_8 < 230) ∧ (∀ r15 : Int, sv_R r15 → (sm_c900 l1_8) = r15 → (((r15 = (32 : Int)) → (0 ≤ (g7 1007 0) ∧ (g7 1007 0) < 400 ∧ 0 ≤ (g7 1011 0) ∧ (g7 1011 0) ≤ 90 ∧ 60 * (g7 1007 0) + (g7 1011 0) ≤ 24000) ∧ (∀ r22 : Int, sv_R r22 → ∀ g18 : sv_S, (r22 = (g7 1007 0) ∧ (g18 1007 0) = (g7 1007 0) + 1 ∧ (sm_LN (g7 4) 400 → sm_LN (g18 4) 400)) → (sv_R (l1_8 + (1 : Int))) ∧ ((0 ≤ (l1_8 + (1 : Int)) ∧ (l1_8 + (1 : Int)) ≤ 230 ∧ (g18 1007 0) = sm_spi (l1_8 + (1 : Int)) ∧ (0 : Int) = sm_tli (l1_8 + (1 : Int)) ∧ (0 : Int) = 0 ∧ sm_LN (g18 4) 400) ∧ (230 - (l1_8 + (1 : Int))) < (230 - l1_8)))) ∧ ((¬ (r15 = (32 : Int))) → (∀ r29 : Int, sv_R r29 → (sm_c900 l1_8) = r29 → (0 ≤ (g7 1011 0) ∧ (g7 1011 0) < 200 ∧ 0 ≤ r29 ∧ r29 ≤ 65535) ∧ (∀ g31 : sv_S, ((g31 1011 0) = (g7 1011 0) + 1) → (sv_R (l1_8 + (1 : Int))) ∧ ((0 ≤ (l1_8 + (1 : Int)) ∧ (l1_8 + (1 : Int)) ≤ 230 ∧ (g7 1007 0) = sm_spi (l1_8 + (1 : Int)) ∧ (g31 1011 0) = sm_tli (l1_8 + (1 : Int)) ∧ (0 : Int) = 0 ∧ sm_LN (g7 4) 400) ∧ (230 - (l1_8 + (1 : Int))) < (230 - l1_8)))))))))))) := by
  intro S hok hpre
  have hv := sm_v900
  repeat' (first | (with_reducible refine And.intro ?_ ?_) | (with_reducible intro _))
  all_goals first | assumption | omega | grind | exact sm_LN_0 | grind [sm_LN]
set_option maxRecDepth 8000 in
set_option maxHeartbeats 2000000 in
theorem t_firstNames : ∀ (S : sv_S), sm_ok S → (sm_LN (S 4) 400) → sv_T sm_XS sm_cs sm_L sm_sh 4 (q_firstNames S) 9 0 (lv_args 0 [.ref 0]) [] S := by
  intro S hok hpre
  have h := f_firstNames S hok hpre
  have hM := sm_h9
  show sv_T sm_XS sm_cs sm_L sm_sh 4 (q_firstNames S) 9 0 [(0, .ref 0)] [] S
  refine sv_aload_n hM dX12_firstNames_0 rfl rfl ?_
  refine sv_iconst (d := (0 : Int)) hM dX12_firstNames_1 rfl rfl ?_
  refine sv_putI sm_X hM dX12_firstNames_2 sm_fp_296 (sm_a0 _) sm_q7 (Or.inl rfl) rfl rfl rfl rfl ?_
  have ok1 : sm_ok (sv_up S 1007 0 (0 : Int)) := sm_upI hok sm_r1007 (⟨by decide, by decide⟩ : sv_R (0 : Int))
  have md2 : sv_mod [1007, 1009, 1011, 5, 3, 4] S (sv_up S 1007 0 (0 : Int)) := sv_mod.up sv_mod.rf (by decide)
  refine sv_aload_n hM dX12_firstNames_5 rfl rfl ?_
  refine sv_iconst (d := (0 : Int)) hM dX12_firstNames_6 rfl rfl ?_
  refine sv_putI sm_X hM dX12_firstNames_7 sm_fp_306 (sm_a0 _) sm_q9 (Or.inr rfl) rfl (sv_nz (⟨by decide, by decide⟩ : 0 ≤ (0 : Int) ∧ (0 : Int) ≤ 1)) (sv_fz (⟨by decide, by decide⟩ : 0 ≤ (0 : Int) ∧ (0 : Int) ≤ 1)) rfl ?_
  have ok3 : sm_ok (sv_up (sv_up S 1007 0 (0 : Int)) 1009 0 (0 : Int)) := sm_upZ ok1 sm_r1009 (⟨by decide, by decide⟩ : 0 ≤ (0 : Int) ∧ (0 : Int) ≤ 1)
  have md4 : sv_mod [1007, 1009, 1011, 5, 3, 4] S (sv_up (sv_up S 1007 0 (0 : Int)) 1009 0 (0 : Int)) := sv_mod.up md2 (by decide)
  refine sv_aload_n hM dX12_firstNames_10 rfl rfl ?_
  refine sv_iconst (d := (0 : Int)) hM dX12_firstNames_11 rfl rfl ?_
  refine sv_putI sm_X hM dX12_firstNames_12 sm_fp_299 (sm_a0 _) sm_q11 (Or.inl rfl) rfl rfl rfl rfl ?_
  have ok5 : sm_ok (sv_up (sv_up (sv_up S 1007 0 (0 : Int)) 1009 0 (0 : Int)) 1011 0 (0 : Int)) := sm_upI ok3 sm_r1011 (⟨by decide, by decide⟩ : sv_R (0 : Int))
  have md6 : sv_mod [1007, 1009, 1011, 5, 3, 4] S (sv_up (sv_up (sv_up S 1007 0 (0 : Int)) 1009 0 (0 : Int)) 1011 0 (0 : Int)) := sv_mod.up md4 (by decide)
  refine sv_iconst (d := (0 : Int)) hM dX12_firstNames_15 rfl rfl ?_
  refine sv_istore_n hM dX12_firstNames_16 (by decide) rfl ?_
  show sv_T sm_XS sm_cs sm_L sm_sh 4 (q_firstNames S) 9 17 [(0, .ref 0), (1, sv_I (0 : Int))] [] (sv_up (sv_up (sv_up S 1007 0 (0 : Int)) 1009 0 (0 : Int)) 1011 0 (0 : Int))
  obtain ⟨hin10, h⟩ := h
  have hJ : ∀ a : Int × sv_S, (sv_R a.1 ∧ sm_ok (sv_sts (sv_up (sv_up (sv_up S 1007 0 (0 : Int)) 1009 0 (0 : Int)) 1011 0 (0 : Int)) [1007, 1011, 5, 3, 4] a.2) ∧ (0 ≤ a.1 ∧ a.1 ≤ 230 ∧ (a.2 1007 0) = sm_spi a.1 ∧ (a.2 1011 0) = sm_tli a.1 ∧ (0 : Int) = 0 ∧ sm_LN (a.2 4) 400)) → sv_T sm_XS sm_cs sm_L sm_sh 4 (q_firstNames S) 9 17 [(0, .ref 0), (1, sv_I a.1)] [] (sv_sts (sv_up (sv_up (sv_up S 1007 0 (0 : Int)) 1009 0 (0 : Int)) 1011 0 (0 : Int)) [1007, 1011, 5, 3, 4] a.2) := by
    refine sv_loop (α := Int × sv_S) (fun a => sv_R a.1 ∧ sm_ok (sv_sts (sv_up (sv_up (sv_up S 1007 0 (0 : Int)) 1009 0 (0 : Int)) 1011 0 (0 : Int)) [1007, 1011, 5, 3, 4] a.2) ∧ (0 ≤ a.1 ∧ a.1 ≤ 230 ∧ (a.2 1007 0) = sm_spi a.1 ∧ (a.2 1011 0) = sm_tli a.1 ∧ (0 : Int) = 0 ∧ sm_LN (a.2 4) 400)) (fun a => 230 - a.1) (fun a => sv_T sm_XS sm_cs sm_L sm_sh 4 (q_firstNames S) 9 17 [(0, .ref 0), (1, sv_I a.1)] [] (sv_sts (sv_up (sv_up (sv_up S 1007 0 (0 : Int)) 1009 0 (0 : Int)) 1011 0 (0 : Int)) [1007, 1011, 5, 3, 4] a.2)) (fun a q => (h a.1 q.1 a.2 q.2.2).1) (fun a q ih9 => ?_)
    obtain ⟨l1_8, g7⟩ := a
    obtain ⟨hl1_8, ok11, hin10i⟩ := q
    have h := (h l1_8 hl1_8 g7 hin10i).2
    show sv_T sm_XS sm_cs sm_L sm_sh 4 (q_firstNames S) 9 17 [(0, .ref 0), (1, sv_I l1_8)] [] (sv_sts (sv_up (sv_up (sv_up S 1007 0 (0 : Int)) 1009 0 (0 : Int)) 1011 0 (0 : Int)) [1007, 1011, 5, 3, 4] g7)
    have md12 : sv_mod [1007, 1009, 1011, 5, 3, 4] S (sv_sts (sv_up (sv_up (sv_up S 1007 0 (0 : Int)) 1009 0 (0 : Int)) 1011 0 (0 : Int)) [1007, 1011, 5, 3, 4] g7) := sv_mod.sts md6 (by decide)
    have md13 : sv_mod [1007, 1011, 5, 3, 4] (sv_up (sv_up (sv_up S 1007 0 (0 : Int)) 1009 0 (0 : Int)) 1011 0 (0 : Int)) (sv_sts (sv_up (sv_up (sv_up S 1007 0 (0 : Int)) 1009 0 (0 : Int)) 1011 0 (0 : Int)) [1007, 1011, 5, 3, 4] g7) := sv_mod.sts sv_mod.rf (by decide)
    have k14 : (0 ≤ l1_8 → l1_8 < 230 → 0 ≤ sm_c900 l1_8 ∧ sm_c900 l1_8 ≤ 127 ∧ 0 ≤ sm_spi l1_8 ∧ sm_spi l1_8 ≤ 30 ∧ 0 ≤ sm_tli l1_8 ∧ sm_tli l1_8 ≤ 18 ∧ (sm_c900 l1_8 = 32 → sm_spi (l1_8 + 1) = sm_spi l1_8 + 1 ∧ sm_tli (l1_8 + 1) = 0) ∧ (¬ sm_c900 l1_8 = 32 → sm_spi (l1_8 + 1) = sm_spi l1_8 ∧ sm_tli (l1_8 + 1) = sm_tli l1_8 + 1)) := sm_w900 l1_8
    have h := h k14
    refine sv_iload_n hM dX12_firstNames_17 rfl rfl ?_
    refine sv_ldc_wA hM dX12_firstNames_18 sm_ck_313 rfl ?_
    refine sv_strlen hM dX12_firstNames_21 sm_iv_315 (bs := sm_s900) sm_x900 sm_h1001 (Nat.le_of_ble_eq_true rfl) (Nat.le_of_ble_eq_true rfl) rfl (r := (230 : Int)) sm_z900 ?_
    refine sv_icmp_ge hM dX12_firstNames_24 hl1_8 (⟨by decide, by decide⟩ : sv_R (230 : Int)) (t := 69) rfl rfl (fun hc => ?_) (fun hc => ?_)
    · have h := h.1 (hc)
      exact sv_vret hM dX12_firstNames_69 rfl ⟨rfl, ok11, md12, h⟩
    · have h := h.2 (hc)
      refine sv_ldc_wA hM dX12_firstNames_27 sm_ck_313 rfl ?_
      refine sv_iload_n hM dX12_firstNames_30 rfl rfl ?_
      obtain ⟨o16, h⟩ := h
      obtain ⟨r15, hr15, er15⟩ : ∃ r : Int, sv_R r ∧ (sm_c900 l1_8) = r := ⟨_, sv_RI (sm_s900.getD (l1_8).toNat 0), rfl⟩
      have h := h r15 hr15 er15
      refine sv_charAt hM dX12_firstNames_31 sm_iv_320 (bs := sm_s900) sm_x900 sm_h1000 o16.1 (by rw [sm_z900]; exact o16.2) sm_y900 (Nat.le_of_ble_eq_true rfl) (Nat.le_of_ble_eq_true rfl) rfl er15 ?_
      refine sv_bipush (d := (32 : Int)) hM dX12_firstNames_34 rfl rfl ?_
      refine sv_icmp_eq hM dX12_firstNames_36 hr15 (⟨by decide, by decide⟩ : sv_R (32 : Int)) (t := 53) rfl rfl (fun hc => ?_) (fun hc => ?_)
      · have h := h.1 (hc)
        refine sv_aload_n hM dX12_firstNames_53 rfl rfl ?_
        obtain ⟨o17, h⟩ := h
        refine sv_callV hM dX12_firstNames_54 sm_iv_310 (by decide) (sm_a0 _) rfl rfl (Nat.le_of_ble_eq_true rfl) sm_h6 (Nat.le_of_ble_eq_true rfl) (Nat.le_of_ble_eq_true rfl) (F' := 0) (Nat.le_of_ble_eq_true rfl) rfl (t_addText  (sv_sts (sv_up (sv_up (sv_up S 1007 0 (0 : Int)) 1009 0 (0 : Int)) 1011 0 (0 : Int)) [1007, 1011, 5, 3, 4] g7) ok11 o17) (fun v S1 hq => ?_)
        obtain ⟨r22, rfl, hr22, ok19, md20, hpo21⟩ := hq
        obtain ⟨g18, rfl⟩ : ∃ g, S1 = sv_sts (sv_sts (sv_up (sv_up (sv_up S 1007 0 (0 : Int)) 1009 0 (0 : Int)) 1011 0 (0 : Int)) [1007, 1011, 5, 3, 4] g7) [3, 4, 1007] g := ⟨_, md20.eq⟩
        show sv_T sm_XS sm_cs sm_L sm_sh 4 (q_firstNames S) 9 57 [(0, .ref 0), (1, sv_I l1_8)] [sv_I r22] (sv_sts (sv_sts (sv_up (sv_up (sv_up S 1007 0 (0 : Int)) 1009 0 (0 : Int)) 1011 0 (0 : Int)) [1007, 1011, 5, 3, 4] g7) [3, 4, 1007] g18)
        have md23 : sv_mod [1007, 1009, 1011, 5, 3, 4] S (sv_sts (sv_sts (sv_up (sv_up (sv_up S 1007 0 (0 : Int)) 1009 0 (0 : Int)) 1011 0 (0 : Int)) [1007, 1011, 5, 3, 4] g7) [3, 4, 1007] g18) := sv_mod.sts md12 (by decide)
        have md24 : sv_mod [1007, 1011, 5, 3, 4] (sv_up (sv_up (sv_up S 1007 0 (0 : Int)) 1009 0 (0 : Int)) 1011 0 (0 : Int)) (sv_sts (sv_sts (sv_up (sv_up (sv_up S 1007 0 (0 : Int)) 1009 0 (0 : Int)) 1011 0 (0 : Int)) [1007, 1011, 5, 3, 4] g7) [3, 4, 1007] g18) := sv_mod.sts md13 (by decide)
        have h := h r22 hr22 g18 hpo21
        refine sv_istore_n hM dX12_firstNames_57 (by decide) rfl ?_
        show sv_T sm_XS sm_cs sm_L sm_sh 4 (q_firstNames S) 9 58 [(0, .ref 0), (1, sv_I l1_8), (2, sv_I r22)] [] (sv_sts (sv_sts (sv_up (sv_up (sv_up S 1007 0 (0 : Int)) 1009 0 (0 : Int)) 1011 0 (0 : Int)) [1007, 1011, 5, 3, 4] g7) [3, 4, 1007] g18)
        refine sv_aload_n hM dX12_firstNames_58 rfl rfl ?_
        refine sv_iconst (d := (0 : Int)) hM dX12_firstNames_59 rfl rfl ?_
        refine sv_putI sm_X hM dX12_firstNames_60 sm_fp_299 (sm_a0 _) sm_q11 (Or.inl rfl) rfl rfl rfl rfl ?_
        have ok25 : sm_ok (sv_up (sv_sts (sv_sts (sv_up (sv_up (sv_up S 1007 0 (0 : Int)) 1009 0 (0 : Int)) 1011 0 (0 : Int)) [1007, 1011, 5, 3, 4] g7) [3, 4, 1007] g18) 1011 0 (0 : Int)) := sm_upI ok19 sm_r1011 (⟨by decide, by decide⟩ : sv_R (0 : Int))
        have md26 : sv_mod [1007, 1009, 1011, 5, 3, 4] S (sv_up (sv_sts (sv_sts (sv_up (sv_up (sv_up S 1007 0 (0 : Int)) 1009 0 (0 : Int)) 1011 0 (0 : Int)) [1007, 1011, 5, 3, 4] g7) [3, 4, 1007] g18) 1011 0 (0 : Int)) := sv_mod.up md23 (by decide)
        have md27 : sv_mod [1007, 1011, 5, 3, 4] (sv_up (sv_up (sv_up S 1007 0 (0 : Int)) 1009 0 (0 : Int)) 1011 0 (0 : Int)) (sv_up (sv_sts (sv_sts (sv_up (sv_up (sv_up S 1007 0 (0 : Int)) 1009 0 (0 : Int)) 1011 0 (0 : Int)) [1007, 1011, 5, 3, 4] g7) [3, 4, 1007] g18) 1011 0 (0 : Int)) := sv_mod.up md24 (by decide)
        refine sv_iinc (d := (1 : Int)) hM dX12_firstNames_63 rfl (by decide) rfl rfl ?_
        show sv_T sm_XS sm_cs sm_L sm_sh 4 (q_firstNames S) 9 66 [(0, .ref 0), (1, sv_I (l1_8 + (1 : Int))), (2, sv_I r22)] [] (sv_up (sv_sts (sv_sts (sv_up (sv_up (sv_up S 1007 0 (0 : Int)) 1009 0 (0 : Int)) 1011 0 (0 : Int)) [1007, 1011, 5, 3, 4] g7) [3, 4, 1007] g18) 1011 0 (0 : Int))
        refine sv_goto hM dX12_firstNames_66 (pc' := 17) rfl ?_
        obtain ⟨o28, h⟩ := h
        have eS := sv_mod.eq md27
        have hb := ih9 ((l1_8 + (1 : Int)), (sv_up (sv_sts (sv_sts (sv_up (sv_up (sv_up S 1007 0 (0 : Int)) 1009 0 (0 : Int)) 1011 0 (0 : Int)) [1007, 1011, 5, 3, 4] g7) [3, 4, 1007] g18) 1011 0 (0 : Int))) ⟨o28, (by rw [← eS]; exact ok25), h.1⟩ h.2
        have hb : sv_T sm_XS sm_cs sm_L sm_sh 4 (q_firstNames S) 9 17 [(0, .ref 0), (1, sv_I (l1_8 + (1 : Int)))] [] (sv_up (sv_sts (sv_sts (sv_up (sv_up (sv_up S 1007 0 (0 : Int)) 1009 0 (0 : Int)) 1011 0 (0 : Int)) [1007, 1011, 5, 3, 4] g7) [3, 4, 1007] g18) 1011 0 (0 : Int)) := Eq.mpr (congrArg (fun Z => sv_T sm_XS sm_cs sm_L sm_sh 4 (q_firstNames S) 9 17 [(0, .ref 0), (1, sv_I (l1_8 + (1 : Int)))] [] Z) eS) hb
        exact sv_less (lv := [(0, .ref 0), (1, sv_I (l1_8 + (1 : Int)))]) (sv_Sub_cons rfl (sv_Sub_cons rfl sv_Sub_nil)) hb
      · have h := h.2 (hc)
        refine sv_aload_n hM dX12_firstNames_39 rfl rfl ?_
        refine sv_ldc_wA hM dX12_firstNames_40 sm_ck_313 rfl ?_
        refine sv_iload_n hM dX12_firstNames_43 rfl rfl ?_
        obtain ⟨r29, hr29, er29⟩ : ∃ r : Int, sv_R r ∧ (sm_c900 l1_8) = r := ⟨_, sv_RI (sm_s900.getD (l1_8).toNat 0), rfl⟩
        have h := h r29 hr29 er29
        refine sv_charAt hM dX12_firstNames_44 sm_iv_320 (bs := sm_s900) sm_x900 sm_h1000 o16.1 (by rw [sm_z900]; exact o16.2) sm_y900 (Nat.le_of_ble_eq_true rfl) (Nat.le_of_ble_eq_true rfl) rfl er29 ?_
        obtain ⟨o30, h⟩ := h
        refine sv_callV hM dX12_firstNames_47 sm_iv_324 (by decide) (sm_a0 _) rfl rfl (Nat.le_of_ble_eq_true rfl) sm_h7 (Nat.le_of_ble_eq_true rfl) (Nat.le_of_ble_eq_true rfl) (F' := 0) (Nat.le_of_ble_eq_true rfl) rfl (t_put r29 (sv_sts (sv_up (sv_up (sv_up S 1007 0 (0 : Int)) 1009 0 (0 : Int)) 1011 0 (0 : Int)) [1007, 1011, 5, 3, 4] g7) ok11 hr29 o30) (fun v S1 hq => ?_)
        obtain ⟨rfl, ok32, md33, hpo34⟩ := hq
        obtain ⟨g31, rfl⟩ : ∃ g, S1 = sv_sts (sv_sts (sv_up (sv_up (sv_up S 1007 0 (0 : Int)) 1009 0 (0 : Int)) 1011 0 (0 : Int)) [1007, 1011, 5, 3, 4] g7) [5, 1011] g := ⟨_, md33.eq⟩
        show sv_T sm_XS sm_cs sm_L sm_sh 4 (q_firstNames S) 9 50 [(0, .ref 0), (1, sv_I l1_8)] [] (sv_sts (sv_sts (sv_up (sv_up (sv_up S 1007 0 (0 : Int)) 1009 0 (0 : Int)) 1011 0 (0 : Int)) [1007, 1011, 5, 3, 4] g7) [5, 1011] g31)
        have md35 : sv_mod [1007, 1009, 1011, 5, 3, 4] S (sv_sts (sv_sts (sv_up (sv_up (sv_up S 1007 0 (0 : Int)) 1009 0 (0 : Int)) 1011 0 (0 : Int)) [1007, 1011, 5, 3, 4] g7) [5, 1011] g31) := sv_mod.sts md12 (by decide)
        have md36 : sv_mod [1007, 1011, 5, 3, 4] (sv_up (sv_up (sv_up S 1007 0 (0 : Int)) 1009 0 (0 : Int)) 1011 0 (0 : Int)) (sv_sts (sv_sts (sv_up (sv_up (sv_up S 1007 0 (0 : Int)) 1009 0 (0 : Int)) 1011 0 (0 : Int)) [1007, 1011, 5, 3, 4] g7) [5, 1011] g31) := sv_mod.sts md13 (by decide)
        have h := h g31 hpo34
        refine sv_goto hM dX12_firstNames_50 (pc' := 63) rfl ?_
        refine sv_iinc (d := (1 : Int)) hM dX12_firstNames_63 rfl (by decide) rfl rfl ?_
        show sv_T sm_XS sm_cs sm_L sm_sh 4 (q_firstNames S) 9 66 [(0, .ref 0), (1, sv_I (l1_8 + (1 : Int)))] [] (sv_sts (sv_sts (sv_up (sv_up (sv_up S 1007 0 (0 : Int)) 1009 0 (0 : Int)) 1011 0 (0 : Int)) [1007, 1011, 5, 3, 4] g7) [5, 1011] g31)
        refine sv_goto hM dX12_firstNames_66 (pc' := 17) rfl ?_
        obtain ⟨o37, h⟩ := h
        have eS := sv_mod.eq md36
        have hb := ih9 ((l1_8 + (1 : Int)), (sv_sts (sv_sts (sv_up (sv_up (sv_up S 1007 0 (0 : Int)) 1009 0 (0 : Int)) 1011 0 (0 : Int)) [1007, 1011, 5, 3, 4] g7) [5, 1011] g31)) ⟨o37, (by rw [← eS]; exact ok32), h.1⟩ h.2
        have hb : sv_T sm_XS sm_cs sm_L sm_sh 4 (q_firstNames S) 9 17 [(0, .ref 0), (1, sv_I (l1_8 + (1 : Int)))] [] (sv_sts (sv_sts (sv_up (sv_up (sv_up S 1007 0 (0 : Int)) 1009 0 (0 : Int)) 1011 0 (0 : Int)) [1007, 1011, 5, 3, 4] g7) [5, 1011] g31) := Eq.mpr (congrArg (fun Z => sv_T sm_XS sm_cs sm_L sm_sh 4 (q_firstNames S) 9 17 [(0, .ref 0), (1, sv_I (l1_8 + (1 : Int)))] [] Z) eS) hb
        exact sv_less (lv := [(0, .ref 0), (1, sv_I (l1_8 + (1 : Int)))]) (sv_Sub_cons rfl (sv_Sub_cons rfl sv_Sub_nil)) hb
  have eS := sv_mod.eq (sv_mod.rf (l := [1007, 1011, 5, 3, 4]) (S := (sv_up (sv_up (sv_up S 1007 0 (0 : Int)) 1009 0 (0 : Int)) 1011 0 (0 : Int))))
  have hb := hJ ((0 : Int), (sv_up (sv_up (sv_up S 1007 0 (0 : Int)) 1009 0 (0 : Int)) 1011 0 (0 : Int))) ⟨(⟨by decide, by decide⟩ : sv_R (0 : Int)), (by rw [← eS]; exact ok5), hin10⟩
  have hb : sv_T sm_XS sm_cs sm_L sm_sh 4 (q_firstNames S) 9 17 [(0, .ref 0), (1, sv_I (0 : Int))] [] (sv_up (sv_up (sv_up S 1007 0 (0 : Int)) 1009 0 (0 : Int)) 1011 0 (0 : Int)) := Eq.mpr (congrArg (fun Z => sv_T sm_XS sm_cs sm_L sm_sh 4 (q_firstNames S) 9 17 [(0, .ref 0), (1, sv_I (0 : Int))] [] Z) eS) hb
  exact hb
