set_option maxHeartbeats 8000000 in
set_option maxRecDepth 100000 in
theorem k_X12_feed (l : Launch) (dC : Nat → ClassId) (dI : Nat → Nat → Nat) (sz : Nat) (h0 : Nat) (ad : Nat → Nat) (c0 : ClassId) (f : Nat → Int32) (p0 p1 p2 p3 p4 : Int32) : Met l yX12_feed wsX12_feed ({ frames := 0, cells := 0, slots := 0, locals := 0 }) (va_Pc [.ref h0, .int p0, .int p1, .int p2, .int p3, .int p4] (fun U => U.heap.size = sz ∧ va_P (dC, dI) vwCl [(h0, .inr (14, m_obj ad)), ((ad 0), .inl (c0, 4000, .inl f))] U.heap ∧ va_K (dC, dI) vwCl [(c0, .byte)] U ∧ va_D (fun _ => True) [(h0, .inr (14, m_obj ad)), ((ad 0), .inl (c0, 4000, .inl f))])) (va_Qi (fun (r : Int32) (_ : Unit) => r = 20) (fun _ _ => True) (va_A [(h0, .inr (14, m_obj ad)), ((ad 0), .inl (c0, 4000, .inl f))] sz)) 0 0 (va_A [(h0, .inr (14, m_obj ad)), ((ad 0), .inl (c0, 4000, .inl f))] sz) := by
  refine Met.ofW (cc := cX12_feed) (maxL := 8) (ret := (some .int)) (by decide) rfl ?_
  intro p e s m args below meth c s₁ B hml hv
  obtain ⟨rfl, hsz, hP, hK, hD0⟩ := hv
  have hx := B.exec
  have hb := B.bytes
  have hr := B.returns
  have hts := atoms_spec (ws := wsX12_feed) B.pre
  have hown : s.vm.findClass RX12 = some m.cls := findClass_of_methodNamed B.named
  have hlocks := B.notSynchronized
  subst hsz
  have hD := hD0.self (sz := s.heap.size)
  generalize hAe : va_A [(h0, .inr (14, m_obj ad)), ((ad 0), .inl (c0, 4000, .inl f))] s.heap.size = A at hD ⊢
  have hA : ∀ q : Nat, s.heap.size ≤ q → A q := fun q h => by rw [← hAe]; exact Or.inr h
  have hS : va_S A s.heap s.heap [] := va_S.rf
  have hP : va_P (dC, dI) vwCl [(h0, .inr (14, m_obj ad)), ((ad 0), .inl (c0, 4000, .inl f))] s.heap := hP
  have hl := lv_entry ([.ref h0, .int p0, .int p1, .int p2, .int p3, .int p4]) (n := 8) (Nat.le_of_ble_eq_true rfl)
  rw [lg_entry_eq]
  generalize (lg_sl ([.ref h0, .int p0, .int p1, .int p2, .int p3, .int p4]) ++ List.replicate (8 - (lg_sl ([.ref h0, .int p0, .int p1, .int p2, .int p3, .int p4])).length) Slot.unset).toArray = ls at hl ⊢
  have hl : lv_has ls 8 [(0, .ref h0), (1, .int p0), (2, .int p1), (3, .int p2), (4, .int p3), (5, .int p4)] := hl
  have hwX12 : ∀ w ∈ wsX120, w ∈ wsX12_feed := (fun w h => List.mem_cons_of_mem _ (List.mem_append_right _ h))
  refine lv_aload_n hx hb dX12_feed_0 rfl (lv_at hl 0 rfl) ?_
  refine lv_iconst (v := 0) hx hb dX12_feed_1 (by decide) ?_
  refine va_put (D := (dC, dI)) (ci := 14) (v := .int 0) (ty := tyX12 0) (C := RX12) (T := TX12) (N := 151) hx hb hts hwX12 tyX12 tyX12_ok nmX12 hown hK hP hD hS 0 rfl rfl 0 (Nat.le_of_ble_eq_true rfl) (hts (.fieldLink RX12 289 "ScriptTypesModel" "thrown" "I") (List.mem_of_getElem? (i := 1) (by decide +kernel))) (fun _ h9 => h9) rfl (tyX12_ok 0 (Nat.le_of_ble_eq_true rfl)) rfl rfl (Nat.le_of_ble_eq_true rfl) dX12_feed_2 (fun H locs hP hD hS => ?_)
  have hP : va_P (dC, dI) vwCl [(h0, .inr (14, (m_obj ad).set 0 (.int 0))), ((ad 0), .inl (c0, 4000, .inl f))] H := hP
  have hD : va_D A [(h0, .inr (14, (m_obj ad).set 0 (.int 0))), ((ad 0), .inl (c0, 4000, .inl f))] := hD
  refine lv_aload_n hx hb dX12_feed_5 rfl (lv_at hl 0 rfl) ?_
  refine va_get (D := (dC, dI)) (ci := 14) (v := .int 0) (C := RX12) (T := TX12) (N := 151) hx hb hts hwX12 hown hK hP 0 rfl rfl 2 (Nat.le_of_ble_eq_true rfl) (hts (.fieldLink RX12 293 "ScriptTypesModel" "taped" "I") (List.mem_of_getElem? (i := 2) (by decide +kernel))) (fun _ h9 => h9) rfl dX12_feed_6 ?_
  refine lv_bipush (v := 20) hx hb dX12_feed_9 (by decide) ?_
  refine lv_iadd hx hb dX12_feed_11 ?_
  refine lv_topi (fun f_1 ef_1 => ?_)
  obtain rfl : f_1 = 20 := by rw [ef_1]; decide
  refine lv_sipush (v := 4000) hx hb dX12_feed_12 (by decide) ?_
  refine lv_icmp_le (tgt := 20) hx hb dX12_feed_15 (by decide) (fun _ => ?_) (fun c2_15 => absurd (by decide) c2_15)
  refine lv_iconst (v := 0) hx hb dX12_feed_20 (by decide) ?_
  refine lv_istore (lv' := [(6, .int 0), (0, .ref h0), (1, .int p0), (2, .int p1), (3, .int p2), (4, .int p3), (5, .int p4)]) hx hb dX12_feed_21 hl (by decide) rfl (fun ls hl => ?_)
  refine lv_iload hx hb dX12_feed_23 (lv_at hl 0 rfl) ?_
  refine lv_bipush (v := 20) hx hb dX12_feed_25 (by decide) ?_
  refine lv_icmp_ge (tgt := 110) hx hb dX12_feed_27 (by decide) (fun c3_27 => absurd c3_27 (by decide)) (fun _ => ?_)
  refine lv_iload hx hb dX12_feed_30 (lv_at hl 0 rfl) ?_
  refine lv_iconst (v := 4) hx hb dX12_feed_32 (by decide) ?_
  refine lv_icmp_ge (tgt := 40) hx hb dX12_feed_33 (by decide) (fun c4_33 => absurd c4_33 (by decide)) (fun _ => ?_)
  refine lv_iload_n hx hb dX12_feed_36 rfl (lv_at hl 2 rfl) ?_
  refine lv_goto (tgt := 76) hx hb dX12_feed_37 (by decide) ?_
  refine lv_istore (lv' := [(7, .int p0), (6, .int 0), (0, .ref h0), (1, .int p0), (2, .int p1), (3, .int p2), (4, .int p3), (5, .int p4)]) hx hb dX12_feed_76 hl (by decide) rfl (fun ls hl => ?_)
  refine lv_aload_n hx hb dX12_feed_78 rfl (lv_at hl 2 rfl) ?_
  refine va_get (D := (dC, dI)) (ci := 14) (v := .ref (ad 0)) (C := RX12) (T := TX12) (N := 151) hx hb hts hwX12 hown hK hP 0 rfl rfl 1 (Nat.le_of_ble_eq_true rfl) (hts (.fieldLink RX12 7 "ScriptTypesModel" "tape" "[B") (List.mem_of_getElem? (i := 3) (by decide +kernel))) (fun _ h9 => h9) rfl dX12_feed_79 ?_
  refine lv_aload_n hx hb dX12_feed_82 rfl (lv_at hl 2 rfl) ?_
  refine va_get (D := (dC, dI)) (ci := 14) (v := .int 0) (C := RX12) (T := TX12) (N := 151) hx hb hts hwX12 hown hK hP 0 rfl rfl 2 (Nat.le_of_ble_eq_true rfl) (hts (.fieldLink RX12 293 "ScriptTypesModel" "taped" "I") (List.mem_of_getElem? (i := 2) (by decide +kernel))) (fun _ h9 => h9) rfl dX12_feed_83 ?_
  refine lv_iload hx hb dX12_feed_86 (lv_at hl 1 rfl) ?_
  refine lv_iadd hx hb dX12_feed_88 ?_
  refine lv_topi (fun f_5 ef_5 => ?_)
  obtain rfl : f_5 = 0 := by rw [ef_5]; decide
  refine lv_iload hx hb dX12_feed_89 (lv_at hl 0 rfl) ?_
  refine lv_bipush (v := 24) hx hb dX12_feed_91 (by decide) ?_
  refine lv_bipush (v := 8) hx hb dX12_feed_93 (by decide) ?_
  refine lv_iload hx hb dX12_feed_95 (lv_at hl 1 rfl) ?_
  refine lv_iconst (v := 4) hx hb dX12_feed_97 (by decide) ?_
  refine lv_irem hx hb dX12_feed_98 (by decide) ?_
  refine lv_topi (fun f_6 ef_6 => ?_)
  obtain rfl : f_6 = 0 := by rw [ef_6]; decide
  refine lv_imul hx hb dX12_feed_99 ?_
  refine lv_topi (fun f_7 ef_7 => ?_)
  obtain rfl : f_7 = 0 := by rw [ef_7]; decide
  refine lv_isub hx hb dX12_feed_100 ?_
  refine lv_topi (fun f_8 ef_8 => ?_)
  obtain rfl : f_8 = 24 := by rw [ef_8]; decide
  refine lv_ishr hx hb dX12_feed_101 ?_
  refine lv_topi (fun f_9 ef_9 => ?_)
  refine lv_i2b hx hb dX12_feed_102 rfl ?_
  refine lv_topi (fun f_10 ef_10 => ?_)
  refine va_bast hx hb hK hP hD hS 1 0 rfl rfl (show ¬ ((0 : Int32) < 0 ∨ 4000 ≤ (0 : Int32).toNatClampNeg) by decide) dX12_feed_103 (fun H locs hP hD hS => ?_)
  obtain ⟨g_11, eg_11⟩ : ∃ g : Nat → Int32, g = upd f (0 : Int32).toNatClampNeg (vp_nar .byte f_10) := ⟨_, rfl⟩
  have hP : va_P (dC, dI) vwCl [(h0, .inr (14, (m_obj ad).set 0 (.int 0))), ((ad 0), .inl (c0, 4000, .inl g_11))] H := by rw [eg_11]; exact hP
  have hD : va_D A [(h0, .inr (14, (m_obj ad).set 0 (.int 0))), ((ad 0), .inl (c0, 4000, .inl g_11))] := by rw [eg_11]; exact hD
  refine lv_iinc (v := 1) (lv' := [(6, .int 1), (7, .int p0), (0, .ref h0), (1, .int p0), (2, .int p1), (3, .int p2), (4, .int p3), (5, .int p4)]) hx hb dX12_feed_104 hl (k := 1) rfl (by decide) (by decide) rfl (fun ls hl => ?_)
  refine lv_goto (tgt := 23) hx hb dX12_feed_107 (by decide) ?_
  refine lv_iload hx hb dX12_feed_23 (lv_at hl 0 rfl) ?_
  refine lv_bipush (v := 20) hx hb dX12_feed_25 (by decide) ?_
  refine lv_icmp_ge (tgt := 110) hx hb dX12_feed_27 (by decide) (fun c12_27 => absurd c12_27 (by decide)) (fun _ => ?_)
  refine lv_iload hx hb dX12_feed_30 (lv_at hl 0 rfl) ?_
  refine lv_iconst (v := 4) hx hb dX12_feed_32 (by decide) ?_
  refine lv_icmp_ge (tgt := 40) hx hb dX12_feed_33 (by decide) (fun c13_33 => absurd c13_33 (by decide)) (fun _ => ?_)
  refine lv_iload_n hx hb dX12_feed_36 rfl (lv_at hl 3 rfl) ?_
  refine lv_goto (tgt := 76) hx hb dX12_feed_37 (by decide) ?_
  refine lv_istore (lv' := [(7, .int p0), (6, .int 1), (0, .ref h0), (1, .int p0), (2, .int p1), (3, .int p2), (4, .int p3), (5, .int p4)]) hx hb dX12_feed_76 hl (by decide) rfl (fun ls hl => ?_)
  refine lv_aload_n hx hb dX12_feed_78 rfl (lv_at hl 2 rfl) ?_
  refine va_get (D := (dC, dI)) (ci := 14) (v := .ref (ad 0)) (C := RX12) (T := TX12) (N := 151) hx hb hts hwX12 hown hK hP 0 rfl rfl 1 (Nat.le_of_ble_eq_true rfl) (hts (.fieldLink RX12 7 "ScriptTypesModel" "tape" "[B") (List.mem_of_getElem? (i := 3) (by decide +kernel))) (fun _ h9 => h9) rfl dX12_feed_79 ?_
  refine lv_aload_n hx hb dX12_feed_82 rfl (lv_at hl 2 rfl) ?_
  refine va_get (D := (dC, dI)) (ci := 14) (v := .int 0) (C := RX12) (T := TX12) (N := 151) hx hb hts hwX12 hown hK hP 0 rfl rfl 2 (Nat.le_of_ble_eq_true rfl) (hts (.fieldLink RX12 293 "ScriptTypesModel" "taped" "I") (List.mem_of_getElem? (i := 2) (by decide +kernel))) (fun _ h9 => h9) rfl dX12_feed_83 ?_
  refine lv_iload hx hb dX12_feed_86 (lv_at hl 1 rfl) ?_
  refine lv_iadd hx hb dX12_feed_88 ?_
  refine lv_topi (fun f_14 ef_14 => ?_)
  obtain rfl : f_14 = 1 := by rw [ef_14]; decide
  refine lv_iload hx hb dX12_feed_89 (lv_at hl 0 rfl) ?_
  refine lv_bipush (v := 24) hx hb dX12_feed_91 (by decide) ?_
  refine lv_bipush (v := 8) hx hb dX12_feed_93 (by decide) ?_
  refine lv_iload hx hb dX12_feed_95 (lv_at hl 1 rfl) ?_
  refine lv_iconst (v := 4) hx hb dX12_feed_97 (by decide) ?_
  refine lv_irem hx hb dX12_feed_98 (by decide) ?_
  refine lv_topi (fun f_15 ef_15 => ?_)
  obtain rfl : f_15 = 1 := by rw [ef_15]; decide
  refine lv_imul hx hb dX12_feed_99 ?_
  refine lv_topi (fun f_16 ef_16 => ?_)
  obtain rfl : f_16 = 8 := by rw [ef_16]; decide
  refine lv_isub hx hb dX12_feed_100 ?_
  refine lv_topi (fun f_17 ef_17 => ?_)
  obtain rfl : f_17 = 16 := by rw [ef_17]; decide
  refine lv_ishr hx hb dX12_feed_101 ?_
  refine lv_topi (fun f_18 ef_18 => ?_)
  refine lv_i2b hx hb dX12_feed_102 rfl ?_
  refine lv_topi (fun f_19 ef_19 => ?_)
  refine va_bast hx hb hK hP hD hS 1 0 rfl rfl (show ¬ ((1 : Int32) < 0 ∨ 4000 ≤ (1 : Int32).toNatClampNeg) by decide) dX12_feed_103 (fun H locs hP hD hS => ?_)
  obtain ⟨g_20, eg_20⟩ : ∃ g : Nat → Int32, g = upd g_11 (1 : Int32).toNatClampNeg (vp_nar .byte f_19) := ⟨_, rfl⟩
  have hP : va_P (dC, dI) vwCl [(h0, .inr (14, (m_obj ad).set 0 (.int 0))), ((ad 0), .inl (c0, 4000, .inl g_20))] H := by rw [eg_20]; exact hP
  have hD : va_D A [(h0, .inr (14, (m_obj ad).set 0 (.int 0))), ((ad 0), .inl (c0, 4000, .inl g_20))] := by rw [eg_20]; exact hD
  refine lv_iinc (v := 2) (lv' := [(6, .int 2), (7, .int p0), (0, .ref h0), (1, .int p0), (2, .int p1), (3, .int p2), (4, .int p3), (5, .int p4)]) hx hb dX12_feed_104 hl (k := 1) rfl (by decide) (by decide) rfl (fun ls hl => ?_)
  refine lv_goto (tgt := 23) hx hb dX12_feed_107 (by decide) ?_
  refine lv_iload hx hb dX12_feed_23 (lv_at hl 0 rfl) ?_
  refine lv_bipush (v := 20) hx hb dX12_feed_25 (by decide) ?_
  refine lv_icmp_ge (tgt := 110) hx hb dX12_feed_27 (by decide) (fun c21_27 => absurd c21_27 (by decide)) (fun _ => ?_)
  refine lv_iload hx hb dX12_feed_30 (lv_at hl 0 rfl) ?_
  refine lv_iconst (v := 4) hx hb dX12_feed_32 (by decide) ?_
  refine lv_icmp_ge (tgt := 40) hx hb dX12_feed_33 (by decide) (fun c22_33 => absurd c22_33 (by decide)) (fun _ => ?_)
  refine lv_iload_n hx hb dX12_feed_36 rfl (lv_at hl 3 rfl) ?_
  refine lv_goto (tgt := 76) hx hb dX12_feed_37 (by decide) ?_
  refine lv_istore (lv' := [(7, .int p0), (6, .int 2), (0, .ref h0), (1, .int p0), (2, .int p1), (3, .int p2), (4, .int p3), (5, .int p4)]) hx hb dX12_feed_76 hl (by decide) rfl (fun ls hl => ?_)
  refine lv_aload_n hx hb dX12_feed_78 rfl (lv_at hl 2 rfl) ?_
  refine va_get (D := (dC, dI)) (ci := 14) (v := .ref (ad 0)) (C := RX12) (T := TX12) (N := 151) hx hb hts hwX12 hown hK hP 0 rfl rfl 1 (Nat.le_of_ble_eq_true rfl) (hts (.fieldLink RX12 7 "ScriptTypesModel" "tape" "[B") (List.mem_of_getElem? (i := 3) (by decide +kernel))) (fun _ h9 => h9) rfl dX12_feed_79 ?_
  refine lv_aload_n hx hb dX12_feed_82 rfl (lv_at hl 2 rfl) ?_
  refine va_get (D := (dC, dI)) (ci := 14) (v := .int 0) (C := RX12) (T := TX12) (N := 151) hx hb hts hwX12 hown hK hP 0 rfl rfl 2 (Nat.le_of_ble_eq_true rfl) (hts (.fieldLink RX12 293 "ScriptTypesModel" "taped" "I") (List.mem_of_getElem? (i := 2) (by decide +kernel))) (fun _ h9 => h9) rfl dX12_feed_83 ?_
  refine lv_iload hx hb dX12_feed_86 (lv_at hl 1 rfl) ?_
  refine lv_iadd hx hb dX12_feed_88 ?_
  refine lv_topi (fun f_23 ef_23 => ?_)
  obtain rfl : f_23 = 2 := by rw [ef_23]; decide
  refine lv_iload hx hb dX12_feed_89 (lv_at hl 0 rfl) ?_
  refine lv_bipush (v := 24) hx hb dX12_feed_91 (by decide) ?_
  refine lv_bipush (v := 8) hx hb dX12_feed_93 (by decide) ?_
  refine lv_iload hx hb dX12_feed_95 (lv_at hl 1 rfl) ?_
  refine lv_iconst (v := 4) hx hb dX12_feed_97 (by decide) ?_
  refine lv_irem hx hb dX12_feed_98 (by decide) ?_
  refine lv_topi (fun f_24 ef_24 => ?_)
  obtain rfl : f_24 = 2 := by rw [ef_24]; decide
  refine lv_imul hx hb dX12_feed_99 ?_
  refine lv_topi (fun f_25 ef_25 => ?_)
  obtain rfl : f_25 = 16 := by rw [ef_25]; decide
  refine lv_isub hx hb dX12_feed_100 ?_
  refine lv_topi (fun f_26 ef_26 => ?_)
  obtain rfl : f_26 = 8 := by rw [ef_26]; decide
  refine lv_ishr hx hb dX12_feed_101 ?_
  refine lv_topi (fun f_27 ef_27 => ?_)
  refine lv_i2b hx hb dX12_feed_102 rfl ?_
  refine lv_topi (fun f_28 ef_28 => ?_)
  refine va_bast hx hb hK hP hD hS 1 0 rfl rfl (show ¬ ((2 : Int32) < 0 ∨ 4000 ≤ (2 : Int32).toNatClampNeg) by decide) dX12_feed_103 (fun H locs hP hD hS => ?_)
  obtain ⟨g_29, eg_29⟩ : ∃ g : Nat → Int32, g = upd g_20 (2 : Int32).toNatClampNeg (vp_nar .byte f_28) := ⟨_, rfl⟩
  have hP : va_P (dC, dI) vwCl [(h0, .inr (14, (m_obj ad).set 0 (.int 0))), ((ad 0), .inl (c0, 4000, .inl g_29))] H := by rw [eg_29]; exact hP
  have hD : va_D A [(h0, .inr (14, (m_obj ad).set 0 (.int 0))), ((ad 0), .inl (c0, 4000, .inl g_29))] := by rw [eg_29]; exact hD
  refine lv_iinc (v := 3) (lv' := [(6, .int 3), (7, .int p0), (0, .ref h0), (1, .int p0), (2, .int p1), (3, .int p2), (4, .int p3), (5, .int p4)]) hx hb dX12_feed_104 hl (k := 1) rfl (by decide) (by decide) rfl (fun ls hl => ?_)
  refine lv_goto (tgt := 23) hx hb dX12_feed_107 (by decide) ?_
  refine lv_iload hx hb dX12_feed_23 (lv_at hl 0 rfl) ?_
  refine lv_bipush (v := 20) hx hb dX12_feed_25 (by decide) ?_
  refine lv_icmp_ge (tgt := 110) hx hb dX12_feed_27 (by decide) (fun c30_27 => absurd c30_27 (by decide)) (fun _ => ?_)
  refine lv_iload hx hb dX12_feed_30 (lv_at hl 0 rfl) ?_
  refine lv_iconst (v := 4) hx hb dX12_feed_32 (by decide) ?_
  refine lv_icmp_ge (tgt := 40) hx hb dX12_feed_33 (by decide) (fun c31_33 => absurd c31_33 (by decide)) (fun _ => ?_)
  refine lv_iload_n hx hb dX12_feed_36 rfl (lv_at hl 3 rfl) ?_
  refine lv_goto (tgt := 76) hx hb dX12_feed_37 (by decide) ?_
  refine lv_istore (lv' := [(7, .int p0), (6, .int 3), (0, .ref h0), (1, .int p0), (2, .int p1), (3, .int p2), (4, .int p3), (5, .int p4)]) hx hb dX12_feed_76 hl (by decide) rfl (fun ls hl => ?_)
  refine lv_aload_n hx hb dX12_feed_78 rfl (lv_at hl 2 rfl) ?_
  refine va_get (D := (dC, dI)) (ci := 14) (v := .ref (ad 0)) (C := RX12) (T := TX12) (N := 151) hx hb hts hwX12 hown hK hP 0 rfl rfl 1 (Nat.le_of_ble_eq_true rfl) (hts (.fieldLink RX12 7 "ScriptTypesModel" "tape" "[B") (List.mem_of_getElem? (i := 3) (by decide +kernel))) (fun _ h9 => h9) rfl dX12_feed_79 ?_
  refine lv_aload_n hx hb dX12_feed_82 rfl (lv_at hl 2 rfl) ?_
  refine va_get (D := (dC, dI)) (ci := 14) (v := .int 0) (C := RX12) (T := TX12) (N := 151) hx hb hts hwX12 hown hK hP 0 rfl rfl 2 (Nat.le_of_ble_eq_true rfl) (hts (.fieldLink RX12 293 "ScriptTypesModel" "taped" "I") (List.mem_of_getElem? (i := 2) (by decide +kernel))) (fun _ h9 => h9) rfl dX12_feed_83 ?_
  refine lv_iload hx hb dX12_feed_86 (lv_at hl 1 rfl) ?_
  refine lv_iadd hx hb dX12_feed_88 ?_
  refine lv_topi (fun f_32 ef_32 => ?_)
  obtain rfl : f_32 = 3 := by rw [ef_32]; decide
  refine lv_iload hx hb dX12_feed_89 (lv_at hl 0 rfl) ?_
  refine lv_bipush (v := 24) hx hb dX12_feed_91 (by decide) ?_
  refine lv_bipush (v := 8) hx hb dX12_feed_93 (by decide) ?_
  refine lv_iload hx hb dX12_feed_95 (lv_at hl 1 rfl) ?_
  refine lv_iconst (v := 4) hx hb dX12_feed_97 (by decide) ?_
  refine lv_irem hx hb dX12_feed_98 (by decide) ?_
  refine lv_topi (fun f_33 ef_33 => ?_)
  obtain rfl : f_33 = 3 := by rw [ef_33]; decide
  refine lv_imul hx hb dX12_feed_99 ?_
  refine lv_topi (fun f_34 ef_34 => ?_)
  obtain rfl : f_34 = 24 := by rw [ef_34]; decide
  refine lv_isub hx hb dX12_feed_100 ?_
  refine lv_topi (fun f_35 ef_35 => ?_)
  obtain rfl : f_35 = 0 := by rw [ef_35]; decide
  refine lv_ishr hx hb dX12_feed_101 ?_
  refine lv_topi (fun f_36 ef_36 => ?_)
  refine lv_i2b hx hb dX12_feed_102 rfl ?_
  refine lv_topi (fun f_37 ef_37 => ?_)
  refine va_bast hx hb hK hP hD hS 1 0 rfl rfl (show ¬ ((3 : Int32) < 0 ∨ 4000 ≤ (3 : Int32).toNatClampNeg) by decide) dX12_feed_103 (fun H locs hP hD hS => ?_)
  obtain ⟨g_38, eg_38⟩ : ∃ g : Nat → Int32, g = upd g_29 (3 : Int32).toNatClampNeg (vp_nar .byte f_37) := ⟨_, rfl⟩
  have hP : va_P (dC, dI) vwCl [(h0, .inr (14, (m_obj ad).set 0 (.int 0))), ((ad 0), .inl (c0, 4000, .inl g_38))] H := by rw [eg_38]; exact hP
  have hD : va_D A [(h0, .inr (14, (m_obj ad).set 0 (.int 0))), ((ad 0), .inl (c0, 4000, .inl g_38))] := by rw [eg_38]; exact hD
  refine lv_iinc (v := 4) (lv' := [(6, .int 4), (7, .int p0), (0, .ref h0), (1, .int p0), (2, .int p1), (3, .int p2), (4, .int p3), (5, .int p4)]) hx hb dX12_feed_104 hl (k := 1) rfl (by decide) (by decide) rfl (fun ls hl => ?_)
  refine lv_goto (tgt := 23) hx hb dX12_feed_107 (by decide) ?_
  refine lv_iload hx hb dX12_feed_23 (lv_at hl 0 rfl) ?_
  refine lv_bipush (v := 20) hx hb dX12_feed_25 (by decide) ?_
  refine lv_icmp_ge (tgt := 110) hx hb dX12_feed_27 (by decide) (fun c39_27 => absurd c39_27 (by decide)) (fun _ => ?_)
  refine lv_iload hx hb dX12_feed_30 (lv_at hl 0 rfl) ?_
  refine lv_iconst (v := 4) hx hb dX12_feed_32 (by decide) ?_
  refine lv_icmp_ge (tgt := 40) hx hb dX12_feed_33 (by decide) (fun _ => ?_) (fun c40_33 => absurd (by decide) c40_33)
  refine lv_iload hx hb dX12_feed_40 (lv_at hl 0 rfl) ?_
  refine lv_bipush (v := 8) hx hb dX12_feed_42 (by decide) ?_
  refine lv_icmp_ge (tgt := 51) hx hb dX12_feed_44 (by decide) (fun c41_44 => absurd c41_44 (by decide)) (fun _ => ?_)
  refine lv_iload_n hx hb dX12_feed_47 rfl (lv_at hl 4 rfl) ?_
  refine lv_goto (tgt := 76) hx hb dX12_feed_48 (by decide) ?_
  refine lv_istore (lv' := [(7, .int p1), (6, .int 4), (0, .ref h0), (1, .int p0), (2, .int p1), (3, .int p2), (4, .int p3), (5, .int p4)]) hx hb dX12_feed_76 hl (by decide) rfl (fun ls hl => ?_)
  refine lv_aload_n hx hb dX12_feed_78 rfl (lv_at hl 2 rfl) ?_
  refine va_get (D := (dC, dI)) (ci := 14) (v := .ref (ad 0)) (C := RX12) (T := TX12) (N := 151) hx hb hts hwX12 hown hK hP 0 rfl rfl 1 (Nat.le_of_ble_eq_true rfl) (hts (.fieldLink RX12 7 "ScriptTypesModel" "tape" "[B") (List.mem_of_getElem? (i := 3) (by decide +kernel))) (fun _ h9 => h9) rfl dX12_feed_79 ?_
  refine lv_aload_n hx hb dX12_feed_82 rfl (lv_at hl 2 rfl) ?_
  refine va_get (D := (dC, dI)) (ci := 14) (v := .int 0) (C := RX12) (T := TX12) (N := 151) hx hb hts hwX12 hown hK hP 0 rfl rfl 2 (Nat.le_of_ble_eq_true rfl) (hts (.fieldLink RX12 293 "ScriptTypesModel" "taped" "I") (List.mem_of_getElem? (i := 2) (by decide +kernel))) (fun _ h9 => h9) rfl dX12_feed_83 ?_
  refine lv_iload hx hb dX12_feed_86 (lv_at hl 1 rfl) ?_
  refine lv_iadd hx hb dX12_feed_88 ?_
  refine lv_topi (fun f_42 ef_42 => ?_)
  obtain rfl : f_42 = 4 := by rw [ef_42]; decide
  refine lv_iload hx hb dX12_feed_89 (lv_at hl 0 rfl) ?_
  refine lv_bipush (v := 24) hx hb dX12_feed_91 (by decide) ?_
  refine lv_bipush (v := 8) hx hb dX12_feed_93 (by decide) ?_
  refine lv_iload hx hb dX12_feed_95 (lv_at hl 1 rfl) ?_
  refine lv_iconst (v := 4) hx hb dX12_feed_97 (by decide) ?_
  refine lv_irem hx hb dX12_feed_98 (by decide) ?_
  refine lv_topi (fun f_43 ef_43 => ?_)
  obtain rfl : f_43 = 0 := by rw [ef_43]; decide
  refine lv_imul hx hb dX12_feed_99 ?_
  refine lv_topi (fun f_44 ef_44 => ?_)
  obtain rfl : f_44 = 0 := by rw [ef_44]; decide
  refine lv_isub hx hb dX12_feed_100 ?_
  refine lv_topi (fun f_45 ef_45 => ?_)
  obtain rfl : f_45 = 24 := by rw [ef_45]; decide
  refine lv_ishr hx hb dX12_feed_101 ?_
  refine lv_topi (fun f_46 ef_46 => ?_)
  refine lv_i2b hx hb dX12_feed_102 rfl ?_
  refine lv_topi (fun f_47 ef_47 => ?_)
  refine va_bast hx hb hK hP hD hS 1 0 rfl rfl (show ¬ ((4 : Int32) < 0 ∨ 4000 ≤ (4 : Int32).toNatClampNeg) by decide) dX12_feed_103 (fun H locs hP hD hS => ?_)
  obtain ⟨g_48, eg_48⟩ : ∃ g : Nat → Int32, g = upd g_38 (4 : Int32).toNatClampNeg (vp_nar .byte f_47) := ⟨_, rfl⟩
  have hP : va_P (dC, dI) vwCl [(h0, .inr (14, (m_obj ad).set 0 (.int 0))), ((ad 0), .inl (c0, 4000, .inl g_48))] H := by rw [eg_48]; exact hP
  have hD : va_D A [(h0, .inr (14, (m_obj ad).set 0 (.int 0))), ((ad 0), .inl (c0, 4000, .inl g_48))] := by rw [eg_48]; exact hD
  refine lv_iinc (v := 5) (lv' := [(6, .int 5), (7, .int p1), (0, .ref h0), (1, .int p0), (2, .int p1), (3, .int p2), (4, .int p3), (5, .int p4)]) hx hb dX12_feed_104 hl (k := 1) rfl (by decide) (by decide) rfl (fun ls hl => ?_)
  refine lv_goto (tgt := 23) hx hb dX12_feed_107 (by decide) ?_
  refine lv_iload hx hb dX12_feed_23 (lv_at hl 0 rfl) ?_
  refine lv_bipush (v := 20) hx hb dX12_feed_25 (by decide) ?_
  refine lv_icmp_ge (tgt := 110) hx hb dX12_feed_27 (by decide) (fun c49_27 => absurd c49_27 (by decide)) (fun _ => ?_)
  refine lv_iload hx hb dX12_feed_30 (lv_at hl 0 rfl) ?_
  refine lv_iconst (v := 4) hx hb dX12_feed_32 (by decide) ?_
  refine lv_icmp_ge (tgt := 40) hx hb dX12_feed_33 (by decide) (fun _ => ?_) (fun c50_33 => absurd (by decide) c50_33)
  refine lv_iload hx hb dX12_feed_40 (lv_at hl 0 rfl) ?_
  refine lv_bipush (v := 8) hx hb dX12_feed_42 (by decide) ?_
  refine lv_icmp_ge (tgt := 51) hx hb dX12_feed_44 (by decide) (fun c51_44 => absurd c51_44 (by decide)) (fun _ => ?_)
  refine lv_iload_n hx hb dX12_feed_47 rfl (lv_at hl 4 rfl) ?_
  refine lv_goto (tgt := 76) hx hb dX12_feed_48 (by decide) ?_
  refine lv_istore (lv' := [(7, .int p1), (6, .int 5), (0, .ref h0), (1, .int p0), (2, .int p1), (3, .int p2), (4, .int p3), (5, .int p4)]) hx hb dX12_feed_76 hl (by decide) rfl (fun ls hl => ?_)
  refine lv_aload_n hx hb dX12_feed_78 rfl (lv_at hl 2 rfl) ?_
  refine va_get (D := (dC, dI)) (ci := 14) (v := .ref (ad 0)) (C := RX12) (T := TX12) (N := 151) hx hb hts hwX12 hown hK hP 0 rfl rfl 1 (Nat.le_of_ble_eq_true rfl) (hts (.fieldLink RX12 7 "ScriptTypesModel" "tape" "[B") (List.mem_of_getElem? (i := 3) (by decide +kernel))) (fun _ h9 => h9) rfl dX12_feed_79 ?_
  refine lv_aload_n hx hb dX12_feed_82 rfl (lv_at hl 2 rfl) ?_
  refine va_get (D := (dC, dI)) (ci := 14) (v := .int 0) (C := RX12) (T := TX12) (N := 151) hx hb hts hwX12 hown hK hP 0 rfl rfl 2 (Nat.le_of_ble_eq_true rfl) (hts (.fieldLink RX12 293 "ScriptTypesModel" "taped" "I") (List.mem_of_getElem? (i := 2) (by decide +kernel))) (fun _ h9 => h9) rfl dX12_feed_83 ?_
  refine lv_iload hx hb dX12_feed_86 (lv_at hl 1 rfl) ?_
  refine lv_iadd hx hb dX12_feed_88 ?_
  refine lv_topi (fun f_52 ef_52 => ?_)
  obtain rfl : f_52 = 5 := by rw [ef_52]; decide
  refine lv_iload hx hb dX12_feed_89 (lv_at hl 0 rfl) ?_
  refine lv_bipush (v := 24) hx hb dX12_feed_91 (by decide) ?_
  refine lv_bipush (v := 8) hx hb dX12_feed_93 (by decide) ?_
  refine lv_iload hx hb dX12_feed_95 (lv_at hl 1 rfl) ?_
  refine lv_iconst (v := 4) hx hb dX12_feed_97 (by decide) ?_
  refine lv_irem hx hb dX12_feed_98 (by decide) ?_
  refine lv_topi (fun f_53 ef_53 => ?_)
  obtain rfl : f_53 = 1 := by rw [ef_53]; decide
  refine lv_imul hx hb dX12_feed_99 ?_
  refine lv_topi (fun f_54 ef_54 => ?_)
  obtain rfl : f_54 = 8 := by rw [ef_54]; decide
  refine lv_isub hx hb dX12_feed_100 ?_
  refine lv_topi (fun f_55 ef_55 => ?_)
  obtain rfl : f_55 = 16 := by rw [ef_55]; decide
  refine lv_ishr hx hb dX12_feed_101 ?_
  refine lv_topi (fun f_56 ef_56 => ?_)
  refine lv_i2b hx hb dX12_feed_102 rfl ?_
  refine lv_topi (fun f_57 ef_57 => ?_)
  refine va_bast hx hb hK hP hD hS 1 0 rfl rfl (show ¬ ((5 : Int32) < 0 ∨ 4000 ≤ (5 : Int32).toNatClampNeg) by decide) dX12_feed_103 (fun H locs hP hD hS => ?_)
  obtain ⟨g_58, eg_58⟩ : ∃ g : Nat → Int32, g = upd g_48 (5 : Int32).toNatClampNeg (vp_nar .byte f_57) := ⟨_, rfl⟩
  have hP : va_P (dC, dI) vwCl [(h0, .inr (14, (m_obj ad).set 0 (.int 0))), ((ad 0), .inl (c0, 4000, .inl g_58))] H := by rw [eg_58]; exact hP
  have hD : va_D A [(h0, .inr (14, (m_obj ad).set 0 (.int 0))), ((ad 0), .inl (c0, 4000, .inl g_58))] := by rw [eg_58]; exact hD
  refine lv_iinc (v := 6) (lv' := [(6, .int 6), (7, .int p1), (0, .ref h0), (1, .int p0), (2, .int p1), (3, .int p2), (4, .int p3), (5, .int p4)]) hx hb dX12_feed_104 hl (k := 1) rfl (by decide) (by decide) rfl (fun ls hl => ?_)
  refine lv_goto (tgt := 23) hx hb dX12_feed_107 (by decide) ?_
  refine lv_iload hx hb dX12_feed_23 (lv_at hl 0 rfl) ?_
  refine lv_bipush (v := 20) hx hb dX12_feed_25 (by decide) ?_
  refine lv_icmp_ge (tgt := 110) hx hb dX12_feed_27 (by decide) (fun c59_27 => absurd c59_27 (by decide)) (fun _ => ?_)
  refine lv_iload hx hb dX12_feed_30 (lv_at hl 0 rfl) ?_
  refine lv_iconst (v := 4) hx hb dX12_feed_32 (by decide) ?_
  refine lv_icmp_ge (tgt := 40) hx hb dX12_feed_33 (by decide) (fun _ => ?_) (fun c60_33 => absurd (by decide) c60_33)
  refine lv_iload hx hb dX12_feed_40 (lv_at hl 0 rfl) ?_
  refine lv_bipush (v := 8) hx hb dX12_feed_42 (by decide) ?_
  refine lv_icmp_ge (tgt := 51) hx hb dX12_feed_44 (by decide) (fun c61_44 => absurd c61_44 (by decide)) (fun _ => ?_)
  refine lv_iload_n hx hb dX12_feed_47 rfl (lv_at hl 4 rfl) ?_
  refine lv_goto (tgt := 76) hx hb dX12_feed_48 (by decide) ?_
  refine lv_istore (lv' := [(7, .int p1), (6, .int 6), (0, .ref h0), (1, .int p0), (2, .int p1), (3, .int p2), (4, .int p3), (5, .int p4)]) hx hb dX12_feed_76 hl (by decide) rfl (fun ls hl => ?_)
  refine lv_aload_n hx hb dX12_feed_78 rfl (lv_at hl 2 rfl) ?_
  refine va_get (D := (dC, dI)) (ci := 14) (v := .ref (ad 0)) (C := RX12) (T := TX12) (N := 151) hx hb hts hwX12 hown hK hP 0 rfl rfl 1 (Nat.le_of_ble_eq_true rfl) (hts (.fieldLink RX12 7 "ScriptTypesModel" "tape" "[B") (List.mem_of_getElem? (i := 3) (by decide +kernel))) (fun _ h9 => h9) rfl dX12_feed_79 ?_
  refine lv_aload_n hx hb dX12_feed_82 rfl (lv_at hl 2 rfl) ?_
  refine va_get (D := (dC, dI)) (ci := 14) (v := .int 0) (C := RX12) (T := TX12) (N := 151) hx hb hts hwX12 hown hK hP 0 rfl rfl 2 (Nat.le_of_ble_eq_true rfl) (hts (.fieldLink RX12 293 "ScriptTypesModel" "taped" "I") (List.mem_of_getElem? (i := 2) (by decide +kernel))) (fun _ h9 => h9) rfl dX12_feed_83 ?_
  refine lv_iload hx hb dX12_feed_86 (lv_at hl 1 rfl) ?_
  refine lv_iadd hx hb dX12_feed_88 ?_
  refine lv_topi (fun f_62 ef_62 => ?_)
  obtain rfl : f_62 = 6 := by rw [ef_62]; decide
  refine lv_iload hx hb dX12_feed_89 (lv_at hl 0 rfl) ?_
  refine lv_bipush (v := 24) hx hb dX12_feed_91 (by decide) ?_
  refine lv_bipush (v := 8) hx hb dX12_feed_93 (by decide) ?_
  refine lv_iload hx hb dX12_feed_95 (lv_at hl 1 rfl) ?_
  refine lv_iconst (v := 4) hx hb dX12_feed_97 (by decide) ?_
  refine lv_irem hx hb dX12_feed_98 (by decide) ?_
  refine lv_topi (fun f_63 ef_63 => ?_)
  obtain rfl : f_63 = 2 := by rw [ef_63]; decide
  refine lv_imul hx hb dX12_feed_99 ?_
  refine lv_topi (fun f_64 ef_64 => ?_)
  obtain rfl : f_64 = 16 := by rw [ef_64]; decide
  refine lv_isub hx hb dX12_feed_100 ?_
  refine lv_topi (fun f_65 ef_65 => ?_)
  obtain rfl : f_65 = 8 := by rw [ef_65]; decide
  refine lv_ishr hx hb dX12_feed_101 ?_
  refine lv_topi (fun f_66 ef_66 => ?_)
  refine lv_i2b hx hb dX12_feed_102 rfl ?_
  refine lv_topi (fun f_67 ef_67 => ?_)
  refine va_bast hx hb hK hP hD hS 1 0 rfl rfl (show ¬ ((6 : Int32) < 0 ∨ 4000 ≤ (6 : Int32).toNatClampNeg) by decide) dX12_feed_103 (fun H locs hP hD hS => ?_)
  obtain ⟨g_68, eg_68⟩ : ∃ g : Nat → Int32, g = upd g_58 (6 : Int32).toNatClampNeg (vp_nar .byte f_67) := ⟨_, rfl⟩
  have hP : va_P (dC, dI) vwCl [(h0, .inr (14, (m_obj ad).set 0 (.int 0))), ((ad 0), .inl (c0, 4000, .inl g_68))] H := by rw [eg_68]; exact hP
  have hD : va_D A [(h0, .inr (14, (m_obj ad).set 0 (.int 0))), ((ad 0), .inl (c0, 4000, .inl g_68))] := by rw [eg_68]; exact hD
  refine lv_iinc (v := 7) (lv' := [(6, .int 7), (7, .int p1), (0, .ref h0), (1, .int p0), (2, .int p1), (3, .int p2), (4, .int p3), (5, .int p4)]) hx hb dX12_feed_104 hl (k := 1) rfl (by decide) (by decide) rfl (fun ls hl => ?_)
  refine lv_goto (tgt := 23) hx hb dX12_feed_107 (by decide) ?_
  refine lv_iload hx hb dX12_feed_23 (lv_at hl 0 rfl) ?_
  refine lv_bipush (v := 20) hx hb dX12_feed_25 (by decide) ?_
  refine lv_icmp_ge (tgt := 110) hx hb dX12_feed_27 (by decide) (fun c69_27 => absurd c69_27 (by decide)) (fun _ => ?_)
  refine lv_iload hx hb dX12_feed_30 (lv_at hl 0 rfl) ?_
  refine lv_iconst (v := 4) hx hb dX12_feed_32 (by decide) ?_
  refine lv_icmp_ge (tgt := 40) hx hb dX12_feed_33 (by decide) (fun _ => ?_) (fun c70_33 => absurd (by decide) c70_33)
  refine lv_iload hx hb dX12_feed_40 (lv_at hl 0 rfl) ?_
  refine lv_bipush (v := 8) hx hb dX12_feed_42 (by decide) ?_
  refine lv_icmp_ge (tgt := 51) hx hb dX12_feed_44 (by decide) (fun c71_44 => absurd c71_44 (by decide)) (fun _ => ?_)
  refine lv_iload_n hx hb dX12_feed_47 rfl (lv_at hl 4 rfl) ?_
  refine lv_goto (tgt := 76) hx hb dX12_feed_48 (by decide) ?_
  refine lv_istore (lv' := [(7, .int p1), (6, .int 7), (0, .ref h0), (1, .int p0), (2, .int p1), (3, .int p2), (4, .int p3), (5, .int p4)]) hx hb dX12_feed_76 hl (by decide) rfl (fun ls hl => ?_)
  refine lv_aload_n hx hb dX12_feed_78 rfl (lv_at hl 2 rfl) ?_
  refine va_get (D := (dC, dI)) (ci := 14) (v := .ref (ad 0)) (C := RX12) (T := TX12) (N := 151) hx hb hts hwX12 hown hK hP 0 rfl rfl 1 (Nat.le_of_ble_eq_true rfl) (hts (.fieldLink RX12 7 "ScriptTypesModel" "tape" "[B") (List.mem_of_getElem? (i := 3) (by decide +kernel))) (fun _ h9 => h9) rfl dX12_feed_79 ?_
  refine lv_aload_n hx hb dX12_feed_82 rfl (lv_at hl 2 rfl) ?_
  refine va_get (D := (dC, dI)) (ci := 14) (v := .int 0) (C := RX12) (T := TX12) (N := 151) hx hb hts hwX12 hown hK hP 0 rfl rfl 2 (Nat.le_of_ble_eq_true rfl) (hts (.fieldLink RX12 293 "ScriptTypesModel" "taped" "I") (List.mem_of_getElem? (i := 2) (by decide +kernel))) (fun _ h9 => h9) rfl dX12_feed_83 ?_
  refine lv_iload hx hb dX12_feed_86 (lv_at hl 1 rfl) ?_
  refine lv_iadd hx hb dX12_feed_88 ?_
  refine lv_topi (fun f_72 ef_72 => ?_)
  obtain rfl : f_72 = 7 := by rw [ef_72]; decide
  refine lv_iload hx hb dX12_feed_89 (lv_at hl 0 rfl) ?_
  refine lv_bipush (v := 24) hx hb dX12_feed_91 (by decide) ?_
  refine lv_bipush (v := 8) hx hb dX12_feed_93 (by decide) ?_
  refine lv_iload hx hb dX12_feed_95 (lv_at hl 1 rfl) ?_
  refine lv_iconst (v := 4) hx hb dX12_feed_97 (by decide) ?_
  refine lv_irem hx hb dX12_feed_98 (by decide) ?_
  refine lv_topi (fun f_73 ef_73 => ?_)
  obtain rfl : f_73 = 3 := by rw [ef_73]; decide
  refine lv_imul hx hb dX12_feed_99 ?_
  refine lv_topi (fun f_74 ef_74 => ?_)
  obtain rfl : f_74 = 24 := by rw [ef_74]; decide
  refine lv_isub hx hb dX12_feed_100 ?_
  refine lv_topi (fun f_75 ef_75 => ?_)
  obtain rfl : f_75 = 0 := by rw [ef_75]; decide
  refine lv_ishr hx hb dX12_feed_101 ?_
  refine lv_topi (fun f_76 ef_76 => ?_)
  refine lv_i2b hx hb dX12_feed_102 rfl ?_
  refine lv_topi (fun f_77 ef_77 => ?_)
  refine va_bast hx hb hK hP hD hS 1 0 rfl rfl (show ¬ ((7 : Int32) < 0 ∨ 4000 ≤ (7 : Int32).toNatClampNeg) by decide) dX12_feed_103 (fun H locs hP hD hS => ?_)
  obtain ⟨g_78, eg_78⟩ : ∃ g : Nat → Int32, g = upd g_68 (7 : Int32).toNatClampNeg (vp_nar .byte f_77) := ⟨_, rfl⟩
  have hP : va_P (dC, dI) vwCl [(h0, .inr (14, (m_obj ad).set 0 (.int 0))), ((ad 0), .inl (c0, 4000, .inl g_78))] H := by rw [eg_78]; exact hP
  have hD : va_D A [(h0, .inr (14, (m_obj ad).set 0 (.int 0))), ((ad 0), .inl (c0, 4000, .inl g_78))] := by rw [eg_78]; exact hD
  refine lv_iinc (v := 8) (lv' := [(6, .int 8), (7, .int p1), (0, .ref h0), (1, .int p0), (2, .int p1), (3, .int p2), (4, .int p3), (5, .int p4)]) hx hb dX12_feed_104 hl (k := 1) rfl (by decide) (by decide) rfl (fun ls hl => ?_)
  refine lv_goto (tgt := 23) hx hb dX12_feed_107 (by decide) ?_
  refine lv_iload hx hb dX12_feed_23 (lv_at hl 0 rfl) ?_
  refine lv_bipush (v := 20) hx hb dX12_feed_25 (by decide) ?_
  refine lv_icmp_ge (tgt := 110) hx hb dX12_feed_27 (by decide) (fun c79_27 => absurd c79_27 (by decide)) (fun _ => ?_)
  refine lv_iload hx hb dX12_feed_30 (lv_at hl 0 rfl) ?_
  refine lv_iconst (v := 4) hx hb dX12_feed_32 (by decide) ?_
  refine lv_icmp_ge (tgt := 40) hx hb dX12_feed_33 (by decide) (fun _ => ?_) (fun c80_33 => absurd (by decide) c80_33)
  refine lv_iload hx hb dX12_feed_40 (lv_at hl 0 rfl) ?_
  refine lv_bipush (v := 8) hx hb dX12_feed_42 (by decide) ?_
  refine lv_icmp_ge (tgt := 51) hx hb dX12_feed_44 (by decide) (fun _ => ?_) (fun c81_44 => absurd (by decide) c81_44)
  refine lv_iload hx hb dX12_feed_51 (lv_at hl 0 rfl) ?_
  refine lv_bipush (v := 12) hx hb dX12_feed_53 (by decide) ?_
  refine lv_icmp_ge (tgt := 62) hx hb dX12_feed_55 (by decide) (fun c82_55 => absurd c82_55 (by decide)) (fun _ => ?_)
  refine lv_iload_n hx hb dX12_feed_58 rfl (lv_at hl 5 rfl) ?_
  refine lv_goto (tgt := 76) hx hb dX12_feed_59 (by decide) ?_
  refine lv_istore (lv' := [(7, .int p2), (6, .int 8), (0, .ref h0), (1, .int p0), (2, .int p1), (3, .int p2), (4, .int p3), (5, .int p4)]) hx hb dX12_feed_76 hl (by decide) rfl (fun ls hl => ?_)
  refine lv_aload_n hx hb dX12_feed_78 rfl (lv_at hl 2 rfl) ?_
  refine va_get (D := (dC, dI)) (ci := 14) (v := .ref (ad 0)) (C := RX12) (T := TX12) (N := 151) hx hb hts hwX12 hown hK hP 0 rfl rfl 1 (Nat.le_of_ble_eq_true rfl) (hts (.fieldLink RX12 7 "ScriptTypesModel" "tape" "[B") (List.mem_of_getElem? (i := 3) (by decide +kernel))) (fun _ h9 => h9) rfl dX12_feed_79 ?_
  refine lv_aload_n hx hb dX12_feed_82 rfl (lv_at hl 2 rfl) ?_
  refine va_get (D := (dC, dI)) (ci := 14) (v := .int 0) (C := RX12) (T := TX12) (N := 151) hx hb hts hwX12 hown hK hP 0 rfl rfl 2 (Nat.le_of_ble_eq_true rfl) (hts (.fieldLink RX12 293 "ScriptTypesModel" "taped" "I") (List.mem_of_getElem? (i := 2) (by decide +kernel))) (fun _ h9 => h9) rfl dX12_feed_83 ?_
  refine lv_iload hx hb dX12_feed_86 (lv_at hl 1 rfl) ?_
  refine lv_iadd hx hb dX12_feed_88 ?_
  refine lv_topi (fun f_83 ef_83 => ?_)
  obtain rfl : f_83 = 8 := by rw [ef_83]; decide
  refine lv_iload hx hb dX12_feed_89 (lv_at hl 0 rfl) ?_
  refine lv_bipush (v := 24) hx hb dX12_feed_91 (by decide) ?_
  refine lv_bipush (v := 8) hx hb dX12_feed_93 (by decide) ?_
  refine lv_iload hx hb dX12_feed_95 (lv_at hl 1 rfl) ?_
  refine lv_iconst (v := 4) hx hb dX12_feed_97 (by decide) ?_
  refine lv_irem hx hb dX12_feed_98 (by decide) ?_
  refine lv_topi (fun f_84 ef_84 => ?_)
  obtain rfl : f_84 = 0 := by rw [ef_84]; decide
  refine lv_imul hx hb dX12_feed_99 ?_
  refine lv_topi (fun f_85 ef_85 => ?_)
  obtain rfl : f_85 = 0 := by rw [ef_85]; decide
  refine lv_isub hx hb dX12_feed_100 ?_
  refine lv_topi (fun f_86 ef_86 => ?_)
  obtain rfl : f_86 = 24 := by rw [ef_86]; decide
  refine lv_ishr hx hb dX12_feed_101 ?_
  refine lv_topi (fun f_87 ef_87 => ?_)
  refine lv_i2b hx hb dX12_feed_102 rfl ?_
  refine lv_topi (fun f_88 ef_88 => ?_)
  refine va_bast hx hb hK hP hD hS 1 0 rfl rfl (show ¬ ((8 : Int32) < 0 ∨ 4000 ≤ (8 : Int32).toNatClampNeg) by decide) dX12_feed_103 (fun H locs hP hD hS => ?_)
  obtain ⟨g_89, eg_89⟩ : ∃ g : Nat → Int32, g = upd g_78 (8 : Int32).toNatClampNeg (vp_nar .byte f_88) := ⟨_, rfl⟩
  have hP : va_P (dC, dI) vwCl [(h0, .inr (14, (m_obj ad).set 0 (.int 0))), ((ad 0), .inl (c0, 4000, .inl g_89))] H := by rw [eg_89]; exact hP
  have hD : va_D A [(h0, .inr (14, (m_obj ad).set 0 (.int 0))), ((ad 0), .inl (c0, 4000, .inl g_89))] := by rw [eg_89]; exact hD
  refine lv_iinc (v := 9) (lv' := [(6, .int 9), (7, .int p2), (0, .ref h0), (1, .int p0), (2, .int p1), (3, .int p2), (4, .int p3), (5, .int p4)]) hx hb dX12_feed_104 hl (k := 1) rfl (by decide) (by decide) rfl (fun ls hl => ?_)
  refine lv_goto (tgt := 23) hx hb dX12_feed_107 (by decide) ?_
  refine lv_iload hx hb dX12_feed_23 (lv_at hl 0 rfl) ?_
  refine lv_bipush (v := 20) hx hb dX12_feed_25 (by decide) ?_
  refine lv_icmp_ge (tgt := 110) hx hb dX12_feed_27 (by decide) (fun c90_27 => absurd c90_27 (by decide)) (fun _ => ?_)
  refine lv_iload hx hb dX12_feed_30 (lv_at hl 0 rfl) ?_
  refine lv_iconst (v := 4) hx hb dX12_feed_32 (by decide) ?_
  refine lv_icmp_ge (tgt := 40) hx hb dX12_feed_33 (by decide) (fun _ => ?_) (fun c91_33 => absurd (by decide) c91_33)
  refine lv_iload hx hb dX12_feed_40 (lv_at hl 0 rfl) ?_
  refine lv_bipush (v := 8) hx hb dX12_feed_42 (by decide) ?_
  refine lv_icmp_ge (tgt := 51) hx hb dX12_feed_44 (by decide) (fun _ => ?_) (fun c92_44 => absurd (by decide) c92_44)
  refine lv_iload hx hb dX12_feed_51 (lv_at hl 0 rfl) ?_
  refine lv_bipush (v := 12) hx hb dX12_feed_53 (by decide) ?_
  refine lv_icmp_ge (tgt := 62) hx hb dX12_feed_55 (by decide) (fun c93_55 => absurd c93_55 (by decide)) (fun _ => ?_)
  refine lv_iload_n hx hb dX12_feed_58 rfl (lv_at hl 5 rfl) ?_
  refine lv_goto (tgt := 76) hx hb dX12_feed_59 (by decide) ?_
  refine lv_istore (lv' := [(7, .int p2), (6, .int 9), (0, .ref h0), (1, .int p0), (2, .int p1), (3, .int p2), (4, .int p3), (5, .int p4)]) hx hb dX12_feed_76 hl (by decide) rfl (fun ls hl => ?_)
  refine lv_aload_n hx hb dX12_feed_78 rfl (lv_at hl 2 rfl) ?_
  refine va_get (D := (dC, dI)) (ci := 14) (v := .ref (ad 0)) (C := RX12) (T := TX12) (N := 151) hx hb hts hwX12 hown hK hP 0 rfl rfl 1 (Nat.le_of_ble_eq_true rfl) (hts (.fieldLink RX12 7 "ScriptTypesModel" "tape" "[B") (List.mem_of_getElem? (i := 3) (by decide +kernel))) (fun _ h9 => h9) rfl dX12_feed_79 ?_
  refine lv_aload_n hx hb dX12_feed_82 rfl (lv_at hl 2 rfl) ?_
  refine va_get (D := (dC, dI)) (ci := 14) (v := .int 0) (C := RX12) (T := TX12) (N := 151) hx hb hts hwX12 hown hK hP 0 rfl rfl 2 (Nat.le_of_ble_eq_true rfl) (hts (.fieldLink RX12 293 "ScriptTypesModel" "taped" "I") (List.mem_of_getElem? (i := 2) (by decide +kernel))) (fun _ h9 => h9) rfl dX12_feed_83 ?_
  refine lv_iload hx hb dX12_feed_86 (lv_at hl 1 rfl) ?_
  refine lv_iadd hx hb dX12_feed_88 ?_
  refine lv_topi (fun f_94 ef_94 => ?_)
  obtain rfl : f_94 = 9 := by rw [ef_94]; decide
  refine lv_iload hx hb dX12_feed_89 (lv_at hl 0 rfl) ?_
  refine lv_bipush (v := 24) hx hb dX12_feed_91 (by decide) ?_
  refine lv_bipush (v := 8) hx hb dX12_feed_93 (by decide) ?_
  refine lv_iload hx hb dX12_feed_95 (lv_at hl 1 rfl) ?_
  refine lv_iconst (v := 4) hx hb dX12_feed_97 (by decide) ?_
  refine lv_irem hx hb dX12_feed_98 (by decide) ?_
  refine lv_topi (fun f_95 ef_95 => ?_)
  obtain rfl : f_95 = 1 := by rw [ef_95]; decide
  refine lv_imul hx hb dX12_feed_99 ?_
  refine lv_topi (fun f_96 ef_96 => ?_)
  obtain rfl : f_96 = 8 := by rw [ef_96]; decide
  refine lv_isub hx hb dX12_feed_100 ?_
  refine lv_topi (fun f_97 ef_97 => ?_)
  obtain rfl : f_97 = 16 := by rw [ef_97]; decide
  refine lv_ishr hx hb dX12_feed_101 ?_
  refine lv_topi (fun f_98 ef_98 => ?_)
  refine lv_i2b hx hb dX12_feed_102 rfl ?_
  refine lv_topi (fun f_99 ef_99 => ?_)
  refine va_bast hx hb hK hP hD hS 1 0 rfl rfl (show ¬ ((9 : Int32) < 0 ∨ 4000 ≤ (9 : Int32).toNatClampNeg) by decide) dX12_feed_103 (fun H locs hP hD hS => ?_)
  obtain ⟨g_100, eg_100⟩ : ∃ g : Nat → Int32, g = upd g_89 (9 : Int32).toNatClampNeg (vp_nar .byte f_99) := ⟨_, rfl⟩
  have hP : va_P (dC, dI) vwCl [(h0, .inr (14, (m_obj ad).set 0 (.int 0))), ((ad 0), .inl (c0, 4000, .inl g_100))] H := by rw [eg_100]; exact hP
  have hD : va_D A [(h0, .inr (14, (m_obj ad).set 0 (.int 0))), ((ad 0), .inl (c0, 4000, .inl g_100))] := by rw [eg_100]; exact hD
  refine lv_iinc (v := 10) (lv' := [(6, .int 10), (7, .int p2), (0, .ref h0), (1, .int p0), (2, .int p1), (3, .int p2), (4, .int p3), (5, .int p4)]) hx hb dX12_feed_104 hl (k := 1) rfl (by decide) (by decide) rfl (fun ls hl => ?_)
  refine lv_goto (tgt := 23) hx hb dX12_feed_107 (by decide) ?_
  refine lv_iload hx hb dX12_feed_23 (lv_at hl 0 rfl) ?_
  refine lv_bipush (v := 20) hx hb dX12_feed_25 (by decide) ?_
  refine lv_icmp_ge (tgt := 110) hx hb dX12_feed_27 (by decide) (fun c101_27 => absurd c101_27 (by decide)) (fun _ => ?_)
  refine lv_iload hx hb dX12_feed_30 (lv_at hl 0 rfl) ?_
  refine lv_iconst (v := 4) hx hb dX12_feed_32 (by decide) ?_
  refine lv_icmp_ge (tgt := 40) hx hb dX12_feed_33 (by decide) (fun _ => ?_) (fun c102_33 => absurd (by decide) c102_33)
  refine lv_iload hx hb dX12_feed_40 (lv_at hl 0 rfl) ?_
  refine lv_bipush (v := 8) hx hb dX12_feed_42 (by decide) ?_
  refine lv_icmp_ge (tgt := 51) hx hb dX12_feed_44 (by decide) (fun _ => ?_) (fun c103_44 => absurd (by decide) c103_44)
  refine lv_iload hx hb dX12_feed_51 (lv_at hl 0 rfl) ?_
  refine lv_bipush (v := 12) hx hb dX12_feed_53 (by decide) ?_
  refine lv_icmp_ge (tgt := 62) hx hb dX12_feed_55 (by decide) (fun c104_55 => absurd c104_55 (by decide)) (fun _ => ?_)
  refine lv_iload_n hx hb dX12_feed_58 rfl (lv_at hl 5 rfl) ?_
  refine lv_goto (tgt := 76) hx hb dX12_feed_59 (by decide) ?_
  refine lv_istore (lv' := [(7, .int p2), (6, .int 10), (0, .ref h0), (1, .int p0), (2, .int p1), (3, .int p2), (4, .int p3), (5, .int p4)]) hx hb dX12_feed_76 hl (by decide) rfl (fun ls hl => ?_)
  refine lv_aload_n hx hb dX12_feed_78 rfl (lv_at hl 2 rfl) ?_
  refine va_get (D := (dC, dI)) (ci := 14) (v := .ref (ad 0)) (C := RX12) (T := TX12) (N := 151) hx hb hts hwX12 hown hK hP 0 rfl rfl 1 (Nat.le_of_ble_eq_true rfl) (hts (.fieldLink RX12 7 "ScriptTypesModel" "tape" "[B") (List.mem_of_getElem? (i := 3) (by decide +kernel))) (fun _ h9 => h9) rfl dX12_feed_79 ?_
  refine lv_aload_n hx hb dX12_feed_82 rfl (lv_at hl 2 rfl) ?_
  refine va_get (D := (dC, dI)) (ci := 14) (v := .int 0) (C := RX12) (T := TX12) (N := 151) hx hb hts hwX12 hown hK hP 0 rfl rfl 2 (Nat.le_of_ble_eq_true rfl) (hts (.fieldLink RX12 293 "ScriptTypesModel" "taped" "I") (List.mem_of_getElem? (i := 2) (by decide +kernel))) (fun _ h9 => h9) rfl dX12_feed_83 ?_
  refine lv_iload hx hb dX12_feed_86 (lv_at hl 1 rfl) ?_
  refine lv_iadd hx hb dX12_feed_88 ?_
  refine lv_topi (fun f_105 ef_105 => ?_)
  obtain rfl : f_105 = 10 := by rw [ef_105]; decide
  refine lv_iload hx hb dX12_feed_89 (lv_at hl 0 rfl) ?_
  refine lv_bipush (v := 24) hx hb dX12_feed_91 (by decide) ?_
  refine lv_bipush (v := 8) hx hb dX12_feed_93 (by decide) ?_
  refine lv_iload hx hb dX12_feed_95 (lv_at hl 1 rfl) ?_
  refine lv_iconst (v := 4) hx hb dX12_feed_97 (by decide) ?_
  refine lv_irem hx hb dX12_feed_98 (by decide) ?_
  refine lv_topi (fun f_106 ef_106 => ?_)
  obtain rfl : f_106 = 2 := by rw [ef_106]; decide
  refine lv_imul hx hb dX12_feed_99 ?_
  refine lv_topi (fun f_107 ef_107 => ?_)
  obtain rfl : f_107 = 16 := by rw [ef_107]; decide
  refine lv_isub hx hb dX12_feed_100 ?_
  refine lv_topi (fun f_108 ef_108 => ?_)
  obtain rfl : f_108 = 8 := by rw [ef_108]; decide
  refine lv_ishr hx hb dX12_feed_101 ?_
  refine lv_topi (fun f_109 ef_109 => ?_)
  refine lv_i2b hx hb dX12_feed_102 rfl ?_
  refine lv_topi (fun f_110 ef_110 => ?_)
  refine va_bast hx hb hK hP hD hS 1 0 rfl rfl (show ¬ ((10 : Int32) < 0 ∨ 4000 ≤ (10 : Int32).toNatClampNeg) by decide) dX12_feed_103 (fun H locs hP hD hS => ?_)
  obtain ⟨g_111, eg_111⟩ : ∃ g : Nat → Int32, g = upd g_100 (10 : Int32).toNatClampNeg (vp_nar .byte f_110) := ⟨_, rfl⟩
  have hP : va_P (dC, dI) vwCl [(h0, .inr (14, (m_obj ad).set 0 (.int 0))), ((ad 0), .inl (c0, 4000, .inl g_111))] H := by rw [eg_111]; exact hP
  have hD : va_D A [(h0, .inr (14, (m_obj ad).set 0 (.int 0))), ((ad 0), .inl (c0, 4000, .inl g_111))] := by rw [eg_111]; exact hD
  refine lv_iinc (v := 11) (lv' := [(6, .int 11), (7, .int p2), (0, .ref h0), (1, .int p0), (2, .int p1), (3, .int p2), (4, .int p3), (5, .int p4)]) hx hb dX12_feed_104 hl (k := 1) rfl (by decide) (by decide) rfl (fun ls hl => ?_)
  refine lv_goto (tgt := 23) hx hb dX12_feed_107 (by decide) ?_
  refine lv_iload hx hb dX12_feed_23 (lv_at hl 0 rfl) ?_
  refine lv_bipush (v := 20) hx hb dX12_feed_25 (by decide) ?_
  refine lv_icmp_ge (tgt := 110) hx hb dX12_feed_27 (by decide) (fun c112_27 => absurd c112_27 (by decide)) (fun _ => ?_)
  refine lv_iload hx hb dX12_feed_30 (lv_at hl 0 rfl) ?_
  refine lv_iconst (v := 4) hx hb dX12_feed_32 (by decide) ?_
  refine lv_icmp_ge (tgt := 40) hx hb dX12_feed_33 (by decide) (fun _ => ?_) (fun c113_33 => absurd (by decide) c113_33)
  refine lv_iload hx hb dX12_feed_40 (lv_at hl 0 rfl) ?_
  refine lv_bipush (v := 8) hx hb dX12_feed_42 (by decide) ?_
  refine lv_icmp_ge (tgt := 51) hx hb dX12_feed_44 (by decide) (fun _ => ?_) (fun c114_44 => absurd (by decide) c114_44)
  refine lv_iload hx hb dX12_feed_51 (lv_at hl 0 rfl) ?_
  refine lv_bipush (v := 12) hx hb dX12_feed_53 (by decide) ?_
  refine lv_icmp_ge (tgt := 62) hx hb dX12_feed_55 (by decide) (fun c115_55 => absurd c115_55 (by decide)) (fun _ => ?_)
  refine lv_iload_n hx hb dX12_feed_58 rfl (lv_at hl 5 rfl) ?_
  refine lv_goto (tgt := 76) hx hb dX12_feed_59 (by decide) ?_
  refine lv_istore (lv' := [(7, .int p2), (6, .int 11), (0, .ref h0), (1, .int p0), (2, .int p1), (3, .int p2), (4, .int p3), (5, .int p4)]) hx hb dX12_feed_76 hl (by decide) rfl (fun ls hl => ?_)
  refine lv_aload_n hx hb dX12_feed_78 rfl (lv_at hl 2 rfl) ?_
  refine va_get (D := (dC, dI)) (ci := 14) (v := .ref (ad 0)) (C := RX12) (T := TX12) (N := 151) hx hb hts hwX12 hown hK hP 0 rfl rfl 1 (Nat.le_of_ble_eq_true rfl) (hts (.fieldLink RX12 7 "ScriptTypesModel" "tape" "[B") (List.mem_of_getElem? (i := 3) (by decide +kernel))) (fun _ h9 => h9) rfl dX12_feed_79 ?_
  refine lv_aload_n hx hb dX12_feed_82 rfl (lv_at hl 2 rfl) ?_
  refine va_get (D := (dC, dI)) (ci := 14) (v := .int 0) (C := RX12) (T := TX12) (N := 151) hx hb hts hwX12 hown hK hP 0 rfl rfl 2 (Nat.le_of_ble_eq_true rfl) (hts (.fieldLink RX12 293 "ScriptTypesModel" "taped" "I") (List.mem_of_getElem? (i := 2) (by decide +kernel))) (fun _ h9 => h9) rfl dX12_feed_83 ?_
  refine lv_iload hx hb dX12_feed_86 (lv_at hl 1 rfl) ?_
  refine lv_iadd hx hb dX12_feed_88 ?_
  refine lv_topi (fun f_116 ef_116 => ?_)
  obtain rfl : f_116 = 11 := by rw [ef_116]; decide
  refine lv_iload hx hb dX12_feed_89 (lv_at hl 0 rfl) ?_
  refine lv_bipush (v := 24) hx hb dX12_feed_91 (by decide) ?_
  refine lv_bipush (v := 8) hx hb dX12_feed_93 (by decide) ?_
  refine lv_iload hx hb dX12_feed_95 (lv_at hl 1 rfl) ?_
  refine lv_iconst (v := 4) hx hb dX12_feed_97 (by decide) ?_
  refine lv_irem hx hb dX12_feed_98 (by decide) ?_
  refine lv_topi (fun f_117 ef_117 => ?_)
  obtain rfl : f_117 = 3 := by rw [ef_117]; decide
  refine lv_imul hx hb dX12_feed_99 ?_
  refine lv_topi (fun f_118 ef_118 => ?_)
  obtain rfl : f_118 = 24 := by rw [ef_118]; decide
  refine lv_isub hx hb dX12_feed_100 ?_
  refine lv_topi (fun f_119 ef_119 => ?_)
  obtain rfl : f_119 = 0 := by rw [ef_119]; decide
  refine lv_ishr hx hb dX12_feed_101 ?_
  refine lv_topi (fun f_120 ef_120 => ?_)
  refine lv_i2b hx hb dX12_feed_102 rfl ?_
  refine lv_topi (fun f_121 ef_121 => ?_)
  refine va_bast hx hb hK hP hD hS 1 0 rfl rfl (show ¬ ((11 : Int32) < 0 ∨ 4000 ≤ (11 : Int32).toNatClampNeg) by decide) dX12_feed_103 (fun H locs hP hD hS => ?_)
  obtain ⟨g_122, eg_122⟩ : ∃ g : Nat → Int32, g = upd g_111 (11 : Int32).toNatClampNeg (vp_nar .byte f_121) := ⟨_, rfl⟩
  have hP : va_P (dC, dI) vwCl [(h0, .inr (14, (m_obj ad).set 0 (.int 0))), ((ad 0), .inl (c0, 4000, .inl g_122))] H := by rw [eg_122]; exact hP
  have hD : va_D A [(h0, .inr (14, (m_obj ad).set 0 (.int 0))), ((ad 0), .inl (c0, 4000, .inl g_122))] := by rw [eg_122]; exact hD
  refine lv_iinc (v := 12) (lv' := [(6, .int 12), (7, .int p2), (0, .ref h0), (1, .int p0), (2, .int p1), (3, .int p2), (4, .int p3), (5, .int p4)]) hx hb dX12_feed_104 hl (k := 1) rfl (by decide) (by decide) rfl (fun ls hl => ?_)
  refine lv_goto (tgt := 23) hx hb dX12_feed_107 (by decide) ?_
  refine lv_iload hx hb dX12_feed_23 (lv_at hl 0 rfl) ?_
  refine lv_bipush (v := 20) hx hb dX12_feed_25 (by decide) ?_
  refine lv_icmp_ge (tgt := 110) hx hb dX12_feed_27 (by decide) (fun c123_27 => absurd c123_27 (by decide)) (fun _ => ?_)
  refine lv_iload hx hb dX12_feed_30 (lv_at hl 0 rfl) ?_
  refine lv_iconst (v := 4) hx hb dX12_feed_32 (by decide) ?_
  refine lv_icmp_ge (tgt := 40) hx hb dX12_feed_33 (by decide) (fun _ => ?_) (fun c124_33 => absurd (by decide) c124_33)
  refine lv_iload hx hb dX12_feed_40 (lv_at hl 0 rfl) ?_
  refine lv_bipush (v := 8) hx hb dX12_feed_42 (by decide) ?_
  refine lv_icmp_ge (tgt := 51) hx hb dX12_feed_44 (by decide) (fun _ => ?_) (fun c125_44 => absurd (by decide) c125_44)
  refine lv_iload hx hb dX12_feed_51 (lv_at hl 0 rfl) ?_
  refine lv_bipush (v := 12) hx hb dX12_feed_53 (by decide) ?_
  refine lv_icmp_ge (tgt := 62) hx hb dX12_feed_55 (by decide) (fun _ => ?_) (fun c126_55 => absurd (by decide) c126_55)
  refine lv_iload hx hb dX12_feed_62 (lv_at hl 0 rfl) ?_
  refine lv_bipush (v := 16) hx hb dX12_feed_64 (by decide) ?_
  refine lv_icmp_ge (tgt := 74) hx hb dX12_feed_66 (by decide) (fun c127_66 => absurd c127_66 (by decide)) (fun _ => ?_)
  refine lv_iload hx hb dX12_feed_69 (lv_at hl 6 rfl) ?_
  refine lv_goto (tgt := 76) hx hb dX12_feed_71 (by decide) ?_
  refine lv_istore (lv' := [(7, .int p3), (6, .int 12), (0, .ref h0), (1, .int p0), (2, .int p1), (3, .int p2), (4, .int p3), (5, .int p4)]) hx hb dX12_feed_76 hl (by decide) rfl (fun ls hl => ?_)
  refine lv_aload_n hx hb dX12_feed_78 rfl (lv_at hl 2 rfl) ?_
  refine va_get (D := (dC, dI)) (ci := 14) (v := .ref (ad 0)) (C := RX12) (T := TX12) (N := 151) hx hb hts hwX12 hown hK hP 0 rfl rfl 1 (Nat.le_of_ble_eq_true rfl) (hts (.fieldLink RX12 7 "ScriptTypesModel" "tape" "[B") (List.mem_of_getElem? (i := 3) (by decide +kernel))) (fun _ h9 => h9) rfl dX12_feed_79 ?_
  refine lv_aload_n hx hb dX12_feed_82 rfl (lv_at hl 2 rfl) ?_
  refine va_get (D := (dC, dI)) (ci := 14) (v := .int 0) (C := RX12) (T := TX12) (N := 151) hx hb hts hwX12 hown hK hP 0 rfl rfl 2 (Nat.le_of_ble_eq_true rfl) (hts (.fieldLink RX12 293 "ScriptTypesModel" "taped" "I") (List.mem_of_getElem? (i := 2) (by decide +kernel))) (fun _ h9 => h9) rfl dX12_feed_83 ?_
  refine lv_iload hx hb dX12_feed_86 (lv_at hl 1 rfl) ?_
  refine lv_iadd hx hb dX12_feed_88 ?_
  refine lv_topi (fun f_128 ef_128 => ?_)
  obtain rfl : f_128 = 12 := by rw [ef_128]; decide
  refine lv_iload hx hb dX12_feed_89 (lv_at hl 0 rfl) ?_
  refine lv_bipush (v := 24) hx hb dX12_feed_91 (by decide) ?_
  refine lv_bipush (v := 8) hx hb dX12_feed_93 (by decide) ?_
  refine lv_iload hx hb dX12_feed_95 (lv_at hl 1 rfl) ?_
  refine lv_iconst (v := 4) hx hb dX12_feed_97 (by decide) ?_
  refine lv_irem hx hb dX12_feed_98 (by decide) ?_
  refine lv_topi (fun f_129 ef_129 => ?_)
  obtain rfl : f_129 = 0 := by rw [ef_129]; decide
  refine lv_imul hx hb dX12_feed_99 ?_
  refine lv_topi (fun f_130 ef_130 => ?_)
  obtain rfl : f_130 = 0 := by rw [ef_130]; decide
  refine lv_isub hx hb dX12_feed_100 ?_
  refine lv_topi (fun f_131 ef_131 => ?_)
  obtain rfl : f_131 = 24 := by rw [ef_131]; decide
  refine lv_ishr hx hb dX12_feed_101 ?_
  refine lv_topi (fun f_132 ef_132 => ?_)
  refine lv_i2b hx hb dX12_feed_102 rfl ?_
  refine lv_topi (fun f_133 ef_133 => ?_)
  refine va_bast hx hb hK hP hD hS 1 0 rfl rfl (show ¬ ((12 : Int32) < 0 ∨ 4000 ≤ (12 : Int32).toNatClampNeg) by decide) dX12_feed_103 (fun H locs hP hD hS => ?_)
  obtain ⟨g_134, eg_134⟩ : ∃ g : Nat → Int32, g = upd g_122 (12 : Int32).toNatClampNeg (vp_nar .byte f_133) := ⟨_, rfl⟩
  have hP : va_P (dC, dI) vwCl [(h0, .inr (14, (m_obj ad).set 0 (.int 0))), ((ad 0), .inl (c0, 4000, .inl g_134))] H := by rw [eg_134]; exact hP
  have hD : va_D A [(h0, .inr (14, (m_obj ad).set 0 (.int 0))), ((ad 0), .inl (c0, 4000, .inl g_134))] := by rw [eg_134]; exact hD
  refine lv_iinc (v := 13) (lv' := [(6, .int 13), (7, .int p3), (0, .ref h0), (1, .int p0), (2, .int p1), (3, .int p2), (4, .int p3), (5, .int p4)]) hx hb dX12_feed_104 hl (k := 1) rfl (by decide) (by decide) rfl (fun ls hl => ?_)
  refine lv_goto (tgt := 23) hx hb dX12_feed_107 (by decide) ?_
  refine lv_iload hx hb dX12_feed_23 (lv_at hl 0 rfl) ?_
  refine lv_bipush (v := 20) hx hb dX12_feed_25 (by decide) ?_
  refine lv_icmp_ge (tgt := 110) hx hb dX12_feed_27 (by decide) (fun c135_27 => absurd c135_27 (by decide)) (fun _ => ?_)
  refine lv_iload hx hb dX12_feed_30 (lv_at hl 0 rfl) ?_
  refine lv_iconst (v := 4) hx hb dX12_feed_32 (by decide) ?_
  refine lv_icmp_ge (tgt := 40) hx hb dX12_feed_33 (by decide) (fun _ => ?_) (fun c136_33 => absurd (by decide) c136_33)
  refine lv_iload hx hb dX12_feed_40 (lv_at hl 0 rfl) ?_
  refine lv_bipush (v := 8) hx hb dX12_feed_42 (by decide) ?_
  refine lv_icmp_ge (tgt := 51) hx hb dX12_feed_44 (by decide) (fun _ => ?_) (fun c137_44 => absurd (by decide) c137_44)
  refine lv_iload hx hb dX12_feed_51 (lv_at hl 0 rfl) ?_
  refine lv_bipush (v := 12) hx hb dX12_feed_53 (by decide) ?_
  refine lv_icmp_ge (tgt := 62) hx hb dX12_feed_55 (by decide) (fun _ => ?_) (fun c138_55 => absurd (by decide) c138_55)
  refine lv_iload hx hb dX12_feed_62 (lv_at hl 0 rfl) ?_
  refine lv_bipush (v := 16) hx hb dX12_feed_64 (by decide) ?_
  refine lv_icmp_ge (tgt := 74) hx hb dX12_feed_66 (by decide) (fun c139_66 => absurd c139_66 (by decide)) (fun _ => ?_)
  refine lv_iload hx hb dX12_feed_69 (lv_at hl 6 rfl) ?_
  refine lv_goto (tgt := 76) hx hb dX12_feed_71 (by decide) ?_
  refine lv_istore (lv' := [(7, .int p3), (6, .int 13), (0, .ref h0), (1, .int p0), (2, .int p1), (3, .int p2), (4, .int p3), (5, .int p4)]) hx hb dX12_feed_76 hl (by decide) rfl (fun ls hl => ?_)
  refine lv_aload_n hx hb dX12_feed_78 rfl (lv_at hl 2 rfl) ?_
  refine va_get (D := (dC, dI)) (ci := 14) (v := .ref (ad 0)) (C := RX12) (T := TX12) (N := 151) hx hb hts hwX12 hown hK hP 0 rfl rfl 1 (Nat.le_of_ble_eq_true rfl) (hts (.fieldLink RX12 7 "ScriptTypesModel" "tape" "[B") (List.mem_of_getElem? (i := 3) (by decide +kernel))) (fun _ h9 => h9) rfl dX12_feed_79 ?_
  refine lv_aload_n hx hb dX12_feed_82 rfl (lv_at hl 2 rfl) ?_
  refine va_get (D := (dC, dI)) (ci := 14) (v := .int 0) (C := RX12) (T := TX12) (N := 151) hx hb hts hwX12 hown hK hP 0 rfl rfl 2 (Nat.le_of_ble_eq_true rfl) (hts (.fieldLink RX12 293 "ScriptTypesModel" "taped" "I") (List.mem_of_getElem? (i := 2) (by decide +kernel))) (fun _ h9 => h9) rfl dX12_feed_83 ?_
  refine lv_iload hx hb dX12_feed_86 (lv_at hl 1 rfl) ?_
  refine lv_iadd hx hb dX12_feed_88 ?_
  refine lv_topi (fun f_140 ef_140 => ?_)
  obtain rfl : f_140 = 13 := by rw [ef_140]; decide
  refine lv_iload hx hb dX12_feed_89 (lv_at hl 0 rfl) ?_
  refine lv_bipush (v := 24) hx hb dX12_feed_91 (by decide) ?_
  refine lv_bipush (v := 8) hx hb dX12_feed_93 (by decide) ?_
  refine lv_iload hx hb dX12_feed_95 (lv_at hl 1 rfl) ?_
  refine lv_iconst (v := 4) hx hb dX12_feed_97 (by decide) ?_
  refine lv_irem hx hb dX12_feed_98 (by decide) ?_
  refine lv_topi (fun f_141 ef_141 => ?_)
  obtain rfl : f_141 = 1 := by rw [ef_141]; decide
  refine lv_imul hx hb dX12_feed_99 ?_
  refine lv_topi (fun f_142 ef_142 => ?_)
  obtain rfl : f_142 = 8 := by rw [ef_142]; decide
  refine lv_isub hx hb dX12_feed_100 ?_
  refine lv_topi (fun f_143 ef_143 => ?_)
  obtain rfl : f_143 = 16 := by rw [ef_143]; decide
  refine lv_ishr hx hb dX12_feed_101 ?_
  refine lv_topi (fun f_144 ef_144 => ?_)
  refine lv_i2b hx hb dX12_feed_102 rfl ?_
  refine lv_topi (fun f_145 ef_145 => ?_)
  refine va_bast hx hb hK hP hD hS 1 0 rfl rfl (show ¬ ((13 : Int32) < 0 ∨ 4000 ≤ (13 : Int32).toNatClampNeg) by decide) dX12_feed_103 (fun H locs hP hD hS => ?_)
  obtain ⟨g_146, eg_146⟩ : ∃ g : Nat → Int32, g = upd g_134 (13 : Int32).toNatClampNeg (vp_nar .byte f_145) := ⟨_, rfl⟩
  have hP : va_P (dC, dI) vwCl [(h0, .inr (14, (m_obj ad).set 0 (.int 0))), ((ad 0), .inl (c0, 4000, .inl g_146))] H := by rw [eg_146]; exact hP
  have hD : va_D A [(h0, .inr (14, (m_obj ad).set 0 (.int 0))), ((ad 0), .inl (c0, 4000, .inl g_146))] := by rw [eg_146]; exact hD
  refine lv_iinc (v := 14) (lv' := [(6, .int 14), (7, .int p3), (0, .ref h0), (1, .int p0), (2, .int p1), (3, .int p2), (4, .int p3), (5, .int p4)]) hx hb dX12_feed_104 hl (k := 1) rfl (by decide) (by decide) rfl (fun ls hl => ?_)
  refine lv_goto (tgt := 23) hx hb dX12_feed_107 (by decide) ?_
  refine lv_iload hx hb dX12_feed_23 (lv_at hl 0 rfl) ?_
  refine lv_bipush (v := 20) hx hb dX12_feed_25 (by decide) ?_
  refine lv_icmp_ge (tgt := 110) hx hb dX12_feed_27 (by decide) (fun c147_27 => absurd c147_27 (by decide)) (fun _ => ?_)
  refine lv_iload hx hb dX12_feed_30 (lv_at hl 0 rfl) ?_
  refine lv_iconst (v := 4) hx hb dX12_feed_32 (by decide) ?_
  refine lv_icmp_ge (tgt := 40) hx hb dX12_feed_33 (by decide) (fun _ => ?_) (fun c148_33 => absurd (by decide) c148_33)
  refine lv_iload hx hb dX12_feed_40 (lv_at hl 0 rfl) ?_
  refine lv_bipush (v := 8) hx hb dX12_feed_42 (by decide) ?_
  refine lv_icmp_ge (tgt := 51) hx hb dX12_feed_44 (by decide) (fun _ => ?_) (fun c149_44 => absurd (by decide) c149_44)
  refine lv_iload hx hb dX12_feed_51 (lv_at hl 0 rfl) ?_
  refine lv_bipush (v := 12) hx hb dX12_feed_53 (by decide) ?_
  refine lv_icmp_ge (tgt := 62) hx hb dX12_feed_55 (by decide) (fun _ => ?_) (fun c150_55 => absurd (by decide) c150_55)
  refine lv_iload hx hb dX12_feed_62 (lv_at hl 0 rfl) ?_
  refine lv_bipush (v := 16) hx hb dX12_feed_64 (by decide) ?_
  refine lv_icmp_ge (tgt := 74) hx hb dX12_feed_66 (by decide) (fun c151_66 => absurd c151_66 (by decide)) (fun _ => ?_)
  refine lv_iload hx hb dX12_feed_69 (lv_at hl 6 rfl) ?_
  refine lv_goto (tgt := 76) hx hb dX12_feed_71 (by decide) ?_
  refine lv_istore (lv' := [(7, .int p3), (6, .int 14), (0, .ref h0), (1, .int p0), (2, .int p1), (3, .int p2), (4, .int p3), (5, .int p4)]) hx hb dX12_feed_76 hl (by decide) rfl (fun ls hl => ?_)
  refine lv_aload_n hx hb dX12_feed_78 rfl (lv_at hl 2 rfl) ?_
  refine va_get (D := (dC, dI)) (ci := 14) (v := .ref (ad 0)) (C := RX12) (T := TX12) (N := 151) hx hb hts hwX12 hown hK hP 0 rfl rfl 1 (Nat.le_of_ble_eq_true rfl) (hts (.fieldLink RX12 7 "ScriptTypesModel" "tape" "[B") (List.mem_of_getElem? (i := 3) (by decide +kernel))) (fun _ h9 => h9) rfl dX12_feed_79 ?_
  refine lv_aload_n hx hb dX12_feed_82 rfl (lv_at hl 2 rfl) ?_
  refine va_get (D := (dC, dI)) (ci := 14) (v := .int 0) (C := RX12) (T := TX12) (N := 151) hx hb hts hwX12 hown hK hP 0 rfl rfl 2 (Nat.le_of_ble_eq_true rfl) (hts (.fieldLink RX12 293 "ScriptTypesModel" "taped" "I") (List.mem_of_getElem? (i := 2) (by decide +kernel))) (fun _ h9 => h9) rfl dX12_feed_83 ?_
  refine lv_iload hx hb dX12_feed_86 (lv_at hl 1 rfl) ?_
  refine lv_iadd hx hb dX12_feed_88 ?_
  refine lv_topi (fun f_152 ef_152 => ?_)
  obtain rfl : f_152 = 14 := by rw [ef_152]; decide
  refine lv_iload hx hb dX12_feed_89 (lv_at hl 0 rfl) ?_
  refine lv_bipush (v := 24) hx hb dX12_feed_91 (by decide) ?_
  refine lv_bipush (v := 8) hx hb dX12_feed_93 (by decide) ?_
  refine lv_iload hx hb dX12_feed_95 (lv_at hl 1 rfl) ?_
  refine lv_iconst (v := 4) hx hb dX12_feed_97 (by decide) ?_
  refine lv_irem hx hb dX12_feed_98 (by decide) ?_
  refine lv_topi (fun f_153 ef_153 => ?_)
  obtain rfl : f_153 = 2 := by rw [ef_153]; decide
  refine lv_imul hx hb dX12_feed_99 ?_
  refine lv_topi (fun f_154 ef_154 => ?_)
  obtain rfl : f_154 = 16 := by rw [ef_154]; decide
  refine lv_isub hx hb dX12_feed_100 ?_
  refine lv_topi (fun f_155 ef_155 => ?_)
  obtain rfl : f_155 = 8 := by rw [ef_155]; decide
  refine lv_ishr hx hb dX12_feed_101 ?_
  refine lv_topi (fun f_156 ef_156 => ?_)
  refine lv_i2b hx hb dX12_feed_102 rfl ?_
  refine lv_topi (fun f_157 ef_157 => ?_)
  refine va_bast hx hb hK hP hD hS 1 0 rfl rfl (show ¬ ((14 : Int32) < 0 ∨ 4000 ≤ (14 : Int32).toNatClampNeg) by decide) dX12_feed_103 (fun H locs hP hD hS => ?_)
  obtain ⟨g_158, eg_158⟩ : ∃ g : Nat → Int32, g = upd g_146 (14 : Int32).toNatClampNeg (vp_nar .byte f_157) := ⟨_, rfl⟩
  have hP : va_P (dC, dI) vwCl [(h0, .inr (14, (m_obj ad).set 0 (.int 0))), ((ad 0), .inl (c0, 4000, .inl g_158))] H := by rw [eg_158]; exact hP
  have hD : va_D A [(h0, .inr (14, (m_obj ad).set 0 (.int 0))), ((ad 0), .inl (c0, 4000, .inl g_158))] := by rw [eg_158]; exact hD
  refine lv_iinc (v := 15) (lv' := [(6, .int 15), (7, .int p3), (0, .ref h0), (1, .int p0), (2, .int p1), (3, .int p2), (4, .int p3), (5, .int p4)]) hx hb dX12_feed_104 hl (k := 1) rfl (by decide) (by decide) rfl (fun ls hl => ?_)
  refine lv_goto (tgt := 23) hx hb dX12_feed_107 (by decide) ?_
  refine lv_iload hx hb dX12_feed_23 (lv_at hl 0 rfl) ?_
  refine lv_bipush (v := 20) hx hb dX12_feed_25 (by decide) ?_
  refine lv_icmp_ge (tgt := 110) hx hb dX12_feed_27 (by decide) (fun c159_27 => absurd c159_27 (by decide)) (fun _ => ?_)
  refine lv_iload hx hb dX12_feed_30 (lv_at hl 0 rfl) ?_
  refine lv_iconst (v := 4) hx hb dX12_feed_32 (by decide) ?_
  refine lv_icmp_ge (tgt := 40) hx hb dX12_feed_33 (by decide) (fun _ => ?_) (fun c160_33 => absurd (by decide) c160_33)
  refine lv_iload hx hb dX12_feed_40 (lv_at hl 0 rfl) ?_
  refine lv_bipush (v := 8) hx hb dX12_feed_42 (by decide) ?_
  refine lv_icmp_ge (tgt := 51) hx hb dX12_feed_44 (by decide) (fun _ => ?_) (fun c161_44 => absurd (by decide) c161_44)
  refine lv_iload hx hb dX12_feed_51 (lv_at hl 0 rfl) ?_
  refine lv_bipush (v := 12) hx hb dX12_feed_53 (by decide) ?_
  refine lv_icmp_ge (tgt := 62) hx hb dX12_feed_55 (by decide) (fun _ => ?_) (fun c162_55 => absurd (by decide) c162_55)
  refine lv_iload hx hb dX12_feed_62 (lv_at hl 0 rfl) ?_
  refine lv_bipush (v := 16) hx hb dX12_feed_64 (by decide) ?_
  refine lv_icmp_ge (tgt := 74) hx hb dX12_feed_66 (by decide) (fun c163_66 => absurd c163_66 (by decide)) (fun _ => ?_)
  refine lv_iload hx hb dX12_feed_69 (lv_at hl 6 rfl) ?_
  refine lv_goto (tgt := 76) hx hb dX12_feed_71 (by decide) ?_
  refine lv_istore (lv' := [(7, .int p3), (6, .int 15), (0, .ref h0), (1, .int p0), (2, .int p1), (3, .int p2), (4, .int p3), (5, .int p4)]) hx hb dX12_feed_76 hl (by decide) rfl (fun ls hl => ?_)
  refine lv_aload_n hx hb dX12_feed_78 rfl (lv_at hl 2 rfl) ?_
  refine va_get (D := (dC, dI)) (ci := 14) (v := .ref (ad 0)) (C := RX12) (T := TX12) (N := 151) hx hb hts hwX12 hown hK hP 0 rfl rfl 1 (Nat.le_of_ble_eq_true rfl) (hts (.fieldLink RX12 7 "ScriptTypesModel" "tape" "[B") (List.mem_of_getElem? (i := 3) (by decide +kernel))) (fun _ h9 => h9) rfl dX12_feed_79 ?_
  refine lv_aload_n hx hb dX12_feed_82 rfl (lv_at hl 2 rfl) ?_
  refine va_get (D := (dC, dI)) (ci := 14) (v := .int 0) (C := RX12) (T := TX12) (N := 151) hx hb hts hwX12 hown hK hP 0 rfl rfl 2 (Nat.le_of_ble_eq_true rfl) (hts (.fieldLink RX12 293 "ScriptTypesModel" "taped" "I") (List.mem_of_getElem? (i := 2) (by decide +kernel))) (fun _ h9 => h9) rfl dX12_feed_83 ?_
  refine lv_iload hx hb dX12_feed_86 (lv_at hl 1 rfl) ?_
  refine lv_iadd hx hb dX12_feed_88 ?_
  refine lv_topi (fun f_164 ef_164 => ?_)
  obtain rfl : f_164 = 15 := by rw [ef_164]; decide
  refine lv_iload hx hb dX12_feed_89 (lv_at hl 0 rfl) ?_
  refine lv_bipush (v := 24) hx hb dX12_feed_91 (by decide) ?_
  refine lv_bipush (v := 8) hx hb dX12_feed_93 (by decide) ?_
  refine lv_iload hx hb dX12_feed_95 (lv_at hl 1 rfl) ?_
  refine lv_iconst (v := 4) hx hb dX12_feed_97 (by decide) ?_
  refine lv_irem hx hb dX12_feed_98 (by decide) ?_
  refine lv_topi (fun f_165 ef_165 => ?_)
  obtain rfl : f_165 = 3 := by rw [ef_165]; decide
  refine lv_imul hx hb dX12_feed_99 ?_
  refine lv_topi (fun f_166 ef_166 => ?_)
  obtain rfl : f_166 = 24 := by rw [ef_166]; decide
  refine lv_isub hx hb dX12_feed_100 ?_
  refine lv_topi (fun f_167 ef_167 => ?_)
  obtain rfl : f_167 = 0 := by rw [ef_167]; decide
  refine lv_ishr hx hb dX12_feed_101 ?_
  refine lv_topi (fun f_168 ef_168 => ?_)
  refine lv_i2b hx hb dX12_feed_102 rfl ?_
  refine lv_topi (fun f_169 ef_169 => ?_)
  refine va_bast hx hb hK hP hD hS 1 0 rfl rfl (show ¬ ((15 : Int32) < 0 ∨ 4000 ≤ (15 : Int32).toNatClampNeg) by decide) dX12_feed_103 (fun H locs hP hD hS => ?_)
  obtain ⟨g_170, eg_170⟩ : ∃ g : Nat → Int32, g = upd g_158 (15 : Int32).toNatClampNeg (vp_nar .byte f_169) := ⟨_, rfl⟩
  have hP : va_P (dC, dI) vwCl [(h0, .inr (14, (m_obj ad).set 0 (.int 0))), ((ad 0), .inl (c0, 4000, .inl g_170))] H := by rw [eg_170]; exact hP
  have hD : va_D A [(h0, .inr (14, (m_obj ad).set 0 (.int 0))), ((ad 0), .inl (c0, 4000, .inl g_170))] := by rw [eg_170]; exact hD
  refine lv_iinc (v := 16) (lv' := [(6, .int 16), (7, .int p3), (0, .ref h0), (1, .int p0), (2, .int p1), (3, .int p2), (4, .int p3), (5, .int p4)]) hx hb dX12_feed_104 hl (k := 1) rfl (by decide) (by decide) rfl (fun ls hl => ?_)
  refine lv_goto (tgt := 23) hx hb dX12_feed_107 (by decide) ?_
  refine lv_iload hx hb dX12_feed_23 (lv_at hl 0 rfl) ?_
  refine lv_bipush (v := 20) hx hb dX12_feed_25 (by decide) ?_
  refine lv_icmp_ge (tgt := 110) hx hb dX12_feed_27 (by decide) (fun c171_27 => absurd c171_27 (by decide)) (fun _ => ?_)
  refine lv_iload hx hb dX12_feed_30 (lv_at hl 0 rfl) ?_
  refine lv_iconst (v := 4) hx hb dX12_feed_32 (by decide) ?_
  refine lv_icmp_ge (tgt := 40) hx hb dX12_feed_33 (by decide) (fun _ => ?_) (fun c172_33 => absurd (by decide) c172_33)
  refine lv_iload hx hb dX12_feed_40 (lv_at hl 0 rfl) ?_
  refine lv_bipush (v := 8) hx hb dX12_feed_42 (by decide) ?_
  refine lv_icmp_ge (tgt := 51) hx hb dX12_feed_44 (by decide) (fun _ => ?_) (fun c173_44 => absurd (by decide) c173_44)
  refine lv_iload hx hb dX12_feed_51 (lv_at hl 0 rfl) ?_
  refine lv_bipush (v := 12) hx hb dX12_feed_53 (by decide) ?_
  refine lv_icmp_ge (tgt := 62) hx hb dX12_feed_55 (by decide) (fun _ => ?_) (fun c174_55 => absurd (by decide) c174_55)
  refine lv_iload hx hb dX12_feed_62 (lv_at hl 0 rfl) ?_
  refine lv_bipush (v := 16) hx hb dX12_feed_64 (by decide) ?_
  refine lv_icmp_ge (tgt := 74) hx hb dX12_feed_66 (by decide) (fun _ => ?_) (fun c175_66 => absurd (by decide) c175_66)
  refine lv_iload hx hb dX12_feed_74 (lv_at hl 7 rfl) ?_
  refine lv_istore (lv' := [(7, .int p4), (6, .int 16), (0, .ref h0), (1, .int p0), (2, .int p1), (3, .int p2), (4, .int p3), (5, .int p4)]) hx hb dX12_feed_76 hl (by decide) rfl (fun ls hl => ?_)
  refine lv_aload_n hx hb dX12_feed_78 rfl (lv_at hl 2 rfl) ?_
  refine va_get (D := (dC, dI)) (ci := 14) (v := .ref (ad 0)) (C := RX12) (T := TX12) (N := 151) hx hb hts hwX12 hown hK hP 0 rfl rfl 1 (Nat.le_of_ble_eq_true rfl) (hts (.fieldLink RX12 7 "ScriptTypesModel" "tape" "[B") (List.mem_of_getElem? (i := 3) (by decide +kernel))) (fun _ h9 => h9) rfl dX12_feed_79 ?_
  refine lv_aload_n hx hb dX12_feed_82 rfl (lv_at hl 2 rfl) ?_
  refine va_get (D := (dC, dI)) (ci := 14) (v := .int 0) (C := RX12) (T := TX12) (N := 151) hx hb hts hwX12 hown hK hP 0 rfl rfl 2 (Nat.le_of_ble_eq_true rfl) (hts (.fieldLink RX12 293 "ScriptTypesModel" "taped" "I") (List.mem_of_getElem? (i := 2) (by decide +kernel))) (fun _ h9 => h9) rfl dX12_feed_83 ?_
  refine lv_iload hx hb dX12_feed_86 (lv_at hl 1 rfl) ?_
  refine lv_iadd hx hb dX12_feed_88 ?_
  refine lv_topi (fun f_176 ef_176 => ?_)
  obtain rfl : f_176 = 16 := by rw [ef_176]; decide
  refine lv_iload hx hb dX12_feed_89 (lv_at hl 0 rfl) ?_
  refine lv_bipush (v := 24) hx hb dX12_feed_91 (by decide) ?_
  refine lv_bipush (v := 8) hx hb dX12_feed_93 (by decide) ?_
  refine lv_iload hx hb dX12_feed_95 (lv_at hl 1 rfl) ?_
  refine lv_iconst (v := 4) hx hb dX12_feed_97 (by decide) ?_
  refine lv_irem hx hb dX12_feed_98 (by decide) ?_
  refine lv_topi (fun f_177 ef_177 => ?_)
  obtain rfl : f_177 = 0 := by rw [ef_177]; decide
  refine lv_imul hx hb dX12_feed_99 ?_
  refine lv_topi (fun f_178 ef_178 => ?_)
  obtain rfl : f_178 = 0 := by rw [ef_178]; decide
  refine lv_isub hx hb dX12_feed_100 ?_
  refine lv_topi (fun f_179 ef_179 => ?_)
  obtain rfl : f_179 = 24 := by rw [ef_179]; decide
  refine lv_ishr hx hb dX12_feed_101 ?_
  refine lv_topi (fun f_180 ef_180 => ?_)
  refine lv_i2b hx hb dX12_feed_102 rfl ?_
  refine lv_topi (fun f_181 ef_181 => ?_)
  refine va_bast hx hb hK hP hD hS 1 0 rfl rfl (show ¬ ((16 : Int32) < 0 ∨ 4000 ≤ (16 : Int32).toNatClampNeg) by decide) dX12_feed_103 (fun H locs hP hD hS => ?_)
  obtain ⟨g_182, eg_182⟩ : ∃ g : Nat → Int32, g = upd g_170 (16 : Int32).toNatClampNeg (vp_nar .byte f_181) := ⟨_, rfl⟩
  have hP : va_P (dC, dI) vwCl [(h0, .inr (14, (m_obj ad).set 0 (.int 0))), ((ad 0), .inl (c0, 4000, .inl g_182))] H := by rw [eg_182]; exact hP
  have hD : va_D A [(h0, .inr (14, (m_obj ad).set 0 (.int 0))), ((ad 0), .inl (c0, 4000, .inl g_182))] := by rw [eg_182]; exact hD
  refine lv_iinc (v := 17) (lv' := [(6, .int 17), (7, .int p4), (0, .ref h0), (1, .int p0), (2, .int p1), (3, .int p2), (4, .int p3), (5, .int p4)]) hx hb dX12_feed_104 hl (k := 1) rfl (by decide) (by decide) rfl (fun ls hl => ?_)
  refine lv_goto (tgt := 23) hx hb dX12_feed_107 (by decide) ?_
  refine lv_iload hx hb dX12_feed_23 (lv_at hl 0 rfl) ?_
  refine lv_bipush (v := 20) hx hb dX12_feed_25 (by decide) ?_
  refine lv_icmp_ge (tgt := 110) hx hb dX12_feed_27 (by decide) (fun c183_27 => absurd c183_27 (by decide)) (fun _ => ?_)
  refine lv_iload hx hb dX12_feed_30 (lv_at hl 0 rfl) ?_
  refine lv_iconst (v := 4) hx hb dX12_feed_32 (by decide) ?_
  refine lv_icmp_ge (tgt := 40) hx hb dX12_feed_33 (by decide) (fun _ => ?_) (fun c184_33 => absurd (by decide) c184_33)
  refine lv_iload hx hb dX12_feed_40 (lv_at hl 0 rfl) ?_
  refine lv_bipush (v := 8) hx hb dX12_feed_42 (by decide) ?_
  refine lv_icmp_ge (tgt := 51) hx hb dX12_feed_44 (by decide) (fun _ => ?_) (fun c185_44 => absurd (by decide) c185_44)
  refine lv_iload hx hb dX12_feed_51 (lv_at hl 0 rfl) ?_
  refine lv_bipush (v := 12) hx hb dX12_feed_53 (by decide) ?_
  refine lv_icmp_ge (tgt := 62) hx hb dX12_feed_55 (by decide) (fun _ => ?_) (fun c186_55 => absurd (by decide) c186_55)
  refine lv_iload hx hb dX12_feed_62 (lv_at hl 0 rfl) ?_
  refine lv_bipush (v := 16) hx hb dX12_feed_64 (by decide) ?_
  refine lv_icmp_ge (tgt := 74) hx hb dX12_feed_66 (by decide) (fun _ => ?_) (fun c187_66 => absurd (by decide) c187_66)
  refine lv_iload hx hb dX12_feed_74 (lv_at hl 7 rfl) ?_
  refine lv_istore (lv' := [(7, .int p4), (6, .int 17), (0, .ref h0), (1, .int p0), (2, .int p1), (3, .int p2), (4, .int p3), (5, .int p4)]) hx hb dX12_feed_76 hl (by decide) rfl (fun ls hl => ?_)
  refine lv_aload_n hx hb dX12_feed_78 rfl (lv_at hl 2 rfl) ?_
  refine va_get (D := (dC, dI)) (ci := 14) (v := .ref (ad 0)) (C := RX12) (T := TX12) (N := 151) hx hb hts hwX12 hown hK hP 0 rfl rfl 1 (Nat.le_of_ble_eq_true rfl) (hts (.fieldLink RX12 7 "ScriptTypesModel" "tape" "[B") (List.mem_of_getElem? (i := 3) (by decide +kernel))) (fun _ h9 => h9) rfl dX12_feed_79 ?_
  refine lv_aload_n hx hb dX12_feed_82 rfl (lv_at hl 2 rfl) ?_
  refine va_get (D := (dC, dI)) (ci := 14) (v := .int 0) (C := RX12) (T := TX12) (N := 151) hx hb hts hwX12 hown hK hP 0 rfl rfl 2 (Nat.le_of_ble_eq_true rfl) (hts (.fieldLink RX12 293 "ScriptTypesModel" "taped" "I") (List.mem_of_getElem? (i := 2) (by decide +kernel))) (fun _ h9 => h9) rfl dX12_feed_83 ?_
  refine lv_iload hx hb dX12_feed_86 (lv_at hl 1 rfl) ?_
  refine lv_iadd hx hb dX12_feed_88 ?_
  refine lv_topi (fun f_188 ef_188 => ?_)
  obtain rfl : f_188 = 17 := by rw [ef_188]; decide
  refine lv_iload hx hb dX12_feed_89 (lv_at hl 0 rfl) ?_
  refine lv_bipush (v := 24) hx hb dX12_feed_91 (by decide) ?_
  refine lv_bipush (v := 8) hx hb dX12_feed_93 (by decide) ?_
  refine lv_iload hx hb dX12_feed_95 (lv_at hl 1 rfl) ?_
  refine lv_iconst (v := 4) hx hb dX12_feed_97 (by decide) ?_
  refine lv_irem hx hb dX12_feed_98 (by decide) ?_
  refine lv_topi (fun f_189 ef_189 => ?_)
  obtain rfl : f_189 = 1 := by rw [ef_189]; decide
  refine lv_imul hx hb dX12_feed_99 ?_
  refine lv_topi (fun f_190 ef_190 => ?_)
  obtain rfl : f_190 = 8 := by rw [ef_190]; decide
  refine lv_isub hx hb dX12_feed_100 ?_
  refine lv_topi (fun f_191 ef_191 => ?_)
  obtain rfl : f_191 = 16 := by rw [ef_191]; decide
  refine lv_ishr hx hb dX12_feed_101 ?_
  refine lv_topi (fun f_192 ef_192 => ?_)
  refine lv_i2b hx hb dX12_feed_102 rfl ?_
  refine lv_topi (fun f_193 ef_193 => ?_)
  refine va_bast hx hb hK hP hD hS 1 0 rfl rfl (show ¬ ((17 : Int32) < 0 ∨ 4000 ≤ (17 : Int32).toNatClampNeg) by decide) dX12_feed_103 (fun H locs hP hD hS => ?_)
  obtain ⟨g_194, eg_194⟩ : ∃ g : Nat → Int32, g = upd g_182 (17 : Int32).toNatClampNeg (vp_nar .byte f_193) := ⟨_, rfl⟩
  have hP : va_P (dC, dI) vwCl [(h0, .inr (14, (m_obj ad).set 0 (.int 0))), ((ad 0), .inl (c0, 4000, .inl g_194))] H := by rw [eg_194]; exact hP
  have hD : va_D A [(h0, .inr (14, (m_obj ad).set 0 (.int 0))), ((ad 0), .inl (c0, 4000, .inl g_194))] := by rw [eg_194]; exact hD
  refine lv_iinc (v := 18) (lv' := [(6, .int 18), (7, .int p4), (0, .ref h0), (1, .int p0), (2, .int p1), (3, .int p2), (4, .int p3), (5, .int p4)]) hx hb dX12_feed_104 hl (k := 1) rfl (by decide) (by decide) rfl (fun ls hl => ?_)
  refine lv_goto (tgt := 23) hx hb dX12_feed_107 (by decide) ?_
  refine lv_iload hx hb dX12_feed_23 (lv_at hl 0 rfl) ?_
  refine lv_bipush (v := 20) hx hb dX12_feed_25 (by decide) ?_
  refine lv_icmp_ge (tgt := 110) hx hb dX12_feed_27 (by decide) (fun c195_27 => absurd c195_27 (by decide)) (fun _ => ?_)
  refine lv_iload hx hb dX12_feed_30 (lv_at hl 0 rfl) ?_
  refine lv_iconst (v := 4) hx hb dX12_feed_32 (by decide) ?_
  refine lv_icmp_ge (tgt := 40) hx hb dX12_feed_33 (by decide) (fun _ => ?_) (fun c196_33 => absurd (by decide) c196_33)
  refine lv_iload hx hb dX12_feed_40 (lv_at hl 0 rfl) ?_
  refine lv_bipush (v := 8) hx hb dX12_feed_42 (by decide) ?_
  refine lv_icmp_ge (tgt := 51) hx hb dX12_feed_44 (by decide) (fun _ => ?_) (fun c197_44 => absurd (by decide) c197_44)
  refine lv_iload hx hb dX12_feed_51 (lv_at hl 0 rfl) ?_
  refine lv_bipush (v := 12) hx hb dX12_feed_53 (by decide) ?_
  refine lv_icmp_ge (tgt := 62) hx hb dX12_feed_55 (by decide) (fun _ => ?_) (fun c198_55 => absurd (by decide) c198_55)
  refine lv_iload hx hb dX12_feed_62 (lv_at hl 0 rfl) ?_
  refine lv_bipush (v := 16) hx hb dX12_feed_64 (by decide) ?_
  refine lv_icmp_ge (tgt := 74) hx hb dX12_feed_66 (by decide) (fun _ => ?_) (fun c199_66 => absurd (by decide) c199_66)
  refine lv_iload hx hb dX12_feed_74 (lv_at hl 7 rfl) ?_
  refine lv_istore (lv' := [(7, .int p4), (6, .int 18), (0, .ref h0), (1, .int p0), (2, .int p1), (3, .int p2), (4, .int p3), (5, .int p4)]) hx hb dX12_feed_76 hl (by decide) rfl (fun ls hl => ?_)
  refine lv_aload_n hx hb dX12_feed_78 rfl (lv_at hl 2 rfl) ?_
  refine va_get (D := (dC, dI)) (ci := 14) (v := .ref (ad 0)) (C := RX12) (T := TX12) (N := 151) hx hb hts hwX12 hown hK hP 0 rfl rfl 1 (Nat.le_of_ble_eq_true rfl) (hts (.fieldLink RX12 7 "ScriptTypesModel" "tape" "[B") (List.mem_of_getElem? (i := 3) (by decide +kernel))) (fun _ h9 => h9) rfl dX12_feed_79 ?_
  refine lv_aload_n hx hb dX12_feed_82 rfl (lv_at hl 2 rfl) ?_
  refine va_get (D := (dC, dI)) (ci := 14) (v := .int 0) (C := RX12) (T := TX12) (N := 151) hx hb hts hwX12 hown hK hP 0 rfl rfl 2 (Nat.le_of_ble_eq_true rfl) (hts (.fieldLink RX12 293 "ScriptTypesModel" "taped" "I") (List.mem_of_getElem? (i := 2) (by decide +kernel))) (fun _ h9 => h9) rfl dX12_feed_83 ?_
  refine lv_iload hx hb dX12_feed_86 (lv_at hl 1 rfl) ?_
  refine lv_iadd hx hb dX12_feed_88 ?_
  refine lv_topi (fun f_200 ef_200 => ?_)
  obtain rfl : f_200 = 18 := by rw [ef_200]; decide
  refine lv_iload hx hb dX12_feed_89 (lv_at hl 0 rfl) ?_
  refine lv_bipush (v := 24) hx hb dX12_feed_91 (by decide) ?_
  refine lv_bipush (v := 8) hx hb dX12_feed_93 (by decide) ?_
  refine lv_iload hx hb dX12_feed_95 (lv_at hl 1 rfl) ?_
  refine lv_iconst (v := 4) hx hb dX12_feed_97 (by decide) ?_
  refine lv_irem hx hb dX12_feed_98 (by decide) ?_
  refine lv_topi (fun f_201 ef_201 => ?_)
  obtain rfl : f_201 = 2 := by rw [ef_201]; decide
  refine lv_imul hx hb dX12_feed_99 ?_
  refine lv_topi (fun f_202 ef_202 => ?_)
  obtain rfl : f_202 = 16 := by rw [ef_202]; decide
  refine lv_isub hx hb dX12_feed_100 ?_
  refine lv_topi (fun f_203 ef_203 => ?_)
  obtain rfl : f_203 = 8 := by rw [ef_203]; decide
  refine lv_ishr hx hb dX12_feed_101 ?_
  refine lv_topi (fun f_204 ef_204 => ?_)
  refine lv_i2b hx hb dX12_feed_102 rfl ?_
  refine lv_topi (fun f_205 ef_205 => ?_)
  refine va_bast hx hb hK hP hD hS 1 0 rfl rfl (show ¬ ((18 : Int32) < 0 ∨ 4000 ≤ (18 : Int32).toNatClampNeg) by decide) dX12_feed_103 (fun H locs hP hD hS => ?_)
  obtain ⟨g_206, eg_206⟩ : ∃ g : Nat → Int32, g = upd g_194 (18 : Int32).toNatClampNeg (vp_nar .byte f_205) := ⟨_, rfl⟩
  have hP : va_P (dC, dI) vwCl [(h0, .inr (14, (m_obj ad).set 0 (.int 0))), ((ad 0), .inl (c0, 4000, .inl g_206))] H := by rw [eg_206]; exact hP
  have hD : va_D A [(h0, .inr (14, (m_obj ad).set 0 (.int 0))), ((ad 0), .inl (c0, 4000, .inl g_206))] := by rw [eg_206]; exact hD
  refine lv_iinc (v := 19) (lv' := [(6, .int 19), (7, .int p4), (0, .ref h0), (1, .int p0), (2, .int p1), (3, .int p2), (4, .int p3), (5, .int p4)]) hx hb dX12_feed_104 hl (k := 1) rfl (by decide) (by decide) rfl (fun ls hl => ?_)
  refine lv_goto (tgt := 23) hx hb dX12_feed_107 (by decide) ?_
  refine lv_iload hx hb dX12_feed_23 (lv_at hl 0 rfl) ?_
  refine lv_bipush (v := 20) hx hb dX12_feed_25 (by decide) ?_
  refine lv_icmp_ge (tgt := 110) hx hb dX12_feed_27 (by decide) (fun c207_27 => absurd c207_27 (by decide)) (fun _ => ?_)
  refine lv_iload hx hb dX12_feed_30 (lv_at hl 0 rfl) ?_
  refine lv_iconst (v := 4) hx hb dX12_feed_32 (by decide) ?_
  refine lv_icmp_ge (tgt := 40) hx hb dX12_feed_33 (by decide) (fun _ => ?_) (fun c208_33 => absurd (by decide) c208_33)
  refine lv_iload hx hb dX12_feed_40 (lv_at hl 0 rfl) ?_
  refine lv_bipush (v := 8) hx hb dX12_feed_42 (by decide) ?_
  refine lv_icmp_ge (tgt := 51) hx hb dX12_feed_44 (by decide) (fun _ => ?_) (fun c209_44 => absurd (by decide) c209_44)
  refine lv_iload hx hb dX12_feed_51 (lv_at hl 0 rfl) ?_
  refine lv_bipush (v := 12) hx hb dX12_feed_53 (by decide) ?_
  refine lv_icmp_ge (tgt := 62) hx hb dX12_feed_55 (by decide) (fun _ => ?_) (fun c210_55 => absurd (by decide) c210_55)
  refine lv_iload hx hb dX12_feed_62 (lv_at hl 0 rfl) ?_
  refine lv_bipush (v := 16) hx hb dX12_feed_64 (by decide) ?_
  refine lv_icmp_ge (tgt := 74) hx hb dX12_feed_66 (by decide) (fun _ => ?_) (fun c211_66 => absurd (by decide) c211_66)
  refine lv_iload hx hb dX12_feed_74 (lv_at hl 7 rfl) ?_
  refine lv_istore (lv' := [(7, .int p4), (6, .int 19), (0, .ref h0), (1, .int p0), (2, .int p1), (3, .int p2), (4, .int p3), (5, .int p4)]) hx hb dX12_feed_76 hl (by decide) rfl (fun ls hl => ?_)
  refine lv_aload_n hx hb dX12_feed_78 rfl (lv_at hl 2 rfl) ?_
  refine va_get (D := (dC, dI)) (ci := 14) (v := .ref (ad 0)) (C := RX12) (T := TX12) (N := 151) hx hb hts hwX12 hown hK hP 0 rfl rfl 1 (Nat.le_of_ble_eq_true rfl) (hts (.fieldLink RX12 7 "ScriptTypesModel" "tape" "[B") (List.mem_of_getElem? (i := 3) (by decide +kernel))) (fun _ h9 => h9) rfl dX12_feed_79 ?_
  refine lv_aload_n hx hb dX12_feed_82 rfl (lv_at hl 2 rfl) ?_
  refine va_get (D := (dC, dI)) (ci := 14) (v := .int 0) (C := RX12) (T := TX12) (N := 151) hx hb hts hwX12 hown hK hP 0 rfl rfl 2 (Nat.le_of_ble_eq_true rfl) (hts (.fieldLink RX12 293 "ScriptTypesModel" "taped" "I") (List.mem_of_getElem? (i := 2) (by decide +kernel))) (fun _ h9 => h9) rfl dX12_feed_83 ?_
  refine lv_iload hx hb dX12_feed_86 (lv_at hl 1 rfl) ?_
  refine lv_iadd hx hb dX12_feed_88 ?_
  refine lv_topi (fun f_212 ef_212 => ?_)
  obtain rfl : f_212 = 19 := by rw [ef_212]; decide
  refine lv_iload hx hb dX12_feed_89 (lv_at hl 0 rfl) ?_
  refine lv_bipush (v := 24) hx hb dX12_feed_91 (by decide) ?_
  refine lv_bipush (v := 8) hx hb dX12_feed_93 (by decide) ?_
  refine lv_iload hx hb dX12_feed_95 (lv_at hl 1 rfl) ?_
  refine lv_iconst (v := 4) hx hb dX12_feed_97 (by decide) ?_
  refine lv_irem hx hb dX12_feed_98 (by decide) ?_
  refine lv_topi (fun f_213 ef_213 => ?_)
  obtain rfl : f_213 = 3 := by rw [ef_213]; decide
  refine lv_imul hx hb dX12_feed_99 ?_
  refine lv_topi (fun f_214 ef_214 => ?_)
  obtain rfl : f_214 = 24 := by rw [ef_214]; decide
  refine lv_isub hx hb dX12_feed_100 ?_
  refine lv_topi (fun f_215 ef_215 => ?_)
  obtain rfl : f_215 = 0 := by rw [ef_215]; decide
  refine lv_ishr hx hb dX12_feed_101 ?_
  refine lv_topi (fun f_216 ef_216 => ?_)
  refine lv_i2b hx hb dX12_feed_102 rfl ?_
  refine lv_topi (fun f_217 ef_217 => ?_)
  refine va_bast hx hb hK hP hD hS 1 0 rfl rfl (show ¬ ((19 : Int32) < 0 ∨ 4000 ≤ (19 : Int32).toNatClampNeg) by decide) dX12_feed_103 (fun H locs hP hD hS => ?_)
  obtain ⟨g_218, eg_218⟩ : ∃ g : Nat → Int32, g = upd g_206 (19 : Int32).toNatClampNeg (vp_nar .byte f_217) := ⟨_, rfl⟩
  have hP : va_P (dC, dI) vwCl [(h0, .inr (14, (m_obj ad).set 0 (.int 0))), ((ad 0), .inl (c0, 4000, .inl g_218))] H := by rw [eg_218]; exact hP
  have hD : va_D A [(h0, .inr (14, (m_obj ad).set 0 (.int 0))), ((ad 0), .inl (c0, 4000, .inl g_218))] := by rw [eg_218]; exact hD
  refine lv_iinc (v := 20) (lv' := [(6, .int 20), (7, .int p4), (0, .ref h0), (1, .int p0), (2, .int p1), (3, .int p2), (4, .int p3), (5, .int p4)]) hx hb dX12_feed_104 hl (k := 1) rfl (by decide) (by decide) rfl (fun ls hl => ?_)
  refine lv_goto (tgt := 23) hx hb dX12_feed_107 (by decide) ?_
  refine lv_iload hx hb dX12_feed_23 (lv_at hl 0 rfl) ?_
  refine lv_bipush (v := 20) hx hb dX12_feed_25 (by decide) ?_
  refine lv_icmp_ge (tgt := 110) hx hb dX12_feed_27 (by decide) (fun _ => ?_) (fun c219_27 => absurd (by decide) c219_27)
  refine lv_aload_n hx hb dX12_feed_110 rfl (lv_at hl 2 rfl) ?_
  refine lv_dup hx hb dX12_feed_111 rfl ?_
  refine va_get (D := (dC, dI)) (ci := 14) (v := .int 0) (C := RX12) (T := TX12) (N := 151) hx hb hts hwX12 hown hK hP 0 rfl rfl 2 (Nat.le_of_ble_eq_true rfl) (hts (.fieldLink RX12 293 "ScriptTypesModel" "taped" "I") (List.mem_of_getElem? (i := 2) (by decide +kernel))) (fun _ h9 => h9) rfl dX12_feed_112 ?_
  refine lv_bipush (v := 20) hx hb dX12_feed_115 (by decide) ?_
  refine lv_iadd hx hb dX12_feed_117 ?_
  refine lv_topi (fun f_220 ef_220 => ?_)
  obtain rfl : f_220 = 20 := by rw [ef_220]; decide
  refine va_put (D := (dC, dI)) (ci := 14) (v := .int 20) (ty := tyX12 2) (C := RX12) (T := TX12) (N := 151) hx hb hts hwX12 tyX12 tyX12_ok nmX12 hown hK hP hD hS 0 rfl rfl 2 (Nat.le_of_ble_eq_true rfl) (hts (.fieldLink RX12 293 "ScriptTypesModel" "taped" "I") (List.mem_of_getElem? (i := 2) (by decide +kernel))) (fun _ h9 => h9) rfl (tyX12_ok 2 (Nat.le_of_ble_eq_true rfl)) rfl rfl (Nat.le_of_ble_eq_true rfl) dX12_feed_118 (fun H locs hP hD hS => ?_)
  have hP : va_P (dC, dI) vwCl [(h0, .inr (14, ((m_obj ad).set 0 (.int 0)).set 2 (.int 20))), ((ad 0), .inl (c0, 4000, .inl g_218))] H := hP
  have hD : va_D A [(h0, .inr (14, ((m_obj ad).set 0 (.int 0)).set 2 (.int 20))), ((ad 0), .inl (c0, 4000, .inl g_218))] := hD
  refine lv_aload_n hx hb dX12_feed_121 rfl (lv_at hl 2 rfl) ?_
  refine va_get (D := (dC, dI)) (ci := 14) (v := .int 20) (C := RX12) (T := TX12) (N := 151) hx hb hts hwX12 hown hK hP 0 rfl rfl 2 (Nat.le_of_ble_eq_true rfl) (hts (.fieldLink RX12 293 "ScriptTypesModel" "taped" "I") (List.mem_of_getElem? (i := 2) (by decide +kernel))) (fun _ h9 => h9) rfl dX12_feed_122 ?_
  exact W.iret (v := 20) hx hb hr (fun t ht hW => ⟨⟨20, (), rfl, rfl, trivial⟩, hS.F ht⟩) hS.2.2 dX12_feed_125
