def wsX12_addText : List Cond := .code yX12_addText cX12_addText 2 (some .int) :: ([.fieldLink RX12 299 "ScriptTypesModel" "textLength" "I", .fieldLink RX12 16 "ScriptTypesModel" "signs" "[C", .fieldLink RX12 296 "ScriptTypesModel" "strings" "I", .fieldLink RX12 24 "ScriptTypesModel" "text" "[C", .fieldLink RX12 20 "ScriptTypesModel" "lengths" "[I"] ++ wsX120)
def wsX12_put : List Cond := .code yX12_put cX12_put 2 none :: ([.fieldLink RX12 24 "ScriptTypesModel" "text" "[C", .fieldLink RX12 299 "ScriptTypesModel" "textLength" "I"] ++ wsX120)
theorem dX12_addText_0 : decode cX12_addText 0 = .ok (.iconst 0, 1) := by decide +kernel
theorem dX12_addText_1 : decode cX12_addText 1 = .ok (.istore_n 1, 1) := by decide +kernel
theorem dX12_addText_2 : decode cX12_addText 2 = .ok (.iload_n 1, 1) := by decide +kernel
theorem dX12_addText_3 : decode cX12_addText 3 = .ok (.aload_n 0, 1) := by decide +kernel
theorem dX12_addText_4 : decode cX12_addText 4 = .ok (.getfield 299, 3) := by decide +kernel
theorem dX12_addText_7 : decode cX12_addText 7 = .ok (.if_icmp .ge 29, 3) := by decide +kernel
theorem dX12_addText_10 : decode cX12_addText 10 = .ok (.aload_n 0, 1) := by decide +kernel
theorem dX12_addText_11 : decode cX12_addText 11 = .ok (.getfield 16, 3) := by decide +kernel
theorem dX12_addText_14 : decode cX12_addText 14 = .ok (.bipush 60, 2) := by decide +kernel
theorem dX12_addText_16 : decode cX12_addText 16 = .ok (.aload_n 0, 1) := by decide +kernel
theorem dX12_addText_17 : decode cX12_addText 17 = .ok (.getfield 296, 3) := by decide +kernel
theorem dX12_addText_20 : decode cX12_addText 20 = .ok (.imul, 1) := by decide +kernel
theorem dX12_addText_21 : decode cX12_addText 21 = .ok (.iload_n 1, 1) := by decide +kernel
theorem dX12_addText_22 : decode cX12_addText 22 = .ok (.iadd, 1) := by decide +kernel
theorem dX12_addText_23 : decode cX12_addText 23 = .ok (.aload_n 0, 1) := by decide +kernel
theorem dX12_addText_24 : decode cX12_addText 24 = .ok (.getfield 24, 3) := by decide +kernel
theorem dX12_addText_27 : decode cX12_addText 27 = .ok (.iload_n 1, 1) := by decide +kernel
theorem dX12_addText_28 : decode cX12_addText 28 = .ok (.caload, 1) := by decide +kernel
theorem dX12_addText_29 : decode cX12_addText 29 = .ok (.castore, 1) := by decide +kernel
theorem dX12_addText_30 : decode cX12_addText 30 = .ok (.iinc 1 1, 3) := by decide +kernel
theorem dX12_addText_33 : decode cX12_addText 33 = .ok (.goto (-31), 3) := by decide +kernel
theorem dX12_addText_36 : decode cX12_addText 36 = .ok (.aload_n 0, 1) := by decide +kernel
theorem dX12_addText_37 : decode cX12_addText 37 = .ok (.getfield 20, 3) := by decide +kernel
theorem dX12_addText_40 : decode cX12_addText 40 = .ok (.aload_n 0, 1) := by decide +kernel
theorem dX12_addText_41 : decode cX12_addText 41 = .ok (.getfield 296, 3) := by decide +kernel
theorem dX12_addText_44 : decode cX12_addText 44 = .ok (.aload_n 0, 1) := by decide +kernel
theorem dX12_addText_45 : decode cX12_addText 45 = .ok (.getfield 299, 3) := by decide +kernel
theorem dX12_addText_48 : decode cX12_addText 48 = .ok (.iastore, 1) := by decide +kernel
theorem dX12_addText_49 : decode cX12_addText 49 = .ok (.aload_n 0, 1) := by decide +kernel
theorem dX12_addText_50 : decode cX12_addText 50 = .ok (.dup, 1) := by decide +kernel
theorem dX12_addText_51 : decode cX12_addText 51 = .ok (.getfield 296, 3) := by decide +kernel
theorem dX12_addText_54 : decode cX12_addText 54 = .ok (.iconst 1, 1) := by decide +kernel
theorem dX12_addText_55 : decode cX12_addText 55 = .ok (.iadd, 1) := by decide +kernel
theorem dX12_addText_56 : decode cX12_addText 56 = .ok (.putfield 296, 3) := by decide +kernel
theorem dX12_addText_59 : decode cX12_addText 59 = .ok (.aload_n 0, 1) := by decide +kernel
theorem dX12_addText_60 : decode cX12_addText 60 = .ok (.getfield 296, 3) := by decide +kernel
theorem dX12_addText_63 : decode cX12_addText 63 = .ok (.iconst 1, 1) := by decide +kernel
theorem dX12_addText_64 : decode cX12_addText 64 = .ok (.isub, 1) := by decide +kernel
theorem dX12_addText_65 : decode cX12_addText 65 = .ok (.ireturn, 1) := by decide +kernel
theorem dX12_put_0 : decode cX12_put 0 = .ok (.aload_n 0, 1) := by decide +kernel
theorem dX12_put_1 : decode cX12_put 1 = .ok (.getfield 24, 3) := by decide +kernel
theorem dX12_put_4 : decode cX12_put 4 = .ok (.aload_n 0, 1) := by decide +kernel
theorem dX12_put_5 : decode cX12_put 5 = .ok (.getfield 299, 3) := by decide +kernel
theorem dX12_put_8 : decode cX12_put 8 = .ok (.iload_n 1, 1) := by decide +kernel
theorem dX12_put_9 : decode cX12_put 9 = .ok (.i2c, 1) := by decide +kernel
theorem dX12_put_10 : decode cX12_put 10 = .ok (.castore, 1) := by decide +kernel
theorem dX12_put_11 : decode cX12_put 11 = .ok (.aload_n 0, 1) := by decide +kernel
theorem dX12_put_12 : decode cX12_put 12 = .ok (.dup, 1) := by decide +kernel
theorem dX12_put_13 : decode cX12_put 13 = .ok (.getfield 299, 3) := by decide +kernel
theorem dX12_put_16 : decode cX12_put 16 = .ok (.iconst 1, 1) := by decide +kernel
theorem dX12_put_17 : decode cX12_put 17 = .ok (.iadd, 1) := by decide +kernel
theorem dX12_put_18 : decode cX12_put 18 = .ok (.putfield 299, 3) := by decide +kernel
theorem dX12_put_21 : decode cX12_put 21 = .ok (.return_, 1) := by decide +kernel
theorem rng60 {q k : Nat} (hq : q < 400) (hk : k < 60) : vp_in (60 * nI q + nI k) 24000 := by
  have e : (60 : Int32) * nI q + nI k = nI (60 * q + k) := by
    rw [show (60 : Int32) = nI 60 from rfl, pk_mul, nI_add]
  rw [e]
  exact vp_in_nI (by omega) (by omega)
set_option maxHeartbeats 8000000 in
set_option maxRecDepth 100000 in
theorem k_X12_put (l : Launch) (dC : Nat → ClassId) (dI : Nat → Nat → Nat) (sz : Nat) (h0 q4 : Nat) (fs : List Value) (hlen : fs.length = 151) (t : Nat) (ht : t < 199) (hf10 : fs[10]? = some (.ref q4)) (hf11 : fs[11]? = some (.int (nI t))) (c4 : ClassId) (f4 : Nat → Int32) (ch : Int32) : Met l yX12_put wsX12_put ({ frames := 0, cells := 0, slots := 0, locals := 0 }) (va_Pc [.ref h0, .int ch] (fun U => U.heap.size = sz ∧ va_P (dC, dI) vwCl [(h0, .inr (14, fs)), (q4, .inl (c4, 200, .inl f4))] U.heap ∧ va_K (dC, dI) vwCl [(c4, .char)] U ∧ va_D (fun _ => True) [(h0, .inr (14, fs)), (q4, .inl (c4, 200, .inl f4))])) (va_Qv (fun _ : Nat → Int32 => True) (fun (u : Nat → Int32) t9 => va_P (dC, dI) vwCl [(h0, .inr (14, List.set fs 11 (.int (nI (t + 1))))), (q4, .inl (c4, 200, .inl u))] t9.heap ∧ va_K (dC, dI) vwCl [(c4, .char)] t9 ∧ va_D (va_A [(h0, .inr (14, fs)), (q4, .inl (c4, 200, .inl f4))] sz) [(h0, .inr (14, List.set fs 11 (.int (nI (t + 1))))), (q4, .inl (c4, 200, .inl u))]) (va_A [(h0, .inr (14, fs)), (q4, .inl (c4, 200, .inl f4))] sz)) 0 0 (va_A [(h0, .inr (14, fs)), (q4, .inl (c4, 200, .inl f4))] sz) := by
  refine Met.ofW (cc := cX12_put) (maxL := 2) (ret := none) (by decide) rfl ?_
  intro p e s m args below meth c s₁ B hml hv
  obtain ⟨rfl, hsz, hP, hK, hD0⟩ := hv
  have hx := B.exec
  have hb := B.bytes
  have hr := B.returns
  have hts := atoms_spec (ws := wsX12_put) B.pre
  have hown : s.vm.findClass RX12 = some m.cls := findClass_of_methodNamed B.named
  have hlocks := B.notSynchronized
  subst hsz
  have hD := hD0.self (sz := s.heap.size)
  generalize hAe : va_A [(h0, .inr (14, fs)), (q4, .inl (c4, 200, .inl f4))] s.heap.size = A at hD ⊢
  have hA : ∀ q : Nat, s.heap.size ≤ q → A q := fun q h => by rw [← hAe]; exact Or.inr h
  have hS : va_S A s.heap s.heap [] := va_S.rf
  have hP : va_P (dC, dI) vwCl [(h0, .inr (14, fs)), (q4, .inl (c4, 200, .inl f4))] s.heap := hP
  have hl := lv_entry ([.ref h0, .int ch]) (n := 2) (Nat.le_of_ble_eq_true rfl)
  rw [lg_entry_eq]
  generalize (lg_sl ([.ref h0, .int ch]) ++ List.replicate (2 - (lg_sl ([.ref h0, .int ch])).length) Slot.unset).toArray = ls at hl ⊢
  have hl : lv_has ls 2 [(0, .ref h0), (1, .int ch)] := hl
  have hwX12 : ∀ w ∈ wsX120, w ∈ wsX12_put := (fun w h => List.mem_cons_of_mem _ (List.mem_append_right _ h))
  refine lv_aload_n hx hb dX12_put_0 rfl (lv_at hl 0 rfl) ?_
  refine va_get (D := (dC, dI)) (ci := 14) (v := .ref q4) (C := RX12) (T := TX12) (N := 151) hx hb hts hwX12 hown hK hP 0 rfl rfl 10 (Nat.le_of_ble_eq_true rfl) (hts (.fieldLink RX12 24 "ScriptTypesModel" "text" "[C") (List.mem_of_getElem? (i := 1) (by decide +kernel))) (fun _ h9 => h9) hf10 dX12_put_1 ?_
  refine lv_aload_n hx hb dX12_put_4 rfl (lv_at hl 0 rfl) ?_
  refine va_get (D := (dC, dI)) (ci := 14) (v := .int (nI t)) (C := RX12) (T := TX12) (N := 151) hx hb hts hwX12 hown hK hP 0 rfl rfl 11 (Nat.le_of_ble_eq_true rfl) (hts (.fieldLink RX12 299 "ScriptTypesModel" "textLength" "I") (List.mem_of_getElem? (i := 2) (by decide +kernel))) (fun _ h9 => h9) hf11 dX12_put_5 ?_
  refine lv_iload_n hx hb dX12_put_8 rfl (lv_at hl 1 rfl) ?_
  refine lv_i2c hx hb dX12_put_9 rfl ?_
  refine lv_topi (fun f_1 ef_1 => ?_)
  refine va_cast hx hb hK hP hD hS 1 0 rfl rfl (vp_in_nI (by omega) (by omega)) dX12_put_10 (fun H locs hP hD hS => ?_)
  obtain ⟨g_2, eg_2⟩ : ∃ z9 : Nat → Int32, z9 = upd f4 ((nI t) : Int32).toNatClampNeg (vp_nar .char f_1) := ⟨_, rfl⟩
  have hP : va_P (dC, dI) vwCl [(h0, .inr (14, fs)), (q4, .inl (c4, 200, .inl g_2))] H := by rw [eg_2]; exact hP
  have hD : va_D A [(h0, .inr (14, fs)), (q4, .inl (c4, 200, .inl g_2))] := by rw [eg_2]; exact hD
  refine lv_aload_n hx hb dX12_put_11 rfl (lv_at hl 0 rfl) ?_
  refine lv_dup hx hb dX12_put_12 rfl ?_
  refine va_get (D := (dC, dI)) (ci := 14) (v := .int (nI t)) (C := RX12) (T := TX12) (N := 151) hx hb hts hwX12 hown hK hP 0 rfl rfl 11 (Nat.le_of_ble_eq_true rfl) (hts (.fieldLink RX12 299 "ScriptTypesModel" "textLength" "I") (List.mem_of_getElem? (i := 2) (by decide +kernel))) (fun _ h9 => h9) hf11 dX12_put_13 ?_
  refine lv_iconst (v := 1) hx hb dX12_put_16 (by decide) ?_
  refine lv_iadd hx hb dX12_put_17 ?_
  refine lv_topi (fun f_3 ef_3 => ?_)
  obtain rfl : f_3 = (nI (t + 1)) := by rw [ef_3]; exact nI_1 t
  refine va_put (D := (dC, dI)) (ci := 14) (v := .int (nI (t + 1))) (ty := tyX12 11) (C := RX12) (T := TX12) (N := 151) hx hb hts hwX12 tyX12 tyX12_ok nmX12 hown hK hP hD hS 0 rfl rfl 11 (Nat.le_of_ble_eq_true rfl) (hts (.fieldLink RX12 299 "ScriptTypesModel" "textLength" "I") (List.mem_of_getElem? (i := 2) (by decide +kernel))) (fun _ h9 => h9) rfl (tyX12_ok 11 (Nat.le_of_ble_eq_true rfl)) rfl rfl (by rw [hlen]; decide) dX12_put_18 (fun H locs hP hD hS => ?_)
  have hlen_4 : (List.set fs 11 (.int (nI (t + 1)))).length = 151 := by rw [List.length_set]; exact hlen
  have hP : va_P (dC, dI) vwCl [(h0, .inr (14, (List.set fs 11 (.int (nI (t + 1)))))), (q4, .inl (c4, 200, .inl g_2))] H := hP
  have hD : va_D A [(h0, .inr (14, (List.set fs 11 (.int (nI (t + 1)))))), (q4, .inl (c4, 200, .inl g_2))] := hD
  exact W.vret hx hb hr (fun t ht hW => ⟨⟨g_2, rfl, trivial, by rw [ht]; exact hP, va_K.moved hW.alike hK, hD⟩, hS.F ht⟩) hS.2.2 dX12_put_21

set_option maxHeartbeats 8000000 in
set_option maxRecDepth 100000 in
theorem k_X12_addText (l : Launch) (dC : Nat → ClassId) (dI : Nat → Nat → Nat) (sz : Nat) (h0 q2 q3 q4 : Nat) (fs : List Value) (hlen : fs.length = 151) (t q : Nat) (ht : t ≤ 60) (hq : q < 400) (hf5 : fs[5]? = some (.ref q2)) (hf6 : fs[6]? = some (.ref q3)) (hf7 : fs[7]? = some (.int (nI q))) (hf10 : fs[10]? = some (.ref q4)) (hf11 : fs[11]? = some (.int (nI t))) (c2 c3 c4 : ClassId) (f2 f3 f4 : Nat → Int32) : Met l yX12_addText wsX12_addText ({ frames := 0, cells := 0, slots := 0, locals := 0 }) (va_Pc [.ref h0] (fun U => U.heap.size = sz ∧ va_P (dC, dI) vwCl [(h0, .inr (14, fs)), (q2, .inl (c2, 24000, .inl f2)), (q3, .inl (c3, 400, .inl f3)), (q4, .inl (c4, 200, .inl f4))] U.heap ∧ va_K (dC, dI) vwCl [(c2, .char), (c3, .int), (c4, .char)] U ∧ va_D (fun _ => True) [(h0, .inr (14, fs)), (q2, .inl (c2, 24000, .inl f2)), (q3, .inl (c3, 400, .inl f3)), (q4, .inl (c4, 200, .inl f4))])) (va_Qi (fun (r : Int32) (_ : (Nat → Int32) × (Nat → Int32)) => True) (fun (u : (Nat → Int32) × (Nat → Int32)) t9 => va_P (dC, dI) vwCl [(h0, .inr (14, List.set fs 7 (.int (nI (q + 1))))), (q2, .inl (c2, 24000, .inl u.1)), (q3, .inl (c3, 400, .inl u.2)), (q4, .inl (c4, 200, .inl f4))] t9.heap ∧ va_K (dC, dI) vwCl [(c2, .char), (c3, .int), (c4, .char)] t9 ∧ va_D (va_A [(h0, .inr (14, fs)), (q2, .inl (c2, 24000, .inl f2)), (q3, .inl (c3, 400, .inl f3)), (q4, .inl (c4, 200, .inl f4))] sz) [(h0, .inr (14, List.set fs 7 (.int (nI (q + 1))))), (q2, .inl (c2, 24000, .inl u.1)), (q3, .inl (c3, 400, .inl u.2)), (q4, .inl (c4, 200, .inl f4))]) (va_A [(h0, .inr (14, fs)), (q2, .inl (c2, 24000, .inl f2)), (q3, .inl (c3, 400, .inl f3)), (q4, .inl (c4, 200, .inl f4))] sz)) 0 0 (va_A [(h0, .inr (14, fs)), (q2, .inl (c2, 24000, .inl f2)), (q3, .inl (c3, 400, .inl f3)), (q4, .inl (c4, 200, .inl f4))] sz) := by
  refine Met.ofW (cc := cX12_addText) (maxL := 2) (ret := (some .int)) (by decide) rfl ?_
  intro p e s m args below meth c s₁ B hml hv
  obtain ⟨rfl, hsz, hP, hK, hD0⟩ := hv
  have hx := B.exec
  have hb := B.bytes
  have hr := B.returns
  have hts := atoms_spec (ws := wsX12_addText) B.pre
  have hown : s.vm.findClass RX12 = some m.cls := findClass_of_methodNamed B.named
  have hlocks := B.notSynchronized
  subst hsz
  have hD := hD0.self (sz := s.heap.size)
  generalize hAe : va_A [(h0, .inr (14, fs)), (q2, .inl (c2, 24000, .inl f2)), (q3, .inl (c3, 400, .inl f3)), (q4, .inl (c4, 200, .inl f4))] s.heap.size = A at hD ⊢
  have hA : ∀ q : Nat, s.heap.size ≤ q → A q := fun q h => by rw [← hAe]; exact Or.inr h
  have hS : va_S A s.heap s.heap [] := va_S.rf
  have hP : va_P (dC, dI) vwCl [(h0, .inr (14, fs)), (q2, .inl (c2, 24000, .inl f2)), (q3, .inl (c3, 400, .inl f3)), (q4, .inl (c4, 200, .inl f4))] s.heap := hP
  have hl := lv_entry ([.ref h0]) (n := 2) (Nat.le_of_ble_eq_true rfl)
  rw [lg_entry_eq]
  generalize (lg_sl ([.ref h0]) ++ List.replicate (2 - (lg_sl ([.ref h0])).length) Slot.unset).toArray = ls at hl ⊢
  have hl : lv_has ls 2 [(0, .ref h0)] := hl
  have hwX12 : ∀ w ∈ wsX120, w ∈ wsX12_addText := (fun w h => List.mem_cons_of_mem _ (List.mem_append_right _ h))
  refine lv_iconst (v := 0) hx hb dX12_addText_0 (by decide) ?_
  refine lv_istore_n (lv' := [(1, .int 0), (0, .ref h0)]) hx hb dX12_addText_1 rfl hl (by decide) rfl (fun ls hl => ?_)
  refine (?_ : ∀ (n k : Nat) (g : Nat → Int32) (H : Heap) (locs : List Loc) (ls : Array Slot), t < k + n → k ≤ t → va_P (dC, dI) vwCl [(h0, .inr (14, fs)), (q2, .inl (c2, 24000, .inl g)), (q3, .inl (c3, 400, .inl f3)), (q4, .inl (c4, 200, .inl f4))] H → va_D A [(h0, .inr (14, fs)), (q2, .inl (c2, 24000, .inl g)), (q3, .inl (c3, 400, .inl f3)), (q4, .inl (c4, 200, .inl f4))] → va_S A s.heap H locs → lv_has ls 2 [(0, .ref h0), (1, .int (nI k))] → W p l e _ s m _ below meth c H locs _ _ _ (F0 m 2 ls [])) (t + 1) 0 f2 s.heap _ ls (by omega) (by omega) hP hD hS (lv_sub hl [1, 0] rfl)
  intro n
  induction n with
  | zero =>
    intro k g H locs ls h1 h2
    exact absurd h1 (by omega)
  | succ n ih =>
    intro k g H locs ls hn hk hP hD hS hl
    rcases Nat.lt_or_ge k t with hkt | hkt
    · skip
      refine lv_iload_n hx hb dX12_addText_2 rfl (lv_at hl 1 rfl) ?_
      refine lv_aload_n hx hb dX12_addText_3 rfl (lv_at hl 0 rfl) ?_
      refine va_get (D := (dC, dI)) (ci := 14) (v := .int (nI t)) (C := RX12) (T := TX12) (N := 151) hx hb hts hwX12 hown hK hP 0 rfl rfl 11 (Nat.le_of_ble_eq_true rfl) (hts (.fieldLink RX12 299 "ScriptTypesModel" "textLength" "I") (List.mem_of_getElem? (i := 1) (by decide +kernel))) (fun _ h9 => h9) hf11 dX12_addText_4 ?_
      refine lv_icmp_ge (tgt := 36) hx hb dX12_addText_7 (by decide) (fun c1_7 => absurd c1_7 (nI_ge hkt (by omega))) (fun _ => ?_)
      refine lv_aload_n hx hb dX12_addText_10 rfl (lv_at hl 0 rfl) ?_
      refine va_get (D := (dC, dI)) (ci := 14) (v := .ref q2) (C := RX12) (T := TX12) (N := 151) hx hb hts hwX12 hown hK hP 0 rfl rfl 5 (Nat.le_of_ble_eq_true rfl) (hts (.fieldLink RX12 16 "ScriptTypesModel" "signs" "[C") (List.mem_of_getElem? (i := 2) (by decide +kernel))) (fun _ h9 => h9) hf5 dX12_addText_11 ?_
      refine lv_bipush (v := 60) hx hb dX12_addText_14 (by decide) ?_
      refine lv_aload_n hx hb dX12_addText_16 rfl (lv_at hl 0 rfl) ?_
      refine va_get (D := (dC, dI)) (ci := 14) (v := .int (nI q)) (C := RX12) (T := TX12) (N := 151) hx hb hts hwX12 hown hK hP 0 rfl rfl 7 (Nat.le_of_ble_eq_true rfl) (hts (.fieldLink RX12 296 "ScriptTypesModel" "strings" "I") (List.mem_of_getElem? (i := 3) (by decide +kernel))) (fun _ h9 => h9) hf7 dX12_addText_17 ?_
      refine lv_imul hx hb dX12_addText_20 ?_
      refine lv_topi (fun f_2 ef_2 => ?_)
      refine lv_iload_n hx hb dX12_addText_21 rfl (lv_at hl 1 rfl) ?_
      refine lv_iadd hx hb dX12_addText_22 ?_
      refine lv_topi (fun f_3 ef_3 => ?_)
      refine lv_aload_n hx hb dX12_addText_23 rfl (lv_at hl 0 rfl) ?_
      refine va_get (D := (dC, dI)) (ci := 14) (v := .ref q4) (C := RX12) (T := TX12) (N := 151) hx hb hts hwX12 hown hK hP 0 rfl rfl 10 (Nat.le_of_ble_eq_true rfl) (hts (.fieldLink RX12 24 "ScriptTypesModel" "text" "[C") (List.mem_of_getElem? (i := 4) (by decide +kernel))) (fun _ h9 => h9) hf10 dX12_addText_24 ?_
      refine lv_iload_n hx hb dX12_addText_27 rfl (lv_at hl 1 rfl) ?_
      refine va_cald hx hb hK hP 3 2 rfl rfl (vp_in_nI (by omega) (by omega)) dX12_addText_28 ?_
      refine lv_topi (fun f_4 ef_4 => ?_)
      refine va_cast hx hb hK hP hD hS 1 0 rfl rfl (by rw [ef_3, ef_2]; exact rng60 hq (by omega)) dX12_addText_29 (fun H locs hP hD hS => ?_)
      obtain ⟨g_5, eg_5⟩ : ∃ z9 : Nat → Int32, z9 = upd g (f_3 : Int32).toNatClampNeg (vp_nar .char f_4) := ⟨_, rfl⟩
      have hP : va_P (dC, dI) vwCl [(h0, .inr (14, fs)), (q2, .inl (c2, 24000, .inl g_5)), (q3, .inl (c3, 400, .inl f3)), (q4, .inl (c4, 200, .inl f4))] H := by rw [eg_5]; exact hP
      have hD : va_D A [(h0, .inr (14, fs)), (q2, .inl (c2, 24000, .inl g_5)), (q3, .inl (c3, 400, .inl f3)), (q4, .inl (c4, 200, .inl f4))] := by rw [eg_5]; exact hD
      refine lv_iinc (v := nI (k + 1)) (lv' := [(1, .int (nI (k + 1))), (0, .ref h0)]) hx hb dX12_addText_30 hl (k := 1) rfl (nI_1 k) (by decide) rfl (fun ls hl => ?_)
      refine lv_goto (tgt := 2) hx hb dX12_addText_33 (by decide) ?_
      exact ih (k + 1) g_5 H locs ls (by omega) (by omega) hP hD hS (lv_sub hl [1, 0] rfl)
    · skip
      refine lv_iload_n hx hb dX12_addText_2 rfl (lv_at hl 1 rfl) ?_
      refine lv_aload_n hx hb dX12_addText_3 rfl (lv_at hl 0 rfl) ?_
      refine va_get (D := (dC, dI)) (ci := 14) (v := .int (nI t)) (C := RX12) (T := TX12) (N := 151) hx hb hts hwX12 hown hK hP 0 rfl rfl 11 (Nat.le_of_ble_eq_true rfl) (hts (.fieldLink RX12 299 "ScriptTypesModel" "textLength" "I") (List.mem_of_getElem? (i := 1) (by decide +kernel))) (fun _ h9 => h9) hf11 dX12_addText_4 ?_
      refine lv_icmp_ge (tgt := 36) hx hb dX12_addText_7 (by decide) (fun _ => ?_) (fun c6_7 => absurd (nI_le hkt (by omega)) c6_7)
      refine lv_aload_n hx hb dX12_addText_36 rfl (lv_at hl 0 rfl) ?_
      refine va_get (D := (dC, dI)) (ci := 14) (v := .ref q3) (C := RX12) (T := TX12) (N := 151) hx hb hts hwX12 hown hK hP 0 rfl rfl 6 (Nat.le_of_ble_eq_true rfl) (hts (.fieldLink RX12 20 "ScriptTypesModel" "lengths" "[I") (List.mem_of_getElem? (i := 5) (by decide +kernel))) (fun _ h9 => h9) hf6 dX12_addText_37 ?_
      refine lv_aload_n hx hb dX12_addText_40 rfl (lv_at hl 0 rfl) ?_
      refine va_get (D := (dC, dI)) (ci := 14) (v := .int (nI q)) (C := RX12) (T := TX12) (N := 151) hx hb hts hwX12 hown hK hP 0 rfl rfl 7 (Nat.le_of_ble_eq_true rfl) (hts (.fieldLink RX12 296 "ScriptTypesModel" "strings" "I") (List.mem_of_getElem? (i := 3) (by decide +kernel))) (fun _ h9 => h9) hf7 dX12_addText_41 ?_
      refine lv_aload_n hx hb dX12_addText_44 rfl (lv_at hl 0 rfl) ?_
      refine va_get (D := (dC, dI)) (ci := 14) (v := .int (nI t)) (C := RX12) (T := TX12) (N := 151) hx hb hts hwX12 hown hK hP 0 rfl rfl 11 (Nat.le_of_ble_eq_true rfl) (hts (.fieldLink RX12 299 "ScriptTypesModel" "textLength" "I") (List.mem_of_getElem? (i := 1) (by decide +kernel))) (fun _ h9 => h9) hf11 dX12_addText_45 ?_
      refine va_iast hx hb hK hP hD hS 2 1 rfl rfl (vp_in_nI hq (by omega)) dX12_addText_48 (fun H locs hP hD hS => ?_)
      obtain ⟨g_7, eg_7⟩ : ∃ z9 : Nat → Int32, z9 = upd f3 ((nI q) : Int32).toNatClampNeg (nI t) := ⟨_, rfl⟩
      have hP : va_P (dC, dI) vwCl [(h0, .inr (14, fs)), (q2, .inl (c2, 24000, .inl g)), (q3, .inl (c3, 400, .inl g_7)), (q4, .inl (c4, 200, .inl f4))] H := by rw [eg_7]; exact hP
      have hD : va_D A [(h0, .inr (14, fs)), (q2, .inl (c2, 24000, .inl g)), (q3, .inl (c3, 400, .inl g_7)), (q4, .inl (c4, 200, .inl f4))] := by rw [eg_7]; exact hD
      refine lv_aload_n hx hb dX12_addText_49 rfl (lv_at hl 0 rfl) ?_
      refine lv_dup hx hb dX12_addText_50 rfl ?_
      refine va_get (D := (dC, dI)) (ci := 14) (v := .int (nI q)) (C := RX12) (T := TX12) (N := 151) hx hb hts hwX12 hown hK hP 0 rfl rfl 7 (Nat.le_of_ble_eq_true rfl) (hts (.fieldLink RX12 296 "ScriptTypesModel" "strings" "I") (List.mem_of_getElem? (i := 3) (by decide +kernel))) (fun _ h9 => h9) hf7 dX12_addText_51 ?_
      refine lv_iconst (v := 1) hx hb dX12_addText_54 (by decide) ?_
      refine lv_iadd hx hb dX12_addText_55 ?_
      refine lv_topi (fun f_8 ef_8 => ?_)
      obtain rfl : f_8 = (nI (q + 1)) := by rw [ef_8]; exact nI_1 q
      refine va_put (D := (dC, dI)) (ci := 14) (v := .int (nI (q + 1))) (ty := tyX12 7) (C := RX12) (T := TX12) (N := 151) hx hb hts hwX12 tyX12 tyX12_ok nmX12 hown hK hP hD hS 0 rfl rfl 7 (Nat.le_of_ble_eq_true rfl) (hts (.fieldLink RX12 296 "ScriptTypesModel" "strings" "I") (List.mem_of_getElem? (i := 3) (by decide +kernel))) (fun _ h9 => h9) rfl (tyX12_ok 7 (Nat.le_of_ble_eq_true rfl)) rfl rfl (by rw [hlen]; decide) dX12_addText_56 (fun H locs hP hD hS => ?_)
      have hlen_9 : (List.set fs 7 (.int (nI (q + 1)))).length = 151 := by rw [List.length_set]; exact hlen
      have hP : va_P (dC, dI) vwCl [(h0, .inr (14, (List.set fs 7 (.int (nI (q + 1)))))), (q2, .inl (c2, 24000, .inl g)), (q3, .inl (c3, 400, .inl g_7)), (q4, .inl (c4, 200, .inl f4))] H := hP
      have hD : va_D A [(h0, .inr (14, (List.set fs 7 (.int (nI (q + 1)))))), (q2, .inl (c2, 24000, .inl g)), (q3, .inl (c3, 400, .inl g_7)), (q4, .inl (c4, 200, .inl f4))] := hD
      refine lv_aload_n hx hb dX12_addText_59 rfl (lv_at hl 0 rfl) ?_
      refine va_get (D := (dC, dI)) (ci := 14) (v := .int (nI (q + 1))) (C := RX12) (T := TX12) (N := 151) hx hb hts hwX12 hown hK hP 0 rfl rfl 7 (Nat.le_of_ble_eq_true rfl) (hts (.fieldLink RX12 296 "ScriptTypesModel" "strings" "I") (List.mem_of_getElem? (i := 3) (by decide +kernel))) (fun _ h9 => h9) (by rw [List.getElem?_set_self (by rw [hlen]; decide)]) dX12_addText_60 ?_
      refine lv_iconst (v := 1) hx hb dX12_addText_63 (by decide) ?_
      refine lv_isub hx hb dX12_addText_64 ?_
      refine lv_topi (fun f_10 ef_10 => ?_)
      exact W.iret (v := f_10) hx hb hr (fun t ht hW => ⟨⟨f_10, (g, g_7), rfl, trivial, by rw [ht]; exact hP, va_K.moved hW.alike hK, hD⟩, hS.F ht⟩) hS.2.2 dX12_addText_65
