theorem tbl_out {x : Int32} (lo hi : Int) (h : ∀ v : Int, lo ≤ v → v ≤ hi → x ≠ Int32.ofInt v) : x.toInt < lo ∨ hi < x.toInt := by
  by_cases h1 : x.toInt < lo
  · exact Or.inl h1
  · by_cases h2 : hi < x.toInt
    · exact Or.inr h2
    · exact absurd (Int32.ofInt_toInt x).symm (h x.toInt (by omega) (by omega))
/-- what calls answer on a new object -/
def k_in (v lo hi : Int32) : Int32 := if v < lo then 0 else if hi < v then 0 else 1
def k_back (n : Int32) : Int32 := if n = 0 then 0 else -1
theorem k_back_z {n : Int32} (h : ¬ n < 0) (h2 : n ≤ 0) : 0 - n = k_back n := by
  have e : n = 0 := Int32.le_antisymm h2 (Int32.not_lt.mp h)
  subst e
  decide
theorem k_back_n {n : Int32} (h : n < 0) : -1 = k_back n := by
  have e : ¬ n = 0 := fun e => by subst e; exact absurd h (by decide)
  rw [k_back, if_neg e]
theorem k_back_p {n : Int32} (h : ¬ n ≤ 0) : -1 = k_back n := by
  have e : ¬ n = 0 := fun e => by subst e; exact absurd (by decide) h
  rw [k_back, if_neg e]
def k_cnt (w : Int32) : Int32 := if w.toInt < 0 ∨ 11 < w.toInt then -1 else 0
theorem k_cnt_out {w : Int32} (h : w.toInt < 0 ∨ 12 < w.toInt) : -1 = k_cnt w := by
  rw [k_cnt, if_pos (by omega)]
def k_run (n : Int32) : Int32 := if k_in n 0 2000 = 0 then 1 else 2
set_option maxHeartbeats 8000000 in
set_option maxRecDepth 100000 in
/-- whether a number lies between two -/
theorem k_X12_in (l : Launch) (dC : Nat → ClassId) (dI : Nat → Nat → Nat) (sz : Nat) (p0 p1 p2 : Int32) : Met l yX12_in wsX12_in ({ frames := 0, cells := 0, slots := 0, locals := 0 }) (va_Pc [.int p0, .int p1, .int p2] (fun U => U.heap.size = sz ∧ va_P (dC, dI) vwCl [] U.heap ∧ va_K (dC, dI) vwCl [] U ∧ va_D (fun _ => True) [])) (va_Qi (fun (r : Int32) (_ : Unit) => r = k_in p0 p1 p2) (fun _ _ => True) (va_A [] sz)) 0 0 (va_A [] sz) := by
  refine Met.ofW (cc := cX12_in) (maxL := 3) (ret := (some .boolean)) (by decide) rfl ?_
  intro p e s m args below meth c s₁ B hml hv
  obtain ⟨rfl, hsz, hP, hK, hD0⟩ := hv
  have hx := B.exec
  have hb := B.bytes
  have hr := B.returns
  have hts := atoms_spec (ws := wsX12_in) B.pre
  have hown : s.vm.findClass RX12 = some m.cls := findClass_of_methodNamed B.named
  have hlocks := B.notSynchronized
  subst hsz
  have hD := hD0.self (sz := s.heap.size)
  generalize hAe : va_A [] s.heap.size = A at hD ⊢
  have hA : ∀ q : Nat, s.heap.size ≤ q → A q := fun q h => by rw [← hAe]; exact Or.inr h
  have hS : va_S A s.heap s.heap [] := va_S.rf
  have hP : va_P (dC, dI) vwCl [] s.heap := hP
  have hl := lv_entry ([.int p0, .int p1, .int p2]) (n := 3) (Nat.le_of_ble_eq_true rfl)
  rw [lg_entry_eq]
  generalize (lg_sl ([.int p0, .int p1, .int p2]) ++ List.replicate (3 - (lg_sl ([.int p0, .int p1, .int p2])).length) Slot.unset).toArray = ls at hl ⊢
  have hl : lv_has ls 3 [(0, .int p0), (1, .int p1), (2, .int p2)] := hl
  refine lv_iload_n hx hb dX12_in_0 rfl (lv_at hl 0 rfl) ?_
  refine lv_iload_n hx hb dX12_in_1 rfl (lv_at hl 1 rfl) ?_
  refine lv_icmp_lt (tgt := 14) hx hb dX12_in_2 (by decide) (fun c1_2 => ?_) (fun c1_2 => ?_)
  · skip
    refine lv_iconst (v := 0) hx hb dX12_in_14 (by decide) ?_
    exact W.zret (v := 0) hx hb hr rfl (fun t ht hW => ⟨⟨0, (), rfl, by simp [k_in, c1_2], trivial⟩, hS.F ht⟩) hS.2.2 dX12_in_15
  · skip
    refine lv_iload_n hx hb dX12_in_5 rfl (lv_at hl 0 rfl) ?_
    refine lv_iload_n hx hb dX12_in_6 rfl (lv_at hl 2 rfl) ?_
    refine lv_icmp_gt (tgt := 14) hx hb dX12_in_7 (by decide) (fun c2_7 => ?_) (fun c2_7 => ?_)
    · skip
      refine lv_iconst (v := 0) hx hb dX12_in_14 (by decide) ?_
      exact W.zret (v := 0) hx hb hr rfl (fun t ht hW => ⟨⟨0, (), rfl, by simp [k_in, c1_2, c2_7], trivial⟩, hS.F ht⟩) hS.2.2 dX12_in_15
    · skip
      refine lv_iconst (v := 1) hx hb dX12_in_10 (by decide) ?_
      refine lv_goto (tgt := 15) hx hb dX12_in_11 (by decide) ?_
      exact W.zret (v := 1) hx hb hr rfl (fun t ht hW => ⟨⟨1, (), rfl, by simp [k_in, c1_2, c2_7], trivial⟩, hS.F ht⟩) hS.2.2 dX12_in_15

set_option maxHeartbeats 8000000 in
set_option maxRecDepth 100000 in
theorem k_X12_thrown (l : Launch) (dC : Nat → ClassId) (dI : Nat → Nat → Nat) (sz : Nat) (h0 : Nat) (ad : Nat → Nat) (v : Int32) : Met l yX12_thrown wsX12_thrown ({ frames := 0, cells := 0, slots := 0, locals := 0 }) (va_Pc [.ref h0] (fun U => U.heap.size = sz ∧ va_P (dC, dI) vwCl [(h0, .inr (14, (m_obj ad).set 0 (.int v)))] U.heap ∧ va_K (dC, dI) vwCl [] U ∧ va_D (fun _ => True) [(h0, .inr (14, (m_obj ad).set 0 (.int v)))])) (va_Qi (fun (r : Int32) (_ : Unit) => r = v) (fun _ _ => True) (va_A [(h0, .inr (14, (m_obj ad).set 0 (.int v)))] sz)) 0 0 (va_A [(h0, .inr (14, (m_obj ad).set 0 (.int v)))] sz) := by
  refine Met.ofW (cc := cX12_thrown) (maxL := 1) (ret := (some .int)) (by decide) rfl ?_
  intro p e s m args below meth c s₁ B hml hv
  obtain ⟨rfl, hsz, hP, hK, hD0⟩ := hv
  have hx := B.exec
  have hb := B.bytes
  have hr := B.returns
  have hts := atoms_spec (ws := wsX12_thrown) B.pre
  have hown : s.vm.findClass RX12 = some m.cls := findClass_of_methodNamed B.named
  have hlocks := B.notSynchronized
  subst hsz
  have hD := hD0.self (sz := s.heap.size)
  generalize hAe : va_A [(h0, .inr (14, (m_obj ad).set 0 (.int v)))] s.heap.size = A at hD ⊢
  have hA : ∀ q : Nat, s.heap.size ≤ q → A q := fun q h => by rw [← hAe]; exact Or.inr h
  have hS : va_S A s.heap s.heap [] := va_S.rf
  have hP : va_P (dC, dI) vwCl [(h0, .inr (14, (m_obj ad).set 0 (.int v)))] s.heap := hP
  have hl := lv_entry ([.ref h0]) (n := 1) (Nat.le_of_ble_eq_true rfl)
  rw [lg_entry_eq]
  generalize (lg_sl ([.ref h0]) ++ List.replicate (1 - (lg_sl ([.ref h0])).length) Slot.unset).toArray = ls at hl ⊢
  have hl : lv_has ls 1 [(0, .ref h0)] := hl
  have hwX12 : ∀ w ∈ wsX120, w ∈ wsX12_thrown := (fun w h => List.mem_cons_of_mem _ (List.mem_append_right _ h))
  refine lv_aload_n hx hb dX12_thrown_0 rfl (lv_at hl 0 rfl) ?_
  refine va_get (D := (dC, dI)) (ci := 14) (v := .int v) (C := RX12) (T := TX12) (N := 151) hx hb hts hwX12 hown hK hP 0 rfl rfl 0 (Nat.le_of_ble_eq_true rfl) (hts (.fieldLink RX12 289 "ScriptTypesModel" "thrown" "I") (List.mem_of_getElem? (i := 1) (by decide +kernel))) (fun _ h9 => h9) rfl dX12_thrown_1 ?_
  exact W.iret (v := v) hx hb hr (fun t ht hW => ⟨⟨v, (), rfl, rfl, trivial⟩, hS.F ht⟩) hS.2.2 dX12_thrown_4

set_option maxHeartbeats 8000000 in
set_option maxRecDepth 100000 in
theorem k_X12_back (l : Launch) (dC : Nat → ClassId) (dI : Nat → Nat → Nat) (sz : Nat) (h0 : Nat) (ad : Nat → Nat) (p0 : Int32) : Met l yX12_back wsX12_back ({ frames := 0, cells := 0, slots := 0, locals := 0 }) (va_Pc [.ref h0, .int p0] (fun U => U.heap.size = sz ∧ va_P (dC, dI) vwCl [(h0, .inr (14, m_obj ad))] U.heap ∧ va_K (dC, dI) vwCl [] U ∧ va_D (fun _ => True) [(h0, .inr (14, m_obj ad))])) (va_Qi (fun (r : Int32) (_ : Unit) => r = k_back p0) (fun _ _ => True) (va_A [(h0, .inr (14, m_obj ad))] sz)) 0 0 (va_A [(h0, .inr (14, m_obj ad))] sz) := by
  refine Met.ofW (cc := cX12_back) (maxL := 2) (ret := (some .int)) (by decide) rfl ?_
  intro p e s m args below meth c s₁ B hml hv
  obtain ⟨rfl, hsz, hP, hK, hD0⟩ := hv
  have hx := B.exec
  have hb := B.bytes
  have hr := B.returns
  have hts := atoms_spec (ws := wsX12_back) B.pre
  have hown : s.vm.findClass RX12 = some m.cls := findClass_of_methodNamed B.named
  have hlocks := B.notSynchronized
  subst hsz
  have hD := hD0.self (sz := s.heap.size)
  generalize hAe : va_A [(h0, .inr (14, m_obj ad))] s.heap.size = A at hD ⊢
  have hA : ∀ q : Nat, s.heap.size ≤ q → A q := fun q h => by rw [← hAe]; exact Or.inr h
  have hS : va_S A s.heap s.heap [] := va_S.rf
  have hP : va_P (dC, dI) vwCl [(h0, .inr (14, m_obj ad))] s.heap := hP
  have hl := lv_entry ([.ref h0, .int p0]) (n := 2) (Nat.le_of_ble_eq_true rfl)
  rw [lg_entry_eq]
  generalize (lg_sl ([.ref h0, .int p0]) ++ List.replicate (2 - (lg_sl ([.ref h0, .int p0])).length) Slot.unset).toArray = ls at hl ⊢
  have hl : lv_has ls 2 [(0, .ref h0), (1, .int p0)] := hl
  have hwX12 : ∀ w ∈ wsX120, w ∈ wsX12_back := (fun w h => List.mem_cons_of_mem _ (List.mem_append_right _ h))
  refine lv_aload_n hx hb dX12_back_0 rfl (lv_at hl 0 rfl) ?_
  refine lv_iconst (v := 0) hx hb dX12_back_1 (by decide) ?_
  refine va_put (D := (dC, dI)) (ci := 14) (v := .int 0) (ty := tyX12 0) (C := RX12) (T := TX12) (N := 151) hx hb hts hwX12 tyX12 tyX12_ok nmX12 hown hK hP hD hS 0 rfl rfl 0 (Nat.le_of_ble_eq_true rfl) (hts (.fieldLink RX12 289 "ScriptTypesModel" "thrown" "I") (List.mem_of_getElem? (i := 1) (by decide +kernel))) (fun _ h9 => h9) rfl (tyX12_ok 0 (Nat.le_of_ble_eq_true rfl)) rfl rfl (Nat.le_of_ble_eq_true rfl) dX12_back_2 (fun H locs hP hD hS => ?_)
  have hP : va_P (dC, dI) vwCl [(h0, .inr (14, (m_obj ad).set 0 (.int 0)))] H := hP
  have hD : va_D A [(h0, .inr (14, (m_obj ad).set 0 (.int 0)))] := hD
  refine lv_iload_n hx hb dX12_back_5 rfl (lv_at hl 1 rfl) ?_
  refine lv_if_lt (tgt := 17) hx hb dX12_back_6 (by decide) (fun c1_6 => ?_) (fun c1_6 => ?_)
  · skip
    refine lv_iconst (v := (-1)) hx hb dX12_back_17 (by decide) ?_
    exact W.iret (v := (-1)) hx hb hr (fun t ht hW => ⟨⟨(-1), (), rfl, k_back_n c1_6, trivial⟩, hS.F ht⟩) hS.2.2 dX12_back_18
  · skip
    refine lv_iload_n hx hb dX12_back_9 rfl (lv_at hl 1 rfl) ?_
    refine lv_aload_n hx hb dX12_back_10 rfl (lv_at hl 0 rfl) ?_
    refine va_get (D := (dC, dI)) (ci := 14) (v := .int 0) (C := RX12) (T := TX12) (N := 151) hx hb hts hwX12 hown hK hP 0 rfl rfl 2 (Nat.le_of_ble_eq_true rfl) (hts (.fieldLink RX12 293 "ScriptTypesModel" "taped" "I") (List.mem_of_getElem? (i := 2) (by decide +kernel))) (fun _ h9 => h9) rfl dX12_back_11 ?_
    refine lv_icmp_le (tgt := 19) hx hb dX12_back_14 (by decide) (fun c2_14 => ?_) (fun c2_14 => ?_)
    · skip
      refine lv_aload_n hx hb dX12_back_19 rfl (lv_at hl 0 rfl) ?_
      refine lv_dup hx hb dX12_back_20 rfl ?_
      refine va_get (D := (dC, dI)) (ci := 14) (v := .int 0) (C := RX12) (T := TX12) (N := 151) hx hb hts hwX12 hown hK hP 0 rfl rfl 2 (Nat.le_of_ble_eq_true rfl) (hts (.fieldLink RX12 293 "ScriptTypesModel" "taped" "I") (List.mem_of_getElem? (i := 2) (by decide +kernel))) (fun _ h9 => h9) rfl dX12_back_21 ?_
      refine lv_iload_n hx hb dX12_back_24 rfl (lv_at hl 1 rfl) ?_
      refine lv_isub hx hb dX12_back_25 ?_
      refine lv_topi (fun f_3 ef_3 => ?_)
      refine va_put (D := (dC, dI)) (ci := 14) (v := .int f_3) (ty := tyX12 2) (C := RX12) (T := TX12) (N := 151) hx hb hts hwX12 tyX12 tyX12_ok nmX12 hown hK hP hD hS 0 rfl rfl 2 (Nat.le_of_ble_eq_true rfl) (hts (.fieldLink RX12 293 "ScriptTypesModel" "taped" "I") (List.mem_of_getElem? (i := 2) (by decide +kernel))) (fun _ h9 => h9) rfl (tyX12_ok 2 (Nat.le_of_ble_eq_true rfl)) rfl rfl (Nat.le_of_ble_eq_true rfl) dX12_back_26 (fun H locs hP hD hS => ?_)
      have hP : va_P (dC, dI) vwCl [(h0, .inr (14, ((m_obj ad).set 0 (.int 0)).set 2 (.int f_3)))] H := hP
      have hD : va_D A [(h0, .inr (14, ((m_obj ad).set 0 (.int 0)).set 2 (.int f_3)))] := hD
      refine lv_aload_n hx hb dX12_back_29 rfl (lv_at hl 0 rfl) ?_
      refine va_get (D := (dC, dI)) (ci := 14) (v := .int f_3) (C := RX12) (T := TX12) (N := 151) hx hb hts hwX12 hown hK hP 0 rfl rfl 2 (Nat.le_of_ble_eq_true rfl) (hts (.fieldLink RX12 293 "ScriptTypesModel" "taped" "I") (List.mem_of_getElem? (i := 2) (by decide +kernel))) (fun _ h9 => h9) rfl dX12_back_30 ?_
      exact W.iret (v := f_3) hx hb hr (fun t ht hW => ⟨⟨f_3, (), rfl, by rw [ef_3]; exact k_back_z c1_6 c2_14, trivial⟩, hS.F ht⟩) hS.2.2 dX12_back_33
    · skip
      refine lv_iconst (v := (-1)) hx hb dX12_back_17 (by decide) ?_
      exact W.iret (v := (-1)) hx hb hr (fun t ht hW => ⟨⟨(-1), (), rfl, k_back_p c2_14, trivial⟩, hS.F ht⟩) hS.2.2 dX12_back_18

set_option maxHeartbeats 8000000 in
set_option maxRecDepth 100000 in
theorem k_X12_count (l : Launch) (dC : Nat → ClassId) (dI : Nat → Nat → Nat) (sz : Nat) (h0 : Nat) (ad : Nat → Nat) (p0 : Int32) : Met l yX12_count wsX12_count ({ frames := 0, cells := 0, slots := 0, locals := 0 }) (va_Pc [.ref h0, .int p0] (fun U => U.heap.size = sz ∧ va_P (dC, dI) vwCl [(h0, .inr (14, m_obj ad))] U.heap ∧ va_K (dC, dI) vwCl [] U ∧ va_D (fun _ => True) [(h0, .inr (14, m_obj ad))])) (va_Qi (fun (r : Int32) (_ : Unit) => r = k_cnt p0) (fun _ _ => True) (va_A [(h0, .inr (14, m_obj ad))] sz)) 0 0 (va_A [(h0, .inr (14, m_obj ad))] sz) := by
  refine Met.ofW (cc := cX12_count) (maxL := 3) (ret := (some .int)) (by decide) rfl ?_
  intro p e s m args below meth c s₁ B hml hv
  obtain ⟨rfl, hsz, hP, hK, hD0⟩ := hv
  have hx := B.exec
  have hb := B.bytes
  have hr := B.returns
  have hts := atoms_spec (ws := wsX12_count) B.pre
  have hown : s.vm.findClass RX12 = some m.cls := findClass_of_methodNamed B.named
  have hlocks := B.notSynchronized
  subst hsz
  have hD := hD0.self (sz := s.heap.size)
  generalize hAe : va_A [(h0, .inr (14, m_obj ad))] s.heap.size = A at hD ⊢
  have hA : ∀ q : Nat, s.heap.size ≤ q → A q := fun q h => by rw [← hAe]; exact Or.inr h
  have hS : va_S A s.heap s.heap [] := va_S.rf
  have hP : va_P (dC, dI) vwCl [(h0, .inr (14, m_obj ad))] s.heap := hP
  have hl := lv_entry ([.ref h0, .int p0]) (n := 3) (Nat.le_of_ble_eq_true rfl)
  rw [lg_entry_eq]
  generalize (lg_sl ([.ref h0, .int p0]) ++ List.replicate (3 - (lg_sl ([.ref h0, .int p0])).length) Slot.unset).toArray = ls at hl ⊢
  have hl : lv_has ls 3 [(0, .ref h0), (1, .int p0)] := hl
  have hwX12 : ∀ w ∈ wsX120, w ∈ wsX12_count := (fun w h => List.mem_cons_of_mem _ (List.mem_append_right _ h))
  refine lv_aload_n hx hb dX12_count_0 rfl (lv_at hl 0 rfl) ?_
  refine lv_iconst (v := 0) hx hb dX12_count_1 (by decide) ?_
  refine va_put (D := (dC, dI)) (ci := 14) (v := .int 0) (ty := tyX12 0) (C := RX12) (T := TX12) (N := 151) hx hb hts hwX12 tyX12 tyX12_ok nmX12 hown hK hP hD hS 0 rfl rfl 0 (Nat.le_of_ble_eq_true rfl) (hts (.fieldLink RX12 289 "ScriptTypesModel" "thrown" "I") (List.mem_of_getElem? (i := 1) (by decide +kernel))) (fun _ h9 => h9) rfl (tyX12_ok 0 (Nat.le_of_ble_eq_true rfl)) rfl rfl (Nat.le_of_ble_eq_true rfl) dX12_count_2 (fun H locs hP hD hS => ?_)
  have hP : va_P (dC, dI) vwCl [(h0, .inr (14, (m_obj ad).set 0 (.int 0)))] H := hP
  have hD : va_D A [(h0, .inr (14, (m_obj ad).set 0 (.int 0)))] := hD
  refine lv_aload_n hx hb dX12_count_5 rfl (lv_at hl 0 rfl) ?_
  refine va_get (D := (dC, dI)) (ci := 14) (v := .int 0) (C := RX12) (T := TX12) (N := 151) hx hb hts hwX12 hown hK hP 0 rfl rfl 73 (Nat.le_of_ble_eq_true rfl) (hts (.fieldLink RX12 773 "ScriptTypesModel" "state" "I") (List.mem_of_getElem? (i := 2) (by decide +kernel))) (fun _ h9 => h9) rfl dX12_count_6 ?_
  refine lv_if_le (tgt := 16) hx hb dX12_count_9 (by decide) (fun _ => ?_) (fun c1_9 => absurd (by decide) c1_9)
  refine lv_iconst (v := 0) hx hb dX12_count_16 (by decide) ?_
  refine lv_istore_n (lv' := [(2, .int 0), (0, .ref h0), (1, .int p0)]) hx hb dX12_count_17 rfl hl (by decide) rfl (fun ls hl => ?_)
  refine lv_iload_n hx hb dX12_count_18 rfl (lv_at hl 2 rfl) ?_
  rcases Decidable.em (p0 = 0) with c2_19 | c2_19_0
  · skip
    refine lv_tableIn (off := 65) (tgt := 84) hx hb dX12_count_19 (by rw [c2_19]; decide) (by rw [c2_19]; decide) (by rw [c2_19]; decide) (by decide) ?_
    refine lv_aload_n hx hb dX12_count_84 rfl (lv_at hl 1 rfl) ?_
    refine va_get (D := (dC, dI)) (ci := 14) (v := .int 0) (C := RX12) (T := TX12) (N := 151) hx hb hts hwX12 hown hK hP 0 rfl rfl 72 (Nat.le_of_ble_eq_true rfl) (hts (.fieldLink RX12 770 "ScriptTypesModel" "hasScript" "Z") (List.mem_of_getElem? (i := 3) (by decide +kernel))) (fun _ h9 => h9) rfl dX12_count_85 ?_
    refine lv_if_eq (tgt := 98) hx hb dX12_count_88 (by decide) (fun _ => ?_) (fun c3_88 => absurd (by decide) c3_88)
    refine lv_iconst (v := 0) hx hb dX12_count_98 (by decide) ?_
    exact W.iret (v := 0) hx hb hr (fun t ht hW => ⟨⟨0, (), rfl, by rw [c2_19]; decide, trivial⟩, hS.F ht⟩) hS.2.2 dX12_count_99
  rcases Decidable.em (p0 = 1) with c2_19 | c2_19_1
  · skip
    refine lv_tableIn (off := 81) (tgt := 100) hx hb dX12_count_19 (by rw [c2_19]; decide) (by rw [c2_19]; decide) (by rw [c2_19]; decide) (by decide) ?_
    refine lv_aload_n hx hb dX12_count_100 rfl (lv_at hl 1 rfl) ?_
    refine va_get (D := (dC, dI)) (ci := 14) (v := .int 0) (C := RX12) (T := TX12) (N := 151) hx hb hts hwX12 hown hK hP 0 rfl rfl 72 (Nat.le_of_ble_eq_true rfl) (hts (.fieldLink RX12 770 "ScriptTypesModel" "hasScript" "Z") (List.mem_of_getElem? (i := 3) (by decide +kernel))) (fun _ h9 => h9) rfl dX12_count_101 ?_
    refine lv_if_eq (tgt := 114) hx hb dX12_count_104 (by decide) (fun _ => ?_) (fun c4_104 => absurd (by decide) c4_104)
    refine lv_iconst (v := 0) hx hb dX12_count_114 (by decide) ?_
    exact W.iret (v := 0) hx hb hr (fun t ht hW => ⟨⟨0, (), rfl, by rw [c2_19]; decide, trivial⟩, hS.F ht⟩) hS.2.2 dX12_count_115
  rcases Decidable.em (p0 = 2) with c2_19 | c2_19_2
  · skip
    refine lv_tableIn (off := 97) (tgt := 116) hx hb dX12_count_19 (by rw [c2_19]; decide) (by rw [c2_19]; decide) (by rw [c2_19]; decide) (by decide) ?_
    refine lv_aload_n hx hb dX12_count_116 rfl (lv_at hl 1 rfl) ?_
    refine va_get (D := (dC, dI)) (ci := 14) (v := .int 0) (C := RX12) (T := TX12) (N := 151) hx hb hts hwX12 hown hK hP 0 rfl rfl 72 (Nat.le_of_ble_eq_true rfl) (hts (.fieldLink RX12 770 "ScriptTypesModel" "hasScript" "Z") (List.mem_of_getElem? (i := 3) (by decide +kernel))) (fun _ h9 => h9) rfl dX12_count_117 ?_
    refine lv_if_eq (tgt := 130) hx hb dX12_count_120 (by decide) (fun _ => ?_) (fun c5_120 => absurd (by decide) c5_120)
    refine lv_iconst (v := 0) hx hb dX12_count_130 (by decide) ?_
    exact W.iret (v := 0) hx hb hr (fun t ht hW => ⟨⟨0, (), rfl, by rw [c2_19]; decide, trivial⟩, hS.F ht⟩) hS.2.2 dX12_count_131
  rcases Decidable.em (p0 = 3) with c2_19 | c2_19_3
  · skip
    refine lv_tableIn (off := 113) (tgt := 132) hx hb dX12_count_19 (by rw [c2_19]; decide) (by rw [c2_19]; decide) (by rw [c2_19]; decide) (by decide) ?_
    refine lv_aload_n hx hb dX12_count_132 rfl (lv_at hl 1 rfl) ?_
    refine va_get (D := (dC, dI)) (ci := 14) (v := .int 0) (C := RX12) (T := TX12) (N := 151) hx hb hts hwX12 hown hK hP 0 rfl rfl 72 (Nat.le_of_ble_eq_true rfl) (hts (.fieldLink RX12 770 "ScriptTypesModel" "hasScript" "Z") (List.mem_of_getElem? (i := 3) (by decide +kernel))) (fun _ h9 => h9) rfl dX12_count_133 ?_
    refine lv_if_eq (tgt := 146) hx hb dX12_count_136 (by decide) (fun _ => ?_) (fun c6_136 => absurd (by decide) c6_136)
    refine lv_iconst (v := 0) hx hb dX12_count_146 (by decide) ?_
    exact W.iret (v := 0) hx hb hr (fun t ht hW => ⟨⟨0, (), rfl, by rw [c2_19]; decide, trivial⟩, hS.F ht⟩) hS.2.2 dX12_count_147
  rcases Decidable.em (p0 = 4) with c2_19 | c2_19_4
  · skip
    refine lv_tableIn (off := 129) (tgt := 148) hx hb dX12_count_19 (by rw [c2_19]; decide) (by rw [c2_19]; decide) (by rw [c2_19]; decide) (by decide) ?_
    refine lv_aload_n hx hb dX12_count_148 rfl (lv_at hl 1 rfl) ?_
    refine va_get (D := (dC, dI)) (ci := 14) (v := .int 0) (C := RX12) (T := TX12) (N := 151) hx hb hts hwX12 hown hK hP 0 rfl rfl 72 (Nat.le_of_ble_eq_true rfl) (hts (.fieldLink RX12 770 "ScriptTypesModel" "hasScript" "Z") (List.mem_of_getElem? (i := 3) (by decide +kernel))) (fun _ h9 => h9) rfl dX12_count_149 ?_
    refine lv_if_eq (tgt := 162) hx hb dX12_count_152 (by decide) (fun _ => ?_) (fun c7_152 => absurd (by decide) c7_152)
    refine lv_iconst (v := 0) hx hb dX12_count_162 (by decide) ?_
    exact W.iret (v := 0) hx hb hr (fun t ht hW => ⟨⟨0, (), rfl, by rw [c2_19]; decide, trivial⟩, hS.F ht⟩) hS.2.2 dX12_count_163
  rcases Decidable.em (p0 = 5) with c2_19 | c2_19_5
  · skip
    refine lv_tableIn (off := 145) (tgt := 164) hx hb dX12_count_19 (by rw [c2_19]; decide) (by rw [c2_19]; decide) (by rw [c2_19]; decide) (by decide) ?_
    refine lv_aload_n hx hb dX12_count_164 rfl (lv_at hl 1 rfl) ?_
    refine va_get (D := (dC, dI)) (ci := 14) (v := .int 0) (C := RX12) (T := TX12) (N := 151) hx hb hts hwX12 hown hK hP 0 rfl rfl 2 (Nat.le_of_ble_eq_true rfl) (hts (.fieldLink RX12 293 "ScriptTypesModel" "taped" "I") (List.mem_of_getElem? (i := 9) (by decide +kernel))) (fun _ h9 => h9) rfl dX12_count_165 ?_
    exact W.iret (v := 0) hx hb hr (fun t ht hW => ⟨⟨0, (), rfl, by rw [c2_19]; decide, trivial⟩, hS.F ht⟩) hS.2.2 dX12_count_168
  rcases Decidable.em (p0 = 6) with c2_19 | c2_19_6
  · skip
    refine lv_tableIn (off := 150) (tgt := 169) hx hb dX12_count_19 (by rw [c2_19]; decide) (by rw [c2_19]; decide) (by rw [c2_19]; decide) (by decide) ?_
    refine lv_aload_n hx hb dX12_count_169 rfl (lv_at hl 1 rfl) ?_
    refine va_get (D := (dC, dI)) (ci := 14) (v := .int 0) (C := RX12) (T := TX12) (N := 151) hx hb hts hwX12 hown hK hP 0 rfl rfl 73 (Nat.le_of_ble_eq_true rfl) (hts (.fieldLink RX12 773 "ScriptTypesModel" "state" "I") (List.mem_of_getElem? (i := 2) (by decide +kernel))) (fun _ h9 => h9) rfl dX12_count_170 ?_
    exact W.iret (v := 0) hx hb hr (fun t ht hW => ⟨⟨0, (), rfl, by rw [c2_19]; decide, trivial⟩, hS.F ht⟩) hS.2.2 dX12_count_173
  rcases Decidable.em (p0 = 7) with c2_19 | c2_19_7
  · skip
    refine lv_tableIn (off := 155) (tgt := 174) hx hb dX12_count_19 (by rw [c2_19]; decide) (by rw [c2_19]; decide) (by rw [c2_19]; decide) (by decide) ?_
    refine lv_iload_n hx hb dX12_count_174 rfl (lv_at hl 0 rfl) ?_
    refine lv_if_eq (tgt := 185) hx hb dX12_count_175 (by decide) (fun _ => ?_) (fun c8_175 => absurd (by decide) c8_175)
    refine lv_iconst (v := 0) hx hb dX12_count_185 (by decide) ?_
    exact W.iret (v := 0) hx hb hr (fun t ht hW => ⟨⟨0, (), rfl, by rw [c2_19]; decide, trivial⟩, hS.F ht⟩) hS.2.2 dX12_count_186
  rcases Decidable.em (p0 = 8) with c2_19 | c2_19_8
  · skip
    refine lv_tableIn (off := 168) (tgt := 187) hx hb dX12_count_19 (by rw [c2_19]; decide) (by rw [c2_19]; decide) (by rw [c2_19]; decide) (by decide) ?_
    refine lv_iload_n hx hb dX12_count_187 rfl (lv_at hl 0 rfl) ?_
    refine lv_if_eq (tgt := 198) hx hb dX12_count_188 (by decide) (fun _ => ?_) (fun c9_188 => absurd (by decide) c9_188)
    refine lv_iconst (v := 0) hx hb dX12_count_198 (by decide) ?_
    exact W.iret (v := 0) hx hb hr (fun t ht hW => ⟨⟨0, (), rfl, by rw [c2_19]; decide, trivial⟩, hS.F ht⟩) hS.2.2 dX12_count_199
  rcases Decidable.em (p0 = 9) with c2_19 | c2_19_9
  · skip
    refine lv_tableIn (off := 181) (tgt := 200) hx hb dX12_count_19 (by rw [c2_19]; decide) (by rw [c2_19]; decide) (by rw [c2_19]; decide) (by decide) ?_
    refine lv_iload_n hx hb dX12_count_200 rfl (lv_at hl 0 rfl) ?_
    refine lv_if_eq (tgt := 211) hx hb dX12_count_201 (by decide) (fun _ => ?_) (fun c10_201 => absurd (by decide) c10_201)
    refine lv_iconst (v := 0) hx hb dX12_count_211 (by decide) ?_
    exact W.iret (v := 0) hx hb hr (fun t ht hW => ⟨⟨0, (), rfl, by rw [c2_19]; decide, trivial⟩, hS.F ht⟩) hS.2.2 dX12_count_212
  rcases Decidable.em (p0 = 10) with c2_19 | c2_19_10
  · skip
    refine lv_tableIn (off := 194) (tgt := 213) hx hb dX12_count_19 (by rw [c2_19]; decide) (by rw [c2_19]; decide) (by rw [c2_19]; decide) (by decide) ?_
    refine lv_iload_n hx hb dX12_count_213 rfl (lv_at hl 0 rfl) ?_
    refine lv_if_eq (tgt := 224) hx hb dX12_count_214 (by decide) (fun _ => ?_) (fun c11_214 => absurd (by decide) c11_214)
    refine lv_iconst (v := 0) hx hb dX12_count_224 (by decide) ?_
    exact W.iret (v := 0) hx hb hr (fun t ht hW => ⟨⟨0, (), rfl, by rw [c2_19]; decide, trivial⟩, hS.F ht⟩) hS.2.2 dX12_count_225
  rcases Decidable.em (p0 = 11) with c2_19 | c2_19_11
  · skip
    refine lv_tableIn (off := 207) (tgt := 226) hx hb dX12_count_19 (by rw [c2_19]; decide) (by rw [c2_19]; decide) (by rw [c2_19]; decide) (by decide) ?_
    refine lv_iload_n hx hb dX12_count_226 rfl (lv_at hl 0 rfl) ?_
    refine lv_if_eq (tgt := 237) hx hb dX12_count_227 (by decide) (fun _ => ?_) (fun c12_227 => absurd (by decide) c12_227)
    refine lv_iconst (v := 0) hx hb dX12_count_237 (by decide) ?_
    exact W.iret (v := 0) hx hb hr (fun t ht hW => ⟨⟨0, (), rfl, by rw [c2_19]; decide, trivial⟩, hS.F ht⟩) hS.2.2 dX12_count_238
  rcases Decidable.em (p0 = 12) with c2_19 | c2_19_12
  · skip
    refine lv_tableIn (off := 220) (tgt := 239) hx hb dX12_count_19 (by rw [c2_19]; decide) (by rw [c2_19]; decide) (by rw [c2_19]; decide) (by decide) ?_
    refine lv_aload_n hx hb dX12_count_239 rfl (lv_at hl 1 rfl) ?_
    refine va_get (D := (dC, dI)) (ci := 14) (v := .int 0) (C := RX12) (T := TX12) (N := 151) hx hb hts hwX12 hown hK hP 0 rfl rfl 119 (Nat.le_of_ble_eq_true rfl) (hts (.fieldLink RX12 776 "ScriptTypesModel" "solved" "Z") (List.mem_of_getElem? (i := 15) (by decide +kernel))) (fun _ h9 => h9) rfl dX12_count_240 ?_
    refine lv_if_eq (tgt := 253) hx hb dX12_count_243 (by decide) (fun _ => ?_) (fun c13_243 => absurd (by decide) c13_243)
    refine lv_iconst (v := (-1)) hx hb dX12_count_253 (by decide) ?_
    exact W.iret (v := (-1)) hx hb hr (fun t ht hW => ⟨⟨(-1), (), rfl, by rw [c2_19]; decide, trivial⟩, hS.F ht⟩) hS.2.2 dX12_count_254
  have hout : p0.toInt < 0 ∨ 12 < p0.toInt := tbl_out 0 12 (fun v h1 h2 => by
      have hv : v = 0 ∨ v = 1 ∨ v = 2 ∨ v = 3 ∨ v = 4 ∨ v = 5 ∨ v = 6 ∨ v = 7 ∨ v = 8 ∨ v = 9 ∨ v = 10 ∨ v = 11 ∨ v = 12 := by omega
      rcases hv with rfl | rfl | rfl | rfl | rfl | rfl | rfl | rfl | rfl | rfl | rfl | rfl | rfl
      all_goals first | exact c2_19_0 | exact c2_19_1 | exact c2_19_2 | exact c2_19_3 | exact c2_19_4 | exact c2_19_5 | exact c2_19_6 | exact c2_19_7 | exact c2_19_8 | exact c2_19_9 | exact c2_19_10 | exact c2_19_11 | exact c2_19_12)
  refine lv_tableOut (tgt := 255) hx hb dX12_count_19 hout (by decide) ?_
  refine lv_iconst (v := (-1)) hx hb dX12_count_255 (by decide) ?_
  exact W.iret (v := (-1)) hx hb hr (fun t ht hW => ⟨⟨(-1), (), rfl, k_cnt_out hout, trivial⟩, hS.F ht⟩) hS.2.2 dX12_count_256

set_option maxHeartbeats 8000000 in
set_option maxRecDepth 100000 in
theorem k_X12_letter (l : Launch) (dC : Nat → ClassId) (dI : Nat → Nat → Nat) (sz : Nat) (h0 : Nat) (ad : Nat → Nat) (p0 : Int32) (p1 : Int32) : Met l yX12_letter wsX12_letter ({ frames := 0, cells := 0, slots := 0, locals := 0 }) (va_Pc [.ref h0, .int p0, .int p1] (fun U => U.heap.size = sz ∧ va_P (dC, dI) vwCl [(h0, .inr (14, m_obj ad))] U.heap ∧ va_K (dC, dI) vwCl [] U ∧ va_D (fun _ => True) [(h0, .inr (14, m_obj ad))])) (va_Qi (fun (r : Int32) (_ : Unit) => r = -1) (fun _ _ => True) (va_A [(h0, .inr (14, m_obj ad))] sz)) 0 0 (va_A [(h0, .inr (14, m_obj ad))] sz) := by
  refine Met.ofW (cc := cX12_letter) (maxL := 3) (ret := (some .int)) (by decide) rfl ?_
  intro p e s m args below meth c s₁ B hml hv
  obtain ⟨rfl, hsz, hP, hK, hD0⟩ := hv
  have hx := B.exec
  have hb := B.bytes
  have hr := B.returns
  have hts := atoms_spec (ws := wsX12_letter) B.pre
  have hown : s.vm.findClass RX12 = some m.cls := findClass_of_methodNamed B.named
  have hlocks := B.notSynchronized
  subst hsz
  have hD := hD0.self (sz := s.heap.size)
  generalize hAe : va_A [(h0, .inr (14, m_obj ad))] s.heap.size = A at hD ⊢
  have hA : ∀ q : Nat, s.heap.size ≤ q → A q := fun q h => by rw [← hAe]; exact Or.inr h
  have hS : va_S A s.heap s.heap [] := va_S.rf
  have hP : va_P (dC, dI) vwCl [(h0, .inr (14, m_obj ad))] s.heap := hP
  have hl := lv_entry ([.ref h0, .int p0, .int p1]) (n := 3) (Nat.le_of_ble_eq_true rfl)
  rw [lg_entry_eq]
  generalize (lg_sl ([.ref h0, .int p0, .int p1]) ++ List.replicate (3 - (lg_sl ([.ref h0, .int p0, .int p1])).length) Slot.unset).toArray = ls at hl ⊢
  have hl : lv_has ls 3 [(0, .ref h0), (1, .int p0), (2, .int p1)] := hl
  have hwX12 : ∀ w ∈ wsX120, w ∈ wsX12_letter := (fun w h => List.mem_cons_of_mem _ (List.mem_append_right _ h))
  refine lv_aload_n hx hb dX12_letter_0 rfl (lv_at hl 0 rfl) ?_
  refine lv_iconst (v := 0) hx hb dX12_letter_1 (by decide) ?_
  refine va_put (D := (dC, dI)) (ci := 14) (v := .int 0) (ty := tyX12 0) (C := RX12) (T := TX12) (N := 151) hx hb hts hwX12 tyX12 tyX12_ok nmX12 hown hK hP hD hS 0 rfl rfl 0 (Nat.le_of_ble_eq_true rfl) (hts (.fieldLink RX12 289 "ScriptTypesModel" "thrown" "I") (List.mem_of_getElem? (i := 1) (by decide +kernel))) (fun _ h9 => h9) rfl (tyX12_ok 0 (Nat.le_of_ble_eq_true rfl)) rfl rfl (Nat.le_of_ble_eq_true rfl) dX12_letter_2 (fun H locs hP hD hS => ?_)
  have hP : va_P (dC, dI) vwCl [(h0, .inr (14, (m_obj ad).set 0 (.int 0)))] H := hP
  have hD : va_D A [(h0, .inr (14, (m_obj ad).set 0 (.int 0)))] := hD
  refine lv_aload_n hx hb dX12_letter_5 rfl (lv_at hl 0 rfl) ?_
  refine va_get (D := (dC, dI)) (ci := 14) (v := .int 0) (C := RX12) (T := TX12) (N := 151) hx hb hts hwX12 hown hK hP 0 rfl rfl 72 (Nat.le_of_ble_eq_true rfl) (hts (.fieldLink RX12 770 "ScriptTypesModel" "hasScript" "Z") (List.mem_of_getElem? (i := 2) (by decide +kernel))) (fun _ h9 => h9) rfl dX12_letter_6 ?_
  refine lv_if_eq (tgt := 56) hx hb dX12_letter_9 (by decide) (fun _ => ?_) (fun c1_9 => absurd (by decide) c1_9)
  refine lv_iconst (v := (-1)) hx hb dX12_letter_56 (by decide) ?_
  exact W.iret (v := (-1)) hx hb hr (fun t ht hW => ⟨⟨(-1), (), rfl, rfl, trivial⟩, hS.F ht⟩) hS.2.2 dX12_letter_57

set_option maxHeartbeats 8000000 in
set_option maxRecDepth 100000 in
theorem k_X12_instruction (l : Launch) (dC : Nat → ClassId) (dI : Nat → Nat → Nat) (sz : Nat) (h0 : Nat) (ad : Nat → Nat) (p0 : Int32) (p1 : Int32) : Met l yX12_instruction wsX12_instruction ({ frames := 0, cells := 0, slots := 0, locals := 0 }) (va_Pc [.ref h0, .int p0, .int p1] (fun U => U.heap.size = sz ∧ va_P (dC, dI) vwCl [(h0, .inr (14, m_obj ad))] U.heap ∧ va_K (dC, dI) vwCl [] U ∧ va_D (fun _ => True) [(h0, .inr (14, m_obj ad))])) (va_Qi (fun (r : Int32) (_ : Unit) => r = -1) (fun _ _ => True) (va_A [(h0, .inr (14, m_obj ad))] sz)) 0 0 (va_A [(h0, .inr (14, m_obj ad))] sz) := by
  refine Met.ofW (cc := cX12_instruction) (maxL := 3) (ret := (some .int)) (by decide) rfl ?_
  intro p e s m args below meth c s₁ B hml hv
  obtain ⟨rfl, hsz, hP, hK, hD0⟩ := hv
  have hx := B.exec
  have hb := B.bytes
  have hr := B.returns
  have hts := atoms_spec (ws := wsX12_instruction) B.pre
  have hown : s.vm.findClass RX12 = some m.cls := findClass_of_methodNamed B.named
  have hlocks := B.notSynchronized
  subst hsz
  have hD := hD0.self (sz := s.heap.size)
  generalize hAe : va_A [(h0, .inr (14, m_obj ad))] s.heap.size = A at hD ⊢
  have hA : ∀ q : Nat, s.heap.size ≤ q → A q := fun q h => by rw [← hAe]; exact Or.inr h
  have hS : va_S A s.heap s.heap [] := va_S.rf
  have hP : va_P (dC, dI) vwCl [(h0, .inr (14, m_obj ad))] s.heap := hP
  have hl := lv_entry ([.ref h0, .int p0, .int p1]) (n := 3) (Nat.le_of_ble_eq_true rfl)
  rw [lg_entry_eq]
  generalize (lg_sl ([.ref h0, .int p0, .int p1]) ++ List.replicate (3 - (lg_sl ([.ref h0, .int p0, .int p1])).length) Slot.unset).toArray = ls at hl ⊢
  have hl : lv_has ls 3 [(0, .ref h0), (1, .int p0), (2, .int p1)] := hl
  have hwX12 : ∀ w ∈ wsX120, w ∈ wsX12_instruction := (fun w h => List.mem_cons_of_mem _ (List.mem_append_right _ h))
  refine lv_aload_n hx hb dX12_instruction_0 rfl (lv_at hl 0 rfl) ?_
  refine lv_iconst (v := 0) hx hb dX12_instruction_1 (by decide) ?_
  refine va_put (D := (dC, dI)) (ci := 14) (v := .int 0) (ty := tyX12 0) (C := RX12) (T := TX12) (N := 151) hx hb hts hwX12 tyX12 tyX12_ok nmX12 hown hK hP hD hS 0 rfl rfl 0 (Nat.le_of_ble_eq_true rfl) (hts (.fieldLink RX12 289 "ScriptTypesModel" "thrown" "I") (List.mem_of_getElem? (i := 1) (by decide +kernel))) (fun _ h9 => h9) rfl (tyX12_ok 0 (Nat.le_of_ble_eq_true rfl)) rfl rfl (Nat.le_of_ble_eq_true rfl) dX12_instruction_2 (fun H locs hP hD hS => ?_)
  have hP : va_P (dC, dI) vwCl [(h0, .inr (14, (m_obj ad).set 0 (.int 0)))] H := hP
  have hD : va_D A [(h0, .inr (14, (m_obj ad).set 0 (.int 0)))] := hD
  refine lv_aload_n hx hb dX12_instruction_5 rfl (lv_at hl 0 rfl) ?_
  refine va_get (D := (dC, dI)) (ci := 14) (v := .int 0) (C := RX12) (T := TX12) (N := 151) hx hb hts hwX12 hown hK hP 0 rfl rfl 72 (Nat.le_of_ble_eq_true rfl) (hts (.fieldLink RX12 770 "ScriptTypesModel" "hasScript" "Z") (List.mem_of_getElem? (i := 2) (by decide +kernel))) (fun _ h9 => h9) rfl dX12_instruction_6 ?_
  refine lv_if_eq (tgt := 35) hx hb dX12_instruction_9 (by decide) (fun _ => ?_) (fun c1_9 => absurd (by decide) c1_9)
  refine lv_iconst (v := (-1)) hx hb dX12_instruction_35 (by decide) ?_
  exact W.iret (v := (-1)) hx hb hr (fun t ht hW => ⟨⟨(-1), (), rfl, rfl, trivial⟩, hS.F ht⟩) hS.2.2 dX12_instruction_36

set_option maxHeartbeats 8000000 in
set_option maxRecDepth 100000 in
theorem k_X12_frame (l : Launch) (dC : Nat → ClassId) (dI : Nat → Nat → Nat) (sz : Nat) (h0 : Nat) (ad : Nat → Nat) (p0 : Int32) (p1 : Int32) : Met l yX12_frame wsX12_frame ({ frames := 0, cells := 0, slots := 0, locals := 0 }) (va_Pc [.ref h0, .int p0, .int p1] (fun U => U.heap.size = sz ∧ va_P (dC, dI) vwCl [(h0, .inr (14, m_obj ad))] U.heap ∧ va_K (dC, dI) vwCl [] U ∧ va_D (fun _ => True) [(h0, .inr (14, m_obj ad))])) (va_Qi (fun (r : Int32) (_ : Unit) => r = -1) (fun _ _ => True) (va_A [(h0, .inr (14, m_obj ad))] sz)) 0 0 (va_A [(h0, .inr (14, m_obj ad))] sz) := by
  refine Met.ofW (cc := cX12_frame) (maxL := 4) (ret := (some .int)) (by decide) rfl ?_
  intro p e s m args below meth c s₁ B hml hv
  obtain ⟨rfl, hsz, hP, hK, hD0⟩ := hv
  have hx := B.exec
  have hb := B.bytes
  have hr := B.returns
  have hts := atoms_spec (ws := wsX12_frame) B.pre
  have hown : s.vm.findClass RX12 = some m.cls := findClass_of_methodNamed B.named
  have hlocks := B.notSynchronized
  subst hsz
  have hD := hD0.self (sz := s.heap.size)
  generalize hAe : va_A [(h0, .inr (14, m_obj ad))] s.heap.size = A at hD ⊢
  have hA : ∀ q : Nat, s.heap.size ≤ q → A q := fun q h => by rw [← hAe]; exact Or.inr h
  have hS : va_S A s.heap s.heap [] := va_S.rf
  have hP : va_P (dC, dI) vwCl [(h0, .inr (14, m_obj ad))] s.heap := hP
  have hl := lv_entry ([.ref h0, .int p0, .int p1]) (n := 4) (Nat.le_of_ble_eq_true rfl)
  rw [lg_entry_eq]
  generalize (lg_sl ([.ref h0, .int p0, .int p1]) ++ List.replicate (4 - (lg_sl ([.ref h0, .int p0, .int p1])).length) Slot.unset).toArray = ls at hl ⊢
  have hl : lv_has ls 4 [(0, .ref h0), (1, .int p0), (2, .int p1)] := hl
  have hwX12 : ∀ w ∈ wsX120, w ∈ wsX12_frame := (fun w h => List.mem_cons_of_mem _ (List.mem_append_right _ h))
  refine lv_aload_n hx hb dX12_frame_0 rfl (lv_at hl 0 rfl) ?_
  refine lv_iconst (v := 0) hx hb dX12_frame_1 (by decide) ?_
  refine va_put (D := (dC, dI)) (ci := 14) (v := .int 0) (ty := tyX12 0) (C := RX12) (T := TX12) (N := 151) hx hb hts hwX12 tyX12 tyX12_ok nmX12 hown hK hP hD hS 0 rfl rfl 0 (Nat.le_of_ble_eq_true rfl) (hts (.fieldLink RX12 289 "ScriptTypesModel" "thrown" "I") (List.mem_of_getElem? (i := 1) (by decide +kernel))) (fun _ h9 => h9) rfl (tyX12_ok 0 (Nat.le_of_ble_eq_true rfl)) rfl rfl (Nat.le_of_ble_eq_true rfl) dX12_frame_2 (fun H locs hP hD hS => ?_)
  have hP : va_P (dC, dI) vwCl [(h0, .inr (14, (m_obj ad).set 0 (.int 0)))] H := hP
  have hD : va_D A [(h0, .inr (14, (m_obj ad).set 0 (.int 0)))] := hD
  refine lv_aload_n hx hb dX12_frame_5 rfl (lv_at hl 0 rfl) ?_
  refine va_get (D := (dC, dI)) (ci := 14) (v := .int 0) (C := RX12) (T := TX12) (N := 151) hx hb hts hwX12 hown hK hP 0 rfl rfl 73 (Nat.le_of_ble_eq_true rfl) (hts (.fieldLink RX12 773 "ScriptTypesModel" "state" "I") (List.mem_of_getElem? (i := 2) (by decide +kernel))) (fun _ h9 => h9) rfl dX12_frame_6 ?_
  refine lv_if_eq (tgt := 26) hx hb dX12_frame_9 (by decide) (fun _ => ?_) (fun c1_9 => absurd (by decide) c1_9)
  refine lv_iconst (v := (-1)) hx hb dX12_frame_26 (by decide) ?_
  exact W.iret (v := (-1)) hx hb hr (fun t ht hW => ⟨⟨(-1), (), rfl, rfl, trivial⟩, hS.F ht⟩) hS.2.2 dX12_frame_27

set_option maxHeartbeats 8000000 in
set_option maxRecDepth 100000 in
theorem k_X12_value_ (l : Launch) (dC : Nat → ClassId) (dI : Nat → Nat → Nat) (sz : Nat) (h0 : Nat) (ad : Nat → Nat) (p0 : Int32) (p1 : Int32) (p2 : Int32) : Met l yX12_value_ wsX12_value_ ({ frames := 0, cells := 0, slots := 0, locals := 0 }) (va_Pc [.ref h0, .int p0, .int p1, .int p2] (fun U => U.heap.size = sz ∧ va_P (dC, dI) vwCl [(h0, .inr (14, m_obj ad))] U.heap ∧ va_K (dC, dI) vwCl [] U ∧ va_D (fun _ => True) [(h0, .inr (14, m_obj ad))])) (va_Qi (fun (r : Int32) (_ : Unit) => r = -1) (fun _ _ => True) (va_A [(h0, .inr (14, m_obj ad))] sz)) 0 0 (va_A [(h0, .inr (14, m_obj ad))] sz) := by
  refine Met.ofW (cc := cX12_value_) (maxL := 6) (ret := (some .int)) (by decide) rfl ?_
  intro p e s m args below meth c s₁ B hml hv
  obtain ⟨rfl, hsz, hP, hK, hD0⟩ := hv
  have hx := B.exec
  have hb := B.bytes
  have hr := B.returns
  have hts := atoms_spec (ws := wsX12_value_) B.pre
  have hown : s.vm.findClass RX12 = some m.cls := findClass_of_methodNamed B.named
  have hlocks := B.notSynchronized
  subst hsz
  have hD := hD0.self (sz := s.heap.size)
  generalize hAe : va_A [(h0, .inr (14, m_obj ad))] s.heap.size = A at hD ⊢
  have hA : ∀ q : Nat, s.heap.size ≤ q → A q := fun q h => by rw [← hAe]; exact Or.inr h
  have hS : va_S A s.heap s.heap [] := va_S.rf
  have hP : va_P (dC, dI) vwCl [(h0, .inr (14, m_obj ad))] s.heap := hP
  have hl := lv_entry ([.ref h0, .int p0, .int p1, .int p2]) (n := 6) (Nat.le_of_ble_eq_true rfl)
  rw [lg_entry_eq]
  generalize (lg_sl ([.ref h0, .int p0, .int p1, .int p2]) ++ List.replicate (6 - (lg_sl ([.ref h0, .int p0, .int p1, .int p2])).length) Slot.unset).toArray = ls at hl ⊢
  have hl : lv_has ls 6 [(0, .ref h0), (1, .int p0), (2, .int p1), (3, .int p2)] := hl
  have hwX12 : ∀ w ∈ wsX120, w ∈ wsX12_value_ := (fun w h => List.mem_cons_of_mem _ (List.mem_append_right _ h))
  refine lv_aload_n hx hb dX12_value__0 rfl (lv_at hl 0 rfl) ?_
  refine lv_iconst (v := 0) hx hb dX12_value__1 (by decide) ?_
  refine va_put (D := (dC, dI)) (ci := 14) (v := .int 0) (ty := tyX12 0) (C := RX12) (T := TX12) (N := 151) hx hb hts hwX12 tyX12 tyX12_ok nmX12 hown hK hP hD hS 0 rfl rfl 0 (Nat.le_of_ble_eq_true rfl) (hts (.fieldLink RX12 289 "ScriptTypesModel" "thrown" "I") (List.mem_of_getElem? (i := 1) (by decide +kernel))) (fun _ h9 => h9) rfl (tyX12_ok 0 (Nat.le_of_ble_eq_true rfl)) rfl rfl (Nat.le_of_ble_eq_true rfl) dX12_value__2 (fun H locs hP hD hS => ?_)
  have hP : va_P (dC, dI) vwCl [(h0, .inr (14, (m_obj ad).set 0 (.int 0)))] H := hP
  have hD : va_D A [(h0, .inr (14, (m_obj ad).set 0 (.int 0)))] := hD
  refine lv_aload_n hx hb dX12_value__5 rfl (lv_at hl 0 rfl) ?_
  refine va_get (D := (dC, dI)) (ci := 14) (v := .int 0) (C := RX12) (T := TX12) (N := 151) hx hb hts hwX12 hown hK hP 0 rfl rfl 73 (Nat.le_of_ble_eq_true rfl) (hts (.fieldLink RX12 773 "ScriptTypesModel" "state" "I") (List.mem_of_getElem? (i := 2) (by decide +kernel))) (fun _ h9 => h9) rfl dX12_value__6 ?_
  refine lv_if_eq (tgt := 26) hx hb dX12_value__9 (by decide) (fun _ => ?_) (fun c1_9 => absurd (by decide) c1_9)
  refine lv_iconst (v := (-1)) hx hb dX12_value__26 (by decide) ?_
  exact W.iret (v := (-1)) hx hb hr (fun t ht hW => ⟨⟨(-1), (), rfl, rfl, trivial⟩, hS.F ht⟩) hS.2.2 dX12_value__27

set_option maxHeartbeats 8000000 in
set_option maxRecDepth 100000 in
theorem k_X12_object_ (l : Launch) (dC : Nat → ClassId) (dI : Nat → Nat → Nat) (sz : Nat) (h0 : Nat) (ad : Nat → Nat) (p0 : Int32) (p1 : Int32) : Met l yX12_object_ wsX12_object_ ({ frames := 0, cells := 0, slots := 0, locals := 0 }) (va_Pc [.ref h0, .int p0, .int p1] (fun U => U.heap.size = sz ∧ va_P (dC, dI) vwCl [(h0, .inr (14, m_obj ad))] U.heap ∧ va_K (dC, dI) vwCl [] U ∧ va_D (fun _ => True) [(h0, .inr (14, m_obj ad))])) (va_Qi (fun (r : Int32) (_ : Unit) => r = -1) (fun _ _ => True) (va_A [(h0, .inr (14, m_obj ad))] sz)) 0 0 (va_A [(h0, .inr (14, m_obj ad))] sz) := by
  refine Met.ofW (cc := cX12_object_) (maxL := 5) (ret := (some .int)) (by decide) rfl ?_
  intro p e s m args below meth c s₁ B hml hv
  obtain ⟨rfl, hsz, hP, hK, hD0⟩ := hv
  have hx := B.exec
  have hb := B.bytes
  have hr := B.returns
  have hts := atoms_spec (ws := wsX12_object_) B.pre
  have hown : s.vm.findClass RX12 = some m.cls := findClass_of_methodNamed B.named
  have hlocks := B.notSynchronized
  subst hsz
  have hD := hD0.self (sz := s.heap.size)
  generalize hAe : va_A [(h0, .inr (14, m_obj ad))] s.heap.size = A at hD ⊢
  have hA : ∀ q : Nat, s.heap.size ≤ q → A q := fun q h => by rw [← hAe]; exact Or.inr h
  have hS : va_S A s.heap s.heap [] := va_S.rf
  have hP : va_P (dC, dI) vwCl [(h0, .inr (14, m_obj ad))] s.heap := hP
  have hl := lv_entry ([.ref h0, .int p0, .int p1]) (n := 5) (Nat.le_of_ble_eq_true rfl)
  rw [lg_entry_eq]
  generalize (lg_sl ([.ref h0, .int p0, .int p1]) ++ List.replicate (5 - (lg_sl ([.ref h0, .int p0, .int p1])).length) Slot.unset).toArray = ls at hl ⊢
  have hl : lv_has ls 5 [(0, .ref h0), (1, .int p0), (2, .int p1)] := hl
  have hwX12 : ∀ w ∈ wsX120, w ∈ wsX12_object_ := (fun w h => List.mem_cons_of_mem _ (List.mem_append_right _ h))
  refine lv_aload_n hx hb dX12_object__0 rfl (lv_at hl 0 rfl) ?_
  refine lv_iconst (v := 0) hx hb dX12_object__1 (by decide) ?_
  refine va_put (D := (dC, dI)) (ci := 14) (v := .int 0) (ty := tyX12 0) (C := RX12) (T := TX12) (N := 151) hx hb hts hwX12 tyX12 tyX12_ok nmX12 hown hK hP hD hS 0 rfl rfl 0 (Nat.le_of_ble_eq_true rfl) (hts (.fieldLink RX12 289 "ScriptTypesModel" "thrown" "I") (List.mem_of_getElem? (i := 1) (by decide +kernel))) (fun _ h9 => h9) rfl (tyX12_ok 0 (Nat.le_of_ble_eq_true rfl)) rfl rfl (Nat.le_of_ble_eq_true rfl) dX12_object__2 (fun H locs hP hD hS => ?_)
  have hP : va_P (dC, dI) vwCl [(h0, .inr (14, (m_obj ad).set 0 (.int 0)))] H := hP
  have hD : va_D A [(h0, .inr (14, (m_obj ad).set 0 (.int 0)))] := hD
  refine lv_aload_n hx hb dX12_object__5 rfl (lv_at hl 0 rfl) ?_
  refine va_get (D := (dC, dI)) (ci := 14) (v := .int 0) (C := RX12) (T := TX12) (N := 151) hx hb hts hwX12 hown hK hP 0 rfl rfl 73 (Nat.le_of_ble_eq_true rfl) (hts (.fieldLink RX12 773 "ScriptTypesModel" "state" "I") (List.mem_of_getElem? (i := 2) (by decide +kernel))) (fun _ h9 => h9) rfl dX12_object__6 ?_
  refine lv_if_eq (tgt := 26) hx hb dX12_object__9 (by decide) (fun _ => ?_) (fun c1_9 => absurd (by decide) c1_9)
  refine lv_iconst (v := (-1)) hx hb dX12_object__26 (by decide) ?_
  exact W.iret (v := (-1)) hx hb hr (fun t ht hW => ⟨⟨(-1), (), rfl, rfl, trivial⟩, hS.F ht⟩) hS.2.2 dX12_object__27

set_option maxHeartbeats 8000000 in
set_option maxRecDepth 100000 in
theorem k_X12_property (l : Launch) (dC : Nat → ClassId) (dI : Nat → Nat → Nat) (sz : Nat) (h0 : Nat) (ad : Nat → Nat) (p0 : Int32) (p1 : Int32) (p2 : Int32) : Met l yX12_property wsX12_property ({ frames := 0, cells := 0, slots := 0, locals := 0 }) (va_Pc [.ref h0, .int p0, .int p1, .int p2] (fun U => U.heap.size = sz ∧ va_P (dC, dI) vwCl [(h0, .inr (14, m_obj ad))] U.heap ∧ va_K (dC, dI) vwCl [] U ∧ va_D (fun _ => True) [(h0, .inr (14, m_obj ad))])) (va_Qi (fun (r : Int32) (_ : Unit) => r = -1) (fun _ _ => True) (va_A [(h0, .inr (14, m_obj ad))] sz)) 0 0 (va_A [(h0, .inr (14, m_obj ad))] sz) := by
  refine Met.ofW (cc := cX12_property) (maxL := 6) (ret := (some .int)) (by decide) rfl ?_
  intro p e s m args below meth c s₁ B hml hv
  obtain ⟨rfl, hsz, hP, hK, hD0⟩ := hv
  have hx := B.exec
  have hb := B.bytes
  have hr := B.returns
  have hts := atoms_spec (ws := wsX12_property) B.pre
  have hown : s.vm.findClass RX12 = some m.cls := findClass_of_methodNamed B.named
  have hlocks := B.notSynchronized
  subst hsz
  have hD := hD0.self (sz := s.heap.size)
  generalize hAe : va_A [(h0, .inr (14, m_obj ad))] s.heap.size = A at hD ⊢
  have hA : ∀ q : Nat, s.heap.size ≤ q → A q := fun q h => by rw [← hAe]; exact Or.inr h
  have hS : va_S A s.heap s.heap [] := va_S.rf
  have hP : va_P (dC, dI) vwCl [(h0, .inr (14, m_obj ad))] s.heap := hP
  have hl := lv_entry ([.ref h0, .int p0, .int p1, .int p2]) (n := 6) (Nat.le_of_ble_eq_true rfl)
  rw [lg_entry_eq]
  generalize (lg_sl ([.ref h0, .int p0, .int p1, .int p2]) ++ List.replicate (6 - (lg_sl ([.ref h0, .int p0, .int p1, .int p2])).length) Slot.unset).toArray = ls at hl ⊢
  have hl : lv_has ls 6 [(0, .ref h0), (1, .int p0), (2, .int p1), (3, .int p2)] := hl
  have hwX12 : ∀ w ∈ wsX120, w ∈ wsX12_property := (fun w h => List.mem_cons_of_mem _ (List.mem_append_right _ h))
  refine lv_aload_n hx hb dX12_property_0 rfl (lv_at hl 0 rfl) ?_
  refine lv_iconst (v := 0) hx hb dX12_property_1 (by decide) ?_
  refine va_put (D := (dC, dI)) (ci := 14) (v := .int 0) (ty := tyX12 0) (C := RX12) (T := TX12) (N := 151) hx hb hts hwX12 tyX12 tyX12_ok nmX12 hown hK hP hD hS 0 rfl rfl 0 (Nat.le_of_ble_eq_true rfl) (hts (.fieldLink RX12 289 "ScriptTypesModel" "thrown" "I") (List.mem_of_getElem? (i := 1) (by decide +kernel))) (fun _ h9 => h9) rfl (tyX12_ok 0 (Nat.le_of_ble_eq_true rfl)) rfl rfl (Nat.le_of_ble_eq_true rfl) dX12_property_2 (fun H locs hP hD hS => ?_)
  have hP : va_P (dC, dI) vwCl [(h0, .inr (14, (m_obj ad).set 0 (.int 0)))] H := hP
  have hD : va_D A [(h0, .inr (14, (m_obj ad).set 0 (.int 0)))] := hD
  refine lv_aload_n hx hb dX12_property_5 rfl (lv_at hl 0 rfl) ?_
  refine va_get (D := (dC, dI)) (ci := 14) (v := .int 0) (C := RX12) (T := TX12) (N := 151) hx hb hts hwX12 hown hK hP 0 rfl rfl 73 (Nat.le_of_ble_eq_true rfl) (hts (.fieldLink RX12 773 "ScriptTypesModel" "state" "I") (List.mem_of_getElem? (i := 2) (by decide +kernel))) (fun _ h9 => h9) rfl dX12_property_6 ?_
  refine lv_if_eq (tgt := 30) hx hb dX12_property_9 (by decide) (fun _ => ?_) (fun c1_9 => absurd (by decide) c1_9)
  refine lv_iconst (v := (-1)) hx hb dX12_property_30 (by decide) ?_
  exact W.iret (v := (-1)) hx hb hr (fun t ht hW => ⟨⟨(-1), (), rfl, rfl, trivial⟩, hS.F ht⟩) hS.2.2 dX12_property_31

set_option maxHeartbeats 8000000 in
set_option maxRecDepth 100000 in
theorem k_X12_printed (l : Launch) (dC : Nat → ClassId) (dI : Nat → Nat → Nat) (sz : Nat) (h0 : Nat) (ad : Nat → Nat) (p0 : Int32) (p1 : Int32) : Met l yX12_printed wsX12_printed ({ frames := 0, cells := 0, slots := 0, locals := 0 }) (va_Pc [.ref h0, .int p0, .int p1] (fun U => U.heap.size = sz ∧ va_P (dC, dI) vwCl [(h0, .inr (14, m_obj ad))] U.heap ∧ va_K (dC, dI) vwCl [] U ∧ va_D (fun _ => True) [(h0, .inr (14, m_obj ad))])) (va_Qi (fun (r : Int32) (_ : Unit) => r = -1) (fun _ _ => True) (va_A [(h0, .inr (14, m_obj ad))] sz)) 0 0 (va_A [(h0, .inr (14, m_obj ad))] sz) := by
  refine Met.ofW (cc := cX12_printed) (maxL := 4) (ret := (some .int)) (by decide) rfl ?_
  intro p e s m args below meth c s₁ B hml hv
  obtain ⟨rfl, hsz, hP, hK, hD0⟩ := hv
  have hx := B.exec
  have hb := B.bytes
  have hr := B.returns
  have hts := atoms_spec (ws := wsX12_printed) B.pre
  have hown : s.vm.findClass RX12 = some m.cls := findClass_of_methodNamed B.named
  have hlocks := B.notSynchronized
  subst hsz
  have hD := hD0.self (sz := s.heap.size)
  generalize hAe : va_A [(h0, .inr (14, m_obj ad))] s.heap.size = A at hD ⊢
  have hA : ∀ q : Nat, s.heap.size ≤ q → A q := fun q h => by rw [← hAe]; exact Or.inr h
  have hS : va_S A s.heap s.heap [] := va_S.rf
  have hP : va_P (dC, dI) vwCl [(h0, .inr (14, m_obj ad))] s.heap := hP
  have hl := lv_entry ([.ref h0, .int p0, .int p1]) (n := 4) (Nat.le_of_ble_eq_true rfl)
  rw [lg_entry_eq]
  generalize (lg_sl ([.ref h0, .int p0, .int p1]) ++ List.replicate (4 - (lg_sl ([.ref h0, .int p0, .int p1])).length) Slot.unset).toArray = ls at hl ⊢
  have hl : lv_has ls 4 [(0, .ref h0), (1, .int p0), (2, .int p1)] := hl
  have hwX12 : ∀ w ∈ wsX120, w ∈ wsX12_printed := (fun w h => List.mem_cons_of_mem _ (List.mem_append_right _ h))
  refine lv_aload_n hx hb dX12_printed_0 rfl (lv_at hl 0 rfl) ?_
  refine lv_iconst (v := 0) hx hb dX12_printed_1 (by decide) ?_
  refine va_put (D := (dC, dI)) (ci := 14) (v := .int 0) (ty := tyX12 0) (C := RX12) (T := TX12) (N := 151) hx hb hts hwX12 tyX12 tyX12_ok nmX12 hown hK hP hD hS 0 rfl rfl 0 (Nat.le_of_ble_eq_true rfl) (hts (.fieldLink RX12 289 "ScriptTypesModel" "thrown" "I") (List.mem_of_getElem? (i := 1) (by decide +kernel))) (fun _ h9 => h9) rfl (tyX12_ok 0 (Nat.le_of_ble_eq_true rfl)) rfl rfl (Nat.le_of_ble_eq_true rfl) dX12_printed_2 (fun H locs hP hD hS => ?_)
  have hP : va_P (dC, dI) vwCl [(h0, .inr (14, (m_obj ad).set 0 (.int 0)))] H := hP
  have hD : va_D A [(h0, .inr (14, (m_obj ad).set 0 (.int 0)))] := hD
  refine lv_aload_n hx hb dX12_printed_5 rfl (lv_at hl 0 rfl) ?_
  refine va_get (D := (dC, dI)) (ci := 14) (v := .int 0) (C := RX12) (T := TX12) (N := 151) hx hb hts hwX12 hown hK hP 0 rfl rfl 73 (Nat.le_of_ble_eq_true rfl) (hts (.fieldLink RX12 773 "ScriptTypesModel" "state" "I") (List.mem_of_getElem? (i := 2) (by decide +kernel))) (fun _ h9 => h9) rfl dX12_printed_6 ?_
  refine lv_if_eq (tgt := 26) hx hb dX12_printed_9 (by decide) (fun _ => ?_) (fun c1_9 => absurd (by decide) c1_9)
  refine lv_iconst (v := (-1)) hx hb dX12_printed_26 (by decide) ?_
  exact W.iret (v := (-1)) hx hb hr (fun t ht hW => ⟨⟨(-1), (), rfl, rfl, trivial⟩, hS.F ht⟩) hS.2.2 dX12_printed_27

set_option maxHeartbeats 8000000 in
set_option maxRecDepth 100000 in
theorem k_X12_uncaught (l : Launch) (dC : Nat → ClassId) (dI : Nat → Nat → Nat) (sz : Nat) (h0 : Nat) (ad : Nat → Nat) (p0 : Int32) : Met l yX12_uncaught wsX12_uncaught ({ frames := 0, cells := 0, slots := 0, locals := 0 }) (va_Pc [.ref h0, .int p0] (fun U => U.heap.size = sz ∧ va_P (dC, dI) vwCl [(h0, .inr (14, m_obj ad))] U.heap ∧ va_K (dC, dI) vwCl [] U ∧ va_D (fun _ => True) [(h0, .inr (14, m_obj ad))])) (va_Qi (fun (r : Int32) (_ : Unit) => r = -1) (fun _ _ => True) (va_A [(h0, .inr (14, m_obj ad))] sz)) 0 0 (va_A [(h0, .inr (14, m_obj ad))] sz) := by
  refine Met.ofW (cc := cX12_uncaught) (maxL := 2) (ret := (some .int)) (by decide) rfl ?_
  intro p e s m args below meth c s₁ B hml hv
  obtain ⟨rfl, hsz, hP, hK, hD0⟩ := hv
  have hx := B.exec
  have hb := B.bytes
  have hr := B.returns
  have hts := atoms_spec (ws := wsX12_uncaught) B.pre
  have hown : s.vm.findClass RX12 = some m.cls := findClass_of_methodNamed B.named
  have hlocks := B.notSynchronized
  subst hsz
  have hD := hD0.self (sz := s.heap.size)
  generalize hAe : va_A [(h0, .inr (14, m_obj ad))] s.heap.size = A at hD ⊢
  have hA : ∀ q : Nat, s.heap.size ≤ q → A q := fun q h => by rw [← hAe]; exact Or.inr h
  have hS : va_S A s.heap s.heap [] := va_S.rf
  have hP : va_P (dC, dI) vwCl [(h0, .inr (14, m_obj ad))] s.heap := hP
  have hl := lv_entry ([.ref h0, .int p0]) (n := 2) (Nat.le_of_ble_eq_true rfl)
  rw [lg_entry_eq]
  generalize (lg_sl ([.ref h0, .int p0]) ++ List.replicate (2 - (lg_sl ([.ref h0, .int p0])).length) Slot.unset).toArray = ls at hl ⊢
  have hl : lv_has ls 2 [(0, .ref h0), (1, .int p0)] := hl
  have hwX12 : ∀ w ∈ wsX120, w ∈ wsX12_uncaught := (fun w h => List.mem_cons_of_mem _ (List.mem_append_right _ h))
  refine lv_aload_n hx hb dX12_uncaught_0 rfl (lv_at hl 0 rfl) ?_
  refine lv_iconst (v := 0) hx hb dX12_uncaught_1 (by decide) ?_
  refine va_put (D := (dC, dI)) (ci := 14) (v := .int 0) (ty := tyX12 0) (C := RX12) (T := TX12) (N := 151) hx hb hts hwX12 tyX12 tyX12_ok nmX12 hown hK hP hD hS 0 rfl rfl 0 (Nat.le_of_ble_eq_true rfl) (hts (.fieldLink RX12 289 "ScriptTypesModel" "thrown" "I") (List.mem_of_getElem? (i := 1) (by decide +kernel))) (fun _ h9 => h9) rfl (tyX12_ok 0 (Nat.le_of_ble_eq_true rfl)) rfl rfl (Nat.le_of_ble_eq_true rfl) dX12_uncaught_2 (fun H locs hP hD hS => ?_)
  have hP : va_P (dC, dI) vwCl [(h0, .inr (14, (m_obj ad).set 0 (.int 0)))] H := hP
  have hD : va_D A [(h0, .inr (14, (m_obj ad).set 0 (.int 0)))] := hD
  refine lv_aload_n hx hb dX12_uncaught_5 rfl (lv_at hl 0 rfl) ?_
  refine va_get (D := (dC, dI)) (ci := 14) (v := .int 0) (C := RX12) (T := TX12) (N := 151) hx hb hts hwX12 hown hK hP 0 rfl rfl 73 (Nat.le_of_ble_eq_true rfl) (hts (.fieldLink RX12 773 "ScriptTypesModel" "state" "I") (List.mem_of_getElem? (i := 2) (by decide +kernel))) (fun _ h9 => h9) rfl dX12_uncaught_6 ?_
  refine lv_iconst (v := 3) hx hb dX12_uncaught_9 (by decide) ?_
  refine lv_icmp_ne (tgt := 29) hx hb dX12_uncaught_10 (by decide) (fun _ => ?_) (fun c1_10 => absurd c1_10 (by decide))
  refine lv_iconst (v := (-1)) hx hb dX12_uncaught_29 (by decide) ?_
  exact W.iret (v := (-1)) hx hb hr (fun t ht hW => ⟨⟨(-1), (), rfl, rfl, trivial⟩, hS.F ht⟩) hS.2.2 dX12_uncaught_30

set_option maxHeartbeats 8000000 in
set_option maxRecDepth 100000 in
theorem k_X12_isReached (l : Launch) (dC : Nat → ClassId) (dI : Nat → Nat → Nat) (sz : Nat) (h0 : Nat) (ad : Nat → Nat) (p0 : Int32) : Met l yX12_isReached wsX12_isReached ({ frames := 0, cells := 0, slots := 0, locals := 0 }) (va_Pc [.ref h0, .int p0] (fun U => U.heap.size = sz ∧ va_P (dC, dI) vwCl [(h0, .inr (14, m_obj ad))] U.heap ∧ va_K (dC, dI) vwCl [] U ∧ va_D (fun _ => True) [(h0, .inr (14, m_obj ad))])) (va_Qi (fun (r : Int32) (_ : Unit) => r = 0) (fun _ _ => True) (va_A [(h0, .inr (14, m_obj ad))] sz)) 0 0 (va_A [(h0, .inr (14, m_obj ad))] sz) := by
  refine Met.ofW (cc := cX12_isReached) (maxL := 2) (ret := (some .boolean)) (by decide) rfl ?_
  intro p e s m args below meth c s₁ B hml hv
  obtain ⟨rfl, hsz, hP, hK, hD0⟩ := hv
  have hx := B.exec
  have hb := B.bytes
  have hr := B.returns
  have hts := atoms_spec (ws := wsX12_isReached) B.pre
  have hown : s.vm.findClass RX12 = some m.cls := findClass_of_methodNamed B.named
  have hlocks := B.notSynchronized
  subst hsz
  have hD := hD0.self (sz := s.heap.size)
  generalize hAe : va_A [(h0, .inr (14, m_obj ad))] s.heap.size = A at hD ⊢
  have hA : ∀ q : Nat, s.heap.size ≤ q → A q := fun q h => by rw [← hAe]; exact Or.inr h
  have hS : va_S A s.heap s.heap [] := va_S.rf
  have hP : va_P (dC, dI) vwCl [(h0, .inr (14, m_obj ad))] s.heap := hP
  have hl := lv_entry ([.ref h0, .int p0]) (n := 2) (Nat.le_of_ble_eq_true rfl)
  rw [lg_entry_eq]
  generalize (lg_sl ([.ref h0, .int p0]) ++ List.replicate (2 - (lg_sl ([.ref h0, .int p0])).length) Slot.unset).toArray = ls at hl ⊢
  have hl : lv_has ls 2 [(0, .ref h0), (1, .int p0)] := hl
  have hwX12 : ∀ w ∈ wsX120, w ∈ wsX12_isReached := (fun w h => List.mem_cons_of_mem _ (List.mem_append_right _ h))
  refine lv_aload_n hx hb dX12_isReached_0 rfl (lv_at hl 0 rfl) ?_
  refine lv_iconst (v := 0) hx hb dX12_isReached_1 (by decide) ?_
  refine va_put (D := (dC, dI)) (ci := 14) (v := .int 0) (ty := tyX12 0) (C := RX12) (T := TX12) (N := 151) hx hb hts hwX12 tyX12 tyX12_ok nmX12 hown hK hP hD hS 0 rfl rfl 0 (Nat.le_of_ble_eq_true rfl) (hts (.fieldLink RX12 289 "ScriptTypesModel" "thrown" "I") (List.mem_of_getElem? (i := 1) (by decide +kernel))) (fun _ h9 => h9) rfl (tyX12_ok 0 (Nat.le_of_ble_eq_true rfl)) rfl rfl (Nat.le_of_ble_eq_true rfl) dX12_isReached_2 (fun H locs hP hD hS => ?_)
  have hP : va_P (dC, dI) vwCl [(h0, .inr (14, (m_obj ad).set 0 (.int 0)))] H := hP
  have hD : va_D A [(h0, .inr (14, (m_obj ad).set 0 (.int 0)))] := hD
  refine lv_aload_n hx hb dX12_isReached_5 rfl (lv_at hl 0 rfl) ?_
  refine va_get (D := (dC, dI)) (ci := 14) (v := .int 0) (C := RX12) (T := TX12) (N := 151) hx hb hts hwX12 hown hK hP 0 rfl rfl 119 (Nat.le_of_ble_eq_true rfl) (hts (.fieldLink RX12 776 "ScriptTypesModel" "solved" "Z") (List.mem_of_getElem? (i := 2) (by decide +kernel))) (fun _ h9 => h9) rfl dX12_isReached_6 ?_
  refine lv_if_eq (tgt := 39) hx hb dX12_isReached_9 (by decide) (fun _ => ?_) (fun c1_9 => absurd (by decide) c1_9)
  refine lv_iconst (v := 0) hx hb dX12_isReached_39 (by decide) ?_
  exact W.zret (v := 0) hx hb hr rfl (fun t ht hW => ⟨⟨0, (), rfl, rfl, trivial⟩, hS.F ht⟩) hS.2.2 dX12_isReached_40

set_option maxHeartbeats 8000000 in
set_option maxRecDepth 100000 in
theorem k_X12_result (l : Launch) (dC : Nat → ClassId) (dI : Nat → Nat → Nat) (sz : Nat) (h0 : Nat) (ad : Nat → Nat) (p0 : Int32) (p1 : Int32) (p2 : Int32) : Met l yX12_result wsX12_result ({ frames := 0, cells := 0, slots := 0, locals := 0 }) (va_Pc [.ref h0, .int p0, .int p1, .int p2] (fun U => U.heap.size = sz ∧ va_P (dC, dI) vwCl [(h0, .inr (14, m_obj ad))] U.heap ∧ va_K (dC, dI) vwCl [] U ∧ va_D (fun _ => True) [(h0, .inr (14, m_obj ad))])) (va_Ql (fun (r : Int64) (_ : Unit) => r = 0) (fun _ _ => True) (va_A [(h0, .inr (14, m_obj ad))] sz)) 0 0 (va_A [(h0, .inr (14, m_obj ad))] sz) := by
  refine Met.ofW (cc := cX12_result) (maxL := 5) (ret := (some .long)) (by decide) rfl ?_
  intro p e s m args below meth c s₁ B hml hv
  obtain ⟨rfl, hsz, hP, hK, hD0⟩ := hv
  have hx := B.exec
  have hb := B.bytes
  have hr := B.returns
  have hts := atoms_spec (ws := wsX12_result) B.pre
  have hown : s.vm.findClass RX12 = some m.cls := findClass_of_methodNamed B.named
  have hlocks := B.notSynchronized
  subst hsz
  have hD := hD0.self (sz := s.heap.size)
  generalize hAe : va_A [(h0, .inr (14, m_obj ad))] s.heap.size = A at hD ⊢
  have hA : ∀ q : Nat, s.heap.size ≤ q → A q := fun q h => by rw [← hAe]; exact Or.inr h
  have hS : va_S A s.heap s.heap [] := va_S.rf
  have hP : va_P (dC, dI) vwCl [(h0, .inr (14, m_obj ad))] s.heap := hP
  have hl := lv_entry ([.ref h0, .int p0, .int p1, .int p2]) (n := 5) (Nat.le_of_ble_eq_true rfl)
  rw [lg_entry_eq]
  generalize (lg_sl ([.ref h0, .int p0, .int p1, .int p2]) ++ List.replicate (5 - (lg_sl ([.ref h0, .int p0, .int p1, .int p2])).length) Slot.unset).toArray = ls at hl ⊢
  have hl : lv_has ls 5 [(0, .ref h0), (1, .int p0), (2, .int p1), (3, .int p2)] := hl
  have hwX12 : ∀ w ∈ wsX120, w ∈ wsX12_result := (fun w h => List.mem_cons_of_mem _ (List.mem_append_right _ h))
  refine lv_aload_n hx hb dX12_result_0 rfl (lv_at hl 0 rfl) ?_
  refine lv_iconst (v := 0) hx hb dX12_result_1 (by decide) ?_
  refine va_put (D := (dC, dI)) (ci := 14) (v := .int 0) (ty := tyX12 0) (C := RX12) (T := TX12) (N := 151) hx hb hts hwX12 tyX12 tyX12_ok nmX12 hown hK hP hD hS 0 rfl rfl 0 (Nat.le_of_ble_eq_true rfl) (hts (.fieldLink RX12 289 "ScriptTypesModel" "thrown" "I") (List.mem_of_getElem? (i := 1) (by decide +kernel))) (fun _ h9 => h9) rfl (tyX12_ok 0 (Nat.le_of_ble_eq_true rfl)) rfl rfl (Nat.le_of_ble_eq_true rfl) dX12_result_2 (fun H locs hP hD hS => ?_)
  have hP : va_P (dC, dI) vwCl [(h0, .inr (14, (m_obj ad).set 0 (.int 0)))] H := hP
  have hD : va_D A [(h0, .inr (14, (m_obj ad).set 0 (.int 0)))] := hD
  refine lv_aload_n hx hb dX12_result_5 rfl (lv_at hl 0 rfl) ?_
  refine va_get (D := (dC, dI)) (ci := 14) (v := .int 0) (C := RX12) (T := TX12) (N := 151) hx hb hts hwX12 hown hK hP 0 rfl rfl 119 (Nat.le_of_ble_eq_true rfl) (hts (.fieldLink RX12 776 "ScriptTypesModel" "solved" "Z") (List.mem_of_getElem? (i := 2) (by decide +kernel))) (fun _ h9 => h9) rfl dX12_result_6 ?_
  refine lv_if_eq (tgt := 35) hx hb dX12_result_9 (by decide) (fun _ => ?_) (fun c1_9 => absurd (by decide) c1_9)
  refine lv_lconst (v := 0) hx hb dX12_result_35 (by decide) ?_
  exact W.lret (v := 0) hx hb hr (fun t ht hW => ⟨⟨0, (), rfl, rfl, trivial⟩, hS.F ht⟩) hS.2.2 dX12_result_36

set_option maxHeartbeats 8000000 in
set_option maxRecDepth 100000 in
theorem k_X12_height (l : Launch) (dC : Nat → ClassId) (dI : Nat → Nat → Nat) (sz : Nat) (h0 : Nat) (ad : Nat → Nat) (p0 : Int32) : Met l yX12_height wsX12_height ({ frames := 1, cells := 0, slots := 0, locals := 21 }) (va_Pc [.ref h0, .int p0] (fun U => U.heap.size = sz ∧ va_P (dC, dI) vwCl [(h0, .inr (14, m_obj ad))] U.heap ∧ va_K (dC, dI) vwCl [] U ∧ va_D (fun _ => True) [(h0, .inr (14, m_obj ad))])) (va_Qi (fun (r : Int32) (_ : Unit) => r = -1) (fun _ _ => True) (va_A [(h0, .inr (14, m_obj ad))] sz)) 0 0 (va_A [(h0, .inr (14, m_obj ad))] sz) := by
  refine Met.ofW (cc := cX12_height) (maxL := 2) (ret := (some .int)) (by decide) rfl ?_
  intro p e s m args below meth c s₁ B hml hv
  obtain ⟨rfl, hsz, hP, hK, hD0⟩ := hv
  have hx := B.exec
  have hb := B.bytes
  have hr := B.returns
  have hts := atoms_spec (ws := wsX12_height) B.pre
  have hown : s.vm.findClass RX12 = some m.cls := findClass_of_methodNamed B.named
  have hlocks := B.notSynchronized
  subst hsz
  have hD := hD0.self (sz := s.heap.size)
  generalize hAe : va_A [(h0, .inr (14, m_obj ad))] s.heap.size = A at hD ⊢
  have hA : ∀ q : Nat, s.heap.size ≤ q → A q := fun q h => by rw [← hAe]; exact Or.inr h
  have hS : va_S A s.heap s.heap [] := va_S.rf
  have hP : va_P (dC, dI) vwCl [(h0, .inr (14, m_obj ad))] s.heap := hP
  have hl := lv_entry ([.ref h0, .int p0]) (n := 2) (Nat.le_of_ble_eq_true rfl)
  rw [lg_entry_eq]
  generalize (lg_sl ([.ref h0, .int p0]) ++ List.replicate (2 - (lg_sl ([.ref h0, .int p0])).length) Slot.unset).toArray = ls at hl ⊢
  have hl : lv_has ls 2 [(0, .ref h0), (1, .int p0)] := hl
  refine lv_aload_n hx hb dX12_height_0 rfl (lv_at hl 0 rfl) ?_
  refine lv_iload_n hx hb dX12_height_1 rfl (lv_at hl 1 rfl) ?_
  have hPc := hP.sub (ws' := [(h0, .inr (14, m_obj ad))]) [0] rfl
  have hDc := hD.sub (ws' := [(h0, .inr (14, m_obj ad))]) [0] (by decide) rfl
  have hKc := hK.sub (tys' := []) [] rfl
  have hFc := va_free (wc := [(h0, .inr (14, m_obj ad))]) hD hS hA [0] rfl
  refine va_calli (va_runV (As := [.int p0]) (rest := []) ⟨hx, hb, hml, hown, hts⟩ (k_X12_isReached l dC dI s.heap.size h0 ad p0) (cwV 1 hts gX12_height_X12_isReached rfl rfl rfl (by decide +kernel) ⟨Nat.le_of_ble_eq_true rfl, Nat.le_of_ble_eq_true rfl⟩) ⟨fun a U g mk q => by obtain ⟨q0, q1, qP, qK, qD⟩ := q; exact ⟨q0, q1, qP, va_K.moved (u := U) (U := U.calling g mk a) (Vm.Alike.refl U.vm) qK, qD⟩, va_recv hKc hPc (ci := 14) (q0 := 0) rfl rfl, fun U hU hW => ⟨rfl, by rw [hU], by rw [hU]; exact hPc, va_K.moved hW.alike hKc, hDc.weaken (fun _ _ _ _ => trivial)⟩⟩ rfl rfl hl.1 rfl (lv_room (Nat.le_of_ble_eq_true rfl)) dX12_height_2 ⟨Nat.le_of_ble_eq_true rfl, Nat.le_of_ble_eq_true rfl⟩) hS (fun q _ h => hFc q h) hFc (fun r_1 u t H1 locs ht hvm hw hB hz1 hk1 hS => ?_)
  try dsimp only at hw
  obtain ⟨hP, hD⟩ := va_join (wr := []) (w1 := []) hP hD [0] [] rfl rfl (by decide) (by decide) hk1 hFc (fun k q h => by simp at h) ⟨fun i j p q h => by simp at h, fun k q h => by simp at h⟩
  generalize H1 = H at hP hS ⊢
  have hP : va_P (dC, dI) vwCl [] H := hP
  have hD : va_D A [] := hD
  obtain rfl : r_1 = 0 := hw
  refine lv_if_eq (tgt := 17) hx hb dX12_height_5 (by decide) (fun _ => ?_) (fun c2_5 => absurd (by decide) c2_5)
  refine lv_iconst (v := (-1)) hx hb dX12_height_17 (by decide) ?_
  exact W.iret (v := (-1)) hx hb hr (fun t ht hW => ⟨⟨(-1), (), rfl, rfl, trivial⟩, hS.F ht⟩) hS.2.2 dX12_height_18

set_option maxHeartbeats 8000000 in
set_option maxRecDepth 100000 in
theorem k_X12_warns (l : Launch) (dC : Nat → ClassId) (dI : Nat → Nat → Nat) (sz : Nat) (h0 : Nat) (ad : Nat → Nat) (p0 : Int32) : Met l yX12_warns wsX12_warns ({ frames := 1, cells := 0, slots := 0, locals := 21 }) (va_Pc [.ref h0, .int p0] (fun U => U.heap.size = sz ∧ va_P (dC, dI) vwCl [(h0, .inr (14, m_obj ad))] U.heap ∧ va_K (dC, dI) vwCl [] U ∧ va_D (fun _ => True) [(h0, .inr (14, m_obj ad))])) (va_Qi (fun (r : Int32) (_ : Unit) => r = -1) (fun _ _ => True) (va_A [(h0, .inr (14, m_obj ad))] sz)) 0 0 (va_A [(h0, .inr (14, m_obj ad))] sz) := by
  refine Met.ofW (cc := cX12_warns) (maxL := 2) (ret := (some .int)) (by decide) rfl ?_
  intro p e s m args below meth c s₁ B hml hv
  obtain ⟨rfl, hsz, hP, hK, hD0⟩ := hv
  have hx := B.exec
  have hb := B.bytes
  have hr := B.returns
  have hts := atoms_spec (ws := wsX12_warns) B.pre
  have hown : s.vm.findClass RX12 = some m.cls := findClass_of_methodNamed B.named
  have hlocks := B.notSynchronized
  subst hsz
  have hD := hD0.self (sz := s.heap.size)
  generalize hAe : va_A [(h0, .inr (14, m_obj ad))] s.heap.size = A at hD ⊢
  have hA : ∀ q : Nat, s.heap.size ≤ q → A q := fun q h => by rw [← hAe]; exact Or.inr h
  have hS : va_S A s.heap s.heap [] := va_S.rf
  have hP : va_P (dC, dI) vwCl [(h0, .inr (14, m_obj ad))] s.heap := hP
  have hl := lv_entry ([.ref h0, .int p0]) (n := 2) (Nat.le_of_ble_eq_true rfl)
  rw [lg_entry_eq]
  generalize (lg_sl ([.ref h0, .int p0]) ++ List.replicate (2 - (lg_sl ([.ref h0, .int p0])).length) Slot.unset).toArray = ls at hl ⊢
  have hl : lv_has ls 2 [(0, .ref h0), (1, .int p0)] := hl
  refine lv_aload_n hx hb dX12_warns_0 rfl (lv_at hl 0 rfl) ?_
  refine lv_iload_n hx hb dX12_warns_1 rfl (lv_at hl 1 rfl) ?_
  have hPc := hP.sub (ws' := [(h0, .inr (14, m_obj ad))]) [0] rfl
  have hDc := hD.sub (ws' := [(h0, .inr (14, m_obj ad))]) [0] (by decide) rfl
  have hKc := hK.sub (tys' := []) [] rfl
  have hFc := va_free (wc := [(h0, .inr (14, m_obj ad))]) hD hS hA [0] rfl
  refine va_calli (va_runV (As := [.int p0]) (rest := []) ⟨hx, hb, hml, hown, hts⟩ (k_X12_isReached l dC dI s.heap.size h0 ad p0) (cwV 1 hts gX12_warns_X12_isReached rfl rfl rfl (by decide +kernel) ⟨Nat.le_of_ble_eq_true rfl, Nat.le_of_ble_eq_true rfl⟩) ⟨fun a U g mk q => by obtain ⟨q0, q1, qP, qK, qD⟩ := q; exact ⟨q0, q1, qP, va_K.moved (u := U) (U := U.calling g mk a) (Vm.Alike.refl U.vm) qK, qD⟩, va_recv hKc hPc (ci := 14) (q0 := 0) rfl rfl, fun U hU hW => ⟨rfl, by rw [hU], by rw [hU]; exact hPc, va_K.moved hW.alike hKc, hDc.weaken (fun _ _ _ _ => trivial)⟩⟩ rfl rfl hl.1 rfl (lv_room (Nat.le_of_ble_eq_true rfl)) dX12_warns_2 ⟨Nat.le_of_ble_eq_true rfl, Nat.le_of_ble_eq_true rfl⟩) hS (fun q _ h => hFc q h) hFc (fun r_1 u t H1 locs ht hvm hw hB hz1 hk1 hS => ?_)
  try dsimp only at hw
  obtain ⟨hP, hD⟩ := va_join (wr := []) (w1 := []) hP hD [0] [] rfl rfl (by decide) (by decide) hk1 hFc (fun k q h => by simp at h) ⟨fun i j p q h => by simp at h, fun k q h => by simp at h⟩
  generalize H1 = H at hP hS ⊢
  have hP : va_P (dC, dI) vwCl [] H := hP
  have hD : va_D A [] := hD
  obtain rfl : r_1 = 0 := hw
  refine lv_if_eq (tgt := 17) hx hb dX12_warns_5 (by decide) (fun _ => ?_) (fun c2_5 => absurd (by decide) c2_5)
  refine lv_iconst (v := (-1)) hx hb dX12_warns_17 (by decide) ?_
  exact W.iret (v := (-1)) hx hb hr (fun t ht hW => ⟨⟨(-1), (), rfl, rfl, trivial⟩, hS.F ht⟩) hS.2.2 dX12_warns_18

set_option maxHeartbeats 8000000 in
set_option maxRecDepth 100000 in
theorem k_X12_slot (l : Launch) (dC : Nat → ClassId) (dI : Nat → Nat → Nat) (sz : Nat) (h0 : Nat) (ad : Nat → Nat) (p0 : Int32) (p1 : Int32) (p2 : Int32) : Met l yX12_slot wsX12_slot ({ frames := 1, cells := 0, slots := 0, locals := 21 }) (va_Pc [.ref h0, .int p0, .int p1, .int p2] (fun U => U.heap.size = sz ∧ va_P (dC, dI) vwCl [(h0, .inr (14, m_obj ad))] U.heap ∧ va_K (dC, dI) vwCl [] U ∧ va_D (fun _ => True) [(h0, .inr (14, m_obj ad))])) (va_Ql (fun (r : Int64) (_ : Unit) => r = 0) (fun _ _ => True) (va_A [(h0, .inr (14, m_obj ad))] sz)) 0 0 (va_A [(h0, .inr (14, m_obj ad))] sz) := by
  refine Met.ofW (cc := cX12_slot) (maxL := 4) (ret := (some .long)) (by decide) rfl ?_
  intro p e s m args below meth c s₁ B hml hv
  obtain ⟨rfl, hsz, hP, hK, hD0⟩ := hv
  have hx := B.exec
  have hb := B.bytes
  have hr := B.returns
  have hts := atoms_spec (ws := wsX12_slot) B.pre
  have hown : s.vm.findClass RX12 = some m.cls := findClass_of_methodNamed B.named
  have hlocks := B.notSynchronized
  subst hsz
  have hD := hD0.self (sz := s.heap.size)
  generalize hAe : va_A [(h0, .inr (14, m_obj ad))] s.heap.size = A at hD ⊢
  have hA : ∀ q : Nat, s.heap.size ≤ q → A q := fun q h => by rw [← hAe]; exact Or.inr h
  have hS : va_S A s.heap s.heap [] := va_S.rf
  have hP : va_P (dC, dI) vwCl [(h0, .inr (14, m_obj ad))] s.heap := hP
  have hl := lv_entry ([.ref h0, .int p0, .int p1, .int p2]) (n := 4) (Nat.le_of_ble_eq_true rfl)
  rw [lg_entry_eq]
  generalize (lg_sl ([.ref h0, .int p0, .int p1, .int p2]) ++ List.replicate (4 - (lg_sl ([.ref h0, .int p0, .int p1, .int p2])).length) Slot.unset).toArray = ls at hl ⊢
  have hl : lv_has ls 4 [(0, .ref h0), (1, .int p0), (2, .int p1), (3, .int p2)] := hl
  refine lv_aload_n hx hb dX12_slot_0 rfl (lv_at hl 0 rfl) ?_
  refine lv_iload_n hx hb dX12_slot_1 rfl (lv_at hl 1 rfl) ?_
  have hPc := hP.sub (ws' := [(h0, .inr (14, m_obj ad))]) [0] rfl
  have hDc := hD.sub (ws' := [(h0, .inr (14, m_obj ad))]) [0] (by decide) rfl
  have hKc := hK.sub (tys' := []) [] rfl
  have hFc := va_free (wc := [(h0, .inr (14, m_obj ad))]) hD hS hA [0] rfl
  refine va_calli (va_runV (As := [.int p0]) (rest := []) ⟨hx, hb, hml, hown, hts⟩ (k_X12_isReached l dC dI s.heap.size h0 ad p0) (cwV 1 hts gX12_slot_X12_isReached rfl rfl rfl (by decide +kernel) ⟨Nat.le_of_ble_eq_true rfl, Nat.le_of_ble_eq_true rfl⟩) ⟨fun a U g mk q => by obtain ⟨q0, q1, qP, qK, qD⟩ := q; exact ⟨q0, q1, qP, va_K.moved (u := U) (U := U.calling g mk a) (Vm.Alike.refl U.vm) qK, qD⟩, va_recv hKc hPc (ci := 14) (q0 := 0) rfl rfl, fun U hU hW => ⟨rfl, by rw [hU], by rw [hU]; exact hPc, va_K.moved hW.alike hKc, hDc.weaken (fun _ _ _ _ => trivial)⟩⟩ rfl rfl hl.1 rfl (lv_room (Nat.le_of_ble_eq_true rfl)) dX12_slot_2 ⟨Nat.le_of_ble_eq_true rfl, Nat.le_of_ble_eq_true rfl⟩) hS (fun q _ h => hFc q h) hFc (fun r_1 u t H1 locs ht hvm hw hB hz1 hk1 hS => ?_)
  try dsimp only at hw
  obtain ⟨hP, hD⟩ := va_join (wr := []) (w1 := []) hP hD [0] [] rfl rfl (by decide) (by decide) hk1 hFc (fun k q h => by simp at h) ⟨fun i j p q h => by simp at h, fun k q h => by simp at h⟩
  generalize H1 = H at hP hS ⊢
  have hP : va_P (dC, dI) vwCl [] H := hP
  have hD : va_D A [] := hD
  obtain rfl : r_1 = 0 := hw
  refine lv_if_eq (tgt := 24) hx hb dX12_slot_5 (by decide) (fun _ => ?_) (fun c2_5 => absurd (by decide) c2_5)
  refine lv_lconst (v := 0) hx hb dX12_slot_24 (by decide) ?_
  exact W.lret (v := 0) hx hb hr (fun t ht hW => ⟨⟨0, (), rfl, rfl, trivial⟩, hS.F ht⟩) hS.2.2 dX12_slot_25

set_option maxHeartbeats 8000000 in
set_option maxRecDepth 100000 in
theorem k_X12_link (l : Launch) (dC : Nat → ClassId) (dI : Nat → Nat → Nat) (sz : Nat) (h0 : Nat) (ad : Nat → Nat) (p0 : Int32) (p1 : Int32) (p2 : Int32) : Met l yX12_link wsX12_link ({ frames := 1, cells := 0, slots := 0, locals := 21 }) (va_Pc [.ref h0, .int p0, .int p1, .int p2] (fun U => U.heap.size = sz ∧ va_P (dC, dI) vwCl [(h0, .inr (14, m_obj ad))] U.heap ∧ va_K (dC, dI) vwCl [] U ∧ va_D (fun _ => True) [(h0, .inr (14, m_obj ad))])) (va_Ql (fun (r : Int64) (_ : Unit) => r = 0) (fun _ _ => True) (va_A [(h0, .inr (14, m_obj ad))] sz)) 0 0 (va_A [(h0, .inr (14, m_obj ad))] sz) := by
  refine Met.ofW (cc := cX12_link) (maxL := 5) (ret := (some .long)) (by decide) rfl ?_
  intro p e s m args below meth c s₁ B hml hv
  obtain ⟨rfl, hsz, hP, hK, hD0⟩ := hv
  have hx := B.exec
  have hb := B.bytes
  have hr := B.returns
  have hts := atoms_spec (ws := wsX12_link) B.pre
  have hown : s.vm.findClass RX12 = some m.cls := findClass_of_methodNamed B.named
  have hlocks := B.notSynchronized
  subst hsz
  have hD := hD0.self (sz := s.heap.size)
  generalize hAe : va_A [(h0, .inr (14, m_obj ad))] s.heap.size = A at hD ⊢
  have hA : ∀ q : Nat, s.heap.size ≤ q → A q := fun q h => by rw [← hAe]; exact Or.inr h
  have hS : va_S A s.heap s.heap [] := va_S.rf
  have hP : va_P (dC, dI) vwCl [(h0, .inr (14, m_obj ad))] s.heap := hP
  have hl := lv_entry ([.ref h0, .int p0, .int p1, .int p2]) (n := 5) (Nat.le_of_ble_eq_true rfl)
  rw [lg_entry_eq]
  generalize (lg_sl ([.ref h0, .int p0, .int p1, .int p2]) ++ List.replicate (5 - (lg_sl ([.ref h0, .int p0, .int p1, .int p2])).length) Slot.unset).toArray = ls at hl ⊢
  have hl : lv_has ls 5 [(0, .ref h0), (1, .int p0), (2, .int p1), (3, .int p2)] := hl
  refine lv_aload_n hx hb dX12_link_0 rfl (lv_at hl 0 rfl) ?_
  refine lv_iload_n hx hb dX12_link_1 rfl (lv_at hl 1 rfl) ?_
  have hPc := hP.sub (ws' := [(h0, .inr (14, m_obj ad))]) [0] rfl
  have hDc := hD.sub (ws' := [(h0, .inr (14, m_obj ad))]) [0] (by decide) rfl
  have hKc := hK.sub (tys' := []) [] rfl
  have hFc := va_free (wc := [(h0, .inr (14, m_obj ad))]) hD hS hA [0] rfl
  refine va_calli (va_runV (As := [.int p0]) (rest := []) ⟨hx, hb, hml, hown, hts⟩ (k_X12_isReached l dC dI s.heap.size h0 ad p0) (cwV 1 hts gX12_link_X12_isReached rfl rfl rfl (by decide +kernel) ⟨Nat.le_of_ble_eq_true rfl, Nat.le_of_ble_eq_true rfl⟩) ⟨fun a U g mk q => by obtain ⟨q0, q1, qP, qK, qD⟩ := q; exact ⟨q0, q1, qP, va_K.moved (u := U) (U := U.calling g mk a) (Vm.Alike.refl U.vm) qK, qD⟩, va_recv hKc hPc (ci := 14) (q0 := 0) rfl rfl, fun U hU hW => ⟨rfl, by rw [hU], by rw [hU]; exact hPc, va_K.moved hW.alike hKc, hDc.weaken (fun _ _ _ _ => trivial)⟩⟩ rfl rfl hl.1 rfl (lv_room (Nat.le_of_ble_eq_true rfl)) dX12_link_2 ⟨Nat.le_of_ble_eq_true rfl, Nat.le_of_ble_eq_true rfl⟩) hS (fun q _ h => hFc q h) hFc (fun r_1 u t H1 locs ht hvm hw hB hz1 hk1 hS => ?_)
  try dsimp only at hw
  obtain ⟨hP, hD⟩ := va_join (wr := []) (w1 := []) hP hD [0] [] rfl rfl (by decide) (by decide) hk1 hFc (fun k q h => by simp at h) ⟨fun i j p q h => by simp at h, fun k q h => by simp at h⟩
  generalize H1 = H at hP hS ⊢
  have hP : va_P (dC, dI) vwCl [] H := hP
  have hD : va_D A [] := hD
  obtain rfl : r_1 = 0 := hw
  refine lv_if_eq (tgt := 22) hx hb dX12_link_5 (by decide) (fun _ => ?_) (fun c2_5 => absurd (by decide) c2_5)
  refine lv_lconst (v := 0) hx hb dX12_link_22 (by decide) ?_
  exact W.lret (v := 0) hx hb hr (fun t ht hW => ⟨⟨0, (), rfl, rfl, trivial⟩, hS.F ht⟩) hS.2.2 dX12_link_23

set_option maxHeartbeats 8000000 in
set_option maxRecDepth 100000 in
theorem k_X12_field_ (l : Launch) (dC : Nat → ClassId) (dI : Nat → Nat → Nat) (sz : Nat) (h0 : Nat) (ad : Nat → Nat) (p0 : Int32) (p1 : Int32) (p2 : Int32) (p3 : Int32) : Met l yX12_field_ wsX12_field_ ({ frames := 1, cells := 0, slots := 0, locals := 21 }) (va_Pc [.ref h0, .int p0, .int p1, .int p2, .int p3] (fun U => U.heap.size = sz ∧ va_P (dC, dI) vwCl [(h0, .inr (14, m_obj ad))] U.heap ∧ va_K (dC, dI) vwCl [] U ∧ va_D (fun _ => True) [(h0, .inr (14, m_obj ad))])) (va_Ql (fun (r : Int64) (_ : Unit) => r = 0) (fun _ _ => True) (va_A [(h0, .inr (14, m_obj ad))] sz)) 0 0 (va_A [(h0, .inr (14, m_obj ad))] sz) := by
  refine Met.ofW (cc := cX12_field_) (maxL := 6) (ret := (some .long)) (by decide) rfl ?_
  intro p e s m args below meth c s₁ B hml hv
  obtain ⟨rfl, hsz, hP, hK, hD0⟩ := hv
  have hx := B.exec
  have hb := B.bytes
  have hr := B.returns
  have hts := atoms_spec (ws := wsX12_field_) B.pre
  have hown : s.vm.findClass RX12 = some m.cls := findClass_of_methodNamed B.named
  have hlocks := B.notSynchronized
  subst hsz
  have hD := hD0.self (sz := s.heap.size)
  generalize hAe : va_A [(h0, .inr (14, m_obj ad))] s.heap.size = A at hD ⊢
  have hA : ∀ q : Nat, s.heap.size ≤ q → A q := fun q h => by rw [← hAe]; exact Or.inr h
  have hS : va_S A s.heap s.heap [] := va_S.rf
  have hP : va_P (dC, dI) vwCl [(h0, .inr (14, m_obj ad))] s.heap := hP
  have hl := lv_entry ([.ref h0, .int p0, .int p1, .int p2, .int p3]) (n := 6) (Nat.le_of_ble_eq_true rfl)
  rw [lg_entry_eq]
  generalize (lg_sl ([.ref h0, .int p0, .int p1, .int p2, .int p3]) ++ List.replicate (6 - (lg_sl ([.ref h0, .int p0, .int p1, .int p2, .int p3])).length) Slot.unset).toArray = ls at hl ⊢
  have hl : lv_has ls 6 [(0, .ref h0), (1, .int p0), (2, .int p1), (3, .int p2), (4, .int p3)] := hl
  refine lv_aload_n hx hb dX12_field__0 rfl (lv_at hl 0 rfl) ?_
  refine lv_iload_n hx hb dX12_field__1 rfl (lv_at hl 1 rfl) ?_
  have hPc := hP.sub (ws' := [(h0, .inr (14, m_obj ad))]) [0] rfl
  have hDc := hD.sub (ws' := [(h0, .inr (14, m_obj ad))]) [0] (by decide) rfl
  have hKc := hK.sub (tys' := []) [] rfl
  have hFc := va_free (wc := [(h0, .inr (14, m_obj ad))]) hD hS hA [0] rfl
  refine va_calli (va_runV (As := [.int p0]) (rest := []) ⟨hx, hb, hml, hown, hts⟩ (k_X12_isReached l dC dI s.heap.size h0 ad p0) (cwV 1 hts gX12_field__X12_isReached rfl rfl rfl (by decide +kernel) ⟨Nat.le_of_ble_eq_true rfl, Nat.le_of_ble_eq_true rfl⟩) ⟨fun a U g mk q => by obtain ⟨q0, q1, qP, qK, qD⟩ := q; exact ⟨q0, q1, qP, va_K.moved (u := U) (U := U.calling g mk a) (Vm.Alike.refl U.vm) qK, qD⟩, va_recv hKc hPc (ci := 14) (q0 := 0) rfl rfl, fun U hU hW => ⟨rfl, by rw [hU], by rw [hU]; exact hPc, va_K.moved hW.alike hKc, hDc.weaken (fun _ _ _ _ => trivial)⟩⟩ rfl rfl hl.1 rfl (lv_room (Nat.le_of_ble_eq_true rfl)) dX12_field__2 ⟨Nat.le_of_ble_eq_true rfl, Nat.le_of_ble_eq_true rfl⟩) hS (fun q _ h => hFc q h) hFc (fun r_1 u t H1 locs ht hvm hw hB hz1 hk1 hS => ?_)
  try dsimp only at hw
  obtain ⟨hP, hD⟩ := va_join (wr := []) (w1 := []) hP hD [0] [] rfl rfl (by decide) (by decide) hk1 hFc (fun k q h => by simp at h) ⟨fun i j p q h => by simp at h, fun k q h => by simp at h⟩
  generalize H1 = H at hP hS ⊢
  have hP : va_P (dC, dI) vwCl [] H := hP
  have hD : va_D A [] := hD
  obtain rfl : r_1 = 0 := hw
  refine lv_if_eq (tgt := 52) hx hb dX12_field__5 (by decide) (fun _ => ?_) (fun c2_5 => absurd (by decide) c2_5)
  refine lv_iconst (v := 0) hx hb dX12_field__52 (by decide) ?_
  refine lv_istore (lv' := [(5, .int 0), (0, .ref h0), (1, .int p0), (2, .int p1), (3, .int p2), (4, .int p3)]) hx hb dX12_field__53 hl (by decide) rfl (fun ls hl => ?_)
  refine lv_iload hx hb dX12_field__55 (lv_at hl 0 rfl) ?_
  refine lv_if_eq (tgt := 76) hx hb dX12_field__57 (by decide) (fun _ => ?_) (fun c3_57 => absurd (by decide) c3_57)
  refine lv_lconst (v := 0) hx hb dX12_field__76 (by decide) ?_
  exact W.lret (v := 0) hx hb hr (fun t ht hW => ⟨⟨0, (), rfl, rfl, trivial⟩, hS.F ht⟩) hS.2.2 dX12_field__77

set_option maxHeartbeats 8000000 in
set_option maxRecDepth 100000 in
theorem k_X12_begin (l : Launch) (dC : Nat → ClassId) (dI : Nat → Nat → Nat) (sz : Nat) (h0 : Nat) (ad : Nat → Nat) : Met l yX12_begin wsX12_begin ({ frames := 0, cells := 0, slots := 0, locals := 0 }) (va_Pc [.ref h0] (fun U => U.heap.size = sz ∧ va_P (dC, dI) vwCl [(h0, .inr (14, m_obj ad))] U.heap ∧ va_K (dC, dI) vwCl [] U ∧ va_D (fun _ => True) [(h0, .inr (14, m_obj ad))])) (va_Qv (fun _ : Unit => True) (fun (_ : Unit) t => va_P (dC, dI) vwCl [(h0, .inr (14, (m_obj ad).set 0 (.int 1)))] t.heap ∧ va_K (dC, dI) vwCl [] t ∧ va_D (va_A [(h0, .inr (14, m_obj ad))] sz) [(h0, .inr (14, (m_obj ad).set 0 (.int 1)))]) (va_A [(h0, .inr (14, m_obj ad))] sz)) 0 0 (va_A [(h0, .inr (14, m_obj ad))] sz) := by
  refine Met.ofW (cc := cX12_begin) (maxL := 2) (ret := none) (by decide) rfl ?_
  intro p e s m args below meth c s₁ B hml hv
  obtain ⟨rfl, hsz, hP, hK, hD0⟩ := hv
  have hx := B.exec
  have hb := B.bytes
  have hr := B.returns
  have hts := atoms_spec (ws := wsX12_begin) B.pre
  have hown : s.vm.findClass RX12 = some m.cls := findClass_of_methodNamed B.named
  have hlocks := B.notSynchronized
  subst hsz
  have hD := hD0.self (sz := s.heap.size)
  generalize hAe : va_A [(h0, .inr (14, m_obj ad))] s.heap.size = A at hD ⊢
  have hA : ∀ q : Nat, s.heap.size ≤ q → A q := fun q h => by rw [← hAe]; exact Or.inr h
  have hS : va_S A s.heap s.heap [] := va_S.rf
  have hP : va_P (dC, dI) vwCl [(h0, .inr (14, m_obj ad))] s.heap := hP
  have hl := lv_entry ([.ref h0]) (n := 2) (Nat.le_of_ble_eq_true rfl)
  rw [lg_entry_eq]
  generalize (lg_sl ([.ref h0]) ++ List.replicate (2 - (lg_sl ([.ref h0])).length) Slot.unset).toArray = ls at hl ⊢
  have hl : lv_has ls 2 [(0, .ref h0)] := hl
  have hwX12 : ∀ w ∈ wsX120, w ∈ wsX12_begin := (fun w h => List.mem_cons_of_mem _ (List.mem_append_right _ h))
  refine lv_aload_n hx hb dX12_begin_0 rfl (lv_at hl 0 rfl) ?_
  refine lv_aload_n hx hb dX12_begin_1 rfl (lv_at hl 0 rfl) ?_
  refine va_get (D := (dC, dI)) (ci := 14) (v := .int 0) (C := RX12) (T := TX12) (N := 151) hx hb hts hwX12 hown hK hP 0 rfl rfl 72 (Nat.le_of_ble_eq_true rfl) (hts (.fieldLink RX12 770 "ScriptTypesModel" "hasScript" "Z") (List.mem_of_getElem? (i := 1) (by decide +kernel))) (fun _ h9 => h9) rfl dX12_begin_2 ?_
  refine lv_if_eq (tgt := 12) hx hb dX12_begin_5 (by decide) (fun _ => ?_) (fun c1_5 => absurd (by decide) c1_5)
  refine lv_iconst (v := 1) hx hb dX12_begin_12 (by decide) ?_
  refine va_put (D := (dC, dI)) (ci := 14) (v := .int 1) (ty := tyX12 0) (C := RX12) (T := TX12) (N := 151) hx hb hts hwX12 tyX12 tyX12_ok nmX12 hown hK hP hD hS 0 rfl rfl 0 (Nat.le_of_ble_eq_true rfl) (hts (.fieldLink RX12 289 "ScriptTypesModel" "thrown" "I") (List.mem_of_getElem? (i := 2) (by decide +kernel))) (fun _ h9 => h9) rfl (tyX12_ok 0 (Nat.le_of_ble_eq_true rfl)) rfl rfl (Nat.le_of_ble_eq_true rfl) dX12_begin_13 (fun H locs hP hD hS => ?_)
  have hP : va_P (dC, dI) vwCl [(h0, .inr (14, (m_obj ad).set 0 (.int 1)))] H := hP
  have hD : va_D A [(h0, .inr (14, (m_obj ad).set 0 (.int 1)))] := hD
  refine lv_aload_n hx hb dX12_begin_16 rfl (lv_at hl 0 rfl) ?_
  refine va_get (D := (dC, dI)) (ci := 14) (v := .int 1) (C := RX12) (T := TX12) (N := 151) hx hb hts hwX12 hown hK hP 0 rfl rfl 0 (Nat.le_of_ble_eq_true rfl) (hts (.fieldLink RX12 289 "ScriptTypesModel" "thrown" "I") (List.mem_of_getElem? (i := 2) (by decide +kernel))) (fun _ h9 => h9) rfl dX12_begin_17 ?_
  refine lv_if_le (tgt := 24) hx hb dX12_begin_20 (by decide) (fun c2_20 => absurd c2_20 (by decide)) (fun _ => ?_)
  exact W.vret hx hb hr (fun t ht hW => ⟨⟨(), rfl, trivial, by rw [ht]; exact hP, va_K.moved hW.alike hK, hD⟩, hS.F ht⟩) hS.2.2 dX12_begin_23

set_option maxHeartbeats 8000000 in
set_option maxRecDepth 100000 in
theorem k_X12_solve (l : Launch) (dC : Nat → ClassId) (dI : Nat → Nat → Nat) (sz : Nat) (h0 : Nat) (ad : Nat → Nat) : Met l yX12_solve wsX12_solve ({ frames := 0, cells := 0, slots := 0, locals := 0 }) (va_Pc [.ref h0] (fun U => U.heap.size = sz ∧ va_P (dC, dI) vwCl [(h0, .inr (14, m_obj ad))] U.heap ∧ va_K (dC, dI) vwCl [] U ∧ va_D (fun _ => True) [(h0, .inr (14, m_obj ad))])) (va_Qi (fun (_ : Int32) (_ : Unit) => True) (fun (_ : Unit) t => va_P (dC, dI) vwCl [(h0, .inr (14, (m_obj ad).set 0 (.int 1)))] t.heap ∧ va_K (dC, dI) vwCl [] t ∧ va_D (va_A [(h0, .inr (14, m_obj ad))] sz) [(h0, .inr (14, (m_obj ad).set 0 (.int 1)))]) (va_A [(h0, .inr (14, m_obj ad))] sz)) 0 0 (va_A [(h0, .inr (14, m_obj ad))] sz) := by
  refine Met.ofW (cc := cX12_solve) (maxL := 3) (ret := (some .int)) (by decide) rfl ?_
  intro p e s m args below meth c s₁ B hml hv
  obtain ⟨rfl, hsz, hP, hK, hD0⟩ := hv
  have hx := B.exec
  have hb := B.bytes
  have hr := B.returns
  have hts := atoms_spec (ws := wsX12_solve) B.pre
  have hown : s.vm.findClass RX12 = some m.cls := findClass_of_methodNamed B.named
  have hlocks := B.notSynchronized
  subst hsz
  have hD := hD0.self (sz := s.heap.size)
  generalize hAe : va_A [(h0, .inr (14, m_obj ad))] s.heap.size = A at hD ⊢
  have hA : ∀ q : Nat, s.heap.size ≤ q → A q := fun q h => by rw [← hAe]; exact Or.inr h
  have hS : va_S A s.heap s.heap [] := va_S.rf
  have hP : va_P (dC, dI) vwCl [(h0, .inr (14, m_obj ad))] s.heap := hP
  have hl := lv_entry ([.ref h0]) (n := 3) (Nat.le_of_ble_eq_true rfl)
  rw [lg_entry_eq]
  generalize (lg_sl ([.ref h0]) ++ List.replicate (3 - (lg_sl ([.ref h0])).length) Slot.unset).toArray = ls at hl ⊢
  have hl : lv_has ls 3 [(0, .ref h0)] := hl
  have hwX12 : ∀ w ∈ wsX120, w ∈ wsX12_solve := (fun w h => List.mem_cons_of_mem _ (List.mem_append_right _ h))
  refine lv_aload_n hx hb dX12_solve_0 rfl (lv_at hl 0 rfl) ?_
  refine lv_aload_n hx hb dX12_solve_1 rfl (lv_at hl 0 rfl) ?_
  refine va_get (D := (dC, dI)) (ci := 14) (v := .int 0) (C := RX12) (T := TX12) (N := 151) hx hb hts hwX12 hown hK hP 0 rfl rfl 72 (Nat.le_of_ble_eq_true rfl) (hts (.fieldLink RX12 770 "ScriptTypesModel" "hasScript" "Z") (List.mem_of_getElem? (i := 1) (by decide +kernel))) (fun _ h9 => h9) rfl dX12_solve_2 ?_
  refine lv_if_eq (tgt := 12) hx hb dX12_solve_5 (by decide) (fun _ => ?_) (fun c1_5 => absurd (by decide) c1_5)
  refine lv_iconst (v := 1) hx hb dX12_solve_12 (by decide) ?_
  refine va_put (D := (dC, dI)) (ci := 14) (v := .int 1) (ty := tyX12 0) (C := RX12) (T := TX12) (N := 151) hx hb hts hwX12 tyX12 tyX12_ok nmX12 hown hK hP hD hS 0 rfl rfl 0 (Nat.le_of_ble_eq_true rfl) (hts (.fieldLink RX12 289 "ScriptTypesModel" "thrown" "I") (List.mem_of_getElem? (i := 2) (by decide +kernel))) (fun _ h9 => h9) rfl (tyX12_ok 0 (Nat.le_of_ble_eq_true rfl)) rfl rfl (Nat.le_of_ble_eq_true rfl) dX12_solve_13 (fun H locs hP hD hS => ?_)
  have hP : va_P (dC, dI) vwCl [(h0, .inr (14, (m_obj ad).set 0 (.int 1)))] H := hP
  have hD : va_D A [(h0, .inr (14, (m_obj ad).set 0 (.int 1)))] := hD
  refine lv_aload_n hx hb dX12_solve_16 rfl (lv_at hl 0 rfl) ?_
  refine va_get (D := (dC, dI)) (ci := 14) (v := .int 1) (C := RX12) (T := TX12) (N := 151) hx hb hts hwX12 hown hK hP 0 rfl rfl 0 (Nat.le_of_ble_eq_true rfl) (hts (.fieldLink RX12 289 "ScriptTypesModel" "thrown" "I") (List.mem_of_getElem? (i := 2) (by decide +kernel))) (fun _ h9 => h9) rfl dX12_solve_17 ?_
  refine lv_if_le (tgt := 25) hx hb dX12_solve_20 (by decide) (fun c2_20 => absurd c2_20 (by decide)) (fun _ => ?_)
  refine lv_iconst (v := 0) hx hb dX12_solve_23 (by decide) ?_
  exact W.iret (v := 0) hx hb hr (fun t ht hW => ⟨⟨0, (), rfl, trivial, by rw [ht]; exact hP, va_K.moved hW.alike hK, hD⟩, hS.F ht⟩) hS.2.2 dX12_solve_24
