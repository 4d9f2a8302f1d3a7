def vb_k_X11_letter : List Cond := .code yX11_letter cX11_letter 3 (some .int) :: ([.fieldLink RX11 65 "ScriptTypes" "hasScript" "Z"] ++ [])
def vw_k_X11_letter : List Cond := vb_k_X11_letter ++ wsAll
set_option maxHeartbeats 8000000 in
set_option maxRecDepth 100000 in
theorem k_X11_letter (l : Launch) (dC : Nat → ClassId) (dI : Nat → Nat → Nat) (sz : Nat) (h0 : Nat) (ad : Nat → Nat) (p0 : Int32) (p1 : Int32) : Met l yX11_letter vw_k_X11_letter ({ frames := 0, cells := 0, slots := 0, locals := 0 }) (va_Pc [.ref h0, .int p0, .int p1] (fun U => U.heap.size = sz ∧ va_P (dC, dI) vwCl [(h0, .inr (13, [.ref (ad 0), .int 0, .int 0, .ref (ad 1), .ref (ad 2), .ref (ad 3), .ref (ad 4), .ref (ad 5), .ref (ad 6)]))] U.heap ∧ va_K (dC, dI) vwCl [] U ∧ va_D (fun _ => True) [(h0, .inr (13, [.ref (ad 0), .int 0, .int 0, .ref (ad 1), .ref (ad 2), .ref (ad 3), .ref (ad 4), .ref (ad 5), .ref (ad 6)]))])) (va_Qi (fun (r : Int32) (_ : Unit) => r = (-1)) (fun _ _ => True) (va_A [(h0, .inr (13, [.ref (ad 0), .int 0, .int 0, .ref (ad 1), .ref (ad 2), .ref (ad 3), .ref (ad 4), .ref (ad 5), .ref (ad 6)]))] sz)) 0 0 (va_A [(h0, .inr (13, [.ref (ad 0), .int 0, .int 0, .ref (ad 1), .ref (ad 2), .ref (ad 3), .ref (ad 4), .ref (ad 5), .ref (ad 6)]))] sz) := by
  refine Met.ofW (cc := cX11_letter) (maxL := 3) (ret := (some .int)) (by decide) rfl ?_
  intro p e s m args below meth c s₁ B hml hv
  obtain ⟨rfl, hsz, hP, hK, hD0⟩ := hv
  have hx := B.exec
  have hb := B.bytes
  have hr := B.returns
  have hts := atoms_spec (ws := vw_k_X11_letter) B.pre
  have hown : s.vm.findClass RX11 = some m.cls := findClass_of_methodNamed B.named
  have hlocks := B.notSynchronized
  subst hsz
  have hD := hD0.self (sz := s.heap.size)
  generalize hAe : va_A [(h0, .inr (13, [.ref (ad 0), .int 0, .int 0, .ref (ad 1), .ref (ad 2), .ref (ad 3), .ref (ad 4), .ref (ad 5), .ref (ad 6)]))] s.heap.size = A at hD ⊢
  have hA : ∀ q : Nat, s.heap.size ≤ q → A q := fun q h => by rw [← hAe]; exact Or.inr h
  have hS : va_S A s.heap s.heap [] := va_S.rf
  have hP : va_P (dC, dI) vwCl [(h0, .inr (13, [.ref (ad 0), .int 0, .int 0, .ref (ad 1), .ref (ad 2), .ref (ad 3), .ref (ad 4), .ref (ad 5), .ref (ad 6)]))] s.heap := hP
  have hl := lv_entry ([.ref h0, .int p0, .int p1]) (n := 3) (Nat.le_of_ble_eq_true rfl)
  rw [lg_entry_eq]
  generalize (lg_sl ([.ref h0, .int p0, .int p1]) ++ List.replicate (3 - (lg_sl ([.ref h0, .int p0, .int p1])).length) Slot.unset).toArray = ls at hl ⊢
  have hl : lv_has ls 3 [(0, .ref h0), (1, .int p0), (2, .int p1)] := hl
  have hwX11 : ∀ w ∈ wsX110, w ∈ vw_k_X11_letter := (fun w h => List.mem_append_right _ (List.mem_append_right _ (List.mem_append_right _ (List.mem_append_right _ (List.mem_append_right _ (List.mem_append_right _ (List.mem_append_right _ (List.mem_append_right _ (List.mem_append_right _ (List.mem_append_right _ (List.mem_append_right _ (List.mem_append_right _ h))))))))))))
  refine lv_aload_n hx hb dX11_letter_0 rfl (lv_at hl 0 rfl) ?_
  refine va_get (D := (dC, dI)) (ci := 13) (v := .int 0) (C := RX11) (T := TX11) (N := 9) hx hb hts hwX11 hown hK hP 0 rfl rfl 2 (Nat.le_of_ble_eq_true rfl) (hts (.fieldLink RX11 65 "ScriptTypes" "hasScript" "Z") (List.mem_of_getElem? (i := 1) (by decide +kernel))) (fun _ h9 => h9) rfl dX11_letter_1 ?_
  refine lv_if_eq (tgt := 19) hx hb dX11_letter_4 (by decide) (fun _ => ?_) (fun c1_4 => absurd (by decide) c1_4)
  refine lv_iconst (v := (-1)) hx hb dX11_letter_19 (by decide) ?_
  exact W.iret (v := (-1)) hx hb hr (fun t ht hW => ⟨⟨(-1), (), rfl, rfl, trivial⟩, hS.F ht⟩) hS.2.2 dX11_letter_20

def vb_k_X11_instruction : List Cond := .code yX11_instruction cX11_instruction 3 (some .int) :: ([.fieldLink RX11 65 "ScriptTypes" "hasScript" "Z"] ++ [])
def vw_k_X11_instruction : List Cond := vb_k_X11_instruction ++ wsAll
set_option maxHeartbeats 8000000 in
set_option maxRecDepth 100000 in
theorem k_X11_instruction (l : Launch) (dC : Nat → ClassId) (dI : Nat → Nat → Nat) (sz : Nat) (h0 : Nat) (ad : Nat → Nat) (p0 : Int32) (p1 : Int32) : Met l yX11_instruction vw_k_X11_instruction ({ frames := 0, cells := 0, slots := 0, locals := 0 }) (va_Pc [.ref h0, .int p0, .int p1] (fun U => U.heap.size = sz ∧ va_P (dC, dI) vwCl [(h0, .inr (13, [.ref (ad 0), .int 0, .int 0, .ref (ad 1), .ref (ad 2), .ref (ad 3), .ref (ad 4), .ref (ad 5), .ref (ad 6)]))] U.heap ∧ va_K (dC, dI) vwCl [] U ∧ va_D (fun _ => True) [(h0, .inr (13, [.ref (ad 0), .int 0, .int 0, .ref (ad 1), .ref (ad 2), .ref (ad 3), .ref (ad 4), .ref (ad 5), .ref (ad 6)]))])) (va_Qi (fun (r : Int32) (_ : Unit) => r = (-1)) (fun _ _ => True) (va_A [(h0, .inr (13, [.ref (ad 0), .int 0, .int 0, .ref (ad 1), .ref (ad 2), .ref (ad 3), .ref (ad 4), .ref (ad 5), .ref (ad 6)]))] sz)) 0 0 (va_A [(h0, .inr (13, [.ref (ad 0), .int 0, .int 0, .ref (ad 1), .ref (ad 2), .ref (ad 3), .ref (ad 4), .ref (ad 5), .ref (ad 6)]))] sz) := by
  refine Met.ofW (cc := cX11_instruction) (maxL := 3) (ret := (some .int)) (by decide) rfl ?_
  intro p e s m args below meth c s₁ B hml hv
  obtain ⟨rfl, hsz, hP, hK, hD0⟩ := hv
  have hx := B.exec
  have hb := B.bytes
  have hr := B.returns
  have hts := atoms_spec (ws := vw_k_X11_instruction) B.pre
  have hown : s.vm.findClass RX11 = some m.cls := findClass_of_methodNamed B.named
  have hlocks := B.notSynchronized
  subst hsz
  have hD := hD0.self (sz := s.heap.size)
  generalize hAe : va_A [(h0, .inr (13, [.ref (ad 0), .int 0, .int 0, .ref (ad 1), .ref (ad 2), .ref (ad 3), .ref (ad 4), .ref (ad 5), .ref (ad 6)]))] s.heap.size = A at hD ⊢
  have hA : ∀ q : Nat, s.heap.size ≤ q → A q := fun q h => by rw [← hAe]; exact Or.inr h
  have hS : va_S A s.heap s.heap [] := va_S.rf
  have hP : va_P (dC, dI) vwCl [(h0, .inr (13, [.ref (ad 0), .int 0, .int 0, .ref (ad 1), .ref (ad 2), .ref (ad 3), .ref (ad 4), .ref (ad 5), .ref (ad 6)]))] s.heap := hP
  have hl := lv_entry ([.ref h0, .int p0, .int p1]) (n := 3) (Nat.le_of_ble_eq_true rfl)
  rw [lg_entry_eq]
  generalize (lg_sl ([.ref h0, .int p0, .int p1]) ++ List.replicate (3 - (lg_sl ([.ref h0, .int p0, .int p1])).length) Slot.unset).toArray = ls at hl ⊢
  have hl : lv_has ls 3 [(0, .ref h0), (1, .int p0), (2, .int p1)] := hl
  have hwX11 : ∀ w ∈ wsX110, w ∈ vw_k_X11_instruction := (fun w h => List.mem_append_right _ (List.mem_append_right _ (List.mem_append_right _ (List.mem_append_right _ (List.mem_append_right _ (List.mem_append_right _ (List.mem_append_right _ (List.mem_append_right _ (List.mem_append_right _ (List.mem_append_right _ (List.mem_append_right _ (List.mem_append_right _ h))))))))))))
  refine lv_aload_n hx hb dX11_instruction_0 rfl (lv_at hl 0 rfl) ?_
  refine va_get (D := (dC, dI)) (ci := 13) (v := .int 0) (C := RX11) (T := TX11) (N := 9) hx hb hts hwX11 hown hK hP 0 rfl rfl 2 (Nat.le_of_ble_eq_true rfl) (hts (.fieldLink RX11 65 "ScriptTypes" "hasScript" "Z") (List.mem_of_getElem? (i := 1) (by decide +kernel))) (fun _ h9 => h9) rfl dX11_instruction_1 ?_
  refine lv_if_eq (tgt := 22) hx hb dX11_instruction_4 (by decide) (fun _ => ?_) (fun c1_4 => absurd (by decide) c1_4)
  refine lv_iconst (v := (-1)) hx hb dX11_instruction_22 (by decide) ?_
  exact W.iret (v := (-1)) hx hb hr (fun t ht hW => ⟨⟨(-1), (), rfl, rfl, trivial⟩, hS.F ht⟩) hS.2.2 dX11_instruction_23

def vb_a_X4_frameAt_1 : List Cond := .code yX4_frameAt cX4_frameAt 2 (some .int) :: ([.fieldLink RX4 40 "ScriptTypes$Machine" "state" "I"] ++ [])
def vw_a_X4_frameAt_1 : List Cond := vb_a_X4_frameAt_1 ++ wsAll
set_option maxHeartbeats 8000000 in
set_option maxRecDepth 100000 in
theorem a_X4_frameAt_1 (l : Launch) (dC : Nat → ClassId) (dI : Nat → Nat → Nat) (sz : Nat) (ad : Nat → Nat) (p0 : Int32) : Met l yX4_frameAt vw_a_X4_frameAt_1 ({ frames := 0, cells := 0, slots := 0, locals := 0 }) (va_Pc [.ref (ad 5), .int p0] (fun U => U.heap.size = sz ∧ va_P (dC, dI) vwCl [((ad 5), .inr (6, [.ref (ad 2), .ref (ad 1), .ref (ad 40), .int 0, .int 0, .ref (ad 41), .int 0, .int 0, .ref (ad 42), .int 0, .ref (ad 43), .int 0, .ref (ad 44), .int 0, .int 0, .int 0]))] U.heap ∧ va_K (dC, dI) vwCl [] U ∧ va_D (fun _ => True) [((ad 5), .inr (6, [.ref (ad 2), .ref (ad 1), .ref (ad 40), .int 0, .int 0, .ref (ad 41), .int 0, .int 0, .ref (ad 42), .int 0, .ref (ad 43), .int 0, .ref (ad 44), .int 0, .int 0, .int 0]))])) (va_Qi (fun (r : Int32) (u : (Nat → Nat) × (Nat → ClassId) × (Nat → Nat → Int32)) => r = (-1)) (fun (u : (Nat → Nat) × (Nat → ClassId) × (Nat → Nat → Int32)) t => va_P (dC, dI) vwCl [((ad 5), .inr (6, [.ref (ad 2), .ref (ad 1), .ref (ad 40), .int 0, .int 0, .ref (ad 41), .int 0, .int 0, .ref (ad 42), .int 0, .ref (ad 43), .int 0, .ref (ad 44), .int 0, .int 0, .int 0]))] t.heap ∧ va_K (dC, dI) vwCl [] t ∧ va_D (va_A [((ad 5), .inr (6, [.ref (ad 2), .ref (ad 1), .ref (ad 40), .int 0, .int 0, .ref (ad 41), .int 0, .int 0, .ref (ad 42), .int 0, .ref (ad 43), .int 0, .ref (ad 44), .int 0, .int 0, .int 0]))] sz) [((ad 5), .inr (6, [.ref (ad 2), .ref (ad 1), .ref (ad 40), .int 0, .int 0, .ref (ad 41), .int 0, .int 0, .ref (ad 42), .int 0, .ref (ad 43), .int 0, .ref (ad 44), .int 0, .int 0, .int 0]))]) (va_A [((ad 5), .inr (6, [.ref (ad 2), .ref (ad 1), .ref (ad 40), .int 0, .int 0, .ref (ad 41), .int 0, .int 0, .ref (ad 42), .int 0, .ref (ad 43), .int 0, .ref (ad 44), .int 0, .int 0, .int 0]))] sz)) 0 0 (va_A [((ad 5), .inr (6, [.ref (ad 2), .ref (ad 1), .ref (ad 40), .int 0, .int 0, .ref (ad 41), .int 0, .int 0, .ref (ad 42), .int 0, .ref (ad 43), .int 0, .ref (ad 44), .int 0, .int 0, .int 0]))] sz) := by
  refine Met.ofW (cc := cX4_frameAt) (maxL := 2) (ret := (some .int)) (by decide) rfl ?_
  intro p e s m args below meth c s₁ B hml hv
  obtain ⟨rfl, hsz, hP, hK, hD0⟩ := hv
  have hx := B.exec
  have hb := B.bytes
  have hr := B.returns
  have hts := atoms_spec (ws := vw_a_X4_frameAt_1) B.pre
  have hown : s.vm.findClass RX4 = some m.cls := findClass_of_methodNamed B.named
  have hlocks := B.notSynchronized
  subst hsz
  have hD := hD0.self (sz := s.heap.size)
  generalize hAe : va_A [((ad 5), .inr (6, [.ref (ad 2), .ref (ad 1), .ref (ad 40), .int 0, .int 0, .ref (ad 41), .int 0, .int 0, .ref (ad 42), .int 0, .ref (ad 43), .int 0, .ref (ad 44), .int 0, .int 0, .int 0]))] s.heap.size = A at hD ⊢
  have hA : ∀ q : Nat, s.heap.size ≤ q → A q := fun q h => by rw [← hAe]; exact Or.inr h
  have hS : va_S A s.heap s.heap [] := va_S.rf
  have hP : va_P (dC, dI) vwCl [((ad 5), .inr (6, [.ref (ad 2), .ref (ad 1), .ref (ad 40), .int 0, .int 0, .ref (ad 41), .int 0, .int 0, .ref (ad 42), .int 0, .ref (ad 43), .int 0, .ref (ad 44), .int 0, .int 0, .int 0]))] s.heap := hP
  have hl := lv_entry ([.ref (ad 5), .int p0]) (n := 2) (Nat.le_of_ble_eq_true rfl)
  rw [lg_entry_eq]
  generalize (lg_sl ([.ref (ad 5), .int p0]) ++ List.replicate (2 - (lg_sl ([.ref (ad 5), .int p0])).length) Slot.unset).toArray = ls at hl ⊢
  have hl : lv_has ls 2 [(0, .ref (ad 5)), (1, .int p0)] := hl
  have hwX4 : ∀ w ∈ wsX40, w ∈ vw_a_X4_frameAt_1 := (fun w h => List.mem_append_right _ (List.mem_append_right _ (List.mem_append_right _ (List.mem_append_right _ (List.mem_append_right _ (List.mem_append_left _ h))))))
  refine lv_aload_n hx hb dX4_frameAt_0 rfl (lv_at hl 0 rfl) ?_
  refine va_get (D := (dC, dI)) (ci := 6) (v := .int 0) (C := RX4) (T := TX4) (N := 16) hx hb hts hwX4 hown hK hP 0 rfl rfl 3 (Nat.le_of_ble_eq_true rfl) (hts (.fieldLink RX4 40 "ScriptTypes$Machine" "state" "I") (List.mem_of_getElem? (i := 1) (by decide +kernel))) (fun _ h9 => h9) rfl dX4_frameAt_1 ?_
  refine lv_if_eq (tgt := 33) hx hb dX4_frameAt_4 (by decide) (fun _ => ?_) (fun c1_4 => absurd (by decide) c1_4)
  refine lv_iconst (v := (-1)) hx hb dX4_frameAt_33 (by decide) ?_
  refine W.widen (k := 0) (n := 0) (Nat.le_of_ble_eq_true rfl) (Nat.le_of_ble_eq_true rfl) ?_
  exact W.iret (v := (-1)) hx hb hr (fun t ht hW => ⟨⟨(-1), (fun n => ([] : List Nat).getD n 0, fun n => ([] : List ClassId).getD n 0, fun n => ([] : List (Nat → Int32)).getD n (fun _ => 0)), rfl, rfl, by rw [ht]; exact hP, va_K.moved hW.alike hK, hD⟩, hS.F ht⟩) hS.2.2 dX4_frameAt_34

def vb_a_X4_frameFact_1 : List Cond := .code yX4_frameFact cX4_frameFact 4 (some .int) :: ([.methodLink RX4 79 yX4_frameAt, .instanceMethod yX4_frameAt, .selects RX4 yX4_frameAt yX4_frameAt, .initialized RX4] ++ (vb_a_X4_frameAt_1 ++ []))
def vw_a_X4_frameFact_1 : List Cond := vb_a_X4_frameFact_1 ++ wsAll
set_option maxRecDepth 20000 in
theorem vg_a_X4_frameFact_1_a_X4_frameAt_1 : GoodIn vw_a_X4_frameFact_1 (wsV RX4 79 RX4 yX4_frameAt vw_a_X4_frameAt_1) := goodIn_app (goodIn_of _ (by decide +kernel)) (goodIn_sub (v_sub (fun w h => List.mem_cons_of_mem _ (List.mem_append_right _ (List.mem_append_left _ (h))))) (by decide +kernel))
set_option maxHeartbeats 8000000 in
set_option maxRecDepth 100000 in
theorem a_X4_frameFact_1 (l : Launch) (dC : Nat → ClassId) (dI : Nat → Nat → Nat) (sz : Nat) (ad : Nat → Nat) (p0 : Int32) (p1 : Int32) : Met l yX4_frameFact vw_a_X4_frameFact_1 ({ frames := 1, cells := 0, slots := 0, locals := 21 }) (va_Pc [.ref (ad 5), .int p0, .int p1] (fun U => U.heap.size = sz ∧ va_P (dC, dI) vwCl [((ad 5), .inr (6, [.ref (ad 2), .ref (ad 1), .ref (ad 40), .int 0, .int 0, .ref (ad 41), .int 0, .int 0, .ref (ad 42), .int 0, .ref (ad 43), .int 0, .ref (ad 44), .int 0, .int 0, .int 0]))] U.heap ∧ va_K (dC, dI) vwCl [] U ∧ va_D (fun _ => True) [((ad 5), .inr (6, [.ref (ad 2), .ref (ad 1), .ref (ad 40), .int 0, .int 0, .ref (ad 41), .int 0, .int 0, .ref (ad 42), .int 0, .ref (ad 43), .int 0, .ref (ad 44), .int 0, .int 0, .int 0]))])) (va_Qi (fun (r : Int32) (u : (Nat → Nat) × (Nat → ClassId) × (Nat → Nat → Int32)) => r = (-1)) (fun (u : (Nat → Nat) × (Nat → ClassId) × (Nat → Nat → Int32)) t => va_P (dC, dI) vwCl [((ad 5), .inr (6, [.ref (ad 2), .ref (ad 1), .ref (ad 40), .int 0, .int 0, .ref (ad 41), .int 0, .int 0, .ref (ad 42), .int 0, .ref (ad 43), .int 0, .ref (ad 44), .int 0, .int 0, .int 0]))] t.heap ∧ va_K (dC, dI) vwCl [] t ∧ va_D (va_A [((ad 5), .inr (6, [.ref (ad 2), .ref (ad 1), .ref (ad 40), .int 0, .int 0, .ref (ad 41), .int 0, .int 0, .ref (ad 42), .int 0, .ref (ad 43), .int 0, .ref (ad 44), .int 0, .int 0, .int 0]))] sz) [((ad 5), .inr (6, [.ref (ad 2), .ref (ad 1), .ref (ad 40), .int 0, .int 0, .ref (ad 41), .int 0, .int 0, .ref (ad 42), .int 0, .ref (ad 43), .int 0, .ref (ad 44), .int 0, .int 0, .int 0]))]) (va_A [((ad 5), .inr (6, [.ref (ad 2), .ref (ad 1), .ref (ad 40), .int 0, .int 0, .ref (ad 41), .int 0, .int 0, .ref (ad 42), .int 0, .ref (ad 43), .int 0, .ref (ad 44), .int 0, .int 0, .int 0]))] sz)) 0 0 (va_A [((ad 5), .inr (6, [.ref (ad 2), .ref (ad 1), .ref (ad 40), .int 0, .int 0, .ref (ad 41), .int 0, .int 0, .ref (ad 42), .int 0, .ref (ad 43), .int 0, .ref (ad 44), .int 0, .int 0, .int 0]))] sz) := by
  refine Met.ofW (cc := cX4_frameFact) (maxL := 4) (ret := (some .int)) (by decide) rfl ?_
  intro p e s m args below meth c s₁ B hml hv
  obtain ⟨rfl, hsz, hP, hK, hD0⟩ := hv
  have hx := B.exec
  have hb := B.bytes
  have hr := B.returns
  have hts := atoms_spec (ws := vw_a_X4_frameFact_1) B.pre
  have hown : s.vm.findClass RX4 = some m.cls := findClass_of_methodNamed B.named
  have hlocks := B.notSynchronized
  subst hsz
  have hD := hD0.self (sz := s.heap.size)
  generalize hAe : va_A [((ad 5), .inr (6, [.ref (ad 2), .ref (ad 1), .ref (ad 40), .int 0, .int 0, .ref (ad 41), .int 0, .int 0, .ref (ad 42), .int 0, .ref (ad 43), .int 0, .ref (ad 44), .int 0, .int 0, .int 0]))] s.heap.size = A at hD ⊢
  have hA : ∀ q : Nat, s.heap.size ≤ q → A q := fun q h => by rw [← hAe]; exact Or.inr h
  have hS : va_S A s.heap s.heap [] := va_S.rf
  have hP : va_P (dC, dI) vwCl [((ad 5), .inr (6, [.ref (ad 2), .ref (ad 1), .ref (ad 40), .int 0, .int 0, .ref (ad 41), .int 0, .int 0, .ref (ad 42), .int 0, .ref (ad 43), .int 0, .ref (ad 44), .int 0, .int 0, .int 0]))] s.heap := hP
  have hl := lv_entry ([.ref (ad 5), .int p0, .int p1]) (n := 4) (Nat.le_of_ble_eq_true rfl)
  rw [lg_entry_eq]
  generalize (lg_sl ([.ref (ad 5), .int p0, .int p1]) ++ List.replicate (4 - (lg_sl ([.ref (ad 5), .int p0, .int p1])).length) Slot.unset).toArray = ls at hl ⊢
  have hl : lv_has ls 4 [(0, .ref (ad 5)), (1, .int p0), (2, .int p1)] := hl
  refine lv_aload_n hx hb dX4_frameFact_0 rfl (lv_at hl 0 rfl) ?_
  refine lv_iload_n hx hb dX4_frameFact_1 rfl (lv_at hl 1 rfl) ?_
  have hPc := hP.sub (ws' := [((ad 5), .inr (6, [.ref (ad 2), .ref (ad 1), .ref (ad 40), .int 0, .int 0, .ref (ad 41), .int 0, .int 0, .ref (ad 42), .int 0, .ref (ad 43), .int 0, .ref (ad 44), .int 0, .int 0, .int 0]))]) [0] rfl
  have hDc := hD.sub (ws' := [((ad 5), .inr (6, [.ref (ad 2), .ref (ad 1), .ref (ad 40), .int 0, .int 0, .ref (ad 41), .int 0, .int 0, .ref (ad 42), .int 0, .ref (ad 43), .int 0, .ref (ad 44), .int 0, .int 0, .int 0]))]) [0] (by decide) rfl
  have hKc := hK.sub (tys' := []) [] rfl
  have hFc := va_free (wc := [((ad 5), .inr (6, [.ref (ad 2), .ref (ad 1), .ref (ad 40), .int 0, .int 0, .ref (ad 41), .int 0, .int 0, .ref (ad 42), .int 0, .ref (ad 43), .int 0, .ref (ad 44), .int 0, .int 0, .int 0]))]) hD hS hA [0] rfl
  refine va_calli (va_runV (As := [.int p0]) (rest := []) ⟨hx, hb, hml, hown, hts⟩ (a_X4_frameAt_1 l dC dI s.heap.size ad p0) (cwV 1 hts vg_a_X4_frameFact_1_a_X4_frameAt_1 rfl rfl rfl (by decide +kernel) ⟨Nat.le_of_ble_eq_true rfl, Nat.le_of_ble_eq_true rfl⟩) ⟨fun a U g mk q => by obtain ⟨q0, q1, qP, qK, qD⟩ := q; exact ⟨q0, q1, qP, va_K.moved (u := U) (U := U.calling g mk a) (Vm.Alike.refl U.vm) qK, qD⟩, va_recv hKc hPc (ci := 6) (q0 := 0) rfl rfl, fun U hU hW => ⟨rfl, by rw [hU], by rw [hU]; exact hPc, va_K.moved hW.alike hKc, hDc.weaken (fun _ _ _ _ => trivial)⟩⟩ rfl rfl hl.1 rfl (lv_room (Nat.le_of_ble_eq_true rfl)) dX4_frameFact_2 ⟨Nat.le_of_ble_eq_true rfl, Nat.le_of_ble_eq_true rfl⟩) hS (fun q _ h => hFc q h) hFc (fun r_1 u t H1 locs ht hvm hw hB hz1 hk1 hS => ?_)
  obtain ⟨_, _, _⟩ := u
  obtain ⟨hP1, hK1, hD1⟩ := hB
  rw [ht] at hP1
  have hK1 := va_K.moved hvm.symm hK1
  try dsimp only at hw
  obtain ⟨hP, hD⟩ := va_join (wr := []) (w1 := [((ad 5), .inr (6, [.ref (ad 2), .ref (ad 1), .ref (ad 40), .int 0, .int 0, .ref (ad 41), .int 0, .int 0, .ref (ad 42), .int 0, .ref (ad 43), .int 0, .ref (ad 44), .int 0, .int 0, .int 0]))]) hP hD [0] [] rfl rfl (by decide) (by decide) hk1 hFc hP1 hD1
  generalize H1 = H at hP hS ⊢
  have hP : va_P (dC, dI) vwCl [((ad 5), .inr (6, [.ref (ad 2), .ref (ad 1), .ref (ad 40), .int 0, .int 0, .ref (ad 41), .int 0, .int 0, .ref (ad 42), .int 0, .ref (ad 43), .int 0, .ref (ad 44), .int 0, .int 0, .int 0]))] H := hP
  have hD : va_D A [((ad 5), .inr (6, [.ref (ad 2), .ref (ad 1), .ref (ad 40), .int 0, .int 0, .ref (ad 41), .int 0, .int 0, .ref (ad 42), .int 0, .ref (ad 43), .int 0, .ref (ad 44), .int 0, .int 0, .int 0]))] := hD
  obtain rfl : r_1 = (-1) := hw
  refine lv_istore_n (lv' := [(3, .int (-1)), (0, .ref (ad 5)), (1, .int p0), (2, .int p1)]) hx hb dX4_frameFact_5 rfl hl (by decide) rfl (fun ls hl => ?_)
  refine lv_iload_n hx hb dX4_frameFact_6 rfl (lv_at hl 0 rfl) ?_
  refine lv_if_ge (tgt := 12) hx hb dX4_frameFact_7 (by decide) (fun c2_7 => absurd c2_7 (by decide)) (fun _ => ?_)
  refine lv_iconst (v := (-1)) hx hb dX4_frameFact_10 (by decide) ?_
  refine W.widen (k := 0) (n := 0) (Nat.le_of_ble_eq_true rfl) (Nat.le_of_ble_eq_true rfl) ?_
  exact W.iret (v := (-1)) hx hb hr (fun t ht hW => ⟨⟨(-1), (fun n => ([] : List Nat).getD n 0, fun n => ([] : List ClassId).getD n 0, fun n => ([] : List (Nat → Int32)).getD n (fun _ => 0)), rfl, rfl, by rw [ht]; exact hP, va_K.moved hW.alike hK, hD⟩, hS.F ht⟩) hS.2.2 dX4_frameFact_11

def vb_k_X11_frame : List Cond := .code yX11_frame cX11_frame 3 (some .int) :: ([.fieldLink RX11 50 "ScriptTypes" "machine" "LScriptTypes$Machine;", .methodLink RX11 140 yX4_frameFact, .instanceMethod yX4_frameFact, .selects RX4 yX4_frameFact yX4_frameFact, .initialized RX4] ++ (vb_a_X4_frameFact_1 ++ []))
def vw_k_X11_frame : List Cond := vb_k_X11_frame ++ wsAll
set_option maxRecDepth 20000 in
theorem vg_k_X11_frame_a_X4_frameFact_1 : GoodIn vw_k_X11_frame (wsV RX11 140 RX4 yX4_frameFact vw_a_X4_frameFact_1) := goodIn_app (goodIn_of _ (by decide +kernel)) (goodIn_sub (v_sub (fun w h => List.mem_cons_of_mem _ (List.mem_append_right _ (List.mem_append_left _ (h))))) (by decide +kernel))
set_option maxHeartbeats 8000000 in
set_option maxRecDepth 100000 in
theorem k_X11_frame (l : Launch) (dC : Nat → ClassId) (dI : Nat → Nat → Nat) (sz : Nat) (h0 : Nat) (ad : Nat → Nat) (p0 : Int32) (p1 : Int32) : Met l yX11_frame vw_k_X11_frame ({ frames := 2, cells := 0, slots := 0, locals := 44 }) (va_Pc [.ref h0, .int p0, .int p1] (fun U => U.heap.size = sz ∧ va_P (dC, dI) vwCl [(h0, .inr (13, [.ref (ad 0), .int 0, .int 0, .ref (ad 1), .ref (ad 2), .ref (ad 3), .ref (ad 4), .ref (ad 5), .ref (ad 6)])), ((ad 5), .inr (6, [.ref (ad 2), .ref (ad 1), .ref (ad 40), .int 0, .int 0, .ref (ad 41), .int 0, .int 0, .ref (ad 42), .int 0, .ref (ad 43), .int 0, .ref (ad 44), .int 0, .int 0, .int 0]))] U.heap ∧ va_K (dC, dI) vwCl [] U ∧ va_D (fun _ => True) [(h0, .inr (13, [.ref (ad 0), .int 0, .int 0, .ref (ad 1), .ref (ad 2), .ref (ad 3), .ref (ad 4), .ref (ad 5), .ref (ad 6)])), ((ad 5), .inr (6, [.ref (ad 2), .ref (ad 1), .ref (ad 40), .int 0, .int 0, .ref (ad 41), .int 0, .int 0, .ref (ad 42), .int 0, .ref (ad 43), .int 0, .ref (ad 44), .int 0, .int 0, .int 0]))])) (va_Qi (fun (r : Int32) (_ : Unit) => r = (-1)) (fun _ _ => True) (va_A [(h0, .inr (13, [.ref (ad 0), .int 0, .int 0, .ref (ad 1), .ref (ad 2), .ref (ad 3), .ref (ad 4), .ref (ad 5), .ref (ad 6)])), ((ad 5), .inr (6, [.ref (ad 2), .ref (ad 1), .ref (ad 40), .int 0, .int 0, .ref (ad 41), .int 0, .int 0, .ref (ad 42), .int 0, .ref (ad 43), .int 0, .ref (ad 44), .int 0, .int 0, .int 0]))] sz)) 0 0 (va_A [(h0, .inr (13, [.ref (ad 0), .int 0, .int 0, .ref (ad 1), .ref (ad 2), .ref (ad 3), .ref (ad 4), .ref (ad 5), .ref (ad 6)])), ((ad 5), .inr (6, [.ref (ad 2), .ref (ad 1), .ref (ad 40), .int 0, .int 0, .ref (ad 41), .int 0, .int 0, .ref (ad 42), .int 0, .ref (ad 43), .int 0, .ref (ad 44), .int 0, .int 0, .int 0]))] sz) := by
  refine Met.ofW (cc := cX11_frame) (maxL := 3) (ret := (some .int)) (by decide) rfl ?_
  intro p e s m args below meth c s₁ B hml hv
  obtain ⟨rfl, hsz, hP, hK, hD0⟩ := hv
  have hx := B.exec
  have hb := B.bytes
  have hr := B.returns
  have hts := atoms_spec (ws := vw_k_X11_frame) B.pre
  have hown : s.vm.findClass RX11 = some m.cls := findClass_of_methodNamed B.named
  have hlocks := B.notSynchronized
  subst hsz
  have hD := hD0.self (sz := s.heap.size)
  generalize hAe : va_A [(h0, .inr (13, [.ref (ad 0), .int 0, .int 0, .ref (ad 1), .ref (ad 2), .ref (ad 3), .ref (ad 4), .ref (ad 5), .ref (ad 6)])), ((ad 5), .inr (6, [.ref (ad 2), .ref (ad 1), .ref (ad 40), .int 0, .int 0, .ref (ad 41), .int 0, .int 0, .ref (ad 42), .int 0, .ref (ad 43), .int 0, .ref (ad 44), .int 0, .int 0, .int 0]))] s.heap.size = A at hD ⊢
  have hA : ∀ q : Nat, s.heap.size ≤ q → A q := fun q h => by rw [← hAe]; exact Or.inr h
  have hS : va_S A s.heap s.heap [] := va_S.rf
  have hP : va_P (dC, dI) vwCl [(h0, .inr (13, [.ref (ad 0), .int 0, .int 0, .ref (ad 1), .ref (ad 2), .ref (ad 3), .ref (ad 4), .ref (ad 5), .ref (ad 6)])), ((ad 5), .inr (6, [.ref (ad 2), .ref (ad 1), .ref (ad 40), .int 0, .int 0, .ref (ad 41), .int 0, .int 0, .ref (ad 42), .int 0, .ref (ad 43), .int 0, .ref (ad 44), .int 0, .int 0, .int 0]))] s.heap := hP
  have hl := lv_entry ([.ref h0, .int p0, .int p1]) (n := 3) (Nat.le_of_ble_eq_true rfl)
  rw [lg_entry_eq]
  generalize (lg_sl ([.ref h0, .int p0, .int p1]) ++ List.replicate (3 - (lg_sl ([.ref h0, .int p0, .int p1])).length) Slot.unset).toArray = ls at hl ⊢
  have hl : lv_has ls 3 [(0, .ref h0), (1, .int p0), (2, .int p1)] := hl
  have hwX11 : ∀ w ∈ wsX110, w ∈ vw_k_X11_frame := (fun w h => List.mem_append_right _ (List.mem_append_right _ (List.mem_append_right _ (List.mem_append_right _ (List.mem_append_right _ (List.mem_append_right _ (List.mem_append_right _ (List.mem_append_right _ (List.mem_append_right _ (List.mem_append_right _ (List.mem_append_right _ (List.mem_append_right _ h))))))))))))
  refine lv_aload_n hx hb dX11_frame_0 rfl (lv_at hl 0 rfl) ?_
  refine va_get (D := (dC, dI)) (ci := 13) (v := .ref (ad 5)) (C := RX11) (T := TX11) (N := 9) hx hb hts hwX11 hown hK hP 0 rfl rfl 7 (Nat.le_of_ble_eq_true rfl) (hts (.fieldLink RX11 50 "ScriptTypes" "machine" "LScriptTypes$Machine;") (List.mem_of_getElem? (i := 1) (by decide +kernel))) (fun _ h9 => h9) rfl dX11_frame_1 ?_
  refine lv_iload_n hx hb dX11_frame_4 rfl (lv_at hl 1 rfl) ?_
  refine lv_iload_n hx hb dX11_frame_5 rfl (lv_at hl 2 rfl) ?_
  have hPc := hP.sub (ws' := [((ad 5), .inr (6, [.ref (ad 2), .ref (ad 1), .ref (ad 40), .int 0, .int 0, .ref (ad 41), .int 0, .int 0, .ref (ad 42), .int 0, .ref (ad 43), .int 0, .ref (ad 44), .int 0, .int 0, .int 0]))]) [1] rfl
  have hDc := hD.sub (ws' := [((ad 5), .inr (6, [.ref (ad 2), .ref (ad 1), .ref (ad 40), .int 0, .int 0, .ref (ad 41), .int 0, .int 0, .ref (ad 42), .int 0, .ref (ad 43), .int 0, .ref (ad 44), .int 0, .int 0, .int 0]))]) [1] (by decide) rfl
  have hKc := hK.sub (tys' := []) [] rfl
  have hFc := va_free (wc := [((ad 5), .inr (6, [.ref (ad 2), .ref (ad 1), .ref (ad 40), .int 0, .int 0, .ref (ad 41), .int 0, .int 0, .ref (ad 42), .int 0, .ref (ad 43), .int 0, .ref (ad 44), .int 0, .int 0, .int 0]))]) hD hS hA [1] rfl
  refine va_calli (va_runV (As := [.int p0, .int p1]) (rest := []) ⟨hx, hb, hml, hown, hts⟩ (a_X4_frameFact_1 l dC dI s.heap.size ad p0 p1) (cwV 2 hts vg_k_X11_frame_a_X4_frameFact_1 rfl rfl rfl (by decide +kernel) ⟨Nat.le_of_ble_eq_true rfl, Nat.le_of_ble_eq_true rfl⟩) ⟨fun a U g mk q => by obtain ⟨q0, q1, qP, qK, qD⟩ := q; exact ⟨q0, q1, qP, va_K.moved (u := U) (U := U.calling g mk a) (Vm.Alike.refl U.vm) qK, qD⟩, va_recv hKc hPc (ci := 6) (q0 := 0) rfl rfl, fun U hU hW => ⟨rfl, by rw [hU], by rw [hU]; exact hPc, va_K.moved hW.alike hKc, hDc.weaken (fun _ _ _ _ => trivial)⟩⟩ rfl rfl hl.1 rfl (lv_room (Nat.le_of_ble_eq_true rfl)) dX11_frame_6 ⟨Nat.le_of_ble_eq_true rfl, Nat.le_of_ble_eq_true rfl⟩) hS (fun q _ h => hFc q h) hFc (fun r_1 u t H1 locs ht hvm hw hB hz1 hk1 hS => ?_)
  obtain ⟨_, _, _⟩ := u
  obtain ⟨hP1, hK1, hD1⟩ := hB
  rw [ht] at hP1
  have hK1 := va_K.moved hvm.symm hK1
  try dsimp only at hw
  obtain ⟨hP, hD⟩ := va_join (wr := [(h0, .inr (13, [.ref (ad 0), .int 0, .int 0, .ref (ad 1), .ref (ad 2), .ref (ad 3), .ref (ad 4), .ref (ad 5), .ref (ad 6)]))]) (w1 := [((ad 5), .inr (6, [.ref (ad 2), .ref (ad 1), .ref (ad 40), .int 0, .int 0, .ref (ad 41), .int 0, .int 0, .ref (ad 42), .int 0, .ref (ad 43), .int 0, .ref (ad 44), .int 0, .int 0, .int 0]))]) hP hD [1] [0] rfl rfl (by decide) (by decide) hk1 hFc hP1 hD1
  generalize H1 = H at hP hS ⊢
  have hP : va_P (dC, dI) vwCl [(h0, .inr (13, [.ref (ad 0), .int 0, .int 0, .ref (ad 1), .ref (ad 2), .ref (ad 3), .ref (ad 4), .ref (ad 5), .ref (ad 6)])), ((ad 5), .inr (6, [.ref (ad 2), .ref (ad 1), .ref (ad 40), .int 0, .int 0, .ref (ad 41), .int 0, .int 0, .ref (ad 42), .int 0, .ref (ad 43), .int 0, .ref (ad 44), .int 0, .int 0, .int 0]))] H := hP
  have hD : va_D A [(h0, .inr (13, [.ref (ad 0), .int 0, .int 0, .ref (ad 1), .ref (ad 2), .ref (ad 3), .ref (ad 4), .ref (ad 5), .ref (ad 6)])), ((ad 5), .inr (6, [.ref (ad 2), .ref (ad 1), .ref (ad 40), .int 0, .int 0, .ref (ad 41), .int 0, .int 0, .ref (ad 42), .int 0, .ref (ad 43), .int 0, .ref (ad 44), .int 0, .int 0, .int 0]))] := hD
  obtain rfl : r_1 = (-1) := hw
  exact W.iret (v := (-1)) hx hb hr (fun t ht hW => ⟨⟨(-1), (), rfl, rfl, trivial⟩, hS.F ht⟩) hS.2.2 dX11_frame_9

def vb_a_X4_frameAt_2 : List Cond := .code yX4_frameAt cX4_frameAt 2 (some .int) :: ([.fieldLink RX4 40 "ScriptTypes$Machine" "state" "I"] ++ [])
def vw_a_X4_frameAt_2 : List Cond := vb_a_X4_frameAt_2 ++ wsAll
set_option maxHeartbeats 8000000 in
set_option maxRecDepth 100000 in
theorem a_X4_frameAt_2 (l : Launch) (dC : Nat → ClassId) (dI : Nat → Nat → Nat) (sz : Nat) (ad : Nat → Nat) (p0 : Int32) : Met l yX4_frameAt vw_a_X4_frameAt_2 ({ frames := 0, cells := 0, slots := 0, locals := 0 }) (va_Pc [.ref (ad 5), .int p0] (fun U => U.heap.size = sz ∧ va_P (dC, dI) vwCl [((ad 5), .inr (6, [.ref (ad 2), .ref (ad 1), .ref (ad 40), .int 0, .int 0, .ref (ad 41), .int 0, .int 0, .ref (ad 42), .int 0, .ref (ad 43), .int 0, .ref (ad 44), .int 0, .int 0, .int 0]))] U.heap ∧ va_K (dC, dI) vwCl [] U ∧ va_D (fun _ => True) [((ad 5), .inr (6, [.ref (ad 2), .ref (ad 1), .ref (ad 40), .int 0, .int 0, .ref (ad 41), .int 0, .int 0, .ref (ad 42), .int 0, .ref (ad 43), .int 0, .ref (ad 44), .int 0, .int 0, .int 0]))])) (va_Qi (fun (r : Int32) (u : (Nat → Nat) × (Nat → ClassId) × (Nat → Nat → Int32)) => r = (-1)) (fun (u : (Nat → Nat) × (Nat → ClassId) × (Nat → Nat → Int32)) t => va_P (dC, dI) vwCl [((ad 5), .inr (6, [.ref (ad 2), .ref (ad 1), .ref (ad 40), .int 0, .int 0, .ref (ad 41), .int 0, .int 0, .ref (ad 42), .int 0, .ref (ad 43), .int 0, .ref (ad 44), .int 0, .int 0, .int 0]))] t.heap ∧ va_K (dC, dI) vwCl [] t ∧ va_D (va_A [((ad 5), .inr (6, [.ref (ad 2), .ref (ad 1), .ref (ad 40), .int 0, .int 0, .ref (ad 41), .int 0, .int 0, .ref (ad 42), .int 0, .ref (ad 43), .int 0, .ref (ad 44), .int 0, .int 0, .int 0]))] sz) [((ad 5), .inr (6, [.ref (ad 2), .ref (ad 1), .ref (ad 40), .int 0, .int 0, .ref (ad 41), .int 0, .int 0, .ref (ad 42), .int 0, .ref (ad 43), .int 0, .ref (ad 44), .int 0, .int 0, .int 0]))]) (va_A [((ad 5), .inr (6, [.ref (ad 2), .ref (ad 1), .ref (ad 40), .int 0, .int 0, .ref (ad 41), .int 0, .int 0, .ref (ad 42), .int 0, .ref (ad 43), .int 0, .ref (ad 44), .int 0, .int 0, .int 0]))] sz)) 0 0 (va_A [((ad 5), .inr (6, [.ref (ad 2), .ref (ad 1), .ref (ad 40), .int 0, .int 0, .ref (ad 41), .int 0, .int 0, .ref (ad 42), .int 0, .ref (ad 43), .int 0, .ref (ad 44), .int 0, .int 0, .int 0]))] sz) := by
  refine Met.ofW (cc := cX4_frameAt) (maxL := 2) (ret := (some .int)) (by decide) rfl ?_
  intro p e s m args below meth c s₁ B hml hv
  obtain ⟨rfl, hsz, hP, hK, hD0⟩ := hv
  have hx := B.exec
  have hb := B.bytes
  have hr := B.returns
  have hts := atoms_spec (ws := vw_a_X4_frameAt_2) B.pre
  have hown : s.vm.findClass RX4 = some m.cls := findClass_of_methodNamed B.named
  have hlocks := B.notSynchronized
  subst hsz
  have hD := hD0.self (sz := s.heap.size)
  generalize hAe : va_A [((ad 5), .inr (6, [.ref (ad 2), .ref (ad 1), .ref (ad 40), .int 0, .int 0, .ref (ad 41), .int 0, .int 0, .ref (ad 42), .int 0, .ref (ad 43), .int 0, .ref (ad 44), .int 0, .int 0, .int 0]))] s.heap.size = A at hD ⊢
  have hA : ∀ q : Nat, s.heap.size ≤ q → A q := fun q h => by rw [← hAe]; exact Or.inr h
  have hS : va_S A s.heap s.heap [] := va_S.rf
  have hP : va_P (dC, dI) vwCl [((ad 5), .inr (6, [.ref (ad 2), .ref (ad 1), .ref (ad 40), .int 0, .int 0, .ref (ad 41), .int 0, .int 0, .ref (ad 42), .int 0, .ref (ad 43), .int 0, .ref (ad 44), .int 0, .int 0, .int 0]))] s.heap := hP
  have hl := lv_entry ([.ref (ad 5), .int p0]) (n := 2) (Nat.le_of_ble_eq_true rfl)
  rw [lg_entry_eq]
  generalize (lg_sl ([.ref (ad 5), .int p0]) ++ List.replicate (2 - (lg_sl ([.ref (ad 5), .int p0])).length) Slot.unset).toArray = ls at hl ⊢
  have hl : lv_has ls 2 [(0, .ref (ad 5)), (1, .int p0)] := hl
  have hwX4 : ∀ w ∈ wsX40, w ∈ vw_a_X4_frameAt_2 := (fun w h => List.mem_append_right _ (List.mem_append_right _ (List.mem_append_right _ (List.mem_append_right _ (List.mem_append_right _ (List.mem_append_left _ h))))))
  refine lv_aload_n hx hb dX4_frameAt_0 rfl (lv_at hl 0 rfl) ?_
  refine va_get (D := (dC, dI)) (ci := 6) (v := .int 0) (C := RX4) (T := TX4) (N := 16) hx hb hts hwX4 hown hK hP 0 rfl rfl 3 (Nat.le_of_ble_eq_true rfl) (hts (.fieldLink RX4 40 "ScriptTypes$Machine" "state" "I") (List.mem_of_getElem? (i := 1) (by decide +kernel))) (fun _ h9 => h9) rfl dX4_frameAt_1 ?_
  refine lv_if_eq (tgt := 33) hx hb dX4_frameAt_4 (by decide) (fun _ => ?_) (fun c1_4 => absurd (by decide) c1_4)
  refine lv_iconst (v := (-1)) hx hb dX4_frameAt_33 (by decide) ?_
  refine W.widen (k := 0) (n := 0) (Nat.le_of_ble_eq_true rfl) (Nat.le_of_ble_eq_true rfl) ?_
  exact W.iret (v := (-1)) hx hb hr (fun t ht hW => ⟨⟨(-1), (fun n => ([] : List Nat).getD n 0, fun n => ([] : List ClassId).getD n 0, fun n => ([] : List (Nat → Int32)).getD n (fun _ => 0)), rfl, rfl, by rw [ht]; exact hP, va_K.moved hW.alike hK, hD⟩, hS.F ht⟩) hS.2.2 dX4_frameAt_34

def vb_a_X4_valueFact_1 : List Cond := .code yX4_valueFact cX4_valueFact 7 (some .int) :: ([.methodLink RX4 79 yX4_frameAt, .instanceMethod yX4_frameAt, .selects RX4 yX4_frameAt yX4_frameAt, .initialized RX4] ++ (vb_a_X4_frameAt_2 ++ []))
def vw_a_X4_valueFact_1 : List Cond := vb_a_X4_valueFact_1 ++ wsAll
set_option maxRecDepth 20000 in
theorem vg_a_X4_valueFact_1_a_X4_frameAt_2 : GoodIn vw_a_X4_valueFact_1 (wsV RX4 79 RX4 yX4_frameAt vw_a_X4_frameAt_2) := goodIn_app (goodIn_of _ (by decide +kernel)) (goodIn_sub (v_sub (fun w h => List.mem_cons_of_mem _ (List.mem_append_right _ (List.mem_append_left _ (h))))) (by decide +kernel))
set_option maxHeartbeats 8000000 in
set_option maxRecDepth 100000 in
theorem a_X4_valueFact_1 (l : Launch) (dC : Nat → ClassId) (dI : Nat → Nat → Nat) (sz : Nat) (ad : Nat → Nat) (p0 : Int32) (p1 : Int32) (p2 : Int32) : Met l yX4_valueFact vw_a_X4_valueFact_1 ({ frames := 1, cells := 0, slots := 0, locals := 21 }) (va_Pc [.ref (ad 5), .int p0, .int p1, .int p2] (fun U => U.heap.size = sz ∧ va_P (dC, dI) vwCl [((ad 5), .inr (6, [.ref (ad 2), .ref (ad 1), .ref (ad 40), .int 0, .int 0, .ref (ad 41), .int 0, .int 0, .ref (ad 42), .int 0, .ref (ad 43), .int 0, .ref (ad 44), .int 0, .int 0, .int 0]))] U.heap ∧ va_K (dC, dI) vwCl [] U ∧ va_D (fun _ => True) [((ad 5), .inr (6, [.ref (ad 2), .ref (ad 1), .ref (ad 40), .int 0, .int 0, .ref (ad 41), .int 0, .int 0, .ref (ad 42), .int 0, .ref (ad 43), .int 0, .ref (ad 44), .int 0, .int 0, .int 0]))])) (va_Qi (fun (r : Int32) (u : (Nat → Nat) × (Nat → ClassId) × (Nat → Nat → Int32)) => r = (-1)) (fun (u : (Nat → Nat) × (Nat → ClassId) × (Nat → Nat → Int32)) t => va_P (dC, dI) vwCl [((ad 5), .inr (6, [.ref (ad 2), .ref (ad 1), .ref (ad 40), .int 0, .int 0, .ref (ad 41), .int 0, .int 0, .ref (ad 42), .int 0, .ref (ad 43), .int 0, .ref (ad 44), .int 0, .int 0, .int 0]))] t.heap ∧ va_K (dC, dI) vwCl [] t ∧ va_D (va_A [((ad 5), .inr (6, [.ref (ad 2), .ref (ad 1), .ref (ad 40), .int 0, .int 0, .ref (ad 41), .int 0, .int 0, .ref (ad 42), .int 0, .ref (ad 43), .int 0, .ref (ad 44), .int 0, .int 0, .int 0]))] sz) [((ad 5), .inr (6, [.ref (ad 2), .ref (ad 1), .ref (ad 40), .int 0, .int 0, .ref (ad 41), .int 0, .int 0, .ref (ad 42), .int 0, .ref (ad 43), .int 0, .ref (ad 44), .int 0, .int 0, .int 0]))]) (va_A [((ad 5), .inr (6, [.ref (ad 2), .ref (ad 1), .ref (ad 40), .int 0, .int 0, .ref (ad 41), .int 0, .int 0, .ref (ad 42), .int 0, .ref (ad 43), .int 0, .ref (ad 44), .int 0, .int 0, .int 0]))] sz)) 0 0 (va_A [((ad 5), .inr (6, [.ref (ad 2), .ref (ad 1), .ref (ad 40), .int 0, .int 0, .ref (ad 41), .int 0, .int 0, .ref (ad 42), .int 0, .ref (ad 43), .int 0, .ref (ad 44), .int 0, .int 0, .int 0]))] sz) := by
  refine Met.ofW (cc := cX4_valueFact) (maxL := 7) (ret := (some .int)) (by decide) rfl ?_
  intro p e s m args below meth c s₁ B hml hv
  obtain ⟨rfl, hsz, hP, hK, hD0⟩ := hv
  have hx := B.exec
  have hb := B.bytes
  have hr := B.returns
  have hts := atoms_spec (ws := vw_a_X4_valueFact_1) B.pre
  have hown : s.vm.findClass RX4 = some m.cls := findClass_of_methodNamed B.named
  have hlocks := B.notSynchronized
  subst hsz
  have hD := hD0.self (sz := s.heap.size)
  generalize hAe : va_A [((ad 5), .inr (6, [.ref (ad 2), .ref (ad 1), .ref (ad 40), .int 0, .int 0, .ref (ad 41), .int 0, .int 0, .ref (ad 42), .int 0, .ref (ad 43), .int 0, .ref (ad 44), .int 0, .int 0, .int 0]))] s.heap.size = A at hD ⊢
  have hA : ∀ q : Nat, s.heap.size ≤ q → A q := fun q h => by rw [← hAe]; exact Or.inr h
  have hS : va_S A s.heap s.heap [] := va_S.rf
  have hP : va_P (dC, dI) vwCl [((ad 5), .inr (6, [.ref (ad 2), .ref (ad 1), .ref (ad 40), .int 0, .int 0, .ref (ad 41), .int 0, .int 0, .ref (ad 42), .int 0, .ref (ad 43), .int 0, .ref (ad 44), .int 0, .int 0, .int 0]))] s.heap := hP
  have hl := lv_entry ([.ref (ad 5), .int p0, .int p1, .int p2]) (n := 7) (Nat.le_of_ble_eq_true rfl)
  rw [lg_entry_eq]
  generalize (lg_sl ([.ref (ad 5), .int p0, .int p1, .int p2]) ++ List.replicate (7 - (lg_sl ([.ref (ad 5), .int p0, .int p1, .int p2])).length) Slot.unset).toArray = ls at hl ⊢
  have hl : lv_has ls 7 [(0, .ref (ad 5)), (1, .int p0), (2, .int p1), (3, .int p2)] := hl
  refine lv_aload_n hx hb dX4_valueFact_0 rfl (lv_at hl 0 rfl) ?_
  refine lv_iload_n hx hb dX4_valueFact_1 rfl (lv_at hl 1 rfl) ?_
  have hPc := hP.sub (ws' := [((ad 5), .inr (6, [.ref (ad 2), .ref (ad 1), .ref (ad 40), .int 0, .int 0, .ref (ad 41), .int 0, .int 0, .ref (ad 42), .int 0, .ref (ad 43), .int 0, .ref (ad 44), .int 0, .int 0, .int 0]))]) [0] rfl
  have hDc := hD.sub (ws' := [((ad 5), .inr (6, [.ref (ad 2), .ref (ad 1), .ref (ad 40), .int 0, .int 0, .ref (ad 41), .int 0, .int 0, .ref (ad 42), .int 0, .ref (ad 43), .int 0, .ref (ad 44), .int 0, .int 0, .int 0]))]) [0] (by decide) rfl
  have hKc := hK.sub (tys' := []) [] rfl
  have hFc := va_free (wc := [((ad 5), .inr (6, [.ref (ad 2), .ref (ad 1), .ref (ad 40), .int 0, .int 0, .ref (ad 41), .int 0, .int 0, .ref (ad 42), .int 0, .ref (ad 43), .int 0, .ref (ad 44), .int 0, .int 0, .int 0]))]) hD hS hA [0] rfl
  refine va_calli (va_runV (As := [.int p0]) (rest := []) ⟨hx, hb, hml, hown, hts⟩ (a_X4_frameAt_2 l dC dI s.heap.size ad p0) (cwV 1 hts vg_a_X4_valueFact_1_a_X4_frameAt_2 rfl rfl rfl (by decide +kernel) ⟨Nat.le_of_ble_eq_true rfl, Nat.le_of_ble_eq_true rfl⟩) ⟨fun a U g mk q => by obtain ⟨q0, q1, qP, qK, qD⟩ := q; exact ⟨q0, q1, qP, va_K.moved (u := U) (U := U.calling g mk a) (Vm.Alike.refl U.vm) qK, qD⟩, va_recv hKc hPc (ci := 6) (q0 := 0) rfl rfl, fun U hU hW => ⟨rfl, by rw [hU], by rw [hU]; exact hPc, va_K.moved hW.alike hKc, hDc.weaken (fun _ _ _ _ => trivial)⟩⟩ rfl rfl hl.1 rfl (lv_room (Nat.le_of_ble_eq_true rfl)) dX4_valueFact_2 ⟨Nat.le_of_ble_eq_true rfl, Nat.le_of_ble_eq_true rfl⟩) hS (fun q _ h => hFc q h) hFc (fun r_1 u t H1 locs ht hvm hw hB hz1 hk1 hS => ?_)
  obtain ⟨_, _, _⟩ := u
  obtain ⟨hP1, hK1, hD1⟩ := hB
  rw [ht] at hP1
  have hK1 := va_K.moved hvm.symm hK1
  try dsimp only at hw
  obtain ⟨hP, hD⟩ := va_join (wr := []) (w1 := [((ad 5), .inr (6, [.ref (ad 2), .ref (ad 1), .ref (ad 40), .int 0, .int 0, .ref (ad 41), .int 0, .int 0, .ref (ad 42), .int 0, .ref (ad 43), .int 0, .ref (ad 44), .int 0, .int 0, .int 0]))]) hP hD [0] [] rfl rfl (by decide) (by decide) hk1 hFc hP1 hD1
  generalize H1 = H at hP hS ⊢
  have hP : va_P (dC, dI) vwCl [((ad 5), .inr (6, [.ref (ad 2), .ref (ad 1), .ref (ad 40), .int 0, .int 0, .ref (ad 41), .int 0, .int 0, .ref (ad 42), .int 0, .ref (ad 43), .int 0, .ref (ad 44), .int 0, .int 0, .int 0]))] H := hP
  have hD : va_D A [((ad 5), .inr (6, [.ref (ad 2), .ref (ad 1), .ref (ad 40), .int 0, .int 0, .ref (ad 41), .int 0, .int 0, .ref (ad 42), .int 0, .ref (ad 43), .int 0, .ref (ad 44), .int 0, .int 0, .int 0]))] := hD
  obtain rfl : r_1 = (-1) := hw
  refine lv_istore (lv' := [(4, .int (-1)), (0, .ref (ad 5)), (1, .int p0), (2, .int p1), (3, .int p2)]) hx hb dX4_valueFact_5 hl (by decide) rfl (fun ls hl => ?_)
  refine lv_iload hx hb dX4_valueFact_7 (lv_at hl 0 rfl) ?_
  refine lv_if_lt (tgt := 17) hx hb dX4_valueFact_9 (by decide) (fun _ => ?_) (fun c2_9 => absurd (by decide) c2_9)
  refine lv_iconst (v := (-1)) hx hb dX4_valueFact_17 (by decide) ?_
  refine W.widen (k := 0) (n := 0) (Nat.le_of_ble_eq_true rfl) (Nat.le_of_ble_eq_true rfl) ?_
  exact W.iret (v := (-1)) hx hb hr (fun t ht hW => ⟨⟨(-1), (fun n => ([] : List Nat).getD n 0, fun n => ([] : List ClassId).getD n 0, fun n => ([] : List (Nat → Int32)).getD n (fun _ => 0)), rfl, rfl, by rw [ht]; exact hP, va_K.moved hW.alike hK, hD⟩, hS.F ht⟩) hS.2.2 dX4_valueFact_18

def vb_k_X11_value : List Cond := .code yX11_value cX11_value 4 (some .int) :: ([.fieldLink RX11 50 "ScriptTypes" "machine" "LScriptTypes$Machine;", .methodLink RX11 143 yX4_valueFact, .instanceMethod yX4_valueFact, .selects RX4 yX4_valueFact yX4_valueFact, .initialized RX4] ++ (vb_a_X4_valueFact_1 ++ []))
def vw_k_X11_value : List Cond := vb_k_X11_value ++ wsAll
set_option maxRecDepth 20000 in
theorem vg_k_X11_value_a_X4_valueFact_1 : GoodIn vw_k_X11_value (wsV RX11 143 RX4 yX4_valueFact vw_a_X4_valueFact_1) := goodIn_app (goodIn_of _ (by decide +kernel)) (goodIn_sub (v_sub (fun w h => List.mem_cons_of_mem _ (List.mem_append_right _ (List.mem_append_left _ (h))))) (by decide +kernel))
set_option maxHeartbeats 8000000 in
set_option maxRecDepth 100000 in
theorem k_X11_value (l : Launch) (dC : Nat → ClassId) (dI : Nat → Nat → Nat) (sz : Nat) (h0 : Nat) (ad : Nat → Nat) (p0 : Int32) (p1 : Int32) (p2 : Int32) : Met l yX11_value vw_k_X11_value ({ frames := 2, cells := 0, slots := 0, locals := 47 }) (va_Pc [.ref h0, .int p0, .int p1, .int p2] (fun U => U.heap.size = sz ∧ va_P (dC, dI) vwCl [(h0, .inr (13, [.ref (ad 0), .int 0, .int 0, .ref (ad 1), .ref (ad 2), .ref (ad 3), .ref (ad 4), .ref (ad 5), .ref (ad 6)])), ((ad 5), .inr (6, [.ref (ad 2), .ref (ad 1), .ref (ad 40), .int 0, .int 0, .ref (ad 41), .int 0, .int 0, .ref (ad 42), .int 0, .ref (ad 43), .int 0, .ref (ad 44), .int 0, .int 0, .int 0]))] U.heap ∧ va_K (dC, dI) vwCl [] U ∧ va_D (fun _ => True) [(h0, .inr (13, [.ref (ad 0), .int 0, .int 0, .ref (ad 1), .ref (ad 2), .ref (ad 3), .ref (ad 4), .ref (ad 5), .ref (ad 6)])), ((ad 5), .inr (6, [.ref (ad 2), .ref (ad 1), .ref (ad 40), .int 0, .int 0, .ref (ad 41), .int 0, .int 0, .ref (ad 42), .int 0, .ref (ad 43), .int 0, .ref (ad 44), .int 0, .int 0, .int 0]))])) (va_Qi (fun (r : Int32) (_ : Unit) => r = (-1)) (fun _ _ => True) (va_A [(h0, .inr (13, [.ref (ad 0), .int 0, .int 0, .ref (ad 1), .ref (ad 2), .ref (ad 3), .ref (ad 4), .ref (ad 5), .ref (ad 6)])), ((ad 5), .inr (6, [.ref (ad 2), .ref (ad 1), .ref (ad 40), .int 0, .int 0, .ref (ad 41), .int 0, .int 0, .ref (ad 42), .int 0, .ref (ad 43), .int 0, .ref (ad 44), .int 0, .int 0, .int 0]))] sz)) 0 0 (va_A [(h0, .inr (13, [.ref (ad 0), .int 0, .int 0, .ref (ad 1), .ref (ad 2), .ref (ad 3), .ref (ad 4), .ref (ad 5), .ref (ad 6)])), ((ad 5), .inr (6, [.ref (ad 2), .ref (ad 1), .ref (ad 40), .int 0, .int 0, .ref (ad 41), .int 0, .int 0, .ref (ad 42), .int 0, .ref (ad 43), .int 0, .ref (ad 44), .int 0, .int 0, .int 0]))] sz) := by
  refine Met.ofW (cc := cX11_value) (maxL := 4) (ret := (some .int)) (by decide) rfl ?_
  intro p e s m args below meth c s₁ B hml hv
  obtain ⟨rfl, hsz, hP, hK, hD0⟩ := hv
  have hx := B.exec
  have hb := B.bytes
  have hr := B.returns
  have hts := atoms_spec (ws := vw_k_X11_value) B.pre
  have hown : s.vm.findClass RX11 = some m.cls := findClass_of_methodNamed B.named
  have hlocks := B.notSynchronized
  subst hsz
  have hD := hD0.self (sz := s.heap.size)
  generalize hAe : va_A [(h0, .inr (13, [.ref (ad 0), .int 0, .int 0, .ref (ad 1), .ref (ad 2), .ref (ad 3), .ref (ad 4), .ref (ad 5), .ref (ad 6)])), ((ad 5), .inr (6, [.ref (ad 2), .ref (ad 1), .ref (ad 40), .int 0, .int 0, .ref (ad 41), .int 0, .int 0, .ref (ad 42), .int 0, .ref (ad 43), .int 0, .ref (ad 44), .int 0, .int 0, .int 0]))] s.heap.size = A at hD ⊢
  have hA : ∀ q : Nat, s.heap.size ≤ q → A q := fun q h => by rw [← hAe]; exact Or.inr h
  have hS : va_S A s.heap s.heap [] := va_S.rf
  have hP : va_P (dC, dI) vwCl [(h0, .inr (13, [.ref (ad 0), .int 0, .int 0, .ref (ad 1), .ref (ad 2), .ref (ad 3), .ref (ad 4), .ref (ad 5), .ref (ad 6)])), ((ad 5), .inr (6, [.ref (ad 2), .ref (ad 1), .ref (ad 40), .int 0, .int 0, .ref (ad 41), .int 0, .int 0, .ref (ad 42), .int 0, .ref (ad 43), .int 0, .ref (ad 44), .int 0, .int 0, .int 0]))] s.heap := hP
  have hl := lv_entry ([.ref h0, .int p0, .int p1, .int p2]) (n := 4) (Nat.le_of_ble_eq_true rfl)
  rw [lg_entry_eq]
  generalize (lg_sl ([.ref h0, .int p0, .int p1, .int p2]) ++ List.replicate (4 - (lg_sl ([.ref h0, .int p0, .int p1, .int p2])).length) Slot.unset).toArray = ls at hl ⊢
  have hl : lv_has ls 4 [(0, .ref h0), (1, .int p0), (2, .int p1), (3, .int p2)] := hl
  have hwX11 : ∀ w ∈ wsX110, w ∈ vw_k_X11_value := (fun w h => List.mem_append_right _ (List.mem_append_right _ (List.mem_append_right _ (List.mem_append_right _ (List.mem_append_right _ (List.mem_append_right _ (List.mem_append_right _ (List.mem_append_right _ (List.mem_append_right _ (List.mem_append_right _ (List.mem_append_right _ (List.mem_append_right _ h))))))))))))
  refine lv_aload_n hx hb dX11_value_0 rfl (lv_at hl 0 rfl) ?_
  refine va_get (D := (dC, dI)) (ci := 13) (v := .ref (ad 5)) (C := RX11) (T := TX11) (N := 9) hx hb hts hwX11 hown hK hP 0 rfl rfl 7 (Nat.le_of_ble_eq_true rfl) (hts (.fieldLink RX11 50 "ScriptTypes" "machine" "LScriptTypes$Machine;") (List.mem_of_getElem? (i := 1) (by decide +kernel))) (fun _ h9 => h9) rfl dX11_value_1 ?_
  refine lv_iload_n hx hb dX11_value_4 rfl (lv_at hl 1 rfl) ?_
  refine lv_iload_n hx hb dX11_value_5 rfl (lv_at hl 2 rfl) ?_
  refine lv_iload_n hx hb dX11_value_6 rfl (lv_at hl 3 rfl) ?_
  have hPc := hP.sub (ws' := [((ad 5), .inr (6, [.ref (ad 2), .ref (ad 1), .ref (ad 40), .int 0, .int 0, .ref (ad 41), .int 0, .int 0, .ref (ad 42), .int 0, .ref (ad 43), .int 0, .ref (ad 44), .int 0, .int 0, .int 0]))]) [1] rfl
  have hDc := hD.sub (ws' := [((ad 5), .inr (6, [.ref (ad 2), .ref (ad 1), .ref (ad 40), .int 0, .int 0, .ref (ad 41), .int 0, .int 0, .ref (ad 42), .int 0, .ref (ad 43), .int 0, .ref (ad 44), .int 0, .int 0, .int 0]))]) [1] (by decide) rfl
  have hKc := hK.sub (tys' := []) [] rfl
  have hFc := va_free (wc := [((ad 5), .inr (6, [.ref (ad 2), .ref (ad 1), .ref (ad 40), .int 0, .int 0, .ref (ad 41), .int 0, .int 0, .ref (ad 42), .int 0, .ref (ad 43), .int 0, .ref (ad 44), .int 0, .int 0, .int 0]))]) hD hS hA [1] rfl
  refine va_calli (va_runV (As := [.int p0, .int p1, .int p2]) (rest := []) ⟨hx, hb, hml, hown, hts⟩ (a_X4_valueFact_1 l dC dI s.heap.size ad p0 p1 p2) (cwV 3 hts vg_k_X11_value_a_X4_valueFact_1 rfl rfl rfl (by decide +kernel) ⟨Nat.le_of_ble_eq_true rfl, Nat.le_of_ble_eq_true rfl⟩) ⟨fun a U g mk q => by obtain ⟨q0, q1, qP, qK, qD⟩ := q; exact ⟨q0, q1, qP, va_K.moved (u := U) (U := U.calling g mk a) (Vm.Alike.refl U.vm) qK, qD⟩, va_recv hKc hPc (ci := 6) (q0 := 0) rfl rfl, fun U hU hW => ⟨rfl, by rw [hU], by rw [hU]; exact hPc, va_K.moved hW.alike hKc, hDc.weaken (fun _ _ _ _ => trivial)⟩⟩ rfl rfl hl.1 rfl (lv_room (Nat.le_of_ble_eq_true rfl)) dX11_value_7 ⟨Nat.le_of_ble_eq_true rfl, Nat.le_of_ble_eq_true rfl⟩) hS (fun q _ h => hFc q h) hFc (fun r_1 u t H1 locs ht hvm hw hB hz1 hk1 hS => ?_)
  obtain ⟨_, _, _⟩ := u
  obtain ⟨hP1, hK1, hD1⟩ := hB
  rw [ht] at hP1
  have hK1 := va_K.moved hvm.symm hK1
  try dsimp only at hw
  obtain ⟨hP, hD⟩ := va_join (wr := [(h0, .inr (13, [.ref (ad 0), .int 0, .int 0, .ref (ad 1), .ref (ad 2), .ref (ad 3), .ref (ad 4), .ref (ad 5), .ref (ad 6)]))]) (w1 := [((ad 5), .inr (6, [.ref (ad 2), .ref (ad 1), .ref (ad 40), .int 0, .int 0, .ref (ad 41), .int 0, .int 0, .ref (ad 42), .int 0, .ref (ad 43), .int 0, .ref (ad 44), .int 0, .int 0, .int 0]))]) hP hD [1] [0] rfl rfl (by decide) (by decide) hk1 hFc hP1 hD1
  generalize H1 = H at hP hS ⊢
  have hP : va_P (dC, dI) vwCl [(h0, .inr (13, [.ref (ad 0), .int 0, .int 0, .ref (ad 1), .ref (ad 2), .ref (ad 3), .ref (ad 4), .ref (ad 5), .ref (ad 6)])), ((ad 5), .inr (6, [.ref (ad 2), .ref (ad 1), .ref (ad 40), .int 0, .int 0, .ref (ad 41), .int 0, .int 0, .ref (ad 42), .int 0, .ref (ad 43), .int 0, .ref (ad 44), .int 0, .int 0, .int 0]))] H := hP
  have hD : va_D A [(h0, .inr (13, [.ref (ad 0), .int 0, .int 0, .ref (ad 1), .ref (ad 2), .ref (ad 3), .ref (ad 4), .ref (ad 5), .ref (ad 6)])), ((ad 5), .inr (6, [.ref (ad 2), .ref (ad 1), .ref (ad 40), .int 0, .int 0, .ref (ad 41), .int 0, .int 0, .ref (ad 42), .int 0, .ref (ad 43), .int 0, .ref (ad 44), .int 0, .int 0, .int 0]))] := hD
  obtain rfl : r_1 = (-1) := hw
  exact W.iret (v := (-1)) hx hb hr (fun t ht hW => ⟨⟨(-1), (), rfl, rfl, trivial⟩, hS.F ht⟩) hS.2.2 dX11_value_10

def vb_a_X4_objectFact_1 : List Cond := .code yX4_objectFact cX4_objectFact 3 (some .int) :: ([.fieldLink RX4 40 "ScriptTypes$Machine" "state" "I"] ++ [])
def vw_a_X4_objectFact_1 : List Cond := vb_a_X4_objectFact_1 ++ wsAll
set_option maxHeartbeats 8000000 in
set_option maxRecDepth 100000 in
theorem a_X4_objectFact_1 (l : Launch) (dC : Nat → ClassId) (dI : Nat → Nat → Nat) (sz : Nat) (ad : Nat → Nat) (p0 : Int32) (p1 : Int32) : Met l yX4_objectFact vw_a_X4_objectFact_1 ({ frames := 0, cells := 0, slots := 0, locals := 0 }) (va_Pc [.ref (ad 5), .int p0, .int p1] (fun U => U.heap.size = sz ∧ va_P (dC, dI) vwCl [((ad 5), .inr (6, [.ref (ad 2), .ref (ad 1), .ref (ad 40), .int 0, .int 0, .ref (ad 41), .int 0, .int 0, .ref (ad 42), .int 0, .ref (ad 43), .int 0, .ref (ad 44), .int 0, .int 0, .int 0]))] U.heap ∧ va_K (dC, dI) vwCl [] U ∧ va_D (fun _ => True) [((ad 5), .inr (6, [.ref (ad 2), .ref (ad 1), .ref (ad 40), .int 0, .int 0, .ref (ad 41), .int 0, .int 0, .ref (ad 42), .int 0, .ref (ad 43), .int 0, .ref (ad 44), .int 0, .int 0, .int 0]))])) (va_Qi (fun (r : Int32) (u : (Nat → Nat) × (Nat → ClassId) × (Nat → Nat → Int32)) => r = (-1)) (fun (u : (Nat → Nat) × (Nat → ClassId) × (Nat → Nat → Int32)) t => va_P (dC, dI) vwCl [((ad 5), .inr (6, [.ref (ad 2), .ref (ad 1), .ref (ad 40), .int 0, .int 0, .ref (ad 41), .int 0, .int 0, .ref (ad 42), .int 0, .ref (ad 43), .int 0, .ref (ad 44), .int 0, .int 0, .int 0]))] t.heap ∧ va_K (dC, dI) vwCl [] t ∧ va_D (va_A [((ad 5), .inr (6, [.ref (ad 2), .ref (ad 1), .ref (ad 40), .int 0, .int 0, .ref (ad 41), .int 0, .int 0, .ref (ad 42), .int 0, .ref (ad 43), .int 0, .ref (ad 44), .int 0, .int 0, .int 0]))] sz) [((ad 5), .inr (6, [.ref (ad 2), .ref (ad 1), .ref (ad 40), .int 0, .int 0, .ref (ad 41), .int 0, .int 0, .ref (ad 42), .int 0, .ref (ad 43), .int 0, .ref (ad 44), .int 0, .int 0, .int 0]))]) (va_A [((ad 5), .inr (6, [.ref (ad 2), .ref (ad 1), .ref (ad 40), .int 0, .int 0, .ref (ad 41), .int 0, .int 0, .ref (ad 42), .int 0, .ref (ad 43), .int 0, .ref (ad 44), .int 0, .int 0, .int 0]))] sz)) 0 0 (va_A [((ad 5), .inr (6, [.ref (ad 2), .ref (ad 1), .ref (ad 40), .int 0, .int 0, .ref (ad 41), .int 0, .int 0, .ref (ad 42), .int 0, .ref (ad 43), .int 0, .ref (ad 44), .int 0, .int 0, .int 0]))] sz) := by
  refine Met.ofW (cc := cX4_objectFact) (maxL := 3) (ret := (some .int)) (by decide) rfl ?_
  intro p e s m args below meth c s₁ B hml hv
  obtain ⟨rfl, hsz, hP, hK, hD0⟩ := hv
  have hx := B.exec
  have hb := B.bytes
  have hr := B.returns
  have hts := atoms_spec (ws := vw_a_X4_objectFact_1) B.pre
  have hown : s.vm.findClass RX4 = some m.cls := findClass_of_methodNamed B.named
  have hlocks := B.notSynchronized
  subst hsz
  have hD := hD0.self (sz := s.heap.size)
  generalize hAe : va_A [((ad 5), .inr (6, [.ref (ad 2), .ref (ad 1), .ref (ad 40), .int 0, .int 0, .ref (ad 41), .int 0, .int 0, .ref (ad 42), .int 0, .ref (ad 43), .int 0, .ref (ad 44), .int 0, .int 0, .int 0]))] s.heap.size = A at hD ⊢
  have hA : ∀ q : Nat, s.heap.size ≤ q → A q := fun q h => by rw [← hAe]; exact Or.inr h
  have hS : va_S A s.heap s.heap [] := va_S.rf
  have hP : va_P (dC, dI) vwCl [((ad 5), .inr (6, [.ref (ad 2), .ref (ad 1), .ref (ad 40), .int 0, .int 0, .ref (ad 41), .int 0, .int 0, .ref (ad 42), .int 0, .ref (ad 43), .int 0, .ref (ad 44), .int 0, .int 0, .int 0]))] s.heap := hP
  have hl := lv_entry ([.ref (ad 5), .int p0, .int p1]) (n := 3) (Nat.le_of_ble_eq_true rfl)
  rw [lg_entry_eq]
  generalize (lg_sl ([.ref (ad 5), .int p0, .int p1]) ++ List.replicate (3 - (lg_sl ([.ref (ad 5), .int p0, .int p1])).length) Slot.unset).toArray = ls at hl ⊢
  have hl : lv_has ls 3 [(0, .ref (ad 5)), (1, .int p0), (2, .int p1)] := hl
  have hwX4 : ∀ w ∈ wsX40, w ∈ vw_a_X4_objectFact_1 := (fun w h => List.mem_append_right _ (List.mem_append_right _ (List.mem_append_right _ (List.mem_append_right _ (List.mem_append_right _ (List.mem_append_left _ h))))))
  refine lv_aload_n hx hb dX4_objectFact_0 rfl (lv_at hl 0 rfl) ?_
  refine va_get (D := (dC, dI)) (ci := 6) (v := .int 0) (C := RX4) (T := TX4) (N := 16) hx hb hts hwX4 hown hK hP 0 rfl rfl 3 (Nat.le_of_ble_eq_true rfl) (hts (.fieldLink RX4 40 "ScriptTypes$Machine" "state" "I") (List.mem_of_getElem? (i := 1) (by decide +kernel))) (fun _ h9 => h9) rfl dX4_objectFact_1 ?_
  refine lv_if_eq (tgt := 18) hx hb dX4_objectFact_4 (by decide) (fun _ => ?_) (fun c1_4 => absurd (by decide) c1_4)
  refine lv_iconst (v := (-1)) hx hb dX4_objectFact_18 (by decide) ?_
  refine W.widen (k := 0) (n := 0) (Nat.le_of_ble_eq_true rfl) (Nat.le_of_ble_eq_true rfl) ?_
  exact W.iret (v := (-1)) hx hb hr (fun t ht hW => ⟨⟨(-1), (fun n => ([] : List Nat).getD n 0, fun n => ([] : List ClassId).getD n 0, fun n => ([] : List (Nat → Int32)).getD n (fun _ => 0)), rfl, rfl, by rw [ht]; exact hP, va_K.moved hW.alike hK, hD⟩, hS.F ht⟩) hS.2.2 dX4_objectFact_19

def vb_k_X11_object : List Cond := .code yX11_object cX11_object 3 (some .int) :: ([.fieldLink RX11 50 "ScriptTypes" "machine" "LScriptTypes$Machine;", .methodLink RX11 147 yX4_objectFact, .instanceMethod yX4_objectFact, .selects RX4 yX4_objectFact yX4_objectFact, .initialized RX4] ++ (vb_a_X4_objectFact_1 ++ []))
def vw_k_X11_object : List Cond := vb_k_X11_object ++ wsAll
set_option maxRecDepth 20000 in
theorem vg_k_X11_object_a_X4_objectFact_1 : GoodIn vw_k_X11_object (wsV RX11 147 RX4 yX4_objectFact vw_a_X4_objectFact_1) := goodIn_app (goodIn_of _ (by decide +kernel)) (goodIn_sub (v_sub (fun w h => List.mem_cons_of_mem _ (List.mem_append_right _ (List.mem_append_left _ (h))))) (by decide +kernel))
set_option maxHeartbeats 8000000 in
set_option maxRecDepth 100000 in
theorem k_X11_object (l : Launch) (dC : Nat → ClassId) (dI : Nat → Nat → Nat) (sz : Nat) (h0 : Nat) (ad : Nat → Nat) (p0 : Int32) (p1 : Int32) : Met l yX11_object vw_k_X11_object ({ frames := 1, cells := 0, slots := 0, locals := 22 }) (va_Pc [.ref h0, .int p0, .int p1] (fun U => U.heap.size = sz ∧ va_P (dC, dI) vwCl [(h0, .inr (13, [.ref (ad 0), .int 0, .int 0, .ref (ad 1), .ref (ad 2), .ref (ad 3), .ref (ad 4), .ref (ad 5), .ref (ad 6)])), ((ad 5), .inr (6, [.ref (ad 2), .ref (ad 1), .ref (ad 40), .int 0, .int 0, .ref (ad 41), .int 0, .int 0, .ref (ad 42), .int 0, .ref (ad 43), .int 0, .ref (ad 44), .int 0, .int 0, .int 0]))] U.heap ∧ va_K (dC, dI) vwCl [] U ∧ va_D (fun _ => True) [(h0, .inr (13, [.ref (ad 0), .int 0, .int 0, .ref (ad 1), .ref (ad 2), .ref (ad 3), .ref (ad 4), .ref (ad 5), .ref (ad 6)])), ((ad 5), .inr (6, [.ref (ad 2), .ref (ad 1), .ref (ad 40), .int 0, .int 0, .ref (ad 41), .int 0, .int 0, .ref (ad 42), .int 0, .ref (ad 43), .int 0, .ref (ad 44), .int 0, .int 0, .int 0]))])) (va_Qi (fun (r : Int32) (_ : Unit) => r = (-1)) (fun _ _ => True) (va_A [(h0, .inr (13, [.ref (ad 0), .int 0, .int 0, .ref (ad 1), .ref (ad 2), .ref (ad 3), .ref (ad 4), .ref (ad 5), .ref (ad 6)])), ((ad 5), .inr (6, [.ref (ad 2), .ref (ad 1), .ref (ad 40), .int 0, .int 0, .ref (ad 41), .int 0, .int 0, .ref (ad 42), .int 0, .ref (ad 43), .int 0, .ref (ad 44), .int 0, .int 0, .int 0]))] sz)) 0 0 (va_A [(h0, .inr (13, [.ref (ad 0), .int 0, .int 0, .ref (ad 1), .ref (ad 2), .ref (ad 3), .ref (ad 4), .ref (ad 5), .ref (ad 6)])), ((ad 5), .inr (6, [.ref (ad 2), .ref (ad 1), .ref (ad 40), .int 0, .int 0, .ref (ad 41), .int 0, .int 0, .ref (ad 42), .int 0, .ref (ad 43), .int 0, .ref (ad 44), .int 0, .int 0, .int 0]))] sz) := by
  refine Met.ofW (cc := cX11_object) (maxL := 3) (ret := (some .int)) (by decide) rfl ?_
  intro p e s m args below meth c s₁ B hml hv
  obtain ⟨rfl, hsz, hP, hK, hD0⟩ := hv
  have hx := B.exec
  have hb := B.bytes
  have hr := B.returns
  have hts := atoms_spec (ws := vw_k_X11_object) B.pre
  have hown : s.vm.findClass RX11 = some m.cls := findClass_of_methodNamed B.named
  have hlocks := B.notSynchronized
  subst hsz
  have hD := hD0.self (sz := s.heap.size)
  generalize hAe : va_A [(h0, .inr (13, [.ref (ad 0), .int 0, .int 0, .ref (ad 1), .ref (ad 2), .ref (ad 3), .ref (ad 4), .ref (ad 5), .ref (ad 6)])), ((ad 5), .inr (6, [.ref (ad 2), .ref (ad 1), .ref (ad 40), .int 0, .int 0, .ref (ad 41), .int 0, .int 0, .ref (ad 42), .int 0, .ref (ad 43), .int 0, .ref (ad 44), .int 0, .int 0, .int 0]))] s.heap.size = A at hD ⊢
  have hA : ∀ q : Nat, s.heap.size ≤ q → A q := fun q h => by rw [← hAe]; exact Or.inr h
  have hS : va_S A s.heap s.heap [] := va_S.rf
  have hP : va_P (dC, dI) vwCl [(h0, .inr (13, [.ref (ad 0), .int 0, .int 0, .ref (ad 1), .ref (ad 2), .ref (ad 3), .ref (ad 4), .ref (ad 5), .ref (ad 6)])), ((ad 5), .inr (6, [.ref (ad 2), .ref (ad 1), .ref (ad 40), .int 0, .int 0, .ref (ad 41), .int 0, .int 0, .ref (ad 42), .int 0, .ref (ad 43), .int 0, .ref (ad 44), .int 0, .int 0, .int 0]))] s.heap := hP
  have hl := lv_entry ([.ref h0, .int p0, .int p1]) (n := 3) (Nat.le_of_ble_eq_true rfl)
  rw [lg_entry_eq]
  generalize (lg_sl ([.ref h0, .int p0, .int p1]) ++ List.replicate (3 - (lg_sl ([.ref h0, .int p0, .int p1])).length) Slot.unset).toArray = ls at hl ⊢
  have hl : lv_has ls 3 [(0, .ref h0), (1, .int p0), (2, .int p1)] := hl
  have hwX11 : ∀ w ∈ wsX110, w ∈ vw_k_X11_object := (fun w h => List.mem_append_right _ (List.mem_append_right _ (List.mem_append_right _ (List.mem_append_right _ (List.mem_append_right _ (List.mem_append_right _ (List.mem_append_right _ (List.mem_append_right _ (List.mem_append_right _ (List.mem_append_right _ (List.mem_append_right _ (List.mem_append_right _ h))))))))))))
  refine lv_aload_n hx hb dX11_object_0 rfl (lv_at hl 0 rfl) ?_
  refine va_get (D := (dC, dI)) (ci := 13) (v := .ref (ad 5)) (C := RX11) (T := TX11) (N := 9) hx hb hts hwX11 hown hK hP 0 rfl rfl 7 (Nat.le_of_ble_eq_true rfl) (hts (.fieldLink RX11 50 "ScriptTypes" "machine" "LScriptTypes$Machine;") (List.mem_of_getElem? (i := 1) (by decide +kernel))) (fun _ h9 => h9) rfl dX11_object_1 ?_
  refine lv_iload_n hx hb dX11_object_4 rfl (lv_at hl 1 rfl) ?_
  refine lv_iload_n hx hb dX11_object_5 rfl (lv_at hl 2 rfl) ?_
  have hPc := hP.sub (ws' := [((ad 5), .inr (6, [.ref (ad 2), .ref (ad 1), .ref (ad 40), .int 0, .int 0, .ref (ad 41), .int 0, .int 0, .ref (ad 42), .int 0, .ref (ad 43), .int 0, .ref (ad 44), .int 0, .int 0, .int 0]))]) [1] rfl
  have hDc := hD.sub (ws' := [((ad 5), .inr (6, [.ref (ad 2), .ref (ad 1), .ref (ad 40), .int 0, .int 0, .ref (ad 41), .int 0, .int 0, .ref (ad 42), .int 0, .ref (ad 43), .int 0, .ref (ad 44), .int 0, .int 0, .int 0]))]) [1] (by decide) rfl
  have hKc := hK.sub (tys' := []) [] rfl
  have hFc := va_free (wc := [((ad 5), .inr (6, [.ref (ad 2), .ref (ad 1), .ref (ad 40), .int 0, .int 0, .ref (ad 41), .int 0, .int 0, .ref (ad 42), .int 0, .ref (ad 43), .int 0, .ref (ad 44), .int 0, .int 0, .int 0]))]) hD hS hA [1] rfl
  refine va_calli (va_runV (As := [.int p0, .int p1]) (rest := []) ⟨hx, hb, hml, hown, hts⟩ (a_X4_objectFact_1 l dC dI s.heap.size ad p0 p1) (cwV 2 hts vg_k_X11_object_a_X4_objectFact_1 rfl rfl rfl (by decide +kernel) ⟨Nat.le_of_ble_eq_true rfl, Nat.le_of_ble_eq_true rfl⟩) ⟨fun a U g mk q => by obtain ⟨q0, q1, qP, qK, qD⟩ := q; exact ⟨q0, q1, qP, va_K.moved (u := U) (U := U.calling g mk a) (Vm.Alike.refl U.vm) qK, qD⟩, va_recv hKc hPc (ci := 6) (q0 := 0) rfl rfl, fun U hU hW => ⟨rfl, by rw [hU], by rw [hU]; exact hPc, va_K.moved hW.alike hKc, hDc.weaken (fun _ _ _ _ => trivial)⟩⟩ rfl rfl hl.1 rfl (lv_room (Nat.le_of_ble_eq_true rfl)) dX11_object_6 ⟨Nat.le_of_ble_eq_true rfl, Nat.le_of_ble_eq_true rfl⟩) hS (fun q _ h => hFc q h) hFc (fun r_1 u t H1 locs ht hvm hw hB hz1 hk1 hS => ?_)
  obtain ⟨_, _, _⟩ := u
  obtain ⟨hP1, hK1, hD1⟩ := hB
  rw [ht] at hP1
  have hK1 := va_K.moved hvm.symm hK1
  try dsimp only at hw
  obtain ⟨hP, hD⟩ := va_join (wr := [(h0, .inr (13, [.ref (ad 0), .int 0, .int 0, .ref (ad 1), .ref (ad 2), .ref (ad 3), .ref (ad 4), .ref (ad 5), .ref (ad 6)]))]) (w1 := [((ad 5), .inr (6, [.ref (ad 2), .ref (ad 1), .ref (ad 40), .int 0, .int 0, .ref (ad 41), .int 0, .int 0, .ref (ad 42), .int 0, .ref (ad 43), .int 0, .ref (ad 44), .int 0, .int 0, .int 0]))]) hP hD [1] [0] rfl rfl (by decide) (by decide) hk1 hFc hP1 hD1
  generalize H1 = H at hP hS ⊢
  have hP : va_P (dC, dI) vwCl [(h0, .inr (13, [.ref (ad 0), .int 0, .int 0, .ref (ad 1), .ref (ad 2), .ref (ad 3), .ref (ad 4), .ref (ad 5), .ref (ad 6)])), ((ad 5), .inr (6, [.ref (ad 2), .ref (ad 1), .ref (ad 40), .int 0, .int 0, .ref (ad 41), .int 0, .int 0, .ref (ad 42), .int 0, .ref (ad 43), .int 0, .ref (ad 44), .int 0, .int 0, .int 0]))] H := hP
  have hD : va_D A [(h0, .inr (13, [.ref (ad 0), .int 0, .int 0, .ref (ad 1), .ref (ad 2), .ref (ad 3), .ref (ad 4), .ref (ad 5), .ref (ad 6)])), ((ad 5), .inr (6, [.ref (ad 2), .ref (ad 1), .ref (ad 40), .int 0, .int 0, .ref (ad 41), .int 0, .int 0, .ref (ad 42), .int 0, .ref (ad 43), .int 0, .ref (ad 44), .int 0, .int 0, .int 0]))] := hD
  obtain rfl : r_1 = (-1) := hw
  exact W.iret (v := (-1)) hx hb hr (fun t ht hW => ⟨⟨(-1), (), rfl, rfl, trivial⟩, hS.F ht⟩) hS.2.2 dX11_object_9

def vb_a_X4_propertyFact_1 : List Cond := .code yX4_propertyFact cX4_propertyFact 6 (some .int) :: ([.fieldLink RX4 40 "ScriptTypes$Machine" "state" "I"] ++ [])
def vw_a_X4_propertyFact_1 : List Cond := vb_a_X4_propertyFact_1 ++ wsAll
set_option maxHeartbeats 8000000 in
set_option maxRecDepth 100000 in
theorem a_X4_propertyFact_1 (l : Launch) (dC : Nat → ClassId) (dI : Nat → Nat → Nat) (sz : Nat) (ad : Nat → Nat) (p0 : Int32) (p1 : Int32) (p2 : Int32) : Met l yX4_propertyFact vw_a_X4_propertyFact_1 ({ frames := 0, cells := 0, slots := 0, locals := 0 }) (va_Pc [.ref (ad 5), .int p0, .int p1, .int p2] (fun U => U.heap.size = sz ∧ va_P (dC, dI) vwCl [((ad 5), .inr (6, [.ref (ad 2), .ref (ad 1), .ref (ad 40), .int 0, .int 0, .ref (ad 41), .int 0, .int 0, .ref (ad 42), .int 0, .ref (ad 43), .int 0, .ref (ad 44), .int 0, .int 0, .int 0]))] U.heap ∧ va_K (dC, dI) vwCl [] U ∧ va_D (fun _ => True) [((ad 5), .inr (6, [.ref (ad 2), .ref (ad 1), .ref (ad 40), .int 0, .int 0, .ref (ad 41), .int 0, .int 0, .ref (ad 42), .int 0, .ref (ad 43), .int 0, .ref (ad 44), .int 0, .int 0, .int 0]))])) (va_Qi (fun (r : Int32) (u : (Nat → Nat) × (Nat → ClassId) × (Nat → Nat → Int32)) => r = (-1)) (fun (u : (Nat → Nat) × (Nat → ClassId) × (Nat → Nat → Int32)) t => va_P (dC, dI) vwCl [((ad 5), .inr (6, [.ref (ad 2), .ref (ad 1), .ref (ad 40), .int 0, .int 0, .ref (ad 41), .int 0, .int 0, .ref (ad 42), .int 0, .ref (ad 43), .int 0, .ref (ad 44), .int 0, .int 0, .int 0]))] t.heap ∧ va_K (dC, dI) vwCl [] t ∧ va_D (va_A [((ad 5), .inr (6, [.ref (ad 2), .ref (ad 1), .ref (ad 40), .int 0, .int 0, .ref (ad 41), .int 0, .int 0, .ref (ad 42), .int 0, .ref (ad 43), .int 0, .ref (ad 44), .int 0, .int 0, .int 0]))] sz) [((ad 5), .inr (6, [.ref (ad 2), .ref (ad 1), .ref (ad 40), .int 0, .int 0, .ref (ad 41), .int 0, .int 0, .ref (ad 42), .int 0, .ref (ad 43), .int 0, .ref (ad 44), .int 0, .int 0, .int 0]))]) (va_A [((ad 5), .inr (6, [.ref (ad 2), .ref (ad 1), .ref (ad 40), .int 0, .int 0, .ref (ad 41), .int 0, .int 0, .ref (ad 42), .int 0, .ref (ad 43), .int 0, .ref (ad 44), .int 0, .int 0, .int 0]))] sz)) 0 0 (va_A [((ad 5), .inr (6, [.ref (ad 2), .ref (ad 1), .ref (ad 40), .int 0, .int 0, .ref (ad 41), .int 0, .int 0, .ref (ad 42), .int 0, .ref (ad 43), .int 0, .ref (ad 44), .int 0, .int 0, .int 0]))] sz) := by
  refine Met.ofW (cc := cX4_propertyFact) (maxL := 6) (ret := (some .int)) (by decide) rfl ?_
  intro p e s m args below meth c s₁ B hml hv
  obtain ⟨rfl, hsz, hP, hK, hD0⟩ := hv
  have hx := B.exec
  have hb := B.bytes
  have hr := B.returns
  have hts := atoms_spec (ws := vw_a_X4_propertyFact_1) B.pre
  have hown : s.vm.findClass RX4 = some m.cls := findClass_of_methodNamed B.named
  have hlocks := B.notSynchronized
  subst hsz
  have hD := hD0.self (sz := s.heap.size)
  generalize hAe : va_A [((ad 5), .inr (6, [.ref (ad 2), .ref (ad 1), .ref (ad 40), .int 0, .int 0, .ref (ad 41), .int 0, .int 0, .ref (ad 42), .int 0, .ref (ad 43), .int 0, .ref (ad 44), .int 0, .int 0, .int 0]))] s.heap.size = A at hD ⊢
  have hA : ∀ q : Nat, s.heap.size ≤ q → A q := fun q h => by rw [← hAe]; exact Or.inr h
  have hS : va_S A s.heap s.heap [] := va_S.rf
  have hP : va_P (dC, dI) vwCl [((ad 5), .inr (6, [.ref (ad 2), .ref (ad 1), .ref (ad 40), .int 0, .int 0, .ref (ad 41), .int 0, .int 0, .ref (ad 42), .int 0, .ref (ad 43), .int 0, .ref (ad 44), .int 0, .int 0, .int 0]))] s.heap := hP
  have hl := lv_entry ([.ref (ad 5), .int p0, .int p1, .int p2]) (n := 6) (Nat.le_of_ble_eq_true rfl)
  rw [lg_entry_eq]
  generalize (lg_sl ([.ref (ad 5), .int p0, .int p1, .int p2]) ++ List.replicate (6 - (lg_sl ([.ref (ad 5), .int p0, .int p1, .int p2])).length) Slot.unset).toArray = ls at hl ⊢
  have hl : lv_has ls 6 [(0, .ref (ad 5)), (1, .int p0), (2, .int p1), (3, .int p2)] := hl
  have hwX4 : ∀ w ∈ wsX40, w ∈ vw_a_X4_propertyFact_1 := (fun w h => List.mem_append_right _ (List.mem_append_right _ (List.mem_append_right _ (List.mem_append_right _ (List.mem_append_right _ (List.mem_append_left _ h))))))
  refine lv_aload_n hx hb dX4_propertyFact_0 rfl (lv_at hl 0 rfl) ?_
  refine va_get (D := (dC, dI)) (ci := 6) (v := .int 0) (C := RX4) (T := TX4) (N := 16) hx hb hts hwX4 hown hK hP 0 rfl rfl 3 (Nat.le_of_ble_eq_true rfl) (hts (.fieldLink RX4 40 "ScriptTypes$Machine" "state" "I") (List.mem_of_getElem? (i := 1) (by decide +kernel))) (fun _ h9 => h9) rfl dX4_propertyFact_1 ?_
  refine lv_if_eq (tgt := 23) hx hb dX4_propertyFact_4 (by decide) (fun _ => ?_) (fun c1_4 => absurd (by decide) c1_4)
  refine lv_iconst (v := (-1)) hx hb dX4_propertyFact_23 (by decide) ?_
  refine W.widen (k := 0) (n := 0) (Nat.le_of_ble_eq_true rfl) (Nat.le_of_ble_eq_true rfl) ?_
  exact W.iret (v := (-1)) hx hb hr (fun t ht hW => ⟨⟨(-1), (fun n => ([] : List Nat).getD n 0, fun n => ([] : List ClassId).getD n 0, fun n => ([] : List (Nat → Int32)).getD n (fun _ => 0)), rfl, rfl, by rw [ht]; exact hP, va_K.moved hW.alike hK, hD⟩, hS.F ht⟩) hS.2.2 dX4_propertyFact_24

def vb_k_X11_property : List Cond := .code yX11_property cX11_property 4 (some .int) :: ([.fieldLink RX11 50 "ScriptTypes" "machine" "LScriptTypes$Machine;", .methodLink RX11 150 yX4_propertyFact, .instanceMethod yX4_propertyFact, .selects RX4 yX4_propertyFact yX4_propertyFact, .initialized RX4] ++ (vb_a_X4_propertyFact_1 ++ []))
def vw_k_X11_property : List Cond := vb_k_X11_property ++ wsAll
set_option maxRecDepth 20000 in
theorem vg_k_X11_property_a_X4_propertyFact_1 : GoodIn vw_k_X11_property (wsV RX11 150 RX4 yX4_propertyFact vw_a_X4_propertyFact_1) := goodIn_app (goodIn_of _ (by decide +kernel)) (goodIn_sub (v_sub (fun w h => List.mem_cons_of_mem _ (List.mem_append_right _ (List.mem_append_left _ (h))))) (by decide +kernel))
set_option maxHeartbeats 8000000 in
set_option maxRecDepth 100000 in
theorem k_X11_property (l : Launch) (dC : Nat → ClassId) (dI : Nat → Nat → Nat) (sz : Nat) (h0 : Nat) (ad : Nat → Nat) (p0 : Int32) (p1 : Int32) (p2 : Int32) : Met l yX11_property vw_k_X11_property ({ frames := 1, cells := 0, slots := 0, locals := 25 }) (va_Pc [.ref h0, .int p0, .int p1, .int p2] (fun U => U.heap.size = sz ∧ va_P (dC, dI) vwCl [(h0, .inr (13, [.ref (ad 0), .int 0, .int 0, .ref (ad 1), .ref (ad 2), .ref (ad 3), .ref (ad 4), .ref (ad 5), .ref (ad 6)])), ((ad 5), .inr (6, [.ref (ad 2), .ref (ad 1), .ref (ad 40), .int 0, .int 0, .ref (ad 41), .int 0, .int 0, .ref (ad 42), .int 0, .ref (ad 43), .int 0, .ref (ad 44), .int 0, .int 0, .int 0]))] U.heap ∧ va_K (dC, dI) vwCl [] U ∧ va_D (fun _ => True) [(h0, .inr (13, [.ref (ad 0), .int 0, .int 0, .ref (ad 1), .ref (ad 2), .ref (ad 3), .ref (ad 4), .ref (ad 5), .ref (ad 6)])), ((ad 5), .inr (6, [.ref (ad 2), .ref (ad 1), .ref (ad 40), .int 0, .int 0, .ref (ad 41), .int 0, .int 0, .ref (ad 42), .int 0, .ref (ad 43), .int 0, .ref (ad 44), .int 0, .int 0, .int 0]))])) (va_Qi (fun (r : Int32) (_ : Unit) => r = (-1)) (fun _ _ => True) (va_A [(h0, .inr (13, [.ref (ad 0), .int 0, .int 0, .ref (ad 1), .ref (ad 2), .ref (ad 3), .ref (ad 4), .ref (ad 5), .ref (ad 6)])), ((ad 5), .inr (6, [.ref (ad 2), .ref (ad 1), .ref (ad 40), .int 0, .int 0, .ref (ad 41), .int 0, .int 0, .ref (ad 42), .int 0, .ref (ad 43), .int 0, .ref (ad 44), .int 0, .int 0, .int 0]))] sz)) 0 0 (va_A [(h0, .inr (13, [.ref (ad 0), .int 0, .int 0, .ref (ad 1), .ref (ad 2), .ref (ad 3), .ref (ad 4), .ref (ad 5), .ref (ad 6)])), ((ad 5), .inr (6, [.ref (ad 2), .ref (ad 1), .ref (ad 40), .int 0, .int 0, .ref (ad 41), .int 0, .int 0, .ref (ad 42), .int 0, .ref (ad 43), .int 0, .ref (ad 44), .int 0, .int 0, .int 0]))] sz) := by
  refine Met.ofW (cc := cX11_property) (maxL := 4) (ret := (some .int)) (by decide) rfl ?_
  intro p e s m args below meth c s₁ B hml hv
  obtain ⟨rfl, hsz, hP, hK, hD0⟩ := hv
  have hx := B.exec
  have hb := B.bytes
  have hr := B.returns
  have hts := atoms_spec (ws := vw_k_X11_property) B.pre
  have hown : s.vm.findClass RX11 = some m.cls := findClass_of_methodNamed B.named
  have hlocks := B.notSynchronized
  subst hsz
  have hD := hD0.self (sz := s.heap.size)
  generalize hAe : va_A [(h0, .inr (13, [.ref (ad 0), .int 0, .int 0, .ref (ad 1), .ref (ad 2), .ref (ad 3), .ref (ad 4), .ref (ad 5), .ref (ad 6)])), ((ad 5), .inr (6, [.ref (ad 2), .ref (ad 1), .ref (ad 40), .int 0, .int 0, .ref (ad 41), .int 0, .int 0, .ref (ad 42), .int 0, .ref (ad 43), .int 0, .ref (ad 44), .int 0, .int 0, .int 0]))] s.heap.size = A at hD ⊢
  have hA : ∀ q : Nat, s.heap.size ≤ q → A q := fun q h => by rw [← hAe]; exact Or.inr h
  have hS : va_S A s.heap s.heap [] := va_S.rf
  have hP : va_P (dC, dI) vwCl [(h0, .inr (13, [.ref (ad 0), .int 0, .int 0, .ref (ad 1), .ref (ad 2), .ref (ad 3), .ref (ad 4), .ref (ad 5), .ref (ad 6)])), ((ad 5), .inr (6, [.ref (ad 2), .ref (ad 1), .ref (ad 40), .int 0, .int 0, .ref (ad 41), .int 0, .int 0, .ref (ad 42), .int 0, .ref (ad 43), .int 0, .ref (ad 44), .int 0, .int 0, .int 0]))] s.heap := hP
  have hl := lv_entry ([.ref h0, .int p0, .int p1, .int p2]) (n := 4) (Nat.le_of_ble_eq_true rfl)
  rw [lg_entry_eq]
  generalize (lg_sl ([.ref h0, .int p0, .int p1, .int p2]) ++ List.replicate (4 - (lg_sl ([.ref h0, .int p0, .int p1, .int p2])).length) Slot.unset).toArray = ls at hl ⊢
  have hl : lv_has ls 4 [(0, .ref h0), (1, .int p0), (2, .int p1), (3, .int p2)] := hl
  have hwX11 : ∀ w ∈ wsX110, w ∈ vw_k_X11_property := (fun w h => List.mem_append_right _ (List.mem_append_right _ (List.mem_append_right _ (List.mem_append_right _ (List.mem_append_right _ (List.mem_append_right _ (List.mem_append_right _ (List.mem_append_right _ (List.mem_append_right _ (List.mem_append_right _ (List.mem_append_right _ (List.mem_append_right _ h))))))))))))
  refine lv_aload_n hx hb dX11_property_0 rfl (lv_at hl 0 rfl) ?_
  refine va_get (D := (dC, dI)) (ci := 13) (v := .ref (ad 5)) (C := RX11) (T := TX11) (N := 9) hx hb hts hwX11 hown hK hP 0 rfl rfl 7 (Nat.le_of_ble_eq_true rfl) (hts (.fieldLink RX11 50 "ScriptTypes" "machine" "LScriptTypes$Machine;") (List.mem_of_getElem? (i := 1) (by decide +kernel))) (fun _ h9 => h9) rfl dX11_property_1 ?_
  refine lv_iload_n hx hb dX11_property_4 rfl (lv_at hl 1 rfl) ?_
  refine lv_iload_n hx hb dX11_property_5 rfl (lv_at hl 2 rfl) ?_
  refine lv_iload_n hx hb dX11_property_6 rfl (lv_at hl 3 rfl) ?_
  have hPc := hP.sub (ws' := [((ad 5), .inr (6, [.ref (ad 2), .ref (ad 1), .ref (ad 40), .int 0, .int 0, .ref (ad 41), .int 0, .int 0, .ref (ad 42), .int 0, .ref (ad 43), .int 0, .ref (ad 44), .int 0, .int 0, .int 0]))]) [1] rfl
  have hDc := hD.sub (ws' := [((ad 5), .inr (6, [.ref (ad 2), .ref (ad 1), .ref (ad 40), .int 0, .int 0, .ref (ad 41), .int 0, .int 0, .ref (ad 42), .int 0, .ref (ad 43), .int 0, .ref (ad 44), .int 0, .int 0, .int 0]))]) [1] (by decide) rfl
  have hKc := hK.sub (tys' := []) [] rfl
  have hFc := va_free (wc := [((ad 5), .inr (6, [.ref (ad 2), .ref (ad 1), .ref (ad 40), .int 0, .int 0, .ref (ad 41), .int 0, .int 0, .ref (ad 42), .int 0, .ref (ad 43), .int 0, .ref (ad 44), .int 0, .int 0, .int 0]))]) hD hS hA [1] rfl
  refine va_calli (va_runV (As := [.int p0, .int p1, .int p2]) (rest := []) ⟨hx, hb, hml, hown, hts⟩ (a_X4_propertyFact_1 l dC dI s.heap.size ad p0 p1 p2) (cwV 3 hts vg_k_X11_property_a_X4_propertyFact_1 rfl rfl rfl (by decide +kernel) ⟨Nat.le_of_ble_eq_true rfl, Nat.le_of_ble_eq_true rfl⟩) ⟨fun a U g mk q => by obtain ⟨q0, q1, qP, qK, qD⟩ := q; exact ⟨q0, q1, qP, va_K.moved (u := U) (U := U.calling g mk a) (Vm.Alike.refl U.vm) qK, qD⟩, va_recv hKc hPc (ci := 6) (q0 := 0) rfl rfl, fun U hU hW => ⟨rfl, by rw [hU], by rw [hU]; exact hPc, va_K.moved hW.alike hKc, hDc.weaken (fun _ _ _ _ => trivial)⟩⟩ rfl rfl hl.1 rfl (lv_room (Nat.le_of_ble_eq_true rfl)) dX11_property_7 ⟨Nat.le_of_ble_eq_true rfl, Nat.le_of_ble_eq_true rfl⟩) hS (fun q _ h => hFc q h) hFc (fun r_1 u t H1 locs ht hvm hw hB hz1 hk1 hS => ?_)
  obtain ⟨_, _, _⟩ := u
  obtain ⟨hP1, hK1, hD1⟩ := hB
  rw [ht] at hP1
  have hK1 := va_K.moved hvm.symm hK1
  try dsimp only at hw
  obtain ⟨hP, hD⟩ := va_join (wr := [(h0, .inr (13, [.ref (ad 0), .int 0, .int 0, .ref (ad 1), .ref (ad 2), .ref (ad 3), .ref (ad 4), .ref (ad 5), .ref (ad 6)]))]) (w1 := [((ad 5), .inr (6, [.ref (ad 2), .ref (ad 1), .ref (ad 40), .int 0, .int 0, .ref (ad 41), .int 0, .int 0, .ref (ad 42), .int 0, .ref (ad 43), .int 0, .ref (ad 44), .int 0, .int 0, .int 0]))]) hP hD [1] [0] rfl rfl (by decide) (by decide) hk1 hFc hP1 hD1
  generalize H1 = H at hP hS ⊢
  have hP : va_P (dC, dI) vwCl [(h0, .inr (13, [.ref (ad 0), .int 0, .int 0, .ref (ad 1), .ref (ad 2), .ref (ad 3), .ref (ad 4), .ref (ad 5), .ref (ad 6)])), ((ad 5), .inr (6, [.ref (ad 2), .ref (ad 1), .ref (ad 40), .int 0, .int 0, .ref (ad 41), .int 0, .int 0, .ref (ad 42), .int 0, .ref (ad 43), .int 0, .ref (ad 44), .int 0, .int 0, .int 0]))] H := hP
  have hD : va_D A [(h0, .inr (13, [.ref (ad 0), .int 0, .int 0, .ref (ad 1), .ref (ad 2), .ref (ad 3), .ref (ad 4), .ref (ad 5), .ref (ad 6)])), ((ad 5), .inr (6, [.ref (ad 2), .ref (ad 1), .ref (ad 40), .int 0, .int 0, .ref (ad 41), .int 0, .int 0, .ref (ad 42), .int 0, .ref (ad 43), .int 0, .ref (ad 44), .int 0, .int 0, .int 0]))] := hD
  obtain rfl : r_1 = (-1) := hw
  exact W.iret (v := (-1)) hx hb hr (fun t ht hW => ⟨⟨(-1), (), rfl, rfl, trivial⟩, hS.F ht⟩) hS.2.2 dX11_property_10

def vb_a_X4_printedSign_1 : List Cond := .code yX4_printedSign cX4_printedSign 3 (some .int) :: ([.fieldLink RX4 40 "ScriptTypes$Machine" "state" "I"] ++ [])
def vw_a_X4_printedSign_1 : List Cond := vb_a_X4_printedSign_1 ++ wsAll
set_option maxHeartbeats 8000000 in
set_option maxRecDepth 100000 in
theorem a_X4_printedSign_1 (l : Launch) (dC : Nat → ClassId) (dI : Nat → Nat → Nat) (sz : Nat) (ad : Nat → Nat) (p0 : Int32) (p1 : Int32) : Met l yX4_printedSign vw_a_X4_printedSign_1 ({ frames := 0, cells := 0, slots := 0, locals := 0 }) (va_Pc [.ref (ad 5), .int p0, .int p1] (fun U => U.heap.size = sz ∧ va_P (dC, dI) vwCl [((ad 5), .inr (6, [.ref (ad 2), .ref (ad 1), .ref (ad 40), .int 0, .int 0, .ref (ad 41), .int 0, .int 0, .ref (ad 42), .int 0, .ref (ad 43), .int 0, .ref (ad 44), .int 0, .int 0, .int 0]))] U.heap ∧ va_K (dC, dI) vwCl [] U ∧ va_D (fun _ => True) [((ad 5), .inr (6, [.ref (ad 2), .ref (ad 1), .ref (ad 40), .int 0, .int 0, .ref (ad 41), .int 0, .int 0, .ref (ad 42), .int 0, .ref (ad 43), .int 0, .ref (ad 44), .int 0, .int 0, .int 0]))])) (va_Qi (fun (r : Int32) (u : (Nat → Nat) × (Nat → ClassId) × (Nat → Nat → Int32)) => r = (-1)) (fun (u : (Nat → Nat) × (Nat → ClassId) × (Nat → Nat → Int32)) t => va_P (dC, dI) vwCl [((ad 5), .inr (6, [.ref (ad 2), .ref (ad 1), .ref (ad 40), .int 0, .int 0, .ref (ad 41), .int 0, .int 0, .ref (ad 42), .int 0, .ref (ad 43), .int 0, .ref (ad 44), .int 0, .int 0, .int 0]))] t.heap ∧ va_K (dC, dI) vwCl [] t ∧ va_D (va_A [((ad 5), .inr (6, [.ref (ad 2), .ref (ad 1), .ref (ad 40), .int 0, .int 0, .ref (ad 41), .int 0, .int 0, .ref (ad 42), .int 0, .ref (ad 43), .int 0, .ref (ad 44), .int 0, .int 0, .int 0]))] sz) [((ad 5), .inr (6, [.ref (ad 2), .ref (ad 1), .ref (ad 40), .int 0, .int 0, .ref (ad 41), .int 0, .int 0, .ref (ad 42), .int 0, .ref (ad 43), .int 0, .ref (ad 44), .int 0, .int 0, .int 0]))]) (va_A [((ad 5), .inr (6, [.ref (ad 2), .ref (ad 1), .ref (ad 40), .int 0, .int 0, .ref (ad 41), .int 0, .int 0, .ref (ad 42), .int 0, .ref (ad 43), .int 0, .ref (ad 44), .int 0, .int 0, .int 0]))] sz)) 0 0 (va_A [((ad 5), .inr (6, [.ref (ad 2), .ref (ad 1), .ref (ad 40), .int 0, .int 0, .ref (ad 41), .int 0, .int 0, .ref (ad 42), .int 0, .ref (ad 43), .int 0, .ref (ad 44), .int 0, .int 0, .int 0]))] sz) := by
  refine Met.ofW (cc := cX4_printedSign) (maxL := 3) (ret := (some .int)) (by decide) rfl ?_
  intro p e s m args below meth c s₁ B hml hv
  obtain ⟨rfl, hsz, hP, hK, hD0⟩ := hv
  have hx := B.exec
  have hb := B.bytes
  have hr := B.returns
  have hts := atoms_spec (ws := vw_a_X4_printedSign_1) B.pre
  have hown : s.vm.findClass RX4 = some m.cls := findClass_of_methodNamed B.named
  have hlocks := B.notSynchronized
  subst hsz
  have hD := hD0.self (sz := s.heap.size)
  generalize hAe : va_A [((ad 5), .inr (6, [.ref (ad 2), .ref (ad 1), .ref (ad 40), .int 0, .int 0, .ref (ad 41), .int 0, .int 0, .ref (ad 42), .int 0, .ref (ad 43), .int 0, .ref (ad 44), .int 0, .int 0, .int 0]))] s.heap.size = A at hD ⊢
  have hA : ∀ q : Nat, s.heap.size ≤ q → A q := fun q h => by rw [← hAe]; exact Or.inr h
  have hS : va_S A s.heap s.heap [] := va_S.rf
  have hP : va_P (dC, dI) vwCl [((ad 5), .inr (6, [.ref (ad 2), .ref (ad 1), .ref (ad 40), .int 0, .int 0, .ref (ad 41), .int 0, .int 0, .ref (ad 42), .int 0, .ref (ad 43), .int 0, .ref (ad 44), .int 0, .int 0, .int 0]))] s.heap := hP
  have hl := lv_entry ([.ref (ad 5), .int p0, .int p1]) (n := 3) (Nat.le_of_ble_eq_true rfl)
  rw [lg_entry_eq]
  generalize (lg_sl ([.ref (ad 5), .int p0, .int p1]) ++ List.replicate (3 - (lg_sl ([.ref (ad 5), .int p0, .int p1])).length) Slot.unset).toArray = ls at hl ⊢
  have hl : lv_has ls 3 [(0, .ref (ad 5)), (1, .int p0), (2, .int p1)] := hl
  have hwX4 : ∀ w ∈ wsX40, w ∈ vw_a_X4_printedSign_1 := (fun w h => List.mem_append_right _ (List.mem_append_right _ (List.mem_append_right _ (List.mem_append_right _ (List.mem_append_right _ (List.mem_append_left _ h))))))
  refine lv_aload_n hx hb dX4_printedSign_0 rfl (lv_at hl 0 rfl) ?_
  refine va_get (D := (dC, dI)) (ci := 6) (v := .int 0) (C := RX4) (T := TX4) (N := 16) hx hb hts hwX4 hown hK hP 0 rfl rfl 3 (Nat.le_of_ble_eq_true rfl) (hts (.fieldLink RX4 40 "ScriptTypes$Machine" "state" "I") (List.mem_of_getElem? (i := 1) (by decide +kernel))) (fun _ h9 => h9) rfl dX4_printedSign_1 ?_
  refine lv_if_eq (tgt := 19) hx hb dX4_printedSign_4 (by decide) (fun _ => ?_) (fun c1_4 => absurd (by decide) c1_4)
  refine lv_iconst (v := (-1)) hx hb dX4_printedSign_19 (by decide) ?_
  refine W.widen (k := 0) (n := 0) (Nat.le_of_ble_eq_true rfl) (Nat.le_of_ble_eq_true rfl) ?_
  exact W.iret (v := (-1)) hx hb hr (fun t ht hW => ⟨⟨(-1), (fun n => ([] : List Nat).getD n 0, fun n => ([] : List ClassId).getD n 0, fun n => ([] : List (Nat → Int32)).getD n (fun _ => 0)), rfl, rfl, by rw [ht]; exact hP, va_K.moved hW.alike hK, hD⟩, hS.F ht⟩) hS.2.2 dX4_printedSign_20

def vb_k_X11_printed : List Cond := .code yX11_printed cX11_printed 3 (some .int) :: ([.fieldLink RX11 50 "ScriptTypes" "machine" "LScriptTypes$Machine;", .methodLink RX11 153 yX4_printedSign, .instanceMethod yX4_printedSign, .selects RX4 yX4_printedSign yX4_printedSign, .initialized RX4] ++ (vb_a_X4_printedSign_1 ++ []))
def vw_k_X11_printed : List Cond := vb_k_X11_printed ++ wsAll
set_option maxRecDepth 20000 in
theorem vg_k_X11_printed_a_X4_printedSign_1 : GoodIn vw_k_X11_printed (wsV RX11 153 RX4 yX4_printedSign vw_a_X4_printedSign_1) := goodIn_app (goodIn_of _ (by decide +kernel)) (goodIn_sub (v_sub (fun w h => List.mem_cons_of_mem _ (List.mem_append_right _ (List.mem_append_left _ (h))))) (by decide +kernel))
set_option maxHeartbeats 8000000 in
set_option maxRecDepth 100000 in
theorem k_X11_printed (l : Launch) (dC : Nat → ClassId) (dI : Nat → Nat → Nat) (sz : Nat) (h0 : Nat) (ad : Nat → Nat) (p0 : Int32) (p1 : Int32) : Met l yX11_printed vw_k_X11_printed ({ frames := 1, cells := 0, slots := 0, locals := 22 }) (va_Pc [.ref h0, .int p0, .int p1] (fun U => U.heap.size = sz ∧ va_P (dC, dI) vwCl [(h0, .inr (13, [.ref (ad 0), .int 0, .int 0, .ref (ad 1), .ref (ad 2), .ref (ad 3), .ref (ad 4), .ref (ad 5), .ref (ad 6)])), ((ad 5), .inr (6, [.ref (ad 2), .ref (ad 1), .ref (ad 40), .int 0, .int 0, .ref (ad 41), .int 0, .int 0, .ref (ad 42), .int 0, .ref (ad 43), .int 0, .ref (ad 44), .int 0, .int 0, .int 0]))] U.heap ∧ va_K (dC, dI) vwCl [] U ∧ va_D (fun _ => True) [(h0, .inr (13, [.ref (ad 0), .int 0, .int 0, .ref (ad 1), .ref (ad 2), .ref (ad 3), .ref (ad 4), .ref (ad 5), .ref (ad 6)])), ((ad 5), .inr (6, [.ref (ad 2), .ref (ad 1), .ref (ad 40), .int 0, .int 0, .ref (ad 41), .int 0, .int 0, .ref (ad 42), .int 0, .ref (ad 43), .int 0, .ref (ad 44), .int 0, .int 0, .int 0]))])) (va_Qi (fun (r : Int32) (_ : Unit) => r = (-1)) (fun _ _ => True) (va_A [(h0, .inr (13, [.ref (ad 0), .int 0, .int 0, .ref (ad 1), .ref (ad 2), .ref (ad 3), .ref (ad 4), .ref (ad 5), .ref (ad 6)])), ((ad 5), .inr (6, [.ref (ad 2), .ref (ad 1), .ref (ad 40), .int 0, .int 0, .ref (ad 41), .int 0, .int 0, .ref (ad 42), .int 0, .ref (ad 43), .int 0, .ref (ad 44), .int 0, .int 0, .int 0]))] sz)) 0 0 (va_A [(h0, .inr (13, [.ref (ad 0), .int 0, .int 0, .ref (ad 1), .ref (ad 2), .ref (ad 3), .ref (ad 4), .ref (ad 5), .ref (ad 6)])), ((ad 5), .inr (6, [.ref (ad 2), .ref (ad 1), .ref (ad 40), .int 0, .int 0, .ref (ad 41), .int 0, .int 0, .ref (ad 42), .int 0, .ref (ad 43), .int 0, .ref (ad 44), .int 0, .int 0, .int 0]))] sz) := by
  refine Met.ofW (cc := cX11_printed) (maxL := 3) (ret := (some .int)) (by decide) rfl ?_
  intro p e s m args below meth c s₁ B hml hv
  obtain ⟨rfl, hsz, hP, hK, hD0⟩ := hv
  have hx := B.exec
  have hb := B.bytes
  have hr := B.returns
  have hts := atoms_spec (ws := vw_k_X11_printed) B.pre
  have hown : s.vm.findClass RX11 = some m.cls := findClass_of_methodNamed B.named
  have hlocks := B.notSynchronized
  subst hsz
  have hD := hD0.self (sz := s.heap.size)
  generalize hAe : va_A [(h0, .inr (13, [.ref (ad 0), .int 0, .int 0, .ref (ad 1), .ref (ad 2), .ref (ad 3), .ref (ad 4), .ref (ad 5), .ref (ad 6)])), ((ad 5), .inr (6, [.ref (ad 2), .ref (ad 1), .ref (ad 40), .int 0, .int 0, .ref (ad 41), .int 0, .int 0, .ref (ad 42), .int 0, .ref (ad 43), .int 0, .ref (ad 44), .int 0, .int 0, .int 0]))] s.heap.size = A at hD ⊢
  have hA : ∀ q : Nat, s.heap.size ≤ q → A q := fun q h => by rw [← hAe]; exact Or.inr h
  have hS : va_S A s.heap s.heap [] := va_S.rf
  have hP : va_P (dC, dI) vwCl [(h0, .inr (13, [.ref (ad 0), .int 0, .int 0, .ref (ad 1), .ref (ad 2), .ref (ad 3), .ref (ad 4), .ref (ad 5), .ref (ad 6)])), ((ad 5), .inr (6, [.ref (ad 2), .ref (ad 1), .ref (ad 40), .int 0, .int 0, .ref (ad 41), .int 0, .int 0, .ref (ad 42), .int 0, .ref (ad 43), .int 0, .ref (ad 44), .int 0, .int 0, .int 0]))] s.heap := hP
  have hl := lv_entry ([.ref h0, .int p0, .int p1]) (n := 3) (Nat.le_of_ble_eq_true rfl)
  rw [lg_entry_eq]
  generalize (lg_sl ([.ref h0, .int p0, .int p1]) ++ List.replicate (3 - (lg_sl ([.ref h0, .int p0, .int p1])).length) Slot.unset).toArray = ls at hl ⊢
  have hl : lv_has ls 3 [(0, .ref h0), (1, .int p0), (2, .int p1)] := hl
  have hwX11 : ∀ w ∈ wsX110, w ∈ vw_k_X11_printed := (fun w h => List.mem_append_right _ (List.mem_append_right _ (List.mem_append_right _ (List.mem_append_right _ (List.mem_append_right _ (List.mem_append_right _ (List.mem_append_right _ (List.mem_append_right _ (List.mem_append_right _ (List.mem_append_right _ (List.mem_append_right _ (List.mem_append_right _ h))))))))))))
  refine lv_aload_n hx hb dX11_printed_0 rfl (lv_at hl 0 rfl) ?_
  refine va_get (D := (dC, dI)) (ci := 13) (v := .ref (ad 5)) (C := RX11) (T := TX11) (N := 9) hx hb hts hwX11 hown hK hP 0 rfl rfl 7 (Nat.le_of_ble_eq_true rfl) (hts (.fieldLink RX11 50 "ScriptTypes" "machine" "LScriptTypes$Machine;") (List.mem_of_getElem? (i := 1) (by decide +kernel))) (fun _ h9 => h9) rfl dX11_printed_1 ?_
  refine lv_iload_n hx hb dX11_printed_4 rfl (lv_at hl 1 rfl) ?_
  refine lv_iload_n hx hb dX11_printed_5 rfl (lv_at hl 2 rfl) ?_
  have hPc := hP.sub (ws' := [((ad 5), .inr (6, [.ref (ad 2), .ref (ad 1), .ref (ad 40), .int 0, .int 0, .ref (ad 41), .int 0, .int 0, .ref (ad 42), .int 0, .ref (ad 43), .int 0, .ref (ad 44), .int 0, .int 0, .int 0]))]) [1] rfl
  have hDc := hD.sub (ws' := [((ad 5), .inr (6, [.ref (ad 2), .ref (ad 1), .ref (ad 40), .int 0, .int 0, .ref (ad 41), .int 0, .int 0, .ref (ad 42), .int 0, .ref (ad 43), .int 0, .ref (ad 44), .int 0, .int 0, .int 0]))]) [1] (by decide) rfl
  have hKc := hK.sub (tys' := []) [] rfl
  have hFc := va_free (wc := [((ad 5), .inr (6, [.ref (ad 2), .ref (ad 1), .ref (ad 40), .int 0, .int 0, .ref (ad 41), .int 0, .int 0, .ref (ad 42), .int 0, .ref (ad 43), .int 0, .ref (ad 44), .int 0, .int 0, .int 0]))]) hD hS hA [1] rfl
  refine va_calli (va_runV (As := [.int p0, .int p1]) (rest := []) ⟨hx, hb, hml, hown, hts⟩ (a_X4_printedSign_1 l dC dI s.heap.size ad p0 p1) (cwV 2 hts vg_k_X11_printed_a_X4_printedSign_1 rfl rfl rfl (by decide +kernel) ⟨Nat.le_of_ble_eq_true rfl, Nat.le_of_ble_eq_true rfl⟩) ⟨fun a U g mk q => by obtain ⟨q0, q1, qP, qK, qD⟩ := q; exact ⟨q0, q1, qP, va_K.moved (u := U) (U := U.calling g mk a) (Vm.Alike.refl U.vm) qK, qD⟩, va_recv hKc hPc (ci := 6) (q0 := 0) rfl rfl, fun U hU hW => ⟨rfl, by rw [hU], by rw [hU]; exact hPc, va_K.moved hW.alike hKc, hDc.weaken (fun _ _ _ _ => trivial)⟩⟩ rfl rfl hl.1 rfl (lv_room (Nat.le_of_ble_eq_true rfl)) dX11_printed_6 ⟨Nat.le_of_ble_eq_true rfl, Nat.le_of_ble_eq_true rfl⟩) hS (fun q _ h => hFc q h) hFc (fun r_1 u t H1 locs ht hvm hw hB hz1 hk1 hS => ?_)
  obtain ⟨_, _, _⟩ := u
  obtain ⟨hP1, hK1, hD1⟩ := hB
  rw [ht] at hP1
  have hK1 := va_K.moved hvm.symm hK1
  try dsimp only at hw
  obtain ⟨hP, hD⟩ := va_join (wr := [(h0, .inr (13, [.ref (ad 0), .int 0, .int 0, .ref (ad 1), .ref (ad 2), .ref (ad 3), .ref (ad 4), .ref (ad 5), .ref (ad 6)]))]) (w1 := [((ad 5), .inr (6, [.ref (ad 2), .ref (ad 1), .ref (ad 40), .int 0, .int 0, .ref (ad 41), .int 0, .int 0, .ref (ad 42), .int 0, .ref (ad 43), .int 0, .ref (ad 44), .int 0, .int 0, .int 0]))]) hP hD [1] [0] rfl rfl (by decide) (by decide) hk1 hFc hP1 hD1
  generalize H1 = H at hP hS ⊢
  have hP : va_P (dC, dI) vwCl [(h0, .inr (13, [.ref (ad 0), .int 0, .int 0, .ref (ad 1), .ref (ad 2), .ref (ad 3), .ref (ad 4), .ref (ad 5), .ref (ad 6)])), ((ad 5), .inr (6, [.ref (ad 2), .ref (ad 1), .ref (ad 40), .int 0, .int 0, .ref (ad 41), .int 0, .int 0, .ref (ad 42), .int 0, .ref (ad 43), .int 0, .ref (ad 44), .int 0, .int 0, .int 0]))] H := hP
  have hD : va_D A [(h0, .inr (13, [.ref (ad 0), .int 0, .int 0, .ref (ad 1), .ref (ad 2), .ref (ad 3), .ref (ad 4), .ref (ad 5), .ref (ad 6)])), ((ad 5), .inr (6, [.ref (ad 2), .ref (ad 1), .ref (ad 40), .int 0, .int 0, .ref (ad 41), .int 0, .int 0, .ref (ad 42), .int 0, .ref (ad 43), .int 0, .ref (ad 44), .int 0, .int 0, .int 0]))] := hD
  obtain rfl : r_1 = (-1) := hw
  exact W.iret (v := (-1)) hx hb hr (fun t ht hW => ⟨⟨(-1), (), rfl, rfl, trivial⟩, hS.F ht⟩) hS.2.2 dX11_printed_9

def vb_a_X4_uncaughtFact_1 : List Cond := .code yX4_uncaughtFact cX4_uncaughtFact 2 (some .int) :: ([.fieldLink RX4 40 "ScriptTypes$Machine" "state" "I"] ++ [])
def vw_a_X4_uncaughtFact_1 : List Cond := vb_a_X4_uncaughtFact_1 ++ wsAll
set_option maxHeartbeats 8000000 in
set_option maxRecDepth 100000 in
theorem a_X4_uncaughtFact_1 (l : Launch) (dC : Nat → ClassId) (dI : Nat → Nat → Nat) (sz : Nat) (ad : Nat → Nat) (p0 : Int32) : Met l yX4_uncaughtFact vw_a_X4_uncaughtFact_1 ({ frames := 0, cells := 0, slots := 0, locals := 0 }) (va_Pc [.ref (ad 5), .int p0] (fun U => U.heap.size = sz ∧ va_P (dC, dI) vwCl [((ad 5), .inr (6, [.ref (ad 2), .ref (ad 1), .ref (ad 40), .int 0, .int 0, .ref (ad 41), .int 0, .int 0, .ref (ad 42), .int 0, .ref (ad 43), .int 0, .ref (ad 44), .int 0, .int 0, .int 0]))] U.heap ∧ va_K (dC, dI) vwCl [] U ∧ va_D (fun _ => True) [((ad 5), .inr (6, [.ref (ad 2), .ref (ad 1), .ref (ad 40), .int 0, .int 0, .ref (ad 41), .int 0, .int 0, .ref (ad 42), .int 0, .ref (ad 43), .int 0, .ref (ad 44), .int 0, .int 0, .int 0]))])) (va_Qi (fun (r : Int32) (u : (Nat → Nat) × (Nat → ClassId) × (Nat → Nat → Int32)) => r = (-1)) (fun (u : (Nat → Nat) × (Nat → ClassId) × (Nat → Nat → Int32)) t => va_P (dC, dI) vwCl [((ad 5), .inr (6, [.ref (ad 2), .ref (ad 1), .ref (ad 40), .int 0, .int 0, .ref (ad 41), .int 0, .int 0, .ref (ad 42), .int 0, .ref (ad 43), .int 0, .ref (ad 44), .int 0, .int 0, .int 0]))] t.heap ∧ va_K (dC, dI) vwCl [] t ∧ va_D (va_A [((ad 5), .inr (6, [.ref (ad 2), .ref (ad 1), .ref (ad 40), .int 0, .int 0, .ref (ad 41), .int 0, .int 0, .ref (ad 42), .int 0, .ref (ad 43), .int 0, .ref (ad 44), .int 0, .int 0, .int 0]))] sz) [((ad 5), .inr (6, [.ref (ad 2), .ref (ad 1), .ref (ad 40), .int 0, .int 0, .ref (ad 41), .int 0, .int 0, .ref (ad 42), .int 0, .ref (ad 43), .int 0, .ref (ad 44), .int 0, .int 0, .int 0]))]) (va_A [((ad 5), .inr (6, [.ref (ad 2), .ref (ad 1), .ref (ad 40), .int 0, .int 0, .ref (ad 41), .int 0, .int 0, .ref (ad 42), .int 0, .ref (ad 43), .int 0, .ref (ad 44), .int 0, .int 0, .int 0]))] sz)) 0 0 (va_A [((ad 5), .inr (6, [.ref (ad 2), .ref (ad 1), .ref (ad 40), .int 0, .int 0, .ref (ad 41), .int 0, .int 0, .ref (ad 42), .int 0, .ref (ad 43), .int 0, .ref (ad 44), .int 0, .int 0, .int 0]))] sz) := by
  refine Met.ofW (cc := cX4_uncaughtFact) (maxL := 2) (ret := (some .int)) (by decide) rfl ?_
  intro p e s m args below meth c s₁ B hml hv
  obtain ⟨rfl, hsz, hP, hK, hD0⟩ := hv
  have hx := B.exec
  have hb := B.bytes
  have hr := B.returns
  have hts := atoms_spec (ws := vw_a_X4_uncaughtFact_1) B.pre
  have hown : s.vm.findClass RX4 = some m.cls := findClass_of_methodNamed B.named
  have hlocks := B.notSynchronized
  subst hsz
  have hD := hD0.self (sz := s.heap.size)
  generalize hAe : va_A [((ad 5), .inr (6, [.ref (ad 2), .ref (ad 1), .ref (ad 40), .int 0, .int 0, .ref (ad 41), .int 0, .int 0, .ref (ad 42), .int 0, .ref (ad 43), .int 0, .ref (ad 44), .int 0, .int 0, .int 0]))] s.heap.size = A at hD ⊢
  have hA : ∀ q : Nat, s.heap.size ≤ q → A q := fun q h => by rw [← hAe]; exact Or.inr h
  have hS : va_S A s.heap s.heap [] := va_S.rf
  have hP : va_P (dC, dI) vwCl [((ad 5), .inr (6, [.ref (ad 2), .ref (ad 1), .ref (ad 40), .int 0, .int 0, .ref (ad 41), .int 0, .int 0, .ref (ad 42), .int 0, .ref (ad 43), .int 0, .ref (ad 44), .int 0, .int 0, .int 0]))] s.heap := hP
  have hl := lv_entry ([.ref (ad 5), .int p0]) (n := 2) (Nat.le_of_ble_eq_true rfl)
  rw [lg_entry_eq]
  generalize (lg_sl ([.ref (ad 5), .int p0]) ++ List.replicate (2 - (lg_sl ([.ref (ad 5), .int p0])).length) Slot.unset).toArray = ls at hl ⊢
  have hl : lv_has ls 2 [(0, .ref (ad 5)), (1, .int p0)] := hl
  have hwX4 : ∀ w ∈ wsX40, w ∈ vw_a_X4_uncaughtFact_1 := (fun w h => List.mem_append_right _ (List.mem_append_right _ (List.mem_append_right _ (List.mem_append_right _ (List.mem_append_right _ (List.mem_append_left _ h))))))
  refine lv_aload_n hx hb dX4_uncaughtFact_0 rfl (lv_at hl 0 rfl) ?_
  refine va_get (D := (dC, dI)) (ci := 6) (v := .int 0) (C := RX4) (T := TX4) (N := 16) hx hb hts hwX4 hown hK hP 0 rfl rfl 3 (Nat.le_of_ble_eq_true rfl) (hts (.fieldLink RX4 40 "ScriptTypes$Machine" "state" "I") (List.mem_of_getElem? (i := 1) (by decide +kernel))) (fun _ h9 => h9) rfl dX4_uncaughtFact_1 ?_
  refine lv_iconst (v := 3) hx hb dX4_uncaughtFact_4 (by decide) ?_
  refine lv_icmp_ne (tgt := 24) hx hb dX4_uncaughtFact_5 (by decide) (fun _ => ?_) (fun c1_5 => absurd c1_5 (by decide))
  refine lv_iconst (v := (-1)) hx hb dX4_uncaughtFact_24 (by decide) ?_
  refine W.widen (k := 0) (n := 0) (Nat.le_of_ble_eq_true rfl) (Nat.le_of_ble_eq_true rfl) ?_
  exact W.iret (v := (-1)) hx hb hr (fun t ht hW => ⟨⟨(-1), (fun n => ([] : List Nat).getD n 0, fun n => ([] : List ClassId).getD n 0, fun n => ([] : List (Nat → Int32)).getD n (fun _ => 0)), rfl, rfl, by rw [ht]; exact hP, va_K.moved hW.alike hK, hD⟩, hS.F ht⟩) hS.2.2 dX4_uncaughtFact_25

def vb_k_X11_uncaught : List Cond := .code yX11_uncaught cX11_uncaught 2 (some .int) :: ([.fieldLink RX11 50 "ScriptTypes" "machine" "LScriptTypes$Machine;", .methodLink RX11 156 yX4_uncaughtFact, .instanceMethod yX4_uncaughtFact, .selects RX4 yX4_uncaughtFact yX4_uncaughtFact, .initialized RX4] ++ (vb_a_X4_uncaughtFact_1 ++ []))
def vw_k_X11_uncaught : List Cond := vb_k_X11_uncaught ++ wsAll
set_option maxRecDepth 20000 in
theorem vg_k_X11_uncaught_a_X4_uncaughtFact_1 : GoodIn vw_k_X11_uncaught (wsV RX11 156 RX4 yX4_uncaughtFact vw_a_X4_uncaughtFact_1) := goodIn_app (goodIn_of _ (by decide +kernel)) (goodIn_sub (v_sub (fun w h => List.mem_cons_of_mem _ (List.mem_append_right _ (List.mem_append_left _ (h))))) (by decide +kernel))
set_option maxHeartbeats 8000000 in
set_option maxRecDepth 100000 in
theorem k_X11_uncaught (l : Launch) (dC : Nat → ClassId) (dI : Nat → Nat → Nat) (sz : Nat) (h0 : Nat) (ad : Nat → Nat) (p0 : Int32) : Met l yX11_uncaught vw_k_X11_uncaught ({ frames := 1, cells := 0, slots := 0, locals := 21 }) (va_Pc [.ref h0, .int p0] (fun U => U.heap.size = sz ∧ va_P (dC, dI) vwCl [(h0, .inr (13, [.ref (ad 0), .int 0, .int 0, .ref (ad 1), .ref (ad 2), .ref (ad 3), .ref (ad 4), .ref (ad 5), .ref (ad 6)])), ((ad 5), .inr (6, [.ref (ad 2), .ref (ad 1), .ref (ad 40), .int 0, .int 0, .ref (ad 41), .int 0, .int 0, .ref (ad 42), .int 0, .ref (ad 43), .int 0, .ref (ad 44), .int 0, .int 0, .int 0]))] U.heap ∧ va_K (dC, dI) vwCl [] U ∧ va_D (fun _ => True) [(h0, .inr (13, [.ref (ad 0), .int 0, .int 0, .ref (ad 1), .ref (ad 2), .ref (ad 3), .ref (ad 4), .ref (ad 5), .ref (ad 6)])), ((ad 5), .inr (6, [.ref (ad 2), .ref (ad 1), .ref (ad 40), .int 0, .int 0, .ref (ad 41), .int 0, .int 0, .ref (ad 42), .int 0, .ref (ad 43), .int 0, .ref (ad 44), .int 0, .int 0, .int 0]))])) (va_Qi (fun (r : Int32) (_ : Unit) => r = (-1)) (fun _ _ => True) (va_A [(h0, .inr (13, [.ref (ad 0), .int 0, .int 0, .ref (ad 1), .ref (ad 2), .ref (ad 3), .ref (ad 4), .ref (ad 5), .ref (ad 6)])), ((ad 5), .inr (6, [.ref (ad 2), .ref (ad 1), .ref (ad 40), .int 0, .int 0, .ref (ad 41), .int 0, .int 0, .ref (ad 42), .int 0, .ref (ad 43), .int 0, .ref (ad 44), .int 0, .int 0, .int 0]))] sz)) 0 0 (va_A [(h0, .inr (13, [.ref (ad 0), .int 0, .int 0, .ref (ad 1), .ref (ad 2), .ref (ad 3), .ref (ad 4), .ref (ad 5), .ref (ad 6)])), ((ad 5), .inr (6, [.ref (ad 2), .ref (ad 1), .ref (ad 40), .int 0, .int 0, .ref (ad 41), .int 0, .int 0, .ref (ad 42), .int 0, .ref (ad 43), .int 0, .ref (ad 44), .int 0, .int 0, .int 0]))] sz) := by
  refine Met.ofW (cc := cX11_uncaught) (maxL := 2) (ret := (some .int)) (by decide) rfl ?_
  intro p e s m args below meth c s₁ B hml hv
  obtain ⟨rfl, hsz, hP, hK, hD0⟩ := hv
  have hx := B.exec
  have hb := B.bytes
  have hr := B.returns
  have hts := atoms_spec (ws := vw_k_X11_uncaught) B.pre
  have hown : s.vm.findClass RX11 = some m.cls := findClass_of_methodNamed B.named
  have hlocks := B.notSynchronized
  subst hsz
  have hD := hD0.self (sz := s.heap.size)
  generalize hAe : va_A [(h0, .inr (13, [.ref (ad 0), .int 0, .int 0, .ref (ad 1), .ref (ad 2), .ref (ad 3), .ref (ad 4), .ref (ad 5), .ref (ad 6)])), ((ad 5), .inr (6, [.ref (ad 2), .ref (ad 1), .ref (ad 40), .int 0, .int 0, .ref (ad 41), .int 0, .int 0, .ref (ad 42), .int 0, .ref (ad 43), .int 0, .ref (ad 44), .int 0, .int 0, .int 0]))] s.heap.size = A at hD ⊢
  have hA : ∀ q : Nat, s.heap.size ≤ q → A q := fun q h => by rw [← hAe]; exact Or.inr h
  have hS : va_S A s.heap s.heap [] := va_S.rf
  have hP : va_P (dC, dI) vwCl [(h0, .inr (13, [.ref (ad 0), .int 0, .int 0, .ref (ad 1), .ref (ad 2), .ref (ad 3), .ref (ad 4), .ref (ad 5), .ref (ad 6)])), ((ad 5), .inr (6, [.ref (ad 2), .ref (ad 1), .ref (ad 40), .int 0, .int 0, .ref (ad 41), .int 0, .int 0, .ref (ad 42), .int 0, .ref (ad 43), .int 0, .ref (ad 44), .int 0, .int 0, .int 0]))] s.heap := hP
  have hl := lv_entry ([.ref h0, .int p0]) (n := 2) (Nat.le_of_ble_eq_true rfl)
  rw [lg_entry_eq]
  generalize (lg_sl ([.ref h0, .int p0]) ++ List.replicate (2 - (lg_sl ([.ref h0, .int p0])).length) Slot.unset).toArray = ls at hl ⊢
  have hl : lv_has ls 2 [(0, .ref h0), (1, .int p0)] := hl
  have hwX11 : ∀ w ∈ wsX110, w ∈ vw_k_X11_uncaught := (fun w h => List.mem_append_right _ (List.mem_append_right _ (List.mem_append_right _ (List.mem_append_right _ (List.mem_append_right _ (List.mem_append_right _ (List.mem_append_right _ (List.mem_append_right _ (List.mem_append_right _ (List.mem_append_right _ (List.mem_append_right _ (List.mem_append_right _ h))))))))))))
  refine lv_aload_n hx hb dX11_uncaught_0 rfl (lv_at hl 0 rfl) ?_
  refine va_get (D := (dC, dI)) (ci := 13) (v := .ref (ad 5)) (C := RX11) (T := TX11) (N := 9) hx hb hts hwX11 hown hK hP 0 rfl rfl 7 (Nat.le_of_ble_eq_true rfl) (hts (.fieldLink RX11 50 "ScriptTypes" "machine" "LScriptTypes$Machine;") (List.mem_of_getElem? (i := 1) (by decide +kernel))) (fun _ h9 => h9) rfl dX11_uncaught_1 ?_
  refine lv_iload_n hx hb dX11_uncaught_4 rfl (lv_at hl 1 rfl) ?_
  have hPc := hP.sub (ws' := [((ad 5), .inr (6, [.ref (ad 2), .ref (ad 1), .ref (ad 40), .int 0, .int 0, .ref (ad 41), .int 0, .int 0, .ref (ad 42), .int 0, .ref (ad 43), .int 0, .ref (ad 44), .int 0, .int 0, .int 0]))]) [1] rfl
  have hDc := hD.sub (ws' := [((ad 5), .inr (6, [.ref (ad 2), .ref (ad 1), .ref (ad 40), .int 0, .int 0, .ref (ad 41), .int 0, .int 0, .ref (ad 42), .int 0, .ref (ad 43), .int 0, .ref (ad 44), .int 0, .int 0, .int 0]))]) [1] (by decide) rfl
  have hKc := hK.sub (tys' := []) [] rfl
  have hFc := va_free (wc := [((ad 5), .inr (6, [.ref (ad 2), .ref (ad 1), .ref (ad 40), .int 0, .int 0, .ref (ad 41), .int 0, .int 0, .ref (ad 42), .int 0, .ref (ad 43), .int 0, .ref (ad 44), .int 0, .int 0, .int 0]))]) hD hS hA [1] rfl
  refine va_calli (va_runV (As := [.int p0]) (rest := []) ⟨hx, hb, hml, hown, hts⟩ (a_X4_uncaughtFact_1 l dC dI s.heap.size ad p0) (cwV 1 hts vg_k_X11_uncaught_a_X4_uncaughtFact_1 rfl rfl rfl (by decide +kernel) ⟨Nat.le_of_ble_eq_true rfl, Nat.le_of_ble_eq_true rfl⟩) ⟨fun a U g mk q => by obtain ⟨q0, q1, qP, qK, qD⟩ := q; exact ⟨q0, q1, qP, va_K.moved (u := U) (U := U.calling g mk a) (Vm.Alike.refl U.vm) qK, qD⟩, va_recv hKc hPc (ci := 6) (q0 := 0) rfl rfl, fun U hU hW => ⟨rfl, by rw [hU], by rw [hU]; exact hPc, va_K.moved hW.alike hKc, hDc.weaken (fun _ _ _ _ => trivial)⟩⟩ rfl rfl hl.1 rfl (lv_room (Nat.le_of_ble_eq_true rfl)) dX11_uncaught_5 ⟨Nat.le_of_ble_eq_true rfl, Nat.le_of_ble_eq_true rfl⟩) hS (fun q _ h => hFc q h) hFc (fun r_1 u t H1 locs ht hvm hw hB hz1 hk1 hS => ?_)
  obtain ⟨_, _, _⟩ := u
  obtain ⟨hP1, hK1, hD1⟩ := hB
  rw [ht] at hP1
  have hK1 := va_K.moved hvm.symm hK1
  try dsimp only at hw
  obtain ⟨hP, hD⟩ := va_join (wr := [(h0, .inr (13, [.ref (ad 0), .int 0, .int 0, .ref (ad 1), .ref (ad 2), .ref (ad 3), .ref (ad 4), .ref (ad 5), .ref (ad 6)]))]) (w1 := [((ad 5), .inr (6, [.ref (ad 2), .ref (ad 1), .ref (ad 40), .int 0, .int 0, .ref (ad 41), .int 0, .int 0, .ref (ad 42), .int 0, .ref (ad 43), .int 0, .ref (ad 44), .int 0, .int 0, .int 0]))]) hP hD [1] [0] rfl rfl (by decide) (by decide) hk1 hFc hP1 hD1
  generalize H1 = H at hP hS ⊢
  have hP : va_P (dC, dI) vwCl [(h0, .inr (13, [.ref (ad 0), .int 0, .int 0, .ref (ad 1), .ref (ad 2), .ref (ad 3), .ref (ad 4), .ref (ad 5), .ref (ad 6)])), ((ad 5), .inr (6, [.ref (ad 2), .ref (ad 1), .ref (ad 40), .int 0, .int 0, .ref (ad 41), .int 0, .int 0, .ref (ad 42), .int 0, .ref (ad 43), .int 0, .ref (ad 44), .int 0, .int 0, .int 0]))] H := hP
  have hD : va_D A [(h0, .inr (13, [.ref (ad 0), .int 0, .int 0, .ref (ad 1), .ref (ad 2), .ref (ad 3), .ref (ad 4), .ref (ad 5), .ref (ad 6)])), ((ad 5), .inr (6, [.ref (ad 2), .ref (ad 1), .ref (ad 40), .int 0, .int 0, .ref (ad 41), .int 0, .int 0, .ref (ad 42), .int 0, .ref (ad 43), .int 0, .ref (ad 44), .int 0, .int 0, .int 0]))] := hD
  obtain rfl : r_1 = (-1) := hw
  exact W.iret (v := (-1)) hx hb hr (fun t ht hW => ⟨⟨(-1), (), rfl, rfl, trivial⟩, hS.F ht⟩) hS.2.2 dX11_uncaught_8

def vb_a_X8_isReached_1 : List Cond := .code yX8_isReached cX8_isReached 2 (some .boolean) :: ([.fieldLink RX8 82 "ScriptTypes$Solve\x72" "solved" "Z"] ++ [])
def vw_a_X8_isReached_1 : List Cond := vb_a_X8_isReached_1 ++ wsAll
set_option maxHeartbeats 8000000 in
set_option maxRecDepth 100000 in
theorem a_X8_isReached_1 (l : Launch) (dC : Nat → ClassId) (dI : Nat → Nat → Nat) (sz : Nat) (ad : Nat → Nat) (p0 : Int32) : Met l yX8_isReached vw_a_X8_isReached_1 ({ frames := 0, cells := 0, slots := 0, locals := 0 }) (va_Pc [.ref (ad 6), .int p0] (fun U => U.heap.size = sz ∧ va_P (dC, dI) vwCl [((ad 6), .inr (10, [.ref (ad 2), .ref (ad 1), .ref (ad 48), .ref (ad 49), .ref (ad 50), .ref (ad 51), .ref (ad 52), .int 0, .ref (ad 53), .ref (ad 54), .int 0, .int 0, .int 0, .ref (ad 55), .ref (ad 56), .ref (ad 57), .ref (ad 58), .ref (ad 59), .ref (ad 60), .ref (ad 61), .ref (ad 62)]))] U.heap ∧ va_K (dC, dI) vwCl [] U ∧ va_D (fun _ => True) [((ad 6), .inr (10, [.ref (ad 2), .ref (ad 1), .ref (ad 48), .ref (ad 49), .ref (ad 50), .ref (ad 51), .ref (ad 52), .int 0, .ref (ad 53), .ref (ad 54), .int 0, .int 0, .int 0, .ref (ad 55), .ref (ad 56), .ref (ad 57), .ref (ad 58), .ref (ad 59), .ref (ad 60), .ref (ad 61), .ref (ad 62)]))])) (va_Qi (fun (r : Int32) (u : (Nat → Nat) × (Nat → ClassId) × (Nat → Nat → Int32)) => r = 0) (fun (u : (Nat → Nat) × (Nat → ClassId) × (Nat → Nat → Int32)) t => va_P (dC, dI) vwCl [((ad 6), .inr (10, [.ref (ad 2), .ref (ad 1), .ref (ad 48), .ref (ad 49), .ref (ad 50), .ref (ad 51), .ref (ad 52), .int 0, .ref (ad 53), .ref (ad 54), .int 0, .int 0, .int 0, .ref (ad 55), .ref (ad 56), .ref (ad 57), .ref (ad 58), .ref (ad 59), .ref (ad 60), .ref (ad 61), .ref (ad 62)]))] t.heap ∧ va_K (dC, dI) vwCl [] t ∧ va_D (va_A [((ad 6), .inr (10, [.ref (ad 2), .ref (ad 1), .ref (ad 48), .ref (ad 49), .ref (ad 50), .ref (ad 51), .ref (ad 52), .int 0, .ref (ad 53), .ref (ad 54), .int 0, .int 0, .int 0, .ref (ad 55), .ref (ad 56), .ref (ad 57), .ref (ad 58), .ref (ad 59), .ref (ad 60), .ref (ad 61), .ref (ad 62)]))] sz) [((ad 6), .inr (10, [.ref (ad 2), .ref (ad 1), .ref (ad 48), .ref (ad 49), .ref (ad 50), .ref (ad 51), .ref (ad 52), .int 0, .ref (ad 53), .ref (ad 54), .int 0, .int 0, .int 0, .ref (ad 55), .ref (ad 56), .ref (ad 57), .ref (ad 58), .ref (ad 59), .ref (ad 60), .ref (ad 61), .ref (ad 62)]))]) (va_A [((ad 6), .inr (10, [.ref (ad 2), .ref (ad 1), .ref (ad 48), .ref (ad 49), .ref (ad 50), .ref (ad 51), .ref (ad 52), .int 0, .ref (ad 53), .ref (ad 54), .int 0, .int 0, .int 0, .ref (ad 55), .ref (ad 56), .ref (ad 57), .ref (ad 58), .ref (ad 59), .ref (ad 60), .ref (ad 61), .ref (ad 62)]))] sz)) 0 0 (va_A [((ad 6), .inr (10, [.ref (ad 2), .ref (ad 1), .ref (ad 48), .ref (ad 49), .ref (ad 50), .ref (ad 51), .ref (ad 52), .int 0, .ref (ad 53), .ref (ad 54), .int 0, .int 0, .int 0, .ref (ad 55), .ref (ad 56), .ref (ad 57), .ref (ad 58), .ref (ad 59), .ref (ad 60), .ref (ad 61), .ref (ad 62)]))] sz) := by
  refine Met.ofW (cc := cX8_isReached) (maxL := 2) (ret := (some .boolean)) (by decide) rfl ?_
  intro p e s m args below meth c s₁ B hml hv
  obtain ⟨rfl, hsz, hP, hK, hD0⟩ := hv
  have hx := B.exec
  have hb := B.bytes
  have hr := B.returns
  have hts := atoms_spec (ws := vw_a_X8_isReached_1) B.pre
  have hown : s.vm.findClass RX8 = some m.cls := findClass_of_methodNamed B.named
  have hlocks := B.notSynchronized
  subst hsz
  have hD := hD0.self (sz := s.heap.size)
  generalize hAe : va_A [((ad 6), .inr (10, [.ref (ad 2), .ref (ad 1), .ref (ad 48), .ref (ad 49), .ref (ad 50), .ref (ad 51), .ref (ad 52), .int 0, .ref (ad 53), .ref (ad 54), .int 0, .int 0, .int 0, .ref (ad 55), .ref (ad 56), .ref (ad 57), .ref (ad 58), .ref (ad 59), .ref (ad 60), .ref (ad 61), .ref (ad 62)]))] s.heap.size = A at hD ⊢
  have hA : ∀ q : Nat, s.heap.size ≤ q → A q := fun q h => by rw [← hAe]; exact Or.inr h
  have hS : va_S A s.heap s.heap [] := va_S.rf
  have hP : va_P (dC, dI) vwCl [((ad 6), .inr (10, [.ref (ad 2), .ref (ad 1), .ref (ad 48), .ref (ad 49), .ref (ad 50), .ref (ad 51), .ref (ad 52), .int 0, .ref (ad 53), .ref (ad 54), .int 0, .int 0, .int 0, .ref (ad 55), .ref (ad 56), .ref (ad 57), .ref (ad 58), .ref (ad 59), .ref (ad 60), .ref (ad 61), .ref (ad 62)]))] s.heap := hP
  have hl := lv_entry ([.ref (ad 6), .int p0]) (n := 2) (Nat.le_of_ble_eq_true rfl)
  rw [lg_entry_eq]
  generalize (lg_sl ([.ref (ad 6), .int p0]) ++ List.replicate (2 - (lg_sl ([.ref (ad 6), .int p0])).length) Slot.unset).toArray = ls at hl ⊢
  have hl : lv_has ls 2 [(0, .ref (ad 6)), (1, .int p0)] := hl
  have hwX8 : ∀ w ∈ wsX80, w ∈ vw_a_X8_isReached_1 := (fun w h => List.mem_append_right _ (List.mem_append_right _ (List.mem_append_right _ (List.mem_append_right _ (List.mem_append_right _ (List.mem_append_right _ (List.mem_append_right _ (List.mem_append_right _ (List.mem_append_right _ (List.mem_append_left _ h))))))))))
  refine lv_aload_n hx hb dX8_isReached_0 rfl (lv_at hl 0 rfl) ?_
  refine va_get (D := (dC, dI)) (ci := 10) (v := .int 0) (C := RX8) (T := TX8) (N := 21) hx hb hts hwX8 hown hK hP 0 rfl rfl 10 (Nat.le_of_ble_eq_true rfl) (hts (.fieldLink RX8 82 "ScriptTypes$Solve\x72" "solved" "Z") (List.mem_of_getElem? (i := 1) (by decide +kernel))) (fun _ h9 => h9) rfl dX8_isReached_1 ?_
  refine lv_if_eq (tgt := 35) hx hb dX8_isReached_4 (by decide) (fun _ => ?_) (fun c1_4 => absurd (by decide) c1_4)
  refine lv_iconst (v := 0) hx hb dX8_isReached_35 (by decide) ?_
  refine W.widen (k := 0) (n := 0) (Nat.le_of_ble_eq_true rfl) (Nat.le_of_ble_eq_true rfl) ?_
  exact W.zret (v := 0) hx hb hr rfl (fun t ht hW => ⟨⟨0, (fun n => ([] : List Nat).getD n 0, fun n => ([] : List ClassId).getD n 0, fun n => ([] : List (Nat → Int32)).getD n (fun _ => 0)), rfl, rfl, by rw [ht]; exact hP, va_K.moved hW.alike hK, hD⟩, hS.F ht⟩) hS.2.2 dX8_isReached_36

def vb_k_X11_height : List Cond := .code yX11_height cX11_height 2 (some .int) :: ([.fieldLink RX11 57 "ScriptTypes" "solve\x72" "LScriptTypes$Solver;", .methodLink RX11 165 yX8_isReached, .instanceMethod yX8_isReached, .selects RX8 yX8_isReached yX8_isReached, .initialized RX8] ++ (vb_a_X8_isReached_1 ++ []))
def vw_k_X11_height : List Cond := vb_k_X11_height ++ wsAll
set_option maxRecDepth 20000 in
theorem vg_k_X11_height_a_X8_isReached_1 : GoodIn vw_k_X11_height (wsV RX11 165 RX8 yX8_isReached vw_a_X8_isReached_1) := goodIn_app (goodIn_of _ (by decide +kernel)) (goodIn_sub (v_sub (fun w h => List.mem_cons_of_mem _ (List.mem_append_right _ (List.mem_append_left _ (h))))) (by decide +kernel))
set_option maxHeartbeats 8000000 in
set_option maxRecDepth 100000 in
theorem k_X11_height (l : Launch) (dC : Nat → ClassId) (dI : Nat → Nat → Nat) (sz : Nat) (h0 : Nat) (ad : Nat → Nat) (p0 : Int32) : Met l yX11_height vw_k_X11_height ({ frames := 1, cells := 0, slots := 0, locals := 21 }) (va_Pc [.ref h0, .int p0] (fun U => U.heap.size = sz ∧ va_P (dC, dI) vwCl [(h0, .inr (13, [.ref (ad 0), .int 0, .int 0, .ref (ad 1), .ref (ad 2), .ref (ad 3), .ref (ad 4), .ref (ad 5), .ref (ad 6)])), ((ad 6), .inr (10, [.ref (ad 2), .ref (ad 1), .ref (ad 48), .ref (ad 49), .ref (ad 50), .ref (ad 51), .ref (ad 52), .int 0, .ref (ad 53), .ref (ad 54), .int 0, .int 0, .int 0, .ref (ad 55), .ref (ad 56), .ref (ad 57), .ref (ad 58), .ref (ad 59), .ref (ad 60), .ref (ad 61), .ref (ad 62)]))] U.heap ∧ va_K (dC, dI) vwCl [] U ∧ va_D (fun _ => True) [(h0, .inr (13, [.ref (ad 0), .int 0, .int 0, .ref (ad 1), .ref (ad 2), .ref (ad 3), .ref (ad 4), .ref (ad 5), .ref (ad 6)])), ((ad 6), .inr (10, [.ref (ad 2), .ref (ad 1), .ref (ad 48), .ref (ad 49), .ref (ad 50), .ref (ad 51), .ref (ad 52), .int 0, .ref (ad 53), .ref (ad 54), .int 0, .int 0, .int 0, .ref (ad 55), .ref (ad 56), .ref (ad 57), .ref (ad 58), .ref (ad 59), .ref (ad 60), .ref (ad 61), .ref (ad 62)]))])) (va_Qi (fun (r : Int32) (_ : Unit) => r = (-1)) (fun _ _ => True) (va_A [(h0, .inr (13, [.ref (ad 0), .int 0, .int 0, .ref (ad 1), .ref (ad 2), .ref (ad 3), .ref (ad 4), .ref (ad 5), .ref (ad 6)])), ((ad 6), .inr (10, [.ref (ad 2), .ref (ad 1), .ref (ad 48), .ref (ad 49), .ref (ad 50), .ref (ad 51), .ref (ad 52), .int 0, .ref (ad 53), .ref (ad 54), .int 0, .int 0, .int 0, .ref (ad 55), .ref (ad 56), .ref (ad 57), .ref (ad 58), .ref (ad 59), .ref (ad 60), .ref (ad 61), .ref (ad 62)]))] sz)) 0 0 (va_A [(h0, .inr (13, [.ref (ad 0), .int 0, .int 0, .ref (ad 1), .ref (ad 2), .ref (ad 3), .ref (ad 4), .ref (ad 5), .ref (ad 6)])), ((ad 6), .inr (10, [.ref (ad 2), .ref (ad 1), .ref (ad 48), .ref (ad 49), .ref (ad 50), .ref (ad 51), .ref (ad 52), .int 0, .ref (ad 53), .ref (ad 54), .int 0, .int 0, .int 0, .ref (ad 55), .ref (ad 56), .ref (ad 57), .ref (ad 58), .ref (ad 59), .ref (ad 60), .ref (ad 61), .ref (ad 62)]))] sz) := by
  refine Met.ofW (cc := cX11_height) (maxL := 2) (ret := (some .int)) (by decide) rfl ?_
  intro p e s m args below meth c s₁ B hml hv
  obtain ⟨rfl, hsz, hP, hK, hD0⟩ := hv
  have hx := B.exec
  have hb := B.bytes
  have hr := B.returns
  have hts := atoms_spec (ws := vw_k_X11_height) B.pre
  have hown : s.vm.findClass RX11 = some m.cls := findClass_of_methodNamed B.named
  have hlocks := B.notSynchronized
  subst hsz
  have hD := hD0.self (sz := s.heap.size)
  generalize hAe : va_A [(h0, .inr (13, [.ref (ad 0), .int 0, .int 0, .ref (ad 1), .ref (ad 2), .ref (ad 3), .ref (ad 4), .ref (ad 5), .ref (ad 6)])), ((ad 6), .inr (10, [.ref (ad 2), .ref (ad 1), .ref (ad 48), .ref (ad 49), .ref (ad 50), .ref (ad 51), .ref (ad 52), .int 0, .ref (ad 53), .ref (ad 54), .int 0, .int 0, .int 0, .ref (ad 55), .ref (ad 56), .ref (ad 57), .ref (ad 58), .ref (ad 59), .ref (ad 60), .ref (ad 61), .ref (ad 62)]))] s.heap.size = A at hD ⊢
  have hA : ∀ q : Nat, s.heap.size ≤ q → A q := fun q h => by rw [← hAe]; exact Or.inr h
  have hS : va_S A s.heap s.heap [] := va_S.rf
  have hP : va_P (dC, dI) vwCl [(h0, .inr (13, [.ref (ad 0), .int 0, .int 0, .ref (ad 1), .ref (ad 2), .ref (ad 3), .ref (ad 4), .ref (ad 5), .ref (ad 6)])), ((ad 6), .inr (10, [.ref (ad 2), .ref (ad 1), .ref (ad 48), .ref (ad 49), .ref (ad 50), .ref (ad 51), .ref (ad 52), .int 0, .ref (ad 53), .ref (ad 54), .int 0, .int 0, .int 0, .ref (ad 55), .ref (ad 56), .ref (ad 57), .ref (ad 58), .ref (ad 59), .ref (ad 60), .ref (ad 61), .ref (ad 62)]))] s.heap := hP
  have hl := lv_entry ([.ref h0, .int p0]) (n := 2) (Nat.le_of_ble_eq_true rfl)
  rw [lg_entry_eq]
  generalize (lg_sl ([.ref h0, .int p0]) ++ List.replicate (2 - (lg_sl ([.ref h0, .int p0])).length) Slot.unset).toArray = ls at hl ⊢
  have hl : lv_has ls 2 [(0, .ref h0), (1, .int p0)] := hl
  have hwX11 : ∀ w ∈ wsX110, w ∈ vw_k_X11_height := (fun w h => List.mem_append_right _ (List.mem_append_right _ (List.mem_append_right _ (List.mem_append_right _ (List.mem_append_right _ (List.mem_append_right _ (List.mem_append_right _ (List.mem_append_right _ (List.mem_append_right _ (List.mem_append_right _ (List.mem_append_right _ (List.mem_append_right _ h))))))))))))
  refine lv_aload_n hx hb dX11_height_0 rfl (lv_at hl 0 rfl) ?_
  refine va_get (D := (dC, dI)) (ci := 13) (v := .ref (ad 6)) (C := RX11) (T := TX11) (N := 9) hx hb hts hwX11 hown hK hP 0 rfl rfl 8 (Nat.le_of_ble_eq_true rfl) (hts (.fieldLink RX11 57 "ScriptTypes" "solve\x72" "LScriptTypes$Solver;") (List.mem_of_getElem? (i := 1) (by decide +kernel))) (fun _ h9 => h9) rfl dX11_height_1 ?_
  refine lv_iload_n hx hb dX11_height_4 rfl (lv_at hl 1 rfl) ?_
  have hPc := hP.sub (ws' := [((ad 6), .inr (10, [.ref (ad 2), .ref (ad 1), .ref (ad 48), .ref (ad 49), .ref (ad 50), .ref (ad 51), .ref (ad 52), .int 0, .ref (ad 53), .ref (ad 54), .int 0, .int 0, .int 0, .ref (ad 55), .ref (ad 56), .ref (ad 57), .ref (ad 58), .ref (ad 59), .ref (ad 60), .ref (ad 61), .ref (ad 62)]))]) [1] rfl
  have hDc := hD.sub (ws' := [((ad 6), .inr (10, [.ref (ad 2), .ref (ad 1), .ref (ad 48), .ref (ad 49), .ref (ad 50), .ref (ad 51), .ref (ad 52), .int 0, .ref (ad 53), .ref (ad 54), .int 0, .int 0, .int 0, .ref (ad 55), .ref (ad 56), .ref (ad 57), .ref (ad 58), .ref (ad 59), .ref (ad 60), .ref (ad 61), .ref (ad 62)]))]) [1] (by decide) rfl
  have hKc := hK.sub (tys' := []) [] rfl
  have hFc := va_free (wc := [((ad 6), .inr (10, [.ref (ad 2), .ref (ad 1), .ref (ad 48), .ref (ad 49), .ref (ad 50), .ref (ad 51), .ref (ad 52), .int 0, .ref (ad 53), .ref (ad 54), .int 0, .int 0, .int 0, .ref (ad 55), .ref (ad 56), .ref (ad 57), .ref (ad 58), .ref (ad 59), .ref (ad 60), .ref (ad 61), .ref (ad 62)]))]) hD hS hA [1] rfl
  refine va_calli (va_runV (As := [.int p0]) (rest := []) ⟨hx, hb, hml, hown, hts⟩ (a_X8_isReached_1 l dC dI s.heap.size ad p0) (cwV 1 hts vg_k_X11_height_a_X8_isReached_1 rfl rfl rfl (by decide +kernel) ⟨Nat.le_of_ble_eq_true rfl, Nat.le_of_ble_eq_true rfl⟩) ⟨fun a U g mk q => by obtain ⟨q0, q1, qP, qK, qD⟩ := q; exact ⟨q0, q1, qP, va_K.moved (u := U) (U := U.calling g mk a) (Vm.Alike.refl U.vm) qK, qD⟩, va_recv hKc hPc (ci := 10) (q0 := 0) rfl rfl, fun U hU hW => ⟨rfl, by rw [hU], by rw [hU]; exact hPc, va_K.moved hW.alike hKc, hDc.weaken (fun _ _ _ _ => trivial)⟩⟩ rfl rfl hl.1 rfl (lv_room (Nat.le_of_ble_eq_true rfl)) dX11_height_5 ⟨Nat.le_of_ble_eq_true rfl, Nat.le_of_ble_eq_true rfl⟩) hS (fun q _ h => hFc q h) hFc (fun r_1 u t H1 locs ht hvm hw hB hz1 hk1 hS => ?_)
  obtain ⟨_, _, _⟩ := u
  obtain ⟨hP1, hK1, hD1⟩ := hB
  rw [ht] at hP1
  have hK1 := va_K.moved hvm.symm hK1
  try dsimp only at hw
  obtain ⟨hP, hD⟩ := va_join (wr := [(h0, .inr (13, [.ref (ad 0), .int 0, .int 0, .ref (ad 1), .ref (ad 2), .ref (ad 3), .ref (ad 4), .ref (ad 5), .ref (ad 6)]))]) (w1 := [((ad 6), .inr (10, [.ref (ad 2), .ref (ad 1), .ref (ad 48), .ref (ad 49), .ref (ad 50), .ref (ad 51), .ref (ad 52), .int 0, .ref (ad 53), .ref (ad 54), .int 0, .int 0, .int 0, .ref (ad 55), .ref (ad 56), .ref (ad 57), .ref (ad 58), .ref (ad 59), .ref (ad 60), .ref (ad 61), .ref (ad 62)]))]) hP hD [1] [0] rfl rfl (by decide) (by decide) hk1 hFc hP1 hD1
  generalize H1 = H at hP hS ⊢
  have hP : va_P (dC, dI) vwCl [(h0, .inr (13, [.ref (ad 0), .int 0, .int 0, .ref (ad 1), .ref (ad 2), .ref (ad 3), .ref (ad 4), .ref (ad 5), .ref (ad 6)])), ((ad 6), .inr (10, [.ref (ad 2), .ref (ad 1), .ref (ad 48), .ref (ad 49), .ref (ad 50), .ref (ad 51), .ref (ad 52), .int 0, .ref (ad 53), .ref (ad 54), .int 0, .int 0, .int 0, .ref (ad 55), .ref (ad 56), .ref (ad 57), .ref (ad 58), .ref (ad 59), .ref (ad 60), .ref (ad 61), .ref (ad 62)]))] H := hP
  have hD : va_D A [(h0, .inr (13, [.ref (ad 0), .int 0, .int 0, .ref (ad 1), .ref (ad 2), .ref (ad 3), .ref (ad 4), .ref (ad 5), .ref (ad 6)])), ((ad 6), .inr (10, [.ref (ad 2), .ref (ad 1), .ref (ad 48), .ref (ad 49), .ref (ad 50), .ref (ad 51), .ref (ad 52), .int 0, .ref (ad 53), .ref (ad 54), .int 0, .int 0, .int 0, .ref (ad 55), .ref (ad 56), .ref (ad 57), .ref (ad 58), .ref (ad 59), .ref (ad 60), .ref (ad 61), .ref (ad 62)]))] := hD
  obtain rfl : r_1 = 0 := hw
  refine lv_if_eq (tgt := 23) hx hb dX11_height_8 (by decide) (fun _ => ?_) (fun c2_8 => absurd (by decide) c2_8)
  refine lv_iconst (v := (-1)) hx hb dX11_height_23 (by decide) ?_
  exact W.iret (v := (-1)) hx hb hr (fun t ht hW => ⟨⟨(-1), (), rfl, rfl, trivial⟩, hS.F ht⟩) hS.2.2 dX11_height_24

def vb_a_X8_isReached_2 : List Cond := .code yX8_isReached cX8_isReached 2 (some .boolean) :: ([.fieldLink RX8 82 "ScriptTypes$Solve\x72" "solved" "Z"] ++ [])
def vw_a_X8_isReached_2 : List Cond := vb_a_X8_isReached_2 ++ wsAll
set_option maxHeartbeats 8000000 in
set_option maxRecDepth 100000 in
theorem a_X8_isReached_2 (l : Launch) (dC : Nat → ClassId) (dI : Nat → Nat → Nat) (sz : Nat) (ad : Nat → Nat) (p0 : Int32) : Met l yX8_isReached vw_a_X8_isReached_2 ({ frames := 0, cells := 0, slots := 0, locals := 0 }) (va_Pc [.ref (ad 6), .int p0] (fun U => U.heap.size = sz ∧ va_P (dC, dI) vwCl [((ad 6), .inr (10, [.ref (ad 2), .ref (ad 1), .ref (ad 48), .ref (ad 49), .ref (ad 50), .ref (ad 51), .ref (ad 52), .int 0, .ref (ad 53), .ref (ad 54), .int 0, .int 0, .int 0, .ref (ad 55), .ref (ad 56), .ref (ad 57), .ref (ad 58), .ref (ad 59), .ref (ad 60), .ref (ad 61), .ref (ad 62)]))] U.heap ∧ va_K (dC, dI) vwCl [] U ∧ va_D (fun _ => True) [((ad 6), .inr (10, [.ref (ad 2), .ref (ad 1), .ref (ad 48), .ref (ad 49), .ref (ad 50), .ref (ad 51), .ref (ad 52), .int 0, .ref (ad 53), .ref (ad 54), .int 0, .int 0, .int 0, .ref (ad 55), .ref (ad 56), .ref (ad 57), .ref (ad 58), .ref (ad 59), .ref (ad 60), .ref (ad 61), .ref (ad 62)]))])) (va_Qi (fun (r : Int32) (u : (Nat → Nat) × (Nat → ClassId) × (Nat → Nat → Int32)) => r = 0) (fun (u : (Nat → Nat) × (Nat → ClassId) × (Nat → Nat → Int32)) t => va_P (dC, dI) vwCl [((ad 6), .inr (10, [.ref (ad 2), .ref (ad 1), .ref (ad 48), .ref (ad 49), .ref (ad 50), .ref (ad 51), .ref (ad 52), .int 0, .ref (ad 53), .ref (ad 54), .int 0, .int 0, .int 0, .ref (ad 55), .ref (ad 56), .ref (ad 57), .ref (ad 58), .ref (ad 59), .ref (ad 60), .ref (ad 61), .ref (ad 62)]))] t.heap ∧ va_K (dC, dI) vwCl [] t ∧ va_D (va_A [((ad 6), .inr (10, [.ref (ad 2), .ref (ad 1), .ref (ad 48), .ref (ad 49), .ref (ad 50), .ref (ad 51), .ref (ad 52), .int 0, .ref (ad 53), .ref (ad 54), .int 0, .int 0, .int 0, .ref (ad 55), .ref (ad 56), .ref (ad 57), .ref (ad 58), .ref (ad 59), .ref (ad 60), .ref (ad 61), .ref (ad 62)]))] sz) [((ad 6), .inr (10, [.ref (ad 2), .ref (ad 1), .ref (ad 48), .ref (ad 49), .ref (ad 50), .ref (ad 51), .ref (ad 52), .int 0, .ref (ad 53), .ref (ad 54), .int 0, .int 0, .int 0, .ref (ad 55), .ref (ad 56), .ref (ad 57), .ref (ad 58), .ref (ad 59), .ref (ad 60), .ref (ad 61), .ref (ad 62)]))]) (va_A [((ad 6), .inr (10, [.ref (ad 2), .ref (ad 1), .ref (ad 48), .ref (ad 49), .ref (ad 50), .ref (ad 51), .ref (ad 52), .int 0, .ref (ad 53), .ref (ad 54), .int 0, .int 0, .int 0, .ref (ad 55), .ref (ad 56), .ref (ad 57), .ref (ad 58), .ref (ad 59), .ref (ad 60), .ref (ad 61), .ref (ad 62)]))] sz)) 0 0 (va_A [((ad 6), .inr (10, [.ref (ad 2), .ref (ad 1), .ref (ad 48), .ref (ad 49), .ref (ad 50), .ref (ad 51), .ref (ad 52), .int 0, .ref (ad 53), .ref (ad 54), .int 0, .int 0, .int 0, .ref (ad 55), .ref (ad 56), .ref (ad 57), .ref (ad 58), .ref (ad 59), .ref (ad 60), .ref (ad 61), .ref (ad 62)]))] sz) := by
  refine Met.ofW (cc := cX8_isReached) (maxL := 2) (ret := (some .boolean)) (by decide) rfl ?_
  intro p e s m args below meth c s₁ B hml hv
  obtain ⟨rfl, hsz, hP, hK, hD0⟩ := hv
  have hx := B.exec
  have hb := B.bytes
  have hr := B.returns
  have hts := atoms_spec (ws := vw_a_X8_isReached_2) B.pre
  have hown : s.vm.findClass RX8 = some m.cls := findClass_of_methodNamed B.named
  have hlocks := B.notSynchronized
  subst hsz
  have hD := hD0.self (sz := s.heap.size)
  generalize hAe : va_A [((ad 6), .inr (10, [.ref (ad 2), .ref (ad 1), .ref (ad 48), .ref (ad 49), .ref (ad 50), .ref (ad 51), .ref (ad 52), .int 0, .ref (ad 53), .ref (ad 54), .int 0, .int 0, .int 0, .ref (ad 55), .ref (ad 56), .ref (ad 57), .ref (ad 58), .ref (ad 59), .ref (ad 60), .ref (ad 61), .ref (ad 62)]))] s.heap.size = A at hD ⊢
  have hA : ∀ q : Nat, s.heap.size ≤ q → A q := fun q h => by rw [← hAe]; exact Or.inr h
  have hS : va_S A s.heap s.heap [] := va_S.rf
  have hP : va_P (dC, dI) vwCl [((ad 6), .inr (10, [.ref (ad 2), .ref (ad 1), .ref (ad 48), .ref (ad 49), .ref (ad 50), .ref (ad 51), .ref (ad 52), .int 0, .ref (ad 53), .ref (ad 54), .int 0, .int 0, .int 0, .ref (ad 55), .ref (ad 56), .ref (ad 57), .ref (ad 58), .ref (ad 59), .ref (ad 60), .ref (ad 61), .ref (ad 62)]))] s.heap := hP
  have hl := lv_entry ([.ref (ad 6), .int p0]) (n := 2) (Nat.le_of_ble_eq_true rfl)
  rw [lg_entry_eq]
  generalize (lg_sl ([.ref (ad 6), .int p0]) ++ List.replicate (2 - (lg_sl ([.ref (ad 6), .int p0])).length) Slot.unset).toArray = ls at hl ⊢
  have hl : lv_has ls 2 [(0, .ref (ad 6)), (1, .int p0)] := hl
  have hwX8 : ∀ w ∈ wsX80, w ∈ vw_a_X8_isReached_2 := (fun w h => List.mem_append_right _ (List.mem_append_right _ (List.mem_append_right _ (List.mem_append_right _ (List.mem_append_right _ (List.mem_append_right _ (List.mem_append_right _ (List.mem_append_right _ (List.mem_append_right _ (List.mem_append_left _ h))))))))))
  refine lv_aload_n hx hb dX8_isReached_0 rfl (lv_at hl 0 rfl) ?_
  refine va_get (D := (dC, dI)) (ci := 10) (v := .int 0) (C := RX8) (T := TX8) (N := 21) hx hb hts hwX8 hown hK hP 0 rfl rfl 10 (Nat.le_of_ble_eq_true rfl) (hts (.fieldLink RX8 82 "ScriptTypes$Solve\x72" "solved" "Z") (List.mem_of_getElem? (i := 1) (by decide +kernel))) (fun _ h9 => h9) rfl dX8_isReached_1 ?_
  refine lv_if_eq (tgt := 35) hx hb dX8_isReached_4 (by decide) (fun _ => ?_) (fun c1_4 => absurd (by decide) c1_4)
  refine lv_iconst (v := 0) hx hb dX8_isReached_35 (by decide) ?_
  refine W.widen (k := 0) (n := 0) (Nat.le_of_ble_eq_true rfl) (Nat.le_of_ble_eq_true rfl) ?_
  exact W.zret (v := 0) hx hb hr rfl (fun t ht hW => ⟨⟨0, (fun n => ([] : List Nat).getD n 0, fun n => ([] : List ClassId).getD n 0, fun n => ([] : List (Nat → Int32)).getD n (fun _ => 0)), rfl, rfl, by rw [ht]; exact hP, va_K.moved hW.alike hK, hD⟩, hS.F ht⟩) hS.2.2 dX8_isReached_36

def vb_k_X11_warns : List Cond := .code yX11_warns cX11_warns 2 (some .int) :: ([.fieldLink RX11 57 "ScriptTypes" "solve\x72" "LScriptTypes$Solver;", .methodLink RX11 165 yX8_isReached, .instanceMethod yX8_isReached, .selects RX8 yX8_isReached yX8_isReached, .initialized RX8] ++ (vb_a_X8_isReached_2 ++ []))
def vw_k_X11_warns : List Cond := vb_k_X11_warns ++ wsAll
set_option maxRecDepth 20000 in
theorem vg_k_X11_warns_a_X8_isReached_2 : GoodIn vw_k_X11_warns (wsV RX11 165 RX8 yX8_isReached vw_a_X8_isReached_2) := goodIn_app (goodIn_of _ (by decide +kernel)) (goodIn_sub (v_sub (fun w h => List.mem_cons_of_mem _ (List.mem_append_right _ (List.mem_append_left _ (h))))) (by decide +kernel))
set_option maxHeartbeats 8000000 in
set_option maxRecDepth 100000 in
theorem k_X11_warns (l : Launch) (dC : Nat → ClassId) (dI : Nat → Nat → Nat) (sz : Nat) (h0 : Nat) (ad : Nat → Nat) (p0 : Int32) : Met l yX11_warns vw_k_X11_warns ({ frames := 1, cells := 0, slots := 0, locals := 21 }) (va_Pc [.ref h0, .int p0] (fun U => U.heap.size = sz ∧ va_P (dC, dI) vwCl [(h0, .inr (13, [.ref (ad 0), .int 0, .int 0, .ref (ad 1), .ref (ad 2), .ref (ad 3), .ref (ad 4), .ref (ad 5), .ref (ad 6)])), ((ad 6), .inr (10, [.ref (ad 2), .ref (ad 1), .ref (ad 48), .ref (ad 49), .ref (ad 50), .ref (ad 51), .ref (ad 52), .int 0, .ref (ad 53), .ref (ad 54), .int 0, .int 0, .int 0, .ref (ad 55), .ref (ad 56), .ref (ad 57), .ref (ad 58), .ref (ad 59), .ref (ad 60), .ref (ad 61), .ref (ad 62)]))] U.heap ∧ va_K (dC, dI) vwCl [] U ∧ va_D (fun _ => True) [(h0, .inr (13, [.ref (ad 0), .int 0, .int 0, .ref (ad 1), .ref (ad 2), .ref (ad 3), .ref (ad 4), .ref (ad 5), .ref (ad 6)])), ((ad 6), .inr (10, [.ref (ad 2), .ref (ad 1), .ref (ad 48), .ref (ad 49), .ref (ad 50), .ref (ad 51), .ref (ad 52), .int 0, .ref (ad 53), .ref (ad 54), .int 0, .int 0, .int 0, .ref (ad 55), .ref (ad 56), .ref (ad 57), .ref (ad 58), .ref (ad 59), .ref (ad 60), .ref (ad 61), .ref (ad 62)]))])) (va_Qi (fun (r : Int32) (_ : Unit) => r = (-1)) (fun _ _ => True) (va_A [(h0, .inr (13, [.ref (ad 0), .int 0, .int 0, .ref (ad 1), .ref (ad 2), .ref (ad 3), .ref (ad 4), .ref (ad 5), .ref (ad 6)])), ((ad 6), .inr (10, [.ref (ad 2), .ref (ad 1), .ref (ad 48), .ref (ad 49), .ref (ad 50), .ref (ad 51), .ref (ad 52), .int 0, .ref (ad 53), .ref (ad 54), .int 0, .int 0, .int 0, .ref (ad 55), .ref (ad 56), .ref (ad 57), .ref (ad 58), .ref (ad 59), .ref (ad 60), .ref (ad 61), .ref (ad 62)]))] sz)) 0 0 (va_A [(h0, .inr (13, [.ref (ad 0), .int 0, .int 0, .ref (ad 1), .ref (ad 2), .ref (ad 3), .ref (ad 4), .ref (ad 5), .ref (ad 6)])), ((ad 6), .inr (10, [.ref (ad 2), .ref (ad 1), .ref (ad 48), .ref (ad 49), .ref (ad 50), .ref (ad 51), .ref (ad 52), .int 0, .ref (ad 53), .ref (ad 54), .int 0, .int 0, .int 0, .ref (ad 55), .ref (ad 56), .ref (ad 57), .ref (ad 58), .ref (ad 59), .ref (ad 60), .ref (ad 61), .ref (ad 62)]))] sz) := by
  refine Met.ofW (cc := cX11_warns) (maxL := 2) (ret := (some .int)) (by decide) rfl ?_
  intro p e s m args below meth c s₁ B hml hv
  obtain ⟨rfl, hsz, hP, hK, hD0⟩ := hv
  have hx := B.exec
  have hb := B.bytes
  have hr := B.returns
  have hts := atoms_spec (ws := vw_k_X11_warns) B.pre
  have hown : s.vm.findClass RX11 = some m.cls := findClass_of_methodNamed B.named
  have hlocks := B.notSynchronized
  subst hsz
  have hD := hD0.self (sz := s.heap.size)
  generalize hAe : va_A [(h0, .inr (13, [.ref (ad 0), .int 0, .int 0, .ref (ad 1), .ref (ad 2), .ref (ad 3), .ref (ad 4), .ref (ad 5), .ref (ad 6)])), ((ad 6), .inr (10, [.ref (ad 2), .ref (ad 1), .ref (ad 48), .ref (ad 49), .ref (ad 50), .ref (ad 51), .ref (ad 52), .int 0, .ref (ad 53), .ref (ad 54), .int 0, .int 0, .int 0, .ref (ad 55), .ref (ad 56), .ref (ad 57), .ref (ad 58), .ref (ad 59), .ref (ad 60), .ref (ad 61), .ref (ad 62)]))] s.heap.size = A at hD ⊢
  have hA : ∀ q : Nat, s.heap.size ≤ q → A q := fun q h => by rw [← hAe]; exact Or.inr h
  have hS : va_S A s.heap s.heap [] := va_S.rf
  have hP : va_P (dC, dI) vwCl [(h0, .inr (13, [.ref (ad 0), .int 0, .int 0, .ref (ad 1), .ref (ad 2), .ref (ad 3), .ref (ad 4), .ref (ad 5), .ref (ad 6)])), ((ad 6), .inr (10, [.ref (ad 2), .ref (ad 1), .ref (ad 48), .ref (ad 49), .ref (ad 50), .ref (ad 51), .ref (ad 52), .int 0, .ref (ad 53), .ref (ad 54), .int 0, .int 0, .int 0, .ref (ad 55), .ref (ad 56), .ref (ad 57), .ref (ad 58), .ref (ad 59), .ref (ad 60), .ref (ad 61), .ref (ad 62)]))] s.heap := hP
  have hl := lv_entry ([.ref h0, .int p0]) (n := 2) (Nat.le_of_ble_eq_true rfl)
  rw [lg_entry_eq]
  generalize (lg_sl ([.ref h0, .int p0]) ++ List.replicate (2 - (lg_sl ([.ref h0, .int p0])).length) Slot.unset).toArray = ls at hl ⊢
  have hl : lv_has ls 2 [(0, .ref h0), (1, .int p0)] := hl
  have hwX11 : ∀ w ∈ wsX110, w ∈ vw_k_X11_warns := (fun w h => List.mem_append_right _ (List.mem_append_right _ (List.mem_append_right _ (List.mem_append_right _ (List.mem_append_right _ (List.mem_append_right _ (List.mem_append_right _ (List.mem_append_right _ (List.mem_append_right _ (List.mem_append_right _ (List.mem_append_right _ (List.mem_append_right _ h))))))))))))
  refine lv_aload_n hx hb dX11_warns_0 rfl (lv_at hl 0 rfl) ?_
  refine va_get (D := (dC, dI)) (ci := 13) (v := .ref (ad 6)) (C := RX11) (T := TX11) (N := 9) hx hb hts hwX11 hown hK hP 0 rfl rfl 8 (Nat.le_of_ble_eq_true rfl) (hts (.fieldLink RX11 57 "ScriptTypes" "solve\x72" "LScriptTypes$Solver;") (List.mem_of_getElem? (i := 1) (by decide +kernel))) (fun _ h9 => h9) rfl dX11_warns_1 ?_
  refine lv_iload_n hx hb dX11_warns_4 rfl (lv_at hl 1 rfl) ?_
  have hPc := hP.sub (ws' := [((ad 6), .inr (10, [.ref (ad 2), .ref (ad 1), .ref (ad 48), .ref (ad 49), .ref (ad 50), .ref (ad 51), .ref (ad 52), .int 0, .ref (ad 53), .ref (ad 54), .int 0, .int 0, .int 0, .ref (ad 55), .ref (ad 56), .ref (ad 57), .ref (ad 58), .ref (ad 59), .ref (ad 60), .ref (ad 61), .ref (ad 62)]))]) [1] rfl
  have hDc := hD.sub (ws' := [((ad 6), .inr (10, [.ref (ad 2), .ref (ad 1), .ref (ad 48), .ref (ad 49), .ref (ad 50), .ref (ad 51), .ref (ad 52), .int 0, .ref (ad 53), .ref (ad 54), .int 0, .int 0, .int 0, .ref (ad 55), .ref (ad 56), .ref (ad 57), .ref (ad 58), .ref (ad 59), .ref (ad 60), .ref (ad 61), .ref (ad 62)]))]) [1] (by decide) rfl
  have hKc := hK.sub (tys' := []) [] rfl
  have hFc := va_free (wc := [((ad 6), .inr (10, [.ref (ad 2), .ref (ad 1), .ref (ad 48), .ref (ad 49), .ref (ad 50), .ref (ad 51), .ref (ad 52), .int 0, .ref (ad 53), .ref (ad 54), .int 0, .int 0, .int 0, .ref (ad 55), .ref (ad 56), .ref (ad 57), .ref (ad 58), .ref (ad 59), .ref (ad 60), .ref (ad 61), .ref (ad 62)]))]) hD hS hA [1] rfl
  refine va_calli (va_runV (As := [.int p0]) (rest := []) ⟨hx, hb, hml, hown, hts⟩ (a_X8_isReached_2 l dC dI s.heap.size ad p0) (cwV 1 hts vg_k_X11_warns_a_X8_isReached_2 rfl rfl rfl (by decide +kernel) ⟨Nat.le_of_ble_eq_true rfl, Nat.le_of_ble_eq_true rfl⟩) ⟨fun a U g mk q => by obtain ⟨q0, q1, qP, qK, qD⟩ := q; exact ⟨q0, q1, qP, va_K.moved (u := U) (U := U.calling g mk a) (Vm.Alike.refl U.vm) qK, qD⟩, va_recv hKc hPc (ci := 10) (q0 := 0) rfl rfl, fun U hU hW => ⟨rfl, by rw [hU], by rw [hU]; exact hPc, va_K.moved hW.alike hKc, hDc.weaken (fun _ _ _ _ => trivial)⟩⟩ rfl rfl hl.1 rfl (lv_room (Nat.le_of_ble_eq_true rfl)) dX11_warns_5 ⟨Nat.le_of_ble_eq_true rfl, Nat.le_of_ble_eq_true rfl⟩) hS (fun q _ h => hFc q h) hFc (fun r_1 u t H1 locs ht hvm hw hB hz1 hk1 hS => ?_)
  obtain ⟨_, _, _⟩ := u
  obtain ⟨hP1, hK1, hD1⟩ := hB
  rw [ht] at hP1
  have hK1 := va_K.moved hvm.symm hK1
  try dsimp only at hw
  obtain ⟨hP, hD⟩ := va_join (wr := [(h0, .inr (13, [.ref (ad 0), .int 0, .int 0, .ref (ad 1), .ref (ad 2), .ref (ad 3), .ref (ad 4), .ref (ad 5), .ref (ad 6)]))]) (w1 := [((ad 6), .inr (10, [.ref (ad 2), .ref (ad 1), .ref (ad 48), .ref (ad 49), .ref (ad 50), .ref (ad 51), .ref (ad 52), .int 0, .ref (ad 53), .ref (ad 54), .int 0, .int 0, .int 0, .ref (ad 55), .ref (ad 56), .ref (ad 57), .ref (ad 58), .ref (ad 59), .ref (ad 60), .ref (ad 61), .ref (ad 62)]))]) hP hD [1] [0] rfl rfl (by decide) (by decide) hk1 hFc hP1 hD1
  generalize H1 = H at hP hS ⊢
  have hP : va_P (dC, dI) vwCl [(h0, .inr (13, [.ref (ad 0), .int 0, .int 0, .ref (ad 1), .ref (ad 2), .ref (ad 3), .ref (ad 4), .ref (ad 5), .ref (ad 6)])), ((ad 6), .inr (10, [.ref (ad 2), .ref (ad 1), .ref (ad 48), .ref (ad 49), .ref (ad 50), .ref (ad 51), .ref (ad 52), .int 0, .ref (ad 53), .ref (ad 54), .int 0, .int 0, .int 0, .ref (ad 55), .ref (ad 56), .ref (ad 57), .ref (ad 58), .ref (ad 59), .ref (ad 60), .ref (ad 61), .ref (ad 62)]))] H := hP
  have hD : va_D A [(h0, .inr (13, [.ref (ad 0), .int 0, .int 0, .ref (ad 1), .ref (ad 2), .ref (ad 3), .ref (ad 4), .ref (ad 5), .ref (ad 6)])), ((ad 6), .inr (10, [.ref (ad 2), .ref (ad 1), .ref (ad 48), .ref (ad 49), .ref (ad 50), .ref (ad 51), .ref (ad 52), .int 0, .ref (ad 53), .ref (ad 54), .int 0, .int 0, .int 0, .ref (ad 55), .ref (ad 56), .ref (ad 57), .ref (ad 58), .ref (ad 59), .ref (ad 60), .ref (ad 61), .ref (ad 62)]))] := hD
  obtain rfl : r_1 = 0 := hw
  refine lv_if_eq (tgt := 22) hx hb dX11_warns_8 (by decide) (fun _ => ?_) (fun c2_8 => absurd (by decide) c2_8)
  refine lv_iconst (v := (-1)) hx hb dX11_warns_22 (by decide) ?_
  exact W.iret (v := (-1)) hx hb hr (fun t ht hW => ⟨⟨(-1), (), rfl, rfl, trivial⟩, hS.F ht⟩) hS.2.2 dX11_warns_23

def vb_a_X8_isReached_3 : List Cond := .code yX8_isReached cX8_isReached 2 (some .boolean) :: ([.fieldLink RX8 82 "ScriptTypes$Solve\x72" "solved" "Z"] ++ [])
def vw_a_X8_isReached_3 : List Cond := vb_a_X8_isReached_3 ++ wsAll
set_option maxHeartbeats 8000000 in
set_option maxRecDepth 100000 in
theorem a_X8_isReached_3 (l : Launch) (dC : Nat → ClassId) (dI : Nat → Nat → Nat) (sz : Nat) (ad : Nat → Nat) (p0 : Int32) : Met l yX8_isReached vw_a_X8_isReached_3 ({ frames := 0, cells := 0, slots := 0, locals := 0 }) (va_Pc [.ref (ad 6), .int p0] (fun U => U.heap.size = sz ∧ va_P (dC, dI) vwCl [((ad 6), .inr (10, [.ref (ad 2), .ref (ad 1), .ref (ad 48), .ref (ad 49), .ref (ad 50), .ref (ad 51), .ref (ad 52), .int 0, .ref (ad 53), .ref (ad 54), .int 0, .int 0, .int 0, .ref (ad 55), .ref (ad 56), .ref (ad 57), .ref (ad 58), .ref (ad 59), .ref (ad 60), .ref (ad 61), .ref (ad 62)]))] U.heap ∧ va_K (dC, dI) vwCl [] U ∧ va_D (fun _ => True) [((ad 6), .inr (10, [.ref (ad 2), .ref (ad 1), .ref (ad 48), .ref (ad 49), .ref (ad 50), .ref (ad 51), .ref (ad 52), .int 0, .ref (ad 53), .ref (ad 54), .int 0, .int 0, .int 0, .ref (ad 55), .ref (ad 56), .ref (ad 57), .ref (ad 58), .ref (ad 59), .ref (ad 60), .ref (ad 61), .ref (ad 62)]))])) (va_Qi (fun (r : Int32) (u : (Nat → Nat) × (Nat → ClassId) × (Nat → Nat → Int32)) => r = 0) (fun (u : (Nat → Nat) × (Nat → ClassId) × (Nat → Nat → Int32)) t => va_P (dC, dI) vwCl [((ad 6), .inr (10, [.ref (ad 2), .ref (ad 1), .ref (ad 48), .ref (ad 49), .ref (ad 50), .ref (ad 51), .ref (ad 52), .int 0, .ref (ad 53), .ref (ad 54), .int 0, .int 0, .int 0, .ref (ad 55), .ref (ad 56), .ref (ad 57), .ref (ad 58), .ref (ad 59), .ref (ad 60), .ref (ad 61), .ref (ad 62)]))] t.heap ∧ va_K (dC, dI) vwCl [] t ∧ va_D (va_A [((ad 6), .inr (10, [.ref (ad 2), .ref (ad 1), .ref (ad 48), .ref (ad 49), .ref (ad 50), .ref (ad 51), .ref (ad 52), .int 0, .ref (ad 53), .ref (ad 54), .int 0, .int 0, .int 0, .ref (ad 55), .ref (ad 56), .ref (ad 57), .ref (ad 58), .ref (ad 59), .ref (ad 60), .ref (ad 61), .ref (ad 62)]))] sz) [((ad 6), .inr (10, [.ref (ad 2), .ref (ad 1), .ref (ad 48), .ref (ad 49), .ref (ad 50), .ref (ad 51), .ref (ad 52), .int 0, .ref (ad 53), .ref (ad 54), .int 0, .int 0, .int 0, .ref (ad 55), .ref (ad 56), .ref (ad 57), .ref (ad 58), .ref (ad 59), .ref (ad 60), .ref (ad 61), .ref (ad 62)]))]) (va_A [((ad 6), .inr (10, [.ref (ad 2), .ref (ad 1), .ref (ad 48), .ref (ad 49), .ref (ad 50), .ref (ad 51), .ref (ad 52), .int 0, .ref (ad 53), .ref (ad 54), .int 0, .int 0, .int 0, .ref (ad 55), .ref (ad 56), .ref (ad 57), .ref (ad 58), .ref (ad 59), .ref (ad 60), .ref (ad 61), .ref (ad 62)]))] sz)) 0 0 (va_A [((ad 6), .inr (10, [.ref (ad 2), .ref (ad 1), .ref (ad 48), .ref (ad 49), .ref (ad 50), .ref (ad 51), .ref (ad 52), .int 0, .ref (ad 53), .ref (ad 54), .int 0, .int 0, .int 0, .ref (ad 55), .ref (ad 56), .ref (ad 57), .ref (ad 58), .ref (ad 59), .ref (ad 60), .ref (ad 61), .ref (ad 62)]))] sz) := by
  refine Met.ofW (cc := cX8_isReached) (maxL := 2) (ret := (some .boolean)) (by decide) rfl ?_
  intro p e s m args below meth c s₁ B hml hv
  obtain ⟨rfl, hsz, hP, hK, hD0⟩ := hv
  have hx := B.exec
  have hb := B.bytes
  have hr := B.returns
  have hts := atoms_spec (ws := vw_a_X8_isReached_3) B.pre
  have hown : s.vm.findClass RX8 = some m.cls := findClass_of_methodNamed B.named
  have hlocks := B.notSynchronized
  subst hsz
  have hD := hD0.self (sz := s.heap.size)
  generalize hAe : va_A [((ad 6), .inr (10, [.ref (ad 2), .ref (ad 1), .ref (ad 48), .ref (ad 49), .ref (ad 50), .ref (ad 51), .ref (ad 52), .int 0, .ref (ad 53), .ref (ad 54), .int 0, .int 0, .int 0, .ref (ad 55), .ref (ad 56), .ref (ad 57), .ref (ad 58), .ref (ad 59), .ref (ad 60), .ref (ad 61), .ref (ad 62)]))] s.heap.size = A at hD ⊢
  have hA : ∀ q : Nat, s.heap.size ≤ q → A q := fun q h => by rw [← hAe]; exact Or.inr h
  have hS : va_S A s.heap s.heap [] := va_S.rf
  have hP : va_P (dC, dI) vwCl [((ad 6), .inr (10, [.ref (ad 2), .ref (ad 1), .ref (ad 48), .ref (ad 49), .ref (ad 50), .ref (ad 51), .ref (ad 52), .int 0, .ref (ad 53), .ref (ad 54), .int 0, .int 0, .int 0, .ref (ad 55), .ref (ad 56), .ref (ad 57), .ref (ad 58), .ref (ad 59), .ref (ad 60), .ref (ad 61), .ref (ad 62)]))] s.heap := hP
  have hl := lv_entry ([.ref (ad 6), .int p0]) (n := 2) (Nat.le_of_ble_eq_true rfl)
  rw [lg_entry_eq]
  generalize (lg_sl ([.ref (ad 6), .int p0]) ++ List.replicate (2 - (lg_sl ([.ref (ad 6), .int p0])).length) Slot.unset).toArray = ls at hl ⊢
  have hl : lv_has ls 2 [(0, .ref (ad 6)), (1, .int p0)] := hl
  have hwX8 : ∀ w ∈ wsX80, w ∈ vw_a_X8_isReached_3 := (fun w h => List.mem_append_right _ (List.mem_append_right _ (List.mem_append_right _ (List.mem_append_right _ (List.mem_append_right _ (List.mem_append_right _ (List.mem_append_right _ (List.mem_append_right _ (List.mem_append_right _ (List.mem_append_left _ h))))))))))
  refine lv_aload_n hx hb dX8_isReached_0 rfl (lv_at hl 0 rfl) ?_
  refine va_get (D := (dC, dI)) (ci := 10) (v := .int 0) (C := RX8) (T := TX8) (N := 21) hx hb hts hwX8 hown hK hP 0 rfl rfl 10 (Nat.le_of_ble_eq_true rfl) (hts (.fieldLink RX8 82 "ScriptTypes$Solve\x72" "solved" "Z") (List.mem_of_getElem? (i := 1) (by decide +kernel))) (fun _ h9 => h9) rfl dX8_isReached_1 ?_
  refine lv_if_eq (tgt := 35) hx hb dX8_isReached_4 (by decide) (fun _ => ?_) (fun c1_4 => absurd (by decide) c1_4)
  refine lv_iconst (v := 0) hx hb dX8_isReached_35 (by decide) ?_
  refine W.widen (k := 0) (n := 0) (Nat.le_of_ble_eq_true rfl) (Nat.le_of_ble_eq_true rfl) ?_
  exact W.zret (v := 0) hx hb hr rfl (fun t ht hW => ⟨⟨0, (fun n => ([] : List Nat).getD n 0, fun n => ([] : List ClassId).getD n 0, fun n => ([] : List (Nat → Int32)).getD n (fun _ => 0)), rfl, rfl, by rw [ht]; exact hP, va_K.moved hW.alike hK, hD⟩, hS.F ht⟩) hS.2.2 dX8_isReached_36

def vb_k_X11_slot : List Cond := .code yX11_slot cX11_slot 4 (some .long) :: ([.fieldLink RX11 57 "ScriptTypes" "solve\x72" "LScriptTypes$Solver;", .methodLink RX11 165 yX8_isReached, .instanceMethod yX8_isReached, .selects RX8 yX8_isReached yX8_isReached, .initialized RX8] ++ (vb_a_X8_isReached_3 ++ []))
def vw_k_X11_slot : List Cond := vb_k_X11_slot ++ wsAll
set_option maxRecDepth 20000 in
theorem vg_k_X11_slot_a_X8_isReached_3 : GoodIn vw_k_X11_slot (wsV RX11 165 RX8 yX8_isReached vw_a_X8_isReached_3) := goodIn_app (goodIn_of _ (by decide +kernel)) (goodIn_sub (v_sub (fun w h => List.mem_cons_of_mem _ (List.mem_append_right _ (List.mem_append_left _ (h))))) (by decide +kernel))
set_option maxHeartbeats 8000000 in
set_option maxRecDepth 100000 in
theorem k_X11_slot (l : Launch) (dC : Nat → ClassId) (dI : Nat → Nat → Nat) (sz : Nat) (h0 : Nat) (ad : Nat → Nat) (p0 : Int32) (p1 : Int32) (p2 : Int32) : Met l yX11_slot vw_k_X11_slot ({ frames := 1, cells := 0, slots := 0, locals := 21 }) (va_Pc [.ref h0, .int p0, .int p1, .int p2] (fun U => U.heap.size = sz ∧ va_P (dC, dI) vwCl [(h0, .inr (13, [.ref (ad 0), .int 0, .int 0, .ref (ad 1), .ref (ad 2), .ref (ad 3), .ref (ad 4), .ref (ad 5), .ref (ad 6)])), ((ad 6), .inr (10, [.ref (ad 2), .ref (ad 1), .ref (ad 48), .ref (ad 49), .ref (ad 50), .ref (ad 51), .ref (ad 52), .int 0, .ref (ad 53), .ref (ad 54), .int 0, .int 0, .int 0, .ref (ad 55), .ref (ad 56), .ref (ad 57), .ref (ad 58), .ref (ad 59), .ref (ad 60), .ref (ad 61), .ref (ad 62)]))] U.heap ∧ va_K (dC, dI) vwCl [] U ∧ va_D (fun _ => True) [(h0, .inr (13, [.ref (ad 0), .int 0, .int 0, .ref (ad 1), .ref (ad 2), .ref (ad 3), .ref (ad 4), .ref (ad 5), .ref (ad 6)])), ((ad 6), .inr (10, [.ref (ad 2), .ref (ad 1), .ref (ad 48), .ref (ad 49), .ref (ad 50), .ref (ad 51), .ref (ad 52), .int 0, .ref (ad 53), .ref (ad 54), .int 0, .int 0, .int 0, .ref (ad 55), .ref (ad 56), .ref (ad 57), .ref (ad 58), .ref (ad 59), .ref (ad 60), .ref (ad 61), .ref (ad 62)]))])) (va_Ql (fun (r : Int64) (_ : Unit) => r = 0) (fun _ _ => True) (va_A [(h0, .inr (13, [.ref (ad 0), .int 0, .int 0, .ref (ad 1), .ref (ad 2), .ref (ad 3), .ref (ad 4), .ref (ad 5), .ref (ad 6)])), ((ad 6), .inr (10, [.ref (ad 2), .ref (ad 1), .ref (ad 48), .ref (ad 49), .ref (ad 50), .ref (ad 51), .ref (ad 52), .int 0, .ref (ad 53), .ref (ad 54), .int 0, .int 0, .int 0, .ref (ad 55), .ref (ad 56), .ref (ad 57), .ref (ad 58), .ref (ad 59), .ref (ad 60), .ref (ad 61), .ref (ad 62)]))] sz)) 0 0 (va_A [(h0, .inr (13, [.ref (ad 0), .int 0, .int 0, .ref (ad 1), .ref (ad 2), .ref (ad 3), .ref (ad 4), .ref (ad 5), .ref (ad 6)])), ((ad 6), .inr (10, [.ref (ad 2), .ref (ad 1), .ref (ad 48), .ref (ad 49), .ref (ad 50), .ref (ad 51), .ref (ad 52), .int 0, .ref (ad 53), .ref (ad 54), .int 0, .int 0, .int 0, .ref (ad 55), .ref (ad 56), .ref (ad 57), .ref (ad 58), .ref (ad 59), .ref (ad 60), .ref (ad 61), .ref (ad 62)]))] sz) := by
  refine Met.ofW (cc := cX11_slot) (maxL := 4) (ret := (some .long)) (by decide) rfl ?_
  intro p e s m args below meth c s₁ B hml hv
  obtain ⟨rfl, hsz, hP, hK, hD0⟩ := hv
  have hx := B.exec
  have hb := B.bytes
  have hr := B.returns
  have hts := atoms_spec (ws := vw_k_X11_slot) B.pre
  have hown : s.vm.findClass RX11 = some m.cls := findClass_of_methodNamed B.named
  have hlocks := B.notSynchronized
  subst hsz
  have hD := hD0.self (sz := s.heap.size)
  generalize hAe : va_A [(h0, .inr (13, [.ref (ad 0), .int 0, .int 0, .ref (ad 1), .ref (ad 2), .ref (ad 3), .ref (ad 4), .ref (ad 5), .ref (ad 6)])), ((ad 6), .inr (10, [.ref (ad 2), .ref (ad 1), .ref (ad 48), .ref (ad 49), .ref (ad 50), .ref (ad 51), .ref (ad 52), .int 0, .ref (ad 53), .ref (ad 54), .int 0, .int 0, .int 0, .ref (ad 55), .ref (ad 56), .ref (ad 57), .ref (ad 58), .ref (ad 59), .ref (ad 60), .ref (ad 61), .ref (ad 62)]))] s.heap.size = A at hD ⊢
  have hA : ∀ q : Nat, s.heap.size ≤ q → A q := fun q h => by rw [← hAe]; exact Or.inr h
  have hS : va_S A s.heap s.heap [] := va_S.rf
  have hP : va_P (dC, dI) vwCl [(h0, .inr (13, [.ref (ad 0), .int 0, .int 0, .ref (ad 1), .ref (ad 2), .ref (ad 3), .ref (ad 4), .ref (ad 5), .ref (ad 6)])), ((ad 6), .inr (10, [.ref (ad 2), .ref (ad 1), .ref (ad 48), .ref (ad 49), .ref (ad 50), .ref (ad 51), .ref (ad 52), .int 0, .ref (ad 53), .ref (ad 54), .int 0, .int 0, .int 0, .ref (ad 55), .ref (ad 56), .ref (ad 57), .ref (ad 58), .ref (ad 59), .ref (ad 60), .ref (ad 61), .ref (ad 62)]))] s.heap := hP
  have hl := lv_entry ([.ref h0, .int p0, .int p1, .int p2]) (n := 4) (Nat.le_of_ble_eq_true rfl)
  rw [lg_entry_eq]
  generalize (lg_sl ([.ref h0, .int p0, .int p1, .int p2]) ++ List.replicate (4 - (lg_sl ([.ref h0, .int p0, .int p1, .int p2])).length) Slot.unset).toArray = ls at hl ⊢
  have hl : lv_has ls 4 [(0, .ref h0), (1, .int p0), (2, .int p1), (3, .int p2)] := hl
  have hwX11 : ∀ w ∈ wsX110, w ∈ vw_k_X11_slot := (fun w h => List.mem_append_right _ (List.mem_append_right _ (List.mem_append_right _ (List.mem_append_right _ (List.mem_append_right _ (List.mem_append_right _ (List.mem_append_right _ (List.mem_append_right _ (List.mem_append_right _ (List.mem_append_right _ (List.mem_append_right _ (List.mem_append_right _ h))))))))))))
  refine lv_aload_n hx hb dX11_slot_0 rfl (lv_at hl 0 rfl) ?_
  refine va_get (D := (dC, dI)) (ci := 13) (v := .ref (ad 6)) (C := RX11) (T := TX11) (N := 9) hx hb hts hwX11 hown hK hP 0 rfl rfl 8 (Nat.le_of_ble_eq_true rfl) (hts (.fieldLink RX11 57 "ScriptTypes" "solve\x72" "LScriptTypes$Solver;") (List.mem_of_getElem? (i := 1) (by decide +kernel))) (fun _ h9 => h9) rfl dX11_slot_1 ?_
  refine lv_iload_n hx hb dX11_slot_4 rfl (lv_at hl 1 rfl) ?_
  have hPc := hP.sub (ws' := [((ad 6), .inr (10, [.ref (ad 2), .ref (ad 1), .ref (ad 48), .ref (ad 49), .ref (ad 50), .ref (ad 51), .ref (ad 52), .int 0, .ref (ad 53), .ref (ad 54), .int 0, .int 0, .int 0, .ref (ad 55), .ref (ad 56), .ref (ad 57), .ref (ad 58), .ref (ad 59), .ref (ad 60), .ref (ad 61), .ref (ad 62)]))]) [1] rfl
  have hDc := hD.sub (ws' := [((ad 6), .inr (10, [.ref (ad 2), .ref (ad 1), .ref (ad 48), .ref (ad 49), .ref (ad 50), .ref (ad 51), .ref (ad 52), .int 0, .ref (ad 53), .ref (ad 54), .int 0, .int 0, .int 0, .ref (ad 55), .ref (ad 56), .ref (ad 57), .ref (ad 58), .ref (ad 59), .ref (ad 60), .ref (ad 61), .ref (ad 62)]))]) [1] (by decide) rfl
  have hKc := hK.sub (tys' := []) [] rfl
  have hFc := va_free (wc := [((ad 6), .inr (10, [.ref (ad 2), .ref (ad 1), .ref (ad 48), .ref (ad 49), .ref (ad 50), .ref (ad 51), .ref (ad 52), .int 0, .ref (ad 53), .ref (ad 54), .int 0, .int 0, .int 0, .ref (ad 55), .ref (ad 56), .ref (ad 57), .ref (ad 58), .ref (ad 59), .ref (ad 60), .ref (ad 61), .ref (ad 62)]))]) hD hS hA [1] rfl
  refine va_calli (va_runV (As := [.int p0]) (rest := []) ⟨hx, hb, hml, hown, hts⟩ (a_X8_isReached_3 l dC dI s.heap.size ad p0) (cwV 1 hts vg_k_X11_slot_a_X8_isReached_3 rfl rfl rfl (by decide +kernel) ⟨Nat.le_of_ble_eq_true rfl, Nat.le_of_ble_eq_true rfl⟩) ⟨fun a U g mk q => by obtain ⟨q0, q1, qP, qK, qD⟩ := q; exact ⟨q0, q1, qP, va_K.moved (u := U) (U := U.calling g mk a) (Vm.Alike.refl U.vm) qK, qD⟩, va_recv hKc hPc (ci := 10) (q0 := 0) rfl rfl, fun U hU hW => ⟨rfl, by rw [hU], by rw [hU]; exact hPc, va_K.moved hW.alike hKc, hDc.weaken (fun _ _ _ _ => trivial)⟩⟩ rfl rfl hl.1 rfl (lv_room (Nat.le_of_ble_eq_true rfl)) dX11_slot_5 ⟨Nat.le_of_ble_eq_true rfl, Nat.le_of_ble_eq_true rfl⟩) hS (fun q _ h => hFc q h) hFc (fun r_1 u t H1 locs ht hvm hw hB hz1 hk1 hS => ?_)
  obtain ⟨_, _, _⟩ := u
  obtain ⟨hP1, hK1, hD1⟩ := hB
  rw [ht] at hP1
  have hK1 := va_K.moved hvm.symm hK1
  try dsimp only at hw
  obtain ⟨hP, hD⟩ := va_join (wr := [(h0, .inr (13, [.ref (ad 0), .int 0, .int 0, .ref (ad 1), .ref (ad 2), .ref (ad 3), .ref (ad 4), .ref (ad 5), .ref (ad 6)]))]) (w1 := [((ad 6), .inr (10, [.ref (ad 2), .ref (ad 1), .ref (ad 48), .ref (ad 49), .ref (ad 50), .ref (ad 51), .ref (ad 52), .int 0, .ref (ad 53), .ref (ad 54), .int 0, .int 0, .int 0, .ref (ad 55), .ref (ad 56), .ref (ad 57), .ref (ad 58), .ref (ad 59), .ref (ad 60), .ref (ad 61), .ref (ad 62)]))]) hP hD [1] [0] rfl rfl (by decide) (by decide) hk1 hFc hP1 hD1
  generalize H1 = H at hP hS ⊢
  have hP : va_P (dC, dI) vwCl [(h0, .inr (13, [.ref (ad 0), .int 0, .int 0, .ref (ad 1), .ref (ad 2), .ref (ad 3), .ref (ad 4), .ref (ad 5), .ref (ad 6)])), ((ad 6), .inr (10, [.ref (ad 2), .ref (ad 1), .ref (ad 48), .ref (ad 49), .ref (ad 50), .ref (ad 51), .ref (ad 52), .int 0, .ref (ad 53), .ref (ad 54), .int 0, .int 0, .int 0, .ref (ad 55), .ref (ad 56), .ref (ad 57), .ref (ad 58), .ref (ad 59), .ref (ad 60), .ref (ad 61), .ref (ad 62)]))] H := hP
  have hD : va_D A [(h0, .inr (13, [.ref (ad 0), .int 0, .int 0, .ref (ad 1), .ref (ad 2), .ref (ad 3), .ref (ad 4), .ref (ad 5), .ref (ad 6)])), ((ad 6), .inr (10, [.ref (ad 2), .ref (ad 1), .ref (ad 48), .ref (ad 49), .ref (ad 50), .ref (ad 51), .ref (ad 52), .int 0, .ref (ad 53), .ref (ad 54), .int 0, .int 0, .int 0, .ref (ad 55), .ref (ad 56), .ref (ad 57), .ref (ad 58), .ref (ad 59), .ref (ad 60), .ref (ad 61), .ref (ad 62)]))] := hD
  obtain rfl : r_1 = 0 := hw
  refine lv_if_eq (tgt := 24) hx hb dX11_slot_8 (by decide) (fun _ => ?_) (fun c2_8 => absurd (by decide) c2_8)
  refine lv_lconst (v := 0) hx hb dX11_slot_24 (by decide) ?_
  exact W.lret (v := 0) hx hb hr (fun t ht hW => ⟨⟨0, (), rfl, rfl, trivial⟩, hS.F ht⟩) hS.2.2 dX11_slot_25

def vb_a_X8_isReached_4 : List Cond := .code yX8_isReached cX8_isReached 2 (some .boolean) :: ([.fieldLink RX8 82 "ScriptTypes$Solve\x72" "solved" "Z"] ++ [])
def vw_a_X8_isReached_4 : List Cond := vb_a_X8_isReached_4 ++ wsAll
set_option maxHeartbeats 8000000 in
set_option maxRecDepth 100000 in
theorem a_X8_isReached_4 (l : Launch) (dC : Nat → ClassId) (dI : Nat → Nat → Nat) (sz : Nat) (ad : Nat → Nat) (p0 : Int32) : Met l yX8_isReached vw_a_X8_isReached_4 ({ frames := 0, cells := 0, slots := 0, locals := 0 }) (va_Pc [.ref (ad 6), .int p0] (fun U => U.heap.size = sz ∧ va_P (dC, dI) vwCl [((ad 6), .inr (10, [.ref (ad 2), .ref (ad 1), .ref (ad 48), .ref (ad 49), .ref (ad 50), .ref (ad 51), .ref (ad 52), .int 0, .ref (ad 53), .ref (ad 54), .int 0, .int 0, .int 0, .ref (ad 55), .ref (ad 56), .ref (ad 57), .ref (ad 58), .ref (ad 59), .ref (ad 60), .ref (ad 61), .ref (ad 62)]))] U.heap ∧ va_K (dC, dI) vwCl [] U ∧ va_D (fun _ => True) [((ad 6), .inr (10, [.ref (ad 2), .ref (ad 1), .ref (ad 48), .ref (ad 49), .ref (ad 50), .ref (ad 51), .ref (ad 52), .int 0, .ref (ad 53), .ref (ad 54), .int 0, .int 0, .int 0, .ref (ad 55), .ref (ad 56), .ref (ad 57), .ref (ad 58), .ref (ad 59), .ref (ad 60), .ref (ad 61), .ref (ad 62)]))])) (va_Qi (fun (r : Int32) (u : (Nat → Nat) × (Nat → ClassId) × (Nat → Nat → Int32)) => r = 0) (fun (u : (Nat → Nat) × (Nat → ClassId) × (Nat → Nat → Int32)) t => va_P (dC, dI) vwCl [((ad 6), .inr (10, [.ref (ad 2), .ref (ad 1), .ref (ad 48), .ref (ad 49), .ref (ad 50), .ref (ad 51), .ref (ad 52), .int 0, .ref (ad 53), .ref (ad 54), .int 0, .int 0, .int 0, .ref (ad 55), .ref (ad 56), .ref (ad 57), .ref (ad 58), .ref (ad 59), .ref (ad 60), .ref (ad 61), .ref (ad 62)]))] t.heap ∧ va_K (dC, dI) vwCl [] t ∧ va_D (va_A [((ad 6), .inr (10, [.ref (ad 2), .ref (ad 1), .ref (ad 48), .ref (ad 49), .ref (ad 50), .ref (ad 51), .ref (ad 52), .int 0, .ref (ad 53), .ref (ad 54), .int 0, .int 0, .int 0, .ref (ad 55), .ref (ad 56), .ref (ad 57), .ref (ad 58), .ref (ad 59), .ref (ad 60), .ref (ad 61), .ref (ad 62)]))] sz) [((ad 6), .inr (10, [.ref (ad 2), .ref (ad 1), .ref (ad 48), .ref (ad 49), .ref (ad 50), .ref (ad 51), .ref (ad 52), .int 0, .ref (ad 53), .ref (ad 54), .int 0, .int 0, .int 0, .ref (ad 55), .ref (ad 56), .ref (ad 57), .ref (ad 58), .ref (ad 59), .ref (ad 60), .ref (ad 61), .ref (ad 62)]))]) (va_A [((ad 6), .inr (10, [.ref (ad 2), .ref (ad 1), .ref (ad 48), .ref (ad 49), .ref (ad 50), .ref (ad 51), .ref (ad 52), .int 0, .ref (ad 53), .ref (ad 54), .int 0, .int 0, .int 0, .ref (ad 55), .ref (ad 56), .ref (ad 57), .ref (ad 58), .ref (ad 59), .ref (ad 60), .ref (ad 61), .ref (ad 62)]))] sz)) 0 0 (va_A [((ad 6), .inr (10, [.ref (ad 2), .ref (ad 1), .ref (ad 48), .ref (ad 49), .ref (ad 50), .ref (ad 51), .ref (ad 52), .int 0, .ref (ad 53), .ref (ad 54), .int 0, .int 0, .int 0, .ref (ad 55), .ref (ad 56), .ref (ad 57), .ref (ad 58), .ref (ad 59), .ref (ad 60), .ref (ad 61), .ref (ad 62)]))] sz) := by
  refine Met.ofW (cc := cX8_isReached) (maxL := 2) (ret := (some .boolean)) (by decide) rfl ?_
  intro p e s m args below meth c s₁ B hml hv
  obtain ⟨rfl, hsz, hP, hK, hD0⟩ := hv
  have hx := B.exec
  have hb := B.bytes
  have hr := B.returns
  have hts := atoms_spec (ws := vw_a_X8_isReached_4) B.pre
  have hown : s.vm.findClass RX8 = some m.cls := findClass_of_methodNamed B.named
  have hlocks := B.notSynchronized
  subst hsz
  have hD := hD0.self (sz := s.heap.size)
  generalize hAe : va_A [((ad 6), .inr (10, [.ref (ad 2), .ref (ad 1), .ref (ad 48), .ref (ad 49), .ref (ad 50), .ref (ad 51), .ref (ad 52), .int 0, .ref (ad 53), .ref (ad 54), .int 0, .int 0, .int 0, .ref (ad 55), .ref (ad 56), .ref (ad 57), .ref (ad 58), .ref (ad 59), .ref (ad 60), .ref (ad 61), .ref (ad 62)]))] s.heap.size = A at hD ⊢
  have hA : ∀ q : Nat, s.heap.size ≤ q → A q := fun q h => by rw [← hAe]; exact Or.inr h
  have hS : va_S A s.heap s.heap [] := va_S.rf
  have hP : va_P (dC, dI) vwCl [((ad 6), .inr (10, [.ref (ad 2), .ref (ad 1), .ref (ad 48), .ref (ad 49), .ref (ad 50), .ref (ad 51), .ref (ad 52), .int 0, .ref (ad 53), .ref (ad 54), .int 0, .int 0, .int 0, .ref (ad 55), .ref (ad 56), .ref (ad 57), .ref (ad 58), .ref (ad 59), .ref (ad 60), .ref (ad 61), .ref (ad 62)]))] s.heap := hP
  have hl := lv_entry ([.ref (ad 6), .int p0]) (n := 2) (Nat.le_of_ble_eq_true rfl)
  rw [lg_entry_eq]
  generalize (lg_sl ([.ref (ad 6), .int p0]) ++ List.replicate (2 - (lg_sl ([.ref (ad 6), .int p0])).length) Slot.unset).toArray = ls at hl ⊢
  have hl : lv_has ls 2 [(0, .ref (ad 6)), (1, .int p0)] := hl
  have hwX8 : ∀ w ∈ wsX80, w ∈ vw_a_X8_isReached_4 := (fun w h => List.mem_append_right _ (List.mem_append_right _ (List.mem_append_right _ (List.mem_append_right _ (List.mem_append_right _ (List.mem_append_right _ (List.mem_append_right _ (List.mem_append_right _ (List.mem_append_right _ (List.mem_append_left _ h))))))))))
  refine lv_aload_n hx hb dX8_isReached_0 rfl (lv_at hl 0 rfl) ?_
  refine va_get (D := (dC, dI)) (ci := 10) (v := .int 0) (C := RX8) (T := TX8) (N := 21) hx hb hts hwX8 hown hK hP 0 rfl rfl 10 (Nat.le_of_ble_eq_true rfl) (hts (.fieldLink RX8 82 "ScriptTypes$Solve\x72" "solved" "Z") (List.mem_of_getElem? (i := 1) (by decide +kernel))) (fun _ h9 => h9) rfl dX8_isReached_1 ?_
  refine lv_if_eq (tgt := 35) hx hb dX8_isReached_4 (by decide) (fun _ => ?_) (fun c1_4 => absurd (by decide) c1_4)
  refine lv_iconst (v := 0) hx hb dX8_isReached_35 (by decide) ?_
  refine W.widen (k := 0) (n := 0) (Nat.le_of_ble_eq_true rfl) (Nat.le_of_ble_eq_true rfl) ?_
  exact W.zret (v := 0) hx hb hr rfl (fun t ht hW => ⟨⟨0, (fun n => ([] : List Nat).getD n 0, fun n => ([] : List ClassId).getD n 0, fun n => ([] : List (Nat → Int32)).getD n (fun _ => 0)), rfl, rfl, by rw [ht]; exact hP, va_K.moved hW.alike hK, hD⟩, hS.F ht⟩) hS.2.2 dX8_isReached_36

def vb_k_X11_field : List Cond := .code yX11_field cX11_field 5 (some .long) :: ([.fieldLink RX11 57 "ScriptTypes" "solve\x72" "LScriptTypes$Solver;", .methodLink RX11 165 yX8_isReached, .instanceMethod yX8_isReached, .selects RX8 yX8_isReached yX8_isReached, .initialized RX8] ++ (vb_a_X8_isReached_4 ++ []))
def vw_k_X11_field : List Cond := vb_k_X11_field ++ wsAll
set_option maxRecDepth 20000 in
theorem vg_k_X11_field_a_X8_isReached_4 : GoodIn vw_k_X11_field (wsV RX11 165 RX8 yX8_isReached vw_a_X8_isReached_4) := goodIn_app (goodIn_of _ (by decide +kernel)) (goodIn_sub (v_sub (fun w h => List.mem_cons_of_mem _ (List.mem_append_right _ (List.mem_append_left _ (h))))) (by decide +kernel))
set_option maxHeartbeats 8000000 in
set_option maxRecDepth 100000 in
theorem k_X11_field (l : Launch) (dC : Nat → ClassId) (dI : Nat → Nat → Nat) (sz : Nat) (h0 : Nat) (ad : Nat → Nat) (p0 : Int32) (p1 : Int32) (p2 : Int32) (p3 : Int32) : Met l yX11_field vw_k_X11_field ({ frames := 1, cells := 0, slots := 0, locals := 21 }) (va_Pc [.ref h0, .int p0, .int p1, .int p2, .int p3] (fun U => U.heap.size = sz ∧ va_P (dC, dI) vwCl [(h0, .inr (13, [.ref (ad 0), .int 0, .int 0, .ref (ad 1), .ref (ad 2), .ref (ad 3), .ref (ad 4), .ref (ad 5), .ref (ad 6)])), ((ad 6), .inr (10, [.ref (ad 2), .ref (ad 1), .ref (ad 48), .ref (ad 49), .ref (ad 50), .ref (ad 51), .ref (ad 52), .int 0, .ref (ad 53), .ref (ad 54), .int 0, .int 0, .int 0, .ref (ad 55), .ref (ad 56), .ref (ad 57), .ref (ad 58), .ref (ad 59), .ref (ad 60), .ref (ad 61), .ref (ad 62)]))] U.heap ∧ va_K (dC, dI) vwCl [] U ∧ va_D (fun _ => True) [(h0, .inr (13, [.ref (ad 0), .int 0, .int 0, .ref (ad 1), .ref (ad 2), .ref (ad 3), .ref (ad 4), .ref (ad 5), .ref (ad 6)])), ((ad 6), .inr (10, [.ref (ad 2), .ref (ad 1), .ref (ad 48), .ref (ad 49), .ref (ad 50), .ref (ad 51), .ref (ad 52), .int 0, .ref (ad 53), .ref (ad 54), .int 0, .int 0, .int 0, .ref (ad 55), .ref (ad 56), .ref (ad 57), .ref (ad 58), .ref (ad 59), .ref (ad 60), .ref (ad 61), .ref (ad 62)]))])) (va_Ql (fun (r : Int64) (_ : Unit) => r = 0) (fun _ _ => True) (va_A [(h0, .inr (13, [.ref (ad 0), .int 0, .int 0, .ref (ad 1), .ref (ad 2), .ref (ad 3), .ref (ad 4), .ref (ad 5), .ref (ad 6)])), ((ad 6), .inr (10, [.ref (ad 2), .ref (ad 1), .ref (ad 48), .ref (ad 49), .ref (ad 50), .ref (ad 51), .ref (ad 52), .int 0, .ref (ad 53), .ref (ad 54), .int 0, .int 0, .int 0, .ref (ad 55), .ref (ad 56), .ref (ad 57), .ref (ad 58), .ref (ad 59), .ref (ad 60), .ref (ad 61), .ref (ad 62)]))] sz)) 0 0 (va_A [(h0, .inr (13, [.ref (ad 0), .int 0, .int 0, .ref (ad 1), .ref (ad 2), .ref (ad 3), .ref (ad 4), .ref (ad 5), .ref (ad 6)])), ((ad 6), .inr (10, [.ref (ad 2), .ref (ad 1), .ref (ad 48), .ref (ad 49), .ref (ad 50), .ref (ad 51), .ref (ad 52), .int 0, .ref (ad 53), .ref (ad 54), .int 0, .int 0, .int 0, .ref (ad 55), .ref (ad 56), .ref (ad 57), .ref (ad 58), .ref (ad 59), .ref (ad 60), .ref (ad 61), .ref (ad 62)]))] sz) := by
  refine Met.ofW (cc := cX11_field) (maxL := 5) (ret := (some .long)) (by decide) rfl ?_
  intro p e s m args below meth c s₁ B hml hv
  obtain ⟨rfl, hsz, hP, hK, hD0⟩ := hv
  have hx := B.exec
  have hb := B.bytes
  have hr := B.returns
  have hts := atoms_spec (ws := vw_k_X11_field) B.pre
  have hown : s.vm.findClass RX11 = some m.cls := findClass_of_methodNamed B.named
  have hlocks := B.notSynchronized
  subst hsz
  have hD := hD0.self (sz := s.heap.size)
  generalize hAe : va_A [(h0, .inr (13, [.ref (ad 0), .int 0, .int 0, .ref (ad 1), .ref (ad 2), .ref (ad 3), .ref (ad 4), .ref (ad 5), .ref (ad 6)])), ((ad 6), .inr (10, [.ref (ad 2), .ref (ad 1), .ref (ad 48), .ref (ad 49), .ref (ad 50), .ref (ad 51), .ref (ad 52), .int 0, .ref (ad 53), .ref (ad 54), .int 0, .int 0, .int 0, .ref (ad 55), .ref (ad 56), .ref (ad 57), .ref (ad 58), .ref (ad 59), .ref (ad 60), .ref (ad 61), .ref (ad 62)]))] s.heap.size = A at hD ⊢
  have hA : ∀ q : Nat, s.heap.size ≤ q → A q := fun q h => by rw [← hAe]; exact Or.inr h
  have hS : va_S A s.heap s.heap [] := va_S.rf
  have hP : va_P (dC, dI) vwCl [(h0, .inr (13, [.ref (ad 0), .int 0, .int 0, .ref (ad 1), .ref (ad 2), .ref (ad 3), .ref (ad 4), .ref (ad 5), .ref (ad 6)])), ((ad 6), .inr (10, [.ref (ad 2), .ref (ad 1), .ref (ad 48), .ref (ad 49), .ref (ad 50), .ref (ad 51), .ref (ad 52), .int 0, .ref (ad 53), .ref (ad 54), .int 0, .int 0, .int 0, .ref (ad 55), .ref (ad 56), .ref (ad 57), .ref (ad 58), .ref (ad 59), .ref (ad 60), .ref (ad 61), .ref (ad 62)]))] s.heap := hP
  have hl := lv_entry ([.ref h0, .int p0, .int p1, .int p2, .int p3]) (n := 5) (Nat.le_of_ble_eq_true rfl)
  rw [lg_entry_eq]
  generalize (lg_sl ([.ref h0, .int p0, .int p1, .int p2, .int p3]) ++ List.replicate (5 - (lg_sl ([.ref h0, .int p0, .int p1, .int p2, .int p3])).length) Slot.unset).toArray = ls at hl ⊢
  have hl : lv_has ls 5 [(0, .ref h0), (1, .int p0), (2, .int p1), (3, .int p2), (4, .int p3)] := hl
  have hwX11 : ∀ w ∈ wsX110, w ∈ vw_k_X11_field := (fun w h => List.mem_append_right _ (List.mem_append_right _ (List.mem_append_right _ (List.mem_append_right _ (List.mem_append_right _ (List.mem_append_right _ (List.mem_append_right _ (List.mem_append_right _ (List.mem_append_right _ (List.mem_append_right _ (List.mem_append_right _ (List.mem_append_right _ h))))))))))))
  refine lv_aload_n hx hb dX11_field_0 rfl (lv_at hl 0 rfl) ?_
  refine va_get (D := (dC, dI)) (ci := 13) (v := .ref (ad 6)) (C := RX11) (T := TX11) (N := 9) hx hb hts hwX11 hown hK hP 0 rfl rfl 8 (Nat.le_of_ble_eq_true rfl) (hts (.fieldLink RX11 57 "ScriptTypes" "solve\x72" "LScriptTypes$Solver;") (List.mem_of_getElem? (i := 1) (by decide +kernel))) (fun _ h9 => h9) rfl dX11_field_1 ?_
  refine lv_iload_n hx hb dX11_field_4 rfl (lv_at hl 1 rfl) ?_
  have hPc := hP.sub (ws' := [((ad 6), .inr (10, [.ref (ad 2), .ref (ad 1), .ref (ad 48), .ref (ad 49), .ref (ad 50), .ref (ad 51), .ref (ad 52), .int 0, .ref (ad 53), .ref (ad 54), .int 0, .int 0, .int 0, .ref (ad 55), .ref (ad 56), .ref (ad 57), .ref (ad 58), .ref (ad 59), .ref (ad 60), .ref (ad 61), .ref (ad 62)]))]) [1] rfl
  have hDc := hD.sub (ws' := [((ad 6), .inr (10, [.ref (ad 2), .ref (ad 1), .ref (ad 48), .ref (ad 49), .ref (ad 50), .ref (ad 51), .ref (ad 52), .int 0, .ref (ad 53), .ref (ad 54), .int 0, .int 0, .int 0, .ref (ad 55), .ref (ad 56), .ref (ad 57), .ref (ad 58), .ref (ad 59), .ref (ad 60), .ref (ad 61), .ref (ad 62)]))]) [1] (by decide) rfl
  have hKc := hK.sub (tys' := []) [] rfl
  have hFc := va_free (wc := [((ad 6), .inr (10, [.ref (ad 2), .ref (ad 1), .ref (ad 48), .ref (ad 49), .ref (ad 50), .ref (ad 51), .ref (ad 52), .int 0, .ref (ad 53), .ref (ad 54), .int 0, .int 0, .int 0, .ref (ad 55), .ref (ad 56), .ref (ad 57), .ref (ad 58), .ref (ad 59), .ref (ad 60), .ref (ad 61), .ref (ad 62)]))]) hD hS hA [1] rfl
  refine va_calli (va_runV (As := [.int p0]) (rest := []) ⟨hx, hb, hml, hown, hts⟩ (a_X8_isReached_4 l dC dI s.heap.size ad p0) (cwV 1 hts vg_k_X11_field_a_X8_isReached_4 rfl rfl rfl (by decide +kernel) ⟨Nat.le_of_ble_eq_true rfl, Nat.le_of_ble_eq_true rfl⟩) ⟨fun a U g mk q => by obtain ⟨q0, q1, qP, qK, qD⟩ := q; exact ⟨q0, q1, qP, va_K.moved (u := U) (U := U.calling g mk a) (Vm.Alike.refl U.vm) qK, qD⟩, va_recv hKc hPc (ci := 10) (q0 := 0) rfl rfl, fun U hU hW => ⟨rfl, by rw [hU], by rw [hU]; exact hPc, va_K.moved hW.alike hKc, hDc.weaken (fun _ _ _ _ => trivial)⟩⟩ rfl rfl hl.1 rfl (lv_room (Nat.le_of_ble_eq_true rfl)) dX11_field_5 ⟨Nat.le_of_ble_eq_true rfl, Nat.le_of_ble_eq_true rfl⟩) hS (fun q _ h => hFc q h) hFc (fun r_1 u t H1 locs ht hvm hw hB hz1 hk1 hS => ?_)
  obtain ⟨_, _, _⟩ := u
  obtain ⟨hP1, hK1, hD1⟩ := hB
  rw [ht] at hP1
  have hK1 := va_K.moved hvm.symm hK1
  try dsimp only at hw
  obtain ⟨hP, hD⟩ := va_join (wr := [(h0, .inr (13, [.ref (ad 0), .int 0, .int 0, .ref (ad 1), .ref (ad 2), .ref (ad 3), .ref (ad 4), .ref (ad 5), .ref (ad 6)]))]) (w1 := [((ad 6), .inr (10, [.ref (ad 2), .ref (ad 1), .ref (ad 48), .ref (ad 49), .ref (ad 50), .ref (ad 51), .ref (ad 52), .int 0, .ref (ad 53), .ref (ad 54), .int 0, .int 0, .int 0, .ref (ad 55), .ref (ad 56), .ref (ad 57), .ref (ad 58), .ref (ad 59), .ref (ad 60), .ref (ad 61), .ref (ad 62)]))]) hP hD [1] [0] rfl rfl (by decide) (by decide) hk1 hFc hP1 hD1
  generalize H1 = H at hP hS ⊢
  have hP : va_P (dC, dI) vwCl [(h0, .inr (13, [.ref (ad 0), .int 0, .int 0, .ref (ad 1), .ref (ad 2), .ref (ad 3), .ref (ad 4), .ref (ad 5), .ref (ad 6)])), ((ad 6), .inr (10, [.ref (ad 2), .ref (ad 1), .ref (ad 48), .ref (ad 49), .ref (ad 50), .ref (ad 51), .ref (ad 52), .int 0, .ref (ad 53), .ref (ad 54), .int 0, .int 0, .int 0, .ref (ad 55), .ref (ad 56), .ref (ad 57), .ref (ad 58), .ref (ad 59), .ref (ad 60), .ref (ad 61), .ref (ad 62)]))] H := hP
  have hD : va_D A [(h0, .inr (13, [.ref (ad 0), .int 0, .int 0, .ref (ad 1), .ref (ad 2), .ref (ad 3), .ref (ad 4), .ref (ad 5), .ref (ad 6)])), ((ad 6), .inr (10, [.ref (ad 2), .ref (ad 1), .ref (ad 48), .ref (ad 49), .ref (ad 50), .ref (ad 51), .ref (ad 52), .int 0, .ref (ad 53), .ref (ad 54), .int 0, .int 0, .int 0, .ref (ad 55), .ref (ad 56), .ref (ad 57), .ref (ad 58), .ref (ad 59), .ref (ad 60), .ref (ad 61), .ref (ad 62)]))] := hD
  obtain rfl : r_1 = 0 := hw
  refine lv_if_eq (tgt := 26) hx hb dX11_field_8 (by decide) (fun _ => ?_) (fun c2_8 => absurd (by decide) c2_8)
  refine lv_lconst (v := 0) hx hb dX11_field_26 (by decide) ?_
  exact W.lret (v := 0) hx hb hr (fun t ht hW => ⟨⟨0, (), rfl, rfl, trivial⟩, hS.F ht⟩) hS.2.2 dX11_field_27

def vb_a_X8_isReached_5 : List Cond := .code yX8_isReached cX8_isReached 2 (some .boolean) :: ([.fieldLink RX8 82 "ScriptTypes$Solve\x72" "solved" "Z"] ++ [])
def vw_a_X8_isReached_5 : List Cond := vb_a_X8_isReached_5 ++ wsAll
set_option maxHeartbeats 8000000 in
set_option maxRecDepth 100000 in
theorem a_X8_isReached_5 (l : Launch) (dC : Nat → ClassId) (dI : Nat → Nat → Nat) (sz : Nat) (ad : Nat → Nat) (p0 : Int32) : Met l yX8_isReached vw_a_X8_isReached_5 ({ frames := 0, cells := 0, slots := 0, locals := 0 }) (va_Pc [.ref (ad 6), .int p0] (fun U => U.heap.size = sz ∧ va_P (dC, dI) vwCl [((ad 6), .inr (10, [.ref (ad 2), .ref (ad 1), .ref (ad 48), .ref (ad 49), .ref (ad 50), .ref (ad 51), .ref (ad 52), .int 0, .ref (ad 53), .ref (ad 54), .int 0, .int 0, .int 0, .ref (ad 55), .ref (ad 56), .ref (ad 57), .ref (ad 58), .ref (ad 59), .ref (ad 60), .ref (ad 61), .ref (ad 62)]))] U.heap ∧ va_K (dC, dI) vwCl [] U ∧ va_D (fun _ => True) [((ad 6), .inr (10, [.ref (ad 2), .ref (ad 1), .ref (ad 48), .ref (ad 49), .ref (ad 50), .ref (ad 51), .ref (ad 52), .int 0, .ref (ad 53), .ref (ad 54), .int 0, .int 0, .int 0, .ref (ad 55), .ref (ad 56), .ref (ad 57), .ref (ad 58), .ref (ad 59), .ref (ad 60), .ref (ad 61), .ref (ad 62)]))])) (va_Qi (fun (r : Int32) (u : (Nat → Nat) × (Nat → ClassId) × (Nat → Nat → Int32)) => r = 0) (fun (u : (Nat → Nat) × (Nat → ClassId) × (Nat → Nat → Int32)) t => va_P (dC, dI) vwCl [((ad 6), .inr (10, [.ref (ad 2), .ref (ad 1), .ref (ad 48), .ref (ad 49), .ref (ad 50), .ref (ad 51), .ref (ad 52), .int 0, .ref (ad 53), .ref (ad 54), .int 0, .int 0, .int 0, .ref (ad 55), .ref (ad 56), .ref (ad 57), .ref (ad 58), .ref (ad 59), .ref (ad 60), .ref (ad 61), .ref (ad 62)]))] t.heap ∧ va_K (dC, dI) vwCl [] t ∧ va_D (va_A [((ad 6), .inr (10, [.ref (ad 2), .ref (ad 1), .ref (ad 48), .ref (ad 49), .ref (ad 50), .ref (ad 51), .ref (ad 52), .int 0, .ref (ad 53), .ref (ad 54), .int 0, .int 0, .int 0, .ref (ad 55), .ref (ad 56), .ref (ad 57), .ref (ad 58), .ref (ad 59), .ref (ad 60), .ref (ad 61), .ref (ad 62)]))] sz) [((ad 6), .inr (10, [.ref (ad 2), .ref (ad 1), .ref (ad 48), .ref (ad 49), .ref (ad 50), .ref (ad 51), .ref (ad 52), .int 0, .ref (ad 53), .ref (ad 54), .int 0, .int 0, .int 0, .ref (ad 55), .ref (ad 56), .ref (ad 57), .ref (ad 58), .ref (ad 59), .ref (ad 60), .ref (ad 61), .ref (ad 62)]))]) (va_A [((ad 6), .inr (10, [.ref (ad 2), .ref (ad 1), .ref (ad 48), .ref (ad 49), .ref (ad 50), .ref (ad 51), .ref (ad 52), .int 0, .ref (ad 53), .ref (ad 54), .int 0, .int 0, .int 0, .ref (ad 55), .ref (ad 56), .ref (ad 57), .ref (ad 58), .ref (ad 59), .ref (ad 60), .ref (ad 61), .ref (ad 62)]))] sz)) 0 0 (va_A [((ad 6), .inr (10, [.ref (ad 2), .ref (ad 1), .ref (ad 48), .ref (ad 49), .ref (ad 50), .ref (ad 51), .ref (ad 52), .int 0, .ref (ad 53), .ref (ad 54), .int 0, .int 0, .int 0, .ref (ad 55), .ref (ad 56), .ref (ad 57), .ref (ad 58), .ref (ad 59), .ref (ad 60), .ref (ad 61), .ref (ad 62)]))] sz) := by
  refine Met.ofW (cc := cX8_isReached) (maxL := 2) (ret := (some .boolean)) (by decide) rfl ?_
  intro p e s m args below meth c s₁ B hml hv
  obtain ⟨rfl, hsz, hP, hK, hD0⟩ := hv
  have hx := B.exec
  have hb := B.bytes
  have hr := B.returns
  have hts := atoms_spec (ws := vw_a_X8_isReached_5) B.pre
  have hown : s.vm.findClass RX8 = some m.cls := findClass_of_methodNamed B.named
  have hlocks := B.notSynchronized
  subst hsz
  have hD := hD0.self (sz := s.heap.size)
  generalize hAe : va_A [((ad 6), .inr (10, [.ref (ad 2), .ref (ad 1), .ref (ad 48), .ref (ad 49), .ref (ad 50), .ref (ad 51), .ref (ad 52), .int 0, .ref (ad 53), .ref (ad 54), .int 0, .int 0, .int 0, .ref (ad 55), .ref (ad 56), .ref (ad 57), .ref (ad 58), .ref (ad 59), .ref (ad 60), .ref (ad 61), .ref (ad 62)]))] s.heap.size = A at hD ⊢
  have hA : ∀ q : Nat, s.heap.size ≤ q → A q := fun q h => by rw [← hAe]; exact Or.inr h
  have hS : va_S A s.heap s.heap [] := va_S.rf
  have hP : va_P (dC, dI) vwCl [((ad 6), .inr (10, [.ref (ad 2), .ref (ad 1), .ref (ad 48), .ref (ad 49), .ref (ad 50), .ref (ad 51), .ref (ad 52), .int 0, .ref (ad 53), .ref (ad 54), .int 0, .int 0, .int 0, .ref (ad 55), .ref (ad 56), .ref (ad 57), .ref (ad 58), .ref (ad 59), .ref (ad 60), .ref (ad 61), .ref (ad 62)]))] s.heap := hP
  have hl := lv_entry ([.ref (ad 6), .int p0]) (n := 2) (Nat.le_of_ble_eq_true rfl)
  rw [lg_entry_eq]
  generalize (lg_sl ([.ref (ad 6), .int p0]) ++ List.replicate (2 - (lg_sl ([.ref (ad 6), .int p0])).length) Slot.unset).toArray = ls at hl ⊢
  have hl : lv_has ls 2 [(0, .ref (ad 6)), (1, .int p0)] := hl
  have hwX8 : ∀ w ∈ wsX80, w ∈ vw_a_X8_isReached_5 := (fun w h => List.mem_append_right _ (List.mem_append_right _ (List.mem_append_right _ (List.mem_append_right _ (List.mem_append_right _ (List.mem_append_right _ (List.mem_append_right _ (List.mem_append_right _ (List.mem_append_right _ (List.mem_append_left _ h))))))))))
  refine lv_aload_n hx hb dX8_isReached_0 rfl (lv_at hl 0 rfl) ?_
  refine va_get (D := (dC, dI)) (ci := 10) (v := .int 0) (C := RX8) (T := TX8) (N := 21) hx hb hts hwX8 hown hK hP 0 rfl rfl 10 (Nat.le_of_ble_eq_true rfl) (hts (.fieldLink RX8 82 "ScriptTypes$Solve\x72" "solved" "Z") (List.mem_of_getElem? (i := 1) (by decide +kernel))) (fun _ h9 => h9) rfl dX8_isReached_1 ?_
  refine lv_if_eq (tgt := 35) hx hb dX8_isReached_4 (by decide) (fun _ => ?_) (fun c1_4 => absurd (by decide) c1_4)
  refine lv_iconst (v := 0) hx hb dX8_isReached_35 (by decide) ?_
  refine W.widen (k := 0) (n := 0) (Nat.le_of_ble_eq_true rfl) (Nat.le_of_ble_eq_true rfl) ?_
  exact W.zret (v := 0) hx hb hr rfl (fun t ht hW => ⟨⟨0, (fun n => ([] : List Nat).getD n 0, fun n => ([] : List ClassId).getD n 0, fun n => ([] : List (Nat → Int32)).getD n (fun _ => 0)), rfl, rfl, by rw [ht]; exact hP, va_K.moved hW.alike hK, hD⟩, hS.F ht⟩) hS.2.2 dX8_isReached_36

def vb_k_X11_link : List Cond := .code yX11_link cX11_link 4 (some .long) :: ([.fieldLink RX11 57 "ScriptTypes" "solve\x72" "LScriptTypes$Solver;", .methodLink RX11 165 yX8_isReached, .instanceMethod yX8_isReached, .selects RX8 yX8_isReached yX8_isReached, .initialized RX8] ++ (vb_a_X8_isReached_5 ++ []))
def vw_k_X11_link : List Cond := vb_k_X11_link ++ wsAll
set_option maxRecDepth 20000 in
theorem vg_k_X11_link_a_X8_isReached_5 : GoodIn vw_k_X11_link (wsV RX11 165 RX8 yX8_isReached vw_a_X8_isReached_5) := goodIn_app (goodIn_of _ (by decide +kernel)) (goodIn_sub (v_sub (fun w h => List.mem_cons_of_mem _ (List.mem_append_right _ (List.mem_append_left _ (h))))) (by decide +kernel))
set_option maxHeartbeats 8000000 in
set_option maxRecDepth 100000 in
theorem k_X11_link (l : Launch) (dC : Nat → ClassId) (dI : Nat → Nat → Nat) (sz : Nat) (h0 : Nat) (ad : Nat → Nat) (p0 : Int32) (p1 : Int32) (p2 : Int32) : Met l yX11_link vw_k_X11_link ({ frames := 1, cells := 0, slots := 0, locals := 21 }) (va_Pc [.ref h0, .int p0, .int p1, .int p2] (fun U => U.heap.size = sz ∧ va_P (dC, dI) vwCl [(h0, .inr (13, [.ref (ad 0), .int 0, .int 0, .ref (ad 1), .ref (ad 2), .ref (ad 3), .ref (ad 4), .ref (ad 5), .ref (ad 6)])), ((ad 6), .inr (10, [.ref (ad 2), .ref (ad 1), .ref (ad 48), .ref (ad 49), .ref (ad 50), .ref (ad 51), .ref (ad 52), .int 0, .ref (ad 53), .ref (ad 54), .int 0, .int 0, .int 0, .ref (ad 55), .ref (ad 56), .ref (ad 57), .ref (ad 58), .ref (ad 59), .ref (ad 60), .ref (ad 61), .ref (ad 62)]))] U.heap ∧ va_K (dC, dI) vwCl [] U ∧ va_D (fun _ => True) [(h0, .inr (13, [.ref (ad 0), .int 0, .int 0, .ref (ad 1), .ref (ad 2), .ref (ad 3), .ref (ad 4), .ref (ad 5), .ref (ad 6)])), ((ad 6), .inr (10, [.ref (ad 2), .ref (ad 1), .ref (ad 48), .ref (ad 49), .ref (ad 50), .ref (ad 51), .ref (ad 52), .int 0, .ref (ad 53), .ref (ad 54), .int 0, .int 0, .int 0, .ref (ad 55), .ref (ad 56), .ref (ad 57), .ref (ad 58), .ref (ad 59), .ref (ad 60), .ref (ad 61), .ref (ad 62)]))])) (va_Ql (fun (r : Int64) (_ : Unit) => r = 0) (fun _ _ => True) (va_A [(h0, .inr (13, [.ref (ad 0), .int 0, .int 0, .ref (ad 1), .ref (ad 2), .ref (ad 3), .ref (ad 4), .ref (ad 5), .ref (ad 6)])), ((ad 6), .inr (10, [.ref (ad 2), .ref (ad 1), .ref (ad 48), .ref (ad 49), .ref (ad 50), .ref (ad 51), .ref (ad 52), .int 0, .ref (ad 53), .ref (ad 54), .int 0, .int 0, .int 0, .ref (ad 55), .ref (ad 56), .ref (ad 57), .ref (ad 58), .ref (ad 59), .ref (ad 60), .ref (ad 61), .ref (ad 62)]))] sz)) 0 0 (va_A [(h0, .inr (13, [.ref (ad 0), .int 0, .int 0, .ref (ad 1), .ref (ad 2), .ref (ad 3), .ref (ad 4), .ref (ad 5), .ref (ad 6)])), ((ad 6), .inr (10, [.ref (ad 2), .ref (ad 1), .ref (ad 48), .ref (ad 49), .ref (ad 50), .ref (ad 51), .ref (ad 52), .int 0, .ref (ad 53), .ref (ad 54), .int 0, .int 0, .int 0, .ref (ad 55), .ref (ad 56), .ref (ad 57), .ref (ad 58), .ref (ad 59), .ref (ad 60), .ref (ad 61), .ref (ad 62)]))] sz) := by
  refine Met.ofW (cc := cX11_link) (maxL := 4) (ret := (some .long)) (by decide) rfl ?_
  intro p e s m args below meth c s₁ B hml hv
  obtain ⟨rfl, hsz, hP, hK, hD0⟩ := hv
  have hx := B.exec
  have hb := B.bytes
  have hr := B.returns
  have hts := atoms_spec (ws := vw_k_X11_link) B.pre
  have hown : s.vm.findClass RX11 = some m.cls := findClass_of_methodNamed B.named
  have hlocks := B.notSynchronized
  subst hsz
  have hD := hD0.self (sz := s.heap.size)
  generalize hAe : va_A [(h0, .inr (13, [.ref (ad 0), .int 0, .int 0, .ref (ad 1), .ref (ad 2), .ref (ad 3), .ref (ad 4), .ref (ad 5), .ref (ad 6)])), ((ad 6), .inr (10, [.ref (ad 2), .ref (ad 1), .ref (ad 48), .ref (ad 49), .ref (ad 50), .ref (ad 51), .ref (ad 52), .int 0, .ref (ad 53), .ref (ad 54), .int 0, .int 0, .int 0, .ref (ad 55), .ref (ad 56), .ref (ad 57), .ref (ad 58), .ref (ad 59), .ref (ad 60), .ref (ad 61), .ref (ad 62)]))] s.heap.size = A at hD ⊢
  have hA : ∀ q : Nat, s.heap.size ≤ q → A q := fun q h => by rw [← hAe]; exact Or.inr h
  have hS : va_S A s.heap s.heap [] := va_S.rf
  have hP : va_P (dC, dI) vwCl [(h0, .inr (13, [.ref (ad 0), .int 0, .int 0, .ref (ad 1), .ref (ad 2), .ref (ad 3), .ref (ad 4), .ref (ad 5), .ref (ad 6)])), ((ad 6), .inr (10, [.ref (ad 2), .ref (ad 1), .ref (ad 48), .ref (ad 49), .ref (ad 50), .ref (ad 51), .ref (ad 52), .int 0, .ref (ad 53), .ref (ad 54), .int 0, .int 0, .int 0, .ref (ad 55), .ref (ad 56), .ref (ad 57), .ref (ad 58), .ref (ad 59), .ref (ad 60), .ref (ad 61), .ref (ad 62)]))] s.heap := hP
  have hl := lv_entry ([.ref h0, .int p0, .int p1, .int p2]) (n := 4) (Nat.le_of_ble_eq_true rfl)
  rw [lg_entry_eq]
  generalize (lg_sl ([.ref h0, .int p0, .int p1, .int p2]) ++ List.replicate (4 - (lg_sl ([.ref h0, .int p0, .int p1, .int p2])).length) Slot.unset).toArray = ls at hl ⊢
  have hl : lv_has ls 4 [(0, .ref h0), (1, .int p0), (2, .int p1), (3, .int p2)] := hl
  have hwX11 : ∀ w ∈ wsX110, w ∈ vw_k_X11_link := (fun w h => List.mem_append_right _ (List.mem_append_right _ (List.mem_append_right _ (List.mem_append_right _ (List.mem_append_right _ (List.mem_append_right _ (List.mem_append_right _ (List.mem_append_right _ (List.mem_append_right _ (List.mem_append_right _ (List.mem_append_right _ (List.mem_append_right _ h))))))))))))
  refine lv_aload_n hx hb dX11_link_0 rfl (lv_at hl 0 rfl) ?_
  refine va_get (D := (dC, dI)) (ci := 13) (v := .ref (ad 6)) (C := RX11) (T := TX11) (N := 9) hx hb hts hwX11 hown hK hP 0 rfl rfl 8 (Nat.le_of_ble_eq_true rfl) (hts (.fieldLink RX11 57 "ScriptTypes" "solve\x72" "LScriptTypes$Solver;") (List.mem_of_getElem? (i := 1) (by decide +kernel))) (fun _ h9 => h9) rfl dX11_link_1 ?_
  refine lv_iload_n hx hb dX11_link_4 rfl (lv_at hl 1 rfl) ?_
  have hPc := hP.sub (ws' := [((ad 6), .inr (10, [.ref (ad 2), .ref (ad 1), .ref (ad 48), .ref (ad 49), .ref (ad 50), .ref (ad 51), .ref (ad 52), .int 0, .ref (ad 53), .ref (ad 54), .int 0, .int 0, .int 0, .ref (ad 55), .ref (ad 56), .ref (ad 57), .ref (ad 58), .ref (ad 59), .ref (ad 60), .ref (ad 61), .ref (ad 62)]))]) [1] rfl
  have hDc := hD.sub (ws' := [((ad 6), .inr (10, [.ref (ad 2), .ref (ad 1), .ref (ad 48), .ref (ad 49), .ref (ad 50), .ref (ad 51), .ref (ad 52), .int 0, .ref (ad 53), .ref (ad 54), .int 0, .int 0, .int 0, .ref (ad 55), .ref (ad 56), .ref (ad 57), .ref (ad 58), .ref (ad 59), .ref (ad 60), .ref (ad 61), .ref (ad 62)]))]) [1] (by decide) rfl
  have hKc := hK.sub (tys' := []) [] rfl
  have hFc := va_free (wc := [((ad 6), .inr (10, [.ref (ad 2), .ref (ad 1), .ref (ad 48), .ref (ad 49), .ref (ad 50), .ref (ad 51), .ref (ad 52), .int 0, .ref (ad 53), .ref (ad 54), .int 0, .int 0, .int 0, .ref (ad 55), .ref (ad 56), .ref (ad 57), .ref (ad 58), .ref (ad 59), .ref (ad 60), .ref (ad 61), .ref (ad 62)]))]) hD hS hA [1] rfl
  refine va_calli (va_runV (As := [.int p0]) (rest := []) ⟨hx, hb, hml, hown, hts⟩ (a_X8_isReached_5 l dC dI s.heap.size ad p0) (cwV 1 hts vg_k_X11_link_a_X8_isReached_5 rfl rfl rfl (by decide +kernel) ⟨Nat.le_of_ble_eq_true rfl, Nat.le_of_ble_eq_true rfl⟩) ⟨fun a U g mk q => by obtain ⟨q0, q1, qP, qK, qD⟩ := q; exact ⟨q0, q1, qP, va_K.moved (u := U) (U := U.calling g mk a) (Vm.Alike.refl U.vm) qK, qD⟩, va_recv hKc hPc (ci := 10) (q0 := 0) rfl rfl, fun U hU hW => ⟨rfl, by rw [hU], by rw [hU]; exact hPc, va_K.moved hW.alike hKc, hDc.weaken (fun _ _ _ _ => trivial)⟩⟩ rfl rfl hl.1 rfl (lv_room (Nat.le_of_ble_eq_true rfl)) dX11_link_5 ⟨Nat.le_of_ble_eq_true rfl, Nat.le_of_ble_eq_true rfl⟩) hS (fun q _ h => hFc q h) hFc (fun r_1 u t H1 locs ht hvm hw hB hz1 hk1 hS => ?_)
  obtain ⟨_, _, _⟩ := u
  obtain ⟨hP1, hK1, hD1⟩ := hB
  rw [ht] at hP1
  have hK1 := va_K.moved hvm.symm hK1
  try dsimp only at hw
  obtain ⟨hP, hD⟩ := va_join (wr := [(h0, .inr (13, [.ref (ad 0), .int 0, .int 0, .ref (ad 1), .ref (ad 2), .ref (ad 3), .ref (ad 4), .ref (ad 5), .ref (ad 6)]))]) (w1 := [((ad 6), .inr (10, [.ref (ad 2), .ref (ad 1), .ref (ad 48), .ref (ad 49), .ref (ad 50), .ref (ad 51), .ref (ad 52), .int 0, .ref (ad 53), .ref (ad 54), .int 0, .int 0, .int 0, .ref (ad 55), .ref (ad 56), .ref (ad 57), .ref (ad 58), .ref (ad 59), .ref (ad 60), .ref (ad 61), .ref (ad 62)]))]) hP hD [1] [0] rfl rfl (by decide) (by decide) hk1 hFc hP1 hD1
  generalize H1 = H at hP hS ⊢
  have hP : va_P (dC, dI) vwCl [(h0, .inr (13, [.ref (ad 0), .int 0, .int 0, .ref (ad 1), .ref (ad 2), .ref (ad 3), .ref (ad 4), .ref (ad 5), .ref (ad 6)])), ((ad 6), .inr (10, [.ref (ad 2), .ref (ad 1), .ref (ad 48), .ref (ad 49), .ref (ad 50), .ref (ad 51), .ref (ad 52), .int 0, .ref (ad 53), .ref (ad 54), .int 0, .int 0, .int 0, .ref (ad 55), .ref (ad 56), .ref (ad 57), .ref (ad 58), .ref (ad 59), .ref (ad 60), .ref (ad 61), .ref (ad 62)]))] H := hP
  have hD : va_D A [(h0, .inr (13, [.ref (ad 0), .int 0, .int 0, .ref (ad 1), .ref (ad 2), .ref (ad 3), .ref (ad 4), .ref (ad 5), .ref (ad 6)])), ((ad 6), .inr (10, [.ref (ad 2), .ref (ad 1), .ref (ad 48), .ref (ad 49), .ref (ad 50), .ref (ad 51), .ref (ad 52), .int 0, .ref (ad 53), .ref (ad 54), .int 0, .int 0, .int 0, .ref (ad 55), .ref (ad 56), .ref (ad 57), .ref (ad 58), .ref (ad 59), .ref (ad 60), .ref (ad 61), .ref (ad 62)]))] := hD
  obtain rfl : r_1 = 0 := hw
  refine lv_if_eq (tgt := 24) hx hb dX11_link_8 (by decide) (fun _ => ?_) (fun c2_8 => absurd (by decide) c2_8)
  refine lv_lconst (v := 0) hx hb dX11_link_24 (by decide) ?_
  exact W.lret (v := 0) hx hb hr (fun t ht hW => ⟨⟨0, (), rfl, rfl, trivial⟩, hS.F ht⟩) hS.2.2 dX11_link_25

def vb_a_X8_resultFact_1 : List Cond := .code yX8_resultFact cX8_resultFact 5 (some .long) :: ([.fieldLink RX8 82 "ScriptTypes$Solve\x72" "solved" "Z"] ++ [])
def vw_a_X8_resultFact_1 : List Cond := vb_a_X8_resultFact_1 ++ wsAll
set_option maxHeartbeats 8000000 in
set_option maxRecDepth 100000 in
theorem a_X8_resultFact_1 (l : Launch) (dC : Nat → ClassId) (dI : Nat → Nat → Nat) (sz : Nat) (ad : Nat → Nat) (p0 : Int32) (p1 : Int32) (p2 : Int32) : Met l yX8_resultFact vw_a_X8_resultFact_1 ({ frames := 0, cells := 0, slots := 0, locals := 0 }) (va_Pc [.ref (ad 6), .int p0, .int p1, .int p2] (fun U => U.heap.size = sz ∧ va_P (dC, dI) vwCl [((ad 6), .inr (10, [.ref (ad 2), .ref (ad 1), .ref (ad 48), .ref (ad 49), .ref (ad 50), .ref (ad 51), .ref (ad 52), .int 0, .ref (ad 53), .ref (ad 54), .int 0, .int 0, .int 0, .ref (ad 55), .ref (ad 56), .ref (ad 57), .ref (ad 58), .ref (ad 59), .ref (ad 60), .ref (ad 61), .ref (ad 62)]))] U.heap ∧ va_K (dC, dI) vwCl [] U ∧ va_D (fun _ => True) [((ad 6), .inr (10, [.ref (ad 2), .ref (ad 1), .ref (ad 48), .ref (ad 49), .ref (ad 50), .ref (ad 51), .ref (ad 52), .int 0, .ref (ad 53), .ref (ad 54), .int 0, .int 0, .int 0, .ref (ad 55), .ref (ad 56), .ref (ad 57), .ref (ad 58), .ref (ad 59), .ref (ad 60), .ref (ad 61), .ref (ad 62)]))])) (va_Ql (fun (r : Int64) (u : (Nat → Nat) × (Nat → ClassId) × (Nat → Nat → Int32)) => r = 0) (fun (u : (Nat → Nat) × (Nat → ClassId) × (Nat → Nat → Int32)) t => va_P (dC, dI) vwCl [((ad 6), .inr (10, [.ref (ad 2), .ref (ad 1), .ref (ad 48), .ref (ad 49), .ref (ad 50), .ref (ad 51), .ref (ad 52), .int 0, .ref (ad 53), .ref (ad 54), .int 0, .int 0, .int 0, .ref (ad 55), .ref (ad 56), .ref (ad 57), .ref (ad 58), .ref (ad 59), .ref (ad 60), .ref (ad 61), .ref (ad 62)]))] t.heap ∧ va_K (dC, dI) vwCl [] t ∧ va_D (va_A [((ad 6), .inr (10, [.ref (ad 2), .ref (ad 1), .ref (ad 48), .ref (ad 49), .ref (ad 50), .ref (ad 51), .ref (ad 52), .int 0, .ref (ad 53), .ref (ad 54), .int 0, .int 0, .int 0, .ref (ad 55), .ref (ad 56), .ref (ad 57), .ref (ad 58), .ref (ad 59), .ref (ad 60), .ref (ad 61), .ref (ad 62)]))] sz) [((ad 6), .inr (10, [.ref (ad 2), .ref (ad 1), .ref (ad 48), .ref (ad 49), .ref (ad 50), .ref (ad 51), .ref (ad 52), .int 0, .ref (ad 53), .ref (ad 54), .int 0, .int 0, .int 0, .ref (ad 55), .ref (ad 56), .ref (ad 57), .ref (ad 58), .ref (ad 59), .ref (ad 60), .ref (ad 61), .ref (ad 62)]))]) (va_A [((ad 6), .inr (10, [.ref (ad 2), .ref (ad 1), .ref (ad 48), .ref (ad 49), .ref (ad 50), .ref (ad 51), .ref (ad 52), .int 0, .ref (ad 53), .ref (ad 54), .int 0, .int 0, .int 0, .ref (ad 55), .ref (ad 56), .ref (ad 57), .ref (ad 58), .ref (ad 59), .ref (ad 60), .ref (ad 61), .ref (ad 62)]))] sz)) 0 0 (va_A [((ad 6), .inr (10, [.ref (ad 2), .ref (ad 1), .ref (ad 48), .ref (ad 49), .ref (ad 50), .ref (ad 51), .ref (ad 52), .int 0, .ref (ad 53), .ref (ad 54), .int 0, .int 0, .int 0, .ref (ad 55), .ref (ad 56), .ref (ad 57), .ref (ad 58), .ref (ad 59), .ref (ad 60), .ref (ad 61), .ref (ad 62)]))] sz) := by
  refine Met.ofW (cc := cX8_resultFact) (maxL := 5) (ret := (some .long)) (by decide) rfl ?_
  intro p e s m args below meth c s₁ B hml hv
  obtain ⟨rfl, hsz, hP, hK, hD0⟩ := hv
  have hx := B.exec
  have hb := B.bytes
  have hr := B.returns
  have hts := atoms_spec (ws := vw_a_X8_resultFact_1) B.pre
  have hown : s.vm.findClass RX8 = some m.cls := findClass_of_methodNamed B.named
  have hlocks := B.notSynchronized
  subst hsz
  have hD := hD0.self (sz := s.heap.size)
  generalize hAe : va_A [((ad 6), .inr (10, [.ref (ad 2), .ref (ad 1), .ref (ad 48), .ref (ad 49), .ref (ad 50), .ref (ad 51), .ref (ad 52), .int 0, .ref (ad 53), .ref (ad 54), .int 0, .int 0, .int 0, .ref (ad 55), .ref (ad 56), .ref (ad 57), .ref (ad 58), .ref (ad 59), .ref (ad 60), .ref (ad 61), .ref (ad 62)]))] s.heap.size = A at hD ⊢
  have hA : ∀ q : Nat, s.heap.size ≤ q → A q := fun q h => by rw [← hAe]; exact Or.inr h
  have hS : va_S A s.heap s.heap [] := va_S.rf
  have hP : va_P (dC, dI) vwCl [((ad 6), .inr (10, [.ref (ad 2), .ref (ad 1), .ref (ad 48), .ref (ad 49), .ref (ad 50), .ref (ad 51), .ref (ad 52), .int 0, .ref (ad 53), .ref (ad 54), .int 0, .int 0, .int 0, .ref (ad 55), .ref (ad 56), .ref (ad 57), .ref (ad 58), .ref (ad 59), .ref (ad 60), .ref (ad 61), .ref (ad 62)]))] s.heap := hP
  have hl := lv_entry ([.ref (ad 6), .int p0, .int p1, .int p2]) (n := 5) (Nat.le_of_ble_eq_true rfl)
  rw [lg_entry_eq]
  generalize (lg_sl ([.ref (ad 6), .int p0, .int p1, .int p2]) ++ List.replicate (5 - (lg_sl ([.ref (ad 6), .int p0, .int p1, .int p2])).length) Slot.unset).toArray = ls at hl ⊢
  have hl : lv_has ls 5 [(0, .ref (ad 6)), (1, .int p0), (2, .int p1), (3, .int p2)] := hl
  have hwX8 : ∀ w ∈ wsX80, w ∈ vw_a_X8_resultFact_1 := (fun w h => List.mem_append_right _ (List.mem_append_right _ (List.mem_append_right _ (List.mem_append_right _ (List.mem_append_right _ (List.mem_append_right _ (List.mem_append_right _ (List.mem_append_right _ (List.mem_append_right _ (List.mem_append_left _ h))))))))))
  refine lv_aload_n hx hb dX8_resultFact_0 rfl (lv_at hl 0 rfl) ?_
  refine va_get (D := (dC, dI)) (ci := 10) (v := .int 0) (C := RX8) (T := TX8) (N := 21) hx hb hts hwX8 hown hK hP 0 rfl rfl 10 (Nat.le_of_ble_eq_true rfl) (hts (.fieldLink RX8 82 "ScriptTypes$Solve\x72" "solved" "Z") (List.mem_of_getElem? (i := 1) (by decide +kernel))) (fun _ h9 => h9) rfl dX8_resultFact_1 ?_
  refine lv_if_eq (tgt := 31) hx hb dX8_resultFact_4 (by decide) (fun _ => ?_) (fun c1_4 => absurd (by decide) c1_4)
  refine lv_lconst (v := 0) hx hb dX8_resultFact_31 (by decide) ?_
  refine W.widen (k := 0) (n := 0) (Nat.le_of_ble_eq_true rfl) (Nat.le_of_ble_eq_true rfl) ?_
  exact W.lret (v := 0) hx hb hr (fun t ht hW => ⟨⟨0, (fun n => ([] : List Nat).getD n 0, fun n => ([] : List ClassId).getD n 0, fun n => ([] : List (Nat → Int32)).getD n (fun _ => 0)), rfl, rfl, by rw [ht]; exact hP, va_K.moved hW.alike hK, hD⟩, hS.F ht⟩) hS.2.2 dX8_resultFact_32

def vb_k_X11_result : List Cond := .code yX11_result cX11_result 4 (some .long) :: ([.fieldLink RX11 57 "ScriptTypes" "solve\x72" "LScriptTypes$Solver;", .methodLink RX11 182 yX8_resultFact, .instanceMethod yX8_resultFact, .selects RX8 yX8_resultFact yX8_resultFact, .initialized RX8] ++ (vb_a_X8_resultFact_1 ++ []))
def vw_k_X11_result : List Cond := vb_k_X11_result ++ wsAll
set_option maxRecDepth 20000 in
theorem vg_k_X11_result_a_X8_resultFact_1 : GoodIn vw_k_X11_result (wsV RX11 182 RX8 yX8_resultFact vw_a_X8_resultFact_1) := goodIn_app (goodIn_of _ (by decide +kernel)) (goodIn_sub (v_sub (fun w h => List.mem_cons_of_mem _ (List.mem_append_right _ (List.mem_append_left _ (h))))) (by decide +kernel))
set_option maxHeartbeats 8000000 in
set_option maxRecDepth 100000 in
theorem k_X11_result (l : Launch) (dC : Nat → ClassId) (dI : Nat → Nat → Nat) (sz : Nat) (h0 : Nat) (ad : Nat → Nat) (p0 : Int32) (p1 : Int32) (p2 : Int32) : Met l yX11_result vw_k_X11_result ({ frames := 1, cells := 0, slots := 0, locals := 24 }) (va_Pc [.ref h0, .int p0, .int p1, .int p2] (fun U => U.heap.size = sz ∧ va_P (dC, dI) vwCl [(h0, .inr (13, [.ref (ad 0), .int 0, .int 0, .ref (ad 1), .ref (ad 2), .ref (ad 3), .ref (ad 4), .ref (ad 5), .ref (ad 6)])), ((ad 6), .inr (10, [.ref (ad 2), .ref (ad 1), .ref (ad 48), .ref (ad 49), .ref (ad 50), .ref (ad 51), .ref (ad 52), .int 0, .ref (ad 53), .ref (ad 54), .int 0, .int 0, .int 0, .ref (ad 55), .ref (ad 56), .ref (ad 57), .ref (ad 58), .ref (ad 59), .ref (ad 60), .ref (ad 61), .ref (ad 62)]))] U.heap ∧ va_K (dC, dI) vwCl [] U ∧ va_D (fun _ => True) [(h0, .inr (13, [.ref (ad 0), .int 0, .int 0, .ref (ad 1), .ref (ad 2), .ref (ad 3), .ref (ad 4), .ref (ad 5), .ref (ad 6)])), ((ad 6), .inr (10, [.ref (ad 2), .ref (ad 1), .ref (ad 48), .ref (ad 49), .ref (ad 50), .ref (ad 51), .ref (ad 52), .int 0, .ref (ad 53), .ref (ad 54), .int 0, .int 0, .int 0, .ref (ad 55), .ref (ad 56), .ref (ad 57), .ref (ad 58), .ref (ad 59), .ref (ad 60), .ref (ad 61), .ref (ad 62)]))])) (va_Ql (fun (r : Int64) (_ : Unit) => r = 0) (fun _ _ => True) (va_A [(h0, .inr (13, [.ref (ad 0), .int 0, .int 0, .ref (ad 1), .ref (ad 2), .ref (ad 3), .ref (ad 4), .ref (ad 5), .ref (ad 6)])), ((ad 6), .inr (10, [.ref (ad 2), .ref (ad 1), .ref (ad 48), .ref (ad 49), .ref (ad 50), .ref (ad 51), .ref (ad 52), .int 0, .ref (ad 53), .ref (ad 54), .int 0, .int 0, .int 0, .ref (ad 55), .ref (ad 56), .ref (ad 57), .ref (ad 58), .ref (ad 59), .ref (ad 60), .ref (ad 61), .ref (ad 62)]))] sz)) 0 0 (va_A [(h0, .inr (13, [.ref (ad 0), .int 0, .int 0, .ref (ad 1), .ref (ad 2), .ref (ad 3), .ref (ad 4), .ref (ad 5), .ref (ad 6)])), ((ad 6), .inr (10, [.ref (ad 2), .ref (ad 1), .ref (ad 48), .ref (ad 49), .ref (ad 50), .ref (ad 51), .ref (ad 52), .int 0, .ref (ad 53), .ref (ad 54), .int 0, .int 0, .int 0, .ref (ad 55), .ref (ad 56), .ref (ad 57), .ref (ad 58), .ref (ad 59), .ref (ad 60), .ref (ad 61), .ref (ad 62)]))] sz) := by
  refine Met.ofW (cc := cX11_result) (maxL := 4) (ret := (some .long)) (by decide) rfl ?_
  intro p e s m args below meth c s₁ B hml hv
  obtain ⟨rfl, hsz, hP, hK, hD0⟩ := hv
  have hx := B.exec
  have hb := B.bytes
  have hr := B.returns
  have hts := atoms_spec (ws := vw_k_X11_result) B.pre
  have hown : s.vm.findClass RX11 = some m.cls := findClass_of_methodNamed B.named
  have hlocks := B.notSynchronized
  subst hsz
  have hD := hD0.self (sz := s.heap.size)
  generalize hAe : va_A [(h0, .inr (13, [.ref (ad 0), .int 0, .int 0, .ref (ad 1), .ref (ad 2), .ref (ad 3), .ref (ad 4), .ref (ad 5), .ref (ad 6)])), ((ad 6), .inr (10, [.ref (ad 2), .ref (ad 1), .ref (ad 48), .ref (ad 49), .ref (ad 50), .ref (ad 51), .ref (ad 52), .int 0, .ref (ad 53), .ref (ad 54), .int 0, .int 0, .int 0, .ref (ad 55), .ref (ad 56), .ref (ad 57), .ref (ad 58), .ref (ad 59), .ref (ad 60), .ref (ad 61), .ref (ad 62)]))] s.heap.size = A at hD ⊢
  have hA : ∀ q : Nat, s.heap.size ≤ q → A q := fun q h => by rw [← hAe]; exact Or.inr h
  have hS : va_S A s.heap s.heap [] := va_S.rf
  have hP : va_P (dC, dI) vwCl [(h0, .inr (13, [.ref (ad 0), .int 0, .int 0, .ref (ad 1), .ref (ad 2), .ref (ad 3), .ref (ad 4), .ref (ad 5), .ref (ad 6)])), ((ad 6), .inr (10, [.ref (ad 2), .ref (ad 1), .ref (ad 48), .ref (ad 49), .ref (ad 50), .ref (ad 51), .ref (ad 52), .int 0, .ref (ad 53), .ref (ad 54), .int 0, .int 0, .int 0, .ref (ad 55), .ref (ad 56), .ref (ad 57), .ref (ad 58), .ref (ad 59), .ref (ad 60), .ref (ad 61), .ref (ad 62)]))] s.heap := hP
  have hl := lv_entry ([.ref h0, .int p0, .int p1, .int p2]) (n := 4) (Nat.le_of_ble_eq_true rfl)
  rw [lg_entry_eq]
  generalize (lg_sl ([.ref h0, .int p0, .int p1, .int p2]) ++ List.replicate (4 - (lg_sl ([.ref h0, .int p0, .int p1, .int p2])).length) Slot.unset).toArray = ls at hl ⊢
  have hl : lv_has ls 4 [(0, .ref h0), (1, .int p0), (2, .int p1), (3, .int p2)] := hl
  have hwX11 : ∀ w ∈ wsX110, w ∈ vw_k_X11_result := (fun w h => List.mem_append_right _ (List.mem_append_right _ (List.mem_append_right _ (List.mem_append_right _ (List.mem_append_right _ (List.mem_append_right _ (List.mem_append_right _ (List.mem_append_right _ (List.mem_append_right _ (List.mem_append_right _ (List.mem_append_right _ (List.mem_append_right _ h))))))))))))
  refine lv_aload_n hx hb dX11_result_0 rfl (lv_at hl 0 rfl) ?_
  refine va_get (D := (dC, dI)) (ci := 13) (v := .ref (ad 6)) (C := RX11) (T := TX11) (N := 9) hx hb hts hwX11 hown hK hP 0 rfl rfl 8 (Nat.le_of_ble_eq_true rfl) (hts (.fieldLink RX11 57 "ScriptTypes" "solve\x72" "LScriptTypes$Solver;") (List.mem_of_getElem? (i := 1) (by decide +kernel))) (fun _ h9 => h9) rfl dX11_result_1 ?_
  refine lv_iload_n hx hb dX11_result_4 rfl (lv_at hl 1 rfl) ?_
  refine lv_iload_n hx hb dX11_result_5 rfl (lv_at hl 2 rfl) ?_
  refine lv_iload_n hx hb dX11_result_6 rfl (lv_at hl 3 rfl) ?_
  have hPc := hP.sub (ws' := [((ad 6), .inr (10, [.ref (ad 2), .ref (ad 1), .ref (ad 48), .ref (ad 49), .ref (ad 50), .ref (ad 51), .ref (ad 52), .int 0, .ref (ad 53), .ref (ad 54), .int 0, .int 0, .int 0, .ref (ad 55), .ref (ad 56), .ref (ad 57), .ref (ad 58), .ref (ad 59), .ref (ad 60), .ref (ad 61), .ref (ad 62)]))]) [1] rfl
  have hDc := hD.sub (ws' := [((ad 6), .inr (10, [.ref (ad 2), .ref (ad 1), .ref (ad 48), .ref (ad 49), .ref (ad 50), .ref (ad 51), .ref (ad 52), .int 0, .ref (ad 53), .ref (ad 54), .int 0, .int 0, .int 0, .ref (ad 55), .ref (ad 56), .ref (ad 57), .ref (ad 58), .ref (ad 59), .ref (ad 60), .ref (ad 61), .ref (ad 62)]))]) [1] (by decide) rfl
  have hKc := hK.sub (tys' := []) [] rfl
  have hFc := va_free (wc := [((ad 6), .inr (10, [.ref (ad 2), .ref (ad 1), .ref (ad 48), .ref (ad 49), .ref (ad 50), .ref (ad 51), .ref (ad 52), .int 0, .ref (ad 53), .ref (ad 54), .int 0, .int 0, .int 0, .ref (ad 55), .ref (ad 56), .ref (ad 57), .ref (ad 58), .ref (ad 59), .ref (ad 60), .ref (ad 61), .ref (ad 62)]))]) hD hS hA [1] rfl
  refine va_calll (va_runV (As := [.int p0, .int p1, .int p2]) (rest := []) ⟨hx, hb, hml, hown, hts⟩ (a_X8_resultFact_1 l dC dI s.heap.size ad p0 p1 p2) (cwV 3 hts vg_k_X11_result_a_X8_resultFact_1 rfl rfl rfl (by decide +kernel) ⟨Nat.le_of_ble_eq_true rfl, Nat.le_of_ble_eq_true rfl⟩) ⟨fun a U g mk q => by obtain ⟨q0, q1, qP, qK, qD⟩ := q; exact ⟨q0, q1, qP, va_K.moved (u := U) (U := U.calling g mk a) (Vm.Alike.refl U.vm) qK, qD⟩, va_recv hKc hPc (ci := 10) (q0 := 0) rfl rfl, fun U hU hW => ⟨rfl, by rw [hU], by rw [hU]; exact hPc, va_K.moved hW.alike hKc, hDc.weaken (fun _ _ _ _ => trivial)⟩⟩ rfl rfl hl.1 rfl (lv_room (Nat.le_of_ble_eq_true rfl)) dX11_result_7 ⟨Nat.le_of_ble_eq_true rfl, Nat.le_of_ble_eq_true rfl⟩) hS (fun q _ h => hFc q h) hFc (fun r_1 u t H1 locs ht hvm hw hB hz1 hk1 hS => ?_)
  obtain ⟨_, _, _⟩ := u
  obtain ⟨hP1, hK1, hD1⟩ := hB
  rw [ht] at hP1
  have hK1 := va_K.moved hvm.symm hK1
  try dsimp only at hw
  obtain ⟨hP, hD⟩ := va_join (wr := [(h0, .inr (13, [.ref (ad 0), .int 0, .int 0, .ref (ad 1), .ref (ad 2), .ref (ad 3), .ref (ad 4), .ref (ad 5), .ref (ad 6)]))]) (w1 := [((ad 6), .inr (10, [.ref (ad 2), .ref (ad 1), .ref (ad 48), .ref (ad 49), .ref (ad 50), .ref (ad 51), .ref (ad 52), .int 0, .ref (ad 53), .ref (ad 54), .int 0, .int 0, .int 0, .ref (ad 55), .ref (ad 56), .ref (ad 57), .ref (ad 58), .ref (ad 59), .ref (ad 60), .ref (ad 61), .ref (ad 62)]))]) hP hD [1] [0] rfl rfl (by decide) (by decide) hk1 hFc hP1 hD1
  generalize H1 = H at hP hS ⊢
  have hP : va_P (dC, dI) vwCl [(h0, .inr (13, [.ref (ad 0), .int 0, .int 0, .ref (ad 1), .ref (ad 2), .ref (ad 3), .ref (ad 4), .ref (ad 5), .ref (ad 6)])), ((ad 6), .inr (10, [.ref (ad 2), .ref (ad 1), .ref (ad 48), .ref (ad 49), .ref (ad 50), .ref (ad 51), .ref (ad 52), .int 0, .ref (ad 53), .ref (ad 54), .int 0, .int 0, .int 0, .ref (ad 55), .ref (ad 56), .ref (ad 57), .ref (ad 58), .ref (ad 59), .ref (ad 60), .ref (ad 61), .ref (ad 62)]))] H := hP
  have hD : va_D A [(h0, .inr (13, [.ref (ad 0), .int 0, .int 0, .ref (ad 1), .ref (ad 2), .ref (ad 3), .ref (ad 4), .ref (ad 5), .ref (ad 6)])), ((ad 6), .inr (10, [.ref (ad 2), .ref (ad 1), .ref (ad 48), .ref (ad 49), .ref (ad 50), .ref (ad 51), .ref (ad 52), .int 0, .ref (ad 53), .ref (ad 54), .int 0, .int 0, .int 0, .ref (ad 55), .ref (ad 56), .ref (ad 57), .ref (ad 58), .ref (ad 59), .ref (ad 60), .ref (ad 61), .ref (ad 62)]))] := hD
  obtain rfl : r_1 = 0 := hw
  exact W.lret (v := 0) hx hb hr (fun t ht hW => ⟨⟨0, (), rfl, rfl, trivial⟩, hS.F ht⟩) hS.2.2 dX11_result_10

def vb_a_X11_feedWord_1 : List Cond := .code yX11_feedWord cX11_feedWord 3 none :: ([.fieldLink RX11 61 "ScriptTypes" "tapeLength" "I", .fieldLink RX11 9 "ScriptTypes" "tape" "[I"] ++ [])
def vw_a_X11_feedWord_1 : List Cond := vb_a_X11_feedWord_1 ++ wsAll
set_option maxHeartbeats 8000000 in
set_option maxRecDepth 100000 in
theorem a_X11_feedWord_1 (l : Launch) (dC : Nat → ClassId) (dI : Nat → Nat → Nat) (sz : Nat) (h0 : Nat) (ad : Nat → Nat) (cl : Nat → ClassId) (p0 : Int32) : Met l yX11_feedWord vw_a_X11_feedWord_1 ({ frames := 0, cells := 0, slots := 0, locals := 0 }) (va_Pc [.ref h0, .int p0] (fun U => U.heap.size = sz ∧ va_P (dC, dI) vwCl [(h0, .inr (13, [.ref (ad 0), .int 0, .int 0, .ref (ad 1), .ref (ad 2), .ref (ad 3), .ref (ad 4), .ref (ad 5), .ref (ad 6)])), ((ad 0), .inl ((cl 0), 4000, .inl (fun _ => 0)))] U.heap ∧ va_K (dC, dI) vwCl [((cl 0), .int)] U ∧ va_D (fun _ => True) [(h0, .inr (13, [.ref (ad 0), .int 0, .int 0, .ref (ad 1), .ref (ad 2), .ref (ad 3), .ref (ad 4), .ref (ad 5), .ref (ad 6)])), ((ad 0), .inl ((cl 0), 4000, .inl (fun _ => 0)))])) (va_Qv (fun (u : (Nat → Nat) × (Nat → ClassId) × (Nat → Nat → Int32)) => True) (fun (u : (Nat → Nat) × (Nat → ClassId) × (Nat → Nat → Int32)) t => va_P (dC, dI) vwCl [(h0, .inr (13, [.ref (ad 0), .int 4, .int 0, .ref (ad 1), .ref (ad 2), .ref (ad 3), .ref (ad 4), .ref (ad 5), .ref (ad 6)])), ((ad 0), .inl ((cl 0), 4000, .inl (u.2.2 0)))] t.heap ∧ va_K (dC, dI) vwCl [((cl 0), .int)] t ∧ va_D (va_A [(h0, .inr (13, [.ref (ad 0), .int 0, .int 0, .ref (ad 1), .ref (ad 2), .ref (ad 3), .ref (ad 4), .ref (ad 5), .ref (ad 6)])), ((ad 0), .inl ((cl 0), 4000, .inl (fun _ => 0)))] sz) [(h0, .inr (13, [.ref (ad 0), .int 4, .int 0, .ref (ad 1), .ref (ad 2), .ref (ad 3), .ref (ad 4), .ref (ad 5), .ref (ad 6)])), ((ad 0), .inl ((cl 0), 4000, .inl (u.2.2 0)))]) (va_A [(h0, .inr (13, [.ref (ad 0), .int 0, .int 0, .ref (ad 1), .ref (ad 2), .ref (ad 3), .ref (ad 4), .ref (ad 5), .ref (ad 6)])), ((ad 0), .inl ((cl 0), 4000, .inl (fun _ => 0)))] sz)) 0 0 (va_A [(h0, .inr (13, [.ref (ad 0), .int 0, .int 0, .ref (ad 1), .ref (ad 2), .ref (ad 3), .ref (ad 4), .ref (ad 5), .ref (ad 6)])), ((ad 0), .inl ((cl 0), 4000, .inl (fun _ => 0)))] sz) := by
  refine Met.ofW (cc := cX11_feedWord) (maxL := 3) (ret := none) (by decide) rfl ?_
  intro p e s m args below meth c s₁ B hml hv
  obtain ⟨rfl, hsz, hP, hK, hD0⟩ := hv
  have hx := B.exec
  have hb := B.bytes
  have hr := B.returns
  have hts := atoms_spec (ws := vw_a_X11_feedWord_1) B.pre
  have hown : s.vm.findClass RX11 = some m.cls := findClass_of_methodNamed B.named
  have hlocks := B.notSynchronized
  subst hsz
  have hD := hD0.self (sz := s.heap.size)
  generalize hAe : va_A [(h0, .inr (13, [.ref (ad 0), .int 0, .int 0, .ref (ad 1), .ref (ad 2), .ref (ad 3), .ref (ad 4), .ref (ad 5), .ref (ad 6)])), ((ad 0), .inl ((cl 0), 4000, .inl (fun _ => 0)))] s.heap.size = A at hD ⊢
  have hA : ∀ q : Nat, s.heap.size ≤ q → A q := fun q h => by rw [← hAe]; exact Or.inr h
  have hS : va_S A s.heap s.heap [] := va_S.rf
  have hP : va_P (dC, dI) vwCl [(h0, .inr (13, [.ref (ad 0), .int 0, .int 0, .ref (ad 1), .ref (ad 2), .ref (ad 3), .ref (ad 4), .ref (ad 5), .ref (ad 6)])), ((ad 0), .inl ((cl 0), 4000, .inl (fun _ => 0)))] s.heap := hP
  have hl := lv_entry ([.ref h0, .int p0]) (n := 3) (Nat.le_of_ble_eq_true rfl)
  rw [lg_entry_eq]
  generalize (lg_sl ([.ref h0, .int p0]) ++ List.replicate (3 - (lg_sl ([.ref h0, .int p0])).length) Slot.unset).toArray = ls at hl ⊢
  have hl : lv_has ls 3 [(0, .ref h0), (1, .int p0)] := hl
  have hwX11 : ∀ w ∈ wsX110, w ∈ vw_a_X11_feedWord_1 := (fun w h => List.mem_append_right _ (List.mem_append_right _ (List.mem_append_right _ (List.mem_append_right _ (List.mem_append_right _ (List.mem_append_right _ (List.mem_append_right _ (List.mem_append_right _ (List.mem_append_right _ (List.mem_append_right _ (List.mem_append_right _ (List.mem_append_right _ h))))))))))))
  refine lv_bipush (v := 24) hx hb dX11_feedWord_0 (by decide) ?_
  refine lv_istore_n (lv' := [(2, .int 24), (0, .ref h0), (1, .int p0)]) hx hb dX11_feedWord_2 rfl hl (by decide) rfl (fun ls hl => ?_)
  refine lv_iload_n hx hb dX11_feedWord_3 rfl (lv_at hl 0 rfl) ?_
  refine lv_if_lt (tgt := 49) hx hb dX11_feedWord_4 (by decide) (fun c1_4 => absurd c1_4 (by decide)) (fun _ => ?_)
  refine lv_aload_n hx hb dX11_feedWord_7 rfl (lv_at hl 1 rfl) ?_
  refine va_get (D := (dC, dI)) (ci := 13) (v := .int 0) (C := RX11) (T := TX11) (N := 9) hx hb hts hwX11 hown hK hP 0 rfl rfl 1 (Nat.le_of_ble_eq_true rfl) (hts (.fieldLink RX11 61 "ScriptTypes" "tapeLength" "I") (List.mem_of_getElem? (i := 1) (by decide +kernel))) (fun _ h9 => h9) rfl dX11_feedWord_8 ?_
  refine lv_sipush (v := 4000) hx hb dX11_feedWord_11 (by decide) ?_
  refine lv_icmp_ge (tgt := 43) hx hb dX11_feedWord_14 (by decide) (fun c2_14 => absurd c2_14 (by decide)) (fun _ => ?_)
  refine lv_aload_n hx hb dX11_feedWord_17 rfl (lv_at hl 1 rfl) ?_
  refine va_get (D := (dC, dI)) (ci := 13) (v := .ref (ad 0)) (C := RX11) (T := TX11) (N := 9) hx hb hts hwX11 hown hK hP 0 rfl rfl 0 (Nat.le_of_ble_eq_true rfl) (hts (.fieldLink RX11 9 "ScriptTypes" "tape" "[I") (List.mem_of_getElem? (i := 2) (by decide +kernel))) (fun _ h9 => h9) rfl dX11_feedWord_18 ?_
  refine lv_aload_n hx hb dX11_feedWord_21 rfl (lv_at hl 1 rfl) ?_
  refine va_get (D := (dC, dI)) (ci := 13) (v := .int 0) (C := RX11) (T := TX11) (N := 9) hx hb hts hwX11 hown hK hP 0 rfl rfl 1 (Nat.le_of_ble_eq_true rfl) (hts (.fieldLink RX11 61 "ScriptTypes" "tapeLength" "I") (List.mem_of_getElem? (i := 1) (by decide +kernel))) (fun _ h9 => h9) rfl dX11_feedWord_22 ?_
  refine lv_iload_n hx hb dX11_feedWord_25 rfl (lv_at hl 2 rfl) ?_
  refine lv_iload_n hx hb dX11_feedWord_26 rfl (lv_at hl 0 rfl) ?_
  refine lv_iushr hx hb dX11_feedWord_27 rfl ?_
  refine lv_topi (fun f_3 ef_3 => ?_)
  refine lv_sipush (v := 255) hx hb dX11_feedWord_28 (by decide) ?_
  refine lv_iand hx hb dX11_feedWord_31 ?_
  refine lv_topi (fun f_4 ef_4 => ?_)
  refine va_iast hx hb hK hP hD hS 1 0 rfl rfl (show ¬ ((0 : Int32) < 0 ∨ 4000 ≤ (0 : Int32).toNatClampNeg) by decide) dX11_feedWord_32 (fun H locs hP hD hS => ?_)
  obtain ⟨gg374, egg374⟩ : ∃ z9 : Nat → Int32, z9 = upd (fun _ => 0) (0 : Int32).toNatClampNeg f_4 := ⟨_, rfl⟩
  have hP : va_P (dC, dI) vwCl [(h0, .inr (13, [.ref (ad 0), .int 0, .int 0, .ref (ad 1), .ref (ad 2), .ref (ad 3), .ref (ad 4), .ref (ad 5), .ref (ad 6)])), ((ad 0), .inl ((cl 0), 4000, .inl gg374))] H := by rw [egg374]; exact hP
  have hD : va_D A [(h0, .inr (13, [.ref (ad 0), .int 0, .int 0, .ref (ad 1), .ref (ad 2), .ref (ad 3), .ref (ad 4), .ref (ad 5), .ref (ad 6)])), ((ad 0), .inl ((cl 0), 4000, .inl gg374))] := by rw [egg374]; exact hD
  refine lv_aload_n hx hb dX11_feedWord_33 rfl (lv_at hl 1 rfl) ?_
  refine lv_dup hx hb dX11_feedWord_34 rfl ?_
  refine va_get (D := (dC, dI)) (ci := 13) (v := .int 0) (C := RX11) (T := TX11) (N := 9) hx hb hts hwX11 hown hK hP 0 rfl rfl 1 (Nat.le_of_ble_eq_true rfl) (hts (.fieldLink RX11 61 "ScriptTypes" "tapeLength" "I") (List.mem_of_getElem? (i := 1) (by decide +kernel))) (fun _ h9 => h9) rfl dX11_feedWord_35 ?_
  refine lv_iconst (v := 1) hx hb dX11_feedWord_38 (by decide) ?_
  refine lv_iadd hx hb dX11_feedWord_39 ?_
  refine lv_topi (fun f_5 ef_5 => ?_)
  obtain rfl : f_5 = 1 := by rw [ef_5]; decide
  refine va_put (D := (dC, dI)) (ci := 13) (v := .int 1) (ty := tyX11 1) (C := RX11) (T := TX11) (N := 9) hx hb hts hwX11 tyX11 tyX11_ok nmX11 hown hK hP hD hS 0 rfl rfl 1 (Nat.le_of_ble_eq_true rfl) (hts (.fieldLink RX11 61 "ScriptTypes" "tapeLength" "I") (List.mem_of_getElem? (i := 1) (by decide +kernel))) (fun _ h9 => h9) rfl (tyX11_ok 1 (Nat.le_of_ble_eq_true rfl)) rfl rfl (Nat.le_of_ble_eq_true rfl) dX11_feedWord_40 (fun H locs hP hD hS => ?_)
  have hP : va_P (dC, dI) vwCl [(h0, .inr (13, [.ref (ad 0), .int 1, .int 0, .ref (ad 1), .ref (ad 2), .ref (ad 3), .ref (ad 4), .ref (ad 5), .ref (ad 6)])), ((ad 0), .inl ((cl 0), 4000, .inl gg374))] H := hP
  have hD : va_D A [(h0, .inr (13, [.ref (ad 0), .int 1, .int 0, .ref (ad 1), .ref (ad 2), .ref (ad 3), .ref (ad 4), .ref (ad 5), .ref (ad 6)])), ((ad 0), .inl ((cl 0), 4000, .inl gg374))] := hD
  refine lv_iinc (v := 16) (lv' := [(2, .int 16), (0, .ref h0), (1, .int p0)]) hx hb dX11_feedWord_43 hl (k := 0) rfl (by decide) (by decide) rfl (fun ls hl => ?_)
  refine lv_goto (tgt := 3) hx hb dX11_feedWord_46 (by decide) ?_
  refine lv_iload_n hx hb dX11_feedWord_3 rfl (lv_at hl 0 rfl) ?_
  refine lv_if_lt (tgt := 49) hx hb dX11_feedWord_4 (by decide) (fun c6_4 => absurd c6_4 (by decide)) (fun _ => ?_)
  refine lv_aload_n hx hb dX11_feedWord_7 rfl (lv_at hl 1 rfl) ?_
  refine va_get (D := (dC, dI)) (ci := 13) (v := .int 1) (C := RX11) (T := TX11) (N := 9) hx hb hts hwX11 hown hK hP 0 rfl rfl 1 (Nat.le_of_ble_eq_true rfl) (hts (.fieldLink RX11 61 "ScriptTypes" "tapeLength" "I") (List.mem_of_getElem? (i := 1) (by decide +kernel))) (fun _ h9 => h9) rfl dX11_feedWord_8 ?_
  refine lv_sipush (v := 4000) hx hb dX11_feedWord_11 (by decide) ?_
  refine lv_icmp_ge (tgt := 43) hx hb dX11_feedWord_14 (by decide) (fun c7_14 => absurd c7_14 (by decide)) (fun _ => ?_)
  refine lv_aload_n hx hb dX11_feedWord_17 rfl (lv_at hl 1 rfl) ?_
  refine va_get (D := (dC, dI)) (ci := 13) (v := .ref (ad 0)) (C := RX11) (T := TX11) (N := 9) hx hb hts hwX11 hown hK hP 0 rfl rfl 0 (Nat.le_of_ble_eq_true rfl) (hts (.fieldLink RX11 9 "ScriptTypes" "tape" "[I") (List.mem_of_getElem? (i := 2) (by decide +kernel))) (fun _ h9 => h9) rfl dX11_feedWord_18 ?_
  refine lv_aload_n hx hb dX11_feedWord_21 rfl (lv_at hl 1 rfl) ?_
  refine va_get (D := (dC, dI)) (ci := 13) (v := .int 1) (C := RX11) (T := TX11) (N := 9) hx hb hts hwX11 hown hK hP 0 rfl rfl 1 (Nat.le_of_ble_eq_true rfl) (hts (.fieldLink RX11 61 "ScriptTypes" "tapeLength" "I") (List.mem_of_getElem? (i := 1) (by decide +kernel))) (fun _ h9 => h9) rfl dX11_feedWord_22 ?_
  refine lv_iload_n hx hb dX11_feedWord_25 rfl (lv_at hl 2 rfl) ?_
  refine lv_iload_n hx hb dX11_feedWord_26 rfl (lv_at hl 0 rfl) ?_
  refine lv_iushr hx hb dX11_feedWord_27 rfl ?_
  refine lv_topi (fun f_8 ef_8 => ?_)
  refine lv_sipush (v := 255) hx hb dX11_feedWord_28 (by decide) ?_
  refine lv_iand hx hb dX11_feedWord_31 ?_
  refine lv_topi (fun f_9 ef_9 => ?_)
  refine va_iast hx hb hK hP hD hS 1 0 rfl rfl (show ¬ ((1 : Int32) < 0 ∨ 4000 ≤ (1 : Int32).toNatClampNeg) by decide) dX11_feedWord_32 (fun H locs hP hD hS => ?_)
  obtain ⟨gg375, egg375⟩ : ∃ z9 : Nat → Int32, z9 = upd gg374 (1 : Int32).toNatClampNeg f_9 := ⟨_, rfl⟩
  have hP : va_P (dC, dI) vwCl [(h0, .inr (13, [.ref (ad 0), .int 1, .int 0, .ref (ad 1), .ref (ad 2), .ref (ad 3), .ref (ad 4), .ref (ad 5), .ref (ad 6)])), ((ad 0), .inl ((cl 0), 4000, .inl gg375))] H := by rw [egg375]; exact hP
  have hD : va_D A [(h0, .inr (13, [.ref (ad 0), .int 1, .int 0, .ref (ad 1), .ref (ad 2), .ref (ad 3), .ref (ad 4), .ref (ad 5), .ref (ad 6)])), ((ad 0), .inl ((cl 0), 4000, .inl gg375))] := by rw [egg375]; exact hD
  refine lv_aload_n hx hb dX11_feedWord_33 rfl (lv_at hl 1 rfl) ?_
  refine lv_dup hx hb dX11_feedWord_34 rfl ?_
  refine va_get (D := (dC, dI)) (ci := 13) (v := .int 1) (C := RX11) (T := TX11) (N := 9) hx hb hts hwX11 hown hK hP 0 rfl rfl 1 (Nat.le_of_ble_eq_true rfl) (hts (.fieldLink RX11 61 "ScriptTypes" "tapeLength" "I") (List.mem_of_getElem? (i := 1) (by decide +kernel))) (fun _ h9 => h9) rfl dX11_feedWord_35 ?_
  refine lv_iconst (v := 1) hx hb dX11_feedWord_38 (by decide) ?_
  refine lv_iadd hx hb dX11_feedWord_39 ?_
  refine lv_topi (fun f_10 ef_10 => ?_)
  obtain rfl : f_10 = 2 := by rw [ef_10]; decide
  refine va_put (D := (dC, dI)) (ci := 13) (v := .int 2) (ty := tyX11 1) (C := RX11) (T := TX11) (N := 9) hx hb hts hwX11 tyX11 tyX11_ok nmX11 hown hK hP hD hS 0 rfl rfl 1 (Nat.le_of_ble_eq_true rfl) (hts (.fieldLink RX11 61 "ScriptTypes" "tapeLength" "I") (List.mem_of_getElem? (i := 1) (by decide +kernel))) (fun _ h9 => h9) rfl (tyX11_ok 1 (Nat.le_of_ble_eq_true rfl)) rfl rfl (Nat.le_of_ble_eq_true rfl) dX11_feedWord_40 (fun H locs hP hD hS => ?_)
  have hP : va_P (dC, dI) vwCl [(h0, .inr (13, [.ref (ad 0), .int 2, .int 0, .ref (ad 1), .ref (ad 2), .ref (ad 3), .ref (ad 4), .ref (ad 5), .ref (ad 6)])), ((ad 0), .inl ((cl 0), 4000, .inl gg375))] H := hP
  have hD : va_D A [(h0, .inr (13, [.ref (ad 0), .int 2, .int 0, .ref (ad 1), .ref (ad 2), .ref (ad 3), .ref (ad 4), .ref (ad 5), .ref (ad 6)])), ((ad 0), .inl ((cl 0), 4000, .inl gg375))] := hD
  refine lv_iinc (v := 8) (lv' := [(2, .int 8), (0, .ref h0), (1, .int p0)]) hx hb dX11_feedWord_43 hl (k := 0) rfl (by decide) (by decide) rfl (fun ls hl => ?_)
  refine lv_goto (tgt := 3) hx hb dX11_feedWord_46 (by decide) ?_
  refine lv_iload_n hx hb dX11_feedWord_3 rfl (lv_at hl 0 rfl) ?_
  refine lv_if_lt (tgt := 49) hx hb dX11_feedWord_4 (by decide) (fun c11_4 => absurd c11_4 (by decide)) (fun _ => ?_)
  refine lv_aload_n hx hb dX11_feedWord_7 rfl (lv_at hl 1 rfl) ?_
  refine va_get (D := (dC, dI)) (ci := 13) (v := .int 2) (C := RX11) (T := TX11) (N := 9) hx hb hts hwX11 hown hK hP 0 rfl rfl 1 (Nat.le_of_ble_eq_true rfl) (hts (.fieldLink RX11 61 "ScriptTypes" "tapeLength" "I") (List.mem_of_getElem? (i := 1) (by decide +kernel))) (fun _ h9 => h9) rfl dX11_feedWord_8 ?_
  refine lv_sipush (v := 4000) hx hb dX11_feedWord_11 (by decide) ?_
  refine lv_icmp_ge (tgt := 43) hx hb dX11_feedWord_14 (by decide) (fun c12_14 => absurd c12_14 (by decide)) (fun _ => ?_)
  refine lv_aload_n hx hb dX11_feedWord_17 rfl (lv_at hl 1 rfl) ?_
  refine va_get (D := (dC, dI)) (ci := 13) (v := .ref (ad 0)) (C := RX11) (T := TX11) (N := 9) hx hb hts hwX11 hown hK hP 0 rfl rfl 0 (Nat.le_of_ble_eq_true rfl) (hts (.fieldLink RX11 9 "ScriptTypes" "tape" "[I") (List.mem_of_getElem? (i := 2) (by decide +kernel))) (fun _ h9 => h9) rfl dX11_feedWord_18 ?_
  refine lv_aload_n hx hb dX11_feedWord_21 rfl (lv_at hl 1 rfl) ?_
  refine va_get (D := (dC, dI)) (ci := 13) (v := .int 2) (C := RX11) (T := TX11) (N := 9) hx hb hts hwX11 hown hK hP 0 rfl rfl 1 (Nat.le_of_ble_eq_true rfl) (hts (.fieldLink RX11 61 "ScriptTypes" "tapeLength" "I") (List.mem_of_getElem? (i := 1) (by decide +kernel))) (fun _ h9 => h9) rfl dX11_feedWord_22 ?_
  refine lv_iload_n hx hb dX11_feedWord_25 rfl (lv_at hl 2 rfl) ?_
  refine lv_iload_n hx hb dX11_feedWord_26 rfl (lv_at hl 0 rfl) ?_
  refine lv_iushr hx hb dX11_feedWord_27 rfl ?_
  refine lv_topi (fun f_13 ef_13 => ?_)
  refine lv_sipush (v := 255) hx hb dX11_feedWord_28 (by decide) ?_
  refine lv_iand hx hb dX11_feedWord_31 ?_
  refine lv_topi (fun f_14 ef_14 => ?_)
  refine va_iast hx hb hK hP hD hS 1 0 rfl rfl (show ¬ ((2 : Int32) < 0 ∨ 4000 ≤ (2 : Int32).toNatClampNeg) by decide) dX11_feedWord_32 (fun H locs hP hD hS => ?_)
  obtain ⟨gg376, egg376⟩ : ∃ z9 : Nat → Int32, z9 = upd gg375 (2 : Int32).toNatClampNeg f_14 := ⟨_, rfl⟩
  have hP : va_P (dC, dI) vwCl [(h0, .inr (13, [.ref (ad 0), .int 2, .int 0, .ref (ad 1), .ref (ad 2), .ref (ad 3), .ref (ad 4), .ref (ad 5), .ref (ad 6)])), ((ad 0), .inl ((cl 0), 4000, .inl gg376))] H := by rw [egg376]; exact hP
  have hD : va_D A [(h0, .inr (13, [.ref (ad 0), .int 2, .int 0, .ref (ad 1), .ref (ad 2), .ref (ad 3), .ref (ad 4), .ref (ad 5), .ref (ad 6)])), ((ad 0), .inl ((cl 0), 4000, .inl gg376))] := by rw [egg376]; exact hD
  refine lv_aload_n hx hb dX11_feedWord_33 rfl (lv_at hl 1 rfl) ?_
  refine lv_dup hx hb dX11_feedWord_34 rfl ?_
  refine va_get (D := (dC, dI)) (ci := 13) (v := .int 2) (C := RX11) (T := TX11) (N := 9) hx hb hts hwX11 hown hK hP 0 rfl rfl 1 (Nat.le_of_ble_eq_true rfl) (hts (.fieldLink RX11 61 "ScriptTypes" "tapeLength" "I") (List.mem_of_getElem? (i := 1) (by decide +kernel))) (fun _ h9 => h9) rfl dX11_feedWord_35 ?_
  refine lv_iconst (v := 1) hx hb dX11_feedWord_38 (by decide) ?_
  refine lv_iadd hx hb dX11_feedWord_39 ?_
  refine lv_topi (fun f_15 ef_15 => ?_)
  obtain rfl : f_15 = 3 := by rw [ef_15]; decide
  refine va_put (D := (dC, dI)) (ci := 13) (v := .int 3) (ty := tyX11 1) (C := RX11) (T := TX11) (N := 9) hx hb hts hwX11 tyX11 tyX11_ok nmX11 hown hK hP hD hS 0 rfl rfl 1 (Nat.le_of_ble_eq_true rfl) (hts (.fieldLink RX11 61 "ScriptTypes" "tapeLength" "I") (List.mem_of_getElem? (i := 1) (by decide +kernel))) (fun _ h9 => h9) rfl (tyX11_ok 1 (Nat.le_of_ble_eq_true rfl)) rfl rfl (Nat.le_of_ble_eq_true rfl) dX11_feedWord_40 (fun H locs hP hD hS => ?_)
  have hP : va_P (dC, dI) vwCl [(h0, .inr (13, [.ref (ad 0), .int 3, .int 0, .ref (ad 1), .ref (ad 2), .ref (ad 3), .ref (ad 4), .ref (ad 5), .ref (ad 6)])), ((ad 0), .inl ((cl 0), 4000, .inl gg376))] H := hP
  have hD : va_D A [(h0, .inr (13, [.ref (ad 0), .int 3, .int 0, .ref (ad 1), .ref (ad 2), .ref (ad 3), .ref (ad 4), .ref (ad 5), .ref (ad 6)])), ((ad 0), .inl ((cl 0), 4000, .inl gg376))] := hD
  refine lv_iinc (v := 0) (lv' := [(2, .int 0), (0, .ref h0), (1, .int p0)]) hx hb dX11_feedWord_43 hl (k := 0) rfl (by decide) (by decide) rfl (fun ls hl => ?_)
  refine lv_goto (tgt := 3) hx hb dX11_feedWord_46 (by decide) ?_
  refine lv_iload_n hx hb dX11_feedWord_3 rfl (lv_at hl 0 rfl) ?_
  refine lv_if_lt (tgt := 49) hx hb dX11_feedWord_4 (by decide) (fun c16_4 => absurd c16_4 (by decide)) (fun _ => ?_)
  refine lv_aload_n hx hb dX11_feedWord_7 rfl (lv_at hl 1 rfl) ?_
  refine va_get (D := (dC, dI)) (ci := 13) (v := .int 3) (C := RX11) (T := TX11) (N := 9) hx hb hts hwX11 hown hK hP 0 rfl rfl 1 (Nat.le_of_ble_eq_true rfl) (hts (.fieldLink RX11 61 "ScriptTypes" "tapeLength" "I") (List.mem_of_getElem? (i := 1) (by decide +kernel))) (fun _ h9 => h9) rfl dX11_feedWord_8 ?_
  refine lv_sipush (v := 4000) hx hb dX11_feedWord_11 (by decide) ?_
  refine lv_icmp_ge (tgt := 43) hx hb dX11_feedWord_14 (by decide) (fun c17_14 => absurd c17_14 (by decide)) (fun _ => ?_)
  refine lv_aload_n hx hb dX11_feedWord_17 rfl (lv_at hl 1 rfl) ?_
  refine va_get (D := (dC, dI)) (ci := 13) (v := .ref (ad 0)) (C := RX11) (T := TX11) (N := 9) hx hb hts hwX11 hown hK hP 0 rfl rfl 0 (Nat.le_of_ble_eq_true rfl) (hts (.fieldLink RX11 9 "ScriptTypes" "tape" "[I") (List.mem_of_getElem? (i := 2) (by decide +kernel))) (fun _ h9 => h9) rfl dX11_feedWord_18 ?_
  refine lv_aload_n hx hb dX11_feedWord_21 rfl (lv_at hl 1 rfl) ?_
  refine va_get (D := (dC, dI)) (ci := 13) (v := .int 3) (C := RX11) (T := TX11) (N := 9) hx hb hts hwX11 hown hK hP 0 rfl rfl 1 (Nat.le_of_ble_eq_true rfl) (hts (.fieldLink RX11 61 "ScriptTypes" "tapeLength" "I") (List.mem_of_getElem? (i := 1) (by decide +kernel))) (fun _ h9 => h9) rfl dX11_feedWord_22 ?_
  refine lv_iload_n hx hb dX11_feedWord_25 rfl (lv_at hl 2 rfl) ?_
  refine lv_iload_n hx hb dX11_feedWord_26 rfl (lv_at hl 0 rfl) ?_
  refine lv_iushr hx hb dX11_feedWord_27 rfl ?_
  refine lv_topi (fun f_18 ef_18 => ?_)
  refine lv_sipush (v := 255) hx hb dX11_feedWord_28 (by decide) ?_
  refine lv_iand hx hb dX11_feedWord_31 ?_
  refine lv_topi (fun f_19 ef_19 => ?_)
  refine va_iast hx hb hK hP hD hS 1 0 rfl rfl (show ¬ ((3 : Int32) < 0 ∨ 4000 ≤ (3 : Int32).toNatClampNeg) by decide) dX11_feedWord_32 (fun H locs hP hD hS => ?_)
  obtain ⟨gg377, egg377⟩ : ∃ z9 : Nat → Int32, z9 = upd gg376 (3 : Int32).toNatClampNeg f_19 := ⟨_, rfl⟩
  have hP : va_P (dC, dI) vwCl [(h0, .inr (13, [.ref (ad 0), .int 3, .int 0, .ref (ad 1), .ref (ad 2), .ref (ad 3), .ref (ad 4), .ref (ad 5), .ref (ad 6)])), ((ad 0), .inl ((cl 0), 4000, .inl gg377))] H := by rw [egg377]; exact hP
  have hD : va_D A [(h0, .inr (13, [.ref (ad 0), .int 3, .int 0, .ref (ad 1), .ref (ad 2), .ref (ad 3), .ref (ad 4), .ref (ad 5), .ref (ad 6)])), ((ad 0), .inl ((cl 0), 4000, .inl gg377))] := by rw [egg377]; exact hD
  refine lv_aload_n hx hb dX11_feedWord_33 rfl (lv_at hl 1 rfl) ?_
  refine lv_dup hx hb dX11_feedWord_34 rfl ?_
  refine va_get (D := (dC, dI)) (ci := 13) (v := .int 3) (C := RX11) (T := TX11) (N := 9) hx hb hts hwX11 hown hK hP 0 rfl rfl 1 (Nat.le_of_ble_eq_true rfl) (hts (.fieldLink RX11 61 "ScriptTypes" "tapeLength" "I") (List.mem_of_getElem? (i := 1) (by decide +kernel))) (fun _ h9 => h9) rfl dX11_feedWord_35 ?_
  refine lv_iconst (v := 1) hx hb dX11_feedWord_38 (by decide) ?_
  refine lv_iadd hx hb dX11_feedWord_39 ?_
  refine lv_topi (fun f_20 ef_20 => ?_)
  obtain rfl : f_20 = 4 := by rw [ef_20]; decide
  refine va_put (D := (dC, dI)) (ci := 13) (v := .int 4) (ty := tyX11 1) (C := RX11) (T := TX11) (N := 9) hx hb hts hwX11 tyX11 tyX11_ok nmX11 hown hK hP hD hS 0 rfl rfl 1 (Nat.le_of_ble_eq_true rfl) (hts (.fieldLink RX11 61 "ScriptTypes" "tapeLength" "I") (List.mem_of_getElem? (i := 1) (by decide +kernel))) (fun _ h9 => h9) rfl (tyX11_ok 1 (Nat.le_of_ble_eq_true rfl)) rfl rfl (Nat.le_of_ble_eq_true rfl) dX11_feedWord_40 (fun H locs hP hD hS => ?_)
  have hP : va_P (dC, dI) vwCl [(h0, .inr (13, [.ref (ad 0), .int 4, .int 0, .ref (ad 1), .ref (ad 2), .ref (ad 3), .ref (ad 4), .ref (ad 5), .ref (ad 6)])), ((ad 0), .inl ((cl 0), 4000, .inl gg377))] H := hP
  have hD : va_D A [(h0, .inr (13, [.ref (ad 0), .int 4, .int 0, .ref (ad 1), .ref (ad 2), .ref (ad 3), .ref (ad 4), .ref (ad 5), .ref (ad 6)])), ((ad 0), .inl ((cl 0), 4000, .inl gg377))] := hD
  refine lv_iinc (v := (-8)) (lv' := [(2, .int (-8)), (0, .ref h0), (1, .int p0)]) hx hb dX11_feedWord_43 hl (k := 0) rfl (by decide) (by decide) rfl (fun ls hl => ?_)
  refine lv_goto (tgt := 3) hx hb dX11_feedWord_46 (by decide) ?_
  refine lv_iload_n hx hb dX11_feedWord_3 rfl (lv_at hl 0 rfl) ?_
  refine lv_if_lt (tgt := 49) hx hb dX11_feedWord_4 (by decide) (fun _ => ?_) (fun c21_4 => absurd (by decide) c21_4)
  refine W.widen (k := 0) (n := 0) (Nat.le_of_ble_eq_true rfl) (Nat.le_of_ble_eq_true rfl) ?_
  exact W.vret hx hb hr (fun t ht hW => ⟨⟨(fun n => ([] : List Nat).getD n 0, fun n => ([] : List ClassId).getD n 0, fun n => ([gg377] : List (Nat → Int32)).getD n (fun _ => 0)), rfl, trivial, by rw [ht]; exact hP, va_K.moved hW.alike hK, hD⟩, hS.F ht⟩) hS.2.2 dX11_feedWord_49

def vb_a_X11_feedWord_2 : List Cond := .code yX11_feedWord cX11_feedWord 3 none :: ([.fieldLink RX11 61 "ScriptTypes" "tapeLength" "I", .fieldLink RX11 9 "ScriptTypes" "tape" "[I"] ++ [])
def vw_a_X11_feedWord_2 : List Cond := vb_a_X11_feedWord_2 ++ wsAll
set_option maxHeartbeats 8000000 in
set_option maxRecDepth 100000 in
theorem a_X11_feedWord_2 (l : Launch) (dC : Nat → ClassId) (dI : Nat → Nat → Nat) (sz : Nat) (h0 : Nat) (ad : Nat → Nat) (cl : Nat → ClassId) (p1 : Int32) (fn378 : Nat → Nat → Int32) : Met l yX11_feedWord vw_a_X11_feedWord_2 ({ frames := 0, cells := 0, slots := 0, locals := 0 }) (va_Pc [.ref h0, .int p1] (fun U => U.heap.size = sz ∧ va_P (dC, dI) vwCl [(h0, .inr (13, [.ref (ad 0), .int 4, .int 0, .ref (ad 1), .ref (ad 2), .ref (ad 3), .ref (ad 4), .ref (ad 5), .ref (ad 6)])), ((ad 0), .inl ((cl 0), 4000, .inl (fn378 0)))] U.heap ∧ va_K (dC, dI) vwCl [((cl 0), .int)] U ∧ va_D (fun _ => True) [(h0, .inr (13, [.ref (ad 0), .int 4, .int 0, .ref (ad 1), .ref (ad 2), .ref (ad 3), .ref (ad 4), .ref (ad 5), .ref (ad 6)])), ((ad 0), .inl ((cl 0), 4000, .inl (fn378 0)))])) (va_Qv (fun (u : (Nat → Nat) × (Nat → ClassId) × (Nat → Nat → Int32)) => True) (fun (u : (Nat → Nat) × (Nat → ClassId) × (Nat → Nat → Int32)) t => va_P (dC, dI) vwCl [(h0, .inr (13, [.ref (ad 0), .int 8, .int 0, .ref (ad 1), .ref (ad 2), .ref (ad 3), .ref (ad 4), .ref (ad 5), .ref (ad 6)])), ((ad 0), .inl ((cl 0), 4000, .inl (u.2.2 0)))] t.heap ∧ va_K (dC, dI) vwCl [((cl 0), .int)] t ∧ va_D (va_A [(h0, .inr (13, [.ref (ad 0), .int 4, .int 0, .ref (ad 1), .ref (ad 2), .ref (ad 3), .ref (ad 4), .ref (ad 5), .ref (ad 6)])), ((ad 0), .inl ((cl 0), 4000, .inl (fn378 0)))] sz) [(h0, .inr (13, [.ref (ad 0), .int 8, .int 0, .ref (ad 1), .ref (ad 2), .ref (ad 3), .ref (ad 4), .ref (ad 5), .ref (ad 6)])), ((ad 0), .inl ((cl 0), 4000, .inl (u.2.2 0)))]) (va_A [(h0, .inr (13, [.ref (ad 0), .int 4, .int 0, .ref (ad 1), .ref (ad 2), .ref (ad 3), .ref (ad 4), .ref (ad 5), .ref (ad 6)])), ((ad 0), .inl ((cl 0), 4000, .inl (fn378 0)))] sz)) 0 0 (va_A [(h0, .inr (13, [.ref (ad 0), .int 4, .int 0, .ref (ad 1), .ref (ad 2), .ref (ad 3), .ref (ad 4), .ref (ad 5), .ref (ad 6)])), ((ad 0), .inl ((cl 0), 4000, .inl (fn378 0)))] sz) := by
  refine Met.ofW (cc := cX11_feedWord) (maxL := 3) (ret := none) (by decide) rfl ?_
  intro p e s m args below meth c s₁ B hml hv
  obtain ⟨rfl, hsz, hP, hK, hD0⟩ := hv
  have hx := B.exec
  have hb := B.bytes
  have hr := B.returns
  have hts := atoms_spec (ws := vw_a_X11_feedWord_2) B.pre
  have hown : s.vm.findClass RX11 = some m.cls := findClass_of_methodNamed B.named
  have hlocks := B.notSynchronized
  subst hsz
  have hD := hD0.self (sz := s.heap.size)
  generalize hAe : va_A [(h0, .inr (13, [.ref (ad 0), .int 4, .int 0, .ref (ad 1), .ref (ad 2), .ref (ad 3), .ref (ad 4), .ref (ad 5), .ref (ad 6)])), ((ad 0), .inl ((cl 0), 4000, .inl (fn378 0)))] s.heap.size = A at hD ⊢
  have hA : ∀ q : Nat, s.heap.size ≤ q → A q := fun q h => by rw [← hAe]; exact Or.inr h
  have hS : va_S A s.heap s.heap [] := va_S.rf
  have hP : va_P (dC, dI) vwCl [(h0, .inr (13, [.ref (ad 0), .int 4, .int 0, .ref (ad 1), .ref (ad 2), .ref (ad 3), .ref (ad 4), .ref (ad 5), .ref (ad 6)])), ((ad 0), .inl ((cl 0), 4000, .inl (fn378 0)))] s.heap := hP
  have hl := lv_entry ([.ref h0, .int p1]) (n := 3) (Nat.le_of_ble_eq_true rfl)
  rw [lg_entry_eq]
  generalize (lg_sl ([.ref h0, .int p1]) ++ List.replicate (3 - (lg_sl ([.ref h0, .int p1])).length) Slot.unset).toArray = ls at hl ⊢
  have hl : lv_has ls 3 [(0, .ref h0), (1, .int p1)] := hl
  have hwX11 : ∀ w ∈ wsX110, w ∈ vw_a_X11_feedWord_2 := (fun w h => List.mem_append_right _ (List.mem_append_right _ (List.mem_append_right _ (List.mem_append_right _ (List.mem_append_right _ (List.mem_append_right _ (List.mem_append_right _ (List.mem_append_right _ (List.mem_append_right _ (List.mem_append_right _ (List.mem_append_right _ (List.mem_append_right _ h))))))))))))
  refine lv_bipush (v := 24) hx hb dX11_feedWord_0 (by decide) ?_
  refine lv_istore_n (lv' := [(2, .int 24), (0, .ref h0), (1, .int p1)]) hx hb dX11_feedWord_2 rfl hl (by decide) rfl (fun ls hl => ?_)
  refine lv_iload_n hx hb dX11_feedWord_3 rfl (lv_at hl 0 rfl) ?_
  refine lv_if_lt (tgt := 49) hx hb dX11_feedWord_4 (by decide) (fun c1_4 => absurd c1_4 (by decide)) (fun _ => ?_)
  refine lv_aload_n hx hb dX11_feedWord_7 rfl (lv_at hl 1 rfl) ?_
  refine va_get (D := (dC, dI)) (ci := 13) (v := .int 4) (C := RX11) (T := TX11) (N := 9) hx hb hts hwX11 hown hK hP 0 rfl rfl 1 (Nat.le_of_ble_eq_true rfl) (hts (.fieldLink RX11 61 "ScriptTypes" "tapeLength" "I") (List.mem_of_getElem? (i := 1) (by decide +kernel))) (fun _ h9 => h9) rfl dX11_feedWord_8 ?_
  refine lv_sipush (v := 4000) hx hb dX11_feedWord_11 (by decide) ?_
  refine lv_icmp_ge (tgt := 43) hx hb dX11_feedWord_14 (by decide) (fun c2_14 => absurd c2_14 (by decide)) (fun _ => ?_)
  refine lv_aload_n hx hb dX11_feedWord_17 rfl (lv_at hl 1 rfl) ?_
  refine va_get (D := (dC, dI)) (ci := 13) (v := .ref (ad 0)) (C := RX11) (T := TX11) (N := 9) hx hb hts hwX11 hown hK hP 0 rfl rfl 0 (Nat.le_of_ble_eq_true rfl) (hts (.fieldLink RX11 9 "ScriptTypes" "tape" "[I") (List.mem_of_getElem? (i := 2) (by decide +kernel))) (fun _ h9 => h9) rfl dX11_feedWord_18 ?_
  refine lv_aload_n hx hb dX11_feedWord_21 rfl (lv_at hl 1 rfl) ?_
  refine va_get (D := (dC, dI)) (ci := 13) (v := .int 4) (C := RX11) (T := TX11) (N := 9) hx hb hts hwX11 hown hK hP 0 rfl rfl 1 (Nat.le_of_ble_eq_true rfl) (hts (.fieldLink RX11 61 "ScriptTypes" "tapeLength" "I") (List.mem_of_getElem? (i := 1) (by decide +kernel))) (fun _ h9 => h9) rfl dX11_feedWord_22 ?_
  refine lv_iload_n hx hb dX11_feedWord_25 rfl (lv_at hl 2 rfl) ?_
  refine lv_iload_n hx hb dX11_feedWord_26 rfl (lv_at hl 0 rfl) ?_
  refine lv_iushr hx hb dX11_feedWord_27 rfl ?_
  refine lv_topi (fun f_3 ef_3 => ?_)
  refine lv_sipush (v := 255) hx hb dX11_feedWord_28 (by decide) ?_
  refine lv_iand hx hb dX11_feedWord_31 ?_
  refine lv_topi (fun f_4 ef_4 => ?_)
  refine va_iast hx hb hK hP hD hS 1 0 rfl rfl (show ¬ ((4 : Int32) < 0 ∨ 4000 ≤ (4 : Int32).toNatClampNeg) by decide) dX11_feedWord_32 (fun H locs hP hD hS => ?_)
  obtain ⟨gg383, egg383⟩ : ∃ z9 : Nat → Int32, z9 = upd (fn378 0) (4 : Int32).toNatClampNeg f_4 := ⟨_, rfl⟩
  have hP : va_P (dC, dI) vwCl [(h0, .inr (13, [.ref (ad 0), .int 4, .int 0, .ref (ad 1), .ref (ad 2), .ref (ad 3), .ref (ad 4), .ref (ad 5), .ref (ad 6)])), ((ad 0), .inl ((cl 0), 4000, .inl gg383))] H := by rw [egg383]; exact hP
  have hD : va_D A [(h0, .inr (13, [.ref (ad 0), .int 4, .int 0, .ref (ad 1), .ref (ad 2), .ref (ad 3), .ref (ad 4), .ref (ad 5), .ref (ad 6)])), ((ad 0), .inl ((cl 0), 4000, .inl gg383))] := by rw [egg383]; exact hD
  refine lv_aload_n hx hb dX11_feedWord_33 rfl (lv_at hl 1 rfl) ?_
  refine lv_dup hx hb dX11_feedWord_34 rfl ?_
  refine va_get (D := (dC, dI)) (ci := 13) (v := .int 4) (C := RX11) (T := TX11) (N := 9) hx hb hts hwX11 hown hK hP 0 rfl rfl 1 (Nat.le_of_ble_eq_true rfl) (hts (.fieldLink RX11 61 "ScriptTypes" "tapeLength" "I") (List.mem_of_getElem? (i := 1) (by decide +kernel))) (fun _ h9 => h9) rfl dX11_feedWord_35 ?_
  refine lv_iconst (v := 1) hx hb dX11_feedWord_38 (by decide) ?_
  refine lv_iadd hx hb dX11_feedWord_39 ?_
  refine lv_topi (fun f_5 ef_5 => ?_)
  obtain rfl : f_5 = 5 := by rw [ef_5]; decide
  refine va_put (D := (dC, dI)) (ci := 13) (v := .int 5) (ty := tyX11 1) (C := RX11) (T := TX11) (N := 9) hx hb hts hwX11 tyX11 tyX11_ok nmX11 hown hK hP hD hS 0 rfl rfl 1 (Nat.le_of_ble_eq_true rfl) (hts (.fieldLink RX11 61 "ScriptTypes" "tapeLength" "I") (List.mem_of_getElem? (i := 1) (by decide +kernel))) (fun _ h9 => h9) rfl (tyX11_ok 1 (Nat.le_of_ble_eq_true rfl)) rfl rfl (Nat.le_of_ble_eq_true rfl) dX11_feedWord_40 (fun H locs hP hD hS => ?_)
  have hP : va_P (dC, dI) vwCl [(h0, .inr (13, [.ref (ad 0), .int 5, .int 0, .ref (ad 1), .ref (ad 2), .ref (ad 3), .ref (ad 4), .ref (ad 5), .ref (ad 6)])), ((ad 0), .inl ((cl 0), 4000, .inl gg383))] H := hP
  have hD : va_D A [(h0, .inr (13, [.ref (ad 0), .int 5, .int 0, .ref (ad 1), .ref (ad 2), .ref (ad 3), .ref (ad 4), .ref (ad 5), .ref (ad 6)])), ((ad 0), .inl ((cl 0), 4000, .inl gg383))] := hD
  refine lv_iinc (v := 16) (lv' := [(2, .int 16), (0, .ref h0), (1, .int p1)]) hx hb dX11_feedWord_43 hl (k := 0) rfl (by decide) (by decide) rfl (fun ls hl => ?_)
  refine lv_goto (tgt := 3) hx hb dX11_feedWord_46 (by decide) ?_
  refine lv_iload_n hx hb dX11_feedWord_3 rfl (lv_at hl 0 rfl) ?_
  refine lv_if_lt (tgt := 49) hx hb dX11_feedWord_4 (by decide) (fun c6_4 => absurd c6_4 (by decide)) (fun _ => ?_)
  refine lv_aload_n hx hb dX11_feedWord_7 rfl (lv_at hl 1 rfl) ?_
  refine va_get (D := (dC, dI)) (ci := 13) (v := .int 5) (C := RX11) (T := TX11) (N := 9) hx hb hts hwX11 hown hK hP 0 rfl rfl 1 (Nat.le_of_ble_eq_true rfl) (hts (.fieldLink RX11 61 "ScriptTypes" "tapeLength" "I") (List.mem_of_getElem? (i := 1) (by decide +kernel))) (fun _ h9 => h9) rfl dX11_feedWord_8 ?_
  refine lv_sipush (v := 4000) hx hb dX11_feedWord_11 (by decide) ?_
  refine lv_icmp_ge (tgt := 43) hx hb dX11_feedWord_14 (by decide) (fun c7_14 => absurd c7_14 (by decide)) (fun _ => ?_)
  refine lv_aload_n hx hb dX11_feedWord_17 rfl (lv_at hl 1 rfl) ?_
  refine va_get (D := (dC, dI)) (ci := 13) (v := .ref (ad 0)) (C := RX11) (T := TX11) (N := 9) hx hb hts hwX11 hown hK hP 0 rfl rfl 0 (Nat.le_of_ble_eq_true rfl) (hts (.fieldLink RX11 9 "ScriptTypes" "tape" "[I") (List.mem_of_getElem? (i := 2) (by decide +kernel))) (fun _ h9 => h9) rfl dX11_feedWord_18 ?_
  refine lv_aload_n hx hb dX11_feedWord_21 rfl (lv_at hl 1 rfl) ?_
  refine va_get (D := (dC, dI)) (ci := 13) (v := .int 5) (C := RX11) (T := TX11) (N := 9) hx hb hts hwX11 hown hK hP 0 rfl rfl 1 (Nat.le_of_ble_eq_true rfl) (hts (.fieldLink RX11 61 "ScriptTypes" "tapeLength" "I") (List.mem_of_getElem? (i := 1) (by decide +kernel))) (fun _ h9 => h9) rfl dX11_feedWord_22 ?_
  refine lv_iload_n hx hb dX11_feedWord_25 rfl (lv_at hl 2 rfl) ?_
  refine lv_iload_n hx hb dX11_feedWord_26 rfl (lv_at hl 0 rfl) ?_
  refine lv_iushr hx hb dX11_feedWord_27 rfl ?_
  refine lv_topi (fun f_8 ef_8 => ?_)
  refine lv_sipush (v := 255) hx hb dX11_feedWord_28 (by decide) ?_
  refine lv_iand hx hb dX11_feedWord_31 ?_
  refine lv_topi (fun f_9 ef_9 => ?_)
  refine va_iast hx hb hK hP hD hS 1 0 rfl rfl (show ¬ ((5 : Int32) < 0 ∨ 4000 ≤ (5 : Int32).toNatClampNeg) by decide) dX11_feedWord_32 (fun H locs hP hD hS => ?_)
  obtain ⟨gg384, egg384⟩ : ∃ z9 : Nat → Int32, z9 = upd gg383 (5 : Int32).toNatClampNeg f_9 := ⟨_, rfl⟩
  have hP : va_P (dC, dI) vwCl [(h0, .inr (13, [.ref (ad 0), .int 5, .int 0, .ref (ad 1), .ref (ad 2), .ref (ad 3), .ref (ad 4), .ref (ad 5), .ref (ad 6)])), ((ad 0), .inl ((cl 0), 4000, .inl gg384))] H := by rw [egg384]; exact hP
  have hD : va_D A [(h0, .inr (13, [.ref (ad 0), .int 5, .int 0, .ref (ad 1), .ref (ad 2), .ref (ad 3), .ref (ad 4), .ref (ad 5), .ref (ad 6)])), ((ad 0), .inl ((cl 0), 4000, .inl gg384))] := by rw [egg384]; exact hD
  refine lv_aload_n hx hb dX11_feedWord_33 rfl (lv_at hl 1 rfl) ?_
  refine lv_dup hx hb dX11_feedWord_34 rfl ?_
  refine va_get (D := (dC, dI)) (ci := 13) (v := .int 5) (C := RX11) (T := TX11) (N := 9) hx hb hts hwX11 hown hK hP 0 rfl rfl 1 (Nat.le_of_ble_eq_true rfl) (hts (.fieldLink RX11 61 "ScriptTypes" "tapeLength" "I") (List.mem_of_getElem? (i := 1) (by decide +kernel))) (fun _ h9 => h9) rfl dX11_feedWord_35 ?_
  refine lv_iconst (v := 1) hx hb dX11_feedWord_38 (by decide) ?_
  refine lv_iadd hx hb dX11_feedWord_39 ?_
  refine lv_topi (fun f_10 ef_10 => ?_)
  obtain rfl : f_10 = 6 := by rw [ef_10]; decide
  refine va_put (D := (dC, dI)) (ci := 13) (v := .int 6) (ty := tyX11 1) (C := RX11) (T := TX11) (N := 9) hx hb hts hwX11 tyX11 tyX11_ok nmX11 hown hK hP hD hS 0 rfl rfl 1 (Nat.le_of_ble_eq_true rfl) (hts (.fieldLink RX11 61 "ScriptTypes" "tapeLength" "I") (List.mem_of_getElem? (i := 1) (by decide +kernel))) (fun _ h9 => h9) rfl (tyX11_ok 1 (Nat.le_of_ble_eq_true rfl)) rfl rfl (Nat.le_of_ble_eq_true rfl) dX11_feedWord_40 (fun H locs hP hD hS => ?_)
  have hP : va_P (dC, dI) vwCl [(h0, .inr (13, [.ref (ad 0), .int 6, .int 0, .ref (ad 1), .ref (ad 2), .ref (ad 3), .ref (ad 4), .ref (ad 5), .ref (ad 6)])), ((ad 0), .inl ((cl 0), 4000, .inl gg384))] H := hP
  have hD : va_D A [(h0, .inr (13, [.ref (ad 0), .int 6, .int 0, .ref (ad 1), .ref (ad 2), .ref (ad 3), .ref (ad 4), .ref (ad 5), .ref (ad 6)])), ((ad 0), .inl ((cl 0), 4000, .inl gg384))] := hD
  refine lv_iinc (v := 8) (lv' := [(2, .int 8), (0, .ref h0), (1, .int p1)]) hx hb dX11_feedWord_43 hl (k := 0) rfl (by decide) (by decide) rfl (fun ls hl => ?_)
  refine lv_goto (tgt := 3) hx hb dX11_feedWord_46 (by decide) ?_
  refine lv_iload_n hx hb dX11_feedWord_3 rfl (lv_at hl 0 rfl) ?_
  refine lv_if_lt (tgt := 49) hx hb dX11_feedWord_4 (by decide) (fun c11_4 => absurd c11_4 (by decide)) (fun _ => ?_)
  refine lv_aload_n hx hb dX11_feedWord_7 rfl (lv_at hl 1 rfl) ?_
  refine va_get (D := (dC, dI)) (ci := 13) (v := .int 6) (C := RX11) (T := TX11) (N := 9) hx hb hts hwX11 hown hK hP 0 rfl rfl 1 (Nat.le_of_ble_eq_true rfl) (hts (.fieldLink RX11 61 "ScriptTypes" "tapeLength" "I") (List.mem_of_getElem? (i := 1) (by decide +kernel))) (fun _ h9 => h9) rfl dX11_feedWord_8 ?_
  refine lv_sipush (v := 4000) hx hb dX11_feedWord_11 (by decide) ?_
  refine lv_icmp_ge (tgt := 43) hx hb dX11_feedWord_14 (by decide) (fun c12_14 => absurd c12_14 (by decide)) (fun _ => ?_)
  refine lv_aload_n hx hb dX11_feedWord_17 rfl (lv_at hl 1 rfl) ?_
  refine va_get (D := (dC, dI)) (ci := 13) (v := .ref (ad 0)) (C := RX11) (T := TX11) (N := 9) hx hb hts hwX11 hown hK hP 0 rfl rfl 0 (Nat.le_of_ble_eq_true rfl) (hts (.fieldLink RX11 9 "ScriptTypes" "tape" "[I") (List.mem_of_getElem? (i := 2) (by decide +kernel))) (fun _ h9 => h9) rfl dX11_feedWord_18 ?_
  refine lv_aload_n hx hb dX11_feedWord_21 rfl (lv_at hl 1 rfl) ?_
  refine va_get (D := (dC, dI)) (ci := 13) (v := .int 6) (C := RX11) (T := TX11) (N := 9) hx hb hts hwX11 hown hK hP 0 rfl rfl 1 (Nat.le_of_ble_eq_true rfl) (hts (.fieldLink RX11 61 "ScriptTypes" "tapeLength" "I") (List.mem_of_getElem? (i := 1) (by decide +kernel))) (fun _ h9 => h9) rfl dX11_feedWord_22 ?_
  refine lv_iload_n hx hb dX11_feedWord_25 rfl (lv_at hl 2 rfl) ?_
  refine lv_iload_n hx hb dX11_feedWord_26 rfl (lv_at hl 0 rfl) ?_
  refine lv_iushr hx hb dX11_feedWord_27 rfl ?_
  refine lv_topi (fun f_13 ef_13 => ?_)
  refine lv_sipush (v := 255) hx hb dX11_feedWord_28 (by decide) ?_
  refine lv_iand hx hb dX11_feedWord_31 ?_
  refine lv_topi (fun f_14 ef_14 => ?_)
  refine va_iast hx hb hK hP hD hS 1 0 rfl rfl (show ¬ ((6 : Int32) < 0 ∨ 4000 ≤ (6 : Int32).toNatClampNeg) by decide) dX11_feedWord_32 (fun H locs hP hD hS => ?_)
  obtain ⟨gg385, egg385⟩ : ∃ z9 : Nat → Int32, z9 = upd gg384 (6 : Int32).toNatClampNeg f_14 := ⟨_, rfl⟩
  have hP : va_P (dC, dI) vwCl [(h0, .inr (13, [.ref (ad 0), .int 6, .int 0, .ref (ad 1), .ref (ad 2), .ref (ad 3), .ref (ad 4), .ref (ad 5), .ref (ad 6)])), ((ad 0), .inl ((cl 0), 4000, .inl gg385))] H := by rw [egg385]; exact hP
  have hD : va_D A [(h0, .inr (13, [.ref (ad 0), .int 6, .int 0, .ref (ad 1), .ref (ad 2), .ref (ad 3), .ref (ad 4), .ref (ad 5), .ref (ad 6)])), ((ad 0), .inl ((cl 0), 4000, .inl gg385))] := by rw [egg385]; exact hD
  refine lv_aload_n hx hb dX11_feedWord_33 rfl (lv_at hl 1 rfl) ?_
  refine lv_dup hx hb dX11_feedWord_34 rfl ?_
  refine va_get (D := (dC, dI)) (ci := 13) (v := .int 6) (C := RX11) (T := TX11) (N := 9) hx hb hts hwX11 hown hK hP 0 rfl rfl 1 (Nat.le_of_ble_eq_true rfl) (hts (.fieldLink RX11 61 "ScriptTypes" "tapeLength" "I") (List.mem_of_getElem? (i := 1) (by decide +kernel))) (fun _ h9 => h9) rfl dX11_feedWord_35 ?_
  refine lv_iconst (v := 1) hx hb dX11_feedWord_38 (by decide) ?_
  refine lv_iadd hx hb dX11_feedWord_39 ?_
  refine lv_topi (fun f_15 ef_15 => ?_)
  obtain rfl : f_15 = 7 := by rw [ef_15]; decide
  refine va_put (D := (dC, dI)) (ci := 13) (v := .int 7) (ty := tyX11 1) (C := RX11) (T := TX11) (N := 9) hx hb hts hwX11 tyX11 tyX11_ok nmX11 hown hK hP hD hS 0 rfl rfl 1 (Nat.le_of_ble_eq_true rfl) (hts (.fieldLink RX11 61 "ScriptTypes" "tapeLength" "I") (List.mem_of_getElem? (i := 1) (by decide +kernel))) (fun _ h9 => h9) rfl (tyX11_ok 1 (Nat.le_of_ble_eq_true rfl)) rfl rfl (Nat.le_of_ble_eq_true rfl) dX11_feedWord_40 (fun H locs hP hD hS => ?_)
  have hP : va_P (dC, dI) vwCl [(h0, .inr (13, [.ref (ad 0), .int 7, .int 0, .ref (ad 1), .ref (ad 2), .ref (ad 3), .ref (ad 4), .ref (ad 5), .ref (ad 6)])), ((ad 0), .inl ((cl 0), 4000, .inl gg385))] H := hP
  have hD : va_D A [(h0, .inr (13, [.ref (ad 0), .int 7, .int 0, .ref (ad 1), .ref (ad 2), .ref (ad 3), .ref (ad 4), .ref (ad 5), .ref (ad 6)])), ((ad 0), .inl ((cl 0), 4000, .inl gg385))] := hD
  refine lv_iinc (v := 0) (lv' := [(2, .int 0), (0, .ref h0), (1, .int p1)]) hx hb dX11_feedWord_43 hl (k := 0) rfl (by decide) (by decide) rfl (fun ls hl => ?_)
  refine lv_goto (tgt := 3) hx hb dX11_feedWord_46 (by decide) ?_
  refine lv_iload_n hx hb dX11_feedWord_3 rfl (lv_at hl 0 rfl) ?_
  refine lv_if_lt (tgt := 49) hx hb dX11_feedWord_4 (by decide) (fun c16_4 => absurd c16_4 (by decide)) (fun _ => ?_)
  refine lv_aload_n hx hb dX11_feedWord_7 rfl (lv_at hl 1 rfl) ?_
  refine va_get (D := (dC, dI)) (ci := 13) (v := .int 7) (C := RX11) (T := TX11) (N := 9) hx hb hts hwX11 hown hK hP 0 rfl rfl 1 (Nat.le_of_ble_eq_true rfl) (hts (.fieldLink RX11 61 "ScriptTypes" "tapeLength" "I") (List.mem_of_getElem? (i := 1) (by decide +kernel))) (fun _ h9 => h9) rfl dX11_feedWord_8 ?_
  refine lv_sipush (v := 4000) hx hb dX11_feedWord_11 (by decide) ?_
  refine lv_icmp_ge (tgt := 43) hx hb dX11_feedWord_14 (by decide) (fun c17_14 => absurd c17_14 (by decide)) (fun _ => ?_)
  refine lv_aload_n hx hb dX11_feedWord_17 rfl (lv_at hl 1 rfl) ?_
  refine va_get (D := (dC, dI)) (ci := 13) (v := .ref (ad 0)) (C := RX11) (T := TX11) (N := 9) hx hb hts hwX11 hown hK hP 0 rfl rfl 0 (Nat.le_of_ble_eq_true rfl) (hts (.fieldLink RX11 9 "ScriptTypes" "tape" "[I") (List.mem_of_getElem? (i := 2) (by decide +kernel))) (fun _ h9 => h9) rfl dX11_feedWord_18 ?_
  refine lv_aload_n hx hb dX11_feedWord_21 rfl (lv_at hl 1 rfl) ?_
  refine va_get (D := (dC, dI)) (ci := 13) (v := .int 7) (C := RX11) (T := TX11) (N := 9) hx hb hts hwX11 hown hK hP 0 rfl rfl 1 (Nat.le_of_ble_eq_true rfl) (hts (.fieldLink RX11 61 "ScriptTypes" "tapeLength" "I") (List.mem_of_getElem? (i := 1) (by decide +kernel))) (fun _ h9 => h9) rfl dX11_feedWord_22 ?_
  refine lv_iload_n hx hb dX11_feedWord_25 rfl (lv_at hl 2 rfl) ?_
  refine lv_iload_n hx hb dX11_feedWord_26 rfl (lv_at hl 0 rfl) ?_
  refine lv_iushr hx hb dX11_feedWord_27 rfl ?_
  refine lv_topi (fun f_18 ef_18 => ?_)
  refine lv_sipush (v := 255) hx hb dX11_feedWord_28 (by decide) ?_
  refine lv_iand hx hb dX11_feedWord_31 ?_
  refine lv_topi (fun f_19 ef_19 => ?_)
  refine va_iast hx hb hK hP hD hS 1 0 rfl rfl (show ¬ ((7 : Int32) < 0 ∨ 4000 ≤ (7 : Int32).toNatClampNeg) by decide) dX11_feedWord_32 (fun H locs hP hD hS => ?_)
  obtain ⟨gg386, egg386⟩ : ∃ z9 : Nat → Int32, z9 = upd gg385 (7 : Int32).toNatClampNeg f_19 := ⟨_, rfl⟩
  have hP : va_P (dC, dI) vwCl [(h0, .inr (13, [.ref (ad 0), .int 7, .int 0, .ref (ad 1), .ref (ad 2), .ref (ad 3), .ref (ad 4), .ref (ad 5), .ref (ad 6)])), ((ad 0), .inl ((cl 0), 4000, .inl gg386))] H := by rw [egg386]; exact hP
  have hD : va_D A [(h0, .inr (13, [.ref (ad 0), .int 7, .int 0, .ref (ad 1), .ref (ad 2), .ref (ad 3), .ref (ad 4), .ref (ad 5), .ref (ad 6)])), ((ad 0), .inl ((cl 0), 4000, .inl gg386))] := by rw [egg386]; exact hD
  refine lv_aload_n hx hb dX11_feedWord_33 rfl (lv_at hl 1 rfl) ?_
  refine lv_dup hx hb dX11_feedWord_34 rfl ?_
  refine va_get (D := (dC, dI)) (ci := 13) (v := .int 7) (C := RX11) (T := TX11) (N := 9) hx hb hts hwX11 hown hK hP 0 rfl rfl 1 (Nat.le_of_ble_eq_true rfl) (hts (.fieldLink RX11 61 "ScriptTypes" "tapeLength" "I") (List.mem_of_getElem? (i := 1) (by decide +kernel))) (fun _ h9 => h9) rfl dX11_feedWord_35 ?_
  refine lv_iconst (v := 1) hx hb dX11_feedWord_38 (by decide) ?_
  refine lv_iadd hx hb dX11_feedWord_39 ?_
  refine lv_topi (fun f_20 ef_20 => ?_)
  obtain rfl : f_20 = 8 := by rw [ef_20]; decide
  refine va_put (D := (dC, dI)) (ci := 13) (v := .int 8) (ty := tyX11 1) (C := RX11) (T := TX11) (N := 9) hx hb hts hwX11 tyX11 tyX11_ok nmX11 hown hK hP hD hS 0 rfl rfl 1 (Nat.le_of_ble_eq_true rfl) (hts (.fieldLink RX11 61 "ScriptTypes" "tapeLength" "I") (List.mem_of_getElem? (i := 1) (by decide +kernel))) (fun _ h9 => h9) rfl (tyX11_ok 1 (Nat.le_of_ble_eq_true rfl)) rfl rfl (Nat.le_of_ble_eq_true rfl) dX11_feedWord_40 (fun H locs hP hD hS => ?_)
  have hP : va_P (dC, dI) vwCl [(h0, .inr (13, [.ref (ad 0), .int 8, .int 0, .ref (ad 1), .ref (ad 2), .ref (ad 3), .ref (ad 4), .ref (ad 5), .ref (ad 6)])), ((ad 0), .inl ((cl 0), 4000, .inl gg386))] H := hP
  have hD : va_D A [(h0, .inr (13, [.ref (ad 0), .int 8, .int 0, .ref (ad 1), .ref (ad 2), .ref (ad 3), .ref (ad 4), .ref (ad 5), .ref (ad 6)])), ((ad 0), .inl ((cl 0), 4000, .inl gg386))] := hD
  refine lv_iinc (v := (-8)) (lv' := [(2, .int (-8)), (0, .ref h0), (1, .int p1)]) hx hb dX11_feedWord_43 hl (k := 0) rfl (by decide) (by decide) rfl (fun ls hl => ?_)
  refine lv_goto (tgt := 3) hx hb dX11_feedWord_46 (by decide) ?_
  refine lv_iload_n hx hb dX11_feedWord_3 rfl (lv_at hl 0 rfl) ?_
  refine lv_if_lt (tgt := 49) hx hb dX11_feedWord_4 (by decide) (fun _ => ?_) (fun c21_4 => absurd (by decide) c21_4)
  refine W.widen (k := 0) (n := 0) (Nat.le_of_ble_eq_true rfl) (Nat.le_of_ble_eq_true rfl) ?_
  exact W.vret hx hb hr (fun t ht hW => ⟨⟨(fun n => ([] : List Nat).getD n 0, fun n => ([] : List ClassId).getD n 0, fun n => ([gg386] : List (Nat → Int32)).getD n (fun _ => 0)), rfl, trivial, by rw [ht]; exact hP, va_K.moved hW.alike hK, hD⟩, hS.F ht⟩) hS.2.2 dX11_feedWord_49

def vb_a_X11_feedWord_3 : List Cond := .code yX11_feedWord cX11_feedWord 3 none :: ([.fieldLink RX11 61 "ScriptTypes" "tapeLength" "I", .fieldLink RX11 9 "ScriptTypes" "tape" "[I"] ++ [])
def vw_a_X11_feedWord_3 : List Cond := vb_a_X11_feedWord_3 ++ wsAll
set_option maxHeartbeats 8000000 in
set_option maxRecDepth 100000 in
theorem a_X11_feedWord_3 (l : Launch) (dC : Nat → ClassId) (dI : Nat → Nat → Nat) (sz : Nat) (h0 : Nat) (ad : Nat → Nat) (cl : Nat → ClassId) (p2 : Int32) (fn387 : Nat → Nat → Int32) : Met l yX11_feedWord vw_a_X11_feedWord_3 ({ frames := 0, cells := 0, slots := 0, locals := 0 }) (va_Pc [.ref h0, .int p2] (fun U => U.heap.size = sz ∧ va_P (dC, dI) vwCl [(h0, .inr (13, [.ref (ad 0), .int 8, .int 0, .ref (ad 1), .ref (ad 2), .ref (ad 3), .ref (ad 4), .ref (ad 5), .ref (ad 6)])), ((ad 0), .inl ((cl 0), 4000, .inl (fn387 0)))] U.heap ∧ va_K (dC, dI) vwCl [((cl 0), .int)] U ∧ va_D (fun _ => True) [(h0, .inr (13, [.ref (ad 0), .int 8, .int 0, .ref (ad 1), .ref (ad 2), .ref (ad 3), .ref (ad 4), .ref (ad 5), .ref (ad 6)])), ((ad 0), .inl ((cl 0), 4000, .inl (fn387 0)))])) (va_Qv (fun (u : (Nat → Nat) × (Nat → ClassId) × (Nat → Nat → Int32)) => True) (fun (u : (Nat → Nat) × (Nat → ClassId) × (Nat → Nat → Int32)) t => va_P (dC, dI) vwCl [(h0, .inr (13, [.ref (ad 0), .int 12, .int 0, .ref (ad 1), .ref (ad 2), .ref (ad 3), .ref (ad 4), .ref (ad 5), .ref (ad 6)])), ((ad 0), .inl ((cl 0), 4000, .inl (u.2.2 0)))] t.heap ∧ va_K (dC, dI) vwCl [((cl 0), .int)] t ∧ va_D (va_A [(h0, .inr (13, [.ref (ad 0), .int 8, .int 0, .ref (ad 1), .ref (ad 2), .ref (ad 3), .ref (ad 4), .ref (ad 5), .ref (ad 6)])), ((ad 0), .inl ((cl 0), 4000, .inl (fn387 0)))] sz) [(h0, .inr (13, [.ref (ad 0), .int 12, .int 0, .ref (ad 1), .ref (ad 2), .ref (ad 3), .ref (ad 4), .ref (ad 5), .ref (ad 6)])), ((ad 0), .inl ((cl 0), 4000, .inl (u.2.2 0)))]) (va_A [(h0, .inr (13, [.ref (ad 0), .int 8, .int 0, .ref (ad 1), .ref (ad 2), .ref (ad 3), .ref (ad 4), .ref (ad 5), .ref (ad 6)])), ((ad 0), .inl ((cl 0), 4000, .inl (fn387 0)))] sz)) 0 0 (va_A [(h0, .inr (13, [.ref (ad 0), .int 8, .int 0, .ref (ad 1), .ref (ad 2), .ref (ad 3), .ref (ad 4), .ref (ad 5), .ref (ad 6)])), ((ad 0), .inl ((cl 0), 4000, .inl (fn387 0)))] sz) := by
  refine Met.ofW (cc := cX11_feedWord) (maxL := 3) (ret := none) (by decide) rfl ?_
  intro p e s m args below meth c s₁ B hml hv
  obtain ⟨rfl, hsz, hP, hK, hD0⟩ := hv
  have hx := B.exec
  have hb := B.bytes
  have hr := B.returns
  have hts := atoms_spec (ws := vw_a_X11_feedWord_3) B.pre
  have hown : s.vm.findClass RX11 = some m.cls := findClass_of_methodNamed B.named
  have hlocks := B.notSynchronized
  subst hsz
  have hD := hD0.self (sz := s.heap.size)
  generalize hAe : va_A [(h0, .inr (13, [.ref (ad 0), .int 8, .int 0, .ref (ad 1), .ref (ad 2), .ref (ad 3), .ref (ad 4), .ref (ad 5), .ref (ad 6)])), ((ad 0), .inl ((cl 0), 4000, .inl (fn387 0)))] s.heap.size = A at hD ⊢
  have hA : ∀ q : Nat, s.heap.size ≤ q → A q := fun q h => by rw [← hAe]; exact Or.inr h
  have hS : va_S A s.heap s.heap [] := va_S.rf
  have hP : va_P (dC, dI) vwCl [(h0, .inr (13, [.ref (ad 0), .int 8, .int 0, .ref (ad 1), .ref (ad 2), .ref (ad 3), .ref (ad 4), .ref (ad 5), .ref (ad 6)])), ((ad 0), .inl ((cl 0), 4000, .inl (fn387 0)))] s.heap := hP
  have hl := lv_entry ([.ref h0, .int p2]) (n := 3) (Nat.le_of_ble_eq_true rfl)
  rw [lg_entry_eq]
  generalize (lg_sl ([.ref h0, .int p2]) ++ List.replicate (3 - (lg_sl ([.ref h0, .int p2])).length) Slot.unset).toArray = ls at hl ⊢
  have hl : lv_has ls 3 [(0, .ref h0), (1, .int p2)] := hl
  have hwX11 : ∀ w ∈ wsX110, w ∈ vw_a_X11_feedWord_3 := (fun w h => List.mem_append_right _ (List.mem_append_right _ (List.mem_append_right _ (List.mem_append_right _ (List.mem_append_right _ (List.mem_append_right _ (List.mem_append_right _ (List.mem_append_right _ (List.mem_append_right _ (List.mem_append_right _ (List.mem_append_right _ (List.mem_append_right _ h))))))))))))
  refine lv_bipush (v := 24) hx hb dX11_feedWord_0 (by decide) ?_
  refine lv_istore_n (lv' := [(2, .int 24), (0, .ref h0), (1, .int p2)]) hx hb dX11_feedWord_2 rfl hl (by decide) rfl (fun ls hl => ?_)
  refine lv_iload_n hx hb dX11_feedWord_3 rfl (lv_at hl 0 rfl) ?_
  refine lv_if_lt (tgt := 49) hx hb dX11_feedWord_4 (by decide) (fun c1_4 => absurd c1_4 (by decide)) (fun _ => ?_)
  refine lv_aload_n hx hb dX11_feedWord_7 rfl (lv_at hl 1 rfl) ?_
  refine va_get (D := (dC, dI)) (ci := 13) (v := .int 8) (C := RX11) (T := TX11) (N := 9) hx hb hts hwX11 hown hK hP 0 rfl rfl 1 (Nat.le_of_ble_eq_true rfl) (hts (.fieldLink RX11 61 "ScriptTypes" "tapeLength" "I") (List.mem_of_getElem? (i := 1) (by decide +kernel))) (fun _ h9 => h9) rfl dX11_feedWord_8 ?_
  refine lv_sipush (v := 4000) hx hb dX11_feedWord_11 (by decide) ?_
  refine lv_icmp_ge (tgt := 43) hx hb dX11_feedWord_14 (by decide) (fun c2_14 => absurd c2_14 (by decide)) (fun _ => ?_)
  refine lv_aload_n hx hb dX11_feedWord_17 rfl (lv_at hl 1 rfl) ?_
  refine va_get (D := (dC, dI)) (ci := 13) (v := .ref (ad 0)) (C := RX11) (T := TX11) (N := 9) hx hb hts hwX11 hown hK hP 0 rfl rfl 0 (Nat.le_of_ble_eq_true rfl) (hts (.fieldLink RX11 9 "ScriptTypes" "tape" "[I") (List.mem_of_getElem? (i := 2) (by decide +kernel))) (fun _ h9 => h9) rfl dX11_feedWord_18 ?_
  refine lv_aload_n hx hb dX11_feedWord_21 rfl (lv_at hl 1 rfl) ?_
  refine va_get (D := (dC, dI)) (ci := 13) (v := .int 8) (C := RX11) (T := TX11) (N := 9) hx hb hts hwX11 hown hK hP 0 rfl rfl 1 (Nat.le_of_ble_eq_true rfl) (hts (.fieldLink RX11 61 "ScriptTypes" "tapeLength" "I") (List.mem_of_getElem? (i := 1) (by decide +kernel))) (fun _ h9 => h9) rfl dX11_feedWord_22 ?_
  refine lv_iload_n hx hb dX11_feedWord_25 rfl (lv_at hl 2 rfl) ?_
  refine lv_iload_n hx hb dX11_feedWord_26 rfl (lv_at hl 0 rfl) ?_
  refine lv_iushr hx hb dX11_feedWord_27 rfl ?_
  refine lv_topi (fun f_3 ef_3 => ?_)
  refine lv_sipush (v := 255) hx hb dX11_feedWord_28 (by decide) ?_
  refine lv_iand hx hb dX11_feedWord_31 ?_
  refine lv_topi (fun f_4 ef_4 => ?_)
  refine va_iast hx hb hK hP hD hS 1 0 rfl rfl (show ¬ ((8 : Int32) < 0 ∨ 4000 ≤ (8 : Int32).toNatClampNeg) by decide) dX11_feedWord_32 (fun H locs hP hD hS => ?_)
  obtain ⟨gg392, egg392⟩ : ∃ z9 : Nat → Int32, z9 = upd (fn387 0) (8 : Int32).toNatClampNeg f_4 := ⟨_, rfl⟩
  have hP : va_P (dC, dI) vwCl [(h0, .inr (13, [.ref (ad 0), .int 8, .int 0, .ref (ad 1), .ref (ad 2), .ref (ad 3), .ref (ad 4), .ref (ad 5), .ref (ad 6)])), ((ad 0), .inl ((cl 0), 4000, .inl gg392))] H := by rw [egg392]; exact hP
  have hD : va_D A [(h0, .inr (13, [.ref (ad 0), .int 8, .int 0, .ref (ad 1), .ref (ad 2), .ref (ad 3), .ref (ad 4), .ref (ad 5), .ref (ad 6)])), ((ad 0), .inl ((cl 0), 4000, .inl gg392))] := by rw [egg392]; exact hD
  refine lv_aload_n hx hb dX11_feedWord_33 rfl (lv_at hl 1 rfl) ?_
  refine lv_dup hx hb dX11_feedWord_34 rfl ?_
  refine va_get (D := (dC, dI)) (ci := 13) (v := .int 8) (C := RX11) (T := TX11) (N := 9) hx hb hts hwX11 hown hK hP 0 rfl rfl 1 (Nat.le_of_ble_eq_true rfl) (hts (.fieldLink RX11 61 "ScriptTypes" "tapeLength" "I") (List.mem_of_getElem? (i := 1) (by decide +kernel))) (fun _ h9 => h9) rfl dX11_feedWord_35 ?_
  refine lv_iconst (v := 1) hx hb dX11_feedWord_38 (by decide) ?_
  refine lv_iadd hx hb dX11_feedWord_39 ?_
  refine lv_topi (fun f_5 ef_5 => ?_)
  obtain rfl : f_5 = 9 := by rw [ef_5]; decide
  refine va_put (D := (dC, dI)) (ci := 13) (v := .int 9) (ty := tyX11 1) (C := RX11) (T := TX11) (N := 9) hx hb hts hwX11 tyX11 tyX11_ok nmX11 hown hK hP hD hS 0 rfl rfl 1 (Nat.le_of_ble_eq_true rfl) (hts (.fieldLink RX11 61 "ScriptTypes" "tapeLength" "I") (List.mem_of_getElem? (i := 1) (by decide +kernel))) (fun _ h9 => h9) rfl (tyX11_ok 1 (Nat.le_of_ble_eq_true rfl)) rfl rfl (Nat.le_of_ble_eq_true rfl) dX11_feedWord_40 (fun H locs hP hD hS => ?_)
  have hP : va_P (dC, dI) vwCl [(h0, .inr (13, [.ref (ad 0), .int 9, .int 0, .ref (ad 1), .ref (ad 2), .ref (ad 3), .ref (ad 4), .ref (ad 5), .ref (ad 6)])), ((ad 0), .inl ((cl 0), 4000, .inl gg392))] H := hP
  have hD : va_D A [(h0, .inr (13, [.ref (ad 0), .int 9, .int 0, .ref (ad 1), .ref (ad 2), .ref (ad 3), .ref (ad 4), .ref (ad 5), .ref (ad 6)])), ((ad 0), .inl ((cl 0), 4000, .inl gg392))] := hD
  refine lv_iinc (v := 16) (lv' := [(2, .int 16), (0, .ref h0), (1, .int p2)]) hx hb dX11_feedWord_43 hl (k := 0) rfl (by decide) (by decide) rfl (fun ls hl => ?_)
  refine lv_goto (tgt := 3) hx hb dX11_feedWord_46 (by decide) ?_
  refine lv_iload_n hx hb dX11_feedWord_3 rfl (lv_at hl 0 rfl) ?_
  refine lv_if_lt (tgt := 49) hx hb dX11_feedWord_4 (by decide) (fun c6_4 => absurd c6_4 (by decide)) (fun _ => ?_)
  refine lv_aload_n hx hb dX11_feedWord_7 rfl (lv_at hl 1 rfl) ?_
  refine va_get (D := (dC, dI)) (ci := 13) (v := .int 9) (C := RX11) (T := TX11) (N := 9) hx hb hts hwX11 hown hK hP 0 rfl rfl 1 (Nat.le_of_ble_eq_true rfl) (hts (.fieldLink RX11 61 "ScriptTypes" "tapeLength" "I") (List.mem_of_getElem? (i := 1) (by decide +kernel))) (fun _ h9 => h9) rfl dX11_feedWord_8 ?_
  refine lv_sipush (v := 4000) hx hb dX11_feedWord_11 (by decide) ?_
  refine lv_icmp_ge (tgt := 43) hx hb dX11_feedWord_14 (by decide) (fun c7_14 => absurd c7_14 (by decide)) (fun _ => ?_)
  refine lv_aload_n hx hb dX11_feedWord_17 rfl (lv_at hl 1 rfl) ?_
  refine va_get (D := (dC, dI)) (ci := 13) (v := .ref (ad 0)) (C := RX11) (T := TX11) (N := 9) hx hb hts hwX11 hown hK hP 0 rfl rfl 0 (Nat.le_of_ble_eq_true rfl) (hts (.fieldLink RX11 9 "ScriptTypes" "tape" "[I") (List.mem_of_getElem? (i := 2) (by decide +kernel))) (fun _ h9 => h9) rfl dX11_feedWord_18 ?_
  refine lv_aload_n hx hb dX11_feedWord_21 rfl (lv_at hl 1 rfl) ?_
  refine va_get (D := (dC, dI)) (ci := 13) (v := .int 9) (C := RX11) (T := TX11) (N := 9) hx hb hts hwX11 hown hK hP 0 rfl rfl 1 (Nat.le_of_ble_eq_true rfl) (hts (.fieldLink RX11 61 "ScriptTypes" "tapeLength" "I") (List.mem_of_getElem? (i := 1) (by decide +kernel))) (fun _ h9 => h9) rfl dX11_feedWord_22 ?_
  refine lv_iload_n hx hb dX11_feedWord_25 rfl (lv_at hl 2 rfl) ?_
  refine lv_iload_n hx hb dX11_feedWord_26 rfl (lv_at hl 0 rfl) ?_
  refine lv_iushr hx hb dX11_feedWord_27 rfl ?_
  refine lv_topi (fun f_8 ef_8 => ?_)
  refine lv_sipush (v := 255) hx hb dX11_feedWord_28 (by decide) ?_
  refine lv_iand hx hb dX11_feedWord_31 ?_
  refine lv_topi (fun f_9 ef_9 => ?_)
  refine va_iast hx hb hK hP hD hS 1 0 rfl rfl (show ¬ ((9 : Int32) < 0 ∨ 4000 ≤ (9 : Int32).toNatClampNeg) by decide) dX11_feedWord_32 (fun H locs hP hD hS => ?_)
  obtain ⟨gg393, egg393⟩ : ∃ z9 : Nat → Int32, z9 = upd gg392 (9 : Int32).toNatClampNeg f_9 := ⟨_, rfl⟩
  have hP : va_P (dC, dI) vwCl [(h0, .inr (13, [.ref (ad 0), .int 9, .int 0, .ref (ad 1), .ref (ad 2), .ref (ad 3), .ref (ad 4), .ref (ad 5), .ref (ad 6)])), ((ad 0), .inl ((cl 0), 4000, .inl gg393))] H := by rw [egg393]; exact hP
  have hD : va_D A [(h0, .inr (13, [.ref (ad 0), .int 9, .int 0, .ref (ad 1), .ref (ad 2), .ref (ad 3), .ref (ad 4), .ref (ad 5), .ref (ad 6)])), ((ad 0), .inl ((cl 0), 4000, .inl gg393))] := by rw [egg393]; exact hD
  refine lv_aload_n hx hb dX11_feedWord_33 rfl (lv_at hl 1 rfl) ?_
  refine lv_dup hx hb dX11_feedWord_34 rfl ?_
  refine va_get (D := (dC, dI)) (ci := 13) (v := .int 9) (C := RX11) (T := TX11) (N := 9) hx hb hts hwX11 hown hK hP 0 rfl rfl 1 (Nat.le_of_ble_eq_true rfl) (hts (.fieldLink RX11 61 "ScriptTypes" "tapeLength" "I") (List.mem_of_getElem? (i := 1) (by decide +kernel))) (fun _ h9 => h9) rfl dX11_feedWord_35 ?_
  refine lv_iconst (v := 1) hx hb dX11_feedWord_38 (by decide) ?_
  refine lv_iadd hx hb dX11_feedWord_39 ?_
  refine lv_topi (fun f_10 ef_10 => ?_)
  obtain rfl : f_10 = 10 := by rw [ef_10]; decide
  refine va_put (D := (dC, dI)) (ci := 13) (v := .int 10) (ty := tyX11 1) (C := RX11) (T := TX11) (N := 9) hx hb hts hwX11 tyX11 tyX11_ok nmX11 hown hK hP hD hS 0 rfl rfl 1 (Nat.le_of_ble_eq_true rfl) (hts (.fieldLink RX11 61 "ScriptTypes" "tapeLength" "I") (List.mem_of_getElem? (i := 1) (by decide +kernel))) (fun _ h9 => h9) rfl (tyX11_ok 1 (Nat.le_of_ble_eq_true rfl)) rfl rfl (Nat.le_of_ble_eq_true rfl) dX11_feedWord_40 (fun H locs hP hD hS => ?_)
  have hP : va_P (dC, dI) vwCl [(h0, .inr (13, [.ref (ad 0), .int 10, .int 0, .ref (ad 1), .ref (ad 2), .ref (ad 3), .ref (ad 4), .ref (ad 5), .ref (ad 6)])), ((ad 0), .inl ((cl 0), 4000, .inl gg393))] H := hP
  have hD : va_D A [(h0, .inr (13, [.ref (ad 0), .int 10, .int 0, .ref (ad 1), .ref (ad 2), .ref (ad 3), .ref (ad 4), .ref (ad 5), .ref (ad 6)])), ((ad 0), .inl ((cl 0), 4000, .inl gg393))] := hD
  refine lv_iinc (v := 8) (lv' := [(2, .int 8), (0, .ref h0), (1, .int p2)]) hx hb dX11_feedWord_43 hl (k := 0) rfl (by decide) (by decide) rfl (fun ls hl => ?_)
  refine lv_goto (tgt := 3) hx hb dX11_feedWord_46 (by decide) ?_
  refine lv_iload_n hx hb dX11_feedWord_3 rfl (lv_at hl 0 rfl) ?_
  refine lv_if_lt (tgt := 49) hx hb dX11_feedWord_4 (by decide) (fun c11_4 => absurd c11_4 (by decide)) (fun _ => ?_)
  refine lv_aload_n hx hb dX11_feedWord_7 rfl (lv_at hl 1 rfl) ?_
  refine va_get (D := (dC, dI)) (ci := 13) (v := .int 10) (C := RX11) (T := TX11) (N := 9) hx hb hts hwX11 hown hK hP 0 rfl rfl 1 (Nat.le_of_ble_eq_true rfl) (hts (.fieldLink RX11 61 "ScriptTypes" "tapeLength" "I") (List.mem_of_getElem? (i := 1) (by decide +kernel))) (fun _ h9 => h9) rfl dX11_feedWord_8 ?_
  refine lv_sipush (v := 4000) hx hb dX11_feedWord_11 (by decide) ?_
  refine lv_icmp_ge (tgt := 43) hx hb dX11_feedWord_14 (by decide) (fun c12_14 => absurd c12_14 (by decide)) (fun _ => ?_)
  refine lv_aload_n hx hb dX11_feedWord_17 rfl (lv_at hl 1 rfl) ?_
  refine va_get (D := (dC, dI)) (ci := 13) (v := .ref (ad 0)) (C := RX11) (T := TX11) (N := 9) hx hb hts hwX11 hown hK hP 0 rfl rfl 0 (Nat.le_of_ble_eq_true rfl) (hts (.fieldLink RX11 9 "ScriptTypes" "tape" "[I") (List.mem_of_getElem? (i := 2) (by decide +kernel))) (fun _ h9 => h9) rfl dX11_feedWord_18 ?_
  refine lv_aload_n hx hb dX11_feedWord_21 rfl (lv_at hl 1 rfl) ?_
  refine va_get (D := (dC, dI)) (ci := 13) (v := .int 10) (C := RX11) (T := TX11) (N := 9) hx hb hts hwX11 hown hK hP 0 rfl rfl 1 (Nat.le_of_ble_eq_true rfl) (hts (.fieldLink RX11 61 "ScriptTypes" "tapeLength" "I") (List.mem_of_getElem? (i := 1) (by decide +kernel))) (fun _ h9 => h9) rfl dX11_feedWord_22 ?_
  refine lv_iload_n hx hb dX11_feedWord_25 rfl (lv_at hl 2 rfl) ?_
  refine lv_iload_n hx hb dX11_feedWord_26 rfl (lv_at hl 0 rfl) ?_
  refine lv_iushr hx hb dX11_feedWord_27 rfl ?_
  refine lv_topi (fun f_13 ef_13 => ?_)
  refine lv_sipush (v := 255) hx hb dX11_feedWord_28 (by decide) ?_
  refine lv_iand hx hb dX11_feedWord_31 ?_
  refine lv_topi (fun f_14 ef_14 => ?_)
  refine va_iast hx hb hK hP hD hS 1 0 rfl rfl (show ¬ ((10 : Int32) < 0 ∨ 4000 ≤ (10 : Int32).toNatClampNeg) by decide) dX11_feedWord_32 (fun H locs hP hD hS => ?_)
  obtain ⟨gg394, egg394⟩ : ∃ z9 : Nat → Int32, z9 = upd gg393 (10 : Int32).toNatClampNeg f_14 := ⟨_, rfl⟩
  have hP : va_P (dC, dI) vwCl [(h0, .inr (13, [.ref (ad 0), .int 10, .int 0, .ref (ad 1), .ref (ad 2), .ref (ad 3), .ref (ad 4), .ref (ad 5), .ref (ad 6)])), ((ad 0), .inl ((cl 0), 4000, .inl gg394))] H := by rw [egg394]; exact hP
  have hD : va_D A [(h0, .inr (13, [.ref (ad 0), .int 10, .int 0, .ref (ad 1), .ref (ad 2), .ref (ad 3), .ref (ad 4), .ref (ad 5), .ref (ad 6)])), ((ad 0), .inl ((cl 0), 4000, .inl gg394))] := by rw [egg394]; exact hD
  refine lv_aload_n hx hb dX11_feedWord_33 rfl (lv_at hl 1 rfl) ?_
  refine lv_dup hx hb dX11_feedWord_34 rfl ?_
  refine va_get (D := (dC, dI)) (ci := 13) (v := .int 10) (C := RX11) (T := TX11) (N := 9) hx hb hts hwX11 hown hK hP 0 rfl rfl 1 (Nat.le_of_ble_eq_true rfl) (hts (.fieldLink RX11 61 "ScriptTypes" "tapeLength" "I") (List.mem_of_getElem? (i := 1) (by decide +kernel))) (fun _ h9 => h9) rfl dX11_feedWord_35 ?_
  refine lv_iconst (v := 1) hx hb dX11_feedWord_38 (by decide) ?_
  refine lv_iadd hx hb dX11_feedWord_39 ?_
  refine lv_topi (fun f_15 ef_15 => ?_)
  obtain rfl : f_15 = 11 := by rw [ef_15]; decide
  refine va_put (D := (dC, dI)) (ci := 13) (v := .int 11) (ty := tyX11 1) (C := RX11) (T := TX11) (N := 9) hx hb hts hwX11 tyX11 tyX11_ok nmX11 hown hK hP hD hS 0 rfl rfl 1 (Nat.le_of_ble_eq_true rfl) (hts (.fieldLink RX11 61 "ScriptTypes" "tapeLength" "I") (List.mem_of_getElem? (i := 1) (by decide +kernel))) (fun _ h9 => h9) rfl (tyX11_ok 1 (Nat.le_of_ble_eq_true rfl)) rfl rfl (Nat.le_of_ble_eq_true rfl) dX11_feedWord_40 (fun H locs hP hD hS => ?_)
  have hP : va_P (dC, dI) vwCl [(h0, .inr (13, [.ref (ad 0), .int 11, .int 0, .ref (ad 1), .ref (ad 2), .ref (ad 3), .ref (ad 4), .ref (ad 5), .ref (ad 6)])), ((ad 0), .inl ((cl 0), 4000, .inl gg394))] H := hP
  have hD : va_D A [(h0, .inr (13, [.ref (ad 0), .int 11, .int 0, .ref (ad 1), .ref (ad 2), .ref (ad 3), .ref (ad 4), .ref (ad 5), .ref (ad 6)])), ((ad 0), .inl ((cl 0), 4000, .inl gg394))] := hD
  refine lv_iinc (v := 0) (lv' := [(2, .int 0), (0, .ref h0), (1, .int p2)]) hx hb dX11_feedWord_43 hl (k := 0) rfl (by decide) (by decide) rfl (fun ls hl => ?_)
  refine lv_goto (tgt := 3) hx hb dX11_feedWord_46 (by decide) ?_
  refine lv_iload_n hx hb dX11_feedWord_3 rfl (lv_at hl 0 rfl) ?_
  refine lv_if_lt (tgt := 49) hx hb dX11_feedWord_4 (by decide) (fun c16_4 => absurd c16_4 (by decide)) (fun _ => ?_)
  refine lv_aload_n hx hb dX11_feedWord_7 rfl (lv_at hl 1 rfl) ?_
  refine va_get (D := (dC, dI)) (ci := 13) (v := .int 11) (C := RX11) (T := TX11) (N := 9) hx hb hts hwX11 hown hK hP 0 rfl rfl 1 (Nat.le_of_ble_eq_true rfl) (hts (.fieldLink RX11 61 "ScriptTypes" "tapeLength" "I") (List.mem_of_getElem? (i := 1) (by decide +kernel))) (fun _ h9 => h9) rfl dX11_feedWord_8 ?_
  refine lv_sipush (v := 4000) hx hb dX11_feedWord_11 (by decide) ?_
  refine lv_icmp_ge (tgt := 43) hx hb dX11_feedWord_14 (by decide) (fun c17_14 => absurd c17_14 (by decide)) (fun _ => ?_)
  refine lv_aload_n hx hb dX11_feedWord_17 rfl (lv_at hl 1 rfl) ?_
  refine va_get (D := (dC, dI)) (ci := 13) (v := .ref (ad 0)) (C := RX11) (T := TX11) (N := 9) hx hb hts hwX11 hown hK hP 0 rfl rfl 0 (Nat.le_of_ble_eq_true rfl) (hts (.fieldLink RX11 9 "ScriptTypes" "tape" "[I") (List.mem_of_getElem? (i := 2) (by decide +kernel))) (fun _ h9 => h9) rfl dX11_feedWord_18 ?_
  refine lv_aload_n hx hb dX11_feedWord_21 rfl (lv_at hl 1 rfl) ?_
  refine va_get (D := (dC, dI)) (ci := 13) (v := .int 11) (C := RX11) (T := TX11) (N := 9) hx hb hts hwX11 hown hK hP 0 rfl rfl 1 (Nat.le_of_ble_eq_true rfl) (hts (.fieldLink RX11 61 "ScriptTypes" "tapeLength" "I") (List.mem_of_getElem? (i := 1) (by decide +kernel))) (fun _ h9 => h9) rfl dX11_feedWord_22 ?_
  refine lv_iload_n hx hb dX11_feedWord_25 rfl (lv_at hl 2 rfl) ?_
  refine lv_iload_n hx hb dX11_feedWord_26 rfl (lv_at hl 0 rfl) ?_
  refine lv_iushr hx hb dX11_feedWord_27 rfl ?_
  refine lv_topi (fun f_18 ef_18 => ?_)
  refine lv_sipush (v := 255) hx hb dX11_feedWord_28 (by decide) ?_
  refine lv_iand hx hb dX11_feedWord_31 ?_
  refine lv_topi (fun f_19 ef_19 => ?_)
  refine va_iast hx hb hK hP hD hS 1 0 rfl rfl (show ¬ ((11 : Int32) < 0 ∨ 4000 ≤ (11 : Int32).toNatClampNeg) by decide) dX11_feedWord_32 (fun H locs hP hD hS => ?_)
  obtain ⟨gg395, egg395⟩ : ∃ z9 : Nat → Int32, z9 = upd gg394 (11 : Int32).toNatClampNeg f_19 := ⟨_, rfl⟩
  have hP : va_P (dC, dI) vwCl [(h0, .inr (13, [.ref (ad 0), .int 11, .int 0, .ref (ad 1), .ref (ad 2), .ref (ad 3), .ref (ad 4), .ref (ad 5), .ref (ad 6)])), ((ad 0), .inl ((cl 0), 4000, .inl gg395))] H := by rw [egg395]; exact hP
  have hD : va_D A [(h0, .inr (13, [.ref (ad 0), .int 11, .int 0, .ref (ad 1), .ref (ad 2), .ref (ad 3), .ref (ad 4), .ref (ad 5), .ref (ad 6)])), ((ad 0), .inl ((cl 0), 4000, .inl gg395))] := by rw [egg395]; exact hD
  refine lv_aload_n hx hb dX11_feedWord_33 rfl (lv_at hl 1 rfl) ?_
  refine lv_dup hx hb dX11_feedWord_34 rfl ?_
  refine va_get (D := (dC, dI)) (ci := 13) (v := .int 11) (C := RX11) (T := TX11) (N := 9) hx hb hts hwX11 hown hK hP 0 rfl rfl 1 (Nat.le_of_ble_eq_true rfl) (hts (.fieldLink RX11 61 "ScriptTypes" "tapeLength" "I") (List.mem_of_getElem? (i := 1) (by decide +kernel))) (fun _ h9 => h9) rfl dX11_feedWord_35 ?_
  refine lv_iconst (v := 1) hx hb dX11_feedWord_38 (by decide) ?_
  refine lv_iadd hx hb dX11_feedWord_39 ?_
  refine lv_topi (fun f_20 ef_20 => ?_)
  obtain rfl : f_20 = 12 := by rw [ef_20]; decide
  refine va_put (D := (dC, dI)) (ci := 13) (v := .int 12) (ty := tyX11 1) (C := RX11) (T := TX11) (N := 9) hx hb hts hwX11 tyX11 tyX11_ok nmX11 hown hK hP hD hS 0 rfl rfl 1 (Nat.le_of_ble_eq_true rfl) (hts (.fieldLink RX11 61 "ScriptTypes" "tapeLength" "I") (List.mem_of_getElem? (i := 1) (by decide +kernel))) (fun _ h9 => h9) rfl (tyX11_ok 1 (Nat.le_of_ble_eq_true rfl)) rfl rfl (Nat.le_of_ble_eq_true rfl) dX11_feedWord_40 (fun H locs hP hD hS => ?_)
  have hP : va_P (dC, dI) vwCl [(h0, .inr (13, [.ref (ad 0), .int 12, .int 0, .ref (ad 1), .ref (ad 2), .ref (ad 3), .ref (ad 4), .ref (ad 5), .ref (ad 6)])), ((ad 0), .inl ((cl 0), 4000, .inl gg395))] H := hP
  have hD : va_D A [(h0, .inr (13, [.ref (ad 0), .int 12, .int 0, .ref (ad 1), .ref (ad 2), .ref (ad 3), .ref (ad 4), .ref (ad 5), .ref (ad 6)])), ((ad 0), .inl ((cl 0), 4000, .inl gg395))] := hD
  refine lv_iinc (v := (-8)) (lv' := [(2, .int (-8)), (0, .ref h0), (1, .int p2)]) hx hb dX11_feedWord_43 hl (k := 0) rfl (by decide) (by decide) rfl (fun ls hl => ?_)
  refine lv_goto (tgt := 3) hx hb dX11_feedWord_46 (by decide) ?_
  refine lv_iload_n hx hb dX11_feedWord_3 rfl (lv_at hl 0 rfl) ?_
  refine lv_if_lt (tgt := 49) hx hb dX11_feedWord_4 (by decide) (fun _ => ?_) (fun c21_4 => absurd (by decide) c21_4)
  refine W.widen (k := 0) (n := 0) (Nat.le_of_ble_eq_true rfl) (Nat.le_of_ble_eq_true rfl) ?_
  exact W.vret hx hb hr (fun t ht hW => ⟨⟨(fun n => ([] : List Nat).getD n 0, fun n => ([] : List ClassId).getD n 0, fun n => ([gg395] : List (Nat → Int32)).getD n (fun _ => 0)), rfl, trivial, by rw [ht]; exact hP, va_K.moved hW.alike hK, hD⟩, hS.F ht⟩) hS.2.2 dX11_feedWord_49

def vb_a_X11_feedWord_4 : List Cond := .code yX11_feedWord cX11_feedWord 3 none :: ([.fieldLink RX11 61 "ScriptTypes" "tapeLength" "I", .fieldLink RX11 9 "ScriptTypes" "tape" "[I"] ++ [])
def vw_a_X11_feedWord_4 : List Cond := vb_a_X11_feedWord_4 ++ wsAll
set_option maxHeartbeats 8000000 in
set_option maxRecDepth 100000 in
theorem a_X11_feedWord_4 (l : Launch) (dC : Nat → ClassId) (dI : Nat → Nat → Nat) (sz : Nat) (h0 : Nat) (ad : Nat → Nat) (cl : Nat → ClassId) (p3 : Int32) (fn396 : Nat → Nat → Int32) : Met l yX11_feedWord vw_a_X11_feedWord_4 ({ frames := 0, cells := 0, slots := 0, locals := 0 }) (va_Pc [.ref h0, .int p3] (fun U => U.heap.size = sz ∧ va_P (dC, dI) vwCl [(h0, .inr (13, [.ref (ad 0), .int 12, .int 0, .ref (ad 1), .ref (ad 2), .ref (ad 3), .ref (ad 4), .ref (ad 5), .ref (ad 6)])), ((ad 0), .inl ((cl 0), 4000, .inl (fn396 0)))] U.heap ∧ va_K (dC, dI) vwCl [((cl 0), .int)] U ∧ va_D (fun _ => True) [(h0, .inr (13, [.ref (ad 0), .int 12, .int 0, .ref (ad 1), .ref (ad 2), .ref (ad 3), .ref (ad 4), .ref (ad 5), .ref (ad 6)])), ((ad 0), .inl ((cl 0), 4000, .inl (fn396 0)))])) (va_Qv (fun (u : (Nat → Nat) × (Nat → ClassId) × (Nat → Nat → Int32)) => True) (fun (u : (Nat → Nat) × (Nat → ClassId) × (Nat → Nat → Int32)) t => va_P (dC, dI) vwCl [(h0, .inr (13, [.ref (ad 0), .int 16, .int 0, .ref (ad 1), .ref (ad 2), .ref (ad 3), .ref (ad 4), .ref (ad 5), .ref (ad 6)])), ((ad 0), .inl ((cl 0), 4000, .inl (u.2.2 0)))] t.heap ∧ va_K (dC, dI) vwCl [((cl 0), .int)] t ∧ va_D (va_A [(h0, .inr (13, [.ref (ad 0), .int 12, .int 0, .ref (ad 1), .ref (ad 2), .ref (ad 3), .ref (ad 4), .ref (ad 5), .ref (ad 6)])), ((ad 0), .inl ((cl 0), 4000, .inl (fn396 0)))] sz) [(h0, .inr (13, [.ref (ad 0), .int 16, .int 0, .ref (ad 1), .ref (ad 2), .ref (ad 3), .ref (ad 4), .ref (ad 5), .ref (ad 6)])), ((ad 0), .inl ((cl 0), 4000, .inl (u.2.2 0)))]) (va_A [(h0, .inr (13, [.ref (ad 0), .int 12, .int 0, .ref (ad 1), .ref (ad 2), .ref (ad 3), .ref (ad 4), .ref (ad 5), .ref (ad 6)])), ((ad 0), .inl ((cl 0), 4000, .inl (fn396 0)))] sz)) 0 0 (va_A [(h0, .inr (13, [.ref (ad 0), .int 12, .int 0, .ref (ad 1), .ref (ad 2), .ref (ad 3), .ref (ad 4), .ref (ad 5), .ref (ad 6)])), ((ad 0), .inl ((cl 0), 4000, .inl (fn396 0)))] sz) := by
  refine Met.ofW (cc := cX11_feedWord) (maxL := 3) (ret := none) (by decide) rfl ?_
  intro p e s m args below meth c s₁ B hml hv
  obtain ⟨rfl, hsz, hP, hK, hD0⟩ := hv
  have hx := B.exec
  have hb := B.bytes
  have hr := B.returns
  have hts := atoms_spec (ws := vw_a_X11_feedWord_4) B.pre
  have hown : s.vm.findClass RX11 = some m.cls := findClass_of_methodNamed B.named
  have hlocks := B.notSynchronized
  subst hsz
  have hD := hD0.self (sz := s.heap.size)
  generalize hAe : va_A [(h0, .inr (13, [.ref (ad 0), .int 12, .int 0, .ref (ad 1), .ref (ad 2), .ref (ad 3), .ref (ad 4), .ref (ad 5), .ref (ad 6)])), ((ad 0), .inl ((cl 0), 4000, .inl (fn396 0)))] s.heap.size = A at hD ⊢
  have hA : ∀ q : Nat, s.heap.size ≤ q → A q := fun q h => by rw [← hAe]; exact Or.inr h
  have hS : va_S A s.heap s.heap [] := va_S.rf
  have hP : va_P (dC, dI) vwCl [(h0, .inr (13, [.ref (ad 0), .int 12, .int 0, .ref (ad 1), .ref (ad 2), .ref (ad 3), .ref (ad 4), .ref (ad 5), .ref (ad 6)])), ((ad 0), .inl ((cl 0), 4000, .inl (fn396 0)))] s.heap := hP
  have hl := lv_entry ([.ref h0, .int p3]) (n := 3) (Nat.le_of_ble_eq_true rfl)
  rw [lg_entry_eq]
  generalize (lg_sl ([.ref h0, .int p3]) ++ List.replicate (3 - (lg_sl ([.ref h0, .int p3])).length) Slot.unset).toArray = ls at hl ⊢
  have hl : lv_has ls 3 [(0, .ref h0), (1, .int p3)] := hl
  have hwX11 : ∀ w ∈ wsX110, w ∈ vw_a_X11_feedWord_4 := (fun w h => List.mem_append_right _ (List.mem_append_right _ (List.mem_append_right _ (List.mem_append_right _ (List.mem_append_right _ (List.mem_append_right _ (List.mem_append_right _ (List.mem_append_right _ (List.mem_append_right _ (List.mem_append_right _ (List.mem_append_right _ (List.mem_append_right _ h))))))))))))
  refine lv_bipush (v := 24) hx hb dX11_feedWord_0 (by decide) ?_
  refine lv_istore_n (lv' := [(2, .int 24), (0, .ref h0), (1, .int p3)]) hx hb dX11_feedWord_2 rfl hl (by decide) rfl (fun ls hl => ?_)
  refine lv_iload_n hx hb dX11_feedWord_3 rfl (lv_at hl 0 rfl) ?_
  refine lv_if_lt (tgt := 49) hx hb dX11_feedWord_4 (by decide) (fun c1_4 => absurd c1_4 (by decide)) (fun _ => ?_)
  refine lv_aload_n hx hb dX11_feedWord_7 rfl (lv_at hl 1 rfl) ?_
  refine va_get (D := (dC, dI)) (ci := 13) (v := .int 12) (C := RX11) (T := TX11) (N := 9) hx hb hts hwX11 hown hK hP 0 rfl rfl 1 (Nat.le_of_ble_eq_true rfl) (hts (.fieldLink RX11 61 "ScriptTypes" "tapeLength" "I") (List.mem_of_getElem? (i := 1) (by decide +kernel))) (fun _ h9 => h9) rfl dX11_feedWord_8 ?_
  refine lv_sipush (v := 4000) hx hb dX11_feedWord_11 (by decide) ?_
  refine lv_icmp_ge (tgt := 43) hx hb dX11_feedWord_14 (by decide) (fun c2_14 => absurd c2_14 (by decide)) (fun _ => ?_)
  refine lv_aload_n hx hb dX11_feedWord_17 rfl (lv_at hl 1 rfl) ?_
  refine va_get (D := (dC, dI)) (ci := 13) (v := .ref (ad 0)) (C := RX11) (T := TX11) (N := 9) hx hb hts hwX11 hown hK hP 0 rfl rfl 0 (Nat.le_of_ble_eq_true rfl) (hts (.fieldLink RX11 9 "ScriptTypes" "tape" "[I") (List.mem_of_getElem? (i := 2) (by decide +kernel))) (fun _ h9 => h9) rfl dX11_feedWord_18 ?_
  refine lv_aload_n hx hb dX11_feedWord_21 rfl (lv_at hl 1 rfl) ?_
  refine va_get (D := (dC, dI)) (ci := 13) (v := .int 12) (C := RX11) (T := TX11) (N := 9) hx hb hts hwX11 hown hK hP 0 rfl rfl 1 (Nat.le_of_ble_eq_true rfl) (hts (.fieldLink RX11 61 "ScriptTypes" "tapeLength" "I") (List.mem_of_getElem? (i := 1) (by decide +kernel))) (fun _ h9 => h9) rfl dX11_feedWord_22 ?_
  refine lv_iload_n hx hb dX11_feedWord_25 rfl (lv_at hl 2 rfl) ?_
  refine lv_iload_n hx hb dX11_feedWord_26 rfl (lv_at hl 0 rfl) ?_
  refine lv_iushr hx hb dX11_feedWord_27 rfl ?_
  refine lv_topi (fun f_3 ef_3 => ?_)
  refine lv_sipush (v := 255) hx hb dX11_feedWord_28 (by decide) ?_
  refine lv_iand hx hb dX11_feedWord_31 ?_
  refine lv_topi (fun f_4 ef_4 => ?_)
  refine va_iast hx hb hK hP hD hS 1 0 rfl rfl (show ¬ ((12 : Int32) < 0 ∨ 4000 ≤ (12 : Int32).toNatClampNeg) by decide) dX11_feedWord_32 (fun H locs hP hD hS => ?_)
  obtain ⟨gg401, egg401⟩ : ∃ z9 : Nat → Int32, z9 = upd (fn396 0) (12 : Int32).toNatClampNeg f_4 := ⟨_, rfl⟩
  have hP : va_P (dC, dI) vwCl [(h0, .inr (13, [.ref (ad 0), .int 12, .int 0, .ref (ad 1), .ref (ad 2), .ref (ad 3), .ref (ad 4), .ref (ad 5), .ref (ad 6)])), ((ad 0), .inl ((cl 0), 4000, .inl gg401))] H := by rw [egg401]; exact hP
  have hD : va_D A [(h0, .inr (13, [.ref (ad 0), .int 12, .int 0, .ref (ad 1), .ref (ad 2), .ref (ad 3), .ref (ad 4), .ref (ad 5), .ref (ad 6)])), ((ad 0), .inl ((cl 0), 4000, .inl gg401))] := by rw [egg401]; exact hD
  refine lv_aload_n hx hb dX11_feedWord_33 rfl (lv_at hl 1 rfl) ?_
  refine lv_dup hx hb dX11_feedWord_34 rfl ?_
  refine va_get (D := (dC, dI)) (ci := 13) (v := .int 12) (C := RX11) (T := TX11) (N := 9) hx hb hts hwX11 hown hK hP 0 rfl rfl 1 (Nat.le_of_ble_eq_true rfl) (hts (.fieldLink RX11 61 "ScriptTypes" "tapeLength" "I") (List.mem_of_getElem? (i := 1) (by decide +kernel))) (fun _ h9 => h9) rfl dX11_feedWord_35 ?_
  refine lv_iconst (v := 1) hx hb dX11_feedWord_38 (by decide) ?_
  refine lv_iadd hx hb dX11_feedWord_39 ?_
  refine lv_topi (fun f_5 ef_5 => ?_)
  obtain rfl : f_5 = 13 := by rw [ef_5]; decide
  refine va_put (D := (dC, dI)) (ci := 13) (v := .int 13) (ty := tyX11 1) (C := RX11) (T := TX11) (N := 9) hx hb hts hwX11 tyX11 tyX11_ok nmX11 hown hK hP hD hS 0 rfl rfl 1 (Nat.le_of_ble_eq_true rfl) (hts (.fieldLink RX11 61 "ScriptTypes" "tapeLength" "I") (List.mem_of_getElem? (i := 1) (by decide +kernel))) (fun _ h9 => h9) rfl (tyX11_ok 1 (Nat.le_of_ble_eq_true rfl)) rfl rfl (Nat.le_of_ble_eq_true rfl) dX11_feedWord_40 (fun H locs hP hD hS => ?_)
  have hP : va_P (dC, dI) vwCl [(h0, .inr (13, [.ref (ad 0), .int 13, .int 0, .ref (ad 1), .ref (ad 2), .ref (ad 3), .ref (ad 4), .ref (ad 5), .ref (ad 6)])), ((ad 0), .inl ((cl 0), 4000, .inl gg401))] H := hP
  have hD : va_D A [(h0, .inr (13, [.ref (ad 0), .int 13, .int 0, .ref (ad 1), .ref (ad 2), .ref (ad 3), .ref (ad 4), .ref (ad 5), .ref (ad 6)])), ((ad 0), .inl ((cl 0), 4000, .inl gg401))] := hD
  refine lv_iinc (v := 16) (lv' := [(2, .int 16), (0, .ref h0), (1, .int p3)]) hx hb dX11_feedWord_43 hl (k := 0) rfl (by decide) (by decide) rfl (fun ls hl => ?_)
  refine lv_goto (tgt := 3) hx hb dX11_feedWord_46 (by decide) ?_
  refine lv_iload_n hx hb dX11_feedWord_3 rfl (lv_at hl 0 rfl) ?_
  refine lv_if_lt (tgt := 49) hx hb dX11_feedWord_4 (by decide) (fun c6_4 => absurd c6_4 (by decide)) (fun _ => ?_)
  refine lv_aload_n hx hb dX11_feedWord_7 rfl (lv_at hl 1 rfl) ?_
  refine va_get (D := (dC, dI)) (ci := 13) (v := .int 13) (C := RX11) (T := TX11) (N := 9) hx hb hts hwX11 hown hK hP 0 rfl rfl 1 (Nat.le_of_ble_eq_true rfl) (hts (.fieldLink RX11 61 "ScriptTypes" "tapeLength" "I") (List.mem_of_getElem? (i := 1) (by decide +kernel))) (fun _ h9 => h9) rfl dX11_feedWord_8 ?_
  refine lv_sipush (v := 4000) hx hb dX11_feedWord_11 (by decide) ?_
  refine lv_icmp_ge (tgt := 43) hx hb dX11_feedWord_14 (by decide) (fun c7_14 => absurd c7_14 (by decide)) (fun _ => ?_)
  refine lv_aload_n hx hb dX11_feedWord_17 rfl (lv_at hl 1 rfl) ?_
  refine va_get (D := (dC, dI)) (ci := 13) (v := .ref (ad 0)) (C := RX11) (T := TX11) (N := 9) hx hb hts hwX11 hown hK hP 0 rfl rfl 0 (Nat.le_of_ble_eq_true rfl) (hts (.fieldLink RX11 9 "ScriptTypes" "tape" "[I") (List.mem_of_getElem? (i := 2) (by decide +kernel))) (fun _ h9 => h9) rfl dX11_feedWord_18 ?_
  refine lv_aload_n hx hb dX11_feedWord_21 rfl (lv_at hl 1 rfl) ?_
  refine va_get (D := (dC, dI)) (ci := 13) (v := .int 13) (C := RX11) (T := TX11) (N := 9) hx hb hts hwX11 hown hK hP 0 rfl rfl 1 (Nat.le_of_ble_eq_true rfl) (hts (.fieldLink RX11 61 "ScriptTypes" "tapeLength" "I") (List.mem_of_getElem? (i := 1) (by decide +kernel))) (fun _ h9 => h9) rfl dX11_feedWord_22 ?_
  refine lv_iload_n hx hb dX11_feedWord_25 rfl (lv_at hl 2 rfl) ?_
  refine lv_iload_n hx hb dX11_feedWord_26 rfl (lv_at hl 0 rfl) ?_
  refine lv_iushr hx hb dX11_feedWord_27 rfl ?_
  refine lv_topi (fun f_8 ef_8 => ?_)
  refine lv_sipush (v := 255) hx hb dX11_feedWord_28 (by decide) ?_
  refine lv_iand hx hb dX11_feedWord_31 ?_
  refine lv_topi (fun f_9 ef_9 => ?_)
  refine va_iast hx hb hK hP hD hS 1 0 rfl rfl (show ¬ ((13 : Int32) < 0 ∨ 4000 ≤ (13 : Int32).toNatClampNeg) by decide) dX11_feedWord_32 (fun H locs hP hD hS => ?_)
  obtain ⟨gg402, egg402⟩ : ∃ z9 : Nat → Int32, z9 = upd gg401 (13 : Int32).toNatClampNeg f_9 := ⟨_, rfl⟩
  have hP : va_P (dC, dI) vwCl [(h0, .inr (13, [.ref (ad 0), .int 13, .int 0, .ref (ad 1), .ref (ad 2), .ref (ad 3), .ref (ad 4), .ref (ad 5), .ref (ad 6)])), ((ad 0), .inl ((cl 0), 4000, .inl gg402))] H := by rw [egg402]; exact hP
  have hD : va_D A [(h0, .inr (13, [.ref (ad 0), .int 13, .int 0, .ref (ad 1), .ref (ad 2), .ref (ad 3), .ref (ad 4), .ref (ad 5), .ref (ad 6)])), ((ad 0), .inl ((cl 0), 4000, .inl gg402))] := by rw [egg402]; exact hD
  refine lv_aload_n hx hb dX11_feedWord_33 rfl (lv_at hl 1 rfl) ?_
  refine lv_dup hx hb dX11_feedWord_34 rfl ?_
  refine va_get (D := (dC, dI)) (ci := 13) (v := .int 13) (C := RX11) (T := TX11) (N := 9) hx hb hts hwX11 hown hK hP 0 rfl rfl 1 (Nat.le_of_ble_eq_true rfl) (hts (.fieldLink RX11 61 "ScriptTypes" "tapeLength" "I") (List.mem_of_getElem? (i := 1) (by decide +kernel))) (fun _ h9 => h9) rfl dX11_feedWord_35 ?_
  refine lv_iconst (v := 1) hx hb dX11_feedWord_38 (by decide) ?_
  refine lv_iadd hx hb dX11_feedWord_39 ?_
  refine lv_topi (fun f_10 ef_10 => ?_)
  obtain rfl : f_10 = 14 := by rw [ef_10]; decide
  refine va_put (D := (dC, dI)) (ci := 13) (v := .int 14) (ty := tyX11 1) (C := RX11) (T := TX11) (N := 9) hx hb hts hwX11 tyX11 tyX11_ok nmX11 hown hK hP hD hS 0 rfl rfl 1 (Nat.le_of_ble_eq_true rfl) (hts (.fieldLink RX11 61 "ScriptTypes" "tapeLength" "I") (List.mem_of_getElem? (i := 1) (by decide +kernel))) (fun _ h9 => h9) rfl (tyX11_ok 1 (Nat.le_of_ble_eq_true rfl)) rfl rfl (Nat.le_of_ble_eq_true rfl) dX11_feedWord_40 (fun H locs hP hD hS => ?_)
  have hP : va_P (dC, dI) vwCl [(h0, .inr (13, [.ref (ad 0), .int 14, .int 0, .ref (ad 1), .ref (ad 2), .ref (ad 3), .ref (ad 4), .ref (ad 5), .ref (ad 6)])), ((ad 0), .inl ((cl 0), 4000, .inl gg402))] H := hP
  have hD : va_D A [(h0, .inr (13, [.ref (ad 0), .int 14, .int 0, .ref (ad 1), .ref (ad 2), .ref (ad 3), .ref (ad 4), .ref (ad 5), .ref (ad 6)])), ((ad 0), .inl ((cl 0), 4000, .inl gg402))] := hD
  refine lv_iinc (v := 8) (lv' := [(2, .int 8), (0, .ref h0), (1, .int p3)]) hx hb dX11_feedWord_43 hl (k := 0) rfl (by decide) (by decide) rfl (fun ls hl => ?_)
  refine lv_goto (tgt := 3) hx hb dX11_feedWord_46 (by decide) ?_
  refine lv_iload_n hx hb dX11_feedWord_3 rfl (lv_at hl 0 rfl) ?_
  refine lv_if_lt (tgt := 49) hx hb dX11_feedWord_4 (by decide) (fun c11_4 => absurd c11_4 (by decide)) (fun _ => ?_)
  refine lv_aload_n hx hb dX11_feedWord_7 rfl (lv_at hl 1 rfl) ?_
  refine va_get (D := (dC, dI)) (ci := 13) (v := .int 14) (C := RX11) (T := TX11) (N := 9) hx hb hts hwX11 hown hK hP 0 rfl rfl 1 (Nat.le_of_ble_eq_true rfl) (hts (.fieldLink RX11 61 "ScriptTypes" "tapeLength" "I") (List.mem_of_getElem? (i := 1) (by decide +kernel))) (fun _ h9 => h9) rfl dX11_feedWord_8 ?_
  refine lv_sipush (v := 4000) hx hb dX11_feedWord_11 (by decide) ?_
  refine lv_icmp_ge (tgt := 43) hx hb dX11_feedWord_14 (by decide) (fun c12_14 => absurd c12_14 (by decide)) (fun _ => ?_)
  refine lv_aload_n hx hb dX11_feedWord_17 rfl (lv_at hl 1 rfl) ?_
  refine va_get (D := (dC, dI)) (ci := 13) (v := .ref (ad 0)) (C := RX11) (T := TX11) (N := 9) hx hb hts hwX11 hown hK hP 0 rfl rfl 0 (Nat.le_of_ble_eq_true rfl) (hts (.fieldLink RX11 9 "ScriptTypes" "tape" "[I") (List.mem_of_getElem? (i := 2) (by decide +kernel))) (fun _ h9 => h9) rfl dX11_feedWord_18 ?_
  refine lv_aload_n hx hb dX11_feedWord_21 rfl (lv_at hl 1 rfl) ?_
  refine va_get (D := (dC, dI)) (ci := 13) (v := .int 14) (C := RX11) (T := TX11) (N := 9) hx hb hts hwX11 hown hK hP 0 rfl rfl 1 (Nat.le_of_ble_eq_true rfl) (hts (.fieldLink RX11 61 "ScriptTypes" "tapeLength" "I") (List.mem_of_getElem? (i := 1) (by decide +kernel))) (fun _ h9 => h9) rfl dX11_feedWord_22 ?_
  refine lv_iload_n hx hb dX11_feedWord_25 rfl (lv_at hl 2 rfl) ?_
  refine lv_iload_n hx hb dX11_feedWord_26 rfl (lv_at hl 0 rfl) ?_
  refine lv_iushr hx hb dX11_feedWord_27 rfl ?_
  refine lv_topi (fun f_13 ef_13 => ?_)
  refine lv_sipush (v := 255) hx hb dX11_feedWord_28 (by decide) ?_
  refine lv_iand hx hb dX11_feedWord_31 ?_
  refine lv_topi (fun f_14 ef_14 => ?_)
  refine va_iast hx hb hK hP hD hS 1 0 rfl rfl (show ¬ ((14 : Int32) < 0 ∨ 4000 ≤ (14 : Int32).toNatClampNeg) by decide) dX11_feedWord_32 (fun H locs hP hD hS => ?_)
  obtain ⟨gg403, egg403⟩ : ∃ z9 : Nat → Int32, z9 = upd gg402 (14 : Int32).toNatClampNeg f_14 := ⟨_, rfl⟩
  have hP : va_P (dC, dI) vwCl [(h0, .inr (13, [.ref (ad 0), .int 14, .int 0, .ref (ad 1), .ref (ad 2), .ref (ad 3), .ref (ad 4), .ref (ad 5), .ref (ad 6)])), ((ad 0), .inl ((cl 0), 4000, .inl gg403))] H := by rw [egg403]; exact hP
  have hD : va_D A [(h0, .inr (13, [.ref (ad 0), .int 14, .int 0, .ref (ad 1), .ref (ad 2), .ref (ad 3), .ref (ad 4), .ref (ad 5), .ref (ad 6)])), ((ad 0), .inl ((cl 0), 4000, .inl gg403))] := by rw [egg403]; exact hD
  refine lv_aload_n hx hb dX11_feedWord_33 rfl (lv_at hl 1 rfl) ?_
  refine lv_dup hx hb dX11_feedWord_34 rfl ?_
  refine va_get (D := (dC, dI)) (ci := 13) (v := .int 14) (C := RX11) (T := TX11) (N := 9) hx hb hts hwX11 hown hK hP 0 rfl rfl 1 (Nat.le_of_ble_eq_true rfl) (hts (.fieldLink RX11 61 "ScriptTypes" "tapeLength" "I") (List.mem_of_getElem? (i := 1) (by decide +kernel))) (fun _ h9 => h9) rfl dX11_feedWord_35 ?_
  refine lv_iconst (v := 1) hx hb dX11_feedWord_38 (by decide) ?_
  refine lv_iadd hx hb dX11_feedWord_39 ?_
  refine lv_topi (fun f_15 ef_15 => ?_)
  obtain rfl : f_15 = 15 := by rw [ef_15]; decide
  refine va_put (D := (dC, dI)) (ci := 13) (v := .int 15) (ty := tyX11 1) (C := RX11) (T := TX11) (N := 9) hx hb hts hwX11 tyX11 tyX11_ok nmX11 hown hK hP hD hS 0 rfl rfl 1 (Nat.le_of_ble_eq_true rfl) (hts (.fieldLink RX11 61 "ScriptTypes" "tapeLength" "I") (List.mem_of_getElem? (i := 1) (by decide +kernel))) (fun _ h9 => h9) rfl (tyX11_ok 1 (Nat.le_of_ble_eq_true rfl)) rfl rfl (Nat.le_of_ble_eq_true rfl) dX11_feedWord_40 (fun H locs hP hD hS => ?_)
  have hP : va_P (dC, dI) vwCl [(h0, .inr (13, [.ref (ad 0), .int 15, .int 0, .ref (ad 1), .ref (ad 2), .ref (ad 3), .ref (ad 4), .ref (ad 5), .ref (ad 6)])), ((ad 0), .inl ((cl 0), 4000, .inl gg403))] H := hP
  have hD : va_D A [(h0, .inr (13, [.ref (ad 0), .int 15, .int 0, .ref (ad 1), .ref (ad 2), .ref (ad 3), .ref (ad 4), .ref (ad 5), .ref (ad 6)])), ((ad 0), .inl ((cl 0), 4000, .inl gg403))] := hD
  refine lv_iinc (v := 0) (lv' := [(2, .int 0), (0, .ref h0), (1, .int p3)]) hx hb dX11_feedWord_43 hl (k := 0) rfl (by decide) (by decide) rfl (fun ls hl => ?_)
  refine lv_goto (tgt := 3) hx hb dX11_feedWord_46 (by decide) ?_
  refine lv_iload_n hx hb dX11_feedWord_3 rfl (lv_at hl 0 rfl) ?_
  refine lv_if_lt (tgt := 49) hx hb dX11_feedWord_4 (by decide) (fun c16_4 => absurd c16_4 (by decide)) (fun _ => ?_)
  refine lv_aload_n hx hb dX11_feedWord_7 rfl (lv_at hl 1 rfl) ?_
  refine va_get (D := (dC, dI)) (ci := 13) (v := .int 15) (C := RX11) (T := TX11) (N := 9) hx hb hts hwX11 hown hK hP 0 rfl rfl 1 (Nat.le_of_ble_eq_true rfl) (hts (.fieldLink RX11 61 "ScriptTypes" "tapeLength" "I") (List.mem_of_getElem? (i := 1) (by decide +kernel))) (fun _ h9 => h9) rfl dX11_feedWord_8 ?_
  refine lv_sipush (v := 4000) hx hb dX11_feedWord_11 (by decide) ?_
  refine lv_icmp_ge (tgt := 43) hx hb dX11_feedWord_14 (by decide) (fun c17_14 => absurd c17_14 (by decide)) (fun _ => ?_)
  refine lv_aload_n hx hb dX11_feedWord_17 rfl (lv_at hl 1 rfl) ?_
  refine va_get (D := (dC, dI)) (ci := 13) (v := .ref (ad 0)) (C := RX11) (T := TX11) (N := 9) hx hb hts hwX11 hown hK hP 0 rfl rfl 0 (Nat.le_of_ble_eq_true rfl) (hts (.fieldLink RX11 9 "ScriptTypes" "tape" "[I") (List.mem_of_getElem? (i := 2) (by decide +kernel))) (fun _ h9 => h9) rfl dX11_feedWord_18 ?_
  refine lv_aload_n hx hb dX11_feedWord_21 rfl (lv_at hl 1 rfl) ?_
  refine va_get (D := (dC, dI)) (ci := 13) (v := .int 15) (C := RX11) (T := TX11) (N := 9) hx hb hts hwX11 hown hK hP 0 rfl rfl 1 (Nat.le_of_ble_eq_true rfl) (hts (.fieldLink RX11 61 "ScriptTypes" "tapeLength" "I") (List.mem_of_getElem? (i := 1) (by decide +kernel))) (fun _ h9 => h9) rfl dX11_feedWord_22 ?_
  refine lv_iload_n hx hb dX11_feedWord_25 rfl (lv_at hl 2 rfl) ?_
  refine lv_iload_n hx hb dX11_feedWord_26 rfl (lv_at hl 0 rfl) ?_
  refine lv_iushr hx hb dX11_feedWord_27 rfl ?_
  refine lv_topi (fun f_18 ef_18 => ?_)
  refine lv_sipush (v := 255) hx hb dX11_feedWord_28 (by decide) ?_
  refine lv_iand hx hb dX11_feedWord_31 ?_
  refine lv_topi (fun f_19 ef_19 => ?_)
  refine va_iast hx hb hK hP hD hS 1 0 rfl rfl (show ¬ ((15 : Int32) < 0 ∨ 4000 ≤ (15 : Int32).toNatClampNeg) by decide) dX11_feedWord_32 (fun H locs hP hD hS => ?_)
  obtain ⟨gg404, egg404⟩ : ∃ z9 : Nat → Int32, z9 = upd gg403 (15 : Int32).toNatClampNeg f_19 := ⟨_, rfl⟩
  have hP : va_P (dC, dI) vwCl [(h0, .inr (13, [.ref (ad 0), .int 15, .int 0, .ref (ad 1), .ref (ad 2), .ref (ad 3), .ref (ad 4), .ref (ad 5), .ref (ad 6)])), ((ad 0), .inl ((cl 0), 4000, .inl gg404))] H := by rw [egg404]; exact hP
  have hD : va_D A [(h0, .inr (13, [.ref (ad 0), .int 15, .int 0, .ref (ad 1), .ref (ad 2), .ref (ad 3), .ref (ad 4), .ref (ad 5), .ref (ad 6)])), ((ad 0), .inl ((cl 0), 4000, .inl gg404))] := by rw [egg404]; exact hD
  refine lv_aload_n hx hb dX11_feedWord_33 rfl (lv_at hl 1 rfl) ?_
  refine lv_dup hx hb dX11_feedWord_34 rfl ?_
  refine va_get (D := (dC, dI)) (ci := 13) (v := .int 15) (C := RX11) (T := TX11) (N := 9) hx hb hts hwX11 hown hK hP 0 rfl rfl 1 (Nat.le_of_ble_eq_true rfl) (hts (.fieldLink RX11 61 "ScriptTypes" "tapeLength" "I") (List.mem_of_getElem? (i := 1) (by decide +kernel))) (fun _ h9 => h9) rfl dX11_feedWord_35 ?_
  refine lv_iconst (v := 1) hx hb dX11_feedWord_38 (by decide) ?_
  refine lv_iadd hx hb dX11_feedWord_39 ?_
  refine lv_topi (fun f_20 ef_20 => ?_)
  obtain rfl : f_20 = 16 := by rw [ef_20]; decide
  refine va_put (D := (dC, dI)) (ci := 13) (v := .int 16) (ty := tyX11 1) (C := RX11) (T := TX11) (N := 9) hx hb hts hwX11 tyX11 tyX11_ok nmX11 hown hK hP hD hS 0 rfl rfl 1 (Nat.le_of_ble_eq_true rfl) (hts (.fieldLink RX11 61 "ScriptTypes" "tapeLength" "I") (List.mem_of_getElem? (i := 1) (by decide +kernel))) (fun _ h9 => h9) rfl (tyX11_ok 1 (Nat.le_of_ble_eq_true rfl)) rfl rfl (Nat.le_of_ble_eq_true rfl) dX11_feedWord_40 (fun H locs hP hD hS => ?_)
  have hP : va_P (dC, dI) vwCl [(h0, .inr (13, [.ref (ad 0), .int 16, .int 0, .ref (ad 1), .ref (ad 2), .ref (ad 3), .ref (ad 4), .ref (ad 5), .ref (ad 6)])), ((ad 0), .inl ((cl 0), 4000, .inl gg404))] H := hP
  have hD : va_D A [(h0, .inr (13, [.ref (ad 0), .int 16, .int 0, .ref (ad 1), .ref (ad 2), .ref (ad 3), .ref (ad 4), .ref (ad 5), .ref (ad 6)])), ((ad 0), .inl ((cl 0), 4000, .inl gg404))] := hD
  refine lv_iinc (v := (-8)) (lv' := [(2, .int (-8)), (0, .ref h0), (1, .int p3)]) hx hb dX11_feedWord_43 hl (k := 0) rfl (by decide) (by decide) rfl (fun ls hl => ?_)
  refine lv_goto (tgt := 3) hx hb dX11_feedWord_46 (by decide) ?_
  refine lv_iload_n hx hb dX11_feedWord_3 rfl (lv_at hl 0 rfl) ?_
  refine lv_if_lt (tgt := 49) hx hb dX11_feedWord_4 (by decide) (fun _ => ?_) (fun c21_4 => absurd (by decide) c21_4)
  refine W.widen (k := 0) (n := 0) (Nat.le_of_ble_eq_true rfl) (Nat.le_of_ble_eq_true rfl) ?_
  exact W.vret hx hb hr (fun t ht hW => ⟨⟨(fun n => ([] : List Nat).getD n 0, fun n => ([] : List ClassId).getD n 0, fun n => ([gg404] : List (Nat → Int32)).getD n (fun _ => 0)), rfl, trivial, by rw [ht]; exact hP, va_K.moved hW.alike hK, hD⟩, hS.F ht⟩) hS.2.2 dX11_feedWord_49

def vb_a_X11_feedWord_5 : List Cond := .code yX11_feedWord cX11_feedWord 3 none :: ([.fieldLink RX11 61 "ScriptTypes" "tapeLength" "I", .fieldLink RX11 9 "ScriptTypes" "tape" "[I"] ++ [])
def vw_a_X11_feedWord_5 : List Cond := vb_a_X11_feedWord_5 ++ wsAll
set_option maxHeartbeats 8000000 in
set_option maxRecDepth 100000 in
theorem a_X11_feedWord_5 (l : Launch) (dC : Nat → ClassId) (dI : Nat → Nat → Nat) (sz : Nat) (h0 : Nat) (ad : Nat → Nat) (cl : Nat → ClassId) (p4 : Int32) (fn405 : Nat → Nat → Int32) : Met l yX11_feedWord vw_a_X11_feedWord_5 ({ frames := 0, cells := 0, slots := 0, locals := 0 }) (va_Pc [.ref h0, .int p4] (fun U => U.heap.size = sz ∧ va_P (dC, dI) vwCl [(h0, .inr (13, [.ref (ad 0), .int 16, .int 0, .ref (ad 1), .ref (ad 2), .ref (ad 3), .ref (ad 4), .ref (ad 5), .ref (ad 6)])), ((ad 0), .inl ((cl 0), 4000, .inl (fn405 0)))] U.heap ∧ va_K (dC, dI) vwCl [((cl 0), .int)] U ∧ va_D (fun _ => True) [(h0, .inr (13, [.ref (ad 0), .int 16, .int 0, .ref (ad 1), .ref (ad 2), .ref (ad 3), .ref (ad 4), .ref (ad 5), .ref (ad 6)])), ((ad 0), .inl ((cl 0), 4000, .inl (fn405 0)))])) (va_Qv (fun (u : (Nat → Nat) × (Nat → ClassId) × (Nat → Nat → Int32)) => True) (fun (u : (Nat → Nat) × (Nat → ClassId) × (Nat → Nat → Int32)) t => va_P (dC, dI) vwCl [(h0, .inr (13, [.ref (ad 0), .int 20, .int 0, .ref (ad 1), .ref (ad 2), .ref (ad 3), .ref (ad 4), .ref (ad 5), .ref (ad 6)])), ((ad 0), .inl ((cl 0), 4000, .inl (u.2.2 0)))] t.heap ∧ va_K (dC, dI) vwCl [((cl 0), .int)] t ∧ va_D (va_A [(h0, .inr (13, [.ref (ad 0), .int 16, .int 0, .ref (ad 1), .ref (ad 2), .ref (ad 3), .ref (ad 4), .ref (ad 5), .ref (ad 6)])), ((ad 0), .inl ((cl 0), 4000, .inl (fn405 0)))] sz) [(h0, .inr (13, [.ref (ad 0), .int 20, .int 0, .ref (ad 1), .ref (ad 2), .ref (ad 3), .ref (ad 4), .ref (ad 5), .ref (ad 6)])), ((ad 0), .inl ((cl 0), 4000, .inl (u.2.2 0)))]) (va_A [(h0, .inr (13, [.ref (ad 0), .int 16, .int 0, .ref (ad 1), .ref (ad 2), .ref (ad 3), .ref (ad 4), .ref (ad 5), .ref (ad 6)])), ((ad 0), .inl ((cl 0), 4000, .inl (fn405 0)))] sz)) 0 0 (va_A [(h0, .inr (13, [.ref (ad 0), .int 16, .int 0, .ref (ad 1), .ref (ad 2), .ref (ad 3), .ref (ad 4), .ref (ad 5), .ref (ad 6)])), ((ad 0), .inl ((cl 0), 4000, .inl (fn405 0)))] sz) := by
  refine Met.ofW (cc := cX11_feedWord) (maxL := 3) (ret := none) (by decide) rfl ?_
  intro p e s m args below meth c s₁ B hml hv
  obtain ⟨rfl, hsz, hP, hK, hD0⟩ := hv
  have hx := B.exec
  have hb := B.bytes
  have hr := B.returns
  have hts := atoms_spec (ws := vw_a_X11_feedWord_5) B.pre
  have hown : s.vm.findClass RX11 = some m.cls := findClass_of_methodNamed B.named
  have hlocks := B.notSynchronized
  subst hsz
  have hD := hD0.self (sz := s.heap.size)
  generalize hAe : va_A [(h0, .inr (13, [.ref (ad 0), .int 16, .int 0, .ref (ad 1), .ref (ad 2), .ref (ad 3), .ref (ad 4), .ref (ad 5), .ref (ad 6)])), ((ad 0), .inl ((cl 0), 4000, .inl (fn405 0)))] s.heap.size = A at hD ⊢
  have hA : ∀ q : Nat, s.heap.size ≤ q → A q := fun q h => by rw [← hAe]; exact Or.inr h
  have hS : va_S A s.heap s.heap [] := va_S.rf
  have hP : va_P (dC, dI) vwCl [(h0, .inr (13, [.ref (ad 0), .int 16, .int 0, .ref (ad 1), .ref (ad 2), .ref (ad 3), .ref (ad 4), .ref (ad 5), .ref (ad 6)])), ((ad 0), .inl ((cl 0), 4000, .inl (fn405 0)))] s.heap := hP
  have hl := lv_entry ([.ref h0, .int p4]) (n := 3) (Nat.le_of_ble_eq_true rfl)
  rw [lg_entry_eq]
  generalize (lg_sl ([.ref h0, .int p4]) ++ List.replicate (3 - (lg_sl ([.ref h0, .int p4])).length) Slot.unset).toArray = ls at hl ⊢
  have hl : lv_has ls 3 [(0, .ref h0), (1, .int p4)] := hl
  have hwX11 : ∀ w ∈ wsX110, w ∈ vw_a_X11_feedWord_5 := (fun w h => List.mem_append_right _ (List.mem_append_right _ (List.mem_append_right _ (List.mem_append_right _ (List.mem_append_right _ (List.mem_append_right _ (List.mem_append_right _ (List.mem_append_right _ (List.mem_append_right _ (List.mem_append_right _ (List.mem_append_right _ (List.mem_append_right _ h))))))))))))
  refine lv_bipush (v := 24) hx hb dX11_feedWord_0 (by decide) ?_
  refine lv_istore_n (lv' := [(2, .int 24), (0, .ref h0), (1, .int p4)]) hx hb dX11_feedWord_2 rfl hl (by decide) rfl (fun ls hl => ?_)
  refine lv_iload_n hx hb dX11_feedWord_3 rfl (lv_at hl 0 rfl) ?_
  refine lv_if_lt (tgt := 49) hx hb dX11_feedWord_4 (by decide) (fun c1_4 => absurd c1_4 (by decide)) (fun _ => ?_)
  refine lv_aload_n hx hb dX11_feedWord_7 rfl (lv_at hl 1 rfl) ?_
  refine va_get (D := (dC, dI)) (ci := 13) (v := .int 16) (C := RX11) (T := TX11) (N := 9) hx hb hts hwX11 hown hK hP 0 rfl rfl 1 (Nat.le_of_ble_eq_true rfl) (hts (.fieldLink RX11 61 "ScriptTypes" "tapeLength" "I") (List.mem_of_getElem? (i := 1) (by decide +kernel))) (fun _ h9 => h9) rfl dX11_feedWord_8 ?_
  refine lv_sipush (v := 4000) hx hb dX11_feedWord_11 (by decide) ?_
  refine lv_icmp_ge (tgt := 43) hx hb dX11_feedWord_14 (by decide) (fun c2_14 => absurd c2_14 (by decide)) (fun _ => ?_)
  refine lv_aload_n hx hb dX11_feedWord_17 rfl (lv_at hl 1 rfl) ?_
  refine va_get (D := (dC, dI)) (ci := 13) (v := .ref (ad 0)) (C := RX11) (T := TX11) (N := 9) hx hb hts hwX11 hown hK hP 0 rfl rfl 0 (Nat.le_of_ble_eq_true rfl) (hts (.fieldLink RX11 9 "ScriptTypes" "tape" "[I") (List.mem_of_getElem? (i := 2) (by decide +kernel))) (fun _ h9 => h9) rfl dX11_feedWord_18 ?_
  refine lv_aload_n hx hb dX11_feedWord_21 rfl (lv_at hl 1 rfl) ?_
  refine va_get (D := (dC, dI)) (ci := 13) (v := .int 16) (C := RX11) (T := TX11) (N := 9) hx hb hts hwX11 hown hK hP 0 rfl rfl 1 (Nat.le_of_ble_eq_true rfl) (hts (.fieldLink RX11 61 "ScriptTypes" "tapeLength" "I") (List.mem_of_getElem? (i := 1) (by decide +kernel))) (fun _ h9 => h9) rfl dX11_feedWord_22 ?_
  refine lv_iload_n hx hb dX11_feedWord_25 rfl (lv_at hl 2 rfl) ?_
  refine lv_iload_n hx hb dX11_feedWord_26 rfl (lv_at hl 0 rfl) ?_
  refine lv_iushr hx hb dX11_feedWord_27 rfl ?_
  refine lv_topi (fun f_3 ef_3 => ?_)
  refine lv_sipush (v := 255) hx hb dX11_feedWord_28 (by decide) ?_
  refine lv_iand hx hb dX11_feedWord_31 ?_
  refine lv_topi (fun f_4 ef_4 => ?_)
  refine va_iast hx hb hK hP hD hS 1 0 rfl rfl (show ¬ ((16 : Int32) < 0 ∨ 4000 ≤ (16 : Int32).toNatClampNeg) by decide) dX11_feedWord_32 (fun H locs hP hD hS => ?_)
  obtain ⟨gg410, egg410⟩ : ∃ z9 : Nat → Int32, z9 = upd (fn405 0) (16 : Int32).toNatClampNeg f_4 := ⟨_, rfl⟩
  have hP : va_P (dC, dI) vwCl [(h0, .inr (13, [.ref (ad 0), .int 16, .int 0, .ref (ad 1), .ref (ad 2), .ref (ad 3), .ref (ad 4), .ref (ad 5), .ref (ad 6)])), ((ad 0), .inl ((cl 0), 4000, .inl gg410))] H := by rw [egg410]; exact hP
  have hD : va_D A [(h0, .inr (13, [.ref (ad 0), .int 16, .int 0, .ref (ad 1), .ref (ad 2), .ref (ad 3), .ref (ad 4), .ref (ad 5), .ref (ad 6)])), ((ad 0), .inl ((cl 0), 4000, .inl gg410))] := by rw [egg410]; exact hD
  refine lv_aload_n hx hb dX11_feedWord_33 rfl (lv_at hl 1 rfl) ?_
  refine lv_dup hx hb dX11_feedWord_34 rfl ?_
  refine va_get (D := (dC, dI)) (ci := 13) (v := .int 16) (C := RX11) (T := TX11) (N := 9) hx hb hts hwX11 hown hK hP 0 rfl rfl 1 (Nat.le_of_ble_eq_true rfl) (hts (.fieldLink RX11 61 "ScriptTypes" "tapeLength" "I") (List.mem_of_getElem? (i := 1) (by decide +kernel))) (fun _ h9 => h9) rfl dX11_feedWord_35 ?_
  refine lv_iconst (v := 1) hx hb dX11_feedWord_38 (by decide) ?_
  refine lv_iadd hx hb dX11_feedWord_39 ?_
  refine lv_topi (fun f_5 ef_5 => ?_)
  obtain rfl : f_5 = 17 := by rw [ef_5]; decide
  refine va_put (D := (dC, dI)) (ci := 13) (v := .int 17) (ty := tyX11 1) (C := RX11) (T := TX11) (N := 9) hx hb hts hwX11 tyX11 tyX11_ok nmX11 hown hK hP hD hS 0 rfl rfl 1 (Nat.le_of_ble_eq_true rfl) (hts (.fieldLink RX11 61 "ScriptTypes" "tapeLength" "I") (List.mem_of_getElem? (i := 1) (by decide +kernel))) (fun _ h9 => h9) rfl (tyX11_ok 1 (Nat.le_of_ble_eq_true rfl)) rfl rfl (Nat.le_of_ble_eq_true rfl) dX11_feedWord_40 (fun H locs hP hD hS => ?_)
  have hP : va_P (dC, dI) vwCl [(h0, .inr (13, [.ref (ad 0), .int 17, .int 0, .ref (ad 1), .ref (ad 2), .ref (ad 3), .ref (ad 4), .ref (ad 5), .ref (ad 6)])), ((ad 0), .inl ((cl 0), 4000, .inl gg410))] H := hP
  have hD : va_D A [(h0, .inr (13, [.ref (ad 0), .int 17, .int 0, .ref (ad 1), .ref (ad 2), .ref (ad 3), .ref (ad 4), .ref (ad 5), .ref (ad 6)])), ((ad 0), .inl ((cl 0), 4000, .inl gg410))] := hD
  refine lv_iinc (v := 16) (lv' := [(2, .int 16), (0, .ref h0), (1, .int p4)]) hx hb dX11_feedWord_43 hl (k := 0) rfl (by decide) (by decide) rfl (fun ls hl => ?_)
  refine lv_goto (tgt := 3) hx hb dX11_feedWord_46 (by decide) ?_
  refine lv_iload_n hx hb dX11_feedWord_3 rfl (lv_at hl 0 rfl) ?_
  refine lv_if_lt (tgt := 49) hx hb dX11_feedWord_4 (by decide) (fun c6_4 => absurd c6_4 (by decide)) (fun _ => ?_)
  refine lv_aload_n hx hb dX11_feedWord_7 rfl (lv_at hl 1 rfl) ?_
  refine va_get (D := (dC, dI)) (ci := 13) (v := .int 17) (C := RX11) (T := TX11) (N := 9) hx hb hts hwX11 hown hK hP 0 rfl rfl 1 (Nat.le_of_ble_eq_true rfl) (hts (.fieldLink RX11 61 "ScriptTypes" "tapeLength" "I") (List.mem_of_getElem? (i := 1) (by decide +kernel))) (fun _ h9 => h9) rfl dX11_feedWord_8 ?_
  refine lv_sipush (v := 4000) hx hb dX11_feedWord_11 (by decide) ?_
  refine lv_icmp_ge (tgt := 43) hx hb dX11_feedWord_14 (by decide) (fun c7_14 => absurd c7_14 (by decide)) (fun _ => ?_)
  refine lv_aload_n hx hb dX11_feedWord_17 rfl (lv_at hl 1 rfl) ?_
  refine va_get (D := (dC, dI)) (ci := 13) (v := .ref (ad 0)) (C := RX11) (T := TX11) (N := 9) hx hb hts hwX11 hown hK hP 0 rfl rfl 0 (Nat.le_of_ble_eq_true rfl) (hts (.fieldLink RX11 9 "ScriptTypes" "tape" "[I") (List.mem_of_getElem? (i := 2) (by decide +kernel))) (fun _ h9 => h9) rfl dX11_feedWord_18 ?_
  refine lv_aload_n hx hb dX11_feedWord_21 rfl (lv_at hl 1 rfl) ?_
  refine va_get (D := (dC, dI)) (ci := 13) (v := .int 17) (C := RX11) (T := TX11) (N := 9) hx hb hts hwX11 hown hK hP 0 rfl rfl 1 (Nat.le_of_ble_eq_true rfl) (hts (.fieldLink RX11 61 "ScriptTypes" "tapeLength" "I") (List.mem_of_getElem? (i := 1) (by decide +kernel))) (fun _ h9 => h9) rfl dX11_feedWord_22 ?_
  refine lv_iload_n hx hb dX11_feedWord_25 rfl (lv_at hl 2 rfl) ?_
  refine lv_iload_n hx hb dX11_feedWord_26 rfl (lv_at hl 0 rfl) ?_
  refine lv_iushr hx hb dX11_feedWord_27 rfl ?_
  refine lv_topi (fun f_8 ef_8 => ?_)
  refine lv_sipush (v := 255) hx hb dX11_feedWord_28 (by decide) ?_
  refine lv_iand hx hb dX11_feedWord_31 ?_
  refine lv_topi (fun f_9 ef_9 => ?_)
  refine va_iast hx hb hK hP hD hS 1 0 rfl rfl (show ¬ ((17 : Int32) < 0 ∨ 4000 ≤ (17 : Int32).toNatClampNeg) by decide) dX11_feedWord_32 (fun H locs hP hD hS => ?_)
  obtain ⟨gg411, egg411⟩ : ∃ z9 : Nat → Int32, z9 = upd gg410 (17 : Int32).toNatClampNeg f_9 := ⟨_, rfl⟩
  have hP : va_P (dC, dI) vwCl [(h0, .inr (13, [.ref (ad 0), .int 17, .int 0, .ref (ad 1), .ref (ad 2), .ref (ad 3), .ref (ad 4), .ref (ad 5), .ref (ad 6)])), ((ad 0), .inl ((cl 0), 4000, .inl gg411))] H := by rw [egg411]; exact hP
  have hD : va_D A [(h0, .inr (13, [.ref (ad 0), .int 17, .int 0, .ref (ad 1), .ref (ad 2), .ref (ad 3), .ref (ad 4), .ref (ad 5), .ref (ad 6)])), ((ad 0), .inl ((cl 0), 4000, .inl gg411))] := by rw [egg411]; exact hD
  refine lv_aload_n hx hb dX11_feedWord_33 rfl (lv_at hl 1 rfl) ?_
  refine lv_dup hx hb dX11_feedWord_34 rfl ?_
  refine va_get (D := (dC, dI)) (ci := 13) (v := .int 17) (C := RX11) (T := TX11) (N := 9) hx hb hts hwX11 hown hK hP 0 rfl rfl 1 (Nat.le_of_ble_eq_true rfl) (hts (.fieldLink RX11 61 "ScriptTypes" "tapeLength" "I") (List.mem_of_getElem? (i := 1) (by decide +kernel))) (fun _ h9 => h9) rfl dX11_feedWord_35 ?_
  refine lv_iconst (v := 1) hx hb dX11_feedWord_38 (by decide) ?_
  refine lv_iadd hx hb dX11_feedWord_39 ?_
  refine lv_topi (fun f_10 ef_10 => ?_)
  obtain rfl : f_10 = 18 := by rw [ef_10]; decide
  refine va_put (D := (dC, dI)) (ci := 13) (v := .int 18) (ty := tyX11 1) (C := RX11) (T := TX11) (N := 9) hx hb hts hwX11 tyX11 tyX11_ok nmX11 hown hK hP hD hS 0 rfl rfl 1 (Nat.le_of_ble_eq_true rfl) (hts (.fieldLink RX11 61 "ScriptTypes" "tapeLength" "I") (List.mem_of_getElem? (i := 1) (by decide +kernel))) (fun _ h9 => h9) rfl (tyX11_ok 1 (Nat.le_of_ble_eq_true rfl)) rfl rfl (Nat.le_of_ble_eq_true rfl) dX11_feedWord_40 (fun H locs hP hD hS => ?_)
  have hP : va_P (dC, dI) vwCl [(h0, .inr (13, [.ref (ad 0), .int 18, .int 0, .ref (ad 1), .ref (ad 2), .ref (ad 3), .ref (ad 4), .ref (ad 5), .ref (ad 6)])), ((ad 0), .inl ((cl 0), 4000, .inl gg411))] H := hP
  have hD : va_D A [(h0, .inr (13, [.ref (ad 0), .int 18, .int 0, .ref (ad 1), .ref (ad 2), .ref (ad 3), .ref (ad 4), .ref (ad 5), .ref (ad 6)])), ((ad 0), .inl ((cl 0), 4000, .inl gg411))] := hD
  refine lv_iinc (v := 8) (lv' := [(2, .int 8), (0, .ref h0), (1, .int p4)]) hx hb dX11_feedWord_43 hl (k := 0) rfl (by decide) (by decide) rfl (fun ls hl => ?_)
  refine lv_goto (tgt := 3) hx hb dX11_feedWord_46 (by decide) ?_
  refine lv_iload_n hx hb dX11_feedWord_3 rfl (lv_at hl 0 rfl) ?_
  refine lv_if_lt (tgt := 49) hx hb dX11_feedWord_4 (by decide) (fun c11_4 => absurd c11_4 (by decide)) (fun _ => ?_)
  refine lv_aload_n hx hb dX11_feedWord_7 rfl (lv_at hl 1 rfl) ?_
  refine va_get (D := (dC, dI)) (ci := 13) (v := .int 18) (C := RX11) (T := TX11) (N := 9) hx hb hts hwX11 hown hK hP 0 rfl rfl 1 (Nat.le_of_ble_eq_true rfl) (hts (.fieldLink RX11 61 "ScriptTypes" "tapeLength" "I") (List.mem_of_getElem? (i := 1) (by decide +kernel))) (fun _ h9 => h9) rfl dX11_feedWord_8 ?_
  refine lv_sipush (v := 4000) hx hb dX11_feedWord_11 (by decide) ?_
  refine lv_icmp_ge (tgt := 43) hx hb dX11_feedWord_14 (by decide) (fun c12_14 => absurd c12_14 (by decide)) (fun _ => ?_)
  refine lv_aload_n hx hb dX11_feedWord_17 rfl (lv_at hl 1 rfl) ?_
  refine va_get (D := (dC, dI)) (ci := 13) (v := .ref (ad 0)) (C := RX11) (T := TX11) (N := 9) hx hb hts hwX11 hown hK hP 0 rfl rfl 0 (Nat.le_of_ble_eq_true rfl) (hts (.fieldLink RX11 9 "ScriptTypes" "tape" "[I") (List.mem_of_getElem? (i := 2) (by decide +kernel))) (fun _ h9 => h9) rfl dX11_feedWord_18 ?_
  refine lv_aload_n hx hb dX11_feedWord_21 rfl (lv_at hl 1 rfl) ?_
  refine va_get (D := (dC, dI)) (ci := 13) (v := .int 18) (C := RX11) (T := TX11) (N := 9) hx hb hts hwX11 hown hK hP 0 rfl rfl 1 (Nat.le_of_ble_eq_true rfl) (hts (.fieldLink RX11 61 "ScriptTypes" "tapeLength" "I") (List.mem_of_getElem? (i := 1) (by decide +kernel))) (fun _ h9 => h9) rfl dX11_feedWord_22 ?_
  refine lv_iload_n hx hb dX11_feedWord_25 rfl (lv_at hl 2 rfl) ?_
  refine lv_iload_n hx hb dX11_feedWord_26 rfl (lv_at hl 0 rfl) ?_
  refine lv_iushr hx hb dX11_feedWord_27 rfl ?_
  refine lv_topi (fun f_13 ef_13 => ?_)
  refine lv_sipush (v := 255) hx hb dX11_feedWord_28 (by decide) ?_
  refine lv_iand hx hb dX11_feedWord_31 ?_
  refine lv_topi (fun f_14 ef_14 => ?_)
  refine va_iast hx hb hK hP hD hS 1 0 rfl rfl (show ¬ ((18 : Int32) < 0 ∨ 4000 ≤ (18 : Int32).toNatClampNeg) by decide) dX11_feedWord_32 (fun H locs hP hD hS => ?_)
  obtain ⟨gg412, egg412⟩ : ∃ z9 : Nat → Int32, z9 = upd gg411 (18 : Int32).toNatClampNeg f_14 := ⟨_, rfl⟩
  have hP : va_P (dC, dI) vwCl [(h0, .inr (13, [.ref (ad 0), .int 18, .int 0, .ref (ad 1), .ref (ad 2), .ref (ad 3), .ref (ad 4), .ref (ad 5), .ref (ad 6)])), ((ad 0), .inl ((cl 0), 4000, .inl gg412))] H := by rw [egg412]; exact hP
  have hD : va_D A [(h0, .inr (13, [.ref (ad 0), .int 18, .int 0, .ref (ad 1), .ref (ad 2), .ref (ad 3), .ref (ad 4), .ref (ad 5), .ref (ad 6)])), ((ad 0), .inl ((cl 0), 4000, .inl gg412))] := by rw [egg412]; exact hD
  refine lv_aload_n hx hb dX11_feedWord_33 rfl (lv_at hl 1 rfl) ?_
  refine lv_dup hx hb dX11_feedWord_34 rfl ?_
  refine va_get (D := (dC, dI)) (ci := 13) (v := .int 18) (C := RX11) (T := TX11) (N := 9) hx hb hts hwX11 hown hK hP 0 rfl rfl 1 (Nat.le_of_ble_eq_true rfl) (hts (.fieldLink RX11 61 "ScriptTypes" "tapeLength" "I") (List.mem_of_getElem? (i := 1) (by decide +kernel))) (fun _ h9 => h9) rfl dX11_feedWord_35 ?_
  refine lv_iconst (v := 1) hx hb dX11_feedWord_38 (by decide) ?_
  refine lv_iadd hx hb dX11_feedWord_39 ?_
  refine lv_topi (fun f_15 ef_15 => ?_)
  obtain rfl : f_15 = 19 := by rw [ef_15]; decide
  refine va_put (D := (dC, dI)) (ci := 13) (v := .int 19) (ty := tyX11 1) (C := RX11) (T := TX11) (N := 9) hx hb hts hwX11 tyX11 tyX11_ok nmX11 hown hK hP hD hS 0 rfl rfl 1 (Nat.le_of_ble_eq_true rfl) (hts (.fieldLink RX11 61 "ScriptTypes" "tapeLength" "I") (List.mem_of_getElem? (i := 1) (by decide +kernel))) (fun _ h9 => h9) rfl (tyX11_ok 1 (Nat.le_of_ble_eq_true rfl)) rfl rfl (Nat.le_of_ble_eq_true rfl) dX11_feedWord_40 (fun H locs hP hD hS => ?_)
  have hP : va_P (dC, dI) vwCl [(h0, .inr (13, [.ref (ad 0), .int 19, .int 0, .ref (ad 1), .ref (ad 2), .ref (ad 3), .ref (ad 4), .ref (ad 5), .ref (ad 6)])), ((ad 0), .inl ((cl 0), 4000, .inl gg412))] H := hP
  have hD : va_D A [(h0, .inr (13, [.ref (ad 0), .int 19, .int 0, .ref (ad 1), .ref (ad 2), .ref (ad 3), .ref (ad 4), .ref (ad 5), .ref (ad 6)])), ((ad 0), .inl ((cl 0), 4000, .inl gg412))] := hD
  refine lv_iinc (v := 0) (lv' := [(2, .int 0), (0, .ref h0), (1, .int p4)]) hx hb dX11_feedWord_43 hl (k := 0) rfl (by decide) (by decide) rfl (fun ls hl => ?_)
  refine lv_goto (tgt := 3) hx hb dX11_feedWord_46 (by decide) ?_
  refine lv_iload_n hx hb dX11_feedWord_3 rfl (lv_at hl 0 rfl) ?_
  refine lv_if_lt (tgt := 49) hx hb dX11_feedWord_4 (by decide) (fun c16_4 => absurd c16_4 (by decide)) (fun _ => ?_)
  refine lv_aload_n hx hb dX11_feedWord_7 rfl (lv_at hl 1 rfl) ?_
  refine va_get (D := (dC, dI)) (ci := 13) (v := .int 19) (C := RX11) (T := TX11) (N := 9) hx hb hts hwX11 hown hK hP 0 rfl rfl 1 (Nat.le_of_ble_eq_true rfl) (hts (.fieldLink RX11 61 "ScriptTypes" "tapeLength" "I") (List.mem_of_getElem? (i := 1) (by decide +kernel))) (fun _ h9 => h9) rfl dX11_feedWord_8 ?_
  refine lv_sipush (v := 4000) hx hb dX11_feedWord_11 (by decide) ?_
  refine lv_icmp_ge (tgt := 43) hx hb dX11_feedWord_14 (by decide) (fun c17_14 => absurd c17_14 (by decide)) (fun _ => ?_)
  refine lv_aload_n hx hb dX11_feedWord_17 rfl (lv_at hl 1 rfl) ?_
  refine va_get (D := (dC, dI)) (ci := 13) (v := .ref (ad 0)) (C := RX11) (T := TX11) (N := 9) hx hb hts hwX11 hown hK hP 0 rfl rfl 0 (Nat.le_of_ble_eq_true rfl) (hts (.fieldLink RX11 9 "ScriptTypes" "tape" "[I") (List.mem_of_getElem? (i := 2) (by decide +kernel))) (fun _ h9 => h9) rfl dX11_feedWord_18 ?_
  refine lv_aload_n hx hb dX11_feedWord_21 rfl (lv_at hl 1 rfl) ?_
  refine va_get (D := (dC, dI)) (ci := 13) (v := .int 19) (C := RX11) (T := TX11) (N := 9) hx hb hts hwX11 hown hK hP 0 rfl rfl 1 (Nat.le_of_ble_eq_true rfl) (hts (.fieldLink RX11 61 "ScriptTypes" "tapeLength" "I") (List.mem_of_getElem? (i := 1) (by decide +kernel))) (fun _ h9 => h9) rfl dX11_feedWord_22 ?_
  refine lv_iload_n hx hb dX11_feedWord_25 rfl (lv_at hl 2 rfl) ?_
  refine lv_iload_n hx hb dX11_feedWord_26 rfl (lv_at hl 0 rfl) ?_
  refine lv_iushr hx hb dX11_feedWord_27 rfl ?_
  refine lv_topi (fun f_18 ef_18 => ?_)
  refine lv_sipush (v := 255) hx hb dX11_feedWord_28 (by decide) ?_
  refine lv_iand hx hb dX11_feedWord_31 ?_
  refine lv_topi (fun f_19 ef_19 => ?_)
  refine va_iast hx hb hK hP hD hS 1 0 rfl rfl (show ¬ ((19 : Int32) < 0 ∨ 4000 ≤ (19 : Int32).toNatClampNeg) by decide) dX11_feedWord_32 (fun H locs hP hD hS => ?_)
  obtain ⟨gg413, egg413⟩ : ∃ z9 : Nat → Int32, z9 = upd gg412 (19 : Int32).toNatClampNeg f_19 := ⟨_, rfl⟩
  have hP : va_P (dC, dI) vwCl [(h0, .inr (13, [.ref (ad 0), .int 19, .int 0, .ref (ad 1), .ref (ad 2), .ref (ad 3), .ref (ad 4), .ref (ad 5), .ref (ad 6)])), ((ad 0), .inl ((cl 0), 4000, .inl gg413))] H := by rw [egg413]; exact hP
  have hD : va_D A [(h0, .inr (13, [.ref (ad 0), .int 19, .int 0, .ref (ad 1), .ref (ad 2), .ref (ad 3), .ref (ad 4), .ref (ad 5), .ref (ad 6)])), ((ad 0), .inl ((cl 0), 4000, .inl gg413))] := by rw [egg413]; exact hD
  refine lv_aload_n hx hb dX11_feedWord_33 rfl (lv_at hl 1 rfl) ?_
  refine lv_dup hx hb dX11_feedWord_34 rfl ?_
  refine va_get (D := (dC, dI)) (ci := 13) (v := .int 19) (C := RX11) (T := TX11) (N := 9) hx hb hts hwX11 hown hK hP 0 rfl rfl 1 (Nat.le_of_ble_eq_true rfl) (hts (.fieldLink RX11 61 "ScriptTypes" "tapeLength" "I") (List.mem_of_getElem? (i := 1) (by decide +kernel))) (fun _ h9 => h9) rfl dX11_feedWord_35 ?_
  refine lv_iconst (v := 1) hx hb dX11_feedWord_38 (by decide) ?_
  refine lv_iadd hx hb dX11_feedWord_39 ?_
  refine lv_topi (fun f_20 ef_20 => ?_)
  obtain rfl : f_20 = 20 := by rw [ef_20]; decide
  refine va_put (D := (dC, dI)) (ci := 13) (v := .int 20) (ty := tyX11 1) (C := RX11) (T := TX11) (N := 9) hx hb hts hwX11 tyX11 tyX11_ok nmX11 hown hK hP hD hS 0 rfl rfl 1 (Nat.le_of_ble_eq_true rfl) (hts (.fieldLink RX11 61 "ScriptTypes" "tapeLength" "I") (List.mem_of_getElem? (i := 1) (by decide +kernel))) (fun _ h9 => h9) rfl (tyX11_ok 1 (Nat.le_of_ble_eq_true rfl)) rfl rfl (Nat.le_of_ble_eq_true rfl) dX11_feedWord_40 (fun H locs hP hD hS => ?_)
  have hP : va_P (dC, dI) vwCl [(h0, .inr (13, [.ref (ad 0), .int 20, .int 0, .ref (ad 1), .ref (ad 2), .ref (ad 3), .ref (ad 4), .ref (ad 5), .ref (ad 6)])), ((ad 0), .inl ((cl 0), 4000, .inl gg413))] H := hP
  have hD : va_D A [(h0, .inr (13, [.ref (ad 0), .int 20, .int 0, .ref (ad 1), .ref (ad 2), .ref (ad 3), .ref (ad 4), .ref (ad 5), .ref (ad 6)])), ((ad 0), .inl ((cl 0), 4000, .inl gg413))] := hD
  refine lv_iinc (v := (-8)) (lv' := [(2, .int (-8)), (0, .ref h0), (1, .int p4)]) hx hb dX11_feedWord_43 hl (k := 0) rfl (by decide) (by decide) rfl (fun ls hl => ?_)
  refine lv_goto (tgt := 3) hx hb dX11_feedWord_46 (by decide) ?_
  refine lv_iload_n hx hb dX11_feedWord_3 rfl (lv_at hl 0 rfl) ?_
  refine lv_if_lt (tgt := 49) hx hb dX11_feedWord_4 (by decide) (fun _ => ?_) (fun c21_4 => absurd (by decide) c21_4)
  refine W.widen (k := 0) (n := 0) (Nat.le_of_ble_eq_true rfl) (Nat.le_of_ble_eq_true rfl) ?_
  exact W.vret hx hb hr (fun t ht hW => ⟨⟨(fun n => ([] : List Nat).getD n 0, fun n => ([] : List ClassId).getD n 0, fun n => ([gg413] : List (Nat → Int32)).getD n (fun _ => 0)), rfl, trivial, by rw [ht]; exact hP, va_K.moved hW.alike hK, hD⟩, hS.F ht⟩) hS.2.2 dX11_feedWord_49

def vb_k_X11_feed : List Cond := .code yX11_feed cX11_feed 6 (some .int) :: ([.fieldLink RX11 61 "ScriptTypes" "tapeLength" "I", .methodLink RX11 69 yX11_feedWord, .instanceMethod yX11_feedWord, .selects RX11 yX11_feedWord yX11_feedWord, .initialized RX11] ++ (vb_a_X11_feedWord_1 ++ (vb_a_X11_feedWord_2 ++ (vb_a_X11_feedWord_3 ++ (vb_a_X11_feedWord_4 ++ (vb_a_X11_feedWord_5 ++ []))))))
def vw_k_X11_feed : List Cond := vb_k_X11_feed ++ wsAll
set_option maxRecDepth 20000 in
theorem vg_k_X11_feed_a_X11_feedWord_1 : GoodIn vw_k_X11_feed (wsV RX11 69 RX11 yX11_feedWord vw_a_X11_feedWord_1) := goodIn_app (goodIn_of _ (by decide +kernel)) (goodIn_sub (v_sub (fun w h => List.mem_cons_of_mem _ (List.mem_append_right _ (List.mem_append_left _ (h))))) (by decide +kernel))
set_option maxRecDepth 20000 in
theorem vg_k_X11_feed_a_X11_feedWord_2 : GoodIn vw_k_X11_feed (wsV RX11 69 RX11 yX11_feedWord vw_a_X11_feedWord_2) := goodIn_app (goodIn_of _ (by decide +kernel)) (goodIn_sub (v_sub (fun w h => List.mem_cons_of_mem _ (List.mem_append_right _ (List.mem_append_right _ (List.mem_append_left _ (h)))))) (by decide +kernel))
set_option maxRecDepth 20000 in
theorem vg_k_X11_feed_a_X11_feedWord_3 : GoodIn vw_k_X11_feed (wsV RX11 69 RX11 yX11_feedWord vw_a_X11_feedWord_3) := goodIn_app (goodIn_of _ (by decide +kernel)) (goodIn_sub (v_sub (fun w h => List.mem_cons_of_mem _ (List.mem_append_right _ (List.mem_append_right _ (List.mem_append_right _ (List.mem_append_left _ (h))))))) (by decide +kernel))
set_option maxRecDepth 20000 in
theorem vg_k_X11_feed_a_X11_feedWord_4 : GoodIn vw_k_X11_feed (wsV RX11 69 RX11 yX11_feedWord vw_a_X11_feedWord_4) := goodIn_app (goodIn_of _ (by decide +kernel)) (goodIn_sub (v_sub (fun w h => List.mem_cons_of_mem _ (List.mem_append_right _ (List.mem_append_right _ (List.mem_append_right _ (List.mem_append_right _ (List.mem_append_left _ (h)))))))) (by decide +kernel))
set_option maxRecDepth 20000 in
theorem vg_k_X11_feed_a_X11_feedWord_5 : GoodIn vw_k_X11_feed (wsV RX11 69 RX11 yX11_feedWord vw_a_X11_feedWord_5) := goodIn_app (goodIn_of _ (by decide +kernel)) (goodIn_sub (v_sub (fun w h => List.mem_cons_of_mem _ (List.mem_append_right _ (List.mem_append_right _ (List.mem_append_right _ (List.mem_append_right _ (List.mem_append_right _ (List.mem_append_left _ (h))))))))) (by decide +kernel))
set_option maxHeartbeats 8000000 in
set_option maxRecDepth 100000 in
theorem k_X11_feed (l : Launch) (dC : Nat → ClassId) (dI : Nat → Nat → Nat) (sz : Nat) (h0 : Nat) (ad : Nat → Nat) (cl : Nat → ClassId) (p0 : Int32) (p1 : Int32) (p2 : Int32) (p3 : Int32) (p4 : Int32) : Met l yX11_feed vw_k_X11_feed ({ frames := 1, cells := 0, slots := 0, locals := 22 }) (va_Pc [.ref h0, .int p0, .int p1, .int p2, .int p3, .int p4] (fun U => U.heap.size = sz ∧ va_P (dC, dI) vwCl [(h0, .inr (13, [.ref (ad 0), .int 0, .int 0, .ref (ad 1), .ref (ad 2), .ref (ad 3), .ref (ad 4), .ref (ad 5), .ref (ad 6)])), ((ad 0), .inl ((cl 0), 4000, .inl (fun _ => 0)))] U.heap ∧ va_K (dC, dI) vwCl [((cl 0), .int)] U ∧ va_D (fun _ => True) [(h0, .inr (13, [.ref (ad 0), .int 0, .int 0, .ref (ad 1), .ref (ad 2), .ref (ad 3), .ref (ad 4), .ref (ad 5), .ref (ad 6)])), ((ad 0), .inl ((cl 0), 4000, .inl (fun _ => 0)))])) (va_Qi (fun (r : Int32) (_ : Unit) => r = 20) (fun _ _ => True) (va_A [(h0, .inr (13, [.ref (ad 0), .int 0, .int 0, .ref (ad 1), .ref (ad 2), .ref (ad 3), .ref (ad 4), .ref (ad 5), .ref (ad 6)])), ((ad 0), .inl ((cl 0), 4000, .inl (fun _ => 0)))] sz)) 0 0 (va_A [(h0, .inr (13, [.ref (ad 0), .int 0, .int 0, .ref (ad 1), .ref (ad 2), .ref (ad 3), .ref (ad 4), .ref (ad 5), .ref (ad 6)])), ((ad 0), .inl ((cl 0), 4000, .inl (fun _ => 0)))] sz) := by
  refine Met.ofW (cc := cX11_feed) (maxL := 6) (ret := (some .int)) (by decide) rfl ?_
  intro p e s m args below meth c s₁ B hml hv
  obtain ⟨rfl, hsz, hP, hK, hD0⟩ := hv
  have hx := B.exec
  have hb := B.bytes
  have hr := B.returns
  have hts := atoms_spec (ws := vw_k_X11_feed) B.pre
  have hown : s.vm.findClass RX11 = some m.cls := findClass_of_methodNamed B.named
  have hlocks := B.notSynchronized
  subst hsz
  have hD := hD0.self (sz := s.heap.size)
  generalize hAe : va_A [(h0, .inr (13, [.ref (ad 0), .int 0, .int 0, .ref (ad 1), .ref (ad 2), .ref (ad 3), .ref (ad 4), .ref (ad 5), .ref (ad 6)])), ((ad 0), .inl ((cl 0), 4000, .inl (fun _ => 0)))] s.heap.size = A at hD ⊢
  have hA : ∀ q : Nat, s.heap.size ≤ q → A q := fun q h => by rw [← hAe]; exact Or.inr h
  have hS : va_S A s.heap s.heap [] := va_S.rf
  have hP : va_P (dC, dI) vwCl [(h0, .inr (13, [.ref (ad 0), .int 0, .int 0, .ref (ad 1), .ref (ad 2), .ref (ad 3), .ref (ad 4), .ref (ad 5), .ref (ad 6)])), ((ad 0), .inl ((cl 0), 4000, .inl (fun _ => 0)))] s.heap := hP
  have hl := lv_entry ([.ref h0, .int p0, .int p1, .int p2, .int p3, .int p4]) (n := 6) (Nat.le_of_ble_eq_true rfl)
  rw [lg_entry_eq]
  generalize (lg_sl ([.ref h0, .int p0, .int p1, .int p2, .int p3, .int p4]) ++ List.replicate (6 - (lg_sl ([.ref h0, .int p0, .int p1, .int p2, .int p3, .int p4])).length) Slot.unset).toArray = ls at hl ⊢
  have hl : lv_has ls 6 [(0, .ref h0), (1, .int p0), (2, .int p1), (3, .int p2), (4, .int p3), (5, .int p4)] := hl
  have hwX11 : ∀ w ∈ wsX110, w ∈ vw_k_X11_feed := (fun w h => List.mem_append_right _ (List.mem_append_right _ (List.mem_append_right _ (List.mem_append_right _ (List.mem_append_right _ (List.mem_append_right _ (List.mem_append_right _ (List.mem_append_right _ (List.mem_append_right _ (List.mem_append_right _ (List.mem_append_right _ (List.mem_append_right _ h))))))))))))
  refine lv_aload_n hx hb dX11_feed_0 rfl (lv_at hl 0 rfl) ?_
  refine va_get (D := (dC, dI)) (ci := 13) (v := .int 0) (C := RX11) (T := TX11) (N := 9) hx hb hts hwX11 hown hK hP 0 rfl rfl 1 (Nat.le_of_ble_eq_true rfl) (hts (.fieldLink RX11 61 "ScriptTypes" "tapeLength" "I") (List.mem_of_getElem? (i := 1) (by decide +kernel))) (fun _ h9 => h9) rfl dX11_feed_1 ?_
  refine lv_sipush (v := 3980) hx hb dX11_feed_4 (by decide) ?_
  refine lv_icmp_le (tgt := 12) hx hb dX11_feed_7 (by decide) (fun _ => ?_) (fun c1_7 => absurd (by decide) c1_7)
  refine lv_aload_n hx hb dX11_feed_12 rfl (lv_at hl 0 rfl) ?_
  refine lv_iload_n hx hb dX11_feed_13 rfl (lv_at hl 1 rfl) ?_
  have hPc := hP.sub (ws' := [(h0, .inr (13, [.ref (ad 0), .int 0, .int 0, .ref (ad 1), .ref (ad 2), .ref (ad 3), .ref (ad 4), .ref (ad 5), .ref (ad 6)])), ((ad 0), .inl ((cl 0), 4000, .inl (fun _ => 0)))]) [0, 1] rfl
  have hDc := hD.sub (ws' := [(h0, .inr (13, [.ref (ad 0), .int 0, .int 0, .ref (ad 1), .ref (ad 2), .ref (ad 3), .ref (ad 4), .ref (ad 5), .ref (ad 6)])), ((ad 0), .inl ((cl 0), 4000, .inl (fun _ => 0)))]) [0, 1] (by decide) rfl
  have hKc := hK.sub (tys' := [((cl 0), .int)]) [0] rfl
  have hFc := va_free (wc := [(h0, .inr (13, [.ref (ad 0), .int 0, .int 0, .ref (ad 1), .ref (ad 2), .ref (ad 3), .ref (ad 4), .ref (ad 5), .ref (ad 6)])), ((ad 0), .inl ((cl 0), 4000, .inl (fun _ => 0)))]) hD hS hA [0, 1] rfl
  refine va_callv (va_runV (As := [.int p0]) (rest := []) ⟨hx, hb, hml, hown, hts⟩ (a_X11_feedWord_1 l dC dI s.heap.size h0 ad cl p0) (cwV 1 hts vg_k_X11_feed_a_X11_feedWord_1 rfl rfl rfl (by decide +kernel) ⟨Nat.le_of_ble_eq_true rfl, Nat.le_of_ble_eq_true rfl⟩) ⟨fun a U g mk q => by obtain ⟨q0, q1, qP, qK, qD⟩ := q; exact ⟨q0, q1, qP, va_K.moved (u := U) (U := U.calling g mk a) (Vm.Alike.refl U.vm) qK, qD⟩, va_recv hKc hPc (ci := 13) (q0 := 0) rfl rfl, fun U hU hW => ⟨rfl, by rw [hU], by rw [hU]; exact hPc, va_K.moved hW.alike hKc, hDc.weaken (fun _ _ _ _ => trivial)⟩⟩ rfl rfl hl.1 rfl (lv_room (Nat.le_of_ble_eq_true rfl)) dX11_feed_14 ⟨Nat.le_of_ble_eq_true rfl, Nat.le_of_ble_eq_true rfl⟩) hS (fun q _ h => hFc q h) hFc (fun u t H1 locs ht hvm hw hB hz1 hk1 hS => ?_)
  obtain ⟨_, _, fn378⟩ := u
  obtain ⟨hP1, hK1, hD1⟩ := hB
  rw [ht] at hP1
  have hK1 := va_K.moved hvm.symm hK1
  try dsimp only at hw
  obtain ⟨hP, hD⟩ := va_join (wr := []) (w1 := [(h0, .inr (13, [.ref (ad 0), .int 4, .int 0, .ref (ad 1), .ref (ad 2), .ref (ad 3), .ref (ad 4), .ref (ad 5), .ref (ad 6)])), ((ad 0), .inl ((cl 0), 4000, .inl (fn378 0)))]) hP hD [0, 1] [] rfl rfl (by decide) (by decide) hk1 hFc hP1 hD1
  generalize H1 = H at hP hS ⊢
  have hP : va_P (dC, dI) vwCl [(h0, .inr (13, [.ref (ad 0), .int 4, .int 0, .ref (ad 1), .ref (ad 2), .ref (ad 3), .ref (ad 4), .ref (ad 5), .ref (ad 6)])), ((ad 0), .inl ((cl 0), 4000, .inl (fn378 0)))] H := hP
  have hD : va_D A [(h0, .inr (13, [.ref (ad 0), .int 4, .int 0, .ref (ad 1), .ref (ad 2), .ref (ad 3), .ref (ad 4), .ref (ad 5), .ref (ad 6)])), ((ad 0), .inl ((cl 0), 4000, .inl (fn378 0)))] := hD
  refine lv_aload_n hx hb dX11_feed_17 rfl (lv_at hl 0 rfl) ?_
  refine lv_iload_n hx hb dX11_feed_18 rfl (lv_at hl 2 rfl) ?_
  have hPc := hP.sub (ws' := [(h0, .inr (13, [.ref (ad 0), .int 4, .int 0, .ref (ad 1), .ref (ad 2), .ref (ad 3), .ref (ad 4), .ref (ad 5), .ref (ad 6)])), ((ad 0), .inl ((cl 0), 4000, .inl (fn378 0)))]) [0, 1] rfl
  have hDc := hD.sub (ws' := [(h0, .inr (13, [.ref (ad 0), .int 4, .int 0, .ref (ad 1), .ref (ad 2), .ref (ad 3), .ref (ad 4), .ref (ad 5), .ref (ad 6)])), ((ad 0), .inl ((cl 0), 4000, .inl (fn378 0)))]) [0, 1] (by decide) rfl
  have hKc := hK.sub (tys' := [((cl 0), .int)]) [0] rfl
  have hFc := va_free (wc := [(h0, .inr (13, [.ref (ad 0), .int 4, .int 0, .ref (ad 1), .ref (ad 2), .ref (ad 3), .ref (ad 4), .ref (ad 5), .ref (ad 6)])), ((ad 0), .inl ((cl 0), 4000, .inl (fn378 0)))]) hD hS hA [0, 1] rfl
  refine va_callv (va_runV (As := [.int p1]) (rest := []) ⟨hx, hb, hml, hown, hts⟩ (a_X11_feedWord_2 l dC dI H.size h0 ad cl p1 fn378) (cwV 1 hts vg_k_X11_feed_a_X11_feedWord_2 rfl rfl rfl (by decide +kernel) ⟨Nat.le_of_ble_eq_true rfl, Nat.le_of_ble_eq_true rfl⟩) ⟨fun a U g mk q => by obtain ⟨q0, q1, qP, qK, qD⟩ := q; exact ⟨q0, q1, qP, va_K.moved (u := U) (U := U.calling g mk a) (Vm.Alike.refl U.vm) qK, qD⟩, va_recv hKc hPc (ci := 13) (q0 := 0) rfl rfl, fun U hU hW => ⟨rfl, by rw [hU], by rw [hU]; exact hPc, va_K.moved hW.alike hKc, hDc.weaken (fun _ _ _ _ => trivial)⟩⟩ rfl rfl hl.1 rfl (lv_room (Nat.le_of_ble_eq_true rfl)) dX11_feed_19 ⟨Nat.le_of_ble_eq_true rfl, Nat.le_of_ble_eq_true rfl⟩) hS (fun q _ h => hFc q h) hFc (fun u t H1 locs ht hvm hw hB hz1 hk1 hS => ?_)
  obtain ⟨_, _, fn387⟩ := u
  obtain ⟨hP1, hK1, hD1⟩ := hB
  rw [ht] at hP1
  have hK1 := va_K.moved hvm.symm hK1
  try dsimp only at hw
  obtain ⟨hP, hD⟩ := va_join (wr := []) (w1 := [(h0, .inr (13, [.ref (ad 0), .int 8, .int 0, .ref (ad 1), .ref (ad 2), .ref (ad 3), .ref (ad 4), .ref (ad 5), .ref (ad 6)])), ((ad 0), .inl ((cl 0), 4000, .inl (fn387 0)))]) hP hD [0, 1] [] rfl rfl (by decide) (by decide) hk1 hFc hP1 hD1
  generalize H1 = H at hP hS ⊢
  have hP : va_P (dC, dI) vwCl [(h0, .inr (13, [.ref (ad 0), .int 8, .int 0, .ref (ad 1), .ref (ad 2), .ref (ad 3), .ref (ad 4), .ref (ad 5), .ref (ad 6)])), ((ad 0), .inl ((cl 0), 4000, .inl (fn387 0)))] H := hP
  have hD : va_D A [(h0, .inr (13, [.ref (ad 0), .int 8, .int 0, .ref (ad 1), .ref (ad 2), .ref (ad 3), .ref (ad 4), .ref (ad 5), .ref (ad 6)])), ((ad 0), .inl ((cl 0), 4000, .inl (fn387 0)))] := hD
  refine lv_aload_n hx hb dX11_feed_22 rfl (lv_at hl 0 rfl) ?_
  refine lv_iload_n hx hb dX11_feed_23 rfl (lv_at hl 3 rfl) ?_
  have hPc := hP.sub (ws' := [(h0, .inr (13, [.ref (ad 0), .int 8, .int 0, .ref (ad 1), .ref (ad 2), .ref (ad 3), .ref (ad 4), .ref (ad 5), .ref (ad 6)])), ((ad 0), .inl ((cl 0), 4000, .inl (fn387 0)))]) [0, 1] rfl
  have hDc := hD.sub (ws' := [(h0, .inr (13, [.ref (ad 0), .int 8, .int 0, .ref (ad 1), .ref (ad 2), .ref (ad 3), .ref (ad 4), .ref (ad 5), .ref (ad 6)])), ((ad 0), .inl ((cl 0), 4000, .inl (fn387 0)))]) [0, 1] (by decide) rfl
  have hKc := hK.sub (tys' := [((cl 0), .int)]) [0] rfl
  have hFc := va_free (wc := [(h0, .inr (13, [.ref (ad 0), .int 8, .int 0, .ref (ad 1), .ref (ad 2), .ref (ad 3), .ref (ad 4), .ref (ad 5), .ref (ad 6)])), ((ad 0), .inl ((cl 0), 4000, .inl (fn387 0)))]) hD hS hA [0, 1] rfl
  refine va_callv (va_runV (As := [.int p2]) (rest := []) ⟨hx, hb, hml, hown, hts⟩ (a_X11_feedWord_3 l dC dI H.size h0 ad cl p2 fn387) (cwV 1 hts vg_k_X11_feed_a_X11_feedWord_3 rfl rfl rfl (by decide +kernel) ⟨Nat.le_of_ble_eq_true rfl, Nat.le_of_ble_eq_true rfl⟩) ⟨fun a U g mk q => by obtain ⟨q0, q1, qP, qK, qD⟩ := q; exact ⟨q0, q1, qP, va_K.moved (u := U) (U := U.calling g mk a) (Vm.Alike.refl U.vm) qK, qD⟩, va_recv hKc hPc (ci := 13) (q0 := 0) rfl rfl, fun U hU hW => ⟨rfl, by rw [hU], by rw [hU]; exact hPc, va_K.moved hW.alike hKc, hDc.weaken (fun _ _ _ _ => trivial)⟩⟩ rfl rfl hl.1 rfl (lv_room (Nat.le_of_ble_eq_true rfl)) dX11_feed_24 ⟨Nat.le_of_ble_eq_true rfl, Nat.le_of_ble_eq_true rfl⟩) hS (fun q _ h => hFc q h) hFc (fun u t H1 locs ht hvm hw hB hz1 hk1 hS => ?_)
  obtain ⟨_, _, fn396⟩ := u
  obtain ⟨hP1, hK1, hD1⟩ := hB
  rw [ht] at hP1
  have hK1 := va_K.moved hvm.symm hK1
  try dsimp only at hw
  obtain ⟨hP, hD⟩ := va_join (wr := []) (w1 := [(h0, .inr (13, [.ref (ad 0), .int 12, .int 0, .ref (ad 1), .ref (ad 2), .ref (ad 3), .ref (ad 4), .ref (ad 5), .ref (ad 6)])), ((ad 0), .inl ((cl 0), 4000, .inl (fn396 0)))]) hP hD [0, 1] [] rfl rfl (by decide) (by decide) hk1 hFc hP1 hD1
  generalize H1 = H at hP hS ⊢
  have hP : va_P (dC, dI) vwCl [(h0, .inr (13, [.ref (ad 0), .int 12, .int 0, .ref (ad 1), .ref (ad 2), .ref (ad 3), .ref (ad 4), .ref (ad 5), .ref (ad 6)])), ((ad 0), .inl ((cl 0), 4000, .inl (fn396 0)))] H := hP
  have hD : va_D A [(h0, .inr (13, [.ref (ad 0), .int 12, .int 0, .ref (ad 1), .ref (ad 2), .ref (ad 3), .ref (ad 4), .ref (ad 5), .ref (ad 6)])), ((ad 0), .inl ((cl 0), 4000, .inl (fn396 0)))] := hD
  refine lv_aload_n hx hb dX11_feed_27 rfl (lv_at hl 0 rfl) ?_
  refine lv_iload hx hb dX11_feed_28 (lv_at hl 4 rfl) ?_
  have hPc := hP.sub (ws' := [(h0, .inr (13, [.ref (ad 0), .int 12, .int 0, .ref (ad 1), .ref (ad 2), .ref (ad 3), .ref (ad 4), .ref (ad 5), .ref (ad 6)])), ((ad 0), .inl ((cl 0), 4000, .inl (fn396 0)))]) [0, 1] rfl
  have hDc := hD.sub (ws' := [(h0, .inr (13, [.ref (ad 0), .int 12, .int 0, .ref (ad 1), .ref (ad 2), .ref (ad 3), .ref (ad 4), .ref (ad 5), .ref (ad 6)])), ((ad 0), .inl ((cl 0), 4000, .inl (fn396 0)))]) [0, 1] (by decide) rfl
  have hKc := hK.sub (tys' := [((cl 0), .int)]) [0] rfl
  have hFc := va_free (wc := [(h0, .inr (13, [.ref (ad 0), .int 12, .int 0, .ref (ad 1), .ref (ad 2), .ref (ad 3), .ref (ad 4), .ref (ad 5), .ref (ad 6)])), ((ad 0), .inl ((cl 0), 4000, .inl (fn396 0)))]) hD hS hA [0, 1] rfl
  refine va_callv (va_runV (As := [.int p3]) (rest := []) ⟨hx, hb, hml, hown, hts⟩ (a_X11_feedWord_4 l dC dI H.size h0 ad cl p3 fn396) (cwV 1 hts vg_k_X11_feed_a_X11_feedWord_4 rfl rfl rfl (by decide +kernel) ⟨Nat.le_of_ble_eq_true rfl, Nat.le_of_ble_eq_true rfl⟩) ⟨fun a U g mk q => by obtain ⟨q0, q1, qP, qK, qD⟩ := q; exact ⟨q0, q1, qP, va_K.moved (u := U) (U := U.calling g mk a) (Vm.Alike.refl U.vm) qK, qD⟩, va_recv hKc hPc (ci := 13) (q0 := 0) rfl rfl, fun U hU hW => ⟨rfl, by rw [hU], by rw [hU]; exact hPc, va_K.moved hW.alike hKc, hDc.weaken (fun _ _ _ _ => trivial)⟩⟩ rfl rfl hl.1 rfl (lv_room (Nat.le_of_ble_eq_true rfl)) dX11_feed_30 ⟨Nat.le_of_ble_eq_true rfl, Nat.le_of_ble_eq_true rfl⟩) hS (fun q _ h => hFc q h) hFc (fun u t H1 locs ht hvm hw hB hz1 hk1 hS => ?_)
  obtain ⟨_, _, fn405⟩ := u
  obtain ⟨hP1, hK1, hD1⟩ := hB
  rw [ht] at hP1
  have hK1 := va_K.moved hvm.symm hK1
  try dsimp only at hw
  obtain ⟨hP, hD⟩ := va_join (wr := []) (w1 := [(h0, .inr (13, [.ref (ad 0), .int 16, .int 0, .ref (ad 1), .ref (ad 2), .ref (ad 3), .ref (ad 4), .ref (ad 5), .ref (ad 6)])), ((ad 0), .inl ((cl 0), 4000, .inl (fn405 0)))]) hP hD [0, 1] [] rfl rfl (by decide) (by decide) hk1 hFc hP1 hD1
  generalize H1 = H at hP hS ⊢
  have hP : va_P (dC, dI) vwCl [(h0, .inr (13, [.ref (ad 0), .int 16, .int 0, .ref (ad 1), .ref (ad 2), .ref (ad 3), .ref (ad 4), .ref (ad 5), .ref (ad 6)])), ((ad 0), .inl ((cl 0), 4000, .inl (fn405 0)))] H := hP
  have hD : va_D A [(h0, .inr (13, [.ref (ad 0), .int 16, .int 0, .ref (ad 1), .ref (ad 2), .ref (ad 3), .ref (ad 4), .ref (ad 5), .ref (ad 6)])), ((ad 0), .inl ((cl 0), 4000, .inl (fn405 0)))] := hD
  refine lv_aload_n hx hb dX11_feed_33 rfl (lv_at hl 0 rfl) ?_
  refine lv_iload hx hb dX11_feed_34 (lv_at hl 5 rfl) ?_
  have hPc := hP.sub (ws' := [(h0, .inr (13, [.ref (ad 0), .int 16, .int 0, .ref (ad 1), .ref (ad 2), .ref (ad 3), .ref (ad 4), .ref (ad 5), .ref (ad 6)])), ((ad 0), .inl ((cl 0), 4000, .inl (fn405 0)))]) [0, 1] rfl
  have hDc := hD.sub (ws' := [(h0, .inr (13, [.ref (ad 0), .int 16, .int 0, .ref (ad 1), .ref (ad 2), .ref (ad 3), .ref (ad 4), .ref (ad 5), .ref (ad 6)])), ((ad 0), .inl ((cl 0), 4000, .inl (fn405 0)))]) [0, 1] (by decide) rfl
  have hKc := hK.sub (tys' := [((cl 0), .int)]) [0] rfl
  have hFc := va_free (wc := [(h0, .inr (13, [.ref (ad 0), .int 16, .int 0, .ref (ad 1), .ref (ad 2), .ref (ad 3), .ref (ad 4), .ref (ad 5), .ref (ad 6)])), ((ad 0), .inl ((cl 0), 4000, .inl (fn405 0)))]) hD hS hA [0, 1] rfl
  refine va_callv (va_runV (As := [.int p4]) (rest := []) ⟨hx, hb, hml, hown, hts⟩ (a_X11_feedWord_5 l dC dI H.size h0 ad cl p4 fn405) (cwV 1 hts vg_k_X11_feed_a_X11_feedWord_5 rfl rfl rfl (by decide +kernel) ⟨Nat.le_of_ble_eq_true rfl, Nat.le_of_ble_eq_true rfl⟩) ⟨fun a U g mk q => by obtain ⟨q0, q1, qP, qK, qD⟩ := q; exact ⟨q0, q1, qP, va_K.moved (u := U) (U := U.calling g mk a) (Vm.Alike.refl U.vm) qK, qD⟩, va_recv hKc hPc (ci := 13) (q0 := 0) rfl rfl, fun U hU hW => ⟨rfl, by rw [hU], by rw [hU]; exact hPc, va_K.moved hW.alike hKc, hDc.weaken (fun _ _ _ _ => trivial)⟩⟩ rfl rfl hl.1 rfl (lv_room (Nat.le_of_ble_eq_true rfl)) dX11_feed_36 ⟨Nat.le_of_ble_eq_true rfl, Nat.le_of_ble_eq_true rfl⟩) hS (fun q _ h => hFc q h) hFc (fun u t H1 locs ht hvm hw hB hz1 hk1 hS => ?_)
  obtain ⟨_, _, fn414⟩ := u
  obtain ⟨hP1, hK1, hD1⟩ := hB
  rw [ht] at hP1
  have hK1 := va_K.moved hvm.symm hK1
  try dsimp only at hw
  obtain ⟨hP, hD⟩ := va_join (wr := []) (w1 := [(h0, .inr (13, [.ref (ad 0), .int 20, .int 0, .ref (ad 1), .ref (ad 2), .ref (ad 3), .ref (ad 4), .ref (ad 5), .ref (ad 6)])), ((ad 0), .inl ((cl 0), 4000, .inl (fn414 0)))]) hP hD [0, 1] [] rfl rfl (by decide) (by decide) hk1 hFc hP1 hD1
  generalize H1 = H at hP hS ⊢
  have hP : va_P (dC, dI) vwCl [(h0, .inr (13, [.ref (ad 0), .int 20, .int 0, .ref (ad 1), .ref (ad 2), .ref (ad 3), .ref (ad 4), .ref (ad 5), .ref (ad 6)])), ((ad 0), .inl ((cl 0), 4000, .inl (fn414 0)))] H := hP
  have hD : va_D A [(h0, .inr (13, [.ref (ad 0), .int 20, .int 0, .ref (ad 1), .ref (ad 2), .ref (ad 3), .ref (ad 4), .ref (ad 5), .ref (ad 6)])), ((ad 0), .inl ((cl 0), 4000, .inl (fn414 0)))] := hD
  refine lv_aload_n hx hb dX11_feed_39 rfl (lv_at hl 0 rfl) ?_
  refine va_get (D := (dC, dI)) (ci := 13) (v := .int 20) (C := RX11) (T := TX11) (N := 9) hx hb hts hwX11 hown hK hP 0 rfl rfl 1 (Nat.le_of_ble_eq_true rfl) (hts (.fieldLink RX11 61 "ScriptTypes" "tapeLength" "I") (List.mem_of_getElem? (i := 1) (by decide +kernel))) (fun _ h9 => h9) rfl dX11_feed_40 ?_
  exact W.iret (v := 20) hx hb hr (fun t ht hW => ⟨⟨20, (), rfl, rfl, trivial⟩, hS.F ht⟩) hS.2.2 dX11_feed_43

def vb_k_X11_back : List Cond := .code yX11_back cX11_back 2 (some .int) :: ([.fieldLink RX11 61 "ScriptTypes" "tapeLength" "I"] ++ [])
def vw_k_X11_back : List Cond := vb_k_X11_back ++ wsAll
set_option maxHeartbeats 8000000 in
set_option maxRecDepth 100000 in
theorem k_X11_back (l : Launch) (dC : Nat → ClassId) (dI : Nat → Nat → Nat) (sz : Nat) (h0 : Nat) (ad : Nat → Nat) (p0 : Int32) : Met l yX11_back vw_k_X11_back ({ frames := 0, cells := 0, slots := 0, locals := 0 }) (va_Pc [.ref h0, .int p0] (fun U => U.heap.size = sz ∧ va_P (dC, dI) vwCl [(h0, .inr (13, [.ref (ad 0), .int 0, .int 0, .ref (ad 1), .ref (ad 2), .ref (ad 3), .ref (ad 4), .ref (ad 5), .ref (ad 6)]))] U.heap ∧ va_K (dC, dI) vwCl [] U ∧ va_D (fun _ => True) [(h0, .inr (13, [.ref (ad 0), .int 0, .int 0, .ref (ad 1), .ref (ad 2), .ref (ad 3), .ref (ad 4), .ref (ad 5), .ref (ad 6)]))])) (va_Qi (fun (r : Int32) (_ : Unit) => r = k_back p0) (fun _ _ => True) (va_A [(h0, .inr (13, [.ref (ad 0), .int 0, .int 0, .ref (ad 1), .ref (ad 2), .ref (ad 3), .ref (ad 4), .ref (ad 5), .ref (ad 6)]))] sz)) 0 0 (va_A [(h0, .inr (13, [.ref (ad 0), .int 0, .int 0, .ref (ad 1), .ref (ad 2), .ref (ad 3), .ref (ad 4), .ref (ad 5), .ref (ad 6)]))] sz) := by
  refine Met.ofW (cc := cX11_back) (maxL := 2) (ret := (some .int)) (by decide) rfl ?_
  intro p e s m args below meth c s₁ B hml hv
  obtain ⟨rfl, hsz, hP, hK, hD0⟩ := hv
  have hx := B.exec
  have hb := B.bytes
  have hr := B.returns
  have hts := atoms_spec (ws := vw_k_X11_back) B.pre
  have hown : s.vm.findClass RX11 = some m.cls := findClass_of_methodNamed B.named
  have hlocks := B.notSynchronized
  subst hsz
  have hD := hD0.self (sz := s.heap.size)
  generalize hAe : va_A [(h0, .inr (13, [.ref (ad 0), .int 0, .int 0, .ref (ad 1), .ref (ad 2), .ref (ad 3), .ref (ad 4), .ref (ad 5), .ref (ad 6)]))] s.heap.size = A at hD ⊢
  have hA : ∀ q : Nat, s.heap.size ≤ q → A q := fun q h => by rw [← hAe]; exact Or.inr h
  have hS : va_S A s.heap s.heap [] := va_S.rf
  have hP : va_P (dC, dI) vwCl [(h0, .inr (13, [.ref (ad 0), .int 0, .int 0, .ref (ad 1), .ref (ad 2), .ref (ad 3), .ref (ad 4), .ref (ad 5), .ref (ad 6)]))] s.heap := hP
  have hl := lv_entry ([.ref h0, .int p0]) (n := 2) (Nat.le_of_ble_eq_true rfl)
  rw [lg_entry_eq]
  generalize (lg_sl ([.ref h0, .int p0]) ++ List.replicate (2 - (lg_sl ([.ref h0, .int p0])).length) Slot.unset).toArray = ls at hl ⊢
  have hl : lv_has ls 2 [(0, .ref h0), (1, .int p0)] := hl
  have hwX11 : ∀ w ∈ wsX110, w ∈ vw_k_X11_back := (fun w h => List.mem_append_right _ (List.mem_append_right _ (List.mem_append_right _ (List.mem_append_right _ (List.mem_append_right _ (List.mem_append_right _ (List.mem_append_right _ (List.mem_append_right _ (List.mem_append_right _ (List.mem_append_right _ (List.mem_append_right _ (List.mem_append_right _ h))))))))))))
  refine lv_iload_n hx hb dX11_back_0 rfl (lv_at hl 1 rfl) ?_
  refine lv_if_lt (tgt := 12) hx hb dX11_back_1 (by decide) (fun c1_1 => ?_) (fun c1_1 => ?_)
  · skip
    refine lv_iconst (v := (-1)) hx hb dX11_back_12 (by decide) ?_
    exact W.iret (v := (-1)) hx hb hr (fun t ht hW => ⟨⟨(-1), (), rfl, k_back_n c1_1, trivial⟩, hS.F ht⟩) hS.2.2 dX11_back_13
  · skip
    refine lv_iload_n hx hb dX11_back_4 rfl (lv_at hl 1 rfl) ?_
    refine lv_aload_n hx hb dX11_back_5 rfl (lv_at hl 0 rfl) ?_
    refine va_get (D := (dC, dI)) (ci := 13) (v := .int 0) (C := RX11) (T := TX11) (N := 9) hx hb hts hwX11 hown hK hP 0 rfl rfl 1 (Nat.le_of_ble_eq_true rfl) (hts (.fieldLink RX11 61 "ScriptTypes" "tapeLength" "I") (List.mem_of_getElem? (i := 1) (by decide +kernel))) (fun _ h9 => h9) rfl dX11_back_6 ?_
    refine lv_icmp_le (tgt := 14) hx hb dX11_back_9 (by decide) (fun c2_9 => ?_) (fun c2_9 => ?_)
    · skip
      refine lv_aload_n hx hb dX11_back_14 rfl (lv_at hl 0 rfl) ?_
      refine lv_dup hx hb dX11_back_15 rfl ?_
      refine va_get (D := (dC, dI)) (ci := 13) (v := .int 0) (C := RX11) (T := TX11) (N := 9) hx hb hts hwX11 hown hK hP 0 rfl rfl 1 (Nat.le_of_ble_eq_true rfl) (hts (.fieldLink RX11 61 "ScriptTypes" "tapeLength" "I") (List.mem_of_getElem? (i := 1) (by decide +kernel))) (fun _ h9 => h9) rfl dX11_back_16 ?_
      refine lv_iload_n hx hb dX11_back_19 rfl (lv_at hl 1 rfl) ?_
      refine lv_isub hx hb dX11_back_20 ?_
      refine lv_topi (fun f_3 ef_3 => ?_)
      refine va_put (D := (dC, dI)) (ci := 13) (v := .int f_3) (ty := tyX11 1) (C := RX11) (T := TX11) (N := 9) hx hb hts hwX11 tyX11 tyX11_ok nmX11 hown hK hP hD hS 0 rfl rfl 1 (Nat.le_of_ble_eq_true rfl) (hts (.fieldLink RX11 61 "ScriptTypes" "tapeLength" "I") (List.mem_of_getElem? (i := 1) (by decide +kernel))) (fun _ h9 => h9) rfl (tyX11_ok 1 (Nat.le_of_ble_eq_true rfl)) rfl rfl (Nat.le_of_ble_eq_true rfl) dX11_back_21 (fun H locs hP hD hS => ?_)
      have hP : va_P (dC, dI) vwCl [(h0, .inr (13, [.ref (ad 0), .int f_3, .int 0, .ref (ad 1), .ref (ad 2), .ref (ad 3), .ref (ad 4), .ref (ad 5), .ref (ad 6)]))] H := hP
      have hD : va_D A [(h0, .inr (13, [.ref (ad 0), .int f_3, .int 0, .ref (ad 1), .ref (ad 2), .ref (ad 3), .ref (ad 4), .ref (ad 5), .ref (ad 6)]))] := hD
      refine lv_aload_n hx hb dX11_back_24 rfl (lv_at hl 0 rfl) ?_
      refine va_get (D := (dC, dI)) (ci := 13) (v := .int f_3) (C := RX11) (T := TX11) (N := 9) hx hb hts hwX11 hown hK hP 0 rfl rfl 1 (Nat.le_of_ble_eq_true rfl) (hts (.fieldLink RX11 61 "ScriptTypes" "tapeLength" "I") (List.mem_of_getElem? (i := 1) (by decide +kernel))) (fun _ h9 => h9) rfl dX11_back_25 ?_
      exact W.iret (v := f_3) hx hb hr (fun t ht hW => ⟨⟨f_3, (), rfl, by rw [ef_3]; exact k_back_z c1_1 c2_9, trivial⟩, hS.F ht⟩) hS.2.2 dX11_back_28
    · skip
      refine lv_iconst (v := (-1)) hx hb dX11_back_12 (by decide) ?_
      exact W.iret (v := (-1)) hx hb hr (fun t ht hW => ⟨⟨(-1), (), rfl, k_back_p c2_9, trivial⟩, hS.F ht⟩) hS.2.2 dX11_back_13
