theorem v_sub {a b W : List Cond} (h : ∀ w ∈ a, w ∈ b) : ∀ w ∈ a ++ W, w ∈ b ++ W := fun w hw => (List.mem_append.mp hw).elim (fun q => List.mem_append_left _ (h w q)) (fun q => List.mem_append_right _ q)
def ck_1 (ad : Nat → Nat) : List Value := [.int 0, .ref (ad 0), .int 0, .ref (ad 1), .int 0, .ref (ad 2), .ref (ad 3), .int 0, .int 0, .int 0, .ref (ad 4), .int 0, .int 0, .ref (ad 5), .ref (ad 6), .ref (ad 7), .ref (ad 8), .ref (ad 9), .int 0, .int 0, .int 0, .int 0, .int 0, .int 0, .int 0, .ref (ad 10), .ref (ad 11), .ref (ad 12), .ref (ad 13), .ref (ad 14), .ref (ad 15), .int 0, .int 0, .ref (ad 16), .ref (ad 17), .ref (ad 18), .ref (ad 19), .ref (ad 20), .ref (ad 21), .ref (ad 22), .ref (ad 23), .ref (ad 24), .int 0, .int 0, .int 0, .int 0, .int 0, .int 0, .ref (ad 25), .ref (ad 26), .ref (ad 27), .ref (ad 28), .ref (ad 29), .int 0, .ref (ad 30), .int 0, .int 0, .ref (ad 31), .ref (ad 32), .int 0, .int 0, .ref (ad 33), .ref (ad 34), .ref (ad 35), .ref (ad 36), .ref (ad 37), .int 0, .ref (ad 38), .int 0, .ref (ad 39), .int 0, .int 0, .int 0, .int 0, .int 0, .int 0, .int 0, .ref (ad 40), .ref (ad 41), .ref (ad 42), .ref (ad 43), .ref (ad 44), .ref (ad 45), .ref (ad 46), .int 0, .int 0, .int 0, .ref (ad 47), .ref (ad 48), .ref (ad 49), .ref (ad 50), .ref (ad 51), .int 0, .ref (ad 52), .ref (ad 53), .ref (ad 54), .ref (ad 55), .ref (ad 56), .ref (ad 57), .ref (ad 58), .ref (ad 59), .ref (ad 60), .ref (ad 61), .ref (ad 62), .ref (ad 63), .ref (ad 64), .ref (ad 65), .int 0, .ref (ad 66), .int 0, .int 0, .int 0, .int 0, .int 0, .int 0, .int 0, .ref (ad 67), .ref (ad 68), .ref (ad 69), .int 0, .int 0, .int 0, .ref (ad 70), .ref (ad 71), .ref (ad 72), .ref (ad 73), .ref (ad 74), .int 0, .ref (ad 75), .ref (ad 76), .ref (ad 77), .ref (ad 78), .ref (ad 79), .ref (ad 80), .ref (ad 81), .ref (ad 82), .ref (ad 83), .ref (ad 84), .ref (ad 85), .ref (ad 86), .ref (ad 87), .ref (ad 88), .ref (ad 89), .long 0, .long 0, .int 0, .ref (ad 90), .int 0, .int 0, .int 0, .int 0]

def ck_2 (ad : Nat → Nat) : List Value := [.int 0, .ref (ad 0), .int 0, .ref (ad 1), .int 0, .ref (ad 2), .ref (ad 3), .int 31, .int 0, .int 0, .ref (ad 4), .int 0, .int 0, .ref (ad 5), .ref (ad 6), .ref (ad 7), .ref (ad 8), .ref (ad 9), .int 0, .int 0, .int 0, .int 0, .int 0, .int 0, .int 0, .ref (ad 10), .ref (ad 11), .ref (ad 12), .ref (ad 13), .ref (ad 14), .ref (ad 15), .int 0, .int 0, .ref (ad 16), .ref (ad 17), .ref (ad 18), .ref (ad 19), .ref (ad 20), .ref (ad 21), .ref (ad 22), .ref (ad 23), .ref (ad 24), .int 0, .int 0, .int 0, .int 0, .int 0, .int 0, .ref (ad 25), .ref (ad 26), .ref (ad 27), .ref (ad 28), .ref (ad 29), .int 0, .ref (ad 30), .int 0, .int 0, .ref (ad 31), .ref (ad 32), .int 0, .int 0, .ref (ad 33), .ref (ad 34), .ref (ad 35), .ref (ad 36), .ref (ad 37), .int 0, .ref (ad 38), .int 0, .ref (ad 39), .int 0, .int 0, .int 0, .int 0, .int 0, .int 0, .int 0, .ref (ad 40), .ref (ad 41), .ref (ad 42), .ref (ad 43), .ref (ad 44), .ref (ad 45), .ref (ad 46), .int 0, .int 0, .int 0, .ref (ad 47), .ref (ad 48), .ref (ad 49), .ref (ad 50), .ref (ad 51), .int 0, .ref (ad 52), .ref (ad 53), .ref (ad 54), .ref (ad 55), .ref (ad 56), .ref (ad 57), .ref (ad 58), .ref (ad 59), .ref (ad 60), .ref (ad 61), .ref (ad 62), .ref (ad 63), .ref (ad 64), .ref (ad 65), .int 0, .ref (ad 66), .int 0, .int 0, .int 0, .int 0, .int 0, .int 0, .int 0, .ref (ad 67), .ref (ad 68), .ref (ad 69), .int 0, .int 0, .int 0, .ref (ad 70), .ref (ad 71), .ref (ad 72), .ref (ad 73), .ref (ad 74), .int 0, .ref (ad 75), .ref (ad 76), .ref (ad 77), .ref (ad 78), .ref (ad 79), .ref (ad 80), .ref (ad 81), .ref (ad 82), .ref (ad 83), .ref (ad 84), .ref (ad 85), .ref (ad 86), .ref (ad 87), .ref (ad 88), .ref (ad 89), .long 0, .long 0, .int 0, .ref (ad 90), .int 0, .int 0, .int 0, .int 0]

def vb_a_X12_isThere_1 : List Cond := .code yX12_isThere cX12_isThere 2 (some .boolean) :: ([.fieldLink RX12 328 "ScriptTypesModel" "size" "I"] ++ [])
def vw_a_X12_isThere_1 : List Cond := vb_a_X12_isThere_1 ++ wsX120
set_option maxHeartbeats 8000000 in
set_option maxRecDepth 100000 in
theorem a_X12_isThere_1 (l : Launch) (dC : Nat → ClassId) (dI : Nat → Nat → Nat) (sz : Nat) (h0 aS aV : Nat) (ad : Nat → Nat) (c4 : ClassId) (f4 : Nat → Int32) (c2 : ClassId) (f2 : Nat → Int32) (c3 : ClassId) (f3 : Nat → Int32) (c5 : ClassId) (f5 : Nat → Int32) (c7 : ClassId) (f7 : Nat → Int32) (c8 : ClassId) (f8 : Nat → Int32) (c9 : ClassId) (f9 : Nat → Int32) (c14 : ClassId) (f14 : Nat → Int32) (c23 : ClassId) (f23 : Nat → Int32) (c21 : ClassId) (f21 : Nat → Int32) (c25 : ClassId) (f25 : Nat → Int32) (c26 : ClassId) (f26 : Nat → Int32) (c27 : ClassId) (f27 : Nat → Int32) (c28 : ClassId) (f28 : Nat → Int32) (c29 : ClassId) (f29 : Nat → Int32) : Met l yX12_isThere vw_a_X12_isThere_1 ({ frames := 0, cells := 0, slots := 0, locals := 0 }) (va_Pc [.ref h0, .int 0] (fun U => U.heap.size = sz ∧ va_P (dC, dI) vwCl [(h0, .inr (14, (((ck_2 ad)).set 18 (.int 0)).set 19 (.int 1)))] U.heap ∧ va_K (dC, dI) vwCl [] U ∧ va_D (fun _ => True) [(h0, .inr (14, (((ck_2 ad)).set 18 (.int 0)).set 19 (.int 1)))])) (va_Qi (fun (r : Int32) (_ : Unit) => r = 0) (fun (_ : Unit) t => va_P (dC, dI) vwCl [(h0, .inr (14, (((ck_2 ad)).set 18 (.int 0)).set 19 (.int 1)))] t.heap ∧ va_K (dC, dI) vwCl [] t ∧ va_D (va_A [(h0, .inr (14, (((ck_2 ad)).set 18 (.int 0)).set 19 (.int 1)))] sz) [(h0, .inr (14, (((ck_2 ad)).set 18 (.int 0)).set 19 (.int 1)))]) (va_A [(h0, .inr (14, (((ck_2 ad)).set 18 (.int 0)).set 19 (.int 1)))] sz)) 0 0 (va_A [(h0, .inr (14, (((ck_2 ad)).set 18 (.int 0)).set 19 (.int 1)))] sz) := by
  refine Met.ofW (cc := cX12_isThere) (maxL := 2) (ret := (some .boolean)) (by decide) rfl ?_
  intro p e s m args below meth c s₁ B hml hv
  obtain ⟨rfl, hsz, hP, hK, hD0⟩ := hv
  have hx := B.exec
  have hb := B.bytes
  have hr := B.returns
  have hts := atoms_spec (ws := vw_a_X12_isThere_1) B.pre
  have hown : s.vm.findClass RX12 = some m.cls := findClass_of_methodNamed B.named
  have hlocks := B.notSynchronized
  subst hsz
  have hD := hD0.self (sz := s.heap.size)
  generalize hAe : va_A [(h0, .inr (14, (((ck_2 ad)).set 18 (.int 0)).set 19 (.int 1)))] s.heap.size = A at hD ⊢
  have hA : ∀ q : Nat, s.heap.size ≤ q → A q := fun q h => by rw [← hAe]; exact Or.inr h
  have hS : va_S A s.heap s.heap [] := va_S.rf
  have hP : va_P (dC, dI) vwCl [(h0, .inr (14, (((ck_2 ad)).set 18 (.int 0)).set 19 (.int 1)))] s.heap := hP
  have hl := lv_entry ([.ref h0, .int 0]) (n := 2) (Nat.le_of_ble_eq_true rfl)
  rw [lg_entry_eq]
  generalize (lg_sl ([.ref h0, .int 0]) ++ List.replicate (2 - (lg_sl ([.ref h0, .int 0])).length) Slot.unset).toArray = ls at hl ⊢
  have hl : lv_has ls 2 [(0, .ref h0), (1, .int 0)] := hl
  have hwX12 : ∀ w ∈ wsX120, w ∈ vw_a_X12_isThere_1 := (fun w h => List.mem_append_right _ h)
  refine lv_iload_n hx hb dX12_isThere_0 rfl (lv_at hl 1 rfl) ?_
  refine lv_aload_n hx hb dX12_isThere_1 rfl (lv_at hl 0 rfl) ?_
  refine va_get (D := (dC, dI)) (ci := 14) (v := .int 0) (C := RX12) (T := TX12) (N := 151) hx hb hts hwX12 hown hK hP 0 rfl rfl 4 (Nat.le_of_ble_eq_true rfl) (hts (.fieldLink RX12 328 "ScriptTypesModel" "size" "I") (List.mem_of_getElem? (i := 1) (by decide +kernel))) (fun _ h9 => h9) rfl dX12_isThere_2 ?_
  refine lv_icmp_ge (tgt := 12) hx hb dX12_isThere_5 (by decide) (fun _ => ?_) (fun c1_5 => absurd (by decide) c1_5)
  refine lv_iconst (v := 0) hx hb dX12_isThere_12 (by decide) ?_
  exact W.zret (v := 0) hx hb hr rfl (fun t ht hW => ⟨⟨0, (), rfl, rfl, by rw [ht]; exact hP, va_K.moved hW.alike hK, hD⟩, hS.F ht⟩) hS.2.2 dX12_isThere_13

def vb_a_X12_skip_1 : List Cond := .code yX12_skip cX12_skip 4 (some .boolean) :: ([.fieldLink RX12 344 "ScriptTypesModel" "at" "I", .methodLink RX12 331 yX12_isThere, .instanceMethod yX12_isThere, .selects RX12 yX12_isThere yX12_isThere, .initialized RX12] ++ (vb_a_X12_isThere_1 ++ []))
def vw_a_X12_skip_1 : List Cond := vb_a_X12_skip_1 ++ wsX120
set_option maxRecDepth 20000 in
theorem vg_a_X12_skip_1_a_X12_isThere_1 : GoodIn vw_a_X12_skip_1 (wsV RX12 331 RX12 yX12_isThere vw_a_X12_isThere_1) := goodIn_app (goodIn_of _ (by decide +kernel)) (goodIn_sub (v_sub (fun w h => List.mem_cons_of_mem _ (List.mem_append_right _ (List.mem_append_left _ (h))))) (by decide +kernel))
set_option maxHeartbeats 8000000 in
set_option maxRecDepth 100000 in
theorem a_X12_skip_1 (l : Launch) (dC : Nat → ClassId) (dI : Nat → Nat → Nat) (sz : Nat) (h0 aS aV : Nat) (ad : Nat → Nat) (c4 : ClassId) (f4 : Nat → Int32) (c2 : ClassId) (f2 : Nat → Int32) (c3 : ClassId) (f3 : Nat → Int32) (c5 : ClassId) (f5 : Nat → Int32) (c7 : ClassId) (f7 : Nat → Int32) (c8 : ClassId) (f8 : Nat → Int32) (c9 : ClassId) (f9 : Nat → Int32) (c14 : ClassId) (f14 : Nat → Int32) (c23 : ClassId) (f23 : Nat → Int32) (c21 : ClassId) (f21 : Nat → Int32) (c25 : ClassId) (f25 : Nat → Int32) (c26 : ClassId) (f26 : Nat → Int32) (c27 : ClassId) (f27 : Nat → Int32) (c28 : ClassId) (f28 : Nat → Int32) (c29 : ClassId) (f29 : Nat → Int32) : Met l yX12_skip vw_a_X12_skip_1 ({ frames := 1, cells := 0, slots := 0, locals := 21 }) (va_Pc [.ref h0] (fun U => U.heap.size = sz ∧ va_P (dC, dI) vwCl [(h0, .inr (14, (((ck_2 ad)).set 18 (.int 0)).set 19 (.int 1)))] U.heap ∧ va_K (dC, dI) vwCl [] U ∧ va_D (fun _ => True) [(h0, .inr (14, (((ck_2 ad)).set 18 (.int 0)).set 19 (.int 1)))])) (va_Qi (fun (r : Int32) (_ : Unit) => r = 1) (fun (_ : Unit) t => va_P (dC, dI) vwCl [(h0, .inr (14, (((ck_2 ad)).set 18 (.int 0)).set 19 (.int 1)))] t.heap ∧ va_K (dC, dI) vwCl [] t ∧ va_D (va_A [(h0, .inr (14, (((ck_2 ad)).set 18 (.int 0)).set 19 (.int 1)))] sz) [(h0, .inr (14, (((ck_2 ad)).set 18 (.int 0)).set 19 (.int 1)))]) (va_A [(h0, .inr (14, (((ck_2 ad)).set 18 (.int 0)).set 19 (.int 1)))] sz)) 0 0 (va_A [(h0, .inr (14, (((ck_2 ad)).set 18 (.int 0)).set 19 (.int 1)))] sz) := by
  refine Met.ofW (cc := cX12_skip) (maxL := 4) (ret := (some .boolean)) (by decide) rfl ?_
  intro p e s m args below meth c s₁ B hml hv
  obtain ⟨rfl, hsz, hP, hK, hD0⟩ := hv
  have hx := B.exec
  have hb := B.bytes
  have hr := B.returns
  have hts := atoms_spec (ws := vw_a_X12_skip_1) B.pre
  have hown : s.vm.findClass RX12 = some m.cls := findClass_of_methodNamed B.named
  have hlocks := B.notSynchronized
  subst hsz
  have hD := hD0.self (sz := s.heap.size)
  generalize hAe : va_A [(h0, .inr (14, (((ck_2 ad)).set 18 (.int 0)).set 19 (.int 1)))] s.heap.size = A at hD ⊢
  have hA : ∀ q : Nat, s.heap.size ≤ q → A q := fun q h => by rw [← hAe]; exact Or.inr h
  have hS : va_S A s.heap s.heap [] := va_S.rf
  have hP : va_P (dC, dI) vwCl [(h0, .inr (14, (((ck_2 ad)).set 18 (.int 0)).set 19 (.int 1)))] s.heap := hP
  have hl := lv_entry ([.ref h0]) (n := 4) (Nat.le_of_ble_eq_true rfl)
  rw [lg_entry_eq]
  generalize (lg_sl ([.ref h0]) ++ List.replicate (4 - (lg_sl ([.ref h0])).length) Slot.unset).toArray = ls at hl ⊢
  have hl : lv_has ls 4 [(0, .ref h0)] := hl
  have hwX12 : ∀ w ∈ wsX120, w ∈ vw_a_X12_skip_1 := (fun w h => List.mem_append_right _ h)
  refine lv_iconst (v := 1) hx hb dX12_skip_0 (by decide) ?_
  refine lv_istore_n (lv' := [(1, .int 1), (0, .ref h0)]) hx hb dX12_skip_1 rfl hl (by decide) rfl (fun ls hl => ?_)
  refine lv_iload_n hx hb dX12_skip_2 rfl (lv_at hl 0 rfl) ?_
  refine lv_if_eq (tgt := 267) hx hb dX12_skip_3 (by decide) (fun c1_3 => absurd c1_3 (by decide)) (fun _ => ?_)
  refine lv_aload_n hx hb dX12_skip_6 rfl (lv_at hl 1 rfl) ?_
  refine lv_aload_n hx hb dX12_skip_7 rfl (lv_at hl 1 rfl) ?_
  refine va_get (D := (dC, dI)) (ci := 14) (v := .int 0) (C := RX12) (T := TX12) (N := 151) hx hb hts hwX12 hown hK hP 0 rfl rfl 18 (Nat.le_of_ble_eq_true rfl) (hts (.fieldLink RX12 344 "ScriptTypesModel" "at" "I") (List.mem_of_getElem? (i := 1) (by decide +kernel))) (fun _ h9 => h9) rfl dX12_skip_8 ?_
  have hPc := hP.sub (ws' := [(h0, .inr (14, (((ck_2 ad)).set 18 (.int 0)).set 19 (.int 1)))]) [0] rfl
  have hDc := hD.sub (ws' := [(h0, .inr (14, (((ck_2 ad)).set 18 (.int 0)).set 19 (.int 1)))]) [0] (by decide) rfl
  have hKc := hK.sub (tys' := []) [] rfl
  have hFc := va_free (wc := [(h0, .inr (14, (((ck_2 ad)).set 18 (.int 0)).set 19 (.int 1)))]) hD hS hA [0] rfl
  refine va_calli (va_runV (As := [.int 0]) (rest := []) ⟨hx, hb, hml, hown, hts⟩ (a_X12_isThere_1 l dC dI s.heap.size h0 aS aV ad c4 f4 c2 f2 c3 f3 c5 f5 c7 f7 c8 f8 c9 f9 c14 f14 c23 f23 c21 f21 c25 f25 c26 f26 c27 f27 c28 f28 c29 f29) (cwV 1 hts vg_a_X12_skip_1_a_X12_isThere_1 rfl rfl rfl (by decide +kernel) ⟨Nat.le_of_ble_eq_true rfl, Nat.le_of_ble_eq_true rfl⟩) ⟨fun a U g mk q => by obtain ⟨q0, q1, qP, qK, qD⟩ := q; exact ⟨q0, q1, qP, va_K.moved (u := U) (U := U.calling g mk a) (Vm.Alike.refl U.vm) qK, qD⟩, va_recv hKc hPc (ci := 14) (q0 := 0) rfl rfl, fun U hU hW => ⟨rfl, by rw [hU], by rw [hU]; exact hPc, va_K.moved hW.alike hKc, hDc.weaken (fun _ _ _ _ => trivial)⟩⟩ rfl rfl hl.1 rfl (lv_room (Nat.le_of_ble_eq_true rfl)) dX12_skip_11 ⟨Nat.le_of_ble_eq_true rfl, Nat.le_of_ble_eq_true rfl⟩) hS (fun q _ h => hFc q h) hFc (fun r_2 u t H1 locs ht hvm hw hB hz1 hk1 hS => ?_)
  obtain ⟨hP1, hK1, hD1⟩ := hB
  rw [ht] at hP1
  have hK1 := va_K.moved hvm.symm hK1
  try dsimp only at hw
  obtain ⟨hP, hD⟩ := va_join (wr := []) (w1 := [(h0, .inr (14, (((ck_2 ad)).set 18 (.int 0)).set 19 (.int 1)))]) hP hD [0] [] rfl rfl (by decide) (by decide) hk1 hFc hP1 hD1
  generalize H1 = H at hP hS ⊢
  have hP : va_P (dC, dI) vwCl [(h0, .inr (14, (((ck_2 ad)).set 18 (.int 0)).set 19 (.int 1)))] H := hP
  have hD : va_D A [(h0, .inr (14, (((ck_2 ad)).set 18 (.int 0)).set 19 (.int 1)))] := hD
  obtain rfl : r_2 = 0 := hw
  refine lv_if_eq (tgt := 267) hx hb dX12_skip_14 (by decide) (fun _ => ?_) (fun c3_14 => absurd (by decide) c3_14)
  refine lv_iconst (v := 1) hx hb dX12_skip_267 (by decide) ?_
  exact W.zret (v := 1) hx hb hr rfl (fun t ht hW => ⟨⟨1, (), rfl, rfl, by rw [ht]; exact hP, va_K.moved hW.alike hK, hD⟩, hS.F ht⟩) hS.2.2 dX12_skip_268

def vb_a_X12_isThere_2 : List Cond := .code yX12_isThere cX12_isThere 2 (some .boolean) :: ([.fieldLink RX12 328 "ScriptTypesModel" "size" "I"] ++ [])
def vw_a_X12_isThere_2 : List Cond := vb_a_X12_isThere_2 ++ wsX120
set_option maxHeartbeats 8000000 in
set_option maxRecDepth 100000 in
theorem a_X12_isThere_2 (l : Launch) (dC : Nat → ClassId) (dI : Nat → Nat → Nat) (sz : Nat) (h0 aS aV : Nat) (ad : Nat → Nat) (c4 : ClassId) (f4 : Nat → Int32) (c2 : ClassId) (f2 : Nat → Int32) (c3 : ClassId) (f3 : Nat → Int32) (c5 : ClassId) (f5 : Nat → Int32) (c7 : ClassId) (f7 : Nat → Int32) (c8 : ClassId) (f8 : Nat → Int32) (c9 : ClassId) (f9 : Nat → Int32) (c14 : ClassId) (f14 : Nat → Int32) (c23 : ClassId) (f23 : Nat → Int32) (c21 : ClassId) (f21 : Nat → Int32) (c25 : ClassId) (f25 : Nat → Int32) (c26 : ClassId) (f26 : Nat → Int32) (c27 : ClassId) (f27 : Nat → Int32) (c28 : ClassId) (f28 : Nat → Int32) (c29 : ClassId) (f29 : Nat → Int32) : Met l yX12_isThere vw_a_X12_isThere_2 ({ frames := 0, cells := 0, slots := 0, locals := 0 }) (va_Pc [.ref h0, .int 0] (fun U => U.heap.size = sz ∧ va_P (dC, dI) vwCl [(h0, .inr (14, (((ck_2 ad)).set 18 (.int 0)).set 19 (.int 1)))] U.heap ∧ va_K (dC, dI) vwCl [] U ∧ va_D (fun _ => True) [(h0, .inr (14, (((ck_2 ad)).set 18 (.int 0)).set 19 (.int 1)))])) (va_Qi (fun (r : Int32) (_ : Unit) => r = 0) (fun (_ : Unit) t => va_P (dC, dI) vwCl [(h0, .inr (14, (((ck_2 ad)).set 18 (.int 0)).set 19 (.int 1)))] t.heap ∧ va_K (dC, dI) vwCl [] t ∧ va_D (va_A [(h0, .inr (14, (((ck_2 ad)).set 18 (.int 0)).set 19 (.int 1)))] sz) [(h0, .inr (14, (((ck_2 ad)).set 18 (.int 0)).set 19 (.int 1)))]) (va_A [(h0, .inr (14, (((ck_2 ad)).set 18 (.int 0)).set 19 (.int 1)))] sz)) 0 0 (va_A [(h0, .inr (14, (((ck_2 ad)).set 18 (.int 0)).set 19 (.int 1)))] sz) := by
  refine Met.ofW (cc := cX12_isThere) (maxL := 2) (ret := (some .boolean)) (by decide) rfl ?_
  intro p e s m args below meth c s₁ B hml hv
  obtain ⟨rfl, hsz, hP, hK, hD0⟩ := hv
  have hx := B.exec
  have hb := B.bytes
  have hr := B.returns
  have hts := atoms_spec (ws := vw_a_X12_isThere_2) B.pre
  have hown : s.vm.findClass RX12 = some m.cls := findClass_of_methodNamed B.named
  have hlocks := B.notSynchronized
  subst hsz
  have hD := hD0.self (sz := s.heap.size)
  generalize hAe : va_A [(h0, .inr (14, (((ck_2 ad)).set 18 (.int 0)).set 19 (.int 1)))] s.heap.size = A at hD ⊢
  have hA : ∀ q : Nat, s.heap.size ≤ q → A q := fun q h => by rw [← hAe]; exact Or.inr h
  have hS : va_S A s.heap s.heap [] := va_S.rf
  have hP : va_P (dC, dI) vwCl [(h0, .inr (14, (((ck_2 ad)).set 18 (.int 0)).set 19 (.int 1)))] s.heap := hP
  have hl := lv_entry ([.ref h0, .int 0]) (n := 2) (Nat.le_of_ble_eq_true rfl)
  rw [lg_entry_eq]
  generalize (lg_sl ([.ref h0, .int 0]) ++ List.replicate (2 - (lg_sl ([.ref h0, .int 0])).length) Slot.unset).toArray = ls at hl ⊢
  have hl : lv_has ls 2 [(0, .ref h0), (1, .int 0)] := hl
  have hwX12 : ∀ w ∈ wsX120, w ∈ vw_a_X12_isThere_2 := (fun w h => List.mem_append_right _ h)
  refine lv_iload_n hx hb dX12_isThere_0 rfl (lv_at hl 1 rfl) ?_
  refine lv_aload_n hx hb dX12_isThere_1 rfl (lv_at hl 0 rfl) ?_
  refine va_get (D := (dC, dI)) (ci := 14) (v := .int 0) (C := RX12) (T := TX12) (N := 151) hx hb hts hwX12 hown hK hP 0 rfl rfl 4 (Nat.le_of_ble_eq_true rfl) (hts (.fieldLink RX12 328 "ScriptTypesModel" "size" "I") (List.mem_of_getElem? (i := 1) (by decide +kernel))) (fun _ h9 => h9) rfl dX12_isThere_2 ?_
  refine lv_icmp_ge (tgt := 12) hx hb dX12_isThere_5 (by decide) (fun _ => ?_) (fun c1_5 => absurd (by decide) c1_5)
  refine lv_iconst (v := 0) hx hb dX12_isThere_12 (by decide) ?_
  exact W.zret (v := 0) hx hb hr rfl (fun t ht hW => ⟨⟨0, (), rfl, rfl, by rw [ht]; exact hP, va_K.moved hW.alike hK, hD⟩, hS.F ht⟩) hS.2.2 dX12_isThere_13

def vb_a_X12_cut_1 : List Cond := .code yX12_cut cX12_cut 3 none :: ([.fieldLink RX12 350 "ScriptTypesModel" "tokens" "I", .fieldLink RX12 344 "ScriptTypesModel" "at" "I", .fieldLink RX12 347 "ScriptTypesModel" "lineNow" "I", .methodLink RX12 353 yX12_skip, .instanceMethod yX12_skip, .selects RX12 yX12_skip yX12_skip, .initialized RX12, .fieldLink RX12 33 "ScriptTypesModel" "from" "[I", .fieldLink RX12 39 "ScriptTypesModel" "line" "[I", .methodLink RX12 331 yX12_isThere, .instanceMethod yX12_isThere, .selects RX12 yX12_isThere yX12_isThere, .fieldLink RX12 27 "ScriptTypesModel" "kind" "[I", .fieldLink RX12 36 "ScriptTypesModel" "until" "[I"] ++ (vb_a_X12_skip_1 ++ (vb_a_X12_isThere_2 ++ [])))
def vw_a_X12_cut_1 : List Cond := vb_a_X12_cut_1 ++ wsX120
set_option maxRecDepth 20000 in
theorem vg_a_X12_cut_1_a_X12_skip_1 : GoodIn vw_a_X12_cut_1 (wsV RX12 353 RX12 yX12_skip vw_a_X12_skip_1) := goodIn_app (goodIn_of _ (by decide +kernel)) (goodIn_sub (v_sub (fun w h => List.mem_cons_of_mem _ (List.mem_append_right _ (List.mem_append_left _ (h))))) (by decide +kernel))
set_option maxRecDepth 20000 in
theorem vg_a_X12_cut_1_a_X12_isThere_2 : GoodIn vw_a_X12_cut_1 (wsV RX12 331 RX12 yX12_isThere vw_a_X12_isThere_2) := goodIn_app (goodIn_of _ (by decide +kernel)) (goodIn_sub (v_sub (fun w h => List.mem_cons_of_mem _ (List.mem_append_right _ (List.mem_append_right _ (List.mem_append_left _ (h)))))) (by decide +kernel))
set_option maxHeartbeats 8000000 in
set_option maxRecDepth 100000 in
theorem a_X12_cut_1 (l : Launch) (dC : Nat → ClassId) (dI : Nat → Nat → Nat) (sz : Nat) (h0 aS aV : Nat) (ad : Nat → Nat) (c4 : ClassId) (f4 : Nat → Int32) (c2 : ClassId) (f2 : Nat → Int32) (c3 : ClassId) (f3 : Nat → Int32) (c5 : ClassId) (f5 : Nat → Int32) (c7 : ClassId) (f7 : Nat → Int32) (c8 : ClassId) (f8 : Nat → Int32) (c9 : ClassId) (f9 : Nat → Int32) (c14 : ClassId) (f14 : Nat → Int32) (c23 : ClassId) (f23 : Nat → Int32) (c21 : ClassId) (f21 : Nat → Int32) (c25 : ClassId) (f25 : Nat → Int32) (c26 : ClassId) (f26 : Nat → Int32) (c27 : ClassId) (f27 : Nat → Int32) (c28 : ClassId) (f28 : Nat → Int32) (c29 : ClassId) (f29 : Nat → Int32) : Met l yX12_cut vw_a_X12_cut_1 ({ frames := 2, cells := 0, slots := 0, locals := 44 }) (va_Pc [.ref h0] (fun U => U.heap.size = sz ∧ va_P (dC, dI) vwCl [(h0, .inr (14, (fz (ck_1 ad) 31 0))), ((ad 5), .inl (c5, 4002, .inl f5)), ((ad 7), .inl (c7, 4002, .inl f7)), ((ad 8), .inl (c8, 4002, .inl f8)), ((ad 9), .inl (c9, 4002, .inl f9))] U.heap ∧ va_K (dC, dI) vwCl [(c5, .int), (c7, .int), (c8, .int), (c9, .int)] U ∧ va_D (fun _ => True) [(h0, .inr (14, (fz (ck_1 ad) 31 0))), ((ad 5), .inl (c5, 4002, .inl f5)), ((ad 7), .inl (c7, 4002, .inl f7)), ((ad 8), .inl (c8, 4002, .inl f8)), ((ad 9), .inl (c9, 4002, .inl f9))])) (va_Qv (fun _ : Unit => True) (fun (_ : Unit) t => va_P (dC, dI) vwCl [((ad 5), .inl (c5, 4002, .inl (upd f5 (0 : Int32).toNatClampNeg 0))), ((ad 7), .inl (c7, 4002, .inl (upd f7 (0 : Int32).toNatClampNeg 0))), ((ad 8), .inl (c8, 4002, .inl (upd f8 (0 : Int32).toNatClampNeg 0))), ((ad 9), .inl (c9, 4002, .inl (upd f9 (0 : Int32).toNatClampNeg 1))), (h0, .inr (14, ((((ck_2 ad)).set 18 (.int 0)).set 19 (.int 1)).set 12 (.int 1)))] t.heap ∧ va_K (dC, dI) vwCl [(c5, .int), (c7, .int), (c8, .int), (c9, .int)] t ∧ va_D (va_A [(h0, .inr (14, (fz (ck_1 ad) 31 0))), ((ad 5), .inl (c5, 4002, .inl f5)), ((ad 7), .inl (c7, 4002, .inl f7)), ((ad 8), .inl (c8, 4002, .inl f8)), ((ad 9), .inl (c9, 4002, .inl f9))] sz) [((ad 5), .inl (c5, 4002, .inl (upd f5 (0 : Int32).toNatClampNeg 0))), ((ad 7), .inl (c7, 4002, .inl (upd f7 (0 : Int32).toNatClampNeg 0))), ((ad 8), .inl (c8, 4002, .inl (upd f8 (0 : Int32).toNatClampNeg 0))), ((ad 9), .inl (c9, 4002, .inl (upd f9 (0 : Int32).toNatClampNeg 1))), (h0, .inr (14, ((((ck_2 ad)).set 18 (.int 0)).set 19 (.int 1)).set 12 (.int 1)))]) (va_A [(h0, .inr (14, (fz (ck_1 ad) 31 0))), ((ad 5), .inl (c5, 4002, .inl f5)), ((ad 7), .inl (c7, 4002, .inl f7)), ((ad 8), .inl (c8, 4002, .inl f8)), ((ad 9), .inl (c9, 4002, .inl f9))] sz)) 0 0 (va_A [(h0, .inr (14, (fz (ck_1 ad) 31 0))), ((ad 5), .inl (c5, 4002, .inl f5)), ((ad 7), .inl (c7, 4002, .inl f7)), ((ad 8), .inl (c8, 4002, .inl f8)), ((ad 9), .inl (c9, 4002, .inl f9))] sz) := by
  refine Met.ofW (cc := cX12_cut) (maxL := 3) (ret := none) (by decide) rfl ?_
  intro p e s m args below meth c s₁ B hml hv
  obtain ⟨rfl, hsz, hP, hK, hD0⟩ := hv
  have hx := B.exec
  have hb := B.bytes
  have hr := B.returns
  have hts := atoms_spec (ws := vw_a_X12_cut_1) B.pre
  have hown : s.vm.findClass RX12 = some m.cls := findClass_of_methodNamed B.named
  have hlocks := B.notSynchronized
  subst hsz
  have hD := hD0.self (sz := s.heap.size)
  generalize hAe : va_A [(h0, .inr (14, (fz (ck_1 ad) 31 0))), ((ad 5), .inl (c5, 4002, .inl f5)), ((ad 7), .inl (c7, 4002, .inl f7)), ((ad 8), .inl (c8, 4002, .inl f8)), ((ad 9), .inl (c9, 4002, .inl f9))] s.heap.size = A at hD ⊢
  have hA : ∀ q : Nat, s.heap.size ≤ q → A q := fun q h => by rw [← hAe]; exact Or.inr h
  have hS : va_S A s.heap s.heap [] := va_S.rf
  have hP : va_P (dC, dI) vwCl [(h0, .inr (14, (fz (ck_1 ad) 31 0))), ((ad 5), .inl (c5, 4002, .inl f5)), ((ad 7), .inl (c7, 4002, .inl f7)), ((ad 8), .inl (c8, 4002, .inl f8)), ((ad 9), .inl (c9, 4002, .inl f9))] s.heap := hP
  have hl := lv_entry ([.ref h0]) (n := 3) (Nat.le_of_ble_eq_true rfl)
  rw [lg_entry_eq]
  generalize (lg_sl ([.ref h0]) ++ List.replicate (3 - (lg_sl ([.ref h0])).length) Slot.unset).toArray = ls at hl ⊢
  have hl : lv_has ls 3 [(0, .ref h0)] := hl
  have hwX12 : ∀ w ∈ wsX120, w ∈ vw_a_X12_cut_1 := (fun w h => List.mem_append_right _ h)
  refine lv_aload_n hx hb dX12_cut_0 rfl (lv_at hl 0 rfl) ?_
  refine lv_iconst (v := 0) hx hb dX12_cut_1 (by decide) ?_
  refine va_put (D := (dC, dI)) (ci := 14) (v := .int 0) (ty := tyX12 12) (C := RX12) (T := TX12) (N := 151) hx hb hts hwX12 tyX12 tyX12_ok nmX12 hown hK hP hD hS 0 rfl rfl 12 (Nat.le_of_ble_eq_true rfl) (hts (.fieldLink RX12 350 "ScriptTypesModel" "tokens" "I") (List.mem_of_getElem? (i := 1) (by decide +kernel))) (fun _ h9 => h9) rfl (tyX12_ok 12 (Nat.le_of_ble_eq_true rfl)) rfl rfl (Nat.le_of_ble_eq_true rfl) dX12_cut_2 (fun H locs hP hD hS => ?_)
  have hP : va_P (dC, dI) vwCl [(h0, .inr (14, (ck_2 ad))), ((ad 5), .inl (c5, 4002, .inl f5)), ((ad 7), .inl (c7, 4002, .inl f7)), ((ad 8), .inl (c8, 4002, .inl f8)), ((ad 9), .inl (c9, 4002, .inl f9))] H := hP
  have hD : va_D A [(h0, .inr (14, (ck_2 ad))), ((ad 5), .inl (c5, 4002, .inl f5)), ((ad 7), .inl (c7, 4002, .inl f7)), ((ad 8), .inl (c8, 4002, .inl f8)), ((ad 9), .inl (c9, 4002, .inl f9))] := hD
  refine lv_aload_n hx hb dX12_cut_5 rfl (lv_at hl 0 rfl) ?_
  refine lv_iconst (v := 0) hx hb dX12_cut_6 (by decide) ?_
  refine va_put (D := (dC, dI)) (ci := 14) (v := .int 0) (ty := tyX12 18) (C := RX12) (T := TX12) (N := 151) hx hb hts hwX12 tyX12 tyX12_ok nmX12 hown hK hP hD hS 0 rfl rfl 18 (Nat.le_of_ble_eq_true rfl) (hts (.fieldLink RX12 344 "ScriptTypesModel" "at" "I") (List.mem_of_getElem? (i := 2) (by decide +kernel))) (fun _ h9 => h9) rfl (tyX12_ok 18 (Nat.le_of_ble_eq_true rfl)) rfl rfl (Nat.le_of_ble_eq_true rfl) dX12_cut_7 (fun H locs hP hD hS => ?_)
  have hP : va_P (dC, dI) vwCl [(h0, .inr (14, ((ck_2 ad)).set 18 (.int 0))), ((ad 5), .inl (c5, 4002, .inl f5)), ((ad 7), .inl (c7, 4002, .inl f7)), ((ad 8), .inl (c8, 4002, .inl f8)), ((ad 9), .inl (c9, 4002, .inl f9))] H := hP
  have hD : va_D A [(h0, .inr (14, ((ck_2 ad)).set 18 (.int 0))), ((ad 5), .inl (c5, 4002, .inl f5)), ((ad 7), .inl (c7, 4002, .inl f7)), ((ad 8), .inl (c8, 4002, .inl f8)), ((ad 9), .inl (c9, 4002, .inl f9))] := hD
  refine lv_aload_n hx hb dX12_cut_10 rfl (lv_at hl 0 rfl) ?_
  refine lv_iconst (v := 1) hx hb dX12_cut_11 (by decide) ?_
  refine va_put (D := (dC, dI)) (ci := 14) (v := .int 1) (ty := tyX12 19) (C := RX12) (T := TX12) (N := 151) hx hb hts hwX12 tyX12 tyX12_ok nmX12 hown hK hP hD hS 0 rfl rfl 19 (Nat.le_of_ble_eq_true rfl) (hts (.fieldLink RX12 347 "ScriptTypesModel" "lineNow" "I") (List.mem_of_getElem? (i := 3) (by decide +kernel))) (fun _ h9 => h9) rfl (tyX12_ok 19 (Nat.le_of_ble_eq_true rfl)) rfl rfl (Nat.le_of_ble_eq_true rfl) dX12_cut_12 (fun H locs hP hD hS => ?_)
  have hP : va_P (dC, dI) vwCl [(h0, .inr (14, (((ck_2 ad)).set 18 (.int 0)).set 19 (.int 1))), ((ad 5), .inl (c5, 4002, .inl f5)), ((ad 7), .inl (c7, 4002, .inl f7)), ((ad 8), .inl (c8, 4002, .inl f8)), ((ad 9), .inl (c9, 4002, .inl f9))] H := hP
  have hD : va_D A [(h0, .inr (14, (((ck_2 ad)).set 18 (.int 0)).set 19 (.int 1))), ((ad 5), .inl (c5, 4002, .inl f5)), ((ad 7), .inl (c7, 4002, .inl f7)), ((ad 8), .inl (c8, 4002, .inl f8)), ((ad 9), .inl (c9, 4002, .inl f9))] := hD
  refine lv_iconst (v := 1) hx hb dX12_cut_15 (by decide) ?_
  refine lv_istore_n (lv' := [(1, .int 1), (0, .ref h0)]) hx hb dX12_cut_16 rfl hl (by decide) rfl (fun ls hl => ?_)
  refine lv_iload_n hx hb dX12_cut_17 rfl (lv_at hl 0 rfl) ?_
  refine lv_if_eq (tgt := 156) hx hb dX12_cut_18 (by decide) (fun c1_18 => absurd c1_18 (by decide)) (fun _ => ?_)
  refine lv_aload_n hx hb dX12_cut_21 rfl (lv_at hl 1 rfl) ?_
  have hPc := hP.sub (ws' := [(h0, .inr (14, (((ck_2 ad)).set 18 (.int 0)).set 19 (.int 1)))]) [0] rfl
  have hDc := hD.sub (ws' := [(h0, .inr (14, (((ck_2 ad)).set 18 (.int 0)).set 19 (.int 1)))]) [0] (by decide) rfl
  have hKc := hK.sub (tys' := []) [] rfl
  have hFc := va_free (wc := [(h0, .inr (14, (((ck_2 ad)).set 18 (.int 0)).set 19 (.int 1)))]) hD hS hA [0] rfl
  refine va_calli (va_runV (As := []) (rest := []) ⟨hx, hb, hml, hown, hts⟩ (a_X12_skip_1 l dC dI H.size h0 aS aV ad c4 f4 c2 f2 c3 f3 c5 f5 c7 f7 c8 f8 c9 f9 c14 f14 c23 f23 c21 f21 c25 f25 c26 f26 c27 f27 c28 f28 c29 f29) (cwV 0 hts vg_a_X12_cut_1_a_X12_skip_1 rfl rfl rfl (by decide +kernel) ⟨Nat.le_of_ble_eq_true rfl, Nat.le_of_ble_eq_true rfl⟩) ⟨fun a U g mk q => by obtain ⟨q0, q1, qP, qK, qD⟩ := q; exact ⟨q0, q1, qP, va_K.moved (u := U) (U := U.calling g mk a) (Vm.Alike.refl U.vm) qK, qD⟩, va_recv hKc hPc (ci := 14) (q0 := 0) rfl rfl, fun U hU hW => ⟨rfl, by rw [hU], by rw [hU]; exact hPc, va_K.moved hW.alike hKc, hDc.weaken (fun _ _ _ _ => trivial)⟩⟩ rfl rfl hl.1 rfl (lv_room (Nat.le_of_ble_eq_true rfl)) dX12_cut_22 ⟨Nat.le_of_ble_eq_true rfl, Nat.le_of_ble_eq_true rfl⟩) hS (fun q _ h => hFc q h) hFc (fun r_2 u t H1 locs ht hvm hw hB hz1 hk1 hS => ?_)
  obtain ⟨hP1, hK1, hD1⟩ := hB
  rw [ht] at hP1
  have hK1 := va_K.moved hvm.symm hK1
  try dsimp only at hw
  obtain ⟨hP, hD⟩ := va_join (wr := [((ad 5), .inl (c5, 4002, .inl f5)), ((ad 7), .inl (c7, 4002, .inl f7)), ((ad 8), .inl (c8, 4002, .inl f8)), ((ad 9), .inl (c9, 4002, .inl f9))]) (w1 := [(h0, .inr (14, (((ck_2 ad)).set 18 (.int 0)).set 19 (.int 1)))]) hP hD [0] [1, 2, 3, 4] rfl rfl (by decide) (by decide) hk1 hFc hP1 hD1
  generalize H1 = H at hP hS ⊢
  have hP : va_P (dC, dI) vwCl [((ad 5), .inl (c5, 4002, .inl f5)), ((ad 7), .inl (c7, 4002, .inl f7)), ((ad 8), .inl (c8, 4002, .inl f8)), ((ad 9), .inl (c9, 4002, .inl f9)), (h0, .inr (14, (((ck_2 ad)).set 18 (.int 0)).set 19 (.int 1)))] H := hP
  have hD : va_D A [((ad 5), .inl (c5, 4002, .inl f5)), ((ad 7), .inl (c7, 4002, .inl f7)), ((ad 8), .inl (c8, 4002, .inl f8)), ((ad 9), .inl (c9, 4002, .inl f9)), (h0, .inr (14, (((ck_2 ad)).set 18 (.int 0)).set 19 (.int 1)))] := hD
  obtain rfl : r_2 = 1 := hw
  refine lv_istore_n (lv' := [(2, .int 1), (1, .int 1), (0, .ref h0)]) hx hb dX12_cut_25 rfl hl (by decide) rfl (fun ls hl => ?_)
  refine lv_aload_n hx hb dX12_cut_26 rfl (lv_at hl 2 rfl) ?_
  refine va_get (D := (dC, dI)) (ci := 14) (v := .ref (ad 7)) (C := RX12) (T := TX12) (N := 151) hx hb hts hwX12 hown hK hP 4 rfl rfl 15 (Nat.le_of_ble_eq_true rfl) (hts (.fieldLink RX12 33 "ScriptTypesModel" "from" "[I") (List.mem_of_getElem? (i := 8) (by decide +kernel))) (fun _ h9 => h9) rfl dX12_cut_27 ?_
  refine lv_aload_n hx hb dX12_cut_30 rfl (lv_at hl 2 rfl) ?_
  refine va_get (D := (dC, dI)) (ci := 14) (v := .int 0) (C := RX12) (T := TX12) (N := 151) hx hb hts hwX12 hown hK hP 4 rfl rfl 12 (Nat.le_of_ble_eq_true rfl) (hts (.fieldLink RX12 350 "ScriptTypesModel" "tokens" "I") (List.mem_of_getElem? (i := 1) (by decide +kernel))) (fun _ h9 => h9) rfl dX12_cut_31 ?_
  refine lv_aload_n hx hb dX12_cut_34 rfl (lv_at hl 2 rfl) ?_
  refine va_get (D := (dC, dI)) (ci := 14) (v := .int 0) (C := RX12) (T := TX12) (N := 151) hx hb hts hwX12 hown hK hP 4 rfl rfl 18 (Nat.le_of_ble_eq_true rfl) (hts (.fieldLink RX12 344 "ScriptTypesModel" "at" "I") (List.mem_of_getElem? (i := 2) (by decide +kernel))) (fun _ h9 => h9) rfl dX12_cut_35 ?_
  refine va_iast hx hb hK hP hD hS 1 1 rfl rfl (show ¬ ((0 : Int32) < 0 ∨ 4002 ≤ (0 : Int32).toNatClampNeg) by decide) dX12_cut_38 (fun H locs hP hD hS => ?_)
  have hP : va_P (dC, dI) vwCl [((ad 5), .inl (c5, 4002, .inl f5)), ((ad 7), .inl (c7, 4002, .inl (upd f7 (0 : Int32).toNatClampNeg 0))), ((ad 8), .inl (c8, 4002, .inl f8)), ((ad 9), .inl (c9, 4002, .inl f9)), (h0, .inr (14, (((ck_2 ad)).set 18 (.int 0)).set 19 (.int 1)))] H := hP
  have hD : va_D A [((ad 5), .inl (c5, 4002, .inl f5)), ((ad 7), .inl (c7, 4002, .inl (upd f7 (0 : Int32).toNatClampNeg 0))), ((ad 8), .inl (c8, 4002, .inl f8)), ((ad 9), .inl (c9, 4002, .inl f9)), (h0, .inr (14, (((ck_2 ad)).set 18 (.int 0)).set 19 (.int 1)))] := hD
  refine lv_aload_n hx hb dX12_cut_39 rfl (lv_at hl 2 rfl) ?_
  refine va_get (D := (dC, dI)) (ci := 14) (v := .ref (ad 9)) (C := RX12) (T := TX12) (N := 151) hx hb hts hwX12 hown hK hP 4 rfl rfl 17 (Nat.le_of_ble_eq_true rfl) (hts (.fieldLink RX12 39 "ScriptTypesModel" "line" "[I") (List.mem_of_getElem? (i := 9) (by decide +kernel))) (fun _ h9 => h9) rfl dX12_cut_40 ?_
  refine lv_aload_n hx hb dX12_cut_43 rfl (lv_at hl 2 rfl) ?_
  refine va_get (D := (dC, dI)) (ci := 14) (v := .int 0) (C := RX12) (T := TX12) (N := 151) hx hb hts hwX12 hown hK hP 4 rfl rfl 12 (Nat.le_of_ble_eq_true rfl) (hts (.fieldLink RX12 350 "ScriptTypesModel" "tokens" "I") (List.mem_of_getElem? (i := 1) (by decide +kernel))) (fun _ h9 => h9) rfl dX12_cut_44 ?_
  refine lv_aload_n hx hb dX12_cut_47 rfl (lv_at hl 2 rfl) ?_
  refine va_get (D := (dC, dI)) (ci := 14) (v := .int 1) (C := RX12) (T := TX12) (N := 151) hx hb hts hwX12 hown hK hP 4 rfl rfl 19 (Nat.le_of_ble_eq_true rfl) (hts (.fieldLink RX12 347 "ScriptTypesModel" "lineNow" "I") (List.mem_of_getElem? (i := 3) (by decide +kernel))) (fun _ h9 => h9) rfl dX12_cut_48 ?_
  refine va_iast hx hb hK hP hD hS 3 3 rfl rfl (show ¬ ((0 : Int32) < 0 ∨ 4002 ≤ (0 : Int32).toNatClampNeg) by decide) dX12_cut_51 (fun H locs hP hD hS => ?_)
  have hP : va_P (dC, dI) vwCl [((ad 5), .inl (c5, 4002, .inl f5)), ((ad 7), .inl (c7, 4002, .inl (upd f7 (0 : Int32).toNatClampNeg 0))), ((ad 8), .inl (c8, 4002, .inl f8)), ((ad 9), .inl (c9, 4002, .inl (upd f9 (0 : Int32).toNatClampNeg 1))), (h0, .inr (14, (((ck_2 ad)).set 18 (.int 0)).set 19 (.int 1)))] H := hP
  have hD : va_D A [((ad 5), .inl (c5, 4002, .inl f5)), ((ad 7), .inl (c7, 4002, .inl (upd f7 (0 : Int32).toNatClampNeg 0))), ((ad 8), .inl (c8, 4002, .inl f8)), ((ad 9), .inl (c9, 4002, .inl (upd f9 (0 : Int32).toNatClampNeg 1))), (h0, .inr (14, (((ck_2 ad)).set 18 (.int 0)).set 19 (.int 1)))] := hD
  refine lv_iload_n hx hb dX12_cut_52 rfl (lv_at hl 0 rfl) ?_
  refine lv_if_ne (tgt := 70) hx hb dX12_cut_53 (by decide) (fun _ => ?_) (fun c3_53 => absurd c3_53 (by decide))
  refine lv_aload_n hx hb dX12_cut_70 rfl (lv_at hl 2 rfl) ?_
  refine lv_aload_n hx hb dX12_cut_71 rfl (lv_at hl 2 rfl) ?_
  refine va_get (D := (dC, dI)) (ci := 14) (v := .int 0) (C := RX12) (T := TX12) (N := 151) hx hb hts hwX12 hown hK hP 4 rfl rfl 18 (Nat.le_of_ble_eq_true rfl) (hts (.fieldLink RX12 344 "ScriptTypesModel" "at" "I") (List.mem_of_getElem? (i := 2) (by decide +kernel))) (fun _ h9 => h9) rfl dX12_cut_72 ?_
  have hPc := hP.sub (ws' := [(h0, .inr (14, (((ck_2 ad)).set 18 (.int 0)).set 19 (.int 1)))]) [4] rfl
  have hDc := hD.sub (ws' := [(h0, .inr (14, (((ck_2 ad)).set 18 (.int 0)).set 19 (.int 1)))]) [4] (by decide) rfl
  have hKc := hK.sub (tys' := []) [] rfl
  have hFc := va_free (wc := [(h0, .inr (14, (((ck_2 ad)).set 18 (.int 0)).set 19 (.int 1)))]) hD hS hA [4] rfl
  refine va_calli (va_runV (As := [.int 0]) (rest := []) ⟨hx, hb, hml, hown, hts⟩ (a_X12_isThere_2 l dC dI H.size h0 aS aV ad c4 f4 c2 f2 c3 f3 c5 f5 c7 f7 c8 f8 c9 f9 c14 f14 c23 f23 c21 f21 c25 f25 c26 f26 c27 f27 c28 f28 c29 f29) (cwV 1 hts vg_a_X12_cut_1_a_X12_isThere_2 rfl rfl rfl (by decide +kernel) ⟨Nat.le_of_ble_eq_true rfl, Nat.le_of_ble_eq_true rfl⟩) ⟨fun a U g mk q => by obtain ⟨q0, q1, qP, qK, qD⟩ := q; exact ⟨q0, q1, qP, va_K.moved (u := U) (U := U.calling g mk a) (Vm.Alike.refl U.vm) qK, qD⟩, va_recv hKc hPc (ci := 14) (q0 := 0) rfl rfl, fun U hU hW => ⟨rfl, by rw [hU], by rw [hU]; exact hPc, va_K.moved hW.alike hKc, hDc.weaken (fun _ _ _ _ => trivial)⟩⟩ rfl rfl hl.1 rfl (lv_room (Nat.le_of_ble_eq_true rfl)) dX12_cut_75 ⟨Nat.le_of_ble_eq_true rfl, Nat.le_of_ble_eq_true rfl⟩) hS (fun q _ h => hFc q h) hFc (fun r_4 u t H1 locs ht hvm hw hB hz1 hk1 hS => ?_)
  obtain ⟨hP1, hK1, hD1⟩ := hB
  rw [ht] at hP1
  have hK1 := va_K.moved hvm.symm hK1
  try dsimp only at hw
  obtain ⟨hP, hD⟩ := va_join (wr := [((ad 5), .inl (c5, 4002, .inl f5)), ((ad 7), .inl (c7, 4002, .inl (upd f7 (0 : Int32).toNatClampNeg 0))), ((ad 8), .inl (c8, 4002, .inl f8)), ((ad 9), .inl (c9, 4002, .inl (upd f9 (0 : Int32).toNatClampNeg 1)))]) (w1 := [(h0, .inr (14, (((ck_2 ad)).set 18 (.int 0)).set 19 (.int 1)))]) hP hD [4] [0, 1, 2, 3] rfl rfl (by decide) (by decide) hk1 hFc hP1 hD1
  generalize H1 = H at hP hS ⊢
  have hP : va_P (dC, dI) vwCl [((ad 5), .inl (c5, 4002, .inl f5)), ((ad 7), .inl (c7, 4002, .inl (upd f7 (0 : Int32).toNatClampNeg 0))), ((ad 8), .inl (c8, 4002, .inl f8)), ((ad 9), .inl (c9, 4002, .inl (upd f9 (0 : Int32).toNatClampNeg 1))), (h0, .inr (14, (((ck_2 ad)).set 18 (.int 0)).set 19 (.int 1)))] H := hP
  have hD : va_D A [((ad 5), .inl (c5, 4002, .inl f5)), ((ad 7), .inl (c7, 4002, .inl (upd f7 (0 : Int32).toNatClampNeg 0))), ((ad 8), .inl (c8, 4002, .inl f8)), ((ad 9), .inl (c9, 4002, .inl (upd f9 (0 : Int32).toNatClampNeg 1))), (h0, .inr (14, (((ck_2 ad)).set 18 (.int 0)).set 19 (.int 1)))] := hD
  obtain rfl : r_4 = 0 := hw
  refine lv_if_ne (tgt := 94) hx hb dX12_cut_78 (by decide) (fun c5_78 => absurd (by decide) c5_78) (fun _ => ?_)
  refine lv_aload_n hx hb dX12_cut_81 rfl (lv_at hl 2 rfl) ?_
  refine va_get (D := (dC, dI)) (ci := 14) (v := .ref (ad 5)) (C := RX12) (T := TX12) (N := 151) hx hb hts hwX12 hown hK hP 4 rfl rfl 13 (Nat.le_of_ble_eq_true rfl) (hts (.fieldLink RX12 27 "ScriptTypesModel" "kind" "[I") (List.mem_of_getElem? (i := 13) (by decide +kernel))) (fun _ h9 => h9) rfl dX12_cut_82 ?_
  refine lv_aload_n hx hb dX12_cut_85 rfl (lv_at hl 2 rfl) ?_
  refine va_get (D := (dC, dI)) (ci := 14) (v := .int 0) (C := RX12) (T := TX12) (N := 151) hx hb hts hwX12 hown hK hP 4 rfl rfl 12 (Nat.le_of_ble_eq_true rfl) (hts (.fieldLink RX12 350 "ScriptTypesModel" "tokens" "I") (List.mem_of_getElem? (i := 1) (by decide +kernel))) (fun _ h9 => h9) rfl dX12_cut_86 ?_
  refine lv_iconst (v := 0) hx hb dX12_cut_89 (by decide) ?_
  refine va_iast hx hb hK hP hD hS 0 0 rfl rfl (show ¬ ((0 : Int32) < 0 ∨ 4002 ≤ (0 : Int32).toNatClampNeg) by decide) dX12_cut_90 (fun H locs hP hD hS => ?_)
  have hP : va_P (dC, dI) vwCl [((ad 5), .inl (c5, 4002, .inl (upd f5 (0 : Int32).toNatClampNeg 0))), ((ad 7), .inl (c7, 4002, .inl (upd f7 (0 : Int32).toNatClampNeg 0))), ((ad 8), .inl (c8, 4002, .inl f8)), ((ad 9), .inl (c9, 4002, .inl (upd f9 (0 : Int32).toNatClampNeg 1))), (h0, .inr (14, (((ck_2 ad)).set 18 (.int 0)).set 19 (.int 1)))] H := hP
  have hD : va_D A [((ad 5), .inl (c5, 4002, .inl (upd f5 (0 : Int32).toNatClampNeg 0))), ((ad 7), .inl (c7, 4002, .inl (upd f7 (0 : Int32).toNatClampNeg 0))), ((ad 8), .inl (c8, 4002, .inl f8)), ((ad 9), .inl (c9, 4002, .inl (upd f9 (0 : Int32).toNatClampNeg 1))), (h0, .inr (14, (((ck_2 ad)).set 18 (.int 0)).set 19 (.int 1)))] := hD
  refine lv_goto (tgt := 98) hx hb dX12_cut_91 (by decide) ?_
  refine lv_aload_n hx hb dX12_cut_98 rfl (lv_at hl 2 rfl) ?_
  refine va_get (D := (dC, dI)) (ci := 14) (v := .ref (ad 8)) (C := RX12) (T := TX12) (N := 151) hx hb hts hwX12 hown hK hP 4 rfl rfl 16 (Nat.le_of_ble_eq_true rfl) (hts (.fieldLink RX12 36 "ScriptTypesModel" "until" "[I") (List.mem_of_getElem? (i := 14) (by decide +kernel))) (fun _ h9 => h9) rfl dX12_cut_99 ?_
  refine lv_aload_n hx hb dX12_cut_102 rfl (lv_at hl 2 rfl) ?_
  refine va_get (D := (dC, dI)) (ci := 14) (v := .int 0) (C := RX12) (T := TX12) (N := 151) hx hb hts hwX12 hown hK hP 4 rfl rfl 12 (Nat.le_of_ble_eq_true rfl) (hts (.fieldLink RX12 350 "ScriptTypesModel" "tokens" "I") (List.mem_of_getElem? (i := 1) (by decide +kernel))) (fun _ h9 => h9) rfl dX12_cut_103 ?_
  refine lv_aload_n hx hb dX12_cut_106 rfl (lv_at hl 2 rfl) ?_
  refine va_get (D := (dC, dI)) (ci := 14) (v := .int 0) (C := RX12) (T := TX12) (N := 151) hx hb hts hwX12 hown hK hP 4 rfl rfl 18 (Nat.le_of_ble_eq_true rfl) (hts (.fieldLink RX12 344 "ScriptTypesModel" "at" "I") (List.mem_of_getElem? (i := 2) (by decide +kernel))) (fun _ h9 => h9) rfl dX12_cut_107 ?_
  refine va_iast hx hb hK hP hD hS 2 2 rfl rfl (show ¬ ((0 : Int32) < 0 ∨ 4002 ≤ (0 : Int32).toNatClampNeg) by decide) dX12_cut_110 (fun H locs hP hD hS => ?_)
  have hP : va_P (dC, dI) vwCl [((ad 5), .inl (c5, 4002, .inl (upd f5 (0 : Int32).toNatClampNeg 0))), ((ad 7), .inl (c7, 4002, .inl (upd f7 (0 : Int32).toNatClampNeg 0))), ((ad 8), .inl (c8, 4002, .inl (upd f8 (0 : Int32).toNatClampNeg 0))), ((ad 9), .inl (c9, 4002, .inl (upd f9 (0 : Int32).toNatClampNeg 1))), (h0, .inr (14, (((ck_2 ad)).set 18 (.int 0)).set 19 (.int 1)))] H := hP
  have hD : va_D A [((ad 5), .inl (c5, 4002, .inl (upd f5 (0 : Int32).toNatClampNeg 0))), ((ad 7), .inl (c7, 4002, .inl (upd f7 (0 : Int32).toNatClampNeg 0))), ((ad 8), .inl (c8, 4002, .inl (upd f8 (0 : Int32).toNatClampNeg 0))), ((ad 9), .inl (c9, 4002, .inl (upd f9 (0 : Int32).toNatClampNeg 1))), (h0, .inr (14, (((ck_2 ad)).set 18 (.int 0)).set 19 (.int 1)))] := hD
  refine lv_aload_n hx hb dX12_cut_111 rfl (lv_at hl 2 rfl) ?_
  refine va_get (D := (dC, dI)) (ci := 14) (v := .ref (ad 5)) (C := RX12) (T := TX12) (N := 151) hx hb hts hwX12 hown hK hP 4 rfl rfl 13 (Nat.le_of_ble_eq_true rfl) (hts (.fieldLink RX12 27 "ScriptTypesModel" "kind" "[I") (List.mem_of_getElem? (i := 13) (by decide +kernel))) (fun _ h9 => h9) rfl dX12_cut_112 ?_
  refine lv_aload_n hx hb dX12_cut_115 rfl (lv_at hl 2 rfl) ?_
  refine va_get (D := (dC, dI)) (ci := 14) (v := .int 0) (C := RX12) (T := TX12) (N := 151) hx hb hts hwX12 hown hK hP 4 rfl rfl 12 (Nat.le_of_ble_eq_true rfl) (hts (.fieldLink RX12 350 "ScriptTypesModel" "tokens" "I") (List.mem_of_getElem? (i := 1) (by decide +kernel))) (fun _ h9 => h9) rfl dX12_cut_116 ?_
  refine va_iald hx hb hK hP 0 0 rfl rfl (show ¬ ((0 : Int32) < 0 ∨ 4002 ≤ (0 : Int32).toNatClampNeg) by decide) dX12_cut_119 ?_
  refine lv_topi (fun f_6 ef_6 => ?_)
  obtain rfl : f_6 = 0 := by rw [ef_6]; rfl
  refine lv_bipush (v := 6) hx hb dX12_cut_120 (by decide) ?_
  refine lv_icmp_eq (tgt := 141) hx hb dX12_cut_122 (by decide) (fun c7_122 => absurd c7_122 (by decide)) (fun _ => ?_)
  refine lv_aload_n hx hb dX12_cut_125 rfl (lv_at hl 2 rfl) ?_
  refine va_get (D := (dC, dI)) (ci := 14) (v := .ref (ad 5)) (C := RX12) (T := TX12) (N := 151) hx hb hts hwX12 hown hK hP 4 rfl rfl 13 (Nat.le_of_ble_eq_true rfl) (hts (.fieldLink RX12 27 "ScriptTypesModel" "kind" "[I") (List.mem_of_getElem? (i := 13) (by decide +kernel))) (fun _ h9 => h9) rfl dX12_cut_126 ?_
  refine lv_aload_n hx hb dX12_cut_129 rfl (lv_at hl 2 rfl) ?_
  refine va_get (D := (dC, dI)) (ci := 14) (v := .int 0) (C := RX12) (T := TX12) (N := 151) hx hb hts hwX12 hown hK hP 4 rfl rfl 12 (Nat.le_of_ble_eq_true rfl) (hts (.fieldLink RX12 350 "ScriptTypesModel" "tokens" "I") (List.mem_of_getElem? (i := 1) (by decide +kernel))) (fun _ h9 => h9) rfl dX12_cut_130 ?_
  refine va_iald hx hb hK hP 0 0 rfl rfl (show ¬ ((0 : Int32) < 0 ∨ 4002 ≤ (0 : Int32).toNatClampNeg) by decide) dX12_cut_133 ?_
  refine lv_topi (fun f_8 ef_8 => ?_)
  obtain rfl : f_8 = 0 := by rw [ef_8]; rfl
  refine lv_if_eq (tgt := 141) hx hb dX12_cut_134 (by decide) (fun _ => ?_) (fun c9_134 => absurd (by decide) c9_134)
  refine lv_iconst (v := 0) hx hb dX12_cut_141 (by decide) ?_
  refine lv_istore_n (lv' := [(1, .int 0), (2, .int 1), (0, .ref h0)]) hx hb dX12_cut_142 rfl hl (by decide) rfl (fun ls hl => ?_)
  refine lv_aload_n hx hb dX12_cut_143 rfl (lv_at hl 2 rfl) ?_
  refine lv_dup hx hb dX12_cut_144 rfl ?_
  refine va_get (D := (dC, dI)) (ci := 14) (v := .int 0) (C := RX12) (T := TX12) (N := 151) hx hb hts hwX12 hown hK hP 4 rfl rfl 12 (Nat.le_of_ble_eq_true rfl) (hts (.fieldLink RX12 350 "ScriptTypesModel" "tokens" "I") (List.mem_of_getElem? (i := 1) (by decide +kernel))) (fun _ h9 => h9) rfl dX12_cut_145 ?_
  refine lv_iconst (v := 1) hx hb dX12_cut_148 (by decide) ?_
  refine lv_iadd hx hb dX12_cut_149 ?_
  refine lv_topi (fun f_10 ef_10 => ?_)
  obtain rfl : f_10 = 1 := by rw [ef_10]; decide
  refine va_put (D := (dC, dI)) (ci := 14) (v := .int 1) (ty := tyX12 12) (C := RX12) (T := TX12) (N := 151) hx hb hts hwX12 tyX12 tyX12_ok nmX12 hown hK hP hD hS 4 rfl rfl 12 (Nat.le_of_ble_eq_true rfl) (hts (.fieldLink RX12 350 "ScriptTypesModel" "tokens" "I") (List.mem_of_getElem? (i := 1) (by decide +kernel))) (fun _ h9 => h9) rfl (tyX12_ok 12 (Nat.le_of_ble_eq_true rfl)) rfl rfl (Nat.le_of_ble_eq_true rfl) dX12_cut_150 (fun H locs hP hD hS => ?_)
  have hP : va_P (dC, dI) vwCl [((ad 5), .inl (c5, 4002, .inl (upd f5 (0 : Int32).toNatClampNeg 0))), ((ad 7), .inl (c7, 4002, .inl (upd f7 (0 : Int32).toNatClampNeg 0))), ((ad 8), .inl (c8, 4002, .inl (upd f8 (0 : Int32).toNatClampNeg 0))), ((ad 9), .inl (c9, 4002, .inl (upd f9 (0 : Int32).toNatClampNeg 1))), (h0, .inr (14, ((((ck_2 ad)).set 18 (.int 0)).set 19 (.int 1)).set 12 (.int 1)))] H := hP
  have hD : va_D A [((ad 5), .inl (c5, 4002, .inl (upd f5 (0 : Int32).toNatClampNeg 0))), ((ad 7), .inl (c7, 4002, .inl (upd f7 (0 : Int32).toNatClampNeg 0))), ((ad 8), .inl (c8, 4002, .inl (upd f8 (0 : Int32).toNatClampNeg 0))), ((ad 9), .inl (c9, 4002, .inl (upd f9 (0 : Int32).toNatClampNeg 1))), (h0, .inr (14, ((((ck_2 ad)).set 18 (.int 0)).set 19 (.int 1)).set 12 (.int 1)))] := hD
  refine lv_goto (tgt := 17) hx hb dX12_cut_153 (by decide) ?_
  refine lv_iload_n hx hb dX12_cut_17 rfl (lv_at hl 0 rfl) ?_
  refine lv_if_eq (tgt := 156) hx hb dX12_cut_18 (by decide) (fun _ => ?_) (fun c11_18 => absurd (by decide) c11_18)
  exact W.vret hx hb hr (fun t ht hW => ⟨⟨(), rfl, trivial, by rw [ht]; exact hP, va_K.moved hW.alike hK, hD⟩, hS.F ht⟩) hS.2.2 dX12_cut_156

def ck_3 (ad : Nat → Nat) : List Value := [.int 0, .ref (ad 0), .int 0, .ref (ad 1), .int 0, .ref (ad 2), .ref (ad 3), .int 31, .int 0, .int 0, .ref (ad 4), .int 0, .int 1, .ref (ad 5), .ref (ad 6), .ref (ad 7), .ref (ad 8), .ref (ad 9), .int 0, .int 1, .int 0, .int 0, .int 0, .int 0, .int 0, .ref (ad 10), .ref (ad 11), .ref (ad 12), .ref (ad 13), .ref (ad 14), .ref (ad 15), .int 0, .int 0, .ref (ad 16), .ref (ad 17), .ref (ad 18), .ref (ad 19), .ref (ad 20), .ref (ad 21), .ref (ad 22), .ref (ad 23), .ref (ad 24), .int 0, .int 0, .int 0, .int 0, .int 0, .int 0, .ref (ad 25), .ref (ad 26), .ref (ad 27), .ref (ad 28), .ref (ad 29), .int 0, .ref (ad 30), .int 0, .int 0, .ref (ad 31), .ref (ad 32), .int 0, .int 0, .ref (ad 33), .ref (ad 34), .ref (ad 35), .ref (ad 36), .ref (ad 37), .int 0, .ref (ad 38), .int 0, .ref (ad 39), .int 0, .int 0, .int 0, .int 0, .int 0, .int 0, .int 0, .ref (ad 40), .ref (ad 41), .ref (ad 42), .ref (ad 43), .ref (ad 44), .ref (ad 45), .ref (ad 46), .int 0, .int 0, .int 0, .ref (ad 47), .ref (ad 48), .ref (ad 49), .ref (ad 50), .ref (ad 51), .int 0, .ref (ad 52), .ref (ad 53), .ref (ad 54), .ref (ad 55), .ref (ad 56), .ref (ad 57), .ref (ad 58), .ref (ad 59), .ref (ad 60), .ref (ad 61), .ref (ad 62), .ref (ad 63), .ref (ad 64), .ref (ad 65), .int 0, .ref (ad 66), .int 0, .int 0, .int 0, .int 0, .int 0, .int 0, .int 0, .ref (ad 67), .ref (ad 68), .ref (ad 69), .int 0, .int 0, .int 0, .ref (ad 70), .ref (ad 71), .ref (ad 72), .ref (ad 73), .ref (ad 74), .int 0, .ref (ad 75), .ref (ad 76), .ref (ad 77), .ref (ad 78), .ref (ad 79), .ref (ad 80), .ref (ad 81), .ref (ad 82), .ref (ad 83), .ref (ad 84), .ref (ad 85), .ref (ad 86), .ref (ad 87), .ref (ad 88), .ref (ad 89), .long 0, .long 0, .int 0, .ref (ad 90), .int 0, .int 0, .int 0, .int 0]

def ck_4 (ad : Nat → Nat) : List Value := [.int 0, .ref (ad 0), .int 0, .ref (ad 1), .int 0, .ref (ad 2), .ref (ad 3), .int 31, .int 0, .int 0, .ref (ad 4), .int 0, .int 1, .ref (ad 5), .ref (ad 6), .ref (ad 7), .ref (ad 8), .ref (ad 9), .int 0, .int 1, .int 0, .int 0, .int 0, .int 0, .int 0, .ref (ad 10), .ref (ad 11), .ref (ad 12), .ref (ad 13), .ref (ad 14), .ref (ad 15), .int 0, .int 1, .ref (ad 16), .ref (ad 17), .ref (ad 18), .ref (ad 19), .ref (ad 20), .ref (ad 21), .ref (ad 22), .ref (ad 23), .ref (ad 24), .int 0, .int 0, .int 0, .int 0, .int 0, .int 0, .ref (ad 25), .ref (ad 26), .ref (ad 27), .ref (ad 28), .ref (ad 29), .int 0, .ref (ad 30), .int 0, .int 0, .ref (ad 31), .ref (ad 32), .int 0, .int 0, .ref (ad 33), .ref (ad 34), .ref (ad 35), .ref (ad 36), .ref (ad 37), .int 0, .ref (ad 38), .int 0, .ref (ad 39), .int 0, .int 0, .int 0, .int 0, .int 0, .int 0, .int 0, .ref (ad 40), .ref (ad 41), .ref (ad 42), .ref (ad 43), .ref (ad 44), .ref (ad 45), .ref (ad 46), .int 0, .int 0, .int 0, .ref (ad 47), .ref (ad 48), .ref (ad 49), .ref (ad 50), .ref (ad 51), .int 0, .ref (ad 52), .ref (ad 53), .ref (ad 54), .ref (ad 55), .ref (ad 56), .ref (ad 57), .ref (ad 58), .ref (ad 59), .ref (ad 60), .ref (ad 61), .ref (ad 62), .ref (ad 63), .ref (ad 64), .ref (ad 65), .int 0, .ref (ad 66), .int 0, .int 0, .int 0, .int 0, .int 0, .int 0, .int 0, .ref (ad 67), .ref (ad 68), .ref (ad 69), .int 0, .int 0, .int 0, .ref (ad 70), .ref (ad 71), .ref (ad 72), .ref (ad 73), .ref (ad 74), .int 0, .ref (ad 75), .ref (ad 76), .ref (ad 77), .ref (ad 78), .ref (ad 79), .ref (ad 80), .ref (ad 81), .ref (ad 82), .ref (ad 83), .ref (ad 84), .ref (ad 85), .ref (ad 86), .ref (ad 87), .ref (ad 88), .ref (ad 89), .long 0, .long 0, .int 0, .ref (ad 90), .int 0, .int 0, .int 0, .int 0]

def vb_a_X12_beginList_1 : List Cond := .code yX12_beginList cX12_beginList 1 none :: ([.fieldLink RX12 56 "ScriptTypesModel" "firsts" "[I", .fieldLink RX12 424 "ScriptTypesModel" "lists" "I"] ++ [])
def vw_a_X12_beginList_1 : List Cond := vb_a_X12_beginList_1 ++ wsX120
set_option maxHeartbeats 8000000 in
set_option maxRecDepth 100000 in
theorem a_X12_beginList_1 (l : Launch) (dC : Nat → ClassId) (dI : Nat → Nat → Nat) (sz : Nat) (h0 aS aV : Nat) (ad : Nat → Nat) (c4 : ClassId) (f4 : Nat → Int32) (c2 : ClassId) (f2 : Nat → Int32) (c3 : ClassId) (f3 : Nat → Int32) (c5 : ClassId) (f5 : Nat → Int32) (c7 : ClassId) (f7 : Nat → Int32) (c8 : ClassId) (f8 : Nat → Int32) (c9 : ClassId) (f9 : Nat → Int32) (c14 : ClassId) (f14 : Nat → Int32) (c23 : ClassId) (f23 : Nat → Int32) (c21 : ClassId) (f21 : Nat → Int32) (c25 : ClassId) (f25 : Nat → Int32) (c26 : ClassId) (f26 : Nat → Int32) (c27 : ClassId) (f27 : Nat → Int32) (c28 : ClassId) (f28 : Nat → Int32) (c29 : ClassId) (f29 : Nat → Int32) : Met l yX12_beginList vw_a_X12_beginList_1 ({ frames := 0, cells := 0, slots := 0, locals := 0 }) (va_Pc [.ref h0] (fun U => U.heap.size = sz ∧ va_P (dC, dI) vwCl [((ad 14), .inl (c14, 200, .inl f14)), (h0, .inr (14, ((ck_4 ad)).set 42 (.int 0)))] U.heap ∧ va_K (dC, dI) vwCl [(c14, .int)] U ∧ va_D (fun _ => True) [((ad 14), .inl (c14, 200, .inl f14)), (h0, .inr (14, ((ck_4 ad)).set 42 (.int 0)))])) (va_Qv (fun _ : Unit => True) (fun (_ : Unit) t => va_P (dC, dI) vwCl [((ad 14), .inl (c14, 200, .inl (upd f14 (0 : Int32).toNatClampNeg (-1)))), (h0, .inr (14, (((ck_4 ad)).set 42 (.int 0)).set 31 (.int 1)))] t.heap ∧ va_K (dC, dI) vwCl [(c14, .int)] t ∧ va_D (va_A [((ad 14), .inl (c14, 200, .inl f14)), (h0, .inr (14, ((ck_4 ad)).set 42 (.int 0)))] sz) [((ad 14), .inl (c14, 200, .inl (upd f14 (0 : Int32).toNatClampNeg (-1)))), (h0, .inr (14, (((ck_4 ad)).set 42 (.int 0)).set 31 (.int 1)))]) (va_A [((ad 14), .inl (c14, 200, .inl f14)), (h0, .inr (14, ((ck_4 ad)).set 42 (.int 0)))] sz)) 0 0 (va_A [((ad 14), .inl (c14, 200, .inl f14)), (h0, .inr (14, ((ck_4 ad)).set 42 (.int 0)))] sz) := by
  refine Met.ofW (cc := cX12_beginList) (maxL := 1) (ret := none) (by decide) rfl ?_
  intro p e s m args below meth c s₁ B hml hv
  obtain ⟨rfl, hsz, hP, hK, hD0⟩ := hv
  have hx := B.exec
  have hb := B.bytes
  have hr := B.returns
  have hts := atoms_spec (ws := vw_a_X12_beginList_1) B.pre
  have hown : s.vm.findClass RX12 = some m.cls := findClass_of_methodNamed B.named
  have hlocks := B.notSynchronized
  subst hsz
  have hD := hD0.self (sz := s.heap.size)
  generalize hAe : va_A [((ad 14), .inl (c14, 200, .inl f14)), (h0, .inr (14, ((ck_4 ad)).set 42 (.int 0)))] s.heap.size = A at hD ⊢
  have hA : ∀ q : Nat, s.heap.size ≤ q → A q := fun q h => by rw [← hAe]; exact Or.inr h
  have hS : va_S A s.heap s.heap [] := va_S.rf
  have hP : va_P (dC, dI) vwCl [((ad 14), .inl (c14, 200, .inl f14)), (h0, .inr (14, ((ck_4 ad)).set 42 (.int 0)))] s.heap := hP
  have hl := lv_entry ([.ref h0]) (n := 1) (Nat.le_of_ble_eq_true rfl)
  rw [lg_entry_eq]
  generalize (lg_sl ([.ref h0]) ++ List.replicate (1 - (lg_sl ([.ref h0])).length) Slot.unset).toArray = ls at hl ⊢
  have hl : lv_has ls 1 [(0, .ref h0)] := hl
  have hwX12 : ∀ w ∈ wsX120, w ∈ vw_a_X12_beginList_1 := (fun w h => List.mem_append_right _ h)
  refine lv_aload_n hx hb dX12_beginList_0 rfl (lv_at hl 0 rfl) ?_
  refine va_get (D := (dC, dI)) (ci := 14) (v := .ref (ad 14)) (C := RX12) (T := TX12) (N := 151) hx hb hts hwX12 hown hK hP 1 rfl rfl 29 (Nat.le_of_ble_eq_true rfl) (hts (.fieldLink RX12 56 "ScriptTypesModel" "firsts" "[I") (List.mem_of_getElem? (i := 1) (by decide +kernel))) (fun _ h9 => h9) rfl dX12_beginList_1 ?_
  refine lv_aload_n hx hb dX12_beginList_4 rfl (lv_at hl 0 rfl) ?_
  refine va_get (D := (dC, dI)) (ci := 14) (v := .int 0) (C := RX12) (T := TX12) (N := 151) hx hb hts hwX12 hown hK hP 1 rfl rfl 31 (Nat.le_of_ble_eq_true rfl) (hts (.fieldLink RX12 424 "ScriptTypesModel" "lists" "I") (List.mem_of_getElem? (i := 2) (by decide +kernel))) (fun _ h9 => h9) rfl dX12_beginList_5 ?_
  refine lv_iconst (v := (-1)) hx hb dX12_beginList_8 (by decide) ?_
  refine va_iast hx hb hK hP hD hS 0 0 rfl rfl (show ¬ ((0 : Int32) < 0 ∨ 200 ≤ (0 : Int32).toNatClampNeg) by decide) dX12_beginList_9 (fun H locs hP hD hS => ?_)
  have hP : va_P (dC, dI) vwCl [((ad 14), .inl (c14, 200, .inl (upd f14 (0 : Int32).toNatClampNeg (-1)))), (h0, .inr (14, ((ck_4 ad)).set 42 (.int 0)))] H := hP
  have hD : va_D A [((ad 14), .inl (c14, 200, .inl (upd f14 (0 : Int32).toNatClampNeg (-1)))), (h0, .inr (14, ((ck_4 ad)).set 42 (.int 0)))] := hD
  refine lv_aload_n hx hb dX12_beginList_10 rfl (lv_at hl 0 rfl) ?_
  refine lv_dup hx hb dX12_beginList_11 rfl ?_
  refine va_get (D := (dC, dI)) (ci := 14) (v := .int 0) (C := RX12) (T := TX12) (N := 151) hx hb hts hwX12 hown hK hP 1 rfl rfl 31 (Nat.le_of_ble_eq_true rfl) (hts (.fieldLink RX12 424 "ScriptTypesModel" "lists" "I") (List.mem_of_getElem? (i := 2) (by decide +kernel))) (fun _ h9 => h9) rfl dX12_beginList_12 ?_
  refine lv_iconst (v := 1) hx hb dX12_beginList_15 (by decide) ?_
  refine lv_iadd hx hb dX12_beginList_16 ?_
  refine lv_topi (fun f_1 ef_1 => ?_)
  obtain rfl : f_1 = 1 := by rw [ef_1]; decide
  refine va_put (D := (dC, dI)) (ci := 14) (v := .int 1) (ty := tyX12 31) (C := RX12) (T := TX12) (N := 151) hx hb hts hwX12 tyX12 tyX12_ok nmX12 hown hK hP hD hS 1 rfl rfl 31 (Nat.le_of_ble_eq_true rfl) (hts (.fieldLink RX12 424 "ScriptTypesModel" "lists" "I") (List.mem_of_getElem? (i := 2) (by decide +kernel))) (fun _ h9 => h9) rfl (tyX12_ok 31 (Nat.le_of_ble_eq_true rfl)) rfl rfl (Nat.le_of_ble_eq_true rfl) dX12_beginList_17 (fun H locs hP hD hS => ?_)
  have hP : va_P (dC, dI) vwCl [((ad 14), .inl (c14, 200, .inl (upd f14 (0 : Int32).toNatClampNeg (-1)))), (h0, .inr (14, (((ck_4 ad)).set 42 (.int 0)).set 31 (.int 1)))] H := hP
  have hD : va_D A [((ad 14), .inl (c14, 200, .inl (upd f14 (0 : Int32).toNatClampNeg (-1)))), (h0, .inr (14, (((ck_4 ad)).set 42 (.int 0)).set 31 (.int 1)))] := hD
  exact W.vret hx hb hr (fun t ht hW => ⟨⟨(), rfl, trivial, by rw [ht]; exact hP, va_K.moved hW.alike hK, hD⟩, hS.F ht⟩) hS.2.2 dX12_beginList_20

def vb_a_X12_ended_1 : List Cond := .code yX12_ended cX12_ended 1 (some .int) :: ([.fieldLink RX12 424 "ScriptTypesModel" "lists" "I", .fieldLink RX12 56 "ScriptTypesModel" "firsts" "[I"] ++ [])
def vw_a_X12_ended_1 : List Cond := vb_a_X12_ended_1 ++ wsX120
set_option maxHeartbeats 8000000 in
set_option maxRecDepth 100000 in
theorem a_X12_ended_1 (l : Launch) (dC : Nat → ClassId) (dI : Nat → Nat → Nat) (sz : Nat) (h0 aS aV : Nat) (ad : Nat → Nat) (c4 : ClassId) (f4 : Nat → Int32) (c2 : ClassId) (f2 : Nat → Int32) (c3 : ClassId) (f3 : Nat → Int32) (c5 : ClassId) (f5 : Nat → Int32) (c7 : ClassId) (f7 : Nat → Int32) (c8 : ClassId) (f8 : Nat → Int32) (c9 : ClassId) (f9 : Nat → Int32) (c14 : ClassId) (f14 : Nat → Int32) (c23 : ClassId) (f23 : Nat → Int32) (c21 : ClassId) (f21 : Nat → Int32) (c25 : ClassId) (f25 : Nat → Int32) (c26 : ClassId) (f26 : Nat → Int32) (c27 : ClassId) (f27 : Nat → Int32) (c28 : ClassId) (f28 : Nat → Int32) (c29 : ClassId) (f29 : Nat → Int32) : Met l yX12_ended vw_a_X12_ended_1 ({ frames := 0, cells := 0, slots := 0, locals := 0 }) (va_Pc [.ref h0] (fun U => U.heap.size = sz ∧ va_P (dC, dI) vwCl [((ad 14), .inl (c14, 200, .inl (upd f14 (0 : Int32).toNatClampNeg (-1)))), (h0, .inr (14, (((ck_4 ad)).set 42 (.int 0)).set 31 (.int 1)))] U.heap ∧ va_K (dC, dI) vwCl [(c14, .int)] U ∧ va_D (fun _ => True) [((ad 14), .inl (c14, 200, .inl (upd f14 (0 : Int32).toNatClampNeg (-1)))), (h0, .inr (14, (((ck_4 ad)).set 42 (.int 0)).set 31 (.int 1)))])) (va_Qi (fun (r : Int32) (_ : Unit) => r = (-1)) (fun (_ : Unit) t => va_P (dC, dI) vwCl [((ad 14), .inl (c14, 200, .inl (upd f14 (0 : Int32).toNatClampNeg (-1)))), (h0, .inr (14, ((((ck_4 ad)).set 42 (.int 0)).set 31 (.int 1)).set 31 (.int 0)))] t.heap ∧ va_K (dC, dI) vwCl [(c14, .int)] t ∧ va_D (va_A [((ad 14), .inl (c14, 200, .inl (upd f14 (0 : Int32).toNatClampNeg (-1)))), (h0, .inr (14, (((ck_4 ad)).set 42 (.int 0)).set 31 (.int 1)))] sz) [((ad 14), .inl (c14, 200, .inl (upd f14 (0 : Int32).toNatClampNeg (-1)))), (h0, .inr (14, ((((ck_4 ad)).set 42 (.int 0)).set 31 (.int 1)).set 31 (.int 0)))]) (va_A [((ad 14), .inl (c14, 200, .inl (upd f14 (0 : Int32).toNatClampNeg (-1)))), (h0, .inr (14, (((ck_4 ad)).set 42 (.int 0)).set 31 (.int 1)))] sz)) 0 0 (va_A [((ad 14), .inl (c14, 200, .inl (upd f14 (0 : Int32).toNatClampNeg (-1)))), (h0, .inr (14, (((ck_4 ad)).set 42 (.int 0)).set 31 (.int 1)))] sz) := by
  refine Met.ofW (cc := cX12_ended) (maxL := 1) (ret := (some .int)) (by decide) rfl ?_
  intro p e s m args below meth c s₁ B hml hv
  obtain ⟨rfl, hsz, hP, hK, hD0⟩ := hv
  have hx := B.exec
  have hb := B.bytes
  have hr := B.returns
  have hts := atoms_spec (ws := vw_a_X12_ended_1) B.pre
  have hown : s.vm.findClass RX12 = some m.cls := findClass_of_methodNamed B.named
  have hlocks := B.notSynchronized
  subst hsz
  have hD := hD0.self (sz := s.heap.size)
  generalize hAe : va_A [((ad 14), .inl (c14, 200, .inl (upd f14 (0 : Int32).toNatClampNeg (-1)))), (h0, .inr (14, (((ck_4 ad)).set 42 (.int 0)).set 31 (.int 1)))] s.heap.size = A at hD ⊢
  have hA : ∀ q : Nat, s.heap.size ≤ q → A q := fun q h => by rw [← hAe]; exact Or.inr h
  have hS : va_S A s.heap s.heap [] := va_S.rf
  have hP : va_P (dC, dI) vwCl [((ad 14), .inl (c14, 200, .inl (upd f14 (0 : Int32).toNatClampNeg (-1)))), (h0, .inr (14, (((ck_4 ad)).set 42 (.int 0)).set 31 (.int 1)))] s.heap := hP
  have hl := lv_entry ([.ref h0]) (n := 1) (Nat.le_of_ble_eq_true rfl)
  rw [lg_entry_eq]
  generalize (lg_sl ([.ref h0]) ++ List.replicate (1 - (lg_sl ([.ref h0])).length) Slot.unset).toArray = ls at hl ⊢
  have hl : lv_has ls 1 [(0, .ref h0)] := hl
  have hwX12 : ∀ w ∈ wsX120, w ∈ vw_a_X12_ended_1 := (fun w h => List.mem_append_right _ h)
  refine lv_aload_n hx hb dX12_ended_0 rfl (lv_at hl 0 rfl) ?_
  refine lv_dup hx hb dX12_ended_1 rfl ?_
  refine va_get (D := (dC, dI)) (ci := 14) (v := .int 1) (C := RX12) (T := TX12) (N := 151) hx hb hts hwX12 hown hK hP 1 rfl rfl 31 (Nat.le_of_ble_eq_true rfl) (hts (.fieldLink RX12 424 "ScriptTypesModel" "lists" "I") (List.mem_of_getElem? (i := 1) (by decide +kernel))) (fun _ h9 => h9) rfl dX12_ended_2 ?_
  refine lv_iconst (v := 1) hx hb dX12_ended_5 (by decide) ?_
  refine lv_isub hx hb dX12_ended_6 ?_
  refine lv_topi (fun f_1 ef_1 => ?_)
  obtain rfl : f_1 = 0 := by rw [ef_1]; decide
  refine va_put (D := (dC, dI)) (ci := 14) (v := .int 0) (ty := tyX12 31) (C := RX12) (T := TX12) (N := 151) hx hb hts hwX12 tyX12 tyX12_ok nmX12 hown hK hP hD hS 1 rfl rfl 31 (Nat.le_of_ble_eq_true rfl) (hts (.fieldLink RX12 424 "ScriptTypesModel" "lists" "I") (List.mem_of_getElem? (i := 1) (by decide +kernel))) (fun _ h9 => h9) rfl (tyX12_ok 31 (Nat.le_of_ble_eq_true rfl)) rfl rfl (Nat.le_of_ble_eq_true rfl) dX12_ended_7 (fun H locs hP hD hS => ?_)
  have hP : va_P (dC, dI) vwCl [((ad 14), .inl (c14, 200, .inl (upd f14 (0 : Int32).toNatClampNeg (-1)))), (h0, .inr (14, ((((ck_4 ad)).set 42 (.int 0)).set 31 (.int 1)).set 31 (.int 0)))] H := hP
  have hD : va_D A [((ad 14), .inl (c14, 200, .inl (upd f14 (0 : Int32).toNatClampNeg (-1)))), (h0, .inr (14, ((((ck_4 ad)).set 42 (.int 0)).set 31 (.int 1)).set 31 (.int 0)))] := hD
  refine lv_aload_n hx hb dX12_ended_10 rfl (lv_at hl 0 rfl) ?_
  refine va_get (D := (dC, dI)) (ci := 14) (v := .ref (ad 14)) (C := RX12) (T := TX12) (N := 151) hx hb hts hwX12 hown hK hP 1 rfl rfl 29 (Nat.le_of_ble_eq_true rfl) (hts (.fieldLink RX12 56 "ScriptTypesModel" "firsts" "[I") (List.mem_of_getElem? (i := 2) (by decide +kernel))) (fun _ h9 => h9) rfl dX12_ended_11 ?_
  refine lv_aload_n hx hb dX12_ended_14 rfl (lv_at hl 0 rfl) ?_
  refine va_get (D := (dC, dI)) (ci := 14) (v := .int 0) (C := RX12) (T := TX12) (N := 151) hx hb hts hwX12 hown hK hP 1 rfl rfl 31 (Nat.le_of_ble_eq_true rfl) (hts (.fieldLink RX12 424 "ScriptTypesModel" "lists" "I") (List.mem_of_getElem? (i := 1) (by decide +kernel))) (fun _ h9 => h9) rfl dX12_ended_15 ?_
  refine va_iald hx hb hK hP 0 0 rfl rfl (show ¬ ((0 : Int32) < 0 ∨ 200 ≤ (0 : Int32).toNatClampNeg) by decide) dX12_ended_18 ?_
  refine lv_topi (fun f_2 ef_2 => ?_)
  obtain rfl : f_2 = (-1) := by rw [ef_2]; rfl
  exact W.iret (v := (-1)) hx hb hr (fun t ht hW => ⟨⟨(-1), (), rfl, rfl, by rw [ht]; exact hP, va_K.moved hW.alike hK, hD⟩, hS.F ht⟩) hS.2.2 dX12_ended_19

