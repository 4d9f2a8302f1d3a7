def vb_a_X12_parts_1 : List Cond := .code yX12_parts cX12_parts 2 (some .int) :: ([.methodLink RX12 509 yX12_beginList, .instanceMethod yX12_beginList, .selects RX12 yX12_beginList yX12_beginList, .initialized RX12, .fieldLink RX12 389 "ScriptTypesModel" "fault" "I", .fieldLink RX12 27 "ScriptTypesModel" "kind" "[I", .fieldLink RX12 392 "ScriptTypesModel" "t" "I", .methodLink RX12 515 yX12_ended, .instanceMethod yX12_ended, .selects RX12 yX12_ended yX12_ended] ++ (vb_a_X12_beginList_1 ++ (vb_a_X12_ended_1 ++ [])))
def vw_a_X12_parts_1 : List Cond := vb_a_X12_parts_1 ++ wsX120
set_option maxRecDepth 20000 in
theorem vg_a_X12_parts_1_a_X12_beginList_1 : GoodIn vw_a_X12_parts_1 (wsV RX12 509 RX12 yX12_beginList vw_a_X12_beginList_1) := goodIn_app (goodIn_of _ (by decide +kernel)) (goodIn_sub (v_sub (fun w h => List.mem_cons_of_mem _ (List.mem_append_right _ (List.mem_append_left _ (h))))) (by decide +kernel))
set_option maxRecDepth 20000 in
theorem vg_a_X12_parts_1_a_X12_ended_1 : GoodIn vw_a_X12_parts_1 (wsV RX12 515 RX12 yX12_ended vw_a_X12_ended_1) := goodIn_app (goodIn_of _ (by decide +kernel)) (goodIn_sub (v_sub (fun w h => List.mem_cons_of_mem _ (List.mem_append_right _ (List.mem_append_right _ (List.mem_append_left _ (h)))))) (by decide +kernel))
set_option maxHeartbeats 8000000 in
set_option maxRecDepth 100000 in
theorem a_X12_parts_1 (l : Launch) (dC : Nat → ClassId) (dI : Nat → Nat → Nat) (sz : Nat) (h0 aS aV : Nat) (ad : Nat → Nat) (c4 : ClassId) (f4 : Nat → Int32) (c2 : ClassId) (f2 : Nat → Int32) (c3 : ClassId) (f3 : Nat → Int32) (c5 : ClassId) (f5 : Nat → Int32) (c7 : ClassId) (f7 : Nat → Int32) (c8 : ClassId) (f8 : Nat → Int32) (c9 : ClassId) (f9 : Nat → Int32) (c14 : ClassId) (f14 : Nat → Int32) (c23 : ClassId) (f23 : Nat → Int32) (c21 : ClassId) (f21 : Nat → Int32) (c25 : ClassId) (f25 : Nat → Int32) (c26 : ClassId) (f26 : Nat → Int32) (c27 : ClassId) (f27 : Nat → Int32) (c28 : ClassId) (f28 : Nat → Int32) (c29 : ClassId) (f29 : Nat → Int32) : Met l yX12_parts vw_a_X12_parts_1 ({ frames := 1, cells := 0, slots := 0, locals := 20 }) (va_Pc [.ref h0, .int 0] (fun U => U.heap.size = sz ∧ va_P (dC, dI) vwCl [((ad 14), .inl (c14, 200, .inl f14)), ((ad 5), .inl (c5, 4002, .inl (upd f5 (0 : Int32).toNatClampNeg 0))), (h0, .inr (14, ((ck_4 ad)).set 42 (.int 0)))] U.heap ∧ va_K (dC, dI) vwCl [(c5, .int), (c14, .int)] U ∧ va_D (fun _ => True) [((ad 14), .inl (c14, 200, .inl f14)), ((ad 5), .inl (c5, 4002, .inl (upd f5 (0 : Int32).toNatClampNeg 0))), (h0, .inr (14, ((ck_4 ad)).set 42 (.int 0)))])) (va_Qi (fun (r : Int32) (_ : Unit) => r = (-1)) (fun (_ : Unit) t => va_P (dC, dI) vwCl [((ad 5), .inl (c5, 4002, .inl (upd f5 (0 : Int32).toNatClampNeg 0))), ((ad 14), .inl (c14, 200, .inl (upd f14 (0 : Int32).toNatClampNeg (-1)))), (h0, .inr (14, ((((ck_4 ad)).set 42 (.int 0)).set 31 (.int 1)).set 31 (.int 0)))] t.heap ∧ va_K (dC, dI) vwCl [(c5, .int), (c14, .int)] t ∧ va_D (va_A [((ad 14), .inl (c14, 200, .inl f14)), ((ad 5), .inl (c5, 4002, .inl (upd f5 (0 : Int32).toNatClampNeg 0))), (h0, .inr (14, ((ck_4 ad)).set 42 (.int 0)))] sz) [((ad 5), .inl (c5, 4002, .inl (upd f5 (0 : Int32).toNatClampNeg 0))), ((ad 14), .inl (c14, 200, .inl (upd f14 (0 : Int32).toNatClampNeg (-1)))), (h0, .inr (14, ((((ck_4 ad)).set 42 (.int 0)).set 31 (.int 1)).set 31 (.int 0)))]) (va_A [((ad 14), .inl (c14, 200, .inl f14)), ((ad 5), .inl (c5, 4002, .inl (upd f5 (0 : Int32).toNatClampNeg 0))), (h0, .inr (14, ((ck_4 ad)).set 42 (.int 0)))] sz)) 0 0 (va_A [((ad 14), .inl (c14, 200, .inl f14)), ((ad 5), .inl (c5, 4002, .inl (upd f5 (0 : Int32).toNatClampNeg 0))), (h0, .inr (14, ((ck_4 ad)).set 42 (.int 0)))] sz) := by
  refine Met.ofW (cc := cX12_parts) (maxL := 2) (ret := (some .int)) (by decide) rfl ?_
  intro p e s m args below meth c s₁ B hml hv
  obtain ⟨rfl, hsz, hP, hK, hD0⟩ := hv
  have hx := B.exec
  have hb := B.bytes
  have hr := B.returns
  have hts := atoms_spec (ws := vw_a_X12_parts_1) B.pre
  have hown : s.vm.findClass RX12 = some m.cls := findClass_of_methodNamed B.named
  have hlocks := B.notSynchronized
  subst hsz
  have hD := hD0.self (sz := s.heap.size)
  generalize hAe : va_A [((ad 14), .inl (c14, 200, .inl f14)), ((ad 5), .inl (c5, 4002, .inl (upd f5 (0 : Int32).toNatClampNeg 0))), (h0, .inr (14, ((ck_4 ad)).set 42 (.int 0)))] s.heap.size = A at hD ⊢
  have hA : ∀ q : Nat, s.heap.size ≤ q → A q := fun q h => by rw [← hAe]; exact Or.inr h
  have hS : va_S A s.heap s.heap [] := va_S.rf
  have hP : va_P (dC, dI) vwCl [((ad 14), .inl (c14, 200, .inl f14)), ((ad 5), .inl (c5, 4002, .inl (upd f5 (0 : Int32).toNatClampNeg 0))), (h0, .inr (14, ((ck_4 ad)).set 42 (.int 0)))] s.heap := hP
  have hl := lv_entry ([.ref h0, .int 0]) (n := 2) (Nat.le_of_ble_eq_true rfl)
  rw [lg_entry_eq]
  generalize (lg_sl ([.ref h0, .int 0]) ++ List.replicate (2 - (lg_sl ([.ref h0, .int 0])).length) Slot.unset).toArray = ls at hl ⊢
  have hl : lv_has ls 2 [(0, .ref h0), (1, .int 0)] := hl
  have hwX12 : ∀ w ∈ wsX120, w ∈ vw_a_X12_parts_1 := (fun w h => List.mem_append_right _ h)
  refine lv_aload_n hx hb dX12_parts_0 rfl (lv_at hl 0 rfl) ?_
  have hPc := hP.sub (ws' := [((ad 14), .inl (c14, 200, .inl f14)), (h0, .inr (14, ((ck_4 ad)).set 42 (.int 0)))]) [0, 2] rfl
  have hDc := hD.sub (ws' := [((ad 14), .inl (c14, 200, .inl f14)), (h0, .inr (14, ((ck_4 ad)).set 42 (.int 0)))]) [0, 2] (by decide) rfl
  have hKc := hK.sub (tys' := [(c14, .int)]) [1] rfl
  have hFc := va_free (wc := [((ad 14), .inl (c14, 200, .inl f14)), (h0, .inr (14, ((ck_4 ad)).set 42 (.int 0)))]) hD hS hA [0, 2] rfl
  refine va_callv (va_runV (As := []) (rest := []) ⟨hx, hb, hml, hown, hts⟩ (a_X12_beginList_1 l dC dI s.heap.size h0 aS aV ad c4 f4 c2 f2 c3 f3 c5 f5 c7 f7 c8 f8 c9 f9 c14 f14 c23 f23 c21 f21 c25 f25 c26 f26 c27 f27 c28 f28 c29 f29) (cwV 0 hts vg_a_X12_parts_1_a_X12_beginList_1 rfl rfl rfl (by decide +kernel) ⟨Nat.le_of_ble_eq_true rfl, Nat.le_of_ble_eq_true rfl⟩) ⟨fun a U g mk q => by obtain ⟨q0, q1, qP, qK, qD⟩ := q; exact ⟨q0, q1, qP, va_K.moved (u := U) (U := U.calling g mk a) (Vm.Alike.refl U.vm) qK, qD⟩, va_recv hKc hPc (ci := 14) (q0 := 1) rfl rfl, fun U hU hW => ⟨rfl, by rw [hU], by rw [hU]; exact hPc, va_K.moved hW.alike hKc, hDc.weaken (fun _ _ _ _ => trivial)⟩⟩ rfl rfl hl.1 rfl (lv_room (Nat.le_of_ble_eq_true rfl)) dX12_parts_1 ⟨Nat.le_of_ble_eq_true rfl, Nat.le_of_ble_eq_true rfl⟩) hS (fun q _ h => hFc q h) hFc (fun u t H1 locs ht hvm hw hB hz1 hk1 hS => ?_)
  obtain ⟨hP1, hK1, hD1⟩ := hB
  rw [ht] at hP1
  have hK1 := va_K.moved hvm.symm hK1
  try dsimp only at hw
  obtain ⟨hP, hD⟩ := va_join (wr := [((ad 5), .inl (c5, 4002, .inl (upd f5 (0 : Int32).toNatClampNeg 0)))]) (w1 := [((ad 14), .inl (c14, 200, .inl (upd f14 (0 : Int32).toNatClampNeg (-1)))), (h0, .inr (14, (((ck_4 ad)).set 42 (.int 0)).set 31 (.int 1)))]) hP hD [0, 2] [1] rfl rfl (by decide) (by decide) hk1 hFc hP1 hD1
  generalize H1 = H at hP hS ⊢
  have hP : va_P (dC, dI) vwCl [((ad 5), .inl (c5, 4002, .inl (upd f5 (0 : Int32).toNatClampNeg 0))), ((ad 14), .inl (c14, 200, .inl (upd f14 (0 : Int32).toNatClampNeg (-1)))), (h0, .inr (14, (((ck_4 ad)).set 42 (.int 0)).set 31 (.int 1)))] H := hP
  have hD : va_D A [((ad 5), .inl (c5, 4002, .inl (upd f5 (0 : Int32).toNatClampNeg 0))), ((ad 14), .inl (c14, 200, .inl (upd f14 (0 : Int32).toNatClampNeg (-1)))), (h0, .inr (14, (((ck_4 ad)).set 42 (.int 0)).set 31 (.int 1)))] := hD
  refine lv_aload_n hx hb dX12_parts_4 rfl (lv_at hl 0 rfl) ?_
  refine va_get (D := (dC, dI)) (ci := 14) (v := .int 0) (C := RX12) (T := TX12) (N := 151) hx hb hts hwX12 hown hK hP 2 rfl rfl 21 (Nat.le_of_ble_eq_true rfl) (hts (.fieldLink RX12 389 "ScriptTypesModel" "fault" "I") (List.mem_of_getElem? (i := 5) (by decide +kernel))) (fun _ h9 => h9) rfl dX12_parts_5 ?_
  refine lv_if_ne (tgt := 75) hx hb dX12_parts_8 (by decide) (fun c2_8 => absurd (by decide) c2_8) (fun _ => ?_)
  refine lv_iload_n hx hb dX12_parts_11 rfl (lv_at hl 1 rfl) ?_
  refine lv_if_eq (tgt := 27) hx hb dX12_parts_12 (by decide) (fun _ => ?_) (fun c3_12 => absurd (by decide) c3_12)
  refine lv_aload_n hx hb dX12_parts_27 rfl (lv_at hl 0 rfl) ?_
  refine va_get (D := (dC, dI)) (ci := 14) (v := .ref (ad 5)) (C := RX12) (T := TX12) (N := 151) hx hb hts hwX12 hown hK hP 2 rfl rfl 13 (Nat.le_of_ble_eq_true rfl) (hts (.fieldLink RX12 27 "ScriptTypesModel" "kind" "[I") (List.mem_of_getElem? (i := 6) (by decide +kernel))) (fun _ h9 => h9) rfl dX12_parts_28 ?_
  refine lv_aload_n hx hb dX12_parts_31 rfl (lv_at hl 0 rfl) ?_
  refine va_get (D := (dC, dI)) (ci := 14) (v := .int 0) (C := RX12) (T := TX12) (N := 151) hx hb hts hwX12 hown hK hP 2 rfl rfl 20 (Nat.le_of_ble_eq_true rfl) (hts (.fieldLink RX12 392 "ScriptTypesModel" "t" "I") (List.mem_of_getElem? (i := 7) (by decide +kernel))) (fun _ h9 => h9) rfl dX12_parts_32 ?_
  refine va_iald hx hb hK hP 0 0 rfl rfl (show ¬ ((0 : Int32) < 0 ∨ 4002 ≤ (0 : Int32).toNatClampNeg) by decide) dX12_parts_35 ?_
  refine lv_topi (fun f_4 ef_4 => ?_)
  obtain rfl : f_4 = 0 := by rw [ef_4]; rfl
  refine lv_if_eq (tgt := 75) hx hb dX12_parts_36 (by decide) (fun _ => ?_) (fun c5_36 => absurd (by decide) c5_36)
  refine lv_aload_n hx hb dX12_parts_75 rfl (lv_at hl 0 rfl) ?_
  have hPc := hP.sub (ws' := [((ad 14), .inl (c14, 200, .inl (upd f14 (0 : Int32).toNatClampNeg (-1)))), (h0, .inr (14, (((ck_4 ad)).set 42 (.int 0)).set 31 (.int 1)))]) [1, 2] rfl
  have hDc := hD.sub (ws' := [((ad 14), .inl (c14, 200, .inl (upd f14 (0 : Int32).toNatClampNeg (-1)))), (h0, .inr (14, (((ck_4 ad)).set 42 (.int 0)).set 31 (.int 1)))]) [1, 2] (by decide) rfl
  have hKc := hK.sub (tys' := [(c14, .int)]) [1] rfl
  have hFc := va_free (wc := [((ad 14), .inl (c14, 200, .inl (upd f14 (0 : Int32).toNatClampNeg (-1)))), (h0, .inr (14, (((ck_4 ad)).set 42 (.int 0)).set 31 (.int 1)))]) hD hS hA [1, 2] rfl
  refine va_calli (va_runV (As := []) (rest := []) ⟨hx, hb, hml, hown, hts⟩ (a_X12_ended_1 l dC dI H.size h0 aS aV ad c4 f4 c2 f2 c3 f3 c5 f5 c7 f7 c8 f8 c9 f9 c14 f14 c23 f23 c21 f21 c25 f25 c26 f26 c27 f27 c28 f28 c29 f29) (cwV 0 hts vg_a_X12_parts_1_a_X12_ended_1 rfl rfl rfl (by decide +kernel) ⟨Nat.le_of_ble_eq_true rfl, Nat.le_of_ble_eq_true rfl⟩) ⟨fun a U g mk q => by obtain ⟨q0, q1, qP, qK, qD⟩ := q; exact ⟨q0, q1, qP, va_K.moved (u := U) (U := U.calling g mk a) (Vm.Alike.refl U.vm) qK, qD⟩, va_recv hKc hPc (ci := 14) (q0 := 1) rfl rfl, fun U hU hW => ⟨rfl, by rw [hU], by rw [hU]; exact hPc, va_K.moved hW.alike hKc, hDc.weaken (fun _ _ _ _ => trivial)⟩⟩ rfl rfl hl.1 rfl (lv_room (Nat.le_of_ble_eq_true rfl)) dX12_parts_76 ⟨Nat.le_of_ble_eq_true rfl, Nat.le_of_ble_eq_true rfl⟩) hS (fun q _ h => hFc q h) hFc (fun r_6 u t H1 locs ht hvm hw hB hz1 hk1 hS => ?_)
  obtain ⟨hP1, hK1, hD1⟩ := hB
  rw [ht] at hP1
  have hK1 := va_K.moved hvm.symm hK1
  try dsimp only at hw
  obtain ⟨hP, hD⟩ := va_join (wr := [((ad 5), .inl (c5, 4002, .inl (upd f5 (0 : Int32).toNatClampNeg 0)))]) (w1 := [((ad 14), .inl (c14, 200, .inl (upd f14 (0 : Int32).toNatClampNeg (-1)))), (h0, .inr (14, ((((ck_4 ad)).set 42 (.int 0)).set 31 (.int 1)).set 31 (.int 0)))]) hP hD [1, 2] [0] rfl rfl (by decide) (by decide) hk1 hFc hP1 hD1
  generalize H1 = H at hP hS ⊢
  have hP : va_P (dC, dI) vwCl [((ad 5), .inl (c5, 4002, .inl (upd f5 (0 : Int32).toNatClampNeg 0))), ((ad 14), .inl (c14, 200, .inl (upd f14 (0 : Int32).toNatClampNeg (-1)))), (h0, .inr (14, ((((ck_4 ad)).set 42 (.int 0)).set 31 (.int 1)).set 31 (.int 0)))] H := hP
  have hD : va_D A [((ad 5), .inl (c5, 4002, .inl (upd f5 (0 : Int32).toNatClampNeg 0))), ((ad 14), .inl (c14, 200, .inl (upd f14 (0 : Int32).toNatClampNeg (-1)))), (h0, .inr (14, ((((ck_4 ad)).set 42 (.int 0)).set 31 (.int 1)).set 31 (.int 0)))] := hD
  obtain rfl : r_6 = (-1) := hw
  exact W.iret (v := (-1)) hx hb hr (fun t ht hW => ⟨⟨(-1), (), rfl, rfl, by rw [ht]; exact hP, va_K.moved hW.alike hK, hD⟩, hS.F ht⟩) hS.2.2 dX12_parts_79

def ck_5 (ad : Nat → Nat) : List Value := [.int 0, .ref (ad 0), .int 0, .ref (ad 1), .int 0, .ref (ad 2), .ref (ad 3), .int 31, .int 0, .int 0, .ref (ad 4), .int 0, .int 1, .ref (ad 5), .ref (ad 6), .ref (ad 7), .ref (ad 8), .ref (ad 9), .int 0, .int 1, .int 0, .int 0, .int 0, .int 0, .int 0, .ref (ad 10), .ref (ad 11), .ref (ad 12), .ref (ad 13), .ref (ad 14), .ref (ad 15), .int 0, .int 1, .ref (ad 16), .ref (ad 17), .ref (ad 18), .ref (ad 19), .ref (ad 20), .ref (ad 21), .ref (ad 22), .ref (ad 23), .ref (ad 24), .int 0, .int 0, .int 0, .int 0, .int 0, .int 0, .ref (ad 25), .ref (ad 26), .ref (ad 27), .ref (ad 28), .ref (ad 29), .int 0, .ref (ad 30), .int 0, .int 0, .ref (ad 31), .ref (ad 32), .int 0, .int 0, .ref (ad 33), .ref (ad 34), .ref (ad 35), .ref (ad 36), .ref (ad 37), .int 0, .ref (ad 38), .int 0, .ref (ad 39), .int 0, .int 0, .int 0, .int 0, .int 0, .int 0, .int 0, .ref (ad 40), .ref (ad 41), .ref (ad 42), .ref (ad 43), .ref (ad 44), .ref (ad 45), .ref (ad 46), .int 0, .int 0, .int 0, .ref (ad 47), .ref (ad 48), .ref (ad 49), .ref (ad 50), .ref (ad 51), .int 0, .ref (ad 52), .ref (ad 53), .ref (ad 54), .ref (ad 55), .ref (ad 56), .ref (ad 57), .ref (ad 58), .ref (ad 59), .ref (ad 60), .ref (ad 61), .ref (ad 62), .ref (ad 63), .ref (ad 64), .ref (ad 65), .int 0, .ref (ad 66), .int 0, .int 0, .int 0, .int 0, .int 0, .int 0, .int 0, .ref (ad 67), .ref (ad 68), .ref (ad 69), .int 0, .int 0, .int 0, .ref (ad 70), .ref (ad 71), .ref (ad 72), .ref (ad 73), .ref (ad 74), .int 0, .ref (ad 75), .ref (ad 76), .ref (ad 77), .ref (ad 78), .ref (ad 79), .ref (ad 80), .ref (ad 81), .ref (ad 82), .ref (ad 83), .ref (ad 84), .ref (ad 85), .ref (ad 86), .ref (ad 87), .ref (ad 88), .ref (ad 89), .long 0, .long 0, .int 0, .ref (ad 90), .int 0, .int 0, .int 0, .int 0]

def ck_6 (ad : Nat → Nat) : List Value := [.int 0, .ref (ad 0), .int 0, .ref (ad 1), .int 0, .ref (ad 2), .ref (ad 3), .int 31, .int 0, .int 0, .ref (ad 4), .int 0, .int 1, .ref (ad 5), .ref (ad 6), .ref (ad 7), .ref (ad 8), .ref (ad 9), .int 0, .int 1, .int 0, .int 0, .int 0, .int 0, .int 0, .ref (ad 10), .ref (ad 11), .ref (ad 12), .ref (ad 13), .ref (ad 14), .ref (ad 15), .int 0, .int 1, .ref (ad 16), .ref (ad 17), .ref (ad 18), .ref (ad 19), .ref (ad 20), .ref (ad 21), .ref (ad 22), .ref (ad 23), .ref (ad 24), .int 0, .int 0, .int 0, .int 0, .int 0, .int 0, .ref (ad 25), .ref (ad 26), .ref (ad 27), .ref (ad 28), .ref (ad 29), .int 0, .ref (ad 30), .int 0, .int 0, .ref (ad 31), .ref (ad 32), .int 0, .int 0, .ref (ad 33), .ref (ad 34), .ref (ad 35), .ref (ad 36), .ref (ad 37), .int 0, .ref (ad 38), .int 0, .ref (ad 39), .int 0, .int 0, .int 0, .int 0, .int 0, .int 0, .int 0, .ref (ad 40), .ref (ad 41), .ref (ad 42), .ref (ad 43), .ref (ad 44), .ref (ad 45), .ref (ad 46), .int 0, .int 0, .int 0, .ref (ad 47), .ref (ad 48), .ref (ad 49), .ref (ad 50), .ref (ad 51), .int 0, .ref (ad 52), .ref (ad 53), .ref (ad 54), .ref (ad 55), .ref (ad 56), .ref (ad 57), .ref (ad 58), .ref (ad 59), .ref (ad 60), .ref (ad 61), .ref (ad 62), .ref (ad 63), .ref (ad 64), .ref (ad 65), .int 0, .ref (ad 66), .int 0, .int 0, .int 0, .int 0, .int 0, .int 0, .int 0, .ref (ad 67), .ref (ad 68), .ref (ad 69), .int 0, .int 0, .int 0, .ref (ad 70), .ref (ad 71), .ref (ad 72), .ref (ad 73), .ref (ad 74), .int 0, .ref (ad 75), .ref (ad 76), .ref (ad 77), .ref (ad 78), .ref (ad 79), .ref (ad 80), .ref (ad 81), .ref (ad 82), .ref (ad 83), .ref (ad 84), .ref (ad 85), .ref (ad 86), .ref (ad 87), .ref (ad 88), .ref (ad 89), .long 0, .long 0, .int 0, .ref (ad 90), .int 0, .int 0, .int 0, .int 0]

def vb_a_X12_codes_1 : List Cond := .code yX12_codes cX12_codes 4 none :: ([.fieldLink RX12 707 "ScriptTypesModel" "waiting" "I", .fieldLink RX12 609 "ScriptTypesModel" "manyInstructions" "Z"] ++ [])
def vw_a_X12_codes_1 : List Cond := vb_a_X12_codes_1 ++ wsX120
set_option maxHeartbeats 8000000 in
set_option maxRecDepth 100000 in
theorem a_X12_codes_1 (l : Launch) (dC : Nat → ClassId) (dI : Nat → Nat → Nat) (sz : Nat) (h0 aS aV : Nat) (ad : Nat → Nat) (c4 : ClassId) (f4 : Nat → Int32) (c2 : ClassId) (f2 : Nat → Int32) (c3 : ClassId) (f3 : Nat → Int32) (c5 : ClassId) (f5 : Nat → Int32) (c7 : ClassId) (f7 : Nat → Int32) (c8 : ClassId) (f8 : Nat → Int32) (c9 : ClassId) (f9 : Nat → Int32) (c14 : ClassId) (f14 : Nat → Int32) (c23 : ClassId) (f23 : Nat → Int32) (c21 : ClassId) (f21 : Nat → Int32) (c25 : ClassId) (f25 : Nat → Int32) (c26 : ClassId) (f26 : Nat → Int32) (c27 : ClassId) (f27 : Nat → Int32) (c28 : ClassId) (f28 : Nat → Int32) (c29 : ClassId) (f29 : Nat → Int32) : Met l yX12_codes vw_a_X12_codes_1 ({ frames := 0, cells := 0, slots := 0, locals := 0 }) (va_Pc [.ref h0, .int (-1)] (fun U => U.heap.size = sz ∧ va_P (dC, dI) vwCl [(h0, .inr (14, ((ck_6 ad)).set 60 (.int (-1))))] U.heap ∧ va_K (dC, dI) vwCl [] U ∧ va_D (fun _ => True) [(h0, .inr (14, ((ck_6 ad)).set 60 (.int (-1))))])) (va_Qv (fun _ : Unit => True) (fun (_ : Unit) t => va_P (dC, dI) vwCl [(h0, .inr (14, (((ck_6 ad)).set 60 (.int (-1))).set 68 (.int 0)))] t.heap ∧ va_K (dC, dI) vwCl [] t ∧ va_D (va_A [(h0, .inr (14, ((ck_6 ad)).set 60 (.int (-1))))] sz) [(h0, .inr (14, (((ck_6 ad)).set 60 (.int (-1))).set 68 (.int 0)))]) (va_A [(h0, .inr (14, ((ck_6 ad)).set 60 (.int (-1))))] sz)) 0 0 (va_A [(h0, .inr (14, ((ck_6 ad)).set 60 (.int (-1))))] sz) := by
  refine Met.ofW (cc := cX12_codes) (maxL := 4) (ret := none) (by decide) rfl ?_
  intro p e s m args below meth c s₁ B hml hv
  obtain ⟨rfl, hsz, hP, hK, hD0⟩ := hv
  have hx := B.exec
  have hb := B.bytes
  have hr := B.returns
  have hts := atoms_spec (ws := vw_a_X12_codes_1) B.pre
  have hown : s.vm.findClass RX12 = some m.cls := findClass_of_methodNamed B.named
  have hlocks := B.notSynchronized
  subst hsz
  have hD := hD0.self (sz := s.heap.size)
  generalize hAe : va_A [(h0, .inr (14, ((ck_6 ad)).set 60 (.int (-1))))] s.heap.size = A at hD ⊢
  have hA : ∀ q : Nat, s.heap.size ≤ q → A q := fun q h => by rw [← hAe]; exact Or.inr h
  have hS : va_S A s.heap s.heap [] := va_S.rf
  have hP : va_P (dC, dI) vwCl [(h0, .inr (14, ((ck_6 ad)).set 60 (.int (-1))))] s.heap := hP
  have hl := lv_entry ([.ref h0, .int (-1)]) (n := 4) (Nat.le_of_ble_eq_true rfl)
  rw [lg_entry_eq]
  generalize (lg_sl ([.ref h0, .int (-1)]) ++ List.replicate (4 - (lg_sl ([.ref h0, .int (-1)])).length) Slot.unset).toArray = ls at hl ⊢
  have hl : lv_has ls 4 [(0, .ref h0), (1, .int (-1))] := hl
  have hwX12 : ∀ w ∈ wsX120, w ∈ vw_a_X12_codes_1 := (fun w h => List.mem_append_right _ h)
  refine lv_aload_n hx hb dX12_codes_0 rfl (lv_at hl 0 rfl) ?_
  refine va_get (D := (dC, dI)) (ci := 14) (v := .int 0) (C := RX12) (T := TX12) (N := 151) hx hb hts hwX12 hown hK hP 0 rfl rfl 68 (Nat.le_of_ble_eq_true rfl) (hts (.fieldLink RX12 707 "ScriptTypesModel" "waiting" "I") (List.mem_of_getElem? (i := 1) (by decide +kernel))) (fun _ h9 => h9) rfl dX12_codes_1 ?_
  refine lv_istore_n (lv' := [(2, .int 0), (0, .ref h0), (1, .int (-1))]) hx hb dX12_codes_4 rfl hl (by decide) rfl (fun ls hl => ?_)
  refine lv_iload_n hx hb dX12_codes_5 rfl (lv_at hl 2 rfl) ?_
  refine lv_istore_n (lv' := [(3, .int (-1)), (2, .int 0), (0, .ref h0), (1, .int (-1))]) hx hb dX12_codes_6 rfl hl (by decide) rfl (fun ls hl => ?_)
  refine lv_aload_n hx hb dX12_codes_7 rfl (lv_at hl 2 rfl) ?_
  refine va_get (D := (dC, dI)) (ci := 14) (v := .int 0) (C := RX12) (T := TX12) (N := 151) hx hb hts hwX12 hown hK hP 0 rfl rfl 47 (Nat.le_of_ble_eq_true rfl) (hts (.fieldLink RX12 609 "ScriptTypesModel" "manyInstructions" "Z") (List.mem_of_getElem? (i := 2) (by decide +kernel))) (fun _ h9 => h9) rfl dX12_codes_8 ?_
  refine lv_if_ne (tgt := 116) hx hb dX12_codes_11 (by decide) (fun c1_11 => absurd (by decide) c1_11) (fun _ => ?_)
  refine lv_iload_n hx hb dX12_codes_14 rfl (lv_at hl 0 rfl) ?_
  refine lv_iconst (v := (-1)) hx hb dX12_codes_15 (by decide) ?_
  refine lv_icmp_ne (tgt := 27) hx hb dX12_codes_16 (by decide) (fun c2_16 => absurd (by decide) c2_16) (fun _ => ?_)
  refine lv_aload_n hx hb dX12_codes_19 rfl (lv_at hl 2 rfl) ?_
  refine va_get (D := (dC, dI)) (ci := 14) (v := .int 0) (C := RX12) (T := TX12) (N := 151) hx hb hts hwX12 hown hK hP 0 rfl rfl 68 (Nat.le_of_ble_eq_true rfl) (hts (.fieldLink RX12 707 "ScriptTypesModel" "waiting" "I") (List.mem_of_getElem? (i := 1) (by decide +kernel))) (fun _ h9 => h9) rfl dX12_codes_20 ?_
  refine lv_iload_n hx hb dX12_codes_23 rfl (lv_at hl 1 rfl) ?_
  refine lv_icmp_le (tgt := 116) hx hb dX12_codes_24 (by decide) (fun _ => ?_) (fun c3_24 => absurd (by decide) c3_24)
  refine lv_aload_n hx hb dX12_codes_116 rfl (lv_at hl 2 rfl) ?_
  refine lv_iload_n hx hb dX12_codes_117 rfl (lv_at hl 1 rfl) ?_
  refine va_put (D := (dC, dI)) (ci := 14) (v := .int 0) (ty := tyX12 68) (C := RX12) (T := TX12) (N := 151) hx hb hts hwX12 tyX12 tyX12_ok nmX12 hown hK hP hD hS 0 rfl rfl 68 (Nat.le_of_ble_eq_true rfl) (hts (.fieldLink RX12 707 "ScriptTypesModel" "waiting" "I") (List.mem_of_getElem? (i := 1) (by decide +kernel))) (fun _ h9 => h9) rfl (tyX12_ok 68 (Nat.le_of_ble_eq_true rfl)) rfl rfl (Nat.le_of_ble_eq_true rfl) dX12_codes_118 (fun H locs hP hD hS => ?_)
  have hP : va_P (dC, dI) vwCl [(h0, .inr (14, (((ck_6 ad)).set 60 (.int (-1))).set 68 (.int 0)))] H := hP
  have hD : va_D A [(h0, .inr (14, (((ck_6 ad)).set 60 (.int (-1))).set 68 (.int 0)))] := hD
  exact W.vret hx hb hr (fun t ht hW => ⟨⟨(), rfl, trivial, by rw [ht]; exact hP, va_K.moved hW.alike hK, hD⟩, hS.F ht⟩) hS.2.2 dX12_codes_121

def vb_a_X12_emit_1 : List Cond := .code yX12_emit cX12_emit 4 none :: ([.fieldLink RX12 606 "ScriptTypesModel" "instructions" "I", .fieldLink RX12 89 "ScriptTypesModel" "operation" "[I", .fieldLink RX12 92 "ScriptTypesModel" "a" "[I", .fieldLink RX12 95 "ScriptTypesModel" "b" "[I", .fieldLink RX12 98 "ScriptTypesModel" "functionOf" "[I", .fieldLink RX12 612 "ScriptTypesModel" "coding" "I"] ++ [])
def vw_a_X12_emit_1 : List Cond := vb_a_X12_emit_1 ++ wsX120
set_option maxHeartbeats 8000000 in
set_option maxRecDepth 100000 in
theorem a_X12_emit_1 (l : Launch) (dC : Nat → ClassId) (dI : Nat → Nat → Nat) (sz : Nat) (h0 aS aV : Nat) (ad : Nat → Nat) (c4 : ClassId) (f4 : Nat → Int32) (c2 : ClassId) (f2 : Nat → Int32) (c3 : ClassId) (f3 : Nat → Int32) (c5 : ClassId) (f5 : Nat → Int32) (c7 : ClassId) (f7 : Nat → Int32) (c8 : ClassId) (f8 : Nat → Int32) (c9 : ClassId) (f9 : Nat → Int32) (c14 : ClassId) (f14 : Nat → Int32) (c23 : ClassId) (f23 : Nat → Int32) (c21 : ClassId) (f21 : Nat → Int32) (c25 : ClassId) (f25 : Nat → Int32) (c26 : ClassId) (f26 : Nat → Int32) (c27 : ClassId) (f27 : Nat → Int32) (c28 : ClassId) (f28 : Nat → Int32) (c29 : ClassId) (f29 : Nat → Int32) : Met l yX12_emit vw_a_X12_emit_1 ({ frames := 0, cells := 0, slots := 0, locals := 0 }) (va_Pc [.ref h0, .int 0, .int 0, .int 0] (fun U => U.heap.size = sz ∧ va_P (dC, dI) vwCl [((ad 25), .inl (c25, 600, .inl f25)), ((ad 26), .inl (c26, 600, .inl f26)), ((ad 27), .inl (c27, 600, .inl f27)), ((ad 28), .inl (c28, 600, .inl f28)), (h0, .inr (14, (((ck_6 ad)).set 60 (.int (-1))).set 68 (.int 0)))] U.heap ∧ va_K (dC, dI) vwCl [(c25, .int), (c26, .int), (c27, .int), (c28, .int)] U ∧ va_D (fun _ => True) [((ad 25), .inl (c25, 600, .inl f25)), ((ad 26), .inl (c26, 600, .inl f26)), ((ad 27), .inl (c27, 600, .inl f27)), ((ad 28), .inl (c28, 600, .inl f28)), (h0, .inr (14, (((ck_6 ad)).set 60 (.int (-1))).set 68 (.int 0)))])) (va_Qv (fun _ : Unit => True) (fun (_ : Unit) t => va_P (dC, dI) vwCl [((ad 25), .inl (c25, 600, .inl (upd f25 (0 : Int32).toNatClampNeg 0))), ((ad 26), .inl (c26, 600, .inl (upd f26 (0 : Int32).toNatClampNeg 0))), ((ad 27), .inl (c27, 600, .inl (upd f27 (0 : Int32).toNatClampNeg 0))), ((ad 28), .inl (c28, 600, .inl (upd f28 (0 : Int32).toNatClampNeg 0))), (h0, .inr (14, ((((ck_6 ad)).set 60 (.int (-1))).set 68 (.int 0)).set 46 (.int 1)))] t.heap ∧ va_K (dC, dI) vwCl [(c25, .int), (c26, .int), (c27, .int), (c28, .int)] t ∧ va_D (va_A [((ad 25), .inl (c25, 600, .inl f25)), ((ad 26), .inl (c26, 600, .inl f26)), ((ad 27), .inl (c27, 600, .inl f27)), ((ad 28), .inl (c28, 600, .inl f28)), (h0, .inr (14, (((ck_6 ad)).set 60 (.int (-1))).set 68 (.int 0)))] sz) [((ad 25), .inl (c25, 600, .inl (upd f25 (0 : Int32).toNatClampNeg 0))), ((ad 26), .inl (c26, 600, .inl (upd f26 (0 : Int32).toNatClampNeg 0))), ((ad 27), .inl (c27, 600, .inl (upd f27 (0 : Int32).toNatClampNeg 0))), ((ad 28), .inl (c28, 600, .inl (upd f28 (0 : Int32).toNatClampNeg 0))), (h0, .inr (14, ((((ck_6 ad)).set 60 (.int (-1))).set 68 (.int 0)).set 46 (.int 1)))]) (va_A [((ad 25), .inl (c25, 600, .inl f25)), ((ad 26), .inl (c26, 600, .inl f26)), ((ad 27), .inl (c27, 600, .inl f27)), ((ad 28), .inl (c28, 600, .inl f28)), (h0, .inr (14, (((ck_6 ad)).set 60 (.int (-1))).set 68 (.int 0)))] sz)) 0 0 (va_A [((ad 25), .inl (c25, 600, .inl f25)), ((ad 26), .inl (c26, 600, .inl f26)), ((ad 27), .inl (c27, 600, .inl f27)), ((ad 28), .inl (c28, 600, .inl f28)), (h0, .inr (14, (((ck_6 ad)).set 60 (.int (-1))).set 68 (.int 0)))] sz) := by
  refine Met.ofW (cc := cX12_emit) (maxL := 4) (ret := none) (by decide) rfl ?_
  intro p e s m args below meth c s₁ B hml hv
  obtain ⟨rfl, hsz, hP, hK, hD0⟩ := hv
  have hx := B.exec
  have hb := B.bytes
  have hr := B.returns
  have hts := atoms_spec (ws := vw_a_X12_emit_1) B.pre
  have hown : s.vm.findClass RX12 = some m.cls := findClass_of_methodNamed B.named
  have hlocks := B.notSynchronized
  subst hsz
  have hD := hD0.self (sz := s.heap.size)
  generalize hAe : va_A [((ad 25), .inl (c25, 600, .inl f25)), ((ad 26), .inl (c26, 600, .inl f26)), ((ad 27), .inl (c27, 600, .inl f27)), ((ad 28), .inl (c28, 600, .inl f28)), (h0, .inr (14, (((ck_6 ad)).set 60 (.int (-1))).set 68 (.int 0)))] s.heap.size = A at hD ⊢
  have hA : ∀ q : Nat, s.heap.size ≤ q → A q := fun q h => by rw [← hAe]; exact Or.inr h
  have hS : va_S A s.heap s.heap [] := va_S.rf
  have hP : va_P (dC, dI) vwCl [((ad 25), .inl (c25, 600, .inl f25)), ((ad 26), .inl (c26, 600, .inl f26)), ((ad 27), .inl (c27, 600, .inl f27)), ((ad 28), .inl (c28, 600, .inl f28)), (h0, .inr (14, (((ck_6 ad)).set 60 (.int (-1))).set 68 (.int 0)))] s.heap := hP
  have hl := lv_entry ([.ref h0, .int 0, .int 0, .int 0]) (n := 4) (Nat.le_of_ble_eq_true rfl)
  rw [lg_entry_eq]
  generalize (lg_sl ([.ref h0, .int 0, .int 0, .int 0]) ++ List.replicate (4 - (lg_sl ([.ref h0, .int 0, .int 0, .int 0])).length) Slot.unset).toArray = ls at hl ⊢
  have hl : lv_has ls 4 [(0, .ref h0), (1, .int 0), (2, .int 0), (3, .int 0)] := hl
  have hwX12 : ∀ w ∈ wsX120, w ∈ vw_a_X12_emit_1 := (fun w h => List.mem_append_right _ h)
  refine lv_aload_n hx hb dX12_emit_0 rfl (lv_at hl 0 rfl) ?_
  refine va_get (D := (dC, dI)) (ci := 14) (v := .int 0) (C := RX12) (T := TX12) (N := 151) hx hb hts hwX12 hown hK hP 4 rfl rfl 46 (Nat.le_of_ble_eq_true rfl) (hts (.fieldLink RX12 606 "ScriptTypesModel" "instructions" "I") (List.mem_of_getElem? (i := 1) (by decide +kernel))) (fun _ h9 => h9) rfl dX12_emit_1 ?_
  refine lv_sipush (v := 600) hx hb dX12_emit_4 (by decide) ?_
  refine lv_icmp_ne (tgt := 16) hx hb dX12_emit_7 (by decide) (fun _ => ?_) (fun c1_7 => absurd c1_7 (by decide))
  refine lv_aload_n hx hb dX12_emit_16 rfl (lv_at hl 0 rfl) ?_
  refine va_get (D := (dC, dI)) (ci := 14) (v := .ref (ad 25)) (C := RX12) (T := TX12) (N := 151) hx hb hts hwX12 hown hK hP 4 rfl rfl 48 (Nat.le_of_ble_eq_true rfl) (hts (.fieldLink RX12 89 "ScriptTypesModel" "operation" "[I") (List.mem_of_getElem? (i := 2) (by decide +kernel))) (fun _ h9 => h9) rfl dX12_emit_17 ?_
  refine lv_aload_n hx hb dX12_emit_20 rfl (lv_at hl 0 rfl) ?_
  refine va_get (D := (dC, dI)) (ci := 14) (v := .int 0) (C := RX12) (T := TX12) (N := 151) hx hb hts hwX12 hown hK hP 4 rfl rfl 46 (Nat.le_of_ble_eq_true rfl) (hts (.fieldLink RX12 606 "ScriptTypesModel" "instructions" "I") (List.mem_of_getElem? (i := 1) (by decide +kernel))) (fun _ h9 => h9) rfl dX12_emit_21 ?_
  refine lv_iload_n hx hb dX12_emit_24 rfl (lv_at hl 1 rfl) ?_
  refine va_iast hx hb hK hP hD hS 0 0 rfl rfl (show ¬ ((0 : Int32) < 0 ∨ 600 ≤ (0 : Int32).toNatClampNeg) by decide) dX12_emit_25 (fun H locs hP hD hS => ?_)
  have hP : va_P (dC, dI) vwCl [((ad 25), .inl (c25, 600, .inl (upd f25 (0 : Int32).toNatClampNeg 0))), ((ad 26), .inl (c26, 600, .inl f26)), ((ad 27), .inl (c27, 600, .inl f27)), ((ad 28), .inl (c28, 600, .inl f28)), (h0, .inr (14, (((ck_6 ad)).set 60 (.int (-1))).set 68 (.int 0)))] H := hP
  have hD : va_D A [((ad 25), .inl (c25, 600, .inl (upd f25 (0 : Int32).toNatClampNeg 0))), ((ad 26), .inl (c26, 600, .inl f26)), ((ad 27), .inl (c27, 600, .inl f27)), ((ad 28), .inl (c28, 600, .inl f28)), (h0, .inr (14, (((ck_6 ad)).set 60 (.int (-1))).set 68 (.int 0)))] := hD
  refine lv_aload_n hx hb dX12_emit_26 rfl (lv_at hl 0 rfl) ?_
  refine va_get (D := (dC, dI)) (ci := 14) (v := .ref (ad 26)) (C := RX12) (T := TX12) (N := 151) hx hb hts hwX12 hown hK hP 4 rfl rfl 49 (Nat.le_of_ble_eq_true rfl) (hts (.fieldLink RX12 92 "ScriptTypesModel" "a" "[I") (List.mem_of_getElem? (i := 3) (by decide +kernel))) (fun _ h9 => h9) rfl dX12_emit_27 ?_
  refine lv_aload_n hx hb dX12_emit_30 rfl (lv_at hl 0 rfl) ?_
  refine va_get (D := (dC, dI)) (ci := 14) (v := .int 0) (C := RX12) (T := TX12) (N := 151) hx hb hts hwX12 hown hK hP 4 rfl rfl 46 (Nat.le_of_ble_eq_true rfl) (hts (.fieldLink RX12 606 "ScriptTypesModel" "instructions" "I") (List.mem_of_getElem? (i := 1) (by decide +kernel))) (fun _ h9 => h9) rfl dX12_emit_31 ?_
  refine lv_iload_n hx hb dX12_emit_34 rfl (lv_at hl 2 rfl) ?_
  refine va_iast hx hb hK hP hD hS 1 1 rfl rfl (show ¬ ((0 : Int32) < 0 ∨ 600 ≤ (0 : Int32).toNatClampNeg) by decide) dX12_emit_35 (fun H locs hP hD hS => ?_)
  have hP : va_P (dC, dI) vwCl [((ad 25), .inl (c25, 600, .inl (upd f25 (0 : Int32).toNatClampNeg 0))), ((ad 26), .inl (c26, 600, .inl (upd f26 (0 : Int32).toNatClampNeg 0))), ((ad 27), .inl (c27, 600, .inl f27)), ((ad 28), .inl (c28, 600, .inl f28)), (h0, .inr (14, (((ck_6 ad)).set 60 (.int (-1))).set 68 (.int 0)))] H := hP
  have hD : va_D A [((ad 25), .inl (c25, 600, .inl (upd f25 (0 : Int32).toNatClampNeg 0))), ((ad 26), .inl (c26, 600, .inl (upd f26 (0 : Int32).toNatClampNeg 0))), ((ad 27), .inl (c27, 600, .inl f27)), ((ad 28), .inl (c28, 600, .inl f28)), (h0, .inr (14, (((ck_6 ad)).set 60 (.int (-1))).set 68 (.int 0)))] := hD
  refine lv_aload_n hx hb dX12_emit_36 rfl (lv_at hl 0 rfl) ?_
  refine va_get (D := (dC, dI)) (ci := 14) (v := .ref (ad 27)) (C := RX12) (T := TX12) (N := 151) hx hb hts hwX12 hown hK hP 4 rfl rfl 50 (Nat.le_of_ble_eq_true rfl) (hts (.fieldLink RX12 95 "ScriptTypesModel" "b" "[I") (List.mem_of_getElem? (i := 4) (by decide +kernel))) (fun _ h9 => h9) rfl dX12_emit_37 ?_
  refine lv_aload_n hx hb dX12_emit_40 rfl (lv_at hl 0 rfl) ?_
  refine va_get (D := (dC, dI)) (ci := 14) (v := .int 0) (C := RX12) (T := TX12) (N := 151) hx hb hts hwX12 hown hK hP 4 rfl rfl 46 (Nat.le_of_ble_eq_true rfl) (hts (.fieldLink RX12 606 "ScriptTypesModel" "instructions" "I") (List.mem_of_getElem? (i := 1) (by decide +kernel))) (fun _ h9 => h9) rfl dX12_emit_41 ?_
  refine lv_iload_n hx hb dX12_emit_44 rfl (lv_at hl 3 rfl) ?_
  refine va_iast hx hb hK hP hD hS 2 2 rfl rfl (show ¬ ((0 : Int32) < 0 ∨ 600 ≤ (0 : Int32).toNatClampNeg) by decide) dX12_emit_45 (fun H locs hP hD hS => ?_)
  have hP : va_P (dC, dI) vwCl [((ad 25), .inl (c25, 600, .inl (upd f25 (0 : Int32).toNatClampNeg 0))), ((ad 26), .inl (c26, 600, .inl (upd f26 (0 : Int32).toNatClampNeg 0))), ((ad 27), .inl (c27, 600, .inl (upd f27 (0 : Int32).toNatClampNeg 0))), ((ad 28), .inl (c28, 600, .inl f28)), (h0, .inr (14, (((ck_6 ad)).set 60 (.int (-1))).set 68 (.int 0)))] H := hP
  have hD : va_D A [((ad 25), .inl (c25, 600, .inl (upd f25 (0 : Int32).toNatClampNeg 0))), ((ad 26), .inl (c26, 600, .inl (upd f26 (0 : Int32).toNatClampNeg 0))), ((ad 27), .inl (c27, 600, .inl (upd f27 (0 : Int32).toNatClampNeg 0))), ((ad 28), .inl (c28, 600, .inl f28)), (h0, .inr (14, (((ck_6 ad)).set 60 (.int (-1))).set 68 (.int 0)))] := hD
  refine lv_aload_n hx hb dX12_emit_46 rfl (lv_at hl 0 rfl) ?_
  refine va_get (D := (dC, dI)) (ci := 14) (v := .ref (ad 28)) (C := RX12) (T := TX12) (N := 151) hx hb hts hwX12 hown hK hP 4 rfl rfl 51 (Nat.le_of_ble_eq_true rfl) (hts (.fieldLink RX12 98 "ScriptTypesModel" "functionOf" "[I") (List.mem_of_getElem? (i := 5) (by decide +kernel))) (fun _ h9 => h9) rfl dX12_emit_47 ?_
  refine lv_aload_n hx hb dX12_emit_50 rfl (lv_at hl 0 rfl) ?_
  refine va_get (D := (dC, dI)) (ci := 14) (v := .int 0) (C := RX12) (T := TX12) (N := 151) hx hb hts hwX12 hown hK hP 4 rfl rfl 46 (Nat.le_of_ble_eq_true rfl) (hts (.fieldLink RX12 606 "ScriptTypesModel" "instructions" "I") (List.mem_of_getElem? (i := 1) (by decide +kernel))) (fun _ h9 => h9) rfl dX12_emit_51 ?_
  refine lv_aload_n hx hb dX12_emit_54 rfl (lv_at hl 0 rfl) ?_
  refine va_get (D := (dC, dI)) (ci := 14) (v := .int 0) (C := RX12) (T := TX12) (N := 151) hx hb hts hwX12 hown hK hP 4 rfl rfl 56 (Nat.le_of_ble_eq_true rfl) (hts (.fieldLink RX12 612 "ScriptTypesModel" "coding" "I") (List.mem_of_getElem? (i := 6) (by decide +kernel))) (fun _ h9 => h9) rfl dX12_emit_55 ?_
  refine va_iast hx hb hK hP hD hS 3 3 rfl rfl (show ¬ ((0 : Int32) < 0 ∨ 600 ≤ (0 : Int32).toNatClampNeg) by decide) dX12_emit_58 (fun H locs hP hD hS => ?_)
  have hP : va_P (dC, dI) vwCl [((ad 25), .inl (c25, 600, .inl (upd f25 (0 : Int32).toNatClampNeg 0))), ((ad 26), .inl (c26, 600, .inl (upd f26 (0 : Int32).toNatClampNeg 0))), ((ad 27), .inl (c27, 600, .inl (upd f27 (0 : Int32).toNatClampNeg 0))), ((ad 28), .inl (c28, 600, .inl (upd f28 (0 : Int32).toNatClampNeg 0))), (h0, .inr (14, (((ck_6 ad)).set 60 (.int (-1))).set 68 (.int 0)))] H := hP
  have hD : va_D A [((ad 25), .inl (c25, 600, .inl (upd f25 (0 : Int32).toNatClampNeg 0))), ((ad 26), .inl (c26, 600, .inl (upd f26 (0 : Int32).toNatClampNeg 0))), ((ad 27), .inl (c27, 600, .inl (upd f27 (0 : Int32).toNatClampNeg 0))), ((ad 28), .inl (c28, 600, .inl (upd f28 (0 : Int32).toNatClampNeg 0))), (h0, .inr (14, (((ck_6 ad)).set 60 (.int (-1))).set 68 (.int 0)))] := hD
  refine lv_aload_n hx hb dX12_emit_59 rfl (lv_at hl 0 rfl) ?_
  refine lv_dup hx hb dX12_emit_60 rfl ?_
  refine va_get (D := (dC, dI)) (ci := 14) (v := .int 0) (C := RX12) (T := TX12) (N := 151) hx hb hts hwX12 hown hK hP 4 rfl rfl 46 (Nat.le_of_ble_eq_true rfl) (hts (.fieldLink RX12 606 "ScriptTypesModel" "instructions" "I") (List.mem_of_getElem? (i := 1) (by decide +kernel))) (fun _ h9 => h9) rfl dX12_emit_61 ?_
  refine lv_iconst (v := 1) hx hb dX12_emit_64 (by decide) ?_
  refine lv_iadd hx hb dX12_emit_65 ?_
  refine lv_topi (fun f_2 ef_2 => ?_)
  obtain rfl : f_2 = 1 := by rw [ef_2]; decide
  refine va_put (D := (dC, dI)) (ci := 14) (v := .int 1) (ty := tyX12 46) (C := RX12) (T := TX12) (N := 151) hx hb hts hwX12 tyX12 tyX12_ok nmX12 hown hK hP hD hS 4 rfl rfl 46 (Nat.le_of_ble_eq_true rfl) (hts (.fieldLink RX12 606 "ScriptTypesModel" "instructions" "I") (List.mem_of_getElem? (i := 1) (by decide +kernel))) (fun _ h9 => h9) rfl (tyX12_ok 46 (Nat.le_of_ble_eq_true rfl)) rfl rfl (Nat.le_of_ble_eq_true rfl) dX12_emit_66 (fun H locs hP hD hS => ?_)
  have hP : va_P (dC, dI) vwCl [((ad 25), .inl (c25, 600, .inl (upd f25 (0 : Int32).toNatClampNeg 0))), ((ad 26), .inl (c26, 600, .inl (upd f26 (0 : Int32).toNatClampNeg 0))), ((ad 27), .inl (c27, 600, .inl (upd f27 (0 : Int32).toNatClampNeg 0))), ((ad 28), .inl (c28, 600, .inl (upd f28 (0 : Int32).toNatClampNeg 0))), (h0, .inr (14, ((((ck_6 ad)).set 60 (.int (-1))).set 68 (.int 0)).set 46 (.int 1)))] H := hP
  have hD : va_D A [((ad 25), .inl (c25, 600, .inl (upd f25 (0 : Int32).toNatClampNeg 0))), ((ad 26), .inl (c26, 600, .inl (upd f26 (0 : Int32).toNatClampNeg 0))), ((ad 27), .inl (c27, 600, .inl (upd f27 (0 : Int32).toNatClampNeg 0))), ((ad 28), .inl (c28, 600, .inl (upd f28 (0 : Int32).toNatClampNeg 0))), (h0, .inr (14, ((((ck_6 ad)).set 60 (.int (-1))).set 68 (.int 0)).set 46 (.int 1)))] := hD
  exact W.vret hx hb hr (fun t ht hW => ⟨⟨(), rfl, trivial, by rw [ht]; exact hP, va_K.moved hW.alike hK, hD⟩, hS.F ht⟩) hS.2.2 dX12_emit_69

def vb_a_X12_constant_1 : List Cond := .code yX12_constant cX12_constant 3 none :: ([.methodLink RX12 615 yX12_emit, .instanceMethod yX12_emit, .selects RX12 yX12_emit yX12_emit, .initialized RX12] ++ (vb_a_X12_emit_1 ++ []))
def vw_a_X12_constant_1 : List Cond := vb_a_X12_constant_1 ++ wsX120
set_option maxRecDepth 20000 in
theorem vg_a_X12_constant_1_a_X12_emit_1 : GoodIn vw_a_X12_constant_1 (wsV RX12 615 RX12 yX12_emit vw_a_X12_emit_1) := goodIn_app (goodIn_of _ (by decide +kernel)) (goodIn_sub (v_sub (fun w h => List.mem_cons_of_mem _ (List.mem_append_right _ (List.mem_append_left _ (h))))) (by decide +kernel))
set_option maxHeartbeats 8000000 in
set_option maxRecDepth 100000 in
theorem a_X12_constant_1 (l : Launch) (dC : Nat → ClassId) (dI : Nat → Nat → Nat) (sz : Nat) (h0 aS aV : Nat) (ad : Nat → Nat) (c4 : ClassId) (f4 : Nat → Int32) (c2 : ClassId) (f2 : Nat → Int32) (c3 : ClassId) (f3 : Nat → Int32) (c5 : ClassId) (f5 : Nat → Int32) (c7 : ClassId) (f7 : Nat → Int32) (c8 : ClassId) (f8 : Nat → Int32) (c9 : ClassId) (f9 : Nat → Int32) (c14 : ClassId) (f14 : Nat → Int32) (c23 : ClassId) (f23 : Nat → Int32) (c21 : ClassId) (f21 : Nat → Int32) (c25 : ClassId) (f25 : Nat → Int32) (c26 : ClassId) (f26 : Nat → Int32) (c27 : ClassId) (f27 : Nat → Int32) (c28 : ClassId) (f28 : Nat → Int32) (c29 : ClassId) (f29 : Nat → Int32) : Met l yX12_constant vw_a_X12_constant_1 ({ frames := 1, cells := 0, slots := 0, locals := 23 }) (va_Pc [.ref h0, .int 0, .int 0] (fun U => U.heap.size = sz ∧ va_P (dC, dI) vwCl [((ad 25), .inl (c25, 600, .inl f25)), ((ad 26), .inl (c26, 600, .inl f26)), ((ad 27), .inl (c27, 600, .inl f27)), ((ad 28), .inl (c28, 600, .inl f28)), (h0, .inr (14, (((ck_6 ad)).set 60 (.int (-1))).set 68 (.int 0)))] U.heap ∧ va_K (dC, dI) vwCl [(c25, .int), (c26, .int), (c27, .int), (c28, .int)] U ∧ va_D (fun _ => True) [((ad 25), .inl (c25, 600, .inl f25)), ((ad 26), .inl (c26, 600, .inl f26)), ((ad 27), .inl (c27, 600, .inl f27)), ((ad 28), .inl (c28, 600, .inl f28)), (h0, .inr (14, (((ck_6 ad)).set 60 (.int (-1))).set 68 (.int 0)))])) (va_Qv (fun _ : Unit => True) (fun (_ : Unit) t => va_P (dC, dI) vwCl [((ad 25), .inl (c25, 600, .inl (upd f25 (0 : Int32).toNatClampNeg 0))), ((ad 26), .inl (c26, 600, .inl (upd f26 (0 : Int32).toNatClampNeg 0))), ((ad 27), .inl (c27, 600, .inl (upd f27 (0 : Int32).toNatClampNeg 0))), ((ad 28), .inl (c28, 600, .inl (upd f28 (0 : Int32).toNatClampNeg 0))), (h0, .inr (14, ((((ck_6 ad)).set 60 (.int (-1))).set 68 (.int 0)).set 46 (.int 1)))] t.heap ∧ va_K (dC, dI) vwCl [(c25, .int), (c26, .int), (c27, .int), (c28, .int)] t ∧ va_D (va_A [((ad 25), .inl (c25, 600, .inl f25)), ((ad 26), .inl (c26, 600, .inl f26)), ((ad 27), .inl (c27, 600, .inl f27)), ((ad 28), .inl (c28, 600, .inl f28)), (h0, .inr (14, (((ck_6 ad)).set 60 (.int (-1))).set 68 (.int 0)))] sz) [((ad 25), .inl (c25, 600, .inl (upd f25 (0 : Int32).toNatClampNeg 0))), ((ad 26), .inl (c26, 600, .inl (upd f26 (0 : Int32).toNatClampNeg 0))), ((ad 27), .inl (c27, 600, .inl (upd f27 (0 : Int32).toNatClampNeg 0))), ((ad 28), .inl (c28, 600, .inl (upd f28 (0 : Int32).toNatClampNeg 0))), (h0, .inr (14, ((((ck_6 ad)).set 60 (.int (-1))).set 68 (.int 0)).set 46 (.int 1)))]) (va_A [((ad 25), .inl (c25, 600, .inl f25)), ((ad 26), .inl (c26, 600, .inl f26)), ((ad 27), .inl (c27, 600, .inl f27)), ((ad 28), .inl (c28, 600, .inl f28)), (h0, .inr (14, (((ck_6 ad)).set 60 (.int (-1))).set 68 (.int 0)))] sz)) 0 0 (va_A [((ad 25), .inl (c25, 600, .inl f25)), ((ad 26), .inl (c26, 600, .inl f26)), ((ad 27), .inl (c27, 600, .inl f27)), ((ad 28), .inl (c28, 600, .inl f28)), (h0, .inr (14, (((ck_6 ad)).set 60 (.int (-1))).set 68 (.int 0)))] sz) := by
  refine Met.ofW (cc := cX12_constant) (maxL := 3) (ret := none) (by decide) rfl ?_
  intro p e s m args below meth c s₁ B hml hv
  obtain ⟨rfl, hsz, hP, hK, hD0⟩ := hv
  have hx := B.exec
  have hb := B.bytes
  have hr := B.returns
  have hts := atoms_spec (ws := vw_a_X12_constant_1) B.pre
  have hown : s.vm.findClass RX12 = some m.cls := findClass_of_methodNamed B.named
  have hlocks := B.notSynchronized
  subst hsz
  have hD := hD0.self (sz := s.heap.size)
  generalize hAe : va_A [((ad 25), .inl (c25, 600, .inl f25)), ((ad 26), .inl (c26, 600, .inl f26)), ((ad 27), .inl (c27, 600, .inl f27)), ((ad 28), .inl (c28, 600, .inl f28)), (h0, .inr (14, (((ck_6 ad)).set 60 (.int (-1))).set 68 (.int 0)))] s.heap.size = A at hD ⊢
  have hA : ∀ q : Nat, s.heap.size ≤ q → A q := fun q h => by rw [← hAe]; exact Or.inr h
  have hS : va_S A s.heap s.heap [] := va_S.rf
  have hP : va_P (dC, dI) vwCl [((ad 25), .inl (c25, 600, .inl f25)), ((ad 26), .inl (c26, 600, .inl f26)), ((ad 27), .inl (c27, 600, .inl f27)), ((ad 28), .inl (c28, 600, .inl f28)), (h0, .inr (14, (((ck_6 ad)).set 60 (.int (-1))).set 68 (.int 0)))] s.heap := hP
  have hl := lv_entry ([.ref h0, .int 0, .int 0]) (n := 3) (Nat.le_of_ble_eq_true rfl)
  rw [lg_entry_eq]
  generalize (lg_sl ([.ref h0, .int 0, .int 0]) ++ List.replicate (3 - (lg_sl ([.ref h0, .int 0, .int 0])).length) Slot.unset).toArray = ls at hl ⊢
  have hl : lv_has ls 3 [(0, .ref h0), (1, .int 0), (2, .int 0)] := hl
  refine lv_aload_n hx hb dX12_constant_0 rfl (lv_at hl 0 rfl) ?_
  refine lv_iconst (v := 0) hx hb dX12_constant_1 (by decide) ?_
  refine lv_iload_n hx hb dX12_constant_2 rfl (lv_at hl 1 rfl) ?_
  refine lv_iload_n hx hb dX12_constant_3 rfl (lv_at hl 2 rfl) ?_
  have hPc := hP.sub (ws' := [((ad 25), .inl (c25, 600, .inl f25)), ((ad 26), .inl (c26, 600, .inl f26)), ((ad 27), .inl (c27, 600, .inl f27)), ((ad 28), .inl (c28, 600, .inl f28)), (h0, .inr (14, (((ck_6 ad)).set 60 (.int (-1))).set 68 (.int 0)))]) [0, 1, 2, 3, 4] rfl
  have hDc := hD.sub (ws' := [((ad 25), .inl (c25, 600, .inl f25)), ((ad 26), .inl (c26, 600, .inl f26)), ((ad 27), .inl (c27, 600, .inl f27)), ((ad 28), .inl (c28, 600, .inl f28)), (h0, .inr (14, (((ck_6 ad)).set 60 (.int (-1))).set 68 (.int 0)))]) [0, 1, 2, 3, 4] (by decide) rfl
  have hKc := hK.sub (tys' := [(c25, .int), (c26, .int), (c27, .int), (c28, .int)]) [0, 1, 2, 3] rfl
  have hFc := va_free (wc := [((ad 25), .inl (c25, 600, .inl f25)), ((ad 26), .inl (c26, 600, .inl f26)), ((ad 27), .inl (c27, 600, .inl f27)), ((ad 28), .inl (c28, 600, .inl f28)), (h0, .inr (14, (((ck_6 ad)).set 60 (.int (-1))).set 68 (.int 0)))]) hD hS hA [0, 1, 2, 3, 4] rfl
  refine va_callv (va_runV (As := [.int 0, .int 0, .int 0]) (rest := []) ⟨hx, hb, hml, hown, hts⟩ (a_X12_emit_1 l dC dI s.heap.size h0 aS aV ad c4 f4 c2 f2 c3 f3 c5 f5 c7 f7 c8 f8 c9 f9 c14 f14 c23 f23 c21 f21 c25 f25 c26 f26 c27 f27 c28 f28 c29 f29) (cwV 3 hts vg_a_X12_constant_1_a_X12_emit_1 rfl rfl rfl (by decide +kernel) ⟨Nat.le_of_ble_eq_true rfl, Nat.le_of_ble_eq_true rfl⟩) ⟨fun a U g mk q => by obtain ⟨q0, q1, qP, qK, qD⟩ := q; exact ⟨q0, q1, qP, va_K.moved (u := U) (U := U.calling g mk a) (Vm.Alike.refl U.vm) qK, qD⟩, va_recv hKc hPc (ci := 14) (q0 := 4) rfl rfl, fun U hU hW => ⟨rfl, by rw [hU], by rw [hU]; exact hPc, va_K.moved hW.alike hKc, hDc.weaken (fun _ _ _ _ => trivial)⟩⟩ rfl rfl hl.1 rfl (lv_room (Nat.le_of_ble_eq_true rfl)) dX12_constant_4 ⟨Nat.le_of_ble_eq_true rfl, Nat.le_of_ble_eq_true rfl⟩) hS (fun q _ h => hFc q h) hFc (fun u t H1 locs ht hvm hw hB hz1 hk1 hS => ?_)
  obtain ⟨hP1, hK1, hD1⟩ := hB
  rw [ht] at hP1
  have hK1 := va_K.moved hvm.symm hK1
  try dsimp only at hw
  obtain ⟨hP, hD⟩ := va_join (wr := []) (w1 := [((ad 25), .inl (c25, 600, .inl (upd f25 (0 : Int32).toNatClampNeg 0))), ((ad 26), .inl (c26, 600, .inl (upd f26 (0 : Int32).toNatClampNeg 0))), ((ad 27), .inl (c27, 600, .inl (upd f27 (0 : Int32).toNatClampNeg 0))), ((ad 28), .inl (c28, 600, .inl (upd f28 (0 : Int32).toNatClampNeg 0))), (h0, .inr (14, ((((ck_6 ad)).set 60 (.int (-1))).set 68 (.int 0)).set 46 (.int 1)))]) hP hD [0, 1, 2, 3, 4] [] rfl rfl (by decide) (by decide) hk1 hFc hP1 hD1
  generalize H1 = H at hP hS ⊢
  have hP : va_P (dC, dI) vwCl [((ad 25), .inl (c25, 600, .inl (upd f25 (0 : Int32).toNatClampNeg 0))), ((ad 26), .inl (c26, 600, .inl (upd f26 (0 : Int32).toNatClampNeg 0))), ((ad 27), .inl (c27, 600, .inl (upd f27 (0 : Int32).toNatClampNeg 0))), ((ad 28), .inl (c28, 600, .inl (upd f28 (0 : Int32).toNatClampNeg 0))), (h0, .inr (14, ((((ck_6 ad)).set 60 (.int (-1))).set 68 (.int 0)).set 46 (.int 1)))] H := hP
  have hD : va_D A [((ad 25), .inl (c25, 600, .inl (upd f25 (0 : Int32).toNatClampNeg 0))), ((ad 26), .inl (c26, 600, .inl (upd f26 (0 : Int32).toNatClampNeg 0))), ((ad 27), .inl (c27, 600, .inl (upd f27 (0 : Int32).toNatClampNeg 0))), ((ad 28), .inl (c28, 600, .inl (upd f28 (0 : Int32).toNatClampNeg 0))), (h0, .inr (14, ((((ck_6 ad)).set 60 (.int (-1))).set 68 (.int 0)).set 46 (.int 1)))] := hD
  exact W.vret hx hb hr (fun t ht hW => ⟨⟨(), rfl, trivial, by rw [ht]; exact hP, va_K.moved hW.alike hK, hD⟩, hS.F ht⟩) hS.2.2 dX12_constant_7

def vb_a_X12_emit_2 : List Cond := .code yX12_emit cX12_emit 4 none :: ([.fieldLink RX12 606 "ScriptTypesModel" "instructions" "I", .fieldLink RX12 89 "ScriptTypesModel" "operation" "[I", .fieldLink RX12 92 "ScriptTypesModel" "a" "[I", .fieldLink RX12 95 "ScriptTypesModel" "b" "[I", .fieldLink RX12 98 "ScriptTypesModel" "functionOf" "[I", .fieldLink RX12 612 "ScriptTypesModel" "coding" "I"] ++ [])
def vw_a_X12_emit_2 : List Cond := vb_a_X12_emit_2 ++ wsX120
set_option maxHeartbeats 8000000 in
set_option maxRecDepth 100000 in
theorem a_X12_emit_2 (l : Launch) (dC : Nat → ClassId) (dI : Nat → Nat → Nat) (sz : Nat) (h0 aS aV : Nat) (ad : Nat → Nat) (c4 : ClassId) (f4 : Nat → Int32) (c2 : ClassId) (f2 : Nat → Int32) (c3 : ClassId) (f3 : Nat → Int32) (c5 : ClassId) (f5 : Nat → Int32) (c7 : ClassId) (f7 : Nat → Int32) (c8 : ClassId) (f8 : Nat → Int32) (c9 : ClassId) (f9 : Nat → Int32) (c14 : ClassId) (f14 : Nat → Int32) (c23 : ClassId) (f23 : Nat → Int32) (c21 : ClassId) (f21 : Nat → Int32) (c25 : ClassId) (f25 : Nat → Int32) (c26 : ClassId) (f26 : Nat → Int32) (c27 : ClassId) (f27 : Nat → Int32) (c28 : ClassId) (f28 : Nat → Int32) (c29 : ClassId) (f29 : Nat → Int32) : Met l yX12_emit vw_a_X12_emit_2 ({ frames := 0, cells := 0, slots := 0, locals := 0 }) (va_Pc [.ref h0, .int 25, .int 0, .int 0] (fun U => U.heap.size = sz ∧ va_P (dC, dI) vwCl [((ad 25), .inl (c25, 600, .inl (upd f25 (0 : Int32).toNatClampNeg 0))), ((ad 26), .inl (c26, 600, .inl (upd f26 (0 : Int32).toNatClampNeg 0))), ((ad 27), .inl (c27, 600, .inl (upd f27 (0 : Int32).toNatClampNeg 0))), ((ad 28), .inl (c28, 600, .inl (upd f28 (0 : Int32).toNatClampNeg 0))), (h0, .inr (14, ((((ck_6 ad)).set 60 (.int (-1))).set 68 (.int 0)).set 46 (.int 1)))] U.heap ∧ va_K (dC, dI) vwCl [(c25, .int), (c26, .int), (c27, .int), (c28, .int)] U ∧ va_D (fun _ => True) [((ad 25), .inl (c25, 600, .inl (upd f25 (0 : Int32).toNatClampNeg 0))), ((ad 26), .inl (c26, 600, .inl (upd f26 (0 : Int32).toNatClampNeg 0))), ((ad 27), .inl (c27, 600, .inl (upd f27 (0 : Int32).toNatClampNeg 0))), ((ad 28), .inl (c28, 600, .inl (upd f28 (0 : Int32).toNatClampNeg 0))), (h0, .inr (14, ((((ck_6 ad)).set 60 (.int (-1))).set 68 (.int 0)).set 46 (.int 1)))])) (va_Qv (fun _ : Unit => True) (fun (_ : Unit) t => va_P (dC, dI) vwCl [((ad 25), .inl (c25, 600, .inl (upd (upd f25 (0 : Int32).toNatClampNeg 0) (1 : Int32).toNatClampNeg 25))), ((ad 26), .inl (c26, 600, .inl (upd (upd f26 (0 : Int32).toNatClampNeg 0) (1 : Int32).toNatClampNeg 0))), ((ad 27), .inl (c27, 600, .inl (upd (upd f27 (0 : Int32).toNatClampNeg 0) (1 : Int32).toNatClampNeg 0))), ((ad 28), .inl (c28, 600, .inl (upd (upd f28 (0 : Int32).toNatClampNeg 0) (1 : Int32).toNatClampNeg 0))), (h0, .inr (14, (((((ck_6 ad)).set 60 (.int (-1))).set 68 (.int 0)).set 46 (.int 1)).set 46 (.int 2)))] t.heap ∧ va_K (dC, dI) vwCl [(c25, .int), (c26, .int), (c27, .int), (c28, .int)] t ∧ va_D (va_A [((ad 25), .inl (c25, 600, .inl (upd f25 (0 : Int32).toNatClampNeg 0))), ((ad 26), .inl (c26, 600, .inl (upd f26 (0 : Int32).toNatClampNeg 0))), ((ad 27), .inl (c27, 600, .inl (upd f27 (0 : Int32).toNatClampNeg 0))), ((ad 28), .inl (c28, 600, .inl (upd f28 (0 : Int32).toNatClampNeg 0))), (h0, .inr (14, ((((ck_6 ad)).set 60 (.int (-1))).set 68 (.int 0)).set 46 (.int 1)))] sz) [((ad 25), .inl (c25, 600, .inl (upd (upd f25 (0 : Int32).toNatClampNeg 0) (1 : Int32).toNatClampNeg 25))), ((ad 26), .inl (c26, 600, .inl (upd (upd f26 (0 : Int32).toNatClampNeg 0) (1 : Int32).toNatClampNeg 0))), ((ad 27), .inl (c27, 600, .inl (upd (upd f27 (0 : Int32).toNatClampNeg 0) (1 : Int32).toNatClampNeg 0))), ((ad 28), .inl (c28, 600, .inl (upd (upd f28 (0 : Int32).toNatClampNeg 0) (1 : Int32).toNatClampNeg 0))), (h0, .inr (14, (((((ck_6 ad)).set 60 (.int (-1))).set 68 (.int 0)).set 46 (.int 1)).set 46 (.int 2)))]) (va_A [((ad 25), .inl (c25, 600, .inl (upd f25 (0 : Int32).toNatClampNeg 0))), ((ad 26), .inl (c26, 600, .inl (upd f26 (0 : Int32).toNatClampNeg 0))), ((ad 27), .inl (c27, 600, .inl (upd f27 (0 : Int32).toNatClampNeg 0))), ((ad 28), .inl (c28, 600, .inl (upd f28 (0 : Int32).toNatClampNeg 0))), (h0, .inr (14, ((((ck_6 ad)).set 60 (.int (-1))).set 68 (.int 0)).set 46 (.int 1)))] sz)) 0 0 (va_A [((ad 25), .inl (c25, 600, .inl (upd f25 (0 : Int32).toNatClampNeg 0))), ((ad 26), .inl (c26, 600, .inl (upd f26 (0 : Int32).toNatClampNeg 0))), ((ad 27), .inl (c27, 600, .inl (upd f27 (0 : Int32).toNatClampNeg 0))), ((ad 28), .inl (c28, 600, .inl (upd f28 (0 : Int32).toNatClampNeg 0))), (h0, .inr (14, ((((ck_6 ad)).set 60 (.int (-1))).set 68 (.int 0)).set 46 (.int 1)))] sz) := by
  refine Met.ofW (cc := cX12_emit) (maxL := 4) (ret := none) (by decide) rfl ?_
  intro p e s m args below meth c s₁ B hml hv
  obtain ⟨rfl, hsz, hP, hK, hD0⟩ := hv
  have hx := B.exec
  have hb := B.bytes
  have hr := B.returns
  have hts := atoms_spec (ws := vw_a_X12_emit_2) B.pre
  have hown : s.vm.findClass RX12 = some m.cls := findClass_of_methodNamed B.named
  have hlocks := B.notSynchronized
  subst hsz
  have hD := hD0.self (sz := s.heap.size)
  generalize hAe : va_A [((ad 25), .inl (c25, 600, .inl (upd f25 (0 : Int32).toNatClampNeg 0))), ((ad 26), .inl (c26, 600, .inl (upd f26 (0 : Int32).toNatClampNeg 0))), ((ad 27), .inl (c27, 600, .inl (upd f27 (0 : Int32).toNatClampNeg 0))), ((ad 28), .inl (c28, 600, .inl (upd f28 (0 : Int32).toNatClampNeg 0))), (h0, .inr (14, ((((ck_6 ad)).set 60 (.int (-1))).set 68 (.int 0)).set 46 (.int 1)))] s.heap.size = A at hD ⊢
  have hA : ∀ q : Nat, s.heap.size ≤ q → A q := fun q h => by rw [← hAe]; exact Or.inr h
  have hS : va_S A s.heap s.heap [] := va_S.rf
  have hP : va_P (dC, dI) vwCl [((ad 25), .inl (c25, 600, .inl (upd f25 (0 : Int32).toNatClampNeg 0))), ((ad 26), .inl (c26, 600, .inl (upd f26 (0 : Int32).toNatClampNeg 0))), ((ad 27), .inl (c27, 600, .inl (upd f27 (0 : Int32).toNatClampNeg 0))), ((ad 28), .inl (c28, 600, .inl (upd f28 (0 : Int32).toNatClampNeg 0))), (h0, .inr (14, ((((ck_6 ad)).set 60 (.int (-1))).set 68 (.int 0)).set 46 (.int 1)))] s.heap := hP
  have hl := lv_entry ([.ref h0, .int 25, .int 0, .int 0]) (n := 4) (Nat.le_of_ble_eq_true rfl)
  rw [lg_entry_eq]
  generalize (lg_sl ([.ref h0, .int 25, .int 0, .int 0]) ++ List.replicate (4 - (lg_sl ([.ref h0, .int 25, .int 0, .int 0])).length) Slot.unset).toArray = ls at hl ⊢
  have hl : lv_has ls 4 [(0, .ref h0), (1, .int 25), (2, .int 0), (3, .int 0)] := hl
  have hwX12 : ∀ w ∈ wsX120, w ∈ vw_a_X12_emit_2 := (fun w h => List.mem_append_right _ h)
  refine lv_aload_n hx hb dX12_emit_0 rfl (lv_at hl 0 rfl) ?_
  refine va_get (D := (dC, dI)) (ci := 14) (v := .int 1) (C := RX12) (T := TX12) (N := 151) hx hb hts hwX12 hown hK hP 4 rfl rfl 46 (Nat.le_of_ble_eq_true rfl) (hts (.fieldLink RX12 606 "ScriptTypesModel" "instructions" "I") (List.mem_of_getElem? (i := 1) (by decide +kernel))) (fun _ h9 => h9) rfl dX12_emit_1 ?_
  refine lv_sipush (v := 600) hx hb dX12_emit_4 (by decide) ?_
  refine lv_icmp_ne (tgt := 16) hx hb dX12_emit_7 (by decide) (fun _ => ?_) (fun c1_7 => absurd c1_7 (by decide))
  refine lv_aload_n hx hb dX12_emit_16 rfl (lv_at hl 0 rfl) ?_
  refine va_get (D := (dC, dI)) (ci := 14) (v := .ref (ad 25)) (C := RX12) (T := TX12) (N := 151) hx hb hts hwX12 hown hK hP 4 rfl rfl 48 (Nat.le_of_ble_eq_true rfl) (hts (.fieldLink RX12 89 "ScriptTypesModel" "operation" "[I") (List.mem_of_getElem? (i := 2) (by decide +kernel))) (fun _ h9 => h9) rfl dX12_emit_17 ?_
  refine lv_aload_n hx hb dX12_emit_20 rfl (lv_at hl 0 rfl) ?_
  refine va_get (D := (dC, dI)) (ci := 14) (v := .int 1) (C := RX12) (T := TX12) (N := 151) hx hb hts hwX12 hown hK hP 4 rfl rfl 46 (Nat.le_of_ble_eq_true rfl) (hts (.fieldLink RX12 606 "ScriptTypesModel" "instructions" "I") (List.mem_of_getElem? (i := 1) (by decide +kernel))) (fun _ h9 => h9) rfl dX12_emit_21 ?_
  refine lv_iload_n hx hb dX12_emit_24 rfl (lv_at hl 1 rfl) ?_
  refine va_iast hx hb hK hP hD hS 0 0 rfl rfl (show ¬ ((1 : Int32) < 0 ∨ 600 ≤ (1 : Int32).toNatClampNeg) by decide) dX12_emit_25 (fun H locs hP hD hS => ?_)
  have hP : va_P (dC, dI) vwCl [((ad 25), .inl (c25, 600, .inl (upd (upd f25 (0 : Int32).toNatClampNeg 0) (1 : Int32).toNatClampNeg 25))), ((ad 26), .inl (c26, 600, .inl (upd f26 (0 : Int32).toNatClampNeg 0))), ((ad 27), .inl (c27, 600, .inl (upd f27 (0 : Int32).toNatClampNeg 0))), ((ad 28), .inl (c28, 600, .inl (upd f28 (0 : Int32).toNatClampNeg 0))), (h0, .inr (14, ((((ck_6 ad)).set 60 (.int (-1))).set 68 (.int 0)).set 46 (.int 1)))] H := hP
  have hD : va_D A [((ad 25), .inl (c25, 600, .inl (upd (upd f25 (0 : Int32).toNatClampNeg 0) (1 : Int32).toNatClampNeg 25))), ((ad 26), .inl (c26, 600, .inl (upd f26 (0 : Int32).toNatClampNeg 0))), ((ad 27), .inl (c27, 600, .inl (upd f27 (0 : Int32).toNatClampNeg 0))), ((ad 28), .inl (c28, 600, .inl (upd f28 (0 : Int32).toNatClampNeg 0))), (h0, .inr (14, ((((ck_6 ad)).set 60 (.int (-1))).set 68 (.int 0)).set 46 (.int 1)))] := hD
  refine lv_aload_n hx hb dX12_emit_26 rfl (lv_at hl 0 rfl) ?_
  refine va_get (D := (dC, dI)) (ci := 14) (v := .ref (ad 26)) (C := RX12) (T := TX12) (N := 151) hx hb hts hwX12 hown hK hP 4 rfl rfl 49 (Nat.le_of_ble_eq_true rfl) (hts (.fieldLink RX12 92 "ScriptTypesModel" "a" "[I") (List.mem_of_getElem? (i := 3) (by decide +kernel))) (fun _ h9 => h9) rfl dX12_emit_27 ?_
  refine lv_aload_n hx hb dX12_emit_30 rfl (lv_at hl 0 rfl) ?_
  refine va_get (D := (dC, dI)) (ci := 14) (v := .int 1) (C := RX12) (T := TX12) (N := 151) hx hb hts hwX12 hown hK hP 4 rfl rfl 46 (Nat.le_of_ble_eq_true rfl) (hts (.fieldLink RX12 606 "ScriptTypesModel" "instructions" "I") (List.mem_of_getElem? (i := 1) (by decide +kernel))) (fun _ h9 => h9) rfl dX12_emit_31 ?_
  refine lv_iload_n hx hb dX12_emit_34 rfl (lv_at hl 2 rfl) ?_
  refine va_iast hx hb hK hP hD hS 1 1 rfl rfl (show ¬ ((1 : Int32) < 0 ∨ 600 ≤ (1 : Int32).toNatClampNeg) by decide) dX12_emit_35 (fun H locs hP hD hS => ?_)
  have hP : va_P (dC, dI) vwCl [((ad 25), .inl (c25, 600, .inl (upd (upd f25 (0 : Int32).toNatClampNeg 0) (1 : Int32).toNatClampNeg 25))), ((ad 26), .inl (c26, 600, .inl (upd (upd f26 (0 : Int32).toNatClampNeg 0) (1 : Int32).toNatClampNeg 0))), ((ad 27), .inl (c27, 600, .inl (upd f27 (0 : Int32).toNatClampNeg 0))), ((ad 28), .inl (c28, 600, .inl (upd f28 (0 : Int32).toNatClampNeg 0))), (h0, .inr (14, ((((ck_6 ad)).set 60 (.int (-1))).set 68 (.int 0)).set 46 (.int 1)))] H := hP
  have hD : va_D A [((ad 25), .inl (c25, 600, .inl (upd (upd f25 (0 : Int32).toNatClampNeg 0) (1 : Int32).toNatClampNeg 25))), ((ad 26), .inl (c26, 600, .inl (upd (upd f26 (0 : Int32).toNatClampNeg 0) (1 : Int32).toNatClampNeg 0))), ((ad 27), .inl (c27, 600, .inl (upd f27 (0 : Int32).toNatClampNeg 0))), ((ad 28), .inl (c28, 600, .inl (upd f28 (0 : Int32).toNatClampNeg 0))), (h0, .inr (14, ((((ck_6 ad)).set 60 (.int (-1))).set 68 (.int 0)).set 46 (.int 1)))] := hD
  refine lv_aload_n hx hb dX12_emit_36 rfl (lv_at hl 0 rfl) ?_
  refine va_get (D := (dC, dI)) (ci := 14) (v := .ref (ad 27)) (C := RX12) (T := TX12) (N := 151) hx hb hts hwX12 hown hK hP 4 rfl rfl 50 (Nat.le_of_ble_eq_true rfl) (hts (.fieldLink RX12 95 "ScriptTypesModel" "b" "[I") (List.mem_of_getElem? (i := 4) (by decide +kernel))) (fun _ h9 => h9) rfl dX12_emit_37 ?_
  refine lv_aload_n hx hb dX12_emit_40 rfl (lv_at hl 0 rfl) ?_
  refine va_get (D := (dC, dI)) (ci := 14) (v := .int 1) (C := RX12) (T := TX12) (N := 151) hx hb hts hwX12 hown hK hP 4 rfl rfl 46 (Nat.le_of_ble_eq_true rfl) (hts (.fieldLink RX12 606 "ScriptTypesModel" "instructions" "I") (List.mem_of_getElem? (i := 1) (by decide +kernel))) (fun _ h9 => h9) rfl dX12_emit_41 ?_
  refine lv_iload_n hx hb dX12_emit_44 rfl (lv_at hl 3 rfl) ?_
  refine va_iast hx hb hK hP hD hS 2 2 rfl rfl (show ¬ ((1 : Int32) < 0 ∨ 600 ≤ (1 : Int32).toNatClampNeg) by decide) dX12_emit_45 (fun H locs hP hD hS => ?_)
  have hP : va_P (dC, dI) vwCl [((ad 25), .inl (c25, 600, .inl (upd (upd f25 (0 : Int32).toNatClampNeg 0) (1 : Int32).toNatClampNeg 25))), ((ad 26), .inl (c26, 600, .inl (upd (upd f26 (0 : Int32).toNatClampNeg 0) (1 : Int32).toNatClampNeg 0))), ((ad 27), .inl (c27, 600, .inl (upd (upd f27 (0 : Int32).toNatClampNeg 0) (1 : Int32).toNatClampNeg 0))), ((ad 28), .inl (c28, 600, .inl (upd f28 (0 : Int32).toNatClampNeg 0))), (h0, .inr (14, ((((ck_6 ad)).set 60 (.int (-1))).set 68 (.int 0)).set 46 (.int 1)))] H := hP
  have hD : va_D A [((ad 25), .inl (c25, 600, .inl (upd (upd f25 (0 : Int32).toNatClampNeg 0) (1 : Int32).toNatClampNeg 25))), ((ad 26), .inl (c26, 600, .inl (upd (upd f26 (0 : Int32).toNatClampNeg 0) (1 : Int32).toNatClampNeg 0))), ((ad 27), .inl (c27, 600, .inl (upd (upd f27 (0 : Int32).toNatClampNeg 0) (1 : Int32).toNatClampNeg 0))), ((ad 28), .inl (c28, 600, .inl (upd f28 (0 : Int32).toNatClampNeg 0))), (h0, .inr (14, ((((ck_6 ad)).set 60 (.int (-1))).set 68 (.int 0)).set 46 (.int 1)))] := hD
  refine lv_aload_n hx hb dX12_emit_46 rfl (lv_at hl 0 rfl) ?_
  refine va_get (D := (dC, dI)) (ci := 14) (v := .ref (ad 28)) (C := RX12) (T := TX12) (N := 151) hx hb hts hwX12 hown hK hP 4 rfl rfl 51 (Nat.le_of_ble_eq_true rfl) (hts (.fieldLink RX12 98 "ScriptTypesModel" "functionOf" "[I") (List.mem_of_getElem? (i := 5) (by decide +kernel))) (fun _ h9 => h9) rfl dX12_emit_47 ?_
  refine lv_aload_n hx hb dX12_emit_50 rfl (lv_at hl 0 rfl) ?_
  refine va_get (D := (dC, dI)) (ci := 14) (v := .int 1) (C := RX12) (T := TX12) (N := 151) hx hb hts hwX12 hown hK hP 4 rfl rfl 46 (Nat.le_of_ble_eq_true rfl) (hts (.fieldLink RX12 606 "ScriptTypesModel" "instructions" "I") (List.mem_of_getElem? (i := 1) (by decide +kernel))) (fun _ h9 => h9) rfl dX12_emit_51 ?_
  refine lv_aload_n hx hb dX12_emit_54 rfl (lv_at hl 0 rfl) ?_
  refine va_get (D := (dC, dI)) (ci := 14) (v := .int 0) (C := RX12) (T := TX12) (N := 151) hx hb hts hwX12 hown hK hP 4 rfl rfl 56 (Nat.le_of_ble_eq_true rfl) (hts (.fieldLink RX12 612 "ScriptTypesModel" "coding" "I") (List.mem_of_getElem? (i := 6) (by decide +kernel))) (fun _ h9 => h9) rfl dX12_emit_55 ?_
  refine va_iast hx hb hK hP hD hS 3 3 rfl rfl (show ¬ ((1 : Int32) < 0 ∨ 600 ≤ (1 : Int32).toNatClampNeg) by decide) dX12_emit_58 (fun H locs hP hD hS => ?_)
  have hP : va_P (dC, dI) vwCl [((ad 25), .inl (c25, 600, .inl (upd (upd f25 (0 : Int32).toNatClampNeg 0) (1 : Int32).toNatClampNeg 25))), ((ad 26), .inl (c26, 600, .inl (upd (upd f26 (0 : Int32).toNatClampNeg 0) (1 : Int32).toNatClampNeg 0))), ((ad 27), .inl (c27, 600, .inl (upd (upd f27 (0 : Int32).toNatClampNeg 0) (1 : Int32).toNatClampNeg 0))), ((ad 28), .inl (c28, 600, .inl (upd (upd f28 (0 : Int32).toNatClampNeg 0) (1 : Int32).toNatClampNeg 0))), (h0, .inr (14, ((((ck_6 ad)).set 60 (.int (-1))).set 68 (.int 0)).set 46 (.int 1)))] H := hP
  have hD : va_D A [((ad 25), .inl (c25, 600, .inl (upd (upd f25 (0 : Int32).toNatClampNeg 0) (1 : Int32).toNatClampNeg 25))), ((ad 26), .inl (c26, 600, .inl (upd (upd f26 (0 : Int32).toNatClampNeg 0) (1 : Int32).toNatClampNeg 0))), ((ad 27), .inl (c27, 600, .inl (upd (upd f27 (0 : Int32).toNatClampNeg 0) (1 : Int32).toNatClampNeg 0))), ((ad 28), .inl (c28, 600, .inl (upd (upd f28 (0 : Int32).toNatClampNeg 0) (1 : Int32).toNatClampNeg 0))), (h0, .inr (14, ((((ck_6 ad)).set 60 (.int (-1))).set 68 (.int 0)).set 46 (.int 1)))] := hD
  refine lv_aload_n hx hb dX12_emit_59 rfl (lv_at hl 0 rfl) ?_
  refine lv_dup hx hb dX12_emit_60 rfl ?_
  refine va_get (D := (dC, dI)) (ci := 14) (v := .int 1) (C := RX12) (T := TX12) (N := 151) hx hb hts hwX12 hown hK hP 4 rfl rfl 46 (Nat.le_of_ble_eq_true rfl) (hts (.fieldLink RX12 606 "ScriptTypesModel" "instructions" "I") (List.mem_of_getElem? (i := 1) (by decide +kernel))) (fun _ h9 => h9) rfl dX12_emit_61 ?_
  refine lv_iconst (v := 1) hx hb dX12_emit_64 (by decide) ?_
  refine lv_iadd hx hb dX12_emit_65 ?_
  refine lv_topi (fun f_2 ef_2 => ?_)
  obtain rfl : f_2 = 2 := by rw [ef_2]; decide
  refine va_put (D := (dC, dI)) (ci := 14) (v := .int 2) (ty := tyX12 46) (C := RX12) (T := TX12) (N := 151) hx hb hts hwX12 tyX12 tyX12_ok nmX12 hown hK hP hD hS 4 rfl rfl 46 (Nat.le_of_ble_eq_true rfl) (hts (.fieldLink RX12 606 "ScriptTypesModel" "instructions" "I") (List.mem_of_getElem? (i := 1) (by decide +kernel))) (fun _ h9 => h9) rfl (tyX12_ok 46 (Nat.le_of_ble_eq_true rfl)) rfl rfl (Nat.le_of_ble_eq_true rfl) dX12_emit_66 (fun H locs hP hD hS => ?_)
  have hP : va_P (dC, dI) vwCl [((ad 25), .inl (c25, 600, .inl (upd (upd f25 (0 : Int32).toNatClampNeg 0) (1 : Int32).toNatClampNeg 25))), ((ad 26), .inl (c26, 600, .inl (upd (upd f26 (0 : Int32).toNatClampNeg 0) (1 : Int32).toNatClampNeg 0))), ((ad 27), .inl (c27, 600, .inl (upd (upd f27 (0 : Int32).toNatClampNeg 0) (1 : Int32).toNatClampNeg 0))), ((ad 28), .inl (c28, 600, .inl (upd (upd f28 (0 : Int32).toNatClampNeg 0) (1 : Int32).toNatClampNeg 0))), (h0, .inr (14, (((((ck_6 ad)).set 60 (.int (-1))).set 68 (.int 0)).set 46 (.int 1)).set 46 (.int 2)))] H := hP
  have hD : va_D A [((ad 25), .inl (c25, 600, .inl (upd (upd f25 (0 : Int32).toNatClampNeg 0) (1 : Int32).toNatClampNeg 25))), ((ad 26), .inl (c26, 600, .inl (upd (upd f26 (0 : Int32).toNatClampNeg 0) (1 : Int32).toNatClampNeg 0))), ((ad 27), .inl (c27, 600, .inl (upd (upd f27 (0 : Int32).toNatClampNeg 0) (1 : Int32).toNatClampNeg 0))), ((ad 28), .inl (c28, 600, .inl (upd (upd f28 (0 : Int32).toNatClampNeg 0) (1 : Int32).toNatClampNeg 0))), (h0, .inr (14, (((((ck_6 ad)).set 60 (.int (-1))).set 68 (.int 0)).set 46 (.int 1)).set 46 (.int 2)))] := hD
  exact W.vret hx hb hr (fun t ht hW => ⟨⟨(), rfl, trivial, by rw [ht]; exact hP, va_K.moved hW.alike hK, hD⟩, hS.F ht⟩) hS.2.2 dX12_emit_69

def vb_a_X12_emit__1 : List Cond := .code yX12_emit_ cX12_emit_ 2 none :: ([.methodLink RX12 615 yX12_emit, .instanceMethod yX12_emit, .selects RX12 yX12_emit yX12_emit, .initialized RX12] ++ (vb_a_X12_emit_2 ++ []))
def vw_a_X12_emit__1 : List Cond := vb_a_X12_emit__1 ++ wsX120
set_option maxRecDepth 20000 in
theorem vg_a_X12_emit__1_a_X12_emit_2 : GoodIn vw_a_X12_emit__1 (wsV RX12 615 RX12 yX12_emit vw_a_X12_emit_2) := goodIn_app (goodIn_of _ (by decide +kernel)) (goodIn_sub (v_sub (fun w h => List.mem_cons_of_mem _ (List.mem_append_right _ (List.mem_append_left _ (h))))) (by decide +kernel))
set_option maxHeartbeats 8000000 in
set_option maxRecDepth 100000 in
theorem a_X12_emit__1 (l : Launch) (dC : Nat → ClassId) (dI : Nat → Nat → Nat) (sz : Nat) (h0 aS aV : Nat) (ad : Nat → Nat) (c4 : ClassId) (f4 : Nat → Int32) (c2 : ClassId) (f2 : Nat → Int32) (c3 : ClassId) (f3 : Nat → Int32) (c5 : ClassId) (f5 : Nat → Int32) (c7 : ClassId) (f7 : Nat → Int32) (c8 : ClassId) (f8 : Nat → Int32) (c9 : ClassId) (f9 : Nat → Int32) (c14 : ClassId) (f14 : Nat → Int32) (c23 : ClassId) (f23 : Nat → Int32) (c21 : ClassId) (f21 : Nat → Int32) (c25 : ClassId) (f25 : Nat → Int32) (c26 : ClassId) (f26 : Nat → Int32) (c27 : ClassId) (f27 : Nat → Int32) (c28 : ClassId) (f28 : Nat → Int32) (c29 : ClassId) (f29 : Nat → Int32) : Met l yX12_emit_ vw_a_X12_emit__1 ({ frames := 1, cells := 0, slots := 0, locals := 23 }) (va_Pc [.ref h0, .int 25] (fun U => U.heap.size = sz ∧ va_P (dC, dI) vwCl [((ad 25), .inl (c25, 600, .inl (upd f25 (0 : Int32).toNatClampNeg 0))), ((ad 26), .inl (c26, 600, .inl (upd f26 (0 : Int32).toNatClampNeg 0))), ((ad 27), .inl (c27, 600, .inl (upd f27 (0 : Int32).toNatClampNeg 0))), ((ad 28), .inl (c28, 600, .inl (upd f28 (0 : Int32).toNatClampNeg 0))), (h0, .inr (14, ((((ck_6 ad)).set 60 (.int (-1))).set 68 (.int 0)).set 46 (.int 1)))] U.heap ∧ va_K (dC, dI) vwCl [(c25, .int), (c26, .int), (c27, .int), (c28, .int)] U ∧ va_D (fun _ => True) [((ad 25), .inl (c25, 600, .inl (upd f25 (0 : Int32).toNatClampNeg 0))), ((ad 26), .inl (c26, 600, .inl (upd f26 (0 : Int32).toNatClampNeg 0))), ((ad 27), .inl (c27, 600, .inl (upd f27 (0 : Int32).toNatClampNeg 0))), ((ad 28), .inl (c28, 600, .inl (upd f28 (0 : Int32).toNatClampNeg 0))), (h0, .inr (14, ((((ck_6 ad)).set 60 (.int (-1))).set 68 (.int 0)).set 46 (.int 1)))])) (va_Qv (fun _ : Unit => True) (fun (_ : Unit) t => va_P (dC, dI) vwCl [((ad 25), .inl (c25, 600, .inl (upd (upd f25 (0 : Int32).toNatClampNeg 0) (1 : Int32).toNatClampNeg 25))), ((ad 26), .inl (c26, 600, .inl (upd (upd f26 (0 : Int32).toNatClampNeg 0) (1 : Int32).toNatClampNeg 0))), ((ad 27), .inl (c27, 600, .inl (upd (upd f27 (0 : Int32).toNatClampNeg 0) (1 : Int32).toNatClampNeg 0))), ((ad 28), .inl (c28, 600, .inl (upd (upd f28 (0 : Int32).toNatClampNeg 0) (1 : Int32).toNatClampNeg 0))), (h0, .inr (14, (((((ck_6 ad)).set 60 (.int (-1))).set 68 (.int 0)).set 46 (.int 1)).set 46 (.int 2)))] t.heap ∧ va_K (dC, dI) vwCl [(c25, .int), (c26, .int), (c27, .int), (c28, .int)] t ∧ va_D (va_A [((ad 25), .inl (c25, 600, .inl (upd f25 (0 : Int32).toNatClampNeg 0))), ((ad 26), .inl (c26, 600, .inl (upd f26 (0 : Int32).toNatClampNeg 0))), ((ad 27), .inl (c27, 600, .inl (upd f27 (0 : Int32).toNatClampNeg 0))), ((ad 28), .inl (c28, 600, .inl (upd f28 (0 : Int32).toNatClampNeg 0))), (h0, .inr (14, ((((ck_6 ad)).set 60 (.int (-1))).set 68 (.int 0)).set 46 (.int 1)))] sz) [((ad 25), .inl (c25, 600, .inl (upd (upd f25 (0 : Int32).toNatClampNeg 0) (1 : Int32).toNatClampNeg 25))), ((ad 26), .inl (c26, 600, .inl (upd (upd f26 (0 : Int32).toNatClampNeg 0) (1 : Int32).toNatClampNeg 0))), ((ad 27), .inl (c27, 600, .inl (upd (upd f27 (0 : Int32).toNatClampNeg 0) (1 : Int32).toNatClampNeg 0))), ((ad 28), .inl (c28, 600, .inl (upd (upd f28 (0 : Int32).toNatClampNeg 0) (1 : Int32).toNatClampNeg 0))), (h0, .inr (14, (((((ck_6 ad)).set 60 (.int (-1))).set 68 (.int 0)).set 46 (.int 1)).set 46 (.int 2)))]) (va_A [((ad 25), .inl (c25, 600, .inl (upd f25 (0 : Int32).toNatClampNeg 0))), ((ad 26), .inl (c26, 600, .inl (upd f26 (0 : Int32).toNatClampNeg 0))), ((ad 27), .inl (c27, 600, .inl (upd f27 (0 : Int32).toNatClampNeg 0))), ((ad 28), .inl (c28, 600, .inl (upd f28 (0 : Int32).toNatClampNeg 0))), (h0, .inr (14, ((((ck_6 ad)).set 60 (.int (-1))).set 68 (.int 0)).set 46 (.int 1)))] sz)) 0 0 (va_A [((ad 25), .inl (c25, 600, .inl (upd f25 (0 : Int32).toNatClampNeg 0))), ((ad 26), .inl (c26, 600, .inl (upd f26 (0 : Int32).toNatClampNeg 0))), ((ad 27), .inl (c27, 600, .inl (upd f27 (0 : Int32).toNatClampNeg 0))), ((ad 28), .inl (c28, 600, .inl (upd f28 (0 : Int32).toNatClampNeg 0))), (h0, .inr (14, ((((ck_6 ad)).set 60 (.int (-1))).set 68 (.int 0)).set 46 (.int 1)))] sz) := by
  refine Met.ofW (cc := cX12_emit_) (maxL := 2) (ret := none) (by decide) rfl ?_
  intro p e s m args below meth c s₁ B hml hv
  obtain ⟨rfl, hsz, hP, hK, hD0⟩ := hv
  have hx := B.exec
  have hb := B.bytes
  have hr := B.returns
  have hts := atoms_spec (ws := vw_a_X12_emit__1) B.pre
  have hown : s.vm.findClass RX12 = some m.cls := findClass_of_methodNamed B.named
  have hlocks := B.notSynchronized
  subst hsz
  have hD := hD0.self (sz := s.heap.size)
  generalize hAe : va_A [((ad 25), .inl (c25, 600, .inl (upd f25 (0 : Int32).toNatClampNeg 0))), ((ad 26), .inl (c26, 600, .inl (upd f26 (0 : Int32).toNatClampNeg 0))), ((ad 27), .inl (c27, 600, .inl (upd f27 (0 : Int32).toNatClampNeg 0))), ((ad 28), .inl (c28, 600, .inl (upd f28 (0 : Int32).toNatClampNeg 0))), (h0, .inr (14, ((((ck_6 ad)).set 60 (.int (-1))).set 68 (.int 0)).set 46 (.int 1)))] s.heap.size = A at hD ⊢
  have hA : ∀ q : Nat, s.heap.size ≤ q → A q := fun q h => by rw [← hAe]; exact Or.inr h
  have hS : va_S A s.heap s.heap [] := va_S.rf
  have hP : va_P (dC, dI) vwCl [((ad 25), .inl (c25, 600, .inl (upd f25 (0 : Int32).toNatClampNeg 0))), ((ad 26), .inl (c26, 600, .inl (upd f26 (0 : Int32).toNatClampNeg 0))), ((ad 27), .inl (c27, 600, .inl (upd f27 (0 : Int32).toNatClampNeg 0))), ((ad 28), .inl (c28, 600, .inl (upd f28 (0 : Int32).toNatClampNeg 0))), (h0, .inr (14, ((((ck_6 ad)).set 60 (.int (-1))).set 68 (.int 0)).set 46 (.int 1)))] s.heap := hP
  have hl := lv_entry ([.ref h0, .int 25]) (n := 2) (Nat.le_of_ble_eq_true rfl)
  rw [lg_entry_eq]
  generalize (lg_sl ([.ref h0, .int 25]) ++ List.replicate (2 - (lg_sl ([.ref h0, .int 25])).length) Slot.unset).toArray = ls at hl ⊢
  have hl : lv_has ls 2 [(0, .ref h0), (1, .int 25)] := hl
  refine lv_aload_n hx hb dX12_emit__0 rfl (lv_at hl 0 rfl) ?_
  refine lv_iload_n hx hb dX12_emit__1 rfl (lv_at hl 1 rfl) ?_
  refine lv_iconst (v := 0) hx hb dX12_emit__2 (by decide) ?_
  refine lv_iconst (v := 0) hx hb dX12_emit__3 (by decide) ?_
  have hPc := hP.sub (ws' := [((ad 25), .inl (c25, 600, .inl (upd f25 (0 : Int32).toNatClampNeg 0))), ((ad 26), .inl (c26, 600, .inl (upd f26 (0 : Int32).toNatClampNeg 0))), ((ad 27), .inl (c27, 600, .inl (upd f27 (0 : Int32).toNatClampNeg 0))), ((ad 28), .inl (c28, 600, .inl (upd f28 (0 : Int32).toNatClampNeg 0))), (h0, .inr (14, ((((ck_6 ad)).set 60 (.int (-1))).set 68 (.int 0)).set 46 (.int 1)))]) [0, 1, 2, 3, 4] rfl
  have hDc := hD.sub (ws' := [((ad 25), .inl (c25, 600, .inl (upd f25 (0 : Int32).toNatClampNeg 0))), ((ad 26), .inl (c26, 600, .inl (upd f26 (0 : Int32).toNatClampNeg 0))), ((ad 27), .inl (c27, 600, .inl (upd f27 (0 : Int32).toNatClampNeg 0))), ((ad 28), .inl (c28, 600, .inl (upd f28 (0 : Int32).toNatClampNeg 0))), (h0, .inr (14, ((((ck_6 ad)).set 60 (.int (-1))).set 68 (.int 0)).set 46 (.int 1)))]) [0, 1, 2, 3, 4] (by decide) rfl
  have hKc := hK.sub (tys' := [(c25, .int), (c26, .int), (c27, .int), (c28, .int)]) [0, 1, 2, 3] rfl
  have hFc := va_free (wc := [((ad 25), .inl (c25, 600, .inl (upd f25 (0 : Int32).toNatClampNeg 0))), ((ad 26), .inl (c26, 600, .inl (upd f26 (0 : Int32).toNatClampNeg 0))), ((ad 27), .inl (c27, 600, .inl (upd f27 (0 : Int32).toNatClampNeg 0))), ((ad 28), .inl (c28, 600, .inl (upd f28 (0 : Int32).toNatClampNeg 0))), (h0, .inr (14, ((((ck_6 ad)).set 60 (.int (-1))).set 68 (.int 0)).set 46 (.int 1)))]) hD hS hA [0, 1, 2, 3, 4] rfl
  refine va_callv (va_runV (As := [.int 25, .int 0, .int 0]) (rest := []) ⟨hx, hb, hml, hown, hts⟩ (a_X12_emit_2 l dC dI s.heap.size h0 aS aV ad c4 f4 c2 f2 c3 f3 c5 f5 c7 f7 c8 f8 c9 f9 c14 f14 c23 f23 c21 f21 c25 f25 c26 f26 c27 f27 c28 f28 c29 f29) (cwV 3 hts vg_a_X12_emit__1_a_X12_emit_2 rfl rfl rfl (by decide +kernel) ⟨Nat.le_of_ble_eq_true rfl, Nat.le_of_ble_eq_true rfl⟩) ⟨fun a U g mk q => by obtain ⟨q0, q1, qP, qK, qD⟩ := q; exact ⟨q0, q1, qP, va_K.moved (u := U) (U := U.calling g mk a) (Vm.Alike.refl U.vm) qK, qD⟩, va_recv hKc hPc (ci := 14) (q0 := 4) rfl rfl, fun U hU hW => ⟨rfl, by rw [hU], by rw [hU]; exact hPc, va_K.moved hW.alike hKc, hDc.weaken (fun _ _ _ _ => trivial)⟩⟩ rfl rfl hl.1 rfl (lv_room (Nat.le_of_ble_eq_true rfl)) dX12_emit__4 ⟨Nat.le_of_ble_eq_true rfl, Nat.le_of_ble_eq_true rfl⟩) hS (fun q _ h => hFc q h) hFc (fun u t H1 locs ht hvm hw hB hz1 hk1 hS => ?_)
  obtain ⟨hP1, hK1, hD1⟩ := hB
  rw [ht] at hP1
  have hK1 := va_K.moved hvm.symm hK1
  try dsimp only at hw
  obtain ⟨hP, hD⟩ := va_join (wr := []) (w1 := [((ad 25), .inl (c25, 600, .inl (upd (upd f25 (0 : Int32).toNatClampNeg 0) (1 : Int32).toNatClampNeg 25))), ((ad 26), .inl (c26, 600, .inl (upd (upd f26 (0 : Int32).toNatClampNeg 0) (1 : Int32).toNatClampNeg 0))), ((ad 27), .inl (c27, 600, .inl (upd (upd f27 (0 : Int32).toNatClampNeg 0) (1 : Int32).toNatClampNeg 0))), ((ad 28), .inl (c28, 600, .inl (upd (upd f28 (0 : Int32).toNatClampNeg 0) (1 : Int32).toNatClampNeg 0))), (h0, .inr (14, (((((ck_6 ad)).set 60 (.int (-1))).set 68 (.int 0)).set 46 (.int 1)).set 46 (.int 2)))]) hP hD [0, 1, 2, 3, 4] [] rfl rfl (by decide) (by decide) hk1 hFc hP1 hD1
  generalize H1 = H at hP hS ⊢
  have hP : va_P (dC, dI) vwCl [((ad 25), .inl (c25, 600, .inl (upd (upd f25 (0 : Int32).toNatClampNeg 0) (1 : Int32).toNatClampNeg 25))), ((ad 26), .inl (c26, 600, .inl (upd (upd f26 (0 : Int32).toNatClampNeg 0) (1 : Int32).toNatClampNeg 0))), ((ad 27), .inl (c27, 600, .inl (upd (upd f27 (0 : Int32).toNatClampNeg 0) (1 : Int32).toNatClampNeg 0))), ((ad 28), .inl (c28, 600, .inl (upd (upd f28 (0 : Int32).toNatClampNeg 0) (1 : Int32).toNatClampNeg 0))), (h0, .inr (14, (((((ck_6 ad)).set 60 (.int (-1))).set 68 (.int 0)).set 46 (.int 1)).set 46 (.int 2)))] H := hP
  have hD : va_D A [((ad 25), .inl (c25, 600, .inl (upd (upd f25 (0 : Int32).toNatClampNeg 0) (1 : Int32).toNatClampNeg 25))), ((ad 26), .inl (c26, 600, .inl (upd (upd f26 (0 : Int32).toNatClampNeg 0) (1 : Int32).toNatClampNeg 0))), ((ad 27), .inl (c27, 600, .inl (upd (upd f27 (0 : Int32).toNatClampNeg 0) (1 : Int32).toNatClampNeg 0))), ((ad 28), .inl (c28, 600, .inl (upd (upd f28 (0 : Int32).toNatClampNeg 0) (1 : Int32).toNatClampNeg 0))), (h0, .inr (14, (((((ck_6 ad)).set 60 (.int (-1))).set 68 (.int 0)).set 46 (.int 1)).set 46 (.int 2)))] := hD
  exact W.vret hx hb hr (fun t ht hW => ⟨⟨(), rfl, trivial, by rw [ht]; exact hP, va_K.moved hW.alike hK, hD⟩, hS.F ht⟩) hS.2.2 dX12_emit__7

def vb_a_X12_codeFunction_1 : List Cond := .code yX12_codeFunction cX12_codeFunction 3 none :: ([.fieldLink RX12 612 "ScriptTypesModel" "coding" "I", .fieldLink RX12 634 "ScriptTypesModel" "wrapped" "I", .fieldLink RX12 101 "ScriptTypesModel" "beginOf" "[I", .fieldLink RX12 606 "ScriptTypesModel" "instructions" "I", .fieldLink RX12 430 "ScriptTypesModel" "globalMany" "I", .fieldLink RX12 77 "ScriptTypesModel" "body" "[I", .methodLink RX12 713 yX12_codes, .instanceMethod yX12_codes, .selects RX12 yX12_codes yX12_codes, .initialized RX12, .methodLink RX12 656 yX12_constant, .instanceMethod yX12_constant, .selects RX12 yX12_constant yX12_constant, .methodLink RX12 666 yX12_emit_, .instanceMethod yX12_emit_, .selects RX12 yX12_emit_ yX12_emit_] ++ (vb_a_X12_codes_1 ++ (vb_a_X12_constant_1 ++ (vb_a_X12_emit__1 ++ []))))
def vw_a_X12_codeFunction_1 : List Cond := vb_a_X12_codeFunction_1 ++ wsX120
set_option maxRecDepth 20000 in
theorem vg_a_X12_codeFunction_1_a_X12_codes_1 : GoodIn vw_a_X12_codeFunction_1 (wsV RX12 713 RX12 yX12_codes vw_a_X12_codes_1) := goodIn_app (goodIn_of _ (by decide +kernel)) (goodIn_sub (v_sub (fun w h => List.mem_cons_of_mem _ (List.mem_append_right _ (List.mem_append_left _ (h))))) (by decide +kernel))
set_option maxRecDepth 20000 in
theorem vg_a_X12_codeFunction_1_a_X12_constant_1 : GoodIn vw_a_X12_codeFunction_1 (wsV RX12 656 RX12 yX12_constant vw_a_X12_constant_1) := goodIn_app (goodIn_of _ (by decide +kernel)) (goodIn_sub (v_sub (fun w h => List.mem_cons_of_mem _ (List.mem_append_right _ (List.mem_append_right _ (List.mem_append_left _ (h)))))) (by decide +kernel))
set_option maxRecDepth 20000 in
theorem vg_a_X12_codeFunction_1_a_X12_emit__1 : GoodIn vw_a_X12_codeFunction_1 (wsV RX12 666 RX12 yX12_emit_ vw_a_X12_emit__1) := goodIn_app (goodIn_of _ (by decide +kernel)) (goodIn_sub (v_sub (fun w h => List.mem_cons_of_mem _ (List.mem_append_right _ (List.mem_append_right _ (List.mem_append_right _ (List.mem_append_left _ (h))))))) (by decide +kernel))
set_option maxHeartbeats 8000000 in
set_option maxRecDepth 100000 in
theorem a_X12_codeFunction_1 (l : Launch) (dC : Nat → ClassId) (dI : Nat → Nat → Nat) (sz : Nat) (h0 aS aV : Nat) (ad : Nat → Nat) (c4 : ClassId) (f4 : Nat → Int32) (c2 : ClassId) (f2 : Nat → Int32) (c3 : ClassId) (f3 : Nat → Int32) (c5 : ClassId) (f5 : Nat → Int32) (c7 : ClassId) (f7 : Nat → Int32) (c8 : ClassId) (f8 : Nat → Int32) (c9 : ClassId) (f9 : Nat → Int32) (c14 : ClassId) (f14 : Nat → Int32) (c23 : ClassId) (f23 : Nat → Int32) (c21 : ClassId) (f21 : Nat → Int32) (c25 : ClassId) (f25 : Nat → Int32) (c26 : ClassId) (f26 : Nat → Int32) (c27 : ClassId) (f27 : Nat → Int32) (c28 : ClassId) (f28 : Nat → Int32) (c29 : ClassId) (f29 : Nat → Int32) : Met l yX12_codeFunction vw_a_X12_codeFunction_1 ({ frames := 2, cells := 0, slots := 0, locals := 45 }) (va_Pc [.ref h0, .int 0] (fun U => U.heap.size = sz ∧ va_P (dC, dI) vwCl [((ad 21), .inl (c21, 12, .inl (upd f21 (0 : Int32).toNatClampNeg (-1)))), ((ad 25), .inl (c25, 600, .inl f25)), ((ad 26), .inl (c26, 600, .inl f26)), ((ad 27), .inl (c27, 600, .inl f27)), ((ad 28), .inl (c28, 600, .inl f28)), ((ad 29), .inl (c29, 12, .inl f29)), (h0, .inr (14, ((((((ck_5 ad)).set 68 (.int 0)).set 66 (.int 0)).set 53 (.int 0)).set 59 (.int 0)).set 55 (.int 0)))] U.heap ∧ va_K (dC, dI) vwCl [(c21, .int), (c25, .int), (c26, .int), (c27, .int), (c28, .int), (c29, .int)] U ∧ va_D (fun _ => True) [((ad 21), .inl (c21, 12, .inl (upd f21 (0 : Int32).toNatClampNeg (-1)))), ((ad 25), .inl (c25, 600, .inl f25)), ((ad 26), .inl (c26, 600, .inl f26)), ((ad 27), .inl (c27, 600, .inl f27)), ((ad 28), .inl (c28, 600, .inl f28)), ((ad 29), .inl (c29, 12, .inl f29)), (h0, .inr (14, ((((((ck_5 ad)).set 68 (.int 0)).set 66 (.int 0)).set 53 (.int 0)).set 59 (.int 0)).set 55 (.int 0)))])) (va_Qv (fun _ : Unit => True) (fun (_ : Unit) t => va_P (dC, dI) vwCl [((ad 21), .inl (c21, 12, .inl (upd f21 (0 : Int32).toNatClampNeg (-1)))), ((ad 29), .inl (c29, 12, .inl (upd f29 (0 : Int32).toNatClampNeg 0))), ((ad 25), .inl (c25, 600, .inl (upd (upd f25 (0 : Int32).toNatClampNeg 0) (1 : Int32).toNatClampNeg 25))), ((ad 26), .inl (c26, 600, .inl (upd (upd f26 (0 : Int32).toNatClampNeg 0) (1 : Int32).toNatClampNeg 0))), ((ad 27), .inl (c27, 600, .inl (upd (upd f27 (0 : Int32).toNatClampNeg 0) (1 : Int32).toNatClampNeg 0))), ((ad 28), .inl (c28, 600, .inl (upd (upd f28 (0 : Int32).toNatClampNeg 0) (1 : Int32).toNatClampNeg 0))), (h0, .inr (14, (((((ck_6 ad)).set 60 (.int (-1))).set 68 (.int 0)).set 46 (.int 1)).set 46 (.int 2)))] t.heap ∧ va_K (dC, dI) vwCl [(c21, .int), (c25, .int), (c26, .int), (c27, .int), (c28, .int), (c29, .int)] t ∧ va_D (va_A [((ad 21), .inl (c21, 12, .inl (upd f21 (0 : Int32).toNatClampNeg (-1)))), ((ad 25), .inl (c25, 600, .inl f25)), ((ad 26), .inl (c26, 600, .inl f26)), ((ad 27), .inl (c27, 600, .inl f27)), ((ad 28), .inl (c28, 600, .inl f28)), ((ad 29), .inl (c29, 12, .inl f29)), (h0, .inr (14, ((((((ck_5 ad)).set 68 (.int 0)).set 66 (.int 0)).set 53 (.int 0)).set 59 (.int 0)).set 55 (.int 0)))] sz) [((ad 21), .inl (c21, 12, .inl (upd f21 (0 : Int32).toNatClampNeg (-1)))), ((ad 29), .inl (c29, 12, .inl (upd f29 (0 : Int32).toNatClampNeg 0))), ((ad 25), .inl (c25, 600, .inl (upd (upd f25 (0 : Int32).toNatClampNeg 0) (1 : Int32).toNatClampNeg 25))), ((ad 26), .inl (c26, 600, .inl (upd (upd f26 (0 : Int32).toNatClampNeg 0) (1 : Int32).toNatClampNeg 0))), ((ad 27), .inl (c27, 600, .inl (upd (upd f27 (0 : Int32).toNatClampNeg 0) (1 : Int32).toNatClampNeg 0))), ((ad 28), .inl (c28, 600, .inl (upd (upd f28 (0 : Int32).toNatClampNeg 0) (1 : Int32).toNatClampNeg 0))), (h0, .inr (14, (((((ck_6 ad)).set 60 (.int (-1))).set 68 (.int 0)).set 46 (.int 1)).set 46 (.int 2)))]) (va_A [((ad 21), .inl (c21, 12, .inl (upd f21 (0 : Int32).toNatClampNeg (-1)))), ((ad 25), .inl (c25, 600, .inl f25)), ((ad 26), .inl (c26, 600, .inl f26)), ((ad 27), .inl (c27, 600, .inl f27)), ((ad 28), .inl (c28, 600, .inl f28)), ((ad 29), .inl (c29, 12, .inl f29)), (h0, .inr (14, ((((((ck_5 ad)).set 68 (.int 0)).set 66 (.int 0)).set 53 (.int 0)).set 59 (.int 0)).set 55 (.int 0)))] sz)) 0 0 (va_A [((ad 21), .inl (c21, 12, .inl (upd f21 (0 : Int32).toNatClampNeg (-1)))), ((ad 25), .inl (c25, 600, .inl f25)), ((ad 26), .inl (c26, 600, .inl f26)), ((ad 27), .inl (c27, 600, .inl f27)), ((ad 28), .inl (c28, 600, .inl f28)), ((ad 29), .inl (c29, 12, .inl f29)), (h0, .inr (14, ((((((ck_5 ad)).set 68 (.int 0)).set 66 (.int 0)).set 53 (.int 0)).set 59 (.int 0)).set 55 (.int 0)))] sz) := by
  refine Met.ofW (cc := cX12_codeFunction) (maxL := 3) (ret := none) (by decide) rfl ?_
  intro p e s m args below meth c s₁ B hml hv
  obtain ⟨rfl, hsz, hP, hK, hD0⟩ := hv
  have hx := B.exec
  have hb := B.bytes
  have hr := B.returns
  have hts := atoms_spec (ws := vw_a_X12_codeFunction_1) B.pre
  have hown : s.vm.findClass RX12 = some m.cls := findClass_of_methodNamed B.named
  have hlocks := B.notSynchronized
  subst hsz
  have hD := hD0.self (sz := s.heap.size)
  generalize hAe : va_A [((ad 21), .inl (c21, 12, .inl (upd f21 (0 : Int32).toNatClampNeg (-1)))), ((ad 25), .inl (c25, 600, .inl f25)), ((ad 26), .inl (c26, 600, .inl f26)), ((ad 27), .inl (c27, 600, .inl f27)), ((ad 28), .inl (c28, 600, .inl f28)), ((ad 29), .inl (c29, 12, .inl f29)), (h0, .inr (14, ((((((ck_5 ad)).set 68 (.int 0)).set 66 (.int 0)).set 53 (.int 0)).set 59 (.int 0)).set 55 (.int 0)))] s.heap.size = A at hD ⊢
  have hA : ∀ q : Nat, s.heap.size ≤ q → A q := fun q h => by rw [← hAe]; exact Or.inr h
  have hS : va_S A s.heap s.heap [] := va_S.rf
  have hP : va_P (dC, dI) vwCl [((ad 21), .inl (c21, 12, .inl (upd f21 (0 : Int32).toNatClampNeg (-1)))), ((ad 25), .inl (c25, 600, .inl f25)), ((ad 26), .inl (c26, 600, .inl f26)), ((ad 27), .inl (c27, 600, .inl f27)), ((ad 28), .inl (c28, 600, .inl f28)), ((ad 29), .inl (c29, 12, .inl f29)), (h0, .inr (14, ((((((ck_5 ad)).set 68 (.int 0)).set 66 (.int 0)).set 53 (.int 0)).set 59 (.int 0)).set 55 (.int 0)))] s.heap := hP
  have hl := lv_entry ([.ref h0, .int 0]) (n := 3) (Nat.le_of_ble_eq_true rfl)
  rw [lg_entry_eq]
  generalize (lg_sl ([.ref h0, .int 0]) ++ List.replicate (3 - (lg_sl ([.ref h0, .int 0])).length) Slot.unset).toArray = ls at hl ⊢
  have hl : lv_has ls 3 [(0, .ref h0), (1, .int 0)] := hl
  have hwX12 : ∀ w ∈ wsX120, w ∈ vw_a_X12_codeFunction_1 := (fun w h => List.mem_append_right _ h)
  refine lv_aload_n hx hb dX12_codeFunction_0 rfl (lv_at hl 0 rfl) ?_
  refine lv_iload_n hx hb dX12_codeFunction_1 rfl (lv_at hl 1 rfl) ?_
  refine va_put (D := (dC, dI)) (ci := 14) (v := .int 0) (ty := tyX12 56) (C := RX12) (T := TX12) (N := 151) hx hb hts hwX12 tyX12 tyX12_ok nmX12 hown hK hP hD hS 6 rfl rfl 56 (Nat.le_of_ble_eq_true rfl) (hts (.fieldLink RX12 612 "ScriptTypesModel" "coding" "I") (List.mem_of_getElem? (i := 1) (by decide +kernel))) (fun _ h9 => h9) rfl (tyX12_ok 56 (Nat.le_of_ble_eq_true rfl)) rfl rfl (Nat.le_of_ble_eq_true rfl) dX12_codeFunction_2 (fun H locs hP hD hS => ?_)
  have hP : va_P (dC, dI) vwCl [((ad 21), .inl (c21, 12, .inl (upd f21 (0 : Int32).toNatClampNeg (-1)))), ((ad 25), .inl (c25, 600, .inl f25)), ((ad 26), .inl (c26, 600, .inl f26)), ((ad 27), .inl (c27, 600, .inl f27)), ((ad 28), .inl (c28, 600, .inl f28)), ((ad 29), .inl (c29, 12, .inl f29)), (h0, .inr (14, (ck_6 ad)))] H := hP
  have hD : va_D A [((ad 21), .inl (c21, 12, .inl (upd f21 (0 : Int32).toNatClampNeg (-1)))), ((ad 25), .inl (c25, 600, .inl f25)), ((ad 26), .inl (c26, 600, .inl f26)), ((ad 27), .inl (c27, 600, .inl f27)), ((ad 28), .inl (c28, 600, .inl f28)), ((ad 29), .inl (c29, 12, .inl f29)), (h0, .inr (14, (ck_6 ad)))] := hD
  refine lv_aload_n hx hb dX12_codeFunction_5 rfl (lv_at hl 0 rfl) ?_
  refine lv_iconst (v := (-1)) hx hb dX12_codeFunction_6 (by decide) ?_
  refine va_put (D := (dC, dI)) (ci := 14) (v := .int (-1)) (ty := tyX12 60) (C := RX12) (T := TX12) (N := 151) hx hb hts hwX12 tyX12 tyX12_ok nmX12 hown hK hP hD hS 6 rfl rfl 60 (Nat.le_of_ble_eq_true rfl) (hts (.fieldLink RX12 634 "ScriptTypesModel" "wrapped" "I") (List.mem_of_getElem? (i := 2) (by decide +kernel))) (fun _ h9 => h9) rfl (tyX12_ok 60 (Nat.le_of_ble_eq_true rfl)) rfl rfl (Nat.le_of_ble_eq_true rfl) dX12_codeFunction_7 (fun H locs hP hD hS => ?_)
  have hP : va_P (dC, dI) vwCl [((ad 21), .inl (c21, 12, .inl (upd f21 (0 : Int32).toNatClampNeg (-1)))), ((ad 25), .inl (c25, 600, .inl f25)), ((ad 26), .inl (c26, 600, .inl f26)), ((ad 27), .inl (c27, 600, .inl f27)), ((ad 28), .inl (c28, 600, .inl f28)), ((ad 29), .inl (c29, 12, .inl f29)), (h0, .inr (14, ((ck_6 ad)).set 60 (.int (-1))))] H := hP
  have hD : va_D A [((ad 21), .inl (c21, 12, .inl (upd f21 (0 : Int32).toNatClampNeg (-1)))), ((ad 25), .inl (c25, 600, .inl f25)), ((ad 26), .inl (c26, 600, .inl f26)), ((ad 27), .inl (c27, 600, .inl f27)), ((ad 28), .inl (c28, 600, .inl f28)), ((ad 29), .inl (c29, 12, .inl f29)), (h0, .inr (14, ((ck_6 ad)).set 60 (.int (-1))))] := hD
  refine lv_aload_n hx hb dX12_codeFunction_10 rfl (lv_at hl 0 rfl) ?_
  refine va_get (D := (dC, dI)) (ci := 14) (v := .ref (ad 29)) (C := RX12) (T := TX12) (N := 151) hx hb hts hwX12 hown hK hP 6 rfl rfl 52 (Nat.le_of_ble_eq_true rfl) (hts (.fieldLink RX12 101 "ScriptTypesModel" "beginOf" "[I") (List.mem_of_getElem? (i := 3) (by decide +kernel))) (fun _ h9 => h9) rfl dX12_codeFunction_11 ?_
  refine lv_iload_n hx hb dX12_codeFunction_14 rfl (lv_at hl 1 rfl) ?_
  refine lv_aload_n hx hb dX12_codeFunction_15 rfl (lv_at hl 0 rfl) ?_
  refine va_get (D := (dC, dI)) (ci := 14) (v := .int 0) (C := RX12) (T := TX12) (N := 151) hx hb hts hwX12 hown hK hP 6 rfl rfl 46 (Nat.le_of_ble_eq_true rfl) (hts (.fieldLink RX12 606 "ScriptTypesModel" "instructions" "I") (List.mem_of_getElem? (i := 4) (by decide +kernel))) (fun _ h9 => h9) rfl dX12_codeFunction_16 ?_
  refine va_iast hx hb hK hP hD hS 5 5 rfl rfl (show ¬ ((0 : Int32) < 0 ∨ 12 ≤ (0 : Int32).toNatClampNeg) by decide) dX12_codeFunction_19 (fun H locs hP hD hS => ?_)
  have hP : va_P (dC, dI) vwCl [((ad 21), .inl (c21, 12, .inl (upd f21 (0 : Int32).toNatClampNeg (-1)))), ((ad 25), .inl (c25, 600, .inl f25)), ((ad 26), .inl (c26, 600, .inl f26)), ((ad 27), .inl (c27, 600, .inl f27)), ((ad 28), .inl (c28, 600, .inl f28)), ((ad 29), .inl (c29, 12, .inl (upd f29 (0 : Int32).toNatClampNeg 0))), (h0, .inr (14, ((ck_6 ad)).set 60 (.int (-1))))] H := hP
  have hD : va_D A [((ad 21), .inl (c21, 12, .inl (upd f21 (0 : Int32).toNatClampNeg (-1)))), ((ad 25), .inl (c25, 600, .inl f25)), ((ad 26), .inl (c26, 600, .inl f26)), ((ad 27), .inl (c27, 600, .inl f27)), ((ad 28), .inl (c28, 600, .inl f28)), ((ad 29), .inl (c29, 12, .inl (upd f29 (0 : Int32).toNatClampNeg 0))), (h0, .inr (14, ((ck_6 ad)).set 60 (.int (-1))))] := hD
  refine lv_iconst (v := 0) hx hb dX12_codeFunction_20 (by decide) ?_
  refine lv_istore_n (lv' := [(2, .int 0), (0, .ref h0), (1, .int 0)]) hx hb dX12_codeFunction_21 rfl hl (by decide) rfl (fun ls hl => ?_)
  refine lv_iload_n hx hb dX12_codeFunction_22 rfl (lv_at hl 2 rfl) ?_
  refine lv_if_ne (tgt := 62) hx hb dX12_codeFunction_23 (by decide) (fun c1_23 => absurd (by decide) c1_23) (fun _ => ?_)
  refine lv_iload_n hx hb dX12_codeFunction_26 rfl (lv_at hl 0 rfl) ?_
  refine lv_aload_n hx hb dX12_codeFunction_27 rfl (lv_at hl 1 rfl) ?_
  refine va_get (D := (dC, dI)) (ci := 14) (v := .int 0) (C := RX12) (T := TX12) (N := 151) hx hb hts hwX12 hown hK hP 6 rfl rfl 42 (Nat.le_of_ble_eq_true rfl) (hts (.fieldLink RX12 430 "ScriptTypesModel" "globalMany" "I") (List.mem_of_getElem? (i := 5) (by decide +kernel))) (fun _ h9 => h9) rfl dX12_codeFunction_28 ?_
  refine lv_icmp_ge (tgt := 62) hx hb dX12_codeFunction_31 (by decide) (fun _ => ?_) (fun c2_31 => absurd (by decide) c2_31)
  refine lv_aload_n hx hb dX12_codeFunction_62 rfl (lv_at hl 1 rfl) ?_
  refine va_get (D := (dC, dI)) (ci := 14) (v := .ref (ad 21)) (C := RX12) (T := TX12) (N := 151) hx hb hts hwX12 hown hK hP 6 rfl rfl 38 (Nat.le_of_ble_eq_true rfl) (hts (.fieldLink RX12 77 "ScriptTypesModel" "body" "[I") (List.mem_of_getElem? (i := 6) (by decide +kernel))) (fun _ h9 => h9) rfl dX12_codeFunction_63 ?_
  refine lv_iload_n hx hb dX12_codeFunction_66 rfl (lv_at hl 2 rfl) ?_
  refine va_iald hx hb hK hP 0 0 rfl rfl (show ¬ ((0 : Int32) < 0 ∨ 12 ≤ (0 : Int32).toNatClampNeg) by decide) dX12_codeFunction_67 ?_
  refine lv_topi (fun f_3 ef_3 => ?_)
  obtain rfl : f_3 = (-1) := by rw [ef_3]; rfl
  refine lv_istore_n (lv' := [(2, .int (-1)), (0, .ref h0), (1, .int 0)]) hx hb dX12_codeFunction_68 rfl hl (by decide) rfl (fun ls hl => ?_)
  refine lv_iload_n hx hb dX12_codeFunction_69 rfl (lv_at hl 0 rfl) ?_
  refine lv_iconst (v := (-1)) hx hb dX12_codeFunction_70 (by decide) ?_
  refine lv_icmp_eq (tgt := 132) hx hb dX12_codeFunction_71 (by decide) (fun _ => ?_) (fun c4_71 => absurd (by decide) c4_71)
  refine lv_aload_n hx hb dX12_codeFunction_132 rfl (lv_at hl 1 rfl) ?_
  refine lv_aload_n hx hb dX12_codeFunction_133 rfl (lv_at hl 1 rfl) ?_
  refine va_get (D := (dC, dI)) (ci := 14) (v := .ref (ad 21)) (C := RX12) (T := TX12) (N := 151) hx hb hts hwX12 hown hK hP 6 rfl rfl 38 (Nat.le_of_ble_eq_true rfl) (hts (.fieldLink RX12 77 "ScriptTypesModel" "body" "[I") (List.mem_of_getElem? (i := 6) (by decide +kernel))) (fun _ h9 => h9) rfl dX12_codeFunction_134 ?_
  refine lv_iload_n hx hb dX12_codeFunction_137 rfl (lv_at hl 2 rfl) ?_
  refine va_iald hx hb hK hP 0 0 rfl rfl (show ¬ ((0 : Int32) < 0 ∨ 12 ≤ (0 : Int32).toNatClampNeg) by decide) dX12_codeFunction_138 ?_
  refine lv_topi (fun f_5 ef_5 => ?_)
  obtain rfl : f_5 = (-1) := by rw [ef_5]; rfl
  have hPc := hP.sub (ws' := [(h0, .inr (14, ((ck_6 ad)).set 60 (.int (-1))))]) [6] rfl
  have hDc := hD.sub (ws' := [(h0, .inr (14, ((ck_6 ad)).set 60 (.int (-1))))]) [6] (by decide) rfl
  have hKc := hK.sub (tys' := []) [] rfl
  have hFc := va_free (wc := [(h0, .inr (14, ((ck_6 ad)).set 60 (.int (-1))))]) hD hS hA [6] rfl
  refine va_callv (va_runV (As := [.int (-1)]) (rest := []) ⟨hx, hb, hml, hown, hts⟩ (a_X12_codes_1 l dC dI H.size h0 aS aV ad c4 f4 c2 f2 c3 f3 c5 f5 c7 f7 c8 f8 c9 f9 c14 f14 c23 f23 c21 f21 c25 f25 c26 f26 c27 f27 c28 f28 c29 f29) (cwV 1 hts vg_a_X12_codeFunction_1_a_X12_codes_1 rfl rfl rfl (by decide +kernel) ⟨Nat.le_of_ble_eq_true rfl, Nat.le_of_ble_eq_true rfl⟩) ⟨fun a U g mk q => by obtain ⟨q0, q1, qP, qK, qD⟩ := q; exact ⟨q0, q1, qP, va_K.moved (u := U) (U := U.calling g mk a) (Vm.Alike.refl U.vm) qK, qD⟩, va_recv hKc hPc (ci := 14) (q0 := 0) rfl rfl, fun U hU hW => ⟨rfl, by rw [hU], by rw [hU]; exact hPc, va_K.moved hW.alike hKc, hDc.weaken (fun _ _ _ _ => trivial)⟩⟩ rfl rfl hl.1 rfl (lv_room (Nat.le_of_ble_eq_true rfl)) dX12_codeFunction_139 ⟨Nat.le_of_ble_eq_true rfl, Nat.le_of_ble_eq_true rfl⟩) hS (fun q _ h => hFc q h) hFc (fun u t H1 locs ht hvm hw hB hz1 hk1 hS => ?_)
  obtain ⟨hP1, hK1, hD1⟩ := hB
  rw [ht] at hP1
  have hK1 := va_K.moved hvm.symm hK1
  try dsimp only at hw
  obtain ⟨hP, hD⟩ := va_join (wr := [((ad 21), .inl (c21, 12, .inl (upd f21 (0 : Int32).toNatClampNeg (-1)))), ((ad 25), .inl (c25, 600, .inl f25)), ((ad 26), .inl (c26, 600, .inl f26)), ((ad 27), .inl (c27, 600, .inl f27)), ((ad 28), .inl (c28, 600, .inl f28)), ((ad 29), .inl (c29, 12, .inl (upd f29 (0 : Int32).toNatClampNeg 0)))]) (w1 := [(h0, .inr (14, (((ck_6 ad)).set 60 (.int (-1))).set 68 (.int 0)))]) hP hD [6] [0, 1, 2, 3, 4, 5] rfl rfl (by decide) (by decide) hk1 hFc hP1 hD1
  generalize H1 = H at hP hS ⊢
  have hP : va_P (dC, dI) vwCl [((ad 21), .inl (c21, 12, .inl (upd f21 (0 : Int32).toNatClampNeg (-1)))), ((ad 25), .inl (c25, 600, .inl f25)), ((ad 26), .inl (c26, 600, .inl f26)), ((ad 27), .inl (c27, 600, .inl f27)), ((ad 28), .inl (c28, 600, .inl f28)), ((ad 29), .inl (c29, 12, .inl (upd f29 (0 : Int32).toNatClampNeg 0))), (h0, .inr (14, (((ck_6 ad)).set 60 (.int (-1))).set 68 (.int 0)))] H := hP
  have hD : va_D A [((ad 21), .inl (c21, 12, .inl (upd f21 (0 : Int32).toNatClampNeg (-1)))), ((ad 25), .inl (c25, 600, .inl f25)), ((ad 26), .inl (c26, 600, .inl f26)), ((ad 27), .inl (c27, 600, .inl f27)), ((ad 28), .inl (c28, 600, .inl f28)), ((ad 29), .inl (c29, 12, .inl (upd f29 (0 : Int32).toNatClampNeg 0))), (h0, .inr (14, (((ck_6 ad)).set 60 (.int (-1))).set 68 (.int 0)))] := hD
  refine lv_aload_n hx hb dX12_codeFunction_142 rfl (lv_at hl 1 rfl) ?_
  refine lv_iconst (v := 0) hx hb dX12_codeFunction_143 (by decide) ?_
  refine lv_iconst (v := 0) hx hb dX12_codeFunction_144 (by decide) ?_
  have hPc := hP.sub (ws' := [((ad 25), .inl (c25, 600, .inl f25)), ((ad 26), .inl (c26, 600, .inl f26)), ((ad 27), .inl (c27, 600, .inl f27)), ((ad 28), .inl (c28, 600, .inl f28)), (h0, .inr (14, (((ck_6 ad)).set 60 (.int (-1))).set 68 (.int 0)))]) [1, 2, 3, 4, 6] rfl
  have hDc := hD.sub (ws' := [((ad 25), .inl (c25, 600, .inl f25)), ((ad 26), .inl (c26, 600, .inl f26)), ((ad 27), .inl (c27, 600, .inl f27)), ((ad 28), .inl (c28, 600, .inl f28)), (h0, .inr (14, (((ck_6 ad)).set 60 (.int (-1))).set 68 (.int 0)))]) [1, 2, 3, 4, 6] (by decide) rfl
  have hKc := hK.sub (tys' := [(c25, .int), (c26, .int), (c27, .int), (c28, .int)]) [1, 2, 3, 4] rfl
  have hFc := va_free (wc := [((ad 25), .inl (c25, 600, .inl f25)), ((ad 26), .inl (c26, 600, .inl f26)), ((ad 27), .inl (c27, 600, .inl f27)), ((ad 28), .inl (c28, 600, .inl f28)), (h0, .inr (14, (((ck_6 ad)).set 60 (.int (-1))).set 68 (.int 0)))]) hD hS hA [1, 2, 3, 4, 6] rfl
  refine va_callv (va_runV (As := [.int 0, .int 0]) (rest := []) ⟨hx, hb, hml, hown, hts⟩ (a_X12_constant_1 l dC dI H.size h0 aS aV ad c4 f4 c2 f2 c3 f3 c5 f5 c7 f7 c8 f8 c9 f9 c14 f14 c23 f23 c21 f21 c25 f25 c26 f26 c27 f27 c28 f28 c29 f29) (cwV 2 hts vg_a_X12_codeFunction_1_a_X12_constant_1 rfl rfl rfl (by decide +kernel) ⟨Nat.le_of_ble_eq_true rfl, Nat.le_of_ble_eq_true rfl⟩) ⟨fun a U g mk q => by obtain ⟨q0, q1, qP, qK, qD⟩ := q; exact ⟨q0, q1, qP, va_K.moved (u := U) (U := U.calling g mk a) (Vm.Alike.refl U.vm) qK, qD⟩, va_recv hKc hPc (ci := 14) (q0 := 4) rfl rfl, fun U hU hW => ⟨rfl, by rw [hU], by rw [hU]; exact hPc, va_K.moved hW.alike hKc, hDc.weaken (fun _ _ _ _ => trivial)⟩⟩ rfl rfl hl.1 rfl (lv_room (Nat.le_of_ble_eq_true rfl)) dX12_codeFunction_145 ⟨Nat.le_of_ble_eq_true rfl, Nat.le_of_ble_eq_true rfl⟩) hS (fun q _ h => hFc q h) hFc (fun u t H1 locs ht hvm hw hB hz1 hk1 hS => ?_)
  obtain ⟨hP1, hK1, hD1⟩ := hB
  rw [ht] at hP1
  have hK1 := va_K.moved hvm.symm hK1
  try dsimp only at hw
  obtain ⟨hP, hD⟩ := va_join (wr := [((ad 21), .inl (c21, 12, .inl (upd f21 (0 : Int32).toNatClampNeg (-1)))), ((ad 29), .inl (c29, 12, .inl (upd f29 (0 : Int32).toNatClampNeg 0)))]) (w1 := [((ad 25), .inl (c25, 600, .inl (upd f25 (0 : Int32).toNatClampNeg 0))), ((ad 26), .inl (c26, 600, .inl (upd f26 (0 : Int32).toNatClampNeg 0))), ((ad 27), .inl (c27, 600, .inl (upd f27 (0 : Int32).toNatClampNeg 0))), ((ad 28), .inl (c28, 600, .inl (upd f28 (0 : Int32).toNatClampNeg 0))), (h0, .inr (14, ((((ck_6 ad)).set 60 (.int (-1))).set 68 (.int 0)).set 46 (.int 1)))]) hP hD [1, 2, 3, 4, 6] [0, 5] rfl rfl (by decide) (by decide) hk1 hFc hP1 hD1
  generalize H1 = H at hP hS ⊢
  have hP : va_P (dC, dI) vwCl [((ad 21), .inl (c21, 12, .inl (upd f21 (0 : Int32).toNatClampNeg (-1)))), ((ad 29), .inl (c29, 12, .inl (upd f29 (0 : Int32).toNatClampNeg 0))), ((ad 25), .inl (c25, 600, .inl (upd f25 (0 : Int32).toNatClampNeg 0))), ((ad 26), .inl (c26, 600, .inl (upd f26 (0 : Int32).toNatClampNeg 0))), ((ad 27), .inl (c27, 600, .inl (upd f27 (0 : Int32).toNatClampNeg 0))), ((ad 28), .inl (c28, 600, .inl (upd f28 (0 : Int32).toNatClampNeg 0))), (h0, .inr (14, ((((ck_6 ad)).set 60 (.int (-1))).set 68 (.int 0)).set 46 (.int 1)))] H := hP
  have hD : va_D A [((ad 21), .inl (c21, 12, .inl (upd f21 (0 : Int32).toNatClampNeg (-1)))), ((ad 29), .inl (c29, 12, .inl (upd f29 (0 : Int32).toNatClampNeg 0))), ((ad 25), .inl (c25, 600, .inl (upd f25 (0 : Int32).toNatClampNeg 0))), ((ad 26), .inl (c26, 600, .inl (upd f26 (0 : Int32).toNatClampNeg 0))), ((ad 27), .inl (c27, 600, .inl (upd f27 (0 : Int32).toNatClampNeg 0))), ((ad 28), .inl (c28, 600, .inl (upd f28 (0 : Int32).toNatClampNeg 0))), (h0, .inr (14, ((((ck_6 ad)).set 60 (.int (-1))).set 68 (.int 0)).set 46 (.int 1)))] := hD
  refine lv_aload_n hx hb dX12_codeFunction_148 rfl (lv_at hl 1 rfl) ?_
  refine lv_bipush (v := 25) hx hb dX12_codeFunction_149 (by decide) ?_
  have hPc := hP.sub (ws' := [((ad 25), .inl (c25, 600, .inl (upd f25 (0 : Int32).toNatClampNeg 0))), ((ad 26), .inl (c26, 600, .inl (upd f26 (0 : Int32).toNatClampNeg 0))), ((ad 27), .inl (c27, 600, .inl (upd f27 (0 : Int32).toNatClampNeg 0))), ((ad 28), .inl (c28, 600, .inl (upd f28 (0 : Int32).toNatClampNeg 0))), (h0, .inr (14, ((((ck_6 ad)).set 60 (.int (-1))).set 68 (.int 0)).set 46 (.int 1)))]) [2, 3, 4, 5, 6] rfl
  have hDc := hD.sub (ws' := [((ad 25), .inl (c25, 600, .inl (upd f25 (0 : Int32).toNatClampNeg 0))), ((ad 26), .inl (c26, 600, .inl (upd f26 (0 : Int32).toNatClampNeg 0))), ((ad 27), .inl (c27, 600, .inl (upd f27 (0 : Int32).toNatClampNeg 0))), ((ad 28), .inl (c28, 600, .inl (upd f28 (0 : Int32).toNatClampNeg 0))), (h0, .inr (14, ((((ck_6 ad)).set 60 (.int (-1))).set 68 (.int 0)).set 46 (.int 1)))]) [2, 3, 4, 5, 6] (by decide) rfl
  have hKc := hK.sub (tys' := [(c25, .int), (c26, .int), (c27, .int), (c28, .int)]) [1, 2, 3, 4] rfl
  have hFc := va_free (wc := [((ad 25), .inl (c25, 600, .inl (upd f25 (0 : Int32).toNatClampNeg 0))), ((ad 26), .inl (c26, 600, .inl (upd f26 (0 : Int32).toNatClampNeg 0))), ((ad 27), .inl (c27, 600, .inl (upd f27 (0 : Int32).toNatClampNeg 0))), ((ad 28), .inl (c28, 600, .inl (upd f28 (0 : Int32).toNatClampNeg 0))), (h0, .inr (14, ((((ck_6 ad)).set 60 (.int (-1))).set 68 (.int 0)).set 46 (.int 1)))]) hD hS hA [2, 3, 4, 5, 6] rfl
  refine va_callv (va_runV (As := [.int 25]) (rest := []) ⟨hx, hb, hml, hown, hts⟩ (a_X12_emit__1 l dC dI H.size h0 aS aV ad c4 f4 c2 f2 c3 f3 c5 f5 c7 f7 c8 f8 c9 f9 c14 f14 c23 f23 c21 f21 c25 f25 c26 f26 c27 f27 c28 f28 c29 f29) (cwV 1 hts vg_a_X12_codeFunction_1_a_X12_emit__1 rfl rfl rfl (by decide +kernel) ⟨Nat.le_of_ble_eq_true rfl, Nat.le_of_ble_eq_true rfl⟩) ⟨fun a U g mk q => by obtain ⟨q0, q1, qP, qK, qD⟩ := q; exact ⟨q0, q1, qP, va_K.moved (u := U) (U := U.calling g mk a) (Vm.Alike.refl U.vm) qK, qD⟩, va_recv hKc hPc (ci := 14) (q0 := 4) rfl rfl, fun U hU hW => ⟨rfl, by rw [hU], by rw [hU]; exact hPc, va_K.moved hW.alike hKc, hDc.weaken (fun _ _ _ _ => trivial)⟩⟩ rfl rfl hl.1 rfl (lv_room (Nat.le_of_ble_eq_true rfl)) dX12_codeFunction_151 ⟨Nat.le_of_ble_eq_true rfl, Nat.le_of_ble_eq_true rfl⟩) hS (fun q _ h => hFc q h) hFc (fun u t H1 locs ht hvm hw hB hz1 hk1 hS => ?_)
  obtain ⟨hP1, hK1, hD1⟩ := hB
  rw [ht] at hP1
  have hK1 := va_K.moved hvm.symm hK1
  try dsimp only at hw
  obtain ⟨hP, hD⟩ := va_join (wr := [((ad 21), .inl (c21, 12, .inl (upd f21 (0 : Int32).toNatClampNeg (-1)))), ((ad 29), .inl (c29, 12, .inl (upd f29 (0 : Int32).toNatClampNeg 0)))]) (w1 := [((ad 25), .inl (c25, 600, .inl (upd (upd f25 (0 : Int32).toNatClampNeg 0) (1 : Int32).toNatClampNeg 25))), ((ad 26), .inl (c26, 600, .inl (upd (upd f26 (0 : Int32).toNatClampNeg 0) (1 : Int32).toNatClampNeg 0))), ((ad 27), .inl (c27, 600, .inl (upd (upd f27 (0 : Int32).toNatClampNeg 0) (1 : Int32).toNatClampNeg 0))), ((ad 28), .inl (c28, 600, .inl (upd (upd f28 (0 : Int32).toNatClampNeg 0) (1 : Int32).toNatClampNeg 0))), (h0, .inr (14, (((((ck_6 ad)).set 60 (.int (-1))).set 68 (.int 0)).set 46 (.int 1)).set 46 (.int 2)))]) hP hD [2, 3, 4, 5, 6] [0, 1] rfl rfl (by decide) (by decide) hk1 hFc hP1 hD1
  generalize H1 = H at hP hS ⊢
  have hP : va_P (dC, dI) vwCl [((ad 21), .inl (c21, 12, .inl (upd f21 (0 : Int32).toNatClampNeg (-1)))), ((ad 29), .inl (c29, 12, .inl (upd f29 (0 : Int32).toNatClampNeg 0))), ((ad 25), .inl (c25, 600, .inl (upd (upd f25 (0 : Int32).toNatClampNeg 0) (1 : Int32).toNatClampNeg 25))), ((ad 26), .inl (c26, 600, .inl (upd (upd f26 (0 : Int32).toNatClampNeg 0) (1 : Int32).toNatClampNeg 0))), ((ad 27), .inl (c27, 600, .inl (upd (upd f27 (0 : Int32).toNatClampNeg 0) (1 : Int32).toNatClampNeg 0))), ((ad 28), .inl (c28, 600, .inl (upd (upd f28 (0 : Int32).toNatClampNeg 0) (1 : Int32).toNatClampNeg 0))), (h0, .inr (14, (((((ck_6 ad)).set 60 (.int (-1))).set 68 (.int 0)).set 46 (.int 1)).set 46 (.int 2)))] H := hP
  have hD : va_D A [((ad 21), .inl (c21, 12, .inl (upd f21 (0 : Int32).toNatClampNeg (-1)))), ((ad 29), .inl (c29, 12, .inl (upd f29 (0 : Int32).toNatClampNeg 0))), ((ad 25), .inl (c25, 600, .inl (upd (upd f25 (0 : Int32).toNatClampNeg 0) (1 : Int32).toNatClampNeg 25))), ((ad 26), .inl (c26, 600, .inl (upd (upd f26 (0 : Int32).toNatClampNeg 0) (1 : Int32).toNatClampNeg 0))), ((ad 27), .inl (c27, 600, .inl (upd (upd f27 (0 : Int32).toNatClampNeg 0) (1 : Int32).toNatClampNeg 0))), ((ad 28), .inl (c28, 600, .inl (upd (upd f28 (0 : Int32).toNatClampNeg 0) (1 : Int32).toNatClampNeg 0))), (h0, .inr (14, (((((ck_6 ad)).set 60 (.int (-1))).set 68 (.int 0)).set 46 (.int 1)).set 46 (.int 2)))] := hD
  exact W.vret hx hb hr (fun t ht hW => ⟨⟨(), rfl, trivial, by rw [ht]; exact hP, va_K.moved hW.alike hK, hD⟩, hS.F ht⟩) hS.2.2 dX12_codeFunction_154

def vb_a_X12_isJump_1 : List Cond := .code yX12_isJump cX12_isJump 1 (some .boolean) :: ([] ++ [])
def vw_a_X12_isJump_1 : List Cond := vb_a_X12_isJump_1 ++ wsX120
set_option maxHeartbeats 8000000 in
set_option maxRecDepth 100000 in
theorem a_X12_isJump_1 (l : Launch) (dC : Nat → ClassId) (dI : Nat → Nat → Nat) (sz : Nat) (h0 aS aV : Nat) (ad : Nat → Nat) (c4 : ClassId) (f4 : Nat → Int32) (c2 : ClassId) (f2 : Nat → Int32) (c3 : ClassId) (f3 : Nat → Int32) (c5 : ClassId) (f5 : Nat → Int32) (c7 : ClassId) (f7 : Nat → Int32) (c8 : ClassId) (f8 : Nat → Int32) (c9 : ClassId) (f9 : Nat → Int32) (c14 : ClassId) (f14 : Nat → Int32) (c23 : ClassId) (f23 : Nat → Int32) (c21 : ClassId) (f21 : Nat → Int32) (c25 : ClassId) (f25 : Nat → Int32) (c26 : ClassId) (f26 : Nat → Int32) (c27 : ClassId) (f27 : Nat → Int32) (c28 : ClassId) (f28 : Nat → Int32) (c29 : ClassId) (f29 : Nat → Int32) : Met l yX12_isJump vw_a_X12_isJump_1 ({ frames := 0, cells := 0, slots := 0, locals := 0 }) (va_Pc [.int 0] (fun U => U.heap.size = sz ∧ va_P (dC, dI) vwCl [] U.heap ∧ va_K (dC, dI) vwCl [] U ∧ va_D (fun _ => True) [])) (va_Qi (fun (r : Int32) (_ : Unit) => r = 0) (fun _ _ => True) (va_A [] sz)) 0 0 (va_A [] sz) := by
  refine Met.ofW (cc := cX12_isJump) (maxL := 1) (ret := (some .boolean)) (by decide) rfl ?_
  intro p e s m args below meth c s₁ B hml hv
  obtain ⟨rfl, hsz, hP, hK, hD0⟩ := hv
  have hx := B.exec
  have hb := B.bytes
  have hr := B.returns
  have hts := atoms_spec (ws := vw_a_X12_isJump_1) B.pre
  have hown : s.vm.findClass RX12 = some m.cls := findClass_of_methodNamed B.named
  have hlocks := B.notSynchronized
  subst hsz
  have hD := hD0.self (sz := s.heap.size)
  generalize hAe : va_A [] s.heap.size = A at hD ⊢
  have hA : ∀ q : Nat, s.heap.size ≤ q → A q := fun q h => by rw [← hAe]; exact Or.inr h
  have hS : va_S A s.heap s.heap [] := va_S.rf
  have hP : va_P (dC, dI) vwCl [] s.heap := hP
  have hl := lv_entry ([.int 0]) (n := 1) (Nat.le_of_ble_eq_true rfl)
  rw [lg_entry_eq]
  generalize (lg_sl ([.int 0]) ++ List.replicate (1 - (lg_sl ([.int 0])).length) Slot.unset).toArray = ls at hl ⊢
  have hl : lv_has ls 1 [(0, .int 0)] := hl
  refine lv_iload_n hx hb dX12_isJump_0 rfl (lv_at hl 0 rfl) ?_
  refine lv_bipush (v := 21) hx hb dX12_isJump_1 (by decide) ?_
  refine lv_icmp_lt (tgt := 12) hx hb dX12_isJump_3 (by decide) (fun _ => ?_) (fun c1_3 => absurd (by decide) c1_3)
  refine lv_iload_n hx hb dX12_isJump_12 rfl (lv_at hl 0 rfl) ?_
  refine lv_bipush (v := 27) hx hb dX12_isJump_13 (by decide) ?_
  refine lv_icmp_eq (tgt := 24) hx hb dX12_isJump_15 (by decide) (fun c2_15 => absurd c2_15 (by decide)) (fun _ => ?_)
  refine lv_iload_n hx hb dX12_isJump_18 rfl (lv_at hl 0 rfl) ?_
  refine lv_bipush (v := 30) hx hb dX12_isJump_19 (by decide) ?_
  refine lv_icmp_ne (tgt := 28) hx hb dX12_isJump_21 (by decide) (fun _ => ?_) (fun c3_21 => absurd c3_21 (by decide))
  refine lv_iconst (v := 0) hx hb dX12_isJump_28 (by decide) ?_
  exact W.zret (v := 0) hx hb hr rfl (fun t ht hW => ⟨⟨0, (), rfl, rfl, trivial⟩, hS.F ht⟩) hS.2.2 dX12_isJump_29

def vb_a_X12_isJump_2 : List Cond := .code yX12_isJump cX12_isJump 1 (some .boolean) :: ([] ++ [])
def vw_a_X12_isJump_2 : List Cond := vb_a_X12_isJump_2 ++ wsX120
set_option maxHeartbeats 8000000 in
set_option maxRecDepth 100000 in
theorem a_X12_isJump_2 (l : Launch) (dC : Nat → ClassId) (dI : Nat → Nat → Nat) (sz : Nat) (h0 aS aV : Nat) (ad : Nat → Nat) (c4 : ClassId) (f4 : Nat → Int32) (c2 : ClassId) (f2 : Nat → Int32) (c3 : ClassId) (f3 : Nat → Int32) (c5 : ClassId) (f5 : Nat → Int32) (c7 : ClassId) (f7 : Nat → Int32) (c8 : ClassId) (f8 : Nat → Int32) (c9 : ClassId) (f9 : Nat → Int32) (c14 : ClassId) (f14 : Nat → Int32) (c23 : ClassId) (f23 : Nat → Int32) (c21 : ClassId) (f21 : Nat → Int32) (c25 : ClassId) (f25 : Nat → Int32) (c26 : ClassId) (f26 : Nat → Int32) (c27 : ClassId) (f27 : Nat → Int32) (c28 : ClassId) (f28 : Nat → Int32) (c29 : ClassId) (f29 : Nat → Int32) : Met l yX12_isJump vw_a_X12_isJump_2 ({ frames := 0, cells := 0, slots := 0, locals := 0 }) (va_Pc [.int 25] (fun U => U.heap.size = sz ∧ va_P (dC, dI) vwCl [] U.heap ∧ va_K (dC, dI) vwCl [] U ∧ va_D (fun _ => True) [])) (va_Qi (fun (r : Int32) (_ : Unit) => r = 0) (fun _ _ => True) (va_A [] sz)) 0 0 (va_A [] sz) := by
  refine Met.ofW (cc := cX12_isJump) (maxL := 1) (ret := (some .boolean)) (by decide) rfl ?_
  intro p e s m args below meth c s₁ B hml hv
  obtain ⟨rfl, hsz, hP, hK, hD0⟩ := hv
  have hx := B.exec
  have hb := B.bytes
  have hr := B.returns
  have hts := atoms_spec (ws := vw_a_X12_isJump_2) B.pre
  have hown : s.vm.findClass RX12 = some m.cls := findClass_of_methodNamed B.named
  have hlocks := B.notSynchronized
  subst hsz
  have hD := hD0.self (sz := s.heap.size)
  generalize hAe : va_A [] s.heap.size = A at hD ⊢
  have hA : ∀ q : Nat, s.heap.size ≤ q → A q := fun q h => by rw [← hAe]; exact Or.inr h
  have hS : va_S A s.heap s.heap [] := va_S.rf
  have hP : va_P (dC, dI) vwCl [] s.heap := hP
  have hl := lv_entry ([.int 25]) (n := 1) (Nat.le_of_ble_eq_true rfl)
  rw [lg_entry_eq]
  generalize (lg_sl ([.int 25]) ++ List.replicate (1 - (lg_sl ([.int 25])).length) Slot.unset).toArray = ls at hl ⊢
  have hl : lv_has ls 1 [(0, .int 25)] := hl
  refine lv_iload_n hx hb dX12_isJump_0 rfl (lv_at hl 0 rfl) ?_
  refine lv_bipush (v := 21) hx hb dX12_isJump_1 (by decide) ?_
  refine lv_icmp_lt (tgt := 12) hx hb dX12_isJump_3 (by decide) (fun c1_3 => absurd c1_3 (by decide)) (fun _ => ?_)
  refine lv_iload_n hx hb dX12_isJump_6 rfl (lv_at hl 0 rfl) ?_
  refine lv_bipush (v := 24) hx hb dX12_isJump_7 (by decide) ?_
  refine lv_icmp_le (tgt := 24) hx hb dX12_isJump_9 (by decide) (fun c2_9 => absurd c2_9 (by decide)) (fun _ => ?_)
  refine lv_iload_n hx hb dX12_isJump_12 rfl (lv_at hl 0 rfl) ?_
  refine lv_bipush (v := 27) hx hb dX12_isJump_13 (by decide) ?_
  refine lv_icmp_eq (tgt := 24) hx hb dX12_isJump_15 (by decide) (fun c3_15 => absurd c3_15 (by decide)) (fun _ => ?_)
  refine lv_iload_n hx hb dX12_isJump_18 rfl (lv_at hl 0 rfl) ?_
  refine lv_bipush (v := 30) hx hb dX12_isJump_19 (by decide) ?_
  refine lv_icmp_ne (tgt := 28) hx hb dX12_isJump_21 (by decide) (fun _ => ?_) (fun c4_21 => absurd c4_21 (by decide))
  refine lv_iconst (v := 0) hx hb dX12_isJump_28 (by decide) ?_
  exact W.zret (v := 0) hx hb hr rfl (fun t ht hW => ⟨⟨0, (), rfl, rfl, trivial⟩, hS.F ht⟩) hS.2.2 dX12_isJump_29

def ck_7 (ad : Nat → Nat) : List Value := [.int 0, .ref (ad 0), .int 0, .ref (ad 1), .int 0, .ref (ad 2), .ref (ad 3), .int 31, .int 31, .int 0, .ref (ad 4), .int 0, .int 1, .ref (ad 5), .ref (ad 6), .ref (ad 7), .ref (ad 8), .ref (ad 9), .int 0, .int 1, .int 0, .int 0, .int 0, .int 0, .int 0, .ref (ad 10), .ref (ad 11), .ref (ad 12), .ref (ad 13), .ref (ad 14), .ref (ad 15), .int 0, .int 1, .ref (ad 16), .ref (ad 17), .ref (ad 18), .ref (ad 19), .ref (ad 20), .ref (ad 21), .ref (ad 22), .ref (ad 23), .ref (ad 24), .int 0, .int 0, .int 0, .int 0, .int 2, .int 0, .ref (ad 25), .ref (ad 26), .ref (ad 27), .ref (ad 28), .ref (ad 29), .int 0, .ref (ad 30), .int 0, .int 0, .ref (ad 31), .ref (ad 32), .int 0, .int (-1), .ref (ad 33), .ref (ad 34), .ref (ad 35), .ref (ad 36), .ref (ad 37), .int 0, .ref (ad 38), .int 0, .ref (ad 39), .int 0, .int 29, .int 0, .int 0, .int 0, .int 0, .int 0, .ref (ad 40), .ref (ad 41), .ref (ad 42), .ref (ad 43), .ref (ad 44), .ref (ad 45), .ref (ad 46), .int 0, .int 0, .int 0, .ref (ad 47), .ref (ad 48), .ref (ad 49), .ref (ad 50), .ref (ad 51), .int 0, .ref (ad 52), .ref (ad 53), .ref (ad 54), .ref (ad 55), .ref (ad 56), .ref (ad 57), .ref (ad 58), .ref (ad 59), .ref (ad 60), .ref (ad 61), .ref (ad 62), .ref (ad 63), .ref (ad 64), .ref (ad 65), .int 0, .ref (ad 66), .int 0, .int 0, .int 0, .int 0, .int 0, .int 0, .int 0, .ref (ad 67), .ref (ad 68), .ref (ad 69), .int 0, .int 0, .int 0, .ref (ad 70), .ref (ad 71), .ref (ad 72), .ref (ad 73), .ref (ad 74), .int 0, .ref (ad 75), .ref (ad 76), .ref (ad 77), .ref (ad 78), .ref (ad 79), .ref (ad 80), .ref (ad 81), .ref (ad 82), .ref (ad 83), .ref (ad 84), .ref (ad 85), .ref (ad 86), .ref (ad 87), .ref (ad 88), .ref (ad 89), .long 0, .long 0, .int 0, .ref (ad 90), .int 0, .int 0, .int 0, .int 0]

def vb_a_X12_compile_1 : List Cond := .code yX12_compile cX12_compile 3 (some .boolean) :: ([.fieldLink RX12 527 "ScriptTypesModel" "functions" "I", .fieldLink RX12 306 "ScriptTypesModel" "manyNames" "Z", .fieldLink RX12 606 "ScriptTypesModel" "instructions" "I", .fieldLink RX12 609 "ScriptTypesModel" "manyInstructions" "Z", .fieldLink RX12 741 "ScriptTypesModel" "leaving" "I", .fieldLink RX12 707 "ScriptTypesModel" "waiting" "I", .fieldLink RX12 650 "ScriptTypesModel" "lefts" "I", .fieldLink RX12 619 "ScriptTypesModel" "marks" "I", .fieldLink RX12 637 "ScriptTypesModel" "wraps" "I", .fieldLink RX12 689 "ScriptTypesModel" "sites" "I", .methodLink RX12 756 yX12_codeFunction, .instanceMethod yX12_codeFunction, .selects RX12 yX12_codeFunction yX12_codeFunction, .initialized RX12, .fieldLink RX12 89 "ScriptTypesModel" "operation" "[I", .methodLink RX12 759 yX12_isJump, .static yX12_isJump, .fieldLink RX12 296 "ScriptTypesModel" "strings" "I", .fieldLink RX12 762 "ScriptTypesModel" "names" "I", .fieldLink RX12 765 "ScriptTypesModel" "labels" "I", .constantLong RX12 768 (450000)] ++ (vb_a_X12_codeFunction_1 ++ (vb_a_X12_isJump_1 ++ (vb_a_X12_isJump_2 ++ []))))
def vw_a_X12_compile_1 : List Cond := vb_a_X12_compile_1 ++ wsX120
set_option maxRecDepth 20000 in
theorem vg_a_X12_compile_1_a_X12_codeFunction_1 : GoodIn vw_a_X12_compile_1 (wsV RX12 756 RX12 yX12_codeFunction vw_a_X12_codeFunction_1) := goodIn_app (goodIn_of _ (by decide +kernel)) (goodIn_sub (v_sub (fun w h => List.mem_cons_of_mem _ (List.mem_append_right _ (List.mem_append_left _ (h))))) (by decide +kernel))
set_option maxRecDepth 20000 in
theorem vg_a_X12_compile_1_a_X12_isJump_1 : GoodIn vw_a_X12_compile_1 (va_wsS RX12 759 yX12_isJump vw_a_X12_isJump_1) := goodIn_app (goodIn_of _ (by decide +kernel)) (goodIn_sub (v_sub (fun w h => List.mem_cons_of_mem _ (List.mem_append_right _ (List.mem_append_right _ (List.mem_append_left _ (h)))))) (by decide +kernel))
set_option maxRecDepth 20000 in
theorem vg_a_X12_compile_1_a_X12_isJump_2 : GoodIn vw_a_X12_compile_1 (va_wsS RX12 759 yX12_isJump vw_a_X12_isJump_2) := goodIn_app (goodIn_of _ (by decide +kernel)) (goodIn_sub (v_sub (fun w h => List.mem_cons_of_mem _ (List.mem_append_right _ (List.mem_append_right _ (List.mem_append_right _ (List.mem_append_left _ (h))))))) (by decide +kernel))
set_option maxHeartbeats 8000000 in
set_option maxRecDepth 100000 in
theorem a_X12_compile_1 (l : Launch) (dC : Nat → ClassId) (dI : Nat → Nat → Nat) (sz : Nat) (h0 aS aV : Nat) (ad : Nat → Nat) (c4 : ClassId) (f4 : Nat → Int32) (c2 : ClassId) (f2 : Nat → Int32) (c3 : ClassId) (f3 : Nat → Int32) (c5 : ClassId) (f5 : Nat → Int32) (c7 : ClassId) (f7 : Nat → Int32) (c8 : ClassId) (f8 : Nat → Int32) (c9 : ClassId) (f9 : Nat → Int32) (c14 : ClassId) (f14 : Nat → Int32) (c23 : ClassId) (f23 : Nat → Int32) (c21 : ClassId) (f21 : Nat → Int32) (c25 : ClassId) (f25 : Nat → Int32) (c26 : ClassId) (f26 : Nat → Int32) (c27 : ClassId) (f27 : Nat → Int32) (c28 : ClassId) (f28 : Nat → Int32) (c29 : ClassId) (f29 : Nat → Int32) : Met l yX12_compile vw_a_X12_compile_1 ({ frames := 3, cells := 0, slots := 0, locals := 67 }) (va_Pc [.ref h0] (fun U => U.heap.size = sz ∧ va_P (dC, dI) vwCl [((ad 21), .inl (c21, 12, .inl (upd f21 (0 : Int32).toNatClampNeg (-1)))), ((ad 25), .inl (c25, 600, .inl f25)), ((ad 26), .inl (c26, 600, .inl f26)), ((ad 27), .inl (c27, 600, .inl f27)), ((ad 28), .inl (c28, 600, .inl f28)), ((ad 29), .inl (c29, 12, .inl f29)), (h0, .inr (14, ((((ck_4 ad)).set 42 (.int 0)).set 31 (.int 1)).set 31 (.int 0)))] U.heap ∧ va_K (dC, dI) vwCl [(c21, .int), (c25, .int), (c26, .int), (c27, .int), (c28, .int), (c29, .int)] U ∧ va_D (fun _ => True) [((ad 21), .inl (c21, 12, .inl (upd f21 (0 : Int32).toNatClampNeg (-1)))), ((ad 25), .inl (c25, 600, .inl f25)), ((ad 26), .inl (c26, 600, .inl f26)), ((ad 27), .inl (c27, 600, .inl f27)), ((ad 28), .inl (c28, 600, .inl f28)), ((ad 29), .inl (c29, 12, .inl f29)), (h0, .inr (14, ((((ck_4 ad)).set 42 (.int 0)).set 31 (.int 1)).set 31 (.int 0)))])) (va_Qi (fun (r : Int32) (_ : Unit) => r = 1) (fun (_ : Unit) t => va_P (dC, dI) vwCl [((ad 21), .inl (c21, 12, .inl (upd f21 (0 : Int32).toNatClampNeg (-1)))), ((ad 29), .inl (c29, 12, .inl (upd f29 (0 : Int32).toNatClampNeg 0))), ((ad 25), .inl (c25, 600, .inl (upd (upd f25 (0 : Int32).toNatClampNeg 0) (1 : Int32).toNatClampNeg 25))), ((ad 26), .inl (c26, 600, .inl (upd (upd f26 (0 : Int32).toNatClampNeg 0) (1 : Int32).toNatClampNeg 0))), ((ad 27), .inl (c27, 600, .inl (upd (upd f27 (0 : Int32).toNatClampNeg 0) (1 : Int32).toNatClampNeg 0))), ((ad 28), .inl (c28, 600, .inl (upd (upd f28 (0 : Int32).toNatClampNeg 0) (1 : Int32).toNatClampNeg 0))), (h0, .inr (14, (ck_7 ad)))] t.heap ∧ va_K (dC, dI) vwCl [(c21, .int), (c25, .int), (c26, .int), (c27, .int), (c28, .int), (c29, .int)] t ∧ va_D (va_A [((ad 21), .inl (c21, 12, .inl (upd f21 (0 : Int32).toNatClampNeg (-1)))), ((ad 25), .inl (c25, 600, .inl f25)), ((ad 26), .inl (c26, 600, .inl f26)), ((ad 27), .inl (c27, 600, .inl f27)), ((ad 28), .inl (c28, 600, .inl f28)), ((ad 29), .inl (c29, 12, .inl f29)), (h0, .inr (14, ((((ck_4 ad)).set 42 (.int 0)).set 31 (.int 1)).set 31 (.int 0)))] sz) [((ad 21), .inl (c21, 12, .inl (upd f21 (0 : Int32).toNatClampNeg (-1)))), ((ad 29), .inl (c29, 12, .inl (upd f29 (0 : Int32).toNatClampNeg 0))), ((ad 25), .inl (c25, 600, .inl (upd (upd f25 (0 : Int32).toNatClampNeg 0) (1 : Int32).toNatClampNeg 25))), ((ad 26), .inl (c26, 600, .inl (upd (upd f26 (0 : Int32).toNatClampNeg 0) (1 : Int32).toNatClampNeg 0))), ((ad 27), .inl (c27, 600, .inl (upd (upd f27 (0 : Int32).toNatClampNeg 0) (1 : Int32).toNatClampNeg 0))), ((ad 28), .inl (c28, 600, .inl (upd (upd f28 (0 : Int32).toNatClampNeg 0) (1 : Int32).toNatClampNeg 0))), (h0, .inr (14, (ck_7 ad)))]) (va_A [((ad 21), .inl (c21, 12, .inl (upd f21 (0 : Int32).toNatClampNeg (-1)))), ((ad 25), .inl (c25, 600, .inl f25)), ((ad 26), .inl (c26, 600, .inl f26)), ((ad 27), .inl (c27, 600, .inl f27)), ((ad 28), .inl (c28, 600, .inl f28)), ((ad 29), .inl (c29, 12, .inl f29)), (h0, .inr (14, ((((ck_4 ad)).set 42 (.int 0)).set 31 (.int 1)).set 31 (.int 0)))] sz)) 0 0 (va_A [((ad 21), .inl (c21, 12, .inl (upd f21 (0 : Int32).toNatClampNeg (-1)))), ((ad 25), .inl (c25, 600, .inl f25)), ((ad 26), .inl (c26, 600, .inl f26)), ((ad 27), .inl (c27, 600, .inl f27)), ((ad 28), .inl (c28, 600, .inl f28)), ((ad 29), .inl (c29, 12, .inl f29)), (h0, .inr (14, ((((ck_4 ad)).set 42 (.int 0)).set 31 (.int 1)).set 31 (.int 0)))] sz) := by
  refine Met.ofW (cc := cX12_compile) (maxL := 3) (ret := (some .boolean)) (by decide) rfl ?_
  intro p e s m args below meth c s₁ B hml hv
  obtain ⟨rfl, hsz, hP, hK, hD0⟩ := hv
  have hx := B.exec
  have hb := B.bytes
  have hr := B.returns
  have hts := atoms_spec (ws := vw_a_X12_compile_1) B.pre
  have hown : s.vm.findClass RX12 = some m.cls := findClass_of_methodNamed B.named
  have hlocks := B.notSynchronized
  subst hsz
  have hD := hD0.self (sz := s.heap.size)
  generalize hAe : va_A [((ad 21), .inl (c21, 12, .inl (upd f21 (0 : Int32).toNatClampNeg (-1)))), ((ad 25), .inl (c25, 600, .inl f25)), ((ad 26), .inl (c26, 600, .inl f26)), ((ad 27), .inl (c27, 600, .inl f27)), ((ad 28), .inl (c28, 600, .inl f28)), ((ad 29), .inl (c29, 12, .inl f29)), (h0, .inr (14, ((((ck_4 ad)).set 42 (.int 0)).set 31 (.int 1)).set 31 (.int 0)))] s.heap.size = A at hD ⊢
  have hA : ∀ q : Nat, s.heap.size ≤ q → A q := fun q h => by rw [← hAe]; exact Or.inr h
  have hS : va_S A s.heap s.heap [] := va_S.rf
  have hP : va_P (dC, dI) vwCl [((ad 21), .inl (c21, 12, .inl (upd f21 (0 : Int32).toNatClampNeg (-1)))), ((ad 25), .inl (c25, 600, .inl f25)), ((ad 26), .inl (c26, 600, .inl f26)), ((ad 27), .inl (c27, 600, .inl f27)), ((ad 28), .inl (c28, 600, .inl f28)), ((ad 29), .inl (c29, 12, .inl f29)), (h0, .inr (14, ((((ck_4 ad)).set 42 (.int 0)).set 31 (.int 1)).set 31 (.int 0)))] s.heap := hP
  have hl := lv_entry ([.ref h0]) (n := 3) (Nat.le_of_ble_eq_true rfl)
  rw [lg_entry_eq]
  generalize (lg_sl ([.ref h0]) ++ List.replicate (3 - (lg_sl ([.ref h0])).length) Slot.unset).toArray = ls at hl ⊢
  have hl : lv_has ls 3 [(0, .ref h0)] := hl
  have hwX12 : ∀ w ∈ wsX120, w ∈ vw_a_X12_compile_1 := (fun w h => List.mem_append_right _ h)
  refine lv_aload_n hx hb dX12_compile_0 rfl (lv_at hl 0 rfl) ?_
  refine va_get (D := (dC, dI)) (ci := 14) (v := .int 1) (C := RX12) (T := TX12) (N := 151) hx hb hts hwX12 hown hK hP 6 rfl rfl 32 (Nat.le_of_ble_eq_true rfl) (hts (.fieldLink RX12 527 "ScriptTypesModel" "functions" "I") (List.mem_of_getElem? (i := 1) (by decide +kernel))) (fun _ h9 => h9) rfl dX12_compile_1 ?_
  refine lv_iconst (v := 1) hx hb dX12_compile_4 (by decide) ?_
  refine lv_isub hx hb dX12_compile_5 ?_
  refine lv_topi (fun f_1 ef_1 => ?_)
  obtain rfl : f_1 = 0 := by rw [ef_1]; decide
  refine lv_bipush (v := 10) hx hb dX12_compile_6 (by decide) ?_
  refine lv_icmp_gt (tgt := 18) hx hb dX12_compile_8 (by decide) (fun c2_8 => absurd c2_8 (by decide)) (fun _ => ?_)
  refine lv_aload_n hx hb dX12_compile_11 rfl (lv_at hl 0 rfl) ?_
  refine va_get (D := (dC, dI)) (ci := 14) (v := .int 0) (C := RX12) (T := TX12) (N := 151) hx hb hts hwX12 hown hK hP 6 rfl rfl 9 (Nat.le_of_ble_eq_true rfl) (hts (.fieldLink RX12 306 "ScriptTypesModel" "manyNames" "Z") (List.mem_of_getElem? (i := 2) (by decide +kernel))) (fun _ h9 => h9) rfl dX12_compile_12 ?_
  refine lv_if_eq (tgt := 20) hx hb dX12_compile_15 (by decide) (fun _ => ?_) (fun c3_15 => absurd (by decide) c3_15)
  refine lv_iconst (v := 1) hx hb dX12_compile_20 (by decide) ?_
  refine lv_istore_n (lv' := [(1, .int 1), (0, .ref h0)]) hx hb dX12_compile_21 rfl hl (by decide) rfl (fun ls hl => ?_)
  refine lv_iconst (v := 1) hx hb dX12_compile_22 (by decide) ?_
  refine lv_istore_n (lv' := [(2, .int 1), (1, .int 1), (0, .ref h0)]) hx hb dX12_compile_23 rfl hl (by decide) rfl (fun ls hl => ?_)
  refine lv_iload_n hx hb dX12_compile_24 rfl (lv_at hl 0 rfl) ?_
  refine lv_aload_n hx hb dX12_compile_25 rfl (lv_at hl 2 rfl) ?_
  refine va_get (D := (dC, dI)) (ci := 14) (v := .int 1) (C := RX12) (T := TX12) (N := 151) hx hb hts hwX12 hown hK hP 6 rfl rfl 32 (Nat.le_of_ble_eq_true rfl) (hts (.fieldLink RX12 527 "ScriptTypesModel" "functions" "I") (List.mem_of_getElem? (i := 1) (by decide +kernel))) (fun _ h9 => h9) rfl dX12_compile_26 ?_
  refine lv_icmp_ge (tgt := 64) hx hb dX12_compile_29 (by decide) (fun _ => ?_) (fun c4_29 => absurd (by decide) c4_29)
  refine lv_iload_n hx hb dX12_compile_64 rfl (lv_at hl 1 rfl) ?_
  refine lv_if_ne (tgt := 70) hx hb dX12_compile_65 (by decide) (fun _ => ?_) (fun c5_65 => absurd c5_65 (by decide))
  refine lv_aload_n hx hb dX12_compile_70 rfl (lv_at hl 2 rfl) ?_
  refine lv_iconst (v := 0) hx hb dX12_compile_71 (by decide) ?_
  refine va_put (D := (dC, dI)) (ci := 14) (v := .int 0) (ty := tyX12 46) (C := RX12) (T := TX12) (N := 151) hx hb hts hwX12 tyX12 tyX12_ok nmX12 hown hK hP hD hS 6 rfl rfl 46 (Nat.le_of_ble_eq_true rfl) (hts (.fieldLink RX12 606 "ScriptTypesModel" "instructions" "I") (List.mem_of_getElem? (i := 3) (by decide +kernel))) (fun _ h9 => h9) rfl (tyX12_ok 46 (Nat.le_of_ble_eq_true rfl)) rfl rfl (Nat.le_of_ble_eq_true rfl) dX12_compile_72 (fun H locs hP hD hS => ?_)
  have hP : va_P (dC, dI) vwCl [((ad 21), .inl (c21, 12, .inl (upd f21 (0 : Int32).toNatClampNeg (-1)))), ((ad 25), .inl (c25, 600, .inl f25)), ((ad 26), .inl (c26, 600, .inl f26)), ((ad 27), .inl (c27, 600, .inl f27)), ((ad 28), .inl (c28, 600, .inl f28)), ((ad 29), .inl (c29, 12, .inl f29)), (h0, .inr (14, (((((ck_4 ad)).set 42 (.int 0)).set 31 (.int 1)).set 31 (.int 0)).set 46 (.int 0)))] H := hP
  have hD : va_D A [((ad 21), .inl (c21, 12, .inl (upd f21 (0 : Int32).toNatClampNeg (-1)))), ((ad 25), .inl (c25, 600, .inl f25)), ((ad 26), .inl (c26, 600, .inl f26)), ((ad 27), .inl (c27, 600, .inl f27)), ((ad 28), .inl (c28, 600, .inl f28)), ((ad 29), .inl (c29, 12, .inl f29)), (h0, .inr (14, (((((ck_4 ad)).set 42 (.int 0)).set 31 (.int 1)).set 31 (.int 0)).set 46 (.int 0)))] := hD
  refine lv_aload_n hx hb dX12_compile_75 rfl (lv_at hl 2 rfl) ?_
  refine lv_iconst (v := 0) hx hb dX12_compile_76 (by decide) ?_
  refine va_put (D := (dC, dI)) (ci := 14) (v := .int 0) (ty := tyX12 47) (C := RX12) (T := TX12) (N := 151) hx hb hts hwX12 tyX12 tyX12_ok nmX12 hown hK hP hD hS 6 rfl rfl 47 (Nat.le_of_ble_eq_true rfl) (hts (.fieldLink RX12 609 "ScriptTypesModel" "manyInstructions" "Z") (List.mem_of_getElem? (i := 4) (by decide +kernel))) (fun _ h9 => h9) rfl (tyX12_ok 47 (Nat.le_of_ble_eq_true rfl)) rfl rfl (Nat.le_of_ble_eq_true rfl) dX12_compile_77 (fun H locs hP hD hS => ?_)
  have hP : va_P (dC, dI) vwCl [((ad 21), .inl (c21, 12, .inl (upd f21 (0 : Int32).toNatClampNeg (-1)))), ((ad 25), .inl (c25, 600, .inl f25)), ((ad 26), .inl (c26, 600, .inl f26)), ((ad 27), .inl (c27, 600, .inl f27)), ((ad 28), .inl (c28, 600, .inl f28)), ((ad 29), .inl (c29, 12, .inl f29)), (h0, .inr (14, ((((((ck_4 ad)).set 42 (.int 0)).set 31 (.int 1)).set 31 (.int 0)).set 46 (.int 0)).set 47 (.int 0)))] H := hP
  have hD : va_D A [((ad 21), .inl (c21, 12, .inl (upd f21 (0 : Int32).toNatClampNeg (-1)))), ((ad 25), .inl (c25, 600, .inl f25)), ((ad 26), .inl (c26, 600, .inl f26)), ((ad 27), .inl (c27, 600, .inl f27)), ((ad 28), .inl (c28, 600, .inl f28)), ((ad 29), .inl (c29, 12, .inl f29)), (h0, .inr (14, ((((((ck_4 ad)).set 42 (.int 0)).set 31 (.int 1)).set 31 (.int 0)).set 46 (.int 0)).set 47 (.int 0)))] := hD
  refine lv_aload_n hx hb dX12_compile_80 rfl (lv_at hl 2 rfl) ?_
  refine lv_iconst (v := 0) hx hb dX12_compile_81 (by decide) ?_
  refine va_put (D := (dC, dI)) (ci := 14) (v := .int 0) (ty := tyX12 70) (C := RX12) (T := TX12) (N := 151) hx hb hts hwX12 tyX12 tyX12_ok nmX12 hown hK hP hD hS 6 rfl rfl 70 (Nat.le_of_ble_eq_true rfl) (hts (.fieldLink RX12 741 "ScriptTypesModel" "leaving" "I") (List.mem_of_getElem? (i := 5) (by decide +kernel))) (fun _ h9 => h9) rfl (tyX12_ok 70 (Nat.le_of_ble_eq_true rfl)) rfl rfl (Nat.le_of_ble_eq_true rfl) dX12_compile_82 (fun H locs hP hD hS => ?_)
  have hP : va_P (dC, dI) vwCl [((ad 21), .inl (c21, 12, .inl (upd f21 (0 : Int32).toNatClampNeg (-1)))), ((ad 25), .inl (c25, 600, .inl f25)), ((ad 26), .inl (c26, 600, .inl f26)), ((ad 27), .inl (c27, 600, .inl f27)), ((ad 28), .inl (c28, 600, .inl f28)), ((ad 29), .inl (c29, 12, .inl f29)), (h0, .inr (14, (ck_5 ad)))] H := hP
  have hD : va_D A [((ad 21), .inl (c21, 12, .inl (upd f21 (0 : Int32).toNatClampNeg (-1)))), ((ad 25), .inl (c25, 600, .inl f25)), ((ad 26), .inl (c26, 600, .inl f26)), ((ad 27), .inl (c27, 600, .inl f27)), ((ad 28), .inl (c28, 600, .inl f28)), ((ad 29), .inl (c29, 12, .inl f29)), (h0, .inr (14, (ck_5 ad)))] := hD
  refine lv_aload_n hx hb dX12_compile_85 rfl (lv_at hl 2 rfl) ?_
  refine lv_iconst (v := 0) hx hb dX12_compile_86 (by decide) ?_
  refine va_put (D := (dC, dI)) (ci := 14) (v := .int 0) (ty := tyX12 68) (C := RX12) (T := TX12) (N := 151) hx hb hts hwX12 tyX12 tyX12_ok nmX12 hown hK hP hD hS 6 rfl rfl 68 (Nat.le_of_ble_eq_true rfl) (hts (.fieldLink RX12 707 "ScriptTypesModel" "waiting" "I") (List.mem_of_getElem? (i := 6) (by decide +kernel))) (fun _ h9 => h9) rfl (tyX12_ok 68 (Nat.le_of_ble_eq_true rfl)) rfl rfl (Nat.le_of_ble_eq_true rfl) dX12_compile_87 (fun H locs hP hD hS => ?_)
  have hP : va_P (dC, dI) vwCl [((ad 21), .inl (c21, 12, .inl (upd f21 (0 : Int32).toNatClampNeg (-1)))), ((ad 25), .inl (c25, 600, .inl f25)), ((ad 26), .inl (c26, 600, .inl f26)), ((ad 27), .inl (c27, 600, .inl f27)), ((ad 28), .inl (c28, 600, .inl f28)), ((ad 29), .inl (c29, 12, .inl f29)), (h0, .inr (14, ((ck_5 ad)).set 68 (.int 0)))] H := hP
  have hD : va_D A [((ad 21), .inl (c21, 12, .inl (upd f21 (0 : Int32).toNatClampNeg (-1)))), ((ad 25), .inl (c25, 600, .inl f25)), ((ad 26), .inl (c26, 600, .inl f26)), ((ad 27), .inl (c27, 600, .inl f27)), ((ad 28), .inl (c28, 600, .inl f28)), ((ad 29), .inl (c29, 12, .inl f29)), (h0, .inr (14, ((ck_5 ad)).set 68 (.int 0)))] := hD
  refine lv_aload_n hx hb dX12_compile_90 rfl (lv_at hl 2 rfl) ?_
  refine lv_iconst (v := 0) hx hb dX12_compile_91 (by decide) ?_
  refine va_put (D := (dC, dI)) (ci := 14) (v := .int 0) (ty := tyX12 66) (C := RX12) (T := TX12) (N := 151) hx hb hts hwX12 tyX12 tyX12_ok nmX12 hown hK hP hD hS 6 rfl rfl 66 (Nat.le_of_ble_eq_true rfl) (hts (.fieldLink RX12 650 "ScriptTypesModel" "lefts" "I") (List.mem_of_getElem? (i := 7) (by decide +kernel))) (fun _ h9 => h9) rfl (tyX12_ok 66 (Nat.le_of_ble_eq_true rfl)) rfl rfl (Nat.le_of_ble_eq_true rfl) dX12_compile_92 (fun H locs hP hD hS => ?_)
  have hP : va_P (dC, dI) vwCl [((ad 21), .inl (c21, 12, .inl (upd f21 (0 : Int32).toNatClampNeg (-1)))), ((ad 25), .inl (c25, 600, .inl f25)), ((ad 26), .inl (c26, 600, .inl f26)), ((ad 27), .inl (c27, 600, .inl f27)), ((ad 28), .inl (c28, 600, .inl f28)), ((ad 29), .inl (c29, 12, .inl f29)), (h0, .inr (14, (((ck_5 ad)).set 68 (.int 0)).set 66 (.int 0)))] H := hP
  have hD : va_D A [((ad 21), .inl (c21, 12, .inl (upd f21 (0 : Int32).toNatClampNeg (-1)))), ((ad 25), .inl (c25, 600, .inl f25)), ((ad 26), .inl (c26, 600, .inl f26)), ((ad 27), .inl (c27, 600, .inl f27)), ((ad 28), .inl (c28, 600, .inl f28)), ((ad 29), .inl (c29, 12, .inl f29)), (h0, .inr (14, (((ck_5 ad)).set 68 (.int 0)).set 66 (.int 0)))] := hD
  refine lv_aload_n hx hb dX12_compile_95 rfl (lv_at hl 2 rfl) ?_
  refine lv_iconst (v := 0) hx hb dX12_compile_96 (by decide) ?_
  refine va_put (D := (dC, dI)) (ci := 14) (v := .int 0) (ty := tyX12 53) (C := RX12) (T := TX12) (N := 151) hx hb hts hwX12 tyX12 tyX12_ok nmX12 hown hK hP hD hS 6 rfl rfl 53 (Nat.le_of_ble_eq_true rfl) (hts (.fieldLink RX12 619 "ScriptTypesModel" "marks" "I") (List.mem_of_getElem? (i := 8) (by decide +kernel))) (fun _ h9 => h9) rfl (tyX12_ok 53 (Nat.le_of_ble_eq_true rfl)) rfl rfl (Nat.le_of_ble_eq_true rfl) dX12_compile_97 (fun H locs hP hD hS => ?_)
  have hP : va_P (dC, dI) vwCl [((ad 21), .inl (c21, 12, .inl (upd f21 (0 : Int32).toNatClampNeg (-1)))), ((ad 25), .inl (c25, 600, .inl f25)), ((ad 26), .inl (c26, 600, .inl f26)), ((ad 27), .inl (c27, 600, .inl f27)), ((ad 28), .inl (c28, 600, .inl f28)), ((ad 29), .inl (c29, 12, .inl f29)), (h0, .inr (14, ((((ck_5 ad)).set 68 (.int 0)).set 66 (.int 0)).set 53 (.int 0)))] H := hP
  have hD : va_D A [((ad 21), .inl (c21, 12, .inl (upd f21 (0 : Int32).toNatClampNeg (-1)))), ((ad 25), .inl (c25, 600, .inl f25)), ((ad 26), .inl (c26, 600, .inl f26)), ((ad 27), .inl (c27, 600, .inl f27)), ((ad 28), .inl (c28, 600, .inl f28)), ((ad 29), .inl (c29, 12, .inl f29)), (h0, .inr (14, ((((ck_5 ad)).set 68 (.int 0)).set 66 (.int 0)).set 53 (.int 0)))] := hD
  refine lv_aload_n hx hb dX12_compile_100 rfl (lv_at hl 2 rfl) ?_
  refine lv_iconst (v := 0) hx hb dX12_compile_101 (by decide) ?_
  refine va_put (D := (dC, dI)) (ci := 14) (v := .int 0) (ty := tyX12 59) (C := RX12) (T := TX12) (N := 151) hx hb hts hwX12 tyX12 tyX12_ok nmX12 hown hK hP hD hS 6 rfl rfl 59 (Nat.le_of_ble_eq_true rfl) (hts (.fieldLink RX12 637 "ScriptTypesModel" "wraps" "I") (List.mem_of_getElem? (i := 9) (by decide +kernel))) (fun _ h9 => h9) rfl (tyX12_ok 59 (Nat.le_of_ble_eq_true rfl)) rfl rfl (Nat.le_of_ble_eq_true rfl) dX12_compile_102 (fun H locs hP hD hS => ?_)
  have hP : va_P (dC, dI) vwCl [((ad 21), .inl (c21, 12, .inl (upd f21 (0 : Int32).toNatClampNeg (-1)))), ((ad 25), .inl (c25, 600, .inl f25)), ((ad 26), .inl (c26, 600, .inl f26)), ((ad 27), .inl (c27, 600, .inl f27)), ((ad 28), .inl (c28, 600, .inl f28)), ((ad 29), .inl (c29, 12, .inl f29)), (h0, .inr (14, (((((ck_5 ad)).set 68 (.int 0)).set 66 (.int 0)).set 53 (.int 0)).set 59 (.int 0)))] H := hP
  have hD : va_D A [((ad 21), .inl (c21, 12, .inl (upd f21 (0 : Int32).toNatClampNeg (-1)))), ((ad 25), .inl (c25, 600, .inl f25)), ((ad 26), .inl (c26, 600, .inl f26)), ((ad 27), .inl (c27, 600, .inl f27)), ((ad 28), .inl (c28, 600, .inl f28)), ((ad 29), .inl (c29, 12, .inl f29)), (h0, .inr (14, (((((ck_5 ad)).set 68 (.int 0)).set 66 (.int 0)).set 53 (.int 0)).set 59 (.int 0)))] := hD
  refine lv_aload_n hx hb dX12_compile_105 rfl (lv_at hl 2 rfl) ?_
  refine lv_iconst (v := 0) hx hb dX12_compile_106 (by decide) ?_
  refine va_put (D := (dC, dI)) (ci := 14) (v := .int 0) (ty := tyX12 55) (C := RX12) (T := TX12) (N := 151) hx hb hts hwX12 tyX12 tyX12_ok nmX12 hown hK hP hD hS 6 rfl rfl 55 (Nat.le_of_ble_eq_true rfl) (hts (.fieldLink RX12 689 "ScriptTypesModel" "sites" "I") (List.mem_of_getElem? (i := 10) (by decide +kernel))) (fun _ h9 => h9) rfl (tyX12_ok 55 (Nat.le_of_ble_eq_true rfl)) rfl rfl (Nat.le_of_ble_eq_true rfl) dX12_compile_107 (fun H locs hP hD hS => ?_)
  have hP : va_P (dC, dI) vwCl [((ad 21), .inl (c21, 12, .inl (upd f21 (0 : Int32).toNatClampNeg (-1)))), ((ad 25), .inl (c25, 600, .inl f25)), ((ad 26), .inl (c26, 600, .inl f26)), ((ad 27), .inl (c27, 600, .inl f27)), ((ad 28), .inl (c28, 600, .inl f28)), ((ad 29), .inl (c29, 12, .inl f29)), (h0, .inr (14, ((((((ck_5 ad)).set 68 (.int 0)).set 66 (.int 0)).set 53 (.int 0)).set 59 (.int 0)).set 55 (.int 0)))] H := hP
  have hD : va_D A [((ad 21), .inl (c21, 12, .inl (upd f21 (0 : Int32).toNatClampNeg (-1)))), ((ad 25), .inl (c25, 600, .inl f25)), ((ad 26), .inl (c26, 600, .inl f26)), ((ad 27), .inl (c27, 600, .inl f27)), ((ad 28), .inl (c28, 600, .inl f28)), ((ad 29), .inl (c29, 12, .inl f29)), (h0, .inr (14, ((((((ck_5 ad)).set 68 (.int 0)).set 66 (.int 0)).set 53 (.int 0)).set 59 (.int 0)).set 55 (.int 0)))] := hD
  refine lv_iconst (v := 0) hx hb dX12_compile_110 (by decide) ?_
  refine lv_istore_n (lv' := [(2, .int 0), (1, .int 1), (0, .ref h0)]) hx hb dX12_compile_111 rfl hl (by decide) rfl (fun ls hl => ?_)
  refine lv_iload_n hx hb dX12_compile_112 rfl (lv_at hl 0 rfl) ?_
  refine lv_aload_n hx hb dX12_compile_113 rfl (lv_at hl 2 rfl) ?_
  refine va_get (D := (dC, dI)) (ci := 14) (v := .int 1) (C := RX12) (T := TX12) (N := 151) hx hb hts hwX12 hown hK hP 6 rfl rfl 32 (Nat.le_of_ble_eq_true rfl) (hts (.fieldLink RX12 527 "ScriptTypesModel" "functions" "I") (List.mem_of_getElem? (i := 1) (by decide +kernel))) (fun _ h9 => h9) rfl dX12_compile_114 ?_
  refine lv_icmp_ge (tgt := 138) hx hb dX12_compile_117 (by decide) (fun c6_117 => absurd c6_117 (by decide)) (fun _ => ?_)
  refine lv_aload_n hx hb dX12_compile_120 rfl (lv_at hl 2 rfl) ?_
  refine va_get (D := (dC, dI)) (ci := 14) (v := .int 0) (C := RX12) (T := TX12) (N := 151) hx hb hts hwX12 hown hK hP 6 rfl rfl 47 (Nat.le_of_ble_eq_true rfl) (hts (.fieldLink RX12 609 "ScriptTypesModel" "manyInstructions" "Z") (List.mem_of_getElem? (i := 4) (by decide +kernel))) (fun _ h9 => h9) rfl dX12_compile_121 ?_
  refine lv_if_ne (tgt := 138) hx hb dX12_compile_124 (by decide) (fun c7_124 => absurd (by decide) c7_124) (fun _ => ?_)
  refine lv_aload_n hx hb dX12_compile_127 rfl (lv_at hl 2 rfl) ?_
  refine lv_iload_n hx hb dX12_compile_128 rfl (lv_at hl 0 rfl) ?_
  have hPc := hP.sub (ws' := [((ad 21), .inl (c21, 12, .inl (upd f21 (0 : Int32).toNatClampNeg (-1)))), ((ad 25), .inl (c25, 600, .inl f25)), ((ad 26), .inl (c26, 600, .inl f26)), ((ad 27), .inl (c27, 600, .inl f27)), ((ad 28), .inl (c28, 600, .inl f28)), ((ad 29), .inl (c29, 12, .inl f29)), (h0, .inr (14, ((((((ck_5 ad)).set 68 (.int 0)).set 66 (.int 0)).set 53 (.int 0)).set 59 (.int 0)).set 55 (.int 0)))]) [0, 1, 2, 3, 4, 5, 6] rfl
  have hDc := hD.sub (ws' := [((ad 21), .inl (c21, 12, .inl (upd f21 (0 : Int32).toNatClampNeg (-1)))), ((ad 25), .inl (c25, 600, .inl f25)), ((ad 26), .inl (c26, 600, .inl f26)), ((ad 27), .inl (c27, 600, .inl f27)), ((ad 28), .inl (c28, 600, .inl f28)), ((ad 29), .inl (c29, 12, .inl f29)), (h0, .inr (14, ((((((ck_5 ad)).set 68 (.int 0)).set 66 (.int 0)).set 53 (.int 0)).set 59 (.int 0)).set 55 (.int 0)))]) [0, 1, 2, 3, 4, 5, 6] (by decide) rfl
  have hKc := hK.sub (tys' := [(c21, .int), (c25, .int), (c26, .int), (c27, .int), (c28, .int), (c29, .int)]) [0, 1, 2, 3, 4, 5] rfl
  have hFc := va_free (wc := [((ad 21), .inl (c21, 12, .inl (upd f21 (0 : Int32).toNatClampNeg (-1)))), ((ad 25), .inl (c25, 600, .inl f25)), ((ad 26), .inl (c26, 600, .inl f26)), ((ad 27), .inl (c27, 600, .inl f27)), ((ad 28), .inl (c28, 600, .inl f28)), ((ad 29), .inl (c29, 12, .inl f29)), (h0, .inr (14, ((((((ck_5 ad)).set 68 (.int 0)).set 66 (.int 0)).set 53 (.int 0)).set 59 (.int 0)).set 55 (.int 0)))]) hD hS hA [0, 1, 2, 3, 4, 5, 6] rfl
  refine va_callv (va_runV (As := [.int 0]) (rest := []) ⟨hx, hb, hml, hown, hts⟩ (a_X12_codeFunction_1 l dC dI H.size h0 aS aV ad c4 f4 c2 f2 c3 f3 c5 f5 c7 f7 c8 f8 c9 f9 c14 f14 c23 f23 c21 f21 c25 f25 c26 f26 c27 f27 c28 f28 c29 f29) (cwV 1 hts vg_a_X12_compile_1_a_X12_codeFunction_1 rfl rfl rfl (by decide +kernel) ⟨Nat.le_of_ble_eq_true rfl, Nat.le_of_ble_eq_true rfl⟩) ⟨fun a U g mk q => by obtain ⟨q0, q1, qP, qK, qD⟩ := q; exact ⟨q0, q1, qP, va_K.moved (u := U) (U := U.calling g mk a) (Vm.Alike.refl U.vm) qK, qD⟩, va_recv hKc hPc (ci := 14) (q0 := 6) rfl rfl, fun U hU hW => ⟨rfl, by rw [hU], by rw [hU]; exact hPc, va_K.moved hW.alike hKc, hDc.weaken (fun _ _ _ _ => trivial)⟩⟩ rfl rfl hl.1 rfl (lv_room (Nat.le_of_ble_eq_true rfl)) dX12_compile_129 ⟨Nat.le_of_ble_eq_true rfl, Nat.le_of_ble_eq_true rfl⟩) hS (fun q _ h => hFc q h) hFc (fun u t H1 locs ht hvm hw hB hz1 hk1 hS => ?_)
  obtain ⟨hP1, hK1, hD1⟩ := hB
  rw [ht] at hP1
  have hK1 := va_K.moved hvm.symm hK1
  try dsimp only at hw
  obtain ⟨hP, hD⟩ := va_join (wr := []) (w1 := [((ad 21), .inl (c21, 12, .inl (upd f21 (0 : Int32).toNatClampNeg (-1)))), ((ad 29), .inl (c29, 12, .inl (upd f29 (0 : Int32).toNatClampNeg 0))), ((ad 25), .inl (c25, 600, .inl (upd (upd f25 (0 : Int32).toNatClampNeg 0) (1 : Int32).toNatClampNeg 25))), ((ad 26), .inl (c26, 600, .inl (upd (upd f26 (0 : Int32).toNatClampNeg 0) (1 : Int32).toNatClampNeg 0))), ((ad 27), .inl (c27, 600, .inl (upd (upd f27 (0 : Int32).toNatClampNeg 0) (1 : Int32).toNatClampNeg 0))), ((ad 28), .inl (c28, 600, .inl (upd (upd f28 (0 : Int32).toNatClampNeg 0) (1 : Int32).toNatClampNeg 0))), (h0, .inr (14, (((((ck_6 ad)).set 60 (.int (-1))).set 68 (.int 0)).set 46 (.int 1)).set 46 (.int 2)))]) hP hD [0, 1, 2, 3, 4, 5, 6] [] rfl rfl (by decide) (by decide) hk1 hFc hP1 hD1
  generalize H1 = H at hP hS ⊢
  have hP : va_P (dC, dI) vwCl [((ad 21), .inl (c21, 12, .inl (upd f21 (0 : Int32).toNatClampNeg (-1)))), ((ad 29), .inl (c29, 12, .inl (upd f29 (0 : Int32).toNatClampNeg 0))), ((ad 25), .inl (c25, 600, .inl (upd (upd f25 (0 : Int32).toNatClampNeg 0) (1 : Int32).toNatClampNeg 25))), ((ad 26), .inl (c26, 600, .inl (upd (upd f26 (0 : Int32).toNatClampNeg 0) (1 : Int32).toNatClampNeg 0))), ((ad 27), .inl (c27, 600, .inl (upd (upd f27 (0 : Int32).toNatClampNeg 0) (1 : Int32).toNatClampNeg 0))), ((ad 28), .inl (c28, 600, .inl (upd (upd f28 (0 : Int32).toNatClampNeg 0) (1 : Int32).toNatClampNeg 0))), (h0, .inr (14, (((((ck_6 ad)).set 60 (.int (-1))).set 68 (.int 0)).set 46 (.int 1)).set 46 (.int 2)))] H := hP
  have hD : va_D A [((ad 21), .inl (c21, 12, .inl (upd f21 (0 : Int32).toNatClampNeg (-1)))), ((ad 29), .inl (c29, 12, .inl (upd f29 (0 : Int32).toNatClampNeg 0))), ((ad 25), .inl (c25, 600, .inl (upd (upd f25 (0 : Int32).toNatClampNeg 0) (1 : Int32).toNatClampNeg 25))), ((ad 26), .inl (c26, 600, .inl (upd (upd f26 (0 : Int32).toNatClampNeg 0) (1 : Int32).toNatClampNeg 0))), ((ad 27), .inl (c27, 600, .inl (upd (upd f27 (0 : Int32).toNatClampNeg 0) (1 : Int32).toNatClampNeg 0))), ((ad 28), .inl (c28, 600, .inl (upd (upd f28 (0 : Int32).toNatClampNeg 0) (1 : Int32).toNatClampNeg 0))), (h0, .inr (14, (((((ck_6 ad)).set 60 (.int (-1))).set 68 (.int 0)).set 46 (.int 1)).set 46 (.int 2)))] := hD
  refine lv_iinc (v := 1) (lv' := [(2, .int 1), (1, .int 1), (0, .ref h0)]) hx hb dX12_compile_132 hl (k := 0) rfl (by decide) (by decide) rfl (fun ls hl => ?_)
  refine lv_goto (tgt := 112) hx hb dX12_compile_135 (by decide) ?_
  refine lv_iload_n hx hb dX12_compile_112 rfl (lv_at hl 0 rfl) ?_
  refine lv_aload_n hx hb dX12_compile_113 rfl (lv_at hl 2 rfl) ?_
  refine va_get (D := (dC, dI)) (ci := 14) (v := .int 1) (C := RX12) (T := TX12) (N := 151) hx hb hts hwX12 hown hK hP 6 rfl rfl 32 (Nat.le_of_ble_eq_true rfl) (hts (.fieldLink RX12 527 "ScriptTypesModel" "functions" "I") (List.mem_of_getElem? (i := 1) (by decide +kernel))) (fun _ h9 => h9) rfl dX12_compile_114 ?_
  refine lv_icmp_ge (tgt := 138) hx hb dX12_compile_117 (by decide) (fun _ => ?_) (fun c9_117 => absurd (by decide) c9_117)
  refine lv_aload_n hx hb dX12_compile_138 rfl (lv_at hl 2 rfl) ?_
  refine va_get (D := (dC, dI)) (ci := 14) (v := .int 0) (C := RX12) (T := TX12) (N := 151) hx hb hts hwX12 hown hK hP 6 rfl rfl 47 (Nat.le_of_ble_eq_true rfl) (hts (.fieldLink RX12 609 "ScriptTypesModel" "manyInstructions" "Z") (List.mem_of_getElem? (i := 4) (by decide +kernel))) (fun _ h9 => h9) rfl dX12_compile_139 ?_
  refine lv_if_ne (tgt := 154) hx hb dX12_compile_142 (by decide) (fun c10_142 => absurd (by decide) c10_142) (fun _ => ?_)
  refine lv_aload_n hx hb dX12_compile_145 rfl (lv_at hl 2 rfl) ?_
  refine va_get (D := (dC, dI)) (ci := 14) (v := .int 0) (C := RX12) (T := TX12) (N := 151) hx hb hts hwX12 hown hK hP 6 rfl rfl 55 (Nat.le_of_ble_eq_true rfl) (hts (.fieldLink RX12 689 "ScriptTypesModel" "sites" "I") (List.mem_of_getElem? (i := 10) (by decide +kernel))) (fun _ h9 => h9) rfl dX12_compile_146 ?_
  refine lv_bipush (v := 19) hx hb dX12_compile_149 (by decide) ?_
  refine lv_icmp_le (tgt := 156) hx hb dX12_compile_151 (by decide) (fun _ => ?_) (fun c11_151 => absurd (by decide) c11_151)
  refine lv_iconst (v := 0) hx hb dX12_compile_156 (by decide) ?_
  refine lv_istore_n (lv' := [(2, .int 0), (1, .int 1), (0, .ref h0)]) hx hb dX12_compile_157 rfl hl (by decide) rfl (fun ls hl => ?_)
  refine lv_iload_n hx hb dX12_compile_158 rfl (lv_at hl 0 rfl) ?_
  refine lv_aload_n hx hb dX12_compile_159 rfl (lv_at hl 2 rfl) ?_
  refine va_get (D := (dC, dI)) (ci := 14) (v := .int 2) (C := RX12) (T := TX12) (N := 151) hx hb hts hwX12 hown hK hP 6 rfl rfl 46 (Nat.le_of_ble_eq_true rfl) (hts (.fieldLink RX12 606 "ScriptTypesModel" "instructions" "I") (List.mem_of_getElem? (i := 3) (by decide +kernel))) (fun _ h9 => h9) rfl dX12_compile_160 ?_
  refine lv_icmp_ge (tgt := 201) hx hb dX12_compile_163 (by decide) (fun c12_163 => absurd c12_163 (by decide)) (fun _ => ?_)
  refine lv_aload_n hx hb dX12_compile_166 rfl (lv_at hl 2 rfl) ?_
  refine va_get (D := (dC, dI)) (ci := 14) (v := .ref (ad 25)) (C := RX12) (T := TX12) (N := 151) hx hb hts hwX12 hown hK hP 6 rfl rfl 48 (Nat.le_of_ble_eq_true rfl) (hts (.fieldLink RX12 89 "ScriptTypesModel" "operation" "[I") (List.mem_of_getElem? (i := 15) (by decide +kernel))) (fun _ h9 => h9) rfl dX12_compile_167 ?_
  refine lv_iload_n hx hb dX12_compile_170 rfl (lv_at hl 0 rfl) ?_
  refine va_iald hx hb hK hP 2 1 rfl rfl (show ¬ ((0 : Int32) < 0 ∨ 600 ≤ (0 : Int32).toNatClampNeg) by decide) dX12_compile_171 ?_
  refine lv_topi (fun f_13 ef_13 => ?_)
  obtain rfl : f_13 = 0 := by rw [ef_13]; rfl
  have hPc := hP.sub (ws' := []) [] rfl
  have hDc := hD.sub (ws' := []) [] (by decide) rfl
  have hKc := hK.sub (tys' := []) [] rfl
  have hFc := va_free (wc := []) hD hS hA [] rfl
  refine va_calli (va_runS (As := [.int 0]) (rest := []) ⟨hx, hb, hml, hown, hts⟩ (a_X12_isJump_1 l dC dI H.size h0 aS aV ad c4 f4 c2 f2 c3 f3 c5 f5 c7 f7 c8 f8 c9 f9 c14 f14 c23 f23 c21 f21 c25 f25 c26 f26 c27 f27 c28 f28 c29 f29) (va_cwS 1 hts vg_a_X12_compile_1_a_X12_isJump_1 rfl rfl rfl (by decide +kernel) ⟨Nat.le_of_ble_eq_true rfl, Nat.le_of_ble_eq_true rfl⟩) ⟨fun a U g mk q => by obtain ⟨q0, q1, qP, qK, qD⟩ := q; exact ⟨q0, q1, qP, va_K.moved (u := U) (U := U.calling g mk a) (Vm.Alike.refl U.vm) qK, qD⟩, fun U hU hW => ⟨rfl, by rw [hU], by rw [hU]; exact hPc, va_K.moved hW.alike hKc, hDc.weaken (fun _ _ _ _ => trivial)⟩⟩ rfl rfl hl.1 rfl (lv_room (Nat.le_of_ble_eq_true rfl)) dX12_compile_172 ⟨Nat.le_of_ble_eq_true rfl, Nat.le_of_ble_eq_true rfl⟩) hS (fun q _ h => hFc q h) hFc (fun r_14 u t H1 locs ht hvm hw hB hz1 hk1 hS => ?_)
  try dsimp only at hw
  obtain ⟨hP, hD⟩ := va_join (wr := [((ad 21), .inl (c21, 12, .inl (upd f21 (0 : Int32).toNatClampNeg (-1)))), ((ad 29), .inl (c29, 12, .inl (upd f29 (0 : Int32).toNatClampNeg 0))), ((ad 25), .inl (c25, 600, .inl (upd (upd f25 (0 : Int32).toNatClampNeg 0) (1 : Int32).toNatClampNeg 25))), ((ad 26), .inl (c26, 600, .inl (upd (upd f26 (0 : Int32).toNatClampNeg 0) (1 : Int32).toNatClampNeg 0))), ((ad 27), .inl (c27, 600, .inl (upd (upd f27 (0 : Int32).toNatClampNeg 0) (1 : Int32).toNatClampNeg 0))), ((ad 28), .inl (c28, 600, .inl (upd (upd f28 (0 : Int32).toNatClampNeg 0) (1 : Int32).toNatClampNeg 0))), (h0, .inr (14, (((((ck_6 ad)).set 60 (.int (-1))).set 68 (.int 0)).set 46 (.int 1)).set 46 (.int 2)))]) (w1 := []) hP hD [] [0, 1, 2, 3, 4, 5, 6] rfl rfl (by decide) (by decide) hk1 hFc (fun k q h => by simp at h) ⟨fun i j p q h => by simp at h, fun k q h => by simp at h⟩
  generalize H1 = H at hP hS ⊢
  have hP : va_P (dC, dI) vwCl [((ad 21), .inl (c21, 12, .inl (upd f21 (0 : Int32).toNatClampNeg (-1)))), ((ad 29), .inl (c29, 12, .inl (upd f29 (0 : Int32).toNatClampNeg 0))), ((ad 25), .inl (c25, 600, .inl (upd (upd f25 (0 : Int32).toNatClampNeg 0) (1 : Int32).toNatClampNeg 25))), ((ad 26), .inl (c26, 600, .inl (upd (upd f26 (0 : Int32).toNatClampNeg 0) (1 : Int32).toNatClampNeg 0))), ((ad 27), .inl (c27, 600, .inl (upd (upd f27 (0 : Int32).toNatClampNeg 0) (1 : Int32).toNatClampNeg 0))), ((ad 28), .inl (c28, 600, .inl (upd (upd f28 (0 : Int32).toNatClampNeg 0) (1 : Int32).toNatClampNeg 0))), (h0, .inr (14, (((((ck_6 ad)).set 60 (.int (-1))).set 68 (.int 0)).set 46 (.int 1)).set 46 (.int 2)))] H := hP
  have hD : va_D A [((ad 21), .inl (c21, 12, .inl (upd f21 (0 : Int32).toNatClampNeg (-1)))), ((ad 29), .inl (c29, 12, .inl (upd f29 (0 : Int32).toNatClampNeg 0))), ((ad 25), .inl (c25, 600, .inl (upd (upd f25 (0 : Int32).toNatClampNeg 0) (1 : Int32).toNatClampNeg 25))), ((ad 26), .inl (c26, 600, .inl (upd (upd f26 (0 : Int32).toNatClampNeg 0) (1 : Int32).toNatClampNeg 0))), ((ad 27), .inl (c27, 600, .inl (upd (upd f27 (0 : Int32).toNatClampNeg 0) (1 : Int32).toNatClampNeg 0))), ((ad 28), .inl (c28, 600, .inl (upd (upd f28 (0 : Int32).toNatClampNeg 0) (1 : Int32).toNatClampNeg 0))), (h0, .inr (14, (((((ck_6 ad)).set 60 (.int (-1))).set 68 (.int 0)).set 46 (.int 1)).set 46 (.int 2)))] := hD
  obtain rfl : r_14 = 0 := hw
  refine lv_if_eq (tgt := 195) hx hb dX12_compile_175 (by decide) (fun _ => ?_) (fun c15_175 => absurd (by decide) c15_175)
  refine lv_iinc (v := 1) (lv' := [(2, .int 1), (1, .int 1), (0, .ref h0)]) hx hb dX12_compile_195 hl (k := 0) rfl (by decide) (by decide) rfl (fun ls hl => ?_)
  refine lv_goto (tgt := 158) hx hb dX12_compile_198 (by decide) ?_
  refine lv_iload_n hx hb dX12_compile_158 rfl (lv_at hl 0 rfl) ?_
  refine lv_aload_n hx hb dX12_compile_159 rfl (lv_at hl 2 rfl) ?_
  refine va_get (D := (dC, dI)) (ci := 14) (v := .int 2) (C := RX12) (T := TX12) (N := 151) hx hb hts hwX12 hown hK hP 6 rfl rfl 46 (Nat.le_of_ble_eq_true rfl) (hts (.fieldLink RX12 606 "ScriptTypesModel" "instructions" "I") (List.mem_of_getElem? (i := 3) (by decide +kernel))) (fun _ h9 => h9) rfl dX12_compile_160 ?_
  refine lv_icmp_ge (tgt := 201) hx hb dX12_compile_163 (by decide) (fun c16_163 => absurd c16_163 (by decide)) (fun _ => ?_)
  refine lv_aload_n hx hb dX12_compile_166 rfl (lv_at hl 2 rfl) ?_
  refine va_get (D := (dC, dI)) (ci := 14) (v := .ref (ad 25)) (C := RX12) (T := TX12) (N := 151) hx hb hts hwX12 hown hK hP 6 rfl rfl 48 (Nat.le_of_ble_eq_true rfl) (hts (.fieldLink RX12 89 "ScriptTypesModel" "operation" "[I") (List.mem_of_getElem? (i := 15) (by decide +kernel))) (fun _ h9 => h9) rfl dX12_compile_167 ?_
  refine lv_iload_n hx hb dX12_compile_170 rfl (lv_at hl 0 rfl) ?_
  refine va_iald hx hb hK hP 2 1 rfl rfl (show ¬ ((1 : Int32) < 0 ∨ 600 ≤ (1 : Int32).toNatClampNeg) by decide) dX12_compile_171 ?_
  refine lv_topi (fun f_17 ef_17 => ?_)
  obtain rfl : f_17 = 25 := by rw [ef_17]; rfl
  have hPc := hP.sub (ws' := []) [] rfl
  have hDc := hD.sub (ws' := []) [] (by decide) rfl
  have hKc := hK.sub (tys' := []) [] rfl
  have hFc := va_free (wc := []) hD hS hA [] rfl
  refine va_calli (va_runS (As := [.int 25]) (rest := []) ⟨hx, hb, hml, hown, hts⟩ (a_X12_isJump_2 l dC dI H.size h0 aS aV ad c4 f4 c2 f2 c3 f3 c5 f5 c7 f7 c8 f8 c9 f9 c14 f14 c23 f23 c21 f21 c25 f25 c26 f26 c27 f27 c28 f28 c29 f29) (va_cwS 1 hts vg_a_X12_compile_1_a_X12_isJump_2 rfl rfl rfl (by decide +kernel) ⟨Nat.le_of_ble_eq_true rfl, Nat.le_of_ble_eq_true rfl⟩) ⟨fun a U g mk q => by obtain ⟨q0, q1, qP, qK, qD⟩ := q; exact ⟨q0, q1, qP, va_K.moved (u := U) (U := U.calling g mk a) (Vm.Alike.refl U.vm) qK, qD⟩, fun U hU hW => ⟨rfl, by rw [hU], by rw [hU]; exact hPc, va_K.moved hW.alike hKc, hDc.weaken (fun _ _ _ _ => trivial)⟩⟩ rfl rfl hl.1 rfl (lv_room (Nat.le_of_ble_eq_true rfl)) dX12_compile_172 ⟨Nat.le_of_ble_eq_true rfl, Nat.le_of_ble_eq_true rfl⟩) hS (fun q _ h => hFc q h) hFc (fun r_18 u t H1 locs ht hvm hw hB hz1 hk1 hS => ?_)
  try dsimp only at hw
  obtain ⟨hP, hD⟩ := va_join (wr := [((ad 21), .inl (c21, 12, .inl (upd f21 (0 : Int32).toNatClampNeg (-1)))), ((ad 29), .inl (c29, 12, .inl (upd f29 (0 : Int32).toNatClampNeg 0))), ((ad 25), .inl (c25, 600, .inl (upd (upd f25 (0 : Int32).toNatClampNeg 0) (1 : Int32).toNatClampNeg 25))), ((ad 26), .inl (c26, 600, .inl (upd (upd f26 (0 : Int32).toNatClampNeg 0) (1 : Int32).toNatClampNeg 0))), ((ad 27), .inl (c27, 600, .inl (upd (upd f27 (0 : Int32).toNatClampNeg 0) (1 : Int32).toNatClampNeg 0))), ((ad 28), .inl (c28, 600, .inl (upd (upd f28 (0 : Int32).toNatClampNeg 0) (1 : Int32).toNatClampNeg 0))), (h0, .inr (14, (((((ck_6 ad)).set 60 (.int (-1))).set 68 (.int 0)).set 46 (.int 1)).set 46 (.int 2)))]) (w1 := []) hP hD [] [0, 1, 2, 3, 4, 5, 6] rfl rfl (by decide) (by decide) hk1 hFc (fun k q h => by simp at h) ⟨fun i j p q h => by simp at h, fun k q h => by simp at h⟩
  generalize H1 = H at hP hS ⊢
  have hP : va_P (dC, dI) vwCl [((ad 21), .inl (c21, 12, .inl (upd f21 (0 : Int32).toNatClampNeg (-1)))), ((ad 29), .inl (c29, 12, .inl (upd f29 (0 : Int32).toNatClampNeg 0))), ((ad 25), .inl (c25, 600, .inl (upd (upd f25 (0 : Int32).toNatClampNeg 0) (1 : Int32).toNatClampNeg 25))), ((ad 26), .inl (c26, 600, .inl (upd (upd f26 (0 : Int32).toNatClampNeg 0) (1 : Int32).toNatClampNeg 0))), ((ad 27), .inl (c27, 600, .inl (upd (upd f27 (0 : Int32).toNatClampNeg 0) (1 : Int32).toNatClampNeg 0))), ((ad 28), .inl (c28, 600, .inl (upd (upd f28 (0 : Int32).toNatClampNeg 0) (1 : Int32).toNatClampNeg 0))), (h0, .inr (14, (((((ck_6 ad)).set 60 (.int (-1))).set 68 (.int 0)).set 46 (.int 1)).set 46 (.int 2)))] H := hP
  have hD : va_D A [((ad 21), .inl (c21, 12, .inl (upd f21 (0 : Int32).toNatClampNeg (-1)))), ((ad 29), .inl (c29, 12, .inl (upd f29 (0 : Int32).toNatClampNeg 0))), ((ad 25), .inl (c25, 600, .inl (upd (upd f25 (0 : Int32).toNatClampNeg 0) (1 : Int32).toNatClampNeg 25))), ((ad 26), .inl (c26, 600, .inl (upd (upd f26 (0 : Int32).toNatClampNeg 0) (1 : Int32).toNatClampNeg 0))), ((ad 27), .inl (c27, 600, .inl (upd (upd f27 (0 : Int32).toNatClampNeg 0) (1 : Int32).toNatClampNeg 0))), ((ad 28), .inl (c28, 600, .inl (upd (upd f28 (0 : Int32).toNatClampNeg 0) (1 : Int32).toNatClampNeg 0))), (h0, .inr (14, (((((ck_6 ad)).set 60 (.int (-1))).set 68 (.int 0)).set 46 (.int 1)).set 46 (.int 2)))] := hD
  obtain rfl : r_18 = 0 := hw
  refine lv_if_eq (tgt := 195) hx hb dX12_compile_175 (by decide) (fun _ => ?_) (fun c19_175 => absurd (by decide) c19_175)
  refine lv_iinc (v := 2) (lv' := [(2, .int 2), (1, .int 1), (0, .ref h0)]) hx hb dX12_compile_195 hl (k := 0) rfl (by decide) (by decide) rfl (fun ls hl => ?_)
  refine lv_goto (tgt := 158) hx hb dX12_compile_198 (by decide) ?_
  refine lv_iload_n hx hb dX12_compile_158 rfl (lv_at hl 0 rfl) ?_
  refine lv_aload_n hx hb dX12_compile_159 rfl (lv_at hl 2 rfl) ?_
  refine va_get (D := (dC, dI)) (ci := 14) (v := .int 2) (C := RX12) (T := TX12) (N := 151) hx hb hts hwX12 hown hK hP 6 rfl rfl 46 (Nat.le_of_ble_eq_true rfl) (hts (.fieldLink RX12 606 "ScriptTypesModel" "instructions" "I") (List.mem_of_getElem? (i := 3) (by decide +kernel))) (fun _ h9 => h9) rfl dX12_compile_160 ?_
  refine lv_icmp_ge (tgt := 201) hx hb dX12_compile_163 (by decide) (fun _ => ?_) (fun c20_163 => absurd (by decide) c20_163)
  refine lv_aload_n hx hb dX12_compile_201 rfl (lv_at hl 2 rfl) ?_
  refine lv_aload_n hx hb dX12_compile_202 rfl (lv_at hl 2 rfl) ?_
  refine va_get (D := (dC, dI)) (ci := 14) (v := .int 31) (C := RX12) (T := TX12) (N := 151) hx hb hts hwX12 hown hK hP 6 rfl rfl 7 (Nat.le_of_ble_eq_true rfl) (hts (.fieldLink RX12 296 "ScriptTypesModel" "strings" "I") (List.mem_of_getElem? (i := 18) (by decide +kernel))) (fun _ h9 => h9) rfl dX12_compile_203 ?_
  refine va_put (D := (dC, dI)) (ci := 14) (v := .int 31) (ty := tyX12 8) (C := RX12) (T := TX12) (N := 151) hx hb hts hwX12 tyX12 tyX12_ok nmX12 hown hK hP hD hS 6 rfl rfl 8 (Nat.le_of_ble_eq_true rfl) (hts (.fieldLink RX12 762 "ScriptTypesModel" "names" "I") (List.mem_of_getElem? (i := 19) (by decide +kernel))) (fun _ h9 => h9) rfl (tyX12_ok 8 (Nat.le_of_ble_eq_true rfl)) rfl rfl (Nat.le_of_ble_eq_true rfl) dX12_compile_206 (fun H locs hP hD hS => ?_)
  have hP : va_P (dC, dI) vwCl [((ad 21), .inl (c21, 12, .inl (upd f21 (0 : Int32).toNatClampNeg (-1)))), ((ad 29), .inl (c29, 12, .inl (upd f29 (0 : Int32).toNatClampNeg 0))), ((ad 25), .inl (c25, 600, .inl (upd (upd f25 (0 : Int32).toNatClampNeg 0) (1 : Int32).toNatClampNeg 25))), ((ad 26), .inl (c26, 600, .inl (upd (upd f26 (0 : Int32).toNatClampNeg 0) (1 : Int32).toNatClampNeg 0))), ((ad 27), .inl (c27, 600, .inl (upd (upd f27 (0 : Int32).toNatClampNeg 0) (1 : Int32).toNatClampNeg 0))), ((ad 28), .inl (c28, 600, .inl (upd (upd f28 (0 : Int32).toNatClampNeg 0) (1 : Int32).toNatClampNeg 0))), (h0, .inr (14, ((((((ck_6 ad)).set 60 (.int (-1))).set 68 (.int 0)).set 46 (.int 1)).set 46 (.int 2)).set 8 (.int 31)))] H := hP
  have hD : va_D A [((ad 21), .inl (c21, 12, .inl (upd f21 (0 : Int32).toNatClampNeg (-1)))), ((ad 29), .inl (c29, 12, .inl (upd f29 (0 : Int32).toNatClampNeg 0))), ((ad 25), .inl (c25, 600, .inl (upd (upd f25 (0 : Int32).toNatClampNeg 0) (1 : Int32).toNatClampNeg 25))), ((ad 26), .inl (c26, 600, .inl (upd (upd f26 (0 : Int32).toNatClampNeg 0) (1 : Int32).toNatClampNeg 0))), ((ad 27), .inl (c27, 600, .inl (upd (upd f27 (0 : Int32).toNatClampNeg 0) (1 : Int32).toNatClampNeg 0))), ((ad 28), .inl (c28, 600, .inl (upd (upd f28 (0 : Int32).toNatClampNeg 0) (1 : Int32).toNatClampNeg 0))), (h0, .inr (14, ((((((ck_6 ad)).set 60 (.int (-1))).set 68 (.int 0)).set 46 (.int 1)).set 46 (.int 2)).set 8 (.int 31)))] := hD
  refine lv_aload_n hx hb dX12_compile_209 rfl (lv_at hl 2 rfl) ?_
  refine lv_bipush (v := 29) hx hb dX12_compile_210 (by decide) ?_
  refine lv_bipush (v := 6) hx hb dX12_compile_212 (by decide) ?_
  refine lv_aload_n hx hb dX12_compile_214 rfl (lv_at hl 2 rfl) ?_
  refine va_get (D := (dC, dI)) (ci := 14) (v := .int 1) (C := RX12) (T := TX12) (N := 151) hx hb hts hwX12 hown hK hP 6 rfl rfl 32 (Nat.le_of_ble_eq_true rfl) (hts (.fieldLink RX12 527 "ScriptTypesModel" "functions" "I") (List.mem_of_getElem? (i := 1) (by decide +kernel))) (fun _ h9 => h9) rfl dX12_compile_215 ?_
  refine lv_iconst (v := 1) hx hb dX12_compile_218 (by decide) ?_
  refine lv_isub hx hb dX12_compile_219 ?_
  refine lv_topi (fun f_21 ef_21 => ?_)
  obtain rfl : f_21 = 0 := by rw [ef_21]; decide
  refine lv_imul hx hb dX12_compile_220 ?_
  refine lv_topi (fun f_22 ef_22 => ?_)
  obtain rfl : f_22 = 0 := by rw [ef_22]; decide
  refine lv_iadd hx hb dX12_compile_221 ?_
  refine lv_topi (fun f_23 ef_23 => ?_)
  obtain rfl : f_23 = 29 := by rw [ef_23]; decide
  refine lv_iconst (v := 2) hx hb dX12_compile_222 (by decide) ?_
  refine lv_aload_n hx hb dX12_compile_223 rfl (lv_at hl 2 rfl) ?_
  refine va_get (D := (dC, dI)) (ci := 14) (v := .int 0) (C := RX12) (T := TX12) (N := 151) hx hb hts hwX12 hown hK hP 6 rfl rfl 55 (Nat.le_of_ble_eq_true rfl) (hts (.fieldLink RX12 689 "ScriptTypesModel" "sites" "I") (List.mem_of_getElem? (i := 10) (by decide +kernel))) (fun _ h9 => h9) rfl dX12_compile_224 ?_
  refine lv_imul hx hb dX12_compile_227 ?_
  refine lv_topi (fun f_24 ef_24 => ?_)
  obtain rfl : f_24 = 0 := by rw [ef_24]; decide
  refine lv_iadd hx hb dX12_compile_228 ?_
  refine lv_topi (fun f_25 ef_25 => ?_)
  obtain rfl : f_25 = 29 := by rw [ef_25]; decide
  refine va_put (D := (dC, dI)) (ci := 14) (v := .int 29) (ty := tyX12 71) (C := RX12) (T := TX12) (N := 151) hx hb hts hwX12 tyX12 tyX12_ok nmX12 hown hK hP hD hS 6 rfl rfl 71 (Nat.le_of_ble_eq_true rfl) (hts (.fieldLink RX12 765 "ScriptTypesModel" "labels" "I") (List.mem_of_getElem? (i := 20) (by decide +kernel))) (fun _ h9 => h9) rfl (tyX12_ok 71 (Nat.le_of_ble_eq_true rfl)) rfl rfl (Nat.le_of_ble_eq_true rfl) dX12_compile_229 (fun H locs hP hD hS => ?_)
  have hP : va_P (dC, dI) vwCl [((ad 21), .inl (c21, 12, .inl (upd f21 (0 : Int32).toNatClampNeg (-1)))), ((ad 29), .inl (c29, 12, .inl (upd f29 (0 : Int32).toNatClampNeg 0))), ((ad 25), .inl (c25, 600, .inl (upd (upd f25 (0 : Int32).toNatClampNeg 0) (1 : Int32).toNatClampNeg 25))), ((ad 26), .inl (c26, 600, .inl (upd (upd f26 (0 : Int32).toNatClampNeg 0) (1 : Int32).toNatClampNeg 0))), ((ad 27), .inl (c27, 600, .inl (upd (upd f27 (0 : Int32).toNatClampNeg 0) (1 : Int32).toNatClampNeg 0))), ((ad 28), .inl (c28, 600, .inl (upd (upd f28 (0 : Int32).toNatClampNeg 0) (1 : Int32).toNatClampNeg 0))), (h0, .inr (14, (ck_7 ad)))] H := hP
  have hD : va_D A [((ad 21), .inl (c21, 12, .inl (upd f21 (0 : Int32).toNatClampNeg (-1)))), ((ad 29), .inl (c29, 12, .inl (upd f29 (0 : Int32).toNatClampNeg 0))), ((ad 25), .inl (c25, 600, .inl (upd (upd f25 (0 : Int32).toNatClampNeg 0) (1 : Int32).toNatClampNeg 25))), ((ad 26), .inl (c26, 600, .inl (upd (upd f26 (0 : Int32).toNatClampNeg 0) (1 : Int32).toNatClampNeg 0))), ((ad 27), .inl (c27, 600, .inl (upd (upd f27 (0 : Int32).toNatClampNeg 0) (1 : Int32).toNatClampNeg 0))), ((ad 28), .inl (c28, 600, .inl (upd (upd f28 (0 : Int32).toNatClampNeg 0) (1 : Int32).toNatClampNeg 0))), (h0, .inr (14, (ck_7 ad)))] := hD
  refine lv_aload_n hx hb dX12_compile_232 rfl (lv_at hl 2 rfl) ?_
  refine va_get (D := (dC, dI)) (ci := 14) (v := .int 2) (C := RX12) (T := TX12) (N := 151) hx hb hts hwX12 hown hK hP 6 rfl rfl 46 (Nat.le_of_ble_eq_true rfl) (hts (.fieldLink RX12 606 "ScriptTypesModel" "instructions" "I") (List.mem_of_getElem? (i := 3) (by decide +kernel))) (fun _ h9 => h9) rfl dX12_compile_233 ?_
  refine lv_iconst (v := 2) hx hb dX12_compile_236 (by decide) ?_
  refine lv_aload_n hx hb dX12_compile_237 rfl (lv_at hl 2 rfl) ?_
  refine va_get (D := (dC, dI)) (ci := 14) (v := .int 1) (C := RX12) (T := TX12) (N := 151) hx hb hts hwX12 hown hK hP 6 rfl rfl 32 (Nat.le_of_ble_eq_true rfl) (hts (.fieldLink RX12 527 "ScriptTypesModel" "functions" "I") (List.mem_of_getElem? (i := 1) (by decide +kernel))) (fun _ h9 => h9) rfl dX12_compile_238 ?_
  refine lv_imul hx hb dX12_compile_241 ?_
  refine lv_topi (fun f_26 ef_26 => ?_)
  obtain rfl : f_26 = 2 := by rw [ef_26]; decide
  refine lv_iadd hx hb dX12_compile_242 ?_
  refine lv_topi (fun f_27 ef_27 => ?_)
  obtain rfl : f_27 = 4 := by rw [ef_27]; decide
  refine lv_i2l (v := 4) hx hb dX12_compile_243 (by decide) ?_
  refine lv_aload_n hx hb dX12_compile_244 rfl (lv_at hl 2 rfl) ?_
  refine va_get (D := (dC, dI)) (ci := 14) (v := .int 29) (C := RX12) (T := TX12) (N := 151) hx hb hts hwX12 hown hK hP 6 rfl rfl 71 (Nat.le_of_ble_eq_true rfl) (hts (.fieldLink RX12 765 "ScriptTypesModel" "labels" "I") (List.mem_of_getElem? (i := 20) (by decide +kernel))) (fun _ h9 => h9) rfl dX12_compile_245 ?_
  refine lv_i2l (v := 29) hx hb dX12_compile_248 (by decide) ?_
  refine lv_lmul hx hb dX12_compile_249 ?_
  refine lv_topl (fun f_28 ef_28 => ?_)
  obtain rfl : f_28 = 116 := by rw [ef_28]; decide
  refine lv_aload_n hx hb dX12_compile_250 rfl (lv_at hl 2 rfl) ?_
  refine va_get (D := (dC, dI)) (ci := 14) (v := .int 31) (C := RX12) (T := TX12) (N := 151) hx hb hts hwX12 hown hK hP 6 rfl rfl 8 (Nat.le_of_ble_eq_true rfl) (hts (.fieldLink RX12 762 "ScriptTypesModel" "names" "I") (List.mem_of_getElem? (i := 19) (by decide +kernel))) (fun _ h9 => h9) rfl dX12_compile_251 ?_
  refine lv_i2l (v := 31) hx hb dX12_compile_254 (by decide) ?_
  refine lv_lmul hx hb dX12_compile_255 ?_
  refine lv_topl (fun f_29 ef_29 => ?_)
  obtain rfl : f_29 = 3596 := by rw [ef_29]; decide
  refine lv_ldc2 (v := 450000) hx hb hown (hts (.constantLong RX12 768 (450000)) (List.mem_of_getElem? (i := 21) (by decide +kernel))) dX12_compile_256 ?_
  refine W.lcmp hx hb dX12_compile_259 ?_
  refine lv_topi (fun f_30 ef_30 => ?_)
  obtain rfl : f_30 = (-1) := by rw [ef_30]; decide
  refine lv_if_gt (tgt := 267) hx hb dX12_compile_260 (by decide) (fun c31_260 => absurd c31_260 (by decide)) (fun _ => ?_)
  refine lv_iconst (v := 1) hx hb dX12_compile_263 (by decide) ?_
  refine lv_goto (tgt := 268) hx hb dX12_compile_264 (by decide) ?_
  exact W.zret (v := 1) hx hb hr rfl (fun t ht hW => ⟨⟨1, (), rfl, rfl, by rw [ht]; exact hP, va_K.moved hW.alike hK, hD⟩, hS.F ht⟩) hS.2.2 dX12_compile_268

