theorem dL_begin_0 : decode cL_begin 0 = .ok (.aload_n 0, 1) := by decide +kernel
theorem dL_begin_1 : decode cL_begin 1 = .ok (.invokevirtual 7, 3) := by decide +kernel
theorem dL_begin_4 : decode cL_begin 4 = .ok (.goto 6, 3) := by decide +kernel
theorem dL_begin_7 : decode cL_begin 7 = .ok (.astore_n 1, 1) := by decide +kernel
theorem dL_begin_8 : decode cL_begin 8 = .ok (.iconst 1, 1) := by decide +kernel
theorem dL_begin_9 : decode cL_begin 9 = .ok (.ireturn, 1) := by decide +kernel
theorem dL_begin_10 : decode cL_begin 10 = .ok (.iconst 0, 1) := by decide +kernel
theorem dL_begin_11 : decode cL_begin 11 = .ok (.ireturn, 1) := by decide +kernel
theorem dL_run_0 : decode cL_run 0 = .ok (.aload_n 2, 1) := by decide +kernel
theorem dL_run_1 : decode cL_run 1 = .ok (.iconst 0, 1) := by decide +kernel
theorem dL_run_2 : decode cL_run 2 = .ok (.aload_n 0, 1) := by decide +kernel
theorem dL_run_3 : decode cL_run 3 = .ok (.iload_n 1, 1) := by decide +kernel
theorem dL_run_4 : decode cL_run 4 = .ok (.invokevirtual 14, 3) := by decide +kernel
theorem dL_run_7 : decode cL_run 7 = .ok (.i2l, 1) := by decide +kernel
theorem dL_run_8 : decode cL_run 8 = .ok (.lastore, 1) := by decide +kernel
theorem dL_run_9 : decode cL_run 9 = .ok (.goto 9, 3) := by decide +kernel
theorem dL_run_12 : decode cL_run 12 = .ok (.astore_n 3, 1) := by decide +kernel
theorem dL_run_13 : decode cL_run 13 = .ok (.iconst 1, 1) := by decide +kernel
theorem dL_run_14 : decode cL_run 14 = .ok (.ireturn, 1) := by decide +kernel
theorem dL_run_15 : decode cL_run 15 = .ok (.astore_n 3, 1) := by decide +kernel
theorem dL_run_16 : decode cL_run 16 = .ok (.iconst 2, 1) := by decide +kernel
theorem dL_run_17 : decode cL_run 17 = .ok (.ireturn, 1) := by decide +kernel
theorem dL_run_18 : decode cL_run 18 = .ok (.iconst 0, 1) := by decide +kernel
theorem dL_run_19 : decode cL_run 19 = .ok (.ireturn, 1) := by decide +kernel
theorem dL_solve_0 : decode cL_solve 0 = .ok (.aload_n 1, 1) := by decide +kernel
theorem dL_solve_1 : decode cL_solve 1 = .ok (.iconst 0, 1) := by decide +kernel
theorem dL_solve_2 : decode cL_solve 2 = .ok (.aload_n 0, 1) := by decide +kernel
theorem dL_solve_3 : decode cL_solve 3 = .ok (.invokevirtual 20, 3) := by decide +kernel
theorem dL_solve_6 : decode cL_solve 6 = .ok (.i2l, 1) := by decide +kernel
theorem dL_solve_7 : decode cL_solve 7 = .ok (.lastore, 1) := by decide +kernel
theorem dL_solve_8 : decode cL_solve 8 = .ok (.goto 6, 3) := by decide +kernel
theorem dL_solve_11 : decode cL_solve 11 = .ok (.astore_n 2, 1) := by decide +kernel
theorem dL_solve_12 : decode cL_solve 12 = .ok (.iconst 1, 1) := by decide +kernel
theorem dL_solve_13 : decode cL_solve 13 = .ok (.ireturn, 1) := by decide +kernel
theorem dL_solve_14 : decode cL_solve 14 = .ok (.iconst 0, 1) := by decide +kernel
theorem dL_solve_15 : decode cL_solve 15 = .ok (.ireturn, 1) := by decide +kernel
/-- .. and what the law's run reads of it -/
def fE (s1 s2 s3 : Nat) (A : Nat → Prop) (U : State) (H : Heap) : Prop := eE s1 s2 s3 A U H ∧ va_Nc "java/lang/IllegalStateException" "java/lang/IllegalArgumentException" U
theorem fE.kept {s1 s2 s3 : Nat} {A : Nat → Prop} {U : State} {H H1 : Heap} (h : fE s1 s2 s3 A U H) (hq : ∀ a : Nat, a < H.size → ¬ A a → H1[a]? = H[a]?) : fE s1 s2 s3 A U H1 := ⟨h.1.kept hq, h.2⟩
theorem fE.narrow {s1 s2 s3 : Nat} {A B : Nat → Prop} {U : State} {H : Heap} (h : fE s1 s2 s3 A U H) (hAB : ∀ q, B q → A q) : fE s1 s2 s3 B U H := ⟨h.1.narrow hAB, h.2⟩
theorem fE.same {s1 s2 s3 : Nat} {A : Nat → Prop} {u U : State} {H : Heap} (hv : U.vm = u.vm) (h : fE s1 s2 s3 A u H) : fE s1 s2 s3 A U H := ⟨eE.same hv h.1, va_Nc.moved (by rw [hv]; exact Vm.Alike.refl u.vm) h.2⟩
theorem fE.warm {s1 s2 s3 : Nat} {A : Nat → Prop} {s U : State} {H : Heap} (hW : s.WarmedH U.vm) (h : fE s1 s2 s3 A s H) : fE s1 s2 s3 A U H := ⟨eE.warm hW h.1, va_Nc.moved hW.alike h.2⟩
def vb_k_L_begin : List Cond := .codeWith yL_begin cL_begin 2 (some .int) [(0, 4, 7, 12)] :: ([.methodLink RL 7 yX11_begin, .instanceMethod yX11_begin, .selects RX11 yX11_begin yX11_begin, .initialized RX11, .classLink RL 12 "java/lang/IllegalStateException"] ++ (vb_k_X11_begin ++ []))
def vw_k_L_begin : List Cond := vb_k_L_begin ++ wsAll
set_option maxRecDepth 20000 in
theorem vg_k_L_begin_k_X11_begin : GoodIn vw_k_L_begin (wsV RL 7 RX11 yX11_begin vw_k_X11_begin) := goodIn_app (goodIn_of _ (by decide +kernel)) (goodIn_sub (v_sub (fun w h => List.mem_cons_of_mem _ (List.mem_append_right _ (List.mem_append_left _ (h))))) (by decide +kernel))
set_option maxHeartbeats 8000000 in
set_option maxRecDepth 100000 in
theorem k_L_begin (l : Launch) (dC : Nat → ClassId) (dI : Nat → Nat → Nat) (sz : Nat) (h0 : Nat) (ad : Nat → Nat) (s1 s2 s3 : Nat)  (hst : l.stackTraces = false) : Met l yL_begin vw_k_L_begin ({ frames := 7, cells := 1, slots := 6, locals := 102 }) (va_Pc [.ref h0] (fun U => U.heap.size = sz ∧ va_P (dC, dI) vwCl [(h0, .inr (13, [.ref (ad 0), .int 0, .int 0, .ref (ad 1), .ref (ad 2), .ref (ad 3), .ref (ad 4), .ref (ad 5), .ref (ad 6)]))] U.heap ∧ va_K (dC, dI) vwCl [] U ∧ va_D (fun _ => True) [(h0, .inr (13, [.ref (ad 0), .int 0, .int 0, .ref (ad 1), .ref (ad 2), .ref (ad 3), .ref (ad 4), .ref (ad 5), .ref (ad 6)]))] ∧ eE s1 s2 s3 (va_A [(h0, .inr (13, [.ref (ad 0), .int 0, .int 0, .ref (ad 1), .ref (ad 2), .ref (ad 3), .ref (ad 4), .ref (ad 5), .ref (ad 6)]))] sz) U U.heap)) (va_Qi (fun (r : Int32) (_ : Unit) => r = 1) (fun _ _ => True) (va_A [(h0, .inr (13, [.ref (ad 0), .int 0, .int 0, .ref (ad 1), .ref (ad 2), .ref (ad 3), .ref (ad 4), .ref (ad 5), .ref (ad 6)]))] sz)) 1 6 (va_A [(h0, .inr (13, [.ref (ad 0), .int 0, .int 0, .ref (ad 1), .ref (ad 2), .ref (ad 3), .ref (ad 4), .ref (ad 5), .ref (ad 6)]))] sz) := by
  refine va_MetW (hh := [(0, 4, 7, 12)]) (cc := cL_begin) (maxL := 2) (ret := (some .int)) (by decide) rfl ?_
  intro p e s m args below meth c s₁ B hml hv
  obtain ⟨rfl, hsz, hP, hK, hD0, hE⟩ := hv
  have hx := B.exec
  have hb := B.bytes
  have hr := B.returns
  have hts := atoms_spec (ws := vw_k_L_begin) B.pre
  have hown : s.vm.findClass RL = some m.cls := findClass_of_methodNamed B.named
  have hlocks := B.notSynchronized
  subst hsz
  have hD := hD0.self (sz := s.heap.size)
  generalize hAe : va_A [(h0, .inr (13, [.ref (ad 0), .int 0, .int 0, .ref (ad 1), .ref (ad 2), .ref (ad 3), .ref (ad 4), .ref (ad 5), .ref (ad 6)]))] s.heap.size = A at hD hE ⊢
  have hA : ∀ q : Nat, s.heap.size ≤ q → A q := fun q h => by rw [← hAe]; exact Or.inr h
  have hS : va_S A s.heap s.heap [] := va_S.rf
  have hP : va_P (dC, dI) vwCl [(h0, .inr (13, [.ref (ad 0), .int 0, .int 0, .ref (ad 1), .ref (ad 2), .ref (ad 3), .ref (ad 4), .ref (ad 5), .ref (ad 6)]))] s.heap := hP
  have hl := lv_entry ([.ref h0]) (n := 2) (Nat.le_of_ble_eq_true rfl)
  rw [lg_entry_eq]
  generalize (lg_sl ([.ref h0]) ++ List.replicate (2 - (lg_sl ([.ref h0])).length) Slot.unset).toArray = ls at hl ⊢
  have hl : lv_has ls 2 [(0, .ref h0)] := hl
  have htab : c.exceptionTable.toList = tableOf [(0, 4, 7, 12)] := vx_table (x := yL_begin) B (hts _ List.mem_cons_self)
  refine lv_aload_n hx hb dL_begin_0 rfl (lv_at hl 0 rfl) ?_
  have hPc := hP.sub (ws' := [(h0, .inr (13, [.ref (ad 0), .int 0, .int 0, .ref (ad 1), .ref (ad 2), .ref (ad 3), .ref (ad 4), .ref (ad 5), .ref (ad 6)]))]) [0] rfl
  have hDc := hD.sub (ws' := [(h0, .inr (13, [.ref (ad 0), .int 0, .int 0, .ref (ad 1), .ref (ad 2), .ref (ad 3), .ref (ad 4), .ref (ad 5), .ref (ad 6)]))]) [0] (by decide) rfl
  have hKc := hK.sub (tys' := []) [] rfl
  have hFc := va_free (wc := [(h0, .inr (13, [.ref (ad 0), .int 0, .int 0, .ref (ad 1), .ref (ad 2), .ref (ad 3), .ref (ad 4), .ref (ad 5), .ref (ad 6)]))]) hD hS hA [0] rfl
  have hEc := (eE.kept hE hS.2.1).narrow (fun q h => hFc q h)
  refine vx_callv (vx_runV (As := []) (rest := []) ⟨hx, hb, hml, hown, hts⟩ (k_X11_begin l dC dI s.heap.size h0 ad s1 s2 s3 hst) (cwV 0 hts vg_k_L_begin_k_X11_begin rfl rfl rfl (by decide +kernel) ⟨Nat.le_of_ble_eq_true rfl, Nat.le_of_ble_eq_true rfl⟩) ⟨fun a U g mk q => by obtain ⟨q0, q1, qP, qK, qD, qE⟩ := q; exact ⟨q0, q1, qP, va_K.moved (u := U) (U := U.calling g mk a) (Vm.Alike.refl U.vm) qK, qD, eE.same (U := U.calling g mk a) rfl qE⟩, va_recv hKc hPc (ci := 13) (q0 := 0) rfl rfl, fun U hU hW => ⟨rfl, by rw [hU], by rw [hU]; exact hPc, va_K.moved hW.alike hKc, hDc.weaken (fun _ _ _ _ => trivial), by rw [hU]; exact eE.warm hW hEc⟩⟩ rfl rfl hl.1 rfl (lv_room (Nat.le_of_ble_eq_true rfl)) dL_begin_1 ⟨Nat.le_of_ble_eq_true rfl, Nat.le_of_ble_eq_true rfl⟩) hS (fun q _ h => hFc q h) hFc (fun q _ h => hFc q h) (fun E ce q9 u t H1 locs1 ht hvm hw hB hz1 hk1 hS hce hcv hcl => ?_) (fun u t H1 locs1 ht hvm hw hB hz1 hk1 hS => hw.elim)
  obtain ⟨hP, hD⟩ := va_join (wr := []) (w1 := []) hP hD [0] [] rfl rfl (by decide) (by decide) hk1 hFc (fun k q h => by simp at h) ⟨fun i j p q h => by simp at h, fun k q h => by simp at h⟩
  obtain rfl : E = "java/lang/IllegalStateException" := hB
  refine vx_catch (own := RL) (name := "java/lang/IllegalStateException") hown [] ⟨0, 4, 7, 12⟩ [] (by rw [htab]; rfl) (fun z hz => nomatch hz) (by decide) (by decide) (hts (.classLink RL 12 "java/lang/IllegalStateException") (List.mem_of_getElem? (i := 5) (by decide +kernel))) (va_Nw.use rfl hE.2.2.2.2.2.2.1) hce hcv hcl ?_
  refine W.eq (g2 := F0 m 7 ls [.ref q9]) rfl ?_
  generalize H1 = H at hP hS ⊢
  have hP : va_P (dC, dI) vwCl [] H := hP
  have hD : va_D A [] := hD
  refine lv_astore_n (lv' := [(1, .ref q9), (0, .ref h0)]) hx hb dL_begin_7 rfl hl (by decide) rfl (fun ls hl => ?_)
  refine lv_iconst (v := 1) hx hb dL_begin_8 (by decide) ?_
  exact W.iret (v := 1) hx hb hr (fun t ht hW => ⟨⟨1, (), rfl, rfl, trivial⟩, hS.F ht⟩) hS.2.2 dL_begin_9

def vb_k_L_solve : List Cond := .codeWith yL_solve cL_solve 3 (some .int) [(0, 8, 11, 12)] :: ([.methodLink RL 20 yX11_solve, .instanceMethod yX11_solve, .selects RX11 yX11_solve yX11_solve, .initialized RX11, .classLink RL 12 "java/lang/IllegalStateException"] ++ (vb_k_X11_solve ++ []))
def vw_k_L_solve : List Cond := vb_k_L_solve ++ wsAll
set_option maxRecDepth 20000 in
theorem vg_k_L_solve_k_X11_solve : GoodIn vw_k_L_solve (wsV RL 20 RX11 yX11_solve vw_k_X11_solve) := goodIn_app (goodIn_of _ (by decide +kernel)) (goodIn_sub (v_sub (fun w h => List.mem_cons_of_mem _ (List.mem_append_right _ (List.mem_append_left _ (h))))) (by decide +kernel))
set_option maxHeartbeats 8000000 in
set_option maxRecDepth 100000 in
theorem k_L_solve (l : Launch) (dC : Nat → ClassId) (dI : Nat → Nat → Nat) (sz : Nat) (h0 : Nat) (ad : Nat → Nat) (s1 s2 s3 : Nat) (qo : Nat) (co : ClassId) (fo : Nat → Int64) (hst : l.stackTraces = false) : Met l yL_solve vw_k_L_solve ({ frames := 7, cells := 1, slots := 6, locals := 102 }) (va_Pc [.ref h0, .ref qo] (fun U => U.heap.size = sz ∧ va_P (dC, dI) vwCl [(h0, .inr (13, [.ref (ad 0), .int 0, .int 0, .ref (ad 1), .ref (ad 2), .ref (ad 3), .ref (ad 4), .ref (ad 5), .ref (ad 6)])), (qo, .inl (co, 1, .inr (.inl fo)))] U.heap ∧ va_K (dC, dI) vwCl [(co, .long)] U ∧ va_D (fun _ => True) [(h0, .inr (13, [.ref (ad 0), .int 0, .int 0, .ref (ad 1), .ref (ad 2), .ref (ad 3), .ref (ad 4), .ref (ad 5), .ref (ad 6)])), (qo, .inl (co, 1, .inr (.inl fo)))] ∧ eE s1 s2 s3 (va_A [(h0, .inr (13, [.ref (ad 0), .int 0, .int 0, .ref (ad 1), .ref (ad 2), .ref (ad 3), .ref (ad 4), .ref (ad 5), .ref (ad 6)])), (qo, .inl (co, 1, .inr (.inl fo)))] sz) U U.heap)) (va_Qi (fun (r : Int32) (_ : Unit) => r = 1) (fun _ _ => True) (va_A [(h0, .inr (13, [.ref (ad 0), .int 0, .int 0, .ref (ad 1), .ref (ad 2), .ref (ad 3), .ref (ad 4), .ref (ad 5), .ref (ad 6)])), (qo, .inl (co, 1, .inr (.inl fo)))] sz)) 1 6 (va_A [(h0, .inr (13, [.ref (ad 0), .int 0, .int 0, .ref (ad 1), .ref (ad 2), .ref (ad 3), .ref (ad 4), .ref (ad 5), .ref (ad 6)])), (qo, .inl (co, 1, .inr (.inl fo)))] sz) := by
  refine va_MetW (hh := [(0, 8, 11, 12)]) (cc := cL_solve) (maxL := 3) (ret := (some .int)) (by decide) rfl ?_
  intro p e s m args below meth c s₁ B hml hv
  obtain ⟨rfl, hsz, hP, hK, hD0, hE⟩ := hv
  have hx := B.exec
  have hb := B.bytes
  have hr := B.returns
  have hts := atoms_spec (ws := vw_k_L_solve) B.pre
  have hown : s.vm.findClass RL = some m.cls := findClass_of_methodNamed B.named
  have hlocks := B.notSynchronized
  subst hsz
  have hD := hD0.self (sz := s.heap.size)
  generalize hAe : va_A [(h0, .inr (13, [.ref (ad 0), .int 0, .int 0, .ref (ad 1), .ref (ad 2), .ref (ad 3), .ref (ad 4), .ref (ad 5), .ref (ad 6)])), (qo, .inl (co, 1, .inr (.inl fo)))] s.heap.size = A at hD hE ⊢
  have hA : ∀ q : Nat, s.heap.size ≤ q → A q := fun q h => by rw [← hAe]; exact Or.inr h
  have hS : va_S A s.heap s.heap [] := va_S.rf
  have hP : va_P (dC, dI) vwCl [(h0, .inr (13, [.ref (ad 0), .int 0, .int 0, .ref (ad 1), .ref (ad 2), .ref (ad 3), .ref (ad 4), .ref (ad 5), .ref (ad 6)])), (qo, .inl (co, 1, .inr (.inl fo)))] s.heap := hP
  have hl := lv_entry ([.ref h0, .ref qo]) (n := 3) (Nat.le_of_ble_eq_true rfl)
  rw [lg_entry_eq]
  generalize (lg_sl ([.ref h0, .ref qo]) ++ List.replicate (3 - (lg_sl ([.ref h0, .ref qo])).length) Slot.unset).toArray = ls at hl ⊢
  have hl : lv_has ls 3 [(0, .ref h0), (1, .ref qo)] := hl
  have htab : c.exceptionTable.toList = tableOf [(0, 8, 11, 12)] := vx_table (x := yL_solve) B (hts _ List.mem_cons_self)
  refine lv_aload_n hx hb dL_solve_0 rfl (lv_at hl 1 rfl) ?_
  refine lv_iconst (v := 0) hx hb dL_solve_1 (by decide) ?_
  refine lv_aload_n hx hb dL_solve_2 rfl (lv_at hl 0 rfl) ?_
  have hPc := hP.sub (ws' := [(h0, .inr (13, [.ref (ad 0), .int 0, .int 0, .ref (ad 1), .ref (ad 2), .ref (ad 3), .ref (ad 4), .ref (ad 5), .ref (ad 6)]))]) [0] rfl
  have hDc := hD.sub (ws' := [(h0, .inr (13, [.ref (ad 0), .int 0, .int 0, .ref (ad 1), .ref (ad 2), .ref (ad 3), .ref (ad 4), .ref (ad 5), .ref (ad 6)]))]) [0] (by decide) rfl
  have hKc := hK.sub (tys' := []) [] rfl
  have hFc := va_free (wc := [(h0, .inr (13, [.ref (ad 0), .int 0, .int 0, .ref (ad 1), .ref (ad 2), .ref (ad 3), .ref (ad 4), .ref (ad 5), .ref (ad 6)]))]) hD hS hA [0] rfl
  have hEc := (eE.kept hE hS.2.1).narrow (fun q h => hFc q h)
  refine vx_calli (vx_runV (As := []) (rest := [.int 0, .ref qo]) ⟨hx, hb, hml, hown, hts⟩ (k_X11_solve l dC dI s.heap.size h0 ad s1 s2 s3 hst) (cwV 0 hts vg_k_L_solve_k_X11_solve rfl rfl rfl (by decide +kernel) ⟨Nat.le_of_ble_eq_true rfl, Nat.le_of_ble_eq_true rfl⟩) ⟨fun a U g mk q => by obtain ⟨q0, q1, qP, qK, qD, qE⟩ := q; exact ⟨q0, q1, qP, va_K.moved (u := U) (U := U.calling g mk a) (Vm.Alike.refl U.vm) qK, qD, eE.same (U := U.calling g mk a) rfl qE⟩, va_recv hKc hPc (ci := 13) (q0 := 0) rfl rfl, fun U hU hW => ⟨rfl, by rw [hU], by rw [hU]; exact hPc, va_K.moved hW.alike hKc, hDc.weaken (fun _ _ _ _ => trivial), by rw [hU]; exact eE.warm hW hEc⟩⟩ rfl rfl hl.1 rfl (lv_room (Nat.le_of_ble_eq_true rfl)) dL_solve_3 ⟨Nat.le_of_ble_eq_true rfl, Nat.le_of_ble_eq_true rfl⟩) hS (fun q _ h => hFc q h) hFc (fun q _ h => hFc q h) (fun E ce q9 u t H1 locs1 ht hvm hw hB hz1 hk1 hS hce hcv hcl => ?_) (fun r9 u t H1 locs1 ht hvm hw hB hz1 hk1 hS => hw.elim)
  obtain ⟨hP, hD⟩ := va_join (wr := [(qo, .inl (co, 1, .inr (.inl fo)))]) (w1 := []) hP hD [0] [1] rfl rfl (by decide) (by decide) hk1 hFc (fun k q h => by simp at h) ⟨fun i j p q h => by simp at h, fun k q h => by simp at h⟩
  obtain rfl : E = "java/lang/IllegalStateException" := hB
  refine vx_catch (own := RL) (name := "java/lang/IllegalStateException") hown [] ⟨0, 8, 11, 12⟩ [] (by rw [htab]; rfl) (fun z hz => nomatch hz) (by decide) (by decide) (hts (.classLink RL 12 "java/lang/IllegalStateException") (List.mem_of_getElem? (i := 5) (by decide +kernel))) (va_Nw.use rfl hE.2.2.2.2.2.2.1) hce hcv hcl ?_
  refine W.eq (g2 := F0 m 11 ls [.ref q9]) rfl ?_
  generalize H1 = H at hP hS ⊢
  have hP : va_P (dC, dI) vwCl [(qo, .inl (co, 1, .inr (.inl fo)))] H := hP
  have hD : va_D A [(qo, .inl (co, 1, .inr (.inl fo)))] := hD
  refine lv_astore_n (lv' := [(2, .ref q9), (0, .ref h0), (1, .ref qo)]) hx hb dL_solve_11 rfl hl (by decide) rfl (fun ls hl => ?_)
  refine lv_iconst (v := 1) hx hb dL_solve_12 (by decide) ?_
  exact W.iret (v := 1) hx hb hr (fun t ht hW => ⟨⟨1, (), rfl, rfl, trivial⟩, hS.F ht⟩) hS.2.2 dL_solve_13

def vb_k_L_run : List Cond := .codeWith yL_run cL_run 4 (some .int) [(0, 9, 12, 18), (0, 9, 15, 12)] :: ([.methodLink RL 14 yX11_run, .instanceMethod yX11_run, .selects RX11 yX11_run yX11_run, .initialized RX11, .classLink RL 18 "java/lang/IllegalArgumentException", .classLink RL 12 "java/lang/IllegalStateException"] ++ (vb_k_X11_run ++ []))
def vw_k_L_run : List Cond := vb_k_L_run ++ wsAll
set_option maxRecDepth 20000 in
theorem vg_k_L_run_k_X11_run : GoodIn vw_k_L_run (wsV RL 14 RX11 yX11_run vw_k_X11_run) := goodIn_app (goodIn_of _ (by decide +kernel)) (goodIn_sub (v_sub (fun w h => List.mem_cons_of_mem _ (List.mem_append_right _ (List.mem_append_left _ (h))))) (by decide +kernel))
set_option maxHeartbeats 8000000 in
set_option maxRecDepth 100000 in
theorem k_L_run (l : Launch) (dC : Nat → ClassId) (dI : Nat → Nat → Nat) (sz : Nat) (h0 : Nat) (ad : Nat → Nat) (s1 s2 s3 : Nat) (qo : Nat) (co : ClassId) (fo : Nat → Int64) (p0 : Int32) (hst : l.stackTraces = false) : Met l yL_run vw_k_L_run ({ frames := 7, cells := 1, slots := 6, locals := 103 }) (va_Pc [.ref h0, .int p0, .ref qo] (fun U => U.heap.size = sz ∧ va_P (dC, dI) vwCl [(h0, .inr (13, [.ref (ad 0), .int 0, .int 0, .ref (ad 1), .ref (ad 2), .ref (ad 3), .ref (ad 4), .ref (ad 5), .ref (ad 6)])), ((ad 5), .inr (6, [.ref (ad 2), .ref (ad 1), .ref (ad 40), .int 0, .int 0, .ref (ad 41), .int 0, .int 0, .ref (ad 42), .int 0, .ref (ad 43), .int 0, .ref (ad 44), .int 0, .int 0, .int 0])), (qo, .inl (co, 1, .inr (.inl fo)))] U.heap ∧ va_K (dC, dI) vwCl [(co, .long)] U ∧ va_D (fun _ => True) [(h0, .inr (13, [.ref (ad 0), .int 0, .int 0, .ref (ad 1), .ref (ad 2), .ref (ad 3), .ref (ad 4), .ref (ad 5), .ref (ad 6)])), ((ad 5), .inr (6, [.ref (ad 2), .ref (ad 1), .ref (ad 40), .int 0, .int 0, .ref (ad 41), .int 0, .int 0, .ref (ad 42), .int 0, .ref (ad 43), .int 0, .ref (ad 44), .int 0, .int 0, .int 0])), (qo, .inl (co, 1, .inr (.inl fo)))] ∧ fE s1 s2 s3 (va_A [(h0, .inr (13, [.ref (ad 0), .int 0, .int 0, .ref (ad 1), .ref (ad 2), .ref (ad 3), .ref (ad 4), .ref (ad 5), .ref (ad 6)])), ((ad 5), .inr (6, [.ref (ad 2), .ref (ad 1), .ref (ad 40), .int 0, .int 0, .ref (ad 41), .int 0, .int 0, .ref (ad 42), .int 0, .ref (ad 43), .int 0, .ref (ad 44), .int 0, .int 0, .int 0])), (qo, .inl (co, 1, .inr (.inl fo)))] sz) U U.heap)) (va_Qi (fun (r : Int32) (_ : Unit) => r = k_run p0) (fun _ _ => True) (va_A [(h0, .inr (13, [.ref (ad 0), .int 0, .int 0, .ref (ad 1), .ref (ad 2), .ref (ad 3), .ref (ad 4), .ref (ad 5), .ref (ad 6)])), ((ad 5), .inr (6, [.ref (ad 2), .ref (ad 1), .ref (ad 40), .int 0, .int 0, .ref (ad 41), .int 0, .int 0, .ref (ad 42), .int 0, .ref (ad 43), .int 0, .ref (ad 44), .int 0, .int 0, .int 0])), (qo, .inl (co, 1, .inr (.inl fo)))] sz)) 1 6 (va_A [(h0, .inr (13, [.ref (ad 0), .int 0, .int 0, .ref (ad 1), .ref (ad 2), .ref (ad 3), .ref (ad 4), .ref (ad 5), .ref (ad 6)])), ((ad 5), .inr (6, [.ref (ad 2), .ref (ad 1), .ref (ad 40), .int 0, .int 0, .ref (ad 41), .int 0, .int 0, .ref (ad 42), .int 0, .ref (ad 43), .int 0, .ref (ad 44), .int 0, .int 0, .int 0])), (qo, .inl (co, 1, .inr (.inl fo)))] sz) := by
  refine va_MetW (hh := [(0, 9, 12, 18), (0, 9, 15, 12)]) (cc := cL_run) (maxL := 4) (ret := (some .int)) (by decide) rfl ?_
  intro p e s m args below meth c s₁ B hml hv
  obtain ⟨rfl, hsz, hP, hK, hD0, hE⟩ := hv
  have hx := B.exec
  have hb := B.bytes
  have hr := B.returns
  have hts := atoms_spec (ws := vw_k_L_run) B.pre
  have hown : s.vm.findClass RL = some m.cls := findClass_of_methodNamed B.named
  have hlocks := B.notSynchronized
  subst hsz
  have hD := hD0.self (sz := s.heap.size)
  generalize hAe : va_A [(h0, .inr (13, [.ref (ad 0), .int 0, .int 0, .ref (ad 1), .ref (ad 2), .ref (ad 3), .ref (ad 4), .ref (ad 5), .ref (ad 6)])), ((ad 5), .inr (6, [.ref (ad 2), .ref (ad 1), .ref (ad 40), .int 0, .int 0, .ref (ad 41), .int 0, .int 0, .ref (ad 42), .int 0, .ref (ad 43), .int 0, .ref (ad 44), .int 0, .int 0, .int 0])), (qo, .inl (co, 1, .inr (.inl fo)))] s.heap.size = A at hD hE ⊢
  have hA : ∀ q : Nat, s.heap.size ≤ q → A q := fun q h => by rw [← hAe]; exact Or.inr h
  have hS : va_S A s.heap s.heap [] := va_S.rf
  have hP : va_P (dC, dI) vwCl [(h0, .inr (13, [.ref (ad 0), .int 0, .int 0, .ref (ad 1), .ref (ad 2), .ref (ad 3), .ref (ad 4), .ref (ad 5), .ref (ad 6)])), ((ad 5), .inr (6, [.ref (ad 2), .ref (ad 1), .ref (ad 40), .int 0, .int 0, .ref (ad 41), .int 0, .int 0, .ref (ad 42), .int 0, .ref (ad 43), .int 0, .ref (ad 44), .int 0, .int 0, .int 0])), (qo, .inl (co, 1, .inr (.inl fo)))] s.heap := hP
  have hl := lv_entry ([.ref h0, .int p0, .ref qo]) (n := 4) (Nat.le_of_ble_eq_true rfl)
  rw [lg_entry_eq]
  generalize (lg_sl ([.ref h0, .int p0, .ref qo]) ++ List.replicate (4 - (lg_sl ([.ref h0, .int p0, .ref qo])).length) Slot.unset).toArray = ls at hl ⊢
  have hl : lv_has ls 4 [(0, .ref h0), (1, .int p0), (2, .ref qo)] := hl
  have htab : c.exceptionTable.toList = tableOf [(0, 9, 12, 18), (0, 9, 15, 12)] := vx_table (x := yL_run) B (hts _ List.mem_cons_self)
  refine lv_aload_n hx hb dL_run_0 rfl (lv_at hl 2 rfl) ?_
  refine lv_iconst (v := 0) hx hb dL_run_1 (by decide) ?_
  refine lv_aload_n hx hb dL_run_2 rfl (lv_at hl 0 rfl) ?_
  refine lv_iload_n hx hb dL_run_3 rfl (lv_at hl 1 rfl) ?_
  have hPc := hP.sub (ws' := [(h0, .inr (13, [.ref (ad 0), .int 0, .int 0, .ref (ad 1), .ref (ad 2), .ref (ad 3), .ref (ad 4), .ref (ad 5), .ref (ad 6)])), ((ad 5), .inr (6, [.ref (ad 2), .ref (ad 1), .ref (ad 40), .int 0, .int 0, .ref (ad 41), .int 0, .int 0, .ref (ad 42), .int 0, .ref (ad 43), .int 0, .ref (ad 44), .int 0, .int 0, .int 0]))]) [0, 1] rfl
  have hDc := hD.sub (ws' := [(h0, .inr (13, [.ref (ad 0), .int 0, .int 0, .ref (ad 1), .ref (ad 2), .ref (ad 3), .ref (ad 4), .ref (ad 5), .ref (ad 6)])), ((ad 5), .inr (6, [.ref (ad 2), .ref (ad 1), .ref (ad 40), .int 0, .int 0, .ref (ad 41), .int 0, .int 0, .ref (ad 42), .int 0, .ref (ad 43), .int 0, .ref (ad 44), .int 0, .int 0, .int 0]))]) [0, 1] (by decide) rfl
  have hKc := hK.sub (tys' := []) [] rfl
  have hFc := va_free (wc := [(h0, .inr (13, [.ref (ad 0), .int 0, .int 0, .ref (ad 1), .ref (ad 2), .ref (ad 3), .ref (ad 4), .ref (ad 5), .ref (ad 6)])), ((ad 5), .inr (6, [.ref (ad 2), .ref (ad 1), .ref (ad 40), .int 0, .int 0, .ref (ad 41), .int 0, .int 0, .ref (ad 42), .int 0, .ref (ad 43), .int 0, .ref (ad 44), .int 0, .int 0, .int 0]))]) hD hS hA [0, 1] rfl
  have hEc := (eE.kept hE.1 hS.2.1).narrow (fun q h => hFc q h)
  refine vx_calli (vx_runV (As := [.int p0]) (rest := [.int 0, .ref qo]) ⟨hx, hb, hml, hown, hts⟩ (k_X11_run l dC dI s.heap.size h0 ad s1 s2 s3 p0 hst) (cwV 1 hts vg_k_L_run_k_X11_run rfl rfl rfl (by decide +kernel) ⟨Nat.le_of_ble_eq_true rfl, Nat.le_of_ble_eq_true rfl⟩) ⟨fun a U g mk q => by obtain ⟨q0, q1, qP, qK, qD, qE⟩ := q; exact ⟨q0, q1, qP, va_K.moved (u := U) (U := U.calling g mk a) (Vm.Alike.refl U.vm) qK, qD, eE.same (U := U.calling g mk a) rfl qE⟩, va_recv hKc hPc (ci := 13) (q0 := 0) rfl rfl, fun U hU hW => ⟨rfl, by rw [hU], by rw [hU]; exact hPc, va_K.moved hW.alike hKc, hDc.weaken (fun _ _ _ _ => trivial), by rw [hU]; exact eE.warm hW hEc⟩⟩ rfl rfl hl.1 rfl (lv_room (Nat.le_of_ble_eq_true rfl)) dL_run_4 ⟨Nat.le_of_ble_eq_true rfl, Nat.le_of_ble_eq_true rfl⟩) hS (fun q _ h => hFc q h) hFc (fun q _ h => hFc q h) (fun E ce q9 u t H1 locs1 ht hvm hw hB hz1 hk1 hS hce hcv hcl => ?_) (fun r9 u t H1 locs1 ht hvm hw hB hz1 hk1 hS => hw.elim)
  obtain ⟨hP, hD⟩ := va_join (wr := [(qo, .inl (co, 1, .inr (.inl fo)))]) (w1 := []) hP hD [0, 1] [2] rfl rfl (by decide) (by decide) hk1 hFc (fun k q h => by simp at h) ⟨fun i j p q h => by simp at h, fun k q h => by simp at h⟩
  rcases hB with ⟨hE1, hr9⟩ | ⟨hE1, hr9⟩
  · skip
    obtain rfl : E = "java/lang/IllegalArgumentException" := hE1
    refine vx_catch (own := RL) (name := "java/lang/IllegalArgumentException") hown [] ⟨0, 9, 12, 18⟩ [⟨0, 9, 15, 12⟩] (by rw [htab]; rfl) (fun z hz => nomatch hz) (by decide) (by decide) (hts (.classLink RL 18 "java/lang/IllegalArgumentException") (List.mem_of_getElem? (i := 5) (by decide +kernel))) (va_Nw.use rfl hE.1.2.2.2.2.2.1) hce hcv hcl ?_
    refine W.eq (g2 := F0 m 12 ls [.ref q9]) rfl ?_
    generalize H1 = H at hP hS ⊢
    have hP : va_P (dC, dI) vwCl [(qo, .inl (co, 1, .inr (.inl fo)))] H := hP
    have hD : va_D A [(qo, .inl (co, 1, .inr (.inl fo)))] := hD
    refine lv_astore_n (lv' := [(3, .ref q9), (0, .ref h0), (1, .int p0), (2, .ref qo)]) hx hb dL_run_12 rfl hl (by decide) rfl (fun ls hl => ?_)
    refine lv_iconst (v := 1) hx hb dL_run_13 (by decide) ?_
    exact W.iret (v := 1) hx hb hr (fun t ht hW => ⟨⟨1, (), rfl, hr9.symm, trivial⟩, hS.F ht⟩) hS.2.2 dL_run_14
  · skip
    obtain rfl : E = "java/lang/IllegalStateException" := hE1
    refine vx_catch (own := RL) (name := "java/lang/IllegalStateException") hown [⟨0, 9, 12, 18⟩] ⟨0, 9, 15, 12⟩ [] (by rw [htab]; rfl) (fun z hz => by
        rw [List.mem_singleton] at hz
        subst hz
        exact Or.inr ⟨by decide, "java/lang/IllegalArgumentException", hts (.classLink RL 18 "java/lang/IllegalArgumentException") (List.mem_of_getElem? (i := 5) (by decide +kernel)), hE.2⟩) (by decide) (by decide) (hts (.classLink RL 12 "java/lang/IllegalStateException") (List.mem_of_getElem? (i := 6) (by decide +kernel))) (va_Nw.use rfl hE.1.2.2.2.2.2.2.1) hce hcv hcl ?_
    refine W.eq (g2 := F0 m 15 ls [.ref q9]) rfl ?_
    generalize H1 = H at hP hS ⊢
    have hP : va_P (dC, dI) vwCl [(qo, .inl (co, 1, .inr (.inl fo)))] H := hP
    have hD : va_D A [(qo, .inl (co, 1, .inr (.inl fo)))] := hD
    refine lv_astore_n (lv' := [(3, .ref q9), (0, .ref h0), (1, .int p0), (2, .ref qo)]) hx hb dL_run_15 rfl hl (by decide) rfl (fun ls hl => ?_)
    refine lv_iconst (v := 2) hx hb dL_run_16 (by decide) ?_
    exact W.iret (v := 2) hx hb hr (fun t ht hW => ⟨⟨2, (), rfl, hr9.symm, trivial⟩, hS.F ht⟩) hS.2.2 dL_run_17
