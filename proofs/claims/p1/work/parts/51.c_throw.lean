theorem dX4_goesOn_0 : decode cX4_goesOn 0 = .ok (.aload_n 0, 1) := by decide +kernel
theorem dX4_goesOn_1 : decode cX4_goesOn 1 = .ok (.getfield 40, 3) := by decide +kernel
theorem dX4_goesOn_4 : decode cX4_goesOn 4 = .ok (.iconst 1, 1) := by decide +kernel
theorem dX4_goesOn_5 : decode cX4_goesOn 5 = .ok (.if_icmp .ne 7, 3) := by decide +kernel
theorem dX4_goesOn_8 : decode cX4_goesOn 8 = .ok (.iconst 1, 1) := by decide +kernel
theorem dX4_goesOn_9 : decode cX4_goesOn 9 = .ok (.goto 4, 3) := by decide +kernel
theorem dX4_goesOn_12 : decode cX4_goesOn 12 = .ok (.iconst 0, 1) := by decide +kernel
theorem dX4_goesOn_13 : decode cX4_goesOn 13 = .ok (.ireturn, 1) := by decide +kernel
theorem dX11_begin_0 : decode cX11_begin 0 = .ok (.aload_n 0, 1) := by decide +kernel
theorem dX11_begin_1 : decode cX11_begin 1 = .ok (.getfield 65, 3) := by decide +kernel
theorem dX11_begin_4 : decode cX11_begin 4 = .ok (.ifCond .ne 13, 3) := by decide +kernel
theorem dX11_begin_7 : decode cX11_begin 7 = .ok (.new 116, 3) := by decide +kernel
theorem dX11_begin_10 : decode cX11_begin 10 = .ok (.dup, 1) := by decide +kernel
theorem dX11_begin_11 : decode cX11_begin 11 = .ok (.ldc 118, 2) := by decide +kernel
theorem dX11_begin_13 : decode cX11_begin 13 = .ok (.invokespecial 120, 3) := by decide +kernel
theorem dX11_begin_16 : decode cX11_begin 16 = .ok (.athrow, 1) := by decide +kernel
theorem dX11_begin_17 : decode cX11_begin 17 = .ok (.aload_n 0, 1) := by decide +kernel
theorem dX11_begin_18 : decode cX11_begin 18 = .ok (.getfield 50, 3) := by decide +kernel
theorem dX11_begin_21 : decode cX11_begin 21 = .ok (.invokevirtual 123, 3) := by decide +kernel
theorem dX11_begin_24 : decode cX11_begin 24 = .ok (.return_, 1) := by decide +kernel
theorem dX11_run_0 : decode cX11_run 0 = .ok (.iload_n 1, 1) := by decide +kernel
theorem dX11_run_1 : decode cX11_run 1 = .ok (.ifCond .lt 10, 3) := by decide +kernel
theorem dX11_run_4 : decode cX11_run 4 = .ok (.iload_n 1, 1) := by decide +kernel
theorem dX11_run_5 : decode cX11_run 5 = .ok (.sipush 2000, 3) := by decide +kernel
theorem dX11_run_8 : decode cX11_run 8 = .ok (.if_icmp .le 13, 3) := by decide +kernel
theorem dX11_run_11 : decode cX11_run 11 = .ok (.new 126, 3) := by decide +kernel
theorem dX11_run_14 : decode cX11_run 14 = .ok (.dup, 1) := by decide +kernel
theorem dX11_run_15 : decode cX11_run 15 = .ok (.ldc 128, 2) := by decide +kernel
theorem dX11_run_17 : decode cX11_run 17 = .ok (.invokespecial 130, 3) := by decide +kernel
theorem dX11_run_20 : decode cX11_run 20 = .ok (.athrow, 1) := by decide +kernel
theorem dX11_run_21 : decode cX11_run 21 = .ok (.aload_n 0, 1) := by decide +kernel
theorem dX11_run_22 : decode cX11_run 22 = .ok (.getfield 50, 3) := by decide +kernel
theorem dX11_run_25 : decode cX11_run 25 = .ok (.invokevirtual 131, 3) := by decide +kernel
theorem dX11_run_28 : decode cX11_run 28 = .ok (.ifCond .ne 13, 3) := by decide +kernel
theorem dX11_run_31 : decode cX11_run 31 = .ok (.new 116, 3) := by decide +kernel
theorem dX11_run_34 : decode cX11_run 34 = .ok (.dup, 1) := by decide +kernel
theorem dX11_run_35 : decode cX11_run 35 = .ok (.ldc 135, 2) := by decide +kernel
theorem dX11_run_37 : decode cX11_run 37 = .ok (.invokespecial 120, 3) := by decide +kernel
theorem dX11_run_40 : decode cX11_run 40 = .ok (.athrow, 1) := by decide +kernel
theorem dX11_run_41 : decode cX11_run 41 = .ok (.aload_n 0, 1) := by decide +kernel
theorem dX11_run_42 : decode cX11_run 42 = .ok (.getfield 50, 3) := by decide +kernel
theorem dX11_run_45 : decode cX11_run 45 = .ok (.iload_n 1, 1) := by decide +kernel
theorem dX11_run_46 : decode cX11_run 46 = .ok (.invokevirtual 137, 3) := by decide +kernel
theorem dX11_run_49 : decode cX11_run 49 = .ok (.ireturn, 1) := by decide +kernel
theorem dX11_solve_0 : decode cX11_solve 0 = .ok (.aload_n 0, 1) := by decide +kernel
theorem dX11_solve_1 : decode cX11_solve 1 = .ok (.getfield 65, 3) := by decide +kernel
theorem dX11_solve_4 : decode cX11_solve 4 = .ok (.ifCond .ne 13, 3) := by decide +kernel
theorem dX11_solve_7 : decode cX11_solve 7 = .ok (.new 116, 3) := by decide +kernel
theorem dX11_solve_10 : decode cX11_solve 10 = .ok (.dup, 1) := by decide +kernel
theorem dX11_solve_11 : decode cX11_solve 11 = .ok (.ldc 118, 2) := by decide +kernel
theorem dX11_solve_13 : decode cX11_solve 13 = .ok (.invokespecial 120, 3) := by decide +kernel
theorem dX11_solve_16 : decode cX11_solve 16 = .ok (.athrow, 1) := by decide +kernel
theorem dX11_solve_17 : decode cX11_solve 17 = .ok (.aload_n 0, 1) := by decide +kernel
theorem dX11_solve_18 : decode cX11_solve 18 = .ok (.getfield 57, 3) := by decide +kernel
theorem dX11_solve_21 : decode cX11_solve 21 = .ok (.getfield 159, 3) := by decide +kernel
theorem dX11_solve_24 : decode cX11_solve 24 = .ok (.ifCond .ne 10, 3) := by decide +kernel
theorem dX11_solve_27 : decode cX11_solve 27 = .ok (.aload_n 0, 1) := by decide +kernel
theorem dX11_solve_28 : decode cX11_solve 28 = .ok (.getfield 57, 3) := by decide +kernel
theorem dX11_solve_31 : decode cX11_solve 31 = .ok (.invokevirtual 162, 3) := by decide +kernel
theorem dX11_solve_34 : decode cX11_solve 34 = .ok (.aload_n 0, 1) := by decide +kernel
theorem dX11_solve_35 : decode cX11_solve 35 = .ok (.getfield 57, 3) := by decide +kernel
theorem dX11_solve_38 : decode cX11_solve 38 = .ok (.invokevirtual 96, 3) := by decide +kernel
theorem dX11_solve_41 : decode cX11_solve 41 = .ok (.ireturn, 1) := by decide +kernel
/-- what the class's throws read of the start -/
def eE (s1 s2 s3 : Nat) (A : Nat → Prop) (U : State) (H : Heap) : Prop := vx_Zq Bundle.tN "UNASSIGNED_STACK" Bundle.steD A U H ∧ vx_Zq Bundle.tN "SUPPRESSED_SENTINEL" Bundle.listD A U H ∧ va_Nw (.declares (Bundle.initS "java/lang/RuntimeException")) U ∧ va_Nw (.declares (Bundle.initS "java/lang/Exception")) U ∧ va_Nw (.declares (Bundle.initS "java/lang/Throwable")) U ∧ va_Nw (.castable "java/lang/IllegalArgumentException" "java/lang/IllegalArgumentException") U ∧ va_Nw (.castable "java/lang/IllegalStateException" "java/lang/IllegalStateException") U ∧ vk_R RX11 118 "there is no script" s1 U ∧ vk_R RX11 128 "steps are 0 to 2000" s2 U ∧ vk_R RX11 135 "the machine does not go on" s3 U
theorem eE.kept {s1 s2 s3 : Nat} {A : Nat → Prop} {U : State} {H H1 : Heap} (h : eE s1 s2 s3 A U H) (hq : ∀ a : Nat, a < H.size → ¬ A a → H1[a]? = H[a]?) : eE s1 s2 s3 A U H1 := ⟨h.1.kept hq, h.2.1.kept hq, h.2.2.1, h.2.2.2.1, h.2.2.2.2.1, h.2.2.2.2.2.1, h.2.2.2.2.2.2.1, h.2.2.2.2.2.2.2.1, h.2.2.2.2.2.2.2.2.1, h.2.2.2.2.2.2.2.2.2⟩
theorem eE.narrow {s1 s2 s3 : Nat} {A B : Nat → Prop} {U : State} {H : Heap} (h : eE s1 s2 s3 A U H) (hAB : ∀ q, B q → A q) : eE s1 s2 s3 B U H := ⟨h.1.narrow hAB, h.2.1.narrow hAB, h.2.2.1, h.2.2.2.1, h.2.2.2.2.1, h.2.2.2.2.2.1, h.2.2.2.2.2.2.1, h.2.2.2.2.2.2.2.1, h.2.2.2.2.2.2.2.2.1, h.2.2.2.2.2.2.2.2.2⟩
theorem eE.same {s1 s2 s3 : Nat} {A : Nat → Prop} {u U : State} {H : Heap} (hv : U.vm = u.vm) (h : eE s1 s2 s3 A u H) : eE s1 s2 s3 A U H := ⟨vx_Zq.moved (by rw [hv]; exact Vm.Alike.refl u.vm) h.1, vx_Zq.moved (by rw [hv]; exact Vm.Alike.refl u.vm) h.2.1, va_Nw.same rfl hv.symm h.2.2.1, va_Nw.same rfl hv.symm h.2.2.2.1, va_Nw.same rfl hv.symm h.2.2.2.2.1, va_Nw.same rfl hv.symm h.2.2.2.2.2.1, va_Nw.same rfl hv.symm h.2.2.2.2.2.2.1, vk_R.same hv h.2.2.2.2.2.2.2.1, vk_R.same hv h.2.2.2.2.2.2.2.2.1, vk_R.same hv h.2.2.2.2.2.2.2.2.2⟩
theorem eE.warm {s1 s2 s3 : Nat} {A : Nat → Prop} {s U : State} {H : Heap} (hW : s.WarmedH U.vm) (h : eE s1 s2 s3 A s H) : eE s1 s2 s3 A U H := ⟨vx_Zq.moved hW.alike h.1, vx_Zq.moved hW.alike h.2.1, va_Nw.warmD hW h.2.2.1, va_Nw.warmD hW h.2.2.2.1, va_Nw.warmD hW h.2.2.2.2.1, va_Nw.warmC hW h.2.2.2.2.2.1, va_Nw.warmC hW h.2.2.2.2.2.2.1, vk_R.warm hW h.2.2.2.2.2.2.2.1, vk_R.warm hW h.2.2.2.2.2.2.2.2.1, vk_R.warm hW h.2.2.2.2.2.2.2.2.2⟩
/-- the good words of a throw of IllegalArgumentException -/
def vt_IAE : List Cond := (vx_atS RX11 130 "java/lang/IllegalArgumentException" ["java/lang/RuntimeException", "java/lang/Exception"]).filter goodWord
def vt_IAEB : List Cond := [.declares (Bundle.initS "java/lang/RuntimeException"), .declares (Bundle.initS "java/lang/Exception"), .declares (Bundle.initS "java/lang/Throwable"), .castable "java/lang/IllegalArgumentException" "java/lang/IllegalArgumentException"]
set_option maxRecDepth 20000 in
theorem vt_IAE_b : ∀ w ∈ (vx_atS RX11 130 "java/lang/IllegalArgumentException" ["java/lang/RuntimeException", "java/lang/Exception"]).filter (fun w => !goodWord w), w ∈ vt_IAEB := by decide +kernel
set_option maxRecDepth 20000 in
theorem vt_IAE_ot : ∀ w ∈ Cond.classLink RX11 126 "java/lang/IllegalArgumentException" :: Cond.initialized "java/lang/IllegalArgumentException" :: (vx_atS RX11 130 "java/lang/IllegalArgumentException" ["java/lang/RuntimeException", "java/lang/Exception"]), vx_ot w = true := by decide +kernel
/-- the good words of a throw of IllegalStateException -/
def vt_ISE : List Cond := (vx_atS RX11 120 "java/lang/IllegalStateException" ["java/lang/RuntimeException", "java/lang/Exception"]).filter goodWord
def vt_ISEB : List Cond := [.declares (Bundle.initS "java/lang/RuntimeException"), .declares (Bundle.initS "java/lang/Exception"), .declares (Bundle.initS "java/lang/Throwable"), .castable "java/lang/IllegalStateException" "java/lang/IllegalStateException"]
set_option maxRecDepth 20000 in
theorem vt_ISE_b : ∀ w ∈ (vx_atS RX11 120 "java/lang/IllegalStateException" ["java/lang/RuntimeException", "java/lang/Exception"]).filter (fun w => !goodWord w), w ∈ vt_ISEB := by decide +kernel
set_option maxRecDepth 20000 in
theorem vt_ISE_ot : ∀ w ∈ Cond.classLink RX11 116 "java/lang/IllegalStateException" :: Cond.initialized "java/lang/IllegalStateException" :: (vx_atS RX11 120 "java/lang/IllegalStateException" ["java/lang/RuntimeException", "java/lang/Exception"]), vx_ot w = true := by decide +kernel
theorem k_run_1 {n : Int32} (h : n < 0) : k_run n = 1 := by
  have h1 : k_in n 0 2000 = 0 := by simp [k_in, h]
  rw [k_run, if_pos h1]
theorem k_run_2 {n : Int32} (h0 : ¬ n < 0) (h : ¬ n ≤ 2000) : k_run n = 1 := by
  have h1 : k_in n 0 2000 = 0 := by simp [k_in, h0, Int32.not_le.mp h]
  rw [k_run, if_pos h1]
theorem k_run_3 {n : Int32} (h0 : ¬ n < 0) (h : n ≤ 2000) : k_run n = 2 := by
  have h1 : ¬ k_in n 0 2000 = 0 := by simp [k_in, h0, Int32.not_lt.mpr h]
  rw [k_run, if_neg h1]
def vb_k_X11_begin : List Cond := .code yX11_begin cX11_begin 1 none :: ([.fieldLink RX11 65 "ScriptTypes" "hasScript" "Z", .classLink RX11 116 "java/lang/IllegalStateException", .initialized "java/lang/IllegalStateException"] ++ (vt_ISE ++ []))
def vw_k_X11_begin : List Cond := vb_k_X11_begin ++ wsAll
set_option maxHeartbeats 8000000 in
set_option maxRecDepth 100000 in
theorem k_X11_begin (l : Launch) (dC : Nat → ClassId) (dI : Nat → Nat → Nat) (sz : Nat) (h0 : Nat) (ad : Nat → Nat) (s1 s2 s3 : Nat) (hst : l.stackTraces = false) : vx_Met l yX11_begin vw_k_X11_begin ({ frames := 6, cells := 1, slots := 6, locals := 82 }) (va_Pc [.ref h0] (fun U => U.heap.size = sz ∧ va_P (dC, dI) vwCl [(h0, .inr (13, [.ref (ad 0), .int 0, .int 0, .ref (ad 1), .ref (ad 2), .ref (ad 3), .ref (ad 4), .ref (ad 5), .ref (ad 6)]))] U.heap ∧ va_K (dC, dI) vwCl [] U ∧ va_D (fun _ => True) [(h0, .inr (13, [.ref (ad 0), .int 0, .int 0, .ref (ad 1), .ref (ad 2), .ref (ad 3), .ref (ad 4), .ref (ad 5), .ref (ad 6)]))] ∧ eE s1 s2 s3 (va_A [(h0, .inr (13, [.ref (ad 0), .int 0, .int 0, .ref (ad 1), .ref (ad 2), .ref (ad 3), .ref (ad 4), .ref (ad 5), .ref (ad 6)]))] sz) U U.heap)) (va_Qv (fun _ : Unit => False) (fun _ _ => True) (va_A [(h0, .inr (13, [.ref (ad 0), .int 0, .int 0, .ref (ad 1), .ref (ad 2), .ref (ad 3), .ref (ad 4), .ref (ad 5), .ref (ad 6)]))] sz)) (vx_X (fun _ : Unit => True) (fun E (_ : Unit) _ => E = "java/lang/IllegalStateException") (va_A [(h0, .inr (13, [.ref (ad 0), .int 0, .int 0, .ref (ad 1), .ref (ad 2), .ref (ad 3), .ref (ad 4), .ref (ad 5), .ref (ad 6)]))] sz)) 1 6 (va_A [(h0, .inr (13, [.ref (ad 0), .int 0, .int 0, .ref (ad 1), .ref (ad 2), .ref (ad 3), .ref (ad 4), .ref (ad 5), .ref (ad 6)]))] sz) := by
  refine vx_ofW (cc := cX11_begin) (maxL := 1) (ret := none) (by decide) rfl ?_
  intro p e s m args below meth c s₁ B hml ht0 hv
  obtain ⟨rfl, hsz, hP, hK, hD0, hE⟩ := hv
  have hx := B.exec
  have hb := B.bytes
  have hr := B.returns
  have hts := atoms_spec (ws := vw_k_X11_begin) B.pre
  have hown : s.vm.findClass RX11 = some m.cls := findClass_of_methodNamed B.named
  have hlocks := B.notSynchronized
  subst hsz
  have hD := hD0.self (sz := s.heap.size)
  generalize hAe : va_A [(h0, .inr (13, [.ref (ad 0), .int 0, .int 0, .ref (ad 1), .ref (ad 2), .ref (ad 3), .ref (ad 4), .ref (ad 5), .ref (ad 6)]))] s.heap.size = A at hD hE ⊢
  have hA : ∀ q : Nat, s.heap.size ≤ q → A q := fun q h => by rw [← hAe]; exact Or.inr h
  have hS : va_S A s.heap s.heap [] := va_S.rf
  have hP : va_P (dC, dI) vwCl [(h0, .inr (13, [.ref (ad 0), .int 0, .int 0, .ref (ad 1), .ref (ad 2), .ref (ad 3), .ref (ad 4), .ref (ad 5), .ref (ad 6)]))] s.heap := hP
  have hl := lv_entry ([.ref h0]) (n := 1) (Nat.le_of_ble_eq_true rfl)
  rw [lg_entry_eq]
  generalize (lg_sl ([.ref h0]) ++ List.replicate (1 - (lg_sl ([.ref h0])).length) Slot.unset).toArray = ls at hl ⊢
  have hl : lv_has ls 1 [(0, .ref h0)] := hl
  have hwX11 : ∀ w ∈ wsX110, w ∈ vw_k_X11_begin := (fun w h => List.mem_append_right _ (List.mem_append_right _ (List.mem_append_right _ (List.mem_append_right _ (List.mem_append_right _ (List.mem_append_right _ (List.mem_append_right _ (List.mem_append_right _ (List.mem_append_right _ (List.mem_append_right _ (List.mem_append_right _ (List.mem_append_right _ h))))))))))))
  refine lv_aload_n hx hb dX11_begin_0 rfl (lv_at hl 0 rfl) ?_
  refine va_get (D := (dC, dI)) (ci := 13) (v := .int 0) (C := RX11) (T := TX11) (N := 9) hx hb hts hwX11 hown hK hP 0 rfl rfl 2 (Nat.le_of_ble_eq_true rfl) (hts (.fieldLink RX11 65 "ScriptTypes" "hasScript" "Z") (List.mem_of_getElem? (i := 1) (by decide +kernel))) (fun _ h9 => h9) rfl dX11_begin_1 ?_
  refine lv_if_ne (tgt := 17) hx hb dX11_begin_4 (by decide) (fun c1_4 => absurd (by decide) c1_4) (fun _ => ?_)
  have hat : ∀ w ∈ vx_atS RX11 120 "java/lang/IllegalStateException" ["java/lang/RuntimeException", "java/lang/Exception"], w.before ([.ref h0] : List Value).toArray s = true := vx_hat (B := vt_ISEB) (fun w hw => hts w (List.mem_append_left _ (List.mem_cons_of_mem _ (List.mem_append_right _ (List.mem_append_left _ (hw)))))) vt_ISE_b (vx_c (va_Nw.use (A := ([.ref h0] : List Value).toArray) rfl hE.2.2.1) (vx_c (va_Nw.use (A := ([.ref h0] : List Value).toArray) rfl hE.2.2.2.1) (vx_c (va_Nw.use (A := ([.ref h0] : List Value).toArray) rfl hE.2.2.2.2.1) (vx_c (va_Nw.use (A := ([.ref h0] : List Value).toArray) rfl hE.2.2.2.2.2.2.1) vx_n))))
  exact vx_throwS (own := RX11) (cls := "java/lang/IllegalStateException") (text := "there is no script") (names := ["java/lang/RuntimeException", "java/lang/Exception"]) (ik := 116) (is := 118) (ic := 120) (sa := s1) (A := A) hx hb hst hown (by decide +kernel) (by decide +kernel) (hts (.classLink RX11 116 "java/lang/IllegalStateException") (List.mem_of_getElem? (i := 2) (by decide +kernel))) (hts (.initialized "java/lang/IllegalStateException") (List.mem_of_getElem? (i := 3) (by decide +kernel))) hE.2.2.2.2.2.2.2.1 hat vt_ISE_ot hE.1 hE.2.1 hS (hl.1.trans hml.symm) dX11_begin_7 dX11_begin_10 dX11_begin_11 dX11_begin_13 dX11_begin_16 (fun x hx => (ht0 x hx).elim) (Nat.le_of_ble_eq_true rfl) (Nat.le_of_ble_eq_true rfl) (Nat.le_of_ble_eq_true rfl) (Nat.le_of_ble_eq_true rfl) hlocks (fun t ha hz hk => ⟨(), trivial, rfl, Nat.le_trans hS.1 hz, fun q h1 h2 => (hk q (Nat.lt_of_lt_of_le h1 hS.1)).trans (hS.2.1 q h1 h2)⟩) hS.2.2 (Nat.le_of_ble_eq_true rfl) (Nat.le_of_ble_eq_true rfl)

def vb_k_X11_solve : List Cond := .code yX11_solve cX11_solve 1 (some .int) :: ([.fieldLink RX11 65 "ScriptTypes" "hasScript" "Z", .classLink RX11 116 "java/lang/IllegalStateException", .initialized "java/lang/IllegalStateException"] ++ (vt_ISE ++ []))
def vw_k_X11_solve : List Cond := vb_k_X11_solve ++ wsAll
set_option maxHeartbeats 8000000 in
set_option maxRecDepth 100000 in
theorem k_X11_solve (l : Launch) (dC : Nat → ClassId) (dI : Nat → Nat → Nat) (sz : Nat) (h0 : Nat) (ad : Nat → Nat) (s1 s2 s3 : Nat) (hst : l.stackTraces = false) : vx_Met l yX11_solve vw_k_X11_solve ({ frames := 6, cells := 1, slots := 6, locals := 82 }) (va_Pc [.ref h0] (fun U => U.heap.size = sz ∧ va_P (dC, dI) vwCl [(h0, .inr (13, [.ref (ad 0), .int 0, .int 0, .ref (ad 1), .ref (ad 2), .ref (ad 3), .ref (ad 4), .ref (ad 5), .ref (ad 6)]))] U.heap ∧ va_K (dC, dI) vwCl [] U ∧ va_D (fun _ => True) [(h0, .inr (13, [.ref (ad 0), .int 0, .int 0, .ref (ad 1), .ref (ad 2), .ref (ad 3), .ref (ad 4), .ref (ad 5), .ref (ad 6)]))] ∧ eE s1 s2 s3 (va_A [(h0, .inr (13, [.ref (ad 0), .int 0, .int 0, .ref (ad 1), .ref (ad 2), .ref (ad 3), .ref (ad 4), .ref (ad 5), .ref (ad 6)]))] sz) U U.heap)) (va_Qi (fun (_ : Int32) (_ : Unit) => False) (fun _ _ => True) (va_A [(h0, .inr (13, [.ref (ad 0), .int 0, .int 0, .ref (ad 1), .ref (ad 2), .ref (ad 3), .ref (ad 4), .ref (ad 5), .ref (ad 6)]))] sz)) (vx_X (fun _ : Unit => True) (fun E (_ : Unit) _ => E = "java/lang/IllegalStateException") (va_A [(h0, .inr (13, [.ref (ad 0), .int 0, .int 0, .ref (ad 1), .ref (ad 2), .ref (ad 3), .ref (ad 4), .ref (ad 5), .ref (ad 6)]))] sz)) 1 6 (va_A [(h0, .inr (13, [.ref (ad 0), .int 0, .int 0, .ref (ad 1), .ref (ad 2), .ref (ad 3), .ref (ad 4), .ref (ad 5), .ref (ad 6)]))] sz) := by
  refine vx_ofW (cc := cX11_solve) (maxL := 1) (ret := (some .int)) (by decide) rfl ?_
  intro p e s m args below meth c s₁ B hml ht0 hv
  obtain ⟨rfl, hsz, hP, hK, hD0, hE⟩ := hv
  have hx := B.exec
  have hb := B.bytes
  have hr := B.returns
  have hts := atoms_spec (ws := vw_k_X11_solve) B.pre
  have hown : s.vm.findClass RX11 = some m.cls := findClass_of_methodNamed B.named
  have hlocks := B.notSynchronized
  subst hsz
  have hD := hD0.self (sz := s.heap.size)
  generalize hAe : va_A [(h0, .inr (13, [.ref (ad 0), .int 0, .int 0, .ref (ad 1), .ref (ad 2), .ref (ad 3), .ref (ad 4), .ref (ad 5), .ref (ad 6)]))] s.heap.size = A at hD hE ⊢
  have hA : ∀ q : Nat, s.heap.size ≤ q → A q := fun q h => by rw [← hAe]; exact Or.inr h
  have hS : va_S A s.heap s.heap [] := va_S.rf
  have hP : va_P (dC, dI) vwCl [(h0, .inr (13, [.ref (ad 0), .int 0, .int 0, .ref (ad 1), .ref (ad 2), .ref (ad 3), .ref (ad 4), .ref (ad 5), .ref (ad 6)]))] s.heap := hP
  have hl := lv_entry ([.ref h0]) (n := 1) (Nat.le_of_ble_eq_true rfl)
  rw [lg_entry_eq]
  generalize (lg_sl ([.ref h0]) ++ List.replicate (1 - (lg_sl ([.ref h0])).length) Slot.unset).toArray = ls at hl ⊢
  have hl : lv_has ls 1 [(0, .ref h0)] := hl
  have hwX11 : ∀ w ∈ wsX110, w ∈ vw_k_X11_solve := (fun w h => List.mem_append_right _ (List.mem_append_right _ (List.mem_append_right _ (List.mem_append_right _ (List.mem_append_right _ (List.mem_append_right _ (List.mem_append_right _ (List.mem_append_right _ (List.mem_append_right _ (List.mem_append_right _ (List.mem_append_right _ (List.mem_append_right _ h))))))))))))
  refine lv_aload_n hx hb dX11_solve_0 rfl (lv_at hl 0 rfl) ?_
  refine va_get (D := (dC, dI)) (ci := 13) (v := .int 0) (C := RX11) (T := TX11) (N := 9) hx hb hts hwX11 hown hK hP 0 rfl rfl 2 (Nat.le_of_ble_eq_true rfl) (hts (.fieldLink RX11 65 "ScriptTypes" "hasScript" "Z") (List.mem_of_getElem? (i := 1) (by decide +kernel))) (fun _ h9 => h9) rfl dX11_solve_1 ?_
  refine lv_if_ne (tgt := 17) hx hb dX11_solve_4 (by decide) (fun c1_4 => absurd (by decide) c1_4) (fun _ => ?_)
  have hat : ∀ w ∈ vx_atS RX11 120 "java/lang/IllegalStateException" ["java/lang/RuntimeException", "java/lang/Exception"], w.before ([.ref h0] : List Value).toArray s = true := vx_hat (B := vt_ISEB) (fun w hw => hts w (List.mem_append_left _ (List.mem_cons_of_mem _ (List.mem_append_right _ (List.mem_append_left _ (hw)))))) vt_ISE_b (vx_c (va_Nw.use (A := ([.ref h0] : List Value).toArray) rfl hE.2.2.1) (vx_c (va_Nw.use (A := ([.ref h0] : List Value).toArray) rfl hE.2.2.2.1) (vx_c (va_Nw.use (A := ([.ref h0] : List Value).toArray) rfl hE.2.2.2.2.1) (vx_c (va_Nw.use (A := ([.ref h0] : List Value).toArray) rfl hE.2.2.2.2.2.2.1) vx_n))))
  exact vx_throwS (own := RX11) (cls := "java/lang/IllegalStateException") (text := "there is no script") (names := ["java/lang/RuntimeException", "java/lang/Exception"]) (ik := 116) (is := 118) (ic := 120) (sa := s1) (A := A) hx hb hst hown (by decide +kernel) (by decide +kernel) (hts (.classLink RX11 116 "java/lang/IllegalStateException") (List.mem_of_getElem? (i := 2) (by decide +kernel))) (hts (.initialized "java/lang/IllegalStateException") (List.mem_of_getElem? (i := 3) (by decide +kernel))) hE.2.2.2.2.2.2.2.1 hat vt_ISE_ot hE.1 hE.2.1 hS (hl.1.trans hml.symm) dX11_solve_7 dX11_solve_10 dX11_solve_11 dX11_solve_13 dX11_solve_16 (fun x hx => (ht0 x hx).elim) (Nat.le_of_ble_eq_true rfl) (Nat.le_of_ble_eq_true rfl) (Nat.le_of_ble_eq_true rfl) (Nat.le_of_ble_eq_true rfl) hlocks (fun t ha hz hk => ⟨(), trivial, rfl, Nat.le_trans hS.1 hz, fun q h1 h2 => (hk q (Nat.lt_of_lt_of_le h1 hS.1)).trans (hS.2.1 q h1 h2)⟩) hS.2.2 (Nat.le_of_ble_eq_true rfl) (Nat.le_of_ble_eq_true rfl)

def vb_a_X4_goesOn_1 : List Cond := .code yX4_goesOn cX4_goesOn 1 (some .boolean) :: ([.fieldLink RX4 40 "ScriptTypes$Machine" "state" "I"] ++ [])
def vw_a_X4_goesOn_1 : List Cond := vb_a_X4_goesOn_1 ++ wsAll
set_option maxHeartbeats 8000000 in
set_option maxRecDepth 100000 in
theorem a_X4_goesOn_1 (l : Launch) (dC : Nat → ClassId) (dI : Nat → Nat → Nat) (sz : Nat) (ad : Nat → Nat) : Met l yX4_goesOn vw_a_X4_goesOn_1 ({ frames := 0, cells := 0, slots := 0, locals := 0 }) (va_Pc [.ref (ad 5)] (fun U => U.heap.size = sz ∧ va_P (dC, dI) vwCl [((ad 5), .inr (6, [.ref (ad 2), .ref (ad 1), .ref (ad 40), .int 0, .int 0, .ref (ad 41), .int 0, .int 0, .ref (ad 42), .int 0, .ref (ad 43), .int 0, .ref (ad 44), .int 0, .int 0, .int 0]))] U.heap ∧ va_K (dC, dI) vwCl [] U ∧ va_D (fun _ => True) [((ad 5), .inr (6, [.ref (ad 2), .ref (ad 1), .ref (ad 40), .int 0, .int 0, .ref (ad 41), .int 0, .int 0, .ref (ad 42), .int 0, .ref (ad 43), .int 0, .ref (ad 44), .int 0, .int 0, .int 0]))])) (va_Qi (fun (r : Int32) (u : (Nat → Nat) × (Nat → ClassId) × (Nat → Nat → Int32)) => r = 0) (fun (u : (Nat → Nat) × (Nat → ClassId) × (Nat → Nat → Int32)) t => va_P (dC, dI) vwCl [((ad 5), .inr (6, [.ref (ad 2), .ref (ad 1), .ref (ad 40), .int 0, .int 0, .ref (ad 41), .int 0, .int 0, .ref (ad 42), .int 0, .ref (ad 43), .int 0, .ref (ad 44), .int 0, .int 0, .int 0]))] t.heap ∧ va_K (dC, dI) vwCl [] t ∧ va_D (va_A [((ad 5), .inr (6, [.ref (ad 2), .ref (ad 1), .ref (ad 40), .int 0, .int 0, .ref (ad 41), .int 0, .int 0, .ref (ad 42), .int 0, .ref (ad 43), .int 0, .ref (ad 44), .int 0, .int 0, .int 0]))] sz) [((ad 5), .inr (6, [.ref (ad 2), .ref (ad 1), .ref (ad 40), .int 0, .int 0, .ref (ad 41), .int 0, .int 0, .ref (ad 42), .int 0, .ref (ad 43), .int 0, .ref (ad 44), .int 0, .int 0, .int 0]))]) (va_A [((ad 5), .inr (6, [.ref (ad 2), .ref (ad 1), .ref (ad 40), .int 0, .int 0, .ref (ad 41), .int 0, .int 0, .ref (ad 42), .int 0, .ref (ad 43), .int 0, .ref (ad 44), .int 0, .int 0, .int 0]))] sz)) 0 0 (va_A [((ad 5), .inr (6, [.ref (ad 2), .ref (ad 1), .ref (ad 40), .int 0, .int 0, .ref (ad 41), .int 0, .int 0, .ref (ad 42), .int 0, .ref (ad 43), .int 0, .ref (ad 44), .int 0, .int 0, .int 0]))] sz) := by
  refine Met.ofW (cc := cX4_goesOn) (maxL := 1) (ret := (some .boolean)) (by decide) rfl ?_
  intro p e s m args below meth c s₁ B hml hv
  obtain ⟨rfl, hsz, hP, hK, hD0⟩ := hv
  have hx := B.exec
  have hb := B.bytes
  have hr := B.returns
  have hts := atoms_spec (ws := vw_a_X4_goesOn_1) B.pre
  have hown : s.vm.findClass RX4 = some m.cls := findClass_of_methodNamed B.named
  have hlocks := B.notSynchronized
  subst hsz
  have hD := hD0.self (sz := s.heap.size)
  generalize hAe : va_A [((ad 5), .inr (6, [.ref (ad 2), .ref (ad 1), .ref (ad 40), .int 0, .int 0, .ref (ad 41), .int 0, .int 0, .ref (ad 42), .int 0, .ref (ad 43), .int 0, .ref (ad 44), .int 0, .int 0, .int 0]))] s.heap.size = A at hD ⊢
  have hA : ∀ q : Nat, s.heap.size ≤ q → A q := fun q h => by rw [← hAe]; exact Or.inr h
  have hS : va_S A s.heap s.heap [] := va_S.rf
  have hP : va_P (dC, dI) vwCl [((ad 5), .inr (6, [.ref (ad 2), .ref (ad 1), .ref (ad 40), .int 0, .int 0, .ref (ad 41), .int 0, .int 0, .ref (ad 42), .int 0, .ref (ad 43), .int 0, .ref (ad 44), .int 0, .int 0, .int 0]))] s.heap := hP
  have hl := lv_entry ([.ref (ad 5)]) (n := 1) (Nat.le_of_ble_eq_true rfl)
  rw [lg_entry_eq]
  generalize (lg_sl ([.ref (ad 5)]) ++ List.replicate (1 - (lg_sl ([.ref (ad 5)])).length) Slot.unset).toArray = ls at hl ⊢
  have hl : lv_has ls 1 [(0, .ref (ad 5))] := hl
  have hwX4 : ∀ w ∈ wsX40, w ∈ vw_a_X4_goesOn_1 := (fun w h => List.mem_append_right _ (List.mem_append_right _ (List.mem_append_right _ (List.mem_append_right _ (List.mem_append_right _ (List.mem_append_left _ h))))))
  refine lv_aload_n hx hb dX4_goesOn_0 rfl (lv_at hl 0 rfl) ?_
  refine va_get (D := (dC, dI)) (ci := 6) (v := .int 0) (C := RX4) (T := TX4) (N := 16) hx hb hts hwX4 hown hK hP 0 rfl rfl 3 (Nat.le_of_ble_eq_true rfl) (hts (.fieldLink RX4 40 "ScriptTypes$Machine" "state" "I") (List.mem_of_getElem? (i := 1) (by decide +kernel))) (fun _ h9 => h9) rfl dX4_goesOn_1 ?_
  refine lv_iconst (v := 1) hx hb dX4_goesOn_4 (by decide) ?_
  refine lv_icmp_ne (tgt := 12) hx hb dX4_goesOn_5 (by decide) (fun _ => ?_) (fun c1_5 => absurd c1_5 (by decide))
  refine lv_iconst (v := 0) hx hb dX4_goesOn_12 (by decide) ?_
  refine W.widen (k := 0) (n := 0) (Nat.le_of_ble_eq_true rfl) (Nat.le_of_ble_eq_true rfl) ?_
  exact W.zret (v := 0) hx hb hr rfl (fun t ht hW => ⟨⟨0, (fun n => ([] : List Nat).getD n 0, fun n => ([] : List ClassId).getD n 0, fun n => ([] : List (Nat → Int32)).getD n (fun _ => 0)), rfl, rfl, by rw [ht]; exact hP, va_K.moved hW.alike hK, hD⟩, hS.F ht⟩) hS.2.2 dX4_goesOn_13

def vb_k_X11_run : List Cond := .code yX11_run cX11_run 2 (some .int) :: ([.classLink RX11 126 "java/lang/IllegalArgumentException", .initialized "java/lang/IllegalArgumentException", .fieldLink RX11 50 "ScriptTypes" "machine" "LScriptTypes$Machine;", .methodLink RX11 131 yX4_goesOn, .instanceMethod yX4_goesOn, .selects RX4 yX4_goesOn yX4_goesOn, .initialized RX4, .classLink RX11 116 "java/lang/IllegalStateException", .initialized "java/lang/IllegalStateException"] ++ (vt_IAE ++ (vb_a_X4_goesOn_1 ++ (vt_ISE ++ []))))
def vw_k_X11_run : List Cond := vb_k_X11_run ++ wsAll
set_option maxRecDepth 20000 in
theorem vg_k_X11_run_a_X4_goesOn_1 : GoodIn vw_k_X11_run (wsV RX11 131 RX4 yX4_goesOn vw_a_X4_goesOn_1) := goodIn_app (goodIn_of _ (by decide +kernel)) (goodIn_sub (v_sub (fun w h => List.mem_cons_of_mem _ (List.mem_append_right _ (List.mem_append_right _ (List.mem_append_left _ (h)))))) (by decide +kernel))
set_option maxHeartbeats 8000000 in
set_option maxRecDepth 100000 in
theorem k_X11_run (l : Launch) (dC : Nat → ClassId) (dI : Nat → Nat → Nat) (sz : Nat) (h0 : Nat) (ad : Nat → Nat) (s1 s2 s3 : Nat) (p0 : Int32) (hst : l.stackTraces = false) : vx_Met l yX11_run vw_k_X11_run ({ frames := 6, cells := 1, slots := 6, locals := 82 }) (va_Pc [.ref h0, .int p0] (fun U => U.heap.size = sz ∧ va_P (dC, dI) vwCl [(h0, .inr (13, [.ref (ad 0), .int 0, .int 0, .ref (ad 1), .ref (ad 2), .ref (ad 3), .ref (ad 4), .ref (ad 5), .ref (ad 6)])), ((ad 5), .inr (6, [.ref (ad 2), .ref (ad 1), .ref (ad 40), .int 0, .int 0, .ref (ad 41), .int 0, .int 0, .ref (ad 42), .int 0, .ref (ad 43), .int 0, .ref (ad 44), .int 0, .int 0, .int 0]))] U.heap ∧ va_K (dC, dI) vwCl [] U ∧ va_D (fun _ => True) [(h0, .inr (13, [.ref (ad 0), .int 0, .int 0, .ref (ad 1), .ref (ad 2), .ref (ad 3), .ref (ad 4), .ref (ad 5), .ref (ad 6)])), ((ad 5), .inr (6, [.ref (ad 2), .ref (ad 1), .ref (ad 40), .int 0, .int 0, .ref (ad 41), .int 0, .int 0, .ref (ad 42), .int 0, .ref (ad 43), .int 0, .ref (ad 44), .int 0, .int 0, .int 0]))] ∧ eE s1 s2 s3 (va_A [(h0, .inr (13, [.ref (ad 0), .int 0, .int 0, .ref (ad 1), .ref (ad 2), .ref (ad 3), .ref (ad 4), .ref (ad 5), .ref (ad 6)])), ((ad 5), .inr (6, [.ref (ad 2), .ref (ad 1), .ref (ad 40), .int 0, .int 0, .ref (ad 41), .int 0, .int 0, .ref (ad 42), .int 0, .ref (ad 43), .int 0, .ref (ad 44), .int 0, .int 0, .int 0]))] sz) U U.heap)) (va_Qi (fun (_ : Int32) (_ : Unit) => False) (fun _ _ => True) (va_A [(h0, .inr (13, [.ref (ad 0), .int 0, .int 0, .ref (ad 1), .ref (ad 2), .ref (ad 3), .ref (ad 4), .ref (ad 5), .ref (ad 6)])), ((ad 5), .inr (6, [.ref (ad 2), .ref (ad 1), .ref (ad 40), .int 0, .int 0, .ref (ad 41), .int 0, .int 0, .ref (ad 42), .int 0, .ref (ad 43), .int 0, .ref (ad 44), .int 0, .int 0, .int 0]))] sz)) (vx_X (fun _ : Unit => True) (fun E (_ : Unit) _ => (E = "java/lang/IllegalArgumentException" ∧ k_run p0 = 1) ∨ (E = "java/lang/IllegalStateException" ∧ k_run p0 = 2)) (va_A [(h0, .inr (13, [.ref (ad 0), .int 0, .int 0, .ref (ad 1), .ref (ad 2), .ref (ad 3), .ref (ad 4), .ref (ad 5), .ref (ad 6)])), ((ad 5), .inr (6, [.ref (ad 2), .ref (ad 1), .ref (ad 40), .int 0, .int 0, .ref (ad 41), .int 0, .int 0, .ref (ad 42), .int 0, .ref (ad 43), .int 0, .ref (ad 44), .int 0, .int 0, .int 0]))] sz)) 1 6 (va_A [(h0, .inr (13, [.ref (ad 0), .int 0, .int 0, .ref (ad 1), .ref (ad 2), .ref (ad 3), .ref (ad 4), .ref (ad 5), .ref (ad 6)])), ((ad 5), .inr (6, [.ref (ad 2), .ref (ad 1), .ref (ad 40), .int 0, .int 0, .ref (ad 41), .int 0, .int 0, .ref (ad 42), .int 0, .ref (ad 43), .int 0, .ref (ad 44), .int 0, .int 0, .int 0]))] sz) := by
  refine vx_ofW (cc := cX11_run) (maxL := 2) (ret := (some .int)) (by decide) rfl ?_
  intro p e s m args below meth c s₁ B hml ht0 hv
  obtain ⟨rfl, hsz, hP, hK, hD0, hE⟩ := hv
  have hx := B.exec
  have hb := B.bytes
  have hr := B.returns
  have hts := atoms_spec (ws := vw_k_X11_run) B.pre
  have hown : s.vm.findClass RX11 = some m.cls := findClass_of_methodNamed B.named
  have hlocks := B.notSynchronized
  subst hsz
  have hD := hD0.self (sz := s.heap.size)
  generalize hAe : va_A [(h0, .inr (13, [.ref (ad 0), .int 0, .int 0, .ref (ad 1), .ref (ad 2), .ref (ad 3), .ref (ad 4), .ref (ad 5), .ref (ad 6)])), ((ad 5), .inr (6, [.ref (ad 2), .ref (ad 1), .ref (ad 40), .int 0, .int 0, .ref (ad 41), .int 0, .int 0, .ref (ad 42), .int 0, .ref (ad 43), .int 0, .ref (ad 44), .int 0, .int 0, .int 0]))] s.heap.size = A at hD hE ⊢
  have hA : ∀ q : Nat, s.heap.size ≤ q → A q := fun q h => by rw [← hAe]; exact Or.inr h
  have hS : va_S A s.heap s.heap [] := va_S.rf
  have hP : va_P (dC, dI) vwCl [(h0, .inr (13, [.ref (ad 0), .int 0, .int 0, .ref (ad 1), .ref (ad 2), .ref (ad 3), .ref (ad 4), .ref (ad 5), .ref (ad 6)])), ((ad 5), .inr (6, [.ref (ad 2), .ref (ad 1), .ref (ad 40), .int 0, .int 0, .ref (ad 41), .int 0, .int 0, .ref (ad 42), .int 0, .ref (ad 43), .int 0, .ref (ad 44), .int 0, .int 0, .int 0]))] s.heap := hP
  have hl := lv_entry ([.ref h0, .int p0]) (n := 2) (Nat.le_of_ble_eq_true rfl)
  rw [lg_entry_eq]
  generalize (lg_sl ([.ref h0, .int p0]) ++ List.replicate (2 - (lg_sl ([.ref h0, .int p0])).length) Slot.unset).toArray = ls at hl ⊢
  have hl : lv_has ls 2 [(0, .ref h0), (1, .int p0)] := hl
  have hwX11 : ∀ w ∈ wsX110, w ∈ vw_k_X11_run := (fun w h => List.mem_append_right _ (List.mem_append_right _ (List.mem_append_right _ (List.mem_append_right _ (List.mem_append_right _ (List.mem_append_right _ (List.mem_append_right _ (List.mem_append_right _ (List.mem_append_right _ (List.mem_append_right _ (List.mem_append_right _ (List.mem_append_right _ h))))))))))))
  refine lv_iload_n hx hb dX11_run_0 rfl (lv_at hl 1 rfl) ?_
  refine lv_if_lt (tgt := 11) hx hb dX11_run_1 (by decide) (fun c1_1 => ?_) (fun c1_1 => ?_)
  · skip
    have hat : ∀ w ∈ vx_atS RX11 130 "java/lang/IllegalArgumentException" ["java/lang/RuntimeException", "java/lang/Exception"], w.before ([.ref h0, .int p0] : List Value).toArray s = true := vx_hat (B := vt_IAEB) (fun w hw => hts w (List.mem_append_left _ (List.mem_cons_of_mem _ (List.mem_append_right _ (List.mem_append_left _ (hw)))))) vt_IAE_b (vx_c (va_Nw.use (A := ([.ref h0, .int p0] : List Value).toArray) rfl hE.2.2.1) (vx_c (va_Nw.use (A := ([.ref h0, .int p0] : List Value).toArray) rfl hE.2.2.2.1) (vx_c (va_Nw.use (A := ([.ref h0, .int p0] : List Value).toArray) rfl hE.2.2.2.2.1) (vx_c (va_Nw.use (A := ([.ref h0, .int p0] : List Value).toArray) rfl hE.2.2.2.2.2.1) vx_n))))
    exact vx_throwS (own := RX11) (cls := "java/lang/IllegalArgumentException") (text := "steps are 0 to 2000") (names := ["java/lang/RuntimeException", "java/lang/Exception"]) (ik := 126) (is := 128) (ic := 130) (sa := s2) (A := A) hx hb hst hown (by decide +kernel) (by decide +kernel) (hts (.classLink RX11 126 "java/lang/IllegalArgumentException") (List.mem_of_getElem? (i := 1) (by decide +kernel))) (hts (.initialized "java/lang/IllegalArgumentException") (List.mem_of_getElem? (i := 2) (by decide +kernel))) hE.2.2.2.2.2.2.2.2.1 hat vt_IAE_ot hE.1 hE.2.1 hS (hl.1.trans hml.symm) dX11_run_11 dX11_run_14 dX11_run_15 dX11_run_17 dX11_run_20 (fun x hx => (ht0 x hx).elim) (Nat.le_of_ble_eq_true rfl) (Nat.le_of_ble_eq_true rfl) (Nat.le_of_ble_eq_true rfl) (Nat.le_of_ble_eq_true rfl) hlocks (fun t ha hz hk => ⟨(), trivial, Or.inl ⟨rfl, k_run_1 c1_1⟩, Nat.le_trans hS.1 hz, fun q h1 h2 => (hk q (Nat.lt_of_lt_of_le h1 hS.1)).trans (hS.2.1 q h1 h2)⟩) hS.2.2 (Nat.le_of_ble_eq_true rfl) (Nat.le_of_ble_eq_true rfl)
  · skip
    refine lv_iload_n hx hb dX11_run_4 rfl (lv_at hl 1 rfl) ?_
    refine lv_sipush (v := 2000) hx hb dX11_run_5 (by decide) ?_
    refine lv_icmp_le (tgt := 21) hx hb dX11_run_8 (by decide) (fun c2_8 => ?_) (fun c2_8 => ?_)
    · skip
      refine lv_aload_n hx hb dX11_run_21 rfl (lv_at hl 0 rfl) ?_
      refine va_get (D := (dC, dI)) (ci := 13) (v := .ref (ad 5)) (C := RX11) (T := TX11) (N := 9) hx hb hts hwX11 hown hK hP 0 rfl rfl 7 (Nat.le_of_ble_eq_true rfl) (hts (.fieldLink RX11 50 "ScriptTypes" "machine" "LScriptTypes$Machine;") (List.mem_of_getElem? (i := 3) (by decide +kernel))) (fun _ h9 => h9) rfl dX11_run_22 ?_
      have hPc := hP.sub (ws' := [((ad 5), .inr (6, [.ref (ad 2), .ref (ad 1), .ref (ad 40), .int 0, .int 0, .ref (ad 41), .int 0, .int 0, .ref (ad 42), .int 0, .ref (ad 43), .int 0, .ref (ad 44), .int 0, .int 0, .int 0]))]) [1] rfl
      have hDc := hD.sub (ws' := [((ad 5), .inr (6, [.ref (ad 2), .ref (ad 1), .ref (ad 40), .int 0, .int 0, .ref (ad 41), .int 0, .int 0, .ref (ad 42), .int 0, .ref (ad 43), .int 0, .ref (ad 44), .int 0, .int 0, .int 0]))]) [1] (by decide) rfl
      have hKc := hK.sub (tys' := []) [] rfl
      have hFc := va_free (wc := [((ad 5), .inr (6, [.ref (ad 2), .ref (ad 1), .ref (ad 40), .int 0, .int 0, .ref (ad 41), .int 0, .int 0, .ref (ad 42), .int 0, .ref (ad 43), .int 0, .ref (ad 44), .int 0, .int 0, .int 0]))]) hD hS hA [1] rfl
      refine va_calli (va_runV (As := []) (rest := []) ⟨hx, hb, hml, hown, hts⟩ (a_X4_goesOn_1 l dC dI s.heap.size ad) (cwV 0 hts vg_k_X11_run_a_X4_goesOn_1 rfl rfl rfl (by decide +kernel) ⟨Nat.le_of_ble_eq_true rfl, Nat.le_of_ble_eq_true rfl⟩) ⟨fun a U g mk q => by obtain ⟨q0, q1, qP, qK, qD⟩ := q; exact ⟨q0, q1, qP, va_K.moved (u := U) (U := U.calling g mk a) (Vm.Alike.refl U.vm) qK, qD⟩, va_recv hKc hPc (ci := 6) (q0 := 0) rfl rfl, fun U hU hW => ⟨rfl, by rw [hU], by rw [hU]; exact hPc, va_K.moved hW.alike hKc, hDc.weaken (fun _ _ _ _ => trivial)⟩⟩ rfl rfl hl.1 rfl (lv_room (Nat.le_of_ble_eq_true rfl)) dX11_run_25 ⟨Nat.le_of_ble_eq_true rfl, Nat.le_of_ble_eq_true rfl⟩) hS (fun q _ h => hFc q h) hFc (fun r_3 u t H1 locs ht hvm hw hB hz1 hk1 hS => ?_)
      obtain ⟨_, _, _⟩ := u
      obtain ⟨hP1, hK1, hD1⟩ := hB
      rw [ht] at hP1
      have hK1 := va_K.moved hvm.symm hK1
      try dsimp only at hw
      obtain ⟨hP, hD⟩ := va_join (wr := [(h0, .inr (13, [.ref (ad 0), .int 0, .int 0, .ref (ad 1), .ref (ad 2), .ref (ad 3), .ref (ad 4), .ref (ad 5), .ref (ad 6)]))]) (w1 := [((ad 5), .inr (6, [.ref (ad 2), .ref (ad 1), .ref (ad 40), .int 0, .int 0, .ref (ad 41), .int 0, .int 0, .ref (ad 42), .int 0, .ref (ad 43), .int 0, .ref (ad 44), .int 0, .int 0, .int 0]))]) hP hD [1] [0] rfl rfl (by decide) (by decide) hk1 hFc hP1 hD1
      generalize H1 = H at hP hS ⊢
      have hP : va_P (dC, dI) vwCl [(h0, .inr (13, [.ref (ad 0), .int 0, .int 0, .ref (ad 1), .ref (ad 2), .ref (ad 3), .ref (ad 4), .ref (ad 5), .ref (ad 6)])), ((ad 5), .inr (6, [.ref (ad 2), .ref (ad 1), .ref (ad 40), .int 0, .int 0, .ref (ad 41), .int 0, .int 0, .ref (ad 42), .int 0, .ref (ad 43), .int 0, .ref (ad 44), .int 0, .int 0, .int 0]))] H := hP
      have hD : va_D A [(h0, .inr (13, [.ref (ad 0), .int 0, .int 0, .ref (ad 1), .ref (ad 2), .ref (ad 3), .ref (ad 4), .ref (ad 5), .ref (ad 6)])), ((ad 5), .inr (6, [.ref (ad 2), .ref (ad 1), .ref (ad 40), .int 0, .int 0, .ref (ad 41), .int 0, .int 0, .ref (ad 42), .int 0, .ref (ad 43), .int 0, .ref (ad 44), .int 0, .int 0, .int 0]))] := hD
      obtain rfl : r_3 = 0 := hw
      refine lv_if_ne (tgt := 41) hx hb dX11_run_28 (by decide) (fun c4_28 => absurd (by decide) c4_28) (fun _ => ?_)
      have hat : ∀ w ∈ vx_atS RX11 120 "java/lang/IllegalStateException" ["java/lang/RuntimeException", "java/lang/Exception"], w.before ([.ref h0, .int p0] : List Value).toArray s = true := vx_hat (B := vt_ISEB) (fun w hw => hts w (List.mem_append_left _ (List.mem_cons_of_mem _ (List.mem_append_right _ (List.mem_append_right _ (List.mem_append_right _ (List.mem_append_left _ (hw)))))))) vt_ISE_b (vx_c (va_Nw.use (A := ([.ref h0, .int p0] : List Value).toArray) rfl hE.2.2.1) (vx_c (va_Nw.use (A := ([.ref h0, .int p0] : List Value).toArray) rfl hE.2.2.2.1) (vx_c (va_Nw.use (A := ([.ref h0, .int p0] : List Value).toArray) rfl hE.2.2.2.2.1) (vx_c (va_Nw.use (A := ([.ref h0, .int p0] : List Value).toArray) rfl hE.2.2.2.2.2.2.1) vx_n))))
      exact vx_throwS (own := RX11) (cls := "java/lang/IllegalStateException") (text := "the machine does not go on") (names := ["java/lang/RuntimeException", "java/lang/Exception"]) (ik := 116) (is := 135) (ic := 120) (sa := s3) (A := A) hx hb hst hown (by decide +kernel) (by decide +kernel) (hts (.classLink RX11 116 "java/lang/IllegalStateException") (List.mem_of_getElem? (i := 8) (by decide +kernel))) (hts (.initialized "java/lang/IllegalStateException") (List.mem_of_getElem? (i := 9) (by decide +kernel))) hE.2.2.2.2.2.2.2.2.2 hat vt_ISE_ot hE.1 hE.2.1 hS (hl.1.trans hml.symm) dX11_run_31 dX11_run_34 dX11_run_35 dX11_run_37 dX11_run_40 (fun x hx => (ht0 x hx).elim) (Nat.le_of_ble_eq_true rfl) (Nat.le_of_ble_eq_true rfl) (Nat.le_of_ble_eq_true rfl) (Nat.le_of_ble_eq_true rfl) hlocks (fun t ha hz hk => ⟨(), trivial, Or.inr ⟨rfl, k_run_3 c1_1 c2_8⟩, Nat.le_trans hS.1 hz, fun q h1 h2 => (hk q (Nat.lt_of_lt_of_le h1 hS.1)).trans (hS.2.1 q h1 h2)⟩) hS.2.2 (Nat.le_of_ble_eq_true rfl) (Nat.le_of_ble_eq_true rfl)
    · skip
      have hat : ∀ w ∈ vx_atS RX11 130 "java/lang/IllegalArgumentException" ["java/lang/RuntimeException", "java/lang/Exception"], w.before ([.ref h0, .int p0] : List Value).toArray s = true := vx_hat (B := vt_IAEB) (fun w hw => hts w (List.mem_append_left _ (List.mem_cons_of_mem _ (List.mem_append_right _ (List.mem_append_left _ (hw)))))) vt_IAE_b (vx_c (va_Nw.use (A := ([.ref h0, .int p0] : List Value).toArray) rfl hE.2.2.1) (vx_c (va_Nw.use (A := ([.ref h0, .int p0] : List Value).toArray) rfl hE.2.2.2.1) (vx_c (va_Nw.use (A := ([.ref h0, .int p0] : List Value).toArray) rfl hE.2.2.2.2.1) (vx_c (va_Nw.use (A := ([.ref h0, .int p0] : List Value).toArray) rfl hE.2.2.2.2.2.1) vx_n))))
      exact vx_throwS (own := RX11) (cls := "java/lang/IllegalArgumentException") (text := "steps are 0 to 2000") (names := ["java/lang/RuntimeException", "java/lang/Exception"]) (ik := 126) (is := 128) (ic := 130) (sa := s2) (A := A) hx hb hst hown (by decide +kernel) (by decide +kernel) (hts (.classLink RX11 126 "java/lang/IllegalArgumentException") (List.mem_of_getElem? (i := 1) (by decide +kernel))) (hts (.initialized "java/lang/IllegalArgumentException") (List.mem_of_getElem? (i := 2) (by decide +kernel))) hE.2.2.2.2.2.2.2.2.1 hat vt_IAE_ot hE.1 hE.2.1 hS (hl.1.trans hml.symm) dX11_run_11 dX11_run_14 dX11_run_15 dX11_run_17 dX11_run_20 (fun x hx => (ht0 x hx).elim) (Nat.le_of_ble_eq_true rfl) (Nat.le_of_ble_eq_true rfl) (Nat.le_of_ble_eq_true rfl) (Nat.le_of_ble_eq_true rfl) hlocks (fun t ha hz hk => ⟨(), trivial, Or.inl ⟨rfl, k_run_2 c1_1 c2_8⟩, Nat.le_trans hS.1 hz, fun q h1 h2 => (hk q (Nat.lt_of_lt_of_le h1 hS.1)).trans (hS.2.1 q h1 h2)⟩) hS.2.2 (Nat.le_of_ble_eq_true rfl) (Nat.le_of_ble_eq_true rfl)
