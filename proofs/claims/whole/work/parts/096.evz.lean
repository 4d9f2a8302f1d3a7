theorem ev_l_args (ad : Nat → Nat) : ∀ (as : List Value) (i : Nat), lv_args i (ev_s ad as) = ev_l ad (lv_args i as)
  | [], _ => rfl
  | v :: vs, i => by
    show (i, ev_v ad v) :: lv_args _ (ev_s ad vs) = (i, ev_v ad v) :: ev_l ad (lv_args _ vs)
    rw [ev_v_cat, ev_l_args ad vs]
theorem ev_sl_len (ad : Nat → Nat) : ∀ as : List Value, (lg_sl (ev_s ad as)).length = (lg_sl as).length
  | [] => rfl
  | v :: vs => by
    have ih := ev_sl_len ad vs
    cases v <;> simp_all [ev_s, lg_sl, ev_v, Value.category]
/-- what the theorem says of so much fuel -/
def ev_T (l : Launch) (B : List Jvm.Cond) (cl : List vw_C) (L : Nat → Option ev_M) (D : va_G) (ct : FieldType → ClassId) (ad : Nat → Nat) (n : Nat) : Prop :=
    ∀ (y pc : Nat) (lv : List (Nat × Value)) (st : List Value) (E : List ev_C) (v : Option Value) (E' : List ev_C) (f w : Nat), ev_run L n y pc lv st E = some (v, E', f, w) → ∀ M : ev_M, L y = some M →
    ∀ {p : Program} {e : Env} {R : Room} {s : State} {m : MethodId} {args : Array Value} {below : List Frame} {meth : Method} {c : Code} {H : Heap} {locs : List Loc} {ls : Array Slot} {A : Nat → Prop}, p.tables.exec = Jvm.exec → c.code = M.1.2.1 → meth.sig.returnType = M.1.2.2.2 → meth.locks = false → c.maxLocals = M.1.2.2.1 → s.vm.findClass M.1.1.cls = some m.cls → (∀ w ∈ ev_ws B M, w.before args s = true) → f ≤ R.frames → w ≤ R.locals →
    va_K D cl (ev_tys ct) s → va_P D cl (ev_w ad ct E) H → va_D A (ev_w ad ct E) → va_S A s.heap H locs → (∀ q, s.heap.size ≤ q → A q) → lv_has ls M.1.2.2.1 (ev_l ad lv) →
    W p l e R s m args below meth c H locs 0 0 (MQ below (ev_Qc D cl ad ct A v E') args s 0 0 A) (F0 m pc ls (ev_s ad st))
set_option maxHeartbeats 4000000 in
theorem ev_met {l : Launch} {B : List Jvm.Cond} {cl : List vw_C} {L : Nat → Option ev_M} {D : va_G} {ct : FieldType → ClassId} {ad : Nat → Nat} (hOK : ev_OK B cl L) {n : Nat} (ih : ev_T l B cl L D ct ad n) {z : Nat} {N : ev_M} (hN : L z = some N) {as : List Value} {E E1 : List ev_C} {v1 : Option Value} {f1 w1 : Nat} (h : ev_run L n z 0 (lv_args 0 as) [] E = some (v1, E1, f1, w1)) (hlen : (lg_sl as).length ≤ N.1.2.2.1) (sz : Nat) :
    Met l N.1.1 (ev_ws B N) { frames := f1, cells := 0, slots := 0, locals := w1 } (ev_Pc D cl ad ct E sz as) (ev_Qc D cl ad ct (va_A (ev_w ad ct E) sz) v1 E1) 0 0 (va_A (ev_w ad ct E) sz) := by
  refine Met.ofW (cc := N.1.2.1) (maxL := N.1.2.2.1) (ret := N.1.2.2.2) (hOK.2 z N hN).1 rfl ?_
  intro p e s m args below meth c s₁ B' hml hv
  obtain ⟨rfl, hsz, hP, hK, hD0⟩ := hv
  have hts := atoms_spec (ws := ev_ws B N) B'.pre
  have hown : s.vm.findClass N.1.1.cls = some m.cls := findClass_of_methodNamed B'.named
  subst hsz
  have hD := hD0.self (sz := s.heap.size)
  have hl := lv_entry (ev_s ad as) (n := N.1.2.2.1) (by rw [ev_sl_len]; exact hlen)
  rw [ev_l_args] at hl
  rw [lg_entry_eq]
  exact ih _ _ _ _ _ _ _ _ _ h N hN B'.exec B'.bytes B'.returns B'.notSynchronized hml hown hts (Nat.le_refl _) (Nat.le_refl _) hK hP hD va_S.rf (fun q h => Or.inr h) hl
set_option maxHeartbeats 8000000 in
theorem ev_sound {l : Launch} {B : List Jvm.Cond} {cl : List vw_C} {L : Nat → Option ev_M} {D : va_G} {ct : FieldType → ClassId} {ad : Nat → Nat} (hOK : ev_OK B cl L) :
    ∀ n : Nat, ev_T l B cl L D ct ad n := by
  intro n
  induction n with
  | zero => intro y pc lv st E v E' f w h; exact absurd h (by unfold ev_run; intro q; cases q)
  | succ n ih =>
    intro y pc lv st E v E' f w h M hM p e R s m args below meth c H locs ls A hx hb hr hlocks hml hown hts hf hw hK hP hD hS hA hl
    have hO := hOK.2 y M hM
    have hts' : ∀ w ∈ B, w.before args s = true := fun w hw => hts w (List.mem_cons_of_mem _ hw)
    unfold ev_run at h
    rw [hM] at h
    dsimp only at h
    split at h
    · cases h
    · rename_i ins len hd
      split at h
      · rename_i lv' st' h1
        exact ev_pure_W hx hb hl hd h1 (fun ls' hl' => ih _ _ _ _ _ _ _ _ _ h M hM hx hb hr hlocks hml hown hts hf hw hK hP hD hS hA hl')
      · split at h
        · rename_i h1
          exact ev_jump_W hx hb hd h1 (ih _ _ _ _ _ _ _ _ _ h M hM hx hb hr hlocks hml hown hts hf hw hK hP hD hS hA hl)
        · split at h
          · rename_i h1
            exact ev_look_W hx hb hts' hown hO.2.2.1 hK hP hd h1 (ih _ _ _ _ _ _ _ _ _ h M hM hx hb hr hlocks hml hown hts hf hw hK hP hD hS hA hl)
          · split at h
            · rename_i h1
              exact ev_const_W hx hb hts' hown hO.2.2.2.2.1 hd h1 (ih _ _ _ _ _ _ _ _ _ h M hM hx hb hr hlocks hml hown hts hf hw hK hP hD hS hA hl)
            · split at h
              · rename_i h1
                exact ev_store_W hx hb hts' hown hO.2.2.2.1 (fun q => by cases q) hK hP hD hS hd h1 (fun H1 locs1 hP1 hD1 hS1 => ih _ _ _ _ _ _ _ _ _ h M hM hx hb hr hlocks hml hown hts hf hw hK hP1 hD1 hS1 hA hl)
              · split at h
                · rename_i h1
                  cases h
                  exact ev_ret_W hx hb hr hlocks hK hP hD hS hd h1
                · split at h
                  · rename_i z as rest h1
                    split at h
                    · rename_i hsum
                      split at h
                      · cases h
                      · rename_i N hN
                        split at h
                        · rename_i hlen
                          split at h
                          · cases h
                          · rename_i v1 E1 f1 w1 h2
                            split at h
                            · cases h
                            · rename_i u E2 f2 w2 h3
                              cases h
                              have hMet := ev_met hOK ih hN h2 hlen H.size
                              have hfree : ∀ q, va_A (ev_w ad ct E) H.size q → A q := fun q hq => by
                                rcases hq with ⟨k, x, hk⟩ | hq
                                · exact hD.2 k (q, x) hk
                                · exact hA q (Nat.le_trans hS.1 hq)
                              have hR : f1 + 1 ≤ R.frames ∧ 8 + (N.1.2.2.1 + 11) + w1 ≤ R.locals := ⟨Nat.le_trans (Nat.le_max_left _ _) hf, Nat.le_trans (Nat.le_max_left _ _) hw⟩
                              have hroom : ((ev_s ad rest).map fun v => v.category).sum ≤ 8 := by
                                rw [ev_s, List.map_map]
                                exact Nat.le_trans (Nat.le_of_eq (congrArg List.sum (List.map_congr_left (fun x _ => ev_v_cat ad x)))) hsum
                              have hblind : FrameBlind (ev_Pc D cl ad ct E H.size as) := fun a U g mk q => by
                                obtain ⟨q0, q1, qP, qK, qD⟩ := q
                                exact ⟨q0, q1, qP, va_K.moved (u := U) (U := U.calling g mk a) (Vm.Alike.refl U.vm) qK, qD⟩
                              have hpre : ∀ U : State, U.heap = H → s.WarmedH U.vm → ev_Pc D cl ad ct E H.size as (ev_s ad as).toArray U := fun U hU hW => ⟨rfl, by rw [hU], by rw [hU]; exact hP, va_K.moved hW.alike hK, hD.weaken (fun _ _ _ _ => trivial)⟩
                              have hgo : ∀ (H1 : Heap) (locs1 : List Loc), va_P D cl (ev_w ad ct E1) H1 → va_D A (ev_w ad ct E1) → va_S A s.heap H1 locs1 → W p l e R s m args below meth c H1 locs1 0 0 (MQ below (ev_Qc D cl ad ct A v E') args s 0 0 A) (F0 m (pc + 3) ls ((v1.map (ev_v ad)).toList ++ ev_s ad rest)) := fun H1 locs1 hP1 hD1 hS1 => by
                                have e1 : (v1.map (ev_v ad)).toList ++ ev_s ad rest = ev_s ad (v1.toList ++ rest) := by cases v1 <;> rfl
                                rw [e1]
                                exact ih _ _ _ _ _ _ _ _ _ h3 M hM hx hb hr hlocks hml hown hts (Nat.le_trans (Nat.le_max_right _ _) hf) (Nat.le_trans (Nat.le_max_right _ _) hw) hK hP1 hD1 hS1 hA hl
                              have hgood : ∀ w ∈ ev_ws B N, w ∈ ev_ws B M ∧ ((w.onTables && w.keeps) = true ∨ ∃ ty, w = .arrayClass ty) := fun w hw => by
                                refine ⟨?_, ev_words hOK hN w hw⟩
                                rcases List.mem_cons.mp hw with rfl | hw
                                · exact List.mem_cons_of_mem _ (hOK.2 z N hN).2.1
                                · exact List.mem_cons_of_mem _ hw
                              have hB : ∀ w ∈ B, w ∈ ev_ws B M ∧ ((w.onTables && w.keeps) = true ∨ ∃ ty, w = .arrayClass ty) := fun w hw => ⟨List.mem_cons_of_mem _ hw, hOK.1 w hw⟩
                              unfold ev_inv at h1
                              split at h1
                              · split at h1
                                · rename_i ci k1 n1 hi
                                  split at h1
                                  · rename_i b rest1 hdrop
                                    split at h1
                                    · rename_i ci2 fs hE
                                      split at h1
                                      · rename_i hci
                                        subst hci
                                        cases h1
                                        obtain ⟨N', q, hN', hq, hqc, hdesc, hmh, m1, m2, m3, m4⟩ := hO.2.2.2.2.2.1 _ _ _ _ hi
                                        cases hN.symm.trans hN'
                                        have hn1 : n1 ≤ st.length := by
                                          have h9 := congrArg List.length hdrop
                                          rw [List.length_drop, List.length_cons] at h9
                                          omega
                                        have hst : ev_s ad st = (ev_s ad (st.take n1).reverse).reverse ++ .ref (ad b) :: ev_s ad rest := by
                                          have h9 : st = st.take n1 ++ (.ref b :: rest) := by rw [← hdrop, List.take_append_drop]
                                          have h8 : ev_s ad st = ev_s ad (st.take n1) ++ .ref (ad b) :: ev_s ad rest := by
                                            rw [ev_s, ev_s, ev_s, congrArg (List.map (ev_v ad)) h9, List.map_append]
                                            rfl
                                          rw [h8]
                                          simp only [ev_s, List.map_reverse, List.reverse_reverse]
                                        rw [hst]
                                        refine ev_go (va_runV (As := ev_s ad (st.take n1).reverse) (rest := ev_s ad rest) ⟨hx, hb, hml, hown, hts⟩ hMet (cwV n1 hts (C := N.1.1.cls) ?_ rfl rfl rfl ⟨rfl, hmh.1, hmh.2, hdesc⟩ hR) ⟨hblind, ?_, hpre⟩ rfl ?_ hl.1 rfl (lv_room hroom) hd ⟨Nat.zero_le _, Nat.zero_le _⟩) hS hfree hfree hgo
                                        · intro w hw
                                          rcases List.mem_append.mp hw with hw | hw
                                          · rcases List.mem_cons.mp hw with rfl | hw
                                            · exact hB _ m1
                                            · rcases List.mem_cons.mp hw with rfl | hw
                                              · exact hB _ m2
                                              · rcases List.mem_cons.mp hw with rfl | hw
                                                · exact hB _ m3
                                                · rcases List.mem_cons.mp hw with rfl | hw
                                                  · exact hB _ m4
                                                  · cases hw
                                          · exact hgood w hw
                                        · obtain ⟨cell, g1, g2, g3⟩ := va_recv hK hP hq (ev_w_get hE)
                                          exact ⟨cell, g1, g2, by rw [← hqc]; exact g3⟩
                                        · rw [ev_s, List.length_map, List.length_reverse, List.length_take]
                                          omega
                                      · cases h1
                                    · cases h1
                                  · cases h1
                                · cases h1
                              · split at h1
                                · rename_i k1 n1 hi
                                  split at h1
                                  · rename_i hn
                                    cases h1
                                    obtain ⟨N', hN', hcls, hdesc, hmh, m1, m2, m3⟩ := hO.2.2.2.2.2.2 _ _ _ hi
                                    cases hN.symm.trans hN'
                                    have hst : ev_s ad st = (ev_s ad (st.take n1).reverse).reverse ++ ev_s ad (st.drop n1) := by
                                      have h8 : ev_s ad st = ev_s ad (st.take n1) ++ ev_s ad (st.drop n1) := by
                                        rw [ev_s, ev_s, ev_s, ← List.map_append, List.take_append_drop]
                                      rw [h8]
                                      simp only [ev_s, List.map_reverse, List.reverse_reverse]
                                    rw [hst]
                                    refine ev_go (va_runS (As := ev_s ad (st.take n1).reverse) (rest := ev_s ad (st.drop n1)) ⟨hx, hb, hml, hown, hts⟩ hMet (cwS n1 hts ?_ rfl rfl rfl ⟨hcls, hmh.1, hmh.2, hdesc⟩ hR) ⟨hblind, hpre⟩ rfl ?_ hl.1 rfl (lv_room hroom) hd ⟨Nat.zero_le _, Nat.zero_le _⟩) hS hfree hfree hgo
                                    · intro w hw
                                      rcases List.mem_append.mp hw with hw | hw
                                      · rcases List.mem_cons.mp hw with rfl | hw
                                        · exact hB _ m1
                                        · rcases List.mem_cons.mp hw with rfl | hw
                                          · exact hB _ m2
                                          · rcases List.mem_cons.mp hw with rfl | hw
                                            · exact hB _ m3
                                            · cases hw
                                      · exact hgood w hw
                                    · rw [ev_s, List.length_map, List.length_reverse, List.length_take]
                                      omega
                                  · cases h1
                                · cases h1
                              · cases h1
                        · cases h
                    · cases h
                  · cases h
