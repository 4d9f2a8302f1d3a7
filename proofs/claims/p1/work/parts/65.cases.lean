set_option maxHeartbeats 8000000 in
set_option maxRecDepth 100000 in
theorem law_c140 {p : Program} {e : Env} {s : State} {m : MethodId} {below : List Frame} {meth : Method} {c : Code} {l : Launch} (hst : l.stackTraces = false) {b : Nat} {xs : Nat → Int32} (C0 : lw_At p s m meth c b 6 xs) {dC : Nat → ClassId} {dI : Nat → Nat → Nat} {aS aV bS bV tR s1 s2 s3 : Nat} (hE : zE aS aV bS bV tR s1 s2 s3 (fun q : Nat => s.heap.size ≤ q) s s.heap) {h0 : Nat} {ad : Nat → Nat} {cl : Nat → ClassId} {hm : Nat} {adm : Nat → Nat} {cm : Nat → ClassId} {qo : Nat} {H : Heap} {locs : List Loc} {ls : Array Slot} (hK : va_K (dC, dI) vwCl [((cl 0), .int), ((cm 0), .byte)] s) (hP : va_P (dC, dI) vwCl [(h0, .inr (13, [.ref (ad 0), .int 0, .int 0, .ref (ad 1), .ref (ad 2), .ref (ad 3), .ref (ad 4), .ref (ad 5), .ref (ad 6)])), ((ad 0), .inl ((cl 0), 4000, .inl (fun _ => 0))), (hm, .inr (14, (m_obj adm))), ((adm 0), .inl ((cm 0), 4000, .inl (fun _ => 0)))] H) (hD : va_D (fun q : Nat => s.heap.size ≤ q) [(h0, .inr (13, [.ref (ad 0), .int 0, .int 0, .ref (ad 1), .ref (ad 2), .ref (ad 3), .ref (ad 4), .ref (ad 5), .ref (ad 6)])), ((ad 0), .inl ((cl 0), 4000, .inl (fun _ => 0))), (hm, .inr (14, (m_obj adm))), ((adm 0), .inl ((cm 0), 4000, .inl (fun _ => 0)))]) (hS : va_S (fun q : Nat => s.heap.size ≤ q) s.heap H locs) (hl : lv_has ls 7 [(0, .ref b), (1, .ref h0), (2, .ref hm), (3, .ref qo), (4, .int 0)]) : W p l e room_1 s m #[Value.ref b] below meth c H locs 184 4401688 (lw_Z below #[Value.ref b] s) (F0 m 140 ls []) := by
  obtain ⟨hx, hb, hr, hml, hown, hts0, hX, hbl, hlocks, hgv⟩ := id C0
  have hown : s.vm.findClass RL = some m.cls := hown
  have hts : ∀ w ∈ vw_law, w.before #[Value.ref b] s = true := fun w h => hts0 w (vz_law w h)
  obtain ⟨A, hAe⟩ : ∃ A : Nat → Prop, A = (fun q : Nat => s.heap.size ≤ q) := ⟨_, rfl⟩
  rw [← hAe] at hE hD hS
  have hA : ∀ q : Nat, s.heap.size ≤ q → A q := by rw [hAe]; exact fun _ h => h
  have hbA : ¬ A b := by rw [hAe]; exact Nat.not_le.mpr hbl
  refine lv_aload_n hx hb dL_law_140 rfl (lv_at hl 1 rfl) ?_
  refine lv_aload_n hx hb dL_law_141 rfl (lv_at hl 0 rfl) ?_
  refine lv_iload hx hb dL_law_142 (lv_at hl 4 rfl) ?_
  refine lv_iconst (v := 1) hx hb dL_law_144 (by decide) ?_
  refine lv_iadd hx hb dL_law_145 ?_
  refine lv_topi (fun f_1 ef_1 => ?_)
  obtain rfl : f_1 = 1 := by rw [ef_1]; decide
  refine va_sld hx hb hX hbl hbA hS (show ¬ ((1 : Int32) < 0 ∨ 6 ≤ (1 : Int32).toNatClampNeg) by decide) dL_law_146 ?_
  refine W.eq (g2 := F0 m 147 ls [.int (xs 1), .ref h0]) rfl ?_
  refine lv_aload_n hx hb dL_law_147 rfl (lv_at hl 0 rfl) ?_
  refine lv_iload hx hb dL_law_148 (lv_at hl 4 rfl) ?_
  refine lv_iconst (v := 2) hx hb dL_law_150 (by decide) ?_
  refine lv_iadd hx hb dL_law_151 ?_
  refine lv_topi (fun f_2 ef_2 => ?_)
  obtain rfl : f_2 = 2 := by rw [ef_2]; decide
  refine va_sld hx hb hX hbl hbA hS (show ¬ ((2 : Int32) < 0 ∨ 6 ≤ (2 : Int32).toNatClampNeg) by decide) dL_law_152 ?_
  refine W.eq (g2 := F0 m 153 ls [.int (xs 2), .int (xs 1), .ref h0]) rfl ?_
  refine lv_aload_n hx hb dL_law_153 rfl (lv_at hl 0 rfl) ?_
  refine lv_iload hx hb dL_law_154 (lv_at hl 4 rfl) ?_
  refine lv_iconst (v := 3) hx hb dL_law_156 (by decide) ?_
  refine lv_iadd hx hb dL_law_157 ?_
  refine lv_topi (fun f_3 ef_3 => ?_)
  obtain rfl : f_3 = 3 := by rw [ef_3]; decide
  refine va_sld hx hb hX hbl hbA hS (show ¬ ((3 : Int32) < 0 ∨ 6 ≤ (3 : Int32).toNatClampNeg) by decide) dL_law_158 ?_
  refine W.eq (g2 := F0 m 159 ls [.int (xs 3), .int (xs 2), .int (xs 1), .ref h0]) rfl ?_
  refine lv_aload_n hx hb dL_law_159 rfl (lv_at hl 0 rfl) ?_
  refine lv_iload hx hb dL_law_160 (lv_at hl 4 rfl) ?_
  refine lv_iconst (v := 4) hx hb dL_law_162 (by decide) ?_
  refine lv_iadd hx hb dL_law_163 ?_
  refine lv_topi (fun f_4 ef_4 => ?_)
  obtain rfl : f_4 = 4 := by rw [ef_4]; decide
  refine va_sld hx hb hX hbl hbA hS (show ¬ ((4 : Int32) < 0 ∨ 6 ≤ (4 : Int32).toNatClampNeg) by decide) dL_law_164 ?_
  refine W.eq (g2 := F0 m 165 ls [.int (xs 4), .int (xs 3), .int (xs 2), .int (xs 1), .ref h0]) rfl ?_
  refine lv_aload_n hx hb dL_law_165 rfl (lv_at hl 0 rfl) ?_
  refine lv_iload hx hb dL_law_166 (lv_at hl 4 rfl) ?_
  refine lv_iconst (v := 5) hx hb dL_law_168 (by decide) ?_
  refine lv_iadd hx hb dL_law_169 ?_
  refine lv_topi (fun f_5 ef_5 => ?_)
  obtain rfl : f_5 = 5 := by rw [ef_5]; decide
  refine va_sld hx hb hX hbl hbA hS (show ¬ ((5 : Int32) < 0 ∨ 6 ≤ (5 : Int32).toNatClampNeg) by decide) dL_law_170 ?_
  refine W.eq (g2 := F0 m 171 ls [.int (xs 5), .int (xs 4), .int (xs 3), .int (xs 2), .int (xs 1), .ref h0]) rfl ?_
  have hPc := hP.sub (ws' := [(h0, .inr (13, [.ref (ad 0), .int 0, .int 0, .ref (ad 1), .ref (ad 2), .ref (ad 3), .ref (ad 4), .ref (ad 5), .ref (ad 6)])), ((ad 0), .inl ((cl 0), 4000, .inl (fun _ => 0)))]) [0, 1] rfl
  have hDc := hD.sub (ws' := [(h0, .inr (13, [.ref (ad 0), .int 0, .int 0, .ref (ad 1), .ref (ad 2), .ref (ad 3), .ref (ad 4), .ref (ad 5), .ref (ad 6)])), ((ad 0), .inl ((cl 0), 4000, .inl (fun _ => 0)))]) [0, 1] (by decide) rfl
  have hKc := hK.sub (tys' := [((cl 0), .int)]) [0] rfl
  have hFc := va_free (wc := [(h0, .inr (13, [.ref (ad 0), .int 0, .int 0, .ref (ad 1), .ref (ad 2), .ref (ad 3), .ref (ad 4), .ref (ad 5), .ref (ad 6)])), ((ad 0), .inl ((cl 0), 4000, .inl (fun _ => 0)))]) hD hS hA [0, 1] rfl
  refine va_calli (va_runV (As := [.int (xs 1), .int (xs 2), .int (xs 3), .int (xs 4), .int (xs 5)]) (rest := []) ⟨hx, hb, hml, hown, hts⟩ (k_X11_feed l dC dI H.size h0 ad cl (xs 1) (xs 2) (xs 3) (xs 4) (xs 5)) (cwV 5 hts vg_law_k_X11_feed rfl rfl rfl (by decide +kernel) ⟨Nat.le_of_ble_eq_true rfl, Nat.le_of_ble_eq_true rfl⟩) ⟨fun a U g mk q => by obtain ⟨q0, q1, qP, qK, qD⟩ := q; exact ⟨q0, q1, qP, va_K.moved (u := U) (U := U.calling g mk a) (Vm.Alike.refl U.vm) qK, qD⟩, va_recv hKc hPc (ci := 13) (q0 := 0) rfl rfl, fun U hU hW => ⟨rfl, by rw [hU], by rw [hU]; exact hPc, va_K.moved hW.alike hKc, hDc.weaken (fun _ _ _ _ => trivial)⟩⟩ rfl rfl hl.1 rfl (lv_room (Nat.le_of_ble_eq_true rfl)) dL_law_171 ⟨Nat.le_of_ble_eq_true rfl, Nat.le_of_ble_eq_true rfl⟩) hS (fun q _ h => hFc q h) hFc (fun r_6 u t H1 locs ht hvm hw hB hz1 hk1 hS => ?_)
  try dsimp only at hw
  obtain ⟨hP, hD⟩ := va_join (wr := [(hm, .inr (14, (m_obj adm))), ((adm 0), .inl ((cm 0), 4000, .inl (fun _ => 0)))]) (w1 := []) hP hD [0, 1] [2, 3] rfl rfl (by decide) (by decide) hk1 hFc (fun k q h => by simp at h) ⟨fun i j p q h => by simp at h, fun k q h => by simp at h⟩
  generalize H1 = H at hP hS ⊢
  have hP : va_P (dC, dI) vwCl [(hm, .inr (14, (m_obj adm))), ((adm 0), .inl ((cm 0), 4000, .inl (fun _ => 0)))] H := hP
  have hD : va_D A [(hm, .inr (14, (m_obj adm))), ((adm 0), .inl ((cm 0), 4000, .inl (fun _ => 0)))] := hD
  obtain rfl : r_6 = 20 := hw
  refine lv_aload_n hx hb dL_law_174 rfl (lv_at hl 2 rfl) ?_
  refine lv_aload_n hx hb dL_law_175 rfl (lv_at hl 0 rfl) ?_
  refine lv_iload hx hb dL_law_176 (lv_at hl 4 rfl) ?_
  refine lv_iconst (v := 1) hx hb dL_law_178 (by decide) ?_
  refine lv_iadd hx hb dL_law_179 ?_
  refine lv_topi (fun f_7 ef_7 => ?_)
  obtain rfl : f_7 = 1 := by rw [ef_7]; decide
  refine va_sld hx hb hX hbl hbA hS (show ¬ ((1 : Int32) < 0 ∨ 6 ≤ (1 : Int32).toNatClampNeg) by decide) dL_law_180 ?_
  refine W.eq (g2 := F0 m 181 ls [.int (xs 1), .ref hm, .int 20]) rfl ?_
  refine lv_aload_n hx hb dL_law_181 rfl (lv_at hl 0 rfl) ?_
  refine lv_iload hx hb dL_law_182 (lv_at hl 4 rfl) ?_
  refine lv_iconst (v := 2) hx hb dL_law_184 (by decide) ?_
  refine lv_iadd hx hb dL_law_185 ?_
  refine lv_topi (fun f_8 ef_8 => ?_)
  obtain rfl : f_8 = 2 := by rw [ef_8]; decide
  refine va_sld hx hb hX hbl hbA hS (show ¬ ((2 : Int32) < 0 ∨ 6 ≤ (2 : Int32).toNatClampNeg) by decide) dL_law_186 ?_
  refine W.eq (g2 := F0 m 187 ls [.int (xs 2), .int (xs 1), .ref hm, .int 20]) rfl ?_
  refine lv_aload_n hx hb dL_law_187 rfl (lv_at hl 0 rfl) ?_
  refine lv_iload hx hb dL_law_188 (lv_at hl 4 rfl) ?_
  refine lv_iconst (v := 3) hx hb dL_law_190 (by decide) ?_
  refine lv_iadd hx hb dL_law_191 ?_
  refine lv_topi (fun f_9 ef_9 => ?_)
  obtain rfl : f_9 = 3 := by rw [ef_9]; decide
  refine va_sld hx hb hX hbl hbA hS (show ¬ ((3 : Int32) < 0 ∨ 6 ≤ (3 : Int32).toNatClampNeg) by decide) dL_law_192 ?_
  refine W.eq (g2 := F0 m 193 ls [.int (xs 3), .int (xs 2), .int (xs 1), .ref hm, .int 20]) rfl ?_
  refine lv_aload_n hx hb dL_law_193 rfl (lv_at hl 0 rfl) ?_
  refine lv_iload hx hb dL_law_194 (lv_at hl 4 rfl) ?_
  refine lv_iconst (v := 4) hx hb dL_law_196 (by decide) ?_
  refine lv_iadd hx hb dL_law_197 ?_
  refine lv_topi (fun f_10 ef_10 => ?_)
  obtain rfl : f_10 = 4 := by rw [ef_10]; decide
  refine va_sld hx hb hX hbl hbA hS (show ¬ ((4 : Int32) < 0 ∨ 6 ≤ (4 : Int32).toNatClampNeg) by decide) dL_law_198 ?_
  refine W.eq (g2 := F0 m 199 ls [.int (xs 4), .int (xs 3), .int (xs 2), .int (xs 1), .ref hm, .int 20]) rfl ?_
  refine lv_aload_n hx hb dL_law_199 rfl (lv_at hl 0 rfl) ?_
  refine lv_iload hx hb dL_law_200 (lv_at hl 4 rfl) ?_
  refine lv_iconst (v := 5) hx hb dL_law_202 (by decide) ?_
  refine lv_iadd hx hb dL_law_203 ?_
  refine lv_topi (fun f_11 ef_11 => ?_)
  obtain rfl : f_11 = 5 := by rw [ef_11]; decide
  refine va_sld hx hb hX hbl hbA hS (show ¬ ((5 : Int32) < 0 ∨ 6 ≤ (5 : Int32).toNatClampNeg) by decide) dL_law_204 ?_
  refine W.eq (g2 := F0 m 205 ls [.int (xs 5), .int (xs 4), .int (xs 3), .int (xs 2), .int (xs 1), .ref hm, .int 20]) rfl ?_
  have hPc := hP.sub (ws' := [(hm, .inr (14, (m_obj adm))), ((adm 0), .inl ((cm 0), 4000, .inl (fun _ => 0)))]) [0, 1] rfl
  have hDc := hD.sub (ws' := [(hm, .inr (14, (m_obj adm))), ((adm 0), .inl ((cm 0), 4000, .inl (fun _ => 0)))]) [0, 1] (by decide) rfl
  have hKc := hK.sub (tys' := [((cm 0), .byte)]) [1] rfl
  have hFc := va_free (wc := [(hm, .inr (14, (m_obj adm))), ((adm 0), .inl ((cm 0), 4000, .inl (fun _ => 0)))]) hD hS hA [0, 1] rfl
  refine va_calli (va_runV (As := [.int (xs 1), .int (xs 2), .int (xs 3), .int (xs 4), .int (xs 5)]) (rest := [.int 20]) ⟨hx, hb, hml, hown, hts⟩ (k_X12_feed l dC dI H.size hm adm (cm 0) (fun _ => 0) (xs 1) (xs 2) (xs 3) (xs 4) (xs 5)) (cwV 5 hts vg_law_k_X12_feed rfl rfl rfl (by decide +kernel) ⟨Nat.le_of_ble_eq_true rfl, Nat.le_of_ble_eq_true rfl⟩) ⟨fun a U g mk q => by obtain ⟨q0, q1, qP, qK, qD⟩ := q; exact ⟨q0, q1, qP, va_K.moved (u := U) (U := U.calling g mk a) (Vm.Alike.refl U.vm) qK, qD⟩, va_recv hKc hPc (ci := 14) (q0 := 0) rfl rfl, fun U hU hW => ⟨rfl, by rw [hU], by rw [hU]; exact hPc, va_K.moved hW.alike hKc, hDc.weaken (fun _ _ _ _ => trivial)⟩⟩ rfl rfl hl.1 rfl (lv_room (Nat.le_of_ble_eq_true rfl)) dL_law_205 ⟨Nat.le_of_ble_eq_true rfl, Nat.le_of_ble_eq_true rfl⟩) hS (fun q _ h => hFc q h) hFc (fun r_12 u t H1 locs ht hvm hw hB hz1 hk1 hS => ?_)
  try dsimp only at hw
  obtain ⟨hP, hD⟩ := va_join (wr := []) (w1 := []) hP hD [0, 1] [] rfl rfl (by decide) (by decide) hk1 hFc (fun k q h => by simp at h) ⟨fun i j p q h => by simp at h, fun k q h => by simp at h⟩
  generalize H1 = H at hP hS ⊢
  have hP : va_P (dC, dI) vwCl [] H := hP
  have hD : va_D A [] := hD
  obtain rfl : r_12 = 20 := hw
  refine lv_icmp_eq (tgt := 970) hx hb dL_law_208 (by decide) (fun _ => ?_) (fun c13_208 => absurd (by decide) c13_208)
  refine lv_iinc (v := 6) (lv' := [(4, .int 6), (0, .ref b), (1, .ref h0), (2, .ref hm), (3, .ref qo)]) hx hb dL_law_970 hl (k := 4) rfl (by decide) (by decide) rfl (fun ls hl => ?_)
  refine lv_goto (tgt := 23) hx hb dL_law_973 (by decide) ?_
  refine lv_iload hx hb dL_law_23 (lv_at hl 0 rfl) ?_
  refine lv_aload_n hx hb dL_law_25 rfl (lv_at hl 1 rfl) ?_
  refine va_slen hx hb hX hbl hbA hS dL_law_26 ?_
  refine W.eq (g2 := F0 m 27 ls [.int 6, .int 6]) rfl ?_
  refine lv_bipush (v := 6) hx hb dL_law_27 (by decide) ?_
  refine lv_isub hx hb dL_law_29 ?_
  refine lv_topi (fun f_14 ef_14 => ?_)
  obtain rfl : f_14 = 0 := by rw [ef_14]; decide
  refine lv_icmp_gt (tgt := 976) hx hb dL_law_30 (by decide) (fun _ => ?_) (fun c15_30 => absurd (by decide) c15_30)
  refine lv_iconst (v := 1) hx hb dL_law_976 (by decide) ?_
  refine va_forget (fun q hq => by have h9 := hS.2.2 q hq; rw [hAe] at h9; exact h9) ?_
  refine W.widen (k := 258412) (n := 8327002) (Nat.le_of_ble_eq_true rfl) (Nat.le_of_ble_eq_true rfl) ?_
  exact lw_ret hx hb hr hlocks dL_law_977

set_option maxHeartbeats 8000000 in
set_option maxRecDepth 100000 in
theorem law_c213 {p : Program} {e : Env} {s : State} {m : MethodId} {below : List Frame} {meth : Method} {c : Code} {l : Launch} (hst : l.stackTraces = false) {b : Nat} {xs : Nat → Int32} (C0 : lw_At p s m meth c b 6 xs) {dC : Nat → ClassId} {dI : Nat → Nat → Nat} {aS aV bS bV tR s1 s2 s3 : Nat} (hE : zE aS aV bS bV tR s1 s2 s3 (fun q : Nat => s.heap.size ≤ q) s s.heap) {h0 : Nat} {ad : Nat → Nat} {hm : Nat} {adm : Nat → Nat} {qo : Nat} {H : Heap} {locs : List Loc} {ls : Array Slot} (hK : va_K (dC, dI) vwCl [] s) (hP : va_P (dC, dI) vwCl [(h0, .inr (13, [.ref (ad 0), .int 0, .int 0, .ref (ad 1), .ref (ad 2), .ref (ad 3), .ref (ad 4), .ref (ad 5), .ref (ad 6)])), (hm, .inr (14, (m_obj adm)))] H) (hD : va_D (fun q : Nat => s.heap.size ≤ q) [(h0, .inr (13, [.ref (ad 0), .int 0, .int 0, .ref (ad 1), .ref (ad 2), .ref (ad 3), .ref (ad 4), .ref (ad 5), .ref (ad 6)])), (hm, .inr (14, (m_obj adm)))]) (hS : va_S (fun q : Nat => s.heap.size ≤ q) s.heap H locs) (hl : lv_has ls 7 [(0, .ref b), (1, .ref h0), (2, .ref hm), (3, .ref qo), (4, .int 0)]) : W p l e room_1 s m #[Value.ref b] below meth c H locs 184 4401688 (lw_Z below #[Value.ref b] s) (F0 m 213 ls []) := by
  obtain ⟨hx, hb, hr, hml, hown, hts0, hX, hbl, hlocks, hgv⟩ := id C0
  have hown : s.vm.findClass RL = some m.cls := hown
  have hts : ∀ w ∈ vw_law, w.before #[Value.ref b] s = true := fun w h => hts0 w (vz_law w h)
  obtain ⟨A, hAe⟩ : ∃ A : Nat → Prop, A = (fun q : Nat => s.heap.size ≤ q) := ⟨_, rfl⟩
  rw [← hAe] at hE hD hS
  have hA : ∀ q : Nat, s.heap.size ≤ q → A q := by rw [hAe]; exact fun _ h => h
  have hbA : ¬ A b := by rw [hAe]; exact Nat.not_le.mpr hbl
  refine lv_aload_n hx hb dL_law_213 rfl (lv_at hl 1 rfl) ?_
  refine lv_aload_n hx hb dL_law_214 rfl (lv_at hl 0 rfl) ?_
  refine lv_iload hx hb dL_law_215 (lv_at hl 4 rfl) ?_
  refine lv_iconst (v := 1) hx hb dL_law_217 (by decide) ?_
  refine lv_iadd hx hb dL_law_218 ?_
  refine lv_topi (fun f_1 ef_1 => ?_)
  obtain rfl : f_1 = 1 := by rw [ef_1]; decide
  refine va_sld hx hb hX hbl hbA hS (show ¬ ((1 : Int32) < 0 ∨ 6 ≤ (1 : Int32).toNatClampNeg) by decide) dL_law_219 ?_
  refine W.eq (g2 := F0 m 220 ls [.int (xs 1), .ref h0]) rfl ?_
  have hPc := hP.sub (ws' := [(h0, .inr (13, [.ref (ad 0), .int 0, .int 0, .ref (ad 1), .ref (ad 2), .ref (ad 3), .ref (ad 4), .ref (ad 5), .ref (ad 6)]))]) [0] rfl
  have hDc := hD.sub (ws' := [(h0, .inr (13, [.ref (ad 0), .int 0, .int 0, .ref (ad 1), .ref (ad 2), .ref (ad 3), .ref (ad 4), .ref (ad 5), .ref (ad 6)]))]) [0] (by decide) rfl
  have hKc := hK.sub (tys' := []) [] rfl
  have hFc := va_free (wc := [(h0, .inr (13, [.ref (ad 0), .int 0, .int 0, .ref (ad 1), .ref (ad 2), .ref (ad 3), .ref (ad 4), .ref (ad 5), .ref (ad 6)]))]) hD hS hA [0] rfl
  refine va_calli (va_runV (As := [.int (xs 1)]) (rest := []) ⟨hx, hb, hml, hown, hts⟩ (k_X11_back l dC dI H.size h0 ad (xs 1)) (cwV 1 hts vg_law_k_X11_back rfl rfl rfl (by decide +kernel) ⟨Nat.le_of_ble_eq_true rfl, Nat.le_of_ble_eq_true rfl⟩) ⟨fun a U g mk q => by obtain ⟨q0, q1, qP, qK, qD⟩ := q; exact ⟨q0, q1, qP, va_K.moved (u := U) (U := U.calling g mk a) (Vm.Alike.refl U.vm) qK, qD⟩, va_recv hKc hPc (ci := 13) (q0 := 0) rfl rfl, fun U hU hW => ⟨rfl, by rw [hU], by rw [hU]; exact hPc, va_K.moved hW.alike hKc, hDc.weaken (fun _ _ _ _ => trivial)⟩⟩ rfl rfl hl.1 rfl (lv_room (Nat.le_of_ble_eq_true rfl)) dL_law_220 ⟨Nat.le_of_ble_eq_true rfl, Nat.le_of_ble_eq_true rfl⟩) hS (fun q _ h => hFc q h) hFc (fun r_2 u t H1 locs ht hvm hw hB hz1 hk1 hS => ?_)
  try dsimp only at hw
  obtain ⟨hP, hD⟩ := va_join (wr := [(hm, .inr (14, (m_obj adm)))]) (w1 := []) hP hD [0] [1] rfl rfl (by decide) (by decide) hk1 hFc (fun k q h => by simp at h) ⟨fun i j p q h => by simp at h, fun k q h => by simp at h⟩
  generalize H1 = H at hP hS ⊢
  have hP : va_P (dC, dI) vwCl [(hm, .inr (14, (m_obj adm)))] H := hP
  have hD : va_D A [(hm, .inr (14, (m_obj adm)))] := hD
  obtain rfl : r_2 = (k_back (xs 1)) := hw
  refine lv_aload_n hx hb dL_law_223 rfl (lv_at hl 2 rfl) ?_
  refine lv_aload_n hx hb dL_law_224 rfl (lv_at hl 0 rfl) ?_
  refine lv_iload hx hb dL_law_225 (lv_at hl 4 rfl) ?_
  refine lv_iconst (v := 1) hx hb dL_law_227 (by decide) ?_
  refine lv_iadd hx hb dL_law_228 ?_
  refine lv_topi (fun f_3 ef_3 => ?_)
  obtain rfl : f_3 = 1 := by rw [ef_3]; decide
  refine va_sld hx hb hX hbl hbA hS (show ¬ ((1 : Int32) < 0 ∨ 6 ≤ (1 : Int32).toNatClampNeg) by decide) dL_law_229 ?_
  refine W.eq (g2 := F0 m 230 ls [.int (xs 1), .ref hm, .int (k_back (xs 1))]) rfl ?_
  have hPc := hP.sub (ws' := [(hm, .inr (14, (m_obj adm)))]) [0] rfl
  have hDc := hD.sub (ws' := [(hm, .inr (14, (m_obj adm)))]) [0] (by decide) rfl
  have hKc := hK.sub (tys' := []) [] rfl
  have hFc := va_free (wc := [(hm, .inr (14, (m_obj adm)))]) hD hS hA [0] rfl
  refine va_calli (va_runV (As := [.int (xs 1)]) (rest := [.int (k_back (xs 1))]) ⟨hx, hb, hml, hown, hts⟩ (k_X12_back l dC dI H.size hm adm (xs 1)) (cwV 1 hts vg_law_k_X12_back rfl rfl rfl (by decide +kernel) ⟨Nat.le_of_ble_eq_true rfl, Nat.le_of_ble_eq_true rfl⟩) ⟨fun a U g mk q => by obtain ⟨q0, q1, qP, qK, qD⟩ := q; exact ⟨q0, q1, qP, va_K.moved (u := U) (U := U.calling g mk a) (Vm.Alike.refl U.vm) qK, qD⟩, va_recv hKc hPc (ci := 14) (q0 := 0) rfl rfl, fun U hU hW => ⟨rfl, by rw [hU], by rw [hU]; exact hPc, va_K.moved hW.alike hKc, hDc.weaken (fun _ _ _ _ => trivial)⟩⟩ rfl rfl hl.1 rfl (lv_room (Nat.le_of_ble_eq_true rfl)) dL_law_230 ⟨Nat.le_of_ble_eq_true rfl, Nat.le_of_ble_eq_true rfl⟩) hS (fun q _ h => hFc q h) hFc (fun r_4 u t H1 locs ht hvm hw hB hz1 hk1 hS => ?_)
  try dsimp only at hw
  obtain ⟨hP, hD⟩ := va_join (wr := []) (w1 := []) hP hD [0] [] rfl rfl (by decide) (by decide) hk1 hFc (fun k q h => by simp at h) ⟨fun i j p q h => by simp at h, fun k q h => by simp at h⟩
  generalize H1 = H at hP hS ⊢
  have hP : va_P (dC, dI) vwCl [] H := hP
  have hD : va_D A [] := hD
  obtain rfl : r_4 = (k_back (xs 1)) := hw
  refine lv_icmp_eq (tgt := 970) hx hb dL_law_233 (by decide) (fun _ => ?_) (fun c9 => absurd rfl c9)
  refine lv_iinc (v := 6) (lv' := [(4, .int 6), (0, .ref b), (1, .ref h0), (2, .ref hm), (3, .ref qo)]) hx hb dL_law_970 hl (k := 4) rfl (by decide) (by decide) rfl (fun ls hl => ?_)
  refine lv_goto (tgt := 23) hx hb dL_law_973 (by decide) ?_
  refine lv_iload hx hb dL_law_23 (lv_at hl 0 rfl) ?_
  refine lv_aload_n hx hb dL_law_25 rfl (lv_at hl 1 rfl) ?_
  refine va_slen hx hb hX hbl hbA hS dL_law_26 ?_
  refine W.eq (g2 := F0 m 27 ls [.int 6, .int 6]) rfl ?_
  refine lv_bipush (v := 6) hx hb dL_law_27 (by decide) ?_
  refine lv_isub hx hb dL_law_29 ?_
  refine lv_topi (fun f_6 ef_6 => ?_)
  obtain rfl : f_6 = 0 := by rw [ef_6]; decide
  refine lv_icmp_gt (tgt := 976) hx hb dL_law_30 (by decide) (fun _ => ?_) (fun c7_30 => absurd (by decide) c7_30)
  refine lv_iconst (v := 1) hx hb dL_law_976 (by decide) ?_
  refine va_forget (fun q hq => by have h9 := hS.2.2 q hq; rw [hAe] at h9; exact h9) ?_
  refine W.widen (k := 258412) (n := 8327002) (Nat.le_of_ble_eq_true rfl) (Nat.le_of_ble_eq_true rfl) ?_
  exact lw_ret hx hb hr hlocks dL_law_977

set_option maxHeartbeats 8000000 in
set_option maxRecDepth 100000 in
theorem law_c238 {p : Program} {e : Env} {s : State} {m : MethodId} {below : List Frame} {meth : Method} {c : Code} {l : Launch} (hst : l.stackTraces = false) {b : Nat} {xs : Nat → Int32} (C0 : lw_At p s m meth c b 6 xs) {dC : Nat → ClassId} {dI : Nat → Nat → Nat} {aS aV bS bV tR s1 s2 s3 : Nat} (hE : zE aS aV bS bV tR s1 s2 s3 (fun q : Nat => s.heap.size ≤ q) s s.heap) {h0 : Nat} {ad : Nat → Nat} {cl : Nat → ClassId} {hm : Nat} {adm : Nat → Nat} {cm : Nat → ClassId} {qo : Nat} {H : Heap} {locs : List Loc} {ls : Array Slot} (hK : va_K (dC, dI) vwCl [((cl 0), .int), ((cl 6), .int), ((cl 7), .int), ((cl 8), .int), ((cl 9), .int), ((cl 10), .int), ((cl 11), .int), ((cl 12), .int), ((cl 13), .int), ((cl 14), .int), ((cl 15), .int), ((cl 16), .int), ((cl 17), .int), ((cl 21), .int), ((cl 22), .int), ((cl 23), .int), ((cl 24), .int), ((cm 2), .char), ((cm 3), .int), ((cm 4), .char), ((cm 5), .int), ((cm 7), .int), ((cm 8), .int), ((cm 9), .int), ((cm 14), .int), ((cm 21), .int), ((cm 23), .int), ((cm 25), .int), ((cm 26), .int), ((cm 27), .int), ((cm 28), .int), ((cm 29), .int)] s) (hP : va_P (dC, dI) vwCl [(h0, .inr (13, [.ref (ad 0), .int 0, .int 0, .ref (ad 1), .ref (ad 2), .ref (ad 3), .ref (ad 4), .ref (ad 5), .ref (ad 6)])), ((ad 0), .inl ((cl 0), 4000, .inl (fun _ => 0))), ((ad 1), .inr (11, [.ref (ad 7), .ref (ad 8), .ref (ad 9), .ref (ad 10), .ref (ad 11), .int 0, .int 0, .int 31, .int 31, .int 0, .int 0])), ((ad 2), .inr (3, [.ref (ad 12), .ref (ad 13), .ref (ad 14), .ref (ad 15), .ref (ad 16), .ref (ad 17), .int 0, .int 0, .int 0, .int 0, .ref (ad 18), .ref (ad 19), .ref (ad 20), .ref (ad 21), .ref (ad 22), .ref (ad 23), .ref (ad 24), .int 0])), ((ad 12), .inl ((cl 6), 600, .inl (fun _ => 0))), ((ad 13), .inl ((cl 7), 600, .inl (fun _ => 0))), ((ad 14), .inl ((cl 8), 600, .inl (fun _ => 0))), ((ad 15), .inl ((cl 9), 600, .inl (fun _ => 0))), ((ad 16), .inl ((cl 10), 600, .inl (fun _ => 0))), ((ad 17), .inl ((cl 11), 600, .inl (fun _ => 0))), ((ad 18), .inl ((cl 12), 11, .inl (fun _ => 0))), ((ad 19), .inl ((cl 13), 11, .inl (fun _ => 0))), ((ad 20), .inl ((cl 14), 11, .inl (fun _ => 0))), ((ad 21), .inl ((cl 15), 11, .inl (fun _ => 0))), ((ad 22), .inl ((cl 16), 11, .inl (fun _ => 0))), ((ad 24), .inl ((cl 17), 11, .inl (fun _ => 0))), ((ad 3), .inr (4, [.ref (ad 2), .ref (ad 25), .ref (ad 26), .ref (ad 27), .int 0, .int 0, .int 0, .int 0, .ref (ad 28), .ref (ad 29), .ref (ad 30), .ref (ad 31), .ref (ad 32), .ref (ad 33), .ref (ad 34), .int 0, .int 0])), ((ad 28), .inl ((cl 21), 4096, .inl (fun _ => 0))), ((ad 29), .inl ((cl 22), 4096, .inl (fun _ => 0))), ((ad 30), .inl ((cl 23), 11, .inl (fun _ => 0))), ((ad 31), .inl ((cl 24), 11, .inl (fun _ => 0))), ((ad 4), .inr (7, [.ref (ad 38), .ref (ad 0), .ref (ad 1), .ref (ad 2), .ref (ad 3), .int 0, .int 0, .int 0, .int 0, .int 0, .int 0, .int 0, .int 0, .ref (ad 35), .int 0, .ref (ad 36), .ref (ad 37)])), ((ad 38), .inr (8, [.ref (ad 0), .int 0, .int 0, .int 0, .int 0, .int 0, .int 0, .int 0, .ref (ad 39), .int 0, .int 0, .int 0, .int 0, .int 0, .int 0])), ((ad 5), .inr (6, [.ref (ad 2), .ref (ad 1), .ref (ad 40), .int 0, .int 0, .ref (ad 41), .int 0, .int 0, .ref (ad 42), .int 0, .ref (ad 43), .int 0, .ref (ad 44), .int 0, .int 0, .int 0])), ((ad 6), .inr (10, [.ref (ad 2), .ref (ad 1), .ref (ad 48), .ref (ad 49), .ref (ad 50), .ref (ad 51), .ref (ad 52), .int 0, .ref (ad 53), .ref (ad 54), .int 0, .int 0, .int 0, .ref (ad 55), .ref (ad 56), .ref (ad 57), .ref (ad 58), .ref (ad 59), .ref (ad 60), .ref (ad 61), .ref (ad 62)])), (hm, .inr (14, (m_obj adm))), ((adm 2), .inl ((cm 2), 24000, .inl (fun _ => 0))), ((adm 3), .inl ((cm 3), 400, .inl (fun _ => 0))), ((adm 4), .inl ((cm 4), 200, .inl (fun _ => 0))), ((adm 5), .inl ((cm 5), 4002, .inl (fun _ => 0))), ((adm 7), .inl ((cm 7), 4002, .inl (fun _ => 0))), ((adm 8), .inl ((cm 8), 4002, .inl (fun _ => 0))), ((adm 9), .inl ((cm 9), 4002, .inl (fun _ => 0))), ((adm 14), .inl ((cm 14), 200, .inl (fun _ => 0))), ((adm 21), .inl ((cm 21), 12, .inl (fun _ => 0))), ((adm 23), .inl ((cm 23), 12, .inl (fun _ => 0))), ((adm 25), .inl ((cm 25), 600, .inl (fun _ => 0))), ((adm 26), .inl ((cm 26), 600, .inl (fun _ => 0))), ((adm 27), .inl ((cm 27), 600, .inl (fun _ => 0))), ((adm 28), .inl ((cm 28), 600, .inl (fun _ => 0))), ((adm 29), .inl ((cm 29), 12, .inl (fun _ => 0)))] H) (hD : va_D (fun q : Nat => s.heap.size ≤ q) [(h0, .inr (13, [.ref (ad 0), .int 0, .int 0, .ref (ad 1), .ref (ad 2), .ref (ad 3), .ref (ad 4), .ref (ad 5), .ref (ad 6)])), ((ad 0), .inl ((cl 0), 4000, .inl (fun _ => 0))), ((ad 1), .inr (11, [.ref (ad 7), .ref (ad 8), .ref (ad 9), .ref (ad 10), .ref (ad 11), .int 0, .int 0, .int 31, .int 31, .int 0, .int 0])), ((ad 2), .inr (3, [.ref (ad 12), .ref (ad 13), .ref (ad 14), .ref (ad 15), .ref (ad 16), .ref (ad 17), .int 0, .int 0, .int 0, .int 0, .ref (ad 18), .ref (ad 19), .ref (ad 20), .ref (ad 21), .ref (ad 22), .ref (ad 23), .ref (ad 24), .int 0])), ((ad 12), .inl ((cl 6), 600, .inl (fun _ => 0))), ((ad 13), .inl ((cl 7), 600, .inl (fun _ => 0))), ((ad 14), .inl ((cl 8), 600, .inl (fun _ => 0))), ((ad 15), .inl ((cl 9), 600, .inl (fun _ => 0))), ((ad 16), .inl ((cl 10), 600, .inl (fun _ => 0))), ((ad 17), .inl ((cl 11), 600, .inl (fun _ => 0))), ((ad 18), .inl ((cl 12), 11, .inl (fun _ => 0))), ((ad 19), .inl ((cl 13), 11, .inl (fun _ => 0))), ((ad 20), .inl ((cl 14), 11, .inl (fun _ => 0))), ((ad 21), .inl ((cl 15), 11, .inl (fun _ => 0))), ((ad 22), .inl ((cl 16), 11, .inl (fun _ => 0))), ((ad 24), .inl ((cl 17), 11, .inl (fun _ => 0))), ((ad 3), .inr (4, [.ref (ad 2), .ref (ad 25), .ref (ad 26), .ref (ad 27), .int 0, .int 0, .int 0, .int 0, .ref (ad 28), .ref (ad 29), .ref (ad 30), .ref (ad 31), .ref (ad 32), .ref (ad 33), .ref (ad 34), .int 0, .int 0])), ((ad 28), .inl ((cl 21), 4096, .inl (fun _ => 0))), ((ad 29), .inl ((cl 22), 4096, .inl (fun _ => 0))), ((ad 30), .inl ((cl 23), 11, .inl (fun _ => 0))), ((ad 31), .inl ((cl 24), 11, .inl (fun _ => 0))), ((ad 4), .inr (7, [.ref (ad 38), .ref (ad 0), .ref (ad 1), .ref (ad 2), .ref (ad 3), .int 0, .int 0, .int 0, .int 0, .int 0, .int 0, .int 0, .int 0, .ref (ad 35), .int 0, .ref (ad 36), .ref (ad 37)])), ((ad 38), .inr (8, [.ref (ad 0), .int 0, .int 0, .int 0, .int 0, .int 0, .int 0, .int 0, .ref (ad 39), .int 0, .int 0, .int 0, .int 0, .int 0, .int 0])), ((ad 5), .inr (6, [.ref (ad 2), .ref (ad 1), .ref (ad 40), .int 0, .int 0, .ref (ad 41), .int 0, .int 0, .ref (ad 42), .int 0, .ref (ad 43), .int 0, .ref (ad 44), .int 0, .int 0, .int 0])), ((ad 6), .inr (10, [.ref (ad 2), .ref (ad 1), .ref (ad 48), .ref (ad 49), .ref (ad 50), .ref (ad 51), .ref (ad 52), .int 0, .ref (ad 53), .ref (ad 54), .int 0, .int 0, .int 0, .ref (ad 55), .ref (ad 56), .ref (ad 57), .ref (ad 58), .ref (ad 59), .ref (ad 60), .ref (ad 61), .ref (ad 62)])), (hm, .inr (14, (m_obj adm))), ((adm 2), .inl ((cm 2), 24000, .inl (fun _ => 0))), ((adm 3), .inl ((cm 3), 400, .inl (fun _ => 0))), ((adm 4), .inl ((cm 4), 200, .inl (fun _ => 0))), ((adm 5), .inl ((cm 5), 4002, .inl (fun _ => 0))), ((adm 7), .inl ((cm 7), 4002, .inl (fun _ => 0))), ((adm 8), .inl ((cm 8), 4002, .inl (fun _ => 0))), ((adm 9), .inl ((cm 9), 4002, .inl (fun _ => 0))), ((adm 14), .inl ((cm 14), 200, .inl (fun _ => 0))), ((adm 21), .inl ((cm 21), 12, .inl (fun _ => 0))), ((adm 23), .inl ((cm 23), 12, .inl (fun _ => 0))), ((adm 25), .inl ((cm 25), 600, .inl (fun _ => 0))), ((adm 26), .inl ((cm 26), 600, .inl (fun _ => 0))), ((adm 27), .inl ((cm 27), 600, .inl (fun _ => 0))), ((adm 28), .inl ((cm 28), 600, .inl (fun _ => 0))), ((adm 29), .inl ((cm 29), 12, .inl (fun _ => 0)))]) (hS : va_S (fun q : Nat => s.heap.size ≤ q) s.heap H locs) (hl : lv_has ls 7 [(0, .ref b), (1, .ref h0), (2, .ref hm), (3, .ref qo), (4, .int 0)]) : W p l e room_1 s m #[Value.ref b] below meth c H locs 184 4401688 (lw_Z below #[Value.ref b] s) (F0 m 238 ls []) := by
  obtain ⟨hx, hb, hr, hml, hown, hts0, hX, hbl, hlocks, hgv⟩ := id C0
  have hown : s.vm.findClass RL = some m.cls := hown
  have hts : ∀ w ∈ vw_law, w.before #[Value.ref b] s = true := fun w h => hts0 w (vz_law w h)
  obtain ⟨A, hAe⟩ : ∃ A : Nat → Prop, A = (fun q : Nat => s.heap.size ≤ q) := ⟨_, rfl⟩
  rw [← hAe] at hE hD hS
  have hA : ∀ q : Nat, s.heap.size ≤ q → A q := by rw [hAe]; exact fun _ h => h
  have hbA : ¬ A b := by rw [hAe]; exact Nat.not_le.mpr hbl
  refine lv_aload_n hx hb dL_law_238 rfl (lv_at hl 1 rfl) ?_
  have hPc := hP.sub (ws' := [(h0, .inr (13, [.ref (ad 0), .int 0, .int 0, .ref (ad 1), .ref (ad 2), .ref (ad 3), .ref (ad 4), .ref (ad 5), .ref (ad 6)])), ((ad 0), .inl ((cl 0), 4000, .inl (fun _ => 0))), ((ad 1), .inr (11, [.ref (ad 7), .ref (ad 8), .ref (ad 9), .ref (ad 10), .ref (ad 11), .int 0, .int 0, .int 31, .int 31, .int 0, .int 0])), ((ad 2), .inr (3, [.ref (ad 12), .ref (ad 13), .ref (ad 14), .ref (ad 15), .ref (ad 16), .ref (ad 17), .int 0, .int 0, .int 0, .int 0, .ref (ad 18), .ref (ad 19), .ref (ad 20), .ref (ad 21), .ref (ad 22), .ref (ad 23), .ref (ad 24), .int 0])), ((ad 12), .inl ((cl 6), 600, .inl (fun _ => 0))), ((ad 13), .inl ((cl 7), 600, .inl (fun _ => 0))), ((ad 14), .inl ((cl 8), 600, .inl (fun _ => 0))), ((ad 15), .inl ((cl 9), 600, .inl (fun _ => 0))), ((ad 16), .inl ((cl 10), 600, .inl (fun _ => 0))), ((ad 17), .inl ((cl 11), 600, .inl (fun _ => 0))), ((ad 18), .inl ((cl 12), 11, .inl (fun _ => 0))), ((ad 19), .inl ((cl 13), 11, .inl (fun _ => 0))), ((ad 20), .inl ((cl 14), 11, .inl (fun _ => 0))), ((ad 21), .inl ((cl 15), 11, .inl (fun _ => 0))), ((ad 22), .inl ((cl 16), 11, .inl (fun _ => 0))), ((ad 24), .inl ((cl 17), 11, .inl (fun _ => 0))), ((ad 3), .inr (4, [.ref (ad 2), .ref (ad 25), .ref (ad 26), .ref (ad 27), .int 0, .int 0, .int 0, .int 0, .ref (ad 28), .ref (ad 29), .ref (ad 30), .ref (ad 31), .ref (ad 32), .ref (ad 33), .ref (ad 34), .int 0, .int 0])), ((ad 28), .inl ((cl 21), 4096, .inl (fun _ => 0))), ((ad 29), .inl ((cl 22), 4096, .inl (fun _ => 0))), ((ad 30), .inl ((cl 23), 11, .inl (fun _ => 0))), ((ad 31), .inl ((cl 24), 11, .inl (fun _ => 0))), ((ad 4), .inr (7, [.ref (ad 38), .ref (ad 0), .ref (ad 1), .ref (ad 2), .ref (ad 3), .int 0, .int 0, .int 0, .int 0, .int 0, .int 0, .int 0, .int 0, .ref (ad 35), .int 0, .ref (ad 36), .ref (ad 37)])), ((ad 38), .inr (8, [.ref (ad 0), .int 0, .int 0, .int 0, .int 0, .int 0, .int 0, .int 0, .ref (ad 39), .int 0, .int 0, .int 0, .int 0, .int 0, .int 0])), ((ad 5), .inr (6, [.ref (ad 2), .ref (ad 1), .ref (ad 40), .int 0, .int 0, .ref (ad 41), .int 0, .int 0, .ref (ad 42), .int 0, .ref (ad 43), .int 0, .ref (ad 44), .int 0, .int 0, .int 0])), ((ad 6), .inr (10, [.ref (ad 2), .ref (ad 1), .ref (ad 48), .ref (ad 49), .ref (ad 50), .ref (ad 51), .ref (ad 52), .int 0, .ref (ad 53), .ref (ad 54), .int 0, .int 0, .int 0, .ref (ad 55), .ref (ad 56), .ref (ad 57), .ref (ad 58), .ref (ad 59), .ref (ad 60), .ref (ad 61), .ref (ad 62)]))]) [0, 1, 2, 3, 4, 5, 6, 7, 8, 9, 10, 11, 12, 13, 14, 15, 16, 17, 18, 19, 20, 21, 22, 23, 24] rfl
  have hDc := hD.sub (ws' := [(h0, .inr (13, [.ref (ad 0), .int 0, .int 0, .ref (ad 1), .ref (ad 2), .ref (ad 3), .ref (ad 4), .ref (ad 5), .ref (ad 6)])), ((ad 0), .inl ((cl 0), 4000, .inl (fun _ => 0))), ((ad 1), .inr (11, [.ref (ad 7), .ref (ad 8), .ref (ad 9), .ref (ad 10), .ref (ad 11), .int 0, .int 0, .int 31, .int 31, .int 0, .int 0])), ((ad 2), .inr (3, [.ref (ad 12), .ref (ad 13), .ref (ad 14), .ref (ad 15), .ref (ad 16), .ref (ad 17), .int 0, .int 0, .int 0, .int 0, .ref (ad 18), .ref (ad 19), .ref (ad 20), .ref (ad 21), .ref (ad 22), .ref (ad 23), .ref (ad 24), .int 0])), ((ad 12), .inl ((cl 6), 600, .inl (fun _ => 0))), ((ad 13), .inl ((cl 7), 600, .inl (fun _ => 0))), ((ad 14), .inl ((cl 8), 600, .inl (fun _ => 0))), ((ad 15), .inl ((cl 9), 600, .inl (fun _ => 0))), ((ad 16), .inl ((cl 10), 600, .inl (fun _ => 0))), ((ad 17), .inl ((cl 11), 600, .inl (fun _ => 0))), ((ad 18), .inl ((cl 12), 11, .inl (fun _ => 0))), ((ad 19), .inl ((cl 13), 11, .inl (fun _ => 0))), ((ad 20), .inl ((cl 14), 11, .inl (fun _ => 0))), ((ad 21), .inl ((cl 15), 11, .inl (fun _ => 0))), ((ad 22), .inl ((cl 16), 11, .inl (fun _ => 0))), ((ad 24), .inl ((cl 17), 11, .inl (fun _ => 0))), ((ad 3), .inr (4, [.ref (ad 2), .ref (ad 25), .ref (ad 26), .ref (ad 27), .int 0, .int 0, .int 0, .int 0, .ref (ad 28), .ref (ad 29), .ref (ad 30), .ref (ad 31), .ref (ad 32), .ref (ad 33), .ref (ad 34), .int 0, .int 0])), ((ad 28), .inl ((cl 21), 4096, .inl (fun _ => 0))), ((ad 29), .inl ((cl 22), 4096, .inl (fun _ => 0))), ((ad 30), .inl ((cl 23), 11, .inl (fun _ => 0))), ((ad 31), .inl ((cl 24), 11, .inl (fun _ => 0))), ((ad 4), .inr (7, [.ref (ad 38), .ref (ad 0), .ref (ad 1), .ref (ad 2), .ref (ad 3), .int 0, .int 0, .int 0, .int 0, .int 0, .int 0, .int 0, .int 0, .ref (ad 35), .int 0, .ref (ad 36), .ref (ad 37)])), ((ad 38), .inr (8, [.ref (ad 0), .int 0, .int 0, .int 0, .int 0, .int 0, .int 0, .int 0, .ref (ad 39), .int 0, .int 0, .int 0, .int 0, .int 0, .int 0])), ((ad 5), .inr (6, [.ref (ad 2), .ref (ad 1), .ref (ad 40), .int 0, .int 0, .ref (ad 41), .int 0, .int 0, .ref (ad 42), .int 0, .ref (ad 43), .int 0, .ref (ad 44), .int 0, .int 0, .int 0])), ((ad 6), .inr (10, [.ref (ad 2), .ref (ad 1), .ref (ad 48), .ref (ad 49), .ref (ad 50), .ref (ad 51), .ref (ad 52), .int 0, .ref (ad 53), .ref (ad 54), .int 0, .int 0, .int 0, .ref (ad 55), .ref (ad 56), .ref (ad 57), .ref (ad 58), .ref (ad 59), .ref (ad 60), .ref (ad 61), .ref (ad 62)]))]) [0, 1, 2, 3, 4, 5, 6, 7, 8, 9, 10, 11, 12, 13, 14, 15, 16, 17, 18, 19, 20, 21, 22, 23, 24] (by decide) rfl
  have hKc := hK.sub (tys' := [((cl 0), .int), ((cl 6), .int), ((cl 7), .int), ((cl 8), .int), ((cl 9), .int), ((cl 10), .int), ((cl 11), .int), ((cl 12), .int), ((cl 13), .int), ((cl 14), .int), ((cl 15), .int), ((cl 16), .int), ((cl 17), .int), ((cl 21), .int), ((cl 22), .int), ((cl 23), .int), ((cl 24), .int)]) [0, 1, 2, 3, 4, 5, 6, 7, 8, 9, 10, 11, 12, 13, 14, 15, 16] rfl
  have hFc := va_free (wc := [(h0, .inr (13, [.ref (ad 0), .int 0, .int 0, .ref (ad 1), .ref (ad 2), .ref (ad 3), .ref (ad 4), .ref (ad 5), .ref (ad 6)])), ((ad 0), .inl ((cl 0), 4000, .inl (fun _ => 0))), ((ad 1), .inr (11, [.ref (ad 7), .ref (ad 8), .ref (ad 9), .ref (ad 10), .ref (ad 11), .int 0, .int 0, .int 31, .int 31, .int 0, .int 0])), ((ad 2), .inr (3, [.ref (ad 12), .ref (ad 13), .ref (ad 14), .ref (ad 15), .ref (ad 16), .ref (ad 17), .int 0, .int 0, .int 0, .int 0, .ref (ad 18), .ref (ad 19), .ref (ad 20), .ref (ad 21), .ref (ad 22), .ref (ad 23), .ref (ad 24), .int 0])), ((ad 12), .inl ((cl 6), 600, .inl (fun _ => 0))), ((ad 13), .inl ((cl 7), 600, .inl (fun _ => 0))), ((ad 14), .inl ((cl 8), 600, .inl (fun _ => 0))), ((ad 15), .inl ((cl 9), 600, .inl (fun _ => 0))), ((ad 16), .inl ((cl 10), 600, .inl (fun _ => 0))), ((ad 17), .inl ((cl 11), 600, .inl (fun _ => 0))), ((ad 18), .inl ((cl 12), 11, .inl (fun _ => 0))), ((ad 19), .inl ((cl 13), 11, .inl (fun _ => 0))), ((ad 20), .inl ((cl 14), 11, .inl (fun _ => 0))), ((ad 21), .inl ((cl 15), 11, .inl (fun _ => 0))), ((ad 22), .inl ((cl 16), 11, .inl (fun _ => 0))), ((ad 24), .inl ((cl 17), 11, .inl (fun _ => 0))), ((ad 3), .inr (4, [.ref (ad 2), .ref (ad 25), .ref (ad 26), .ref (ad 27), .int 0, .int 0, .int 0, .int 0, .ref (ad 28), .ref (ad 29), .ref (ad 30), .ref (ad 31), .ref (ad 32), .ref (ad 33), .ref (ad 34), .int 0, .int 0])), ((ad 28), .inl ((cl 21), 4096, .inl (fun _ => 0))), ((ad 29), .inl ((cl 22), 4096, .inl (fun _ => 0))), ((ad 30), .inl ((cl 23), 11, .inl (fun _ => 0))), ((ad 31), .inl ((cl 24), 11, .inl (fun _ => 0))), ((ad 4), .inr (7, [.ref (ad 38), .ref (ad 0), .ref (ad 1), .ref (ad 2), .ref (ad 3), .int 0, .int 0, .int 0, .int 0, .int 0, .int 0, .int 0, .int 0, .ref (ad 35), .int 0, .ref (ad 36), .ref (ad 37)])), ((ad 38), .inr (8, [.ref (ad 0), .int 0, .int 0, .int 0, .int 0, .int 0, .int 0, .int 0, .ref (ad 39), .int 0, .int 0, .int 0, .int 0, .int 0, .int 0])), ((ad 5), .inr (6, [.ref (ad 2), .ref (ad 1), .ref (ad 40), .int 0, .int 0, .ref (ad 41), .int 0, .int 0, .ref (ad 42), .int 0, .ref (ad 43), .int 0, .ref (ad 44), .int 0, .int 0, .int 0])), ((ad 6), .inr (10, [.ref (ad 2), .ref (ad 1), .ref (ad 48), .ref (ad 49), .ref (ad 50), .ref (ad 51), .ref (ad 52), .int 0, .ref (ad 53), .ref (ad 54), .int 0, .int 0, .int 0, .ref (ad 55), .ref (ad 56), .ref (ad 57), .ref (ad 58), .ref (ad 59), .ref (ad 60), .ref (ad 61), .ref (ad 62)]))]) hD hS hA [0, 1, 2, 3, 4, 5, 6, 7, 8, 9, 10, 11, 12, 13, 14, 15, 16, 17, 18, 19, 20, 21, 22, 23, 24] rfl
  have hEc := (rE.kept hE.2.2.1 hS.2.1).narrow (fun q h => hFc q h)
  refine va_calli (va_runV (As := []) (rest := []) ⟨hx, hb, hml, hown, hts⟩ (k_X11_read l dC dI H.size h0 ad cl tR) (cwV 0 hts vg_law_k_X11_read rfl rfl rfl (by decide +kernel) ⟨Nat.le_of_ble_eq_true rfl, Nat.le_of_ble_eq_true rfl⟩) ⟨fun a U g mk q => by obtain ⟨q0, q1, qP, qK, qD, qE⟩ := q; exact ⟨q0, q1, qP, va_K.moved (u := U) (U := U.calling g mk a) (Vm.Alike.refl U.vm) qK, qD, rE.same (U := U.calling g mk a) rfl qE⟩, va_recv hKc hPc (ci := 13) (q0 := 0) rfl rfl, fun U hU hW => ⟨rfl, by rw [hU], by rw [hU]; exact hPc, va_K.moved hW.alike hKc, hDc.weaken (fun _ _ _ _ => trivial), by rw [hU]; exact rE.warm hW hEc⟩⟩ rfl rfl hl.1 rfl (lv_room (Nat.le_of_ble_eq_true rfl)) dL_law_239 ⟨Nat.le_of_ble_eq_true rfl, Nat.le_of_ble_eq_true rfl⟩) hS (fun q _ h => hFc q h) hFc (fun r_1 u t H1 locs ht hvm hw hB hz1 hk1 hS => ?_)
  try dsimp only at hw
  obtain ⟨hP, hD⟩ := va_join (wr := [(hm, .inr (14, (m_obj adm))), ((adm 2), .inl ((cm 2), 24000, .inl (fun _ => 0))), ((adm 3), .inl ((cm 3), 400, .inl (fun _ => 0))), ((adm 4), .inl ((cm 4), 200, .inl (fun _ => 0))), ((adm 5), .inl ((cm 5), 4002, .inl (fun _ => 0))), ((adm 7), .inl ((cm 7), 4002, .inl (fun _ => 0))), ((adm 8), .inl ((cm 8), 4002, .inl (fun _ => 0))), ((adm 9), .inl ((cm 9), 4002, .inl (fun _ => 0))), ((adm 14), .inl ((cm 14), 200, .inl (fun _ => 0))), ((adm 21), .inl ((cm 21), 12, .inl (fun _ => 0))), ((adm 23), .inl ((cm 23), 12, .inl (fun _ => 0))), ((adm 25), .inl ((cm 25), 600, .inl (fun _ => 0))), ((adm 26), .inl ((cm 26), 600, .inl (fun _ => 0))), ((adm 27), .inl ((cm 27), 600, .inl (fun _ => 0))), ((adm 28), .inl ((cm 28), 600, .inl (fun _ => 0))), ((adm 29), .inl ((cm 29), 12, .inl (fun _ => 0)))]) (w1 := []) hP hD [0, 1, 2, 3, 4, 5, 6, 7, 8, 9, 10, 11, 12, 13, 14, 15, 16, 17, 18, 19, 20, 21, 22, 23, 24] [25, 26, 27, 28, 29, 30, 31, 32, 33, 34, 35, 36, 37, 38, 39, 40] rfl rfl (by decide) (by decide) hk1 hFc (fun k q h => by simp at h) ⟨fun i j p q h => by simp at h, fun k q h => by simp at h⟩
  generalize H1 = H at hP hS ⊢
  have hP : va_P (dC, dI) vwCl [(hm, .inr (14, (m_obj adm))), ((adm 2), .inl ((cm 2), 24000, .inl (fun _ => 0))), ((adm 3), .inl ((cm 3), 400, .inl (fun _ => 0))), ((adm 4), .inl ((cm 4), 200, .inl (fun _ => 0))), ((adm 5), .inl ((cm 5), 4002, .inl (fun _ => 0))), ((adm 7), .inl ((cm 7), 4002, .inl (fun _ => 0))), ((adm 8), .inl ((cm 8), 4002, .inl (fun _ => 0))), ((adm 9), .inl ((cm 9), 4002, .inl (fun _ => 0))), ((adm 14), .inl ((cm 14), 200, .inl (fun _ => 0))), ((adm 21), .inl ((cm 21), 12, .inl (fun _ => 0))), ((adm 23), .inl ((cm 23), 12, .inl (fun _ => 0))), ((adm 25), .inl ((cm 25), 600, .inl (fun _ => 0))), ((adm 26), .inl ((cm 26), 600, .inl (fun _ => 0))), ((adm 27), .inl ((cm 27), 600, .inl (fun _ => 0))), ((adm 28), .inl ((cm 28), 600, .inl (fun _ => 0))), ((adm 29), .inl ((cm 29), 12, .inl (fun _ => 0)))] H := hP
  have hD : va_D A [(hm, .inr (14, (m_obj adm))), ((adm 2), .inl ((cm 2), 24000, .inl (fun _ => 0))), ((adm 3), .inl ((cm 3), 400, .inl (fun _ => 0))), ((adm 4), .inl ((cm 4), 200, .inl (fun _ => 0))), ((adm 5), .inl ((cm 5), 4002, .inl (fun _ => 0))), ((adm 7), .inl ((cm 7), 4002, .inl (fun _ => 0))), ((adm 8), .inl ((cm 8), 4002, .inl (fun _ => 0))), ((adm 9), .inl ((cm 9), 4002, .inl (fun _ => 0))), ((adm 14), .inl ((cm 14), 200, .inl (fun _ => 0))), ((adm 21), .inl ((cm 21), 12, .inl (fun _ => 0))), ((adm 23), .inl ((cm 23), 12, .inl (fun _ => 0))), ((adm 25), .inl ((cm 25), 600, .inl (fun _ => 0))), ((adm 26), .inl ((cm 26), 600, .inl (fun _ => 0))), ((adm 27), .inl ((cm 27), 600, .inl (fun _ => 0))), ((adm 28), .inl ((cm 28), 600, .inl (fun _ => 0))), ((adm 29), .inl ((cm 29), 12, .inl (fun _ => 0)))] := hD
  obtain rfl : r_1 = 0 := hw
  refine lv_aload_n hx hb dL_law_242 rfl (lv_at hl 2 rfl) ?_
  have hPc := hP.sub (ws' := [(hm, .inr (14, (m_obj adm))), ((adm 4), .inl ((cm 4), 200, .inl (fun _ => 0))), ((adm 2), .inl ((cm 2), 24000, .inl (fun _ => 0))), ((adm 3), .inl ((cm 3), 400, .inl (fun _ => 0))), ((adm 5), .inl ((cm 5), 4002, .inl (fun _ => 0))), ((adm 7), .inl ((cm 7), 4002, .inl (fun _ => 0))), ((adm 8), .inl ((cm 8), 4002, .inl (fun _ => 0))), ((adm 9), .inl ((cm 9), 4002, .inl (fun _ => 0))), ((adm 14), .inl ((cm 14), 200, .inl (fun _ => 0))), ((adm 23), .inl ((cm 23), 12, .inl (fun _ => 0))), ((adm 21), .inl ((cm 21), 12, .inl (fun _ => 0))), ((adm 25), .inl ((cm 25), 600, .inl (fun _ => 0))), ((adm 26), .inl ((cm 26), 600, .inl (fun _ => 0))), ((adm 27), .inl ((cm 27), 600, .inl (fun _ => 0))), ((adm 28), .inl ((cm 28), 600, .inl (fun _ => 0))), ((adm 29), .inl ((cm 29), 12, .inl (fun _ => 0)))]) [0, 3, 1, 2, 4, 5, 6, 7, 8, 10, 9, 11, 12, 13, 14, 15] rfl
  have hDc := hD.sub (ws' := [(hm, .inr (14, (m_obj adm))), ((adm 4), .inl ((cm 4), 200, .inl (fun _ => 0))), ((adm 2), .inl ((cm 2), 24000, .inl (fun _ => 0))), ((adm 3), .inl ((cm 3), 400, .inl (fun _ => 0))), ((adm 5), .inl ((cm 5), 4002, .inl (fun _ => 0))), ((adm 7), .inl ((cm 7), 4002, .inl (fun _ => 0))), ((adm 8), .inl ((cm 8), 4002, .inl (fun _ => 0))), ((adm 9), .inl ((cm 9), 4002, .inl (fun _ => 0))), ((adm 14), .inl ((cm 14), 200, .inl (fun _ => 0))), ((adm 23), .inl ((cm 23), 12, .inl (fun _ => 0))), ((adm 21), .inl ((cm 21), 12, .inl (fun _ => 0))), ((adm 25), .inl ((cm 25), 600, .inl (fun _ => 0))), ((adm 26), .inl ((cm 26), 600, .inl (fun _ => 0))), ((adm 27), .inl ((cm 27), 600, .inl (fun _ => 0))), ((adm 28), .inl ((cm 28), 600, .inl (fun _ => 0))), ((adm 29), .inl ((cm 29), 12, .inl (fun _ => 0)))]) [0, 3, 1, 2, 4, 5, 6, 7, 8, 10, 9, 11, 12, 13, 14, 15] (by decide) rfl
  have hKc := hK.sub (tys' := [((cm 4), .char), ((cm 2), .char), ((cm 3), .int), ((cm 5), .int), ((cm 7), .int), ((cm 8), .int), ((cm 9), .int), ((cm 14), .int), ((cm 23), .int), ((cm 21), .int), ((cm 25), .int), ((cm 26), .int), ((cm 27), .int), ((cm 28), .int), ((cm 29), .int)]) [19, 17, 18, 20, 21, 22, 23, 24, 26, 25, 27, 28, 29, 30, 31] rfl
  have hFc := va_free (wc := [(hm, .inr (14, (m_obj adm))), ((adm 4), .inl ((cm 4), 200, .inl (fun _ => 0))), ((adm 2), .inl ((cm 2), 24000, .inl (fun _ => 0))), ((adm 3), .inl ((cm 3), 400, .inl (fun _ => 0))), ((adm 5), .inl ((cm 5), 4002, .inl (fun _ => 0))), ((adm 7), .inl ((cm 7), 4002, .inl (fun _ => 0))), ((adm 8), .inl ((cm 8), 4002, .inl (fun _ => 0))), ((adm 9), .inl ((cm 9), 4002, .inl (fun _ => 0))), ((adm 14), .inl ((cm 14), 200, .inl (fun _ => 0))), ((adm 23), .inl ((cm 23), 12, .inl (fun _ => 0))), ((adm 21), .inl ((cm 21), 12, .inl (fun _ => 0))), ((adm 25), .inl ((cm 25), 600, .inl (fun _ => 0))), ((adm 26), .inl ((cm 26), 600, .inl (fun _ => 0))), ((adm 27), .inl ((cm 27), 600, .inl (fun _ => 0))), ((adm 28), .inl ((cm 28), 600, .inl (fun _ => 0))), ((adm 29), .inl ((cm 29), 12, .inl (fun _ => 0)))]) hD hS hA [0, 3, 1, 2, 4, 5, 6, 7, 8, 10, 9, 11, 12, 13, 14, 15] rfl
  have hEc := (mE.kept hE.2.1 hS.2.1).narrow (fun q h => hFc q h)
  refine va_calli (va_runV (As := []) (rest := [.int 0]) ⟨hx, hb, hml, hown, hts⟩ (k_X12_read l dC dI H.size hm bS bV adm (cm 4) (fun _ => 0) (cm 2) (fun _ => 0) (cm 3) (fun _ => 0) (cm 5) (fun _ => 0) (cm 7) (fun _ => 0) (cm 8) (fun _ => 0) (cm 9) (fun _ => 0) (cm 14) (fun _ => 0) (cm 23) (fun _ => 0) (cm 21) (fun _ => 0) (cm 25) (fun _ => 0) (cm 26) (fun _ => 0) (cm 27) (fun _ => 0) (cm 28) (fun _ => 0) (cm 29) (fun _ => 0)) (cwV 0 hts vg_law_k_X12_read rfl rfl rfl (by decide +kernel) ⟨Nat.le_of_ble_eq_true rfl, Nat.le_of_ble_eq_true rfl⟩) ⟨fun a U g mk q => by obtain ⟨q0, q1, qP, qK, qD, qE⟩ := q; exact ⟨q0, q1, qP, va_K.moved (u := U) (U := U.calling g mk a) (Vm.Alike.refl U.vm) qK, qD, mE.same (U := U.calling g mk a) rfl qE⟩, va_recv hKc hPc (ci := 14) (q0 := 0) rfl rfl, fun U hU hW => ⟨rfl, by rw [hU], by rw [hU]; exact hPc, va_K.moved hW.alike hKc, hDc.weaken (fun _ _ _ _ => trivial), by rw [hU]; exact mE.warm hW hEc⟩⟩ rfl rfl hl.1 rfl (lv_room (Nat.le_of_ble_eq_true rfl)) dL_law_243 ⟨Nat.le_of_ble_eq_true rfl, Nat.le_of_ble_eq_true rfl⟩) hS (fun q _ h => hFc q h) hFc (fun r_2 u t H1 locs ht hvm hw hB hz1 hk1 hS => ?_)
  try dsimp only at hw
  obtain ⟨hP, hD⟩ := va_join (wr := []) (w1 := []) hP hD [0, 3, 1, 2, 4, 5, 6, 7, 8, 10, 9, 11, 12, 13, 14, 15] [] rfl rfl (by decide) (by decide) hk1 hFc (fun k q h => by simp at h) ⟨fun i j p q h => by simp at h, fun k q h => by simp at h⟩
  generalize H1 = H at hP hS ⊢
  have hP : va_P (dC, dI) vwCl [] H := hP
  have hD : va_D A [] := hD
  obtain rfl : r_2 = 0 := hw
  refine lv_icmp_eq (tgt := 970) hx hb dL_law_246 (by decide) (fun _ => ?_) (fun c3_246 => absurd (by decide) c3_246)
  refine lv_iinc (v := 6) (lv' := [(4, .int 6), (0, .ref b), (1, .ref h0), (2, .ref hm), (3, .ref qo)]) hx hb dL_law_970 hl (k := 4) rfl (by decide) (by decide) rfl (fun ls hl => ?_)
  refine lv_goto (tgt := 23) hx hb dL_law_973 (by decide) ?_
  refine lv_iload hx hb dL_law_23 (lv_at hl 0 rfl) ?_
  refine lv_aload_n hx hb dL_law_25 rfl (lv_at hl 1 rfl) ?_
  refine va_slen hx hb hX hbl hbA hS dL_law_26 ?_
  refine W.eq (g2 := F0 m 27 ls [.int 6, .int 6]) rfl ?_
  refine lv_bipush (v := 6) hx hb dL_law_27 (by decide) ?_
  refine lv_isub hx hb dL_law_29 ?_
  refine lv_topi (fun f_4 ef_4 => ?_)
  obtain rfl : f_4 = 0 := by rw [ef_4]; decide
  refine lv_icmp_gt (tgt := 976) hx hb dL_law_30 (by decide) (fun _ => ?_) (fun c5_30 => absurd (by decide) c5_30)
  refine lv_iconst (v := 1) hx hb dL_law_976 (by decide) ?_
  refine va_forget (fun q hq => by have h9 := hS.2.2 q hq; rw [hAe] at h9; exact h9) ?_
  refine W.widen (k := 258412) (n := 8327002) (Nat.le_of_ble_eq_true rfl) (Nat.le_of_ble_eq_true rfl) ?_
  exact lw_ret hx hb hr hlocks dL_law_977

set_option maxHeartbeats 8000000 in
set_option maxRecDepth 100000 in
theorem law_c251 {p : Program} {e : Env} {s : State} {m : MethodId} {below : List Frame} {meth : Method} {c : Code} {l : Launch} (hst : l.stackTraces = false) {b : Nat} {xs : Nat → Int32} (C0 : lw_At p s m meth c b 6 xs) {dC : Nat → ClassId} {dI : Nat → Nat → Nat} {aS aV bS bV tR s1 s2 s3 : Nat} (hE : zE aS aV bS bV tR s1 s2 s3 (fun q : Nat => s.heap.size ≤ q) s s.heap) {h0 : Nat} {ad : Nat → Nat} {hm : Nat} {adm : Nat → Nat} {qo : Nat} {H : Heap} {locs : List Loc} {ls : Array Slot} (hK : va_K (dC, dI) vwCl [] s) (hP : va_P (dC, dI) vwCl [(h0, .inr (13, [.ref (ad 0), .int 0, .int 0, .ref (ad 1), .ref (ad 2), .ref (ad 3), .ref (ad 4), .ref (ad 5), .ref (ad 6)])), ((ad 2), .inr (3, [.ref (ad 12), .ref (ad 13), .ref (ad 14), .ref (ad 15), .ref (ad 16), .ref (ad 17), .int 0, .int 0, .int 0, .int 0, .ref (ad 18), .ref (ad 19), .ref (ad 20), .ref (ad 21), .ref (ad 22), .ref (ad 23), .ref (ad 24), .int 0])), ((ad 5), .inr (6, [.ref (ad 2), .ref (ad 1), .ref (ad 40), .int 0, .int 0, .ref (ad 41), .int 0, .int 0, .ref (ad 42), .int 0, .ref (ad 43), .int 0, .ref (ad 44), .int 0, .int 0, .int 0])), ((ad 6), .inr (10, [.ref (ad 2), .ref (ad 1), .ref (ad 48), .ref (ad 49), .ref (ad 50), .ref (ad 51), .ref (ad 52), .int 0, .ref (ad 53), .ref (ad 54), .int 0, .int 0, .int 0, .ref (ad 55), .ref (ad 56), .ref (ad 57), .ref (ad 58), .ref (ad 59), .ref (ad 60), .ref (ad 61), .ref (ad 62)])), (hm, .inr (14, (m_obj adm)))] H) (hD : va_D (fun q : Nat => s.heap.size ≤ q) [(h0, .inr (13, [.ref (ad 0), .int 0, .int 0, .ref (ad 1), .ref (ad 2), .ref (ad 3), .ref (ad 4), .ref (ad 5), .ref (ad 6)])), ((ad 2), .inr (3, [.ref (ad 12), .ref (ad 13), .ref (ad 14), .ref (ad 15), .ref (ad 16), .ref (ad 17), .int 0, .int 0, .int 0, .int 0, .ref (ad 18), .ref (ad 19), .ref (ad 20), .ref (ad 21), .ref (ad 22), .ref (ad 23), .ref (ad 24), .int 0])), ((ad 5), .inr (6, [.ref (ad 2), .ref (ad 1), .ref (ad 40), .int 0, .int 0, .ref (ad 41), .int 0, .int 0, .ref (ad 42), .int 0, .ref (ad 43), .int 0, .ref (ad 44), .int 0, .int 0, .int 0])), ((ad 6), .inr (10, [.ref (ad 2), .ref (ad 1), .ref (ad 48), .ref (ad 49), .ref (ad 50), .ref (ad 51), .ref (ad 52), .int 0, .ref (ad 53), .ref (ad 54), .int 0, .int 0, .int 0, .ref (ad 55), .ref (ad 56), .ref (ad 57), .ref (ad 58), .ref (ad 59), .ref (ad 60), .ref (ad 61), .ref (ad 62)])), (hm, .inr (14, (m_obj adm)))]) (hS : va_S (fun q : Nat => s.heap.size ≤ q) s.heap H locs) (hl : lv_has ls 7 [(0, .ref b), (1, .ref h0), (2, .ref hm), (3, .ref qo), (4, .int 0)]) : W p l e room_1 s m #[Value.ref b] below meth c H locs 184 4401688 (lw_Z below #[Value.ref b] s) (F0 m 251 ls []) := by
  obtain ⟨hx, hb, hr, hml, hown, hts0, hX, hbl, hlocks, hgv⟩ := id C0
  have hown : s.vm.findClass RL = some m.cls := hown
  have hts : ∀ w ∈ vw_law, w.before #[Value.ref b] s = true := fun w h => hts0 w (vz_law w h)
  obtain ⟨A, hAe⟩ : ∃ A : Nat → Prop, A = (fun q : Nat => s.heap.size ≤ q) := ⟨_, rfl⟩
  rw [← hAe] at hE hD hS
  have hA : ∀ q : Nat, s.heap.size ≤ q → A q := by rw [hAe]; exact fun _ h => h
  have hbA : ¬ A b := by rw [hAe]; exact Nat.not_le.mpr hbl
  refine lv_aload_n hx hb dL_law_251 rfl (lv_at hl 1 rfl) ?_
  refine lv_aload_n hx hb dL_law_252 rfl (lv_at hl 0 rfl) ?_
  refine lv_iload hx hb dL_law_253 (lv_at hl 4 rfl) ?_
  refine lv_iconst (v := 1) hx hb dL_law_255 (by decide) ?_
  refine lv_iadd hx hb dL_law_256 ?_
  refine lv_topi (fun f_1 ef_1 => ?_)
  obtain rfl : f_1 = 1 := by rw [ef_1]; decide
  refine va_sld hx hb hX hbl hbA hS (show ¬ ((1 : Int32) < 0 ∨ 6 ≤ (1 : Int32).toNatClampNeg) by decide) dL_law_257 ?_
  refine W.eq (g2 := F0 m 258 ls [.int (xs 1), .ref h0]) rfl ?_
  have hPc := hP.sub (ws' := [(h0, .inr (13, [.ref (ad 0), .int 0, .int 0, .ref (ad 1), .ref (ad 2), .ref (ad 3), .ref (ad 4), .ref (ad 5), .ref (ad 6)])), ((ad 2), .inr (3, [.ref (ad 12), .ref (ad 13), .ref (ad 14), .ref (ad 15), .ref (ad 16), .ref (ad 17), .int 0, .int 0, .int 0, .int 0, .ref (ad 18), .ref (ad 19), .ref (ad 20), .ref (ad 21), .ref (ad 22), .ref (ad 23), .ref (ad 24), .int 0])), ((ad 5), .inr (6, [.ref (ad 2), .ref (ad 1), .ref (ad 40), .int 0, .int 0, .ref (ad 41), .int 0, .int 0, .ref (ad 42), .int 0, .ref (ad 43), .int 0, .ref (ad 44), .int 0, .int 0, .int 0])), ((ad 6), .inr (10, [.ref (ad 2), .ref (ad 1), .ref (ad 48), .ref (ad 49), .ref (ad 50), .ref (ad 51), .ref (ad 52), .int 0, .ref (ad 53), .ref (ad 54), .int 0, .int 0, .int 0, .ref (ad 55), .ref (ad 56), .ref (ad 57), .ref (ad 58), .ref (ad 59), .ref (ad 60), .ref (ad 61), .ref (ad 62)]))]) [0, 1, 2, 3] rfl
  have hDc := hD.sub (ws' := [(h0, .inr (13, [.ref (ad 0), .int 0, .int 0, .ref (ad 1), .ref (ad 2), .ref (ad 3), .ref (ad 4), .ref (ad 5), .ref (ad 6)])), ((ad 2), .inr (3, [.ref (ad 12), .ref (ad 13), .ref (ad 14), .ref (ad 15), .ref (ad 16), .ref (ad 17), .int 0, .int 0, .int 0, .int 0, .ref (ad 18), .ref (ad 19), .ref (ad 20), .ref (ad 21), .ref (ad 22), .ref (ad 23), .ref (ad 24), .int 0])), ((ad 5), .inr (6, [.ref (ad 2), .ref (ad 1), .ref (ad 40), .int 0, .int 0, .ref (ad 41), .int 0, .int 0, .ref (ad 42), .int 0, .ref (ad 43), .int 0, .ref (ad 44), .int 0, .int 0, .int 0])), ((ad 6), .inr (10, [.ref (ad 2), .ref (ad 1), .ref (ad 48), .ref (ad 49), .ref (ad 50), .ref (ad 51), .ref (ad 52), .int 0, .ref (ad 53), .ref (ad 54), .int 0, .int 0, .int 0, .ref (ad 55), .ref (ad 56), .ref (ad 57), .ref (ad 58), .ref (ad 59), .ref (ad 60), .ref (ad 61), .ref (ad 62)]))]) [0, 1, 2, 3] (by decide) rfl
  have hKc := hK.sub (tys' := []) [] rfl
  have hFc := va_free (wc := [(h0, .inr (13, [.ref (ad 0), .int 0, .int 0, .ref (ad 1), .ref (ad 2), .ref (ad 3), .ref (ad 4), .ref (ad 5), .ref (ad 6)])), ((ad 2), .inr (3, [.ref (ad 12), .ref (ad 13), .ref (ad 14), .ref (ad 15), .ref (ad 16), .ref (ad 17), .int 0, .int 0, .int 0, .int 0, .ref (ad 18), .ref (ad 19), .ref (ad 20), .ref (ad 21), .ref (ad 22), .ref (ad 23), .ref (ad 24), .int 0])), ((ad 5), .inr (6, [.ref (ad 2), .ref (ad 1), .ref (ad 40), .int 0, .int 0, .ref (ad 41), .int 0, .int 0, .ref (ad 42), .int 0, .ref (ad 43), .int 0, .ref (ad 44), .int 0, .int 0, .int 0])), ((ad 6), .inr (10, [.ref (ad 2), .ref (ad 1), .ref (ad 48), .ref (ad 49), .ref (ad 50), .ref (ad 51), .ref (ad 52), .int 0, .ref (ad 53), .ref (ad 54), .int 0, .int 0, .int 0, .ref (ad 55), .ref (ad 56), .ref (ad 57), .ref (ad 58), .ref (ad 59), .ref (ad 60), .ref (ad 61), .ref (ad 62)]))]) hD hS hA [0, 1, 2, 3] rfl
  refine va_calli (va_runV (As := [.int (xs 1)]) (rest := []) ⟨hx, hb, hml, hown, hts⟩ (k_X11_count l dC dI H.size h0 ad (xs 1)) (cwV 1 hts vg_law_k_X11_count rfl rfl rfl (by decide +kernel) ⟨Nat.le_of_ble_eq_true rfl, Nat.le_of_ble_eq_true rfl⟩) ⟨fun a U g mk q => by obtain ⟨q0, q1, qP, qK, qD⟩ := q; exact ⟨q0, q1, qP, va_K.moved (u := U) (U := U.calling g mk a) (Vm.Alike.refl U.vm) qK, qD⟩, va_recv hKc hPc (ci := 13) (q0 := 0) rfl rfl, fun U hU hW => ⟨rfl, by rw [hU], by rw [hU]; exact hPc, va_K.moved hW.alike hKc, hDc.weaken (fun _ _ _ _ => trivial)⟩⟩ rfl rfl hl.1 rfl (lv_room (Nat.le_of_ble_eq_true rfl)) dL_law_258 ⟨Nat.le_of_ble_eq_true rfl, Nat.le_of_ble_eq_true rfl⟩) hS (fun q _ h => hFc q h) hFc (fun r_2 u t H1 locs ht hvm hw hB hz1 hk1 hS => ?_)
  try dsimp only at hw
  obtain ⟨hP, hD⟩ := va_join (wr := [(hm, .inr (14, (m_obj adm)))]) (w1 := []) hP hD [0, 1, 2, 3] [4] rfl rfl (by decide) (by decide) hk1 hFc (fun k q h => by simp at h) ⟨fun i j p q h => by simp at h, fun k q h => by simp at h⟩
  generalize H1 = H at hP hS ⊢
  have hP : va_P (dC, dI) vwCl [(hm, .inr (14, (m_obj adm)))] H := hP
  have hD : va_D A [(hm, .inr (14, (m_obj adm)))] := hD
  obtain rfl : r_2 = (k_cnt (xs 1)) := hw
  refine lv_aload_n hx hb dL_law_261 rfl (lv_at hl 2 rfl) ?_
  refine lv_aload_n hx hb dL_law_262 rfl (lv_at hl 0 rfl) ?_
  refine lv_iload hx hb dL_law_263 (lv_at hl 4 rfl) ?_
  refine lv_iconst (v := 1) hx hb dL_law_265 (by decide) ?_
  refine lv_iadd hx hb dL_law_266 ?_
  refine lv_topi (fun f_3 ef_3 => ?_)
  obtain rfl : f_3 = 1 := by rw [ef_3]; decide
  refine va_sld hx hb hX hbl hbA hS (show ¬ ((1 : Int32) < 0 ∨ 6 ≤ (1 : Int32).toNatClampNeg) by decide) dL_law_267 ?_
  refine W.eq (g2 := F0 m 268 ls [.int (xs 1), .ref hm, .int (k_cnt (xs 1))]) rfl ?_
  have hPc := hP.sub (ws' := [(hm, .inr (14, (m_obj adm)))]) [0] rfl
  have hDc := hD.sub (ws' := [(hm, .inr (14, (m_obj adm)))]) [0] (by decide) rfl
  have hKc := hK.sub (tys' := []) [] rfl
  have hFc := va_free (wc := [(hm, .inr (14, (m_obj adm)))]) hD hS hA [0] rfl
  refine va_calli (va_runV (As := [.int (xs 1)]) (rest := [.int (k_cnt (xs 1))]) ⟨hx, hb, hml, hown, hts⟩ (k_X12_count l dC dI H.size hm adm (xs 1)) (cwV 1 hts vg_law_k_X12_count rfl rfl rfl (by decide +kernel) ⟨Nat.le_of_ble_eq_true rfl, Nat.le_of_ble_eq_true rfl⟩) ⟨fun a U g mk q => by obtain ⟨q0, q1, qP, qK, qD⟩ := q; exact ⟨q0, q1, qP, va_K.moved (u := U) (U := U.calling g mk a) (Vm.Alike.refl U.vm) qK, qD⟩, va_recv hKc hPc (ci := 14) (q0 := 0) rfl rfl, fun U hU hW => ⟨rfl, by rw [hU], by rw [hU]; exact hPc, va_K.moved hW.alike hKc, hDc.weaken (fun _ _ _ _ => trivial)⟩⟩ rfl rfl hl.1 rfl (lv_room (Nat.le_of_ble_eq_true rfl)) dL_law_268 ⟨Nat.le_of_ble_eq_true rfl, Nat.le_of_ble_eq_true rfl⟩) hS (fun q _ h => hFc q h) hFc (fun r_4 u t H1 locs ht hvm hw hB hz1 hk1 hS => ?_)
  try dsimp only at hw
  obtain ⟨hP, hD⟩ := va_join (wr := []) (w1 := []) hP hD [0] [] rfl rfl (by decide) (by decide) hk1 hFc (fun k q h => by simp at h) ⟨fun i j p q h => by simp at h, fun k q h => by simp at h⟩
  generalize H1 = H at hP hS ⊢
  have hP : va_P (dC, dI) vwCl [] H := hP
  have hD : va_D A [] := hD
  obtain rfl : r_4 = (k_cnt (xs 1)) := hw
  refine lv_icmp_eq (tgt := 970) hx hb dL_law_271 (by decide) (fun _ => ?_) (fun c9 => absurd rfl c9)
  refine lv_iinc (v := 6) (lv' := [(4, .int 6), (0, .ref b), (1, .ref h0), (2, .ref hm), (3, .ref qo)]) hx hb dL_law_970 hl (k := 4) rfl (by decide) (by decide) rfl (fun ls hl => ?_)
  refine lv_goto (tgt := 23) hx hb dL_law_973 (by decide) ?_
  refine lv_iload hx hb dL_law_23 (lv_at hl 0 rfl) ?_
  refine lv_aload_n hx hb dL_law_25 rfl (lv_at hl 1 rfl) ?_
  refine va_slen hx hb hX hbl hbA hS dL_law_26 ?_
  refine W.eq (g2 := F0 m 27 ls [.int 6, .int 6]) rfl ?_
  refine lv_bipush (v := 6) hx hb dL_law_27 (by decide) ?_
  refine lv_isub hx hb dL_law_29 ?_
  refine lv_topi (fun f_6 ef_6 => ?_)
  obtain rfl : f_6 = 0 := by rw [ef_6]; decide
  refine lv_icmp_gt (tgt := 976) hx hb dL_law_30 (by decide) (fun _ => ?_) (fun c7_30 => absurd (by decide) c7_30)
  refine lv_iconst (v := 1) hx hb dL_law_976 (by decide) ?_
  refine va_forget (fun q hq => by have h9 := hS.2.2 q hq; rw [hAe] at h9; exact h9) ?_
  refine W.widen (k := 258412) (n := 8327002) (Nat.le_of_ble_eq_true rfl) (Nat.le_of_ble_eq_true rfl) ?_
  exact lw_ret hx hb hr hlocks dL_law_977

set_option maxHeartbeats 8000000 in
set_option maxRecDepth 100000 in
theorem law_c276 {p : Program} {e : Env} {s : State} {m : MethodId} {below : List Frame} {meth : Method} {c : Code} {l : Launch} (hst : l.stackTraces = false) {b : Nat} {xs : Nat → Int32} (C0 : lw_At p s m meth c b 6 xs) {dC : Nat → ClassId} {dI : Nat → Nat → Nat} {aS aV bS bV tR s1 s2 s3 : Nat} (hE : zE aS aV bS bV tR s1 s2 s3 (fun q : Nat => s.heap.size ≤ q) s s.heap) {h0 : Nat} {ad : Nat → Nat} {hm : Nat} {adm : Nat → Nat} {qo : Nat} {H : Heap} {locs : List Loc} {ls : Array Slot} (hK : va_K (dC, dI) vwCl [] s) (hP : va_P (dC, dI) vwCl [(h0, .inr (13, [.ref (ad 0), .int 0, .int 0, .ref (ad 1), .ref (ad 2), .ref (ad 3), .ref (ad 4), .ref (ad 5), .ref (ad 6)])), (hm, .inr (14, (m_obj adm)))] H) (hD : va_D (fun q : Nat => s.heap.size ≤ q) [(h0, .inr (13, [.ref (ad 0), .int 0, .int 0, .ref (ad 1), .ref (ad 2), .ref (ad 3), .ref (ad 4), .ref (ad 5), .ref (ad 6)])), (hm, .inr (14, (m_obj adm)))]) (hS : va_S (fun q : Nat => s.heap.size ≤ q) s.heap H locs) (hl : lv_has ls 7 [(0, .ref b), (1, .ref h0), (2, .ref hm), (3, .ref qo), (4, .int 0)]) : W p l e room_1 s m #[Value.ref b] below meth c H locs 184 4401688 (lw_Z below #[Value.ref b] s) (F0 m 276 ls []) := by
  obtain ⟨hx, hb, hr, hml, hown, hts0, hX, hbl, hlocks, hgv⟩ := id C0
  have hown : s.vm.findClass RL = some m.cls := hown
  have hts : ∀ w ∈ vw_law, w.before #[Value.ref b] s = true := fun w h => hts0 w (vz_law w h)
  obtain ⟨A, hAe⟩ : ∃ A : Nat → Prop, A = (fun q : Nat => s.heap.size ≤ q) := ⟨_, rfl⟩
  rw [← hAe] at hE hD hS
  have hA : ∀ q : Nat, s.heap.size ≤ q → A q := by rw [hAe]; exact fun _ h => h
  have hbA : ¬ A b := by rw [hAe]; exact Nat.not_le.mpr hbl
  refine lv_aload_n hx hb dL_law_276 rfl (lv_at hl 1 rfl) ?_
  refine lv_aload_n hx hb dL_law_277 rfl (lv_at hl 0 rfl) ?_
  refine lv_iload hx hb dL_law_278 (lv_at hl 4 rfl) ?_
  refine lv_iconst (v := 1) hx hb dL_law_280 (by decide) ?_
  refine lv_iadd hx hb dL_law_281 ?_
  refine lv_topi (fun f_1 ef_1 => ?_)
  obtain rfl : f_1 = 1 := by rw [ef_1]; decide
  refine va_sld hx hb hX hbl hbA hS (show ¬ ((1 : Int32) < 0 ∨ 6 ≤ (1 : Int32).toNatClampNeg) by decide) dL_law_282 ?_
  refine W.eq (g2 := F0 m 283 ls [.int (xs 1), .ref h0]) rfl ?_
  refine lv_aload_n hx hb dL_law_283 rfl (lv_at hl 0 rfl) ?_
  refine lv_iload hx hb dL_law_284 (lv_at hl 4 rfl) ?_
  refine lv_iconst (v := 2) hx hb dL_law_286 (by decide) ?_
  refine lv_iadd hx hb dL_law_287 ?_
  refine lv_topi (fun f_2 ef_2 => ?_)
  obtain rfl : f_2 = 2 := by rw [ef_2]; decide
  refine va_sld hx hb hX hbl hbA hS (show ¬ ((2 : Int32) < 0 ∨ 6 ≤ (2 : Int32).toNatClampNeg) by decide) dL_law_288 ?_
  refine W.eq (g2 := F0 m 289 ls [.int (xs 2), .int (xs 1), .ref h0]) rfl ?_
  have hPc := hP.sub (ws' := [(h0, .inr (13, [.ref (ad 0), .int 0, .int 0, .ref (ad 1), .ref (ad 2), .ref (ad 3), .ref (ad 4), .ref (ad 5), .ref (ad 6)]))]) [0] rfl
  have hDc := hD.sub (ws' := [(h0, .inr (13, [.ref (ad 0), .int 0, .int 0, .ref (ad 1), .ref (ad 2), .ref (ad 3), .ref (ad 4), .ref (ad 5), .ref (ad 6)]))]) [0] (by decide) rfl
  have hKc := hK.sub (tys' := []) [] rfl
  have hFc := va_free (wc := [(h0, .inr (13, [.ref (ad 0), .int 0, .int 0, .ref (ad 1), .ref (ad 2), .ref (ad 3), .ref (ad 4), .ref (ad 5), .ref (ad 6)]))]) hD hS hA [0] rfl
  refine va_calli (va_runV (As := [.int (xs 1), .int (xs 2)]) (rest := []) ⟨hx, hb, hml, hown, hts⟩ (k_X11_letter l dC dI H.size h0 ad (xs 1) (xs 2)) (cwV 2 hts vg_law_k_X11_letter rfl rfl rfl (by decide +kernel) ⟨Nat.le_of_ble_eq_true rfl, Nat.le_of_ble_eq_true rfl⟩) ⟨fun a U g mk q => by obtain ⟨q0, q1, qP, qK, qD⟩ := q; exact ⟨q0, q1, qP, va_K.moved (u := U) (U := U.calling g mk a) (Vm.Alike.refl U.vm) qK, qD⟩, va_recv hKc hPc (ci := 13) (q0 := 0) rfl rfl, fun U hU hW => ⟨rfl, by rw [hU], by rw [hU]; exact hPc, va_K.moved hW.alike hKc, hDc.weaken (fun _ _ _ _ => trivial)⟩⟩ rfl rfl hl.1 rfl (lv_room (Nat.le_of_ble_eq_true rfl)) dL_law_289 ⟨Nat.le_of_ble_eq_true rfl, Nat.le_of_ble_eq_true rfl⟩) hS (fun q _ h => hFc q h) hFc (fun r_3 u t H1 locs ht hvm hw hB hz1 hk1 hS => ?_)
  try dsimp only at hw
  obtain ⟨hP, hD⟩ := va_join (wr := [(hm, .inr (14, (m_obj adm)))]) (w1 := []) hP hD [0] [1] rfl rfl (by decide) (by decide) hk1 hFc (fun k q h => by simp at h) ⟨fun i j p q h => by simp at h, fun k q h => by simp at h⟩
  generalize H1 = H at hP hS ⊢
  have hP : va_P (dC, dI) vwCl [(hm, .inr (14, (m_obj adm)))] H := hP
  have hD : va_D A [(hm, .inr (14, (m_obj adm)))] := hD
  obtain rfl : r_3 = (-1) := hw
  refine lv_aload_n hx hb dL_law_292 rfl (lv_at hl 2 rfl) ?_
  refine lv_aload_n hx hb dL_law_293 rfl (lv_at hl 0 rfl) ?_
  refine lv_iload hx hb dL_law_294 (lv_at hl 4 rfl) ?_
  refine lv_iconst (v := 1) hx hb dL_law_296 (by decide) ?_
  refine lv_iadd hx hb dL_law_297 ?_
  refine lv_topi (fun f_4 ef_4 => ?_)
  obtain rfl : f_4 = 1 := by rw [ef_4]; decide
  refine va_sld hx hb hX hbl hbA hS (show ¬ ((1 : Int32) < 0 ∨ 6 ≤ (1 : Int32).toNatClampNeg) by decide) dL_law_298 ?_
  refine W.eq (g2 := F0 m 299 ls [.int (xs 1), .ref hm, .int (-1)]) rfl ?_
  refine lv_aload_n hx hb dL_law_299 rfl (lv_at hl 0 rfl) ?_
  refine lv_iload hx hb dL_law_300 (lv_at hl 4 rfl) ?_
  refine lv_iconst (v := 2) hx hb dL_law_302 (by decide) ?_
  refine lv_iadd hx hb dL_law_303 ?_
  refine lv_topi (fun f_5 ef_5 => ?_)
  obtain rfl : f_5 = 2 := by rw [ef_5]; decide
  refine va_sld hx hb hX hbl hbA hS (show ¬ ((2 : Int32) < 0 ∨ 6 ≤ (2 : Int32).toNatClampNeg) by decide) dL_law_304 ?_
  refine W.eq (g2 := F0 m 305 ls [.int (xs 2), .int (xs 1), .ref hm, .int (-1)]) rfl ?_
  have hPc := hP.sub (ws' := [(hm, .inr (14, (m_obj adm)))]) [0] rfl
  have hDc := hD.sub (ws' := [(hm, .inr (14, (m_obj adm)))]) [0] (by decide) rfl
  have hKc := hK.sub (tys' := []) [] rfl
  have hFc := va_free (wc := [(hm, .inr (14, (m_obj adm)))]) hD hS hA [0] rfl
  refine va_calli (va_runV (As := [.int (xs 1), .int (xs 2)]) (rest := [.int (-1)]) ⟨hx, hb, hml, hown, hts⟩ (k_X12_letter l dC dI H.size hm adm (xs 1) (xs 2)) (cwV 2 hts vg_law_k_X12_letter rfl rfl rfl (by decide +kernel) ⟨Nat.le_of_ble_eq_true rfl, Nat.le_of_ble_eq_true rfl⟩) ⟨fun a U g mk q => by obtain ⟨q0, q1, qP, qK, qD⟩ := q; exact ⟨q0, q1, qP, va_K.moved (u := U) (U := U.calling g mk a) (Vm.Alike.refl U.vm) qK, qD⟩, va_recv hKc hPc (ci := 14) (q0 := 0) rfl rfl, fun U hU hW => ⟨rfl, by rw [hU], by rw [hU]; exact hPc, va_K.moved hW.alike hKc, hDc.weaken (fun _ _ _ _ => trivial)⟩⟩ rfl rfl hl.1 rfl (lv_room (Nat.le_of_ble_eq_true rfl)) dL_law_305 ⟨Nat.le_of_ble_eq_true rfl, Nat.le_of_ble_eq_true rfl⟩) hS (fun q _ h => hFc q h) hFc (fun r_6 u t H1 locs ht hvm hw hB hz1 hk1 hS => ?_)
  try dsimp only at hw
  obtain ⟨hP, hD⟩ := va_join (wr := []) (w1 := []) hP hD [0] [] rfl rfl (by decide) (by decide) hk1 hFc (fun k q h => by simp at h) ⟨fun i j p q h => by simp at h, fun k q h => by simp at h⟩
  generalize H1 = H at hP hS ⊢
  have hP : va_P (dC, dI) vwCl [] H := hP
  have hD : va_D A [] := hD
  obtain rfl : r_6 = (-1) := hw
  refine lv_icmp_eq (tgt := 970) hx hb dL_law_308 (by decide) (fun _ => ?_) (fun c7_308 => absurd (by decide) c7_308)
  refine lv_iinc (v := 6) (lv' := [(4, .int 6), (0, .ref b), (1, .ref h0), (2, .ref hm), (3, .ref qo)]) hx hb dL_law_970 hl (k := 4) rfl (by decide) (by decide) rfl (fun ls hl => ?_)
  refine lv_goto (tgt := 23) hx hb dL_law_973 (by decide) ?_
  refine lv_iload hx hb dL_law_23 (lv_at hl 0 rfl) ?_
  refine lv_aload_n hx hb dL_law_25 rfl (lv_at hl 1 rfl) ?_
  refine va_slen hx hb hX hbl hbA hS dL_law_26 ?_
  refine W.eq (g2 := F0 m 27 ls [.int 6, .int 6]) rfl ?_
  refine lv_bipush (v := 6) hx hb dL_law_27 (by decide) ?_
  refine lv_isub hx hb dL_law_29 ?_
  refine lv_topi (fun f_8 ef_8 => ?_)
  obtain rfl : f_8 = 0 := by rw [ef_8]; decide
  refine lv_icmp_gt (tgt := 976) hx hb dL_law_30 (by decide) (fun _ => ?_) (fun c9_30 => absurd (by decide) c9_30)
  refine lv_iconst (v := 1) hx hb dL_law_976 (by decide) ?_
  refine va_forget (fun q hq => by have h9 := hS.2.2 q hq; rw [hAe] at h9; exact h9) ?_
  refine W.widen (k := 258412) (n := 8327002) (Nat.le_of_ble_eq_true rfl) (Nat.le_of_ble_eq_true rfl) ?_
  exact lw_ret hx hb hr hlocks dL_law_977

set_option maxHeartbeats 8000000 in
set_option maxRecDepth 100000 in
theorem law_c313 {p : Program} {e : Env} {s : State} {m : MethodId} {below : List Frame} {meth : Method} {c : Code} {l : Launch} (hst : l.stackTraces = false) {b : Nat} {xs : Nat → Int32} (C0 : lw_At p s m meth c b 6 xs) {dC : Nat → ClassId} {dI : Nat → Nat → Nat} {aS aV bS bV tR s1 s2 s3 : Nat} (hE : zE aS aV bS bV tR s1 s2 s3 (fun q : Nat => s.heap.size ≤ q) s s.heap) {h0 : Nat} {ad : Nat → Nat} {hm : Nat} {adm : Nat → Nat} {qo : Nat} {H : Heap} {locs : List Loc} {ls : Array Slot} (hK : va_K (dC, dI) vwCl [] s) (hP : va_P (dC, dI) vwCl [(h0, .inr (13, [.ref (ad 0), .int 0, .int 0, .ref (ad 1), .ref (ad 2), .ref (ad 3), .ref (ad 4), .ref (ad 5), .ref (ad 6)])), (hm, .inr (14, (m_obj adm)))] H) (hD : va_D (fun q : Nat => s.heap.size ≤ q) [(h0, .inr (13, [.ref (ad 0), .int 0, .int 0, .ref (ad 1), .ref (ad 2), .ref (ad 3), .ref (ad 4), .ref (ad 5), .ref (ad 6)])), (hm, .inr (14, (m_obj adm)))]) (hS : va_S (fun q : Nat => s.heap.size ≤ q) s.heap H locs) (hl : lv_has ls 7 [(0, .ref b), (1, .ref h0), (2, .ref hm), (3, .ref qo), (4, .int 0)]) : W p l e room_1 s m #[Value.ref b] below meth c H locs 184 4401688 (lw_Z below #[Value.ref b] s) (F0 m 313 ls []) := by
  obtain ⟨hx, hb, hr, hml, hown, hts0, hX, hbl, hlocks, hgv⟩ := id C0
  have hown : s.vm.findClass RL = some m.cls := hown
  have hts : ∀ w ∈ vw_law, w.before #[Value.ref b] s = true := fun w h => hts0 w (vz_law w h)
  obtain ⟨A, hAe⟩ : ∃ A : Nat → Prop, A = (fun q : Nat => s.heap.size ≤ q) := ⟨_, rfl⟩
  rw [← hAe] at hE hD hS
  have hA : ∀ q : Nat, s.heap.size ≤ q → A q := by rw [hAe]; exact fun _ h => h
  have hbA : ¬ A b := by rw [hAe]; exact Nat.not_le.mpr hbl
  refine lv_aload_n hx hb dL_law_313 rfl (lv_at hl 1 rfl) ?_
  refine lv_aload_n hx hb dL_law_314 rfl (lv_at hl 0 rfl) ?_
  refine lv_iload hx hb dL_law_315 (lv_at hl 4 rfl) ?_
  refine lv_iconst (v := 1) hx hb dL_law_317 (by decide) ?_
  refine lv_iadd hx hb dL_law_318 ?_
  refine lv_topi (fun f_1 ef_1 => ?_)
  obtain rfl : f_1 = 1 := by rw [ef_1]; decide
  refine va_sld hx hb hX hbl hbA hS (show ¬ ((1 : Int32) < 0 ∨ 6 ≤ (1 : Int32).toNatClampNeg) by decide) dL_law_319 ?_
  refine W.eq (g2 := F0 m 320 ls [.int (xs 1), .ref h0]) rfl ?_
  refine lv_aload_n hx hb dL_law_320 rfl (lv_at hl 0 rfl) ?_
  refine lv_iload hx hb dL_law_321 (lv_at hl 4 rfl) ?_
  refine lv_iconst (v := 2) hx hb dL_law_323 (by decide) ?_
  refine lv_iadd hx hb dL_law_324 ?_
  refine lv_topi (fun f_2 ef_2 => ?_)
  obtain rfl : f_2 = 2 := by rw [ef_2]; decide
  refine va_sld hx hb hX hbl hbA hS (show ¬ ((2 : Int32) < 0 ∨ 6 ≤ (2 : Int32).toNatClampNeg) by decide) dL_law_325 ?_
  refine W.eq (g2 := F0 m 326 ls [.int (xs 2), .int (xs 1), .ref h0]) rfl ?_
  have hPc := hP.sub (ws' := [(h0, .inr (13, [.ref (ad 0), .int 0, .int 0, .ref (ad 1), .ref (ad 2), .ref (ad 3), .ref (ad 4), .ref (ad 5), .ref (ad 6)]))]) [0] rfl
  have hDc := hD.sub (ws' := [(h0, .inr (13, [.ref (ad 0), .int 0, .int 0, .ref (ad 1), .ref (ad 2), .ref (ad 3), .ref (ad 4), .ref (ad 5), .ref (ad 6)]))]) [0] (by decide) rfl
  have hKc := hK.sub (tys' := []) [] rfl
  have hFc := va_free (wc := [(h0, .inr (13, [.ref (ad 0), .int 0, .int 0, .ref (ad 1), .ref (ad 2), .ref (ad 3), .ref (ad 4), .ref (ad 5), .ref (ad 6)]))]) hD hS hA [0] rfl
  refine va_calli (va_runV (As := [.int (xs 1), .int (xs 2)]) (rest := []) ⟨hx, hb, hml, hown, hts⟩ (k_X11_instruction l dC dI H.size h0 ad (xs 1) (xs 2)) (cwV 2 hts vg_law_k_X11_instruction rfl rfl rfl (by decide +kernel) ⟨Nat.le_of_ble_eq_true rfl, Nat.le_of_ble_eq_true rfl⟩) ⟨fun a U g mk q => by obtain ⟨q0, q1, qP, qK, qD⟩ := q; exact ⟨q0, q1, qP, va_K.moved (u := U) (U := U.calling g mk a) (Vm.Alike.refl U.vm) qK, qD⟩, va_recv hKc hPc (ci := 13) (q0 := 0) rfl rfl, fun U hU hW => ⟨rfl, by rw [hU], by rw [hU]; exact hPc, va_K.moved hW.alike hKc, hDc.weaken (fun _ _ _ _ => trivial)⟩⟩ rfl rfl hl.1 rfl (lv_room (Nat.le_of_ble_eq_true rfl)) dL_law_326 ⟨Nat.le_of_ble_eq_true rfl, Nat.le_of_ble_eq_true rfl⟩) hS (fun q _ h => hFc q h) hFc (fun r_3 u t H1 locs ht hvm hw hB hz1 hk1 hS => ?_)
  try dsimp only at hw
  obtain ⟨hP, hD⟩ := va_join (wr := [(hm, .inr (14, (m_obj adm)))]) (w1 := []) hP hD [0] [1] rfl rfl (by decide) (by decide) hk1 hFc (fun k q h => by simp at h) ⟨fun i j p q h => by simp at h, fun k q h => by simp at h⟩
  generalize H1 = H at hP hS ⊢
  have hP : va_P (dC, dI) vwCl [(hm, .inr (14, (m_obj adm)))] H := hP
  have hD : va_D A [(hm, .inr (14, (m_obj adm)))] := hD
  obtain rfl : r_3 = (-1) := hw
  refine lv_aload_n hx hb dL_law_329 rfl (lv_at hl 2 rfl) ?_
  refine lv_aload_n hx hb dL_law_330 rfl (lv_at hl 0 rfl) ?_
  refine lv_iload hx hb dL_law_331 (lv_at hl 4 rfl) ?_
  refine lv_iconst (v := 1) hx hb dL_law_333 (by decide) ?_
  refine lv_iadd hx hb dL_law_334 ?_
  refine lv_topi (fun f_4 ef_4 => ?_)
  obtain rfl : f_4 = 1 := by rw [ef_4]; decide
  refine va_sld hx hb hX hbl hbA hS (show ¬ ((1 : Int32) < 0 ∨ 6 ≤ (1 : Int32).toNatClampNeg) by decide) dL_law_335 ?_
  refine W.eq (g2 := F0 m 336 ls [.int (xs 1), .ref hm, .int (-1)]) rfl ?_
  refine lv_aload_n hx hb dL_law_336 rfl (lv_at hl 0 rfl) ?_
  refine lv_iload hx hb dL_law_337 (lv_at hl 4 rfl) ?_
  refine lv_iconst (v := 2) hx hb dL_law_339 (by decide) ?_
  refine lv_iadd hx hb dL_law_340 ?_
  refine lv_topi (fun f_5 ef_5 => ?_)
  obtain rfl : f_5 = 2 := by rw [ef_5]; decide
  refine va_sld hx hb hX hbl hbA hS (show ¬ ((2 : Int32) < 0 ∨ 6 ≤ (2 : Int32).toNatClampNeg) by decide) dL_law_341 ?_
  refine W.eq (g2 := F0 m 342 ls [.int (xs 2), .int (xs 1), .ref hm, .int (-1)]) rfl ?_
  have hPc := hP.sub (ws' := [(hm, .inr (14, (m_obj adm)))]) [0] rfl
  have hDc := hD.sub (ws' := [(hm, .inr (14, (m_obj adm)))]) [0] (by decide) rfl
  have hKc := hK.sub (tys' := []) [] rfl
  have hFc := va_free (wc := [(hm, .inr (14, (m_obj adm)))]) hD hS hA [0] rfl
  refine va_calli (va_runV (As := [.int (xs 1), .int (xs 2)]) (rest := [.int (-1)]) ⟨hx, hb, hml, hown, hts⟩ (k_X12_instruction l dC dI H.size hm adm (xs 1) (xs 2)) (cwV 2 hts vg_law_k_X12_instruction rfl rfl rfl (by decide +kernel) ⟨Nat.le_of_ble_eq_true rfl, Nat.le_of_ble_eq_true rfl⟩) ⟨fun a U g mk q => by obtain ⟨q0, q1, qP, qK, qD⟩ := q; exact ⟨q0, q1, qP, va_K.moved (u := U) (U := U.calling g mk a) (Vm.Alike.refl U.vm) qK, qD⟩, va_recv hKc hPc (ci := 14) (q0 := 0) rfl rfl, fun U hU hW => ⟨rfl, by rw [hU], by rw [hU]; exact hPc, va_K.moved hW.alike hKc, hDc.weaken (fun _ _ _ _ => trivial)⟩⟩ rfl rfl hl.1 rfl (lv_room (Nat.le_of_ble_eq_true rfl)) dL_law_342 ⟨Nat.le_of_ble_eq_true rfl, Nat.le_of_ble_eq_true rfl⟩) hS (fun q _ h => hFc q h) hFc (fun r_6 u t H1 locs ht hvm hw hB hz1 hk1 hS => ?_)
  try dsimp only at hw
  obtain ⟨hP, hD⟩ := va_join (wr := []) (w1 := []) hP hD [0] [] rfl rfl (by decide) (by decide) hk1 hFc (fun k q h => by simp at h) ⟨fun i j p q h => by simp at h, fun k q h => by simp at h⟩
  generalize H1 = H at hP hS ⊢
  have hP : va_P (dC, dI) vwCl [] H := hP
  have hD : va_D A [] := hD
  obtain rfl : r_6 = (-1) := hw
  refine lv_icmp_eq (tgt := 970) hx hb dL_law_345 (by decide) (fun _ => ?_) (fun c7_345 => absurd (by decide) c7_345)
  refine lv_iinc (v := 6) (lv' := [(4, .int 6), (0, .ref b), (1, .ref h0), (2, .ref hm), (3, .ref qo)]) hx hb dL_law_970 hl (k := 4) rfl (by decide) (by decide) rfl (fun ls hl => ?_)
  refine lv_goto (tgt := 23) hx hb dL_law_973 (by decide) ?_
  refine lv_iload hx hb dL_law_23 (lv_at hl 0 rfl) ?_
  refine lv_aload_n hx hb dL_law_25 rfl (lv_at hl 1 rfl) ?_
  refine va_slen hx hb hX hbl hbA hS dL_law_26 ?_
  refine W.eq (g2 := F0 m 27 ls [.int 6, .int 6]) rfl ?_
  refine lv_bipush (v := 6) hx hb dL_law_27 (by decide) ?_
  refine lv_isub hx hb dL_law_29 ?_
  refine lv_topi (fun f_8 ef_8 => ?_)
  obtain rfl : f_8 = 0 := by rw [ef_8]; decide
  refine lv_icmp_gt (tgt := 976) hx hb dL_law_30 (by decide) (fun _ => ?_) (fun c9_30 => absurd (by decide) c9_30)
  refine lv_iconst (v := 1) hx hb dL_law_976 (by decide) ?_
  refine va_forget (fun q hq => by have h9 := hS.2.2 q hq; rw [hAe] at h9; exact h9) ?_
  refine W.widen (k := 258412) (n := 8327002) (Nat.le_of_ble_eq_true rfl) (Nat.le_of_ble_eq_true rfl) ?_
  exact lw_ret hx hb hr hlocks dL_law_977

set_option maxHeartbeats 8000000 in
set_option maxRecDepth 100000 in
theorem law_c350 {p : Program} {e : Env} {s : State} {m : MethodId} {below : List Frame} {meth : Method} {c : Code} {l : Launch} (hst : l.stackTraces = false) {b : Nat} {xs : Nat → Int32} (C0 : lw_At p s m meth c b 6 xs) {dC : Nat → ClassId} {dI : Nat → Nat → Nat} {aS aV bS bV tR s1 s2 s3 : Nat} (hE : zE aS aV bS bV tR s1 s2 s3 (fun q : Nat => s.heap.size ≤ q) s s.heap) {h0 : Nat} {ad : Nat → Nat} {hm : Nat} {adm : Nat → Nat} {qo : Nat} {H : Heap} {locs : List Loc} {ls : Array Slot} (hK : va_K (dC, dI) vwCl [] s) (hP : va_P (dC, dI) vwCl [(h0, .inr (13, [.ref (ad 0), .int 0, .int 0, .ref (ad 1), .ref (ad 2), .ref (ad 3), .ref (ad 4), .ref (ad 5), .ref (ad 6)])), (hm, .inr (14, (m_obj adm)))] H) (hD : va_D (fun q : Nat => s.heap.size ≤ q) [(h0, .inr (13, [.ref (ad 0), .int 0, .int 0, .ref (ad 1), .ref (ad 2), .ref (ad 3), .ref (ad 4), .ref (ad 5), .ref (ad 6)])), (hm, .inr (14, (m_obj adm)))]) (hS : va_S (fun q : Nat => s.heap.size ≤ q) s.heap H locs) (hl : lv_has ls 7 [(0, .ref b), (1, .ref h0), (2, .ref hm), (3, .ref qo), (4, .int 0)]) : W p l e room_1 s m #[Value.ref b] below meth c H locs 184 4401688 (lw_Z below #[Value.ref b] s) (F0 m 350 ls []) := by
  obtain ⟨hx, hb, hr, hml, hown, hts0, hX, hbl, hlocks, hgv⟩ := id C0
  have hown : s.vm.findClass RL = some m.cls := hown
  have hts : ∀ w ∈ vw_law, w.before #[Value.ref b] s = true := fun w h => hts0 w (vz_law w h)
  obtain ⟨A, hAe⟩ : ∃ A : Nat → Prop, A = (fun q : Nat => s.heap.size ≤ q) := ⟨_, rfl⟩
  rw [← hAe] at hE hD hS
  have hA : ∀ q : Nat, s.heap.size ≤ q → A q := by rw [hAe]; exact fun _ h => h
  have hbA : ¬ A b := by rw [hAe]; exact Nat.not_le.mpr hbl
  refine lv_aload_n hx hb dL_law_350 rfl (lv_at hl 1 rfl) ?_
  have hPc := hP.sub (ws' := [(h0, .inr (13, [.ref (ad 0), .int 0, .int 0, .ref (ad 1), .ref (ad 2), .ref (ad 3), .ref (ad 4), .ref (ad 5), .ref (ad 6)]))]) [0] rfl
  have hDc := hD.sub (ws' := [(h0, .inr (13, [.ref (ad 0), .int 0, .int 0, .ref (ad 1), .ref (ad 2), .ref (ad 3), .ref (ad 4), .ref (ad 5), .ref (ad 6)]))]) [0] (by decide) rfl
  have hKc := hK.sub (tys' := []) [] rfl
  have hFc := va_free (wc := [(h0, .inr (13, [.ref (ad 0), .int 0, .int 0, .ref (ad 1), .ref (ad 2), .ref (ad 3), .ref (ad 4), .ref (ad 5), .ref (ad 6)]))]) hD hS hA [0] rfl
  have hEc := (eE.kept hE.2.2.2.1 hS.2.1).narrow (fun q h => hFc q h)
  refine va_calli (vx_runSW (As := [.ref h0]) (rest := []) ⟨hx, hb, hml, hown, hts⟩ (k_L_begin l dC dI H.size h0 ad s1 s2 s3 hst) (vx_cwSW (hh := [(0, 4, 7, 12)]) 1 hts vg_law_k_L_begin rfl rfl rfl (by decide +kernel) ⟨Nat.le_of_ble_eq_true rfl, Nat.le_of_ble_eq_true rfl⟩) ⟨fun a U g mk q => by obtain ⟨q0, q1, qP, qK, qD, qE⟩ := q; exact ⟨q0, q1, qP, va_K.moved (u := U) (U := U.calling g mk a) (Vm.Alike.refl U.vm) qK, qD, eE.same (U := U.calling g mk a) rfl qE⟩, fun U hU hW => ⟨rfl, by rw [hU], by rw [hU]; exact hPc, va_K.moved hW.alike hKc, hDc.weaken (fun _ _ _ _ => trivial), by rw [hU]; exact eE.warm hW hEc⟩⟩ rfl rfl hl.1 rfl (lv_room (Nat.le_of_ble_eq_true rfl)) dL_law_351 ⟨Nat.le_of_ble_eq_true rfl, Nat.le_of_ble_eq_true rfl⟩) hS (fun q _ h => hFc q h) hFc (fun r_1 u t H1 locs ht hvm hw hB hz1 hk1 hS => ?_)
  try dsimp only at hw
  obtain ⟨hP, hD⟩ := va_join (wr := [(hm, .inr (14, (m_obj adm)))]) (w1 := []) hP hD [0] [1] rfl rfl (by decide) (by decide) hk1 hFc (fun k q h => by simp at h) ⟨fun i j p q h => by simp at h, fun k q h => by simp at h⟩
  generalize H1 = H at hP hS ⊢
  have hP : va_P (dC, dI) vwCl [(hm, .inr (14, (m_obj adm)))] H := hP
  have hD : va_D A [(hm, .inr (14, (m_obj adm)))] := hD
  obtain rfl : r_1 = 1 := hw
  refine lv_istore (lv' := [(5, .int 1), (0, .ref b), (1, .ref h0), (2, .ref hm), (3, .ref qo), (4, .int 0)]) hx hb dL_law_354 hl (by decide) rfl (fun ls hl => ?_)
  refine lv_aload_n hx hb dL_law_356 rfl (lv_at hl 3 rfl) ?_
  have hPc := hP.sub (ws' := [(hm, .inr (14, (m_obj adm)))]) [0] rfl
  have hDc := hD.sub (ws' := [(hm, .inr (14, (m_obj adm)))]) [0] (by decide) rfl
  have hKc := hK.sub (tys' := []) [] rfl
  have hFc := va_free (wc := [(hm, .inr (14, (m_obj adm)))]) hD hS hA [0] rfl
  refine va_callv (va_runV (As := []) (rest := []) ⟨hx, hb, hml, hown, hts⟩ (k_X12_begin l dC dI H.size hm adm ) (cwV 0 hts vg_law_k_X12_begin rfl rfl rfl (by decide +kernel) ⟨Nat.le_of_ble_eq_true rfl, Nat.le_of_ble_eq_true rfl⟩) ⟨fun a U g mk q => by obtain ⟨q0, q1, qP, qK, qD⟩ := q; exact ⟨q0, q1, qP, va_K.moved (u := U) (U := U.calling g mk a) (Vm.Alike.refl U.vm) qK, qD⟩, va_recv hKc hPc (ci := 14) (q0 := 0) rfl rfl, fun U hU hW => ⟨rfl, by rw [hU], by rw [hU]; exact hPc, va_K.moved hW.alike hKc, hDc.weaken (fun _ _ _ _ => trivial)⟩⟩ rfl rfl hl.1 rfl (lv_room (Nat.le_of_ble_eq_true rfl)) dL_law_357 ⟨Nat.le_of_ble_eq_true rfl, Nat.le_of_ble_eq_true rfl⟩) hS (fun q _ h => hFc q h) hFc (fun u t H1 locs ht hvm hw hB hz1 hk1 hS => ?_)
  obtain ⟨hP1, hK1, hD1⟩ := hB
  rw [ht] at hP1
  have hK1 := va_K.moved hvm.symm hK1
  try dsimp only at hw
  obtain ⟨hP, hD⟩ := va_join (wr := []) (w1 := [(hm, .inr (14, ((m_obj adm).set 0 (.int 1))))]) hP hD [0] [] rfl rfl (by decide) (by decide) hk1 hFc hP1 hD1
  generalize H1 = H at hP hS ⊢
  have hP : va_P (dC, dI) vwCl [(hm, .inr (14, ((m_obj adm).set 0 (.int 1))))] H := hP
  have hD : va_D A [(hm, .inr (14, ((m_obj adm).set 0 (.int 1))))] := hD
  refine lv_aload_n hx hb dL_law_360 rfl (lv_at hl 3 rfl) ?_
  have hPc := hP.sub (ws' := [(hm, .inr (14, ((m_obj adm).set 0 (.int 1))))]) [0] rfl
  have hDc := hD.sub (ws' := [(hm, .inr (14, ((m_obj adm).set 0 (.int 1))))]) [0] (by decide) rfl
  have hKc := hK.sub (tys' := []) [] rfl
  have hFc := va_free (wc := [(hm, .inr (14, ((m_obj adm).set 0 (.int 1))))]) hD hS hA [0] rfl
  refine va_calli (va_runV (As := []) (rest := []) ⟨hx, hb, hml, hown, hts⟩ (k_X12_thrown l dC dI H.size hm adm 1) (cwV 0 hts vg_law_k_X12_thrown rfl rfl rfl (by decide +kernel) ⟨Nat.le_of_ble_eq_true rfl, Nat.le_of_ble_eq_true rfl⟩) ⟨fun a U g mk q => by obtain ⟨q0, q1, qP, qK, qD⟩ := q; exact ⟨q0, q1, qP, va_K.moved (u := U) (U := U.calling g mk a) (Vm.Alike.refl U.vm) qK, qD⟩, va_recv hKc hPc (ci := 14) (q0 := 0) rfl rfl, fun U hU hW => ⟨rfl, by rw [hU], by rw [hU]; exact hPc, va_K.moved hW.alike hKc, hDc.weaken (fun _ _ _ _ => trivial)⟩⟩ rfl rfl hl.1 rfl (lv_room (Nat.le_of_ble_eq_true rfl)) dL_law_361 ⟨Nat.le_of_ble_eq_true rfl, Nat.le_of_ble_eq_true rfl⟩) hS (fun q _ h => hFc q h) hFc (fun r_3 u t H1 locs ht hvm hw hB hz1 hk1 hS => ?_)
  try dsimp only at hw
  obtain ⟨hP, hD⟩ := va_join (wr := []) (w1 := []) hP hD [0] [] rfl rfl (by decide) (by decide) hk1 hFc (fun k q h => by simp at h) ⟨fun i j p q h => by simp at h, fun k q h => by simp at h⟩
  generalize H1 = H at hP hS ⊢
  have hP : va_P (dC, dI) vwCl [] H := hP
  have hD : va_D A [] := hD
  obtain rfl : r_3 = 1 := hw
  refine lv_iload hx hb dL_law_364 (lv_at hl 0 rfl) ?_
  refine lv_icmp_eq (tgt := 371) hx hb dL_law_366 (by decide) (fun _ => ?_) (fun c4_366 => absurd (by decide) c4_366)
  refine lv_goto (tgt := 970) hx hb dL_law_371 (by decide) ?_
  refine lv_iinc (v := 6) (lv' := [(4, .int 6), (5, .int 1), (0, .ref b), (1, .ref h0), (2, .ref hm), (3, .ref qo)]) hx hb dL_law_970 hl (k := 5) rfl (by decide) (by decide) rfl (fun ls hl => ?_)
  refine lv_goto (tgt := 23) hx hb dL_law_973 (by decide) ?_
  refine lv_iload hx hb dL_law_23 (lv_at hl 0 rfl) ?_
  refine lv_aload_n hx hb dL_law_25 rfl (lv_at hl 2 rfl) ?_
  refine va_slen hx hb hX hbl hbA hS dL_law_26 ?_
  refine W.eq (g2 := F0 m 27 ls [.int 6, .int 6]) rfl ?_
  refine lv_bipush (v := 6) hx hb dL_law_27 (by decide) ?_
  refine lv_isub hx hb dL_law_29 ?_
  refine lv_topi (fun f_5 ef_5 => ?_)
  obtain rfl : f_5 = 0 := by rw [ef_5]; decide
  refine lv_icmp_gt (tgt := 976) hx hb dL_law_30 (by decide) (fun _ => ?_) (fun c6_30 => absurd (by decide) c6_30)
  refine lv_iconst (v := 1) hx hb dL_law_976 (by decide) ?_
  refine va_forget (fun q hq => by have h9 := hS.2.2 q hq; rw [hAe] at h9; exact h9) ?_
  refine W.widen (k := 258412) (n := 8327002) (Nat.le_of_ble_eq_true rfl) (Nat.le_of_ble_eq_true rfl) ?_
  exact lw_ret hx hb hr hlocks dL_law_977

set_option maxHeartbeats 8000000 in
set_option maxRecDepth 100000 in
theorem law_c374 {p : Program} {e : Env} {s : State} {m : MethodId} {below : List Frame} {meth : Method} {c : Code} {l : Launch} (hst : l.stackTraces = false) {b : Nat} {xs : Nat → Int32} (C0 : lw_At p s m meth c b 6 xs) {dC : Nat → ClassId} {dI : Nat → Nat → Nat} {aS aV bS bV tR s1 s2 s3 : Nat} (hE : zE aS aV bS bV tR s1 s2 s3 (fun q : Nat => s.heap.size ≤ q) s s.heap) {h0 : Nat} {ad : Nat → Nat} {hm : Nat} {adm : Nat → Nat} {qo : Nat} {co : ClassId} {H : Heap} {locs : List Loc} {ls : Array Slot} (hK : va_K (dC, dI) vwCl [(co, .long)] s) (hP : va_P (dC, dI) vwCl [(h0, .inr (13, [.ref (ad 0), .int 0, .int 0, .ref (ad 1), .ref (ad 2), .ref (ad 3), .ref (ad 4), .ref (ad 5), .ref (ad 6)])), ((ad 5), .inr (6, [.ref (ad 2), .ref (ad 1), .ref (ad 40), .int 0, .int 0, .ref (ad 41), .int 0, .int 0, .ref (ad 42), .int 0, .ref (ad 43), .int 0, .ref (ad 44), .int 0, .int 0, .int 0])), (hm, .inr (14, (m_obj adm))), (qo, .inl (co, 1, .inr (.inl (fun _ => 0))))] H) (hD : va_D (fun q : Nat => s.heap.size ≤ q) [(h0, .inr (13, [.ref (ad 0), .int 0, .int 0, .ref (ad 1), .ref (ad 2), .ref (ad 3), .ref (ad 4), .ref (ad 5), .ref (ad 6)])), ((ad 5), .inr (6, [.ref (ad 2), .ref (ad 1), .ref (ad 40), .int 0, .int 0, .ref (ad 41), .int 0, .int 0, .ref (ad 42), .int 0, .ref (ad 43), .int 0, .ref (ad 44), .int 0, .int 0, .int 0])), (hm, .inr (14, (m_obj adm))), (qo, .inl (co, 1, .inr (.inl (fun _ => 0))))]) (hS : va_S (fun q : Nat => s.heap.size ≤ q) s.heap H locs) (hl : lv_has ls 7 [(0, .ref b), (1, .ref h0), (2, .ref hm), (3, .ref qo), (4, .int 0)]) : W p l e room_1 s m #[Value.ref b] below meth c H locs 184 4401688 (lw_Z below #[Value.ref b] s) (F0 m 374 ls []) := by
  obtain ⟨hx, hb, hr, hml, hown, hts0, hX, hbl, hlocks, hgv⟩ := id C0
  have hown : s.vm.findClass RL = some m.cls := hown
  have hts : ∀ w ∈ vw_law, w.before #[Value.ref b] s = true := fun w h => hts0 w (vz_law w h)
  obtain ⟨A, hAe⟩ : ∃ A : Nat → Prop, A = (fun q : Nat => s.heap.size ≤ q) := ⟨_, rfl⟩
  rw [← hAe] at hE hD hS
  have hA : ∀ q : Nat, s.heap.size ≤ q → A q := by rw [hAe]; exact fun _ h => h
  have hbA : ¬ A b := by rw [hAe]; exact Nat.not_le.mpr hbl
  refine lv_aload_n hx hb dL_law_374 rfl (lv_at hl 1 rfl) ?_
  refine lv_aload_n hx hb dL_law_375 rfl (lv_at hl 0 rfl) ?_
  refine lv_iload hx hb dL_law_376 (lv_at hl 4 rfl) ?_
  refine lv_iconst (v := 1) hx hb dL_law_378 (by decide) ?_
  refine lv_iadd hx hb dL_law_379 ?_
  refine lv_topi (fun f_1 ef_1 => ?_)
  obtain rfl : f_1 = 1 := by rw [ef_1]; decide
  refine va_sld hx hb hX hbl hbA hS (show ¬ ((1 : Int32) < 0 ∨ 6 ≤ (1 : Int32).toNatClampNeg) by decide) dL_law_380 ?_
  refine W.eq (g2 := F0 m 381 ls [.int (xs 1), .ref h0]) rfl ?_
  refine lv_aload_n hx hb dL_law_381 rfl (lv_at hl 3 rfl) ?_
  have hPc := hP.sub (ws' := [(h0, .inr (13, [.ref (ad 0), .int 0, .int 0, .ref (ad 1), .ref (ad 2), .ref (ad 3), .ref (ad 4), .ref (ad 5), .ref (ad 6)])), ((ad 5), .inr (6, [.ref (ad 2), .ref (ad 1), .ref (ad 40), .int 0, .int 0, .ref (ad 41), .int 0, .int 0, .ref (ad 42), .int 0, .ref (ad 43), .int 0, .ref (ad 44), .int 0, .int 0, .int 0])), (qo, .inl (co, 1, .inr (.inl (fun _ => 0))))]) [0, 1, 3] rfl
  have hDc := hD.sub (ws' := [(h0, .inr (13, [.ref (ad 0), .int 0, .int 0, .ref (ad 1), .ref (ad 2), .ref (ad 3), .ref (ad 4), .ref (ad 5), .ref (ad 6)])), ((ad 5), .inr (6, [.ref (ad 2), .ref (ad 1), .ref (ad 40), .int 0, .int 0, .ref (ad 41), .int 0, .int 0, .ref (ad 42), .int 0, .ref (ad 43), .int 0, .ref (ad 44), .int 0, .int 0, .int 0])), (qo, .inl (co, 1, .inr (.inl (fun _ => 0))))]) [0, 1, 3] (by decide) rfl
  have hKc := hK.sub (tys' := [(co, .long)]) [0] rfl
  have hFc := va_free (wc := [(h0, .inr (13, [.ref (ad 0), .int 0, .int 0, .ref (ad 1), .ref (ad 2), .ref (ad 3), .ref (ad 4), .ref (ad 5), .ref (ad 6)])), ((ad 5), .inr (6, [.ref (ad 2), .ref (ad 1), .ref (ad 40), .int 0, .int 0, .ref (ad 41), .int 0, .int 0, .ref (ad 42), .int 0, .ref (ad 43), .int 0, .ref (ad 44), .int 0, .int 0, .int 0])), (qo, .inl (co, 1, .inr (.inl (fun _ => 0))))]) hD hS hA [0, 1, 3] rfl
  have hEc := (fE.kept hE.2.2.2 hS.2.1).narrow (fun q h => hFc q h)
  refine va_calli (vx_runSW (As := [.ref h0, .int (xs 1), .ref qo]) (rest := []) ⟨hx, hb, hml, hown, hts⟩ (k_L_run l dC dI H.size h0 ad s1 s2 s3 qo co (fun _ => 0) (xs 1) hst) (vx_cwSW (hh := [(0, 9, 12, 18), (0, 9, 15, 12)]) 3 hts vg_law_k_L_run rfl rfl rfl (by decide +kernel) ⟨Nat.le_of_ble_eq_true rfl, Nat.le_of_ble_eq_true rfl⟩) ⟨fun a U g mk q => by obtain ⟨q0, q1, qP, qK, qD, qE⟩ := q; exact ⟨q0, q1, qP, va_K.moved (u := U) (U := U.calling g mk a) (Vm.Alike.refl U.vm) qK, qD, fE.same (U := U.calling g mk a) rfl qE⟩, fun U hU hW => ⟨rfl, by rw [hU], by rw [hU]; exact hPc, va_K.moved hW.alike hKc, hDc.weaken (fun _ _ _ _ => trivial), by rw [hU]; exact fE.warm hW hEc⟩⟩ rfl rfl hl.1 rfl (lv_room (Nat.le_of_ble_eq_true rfl)) dL_law_382 ⟨Nat.le_of_ble_eq_true rfl, Nat.le_of_ble_eq_true rfl⟩) hS (fun q _ h => hFc q h) hFc (fun r_2 u t H1 locs ht hvm hw hB hz1 hk1 hS => ?_)
  try dsimp only at hw
  obtain ⟨hP, hD⟩ := va_join (wr := [(hm, .inr (14, (m_obj adm)))]) (w1 := []) hP hD [0, 1, 3] [2] rfl rfl (by decide) (by decide) hk1 hFc (fun k q h => by simp at h) ⟨fun i j p q h => by simp at h, fun k q h => by simp at h⟩
  generalize H1 = H at hP hS ⊢
  have hP : va_P (dC, dI) vwCl [(hm, .inr (14, (m_obj adm)))] H := hP
  have hD : va_D A [(hm, .inr (14, (m_obj adm)))] := hD
  obtain rfl : r_2 = (k_run (xs 1)) := hw
  refine lv_istore (lv' := [(5, .int (k_run (xs 1))), (0, .ref b), (1, .ref h0), (2, .ref hm), (3, .ref qo), (4, .int 0)]) hx hb dL_law_385 hl (by decide) rfl (fun ls hl => ?_)
  refine lv_aload_n hx hb dL_law_387 rfl (lv_at hl 3 rfl) ?_
  refine lv_aload_n hx hb dL_law_388 rfl (lv_at hl 1 rfl) ?_
  refine lv_iload hx hb dL_law_389 (lv_at hl 5 rfl) ?_
  refine lv_iconst (v := 1) hx hb dL_law_391 (by decide) ?_
  refine lv_iadd hx hb dL_law_392 ?_
  refine lv_topi (fun f_3 ef_3 => ?_)
  obtain rfl : f_3 = 1 := by rw [ef_3]; decide
  refine va_sld hx hb hX hbl hbA hS (show ¬ ((1 : Int32) < 0 ∨ 6 ≤ (1 : Int32).toNatClampNeg) by decide) dL_law_393 ?_
  refine W.eq (g2 := F0 m 394 ls [.int (xs 1), .ref hm]) rfl ?_
  have hPc := hP.sub (ws' := [(hm, .inr (14, (m_obj adm)))]) [0] rfl
  have hDc := hD.sub (ws' := [(hm, .inr (14, (m_obj adm)))]) [0] (by decide) rfl
  have hKc := hK.sub (tys' := []) [] rfl
  have hFc := va_free (wc := [(hm, .inr (14, (m_obj adm)))]) hD hS hA [0] rfl
  refine va_calli (va_runV (As := [.int (xs 1)]) (rest := []) ⟨hx, hb, hml, hown, hts⟩ (k_X12_run l dC dI H.size hm adm (xs 1)) (cwV 1 hts vg_law_k_X12_run rfl rfl rfl (by decide +kernel) ⟨Nat.le_of_ble_eq_true rfl, Nat.le_of_ble_eq_true rfl⟩) ⟨fun a U g mk q => by obtain ⟨q0, q1, qP, qK, qD⟩ := q; exact ⟨q0, q1, qP, va_K.moved (u := U) (U := U.calling g mk a) (Vm.Alike.refl U.vm) qK, qD⟩, va_recv hKc hPc (ci := 14) (q0 := 0) rfl rfl, fun U hU hW => ⟨rfl, by rw [hU], by rw [hU]; exact hPc, va_K.moved hW.alike hKc, hDc.weaken (fun _ _ _ _ => trivial)⟩⟩ rfl rfl hl.1 rfl (lv_room (Nat.le_of_ble_eq_true rfl)) dL_law_394 ⟨Nat.le_of_ble_eq_true rfl, Nat.le_of_ble_eq_true rfl⟩) hS (fun q _ h => hFc q h) hFc (fun r_4 u t H1 locs ht hvm hw hB hz1 hk1 hS => ?_)
  obtain rfl : u = (k_run (xs 1)) := hw
  obtain ⟨hP1, hK1, hD1⟩ := hB
  rw [ht] at hP1
  have hK1 := va_K.moved hvm.symm hK1
  try dsimp only at hw
  obtain ⟨hP, hD⟩ := va_join (wr := []) (w1 := [(hm, .inr (14, ((m_obj adm).set 0 (.int (k_run (xs 1))))))]) hP hD [0] [] rfl rfl (by decide) (by decide) hk1 hFc hP1 hD1
  generalize H1 = H at hP hS ⊢
  have hP : va_P (dC, dI) vwCl [(hm, .inr (14, ((m_obj adm).set 0 (.int (k_run (xs 1))))))] H := hP
  have hD : va_D A [(hm, .inr (14, ((m_obj adm).set 0 (.int (k_run (xs 1))))))] := hD
  refine lv_istore (lv' := [(6, .int r_4), (5, .int (k_run (xs 1))), (0, .ref b), (1, .ref h0), (2, .ref hm), (3, .ref qo), (4, .int 0)]) hx hb dL_law_397 hl (by decide) rfl (fun ls hl => ?_)
  refine lv_aload_n hx hb dL_law_399 rfl (lv_at hl 4 rfl) ?_
  have hPc := hP.sub (ws' := [(hm, .inr (14, ((m_obj adm).set 0 (.int (k_run (xs 1))))))]) [0] rfl
  have hDc := hD.sub (ws' := [(hm, .inr (14, ((m_obj adm).set 0 (.int (k_run (xs 1))))))]) [0] (by decide) rfl
  have hKc := hK.sub (tys' := []) [] rfl
  have hFc := va_free (wc := [(hm, .inr (14, ((m_obj adm).set 0 (.int (k_run (xs 1))))))]) hD hS hA [0] rfl
  refine va_calli (va_runV (As := []) (rest := []) ⟨hx, hb, hml, hown, hts⟩ (k_X12_thrown l dC dI H.size hm adm (k_run (xs 1))) (cwV 0 hts vg_law_k_X12_thrown rfl rfl rfl (by decide +kernel) ⟨Nat.le_of_ble_eq_true rfl, Nat.le_of_ble_eq_true rfl⟩) ⟨fun a U g mk q => by obtain ⟨q0, q1, qP, qK, qD⟩ := q; exact ⟨q0, q1, qP, va_K.moved (u := U) (U := U.calling g mk a) (Vm.Alike.refl U.vm) qK, qD⟩, va_recv hKc hPc (ci := 14) (q0 := 0) rfl rfl, fun U hU hW => ⟨rfl, by rw [hU], by rw [hU]; exact hPc, va_K.moved hW.alike hKc, hDc.weaken (fun _ _ _ _ => trivial)⟩⟩ rfl rfl hl.1 rfl (lv_room (Nat.le_of_ble_eq_true rfl)) dL_law_400 ⟨Nat.le_of_ble_eq_true rfl, Nat.le_of_ble_eq_true rfl⟩) hS (fun q _ h => hFc q h) hFc (fun r_5 u t H1 locs ht hvm hw hB hz1 hk1 hS => ?_)
  try dsimp only at hw
  obtain ⟨hP, hD⟩ := va_join (wr := []) (w1 := []) hP hD [0] [] rfl rfl (by decide) (by decide) hk1 hFc (fun k q h => by simp at h) ⟨fun i j p q h => by simp at h, fun k q h => by simp at h⟩
  generalize H1 = H at hP hS ⊢
  have hP : va_P (dC, dI) vwCl [] H := hP
  have hD : va_D A [] := hD
  obtain rfl : r_5 = (k_run (xs 1)) := hw
  refine lv_iload hx hb dL_law_403 (lv_at hl 1 rfl) ?_
  refine lv_icmp_eq (tgt := 410) hx hb dL_law_405 (by decide) (fun _ => ?_) (fun c9 => absurd rfl c9)
  refine lv_iload hx hb dL_law_410 (lv_at hl 1 rfl) ?_
  refine lv_if_ne (tgt := 427) hx hb dL_law_412 (by decide) (fun _ => ?_) (fun c9 => absurd c9 (k_run_ne _))
  refine lv_goto (tgt := 970) hx hb dL_law_427 (by decide) ?_
  refine lv_iinc (v := 6) (lv' := [(4, .int 6), (6, .int r_4), (5, .int (k_run (xs 1))), (0, .ref b), (1, .ref h0), (2, .ref hm), (3, .ref qo)]) hx hb dL_law_970 hl (k := 6) rfl (by decide) (by decide) rfl (fun ls hl => ?_)
  refine lv_goto (tgt := 23) hx hb dL_law_973 (by decide) ?_
  refine lv_iload hx hb dL_law_23 (lv_at hl 0 rfl) ?_
  refine lv_aload_n hx hb dL_law_25 rfl (lv_at hl 3 rfl) ?_
  refine va_slen hx hb hX hbl hbA hS dL_law_26 ?_
  refine W.eq (g2 := F0 m 27 ls [.int 6, .int 6]) rfl ?_
  refine lv_bipush (v := 6) hx hb dL_law_27 (by decide) ?_
  refine lv_isub hx hb dL_law_29 ?_
  refine lv_topi (fun f_7 ef_7 => ?_)
  obtain rfl : f_7 = 0 := by rw [ef_7]; decide
  refine lv_icmp_gt (tgt := 976) hx hb dL_law_30 (by decide) (fun _ => ?_) (fun c8_30 => absurd (by decide) c8_30)
  refine lv_iconst (v := 1) hx hb dL_law_976 (by decide) ?_
  refine va_forget (fun q hq => by have h9 := hS.2.2 q hq; rw [hAe] at h9; exact h9) ?_
  refine W.widen (k := 258412) (n := 8327002) (Nat.le_of_ble_eq_true rfl) (Nat.le_of_ble_eq_true rfl) ?_
  exact lw_ret hx hb hr hlocks dL_law_977

set_option maxHeartbeats 8000000 in
set_option maxRecDepth 100000 in
theorem law_c430 {p : Program} {e : Env} {s : State} {m : MethodId} {below : List Frame} {meth : Method} {c : Code} {l : Launch} (hst : l.stackTraces = false) {b : Nat} {xs : Nat → Int32} (C0 : lw_At p s m meth c b 6 xs) {dC : Nat → ClassId} {dI : Nat → Nat → Nat} {aS aV bS bV tR s1 s2 s3 : Nat} (hE : zE aS aV bS bV tR s1 s2 s3 (fun q : Nat => s.heap.size ≤ q) s s.heap) {h0 : Nat} {ad : Nat → Nat} {hm : Nat} {adm : Nat → Nat} {qo : Nat} {H : Heap} {locs : List Loc} {ls : Array Slot} (hK : va_K (dC, dI) vwCl [] s) (hP : va_P (dC, dI) vwCl [(h0, .inr (13, [.ref (ad 0), .int 0, .int 0, .ref (ad 1), .ref (ad 2), .ref (ad 3), .ref (ad 4), .ref (ad 5), .ref (ad 6)])), ((ad 5), .inr (6, [.ref (ad 2), .ref (ad 1), .ref (ad 40), .int 0, .int 0, .ref (ad 41), .int 0, .int 0, .ref (ad 42), .int 0, .ref (ad 43), .int 0, .ref (ad 44), .int 0, .int 0, .int 0])), (hm, .inr (14, (m_obj adm)))] H) (hD : va_D (fun q : Nat => s.heap.size ≤ q) [(h0, .inr (13, [.ref (ad 0), .int 0, .int 0, .ref (ad 1), .ref (ad 2), .ref (ad 3), .ref (ad 4), .ref (ad 5), .ref (ad 6)])), ((ad 5), .inr (6, [.ref (ad 2), .ref (ad 1), .ref (ad 40), .int 0, .int 0, .ref (ad 41), .int 0, .int 0, .ref (ad 42), .int 0, .ref (ad 43), .int 0, .ref (ad 44), .int 0, .int 0, .int 0])), (hm, .inr (14, (m_obj adm)))]) (hS : va_S (fun q : Nat => s.heap.size ≤ q) s.heap H locs) (hl : lv_has ls 7 [(0, .ref b), (1, .ref h0), (2, .ref hm), (3, .ref qo), (4, .int 0)]) : W p l e room_1 s m #[Value.ref b] below meth c H locs 184 4401688 (lw_Z below #[Value.ref b] s) (F0 m 430 ls []) := by
  obtain ⟨hx, hb, hr, hml, hown, hts0, hX, hbl, hlocks, hgv⟩ := id C0
  have hown : s.vm.findClass RL = some m.cls := hown
  have hts : ∀ w ∈ vw_law, w.before #[Value.ref b] s = true := fun w h => hts0 w (vz_law w h)
  obtain ⟨A, hAe⟩ : ∃ A : Nat → Prop, A = (fun q : Nat => s.heap.size ≤ q) := ⟨_, rfl⟩
  rw [← hAe] at hE hD hS
  have hA : ∀ q : Nat, s.heap.size ≤ q → A q := by rw [hAe]; exact fun _ h => h
  have hbA : ¬ A b := by rw [hAe]; exact Nat.not_le.mpr hbl
  refine lv_aload_n hx hb dL_law_430 rfl (lv_at hl 1 rfl) ?_
  refine lv_aload_n hx hb dL_law_431 rfl (lv_at hl 0 rfl) ?_
  refine lv_iload hx hb dL_law_432 (lv_at hl 4 rfl) ?_
  refine lv_iconst (v := 1) hx hb dL_law_434 (by decide) ?_
  refine lv_iadd hx hb dL_law_435 ?_
  refine lv_topi (fun f_1 ef_1 => ?_)
  obtain rfl : f_1 = 1 := by rw [ef_1]; decide
  refine va_sld hx hb hX hbl hbA hS (show ¬ ((1 : Int32) < 0 ∨ 6 ≤ (1 : Int32).toNatClampNeg) by decide) dL_law_436 ?_
  refine W.eq (g2 := F0 m 437 ls [.int (xs 1), .ref h0]) rfl ?_
  refine lv_aload_n hx hb dL_law_437 rfl (lv_at hl 0 rfl) ?_
  refine lv_iload hx hb dL_law_438 (lv_at hl 4 rfl) ?_
  refine lv_iconst (v := 2) hx hb dL_law_440 (by decide) ?_
  refine lv_iadd hx hb dL_law_441 ?_
  refine lv_topi (fun f_2 ef_2 => ?_)
  obtain rfl : f_2 = 2 := by rw [ef_2]; decide
  refine va_sld hx hb hX hbl hbA hS (show ¬ ((2 : Int32) < 0 ∨ 6 ≤ (2 : Int32).toNatClampNeg) by decide) dL_law_442 ?_
  refine W.eq (g2 := F0 m 443 ls [.int (xs 2), .int (xs 1), .ref h0]) rfl ?_
  have hPc := hP.sub (ws' := [(h0, .inr (13, [.ref (ad 0), .int 0, .int 0, .ref (ad 1), .ref (ad 2), .ref (ad 3), .ref (ad 4), .ref (ad 5), .ref (ad 6)])), ((ad 5), .inr (6, [.ref (ad 2), .ref (ad 1), .ref (ad 40), .int 0, .int 0, .ref (ad 41), .int 0, .int 0, .ref (ad 42), .int 0, .ref (ad 43), .int 0, .ref (ad 44), .int 0, .int 0, .int 0]))]) [0, 1] rfl
  have hDc := hD.sub (ws' := [(h0, .inr (13, [.ref (ad 0), .int 0, .int 0, .ref (ad 1), .ref (ad 2), .ref (ad 3), .ref (ad 4), .ref (ad 5), .ref (ad 6)])), ((ad 5), .inr (6, [.ref (ad 2), .ref (ad 1), .ref (ad 40), .int 0, .int 0, .ref (ad 41), .int 0, .int 0, .ref (ad 42), .int 0, .ref (ad 43), .int 0, .ref (ad 44), .int 0, .int 0, .int 0]))]) [0, 1] (by decide) rfl
  have hKc := hK.sub (tys' := []) [] rfl
  have hFc := va_free (wc := [(h0, .inr (13, [.ref (ad 0), .int 0, .int 0, .ref (ad 1), .ref (ad 2), .ref (ad 3), .ref (ad 4), .ref (ad 5), .ref (ad 6)])), ((ad 5), .inr (6, [.ref (ad 2), .ref (ad 1), .ref (ad 40), .int 0, .int 0, .ref (ad 41), .int 0, .int 0, .ref (ad 42), .int 0, .ref (ad 43), .int 0, .ref (ad 44), .int 0, .int 0, .int 0]))]) hD hS hA [0, 1] rfl
  refine va_calli (va_runV (As := [.int (xs 1), .int (xs 2)]) (rest := []) ⟨hx, hb, hml, hown, hts⟩ (k_X11_frame l dC dI H.size h0 ad (xs 1) (xs 2)) (cwV 2 hts vg_law_k_X11_frame rfl rfl rfl (by decide +kernel) ⟨Nat.le_of_ble_eq_true rfl, Nat.le_of_ble_eq_true rfl⟩) ⟨fun a U g mk q => by obtain ⟨q0, q1, qP, qK, qD⟩ := q; exact ⟨q0, q1, qP, va_K.moved (u := U) (U := U.calling g mk a) (Vm.Alike.refl U.vm) qK, qD⟩, va_recv hKc hPc (ci := 13) (q0 := 0) rfl rfl, fun U hU hW => ⟨rfl, by rw [hU], by rw [hU]; exact hPc, va_K.moved hW.alike hKc, hDc.weaken (fun _ _ _ _ => trivial)⟩⟩ rfl rfl hl.1 rfl (lv_room (Nat.le_of_ble_eq_true rfl)) dL_law_443 ⟨Nat.le_of_ble_eq_true rfl, Nat.le_of_ble_eq_true rfl⟩) hS (fun q _ h => hFc q h) hFc (fun r_3 u t H1 locs ht hvm hw hB hz1 hk1 hS => ?_)
  try dsimp only at hw
  obtain ⟨hP, hD⟩ := va_join (wr := [(hm, .inr (14, (m_obj adm)))]) (w1 := []) hP hD [0, 1] [2] rfl rfl (by decide) (by decide) hk1 hFc (fun k q h => by simp at h) ⟨fun i j p q h => by simp at h, fun k q h => by simp at h⟩
  generalize H1 = H at hP hS ⊢
  have hP : va_P (dC, dI) vwCl [(hm, .inr (14, (m_obj adm)))] H := hP
  have hD : va_D A [(hm, .inr (14, (m_obj adm)))] := hD
  obtain rfl : r_3 = (-1) := hw
  refine lv_aload_n hx hb dL_law_446 rfl (lv_at hl 2 rfl) ?_
  refine lv_aload_n hx hb dL_law_447 rfl (lv_at hl 0 rfl) ?_
  refine lv_iload hx hb dL_law_448 (lv_at hl 4 rfl) ?_
  refine lv_iconst (v := 1) hx hb dL_law_450 (by decide) ?_
  refine lv_iadd hx hb dL_law_451 ?_
  refine lv_topi (fun f_4 ef_4 => ?_)
  obtain rfl : f_4 = 1 := by rw [ef_4]; decide
  refine va_sld hx hb hX hbl hbA hS (show ¬ ((1 : Int32) < 0 ∨ 6 ≤ (1 : Int32).toNatClampNeg) by decide) dL_law_452 ?_
  refine W.eq (g2 := F0 m 453 ls [.int (xs 1), .ref hm, .int (-1)]) rfl ?_
  refine lv_aload_n hx hb dL_law_453 rfl (lv_at hl 0 rfl) ?_
  refine lv_iload hx hb dL_law_454 (lv_at hl 4 rfl) ?_
  refine lv_iconst (v := 2) hx hb dL_law_456 (by decide) ?_
  refine lv_iadd hx hb dL_law_457 ?_
  refine lv_topi (fun f_5 ef_5 => ?_)
  obtain rfl : f_5 = 2 := by rw [ef_5]; decide
  refine va_sld hx hb hX hbl hbA hS (show ¬ ((2 : Int32) < 0 ∨ 6 ≤ (2 : Int32).toNatClampNeg) by decide) dL_law_458 ?_
  refine W.eq (g2 := F0 m 459 ls [.int (xs 2), .int (xs 1), .ref hm, .int (-1)]) rfl ?_
  have hPc := hP.sub (ws' := [(hm, .inr (14, (m_obj adm)))]) [0] rfl
  have hDc := hD.sub (ws' := [(hm, .inr (14, (m_obj adm)))]) [0] (by decide) rfl
  have hKc := hK.sub (tys' := []) [] rfl
  have hFc := va_free (wc := [(hm, .inr (14, (m_obj adm)))]) hD hS hA [0] rfl
  refine va_calli (va_runV (As := [.int (xs 1), .int (xs 2)]) (rest := [.int (-1)]) ⟨hx, hb, hml, hown, hts⟩ (k_X12_frame l dC dI H.size hm adm (xs 1) (xs 2)) (cwV 2 hts vg_law_k_X12_frame rfl rfl rfl (by decide +kernel) ⟨Nat.le_of_ble_eq_true rfl, Nat.le_of_ble_eq_true rfl⟩) ⟨fun a U g mk q => by obtain ⟨q0, q1, qP, qK, qD⟩ := q; exact ⟨q0, q1, qP, va_K.moved (u := U) (U := U.calling g mk a) (Vm.Alike.refl U.vm) qK, qD⟩, va_recv hKc hPc (ci := 14) (q0 := 0) rfl rfl, fun U hU hW => ⟨rfl, by rw [hU], by rw [hU]; exact hPc, va_K.moved hW.alike hKc, hDc.weaken (fun _ _ _ _ => trivial)⟩⟩ rfl rfl hl.1 rfl (lv_room (Nat.le_of_ble_eq_true rfl)) dL_law_459 ⟨Nat.le_of_ble_eq_true rfl, Nat.le_of_ble_eq_true rfl⟩) hS (fun q _ h => hFc q h) hFc (fun r_6 u t H1 locs ht hvm hw hB hz1 hk1 hS => ?_)
  try dsimp only at hw
  obtain ⟨hP, hD⟩ := va_join (wr := []) (w1 := []) hP hD [0] [] rfl rfl (by decide) (by decide) hk1 hFc (fun k q h => by simp at h) ⟨fun i j p q h => by simp at h, fun k q h => by simp at h⟩
  generalize H1 = H at hP hS ⊢
  have hP : va_P (dC, dI) vwCl [] H := hP
  have hD : va_D A [] := hD
  obtain rfl : r_6 = (-1) := hw
  refine lv_icmp_eq (tgt := 970) hx hb dL_law_462 (by decide) (fun _ => ?_) (fun c7_462 => absurd (by decide) c7_462)
  refine lv_iinc (v := 6) (lv' := [(4, .int 6), (0, .ref b), (1, .ref h0), (2, .ref hm), (3, .ref qo)]) hx hb dL_law_970 hl (k := 4) rfl (by decide) (by decide) rfl (fun ls hl => ?_)
  refine lv_goto (tgt := 23) hx hb dL_law_973 (by decide) ?_
  refine lv_iload hx hb dL_law_23 (lv_at hl 0 rfl) ?_
  refine lv_aload_n hx hb dL_law_25 rfl (lv_at hl 1 rfl) ?_
  refine va_slen hx hb hX hbl hbA hS dL_law_26 ?_
  refine W.eq (g2 := F0 m 27 ls [.int 6, .int 6]) rfl ?_
  refine lv_bipush (v := 6) hx hb dL_law_27 (by decide) ?_
  refine lv_isub hx hb dL_law_29 ?_
  refine lv_topi (fun f_8 ef_8 => ?_)
  obtain rfl : f_8 = 0 := by rw [ef_8]; decide
  refine lv_icmp_gt (tgt := 976) hx hb dL_law_30 (by decide) (fun _ => ?_) (fun c9_30 => absurd (by decide) c9_30)
  refine lv_iconst (v := 1) hx hb dL_law_976 (by decide) ?_
  refine va_forget (fun q hq => by have h9 := hS.2.2 q hq; rw [hAe] at h9; exact h9) ?_
  refine W.widen (k := 258412) (n := 8327002) (Nat.le_of_ble_eq_true rfl) (Nat.le_of_ble_eq_true rfl) ?_
  exact lw_ret hx hb hr hlocks dL_law_977

set_option maxHeartbeats 8000000 in
set_option maxRecDepth 100000 in
theorem law_c467 {p : Program} {e : Env} {s : State} {m : MethodId} {below : List Frame} {meth : Method} {c : Code} {l : Launch} (hst : l.stackTraces = false) {b : Nat} {xs : Nat → Int32} (C0 : lw_At p s m meth c b 6 xs) {dC : Nat → ClassId} {dI : Nat → Nat → Nat} {aS aV bS bV tR s1 s2 s3 : Nat} (hE : zE aS aV bS bV tR s1 s2 s3 (fun q : Nat => s.heap.size ≤ q) s s.heap) {h0 : Nat} {ad : Nat → Nat} {hm : Nat} {adm : Nat → Nat} {qo : Nat} {H : Heap} {locs : List Loc} {ls : Array Slot} (hK : va_K (dC, dI) vwCl [] s) (hP : va_P (dC, dI) vwCl [(h0, .inr (13, [.ref (ad 0), .int 0, .int 0, .ref (ad 1), .ref (ad 2), .ref (ad 3), .ref (ad 4), .ref (ad 5), .ref (ad 6)])), ((ad 5), .inr (6, [.ref (ad 2), .ref (ad 1), .ref (ad 40), .int 0, .int 0, .ref (ad 41), .int 0, .int 0, .ref (ad 42), .int 0, .ref (ad 43), .int 0, .ref (ad 44), .int 0, .int 0, .int 0])), (hm, .inr (14, (m_obj adm)))] H) (hD : va_D (fun q : Nat => s.heap.size ≤ q) [(h0, .inr (13, [.ref (ad 0), .int 0, .int 0, .ref (ad 1), .ref (ad 2), .ref (ad 3), .ref (ad 4), .ref (ad 5), .ref (ad 6)])), ((ad 5), .inr (6, [.ref (ad 2), .ref (ad 1), .ref (ad 40), .int 0, .int 0, .ref (ad 41), .int 0, .int 0, .ref (ad 42), .int 0, .ref (ad 43), .int 0, .ref (ad 44), .int 0, .int 0, .int 0])), (hm, .inr (14, (m_obj adm)))]) (hS : va_S (fun q : Nat => s.heap.size ≤ q) s.heap H locs) (hl : lv_has ls 7 [(0, .ref b), (1, .ref h0), (2, .ref hm), (3, .ref qo), (4, .int 0)]) : W p l e room_1 s m #[Value.ref b] below meth c H locs 184 4401688 (lw_Z below #[Value.ref b] s) (F0 m 467 ls []) := by
  obtain ⟨hx, hb, hr, hml, hown, hts0, hX, hbl, hlocks, hgv⟩ := id C0
  have hown : s.vm.findClass RL = some m.cls := hown
  have hts : ∀ w ∈ vw_law, w.before #[Value.ref b] s = true := fun w h => hts0 w (vz_law w h)
  obtain ⟨A, hAe⟩ : ∃ A : Nat → Prop, A = (fun q : Nat => s.heap.size ≤ q) := ⟨_, rfl⟩
  rw [← hAe] at hE hD hS
  have hA : ∀ q : Nat, s.heap.size ≤ q → A q := by rw [hAe]; exact fun _ h => h
  have hbA : ¬ A b := by rw [hAe]; exact Nat.not_le.mpr hbl
  refine lv_aload_n hx hb dL_law_467 rfl (lv_at hl 1 rfl) ?_
  refine lv_aload_n hx hb dL_law_468 rfl (lv_at hl 0 rfl) ?_
  refine lv_iload hx hb dL_law_469 (lv_at hl 4 rfl) ?_
  refine lv_iconst (v := 1) hx hb dL_law_471 (by decide) ?_
  refine lv_iadd hx hb dL_law_472 ?_
  refine lv_topi (fun f_1 ef_1 => ?_)
  obtain rfl : f_1 = 1 := by rw [ef_1]; decide
  refine va_sld hx hb hX hbl hbA hS (show ¬ ((1 : Int32) < 0 ∨ 6 ≤ (1 : Int32).toNatClampNeg) by decide) dL_law_473 ?_
  refine W.eq (g2 := F0 m 474 ls [.int (xs 1), .ref h0]) rfl ?_
  refine lv_aload_n hx hb dL_law_474 rfl (lv_at hl 0 rfl) ?_
  refine lv_iload hx hb dL_law_475 (lv_at hl 4 rfl) ?_
  refine lv_iconst (v := 2) hx hb dL_law_477 (by decide) ?_
  refine lv_iadd hx hb dL_law_478 ?_
  refine lv_topi (fun f_2 ef_2 => ?_)
  obtain rfl : f_2 = 2 := by rw [ef_2]; decide
  refine va_sld hx hb hX hbl hbA hS (show ¬ ((2 : Int32) < 0 ∨ 6 ≤ (2 : Int32).toNatClampNeg) by decide) dL_law_479 ?_
  refine W.eq (g2 := F0 m 480 ls [.int (xs 2), .int (xs 1), .ref h0]) rfl ?_
  refine lv_aload_n hx hb dL_law_480 rfl (lv_at hl 0 rfl) ?_
  refine lv_iload hx hb dL_law_481 (lv_at hl 4 rfl) ?_
  refine lv_iconst (v := 3) hx hb dL_law_483 (by decide) ?_
  refine lv_iadd hx hb dL_law_484 ?_
  refine lv_topi (fun f_3 ef_3 => ?_)
  obtain rfl : f_3 = 3 := by rw [ef_3]; decide
  refine va_sld hx hb hX hbl hbA hS (show ¬ ((3 : Int32) < 0 ∨ 6 ≤ (3 : Int32).toNatClampNeg) by decide) dL_law_485 ?_
  refine W.eq (g2 := F0 m 486 ls [.int (xs 3), .int (xs 2), .int (xs 1), .ref h0]) rfl ?_
  have hPc := hP.sub (ws' := [(h0, .inr (13, [.ref (ad 0), .int 0, .int 0, .ref (ad 1), .ref (ad 2), .ref (ad 3), .ref (ad 4), .ref (ad 5), .ref (ad 6)])), ((ad 5), .inr (6, [.ref (ad 2), .ref (ad 1), .ref (ad 40), .int 0, .int 0, .ref (ad 41), .int 0, .int 0, .ref (ad 42), .int 0, .ref (ad 43), .int 0, .ref (ad 44), .int 0, .int 0, .int 0]))]) [0, 1] rfl
  have hDc := hD.sub (ws' := [(h0, .inr (13, [.ref (ad 0), .int 0, .int 0, .ref (ad 1), .ref (ad 2), .ref (ad 3), .ref (ad 4), .ref (ad 5), .ref (ad 6)])), ((ad 5), .inr (6, [.ref (ad 2), .ref (ad 1), .ref (ad 40), .int 0, .int 0, .ref (ad 41), .int 0, .int 0, .ref (ad 42), .int 0, .ref (ad 43), .int 0, .ref (ad 44), .int 0, .int 0, .int 0]))]) [0, 1] (by decide) rfl
  have hKc := hK.sub (tys' := []) [] rfl
  have hFc := va_free (wc := [(h0, .inr (13, [.ref (ad 0), .int 0, .int 0, .ref (ad 1), .ref (ad 2), .ref (ad 3), .ref (ad 4), .ref (ad 5), .ref (ad 6)])), ((ad 5), .inr (6, [.ref (ad 2), .ref (ad 1), .ref (ad 40), .int 0, .int 0, .ref (ad 41), .int 0, .int 0, .ref (ad 42), .int 0, .ref (ad 43), .int 0, .ref (ad 44), .int 0, .int 0, .int 0]))]) hD hS hA [0, 1] rfl
  refine va_calli (va_runV (As := [.int (xs 1), .int (xs 2), .int (xs 3)]) (rest := []) ⟨hx, hb, hml, hown, hts⟩ (k_X11_value l dC dI H.size h0 ad (xs 1) (xs 2) (xs 3)) (cwV 3 hts vg_law_k_X11_value rfl rfl rfl (by decide +kernel) ⟨Nat.le_of_ble_eq_true rfl, Nat.le_of_ble_eq_true rfl⟩) ⟨fun a U g mk q => by obtain ⟨q0, q1, qP, qK, qD⟩ := q; exact ⟨q0, q1, qP, va_K.moved (u := U) (U := U.calling g mk a) (Vm.Alike.refl U.vm) qK, qD⟩, va_recv hKc hPc (ci := 13) (q0 := 0) rfl rfl, fun U hU hW => ⟨rfl, by rw [hU], by rw [hU]; exact hPc, va_K.moved hW.alike hKc, hDc.weaken (fun _ _ _ _ => trivial)⟩⟩ rfl rfl hl.1 rfl (lv_room (Nat.le_of_ble_eq_true rfl)) dL_law_486 ⟨Nat.le_of_ble_eq_true rfl, Nat.le_of_ble_eq_true rfl⟩) hS (fun q _ h => hFc q h) hFc (fun r_4 u t H1 locs ht hvm hw hB hz1 hk1 hS => ?_)
  try dsimp only at hw
  obtain ⟨hP, hD⟩ := va_join (wr := [(hm, .inr (14, (m_obj adm)))]) (w1 := []) hP hD [0, 1] [2] rfl rfl (by decide) (by decide) hk1 hFc (fun k q h => by simp at h) ⟨fun i j p q h => by simp at h, fun k q h => by simp at h⟩
  generalize H1 = H at hP hS ⊢
  have hP : va_P (dC, dI) vwCl [(hm, .inr (14, (m_obj adm)))] H := hP
  have hD : va_D A [(hm, .inr (14, (m_obj adm)))] := hD
  obtain rfl : r_4 = (-1) := hw
  refine lv_aload_n hx hb dL_law_489 rfl (lv_at hl 2 rfl) ?_
  refine lv_aload_n hx hb dL_law_490 rfl (lv_at hl 0 rfl) ?_
  refine lv_iload hx hb dL_law_491 (lv_at hl 4 rfl) ?_
  refine lv_iconst (v := 1) hx hb dL_law_493 (by decide) ?_
  refine lv_iadd hx hb dL_law_494 ?_
  refine lv_topi (fun f_5 ef_5 => ?_)
  obtain rfl : f_5 = 1 := by rw [ef_5]; decide
  refine va_sld hx hb hX hbl hbA hS (show ¬ ((1 : Int32) < 0 ∨ 6 ≤ (1 : Int32).toNatClampNeg) by decide) dL_law_495 ?_
  refine W.eq (g2 := F0 m 496 ls [.int (xs 1), .ref hm, .int (-1)]) rfl ?_
  refine lv_aload_n hx hb dL_law_496 rfl (lv_at hl 0 rfl) ?_
  refine lv_iload hx hb dL_law_497 (lv_at hl 4 rfl) ?_
  refine lv_iconst (v := 2) hx hb dL_law_499 (by decide) ?_
  refine lv_iadd hx hb dL_law_500 ?_
  refine lv_topi (fun f_6 ef_6 => ?_)
  obtain rfl : f_6 = 2 := by rw [ef_6]; decide
  refine va_sld hx hb hX hbl hbA hS (show ¬ ((2 : Int32) < 0 ∨ 6 ≤ (2 : Int32).toNatClampNeg) by decide) dL_law_501 ?_
  refine W.eq (g2 := F0 m 502 ls [.int (xs 2), .int (xs 1), .ref hm, .int (-1)]) rfl ?_
  refine lv_aload_n hx hb dL_law_502 rfl (lv_at hl 0 rfl) ?_
  refine lv_iload hx hb dL_law_503 (lv_at hl 4 rfl) ?_
  refine lv_iconst (v := 3) hx hb dL_law_505 (by decide) ?_
  refine lv_iadd hx hb dL_law_506 ?_
  refine lv_topi (fun f_7 ef_7 => ?_)
  obtain rfl : f_7 = 3 := by rw [ef_7]; decide
  refine va_sld hx hb hX hbl hbA hS (show ¬ ((3 : Int32) < 0 ∨ 6 ≤ (3 : Int32).toNatClampNeg) by decide) dL_law_507 ?_
  refine W.eq (g2 := F0 m 508 ls [.int (xs 3), .int (xs 2), .int (xs 1), .ref hm, .int (-1)]) rfl ?_
  have hPc := hP.sub (ws' := [(hm, .inr (14, (m_obj adm)))]) [0] rfl
  have hDc := hD.sub (ws' := [(hm, .inr (14, (m_obj adm)))]) [0] (by decide) rfl
  have hKc := hK.sub (tys' := []) [] rfl
  have hFc := va_free (wc := [(hm, .inr (14, (m_obj adm)))]) hD hS hA [0] rfl
  refine va_calli (va_runV (As := [.int (xs 1), .int (xs 2), .int (xs 3)]) (rest := [.int (-1)]) ⟨hx, hb, hml, hown, hts⟩ (k_X12_value_ l dC dI H.size hm adm (xs 1) (xs 2) (xs 3)) (cwV 3 hts vg_law_k_X12_value_ rfl rfl rfl (by decide +kernel) ⟨Nat.le_of_ble_eq_true rfl, Nat.le_of_ble_eq_true rfl⟩) ⟨fun a U g mk q => by obtain ⟨q0, q1, qP, qK, qD⟩ := q; exact ⟨q0, q1, qP, va_K.moved (u := U) (U := U.calling g mk a) (Vm.Alike.refl U.vm) qK, qD⟩, va_recv hKc hPc (ci := 14) (q0 := 0) rfl rfl, fun U hU hW => ⟨rfl, by rw [hU], by rw [hU]; exact hPc, va_K.moved hW.alike hKc, hDc.weaken (fun _ _ _ _ => trivial)⟩⟩ rfl rfl hl.1 rfl (lv_room (Nat.le_of_ble_eq_true rfl)) dL_law_508 ⟨Nat.le_of_ble_eq_true rfl, Nat.le_of_ble_eq_true rfl⟩) hS (fun q _ h => hFc q h) hFc (fun r_8 u t H1 locs ht hvm hw hB hz1 hk1 hS => ?_)
  try dsimp only at hw
  obtain ⟨hP, hD⟩ := va_join (wr := []) (w1 := []) hP hD [0] [] rfl rfl (by decide) (by decide) hk1 hFc (fun k q h => by simp at h) ⟨fun i j p q h => by simp at h, fun k q h => by simp at h⟩
  generalize H1 = H at hP hS ⊢
  have hP : va_P (dC, dI) vwCl [] H := hP
  have hD : va_D A [] := hD
  obtain rfl : r_8 = (-1) := hw
  refine lv_icmp_eq (tgt := 970) hx hb dL_law_511 (by decide) (fun _ => ?_) (fun c9_511 => absurd (by decide) c9_511)
  refine lv_iinc (v := 6) (lv' := [(4, .int 6), (0, .ref b), (1, .ref h0), (2, .ref hm), (3, .ref qo)]) hx hb dL_law_970 hl (k := 4) rfl (by decide) (by decide) rfl (fun ls hl => ?_)
  refine lv_goto (tgt := 23) hx hb dL_law_973 (by decide) ?_
  refine lv_iload hx hb dL_law_23 (lv_at hl 0 rfl) ?_
  refine lv_aload_n hx hb dL_law_25 rfl (lv_at hl 1 rfl) ?_
  refine va_slen hx hb hX hbl hbA hS dL_law_26 ?_
  refine W.eq (g2 := F0 m 27 ls [.int 6, .int 6]) rfl ?_
  refine lv_bipush (v := 6) hx hb dL_law_27 (by decide) ?_
  refine lv_isub hx hb dL_law_29 ?_
  refine lv_topi (fun f_10 ef_10 => ?_)
  obtain rfl : f_10 = 0 := by rw [ef_10]; decide
  refine lv_icmp_gt (tgt := 976) hx hb dL_law_30 (by decide) (fun _ => ?_) (fun c11_30 => absurd (by decide) c11_30)
  refine lv_iconst (v := 1) hx hb dL_law_976 (by decide) ?_
  refine va_forget (fun q hq => by have h9 := hS.2.2 q hq; rw [hAe] at h9; exact h9) ?_
  refine W.widen (k := 258412) (n := 8327002) (Nat.le_of_ble_eq_true rfl) (Nat.le_of_ble_eq_true rfl) ?_
  exact lw_ret hx hb hr hlocks dL_law_977

set_option maxHeartbeats 8000000 in
set_option maxRecDepth 100000 in
theorem law_c516 {p : Program} {e : Env} {s : State} {m : MethodId} {below : List Frame} {meth : Method} {c : Code} {l : Launch} (hst : l.stackTraces = false) {b : Nat} {xs : Nat → Int32} (C0 : lw_At p s m meth c b 6 xs) {dC : Nat → ClassId} {dI : Nat → Nat → Nat} {aS aV bS bV tR s1 s2 s3 : Nat} (hE : zE aS aV bS bV tR s1 s2 s3 (fun q : Nat => s.heap.size ≤ q) s s.heap) {h0 : Nat} {ad : Nat → Nat} {hm : Nat} {adm : Nat → Nat} {qo : Nat} {H : Heap} {locs : List Loc} {ls : Array Slot} (hK : va_K (dC, dI) vwCl [] s) (hP : va_P (dC, dI) vwCl [(h0, .inr (13, [.ref (ad 0), .int 0, .int 0, .ref (ad 1), .ref (ad 2), .ref (ad 3), .ref (ad 4), .ref (ad 5), .ref (ad 6)])), ((ad 5), .inr (6, [.ref (ad 2), .ref (ad 1), .ref (ad 40), .int 0, .int 0, .ref (ad 41), .int 0, .int 0, .ref (ad 42), .int 0, .ref (ad 43), .int 0, .ref (ad 44), .int 0, .int 0, .int 0])), (hm, .inr (14, (m_obj adm)))] H) (hD : va_D (fun q : Nat => s.heap.size ≤ q) [(h0, .inr (13, [.ref (ad 0), .int 0, .int 0, .ref (ad 1), .ref (ad 2), .ref (ad 3), .ref (ad 4), .ref (ad 5), .ref (ad 6)])), ((ad 5), .inr (6, [.ref (ad 2), .ref (ad 1), .ref (ad 40), .int 0, .int 0, .ref (ad 41), .int 0, .int 0, .ref (ad 42), .int 0, .ref (ad 43), .int 0, .ref (ad 44), .int 0, .int 0, .int 0])), (hm, .inr (14, (m_obj adm)))]) (hS : va_S (fun q : Nat => s.heap.size ≤ q) s.heap H locs) (hl : lv_has ls 7 [(0, .ref b), (1, .ref h0), (2, .ref hm), (3, .ref qo), (4, .int 0)]) : W p l e room_1 s m #[Value.ref b] below meth c H locs 184 4401688 (lw_Z below #[Value.ref b] s) (F0 m 516 ls []) := by
  obtain ⟨hx, hb, hr, hml, hown, hts0, hX, hbl, hlocks, hgv⟩ := id C0
  have hown : s.vm.findClass RL = some m.cls := hown
  have hts : ∀ w ∈ vw_law, w.before #[Value.ref b] s = true := fun w h => hts0 w (vz_law w h)
  obtain ⟨A, hAe⟩ : ∃ A : Nat → Prop, A = (fun q : Nat => s.heap.size ≤ q) := ⟨_, rfl⟩
  rw [← hAe] at hE hD hS
  have hA : ∀ q : Nat, s.heap.size ≤ q → A q := by rw [hAe]; exact fun _ h => h
  have hbA : ¬ A b := by rw [hAe]; exact Nat.not_le.mpr hbl
  refine lv_aload_n hx hb dL_law_516 rfl (lv_at hl 1 rfl) ?_
  refine lv_aload_n hx hb dL_law_517 rfl (lv_at hl 0 rfl) ?_
  refine lv_iload hx hb dL_law_518 (lv_at hl 4 rfl) ?_
  refine lv_iconst (v := 1) hx hb dL_law_520 (by decide) ?_
  refine lv_iadd hx hb dL_law_521 ?_
  refine lv_topi (fun f_1 ef_1 => ?_)
  obtain rfl : f_1 = 1 := by rw [ef_1]; decide
  refine va_sld hx hb hX hbl hbA hS (show ¬ ((1 : Int32) < 0 ∨ 6 ≤ (1 : Int32).toNatClampNeg) by decide) dL_law_522 ?_
  refine W.eq (g2 := F0 m 523 ls [.int (xs 1), .ref h0]) rfl ?_
  refine lv_aload_n hx hb dL_law_523 rfl (lv_at hl 0 rfl) ?_
  refine lv_iload hx hb dL_law_524 (lv_at hl 4 rfl) ?_
  refine lv_iconst (v := 2) hx hb dL_law_526 (by decide) ?_
  refine lv_iadd hx hb dL_law_527 ?_
  refine lv_topi (fun f_2 ef_2 => ?_)
  obtain rfl : f_2 = 2 := by rw [ef_2]; decide
  refine va_sld hx hb hX hbl hbA hS (show ¬ ((2 : Int32) < 0 ∨ 6 ≤ (2 : Int32).toNatClampNeg) by decide) dL_law_528 ?_
  refine W.eq (g2 := F0 m 529 ls [.int (xs 2), .int (xs 1), .ref h0]) rfl ?_
  have hPc := hP.sub (ws' := [(h0, .inr (13, [.ref (ad 0), .int 0, .int 0, .ref (ad 1), .ref (ad 2), .ref (ad 3), .ref (ad 4), .ref (ad 5), .ref (ad 6)])), ((ad 5), .inr (6, [.ref (ad 2), .ref (ad 1), .ref (ad 40), .int 0, .int 0, .ref (ad 41), .int 0, .int 0, .ref (ad 42), .int 0, .ref (ad 43), .int 0, .ref (ad 44), .int 0, .int 0, .int 0]))]) [0, 1] rfl
  have hDc := hD.sub (ws' := [(h0, .inr (13, [.ref (ad 0), .int 0, .int 0, .ref (ad 1), .ref (ad 2), .ref (ad 3), .ref (ad 4), .ref (ad 5), .ref (ad 6)])), ((ad 5), .inr (6, [.ref (ad 2), .ref (ad 1), .ref (ad 40), .int 0, .int 0, .ref (ad 41), .int 0, .int 0, .ref (ad 42), .int 0, .ref (ad 43), .int 0, .ref (ad 44), .int 0, .int 0, .int 0]))]) [0, 1] (by decide) rfl
  have hKc := hK.sub (tys' := []) [] rfl
  have hFc := va_free (wc := [(h0, .inr (13, [.ref (ad 0), .int 0, .int 0, .ref (ad 1), .ref (ad 2), .ref (ad 3), .ref (ad 4), .ref (ad 5), .ref (ad 6)])), ((ad 5), .inr (6, [.ref (ad 2), .ref (ad 1), .ref (ad 40), .int 0, .int 0, .ref (ad 41), .int 0, .int 0, .ref (ad 42), .int 0, .ref (ad 43), .int 0, .ref (ad 44), .int 0, .int 0, .int 0]))]) hD hS hA [0, 1] rfl
  refine va_calli (va_runV (As := [.int (xs 1), .int (xs 2)]) (rest := []) ⟨hx, hb, hml, hown, hts⟩ (k_X11_object l dC dI H.size h0 ad (xs 1) (xs 2)) (cwV 2 hts vg_law_k_X11_object rfl rfl rfl (by decide +kernel) ⟨Nat.le_of_ble_eq_true rfl, Nat.le_of_ble_eq_true rfl⟩) ⟨fun a U g mk q => by obtain ⟨q0, q1, qP, qK, qD⟩ := q; exact ⟨q0, q1, qP, va_K.moved (u := U) (U := U.calling g mk a) (Vm.Alike.refl U.vm) qK, qD⟩, va_recv hKc hPc (ci := 13) (q0 := 0) rfl rfl, fun U hU hW => ⟨rfl, by rw [hU], by rw [hU]; exact hPc, va_K.moved hW.alike hKc, hDc.weaken (fun _ _ _ _ => trivial)⟩⟩ rfl rfl hl.1 rfl (lv_room (Nat.le_of_ble_eq_true rfl)) dL_law_529 ⟨Nat.le_of_ble_eq_true rfl, Nat.le_of_ble_eq_true rfl⟩) hS (fun q _ h => hFc q h) hFc (fun r_3 u t H1 locs ht hvm hw hB hz1 hk1 hS => ?_)
  try dsimp only at hw
  obtain ⟨hP, hD⟩ := va_join (wr := [(hm, .inr (14, (m_obj adm)))]) (w1 := []) hP hD [0, 1] [2] rfl rfl (by decide) (by decide) hk1 hFc (fun k q h => by simp at h) ⟨fun i j p q h => by simp at h, fun k q h => by simp at h⟩
  generalize H1 = H at hP hS ⊢
  have hP : va_P (dC, dI) vwCl [(hm, .inr (14, (m_obj adm)))] H := hP
  have hD : va_D A [(hm, .inr (14, (m_obj adm)))] := hD
  obtain rfl : r_3 = (-1) := hw
  refine lv_aload_n hx hb dL_law_532 rfl (lv_at hl 2 rfl) ?_
  refine lv_aload_n hx hb dL_law_533 rfl (lv_at hl 0 rfl) ?_
  refine lv_iload hx hb dL_law_534 (lv_at hl 4 rfl) ?_
  refine lv_iconst (v := 1) hx hb dL_law_536 (by decide) ?_
  refine lv_iadd hx hb dL_law_537 ?_
  refine lv_topi (fun f_4 ef_4 => ?_)
  obtain rfl : f_4 = 1 := by rw [ef_4]; decide
  refine va_sld hx hb hX hbl hbA hS (show ¬ ((1 : Int32) < 0 ∨ 6 ≤ (1 : Int32).toNatClampNeg) by decide) dL_law_538 ?_
  refine W.eq (g2 := F0 m 539 ls [.int (xs 1), .ref hm, .int (-1)]) rfl ?_
  refine lv_aload_n hx hb dL_law_539 rfl (lv_at hl 0 rfl) ?_
  refine lv_iload hx hb dL_law_540 (lv_at hl 4 rfl) ?_
  refine lv_iconst (v := 2) hx hb dL_law_542 (by decide) ?_
  refine lv_iadd hx hb dL_law_543 ?_
  refine lv_topi (fun f_5 ef_5 => ?_)
  obtain rfl : f_5 = 2 := by rw [ef_5]; decide
  refine va_sld hx hb hX hbl hbA hS (show ¬ ((2 : Int32) < 0 ∨ 6 ≤ (2 : Int32).toNatClampNeg) by decide) dL_law_544 ?_
  refine W.eq (g2 := F0 m 545 ls [.int (xs 2), .int (xs 1), .ref hm, .int (-1)]) rfl ?_
  have hPc := hP.sub (ws' := [(hm, .inr (14, (m_obj adm)))]) [0] rfl
  have hDc := hD.sub (ws' := [(hm, .inr (14, (m_obj adm)))]) [0] (by decide) rfl
  have hKc := hK.sub (tys' := []) [] rfl
  have hFc := va_free (wc := [(hm, .inr (14, (m_obj adm)))]) hD hS hA [0] rfl
  refine va_calli (va_runV (As := [.int (xs 1), .int (xs 2)]) (rest := [.int (-1)]) ⟨hx, hb, hml, hown, hts⟩ (k_X12_object_ l dC dI H.size hm adm (xs 1) (xs 2)) (cwV 2 hts vg_law_k_X12_object_ rfl rfl rfl (by decide +kernel) ⟨Nat.le_of_ble_eq_true rfl, Nat.le_of_ble_eq_true rfl⟩) ⟨fun a U g mk q => by obtain ⟨q0, q1, qP, qK, qD⟩ := q; exact ⟨q0, q1, qP, va_K.moved (u := U) (U := U.calling g mk a) (Vm.Alike.refl U.vm) qK, qD⟩, va_recv hKc hPc (ci := 14) (q0 := 0) rfl rfl, fun U hU hW => ⟨rfl, by rw [hU], by rw [hU]; exact hPc, va_K.moved hW.alike hKc, hDc.weaken (fun _ _ _ _ => trivial)⟩⟩ rfl rfl hl.1 rfl (lv_room (Nat.le_of_ble_eq_true rfl)) dL_law_545 ⟨Nat.le_of_ble_eq_true rfl, Nat.le_of_ble_eq_true rfl⟩) hS (fun q _ h => hFc q h) hFc (fun r_6 u t H1 locs ht hvm hw hB hz1 hk1 hS => ?_)
  try dsimp only at hw
  obtain ⟨hP, hD⟩ := va_join (wr := []) (w1 := []) hP hD [0] [] rfl rfl (by decide) (by decide) hk1 hFc (fun k q h => by simp at h) ⟨fun i j p q h => by simp at h, fun k q h => by simp at h⟩
  generalize H1 = H at hP hS ⊢
  have hP : va_P (dC, dI) vwCl [] H := hP
  have hD : va_D A [] := hD
  obtain rfl : r_6 = (-1) := hw
  refine lv_icmp_eq (tgt := 970) hx hb dL_law_548 (by decide) (fun _ => ?_) (fun c7_548 => absurd (by decide) c7_548)
  refine lv_iinc (v := 6) (lv' := [(4, .int 6), (0, .ref b), (1, .ref h0), (2, .ref hm), (3, .ref qo)]) hx hb dL_law_970 hl (k := 4) rfl (by decide) (by decide) rfl (fun ls hl => ?_)
  refine lv_goto (tgt := 23) hx hb dL_law_973 (by decide) ?_
  refine lv_iload hx hb dL_law_23 (lv_at hl 0 rfl) ?_
  refine lv_aload_n hx hb dL_law_25 rfl (lv_at hl 1 rfl) ?_
  refine va_slen hx hb hX hbl hbA hS dL_law_26 ?_
  refine W.eq (g2 := F0 m 27 ls [.int 6, .int 6]) rfl ?_
  refine lv_bipush (v := 6) hx hb dL_law_27 (by decide) ?_
  refine lv_isub hx hb dL_law_29 ?_
  refine lv_topi (fun f_8 ef_8 => ?_)
  obtain rfl : f_8 = 0 := by rw [ef_8]; decide
  refine lv_icmp_gt (tgt := 976) hx hb dL_law_30 (by decide) (fun _ => ?_) (fun c9_30 => absurd (by decide) c9_30)
  refine lv_iconst (v := 1) hx hb dL_law_976 (by decide) ?_
  refine va_forget (fun q hq => by have h9 := hS.2.2 q hq; rw [hAe] at h9; exact h9) ?_
  refine W.widen (k := 258412) (n := 8327002) (Nat.le_of_ble_eq_true rfl) (Nat.le_of_ble_eq_true rfl) ?_
  exact lw_ret hx hb hr hlocks dL_law_977
