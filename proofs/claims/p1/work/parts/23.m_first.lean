def wsX12_firstNames_r1 : List Cond := [Cond.fieldLink RX12 296 "ScriptTypesModel" "strings" "I", Cond.fieldLink RX12 306 "ScriptTypesModel" "manyNames" "Z", Cond.fieldLink RX12 299 "ScriptTypesModel" "textLength" "I", Cond.methodLink RX12 315 yJ0_length_8abf5, Cond.instanceMethod yJ0_length_8abf5, Cond.selects RJ0 yJ0_length_8abf5 yJ0_length_8abf5, Cond.initialized RJ0, Cond.code yJ0_length_8abf5 cJ0_length_8abf5 1 (some .int), Cond.fieldLink RJ0 9 "java/lang/String" "value" "[B", Cond.methodLink RJ0 335 yJ0_coder_7d493, Cond.instanceMethod yJ0_coder_7d493, Cond.selects RJ0 yJ0_coder_7d493 yJ0_coder_7d493, Cond.code yJ0_coder_7d493 cJ0_coder_7d493 1 (some .byte), Cond.fieldLink RJ0 38 "java/lang/String" "COMPACT_STRINGS" "Z", Cond.fieldLink RJ0 15 "java/lang/String" "code\x72" "B", Cond.methodLink RX12 320 yJ0_charAt_5068e, Cond.instanceMethod yJ0_charAt_5068e, Cond.selects RJ0 yJ0_charAt_5068e yJ0_charAt_5068e, Cond.code yJ0_charAt_5068e cJ0_charAt_5068e 2 (some .char), Cond.methodLink RJ0 492 yJ0_isLatin1_aae02, Cond.instanceMethod yJ0_isLatin1_aae02, Cond.selects RJ0 yJ0_isLatin1_aae02 yJ0_isLatin1_aae02, Cond.code yJ0_isLatin1_aae02 cJ0_isLatin1_aae02 1 (some .boolean), Cond.methodLink RJ0 495 yJ1_charAt_3b067]
def wsX12_firstNames_r2 : List Cond := [Cond.static yJ1_charAt_3b067, Cond.initialized RJ1, Cond.code yJ1_charAt_3b067 cJ1_charAt_3b067 2 (some .char), Cond.methodLink RJ1 9 yJ0_checkIndex_df160, Cond.static yJ0_checkIndex_df160, Cond.code yJ0_checkIndex_df160 cJ0_checkIndex_df160 2 none, Cond.fieldLink RJ0 1053 "jdk/internal/util/Preconditions" "SIOOBE_FORMATTER" "Ljava/util/function/BiFunction;", Cond.methodLink RJ0 1059 yJ3_checkIndex_8e157, Cond.static yJ3_checkIndex_8e157, Cond.initialized RJ3, Cond.code yJ3_checkIndex_8e157 cJ3_checkIndex_8e157 3 (some .int), Cond.methodLink RJ0 498 yJ2_charAt_3b067, Cond.static yJ2_charAt_3b067, Cond.initialized RJ2, Cond.code yJ2_charAt_3b067 cJ2_charAt_3b067 2 (some .char), Cond.methodLink RJ2 67 yJ2_checkIndex_2214a, Cond.static yJ2_checkIndex_2214a, Cond.code yJ2_checkIndex_2214a cJ2_checkIndex_2214a 2 none, Cond.methodLink RJ2 48 yJ2_length_9d52b, Cond.static yJ2_length_9d52b, Cond.code yJ2_length_9d52b cJ2_length_9d52b 1 (some .int), Cond.methodLink RJ2 414 yJ0_checkIndex_df160, Cond.methodLink RJ2 71 yJ2_getChar_3b067, Cond.static yJ2_getChar_3b067]
def wsX12_firstNames_r3 : List Cond := [Cond.code yJ2_getChar_3b067 cJ2_getChar_3b067 2 (some .char), Cond.fieldLink RJ2 44 "java/lang/StringUTF16" "$assertionsDisabled" "Z", Cond.fieldLink RJ2 59 "java/lang/StringUTF16" "HI_BYTE_SHIFT" "I", Cond.fieldLink RJ2 63 "java/lang/StringUTF16" "LO_BYTE_SHIFT" "I", Cond.methodLink RX12 324 yX12_put, Cond.instanceMethod yX12_put, Cond.selects RX12 yX12_put yX12_put, Cond.initialized RX12, Cond.code yX12_put cX12_put 2 none, Cond.fieldLink RX12 24 "ScriptTypesModel" "text" "[C", Cond.methodLink RX12 310 yX12_addText, Cond.instanceMethod yX12_addText, Cond.selects RX12 yX12_addText yX12_addText, Cond.code yX12_addText cX12_addText 2 (some .int), Cond.fieldLink RX12 16 "ScriptTypesModel" "signs" "[C", Cond.fieldLink RX12 20 "ScriptTypesModel" "lengths" "[I"]
def wsX12_firstNames : List Cond := .code yX12_firstNames cX12_firstNames 3 none :: ((wsX12_firstNames_r1 ++ (wsX12_firstNames_r2 ++ wsX12_firstNames_r3)) ++ wsX120 ++ wsJ00)
set_option maxRecDepth 20000 in
theorem ggX12_firstNames_J0_length_8abf5 : GoodIn wsX12_firstNames wsJ0_length_8abf5 := goodIn_r _ [8, 9, 10, 11, 12, 7, 13, 14, 15, 216, 217, 218, 219] (by decide +kernel) (by decide +kernel)
set_option maxRecDepth 20000 in
theorem gX12_firstNames_J0_length_8abf5 : GoodIn wsX12_firstNames (wsV RX12 315 RJ0 yJ0_length_8abf5 wsJ0_length_8abf5) := goodIn_app (goodIn_of _ (by decide +kernel)) ggX12_firstNames_J0_length_8abf5
set_option maxRecDepth 20000 in
theorem ggX12_firstNames_J0_charAt_5068e : GoodIn wsX12_firstNames wsJ0_charAt_5068e := goodIn_r _ [19, 9, 20, 21, 22, 7, 23, 14, 15, 24, 25, 26, 27, 28, 29, 30, 31, 32, 33, 34, 35, 36, 37, 38, 39, 40, 41, 42, 43, 44, 45, 46, 47, 48, 49, 50, 51, 52, 216, 217, 218, 219] (by decide +kernel) (by decide +kernel)
set_option maxRecDepth 20000 in
theorem gX12_firstNames_J0_charAt_5068e : GoodIn wsX12_firstNames (wsV RX12 320 RJ0 yJ0_charAt_5068e wsJ0_charAt_5068e) := goodIn_app (goodIn_of _ (by decide +kernel)) ggX12_firstNames_J0_charAt_5068e
set_option maxRecDepth 20000 in
theorem ggX12_firstNames_X12_put : GoodIn wsX12_firstNames wsX12_put := goodIn_r _ [57, 58, 3, 65, 66, 67, 68, 69, 70, 71, 72, 73, 74, 75, 76, 77, 78, 79, 80, 81, 82, 83, 84, 85, 86, 87, 88, 89, 90, 91, 92, 93, 94, 95, 96, 97, 98, 99, 100, 101, 102, 103, 104, 105, 106, 107, 108, 109, 110, 111, 112, 113, 114, 115, 116, 117, 118, 119, 120, 121, 122, 123, 124, 125, 126, 127, 128, 129, 130, 131, 132, 133, 134, 135, 136, 137, 138, 139, 140, 141, 142, 143, 144, 145, 146, 147, 148, 149, 150, 151, 152, 153, 154, 155, 156, 157, 158, 159, 160, 161, 162, 163, 164, 165, 166, 167, 168, 169, 170, 171, 172, 173, 174, 175, 176, 177, 178, 179, 180, 181, 182, 183, 184, 185, 186, 187, 188, 189, 190, 191, 192, 193, 194, 195, 196, 197, 198, 199, 200, 201, 202, 203, 204, 205, 206, 207, 208, 209, 210, 211, 212, 213, 214, 215] (by decide +kernel) (by decide +kernel)
set_option maxRecDepth 20000 in
theorem gX12_firstNames_X12_put : GoodIn wsX12_firstNames (wsV RX12 324 RX12 yX12_put wsX12_put) := goodIn_app (goodIn_of _ (by decide +kernel)) ggX12_firstNames_X12_put
set_option maxRecDepth 20000 in
theorem ggX12_firstNames_X12_addText : GoodIn wsX12_firstNames wsX12_addText := goodIn_r _ [62, 3, 63, 1, 58, 64, 65, 66, 67, 68, 69, 70, 71, 72, 73, 74, 75, 76, 77, 78, 79, 80, 81, 82, 83, 84, 85, 86, 87, 88, 89, 90, 91, 92, 93, 94, 95, 96, 97, 98, 99, 100, 101, 102, 103, 104, 105, 106, 107, 108, 109, 110, 111, 112, 113, 114, 115, 116, 117, 118, 119, 120, 121, 122, 123, 124, 125, 126, 127, 128, 129, 130, 131, 132, 133, 134, 135, 136, 137, 138, 139, 140, 141, 142, 143, 144, 145, 146, 147, 148, 149, 150, 151, 152, 153, 154, 155, 156, 157, 158, 159, 160, 161, 162, 163, 164, 165, 166, 167, 168, 169, 170, 171, 172, 173, 174, 175, 176, 177, 178, 179, 180, 181, 182, 183, 184, 185, 186, 187, 188, 189, 190, 191, 192, 193, 194, 195, 196, 197, 198, 199, 200, 201, 202, 203, 204, 205, 206, 207, 208, 209, 210, 211, 212, 213, 214, 215] (by decide +kernel) (by decide +kernel)
set_option maxRecDepth 20000 in
theorem gX12_firstNames_X12_addText : GoodIn wsX12_firstNames (wsV RX12 310 RX12 yX12_addText wsX12_addText) := goodIn_app (goodIn_of _ (by decide +kernel)) ggX12_firstNames_X12_addText
theorem dX12_firstNames_0 : decode cX12_firstNames 0 = .ok (.aload_n 0, 1) := by decide +kernel
theorem dX12_firstNames_1 : decode cX12_firstNames 1 = .ok (.iconst 0, 1) := by decide +kernel
theorem dX12_firstNames_2 : decode cX12_firstNames 2 = .ok (.putfield 296, 3) := by decide +kernel
theorem dX12_firstNames_5 : decode cX12_firstNames 5 = .ok (.aload_n 0, 1) := by decide +kernel
theorem dX12_firstNames_6 : decode cX12_firstNames 6 = .ok (.iconst 0, 1) := by decide +kernel
theorem dX12_firstNames_7 : decode cX12_firstNames 7 = .ok (.putfield 306, 3) := by decide +kernel
theorem dX12_firstNames_10 : decode cX12_firstNames 10 = .ok (.aload_n 0, 1) := by decide +kernel
theorem dX12_firstNames_11 : decode cX12_firstNames 11 = .ok (.iconst 0, 1) := by decide +kernel
theorem dX12_firstNames_12 : decode cX12_firstNames 12 = .ok (.putfield 299, 3) := by decide +kernel
theorem dX12_firstNames_15 : decode cX12_firstNames 15 = .ok (.iconst 0, 1) := by decide +kernel
theorem dX12_firstNames_16 : decode cX12_firstNames 16 = .ok (.istore_n 1, 1) := by decide +kernel
theorem dX12_firstNames_17 : decode cX12_firstNames 17 = .ok (.iload_n 1, 1) := by decide +kernel
theorem dX12_firstNames_18 : decode cX12_firstNames 18 = .ok (.ldc_w 313, 3) := by decide +kernel
theorem dX12_firstNames_21 : decode cX12_firstNames 21 = .ok (.invokevirtual 315, 3) := by decide +kernel
theorem dX12_firstNames_24 : decode cX12_firstNames 24 = .ok (.if_icmp .ge 45, 3) := by decide +kernel
theorem dX12_firstNames_27 : decode cX12_firstNames 27 = .ok (.ldc_w 313, 3) := by decide +kernel
theorem dX12_firstNames_30 : decode cX12_firstNames 30 = .ok (.iload_n 1, 1) := by decide +kernel
theorem dX12_firstNames_31 : decode cX12_firstNames 31 = .ok (.invokevirtual 320, 3) := by decide +kernel
theorem dX12_firstNames_34 : decode cX12_firstNames 34 = .ok (.bipush 32, 2) := by decide +kernel
theorem dX12_firstNames_36 : decode cX12_firstNames 36 = .ok (.if_icmp .eq 17, 3) := by decide +kernel
theorem dX12_firstNames_39 : decode cX12_firstNames 39 = .ok (.aload_n 0, 1) := by decide +kernel
theorem dX12_firstNames_40 : decode cX12_firstNames 40 = .ok (.ldc_w 313, 3) := by decide +kernel
theorem dX12_firstNames_43 : decode cX12_firstNames 43 = .ok (.iload_n 1, 1) := by decide +kernel
theorem dX12_firstNames_44 : decode cX12_firstNames 44 = .ok (.invokevirtual 320, 3) := by decide +kernel
theorem dX12_firstNames_47 : decode cX12_firstNames 47 = .ok (.invokevirtual 324, 3) := by decide +kernel
theorem dX12_firstNames_50 : decode cX12_firstNames 50 = .ok (.goto 13, 3) := by decide +kernel
theorem dX12_firstNames_53 : decode cX12_firstNames 53 = .ok (.aload_n 0, 1) := by decide +kernel
theorem dX12_firstNames_54 : decode cX12_firstNames 54 = .ok (.invokevirtual 310, 3) := by decide +kernel
theorem dX12_firstNames_57 : decode cX12_firstNames 57 = .ok (.istore_n 2, 1) := by decide +kernel
theorem dX12_firstNames_58 : decode cX12_firstNames 58 = .ok (.aload_n 0, 1) := by decide +kernel
theorem dX12_firstNames_59 : decode cX12_firstNames 59 = .ok (.iconst 0, 1) := by decide +kernel
theorem dX12_firstNames_60 : decode cX12_firstNames 60 = .ok (.putfield 299, 3) := by decide +kernel
theorem dX12_firstNames_63 : decode cX12_firstNames 63 = .ok (.iinc 1 1, 3) := by decide +kernel
theorem dX12_firstNames_66 : decode cX12_firstNames 66 = .ok (.goto (-49), 3) := by decide +kernel
theorem dX12_firstNames_69 : decode cX12_firstNames 69 = .ok (.return_, 1) := by decide +kernel
theorem va_ldcwS {p : Program} {l : Launch} {e : Env} {R : Room} {s : State} {m : MethodId} {args : Array Value} {below : List Frame} {meth : Method} {c : Code} {H : Heap} {locs : List Loc} {cells slots : Nat} {Q : State → Prop} {cc : ByteArray} {pc : Nat} {ls : Array Slot} {rest : List Value} (hexec : p.tables.exec = Jvm.exec) (hb : c.code = cc) {own tx : String} {index q : Nat} (hown : s.vm.findClass own = some m.cls) (hZ : vk_R own index tx q s) (hdg : decode cc pc = .ok (.ldc_w index, 3))
    (k : W p l e R s m args below meth c H locs cells slots Q (F0 m (pc + 3) ls (.ref q :: rest))) : W p l e R s m args below meth c H locs cells slots Q (F0 m pc ls rest) := by
  intro T hT X
  obtain ⟨t, a1, b1⟩ := k T hT X
  exact ⟨t, X.ldcStringW hexec hown (text := tx) (a := q) hZ.1 hZ.2 (g := F0 m pc ls rest) rfl (by rw [hb]; exact hdg) t a1, b1⟩
/-- the first names' bytes -/
def byN : List Int32 := [108, 101, 110, 103, 116, 104, 32, 112, 114, 111, 116, 111, 116, 121, 112, 101, 32, 99, 111, 110, 115, 116, 114, 117, 99, 116, 111, 114, 32, 109, 101, 115, 115, 97, 103, 101, 32, 110, 97, 109, 101, 32, 112, 114, 105, 110, 116, 32, 79, 98, 106, 101, 99, 116, 32, 65, 114, 114, 97, 121, 32, 83, 116, 114, 105, 110, 103, 32, 105, 115, 78, 97, 78, 32, 69, 114, 114, 111, 114, 32, 84, 121, 112, 101, 69, 114, 114, 111, 114, 32, 82, 101, 102, 101, 114, 101, 110, 99, 101, 69, 114, 114, 111, 114, 32, 82, 97, 110, 103, 101, 69, 114, 114, 111, 114, 32, 112, 117, 115, 104, 32, 112, 111, 112, 32, 99, 97, 108, 108, 32, 104, 97, 115, 79, 119, 110, 80, 114, 111, 112, 101, 114, 116, 121, 32, 99, 104, 97, 114, 65, 116, 32, 117, 110, 100, 101, 102, 105, 110, 101, 100, 32, 111, 98, 106, 101, 99, 116, 32, 98, 111, 111, 108, 101, 97, 110, 32, 110, 117, 109, 98, 101, 114, 32, 115, 116, 114, 105, 110, 103, 32, 102, 117, 110, 99, 116, 105, 111, 110, 32, 110, 117, 108, 108, 32, 116, 114, 117, 101, 32, 102, 97, 108, 115, 101, 32, 78, 97, 78, 32, 91, 111, 98, 106, 101, 99, 116, 93, 32, 32]
/-- how many names are whole behind k signs, and how many signs the next one has -/
def nmS : Nat → Nat × Nat
  | 0 => (0, 0)
  | k + 1 => if chr (byN.getD k 0) = 32 then ((nmS k).1 + 1, 0) else ((nmS k).1, (nmS k).2 + 1)
theorem nmS_y {k : Nat} (h : chr (byN.getD k 0) = 32) : nmS (k + 1) = ((nmS k).1 + 1, 0) := by rw [nmS, if_pos h]
theorem nmS_n {k : Nat} (h : ¬ chr (byN.getD k 0) = 32) : nmS (k + 1) = ((nmS k).1, (nmS k).2 + 1) := by rw [nmS, if_neg h]
theorem nmS_b : ∀ k, k < 231 → (nmS k).1 < 400 ∧ (nmS k).2 ≤ 60 := by decide +kernel
theorem nmS_e : nmS 230 = (31, 0) := by decide +kernel
/-- the reference's fields with c strings, no MANY, and t signs at hand -/
def fz (fs : List Value) (c t : Nat) : List Value := List.set (List.set (List.set fs 7 (.int (nI c))) 9 (.int 0)) 11 (.int (nI t))
theorem fz_len {fs : List Value} {c t : Nat} (h : fs.length = 151) : (fz fs c t).length = 151 := by rw [fz, List.length_set, List.length_set, List.length_set]; exact h
theorem fz_o {fs : List Value} {c t k : Nat} {v : Value} (h : fs[k]? = some v) (h7 : 7 ≠ k) (h9 : 9 ≠ k) (h11 : 11 ≠ k) : (fz fs c t)[k]? = some v := by rw [fz, List.getElem?_set_ne h11, List.getElem?_set_ne h9, List.getElem?_set_ne h7]; exact h
theorem fz_7 {fs : List Value} {c t : Nat} (h : fs.length = 151) : (fz fs c t)[7]? = some (.int (nI c)) := by rw [fz, List.getElem?_set_ne (by decide), List.getElem?_set_ne (by decide), List.getElem?_set_self (by rw [h]; decide)]
theorem fz_11 {fs : List Value} {c t : Nat} (h : fs.length = 151) : (fz fs c t)[11]? = some (.int (nI t)) := by rw [fz, List.getElem?_set_self (by rw [List.length_set, List.length_set, h]; decide)]
theorem fz_s11 {fs : List Value} {c t t2 : Nat} : List.set (fz fs c t) 11 (.int (nI t2)) = fz fs c t2 := by rw [fz, List.set_set]; rfl
theorem fz_s7 {fs : List Value} {c t c2 : Nat} : List.set (fz fs c t) 7 (.int (nI c2)) = fz fs c2 t := by rw [fz, List.set_comm _ _ (show 11 ≠ 7 by decide), List.set_comm _ _ (show 9 ≠ 7 by decide), List.set_set]; rfl
def txN : String := "length prototype constructor message name print Object Array String isNaN Error TypeError ReferenceError RangeError push pop call hasOwnProperty charAt undefined object boolean number string function null true false NaN [object]  "
/-- what firstNames reads of the start -/
def mE (aS aV : Nat) (A : Nat → Prop) (U : State) (H : Heap) : Prop := sE aS aV 230 byN A U H ∧ vk_R "ScriptTypesModel" 313 txN aS U
theorem mE.kept {aS aV : Nat} {A : Nat → Prop} {U : State} {H H1 : Heap} (h : mE aS aV A U H) (hq : ∀ a : Nat, a < H.size → ¬ A a → H1[a]? = H[a]?) : mE aS aV A U H1 := ⟨h.1.kept hq, h.2⟩
theorem mE.narrow {aS aV : Nat} {A B : Nat → Prop} {U : State} {H : Heap} (h : mE aS aV A U H) (hAB : ∀ q, B q → A q) : mE aS aV B U H := ⟨h.1.narrow hAB, h.2⟩
theorem mE.same {aS aV : Nat} {A : Nat → Prop} {u U : State} {H : Heap} (hv : U.vm = u.vm) (h : mE aS aV A u H) : mE aS aV A U H := ⟨sE.moved (by rw [hv]; exact Vm.Alike.refl u.vm) h.1, vk_R.same hv h.2⟩
theorem mE.warm {aS aV : Nat} {A : Nat → Prop} {s U : State} {H : Heap} (hW : s.WarmedH U.vm) (h : mE aS aV A s H) : mE aS aV A U H := ⟨sE.moved hW.alike h.1, vk_R.warm hW h.2⟩
set_option maxHeartbeats 8000000 in
set_option maxRecDepth 100000 in
theorem k_X12_firstNames (l : Launch) (dC : Nat → ClassId) (dI : Nat → Nat → Nat) (sz : Nat) (h0 q2 q3 q4 aS aV : Nat) (fs : List Value) (hlen : fs.length = 151) (hf5 : fs[5]? = some (.ref q2)) (hf6 : fs[6]? = some (.ref q3)) (hf10 : fs[10]? = some (.ref q4)) (c2 c3 c4 : ClassId) (f2 f3 f4 : Nat → Int32) : Met l yX12_firstNames wsX12_firstNames ({ frames := 4, cells := 0, slots := 0, locals := 85 }) (va_Pc [.ref h0] (fun U => U.heap.size = sz ∧ va_P (dC, dI) vwCl [(h0, .inr (14, fs)), (q2, .inl (c2, 24000, .inl f2)), (q3, .inl (c3, 400, .inl f3)), (q4, .inl (c4, 200, .inl f4))] U.heap ∧ va_K (dC, dI) vwCl [(c2, .char), (c3, .int), (c4, .char)] U ∧ va_D (fun _ => True) [(h0, .inr (14, fs)), (q2, .inl (c2, 24000, .inl f2)), (q3, .inl (c3, 400, .inl f3)), (q4, .inl (c4, 200, .inl f4))] ∧ mE aS aV (va_A [(h0, .inr (14, fs)), (q2, .inl (c2, 24000, .inl f2)), (q3, .inl (c3, 400, .inl f3)), (q4, .inl (c4, 200, .inl f4))] sz) U U.heap)) (va_Qv (fun _ : (Nat → Int32) × (Nat → Int32) × (Nat → Int32) => True) (fun (u : (Nat → Int32) × (Nat → Int32) × (Nat → Int32)) t9 => va_P (dC, dI) vwCl [(h0, .inr (14, fz fs 31 0)), (q2, .inl (c2, 24000, .inl u.1)), (q3, .inl (c3, 400, .inl u.2.1)), (q4, .inl (c4, 200, .inl u.2.2))] t9.heap ∧ va_K (dC, dI) vwCl [(c2, .char), (c3, .int), (c4, .char)] t9 ∧ va_D (va_A [(h0, .inr (14, fs)), (q2, .inl (c2, 24000, .inl f2)), (q3, .inl (c3, 400, .inl f3)), (q4, .inl (c4, 200, .inl f4))] sz) [(h0, .inr (14, fz fs 31 0)), (q2, .inl (c2, 24000, .inl u.1)), (q3, .inl (c3, 400, .inl u.2.1)), (q4, .inl (c4, 200, .inl u.2.2))]) (va_A [(h0, .inr (14, fs)), (q2, .inl (c2, 24000, .inl f2)), (q3, .inl (c3, 400, .inl f3)), (q4, .inl (c4, 200, .inl f4))] sz)) 0 0 (va_A [(h0, .inr (14, fs)), (q2, .inl (c2, 24000, .inl f2)), (q3, .inl (c3, 400, .inl f3)), (q4, .inl (c4, 200, .inl f4))] sz) := by
  refine Met.ofW (cc := cX12_firstNames) (maxL := 3) (ret := none) (by decide) rfl ?_
  intro p e s m args below meth c s₁ B hml hv
  obtain ⟨rfl, hsz, hP, hK, hD0, hE⟩ := hv
  have hx := B.exec
  have hb := B.bytes
  have hr := B.returns
  have hts := atoms_spec (ws := wsX12_firstNames) B.pre
  have hown : s.vm.findClass RX12 = some m.cls := findClass_of_methodNamed B.named
  have hlocks := B.notSynchronized
  subst hsz
  have hD := hD0.self (sz := s.heap.size)
  generalize hAe : va_A [(h0, .inr (14, fs)), (q2, .inl (c2, 24000, .inl f2)), (q3, .inl (c3, 400, .inl f3)), (q4, .inl (c4, 200, .inl f4))] s.heap.size = A at hD hE ⊢
  have hA : ∀ q : Nat, s.heap.size ≤ q → A q := fun q h => by rw [← hAe]; exact Or.inr h
  have hS : va_S A s.heap s.heap [] := va_S.rf
  have hP : va_P (dC, dI) vwCl [(h0, .inr (14, fs)), (q2, .inl (c2, 24000, .inl f2)), (q3, .inl (c3, 400, .inl f3)), (q4, .inl (c4, 200, .inl f4))] s.heap := hP
  have hl := lv_entry ([.ref h0]) (n := 3) (Nat.le_of_ble_eq_true rfl)
  rw [lg_entry_eq]
  generalize (lg_sl ([.ref h0]) ++ List.replicate (3 - (lg_sl ([.ref h0])).length) Slot.unset).toArray = ls at hl ⊢
  have hl : lv_has ls 3 [(0, .ref h0)] := hl
  have hwX12 : ∀ w ∈ wsX120, w ∈ wsX12_firstNames := (fun w h => List.mem_cons_of_mem _ (List.mem_append_left _ (List.mem_append_right _ h)))
  refine lv_aload_n hx hb dX12_firstNames_0 rfl (lv_at hl 0 rfl) ?_
  refine lv_iconst (v := 0) hx hb dX12_firstNames_1 (by decide) ?_
  refine va_put (D := (dC, dI)) (ci := 14) (v := .int 0) (ty := tyX12 7) (C := RX12) (T := TX12) (N := 151) hx hb hts hwX12 tyX12 tyX12_ok nmX12 hown hK hP hD hS 0 rfl rfl 7 (Nat.le_of_ble_eq_true rfl) (hts (.fieldLink RX12 296 "ScriptTypesModel" "strings" "I") (List.mem_of_getElem? (i := 1) (by decide +kernel))) (fun _ h9 => h9) rfl (tyX12_ok 7 (Nat.le_of_ble_eq_true rfl)) rfl rfl (by rw [hlen]; decide) dX12_firstNames_2 (fun H locs hP hD hS => ?_)
  have hlen_1 : (List.set fs 7 (.int 0)).length = 151 := by rw [List.length_set]; exact hlen
  have hP : va_P (dC, dI) vwCl [(h0, .inr (14, (List.set fs 7 (.int 0)))), (q2, .inl (c2, 24000, .inl f2)), (q3, .inl (c3, 400, .inl f3)), (q4, .inl (c4, 200, .inl f4))] H := hP
  have hD : va_D A [(h0, .inr (14, (List.set fs 7 (.int 0)))), (q2, .inl (c2, 24000, .inl f2)), (q3, .inl (c3, 400, .inl f3)), (q4, .inl (c4, 200, .inl f4))] := hD
  refine lv_aload_n hx hb dX12_firstNames_5 rfl (lv_at hl 0 rfl) ?_
  refine lv_iconst (v := 0) hx hb dX12_firstNames_6 (by decide) ?_
  refine va_put (D := (dC, dI)) (ci := 14) (v := .int 0) (ty := tyX12 9) (C := RX12) (T := TX12) (N := 151) hx hb hts hwX12 tyX12 tyX12_ok nmX12 hown hK hP hD hS 0 rfl rfl 9 (Nat.le_of_ble_eq_true rfl) (hts (.fieldLink RX12 306 "ScriptTypesModel" "manyNames" "Z") (List.mem_of_getElem? (i := 2) (by decide +kernel))) (fun _ h9 => h9) rfl (tyX12_ok 9 (Nat.le_of_ble_eq_true rfl)) rfl rfl (by rw [hlen_1]; decide) dX12_firstNames_7 (fun H locs hP hD hS => ?_)
  have hlen_2 : (List.set (List.set fs 7 (.int 0)) 9 (.int 0)).length = 151 := by rw [List.length_set]; exact hlen_1
  have hP : va_P (dC, dI) vwCl [(h0, .inr (14, (List.set (List.set fs 7 (.int 0)) 9 (.int 0)))), (q2, .inl (c2, 24000, .inl f2)), (q3, .inl (c3, 400, .inl f3)), (q4, .inl (c4, 200, .inl f4))] H := hP
  have hD : va_D A [(h0, .inr (14, (List.set (List.set fs 7 (.int 0)) 9 (.int 0)))), (q2, .inl (c2, 24000, .inl f2)), (q3, .inl (c3, 400, .inl f3)), (q4, .inl (c4, 200, .inl f4))] := hD
  refine lv_aload_n hx hb dX12_firstNames_10 rfl (lv_at hl 0 rfl) ?_
  refine lv_iconst (v := 0) hx hb dX12_firstNames_11 (by decide) ?_
  refine va_put (D := (dC, dI)) (ci := 14) (v := .int 0) (ty := tyX12 11) (C := RX12) (T := TX12) (N := 151) hx hb hts hwX12 tyX12 tyX12_ok nmX12 hown hK hP hD hS 0 rfl rfl 11 (Nat.le_of_ble_eq_true rfl) (hts (.fieldLink RX12 299 "ScriptTypesModel" "textLength" "I") (List.mem_of_getElem? (i := 3) (by decide +kernel))) (fun _ h9 => h9) rfl (tyX12_ok 11 (Nat.le_of_ble_eq_true rfl)) rfl rfl (by rw [hlen_2]; decide) dX12_firstNames_12 (fun H locs hP hD hS => ?_)
  have hlen_3 : (List.set (List.set (List.set fs 7 (.int 0)) 9 (.int 0)) 11 (.int 0)).length = 151 := by rw [List.length_set]; exact hlen_2
  have hP : va_P (dC, dI) vwCl [(h0, .inr (14, (List.set (List.set (List.set fs 7 (.int 0)) 9 (.int 0)) 11 (.int 0)))), (q2, .inl (c2, 24000, .inl f2)), (q3, .inl (c3, 400, .inl f3)), (q4, .inl (c4, 200, .inl f4))] H := hP
  have hD : va_D A [(h0, .inr (14, (List.set (List.set (List.set fs 7 (.int 0)) 9 (.int 0)) 11 (.int 0)))), (q2, .inl (c2, 24000, .inl f2)), (q3, .inl (c3, 400, .inl f3)), (q4, .inl (c4, 200, .inl f4))] := hD
  refine lv_iconst (v := 0) hx hb dX12_firstNames_15 (by decide) ?_
  refine lv_istore_n (lv' := [(1, .int 0), (0, .ref h0)]) hx hb dX12_firstNames_16 rfl hl (by decide) rfl (fun ls hl => ?_)
  refine (?_ : ∀ (n k : Nat) (g2 g3 g4 : Nat → Int32) (H : Heap) (locs : List Loc) (ls : Array Slot), 230 < k + n → k ≤ 230 → va_P (dC, dI) vwCl [(h0, .inr (14, (fz fs (nmS k).1 (nmS k).2))), (q2, .inl (c2, 24000, .inl g2)), (q3, .inl (c3, 400, .inl g3)), (q4, .inl (c4, 200, .inl g4))] H → va_D A [(h0, .inr (14, (fz fs (nmS k).1 (nmS k).2))), (q2, .inl (c2, 24000, .inl g2)), (q3, .inl (c3, 400, .inl g3)), (q4, .inl (c4, 200, .inl g4))] → va_S A s.heap H locs → lv_has ls 3 [(0, .ref h0), (1, .int (nI k))] → W p l e _ s m _ below meth c H locs _ _ _ (F0 m 17 ls [])) 231 0 f2 f3 f4 H _ ls (by omega) (by omega) hP hD hS (lv_sub hl [1, 0] rfl)
  intro n
  induction n with
  | zero =>
    intro k g2 g3 g4 H locs ls h1 h2
    exact absurd h1 (by omega)
  | succ n ih =>
    intro k g2 g3 g4 H locs ls hn hk hP hD hS hl
    obtain ⟨hb1, hb2⟩ := nmS_b k (by omega)
    rcases Nat.lt_or_ge k 230 with hkt | hkt
    · skip
      refine lv_iload_n hx hb dX12_firstNames_17 rfl (lv_at hl 1 rfl) ?_
      refine va_ldcwS hx hb hown hE.2 dX12_firstNames_18 ?_
      have hPc := hP.sub (ws' := []) [] rfl
      have hDc := hD.sub (ws' := []) [] (by decide) rfl
      have hKc := hK.sub (tys' := []) [] rfl
      have hFc := va_free (wc := []) hD hS hA [] rfl
      have hEc := (sE.kept hE.1 hS.2.1).narrow (fun q h => hFc q h)
      refine va_calli (va_runV (As := []) (rest := [.int (nI k)]) ⟨hx, hb, hml, hown, hts⟩ (k_J0_length_8abf5 l dC dI H.size aS aV 230 byN) (cwV 0 hts gX12_firstNames_J0_length_8abf5 rfl rfl rfl (by decide +kernel) ⟨Nat.le_of_ble_eq_true rfl, Nat.le_of_ble_eq_true rfl⟩) ⟨fun a U g mk q => by obtain ⟨q0, q1, qP, qK, qD, qE⟩ := q; exact ⟨q0, q1, qP, va_K.moved (u := U) (U := U.calling g mk a) (Vm.Alike.refl U.vm) qK, qD, sE.moved (U := U.calling g mk a) (Vm.Alike.refl U.vm) qE⟩, (by obtain ⟨cell, h1, h2, h3, h4⟩ := (hE.1.1).kept hS.2.1; exact ⟨cell, h1, h2, h3⟩), fun U hU hW => ⟨rfl, by rw [hU], by rw [hU]; exact hPc, va_K.moved hW.alike hKc, hDc.weaken (fun _ _ _ _ => trivial), by rw [hU]; exact sE.moved hW.alike hEc⟩⟩ rfl rfl hl.1 rfl (lv_room (Nat.le_of_ble_eq_true rfl)) dX12_firstNames_21 ⟨Nat.le_of_ble_eq_true rfl, Nat.le_of_ble_eq_true rfl⟩) hS (fun q _ h => hFc q h) hFc (fun r_4 u t H1 locs ht hvm hw hB hz1 hk1 hS => ?_)
      try dsimp only at hw
      obtain ⟨hP, hD⟩ := va_join (wr := [(h0, .inr (14, (fz fs (nmS k).1 (nmS k).2))), (q2, .inl (c2, 24000, .inl g2)), (q3, .inl (c3, 400, .inl g3)), (q4, .inl (c4, 200, .inl g4))]) (w1 := []) hP hD [] [0, 1, 2, 3] rfl rfl (by decide) (by decide) hk1 hFc (fun k q h => by simp at h) ⟨fun i j p q h => by simp at h, fun k q h => by simp at h⟩
      generalize H1 = H at hP hS ⊢
      have hP : va_P (dC, dI) vwCl [(h0, .inr (14, (fz fs (nmS k).1 (nmS k).2))), (q2, .inl (c2, 24000, .inl g2)), (q3, .inl (c3, 400, .inl g3)), (q4, .inl (c4, 200, .inl g4))] H := hP
      have hD : va_D A [(h0, .inr (14, (fz fs (nmS k).1 (nmS k).2))), (q2, .inl (c2, 24000, .inl g2)), (q3, .inl (c3, 400, .inl g3)), (q4, .inl (c4, 200, .inl g4))] := hD
      obtain rfl : r_4 = nI 230 := hw
      refine lv_icmp_ge (tgt := 69) hx hb dX12_firstNames_24 (by decide) (fun c5_24 => absurd c5_24 (nI_ge hkt (by omega))) (fun _ => ?_)
      refine va_ldcwS hx hb hown hE.2 dX12_firstNames_27 ?_
      refine lv_iload_n hx hb dX12_firstNames_30 rfl (lv_at hl 1 rfl) ?_
      have hPc := hP.sub (ws' := []) [] rfl
      have hDc := hD.sub (ws' := []) [] (by decide) rfl
      have hKc := hK.sub (tys' := []) [] rfl
      have hFc := va_free (wc := []) hD hS hA [] rfl
      have hEc := (sE.kept hE.1 hS.2.1).narrow (fun q h => hFc q h)
      refine va_calli (va_runV (As := [.int (nI k)]) (rest := []) ⟨hx, hb, hml, hown, hts⟩ (k_J0_charAt_5068e l dC dI H.size aS aV 230 byN k hkt (by decide)) (cwV 1 hts gX12_firstNames_J0_charAt_5068e rfl rfl rfl (by decide +kernel) ⟨Nat.le_of_ble_eq_true rfl, Nat.le_of_ble_eq_true rfl⟩) ⟨fun a U g mk q => by obtain ⟨q0, q1, qP, qK, qD, qE⟩ := q; exact ⟨q0, q1, qP, va_K.moved (u := U) (U := U.calling g mk a) (Vm.Alike.refl U.vm) qK, qD, sE.moved (U := U.calling g mk a) (Vm.Alike.refl U.vm) qE⟩, (by obtain ⟨cell, h1, h2, h3, h4⟩ := (hE.1.1).kept hS.2.1; exact ⟨cell, h1, h2, h3⟩), fun U hU hW => ⟨rfl, by rw [hU], by rw [hU]; exact hPc, va_K.moved hW.alike hKc, hDc.weaken (fun _ _ _ _ => trivial), by rw [hU]; exact sE.moved hW.alike hEc⟩⟩ rfl rfl hl.1 rfl (lv_room (Nat.le_of_ble_eq_true rfl)) dX12_firstNames_31 ⟨Nat.le_of_ble_eq_true rfl, Nat.le_of_ble_eq_true rfl⟩) hS (fun q _ h => hFc q h) hFc (fun r_6 u t H1 locs ht hvm hw hB hz1 hk1 hS => ?_)
      try dsimp only at hw
      obtain ⟨hP, hD⟩ := va_join (wr := [(h0, .inr (14, (fz fs (nmS k).1 (nmS k).2))), (q2, .inl (c2, 24000, .inl g2)), (q3, .inl (c3, 400, .inl g3)), (q4, .inl (c4, 200, .inl g4))]) (w1 := []) hP hD [] [0, 1, 2, 3] rfl rfl (by decide) (by decide) hk1 hFc (fun k q h => by simp at h) ⟨fun i j p q h => by simp at h, fun k q h => by simp at h⟩
      generalize H1 = H at hP hS ⊢
      have hP : va_P (dC, dI) vwCl [(h0, .inr (14, (fz fs (nmS k).1 (nmS k).2))), (q2, .inl (c2, 24000, .inl g2)), (q3, .inl (c3, 400, .inl g3)), (q4, .inl (c4, 200, .inl g4))] H := hP
      have hD : va_D A [(h0, .inr (14, (fz fs (nmS k).1 (nmS k).2))), (q2, .inl (c2, 24000, .inl g2)), (q3, .inl (c3, 400, .inl g3)), (q4, .inl (c4, 200, .inl g4))] := hD
      obtain rfl : r_6 = chr (byN.getD k 0) := hw
      refine lv_bipush (v := 32) hx hb dX12_firstNames_34 (by decide) ?_
      refine lv_icmp_eq (tgt := 53) hx hb dX12_firstNames_36 (by decide) (fun c7_36 => ?_) (fun c7_36 => ?_)
      · skip
        refine lv_aload_n hx hb dX12_firstNames_53 rfl (lv_at hl 0 rfl) ?_
        have hPc := hP.sub (ws' := [(h0, .inr (14, (fz fs (nmS k).1 (nmS k).2))), (q2, .inl (c2, 24000, .inl g2)), (q3, .inl (c3, 400, .inl g3)), (q4, .inl (c4, 200, .inl g4))]) [0, 1, 2, 3] rfl
        have hDc := hD.sub (ws' := [(h0, .inr (14, (fz fs (nmS k).1 (nmS k).2))), (q2, .inl (c2, 24000, .inl g2)), (q3, .inl (c3, 400, .inl g3)), (q4, .inl (c4, 200, .inl g4))]) [0, 1, 2, 3] (by decide) rfl
        have hKc := hK.sub (tys' := [(c2, .char), (c3, .int), (c4, .char)]) [0, 1, 2] rfl
        have hFc := va_free (wc := [(h0, .inr (14, (fz fs (nmS k).1 (nmS k).2))), (q2, .inl (c2, 24000, .inl g2)), (q3, .inl (c3, 400, .inl g3)), (q4, .inl (c4, 200, .inl g4))]) hD hS hA [0, 1, 2, 3] rfl
        refine va_calli (va_runV (As := []) (rest := []) ⟨hx, hb, hml, hown, hts⟩ (k_X12_addText l dC dI H.size h0 q2 q3 q4 (fz fs (nmS k).1 (nmS k).2) (fz_len hlen) (nmS k).2 (nmS k).1 hb2 hb1 (fz_o hf5 (by decide) (by decide) (by decide)) (fz_o hf6 (by decide) (by decide) (by decide)) (fz_7 hlen) (fz_o hf10 (by decide) (by decide) (by decide)) (fz_11 hlen) c2 c3 c4 g2 g3 g4) (cwV 0 hts gX12_firstNames_X12_addText rfl rfl rfl (by decide +kernel) ⟨Nat.le_of_ble_eq_true rfl, Nat.le_of_ble_eq_true rfl⟩) ⟨fun a U g mk q => by obtain ⟨q0, q1, qP, qK, qD⟩ := q; exact ⟨q0, q1, qP, va_K.moved (u := U) (U := U.calling g mk a) (Vm.Alike.refl U.vm) qK, qD⟩, va_recv hKc hPc (ci := 14) (q0 := 0) rfl rfl, fun U hU hW => ⟨rfl, by rw [hU], by rw [hU]; exact hPc, va_K.moved hW.alike hKc, hDc.weaken (fun _ _ _ _ => trivial)⟩⟩ rfl rfl hl.1 rfl (lv_room (Nat.le_of_ble_eq_true rfl)) dX12_firstNames_54 ⟨Nat.le_of_ble_eq_true rfl, Nat.le_of_ble_eq_true rfl⟩) hS (fun q _ h => hFc q h) hFc (fun r_10 u t H1 locs ht hvm hw hB hz1 hk1 hS => ?_)
        obtain ⟨g_8, g_9⟩ := u
        obtain ⟨hP1, hK1, hD1⟩ := hB
        rw [ht] at hP1
        have hK1 := va_K.moved hvm.symm hK1
        try dsimp only at hw
        obtain ⟨hP, hD⟩ := va_join (wr := []) (w1 := [(h0, .inr (14, List.set (fz fs (nmS k).1 (nmS k).2) 7 (.int (nI ((nmS k).1 + 1))))), (q2, .inl (c2, 24000, .inl g_8)), (q3, .inl (c3, 400, .inl g_9)), (q4, .inl (c4, 200, .inl g4))]) hP hD [0, 1, 2, 3] [] rfl rfl (by decide) (by decide) hk1 hFc hP1 hD1
        generalize H1 = H at hP hS ⊢
        have hP : va_P (dC, dI) vwCl [(h0, .inr (14, List.set (fz fs (nmS k).1 (nmS k).2) 7 (.int (nI ((nmS k).1 + 1))))), (q2, .inl (c2, 24000, .inl g_8)), (q3, .inl (c3, 400, .inl g_9)), (q4, .inl (c4, 200, .inl g4))] H := hP
        have hD : va_D A [(h0, .inr (14, List.set (fz fs (nmS k).1 (nmS k).2) 7 (.int (nI ((nmS k).1 + 1))))), (q2, .inl (c2, 24000, .inl g_8)), (q3, .inl (c3, 400, .inl g_9)), (q4, .inl (c4, 200, .inl g4))] := hD
        have hP : va_P (dC, dI) vwCl [(h0, .inr (14, (fz fs ((nmS k).1 + 1) (nmS k).2))), (q2, .inl (c2, 24000, .inl g_8)), (q3, .inl (c3, 400, .inl g_9)), (q4, .inl (c4, 200, .inl g4))] H := by have e9 := hP; rw [fz_s7] at e9; exact e9
        have hD : va_D A [(h0, .inr (14, (fz fs ((nmS k).1 + 1) (nmS k).2))), (q2, .inl (c2, 24000, .inl g_8)), (q3, .inl (c3, 400, .inl g_9)), (q4, .inl (c4, 200, .inl g4))] := by have e9 := hD; rw [fz_s7] at e9; exact e9
        refine lv_istore_n (lv' := [(2, .int r_10), (0, .ref h0), (1, .int (nI k))]) hx hb dX12_firstNames_57 rfl hl (by decide) rfl (fun ls hl => ?_)
        refine lv_aload_n hx hb dX12_firstNames_58 rfl (lv_at hl 1 rfl) ?_
        refine lv_iconst (v := 0) hx hb dX12_firstNames_59 (by decide) ?_
        refine va_put (D := (dC, dI)) (ci := 14) (v := .int 0) (ty := tyX12 11) (C := RX12) (T := TX12) (N := 151) hx hb hts hwX12 tyX12 tyX12_ok nmX12 hown hK hP hD hS 0 rfl rfl 11 (Nat.le_of_ble_eq_true rfl) (hts (.fieldLink RX12 299 "ScriptTypesModel" "textLength" "I") (List.mem_of_getElem? (i := 3) (by decide +kernel))) (fun _ h9 => h9) rfl (tyX12_ok 11 (Nat.le_of_ble_eq_true rfl)) rfl rfl (by rw [(fz_len hlen)]; decide) dX12_firstNames_60 (fun H locs hP hD hS => ?_)
        have hlen_11 : (List.set (fz fs ((nmS k).1 + 1) (nmS k).2) 11 (.int 0)).length = 151 := by rw [List.length_set]; exact (fz_len hlen)
        have hP : va_P (dC, dI) vwCl [(h0, .inr (14, (List.set (fz fs ((nmS k).1 + 1) (nmS k).2) 11 (.int 0)))), (q2, .inl (c2, 24000, .inl g_8)), (q3, .inl (c3, 400, .inl g_9)), (q4, .inl (c4, 200, .inl g4))] H := hP
        have hD : va_D A [(h0, .inr (14, (List.set (fz fs ((nmS k).1 + 1) (nmS k).2) 11 (.int 0)))), (q2, .inl (c2, 24000, .inl g_8)), (q3, .inl (c3, 400, .inl g_9)), (q4, .inl (c4, 200, .inl g4))] := hD
        have hP : va_P (dC, dI) vwCl [(h0, .inr (14, (fz fs ((nmS k).1 + 1) 0))), (q2, .inl (c2, 24000, .inl g_8)), (q3, .inl (c3, 400, .inl g_9)), (q4, .inl (c4, 200, .inl g4))] H := by have e9 := hP; rw [show List.set (fz fs ((nmS k).1 + 1) (nmS k).2) 11 (.int 0) = fz fs ((nmS k).1 + 1) 0 from fz_s11 (t2 := 0)] at e9; exact e9
        have hD : va_D A [(h0, .inr (14, (fz fs ((nmS k).1 + 1) 0))), (q2, .inl (c2, 24000, .inl g_8)), (q3, .inl (c3, 400, .inl g_9)), (q4, .inl (c4, 200, .inl g4))] := by have e9 := hD; rw [show List.set (fz fs ((nmS k).1 + 1) (nmS k).2) 11 (.int 0) = fz fs ((nmS k).1 + 1) 0 from fz_s11 (t2 := 0)] at e9; exact e9
        refine lv_iinc (v := nI (k + 1)) (lv' := [(1, .int (nI (k + 1))), (2, .int r_10), (0, .ref h0)]) hx hb dX12_firstNames_63 hl (k := 2) rfl (nI_1 k) (by decide) rfl (fun ls hl => ?_)
        refine lv_goto (tgt := 17) hx hb dX12_firstNames_66 (by decide) ?_
        exact ih (k + 1) g_8 g_9 g4 H locs ls (by omega) (by omega) (by rw [nmS_y c7_36]; exact hP) (by rw [nmS_y c7_36]; exact hD) hS (lv_sub hl [2, 0] rfl)
      · skip
        refine lv_aload_n hx hb dX12_firstNames_39 rfl (lv_at hl 0 rfl) ?_
        refine va_ldcwS hx hb hown hE.2 dX12_firstNames_40 ?_
        refine lv_iload_n hx hb dX12_firstNames_43 rfl (lv_at hl 1 rfl) ?_
        have hPc := hP.sub (ws' := []) [] rfl
        have hDc := hD.sub (ws' := []) [] (by decide) rfl
        have hKc := hK.sub (tys' := []) [] rfl
        have hFc := va_free (wc := []) hD hS hA [] rfl
        have hEc := (sE.kept hE.1 hS.2.1).narrow (fun q h => hFc q h)
        refine va_calli (va_runV (As := [.int (nI k)]) (rest := [.ref h0]) ⟨hx, hb, hml, hown, hts⟩ (k_J0_charAt_5068e l dC dI H.size aS aV 230 byN k hkt (by decide)) (cwV 1 hts gX12_firstNames_J0_charAt_5068e rfl rfl rfl (by decide +kernel) ⟨Nat.le_of_ble_eq_true rfl, Nat.le_of_ble_eq_true rfl⟩) ⟨fun a U g mk q => by obtain ⟨q0, q1, qP, qK, qD, qE⟩ := q; exact ⟨q0, q1, qP, va_K.moved (u := U) (U := U.calling g mk a) (Vm.Alike.refl U.vm) qK, qD, sE.moved (U := U.calling g mk a) (Vm.Alike.refl U.vm) qE⟩, (by obtain ⟨cell, h1, h2, h3, h4⟩ := (hE.1.1).kept hS.2.1; exact ⟨cell, h1, h2, h3⟩), fun U hU hW => ⟨rfl, by rw [hU], by rw [hU]; exact hPc, va_K.moved hW.alike hKc, hDc.weaken (fun _ _ _ _ => trivial), by rw [hU]; exact sE.moved hW.alike hEc⟩⟩ rfl rfl hl.1 rfl (lv_room (Nat.le_of_ble_eq_true rfl)) dX12_firstNames_44 ⟨Nat.le_of_ble_eq_true rfl, Nat.le_of_ble_eq_true rfl⟩) hS (fun q _ h => hFc q h) hFc (fun r_12 u t H1 locs ht hvm hw hB hz1 hk1 hS => ?_)
        try dsimp only at hw
        obtain ⟨hP, hD⟩ := va_join (wr := [(h0, .inr (14, (fz fs (nmS k).1 (nmS k).2))), (q2, .inl (c2, 24000, .inl g2)), (q3, .inl (c3, 400, .inl g3)), (q4, .inl (c4, 200, .inl g4))]) (w1 := []) hP hD [] [0, 1, 2, 3] rfl rfl (by decide) (by decide) hk1 hFc (fun k q h => by simp at h) ⟨fun i j p q h => by simp at h, fun k q h => by simp at h⟩
        generalize H1 = H at hP hS ⊢
        have hP : va_P (dC, dI) vwCl [(h0, .inr (14, (fz fs (nmS k).1 (nmS k).2))), (q2, .inl (c2, 24000, .inl g2)), (q3, .inl (c3, 400, .inl g3)), (q4, .inl (c4, 200, .inl g4))] H := hP
        have hD : va_D A [(h0, .inr (14, (fz fs (nmS k).1 (nmS k).2))), (q2, .inl (c2, 24000, .inl g2)), (q3, .inl (c3, 400, .inl g3)), (q4, .inl (c4, 200, .inl g4))] := hD
        obtain rfl : r_12 = chr (byN.getD k 0) := hw
        have hPc := hP.sub (ws' := [(h0, .inr (14, (fz fs (nmS k).1 (nmS k).2))), (q4, .inl (c4, 200, .inl g4))]) [0, 3] rfl
        have hDc := hD.sub (ws' := [(h0, .inr (14, (fz fs (nmS k).1 (nmS k).2))), (q4, .inl (c4, 200, .inl g4))]) [0, 3] (by decide) rfl
        have hKc := hK.sub (tys' := [(c4, .char)]) [2] rfl
        have hFc := va_free (wc := [(h0, .inr (14, (fz fs (nmS k).1 (nmS k).2))), (q4, .inl (c4, 200, .inl g4))]) hD hS hA [0, 3] rfl
        refine va_callv (va_runV (As := [.int (chr (byN.getD k 0))]) (rest := []) ⟨hx, hb, hml, hown, hts⟩ (k_X12_put l dC dI H.size h0 q4 (fz fs (nmS k).1 (nmS k).2) (fz_len hlen) (nmS k).2 (by omega) (fz_o hf10 (by decide) (by decide) (by decide)) (fz_11 hlen) c4 g4 (chr (byN.getD k 0))) (cwV 1 hts gX12_firstNames_X12_put rfl rfl rfl (by decide +kernel) ⟨Nat.le_of_ble_eq_true rfl, Nat.le_of_ble_eq_true rfl⟩) ⟨fun a U g mk q => by obtain ⟨q0, q1, qP, qK, qD⟩ := q; exact ⟨q0, q1, qP, va_K.moved (u := U) (U := U.calling g mk a) (Vm.Alike.refl U.vm) qK, qD⟩, va_recv hKc hPc (ci := 14) (q0 := 0) rfl rfl, fun U hU hW => ⟨rfl, by rw [hU], by rw [hU]; exact hPc, va_K.moved hW.alike hKc, hDc.weaken (fun _ _ _ _ => trivial)⟩⟩ rfl rfl hl.1 rfl (lv_room (Nat.le_of_ble_eq_true rfl)) dX12_firstNames_47 ⟨Nat.le_of_ble_eq_true rfl, Nat.le_of_ble_eq_true rfl⟩) hS (fun q _ h => hFc q h) hFc (fun u t H1 locs ht hvm hw hB hz1 hk1 hS => ?_)
        obtain ⟨g_13, rfl⟩ : ∃ z, z = u := ⟨_, rfl⟩
        obtain ⟨hP1, hK1, hD1⟩ := hB
        rw [ht] at hP1
        have hK1 := va_K.moved hvm.symm hK1
        try dsimp only at hw
        obtain ⟨hP, hD⟩ := va_join (wr := [(q2, .inl (c2, 24000, .inl g2)), (q3, .inl (c3, 400, .inl g3))]) (w1 := [(h0, .inr (14, List.set (fz fs (nmS k).1 (nmS k).2) 11 (.int (nI ((nmS k).2 + 1))))), (q4, .inl (c4, 200, .inl g_13))]) hP hD [0, 3] [1, 2] rfl rfl (by decide) (by decide) hk1 hFc hP1 hD1
        generalize H1 = H at hP hS ⊢
        have hP : va_P (dC, dI) vwCl [(q2, .inl (c2, 24000, .inl g2)), (q3, .inl (c3, 400, .inl g3)), (h0, .inr (14, List.set (fz fs (nmS k).1 (nmS k).2) 11 (.int (nI ((nmS k).2 + 1))))), (q4, .inl (c4, 200, .inl g_13))] H := hP
        have hD : va_D A [(q2, .inl (c2, 24000, .inl g2)), (q3, .inl (c3, 400, .inl g3)), (h0, .inr (14, List.set (fz fs (nmS k).1 (nmS k).2) 11 (.int (nI ((nmS k).2 + 1))))), (q4, .inl (c4, 200, .inl g_13))] := hD
        have hP : va_P (dC, dI) vwCl [(h0, .inr (14, List.set (fz fs (nmS k).1 (nmS k).2) 11 (.int (nI ((nmS k).2 + 1))))), (q2, .inl (c2, 24000, .inl g2)), (q3, .inl (c3, 400, .inl g3)), (q4, .inl (c4, 200, .inl g_13))] H := hP.sub [2, 0, 1, 3] rfl
        have hD : va_D A [(h0, .inr (14, List.set (fz fs (nmS k).1 (nmS k).2) 11 (.int (nI ((nmS k).2 + 1))))), (q2, .inl (c2, 24000, .inl g2)), (q3, .inl (c3, 400, .inl g3)), (q4, .inl (c4, 200, .inl g_13))] := hD.sub [2, 0, 1, 3] (by decide) rfl
        have hK : va_K (dC, dI) vwCl [(c2, .char), (c3, .int), (c4, .char)] s := hK
        have hP : va_P (dC, dI) vwCl [(h0, .inr (14, (fz fs (nmS k).1 ((nmS k).2 + 1)))), (q2, .inl (c2, 24000, .inl g2)), (q3, .inl (c3, 400, .inl g3)), (q4, .inl (c4, 200, .inl g_13))] H := by have e9 := hP; rw [fz_s11] at e9; exact e9
        have hD : va_D A [(h0, .inr (14, (fz fs (nmS k).1 ((nmS k).2 + 1)))), (q2, .inl (c2, 24000, .inl g2)), (q3, .inl (c3, 400, .inl g3)), (q4, .inl (c4, 200, .inl g_13))] := by have e9 := hD; rw [fz_s11] at e9; exact e9
        refine lv_goto (tgt := 63) hx hb dX12_firstNames_50 (by decide) ?_
        refine lv_iinc (v := nI (k + 1)) (lv' := [(1, .int (nI (k + 1))), (0, .ref h0)]) hx hb dX12_firstNames_63 hl (k := 1) rfl (nI_1 k) (by decide) rfl (fun ls hl => ?_)
        refine lv_goto (tgt := 17) hx hb dX12_firstNames_66 (by decide) ?_
        exact ih (k + 1) g2 g3 g_13 H locs ls (by omega) (by omega) (by rw [nmS_n c7_36]; exact hP) (by rw [nmS_n c7_36]; exact hD) hS (lv_sub hl [1, 0] rfl)
    · skip
      have hkN : k = 230 := by omega
      refine lv_iload_n hx hb dX12_firstNames_17 rfl (lv_at hl 1 rfl) ?_
      refine va_ldcwS hx hb hown hE.2 dX12_firstNames_18 ?_
      have hPc := hP.sub (ws' := []) [] rfl
      have hDc := hD.sub (ws' := []) [] (by decide) rfl
      have hKc := hK.sub (tys' := []) [] rfl
      have hFc := va_free (wc := []) hD hS hA [] rfl
      have hEc := (sE.kept hE.1 hS.2.1).narrow (fun q h => hFc q h)
      refine va_calli (va_runV (As := []) (rest := [.int (nI k)]) ⟨hx, hb, hml, hown, hts⟩ (k_J0_length_8abf5 l dC dI H.size aS aV 230 byN) (cwV 0 hts gX12_firstNames_J0_length_8abf5 rfl rfl rfl (by decide +kernel) ⟨Nat.le_of_ble_eq_true rfl, Nat.le_of_ble_eq_true rfl⟩) ⟨fun a U g mk q => by obtain ⟨q0, q1, qP, qK, qD, qE⟩ := q; exact ⟨q0, q1, qP, va_K.moved (u := U) (U := U.calling g mk a) (Vm.Alike.refl U.vm) qK, qD, sE.moved (U := U.calling g mk a) (Vm.Alike.refl U.vm) qE⟩, (by obtain ⟨cell, h1, h2, h3, h4⟩ := (hE.1.1).kept hS.2.1; exact ⟨cell, h1, h2, h3⟩), fun U hU hW => ⟨rfl, by rw [hU], by rw [hU]; exact hPc, va_K.moved hW.alike hKc, hDc.weaken (fun _ _ _ _ => trivial), by rw [hU]; exact sE.moved hW.alike hEc⟩⟩ rfl rfl hl.1 rfl (lv_room (Nat.le_of_ble_eq_true rfl)) dX12_firstNames_21 ⟨Nat.le_of_ble_eq_true rfl, Nat.le_of_ble_eq_true rfl⟩) hS (fun q _ h => hFc q h) hFc (fun r_15 u t H1 locs ht hvm hw hB hz1 hk1 hS => ?_)
      try dsimp only at hw
      obtain ⟨hP, hD⟩ := va_join (wr := [(h0, .inr (14, (fz fs (nmS k).1 (nmS k).2))), (q2, .inl (c2, 24000, .inl g2)), (q3, .inl (c3, 400, .inl g3)), (q4, .inl (c4, 200, .inl g4))]) (w1 := []) hP hD [] [0, 1, 2, 3] rfl rfl (by decide) (by decide) hk1 hFc (fun k q h => by simp at h) ⟨fun i j p q h => by simp at h, fun k q h => by simp at h⟩
      generalize H1 = H at hP hS ⊢
      have hP : va_P (dC, dI) vwCl [(h0, .inr (14, (fz fs (nmS k).1 (nmS k).2))), (q2, .inl (c2, 24000, .inl g2)), (q3, .inl (c3, 400, .inl g3)), (q4, .inl (c4, 200, .inl g4))] H := hP
      have hD : va_D A [(h0, .inr (14, (fz fs (nmS k).1 (nmS k).2))), (q2, .inl (c2, 24000, .inl g2)), (q3, .inl (c3, 400, .inl g3)), (q4, .inl (c4, 200, .inl g4))] := hD
      obtain rfl : r_15 = nI 230 := hw
      refine lv_icmp_ge (tgt := 69) hx hb dX12_firstNames_24 (by decide) (fun _ => ?_) (fun c16_24 => absurd (nI_le hkt (by omega)) c16_24)
      have hP : va_P (dC, dI) vwCl [(h0, .inr (14, fz fs 31 0)), (q2, .inl (c2, 24000, .inl g2)), (q3, .inl (c3, 400, .inl g3)), (q4, .inl (c4, 200, .inl g4))] H := by have e9 := hP; rw [hkN, nmS_e] at e9; exact e9
      have hD : va_D A [(h0, .inr (14, fz fs 31 0)), (q2, .inl (c2, 24000, .inl g2)), (q3, .inl (c3, 400, .inl g3)), (q4, .inl (c4, 200, .inl g4))] := by have e9 := hD; rw [hkN, nmS_e] at e9; exact e9
      exact W.vret hx hb hr (fun t ht hW => ⟨⟨(g2, g3, g4), rfl, trivial, by rw [ht]; exact hP, va_K.moved hW.alike hK, hD⟩, hS.F ht⟩) hS.2.2 dX12_firstNames_69
