/-- the start's facts, in a row -/
theorem st_seg {T : Cond} {args : Array Value} {s : State} (h : T.before args s = true) (base n : Nat) {L : List Cond} (hL : ((flatC T).drop base).take n = L) : ∀ c ∈ L, c.before args s = true := fun c hc => flat_of_before _ h c (List.mem_of_mem_drop (List.mem_of_mem_take (by rw [hL]; exact hc)))
abbrev st_T : Cond := Jvm.Cond.and given_1 narrow_1
set_option maxRecDepth 100000 in
set_option maxHeartbeats 4000000 in
theorem st_hC {args : Array Value} {s : State} (h : st_T.before args s = true) : ∀ c ∈ [Cond.exactly (Term.string "ScriptTypes$Texts" 37) "java/lang/String", Cond.eq (Term.field (Term.string "ScriptTypes$Texts" 37) "java/lang/String" "code\x72" "B") (Term.int 0), Cond.arrayOf (Term.field (Term.string "ScriptTypes$Texts" 37) "java/lang/String" "value" "[B") .byte, Cond.eq (Term.length (Term.field (Term.string "ScriptTypes$Texts" 37) "java/lang/String" "value" "[B")) (Term.int 228)], c.before args s = true := st_seg h 534 4 (by decide +kernel)
set_option maxRecDepth 100000 in
set_option maxHeartbeats 4000000 in
theorem st_eC {args : Array Value} {s : State} (h : st_T.before args s = true) : ∀ c ∈ (List.range 228).map (fun j => Cond.eq (.elem (Term.field (Term.string "ScriptTypes$Texts" 37) "java/lang/String" "value" "[B") (.int (Int32.ofNat j))) (.int (byC.getD j 0))), c.before args s = true := st_seg h 538 228 (by decide +kernel)
theorem st_sC {args : Array Value} {s : State} {A : Nat → Prop} (h : st_T.before args s = true) (hA : ∀ a : Nat, a < s.heap.size → ¬ A a) : ∃ adK adV : Nat → Nat, vk_S 1 [228] [byC] adK adV A s s.heap ∧ ∀ i : Nat, i < 1 → (Term.string "ScriptTypes$Texts" 37).eval args s none [] s = some (.ref (adK i)) := by
  refine vk_Sof (tm := fun _ => (Term.string "ScriptTypes$Texts" 37)) (fun i hi => ?_) (fun i _ => st_hC h _ (List.mem_of_getElem? (i := 0) rfl)) (fun i _ => st_hC h _ (List.mem_of_getElem? (i := 1) rfl)) (fun i _ => st_hC h _ (List.mem_of_getElem? (i := 2) rfl)) (fun i hi => ?_) (fun i hi j hj => ?_) (fun i j h1 h2 h3 => absurd (by omega : i = j) h3) hA
  · obtain rfl : i = 0 := by omega
    decide
  · obtain rfl : i = 0 := by omega
    exact st_hC h _ (List.mem_of_getElem? (i := 3) rfl)
  · obtain rfl : i = 0 := by omega
    exact st_eC h _ (List.mem_map.mpr ⟨j, List.mem_range.mpr hj, rfl⟩)
set_option maxRecDepth 100000 in
set_option maxHeartbeats 4000000 in
theorem st_hN {args : Array Value} {s : State} (h : st_T.before args s = true) : ∀ c ∈ [Cond.exactly (Term.string "ScriptTypesModel" 313) "java/lang/String", Cond.eq (Term.field (Term.string "ScriptTypesModel" 313) "java/lang/String" "code\x72" "B") (Term.int 0), Cond.arrayOf (Term.field (Term.string "ScriptTypesModel" 313) "java/lang/String" "value" "[B") .byte, Cond.eq (Term.length (Term.field (Term.string "ScriptTypesModel" 313) "java/lang/String" "value" "[B")) (Term.int 230)], c.before args s = true := st_seg h 1297 4 (by decide +kernel)
set_option maxRecDepth 100000 in
set_option maxHeartbeats 4000000 in
theorem st_eN {args : Array Value} {s : State} (h : st_T.before args s = true) : ∀ c ∈ (List.range 230).map (fun j => Cond.eq (.elem (Term.field (Term.string "ScriptTypesModel" 313) "java/lang/String" "value" "[B") (.int (Int32.ofNat j))) (.int (byN.getD j 0))), c.before args s = true := st_seg h 1301 230 (by decide +kernel)
theorem st_sN {args : Array Value} {s : State} {A : Nat → Prop} (h : st_T.before args s = true) (hA : ∀ a : Nat, a < s.heap.size → ¬ A a) : ∃ adK adV : Nat → Nat, vk_S 1 [230] [byN] adK adV A s s.heap ∧ ∀ i : Nat, i < 1 → (Term.string "ScriptTypesModel" 313).eval args s none [] s = some (.ref (adK i)) := by
  refine vk_Sof (tm := fun _ => (Term.string "ScriptTypesModel" 313)) (fun i hi => ?_) (fun i _ => st_hN h _ (List.mem_of_getElem? (i := 0) rfl)) (fun i _ => st_hN h _ (List.mem_of_getElem? (i := 1) rfl)) (fun i _ => st_hN h _ (List.mem_of_getElem? (i := 2) rfl)) (fun i hi => ?_) (fun i hi j hj => ?_) (fun i j h1 h2 h3 => absurd (by omega : i = j) h3) hA
  · obtain rfl : i = 0 := by omega
    decide
  · obtain rfl : i = 0 := by omega
    exact st_hN h _ (List.mem_of_getElem? (i := 3) rfl)
  · obtain rfl : i = 0 := by omega
    exact st_eN h _ (List.mem_map.mpr ⟨j, List.mem_range.mpr hj, rfl⟩)
set_option maxRecDepth 100000 in
set_option maxHeartbeats 4000000 in
theorem st_hR {args : Array Value} {s : State} (h : st_T.before args s = true) : ∀ c ∈ [Cond.isRef (Term.static "ScriptTypes$Code" "RISE" "[I"), Cond.arrayOf (Term.static "ScriptTypes$Code" "RISE" "[I") .int, Cond.eq (Term.length (Term.static "ScriptTypes$Code" "RISE" "[I")) (Term.int 31)], c.before args s = true := st_seg h 67 3 (by decide +kernel)
set_option maxRecDepth 100000 in
set_option maxHeartbeats 4000000 in
theorem st_eR {args : Array Value} {s : State} (h : st_T.before args s = true) : ∀ c ∈ (List.range 31).map (fun j => Cond.eq (.elem (Term.static "ScriptTypes$Code" "RISE" "[I") (.int (Int32.ofNat j))) (.int (riseL.getD j 0))), c.before args s = true := st_seg h 70 31 (by decide +kernel)
set_option maxRecDepth 100000 in
set_option maxHeartbeats 4000000 in
theorem st_x0 {args : Array Value} {s : State} (h : st_T.before args s = true) : ∀ c ∈ [Cond.exactly (Term.string "ScriptTypes" 118) "java/lang/String"], c.before args s = true := st_seg h 1086 1 (by decide +kernel)
set_option maxRecDepth 100000 in
set_option maxHeartbeats 4000000 in
theorem st_x1 {args : Array Value} {s : State} (h : st_T.before args s = true) : ∀ c ∈ [Cond.exactly (Term.string "ScriptTypes" 128) "java/lang/String"], c.before args s = true := st_seg h 1128 1 (by decide +kernel)
set_option maxRecDepth 100000 in
set_option maxHeartbeats 4000000 in
theorem st_x2 {args : Array Value} {s : State} (h : st_T.before args s = true) : ∀ c ∈ [Cond.exactly (Term.string "ScriptTypes" 135) "java/lang/String"], c.before args s = true := st_seg h 1157 1 (by decide +kernel)
set_option maxRecDepth 100000 in
set_option maxHeartbeats 4000000 in
theorem st_cs {args : Array Value} {s : State} (h : st_T.before args s = true) : ∀ c ∈ [Cond.eq (Term.static "java/lang/String" "COMPACT_STRINGS" "Z") (Term.int 1), Cond.isRef (Term.static "jdk/internal/util/Preconditions" "SIOOBE_FORMATTER" "Ljava/util/function/BiFunction;")], c.before args s = true := st_seg h 4 2 (by decide +kernel)
set_option maxRecDepth 100000 in
set_option maxHeartbeats 4000000 in
theorem st_th {args : Array Value} {s : State} (h : st_T.before args s = true) : ∀ c ∈ [Cond.isRef (Term.static Bundle.tN "UNASSIGNED_STACK" Bundle.steD), Cond.isRef (Term.static Bundle.tN "SUPPRESSED_SENTINEL" Bundle.listD)], c.before args s = true := st_seg h 9 2 (by decide +kernel)
set_option maxRecDepth 100000 in
set_option maxHeartbeats 4000000 in
theorem st_nc {args : Array Value} {s : State} (h : st_T.before args s = true) : ∀ c ∈ [Cond.not (Cond.castable "java/lang/IllegalStateException" "java/lang/IllegalArgumentException")], c.before args s = true := st_seg h 513 1 (by decide +kernel)
/-- what the law reads of the start -/
def zE (aS aV bS bV tR s1 s2 s3 : Nat) (A : Nat → Prop) (U : State) (H : Heap) : Prop := xE aS aV A U H ∧ mE bS bV A U H ∧ rE tR A U H ∧ fE s1 s2 s3 A U H
set_option maxHeartbeats 4000000 in
set_option maxRecDepth 100000 in
theorem st_zE {b : Nat} {s : State} {A : Nat → Prop} (hts : ∀ w ∈ lw_tbl, w.before #[Value.ref b] s = true) (h : st_T.before #[Value.ref b] s = true) (hA : ∀ a : Nat, a < s.heap.size → ¬ A a) : ∃ aS aV bS bV tR s1 s2 s3 : Nat, zE aS aV bS bV tR s1 s2 s3 A s s.heap := by
  obtain ⟨kC, vC, hC, eC⟩ := st_sC (A := A) h hA
  obtain ⟨kN, vN, hN, eN⟩ := st_sN (A := A) h hA
  obtain ⟨tR, eR, hR⟩ := va_Tof (f := fun j => .int (riseL.getD j 0)) (A := A) (N := 31) (by decide) (st_hR h _ (List.mem_of_getElem? (i := 1) rfl)) (va_eqt (st_hR h _ (List.mem_of_getElem? (i := 2) rfl))) (fun j hj => va_eqt (st_eR h _ (List.mem_map.mpr ⟨j, List.mem_range.mpr hj, rfl⟩))) hA
  obtain ⟨s1, _, _, _, e0, -⟩ := Cond.exactly_spec (args := #[Value.ref b]) (first := s) (o := none) (s := s) (idx := []) (t := (Term.string "ScriptTypes" 118)) (cls := "java/lang/String") (st_x0 h _ (List.mem_of_getElem? (i := 0) rfl))
  obtain ⟨s2, _, _, _, e1, -⟩ := Cond.exactly_spec (args := #[Value.ref b]) (first := s) (o := none) (s := s) (idx := []) (t := (Term.string "ScriptTypes" 128)) (cls := "java/lang/String") (st_x1 h _ (List.mem_of_getElem? (i := 0) rfl))
  obtain ⟨s3, _, _, _, e2, -⟩ := Cond.exactly_spec (args := #[Value.ref b]) (first := s) (o := none) (s := s) (idx := []) (t := (Term.string "ScriptTypes" 135)) (cls := "java/lang/String") (st_x2 h _ (List.mem_of_getElem? (i := 0) rfl))
  have zc := va_Zof (C := "java/lang/String") (n := "COMPACT_STRINGS") (d := "Z") (hts (.laysStatic "java/lang/String" "COMPACT_STRINGS" "Z") (tb_1 _ (List.mem_of_getElem? (i := 64) rfl))) (hts (.initialized "java/lang/String") (tb_1 _ (List.mem_of_getElem? (i := 4) rfl))) (va_eqt (st_cs h _ (List.mem_of_getElem? (i := 0) rfl))) hA
  have zq := va_Zqof (C := "jdk/internal/util/Preconditions") (n := "SIOOBE_FORMATTER") (d := "Ljava/util/function/BiFunction;") (hts (.laysStatic "jdk/internal/util/Preconditions" "SIOOBE_FORMATTER" "Ljava/util/function/BiFunction;") (tb_1 _ (List.mem_of_getElem? (i := 80) rfl))) (hts (.initialized "jdk/internal/util/Preconditions") (tb_1 _ (List.mem_of_getElem? (i := 6) rfl))) (st_cs h _ (List.mem_of_getElem? (i := 1) rfl)) hA
  have zu := vx_Zqof (C := Bundle.tN) (n := "UNASSIGNED_STACK") (d := Bundle.steD) (hts (.laysStatic "java/lang/Throwable" "UNASSIGNED_STACK" "[Ljava/lang/StackTraceElement;") (tb_4 _ (List.mem_of_getElem? (i := 136) rfl))) (hts (.initialized "java/lang/Throwable") (tb_1 _ (List.mem_of_getElem? (i := 20) rfl))) (st_th h _ (List.mem_of_getElem? (i := 0) rfl)) hA
  have zs := vx_Zqof (C := Bundle.tN) (n := "SUPPRESSED_SENTINEL") (d := Bundle.listD) (hts (.laysStatic "java/lang/Throwable" "SUPPRESSED_SENTINEL" "Ljava/util/List;") (tb_4 _ (List.mem_of_getElem? (i := 138) rfl))) (hts (.initialized "java/lang/Throwable") (tb_1 _ (List.mem_of_getElem? (i := 20) rfl))) (st_th h _ (List.mem_of_getElem? (i := 1) rfl)) hA
  have ce : cE A s s.heap := ⟨(va_Nw.of rfl (hts (.methodLinkNest RX11 22 yX1_init "ScriptTypes") (tb_1 _ (List.mem_of_getElem? (i := 159) rfl)))), (va_Nw.of rfl (hts (.methodLinkNest RX4 13 yX3_init "ScriptTypes") (tb_2 _ (List.mem_of_getElem? (i := 214) rfl)))), (va_Nw.of rfl (hts (.methodLinkNest RX8 13 yX7_init "ScriptTypes") (tb_3 _ (List.mem_of_getElem? (i := 59) rfl)))), (va_Nw.of rfl (hts (.methodLinkNest RX7 11 yX0_init "ScriptTypes") (tb_3 _ (List.mem_of_getElem? (i := 65) rfl)))), (va_Nw.of rfl (hts (.methodLinkNest RX8 54 yX0_init "ScriptTypes") (tb_3 _ (List.mem_of_getElem? (i := 172) rfl))))⟩
  have te : tE (kC 0) (vC 0) A s s.heap := ⟨⟨(hC.1 0 (by decide)).1, (hC.1 0 (by decide)).2.1, (hC.1 0 (by decide)).2.2.1, (hC.1 0 (by decide)).2.2.2, zc, zq⟩, vk_R.of (hts (.stringRef "ScriptTypes$Texts" 37 "length prototype constructor message name print Object Array String isNaN Error TypeError ReferenceError RangeError push pop call hasOwnProperty charAt undefined object boolean number string function null true false NaN [object]") (tb_1 _ (List.mem_of_getElem? (i := 54) rfl))) (eC 0 (by decide))⟩
  have me : mE (kN 0) (vN 0) A s s.heap := ⟨⟨(hN.1 0 (by decide)).1, (hN.1 0 (by decide)).2.1, (hN.1 0 (by decide)).2.2.1, (hN.1 0 (by decide)).2.2.2, zc, zq⟩, vk_R.of (hts (.stringRef "ScriptTypesModel" 313 "length prototype constructor message name print Object Array String isNaN Error TypeError ReferenceError RangeError push pop call hasOwnProperty charAt undefined object boolean number string function null true false NaN [object]  ") (tb_14 _ (List.mem_of_getElem? (i := 187) rfl))) (eN 0 (by decide))⟩
  have ao : va_AOA .int s := (hts (.arrayOver (.array .int)) (tb_1 _ (List.mem_of_getElem? (i := 164) rfl)))
  have ae : aE A s s.heap := ⟨ao, by
    obtain ⟨comp, c, k, h1, h2, h3, h4, h5⟩ := arrayOverA_spec ao
    exact ⟨comp, h1⟩⟩
  have re : rE tR A s s.heap := ⟨va_Zref (hts (.laysStatic "ScriptTypes$Code" "RISE" "[I") (tb_6 _ (List.mem_of_getElem? (i := 195) rfl))) (hts (.initialized "ScriptTypes$Code") (tb_1 _ (List.mem_of_getElem? (i := 8) rfl))) eR hA, hR⟩
  have ee : eE s1 s2 s3 A s s.heap := ⟨zu, zs, va_Nw.of rfl (hts (.declares (Bundle.initS "java/lang/RuntimeException")) (tb_4 _ (List.mem_of_getElem? (i := 113) rfl))), va_Nw.of rfl (hts (.declares (Bundle.initS "java/lang/Exception")) (tb_4 _ (List.mem_of_getElem? (i := 115) rfl))), va_Nw.of rfl (hts (.declares (Bundle.initS "java/lang/Throwable")) (tb_4 _ (List.mem_of_getElem? (i := 117) rfl))), va_Nw.of rfl (hts (.castable "java/lang/IllegalArgumentException" "java/lang/IllegalArgumentException") (tb_8 _ (List.mem_of_getElem? (i := 27) rfl))), va_Nw.of rfl (hts (.castable "java/lang/IllegalStateException" "java/lang/IllegalStateException") (tb_4 _ (List.mem_of_getElem? (i := 111) rfl))), vk_R.of (hts (.stringRef "ScriptTypes" 118 "there is no script") (tb_7 _ (List.mem_of_getElem? (i := 201) rfl))) e0, vk_R.of (hts (.stringRef "ScriptTypes" 128 "steps are 0 to 2000") (tb_8 _ (List.mem_of_getElem? (i := 34) rfl))) e1, vk_R.of (hts (.stringRef "ScriptTypes" 135 "the machine does not go on") (tb_8 _ (List.mem_of_getElem? (i := 45) rfl))) e2⟩
  exact ⟨kC 0, vC 0, kN 0, vN 0, tR, s1, s2, s3, ⟨ce, te, ae⟩, me, re, ee, va_Nc.of (st_nc h _ (List.mem_of_getElem? (i := 0) rfl))⟩

