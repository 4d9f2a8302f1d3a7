theorem dX12_emit_0 : decode cX12_emit 0 = .ok (.aload_n 0, 1) := by decide +kernel
theorem dX12_emit_1 : decode cX12_emit 1 = .ok (.getfield 606, 3) := by decide +kernel
theorem dX12_emit_4 : decode cX12_emit 4 = .ok (.sipush 600, 3) := by decide +kernel
theorem dX12_emit_7 : decode cX12_emit 7 = .ok (.if_icmp .ne 9, 3) := by decide +kernel
theorem dX12_emit_10 : decode cX12_emit 10 = .ok (.aload_n 0, 1) := by decide +kernel
theorem dX12_emit_11 : decode cX12_emit 11 = .ok (.iconst 1, 1) := by decide +kernel
theorem dX12_emit_12 : decode cX12_emit 12 = .ok (.putfield 609, 3) := by decide +kernel
theorem dX12_emit_15 : decode cX12_emit 15 = .ok (.return_, 1) := by decide +kernel
theorem dX12_emit_16 : decode cX12_emit 16 = .ok (.aload_n 0, 1) := by decide +kernel
theorem dX12_emit_17 : decode cX12_emit 17 = .ok (.getfield 89, 3) := by decide +kernel
theorem dX12_emit_20 : decode cX12_emit 20 = .ok (.aload_n 0, 1) := by decide +kernel
theorem dX12_emit_21 : decode cX12_emit 21 = .ok (.getfield 606, 3) := by decide +kernel
theorem dX12_emit_24 : decode cX12_emit 24 = .ok (.iload_n 1, 1) := by decide +kernel
theorem dX12_emit_25 : decode cX12_emit 25 = .ok (.iastore, 1) := by decide +kernel
theorem dX12_emit_26 : decode cX12_emit 26 = .ok (.aload_n 0, 1) := by decide +kernel
theorem dX12_emit_27 : decode cX12_emit 27 = .ok (.getfield 92, 3) := by decide +kernel
theorem dX12_emit_30 : decode cX12_emit 30 = .ok (.aload_n 0, 1) := by decide +kernel
theorem dX12_emit_31 : decode cX12_emit 31 = .ok (.getfield 606, 3) := by decide +kernel
theorem dX12_emit_34 : decode cX12_emit 34 = .ok (.iload_n 2, 1) := by decide +kernel
theorem dX12_emit_35 : decode cX12_emit 35 = .ok (.iastore, 1) := by decide +kernel
theorem dX12_emit_36 : decode cX12_emit 36 = .ok (.aload_n 0, 1) := by decide +kernel
theorem dX12_emit_37 : decode cX12_emit 37 = .ok (.getfield 95, 3) := by decide +kernel
theorem dX12_emit_40 : decode cX12_emit 40 = .ok (.aload_n 0, 1) := by decide +kernel
theorem dX12_emit_41 : decode cX12_emit 41 = .ok (.getfield 606, 3) := by decide +kernel
theorem dX12_emit_44 : decode cX12_emit 44 = .ok (.iload_n 3, 1) := by decide +kernel
theorem dX12_emit_45 : decode cX12_emit 45 = .ok (.iastore, 1) := by decide +kernel
theorem dX12_emit_46 : decode cX12_emit 46 = .ok (.aload_n 0, 1) := by decide +kernel
theorem dX12_emit_47 : decode cX12_emit 47 = .ok (.getfield 98, 3) := by decide +kernel
theorem dX12_emit_50 : decode cX12_emit 50 = .ok (.aload_n 0, 1) := by decide +kernel
theorem dX12_emit_51 : decode cX12_emit 51 = .ok (.getfield 606, 3) := by decide +kernel
theorem dX12_emit_54 : decode cX12_emit 54 = .ok (.aload_n 0, 1) := by decide +kernel
theorem dX12_emit_55 : decode cX12_emit 55 = .ok (.getfield 612, 3) := by decide +kernel
theorem dX12_emit_58 : decode cX12_emit 58 = .ok (.iastore, 1) := by decide +kernel
theorem dX12_emit_59 : decode cX12_emit 59 = .ok (.aload_n 0, 1) := by decide +kernel
theorem dX12_emit_60 : decode cX12_emit 60 = .ok (.dup, 1) := by decide +kernel
theorem dX12_emit_61 : decode cX12_emit 61 = .ok (.getfield 606, 3) := by decide +kernel
theorem dX12_emit_64 : decode cX12_emit 64 = .ok (.iconst 1, 1) := by decide +kernel
theorem dX12_emit_65 : decode cX12_emit 65 = .ok (.iadd, 1) := by decide +kernel
theorem dX12_emit_66 : decode cX12_emit 66 = .ok (.putfield 606, 3) := by decide +kernel
theorem dX12_emit_69 : decode cX12_emit 69 = .ok (.return_, 1) := by decide +kernel
theorem dX12_emit__0 : decode cX12_emit_ 0 = .ok (.aload_n 0, 1) := by decide +kernel
theorem dX12_emit__1 : decode cX12_emit_ 1 = .ok (.iload_n 1, 1) := by decide +kernel
theorem dX12_emit__2 : decode cX12_emit_ 2 = .ok (.iconst 0, 1) := by decide +kernel
theorem dX12_emit__3 : decode cX12_emit_ 3 = .ok (.iconst 0, 1) := by decide +kernel
theorem dX12_emit__4 : decode cX12_emit_ 4 = .ok (.invokevirtual 615, 3) := by decide +kernel
theorem dX12_emit__7 : decode cX12_emit_ 7 = .ok (.return_, 1) := by decide +kernel
theorem dX12_constant_0 : decode cX12_constant 0 = .ok (.aload_n 0, 1) := by decide +kernel
theorem dX12_constant_1 : decode cX12_constant 1 = .ok (.iconst 0, 1) := by decide +kernel
theorem dX12_constant_2 : decode cX12_constant 2 = .ok (.iload_n 1, 1) := by decide +kernel
theorem dX12_constant_3 : decode cX12_constant 3 = .ok (.iload_n 2, 1) := by decide +kernel
theorem dX12_constant_4 : decode cX12_constant 4 = .ok (.invokevirtual 615, 3) := by decide +kernel
theorem dX12_constant_7 : decode cX12_constant 7 = .ok (.return_, 1) := by decide +kernel
theorem dX12_mark_0 : decode cX12_mark 0 = .ok (.aload_n 0, 1) := by decide +kernel
theorem dX12_mark_1 : decode cX12_mark 1 = .ok (.dup, 1) := by decide +kernel
theorem dX12_mark_2 : decode cX12_mark 2 = .ok (.getfield 619, 3) := by decide +kernel
theorem dX12_mark_5 : decode cX12_mark 5 = .ok (.iconst 1, 1) := by decide +kernel
theorem dX12_mark_6 : decode cX12_mark 6 = .ok (.iadd, 1) := by decide +kernel
theorem dX12_mark_7 : decode cX12_mark 7 = .ok (.putfield 619, 3) := by decide +kernel
theorem dX12_mark_10 : decode cX12_mark 10 = .ok (.aload_n 0, 1) := by decide +kernel
theorem dX12_mark_11 : decode cX12_mark 11 = .ok (.getfield 619, 3) := by decide +kernel
theorem dX12_mark_14 : decode cX12_mark 14 = .ok (.iconst 1, 1) := by decide +kernel
theorem dX12_mark_15 : decode cX12_mark 15 = .ok (.isub, 1) := by decide +kernel
theorem dX12_mark_16 : decode cX12_mark 16 = .ok (.ireturn, 1) := by decide +kernel
theorem dX12_here_0 : decode cX12_here 0 = .ok (.aload_n 0, 1) := by decide +kernel
theorem dX12_here_1 : decode cX12_here 1 = .ok (.getfield 104, 3) := by decide +kernel
theorem dX12_here_4 : decode cX12_here 4 = .ok (.iload_n 1, 1) := by decide +kernel
theorem dX12_here_5 : decode cX12_here 5 = .ok (.aload_n 0, 1) := by decide +kernel
theorem dX12_here_6 : decode cX12_here 6 = .ok (.getfield 606, 3) := by decide +kernel
theorem dX12_here_9 : decode cX12_here 9 = .ok (.iastore, 1) := by decide +kernel
theorem dX12_here_10 : decode cX12_here 10 = .ok (.return_, 1) := by decide +kernel
theorem dX12_isVariable_0 : decode cX12_isVariable 0 = .ok (.iconst 0, 1) := by decide +kernel
theorem dX12_isVariable_1 : decode cX12_isVariable 1 = .ok (.istore_n 3, 1) := by decide +kernel
theorem dX12_isVariable_2 : decode cX12_isVariable 2 = .ok (.iconst 0, 1) := by decide +kernel
theorem dX12_isVariable_3 : decode cX12_isVariable 3 = .ok (.istore 4, 2) := by decide +kernel
theorem dX12_isVariable_5 : decode cX12_isVariable 5 = .ok (.iload 4, 2) := by decide +kernel
theorem dX12_isVariable_7 : decode cX12_isVariable 7 = .ok (.aload_n 0, 1) := by decide +kernel
theorem dX12_isVariable_8 : decode cX12_isVariable 8 = .ok (.getfield 110, 3) := by decide +kernel
theorem dX12_isVariable_11 : decode cX12_isVariable 11 = .ok (.iload_n 1, 1) := by decide +kernel
theorem dX12_isVariable_12 : decode cX12_isVariable 12 = .ok (.iaload, 1) := by decide +kernel
theorem dX12_isVariable_13 : decode cX12_isVariable 13 = .ok (.if_icmp .ge 35, 3) := by decide +kernel
theorem dX12_isVariable_16 : decode cX12_isVariable 16 = .ok (.iload_n 3, 1) := by decide +kernel
theorem dX12_isVariable_17 : decode cX12_isVariable 17 = .ok (.ifCond .ne 19, 3) := by decide +kernel
theorem dX12_isVariable_20 : decode cX12_isVariable 20 = .ok (.aload_n 0, 1) := by decide +kernel
theorem dX12_isVariable_21 : decode cX12_isVariable 21 = .ok (.getfield 107, 3) := by decide +kernel
theorem dX12_isVariable_24 : decode cX12_isVariable 24 = .ok (.bipush 100, 2) := by decide +kernel
theorem dX12_isVariable_26 : decode cX12_isVariable 26 = .ok (.iload_n 1, 1) := by decide +kernel
theorem dX12_isVariable_27 : decode cX12_isVariable 27 = .ok (.imul, 1) := by decide +kernel
theorem dX12_isVariable_28 : decode cX12_isVariable 28 = .ok (.iload 4, 2) := by decide +kernel
theorem dX12_isVariable_30 : decode cX12_isVariable 30 = .ok (.iadd, 1) := by decide +kernel
theorem dX12_isVariable_31 : decode cX12_isVariable 31 = .ok (.iaload, 1) := by decide +kernel
theorem dX12_isVariable_32 : decode cX12_isVariable 32 = .ok (.iload_n 2, 1) := by decide +kernel
theorem dX12_isVariable_33 : decode cX12_isVariable 33 = .ok (.if_icmp .ne 7, 3) := by decide +kernel
theorem dX12_isVariable_36 : decode cX12_isVariable 36 = .ok (.iconst 1, 1) := by decide +kernel
theorem dX12_isVariable_37 : decode cX12_isVariable 37 = .ok (.goto 4, 3) := by decide +kernel
theorem dX12_isVariable_40 : decode cX12_isVariable 40 = .ok (.iconst 0, 1) := by decide +kernel
theorem dX12_isVariable_41 : decode cX12_isVariable 41 = .ok (.istore_n 3, 1) := by decide +kernel
theorem dX12_isVariable_42 : decode cX12_isVariable 42 = .ok (.iinc 4 1, 3) := by decide +kernel
theorem dX12_isVariable_45 : decode cX12_isVariable 45 = .ok (.goto (-40), 3) := by decide +kernel
theorem dX12_isVariable_48 : decode cX12_isVariable 48 = .ok (.iload_n 3, 1) := by decide +kernel
theorem dX12_isVariable_49 : decode cX12_isVariable 49 = .ok (.ireturn, 1) := by decide +kernel
theorem dX12_named_0 : decode cX12_named 0 = .ok (.aload_n 0, 1) := by decide +kernel
theorem dX12_named_1 : decode cX12_named 1 = .ok (.getfield 612, 3) := by decide +kernel
theorem dX12_named_4 : decode cX12_named 4 = .ok (.istore 4, 2) := by decide +kernel
theorem dX12_named_6 : decode cX12_named 6 = .ok (.iconst 0, 1) := by decide +kernel
theorem dX12_named_7 : decode cX12_named 7 = .ok (.istore 5, 2) := by decide +kernel
theorem dX12_named_9 : decode cX12_named 9 = .ok (.iload 4, 2) := by decide +kernel
theorem dX12_named_11 : decode cX12_named 11 = .ok (.ifCond .le 28, 3) := by decide +kernel
theorem dX12_named_14 : decode cX12_named 14 = .ok (.aload_n 0, 1) := by decide +kernel
theorem dX12_named_15 : decode cX12_named 15 = .ok (.iload 4, 2) := by decide +kernel
theorem dX12_named_17 : decode cX12_named 17 = .ok (.iload_n 1, 1) := by decide +kernel
theorem dX12_named_18 : decode cX12_named 18 = .ok (.invokevirtual 622, 3) := by decide +kernel
theorem dX12_named_21 : decode cX12_named 21 = .ok (.ifCond .ne 18, 3) := by decide +kernel
theorem dX12_named_24 : decode cX12_named 24 = .ok (.aload_n 0, 1) := by decide +kernel
theorem dX12_named_25 : decode cX12_named 25 = .ok (.getfield 74, 3) := by decide +kernel
theorem dX12_named_28 : decode cX12_named 28 = .ok (.iload 4, 2) := by decide +kernel
theorem dX12_named_30 : decode cX12_named 30 = .ok (.iaload, 1) := by decide +kernel
theorem dX12_named_31 : decode cX12_named 31 = .ok (.istore 4, 2) := by decide +kernel
theorem dX12_named_33 : decode cX12_named 33 = .ok (.iinc 5 1, 3) := by decide +kernel
theorem dX12_named_36 : decode cX12_named 36 = .ok (.goto (-27), 3) := by decide +kernel
theorem dX12_named_39 : decode cX12_named 39 = .ok (.iload 4, 2) := by decide +kernel
theorem dX12_named_41 : decode cX12_named 41 = .ok (.ifCond .le 14, 3) := by decide +kernel
theorem dX12_named_44 : decode cX12_named 44 = .ok (.aload_n 0, 1) := by decide +kernel
theorem dX12_named_45 : decode cX12_named 45 = .ok (.iload_n 2, 1) := by decide +kernel
theorem dX12_named_46 : decode cX12_named 46 = .ok (.iload 5, 2) := by decide +kernel
theorem dX12_named_48 : decode cX12_named 48 = .ok (.iload_n 1, 1) := by decide +kernel
theorem dX12_named_49 : decode cX12_named 49 = .ok (.invokevirtual 615, 3) := by decide +kernel
theorem dX12_named_52 : decode cX12_named 52 = .ok (.goto 10, 3) := by decide +kernel
theorem dX12_named_55 : decode cX12_named 55 = .ok (.aload_n 0, 1) := by decide +kernel
theorem dX12_named_56 : decode cX12_named 56 = .ok (.iload_n 3, 1) := by decide +kernel
theorem dX12_named_57 : decode cX12_named 57 = .ok (.iconst 0, 1) := by decide +kernel
theorem dX12_named_58 : decode cX12_named 58 = .ok (.iload_n 1, 1) := by decide +kernel
theorem dX12_named_59 : decode cX12_named 59 = .ok (.invokevirtual 615, 3) := by decide +kernel
theorem dX12_named_62 : decode cX12_named 62 = .ok (.return_, 1) := by decide +kernel
theorem dX12_get_0 : decode cX12_get 0 = .ok (.aload_n 0, 1) := by decide +kernel
theorem dX12_get_1 : decode cX12_get 1 = .ok (.iload_n 1, 1) := by decide +kernel
theorem dX12_get_2 : decode cX12_get 2 = .ok (.iconst 1, 1) := by decide +kernel
theorem dX12_get_3 : decode cX12_get 3 = .ok (.iconst 3, 1) := by decide +kernel
theorem dX12_get_4 : decode cX12_get 4 = .ok (.invokevirtual 625, 3) := by decide +kernel
theorem dX12_get_7 : decode cX12_get 7 = .ok (.return_, 1) := by decide +kernel
theorem dX12_set_0 : decode cX12_set 0 = .ok (.aload_n 0, 1) := by decide +kernel
theorem dX12_set_1 : decode cX12_set 1 = .ok (.iload_n 1, 1) := by decide +kernel
theorem dX12_set_2 : decode cX12_set 2 = .ok (.iconst 2, 1) := by decide +kernel
theorem dX12_set_3 : decode cX12_set 3 = .ok (.iconst 4, 1) := by decide +kernel
theorem dX12_set_4 : decode cX12_set 4 = .ok (.invokevirtual 625, 3) := by decide +kernel
theorem dX12_set_7 : decode cX12_set 7 = .ok (.return_, 1) := by decide +kernel
/-! what becomes of code that is being made -/
def sm_MB (pa Mp : Int → Int) (mk n : Int) : Prop := ∀ m : Int, 0 ≤ m → m < mk → Mp m = 1 → pa m < n
/-- all marks from lo on are placed -/
def sm_AP (Mp : Int → Int) (lo hi : Int) : Prop := ∀ m : Int, lo ≤ m → m < hi → Mp m = 1
theorem sm_AP_0 {Mp : Int → Int} {lo hi : Int} (h : hi ≤ lo) : sm_AP Mp lo hi := fun m h0 h1 => by omega
theorem sm_AP_s {Mp : Int → Int} {lo mid hi : Int} (h : sm_AP Mp lo mid) (k : sm_AP Mp mid hi) : sm_AP Mp lo hi := fun m h0 h1 => by
  by_cases z : m < mid
  · exact h m h0 z
  · exact k m (by omega) h1
theorem sm_AP_1 {Mp : Int → Int} {lo hi : Int} (h : Mp lo = 1) (k : sm_AP Mp (lo + 1) hi) : sm_AP Mp lo hi := fun m h0 h1 => by
  by_cases z : m = lo
  · rw [z]; exact h
  · exact k m (by omega) h1
theorem sm_AP_F {Mp Mp' : Int → Int} {lo hi m lo' hi' : Int} (h : sm_AP Mp lo hi) (f : sm_F1 Mp Mp' m) (hm : hi' ≤ m) (hl : lo ≤ lo') (hh : hi' ≤ hi) : sm_AP Mp' lo' hi' := fun k h0 h1 => by
  rw [f k (by omega)]
  exact h k (by omega) (by omega)
theorem sm_AP_o {Mp Mp' : Int → Int} {lo hi p : Int} (h : sm_AP Mp lo hi) (o : ∀ k : Int, ¬ k = p → Mp' k = Mp k) (hp : p < lo ∨ hi ≤ p) : sm_AP Mp' lo hi := fun k h0 h1 => by
  have := h k h0 h1
  rw [o k (by omega)]; exact this
theorem sm_AP_up {Mp : Int → Int} {lo hi i x : Int} (h : sm_AP Mp lo hi) (hx : x = 1 ∨ i < lo ∨ hi ≤ i) : sm_AP (fun i' : Int => if i' = i then x else Mp i') lo hi := fun k h0 h1 => by
  (try dsimp only)
  by_cases z : k = i
  · rw [if_pos z]; omega
  · rw [if_neg z]; exact h k h0 h1
/-- heights within a range -/
def sm_HB (Ht : Int → Int) (lo hi B : Int) : Prop := ∀ k : Int, lo ≤ k → k < hi → 2 * Ht k ≤ B
theorem sm_HB_0 {Ht : Int → Int} {lo hi B : Int} (h : hi ≤ lo) : sm_HB Ht lo hi B := fun m h0 h1 => by omega
theorem sm_HB_s {Ht : Int → Int} {lo mid hi B : Int} (h : sm_HB Ht lo mid B) (k : sm_HB Ht mid hi B) : sm_HB Ht lo hi B := fun m h0 h1 => by
  by_cases z : m < mid
  · exact h m h0 z
  · exact k m (by omega) h1
theorem sm_HB_1 {Ht : Int → Int} {lo hi B : Int} (h : 2 * Ht lo ≤ B) (k : sm_HB Ht (lo + 1) hi B) : sm_HB Ht lo hi B := fun m h0 h1 => by
  by_cases z : m = lo
  · rw [z]; exact h
  · exact k m (by omega) h1
theorem sm_HB_F {Ht Ht' : Int → Int} {lo hi m lo' hi' B B' : Int} (h : sm_HB Ht lo hi B) (f : sm_F1 Ht Ht' m) (hm : hi' ≤ m) (hl : lo ≤ lo') (hh : hi' ≤ hi) (hB : B ≤ B') : sm_HB Ht' lo' hi' B' := fun k h0 h1 => by
  rw [f k (by omega)]
  have := h k (by omega) (by omega)
  omega
/-- whose instructions these are -/
def sm_FC (fo : Int → Int) (lo hi f : Int) : Prop := ∀ k : Int, lo ≤ k → k < hi → fo k = f
theorem sm_FC_0 {fo : Int → Int} {lo hi f : Int} (h : hi ≤ lo) : sm_FC fo lo hi f := fun m h0 h1 => by omega
theorem sm_FC_s {fo : Int → Int} {lo mid hi f : Int} (h : sm_FC fo lo mid f) (k : sm_FC fo mid hi f) : sm_FC fo lo hi f := fun m h0 h1 => by
  by_cases z : m < mid
  · exact h m h0 z
  · exact k m (by omega) h1
theorem sm_FC_1 {fo : Int → Int} {lo hi f : Int} (h : fo lo = f) (k : sm_FC fo (lo + 1) hi f) : sm_FC fo lo hi f := fun m h0 h1 => by
  by_cases z : m = lo
  · rw [z]; exact h
  · exact k m (by omega) h1
theorem sm_FC_F {fo fo' : Int → Int} {lo hi m lo' hi' f f' : Int} (h : sm_FC fo lo hi f) (e : sm_F1 fo fo' m) (hm : hi' ≤ m) (hl : lo ≤ lo') (hh : hi' ≤ hi) (hf : f' = f) : sm_FC fo' lo' hi' f' := fun k h0 h1 => by
  rw [e k (by omega), h k (by omega) (by omega), hf]
theorem sm_FC_at {fo : Int → Int} {lo hi f : Int} (h : sm_FC fo lo hi f) (k : lo < hi) : fo lo = f := h lo (Int.le_refl _) k
section CODER1
variable {op a b fo Ht Tr Td Ls pa Mh Mt Ml Mf Mp ar vs vm : Int → Int} {n mk f nf ns si : Int}
theorem sm_KC_si {si' : Int} (h : sm_KC op a b fo Ht Tr Td Ls pa Mh Mt Ml Mf Mp ar vs vm n mk f nf ns si) (hs : si ≤ si') : sm_KC op a b fo Ht Tr Td Ls pa Mh Mt Ml Mf Mp ar vs vm n mk f nf ns si' :=
  ⟨h.1, fun k k0 k1 => ⟨⟨(h.2.1 k k0 k1).1.1, sm_ci_si (h.2.1 k k0 k1).1.2.1 hs, (h.2.1 k k0 k1).1.2.2⟩, (h.2.1 k k0 k1).2⟩, h.2.2.1, h.2.2.2⟩
theorem sm_MB_emit (h : sm_KC op a b fo Ht Tr Td Ls pa Mh Mt Ml Mf Mp ar vs vm n mk f nf ns si) {n' : Int} (hn : n' = n + 1) : sm_MB pa Mp mk n' := fun m m0 m1 m2 => by
  have := (h.2.2.2 m m0 m1 m2).2.1
  omega
theorem sm_MB_w {n' : Int} (h : sm_MB pa Mp mk n) (hn : n ≤ n') : sm_MB pa Mp mk n' := fun m m0 m1 m2 => by
  have := h m m0 m1 m2
  omega
theorem sm_MB_mark {m5 x5 mk' : Int} (h : sm_MB pa Mp mk n) (hm : m5 = mk) (hx : x5 = 0) (hk : mk' = mk + 1) : sm_MB pa (fun i' : Int => if i' = m5 then x5 else Mp i') mk' n := fun m m0 m1 m2 => by
  dsimp only at m2
  by_cases z : m = m5
  · rw [if_pos z] at m2; omega
  · rw [if_neg z] at m2; exact h m m0 (by omega) m2
/-- a mark comes -/
theorem sm_KC_mark {m1 m2 m3 m4 m5 x1 x2 x3 x4 x5 mk' : Int} (h : sm_KC op a b fo Ht Tr Td Ls pa Mh Mt Ml Mf Mp ar vs vm n mk f nf ns si) (hm : m1 = mk ∧ m2 = mk ∧ m3 = mk ∧ m4 = mk ∧ m5 = mk) (hx : x5 = 0) (hk : mk' = mk + 1) :
    sm_KC op a b fo Ht Tr Td Ls pa (fun i' : Int => if i' = m1 then x1 else Mh i') (fun i' : Int => if i' = m2 then x2 else Mt i') (fun i' : Int => if i' = m3 then x3 else Ml i') (fun i' : Int => if i' = m4 then x4 else Mf i') (fun i' : Int => if i' = m5 then x5 else Mp i') ar vs vm n mk' f nf ns si := by
  obtain ⟨q1, q2, q3, q4, q5⟩ := hm
  subst m1 m2 m3 m4 m5 mk'
  refine ⟨by have := h.1; omega, fun k k0 k1 => ?_, h.2.2.1, fun m mm0 mm1 mm2 => ?_⟩
  · obtain ⟨⟨r1, r2, r3, r4, r5⟩, q⟩ := h.2.1 k k0 k1
    refine ⟨⟨r1, ?_, fun z => ?_, r4, r5⟩, q⟩
    · by_cases z : sm_ju (op k)
      · have w := r3 z
        (try dsimp only)
        rw [if_neg (by omega), if_neg (by omega), if_neg (by omega)]
        exact r2
      · exact sm_ci_j r2 z
    · have w := r3 z
      (try dsimp only)
      rw [if_neg (by omega)]
      exact ⟨w.1, by omega, w.2.2⟩
  · dsimp only at mm2
    by_cases z : m = mk
    · rw [if_pos z] at mm2; omega
    · rw [if_neg z] at mm2
      have w := h.2.2.2 m mm0 (by omega) mm2
      unfold sm_mp at w ⊢
      (try dsimp only)
      rw [if_neg z, if_neg z, if_neg z, if_neg z]
      exact w
/-- a mark is placed -/
theorem sm_KC_here {m i1 i2 x p : Int} (h : sm_KC op a b fo Ht Tr Td Ls pa Mh Mt Ml Mf Mp ar vs vm n mk f nf ns si) (e1 : Ht n = Mh m) (e2 : Tr n = Mt m) (e3 : Ls n = Ml m) (e4 : f = Mf m) (h1 : i1 = m) (h2 : i2 = m) (hx : x = n) :
    sm_KC op a b fo Ht Tr Td Ls (fun i' : Int => if i' = i1 then x else pa i') Mh Mt Ml Mf (fun i' : Int => if i' = i2 then p else Mp i') ar vs vm n mk f nf ns si := by
  subst i1 i2 x
  refine ⟨h.1, h.2.1, h.2.2.1, fun q q0 q1 q2 => ?_⟩
  have n0 := h.1.1
  unfold sm_mp
  dsimp only at q2 ⊢
  by_cases z : q = m
  · rw [if_pos z]
    rw [z]
    exact ⟨n0, by omega, e1, e2, e3, fun w => by omega, fun _ => e4⟩
  · rw [if_neg z] at q2 ⊢
    exact h.2.2.2 q q0 q1 q2
/-- behind a jump: what is now may be anything that was once -/
theorem sm_KC_set {k0 x1 x2 x3 x4 j1 j2 j3 j4 : Int} (h : sm_KC op a b fo Ht Tr Td Ls pa Mh Mt Ml Mf Mp ar vs vm n mk f nf ns si) (hb : sm_MB pa Mp mk n) (hn : 1 ≤ n) (hf : ¬ sm_fa (op (n - 1))) (hk : 0 ≤ k0 ∧ k0 < n) (hfo : fo k0 = f)
    (w1 : Ht k0 ≤ x1 ∧ x1 ≤ n + 2) (w2 : x2 = Tr k0) (w3 : x3 = Td k0) (w4 : x4 = Ls k0) (hj : j1 = n ∧ j2 = n ∧ j3 = n ∧ j4 = n) :
    sm_KC op a b fo (fun i' : Int => if i' = j1 then x1 else Ht i') (fun i' : Int => if i' = j2 then x2 else Tr i') (fun i' : Int => if i' = j3 then x3 else Td i') (fun i' : Int => if i' = j4 then x4 else Ls i') pa Mh Mt Ml Mf Mp ar vs vm n mk f nf ns si := by
  obtain ⟨q1, q2, q3, q4⟩ := hj
  subst j1 j2 j3 j4 x2 x3 x4
  obtain ⟨A0, A, B, C⟩ := h
  have E : ∀ (r : Int → Int) (x i : Int), i < n → (fun i' : Int => if i' = n then x else r i') i = r i := fun r x i q => if_neg (by omega)
  have En : ∀ (r : Int → Int) (x : Int), (fun i' : Int => if i' = n then x else r i') n = x := fun r x => if_pos rfl
  generalize hHt : (fun i' : Int => if i' = n then x1 else Ht i') = Ht'
  generalize hTr : (fun i' : Int => if i' = n then Tr k0 else Tr i') = Tr'
  generalize hTd : (fun i' : Int => if i' = n then Td k0 else Td i') = Td'
  generalize hLs : (fun i' : Int => if i' = n then Ls k0 else Ls i') = Ls'
  have o5 : ∀ i : Int, i < n → Ht' i = Ht i := fun i q => by rw [← hHt]; exact E Ht x1 i q
  have o6 : ∀ i : Int, i < n → Tr' i = Tr i := fun i q => by rw [← hTr]; exact E Tr _ i q
  have o7 : ∀ i : Int, i < n → Td' i = Td i := fun i q => by rw [← hTd]; exact E Td _ i q
  have o8 : ∀ i : Int, i < n → Ls' i = Ls i := fun i q => by rw [← hLs]; exact E Ls _ i q
  have p5' : Ht' n = x1 := by rw [← hHt]; exact En Ht x1
  have p6' : Tr' n = Tr k0 := by rw [← hTr]; exact En Tr _
  have p7' : Td' n = Td k0 := by rw [← hTd]; exact En Td _
  have p8' : Ls' n = Ls k0 := by rw [← hLs]; exact En Ls _
  clear hHt hTr hTd hLs E En
  refine ⟨A0, fun k k0' k1 => ?_, ?_, fun m mm0 mm1 mm2 => ?_⟩
  · obtain ⟨⟨r1, r2, r3, r4, r5⟩, qk⟩ := A k k0' k1
    have qb := qk.1
    refine ⟨⟨r1, ?_, r3, r4, r5⟩, ?_⟩
    · by_cases hk2 : k + 1 < n
      · exact sm_ci_e r2 rfl rfl rfl (o5 k k1) (o6 k k1) (o7 k k1) (o8 k k1) (by rw [o6 k k1, o5 _ (by omega)]) (by rw [o8 k k1, o5 _ (by omega)]) (by rw [o6 k k1, o6 _ (by omega)]) (by rw [o8 k k1, o8 _ (by omega)]) rfl rfl (o5 _ hk2) (o6 _ hk2) (o8 _ hk2)
      · have hk3 : k = n - 1 := by omega
        have r2' := sm_ci_x (H2 := Ht' (k + 1)) (T2 := Tr' (k + 1)) (L2 := Ls' (k + 1)) r2 (by rw [hk3]; exact hf)
        exact sm_ci_e r2' rfl rfl rfl (o5 k k1) (o6 k k1) (o7 k k1) (o8 k k1) (by rw [o6 k k1, o5 _ (by omega)]) (by rw [o8 k k1, o5 _ (by omega)]) (by rw [o6 k k1, o6 _ (by omega)]) (by rw [o8 k k1, o8 _ (by omega)]) rfl rfl rfl rfl rfl
    · exact sm_Q0_F qk k1 (fun z => by have := (A (Tr k) z (by omega)).2.1; omega) (fun _ _ => rfl) (fun _ _ => rfl) o5 o6 o7 o8
  · obtain ⟨c1, c2, c3, c4, c5⟩ := (A k0 hk.1 hk.2).2
    unfold sm_Q0
    rw [p5', p6', p7', p8']
    refine ⟨by omega, fun z => ?_, c3, fun z => ?_, fun z s s0 s1 => ?_⟩
    · rw [o7 _ (by omega)]
      have := c2 z
      exact ⟨this.1, this.2.1.trans hfo, this.2.2⟩
    · rw [o5 _ (by omega)]
      have := c4 z
      exact ⟨this.1, this.2.1.trans hfo, by omega, this.2.2.2⟩
    · rw [o5 _ (by omega)] at s1
      have := (A (Tr k0) z (by omega)).2.1
      rw [o8 (Tr k0) (by omega), sm_il_f o5 o8 (by omega), sm_il_f o5 o8 (by omega)]
      exact c5 z s s0 s1
  · have w := C m mm0 mm1 mm2
    have w2 := hb m mm0 mm1 mm2
    unfold sm_mp at w ⊢
    rw [o5 _ w2, o6 _ w2, o8 _ w2]
    exact w
end CODER1
theorem sm_KC_x {op a b fo Ht Tr Td Ls pa Mh Mt Ml Mf Mp ar vs vm : Int → Int} {n mk f nf ns si p1 p2 p3 : Int} (h : sm_KC op a b fo Ht Tr Td Ls pa Mh Mt Ml Mf Mp ar vs vm n mk f nf ns si) (hn : n < 600) (ho : 0 ≤ p1 ∧ p1 ≤ 30)
    (e : sm_ci p1 p2 p3 (Ht n) (Tr n) (Td n) (Ls n) (Ht (Tr n)) (Ht (Ls n)) (Tr (Tr n)) (Ls (Ls n)) n si nf ns (ar p2) f (Ht n + sm_dl p1 p2) (sm_nt p1 n (Tr n) (Tr (Tr n))) (sm_nl p1 n (Ht n) (Ls n) (Ht (Ls n)) (Ls (Ls n))) (Mh p2) (Mt p2) (Ml p2))
    (ej : sm_ju p1 → 0 ≤ p2 ∧ p2 < mk ∧ Mf p2 = f) (ev : p1 = 1 ∨ p1 = 2 → sm_vv ar vs vm f p2 p3) :
    0 ≤ Ht n + sm_dl p1 p2 ∧ Ht n + sm_dl p1 p2 ≤ 603 ∧ -1 ≤ sm_nt p1 n (Tr n) (Tr (Tr n)) ∧ sm_nt p1 n (Tr n) (Tr (Tr n)) ≤ 600 ∧ 0 ≤ sm_nd p1 (Td n) ∧ sm_nd p1 (Td n) ≤ 40 ∧ -1 ≤ sm_nl p1 n (Ht n) (Ls n) (Ht (Ls n)) (Ls (Ls n)) ∧ sm_nl p1 n (Ht n) (Ls n) (Ht (Ls n)) (Ls (Ls n)) ≤ 600 := by
  have q := (sm_KC_emit h hn ho e ej ev rfl rfl rfl rfl ⟨rfl, rfl, rfl, rfl⟩ ⟨rfl, rfl, rfl, rfl⟩ rfl rfl).2.2.1.1
  (try dsimp only at q)
  rw [if_pos rfl, if_pos rfl, if_pos rfl, if_pos rfl] at q
  omega
/-- the functions' variables; the functions around -/
def sm_VB (vm ar : Int → Int) (nf : Int) : Prop := ∀ f : Int, 0 ≤ f → f < nf → 0 ≤ vm f ∧ vm f ≤ 100 ∧ (1 ≤ f → 0 ≤ ar f ∧ ar f < f)
theorem sm_VB_at {vm ar : Int → Int} {nf : Int} (h : sm_VB vm ar nf) (f : Int) (h0 : 0 ≤ f) (h1 : f < nf) : 0 ≤ vm f ∧ vm f ≤ 100 ∧ (1 ≤ f → 0 ≤ ar f ∧ ar f < f) := h f h0 h1
/-- so far out: all of them are functions -/
def sm_UB (ar : Int → Int) (f n : Int) : Prop := ∀ j : Int, 0 ≤ j → j < n → 1 ≤ sm_ua ar f j
theorem sm_UB_0 {ar : Int → Int} {f n : Int} (h : n ≤ 0) : sm_UB ar f n := fun j h0 h1 => by omega
theorem sm_UB_s {ar : Int → Int} {f n n' : Int} (h : sm_UB ar f n) (h1 : 1 ≤ sm_ua ar f n) (hn : n' = n + 1) : sm_UB ar f n' := fun j j0 j1 => by
  by_cases z : j = n
  · rw [z]; exact h1
  · exact h j j0 (by omega)
theorem sm_vv_i {ar vs vm : Int → Int} {f x y i : Int} (h0 : 0 ≤ x) (h : sm_UB ar f x) (h1 : 1 ≤ sm_ua ar f x) (i0 : 0 ≤ i) (i1 : i < vm (sm_ua ar f x)) (e : vs (100 * sm_ua ar f x + i) = y) : sm_vv ar vs vm f x y := ⟨h0, fun j j0 j1 => by
  by_cases z : j = x
  · rw [z]; exact h1
  · exact h j j0 (by omega), i, i0, i1, e⟩
/-- g's variables hold the name -/
def sm_vh (vs vm : Int → Int) (g y : Int) : Prop := ∃ i : Int, 0 ≤ i ∧ i < vm g ∧ vs (100 * g + i) = y
theorem sm_vh_i {vs vm : Int → Int} {g y i : Int} (i0 : 0 ≤ i) (i1 : i < vm g) (e : vs (100 * g + i) = y) : sm_vh vs vm g y := ⟨i, i0, i1, e⟩
theorem sm_vv_h {ar vs vm : Int → Int} {f x y g : Int} (h0 : 0 ≤ x) (h : sm_UB ar f x) (hg : g = sm_ua ar f x) (h1 : 1 ≤ g) (k : sm_vh vs vm g y) : sm_vv ar vs vm f x y := by
  obtain ⟨i, i0, i1, e⟩ := k
  subst hg
  exact sm_vv_i h0 h h1 i0 i1 e
/-! the left parts that wait: their keys fall -/
def sm_ke (M : Int → Int) (x : Int) : Int := 12001 * M x + x
def sm_LF (lf M : Int → Int) (l N K : Int) : Prop := 0 ≤ l ∧ (∀ i : Int, 0 ≤ i → i < l → 0 ≤ lf i ∧ lf i < N ∧ K < sm_ke M (lf i)) ∧ (∀ i j : Int, 0 ≤ i → i < j → j < l → sm_ke M (lf j) < sm_ke M (lf i))
theorem sm_LF_0 {lf M : Int → Int} {l N K : Int} (h : l = 0) : sm_LF lf M l N K := ⟨by omega, fun i h0 h1 => by omega, fun i j h0 h1 h2 => by omega⟩
theorem sm_LF_n {lf M : Int → Int} {l N K : Int} (h : sm_LF lf M l N K) (hN : 0 ≤ N) : l ≤ N := by
  obtain ⟨a, b, c⟩ := h
  have := sv_pig N.toNat l.toNat lf (fun i i0 i1 => by have := b i i0 (by omega); exact ⟨this.1, by omega⟩) (fun i j i0 i1 j0 j1 e => by
    by_cases z : i < j
    · have := c i j i0 z (by omega); rw [e] at this; omega
    · by_cases z2 : j < i
      · have := c j i j0 z2 (by omega); rw [e] at this; omega
      · omega)
  omega
theorem sm_LF_e {lf M : Int → Int} {l N K e : Int} (h : sm_LF lf M l N K) (e0 : 0 ≤ e) (e1 : e < N) (hK : 12001 * M e + e ≤ K) : l + 1 ≤ N := by
  have q : sm_LF (fun i' : Int => if i' = l then e else lf i') M (l + 1) N (sm_ke M e - 1) := by
    obtain ⟨a, b, c⟩ := h
    unfold sm_LF
    unfold sm_ke at *
    refine ⟨by omega, fun i i0 i1 => ?_, fun i j i0 i1 j1 => ?_⟩
    · (try dsimp only)
      by_cases z : i = l
      · rw [if_pos z]; exact ⟨e0, e1, by omega⟩
      · rw [if_neg z]; have := b i i0 (by omega); exact ⟨this.1, this.2.1, by omega⟩
    · (try dsimp only)
      rw [if_neg (show ¬ i = l by omega)]
      by_cases z : j = l
      · rw [if_pos z]; have := b i i0 (by omega); omega
      · rw [if_neg z]; exact c i j i0 i1 (by omega)
  exact sm_LF_n q (by omega)
theorem sm_LF_push {lf M : Int → Int} {l l' N K K' e i2 : Int} (h : sm_LF lf M l N K) (e0 : 0 ≤ e) (e1 : e < N) (hK : 12001 * M e + e ≤ K) (hK2 : K' < 12001 * M e + e) (hi : i2 = l) (hl : l' = l + 1) : sm_LF (fun i' : Int => if i' = i2 then e else lf i') M l' N K' := by
  subst i2 l'
  obtain ⟨a, b, c⟩ := h
  unfold sm_LF
  unfold sm_ke at *
  refine ⟨by omega, fun i i0 i1 => ?_, fun i j i0 i1 j1 => ?_⟩
  · (try dsimp only)
    by_cases z : i = l
    · rw [if_pos z]; exact ⟨e0, e1, by omega⟩
    · rw [if_neg z]; have := b i i0 (by omega); exact ⟨this.1, this.2.1, by omega⟩
  · (try dsimp only)
    rw [if_neg (show ¬ i = l by omega)]
    by_cases z : j = l
    · rw [if_pos z]; have := b i i0 (by omega); omega
    · rw [if_neg z]; exact c i j i0 i1 (by omega)
theorem sm_LF_pop {lf M : Int → Int} {l l' N K : Int} (h : sm_LF lf M l N K) (hl : l = l' + 1) (h0 : 0 ≤ l') : sm_LF lf M l' N (12001 * M (lf l') + lf l') ∧ 0 ≤ lf l' ∧ lf l' < N ∧ K < 12001 * M (lf l') + lf l' := by
  subst hl
  obtain ⟨a, b, c⟩ := h
  have q := b l' h0 (by omega)
  unfold sm_ke at *
  exact ⟨⟨h0, fun i i0 i1 => ⟨(b i i0 (by omega)).1, (b i i0 (by omega)).2.1, c i l' i0 i1 (by omega)⟩, fun i j i0 i1 j1 => c i j i0 i1 (by omega)⟩, q.1, q.2.1, q.2.2⟩
theorem sm_LF_w {lf lf' M : Int → Int} {l l' N K K' m : Int} (h : sm_LF lf M l N K) (f : sm_F1 lf lf' m) (hm : l' ≤ m) (hl : l' ≤ l) (h0 : 0 ≤ l') (hK : K' ≤ K) : sm_LF lf' M l' N K' := by
  obtain ⟨a, b, c⟩ := h
  refine ⟨h0, fun i i0 i1 => ?_, fun i j i0 i1 j1 => ?_⟩
  · rw [f i (by omega)]; have := b i i0 (by omega); exact ⟨this.1, this.2.1, by omega⟩
  · rw [f i (by omega), f j (by omega)]; exact c i j i0 i1 (by omega)
/-- what is open at the place behind an instruction -/
theorem sm_KC_hh {op a b fo Ht Tr Td Ls pa Mh Mt Ml Mf Mp ar vs vm : Int → Int} {n mk f nf ns si p1 p2 p3 : Int} (h : sm_KC op a b fo Ht Tr Td Ls pa Mh Mt Ml Mf Mp ar vs vm n mk f nf ns si) (hn : n < 600) (ho : 0 ≤ p1 ∧ p1 ≤ 30)
    (e : sm_ci p1 p2 p3 (Ht n) (Tr n) (Td n) (Ls n) (Ht (Tr n)) (Ht (Ls n)) (Tr (Tr n)) (Ls (Ls n)) n si nf ns (ar p2) f (Ht n + sm_dl p1 p2) (sm_nt p1 n (Tr n) (Tr (Tr n))) (sm_nl p1 n (Ht n) (Ls n) (Ht (Ls n)) (Ls (Ls n))) (Mh p2) (Mt p2) (Ml p2))
    (ej : sm_ju p1 → 0 ≤ p2 ∧ p2 < mk ∧ Mf p2 = f) (ev : p1 = 1 ∨ p1 = 2 → sm_vv ar vs vm f p2 p3) {x1 x2 x4 j1 j2 j4 n' : Int} (w1 : x1 = Ht n + sm_dl p1 p2) (w2 : x2 = sm_nt p1 n (Tr n) (Tr (Tr n))) (w4 : x4 = sm_nl p1 n (Ht n) (Ls n) (Ht (Ls n)) (Ls (Ls n))) (hj : j1 = n + 1 ∧ j2 = n + 1 ∧ j4 = n + 1) (hn' : n' = n + 1) :
    (fun i' : Int => if i' = j1 then x1 else Ht i') ((fun i' : Int => if i' = j2 then x2 else Tr i') n') = sm_nt p1 (Ht n) (Ht (Tr n)) (Ht (Tr (Tr n))) ∧
    (p1 = 29 → (fun i' : Int => if i' = j1 then x1 else Ht i') ((fun i' : Int => if i' = j4 then x4 else Ls i') n') = Ht n) ∧
    (p1 = 17 → 0 ≤ Ls n → Ht (Ls n) = Ht n → (fun i' : Int => if i' = j1 then x1 else Ht i') ((fun i' : Int => if i' = j4 then x4 else Ls i') n') = Ht (Ls (Ls n))) ∧
    (¬ p1 = 29 → (p1 = 17 → 0 ≤ Ls n → Ht (Ls n) < Ht n) → (fun i' : Int => if i' = j1 then x1 else Ht i') ((fun i' : Int => if i' = j4 then x4 else Ls i') n') = Ht (Ls n)) := by
  obtain ⟨j1', j2', j4'⟩ := hj
  subst j1 j2 j4 n'
  have q := (sm_KC_x h hn ho e ej ev)
  have b1 := h.2.2.1.1
  have r := (sm_KC_emit h hn ho e ej ev rfl rfl rfl rfl ⟨rfl, rfl, rfl, rfl⟩ ⟨rfl, rfl, rfl, rfl⟩ rfl rfl).2.2.1.1
  (try dsimp only at r ⊢)
  rw [if_pos rfl, if_pos rfl, if_pos rfl, if_pos rfl] at r
  have X2 : x2 < n + 1 := by rw [w2]; omega
  have X4 : x4 < n + 1 := by rw [w4]; omega
  have e2 : (if n + 1 = n + 1 then x2 else Tr (n + 1)) = x2 := if_pos rfl
  have e4 : (if n + 1 = n + 1 then x4 else Ls (n + 1)) = x4 := if_pos rfl
  rw [e2, e4]
  refine ⟨?_, fun z => ?_, fun z z0 z1 => ?_, fun z z1 => ?_⟩
  · rw [if_neg (by omega), w2]
    unfold sm_nt
    by_cases y : p1 = 27
    · rw [if_pos y, if_pos y]
    · rw [if_neg y, if_neg y]
      by_cases y2 : p1 = 28
      · rw [if_pos y2, if_pos y2]
      · rw [if_neg y2, if_neg y2]
  · rw [if_neg (by omega), w4, z]; unfold sm_nl; rw [if_pos rfl]
  · rw [if_neg (by omega), w4, z]; unfold sm_nl; rw [if_neg (by decide), if_pos ⟨rfl, z0, z1⟩]
  · rw [if_neg (by omega), w4]; unfold sm_nl; rw [if_neg z, if_neg (fun y => by have := z1 y.1 y.2.1; omega)]
theorem sm_ci_gl {op p2 a b H T D L hT hL tT lL k si nf ns aA f jH jT jL : Int} (h : (p2 = 1 ∧ (op = 3 ∨ op = 5)) ∨ (p2 = 2 ∧ op = 4)) (a0 : 0 ≤ a) (b0 : 0 ≤ b ∧ b < ns) (H0 : 0 ≤ H) (l1 : p2 = 1 → (0 ≤ T → hT ≤ H) ∧ (0 ≤ L → hL ≤ H)) (l2 : p2 = 2 → 1 ≤ H ∧ (0 ≤ T → hT ≤ H - 1) ∧ (0 ≤ L → hL ≤ H - 1)) : sm_ci op a b H T D L hT hL tT lL k si nf ns aA f (H + sm_dl op a) (sm_nt op k T tT) (sm_nl op k H L hL lL) jH jT jL := by
  rcases h with h | h
  · have l := l1 h.1
    rw [sm_dl_ld (by omega), sm_nt_o (by omega) (by omega), sm_nl_o (by omega) (by omega)]
    exact sm_ci_g1 (by omega) ⟨⟨a0, b0.1, b0.2⟩, ⟨H0, l.1, l.2⟩, rfl, rfl, rfl⟩
  · have l := l2 h.1
    rw [sm_dl_st (by omega), sm_nt_o (by omega) (by omega), sm_nl_o (by omega) (by omega)]
    exact sm_ci_g2 (by omega) ⟨⟨a0, b0.1, b0.2⟩, ⟨by omega, l.2.1, l.2.2⟩, by omega, rfl, rfl⟩
theorem sm_KC_e {op a b fo Ht Tr Td Ls pa Mh Mt Ml Mf Mp ar vs vm : Int → Int} {n mk f nf ns si n' mk' f' nf' ns' si' : Int} (h : sm_KC op a b fo Ht Tr Td Ls pa Mh Mt Ml Mf Mp ar vs vm n mk f nf ns si) (e1 : n' = n) (e2 : mk' = mk) (e3 : f' = f) (e4 : nf' = nf) (e5 : ns' = ns) (e6 : si ≤ si') : sm_KC op a b fo Ht Tr Td Ls pa Mh Mt Ml Mf Mp ar vs vm n' mk' f' nf' ns' si' := by
  subst n' mk' f' nf' ns'
  exact sm_KC_si h e6

def q_emit (p1 : Int) (p2 : Int) (p3 : Int) (S : sv_S) : Option Value → sv_S → Prop := fun v S' => v = none ∧ sm_ok S' ∧ sv_mod [26, 27, 28, 29, 1046, 1047, 1100007, 1100023, 1100024, 1100025] S S' ∧ (0 ≤ (S' 1047 0) ∧ (S' 1047 0) ≤ 1 ∧ 1 ≤ (S' 1046 0) ∧ (S 1046 0) ≤ (S' 1046 0) ∧ (S' 1046 0) ≤ (S 1046 0) + 1 ∧ (S' 1046 0) ≤ 600 ∧ ((S 1047 0) = 1 → (S' 1047 0) = 1) ∧ ((S' 1047 0) = 1 → (S 1047 0) = 1 ∨ (S 1046 0) = 600) ∧ sm_F1 (S 26) (S' 26) (S 1046 0) ∧ sm_F1 (S 27) (S' 27) (S 1046 0) ∧ sm_F1 (S 28) (S' 28) (S 1046 0) ∧ sm_F1 (S 29) (S' 29) (S 1046 0) ∧ sm_F1 (S 1100007) (S' 1100007) ((S 1046 0) + 1) ∧ sm_F1 (S 1100023) (S' 1100023) ((S 1046 0) + 1) ∧ sm_F1 (S 1100024) (S' 1100024) ((S 1046 0) + 1) ∧ sm_F1 (S 1100025) (S' 1100025) ((S 1046 0) + 1) ∧ ((S' 1047 0) = 0 → (S 1047 0) = 0 ∧ (S' 1046 0) = (S 1046 0) + 1 ∧ sm_KC (S' 26) (S' 27) (S' 28) (S' 29) (S' 1100007) (S' 1100023) (S' 1100024) (S' 1100025) (S' 31) (S' 1100009) (S' 1100027) (S' 1100028) (S' 1100026) (S' 1100030) (S' 21) (S' 32) (S' 33) (S' 1046 0) (S' 1053 0) (S' 1056 0) (S' 1032 0) (S' 1007 0) (S' 1100033 0) ∧ sm_MB (S' 31) (S' 1100030) (S' 1053 0) (S' 1046 0) ∧ (S' 26 (S 1046 0)) = p1 ∧ (S' 29 (S 1046 0)) = (S' 1056 0) ∧ (S' 1100007 (S' 1046 0)) = ((S 1100007 (S 1046 0)) + sm_dl p1 (p2)) ∧ (S' 1100023 (S' 1046 0)) = (sm_nt p1 (S 1046 0) (S 1100023 (S 1046 0)) (S 1100023 (S 1100023 (S 1046 0)))) ∧ (S' 1100024 (S' 1046 0)) = (sm_nd p1 (S 1100024 (S 1046 0))) ∧ (S' 1100025 (S' 1046 0)) = (sm_nl p1 (S 1046 0) (S 1100007 (S 1046 0)) (S 1100025 (S 1046 0)) (S 1100007 (S 1100025 (S 1046 0))) (S 1100025 (S 1100025 (S 1046 0)))) ∧ (S' 1100007 (S' 1100023 (S' 1046 0))) = sm_nt p1 (S 1100007 (S 1046 0)) (S 1100007 (S 1100023 (S 1046 0))) (S 1100007 (S 1100023 (S 1100023 (S 1046 0)))) ∧ (p1 = 29 → (S' 1100007 (S' 1100025 (S' 1046 0))) = (S 1100007 (S 1046 0))) ∧ (p1 = 17 → 0 ≤ (S 1100025 (S 1046 0)) → (S 1100007 (S 1100025 (S 1046 0))) = (S 1100007 (S 1046 0)) → (S' 1100007 (S' 1100025 (S' 1046 0))) = (S 1100007 (S 1100025 (S 1100025 (S 1046 0))))) ∧ (¬ p1 = 29 → (p1 = 17 → 0 ≤ (S 1100025 (S 1046 0)) → (S 1100007 (S 1100025 (S 1046 0))) < (S 1100007 (S 1046 0))) → (S' 1100007 (S' 1100025 (S' 1046 0))) = (S 1100007 (S 1100025 (S 1046 0))))))
theorem la_emit_0 {x0 : Int} (h0 : x0 ≤ 600) (h1 : ¬ x0 = 600) : x0 < 600 := by omega
theorem la_emit_1 {x0 : Int} (h0 : 0 ≤ x0) (h1 : x0 < 600) : 0 ≤ x0 ∧ x0 < 600 := by omega
theorem la_emit_2 {x0 : Int} (h0 : 0 ≤ x0) (h1 : x0 < 600) : sv_R (x0 + 1) := by omega
theorem la_emit_3 {x0 : Int} (h0 : 0 ≤ x0) (h1 : x0 ≤ 30) : 0 ≤ x0 ∧ x0 ≤ 30 := by omega
theorem la_emit_4 {x0 x1 x2 : Int} (h0 : x0 = x1 + x2) (h1 : 0 ≤ x1 + x2) (h2 : x1 + x2 ≤ 603) : sv_R x0 := by omega
theorem la_emit_5 {x0 : Int} (h0 : 0 ≤ x0) (h1 : ¬ x0 = 0) : 0 < x0 := by omega
theorem la_emit_6 {x0 : Int} (h0 : x0 = 0) : sv_R x0 := by omega
theorem la_emit_7 {x0 x1 : Int} (h0 : x0 = x1) (h1 : (-1) ≤ x1) (h2 : x1 ≤ 600) : sv_R x0 := by omega
theorem la_emit_8 {x0 x1 : Int} (h0 : x0 = x1) (h1 : 0 ≤ x1) (h2 : x1 ≤ 40) : sv_R x0 := by omega
theorem la_emit_9 {x0 : Int} : x0 + 1 = x0 + 1 := by omega
theorem la_emit_10 {x0 : Int} (h0 : 0 ≤ x0) : 1 ≤ x0 + 1 := by omega
theorem la_emit_11 {x0 : Int} : x0 ≤ x0 + 1 := by omega
theorem la_emit_12 {x0 : Int} : x0 + 1 ≤ x0 + 1 := by omega
theorem la_emit_13 {x0 : Int} (h0 : x0 < 600) : x0 + 1 ≤ 600 := by omega
theorem la_emit_14 {x0 : Int} : x0 = 1 → x0 = 1 := by omega
theorem la_emit_15 {x0 x1 : Int} (h0 : x0 < 600) : x1 = 1 → x1 = 1 ∨ x0 = 600 := by omega
theorem la_emit_16 {x0 : Int} : x0 = x0 := by omega
theorem la_emit_17 {x0 x1 x2 x3 : Int} (h0 : x0 = x1 + x2) (h1 : x3 = x0) : x3 = x1 + x2 := by omega
theorem la_emit_18 {x0 x1 x2 : Int} (h0 : x0 = x1) (h1 : x1 = x2) : x0 = x2 := by omega
theorem la_emit_19 : (0 : Int) ≤ 1 := by omega
theorem la_emit_20 : (1 : Int) ≤ 1 := by omega
theorem la_emit_21 {x0 : Int} (h0 : ¬ ¬ x0 = 600) : 1 ≤ x0 := by omega
theorem la_emit_22 {x0 : Int} : x0 ≤ x0 := by omega
theorem la_emit_23 {x0 : Int} : x0 = 1 → (1 : Int) = 1 := by omega
theorem la_emit_24 {x0 x1 : Int} (h0 : x0 ≤ 600) (h1 : x1 ≤ 1) (h2 : ¬ ¬ x0 = 600) : (1 : Int) = 1 → x1 = 1 ∨ x0 = 600 := by omega
theorem la_emit_25 {x0 : Int} (h0 : (1 : Int) = 0) : x0 = 0 := by omega
theorem la_emit_26 {x0 : Int} (h0 : (1 : Int) = 0) : x0 = x0 + 1 := by omega
theorem la_emit_27 (h0 : (1 : Int) = 0) : False := by omega
theorem la_emit_28 {x0 x1 : Int} (h0 : (1 : Int) = 0) : x0 = x1 := by omega
theorem la_emit_29 {x0 x1 : Int} (h0 : (1 : Int) = 0) : x0 = x0 + x1 := by omega
theorem la_emit_30 {x0 x1 x2 : Int} (h0 : (1 : Int) = 0) : x0 = 29 → x1 = x2 := by omega
theorem la_emit_31 {x0 x1 x2 x3 x4 : Int} (h0 : (1 : Int) = 0) : x0 = 17 → 0 ≤ x1 → x2 = x3 → x2 = x4 := by omega
theorem la_emit_32 {x0 : Int} (h0 : (1 : Int) = 0) : x0 ≤ 29 := by omega
theorem la_emit_33 {x0 : Int} (h0 : x0 ≤ 29) (h1 : ¬ x0 = 29) : x0 < 29 := by omega
theorem la_emit_34 {x0 : Int} (h0 : (1 : Int) = 0) : x0 = 17 := by omega
theorem la_emit_35 {x0 : Int} (h0 : (1 : Int) = 0) : 0 ≤ x0 := by omega
set_option maxHeartbeats 4000000 in
theorem f_emit : ∀ (p1 : Int) (p2 : Int) (p3 : Int) (S : sv_S), sm_ok S → sv_R p1 → sv_R p2 → sv_R p3 → (0 ≤ (S 1046 0) ∧ (S 1046 0) ≤ 600 ∧ 0 ≤ (S 1047 0) ∧ (S 1047 0) ≤ 1 ∧ ((S 1047 0) = 0 → sm_KC (S 26) (S 27) (S 28) (S 29) (S 1100007) (S 1100023) (S 1100024) (S 1100025) (S 31) (S 1100009) (S 1100027) (S 1100028) (S 1100026) (S 1100030) (S 21) (S 32) (S 33) (S 1046 0) (S 1053 0) (S 1056 0) (S 1032 0) (S 1007 0) (S 1100033 0) ∧ 0 ≤ p1 ∧ p1 ≤ 30 ∧ sm_ci p1 (p2) (p3) (S 1100007 (S 1046 0)) (S 1100023 (S 1046 0)) (S 1100024 (S 1046 0)) (S 1100025 (S 1046 0)) (S 1100007 (S 1100023 (S 1046 0))) (S 1100007 (S 1100025 (S 1046 0))) (S 1100023 (S 1100023 (S 1046 0))) (S 1100025 (S 1100025 (S 1046 0))) (S 1046 0) (S 1100033 0) (S 1032 0) (S 1007 0) (S 21 p2) (S 1056 0) ((S 1100007 (S 1046 0)) + sm_dl p1 (p2)) (sm_nt p1 (S 1046 0) (S 1100023 (S 1046 0)) (S 1100023 (S 1100023 (S 1046 0)))) (sm_nl p1 (S 1046 0) (S 1100007 (S 1046 0)) (S 1100025 (S 1046 0)) (S 1100007 (S 1100025 (S 1046 0))) (S 1100025 (S 1100025 (S 1046 0)))) (S 1100009 p2) (S 1100027 p2) (S 1100028 p2) ∧ ((21 ≤ p1 ∧ p1 ≤ 24) ∨ p1 = 27 ∨ p1 = 30 → 0 ≤ p2 ∧ p2 < (S 1053 0) ∧ (S 1100026 p2) = (S 1056 0)) ∧ (p1 = 1 ∨ p1 = 2 → sm_vv (S 21) (S 32) (S 33) (S 1056 0) p2 p3))) → (sv_R (S 1046 0) → (((¬ (S 1046 0) = (600 : Int)) → (((S 1047 0) = 0 → sm_KC (S 26) (S 27) (S 28) (S 29) (S 1100007) (S 1100023) (S 1100024) (S 1100025) (S 31) (S 1100009) (S 1100027) (S 1100028) (S 1100026) (S 1100030) (S 21) (S 32) (S 33) (S 1046 0) (S 1053 0) (S 1056 0) (S 1032 0) (S 1007 0) (S 1100033 0) → (S 1046 0) < 600 → 0 ≤ p1 ∧ p1 ≤ 30 → sm_ci p1 (p2) (p3) (S 1100007 (S 1046 0)) (S 1100023 (S 1046 0)) (S 1100024 (S 1046 0)) (S 1100025 (S 1046 0)) (S 1100007 (S 1100023 (S 1046 0))) (S 1100007 (S 1100025 (S 1046 0))) (S 1100023 (S 1100023 (S 1046 0))) (S 1100025 (S 1100025 (S 1046 0))) (S 1046 0) (S 1100033 0) (S 1032 0) (S 1007 0) (S 21 p2) (S 1056 0) ((S 1100007 (S 1046 0)) + sm_dl p1 (p2)) (sm_nt p1 (S 1046 0) (S 1100023 (S 1046 0)) (S 1100023 (S 1100023 (S 1046 0)))) (sm_nl p1 (S 1046 0) (S 1100007 (S 1046 0)) (S 1100025 (S 1046 0)) (S 1100007 (S 1100025 (S 1046 0))) (S 1100025 (S 1100025 (S 1046 0)))) (S 1100009 p2) (S 1100027 p2) (S 1100028 p2) → ((21 ≤ p1 ∧ p1 ≤ 24) ∨ p1 = 27 ∨ p1 = 30 → 0 ≤ p2 ∧ p2 < (S 1053 0) ∧ (S 1100026 p2) = (S 1056 0)) → (p1 = 1 ∨ p1 = 2 → sm_vv (S 21) (S 32) (S 33) (S 1056 0) p2 p3) → 0 ≤ ((S 1100007 (S 1046 0)) + sm_dl p1 (p2)) ∧ ((S 1100007 (S 1046 0)) + sm_dl p1 (p2)) ≤ 603 ∧ -1 ≤ (sm_nt p1 (S 1046 0) (S 1100023 (S 1046 0)) (S 1100023 (S 1100023 (S 1046 0)))) ∧ (sm_nt p1 (S 1046 0) (S 1100023 (S 1046 0)) (S 1100023 (S 1100023 (S 1046 0)))) ≤ 600 ∧ 0 ≤ (sm_nd p1 (S 1100024 (S 1046 0))) ∧ (sm_nd p1 (S 1100024 (S 1046 0))) ≤ 40 ∧ -1 ≤ (sm_nl p1 (S 1046 0) (S 1100007 (S 1046 0)) (S 1100025 (S 1046 0)) (S 1100007 (S 1100025 (S 1046 0))) (S 1100025 (S 1100025 (S 1046 0)))) ∧ (sm_nl p1 (S 1046 0) (S 1100007 (S 1046 0)) (S 1100025 (S 1046 0)) (S 1100007 (S 1100025 (S 1046 0))) (S 1100025 (S 1100025 (S 1046 0)))) ≤ 600) → (0 ≤ (S 1046 0) ∧ (S 1046 0) < 600) ∧ (sv_R (S 1056 0) → (sv_R ((S 1046 0) + (1 : Int))) ∧ (sv_R ((if (S 1047 0) = 0 then ((S 1100007 (S 1046 0)) + sm_dl p1 (p2)) else 0))) ∧ (sv_R ((if (S 1047 0) = 0 then (sm_nt p1 (S 1046 0) (S 1100023 (S 1046 0)) (S 1100023 (S 1100023 (S 1046 0)))) else 0))) ∧ (sv_R ((if (S 1047 0) = 0 then (sm_nd p1 (S 1100024 (S 1046 0))) else 0))) ∧ (sv_R ((if (S 1047 0) = 0 then (sm_nl p1 (S 1046 0) (S 1100007 (S 1046 0)) (S 1100025 (S 1046 0)) (S 1100007 (S 1100025 (S 1046 0))) (S 1100025 (S 1100025 (S 1046 0)))) else 0))) ∧ (((S 1047 0) = 0 → sm_KC (S 26) (S 27) (S 28) (S 29) (S 1100007) (S 1100023) (S 1100024) (S 1100025) (S 31) (S 1100009) (S 1100027) (S 1100028) (S 1100026) (S 1100030) (S 21) (S 32) (S 33) (S 1046 0) (S 1053 0) (S 1056 0) (S 1032 0) (S 1007 0) (S 1100033 0) → (S 1046 0) < 600 → 0 ≤ p1 ∧ p1 ≤ 30 → sm_ci p1 (p2) (p3) (S 1100007 (S 1046 0)) (S 1100023 (S 1046 0)) (S 1100024 (S 1046 0)) (S 1100025 (S 1046 0)) (S 1100007 (S 1100023 (S 1046 0))) (S 1100007 (S 1100025 (S 1046 0))) (S 1100023 (S 1100023 (S 1046 0))) (S 1100025 (S 1100025 (S 1046 0))) (S 1046 0) (S 1100033 0) (S 1032 0) (S 1007 0) (S 21 p2) (S 1056 0) ((S 1100007 (S 1046 0)) + sm_dl p1 (p2)) (sm_nt p1 (S 1046 0) (S 1100023 (S 1046 0)) (S 1100023 (S 1100023 (S 1046 0)))) (sm_nl p1 (S 1046 0) (S 1100007 (S 1046 0)) (S 1100025 (S 1046 0)) (S 1100007 (S 1100025 (S 1046 0))) (S 1100025 (S 1100025 (S 1046 0)))) (S 1100009 p2) (S 1100027 p2) (S 1100028 p2) → ((21 ≤ p1 ∧ p1 ≤ 24) ∨ p1 = 27 ∨ p1 = 30 → 0 ≤ p2 ∧ p2 < (S 1053 0) ∧ (S 1100026 p2) = (S 1056 0)) → (p1 = 1 ∨ p1 = 2 → sm_vv (S 21) (S 32) (S 33) (S 1056 0) p2 p3) → sm_KC (fun i' : Int => if i' = (S 1046 0) then p1 else (S 26) i') (fun i' : Int => if i' = (S 1046 0) then p2 else (S 27) i') (fun i' : Int => if i' = (S 1046 0) then p3 else (S 28) i') (fun i' : Int => if i' = (S 1046 0) then (S 1056 0) else (S 29) i') (fun i' : Int => if i' = ((S 1046 0) + (1 : Int)) then ((if (S 1047 0) = 0 then ((S 1100007 (S 1046 0)) + sm_dl p1 (p2)) else 0)) else (S 1100007) i') (fun i' : Int => if i' = ((S 1046 0) + (1 : Int)) then ((if (S 1047 0) = 0 then (sm_nt p1 (S 1046 0) (S 1100023 (S 1046 0)) (S 1100023 (S 1100023 (S 1046 0)))) else 0)) else (S 1100023) i') (fun i' : Int => if i' = ((S 1046 0) + (1 : Int)) then ((if (S 1047 0) = 0 then (sm_nd p1 (S 1100024 (S 1046 0))) else 0)) else (S 1100024) i') (fun i' : Int => if i' = ((S 1046 0) + (1 : Int)) then ((if (S 1047 0) = 0 then (sm_nl p1 (S 1046 0) (S 1100007 (S 1046 0)) (S 1100025 (S 1046 0)) (S 1100007 (S 1100025 (S 1046 0))) (S 1100025 (S 1100025 (S 1046 0)))) else 0)) else (S 1100025) i') (S 31) (S 1100009) (S 1100027) (S 1100028) (S 1100026) (S 1100030) (S 21) (S 32) (S 33) ((S 1046 0) + (1 : Int)) (S 1053 0) (S 1056 0) (S 1032 0) (S 1007 0) (S 1100033 0) ∧ sm_MB (S 31) (S 1100030) (S 1053 0) ((S 1046 0) + (1 : Int)) ∧ (if (if ((S 1046 0) + (1 : Int)) = ((S 1046 0) + (1 : Int)) then ((if (S 1047 0) = 0 then (sm_nt p1 (S 1046 0) (S 1100023 (S 1046 0)) (S 1100023 (S 1100023 (S 1046 0)))) else 0)) else (S 1100023 ((S 1046 0) + (1 : Int)))) = ((S 1046 0) + (1 : Int)) then ((if (S 1047 0) = 0 then ((S 1100007 (S 1046 0)) + sm_dl p1 (p2)) else 0)) else (S 1100007 (if ((S 1046 0) + (1 : Int)) = ((S 1046 0) + (1 : Int)) then ((if (S 1047 0) = 0 then (sm_nt p1 (S 1046 0) (S 1100023 (S 1046 0)) (S 1100023 (S 1100023 (S 1046 0)))) else 0)) else (S 1100023 ((S 1046 0) + (1 : Int)))))) = sm_nt p1 (S 1100007 (S 1046 0)) (S 1100007 (S 1100023 (S 1046 0))) (S 1100007 (S 1100023 (S 1100023 (S 1046 0)))) ∧ (p1 = 29 → (if (if ((S 1046 0) + (1 : Int)) = ((S 1046 0) + (1 : Int)) then ((if (S 1047 0) = 0 then (sm_nl p1 (S 1046 0) (S 1100007 (S 1046 0)) (S 1100025 (S 1046 0)) (S 1100007 (S 1100025 (S 1046 0))) (S 1100025 (S 1100025 (S 1046 0)))) else 0)) else (S 1100025 ((S 1046 0) + (1 : Int)))) = ((S 1046 0) + (1 : Int)) then ((if (S 1047 0) = 0 then ((S 1100007 (S 1046 0)) + sm_dl p1 (p2)) else 0)) else (S 1100007 (if ((S 1046 0) + (1 : Int)) = ((S 1046 0) + (1 : Int)) then ((if (S 1047 0) = 0 then (sm_nl p1 (S 1046 0) (S 1100007 (S 1046 0)) (S 1100025 (S 1046 0)) (S 1100007 (S 1100025 (S 1046 0))) (S 1100025 (S 1100025 (S 1046 0)))) else 0)) else (S 1100025 ((S 1046 0) + (1 : Int)))))) = (S 1100007 (S 1046 0))) ∧ (p1 = 17 → 0 ≤ (S 1100025 (S 1046 0)) → (S 1100007 (S 1100025 (S 1046 0))) = (S 1100007 (S 1046 0)) → (if (if ((S 1046 0) + (1 : Int)) = ((S 1046 0) + (1 : Int)) then ((if (S 1047 0) = 0 then (sm_nl p1 (S 1046 0) (S 1100007 (S 1046 0)) (S 1100025 (S 1046 0)) (S 1100007 (S 1100025 (S 1046 0))) (S 1100025 (S 1100025 (S 1046 0)))) else 0)) else (S 1100025 ((S 1046 0) + (1 : Int)))) = ((S 1046 0) + (1 : Int)) then ((if (S 1047 0) = 0 then ((S 1100007 (S 1046 0)) + sm_dl p1 (p2)) else 0)) else (S 1100007 (if ((S 1046 0) + (1 : Int)) = ((S 1046 0) + (1 : Int)) then ((if (S 1047 0) = 0 then (sm_nl p1 (S 1046 0) (S 1100007 (S 1046 0)) (S 1100025 (S 1046 0)) (S 1100007 (S 1100025 (S 1046 0))) (S 1100025 (S 1100025 (S 1046 0)))) else 0)) else (S 1100025 ((S 1046 0) + (1 : Int)))))) = (S 1100007 (S 1100025 (S 1100025 (S 1046 0))))) ∧ (¬ p1 = 29 → (p1 = 17 → 0 ≤ (S 1100025 (S 1046 0)) → (S 1100007 (S 1100025 (S 1046 0))) < (S 1100007 (S 1046 0))) → (if (if ((S 1046 0) + (1 : Int)) = ((S 1046 0) + (1 : Int)) then ((if (S 1047 0) = 0 then (sm_nl p1 (S 1046 0) (S 1100007 (S 1046 0)) (S 1100025 (S 1046 0)) (S 1100007 (S 1100025 (S 1046 0))) (S 1100025 (S 1100025 (S 1046 0)))) else 0)) else (S 1100025 ((S 1046 0) + (1 : Int)))) = ((S 1046 0) + (1 : Int)) then ((if (S 1047 0) = 0 then ((S 1100007 (S 1046 0)) + sm_dl p1 (p2)) else 0)) else (S 1100007 (if ((S 1046 0) + (1 : Int)) = ((S 1046 0) + (1 : Int)) then ((if (S 1047 0) = 0 then (sm_nl p1 (S 1046 0) (S 1100007 (S 1046 0)) (S 1100025 (S 1046 0)) (S 1100007 (S 1100025 (S 1046 0))) (S 1100025 (S 1100025 (S 1046 0)))) else 0)) else (S 1100025 ((S 1046 0) + (1 : Int)))))) = (S 1100007 (S 1100025 (S 1046 0))))) → (0 ≤ (S 1047 0) ∧ (S 1047 0) ≤ 1 ∧ 1 ≤ ((S 1046 0) + (1 : Int)) ∧ (S 1046 0) ≤ ((S 1046 0) + (1 : Int)) ∧ ((S 1046 0) + (1 : Int)) ≤ (S 1046 0) + 1 ∧ ((S 1046 0) + (1 : Int)) ≤ 600 ∧ ((S 1047 0) = 1 → (S 1047 0) = 1) ∧ ((S 1047 0) = 1 → (S 1047 0) = 1 ∨ (S 1046 0) = 600) ∧ sm_F1 (S 26) (fun i' : Int => if i' = (S 1046 0) then p1 else (S 26) i') (S 1046 0) ∧ sm_F1 (S 27) (fun i' : Int => if i' = (S 1046 0) then p2 else (S 27) i') (S 1046 0) ∧ sm_F1 (S 28) (fun i' : Int => if i' = (S 1046 0) then p3 else (S 28) i') (S 1046 0) ∧ sm_F1 (S 29) (fun i' : Int => if i' = (S 1046 0) then (S 1056 0) else (S 29) i') (S 1046 0) ∧ sm_F1 (S 1100007) (fun i' : Int => if i' = ((S 1046 0) + (1 : Int)) then ((if (S 1047 0) = 0 then ((S 1100007 (S 1046 0)) + sm_dl p1 (p2)) else 0)) else (S 1100007) i') ((S 1046 0) + 1) ∧ sm_F1 (S 1100023) (fun i' : Int => if i' = ((S 1046 0) + (1 : Int)) then ((if (S 1047 0) = 0 then (sm_nt p1 (S 1046 0) (S 1100023 (S 1046 0)) (S 1100023 (S 1100023 (S 1046 0)))) else 0)) else (S 1100023) i') ((S 1046 0) + 1) ∧ sm_F1 (S 1100024) (fun i' : Int => if i' = ((S 1046 0) + (1 : Int)) then ((if (S 1047 0) = 0 then (sm_nd p1 (S 1100024 (S 1046 0))) else 0)) else (S 1100024) i') ((S 1046 0) + 1) ∧ sm_F1 (S 1100025) (fun i' : Int => if i' = ((S 1046 0) + (1 : Int)) then ((if (S 1047 0) = 0 then (sm_nl p1 (S 1046 0) (S 1100007 (S 1046 0)) (S 1100025 (S 1046 0)) (S 1100007 (S 1100025 (S 1046 0))) (S 1100025 (S 1100025 (S 1046 0)))) else 0)) else (S 1100025) i') ((S 1046 0) + 1) ∧ ((S 1047 0) = 0 → (S 1047 0) = 0 ∧ ((S 1046 0) + (1 : Int)) = (S 1046 0) + 1 ∧ sm_KC (fun i' : Int => if i' = (S 1046 0) then p1 else (S 26) i') (fun i' : Int => if i' = (S 1046 0) then p2 else (S 27) i') (fun i' : Int => if i' = (S 1046 0) then p3 else (S 28) i') (fun i' : Int => if i' = (S 1046 0) then (S 1056 0) else (S 29) i') (fun i' : Int => if i' = ((S 1046 0) + (1 : Int)) then ((if (S 1047 0) = 0 then ((S 1100007 (S 1046 0)) + sm_dl p1 (p2)) else 0)) else (S 1100007) i') (fun i' : Int => if i' = ((S 1046 0) + (1 : Int)) then ((if (S 1047 0) = 0 then (sm_nt p1 (S 1046 0) (S 1100023 (S 1046 0)) (S 1100023 (S 1100023 (S 1046 0)))) else 0)) else (S 1100023) i') (fun i' : Int => if i' = ((S 1046 0) + (1 : Int)) then ((if (S 1047 0) = 0 then (sm_nd p1 (S 1100024 (S 1046 0))) else 0)) else (S 1100024) i') (fun i' : Int => if i' = ((S 1046 0) + (1 : Int)) then ((if (S 1047 0) = 0 then (sm_nl p1 (S 1046 0) (S 1100007 (S 1046 0)) (S 1100025 (S 1046 0)) (S 1100007 (S 1100025 (S 1046 0))) (S 1100025 (S 1100025 (S 1046 0)))) else 0)) else (S 1100025) i') (S 31) (S 1100009) (S 1100027) (S 1100028) (S 1100026) (S 1100030) (S 21) (S 32) (S 33) ((S 1046 0) + (1 : Int)) (S 1053 0) (S 1056 0) (S 1032 0) (S 1007 0) (S 1100033 0) ∧ sm_MB (S 31) (S 1100030) (S 1053 0) ((S 1046 0) + (1 : Int)) ∧ (if (S 1046 0) = (S 1046 0) then p1 else (S 26 (S 1046 0))) = p1 ∧ (if (S 1046 0) = (S 1046 0) then (S 1056 0) else (S 29 (S 1046 0))) = (S 1056 0) ∧ (if ((S 1046 0) + (1 : Int)) = ((S 1046 0) + (1 : Int)) then ((if (S 1047 0) = 0 then ((S 1100007 (S 1046 0)) + sm_dl p1 (p2)) else 0)) else (S 1100007 ((S 1046 0) + (1 : Int)))) = ((S 1100007 (S 1046 0)) + sm_dl p1 (p2)) ∧ (if ((S 1046 0) + (1 : Int)) = ((S 1046 0) + (1 : Int)) then ((if (S 1047 0) = 0 then (sm_nt p1 (S 1046 0) (S 1100023 (S 1046 0)) (S 1100023 (S 1100023 (S 1046 0)))) else 0)) else (S 1100023 ((S 1046 0) + (1 : Int)))) = (sm_nt p1 (S 1046 0) (S 1100023 (S 1046 0)) (S 1100023 (S 1100023 (S 1046 0)))) ∧ (if ((S 1046 0) + (1 : Int)) = ((S 1046 0) + (1 : Int)) then ((if (S 1047 0) = 0 then (sm_nd p1 (S 1100024 (S 1046 0))) else 0)) else (S 1100024 ((S 1046 0) + (1 : Int)))) = (sm_nd p1 (S 1100024 (S 1046 0))) ∧ (if ((S 1046 0) + (1 : Int)) = ((S 1046 0) + (1 : Int)) then ((if (S 1047 0) = 0 then (sm_nl p1 (S 1046 0) (S 1100007 (S 1046 0)) (S 1100025 (S 1046 0)) (S 1100007 (S 1100025 (S 1046 0))) (S 1100025 (S 1100025 (S 1046 0)))) else 0)) else (S 1100025 ((S 1046 0) + (1 : Int)))) = (sm_nl p1 (S 1046 0) (S 1100007 (S 1046 0)) (S 1100025 (S 1046 0)) (S 1100007 (S 1100025 (S 1046 0))) (S 1100025 (S 1100025 (S 1046 0)))) ∧ (if (if ((S 1046 0) + (1 : Int)) = ((S 1046 0) + (1 : Int)) then ((if (S 1047 0) = 0 then (sm_nt p1 (S 1046 0) (S 1100023 (S 1046 0)) (S 1100023 (S 1100023 (S 1046 0)))) else 0)) else (S 1100023 ((S 1046 0) + (1 : Int)))) = ((S 1046 0) + (1 : Int)) then ((if (S 1047 0) = 0 then ((S 1100007 (S 1046 0)) + sm_dl p1 (p2)) else 0)) else (S 1100007 (if ((S 1046 0) + (1 : Int)) = ((S 1046 0) + (1 : Int)) then ((if (S 1047 0) = 0 then (sm_nt p1 (S 1046 0) (S 1100023 (S 1046 0)) (S 1100023 (S 1100023 (S 1046 0)))) else 0)) else (S 1100023 ((S 1046 0) + (1 : Int)))))) = sm_nt p1 (S 1100007 (S 1046 0)) (S 1100007 (S 1100023 (S 1046 0))) (S 1100007 (S 1100023 (S 1100023 (S 1046 0)))) ∧ (p1 = 29 → (if (if ((S 1046 0) + (1 : Int)) = ((S 1046 0) + (1 : Int)) then ((if (S 1047 0) = 0 then (sm_nl p1 (S 1046 0) (S 1100007 (S 1046 0)) (S 1100025 (S 1046 0)) (S 1100007 (S 1100025 (S 1046 0))) (S 1100025 (S 1100025 (S 1046 0)))) else 0)) else (S 1100025 ((S 1046 0) + (1 : Int)))) = ((S 1046 0) + (1 : Int)) then ((if (S 1047 0) = 0 then ((S 1100007 (S 1046 0)) + sm_dl p1 (p2)) else 0)) else (S 1100007 (if ((S 1046 0) + (1 : Int)) = ((S 1046 0) + (1 : Int)) then ((if (S 1047 0) = 0 then (sm_nl p1 (S 1046 0) (S 1100007 (S 1046 0)) (S 1100025 (S 1046 0)) (S 1100007 (S 1100025 (S 1046 0))) (S 1100025 (S 1100025 (S 1046 0)))) else 0)) else (S 1100025 ((S 1046 0) + (1 : Int)))))) = (S 1100007 (S 1046 0))) ∧ (p1 = 17 → 0 ≤ (S 1100025 (S 1046 0)) → (S 1100007 (S 1100025 (S 1046 0))) = (S 1100007 (S 1046 0)) → (if (if ((S 1046 0) + (1 : Int)) = ((S 1046 0) + (1 : Int)) then ((if (S 1047 0) = 0 then (sm_nl p1 (S 1046 0) (S 1100007 (S 1046 0)) (S 1100025 (S 1046 0)) (S 1100007 (S 1100025 (S 1046 0))) (S 1100025 (S 1100025 (S 1046 0)))) else 0)) else (S 1100025 ((S 1046 0) + (1 : Int)))) = ((S 1046 0) + (1 : Int)) then ((if (S 1047 0) = 0 then ((S 1100007 (S 1046 0)) + sm_dl p1 (p2)) else 0)) else (S 1100007 (if ((S 1046 0) + (1 : Int)) = ((S 1046 0) + (1 : Int)) then ((if (S 1047 0) = 0 then (sm_nl p1 (S 1046 0) (S 1100007 (S 1046 0)) (S 1100025 (S 1046 0)) (S 1100007 (S 1100025 (S 1046 0))) (S 1100025 (S 1100025 (S 1046 0)))) else 0)) else (S 1100025 ((S 1046 0) + (1 : Int)))))) = (S 1100007 (S 1100025 (S 1100025 (S 1046 0))))) ∧ (¬ p1 = 29 → (p1 = 17 → 0 ≤ (S 1100025 (S 1046 0)) → (S 1100007 (S 1100025 (S 1046 0))) < (S 1100007 (S 1046 0))) → (if (if ((S 1046 0) + (1 : Int)) = ((S 1046 0) + (1 : Int)) then ((if (S 1047 0) = 0 then (sm_nl p1 (S 1046 0) (S 1100007 (S 1046 0)) (S 1100025 (S 1046 0)) (S 1100007 (S 1100025 (S 1046 0))) (S 1100025 (S 1100025 (S 1046 0)))) else 0)) else (S 1100025 ((S 1046 0) + (1 : Int)))) = ((S 1046 0) + (1 : Int)) then ((if (S 1047 0) = 0 then ((S 1100007 (S 1046 0)) + sm_dl p1 (p2)) else 0)) else (S 1100007 (if ((S 1046 0) + (1 : Int)) = ((S 1046 0) + (1 : Int)) then ((if (S 1047 0) = 0 then (sm_nl p1 (S 1046 0) (S 1100007 (S 1046 0)) (S 1100025 (S 1046 0)) (S 1100007 (S 1100025 (S 1046 0))) (S 1100025 (S 1100025 (S 1046 0)))) else 0)) else (S 1100025 ((S 1046 0) + (1 : Int)))))) = (S 1100007 (S 1100025 (S 1046 0)))))))))) ∧ ((¬ (¬ (S 1046 0) = (600 : Int))) → (0 ≤ (1 : Int) ∧ (1 : Int) ≤ 1 ∧ 1 ≤ (S 1046 0) ∧ (S 1046 0) ≤ (S 1046 0) ∧ (S 1046 0) ≤ (S 1046 0) + 1 ∧ (S 1046 0) ≤ 600 ∧ ((S 1047 0) = 1 → (1 : Int) = 1) ∧ ((1 : Int) = 1 → (S 1047 0) = 1 ∨ (S 1046 0) = 600) ∧ sm_F1 (S 26) (S 26) (S 1046 0) ∧ sm_F1 (S 27) (S 27) (S 1046 0) ∧ sm_F1 (S 28) (S 28) (S 1046 0) ∧ sm_F1 (S 29) (S 29) (S 1046 0) ∧ sm_F1 (S 1100007) (S 1100007) ((S 1046 0) + 1) ∧ sm_F1 (S 1100023) (S 1100023) ((S 1046 0) + 1) ∧ sm_F1 (S 1100024) (S 1100024) ((S 1046 0) + 1) ∧ sm_F1 (S 1100025) (S 1100025) ((S 1046 0) + 1) ∧ ((1 : Int) = 0 → (S 1047 0) = 0 ∧ (S 1046 0) = (S 1046 0) + 1 ∧ sm_KC (S 26) (S 27) (S 28) (S 29) (S 1100007) (S 1100023) (S 1100024) (S 1100025) (S 31) (S 1100009) (S 1100027) (S 1100028) (S 1100026) (S 1100030) (S 21) (S 32) (S 33) (S 1046 0) (S 1053 0) (S 1056 0) (S 1032 0) (S 1007 0) (S 1100033 0) ∧ sm_MB (S 31) (S 1100030) (S 1053 0) (S 1046 0) ∧ (S 26 (S 1046 0)) = p1 ∧ (S 29 (S 1046 0)) = (S 1056 0) ∧ (S 1100007 (S 1046 0)) = ((S 1100007 (S 1046 0)) + sm_dl p1 (p2)) ∧ (S 1100023 (S 1046 0)) = (sm_nt p1 (S 1046 0) (S 1100023 (S 1046 0)) (S 1100023 (S 1100023 (S 1046 0)))) ∧ (S 1100024 (S 1046 0)) = (sm_nd p1 (S 1100024 (S 1046 0))) ∧ (S 1100025 (S 1046 0)) = (sm_nl p1 (S 1046 0) (S 1100007 (S 1046 0)) (S 1100025 (S 1046 0)) (S 1100007 (S 1100025 (S 1046 0))) (S 1100025 (S 1100025 (S 1046 0)))) ∧ (S 1100007 (S 1100023 (S 1046 0))) = sm_nt p1 (S 1100007 (S 1046 0)) (S 1100007 (S 1100023 (S 1046 0))) (S 1100007 (S 1100023 (S 1100023 (S 1046 0)))) ∧ (p1 = 29 → (S 1100007 (S 1100025 (S 1046 0))) = (S 1100007 (S 1046 0))) ∧ (p1 = 17 → 0 ≤ (S 1100025 (S 1046 0)) → (S 1100007 (S 1100025 (S 1046 0))) = (S 1100007 (S 1046 0)) → (S 1100007 (S 1100025 (S 1046 0))) = (S 1100007 (S 1100025 (S 1100025 (S 1046 0))))) ∧ (¬ p1 = 29 → (p1 = 17 → 0 ≤ (S 1100025 (S 1046 0)) → (S 1100007 (S 1100025 (S 1046 0))) < (S 1100007 (S 1046 0))) → (S 1100007 (S 1100025 (S 1046 0))) = (S 1100007 (S 1100025 (S 1046 0))))))))) := by
  intro p1
  intro p2
  intro p3
  intro S
  intro h1_
  intro h2_
  intro h3_
  intro h4_
  rintro ⟨h5_, ⟨h6_, ⟨h7_, ⟨h8_, h9_⟩⟩⟩⟩
  intro h10_
  refine ⟨?_, ?_⟩
  · skip
    intro h11_
    intro h12_
    refine ⟨(la_emit_1 h5_ (la_emit_0 h6_ h11_)), ?_⟩
    intro h13_
    refine ⟨(la_emit_2 h5_ (la_emit_0 h6_ h11_)), ?_⟩
    refine ⟨?_, ?_⟩
    · skip
      by_cases c14_ : S 1047 0 = 0
      · skip
        have e15_ : (if S 1047 0 = 0 then S 1100007 (S 1046 0) + sm_dl p1 p2 else 0 : Int) = S 1100007 (S 1046 0) + sm_dl p1 p2 := if_pos c14_
        obtain ⟨h16_, ⟨h17_, ⟨h18_, ⟨h19_, ⟨h20_, h21_⟩⟩⟩⟩⟩ := (h9_ c14_)
        have h22_ := (h12_ c14_)
        have h23_ := (h22_ h16_)
        have h24_ := (h23_ (la_emit_0 h6_ h11_))
        have h25_ := (h24_ (la_emit_3 h17_ h18_))
        have h26_ := (h25_ h19_)
        have h27_ := (h26_ h20_)
        obtain ⟨h28_, ⟨h29_, ⟨h30_, ⟨h31_, ⟨h32_, ⟨h33_, ⟨h34_, h35_⟩⟩⟩⟩⟩⟩⟩ := (h27_ h21_)
        exact (la_emit_4 e15_ h28_ h29_)
      · skip
        have e36_ : (if S 1047 0 = 0 then S 1100007 (S 1046 0) + sm_dl p1 p2 else 0 : Int) = 0 := if_neg c14_
        exact (la_emit_6 e36_)
    refine ⟨?_, ?_⟩
    · skip
      by_cases c37_ : S 1047 0 = 0
      · skip
        have e38_ : (if S 1047 0 = 0 then sm_nt p1 (S 1046 0) (S 1100023 (S 1046 0)) (S 1100023 (S 1100023 (S 1046 0))) else 0 : Int) = sm_nt p1 (S 1046 0) (S 1100023 (S 1046 0)) (S 1100023 (S 1100023 (S 1046 0))) := if_pos c37_
        obtain ⟨h39_, ⟨h40_, ⟨h41_, ⟨h42_, ⟨h43_, h44_⟩⟩⟩⟩⟩ := (h9_ c37_)
        have h45_ := (h12_ c37_)
        have h46_ := (h45_ h39_)
        have h47_ := (h46_ (la_emit_0 h6_ h11_))
        have h48_ := (h47_ (la_emit_3 h40_ h41_))
        have h49_ := (h48_ h42_)
        have h50_ := (h49_ h43_)
        obtain ⟨h51_, ⟨h52_, ⟨h53_, ⟨h54_, ⟨h55_, ⟨h56_, ⟨h57_, h58_⟩⟩⟩⟩⟩⟩⟩ := (h50_ h44_)
        exact (la_emit_7 e38_ h53_ h54_)
      · skip
        have e59_ : (if S 1047 0 = 0 then sm_nt p1 (S 1046 0) (S 1100023 (S 1046 0)) (S 1100023 (S 1100023 (S 1046 0))) else 0 : Int) = 0 := if_neg c37_
        exact (la_emit_6 e59_)
    refine ⟨?_, ?_⟩
    · skip
      by_cases c60_ : S 1047 0 = 0
      · skip
        have e61_ : (if S 1047 0 = 0 then sm_nd p1 (S 1100024 (S 1046 0)) else 0 : Int) = sm_nd p1 (S 1100024 (S 1046 0)) := if_pos c60_
        obtain ⟨h62_, ⟨h63_, ⟨h64_, ⟨h65_, ⟨h66_, h67_⟩⟩⟩⟩⟩ := (h9_ c60_)
        have h68_ := (h12_ c60_)
        have h69_ := (h68_ h62_)
        have h70_ := (h69_ (la_emit_0 h6_ h11_))
        have h71_ := (h70_ (la_emit_3 h63_ h64_))
        have h72_ := (h71_ h65_)
        have h73_ := (h72_ h66_)
        obtain ⟨h74_, ⟨h75_, ⟨h76_, ⟨h77_, ⟨h78_, ⟨h79_, ⟨h80_, h81_⟩⟩⟩⟩⟩⟩⟩ := (h73_ h67_)
        exact (la_emit_8 e61_ h78_ h79_)
      · skip
        have e82_ : (if S 1047 0 = 0 then sm_nd p1 (S 1100024 (S 1046 0)) else 0 : Int) = 0 := if_neg c60_
        exact (la_emit_6 e82_)
    refine ⟨?_, ?_⟩
    · skip
      by_cases c83_ : S 1047 0 = 0
      · skip
        have e84_ : (if S 1047 0 = 0 then sm_nl p1 (S 1046 0) (S 1100007 (S 1046 0)) (S 1100025 (S 1046 0)) (S 1100007 (S 1100025 (S 1046 0))) (S 1100025 (S 1100025 (S 1046 0))) else 0 : Int) = sm_nl p1 (S 1046 0) (S 1100007 (S 1046 0)) (S 1100025 (S 1046 0)) (S 1100007 (S 1100025 (S 1046 0))) (S 1100025 (S 1100025 (S 1046 0))) := if_pos c83_
        obtain ⟨h85_, ⟨h86_, ⟨h87_, ⟨h88_, ⟨h89_, h90_⟩⟩⟩⟩⟩ := (h9_ c83_)
        have h91_ := (h12_ c83_)
        have h92_ := (h91_ h85_)
        have h93_ := (h92_ (la_emit_0 h6_ h11_))
        have h94_ := (h93_ (la_emit_3 h86_ h87_))
        have h95_ := (h94_ h88_)
        have h96_ := (h95_ h89_)
        obtain ⟨h97_, ⟨h98_, ⟨h99_, ⟨h100_, ⟨h101_, ⟨h102_, ⟨h103_, h104_⟩⟩⟩⟩⟩⟩⟩ := (h96_ h90_)
        exact (la_emit_7 e84_ h103_ h104_)
      · skip
        have e105_ : (if S 1047 0 = 0 then sm_nl p1 (S 1046 0) (S 1100007 (S 1046 0)) (S 1100025 (S 1046 0)) (S 1100007 (S 1100025 (S 1046 0))) (S 1100025 (S 1100025 (S 1046 0))) else 0 : Int) = 0 := if_neg c83_
        exact (la_emit_6 e105_)
    intro h106_
    have e107_ : (if S 1046 0 + 1 = S 1046 0 + 1 then (if S 1047 0 = 0 then sm_nt p1 (S 1046 0) (S 1100023 (S 1046 0)) (S 1100023 (S 1100023 (S 1046 0))) else 0) else S 1100023 (S 1046 0 + 1) : Int) = (if S 1047 0 = 0 then sm_nt p1 (S 1046 0) (S 1100023 (S 1046 0)) (S 1100023 (S 1100023 (S 1046 0))) else 0) := if_pos la_emit_9
    have e108_ : (if S 1046 0 + 1 = S 1046 0 + 1 then (if S 1047 0 = 0 then sm_nl p1 (S 1046 0) (S 1100007 (S 1046 0)) (S 1100025 (S 1046 0)) (S 1100007 (S 1100025 (S 1046 0))) (S 1100025 (S 1100025 (S 1046 0))) else 0) else S 1100025 (S 1046 0 + 1) : Int) = (if S 1047 0 = 0 then sm_nl p1 (S 1046 0) (S 1100007 (S 1046 0)) (S 1100025 (S 1046 0)) (S 1100007 (S 1100025 (S 1046 0))) (S 1100025 (S 1100025 (S 1046 0))) else 0) := if_pos la_emit_9
    refine ⟨h7_, ?_⟩
    refine ⟨h8_, ?_⟩
    refine ⟨(la_emit_10 h5_), ?_⟩
    refine ⟨la_emit_11, ?_⟩
    refine ⟨la_emit_12, ?_⟩
    refine ⟨(la_emit_13 (la_emit_0 h6_ h11_)), ?_⟩
    refine ⟨la_emit_14, ?_⟩
    refine ⟨(la_emit_15 (la_emit_0 h6_ h11_)), ?_⟩
    refine ⟨(sm_F1_up sm_F1_rf (Int.le_refl _)), ?_⟩
    refine ⟨(sm_F1_up sm_F1_rf (Int.le_refl _)), ?_⟩
    refine ⟨(sm_F1_up sm_F1_rf (Int.le_refl _)), ?_⟩
    refine ⟨(sm_F1_up sm_F1_rf (Int.le_refl _)), ?_⟩
    refine ⟨(sm_F1_up sm_F1_rf (Int.le_refl _)), ?_⟩
    refine ⟨(sm_F1_up sm_F1_rf (Int.le_refl _)), ?_⟩
    refine ⟨(sm_F1_up sm_F1_rf (Int.le_refl _)), ?_⟩
    refine ⟨(sm_F1_up sm_F1_rf (Int.le_refl _)), ?_⟩
    intro h109_
    have e110_ : (if S 1047 0 = 0 then S 1100007 (S 1046 0) + sm_dl p1 p2 else 0 : Int) = S 1100007 (S 1046 0) + sm_dl p1 p2 := if_pos h109_
    have e111_ : (if S 1047 0 = 0 then sm_nt p1 (S 1046 0) (S 1100023 (S 1046 0)) (S 1100023 (S 1100023 (S 1046 0))) else 0 : Int) = sm_nt p1 (S 1046 0) (S 1100023 (S 1046 0)) (S 1100023 (S 1100023 (S 1046 0))) := if_pos h109_
    have e112_ : (if S 1047 0 = 0 then sm_nl p1 (S 1046 0) (S 1100007 (S 1046 0)) (S 1100025 (S 1046 0)) (S 1100007 (S 1100025 (S 1046 0))) (S 1100025 (S 1100025 (S 1046 0))) else 0 : Int) = sm_nl p1 (S 1046 0) (S 1100007 (S 1046 0)) (S 1100025 (S 1046 0)) (S 1100007 (S 1100025 (S 1046 0))) (S 1100025 (S 1100025 (S 1046 0))) := if_pos h109_
    obtain ⟨h113_, ⟨h114_, ⟨h115_, ⟨h116_, ⟨h117_, h118_⟩⟩⟩⟩⟩ := (h9_ h109_)
    have h119_ := (h12_ h109_)
    have h120_ := (h106_ h109_)
    have h121_ := (h119_ h113_)
    have h122_ := (h120_ h113_)
    have h123_ := (h121_ (la_emit_0 h6_ h11_))
    have h124_ := (h122_ (la_emit_0 h6_ h11_))
    have h125_ := (h123_ (la_emit_3 h114_ h115_))
    have h126_ := (h124_ (la_emit_3 h114_ h115_))
    have h127_ := (h125_ h116_)
    have h128_ := (h126_ h116_)
    have h129_ := (h127_ h117_)
    have h130_ := (h128_ h117_)
    obtain ⟨h131_, ⟨h132_, ⟨h133_, ⟨h134_, ⟨h135_, ⟨h136_, ⟨h137_, h138_⟩⟩⟩⟩⟩⟩⟩ := (h129_ h118_)
    obtain ⟨h139_, ⟨h140_, ⟨h141_, ⟨h142_, ⟨h143_, h144_⟩⟩⟩⟩⟩ := (h130_ h118_)
    refine ⟨h109_, ?_⟩
    refine ⟨la_emit_9, ?_⟩
    refine ⟨h139_, ?_⟩
    refine ⟨h140_, ?_⟩
    refine ⟨?_, ?_⟩
    · skip
      have e145_ : (if S 1046 0 = S 1046 0 then p1 else S 26 (S 1046 0) : Int) = p1 := if_pos la_emit_16
      exact e145_
    refine ⟨?_, ?_⟩
    · skip
      have e146_ : (if S 1046 0 = S 1046 0 then S 1056 0 else S 29 (S 1046 0) : Int) = S 1056 0 := if_pos la_emit_16
      exact e146_
    refine ⟨?_, ?_⟩
    · skip
      have e147_ : (if S 1046 0 + 1 = S 1046 0 + 1 then (if S 1047 0 = 0 then S 1100007 (S 1046 0) + sm_dl p1 p2 else 0) else S 1100007 (S 1046 0 + 1) : Int) = (if S 1047 0 = 0 then S 1100007 (S 1046 0) + sm_dl p1 p2 else 0) := if_pos la_emit_9
      exact (la_emit_17 e110_ e147_)
    refine ⟨(la_emit_18 e107_ e111_), ?_⟩
    refine ⟨?_, ?_⟩
    · skip
      have e148_ : (if S 1046 0 + 1 = S 1046 0 + 1 then (if S 1047 0 = 0 then sm_nd p1 (S 1100024 (S 1046 0)) else 0) else S 1100024 (S 1046 0 + 1) : Int) = (if S 1047 0 = 0 then sm_nd p1 (S 1100024 (S 1046 0)) else 0) := if_pos la_emit_9
      have e149_ : (if S 1047 0 = 0 then sm_nd p1 (S 1100024 (S 1046 0)) else 0 : Int) = sm_nd p1 (S 1100024 (S 1046 0)) := if_pos h109_
      exact (la_emit_18 e148_ e149_)
    refine ⟨(la_emit_18 e108_ e112_), ?_⟩
    refine ⟨h141_, ?_⟩
    refine ⟨h142_, ?_⟩
    refine ⟨h143_, ?_⟩
    intro h150_
    have h151_ := ((sm_nl_o (op := p1) (k := S 1046 0) (H := S 1100007 (S 1046 0)) (L := S 1100025 (S 1046 0)) (hL := S 1100007 (S 1100025 (S 1046 0))) (lL := S 1100025 (S 1100025 (S 1046 0)))) h150_)
    have h152_ := (h144_ h150_)
    intro h153_
    have h154_ := (h152_ h153_)
    exact h154_
  intro h155_
  refine ⟨la_emit_19, ?_⟩
  refine ⟨la_emit_20, ?_⟩
  refine ⟨(la_emit_21 h155_), ?_⟩
  refine ⟨la_emit_22, ?_⟩
  refine ⟨la_emit_11, ?_⟩
  refine ⟨h6_, ?_⟩
  refine ⟨la_emit_23, ?_⟩
  refine ⟨(la_emit_24 h6_ h8_ h155_), ?_⟩
  refine ⟨sm_F1_rf, ?_⟩
  refine ⟨sm_F1_rf, ?_⟩
  refine ⟨sm_F1_rf, ?_⟩
  refine ⟨sm_F1_rf, ?_⟩
  refine ⟨sm_F1_rf, ?_⟩
  refine ⟨sm_F1_rf, ?_⟩
  refine ⟨sm_F1_rf, ?_⟩
  refine ⟨sm_F1_rf, ?_⟩
  intro h156_
  refine ⟨(la_emit_25 h156_), ?_⟩
  refine ⟨(la_emit_26 h156_), ?_⟩
  refine ⟨?_, ?_⟩
  · skip
    obtain ⟨h157_, ⟨h158_, ⟨h159_, ⟨h160_, ⟨h161_, h162_⟩⟩⟩⟩⟩ := (h9_ (la_emit_25 h156_))
    exact h157_
  refine ⟨?_, ?_⟩
  · skip
    exact ((la_emit_27 h156_)).elim
  refine ⟨(la_emit_28 h156_), ?_⟩
  refine ⟨(la_emit_28 h156_), ?_⟩
  refine ⟨(la_emit_29 h156_), ?_⟩
  refine ⟨(la_emit_28 h156_), ?_⟩
  refine ⟨(la_emit_28 h156_), ?_⟩
  refine ⟨(la_emit_28 h156_), ?_⟩
  refine ⟨(la_emit_28 h156_), ?_⟩
  refine ⟨(la_emit_30 h156_), ?_⟩
  refine ⟨(la_emit_31 h156_), ?_⟩
  intro h163_
  intro h164_
  have h165_ := (h164_ (la_emit_34 h156_))
  have h166_ := (h165_ (la_emit_35 h156_))
  exact la_emit_16
set_option maxRecDepth 8000 in
set_option maxHeartbeats 2000000 in
theorem t_emit : ∀ (p1 : Int) (p2 : Int) (p3 : Int) (S : sv_S), sm_ok S → sv_R p1 → sv_R p2 → sv_R p3 → (0 ≤ (S 1046 0) ∧ (S 1046 0) ≤ 600 ∧ 0 ≤ (S 1047 0) ∧ (S 1047 0) ≤ 1 ∧ ((S 1047 0) = 0 → sm_KC (S 26) (S 27) (S 28) (S 29) (S 1100007) (S 1100023) (S 1100024) (S 1100025) (S 31) (S 1100009) (S 1100027) (S 1100028) (S 1100026) (S 1100030) (S 21) (S 32) (S 33) (S 1046 0) (S 1053 0) (S 1056 0) (S 1032 0) (S 1007 0) (S 1100033 0) ∧ 0 ≤ p1 ∧ p1 ≤ 30 ∧ sm_ci p1 (p2) (p3) (S 1100007 (S 1046 0)) (S 1100023 (S 1046 0)) (S 1100024 (S 1046 0)) (S 1100025 (S 1046 0)) (S 1100007 (S 1100023 (S 1046 0))) (S 1100007 (S 1100025 (S 1046 0))) (S 1100023 (S 1100023 (S 1046 0))) (S 1100025 (S 1100025 (S 1046 0))) (S 1046 0) (S 1100033 0) (S 1032 0) (S 1007 0) (S 21 p2) (S 1056 0) ((S 1100007 (S 1046 0)) + sm_dl p1 (p2)) (sm_nt p1 (S 1046 0) (S 1100023 (S 1046 0)) (S 1100023 (S 1100023 (S 1046 0)))) (sm_nl p1 (S 1046 0) (S 1100007 (S 1046 0)) (S 1100025 (S 1046 0)) (S 1100007 (S 1100025 (S 1046 0))) (S 1100025 (S 1100025 (S 1046 0)))) (S 1100009 p2) (S 1100027 p2) (S 1100028 p2) ∧ ((21 ≤ p1 ∧ p1 ≤ 24) ∨ p1 = 27 ∨ p1 = 30 → 0 ≤ p2 ∧ p2 < (S 1053 0) ∧ (S 1100026 p2) = (S 1056 0)) ∧ (p1 = 1 ∨ p1 = 2 → sm_vv (S 21) (S 32) (S 33) (S 1056 0) p2 p3))) → sv_T sm_XS sm_cs sm_L sm_sh 0 (q_emit p1 p2 p3 S) 82 0 (lv_args 0 [.ref 0, sv_I p1, sv_I p2, sv_I p3]) [] S := by
  intro p1 p2 p3 S hok hp1 hp2 hp3 hpre
  have h := f_emit p1 p2 p3 S hok hp1 hp2 hp3 hpre
  have hM := sm_h82
  show sv_T sm_XS sm_cs sm_L sm_sh 0 (q_emit p1 p2 p3 S) 82 0 [(0, .ref 0), (1, sv_I p1), (2, sv_I p2), (3, sv_I p3)] [] S
  refine sv_aload_n hM dX12_emit_0 rfl rfl ?_
  have k1 : sv_R (S 1046 0) := sm_okI hok sm_r1046 0
  have h := h k1
  refine sv_getI hM dX12_emit_1 sm_fl_606 (sm_a0 _) sm_k46 rfl (x := (S 1046 0)) rfl ?_
  refine sv_sipush (d := (600 : Int)) hM dX12_emit_4 rfl rfl ?_
  refine sv_icmp_ne hM dX12_emit_7 k1 (⟨by decide, by decide⟩ : sv_R (600 : Int)) (t := 16) rfl rfl (fun hc => ?_) (fun hc => ?_)
  · have h := h.1 (hc)
    have k2 : ((S 1047 0) = 0 → sm_KC (S 26) (S 27) (S 28) (S 29) (S 1100007) (S 1100023) (S 1100024) (S 1100025) (S 31) (S 1100009) (S 1100027) (S 1100028) (S 1100026) (S 1100030) (S 21) (S 32) (S 33) (S 1046 0) (S 1053 0) (S 1056 0) (S 1032 0) (S 1007 0) (S 1100033 0) → (S 1046 0) < 600 → 0 ≤ p1 ∧ p1 ≤ 30 → sm_ci p1 (p2) (p3) (S 1100007 (S 1046 0)) (S 1100023 (S 1046 0)) (S 1100024 (S 1046 0)) (S 1100025 (S 1046 0)) (S 1100007 (S 1100023 (S 1046 0))) (S 1100007 (S 1100025 (S 1046 0))) (S 1100023 (S 1100023 (S 1046 0))) (S 1100025 (S 1100025 (S 1046 0))) (S 1046 0) (S 1100033 0) (S 1032 0) (S 1007 0) (S 21 p2) (S 1056 0) ((S 1100007 (S 1046 0)) + sm_dl p1 (p2)) (sm_nt p1 (S 1046 0) (S 1100023 (S 1046 0)) (S 1100023 (S 1100023 (S 1046 0)))) (sm_nl p1 (S 1046 0) (S 1100007 (S 1046 0)) (S 1100025 (S 1046 0)) (S 1100007 (S 1100025 (S 1046 0))) (S 1100025 (S 1100025 (S 1046 0)))) (S 1100009 p2) (S 1100027 p2) (S 1100028 p2) → ((21 ≤ p1 ∧ p1 ≤ 24) ∨ p1 = 27 ∨ p1 = 30 → 0 ≤ p2 ∧ p2 < (S 1053 0) ∧ (S 1100026 p2) = (S 1056 0)) → (p1 = 1 ∨ p1 = 2 → sm_vv (S 21) (S 32) (S 33) (S 1056 0) p2 p3) → 0 ≤ ((S 1100007 (S 1046 0)) + sm_dl p1 (p2)) ∧ ((S 1100007 (S 1046 0)) + sm_dl p1 (p2)) ≤ 603 ∧ -1 ≤ (sm_nt p1 (S 1046 0) (S 1100023 (S 1046 0)) (S 1100023 (S 1100023 (S 1046 0)))) ∧ (sm_nt p1 (S 1046 0) (S 1100023 (S 1046 0)) (S 1100023 (S 1100023 (S 1046 0)))) ≤ 600 ∧ 0 ≤ (sm_nd p1 (S 1100024 (S 1046 0))) ∧ (sm_nd p1 (S 1100024 (S 1046 0))) ≤ 40 ∧ -1 ≤ (sm_nl p1 (S 1046 0) (S 1100007 (S 1046 0)) (S 1100025 (S 1046 0)) (S 1100007 (S 1100025 (S 1046 0))) (S 1100025 (S 1100025 (S 1046 0)))) ∧ (sm_nl p1 (S 1046 0) (S 1100007 (S 1046 0)) (S 1100025 (S 1046 0)) (S 1100007 (S 1100025 (S 1046 0))) (S 1100025 (S 1100025 (S 1046 0)))) ≤ 600) := fun _ h hn ho e ej ev => sm_KC_x h hn ho e ej ev
    have h := h k2
    refine sv_aload_n hM dX12_emit_16 rfl rfl ?_
    refine sv_getA hM dX12_emit_17 sm_fl_89 (sm_a0 _) sm_k48 rfl ?_
    refine sv_aload_n hM dX12_emit_20 rfl rfl ?_
    refine sv_getI hM dX12_emit_21 sm_fl_606 (sm_a0 _) sm_k46 rfl (x := (S 1046 0)) rfl ?_
    refine sv_iload_n hM dX12_emit_24 rfl rfl ?_
    obtain ⟨o3, h⟩ := h
    refine sv_iast sm_X hM dX12_emit_25 (sm_a26 _) (by decide) o3.1 o3.2 rfl ?_
    have ok4 : sm_ok (sv_up S 26 (S 1046 0) p1) := sm_upI hok sm_r26 hp1
    have md5 : sv_mod [26, 27, 28, 29, 1046, 1047, 1100007, 1100023, 1100024, 1100025] S (sv_up S 26 (S 1046 0) p1) := sv_mod.up sv_mod.rf (by decide)
    refine sv_aload_n hM dX12_emit_26 rfl rfl ?_
    refine sv_getA hM dX12_emit_27 sm_fl_92 (sm_a0 _) sm_k49 rfl ?_
    refine sv_aload_n hM dX12_emit_30 rfl rfl ?_
    refine sv_getI hM dX12_emit_31 sm_fl_606 (sm_a0 _) sm_k46 rfl (x := (S 1046 0)) rfl ?_
    refine sv_iload_n hM dX12_emit_34 rfl rfl ?_
    refine sv_iast sm_X hM dX12_emit_35 (sm_a27 _) (by decide) o3.1 o3.2 rfl ?_
    have ok6 : sm_ok (sv_up (sv_up S 26 (S 1046 0) p1) 27 (S 1046 0) p2) := sm_upI ok4 sm_r27 hp2
    have md7 : sv_mod [26, 27, 28, 29, 1046, 1047, 1100007, 1100023, 1100024, 1100025] S (sv_up (sv_up S 26 (S 1046 0) p1) 27 (S 1046 0) p2) := sv_mod.up md5 (by decide)
    refine sv_aload_n hM dX12_emit_36 rfl rfl ?_
    refine sv_getA hM dX12_emit_37 sm_fl_95 (sm_a0 _) sm_k50 rfl ?_
    refine sv_aload_n hM dX12_emit_40 rfl rfl ?_
    refine sv_getI hM dX12_emit_41 sm_fl_606 (sm_a0 _) sm_k46 rfl (x := (S 1046 0)) rfl ?_
    refine sv_iload_n hM dX12_emit_44 rfl rfl ?_
    refine sv_iast sm_X hM dX12_emit_45 (sm_a28 _) (by decide) o3.1 o3.2 rfl ?_
    have ok8 : sm_ok (sv_up (sv_up (sv_up S 26 (S 1046 0) p1) 27 (S 1046 0) p2) 28 (S 1046 0) p3) := sm_upI ok6 sm_r28 hp3
    have md9 : sv_mod [26, 27, 28, 29, 1046, 1047, 1100007, 1100023, 1100024, 1100025] S (sv_up (sv_up (sv_up S 26 (S 1046 0) p1) 27 (S 1046 0) p2) 28 (S 1046 0) p3) := sv_mod.up md7 (by decide)
    refine sv_aload_n hM dX12_emit_46 rfl rfl ?_
    refine sv_getA hM dX12_emit_47 sm_fl_98 (sm_a0 _) sm_k51 rfl ?_
    refine sv_aload_n hM dX12_emit_50 rfl rfl ?_
    refine sv_getI hM dX12_emit_51 sm_fl_606 (sm_a0 _) sm_k46 rfl (x := (S 1046 0)) rfl ?_
    refine sv_aload_n hM dX12_emit_54 rfl rfl ?_
    have k10 : sv_R (S 1056 0) := sm_okI ok8 sm_r1056 0
    have h := h k10
    refine sv_getI hM dX12_emit_55 sm_fl_612 (sm_a0 _) sm_k56 rfl (x := (S 1056 0)) rfl ?_
    refine sv_iast sm_X hM dX12_emit_58 (sm_a29 _) (by decide) o3.1 o3.2 rfl ?_
    have ok11 : sm_ok (sv_up (sv_up (sv_up (sv_up S 26 (S 1046 0) p1) 27 (S 1046 0) p2) 28 (S 1046 0) p3) 29 (S 1046 0) (S 1056 0)) := sm_upI ok8 sm_r29 k10
    have md12 : sv_mod [26, 27, 28, 29, 1046, 1047, 1100007, 1100023, 1100024, 1100025] S (sv_up (sv_up (sv_up (sv_up S 26 (S 1046 0) p1) 27 (S 1046 0) p2) 28 (S 1046 0) p3) 29 (S 1046 0) (S 1056 0)) := sv_mod.up md9 (by decide)
    refine sv_aload_n hM dX12_emit_59 rfl rfl ?_
    refine sv_dupA hM dX12_emit_60 rfl ?_
    refine sv_getI hM dX12_emit_61 sm_fl_606 (sm_a0 _) sm_k46 rfl (x := (S 1046 0)) rfl ?_
    refine sv_iconst (d := (1 : Int)) hM dX12_emit_64 rfl rfl ?_
    refine sv_iadd hM dX12_emit_65 rfl ?_
    obtain ⟨o13, h⟩ := h
    refine sv_putI sm_X hM dX12_emit_66 sm_fp_606 (sm_a0 _) sm_q46 (Or.inl rfl) rfl rfl rfl rfl ?_
    have ok14 : sm_ok (sv_up (sv_up (sv_up (sv_up (sv_up S 26 (S 1046 0) p1) 27 (S 1046 0) p2) 28 (S 1046 0) p3) 29 (S 1046 0) (S 1056 0)) 1046 0 ((S 1046 0) + (1 : Int))) := sm_upI ok11 sm_r1046 o13
    have md15 : sv_mod [26, 27, 28, 29, 1046, 1047, 1100007, 1100023, 1100024, 1100025] S (sv_up (sv_up (sv_up (sv_up (sv_up S 26 (S 1046 0) p1) 27 (S 1046 0) p2) 28 (S 1046 0) p3) 29 (S 1046 0) (S 1056 0)) 1046 0 ((S 1046 0) + (1 : Int))) := sv_mod.up md12 (by decide)
    obtain ⟨o16, h⟩ := h
    refine sv_ghost sm_X 1100007 ((S 1046 0) + (1 : Int)) ((if (S 1047 0) = 0 then ((S 1100007 (S 1046 0)) + sm_dl p1 (p2)) else 0)) (by decide) ?_
    have ok17 : sm_ok (sv_up (sv_up (sv_up (sv_up (sv_up (sv_up S 26 (S 1046 0) p1) 27 (S 1046 0) p2) 28 (S 1046 0) p3) 29 (S 1046 0) (S 1056 0)) 1046 0 ((S 1046 0) + (1 : Int))) 1100007 ((S 1046 0) + (1 : Int)) ((if (S 1047 0) = 0 then ((S 1100007 (S 1046 0)) + sm_dl p1 (p2)) else 0))) := sm_upI ok14 sm_r1100007 o16
    have md18 : sv_mod [26, 27, 28, 29, 1046, 1047, 1100007, 1100023, 1100024, 1100025] S (sv_up (sv_up (sv_up (sv_up (sv_up (sv_up S 26 (S 1046 0) p1) 27 (S 1046 0) p2) 28 (S 1046 0) p3) 29 (S 1046 0) (S 1056 0)) 1046 0 ((S 1046 0) + (1 : Int))) 1100007 ((S 1046 0) + (1 : Int)) ((if (S 1047 0) = 0 then ((S 1100007 (S 1046 0)) + sm_dl p1 (p2)) else 0))) := sv_mod.up md15 (by decide)
    obtain ⟨o19, h⟩ := h
    refine sv_ghost sm_X 1100023 ((S 1046 0) + (1 : Int)) ((if (S 1047 0) = 0 then (sm_nt p1 (S 1046 0) (S 1100023 (S 1046 0)) (S 1100023 (S 1100023 (S 1046 0)))) else 0)) (by decide) ?_
    have ok20 : sm_ok (sv_up (sv_up (sv_up (sv_up (sv_up (sv_up (sv_up S 26 (S 1046 0) p1) 27 (S 1046 0) p2) 28 (S 1046 0) p3) 29 (S 1046 0) (S 1056 0)) 1046 0 ((S 1046 0) + (1 : Int))) 1100007 ((S 1046 0) + (1 : Int)) ((if (S 1047 0) = 0 then ((S 1100007 (S 1046 0)) + sm_dl p1 (p2)) else 0))) 1100023 ((S 1046 0) + (1 : Int)) ((if (S 1047 0) = 0 then (sm_nt p1 (S 1046 0) (S 1100023 (S 1046 0)) (S 1100023 (S 1100023 (S 1046 0)))) else 0))) := sm_upI ok17 sm_r1100023 o19
    have md21 : sv_mod [26, 27, 28, 29, 1046, 1047, 1100007, 1100023, 1100024, 1100025] S (sv_up (sv_up (sv_up (sv_up (sv_up (sv_up (sv_up S 26 (S 1046 0) p1) 27 (S 1046 0) p2) 28 (S 1046 0) p3) 29 (S 1046 0) (S 1056 0)) 1046 0 ((S 1046 0) + (1 : Int))) 1100007 ((S 1046 0) + (1 : Int)) ((if (S 1047 0) = 0 then ((S 1100007 (S 1046 0)) + sm_dl p1 (p2)) else 0))) 1100023 ((S 1046 0) + (1 : Int)) ((if (S 1047 0) = 0 then (sm_nt p1 (S 1046 0) (S 1100023 (S 1046 0)) (S 1100023 (S 1100023 (S 1046 0)))) else 0))) := sv_mod.up md18 (by decide)
    obtain ⟨o22, h⟩ := h
    refine sv_ghost sm_X 1100024 ((S 1046 0) + (1 : Int)) ((if (S 1047 0) = 0 then (sm_nd p1 (S 1100024 (S 1046 0))) else 0)) (by decide) ?_
    have ok23 : sm_ok (sv_up (sv_up (sv_up (sv_up (sv_up (sv_up (sv_up (sv_up S 26 (S 1046 0) p1) 27 (S 1046 0) p2) 28 (S 1046 0) p3) 29 (S 1046 0) (S 1056 0)) 1046 0 ((S 1046 0) + (1 : Int))) 1100007 ((S 1046 0) + (1 : Int)) ((if (S 1047 0) = 0 then ((S 1100007 (S 1046 0)) + sm_dl p1 (p2)) else 0))) 1100023 ((S 1046 0) + (1 : Int)) ((if (S 1047 0) = 0 then (sm_nt p1 (S 1046 0) (S 1100023 (S 1046 0)) (S 1100023 (S 1100023 (S 1046 0)))) else 0))) 1100024 ((S 1046 0) + (1 : Int)) ((if (S 1047 0) = 0 then (sm_nd p1 (S 1100024 (S 1046 0))) else 0))) := sm_upI ok20 sm_r1100024 o22
    have md24 : sv_mod [26, 27, 28, 29, 1046, 1047, 1100007, 1100023, 1100024, 1100025] S (sv_up (sv_up (sv_up (sv_up (sv_up (sv_up (sv_up (sv_up S 26 (S 1046 0) p1) 27 (S 1046 0) p2) 28 (S 1046 0) p3) 29 (S 1046 0) (S 1056 0)) 1046 0 ((S 1046 0) + (1 : Int))) 1100007 ((S 1046 0) + (1 : Int)) ((if (S 1047 0) = 0 then ((S 1100007 (S 1046 0)) + sm_dl p1 (p2)) else 0))) 1100023 ((S 1046 0) + (1 : Int)) ((if (S 1047 0) = 0 then (sm_nt p1 (S 1046 0) (S 1100023 (S 1046 0)) (S 1100023 (S 1100023 (S 1046 0)))) else 0))) 1100024 ((S 1046 0) + (1 : Int)) ((if (S 1047 0) = 0 then (sm_nd p1 (S 1100024 (S 1046 0))) else 0))) := sv_mod.up md21 (by decide)
    obtain ⟨o25, h⟩ := h
    refine sv_ghost sm_X 1100025 ((S 1046 0) + (1 : Int)) ((if (S 1047 0) = 0 then (sm_nl p1 (S 1046 0) (S 1100007 (S 1046 0)) (S 1100025 (S 1046 0)) (S 1100007 (S 1100025 (S 1046 0))) (S 1100025 (S 1100025 (S 1046 0)))) else 0)) (by decide) ?_
    have ok26 : sm_ok (sv_up (sv_up (sv_up (sv_up (sv_up (sv_up (sv_up (sv_up (sv_up S 26 (S 1046 0) p1) 27 (S 1046 0) p2) 28 (S 1046 0) p3) 29 (S 1046 0) (S 1056 0)) 1046 0 ((S 1046 0) + (1 : Int))) 1100007 ((S 1046 0) + (1 : Int)) ((if (S 1047 0) = 0 then ((S 1100007 (S 1046 0)) + sm_dl p1 (p2)) else 0))) 1100023 ((S 1046 0) + (1 : Int)) ((if (S 1047 0) = 0 then (sm_nt p1 (S 1046 0) (S 1100023 (S 1046 0)) (S 1100023 (S 1100023 (S 1046 0)))) else 0))) 1100024 ((S 1046 0) + (1 : Int)) ((if (S 1047 0) = 0 then (sm_nd p1 (S 1100024 (S 1046 0))) else 0))) 1100025 ((S 1046 0) + (1 : Int)) ((if (S 1047 0) = 0 then (sm_nl p1 (S 1046 0) (S 1100007 (S 1046 0)) (S 1100025 (S 1046 0)) (S 1100007 (S 1100025 (S 1046 0))) (S 1100025 (S 1100025 (S 1046 0)))) else 0))) := sm_upI ok23 sm_r1100025 o25
    have md27 : sv_mod [26, 27, 28, 29, 1046, 1047, 1100007, 1100023, 1100024, 1100025] S (sv_up (sv_up (sv_up (sv_up (sv_up (sv_up (sv_up (sv_up (sv_up S 26 (S 1046 0) p1) 27 (S 1046 0) p2) 28 (S 1046 0) p3) 29 (S 1046 0) (S 1056 0)) 1046 0 ((S 1046 0) + (1 : Int))) 1100007 ((S 1046 0) + (1 : Int)) ((if (S 1047 0) = 0 then ((S 1100007 (S 1046 0)) + sm_dl p1 (p2)) else 0))) 1100023 ((S 1046 0) + (1 : Int)) ((if (S 1047 0) = 0 then (sm_nt p1 (S 1046 0) (S 1100023 (S 1046 0)) (S 1100023 (S 1100023 (S 1046 0)))) else 0))) 1100024 ((S 1046 0) + (1 : Int)) ((if (S 1047 0) = 0 then (sm_nd p1 (S 1100024 (S 1046 0))) else 0))) 1100025 ((S 1046 0) + (1 : Int)) ((if (S 1047 0) = 0 then (sm_nl p1 (S 1046 0) (S 1100007 (S 1046 0)) (S 1100025 (S 1046 0)) (S 1100007 (S 1100025 (S 1046 0))) (S 1100025 (S 1100025 (S 1046 0)))) else 0))) := sv_mod.up md24 (by decide)
    have k28 : ((S 1047 0) = 0 → sm_KC (S 26) (S 27) (S 28) (S 29) (S 1100007) (S 1100023) (S 1100024) (S 1100025) (S 31) (S 1100009) (S 1100027) (S 1100028) (S 1100026) (S 1100030) (S 21) (S 32) (S 33) (S 1046 0) (S 1053 0) (S 1056 0) (S 1032 0) (S 1007 0) (S 1100033 0) → (S 1046 0) < 600 → 0 ≤ p1 ∧ p1 ≤ 30 → sm_ci p1 (p2) (p3) (S 1100007 (S 1046 0)) (S 1100023 (S 1046 0)) (S 1100024 (S 1046 0)) (S 1100025 (S 1046 0)) (S 1100007 (S 1100023 (S 1046 0))) (S 1100007 (S 1100025 (S 1046 0))) (S 1100023 (S 1100023 (S 1046 0))) (S 1100025 (S 1100025 (S 1046 0))) (S 1046 0) (S 1100033 0) (S 1032 0) (S 1007 0) (S 21 p2) (S 1056 0) ((S 1100007 (S 1046 0)) + sm_dl p1 (p2)) (sm_nt p1 (S 1046 0) (S 1100023 (S 1046 0)) (S 1100023 (S 1100023 (S 1046 0)))) (sm_nl p1 (S 1046 0) (S 1100007 (S 1046 0)) (S 1100025 (S 1046 0)) (S 1100007 (S 1100025 (S 1046 0))) (S 1100025 (S 1100025 (S 1046 0)))) (S 1100009 p2) (S 1100027 p2) (S 1100028 p2) → ((21 ≤ p1 ∧ p1 ≤ 24) ∨ p1 = 27 ∨ p1 = 30 → 0 ≤ p2 ∧ p2 < (S 1053 0) ∧ (S 1100026 p2) = (S 1056 0)) → (p1 = 1 ∨ p1 = 2 → sm_vv (S 21) (S 32) (S 33) (S 1056 0) p2 p3) → sm_KC (fun i' : Int => if i' = (S 1046 0) then p1 else (S 26) i') (fun i' : Int => if i' = (S 1046 0) then p2 else (S 27) i') (fun i' : Int => if i' = (S 1046 0) then p3 else (S 28) i') (fun i' : Int => if i' = (S 1046 0) then (S 1056 0) else (S 29) i') (fun i' : Int => if i' = ((S 1046 0) + (1 : Int)) then ((if (S 1047 0) = 0 then ((S 1100007 (S 1046 0)) + sm_dl p1 (p2)) else 0)) else (S 1100007) i') (fun i' : Int => if i' = ((S 1046 0) + (1 : Int)) then ((if (S 1047 0) = 0 then (sm_nt p1 (S 1046 0) (S 1100023 (S 1046 0)) (S 1100023 (S 1100023 (S 1046 0)))) else 0)) else (S 1100023) i') (fun i' : Int => if i' = ((S 1046 0) + (1 : Int)) then ((if (S 1047 0) = 0 then (sm_nd p1 (S 1100024 (S 1046 0))) else 0)) else (S 1100024) i') (fun i' : Int => if i' = ((S 1046 0) + (1 : Int)) then ((if (S 1047 0) = 0 then (sm_nl p1 (S 1046 0) (S 1100007 (S 1046 0)) (S 1100025 (S 1046 0)) (S 1100007 (S 1100025 (S 1046 0))) (S 1100025 (S 1100025 (S 1046 0)))) else 0)) else (S 1100025) i') (S 31) (S 1100009) (S 1100027) (S 1100028) (S 1100026) (S 1100030) (S 21) (S 32) (S 33) ((S 1046 0) + (1 : Int)) (S 1053 0) (S 1056 0) (S 1032 0) (S 1007 0) (S 1100033 0) ∧ sm_MB (S 31) (S 1100030) (S 1053 0) ((S 1046 0) + (1 : Int)) ∧ (if (if ((S 1046 0) + (1 : Int)) = ((S 1046 0) + (1 : Int)) then ((if (S 1047 0) = 0 then (sm_nt p1 (S 1046 0) (S 1100023 (S 1046 0)) (S 1100023 (S 1100023 (S 1046 0)))) else 0)) else (S 1100023 ((S 1046 0) + (1 : Int)))) = ((S 1046 0) + (1 : Int)) then ((if (S 1047 0) = 0 then ((S 1100007 (S 1046 0)) + sm_dl p1 (p2)) else 0)) else (S 1100007 (if ((S 1046 0) + (1 : Int)) = ((S 1046 0) + (1 : Int)) then ((if (S 1047 0) = 0 then (sm_nt p1 (S 1046 0) (S 1100023 (S 1046 0)) (S 1100023 (S 1100023 (S 1046 0)))) else 0)) else (S 1100023 ((S 1046 0) + (1 : Int)))))) = sm_nt p1 (S 1100007 (S 1046 0)) (S 1100007 (S 1100023 (S 1046 0))) (S 1100007 (S 1100023 (S 1100023 (S 1046 0)))) ∧ (p1 = 29 → (if (if ((S 1046 0) + (1 : Int)) = ((S 1046 0) + (1 : Int)) then ((if (S 1047 0) = 0 then (sm_nl p1 (S 1046 0) (S 1100007 (S 1046 0)) (S 1100025 (S 1046 0)) (S 1100007 (S 1100025 (S 1046 0))) (S 1100025 (S 1100025 (S 1046 0)))) else 0)) else (S 1100025 ((S 1046 0) + (1 : Int)))) = ((S 1046 0) + (1 : Int)) then ((if (S 1047 0) = 0 then ((S 1100007 (S 1046 0)) + sm_dl p1 (p2)) else 0)) else (S 1100007 (if ((S 1046 0) + (1 : Int)) = ((S 1046 0) + (1 : Int)) then ((if (S 1047 0) = 0 then (sm_nl p1 (S 1046 0) (S 1100007 (S 1046 0)) (S 1100025 (S 1046 0)) (S 1100007 (S 1100025 (S 1046 0))) (S 1100025 (S 1100025 (S 1046 0)))) else 0)) else (S 1100025 ((S 1046 0) + (1 : Int)))))) = (S 1100007 (S 1046 0))) ∧ (p1 = 17 → 0 ≤ (S 1100025 (S 1046 0)) → (S 1100007 (S 1100025 (S 1046 0))) = (S 1100007 (S 1046 0)) → (if (if ((S 1046 0) + (1 : Int)) = ((S 1046 0) + (1 : Int)) then ((if (S 1047 0) = 0 then (sm_nl p1 (S 1046 0) (S 1100007 (S 1046 0)) (S 1100025 (S 1046 0)) (S 1100007 (S 1100025 (S 1046 0))) (S 1100025 (S 1100025 (S 1046 0)))) else 0)) else (S 1100025 ((S 1046 0) + (1 : Int)))) = ((S 1046 0) + (1 : Int)) then ((if (S 1047 0) = 0 then ((S 1100007 (S 1046 0)) + sm_dl p1 (p2)) else 0)) else (S 1100007 (if ((S 1046 0) + (1 : Int)) = ((S 1046 0) + (1 : Int)) then ((if (S 1047 0) = 0 then (sm_nl p1 (S 1046 0) (S 1100007 (S 1046 0)) (S 1100025 (S 1046 0)) (S 1100007 (S 1100025 (S 1046 0))) (S 1100025 (S 1100025 (S 1046 0)))) else 0)) else (S 1100025 ((S 1046 0) + (1 : Int)))))) = (S 1100007 (S 1100025 (S 1100025 (S 1046 0))))) ∧ (¬ p1 = 29 → (p1 = 17 → 0 ≤ (S 1100025 (S 1046 0)) → (S 1100007 (S 1100025 (S 1046 0))) < (S 1100007 (S 1046 0))) → (if (if ((S 1046 0) + (1 : Int)) = ((S 1046 0) + (1 : Int)) then ((if (S 1047 0) = 0 then (sm_nl p1 (S 1046 0) (S 1100007 (S 1046 0)) (S 1100025 (S 1046 0)) (S 1100007 (S 1100025 (S 1046 0))) (S 1100025 (S 1100025 (S 1046 0)))) else 0)) else (S 1100025 ((S 1046 0) + (1 : Int)))) = ((S 1046 0) + (1 : Int)) then ((if (S 1047 0) = 0 then ((S 1100007 (S 1046 0)) + sm_dl p1 (p2)) else 0)) else (S 1100007 (if ((S 1046 0) + (1 : Int)) = ((S 1046 0) + (1 : Int)) then ((if (S 1047 0) = 0 then (sm_nl p1 (S 1046 0) (S 1100007 (S 1046 0)) (S 1100025 (S 1046 0)) (S 1100007 (S 1100025 (S 1046 0))) (S 1100025 (S 1100025 (S 1046 0)))) else 0)) else (S 1100025 ((S 1046 0) + (1 : Int)))))) = (S 1100007 (S 1100025 (S 1046 0))))) := fun hm h hn ho e ej ev => ⟨sm_KC_emit h hn ho (by (repeat rw [if_pos hm]); exact e) ej ev (if_pos hm) (if_pos hm) (if_pos hm) (if_pos hm) ⟨rfl, rfl, rfl, rfl⟩ ⟨rfl, rfl, rfl, rfl⟩ rfl rfl, sm_MB_emit h rfl, sm_KC_hh h hn ho e ej ev (if_pos hm) (if_pos hm) (if_pos hm) ⟨rfl, rfl, rfl⟩ rfl⟩
    have h := h k28
    exact sv_vret hM dX12_emit_69 rfl ⟨rfl, ok26, md27, h⟩
  · have h := h.2 (hc)
    refine sv_aload_n hM dX12_emit_10 rfl rfl ?_
    refine sv_iconst (d := (1 : Int)) hM dX12_emit_11 rfl rfl ?_
    refine sv_putI sm_X hM dX12_emit_12 sm_fp_609 (sm_a0 _) sm_q47 (Or.inr rfl) rfl (sv_nz (⟨by decide, by decide⟩ : 0 ≤ (1 : Int) ∧ (1 : Int) ≤ 1)) (sv_fz (⟨by decide, by decide⟩ : 0 ≤ (1 : Int) ∧ (1 : Int) ≤ 1)) rfl ?_
    have ok29 : sm_ok (sv_up S 1047 0 (1 : Int)) := sm_upZ hok sm_r1047 (⟨by decide, by decide⟩ : 0 ≤ (1 : Int) ∧ (1 : Int) ≤ 1)
    have md30 : sv_mod [26, 27, 28, 29, 1046, 1047, 1100007, 1100023, 1100024, 1100025] S (sv_up S 1047 0 (1 : Int)) := sv_mod.up sv_mod.rf (by decide)
    exact sv_vret hM dX12_emit_15 rfl ⟨rfl, ok29, md30, h⟩
def q_emit_ (p1 : Int) (S : sv_S) : Option Value → sv_S → Prop := fun v S' => v = none ∧ sm_ok S' ∧ sv_mod [26, 27, 28, 29, 1046, 1047, 1100007, 1100023, 1100024, 1100025] S S' ∧ (0 ≤ (S' 1047 0) ∧ (S' 1047 0) ≤ 1 ∧ 1 ≤ (S' 1046 0) ∧ (S 1046 0) ≤ (S' 1046 0) ∧ (S' 1046 0) ≤ (S 1046 0) + 1 ∧ (S' 1046 0) ≤ 600 ∧ ((S 1047 0) = 1 → (S' 1047 0) = 1) ∧ ((S' 1047 0) = 1 → (S 1047 0) = 1 ∨ (S 1046 0) = 600) ∧ sm_F1 (S 26) (S' 26) (S 1046 0) ∧ sm_F1 (S 27) (S' 27) (S 1046 0) ∧ sm_F1 (S 28) (S' 28) (S 1046 0) ∧ sm_F1 (S 29) (S' 29) (S 1046 0) ∧ sm_F1 (S 1100007) (S' 1100007) ((S 1046 0) + 1) ∧ sm_F1 (S 1100023) (S' 1100023) ((S 1046 0) + 1) ∧ sm_F1 (S 1100024) (S' 1100024) ((S 1046 0) + 1) ∧ sm_F1 (S 1100025) (S' 1100025) ((S 1046 0) + 1) ∧ ((S' 1047 0) = 0 → (S 1047 0) = 0 ∧ (S' 1046 0) = (S 1046 0) + 1 ∧ sm_KC (S' 26) (S' 27) (S' 28) (S' 29) (S' 1100007) (S' 1100023) (S' 1100024) (S' 1100025) (S' 31) (S' 1100009) (S' 1100027) (S' 1100028) (S' 1100026) (S' 1100030) (S' 21) (S' 32) (S' 33) (S' 1046 0) (S' 1053 0) (S' 1056 0) (S' 1032 0) (S' 1007 0) (S' 1100033 0) ∧ sm_MB (S' 31) (S' 1100030) (S' 1053 0) (S' 1046 0) ∧ (S' 26 (S 1046 0)) = p1 ∧ (S' 29 (S 1046 0)) = (S' 1056 0) ∧ (S' 1100007 (S' 1046 0)) = ((S 1100007 (S 1046 0)) + sm_dl p1 ((0 : Int))) ∧ (S' 1100023 (S' 1046 0)) = (sm_nt p1 (S 1046 0) (S 1100023 (S 1046 0)) (S 1100023 (S 1100023 (S 1046 0)))) ∧ (S' 1100024 (S' 1046 0)) = (sm_nd p1 (S 1100024 (S 1046 0))) ∧ (S' 1100025 (S' 1046 0)) = (sm_nl p1 (S 1046 0) (S 1100007 (S 1046 0)) (S 1100025 (S 1046 0)) (S 1100007 (S 1100025 (S 1046 0))) (S 1100025 (S 1100025 (S 1046 0)))) ∧ (S' 1100007 (S' 1100023 (S' 1046 0))) = sm_nt p1 (S 1100007 (S 1046 0)) (S 1100007 (S 1100023 (S 1046 0))) (S 1100007 (S 1100023 (S 1100023 (S 1046 0)))) ∧ (p1 = 29 → (S' 1100007 (S' 1100025 (S' 1046 0))) = (S 1100007 (S 1046 0))) ∧ (p1 = 17 → 0 ≤ (S 1100025 (S 1046 0)) → (S 1100007 (S 1100025 (S 1046 0))) = (S 1100007 (S 1046 0)) → (S' 1100007 (S' 1100025 (S' 1046 0))) = (S 1100007 (S 1100025 (S 1100025 (S 1046 0))))) ∧ (¬ p1 = 29 → (p1 = 17 → 0 ≤ (S 1100025 (S 1046 0)) → (S 1100007 (S 1100025 (S 1046 0))) < (S 1100007 (S 1046 0))) → (S' 1100007 (S' 1100025 (S' 1046 0))) = (S 1100007 (S 1100025 (S 1046 0))))))
theorem la_emit__0 {x0 : Int} (h0 : x0 = 0) : ¬ x0 = 1 := by omega
theorem la_emit__1 {x0 : Int} (h0 : x0 ≤ 1) (h1 : ¬ x0 = 1) : x0 < 1 := by omega
set_option maxHeartbeats 2000000 in
theorem f_emit_ : ∀ (p1 : Int) (S : sv_S), sm_ok S → sv_R p1 → (0 ≤ (S 1046 0) ∧ (S 1046 0) ≤ 600 ∧ 0 ≤ (S 1047 0) ∧ (S 1047 0) ≤ 1 ∧ ((S 1047 0) = 0 → sm_KC (S 26) (S 27) (S 28) (S 29) (S 1100007) (S 1100023) (S 1100024) (S 1100025) (S 31) (S 1100009) (S 1100027) (S 1100028) (S 1100026) (S 1100030) (S 21) (S 32) (S 33) (S 1046 0) (S 1053 0) (S 1056 0) (S 1032 0) (S 1007 0) (S 1100033 0) ∧ 0 ≤ p1 ∧ p1 ≤ 30 ∧ sm_ci p1 ((0 : Int)) ((0 : Int)) (S 1100007 (S 1046 0)) (S 1100023 (S 1046 0)) (S 1100024 (S 1046 0)) (S 1100025 (S 1046 0)) (S 1100007 (S 1100023 (S 1046 0))) (S 1100007 (S 1100025 (S 1046 0))) (S 1100023 (S 1100023 (S 1046 0))) (S 1100025 (S 1100025 (S 1046 0))) (S 1046 0) (S 1100033 0) (S 1032 0) (S 1007 0) (S 21 (0 : Int)) (S 1056 0) ((S 1100007 (S 1046 0)) + sm_dl p1 ((0 : Int))) (sm_nt p1 (S 1046 0) (S 1100023 (S 1046 0)) (S 1100023 (S 1100023 (S 1046 0)))) (sm_nl p1 (S 1046 0) (S 1100007 (S 1046 0)) (S 1100025 (S 1046 0)) (S 1100007 (S 1100025 (S 1046 0))) (S 1100025 (S 1100025 (S 1046 0)))) (S 1100009 (0 : Int)) (S 1100027 (0 : Int)) (S 1100028 (0 : Int)) ∧ ((21 ≤ p1 ∧ p1 ≤ 24) ∨ p1 = 27 ∨ p1 = 30 → 0 ≤ (0 : Int) ∧ (0 : Int) < (S 1053 0) ∧ (S 1100026 (0 : Int)) = (S 1056 0)) ∧ (p1 = 1 ∨ p1 = 2 → sm_vv (S 21) (S 32) (S 33) (S 1056 0) (0 : Int) (0 : Int)))) → (0 ≤ (S 1046 0) ∧ (S 1046 0) ≤ 600 ∧ 0 ≤ (S 1047 0) ∧ (S 1047 0) ≤ 1 ∧ ((S 1047 0) = 0 → sm_KC (S 26) (S 27) (S 28) (S 29) (S 1100007) (S 1100023) (S 1100024) (S 1100025) (S 31) (S 1100009) (S 1100027) (S 1100028) (S 1100026) (S 1100030) (S 21) (S 32) (S 33) (S 1046 0) (S 1053 0) (S 1056 0) (S 1032 0) (S 1007 0) (S 1100033 0) ∧ 0 ≤ p1 ∧ p1 ≤ 30 ∧ sm_ci p1 ((0 : Int)) ((0 : Int)) (S 1100007 (S 1046 0)) (S 1100023 (S 1046 0)) (S 1100024 (S 1046 0)) (S 1100025 (S 1046 0)) (S 1100007 (S 1100023 (S 1046 0))) (S 1100007 (S 1100025 (S 1046 0))) (S 1100023 (S 1100023 (S 1046 0))) (S 1100025 (S 1100025 (S 1046 0))) (S 1046 0) (S 1100033 0) (S 1032 0) (S 1007 0) (S 21 (0 : Int)) (S 1056 0) ((S 1100007 (S 1046 0)) + sm_dl p1 ((0 : Int))) (sm_nt p1 (S 1046 0) (S 1100023 (S 1046 0)) (S 1100023 (S 1100023 (S 1046 0)))) (sm_nl p1 (S 1046 0) (S 1100007 (S 1046 0)) (S 1100025 (S 1046 0)) (S 1100007 (S 1100025 (S 1046 0))) (S 1100025 (S 1100025 (S 1046 0)))) (S 1100009 (0 : Int)) (S 1100027 (0 : Int)) (S 1100028 (0 : Int)) ∧ ((21 ≤ p1 ∧ p1 ≤ 24) ∨ p1 = 27 ∨ p1 = 30 → 0 ≤ (0 : Int) ∧ (0 : Int) < (S 1053 0) ∧ (S 1100026 (0 : Int)) = (S 1056 0)) ∧ (p1 = 1 ∨ p1 = 2 → sm_vv (S 21) (S 32) (S 33) (S 1056 0) (0 : Int) (0 : Int)))) ∧ (∀ g2 : sv_S, (0 ≤ (g2 1047 0) ∧ (g2 1047 0) ≤ 1 ∧ 1 ≤ (g2 1046 0) ∧ (S 1046 0) ≤ (g2 1046 0) ∧ (g2 1046 0) ≤ (S 1046 0) + 1 ∧ (g2 1046 0) ≤ 600 ∧ ((S 1047 0) = 1 → (g2 1047 0) = 1) ∧ ((g2 1047 0) = 1 → (S 1047 0) = 1 ∨ (S 1046 0) = 600) ∧ sm_F1 (S 26) (g2 26) (S 1046 0) ∧ sm_F1 (S 27) (g2 27) (S 1046 0) ∧ sm_F1 (S 28) (g2 28) (S 1046 0) ∧ sm_F1 (S 29) (g2 29) (S 1046 0) ∧ sm_F1 (S 1100007) (g2 1100007) ((S 1046 0) + 1) ∧ sm_F1 (S 1100023) (g2 1100023) ((S 1046 0) + 1) ∧ sm_F1 (S 1100024) (g2 1100024) ((S 1046 0) + 1) ∧ sm_F1 (S 1100025) (g2 1100025) ((S 1046 0) + 1) ∧ ((g2 1047 0) = 0 → (S 1047 0) = 0 ∧ (g2 1046 0) = (S 1046 0) + 1 ∧ sm_KC (g2 26) (g2 27) (g2 28) (g2 29) (g2 1100007) (g2 1100023) (g2 1100024) (g2 1100025) (S 31) (S 1100009) (S 1100027) (S 1100028) (S 1100026) (S 1100030) (S 21) (S 32) (S 33) (g2 1046 0) (S 1053 0) (S 1056 0) (S 1032 0) (S 1007 0) (S 1100033 0) ∧ sm_MB (S 31) (S 1100030) (S 1053 0) (g2 1046 0) ∧ (g2 26 (S 1046 0)) = p1 ∧ (g2 29 (S 1046 0)) = (S 1056 0) ∧ (g2 1100007 (g2 1046 0)) = ((S 1100007 (S 1046 0)) + sm_dl p1 ((0 : Int))) ∧ (g2 1100023 (g2 1046 0)) = (sm_nt p1 (S 1046 0) (S 1100023 (S 1046 0)) (S 1100023 (S 1100023 (S 1046 0)))) ∧ (g2 1100024 (g2 1046 0)) = (sm_nd p1 (S 1100024 (S 1046 0))) ∧ (g2 1100025 (g2 1046 0)) = (sm_nl p1 (S 1046 0) (S 1100007 (S 1046 0)) (S 1100025 (S 1046 0)) (S 1100007 (S 1100025 (S 1046 0))) (S 1100025 (S 1100025 (S 1046 0)))) ∧ (g2 1100007 (g2 1100023 (g2 1046 0))) = sm_nt p1 (S 1100007 (S 1046 0)) (S 1100007 (S 1100023 (S 1046 0))) (S 1100007 (S 1100023 (S 1100023 (S 1046 0)))) ∧ (p1 = 29 → (g2 1100007 (g2 1100025 (g2 1046 0))) = (S 1100007 (S 1046 0))) ∧ (p1 = 17 → 0 ≤ (S 1100025 (S 1046 0)) → (S 1100007 (S 1100025 (S 1046 0))) = (S 1100007 (S 1046 0)) → (g2 1100007 (g2 1100025 (g2 1046 0))) = (S 1100007 (S 1100025 (S 1100025 (S 1046 0))))) ∧ (¬ p1 = 29 → (p1 = 17 → 0 ≤ (S 1100025 (S 1046 0)) → (S 1100007 (S 1100025 (S 1046 0))) < (S 1100007 (S 1046 0))) → (g2 1100007 (g2 1100025 (g2 1046 0))) = (S 1100007 (S 1100025 (S 1046 0)))))) → (0 ≤ (g2 1047 0) ∧ (g2 1047 0) ≤ 1 ∧ 1 ≤ (g2 1046 0) ∧ (S 1046 0) ≤ (g2 1046 0) ∧ (g2 1046 0) ≤ (S 1046 0) + 1 ∧ (g2 1046 0) ≤ 600 ∧ ((S 1047 0) = 1 → (g2 1047 0) = 1) ∧ ((g2 1047 0) = 1 → (S 1047 0) = 1 ∨ (S 1046 0) = 600) ∧ sm_F1 (S 26) (g2 26) (S 1046 0) ∧ sm_F1 (S 27) (g2 27) (S 1046 0) ∧ sm_F1 (S 28) (g2 28) (S 1046 0) ∧ sm_F1 (S 29) (g2 29) (S 1046 0) ∧ sm_F1 (S 1100007) (g2 1100007) ((S 1046 0) + 1) ∧ sm_F1 (S 1100023) (g2 1100023) ((S 1046 0) + 1) ∧ sm_F1 (S 1100024) (g2 1100024) ((S 1046 0) + 1) ∧ sm_F1 (S 1100025) (g2 1100025) ((S 1046 0) + 1) ∧ ((g2 1047 0) = 0 → (S 1047 0) = 0 ∧ (g2 1046 0) = (S 1046 0) + 1 ∧ sm_KC (g2 26) (g2 27) (g2 28) (g2 29) (g2 1100007) (g2 1100023) (g2 1100024) (g2 1100025) (S 31) (S 1100009) (S 1100027) (S 1100028) (S 1100026) (S 1100030) (S 21) (S 32) (S 33) (g2 1046 0) (S 1053 0) (S 1056 0) (S 1032 0) (S 1007 0) (S 1100033 0) ∧ sm_MB (S 31) (S 1100030) (S 1053 0) (g2 1046 0) ∧ (g2 26 (S 1046 0)) = p1 ∧ (g2 29 (S 1046 0)) = (S 1056 0) ∧ (g2 1100007 (g2 1046 0)) = ((S 1100007 (S 1046 0)) + sm_dl p1 ((0 : Int))) ∧ (g2 1100023 (g2 1046 0)) = (sm_nt p1 (S 1046 0) (S 1100023 (S 1046 0)) (S 1100023 (S 1100023 (S 1046 0)))) ∧ (g2 1100024 (g2 1046 0)) = (sm_nd p1 (S 1100024 (S 1046 0))) ∧ (g2 1100025 (g2 1046 0)) = (sm_nl p1 (S 1046 0) (S 1100007 (S 1046 0)) (S 1100025 (S 1046 0)) (S 1100007 (S 1100025 (S 1046 0))) (S 1100025 (S 1100025 (S 1046 0)))) ∧ (g2 1100007 (g2 1100023 (g2 1046 0))) = sm_nt p1 (S 1100007 (S 1046 0)) (S 1100007 (S 1100023 (S 1046 0))) (S 1100007 (S 1100023 (S 1100023 (S 1046 0)))) ∧ (p1 = 29 → (g2 1100007 (g2 1100025 (g2 1046 0))) = (S 1100007 (S 1046 0))) ∧ (p1 = 17 → 0 ≤ (S 1100025 (S 1046 0)) → (S 1100007 (S 1100025 (S 1046 0))) = (S 1100007 (S 1046 0)) → (g2 1100007 (g2 1100025 (g2 1046 0))) = (S 1100007 (S 1100025 (S 1100025 (S 1046 0))))) ∧ (¬ p1 = 29 → (p1 = 17 → 0 ≤ (S 1100025 (S 1046 0)) → (S 1100007 (S 1100025 (S 1046 0))) < (S 1100007 (S 1046 0))) → (g2 1100007 (g2 1100025 (g2 1046 0))) = (S 1100007 (S 1100025 (S 1046 0))))))) := by
  intro p1
  intro S
  intro h1_
  intro h2_
  rintro ⟨h3_, ⟨h4_, ⟨h5_, ⟨h6_, h7_⟩⟩⟩⟩
  refine ⟨⟨h3_, ⟨h4_, ⟨h5_, ⟨h6_, h7_⟩⟩⟩⟩, ?_⟩
  intro g2
  rintro ⟨h8_, ⟨h9_, ⟨h10_, ⟨h11_, ⟨h12_, ⟨h13_, ⟨h14_, ⟨h15_, ⟨h16_, ⟨h17_, ⟨h18_, ⟨h19_, ⟨h20_, ⟨h21_, ⟨h22_, ⟨h23_, h24_⟩⟩⟩⟩⟩⟩⟩⟩⟩⟩⟩⟩⟩⟩⟩⟩
  refine ⟨h8_, ?_⟩
  refine ⟨h9_, ?_⟩
  refine ⟨h10_, ?_⟩
  refine ⟨h11_, ?_⟩
  refine ⟨h12_, ?_⟩
  refine ⟨h13_, ?_⟩
  refine ⟨h14_, ?_⟩
  refine ⟨h15_, ?_⟩
  refine ⟨h16_, ?_⟩
  refine ⟨h17_, ?_⟩
  refine ⟨h18_, ?_⟩
  refine ⟨h19_, ?_⟩
  refine ⟨h20_, ?_⟩
  refine ⟨h21_, ?_⟩
  refine ⟨h22_, ?_⟩
  refine ⟨h23_, ?_⟩
  intro h25_
  have h26_ : ¬ (S 1047 0 = 1) := fun q_ => (la_emit__0 h25_) (h14_ q_)
  obtain ⟨h27_, ⟨h28_, ⟨h29_, ⟨h30_, ⟨h31_, ⟨h32_, ⟨h33_, ⟨h34_, ⟨h35_, ⟨h36_, ⟨h37_, ⟨h38_, ⟨h39_, h40_⟩⟩⟩⟩⟩⟩⟩⟩⟩⟩⟩⟩⟩ := (h24_ h25_)
  obtain ⟨h41_, ⟨h42_, ⟨h43_, ⟨h44_, ⟨h45_, h46_⟩⟩⟩⟩⟩ := (h7_ h27_)
  refine ⟨h27_, ?_⟩
  refine ⟨h28_, ?_⟩
  refine ⟨h29_, ?_⟩
  refine ⟨h30_, ?_⟩
  refine ⟨h31_, ?_⟩
  refine ⟨h32_, ?_⟩
  refine ⟨h33_, ?_⟩
  refine ⟨h34_, ?_⟩
  refine ⟨h35_, ?_⟩
  refine ⟨h36_, ?_⟩
  refine ⟨h37_, ?_⟩
  refine ⟨h38_, ?_⟩
  refine ⟨h39_, ?_⟩
  intro h47_
  have h48_ := ((sm_nl_o (op := p1) (k := S 1046 0) (H := S 1100007 (S 1046 0)) (L := S 1100025 (S 1046 0)) (hL := S 1100007 (S 1100025 (S 1046 0))) (lL := S 1100025 (S 1100025 (S 1046 0)))) h47_)
  have h49_ := (h40_ h47_)
  intro h50_
  have h51_ := (h49_ h50_)
  exact h51_
set_option maxRecDepth 8000 in
set_option maxHeartbeats 2000000 in
theorem t_emit_ : ∀ (p1 : Int) (S : sv_S), sm_ok S → sv_R p1 → (0 ≤ (S 1046 0) ∧ (S 1046 0) ≤ 600 ∧ 0 ≤ (S 1047 0) ∧ (S 1047 0) ≤ 1 ∧ ((S 1047 0) = 0 → sm_KC (S 26) (S 27) (S 28) (S 29) (S 1100007) (S 1100023) (S 1100024) (S 1100025) (S 31) (S 1100009) (S 1100027) (S 1100028) (S 1100026) (S 1100030) (S 21) (S 32) (S 33) (S 1046 0) (S 1053 0) (S 1056 0) (S 1032 0) (S 1007 0) (S 1100033 0) ∧ 0 ≤ p1 ∧ p1 ≤ 30 ∧ sm_ci p1 ((0 : Int)) ((0 : Int)) (S 1100007 (S 1046 0)) (S 1100023 (S 1046 0)) (S 1100024 (S 1046 0)) (S 1100025 (S 1046 0)) (S 1100007 (S 1100023 (S 1046 0))) (S 1100007 (S 1100025 (S 1046 0))) (S 1100023 (S 1100023 (S 1046 0))) (S 1100025 (S 1100025 (S 1046 0))) (S 1046 0) (S 1100033 0) (S 1032 0) (S 1007 0) (S 21 (0 : Int)) (S 1056 0) ((S 1100007 (S 1046 0)) + sm_dl p1 ((0 : Int))) (sm_nt p1 (S 1046 0) (S 1100023 (S 1046 0)) (S 1100023 (S 1100023 (S 1046 0)))) (sm_nl p1 (S 1046 0) (S 1100007 (S 1046 0)) (S 1100025 (S 1046 0)) (S 1100007 (S 1100025 (S 1046 0))) (S 1100025 (S 1100025 (S 1046 0)))) (S 1100009 (0 : Int)) (S 1100027 (0 : Int)) (S 1100028 (0 : Int)) ∧ ((21 ≤ p1 ∧ p1 ≤ 24) ∨ p1 = 27 ∨ p1 = 30 → 0 ≤ (0 : Int) ∧ (0 : Int) < (S 1053 0) ∧ (S 1100026 (0 : Int)) = (S 1056 0)) ∧ (p1 = 1 ∨ p1 = 2 → sm_vv (S 21) (S 32) (S 33) (S 1056 0) (0 : Int) (0 : Int)))) → sv_T sm_XS sm_cs sm_L sm_sh 1 (q_emit_ p1 S) 83 0 (lv_args 0 [.ref 0, sv_I p1]) [] S := by
  intro p1 S hok hp1 hpre
  have h := f_emit_ p1 S hok hp1 hpre
  have hM := sm_h83
  show sv_T sm_XS sm_cs sm_L sm_sh 1 (q_emit_ p1 S) 83 0 [(0, .ref 0), (1, sv_I p1)] [] S
  refine sv_aload_n hM dX12_emit__0 rfl rfl ?_
  refine sv_iload_n hM dX12_emit__1 rfl rfl ?_
  refine sv_iconst (d := (0 : Int)) hM dX12_emit__2 rfl rfl ?_
  refine sv_iconst (d := (0 : Int)) hM dX12_emit__3 rfl rfl ?_
  obtain ⟨o1, h⟩ := h
  refine sv_callV hM dX12_emit__4 sm_iv_615 (by decide) (sm_a0 _) rfl rfl (Nat.le_of_ble_eq_true rfl) sm_h82 (Nat.le_of_ble_eq_true rfl) (Nat.le_of_ble_eq_true rfl) (F' := 0) (Nat.le_of_ble_eq_true rfl) rfl (t_emit p1 (0 : Int) (0 : Int) S hok hp1 (⟨by decide, by decide⟩ : sv_R (0 : Int)) (⟨by decide, by decide⟩ : sv_R (0 : Int)) o1) (fun v S1 hq => ?_)
  obtain ⟨rfl, ok3, md4, hpo5⟩ := hq
  obtain ⟨g2, rfl⟩ : ∃ g, S1 = sv_sts S [26, 27, 28, 29, 1046, 1047, 1100007, 1100023, 1100024, 1100025] g := ⟨_, md4.eq⟩
  show sv_T sm_XS sm_cs sm_L sm_sh 1 (q_emit_ p1 S) 83 7 [(0, .ref 0), (1, sv_I p1)] [] (sv_sts S [26, 27, 28, 29, 1046, 1047, 1100007, 1100023, 1100024, 1100025] g2)
  have md6 : sv_mod [26, 27, 28, 29, 1046, 1047, 1100007, 1100023, 1100024, 1100025] S (sv_sts S [26, 27, 28, 29, 1046, 1047, 1100007, 1100023, 1100024, 1100025] g2) := sv_mod.sts sv_mod.rf (by decide)
  have h := h g2 hpo5
  exact sv_vret hM dX12_emit__7 rfl ⟨rfl, ok3, md6, h⟩
def q_constant (p1 : Int) (p2 : Int) (S : sv_S) : Option Value → sv_S → Prop := fun v S' => v = none ∧ sm_ok S' ∧ sv_mod [26, 27, 28, 29, 1046, 1047, 1100007, 1100023, 1100024, 1100025] S S' ∧ (0 ≤ (S' 1047 0) ∧ (S' 1047 0) ≤ 1 ∧ 1 ≤ (S' 1046 0) ∧ (S 1046 0) ≤ (S' 1046 0) ∧ (S' 1046 0) ≤ (S 1046 0) + 1 ∧ (S' 1046 0) ≤ 600 ∧ ((S 1047 0) = 1 → (S' 1047 0) = 1) ∧ ((S' 1047 0) = 1 → (S 1047 0) = 1 ∨ (S 1046 0) = 600) ∧ sm_F1 (S 26) (S' 26) (S 1046 0) ∧ sm_F1 (S 27) (S' 27) (S 1046 0) ∧ sm_F1 (S 28) (S' 28) (S 1046 0) ∧ sm_F1 (S 29) (S' 29) (S 1046 0) ∧ sm_F1 (S 1100007) (S' 1100007) ((S 1046 0) + 1) ∧ sm_F1 (S 1100023) (S' 1100023) ((S 1046 0) + 1) ∧ sm_F1 (S 1100024) (S' 1100024) ((S 1046 0) + 1) ∧ sm_F1 (S 1100025) (S' 1100025) ((S 1046 0) + 1) ∧ ((S' 1047 0) = 0 → (S 1047 0) = 0 ∧ (S' 1046 0) = (S 1046 0) + 1 ∧ sm_KC (S' 26) (S' 27) (S' 28) (S' 29) (S' 1100007) (S' 1100023) (S' 1100024) (S' 1100025) (S' 31) (S' 1100009) (S' 1100027) (S' 1100028) (S' 1100026) (S' 1100030) (S' 21) (S' 32) (S' 33) (S' 1046 0) (S' 1053 0) (S' 1056 0) (S' 1032 0) (S' 1007 0) (S' 1100033 0) ∧ sm_MB (S' 31) (S' 1100030) (S' 1053 0) (S' 1046 0) ∧ (S' 26 (S 1046 0)) = (0 : Int) ∧ (S' 29 (S 1046 0)) = (S' 1056 0) ∧ (S' 1100007 (S' 1046 0)) = ((S 1100007 (S 1046 0)) + sm_dl (0 : Int) (p1)) ∧ (S' 1100023 (S' 1046 0)) = (sm_nt (0 : Int) (S 1046 0) (S 1100023 (S 1046 0)) (S 1100023 (S 1100023 (S 1046 0)))) ∧ (S' 1100024 (S' 1046 0)) = (sm_nd (0 : Int) (S 1100024 (S 1046 0))) ∧ (S' 1100025 (S' 1046 0)) = (sm_nl (0 : Int) (S 1046 0) (S 1100007 (S 1046 0)) (S 1100025 (S 1046 0)) (S 1100007 (S 1100025 (S 1046 0))) (S 1100025 (S 1100025 (S 1046 0)))) ∧ (S' 1100007 (S' 1100023 (S' 1046 0))) = sm_nt (0 : Int) (S 1100007 (S 1046 0)) (S 1100007 (S 1100023 (S 1046 0))) (S 1100007 (S 1100023 (S 1100023 (S 1046 0)))) ∧ ((0 : Int) = 29 → (S' 1100007 (S' 1100025 (S' 1046 0))) = (S 1100007 (S 1046 0))) ∧ ((0 : Int) = 17 → 0 ≤ (S 1100025 (S 1046 0)) → (S 1100007 (S 1100025 (S 1046 0))) = (S 1100007 (S 1046 0)) → (S' 1100007 (S' 1100025 (S' 1046 0))) = (S 1100007 (S 1100025 (S 1100025 (S 1046 0))))) ∧ (¬ (0 : Int) = 29 → ((0 : Int) = 17 → 0 ≤ (S 1100025 (S 1046 0)) → (S 1100007 (S 1100025 (S 1046 0))) < (S 1100007 (S 1046 0))) → (S' 1100007 (S' 1100025 (S' 1046 0))) = (S 1100007 (S 1100025 (S 1046 0))))))
theorem la_constant_0 : (0 : Int) ≤ 0 := by omega
theorem la_constant_1 : (0 : Int) ≤ 30 := by omega
theorem la_constant_2 {x0 x1 x2 x3 x4 x5 x6 x7 x8 x9 x10 : Int} (h0 : 0 ≤ x0) (h1 : 0 ≤ x1) (h2 : x1 ≤ 6) (h3 : x1 = 6 → 0 ≤ x2 ∧ x2 < x3) (h4 : 0 ≤ x4 → x5 ≤ x0) (h5 : 0 ≤ x6 → x7 ≤ x0) (h6 : x8 = 1) (h7 : x9 = x4) (h8 : x10 = x6) : (0 ≤ x1 ∧ x1 ≤ 6 ∧ (x1 = 6 → 0 ≤ x2 ∧ x2 < x3)) ∧ (0 ≤ x0 ∧ (0 ≤ x4 → x5 ≤ x0) ∧ (0 ≤ x6 → x7 ≤ x0)) ∧ x0 + x8 = x0 + 1 ∧ x9 = x4 ∧ x10 = x6 := by omega
theorem la_constant_3 {x0 x1 x2 x3 : Int} : (21 : Int) ≤ 0 ∧ (0 : Int) ≤ 24 ∨ (0 : Int) = 27 ∨ (0 : Int) = 30 → 0 ≤ x0 ∧ x0 < x1 ∧ x2 = x3 := by omega
theorem la_constant_4 : ¬ (0 : Int) = 1 := by omega
theorem la_constant_5 {x0 x1 : Int} (h0 : (0 : Int) = 2) : x0 = x1 := by omega
theorem la_constant_6 {x0 : Int} (h0 : (0 : Int) = 2) : 0 ≤ x0 := by omega
theorem la_constant_7 (h0 : (0 : Int) = 2) : False := by omega
theorem la_constant_8 {x0 : Int} (h0 : x0 = 0) : ¬ x0 = 1 := by omega
theorem la_constant_9 {x0 : Int} (h0 : x0 ≤ 1) (h1 : ¬ x0 = 1) : x0 < 1 := by omega
theorem la_constant_10 : ¬ (0 : Int) = 29 := by omega
theorem la_constant_11 : ¬ (0 : Int) = 17 := by omega
theorem la_constant_12 {x0 x1 x2 : Int} : (0 : Int) = 17 → 0 ≤ x0 → x1 < x2 := by omega
theorem la_constant_13 : (0 : Int) ≤ 29 := by omega
theorem la_constant_14 (h0 : (0 : Int) ≤ 29) (h1 : ¬ (0 : Int) = 29) : (0 : Int) < 29 := by omega
set_option maxHeartbeats 2000000 in
theorem f_constant : ∀ (p1 : Int) (p2 : Int) (S : sv_S), sm_ok S → sv_R p1 → sv_R p2 → (0 ≤ (S 1046 0) ∧ (S 1046 0) ≤ 600 ∧ 0 ≤ (S 1047 0) ∧ (S 1047 0) ≤ 1 ∧ ((S 1047 0) = 0 → sm_KC (S 26) (S 27) (S 28) (S 29) (S 1100007) (S 1100023) (S 1100024) (S 1100025) (S 31) (S 1100009) (S 1100027) (S 1100028) (S 1100026) (S 1100030) (S 21) (S 32) (S 33) (S 1046 0) (S 1053 0) (S 1056 0) (S 1032 0) (S 1007 0) (S 1100033 0) ∧ 0 ≤ p1 ∧ p1 ≤ 6 ∧ (p1 = 6 → 0 ≤ p2 ∧ p2 < (S 1007 0)) ∧ (0 ≤ (S 1100023 (S 1046 0)) → (S 1100007 (S 1100023 (S 1046 0))) ≤ (S 1100007 (S 1046 0))) ∧ (0 ≤ (S 1100025 (S 1046 0)) → (S 1100007 (S 1100025 (S 1046 0))) ≤ (S 1100007 (S 1046 0))))) → (0 ≤ (S 1046 0) ∧ (S 1046 0) ≤ 600 ∧ 0 ≤ (S 1047 0) ∧ (S 1047 0) ≤ 1 ∧ ((S 1047 0) = 0 → sm_KC (S 26) (S 27) (S 28) (S 29) (S 1100007) (S 1100023) (S 1100024) (S 1100025) (S 31) (S 1100009) (S 1100027) (S 1100028) (S 1100026) (S 1100030) (S 21) (S 32) (S 33) (S 1046 0) (S 1053 0) (S 1056 0) (S 1032 0) (S 1007 0) (S 1100033 0) ∧ 0 ≤ (0 : Int) ∧ (0 : Int) ≤ 30 ∧ sm_ci (0 : Int) (p1) (p2) (S 1100007 (S 1046 0)) (S 1100023 (S 1046 0)) (S 1100024 (S 1046 0)) (S 1100025 (S 1046 0)) (S 1100007 (S 1100023 (S 1046 0))) (S 1100007 (S 1100025 (S 1046 0))) (S 1100023 (S 1100023 (S 1046 0))) (S 1100025 (S 1100025 (S 1046 0))) (S 1046 0) (S 1100033 0) (S 1032 0) (S 1007 0) (S 21 p1) (S 1056 0) ((S 1100007 (S 1046 0)) + sm_dl (0 : Int) (p1)) (sm_nt (0 : Int) (S 1046 0) (S 1100023 (S 1046 0)) (S 1100023 (S 1100023 (S 1046 0)))) (sm_nl (0 : Int) (S 1046 0) (S 1100007 (S 1046 0)) (S 1100025 (S 1046 0)) (S 1100007 (S 1100025 (S 1046 0))) (S 1100025 (S 1100025 (S 1046 0)))) (S 1100009 p1) (S 1100027 p1) (S 1100028 p1) ∧ ((21 ≤ (0 : Int) ∧ (0 : Int) ≤ 24) ∨ (0 : Int) = 27 ∨ (0 : Int) = 30 → 0 ≤ p1 ∧ p1 < (S 1053 0) ∧ (S 1100026 p1) = (S 1056 0)) ∧ ((0 : Int) = 1 ∨ (0 : Int) = 2 → sm_vv (S 21) (S 32) (S 33) (S 1056 0) p1 p2))) ∧ (∀ g2 : sv_S, (0 ≤ (g2 1047 0) ∧ (g2 1047 0) ≤ 1 ∧ 1 ≤ (g2 1046 0) ∧ (S 1046 0) ≤ (g2 1046 0) ∧ (g2 1046 0) ≤ (S 1046 0) + 1 ∧ (g2 1046 0) ≤ 600 ∧ ((S 1047 0) = 1 → (g2 1047 0) = 1) ∧ ((g2 1047 0) = 1 → (S 1047 0) = 1 ∨ (S 1046 0) = 600) ∧ sm_F1 (S 26) (g2 26) (S 1046 0) ∧ sm_F1 (S 27) (g2 27) (S 1046 0) ∧ sm_F1 (S 28) (g2 28) (S 1046 0) ∧ sm_F1 (S 29) (g2 29) (S 1046 0) ∧ sm_F1 (S 1100007) (g2 1100007) ((S 1046 0) + 1) ∧ sm_F1 (S 1100023) (g2 1100023) ((S 1046 0) + 1) ∧ sm_F1 (S 1100024) (g2 1100024) ((S 1046 0) + 1) ∧ sm_F1 (S 1100025) (g2 1100025) ((S 1046 0) + 1) ∧ ((g2 1047 0) = 0 → (S 1047 0) = 0 ∧ (g2 1046 0) = (S 1046 0) + 1 ∧ sm_KC (g2 26) (g2 27) (g2 28) (g2 29) (g2 1100007) (g2 1100023) (g2 1100024) (g2 1100025) (S 31) (S 1100009) (S 1100027) (S 1100028) (S 1100026) (S 1100030) (S 21) (S 32) (S 33) (g2 1046 0) (S 1053 0) (S 1056 0) (S 1032 0) (S 1007 0) (S 1100033 0) ∧ sm_MB (S 31) (S 1100030) (S 1053 0) (g2 1046 0) ∧ (g2 26 (S 1046 0)) = (0 : Int) ∧ (g2 29 (S 1046 0)) = (S 1056 0) ∧ (g2 1100007 (g2 1046 0)) = ((S 1100007 (S 1046 0)) + sm_dl (0 : Int) (p1)) ∧ (g2 1100023 (g2 1046 0)) = (sm_nt (0 : Int) (S 1046 0) (S 1100023 (S 1046 0)) (S 1100023 (S 1100023 (S 1046 0)))) ∧ (g2 1100024 (g2 1046 0)) = (sm_nd (0 : Int) (S 1100024 (S 1046 0))) ∧ (g2 1100025 (g2 1046 0)) = (sm_nl (0 : Int) (S 1046 0) (S 1100007 (S 1046 0)) (S 1100025 (S 1046 0)) (S 1100007 (S 1100025 (S 1046 0))) (S 1100025 (S 1100025 (S 1046 0)))) ∧ (g2 1100007 (g2 1100023 (g2 1046 0))) = sm_nt (0 : Int) (S 1100007 (S 1046 0)) (S 1100007 (S 1100023 (S 1046 0))) (S 1100007 (S 1100023 (S 1100023 (S 1046 0)))) ∧ ((0 : Int) = 29 → (g2 1100007 (g2 1100025 (g2 1046 0))) = (S 1100007 (S 1046 0))) ∧ ((0 : Int) = 17 → 0 ≤ (S 1100025 (S 1046 0)) → (S 1100007 (S 1100025 (S 1046 0))) = (S 1100007 (S 1046 0)) → (g2 1100007 (g2 1100025 (g2 1046 0))) = (S 1100007 (S 1100025 (S 1100025 (S 1046 0))))) ∧ (¬ (0 : Int) = 29 → ((0 : Int) = 17 → 0 ≤ (S 1100025 (S 1046 0)) → (S 1100007 (S 1100025 (S 1046 0))) < (S 1100007 (S 1046 0))) → (g2 1100007 (g2 1100025 (g2 1046 0))) = (S 1100007 (S 1100025 (S 1046 0)))))) → (0 ≤ (g2 1047 0) ∧ (g2 1047 0) ≤ 1 ∧ 1 ≤ (g2 1046 0) ∧ (S 1046 0) ≤ (g2 1046 0) ∧ (g2 1046 0) ≤ (S 1046 0) + 1 ∧ (g2 1046 0) ≤ 600 ∧ ((S 1047 0) = 1 → (g2 1047 0) = 1) ∧ ((g2 1047 0) = 1 → (S 1047 0) = 1 ∨ (S 1046 0) = 600) ∧ sm_F1 (S 26) (g2 26) (S 1046 0) ∧ sm_F1 (S 27) (g2 27) (S 1046 0) ∧ sm_F1 (S 28) (g2 28) (S 1046 0) ∧ sm_F1 (S 29) (g2 29) (S 1046 0) ∧ sm_F1 (S 1100007) (g2 1100007) ((S 1046 0) + 1) ∧ sm_F1 (S 1100023) (g2 1100023) ((S 1046 0) + 1) ∧ sm_F1 (S 1100024) (g2 1100024) ((S 1046 0) + 1) ∧ sm_F1 (S 1100025) (g2 1100025) ((S 1046 0) + 1) ∧ ((g2 1047 0) = 0 → (S 1047 0) = 0 ∧ (g2 1046 0) = (S 1046 0) + 1 ∧ sm_KC (g2 26) (g2 27) (g2 28) (g2 29) (g2 1100007) (g2 1100023) (g2 1100024) (g2 1100025) (S 31) (S 1100009) (S 1100027) (S 1100028) (S 1100026) (S 1100030) (S 21) (S 32) (S 33) (g2 1046 0) (S 1053 0) (S 1056 0) (S 1032 0) (S 1007 0) (S 1100033 0) ∧ sm_MB (S 31) (S 1100030) (S 1053 0) (g2 1046 0) ∧ (g2 26 (S 1046 0)) = (0 : Int) ∧ (g2 29 (S 1046 0)) = (S 1056 0) ∧ (g2 1100007 (g2 1046 0)) = ((S 1100007 (S 1046 0)) + sm_dl (0 : Int) (p1)) ∧ (g2 1100023 (g2 1046 0)) = (sm_nt (0 : Int) (S 1046 0) (S 1100023 (S 1046 0)) (S 1100023 (S 1100023 (S 1046 0)))) ∧ (g2 1100024 (g2 1046 0)) = (sm_nd (0 : Int) (S 1100024 (S 1046 0))) ∧ (g2 1100025 (g2 1046 0)) = (sm_nl (0 : Int) (S 1046 0) (S 1100007 (S 1046 0)) (S 1100025 (S 1046 0)) (S 1100007 (S 1100025 (S 1046 0))) (S 1100025 (S 1100025 (S 1046 0)))) ∧ (g2 1100007 (g2 1100023 (g2 1046 0))) = sm_nt (0 : Int) (S 1100007 (S 1046 0)) (S 1100007 (S 1100023 (S 1046 0))) (S 1100007 (S 1100023 (S 1100023 (S 1046 0)))) ∧ ((0 : Int) = 29 → (g2 1100007 (g2 1100025 (g2 1046 0))) = (S 1100007 (S 1046 0))) ∧ ((0 : Int) = 17 → 0 ≤ (S 1100025 (S 1046 0)) → (S 1100007 (S 1100025 (S 1046 0))) = (S 1100007 (S 1046 0)) → (g2 1100007 (g2 1100025 (g2 1046 0))) = (S 1100007 (S 1100025 (S 1100025 (S 1046 0))))) ∧ (¬ (0 : Int) = 29 → ((0 : Int) = 17 → 0 ≤ (S 1100025 (S 1046 0)) → (S 1100007 (S 1100025 (S 1046 0))) < (S 1100007 (S 1046 0))) → (g2 1100007 (g2 1100025 (g2 1046 0))) = (S 1100007 (S 1100025 (S 1046 0))))))) := by
  intro p1
  intro p2
  intro S
  intro h1_
  intro h2_
  intro h3_
  rintro ⟨h4_, ⟨h5_, ⟨h6_, ⟨h7_, h8_⟩⟩⟩⟩
  refine ⟨?_, ?_⟩
  · skip
    refine ⟨h4_, ?_⟩
    refine ⟨h5_, ?_⟩
    refine ⟨h6_, ?_⟩
    refine ⟨h7_, ?_⟩
    intro h9_
    obtain ⟨h10_, ⟨h11_, ⟨h12_, ⟨h13_, ⟨h14_, h15_⟩⟩⟩⟩⟩ := (h8_ h9_)
    refine ⟨h10_, ?_⟩
    refine ⟨la_constant_0, ?_⟩
    refine ⟨la_constant_1, ?_⟩
    refine ⟨(sm_ci_0 (la_constant_2 (sm_KC_n h10_).2.1.1 h11_ h12_ h13_ h14_ h15_ (sm_dl_0 : sm_dl 0 p1 = 1) (sm_nt_0 : sm_nt 0 (S 1046 0) (S 1100023 (S 1046 0)) (S 1100023 (S 1100023 (S 1046 0))) = S 1100023 (S 1046 0)) (sm_nl_0 : sm_nl 0 (S 1046 0) (S 1100007 (S 1046 0)) (S 1100025 (S 1046 0)) (S 1100007 (S 1100025 (S 1046 0))) (S 1100025 (S 1100025 (S 1046 0))) = S 1100025 (S 1046 0)))), ?_⟩
    refine ⟨la_constant_3, ?_⟩
    intro h16_
    have h17_ := (h16_.resolve_left la_constant_4)
    have e18_ : S 1100007 (S 1100023 (S 1046 0)) = S 1100007 (S 1046 0) := congrArg ((S 1100007)) (la_constant_5 h17_)
    have e19_ : S 1100007 (S 1100025 (S 1046 0)) = S 1100007 (S 1046 0) := congrArg ((S 1100007)) (la_constant_5 h17_)
    have e20_ : S 1100007 (S 1100025 (S 1046 0)) = S 1100007 (S 1100023 (S 1046 0)) := congrArg ((S 1100007)) (la_constant_5 h17_)
    have e21_ : S 1100023 (S 1100023 (S 1046 0)) = S 1100023 (S 1046 0) := congrArg ((S 1100023)) (la_constant_5 h17_)
    have e22_ : S 1100025 (S 1100025 (S 1046 0)) = S 1100025 (S 1046 0) := congrArg ((S 1100025)) (la_constant_5 h17_)
    have h23_ := (h14_ (la_constant_6 h17_))
    have h24_ := (h15_ (la_constant_6 h17_))
    exact ((la_constant_7 h17_)).elim
  intro g2
  rintro ⟨h25_, ⟨h26_, ⟨h27_, ⟨h28_, ⟨h29_, ⟨h30_, ⟨h31_, ⟨h32_, ⟨h33_, ⟨h34_, ⟨h35_, ⟨h36_, ⟨h37_, ⟨h38_, ⟨h39_, ⟨h40_, h41_⟩⟩⟩⟩⟩⟩⟩⟩⟩⟩⟩⟩⟩⟩⟩⟩
  refine ⟨h25_, ?_⟩
  refine ⟨h26_, ?_⟩
  refine ⟨h27_, ?_⟩
  refine ⟨h28_, ?_⟩
  refine ⟨h29_, ?_⟩
  refine ⟨h30_, ?_⟩
  refine ⟨h31_, ?_⟩
  refine ⟨h32_, ?_⟩
  refine ⟨h33_, ?_⟩
  refine ⟨h34_, ?_⟩
  refine ⟨h35_, ?_⟩
  refine ⟨h36_, ?_⟩
  refine ⟨h37_, ?_⟩
  refine ⟨h38_, ?_⟩
  refine ⟨h39_, ?_⟩
  refine ⟨h40_, ?_⟩
  intro h42_
  have h43_ : ¬ (S 1047 0 = 1) := fun q_ => (la_constant_8 h42_) (h31_ q_)
  obtain ⟨h44_, ⟨h45_, ⟨h46_, ⟨h47_, ⟨h48_, ⟨h49_, ⟨h50_, ⟨h51_, ⟨h52_, ⟨h53_, ⟨h54_, ⟨h55_, ⟨h56_, h57_⟩⟩⟩⟩⟩⟩⟩⟩⟩⟩⟩⟩⟩ := (h41_ h42_)
  have h58_ := (h57_ la_constant_10)
  obtain ⟨h59_, ⟨h60_, ⟨h61_, ⟨h62_, ⟨h63_, h64_⟩⟩⟩⟩⟩ := (h8_ h44_)
  have h65_ := (h58_ la_constant_12)
  refine ⟨h44_, ?_⟩
  refine ⟨h45_, ?_⟩
  refine ⟨h46_, ?_⟩
  refine ⟨h47_, ?_⟩
  refine ⟨h48_, ?_⟩
  refine ⟨h49_, ?_⟩
  refine ⟨h50_, ?_⟩
  refine ⟨h51_, ?_⟩
  refine ⟨h52_, ?_⟩
  refine ⟨h53_, ?_⟩
  refine ⟨h54_, ?_⟩
  refine ⟨h55_, ?_⟩
  refine ⟨h56_, ?_⟩
  intro h66_
  intro h67_
  exact h65_
set_option maxRecDepth 8000 in
set_option maxHeartbeats 2000000 in
theorem t_constant : ∀ (p1 : Int) (p2 : Int) (S : sv_S), sm_ok S → sv_R p1 → sv_R p2 → (0 ≤ (S 1046 0) ∧ (S 1046 0) ≤ 600 ∧ 0 ≤ (S 1047 0) ∧ (S 1047 0) ≤ 1 ∧ ((S 1047 0) = 0 → sm_KC (S 26) (S 27) (S 28) (S 29) (S 1100007) (S 1100023) (S 1100024) (S 1100025) (S 31) (S 1100009) (S 1100027) (S 1100028) (S 1100026) (S 1100030) (S 21) (S 32) (S 33) (S 1046 0) (S 1053 0) (S 1056 0) (S 1032 0) (S 1007 0) (S 1100033 0) ∧ 0 ≤ p1 ∧ p1 ≤ 6 ∧ (p1 = 6 → 0 ≤ p2 ∧ p2 < (S 1007 0)) ∧ (0 ≤ (S 1100023 (S 1046 0)) → (S 1100007 (S 1100023 (S 1046 0))) ≤ (S 1100007 (S 1046 0))) ∧ (0 ≤ (S 1100025 (S 1046 0)) → (S 1100007 (S 1100025 (S 1046 0))) ≤ (S 1100007 (S 1046 0))))) → sv_T sm_XS sm_cs sm_L sm_sh 1 (q_constant p1 p2 S) 90 0 (lv_args 0 [.ref 0, sv_I p1, sv_I p2]) [] S := by
  intro p1 p2 S hok hp1 hp2 hpre
  have h := f_constant p1 p2 S hok hp1 hp2 hpre
  have hM := sm_h90
  show sv_T sm_XS sm_cs sm_L sm_sh 1 (q_constant p1 p2 S) 90 0 [(0, .ref 0), (1, sv_I p1), (2, sv_I p2)] [] S
  refine sv_aload_n hM dX12_constant_0 rfl rfl ?_
  refine sv_iconst (d := (0 : Int)) hM dX12_constant_1 rfl rfl ?_
  refine sv_iload_n hM dX12_constant_2 rfl rfl ?_
  refine sv_iload_n hM dX12_constant_3 rfl rfl ?_
  obtain ⟨o1, h⟩ := h
  refine sv_callV hM dX12_constant_4 sm_iv_615 (by decide) (sm_a0 _) rfl rfl (Nat.le_of_ble_eq_true rfl) sm_h82 (Nat.le_of_ble_eq_true rfl) (Nat.le_of_ble_eq_true rfl) (F' := 0) (Nat.le_of_ble_eq_true rfl) rfl (t_emit (0 : Int) p1 p2 S hok (⟨by decide, by decide⟩ : sv_R (0 : Int)) hp1 hp2 o1) (fun v S1 hq => ?_)
  obtain ⟨rfl, ok3, md4, hpo5⟩ := hq
  obtain ⟨g2, rfl⟩ : ∃ g, S1 = sv_sts S [26, 27, 28, 29, 1046, 1047, 1100007, 1100023, 1100024, 1100025] g := ⟨_, md4.eq⟩
  show sv_T sm_XS sm_cs sm_L sm_sh 1 (q_constant p1 p2 S) 90 7 [(0, .ref 0), (1, sv_I p1), (2, sv_I p2)] [] (sv_sts S [26, 27, 28, 29, 1046, 1047, 1100007, 1100023, 1100024, 1100025] g2)
  have md6 : sv_mod [26, 27, 28, 29, 1046, 1047, 1100007, 1100023, 1100024, 1100025] S (sv_sts S [26, 27, 28, 29, 1046, 1047, 1100007, 1100023, 1100024, 1100025] g2) := sv_mod.sts sv_mod.rf (by decide)
  have h := h g2 hpo5
  exact sv_vret hM dX12_constant_7 rfl ⟨rfl, ok3, md6, h⟩
def q_mark (S : sv_S) : Option Value → sv_S → Prop := fun v S' => ∃ r : Int, v = some (sv_I r) ∧ sv_R r ∧ sm_ok S' ∧ sv_mod [1053] S S' ∧ (r = (S 1053 0) ∧ (S' 1053 0) = r + 1)
theorem la_mark_0 {x0 : Int} (h0 : 0 ≤ x0) (h1 : x0 ≤ 100000) : sv_R (x0 + 1) := by omega
theorem la_mark_1 {x0 : Int} (h0 : 0 ≤ x0) (h1 : x0 ≤ 100000) : sv_R (x0 + 1 - 1) := by omega
theorem la_mark_2 {x0 : Int} : x0 + 1 - 1 = x0 := by omega
theorem la_mark_3 {x0 : Int} : x0 + 1 = x0 + 1 - 1 + 1 := by omega
set_option maxHeartbeats 2000000 in
theorem f_mark : ∀ (S : sv_S), sm_ok S → (0 ≤ (S 1053 0) ∧ (S 1053 0) ≤ 100000) → (sv_R (S 1053 0) → (sv_R ((S 1053 0) + (1 : Int))) ∧ (sv_R (((S 1053 0) + (1 : Int)) - (1 : Int))) ∧ ((((S 1053 0) + (1 : Int)) - (1 : Int)) = (S 1053 0) ∧ ((S 1053 0) + (1 : Int)) = (((S 1053 0) + (1 : Int)) - (1 : Int)) + 1)) := by
  intro S
  intro h1_
  rintro ⟨h2_, h3_⟩
  intro h4_
  refine ⟨(la_mark_0 h2_ h3_), ?_⟩
  refine ⟨(la_mark_1 h2_ h3_), ?_⟩
  refine ⟨la_mark_2, ?_⟩
  exact la_mark_3
set_option maxRecDepth 8000 in
set_option maxHeartbeats 2000000 in
theorem t_mark : ∀ (S : sv_S), sm_ok S → (0 ≤ (S 1053 0) ∧ (S 1053 0) ≤ 100000) → sv_T sm_XS sm_cs sm_L sm_sh 0 (q_mark S) 84 0 (lv_args 0 [.ref 0]) [] S := by
  intro S hok hpre
  have h := f_mark S hok hpre
  have hM := sm_h84
  show sv_T sm_XS sm_cs sm_L sm_sh 0 (q_mark S) 84 0 [(0, .ref 0)] [] S
  refine sv_aload_n hM dX12_mark_0 rfl rfl ?_
  refine sv_dupA hM dX12_mark_1 rfl ?_
  have k1 : sv_R (S 1053 0) := sm_okI hok sm_r1053 0
  have h := h k1
  refine sv_getI hM dX12_mark_2 sm_fl_619 (sm_a0 _) sm_k53 rfl (x := (S 1053 0)) rfl ?_
  refine sv_iconst (d := (1 : Int)) hM dX12_mark_5 rfl rfl ?_
  refine sv_iadd hM dX12_mark_6 rfl ?_
  obtain ⟨o2, h⟩ := h
  refine sv_putI sm_X hM dX12_mark_7 sm_fp_619 (sm_a0 _) sm_q53 (Or.inl rfl) rfl rfl rfl rfl ?_
  have ok3 : sm_ok (sv_up S 1053 0 ((S 1053 0) + (1 : Int))) := sm_upI hok sm_r1053 o2
  have md4 : sv_mod [1053] S (sv_up S 1053 0 ((S 1053 0) + (1 : Int))) := sv_mod.up sv_mod.rf (by decide)
  refine sv_aload_n hM dX12_mark_10 rfl rfl ?_
  refine sv_getI hM dX12_mark_11 sm_fl_619 (sm_a0 _) sm_k53 rfl (x := ((S 1053 0) + (1 : Int))) rfl ?_
  refine sv_iconst (d := (1 : Int)) hM dX12_mark_14 rfl rfl ?_
  refine sv_isub hM dX12_mark_15 rfl ?_
  obtain ⟨o5, h⟩ := h
  exact sv_iret hM dX12_mark_16 rfl rfl ⟨(((S 1053 0) + (1 : Int)) - (1 : Int)), rfl, o5, ok3, md4, h⟩
def q_here (p1 : Int) (S : sv_S) : Option Value → sv_S → Prop := fun v S' => v = none ∧ sm_ok S' ∧ sv_mod [31, 1100030] S S' ∧ (((S' 1047 0) = 0 → sm_KC (S' 26) (S' 27) (S' 28) (S' 29) (S' 1100007) (S' 1100023) (S' 1100024) (S' 1100025) (S' 31) (S' 1100009) (S' 1100027) (S' 1100028) (S' 1100026) (S' 1100030) (S' 21) (S' 32) (S' 33) (S' 1046 0) (S' 1053 0) (S' 1056 0) (S' 1032 0) (S' 1007 0) (S' 1100033 0)) ∧ (S' 1100030 p1) = 1 ∧ (∀ k : Int, ¬ k = p1 → (S' 1100030 k) = (S 1100030 k)) ∧ (∀ k : Int, ¬ k = p1 → (S' 31 k) = (S 31 k)))
theorem la_here_0 {x0 : Int} (h0 : 0 ≤ x0) (h1 : x0 < 8000) : 0 ≤ x0 ∧ x0 < 8000 := by omega
theorem la_here_1 {x0 : Int} : x0 = x0 := by omega
set_option maxHeartbeats 2000000 in
theorem f_here : ∀ (p1 : Int) (S : sv_S), sm_ok S → sv_R p1 → (0 ≤ p1 ∧ p1 < 8000 ∧ ((S 1047 0) = 0 → sm_KC (S 26) (S 27) (S 28) (S 29) (S 1100007) (S 1100023) (S 1100024) (S 1100025) (S 31) (S 1100009) (S 1100027) (S 1100028) (S 1100026) (S 1100030) (S 21) (S 32) (S 33) (S 1046 0) (S 1053 0) (S 1056 0) (S 1032 0) (S 1007 0) (S 1100033 0) ∧ p1 < (S 1053 0) ∧ (S 1100007 (S 1046 0)) = (S 1100009 p1) ∧ (S 1100023 (S 1046 0)) = (S 1100027 p1) ∧ (S 1100025 (S 1046 0)) = (S 1100028 p1) ∧ (S 1056 0) = (S 1100026 p1))) → (sv_R (S 1046 0) → (0 ≤ p1 ∧ p1 < 8000) ∧ (((S 1047 0) = 0 → sm_KC (S 26) (S 27) (S 28) (S 29) (S 1100007) (S 1100023) (S 1100024) (S 1100025) (S 31) (S 1100009) (S 1100027) (S 1100028) (S 1100026) (S 1100030) (S 21) (S 32) (S 33) (S 1046 0) (S 1053 0) (S 1056 0) (S 1032 0) (S 1007 0) (S 1100033 0) → 0 ≤ p1 → (S 1100007 (S 1046 0)) = (S 1100009 p1) → (S 1100023 (S 1046 0)) = (S 1100027 p1) → (S 1100025 (S 1046 0)) = (S 1100028 p1) → (S 1056 0) = (S 1100026 p1) → sm_KC (S 26) (S 27) (S 28) (S 29) (S 1100007) (S 1100023) (S 1100024) (S 1100025) (fun i' : Int => if i' = p1 then (S 1046 0) else (S 31) i') (S 1100009) (S 1100027) (S 1100028) (S 1100026) (fun i' : Int => if i' = p1 then (1 : Int) else (S 1100030) i') (S 21) (S 32) (S 33) (S 1046 0) (S 1053 0) (S 1056 0) (S 1032 0) (S 1007 0) (S 1100033 0)) → (((S 1047 0) = 0 → sm_KC (S 26) (S 27) (S 28) (S 29) (S 1100007) (S 1100023) (S 1100024) (S 1100025) (fun i' : Int => if i' = p1 then (S 1046 0) else (S 31) i') (S 1100009) (S 1100027) (S 1100028) (S 1100026) (fun i' : Int => if i' = p1 then (1 : Int) else (S 1100030) i') (S 21) (S 32) (S 33) (S 1046 0) (S 1053 0) (S 1056 0) (S 1032 0) (S 1007 0) (S 1100033 0)) ∧ (if p1 = p1 then (1 : Int) else (S 1100030 p1)) = 1 ∧ (∀ k : Int, ¬ k = p1 → (if k = p1 then (1 : Int) else (S 1100030 k)) = (S 1100030 k)) ∧ (∀ k : Int, ¬ k = p1 → (if k = p1 then (S 1046 0) else (S 31 k)) = (S 31 k))))) := by
  intro p1
  intro S
  intro h1_
  intro h2_
  rintro ⟨h3_, ⟨h4_, h5_⟩⟩
  intro h6_
  refine ⟨(la_here_0 h3_ h4_), ?_⟩
  intro h7_
  refine ⟨?_, ?_⟩
  · skip
    intro h8_
    obtain ⟨h9_, ⟨h10_, ⟨h11_, ⟨h12_, ⟨h13_, h14_⟩⟩⟩⟩⟩ := (h5_ h8_)
    have h15_ := (h7_ h8_)
    have h16_ := (h15_ h9_)
    have h17_ := (h16_ h3_)
    have h18_ := (h17_ h11_)
    have h19_ := (h18_ h12_)
    have h20_ := (h19_ h13_)
    have h21_ := (h20_ h14_)
    exact h21_
  refine ⟨?_, ?_⟩
  · skip
    have e22_ : (if p1 = p1 then 1 else S 1100030 p1 : Int) = 1 := if_pos la_here_1
    exact e22_
  refine ⟨?_, ?_⟩
  · skip
    intro k
    intro h23_
    have e24_ : (if k = p1 then 1 else S 1100030 k : Int) = S 1100030 k := if_neg h23_
    exact e24_
  intro kv1
  intro h25_
  have e26_ : (if kv1 = p1 then S 1046 0 else S 31 kv1 : Int) = S 31 kv1 := if_neg h25_
  exact e26_
set_option maxRecDepth 8000 in
set_option maxHeartbeats 2000000 in
theorem t_here : ∀ (p1 : Int) (S : sv_S), sm_ok S → sv_R p1 → (0 ≤ p1 ∧ p1 < 8000 ∧ ((S 1047 0) = 0 → sm_KC (S 26) (S 27) (S 28) (S 29) (S 1100007) (S 1100023) (S 1100024) (S 1100025) (S 31) (S 1100009) (S 1100027) (S 1100028) (S 1100026) (S 1100030) (S 21) (S 32) (S 33) (S 1046 0) (S 1053 0) (S 1056 0) (S 1032 0) (S 1007 0) (S 1100033 0) ∧ p1 < (S 1053 0) ∧ (S 1100007 (S 1046 0)) = (S 1100009 p1) ∧ (S 1100023 (S 1046 0)) = (S 1100027 p1) ∧ (S 1100025 (S 1046 0)) = (S 1100028 p1) ∧ (S 1056 0) = (S 1100026 p1))) → sv_T sm_XS sm_cs sm_L sm_sh 0 (q_here p1 S) 85 0 (lv_args 0 [.ref 0, sv_I p1]) [] S := by
  intro p1 S hok hp1 hpre
  have h := f_here p1 S hok hp1 hpre
  have hM := sm_h85
  show sv_T sm_XS sm_cs sm_L sm_sh 0 (q_here p1 S) 85 0 [(0, .ref 0), (1, sv_I p1)] [] S
  refine sv_aload_n hM dX12_here_0 rfl rfl ?_
  refine sv_getA hM dX12_here_1 sm_fl_104 (sm_a0 _) sm_k54 rfl ?_
  refine sv_iload_n hM dX12_here_4 rfl rfl ?_
  refine sv_aload_n hM dX12_here_5 rfl rfl ?_
  have k1 : sv_R (S 1046 0) := sm_okI hok sm_r1046 0
  have h := h k1
  refine sv_getI hM dX12_here_6 sm_fl_606 (sm_a0 _) sm_k46 rfl (x := (S 1046 0)) rfl ?_
  obtain ⟨o2, h⟩ := h
  refine sv_iast sm_X hM dX12_here_9 (sm_a31 _) (by decide) o2.1 o2.2 rfl ?_
  have ok3 : sm_ok (sv_up S 31 p1 (S 1046 0)) := sm_upI hok sm_r31 k1
  have md4 : sv_mod [31, 1100030] S (sv_up S 31 p1 (S 1046 0)) := sv_mod.up sv_mod.rf (by decide)
  refine sv_ghost sm_X 1100030 p1 (1 : Int) (by decide) ?_
  have ok5 : sm_ok (sv_up (sv_up S 31 p1 (S 1046 0)) 1100030 p1 (1 : Int)) := sm_upI ok3 sm_r1100030 (⟨by decide, by decide⟩ : sv_R (1 : Int))
  have md6 : sv_mod [31, 1100030] S (sv_up (sv_up S 31 p1 (S 1046 0)) 1100030 p1 (1 : Int)) := sv_mod.up md4 (by decide)
  have k7 : ((S 1047 0) = 0 → sm_KC (S 26) (S 27) (S 28) (S 29) (S 1100007) (S 1100023) (S 1100024) (S 1100025) (S 31) (S 1100009) (S 1100027) (S 1100028) (S 1100026) (S 1100030) (S 21) (S 32) (S 33) (S 1046 0) (S 1053 0) (S 1056 0) (S 1032 0) (S 1007 0) (S 1100033 0) → 0 ≤ p1 → (S 1100007 (S 1046 0)) = (S 1100009 p1) → (S 1100023 (S 1046 0)) = (S 1100027 p1) → (S 1100025 (S 1046 0)) = (S 1100028 p1) → (S 1056 0) = (S 1100026 p1) → sm_KC (S 26) (S 27) (S 28) (S 29) (S 1100007) (S 1100023) (S 1100024) (S 1100025) (fun i' : Int => if i' = p1 then (S 1046 0) else (S 31) i') (S 1100009) (S 1100027) (S 1100028) (S 1100026) (fun i' : Int => if i' = p1 then (1 : Int) else (S 1100030) i') (S 21) (S 32) (S 33) (S 1046 0) (S 1053 0) (S 1056 0) (S 1032 0) (S 1007 0) (S 1100033 0)) := fun _ h _ a b d e => sm_KC_here h a b d e rfl rfl rfl
  have h := h k7
  exact sv_vret hM dX12_here_10 rfl ⟨rfl, ok5, md6, h⟩
def q_isVariable (p1 : Int) (p2 : Int) (S : sv_S) : Option Value → sv_S → Prop := fun v S' => ∃ r : Int, v = some (sv_I r) ∧ sv_R r ∧ sm_ok S' ∧ sv_mod [] S S' ∧ ((r = 0 ∨ r = 1) ∧ (r = 1 → sm_vh (S' 32) (S' 33) p1 p2))
theorem la_isVariable_0 : (0 : Int) = 0 ∨ (0 : Int) = 1 := by omega
theorem la_isVariable_1 (h0 : (0 : Int) = 1) : False := by omega
theorem la_isVariable_2 : (0 : Int) ≤ 0 := by omega
theorem la_isVariable_3 {x0 : Int} : 0 ≤ x0 ∨ (0 : Int) = 0 := by omega
theorem la_isVariable_4 {x0 x1 : Int} (h0 : x0 < x1) : x0 ≤ x1 := by omega
theorem la_isVariable_5 {x0 x1 x2 : Int} (h0 : x0 < x1) (h1 : x2 = x1 - x0) : 0 ≤ x2 := by omega
theorem la_isVariable_6 {x0 : Int} (h0 : x0 = 0) : 0 ≤ x0 := by omega
theorem la_isVariable_7 {x0 : Int} (h0 : 0 ≤ x0) (h1 : x0 ≤ 11) : 0 ≤ x0 ∧ x0 < 12 := by omega
theorem la_isVariable_8 {x0 : Int} (h0 : x0 = 0 ∨ x0 = 1) : 0 ≤ x0 := by omega
theorem la_isVariable_9 {x0 : Int} (h0 : x0 = 0 ∨ x0 = 1) : x0 ≤ 1 := by omega
theorem la_isVariable_10 {x0 : Int} (h0 : x0 = 1) : ¬ x0 = 0 := by omega
theorem la_isVariable_11 {x0 x1 : Int} (h0 : ¬ x0 ≤ x1) : x1 ≤ x0 := by omega
theorem la_isVariable_12 {x0 x1 : Int} (h0 : x0 ≤ 100) (h1 : 0 ≤ x1) (h2 : ¬ x0 ≤ x1) : sv_R (x1 + 1) := by omega
theorem la_isVariable_13 {x0 x1 : Int} (h0 : 0 ≤ x0) (h1 : ¬ x1 ≤ x0) : 0 ≤ x0 + 1 ∧ (x0 + 1 ≤ x1 ∨ x0 + 1 = 0) := by omega
theorem la_isVariable_14 {x0 x1 : Int} (h0 : ¬ x0 ≤ x1) : x1 < x0 := by omega
theorem la_isVariable_15 {x0 x1 x2 x3 : Int} (h0 : x0 = x1 - x2) (h1 : x3 = x1 - (x2 + 1)) : x3 < x0 := by omega
theorem la_isVariable_16 {x0 x1 x2 x3 : Int} (h0 : ¬ x0 ≤ x1) (h1 : x2 = x0 - x1) (h2 : x3 = 0) : x3 < x2 := by omega
theorem la_isVariable_17 {x0 : Int} (h0 : x0 = 1) : 0 ≤ x0 := by omega
theorem la_isVariable_18 {x0 : Int} (h0 : 0 ≤ x0) (h1 : ¬ x0 = 0) : 0 < x0 := by omega
theorem la_isVariable_19 : (1 : Int) = 0 ∨ (1 : Int) = 1 := by omega
theorem la_isVariable_20 {x0 : Int} (h0 : ¬ ¬ x0 = 0) : ¬ x0 = 1 := by omega
theorem la_isVariable_21 {x0 x1 x2 : Int} (h0 : 0 ≤ x0) (h1 : x0 ≤ 11) (h2 : x1 ≤ 100) (h3 : 0 ≤ x2) (h4 : ¬ x1 ≤ x2) : 0 ≤ 100 * x0 + x2 ∧ 100 * x0 + x2 < 1200 := by omega
theorem la_isVariable_22 {x0 x1 : Int} (h0 : ¬ ¬ x0 = x1) : x0 = x1 := by omega
set_option maxHeartbeats 2000000 in
theorem f_isVariable : ∀ (p1 : Int) (p2 : Int) (S : sv_S), sm_ok S → sv_R p1 → sv_R p2 → (0 ≤ p1 ∧ p1 ≤ 11 ∧ (S 33 p1) ≤ 100) → ((((0 : Int) = 0 ∨ (0 : Int) = 1) ∧ ((0 : Int) = 1 → sm_vh (S 32) (S 33) p1 p2) ∧ 0 ≤ (0 : Int) ∧ ((0 : Int) ≤ (S 33 p1) ∨ (0 : Int) = 0)) ∧ (∀ l3_1 : Int, sv_R l3_1 → ∀ l4_2 : Int, sv_R l4_2 → ((l3_1 = 0 ∨ l3_1 = 1) ∧ (l3_1 = 1 → sm_vh (S 32) (S 33) p1 p2) ∧ 0 ≤ l4_2 ∧ (l4_2 ≤ (S 33 p1) ∨ l4_2 = 0)) → (0 ≤ (if l4_2 < (S 33 p1) then (S 33 p1) - l4_2 else 0)) ∧ (0 ≤ p1 ∧ p1 < 12) ∧ (sv_R (S 33 p1) → ((((S 33 p1) ≤ l4_2) → (0 ≤ l3_1 ∧ l3_1 ≤ 1) ∧ ((l3_1 = 0 ∨ l3_1 = 1) ∧ (l3_1 = 1 → sm_vh (S 32) (S 33) p1 p2))) ∧ ((¬ ((S 33 p1) ≤ l4_2)) → ((∀ s9 : Int, sv_R s9 → ((s9 = 0 ∨ s9 = 1) ∧ (s9 = 1 → sm_vh (S 32) (S 33) p1 p2)) → (sv_R (l4_2 + (1 : Int))) ∧ (((s9 = 0 ∨ s9 = 1) ∧ (s9 = 1 → sm_vh (S 32) (S 33) p1 p2) ∧ 0 ≤ (l4_2 + (1 : Int)) ∧ ((l4_2 + (1 : Int)) ≤ (S 33 p1) ∨ (l4_2 + (1 : Int)) = 0)) ∧ ((if (l4_2 + (1 : Int)) < (S 33 p1) then (S 33 p1) - (l4_2 + (1 : Int)) else 0)) < ((if l4_2 < (S 33 p1) then (S 33 p1) - l4_2 else 0)))) ∧ (((¬ l3_1 = (0 : Int)) → ((0 ≤ l4_2 → l4_2 < (S 33 p1) → (S 32 (100 * p1 + l4_2)) = p2 → sm_vh (S 32) (S 33) p1 p2) → (((1 : Int) = 0 ∨ (1 : Int) = 1) ∧ ((1 : Int) = 1 → sm_vh (S 32) (S 33) p1 p2)))) ∧ ((¬ (¬ l3_1 = (0 : Int))) → (0 ≤ (((100 : Int) * p1) + l4_2) ∧ (((100 : Int) * p1) + l4_2) < 1200) ∧ (sv_R (S 32 (((100 : Int) * p1) + l4_2)) → (((¬ (S 32 (((100 : Int) * p1) + l4_2)) = p2) → (((0 : Int) = 0 ∨ (0 : Int) = 1) ∧ ((0 : Int) = 1 → sm_vh (S 32) (S 33) p1 p2))) ∧ ((¬ (¬ (S 32 (((100 : Int) * p1) + l4_2)) = p2)) → ((0 ≤ l4_2 → l4_2 < (S 33 p1) → (S 32 (100 * p1 + l4_2)) = p2 → sm_vh (S 32) (S 33) p1 p2) → (((1 : Int) = 0 ∨ (1 : Int) = 1) ∧ ((1 : Int) = 1 → sm_vh (S 32) (S 33) p1 p2)))))))))))))) := by
  intro p1
  intro p2
  intro S
  intro h1_
  intro h2_
  intro h3_
  rintro ⟨h4_, ⟨h5_, h6_⟩⟩
  refine ⟨?_, ?_⟩
  · skip
    refine ⟨la_isVariable_0, ?_⟩
    refine ⟨?_, ?_⟩
    · skip
      intro h7_
      exact ((la_isVariable_1 h7_)).elim
    refine ⟨la_isVariable_2, ?_⟩
    exact la_isVariable_3
  intro l3_1
  intro h8_
  intro l4_2
  intro h9_
  rintro ⟨h10_, ⟨h11_, ⟨h12_, h13_⟩⟩⟩
  refine ⟨?_, ?_⟩
  · skip
    by_cases c14_ : l4_2 < S 33 p1
    · skip
      have e15_ : (if l4_2 < S 33 p1 then S 33 p1 - l4_2 else 0 : Int) = S 33 p1 - l4_2 := if_pos c14_
      exact (la_isVariable_5 c14_ e15_)
    · skip
      have e16_ : (if l4_2 < S 33 p1 then S 33 p1 - l4_2 else 0 : Int) = 0 := if_neg c14_
      exact (la_isVariable_6 e16_)
  refine ⟨(la_isVariable_7 h4_ h5_), ?_⟩
  intro h17_
  refine ⟨?_, ?_⟩
  · skip
    intro h18_
    refine ⟨?_, ?_⟩
    · skip
      refine ⟨?_, ?_⟩
      · skip
        exact (la_isVariable_8 h10_)
      exact (la_isVariable_9 h10_)
    refine ⟨h10_, ?_⟩
    intro h19_
    have h20_ := (h10_.resolve_left (la_isVariable_10 h19_))
    have h21_ := (h11_ h19_)
    exact h21_
  intro h22_
  refine ⟨?_, ?_⟩
  · skip
    intro s9
    intro h23_
    rintro ⟨h24_, h25_⟩
    refine ⟨(la_isVariable_12 h6_ h12_ h22_), ?_⟩
    refine ⟨⟨h24_, ⟨h25_, (la_isVariable_13 h12_ h22_)⟩⟩, ?_⟩
    have e26_ : (if l4_2 < S 33 p1 then S 33 p1 - l4_2 else 0 : Int) = S 33 p1 - l4_2 := if_pos (la_isVariable_14 h22_)
    by_cases c27_ : l4_2 + 1 < S 33 p1
    · skip
      have e28_ : (if l4_2 + 1 < S 33 p1 then S 33 p1 - (l4_2 + 1) else 0 : Int) = S 33 p1 - (l4_2 + 1) := if_pos c27_
      exact (la_isVariable_15 e26_ e28_)
    · skip
      have e29_ : (if l4_2 + 1 < S 33 p1 then S 33 p1 - (l4_2 + 1) else 0 : Int) = 0 := if_neg c27_
      exact (la_isVariable_16 h22_ e26_ e29_)
  refine ⟨?_, ?_⟩
  · skip
    intro h30_
    have h31_ := (h10_.resolve_left h30_)
    have h32_ := (h11_ h31_)
    intro h33_
    have h34_ := (h33_ h12_)
    have h35_ := (h34_ (la_isVariable_14 h22_))
    refine ⟨la_isVariable_19, ?_⟩
    intro h36_
    exact h32_
  intro h37_
  have h38_ := (h10_.resolve_right (la_isVariable_20 h37_))
  refine ⟨(la_isVariable_21 h4_ h5_ h6_ h12_ h22_), ?_⟩
  intro h39_
  refine ⟨?_, ?_⟩
  · skip
    intro h40_
    refine ⟨la_isVariable_0, ?_⟩
    intro h41_
    exact ((la_isVariable_1 h41_)).elim
  intro h42_
  intro h43_
  have h44_ := (h43_ h12_)
  have h45_ := (h44_ (la_isVariable_14 h22_))
  have h46_ := (h45_ (la_isVariable_22 h42_))
  refine ⟨la_isVariable_19, ?_⟩
  intro h47_
  exact h46_
set_option maxRecDepth 8000 in
set_option maxHeartbeats 2000000 in
theorem t_isVariable : ∀ (p1 : Int) (p2 : Int) (S : sv_S), sm_ok S → sv_R p1 → sv_R p2 → (0 ≤ p1 ∧ p1 ≤ 11 ∧ (S 33 p1) ≤ 100) → sv_T sm_XS sm_cs sm_L sm_sh 0 (q_isVariable p1 p2 S) 86 0 (lv_args 0 [.ref 0, sv_I p1, sv_I p2]) [] S := by
  intro p1 p2 S hok hp1 hp2 hpre
  have h := f_isVariable p1 p2 S hok hp1 hp2 hpre
  have hM := sm_h86
  show sv_T sm_XS sm_cs sm_L sm_sh 0 (q_isVariable p1 p2 S) 86 0 [(0, .ref 0), (1, sv_I p1), (2, sv_I p2)] [] S
  refine sv_iconst (d := (0 : Int)) hM dX12_isVariable_0 rfl rfl ?_
  refine sv_istore_n hM dX12_isVariable_1 (by decide) rfl ?_
  show sv_T sm_XS sm_cs sm_L sm_sh 0 (q_isVariable p1 p2 S) 86 2 [(0, .ref 0), (1, sv_I p1), (2, sv_I p2), (3, sv_I (0 : Int))] [] S
  refine sv_iconst (d := (0 : Int)) hM dX12_isVariable_2 rfl rfl ?_
  refine sv_istore hM dX12_isVariable_3 (by decide) rfl ?_
  show sv_T sm_XS sm_cs sm_L sm_sh 0 (q_isVariable p1 p2 S) 86 5 [(0, .ref 0), (1, sv_I p1), (2, sv_I p2), (3, sv_I (0 : Int)), (4, sv_I (0 : Int))] [] S
  obtain ⟨hin4, h⟩ := h
  have hJ : ∀ a : Int × Int × Unit, (sv_R a.1 ∧ sv_R a.2.1 ∧ sm_ok S ∧ ((a.1 = 0 ∨ a.1 = 1) ∧ (a.1 = 1 → sm_vh (S 32) (S 33) p1 p2) ∧ 0 ≤ a.2.1 ∧ (a.2.1 ≤ (S 33 p1) ∨ a.2.1 = 0))) → sv_T sm_XS sm_cs sm_L sm_sh 0 (q_isVariable p1 p2 S) 86 5 [(0, .ref 0), (1, sv_I p1), (2, sv_I p2), (3, sv_I a.1), (4, sv_I a.2.1)] [] S := by
    refine sv_loop (α := Int × Int × Unit) (fun a => sv_R a.1 ∧ sv_R a.2.1 ∧ sm_ok S ∧ ((a.1 = 0 ∨ a.1 = 1) ∧ (a.1 = 1 → sm_vh (S 32) (S 33) p1 p2) ∧ 0 ≤ a.2.1 ∧ (a.2.1 ≤ (S 33 p1) ∨ a.2.1 = 0))) (fun a => (if a.2.1 < (S 33 p1) then (S 33 p1) - a.2.1 else 0)) (fun a => sv_T sm_XS sm_cs sm_L sm_sh 0 (q_isVariable p1 p2 S) 86 5 [(0, .ref 0), (1, sv_I p1), (2, sv_I p2), (3, sv_I a.1), (4, sv_I a.2.1)] [] S) (fun a q => (h a.1 q.1 a.2.1 q.2.1 q.2.2.2).1) (fun a q ih3 => ?_)
    obtain ⟨l3_1, l4_2, _u⟩ := a
    obtain ⟨hl3_1, hl4_2, ok5, hin4i⟩ := q
    have h := (h l3_1 hl3_1 l4_2 hl4_2 hin4i).2
    show sv_T sm_XS sm_cs sm_L sm_sh 0 (q_isVariable p1 p2 S) 86 5 [(0, .ref 0), (1, sv_I p1), (2, sv_I p2), (3, sv_I l3_1), (4, sv_I l4_2)] [] S
    refine sv_iload hM dX12_isVariable_5 rfl rfl ?_
    refine sv_aload_n hM dX12_isVariable_7 rfl rfl ?_
    refine sv_getA hM dX12_isVariable_8 sm_fl_110 (sm_a0 _) sm_k58 rfl ?_
    refine sv_iload_n hM dX12_isVariable_11 rfl rfl ?_
    obtain ⟨o6, h⟩ := h
    have k7 : sv_R (S 33 p1) := sm_okI ok5 sm_r33 p1
    have h := h k7
    refine sv_iald hM dX12_isVariable_12 (sm_a33 _) (by decide) o6.1 o6.2 rfl (x := (S 33 p1)) rfl ?_
    refine sv_icmp_ge hM dX12_isVariable_13 hl4_2 k7 (t := 48) rfl rfl (fun hc => ?_) (fun hc => ?_)
    · have h := h.1 (hc)
      refine sv_iload_n hM dX12_isVariable_48 rfl rfl ?_
      obtain ⟨o8, h⟩ := h
      exact sv_iret hM dX12_isVariable_49 rfl (sv_nz o8) ⟨l3_1, rfl, sv_R01 o8, ok5, sv_mod.rf, h⟩
    · have h := h.2 (hc)
      have J12 : ∀ s9 : Int, sv_R s9 → ((s9 = 0 ∨ s9 = 1) ∧ (s9 = 1 → sm_vh (S 32) (S 33) p1 p2)) → sv_T sm_XS sm_cs sm_L sm_sh 0 (q_isVariable p1 p2 S) 86 41 [(0, .ref 0), (1, sv_I p1), (2, sv_I p2), (3, sv_I l3_1), (4, sv_I l4_2)] [sv_I s9] S := by
        intro s9 hs9 hin10
        have h := h.1 s9 hs9 hin10
        refine sv_istore_n hM dX12_isVariable_41 (by decide) rfl ?_
        show sv_T sm_XS sm_cs sm_L sm_sh 0 (q_isVariable p1 p2 S) 86 42 [(0, .ref 0), (1, sv_I p1), (2, sv_I p2), (3, sv_I s9), (4, sv_I l4_2)] [] S
        refine sv_iinc (d := (1 : Int)) hM dX12_isVariable_42 rfl (by decide) rfl rfl ?_
        show sv_T sm_XS sm_cs sm_L sm_sh 0 (q_isVariable p1 p2 S) 86 45 [(0, .ref 0), (1, sv_I p1), (2, sv_I p2), (3, sv_I s9), (4, sv_I (l4_2 + (1 : Int)))] [] S
        refine sv_goto hM dX12_isVariable_45 (pc' := 5) rfl ?_
        obtain ⟨o11, h⟩ := h
        have hb := ih3 (s9, (l4_2 + (1 : Int)), ()) ⟨hs9, o11, ok5, h.1⟩ h.2
        exact sv_less (lv := [(0, .ref 0), (1, sv_I p1), (2, sv_I p2), (3, sv_I s9), (4, sv_I (l4_2 + (1 : Int)))]) (sv_Sub_cons rfl (sv_Sub_cons rfl (sv_Sub_cons rfl (sv_Sub_cons rfl (sv_Sub_cons rfl sv_Sub_nil))))) hb
      have h := h.2
      refine sv_iload_n hM dX12_isVariable_16 rfl rfl ?_
      refine sv_cond_ne hM dX12_isVariable_17 hl3_1 (t := 36) rfl rfl (fun hc => ?_) (fun hc => ?_)
      · have h := h.1 (hc)
        have k13 : (0 ≤ l4_2 → l4_2 < (S 33 p1) → (S 32 (100 * p1 + l4_2)) = p2 → sm_vh (S 32) (S 33) p1 p2) := fun a b d => sm_vh_i a b d
        have h := h k13
        refine sv_iconst (d := (1 : Int)) hM dX12_isVariable_36 rfl rfl ?_
        refine sv_goto hM dX12_isVariable_37 (pc' := 41) rfl ?_
        have hb := J12 (1 : Int) (⟨by decide, by decide⟩ : sv_R (1 : Int)) h
        exact sv_less (lv := [(0, .ref 0), (1, sv_I p1), (2, sv_I p2), (3, sv_I l3_1), (4, sv_I l4_2)]) (sv_Sub_cons rfl (sv_Sub_cons rfl (sv_Sub_cons rfl (sv_Sub_cons rfl (sv_Sub_cons rfl sv_Sub_nil))))) hb
      · have h := h.2 (hc)
        refine sv_aload_n hM dX12_isVariable_20 rfl rfl ?_
        refine sv_getA hM dX12_isVariable_21 sm_fl_107 (sm_a0 _) sm_k57 rfl ?_
        refine sv_bipush (d := (100 : Int)) hM dX12_isVariable_24 rfl rfl ?_
        refine sv_iload_n hM dX12_isVariable_26 rfl rfl ?_
        refine sv_imul hM dX12_isVariable_27 rfl ?_
        refine sv_iload hM dX12_isVariable_28 rfl rfl ?_
        refine sv_iadd hM dX12_isVariable_30 rfl ?_
        obtain ⟨o14, h⟩ := h
        have k15 : sv_R (S 32 (((100 : Int) * p1) + l4_2)) := sm_okI ok5 sm_r32 (((100 : Int) * p1) + l4_2)
        have h := h k15
        refine sv_iald hM dX12_isVariable_31 (sm_a32 _) (by decide) o14.1 o14.2 rfl (x := (S 32 (((100 : Int) * p1) + l4_2))) rfl ?_
        refine sv_iload_n hM dX12_isVariable_32 rfl rfl ?_
        refine sv_icmp_ne hM dX12_isVariable_33 k15 hp2 (t := 40) rfl rfl (fun hc => ?_) (fun hc => ?_)
        · have h := h.1 (hc)
          refine sv_iconst (d := (0 : Int)) hM dX12_isVariable_40 rfl rfl ?_
          have hb := J12 (0 : Int) (⟨by decide, by decide⟩ : sv_R (0 : Int)) h
          exact sv_less (lv := [(0, .ref 0), (1, sv_I p1), (2, sv_I p2), (3, sv_I l3_1), (4, sv_I l4_2)]) (sv_Sub_cons rfl (sv_Sub_cons rfl (sv_Sub_cons rfl (sv_Sub_cons rfl (sv_Sub_cons rfl sv_Sub_nil))))) hb
        · have h := h.2 (hc)
          have k16 : (0 ≤ l4_2 → l4_2 < (S 33 p1) → (S 32 (100 * p1 + l4_2)) = p2 → sm_vh (S 32) (S 33) p1 p2) := fun a b d => sm_vh_i a b d
          have h := h k16
          refine sv_iconst (d := (1 : Int)) hM dX12_isVariable_36 rfl rfl ?_
          refine sv_goto hM dX12_isVariable_37 (pc' := 41) rfl ?_
          have hb := J12 (1 : Int) (⟨by decide, by decide⟩ : sv_R (1 : Int)) h
          exact sv_less (lv := [(0, .ref 0), (1, sv_I p1), (2, sv_I p2), (3, sv_I l3_1), (4, sv_I l4_2)]) (sv_Sub_cons rfl (sv_Sub_cons rfl (sv_Sub_cons rfl (sv_Sub_cons rfl (sv_Sub_cons rfl sv_Sub_nil))))) hb
  exact hJ ((0 : Int), (0 : Int), ()) ⟨(⟨by decide, by decide⟩ : sv_R (0 : Int)), (⟨by decide, by decide⟩ : sv_R (0 : Int)), hok, hin4⟩
def q_named (p1 : Int) (p2 : Int) (p3 : Int) (S : sv_S) : Option Value → sv_S → Prop := fun v S' => v = none ∧ sm_ok S' ∧ sv_mod [26, 27, 28, 29, 1046, 1047, 1100007, 1100023, 1100024, 1100025] S S' ∧ (0 ≤ (S' 1047 0) ∧ (S' 1047 0) ≤ 1 ∧ 1 ≤ (S' 1046 0) ∧ (S 1046 0) ≤ (S' 1046 0) ∧ (S' 1046 0) ≤ (S 1046 0) + 1 ∧ (S' 1046 0) ≤ 600 ∧ ((S 1047 0) = 1 → (S' 1047 0) = 1) ∧ ((S' 1047 0) = 1 → (S 1047 0) = 1 ∨ (S 1046 0) = 600) ∧ sm_F1 (S 26) (S' 26) (S 1046 0) ∧ sm_F1 (S 27) (S' 27) (S 1046 0) ∧ sm_F1 (S 28) (S' 28) (S 1046 0) ∧ sm_F1 (S 29) (S' 29) (S 1046 0) ∧ sm_F1 (S 1100007) (S' 1100007) ((S 1046 0) + 1) ∧ sm_F1 (S 1100023) (S' 1100023) ((S 1046 0) + 1) ∧ sm_F1 (S 1100024) (S' 1100024) ((S 1046 0) + 1) ∧ sm_F1 (S 1100025) (S' 1100025) ((S 1046 0) + 1) ∧ ((S' 1047 0) = 0 → (S 1047 0) = 0 ∧ (S' 1046 0) = (S 1046 0) + 1 ∧ sm_KC (S' 26) (S' 27) (S' 28) (S' 29) (S' 1100007) (S' 1100023) (S' 1100024) (S' 1100025) (S' 31) (S' 1100009) (S' 1100027) (S' 1100028) (S' 1100026) (S' 1100030) (S' 21) (S' 32) (S' 33) (S' 1046 0) (S' 1053 0) (S' 1056 0) (S' 1032 0) (S' 1007 0) (S' 1100033 0) ∧ sm_MB (S' 31) (S' 1100030) (S' 1053 0) (S' 1046 0) ∧ ((S' 26 (S 1046 0)) = p2 ∨ (S' 26 (S 1046 0)) = p3) ∧ (S' 29 (S 1046 0)) = (S' 1056 0) ∧ (S' 1100007 (S' 1046 0)) = (S 1100007 (S 1046 0)) + (if p2 = 1 then 1 else 0) ∧ (S' 1100023 (S' 1046 0)) = (S 1100023 (S 1046 0)) ∧ (S' 1100024 (S' 1046 0)) = (S 1100024 (S 1046 0)) ∧ (S' 1100025 (S' 1046 0)) = (S 1100025 (S 1046 0)) ∧ (S' 1100007 (S' 1100023 (S' 1046 0))) = (S 1100007 (S 1100023 (S 1046 0))) ∧ (S' 1100007 (S' 1100025 (S' 1046 0))) = (S 1100007 (S 1100025 (S 1046 0)))))
theorem la_named_0 : (0 : Int) ≤ 0 := by omega
theorem la_named_1 {x0 : Int} : 0 + x0 ≤ x0 := by omega
theorem la_named_2 {x0 x1 : Int} (h0 : 0 ≤ x0) (h1 : x0 < x1) : 0 ≤ x0 ∧ x0 < x1 := by omega
theorem la_named_3 {x0 x1 : Int} (h0 : x0 = 1 ∧ (x1 = 3 ∨ x1 = 5) ∨ x0 = 2 ∧ x1 = 4) : 0 ≤ x1 := by omega
theorem la_named_4 {x0 x1 : Int} (h0 : x0 = 1 ∧ (x1 = 3 ∨ x1 = 5) ∨ x0 = 2 ∧ x1 = 4) : x1 ≤ 30 := by omega
theorem la_named_5 {x0 x1 x2 x3 x4 : Int} (h0 : x0 = 1 ∧ (x1 = 3 ∨ x1 = 5) ∨ x0 = 2 ∧ x1 = 4) : 21 ≤ x1 ∧ x1 ≤ 24 ∨ x1 = 27 ∨ x1 = 30 → (0 : Int) ≤ 0 ∧ 0 < x2 ∧ x3 = x4 := by omega
theorem la_named_6 {x0 x1 : Int} (h0 : x0 = 1 ∧ (x1 = 3 ∨ x1 = 5) ∨ x0 = 2 ∧ x1 = 4) (h1 : x1 = 1 ∨ x1 = 2) : False := by omega
theorem la_named_7 {x0 : Int} (h0 : x0 = 0) : ¬ x0 = 1 := by omega
theorem la_named_8 {x0 : Int} (h0 : x0 ≤ 1) (h1 : ¬ x0 = 1) : x0 < 1 := by omega
theorem la_named_9 {x0 x1 x2 : Int} (h0 : x0 = x1) : x0 = x2 ∨ x0 = x1 := by omega
theorem la_named_10 {x0 x1 x2 : Int} (h0 : x0 = x1 + 1) (h1 : x2 < x0) : x2 < x1 + 1 := by omega
theorem la_named_11 {x0 x1 x2 : Int} (h0 : x0 ≤ x1 + 1) (h1 : x2 < x0) : x2 < x1 + 1 := by omega
theorem la_named_12 {x0 x1 : Int} (h0 : x0 = 1) : ¬ (x0 = 2 ∧ x1 = 4) := by omega
theorem la_named_13 {x0 : Int} (h0 : x0 = 1) : ¬ x0 = 2 := by omega
theorem la_named_14 {x0 x1 x2 x3 x4 : Int} (h0 : x0 = x1 + x2) (h1 : x3 = 1 ∨ x3 = 3 ∨ x3 = 5 → x2 = 1) (h2 : x3 = 2 ∨ x3 = 4 → x2 = 0) (h3 : x4 = 1) (h4 : x3 = 3 ∨ x3 = 5) : x0 = x1 + x4 := by omega
theorem la_named_15 {x0 : Int} (h0 : x0 = 4) : ¬ (x0 = 1 ∨ x0 = 3 ∨ x0 = 5) := by omega
theorem la_named_16 {x0 : Int} (h0 : x0 = 4) : x0 = 2 ∨ x0 = 4 := by omega
theorem la_named_17 {x0 : Int} (h0 : x0 = 4) : ¬ x0 = 27 := by omega
theorem la_named_18 {x0 : Int} (h0 : x0 = 4) : ¬ x0 = 29 := by omega
theorem la_named_19 {x0 : Int} (h0 : x0 = 4) : ¬ x0 = 17 := by omega
theorem la_named_20 {x0 : Int} (h0 : x0 = 2) : 1 ≤ x0 := by omega
theorem la_named_21 {x0 : Int} (h0 : 1 ≤ x0) (h1 : ¬ x0 = 1) : 1 < x0 := by omega
theorem la_named_22 {x0 : Int} (h0 : x0 = 4) : ¬ x0 = 28 := by omega
theorem la_named_23 {x0 x1 x2 x3 : Int} (h0 : x0 = 4) : x0 = 17 → 0 ≤ x1 → x2 < x3 := by omega
theorem la_named_24 {x0 x1 x2 x3 : Int} (h0 : x0 = x1 + x2) (h1 : 0 ≤ x3) (h2 : x3 = 0) (h3 : x2 = 0) : x0 = x1 + x3 := by omega
theorem la_named_25 {x0 x1 x2 x3 x4 x5 : Int} (h0 : x0 = 1 ∧ (x1 = 3 ∨ x1 = 5) ∨ x0 = 2 ∧ x1 = 4) (h1 : x1 = 1 ∨ x1 = 3 ∨ x1 = 5 → x2 = 1) (h2 : x1 = 2 ∨ x1 = 4 → x2 = 0) (h3 : x3 = x4) (h4 : ¬ x1 = 27 → ¬ x1 = 28 → x4 = x5) : x3 = x5 := by omega
theorem la_named_26 {x0 x1 x2 x3 x4 : Int} (h0 : x0 = 1 ∧ (x1 = 3 ∨ x1 = 5) ∨ x0 = 2 ∧ x1 = 4) (h1 : x2 = x3) (h2 : ¬ x1 = 27 → ¬ x1 = 28 → x3 = x4) : x2 = x4 := by omega
theorem la_named_27 {x0 x1 x2 x3 x4 : Int} (h0 : x0 = 1 ∧ (x1 = 3 ∨ x1 = 5) ∨ x0 = 2 ∧ x1 = 4) (h1 : x2 = x3) (h2 : ¬ x1 = 29 → ¬ x1 = 17 → x3 = x4) : x2 = x4 := by omega
theorem la_named_28 {x0 x1 x2 x3 x4 x5 : Int} (h0 : x0 = 1 ∧ (x1 = 3 ∨ x1 = 5) ∨ x0 = 2 ∧ x1 = 4) (h1 : ¬ x1 = 29 → (x1 = 17 → 0 ≤ x2 → x3 < x4) → x5 = x3) : x5 = x3 := by omega
theorem la_named_29 {x0 : Int} (h0 : ¬ x0 ≤ 0) : 1 ≤ x0 := by omega
theorem la_named_30 {x0 x1 : Int} (h0 : x0 ≤ 0) (h1 : ¬ x0 ≤ 0) : x1 = 0 := by omega
theorem la_named_31 {x0 x1 : Int} (h0 : x0 = 1 ∧ (x1 = 3 ∨ x1 = 5) ∨ x0 = 2 ∧ x1 = 4) : 0 ≤ x0 := by omega
theorem la_named_32 {x0 x1 : Int} (h0 : x0 = 1 ∧ (x1 = 3 ∨ x1 = 5) ∨ x0 = 2 ∧ x1 = 4) : x0 ≤ 30 := by omega
theorem la_named_33 {x0 : Int} (h0 : x0 ≤ 0) (h1 : ¬ x0 ≤ 0) : False := by omega
theorem la_named_34 {x0 x1 x2 x3 x4 x5 : Int} (h0 : 0 ≤ x0) (h1 : x1 ≤ 0) (h2 : ¬ x1 ≤ 0) : 21 ≤ x2 ∧ x2 ≤ 24 ∨ x2 = 27 ∨ x2 = 30 → 0 ≤ x0 ∧ x0 < x3 ∧ x4 = x5 := by omega
theorem la_named_35 {x0 x1 x2 : Int} (h0 : x0 = x1) : x0 = x1 ∨ x0 = x2 := by omega
theorem la_named_36 {x0 x1 : Int} (h0 : 0 ≤ x0) (h1 : x1 ≤ 0) (h2 : ¬ x1 ≤ 0) : x0 = 0 := by omega
theorem la_named_37 {x0 x1 x2 x3 x4 x5 : Int} (h0 : x0 = 1 ∧ (x1 = 3 ∨ x1 = 5) ∨ x0 = 2 ∧ x1 = 4) (h1 : x0 = 1 ∨ x0 = 3 ∨ x0 = 5 → x2 = 1) (h2 : x0 = 2 ∨ x0 = 4 → x2 = 0) (h3 : x3 = x4) (h4 : ¬ x0 = 27 → ¬ x0 = 28 → x4 = x5) : x3 = x5 := by omega
theorem la_named_38 {x0 x1 x2 x3 x4 : Int} (h0 : x0 = 1 ∧ (x1 = 3 ∨ x1 = 5) ∨ x0 = 2 ∧ x1 = 4) (h1 : x2 = x3) (h2 : ¬ x0 = 27 → ¬ x0 = 28 → x3 = x4) : x2 = x4 := by omega
theorem la_named_39 {x0 x1 x2 x3 x4 : Int} (h0 : x0 = 1 ∧ (x1 = 3 ∨ x1 = 5) ∨ x0 = 2 ∧ x1 = 4) (h1 : x2 = x3) (h2 : ¬ x0 = 29 → ¬ x0 = 17 → x3 = x4) : x2 = x4 := by omega
theorem la_named_40 {x0 x1 x2 x3 x4 x5 : Int} (h0 : x0 = 1 ∧ (x1 = 3 ∨ x1 = 5) ∨ x0 = 2 ∧ x1 = 4) (h1 : ¬ x0 = 29 → (x0 = 17 → 0 ≤ x2 → x3 < x4) → x5 = x3) : x5 = x3 := by omega
theorem la_named_41 {x0 x1 x2 : Int} (h0 : x0 ≤ 11) (h1 : x1 < x0) (h2 : ¬ x1 ≤ 0) (h3 : x2 ≤ 100) : 0 ≤ x1 ∧ x1 ≤ 11 ∧ x2 ≤ 100 := by omega
theorem la_named_42 {x0 : Int} (h0 : x0 = 1) : 0 ≤ x0 := by omega
theorem la_named_43 {x0 : Int} (h0 : 0 ≤ x0) (h1 : ¬ x0 = 0) : 0 < x0 := by omega
theorem la_named_44 {x0 x1 : Int} (h0 : 0 ≤ x0) (h1 : ¬ x1 ≤ 0) (h2 : x1 ≤ 0) : 0 = x0 + 1 := by omega
theorem la_named_45 {x0 x1 : Int} (h0 : 0 ≤ x0) (h1 : ¬ x1 ≤ 0) (h2 : x1 ≤ 0) : x0 = 0 := by omega
theorem la_named_46 {x0 x1 x2 x3 x4 x5 : Int} (h0 : x0 = 1 ∧ (x1 = 3 ∨ x1 = 5) ∨ x0 = 2 ∧ x1 = 4) (h1 : ¬ x2 ≤ 0) (h2 : x2 ≤ 0) : 21 ≤ x1 ∧ x1 ≤ 24 ∨ x1 = 27 ∨ x1 = 30 → (0 : Int) ≤ 0 ∧ 0 < x3 ∧ x4 = x5 := by omega
theorem la_named_47 {x0 : Int} (h0 : ¬ x0 ≤ 0) (h1 : x0 ≤ 0) : False := by omega
theorem la_named_48 {x0 x1 : Int} (h0 : ¬ x0 ≤ 0) (h1 : x0 ≤ 0) : x1 = 0 := by omega
theorem la_named_49 {x0 : Int} (h0 : x0 = 1) : x0 = 1 ∨ x0 = 3 ∨ x0 = 5 := by omega
theorem la_named_50 {x0 : Int} (h0 : x0 = 1) : ¬ (x0 = 2 ∨ x0 = 4) := by omega
theorem la_named_51 {x0 : Int} (h0 : x0 = 1) : ¬ x0 = 27 := by omega
theorem la_named_52 {x0 : Int} (h0 : x0 = 1) : ¬ x0 = 29 := by omega
theorem la_named_53 {x0 : Int} (h0 : x0 = 1) : ¬ x0 = 28 := by omega
theorem la_named_54 {x0 : Int} (h0 : x0 = 1) : ¬ x0 = 17 := by omega
theorem la_named_55 {x0 x1 x2 x3 x4 x5 x6 x7 x8 x9 x10 : Int} (h0 : 0 ≤ x0) (h1 : 0 ≤ x1) (h2 : 0 ≤ x2) (h3 : x2 < x3) (h4 : 0 ≤ x4 → x5 ≤ x1) (h5 : 0 ≤ x6 → x7 ≤ x1) (h6 : x8 = 1) (h7 : x9 = x4) (h8 : x10 = x6) : (0 ≤ x0 ∧ 0 ≤ x2 ∧ x2 < x3) ∧ (0 ≤ x1 ∧ (0 ≤ x4 → x5 ≤ x1) ∧ (0 ≤ x6 → x7 ≤ x1)) ∧ x1 + x8 = x1 + 1 ∧ x9 = x4 ∧ x10 = x6 := by omega
theorem la_named_56 {x0 : Int} (h0 : x0 = 2) : ¬ (x0 = 1 ∨ x0 = 3 ∨ x0 = 5) := by omega
theorem la_named_57 {x0 : Int} (h0 : x0 = 2) : x0 = 2 ∨ x0 = 4 := by omega
theorem la_named_58 {x0 : Int} (h0 : x0 = 2) : ¬ x0 = 27 := by omega
theorem la_named_59 {x0 : Int} (h0 : x0 = 2) : ¬ x0 = 29 := by omega
theorem la_named_60 {x0 : Int} (h0 : x0 = 2) : ¬ x0 = 28 := by omega
theorem la_named_61 {x0 : Int} (h0 : x0 = 2) : ¬ x0 = 17 := by omega
theorem la_named_62 {x0 x1 x2 x3 x4 x5 x6 x7 x8 x9 x10 : Int} (h0 : 0 ≤ x0) (h1 : 0 ≤ x1) (h2 : x1 < x2) (h3 : 1 ≤ x3) (h4 : 0 ≤ x4 → x5 ≤ x3 - 1) (h5 : 0 ≤ x6 → x7 ≤ x3 - 1) (h6 : x8 = 0) (h7 : x9 = x4) (h8 : x10 = x6) : (0 ≤ x0 ∧ 0 ≤ x1 ∧ x1 < x2) ∧ (0 ≤ x3 - 1 ∧ (0 ≤ x4 → x5 ≤ x3 - 1) ∧ (0 ≤ x6 → x7 ≤ x3 - 1)) ∧ x3 + x8 = x3 ∧ x9 = x4 ∧ x10 = x6 := by omega
theorem la_named_63 {x0 x1 x2 x3 x4 x5 : Int} (h0 : x0 = 1 ∧ (x1 = 3 ∨ x1 = 5) ∨ x0 = 2 ∧ x1 = 4) (h1 : 0 ≤ x2) : 21 ≤ x0 ∧ x0 ≤ 24 ∨ x0 = 27 ∨ x0 = 30 → 0 ≤ x2 ∧ x2 < x3 ∧ x4 = x5 := by omega
theorem la_named_64 {x0 x1 x2 x3 : Int} (h0 : x0 = 1) : x0 = 17 → 0 ≤ x1 → x2 < x3 := by omega
theorem la_named_65 {x0 x1 x2 x3 : Int} (h0 : x0 = x1 + x2) (h1 : x3 ≤ 1) (h2 : x3 = 1) (h3 : x2 = 1) : x0 = x1 + x3 := by omega
theorem la_named_66 {x0 x1 x2 x3 : Int} (h0 : x0 = 2) : x0 = 17 → 0 ≤ x1 → x2 < x3 := by omega
theorem la_named_67 {x0 : Int} (h0 : ¬ ¬ x0 = 0) : ¬ x0 = 1 := by omega
theorem la_named_68 {x0 x1 : Int} (h0 : x0 ≤ 11) (h1 : x1 < x0) (h2 : ¬ x1 ≤ 0) : 0 ≤ x1 ∧ x1 < 12 := by omega
theorem la_named_69 {x0 x1 x2 x3 : Int} (h0 : x0 < x1) (h1 : x1 ≤ 11) (h2 : 0 ≤ x2) (h3 : x2 + x3 ≤ x0) (h4 : ¬ x3 ≤ 0) : sv_R (x2 + 1) := by omega
theorem la_named_70 {x0 x1 x2 : Int} (h0 : x0 < x1) (h1 : x2 < x0) : x2 < x1 := by omega
theorem la_named_71 {x0 : Int} (h0 : 0 ≤ x0) : 0 ≤ x0 + 1 := by omega
theorem la_named_72 {x0 x1 x2 x3 : Int} (h0 : x0 + x1 ≤ x2) (h1 : x3 < x1) : x0 + 1 + x3 ≤ x2 := by omega
set_option maxHeartbeats 2000000 in
theorem f_named : ∀ (p1 : Int) (p2 : Int) (p3 : Int) (S : sv_S), sm_ok S → sv_R p1 → sv_R p2 → sv_R p3 → (0 ≤ (S 1046 0) ∧ (S 1046 0) ≤ 600 ∧ 0 ≤ (S 1047 0) ∧ (S 1047 0) ≤ 1 ∧ 0 ≤ (S 1056 0) ∧ (S 1056 0) < (S 1032 0) ∧ (S 1032 0) ≤ 11 ∧ sm_VB (S 33) (S 21) (S 1032 0) ∧ ((p2 = 1 ∧ (p3 = 3 ∨ p3 = 5)) ∨ (p2 = 2 ∧ p3 = 4)) ∧ ((S 1047 0) = 0 → sm_KC (S 26) (S 27) (S 28) (S 29) (S 1100007) (S 1100023) (S 1100024) (S 1100025) (S 31) (S 1100009) (S 1100027) (S 1100028) (S 1100026) (S 1100030) (S 21) (S 32) (S 33) (S 1046 0) (S 1053 0) (S 1056 0) (S 1032 0) (S 1007 0) (S 1100033 0) ∧ 0 ≤ p1 ∧ p1 < (S 1007 0) ∧ (p2 = 1 → (0 ≤ (S 1100023 (S 1046 0)) → (S 1100007 (S 1100023 (S 1046 0))) ≤ (S 1100007 (S 1046 0))) ∧ (0 ≤ (S 1100025 (S 1046 0)) → (S 1100007 (S 1100025 (S 1046 0))) ≤ (S 1100007 (S 1046 0)))) ∧ (p2 = 2 → 1 ≤ (S 1100007 (S 1046 0)) ∧ (0 ≤ (S 1100023 (S 1046 0)) → (S 1100007 (S 1100023 (S 1046 0))) ≤ (S 1100007 (S 1046 0)) - 1) ∧ (0 ≤ (S 1100025 (S 1046 0)) → (S 1100007 (S 1100025 (S 1046 0))) ≤ (S 1100007 (S 1046 0)) - 1)))) → (sv_R (S 1056 0) → (((S 1056 0) = sm_ua (S 21) ((S 1056 0)) (0)) → ((0 ≤ (S 1056 0) ∧ (S 1056 0) < (S 1032 0) ∧ 0 ≤ (0 : Int) ∧ (0 : Int) + (S 1056 0) ≤ (S 1056 0) ∧ (S 1056 0) = sm_ua (S 21) ((S 1056 0)) ((0 : Int)) ∧ sm_UB (S 21) (S 1056 0) ((0 : Int))) ∧ (∀ l4_3 : Int, sv_R l4_3 → ∀ l5_4 : Int, sv_R l5_4 → (0 ≤ l4_3 ∧ l4_3 < (S 1032 0) ∧ 0 ≤ l5_4 ∧ l5_4 + l4_3 ≤ (S 1056 0) ∧ l4_3 = sm_ua (S 21) ((S 1056 0)) (l5_4) ∧ sm_UB (S 21) (S 1056 0) (l5_4)) → (0 ≤ l4_3) ∧ (((l4_3 ≤ (0 : Int)) → (((l4_3 ≤ (0 : Int)) → ((((p2 = 1 ∧ (p3 = 3 ∨ p3 = 5)) ∨ (p2 = 2 ∧ p3 = 4)) → 0 ≤ p1 ∧ p1 < (S 1007 0) → 0 ≤ (S 1100007 (S 1046 0)) → (p2 = 1 → (0 ≤ (S 1100023 (S 1046 0)) → (S 1100007 (S 1100023 (S 1046 0))) ≤ (S 1100007 (S 1046 0))) ∧ (0 ≤ (S 1100025 (S 1046 0)) → (S 1100007 (S 1100025 (S 1046 0))) ≤ (S 1100007 (S 1046 0)))) → (p2 = 2 → 1 ≤ (S 1100007 (S 1046 0)) ∧ (0 ≤ (S 1100023 (S 1046 0)) → (S 1100007 (S 1100023 (S 1046 0))) ≤ (S 1100007 (S 1046 0)) - 1) ∧ (0 ≤ (S 1100025 (S 1046 0)) → (S 1100007 (S 1100025 (S 1046 0))) ≤ (S 1100007 (S 1046 0)) - 1)) → sm_ci p3 ((0 : Int)) (p1) (S 1100007 (S 1046 0)) (S 1100023 (S 1046 0)) (S 1100024 (S 1046 0)) (S 1100025 (S 1046 0)) (S 1100007 (S 1100023 (S 1046 0))) (S 1100007 (S 1100025 (S 1046 0))) (S 1100023 (S 1100023 (S 1046 0))) (S 1100025 (S 1100025 (S 1046 0))) (S 1046 0) (S 1100033 0) (S 1032 0) (S 1007 0) (S 21 (0 : Int)) (S 1056 0) ((S 1100007 (S 1046 0)) + sm_dl p3 ((0 : Int))) (sm_nt p3 (S 1046 0) (S 1100023 (S 1046 0)) (S 1100023 (S 1100023 (S 1046 0)))) (sm_nl p3 (S 1046 0) (S 1100007 (S 1046 0)) (S 1100025 (S 1046 0)) (S 1100007 (S 1100025 (S 1046 0))) (S 1100025 (S 1100025 (S 1046 0)))) (S 1100009 (0 : Int)) (S 1100027 (0 : Int)) (S 1100028 (0 : Int))) → (0 ≤ (S 1046 0) ∧ (S 1046 0) ≤ 600 ∧ 0 ≤ (S 1047 0) ∧ (S 1047 0) ≤ 1 ∧ ((S 1047 0) = 0 → sm_KC (S 26) (S 27) (S 28) (S 29) (S 1100007) (S 1100023) (S 1100024) (S 1100025) (S 31) (S 1100009) (S 1100027) (S 1100028) (S 1100026) (S 1100030) (S 21) (S 32) (S 33) (S 1046 0) (S 1053 0) (S 1056 0) (S 1032 0) (S 1007 0) (S 1100033 0) ∧ 0 ≤ p3 ∧ p3 ≤ 30 ∧ sm_ci p3 ((0 : Int)) (p1) (S 1100007 (S 1046 0)) (S 1100023 (S 1046 0)) (S 1100024 (S 1046 0)) (S 1100025 (S 1046 0)) (S 1100007 (S 1100023 (S 1046 0))) (S 1100007 (S 1100025 (S 1046 0))) (S 1100023 (S 1100023 (S 1046 0))) (S 1100025 (S 1100025 (S 1046 0))) (S 1046 0) (S 1100033 0) (S 1032 0) (S 1007 0) (S 21 (0 : Int)) (S 1056 0) ((S 1100007 (S 1046 0)) + sm_dl p3 ((0 : Int))) (sm_nt p3 (S 1046 0) (S 1100023 (S 1046 0)) (S 1100023 (S 1100023 (S 1046 0)))) (sm_nl p3 (S 1046 0) (S 1100007 (S 1046 0)) (S 1100025 (S 1046 0)) (S 1100007 (S 1100025 (S 1046 0))) (S 1100025 (S 1100025 (S 1046 0)))) (S 1100009 (0 : Int)) (S 1100027 (0 : Int)) (S 1100028 (0 : Int)) ∧ ((21 ≤ p3 ∧ p3 ≤ 24) ∨ p3 = 27 ∨ p3 = 30 → 0 ≤ (0 : Int) ∧ (0 : Int) < (S 1053 0) ∧ (S 1100026 (0 : Int)) = (S 1056 0)) ∧ (p3 = 1 ∨ p3 = 2 → sm_vv (S 21) (S 32) (S 33) (S 1056 0) (0 : Int) p1))) ∧ (∀ g10 : sv_S, (0 ≤ (g10 1047 0) ∧ (g10 1047 0) ≤ 1 ∧ 1 ≤ (g10 1046 0) ∧ (S 1046 0) ≤ (g10 1046 0) ∧ (g10 1046 0) ≤ (S 1046 0) + 1 ∧ (g10 1046 0) ≤ 600 ∧ ((S 1047 0) = 1 → (g10 1047 0) = 1) ∧ ((g10 1047 0) = 1 → (S 1047 0) = 1 ∨ (S 1046 0) = 600) ∧ sm_F1 (S 26) (g10 26) (S 1046 0) ∧ sm_F1 (S 27) (g10 27) (S 1046 0) ∧ sm_F1 (S 28) (g10 28) (S 1046 0) ∧ sm_F1 (S 29) (g10 29) (S 1046 0) ∧ sm_F1 (S 1100007) (g10 1100007) ((S 1046 0) + 1) ∧ sm_F1 (S 1100023) (g10 1100023) ((S 1046 0) + 1) ∧ sm_F1 (S 1100024) (g10 1100024) ((S 1046 0) + 1) ∧ sm_F1 (S 1100025) (g10 1100025) ((S 1046 0) + 1) ∧ ((g10 1047 0) = 0 → (S 1047 0) = 0 ∧ (g10 1046 0) = (S 1046 0) + 1 ∧ sm_KC (g10 26) (g10 27) (g10 28) (g10 29) (g10 1100007) (g10 1100023) (g10 1100024) (g10 1100025) (S 31) (S 1100009) (S 1100027) (S 1100028) (S 1100026) (S 1100030) (S 21) (S 32) (S 33) (g10 1046 0) (S 1053 0) (S 1056 0) (S 1032 0) (S 1007 0) (S 1100033 0) ∧ sm_MB (S 31) (S 1100030) (S 1053 0) (g10 1046 0) ∧ (g10 26 (S 1046 0)) = p3 ∧ (g10 29 (S 1046 0)) = (S 1056 0) ∧ (g10 1100007 (g10 1046 0)) = ((S 1100007 (S 1046 0)) + sm_dl p3 ((0 : Int))) ∧ (g10 1100023 (g10 1046 0)) = (sm_nt p3 (S 1046 0) (S 1100023 (S 1046 0)) (S 1100023 (S 1100023 (S 1046 0)))) ∧ (g10 1100024 (g10 1046 0)) = (sm_nd p3 (S 1100024 (S 1046 0))) ∧ (g10 1100025 (g10 1046 0)) = (sm_nl p3 (S 1046 0) (S 1100007 (S 1046 0)) (S 1100025 (S 1046 0)) (S 1100007 (S 1100025 (S 1046 0))) (S 1100025 (S 1100025 (S 1046 0)))) ∧ (g10 1100007 (g10 1100023 (g10 1046 0))) = sm_nt p3 (S 1100007 (S 1046 0)) (S 1100007 (S 1100023 (S 1046 0))) (S 1100007 (S 1100023 (S 1100023 (S 1046 0)))) ∧ (p3 = 29 → (g10 1100007 (g10 1100025 (g10 1046 0))) = (S 1100007 (S 1046 0))) ∧ (p3 = 17 → 0 ≤ (S 1100025 (S 1046 0)) → (S 1100007 (S 1100025 (S 1046 0))) = (S 1100007 (S 1046 0)) → (g10 1100007 (g10 1100025 (g10 1046 0))) = (S 1100007 (S 1100025 (S 1100025 (S 1046 0))))) ∧ (¬ p3 = 29 → (p3 = 17 → 0 ≤ (S 1100025 (S 1046 0)) → (S 1100007 (S 1100025 (S 1046 0))) < (S 1100007 (S 1046 0))) → (g10 1100007 (g10 1100025 (g10 1046 0))) = (S 1100007 (S 1100025 (S 1046 0)))))) → (0 ≤ (g10 1047 0) ∧ (g10 1047 0) ≤ 1 ∧ 1 ≤ (g10 1046 0) ∧ (S 1046 0) ≤ (g10 1046 0) ∧ (g10 1046 0) ≤ (S 1046 0) + 1 ∧ (g10 1046 0) ≤ 600 ∧ ((S 1047 0) = 1 → (g10 1047 0) = 1) ∧ ((g10 1047 0) = 1 → (S 1047 0) = 1 ∨ (S 1046 0) = 600) ∧ sm_F1 (S 26) (g10 26) (S 1046 0) ∧ sm_F1 (S 27) (g10 27) (S 1046 0) ∧ sm_F1 (S 28) (g10 28) (S 1046 0) ∧ sm_F1 (S 29) (g10 29) (S 1046 0) ∧ sm_F1 (S 1100007) (g10 1100007) ((S 1046 0) + 1) ∧ sm_F1 (S 1100023) (g10 1100023) ((S 1046 0) + 1) ∧ sm_F1 (S 1100024) (g10 1100024) ((S 1046 0) + 1) ∧ sm_F1 (S 1100025) (g10 1100025) ((S 1046 0) + 1) ∧ ((g10 1047 0) = 0 → (S 1047 0) = 0 ∧ (g10 1046 0) = (S 1046 0) + 1 ∧ sm_KC (g10 26) (g10 27) (g10 28) (g10 29) (g10 1100007) (g10 1100023) (g10 1100024) (g10 1100025) (S 31) (S 1100009) (S 1100027) (S 1100028) (S 1100026) (S 1100030) (S 21) (S 32) (S 33) (g10 1046 0) (S 1053 0) (S 1056 0) (S 1032 0) (S 1007 0) (S 1100033 0) ∧ sm_MB (S 31) (S 1100030) (S 1053 0) (g10 1046 0) ∧ ((g10 26 (S 1046 0)) = p2 ∨ (g10 26 (S 1046 0)) = p3) ∧ (g10 29 (S 1046 0)) = (S 1056 0) ∧ (g10 1100007 (g10 1046 0)) = (S 1100007 (S 1046 0)) + (if p2 = 1 then 1 else 0) ∧ (g10 1100023 (g10 1046 0)) = (S 1100023 (S 1046 0)) ∧ (g10 1100024 (g10 1046 0)) = (S 1100024 (S 1046 0)) ∧ (g10 1100025 (g10 1046 0)) = (S 1100025 (S 1046 0)) ∧ (g10 1100007 (g10 1100023 (g10 1046 0))) = (S 1100007 (S 1100023 (S 1046 0))) ∧ (g10 1100007 (g10 1100025 (g10 1046 0))) = (S 1100007 (S 1100025 (S 1046 0)))))))) ∧ ((¬ (l4_3 ≤ (0 : Int))) → ((0 ≤ l5_4 → sm_UB (S 21) (S 1056 0) (l5_4) → l4_3 = sm_ua (S 21) ((S 1056 0)) (l5_4) → 1 ≤ l4_3 → sm_vh (S 32) (S 33) l4_3 p1 → sm_vv (S 21) (S 32) (S 33) (S 1056 0) l5_4 p1) → (0 ≤ (S 1046 0) ∧ (S 1046 0) ≤ 600 ∧ 0 ≤ (S 1047 0) ∧ (S 1047 0) ≤ 1 ∧ ((S 1047 0) = 0 → sm_KC (S 26) (S 27) (S 28) (S 29) (S 1100007) (S 1100023) (S 1100024) (S 1100025) (S 31) (S 1100009) (S 1100027) (S 1100028) (S 1100026) (S 1100030) (S 21) (S 32) (S 33) (S 1046 0) (S 1053 0) (S 1056 0) (S 1032 0) (S 1007 0) (S 1100033 0) ∧ 0 ≤ p2 ∧ p2 ≤ 30 ∧ sm_ci p2 (l5_4) (p1) (S 1100007 (S 1046 0)) (S 1100023 (S 1046 0)) (S 1100024 (S 1046 0)) (S 1100025 (S 1046 0)) (S 1100007 (S 1100023 (S 1046 0))) (S 1100007 (S 1100025 (S 1046 0))) (S 1100023 (S 1100023 (S 1046 0))) (S 1100025 (S 1100025 (S 1046 0))) (S 1046 0) (S 1100033 0) (S 1032 0) (S 1007 0) (S 21 l5_4) (S 1056 0) ((S 1100007 (S 1046 0)) + sm_dl p2 (l5_4)) (sm_nt p2 (S 1046 0) (S 1100023 (S 1046 0)) (S 1100023 (S 1100023 (S 1046 0)))) (sm_nl p2 (S 1046 0) (S 1100007 (S 1046 0)) (S 1100025 (S 1046 0)) (S 1100007 (S 1100025 (S 1046 0))) (S 1100025 (S 1100025 (S 1046 0)))) (S 1100009 l5_4) (S 1100027 l5_4) (S 1100028 l5_4) ∧ ((21 ≤ p2 ∧ p2 ≤ 24) ∨ p2 = 27 ∨ p2 = 30 → 0 ≤ l5_4 ∧ l5_4 < (S 1053 0) ∧ (S 1100026 l5_4) = (S 1056 0)) ∧ (p2 = 1 ∨ p2 = 2 → sm_vv (S 21) (S 32) (S 33) (S 1056 0) l5_4 p1))) ∧ (∀ g17 : sv_S, (0 ≤ (g17 1047 0) ∧ (g17 1047 0) ≤ 1 ∧ 1 ≤ (g17 1046 0) ∧ (S 1046 0) ≤ (g17 1046 0) ∧ (g17 1046 0) ≤ (S 1046 0) + 1 ∧ (g17 1046 0) ≤ 600 ∧ ((S 1047 0) = 1 → (g17 1047 0) = 1) ∧ ((g17 1047 0) = 1 → (S 1047 0) = 1 ∨ (S 1046 0) = 600) ∧ sm_F1 (S 26) (g17 26) (S 1046 0) ∧ sm_F1 (S 27) (g17 27) (S 1046 0) ∧ sm_F1 (S 28) (g17 28) (S 1046 0) ∧ sm_F1 (S 29) (g17 29) (S 1046 0) ∧ sm_F1 (S 1100007) (g17 1100007) ((S 1046 0) + 1) ∧ sm_F1 (S 1100023) (g17 1100023) ((S 1046 0) + 1) ∧ sm_F1 (S 1100024) (g17 1100024) ((S 1046 0) + 1) ∧ sm_F1 (S 1100025) (g17 1100025) ((S 1046 0) + 1) ∧ ((g17 1047 0) = 0 → (S 1047 0) = 0 ∧ (g17 1046 0) = (S 1046 0) + 1 ∧ sm_KC (g17 26) (g17 27) (g17 28) (g17 29) (g17 1100007) (g17 1100023) (g17 1100024) (g17 1100025) (S 31) (S 1100009) (S 1100027) (S 1100028) (S 1100026) (S 1100030) (S 21) (S 32) (S 33) (g17 1046 0) (S 1053 0) (S 1056 0) (S 1032 0) (S 1007 0) (S 1100033 0) ∧ sm_MB (S 31) (S 1100030) (S 1053 0) (g17 1046 0) ∧ (g17 26 (S 1046 0)) = p2 ∧ (g17 29 (S 1046 0)) = (S 1056 0) ∧ (g17 1100007 (g17 1046 0)) = ((S 1100007 (S 1046 0)) + sm_dl p2 (l5_4)) ∧ (g17 1100023 (g17 1046 0)) = (sm_nt p2 (S 1046 0) (S 1100023 (S 1046 0)) (S 1100023 (S 1100023 (S 1046 0)))) ∧ (g17 1100024 (g17 1046 0)) = (sm_nd p2 (S 1100024 (S 1046 0))) ∧ (g17 1100025 (g17 1046 0)) = (sm_nl p2 (S 1046 0) (S 1100007 (S 1046 0)) (S 1100025 (S 1046 0)) (S 1100007 (S 1100025 (S 1046 0))) (S 1100025 (S 1100025 (S 1046 0)))) ∧ (g17 1100007 (g17 1100023 (g17 1046 0))) = sm_nt p2 (S 1100007 (S 1046 0)) (S 1100007 (S 1100023 (S 1046 0))) (S 1100007 (S 1100023 (S 1100023 (S 1046 0)))) ∧ (p2 = 29 → (g17 1100007 (g17 1100025 (g17 1046 0))) = (S 1100007 (S 1046 0))) ∧ (p2 = 17 → 0 ≤ (S 1100025 (S 1046 0)) → (S 1100007 (S 1100025 (S 1046 0))) = (S 1100007 (S 1046 0)) → (g17 1100007 (g17 1100025 (g17 1046 0))) = (S 1100007 (S 1100025 (S 1100025 (S 1046 0))))) ∧ (¬ p2 = 29 → (p2 = 17 → 0 ≤ (S 1100025 (S 1046 0)) → (S 1100007 (S 1100025 (S 1046 0))) < (S 1100007 (S 1046 0))) → (g17 1100007 (g17 1100025 (g17 1046 0))) = (S 1100007 (S 1100025 (S 1046 0)))))) → (0 ≤ (g17 1047 0) ∧ (g17 1047 0) ≤ 1 ∧ 1 ≤ (g17 1046 0) ∧ (S 1046 0) ≤ (g17 1046 0) ∧ (g17 1046 0) ≤ (S 1046 0) + 1 ∧ (g17 1046 0) ≤ 600 ∧ ((S 1047 0) = 1 → (g17 1047 0) = 1) ∧ ((g17 1047 0) = 1 → (S 1047 0) = 1 ∨ (S 1046 0) = 600) ∧ sm_F1 (S 26) (g17 26) (S 1046 0) ∧ sm_F1 (S 27) (g17 27) (S 1046 0) ∧ sm_F1 (S 28) (g17 28) (S 1046 0) ∧ sm_F1 (S 29) (g17 29) (S 1046 0) ∧ sm_F1 (S 1100007) (g17 1100007) ((S 1046 0) + 1) ∧ sm_F1 (S 1100023) (g17 1100023) ((S 1046 0) + 1) ∧ sm_F1 (S 1100024) (g17 1100024) ((S 1046 0) + 1) ∧ sm_F1 (S 1100025) (g17 1100025) ((S 1046 0) + 1) ∧ ((g17 1047 0) = 0 → (S 1047 0) = 0 ∧ (g17 1046 0) = (S 1046 0) + 1 ∧ sm_KC (g17 26) (g17 27) (g17 28) (g17 29) (g17 1100007) (g17 1100023) (g17 1100024) (g17 1100025) (S 31) (S 1100009) (S 1100027) (S 1100028) (S 1100026) (S 1100030) (S 21) (S 32) (S 33) (g17 1046 0) (S 1053 0) (S 1056 0) (S 1032 0) (S 1007 0) (S 1100033 0) ∧ sm_MB (S 31) (S 1100030) (S 1053 0) (g17 1046 0) ∧ ((g17 26 (S 1046 0)) = p2 ∨ (g17 26 (S 1046 0)) = p3) ∧ (g17 29 (S 1046 0)) = (S 1056 0) ∧ (g17 1100007 (g17 1046 0)) = (S 1100007 (S 1046 0)) + (if p2 = 1 then 1 else 0) ∧ (g17 1100023 (g17 1046 0)) = (S 1100023 (S 1046 0)) ∧ (g17 1100024 (g17 1046 0)) = (S 1100024 (S 1046 0)) ∧ (g17 1100025 (g17 1046 0)) = (S 1100025 (S 1046 0)) ∧ (g17 1100007 (g17 1100023 (g17 1046 0))) = (S 1100007 (S 1100023 (S 1046 0))) ∧ (g17 1100007 (g17 1100025 (g17 1046 0))) = (S 1100007 (S 1100025 (S 1046 0)))))))))) ∧ ((¬ (l4_3 ≤ (0 : Int))) → ((sm_VB (S 33) (S 21) (S 1032 0) → 0 ≤ l4_3 → l4_3 < (S 1032 0) → 0 ≤ (S 33 l4_3) ∧ (S 33 l4_3) ≤ 100 ∧ (1 ≤ l4_3 → 0 ≤ (S 21 l4_3) ∧ (S 21 l4_3) < l4_3)) → ((l4_3 = sm_ua (S 21) ((S 1056 0)) (l5_4) → 0 ≤ l5_4 → (S 21 l4_3) = sm_ua (S 21) ((S 1056 0)) (l5_4 + 1)) → ((sm_UB (S 21) (S 1056 0) (l5_4) → l4_3 = sm_ua (S 21) ((S 1056 0)) (l5_4) → 1 ≤ l4_3 → sm_UB (S 21) (S 1056 0) (l5_4 + 1)) → (0 ≤ l4_3 ∧ l4_3 ≤ 11 ∧ (S 33 l4_3) ≤ 100) ∧ (∀ r30 : Int, sv_R r30 → ((r30 = 0 ∨ r30 = 1) ∧ (r30 = 1 → sm_vh (S 32) (S 33) l4_3 p1)) → (((¬ r30 = (0 : Int)) → (((l4_3 ≤ (0 : Int)) → ((((p2 = 1 ∧ (p3 = 3 ∨ p3 = 5)) ∨ (p2 = 2 ∧ p3 = 4)) → 0 ≤ p1 ∧ p1 < (S 1007 0) → 0 ≤ (S 1100007 (S 1046 0)) → (p2 = 1 → (0 ≤ (S 1100023 (S 1046 0)) → (S 1100007 (S 1100023 (S 1046 0))) ≤ (S 1100007 (S 1046 0))) ∧ (0 ≤ (S 1100025 (S 1046 0)) → (S 1100007 (S 1100025 (S 1046 0))) ≤ (S 1100007 (S 1046 0)))) → (p2 = 2 → 1 ≤ (S 1100007 (S 1046 0)) ∧ (0 ≤ (S 1100023 (S 1046 0)) → (S 1100007 (S 1100023 (S 1046 0))) ≤ (S 1100007 (S 1046 0)) - 1) ∧ (0 ≤ (S 1100025 (S 1046 0)) → (S 1100007 (S 1100025 (S 1046 0))) ≤ (S 1100007 (S 1046 0)) - 1)) → sm_ci p3 ((0 : Int)) (p1) (S 1100007 (S 1046 0)) (S 1100023 (S 1046 0)) (S 1100024 (S 1046 0)) (S 1100025 (S 1046 0)) (S 1100007 (S 1100023 (S 1046 0))) (S 1100007 (S 1100025 (S 1046 0))) (S 1100023 (S 1100023 (S 1046 0))) (S 1100025 (S 1100025 (S 1046 0))) (S 1046 0) (S 1100033 0) (S 1032 0) (S 1007 0) (S 21 (0 : Int)) (S 1056 0) ((S 1100007 (S 1046 0)) + sm_dl p3 ((0 : Int))) (sm_nt p3 (S 1046 0) (S 1100023 (S 1046 0)) (S 1100023 (S 1100023 (S 1046 0)))) (sm_nl p3 (S 1046 0) (S 1100007 (S 1046 0)) (S 1100025 (S 1046 0)) (S 1100007 (S 1100025 (S 1046 0))) (S 1100025 (S 1100025 (S 1046 0)))) (S 1100009 (0 : Int)) (S 1100027 (0 : Int)) (S 1100028 (0 : Int))) → (0 ≤ (S 1046 0) ∧ (S 1046 0) ≤ 600 ∧ 0 ≤ (S 1047 0) ∧ (S 1047 0) ≤ 1 ∧ ((S 1047 0) = 0 → sm_KC (S 26) (S 27) (S 28) (S 29) (S 1100007) (S 1100023) (S 1100024) (S 1100025) (S 31) (S 1100009) (S 1100027) (S 1100028) (S 1100026) (S 1100030) (S 21) (S 32) (S 33) (S 1046 0) (S 1053 0) (S 1056 0) (S 1032 0) (S 1007 0) (S 1100033 0) ∧ 0 ≤ p3 ∧ p3 ≤ 30 ∧ sm_ci p3 ((0 : Int)) (p1) (S 1100007 (S 1046 0)) (S 1100023 (S 1046 0)) (S 1100024 (S 1046 0)) (S 1100025 (S 1046 0)) (S 1100007 (S 1100023 (S 1046 0))) (S 1100007 (S 1100025 (S 1046 0))) (S 1100023 (S 1100023 (S 1046 0))) (S 1100025 (S 1100025 (S 1046 0))) (S 1046 0) (S 1100033 0) (S 1032 0) (S 1007 0) (S 21 (0 : Int)) (S 1056 0) ((S 1100007 (S 1046 0)) + sm_dl p3 ((0 : Int))) (sm_nt p3 (S 1046 0) (S 1100023 (S 1046 0)) (S 1100023 (S 1100023 (S 1046 0)))) (sm_nl p3 (S 1046 0) (S 1100007 (S 1046 0)) (S 1100025 (S 1046 0)) (S 1100007 (S 1100025 (S 1046 0))) (S 1100025 (S 1100025 (S 1046 0)))) (S 1100009 (0 : Int)) (S 1100027 (0 : Int)) (S 1100028 (0 : Int)) ∧ ((21 ≤ p3 ∧ p3 ≤ 24) ∨ p3 = 27 ∨ p3 = 30 → 0 ≤ (0 : Int) ∧ (0 : Int) < (S 1053 0) ∧ (S 1100026 (0 : Int)) = (S 1056 0)) ∧ (p3 = 1 ∨ p3 = 2 → sm_vv (S 21) (S 32) (S 33) (S 1056 0) (0 : Int) p1))) ∧ (∀ g33 : sv_S, (0 ≤ (g33 1047 0) ∧ (g33 1047 0) ≤ 1 ∧ 1 ≤ (g33 1046 0) ∧ (S 1046 0) ≤ (g33 1046 0) ∧ (g33 1046 0) ≤ (S 1046 0) + 1 ∧ (g33 1046 0) ≤ 600 ∧ ((S 1047 0) = 1 → (g33 1047 0) = 1) ∧ ((g33 1047 0) = 1 → (S 1047 0) = 1 ∨ (S 1046 0) = 600) ∧ sm_F1 (S 26) (g33 26) (S 1046 0) ∧ sm_F1 (S 27) (g33 27) (S 1046 0) ∧ sm_F1 (S 28) (g33 28) (S 1046 0) ∧ sm_F1 (S 29) (g33 29) (S 1046 0) ∧ sm_F1 (S 1100007) (g33 1100007) ((S 1046 0) + 1) ∧ sm_F1 (S 1100023) (g33 1100023) ((S 1046 0) + 1) ∧ sm_F1 (S 1100024) (g33 1100024) ((S 1046 0) + 1) ∧ sm_F1 (S 1100025) (g33 1100025) ((S 1046 0) + 1) ∧ ((g33 1047 0) = 0 → (S 1047 0) = 0 ∧ (g33 1046 0) = (S 1046 0) + 1 ∧ sm_KC (g33 26) (g33 27) (g33 28) (g33 29) (g33 1100007) (g33 1100023) (g33 1100024) (g33 1100025) (S 31) (S 1100009) (S 1100027) (S 1100028) (S 1100026) (S 1100030) (S 21) (S 32) (S 33) (g33 1046 0) (S 1053 0) (S 1056 0) (S 1032 0) (S 1007 0) (S 1100033 0) ∧ sm_MB (S 31) (S 1100030) (S 1053 0) (g33 1046 0) ∧ (g33 26 (S 1046 0)) = p3 ∧ (g33 29 (S 1046 0)) = (S 1056 0) ∧ (g33 1100007 (g33 1046 0)) = ((S 1100007 (S 1046 0)) + sm_dl p3 ((0 : Int))) ∧ (g33 1100023 (g33 1046 0)) = (sm_nt p3 (S 1046 0) (S 1100023 (S 1046 0)) (S 1100023 (S 1100023 (S 1046 0)))) ∧ (g33 1100024 (g33 1046 0)) = (sm_nd p3 (S 1100024 (S 1046 0))) ∧ (g33 1100025 (g33 1046 0)) = (sm_nl p3 (S 1046 0) (S 1100007 (S 1046 0)) (S 1100025 (S 1046 0)) (S 1100007 (S 1100025 (S 1046 0))) (S 1100025 (S 1100025 (S 1046 0)))) ∧ (g33 1100007 (g33 1100023 (g33 1046 0))) = sm_nt p3 (S 1100007 (S 1046 0)) (S 1100007 (S 1100023 (S 1046 0))) (S 1100007 (S 1100023 (S 1100023 (S 1046 0)))) ∧ (p3 = 29 → (g33 1100007 (g33 1100025 (g33 1046 0))) = (S 1100007 (S 1046 0))) ∧ (p3 = 17 → 0 ≤ (S 1100025 (S 1046 0)) → (S 1100007 (S 1100025 (S 1046 0))) = (S 1100007 (S 1046 0)) → (g33 1100007 (g33 1100025 (g33 1046 0))) = (S 1100007 (S 1100025 (S 1100025 (S 1046 0))))) ∧ (¬ p3 = 29 → (p3 = 17 → 0 ≤ (S 1100025 (S 1046 0)) → (S 1100007 (S 1100025 (S 1046 0))) < (S 1100007 (S 1046 0))) → (g33 1100007 (g33 1100025 (g33 1046 0))) = (S 1100007 (S 1100025 (S 1046 0)))))) → (0 ≤ (g33 1047 0) ∧ (g33 1047 0) ≤ 1 ∧ 1 ≤ (g33 1046 0) ∧ (S 1046 0) ≤ (g33 1046 0) ∧ (g33 1046 0) ≤ (S 1046 0) + 1 ∧ (g33 1046 0) ≤ 600 ∧ ((S 1047 0) = 1 → (g33 1047 0) = 1) ∧ ((g33 1047 0) = 1 → (S 1047 0) = 1 ∨ (S 1046 0) = 600) ∧ sm_F1 (S 26) (g33 26) (S 1046 0) ∧ sm_F1 (S 27) (g33 27) (S 1046 0) ∧ sm_F1 (S 28) (g33 28) (S 1046 0) ∧ sm_F1 (S 29) (g33 29) (S 1046 0) ∧ sm_F1 (S 1100007) (g33 1100007) ((S 1046 0) + 1) ∧ sm_F1 (S 1100023) (g33 1100023) ((S 1046 0) + 1) ∧ sm_F1 (S 1100024) (g33 1100024) ((S 1046 0) + 1) ∧ sm_F1 (S 1100025) (g33 1100025) ((S 1046 0) + 1) ∧ ((g33 1047 0) = 0 → (S 1047 0) = 0 ∧ (g33 1046 0) = (S 1046 0) + 1 ∧ sm_KC (g33 26) (g33 27) (g33 28) (g33 29) (g33 1100007) (g33 1100023) (g33 1100024) (g33 1100025) (S 31) (S 1100009) (S 1100027) (S 1100028) (S 1100026) (S 1100030) (S 21) (S 32) (S 33) (g33 1046 0) (S 1053 0) (S 1056 0) (S 1032 0) (S 1007 0) (S 1100033 0) ∧ sm_MB (S 31) (S 1100030) (S 1053 0) (g33 1046 0) ∧ ((g33 26 (S 1046 0)) = p2 ∨ (g33 26 (S 1046 0)) = p3) ∧ (g33 29 (S 1046 0)) = (S 1056 0) ∧ (g33 1100007 (g33 1046 0)) = (S 1100007 (S 1046 0)) + (if p2 = 1 then 1 else 0) ∧ (g33 1100023 (g33 1046 0)) = (S 1100023 (S 1046 0)) ∧ (g33 1100024 (g33 1046 0)) = (S 1100024 (S 1046 0)) ∧ (g33 1100025 (g33 1046 0)) = (S 1100025 (S 1046 0)) ∧ (g33 1100007 (g33 1100023 (g33 1046 0))) = (S 1100007 (S 1100023 (S 1046 0))) ∧ (g33 1100007 (g33 1100025 (g33 1046 0))) = (S 1100007 (S 1100025 (S 1046 0)))))))) ∧ ((¬ (l4_3 ≤ (0 : Int))) → ((0 ≤ l5_4 → sm_UB (S 21) (S 1056 0) (l5_4) → l4_3 = sm_ua (S 21) ((S 1056 0)) (l5_4) → 1 ≤ l4_3 → sm_vh (S 32) (S 33) l4_3 p1 → sm_vv (S 21) (S 32) (S 33) (S 1056 0) l5_4 p1) → (0 ≤ (S 1046 0) ∧ (S 1046 0) ≤ 600 ∧ 0 ≤ (S 1047 0) ∧ (S 1047 0) ≤ 1 ∧ ((S 1047 0) = 0 → sm_KC (S 26) (S 27) (S 28) (S 29) (S 1100007) (S 1100023) (S 1100024) (S 1100025) (S 31) (S 1100009) (S 1100027) (S 1100028) (S 1100026) (S 1100030) (S 21) (S 32) (S 33) (S 1046 0) (S 1053 0) (S 1056 0) (S 1032 0) (S 1007 0) (S 1100033 0) ∧ 0 ≤ p2 ∧ p2 ≤ 30 ∧ sm_ci p2 (l5_4) (p1) (S 1100007 (S 1046 0)) (S 1100023 (S 1046 0)) (S 1100024 (S 1046 0)) (S 1100025 (S 1046 0)) (S 1100007 (S 1100023 (S 1046 0))) (S 1100007 (S 1100025 (S 1046 0))) (S 1100023 (S 1100023 (S 1046 0))) (S 1100025 (S 1100025 (S 1046 0))) (S 1046 0) (S 1100033 0) (S 1032 0) (S 1007 0) (S 21 l5_4) (S 1056 0) ((S 1100007 (S 1046 0)) + sm_dl p2 (l5_4)) (sm_nt p2 (S 1046 0) (S 1100023 (S 1046 0)) (S 1100023 (S 1100023 (S 1046 0)))) (sm_nl p2 (S 1046 0) (S 1100007 (S 1046 0)) (S 1100025 (S 1046 0)) (S 1100007 (S 1100025 (S 1046 0))) (S 1100025 (S 1100025 (S 1046 0)))) (S 1100009 l5_4) (S 1100027 l5_4) (S 1100028 l5_4) ∧ ((21 ≤ p2 ∧ p2 ≤ 24) ∨ p2 = 27 ∨ p2 = 30 → 0 ≤ l5_4 ∧ l5_4 < (S 1053 0) ∧ (S 1100026 l5_4) = (S 1056 0)) ∧ (p2 = 1 ∨ p2 = 2 → sm_vv (S 21) (S 32) (S 33) (S 1056 0) l5_4 p1))) ∧ (∀ g40 : sv_S, (0 ≤ (g40 1047 0) ∧ (g40 1047 0) ≤ 1 ∧ 1 ≤ (g40 1046 0) ∧ (S 1046 0) ≤ (g40 1046 0) ∧ (g40 1046 0) ≤ (S 1046 0) + 1 ∧ (g40 1046 0) ≤ 600 ∧ ((S 1047 0) = 1 → (g40 1047 0) = 1) ∧ ((g40 1047 0) = 1 → (S 1047 0) = 1 ∨ (S 1046 0) = 600) ∧ sm_F1 (S 26) (g40 26) (S 1046 0) ∧ sm_F1 (S 27) (g40 27) (S 1046 0) ∧ sm_F1 (S 28) (g40 28) (S 1046 0) ∧ sm_F1 (S 29) (g40 29) (S 1046 0) ∧ sm_F1 (S 1100007) (g40 1100007) ((S 1046 0) + 1) ∧ sm_F1 (S 1100023) (g40 1100023) ((S 1046 0) + 1) ∧ sm_F1 (S 1100024) (g40 1100024) ((S 1046 0) + 1) ∧ sm_F1 (S 1100025) (g40 1100025) ((S 1046 0) + 1) ∧ ((g40 1047 0) = 0 → (S 1047 0) = 0 ∧ (g40 1046 0) = (S 1046 0) + 1 ∧ sm_KC (g40 26) (g40 27) (g40 28) (g40 29) (g40 1100007) (g40 1100023) (g40 1100024) (g40 1100025) (S 31) (S 1100009) (S 1100027) (S 1100028) (S 1100026) (S 1100030) (S 21) (S 32) (S 33) (g40 1046 0) (S 1053 0) (S 1056 0) (S 1032 0) (S 1007 0) (S 1100033 0) ∧ sm_MB (S 31) (S 1100030) (S 1053 0) (g40 1046 0) ∧ (g40 26 (S 1046 0)) = p2 ∧ (g40 29 (S 1046 0)) = (S 1056 0) ∧ (g40 1100007 (g40 1046 0)) = ((S 1100007 (S 1046 0)) + sm_dl p2 (l5_4)) ∧ (g40 1100023 (g40 1046 0)) = (sm_nt p2 (S 1046 0) (S 1100023 (S 1046 0)) (S 1100023 (S 1100023 (S 1046 0)))) ∧ (g40 1100024 (g40 1046 0)) = (sm_nd p2 (S 1100024 (S 1046 0))) ∧ (g40 1100025 (g40 1046 0)) = (sm_nl p2 (S 1046 0) (S 1100007 (S 1046 0)) (S 1100025 (S 1046 0)) (S 1100007 (S 1100025 (S 1046 0))) (S 1100025 (S 1100025 (S 1046 0)))) ∧ (g40 1100007 (g40 1100023 (g40 1046 0))) = sm_nt p2 (S 1100007 (S 1046 0)) (S 1100007 (S 1100023 (S 1046 0))) (S 1100007 (S 1100023 (S 1100023 (S 1046 0)))) ∧ (p2 = 29 → (g40 1100007 (g40 1100025 (g40 1046 0))) = (S 1100007 (S 1046 0))) ∧ (p2 = 17 → 0 ≤ (S 1100025 (S 1046 0)) → (S 1100007 (S 1100025 (S 1046 0))) = (S 1100007 (S 1046 0)) → (g40 1100007 (g40 1100025 (g40 1046 0))) = (S 1100007 (S 1100025 (S 1100025 (S 1046 0))))) ∧ (¬ p2 = 29 → (p2 = 17 → 0 ≤ (S 1100025 (S 1046 0)) → (S 1100007 (S 1100025 (S 1046 0))) < (S 1100007 (S 1046 0))) → (g40 1100007 (g40 1100025 (g40 1046 0))) = (S 1100007 (S 1100025 (S 1046 0)))))) → (0 ≤ (g40 1047 0) ∧ (g40 1047 0) ≤ 1 ∧ 1 ≤ (g40 1046 0) ∧ (S 1046 0) ≤ (g40 1046 0) ∧ (g40 1046 0) ≤ (S 1046 0) + 1 ∧ (g40 1046 0) ≤ 600 ∧ ((S 1047 0) = 1 → (g40 1047 0) = 1) ∧ ((g40 1047 0) = 1 → (S 1047 0) = 1 ∨ (S 1046 0) = 600) ∧ sm_F1 (S 26) (g40 26) (S 1046 0) ∧ sm_F1 (S 27) (g40 27) (S 1046 0) ∧ sm_F1 (S 28) (g40 28) (S 1046 0) ∧ sm_F1 (S 29) (g40 29) (S 1046 0) ∧ sm_F1 (S 1100007) (g40 1100007) ((S 1046 0) + 1) ∧ sm_F1 (S 1100023) (g40 1100023) ((S 1046 0) + 1) ∧ sm_F1 (S 1100024) (g40 1100024) ((S 1046 0) + 1) ∧ sm_F1 (S 1100025) (g40 1100025) ((S 1046 0) + 1) ∧ ((g40 1047 0) = 0 → (S 1047 0) = 0 ∧ (g40 1046 0) = (S 1046 0) + 1 ∧ sm_KC (g40 26) (g40 27) (g40 28) (g40 29) (g40 1100007) (g40 1100023) (g40 1100024) (g40 1100025) (S 31) (S 1100009) (S 1100027) (S 1100028) (S 1100026) (S 1100030) (S 21) (S 32) (S 33) (g40 1046 0) (S 1053 0) (S 1056 0) (S 1032 0) (S 1007 0) (S 1100033 0) ∧ sm_MB (S 31) (S 1100030) (S 1053 0) (g40 1046 0) ∧ ((g40 26 (S 1046 0)) = p2 ∨ (g40 26 (S 1046 0)) = p3) ∧ (g40 29 (S 1046 0)) = (S 1056 0) ∧ (g40 1100007 (g40 1046 0)) = (S 1100007 (S 1046 0)) + (if p2 = 1 then 1 else 0) ∧ (g40 1100023 (g40 1046 0)) = (S 1100023 (S 1046 0)) ∧ (g40 1100024 (g40 1046 0)) = (S 1100024 (S 1046 0)) ∧ (g40 1100025 (g40 1046 0)) = (S 1100025 (S 1046 0)) ∧ (g40 1100007 (g40 1100023 (g40 1046 0))) = (S 1100007 (S 1100023 (S 1046 0))) ∧ (g40 1100007 (g40 1100025 (g40 1046 0))) = (S 1100007 (S 1100025 (S 1046 0)))))))))) ∧ ((¬ (¬ r30 = (0 : Int))) → (0 ≤ l4_3 ∧ l4_3 < 12) ∧ (sv_R (S 21 l4_3) → (sv_R (l5_4 + (1 : Int))) ∧ ((0 ≤ (S 21 l4_3) ∧ (S 21 l4_3) < (S 1032 0) ∧ 0 ≤ (l5_4 + (1 : Int)) ∧ (l5_4 + (1 : Int)) + (S 21 l4_3) ≤ (S 1056 0) ∧ (S 21 l4_3) = sm_ua (S 21) ((S 1056 0)) ((l5_4 + (1 : Int))) ∧ sm_UB (S 21) (S 1056 0) ((l5_4 + (1 : Int)))) ∧ ((S 21 l4_3)) < (l4_3))))))))))))))) := by
  intro p1
  intro p2
  intro p3
  intro S
  intro h1_
  intro h2_
  intro h3_
  intro h4_
  rintro ⟨h5_, ⟨h6_, ⟨h7_, ⟨h8_, ⟨h9_, ⟨h10_, ⟨h11_, ⟨h12_, ⟨h13_, h14_⟩⟩⟩⟩⟩⟩⟩⟩⟩
  intro h15_
  intro h16_
  refine ⟨⟨h9_, ⟨h10_, ⟨la_named_0, ⟨la_named_1, ⟨h16_, (sm_UB_0 la_named_0)⟩⟩⟩⟩⟩, ?_⟩
  intro l4_3
  intro h17_
  intro l5_4
  intro h18_
  rintro ⟨h19_, ⟨h20_, ⟨h21_, ⟨h22_, ⟨h23_, h24_⟩⟩⟩⟩⟩
  refine ⟨h19_, ?_⟩
  refine ⟨?_, ?_⟩
  · skip
    intro h25_
    refine ⟨?_, ?_⟩
    · skip
      intro h26_
      intro h27_
      have h28_ := (h27_ h13_)
      refine ⟨?_, ?_⟩
      · skip
        refine ⟨h5_, ?_⟩
        refine ⟨h6_, ?_⟩
        refine ⟨h7_, ?_⟩
        refine ⟨h8_, ?_⟩
        intro h29_
        obtain ⟨h30_, ⟨h31_, ⟨h32_, ⟨h33_, h34_⟩⟩⟩⟩ := (h14_ h29_)
        have h35_ := (h28_ (la_named_2 h31_ h32_))
        have h36_ := (h35_ (sm_KC_n h30_).2.1.1)
        have h37_ := (h36_ h33_)
        have h38_ := (h37_ h34_)
        refine ⟨h30_, ?_⟩
        refine ⟨?_, ?_⟩
        · skip
          exact (la_named_3 h13_)
        refine ⟨?_, ?_⟩
        · skip
          exact (la_named_4 h13_)
        refine ⟨h38_, ?_⟩
        refine ⟨(la_named_5 h13_), ?_⟩
        intro h39_
        exact ((la_named_6 h13_ h39_)).elim
      intro g10
      rintro ⟨h40_, ⟨h41_, ⟨h42_, ⟨h43_, ⟨h44_, ⟨h45_, ⟨h46_, ⟨h47_, ⟨h48_, ⟨h49_, ⟨h50_, ⟨h51_, ⟨h52_, ⟨h53_, ⟨h54_, ⟨h55_, h56_⟩⟩⟩⟩⟩⟩⟩⟩⟩⟩⟩⟩⟩⟩⟩⟩
      refine ⟨h40_, ?_⟩
      refine ⟨h41_, ?_⟩
      refine ⟨h42_, ?_⟩
      refine ⟨h43_, ?_⟩
      refine ⟨h44_, ?_⟩
      refine ⟨h45_, ?_⟩
      refine ⟨h46_, ?_⟩
      refine ⟨h47_, ?_⟩
      refine ⟨h48_, ?_⟩
      refine ⟨h49_, ?_⟩
      refine ⟨h50_, ?_⟩
      refine ⟨h51_, ?_⟩
      refine ⟨h52_, ?_⟩
      refine ⟨h53_, ?_⟩
      refine ⟨h54_, ?_⟩
      refine ⟨h55_, ?_⟩
      intro h57_
      have h58_ : ¬ (S 1047 0 = 1) := fun q_ => (la_named_7 h57_) (h46_ q_)
      obtain ⟨h59_, ⟨h60_, ⟨h61_, ⟨h62_, ⟨h63_, ⟨h64_, ⟨h65_, ⟨h66_, ⟨h67_, ⟨h68_, ⟨h69_, ⟨h70_, ⟨h71_, h72_⟩⟩⟩⟩⟩⟩⟩⟩⟩⟩⟩⟩⟩ := (h56_ h57_)
      obtain ⟨h73_, ⟨h74_, ⟨h75_, ⟨h76_, h77_⟩⟩⟩⟩ := (h14_ h59_)
      have h78_ := (h28_ (la_named_2 h74_ h75_))
      have h79_ := (h78_ (sm_KC_n h73_).2.1.1)
      have h80_ := (h79_ h76_)
      have h81_ := (h80_ h77_)
      refine ⟨h59_, ?_⟩
      refine ⟨h60_, ?_⟩
      refine ⟨h61_, ?_⟩
      refine ⟨h62_, ?_⟩
      refine ⟨(la_named_9 h63_), ?_⟩
      refine ⟨h64_, ?_⟩
      refine ⟨?_, ?_⟩
      · skip
        by_cases c82_ : p2 = 1
        · skip
          have e83_ : (if p2 = 1 then 1 else 0 : Int) = 1 := if_pos c82_
          obtain ⟨h84_, h85_⟩ := (h13_.resolve_right (la_named_12 c82_))
          obtain ⟨h86_, h87_⟩ := (h76_ c82_)
          exact (la_named_14 h65_ (sm_dl_ld (op := p3) (a := 0)) (sm_dl_st (op := p3) (a := 0)) e83_ h85_)
        · skip
          have e88_ : (if p2 = 1 then 1 else 0 : Int) = 0 := if_neg c82_
          obtain ⟨h89_, h90_⟩ := (h13_.resolve_left (fun q_ => c82_ q_.1))
          have h91_ := ((sm_dl_st (op := p3) (a := 0)) (la_named_16 h90_))
          have h92_ := ((sm_nt_o (op := p3) (k := S 1046 0) (T := S 1100023 (S 1046 0)) (tT := S 1100023 (S 1100023 (S 1046 0)))) (la_named_17 h90_))
          have h93_ := ((sm_nd_o (op := p3) (D := S 1100024 (S 1046 0))) (la_named_17 h90_))
          have h94_ := ((sm_nl_o (op := p3) (k := S 1046 0) (H := S 1100007 (S 1046 0)) (L := S 1100025 (S 1046 0)) (hL := S 1100007 (S 1100025 (S 1046 0))) (lL := S 1100025 (S 1100025 (S 1046 0)))) (la_named_18 h90_))
          have h95_ := ((sm_nt_o (op := p3) (k := S 1100007 (S 1046 0)) (T := S 1100007 (S 1100023 (S 1046 0))) (tT := S 1100007 (S 1100023 (S 1100023 (S 1046 0))))) (la_named_17 h90_))
          have h96_ := (h72_ (la_named_18 h90_))
          obtain ⟨h97_, ⟨h98_, h99_⟩⟩ := (h77_ h89_)
          have h100_ := (h92_ (la_named_22 h90_))
          have h101_ := (h93_ (la_named_22 h90_))
          have h102_ := (h94_ (la_named_19 h90_))
          have h103_ := (h95_ (la_named_22 h90_))
          have h104_ := (h96_ (la_named_23 h90_))
          exact (la_named_24 h65_ (sv_i01 (p := p2 = 1)).1 e88_ h91_)
      refine ⟨?_, ?_⟩
      · skip
        exact (la_named_25 h13_ (sm_dl_ld (op := p3) (a := 0)) (sm_dl_st (op := p3) (a := 0)) h66_ (sm_nt_o (op := p3) (k := S 1046 0) (T := S 1100023 (S 1046 0)) (tT := S 1100023 (S 1100023 (S 1046 0)))))
      refine ⟨?_, ?_⟩
      · skip
        exact (la_named_26 h13_ h67_ (sm_nd_o (op := p3) (D := S 1100024 (S 1046 0))))
      refine ⟨?_, ?_⟩
      · skip
        exact (la_named_27 h13_ h68_ (sm_nl_o (op := p3) (k := S 1046 0) (H := S 1100007 (S 1046 0)) (L := S 1100025 (S 1046 0)) (hL := S 1100007 (S 1100025 (S 1046 0))) (lL := S 1100025 (S 1100025 (S 1046 0)))))
      refine ⟨?_, ?_⟩
      · skip
        exact (la_named_26 h13_ h69_ (sm_nt_o (op := p3) (k := S 1100007 (S 1046 0)) (T := S 1100007 (S 1100023 (S 1046 0))) (tT := S 1100007 (S 1100023 (S 1100023 (S 1046 0))))))
      exact (la_named_28 h13_ h72_)
    intro h105_
    intro h106_
    have h107_ := (h106_ h21_)
    have h108_ := (h107_ h24_)
    have h109_ := (h108_ h23_)
    have h110_ := (h109_ (la_named_29 h105_))
    refine ⟨?_, ?_⟩
    · skip
      refine ⟨h5_, ?_⟩
      refine ⟨h6_, ?_⟩
      refine ⟨h7_, ?_⟩
      refine ⟨h8_, ?_⟩
      intro h111_
      obtain ⟨h112_, ⟨h113_, ⟨h114_, ⟨h115_, h116_⟩⟩⟩⟩ := (h14_ h111_)
      refine ⟨h112_, ?_⟩
      refine ⟨?_, ?_⟩
      · skip
        have e117_ : sm_ua (S 21) (S 1056 0) l5_4 = sm_ua (S 21) (S 1056 0) 0 := congrArg ((sm_ua (S 21) (S 1056 0))) (la_named_30 h25_ h105_)
        exact (la_named_31 h13_)
      refine ⟨?_, ?_⟩
      · skip
        have e118_ : sm_ua (S 21) (S 1056 0) l5_4 = sm_ua (S 21) (S 1056 0) 0 := congrArg ((sm_ua (S 21) (S 1056 0))) (la_named_30 h25_ h105_)
        exact (la_named_32 h13_)
      refine ⟨?_, ?_⟩
      · skip
        have e119_ : sm_ua (S 21) (S 1056 0) l5_4 = sm_ua (S 21) (S 1056 0) 0 := congrArg ((sm_ua (S 21) (S 1056 0))) (la_named_30 h25_ h105_)
        exact ((la_named_33 h25_ h105_)).elim
      refine ⟨(la_named_34 h21_ h25_ h105_), ?_⟩
      intro h120_
      have e121_ : sm_ua (S 21) (S 1056 0) l5_4 = sm_ua (S 21) (S 1056 0) 0 := congrArg ((sm_ua (S 21) (S 1056 0))) (la_named_30 h25_ h105_)
      have h122_ : sm_vh (S 32) (S 33) l4_3 p1 := by
        exact ((la_named_33 h25_ h105_)).elim
      have h123_ := (h110_ h122_)
      exact h123_
    intro g17
    rintro ⟨h124_, ⟨h125_, ⟨h126_, ⟨h127_, ⟨h128_, ⟨h129_, ⟨h130_, ⟨h131_, ⟨h132_, ⟨h133_, ⟨h134_, ⟨h135_, ⟨h136_, ⟨h137_, ⟨h138_, ⟨h139_, h140_⟩⟩⟩⟩⟩⟩⟩⟩⟩⟩⟩⟩⟩⟩⟩⟩
    refine ⟨h124_, ?_⟩
    refine ⟨h125_, ?_⟩
    refine ⟨h126_, ?_⟩
    refine ⟨h127_, ?_⟩
    refine ⟨h128_, ?_⟩
    refine ⟨h129_, ?_⟩
    refine ⟨h130_, ?_⟩
    refine ⟨h131_, ?_⟩
    refine ⟨h132_, ?_⟩
    refine ⟨h133_, ?_⟩
    refine ⟨h134_, ?_⟩
    refine ⟨h135_, ?_⟩
    refine ⟨h136_, ?_⟩
    refine ⟨h137_, ?_⟩
    refine ⟨h138_, ?_⟩
    refine ⟨h139_, ?_⟩
    intro h141_
    have h142_ : ¬ (S 1047 0 = 1) := fun q_ => (la_named_7 h141_) (h130_ q_)
    obtain ⟨h143_, ⟨h144_, ⟨h145_, ⟨h146_, ⟨h147_, ⟨h148_, ⟨h149_, ⟨h150_, ⟨h151_, ⟨h152_, ⟨h153_, ⟨h154_, ⟨h155_, h156_⟩⟩⟩⟩⟩⟩⟩⟩⟩⟩⟩⟩⟩ := (h140_ h141_)
    obtain ⟨h157_, ⟨h158_, ⟨h159_, ⟨h160_, h161_⟩⟩⟩⟩ := (h14_ h143_)
    refine ⟨h143_, ?_⟩
    refine ⟨h144_, ?_⟩
    refine ⟨h145_, ?_⟩
    refine ⟨h146_, ?_⟩
    refine ⟨(la_named_35 h147_), ?_⟩
    refine ⟨h148_, ?_⟩
    refine ⟨?_, ?_⟩
    · skip
      have e162_ : sm_ua (S 21) (S 1056 0) l5_4 = sm_ua (S 21) (S 1056 0) 0 := congrArg ((sm_ua (S 21) (S 1056 0))) (la_named_36 h21_ h25_ h105_)
      exact ((la_named_33 h25_ h105_)).elim
    refine ⟨?_, ?_⟩
    · skip
      have e163_ : sm_ua (S 21) (S 1056 0) l5_4 = sm_ua (S 21) (S 1056 0) 0 := congrArg ((sm_ua (S 21) (S 1056 0))) (la_named_36 h21_ h25_ h105_)
      exact (la_named_37 h13_ (sm_dl_ld (op := p2) (a := l5_4)) (sm_dl_st (op := p2) (a := l5_4)) h150_ (sm_nt_o (op := p2) (k := S 1046 0) (T := S 1100023 (S 1046 0)) (tT := S 1100023 (S 1100023 (S 1046 0)))))
    refine ⟨?_, ?_⟩
    · skip
      have e164_ : sm_ua (S 21) (S 1056 0) l5_4 = sm_ua (S 21) (S 1056 0) 0 := congrArg ((sm_ua (S 21) (S 1056 0))) (la_named_36 h21_ h25_ h105_)
      exact (la_named_38 h13_ h151_ (sm_nd_o (op := p2) (D := S 1100024 (S 1046 0))))
    refine ⟨?_, ?_⟩
    · skip
      have e165_ : sm_ua (S 21) (S 1056 0) l5_4 = sm_ua (S 21) (S 1056 0) 0 := congrArg ((sm_ua (S 21) (S 1056 0))) (la_named_36 h21_ h25_ h105_)
      exact (la_named_39 h13_ h152_ (sm_nl_o (op := p2) (k := S 1046 0) (H := S 1100007 (S 1046 0)) (L := S 1100025 (S 1046 0)) (hL := S 1100007 (S 1100025 (S 1046 0))) (lL := S 1100025 (S 1100025 (S 1046 0)))))
    refine ⟨?_, ?_⟩
    · skip
      have e166_ : sm_ua (S 21) (S 1056 0) l5_4 = sm_ua (S 21) (S 1056 0) 0 := congrArg ((sm_ua (S 21) (S 1056 0))) (la_named_36 h21_ h25_ h105_)
      exact (la_named_38 h13_ h153_ (sm_nt_o (op := p2) (k := S 1100007 (S 1046 0)) (T := S 1100007 (S 1100023 (S 1046 0))) (tT := S 1100007 (S 1100023 (S 1100023 (S 1046 0))))))
    have e167_ : sm_ua (S 21) (S 1056 0) l5_4 = sm_ua (S 21) (S 1056 0) 0 := congrArg ((sm_ua (S 21) (S 1056 0))) (la_named_36 h21_ h25_ h105_)
    exact (la_named_40 h13_ h156_)
  intro h168_
  intro h169_
  have h170_ := (h169_ h12_)
  have h171_ := (h170_ h19_)
  obtain ⟨h172_, ⟨h173_, h174_⟩⟩ := (h171_ h20_)
  obtain ⟨h175_, h176_⟩ := (h174_ (la_named_29 h168_))
  intro h177_
  have h178_ := (h177_ h23_)
  have h179_ := (h178_ h21_)
  intro h180_
  have h181_ := (h180_ h24_)
  have h182_ := (h181_ h23_)
  have h183_ := (h182_ (la_named_29 h168_))
  refine ⟨(la_named_41 h11_ h20_ h168_ h173_), ?_⟩
  intro r30
  intro h184_
  rintro ⟨h185_, h186_⟩
  refine ⟨?_, ?_⟩
  · skip
    intro h187_
    have h188_ := (h185_.resolve_left h187_)
    have h189_ := (h186_ h188_)
    refine ⟨?_, ?_⟩
    · skip
      intro h190_
      intro h191_
      have h192_ := (h191_ h13_)
      refine ⟨?_, ?_⟩
      · skip
        refine ⟨h5_, ?_⟩
        refine ⟨h6_, ?_⟩
        refine ⟨h7_, ?_⟩
        refine ⟨h8_, ?_⟩
        intro h193_
        obtain ⟨h194_, ⟨h195_, ⟨h196_, ⟨h197_, h198_⟩⟩⟩⟩ := (h14_ h193_)
        have h199_ := (h192_ (la_named_2 h195_ h196_))
        have h200_ := (h199_ (sm_KC_n h194_).2.1.1)
        have h201_ := (h200_ h197_)
        have h202_ := (h201_ h198_)
        refine ⟨h194_, ?_⟩
        refine ⟨?_, ?_⟩
        · skip
          have e203_ : sm_ua (S 21) (S 1056 0) 0 = sm_ua (S 21) (S 1056 0) (l5_4 + 1) := congrArg ((sm_ua (S 21) (S 1056 0))) (la_named_44 h21_ h168_ h190_)
          have e204_ : sm_ua (S 21) (S 1056 0) l5_4 = sm_ua (S 21) (S 1056 0) 0 := congrArg ((sm_ua (S 21) (S 1056 0))) (la_named_45 h21_ h168_ h190_)
          exact (la_named_3 h13_)
        refine ⟨?_, ?_⟩
        · skip
          have e205_ : sm_ua (S 21) (S 1056 0) 0 = sm_ua (S 21) (S 1056 0) (l5_4 + 1) := congrArg ((sm_ua (S 21) (S 1056 0))) (la_named_44 h21_ h168_ h190_)
          have e206_ : sm_ua (S 21) (S 1056 0) l5_4 = sm_ua (S 21) (S 1056 0) 0 := congrArg ((sm_ua (S 21) (S 1056 0))) (la_named_45 h21_ h168_ h190_)
          exact (la_named_4 h13_)
        refine ⟨h202_, ?_⟩
        refine ⟨(la_named_46 h13_ h168_ h190_), ?_⟩
        intro h207_
        have e208_ : sm_ua (S 21) (S 1056 0) 0 = sm_ua (S 21) (S 1056 0) (l5_4 + 1) := congrArg ((sm_ua (S 21) (S 1056 0))) (la_named_44 h21_ h168_ h190_)
        have e209_ : sm_ua (S 21) (S 1056 0) l5_4 = sm_ua (S 21) (S 1056 0) 0 := congrArg ((sm_ua (S 21) (S 1056 0))) (la_named_45 h21_ h168_ h190_)
        exact ((la_named_47 h168_ h190_)).elim
      intro g33
      rintro ⟨h210_, ⟨h211_, ⟨h212_, ⟨h213_, ⟨h214_, ⟨h215_, ⟨h216_, ⟨h217_, ⟨h218_, ⟨h219_, ⟨h220_, ⟨h221_, ⟨h222_, ⟨h223_, ⟨h224_, ⟨h225_, h226_⟩⟩⟩⟩⟩⟩⟩⟩⟩⟩⟩⟩⟩⟩⟩⟩
      refine ⟨h210_, ?_⟩
      refine ⟨h211_, ?_⟩
      refine ⟨h212_, ?_⟩
      refine ⟨h213_, ?_⟩
      refine ⟨h214_, ?_⟩
      refine ⟨h215_, ?_⟩
      refine ⟨h216_, ?_⟩
      refine ⟨h217_, ?_⟩
      refine ⟨h218_, ?_⟩
      refine ⟨h219_, ?_⟩
      refine ⟨h220_, ?_⟩
      refine ⟨h221_, ?_⟩
      refine ⟨h222_, ?_⟩
      refine ⟨h223_, ?_⟩
      refine ⟨h224_, ?_⟩
      refine ⟨h225_, ?_⟩
      intro h227_
      have h228_ : ¬ (S 1047 0 = 1) := fun q_ => (la_named_7 h227_) (h216_ q_)
      obtain ⟨h229_, ⟨h230_, ⟨h231_, ⟨h232_, ⟨h233_, ⟨h234_, ⟨h235_, ⟨h236_, ⟨h237_, ⟨h238_, ⟨h239_, ⟨h240_, ⟨h241_, h242_⟩⟩⟩⟩⟩⟩⟩⟩⟩⟩⟩⟩⟩ := (h226_ h227_)
      obtain ⟨h243_, ⟨h244_, ⟨h245_, ⟨h246_, h247_⟩⟩⟩⟩ := (h14_ h229_)
      have h248_ := (h192_ (la_named_2 h244_ h245_))
      have h249_ := (h248_ (sm_KC_n h243_).2.1.1)
      have h250_ := (h249_ h246_)
      have h251_ := (h250_ h247_)
      refine ⟨h229_, ?_⟩
      refine ⟨h230_, ?_⟩
      refine ⟨h231_, ?_⟩
      refine ⟨h232_, ?_⟩
      refine ⟨(la_named_9 h233_), ?_⟩
      refine ⟨h234_, ?_⟩
      refine ⟨?_, ?_⟩
      · skip
        have e252_ : sm_ua (S 21) (S 1056 0) 0 = sm_ua (S 21) (S 1056 0) (l5_4 + 1) := congrArg ((sm_ua (S 21) (S 1056 0))) (la_named_44 h21_ h168_ h190_)
        have e253_ : sm_ua (S 21) (S 1056 0) l5_4 = sm_ua (S 21) (S 1056 0) 0 := congrArg ((sm_ua (S 21) (S 1056 0))) (la_named_48 h168_ h190_)
        exact ((la_named_47 h168_ h190_)).elim
      refine ⟨?_, ?_⟩
      · skip
        have e254_ : sm_ua (S 21) (S 1056 0) 0 = sm_ua (S 21) (S 1056 0) (l5_4 + 1) := congrArg ((sm_ua (S 21) (S 1056 0))) (la_named_44 h21_ h168_ h190_)
        have e255_ : sm_ua (S 21) (S 1056 0) l5_4 = sm_ua (S 21) (S 1056 0) 0 := congrArg ((sm_ua (S 21) (S 1056 0))) (la_named_48 h168_ h190_)
        exact (la_named_25 h13_ (sm_dl_ld (op := p3) (a := 0)) (sm_dl_st (op := p3) (a := 0)) h236_ (sm_nt_o (op := p3) (k := S 1046 0) (T := S 1100023 (S 1046 0)) (tT := S 1100023 (S 1100023 (S 1046 0)))))
      refine ⟨?_, ?_⟩
      · skip
        have e256_ : sm_ua (S 21) (S 1056 0) 0 = sm_ua (S 21) (S 1056 0) (l5_4 + 1) := congrArg ((sm_ua (S 21) (S 1056 0))) (la_named_44 h21_ h168_ h190_)
        have e257_ : sm_ua (S 21) (S 1056 0) l5_4 = sm_ua (S 21) (S 1056 0) 0 := congrArg ((sm_ua (S 21) (S 1056 0))) (la_named_48 h168_ h190_)
        exact (la_named_26 h13_ h237_ (sm_nd_o (op := p3) (D := S 1100024 (S 1046 0))))
      refine ⟨?_, ?_⟩
      · skip
        have e258_ : sm_ua (S 21) (S 1056 0) 0 = sm_ua (S 21) (S 1056 0) (l5_4 + 1) := congrArg ((sm_ua (S 21) (S 1056 0))) (la_named_44 h21_ h168_ h190_)
        have e259_ : sm_ua (S 21) (S 1056 0) l5_4 = sm_ua (S 21) (S 1056 0) 0 := congrArg ((sm_ua (S 21) (S 1056 0))) (la_named_48 h168_ h190_)
        exact (la_named_27 h13_ h238_ (sm_nl_o (op := p3) (k := S 1046 0) (H := S 1100007 (S 1046 0)) (L := S 1100025 (S 1046 0)) (hL := S 1100007 (S 1100025 (S 1046 0))) (lL := S 1100025 (S 1100025 (S 1046 0)))))
      refine ⟨?_, ?_⟩
      · skip
        have e260_ : sm_ua (S 21) (S 1056 0) 0 = sm_ua (S 21) (S 1056 0) (l5_4 + 1) := congrArg ((sm_ua (S 21) (S 1056 0))) (la_named_44 h21_ h168_ h190_)
        have e261_ : sm_ua (S 21) (S 1056 0) l5_4 = sm_ua (S 21) (S 1056 0) 0 := congrArg ((sm_ua (S 21) (S 1056 0))) (la_named_48 h168_ h190_)
        exact (la_named_26 h13_ h239_ (sm_nt_o (op := p3) (k := S 1100007 (S 1046 0)) (T := S 1100007 (S 1100023 (S 1046 0))) (tT := S 1100007 (S 1100023 (S 1100023 (S 1046 0))))))
      have e262_ : sm_ua (S 21) (S 1056 0) 0 = sm_ua (S 21) (S 1056 0) (l5_4 + 1) := congrArg ((sm_ua (S 21) (S 1056 0))) (la_named_44 h21_ h168_ h190_)
      have e263_ : sm_ua (S 21) (S 1056 0) l5_4 = sm_ua (S 21) (S 1056 0) 0 := congrArg ((sm_ua (S 21) (S 1056 0))) (la_named_48 h168_ h190_)
      exact (la_named_28 h13_ h242_)
    intro h264_
    intro h265_
    have h266_ := (h265_ h21_)
    have h267_ := (h266_ h24_)
    have h268_ := (h267_ h23_)
    have h269_ := (h268_ (la_named_29 h168_))
    have h270_ := (h269_ h189_)
    refine ⟨?_, ?_⟩
    · skip
      refine ⟨h5_, ?_⟩
      refine ⟨h6_, ?_⟩
      refine ⟨h7_, ?_⟩
      refine ⟨h8_, ?_⟩
      intro h271_
      obtain ⟨h272_, ⟨h273_, ⟨h274_, ⟨h275_, h276_⟩⟩⟩⟩ := (h14_ h271_)
      refine ⟨h272_, ?_⟩
      refine ⟨?_, ?_⟩
      · skip
        exact (la_named_31 h13_)
      refine ⟨?_, ?_⟩
      · skip
        exact (la_named_32 h13_)
      refine ⟨?_, ?_⟩
      · skip
        by_cases c277_ : p2 = 1
        · skip
          obtain ⟨h278_, h279_⟩ := (h13_.resolve_right (la_named_12 c277_))
          obtain ⟨h280_, h281_⟩ := (h275_ c277_)
          have h282_ := ((sm_dl_ld (op := p2) (a := l5_4)) (la_named_49 c277_))
          have h283_ := ((sm_nt_o (op := p2) (k := S 1046 0) (T := S 1100023 (S 1046 0)) (tT := S 1100023 (S 1100023 (S 1046 0)))) (la_named_51 c277_))
          have h284_ := ((sm_nl_o (op := p2) (k := S 1046 0) (H := S 1100007 (S 1046 0)) (L := S 1100025 (S 1046 0)) (hL := S 1100007 (S 1100025 (S 1046 0))) (lL := S 1100025 (S 1100025 (S 1046 0)))) (la_named_52 c277_))
          have h285_ := (h283_ (la_named_53 c277_))
          have h286_ := (h284_ (la_named_54 c277_))
          exact (sm_ci_g1 (la_named_49 c277_) (la_named_55 h21_ (sm_KC_n h272_).2.1.1 h273_ h274_ h280_ h281_ h282_ h285_ h286_))
        · skip
          obtain ⟨h287_, h288_⟩ := (h13_.resolve_left (fun q_ => c277_ q_.1))
          obtain ⟨h289_, ⟨h290_, h291_⟩⟩ := (h276_ h287_)
          have h292_ := ((sm_dl_st (op := p2) (a := l5_4)) (la_named_57 h287_))
          have h293_ := ((sm_nt_o (op := p2) (k := S 1046 0) (T := S 1100023 (S 1046 0)) (tT := S 1100023 (S 1100023 (S 1046 0)))) (la_named_58 h287_))
          have h294_ := ((sm_nl_o (op := p2) (k := S 1046 0) (H := S 1100007 (S 1046 0)) (L := S 1100025 (S 1046 0)) (hL := S 1100007 (S 1100025 (S 1046 0))) (lL := S 1100025 (S 1100025 (S 1046 0)))) (la_named_59 h287_))
          have h295_ := (h293_ (la_named_60 h287_))
          have h296_ := (h294_ (la_named_61 h287_))
          exact (sm_ci_g2 (la_named_57 h287_) (la_named_62 h21_ h273_ h274_ h289_ h290_ h291_ h292_ h295_ h296_))
      refine ⟨(la_named_63 h13_ h21_), ?_⟩
      intro h297_
      exact h270_
    intro g40
    rintro ⟨h298_, ⟨h299_, ⟨h300_, ⟨h301_, ⟨h302_, ⟨h303_, ⟨h304_, ⟨h305_, ⟨h306_, ⟨h307_, ⟨h308_, ⟨h309_, ⟨h310_, ⟨h311_, ⟨h312_, ⟨h313_, h314_⟩⟩⟩⟩⟩⟩⟩⟩⟩⟩⟩⟩⟩⟩⟩⟩
    refine ⟨h298_, ?_⟩
    refine ⟨h299_, ?_⟩
    refine ⟨h300_, ?_⟩
    refine ⟨h301_, ?_⟩
    refine ⟨h302_, ?_⟩
    refine ⟨h303_, ?_⟩
    refine ⟨h304_, ?_⟩
    refine ⟨h305_, ?_⟩
    refine ⟨h306_, ?_⟩
    refine ⟨h307_, ?_⟩
    refine ⟨h308_, ?_⟩
    refine ⟨h309_, ?_⟩
    refine ⟨h310_, ?_⟩
    refine ⟨h311_, ?_⟩
    refine ⟨h312_, ?_⟩
    refine ⟨h313_, ?_⟩
    intro h315_
    have h316_ : ¬ (S 1047 0 = 1) := fun q_ => (la_named_7 h315_) (h304_ q_)
    obtain ⟨h317_, ⟨h318_, ⟨h319_, ⟨h320_, ⟨h321_, ⟨h322_, ⟨h323_, ⟨h324_, ⟨h325_, ⟨h326_, ⟨h327_, ⟨h328_, ⟨h329_, h330_⟩⟩⟩⟩⟩⟩⟩⟩⟩⟩⟩⟩⟩ := (h314_ h315_)
    obtain ⟨h331_, ⟨h332_, ⟨h333_, ⟨h334_, h335_⟩⟩⟩⟩ := (h14_ h317_)
    refine ⟨h317_, ?_⟩
    refine ⟨h318_, ?_⟩
    refine ⟨h319_, ?_⟩
    refine ⟨h320_, ?_⟩
    refine ⟨(la_named_35 h321_), ?_⟩
    refine ⟨h322_, ?_⟩
    refine ⟨?_, ?_⟩
    · skip
      by_cases c336_ : p2 = 1
      · skip
        have e337_ : (if p2 = 1 then 1 else 0 : Int) = 1 := if_pos c336_
        obtain ⟨h338_, h339_⟩ := (h13_.resolve_right (la_named_12 c336_))
        have h340_ := ((sm_dl_ld (op := p2) (a := l5_4)) (la_named_49 c336_))
        have h341_ := ((sm_nt_o (op := p2) (k := S 1046 0) (T := S 1100023 (S 1046 0)) (tT := S 1100023 (S 1100023 (S 1046 0)))) (la_named_51 c336_))
        have h342_ := ((sm_nd_o (op := p2) (D := S 1100024 (S 1046 0))) (la_named_51 c336_))
        have h343_ := ((sm_nl_o (op := p2) (k := S 1046 0) (H := S 1100007 (S 1046 0)) (L := S 1100025 (S 1046 0)) (hL := S 1100007 (S 1100025 (S 1046 0))) (lL := S 1100025 (S 1100025 (S 1046 0)))) (la_named_52 c336_))
        have h344_ := ((sm_nt_o (op := p2) (k := S 1100007 (S 1046 0)) (T := S 1100007 (S 1100023 (S 1046 0))) (tT := S 1100007 (S 1100023 (S 1100023 (S 1046 0))))) (la_named_51 c336_))
        have h345_ := (h330_ (la_named_52 c336_))
        obtain ⟨h346_, h347_⟩ := (h334_ c336_)
        have h348_ := (h341_ (la_named_53 c336_))
        have h349_ := (h342_ (la_named_53 c336_))
        have h350_ := (h343_ (la_named_54 c336_))
        have h351_ := (h344_ (la_named_53 c336_))
        have h352_ := (h345_ (la_named_64 c336_))
        exact (la_named_65 h323_ (sv_i01 (p := p2 = 1)).2 e337_ h340_)
      · skip
        have e353_ : (if p2 = 1 then 1 else 0 : Int) = 0 := if_neg c336_
        obtain ⟨h354_, h355_⟩ := (h13_.resolve_left (fun q_ => c336_ q_.1))
        have h356_ := ((sm_dl_st (op := p2) (a := l5_4)) (la_named_57 h354_))
        have h357_ := ((sm_nt_o (op := p2) (k := S 1046 0) (T := S 1100023 (S 1046 0)) (tT := S 1100023 (S 1100023 (S 1046 0)))) (la_named_58 h354_))
        have h358_ := ((sm_nd_o (op := p2) (D := S 1100024 (S 1046 0))) (la_named_58 h354_))
        have h359_ := ((sm_nl_o (op := p2) (k := S 1046 0) (H := S 1100007 (S 1046 0)) (L := S 1100025 (S 1046 0)) (hL := S 1100007 (S 1100025 (S 1046 0))) (lL := S 1100025 (S 1100025 (S 1046 0)))) (la_named_59 h354_))
        have h360_ := ((sm_nt_o (op := p2) (k := S 1100007 (S 1046 0)) (T := S 1100007 (S 1100023 (S 1046 0))) (tT := S 1100007 (S 1100023 (S 1100023 (S 1046 0))))) (la_named_58 h354_))
        have h361_ := (h330_ (la_named_59 h354_))
        obtain ⟨h362_, ⟨h363_, h364_⟩⟩ := (h335_ h354_)
        have h365_ := (h357_ (la_named_60 h354_))
        have h366_ := (h358_ (la_named_60 h354_))
        have h367_ := (h359_ (la_named_61 h354_))
        have h368_ := (h360_ (la_named_60 h354_))
        have h369_ := (h361_ (la_named_66 h354_))
        exact (la_named_24 h323_ (sv_i01 (p := p2 = 1)).1 e353_ h356_)
    refine ⟨?_, ?_⟩
    · skip
      exact (la_named_37 h13_ (sm_dl_ld (op := p2) (a := l5_4)) (sm_dl_st (op := p2) (a := l5_4)) h324_ (sm_nt_o (op := p2) (k := S 1046 0) (T := S 1100023 (S 1046 0)) (tT := S 1100023 (S 1100023 (S 1046 0)))))
    refine ⟨?_, ?_⟩
    · skip
      exact (la_named_38 h13_ h325_ (sm_nd_o (op := p2) (D := S 1100024 (S 1046 0))))
    refine ⟨?_, ?_⟩
    · skip
      exact (la_named_39 h13_ h326_ (sm_nl_o (op := p2) (k := S 1046 0) (H := S 1100007 (S 1046 0)) (L := S 1100025 (S 1046 0)) (hL := S 1100007 (S 1100025 (S 1046 0))) (lL := S 1100025 (S 1100025 (S 1046 0)))))
    refine ⟨?_, ?_⟩
    · skip
      exact (la_named_38 h13_ h327_ (sm_nt_o (op := p2) (k := S 1100007 (S 1046 0)) (T := S 1100007 (S 1100023 (S 1046 0))) (tT := S 1100007 (S 1100023 (S 1100023 (S 1046 0))))))
    exact (la_named_40 h13_ h330_)
  intro h370_
  have h371_ := (h185_.resolve_right (la_named_67 h370_))
  refine ⟨(la_named_68 h11_ h20_ h168_), ?_⟩
  intro h372_
  refine ⟨(la_named_69 h10_ h11_ h21_ h22_ h168_), ?_⟩
  refine ⟨⟨h175_, ⟨(la_named_70 h20_ h176_), ⟨(la_named_71 h21_), ⟨(la_named_72 h22_ h176_), ⟨h179_, h183_⟩⟩⟩⟩⟩, ?_⟩
  exact h176_
set_option maxRecDepth 8000 in
set_option maxHeartbeats 2000000 in
theorem t_named : ∀ (p1 : Int) (p2 : Int) (p3 : Int) (S : sv_S), sm_ok S → sv_R p1 → sv_R p2 → sv_R p3 → (0 ≤ (S 1046 0) ∧ (S 1046 0) ≤ 600 ∧ 0 ≤ (S 1047 0) ∧ (S 1047 0) ≤ 1 ∧ 0 ≤ (S 1056 0) ∧ (S 1056 0) < (S 1032 0) ∧ (S 1032 0) ≤ 11 ∧ sm_VB (S 33) (S 21) (S 1032 0) ∧ ((p2 = 1 ∧ (p3 = 3 ∨ p3 = 5)) ∨ (p2 = 2 ∧ p3 = 4)) ∧ ((S 1047 0) = 0 → sm_KC (S 26) (S 27) (S 28) (S 29) (S 1100007) (S 1100023) (S 1100024) (S 1100025) (S 31) (S 1100009) (S 1100027) (S 1100028) (S 1100026) (S 1100030) (S 21) (S 32) (S 33) (S 1046 0) (S 1053 0) (S 1056 0) (S 1032 0) (S 1007 0) (S 1100033 0) ∧ 0 ≤ p1 ∧ p1 < (S 1007 0) ∧ (p2 = 1 → (0 ≤ (S 1100023 (S 1046 0)) → (S 1100007 (S 1100023 (S 1046 0))) ≤ (S 1100007 (S 1046 0))) ∧ (0 ≤ (S 1100025 (S 1046 0)) → (S 1100007 (S 1100025 (S 1046 0))) ≤ (S 1100007 (S 1046 0)))) ∧ (p2 = 2 → 1 ≤ (S 1100007 (S 1046 0)) ∧ (0 ≤ (S 1100023 (S 1046 0)) → (S 1100007 (S 1100023 (S 1046 0))) ≤ (S 1100007 (S 1046 0)) - 1) ∧ (0 ≤ (S 1100025 (S 1046 0)) → (S 1100007 (S 1100025 (S 1046 0))) ≤ (S 1100007 (S 1046 0)) - 1)))) → sv_T sm_XS sm_cs sm_L sm_sh 1 (q_named p1 p2 p3 S) 87 0 (lv_args 0 [.ref 0, sv_I p1, sv_I p2, sv_I p3]) [] S := by
  intro p1 p2 p3 S hok hp1 hp2 hp3 hpre
  have h := f_named p1 p2 p3 S hok hp1 hp2 hp3 hpre
  have hM := sm_h87
  show sv_T sm_XS sm_cs sm_L sm_sh 1 (q_named p1 p2 p3 S) 87 0 [(0, .ref 0), (1, sv_I p1), (2, sv_I p2), (3, sv_I p3)] [] S
  refine sv_aload_n hM dX12_named_0 rfl rfl ?_
  have k1 : sv_R (S 1056 0) := sm_okI hok sm_r1056 0
  have h := h k1
  refine sv_getI hM dX12_named_1 sm_fl_612 (sm_a0 _) sm_k56 rfl (x := (S 1056 0)) rfl ?_
  refine sv_istore hM dX12_named_4 (by decide) rfl ?_
  show sv_T sm_XS sm_cs sm_L sm_sh 1 (q_named p1 p2 p3 S) 87 6 [(0, .ref 0), (1, sv_I p1), (2, sv_I p2), (3, sv_I p3), (4, sv_I (S 1056 0))] [] S
  have k2 : ((S 1056 0) = sm_ua (S 21) ((S 1056 0)) (0)) := rfl
  have h := h k2
  refine sv_iconst (d := (0 : Int)) hM dX12_named_6 rfl rfl ?_
  refine sv_istore hM dX12_named_7 (by decide) rfl ?_
  show sv_T sm_XS sm_cs sm_L sm_sh 1 (q_named p1 p2 p3 S) 87 9 [(0, .ref 0), (1, sv_I p1), (2, sv_I p2), (3, sv_I p3), (4, sv_I (S 1056 0)), (5, sv_I (0 : Int))] [] S
  obtain ⟨hin6, h⟩ := h
  have hJ : ∀ a : Int × Int × Unit, (sv_R a.1 ∧ sv_R a.2.1 ∧ sm_ok S ∧ (0 ≤ a.1 ∧ a.1 < (S 1032 0) ∧ 0 ≤ a.2.1 ∧ a.2.1 + a.1 ≤ (S 1056 0) ∧ a.1 = sm_ua (S 21) ((S 1056 0)) (a.2.1) ∧ sm_UB (S 21) (S 1056 0) (a.2.1))) → sv_T sm_XS sm_cs sm_L sm_sh 1 (q_named p1 p2 p3 S) 87 9 [(0, .ref 0), (1, sv_I p1), (2, sv_I p2), (3, sv_I p3), (4, sv_I a.1), (5, sv_I a.2.1)] [] S := by
    refine sv_loop (α := Int × Int × Unit) (fun a => sv_R a.1 ∧ sv_R a.2.1 ∧ sm_ok S ∧ (0 ≤ a.1 ∧ a.1 < (S 1032 0) ∧ 0 ≤ a.2.1 ∧ a.2.1 + a.1 ≤ (S 1056 0) ∧ a.1 = sm_ua (S 21) ((S 1056 0)) (a.2.1) ∧ sm_UB (S 21) (S 1056 0) (a.2.1))) (fun a => a.1) (fun a => sv_T sm_XS sm_cs sm_L sm_sh 1 (q_named p1 p2 p3 S) 87 9 [(0, .ref 0), (1, sv_I p1), (2, sv_I p2), (3, sv_I p3), (4, sv_I a.1), (5, sv_I a.2.1)] [] S) (fun a q => (h a.1 q.1 a.2.1 q.2.1 q.2.2.2).1) (fun a q ih5 => ?_)
    obtain ⟨l4_3, l5_4, _u⟩ := a
    obtain ⟨hl4_3, hl5_4, ok7, hin6i⟩ := q
    have h := (h l4_3 hl4_3 l5_4 hl5_4 hin6i).2
    show sv_T sm_XS sm_cs sm_L sm_sh 1 (q_named p1 p2 p3 S) 87 9 [(0, .ref 0), (1, sv_I p1), (2, sv_I p2), (3, sv_I p3), (4, sv_I l4_3), (5, sv_I l5_4)] [] S
    refine sv_iload hM dX12_named_9 rfl rfl ?_
    refine sv_cond_le hM dX12_named_11 hl4_3 (t := 39) rfl rfl (fun hc => ?_) (fun hc => ?_)
    · have h := h.1 (hc)
      refine sv_iload hM dX12_named_39 rfl rfl ?_
      refine sv_cond_le hM dX12_named_41 hl4_3 (t := 55) rfl rfl (fun hc => ?_) (fun hc => ?_)
      · have h := h.1 (hc)
        have k8 : (((p2 = 1 ∧ (p3 = 3 ∨ p3 = 5)) ∨ (p2 = 2 ∧ p3 = 4)) → 0 ≤ p1 ∧ p1 < (S 1007 0) → 0 ≤ (S 1100007 (S 1046 0)) → (p2 = 1 → (0 ≤ (S 1100023 (S 1046 0)) → (S 1100007 (S 1100023 (S 1046 0))) ≤ (S 1100007 (S 1046 0))) ∧ (0 ≤ (S 1100025 (S 1046 0)) → (S 1100007 (S 1100025 (S 1046 0))) ≤ (S 1100007 (S 1046 0)))) → (p2 = 2 → 1 ≤ (S 1100007 (S 1046 0)) ∧ (0 ≤ (S 1100023 (S 1046 0)) → (S 1100007 (S 1100023 (S 1046 0))) ≤ (S 1100007 (S 1046 0)) - 1) ∧ (0 ≤ (S 1100025 (S 1046 0)) → (S 1100007 (S 1100025 (S 1046 0))) ≤ (S 1100007 (S 1046 0)) - 1)) → sm_ci p3 ((0 : Int)) (p1) (S 1100007 (S 1046 0)) (S 1100023 (S 1046 0)) (S 1100024 (S 1046 0)) (S 1100025 (S 1046 0)) (S 1100007 (S 1100023 (S 1046 0))) (S 1100007 (S 1100025 (S 1046 0))) (S 1100023 (S 1100023 (S 1046 0))) (S 1100025 (S 1100025 (S 1046 0))) (S 1046 0) (S 1100033 0) (S 1032 0) (S 1007 0) (S 21 (0 : Int)) (S 1056 0) ((S 1100007 (S 1046 0)) + sm_dl p3 ((0 : Int))) (sm_nt p3 (S 1046 0) (S 1100023 (S 1046 0)) (S 1100023 (S 1100023 (S 1046 0)))) (sm_nl p3 (S 1046 0) (S 1100007 (S 1046 0)) (S 1100025 (S 1046 0)) (S 1100007 (S 1100025 (S 1046 0))) (S 1100025 (S 1100025 (S 1046 0)))) (S 1100009 (0 : Int)) (S 1100027 (0 : Int)) (S 1100028 (0 : Int))) := fun a b c d e => sm_ci_gl a (by decide) b c d e
        have h := h k8
        refine sv_aload_n hM dX12_named_55 rfl rfl ?_
        refine sv_iload_n hM dX12_named_56 rfl rfl ?_
        refine sv_iconst (d := (0 : Int)) hM dX12_named_57 rfl rfl ?_
        refine sv_iload_n hM dX12_named_58 rfl rfl ?_
        obtain ⟨o9, h⟩ := h
        refine sv_callV hM dX12_named_59 sm_iv_615 (by decide) (sm_a0 _) rfl rfl (Nat.le_of_ble_eq_true rfl) sm_h82 (Nat.le_of_ble_eq_true rfl) (Nat.le_of_ble_eq_true rfl) (F' := 0) (Nat.le_of_ble_eq_true rfl) rfl (t_emit p3 (0 : Int) p1 S ok7 hp3 (⟨by decide, by decide⟩ : sv_R (0 : Int)) hp1 o9) (fun v S1 hq => ?_)
        obtain ⟨rfl, ok11, md12, hpo13⟩ := hq
        obtain ⟨g10, rfl⟩ : ∃ g, S1 = sv_sts S [26, 27, 28, 29, 1046, 1047, 1100007, 1100023, 1100024, 1100025] g := ⟨_, md12.eq⟩
        show sv_T sm_XS sm_cs sm_L sm_sh 1 (q_named p1 p2 p3 S) 87 62 [(0, .ref 0), (1, sv_I p1), (2, sv_I p2), (3, sv_I p3), (4, sv_I l4_3), (5, sv_I l5_4)] [] (sv_sts S [26, 27, 28, 29, 1046, 1047, 1100007, 1100023, 1100024, 1100025] g10)
        have md14 : sv_mod [26, 27, 28, 29, 1046, 1047, 1100007, 1100023, 1100024, 1100025] S (sv_sts S [26, 27, 28, 29, 1046, 1047, 1100007, 1100023, 1100024, 1100025] g10) := sv_mod.sts sv_mod.rf (by decide)
        have h := h g10 hpo13
        exact sv_vret hM dX12_named_62 rfl ⟨rfl, ok11, md14, h⟩
      · have h := h.2 (hc)
        have k15 : (0 ≤ l5_4 → sm_UB (S 21) (S 1056 0) (l5_4) → l4_3 = sm_ua (S 21) ((S 1056 0)) (l5_4) → 1 ≤ l4_3 → sm_vh (S 32) (S 33) l4_3 p1 → sm_vv (S 21) (S 32) (S 33) (S 1056 0) l5_4 p1) := fun a h e g k => sm_vv_h a h e g k
        have h := h k15
        refine sv_aload_n hM dX12_named_44 rfl rfl ?_
        refine sv_iload_n hM dX12_named_45 rfl rfl ?_
        refine sv_iload hM dX12_named_46 rfl rfl ?_
        refine sv_iload_n hM dX12_named_48 rfl rfl ?_
        obtain ⟨o16, h⟩ := h
        refine sv_callV hM dX12_named_49 sm_iv_615 (by decide) (sm_a0 _) rfl rfl (Nat.le_of_ble_eq_true rfl) sm_h82 (Nat.le_of_ble_eq_true rfl) (Nat.le_of_ble_eq_true rfl) (F' := 0) (Nat.le_of_ble_eq_true rfl) rfl (t_emit p2 l5_4 p1 S ok7 hp2 hl5_4 hp1 o16) (fun v S1 hq => ?_)
        obtain ⟨rfl, ok18, md19, hpo20⟩ := hq
        obtain ⟨g17, rfl⟩ : ∃ g, S1 = sv_sts S [26, 27, 28, 29, 1046, 1047, 1100007, 1100023, 1100024, 1100025] g := ⟨_, md19.eq⟩
        show sv_T sm_XS sm_cs sm_L sm_sh 1 (q_named p1 p2 p3 S) 87 52 [(0, .ref 0), (1, sv_I p1), (2, sv_I p2), (3, sv_I p3), (4, sv_I l4_3), (5, sv_I l5_4)] [] (sv_sts S [26, 27, 28, 29, 1046, 1047, 1100007, 1100023, 1100024, 1100025] g17)
        have md21 : sv_mod [26, 27, 28, 29, 1046, 1047, 1100007, 1100023, 1100024, 1100025] S (sv_sts S [26, 27, 28, 29, 1046, 1047, 1100007, 1100023, 1100024, 1100025] g17) := sv_mod.sts sv_mod.rf (by decide)
        have h := h g17 hpo20
        refine sv_goto hM dX12_named_52 (pc' := 62) rfl ?_
        exact sv_vret hM dX12_named_62 rfl ⟨rfl, ok18, md21, h⟩
    · have h := h.2 (hc)
      have k22 : (sm_VB (S 33) (S 21) (S 1032 0) → 0 ≤ l4_3 → l4_3 < (S 1032 0) → 0 ≤ (S 33 l4_3) ∧ (S 33 l4_3) ≤ 100 ∧ (1 ≤ l4_3 → 0 ≤ (S 21 l4_3) ∧ (S 21 l4_3) < l4_3)) := fun h a b => sm_VB_at h _ a b
      have h := h k22
      have k23 : (l4_3 = sm_ua (S 21) ((S 1056 0)) (l5_4) → 0 ≤ l5_4 → (S 21 l4_3) = sm_ua (S 21) ((S 1056 0)) (l5_4 + 1)) := fun e h => by rw [sm_ua_s h rfl, ← e]
      have h := h k23
      have k24 : (sm_UB (S 21) (S 1056 0) (l5_4) → l4_3 = sm_ua (S 21) ((S 1056 0)) (l5_4) → 1 ≤ l4_3 → sm_UB (S 21) (S 1056 0) (l5_4 + 1)) := fun h e g => sm_UB_s h (by omega) rfl
      have h := h k24
      refine sv_aload_n hM dX12_named_14 rfl rfl ?_
      refine sv_iload hM dX12_named_15 rfl rfl ?_
      refine sv_iload_n hM dX12_named_17 rfl rfl ?_
      obtain ⟨o25, h⟩ := h
      refine sv_callV hM dX12_named_18 sm_iv_622 (by decide) (sm_a0 _) rfl rfl (Nat.le_of_ble_eq_true rfl) sm_h86 (Nat.le_of_ble_eq_true rfl) (Nat.le_of_ble_eq_true rfl) (F' := 0) (Nat.le_of_ble_eq_true rfl) rfl (t_isVariable l4_3 p1 S ok7 hl4_3 hp1 o25) (fun v S1 hq => ?_)
      obtain ⟨r30, rfl, hr30, ok27, md28, hpo29⟩ := hq
      obtain rfl : S = S1 := (funext fun j => md28 j (by intro q; cases q)).symm
      show sv_T sm_XS sm_cs sm_L sm_sh 1 (q_named p1 p2 p3 S) 87 21 [(0, .ref 0), (1, sv_I p1), (2, sv_I p2), (3, sv_I p3), (4, sv_I l4_3), (5, sv_I l5_4)] [sv_I r30] S
      have h := h r30 hr30 hpo29
      refine sv_cond_ne hM dX12_named_21 hr30 (t := 39) rfl rfl (fun hc => ?_) (fun hc => ?_)
      · have h := h.1 (hc)
        refine sv_iload hM dX12_named_39 rfl rfl ?_
        refine sv_cond_le hM dX12_named_41 hl4_3 (t := 55) rfl rfl (fun hc => ?_) (fun hc => ?_)
        · have h := h.1 (hc)
          have k31 : (((p2 = 1 ∧ (p3 = 3 ∨ p3 = 5)) ∨ (p2 = 2 ∧ p3 = 4)) → 0 ≤ p1 ∧ p1 < (S 1007 0) → 0 ≤ (S 1100007 (S 1046 0)) → (p2 = 1 → (0 ≤ (S 1100023 (S 1046 0)) → (S 1100007 (S 1100023 (S 1046 0))) ≤ (S 1100007 (S 1046 0))) ∧ (0 ≤ (S 1100025 (S 1046 0)) → (S 1100007 (S 1100025 (S 1046 0))) ≤ (S 1100007 (S 1046 0)))) → (p2 = 2 → 1 ≤ (S 1100007 (S 1046 0)) ∧ (0 ≤ (S 1100023 (S 1046 0)) → (S 1100007 (S 1100023 (S 1046 0))) ≤ (S 1100007 (S 1046 0)) - 1) ∧ (0 ≤ (S 1100025 (S 1046 0)) → (S 1100007 (S 1100025 (S 1046 0))) ≤ (S 1100007 (S 1046 0)) - 1)) → sm_ci p3 ((0 : Int)) (p1) (S 1100007 (S 1046 0)) (S 1100023 (S 1046 0)) (S 1100024 (S 1046 0)) (S 1100025 (S 1046 0)) (S 1100007 (S 1100023 (S 1046 0))) (S 1100007 (S 1100025 (S 1046 0))) (S 1100023 (S 1100023 (S 1046 0))) (S 1100025 (S 1100025 (S 1046 0))) (S 1046 0) (S 1100033 0) (S 1032 0) (S 1007 0) (S 21 (0 : Int)) (S 1056 0) ((S 1100007 (S 1046 0)) + sm_dl p3 ((0 : Int))) (sm_nt p3 (S 1046 0) (S 1100023 (S 1046 0)) (S 1100023 (S 1100023 (S 1046 0)))) (sm_nl p3 (S 1046 0) (S 1100007 (S 1046 0)) (S 1100025 (S 1046 0)) (S 1100007 (S 1100025 (S 1046 0))) (S 1100025 (S 1100025 (S 1046 0)))) (S 1100009 (0 : Int)) (S 1100027 (0 : Int)) (S 1100028 (0 : Int))) := fun a b c d e => sm_ci_gl a (by decide) b c d e
          have h := h k31
          refine sv_aload_n hM dX12_named_55 rfl rfl ?_
          refine sv_iload_n hM dX12_named_56 rfl rfl ?_
          refine sv_iconst (d := (0 : Int)) hM dX12_named_57 rfl rfl ?_
          refine sv_iload_n hM dX12_named_58 rfl rfl ?_
          obtain ⟨o32, h⟩ := h
          refine sv_callV hM dX12_named_59 sm_iv_615 (by decide) (sm_a0 _) rfl rfl (Nat.le_of_ble_eq_true rfl) sm_h82 (Nat.le_of_ble_eq_true rfl) (Nat.le_of_ble_eq_true rfl) (F' := 0) (Nat.le_of_ble_eq_true rfl) rfl (t_emit p3 (0 : Int) p1 S ok27 hp3 (⟨by decide, by decide⟩ : sv_R (0 : Int)) hp1 o32) (fun v S1 hq => ?_)
          obtain ⟨rfl, ok34, md35, hpo36⟩ := hq
          obtain ⟨g33, rfl⟩ : ∃ g, S1 = sv_sts S [26, 27, 28, 29, 1046, 1047, 1100007, 1100023, 1100024, 1100025] g := ⟨_, md35.eq⟩
          show sv_T sm_XS sm_cs sm_L sm_sh 1 (q_named p1 p2 p3 S) 87 62 [(0, .ref 0), (1, sv_I p1), (2, sv_I p2), (3, sv_I p3), (4, sv_I l4_3), (5, sv_I l5_4)] [] (sv_sts S [26, 27, 28, 29, 1046, 1047, 1100007, 1100023, 1100024, 1100025] g33)
          have md37 : sv_mod [26, 27, 28, 29, 1046, 1047, 1100007, 1100023, 1100024, 1100025] S (sv_sts S [26, 27, 28, 29, 1046, 1047, 1100007, 1100023, 1100024, 1100025] g33) := sv_mod.sts sv_mod.rf (by decide)
          have h := h g33 hpo36
          exact sv_vret hM dX12_named_62 rfl ⟨rfl, ok34, md37, h⟩
        · have h := h.2 (hc)
          have k38 : (0 ≤ l5_4 → sm_UB (S 21) (S 1056 0) (l5_4) → l4_3 = sm_ua (S 21) ((S 1056 0)) (l5_4) → 1 ≤ l4_3 → sm_vh (S 32) (S 33) l4_3 p1 → sm_vv (S 21) (S 32) (S 33) (S 1056 0) l5_4 p1) := fun a h e g k => sm_vv_h a h e g k
          have h := h k38
          refine sv_aload_n hM dX12_named_44 rfl rfl ?_
          refine sv_iload_n hM dX12_named_45 rfl rfl ?_
          refine sv_iload hM dX12_named_46 rfl rfl ?_
          refine sv_iload_n hM dX12_named_48 rfl rfl ?_
          obtain ⟨o39, h⟩ := h
          refine sv_callV hM dX12_named_49 sm_iv_615 (by decide) (sm_a0 _) rfl rfl (Nat.le_of_ble_eq_true rfl) sm_h82 (Nat.le_of_ble_eq_true rfl) (Nat.le_of_ble_eq_true rfl) (F' := 0) (Nat.le_of_ble_eq_true rfl) rfl (t_emit p2 l5_4 p1 S ok27 hp2 hl5_4 hp1 o39) (fun v S1 hq => ?_)
          obtain ⟨rfl, ok41, md42, hpo43⟩ := hq
          obtain ⟨g40, rfl⟩ : ∃ g, S1 = sv_sts S [26, 27, 28, 29, 1046, 1047, 1100007, 1100023, 1100024, 1100025] g := ⟨_, md42.eq⟩
          show sv_T sm_XS sm_cs sm_L sm_sh 1 (q_named p1 p2 p3 S) 87 52 [(0, .ref 0), (1, sv_I p1), (2, sv_I p2), (3, sv_I p3), (4, sv_I l4_3), (5, sv_I l5_4)] [] (sv_sts S [26, 27, 28, 29, 1046, 1047, 1100007, 1100023, 1100024, 1100025] g40)
          have md44 : sv_mod [26, 27, 28, 29, 1046, 1047, 1100007, 1100023, 1100024, 1100025] S (sv_sts S [26, 27, 28, 29, 1046, 1047, 1100007, 1100023, 1100024, 1100025] g40) := sv_mod.sts sv_mod.rf (by decide)
          have h := h g40 hpo43
          refine sv_goto hM dX12_named_52 (pc' := 62) rfl ?_
          exact sv_vret hM dX12_named_62 rfl ⟨rfl, ok41, md44, h⟩
      · have h := h.2 (hc)
        refine sv_aload_n hM dX12_named_24 rfl rfl ?_
        refine sv_getA hM dX12_named_25 sm_fl_74 (sm_a0 _) sm_k37 rfl ?_
        refine sv_iload hM dX12_named_28 rfl rfl ?_
        obtain ⟨o45, h⟩ := h
        have k46 : sv_R (S 21 l4_3) := sm_okI ok27 sm_r21 l4_3
        have h := h k46
        refine sv_iald hM dX12_named_30 (sm_a21 _) (by decide) o45.1 o45.2 rfl (x := (S 21 l4_3)) rfl ?_
        refine sv_istore hM dX12_named_31 (by decide) rfl ?_
        show sv_T sm_XS sm_cs sm_L sm_sh 1 (q_named p1 p2 p3 S) 87 33 [(0, .ref 0), (1, sv_I p1), (2, sv_I p2), (3, sv_I p3), (4, sv_I (S 21 l4_3)), (5, sv_I l5_4)] [] S
        refine sv_iinc (d := (1 : Int)) hM dX12_named_33 rfl (by decide) rfl rfl ?_
        show sv_T sm_XS sm_cs sm_L sm_sh 1 (q_named p1 p2 p3 S) 87 36 [(0, .ref 0), (1, sv_I p1), (2, sv_I p2), (3, sv_I p3), (4, sv_I (S 21 l4_3)), (5, sv_I (l5_4 + (1 : Int)))] [] S
        refine sv_goto hM dX12_named_36 (pc' := 9) rfl ?_
        obtain ⟨o47, h⟩ := h
        have hb := ih5 ((S 21 l4_3), (l5_4 + (1 : Int)), ()) ⟨k46, o47, ok27, h.1⟩ h.2
        exact sv_less (lv := [(0, .ref 0), (1, sv_I p1), (2, sv_I p2), (3, sv_I p3), (4, sv_I (S 21 l4_3)), (5, sv_I (l5_4 + (1 : Int)))]) (sv_Sub_cons rfl (sv_Sub_cons rfl (sv_Sub_cons rfl (sv_Sub_cons rfl (sv_Sub_cons rfl (sv_Sub_cons rfl sv_Sub_nil)))))) hb
  exact hJ ((S 1056 0), (0 : Int), ()) ⟨k1, (⟨by decide, by decide⟩ : sv_R (0 : Int)), hok, hin6⟩
def q_get (p1 : Int) (S : sv_S) : Option Value → sv_S → Prop := fun v S' => v = none ∧ sm_ok S' ∧ sv_mod [26, 27, 28, 29, 1046, 1047, 1100007, 1100023, 1100024, 1100025] S S' ∧ (0 ≤ (S' 1047 0) ∧ (S' 1047 0) ≤ 1 ∧ 1 ≤ (S' 1046 0) ∧ (S 1046 0) ≤ (S' 1046 0) ∧ (S' 1046 0) ≤ (S 1046 0) + 1 ∧ (S' 1046 0) ≤ 600 ∧ ((S 1047 0) = 1 → (S' 1047 0) = 1) ∧ ((S' 1047 0) = 1 → (S 1047 0) = 1 ∨ (S 1046 0) = 600) ∧ sm_F1 (S 26) (S' 26) (S 1046 0) ∧ sm_F1 (S 27) (S' 27) (S 1046 0) ∧ sm_F1 (S 28) (S' 28) (S 1046 0) ∧ sm_F1 (S 29) (S' 29) (S 1046 0) ∧ sm_F1 (S 1100007) (S' 1100007) ((S 1046 0) + 1) ∧ sm_F1 (S 1100023) (S' 1100023) ((S 1046 0) + 1) ∧ sm_F1 (S 1100024) (S' 1100024) ((S 1046 0) + 1) ∧ sm_F1 (S 1100025) (S' 1100025) ((S 1046 0) + 1) ∧ ((S' 1047 0) = 0 → (S 1047 0) = 0 ∧ (S' 1046 0) = (S 1046 0) + 1 ∧ sm_KC (S' 26) (S' 27) (S' 28) (S' 29) (S' 1100007) (S' 1100023) (S' 1100024) (S' 1100025) (S' 31) (S' 1100009) (S' 1100027) (S' 1100028) (S' 1100026) (S' 1100030) (S' 21) (S' 32) (S' 33) (S' 1046 0) (S' 1053 0) (S' 1056 0) (S' 1032 0) (S' 1007 0) (S' 1100033 0) ∧ sm_MB (S' 31) (S' 1100030) (S' 1053 0) (S' 1046 0) ∧ ((S' 26 (S 1046 0)) = (1 : Int) ∨ (S' 26 (S 1046 0)) = (3 : Int)) ∧ (S' 29 (S 1046 0)) = (S' 1056 0) ∧ (S' 1100007 (S' 1046 0)) = (S 1100007 (S 1046 0)) + (if (1 : Int) = 1 then 1 else 0) ∧ (S' 1100023 (S' 1046 0)) = (S 1100023 (S 1046 0)) ∧ (S' 1100024 (S' 1046 0)) = (S 1100024 (S 1046 0)) ∧ (S' 1100025 (S' 1046 0)) = (S 1100025 (S 1046 0)) ∧ (S' 1100007 (S' 1100023 (S' 1046 0))) = (S 1100007 (S 1100023 (S 1046 0))) ∧ (S' 1100007 (S' 1100025 (S' 1046 0))) = (S 1100007 (S 1100025 (S 1046 0)))))
theorem la_get_0 : ¬ ((1 : Int) = 2 ∧ (3 : Int) = 4) := by omega
theorem la_get_1 : ¬ (3 : Int) = 5 := by omega
theorem la_get_2 {x0 : Int} (h0 : x0 = 0) : ¬ x0 = 1 := by omega
theorem la_get_3 {x0 : Int} (h0 : x0 ≤ 1) (h1 : ¬ x0 = 1) : x0 < 1 := by omega
theorem la_get_4 : ¬ (1 : Int) = 2 := by omega
set_option maxHeartbeats 2000000 in
theorem f_get : ∀ (p1 : Int) (S : sv_S), sm_ok S → sv_R p1 → (0 ≤ (S 1046 0) ∧ (S 1046 0) ≤ 600 ∧ 0 ≤ (S 1047 0) ∧ (S 1047 0) ≤ 1 ∧ 0 ≤ (S 1056 0) ∧ (S 1056 0) < (S 1032 0) ∧ (S 1032 0) ≤ 11 ∧ sm_VB (S 33) (S 21) (S 1032 0) ∧ (((1 : Int) = 1 ∧ ((3 : Int) = 3 ∨ (3 : Int) = 5)) ∨ ((1 : Int) = 2 ∧ (3 : Int) = 4)) ∧ ((S 1047 0) = 0 → sm_KC (S 26) (S 27) (S 28) (S 29) (S 1100007) (S 1100023) (S 1100024) (S 1100025) (S 31) (S 1100009) (S 1100027) (S 1100028) (S 1100026) (S 1100030) (S 21) (S 32) (S 33) (S 1046 0) (S 1053 0) (S 1056 0) (S 1032 0) (S 1007 0) (S 1100033 0) ∧ 0 ≤ p1 ∧ p1 < (S 1007 0) ∧ ((1 : Int) = 1 → (0 ≤ (S 1100023 (S 1046 0)) → (S 1100007 (S 1100023 (S 1046 0))) ≤ (S 1100007 (S 1046 0))) ∧ (0 ≤ (S 1100025 (S 1046 0)) → (S 1100007 (S 1100025 (S 1046 0))) ≤ (S 1100007 (S 1046 0)))) ∧ ((1 : Int) = 2 → 1 ≤ (S 1100007 (S 1046 0)) ∧ (0 ≤ (S 1100023 (S 1046 0)) → (S 1100007 (S 1100023 (S 1046 0))) ≤ (S 1100007 (S 1046 0)) - 1) ∧ (0 ≤ (S 1100025 (S 1046 0)) → (S 1100007 (S 1100025 (S 1046 0))) ≤ (S 1100007 (S 1046 0)) - 1)))) → (0 ≤ (S 1046 0) ∧ (S 1046 0) ≤ 600 ∧ 0 ≤ (S 1047 0) ∧ (S 1047 0) ≤ 1 ∧ 0 ≤ (S 1056 0) ∧ (S 1056 0) < (S 1032 0) ∧ (S 1032 0) ≤ 11 ∧ sm_VB (S 33) (S 21) (S 1032 0) ∧ (((1 : Int) = 1 ∧ ((3 : Int) = 3 ∨ (3 : Int) = 5)) ∨ ((1 : Int) = 2 ∧ (3 : Int) = 4)) ∧ ((S 1047 0) = 0 → sm_KC (S 26) (S 27) (S 28) (S 29) (S 1100007) (S 1100023) (S 1100024) (S 1100025) (S 31) (S 1100009) (S 1100027) (S 1100028) (S 1100026) (S 1100030) (S 21) (S 32) (S 33) (S 1046 0) (S 1053 0) (S 1056 0) (S 1032 0) (S 1007 0) (S 1100033 0) ∧ 0 ≤ p1 ∧ p1 < (S 1007 0) ∧ ((1 : Int) = 1 → (0 ≤ (S 1100023 (S 1046 0)) → (S 1100007 (S 1100023 (S 1046 0))) ≤ (S 1100007 (S 1046 0))) ∧ (0 ≤ (S 1100025 (S 1046 0)) → (S 1100007 (S 1100025 (S 1046 0))) ≤ (S 1100007 (S 1046 0)))) ∧ ((1 : Int) = 2 → 1 ≤ (S 1100007 (S 1046 0)) ∧ (0 ≤ (S 1100023 (S 1046 0)) → (S 1100007 (S 1100023 (S 1046 0))) ≤ (S 1100007 (S 1046 0)) - 1) ∧ (0 ≤ (S 1100025 (S 1046 0)) → (S 1100007 (S 1100025 (S 1046 0))) ≤ (S 1100007 (S 1046 0)) - 1)))) ∧ (∀ g2 : sv_S, (0 ≤ (g2 1047 0) ∧ (g2 1047 0) ≤ 1 ∧ 1 ≤ (g2 1046 0) ∧ (S 1046 0) ≤ (g2 1046 0) ∧ (g2 1046 0) ≤ (S 1046 0) + 1 ∧ (g2 1046 0) ≤ 600 ∧ ((S 1047 0) = 1 → (g2 1047 0) = 1) ∧ ((g2 1047 0) = 1 → (S 1047 0) = 1 ∨ (S 1046 0) = 600) ∧ sm_F1 (S 26) (g2 26) (S 1046 0) ∧ sm_F1 (S 27) (g2 27) (S 1046 0) ∧ sm_F1 (S 28) (g2 28) (S 1046 0) ∧ sm_F1 (S 29) (g2 29) (S 1046 0) ∧ sm_F1 (S 1100007) (g2 1100007) ((S 1046 0) + 1) ∧ sm_F1 (S 1100023) (g2 1100023) ((S 1046 0) + 1) ∧ sm_F1 (S 1100024) (g2 1100024) ((S 1046 0) + 1) ∧ sm_F1 (S 1100025) (g2 1100025) ((S 1046 0) + 1) ∧ ((g2 1047 0) = 0 → (S 1047 0) = 0 ∧ (g2 1046 0) = (S 1046 0) + 1 ∧ sm_KC (g2 26) (g2 27) (g2 28) (g2 29) (g2 1100007) (g2 1100023) (g2 1100024) (g2 1100025) (S 31) (S 1100009) (S 1100027) (S 1100028) (S 1100026) (S 1100030) (S 21) (S 32) (S 33) (g2 1046 0) (S 1053 0) (S 1056 0) (S 1032 0) (S 1007 0) (S 1100033 0) ∧ sm_MB (S 31) (S 1100030) (S 1053 0) (g2 1046 0) ∧ ((g2 26 (S 1046 0)) = (1 : Int) ∨ (g2 26 (S 1046 0)) = (3 : Int)) ∧ (g2 29 (S 1046 0)) = (S 1056 0) ∧ (g2 1100007 (g2 1046 0)) = (S 1100007 (S 1046 0)) + (if (1 : Int) = 1 then 1 else 0) ∧ (g2 1100023 (g2 1046 0)) = (S 1100023 (S 1046 0)) ∧ (g2 1100024 (g2 1046 0)) = (S 1100024 (S 1046 0)) ∧ (g2 1100025 (g2 1046 0)) = (S 1100025 (S 1046 0)) ∧ (g2 1100007 (g2 1100023 (g2 1046 0))) = (S 1100007 (S 1100023 (S 1046 0))) ∧ (g2 1100007 (g2 1100025 (g2 1046 0))) = (S 1100007 (S 1100025 (S 1046 0))))) → (0 ≤ (g2 1047 0) ∧ (g2 1047 0) ≤ 1 ∧ 1 ≤ (g2 1046 0) ∧ (S 1046 0) ≤ (g2 1046 0) ∧ (g2 1046 0) ≤ (S 1046 0) + 1 ∧ (g2 1046 0) ≤ 600 ∧ ((S 1047 0) = 1 → (g2 1047 0) = 1) ∧ ((g2 1047 0) = 1 → (S 1047 0) = 1 ∨ (S 1046 0) = 600) ∧ sm_F1 (S 26) (g2 26) (S 1046 0) ∧ sm_F1 (S 27) (g2 27) (S 1046 0) ∧ sm_F1 (S 28) (g2 28) (S 1046 0) ∧ sm_F1 (S 29) (g2 29) (S 1046 0) ∧ sm_F1 (S 1100007) (g2 1100007) ((S 1046 0) + 1) ∧ sm_F1 (S 1100023) (g2 1100023) ((S 1046 0) + 1) ∧ sm_F1 (S 1100024) (g2 1100024) ((S 1046 0) + 1) ∧ sm_F1 (S 1100025) (g2 1100025) ((S 1046 0) + 1) ∧ ((g2 1047 0) = 0 → (S 1047 0) = 0 ∧ (g2 1046 0) = (S 1046 0) + 1 ∧ sm_KC (g2 26) (g2 27) (g2 28) (g2 29) (g2 1100007) (g2 1100023) (g2 1100024) (g2 1100025) (S 31) (S 1100009) (S 1100027) (S 1100028) (S 1100026) (S 1100030) (S 21) (S 32) (S 33) (g2 1046 0) (S 1053 0) (S 1056 0) (S 1032 0) (S 1007 0) (S 1100033 0) ∧ sm_MB (S 31) (S 1100030) (S 1053 0) (g2 1046 0) ∧ ((g2 26 (S 1046 0)) = (1 : Int) ∨ (g2 26 (S 1046 0)) = (3 : Int)) ∧ (g2 29 (S 1046 0)) = (S 1056 0) ∧ (g2 1100007 (g2 1046 0)) = (S 1100007 (S 1046 0)) + (if (1 : Int) = 1 then 1 else 0) ∧ (g2 1100023 (g2 1046 0)) = (S 1100023 (S 1046 0)) ∧ (g2 1100024 (g2 1046 0)) = (S 1100024 (S 1046 0)) ∧ (g2 1100025 (g2 1046 0)) = (S 1100025 (S 1046 0)) ∧ (g2 1100007 (g2 1100023 (g2 1046 0))) = (S 1100007 (S 1100023 (S 1046 0))) ∧ (g2 1100007 (g2 1100025 (g2 1046 0))) = (S 1100007 (S 1100025 (S 1046 0)))))) := by
  intro p1
  intro S
  intro h1_
  intro h2_
  rintro ⟨h3_, ⟨h4_, ⟨h5_, ⟨h6_, ⟨h7_, ⟨h8_, ⟨h9_, ⟨h10_, ⟨h11_, h12_⟩⟩⟩⟩⟩⟩⟩⟩⟩
  obtain ⟨h13_, h14_⟩ := (h11_.resolve_right la_get_0)
  have h15_ := (h14_.resolve_right la_get_1)
  refine ⟨⟨h3_, ⟨h4_, ⟨h5_, ⟨h6_, ⟨h7_, ⟨h8_, ⟨h9_, ⟨h10_, ⟨h11_, h12_⟩⟩⟩⟩⟩⟩⟩⟩⟩, ?_⟩
  intro g2
  rintro ⟨h16_, ⟨h17_, ⟨h18_, ⟨h19_, ⟨h20_, ⟨h21_, ⟨h22_, ⟨h23_, ⟨h24_, ⟨h25_, ⟨h26_, ⟨h27_, ⟨h28_, ⟨h29_, ⟨h30_, ⟨h31_, h32_⟩⟩⟩⟩⟩⟩⟩⟩⟩⟩⟩⟩⟩⟩⟩⟩
  have e33_ : (if (1 : Int) = 1 then 1 else 0 : Int) = 1 := if_pos h13_
  refine ⟨h16_, ?_⟩
  refine ⟨h17_, ?_⟩
  refine ⟨h18_, ?_⟩
  refine ⟨h19_, ?_⟩
  refine ⟨h20_, ?_⟩
  refine ⟨h21_, ?_⟩
  refine ⟨h22_, ?_⟩
  refine ⟨h23_, ?_⟩
  refine ⟨h24_, ?_⟩
  refine ⟨h25_, ?_⟩
  refine ⟨h26_, ?_⟩
  refine ⟨h27_, ?_⟩
  refine ⟨h28_, ?_⟩
  refine ⟨h29_, ?_⟩
  refine ⟨h30_, ?_⟩
  refine ⟨h31_, ?_⟩
  intro h34_
  have h35_ : ¬ (S 1047 0 = 1) := fun q_ => (la_get_2 h34_) (h22_ q_)
  obtain ⟨h36_, ⟨h37_, ⟨h38_, ⟨h39_, ⟨h40_, ⟨h41_, ⟨h42_, ⟨h43_, ⟨h44_, ⟨h45_, ⟨h46_, h47_⟩⟩⟩⟩⟩⟩⟩⟩⟩⟩⟩ := (h32_ h34_)
  obtain ⟨h48_, ⟨h49_, ⟨h50_, ⟨h51_, h52_⟩⟩⟩⟩ := (h12_ h36_)
  obtain ⟨h53_, h54_⟩ := (h51_ h13_)
  refine ⟨h36_, ?_⟩
  refine ⟨h37_, ?_⟩
  refine ⟨h38_, ?_⟩
  refine ⟨h39_, ?_⟩
  refine ⟨h40_, ?_⟩
  refine ⟨h41_, ?_⟩
  refine ⟨h42_, ?_⟩
  refine ⟨h43_, ?_⟩
  refine ⟨h44_, ?_⟩
  refine ⟨h45_, ?_⟩
  refine ⟨h46_, ?_⟩
  exact h47_
set_option maxRecDepth 8000 in
set_option maxHeartbeats 2000000 in
theorem t_coderget : ∀ (p1 : Int) (S : sv_S), sm_ok S → sv_R p1 → (0 ≤ (S 1046 0) ∧ (S 1046 0) ≤ 600 ∧ 0 ≤ (S 1047 0) ∧ (S 1047 0) ≤ 1 ∧ 0 ≤ (S 1056 0) ∧ (S 1056 0) < (S 1032 0) ∧ (S 1032 0) ≤ 11 ∧ sm_VB (S 33) (S 21) (S 1032 0) ∧ (((1 : Int) = 1 ∧ ((3 : Int) = 3 ∨ (3 : Int) = 5)) ∨ ((1 : Int) = 2 ∧ (3 : Int) = 4)) ∧ ((S 1047 0) = 0 → sm_KC (S 26) (S 27) (S 28) (S 29) (S 1100007) (S 1100023) (S 1100024) (S 1100025) (S 31) (S 1100009) (S 1100027) (S 1100028) (S 1100026) (S 1100030) (S 21) (S 32) (S 33) (S 1046 0) (S 1053 0) (S 1056 0) (S 1032 0) (S 1007 0) (S 1100033 0) ∧ 0 ≤ p1 ∧ p1 < (S 1007 0) ∧ ((1 : Int) = 1 → (0 ≤ (S 1100023 (S 1046 0)) → (S 1100007 (S 1100023 (S 1046 0))) ≤ (S 1100007 (S 1046 0))) ∧ (0 ≤ (S 1100025 (S 1046 0)) → (S 1100007 (S 1100025 (S 1046 0))) ≤ (S 1100007 (S 1046 0)))) ∧ ((1 : Int) = 2 → 1 ≤ (S 1100007 (S 1046 0)) ∧ (0 ≤ (S 1100023 (S 1046 0)) → (S 1100007 (S 1100023 (S 1046 0))) ≤ (S 1100007 (S 1046 0)) - 1) ∧ (0 ≤ (S 1100025 (S 1046 0)) → (S 1100007 (S 1100025 (S 1046 0))) ≤ (S 1100007 (S 1046 0)) - 1)))) → sv_T sm_XS sm_cs sm_L sm_sh 2 (q_get p1 S) 88 0 (lv_args 0 [.ref 0, sv_I p1]) [] S := by
  intro p1 S hok hp1 hpre
  have h := f_get p1 S hok hp1 hpre
  have hM := sm_h88
  show sv_T sm_XS sm_cs sm_L sm_sh 2 (q_get p1 S) 88 0 [(0, .ref 0), (1, sv_I p1)] [] S
  refine sv_aload_n hM dX12_get_0 rfl rfl ?_
  refine sv_iload_n hM dX12_get_1 rfl rfl ?_
  refine sv_iconst (d := (1 : Int)) hM dX12_get_2 rfl rfl ?_
  refine sv_iconst (d := (3 : Int)) hM dX12_get_3 rfl rfl ?_
  obtain ⟨o1, h⟩ := h
  refine sv_callV hM dX12_get_4 sm_iv_625 (by decide) (sm_a0 _) rfl rfl (Nat.le_of_ble_eq_true rfl) sm_h87 (Nat.le_of_ble_eq_true rfl) (Nat.le_of_ble_eq_true rfl) (F' := 1) (Nat.le_of_ble_eq_true rfl) rfl (t_named p1 (1 : Int) (3 : Int) S hok hp1 (⟨by decide, by decide⟩ : sv_R (1 : Int)) (⟨by decide, by decide⟩ : sv_R (3 : Int)) o1) (fun v S1 hq => ?_)
  obtain ⟨rfl, ok3, md4, hpo5⟩ := hq
  obtain ⟨g2, rfl⟩ : ∃ g, S1 = sv_sts S [26, 27, 28, 29, 1046, 1047, 1100007, 1100023, 1100024, 1100025] g := ⟨_, md4.eq⟩
  show sv_T sm_XS sm_cs sm_L sm_sh 2 (q_get p1 S) 88 7 [(0, .ref 0), (1, sv_I p1)] [] (sv_sts S [26, 27, 28, 29, 1046, 1047, 1100007, 1100023, 1100024, 1100025] g2)
  have md6 : sv_mod [26, 27, 28, 29, 1046, 1047, 1100007, 1100023, 1100024, 1100025] S (sv_sts S [26, 27, 28, 29, 1046, 1047, 1100007, 1100023, 1100024, 1100025] g2) := sv_mod.sts sv_mod.rf (by decide)
  have h := h g2 hpo5
  exact sv_vret hM dX12_get_7 rfl ⟨rfl, ok3, md6, h⟩
def q_set (p1 : Int) (S : sv_S) : Option Value → sv_S → Prop := fun v S' => v = none ∧ sm_ok S' ∧ sv_mod [26, 27, 28, 29, 1046, 1047, 1100007, 1100023, 1100024, 1100025] S S' ∧ (0 ≤ (S' 1047 0) ∧ (S' 1047 0) ≤ 1 ∧ 1 ≤ (S' 1046 0) ∧ (S 1046 0) ≤ (S' 1046 0) ∧ (S' 1046 0) ≤ (S 1046 0) + 1 ∧ (S' 1046 0) ≤ 600 ∧ ((S 1047 0) = 1 → (S' 1047 0) = 1) ∧ ((S' 1047 0) = 1 → (S 1047 0) = 1 ∨ (S 1046 0) = 600) ∧ sm_F1 (S 26) (S' 26) (S 1046 0) ∧ sm_F1 (S 27) (S' 27) (S 1046 0) ∧ sm_F1 (S 28) (S' 28) (S 1046 0) ∧ sm_F1 (S 29) (S' 29) (S 1046 0) ∧ sm_F1 (S 1100007) (S' 1100007) ((S 1046 0) + 1) ∧ sm_F1 (S 1100023) (S' 1100023) ((S 1046 0) + 1) ∧ sm_F1 (S 1100024) (S' 1100024) ((S 1046 0) + 1) ∧ sm_F1 (S 1100025) (S' 1100025) ((S 1046 0) + 1) ∧ ((S' 1047 0) = 0 → (S 1047 0) = 0 ∧ (S' 1046 0) = (S 1046 0) + 1 ∧ sm_KC (S' 26) (S' 27) (S' 28) (S' 29) (S' 1100007) (S' 1100023) (S' 1100024) (S' 1100025) (S' 31) (S' 1100009) (S' 1100027) (S' 1100028) (S' 1100026) (S' 1100030) (S' 21) (S' 32) (S' 33) (S' 1046 0) (S' 1053 0) (S' 1056 0) (S' 1032 0) (S' 1007 0) (S' 1100033 0) ∧ sm_MB (S' 31) (S' 1100030) (S' 1053 0) (S' 1046 0) ∧ ((S' 26 (S 1046 0)) = (2 : Int) ∨ (S' 26 (S 1046 0)) = (4 : Int)) ∧ (S' 29 (S 1046 0)) = (S' 1056 0) ∧ (S' 1100007 (S' 1046 0)) = (S 1100007 (S 1046 0)) + (if (2 : Int) = 1 then 1 else 0) ∧ (S' 1100023 (S' 1046 0)) = (S 1100023 (S 1046 0)) ∧ (S' 1100024 (S' 1046 0)) = (S 1100024 (S 1046 0)) ∧ (S' 1100025 (S' 1046 0)) = (S 1100025 (S 1046 0)) ∧ (S' 1100007 (S' 1100023 (S' 1046 0))) = (S 1100007 (S 1100023 (S 1046 0))) ∧ (S' 1100007 (S' 1100025 (S' 1046 0))) = (S 1100007 (S 1100025 (S 1046 0)))))
theorem la_set_0 : ¬ ((2 : Int) = 1 ∧ ((4 : Int) = 3 ∨ (4 : Int) = 5)) := by omega
theorem la_set_1 : ¬ (2 : Int) = 1 := by omega
theorem la_set_2 {x0 : Int} (h0 : x0 = 0) : ¬ x0 = 1 := by omega
theorem la_set_3 {x0 : Int} (h0 : x0 ≤ 1) (h1 : ¬ x0 = 1) : x0 < 1 := by omega
set_option maxHeartbeats 2000000 in
theorem f_set : ∀ (p1 : Int) (S : sv_S), sm_ok S → sv_R p1 → (0 ≤ (S 1046 0) ∧ (S 1046 0) ≤ 600 ∧ 0 ≤ (S 1047 0) ∧ (S 1047 0) ≤ 1 ∧ 0 ≤ (S 1056 0) ∧ (S 1056 0) < (S 1032 0) ∧ (S 1032 0) ≤ 11 ∧ sm_VB (S 33) (S 21) (S 1032 0) ∧ (((2 : Int) = 1 ∧ ((4 : Int) = 3 ∨ (4 : Int) = 5)) ∨ ((2 : Int) = 2 ∧ (4 : Int) = 4)) ∧ ((S 1047 0) = 0 → sm_KC (S 26) (S 27) (S 28) (S 29) (S 1100007) (S 1100023) (S 1100024) (S 1100025) (S 31) (S 1100009) (S 1100027) (S 1100028) (S 1100026) (S 1100030) (S 21) (S 32) (S 33) (S 1046 0) (S 1053 0) (S 1056 0) (S 1032 0) (S 1007 0) (S 1100033 0) ∧ 0 ≤ p1 ∧ p1 < (S 1007 0) ∧ ((2 : Int) = 1 → (0 ≤ (S 1100023 (S 1046 0)) → (S 1100007 (S 1100023 (S 1046 0))) ≤ (S 1100007 (S 1046 0))) ∧ (0 ≤ (S 1100025 (S 1046 0)) → (S 1100007 (S 1100025 (S 1046 0))) ≤ (S 1100007 (S 1046 0)))) ∧ ((2 : Int) = 2 → 1 ≤ (S 1100007 (S 1046 0)) ∧ (0 ≤ (S 1100023 (S 1046 0)) → (S 1100007 (S 1100023 (S 1046 0))) ≤ (S 1100007 (S 1046 0)) - 1) ∧ (0 ≤ (S 1100025 (S 1046 0)) → (S 1100007 (S 1100025 (S 1046 0))) ≤ (S 1100007 (S 1046 0)) - 1)))) → (0 ≤ (S 1046 0) ∧ (S 1046 0) ≤ 600 ∧ 0 ≤ (S 1047 0) ∧ (S 1047 0) ≤ 1 ∧ 0 ≤ (S 1056 0) ∧ (S 1056 0) < (S 1032 0) ∧ (S 1032 0) ≤ 11 ∧ sm_VB (S 33) (S 21) (S 1032 0) ∧ (((2 : Int) = 1 ∧ ((4 : Int) = 3 ∨ (4 : Int) = 5)) ∨ ((2 : Int) = 2 ∧ (4 : Int) = 4)) ∧ ((S 1047 0) = 0 → sm_KC (S 26) (S 27) (S 28) (S 29) (S 1100007) (S 1100023) (S 1100024) (S 1100025) (S 31) (S 1100009) (S 1100027) (S 1100028) (S 1100026) (S 1100030) (S 21) (S 32) (S 33) (S 1046 0) (S 1053 0) (S 1056 0) (S 1032 0) (S 1007 0) (S 1100033 0) ∧ 0 ≤ p1 ∧ p1 < (S 1007 0) ∧ ((2 : Int) = 1 → (0 ≤ (S 1100023 (S 1046 0)) → (S 1100007 (S 1100023 (S 1046 0))) ≤ (S 1100007 (S 1046 0))) ∧ (0 ≤ (S 1100025 (S 1046 0)) → (S 1100007 (S 1100025 (S 1046 0))) ≤ (S 1100007 (S 1046 0)))) ∧ ((2 : Int) = 2 → 1 ≤ (S 1100007 (S 1046 0)) ∧ (0 ≤ (S 1100023 (S 1046 0)) → (S 1100007 (S 1100023 (S 1046 0))) ≤ (S 1100007 (S 1046 0)) - 1) ∧ (0 ≤ (S 1100025 (S 1046 0)) → (S 1100007 (S 1100025 (S 1046 0))) ≤ (S 1100007 (S 1046 0)) - 1)))) ∧ (∀ g2 : sv_S, (0 ≤ (g2 1047 0) ∧ (g2 1047 0) ≤ 1 ∧ 1 ≤ (g2 1046 0) ∧ (S 1046 0) ≤ (g2 1046 0) ∧ (g2 1046 0) ≤ (S 1046 0) + 1 ∧ (g2 1046 0) ≤ 600 ∧ ((S 1047 0) = 1 → (g2 1047 0) = 1) ∧ ((g2 1047 0) = 1 → (S 1047 0) = 1 ∨ (S 1046 0) = 600) ∧ sm_F1 (S 26) (g2 26) (S 1046 0) ∧ sm_F1 (S 27) (g2 27) (S 1046 0) ∧ sm_F1 (S 28) (g2 28) (S 1046 0) ∧ sm_F1 (S 29) (g2 29) (S 1046 0) ∧ sm_F1 (S 1100007) (g2 1100007) ((S 1046 0) + 1) ∧ sm_F1 (S 1100023) (g2 1100023) ((S 1046 0) + 1) ∧ sm_F1 (S 1100024) (g2 1100024) ((S 1046 0) + 1) ∧ sm_F1 (S 1100025) (g2 1100025) ((S 1046 0) + 1) ∧ ((g2 1047 0) = 0 → (S 1047 0) = 0 ∧ (g2 1046 0) = (S 1046 0) + 1 ∧ sm_KC (g2 26) (g2 27) (g2 28) (g2 29) (g2 1100007) (g2 1100023) (g2 1100024) (g2 1100025) (S 31) (S 1100009) (S 1100027) (S 1100028) (S 1100026) (S 1100030) (S 21) (S 32) (S 33) (g2 1046 0) (S 1053 0) (S 1056 0) (S 1032 0) (S 1007 0) (S 1100033 0) ∧ sm_MB (S 31) (S 1100030) (S 1053 0) (g2 1046 0) ∧ ((g2 26 (S 1046 0)) = (2 : Int) ∨ (g2 26 (S 1046 0)) = (4 : Int)) ∧ (g2 29 (S 1046 0)) = (S 1056 0) ∧ (g2 1100007 (g2 1046 0)) = (S 1100007 (S 1046 0)) + (if (2 : Int) = 1 then 1 else 0) ∧ (g2 1100023 (g2 1046 0)) = (S 1100023 (S 1046 0)) ∧ (g2 1100024 (g2 1046 0)) = (S 1100024 (S 1046 0)) ∧ (g2 1100025 (g2 1046 0)) = (S 1100025 (S 1046 0)) ∧ (g2 1100007 (g2 1100023 (g2 1046 0))) = (S 1100007 (S 1100023 (S 1046 0))) ∧ (g2 1100007 (g2 1100025 (g2 1046 0))) = (S 1100007 (S 1100025 (S 1046 0))))) → (0 ≤ (g2 1047 0) ∧ (g2 1047 0) ≤ 1 ∧ 1 ≤ (g2 1046 0) ∧ (S 1046 0) ≤ (g2 1046 0) ∧ (g2 1046 0) ≤ (S 1046 0) + 1 ∧ (g2 1046 0) ≤ 600 ∧ ((S 1047 0) = 1 → (g2 1047 0) = 1) ∧ ((g2 1047 0) = 1 → (S 1047 0) = 1 ∨ (S 1046 0) = 600) ∧ sm_F1 (S 26) (g2 26) (S 1046 0) ∧ sm_F1 (S 27) (g2 27) (S 1046 0) ∧ sm_F1 (S 28) (g2 28) (S 1046 0) ∧ sm_F1 (S 29) (g2 29) (S 1046 0) ∧ sm_F1 (S 1100007) (g2 1100007) ((S 1046 0) + 1) ∧ sm_F1 (S 1100023) (g2 1100023) ((S 1046 0) + 1) ∧ sm_F1 (S 1100024) (g2 1100024) ((S 1046 0) + 1) ∧ sm_F1 (S 1100025) (g2 1100025) ((S 1046 0) + 1) ∧ ((g2 1047 0) = 0 → (S 1047 0) = 0 ∧ (g2 1046 0) = (S 1046 0) + 1 ∧ sm_KC (g2 26) (g2 27) (g2 28) (g2 29) (g2 1100007) (g2 1100023) (g2 1100024) (g2 1100025) (S 31) (S 1100009) (S 1100027) (S 1100028) (S 1100026) (S 1100030) (S 21) (S 32) (S 33) (g2 1046 0) (S 1053 0) (S 1056 0) (S 1032 0) (S 1007 0) (S 1100033 0) ∧ sm_MB (S 31) (S 1100030) (S 1053 0) (g2 1046 0) ∧ ((g2 26 (S 1046 0)) = (2 : Int) ∨ (g2 26 (S 1046 0)) = (4 : Int)) ∧ (g2 29 (S 1046 0)) = (S 1056 0) ∧ (g2 1100007 (g2 1046 0)) = (S 1100007 (S 1046 0)) + (if (2 : Int) = 1 then 1 else 0) ∧ (g2 1100023 (g2 1046 0)) = (S 1100023 (S 1046 0)) ∧ (g2 1100024 (g2 1046 0)) = (S 1100024 (S 1046 0)) ∧ (g2 1100025 (g2 1046 0)) = (S 1100025 (S 1046 0)) ∧ (g2 1100007 (g2 1100023 (g2 1046 0))) = (S 1100007 (S 1100023 (S 1046 0))) ∧ (g2 1100007 (g2 1100025 (g2 1046 0))) = (S 1100007 (S 1100025 (S 1046 0)))))) := by
  intro p1
  intro S
  intro h1_
  intro h2_
  rintro ⟨h3_, ⟨h4_, ⟨h5_, ⟨h6_, ⟨h7_, ⟨h8_, ⟨h9_, ⟨h10_, ⟨h11_, h12_⟩⟩⟩⟩⟩⟩⟩⟩⟩
  obtain ⟨h13_, h14_⟩ := (h11_.resolve_left la_set_0)
  refine ⟨⟨h3_, ⟨h4_, ⟨h5_, ⟨h6_, ⟨h7_, ⟨h8_, ⟨h9_, ⟨h10_, ⟨h11_, h12_⟩⟩⟩⟩⟩⟩⟩⟩⟩, ?_⟩
  intro g2
  rintro ⟨h15_, ⟨h16_, ⟨h17_, ⟨h18_, ⟨h19_, ⟨h20_, ⟨h21_, ⟨h22_, ⟨h23_, ⟨h24_, ⟨h25_, ⟨h26_, ⟨h27_, ⟨h28_, ⟨h29_, ⟨h30_, h31_⟩⟩⟩⟩⟩⟩⟩⟩⟩⟩⟩⟩⟩⟩⟩⟩
  have e32_ : (if (2 : Int) = 1 then 1 else 0 : Int) = 0 := if_neg la_set_1
  refine ⟨h15_, ?_⟩
  refine ⟨h16_, ?_⟩
  refine ⟨h17_, ?_⟩
  refine ⟨h18_, ?_⟩
  refine ⟨h19_, ?_⟩
  refine ⟨h20_, ?_⟩
  refine ⟨h21_, ?_⟩
  refine ⟨h22_, ?_⟩
  refine ⟨h23_, ?_⟩
  refine ⟨h24_, ?_⟩
  refine ⟨h25_, ?_⟩
  refine ⟨h26_, ?_⟩
  refine ⟨h27_, ?_⟩
  refine ⟨h28_, ?_⟩
  refine ⟨h29_, ?_⟩
  refine ⟨h30_, ?_⟩
  intro h33_
  have h34_ : ¬ (S 1047 0 = 1) := fun q_ => (la_set_2 h33_) (h21_ q_)
  obtain ⟨h35_, ⟨h36_, ⟨h37_, ⟨h38_, ⟨h39_, ⟨h40_, ⟨h41_, ⟨h42_, ⟨h43_, ⟨h44_, ⟨h45_, h46_⟩⟩⟩⟩⟩⟩⟩⟩⟩⟩⟩ := (h31_ h33_)
  obtain ⟨h47_, ⟨h48_, ⟨h49_, ⟨h50_, h51_⟩⟩⟩⟩ := (h12_ h35_)
  obtain ⟨h52_, ⟨h53_, h54_⟩⟩ := (h51_ h13_)
  refine ⟨h35_, ?_⟩
  refine ⟨h36_, ?_⟩
  refine ⟨h37_, ?_⟩
  refine ⟨h38_, ?_⟩
  refine ⟨h39_, ?_⟩
  refine ⟨h40_, ?_⟩
  refine ⟨h41_, ?_⟩
  refine ⟨h42_, ?_⟩
  refine ⟨h43_, ?_⟩
  refine ⟨h44_, ?_⟩
  refine ⟨h45_, ?_⟩
  exact h46_
set_option maxRecDepth 8000 in
set_option maxHeartbeats 2000000 in
theorem t_coderset : ∀ (p1 : Int) (S : sv_S), sm_ok S → sv_R p1 → (0 ≤ (S 1046 0) ∧ (S 1046 0) ≤ 600 ∧ 0 ≤ (S 1047 0) ∧ (S 1047 0) ≤ 1 ∧ 0 ≤ (S 1056 0) ∧ (S 1056 0) < (S 1032 0) ∧ (S 1032 0) ≤ 11 ∧ sm_VB (S 33) (S 21) (S 1032 0) ∧ (((2 : Int) = 1 ∧ ((4 : Int) = 3 ∨ (4 : Int) = 5)) ∨ ((2 : Int) = 2 ∧ (4 : Int) = 4)) ∧ ((S 1047 0) = 0 → sm_KC (S 26) (S 27) (S 28) (S 29) (S 1100007) (S 1100023) (S 1100024) (S 1100025) (S 31) (S 1100009) (S 1100027) (S 1100028) (S 1100026) (S 1100030) (S 21) (S 32) (S 33) (S 1046 0) (S 1053 0) (S 1056 0) (S 1032 0) (S 1007 0) (S 1100033 0) ∧ 0 ≤ p1 ∧ p1 < (S 1007 0) ∧ ((2 : Int) = 1 → (0 ≤ (S 1100023 (S 1046 0)) → (S 1100007 (S 1100023 (S 1046 0))) ≤ (S 1100007 (S 1046 0))) ∧ (0 ≤ (S 1100025 (S 1046 0)) → (S 1100007 (S 1100025 (S 1046 0))) ≤ (S 1100007 (S 1046 0)))) ∧ ((2 : Int) = 2 → 1 ≤ (S 1100007 (S 1046 0)) ∧ (0 ≤ (S 1100023 (S 1046 0)) → (S 1100007 (S 1100023 (S 1046 0))) ≤ (S 1100007 (S 1046 0)) - 1) ∧ (0 ≤ (S 1100025 (S 1046 0)) → (S 1100007 (S 1100025 (S 1046 0))) ≤ (S 1100007 (S 1046 0)) - 1)))) → sv_T sm_XS sm_cs sm_L sm_sh 2 (q_set p1 S) 89 0 (lv_args 0 [.ref 0, sv_I p1]) [] S := by
  intro p1 S hok hp1 hpre
  have h := f_set p1 S hok hp1 hpre
  have hM := sm_h89
  show sv_T sm_XS sm_cs sm_L sm_sh 2 (q_set p1 S) 89 0 [(0, .ref 0), (1, sv_I p1)] [] S
  refine sv_aload_n hM dX12_set_0 rfl rfl ?_
  refine sv_iload_n hM dX12_set_1 rfl rfl ?_
  refine sv_iconst (d := (2 : Int)) hM dX12_set_2 rfl rfl ?_
  refine sv_iconst (d := (4 : Int)) hM dX12_set_3 rfl rfl ?_
  obtain ⟨o1, h⟩ := h
  refine sv_callV hM dX12_set_4 sm_iv_625 (by decide) (sm_a0 _) rfl rfl (Nat.le_of_ble_eq_true rfl) sm_h87 (Nat.le_of_ble_eq_true rfl) (Nat.le_of_ble_eq_true rfl) (F' := 1) (Nat.le_of_ble_eq_true rfl) rfl (t_named p1 (2 : Int) (4 : Int) S hok hp1 (⟨by decide, by decide⟩ : sv_R (2 : Int)) (⟨by decide, by decide⟩ : sv_R (4 : Int)) o1) (fun v S1 hq => ?_)
  obtain ⟨rfl, ok3, md4, hpo5⟩ := hq
  obtain ⟨g2, rfl⟩ : ∃ g, S1 = sv_sts S [26, 27, 28, 29, 1046, 1047, 1100007, 1100023, 1100024, 1100025] g := ⟨_, md4.eq⟩
  show sv_T sm_XS sm_cs sm_L sm_sh 2 (q_set p1 S) 89 7 [(0, .ref 0), (1, sv_I p1)] [] (sv_sts S [26, 27, 28, 29, 1046, 1047, 1100007, 1100023, 1100024, 1100025] g2)
  have md6 : sv_mod [26, 27, 28, 29, 1046, 1047, 1100007, 1100023, 1100024, 1100025] S (sv_sts S [26, 27, 28, 29, 1046, 1047, 1100007, 1100023, 1100024, 1100025] g2) := sv_mod.sts sv_mod.rf (by decide)
  have h := h g2 hpo5
  exact sv_vret hM dX12_set_7 rfl ⟨rfl, ok3, md6, h⟩
