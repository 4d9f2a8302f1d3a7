/-! THE INTERPRETER: bytecode over worlds whose addresses are places. What it answers is a contract (part 08 on). -/
/-- a value at its address: a reference is a place here -/
def ev_v (ad : Nat → Nat) : Value → Value
  | .ref k => .ref (ad k)
  | v => v
theorem ev_v_cat (ad : Nat → Nat) (v : Value) : (ev_v ad v).category = v.category := by cases v <;> rfl
def ev_l (ad : Nat → Nat) (lv : List (Nat × Value)) : List (Nat × Value) := lv.map (fun q => (q.1, ev_v ad q.2))
def ev_s (ad : Nat → Nat) (st : List Value) : List Value := st.map (ev_v ad)
/-- local i -/
def ev_ld (lv : List (Nat × Value)) (i : Nat) : Option Value := (lv.find? (fun q => q.1 == i)).map (·.2)
theorem ev_ld_at {ad : Nat → Nat} {lv : List (Nat × Value)} {ls : Array Slot} {nL i : Nat} {v : Value} (h : lv_has ls nL (ev_l ad lv)) (hv : ev_ld lv i = some v) : ls[i]? = some (.val (ev_v ad v)) := by
  unfold ev_ld at hv
  rw [Option.map_eq_some_iff] at hv
  obtain ⟨q, hq, rfl⟩ := hv
  have h1 := List.find?_some hq
  have h2 := List.mem_of_find?_eq_some hq
  have h3 := h.2.2 (q.1, ev_v ad q.2) (List.mem_map.mpr ⟨q, h2, rfl⟩)
  rw [eq_of_beq h1] at h3
  exact h3
theorem ev_ld_place {ad : Nat → Nat} {lv : List (Nat × Value)} {i : Nat} {v : Value} (hv : ev_ld lv i = some v) : ∃ j : Nat, (ev_l ad lv)[j]? = some (i, ev_v ad v) := by
  unfold ev_ld at hv
  rw [Option.map_eq_some_iff] at hv
  obtain ⟨q, hq, rfl⟩ := hv
  have h1 := List.find?_some hq
  have h2 := List.mem_of_find?_eq_some hq
  obtain ⟨j, hj⟩ := List.mem_iff_getElem?.mp h2
  exact ⟨j, by rw [ev_l, List.getElem?_map, hj]; show some (q.1, _) = _; rw [eq_of_beq h1]⟩
/-- the locals stay in order -/
def ev_ins (i : Nat) (v : Value) : List (Nat × Value) → List (Nat × Value)
  | [] => [(i, v)]
  | q :: l => if i < q.1 then (i, v) :: q :: l else q :: ev_ins i v l
theorem ev_ins_mem {i : Nat} {v : Value} {x : Nat × Value} : ∀ {l : List (Nat × Value)}, x ∈ ev_ins i v l → x ∈ (i, v) :: l
  | [], h => h
  | q :: l, h => by
    unfold ev_ins at h
    split at h
    · exact h
    · rcases List.mem_cons.mp h with rfl | h
      · exact List.mem_cons_of_mem _ List.mem_cons_self
      · rcases List.mem_cons.mp (ev_ins_mem h) with rfl | h
        · exact List.mem_cons_self
        · exact List.mem_cons_of_mem _ (List.mem_cons_of_mem _ h)
def ev_st1 (lv : List (Nat × Value)) (i : Nat) (v : Value) : List (Nat × Value) := ev_ins i v (lv.filter (fun q => !(q.1 == i) && !(q.1 + 1 == i && q.2.category == 2)))
def ev_st2 (lv : List (Nat × Value)) (i : Nat) (v : Value) : List (Nat × Value) := ev_ins i v (lv.filter (fun q => !(q.1 == i) && (!(q.1 == i + 1) && !(q.1 + 1 == i && q.2.category == 2))))
theorem ev_ins_has {ad : Nat → Nat} {ls : Array Slot} {nL i : Nat} {v : Value} {lv : List (Nat × Value)} {f : Nat × Value → Bool} (hf : ∀ q : Nat × Value, f (q.1, ev_v ad q.2) = f q) (h : lv_has ls nL ((i, ev_v ad v) :: (ev_l ad lv).filter f)) : lv_has ls nL (ev_l ad (ev_ins i v (lv.filter f))) := by
  refine ⟨h.1, h.2.1, fun q hq => h.2.2 q ?_⟩
  obtain ⟨x, hx, rfl⟩ := List.mem_map.mp hq
  rcases List.mem_cons.mp (ev_ins_mem hx) with rfl | hx
  · exact List.mem_cons_self
  · obtain ⟨h1, h2⟩ := List.mem_filter.mp hx
    exact List.mem_cons_of_mem _ (List.mem_filter.mpr ⟨List.mem_map.mpr ⟨x, h1, rfl⟩, by rw [hf]; exact h2⟩)
theorem ev_st1_l {ad : Nat → Nat} {lv : List (Nat × Value)} {i nL : Nat} {v : Value} {ls : Array Slot} (h : lv_has ls nL ((i, ev_v ad v) :: (ev_l ad lv).filter (fun q => !(q.1 == i) && !(q.1 + 1 == i && q.2.category == 2)))) : lv_has ls nL (ev_l ad (ev_st1 lv i v)) := ev_ins_has (fun q => by simp only [ev_v_cat]) h
theorem ev_st2_l {ad : Nat → Nat} {lv : List (Nat × Value)} {i nL : Nat} {v : Value} {ls : Array Slot} (h : lv_has ls nL ((i, ev_v ad v) :: (ev_l ad lv).filter (fun q => !(q.1 == i) && (!(q.1 == i + 1) && !(q.1 + 1 == i && q.2.category == 2))))) : lv_has ls nL (ev_l ad (ev_st2 lv i v)) := ev_ins_has (fun q => by simp only [ev_v_cat]) h
/-- instructions that touch locals and stack alone: what they leave -/
def ev_pure (nL : Nat) (lv : List (Nat × Value)) : Instr → Nat → List Value → Option (List (Nat × Value) × List Value)
  | .iconst n, 1, st => some (lv, .int (Int32.ofInt n) :: st)
  | .bipush n, 2, st => some (lv, .int (Int8.ofInt n).toInt32 :: st)
  | .sipush n, 3, st => some (lv, .int (Int16.ofInt n).toInt32 :: st)
  | .lconst n, 1, st => some (lv, .long (Int64.ofNat (n : Nat)) :: st)
  | .iload_n k, 1, st => match ev_ld lv k with | some (.int x) => some (lv, .int x :: st) | _ => none
  | .iload k, 2, st => match ev_ld lv k with | some (.int x) => some (lv, .int x :: st) | _ => none
  | .lload_n k, 1, st => match ev_ld lv k with | some (.long x) => some (lv, .long x :: st) | _ => none
  | .lload k, 2, st => match ev_ld lv k with | some (.long x) => some (lv, .long x :: st) | _ => none
  | .aload_n k, 1, st => match ev_ld lv k with | some (.ref x) => some (lv, .ref x :: st) | _ => none
  | .aload k, 2, st => match ev_ld lv k with | some (.ref x) => some (lv, .ref x :: st) | _ => none
  | .istore_n k, 1, .int x :: st => if (k : Nat) < nL then some (ev_st1 lv k (.int x), st) else none
  | .istore k, 2, .int x :: st => if k < nL then some (ev_st1 lv k (.int x), st) else none
  | .astore_n k, 1, .ref x :: st => if (k : Nat) < nL then some (ev_st1 lv k (.ref x), st) else none
  | .astore k, 2, .ref x :: st => if k < nL then some (ev_st1 lv k (.ref x), st) else none
  | .lstore_n k, 1, .long x :: st => if (k : Nat) + 1 < nL then some (ev_st2 lv k (.long x), st) else none
  | .lstore k, 2, .long x :: st => if k + 1 < nL then some (ev_st2 lv k (.long x), st) else none
  | .iinc i n, 3, st => match ev_ld lv i with | some (.int x) => if i < nL then some (ev_st1 lv i (.int (x + Int32.ofInt n)), st) else none | _ => none
  | .iadd, 1, .int y :: .int x :: st => some (lv, .int (x + y) :: st)
  | .isub, 1, .int y :: .int x :: st => some (lv, .int (x - y) :: st)
  | .imul, 1, .int y :: .int x :: st => some (lv, .int (x * y) :: st)
  | .iand, 1, .int y :: .int x :: st => some (lv, .int (x &&& y) :: st)
  | .ior, 1, .int y :: .int x :: st => some (lv, .int (x ||| y) :: st)
  | .ixor, 1, .int y :: .int x :: st => some (lv, .int (x ^^^ y) :: st)
  | .idiv, 1, .int y :: .int x :: st => if y = 0 then none else some (lv, .int (x / y) :: st)
  | .irem, 1, .int y :: .int x :: st => if y = 0 then none else some (lv, .int (x - x / y * y) :: st)
  | .ineg, 1, .int x :: st => some (lv, .int (-x) :: st)
  | .ladd, 1, .long y :: .long x :: st => some (lv, .long (x + y) :: st)
  | .lsub, 1, .long y :: .long x :: st => some (lv, .long (x - y) :: st)
  | .lmul, 1, .long y :: .long x :: st => some (lv, .long (x * y) :: st)
  | .land, 1, .long y :: .long x :: st => some (lv, .long (x &&& y) :: st)
  | .lor, 1, .long y :: .long x :: st => some (lv, .long (x ||| y) :: st)
  | .lxor, 1, .long y :: .long x :: st => some (lv, .long (x ^^^ y) :: st)
  | .ldiv, 1, .long y :: .long x :: st => if y = 0 then none else some (lv, .long (x / y) :: st)
  | .lrem, 1, .long y :: .long x :: st => if y = 0 then none else some (lv, .long (x - x / y * y) :: st)
  | .lneg, 1, .long x :: st => some (lv, .long (-x) :: st)
  | .i2l, 1, .int x :: st => some (lv, .long x.toInt64 :: st)
  | .l2i, 1, .long x :: st => some (lv, .int x.toInt32 :: st)
  | .i2b, 1, .int x :: st => some (lv, .int x.toInt8.toInt32 :: st)
  | .i2c, 1, .int x :: st => some (lv, .int (x.toUInt32 % 65536).toInt32 :: st)
  | .iushr, 1, .int y :: .int x :: st => some (lv, .int (x.toUInt32 >>> (y.toUInt32 &&& Int32.toUInt32 31)).toInt32 :: st)
  | .lushr, 1, .int y :: .long x :: st => some (lv, .long (x.toUInt64 >>> (y.toInt64.toUInt64 &&& Int64.toUInt64 63)).toInt64 :: st)
  | .lshl, 1, .int y :: .long x :: st => some (lv, .long (x <<< (y.toInt64 &&& 63)) :: st)
  | .lshr, 1, .int y :: .long x :: st => some (lv, .long (x >>> (y.toInt64 &&& 63)) :: st)
  | .ishl, 1, .int y :: .int x :: st => some (lv, .int (x <<< (y &&& 31)) :: st)
  | .ishr, 1, .int y :: .int x :: st => some (lv, .int (x >>> (y &&& 31)) :: st)
  | .lcmp, 1, .long y :: .long x :: st => some (lv, .int (if y < x then 1 else if x = y then 0 else -1) :: st)
  | .dup, 1, v :: st => if v.category = 1 then some (lv, v :: v :: st) else none
  | .pop, 1, v :: st => if v.category = 1 then some (lv, st) else none
  | .dup2, 1, v :: st => if v.category = 2 then some (lv, v :: v :: st) else match st with
    | w :: st2 => if v.category = 1 then if w.category = 1 then some (lv, v :: w :: v :: w :: st2) else none else none
    | [] => none
  | _, _, _ => none
section EVP
variable {p : Program} {l : Launch} {e : Env} {R : Room} {s : State} {m : MethodId} {args : Array Value} {below : List Frame} {meth : Method} {c : Code} {H : Heap} {locs : List Loc} {cells slots : Nat} {Q : State → Prop}
set_option maxHeartbeats 4000000 in
theorem ev_pure_W {cc : ByteArray} (hx : p.tables.exec = Jvm.exec) (hb : c.code = cc) {ad : Nat → Nat} {nL pc len : Nat} {ins : Instr} {lv lv' : List (Nat × Value)} {st st' : List Value} {ls : Array Slot} (hl : lv_has ls nL (ev_l ad lv)) (hd : decode cc pc = .ok (ins, len)) (h : ev_pure nL lv ins len st = some (lv', st'))
    (k : ∀ ls' : Array Slot, lv_has ls' nL (ev_l ad lv') → W p l e R s m args below meth c H locs cells slots Q (F0 m (pc + len) ls' (ev_s ad st'))) : W p l e R s m args below meth c H locs cells slots Q (F0 m pc ls (ev_s ad st)) := by
  unfold ev_pure at h
  split at h
  · cases h; exact lv_iconst hx hb hd rfl (k ls hl)
  · cases h; exact lv_bipush hx hb hd rfl (k ls hl)
  · cases h; exact lv_sipush hx hb hd rfl (k ls hl)
  · cases h; exact lv_lconst hx hb hd rfl (k ls hl)
  · split at h
    · rename_i h1; cases h; exact lv_iload_n hx hb hd rfl (ev_ld_at hl h1) (k ls hl)
    · cases h
  · split at h
    · rename_i h1; cases h; exact lv_iload hx hb hd (ev_ld_at hl h1) (k ls hl)
    · cases h
  · split at h
    · rename_i h1; cases h; exact lv_lload_n hx hb hd rfl (ev_ld_at hl h1) (k ls hl)
    · cases h
  · split at h
    · rename_i h1; cases h; exact lv_lload hx hb hd (ev_ld_at hl h1) (k ls hl)
    · cases h
  · split at h
    · rename_i h1; cases h; exact lv_aload_n hx hb hd rfl (ev_ld_at hl h1) (k ls hl)
    · cases h
  · split at h
    · rename_i h1; cases h; exact lv_aload hx hb hd (ev_ld_at hl h1) (k ls hl)
    · cases h
  · split at h
    · rename_i h1; cases h; exact lv_istore_n hx hb hd rfl hl h1 rfl (fun ls' h => k ls' (ev_st1_l (v := .int _) h))
    · cases h
  · split at h
    · rename_i h1; cases h; exact lv_istore hx hb hd hl h1 rfl (fun ls' h => k ls' (ev_st1_l (v := .int _) h))
    · cases h
  · split at h
    · rename_i h1; cases h; exact lv_astore_n hx hb hd rfl hl h1 rfl (fun ls' h => k ls' (ev_st1_l (v := .ref _) h))
    · cases h
  · split at h
    · rename_i h1; cases h; exact lv_astore hx hb hd hl h1 rfl (fun ls' h => k ls' (ev_st1_l (v := .ref _) h))
    · cases h
  · split at h
    · rename_i h1; cases h; exact lv_lstore_n hx hb hd rfl hl h1 rfl (fun ls' h => k ls' (ev_st2_l (v := .long _) h))
    · cases h
  · split at h
    · rename_i h1; cases h; exact lv_lstore hx hb hd hl h1 rfl (fun ls' h => k ls' (ev_st2_l (v := .long _) h))
    · cases h
  · split at h
    · rename_i h0
      split at h
      · rename_i h1
        cases h
        obtain ⟨j, hj⟩ := ev_ld_place (ad := ad) h0
        exact lv_iinc hx hb hd hl hj rfl h1 rfl (fun ls' h => k ls' (ev_st1_l (v := .int _) h))
      · cases h
    · cases h
  · cases h; exact lv_iadd hx hb hd (k ls hl)
  · cases h; exact lv_isub hx hb hd (k ls hl)
  · cases h; exact lv_imul hx hb hd (k ls hl)
  · cases h; exact lv_iand hx hb hd (k ls hl)
  · cases h; exact lv_ior hx hb hd (k ls hl)
  · cases h; exact lv_ixor hx hb hd (k ls hl)
  · split at h
    · cases h
    · rename_i h1; cases h; exact lv_idiv hx hb hd h1 (k ls hl)
  · split at h
    · cases h
    · rename_i h1; cases h; exact lv_irem hx hb hd h1 (k ls hl)
  · cases h; exact lv_ineg hx hb hd (k ls hl)
  · cases h; exact lv_ladd hx hb hd (k ls hl)
  · cases h; exact lv_lsub hx hb hd (k ls hl)
  · cases h; exact lv_lmul hx hb hd (k ls hl)
  · cases h; exact lv_land hx hb hd (k ls hl)
  · cases h; exact lv_lor hx hb hd (k ls hl)
  · cases h; exact lv_lxor hx hb hd (k ls hl)
  · split at h
    · cases h
    · rename_i h1; cases h; exact lv_ldiv hx hb hd h1 (k ls hl)
  · split at h
    · cases h
    · rename_i h1; cases h; exact lv_lrem hx hb hd h1 (k ls hl)
  · cases h; exact lv_lneg hx hb hd (k ls hl)
  · cases h; exact lv_i2l hx hb hd rfl (k ls hl)
  · cases h; exact lv_l2i hx hb hd rfl (k ls hl)
  · cases h; exact lv_i2b hx hb hd rfl (k ls hl)
  · cases h; exact lv_i2c hx hb hd rfl (k ls hl)
  · cases h; exact lv_iushr hx hb hd rfl (k ls hl)
  · cases h; exact lv_lushr hx hb hd rfl (k ls hl)
  · cases h; exact lv_lshl hx hb hd rfl (k ls hl)
  · cases h; exact lv_lshr hx hb hd rfl (k ls hl)
  · cases h; exact lv_ishl hx hb hd (k ls hl)
  · cases h; exact lv_ishr hx hb hd (k ls hl)
  · cases h; sorry
  · split at h
    · rename_i h1; cases h; exact lv_dup hx hb hd ((ev_v_cat _ _).trans h1) (k ls hl)
    · cases h
  · split at h
    · rename_i h1; cases h; exact lv_pop hx hb hd ((ev_v_cat _ _).trans h1) (k ls hl)
    · cases h
  · split at h
    · rename_i h1; cases h; exact lv_dup2_2 hx hb hd ((ev_v_cat _ _).trans h1) (k ls hl)
    · split at h
      · split at h
        · rename_i h1
          split at h
          · rename_i h2; cases h; exact lv_dup2_11 hx hb hd ((ev_v_cat _ _).trans h1) ((ev_v_cat _ _).trans h2) (k ls hl)
          · cases h
        · cases h
      · cases h
  · cases h
end EVP
