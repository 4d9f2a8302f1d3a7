/-- a jump's goal -/
def ev_to (pc : Nat) (off : Int) : Nat := ((pc : Int) + off).toNat
def ev_ok (pc : Nat) (off : Int) : Bool := decide (0 ≤ (pc : Int) + off)
theorem ev_to_eq {pc : Nat} {off : Int} (h : ev_ok pc off = true) : (pc : Int) + off = (ev_to pc off : Int) := by
  unfold ev_ok at h; unfold ev_to
  have h := of_decide_eq_true h
  omega
/-- where a branch goes, and what it leaves on the stack -/
def ev_br (pc : Nat) (off : Int) (b : Bool) (st : List Value) : Option (Nat × List Value) := if ev_ok pc off = true then some (if b = true then ev_to pc off else pc + 3, st) else none
/-- branches and switches -/
def ev_jump (pc : Nat) : Instr → Nat → List Value → Option (Nat × List Value)
  | .goto off, 3, st => if ev_ok pc off = true then some (ev_to pc off, st) else none
  | .ifCond .eq off, 3, .int x :: st => ev_br pc off (decide (x = 0)) st
  | .ifCond .ne off, 3, .int x :: st => ev_br pc off (decide (¬ x = 0)) st
  | .ifCond .lt off, 3, .int x :: st => ev_br pc off (decide (x < 0)) st
  | .ifCond .ge off, 3, .int x :: st => ev_br pc off (decide (0 ≤ x)) st
  | .ifCond .gt off, 3, .int x :: st => ev_br pc off (decide (0 < x)) st
  | .ifCond .le off, 3, .int x :: st => ev_br pc off (decide (x ≤ 0)) st
  | .if_icmp .eq off, 3, .int y :: .int x :: st => ev_br pc off (decide (x = y)) st
  | .if_icmp .ne off, 3, .int y :: .int x :: st => ev_br pc off (decide (¬ x = y)) st
  | .if_icmp .lt off, 3, .int y :: .int x :: st => ev_br pc off (decide (x < y)) st
  | .if_icmp .ge off, 3, .int y :: .int x :: st => ev_br pc off (decide (y ≤ x)) st
  | .if_icmp .gt off, 3, .int y :: .int x :: st => ev_br pc off (decide (y < x)) st
  | .if_icmp .le off, 3, .int y :: .int x :: st => ev_br pc off (decide (x ≤ y)) st
  | .tableswitch dflt lo hi offs, _, .int x :: st =>
    if x.toInt < lo ∨ hi < x.toInt then (if ev_ok pc dflt = true then some (ev_to pc dflt, st) else none)
    else match offs[(x.toInt - lo).toNat]? with
      | some off => if ev_ok pc off = true then some (ev_to pc off, st) else none
      | none => none
  | .lookupswitch dflt ps, _, .int x :: st =>
    if (ps.toList.zip (ps.toList.drop 1)).all (fun (a, next) => a.1 < next.1) = true then
      if ev_ok pc (Op.lookupswitch.offset ps.toList dflt x.toInt) = true then some (ev_to pc (Op.lookupswitch.offset ps.toList dflt x.toInt), st) else none
    else none
  | _, _, _ => none
section EVJ
variable {p : Program} {l : Launch} {e : Env} {R : Room} {s : State} {m : MethodId} {args : Array Value} {below : List Frame} {meth : Method} {c : Code} {H : Heap} {locs : List Loc} {cells slots : Nat} {Q : State → Prop}
theorem ev_br_t {pc pc' : Nat} {off : Int} {b : Bool} {st st' : List Value} (h : ev_br pc off b st = some (pc', st')) : (pc : Int) + off = (ev_to pc off : Int) ∧ st' = st ∧ (b = true → pc' = ev_to pc off) ∧ (b = false → pc' = pc + 3) := by
  unfold ev_br at h
  split at h
  · rename_i h1
    cases h
    exact ⟨ev_to_eq h1, rfl, fun hb => by rw [if_pos hb], fun hb => by rw [if_neg (by rw [hb]; decide)]⟩
  · cases h
set_option maxHeartbeats 4000000 in
theorem ev_jump_W {cc : ByteArray} (hx : p.tables.exec = Jvm.exec) (hb : c.code = cc) {ad : Nat → Nat} {pc pc' len : Nat} {ins : Instr} {st st' : List Value} {ls : Array Slot} (hd : decode cc pc = .ok (ins, len)) (h : ev_jump pc ins len st = some (pc', st'))
    (k : W p l e R s m args below meth c H locs cells slots Q (F0 m pc' ls (ev_s ad st'))) : W p l e R s m args below meth c H locs cells slots Q (F0 m pc ls (ev_s ad st)) := by
  unfold ev_jump at h
  split at h
  · split at h
    · rename_i h1; cases h; exact lv_goto hx hb hd (ev_to_eq h1) k
    · cases h
  · obtain ⟨h1, rfl, ht, hf⟩ := ev_br_t h
    exact lv_if_eq hx hb hd h1 (fun c1 => by rw [ht (decide_eq_true c1)] at k; exact k) (fun c1 => by rw [hf (decide_eq_false c1)] at k; exact k)
  · obtain ⟨h1, rfl, ht, hf⟩ := ev_br_t h
    exact lv_if_ne hx hb hd h1 (fun c1 => by rw [ht (decide_eq_true c1)] at k; exact k) (fun c1 => by rw [hf (decide_eq_false (not_not_intro c1))] at k; exact k)
  · obtain ⟨h1, rfl, ht, hf⟩ := ev_br_t h
    exact lv_if_lt hx hb hd h1 (fun c1 => by rw [ht (decide_eq_true c1)] at k; exact k) (fun c1 => by rw [hf (decide_eq_false c1)] at k; exact k)
  · obtain ⟨h1, rfl, ht, hf⟩ := ev_br_t h
    exact lv_if_ge hx hb hd h1 (fun c1 => by rw [ht (decide_eq_true c1)] at k; exact k) (fun c1 => by rw [hf (decide_eq_false c1)] at k; exact k)
  · obtain ⟨h1, rfl, ht, hf⟩ := ev_br_t h
    exact lv_if_gt hx hb hd h1 (fun c1 => by rw [ht (decide_eq_true c1)] at k; exact k) (fun c1 => by rw [hf (decide_eq_false c1)] at k; exact k)
  · obtain ⟨h1, rfl, ht, hf⟩ := ev_br_t h
    exact lv_if_le hx hb hd h1 (fun c1 => by rw [ht (decide_eq_true c1)] at k; exact k) (fun c1 => by rw [hf (decide_eq_false c1)] at k; exact k)
  · obtain ⟨h1, rfl, ht, hf⟩ := ev_br_t h
    exact lv_icmp_eq hx hb hd h1 (fun c1 => by rw [ht (decide_eq_true c1)] at k; exact k) (fun c1 => by rw [hf (decide_eq_false c1)] at k; exact k)
  · obtain ⟨h1, rfl, ht, hf⟩ := ev_br_t h
    exact lv_icmp_ne hx hb hd h1 (fun c1 => by rw [ht (decide_eq_true c1)] at k; exact k) (fun c1 => by rw [hf (decide_eq_false (not_not_intro c1))] at k; exact k)
  · obtain ⟨h1, rfl, ht, hf⟩ := ev_br_t h
    exact lv_icmp_lt hx hb hd h1 (fun c1 => by rw [ht (decide_eq_true c1)] at k; exact k) (fun c1 => by rw [hf (decide_eq_false c1)] at k; exact k)
  · obtain ⟨h1, rfl, ht, hf⟩ := ev_br_t h
    exact lv_icmp_ge hx hb hd h1 (fun c1 => by rw [ht (decide_eq_true c1)] at k; exact k) (fun c1 => by rw [hf (decide_eq_false c1)] at k; exact k)
  · obtain ⟨h1, rfl, ht, hf⟩ := ev_br_t h
    exact lv_icmp_gt hx hb hd h1 (fun c1 => by rw [ht (decide_eq_true c1)] at k; exact k) (fun c1 => by rw [hf (decide_eq_false c1)] at k; exact k)
  · obtain ⟨h1, rfl, ht, hf⟩ := ev_br_t h
    exact lv_icmp_le hx hb hd h1 (fun c1 => by rw [ht (decide_eq_true c1)] at k; exact k) (fun c1 => by rw [hf (decide_eq_false c1)] at k; exact k)
  · split at h
    · rename_i h1
      split at h
      · rename_i h2; cases h; exact lv_tableOut hx hb hd h1 (ev_to_eq h2) k
      · cases h
    · rename_i h1
      split at h
      · rename_i off ho
        split at h
        · rename_i h2; cases h; exact lv_tableIn hx hb hd (fun q => h1 (Or.inl q)) (fun q => h1 (Or.inr q)) ho (ev_to_eq h2) k
        · cases h
      · cases h
  · split at h
    · rename_i h1
      split at h
      · rename_i h2; cases h; exact lv_lookup hx hb hd h1 rfl (ev_to_eq h2) k
      · cases h
    · cases h
  · cases h
end EVJ
