/-- a jump's goal -/
def ev_to (pc : Nat) (off : Int) : Nat := ((pc : Int) + off).toNat
def ev_ok (pc : Nat) (off : Int) : Bool := decide (0 ≤ (pc : Int) + off)
theorem ev_to_eq {pc : Nat} {off : Int} (h : ev_ok pc off = true) : (pc : Int) + off = (ev_to pc off : Int) := by
  unfold ev_ok at h; unfold ev_to
  have h := of_decide_eq_true h
  omega
/-- where a branch goes, and what it leaves on the stack -/
def ev_br (pc : Nat) (off : Int) (b : Bool) (st : List Value) : Option (Nat × List Value) := if ev_ok pc off = true then some (if b = true then ev_to pc off else pc + 3, st) else none
/-- branches and switches -/
def ev_jump (pc : Nat) : Instr → Nat → List Value → Option (Nat × List Value)
  | .goto off, 3, st => if ev_ok pc off = true then some (ev_to pc off, st) else none
  | .ifCond .eq off, 3, .int x :: st => ev_br pc off (decide (x = 0)) st
  | .ifCond .ne off, 3, .int x :: st => ev_br pc off (decide (¬ x = 0)) st
  | .ifCond .lt off, 3, .int x :: st => ev_br pc off (decide (x < 0)) st
  | .ifCond .ge off, 3, .int x :: st => ev_br pc off (decide (0 ≤ x)) st
  | .ifCond .gt off, 3, .int x :: st => ev_br pc off (decide (0 < x)) st
  | .ifCond .le off, 3, .int x :: st => ev_br pc off (decide (x ≤ 0)) st
  | .if_icmp .eq off, 3, .int y :: .int x :: st => ev_br pc off (decide (x = y)) st
  | .if_icmp .ne off, 3, .int y :: .int x :: st => ev_br pc off (decide (¬ x = y)) st
  | .if_icmp .lt off, 3, .int y :: .int x :: st => ev_br pc off (decide (x < y)) st
  | .if_icmp .ge off, 3, .int y :: .int x :: st => ev_br pc off (decide (y ≤ x)) st
  | .if_icmp .gt off, 3, .int y :: .int x :: st => ev_br pc off (decide (y < x)) st
  | .if_icmp .le off, 3, .int y :: .int x :: st => ev_br pc off (decide (x ≤ y)) st
  | .tableswitch dflt lo hi offs, _, .int x :: st =>
    if x.toInt < lo ∨ hi < x.toInt then (if ev_ok pc dflt = true then some (ev_to pc dflt, st) else none)
    else match offs[(x.toInt - lo).toNat]? with
      | some off => if ev_ok pc off = true then some (ev_to pc off, st) else none
      | none => none
  | .lookupswitch dflt ps, _, .int x :: st =>
    if (ps.toList.zip (ps.toList.drop 1)).all (fun (a, next) => a.1 < next.1) = true then
      if ev_ok pc (Op.lookupswitch.offset ps.toList dflt x.toInt) = true then some (ev_to pc (Op.lookupswitch.offset ps.toList dflt x.toInt), st) else none
    else none
  | _, _, _ => none
