/-- the interpreter: a first row -/
theorem ev_zero : (0 : Nat) = 0 := rfl
