/-- a method's words: its code, and all that the methods need -/
def ev_ws (B : List Jvm.Cond) (M : ev_M) : List Jvm.Cond := .code M.1.1 M.1.2.1 M.1.2.2.1 M.1.2.2.2 :: B
/-- what the tables say of the methods -/
def ev_OK (B : List Jvm.Cond) (cl : List vw_C) (L : Nat → Option ev_M) : Prop :=
  (∀ w ∈ B, (w.onTables && w.keeps) = true ∨ ∃ ty, w = .arrayClass ty) ∧
  ∀ (y : Nat) (M : ev_M), L y = some M → plainName M.1.1.cls = true ∧ Jvm.Cond.code M.1.1 M.1.2.1 M.1.2.2.1 M.1.2.2.2 ∈ B ∧ ev_FL B cl M.1.1.cls M.2.1 ∧ ev_FP B cl M.1.1.cls M.2.2.1 ∧ ev_CK B M.1.1.cls M.2.2.2.1 ∧
    (∀ (i ci k n : Nat), M.2.2.2.2 i = some (some ci, k, n) → ∃ (N : ev_M) (q : vw_C), L k = some N ∧ cl[ci]? = some q ∧ q.1 = N.1.1.cls ∧ (parseMethodDescriptor N.1.1.desc).map (fun d => d.parameters.length) = some n ∧ (N.1.1.cls ≠ "java/lang/invoke/MethodHandle" ∧ N.1.1.cls ≠ "java/lang/invoke/VarHandle") ∧ Jvm.Cond.methodLink M.1.1.cls i N.1.1 ∈ B ∧ Jvm.Cond.instanceMethod N.1.1 ∈ B ∧ Jvm.Cond.selects N.1.1.cls N.1.1 N.1.1 ∈ B ∧ Jvm.Cond.initialized N.1.1.cls ∈ B) ∧
    ∀ (i k n : Nat), M.2.2.2.2 i = some (none, k, n) → ∃ N : ev_M, L k = some N ∧ N.1.1.cls = M.1.1.cls ∧ (parseMethodDescriptor N.1.1.desc).map (fun d => d.parameters.length) = some n ∧ (N.1.1.cls ≠ "java/lang/invoke/MethodHandle" ∧ N.1.1.cls ≠ "java/lang/invoke/VarHandle") ∧ Jvm.Cond.methodLink M.1.1.cls i N.1.1 ∈ B ∧ Jvm.Cond.static N.1.1 ∈ B ∧ Jvm.Cond.initialized M.1.1.cls ∈ B
theorem ev_words {B : List Jvm.Cond} {cl : List vw_C} {L : Nat → Option ev_M} (h : ev_OK B cl L) {y : Nat} {M : ev_M} (hM : L y = some M) : ∀ w ∈ ev_ws B M, (w.onTables && w.keeps) = true ∨ ∃ ty, w = .arrayClass ty := by
  intro w hw
  rcases List.mem_cons.mp hw with rfl | hw
  · exact h.1 _ (h.2 y M hM).2.1
  · exact h.1 w hw
