/-- the field words of all the class's classes -/
def wsAll : List Cond := wsX00 ++ (wsX10 ++ (wsX20 ++ (wsX30 ++ (wsX40 ++ (wsX50 ++ (wsX60 ++ (wsX70 ++ (wsX80 ++ (wsX90 ++ (wsX100 ++ (wsX110)))))))))))
/-- links of the private constructors -/
def cE (_ : Nat → Prop) (U : State) (_ : Heap) : Prop := va_Nw (.methodLinkNest RX11 22 yX1_init RX11) U ∧ va_Nw (.methodLinkNest RX4 13 yX3_init RX11) U ∧ va_Nw (.methodLinkNest RX8 13 yX7_init RX11) U ∧ va_Nw (.methodLinkNest RX7 11 yX0_init RX11) U ∧ va_Nw (.methodLinkNest RX8 54 yX0_init RX11) U
theorem cE.kept {A : Nat → Prop} {U : State} {H H1 : Heap} (h : cE A U H) (_ : ∀ a : Nat, a < H.size → ¬ A a → H1[a]? = H[a]?) : cE A U H1 := h
theorem cE.narrow {A B : Nat → Prop} {U : State} {H : Heap} (h : cE A U H) (_ : ∀ q, B q → A q) : cE B U H := h
theorem cE.same {A : Nat → Prop} {u U : State} {H : Heap} (hv : U.vm = u.vm) (h : cE A u H) : cE A U H := ⟨va_Nw.same rfl hv.symm h.1, va_Nw.same rfl hv.symm h.2.1, va_Nw.same rfl hv.symm h.2.2.1, va_Nw.same rfl hv.symm h.2.2.2.1, va_Nw.same rfl hv.symm h.2.2.2.2⟩
theorem cE.warm {A : Nat → Prop} {s U : State} {H : Heap} (hW : s.WarmedH U.vm) (h : cE A s H) : cE A U H := ⟨va_Nw.warmM hW h.1, va_Nw.warmM hW h.2.1, va_Nw.warmM hW h.2.2.1, va_Nw.warmM hW h.2.2.2.1, va_Nw.warmM hW h.2.2.2.2⟩
