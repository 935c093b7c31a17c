/-- what stands at a place of a world -/
abbrev zA (ws : va_W) (k : Nat) (x : Nat × va_E) : Prop := ws[k]? = some x
/-! a static method without a world that calls its nest host -/
theorem zbN {av : List Value} : FrameBlind (va_Pc av zN) := fun a U g mk q => ⟨q.1, zN.same (s := U) (U := U.calling g mk a) rfl q.2⟩
theorem zpN {s : State} {H : Heap} {av : List Value} (hZ : zN s) : ∀ U : State, U.heap = H → s.WarmedH U.vm → va_Pc av zN av.toArray U := fun _ _ hW => ⟨rfl, hZ.warm hW⟩
