/-! what is known of exceptions stays known -/
section ZL
variable {s U : State}
theorem z_Zq_later {C n d : String} (hvm : s.vm.Alike U.vm) (hkeep : ∀ (a : Nat) (cell : Cell), s.heap[a]? = some cell → cell.vm.isStatics = true → U.heap[a]? = some cell) (h : va_Zq C n d (fun _ => False) s s.heap) : va_Zq C n d (fun _ => False) U U.heap := by
  have key : ∀ v, va_Z C n d v (fun _ => False) s s.heap → va_Z C n d v (fun _ => False) U U.heap := by
    intro v hv
    obtain ⟨cf, kf, fi, f, a, cell, h1, h2, h3, h4, h5, h6, h7, h8⟩ := va_Z.moved hvm hv
    exact ⟨cf, kf, fi, f, a, cell, h1, h2, h3, h4, hkeep a cell h5 h6, h6, h7, h8⟩
  rcases h with h | ⟨t, h⟩
  · exact Or.inl (key _ h)
  · exact Or.inr ⟨t, key _ h⟩
theorem z_ls_later {C n d : String} (hvm : s.vm.Alike U.vm) (hkeep : ∀ (a : Nat) (cell : Cell), s.heap[a]? = some cell → cell.vm.isStatics = true → U.heap[a]? = some cell) (h : (Cond.laysStatic C n d).before #[] s = true) : (Cond.laysStatic C n d).before #[] U = true := by
  obtain ⟨c, k, i, f, a, cell, h1, h2, h3, h4, h5, h6, h7, h8, h9⟩ := Cond.laysStatic_spec h
  obtain ⟨k', hi', he⟩ := State.fieldFound?_setVm hvm h2
  have hi2 : U.fieldFound? C n d = some (c, k', i, f) := hi'
  have h1' : U.vm.findClass C = some c := by rw [hvm.findClass]; exact h1
  have e4 : k'.statics = some a := by rw [he]; exact h4
  have e9 : k'.staticTypes[f.slot]? = some f.type := by rw [he]; exact h9
  simp [Cond.before, Cond.holds, Cond.value, h1', hi2, e4, hkeep a cell h5 h6, h3, h6, h7, h8, e9]
theorem z_cast_later {C D : String} (hW : s.WarmedH U.vm) (h : (Cond.castable C D).before #[] s = true) : (Cond.castable C D).before #[] U = true :=
  va_tabs rfl (rfl : (s.setVm U.vm).vm = U.vm) (by rw [Cond.castable_setVm hW.alike]; exact h)
theorem zXs.later (hW : s.WarmedH U.vm) (hkeep : ∀ (a : Nat) (cell : Cell), s.heap[a]? = some cell → cell.vm.isStatics = true → U.heap[a]? = some cell) (h : zXs s) : zXs U := by
  obtain ⟨h1, h2, h3, h4, h5⟩ := h
  refine ⟨z_Zq_later hW.alike hkeep h1, z_Zq_later hW.alike hkeep h2, fun q hq => (h3 q hq).imp fun a h => h.warm hW, fun w hw => ?_, fun q hq => (h5 q hq).moved hW.alike⟩
  have hb := h4 w hw
  simp only [xW, List.mem_cons, List.not_mem_nil, or_false] at hw
  rcases hw with rfl | rfl | rfl | rfl | rfl | rfl | rfl | rfl | rfl
  · exact va_Nw.warmD hW hb
  · exact va_Nw.warmD hW hb
  · exact va_Nw.warmD hW hb
  · exact z_cast_later hW hb
  · exact z_cast_later hW hb
  · exact z_cast_later hW hb
  · exact z_cast_later hW hb
  · exact z_ls_later hW.alike hkeep hb
  · exact z_ls_later hW.alike hkeep hb
end ZL
theorem zpT {s : State} {H : Heap} {av : List Value} {dC : Nat → ClassId} {dI : Nat → Nat → Nat} {cI cL : ClassId} {A : Nat → Prop} {ws : va_W} (hP : va_P (dC, dI) classes ws H) (hK : va_K (dC, dI) classes (zTy cI cL) s) (hZ : zN s) (hD : va_D A ws) (hX : zXs s) (hkeep : ∀ (a : Nat) (cell : Cell), s.heap[a]? = some cell → cell.vm.isStatics = true → H[a]? = some cell) : ∀ U : State, U.heap = H → s.WarmedH U.vm → va_Pc av (zMT dC dI cI cL ws H.size) av.toArray U := fun U hU hW => ⟨rfl, by rw [hU], by rw [hU]; exact hP, va_K.moved hW.alike hK, hZ.warm hW, hD.weaken (fun _ _ _ _ => trivial), hX.later hW (fun a cell h1 h2 => by rw [hU]; exact hkeep a cell h1 h2)⟩
theorem z_table {p : Program} {l : Launch} {y : MethodName} {S : Spec} {code : ByteArray} {maxL : Nat} {ret : Option FieldType} {hh : List (Nat × Nat × Nat × Nat)} {e : Env} {s : State} {m : MethodId} {args : Array Value} {below : List Frame} {meth : Method} {c : Code} {s₁ : State}
    (B : BodyLoose p l y S code maxL ret e s m args below meth c s₁) (h : (Cond.codeWith y code maxL ret hh).before args s = true) : c.exceptionTable.toList = tableOf hh := by
  obtain ⟨m', meth', c', hn', hm', hc', -, -, ht', -⟩ := Cond.codeWith_spec h
  cases B.named.symm.trans hn'
  cases B.method.symm.trans hm'
  cases (Stand.of_body B).code.symm.trans hc'
  rw [← ht', table_eq]
