/-! rows for constructors: the world grows at its end -/
theorem z_lt {ws : va_W} {k n : Nat} {x : Nat × va_E} (h : ws[k]? = some x) (hl : ws.length = n) : k < n := by
  have := (List.getElem?_eq_some_iff.mp h).1
  omega
theorem z_app {ws : va_W} {n : Nat} {x : Nat × va_E} (hl : ws.length = n) : (ws ++ [x]).length = n + 1 ∧ (ws ++ [x])[n]? = some x ∧ ∀ j, j < n → (ws ++ [x])[j]? = ws[j]? := by
  subst hl
  refine ⟨by simp, by simp, fun j hj => List.getElem?_append_left hj⟩
theorem z_cI {dC : Nat → ClassId} {dI : Nat → Nat → Nat} {cI cL cA : ClassId} {s : State} (h : va_K (dC, dI) classes (zTy cI cL) s) (h2 : va_K (dC, dI) classes (zTy cI cL ++ [(cA, .int)]) s) : cA = cI := by
  have a := (h.2 0 (cI, .int) rfl).2
  have b := (h2.2 2 (cA, .int) rfl).2
  exact (Option.some.inj (a.symm.trans b)).symm
theorem z_cL {dC : Nat → ClassId} {dI : Nat → Nat → Nat} {cI cL cA : ClassId} {s : State} (h : va_K (dC, dI) classes (zTy cI cL) s) (h2 : va_K (dC, dI) classes (zTy cI cL ++ [(cA, .long)]) s) : cA = cL := by
  have a := (h.2 1 (cL, .long) rfl).2
  have b := (h2.2 2 (cA, .long) rfl).2
  exact (Option.some.inj (a.symm.trans b)).symm
section ZI
variable {p : Program} {l : Launch} {e : Env} {R : Room} {s : State} {m : MethodId} {args : Array Value} {below : List Frame} {meth : Method} {c : Code} {H : Heap} {locs : List Loc} {cells slots : Nat} {Q : State → Prop}
variable {cc : ByteArray} {pc : Nat} {ls : Array Slot} {rest : List Value} {dC : Nat → ClassId} {dI : Nat → Nat → Nat} {cI cL : ClassId} {A : Nat → Prop} {a : Nat} {ws : va_W} {H0 : Heap}
theorem z_newa (hx : p.tables.exec = Jvm.exec) (hb : c.code = cc) (harr : (Cond.arrayClass .int).before args s = true) (hK : va_K (dC, dI) classes (zTy cI cL) s) (hP : va_P (dC, dI) classes ws H) (hD : va_D A ws) (hS : va_S A H0 H locs) (hA : ∀ q, H0.size ≤ q → A q) {k : Nat} (hlen : ws.length = k)
    {n : Int32} {N B : Nat} (hn : ¬ n < 0) (hN : n.toNatClampNeg = N) (hB : N ≤ B) (hB2 : B ≤ 1000000) (hcells : cells + 1 ≤ R.cells) (hslots : slots + B ≤ R.slots) (hdg : decode cc pc = .ok (.newarray .int, 2))
    (kk : ∀ (ws1 : va_W) (q : Nat) (H1 : Heap), va_P (dC, dI) classes ws1 H1 → va_D A ws1 → va_S A H0 H1 locs → ws1.length = k + 1 → ws1[k]? = some (q, .inl (cI, N, .inl (fun _ => 0))) → (∀ j, j < k → ws1[j]? = ws[j]?) → W p l e R s m args below meth c H1 locs (cells + 1) (slots + B) Q (F0 m (pc + 2) ls (.ref q :: rest))) :
    W p l e R s m args below meth c H locs cells slots Q (F0 m pc ls (.int n :: rest)) := by
  refine va_newa (atype := .int) (ty := .int) (a0 := (N, .inl (fun _ => 0))) hx hb harr rfl hK hP hD hS hA (fun cA => by rw [vp_cell_i]; rfl) hn hN (by show N * 4 ≤ _; omega) hcells (by omega) hdg (fun q cA H1 hK1 hP1 hD1 hS1 => ?_)
  have hc := z_cI hK hK1
  subst hc
  obtain ⟨g1, g2, g3⟩ := z_app (x := (q, .inl (cA, N, .inl (fun _ => 0)))) hlen
  exact W.widen (Nat.le_refl _) (by omega) (kk _ q H1 hP1 hD1 hS1 g1 g2 g3)
theorem z_newl (hx : p.tables.exec = Jvm.exec) (hb : c.code = cc) (harr : (Cond.arrayClass .long).before args s = true) (hK : va_K (dC, dI) classes (zTy cI cL) s) (hP : va_P (dC, dI) classes ws H) (hD : va_D A ws) (hS : va_S A H0 H locs) (hA : ∀ q, H0.size ≤ q → A q) {k : Nat} (hlen : ws.length = k)
    {n : Int32} {N B : Nat} (hn : ¬ n < 0) (hN : n.toNatClampNeg = N) (hB : N ≤ B) (hB2 : B ≤ 1000000) (hcells : cells + 1 ≤ R.cells) (hslots : slots + B ≤ R.slots) (hdg : decode cc pc = .ok (.newarray .long, 2))
    (kk : ∀ (ws1 : va_W) (q : Nat) (H1 : Heap), va_P (dC, dI) classes ws1 H1 → va_D A ws1 → va_S A H0 H1 locs → ws1.length = k + 1 → ws1[k]? = some (q, .inl (cL, N, .inr (.inl (fun _ => 0)))) → (∀ j, j < k → ws1[j]? = ws[j]?) → W p l e R s m args below meth c H1 locs (cells + 1) (slots + B) Q (F0 m (pc + 2) ls (.ref q :: rest))) :
    W p l e R s m args below meth c H locs cells slots Q (F0 m pc ls (.int n :: rest)) := by
  refine va_newa (atype := .long) (ty := .long) (a0 := (N, .inr (.inl (fun _ => 0)))) hx hb harr rfl hK hP hD hS hA (fun cA => by rw [vp_cell_l]; rfl) hn hN (by show N * 8 ≤ _; omega) hcells (by omega) hdg (fun q cA H1 hK1 hP1 hD1 hS1 => ?_)
  have hc := z_cL hK hK1
  subst hc
  obtain ⟨g1, g2, g3⟩ := z_app (x := (q, .inl (cA, N, .inr (.inl (fun _ => 0))))) hlen
  exact W.widen (Nat.le_refl _) (by omega) (kk _ q H1 hP1 hD1 hS1 g1 g2 g3)
theorem z_new {own C : String} {T : u_T} {N ci index : Nat} (hx : p.tables.exec = Jvm.exec) (hb : c.code = cc) (hts : ∀ w ∈ BIG, w.before args s = true) (hin : ∀ w ∈ u_ws C T N, w ∈ BIG) (ty : Nat → FieldType) (hty : ∀ k, k < N → parseFieldDescriptor (T k).2.2.1 = some (ty k)) (hown : s.vm.findClass own = some m.cls)
    (hcl : (Cond.classLink own index C) ∈ BIG) (hinst : (Cond.instantiable C N) ∈ BIG) (hini : (Cond.initialized C) ∈ BIG) (hK : va_K (dC, dI) classes (zTy cI cL) s) (hP : va_P (dC, dI) classes ws H) (hD : va_D A ws) (hS : va_S A H0 H locs) (hA : ∀ q, H0.size ≤ q → A q) {k : Nat} (hlen : ws.length = k)
    (hc : classes[ci]? = some (C, T, N)) {fs : List Value} (hfs : ∀ j, j < N → defaultValue (ty j) = vp_V fs j) (hcells : cells + 1 ≤ R.cells) (hslots : slots + N ≤ R.slots) (hdg : decode cc pc = .ok (.new index, 3))
    (kk : ∀ (ws1 : va_W) (q : Nat) (H1 : Heap), va_P (dC, dI) classes ws1 H1 → va_D A ws1 → va_S A H0 H1 locs → ws1.length = k + 1 → ws1[k]? = some (q, .inr (ci, fs)) → (∀ j, j < k → ws1[j]? = ws[j]?) → W p l e R s m args below meth c H1 locs (cells + 1) (slots + N) Q (F0 m (pc + 3) ls (.ref q :: rest))) :
    W p l e R s m args below meth c H locs cells slots Q (F0 m pc ls rest) := by
  refine va_new hx hb hts hin ty hty hown (hts _ hcl) (hts _ hinst) (hts _ hini) hK hP hD hS hA hc hfs hcells hslots hdg (fun q H1 hP1 hD1 hS1 => ?_)
  obtain ⟨g1, g2, g3⟩ := z_app (x := (q, .inr (ci, fs))) hlen
  exact kk _ q H1 hP1 hD1 hS1 g1 g2 g3
end ZI
