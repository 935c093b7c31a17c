def xStrs : List (String × Nat × String) := [("FractalMaps", 87, "no such sample"), ("FractalMaps", 94, "a sample is 0 to 255"), ("FractalMaps", 114, "no such least size"), ("FractalMaps", 116, "the bound is below 0"), ("FractalMaps", 139, "no such block"), ("FractalMaps", 141, "nothing such is told of a block"), ("FractalMaps", 150, "no such byte"), ("FractalMaps", 155, "a byte is 0 to 255"), ("FractalMaps", 159, "as many bytes wait as may"), ("FractalMaps", 162, "more bytes would wait than may"), ("FractalMaps", 168, "the rounds are 1 to 40"), ("FractalMaps", 170, "the size is 0 or 1"), ("FractalMaps", 174, "there are no blocks"), ("FractalMaps", 183, "no such sample was decoded"), ("FractalMaps", 186, "the latest decoding was at size 1, or there is none"), ("FractalMaps", 188, "no such size"), ("FractalMaps", 190, "a turn is 0 to 7"), ("FractalMaps", 195, "no such domain"), ("FractalMaps", 197, "no such sample of a domain"), ("FractalMaps", 206, "the square is not all in the picture")]
abbrev exNames : List String := ["java/lang/RuntimeException", "java/lang/Exception"]
/-! methods that may throw: contracts that end in an answer or in a throw -/
def zEx (k : Nat) : String := if k = 1 then "java/lang/IndexOutOfBoundsException" else if k = 2 then "java/lang/IllegalArgumentException" else if k = 3 then "java/lang/IllegalStateException" else "java/lang/UnsupportedOperationException"
def MetT (l : Launch) (y : MethodName) (ws : List Cond) (rm : Room) (Pc : Array Value → State → Prop) (Qc : Array Value → State → Outcome → State → Prop) (mc ms : Nat) (free : Addr → Prop) : Prop :=
  MetFree l y (headSpec ws rm) Pc (fun _ _ _ _ _ => True) (fun a st o t => Qc a st o t ∧ ∃ L, (st.WarmedH t.vm ∧ st.sameButNew ({ t with vm := st.vm } : State) L mc ms) ∧ ∀ q ∈ L, free q.base)
def MQT (below : List Frame) (Qc : Array Value → State → Outcome → State → Prop) (a : Array Value) (s : State) (mc ms : Nat) (free : Addr → Prop) : State → Prop := fun t =>
  ∃ o, t.status = .running ∧ Ended t below o ∧ Qc a s o t ∧ ∃ L, (s.WarmedH t.vm ∧ s.sameButNew ({ t with vm := s.vm } : State) L mc ms) ∧ ∀ q ∈ L, free q.base
theorem MQ.toT {below : List Frame} {Qc : Array Value → State → Outcome → State → Prop} {a : Array Value} {s t : State} {mc ms : Nat} {free : Addr → Prop} (h : MQ below Qc a s mc ms free t) : MQT below Qc a s mc ms free t := by
  obtain ⟨o, h1, h2, h3, L, hF, hL⟩ := h
  exact ⟨o, h1, h2, h3, L, hF.2, hL⟩
theorem MetT.ofW {l : Launch} {y : MethodName} {ws ws' : List Cond} {rm : Room} {Pc : Array Value → State → Prop} {Qc : Array Value → State → Outcome → State → Prop} {mc ms : Nat} {free : Addr → Prop} {cc : ByteArray} {maxL : Nat} {ret : Option FieldType}
    (hy : plainName y.cls = true) (hw : ws = Cond.code y cc maxL ret :: ws')
    (body : ∀ p e s m args below meth c s₁, BodyLoose p l y (headSpec ws rm) cc maxL ret e s m args below meth c s₁ → c.maxLocals = maxL → Pc args s →
      W p l e (headSpec ws rm).room s m args below meth c s.heap [] 0 0 (MQT below Qc args s mc ms free) (entryFrame m args maxL)) : MetT l y ws rm Pc Qc mc ms free := by
  refine MetFree.of_bodyS (code := cc) (maxLocals := maxL) (ret := ret) hy ?_ ?_
  · intro args s m h hn
    obtain ⟨meth, c, h1, h2, h3, h4, h5, h6, -, -⟩ := Cond.code_spec hn (atoms_spec (ws := ws) h _ (by rw [hw]; exact List.mem_cons_self))
    exact ⟨meth, c, h1, h2, h3, h4, h5, h6⟩
  · intro p e s m args below meth c s₁ B hml hP _
    have hh0 : s₁.heap = s.heap := by rw [B.state]; rfl
    obtain ⟨t, a1, o, b1, b2, b3⟩ := body p e s m args below meth c s₁ B hml hP s₁ hh0 (Stand.of_body B)
    exact ⟨t, o, a1, b1, b2, ⟨b3.1, b3.2⟩⟩
/-- an exception's cell -/
def zIs (cls : String) (a : Nat) (t : State) : Prop := ∃ ce : Cell, t.heap[a]? = some ce ∧ ce.vm = .none ∧ t.vm.findClass cls = some ce.cls
/-- the end of a method that may throw: an answer with its world, or an exception with the world as it was -/
def zX {α : Type} (post : α → va_W → Prop) (thr : Nat → Prop) (mk : α → Value) (B : va_W → State → Prop) (ws0 : va_W) (A : Nat → Prop) : Array Value → State → Outcome → State → Prop := fun _ st o t =>
  ((∃ (v : α) (u : va_W), o = .returned (some (mk v)) ∧ post v u ∧ B u t) ∨ (∃ (k a : Nat), o = .threw a ∧ thr k ∧ B ws0 t ∧ zIs (zEx k) a t ∧ st.heap.size ≤ a)) ∧ va_F A st t
/-- the tables' words on exceptions that no contract's word list may hold -/
abbrev xW : List Cond := [.declares (Bundle.initS "java/lang/RuntimeException"), .declares (Bundle.initS "java/lang/Exception"), .declares (Bundle.initS Bundle.tN), .castable "java/lang/IndexOutOfBoundsException" "java/lang/IndexOutOfBoundsException", .castable "java/lang/IllegalArgumentException" "java/lang/IllegalArgumentException", .castable "java/lang/IllegalStateException" "java/lang/IllegalStateException", .castable "java/lang/UnsupportedOperationException" "java/lang/UnsupportedOperationException", .laysStatic Bundle.tN "UNASSIGNED_STACK" Bundle.steD, .laysStatic Bundle.tN "SUPPRESSED_SENTINEL" Bundle.listD]
theorem xW_any {w : Cond} (hw : w ∈ xW) {A A' : Array Value} {U : State} (h : w.before A U = true) : w.before A' U = true := by
  simp only [xW, List.mem_cons, List.not_mem_nil, or_false] at hw
  rcases hw with rfl | rfl | rfl | rfl | rfl | rfl | rfl | rfl | rfl <;> exact h
theorem xW_calling {w : Cond} (hw : w ∈ xW) {A a : Array Value} {U : State} {g : JFrame} {mk : MethodId} (h : w.before A U = true) : w.before A (U.calling g mk a) = true := by
  simp only [xW, List.mem_cons, List.not_mem_nil, or_false] at hw
  rcases hw with rfl | rfl | rfl | rfl | rfl | rfl | rfl | rfl | rfl <;> exact h
/-- pairs of exceptions of which the first can't be cast to the second -/
abbrev xN : List (String × String) := [("java/lang/IllegalArgumentException", "java/lang/IndexOutOfBoundsException"), ("java/lang/UnsupportedOperationException", "java/lang/IllegalArgumentException"), ("java/lang/IllegalStateException", "java/lang/IllegalArgumentException"), ("java/lang/IndexOutOfBoundsException", "java/lang/IllegalArgumentException")]
def zXs (U : State) : Prop := va_Zq Bundle.tN "UNASSIGNED_STACK" Bundle.steD (fun _ => False) U U.heap ∧ va_Zq Bundle.tN "SUPPRESSED_SENTINEL" Bundle.listD (fun _ => False) U U.heap ∧ (∀ q ∈ xStrs, ∃ a, vk_R q.1 q.2.1 q.2.2 a U) ∧ (∀ w ∈ xW, w.before #[] U = true) ∧ ∀ q ∈ xN, va_Nc q.1 q.2 U
def zMT (dC : Nat → ClassId) (dI : Nat → Nat → Nat) (cI cL : ClassId) (ws : va_W) (sz : Nat) (U : State) : Prop := U.heap.size = sz ∧ va_P (dC, dI) classes ws U.heap ∧ va_K (dC, dI) classes (zTy cI cL) U ∧ zN U ∧ va_D (fun _ => True) ws ∧ zXs U
theorem zXs.calling {U : State} {g : JFrame} {mk : MethodId} {a : Array Value} (h : zXs U) : zXs (U.calling g mk a) := by
  obtain ⟨h1, h2, h3, h4, h5⟩ := h
  exact ⟨va_Zq.moved (u := U) (U := U.calling g mk a) (Vm.Alike.refl _) h1, va_Zq.moved (u := U) (U := U.calling g mk a) (Vm.Alike.refl _) h2, fun q hq => (h3 q hq).imp fun b h => vk_R.same (u := U) (U := U.calling g mk a) rfl h, fun w hw => xW_calling hw (h4 w hw), fun q hq => va_Nc.moved (u := U) (U := U.calling g mk a) (Vm.Alike.refl _) (h5 q hq)⟩
theorem zbT {av : List Value} {dC : Nat → ClassId} {dI : Nat → Nat → Nat} {cI cL : ClassId} {ws : va_W} {sz : Nat} : FrameBlind (va_Pc av (zMT dC dI cI cL ws sz)) := fun a U g mk q => by
  obtain ⟨q0, q1, qP, qK, qN, qD, qX⟩ := q
  exact ⟨q0, q1, qP, va_K.moved (u := U) (U := U.calling g mk a) (Vm.Alike.refl U.vm) qK, zN.same (s := U) (U := U.calling g mk a) rfl qN, qD, qX.calling⟩
theorem z_isRef {C n d : String} {A : Nat → Prop} {U : State} {args : Array Value} (h : va_Zq C n d A U U.heap) : (Cond.isRef (.static C n d)).before args U = true := by
  have key : ∀ v, va_Z C n d v A U U.heap → (Term.static C n d).eval args U none [] U = some v := by
    rintro v ⟨cf, kf, fi, f, a, cell, h1, h2, h3, h4, h5, h6, h7, -⟩
    simp [Term.eval, State.fieldNamed?, h1, h2, h4, h5, h6, h7]
  rcases h with h | ⟨t, h⟩ <;> simp [Cond.before, Cond.holds, Cond.value, key _ h]
section ZT
variable {p : Program} {l : Launch} {e : Env} {R : Room} {s : State} {m : MethodId} {args : Array Value} {below : List Frame} {meth : Method} {c : Code} {H : Heap} {locs : List Loc} {cells slots : Nat} {Q : State → Prop}
variable {cc : ByteArray} {pc : Nat} {ls : Array Slot} {rest : List Value} {D : va_G} {A : Nat → Prop} {a : Nat} {tys : List (ClassId × FieldType)} {ws : va_W} {H0 : Heap}
theorem W.mono {Q' : State → Prop} {g : JFrame} (h : ∀ t, Q t → Q' t) (k : W p l e R s m args below meth c H locs cells slots Q g) : W p l e R s m args below meth c H locs cells slots Q' g := fun T hT X => by
  obtain ⟨t, a, b⟩ := k T hT X
  exact ⟨t, a, h t b⟩
theorem z_iretT {Qc : Array Value → State → Outcome → State → Prop} {free : Addr → Prop} {v : Int32} {mc ms : Nat} (hx : p.tables.exec = Jvm.exec) (hb : c.code = cc) (hr : meth.sig.returnType = some .int) (hlocks : meth.locks = false)
    (hq : ∀ t : State, t.heap = H → s.WarmedH t.vm → Qc args s (.returned (some (.int v))) t) (hf : ∀ q ∈ locs, free q.base) (hdg : decode cc pc = .ok (.ireturn, 1)) (hc : cells ≤ mc) (hs : slots ≤ ms) :
    W p l e R s m args below meth c H locs cells slots (MQT below Qc args s mc ms free) (F0 m pc ls [.int v]) :=
  W.widen hc hs (W.mono (fun _ h => MQ.toT h) (W.iret hx hb hr hq hf hdg hlocks))
theorem z_lretT {Qc : Array Value → State → Outcome → State → Prop} {free : Addr → Prop} {v : Int64} {mc ms : Nat} (hx : p.tables.exec = Jvm.exec) (hb : c.code = cc) (hr : meth.sig.returnType = some .long) (hlocks : meth.locks = false)
    (hq : ∀ t : State, t.heap = H → s.WarmedH t.vm → Qc args s (.returned (some (.long v))) t) (hf : ∀ q ∈ locs, free q.base) (hdg : decode cc pc = .ok (.lreturn, 1)) (hc : cells ≤ mc) (hs : slots ≤ ms) :
    W p l e R s m args below meth c H locs cells slots (MQT below Qc args s mc ms free) (F0 m pc ls [.long v]) :=
  W.widen hc hs (W.mono (fun _ h => MQ.toT h) (W.lret hx hb hr hq hf hdg hlocks))
/-- new E(text), thrown out of the method, nothing written before -/
theorem z_throw {own cls tx : String} {names : List String} {ia ib ic nL k : Nat} {α : Type} {post : α → va_W → Prop} {thr : Nat → Prop} {mk : α → Value} {dC : Nat → ClassId} {dI : Nat → Nat → Nat} {cI cL : ClassId} {ws0 : va_W}
    (hfl : l.flags = pinnedFlags ++ [noTraceFlag]) (hx : p.tables.exec = Jvm.exec) (hb : c.code = cc) (hml : c.maxLocals = nL) (hsz : ls.size = nL) (hlocks : meth.locks = false) (hown : s.vm.findClass own = some m.cls) (hout : c.exceptionTable.toList = [])
    (hts : ∀ w ∈ BIG, w.before args s = true) (hX : zXs s) (hP : va_P (dC, dI) classes ws0 s.heap) (hK : va_K (dC, dI) classes (zTy cI cL) s) (hD : va_D A ws0) (hA : ∀ q : Nat, s.heap.size ≤ q → A q)
    (hcls : Bundle.fit cls = true) (hnames : ∀ n ∈ names, Bundle.fit n = true) (hat : ∀ a ∈ Bundle.ownAtoms own ic cls names, a ∈ BIG ∨ a ∈ xW ∨ a = .isRef (.static Bundle.tN "UNASSIGNED_STACK" Bundle.steD) ∨ a = .isRef (.static Bundle.tN "SUPPRESSED_SENTINEL" Bundle.listD))
    (hcl : (Cond.classLink own ia cls) ∈ BIG) (hins : (Cond.instantiable cls 6) ∈ BIG) (hini : (Cond.initialized cls) ∈ BIG) (hstr : (own, ib, tx) ∈ xStrs) (hk : zEx k = cls) (hthr : thr k)
    (hd0 : decode cc pc = .ok (.new ia, 3)) (hd3 : decode cc (pc + 3) = .ok (.dup, 1)) (hd4 : decode cc (pc + 4) = .ok (.ldc ib, 2)) (hd6 : decode cc (pc + 6) = .ok (.invokespecial ic, 3)) (hd9 : decode cc (pc + 9) = .ok (.athrow, 1))
    (hfr : names.length + 3 < R.frames) (hlo : (rest.map fun v => v.category).sum + 1 + (13 * (names.length + 1) + 42) ≤ R.locals) (hce : 1 ≤ R.cells) (hsl : 6 ≤ R.slots) :
    W p l e R s m args below meth c s.heap [] 0 0 (MQT below (zX post thr mk (zQ dC dI cI cL A) ws0 A) args s 1 6 A) (F0 m pc ls rest) := by
  obtain ⟨str, hS⟩ := hX.2.2.1 _ hstr
  refine W.newc hx hb hown (hts _ hcl) (hts _ hins) (hts _ hini) rfl hd0 (by omega) (by omega) (fun cC kC h1 h2 h3 h4 => ?_)
  refine lv_dup (pc := pc + 3) hx hb hd3 rfl ?_
  refine va_ldcS (pc := pc + 4) hx hb hown hS hd4 ?_
  intro T hT X
  have hcell : T.heap[s.heap.size]? = some (freshCell cC kC) := by
    rw [hT]; simp [freshCell]
  obtain ⟨U, hs, hrun, hend, hW, hsame, ce, hce1, hO⟩ := X.ctorThrowS (names := names) hx (Launch.traces_off hfl X.admits) hown hcls hnames (fun a ha => by
      rcases hat a ha with h | h | h | h
      · exact hts a h
      · exact xW_any h (hX.2.2.2.1 a h)
      · rw [h]; exact z_isRef hX.1
      · rw [h]; exact z_isRef hX.2.1) (fun x hx0 => by cases hx0) h1 h2 hcell (Nat.le_refl _) (msg := .ref str) rfl (g := F0 m (pc + 6) ls (.ref str :: .ref s.heap.size :: .ref s.heap.size :: rest)) rfl (hsz.trans hml.symm) rfl rfl rfl (by rw [hb]; exact hd6) (by rw [hb]; exact hd9) (fun x hx0 => by rw [hout] at hx0; cases hx0)
      hfr (by show 2 * 0 + (1 + (rest.map fun v => v.category).sum) + (13 * (names.length + 1) + 42) ≤ R.locals; omega)
  have hkept : ∀ q : Nat, q < s.heap.size → U.heap[q]? = s.heap[q]? := by
    intro q hq
    obtain ⟨c0, hc0⟩ : ∃ c0, s.heap[q]? = some c0 := ⟨_, Array.getElem?_eq_getElem hq⟩
    obtain ⟨c', g1, g2, g3, g4⟩ := hsame.2.2.2.2.2 q c0 hc0
    have : c'.slots = c0.slots := Array.ext_getElem? (fun i => g4 i (by simp))
    rw [show U.heap[q]? = some c' from g1, hc0, g2, this]
  have hsize : s.heap.size ≤ U.heap.size := hsame.2.1
  refine ⟨U, hs, .threw s.heap.size, hrun, hend, ⟨Or.inr ⟨k, s.heap.size, rfl, hthr, ⟨hP.kept (fun j q hj => hkept q.1 ((hP j q hj).lt)), va_K.moved hW.alike hK, hD⟩, ⟨ce, hce1, hO.vm, by rw [hk, hW.alike.findClass]; exact hO.cls⟩, Nat.le_refl _⟩, ⟨hsize, fun q h1 _ => hkept q h1⟩⟩, [], ⟨hW, ?_⟩, fun q h => by cases h⟩
  exact hsame.mono (by omega) (by omega)
end ZT

theorem oa_161 : ∀ a ∈ Bundle.ownAtoms "FractalMaps" 161 "java/lang/UnsupportedOperationException" exNames, a ∈ BIG ∨ a ∈ xW ∨ a = .isRef (.static Bundle.tN "UNASSIGNED_STACK" Bundle.steD) ∨ a = .isRef (.static Bundle.tN "SUPPRESSED_SENTINEL" Bundle.listD) := by decide +kernel
theorem oa_176 : ∀ a ∈ Bundle.ownAtoms "FractalMaps" 176 "java/lang/IllegalStateException" exNames, a ∈ BIG ∨ a ∈ xW ∨ a = .isRef (.static Bundle.tN "UNASSIGNED_STACK" Bundle.steD) ∨ a = .isRef (.static Bundle.tN "SUPPRESSED_SENTINEL" Bundle.listD) := by decide +kernel
theorem oa_89 : ∀ a ∈ Bundle.ownAtoms "FractalMaps" 89 "java/lang/IndexOutOfBoundsException" exNames, a ∈ BIG ∨ a ∈ xW ∨ a = .isRef (.static Bundle.tN "UNASSIGNED_STACK" Bundle.steD) ∨ a = .isRef (.static Bundle.tN "SUPPRESSED_SENTINEL" Bundle.listD) := by decide +kernel
theorem oa_96 : ∀ a ∈ Bundle.ownAtoms "FractalMaps" 96 "java/lang/IllegalArgumentException" exNames, a ∈ BIG ∨ a ∈ xW ∨ a = .isRef (.static Bundle.tN "UNASSIGNED_STACK" Bundle.steD) ∨ a = .isRef (.static Bundle.tN "SUPPRESSED_SENTINEL" Bundle.listD) := by decide +kernel
