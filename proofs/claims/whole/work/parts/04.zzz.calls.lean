/-! a call, in a method with an exception table, of a method that may throw: it answers, or it is caught -/
section ZM
variable {p : Program} {l : Launch} {e : Env} {R : Room} {s : State} {m : MethodId} {args : Array Value} {below : List Frame} {meth : Method} {c : Code} {H : Heap} {locs : List Loc} {cells slots : Nat} {Q : State → Prop}
variable {cc : ByteArray} {pc : Nat} {ls : Array Slot} {rest As : List Value} {b : Addr} {own C : String} {index nL maxL mc ms n : Nat} {y : MethodName} {bytes : ByteArray} {ret : Option FieldType} {wsy Ts : List Cond} {rm : Room} {Pc : Array Value → State → Prop} {Qc : Array Value → State → Outcome → State → Prop} {free : Addr → Prop}
theorem z_mid (S : CallFix p m c cc nL s args Ts own) (hM : MetT l y wsy rm Pc Qc mc ms free) (cw : CallW R s args own C index y bytes maxL ret wsy rm mc ms n) (hp : PreV s H C b Pc As) (hn : As.length = n) (hsize : ls.size = nL) (hW : (rest.map fun v => v.category).sum ≤ 8) (hdg : decode cc pc = .ok (.invokevirtual index, 3)) (hf : cells + mc ≤ R.cells ∧ slots + ms ≤ R.slots)
    {T : State} (hT : T.heap = H) (X : Stand p l e R s m args below meth c T locs cells slots) :
    ∃ (o : Outcome) (st₀ t U : State) (L : List Loc), st₀.heap = H ∧ Qc (Value.ref b :: As).toArray st₀ o t ∧ Stand p l e R s m args below meth c U (locs ++ L) (cells + mc) (slots + ms) ∧ (∀ q ∈ L, free q.base) ∧ U.heap = t.heap ∧ U.vm = t.vm ∧
      (∀ v, o = .returned v → ∀ tg, Steps p.tables e below (U.setTop (F0 m (pc + 3) ls (v.toList ++ rest))) tg → Steps p.tables e below (T.setTop (F0 m pc ls (As.reverse ++ .ref b :: rest))) tg) ∧
      (∀ x, o = .threw x → ∀ tg, Steps p.tables e below ((U.setTop (F0 m pc ls rest)).pushFrame (.throwing x)) tg → Steps p.tables e below (T.setTop (F0 m pc ls (As.reverse ++ .ref b :: rest))) tg) := by
  obtain ⟨⟨hrc, hrs, hfr1, hlo, hws, hcw, hcode, hini, hy, hlen, hl⟩, hinst, hsel⟩ := cw
  obtain ⟨hx, hb, hml, ho, -⟩ := S
  obtain ⟨hbl, ⟨cellB, hcB, hoB, hclB⟩, hPc⟩ := hp
  obtain ⟨mk0, methM, hnamed, hmethM, hstM, habM⟩ := Cond.instanceMethod_spec hinst
  obtain ⟨methM', cM, hmethM', -, -, -, -, -, -, hsigM⟩ := Cond.code_spec hnamed hcode
  cases hmethM.symm.trans hmethM'
  obtain ⟨c2, r2, m2, q1, q2, q3, q4, kP, hkP, hkPi⟩ := Cond.selects_spec hsel
  cases hclB.symm.trans q1
  cases (State.methodFound?_of_named hnamed hy).symm.trans q2
  cases hnamed.symm.trans q3
  have hselP : selectMethod e.platform s.vm cellB.cls mk0 = .method mk0 := by rw [Launch.admits_selectMethod X.admits]; exact q4
  obtain ⟨vm₁, X₁, hstep₁⟩ := X.invokevirtual hx ho hl hnamed hmethM hstM hkP hkPi hy (a := b) (cell := cellB) (by rw [hT]; exact hcB)
    (fun z h => by rw [h] at hoB; cases hoB) hselP hmethM habM hkP hkPi (g := F0 m pc ls (As.reverse ++ .ref b :: rest)) rfl (argsL := As) (rest := rest) (hn.trans (hlen _ hsigM)) rfl (by rw [hb]; exact hdg)
  obtain ⟨o, U', t, L, hq, X', hL, e1, e2, st1, st2⟩ := z_backT X₁ hM hrc hrs hfr1 (Wd := 8) hlo hws hcw (fun a' U hW => word_at hW (Or.inl (by first | rfl | simp [Cond.onTables, Cond.keeps, Cond.steady])) hini)
    (g := F0 m pc ls rest) rfl (hsize.trans hml.symm) (by rw [hb]; exact hdg) (by show 2 * 0 + (rest.map fun v => v.category).sum ≤ 8; omega) (X₁.named hnamed) (a := (Value.ref b :: As).toArray) (hbl _ _ _ _ (hPc (T.setVm vm₁) hT X₁.warmed)) hf.1 hf.2
  refine ⟨o, (T.setVm vm₁).calling (F0 m pc ls rest) mk0 (Value.ref b :: As).toArray, t, U', L, hT, hq, X', hL, e1, e2, fun v hv tg h => ?_, fun x hx0 tg h => ?_⟩
  · refine hstep₁ _ fun acts => ?_
    rw [doInvoke_state]
    exact (st1 v hv).trans h
  · refine hstep₁ _ fun acts => ?_
    rw [doInvoke_state]
    exact (st2 x hx0).trans h
variable {α : Type} {post : α → va_W → Prop} {thr : Nat → Prop} {mk : α → Value} {B : va_W → State → Prop} {ws1 : va_W} {A1 A0 : Nat → Prop} {H0 : Heap}
theorem z_S {L : List Loc} {H1 : Heap} (hS : va_S A0 H0 H locs) (hA : ∀ q, q < H.size → A1 q → A0 q) (hL : ∀ q ∈ L, A0 q.base) (hz : H.size ≤ H1.size) (hk : ∀ q : Nat, q < H.size → ¬ A1 q → H1[q]? = H[q]?) : va_S A0 H0 H1 (locs ++ L) :=
  ⟨Nat.le_trans hS.1 hz, fun q h1 h2 => by rw [hk q (Nat.lt_of_lt_of_le h1 hS.1) (fun z => h2 (hA q (Nat.lt_of_lt_of_le h1 hS.1) z))]; exact hS.2.1 q h1 h2, fun q hq => by
    rcases List.mem_append.mp hq with h | h
    · exact hS.2.2 q h
    · exact hL q h⟩
/-- it answers -/
theorem z_callRet (S : CallFix p m c cc nL s args Ts own) (hM : MetT l y wsy rm Pc (zX post thr mk B ws1 A1) mc ms free) (cw : CallW R s args own C index y bytes maxL ret wsy rm mc ms n) (hp : PreV s H C b Pc As) (hn : As.length = n) (hsize : ls.size = nL) (hW : (rest.map fun v => v.category).sum ≤ 8) (hdg : decode cc pc = .ok (.invokevirtual index, 3)) (hf : cells + mc ≤ R.cells ∧ slots + ms ≤ R.slots)
    (hno : ∀ k, ¬ thr k) (hS : va_S A0 H0 H locs) (hA : ∀ q, q < H.size → A1 q → A0 q) (hfr : ∀ q, free q → A0 q)
    (kk : ∀ (v : α) (u : va_W) (t : State) (H1 : Heap) (locs1 : List Loc), t.heap = H1 → s.vm.Alike t.vm → post v u → B u t → va_S A0 H0 H1 locs1 → W p l e R s m args below meth c H1 locs1 (cells + mc) (slots + ms) Q (F0 m (pc + 3) ls (mk v :: rest))) :
    W p l e R s m args below meth c H locs cells slots Q (F0 m pc ls (As.reverse ++ .ref b :: rest)) := by
  intro T hT X
  obtain ⟨o, st₀, t, U, L, h0, ⟨hq, hz, hk⟩, X', hL, e1, e2, s1, -⟩ := z_mid S hM cw hp hn hsize hW hdg hf hT X
  rcases hq with ⟨v, u, ho, hpo, hB⟩ | ⟨k, a, -, hth, -⟩
  · rw [h0] at hz hk
    obtain ⟨t2, a1, b1⟩ := kk v u t U.heap (locs ++ L) e1.symm (by rw [← e2]; exact X'.warmed.alike) hpo hB (z_S hS hA (fun q hq => hfr _ (hL q hq)) (by rw [e1]; exact hz) (fun q h1 h2 => by rw [e1]; exact hk q h1 h2)) U rfl X'
    exact ⟨t2, s1 _ ho t2 a1, b1⟩
  · exact absurd hth (hno k)
/-- what is caught where: an exception of the class cls, thrown by the call at pc, goes on at hp -/
def zCat (own : String) (args : Array Value) (s : State) (c : Code) (pc : Nat) (cls : String) (hp : Nat) : Prop :=
  (Cond.castable cls cls).before args s = true ∧
  ((∃ x t, c.exceptionTable.toList = x :: t ∧ x.startPc ≤ pc ∧ pc < x.endPc ∧ x.catchType ≠ 0 ∧ x.handlerPc = hp ∧ (Cond.classLink own x.catchType cls).before args s = true) ∨
   (∃ x y t n1, c.exceptionTable.toList = x :: y :: t ∧ x.startPc ≤ pc ∧ pc < x.endPc ∧ x.catchType ≠ 0 ∧ y.startPc ≤ pc ∧ pc < y.endPc ∧ y.catchType ≠ 0 ∧ y.handlerPc = hp ∧ (Cond.classLink own x.catchType n1).before args s = true ∧ (Cond.classLink own y.catchType cls).before args s = true ∧ va_Nc cls n1 s))
/-- it throws, and is caught -/
theorem z_callThr (S : CallFix p m c cc nL s args Ts own) (hM : MetT l y wsy rm Pc (zX post thr mk B ws1 A1) mc ms free) (cw : CallW R s args own C index y bytes maxL ret wsy rm mc ms n) (hp : PreV s H C b Pc As) (hn : As.length = n) (hsize : ls.size = nL) (hW : (rest.map fun v => v.category).sum ≤ 8) (hdg : decode cc pc = .ok (.invokevirtual index, 3)) (hf : cells + mc ≤ R.cells ∧ slots + ms ≤ R.slots)
    {k hpc : Nat} (hno : ∀ v u, ¬ post v u) (hk : ∀ j, thr j → j = k) (hcat : zCat own args s c pc (zEx k) hpc) (hS : va_S A0 H0 H locs) (hA : ∀ q, q < H.size → A1 q → A0 q) (hfr : ∀ q, free q → A0 q)
    (kk : ∀ (a : Nat) (t : State) (H1 : Heap) (locs1 : List Loc), t.heap = H1 → s.vm.Alike t.vm → B ws1 t → va_S A0 H0 H1 locs1 → W p l e R s m args below meth c H1 locs1 (cells + mc) (slots + ms) Q (F0 m hpc ls [.ref a])) :
    W p l e R s m args below meth c H locs cells slots Q (F0 m pc ls (As.reverse ++ .ref b :: rest)) := by
  intro T hT X
  obtain ⟨o, st₀, t, U, L, h0, ⟨hq, hz, hkp⟩, X', hL, e1, e2, -, s2⟩ := z_mid S hM cw hp hn hsize hW hdg hf hT X
  rcases hq with ⟨v, u, -, hpo, -⟩ | ⟨j, a, ho, hth, hB, ⟨ce, hce, hcv, hcc⟩, -⟩
  · exact absurd hpo (hno v u)
  obtain rfl := hk j hth
  rw [h0] at hz hkp
  have hown := S.2.2.2.1
  have hal : s.vm.Alike U.vm := X'.warmed.alike
  have hcc' : U.vm.findClass (zEx j) = some ce.cls := by rw [e2]; exact hcc
  have hccs : s.vm.findClass (zEx j) = some ce.cls := by rw [← hal.findClass]; exact hcc'
  obtain ⟨kc, hkc, -⟩ := Vm.findClass_spec hcc'
  have hself : ∀ cT, s.vm.findClass (zEx j) = some cT → U.vm.assignable ce.cls cT = true := by
    intro cT h1
    obtain ⟨c3, c4, h3, h4, h5⟩ := Cond.castable_spec hcat.1
    cases hccs.symm.trans h3
    cases h1.symm.trans h4
    rw [hal.assignable]; exact h5
  have fin : ∀ vm', Stand p l e R s m args below meth c (U.setVm vm') (locs ++ L) (cells + mc) (slots + ms) → (∀ target, Steps p.tables e below ((U.setVm vm').setTop (F0 m hpc ls [.ref a])) target → Steps p.tables e below ((U.setTop (F0 m pc ls rest)).pushFrame (.throwing a)) target) → ∃ t2, Steps p.tables e below (T.setTop (F0 m pc ls (As.reverse ++ .ref b :: rest))) t2 ∧ Q t2 := by
    intro vm' X2 st
    obtain ⟨t2, a1, b1⟩ := kk a t U.heap (locs ++ L) e1.symm (by rw [← e2]; exact hal) hB (z_S hS hA (fun q hq => hfr _ (hL q hq)) (by rw [e1]; exact hz) (fun q h1 h2 => by rw [e1]; exact hkp q h1 h2)) (U.setVm vm') rfl X2
    exact ⟨t2, s2 a ho t2 (st t2 a1), b1⟩
  rcases hcat.2 with ⟨x, tb, g1, g2, g3, g4, g5, g6⟩ | ⟨x, y2, tb, n1, g1, g2, g3, g4, g5, g6, g7, g8, g9, g10, g11⟩
  · obtain ⟨vm', X2, st⟩ := z_caught1 X' (a := a) (g := F0 m pc ls rest) rfl hown g1 (by simp [covers, g2, g3]) g4 g6 (cell := ce) (by rw [e1]; exact hce) (by rw [hcv]; rfl) ⟨kc, hkc⟩ hself
    exact fin vm' X2 (fun tg h => st tg (by rw [g5]; exact h))
  · obtain ⟨vm', X2, st⟩ := z_caught2 X' (a := a) (g := F0 m pc ls rest) rfl hown g1 (by simp [covers, g2, g3]) g4 (by simp [covers, g5, g6]) g7 g9 g10 (cell := ce) (by rw [e1]; exact hce) (by rw [hcv]; rfl) ⟨kc, hkc⟩ (by
      intro cT h1
      obtain ⟨c3, c4, h3, h4, h5⟩ := g11
      cases hccs.symm.trans h3
      cases h1.symm.trans h4
      rw [hal.assignable]; exact h5) hself
    exact fin vm' X2 (fun tg h => st tg (by rw [g8]; exact h))
end ZM
