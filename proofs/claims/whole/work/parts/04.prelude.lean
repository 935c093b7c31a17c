theorem i_F : ∀ w ∈ u_ws "FractalMaps" F_F 10, w ∈ BIG := fun w hw => by
  obtain ⟨k, hk, rfl⟩ := List.mem_map.mp hw
  have hk : k < 10 := List.mem_range.mp hk
  match k, hk with
  | 0, _ => exact k_249
  | 1, _ => exact k_251
  | 2, _ => exact k_253
  | 3, _ => exact k_255
  | 4, _ => exact k_257
  | 5, _ => exact k_259
  | 6, _ => exact k_261
  | 7, _ => exact k_263
  | 8, _ => exact k_265
  | 9, _ => exact k_267
  | k + 10, hk => exact absurd hk (by omega)
theorem i_G : ∀ w ∈ u_ws "FractalMaps$Grid" F_G 3, w ∈ BIG := fun w hw => by
  obtain ⟨k, hk, rfl⟩ := List.mem_map.mp hw
  have hk : k < 3 := List.mem_range.mp hk
  match k, hk with
  | 0, _ => exact k_84
  | 1, _ => exact k_86
  | 2, _ => exact k_88
  | k + 3, hk => exact absurd hk (by omega)
theorem i_V : ∀ w ∈ u_ws "FractalMaps$View" F_V 6, w ∈ BIG := fun w hw => by
  obtain ⟨k, hk, rfl⟩ := List.mem_map.mp hw
  have hk : k < 6 := List.mem_range.mp hk
  match k, hk with
  | 0, _ => exact k_106
  | 1, _ => exact k_108
  | 2, _ => exact k_110
  | 3, _ => exact k_112
  | 4, _ => exact k_114
  | 5, _ => exact k_116
  | k + 6, hk => exact absurd hk (by omega)
theorem i_S : ∀ w ∈ u_ws "FractalMaps$Search" F_S 14, w ∈ BIG := fun w hw => by
  obtain ⟨k, hk, rfl⟩ := List.mem_map.mp hw
  have hk : k < 14 := List.mem_range.mp hk
  match k, hk with
  | 0, _ => exact k_174
  | 1, _ => exact k_176
  | 2, _ => exact k_178
  | 3, _ => exact k_180
  | 4, _ => exact k_182
  | 5, _ => exact k_184
  | 6, _ => exact k_186
  | 7, _ => exact k_188
  | 8, _ => exact k_190
  | 9, _ => exact k_192
  | 10, _ => exact k_194
  | 11, _ => exact k_196
  | 12, _ => exact k_198
  | 13, _ => exact k_200
  | k + 14, hk => exact absurd hk (by omega)
theorem i_T : ∀ w ∈ u_ws "FractalMaps$Fit" F_T 5, w ∈ BIG := fun w hw => by
  obtain ⟨k, hk, rfl⟩ := List.mem_map.mp hw
  have hk : k < 5 := List.mem_range.mp hk
  match k, hk with
  | 0, _ => exact k_147
  | 1, _ => exact k_149
  | 2, _ => exact k_151
  | 3, _ => exact k_153
  | 4, _ => exact k_155
  | k + 5, hk => exact absurd hk (by omega)
theorem i_K : ∀ w ∈ u_ws "FractalMaps$Blocks" F_K 2, w ∈ BIG := fun w hw => by
  obtain ⟨k, hk, rfl⟩ := List.mem_map.mp hw
  have hk : k < 2 := List.mem_range.mp hk
  match k, hk with
  | 0, _ => exact k_214
  | 1, _ => exact k_216
  | k + 2, hk => exact absurd hk (by omega)
theorem i_B : ∀ w ∈ u_ws "FractalMaps$Bits" F_B 3, w ∈ BIG := fun w hw => by
  obtain ⟨k, hk, rfl⟩ := List.mem_map.mp hw
  have hk : k < 3 := List.mem_range.mp hk
  match k, hk with
  | 0, _ => exact k_232
  | 1, _ => exact k_234
  | 2, _ => exact k_236
  | k + 3, hk => exact absurd hk (by omega)
theorem i_M : ∀ w ∈ u_ws "FractalMapsModel" F_M 24, w ∈ BIG := fun w hw => by
  obtain ⟨k, hk, rfl⟩ := List.mem_map.mp hw
  have hk : k < 24 := List.mem_range.mp hk
  match k, hk with
  | 0, _ => exact k_779
  | 1, _ => exact k_781
  | 2, _ => exact k_783
  | 3, _ => exact k_785
  | 4, _ => exact k_787
  | 5, _ => exact k_789
  | 6, _ => exact k_791
  | 7, _ => exact k_793
  | 8, _ => exact k_795
  | 9, _ => exact k_797
  | 10, _ => exact k_799
  | 11, _ => exact k_801
  | 12, _ => exact k_803
  | 13, _ => exact k_805
  | 14, _ => exact k_807
  | 15, _ => exact k_809
  | 16, _ => exact k_811
  | 17, _ => exact k_813
  | 18, _ => exact k_815
  | 19, _ => exact k_817
  | 20, _ => exact k_819
  | 21, _ => exact k_821
  | 22, _ => exact k_823
  | 23, _ => exact k_825
  | k + 24, hk => exact absurd hk (by omega)
def nestF : List (String × Nat × String × String × String × String) := [("FractalMaps", 136, "FractalMaps$Blocks", "count", "I", "FractalMaps"), ("FractalMaps", 185, "FractalMaps$Grid", "side", "I", "FractalMaps"), ("FractalMaps$View", 13, "FractalMaps$Grid", "side", "I", "FractalMaps"), ("FractalMaps$View", 44, "FractalMaps$Grid", "cells", "[I", "FractalMaps"), ("FractalMaps$Search", 63, "FractalMaps$Grid", "side", "I", "FractalMaps"), ("FractalMaps$Search", 113, "FractalMaps$View", "left", "I", "FractalMaps"), ("FractalMaps$Search", 119, "FractalMaps$View", "top", "I", "FractalMaps"), ("FractalMaps$Search", 146, "FractalMaps$Fit", "error", "I", "FractalMaps"), ("FractalMaps", 227, "FractalMaps$Search", "best", "LFractalMaps$Fit;", "FractalMaps"), ("FractalMaps", 230, "FractalMaps$Fit", "error", "I", "FractalMaps"), ("FractalMaps$Blocks", 28, "FractalMaps$Fit", "domain", "I", "FractalMaps"), ("FractalMaps$Blocks", 33, "FractalMaps$Fit", "turn", "I", "FractalMaps"), ("FractalMaps$Blocks", 36, "FractalMaps$Fit", "contrast", "I", "FractalMaps"), ("FractalMaps$Blocks", 39, "FractalMaps$Fit", "offset", "I", "FractalMaps"), ("FractalMaps$Blocks", 42, "FractalMaps$Fit", "error", "I", "FractalMaps"), ("FractalMaps", 241, "FractalMaps$Fit", "domain", "I", "FractalMaps"), ("FractalMaps", 247, "FractalMaps$Fit", "turn", "I", "FractalMaps"), ("FractalMaps", 250, "FractalMaps$Fit", "contrast", "I", "FractalMaps"), ("FractalMaps", 253, "FractalMaps$Fit", "offset", "I", "FractalMaps"), ("FractalMaps", 212, "FractalMaps$Search", "tried", "I", "FractalMaps"), ("FractalMaps$Search", 22, "FractalMaps$Grid", "cells", "[I", "FractalMaps")]
def nestM : List (String × Nat × MethodName × String) := [("FractalMaps$Grid", 52, y_F_acrossOf, "FractalMaps"), ("FractalMaps$Grid", 56, y_F_downOf, "FractalMaps"), ("FractalMaps$View", 19, y_F_domainsAcross, "FractalMaps"), ("FractalMaps$Search", 66, y_F_domainsOf, "FractalMaps"), ("FractalMaps$View", 54, y_F_acrossOf, "FractalMaps"), ("FractalMaps$View", 58, y_F_downOf, "FractalMaps"), ("FractalMaps$Search", 116, y_F_acrossOf, "FractalMaps"), ("FractalMaps$Search", 122, y_F_downOf, "FractalMaps"), ("FractalMaps$Search", 139, y_F_dimmed, "FractalMaps"), ("FractalMaps$Search", 142, y_F_nearest, "FractalMaps"), ("FractalMaps$Search", 155, y_F_brought, "FractalMaps"), ("FractalMaps$Search", 42, y_T_init, "FractalMaps"), ("FractalMaps", 66, y_T_init, "FractalMaps")]
/-! rows of my own: the function layer's cases, worlds as lists of which a method knows some places -/
/-- fuel for loops -/
def FU : Nat := 1048576
theorem z_t {α : Type} {C : Prop} [Decidable C] {a b r : α} (c : C) (h : (if C then a else b) = r) : a = r := by rwa [if_pos c] at h
theorem z_f {α : Type} {C : Prop} [Decidable C] {a b r : α} (c : ¬ C) (h : (if C then a else b) = r) : b = r := by rwa [if_neg c] at h
theorem z_no {α : Type} {C : Prop} [Decidable C] {k : Option α} {r : α} (h : (if C then none else k) = some r) : ¬ C ∧ k = some r := by
  by_cases c : C
  · rw [if_pos c] at h; cases h
  · rw [if_neg c] at h; exact ⟨c, h⟩
theorem z_b {α β : Type} {o : Option α} {k : α → Option β} {r : β} (h : o.bind k = some r) : ∃ q, o = some q ∧ k q = some r := by
  cases o with
  | none => cases h
  | some q => exact ⟨q, rfl, h⟩
theorem z_sl {α β γ : Type} {f : α → γ} {g : β → γ} {a : α} {r : γ} (h : Sum.elim f g (.inl a) = r) : f a = r := h
theorem z_sr {α β γ : Type} {f : α → γ} {g : β → γ} {a : β} {r : γ} (h : Sum.elim f g (.inr a) = r) : g a = r := h
theorem z_nn {a : Nat} : a ∉ ([] : List Nat) := List.not_mem_nil
theorem z_nc {a b : Nat} {l : List Nat} (h : a ≠ b) (k : a ∉ l) : a ∉ b :: l := fun q => by
  rcases List.mem_cons.mp q with e | e
  · exact h e
  · exact k e
theorem z_sn {l : List Nat} : ∀ k ∈ ([] : List Nat), k ∈ l := fun _ h => absurd h List.not_mem_nil
theorem z_sc {b : Nat} {s l : List Nat} (h : b ∈ l) (k : ∀ q ∈ s, q ∈ l) : ∀ q ∈ b :: s, q ∈ l := fun q hq => by
  rcases List.mem_cons.mp hq with e | e
  · exact e ▸ h
  · exact k q e
theorem z_fr {ws0 ws1 ws2 : va_W} {mods : List Nat} {k : Nat} (hk : k ∈ mods) (hw : ∀ j, j ∉ mods → ws1[j]? = ws0[j]?) (h : ∀ j, j ≠ k → ws2[j]? = ws1[j]?) : ∀ j, j ∉ mods → ws2[j]? = ws0[j]? := fun j hj => (h j (fun e => hj (e ▸ hk))).trans (hw j hj)
theorem z_frC {ws0 ws1 ws2 : va_W} {mods ms : List Nat} (hk : ∀ k ∈ ms, k ∈ mods) (hw : ∀ j, j ∉ mods → ws1[j]? = ws0[j]?) (h : ∀ j, j ∉ ms → ws2[j]? = ws1[j]?) : ∀ j, j ∉ mods → ws2[j]? = ws0[j]? := fun j hj => (h j (fun e => hj (hk j e))).trans (hw j hj)
theorem z_free {A0 : Nat → Prop} {ws : va_W} {H0 H : Heap} {locs : List Loc} (hD : va_D A0 ws) (hS : va_S A0 H0 H locs) (hA : ∀ q, H0.size ≤ q → A0 q) : ∀ q, va_A ws H.size q → A0 q := by
  intro q h
  rcases h with ⟨k, e, h⟩ | h
  · exact hD.2 k _ h
  · exact hA q (Nat.le_trans hS.1 h)
theorem z_getset {ws : va_W} {k : Nat} {x y : Nat × va_E} (h : ws[k]? = some x) : (ws.set k y)[k]? = some y ∧ ∀ j, j ≠ k → (ws.set k y)[j]? = ws[j]? :=
  ⟨List.getElem?_set_self (List.getElem?_eq_some_iff.mp h).1, fun _ hj => List.getElem?_set_ne (Ne.symm hj)⟩
/-- the tables' words on nest mates that no contract's word list may hold -/
def zN (U : State) : Prop := (∀ q ∈ nestF, va_Nw (.fieldLinkNest q.1 q.2.1 q.2.2.1 q.2.2.2.1 q.2.2.2.2.1 q.2.2.2.2.2) U) ∧ ∀ q ∈ nestM, va_Nw (.methodLinkNest q.1 q.2.1 q.2.2.1 q.2.2.2) U
theorem zN.warm {s U : State} (hW : s.WarmedH U.vm) (h : zN s) : zN U := ⟨fun q hq => va_Nw.warmF hW (h.1 q hq), fun q hq => va_Nw.warmM hW (h.2 q hq)⟩
theorem zN.same {s U : State} (e : s.vm = U.vm) (h : zN s) : zN U := ⟨fun q hq => va_Nw.same rfl e (h.1 q hq), fun q hq => va_Nw.same rfl e (h.2 q hq)⟩
abbrev zTy (cI cL : ClassId) : List (ClassId × FieldType) := [(cI, .int), (cL, .long)]
/-- a reading method's start -/
def zR (dC : Nat → ClassId) (dI : Nat → Nat → Nat) (cI cL : ClassId) (ws : va_W) (U : State) : Prop := va_P (dC, dI) classes ws U.heap ∧ va_K (dC, dI) classes (zTy cI cL) U ∧ zN U
/-- a writing method's start, and its end -/
def zM (dC : Nat → ClassId) (dI : Nat → Nat → Nat) (cI cL : ClassId) (ws : va_W) (sz : Nat) (U : State) : Prop := U.heap.size = sz ∧ va_P (dC, dI) classes ws U.heap ∧ va_K (dC, dI) classes (zTy cI cL) U ∧ zN U ∧ va_D (fun _ => True) ws
def zQ (dC : Nat → ClassId) (dI : Nat → Nat → Nat) (cI cL : ClassId) (A : Nat → Prop) (ws : va_W) (t : State) : Prop := va_P (dC, dI) classes ws t.heap ∧ va_K (dC, dI) classes (zTy cI cL) t ∧ va_D A ws
theorem zb0 {av : List Value} : FrameBlind (va_Pc av (fun _ => True)) := fun _ _ _ _ q => q
theorem zp0 {s : State} {H : Heap} {av : List Value} : ∀ U : State, U.heap = H → s.WarmedH U.vm → va_Pc av (fun _ => True) av.toArray U := fun _ _ _ => ⟨rfl, trivial⟩
theorem zbR {av : List Value} {dC : Nat → ClassId} {dI : Nat → Nat → Nat} {cI cL : ClassId} {ws : va_W} : FrameBlind (va_Pc av (zR dC dI cI cL ws)) := fun a U g mk q => by
  obtain ⟨q0, qP, qK, qN⟩ := q
  exact ⟨q0, qP, va_K.moved (u := U) (U := U.calling g mk a) (Vm.Alike.refl U.vm) qK, zN.same (s := U) (U := U.calling g mk a) rfl qN⟩
theorem zbM {av : List Value} {dC : Nat → ClassId} {dI : Nat → Nat → Nat} {cI cL : ClassId} {ws : va_W} {sz : Nat} : FrameBlind (va_Pc av (zM dC dI cI cL ws sz)) := fun a U g mk q => by
  obtain ⟨q0, q1, qP, qK, qN, qD⟩ := q
  exact ⟨q0, q1, qP, va_K.moved (u := U) (U := U.calling g mk a) (Vm.Alike.refl U.vm) qK, zN.same (s := U) (U := U.calling g mk a) rfl qN, qD⟩
theorem zpR {s : State} {H : Heap} {av : List Value} {dC : Nat → ClassId} {dI : Nat → Nat → Nat} {cI cL : ClassId} {ws : va_W} (hP : va_P (dC, dI) classes ws H) (hK : va_K (dC, dI) classes (zTy cI cL) s) (hZ : zN s) : ∀ U : State, U.heap = H → s.WarmedH U.vm → va_Pc av (zR dC dI cI cL ws) av.toArray U := fun U hU hW => ⟨rfl, by rw [hU]; exact hP, va_K.moved hW.alike hK, hZ.warm hW⟩
theorem zpM {s : State} {H : Heap} {av : List Value} {dC : Nat → ClassId} {dI : Nat → Nat → Nat} {cI cL : ClassId} {A : Nat → Prop} {ws : va_W} (hP : va_P (dC, dI) classes ws H) (hK : va_K (dC, dI) classes (zTy cI cL) s) (hZ : zN s) (hD : va_D A ws) : ∀ U : State, U.heap = H → s.WarmedH U.vm → va_Pc av (zM dC dI cI cL ws H.size) av.toArray U := fun U hU hW => ⟨rfl, by rw [hU], by rw [hU]; exact hP, va_K.moved hW.alike hK, hZ.warm hW, hD.weaken (fun _ _ _ _ => trivial)⟩
section ZR
variable {p : Program} {l : Launch} {e : Env} {R : Room} {s : State} {m : MethodId} {args : Array Value} {below : List Frame} {meth : Method} {c : Code} {H : Heap} {locs : List Loc} {cells slots : Nat} {Q : State → Prop}
variable {cc : ByteArray} {pc : Nat} {ls : Array Slot} {rest : List Value} {D : va_G} {A : Nat → Prop} {a : Nat} {tys : List (ClassId × FieldType)} {ws : va_W} {H0 : Heap}
theorem z_cr {mc ms : Nat} {g : JFrame} {Qa : State → Outcome → State → Prop} {free : Addr → Prop} (h : va_Run p l e R s m args below meth c H locs cells slots mc ms g rest Qa free) : CallRun p l e R s m args below meth c H locs cells slots mc ms g rest Qa free := fun T hT X => by
  obtain ⟨v, st₀, t, T', L, h0, X', hL, e1, -, hq, st⟩ := h T hT X
  exact ⟨v, st₀, t, T', L, h0, X', hL, e1, hq, st⟩
theorem z_iast (hx : p.tables.exec = Jvm.exec) (hb : c.code = cc) (hK : va_K D classes tys s) (hP : va_P D classes ws H) (hD : va_D A ws) (hS : va_S A H0 H locs) {q0 : Nat} {cA : ClassId} {n : Nat} {f : Nat → Int32} (ha : ws[q0]? = some (a, .inl (cA, n, .inl f))) (ht : tys[0]? = some (cA, .int)) {i : Int32} {x : Int32} (hin : vp_in i n) (hdg : decode cc pc = .ok (.iastore, 1))
    (kk : ∀ (ws1 : va_W) (H1 : Heap) (locs1 : List Loc), va_P D classes ws1 H1 → va_D A ws1 → va_S A H0 H1 locs1 → ws1[q0]? = some (a, .inl (cA, n, .inl (upd f i.toNatClampNeg x))) → (∀ j, j ≠ q0 → ws1[j]? = ws[j]?) → W p l e R s m args below meth c H1 locs1 cells slots Q (F0 m (pc + 1) ls rest)) : W p l e R s m args below meth c H locs cells slots Q (F0 m pc ls (.int x :: .int i :: .ref a :: rest)) :=
  va_iast hx hb hK hP hD hS q0 0 ha ht hin hdg (fun H1 l1 hP1 hD1 hS1 => kk _ H1 l1 hP1 hD1 hS1 (z_getset ha).1 (z_getset ha).2)
theorem z_last (hx : p.tables.exec = Jvm.exec) (hb : c.code = cc) (hK : va_K D classes tys s) (hP : va_P D classes ws H) (hD : va_D A ws) (hS : va_S A H0 H locs) {q0 : Nat} {cA : ClassId} {n : Nat} {f : Nat → Int64} (ha : ws[q0]? = some (a, .inl (cA, n, .inr (.inl f)))) (ht : tys[1]? = some (cA, .long)) {i : Int32} {x : Int64} (hin : vp_in i n) (hdg : decode cc pc = .ok (.lastore, 1))
    (kk : ∀ (ws1 : va_W) (H1 : Heap) (locs1 : List Loc), va_P D classes ws1 H1 → va_D A ws1 → va_S A H0 H1 locs1 → ws1[q0]? = some (a, .inl (cA, n, .inr (.inl (vp_updL f i.toNatClampNeg x)))) → (∀ j, j ≠ q0 → ws1[j]? = ws[j]?) → W p l e R s m args below meth c H1 locs1 cells slots Q (F0 m (pc + 1) ls rest)) : W p l e R s m args below meth c H locs cells slots Q (F0 m pc ls (.long x :: .int i :: .ref a :: rest)) :=
  va_last hx hb hK hP hD hS q0 1 ha ht hin hdg (fun H1 l1 hP1 hD1 hS1 => kk _ H1 l1 hP1 hD1 hS1 (z_getset ha).1 (z_getset ha).2)
/-- a field is put, by the kit's row: the world as a list of which the place is known -/
theorem z_put {q0 ci k : Nat} {fs : List Value} {v : Value} (he : ws[q0]? = some (a, .inr (ci, fs)))
    (kk : ∀ (ws1 : va_W) (H1 : Heap) (locs1 : List Loc), va_P D classes ws1 H1 → va_D A ws1 → va_S A H0 H1 locs1 → ws1[q0]? = some (a, .inr (ci, fs.set k v)) → (∀ j, j ≠ q0 → ws1[j]? = ws[j]?) → W p l e R s m args below meth c H1 locs1 cells slots Q (F0 m (pc + 3) ls rest)) :
    ∀ (H1 : Heap) (locs1 : List Loc), va_P D classes (ws.set q0 (a, .inr (ci, fs.set k v))) H1 → va_D A (ws.set q0 (a, .inr (ci, fs.set k v))) → va_S A H0 H1 locs1 → W p l e R s m args below meth c H1 locs1 cells slots Q (F0 m (pc + 3) ls rest) :=
  fun H1 l1 hP1 hD1 hS1 => kk _ H1 l1 hP1 hD1 hS1 (z_getset he).1 (z_getset he).2
end ZR
