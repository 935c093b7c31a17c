def f_B_append_4 (p1 : Int32) (p2 : Int32) (BA_n : Nat) : Nat → Int32 → Int32 → (Nat → Int32) → Option (Int32 × Int32 × (Nat → Int32))
  | 0, _, _, _ => none
  | n + 1, v3, B_filled, BA_f => if v3 < 0 then (some (v3, B_filled, BA_f)) else ((f_B_appendBit ((p1 >>> (v3 &&& 31)) &&& (1 : Int32)) B_filled BA_n BA_f).bind (fun q14 => f_B_append_4 p1 p2 BA_n n (v3 + (-1)) q14.1 q14.2))
def f_B_append (x1 : Int32) (x2 : Int32) (B_filled : Int32) (BA_n : Nat) (BA_f : Nat → Int32) : Option (Int32 × (Nat → Int32)) := (f_B_append_4 x1 x2 BA_n FU (x2 - (1 : Int32)) B_filled BA_f).bind (fun q15 => some (q15.2.1, q15.2.2))
set_option maxHeartbeats 4000000 in
set_option maxRecDepth 100000 in
theorem c_B_append (l : Launch) (dC : Nat → ClassId) (dI : Nat → Nat → Nat) (cI cL : ClassId) {ws0 : va_W} (sz : Nat) {kB kBA aB aBA : Nat} {B_filled B_taken : Int32} {BA_n : Nat} {BA_f : Nat → Int32} (x1 : Int32) (x2 : Int32) (hN_B : zA ws0 kB (aB, .inr (6, [.ref aBA, .int B_filled, .int B_taken]))) (hN_BA : zA ws0 kBA (aBA, .inl (cI, BA_n, .inl BA_f))) (ne_B_BA : kB ≠ kBA) (r : Int32 × (Nat → Int32)) (hf : f_B_append x1 x2 B_filled BA_n BA_f = some r) : Met l y_B_append w_B_append rm_B_append (va_Pc [.ref aB, .int x1, .int x2] (zM dC dI cI cL ws0 sz)) (va_Qv (fun ws' : va_W => zA ws' kB (aB, .inr (6, [.ref aBA, .int r.1, .int B_taken])) ∧ zA ws' kBA (aBA, .inl (cI, BA_n, .inl r.2)) ∧ ∀ (j : Nat), j ∉ ([kB, kBA] : List Nat) → ws'[j]? = ws0[j]?) (zQ dC dI cI cL (va_A ws0 sz)) (va_A ws0 sz)) 0 0 (va_A ws0 sz) := by
  refine Met.ofW (cc := b_B_append) (maxL := 4) (ret := none) (by decide) rfl ?_
  intro p e s m args below meth c s₁ B hml hv
  obtain ⟨rfl, hsz, hP, hK, hZ, hD0⟩ := hv
  have hx := B.exec
  have hb := B.bytes
  have hr := B.returns
  have hlocks := B.notSynchronized
  have hts : ∀ w ∈ BIG, w.before ([.ref aB, .int x1, .int x2] : List Value).toArray s = true := fun w h => atoms_spec (ws := w_B_append) B.pre w (List.mem_cons_of_mem _ h)
  have hown : s.vm.findClass "FractalMaps$Bits" = some m.cls := findClass_of_methodNamed B.named
  subst hsz
  have hD := hD0.self (sz := s.heap.size)
  generalize hAe : va_A ws0 s.heap.size = A at hD ⊢
  have hA : ∀ q : Nat, s.heap.size ≤ q → A q := fun q h => by rw [← hAe]; exact Or.inr h
  have hS : va_S A s.heap s.heap [] := va_S.rf
  have hw : ∀ (j : Nat), j ∉ ([kB, kBA] : List Nat) → ws0[j]? = ws0[j]? := fun _ _ => rfl
  have hl := lv_entry ([.ref aB, .int x1, .int x2]) (n := 4) (Nat.le_of_ble_eq_true rfl)
  rw [lg_entry_eq]
  generalize (lg_sl ([.ref aB, .int x1, .int x2]) ++ List.replicate (4 - (lg_sl ([.ref aB, .int x1, .int x2])).length) Slot.unset).toArray = ls at hl ⊢
  have hl : lv_has ls 4 [(0, .ref aB), (1, .int x1), (2, .int x2)] := hl
  unfold f_B_append at hf
  refine lv_iload_n hx hb d_B_append_0 rfl (lv_at hl 2 rfl) ?_
  refine lv_iconst (v := 1) hx hb d_B_append_1 (by decide) ?_
  refine lv_isub hx hb d_B_append_2 ?_
  refine lv_istore_n (lv' := [(3, .int (x2 - (1 : Int32))), (0, .ref aB), (1, .int x1), (2, .int x2)]) hx hb d_B_append_3 rfl hl (by decide) rfl (fun ls hl => ?_)
  have lp19 : ∀ (Qx : State → Prop) (n : Nat) (v3_16 : Int32) (B_filled_17 : Int32) (BA_f_18 : Nat → Int32) (ws : va_W) (H : Heap) (locs : List Loc) (ls : Array Slot) (q : Int32 × Int32 × (Nat → Int32)) (hf : f_B_append_4 x1 x2 BA_n n v3_16 B_filled_17 BA_f_18 = some q) (hl : lv_has ls 4 [(0, .ref aB), (1, .int x1), (2, .int x2), (3, .int v3_16)]) (hP : va_P (dC, dI) classes ws H) (hD : va_D A ws) (hS : va_S A s.heap H locs) (hN_B : zA ws kB (aB, .inr (6, [.ref aBA, .int B_filled_17, .int B_taken]))) (hN_BA : zA ws kBA (aBA, .inl (cI, BA_n, .inl BA_f_18))) (hw : ∀ (j : Nat), j ∉ ([kB, kBA] : List Nat) → ws[j]? = ws0[j]?) (kt0 : ∀ (ws : va_W) (H : Heap) (locs : List Loc) (ls : Array Slot), lv_has ls 4 [(0, .ref aB), (1, .int x1), (2, .int x2), (3, .int q.1)] → (va_P (dC, dI) classes ws H) → (va_D A ws) → (va_S A s.heap H locs) → (zA ws kB (aB, .inr (6, [.ref aBA, .int q.2.1, .int B_taken]))) → (zA ws kBA (aBA, .inl (cI, BA_n, .inl q.2.2))) → (∀ (j : Nat), j ∉ ([kB, kBA] : List Nat) → ws[j]? = ws0[j]?) → W p l e (headSpec w_B_append rm_B_append).room s m ([.ref aB, .int x1, .int x2] : List Value).toArray below meth c H locs 0 0 Qx (F0 m 23 ls [])), W p l e (headSpec w_B_append rm_B_append).room s m ([.ref aB, .int x1, .int x2] : List Value).toArray below meth c H locs 0 0 Qx (F0 m 4 ls []) := by
    intro Qx n
    induction n with
    | zero => intro v3_16 B_filled_17 BA_f_18 ws H locs ls q hf; cases hf
    | succ n ih =>
      intro v3_16 B_filled_17 BA_f_18 ws H locs ls q hf hl hP hD hS hN_B hN_BA hw kt0
      rw [f_B_append_4] at hf
      refine lv_iload_n hx hb d_B_append_4 rfl (lv_at hl 3 rfl) ?_
      refine lv_if_lt (tgt := 23) hx hb d_B_append_5 (by decide) (fun hc => ?_) (fun hc => ?_)
      · have hf := z_t hc hf
        obtain rfl := Option.some.inj hf
        exact kt0 _ _ _ ls (lv_sub hl [0, 1, 2, 3] rfl) hP hD hS hN_B hN_BA hw
      · have hf := z_f hc hf
        refine lv_aload_n hx hb d_B_append_8 rfl (lv_at hl 0 rfl) ?_
        refine lv_iload_n hx hb d_B_append_9 rfl (lv_at hl 1 rfl) ?_
        refine lv_iload_n hx hb d_B_append_10 rfl (lv_at hl 3 rfl) ?_
        refine lv_ishr hx hb d_B_append_11 ?_
        refine lv_iconst (v := 1) hx hb d_B_append_12 (by decide) ?_
        refine lv_iand hx hb d_B_append_13 ?_
        obtain ⟨q20, hc, hf⟩ := z_b hf
        have hFc := z_free hD hS hA
        refine va_callv (va_runV (As := [.int ((x1 >>> (v3_16 &&& 31)) &&& (1 : Int32))]) (rest := []) ⟨hx, hb, hml, hown, hts⟩ (c_B_appendBit l dC dI cI cL _ ((x1 >>> (v3_16 &&& 31)) &&& (1 : Int32)) hN_B hN_BA ne_B_BA q20 hc) (cw_B_31 hts ⟨Nat.le_of_ble_eq_true rfl, Nat.le_of_ble_eq_true rfl⟩) ⟨zbM, va_recv hK hP (ci := 6) rfl hN_B, (zpM hP hK hZ hD)⟩ rfl rfl hl.1 rfl (lv_room (Nat.le_of_ble_eq_true rfl)) d_B_append_14 ⟨Nat.zero_le _, Nat.zero_le _⟩) hS (fun q _ h => hFc q h) hFc (fun ws t H locs ht hvm hu hB hz1 hk1 hS => ?_)
        obtain ⟨hN_B, hN_BA, hfr⟩ := hu
        obtain ⟨hP, -, hD1⟩ := hB
        rw [ht] at hP
        have hD := hD1.weaken (fun _ _ _ h => hFc _ h)
        have hN_B : zA ws kB (aB, .inr (6, [.ref aBA, .int q20.1, .int B_taken])) := hN_B
        have hN_BA : zA ws kBA (aBA, .inl (cI, BA_n, .inl q20.2)) := hN_BA
        have hw := z_frC (z_sc List.mem_cons_self (z_sc (List.mem_cons_of_mem _ List.mem_cons_self) z_sn)) hw hfr
        refine lv_iinc (v := (v3_16 + (-1))) (lv' := [(3, .int (v3_16 + (-1))), (0, .ref aB), (1, .int x1), (2, .int x2)]) hx hb d_B_append_17 hl (k := 3) rfl rfl (by decide) rfl (fun ls hl => ?_)
        refine lv_goto (tgt := 4) hx hb d_B_append_20 (by decide) ?_
        exact ih (v3_16 + (-1)) q20.1 q20.2 _ _ _ ls _ hf (lv_sub hl [1, 2, 3, 0] rfl) hP hD hS hN_B hN_BA hw kt0
  obtain ⟨q15, hc, hf⟩ := z_b hf
  refine lp19 _ FU (x2 - (1 : Int32)) B_filled BA_f _ _ _ ls q15 hc (lv_sub hl [1, 2, 3, 0] rfl) hP hD hS hN_B hN_BA hw (fun ws H locs ls hl hP hD hS hN_B hN_BA hw => ?_)
  obtain rfl := Option.some.inj hf
  exact W.vret hx hb hr (fun t ht hW => ⟨⟨ws, rfl, ⟨hN_B, hN_BA, hw⟩, by rw [ht]; exact hP, va_K.moved hW.alike hK, hD⟩, hS.F ht⟩) hS.2.2 d_B_append_23
def f_F_feed (x1 : Int32) (I_filled : Int32) (IA_n : Nat) (IA_f : Nat → Int32) : Option (Nat ⊕ (Int32 × Int32 × (Nat → Int32))) := if x1 < 0 then (some (.inl 2)) else (if x1 ≤ (255 : Int32) then ((f_B_bytes I_filled).bind (fun q21 => if q21 < (2000 : Int32) then ((f_B_append x1 (8 : Int32) I_filled IA_n IA_f).bind (fun q23 => (f_B_bytes q23.1).bind (fun q24 => some (.inr (q24, q23.1, q23.2))))) else (some (.inl 4)))) else (some (.inl 2)))
set_option maxHeartbeats 4000000 in
set_option maxRecDepth 100000 in
theorem c_F_feed (l : Launch) (hfl : l.flags = pinnedFlags ++ [noTraceFlag]) (dC : Nat → ClassId) (dI : Nat → Nat → Nat) (cI cL : ClassId) {ws0 : va_W} (sz : Nat) {aO aP aN aH aV aS aK aT aC aI aIA : Nat} {O_side I_filled I_taken : Int32} {IA_n : Nat} {IA_f : Nat → Int32} (x1 : Int32) (hN_O : zA ws0 0 (aO, .inr (0, [.int O_side, .ref aP, .ref aN, .ref aH, .ref aV, .ref aS, .ref aK, .ref aT, .ref aC, .ref aI]))) (hN_I : zA ws0 19 (aI, .inr (6, [.ref aIA, .int I_filled, .int I_taken]))) (hN_IA : zA ws0 20 (aIA, .inl (cI, IA_n, .inl IA_f))) (r : Nat ⊕ (Int32 × Int32 × (Nat → Int32))) (hf : f_F_feed x1 I_filled IA_n IA_f = some r) : MetT l y_F_feed w_F_feed rm_F_feed (va_Pc [.ref aO, .int x1] (zMT dC dI cI cL ws0 sz)) (zX (fun (v : Int32) (ws' : va_W) => ∃ r1, r = .inr r1 ∧ v = r1.1 ∧ zA ws' 19 (aI, .inr (6, [.ref aIA, .int r1.2.1, .int I_taken])) ∧ zA ws' 20 (aIA, .inl (cI, IA_n, .inl r1.2.2)) ∧ ∀ (j : Nat), j ∉ ([19, 20] : List Nat) → ws'[j]? = ws0[j]?) (fun k => r = .inl k) Value.int (zQ dC dI cI cL (va_A ws0 sz)) ws0 (va_A ws0 sz)) 1 6 (va_A ws0 sz) := by
  refine MetT.ofW (cc := b_F_feed) (maxL := 2) (ret := some .int) (by decide) rfl ?_
  intro p e s m args below meth c s₁ B hml hv
  obtain ⟨rfl, hsz, hP, hK, hZ, hD0, hX⟩ := hv
  have hx := B.exec
  have hb := B.bytes
  have hr := B.returns
  have hlocks := B.notSynchronized
  have hts : ∀ w ∈ BIG, w.before ([.ref aO, .int x1] : List Value).toArray s = true := fun w h => atoms_spec (ws := w_F_feed) B.pre w (List.mem_cons_of_mem _ h)
  have hown : s.vm.findClass "FractalMaps" = some m.cls := findClass_of_methodNamed B.named
  have hout : c.exceptionTable.toList = [] := by simpa using B.noHandlers (atoms_spec (ws := w_F_feed) B.pre _ List.mem_cons_self)
  subst hsz
  have hD := hD0.self (sz := s.heap.size)
  generalize hAe : va_A ws0 s.heap.size = A at hD ⊢
  have hA : ∀ q : Nat, s.heap.size ≤ q → A q := fun q h => by rw [← hAe]; exact Or.inr h
  have hS : va_S A s.heap s.heap [] := va_S.rf
  have hw : ∀ (j : Nat), j ∉ ([19, 20] : List Nat) → ws0[j]? = ws0[j]? := fun _ _ => rfl
  have hl := lv_entry ([.ref aO, .int x1]) (n := 2) (Nat.le_of_ble_eq_true rfl)
  rw [lg_entry_eq]
  generalize (lg_sl ([.ref aO, .int x1]) ++ List.replicate (2 - (lg_sl ([.ref aO, .int x1])).length) Slot.unset).toArray = ls at hl ⊢
  have hl : lv_has ls 2 [(0, .ref aO), (1, .int x1)] := hl
  unfold f_F_feed at hf
  refine lv_iload_n hx hb d_F_feed_0 rfl (lv_at hl 1 rfl) ?_
  refine lv_if_lt (tgt := 11) hx hb d_F_feed_1 (by decide) (fun hc => ?_) (fun hc => ?_)
  · have hf := z_t hc hf
    obtain rfl := Option.some.inj hf
    exact z_throw (own := "FractalMaps") (cls := "java/lang/IllegalArgumentException") (tx := "a byte is 0 to 255") (names := exNames) (k := 2) hfl hx hb hml hl.1 hlocks hown hout hts hX hP hK hD hA (by decide +kernel) (by decide +kernel) oa_96 k_476 k_477 k_50 (by decide +kernel) rfl rfl d_F_feed_11 d_F_feed_14 d_F_feed_15 d_F_feed_17 d_F_feed_20 (Nat.le_of_ble_eq_true rfl) (Nat.le_of_ble_eq_true rfl) (Nat.le_of_ble_eq_true rfl) (Nat.le_of_ble_eq_true rfl)
  · have hf := z_f hc hf
    refine lv_iload_n hx hb d_F_feed_4 rfl (lv_at hl 1 rfl) ?_
    refine lv_sipush (v := 255) hx hb d_F_feed_5 (by decide) ?_
    refine lv_icmp_le (tgt := 21) hx hb d_F_feed_8 (by decide) (fun hc => ?_) (fun hc => ?_)
    · have hf := z_t hc hf
      refine lv_aload_n hx hb d_F_feed_21 rfl (lv_at hl 0 rfl) ?_
      refine gf_F_78 (v := .ref aI) hx hb hts hown hK hP hN_O rfl d_F_feed_22 ?_
      obtain ⟨q21, hc, hf⟩ := z_b hf
      refine vp_callSi (z_cr (va_runV (As := []) (rest := []) ⟨hx, hb, hml, hown, hts⟩ (c_B_bytes l dC dI cI cL hN_I q21 hc) (cw_F_146 hts ⟨Nat.le_of_ble_eq_true rfl, Nat.le_of_ble_eq_true rfl⟩) ⟨zbR, va_recv hK hP (ci := 6) rfl hN_I, (zpR hP hK hZ)⟩ rfl rfl hl.1 rfl (lv_room (Nat.le_of_ble_eq_true rfl)) d_F_feed_25 ⟨Nat.zero_le _, Nat.zero_le _⟩)) (fun r22 hv => ?_)
      have hv := hv.symm
      subst hv
      refine lv_sipush (v := 2000) hx hb d_F_feed_28 (by decide) ?_
      refine lv_icmp_lt (tgt := 44) hx hb d_F_feed_31 (by decide) (fun hc => ?_) (fun hc => ?_)
      · have hf := z_t hc hf
        refine lv_aload_n hx hb d_F_feed_44 rfl (lv_at hl 0 rfl) ?_
        refine gf_F_78 (v := .ref aI) hx hb hts hown hK hP hN_O rfl d_F_feed_45 ?_
        refine lv_iload_n hx hb d_F_feed_48 rfl (lv_at hl 1 rfl) ?_
        refine lv_bipush (v := 8) hx hb d_F_feed_49 (by decide) ?_
        obtain ⟨q23, hc, hf⟩ := z_b hf
        have hFc := z_free hD hS hA
        refine va_callv (va_runV (As := [.int x1, .int (8 : Int32)]) (rest := []) ⟨hx, hb, hml, hown, hts⟩ (c_B_append l dC dI cI cL _ x1 (8 : Int32) hN_I hN_IA (by decide) q23 hc) (cw_F_129 hts ⟨Nat.le_of_ble_eq_true rfl, Nat.le_of_ble_eq_true rfl⟩) ⟨zbM, va_recv hK hP (ci := 6) rfl hN_I, (zpM hP hK hZ hD)⟩ rfl rfl hl.1 rfl (lv_room (Nat.le_of_ble_eq_true rfl)) d_F_feed_51 ⟨Nat.zero_le _, Nat.zero_le _⟩) hS (fun q _ h => hFc q h) hFc (fun ws t H locs ht hvm hu hB hz1 hk1 hS => ?_)
        obtain ⟨hN_I, hN_IA, hfr⟩ := hu
        obtain ⟨hP, -, hD1⟩ := hB
        rw [ht] at hP
        have hD := hD1.weaken (fun _ _ _ h => hFc _ h)
        have hN_I : zA ws 19 (aI, .inr (6, [.ref aIA, .int q23.1, .int I_taken])) := hN_I
        have hN_IA : zA ws 20 (aIA, .inl (cI, IA_n, .inl q23.2)) := hN_IA
        have hN_O := (hfr _ (by decide)).trans hN_O
        have hw := z_frC (by decide) hw hfr
        refine lv_aload_n hx hb d_F_feed_54 rfl (lv_at hl 0 rfl) ?_
        refine gf_F_78 (v := .ref aI) hx hb hts hown hK hP hN_O rfl d_F_feed_55 ?_
        obtain ⟨q24, hc, hf⟩ := z_b hf
        refine vp_callSi (z_cr (va_runV (As := []) (rest := []) ⟨hx, hb, hml, hown, hts⟩ (c_B_bytes l dC dI cI cL hN_I q24 hc) (cw_F_146 hts ⟨Nat.le_of_ble_eq_true rfl, Nat.le_of_ble_eq_true rfl⟩) ⟨zbR, va_recv hK hP (ci := 6) rfl hN_I, (zpR hP hK hZ)⟩ rfl rfl hl.1 rfl (lv_room (Nat.le_of_ble_eq_true rfl)) d_F_feed_58 ⟨Nat.zero_le _, Nat.zero_le _⟩)) (fun r25 hv => ?_)
        have hv := hv.symm
        subst hv
        obtain rfl := Option.some.inj hf
        exact z_iretT hx hb hr hlocks (fun t ht hW => ⟨Or.inl ⟨_, ws, rfl, ⟨_, rfl, rfl, hN_I, hN_IA, hw⟩, by rw [ht]; exact hP, va_K.moved hW.alike hK, hD⟩, hS.F ht⟩) hS.2.2 d_F_feed_61 (Nat.zero_le _) (Nat.zero_le _)
      · have hf := z_f hc hf
        obtain rfl := Option.some.inj hf
        exact z_throw (own := "FractalMaps") (cls := "java/lang/UnsupportedOperationException") (tx := "as many bytes wait as may") (names := exNames) (k := 4) hfl hx hb hml hl.1 hlocks hown hout hts hX hP hK hD hA (by decide +kernel) (by decide +kernel) oa_161 k_648 k_649 k_51 (by decide +kernel) rfl rfl d_F_feed_34 d_F_feed_37 d_F_feed_38 d_F_feed_40 d_F_feed_43 (Nat.le_of_ble_eq_true rfl) (Nat.le_of_ble_eq_true rfl) (Nat.le_of_ble_eq_true rfl) (Nat.le_of_ble_eq_true rfl)
    · have hf := z_f hc hf
      obtain rfl := Option.some.inj hf
      exact z_throw (own := "FractalMaps") (cls := "java/lang/IllegalArgumentException") (tx := "a byte is 0 to 255") (names := exNames) (k := 2) hfl hx hb hml hl.1 hlocks hown hout hts hX hP hK hD hA (by decide +kernel) (by decide +kernel) oa_96 k_476 k_477 k_50 (by decide +kernel) rfl rfl d_F_feed_11 d_F_feed_14 d_F_feed_15 d_F_feed_17 d_F_feed_20 (Nat.le_of_ble_eq_true rfl) (Nat.le_of_ble_eq_true rfl) (Nat.le_of_ble_eq_true rfl) (Nat.le_of_ble_eq_true rfl)
def f_F_pass_35 (p1 : Int32) (CA_n : Nat) (CA_f : Nat → Int32) (IA_n : Nat) : Nat → Int32 → Int32 → (Nat → Int32) → Option (Int32 × Int32 × (Nat → Int32))
  | 0, _, _, _ => none
  | n + 1, v2, I_filled, IA_f => if p1 ≤ v2 then (some (v2, I_filled, IA_f)) else ((f_B_byteOf v2 CA_n CA_f).bind (fun q30 => (f_B_append q30 (8 : Int32) I_filled IA_n IA_f).bind (fun q32 => f_F_pass_35 p1 CA_n CA_f IA_n n (v2 + 1) q32.1 q32.2)))
def f_F_pass (C_filled : Int32) (CA_n : Nat) (CA_f : Nat → Int32) (I_filled : Int32) (IA_n : Nat) (IA_f : Nat → Int32) : Option (Nat ⊕ (Int32 × Int32 × (Nat → Int32))) := (f_B_bytes C_filled).bind (fun q26 => (f_B_bytes I_filled).bind (fun q28 => if (q28 + q26) ≤ (2000 : Int32) then ((f_F_pass_35 q26 CA_n CA_f IA_n FU (0 : Int32) I_filled IA_f).bind (fun q33 => (f_B_bytes q33.2.1).bind (fun q41 => some (.inr (q41, q33.2.1, q33.2.2))))) else (some (.inl 4))))
set_option maxHeartbeats 4000000 in
set_option maxRecDepth 100000 in
theorem c_F_pass (l : Launch) (hfl : l.flags = pinnedFlags ++ [noTraceFlag]) (dC : Nat → ClassId) (dI : Nat → Nat → Nat) (cI cL : ClassId) {ws0 : va_W} (sz : Nat) {aO aP aN aH aV aS aK aT aC aI aCA aIA : Nat} {O_side C_filled C_taken I_filled I_taken : Int32} {CA_n IA_n : Nat} {CA_f IA_f : Nat → Int32} (hN_O : zA ws0 0 (aO, .inr (0, [.int O_side, .ref aP, .ref aN, .ref aH, .ref aV, .ref aS, .ref aK, .ref aT, .ref aC, .ref aI]))) (hN_C : zA ws0 17 (aC, .inr (6, [.ref aCA, .int C_filled, .int C_taken]))) (hN_CA : zA ws0 18 (aCA, .inl (cI, CA_n, .inl CA_f))) (hN_I : zA ws0 19 (aI, .inr (6, [.ref aIA, .int I_filled, .int I_taken]))) (hN_IA : zA ws0 20 (aIA, .inl (cI, IA_n, .inl IA_f))) (r : Nat ⊕ (Int32 × Int32 × (Nat → Int32))) (hf : f_F_pass C_filled CA_n CA_f I_filled IA_n IA_f = some r) : MetT l y_F_pass w_F_pass rm_F_pass (va_Pc [.ref aO] (zMT dC dI cI cL ws0 sz)) (zX (fun (v : Int32) (ws' : va_W) => ∃ r1, r = .inr r1 ∧ v = r1.1 ∧ zA ws' 19 (aI, .inr (6, [.ref aIA, .int r1.2.1, .int I_taken])) ∧ zA ws' 20 (aIA, .inl (cI, IA_n, .inl r1.2.2)) ∧ ∀ (j : Nat), j ∉ ([19, 20] : List Nat) → ws'[j]? = ws0[j]?) (fun k => r = .inl k) Value.int (zQ dC dI cI cL (va_A ws0 sz)) ws0 (va_A ws0 sz)) 1 6 (va_A ws0 sz) := by
  refine MetT.ofW (cc := b_F_pass) (maxL := 3) (ret := some .int) (by decide) rfl ?_
  intro p e s m args below meth c s₁ B hml hv
  obtain ⟨rfl, hsz, hP, hK, hZ, hD0, hX⟩ := hv
  have hx := B.exec
  have hb := B.bytes
  have hr := B.returns
  have hlocks := B.notSynchronized
  have hts : ∀ w ∈ BIG, w.before ([.ref aO] : List Value).toArray s = true := fun w h => atoms_spec (ws := w_F_pass) B.pre w (List.mem_cons_of_mem _ h)
  have hown : s.vm.findClass "FractalMaps" = some m.cls := findClass_of_methodNamed B.named
  have hout : c.exceptionTable.toList = [] := by simpa using B.noHandlers (atoms_spec (ws := w_F_pass) B.pre _ List.mem_cons_self)
  subst hsz
  have hD := hD0.self (sz := s.heap.size)
  generalize hAe : va_A ws0 s.heap.size = A at hD ⊢
  have hA : ∀ q : Nat, s.heap.size ≤ q → A q := fun q h => by rw [← hAe]; exact Or.inr h
  have hS : va_S A s.heap s.heap [] := va_S.rf
  have hw : ∀ (j : Nat), j ∉ ([19, 20] : List Nat) → ws0[j]? = ws0[j]? := fun _ _ => rfl
  have hl := lv_entry ([.ref aO]) (n := 3) (Nat.le_of_ble_eq_true rfl)
  rw [lg_entry_eq]
  generalize (lg_sl ([.ref aO]) ++ List.replicate (3 - (lg_sl ([.ref aO])).length) Slot.unset).toArray = ls at hl ⊢
  have hl : lv_has ls 3 [(0, .ref aO)] := hl
  unfold f_F_pass at hf
  refine lv_aload_n hx hb d_F_pass_0 rfl (lv_at hl 0 rfl) ?_
  refine gf_F_74 (v := .ref aC) hx hb hts hown hK hP hN_O rfl d_F_pass_1 ?_
  obtain ⟨q26, hc, hf⟩ := z_b hf
  refine vp_callSi (z_cr (va_runV (As := []) (rest := []) ⟨hx, hb, hml, hown, hts⟩ (c_B_bytes l dC dI cI cL hN_C q26 hc) (cw_F_146 hts ⟨Nat.le_of_ble_eq_true rfl, Nat.le_of_ble_eq_true rfl⟩) ⟨zbR, va_recv hK hP (ci := 6) rfl hN_C, (zpR hP hK hZ)⟩ rfl rfl hl.1 rfl (lv_room (Nat.le_of_ble_eq_true rfl)) d_F_pass_4 ⟨Nat.zero_le _, Nat.zero_le _⟩)) (fun r27 hv => ?_)
  have hv := hv.symm
  subst hv
  refine lv_istore_n (lv' := [(1, .int q26), (0, .ref aO)]) hx hb d_F_pass_7 rfl hl (by decide) rfl (fun ls hl => ?_)
  refine lv_aload_n hx hb d_F_pass_8 rfl (lv_at hl 1 rfl) ?_
  refine gf_F_78 (v := .ref aI) hx hb hts hown hK hP hN_O rfl d_F_pass_9 ?_
  obtain ⟨q28, hc, hf⟩ := z_b hf
  refine vp_callSi (z_cr (va_runV (As := []) (rest := []) ⟨hx, hb, hml, hown, hts⟩ (c_B_bytes l dC dI cI cL hN_I q28 hc) (cw_F_146 hts ⟨Nat.le_of_ble_eq_true rfl, Nat.le_of_ble_eq_true rfl⟩) ⟨zbR, va_recv hK hP (ci := 6) rfl hN_I, (zpR hP hK hZ)⟩ rfl rfl hl.1 rfl (lv_room (Nat.le_of_ble_eq_true rfl)) d_F_pass_12 ⟨Nat.zero_le _, Nat.zero_le _⟩)) (fun r29 hv => ?_)
  have hv := hv.symm
  subst hv
  refine lv_iload_n hx hb d_F_pass_15 rfl (lv_at hl 0 rfl) ?_
  refine lv_iadd hx hb d_F_pass_16 ?_
  refine lv_sipush (v := 2000) hx hb d_F_pass_17 (by decide) ?_
  refine lv_icmp_le (tgt := 33) hx hb d_F_pass_20 (by decide) (fun hc => ?_) (fun hc => ?_)
  · have hf := z_t hc hf
    refine lv_iconst (v := 0) hx hb d_F_pass_33 (by decide) ?_
    refine lv_istore_n (lv' := [(2, .int (0 : Int32)), (1, .int q26), (0, .ref aO)]) hx hb d_F_pass_34 rfl hl (by decide) rfl (fun ls hl => ?_)
    have lp37 : ∀ (Qx : State → Prop) (n : Nat) (v2_34 : Int32) (I_filled_35 : Int32) (IA_f_36 : Nat → Int32) (ws : va_W) (H : Heap) (locs : List Loc) (ls : Array Slot) (q : Int32 × Int32 × (Nat → Int32)) (hf : f_F_pass_35 q26 CA_n CA_f IA_n n v2_34 I_filled_35 IA_f_36 = some q) (hl : lv_has ls 3 [(0, .ref aO), (1, .int q26), (2, .int v2_34)]) (hP : va_P (dC, dI) classes ws H) (hD : va_D A ws) (hS : va_S A s.heap H locs) (hN_O : zA ws 0 (aO, .inr (0, [.int O_side, .ref aP, .ref aN, .ref aH, .ref aV, .ref aS, .ref aK, .ref aT, .ref aC, .ref aI]))) (hN_C : zA ws 17 (aC, .inr (6, [.ref aCA, .int C_filled, .int C_taken]))) (hN_CA : zA ws 18 (aCA, .inl (cI, CA_n, .inl CA_f))) (hN_I : zA ws 19 (aI, .inr (6, [.ref aIA, .int I_filled_35, .int I_taken]))) (hN_IA : zA ws 20 (aIA, .inl (cI, IA_n, .inl IA_f_36))) (hw : ∀ (j : Nat), j ∉ ([19, 20] : List Nat) → ws[j]? = ws0[j]?) (kt0 : ∀ (ws : va_W) (H : Heap) (locs : List Loc) (ls : Array Slot), lv_has ls 3 [(0, .ref aO), (1, .int q26), (2, .int q.1)] → (va_P (dC, dI) classes ws H) → (va_D A ws) → (va_S A s.heap H locs) → (zA ws 0 (aO, .inr (0, [.int O_side, .ref aP, .ref aN, .ref aH, .ref aV, .ref aS, .ref aK, .ref aT, .ref aC, .ref aI]))) → (zA ws 17 (aC, .inr (6, [.ref aCA, .int C_filled, .int C_taken]))) → (zA ws 18 (aCA, .inl (cI, CA_n, .inl CA_f))) → (zA ws 19 (aI, .inr (6, [.ref aIA, .int q.2.1, .int I_taken]))) → (zA ws 20 (aIA, .inl (cI, IA_n, .inl q.2.2))) → (∀ (j : Nat), j ∉ ([19, 20] : List Nat) → ws[j]? = ws0[j]?) → W p l e (headSpec w_F_pass rm_F_pass).room s m ([.ref aO] : List Value).toArray below meth c H locs 0 0 Qx (F0 m 63 ls [])), W p l e (headSpec w_F_pass rm_F_pass).room s m ([.ref aO] : List Value).toArray below meth c H locs 0 0 Qx (F0 m 35 ls []) := by
      intro Qx n
      induction n with
      | zero => intro v2_34 I_filled_35 IA_f_36 ws H locs ls q hf; cases hf
      | succ n ih =>
        intro v2_34 I_filled_35 IA_f_36 ws H locs ls q hf hl hP hD hS hN_O hN_C hN_CA hN_I hN_IA hw kt0
        rw [f_F_pass_35] at hf
        refine lv_iload_n hx hb d_F_pass_35 rfl (lv_at hl 2 rfl) ?_
        refine lv_iload_n hx hb d_F_pass_36 rfl (lv_at hl 1 rfl) ?_
        refine lv_icmp_ge (tgt := 63) hx hb d_F_pass_37 (by decide) (fun hc => ?_) (fun hc => ?_)
        · have hf := z_t hc hf
          obtain rfl := Option.some.inj hf
          exact kt0 _ _ _ ls (lv_sub hl [0, 1, 2] rfl) hP hD hS hN_O hN_C hN_CA hN_I hN_IA hw
        · have hf := z_f hc hf
          refine lv_aload_n hx hb d_F_pass_40 rfl (lv_at hl 0 rfl) ?_
          refine gf_F_78 (v := .ref aI) hx hb hts hown hK hP hN_O rfl d_F_pass_41 ?_
          refine lv_aload_n hx hb d_F_pass_44 rfl (lv_at hl 0 rfl) ?_
          refine gf_F_74 (v := .ref aC) hx hb hts hown hK hP hN_O rfl d_F_pass_45 ?_
          refine lv_iload_n hx hb d_F_pass_48 rfl (lv_at hl 2 rfl) ?_
          obtain ⟨q38, hc, hf⟩ := z_b hf
          refine vp_callSi (z_cr (va_runV (As := [.int v2_34]) (rest := [.ref aI]) ⟨hx, hb, hml, hown, hts⟩ (c_B_byteOf l dC dI cI cL v2_34 hN_C hN_CA q38 hc) (cw_F_152 hts ⟨Nat.le_of_ble_eq_true rfl, Nat.le_of_ble_eq_true rfl⟩) ⟨zbR, va_recv hK hP (ci := 6) rfl hN_C, (zpR hP hK hZ)⟩ rfl rfl hl.1 rfl (lv_room (Nat.le_of_ble_eq_true rfl)) d_F_pass_49 ⟨Nat.zero_le _, Nat.zero_le _⟩)) (fun r39 hv => ?_)
          have hv := hv.symm
          subst hv
          refine lv_bipush (v := 8) hx hb d_F_pass_52 (by decide) ?_
          obtain ⟨q40, hc, hf⟩ := z_b hf
          have hFc := z_free hD hS hA
          refine va_callv (va_runV (As := [.int q38, .int (8 : Int32)]) (rest := []) ⟨hx, hb, hml, hown, hts⟩ (c_B_append l dC dI cI cL _ q38 (8 : Int32) hN_I hN_IA (by decide) q40 hc) (cw_F_129 hts ⟨Nat.le_of_ble_eq_true rfl, Nat.le_of_ble_eq_true rfl⟩) ⟨zbM, va_recv hK hP (ci := 6) rfl hN_I, (zpM hP hK hZ hD)⟩ rfl rfl hl.1 rfl (lv_room (Nat.le_of_ble_eq_true rfl)) d_F_pass_54 ⟨Nat.zero_le _, Nat.zero_le _⟩) hS (fun q _ h => hFc q h) hFc (fun ws t H locs ht hvm hu hB hz1 hk1 hS => ?_)
          obtain ⟨hN_I, hN_IA, hfr⟩ := hu
          obtain ⟨hP, -, hD1⟩ := hB
          rw [ht] at hP
          have hD := hD1.weaken (fun _ _ _ h => hFc _ h)
          have hN_I : zA ws 19 (aI, .inr (6, [.ref aIA, .int q40.1, .int I_taken])) := hN_I
          have hN_IA : zA ws 20 (aIA, .inl (cI, IA_n, .inl q40.2)) := hN_IA
          have hN_O := (hfr _ (by decide)).trans hN_O
          have hN_C := (hfr _ (by decide)).trans hN_C
          have hN_CA := (hfr _ (by decide)).trans hN_CA
          have hw := z_frC (by decide) hw hfr
          refine lv_iinc (v := (v2_34 + 1)) (lv' := [(2, .int (v2_34 + 1)), (0, .ref aO), (1, .int q26)]) hx hb d_F_pass_57 hl (k := 2) rfl rfl (by decide) rfl (fun ls hl => ?_)
          refine lv_goto (tgt := 35) hx hb d_F_pass_60 (by decide) ?_
          exact ih (v2_34 + 1) q40.1 q40.2 _ _ _ ls _ hf (lv_sub hl [1, 2, 0] rfl) hP hD hS hN_O hN_C hN_CA hN_I hN_IA hw kt0
    obtain ⟨q33, hc, hf⟩ := z_b hf
    refine lp37 _ FU (0 : Int32) I_filled IA_f _ _ _ ls q33 hc (lv_sub hl [2, 1, 0] rfl) hP hD hS hN_O hN_C hN_CA hN_I hN_IA hw (fun ws H locs ls hl hP hD hS hN_O hN_C hN_CA hN_I hN_IA hw => ?_)
    refine lv_aload_n hx hb d_F_pass_63 rfl (lv_at hl 0 rfl) ?_
    refine gf_F_78 (v := .ref aI) hx hb hts hown hK hP hN_O rfl d_F_pass_64 ?_
    obtain ⟨q41, hc, hf⟩ := z_b hf
    refine vp_callSi (z_cr (va_runV (As := []) (rest := []) ⟨hx, hb, hml, hown, hts⟩ (c_B_bytes l dC dI cI cL hN_I q41 hc) (cw_F_146 hts ⟨Nat.le_of_ble_eq_true rfl, Nat.le_of_ble_eq_true rfl⟩) ⟨zbR, va_recv hK hP (ci := 6) rfl hN_I, (zpR hP hK hZ)⟩ rfl rfl hl.1 rfl (lv_room (Nat.le_of_ble_eq_true rfl)) d_F_pass_67 ⟨Nat.zero_le _, Nat.zero_le _⟩)) (fun r42 hv => ?_)
    have hv := hv.symm
    subst hv
    obtain rfl := Option.some.inj hf
    exact z_iretT hx hb hr hlocks (fun t ht hW => ⟨Or.inl ⟨_, ws, rfl, ⟨_, rfl, rfl, hN_I, hN_IA, hw⟩, by rw [ht]; exact hP, va_K.moved hW.alike hK, hD⟩, hS.F ht⟩) hS.2.2 d_F_pass_70 (Nat.zero_le _) (Nat.zero_le _)
  · have hf := z_f hc hf
    obtain rfl := Option.some.inj hf
    exact z_throw (own := "FractalMaps") (cls := "java/lang/UnsupportedOperationException") (tx := "more bytes would wait than may") (names := exNames) (k := 4) hfl hx hb hml hl.1 hlocks hown hout hts hX hP hK hD hA (by decide +kernel) (by decide +kernel) oa_161 k_648 k_649 k_51 (by decide +kernel) rfl rfl d_F_pass_23 d_F_pass_26 d_F_pass_27 d_F_pass_29 d_F_pass_32 (Nat.le_of_ble_eq_true rfl) (Nat.le_of_ble_eq_true rfl) (Nat.le_of_ble_eq_true rfl) (Nat.le_of_ble_eq_true rfl)
def f_F_at (x1 : Int32) (x2 : Int32) (N_side : Int32) (NA_n : Nat) (NA_f : Nat → Int32) : Option (Nat ⊕ (Int32)) := (f_G_has x1 x2 N_side).bind (fun q43 => if q43 = 0 then (some (.inl 1)) else ((f_G_sample x1 x2 N_side NA_n NA_f).bind (fun q45 => some (.inr q45))))
set_option maxHeartbeats 4000000 in
set_option maxRecDepth 100000 in
theorem c_F_at (l : Launch) (hfl : l.flags = pinnedFlags ++ [noTraceFlag]) (dC : Nat → ClassId) (dI : Nat → Nat → Nat) (cI cL : ClassId) {ws0 : va_W} (sz : Nat) {aO aP aN aH aV aS aK aT aC aI aNA : Nat} {O_side N_mostSide N_side : Int32} {NA_n : Nat} {NA_f : Nat → Int32} (x1 : Int32) (x2 : Int32) (hN_O : zA ws0 0 (aO, .inr (0, [.int O_side, .ref aP, .ref aN, .ref aH, .ref aV, .ref aS, .ref aK, .ref aT, .ref aC, .ref aI]))) (hN_N : zA ws0 3 (aN, .inr (1, [.int N_mostSide, .ref aNA, .int N_side]))) (hN_NA : zA ws0 4 (aNA, .inl (cI, NA_n, .inl NA_f))) (r : Nat ⊕ (Int32)) (hf : f_F_at x1 x2 N_side NA_n NA_f = some r) : MetT l y_F_at w_F_at rm_F_at (va_Pc [.ref aO, .int x1, .int x2] (zMT dC dI cI cL ws0 sz)) (zX (fun (v : Int32) (ws' : va_W) => ∃ r1, r = .inr r1 ∧ v = r1 ∧ ∀ (j : Nat), j ∉ ([] : List Nat) → ws'[j]? = ws0[j]?) (fun k => r = .inl k) Value.int (zQ dC dI cI cL (va_A ws0 sz)) ws0 (va_A ws0 sz)) 1 6 (va_A ws0 sz) := by
  refine MetT.ofW (cc := b_F_at) (maxL := 3) (ret := some .int) (by decide) rfl ?_
  intro p e s m args below meth c s₁ B hml hv
  obtain ⟨rfl, hsz, hP, hK, hZ, hD0, hX⟩ := hv
  have hx := B.exec
  have hb := B.bytes
  have hr := B.returns
  have hlocks := B.notSynchronized
  have hts : ∀ w ∈ BIG, w.before ([.ref aO, .int x1, .int x2] : List Value).toArray s = true := fun w h => atoms_spec (ws := w_F_at) B.pre w (List.mem_cons_of_mem _ h)
  have hown : s.vm.findClass "FractalMaps" = some m.cls := findClass_of_methodNamed B.named
  have hout : c.exceptionTable.toList = [] := by simpa using B.noHandlers (atoms_spec (ws := w_F_at) B.pre _ List.mem_cons_self)
  subst hsz
  have hD := hD0.self (sz := s.heap.size)
  generalize hAe : va_A ws0 s.heap.size = A at hD ⊢
  have hA : ∀ q : Nat, s.heap.size ≤ q → A q := fun q h => by rw [← hAe]; exact Or.inr h
  have hS : va_S A s.heap s.heap [] := va_S.rf
  have hw : ∀ (j : Nat), j ∉ ([] : List Nat) → ws0[j]? = ws0[j]? := fun _ _ => rfl
  have hl := lv_entry ([.ref aO, .int x1, .int x2]) (n := 3) (Nat.le_of_ble_eq_true rfl)
  rw [lg_entry_eq]
  generalize (lg_sl ([.ref aO, .int x1, .int x2]) ++ List.replicate (3 - (lg_sl ([.ref aO, .int x1, .int x2])).length) Slot.unset).toArray = ls at hl ⊢
  have hl : lv_has ls 3 [(0, .ref aO), (1, .int x1), (2, .int x2)] := hl
  unfold f_F_at at hf
  refine lv_aload_n hx hb d_F_at_0 rfl (lv_at hl 0 rfl) ?_
  refine gf_F_31 (v := .ref aN) hx hb hts hown hK hP hN_O rfl d_F_at_1 ?_
  refine lv_iload_n hx hb d_F_at_4 rfl (lv_at hl 1 rfl) ?_
  refine lv_iload_n hx hb d_F_at_5 rfl (lv_at hl 2 rfl) ?_
  obtain ⟨q43, hc, hf⟩ := z_b hf
  refine vp_callSi (z_cr (va_runV (As := [.int x1, .int x2]) (rest := []) ⟨hx, hb, hml, hown, hts⟩ (c_G_has l dC dI cI cL x1 x2 hN_N q43 hc) (cw_F_81 hts ⟨Nat.le_of_ble_eq_true rfl, Nat.le_of_ble_eq_true rfl⟩) ⟨zbR, va_recv hK hP (ci := 1) rfl hN_N, (zpR hP hK hZ)⟩ rfl rfl hl.1 rfl (lv_room (Nat.le_of_ble_eq_true rfl)) d_F_at_6 ⟨Nat.zero_le _, Nat.zero_le _⟩)) (fun r44 hv => ?_)
  have hv := hv.symm
  subst hv
  refine lv_if_ne (tgt := 22) hx hb d_F_at_9 (by decide) (fun hc => ?_) (fun hc => ?_)
  · have hf := z_f hc hf
    refine lv_aload_n hx hb d_F_at_22 rfl (lv_at hl 0 rfl) ?_
    refine gf_F_31 (v := .ref aN) hx hb hts hown hK hP hN_O rfl d_F_at_23 ?_
    refine lv_iload_n hx hb d_F_at_26 rfl (lv_at hl 1 rfl) ?_
    refine lv_iload_n hx hb d_F_at_27 rfl (lv_at hl 2 rfl) ?_
    obtain ⟨q45, hc, hf⟩ := z_b hf
    refine vp_callSi (z_cr (va_runV (As := [.int x1, .int x2]) (rest := []) ⟨hx, hb, hml, hown, hts⟩ (c_G_sample l dC dI cI cL x1 x2 hN_N hN_NA q45 hc) (cw_F_97 hts ⟨Nat.le_of_ble_eq_true rfl, Nat.le_of_ble_eq_true rfl⟩) ⟨zbR, va_recv hK hP (ci := 1) rfl hN_N, (zpR hP hK hZ)⟩ rfl rfl hl.1 rfl (lv_room (Nat.le_of_ble_eq_true rfl)) d_F_at_28 ⟨Nat.zero_le _, Nat.zero_le _⟩)) (fun r46 hv => ?_)
    have hv := hv.symm
    subst hv
    obtain rfl := Option.some.inj hf
    exact z_iretT hx hb hr hlocks (fun t ht hW => ⟨Or.inl ⟨_, ws0, rfl, ⟨_, rfl, rfl, hw⟩, by rw [ht]; exact hP, va_K.moved hW.alike hK, hD⟩, hS.F ht⟩) hS.2.2 d_F_at_31 (Nat.zero_le _) (Nat.zero_le _)
  · have hf := z_t hc hf
    obtain rfl := Option.some.inj hf
    exact z_throw (own := "FractalMaps") (cls := "java/lang/IndexOutOfBoundsException") (tx := "no such sample was decoded") (names := exNames) (k := 1) hfl hx hb hml hl.1 hlocks hown hout hts hX hP hK hD hA (by decide +kernel) (by decide +kernel) oa_89 k_407 k_408 k_49 (by decide +kernel) rfl rfl d_F_at_12 d_F_at_15 d_F_at_16 d_F_at_18 d_F_at_21 (Nat.le_of_ble_eq_true rfl) (Nat.le_of_ble_eq_true rfl) (Nat.le_of_ble_eq_true rfl) (Nat.le_of_ble_eq_true rfl)
def f_F_missed_39 (p3 : Int32) (O_side : Int32) (P_side : Int32) (PA_n : Nat) (PA_f : Nat → Int32) (N_side : Int32) (NA_n : Nat) (NA_f : Nat → Int32) : Nat → Int64 → Int32 → Option (Int64 × Int32)
  | 0, _, _ => none
  | n + 1, v1, v4 => if O_side ≤ v4 then (some (v1, v4)) else ((f_G_sample v4 p3 P_side PA_n PA_f).bind (fun q47 => (f_G_sample v4 p3 N_side NA_n NA_f).bind (fun q49 => f_F_missed_39 p3 O_side P_side PA_n PA_f N_side NA_n NA_f n (v1 + ((q47 - q49).toInt64 * (q47 - q49).toInt64)) (v4 + 1))))
def f_F_missed_28 (O_side : Int32) (P_side : Int32) (PA_n : Nat) (PA_f : Nat → Int32) (N_side : Int32) (NA_n : Nat) (NA_f : Nat → Int32) : Nat → Int64 → Int32 → Option (Int64 × Int32)
  | 0, _, _ => none
  | n + 1, v1, v3 => if O_side ≤ v3 then (some (v1, v3)) else ((f_F_missed_39 v3 O_side P_side PA_n PA_f N_side NA_n NA_f FU v1 (0 : Int32)).bind (fun q51 => f_F_missed_28 O_side P_side PA_n PA_f N_side NA_n NA_f n q51.1 (v3 + 1)))
def f_F_missed (O_side : Int32) (P_side : Int32) (PA_n : Nat) (PA_f : Nat → Int32) (N_side : Int32) (NA_n : Nat) (NA_f : Nat → Int32) : Option (Nat ⊕ (Int64)) := if N_side = O_side then ((f_F_missed_28 O_side P_side PA_n PA_f N_side NA_n NA_f FU (0 : Int64) (0 : Int32)).bind (fun q59 => some (.inr q59.1))) else (some (.inl 3))
set_option maxHeartbeats 4000000 in
set_option maxRecDepth 100000 in
theorem c_F_missed (l : Launch) (hfl : l.flags = pinnedFlags ++ [noTraceFlag]) (dC : Nat → ClassId) (dI : Nat → Nat → Nat) (cI cL : ClassId) {ws0 : va_W} (sz : Nat) {aO aP aN aH aV aS aK aT aC aI aPA aNA : Nat} {O_side P_mostSide P_side N_mostSide N_side : Int32} {PA_n NA_n : Nat} {PA_f NA_f : Nat → Int32} (hN_O : zA ws0 0 (aO, .inr (0, [.int O_side, .ref aP, .ref aN, .ref aH, .ref aV, .ref aS, .ref aK, .ref aT, .ref aC, .ref aI]))) (hN_P : zA ws0 1 (aP, .inr (1, [.int P_mostSide, .ref aPA, .int P_side]))) (hN_PA : zA ws0 2 (aPA, .inl (cI, PA_n, .inl PA_f))) (hN_N : zA ws0 3 (aN, .inr (1, [.int N_mostSide, .ref aNA, .int N_side]))) (hN_NA : zA ws0 4 (aNA, .inl (cI, NA_n, .inl NA_f))) (r : Nat ⊕ (Int64)) (hf : f_F_missed O_side P_side PA_n PA_f N_side NA_n NA_f = some r) : MetT l y_F_missed w_F_missed rm_F_missed (va_Pc [.ref aO] (zMT dC dI cI cL ws0 sz)) (zX (fun (v : Int64) (ws' : va_W) => ∃ r1, r = .inr r1 ∧ v = r1 ∧ ∀ (j : Nat), j ∉ ([] : List Nat) → ws'[j]? = ws0[j]?) (fun k => r = .inl k) Value.long (zQ dC dI cI cL (va_A ws0 sz)) ws0 (va_A ws0 sz)) 1 6 (va_A ws0 sz) := by
  refine MetT.ofW (cc := b_F_missed) (maxL := 7) (ret := some .long) (by decide) rfl ?_
  intro p e s m args below meth c s₁ B hml hv
  obtain ⟨rfl, hsz, hP, hK, hZ, hD0, hX⟩ := hv
  have hx := B.exec
  have hb := B.bytes
  have hr := B.returns
  have hlocks := B.notSynchronized
  have hts : ∀ w ∈ BIG, w.before ([.ref aO] : List Value).toArray s = true := fun w h => atoms_spec (ws := w_F_missed) B.pre w (List.mem_cons_of_mem _ h)
  have hown : s.vm.findClass "FractalMaps" = some m.cls := findClass_of_methodNamed B.named
  have hout : c.exceptionTable.toList = [] := by simpa using B.noHandlers (atoms_spec (ws := w_F_missed) B.pre _ List.mem_cons_self)
  subst hsz
  have hD := hD0.self (sz := s.heap.size)
  generalize hAe : va_A ws0 s.heap.size = A at hD ⊢
  have hA : ∀ q : Nat, s.heap.size ≤ q → A q := fun q h => by rw [← hAe]; exact Or.inr h
  have hS : va_S A s.heap s.heap [] := va_S.rf
  have hw : ∀ (j : Nat), j ∉ ([] : List Nat) → ws0[j]? = ws0[j]? := fun _ _ => rfl
  have hl := lv_entry ([.ref aO]) (n := 7) (Nat.le_of_ble_eq_true rfl)
  rw [lg_entry_eq]
  generalize (lg_sl ([.ref aO]) ++ List.replicate (7 - (lg_sl ([.ref aO])).length) Slot.unset).toArray = ls at hl ⊢
  have hl : lv_has ls 7 [(0, .ref aO)] := hl
  unfold f_F_missed at hf
  refine lv_aload_n hx hb d_F_missed_0 rfl (lv_at hl 0 rfl) ?_
  refine gf_F_31 (v := .ref aN) hx hb hts hown hK hP hN_O rfl d_F_missed_1 ?_
  refine gf_F_185 (v := .int N_side) hx hb hts hown hK hZ hP hN_N rfl d_F_missed_4 ?_
  refine lv_aload_n hx hb d_F_missed_7 rfl (lv_at hl 0 rfl) ?_
  refine gf_F_16 (v := .int O_side) hx hb hts hown hK hP hN_O rfl d_F_missed_8 ?_
  refine lv_icmp_eq (tgt := 24) hx hb d_F_missed_11 (by decide) (fun hc => ?_) (fun hc => ?_)
  · have hf := z_t hc hf
    refine lv_lconst (v := 0) hx hb d_F_missed_24 (by decide) ?_
    refine lv_lstore_n (lv' := [(1, .long (0 : Int64)), (0, .ref aO)]) hx hb d_F_missed_25 rfl hl (by decide) rfl (fun ls hl => ?_)
    refine lv_iconst (v := 0) hx hb d_F_missed_26 (by decide) ?_
    refine lv_istore_n (lv' := [(3, .int (0 : Int32)), (1, .long (0 : Int64)), (0, .ref aO)]) hx hb d_F_missed_27 rfl hl (by decide) rfl (fun ls hl => ?_)
    have lp62 : ∀ (Qx : State → Prop) (n : Nat) (v1_60 : Int64) (v3_61 : Int32) (ls : Array Slot) (q : Int64 × Int32) (hf : f_F_missed_28 O_side P_side PA_n PA_f N_side NA_n NA_f n v1_60 v3_61 = some q) (hl : lv_has ls 7 [(0, .ref aO), (1, .long v1_60), (3, .int v3_61)]) (kt0 : ∀ (ls : Array Slot), lv_has ls 7 [(0, .ref aO), (1, .long q.1), (3, .int q.2)] → W p l e (headSpec w_F_missed rm_F_missed).room s m ([.ref aO] : List Value).toArray below meth c s.heap [] 0 0 Qx (F0 m 92 ls [])), W p l e (headSpec w_F_missed rm_F_missed).room s m ([.ref aO] : List Value).toArray below meth c s.heap [] 0 0 Qx (F0 m 28 ls []) := by
      intro Qx n
      induction n with
      | zero => intro v1_60 v3_61 ls q hf; cases hf
      | succ n ih =>
        intro v1_60 v3_61 ls q hf hl kt0
        rw [f_F_missed_28] at hf
        refine lv_iload_n hx hb d_F_missed_28 rfl (lv_at hl 2 rfl) ?_
        refine lv_aload_n hx hb d_F_missed_29 rfl (lv_at hl 0 rfl) ?_
        refine gf_F_16 (v := .int O_side) hx hb hts hown hK hP hN_O rfl d_F_missed_30 ?_
        refine lv_icmp_ge (tgt := 92) hx hb d_F_missed_33 (by decide) (fun hc => ?_) (fun hc => ?_)
        · have hf := z_t hc hf
          obtain rfl := Option.some.inj hf
          exact kt0 ls (lv_sub hl [0, 1, 2] rfl)
        · have hf := z_f hc hf
          refine lv_iconst (v := 0) hx hb d_F_missed_36 (by decide) ?_
          refine lv_istore (lv' := [(4, .int (0 : Int32)), (0, .ref aO), (1, .long v1_60), (3, .int v3_61)]) hx hb d_F_missed_37 hl (by decide) rfl (fun ls hl => ?_)
          have lp66 : ∀ (Qx : State → Prop) (n : Nat) (v1_64 : Int64) (v4_65 : Int32) (ls : Array Slot) (q : Int64 × Int32) (hf : f_F_missed_39 v3_61 O_side P_side PA_n PA_f N_side NA_n NA_f n v1_64 v4_65 = some q) (hl : lv_has ls 7 [(0, .ref aO), (1, .long v1_64), (3, .int v3_61), (4, .int v4_65)]) (kt0 : ∀ (ls : Array Slot), lv_has ls 7 [(0, .ref aO), (1, .long q.1), (3, .int v3_61), (4, .int q.2)] → W p l e (headSpec w_F_missed rm_F_missed).room s m ([.ref aO] : List Value).toArray below meth c s.heap [] 0 0 Qx (F0 m 86 ls [])), W p l e (headSpec w_F_missed rm_F_missed).room s m ([.ref aO] : List Value).toArray below meth c s.heap [] 0 0 Qx (F0 m 39 ls []) := by
            intro Qx n
            induction n with
            | zero => intro v1_64 v4_65 ls q hf; cases hf
            | succ n ih =>
              intro v1_64 v4_65 ls q hf hl kt0
              rw [f_F_missed_39] at hf
              refine lv_iload hx hb d_F_missed_39 (lv_at hl 3 rfl) ?_
              refine lv_aload_n hx hb d_F_missed_41 rfl (lv_at hl 0 rfl) ?_
              refine gf_F_16 (v := .int O_side) hx hb hts hown hK hP hN_O rfl d_F_missed_42 ?_
              refine lv_icmp_ge (tgt := 86) hx hb d_F_missed_45 (by decide) (fun hc => ?_) (fun hc => ?_)
              · have hf := z_t hc hf
                obtain rfl := Option.some.inj hf
                exact kt0 ls (lv_sub hl [0, 1, 2, 3] rfl)
              · have hf := z_f hc hf
                refine lv_aload_n hx hb d_F_missed_48 rfl (lv_at hl 0 rfl) ?_
                refine gf_F_27 (v := .ref aP) hx hb hts hown hK hP hN_O rfl d_F_missed_49 ?_
                refine lv_iload hx hb d_F_missed_52 (lv_at hl 3 rfl) ?_
                refine lv_iload_n hx hb d_F_missed_54 rfl (lv_at hl 2 rfl) ?_
                obtain ⟨q67, hc, hf⟩ := z_b hf
                refine vp_callSi (z_cr (va_runV (As := [.int v4_65, .int v3_61]) (rest := []) ⟨hx, hb, hml, hown, hts⟩ (c_G_sample l dC dI cI cL v4_65 v3_61 hN_P hN_PA q67 hc) (cw_F_97 hts ⟨Nat.le_of_ble_eq_true rfl, Nat.le_of_ble_eq_true rfl⟩) ⟨zbR, va_recv hK hP (ci := 1) rfl hN_P, (zpR hP hK hZ)⟩ rfl rfl hl.1 rfl (lv_room (Nat.le_of_ble_eq_true rfl)) d_F_missed_55 ⟨Nat.zero_le _, Nat.zero_le _⟩)) (fun r68 hv => ?_)
                have hv := hv.symm
                subst hv
                refine lv_aload_n hx hb d_F_missed_58 rfl (lv_at hl 0 rfl) ?_
                refine gf_F_31 (v := .ref aN) hx hb hts hown hK hP hN_O rfl d_F_missed_59 ?_
                refine lv_iload hx hb d_F_missed_62 (lv_at hl 3 rfl) ?_
                refine lv_iload_n hx hb d_F_missed_64 rfl (lv_at hl 2 rfl) ?_
                obtain ⟨q69, hc, hf⟩ := z_b hf
                refine vp_callSi (z_cr (va_runV (As := [.int v4_65, .int v3_61]) (rest := [.int q67]) ⟨hx, hb, hml, hown, hts⟩ (c_G_sample l dC dI cI cL v4_65 v3_61 hN_N hN_NA q69 hc) (cw_F_97 hts ⟨Nat.le_of_ble_eq_true rfl, Nat.le_of_ble_eq_true rfl⟩) ⟨zbR, va_recv hK hP (ci := 1) rfl hN_N, (zpR hP hK hZ)⟩ rfl rfl hl.1 rfl (lv_room (Nat.le_of_ble_eq_true rfl)) d_F_missed_65 ⟨Nat.zero_le _, Nat.zero_le _⟩)) (fun r70 hv => ?_)
                have hv := hv.symm
                subst hv
                refine lv_isub hx hb d_F_missed_68 ?_
                refine lv_i2l hx hb d_F_missed_69 rfl ?_
                refine lv_lstore (lv' := [(5, .long ((q67 - q69).toInt64)), (0, .ref aO), (1, .long v1_64), (3, .int v3_61), (4, .int v4_65)]) hx hb d_F_missed_70 hl (by decide) rfl (fun ls hl => ?_)
                refine lv_lload_n hx hb d_F_missed_72 rfl (lv_at hl 2 rfl) ?_
                refine lv_lload hx hb d_F_missed_73 (lv_at hl 0 rfl) ?_
                refine lv_lload hx hb d_F_missed_75 (lv_at hl 0 rfl) ?_
                refine lv_lmul hx hb d_F_missed_77 ?_
                refine lv_ladd hx hb d_F_missed_78 ?_
                refine lv_lstore_n (lv' := [(1, .long (v1_64 + ((q67 - q69).toInt64 * (q67 - q69).toInt64))), (5, .long ((q67 - q69).toInt64)), (0, .ref aO), (3, .int v3_61), (4, .int v4_65)]) hx hb d_F_missed_79 rfl hl (by decide) rfl (fun ls hl => ?_)
                refine lv_iinc (v := (v4_65 + 1)) (lv' := [(4, .int (v4_65 + 1)), (1, .long (v1_64 + ((q67 - q69).toInt64 * (q67 - q69).toInt64))), (5, .long ((q67 - q69).toInt64)), (0, .ref aO), (3, .int v3_61)]) hx hb d_F_missed_80 hl (k := 4) rfl rfl (by decide) rfl (fun ls hl => ?_)
                refine lv_goto (tgt := 39) hx hb d_F_missed_83 (by decide) ?_
                exact ih (v1_64 + ((q67 - q69).toInt64 * (q67 - q69).toInt64)) (v4_65 + 1) ls _ hf (lv_sub hl [3, 1, 4, 0] rfl) kt0
          obtain ⟨q63, hc, hf⟩ := z_b hf
          refine lp66 _ FU v1_60 (0 : Int32) ls q63 hc (lv_sub hl [1, 2, 3, 0] rfl) (fun ls hl => ?_)
          refine lv_iinc (v := (v3_61 + 1)) (lv' := [(3, .int (v3_61 + 1)), (0, .ref aO), (1, .long q63.1), (4, .int q63.2)]) hx hb d_F_missed_86 hl (k := 2) rfl rfl (by decide) rfl (fun ls hl => ?_)
          refine lv_goto (tgt := 28) hx hb d_F_missed_89 (by decide) ?_
          exact ih q63.1 (v3_61 + 1) ls _ hf (lv_sub hl [1, 2, 0] rfl) kt0
    obtain ⟨q59, hc, hf⟩ := z_b hf
    refine lp62 _ FU (0 : Int64) (0 : Int32) ls q59 hc (lv_sub hl [2, 1, 0] rfl) (fun ls hl => ?_)
    refine lv_lload_n hx hb d_F_missed_92 rfl (lv_at hl 1 rfl) ?_
    obtain rfl := Option.some.inj hf
    exact z_lretT hx hb hr hlocks (fun t ht hW => ⟨Or.inl ⟨_, ws0, rfl, ⟨_, rfl, rfl, hw⟩, by rw [ht]; exact hP, va_K.moved hW.alike hK, hD⟩, hS.F ht⟩) hS.2.2 d_F_missed_93 (Nat.zero_le _) (Nat.zero_le _)
  · have hf := z_f hc hf
    obtain rfl := Option.some.inj hf
    exact z_throw (own := "FractalMaps") (cls := "java/lang/IllegalStateException") (tx := "the latest decoding was at size 1, or there is none") (names := exNames) (k := 3) hfl hx hb hml hl.1 hlocks hown hout hts hX hP hK hD hA (by decide +kernel) (by decide +kernel) oa_176 k_682 k_683 k_52 (by decide +kernel) rfl rfl d_F_missed_14 d_F_missed_17 d_F_missed_18 d_F_missed_20 d_F_missed_23 (Nat.le_of_ble_eq_true rfl) (Nat.le_of_ble_eq_true rfl) (Nat.le_of_ble_eq_true rfl) (Nat.le_of_ble_eq_true rfl)
def f_F_isSize (x1 : Int32) : Option (Int32) := if x1 = (2 : Int32) then (some (1 : Int32)) else (if x1 = (4 : Int32) then (some (1 : Int32)) else (if x1 = (8 : Int32) then (some (1 : Int32)) else (if x1 = (16 : Int32) then (some (1 : Int32)) else (some (0 : Int32)))))
set_option maxHeartbeats 4000000 in
set_option maxRecDepth 100000 in
theorem c_F_isSize (l : Launch) (x1 : Int32) (r : Int32) (hf : f_F_isSize x1 = some r) : Met l y_F_isSize w_F_isSize rm_F_isSize (va_Pc [.int x1] (fun _ => True)) (vp_Si (fun v => v = r)) 0 0 (fun _ => False) := by
  refine Met.ofW (cc := b_F_isSize) (maxL := 1) (ret := some .boolean) (by decide) rfl ?_
  intro p e s m args below meth c s₁ B hml hv
  obtain ⟨rfl, -⟩ := hv
  have hx := B.exec
  have hb := B.bytes
  have hr := B.returns
  have hlocks := B.notSynchronized
  have hts : ∀ w ∈ BIG, w.before ([.int x1] : List Value).toArray s = true := fun w h => atoms_spec (ws := w_F_isSize) B.pre w (List.mem_cons_of_mem _ h)
  have hown : s.vm.findClass "FractalMaps" = some m.cls := findClass_of_methodNamed B.named
  have hl := lv_entry ([.int x1]) (n := 1) (Nat.le_of_ble_eq_true rfl)
  rw [lg_entry_eq]
  generalize (lg_sl ([.int x1]) ++ List.replicate (1 - (lg_sl ([.int x1])).length) Slot.unset).toArray = ls at hl ⊢
  have hl : lv_has ls 1 [(0, .int x1)] := hl
  unfold f_F_isSize at hf
  refine lv_iload_n hx hb d_F_isSize_0 rfl (lv_at hl 0 rfl) ?_
  refine lv_iconst (v := 2) hx hb d_F_isSize_1 (by decide) ?_
  refine lv_icmp_eq (tgt := 22) hx hb d_F_isSize_2 (by decide) (fun hc => ?_) (fun hc => ?_)
  · have hf := z_t hc hf
    refine lv_iconst (v := 1) hx hb d_F_isSize_22 (by decide) ?_
    refine lv_goto (tgt := 27) hx hb d_F_isSize_23 (by decide) ?_
    obtain rfl := Option.some.inj hf
    exact W.zret (ty := .boolean) hx hb hr (by decide) (fun t ht hW => ⟨_, rfl, rfl, ht⟩) (fun q h => by cases h) d_F_isSize_27
  · have hf := z_f hc hf
    refine lv_iload_n hx hb d_F_isSize_5 rfl (lv_at hl 0 rfl) ?_
    refine lv_iconst (v := 4) hx hb d_F_isSize_6 (by decide) ?_
    refine lv_icmp_eq (tgt := 22) hx hb d_F_isSize_7 (by decide) (fun hc => ?_) (fun hc => ?_)
    · have hf := z_t hc hf
      refine lv_iconst (v := 1) hx hb d_F_isSize_22 (by decide) ?_
      refine lv_goto (tgt := 27) hx hb d_F_isSize_23 (by decide) ?_
      obtain rfl := Option.some.inj hf
      exact W.zret (ty := .boolean) hx hb hr (by decide) (fun t ht hW => ⟨_, rfl, rfl, ht⟩) (fun q h => by cases h) d_F_isSize_27
    · have hf := z_f hc hf
      refine lv_iload_n hx hb d_F_isSize_10 rfl (lv_at hl 0 rfl) ?_
      refine lv_bipush (v := 8) hx hb d_F_isSize_11 (by decide) ?_
      refine lv_icmp_eq (tgt := 22) hx hb d_F_isSize_13 (by decide) (fun hc => ?_) (fun hc => ?_)
      · have hf := z_t hc hf
        refine lv_iconst (v := 1) hx hb d_F_isSize_22 (by decide) ?_
        refine lv_goto (tgt := 27) hx hb d_F_isSize_23 (by decide) ?_
        obtain rfl := Option.some.inj hf
        exact W.zret (ty := .boolean) hx hb hr (by decide) (fun t ht hW => ⟨_, rfl, rfl, ht⟩) (fun q h => by cases h) d_F_isSize_27
      · have hf := z_f hc hf
        refine lv_iload_n hx hb d_F_isSize_16 rfl (lv_at hl 0 rfl) ?_
        refine lv_bipush (v := 16) hx hb d_F_isSize_17 (by decide) ?_
        refine lv_icmp_ne (tgt := 26) hx hb d_F_isSize_19 (by decide) (fun hc => ?_) (fun hc => ?_)
        · have hf := z_f hc hf
          refine lv_iconst (v := 0) hx hb d_F_isSize_26 (by decide) ?_
          obtain rfl := Option.some.inj hf
          exact W.zret (ty := .boolean) hx hb hr (by decide) (fun t ht hW => ⟨_, rfl, rfl, ht⟩) (fun q h => by cases h) d_F_isSize_27
        · have hf := z_t hc hf
          refine lv_iconst (v := 1) hx hb d_F_isSize_22 (by decide) ?_
          refine lv_goto (tgt := 27) hx hb d_F_isSize_23 (by decide) ?_
          obtain rfl := Option.some.inj hf
          exact W.zret (ty := .boolean) hx hb hr (by decide) (fun t ht hW => ⟨_, rfl, rfl, ht⟩) (fun q h => by cases h) d_F_isSize_27
def f_F_acrossOf (x1 : Int32) : Option (Int32) := some (x1 &&& (1 : Int32))
set_option maxHeartbeats 4000000 in
set_option maxRecDepth 100000 in
theorem c_F_acrossOf (l : Launch) (x1 : Int32) (r : Int32) (hf : f_F_acrossOf x1 = some r) : Met l y_F_acrossOf w_F_acrossOf rm_F_acrossOf (va_Pc [.int x1] (fun _ => True)) (vp_Si (fun v => v = r)) 0 0 (fun _ => False) := by
  refine Met.ofW (cc := b_F_acrossOf) (maxL := 1) (ret := some .int) (by decide) rfl ?_
  intro p e s m args below meth c s₁ B hml hv
  obtain ⟨rfl, -⟩ := hv
  have hx := B.exec
  have hb := B.bytes
  have hr := B.returns
  have hlocks := B.notSynchronized
  have hts : ∀ w ∈ BIG, w.before ([.int x1] : List Value).toArray s = true := fun w h => atoms_spec (ws := w_F_acrossOf) B.pre w (List.mem_cons_of_mem _ h)
  have hown : s.vm.findClass "FractalMaps" = some m.cls := findClass_of_methodNamed B.named
  have hl := lv_entry ([.int x1]) (n := 1) (Nat.le_of_ble_eq_true rfl)
  rw [lg_entry_eq]
  generalize (lg_sl ([.int x1]) ++ List.replicate (1 - (lg_sl ([.int x1])).length) Slot.unset).toArray = ls at hl ⊢
  have hl : lv_has ls 1 [(0, .int x1)] := hl
  unfold f_F_acrossOf at hf
  refine lv_iload_n hx hb d_F_acrossOf_0 rfl (lv_at hl 0 rfl) ?_
  refine lv_iconst (v := 1) hx hb d_F_acrossOf_1 (by decide) ?_
  refine lv_iand hx hb d_F_acrossOf_2 ?_
  obtain rfl := Option.some.inj hf
  exact W.iret hx hb hr (fun t ht hW => ⟨_, rfl, rfl, ht⟩) (fun q h => by cases h) d_F_acrossOf_3
def f_F_downOf (x1 : Int32) : Option (Int32) := some (x1 >>> ((1 : Int32) &&& 31))
set_option maxHeartbeats 4000000 in
set_option maxRecDepth 100000 in
theorem c_F_downOf (l : Launch) (x1 : Int32) (r : Int32) (hf : f_F_downOf x1 = some r) : Met l y_F_downOf w_F_downOf rm_F_downOf (va_Pc [.int x1] (fun _ => True)) (vp_Si (fun v => v = r)) 0 0 (fun _ => False) := by
  refine Met.ofW (cc := b_F_downOf) (maxL := 1) (ret := some .int) (by decide) rfl ?_
  intro p e s m args below meth c s₁ B hml hv
  obtain ⟨rfl, -⟩ := hv
  have hx := B.exec
  have hb := B.bytes
  have hr := B.returns
  have hlocks := B.notSynchronized
  have hts : ∀ w ∈ BIG, w.before ([.int x1] : List Value).toArray s = true := fun w h => atoms_spec (ws := w_F_downOf) B.pre w (List.mem_cons_of_mem _ h)
  have hown : s.vm.findClass "FractalMaps" = some m.cls := findClass_of_methodNamed B.named
  have hl := lv_entry ([.int x1]) (n := 1) (Nat.le_of_ble_eq_true rfl)
  rw [lg_entry_eq]
  generalize (lg_sl ([.int x1]) ++ List.replicate (1 - (lg_sl ([.int x1])).length) Slot.unset).toArray = ls at hl ⊢
  have hl : lv_has ls 1 [(0, .int x1)] := hl
  unfold f_F_downOf at hf
  refine lv_iload_n hx hb d_F_downOf_0 rfl (lv_at hl 0 rfl) ?_
  refine lv_iconst (v := 1) hx hb d_F_downOf_1 (by decide) ?_
  refine lv_ishr hx hb d_F_downOf_2 ?_
  obtain rfl := Option.some.inj hf
  exact W.iret hx hb hr (fun t ht hW => ⟨_, rfl, rfl, ht⟩) (fun q h => by cases h) d_F_downOf_3
def f_G_sum_15 (p1 : Int32) (p2 : Int32) (p3 : Int32) (p5 : Int32) (G_side : Int32) (GA_n : Nat) (GA_f : Nat → Int32) : Nat → Int32 → Int32 → Option (Int32 × Int32)
  | 0, _, _ => none
  | n + 1, v4, v6 => if p3 ≤ v6 then (some (v4, v6)) else ((f_G_sample (p1 + v6) (p2 + p5) G_side GA_n GA_f).bind (fun q71 => f_G_sum_15 p1 p2 p3 p5 G_side GA_n GA_f n (v4 + q71) (v6 + 1)))
def f_G_sum_6 (p1 : Int32) (p2 : Int32) (p3 : Int32) (G_side : Int32) (GA_n : Nat) (GA_f : Nat → Int32) : Nat → Int32 → Int32 → Option (Int32 × Int32)
  | 0, _, _ => none
  | n + 1, v4, v5 => if p3 ≤ v5 then (some (v4, v5)) else ((f_G_sum_15 p1 p2 p3 v5 G_side GA_n GA_f FU v4 (0 : Int32)).bind (fun q73 => f_G_sum_6 p1 p2 p3 G_side GA_n GA_f n q73.1 (v5 + 1)))
def f_G_sum (x1 : Int32) (x2 : Int32) (x3 : Int32) (G_side : Int32) (GA_n : Nat) (GA_f : Nat → Int32) : Option (Int32) := (f_G_sum_6 x1 x2 x3 G_side GA_n GA_f FU (0 : Int32) (0 : Int32)).bind (fun q79 => some q79.1)
set_option maxHeartbeats 4000000 in
set_option maxRecDepth 100000 in
theorem c_G_sum (l : Launch) (dC : Nat → ClassId) (dI : Nat → Nat → Nat) (cI cL : ClassId) {ws : va_W} {kG kGA aG aGA : Nat} {G_mostSide G_side : Int32} {GA_n : Nat} {GA_f : Nat → Int32} (x1 : Int32) (x2 : Int32) (x3 : Int32) (hN_G : zA ws kG (aG, .inr (1, [.int G_mostSide, .ref aGA, .int G_side]))) (hN_GA : zA ws kGA (aGA, .inl (cI, GA_n, .inl GA_f))) (r : Int32) (hf : f_G_sum x1 x2 x3 G_side GA_n GA_f = some r) : Met l y_G_sum w_G_sum rm_G_sum (va_Pc [.ref aG, .int x1, .int x2, .int x3] (zR dC dI cI cL ws)) (vp_Si (fun v => v = r)) 0 0 (fun _ => False) := by
  refine Met.ofW (cc := b_G_sum) (maxL := 7) (ret := some .int) (by decide) rfl ?_
  intro p e s m args below meth c s₁ B hml hv
  obtain ⟨rfl, hP, hK, hZ⟩ := hv
  have hx := B.exec
  have hb := B.bytes
  have hr := B.returns
  have hlocks := B.notSynchronized
  have hts : ∀ w ∈ BIG, w.before ([.ref aG, .int x1, .int x2, .int x3] : List Value).toArray s = true := fun w h => atoms_spec (ws := w_G_sum) B.pre w (List.mem_cons_of_mem _ h)
  have hown : s.vm.findClass "FractalMaps$Grid" = some m.cls := findClass_of_methodNamed B.named
  have hl := lv_entry ([.ref aG, .int x1, .int x2, .int x3]) (n := 7) (Nat.le_of_ble_eq_true rfl)
  rw [lg_entry_eq]
  generalize (lg_sl ([.ref aG, .int x1, .int x2, .int x3]) ++ List.replicate (7 - (lg_sl ([.ref aG, .int x1, .int x2, .int x3])).length) Slot.unset).toArray = ls at hl ⊢
  have hl : lv_has ls 7 [(0, .ref aG), (1, .int x1), (2, .int x2), (3, .int x3)] := hl
  unfold f_G_sum at hf
  refine lv_iconst (v := 0) hx hb d_G_sum_0 (by decide) ?_
  refine lv_istore (lv' := [(4, .int (0 : Int32)), (0, .ref aG), (1, .int x1), (2, .int x2), (3, .int x3)]) hx hb d_G_sum_1 hl (by decide) rfl (fun ls hl => ?_)
  refine lv_iconst (v := 0) hx hb d_G_sum_3 (by decide) ?_
  refine lv_istore (lv' := [(5, .int (0 : Int32)), (4, .int (0 : Int32)), (0, .ref aG), (1, .int x1), (2, .int x2), (3, .int x3)]) hx hb d_G_sum_4 hl (by decide) rfl (fun ls hl => ?_)
  have lp82 : ∀ (Qx : State → Prop) (n : Nat) (v4_80 : Int32) (v5_81 : Int32) (ls : Array Slot) (q : Int32 × Int32) (hf : f_G_sum_6 x1 x2 x3 G_side GA_n GA_f n v4_80 v5_81 = some q) (hl : lv_has ls 7 [(0, .ref aG), (1, .int x1), (2, .int x2), (3, .int x3), (4, .int v4_80), (5, .int v5_81)]) (kt0 : ∀ (ls : Array Slot), lv_has ls 7 [(0, .ref aG), (1, .int x1), (2, .int x2), (3, .int x3), (4, .int q.1), (5, .int q.2)] → W p l e (headSpec w_G_sum rm_G_sum).room s m ([.ref aG, .int x1, .int x2, .int x3] : List Value).toArray below meth c s.heap [] 0 0 Qx (F0 m 50 ls [])), W p l e (headSpec w_G_sum rm_G_sum).room s m ([.ref aG, .int x1, .int x2, .int x3] : List Value).toArray below meth c s.heap [] 0 0 Qx (F0 m 6 ls []) := by
    intro Qx n
    induction n with
    | zero => intro v4_80 v5_81 ls q hf; cases hf
    | succ n ih =>
      intro v4_80 v5_81 ls q hf hl kt0
      rw [f_G_sum_6] at hf
      refine lv_iload hx hb d_G_sum_6 (lv_at hl 5 rfl) ?_
      refine lv_iload_n hx hb d_G_sum_8 rfl (lv_at hl 3 rfl) ?_
      refine lv_icmp_ge (tgt := 50) hx hb d_G_sum_9 (by decide) (fun hc => ?_) (fun hc => ?_)
      · have hf := z_t hc hf
        obtain rfl := Option.some.inj hf
        exact kt0 ls (lv_sub hl [0, 1, 2, 3, 4, 5] rfl)
      · have hf := z_f hc hf
        refine lv_iconst (v := 0) hx hb d_G_sum_12 (by decide) ?_
        refine lv_istore (lv' := [(6, .int (0 : Int32)), (0, .ref aG), (1, .int x1), (2, .int x2), (3, .int x3), (4, .int v4_80), (5, .int v5_81)]) hx hb d_G_sum_13 hl (by decide) rfl (fun ls hl => ?_)
        have lp86 : ∀ (Qx : State → Prop) (n : Nat) (v4_84 : Int32) (v6_85 : Int32) (ls : Array Slot) (q : Int32 × Int32) (hf : f_G_sum_15 x1 x2 x3 v5_81 G_side GA_n GA_f n v4_84 v6_85 = some q) (hl : lv_has ls 7 [(0, .ref aG), (1, .int x1), (2, .int x2), (3, .int x3), (4, .int v4_84), (5, .int v5_81), (6, .int v6_85)]) (kt0 : ∀ (ls : Array Slot), lv_has ls 7 [(0, .ref aG), (1, .int x1), (2, .int x2), (3, .int x3), (4, .int q.1), (5, .int v5_81), (6, .int q.2)] → W p l e (headSpec w_G_sum rm_G_sum).room s m ([.ref aG, .int x1, .int x2, .int x3] : List Value).toArray below meth c s.heap [] 0 0 Qx (F0 m 44 ls [])), W p l e (headSpec w_G_sum rm_G_sum).room s m ([.ref aG, .int x1, .int x2, .int x3] : List Value).toArray below meth c s.heap [] 0 0 Qx (F0 m 15 ls []) := by
          intro Qx n
          induction n with
          | zero => intro v4_84 v6_85 ls q hf; cases hf
          | succ n ih =>
            intro v4_84 v6_85 ls q hf hl kt0
            rw [f_G_sum_15] at hf
            refine lv_iload hx hb d_G_sum_15 (lv_at hl 6 rfl) ?_
            refine lv_iload_n hx hb d_G_sum_17 rfl (lv_at hl 3 rfl) ?_
            refine lv_icmp_ge (tgt := 44) hx hb d_G_sum_18 (by decide) (fun hc => ?_) (fun hc => ?_)
            · have hf := z_t hc hf
              obtain rfl := Option.some.inj hf
              exact kt0 ls (lv_sub hl [0, 1, 2, 3, 4, 5, 6] rfl)
            · have hf := z_f hc hf
              refine lv_iload hx hb d_G_sum_21 (lv_at hl 4 rfl) ?_
              refine lv_aload_n hx hb d_G_sum_23 rfl (lv_at hl 0 rfl) ?_
              refine lv_iload_n hx hb d_G_sum_24 rfl (lv_at hl 1 rfl) ?_
              refine lv_iload hx hb d_G_sum_25 (lv_at hl 6 rfl) ?_
              refine lv_iadd hx hb d_G_sum_27 ?_
              refine lv_iload_n hx hb d_G_sum_28 rfl (lv_at hl 2 rfl) ?_
              refine lv_iload hx hb d_G_sum_29 (lv_at hl 5 rfl) ?_
              refine lv_iadd hx hb d_G_sum_31 ?_
              obtain ⟨q87, hc, hf⟩ := z_b hf
              refine vp_callSi (z_cr (va_runV (As := [.int (x1 + v6_85), .int (x2 + v5_81)]) (rest := [.int v4_84]) ⟨hx, hb, hml, hown, hts⟩ (c_G_sample l dC dI cI cL (x1 + v6_85) (x2 + v5_81) hN_G hN_GA q87 hc) (cw_G_49 hts ⟨Nat.le_of_ble_eq_true rfl, Nat.le_of_ble_eq_true rfl⟩) ⟨zbR, va_recv hK hP (ci := 1) rfl hN_G, (zpR hP hK hZ)⟩ rfl rfl hl.1 rfl (lv_room (Nat.le_of_ble_eq_true rfl)) d_G_sum_32 ⟨Nat.zero_le _, Nat.zero_le _⟩)) (fun r88 hv => ?_)
              have hv := hv.symm
              subst hv
              refine lv_iadd hx hb d_G_sum_35 ?_
              refine lv_istore (lv' := [(4, .int (v4_84 + q87)), (0, .ref aG), (1, .int x1), (2, .int x2), (3, .int x3), (5, .int v5_81), (6, .int v6_85)]) hx hb d_G_sum_36 hl (by decide) rfl (fun ls hl => ?_)
              refine lv_iinc (v := (v6_85 + 1)) (lv' := [(6, .int (v6_85 + 1)), (4, .int (v4_84 + q87)), (0, .ref aG), (1, .int x1), (2, .int x2), (3, .int x3), (5, .int v5_81)]) hx hb d_G_sum_38 hl (k := 6) rfl rfl (by decide) rfl (fun ls hl => ?_)
              refine lv_goto (tgt := 15) hx hb d_G_sum_41 (by decide) ?_
              exact ih (v4_84 + q87) (v6_85 + 1) ls _ hf (lv_sub hl [2, 3, 4, 5, 1, 6, 0] rfl) kt0
        obtain ⟨q83, hc, hf⟩ := z_b hf
        refine lp86 _ FU v4_80 (0 : Int32) ls q83 hc (lv_sub hl [1, 2, 3, 4, 5, 6, 0] rfl) (fun ls hl => ?_)
        refine lv_iinc (v := (v5_81 + 1)) (lv' := [(5, .int (v5_81 + 1)), (0, .ref aG), (1, .int x1), (2, .int x2), (3, .int x3), (4, .int q83.1), (6, .int q83.2)]) hx hb d_G_sum_44 hl (k := 5) rfl rfl (by decide) rfl (fun ls hl => ?_)
        refine lv_goto (tgt := 6) hx hb d_G_sum_47 (by decide) ?_
        exact ih q83.1 (v5_81 + 1) ls _ hf (lv_sub hl [1, 2, 3, 4, 5, 0] rfl) kt0
  obtain ⟨q79, hc, hf⟩ := z_b hf
  refine lp82 _ FU (0 : Int32) (0 : Int32) ls q79 hc (lv_sub hl [2, 3, 4, 5, 1, 0] rfl) (fun ls hl => ?_)
  refine lv_iload hx hb d_G_sum_50 (lv_at hl 4 rfl) ?_
  obtain rfl := Option.some.inj hf
  exact W.iret hx hb hr (fun t ht hW => ⟨_, rfl, rfl, ht⟩) (fun q h => by cases h) d_G_sum_52
