def f_G_has (x1 : Int32) (x2 : Int32) (G_side : Int32) : Option (Int32) := if x1 < 0 then (some (0 : Int32)) else (if G_side ≤ x1 then (some (0 : Int32)) else (if x2 < 0 then (some (0 : Int32)) else (if G_side ≤ x2 then (some (0 : Int32)) else (some (1 : Int32)))))
set_option maxHeartbeats 4000000 in
set_option maxRecDepth 100000 in
theorem c_G_has (l : Launch) (dC : Nat → ClassId) (dI : Nat → Nat → Nat) (cI cL : ClassId) {ws : va_W} {kG aG aGA : Nat} {G_mostSide G_side : Int32} (x1 : Int32) (x2 : Int32) (hN_G : zA ws kG (aG, .inr (1, [.int G_mostSide, .ref aGA, .int G_side]))) (r : Int32) (hf : f_G_has x1 x2 G_side = some r) : Met l y_G_has w_G_has rm_G_has (va_Pc [.ref aG, .int x1, .int x2] (zR dC dI cI cL ws)) (vp_Si (fun v => v = r)) 0 0 (fun _ => False) := by
  refine Met.ofW (cc := b_G_has) (maxL := 3) (ret := some .boolean) (by decide) rfl ?_
  intro p e s m args below meth c s₁ B hml hv
  obtain ⟨rfl, hP, hK, hZ⟩ := hv
  have hx := B.exec
  have hb := B.bytes
  have hr := B.returns
  have hlocks := B.notSynchronized
  have hts : ∀ w ∈ BIG, w.before ([.ref aG, .int x1, .int x2] : List Value).toArray s = true := fun w h => atoms_spec (ws := w_G_has) B.pre w (List.mem_cons_of_mem _ h)
  have hown : s.vm.findClass "FractalMaps$Grid" = some m.cls := findClass_of_methodNamed B.named
  have hl := lv_entry ([.ref aG, .int x1, .int x2]) (n := 3) (Nat.le_of_ble_eq_true rfl)
  rw [lg_entry_eq]
  generalize (lg_sl ([.ref aG, .int x1, .int x2]) ++ List.replicate (3 - (lg_sl ([.ref aG, .int x1, .int x2])).length) Slot.unset).toArray = ls at hl ⊢
  have hl : lv_has ls 3 [(0, .ref aG), (1, .int x1), (2, .int x2)] := hl
  unfold f_G_has at hf
  refine lv_iload_n hx hb d_G_has_0 rfl (lv_at hl 1 rfl) ?_
  refine lv_if_lt (tgt := 28) hx hb d_G_has_1 (by decide) (fun hc => ?_) (fun hc => ?_)
  · have hf := z_t hc hf
    refine lv_iconst (v := 0) hx hb d_G_has_28 (by decide) ?_
    obtain rfl := Option.some.inj hf
    exact W.zret (ty := .boolean) hx hb hr (by decide) (fun t ht hW => ⟨_, rfl, rfl, ht⟩) (fun q h => by cases h) d_G_has_29
  · have hf := z_f hc hf
    refine lv_iload_n hx hb d_G_has_4 rfl (lv_at hl 1 rfl) ?_
    refine lv_aload_n hx hb d_G_has_5 rfl (lv_at hl 0 rfl) ?_
    refine gf_G_24 (v := .int G_side) hx hb hts hown hK hP hN_G rfl d_G_has_6 ?_
    refine lv_icmp_ge (tgt := 28) hx hb d_G_has_9 (by decide) (fun hc => ?_) (fun hc => ?_)
    · have hf := z_t hc hf
      refine lv_iconst (v := 0) hx hb d_G_has_28 (by decide) ?_
      obtain rfl := Option.some.inj hf
      exact W.zret (ty := .boolean) hx hb hr (by decide) (fun t ht hW => ⟨_, rfl, rfl, ht⟩) (fun q h => by cases h) d_G_has_29
    · have hf := z_f hc hf
      refine lv_iload_n hx hb d_G_has_12 rfl (lv_at hl 2 rfl) ?_
      refine lv_if_lt (tgt := 28) hx hb d_G_has_13 (by decide) (fun hc => ?_) (fun hc => ?_)
      · have hf := z_t hc hf
        refine lv_iconst (v := 0) hx hb d_G_has_28 (by decide) ?_
        obtain rfl := Option.some.inj hf
        exact W.zret (ty := .boolean) hx hb hr (by decide) (fun t ht hW => ⟨_, rfl, rfl, ht⟩) (fun q h => by cases h) d_G_has_29
      · have hf := z_f hc hf
        refine lv_iload_n hx hb d_G_has_16 rfl (lv_at hl 2 rfl) ?_
        refine lv_aload_n hx hb d_G_has_17 rfl (lv_at hl 0 rfl) ?_
        refine gf_G_24 (v := .int G_side) hx hb hts hown hK hP hN_G rfl d_G_has_18 ?_
        refine lv_icmp_ge (tgt := 28) hx hb d_G_has_21 (by decide) (fun hc => ?_) (fun hc => ?_)
        · have hf := z_t hc hf
          refine lv_iconst (v := 0) hx hb d_G_has_28 (by decide) ?_
          obtain rfl := Option.some.inj hf
          exact W.zret (ty := .boolean) hx hb hr (by decide) (fun t ht hW => ⟨_, rfl, rfl, ht⟩) (fun q h => by cases h) d_G_has_29
        · have hf := z_f hc hf
          refine lv_iconst (v := 1) hx hb d_G_has_24 (by decide) ?_
          refine lv_goto (tgt := 29) hx hb d_G_has_25 (by decide) ?_
          obtain rfl := Option.some.inj hf
          exact W.zret (ty := .boolean) hx hb hr (by decide) (fun t ht hW => ⟨_, rfl, rfl, ht⟩) (fun q h => by cases h) d_G_has_29
def f_G_sample (x1 : Int32) (x2 : Int32) (G_side : Int32) (GA_n : Nat) (GA_f : Nat → Int32) : Option (Int32) := if x1 < 0 then (some (0 : Int32)) else (if G_side ≤ x1 then (some (0 : Int32)) else (if x2 < 0 then (some (0 : Int32)) else (if G_side ≤ x2 then (some (0 : Int32)) else (if ((x2 * G_side) + x1) < 0 ∨ GA_n ≤ ((x2 * G_side) + x1).toNatClampNeg then none else (some (GA_f ((x2 * G_side) + x1).toNatClampNeg))))))
set_option maxHeartbeats 4000000 in
set_option maxRecDepth 100000 in
theorem c_G_sample (l : Launch) (dC : Nat → ClassId) (dI : Nat → Nat → Nat) (cI cL : ClassId) {ws : va_W} {kG kGA aG aGA : Nat} {G_mostSide G_side : Int32} {GA_n : Nat} {GA_f : Nat → Int32} (x1 : Int32) (x2 : Int32) (hN_G : zA ws kG (aG, .inr (1, [.int G_mostSide, .ref aGA, .int G_side]))) (hN_GA : zA ws kGA (aGA, .inl (cI, GA_n, .inl GA_f))) (r : Int32) (hf : f_G_sample x1 x2 G_side GA_n GA_f = some r) : Met l y_G_sample w_G_sample rm_G_sample (va_Pc [.ref aG, .int x1, .int x2] (zR dC dI cI cL ws)) (vp_Si (fun v => v = r)) 0 0 (fun _ => False) := by
  refine Met.ofW (cc := b_G_sample) (maxL := 3) (ret := some .int) (by decide) rfl ?_
  intro p e s m args below meth c s₁ B hml hv
  obtain ⟨rfl, hP, hK, hZ⟩ := hv
  have hx := B.exec
  have hb := B.bytes
  have hr := B.returns
  have hlocks := B.notSynchronized
  have hts : ∀ w ∈ BIG, w.before ([.ref aG, .int x1, .int x2] : List Value).toArray s = true := fun w h => atoms_spec (ws := w_G_sample) B.pre w (List.mem_cons_of_mem _ h)
  have hown : s.vm.findClass "FractalMaps$Grid" = some m.cls := findClass_of_methodNamed B.named
  have hl := lv_entry ([.ref aG, .int x1, .int x2]) (n := 3) (Nat.le_of_ble_eq_true rfl)
  rw [lg_entry_eq]
  generalize (lg_sl ([.ref aG, .int x1, .int x2]) ++ List.replicate (3 - (lg_sl ([.ref aG, .int x1, .int x2])).length) Slot.unset).toArray = ls at hl ⊢
  have hl : lv_has ls 3 [(0, .ref aG), (1, .int x1), (2, .int x2)] := hl
  unfold f_G_sample at hf
  refine lv_iload_n hx hb d_G_sample_0 rfl (lv_at hl 1 rfl) ?_
  refine lv_if_lt (tgt := 40) hx hb d_G_sample_1 (by decide) (fun hc => ?_) (fun hc => ?_)
  · have hf := z_t hc hf
    refine lv_iconst (v := 0) hx hb d_G_sample_40 (by decide) ?_
    obtain rfl := Option.some.inj hf
    exact W.iret hx hb hr (fun t ht hW => ⟨_, rfl, rfl, ht⟩) (fun q h => by cases h) d_G_sample_41
  · have hf := z_f hc hf
    refine lv_iload_n hx hb d_G_sample_4 rfl (lv_at hl 1 rfl) ?_
    refine lv_aload_n hx hb d_G_sample_5 rfl (lv_at hl 0 rfl) ?_
    refine gf_G_24 (v := .int G_side) hx hb hts hown hK hP hN_G rfl d_G_sample_6 ?_
    refine lv_icmp_ge (tgt := 40) hx hb d_G_sample_9 (by decide) (fun hc => ?_) (fun hc => ?_)
    · have hf := z_t hc hf
      refine lv_iconst (v := 0) hx hb d_G_sample_40 (by decide) ?_
      obtain rfl := Option.some.inj hf
      exact W.iret hx hb hr (fun t ht hW => ⟨_, rfl, rfl, ht⟩) (fun q h => by cases h) d_G_sample_41
    · have hf := z_f hc hf
      refine lv_iload_n hx hb d_G_sample_12 rfl (lv_at hl 2 rfl) ?_
      refine lv_if_lt (tgt := 40) hx hb d_G_sample_13 (by decide) (fun hc => ?_) (fun hc => ?_)
      · have hf := z_t hc hf
        refine lv_iconst (v := 0) hx hb d_G_sample_40 (by decide) ?_
        obtain rfl := Option.some.inj hf
        exact W.iret hx hb hr (fun t ht hW => ⟨_, rfl, rfl, ht⟩) (fun q h => by cases h) d_G_sample_41
      · have hf := z_f hc hf
        refine lv_iload_n hx hb d_G_sample_16 rfl (lv_at hl 2 rfl) ?_
        refine lv_aload_n hx hb d_G_sample_17 rfl (lv_at hl 0 rfl) ?_
        refine gf_G_24 (v := .int G_side) hx hb hts hown hK hP hN_G rfl d_G_sample_18 ?_
        refine lv_icmp_ge (tgt := 40) hx hb d_G_sample_21 (by decide) (fun hc => ?_) (fun hc => ?_)
        · have hf := z_t hc hf
          refine lv_iconst (v := 0) hx hb d_G_sample_40 (by decide) ?_
          obtain rfl := Option.some.inj hf
          exact W.iret hx hb hr (fun t ht hW => ⟨_, rfl, rfl, ht⟩) (fun q h => by cases h) d_G_sample_41
        · have hf := z_f hc hf
          refine lv_aload_n hx hb d_G_sample_24 rfl (lv_at hl 0 rfl) ?_
          refine gf_G_27 (v := .ref aGA) hx hb hts hown hK hP hN_G rfl d_G_sample_25 ?_
          refine lv_iload_n hx hb d_G_sample_28 rfl (lv_at hl 2 rfl) ?_
          refine lv_aload_n hx hb d_G_sample_29 rfl (lv_at hl 0 rfl) ?_
          refine gf_G_24 (v := .int G_side) hx hb hts hown hK hP hN_G rfl d_G_sample_30 ?_
          refine lv_imul hx hb d_G_sample_33 ?_
          refine lv_iload_n hx hb d_G_sample_34 rfl (lv_at hl 1 rfl) ?_
          refine lv_iadd hx hb d_G_sample_35 ?_
          obtain ⟨hin, hf⟩ := z_no hf
          refine va_iald hx hb hK hP _ 0 hN_GA rfl hin d_G_sample_36 ?_
          refine lv_goto (tgt := 41) hx hb d_G_sample_37 (by decide) ?_
          obtain rfl := Option.some.inj hf
          exact W.iret hx hb hr (fun t ht hW => ⟨_, rfl, rfl, ht⟩) (fun q h => by cases h) d_G_sample_41
def f_G_set (x1 : Int32) (x2 : Int32) (x3 : Int32) (G_side : Int32) (GA_n : Nat) (GA_f : Nat → Int32) : Option (Nat → Int32) := (f_G_has x1 x2 G_side).bind (fun q1 => if q1 = 0 then (some GA_f) else (if ((x2 * G_side) + x1) < 0 ∨ GA_n ≤ ((x2 * G_side) + x1).toNatClampNeg then none else (some (upd GA_f ((x2 * G_side) + x1).toNatClampNeg x3))))
set_option maxHeartbeats 4000000 in
set_option maxRecDepth 100000 in
theorem c_G_set (l : Launch) (dC : Nat → ClassId) (dI : Nat → Nat → Nat) (cI cL : ClassId) {ws0 : va_W} (sz : Nat) {kG kGA aG aGA : Nat} {G_mostSide G_side : Int32} {GA_n : Nat} {GA_f : Nat → Int32} (x1 : Int32) (x2 : Int32) (x3 : Int32) (hN_G : zA ws0 kG (aG, .inr (1, [.int G_mostSide, .ref aGA, .int G_side]))) (hN_GA : zA ws0 kGA (aGA, .inl (cI, GA_n, .inl GA_f))) (ne_G_GA : kG ≠ kGA) (r : Nat → Int32) (hf : f_G_set x1 x2 x3 G_side GA_n GA_f = some r) : Met l y_G_set w_G_set rm_G_set (va_Pc [.ref aG, .int x1, .int x2, .int x3] (zM dC dI cI cL ws0 sz)) (va_Qv (fun ws' : va_W => zA ws' kGA (aGA, .inl (cI, GA_n, .inl r)) ∧ ∀ (j : Nat), j ∉ ([kGA] : List Nat) → ws'[j]? = ws0[j]?) (zQ dC dI cI cL (va_A ws0 sz)) (va_A ws0 sz)) 0 0 (va_A ws0 sz) := by
  refine Met.ofW (cc := b_G_set) (maxL := 4) (ret := none) (by decide) rfl ?_
  intro p e s m args below meth c s₁ B hml hv
  obtain ⟨rfl, hsz, hP, hK, hZ, hD0⟩ := hv
  have hx := B.exec
  have hb := B.bytes
  have hr := B.returns
  have hlocks := B.notSynchronized
  have hts : ∀ w ∈ BIG, w.before ([.ref aG, .int x1, .int x2, .int x3] : List Value).toArray s = true := fun w h => atoms_spec (ws := w_G_set) B.pre w (List.mem_cons_of_mem _ h)
  have hown : s.vm.findClass "FractalMaps$Grid" = some m.cls := findClass_of_methodNamed B.named
  subst hsz
  have hD := hD0.self (sz := s.heap.size)
  generalize hAe : va_A ws0 s.heap.size = A at hD ⊢
  have hA : ∀ q : Nat, s.heap.size ≤ q → A q := fun q h => by rw [← hAe]; exact Or.inr h
  have hS : va_S A s.heap s.heap [] := va_S.rf
  have hw : ∀ (j : Nat), j ∉ ([kGA] : List Nat) → ws0[j]? = ws0[j]? := fun _ _ => rfl
  have hl := lv_entry ([.ref aG, .int x1, .int x2, .int x3]) (n := 4) (Nat.le_of_ble_eq_true rfl)
  rw [lg_entry_eq]
  generalize (lg_sl ([.ref aG, .int x1, .int x2, .int x3]) ++ List.replicate (4 - (lg_sl ([.ref aG, .int x1, .int x2, .int x3])).length) Slot.unset).toArray = ls at hl ⊢
  have hl : lv_has ls 4 [(0, .ref aG), (1, .int x1), (2, .int x2), (3, .int x3)] := hl
  unfold f_G_set at hf
  refine lv_aload_n hx hb d_G_set_0 rfl (lv_at hl 0 rfl) ?_
  refine lv_iload_n hx hb d_G_set_1 rfl (lv_at hl 1 rfl) ?_
  refine lv_iload_n hx hb d_G_set_2 rfl (lv_at hl 2 rfl) ?_
  obtain ⟨q1, hc, hf⟩ := z_b hf
  refine vp_callSi (z_cr (va_runV (As := [.int x1, .int x2]) (rest := []) ⟨hx, hb, hml, hown, hts⟩ (c_G_has l dC dI cI cL x1 x2 hN_G q1 hc) (cw_G_31 hts ⟨Nat.le_of_ble_eq_true rfl, Nat.le_of_ble_eq_true rfl⟩) ⟨zbR, va_recv hK hP (ci := 1) rfl hN_G, (zpR hP hK hZ)⟩ rfl rfl hl.1 rfl (lv_room (Nat.le_of_ble_eq_true rfl)) d_G_set_3 ⟨Nat.zero_le _, Nat.zero_le _⟩)) (fun r2 hv => ?_)
  have hv := hv.symm
  subst hv
  refine lv_if_eq (tgt := 23) hx hb d_G_set_6 (by decide) (fun hc => ?_) (fun hc => ?_)
  · have hf := z_t hc hf
    obtain rfl := Option.some.inj hf
    exact W.vret hx hb hr (fun t ht hW => ⟨⟨ws0, rfl, ⟨hN_GA, hw⟩, by rw [ht]; exact hP, va_K.moved hW.alike hK, hD⟩, hS.F ht⟩) hS.2.2 d_G_set_23
  · have hf := z_f hc hf
    refine lv_aload_n hx hb d_G_set_9 rfl (lv_at hl 0 rfl) ?_
    refine gf_G_27 (v := .ref aGA) hx hb hts hown hK hP hN_G rfl d_G_set_10 ?_
    refine lv_iload_n hx hb d_G_set_13 rfl (lv_at hl 2 rfl) ?_
    refine lv_aload_n hx hb d_G_set_14 rfl (lv_at hl 0 rfl) ?_
    refine gf_G_24 (v := .int G_side) hx hb hts hown hK hP hN_G rfl d_G_set_15 ?_
    refine lv_imul hx hb d_G_set_18 ?_
    refine lv_iload_n hx hb d_G_set_19 rfl (lv_at hl 1 rfl) ?_
    refine lv_iadd hx hb d_G_set_20 ?_
    refine lv_iload_n hx hb d_G_set_21 rfl (lv_at hl 3 rfl) ?_
    obtain ⟨hin, hf⟩ := z_no hf
    refine z_iast hx hb hK hP hD hS hN_GA rfl hin d_G_set_22 (fun ws H locs hP hD hS hN_GA hfr => ?_)
    have hN_GA : zA ws kGA (aGA, .inl (cI, GA_n, .inl (upd GA_f ((x2 * G_side) + x1).toNatClampNeg x3))) := hN_GA
    have hN_G := (hfr _ ne_G_GA).trans hN_G
    have hw := z_fr List.mem_cons_self hw hfr
    obtain rfl := Option.some.inj hf
    exact W.vret hx hb hr (fun t ht hW => ⟨⟨ws, rfl, ⟨hN_GA, hw⟩, by rw [ht]; exact hP, va_K.moved hW.alike hK, hD⟩, hS.F ht⟩) hS.2.2 d_G_set_23
def f_F_put (x1 : Int32) (x2 : Int32) (x3 : Int32) (P_side : Int32) (PA_n : Nat) (PA_f : Nat → Int32) : Option (Nat ⊕ (Int32 × (Nat → Int32))) := (f_G_has x1 x2 P_side).bind (fun q3 => if q3 = 0 then (some (.inl 1)) else (if x3 < 0 then (some (.inl 2)) else (if x3 ≤ (255 : Int32) then ((f_G_sample x1 x2 P_side PA_n PA_f).bind (fun q5 => (f_G_set x1 x2 x3 P_side PA_n PA_f).bind (fun q7 => some (.inr (q5, q7))))) else (some (.inl 2)))))
set_option maxHeartbeats 4000000 in
set_option maxRecDepth 100000 in
theorem c_F_put (l : Launch) (hfl : l.flags = pinnedFlags ++ [noTraceFlag]) (dC : Nat → ClassId) (dI : Nat → Nat → Nat) (cI cL : ClassId) {ws0 : va_W} (sz : Nat) {aO aP aN aH aV aS aK aT aC aI aPA : Nat} {O_side P_mostSide P_side : Int32} {PA_n : Nat} {PA_f : Nat → Int32} (x1 : Int32) (x2 : Int32) (x3 : Int32) (hN_O : zA ws0 0 (aO, .inr (0, [.int O_side, .ref aP, .ref aN, .ref aH, .ref aV, .ref aS, .ref aK, .ref aT, .ref aC, .ref aI]))) (hN_P : zA ws0 1 (aP, .inr (1, [.int P_mostSide, .ref aPA, .int P_side]))) (hN_PA : zA ws0 2 (aPA, .inl (cI, PA_n, .inl PA_f))) (r : Nat ⊕ (Int32 × (Nat → Int32))) (hf : f_F_put x1 x2 x3 P_side PA_n PA_f = some r) : MetT l y_F_put w_F_put rm_F_put (va_Pc [.ref aO, .int x1, .int x2, .int x3] (zMT dC dI cI cL ws0 sz)) (zX (fun (v : Int32) (ws' : va_W) => ∃ r1, r = .inr r1 ∧ v = r1.1 ∧ zA ws' 2 (aPA, .inl (cI, PA_n, .inl r1.2)) ∧ ∀ (j : Nat), j ∉ ([2] : List Nat) → ws'[j]? = ws0[j]?) (fun k => r = .inl k) Value.int (zQ dC dI cI cL (va_A ws0 sz)) ws0 (va_A ws0 sz)) 1 6 (va_A ws0 sz) := by
  refine MetT.ofW (cc := b_F_put) (maxL := 5) (ret := some .int) (by decide) rfl ?_
  intro p e s m args below meth c s₁ B hml hv
  obtain ⟨rfl, hsz, hP, hK, hZ, hD0, hX⟩ := hv
  have hx := B.exec
  have hb := B.bytes
  have hr := B.returns
  have hlocks := B.notSynchronized
  have hts : ∀ w ∈ BIG, w.before ([.ref aO, .int x1, .int x2, .int x3] : List Value).toArray s = true := fun w h => atoms_spec (ws := w_F_put) B.pre w (List.mem_cons_of_mem _ h)
  have hown : s.vm.findClass "FractalMaps" = some m.cls := findClass_of_methodNamed B.named
  have hout : c.exceptionTable.toList = [] := by simpa using B.noHandlers (atoms_spec (ws := w_F_put) B.pre _ List.mem_cons_self)
  subst hsz
  have hD := hD0.self (sz := s.heap.size)
  generalize hAe : va_A ws0 s.heap.size = A at hD ⊢
  have hA : ∀ q : Nat, s.heap.size ≤ q → A q := fun q h => by rw [← hAe]; exact Or.inr h
  have hS : va_S A s.heap s.heap [] := va_S.rf
  have hw : ∀ (j : Nat), j ∉ ([2] : List Nat) → ws0[j]? = ws0[j]? := fun _ _ => rfl
  have hl := lv_entry ([.ref aO, .int x1, .int x2, .int x3]) (n := 5) (Nat.le_of_ble_eq_true rfl)
  rw [lg_entry_eq]
  generalize (lg_sl ([.ref aO, .int x1, .int x2, .int x3]) ++ List.replicate (5 - (lg_sl ([.ref aO, .int x1, .int x2, .int x3])).length) Slot.unset).toArray = ls at hl ⊢
  have hl : lv_has ls 5 [(0, .ref aO), (1, .int x1), (2, .int x2), (3, .int x3)] := hl
  unfold f_F_put at hf
  refine lv_aload_n hx hb d_F_put_0 rfl (lv_at hl 0 rfl) ?_
  refine gf_F_27 (v := .ref aP) hx hb hts hown hK hP hN_O rfl d_F_put_1 ?_
  refine lv_iload_n hx hb d_F_put_4 rfl (lv_at hl 1 rfl) ?_
  refine lv_iload_n hx hb d_F_put_5 rfl (lv_at hl 2 rfl) ?_
  obtain ⟨q3, hc, hf⟩ := z_b hf
  refine vp_callSi (z_cr (va_runV (As := [.int x1, .int x2]) (rest := []) ⟨hx, hb, hml, hown, hts⟩ (c_G_has l dC dI cI cL x1 x2 hN_P q3 hc) (cw_F_81 hts ⟨Nat.le_of_ble_eq_true rfl, Nat.le_of_ble_eq_true rfl⟩) ⟨zbR, va_recv hK hP (ci := 1) rfl hN_P, (zpR hP hK hZ)⟩ rfl rfl hl.1 rfl (lv_room (Nat.le_of_ble_eq_true rfl)) d_F_put_6 ⟨Nat.zero_le _, Nat.zero_le _⟩)) (fun r4 hv => ?_)
  have hv := hv.symm
  subst hv
  refine lv_if_ne (tgt := 22) hx hb d_F_put_9 (by decide) (fun hc => ?_) (fun hc => ?_)
  · have hf := z_f hc hf
    refine lv_iload_n hx hb d_F_put_22 rfl (lv_at hl 3 rfl) ?_
    refine lv_if_lt (tgt := 33) hx hb d_F_put_23 (by decide) (fun hc => ?_) (fun hc => ?_)
    · have hf := z_t hc hf
      obtain rfl := Option.some.inj hf
      exact z_throw (own := "FractalMaps") (cls := "java/lang/IllegalArgumentException") (tx := "a sample is 0 to 255") (names := exNames) (k := 2) hfl hx hb hml hl.1 hlocks hown hout hts hX hP hK hD hA (by decide +kernel) (by decide +kernel) oa_96 k_476 k_477 k_50 (by decide +kernel) rfl rfl d_F_put_33 d_F_put_36 d_F_put_37 d_F_put_39 d_F_put_42 (Nat.le_of_ble_eq_true rfl) (Nat.le_of_ble_eq_true rfl) (Nat.le_of_ble_eq_true rfl) (Nat.le_of_ble_eq_true rfl)
    · have hf := z_f hc hf
      refine lv_iload_n hx hb d_F_put_26 rfl (lv_at hl 3 rfl) ?_
      refine lv_sipush (v := 255) hx hb d_F_put_27 (by decide) ?_
      refine lv_icmp_le (tgt := 43) hx hb d_F_put_30 (by decide) (fun hc => ?_) (fun hc => ?_)
      · have hf := z_t hc hf
        refine lv_aload_n hx hb d_F_put_43 rfl (lv_at hl 0 rfl) ?_
        refine gf_F_27 (v := .ref aP) hx hb hts hown hK hP hN_O rfl d_F_put_44 ?_
        refine lv_iload_n hx hb d_F_put_47 rfl (lv_at hl 1 rfl) ?_
        refine lv_iload_n hx hb d_F_put_48 rfl (lv_at hl 2 rfl) ?_
        obtain ⟨q5, hc, hf⟩ := z_b hf
        refine vp_callSi (z_cr (va_runV (As := [.int x1, .int x2]) (rest := []) ⟨hx, hb, hml, hown, hts⟩ (c_G_sample l dC dI cI cL x1 x2 hN_P hN_PA q5 hc) (cw_F_97 hts ⟨Nat.le_of_ble_eq_true rfl, Nat.le_of_ble_eq_true rfl⟩) ⟨zbR, va_recv hK hP (ci := 1) rfl hN_P, (zpR hP hK hZ)⟩ rfl rfl hl.1 rfl (lv_room (Nat.le_of_ble_eq_true rfl)) d_F_put_49 ⟨Nat.zero_le _, Nat.zero_le _⟩)) (fun r6 hv => ?_)
        have hv := hv.symm
        subst hv
        refine lv_istore (lv' := [(4, .int q5), (0, .ref aO), (1, .int x1), (2, .int x2), (3, .int x3)]) hx hb d_F_put_52 hl (by decide) rfl (fun ls hl => ?_)
        refine lv_aload_n hx hb d_F_put_54 rfl (lv_at hl 1 rfl) ?_
        refine gf_F_27 (v := .ref aP) hx hb hts hown hK hP hN_O rfl d_F_put_55 ?_
        refine lv_iload_n hx hb d_F_put_58 rfl (lv_at hl 2 rfl) ?_
        refine lv_iload_n hx hb d_F_put_59 rfl (lv_at hl 3 rfl) ?_
        refine lv_iload_n hx hb d_F_put_60 rfl (lv_at hl 4 rfl) ?_
        obtain ⟨q7, hc, hf⟩ := z_b hf
        have hFc := z_free hD hS hA
        refine va_callv (va_runV (As := [.int x1, .int x2, .int x3]) (rest := []) ⟨hx, hb, hml, hown, hts⟩ (c_G_set l dC dI cI cL _ x1 x2 x3 hN_P hN_PA (by decide) q7 hc) (cw_F_100 hts ⟨Nat.le_of_ble_eq_true rfl, Nat.le_of_ble_eq_true rfl⟩) ⟨zbM, va_recv hK hP (ci := 1) rfl hN_P, (zpM hP hK hZ hD)⟩ rfl rfl hl.1 rfl (lv_room (Nat.le_of_ble_eq_true rfl)) d_F_put_61 ⟨Nat.zero_le _, Nat.zero_le _⟩) hS (fun q _ h => hFc q h) hFc (fun ws t H locs ht hvm hu hB hz1 hk1 hS => ?_)
        obtain ⟨hN_PA, hfr⟩ := hu
        obtain ⟨hP, -, hD1⟩ := hB
        rw [ht] at hP
        have hD := hD1.weaken (fun _ _ _ h => hFc _ h)
        have hN_PA : zA ws 2 (aPA, .inl (cI, PA_n, .inl q7)) := hN_PA
        have hN_O := (hfr _ (by decide)).trans hN_O
        have hN_P := (hfr _ (by decide)).trans hN_P
        have hw := z_frC (by decide) hw hfr
        refine lv_iload hx hb d_F_put_64 (lv_at hl 0 rfl) ?_
        obtain rfl := Option.some.inj hf
        exact z_iretT hx hb hr hlocks (fun t ht hW => ⟨Or.inl ⟨_, ws, rfl, ⟨_, rfl, rfl, hN_PA, hw⟩, by rw [ht]; exact hP, va_K.moved hW.alike hK, hD⟩, hS.F ht⟩) hS.2.2 d_F_put_66 (Nat.zero_le _) (Nat.zero_le _)
      · have hf := z_f hc hf
        obtain rfl := Option.some.inj hf
        exact z_throw (own := "FractalMaps") (cls := "java/lang/IllegalArgumentException") (tx := "a sample is 0 to 255") (names := exNames) (k := 2) hfl hx hb hml hl.1 hlocks hown hout hts hX hP hK hD hA (by decide +kernel) (by decide +kernel) oa_96 k_476 k_477 k_50 (by decide +kernel) rfl rfl d_F_put_33 d_F_put_36 d_F_put_37 d_F_put_39 d_F_put_42 (Nat.le_of_ble_eq_true rfl) (Nat.le_of_ble_eq_true rfl) (Nat.le_of_ble_eq_true rfl) (Nat.le_of_ble_eq_true rfl)
  · have hf := z_t hc hf
    obtain rfl := Option.some.inj hf
    exact z_throw (own := "FractalMaps") (cls := "java/lang/IndexOutOfBoundsException") (tx := "no such sample") (names := exNames) (k := 1) hfl hx hb hml hl.1 hlocks hown hout hts hX hP hK hD hA (by decide +kernel) (by decide +kernel) oa_89 k_407 k_408 k_49 (by decide +kernel) rfl rfl d_F_put_12 d_F_put_15 d_F_put_16 d_F_put_18 d_F_put_21 (Nat.le_of_ble_eq_true rfl) (Nat.le_of_ble_eq_true rfl) (Nat.le_of_ble_eq_true rfl) (Nat.le_of_ble_eq_true rfl)
def f_K_fact (x1 : Int32) (x2 : Int32) (K_count : Int32) (KA_n : Nat) (KA_f : Nat → Int32) : Option (Int32) := if x1 < 0 then (some ((-1) : Int32)) else (if K_count ≤ x1 then (some ((-1) : Int32)) else (if x2 < 0 then (some ((-1) : Int32)) else (if x2 < (8 : Int32) then (if (((8 : Int32) * x1) + x2) < 0 ∨ KA_n ≤ (((8 : Int32) * x1) + x2).toNatClampNeg then none else (some (KA_f (((8 : Int32) * x1) + x2).toNatClampNeg))) else (some ((-1) : Int32)))))
set_option maxHeartbeats 4000000 in
set_option maxRecDepth 100000 in
theorem c_K_fact (l : Launch) (dC : Nat → ClassId) (dI : Nat → Nat → Nat) (cI cL : ClassId) {ws : va_W} {kK kKA aK aKA : Nat} {K_count : Int32} {KA_n : Nat} {KA_f : Nat → Int32} (x1 : Int32) (x2 : Int32) (hN_K : zA ws kK (aK, .inr (5, [.ref aKA, .int K_count]))) (hN_KA : zA ws kKA (aKA, .inl (cI, KA_n, .inl KA_f))) (r : Int32) (hf : f_K_fact x1 x2 K_count KA_n KA_f = some r) : Met l y_K_fact w_K_fact rm_K_fact (va_Pc [.ref aK, .int x1, .int x2] (zR dC dI cI cL ws)) (vp_Si (fun v => v = r)) 0 0 (fun _ => False) := by
  refine Met.ofW (cc := b_K_fact) (maxL := 3) (ret := some .int) (by decide) rfl ?_
  intro p e s m args below meth c s₁ B hml hv
  obtain ⟨rfl, hP, hK, hZ⟩ := hv
  have hx := B.exec
  have hb := B.bytes
  have hr := B.returns
  have hlocks := B.notSynchronized
  have hts : ∀ w ∈ BIG, w.before ([.ref aK, .int x1, .int x2] : List Value).toArray s = true := fun w h => atoms_spec (ws := w_K_fact) B.pre w (List.mem_cons_of_mem _ h)
  have hown : s.vm.findClass "FractalMaps$Blocks" = some m.cls := findClass_of_methodNamed B.named
  have hl := lv_entry ([.ref aK, .int x1, .int x2]) (n := 3) (Nat.le_of_ble_eq_true rfl)
  rw [lg_entry_eq]
  generalize (lg_sl ([.ref aK, .int x1, .int x2]) ++ List.replicate (3 - (lg_sl ([.ref aK, .int x1, .int x2])).length) Slot.unset).toArray = ls at hl ⊢
  have hl : lv_has ls 3 [(0, .ref aK), (1, .int x1), (2, .int x2)] := hl
  unfold f_K_fact at hf
  refine lv_iload_n hx hb d_K_fact_0 rfl (lv_at hl 1 rfl) ?_
  refine lv_if_lt (tgt := 22) hx hb d_K_fact_1 (by decide) (fun hc => ?_) (fun hc => ?_)
  · have hf := z_t hc hf
    refine lv_iconst (v := (-1)) hx hb d_K_fact_22 (by decide) ?_
    obtain rfl := Option.some.inj hf
    exact W.iret hx hb hr (fun t ht hW => ⟨_, rfl, rfl, ht⟩) (fun q h => by cases h) d_K_fact_23
  · have hf := z_f hc hf
    refine lv_iload_n hx hb d_K_fact_4 rfl (lv_at hl 1 rfl) ?_
    refine lv_aload_n hx hb d_K_fact_5 rfl (lv_at hl 0 rfl) ?_
    refine gf_K_24 (v := .int K_count) hx hb hts hown hK hP hN_K rfl d_K_fact_6 ?_
    refine lv_icmp_ge (tgt := 22) hx hb d_K_fact_9 (by decide) (fun hc => ?_) (fun hc => ?_)
    · have hf := z_t hc hf
      refine lv_iconst (v := (-1)) hx hb d_K_fact_22 (by decide) ?_
      obtain rfl := Option.some.inj hf
      exact W.iret hx hb hr (fun t ht hW => ⟨_, rfl, rfl, ht⟩) (fun q h => by cases h) d_K_fact_23
    · have hf := z_f hc hf
      refine lv_iload_n hx hb d_K_fact_12 rfl (lv_at hl 2 rfl) ?_
      refine lv_if_lt (tgt := 22) hx hb d_K_fact_13 (by decide) (fun hc => ?_) (fun hc => ?_)
      · have hf := z_t hc hf
        refine lv_iconst (v := (-1)) hx hb d_K_fact_22 (by decide) ?_
        obtain rfl := Option.some.inj hf
        exact W.iret hx hb hr (fun t ht hW => ⟨_, rfl, rfl, ht⟩) (fun q h => by cases h) d_K_fact_23
      · have hf := z_f hc hf
        refine lv_iload_n hx hb d_K_fact_16 rfl (lv_at hl 2 rfl) ?_
        refine lv_bipush (v := 8) hx hb d_K_fact_17 (by decide) ?_
        refine lv_icmp_lt (tgt := 24) hx hb d_K_fact_19 (by decide) (fun hc => ?_) (fun hc => ?_)
        · have hf := z_t hc hf
          refine lv_aload_n hx hb d_K_fact_24 rfl (lv_at hl 0 rfl) ?_
          refine gf_K_20 (v := .ref aKA) hx hb hts hown hK hP hN_K rfl d_K_fact_25 ?_
          refine lv_bipush (v := 8) hx hb d_K_fact_28 (by decide) ?_
          refine lv_iload_n hx hb d_K_fact_30 rfl (lv_at hl 1 rfl) ?_
          refine lv_imul hx hb d_K_fact_31 ?_
          refine lv_iload_n hx hb d_K_fact_32 rfl (lv_at hl 2 rfl) ?_
          refine lv_iadd hx hb d_K_fact_33 ?_
          obtain ⟨hin, hf⟩ := z_no hf
          refine va_iald hx hb hK hP _ 0 hN_KA rfl hin d_K_fact_34 ?_
          obtain rfl := Option.some.inj hf
          exact W.iret hx hb hr (fun t ht hW => ⟨_, rfl, rfl, ht⟩) (fun q h => by cases h) d_K_fact_35
        · have hf := z_f hc hf
          refine lv_iconst (v := (-1)) hx hb d_K_fact_22 (by decide) ?_
          obtain rfl := Option.some.inj hf
          exact W.iret hx hb hr (fun t ht hW => ⟨_, rfl, rfl, ht⟩) (fun q h => by cases h) d_K_fact_23
def f_F_block (x1 : Int32) (x2 : Int32) (K_count : Int32) (KA_n : Nat) (KA_f : Nat → Int32) : Option (Nat ⊕ (Int32)) := if x1 < 0 then (some (.inl 1)) else (if x1 < K_count then (if x2 < 0 then (some (.inl 2)) else (if x2 < (8 : Int32) then ((f_K_fact x1 x2 K_count KA_n KA_f).bind (fun q8 => some (.inr q8))) else (some (.inl 2)))) else (some (.inl 1)))
set_option maxHeartbeats 4000000 in
set_option maxRecDepth 100000 in
theorem c_F_block (l : Launch) (hfl : l.flags = pinnedFlags ++ [noTraceFlag]) (dC : Nat → ClassId) (dI : Nat → Nat → Nat) (cI cL : ClassId) {ws0 : va_W} (sz : Nat) {aO aP aN aH aV aS aK aT aC aI aKA : Nat} {O_side K_count : Int32} {KA_n : Nat} {KA_f : Nat → Int32} (x1 : Int32) (x2 : Int32) (hN_O : zA ws0 0 (aO, .inr (0, [.int O_side, .ref aP, .ref aN, .ref aH, .ref aV, .ref aS, .ref aK, .ref aT, .ref aC, .ref aI]))) (hN_K : zA ws0 14 (aK, .inr (5, [.ref aKA, .int K_count]))) (hN_KA : zA ws0 15 (aKA, .inl (cI, KA_n, .inl KA_f))) (r : Nat ⊕ (Int32)) (hf : f_F_block x1 x2 K_count KA_n KA_f = some r) : MetT l y_F_block w_F_block rm_F_block (va_Pc [.ref aO, .int x1, .int x2] (zMT dC dI cI cL ws0 sz)) (zX (fun (v : Int32) (ws' : va_W) => ∃ r1, r = .inr r1 ∧ v = r1 ∧ ∀ (j : Nat), j ∉ ([] : List Nat) → ws'[j]? = ws0[j]?) (fun k => r = .inl k) Value.int (zQ dC dI cI cL (va_A ws0 sz)) ws0 (va_A ws0 sz)) 1 6 (va_A ws0 sz) := by
  refine MetT.ofW (cc := b_F_block) (maxL := 3) (ret := some .int) (by decide) rfl ?_
  intro p e s m args below meth c s₁ B hml hv
  obtain ⟨rfl, hsz, hP, hK, hZ, hD0, hX⟩ := hv
  have hx := B.exec
  have hb := B.bytes
  have hr := B.returns
  have hlocks := B.notSynchronized
  have hts : ∀ w ∈ BIG, w.before ([.ref aO, .int x1, .int x2] : List Value).toArray s = true := fun w h => atoms_spec (ws := w_F_block) B.pre w (List.mem_cons_of_mem _ h)
  have hown : s.vm.findClass "FractalMaps" = some m.cls := findClass_of_methodNamed B.named
  have hout : c.exceptionTable.toList = [] := by simpa using B.noHandlers (atoms_spec (ws := w_F_block) B.pre _ List.mem_cons_self)
  subst hsz
  have hD := hD0.self (sz := s.heap.size)
  generalize hAe : va_A ws0 s.heap.size = A at hD ⊢
  have hA : ∀ q : Nat, s.heap.size ≤ q → A q := fun q h => by rw [← hAe]; exact Or.inr h
  have hS : va_S A s.heap s.heap [] := va_S.rf
  have hw : ∀ (j : Nat), j ∉ ([] : List Nat) → ws0[j]? = ws0[j]? := fun _ _ => rfl
  have hl := lv_entry ([.ref aO, .int x1, .int x2]) (n := 3) (Nat.le_of_ble_eq_true rfl)
  rw [lg_entry_eq]
  generalize (lg_sl ([.ref aO, .int x1, .int x2]) ++ List.replicate (3 - (lg_sl ([.ref aO, .int x1, .int x2])).length) Slot.unset).toArray = ls at hl ⊢
  have hl : lv_has ls 3 [(0, .ref aO), (1, .int x1), (2, .int x2)] := hl
  unfold f_F_block at hf
  refine lv_iload_n hx hb d_F_block_0 rfl (lv_at hl 1 rfl) ?_
  refine lv_if_lt (tgt := 15) hx hb d_F_block_1 (by decide) (fun hc => ?_) (fun hc => ?_)
  · have hf := z_t hc hf
    obtain rfl := Option.some.inj hf
    exact z_throw (own := "FractalMaps") (cls := "java/lang/IndexOutOfBoundsException") (tx := "no such block") (names := exNames) (k := 1) hfl hx hb hml hl.1 hlocks hown hout hts hX hP hK hD hA (by decide +kernel) (by decide +kernel) oa_89 k_407 k_408 k_49 (by decide +kernel) rfl rfl d_F_block_15 d_F_block_18 d_F_block_19 d_F_block_21 d_F_block_24 (Nat.le_of_ble_eq_true rfl) (Nat.le_of_ble_eq_true rfl) (Nat.le_of_ble_eq_true rfl) (Nat.le_of_ble_eq_true rfl)
  · have hf := z_f hc hf
    refine lv_iload_n hx hb d_F_block_4 rfl (lv_at hl 1 rfl) ?_
    refine lv_aload_n hx hb d_F_block_5 rfl (lv_at hl 0 rfl) ?_
    refine gf_F_60 (v := .ref aK) hx hb hts hown hK hP hN_O rfl d_F_block_6 ?_
    refine gf_F_136 (v := .int K_count) hx hb hts hown hK hZ hP hN_K rfl d_F_block_9 ?_
    refine lv_icmp_lt (tgt := 25) hx hb d_F_block_12 (by decide) (fun hc => ?_) (fun hc => ?_)
    · have hf := z_t hc hf
      refine lv_iload_n hx hb d_F_block_25 rfl (lv_at hl 2 rfl) ?_
      refine lv_if_lt (tgt := 35) hx hb d_F_block_26 (by decide) (fun hc => ?_) (fun hc => ?_)
      · have hf := z_t hc hf
        obtain rfl := Option.some.inj hf
        exact z_throw (own := "FractalMaps") (cls := "java/lang/IllegalArgumentException") (tx := "nothing such is told of a block") (names := exNames) (k := 2) hfl hx hb hml hl.1 hlocks hown hout hts hX hP hK hD hA (by decide +kernel) (by decide +kernel) oa_96 k_476 k_477 k_50 (by decide +kernel) rfl rfl d_F_block_35 d_F_block_38 d_F_block_39 d_F_block_41 d_F_block_44 (Nat.le_of_ble_eq_true rfl) (Nat.le_of_ble_eq_true rfl) (Nat.le_of_ble_eq_true rfl) (Nat.le_of_ble_eq_true rfl)
      · have hf := z_f hc hf
        refine lv_iload_n hx hb d_F_block_29 rfl (lv_at hl 2 rfl) ?_
        refine lv_bipush (v := 8) hx hb d_F_block_30 (by decide) ?_
        refine lv_icmp_lt (tgt := 45) hx hb d_F_block_32 (by decide) (fun hc => ?_) (fun hc => ?_)
        · have hf := z_t hc hf
          refine lv_aload_n hx hb d_F_block_45 rfl (lv_at hl 0 rfl) ?_
          refine gf_F_60 (v := .ref aK) hx hb hts hown hK hP hN_O rfl d_F_block_46 ?_
          refine lv_iload_n hx hb d_F_block_49 rfl (lv_at hl 1 rfl) ?_
          refine lv_iload_n hx hb d_F_block_50 rfl (lv_at hl 2 rfl) ?_
          obtain ⟨q8, hc, hf⟩ := z_b hf
          refine vp_callSi (z_cr (va_runV (As := [.int x1, .int x2]) (rest := []) ⟨hx, hb, hml, hown, hts⟩ (c_K_fact l dC dI cI cL x1 x2 hN_K hN_KA q8 hc) (cw_F_143 hts ⟨Nat.le_of_ble_eq_true rfl, Nat.le_of_ble_eq_true rfl⟩) ⟨zbR, va_recv hK hP (ci := 5) rfl hN_K, (zpR hP hK hZ)⟩ rfl rfl hl.1 rfl (lv_room (Nat.le_of_ble_eq_true rfl)) d_F_block_51 ⟨Nat.zero_le _, Nat.zero_le _⟩)) (fun r9 hv => ?_)
          have hv := hv.symm
          subst hv
          obtain rfl := Option.some.inj hf
          exact z_iretT hx hb hr hlocks (fun t ht hW => ⟨Or.inl ⟨_, ws0, rfl, ⟨_, rfl, rfl, hw⟩, by rw [ht]; exact hP, va_K.moved hW.alike hK, hD⟩, hS.F ht⟩) hS.2.2 d_F_block_54 (Nat.zero_le _) (Nat.zero_le _)
        · have hf := z_f hc hf
          obtain rfl := Option.some.inj hf
          exact z_throw (own := "FractalMaps") (cls := "java/lang/IllegalArgumentException") (tx := "nothing such is told of a block") (names := exNames) (k := 2) hfl hx hb hml hl.1 hlocks hown hout hts hX hP hK hD hA (by decide +kernel) (by decide +kernel) oa_96 k_476 k_477 k_50 (by decide +kernel) rfl rfl d_F_block_35 d_F_block_38 d_F_block_39 d_F_block_41 d_F_block_44 (Nat.le_of_ble_eq_true rfl) (Nat.le_of_ble_eq_true rfl) (Nat.le_of_ble_eq_true rfl) (Nat.le_of_ble_eq_true rfl)
    · have hf := z_f hc hf
      obtain rfl := Option.some.inj hf
      exact z_throw (own := "FractalMaps") (cls := "java/lang/IndexOutOfBoundsException") (tx := "no such block") (names := exNames) (k := 1) hfl hx hb hml hl.1 hlocks hown hout hts hX hP hK hD hA (by decide +kernel) (by decide +kernel) oa_89 k_407 k_408 k_49 (by decide +kernel) rfl rfl d_F_block_15 d_F_block_18 d_F_block_19 d_F_block_21 d_F_block_24 (Nat.le_of_ble_eq_true rfl) (Nat.le_of_ble_eq_true rfl) (Nat.le_of_ble_eq_true rfl) (Nat.le_of_ble_eq_true rfl)
def f_B_bytes (B_filled : Int32) : Option (Int32) := some (((B_filled + (8 : Int32)) - (1 : Int32)) / (8 : Int32))
set_option maxHeartbeats 4000000 in
set_option maxRecDepth 100000 in
theorem c_B_bytes (l : Launch) (dC : Nat → ClassId) (dI : Nat → Nat → Nat) (cI cL : ClassId) {ws : va_W} {kB aB aBA : Nat} {B_filled B_taken : Int32} (hN_B : zA ws kB (aB, .inr (6, [.ref aBA, .int B_filled, .int B_taken]))) (r : Int32) (hf : f_B_bytes B_filled = some r) : Met l y_B_bytes w_B_bytes rm_B_bytes (va_Pc [.ref aB] (zR dC dI cI cL ws)) (vp_Si (fun v => v = r)) 0 0 (fun _ => False) := by
  refine Met.ofW (cc := b_B_bytes) (maxL := 1) (ret := some .int) (by decide) rfl ?_
  intro p e s m args below meth c s₁ B hml hv
  obtain ⟨rfl, hP, hK, hZ⟩ := hv
  have hx := B.exec
  have hb := B.bytes
  have hr := B.returns
  have hlocks := B.notSynchronized
  have hts : ∀ w ∈ BIG, w.before ([.ref aB] : List Value).toArray s = true := fun w h => atoms_spec (ws := w_B_bytes) B.pre w (List.mem_cons_of_mem _ h)
  have hown : s.vm.findClass "FractalMaps$Bits" = some m.cls := findClass_of_methodNamed B.named
  have hl := lv_entry ([.ref aB]) (n := 1) (Nat.le_of_ble_eq_true rfl)
  rw [lg_entry_eq]
  generalize (lg_sl ([.ref aB]) ++ List.replicate (1 - (lg_sl ([.ref aB])).length) Slot.unset).toArray = ls at hl ⊢
  have hl : lv_has ls 1 [(0, .ref aB)] := hl
  unfold f_B_bytes at hf
  refine lv_aload_n hx hb d_B_bytes_0 rfl (lv_at hl 0 rfl) ?_
  refine gf_B_24 (v := .int B_filled) hx hb hts hown hK hP hN_B rfl d_B_bytes_1 ?_
  refine lv_bipush (v := 8) hx hb d_B_bytes_4 (by decide) ?_
  refine lv_iadd hx hb d_B_bytes_6 ?_
  refine lv_iconst (v := 1) hx hb d_B_bytes_7 (by decide) ?_
  refine lv_isub hx hb d_B_bytes_8 ?_
  refine lv_bipush (v := 8) hx hb d_B_bytes_9 (by decide) ?_
  refine lv_idiv hx hb d_B_bytes_11 (by decide) ?_
  obtain rfl := Option.some.inj hf
  exact W.iret hx hb hr (fun t ht hW => ⟨_, rfl, rfl, ht⟩) (fun q h => by cases h) d_B_bytes_12
def f_B_byteOf (x1 : Int32) (BA_n : Nat) (BA_f : Nat → Int32) : Option (Int32) := if x1 < 0 then (some (0 : Int32)) else (if (nI BA_n) ≤ x1 then (some (0 : Int32)) else (if x1 < 0 ∨ BA_n ≤ x1.toNatClampNeg then none else (some (BA_f x1.toNatClampNeg))))
set_option maxHeartbeats 4000000 in
set_option maxRecDepth 100000 in
theorem c_B_byteOf (l : Launch) (dC : Nat → ClassId) (dI : Nat → Nat → Nat) (cI cL : ClassId) {ws : va_W} {kB kBA aB aBA : Nat} {B_filled B_taken : Int32} {BA_n : Nat} {BA_f : Nat → Int32} (x1 : Int32) (hN_B : zA ws kB (aB, .inr (6, [.ref aBA, .int B_filled, .int B_taken]))) (hN_BA : zA ws kBA (aBA, .inl (cI, BA_n, .inl BA_f))) (r : Int32) (hf : f_B_byteOf x1 BA_n BA_f = some r) : Met l y_B_byteOf w_B_byteOf rm_B_byteOf (va_Pc [.ref aB, .int x1] (zR dC dI cI cL ws)) (vp_Si (fun v => v = r)) 0 0 (fun _ => False) := by
  refine Met.ofW (cc := b_B_byteOf) (maxL := 2) (ret := some .int) (by decide) rfl ?_
  intro p e s m args below meth c s₁ B hml hv
  obtain ⟨rfl, hP, hK, hZ⟩ := hv
  have hx := B.exec
  have hb := B.bytes
  have hr := B.returns
  have hlocks := B.notSynchronized
  have hts : ∀ w ∈ BIG, w.before ([.ref aB, .int x1] : List Value).toArray s = true := fun w h => atoms_spec (ws := w_B_byteOf) B.pre w (List.mem_cons_of_mem _ h)
  have hown : s.vm.findClass "FractalMaps$Bits" = some m.cls := findClass_of_methodNamed B.named
  have hl := lv_entry ([.ref aB, .int x1]) (n := 2) (Nat.le_of_ble_eq_true rfl)
  rw [lg_entry_eq]
  generalize (lg_sl ([.ref aB, .int x1]) ++ List.replicate (2 - (lg_sl ([.ref aB, .int x1])).length) Slot.unset).toArray = ls at hl ⊢
  have hl : lv_has ls 2 [(0, .ref aB), (1, .int x1)] := hl
  unfold f_B_byteOf at hf
  refine lv_iload_n hx hb d_B_byteOf_0 rfl (lv_at hl 1 rfl) ?_
  refine lv_if_lt (tgt := 22) hx hb d_B_byteOf_1 (by decide) (fun hc => ?_) (fun hc => ?_)
  · have hf := z_t hc hf
    refine lv_iconst (v := 0) hx hb d_B_byteOf_22 (by decide) ?_
    obtain rfl := Option.some.inj hf
    exact W.iret hx hb hr (fun t ht hW => ⟨_, rfl, rfl, ht⟩) (fun q h => by cases h) d_B_byteOf_23
  · have hf := z_f hc hf
    refine lv_iload_n hx hb d_B_byteOf_4 rfl (lv_at hl 1 rfl) ?_
    refine lv_aload_n hx hb d_B_byteOf_5 rfl (lv_at hl 0 rfl) ?_
    refine gf_B_18 (v := .ref aBA) hx hb hts hown hK hP hN_B rfl d_B_byteOf_6 ?_
    refine va_alen (v := nI BA_n) hx hb hK hP _ 0 hN_BA rfl rfl d_B_byteOf_9 ?_
    refine lv_icmp_ge (tgt := 22) hx hb d_B_byteOf_10 (by decide) (fun hc => ?_) (fun hc => ?_)
    · have hf := z_t hc hf
      refine lv_iconst (v := 0) hx hb d_B_byteOf_22 (by decide) ?_
      obtain rfl := Option.some.inj hf
      exact W.iret hx hb hr (fun t ht hW => ⟨_, rfl, rfl, ht⟩) (fun q h => by cases h) d_B_byteOf_23
    · have hf := z_f hc hf
      refine lv_aload_n hx hb d_B_byteOf_13 rfl (lv_at hl 0 rfl) ?_
      refine gf_B_18 (v := .ref aBA) hx hb hts hown hK hP hN_B rfl d_B_byteOf_14 ?_
      refine lv_iload_n hx hb d_B_byteOf_17 rfl (lv_at hl 1 rfl) ?_
      obtain ⟨hin, hf⟩ := z_no hf
      refine va_iald hx hb hK hP _ 0 hN_BA rfl hin d_B_byteOf_18 ?_
      refine lv_goto (tgt := 23) hx hb d_B_byteOf_19 (by decide) ?_
      obtain rfl := Option.some.inj hf
      exact W.iret hx hb hr (fun t ht hW => ⟨_, rfl, rfl, ht⟩) (fun q h => by cases h) d_B_byteOf_23
def f_F_byteAt (x1 : Int32) (C_filled : Int32) (CA_n : Nat) (CA_f : Nat → Int32) : Option (Nat ⊕ (Int32)) := if x1 < 0 then (some (.inl 1)) else ((f_B_bytes C_filled).bind (fun q10 => if x1 < q10 then ((f_B_byteOf x1 CA_n CA_f).bind (fun q12 => some (.inr q12))) else (some (.inl 1))))
set_option maxHeartbeats 4000000 in
set_option maxRecDepth 100000 in
theorem c_F_byteAt (l : Launch) (hfl : l.flags = pinnedFlags ++ [noTraceFlag]) (dC : Nat → ClassId) (dI : Nat → Nat → Nat) (cI cL : ClassId) {ws0 : va_W} (sz : Nat) {aO aP aN aH aV aS aK aT aC aI aCA : Nat} {O_side C_filled C_taken : Int32} {CA_n : Nat} {CA_f : Nat → Int32} (x1 : Int32) (hN_O : zA ws0 0 (aO, .inr (0, [.int O_side, .ref aP, .ref aN, .ref aH, .ref aV, .ref aS, .ref aK, .ref aT, .ref aC, .ref aI]))) (hN_C : zA ws0 17 (aC, .inr (6, [.ref aCA, .int C_filled, .int C_taken]))) (hN_CA : zA ws0 18 (aCA, .inl (cI, CA_n, .inl CA_f))) (r : Nat ⊕ (Int32)) (hf : f_F_byteAt x1 C_filled CA_n CA_f = some r) : MetT l y_F_byteAt w_F_byteAt rm_F_byteAt (va_Pc [.ref aO, .int x1] (zMT dC dI cI cL ws0 sz)) (zX (fun (v : Int32) (ws' : va_W) => ∃ r1, r = .inr r1 ∧ v = r1 ∧ ∀ (j : Nat), j ∉ ([] : List Nat) → ws'[j]? = ws0[j]?) (fun k => r = .inl k) Value.int (zQ dC dI cI cL (va_A ws0 sz)) ws0 (va_A ws0 sz)) 1 6 (va_A ws0 sz) := by
  refine MetT.ofW (cc := b_F_byteAt) (maxL := 2) (ret := some .int) (by decide) rfl ?_
  intro p e s m args below meth c s₁ B hml hv
  obtain ⟨rfl, hsz, hP, hK, hZ, hD0, hX⟩ := hv
  have hx := B.exec
  have hb := B.bytes
  have hr := B.returns
  have hlocks := B.notSynchronized
  have hts : ∀ w ∈ BIG, w.before ([.ref aO, .int x1] : List Value).toArray s = true := fun w h => atoms_spec (ws := w_F_byteAt) B.pre w (List.mem_cons_of_mem _ h)
  have hown : s.vm.findClass "FractalMaps" = some m.cls := findClass_of_methodNamed B.named
  have hout : c.exceptionTable.toList = [] := by simpa using B.noHandlers (atoms_spec (ws := w_F_byteAt) B.pre _ List.mem_cons_self)
  subst hsz
  have hD := hD0.self (sz := s.heap.size)
  generalize hAe : va_A ws0 s.heap.size = A at hD ⊢
  have hA : ∀ q : Nat, s.heap.size ≤ q → A q := fun q h => by rw [← hAe]; exact Or.inr h
  have hS : va_S A s.heap s.heap [] := va_S.rf
  have hw : ∀ (j : Nat), j ∉ ([] : List Nat) → ws0[j]? = ws0[j]? := fun _ _ => rfl
  have hl := lv_entry ([.ref aO, .int x1]) (n := 2) (Nat.le_of_ble_eq_true rfl)
  rw [lg_entry_eq]
  generalize (lg_sl ([.ref aO, .int x1]) ++ List.replicate (2 - (lg_sl ([.ref aO, .int x1])).length) Slot.unset).toArray = ls at hl ⊢
  have hl : lv_has ls 2 [(0, .ref aO), (1, .int x1)] := hl
  unfold f_F_byteAt at hf
  refine lv_iload_n hx hb d_F_byteAt_0 rfl (lv_at hl 1 rfl) ?_
  refine lv_if_lt (tgt := 15) hx hb d_F_byteAt_1 (by decide) (fun hc => ?_) (fun hc => ?_)
  · have hf := z_t hc hf
    obtain rfl := Option.some.inj hf
    exact z_throw (own := "FractalMaps") (cls := "java/lang/IndexOutOfBoundsException") (tx := "no such byte") (names := exNames) (k := 1) hfl hx hb hml hl.1 hlocks hown hout hts hX hP hK hD hA (by decide +kernel) (by decide +kernel) oa_89 k_407 k_408 k_49 (by decide +kernel) rfl rfl d_F_byteAt_15 d_F_byteAt_18 d_F_byteAt_19 d_F_byteAt_21 d_F_byteAt_24 (Nat.le_of_ble_eq_true rfl) (Nat.le_of_ble_eq_true rfl) (Nat.le_of_ble_eq_true rfl) (Nat.le_of_ble_eq_true rfl)
  · have hf := z_f hc hf
    refine lv_iload_n hx hb d_F_byteAt_4 rfl (lv_at hl 1 rfl) ?_
    refine lv_aload_n hx hb d_F_byteAt_5 rfl (lv_at hl 0 rfl) ?_
    refine gf_F_74 (v := .ref aC) hx hb hts hown hK hP hN_O rfl d_F_byteAt_6 ?_
    obtain ⟨q10, hc, hf⟩ := z_b hf
    refine vp_callSi (z_cr (va_runV (As := []) (rest := [.int x1]) ⟨hx, hb, hml, hown, hts⟩ (c_B_bytes l dC dI cI cL hN_C q10 hc) (cw_F_146 hts ⟨Nat.le_of_ble_eq_true rfl, Nat.le_of_ble_eq_true rfl⟩) ⟨zbR, va_recv hK hP (ci := 6) rfl hN_C, (zpR hP hK hZ)⟩ rfl rfl hl.1 rfl (lv_room (Nat.le_of_ble_eq_true rfl)) d_F_byteAt_9 ⟨Nat.zero_le _, Nat.zero_le _⟩)) (fun r11 hv => ?_)
    have hv := hv.symm
    subst hv
    refine lv_icmp_lt (tgt := 25) hx hb d_F_byteAt_12 (by decide) (fun hc => ?_) (fun hc => ?_)
    · have hf := z_t hc hf
      refine lv_aload_n hx hb d_F_byteAt_25 rfl (lv_at hl 0 rfl) ?_
      refine gf_F_74 (v := .ref aC) hx hb hts hown hK hP hN_O rfl d_F_byteAt_26 ?_
      refine lv_iload_n hx hb d_F_byteAt_29 rfl (lv_at hl 1 rfl) ?_
      obtain ⟨q12, hc, hf⟩ := z_b hf
      refine vp_callSi (z_cr (va_runV (As := [.int x1]) (rest := []) ⟨hx, hb, hml, hown, hts⟩ (c_B_byteOf l dC dI cI cL x1 hN_C hN_CA q12 hc) (cw_F_152 hts ⟨Nat.le_of_ble_eq_true rfl, Nat.le_of_ble_eq_true rfl⟩) ⟨zbR, va_recv hK hP (ci := 6) rfl hN_C, (zpR hP hK hZ)⟩ rfl rfl hl.1 rfl (lv_room (Nat.le_of_ble_eq_true rfl)) d_F_byteAt_30 ⟨Nat.zero_le _, Nat.zero_le _⟩)) (fun r13 hv => ?_)
      have hv := hv.symm
      subst hv
      obtain rfl := Option.some.inj hf
      exact z_iretT hx hb hr hlocks (fun t ht hW => ⟨Or.inl ⟨_, ws0, rfl, ⟨_, rfl, rfl, hw⟩, by rw [ht]; exact hP, va_K.moved hW.alike hK, hD⟩, hS.F ht⟩) hS.2.2 d_F_byteAt_33 (Nat.zero_le _) (Nat.zero_le _)
    · have hf := z_f hc hf
      obtain rfl := Option.some.inj hf
      exact z_throw (own := "FractalMaps") (cls := "java/lang/IndexOutOfBoundsException") (tx := "no such byte") (names := exNames) (k := 1) hfl hx hb hml hl.1 hlocks hown hout hts hX hP hK hD hA (by decide +kernel) (by decide +kernel) oa_89 k_407 k_408 k_49 (by decide +kernel) rfl rfl d_F_byteAt_15 d_F_byteAt_18 d_F_byteAt_19 d_F_byteAt_21 d_F_byteAt_24 (Nat.le_of_ble_eq_true rfl) (Nat.le_of_ble_eq_true rfl) (Nat.le_of_ble_eq_true rfl) (Nat.le_of_ble_eq_true rfl)
def f_B_appendBit (x1 : Int32) (B_filled : Int32) (BA_n : Nat) (BA_f : Nat → Int32) : Option (Int32 × (Nat → Int32)) := if (B_filled / (8 : Int32)) < 0 then (some (B_filled, BA_f)) else (if (B_filled / (8 : Int32)) < (nI BA_n) then (if (B_filled - B_filled / (8 : Int32) * (8 : Int32)) = 0 then (if (B_filled / (8 : Int32)) < 0 ∨ BA_n ≤ (B_filled / (8 : Int32)).toNatClampNeg then none else (some ((B_filled + (1 : Int32)), (upd BA_f (B_filled / (8 : Int32)).toNatClampNeg ((0 : Int32) ||| (x1 <<< (((7 : Int32) - (B_filled - B_filled / (8 : Int32) * (8 : Int32))) &&& 31))))))) else (if (B_filled / (8 : Int32)) < 0 ∨ BA_n ≤ (B_filled / (8 : Int32)).toNatClampNeg then none else (if (B_filled / (8 : Int32)) < 0 ∨ BA_n ≤ (B_filled / (8 : Int32)).toNatClampNeg then none else (some ((B_filled + (1 : Int32)), (upd BA_f (B_filled / (8 : Int32)).toNatClampNeg ((BA_f (B_filled / (8 : Int32)).toNatClampNeg) ||| (x1 <<< (((7 : Int32) - (B_filled - B_filled / (8 : Int32) * (8 : Int32))) &&& 31))))))))) else (some (B_filled, BA_f)))
set_option maxHeartbeats 4000000 in
set_option maxRecDepth 100000 in
theorem c_B_appendBit (l : Launch) (dC : Nat → ClassId) (dI : Nat → Nat → Nat) (cI cL : ClassId) {ws0 : va_W} (sz : Nat) {kB kBA aB aBA : Nat} {B_filled B_taken : Int32} {BA_n : Nat} {BA_f : Nat → Int32} (x1 : Int32) (hN_B : zA ws0 kB (aB, .inr (6, [.ref aBA, .int B_filled, .int B_taken]))) (hN_BA : zA ws0 kBA (aBA, .inl (cI, BA_n, .inl BA_f))) (ne_B_BA : kB ≠ kBA) (r : Int32 × (Nat → Int32)) (hf : f_B_appendBit x1 B_filled BA_n BA_f = some r) : Met l y_B_appendBit w_B_appendBit rm_B_appendBit (va_Pc [.ref aB, .int x1] (zM dC dI cI cL ws0 sz)) (va_Qv (fun ws' : va_W => zA ws' kB (aB, .inr (6, [.ref aBA, .int r.1, .int B_taken])) ∧ zA ws' kBA (aBA, .inl (cI, BA_n, .inl r.2)) ∧ ∀ (j : Nat), j ∉ ([kB, kBA] : List Nat) → ws'[j]? = ws0[j]?) (zQ dC dI cI cL (va_A ws0 sz)) (va_A ws0 sz)) 0 0 (va_A ws0 sz) := by
  refine Met.ofW (cc := b_B_appendBit) (maxL := 5) (ret := none) (by decide) rfl ?_
  intro p e s m args below meth c s₁ B hml hv
  obtain ⟨rfl, hsz, hP, hK, hZ, hD0⟩ := hv
  have hx := B.exec
  have hb := B.bytes
  have hr := B.returns
  have hlocks := B.notSynchronized
  have hts : ∀ w ∈ BIG, w.before ([.ref aB, .int x1] : List Value).toArray s = true := fun w h => atoms_spec (ws := w_B_appendBit) B.pre w (List.mem_cons_of_mem _ h)
  have hown : s.vm.findClass "FractalMaps$Bits" = some m.cls := findClass_of_methodNamed B.named
  subst hsz
  have hD := hD0.self (sz := s.heap.size)
  generalize hAe : va_A ws0 s.heap.size = A at hD ⊢
  have hA : ∀ q : Nat, s.heap.size ≤ q → A q := fun q h => by rw [← hAe]; exact Or.inr h
  have hS : va_S A s.heap s.heap [] := va_S.rf
  have hw : ∀ (j : Nat), j ∉ ([kB, kBA] : List Nat) → ws0[j]? = ws0[j]? := fun _ _ => rfl
  have hl := lv_entry ([.ref aB, .int x1]) (n := 5) (Nat.le_of_ble_eq_true rfl)
  rw [lg_entry_eq]
  generalize (lg_sl ([.ref aB, .int x1]) ++ List.replicate (5 - (lg_sl ([.ref aB, .int x1])).length) Slot.unset).toArray = ls at hl ⊢
  have hl : lv_has ls 5 [(0, .ref aB), (1, .int x1)] := hl
  unfold f_B_appendBit at hf
  refine lv_aload_n hx hb d_B_appendBit_0 rfl (lv_at hl 0 rfl) ?_
  refine gf_B_24 (v := .int B_filled) hx hb hts hown hK hP hN_B rfl d_B_appendBit_1 ?_
  refine lv_bipush (v := 8) hx hb d_B_appendBit_4 (by decide) ?_
  refine lv_idiv hx hb d_B_appendBit_6 (by decide) ?_
  refine lv_istore_n (lv' := [(2, .int (B_filled / (8 : Int32))), (0, .ref aB), (1, .int x1)]) hx hb d_B_appendBit_7 rfl hl (by decide) rfl (fun ls hl => ?_)
  refine lv_iload_n hx hb d_B_appendBit_8 rfl (lv_at hl 0 rfl) ?_
  refine lv_if_lt (tgt := 21) hx hb d_B_appendBit_9 (by decide) (fun hc => ?_) (fun hc => ?_)
  · have hf := z_t hc hf
    obtain rfl := Option.some.inj hf
    exact W.vret hx hb hr (fun t ht hW => ⟨⟨ws0, rfl, ⟨hN_B, hN_BA, hw⟩, by rw [ht]; exact hP, va_K.moved hW.alike hK, hD⟩, hS.F ht⟩) hS.2.2 d_B_appendBit_21
  · have hf := z_f hc hf
    refine lv_iload_n hx hb d_B_appendBit_12 rfl (lv_at hl 0 rfl) ?_
    refine lv_aload_n hx hb d_B_appendBit_13 rfl (lv_at hl 1 rfl) ?_
    refine gf_B_18 (v := .ref aBA) hx hb hts hown hK hP hN_B rfl d_B_appendBit_14 ?_
    refine va_alen (v := nI BA_n) hx hb hK hP _ 0 hN_BA rfl rfl d_B_appendBit_17 ?_
    refine lv_icmp_lt (tgt := 22) hx hb d_B_appendBit_18 (by decide) (fun hc => ?_) (fun hc => ?_)
    · have hf := z_t hc hf
      refine lv_aload_n hx hb d_B_appendBit_22 rfl (lv_at hl 1 rfl) ?_
      refine gf_B_24 (v := .int B_filled) hx hb hts hown hK hP hN_B rfl d_B_appendBit_23 ?_
      refine lv_bipush (v := 8) hx hb d_B_appendBit_26 (by decide) ?_
      refine lv_irem hx hb d_B_appendBit_28 (by decide) ?_
      refine lv_istore_n (lv' := [(3, .int (B_filled - B_filled / (8 : Int32) * (8 : Int32))), (2, .int (B_filled / (8 : Int32))), (0, .ref aB), (1, .int x1)]) hx hb d_B_appendBit_29 rfl hl (by decide) rfl (fun ls hl => ?_)
      refine lv_iload_n hx hb d_B_appendBit_30 rfl (lv_at hl 0 rfl) ?_
      refine lv_if_ne (tgt := 38) hx hb d_B_appendBit_31 (by decide) (fun hc => ?_) (fun hc => ?_)
      · have hf := z_f hc hf
        refine lv_aload_n hx hb d_B_appendBit_38 rfl (lv_at hl 2 rfl) ?_
        refine gf_B_18 (v := .ref aBA) hx hb hts hown hK hP hN_B rfl d_B_appendBit_39 ?_
        refine lv_iload_n hx hb d_B_appendBit_42 rfl (lv_at hl 1 rfl) ?_
        obtain ⟨hin, hf⟩ := z_no hf
        refine va_iald hx hb hK hP _ 0 hN_BA rfl hin d_B_appendBit_43 ?_
        refine lv_istore (lv' := [(4, .int (BA_f (B_filled / (8 : Int32)).toNatClampNeg)), (3, .int (B_filled - B_filled / (8 : Int32) * (8 : Int32))), (2, .int (B_filled / (8 : Int32))), (0, .ref aB), (1, .int x1)]) hx hb d_B_appendBit_44 hl (by decide) rfl (fun ls hl => ?_)
        refine lv_aload_n hx hb d_B_appendBit_46 rfl (lv_at hl 3 rfl) ?_
        refine gf_B_18 (v := .ref aBA) hx hb hts hown hK hP hN_B rfl d_B_appendBit_47 ?_
        refine lv_iload_n hx hb d_B_appendBit_50 rfl (lv_at hl 2 rfl) ?_
        refine lv_iload hx hb d_B_appendBit_51 (lv_at hl 0 rfl) ?_
        refine lv_iload_n hx hb d_B_appendBit_53 rfl (lv_at hl 4 rfl) ?_
        refine lv_bipush (v := 7) hx hb d_B_appendBit_54 (by decide) ?_
        refine lv_iload_n hx hb d_B_appendBit_56 rfl (lv_at hl 1 rfl) ?_
        refine lv_isub hx hb d_B_appendBit_57 ?_
        refine lv_ishl hx hb d_B_appendBit_58 ?_
        refine lv_ior hx hb d_B_appendBit_59 ?_
        obtain ⟨hin, hf⟩ := z_no hf
        refine z_iast hx hb hK hP hD hS hN_BA rfl hin d_B_appendBit_60 (fun ws H locs hP hD hS hN_BA hfr => ?_)
        have hN_BA : zA ws kBA (aBA, .inl (cI, BA_n, .inl (upd BA_f (B_filled / (8 : Int32)).toNatClampNeg ((BA_f (B_filled / (8 : Int32)).toNatClampNeg) ||| (x1 <<< (((7 : Int32) - (B_filled - B_filled / (8 : Int32) * (8 : Int32))) &&& 31)))))) := hN_BA
        have hN_B := (hfr _ ne_B_BA).trans hN_B
        have hw := z_fr (List.mem_cons_of_mem _ List.mem_cons_self) hw hfr
        refine lv_aload_n hx hb d_B_appendBit_61 rfl (lv_at hl 3 rfl) ?_
        refine lv_dup hx hb d_B_appendBit_62 rfl ?_
        refine gf_B_24 (v := .int B_filled) hx hb hts hown hK hP hN_B rfl d_B_appendBit_63 ?_
        refine lv_iconst (v := 1) hx hb d_B_appendBit_66 (by decide) ?_
        refine lv_iadd hx hb d_B_appendBit_67 ?_
        refine pf_B_24 (v := .int (B_filled + (1 : Int32))) hx hb hts hown hK hP hD hS hN_B rfl rfl (Nat.le_of_ble_eq_true rfl) d_B_appendBit_68 (fun ws H locs hP hD hS hN_B hfr => ?_)
        have hN_B : zA ws kB (aB, .inr (6, [.ref aBA, .int (B_filled + (1 : Int32)), .int B_taken])) := hN_B
        have hN_BA := (hfr _ ne_B_BA.symm).trans hN_BA
        have hw := z_fr List.mem_cons_self hw hfr
        obtain rfl := Option.some.inj hf
        exact W.vret hx hb hr (fun t ht hW => ⟨⟨ws, rfl, ⟨hN_B, hN_BA, hw⟩, by rw [ht]; exact hP, va_K.moved hW.alike hK, hD⟩, hS.F ht⟩) hS.2.2 d_B_appendBit_71
      · have hf := z_t hc hf
        refine lv_iconst (v := 0) hx hb d_B_appendBit_34 (by decide) ?_
        refine lv_goto (tgt := 44) hx hb d_B_appendBit_35 (by decide) ?_
        refine lv_istore (lv' := [(4, .int (0 : Int32)), (3, .int (B_filled - B_filled / (8 : Int32) * (8 : Int32))), (2, .int (B_filled / (8 : Int32))), (0, .ref aB), (1, .int x1)]) hx hb d_B_appendBit_44 hl (by decide) rfl (fun ls hl => ?_)
        refine lv_aload_n hx hb d_B_appendBit_46 rfl (lv_at hl 3 rfl) ?_
        refine gf_B_18 (v := .ref aBA) hx hb hts hown hK hP hN_B rfl d_B_appendBit_47 ?_
        refine lv_iload_n hx hb d_B_appendBit_50 rfl (lv_at hl 2 rfl) ?_
        refine lv_iload hx hb d_B_appendBit_51 (lv_at hl 0 rfl) ?_
        refine lv_iload_n hx hb d_B_appendBit_53 rfl (lv_at hl 4 rfl) ?_
        refine lv_bipush (v := 7) hx hb d_B_appendBit_54 (by decide) ?_
        refine lv_iload_n hx hb d_B_appendBit_56 rfl (lv_at hl 1 rfl) ?_
        refine lv_isub hx hb d_B_appendBit_57 ?_
        refine lv_ishl hx hb d_B_appendBit_58 ?_
        refine lv_ior hx hb d_B_appendBit_59 ?_
        obtain ⟨hin, hf⟩ := z_no hf
        refine z_iast hx hb hK hP hD hS hN_BA rfl hin d_B_appendBit_60 (fun ws H locs hP hD hS hN_BA hfr => ?_)
        have hN_BA : zA ws kBA (aBA, .inl (cI, BA_n, .inl (upd BA_f (B_filled / (8 : Int32)).toNatClampNeg ((0 : Int32) ||| (x1 <<< (((7 : Int32) - (B_filled - B_filled / (8 : Int32) * (8 : Int32))) &&& 31)))))) := hN_BA
        have hN_B := (hfr _ ne_B_BA).trans hN_B
        have hw := z_fr (List.mem_cons_of_mem _ List.mem_cons_self) hw hfr
        refine lv_aload_n hx hb d_B_appendBit_61 rfl (lv_at hl 3 rfl) ?_
        refine lv_dup hx hb d_B_appendBit_62 rfl ?_
        refine gf_B_24 (v := .int B_filled) hx hb hts hown hK hP hN_B rfl d_B_appendBit_63 ?_
        refine lv_iconst (v := 1) hx hb d_B_appendBit_66 (by decide) ?_
        refine lv_iadd hx hb d_B_appendBit_67 ?_
        refine pf_B_24 (v := .int (B_filled + (1 : Int32))) hx hb hts hown hK hP hD hS hN_B rfl rfl (Nat.le_of_ble_eq_true rfl) d_B_appendBit_68 (fun ws H locs hP hD hS hN_B hfr => ?_)
        have hN_B : zA ws kB (aB, .inr (6, [.ref aBA, .int (B_filled + (1 : Int32)), .int B_taken])) := hN_B
        have hN_BA := (hfr _ ne_B_BA.symm).trans hN_BA
        have hw := z_fr List.mem_cons_self hw hfr
        obtain rfl := Option.some.inj hf
        exact W.vret hx hb hr (fun t ht hW => ⟨⟨ws, rfl, ⟨hN_B, hN_BA, hw⟩, by rw [ht]; exact hP, va_K.moved hW.alike hK, hD⟩, hS.F ht⟩) hS.2.2 d_B_appendBit_71
    · have hf := z_f hc hf
      obtain rfl := Option.some.inj hf
      exact W.vret hx hb hr (fun t ht hW => ⟨⟨ws0, rfl, ⟨hN_B, hN_BA, hw⟩, by rw [ht]; exact hP, va_K.moved hW.alike hK, hD⟩, hS.F ht⟩) hS.2.2 d_B_appendBit_21
