def f_F_brought (x1 : Int64) (x2 : Int64) (x3 : Int64) : Option (Int64) := some (if (if x3 < x1 then x3 else x1) < x2 then x2 else (if x3 < x1 then x3 else x1))
set_option maxHeartbeats 4000000 in
set_option maxRecDepth 100000 in
theorem c_F_brought (l : Launch) (x1 : Int64) (x2 : Int64) (x3 : Int64) (r : Int64) (hf : f_F_brought x1 x2 x3 = some r) : Met l y_F_brought w_F_brought rm_F_brought (va_Pc [.long x1, .long x2, .long x3] (fun _ => True)) (vp_Sl (fun v => v = r)) 0 0 (fun _ => False) := by
  refine Met.ofW (cc := b_F_brought) (maxL := 6) (ret := some .long) (by decide) rfl ?_
  intro p e s m args below meth c s₁ B hml hv
  obtain ⟨rfl, -⟩ := hv
  have hx := B.exec
  have hb := B.bytes
  have hr := B.returns
  have hlocks := B.notSynchronized
  have hts : ∀ w ∈ BIG, w.before ([.long x1, .long x2, .long x3] : List Value).toArray s = true := fun w h => atoms_spec (ws := w_F_brought) B.pre w (List.mem_cons_of_mem _ h)
  have hown : s.vm.findClass "FractalMaps" = some m.cls := findClass_of_methodNamed B.named
  have hl := lv_entry ([.long x1, .long x2, .long x3]) (n := 6) (Nat.le_of_ble_eq_true rfl)
  rw [lg_entry_eq]
  generalize (lg_sl ([.long x1, .long x2, .long x3]) ++ List.replicate (6 - (lg_sl ([.long x1, .long x2, .long x3])).length) Slot.unset).toArray = ls at hl ⊢
  have hl : lv_has ls 6 [(0, .long x1), (2, .long x2), (4, .long x3)] := hl
  unfold f_F_brought at hf
  refine lv_lload_n hx hb d_F_brought_0 rfl (lv_at hl 1 rfl) ?_
  refine lv_lload_n hx hb d_F_brought_1 rfl (lv_at hl 0 rfl) ?_
  refine lv_lload hx hb d_F_brought_2 (lv_at hl 2 rfl) ?_
  refine mm_F_290 hx hb (hml.trans hl.1.symm) hown hts (Nat.le_of_ble_eq_true rfl) (Nat.le_of_ble_eq_true rfl) (Nat.zero_le _) (Nat.zero_le _) d_F_brought_4 ?_
  refine mm_F_293 hx hb (hml.trans hl.1.symm) hown hts (Nat.le_of_ble_eq_true rfl) (Nat.le_of_ble_eq_true rfl) (Nat.zero_le _) (Nat.zero_le _) d_F_brought_7 ?_
  obtain rfl := Option.some.inj hf
  exact W.lret hx hb hr (fun t ht hW => ⟨_, rfl, rfl, ht⟩) (fun q h => by cases h) d_F_brought_10
def f_G_sample (x1 : Int32) (x2 : Int32) (G_side : Int32) (GA_n : Nat) (GA_f : Nat → Int32) : Option (Int32) := if x1 < 0 then (some (0 : Int32)) else (if G_side ≤ x1 then (some (0 : Int32)) else (if x2 < 0 then (some (0 : Int32)) else (if G_side ≤ x2 then (some (0 : Int32)) else (if ((x2 * G_side) + x1) < 0 ∨ GA_n ≤ ((x2 * G_side) + x1).toNatClampNeg then none else (some (GA_f ((x2 * G_side) + x1).toNatClampNeg))))))
set_option maxHeartbeats 4000000 in
set_option maxRecDepth 100000 in
theorem c_G_sample (l : Launch) (dC : Nat → ClassId) (dI : Nat → Nat → Nat) (cI cL : ClassId) {ws : va_W} {kG kGA aG aGA : Nat} {G_mostSide G_side : Int32} {GA_n : Nat} {GA_f : Nat → Int32} (x1 : Int32) (x2 : Int32) (hN_G : ws[kG]? = some (aG, .inr (1, [.int G_mostSide, .ref aGA, .int G_side]))) (hN_GA : ws[kGA]? = some (aGA, .inl (cI, GA_n, .inl GA_f))) (r : Int32) (hf : f_G_sample x1 x2 G_side GA_n GA_f = some r) : Met l y_G_sample w_G_sample rm_G_sample (va_Pc [.ref aG, .int x1, .int x2] (zR dC dI cI cL ws)) (vp_Si (fun v => v = r)) 0 0 (fun _ => False) := by
  refine Met.ofW (cc := b_G_sample) (maxL := 3) (ret := some .int) (by decide) rfl ?_
  intro p e s m args below meth c s₁ B hml hv
  obtain ⟨rfl, hP, hK, hZ⟩ := hv
  have hx := B.exec
  have hb := B.bytes
  have hr := B.returns
  have hlocks := B.notSynchronized
  have hts : ∀ w ∈ BIG, w.before ([.ref aG, .int x1, .int x2] : List Value).toArray s = true := fun w h => atoms_spec (ws := w_G_sample) B.pre w (List.mem_cons_of_mem _ h)
  have hown : s.vm.findClass "FractalMaps$Grid" = some m.cls := findClass_of_methodNamed B.named
  have hl := lv_entry ([.ref aG, .int x1, .int x2]) (n := 3) (Nat.le_of_ble_eq_true rfl)
  rw [lg_entry_eq]
  generalize (lg_sl ([.ref aG, .int x1, .int x2]) ++ List.replicate (3 - (lg_sl ([.ref aG, .int x1, .int x2])).length) Slot.unset).toArray = ls at hl ⊢
  have hl : lv_has ls 3 [(0, .ref aG), (1, .int x1), (2, .int x2)] := hl
  unfold f_G_sample at hf
  refine lv_iload_n hx hb d_G_sample_0 rfl (lv_at hl 1 rfl) ?_
  refine lv_if_lt (tgt := 40) hx hb d_G_sample_1 (by decide) (fun hc => ?_) (fun hc => ?_)
  · have hf := z_t hc hf
    refine lv_iconst (v := 0) hx hb d_G_sample_40 (by decide) ?_
    obtain rfl := Option.some.inj hf
    exact W.iret hx hb hr (fun t ht hW => ⟨_, rfl, rfl, ht⟩) (fun q h => by cases h) d_G_sample_41
  · have hf := z_f hc hf
    refine lv_iload_n hx hb d_G_sample_4 rfl (lv_at hl 1 rfl) ?_
    refine lv_aload_n hx hb d_G_sample_5 rfl (lv_at hl 0 rfl) ?_
    refine gf_G_24 (v := .int G_side) hx hb hts hown hK hP hN_G rfl d_G_sample_6 ?_
    refine lv_icmp_ge (tgt := 40) hx hb d_G_sample_9 (by decide) (fun hc => ?_) (fun hc => ?_)
    · have hf := z_t hc hf
      refine lv_iconst (v := 0) hx hb d_G_sample_40 (by decide) ?_
      obtain rfl := Option.some.inj hf
      exact W.iret hx hb hr (fun t ht hW => ⟨_, rfl, rfl, ht⟩) (fun q h => by cases h) d_G_sample_41
    · have hf := z_f hc hf
      refine lv_iload_n hx hb d_G_sample_12 rfl (lv_at hl 2 rfl) ?_
      refine lv_if_lt (tgt := 40) hx hb d_G_sample_13 (by decide) (fun hc => ?_) (fun hc => ?_)
      · have hf := z_t hc hf
        refine lv_iconst (v := 0) hx hb d_G_sample_40 (by decide) ?_
        obtain rfl := Option.some.inj hf
        exact W.iret hx hb hr (fun t ht hW => ⟨_, rfl, rfl, ht⟩) (fun q h => by cases h) d_G_sample_41
      · have hf := z_f hc hf
        refine lv_iload_n hx hb d_G_sample_16 rfl (lv_at hl 2 rfl) ?_
        refine lv_aload_n hx hb d_G_sample_17 rfl (lv_at hl 0 rfl) ?_
        refine gf_G_24 (v := .int G_side) hx hb hts hown hK hP hN_G rfl d_G_sample_18 ?_
        refine lv_icmp_ge (tgt := 40) hx hb d_G_sample_21 (by decide) (fun hc => ?_) (fun hc => ?_)
        · have hf := z_t hc hf
          refine lv_iconst (v := 0) hx hb d_G_sample_40 (by decide) ?_
          obtain rfl := Option.some.inj hf
          exact W.iret hx hb hr (fun t ht hW => ⟨_, rfl, rfl, ht⟩) (fun q h => by cases h) d_G_sample_41
        · have hf := z_f hc hf
          refine lv_aload_n hx hb d_G_sample_24 rfl (lv_at hl 0 rfl) ?_
          refine gf_G_27 (v := .ref aGA) hx hb hts hown hK hP hN_G rfl d_G_sample_25 ?_
          refine lv_iload_n hx hb d_G_sample_28 rfl (lv_at hl 2 rfl) ?_
          refine lv_aload_n hx hb d_G_sample_29 rfl (lv_at hl 0 rfl) ?_
          refine gf_G_24 (v := .int G_side) hx hb hts hown hK hP hN_G rfl d_G_sample_30 ?_
          refine lv_imul hx hb d_G_sample_33 ?_
          refine lv_iload_n hx hb d_G_sample_34 rfl (lv_at hl 1 rfl) ?_
          refine lv_iadd hx hb d_G_sample_35 ?_
          obtain ⟨hin, hf⟩ := z_no hf
          refine va_iald hx hb hK hP _ 0 hN_GA rfl hin d_G_sample_36 ?_
          refine lv_goto (tgt := 41) hx hb d_G_sample_37 (by decide) ?_
          obtain rfl := Option.some.inj hf
          exact W.iret hx hb hr (fun t ht hW => ⟨_, rfl, rfl, ht⟩) (fun q h => by cases h) d_G_sample_41
def f_G_has (x1 : Int32) (x2 : Int32) (G_side : Int32) : Option (Int32) := if x1 < 0 then (some (0 : Int32)) else (if G_side ≤ x1 then (some (0 : Int32)) else (if x2 < 0 then (some (0 : Int32)) else (if G_side ≤ x2 then (some (0 : Int32)) else (some (1 : Int32)))))
set_option maxHeartbeats 4000000 in
set_option maxRecDepth 100000 in
theorem c_G_has (l : Launch) (dC : Nat → ClassId) (dI : Nat → Nat → Nat) (cI cL : ClassId) {ws : va_W} {kG aG aGA : Nat} {G_mostSide G_side : Int32} (x1 : Int32) (x2 : Int32) (hN_G : ws[kG]? = some (aG, .inr (1, [.int G_mostSide, .ref aGA, .int G_side]))) (r : Int32) (hf : f_G_has x1 x2 G_side = some r) : Met l y_G_has w_G_has rm_G_has (va_Pc [.ref aG, .int x1, .int x2] (zR dC dI cI cL ws)) (vp_Si (fun v => v = r)) 0 0 (fun _ => False) := by
  refine Met.ofW (cc := b_G_has) (maxL := 3) (ret := some .boolean) (by decide) rfl ?_
  intro p e s m args below meth c s₁ B hml hv
  obtain ⟨rfl, hP, hK, hZ⟩ := hv
  have hx := B.exec
  have hb := B.bytes
  have hr := B.returns
  have hlocks := B.notSynchronized
  have hts : ∀ w ∈ BIG, w.before ([.ref aG, .int x1, .int x2] : List Value).toArray s = true := fun w h => atoms_spec (ws := w_G_has) B.pre w (List.mem_cons_of_mem _ h)
  have hown : s.vm.findClass "FractalMaps$Grid" = some m.cls := findClass_of_methodNamed B.named
  have hl := lv_entry ([.ref aG, .int x1, .int x2]) (n := 3) (Nat.le_of_ble_eq_true rfl)
  rw [lg_entry_eq]
  generalize (lg_sl ([.ref aG, .int x1, .int x2]) ++ List.replicate (3 - (lg_sl ([.ref aG, .int x1, .int x2])).length) Slot.unset).toArray = ls at hl ⊢
  have hl : lv_has ls 3 [(0, .ref aG), (1, .int x1), (2, .int x2)] := hl
  unfold f_G_has at hf
  refine lv_iload_n hx hb d_G_has_0 rfl (lv_at hl 1 rfl) ?_
  refine lv_if_lt (tgt := 28) hx hb d_G_has_1 (by decide) (fun hc => ?_) (fun hc => ?_)
  · have hf := z_t hc hf
    refine lv_iconst (v := 0) hx hb d_G_has_28 (by decide) ?_
    obtain rfl := Option.some.inj hf
    exact W.zret (ty := .boolean) hx hb hr (by decide) (fun t ht hW => ⟨_, rfl, rfl, ht⟩) (fun q h => by cases h) d_G_has_29
  · have hf := z_f hc hf
    refine lv_iload_n hx hb d_G_has_4 rfl (lv_at hl 1 rfl) ?_
    refine lv_aload_n hx hb d_G_has_5 rfl (lv_at hl 0 rfl) ?_
    refine gf_G_24 (v := .int G_side) hx hb hts hown hK hP hN_G rfl d_G_has_6 ?_
    refine lv_icmp_ge (tgt := 28) hx hb d_G_has_9 (by decide) (fun hc => ?_) (fun hc => ?_)
    · have hf := z_t hc hf
      refine lv_iconst (v := 0) hx hb d_G_has_28 (by decide) ?_
      obtain rfl := Option.some.inj hf
      exact W.zret (ty := .boolean) hx hb hr (by decide) (fun t ht hW => ⟨_, rfl, rfl, ht⟩) (fun q h => by cases h) d_G_has_29
    · have hf := z_f hc hf
      refine lv_iload_n hx hb d_G_has_12 rfl (lv_at hl 2 rfl) ?_
      refine lv_if_lt (tgt := 28) hx hb d_G_has_13 (by decide) (fun hc => ?_) (fun hc => ?_)
      · have hf := z_t hc hf
        refine lv_iconst (v := 0) hx hb d_G_has_28 (by decide) ?_
        obtain rfl := Option.some.inj hf
        exact W.zret (ty := .boolean) hx hb hr (by decide) (fun t ht hW => ⟨_, rfl, rfl, ht⟩) (fun q h => by cases h) d_G_has_29
      · have hf := z_f hc hf
        refine lv_iload_n hx hb d_G_has_16 rfl (lv_at hl 2 rfl) ?_
        refine lv_aload_n hx hb d_G_has_17 rfl (lv_at hl 0 rfl) ?_
        refine gf_G_24 (v := .int G_side) hx hb hts hown hK hP hN_G rfl d_G_has_18 ?_
        refine lv_icmp_ge (tgt := 28) hx hb d_G_has_21 (by decide) (fun hc => ?_) (fun hc => ?_)
        · have hf := z_t hc hf
          refine lv_iconst (v := 0) hx hb d_G_has_28 (by decide) ?_
          obtain rfl := Option.some.inj hf
          exact W.zret (ty := .boolean) hx hb hr (by decide) (fun t ht hW => ⟨_, rfl, rfl, ht⟩) (fun q h => by cases h) d_G_has_29
        · have hf := z_f hc hf
          refine lv_iconst (v := 1) hx hb d_G_has_24 (by decide) ?_
          refine lv_goto (tgt := 29) hx hb d_G_has_25 (by decide) ?_
          obtain rfl := Option.some.inj hf
          exact W.zret (ty := .boolean) hx hb hr (by decide) (fun t ht hW => ⟨_, rfl, rfl, ht⟩) (fun q h => by cases h) d_G_has_29
def f_G_set (x1 : Int32) (x2 : Int32) (x3 : Int32) (G_side : Int32) (GA_n : Nat) (GA_f : Nat → Int32) : Option (Nat → Int32) := (f_G_has x1 x2 G_side).bind (fun q1 => if q1 = 0 then (some GA_f) else (if ((x2 * G_side) + x1) < 0 ∨ GA_n ≤ ((x2 * G_side) + x1).toNatClampNeg then none else (some (upd GA_f ((x2 * G_side) + x1).toNatClampNeg x3))))
set_option maxHeartbeats 4000000 in
set_option maxRecDepth 100000 in
theorem c_G_set (l : Launch) (dC : Nat → ClassId) (dI : Nat → Nat → Nat) (cI cL : ClassId) {ws0 : va_W} (sz : Nat) {kG kGA aG aGA : Nat} {G_mostSide G_side : Int32} {GA_n : Nat} {GA_f : Nat → Int32} (x1 : Int32) (x2 : Int32) (x3 : Int32) (hN_G : ws0[kG]? = some (aG, .inr (1, [.int G_mostSide, .ref aGA, .int G_side]))) (hN_GA : ws0[kGA]? = some (aGA, .inl (cI, GA_n, .inl GA_f))) (ne_G_GA : kG ≠ kGA) (r : Nat → Int32) (hf : f_G_set x1 x2 x3 G_side GA_n GA_f = some r) : Met l y_G_set w_G_set rm_G_set (va_Pc [.ref aG, .int x1, .int x2, .int x3] (zM dC dI cI cL ws0 sz)) (va_Qv (fun ws' : va_W => ws'[kGA]? = some (aGA, .inl (cI, GA_n, .inl r)) ∧ ∀ j, j ∉ [kGA] → ws'[j]? = ws0[j]?) (zQ dC dI cI cL (va_A ws0 sz)) (va_A ws0 sz)) 0 0 (va_A ws0 sz) := by
  refine Met.ofW (cc := b_G_set) (maxL := 4) (ret := none) (by decide) rfl ?_
  intro p e s m args below meth c s₁ B hml hv
  obtain ⟨rfl, hsz, hP, hK, hZ, hD0⟩ := hv
  have hx := B.exec
  have hb := B.bytes
  have hr := B.returns
  have hlocks := B.notSynchronized
  have hts : ∀ w ∈ BIG, w.before ([.ref aG, .int x1, .int x2, .int x3] : List Value).toArray s = true := fun w h => atoms_spec (ws := w_G_set) B.pre w (List.mem_cons_of_mem _ h)
  have hown : s.vm.findClass "FractalMaps$Grid" = some m.cls := findClass_of_methodNamed B.named
  subst hsz
  have hD := hD0.self (sz := s.heap.size)
  generalize hAe : va_A ws0 s.heap.size = A at hD ⊢
  have hA : ∀ q : Nat, s.heap.size ≤ q → A q := fun q h => by rw [← hAe]; exact Or.inr h
  have hS : va_S A s.heap s.heap [] := va_S.rf
  have hw : ∀ j, j ∉ [kGA] → ws0[j]? = ws0[j]? := fun _ _ => rfl
  have hl := lv_entry ([.ref aG, .int x1, .int x2, .int x3]) (n := 4) (Nat.le_of_ble_eq_true rfl)
  rw [lg_entry_eq]
  generalize (lg_sl ([.ref aG, .int x1, .int x2, .int x3]) ++ List.replicate (4 - (lg_sl ([.ref aG, .int x1, .int x2, .int x3])).length) Slot.unset).toArray = ls at hl ⊢
  have hl : lv_has ls 4 [(0, .ref aG), (1, .int x1), (2, .int x2), (3, .int x3)] := hl
  unfold f_G_set at hf
  refine lv_aload_n hx hb d_G_set_0 rfl (lv_at hl 0 rfl) ?_
  refine lv_iload_n hx hb d_G_set_1 rfl (lv_at hl 1 rfl) ?_
  refine lv_iload_n hx hb d_G_set_2 rfl (lv_at hl 2 rfl) ?_
  obtain ⟨q1, hc, hf⟩ := z_b hf
  refine vp_callSi (z_cr (va_runV (As := [.int x1, .int x2]) (rest := []) ⟨hx, hb, hml, hown, hts⟩ (c_G_has l dC dI cI cL x1 x2 hN_G q1 hc) (cw_G_31 hts ⟨Nat.le_of_ble_eq_true rfl, Nat.le_of_ble_eq_true rfl⟩) ⟨zbR, va_recv hK hP (ci := 1) rfl hN_G, (zpR hP hK hZ)⟩ rfl rfl hl.1 rfl (lv_room (Nat.le_of_ble_eq_true rfl)) d_G_set_3 ⟨Nat.zero_le _, Nat.zero_le _⟩)) (fun r2 hv => ?_)
  have hv := hv.symm
  subst hv
  refine lv_if_eq (tgt := 23) hx hb d_G_set_6 (by decide) (fun hc => ?_) (fun hc => ?_)
  · have hf := z_t hc hf
    obtain rfl := Option.some.inj hf
    exact W.vret hx hb hr (fun t ht hW => ⟨⟨ws0, rfl, ⟨hN_GA, hw⟩, by rw [ht]; exact hP, va_K.moved hW.alike hK, hD⟩, hS.F ht⟩) hS.2.2 d_G_set_23
  · have hf := z_f hc hf
    refine lv_aload_n hx hb d_G_set_9 rfl (lv_at hl 0 rfl) ?_
    refine gf_G_27 (v := .ref aGA) hx hb hts hown hK hP hN_G rfl d_G_set_10 ?_
    refine lv_iload_n hx hb d_G_set_13 rfl (lv_at hl 2 rfl) ?_
    refine lv_aload_n hx hb d_G_set_14 rfl (lv_at hl 0 rfl) ?_
    refine gf_G_24 (v := .int G_side) hx hb hts hown hK hP hN_G rfl d_G_set_15 ?_
    refine lv_imul hx hb d_G_set_18 ?_
    refine lv_iload_n hx hb d_G_set_19 rfl (lv_at hl 1 rfl) ?_
    refine lv_iadd hx hb d_G_set_20 ?_
    refine lv_iload_n hx hb d_G_set_21 rfl (lv_at hl 3 rfl) ?_
    obtain ⟨hin, hf⟩ := z_no hf
    refine z_iast hx hb hK hP hD hS hN_GA rfl hin d_G_set_22 (fun ws H locs hP hD hS hN_GA hfr => ?_)
    have hN_GA : ws[kGA]? = some (aGA, .inl (cI, GA_n, .inl (upd GA_f ((x2 * G_side) + x1).toNatClampNeg x3))) := hN_GA
    have hN_G := (hfr _ ne_G_GA).trans hN_G
    have hw := z_fr List.mem_cons_self hw hfr
    obtain rfl := Option.some.inj hf
    exact W.vret hx hb hr (fun t ht hW => ⟨⟨ws, rfl, ⟨hN_GA, hw⟩, by rw [ht]; exact hP, va_K.moved hW.alike hK, hD⟩, hS.F ht⟩) hS.2.2 d_G_set_23
def f_F_paint_18 (p1 : Int32) (p2 : Int32) (p3 : Int32) (p5 : Int32) (O_side : Int32) (P_side : Int32) (PA_n : Nat) : Nat → Int32 → Int32 → (Nat → Int32) → Option (Int32 × Int32 × (Nat → Int32))
  | 0, _, _, _ => none
  | n + 1, v4, v6, PA_f => if O_side ≤ v6 then (some (v4, v6, PA_f)) else ((f_F_brought ((p1.toInt64 + (p2.toInt64 * v6.toInt64)) + (p3.toInt64 * p5.toInt64)) (0 : Int64) (255 : Int64)).bind (fun q3 => (f_G_sample v6 p5 P_side PA_n PA_f).bind (fun q5 => if q3.toInt32 = q5 then ((f_G_set v6 p5 q3.toInt32 P_side PA_n PA_f).bind (fun q7 => f_F_paint_18 p1 p2 p3 p5 O_side P_side PA_n n v4 (v6 + 1) q7)) else ((f_G_set v6 p5 q3.toInt32 P_side PA_n PA_f).bind (fun q8 => f_F_paint_18 p1 p2 p3 p5 O_side P_side PA_n n (v4 + 1) (v6 + 1) q8)))))
def f_F_paint_6 (p1 : Int32) (p2 : Int32) (p3 : Int32) (O_side : Int32) (P_side : Int32) (PA_n : Nat) : Nat → Int32 → Int32 → (Nat → Int32) → Option (Int32 × Int32 × (Nat → Int32))
  | 0, _, _, _ => none
  | n + 1, v4, v5, PA_f => if O_side ≤ v5 then (some (v4, v5, PA_f)) else ((f_F_paint_18 p1 p2 p3 v5 O_side P_side PA_n FU v4 (0 : Int32) PA_f).bind (fun q9 => f_F_paint_6 p1 p2 p3 O_side P_side PA_n n q9.1 (v5 + 1) q9.2.2))
def f_F_paint (x1 : Int32) (x2 : Int32) (x3 : Int32) (O_side : Int32) (P_side : Int32) (PA_n : Nat) (PA_f : Nat → Int32) : Option (Int32 × (Nat → Int32)) := (f_F_paint_6 x1 x2 x3 O_side P_side PA_n FU (0 : Int32) (0 : Int32) PA_f).bind (fun q20 => some (q20.1, q20.2.2))
set_option maxHeartbeats 4000000 in
set_option maxRecDepth 100000 in
theorem c_F_paint (l : Launch) (dC : Nat → ClassId) (dI : Nat → Nat → Nat) (cI cL : ClassId) {ws0 : va_W} (sz : Nat) {aO aP aN aH aV aS aK aT aC aI aPA : Nat} {O_side P_mostSide P_side : Int32} {PA_n : Nat} {PA_f : Nat → Int32} (x1 : Int32) (x2 : Int32) (x3 : Int32) (hN_O : ws0[0]? = some (aO, .inr (0, [.int O_side, .ref aP, .ref aN, .ref aH, .ref aV, .ref aS, .ref aK, .ref aT, .ref aC, .ref aI]))) (hN_P : ws0[1]? = some (aP, .inr (1, [.int P_mostSide, .ref aPA, .int P_side]))) (hN_PA : ws0[2]? = some (aPA, .inl (cI, PA_n, .inl PA_f))) (r : Int32 × (Nat → Int32)) (hf : f_F_paint x1 x2 x3 O_side P_side PA_n PA_f = some r) : Met l y_F_paint w_F_paint rm_F_paint (va_Pc [.ref aO, .int x1, .int x2, .int x3] (zM dC dI cI cL ws0 sz)) (va_Qi (fun (v : Int32) (ws' : va_W) => v = r.1 ∧ ws'[2]? = some (aPA, .inl (cI, PA_n, .inl r.2)) ∧ ∀ j, j ∉ [2] → ws'[j]? = ws0[j]?) (zQ dC dI cI cL (va_A ws0 sz)) (va_A ws0 sz)) 0 0 (va_A ws0 sz) := by
  refine Met.ofW (cc := b_F_paint) (maxL := 10) (ret := some .int) (by decide) rfl ?_
  intro p e s m args below meth c s₁ B hml hv
  obtain ⟨rfl, hsz, hP, hK, hZ, hD0⟩ := hv
  have hx := B.exec
  have hb := B.bytes
  have hr := B.returns
  have hlocks := B.notSynchronized
  have hts : ∀ w ∈ BIG, w.before ([.ref aO, .int x1, .int x2, .int x3] : List Value).toArray s = true := fun w h => atoms_spec (ws := w_F_paint) B.pre w (List.mem_cons_of_mem _ h)
  have hown : s.vm.findClass "FractalMaps" = some m.cls := findClass_of_methodNamed B.named
  subst hsz
  have hD := hD0.self (sz := s.heap.size)
  generalize hAe : va_A ws0 s.heap.size = A at hD ⊢
  have hA : ∀ q : Nat, s.heap.size ≤ q → A q := fun q h => by rw [← hAe]; exact Or.inr h
  have hS : va_S A s.heap s.heap [] := va_S.rf
  have hw : ∀ j, j ∉ [2] → ws0[j]? = ws0[j]? := fun _ _ => rfl
  have hl := lv_entry ([.ref aO, .int x1, .int x2, .int x3]) (n := 10) (Nat.le_of_ble_eq_true rfl)
  rw [lg_entry_eq]
  generalize (lg_sl ([.ref aO, .int x1, .int x2, .int x3]) ++ List.replicate (10 - (lg_sl ([.ref aO, .int x1, .int x2, .int x3])).length) Slot.unset).toArray = ls at hl ⊢
  have hl : lv_has ls 10 [(0, .ref aO), (1, .int x1), (2, .int x2), (3, .int x3)] := hl
  unfold f_F_paint at hf
  refine lv_iconst (v := 0) hx hb d_F_paint_0 (by decide) ?_
  refine lv_istore (lv' := [(4, .int (0 : Int32)), (0, .ref aO), (1, .int x1), (2, .int x2), (3, .int x3)]) hx hb d_F_paint_1 hl (by decide) rfl (fun ls hl => ?_)
  refine lv_iconst (v := 0) hx hb d_F_paint_3 (by decide) ?_
  refine lv_istore (lv' := [(5, .int (0 : Int32)), (4, .int (0 : Int32)), (0, .ref aO), (1, .int x1), (2, .int x2), (3, .int x3)]) hx hb d_F_paint_4 hl (by decide) rfl (fun ls hl => ?_)
  have lp24 : ∀ (Qx : State → Prop) (n : Nat) (v4_21 : Int32) (v5_22 : Int32) (PA_f_23 : Nat → Int32) (ws : va_W) (H : Heap) (locs : List Loc) (ls : Array Slot) (q : Int32 × Int32 × (Nat → Int32)) (hf : f_F_paint_6 x1 x2 x3 O_side P_side PA_n n v4_21 v5_22 PA_f_23 = some q) (hl : lv_has ls 10 [(0, .ref aO), (1, .int x1), (2, .int x2), (3, .int x3), (4, .int v4_21), (5, .int v5_22)]) (hP : va_P (dC, dI) classes ws H) (hD : va_D A ws) (hS : va_S A s.heap H locs) (hN_O : ws[0]? = some (aO, .inr (0, [.int O_side, .ref aP, .ref aN, .ref aH, .ref aV, .ref aS, .ref aK, .ref aT, .ref aC, .ref aI]))) (hN_P : ws[1]? = some (aP, .inr (1, [.int P_mostSide, .ref aPA, .int P_side]))) (hN_PA : ws[2]? = some (aPA, .inl (cI, PA_n, .inl PA_f_23))) (hw : ∀ j, j ∉ [2] → ws[j]? = ws0[j]?) (kt0 : ∀ (ws : va_W) (H : Heap) (locs : List Loc) (ls : Array Slot), lv_has ls 10 [(0, .ref aO), (1, .int x1), (2, .int x2), (3, .int x3), (4, .int q.1), (5, .int q.2.1)] → (va_P (dC, dI) classes ws H) → (va_D A ws) → (va_S A s.heap H locs) → (ws[0]? = some (aO, .inr (0, [.int O_side, .ref aP, .ref aN, .ref aH, .ref aV, .ref aS, .ref aK, .ref aT, .ref aC, .ref aI]))) → (ws[1]? = some (aP, .inr (1, [.int P_mostSide, .ref aPA, .int P_side]))) → (ws[2]? = some (aPA, .inl (cI, PA_n, .inl q.2.2))) → (∀ j, j ∉ [2] → ws[j]? = ws0[j]?) → W p l e (headSpec w_F_paint rm_F_paint).room s m ([.ref aO, .int x1, .int x2, .int x3] : List Value).toArray below meth c H locs 0 0 Qx (F0 m 101 ls [])), W p l e (headSpec w_F_paint rm_F_paint).room s m ([.ref aO, .int x1, .int x2, .int x3] : List Value).toArray below meth c H locs 0 0 Qx (F0 m 6 ls []) := by
    intro Qx n
    induction n with
    | zero => intro v4_21 v5_22 PA_f_23 ws H locs ls q hf; cases hf
    | succ n ih =>
      intro v4_21 v5_22 PA_f_23 ws H locs ls q hf hl hP hD hS hN_O hN_P hN_PA hw kt0
      rw [f_F_paint_6] at hf
      refine lv_iload hx hb d_F_paint_6 (lv_at hl 5 rfl) ?_
      refine lv_aload_n hx hb d_F_paint_8 rfl (lv_at hl 0 rfl) ?_
      refine gf_F_16 (v := .int O_side) hx hb hts hown hK hP hN_O rfl d_F_paint_9 ?_
      refine lv_icmp_ge (tgt := 101) hx hb d_F_paint_12 (by decide) (fun hc => ?_) (fun hc => ?_)
      · have hf := z_t hc hf
        obtain rfl := Option.some.inj hf
        exact kt0 _ _ _ ls (lv_sub hl [0, 1, 2, 3, 4, 5] rfl) hP hD hS hN_O hN_P hN_PA hw
      · have hf := z_f hc hf
        refine lv_iconst (v := 0) hx hb d_F_paint_15 (by decide) ?_
        refine lv_istore (lv' := [(6, .int (0 : Int32)), (0, .ref aO), (1, .int x1), (2, .int x2), (3, .int x3), (4, .int v4_21), (5, .int v5_22)]) hx hb d_F_paint_16 hl (by decide) rfl (fun ls hl => ?_)
        have lp29 : ∀ (Qx : State → Prop) (n : Nat) (v4_26 : Int32) (v6_27 : Int32) (PA_f_28 : Nat → Int32) (ws : va_W) (H : Heap) (locs : List Loc) (ls : Array Slot) (q : Int32 × Int32 × (Nat → Int32)) (hf : f_F_paint_18 x1 x2 x3 v5_22 O_side P_side PA_n n v4_26 v6_27 PA_f_28 = some q) (hl : lv_has ls 10 [(0, .ref aO), (1, .int x1), (2, .int x2), (3, .int x3), (4, .int v4_26), (5, .int v5_22), (6, .int v6_27)]) (hP : va_P (dC, dI) classes ws H) (hD : va_D A ws) (hS : va_S A s.heap H locs) (hN_O : ws[0]? = some (aO, .inr (0, [.int O_side, .ref aP, .ref aN, .ref aH, .ref aV, .ref aS, .ref aK, .ref aT, .ref aC, .ref aI]))) (hN_P : ws[1]? = some (aP, .inr (1, [.int P_mostSide, .ref aPA, .int P_side]))) (hN_PA : ws[2]? = some (aPA, .inl (cI, PA_n, .inl PA_f_28))) (hw : ∀ j, j ∉ [2] → ws[j]? = ws0[j]?) (kt0 : ∀ (ws : va_W) (H : Heap) (locs : List Loc) (ls : Array Slot), lv_has ls 10 [(0, .ref aO), (1, .int x1), (2, .int x2), (3, .int x3), (4, .int q.1), (5, .int v5_22), (6, .int q.2.1)] → (va_P (dC, dI) classes ws H) → (va_D A ws) → (va_S A s.heap H locs) → (ws[0]? = some (aO, .inr (0, [.int O_side, .ref aP, .ref aN, .ref aH, .ref aV, .ref aS, .ref aK, .ref aT, .ref aC, .ref aI]))) → (ws[1]? = some (aP, .inr (1, [.int P_mostSide, .ref aPA, .int P_side]))) → (ws[2]? = some (aPA, .inl (cI, PA_n, .inl q.2.2))) → (∀ j, j ∉ [2] → ws[j]? = ws0[j]?) → W p l e (headSpec w_F_paint rm_F_paint).room s m ([.ref aO, .int x1, .int x2, .int x3] : List Value).toArray below meth c H locs 0 0 Qx (F0 m 95 ls [])), W p l e (headSpec w_F_paint rm_F_paint).room s m ([.ref aO, .int x1, .int x2, .int x3] : List Value).toArray below meth c H locs 0 0 Qx (F0 m 18 ls []) := by
          intro Qx n
          induction n with
          | zero => intro v4_26 v6_27 PA_f_28 ws H locs ls q hf; cases hf
          | succ n ih =>
            intro v4_26 v6_27 PA_f_28 ws H locs ls q hf hl hP hD hS hN_O hN_P hN_PA hw kt0
            rw [f_F_paint_18] at hf
            refine lv_iload hx hb d_F_paint_18 (lv_at hl 6 rfl) ?_
            refine lv_aload_n hx hb d_F_paint_20 rfl (lv_at hl 0 rfl) ?_
            refine gf_F_16 (v := .int O_side) hx hb hts hown hK hP hN_O rfl d_F_paint_21 ?_
            refine lv_icmp_ge (tgt := 95) hx hb d_F_paint_24 (by decide) (fun hc => ?_) (fun hc => ?_)
            · have hf := z_t hc hf
              obtain rfl := Option.some.inj hf
              exact kt0 _ _ _ ls (lv_sub hl [0, 1, 2, 3, 4, 5, 6] rfl) hP hD hS hN_O hN_P hN_PA hw
            · have hf := z_f hc hf
              refine lv_iload_n hx hb d_F_paint_27 rfl (lv_at hl 1 rfl) ?_
              refine lv_i2l hx hb d_F_paint_28 rfl ?_
              refine lv_iload_n hx hb d_F_paint_29 rfl (lv_at hl 2 rfl) ?_
              refine lv_i2l hx hb d_F_paint_30 rfl ?_
              refine lv_iload hx hb d_F_paint_31 (lv_at hl 6 rfl) ?_
              refine lv_i2l hx hb d_F_paint_33 rfl ?_
              refine lv_lmul hx hb d_F_paint_34 ?_
              refine lv_ladd hx hb d_F_paint_35 ?_
              refine lv_iload_n hx hb d_F_paint_36 rfl (lv_at hl 3 rfl) ?_
              refine lv_i2l hx hb d_F_paint_37 rfl ?_
              refine lv_iload hx hb d_F_paint_38 (lv_at hl 5 rfl) ?_
              refine lv_i2l hx hb d_F_paint_40 rfl ?_
              refine lv_lmul hx hb d_F_paint_41 ?_
              refine lv_ladd hx hb d_F_paint_42 ?_
              refine lv_lstore (lv' := [(7, .long ((x1.toInt64 + (x2.toInt64 * v6_27.toInt64)) + (x3.toInt64 * v5_22.toInt64))), (0, .ref aO), (1, .int x1), (2, .int x2), (3, .int x3), (4, .int v4_26), (5, .int v5_22), (6, .int v6_27)]) hx hb d_F_paint_43 hl (by decide) rfl (fun ls hl => ?_)
              refine lv_lload hx hb d_F_paint_45 (lv_at hl 0 rfl) ?_
              refine lv_lconst (v := 0) hx hb d_F_paint_47 (by decide) ?_
              refine lv_ldc2 (v := 255) hx hb hown (hts _ lk_F_104) d_F_paint_48 ?_
              obtain ⟨q30, hc, hf⟩ := z_b hf
              refine vp_callSl (z_cr (va_runS (As := [.long ((x1.toInt64 + (x2.toInt64 * v6_27.toInt64)) + (x3.toInt64 * v5_22.toInt64)), .long (0 : Int64), .long (255 : Int64)]) (rest := []) ⟨hx, hb, hml, hown, hts⟩ (c_F_brought l ((x1.toInt64 + (x2.toInt64 * v6_27.toInt64)) + (x3.toInt64 * v5_22.toInt64)) (0 : Int64) (255 : Int64) q30 hc) (cw_F_106 hts ⟨Nat.le_of_ble_eq_true rfl, Nat.le_of_ble_eq_true rfl⟩) ⟨zb0, zp0⟩ rfl rfl hl.1 rfl (lv_room (Nat.le_of_ble_eq_true rfl)) d_F_paint_51 ⟨Nat.zero_le _, Nat.zero_le _⟩)) (fun r31 hv => ?_)
              have hv := hv.symm
              subst hv
              refine lv_l2i hx hb d_F_paint_54 rfl ?_
              refine lv_istore (lv' := [(9, .int q30.toInt32), (7, .long ((x1.toInt64 + (x2.toInt64 * v6_27.toInt64)) + (x3.toInt64 * v5_22.toInt64))), (0, .ref aO), (1, .int x1), (2, .int x2), (3, .int x3), (4, .int v4_26), (5, .int v5_22), (6, .int v6_27)]) hx hb d_F_paint_55 hl (by decide) rfl (fun ls hl => ?_)
              refine lv_iload hx hb d_F_paint_57 (lv_at hl 0 rfl) ?_
              refine lv_aload_n hx hb d_F_paint_59 rfl (lv_at hl 2 rfl) ?_
              refine gf_F_27 (v := .ref aP) hx hb hts hown hK hP hN_O rfl d_F_paint_60 ?_
              refine lv_iload hx hb d_F_paint_63 (lv_at hl 8 rfl) ?_
              refine lv_iload hx hb d_F_paint_65 (lv_at hl 7 rfl) ?_
              obtain ⟨q32, hc, hf⟩ := z_b hf
              refine vp_callSi (z_cr (va_runV (As := [.int v6_27, .int v5_22]) (rest := [.int q30.toInt32]) ⟨hx, hb, hml, hown, hts⟩ (c_G_sample l dC dI cI cL v6_27 v5_22 hN_P hN_PA q32 hc) (cw_F_97 hts hZ ⟨Nat.le_of_ble_eq_true rfl, Nat.le_of_ble_eq_true rfl⟩) ⟨zbR, va_recv hK hP (ci := 1) rfl hN_P, (zpR hP hK hZ)⟩ rfl rfl hl.1 rfl (lv_room (Nat.le_of_ble_eq_true rfl)) d_F_paint_67 ⟨Nat.zero_le _, Nat.zero_le _⟩)) (fun r33 hv => ?_)
              have hv := hv.symm
              subst hv
              refine lv_icmp_eq (tgt := 76) hx hb d_F_paint_70 (by decide) (fun hc => ?_) (fun hc => ?_)
              · have hf := z_t hc hf
                refine lv_aload_n hx hb d_F_paint_76 rfl (lv_at hl 2 rfl) ?_
                refine gf_F_27 (v := .ref aP) hx hb hts hown hK hP hN_O rfl d_F_paint_77 ?_
                refine lv_iload hx hb d_F_paint_80 (lv_at hl 8 rfl) ?_
                refine lv_iload hx hb d_F_paint_82 (lv_at hl 7 rfl) ?_
                refine lv_iload hx hb d_F_paint_84 (lv_at hl 0 rfl) ?_
                obtain ⟨q34, hc, hf⟩ := z_b hf
                have hFc := z_free hD hS hA
                refine va_callv (va_runV (As := [.int v6_27, .int v5_22, .int q30.toInt32]) (rest := []) ⟨hx, hb, hml, hown, hts⟩ (c_G_set l dC dI cI cL _ v6_27 v5_22 q30.toInt32 hN_P hN_PA (by decide) q34 hc) (cw_F_100 hts hZ ⟨Nat.le_of_ble_eq_true rfl, Nat.le_of_ble_eq_true rfl⟩) ⟨zbM, va_recv hK hP (ci := 1) rfl hN_P, (zpM hP hK hZ hD)⟩ rfl rfl hl.1 rfl (lv_room (Nat.le_of_ble_eq_true rfl)) d_F_paint_86 ⟨Nat.zero_le _, Nat.zero_le _⟩) hS (fun q _ h => hFc q h) hFc (fun ws t H locs ht hvm hu hB hz1 hk1 hS => ?_)
                obtain ⟨hN_PA, hfr⟩ := hu
                obtain ⟨hP, -, hD1⟩ := hB
                rw [ht] at hP
                have hD := hD1.weaken (fun _ _ _ h => hFc _ h)
                have hN_PA : ws[2]? = some (aPA, .inl (cI, PA_n, .inl q34)) := hN_PA
                have hN_O := (hfr _ (by decide)).trans hN_O
                have hN_P := (hfr _ (by decide)).trans hN_P
                have hw := z_frC (by decide) hw hfr
                refine lv_iinc (v := (v6_27 + 1)) (lv' := [(6, .int (v6_27 + 1)), (9, .int q30.toInt32), (7, .long ((x1.toInt64 + (x2.toInt64 * v6_27.toInt64)) + (x3.toInt64 * v5_22.toInt64))), (0, .ref aO), (1, .int x1), (2, .int x2), (3, .int x3), (4, .int v4_26), (5, .int v5_22)]) hx hb d_F_paint_89 hl (k := 8) rfl rfl (by decide) rfl (fun ls hl => ?_)
                refine lv_goto (tgt := 18) hx hb d_F_paint_92 (by decide) ?_
                exact ih v4_26 (v6_27 + 1) q34 _ _ _ ls _ hf (lv_sub hl [3, 4, 5, 6, 7, 8, 0] rfl) hP hD hS hN_O hN_P hN_PA hw kt0
              · have hf := z_f hc hf
                refine lv_iinc (v := (v4_26 + 1)) (lv' := [(4, .int (v4_26 + 1)), (9, .int q30.toInt32), (7, .long ((x1.toInt64 + (x2.toInt64 * v6_27.toInt64)) + (x3.toInt64 * v5_22.toInt64))), (0, .ref aO), (1, .int x1), (2, .int x2), (3, .int x3), (5, .int v5_22), (6, .int v6_27)]) hx hb d_F_paint_73 hl (k := 6) rfl rfl (by decide) rfl (fun ls hl => ?_)
                refine lv_aload_n hx hb d_F_paint_76 rfl (lv_at hl 3 rfl) ?_
                refine gf_F_27 (v := .ref aP) hx hb hts hown hK hP hN_O rfl d_F_paint_77 ?_
                refine lv_iload hx hb d_F_paint_80 (lv_at hl 8 rfl) ?_
                refine lv_iload hx hb d_F_paint_82 (lv_at hl 7 rfl) ?_
                refine lv_iload hx hb d_F_paint_84 (lv_at hl 1 rfl) ?_
                obtain ⟨q35, hc, hf⟩ := z_b hf
                have hFc := z_free hD hS hA
                refine va_callv (va_runV (As := [.int v6_27, .int v5_22, .int q30.toInt32]) (rest := []) ⟨hx, hb, hml, hown, hts⟩ (c_G_set l dC dI cI cL _ v6_27 v5_22 q30.toInt32 hN_P hN_PA (by decide) q35 hc) (cw_F_100 hts hZ ⟨Nat.le_of_ble_eq_true rfl, Nat.le_of_ble_eq_true rfl⟩) ⟨zbM, va_recv hK hP (ci := 1) rfl hN_P, (zpM hP hK hZ hD)⟩ rfl rfl hl.1 rfl (lv_room (Nat.le_of_ble_eq_true rfl)) d_F_paint_86 ⟨Nat.zero_le _, Nat.zero_le _⟩) hS (fun q _ h => hFc q h) hFc (fun ws t H locs ht hvm hu hB hz1 hk1 hS => ?_)
                obtain ⟨hN_PA, hfr⟩ := hu
                obtain ⟨hP, -, hD1⟩ := hB
                rw [ht] at hP
                have hD := hD1.weaken (fun _ _ _ h => hFc _ h)
                have hN_PA : ws[2]? = some (aPA, .inl (cI, PA_n, .inl q35)) := hN_PA
                have hN_O := (hfr _ (by decide)).trans hN_O
                have hN_P := (hfr _ (by decide)).trans hN_P
                have hw := z_frC (by decide) hw hfr
                refine lv_iinc (v := (v6_27 + 1)) (lv' := [(6, .int (v6_27 + 1)), (4, .int (v4_26 + 1)), (9, .int q30.toInt32), (7, .long ((x1.toInt64 + (x2.toInt64 * v6_27.toInt64)) + (x3.toInt64 * v5_22.toInt64))), (0, .ref aO), (1, .int x1), (2, .int x2), (3, .int x3), (5, .int v5_22)]) hx hb d_F_paint_89 hl (k := 8) rfl rfl (by decide) rfl (fun ls hl => ?_)
                refine lv_goto (tgt := 18) hx hb d_F_paint_92 (by decide) ?_
                exact ih (v4_26 + 1) (v6_27 + 1) q35 _ _ _ ls _ hf (lv_sub hl [4, 5, 6, 7, 1, 8, 0] rfl) hP hD hS hN_O hN_P hN_PA hw kt0
        obtain ⟨q25, hc, hf⟩ := z_b hf
        refine lp29 _ FU v4_21 (0 : Int32) PA_f_23 _ _ _ ls q25 hc (lv_sub hl [1, 2, 3, 4, 5, 6, 0] rfl) hP hD hS hN_O hN_P hN_PA hw (fun ws H locs ls hl hP hD hS hN_O hN_P hN_PA hw => ?_)
        refine lv_iinc (v := (v5_22 + 1)) (lv' := [(5, .int (v5_22 + 1)), (0, .ref aO), (1, .int x1), (2, .int x2), (3, .int x3), (4, .int q25.1), (6, .int q25.2.1)]) hx hb d_F_paint_95 hl (k := 5) rfl rfl (by decide) rfl (fun ls hl => ?_)
        refine lv_goto (tgt := 6) hx hb d_F_paint_98 (by decide) ?_
        exact ih q25.1 (v5_22 + 1) q25.2.2 _ _ _ ls _ hf (lv_sub hl [1, 2, 3, 4, 5, 0] rfl) hP hD hS hN_O hN_P hN_PA hw kt0
  obtain ⟨q20, hc, hf⟩ := z_b hf
  refine lp24 _ FU (0 : Int32) (0 : Int32) PA_f _ _ _ ls q20 hc (lv_sub hl [2, 3, 4, 5, 1, 0] rfl) hP hD hS hN_O hN_P hN_PA hw (fun ws H locs ls hl hP hD hS hN_O hN_P hN_PA hw => ?_)
  refine lv_iload hx hb d_F_paint_101 (lv_at hl 4 rfl) ?_
  obtain rfl := Option.some.inj hf
  exact W.iret hx hb hr (fun t ht hW => ⟨⟨_, ws, rfl, ⟨rfl, hN_PA, hw⟩, by rw [ht]; exact hP, va_K.moved hW.alike hK, hD⟩, hS.F ht⟩) hS.2.2 d_F_paint_103
def f_B_rewind : Option (Int32) := some (0 : Int32)
set_option maxHeartbeats 4000000 in
set_option maxRecDepth 100000 in
theorem c_B_rewind (l : Launch) (dC : Nat → ClassId) (dI : Nat → Nat → Nat) (cI cL : ClassId) {ws0 : va_W} (sz : Nat) {kB aB aBA : Nat} {B_filled B_taken : Int32} (hN_B : ws0[kB]? = some (aB, .inr (6, [.ref aBA, .int B_filled, .int B_taken]))) (r : Int32) (hf : f_B_rewind = some r) : Met l y_B_rewind w_B_rewind rm_B_rewind (va_Pc [.ref aB] (zM dC dI cI cL ws0 sz)) (va_Qv (fun ws' : va_W => ws'[kB]? = some (aB, .inr (6, [.ref aBA, .int B_filled, .int r])) ∧ ∀ j, j ∉ [kB] → ws'[j]? = ws0[j]?) (zQ dC dI cI cL (va_A ws0 sz)) (va_A ws0 sz)) 0 0 (va_A ws0 sz) := by
  refine Met.ofW (cc := b_B_rewind) (maxL := 1) (ret := none) (by decide) rfl ?_
  intro p e s m args below meth c s₁ B hml hv
  obtain ⟨rfl, hsz, hP, hK, hZ, hD0⟩ := hv
  have hx := B.exec
  have hb := B.bytes
  have hr := B.returns
  have hlocks := B.notSynchronized
  have hts : ∀ w ∈ BIG, w.before ([.ref aB] : List Value).toArray s = true := fun w h => atoms_spec (ws := w_B_rewind) B.pre w (List.mem_cons_of_mem _ h)
  have hown : s.vm.findClass "FractalMaps$Bits" = some m.cls := findClass_of_methodNamed B.named
  subst hsz
  have hD := hD0.self (sz := s.heap.size)
  generalize hAe : va_A ws0 s.heap.size = A at hD ⊢
  have hA : ∀ q : Nat, s.heap.size ≤ q → A q := fun q h => by rw [← hAe]; exact Or.inr h
  have hS : va_S A s.heap s.heap [] := va_S.rf
  have hw : ∀ j, j ∉ [kB] → ws0[j]? = ws0[j]? := fun _ _ => rfl
  have hl := lv_entry ([.ref aB]) (n := 1) (Nat.le_of_ble_eq_true rfl)
  rw [lg_entry_eq]
  generalize (lg_sl ([.ref aB]) ++ List.replicate (1 - (lg_sl ([.ref aB])).length) Slot.unset).toArray = ls at hl ⊢
  have hl : lv_has ls 1 [(0, .ref aB)] := hl
  unfold f_B_rewind at hf
  refine lv_aload_n hx hb d_B_rewind_0 rfl (lv_at hl 0 rfl) ?_
  refine lv_iconst (v := 0) hx hb d_B_rewind_1 (by decide) ?_
  refine pf_B_28 (v := .int (0 : Int32)) hx hb hts hown hK hP hD hS hN_B rfl rfl (Nat.le_of_ble_eq_true rfl) d_B_rewind_2 (fun ws H locs hP hD hS hN_B hfr => ?_)
  have hN_B : ws[kB]? = some (aB, .inr (6, [.ref aBA, .int B_filled, .int (0 : Int32)])) := hN_B
  have hw := z_fr List.mem_cons_self hw hfr
  obtain rfl := Option.some.inj hf
  exact W.vret hx hb hr (fun t ht hW => ⟨⟨ws, rfl, ⟨hN_B, hw⟩, by rw [ht]; exact hP, va_K.moved hW.alike hK, hD⟩, hS.F ht⟩) hS.2.2 d_B_rewind_5
def f_B_byteOf (x1 : Int32) (BA_n : Nat) (BA_f : Nat → Int32) : Option (Int32) := if x1 < 0 then (some (0 : Int32)) else (if (nI BA_n) ≤ x1 then (some (0 : Int32)) else (if x1 < 0 ∨ BA_n ≤ x1.toNatClampNeg then none else (some (BA_f x1.toNatClampNeg))))
set_option maxHeartbeats 4000000 in
set_option maxRecDepth 100000 in
theorem c_B_byteOf (l : Launch) (dC : Nat → ClassId) (dI : Nat → Nat → Nat) (cI cL : ClassId) {ws : va_W} {kB kBA aB aBA : Nat} {B_filled B_taken : Int32} {BA_n : Nat} {BA_f : Nat → Int32} (x1 : Int32) (hN_B : ws[kB]? = some (aB, .inr (6, [.ref aBA, .int B_filled, .int B_taken]))) (hN_BA : ws[kBA]? = some (aBA, .inl (cI, BA_n, .inl BA_f))) (r : Int32) (hf : f_B_byteOf x1 BA_n BA_f = some r) : Met l y_B_byteOf w_B_byteOf rm_B_byteOf (va_Pc [.ref aB, .int x1] (zR dC dI cI cL ws)) (vp_Si (fun v => v = r)) 0 0 (fun _ => False) := by
  refine Met.ofW (cc := b_B_byteOf) (maxL := 2) (ret := some .int) (by decide) rfl ?_
  intro p e s m args below meth c s₁ B hml hv
  obtain ⟨rfl, hP, hK, hZ⟩ := hv
  have hx := B.exec
  have hb := B.bytes
  have hr := B.returns
  have hlocks := B.notSynchronized
  have hts : ∀ w ∈ BIG, w.before ([.ref aB, .int x1] : List Value).toArray s = true := fun w h => atoms_spec (ws := w_B_byteOf) B.pre w (List.mem_cons_of_mem _ h)
  have hown : s.vm.findClass "FractalMaps$Bits" = some m.cls := findClass_of_methodNamed B.named
  have hl := lv_entry ([.ref aB, .int x1]) (n := 2) (Nat.le_of_ble_eq_true rfl)
  rw [lg_entry_eq]
  generalize (lg_sl ([.ref aB, .int x1]) ++ List.replicate (2 - (lg_sl ([.ref aB, .int x1])).length) Slot.unset).toArray = ls at hl ⊢
  have hl : lv_has ls 2 [(0, .ref aB), (1, .int x1)] := hl
  unfold f_B_byteOf at hf
  refine lv_iload_n hx hb d_B_byteOf_0 rfl (lv_at hl 1 rfl) ?_
  refine lv_if_lt (tgt := 22) hx hb d_B_byteOf_1 (by decide) (fun hc => ?_) (fun hc => ?_)
  · have hf := z_t hc hf
    refine lv_iconst (v := 0) hx hb d_B_byteOf_22 (by decide) ?_
    obtain rfl := Option.some.inj hf
    exact W.iret hx hb hr (fun t ht hW => ⟨_, rfl, rfl, ht⟩) (fun q h => by cases h) d_B_byteOf_23
  · have hf := z_f hc hf
    refine lv_iload_n hx hb d_B_byteOf_4 rfl (lv_at hl 1 rfl) ?_
    refine lv_aload_n hx hb d_B_byteOf_5 rfl (lv_at hl 0 rfl) ?_
    refine gf_B_18 (v := .ref aBA) hx hb hts hown hK hP hN_B rfl d_B_byteOf_6 ?_
    refine va_alen (v := nI BA_n) hx hb hK hP _ 0 hN_BA rfl rfl d_B_byteOf_9 ?_
    refine lv_icmp_ge (tgt := 22) hx hb d_B_byteOf_10 (by decide) (fun hc => ?_) (fun hc => ?_)
    · have hf := z_t hc hf
      refine lv_iconst (v := 0) hx hb d_B_byteOf_22 (by decide) ?_
      obtain rfl := Option.some.inj hf
      exact W.iret hx hb hr (fun t ht hW => ⟨_, rfl, rfl, ht⟩) (fun q h => by cases h) d_B_byteOf_23
    · have hf := z_f hc hf
      refine lv_aload_n hx hb d_B_byteOf_13 rfl (lv_at hl 0 rfl) ?_
      refine gf_B_18 (v := .ref aBA) hx hb hts hown hK hP hN_B rfl d_B_byteOf_14 ?_
      refine lv_iload_n hx hb d_B_byteOf_17 rfl (lv_at hl 1 rfl) ?_
      obtain ⟨hin, hf⟩ := z_no hf
      refine va_iald hx hb hK hP _ 0 hN_BA rfl hin d_B_byteOf_18 ?_
      refine lv_goto (tgt := 23) hx hb d_B_byteOf_19 (by decide) ?_
      obtain rfl := Option.some.inj hf
      exact W.iret hx hb hr (fun t ht hW => ⟨_, rfl, rfl, ht⟩) (fun q h => by cases h) d_B_byteOf_23
def f_B_bitAt (x1 : Int32) (BA_n : Nat) (BA_f : Nat → Int32) : Option (Int32) := (f_B_byteOf (x1 / (8 : Int32)) BA_n BA_f).bind (fun q36 => some ((q36 >>> (((7 : Int32) - (x1 - x1 / (8 : Int32) * (8 : Int32))) &&& 31)) &&& (1 : Int32)))
set_option maxHeartbeats 4000000 in
set_option maxRecDepth 100000 in
theorem c_B_bitAt (l : Launch) (dC : Nat → ClassId) (dI : Nat → Nat → Nat) (cI cL : ClassId) {ws : va_W} {kB kBA aB aBA : Nat} {B_filled B_taken : Int32} {BA_n : Nat} {BA_f : Nat → Int32} (x1 : Int32) (hN_B : ws[kB]? = some (aB, .inr (6, [.ref aBA, .int B_filled, .int B_taken]))) (hN_BA : ws[kBA]? = some (aBA, .inl (cI, BA_n, .inl BA_f))) (r : Int32) (hf : f_B_bitAt x1 BA_n BA_f = some r) : Met l y_B_bitAt w_B_bitAt rm_B_bitAt (va_Pc [.ref aB, .int x1] (zR dC dI cI cL ws)) (vp_Si (fun v => v = r)) 0 0 (fun _ => False) := by
  refine Met.ofW (cc := b_B_bitAt) (maxL := 2) (ret := some .int) (by decide) rfl ?_
  intro p e s m args below meth c s₁ B hml hv
  obtain ⟨rfl, hP, hK, hZ⟩ := hv
  have hx := B.exec
  have hb := B.bytes
  have hr := B.returns
  have hlocks := B.notSynchronized
  have hts : ∀ w ∈ BIG, w.before ([.ref aB, .int x1] : List Value).toArray s = true := fun w h => atoms_spec (ws := w_B_bitAt) B.pre w (List.mem_cons_of_mem _ h)
  have hown : s.vm.findClass "FractalMaps$Bits" = some m.cls := findClass_of_methodNamed B.named
  have hl := lv_entry ([.ref aB, .int x1]) (n := 2) (Nat.le_of_ble_eq_true rfl)
  rw [lg_entry_eq]
  generalize (lg_sl ([.ref aB, .int x1]) ++ List.replicate (2 - (lg_sl ([.ref aB, .int x1])).length) Slot.unset).toArray = ls at hl ⊢
  have hl : lv_has ls 2 [(0, .ref aB), (1, .int x1)] := hl
  unfold f_B_bitAt at hf
  refine lv_aload_n hx hb d_B_bitAt_0 rfl (lv_at hl 0 rfl) ?_
  refine lv_iload_n hx hb d_B_bitAt_1 rfl (lv_at hl 1 rfl) ?_
  refine lv_bipush (v := 8) hx hb d_B_bitAt_2 (by decide) ?_
  refine lv_idiv hx hb d_B_bitAt_4 (by decide) ?_
  obtain ⟨q36, hc, hf⟩ := z_b hf
  refine vp_callSi (z_cr (va_runV (As := [.int (x1 / (8 : Int32))]) (rest := []) ⟨hx, hb, hml, hown, hts⟩ (c_B_byteOf l dC dI cI cL (x1 / (8 : Int32)) hN_B hN_BA q36 hc) (cw_B_39 hts ⟨Nat.le_of_ble_eq_true rfl, Nat.le_of_ble_eq_true rfl⟩) ⟨zbR, va_recv hK hP (ci := 6) rfl hN_B, (zpR hP hK hZ)⟩ rfl rfl hl.1 rfl (lv_room (Nat.le_of_ble_eq_true rfl)) d_B_bitAt_5 ⟨Nat.zero_le _, Nat.zero_le _⟩)) (fun r37 hv => ?_)
  have hv := hv.symm
  subst hv
  refine lv_bipush (v := 7) hx hb d_B_bitAt_8 (by decide) ?_
  refine lv_iload_n hx hb d_B_bitAt_10 rfl (lv_at hl 1 rfl) ?_
  refine lv_bipush (v := 8) hx hb d_B_bitAt_11 (by decide) ?_
  refine lv_irem hx hb d_B_bitAt_13 (by decide) ?_
  refine lv_isub hx hb d_B_bitAt_14 ?_
  refine lv_ishr hx hb d_B_bitAt_15 ?_
  refine lv_iconst (v := 1) hx hb d_B_bitAt_16 (by decide) ?_
  refine lv_iand hx hb d_B_bitAt_17 ?_
  obtain rfl := Option.some.inj hf
  exact W.iret hx hb hr (fun t ht hW => ⟨_, rfl, rfl, ht⟩) (fun q h => by cases h) d_B_bitAt_18
def f_B_take_19 (p1 : Int32) (B_taken : Int32) (BA_n : Nat) (BA_f : Nat → Int32) : Nat → Int32 → Int32 → Option (Int32 × Int32)
  | 0, _, _ => none
  | n + 1, v2, v3 => if p1 ≤ v3 then (some (v2, v3)) else ((f_B_bitAt (B_taken + v3) BA_n BA_f).bind (fun q38 => f_B_take_19 p1 B_taken BA_n BA_f n (((2 : Int32) * v2) + q38) (v3 + 1)))
def f_B_take (x1 : Int32) (B_filled : Int32) (B_taken : Int32) (BA_n : Nat) (BA_f : Nat → Int32) : Option (Int32 × Int32) := if x1 ≤ (B_filled - B_taken) then ((f_B_take_19 x1 B_taken BA_n BA_f FU (0 : Int32) (0 : Int32)).bind (fun q40 => some (q40.1, (B_taken + x1)))) else (some (((-1) : Int32), B_taken))
set_option maxHeartbeats 4000000 in
set_option maxRecDepth 100000 in
theorem c_B_take (l : Launch) (dC : Nat → ClassId) (dI : Nat → Nat → Nat) (cI cL : ClassId) {ws0 : va_W} (sz : Nat) {kB kBA aB aBA : Nat} {B_filled B_taken : Int32} {BA_n : Nat} {BA_f : Nat → Int32} (x1 : Int32) (hN_B : ws0[kB]? = some (aB, .inr (6, [.ref aBA, .int B_filled, .int B_taken]))) (hN_BA : ws0[kBA]? = some (aBA, .inl (cI, BA_n, .inl BA_f))) (ne_B_BA : kB ≠ kBA) (r : Int32 × Int32) (hf : f_B_take x1 B_filled B_taken BA_n BA_f = some r) : Met l y_B_take w_B_take rm_B_take (va_Pc [.ref aB, .int x1] (zM dC dI cI cL ws0 sz)) (va_Qi (fun (v : Int32) (ws' : va_W) => v = r.1 ∧ ws'[kB]? = some (aB, .inr (6, [.ref aBA, .int B_filled, .int r.2])) ∧ ∀ j, j ∉ [kB] → ws'[j]? = ws0[j]?) (zQ dC dI cI cL (va_A ws0 sz)) (va_A ws0 sz)) 0 0 (va_A ws0 sz) := by
  refine Met.ofW (cc := b_B_take) (maxL := 4) (ret := some .int) (by decide) rfl ?_
  intro p e s m args below meth c s₁ B hml hv
  obtain ⟨rfl, hsz, hP, hK, hZ, hD0⟩ := hv
  have hx := B.exec
  have hb := B.bytes
  have hr := B.returns
  have hlocks := B.notSynchronized
  have hts : ∀ w ∈ BIG, w.before ([.ref aB, .int x1] : List Value).toArray s = true := fun w h => atoms_spec (ws := w_B_take) B.pre w (List.mem_cons_of_mem _ h)
  have hown : s.vm.findClass "FractalMaps$Bits" = some m.cls := findClass_of_methodNamed B.named
  subst hsz
  have hD := hD0.self (sz := s.heap.size)
  generalize hAe : va_A ws0 s.heap.size = A at hD ⊢
  have hA : ∀ q : Nat, s.heap.size ≤ q → A q := fun q h => by rw [← hAe]; exact Or.inr h
  have hS : va_S A s.heap s.heap [] := va_S.rf
  have hw : ∀ j, j ∉ [kB] → ws0[j]? = ws0[j]? := fun _ _ => rfl
  have hl := lv_entry ([.ref aB, .int x1]) (n := 4) (Nat.le_of_ble_eq_true rfl)
  rw [lg_entry_eq]
  generalize (lg_sl ([.ref aB, .int x1]) ++ List.replicate (4 - (lg_sl ([.ref aB, .int x1])).length) Slot.unset).toArray = ls at hl ⊢
  have hl : lv_has ls 4 [(0, .ref aB), (1, .int x1)] := hl
  unfold f_B_take at hf
  refine lv_aload_n hx hb d_B_take_0 rfl (lv_at hl 0 rfl) ?_
  refine gf_B_24 (v := .int B_filled) hx hb hts hown hK hP hN_B rfl d_B_take_1 ?_
  refine lv_aload_n hx hb d_B_take_4 rfl (lv_at hl 0 rfl) ?_
  refine gf_B_28 (v := .int B_taken) hx hb hts hown hK hP hN_B rfl d_B_take_5 ?_
  refine lv_isub hx hb d_B_take_8 ?_
  refine lv_iload_n hx hb d_B_take_9 rfl (lv_at hl 1 rfl) ?_
  refine lv_icmp_ge (tgt := 15) hx hb d_B_take_10 (by decide) (fun hc => ?_) (fun hc => ?_)
  · have hf := z_t hc hf
    refine lv_iconst (v := 0) hx hb d_B_take_15 (by decide) ?_
    refine lv_istore_n (lv' := [(2, .int (0 : Int32)), (0, .ref aB), (1, .int x1)]) hx hb d_B_take_16 rfl hl (by decide) rfl (fun ls hl => ?_)
    refine lv_iconst (v := 0) hx hb d_B_take_17 (by decide) ?_
    refine lv_istore_n (lv' := [(3, .int (0 : Int32)), (2, .int (0 : Int32)), (0, .ref aB), (1, .int x1)]) hx hb d_B_take_18 rfl hl (by decide) rfl (fun ls hl => ?_)
    have lp43 : ∀ (Qx : State → Prop) (n : Nat) (v2_41 : Int32) (v3_42 : Int32) (ls : Array Slot) (q : Int32 × Int32) (hf : f_B_take_19 x1 B_taken BA_n BA_f n v2_41 v3_42 = some q) (hl : lv_has ls 4 [(0, .ref aB), (1, .int x1), (2, .int v2_41), (3, .int v3_42)]) (kt0 : ∀ (ls : Array Slot), lv_has ls 4 [(0, .ref aB), (1, .int x1), (2, .int q.1), (3, .int q.2)] → W p l e (headSpec w_B_take rm_B_take).room s m ([.ref aB, .int x1] : List Value).toArray below meth c s.heap [] 0 0 Qx (F0 m 45 ls [])), W p l e (headSpec w_B_take rm_B_take).room s m ([.ref aB, .int x1] : List Value).toArray below meth c s.heap [] 0 0 Qx (F0 m 19 ls []) := by
      intro Qx n
      induction n with
      | zero => intro v2_41 v3_42 ls q hf; cases hf
      | succ n ih =>
        intro v2_41 v3_42 ls q hf hl kt0
        rw [f_B_take_19] at hf
        refine lv_iload_n hx hb d_B_take_19 rfl (lv_at hl 3 rfl) ?_
        refine lv_iload_n hx hb d_B_take_20 rfl (lv_at hl 1 rfl) ?_
        refine lv_icmp_ge (tgt := 45) hx hb d_B_take_21 (by decide) (fun hc => ?_) (fun hc => ?_)
        · have hf := z_t hc hf
          obtain rfl := Option.some.inj hf
          exact kt0 ls (lv_sub hl [0, 1, 2, 3] rfl)
        · have hf := z_f hc hf
          refine lv_iconst (v := 2) hx hb d_B_take_24 (by decide) ?_
          refine lv_iload_n hx hb d_B_take_25 rfl (lv_at hl 2 rfl) ?_
          refine lv_imul hx hb d_B_take_26 ?_
          refine lv_aload_n hx hb d_B_take_27 rfl (lv_at hl 0 rfl) ?_
          refine lv_aload_n hx hb d_B_take_28 rfl (lv_at hl 0 rfl) ?_
          refine gf_B_28 (v := .int B_taken) hx hb hts hown hK hP hN_B rfl d_B_take_29 ?_
          refine lv_iload_n hx hb d_B_take_32 rfl (lv_at hl 3 rfl) ?_
          refine lv_iadd hx hb d_B_take_33 ?_
          obtain ⟨q44, hc, hf⟩ := z_b hf
          refine vp_callSi (z_cr (va_runV (As := [.int (B_taken + v3_42)]) (rest := [.int ((2 : Int32) * v2_41)]) ⟨hx, hb, hml, hown, hts⟩ (c_B_bitAt l dC dI cI cL (B_taken + v3_42) hN_B hN_BA q44 hc) (cw_B_35 hts ⟨Nat.le_of_ble_eq_true rfl, Nat.le_of_ble_eq_true rfl⟩) ⟨zbR, va_recv hK hP (ci := 6) rfl hN_B, (zpR hP hK hZ)⟩ rfl rfl hl.1 rfl (lv_room (Nat.le_of_ble_eq_true rfl)) d_B_take_34 ⟨Nat.zero_le _, Nat.zero_le _⟩)) (fun r45 hv => ?_)
          have hv := hv.symm
          subst hv
          refine lv_iadd hx hb d_B_take_37 ?_
          refine lv_istore_n (lv' := [(2, .int (((2 : Int32) * v2_41) + q44)), (0, .ref aB), (1, .int x1), (3, .int v3_42)]) hx hb d_B_take_38 rfl hl (by decide) rfl (fun ls hl => ?_)
          refine lv_iinc (v := (v3_42 + 1)) (lv' := [(3, .int (v3_42 + 1)), (2, .int (((2 : Int32) * v2_41) + q44)), (0, .ref aB), (1, .int x1)]) hx hb d_B_take_39 hl (k := 3) rfl rfl (by decide) rfl (fun ls hl => ?_)
          refine lv_goto (tgt := 19) hx hb d_B_take_42 (by decide) ?_
          exact ih (((2 : Int32) * v2_41) + q44) (v3_42 + 1) ls _ hf (lv_sub hl [2, 3, 1, 0] rfl) kt0
    obtain ⟨q40, hc, hf⟩ := z_b hf
    refine lp43 _ FU (0 : Int32) (0 : Int32) ls q40 hc (lv_sub hl [2, 3, 1, 0] rfl) (fun ls hl => ?_)
    refine lv_aload_n hx hb d_B_take_45 rfl (lv_at hl 0 rfl) ?_
    refine lv_dup hx hb d_B_take_46 rfl ?_
    refine gf_B_28 (v := .int B_taken) hx hb hts hown hK hP hN_B rfl d_B_take_47 ?_
    refine lv_iload_n hx hb d_B_take_50 rfl (lv_at hl 1 rfl) ?_
    refine lv_iadd hx hb d_B_take_51 ?_
    refine pf_B_28 (v := .int (B_taken + x1)) hx hb hts hown hK hP hD hS hN_B rfl rfl (Nat.le_of_ble_eq_true rfl) d_B_take_52 (fun ws H locs hP hD hS hN_B hfr => ?_)
    have hN_B : ws[kB]? = some (aB, .inr (6, [.ref aBA, .int B_filled, .int (B_taken + x1)])) := hN_B
    have hN_BA := (hfr _ ne_B_BA.symm).trans hN_BA
    have hw := z_fr List.mem_cons_self hw hfr
    refine lv_iload_n hx hb d_B_take_55 rfl (lv_at hl 2 rfl) ?_
    obtain rfl := Option.some.inj hf
    exact W.iret hx hb hr (fun t ht hW => ⟨⟨_, ws, rfl, ⟨rfl, hN_B, hw⟩, by rw [ht]; exact hP, va_K.moved hW.alike hK, hD⟩, hS.F ht⟩) hS.2.2 d_B_take_56
  · have hf := z_f hc hf
    refine lv_iconst (v := (-1)) hx hb d_B_take_13 (by decide) ?_
    obtain rfl := Option.some.inj hf
    exact W.iret hx hb hr (fun t ht hW => ⟨⟨_, ws0, rfl, ⟨rfl, hN_B, hw⟩, by rw [ht]; exact hP, va_K.moved hW.alike hK, hD⟩, hS.F ht⟩) hS.2.2 d_B_take_14
def f_F_isSize (x1 : Int32) : Option (Int32) := if x1 = (2 : Int32) then (some (1 : Int32)) else (if x1 = (4 : Int32) then (some (1 : Int32)) else (if x1 = (8 : Int32) then (some (1 : Int32)) else (if x1 = (16 : Int32) then (some (1 : Int32)) else (some (0 : Int32)))))
set_option maxHeartbeats 4000000 in
set_option maxRecDepth 100000 in
theorem c_F_isSize (l : Launch) (x1 : Int32) (r : Int32) (hf : f_F_isSize x1 = some r) : Met l y_F_isSize w_F_isSize rm_F_isSize (va_Pc [.int x1] (fun _ => True)) (vp_Si (fun v => v = r)) 0 0 (fun _ => False) := by
  refine Met.ofW (cc := b_F_isSize) (maxL := 1) (ret := some .boolean) (by decide) rfl ?_
  intro p e s m args below meth c s₁ B hml hv
  obtain ⟨rfl, -⟩ := hv
  have hx := B.exec
  have hb := B.bytes
  have hr := B.returns
  have hlocks := B.notSynchronized
  have hts : ∀ w ∈ BIG, w.before ([.int x1] : List Value).toArray s = true := fun w h => atoms_spec (ws := w_F_isSize) B.pre w (List.mem_cons_of_mem _ h)
  have hown : s.vm.findClass "FractalMaps" = some m.cls := findClass_of_methodNamed B.named
  have hl := lv_entry ([.int x1]) (n := 1) (Nat.le_of_ble_eq_true rfl)
  rw [lg_entry_eq]
  generalize (lg_sl ([.int x1]) ++ List.replicate (1 - (lg_sl ([.int x1])).length) Slot.unset).toArray = ls at hl ⊢
  have hl : lv_has ls 1 [(0, .int x1)] := hl
  unfold f_F_isSize at hf
  refine lv_iload_n hx hb d_F_isSize_0 rfl (lv_at hl 0 rfl) ?_
  refine lv_iconst (v := 2) hx hb d_F_isSize_1 (by decide) ?_
  refine lv_icmp_eq (tgt := 22) hx hb d_F_isSize_2 (by decide) (fun hc => ?_) (fun hc => ?_)
  · have hf := z_t hc hf
    refine lv_iconst (v := 1) hx hb d_F_isSize_22 (by decide) ?_
    refine lv_goto (tgt := 27) hx hb d_F_isSize_23 (by decide) ?_
    obtain rfl := Option.some.inj hf
    exact W.zret (ty := .boolean) hx hb hr (by decide) (fun t ht hW => ⟨_, rfl, rfl, ht⟩) (fun q h => by cases h) d_F_isSize_27
  · have hf := z_f hc hf
    refine lv_iload_n hx hb d_F_isSize_5 rfl (lv_at hl 0 rfl) ?_
    refine lv_iconst (v := 4) hx hb d_F_isSize_6 (by decide) ?_
    refine lv_icmp_eq (tgt := 22) hx hb d_F_isSize_7 (by decide) (fun hc => ?_) (fun hc => ?_)
    · have hf := z_t hc hf
      refine lv_iconst (v := 1) hx hb d_F_isSize_22 (by decide) ?_
      refine lv_goto (tgt := 27) hx hb d_F_isSize_23 (by decide) ?_
      obtain rfl := Option.some.inj hf
      exact W.zret (ty := .boolean) hx hb hr (by decide) (fun t ht hW => ⟨_, rfl, rfl, ht⟩) (fun q h => by cases h) d_F_isSize_27
    · have hf := z_f hc hf
      refine lv_iload_n hx hb d_F_isSize_10 rfl (lv_at hl 0 rfl) ?_
      refine lv_bipush (v := 8) hx hb d_F_isSize_11 (by decide) ?_
      refine lv_icmp_eq (tgt := 22) hx hb d_F_isSize_13 (by decide) (fun hc => ?_) (fun hc => ?_)
      · have hf := z_t hc hf
        refine lv_iconst (v := 1) hx hb d_F_isSize_22 (by decide) ?_
        refine lv_goto (tgt := 27) hx hb d_F_isSize_23 (by decide) ?_
        obtain rfl := Option.some.inj hf
        exact W.zret (ty := .boolean) hx hb hr (by decide) (fun t ht hW => ⟨_, rfl, rfl, ht⟩) (fun q h => by cases h) d_F_isSize_27
      · have hf := z_f hc hf
        refine lv_iload_n hx hb d_F_isSize_16 rfl (lv_at hl 0 rfl) ?_
        refine lv_bipush (v := 16) hx hb d_F_isSize_17 (by decide) ?_
        refine lv_icmp_ne (tgt := 26) hx hb d_F_isSize_19 (by decide) (fun hc => ?_) (fun hc => ?_)
        · have hf := z_f hc hf
          refine lv_iconst (v := 0) hx hb d_F_isSize_26 (by decide) ?_
          obtain rfl := Option.some.inj hf
          exact W.zret (ty := .boolean) hx hb hr (by decide) (fun t ht hW => ⟨_, rfl, rfl, ht⟩) (fun q h => by cases h) d_F_isSize_27
        · have hf := z_t hc hf
          refine lv_iconst (v := 1) hx hb d_F_isSize_22 (by decide) ?_
          refine lv_goto (tgt := 27) hx hb d_F_isSize_23 (by decide) ?_
          obtain rfl := Option.some.inj hf
          exact W.zret (ty := .boolean) hx hb hr (by decide) (fun t ht hW => ⟨_, rfl, rfl, ht⟩) (fun q h => by cases h) d_F_isSize_27
def f_F_acrossOf (x1 : Int32) : Option (Int32) := some (x1 &&& (1 : Int32))
set_option maxHeartbeats 4000000 in
set_option maxRecDepth 100000 in
theorem c_F_acrossOf (l : Launch) (x1 : Int32) (r : Int32) (hf : f_F_acrossOf x1 = some r) : Met l y_F_acrossOf w_F_acrossOf rm_F_acrossOf (va_Pc [.int x1] (fun _ => True)) (vp_Si (fun v => v = r)) 0 0 (fun _ => False) := by
  refine Met.ofW (cc := b_F_acrossOf) (maxL := 1) (ret := some .int) (by decide) rfl ?_
  intro p e s m args below meth c s₁ B hml hv
  obtain ⟨rfl, -⟩ := hv
  have hx := B.exec
  have hb := B.bytes
  have hr := B.returns
  have hlocks := B.notSynchronized
  have hts : ∀ w ∈ BIG, w.before ([.int x1] : List Value).toArray s = true := fun w h => atoms_spec (ws := w_F_acrossOf) B.pre w (List.mem_cons_of_mem _ h)
  have hown : s.vm.findClass "FractalMaps" = some m.cls := findClass_of_methodNamed B.named
  have hl := lv_entry ([.int x1]) (n := 1) (Nat.le_of_ble_eq_true rfl)
  rw [lg_entry_eq]
  generalize (lg_sl ([.int x1]) ++ List.replicate (1 - (lg_sl ([.int x1])).length) Slot.unset).toArray = ls at hl ⊢
  have hl : lv_has ls 1 [(0, .int x1)] := hl
  unfold f_F_acrossOf at hf
  refine lv_iload_n hx hb d_F_acrossOf_0 rfl (lv_at hl 0 rfl) ?_
  refine lv_iconst (v := 1) hx hb d_F_acrossOf_1 (by decide) ?_
  refine lv_iand hx hb d_F_acrossOf_2 ?_
  obtain rfl := Option.some.inj hf
  exact W.iret hx hb hr (fun t ht hW => ⟨_, rfl, rfl, ht⟩) (fun q h => by cases h) d_F_acrossOf_3
def f_F_downOf (x1 : Int32) : Option (Int32) := some (x1 >>> ((1 : Int32) &&& 31))
set_option maxHeartbeats 4000000 in
set_option maxRecDepth 100000 in
theorem c_F_downOf (l : Launch) (x1 : Int32) (r : Int32) (hf : f_F_downOf x1 = some r) : Met l y_F_downOf w_F_downOf rm_F_downOf (va_Pc [.int x1] (fun _ => True)) (vp_Si (fun v => v = r)) 0 0 (fun _ => False) := by
  refine Met.ofW (cc := b_F_downOf) (maxL := 1) (ret := some .int) (by decide) rfl ?_
  intro p e s m args below meth c s₁ B hml hv
  obtain ⟨rfl, -⟩ := hv
  have hx := B.exec
  have hb := B.bytes
  have hr := B.returns
  have hlocks := B.notSynchronized
  have hts : ∀ w ∈ BIG, w.before ([.int x1] : List Value).toArray s = true := fun w h => atoms_spec (ws := w_F_downOf) B.pre w (List.mem_cons_of_mem _ h)
  have hown : s.vm.findClass "FractalMaps" = some m.cls := findClass_of_methodNamed B.named
  have hl := lv_entry ([.int x1]) (n := 1) (Nat.le_of_ble_eq_true rfl)
  rw [lg_entry_eq]
  generalize (lg_sl ([.int x1]) ++ List.replicate (1 - (lg_sl ([.int x1])).length) Slot.unset).toArray = ls at hl ⊢
  have hl : lv_has ls 1 [(0, .int x1)] := hl
  unfold f_F_downOf at hf
  refine lv_iload_n hx hb d_F_downOf_0 rfl (lv_at hl 0 rfl) ?_
  refine lv_iconst (v := 1) hx hb d_F_downOf_1 (by decide) ?_
  refine lv_ishr hx hb d_F_downOf_2 ?_
  obtain rfl := Option.some.inj hf
  exact W.iret hx hb hr (fun t ht hW => ⟨_, rfl, rfl, ht⟩) (fun q h => by cases h) d_F_downOf_3
