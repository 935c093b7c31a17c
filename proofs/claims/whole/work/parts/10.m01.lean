def f_F_domainsAcross (x1 : Int32) (x2 : Int32) : Option (Int32) := if x2 < (1 : Int32) then (some (0 : Int32)) else (if x2 ≤ x1 then (if x2 = 0 then none else (some ((x1 / x2) - (1 : Int32)))) else (some (0 : Int32)))
set_option maxHeartbeats 4000000 in
set_option maxRecDepth 100000 in
theorem c_F_domainsAcross (l : Launch) (x1 : Int32) (x2 : Int32) (r : Int32) (hf : f_F_domainsAcross x1 x2 = some r) : Met l y_F_domainsAcross w_F_domainsAcross rm_F_domainsAcross (va_Pc [.int x1, .int x2] (fun _ => True)) (vp_Si (fun v => v = r)) 0 0 (fun _ => False) := by
  refine Met.ofW (cc := b_F_domainsAcross) (maxL := 2) (ret := some .int) (by decide) rfl ?_
  intro p e s m args below meth c s₁ B hml hv
  obtain ⟨rfl, -⟩ := hv
  have hx := B.exec
  have hb := B.bytes
  have hr := B.returns
  have hlocks := B.notSynchronized
  have hts : ∀ w ∈ BIG, w.before ([.int x1, .int x2] : List Value).toArray s = true := fun w h => atoms_spec (ws := w_F_domainsAcross) B.pre w (List.mem_cons_of_mem _ h)
  have hown : s.vm.findClass "FractalMaps" = some m.cls := findClass_of_methodNamed B.named
  have hl := lv_entry ([.int x1, .int x2]) (n := 2) (Nat.le_of_ble_eq_true rfl)
  rw [lg_entry_eq]
  generalize (lg_sl ([.int x1, .int x2]) ++ List.replicate (2 - (lg_sl ([.int x1, .int x2])).length) Slot.unset).toArray = ls at hl ⊢
  have hl : lv_has ls 2 [(0, .int x1), (1, .int x2)] := hl
  unfold f_F_domainsAcross at hf
  refine lv_iload_n hx hb d_F_domainsAcross_0 rfl (lv_at hl 1 rfl) ?_
  refine lv_iconst (v := 1) hx hb d_F_domainsAcross_1 (by decide) ?_
  refine lv_icmp_lt (tgt := 10) hx hb d_F_domainsAcross_2 (by decide) (fun hc => ?_) (fun hc => ?_)
  · have hf := z_t hc hf
    refine lv_iconst (v := 0) hx hb d_F_domainsAcross_10 (by decide) ?_
    refine lv_goto (tgt := 19) hx hb d_F_domainsAcross_11 (by decide) ?_
    obtain rfl := Option.some.inj hf
    exact W.iret hx hb hr (fun t ht hW => ⟨_, rfl, rfl, ht⟩) (fun q h => by cases h) d_F_domainsAcross_19
  · have hf := z_f hc hf
    refine lv_iload_n hx hb d_F_domainsAcross_5 rfl (lv_at hl 1 rfl) ?_
    refine lv_iload_n hx hb d_F_domainsAcross_6 rfl (lv_at hl 0 rfl) ?_
    refine lv_icmp_le (tgt := 14) hx hb d_F_domainsAcross_7 (by decide) (fun hc => ?_) (fun hc => ?_)
    · have hf := z_t hc hf
      refine lv_iload_n hx hb d_F_domainsAcross_14 rfl (lv_at hl 0 rfl) ?_
      refine lv_iload_n hx hb d_F_domainsAcross_15 rfl (lv_at hl 1 rfl) ?_
      obtain ⟨hne, hf⟩ := z_no hf
      refine lv_idiv hx hb d_F_domainsAcross_16 hne ?_
      refine lv_iconst (v := 1) hx hb d_F_domainsAcross_17 (by decide) ?_
      refine lv_isub hx hb d_F_domainsAcross_18 ?_
      obtain rfl := Option.some.inj hf
      exact W.iret hx hb hr (fun t ht hW => ⟨_, rfl, rfl, ht⟩) (fun q h => by cases h) d_F_domainsAcross_19
    · have hf := z_f hc hf
      refine lv_iconst (v := 0) hx hb d_F_domainsAcross_10 (by decide) ?_
      refine lv_goto (tgt := 19) hx hb d_F_domainsAcross_11 (by decide) ?_
      obtain rfl := Option.some.inj hf
      exact W.iret hx hb hr (fun t ht hW => ⟨_, rfl, rfl, ht⟩) (fun q h => by cases h) d_F_domainsAcross_19
def f_F_domainsOf (x1 : Int32) (x2 : Int32) : Option (Int32) := (f_F_domainsAcross x1 x2).bind (fun q46 => some (q46 * q46))
set_option maxHeartbeats 4000000 in
set_option maxRecDepth 100000 in
theorem c_F_domainsOf (l : Launch) (x1 : Int32) (x2 : Int32) (r : Int32) (hf : f_F_domainsOf x1 x2 = some r) : Met l y_F_domainsOf w_F_domainsOf rm_F_domainsOf (va_Pc [.int x1, .int x2] (fun _ => True)) (vp_Si (fun v => v = r)) 0 0 (fun _ => False) := by
  refine Met.ofW (cc := b_F_domainsOf) (maxL := 3) (ret := some .int) (by decide) rfl ?_
  intro p e s m args below meth c s₁ B hml hv
  obtain ⟨rfl, -⟩ := hv
  have hx := B.exec
  have hb := B.bytes
  have hr := B.returns
  have hlocks := B.notSynchronized
  have hts : ∀ w ∈ BIG, w.before ([.int x1, .int x2] : List Value).toArray s = true := fun w h => atoms_spec (ws := w_F_domainsOf) B.pre w (List.mem_cons_of_mem _ h)
  have hown : s.vm.findClass "FractalMaps" = some m.cls := findClass_of_methodNamed B.named
  have hl := lv_entry ([.int x1, .int x2]) (n := 3) (Nat.le_of_ble_eq_true rfl)
  rw [lg_entry_eq]
  generalize (lg_sl ([.int x1, .int x2]) ++ List.replicate (3 - (lg_sl ([.int x1, .int x2])).length) Slot.unset).toArray = ls at hl ⊢
  have hl : lv_has ls 3 [(0, .int x1), (1, .int x2)] := hl
  unfold f_F_domainsOf at hf
  refine lv_iload_n hx hb d_F_domainsOf_0 rfl (lv_at hl 0 rfl) ?_
  refine lv_iload_n hx hb d_F_domainsOf_1 rfl (lv_at hl 1 rfl) ?_
  obtain ⟨q46, hc, hf⟩ := z_b hf
  refine vp_callSi (z_cr (va_runS (As := [.int x1, .int x2]) (rest := []) ⟨hx, hb, hml, hown, hts⟩ (c_F_domainsAcross l x1 x2 q46 hc) (cw_F_287 hts ⟨Nat.le_of_ble_eq_true rfl, Nat.le_of_ble_eq_true rfl⟩) ⟨zb0, zp0⟩ rfl rfl hl.1 rfl (lv_room (Nat.le_of_ble_eq_true rfl)) d_F_domainsOf_2 ⟨Nat.zero_le _, Nat.zero_le _⟩)) (fun r47 hv => ?_)
  have hv := hv.symm
  subst hv
  refine lv_istore_n (lv' := [(2, .int q46), (0, .int x1), (1, .int x2)]) hx hb d_F_domainsOf_5 rfl hl (by decide) rfl (fun ls hl => ?_)
  refine lv_iload_n hx hb d_F_domainsOf_6 rfl (lv_at hl 0 rfl) ?_
  refine lv_iload_n hx hb d_F_domainsOf_7 rfl (lv_at hl 0 rfl) ?_
  refine lv_imul hx hb d_F_domainsOf_8 ?_
  obtain rfl := Option.some.inj hf
  exact W.iret hx hb hr (fun t ht hW => ⟨_, rfl, rfl, ht⟩) (fun q h => by cases h) d_F_domainsOf_9
def f_F_domainBits_11 (p1 : Int32) (p2 : Int32) : Nat → Int32 → Option (Int32)
  | 0, _ => none
  | n + 1, v3 => if (8 : Int32) ≤ v3 then (some v3) else (if p2 ≤ ((1 : Int32) <<< (v3 &&& 31)) then (some v3) else (f_F_domainBits_11 p1 p2 n (v3 + 1)))
def f_F_domainBits (x1 : Int32) (O_side : Int32) : Option (Int32) := (f_F_domainsOf O_side x1).bind (fun q48 => (f_F_domainBits_11 x1 q48 FU (0 : Int32)).bind (fun q50 => some q50))
set_option maxHeartbeats 4000000 in
set_option maxRecDepth 100000 in
theorem c_F_domainBits (l : Launch) (dC : Nat → ClassId) (dI : Nat → Nat → Nat) (cI cL : ClassId) {ws : va_W} {aO aP aN aH aV aS aK aT aC aI : Nat} {O_side : Int32} (x1 : Int32) (hN_O : ws[0]? = some (aO, .inr (0, [.int O_side, .ref aP, .ref aN, .ref aH, .ref aV, .ref aS, .ref aK, .ref aT, .ref aC, .ref aI]))) (r : Int32) (hf : f_F_domainBits x1 O_side = some r) : Met l y_F_domainBits w_F_domainBits rm_F_domainBits (va_Pc [.ref aO, .int x1] (zR dC dI cI cL ws)) (vp_Si (fun v => v = r)) 0 0 (fun _ => False) := by
  refine Met.ofW (cc := b_F_domainBits) (maxL := 4) (ret := some .int) (by decide) rfl ?_
  intro p e s m args below meth c s₁ B hml hv
  obtain ⟨rfl, hP, hK, hZ⟩ := hv
  have hx := B.exec
  have hb := B.bytes
  have hr := B.returns
  have hlocks := B.notSynchronized
  have hts : ∀ w ∈ BIG, w.before ([.ref aO, .int x1] : List Value).toArray s = true := fun w h => atoms_spec (ws := w_F_domainBits) B.pre w (List.mem_cons_of_mem _ h)
  have hown : s.vm.findClass "FractalMaps" = some m.cls := findClass_of_methodNamed B.named
  have hl := lv_entry ([.ref aO, .int x1]) (n := 4) (Nat.le_of_ble_eq_true rfl)
  rw [lg_entry_eq]
  generalize (lg_sl ([.ref aO, .int x1]) ++ List.replicate (4 - (lg_sl ([.ref aO, .int x1])).length) Slot.unset).toArray = ls at hl ⊢
  have hl : lv_has ls 4 [(0, .ref aO), (1, .int x1)] := hl
  unfold f_F_domainBits at hf
  refine lv_aload_n hx hb d_F_domainBits_0 rfl (lv_at hl 0 rfl) ?_
  refine gf_F_16 (v := .int O_side) hx hb hts hown hK hP hN_O rfl d_F_domainBits_1 ?_
  refine lv_iload_n hx hb d_F_domainBits_4 rfl (lv_at hl 1 rfl) ?_
  obtain ⟨q48, hc, hf⟩ := z_b hf
  refine vp_callSi (z_cr (va_runS (As := [.int O_side, .int x1]) (rest := []) ⟨hx, hb, hml, hown, hts⟩ (c_F_domainsOf l O_side x1 q48 hc) (cw_F_192 hts ⟨Nat.le_of_ble_eq_true rfl, Nat.le_of_ble_eq_true rfl⟩) ⟨zb0, zp0⟩ rfl rfl hl.1 rfl (lv_room (Nat.le_of_ble_eq_true rfl)) d_F_domainBits_5 ⟨Nat.zero_le _, Nat.zero_le _⟩)) (fun r49 hv => ?_)
  have hv := hv.symm
  subst hv
  refine lv_istore_n (lv' := [(2, .int q48), (0, .ref aO), (1, .int x1)]) hx hb d_F_domainBits_8 rfl hl (by decide) rfl (fun ls hl => ?_)
  refine lv_iconst (v := 0) hx hb d_F_domainBits_9 (by decide) ?_
  refine lv_istore_n (lv' := [(3, .int (0 : Int32)), (2, .int q48), (0, .ref aO), (1, .int x1)]) hx hb d_F_domainBits_10 rfl hl (by decide) rfl (fun ls hl => ?_)
  have lp52 : ∀ (Qx : State → Prop) (n : Nat) (v3_51 : Int32) (ls : Array Slot) (q : Int32) (hf : f_F_domainBits_11 x1 q48 n v3_51 = some q) (hl : lv_has ls 4 [(0, .ref aO), (1, .int x1), (2, .int q48), (3, .int v3_51)]) (kt0 : ∀ (ls : Array Slot), lv_has ls 4 [(0, .ref aO), (1, .int x1), (2, .int q48), (3, .int q)] → W p l e (headSpec w_F_domainBits rm_F_domainBits).room s m ([.ref aO, .int x1] : List Value).toArray below meth c s.heap [] 0 0 Qx (F0 m 30 ls [])), W p l e (headSpec w_F_domainBits rm_F_domainBits).room s m ([.ref aO, .int x1] : List Value).toArray below meth c s.heap [] 0 0 Qx (F0 m 11 ls []) := by
    intro Qx n
    induction n with
    | zero => intro v3_51 ls q hf; cases hf
    | succ n ih =>
      intro v3_51 ls q hf hl kt0
      rw [f_F_domainBits_11] at hf
      refine lv_iload_n hx hb d_F_domainBits_11 rfl (lv_at hl 3 rfl) ?_
      refine lv_bipush (v := 8) hx hb d_F_domainBits_12 (by decide) ?_
      refine lv_icmp_ge (tgt := 30) hx hb d_F_domainBits_14 (by decide) (fun hc => ?_) (fun hc => ?_)
      · have hf := z_t hc hf
        obtain rfl := Option.some.inj hf
        exact kt0 ls (lv_sub hl [0, 1, 2, 3] rfl)
      · have hf := z_f hc hf
        refine lv_iconst (v := 1) hx hb d_F_domainBits_17 (by decide) ?_
        refine lv_iload_n hx hb d_F_domainBits_18 rfl (lv_at hl 3 rfl) ?_
        refine lv_ishl hx hb d_F_domainBits_19 ?_
        refine lv_iload_n hx hb d_F_domainBits_20 rfl (lv_at hl 2 rfl) ?_
        refine lv_icmp_ge (tgt := 30) hx hb d_F_domainBits_21 (by decide) (fun hc => ?_) (fun hc => ?_)
        · have hf := z_t hc hf
          obtain rfl := Option.some.inj hf
          exact kt0 ls (lv_sub hl [0, 1, 2, 3] rfl)
        · have hf := z_f hc hf
          refine lv_iinc (v := (v3_51 + 1)) (lv' := [(3, .int (v3_51 + 1)), (0, .ref aO), (1, .int x1), (2, .int q48)]) hx hb d_F_domainBits_24 hl (k := 3) rfl rfl (by decide) rfl (fun ls hl => ?_)
          refine lv_goto (tgt := 11) hx hb d_F_domainBits_27 (by decide) ?_
          exact ih (v3_51 + 1) ls _ hf (lv_sub hl [1, 2, 3, 0] rfl) kt0
  obtain ⟨q50, hc, hf⟩ := z_b hf
  refine lp52 _ FU (0 : Int32) ls q50 hc (lv_sub hl [2, 3, 1, 0] rfl) (fun ls hl => ?_)
  refine lv_iload_n hx hb d_F_domainBits_30 rfl (lv_at hl 3 rfl) ?_
  obtain rfl := Option.some.inj hf
  exact W.iret hx hb hr (fun t ht hW => ⟨_, rfl, rfl, ht⟩) (fun q h => by cases h) d_F_domainBits_31
def f_T_become (x1 : Int32) (x2 : Int32) (x3 : Int32) (x4 : Int32) (x5 : Int32) : Option (Int32 × Int32 × Int32 × Int32 × Int32) := some (x1, x2, x3, x4, x5)
set_option maxHeartbeats 4000000 in
set_option maxRecDepth 100000 in
theorem c_T_become (l : Launch) (dC : Nat → ClassId) (dI : Nat → Nat → Nat) (cI cL : ClassId) {ws0 : va_W} (sz : Nat) {kT aT : Nat} {T_domain T_turn T_contrast T_offset T_error : Int32} (x1 : Int32) (x2 : Int32) (x3 : Int32) (x4 : Int32) (x5 : Int32) (hN_T : ws0[kT]? = some (aT, .inr (4, [.int T_domain, .int T_turn, .int T_contrast, .int T_offset, .int T_error]))) (r : Int32 × Int32 × Int32 × Int32 × Int32) (hf : f_T_become x1 x2 x3 x4 x5 = some r) : Met l y_T_become w_T_become rm_T_become (va_Pc [.ref aT, .int x1, .int x2, .int x3, .int x4, .int x5] (zM dC dI cI cL ws0 sz)) (va_Qv (fun ws' : va_W => ws'[kT]? = some (aT, .inr (4, [.int r.1, .int r.2.1, .int r.2.2.1, .int r.2.2.2.1, .int r.2.2.2.2])) ∧ ∀ j, j ∉ [kT] → ws'[j]? = ws0[j]?) (zQ dC dI cI cL (va_A ws0 sz)) (va_A ws0 sz)) 0 0 (va_A ws0 sz) := by
  refine Met.ofW (cc := b_T_become) (maxL := 6) (ret := none) (by decide) rfl ?_
  intro p e s m args below meth c s₁ B hml hv
  obtain ⟨rfl, hsz, hP, hK, hZ, hD0⟩ := hv
  have hx := B.exec
  have hb := B.bytes
  have hr := B.returns
  have hlocks := B.notSynchronized
  have hts : ∀ w ∈ BIG, w.before ([.ref aT, .int x1, .int x2, .int x3, .int x4, .int x5] : List Value).toArray s = true := fun w h => atoms_spec (ws := w_T_become) B.pre w (List.mem_cons_of_mem _ h)
  have hown : s.vm.findClass "FractalMaps$Fit" = some m.cls := findClass_of_methodNamed B.named
  subst hsz
  have hD := hD0.self (sz := s.heap.size)
  generalize hAe : va_A ws0 s.heap.size = A at hD ⊢
  have hA : ∀ q : Nat, s.heap.size ≤ q → A q := fun q h => by rw [← hAe]; exact Or.inr h
  have hS : va_S A s.heap s.heap [] := va_S.rf
  have hw : ∀ j, j ∉ [kT] → ws0[j]? = ws0[j]? := fun _ _ => rfl
  have hl := lv_entry ([.ref aT, .int x1, .int x2, .int x3, .int x4, .int x5]) (n := 6) (Nat.le_of_ble_eq_true rfl)
  rw [lg_entry_eq]
  generalize (lg_sl ([.ref aT, .int x1, .int x2, .int x3, .int x4, .int x5]) ++ List.replicate (6 - (lg_sl ([.ref aT, .int x1, .int x2, .int x3, .int x4, .int x5])).length) Slot.unset).toArray = ls at hl ⊢
  have hl : lv_has ls 6 [(0, .ref aT), (1, .int x1), (2, .int x2), (3, .int x3), (4, .int x4), (5, .int x5)] := hl
  unfold f_T_become at hf
  refine lv_aload_n hx hb d_T_become_0 rfl (lv_at hl 0 rfl) ?_
  refine lv_iload_n hx hb d_T_become_1 rfl (lv_at hl 1 rfl) ?_
  refine pf_T_7 (v := .int x1) hx hb hts hown hK hP hD hS hN_T rfl rfl (Nat.le_of_ble_eq_true rfl) d_T_become_2 (fun ws H locs hP hD hS hN_T hfr => ?_)
  have hN_T : ws[kT]? = some (aT, .inr (4, [.int x1, .int T_turn, .int T_contrast, .int T_offset, .int T_error])) := hN_T
  have hw := z_fr List.mem_cons_self hw hfr
  refine lv_aload_n hx hb d_T_become_5 rfl (lv_at hl 0 rfl) ?_
  refine lv_iload_n hx hb d_T_become_6 rfl (lv_at hl 2 rfl) ?_
  refine pf_T_13 (v := .int x2) hx hb hts hown hK hP hD hS hN_T rfl rfl (Nat.le_of_ble_eq_true rfl) d_T_become_7 (fun ws H locs hP hD hS hN_T hfr => ?_)
  have hN_T : ws[kT]? = some (aT, .inr (4, [.int x1, .int x2, .int T_contrast, .int T_offset, .int T_error])) := hN_T
  have hw := z_fr List.mem_cons_self hw hfr
  refine lv_aload_n hx hb d_T_become_10 rfl (lv_at hl 0 rfl) ?_
  refine lv_iload_n hx hb d_T_become_11 rfl (lv_at hl 3 rfl) ?_
  refine pf_T_16 (v := .int x3) hx hb hts hown hK hP hD hS hN_T rfl rfl (Nat.le_of_ble_eq_true rfl) d_T_become_12 (fun ws H locs hP hD hS hN_T hfr => ?_)
  have hN_T : ws[kT]? = some (aT, .inr (4, [.int x1, .int x2, .int x3, .int T_offset, .int T_error])) := hN_T
  have hw := z_fr List.mem_cons_self hw hfr
  refine lv_aload_n hx hb d_T_become_15 rfl (lv_at hl 0 rfl) ?_
  refine lv_iload hx hb d_T_become_16 (lv_at hl 4 rfl) ?_
  refine pf_T_19 (v := .int x4) hx hb hts hown hK hP hD hS hN_T rfl rfl (Nat.le_of_ble_eq_true rfl) d_T_become_18 (fun ws H locs hP hD hS hN_T hfr => ?_)
  have hN_T : ws[kT]? = some (aT, .inr (4, [.int x1, .int x2, .int x3, .int x4, .int T_error])) := hN_T
  have hw := z_fr List.mem_cons_self hw hfr
  refine lv_aload_n hx hb d_T_become_21 rfl (lv_at hl 0 rfl) ?_
  refine lv_iload hx hb d_T_become_22 (lv_at hl 5 rfl) ?_
  refine pf_T_22 (v := .int x5) hx hb hts hown hK hP hD hS hN_T rfl rfl (Nat.le_of_ble_eq_true rfl) d_T_become_24 (fun ws H locs hP hD hS hN_T hfr => ?_)
  have hN_T : ws[kT]? = some (aT, .inr (4, [.int x1, .int x2, .int x3, .int x4, .int x5])) := hN_T
  have hw := z_fr List.mem_cons_self hw hfr
  obtain rfl := Option.some.inj hf
  exact W.vret hx hb hr (fun t ht hW => ⟨⟨ws, rfl, ⟨hN_T, hw⟩, by rw [ht]; exact hP, va_K.moved hW.alike hK, hD⟩, hS.F ht⟩) hS.2.2 d_T_become_27
def f_F_readFit (x1 : Int32) (O_side : Int32) (T_domain : Int32) (T_turn : Int32) (T_contrast : Int32) (T_offset : Int32) (T_error : Int32) (I_filled : Int32) (I_taken : Int32) (IA_n : Nat) (IA_f : Nat → Int32) : Option (Int32 × Int32 × Int32 × Int32 × Int32 × Int32 × Int32) := (f_F_domainBits x1 O_side).bind (fun q53 => (f_B_take q53 I_filled I_taken IA_n IA_f).bind (fun q55 => if q55.1 = ((-1) : Int32) then (some ((3 : Int32), T_domain, T_turn, T_contrast, T_offset, T_error, q55.2)) else ((f_F_domainsOf O_side x1).bind (fun q56 => if q55.1 < q56 then ((f_B_take (3 : Int32) I_filled q55.2 IA_n IA_f).bind (fun q58 => if q58.1 = ((-1) : Int32) then (some ((3 : Int32), T_domain, T_turn, T_contrast, T_offset, T_error, q58.2)) else ((f_B_take (4 : Int32) I_filled q58.2 IA_n IA_f).bind (fun q59 => if q59.1 = ((-1) : Int32) then (some ((3 : Int32), T_domain, T_turn, T_contrast, T_offset, T_error, q59.2)) else (if (q59.1 - (7 : Int32)) ≤ (7 : Int32) then ((f_B_take (10 : Int32) I_filled q59.2 IA_n IA_f).bind (fun q60 => if q60.1 = ((-1) : Int32) then (some ((3 : Int32), T_domain, T_turn, T_contrast, T_offset, T_error, q60.2)) else ((f_T_become q55.1 q58.1 (q59.1 - (7 : Int32)) (q60.1 - (256 : Int32)) ((-1) : Int32)).bind (fun q61 => some (((-1) : Int32), q61.1, q61.2.1, q61.2.2.1, q61.2.2.2.1, q61.2.2.2.2, q60.2))))) else (some ((2 : Int32), T_domain, T_turn, T_contrast, T_offset, T_error, q59.2))))))) else (some ((1 : Int32), T_domain, T_turn, T_contrast, T_offset, T_error, q55.2))))))
set_option maxHeartbeats 4000000 in
set_option maxRecDepth 100000 in
theorem c_F_readFit (l : Launch) (dC : Nat → ClassId) (dI : Nat → Nat → Nat) (cI cL : ClassId) {ws0 : va_W} (sz : Nat) {aO aP aN aH aV aS aK aT aC aI aIA : Nat} {O_side T_domain T_turn T_contrast T_offset T_error I_filled I_taken : Int32} {IA_n : Nat} {IA_f : Nat → Int32} (x1 : Int32) (hN_O : ws0[0]? = some (aO, .inr (0, [.int O_side, .ref aP, .ref aN, .ref aH, .ref aV, .ref aS, .ref aK, .ref aT, .ref aC, .ref aI]))) (hN_T : ws0[16]? = some (aT, .inr (4, [.int T_domain, .int T_turn, .int T_contrast, .int T_offset, .int T_error]))) (hN_I : ws0[19]? = some (aI, .inr (6, [.ref aIA, .int I_filled, .int I_taken]))) (hN_IA : ws0[20]? = some (aIA, .inl (cI, IA_n, .inl IA_f))) (r : Int32 × Int32 × Int32 × Int32 × Int32 × Int32 × Int32) (hf : f_F_readFit x1 O_side T_domain T_turn T_contrast T_offset T_error I_filled I_taken IA_n IA_f = some r) : Met l y_F_readFit w_F_readFit rm_F_readFit (va_Pc [.ref aO, .int x1] (zM dC dI cI cL ws0 sz)) (va_Qi (fun (v : Int32) (ws' : va_W) => v = r.1 ∧ ws'[16]? = some (aT, .inr (4, [.int r.2.1, .int r.2.2.1, .int r.2.2.2.1, .int r.2.2.2.2.1, .int r.2.2.2.2.2.1])) ∧ ws'[19]? = some (aI, .inr (6, [.ref aIA, .int I_filled, .int r.2.2.2.2.2.2])) ∧ ∀ j, j ∉ [16, 19] → ws'[j]? = ws0[j]?) (zQ dC dI cI cL (va_A ws0 sz)) (va_A ws0 sz)) 0 0 (va_A ws0 sz) := by
  refine Met.ofW (cc := b_F_readFit) (maxL := 6) (ret := some .int) (by decide) rfl ?_
  intro p e s m args below meth c s₁ B hml hv
  obtain ⟨rfl, hsz, hP, hK, hZ, hD0⟩ := hv
  have hx := B.exec
  have hb := B.bytes
  have hr := B.returns
  have hlocks := B.notSynchronized
  have hts : ∀ w ∈ BIG, w.before ([.ref aO, .int x1] : List Value).toArray s = true := fun w h => atoms_spec (ws := w_F_readFit) B.pre w (List.mem_cons_of_mem _ h)
  have hown : s.vm.findClass "FractalMaps" = some m.cls := findClass_of_methodNamed B.named
  subst hsz
  have hD := hD0.self (sz := s.heap.size)
  generalize hAe : va_A ws0 s.heap.size = A at hD ⊢
  have hA : ∀ q : Nat, s.heap.size ≤ q → A q := fun q h => by rw [← hAe]; exact Or.inr h
  have hS : va_S A s.heap s.heap [] := va_S.rf
  have hw : ∀ j, j ∉ [16, 19] → ws0[j]? = ws0[j]? := fun _ _ => rfl
  have hl := lv_entry ([.ref aO, .int x1]) (n := 6) (Nat.le_of_ble_eq_true rfl)
  rw [lg_entry_eq]
  generalize (lg_sl ([.ref aO, .int x1]) ++ List.replicate (6 - (lg_sl ([.ref aO, .int x1])).length) Slot.unset).toArray = ls at hl ⊢
  have hl : lv_has ls 6 [(0, .ref aO), (1, .int x1)] := hl
  unfold f_F_readFit at hf
  refine lv_aload_n hx hb d_F_readFit_0 rfl (lv_at hl 0 rfl) ?_
  refine gf_F_78 (v := .ref aI) hx hb hts hown hK hP hN_O rfl d_F_readFit_1 ?_
  refine lv_aload_n hx hb d_F_readFit_4 rfl (lv_at hl 0 rfl) ?_
  refine lv_iload_n hx hb d_F_readFit_5 rfl (lv_at hl 1 rfl) ?_
  obtain ⟨q53, hc, hf⟩ := z_b hf
  refine vp_callSi (z_cr (va_runV (As := [.int x1]) (rest := [.ref aI]) ⟨hx, hb, hml, hown, hts⟩ (c_F_domainBits l dC dI cI cL x1 hN_O q53 hc) (cw_F_244 hts ⟨Nat.le_of_ble_eq_true rfl, Nat.le_of_ble_eq_true rfl⟩) ⟨zbR, va_recv hK hP (ci := 0) rfl hN_O, (zpR hP hK hZ)⟩ rfl rfl hl.1 rfl (lv_room (Nat.le_of_ble_eq_true rfl)) d_F_readFit_6 ⟨Nat.zero_le _, Nat.zero_le _⟩)) (fun r54 hv => ?_)
  have hv := hv.symm
  subst hv
  obtain ⟨q55, hc, hf⟩ := z_b hf
  have hFc := z_free hD hS hA
  refine va_calli (va_runV (As := [.int q53]) (rest := []) ⟨hx, hb, hml, hown, hts⟩ (c_B_take l dC dI cI cL _ q53 hN_I hN_IA (by decide) q55 hc) (cw_F_259 hts hZ ⟨Nat.le_of_ble_eq_true rfl, Nat.le_of_ble_eq_true rfl⟩) ⟨zbM, va_recv hK hP (ci := 6) rfl hN_I, (zpM hP hK hZ hD)⟩ rfl rfl hl.1 rfl (lv_room (Nat.le_of_ble_eq_true rfl)) d_F_readFit_9 ⟨Nat.zero_le _, Nat.zero_le _⟩) hS (fun q _ h => hFc q h) hFc (fun rv ws t H locs ht hvm hu hB hz1 hk1 hS => ?_)
  obtain ⟨hv, hN_I, hfr⟩ := hu
  subst hv
  obtain ⟨hP, -, hD1⟩ := hB
  rw [ht] at hP
  have hD := hD1.weaken (fun _ _ _ h => hFc _ h)
  have hN_I : ws[19]? = some (aI, .inr (6, [.ref aIA, .int I_filled, .int q55.2])) := hN_I
  have hN_O := (hfr _ (by decide)).trans hN_O
  have hN_T := (hfr _ (by decide)).trans hN_T
  have hN_IA := (hfr _ (by decide)).trans hN_IA
  have hw := z_frC (by decide) hw hfr
  refine lv_istore_n (lv' := [(2, .int q55.1), (0, .ref aO), (1, .int x1)]) hx hb d_F_readFit_12 rfl hl (by decide) rfl (fun ls hl => ?_)
  refine lv_iload_n hx hb d_F_readFit_13 rfl (lv_at hl 0 rfl) ?_
  refine lv_iconst (v := (-1)) hx hb d_F_readFit_14 (by decide) ?_
  refine lv_icmp_ne (tgt := 20) hx hb d_F_readFit_15 (by decide) (fun hc => ?_) (fun hc => ?_)
  · have hf := z_f hc hf
    refine lv_iload_n hx hb d_F_readFit_20 rfl (lv_at hl 0 rfl) ?_
    refine lv_aload_n hx hb d_F_readFit_21 rfl (lv_at hl 1 rfl) ?_
    refine gf_F_16 (v := .int O_side) hx hb hts hown hK hP hN_O rfl d_F_readFit_22 ?_
    refine lv_iload_n hx hb d_F_readFit_25 rfl (lv_at hl 2 rfl) ?_
    obtain ⟨q56, hc, hf⟩ := z_b hf
    refine vp_callSi (z_cr (va_runS (As := [.int O_side, .int x1]) (rest := [.int q55.1]) ⟨hx, hb, hml, hown, hts⟩ (c_F_domainsOf l O_side x1 q56 hc) (cw_F_192 hts ⟨Nat.le_of_ble_eq_true rfl, Nat.le_of_ble_eq_true rfl⟩) ⟨zb0, zp0⟩ rfl rfl hl.1 rfl (lv_room (Nat.le_of_ble_eq_true rfl)) d_F_readFit_26 ⟨Nat.zero_le _, Nat.zero_le _⟩)) (fun r57 hv => ?_)
    have hv := hv.symm
    subst hv
    refine lv_icmp_lt (tgt := 34) hx hb d_F_readFit_29 (by decide) (fun hc => ?_) (fun hc => ?_)
    · have hf := z_t hc hf
      refine lv_aload_n hx hb d_F_readFit_34 rfl (lv_at hl 1 rfl) ?_
      refine gf_F_78 (v := .ref aI) hx hb hts hown hK hP hN_O rfl d_F_readFit_35 ?_
      refine lv_iconst (v := 3) hx hb d_F_readFit_38 (by decide) ?_
      obtain ⟨q58, hc, hf⟩ := z_b hf
      have hFc := z_free hD hS hA
      refine va_calli (va_runV (As := [.int (3 : Int32)]) (rest := []) ⟨hx, hb, hml, hown, hts⟩ (c_B_take l dC dI cI cL _ (3 : Int32) hN_I hN_IA (by decide) q58 hc) (cw_F_259 hts hZ ⟨Nat.le_of_ble_eq_true rfl, Nat.le_of_ble_eq_true rfl⟩) ⟨zbM, va_recv hK hP (ci := 6) rfl hN_I, (zpM hP hK hZ hD)⟩ rfl rfl hl.1 rfl (lv_room (Nat.le_of_ble_eq_true rfl)) d_F_readFit_39 ⟨Nat.zero_le _, Nat.zero_le _⟩) hS (fun q _ h => hFc q h) hFc (fun rv ws t H locs ht hvm hu hB hz1 hk1 hS => ?_)
      obtain ⟨hv, hN_I, hfr⟩ := hu
      subst hv
      obtain ⟨hP, -, hD1⟩ := hB
      rw [ht] at hP
      have hD := hD1.weaken (fun _ _ _ h => hFc _ h)
      have hN_I : ws[19]? = some (aI, .inr (6, [.ref aIA, .int I_filled, .int q58.2])) := hN_I
      have hN_O := (hfr _ (by decide)).trans hN_O
      have hN_T := (hfr _ (by decide)).trans hN_T
      have hN_IA := (hfr _ (by decide)).trans hN_IA
      have hw := z_frC (by decide) hw hfr
      refine lv_istore_n (lv' := [(3, .int q58.1), (2, .int q55.1), (0, .ref aO), (1, .int x1)]) hx hb d_F_readFit_42 rfl hl (by decide) rfl (fun ls hl => ?_)
      refine lv_iload_n hx hb d_F_readFit_43 rfl (lv_at hl 0 rfl) ?_
      refine lv_iconst (v := (-1)) hx hb d_F_readFit_44 (by decide) ?_
      refine lv_icmp_ne (tgt := 50) hx hb d_F_readFit_45 (by decide) (fun hc => ?_) (fun hc => ?_)
      · have hf := z_f hc hf
        refine lv_aload_n hx hb d_F_readFit_50 rfl (lv_at hl 2 rfl) ?_
        refine gf_F_78 (v := .ref aI) hx hb hts hown hK hP hN_O rfl d_F_readFit_51 ?_
        refine lv_iconst (v := 4) hx hb d_F_readFit_54 (by decide) ?_
        obtain ⟨q59, hc, hf⟩ := z_b hf
        have hFc := z_free hD hS hA
        refine va_calli (va_runV (As := [.int (4 : Int32)]) (rest := []) ⟨hx, hb, hml, hown, hts⟩ (c_B_take l dC dI cI cL _ (4 : Int32) hN_I hN_IA (by decide) q59 hc) (cw_F_259 hts hZ ⟨Nat.le_of_ble_eq_true rfl, Nat.le_of_ble_eq_true rfl⟩) ⟨zbM, va_recv hK hP (ci := 6) rfl hN_I, (zpM hP hK hZ hD)⟩ rfl rfl hl.1 rfl (lv_room (Nat.le_of_ble_eq_true rfl)) d_F_readFit_55 ⟨Nat.zero_le _, Nat.zero_le _⟩) hS (fun q _ h => hFc q h) hFc (fun rv ws t H locs ht hvm hu hB hz1 hk1 hS => ?_)
        obtain ⟨hv, hN_I, hfr⟩ := hu
        subst hv
        obtain ⟨hP, -, hD1⟩ := hB
        rw [ht] at hP
        have hD := hD1.weaken (fun _ _ _ h => hFc _ h)
        have hN_I : ws[19]? = some (aI, .inr (6, [.ref aIA, .int I_filled, .int q59.2])) := hN_I
        have hN_O := (hfr _ (by decide)).trans hN_O
        have hN_T := (hfr _ (by decide)).trans hN_T
        have hN_IA := (hfr _ (by decide)).trans hN_IA
        have hw := z_frC (by decide) hw hfr
        refine lv_istore (lv' := [(4, .int q59.1), (3, .int q58.1), (2, .int q55.1), (0, .ref aO), (1, .int x1)]) hx hb d_F_readFit_58 hl (by decide) rfl (fun ls hl => ?_)
        refine lv_iload hx hb d_F_readFit_60 (lv_at hl 0 rfl) ?_
        refine lv_iconst (v := (-1)) hx hb d_F_readFit_62 (by decide) ?_
        refine lv_icmp_ne (tgt := 68) hx hb d_F_readFit_63 (by decide) (fun hc => ?_) (fun hc => ?_)
        · have hf := z_f hc hf
          refine lv_iload hx hb d_F_readFit_68 (lv_at hl 0 rfl) ?_
          refine lv_bipush (v := 7) hx hb d_F_readFit_70 (by decide) ?_
          refine lv_isub hx hb d_F_readFit_72 ?_
          refine lv_bipush (v := 7) hx hb d_F_readFit_73 (by decide) ?_
          refine lv_icmp_le (tgt := 80) hx hb d_F_readFit_75 (by decide) (fun hc => ?_) (fun hc => ?_)
          · have hf := z_t hc hf
            refine lv_aload_n hx hb d_F_readFit_80 rfl (lv_at hl 3 rfl) ?_
            refine gf_F_78 (v := .ref aI) hx hb hts hown hK hP hN_O rfl d_F_readFit_81 ?_
            refine lv_bipush (v := 10) hx hb d_F_readFit_84 (by decide) ?_
            obtain ⟨q60, hc, hf⟩ := z_b hf
            have hFc := z_free hD hS hA
            refine va_calli (va_runV (As := [.int (10 : Int32)]) (rest := []) ⟨hx, hb, hml, hown, hts⟩ (c_B_take l dC dI cI cL _ (10 : Int32) hN_I hN_IA (by decide) q60 hc) (cw_F_259 hts hZ ⟨Nat.le_of_ble_eq_true rfl, Nat.le_of_ble_eq_true rfl⟩) ⟨zbM, va_recv hK hP (ci := 6) rfl hN_I, (zpM hP hK hZ hD)⟩ rfl rfl hl.1 rfl (lv_room (Nat.le_of_ble_eq_true rfl)) d_F_readFit_86 ⟨Nat.zero_le _, Nat.zero_le _⟩) hS (fun q _ h => hFc q h) hFc (fun rv ws t H locs ht hvm hu hB hz1 hk1 hS => ?_)
            obtain ⟨hv, hN_I, hfr⟩ := hu
            subst hv
            obtain ⟨hP, -, hD1⟩ := hB
            rw [ht] at hP
            have hD := hD1.weaken (fun _ _ _ h => hFc _ h)
            have hN_I : ws[19]? = some (aI, .inr (6, [.ref aIA, .int I_filled, .int q60.2])) := hN_I
            have hN_O := (hfr _ (by decide)).trans hN_O
            have hN_T := (hfr _ (by decide)).trans hN_T
            have hN_IA := (hfr _ (by decide)).trans hN_IA
            have hw := z_frC (by decide) hw hfr
            refine lv_istore (lv' := [(5, .int q60.1), (4, .int q59.1), (3, .int q58.1), (2, .int q55.1), (0, .ref aO), (1, .int x1)]) hx hb d_F_readFit_89 hl (by decide) rfl (fun ls hl => ?_)
            refine lv_iload hx hb d_F_readFit_91 (lv_at hl 0 rfl) ?_
            refine lv_iconst (v := (-1)) hx hb d_F_readFit_93 (by decide) ?_
            refine lv_icmp_ne (tgt := 99) hx hb d_F_readFit_94 (by decide) (fun hc => ?_) (fun hc => ?_)
            · have hf := z_f hc hf
              refine lv_aload_n hx hb d_F_readFit_99 rfl (lv_at hl 4 rfl) ?_
              refine gf_F_67 (v := .ref aT) hx hb hts hown hK hP hN_O rfl d_F_readFit_100 ?_
              refine lv_iload_n hx hb d_F_readFit_103 rfl (lv_at hl 3 rfl) ?_
              refine lv_iload_n hx hb d_F_readFit_104 rfl (lv_at hl 2 rfl) ?_
              refine lv_iload hx hb d_F_readFit_105 (lv_at hl 1 rfl) ?_
              refine lv_bipush (v := 7) hx hb d_F_readFit_107 (by decide) ?_
              refine lv_isub hx hb d_F_readFit_109 ?_
              refine lv_iload hx hb d_F_readFit_110 (lv_at hl 0 rfl) ?_
              refine lv_sipush (v := 256) hx hb d_F_readFit_112 (by decide) ?_
              refine lv_isub hx hb d_F_readFit_115 ?_
              refine lv_iconst (v := (-1)) hx hb d_F_readFit_116 (by decide) ?_
              obtain ⟨q61, hc, hf⟩ := z_b hf
              have hFc := z_free hD hS hA
              refine va_callv (va_runV (As := [.int q55.1, .int q58.1, .int (q59.1 - (7 : Int32)), .int (q60.1 - (256 : Int32)), .int ((-1) : Int32)]) (rest := []) ⟨hx, hb, hml, hown, hts⟩ (c_T_become l dC dI cI cL _ q55.1 q58.1 (q59.1 - (7 : Int32)) (q60.1 - (256 : Int32)) ((-1) : Int32) hN_T q61 hc) (cw_F_276 hts hZ ⟨Nat.le_of_ble_eq_true rfl, Nat.le_of_ble_eq_true rfl⟩) ⟨zbM, va_recv hK hP (ci := 4) rfl hN_T, (zpM hP hK hZ hD)⟩ rfl rfl hl.1 rfl (lv_room (Nat.le_of_ble_eq_true rfl)) d_F_readFit_117 ⟨Nat.zero_le _, Nat.zero_le _⟩) hS (fun q _ h => hFc q h) hFc (fun ws t H locs ht hvm hu hB hz1 hk1 hS => ?_)
              obtain ⟨hN_T, hfr⟩ := hu
              obtain ⟨hP, -, hD1⟩ := hB
              rw [ht] at hP
              have hD := hD1.weaken (fun _ _ _ h => hFc _ h)
              have hN_T : ws[16]? = some (aT, .inr (4, [.int q61.1, .int q61.2.1, .int q61.2.2.1, .int q61.2.2.2.1, .int q61.2.2.2.2])) := hN_T
              have hN_O := (hfr _ (by decide)).trans hN_O
              have hN_I := (hfr _ (by decide)).trans hN_I
              have hN_IA := (hfr _ (by decide)).trans hN_IA
              have hw := z_frC (by decide) hw hfr
              refine lv_iconst (v := (-1)) hx hb d_F_readFit_120 (by decide) ?_
              obtain rfl := Option.some.inj hf
              exact W.iret hx hb hr (fun t ht hW => ⟨⟨_, ws, rfl, ⟨rfl, hN_T, hN_I, hw⟩, by rw [ht]; exact hP, va_K.moved hW.alike hK, hD⟩, hS.F ht⟩) hS.2.2 d_F_readFit_121
            · have hf := z_t hc hf
              refine lv_iconst (v := 3) hx hb d_F_readFit_97 (by decide) ?_
              obtain rfl := Option.some.inj hf
              exact W.iret hx hb hr (fun t ht hW => ⟨⟨_, ws, rfl, ⟨rfl, hN_T, hN_I, hw⟩, by rw [ht]; exact hP, va_K.moved hW.alike hK, hD⟩, hS.F ht⟩) hS.2.2 d_F_readFit_98
          · have hf := z_f hc hf
            refine lv_iconst (v := 2) hx hb d_F_readFit_78 (by decide) ?_
            obtain rfl := Option.some.inj hf
            exact W.iret hx hb hr (fun t ht hW => ⟨⟨_, ws, rfl, ⟨rfl, hN_T, hN_I, hw⟩, by rw [ht]; exact hP, va_K.moved hW.alike hK, hD⟩, hS.F ht⟩) hS.2.2 d_F_readFit_79
        · have hf := z_t hc hf
          refine lv_iconst (v := 3) hx hb d_F_readFit_66 (by decide) ?_
          obtain rfl := Option.some.inj hf
          exact W.iret hx hb hr (fun t ht hW => ⟨⟨_, ws, rfl, ⟨rfl, hN_T, hN_I, hw⟩, by rw [ht]; exact hP, va_K.moved hW.alike hK, hD⟩, hS.F ht⟩) hS.2.2 d_F_readFit_67
      · have hf := z_t hc hf
        refine lv_iconst (v := 3) hx hb d_F_readFit_48 (by decide) ?_
        obtain rfl := Option.some.inj hf
        exact W.iret hx hb hr (fun t ht hW => ⟨⟨_, ws, rfl, ⟨rfl, hN_T, hN_I, hw⟩, by rw [ht]; exact hP, va_K.moved hW.alike hK, hD⟩, hS.F ht⟩) hS.2.2 d_F_readFit_49
    · have hf := z_f hc hf
      refine lv_iconst (v := 1) hx hb d_F_readFit_32 (by decide) ?_
      obtain rfl := Option.some.inj hf
      exact W.iret hx hb hr (fun t ht hW => ⟨⟨_, ws, rfl, ⟨rfl, hN_T, hN_I, hw⟩, by rw [ht]; exact hP, va_K.moved hW.alike hK, hD⟩, hS.F ht⟩) hS.2.2 d_F_readFit_33
  · have hf := z_t hc hf
    refine lv_iconst (v := 3) hx hb d_F_readFit_18 (by decide) ?_
    obtain rfl := Option.some.inj hf
    exact W.iret hx hb hr (fun t ht hW => ⟨⟨_, ws, rfl, ⟨rfl, hN_T, hN_I, hw⟩, by rw [ht]; exact hP, va_K.moved hW.alike hK, hD⟩, hS.F ht⟩) hS.2.2 d_F_readFit_19
def f_K_add (x1 : Int32) (x2 : Int32) (x3 : Int32) (K_count : Int32) (KA_n : Nat) (KA_f : Nat → Int32) (yT_domain : Int32) (yT_turn : Int32) (yT_contrast : Int32) (yT_offset : Int32) (yT_error : Int32) : Option (Int32 × (Nat → Int32)) := if (((8 : Int32) * K_count) + (7 : Int32)) < (nI KA_n) then (if (((8 : Int32) * K_count) + (0 : Int32)) < 0 ∨ KA_n ≤ (((8 : Int32) * K_count) + (0 : Int32)).toNatClampNeg then none else (if (((8 : Int32) * K_count) + (1 : Int32)) < 0 ∨ KA_n ≤ (((8 : Int32) * K_count) + (1 : Int32)).toNatClampNeg then none else (if (((8 : Int32) * K_count) + (2 : Int32)) < 0 ∨ KA_n ≤ (((8 : Int32) * K_count) + (2 : Int32)).toNatClampNeg then none else (if (((8 : Int32) * K_count) + (3 : Int32)) < 0 ∨ KA_n ≤ (((8 : Int32) * K_count) + (3 : Int32)).toNatClampNeg then none else (if (((8 : Int32) * K_count) + (4 : Int32)) < 0 ∨ KA_n ≤ (((8 : Int32) * K_count) + (4 : Int32)).toNatClampNeg then none else (if (((8 : Int32) * K_count) + (5 : Int32)) < 0 ∨ KA_n ≤ (((8 : Int32) * K_count) + (5 : Int32)).toNatClampNeg then none else (if (((8 : Int32) * K_count) + (6 : Int32)) < 0 ∨ KA_n ≤ (((8 : Int32) * K_count) + (6 : Int32)).toNatClampNeg then none else (if (((8 : Int32) * K_count) + (7 : Int32)) < 0 ∨ KA_n ≤ (((8 : Int32) * K_count) + (7 : Int32)).toNatClampNeg then none else (some ((K_count + (1 : Int32)), (upd (upd (upd (upd (upd (upd (upd (upd KA_f (((8 : Int32) * K_count) + (0 : Int32)).toNatClampNeg x1) (((8 : Int32) * K_count) + (1 : Int32)).toNatClampNeg x2) (((8 : Int32) * K_count) + (2 : Int32)).toNatClampNeg x3) (((8 : Int32) * K_count) + (3 : Int32)).toNatClampNeg yT_domain) (((8 : Int32) * K_count) + (4 : Int32)).toNatClampNeg yT_turn) (((8 : Int32) * K_count) + (5 : Int32)).toNatClampNeg yT_contrast) (((8 : Int32) * K_count) + (6 : Int32)).toNatClampNeg yT_offset) (((8 : Int32) * K_count) + (7 : Int32)).toNatClampNeg yT_error))))))))))) else (some (K_count, KA_f))
set_option maxHeartbeats 4000000 in
set_option maxRecDepth 100000 in
theorem c_K_add (l : Launch) (dC : Nat → ClassId) (dI : Nat → Nat → Nat) (cI cL : ClassId) {ws0 : va_W} (sz : Nat) {kK kKA kyT aK aKA ayT : Nat} {K_count yT_domain yT_turn yT_contrast yT_offset yT_error : Int32} {KA_n : Nat} {KA_f : Nat → Int32} (x1 : Int32) (x2 : Int32) (x3 : Int32) (hN_K : ws0[kK]? = some (aK, .inr (5, [.ref aKA, .int K_count]))) (hN_KA : ws0[kKA]? = some (aKA, .inl (cI, KA_n, .inl KA_f))) (hN_yT : ws0[kyT]? = some (ayT, .inr (4, [.int yT_domain, .int yT_turn, .int yT_contrast, .int yT_offset, .int yT_error]))) (ne_K_KA : kK ≠ kKA) (ne_KA_yT : kKA ≠ kyT) (ne_K_yT : kK ≠ kyT) (r : Int32 × (Nat → Int32)) (hf : f_K_add x1 x2 x3 K_count KA_n KA_f yT_domain yT_turn yT_contrast yT_offset yT_error = some r) : Met l y_K_add w_K_add rm_K_add (va_Pc [.ref aK, .int x1, .int x2, .int x3, .ref ayT] (zM dC dI cI cL ws0 sz)) (va_Qv (fun ws' : va_W => ws'[kK]? = some (aK, .inr (5, [.ref aKA, .int r.1])) ∧ ws'[kKA]? = some (aKA, .inl (cI, KA_n, .inl r.2)) ∧ ∀ j, j ∉ [kK, kKA] → ws'[j]? = ws0[j]?) (zQ dC dI cI cL (va_A ws0 sz)) (va_A ws0 sz)) 0 0 (va_A ws0 sz) := by
  refine Met.ofW (cc := b_K_add) (maxL := 6) (ret := none) (by decide) rfl ?_
  intro p e s m args below meth c s₁ B hml hv
  obtain ⟨rfl, hsz, hP, hK, hZ, hD0⟩ := hv
  have hx := B.exec
  have hb := B.bytes
  have hr := B.returns
  have hlocks := B.notSynchronized
  have hts : ∀ w ∈ BIG, w.before ([.ref aK, .int x1, .int x2, .int x3, .ref ayT] : List Value).toArray s = true := fun w h => atoms_spec (ws := w_K_add) B.pre w (List.mem_cons_of_mem _ h)
  have hown : s.vm.findClass "FractalMaps$Blocks" = some m.cls := findClass_of_methodNamed B.named
  subst hsz
  have hD := hD0.self (sz := s.heap.size)
  generalize hAe : va_A ws0 s.heap.size = A at hD ⊢
  have hA : ∀ q : Nat, s.heap.size ≤ q → A q := fun q h => by rw [← hAe]; exact Or.inr h
  have hS : va_S A s.heap s.heap [] := va_S.rf
  have hw : ∀ j, j ∉ [kK, kKA] → ws0[j]? = ws0[j]? := fun _ _ => rfl
  have hl := lv_entry ([.ref aK, .int x1, .int x2, .int x3, .ref ayT]) (n := 6) (Nat.le_of_ble_eq_true rfl)
  rw [lg_entry_eq]
  generalize (lg_sl ([.ref aK, .int x1, .int x2, .int x3, .ref ayT]) ++ List.replicate (6 - (lg_sl ([.ref aK, .int x1, .int x2, .int x3, .ref ayT])).length) Slot.unset).toArray = ls at hl ⊢
  have hl : lv_has ls 6 [(0, .ref aK), (1, .int x1), (2, .int x2), (3, .int x3), (4, .ref ayT)] := hl
  unfold f_K_add at hf
  refine lv_bipush (v := 8) hx hb d_K_add_0 (by decide) ?_
  refine lv_aload_n hx hb d_K_add_2 rfl (lv_at hl 0 rfl) ?_
  refine gf_K_24 (v := .int K_count) hx hb hts hown hK hP hN_K rfl d_K_add_3 ?_
  refine lv_imul hx hb d_K_add_6 ?_
  refine lv_istore (lv' := [(5, .int ((8 : Int32) * K_count)), (0, .ref aK), (1, .int x1), (2, .int x2), (3, .int x3), (4, .ref ayT)]) hx hb d_K_add_7 hl (by decide) rfl (fun ls hl => ?_)
  refine lv_iload hx hb d_K_add_9 (lv_at hl 0 rfl) ?_
  refine lv_bipush (v := 7) hx hb d_K_add_11 (by decide) ?_
  refine lv_iadd hx hb d_K_add_13 ?_
  refine lv_aload_n hx hb d_K_add_14 rfl (lv_at hl 1 rfl) ?_
  refine gf_K_20 (v := .ref aKA) hx hb hts hown hK hP hN_K rfl d_K_add_15 ?_
  refine va_alen (v := nI KA_n) hx hb hK hP _ 0 hN_KA rfl rfl d_K_add_18 ?_
  refine lv_icmp_lt (tgt := 23) hx hb d_K_add_19 (by decide) (fun hc => ?_) (fun hc => ?_)
  · have hf := z_t hc hf
    refine lv_aload_n hx hb d_K_add_23 rfl (lv_at hl 1 rfl) ?_
    refine gf_K_20 (v := .ref aKA) hx hb hts hown hK hP hN_K rfl d_K_add_24 ?_
    refine lv_iload hx hb d_K_add_27 (lv_at hl 0 rfl) ?_
    refine lv_iconst (v := 0) hx hb d_K_add_29 (by decide) ?_
    refine lv_iadd hx hb d_K_add_30 ?_
    refine lv_iload_n hx hb d_K_add_31 rfl (lv_at hl 2 rfl) ?_
    obtain ⟨hin, hf⟩ := z_no hf
    refine z_iast hx hb hK hP hD hS hN_KA rfl hin d_K_add_32 (fun ws H locs hP hD hS hN_KA hfr => ?_)
    have hN_KA : ws[kKA]? = some (aKA, .inl (cI, KA_n, .inl (upd KA_f (((8 : Int32) * K_count) + (0 : Int32)).toNatClampNeg x1))) := hN_KA
    have hN_K := (hfr _ ne_K_KA).trans hN_K
    have hN_yT := (hfr _ ne_KA_yT.symm).trans hN_yT
    have hw := z_fr (List.mem_cons_of_mem _ List.mem_cons_self) hw hfr
    refine lv_aload_n hx hb d_K_add_33 rfl (lv_at hl 1 rfl) ?_
    refine gf_K_20 (v := .ref aKA) hx hb hts hown hK hP hN_K rfl d_K_add_34 ?_
    refine lv_iload hx hb d_K_add_37 (lv_at hl 0 rfl) ?_
    refine lv_iconst (v := 1) hx hb d_K_add_39 (by decide) ?_
    refine lv_iadd hx hb d_K_add_40 ?_
    refine lv_iload_n hx hb d_K_add_41 rfl (lv_at hl 3 rfl) ?_
    obtain ⟨hin, hf⟩ := z_no hf
    refine z_iast hx hb hK hP hD hS hN_KA rfl hin d_K_add_42 (fun ws H locs hP hD hS hN_KA hfr => ?_)
    have hN_KA : ws[kKA]? = some (aKA, .inl (cI, KA_n, .inl (upd (upd KA_f (((8 : Int32) * K_count) + (0 : Int32)).toNatClampNeg x1) (((8 : Int32) * K_count) + (1 : Int32)).toNatClampNeg x2))) := hN_KA
    have hN_K := (hfr _ ne_K_KA).trans hN_K
    have hN_yT := (hfr _ ne_KA_yT.symm).trans hN_yT
    have hw := z_fr (List.mem_cons_of_mem _ List.mem_cons_self) hw hfr
    refine lv_aload_n hx hb d_K_add_43 rfl (lv_at hl 1 rfl) ?_
    refine gf_K_20 (v := .ref aKA) hx hb hts hown hK hP hN_K rfl d_K_add_44 ?_
    refine lv_iload hx hb d_K_add_47 (lv_at hl 0 rfl) ?_
    refine lv_iconst (v := 2) hx hb d_K_add_49 (by decide) ?_
    refine lv_iadd hx hb d_K_add_50 ?_
    refine lv_iload_n hx hb d_K_add_51 rfl (lv_at hl 4 rfl) ?_
    obtain ⟨hin, hf⟩ := z_no hf
    refine z_iast hx hb hK hP hD hS hN_KA rfl hin d_K_add_52 (fun ws H locs hP hD hS hN_KA hfr => ?_)
    have hN_KA : ws[kKA]? = some (aKA, .inl (cI, KA_n, .inl (upd (upd (upd KA_f (((8 : Int32) * K_count) + (0 : Int32)).toNatClampNeg x1) (((8 : Int32) * K_count) + (1 : Int32)).toNatClampNeg x2) (((8 : Int32) * K_count) + (2 : Int32)).toNatClampNeg x3))) := hN_KA
    have hN_K := (hfr _ ne_K_KA).trans hN_K
    have hN_yT := (hfr _ ne_KA_yT.symm).trans hN_yT
    have hw := z_fr (List.mem_cons_of_mem _ List.mem_cons_self) hw hfr
    refine lv_aload_n hx hb d_K_add_53 rfl (lv_at hl 1 rfl) ?_
    refine gf_K_20 (v := .ref aKA) hx hb hts hown hK hP hN_K rfl d_K_add_54 ?_
    refine lv_iload hx hb d_K_add_57 (lv_at hl 0 rfl) ?_
    refine lv_iconst (v := 3) hx hb d_K_add_59 (by decide) ?_
    refine lv_iadd hx hb d_K_add_60 ?_
    refine lv_aload hx hb d_K_add_61 (lv_at hl 5 rfl) ?_
    refine gf_K_28 (v := .int yT_domain) hx hb hts hown hK hZ hP hN_yT rfl d_K_add_63 ?_
    obtain ⟨hin, hf⟩ := z_no hf
    refine z_iast hx hb hK hP hD hS hN_KA rfl hin d_K_add_66 (fun ws H locs hP hD hS hN_KA hfr => ?_)
    have hN_KA : ws[kKA]? = some (aKA, .inl (cI, KA_n, .inl (upd (upd (upd (upd KA_f (((8 : Int32) * K_count) + (0 : Int32)).toNatClampNeg x1) (((8 : Int32) * K_count) + (1 : Int32)).toNatClampNeg x2) (((8 : Int32) * K_count) + (2 : Int32)).toNatClampNeg x3) (((8 : Int32) * K_count) + (3 : Int32)).toNatClampNeg yT_domain))) := hN_KA
    have hN_K := (hfr _ ne_K_KA).trans hN_K
    have hN_yT := (hfr _ ne_KA_yT.symm).trans hN_yT
    have hw := z_fr (List.mem_cons_of_mem _ List.mem_cons_self) hw hfr
    refine lv_aload_n hx hb d_K_add_67 rfl (lv_at hl 1 rfl) ?_
    refine gf_K_20 (v := .ref aKA) hx hb hts hown hK hP hN_K rfl d_K_add_68 ?_
    refine lv_iload hx hb d_K_add_71 (lv_at hl 0 rfl) ?_
    refine lv_iconst (v := 4) hx hb d_K_add_73 (by decide) ?_
    refine lv_iadd hx hb d_K_add_74 ?_
    refine lv_aload hx hb d_K_add_75 (lv_at hl 5 rfl) ?_
    refine gf_K_33 (v := .int yT_turn) hx hb hts hown hK hZ hP hN_yT rfl d_K_add_77 ?_
    obtain ⟨hin, hf⟩ := z_no hf
    refine z_iast hx hb hK hP hD hS hN_KA rfl hin d_K_add_80 (fun ws H locs hP hD hS hN_KA hfr => ?_)
    have hN_KA : ws[kKA]? = some (aKA, .inl (cI, KA_n, .inl (upd (upd (upd (upd (upd KA_f (((8 : Int32) * K_count) + (0 : Int32)).toNatClampNeg x1) (((8 : Int32) * K_count) + (1 : Int32)).toNatClampNeg x2) (((8 : Int32) * K_count) + (2 : Int32)).toNatClampNeg x3) (((8 : Int32) * K_count) + (3 : Int32)).toNatClampNeg yT_domain) (((8 : Int32) * K_count) + (4 : Int32)).toNatClampNeg yT_turn))) := hN_KA
    have hN_K := (hfr _ ne_K_KA).trans hN_K
    have hN_yT := (hfr _ ne_KA_yT.symm).trans hN_yT
    have hw := z_fr (List.mem_cons_of_mem _ List.mem_cons_self) hw hfr
    refine lv_aload_n hx hb d_K_add_81 rfl (lv_at hl 1 rfl) ?_
    refine gf_K_20 (v := .ref aKA) hx hb hts hown hK hP hN_K rfl d_K_add_82 ?_
    refine lv_iload hx hb d_K_add_85 (lv_at hl 0 rfl) ?_
    refine lv_iconst (v := 5) hx hb d_K_add_87 (by decide) ?_
    refine lv_iadd hx hb d_K_add_88 ?_
    refine lv_aload hx hb d_K_add_89 (lv_at hl 5 rfl) ?_
    refine gf_K_36 (v := .int yT_contrast) hx hb hts hown hK hZ hP hN_yT rfl d_K_add_91 ?_
    obtain ⟨hin, hf⟩ := z_no hf
    refine z_iast hx hb hK hP hD hS hN_KA rfl hin d_K_add_94 (fun ws H locs hP hD hS hN_KA hfr => ?_)
    have hN_KA : ws[kKA]? = some (aKA, .inl (cI, KA_n, .inl (upd (upd (upd (upd (upd (upd KA_f (((8 : Int32) * K_count) + (0 : Int32)).toNatClampNeg x1) (((8 : Int32) * K_count) + (1 : Int32)).toNatClampNeg x2) (((8 : Int32) * K_count) + (2 : Int32)).toNatClampNeg x3) (((8 : Int32) * K_count) + (3 : Int32)).toNatClampNeg yT_domain) (((8 : Int32) * K_count) + (4 : Int32)).toNatClampNeg yT_turn) (((8 : Int32) * K_count) + (5 : Int32)).toNatClampNeg yT_contrast))) := hN_KA
    have hN_K := (hfr _ ne_K_KA).trans hN_K
    have hN_yT := (hfr _ ne_KA_yT.symm).trans hN_yT
    have hw := z_fr (List.mem_cons_of_mem _ List.mem_cons_self) hw hfr
    refine lv_aload_n hx hb d_K_add_95 rfl (lv_at hl 1 rfl) ?_
    refine gf_K_20 (v := .ref aKA) hx hb hts hown hK hP hN_K rfl d_K_add_96 ?_
    refine lv_iload hx hb d_K_add_99 (lv_at hl 0 rfl) ?_
    refine lv_bipush (v := 6) hx hb d_K_add_101 (by decide) ?_
    refine lv_iadd hx hb d_K_add_103 ?_
    refine lv_aload hx hb d_K_add_104 (lv_at hl 5 rfl) ?_
    refine gf_K_39 (v := .int yT_offset) hx hb hts hown hK hZ hP hN_yT rfl d_K_add_106 ?_
    obtain ⟨hin, hf⟩ := z_no hf
    refine z_iast hx hb hK hP hD hS hN_KA rfl hin d_K_add_109 (fun ws H locs hP hD hS hN_KA hfr => ?_)
    have hN_KA : ws[kKA]? = some (aKA, .inl (cI, KA_n, .inl (upd (upd (upd (upd (upd (upd (upd KA_f (((8 : Int32) * K_count) + (0 : Int32)).toNatClampNeg x1) (((8 : Int32) * K_count) + (1 : Int32)).toNatClampNeg x2) (((8 : Int32) * K_count) + (2 : Int32)).toNatClampNeg x3) (((8 : Int32) * K_count) + (3 : Int32)).toNatClampNeg yT_domain) (((8 : Int32) * K_count) + (4 : Int32)).toNatClampNeg yT_turn) (((8 : Int32) * K_count) + (5 : Int32)).toNatClampNeg yT_contrast) (((8 : Int32) * K_count) + (6 : Int32)).toNatClampNeg yT_offset))) := hN_KA
    have hN_K := (hfr _ ne_K_KA).trans hN_K
    have hN_yT := (hfr _ ne_KA_yT.symm).trans hN_yT
    have hw := z_fr (List.mem_cons_of_mem _ List.mem_cons_self) hw hfr
    refine lv_aload_n hx hb d_K_add_110 rfl (lv_at hl 1 rfl) ?_
    refine gf_K_20 (v := .ref aKA) hx hb hts hown hK hP hN_K rfl d_K_add_111 ?_
    refine lv_iload hx hb d_K_add_114 (lv_at hl 0 rfl) ?_
    refine lv_bipush (v := 7) hx hb d_K_add_116 (by decide) ?_
    refine lv_iadd hx hb d_K_add_118 ?_
    refine lv_aload hx hb d_K_add_119 (lv_at hl 5 rfl) ?_
    refine gf_K_42 (v := .int yT_error) hx hb hts hown hK hZ hP hN_yT rfl d_K_add_121 ?_
    obtain ⟨hin, hf⟩ := z_no hf
    refine z_iast hx hb hK hP hD hS hN_KA rfl hin d_K_add_124 (fun ws H locs hP hD hS hN_KA hfr => ?_)
    have hN_KA : ws[kKA]? = some (aKA, .inl (cI, KA_n, .inl (upd (upd (upd (upd (upd (upd (upd (upd KA_f (((8 : Int32) * K_count) + (0 : Int32)).toNatClampNeg x1) (((8 : Int32) * K_count) + (1 : Int32)).toNatClampNeg x2) (((8 : Int32) * K_count) + (2 : Int32)).toNatClampNeg x3) (((8 : Int32) * K_count) + (3 : Int32)).toNatClampNeg yT_domain) (((8 : Int32) * K_count) + (4 : Int32)).toNatClampNeg yT_turn) (((8 : Int32) * K_count) + (5 : Int32)).toNatClampNeg yT_contrast) (((8 : Int32) * K_count) + (6 : Int32)).toNatClampNeg yT_offset) (((8 : Int32) * K_count) + (7 : Int32)).toNatClampNeg yT_error))) := hN_KA
    have hN_K := (hfr _ ne_K_KA).trans hN_K
    have hN_yT := (hfr _ ne_KA_yT.symm).trans hN_yT
    have hw := z_fr (List.mem_cons_of_mem _ List.mem_cons_self) hw hfr
    refine lv_aload_n hx hb d_K_add_125 rfl (lv_at hl 1 rfl) ?_
    refine lv_dup hx hb d_K_add_126 rfl ?_
    refine gf_K_24 (v := .int K_count) hx hb hts hown hK hP hN_K rfl d_K_add_127 ?_
    refine lv_iconst (v := 1) hx hb d_K_add_130 (by decide) ?_
    refine lv_iadd hx hb d_K_add_131 ?_
    refine pf_K_24 (v := .int (K_count + (1 : Int32))) hx hb hts hown hK hP hD hS hN_K rfl rfl (Nat.le_of_ble_eq_true rfl) d_K_add_132 (fun ws H locs hP hD hS hN_K hfr => ?_)
    have hN_K : ws[kK]? = some (aK, .inr (5, [.ref aKA, .int (K_count + (1 : Int32))])) := hN_K
    have hN_KA := (hfr _ ne_K_KA.symm).trans hN_KA
    have hN_yT := (hfr _ ne_K_yT.symm).trans hN_yT
    have hw := z_fr List.mem_cons_self hw hfr
    obtain rfl := Option.some.inj hf
    exact W.vret hx hb hr (fun t ht hW => ⟨⟨ws, rfl, ⟨hN_K, hN_KA, hw⟩, by rw [ht]; exact hP, va_K.moved hW.alike hK, hD⟩, hS.F ht⟩) hS.2.2 d_K_add_135
  · have hf := z_f hc hf
    obtain rfl := Option.some.inj hf
    exact W.vret hx hb hr (fun t ht hW => ⟨⟨ws0, rfl, ⟨hN_K, hN_KA, hw⟩, by rw [ht]; exact hP, va_K.moved hW.alike hK, hD⟩, hS.F ht⟩) hS.2.2 d_K_add_22
