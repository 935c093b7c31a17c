def f_L_decode (x1 : Int32) (x2 : Int32) (O_side : Int32) (N_mostSide : Int32) (N_side : Int32) (NA_n : Nat) (NA_f : Nat → Int32) (H_mostSide : Int32) (H_side : Int32) (HA_n : Nat) (HA_f : Nat → Int32) (V_left : Int32) (V_top : Int32) (V_start : Int32) (V_stepAcross : Int32) (V_stepDown : Int32) (K_count : Int32) (KA_n : Nat) (KA_f : Nat → Int32) (OUT_n : Nat) (OUT_f : Nat → Int64) : Option (Int32 × Int32 × (Nat → Int32) × Int32 × (Nat → Int32) × Int32 × Int32 × Int32 × Int32 × Int32 × (Nat → Int64)) := (f_F_decode x1 x2 O_side N_mostSide N_side NA_n NA_f H_mostSide H_side HA_n HA_f V_left V_top V_start V_stepAcross V_stepDown K_count KA_n KA_f).bind (fun q1120 => Sum.elim (fun kx => if kx = 2 then (some ((1 : Int32), N_side, NA_f, H_side, HA_f, V_left, V_top, V_start, V_stepAcross, V_stepDown, OUT_f)) else (if kx = 3 then (some ((2 : Int32), N_side, NA_f, H_side, HA_f, V_left, V_top, V_start, V_stepAcross, V_stepDown, OUT_f)) else (none))) (fun r1 => if (0 : Int32) < 0 ∨ OUT_n ≤ (0 : Int32).toNatClampNeg then none else (some ((0 : Int32), r1.2.1, r1.2.2.1, r1.2.2.2.1, r1.2.2.2.2.1, r1.2.2.2.2.2.1, r1.2.2.2.2.2.2.1, r1.2.2.2.2.2.2.2.1, r1.2.2.2.2.2.2.2.2.1, r1.2.2.2.2.2.2.2.2.2, (vp_updL OUT_f (0 : Int32).toNatClampNeg r1.1.toInt64)))) q1120)
set_option maxHeartbeats 4000000 in
set_option maxRecDepth 100000 in
theorem c_L_decode (l : Launch) (hfl : l.flags = pinnedFlags ++ [noTraceFlag]) (dC : Nat → ClassId) (dI : Nat → Nat → Nat) (cI cL : ClassId) {ws0 : va_W} (sz : Nat) {aO aP aN aH aV aS aK aT aC aI aNA aHA aKA aOUT : Nat} {O_side N_mostSide N_side H_mostSide H_side V_left V_top V_start V_stepAcross V_stepDown K_count : Int32} {NA_n HA_n KA_n OUT_n : Nat} {NA_f HA_f KA_f : Nat → Int32} {OUT_f : Nat → Int64} (x1 : Int32) (x2 : Int32) (hN_O : zA ws0 0 (aO, .inr (0, [.int O_side, .ref aP, .ref aN, .ref aH, .ref aV, .ref aS, .ref aK, .ref aT, .ref aC, .ref aI]))) (hN_N : zA ws0 3 (aN, .inr (1, [.int N_mostSide, .ref aNA, .int N_side]))) (hN_NA : zA ws0 4 (aNA, .inl (cI, NA_n, .inl NA_f))) (hN_H : zA ws0 5 (aH, .inr (1, [.int H_mostSide, .ref aHA, .int H_side]))) (hN_HA : zA ws0 6 (aHA, .inl (cI, HA_n, .inl HA_f))) (hN_V : zA ws0 7 (aV, .inr (2, [.ref aH, .int V_left, .int V_top, .int V_start, .int V_stepAcross, .int V_stepDown]))) (hN_K : zA ws0 14 (aK, .inr (5, [.ref aKA, .int K_count]))) (hN_KA : zA ws0 15 (aKA, .inl (cI, KA_n, .inl KA_f))) (hN_OUT : zA ws0 34 (aOUT, .inl (cL, OUT_n, .inr (.inl OUT_f)))) (r : Int32 × Int32 × (Nat → Int32) × Int32 × (Nat → Int32) × Int32 × Int32 × Int32 × Int32 × Int32 × (Nat → Int64)) (hf : f_L_decode x1 x2 O_side N_mostSide N_side NA_n NA_f H_mostSide H_side HA_n HA_f V_left V_top V_start V_stepAcross V_stepDown K_count KA_n KA_f OUT_n OUT_f = some r) : Met l y_L_decode w_L_decode rm_L_decode (va_Pc [.ref aO, .int x1, .int x2, .ref aOUT] (zMT dC dI cI cL ws0 sz)) (va_Qi (fun (v : Int32) (ws' : va_W) => v = r.1 ∧ zA ws' 3 (aN, .inr (1, [.int N_mostSide, .ref aNA, .int r.2.1])) ∧ zA ws' 4 (aNA, .inl (cI, NA_n, .inl r.2.2.1)) ∧ zA ws' 5 (aH, .inr (1, [.int H_mostSide, .ref aHA, .int r.2.2.2.1])) ∧ zA ws' 6 (aHA, .inl (cI, HA_n, .inl r.2.2.2.2.1)) ∧ zA ws' 7 (aV, .inr (2, [.ref aH, .int r.2.2.2.2.2.1, .int r.2.2.2.2.2.2.1, .int r.2.2.2.2.2.2.2.1, .int r.2.2.2.2.2.2.2.2.1, .int r.2.2.2.2.2.2.2.2.2.1])) ∧ zA ws' 34 (aOUT, .inl (cL, OUT_n, .inr (.inl r.2.2.2.2.2.2.2.2.2.2))) ∧ ∀ (j : Nat), j ∉ ([3, 4, 5, 6, 7, 34] : List Nat) → ws'[j]? = ws0[j]?) (zQ dC dI cI cL (va_A ws0 sz)) (va_A ws0 sz)) 1 6 (va_A ws0 sz) := by
  refine va_MetW (cc := b_L_decode) (maxL := 5) (ret := some .int) (by decide) rfl ?_
  intro p e s m args below meth c s₁ B hml hv
  obtain ⟨rfl, hsz, hP, hK, hZ, hD0, hX⟩ := hv
  have hx := B.exec
  have hb := B.bytes
  have hr := B.returns
  have hlocks := B.notSynchronized
  have hts : ∀ w ∈ BIG, w.before ([.ref aO, .int x1, .int x2, .ref aOUT] : List Value).toArray s = true := fun w h => atoms_spec (ws := w_L_decode) B.pre w (List.mem_cons_of_mem _ h)
  have hown : s.vm.findClass "FractalMapsLaw" = some m.cls := findClass_of_methodNamed B.named
  have htab : c.exceptionTable.toList = [⟨0, 10, 13, 15⟩, ⟨0, 10, 17, 40⟩] := z_table B (atoms_spec (ws := w_L_decode) B.pre _ List.mem_cons_self)
  subst hsz
  have hD := hD0.self (sz := s.heap.size)
  generalize hAe : va_A ws0 s.heap.size = A at hD ⊢
  have hA : ∀ q : Nat, s.heap.size ≤ q → A q := fun q h => by rw [← hAe]; exact Or.inr h
  have hS : va_S A s.heap s.heap [] := va_S.rf
  have hw : ∀ (j : Nat), j ∉ ([3, 4, 5, 6, 7, 34] : List Nat) → ws0[j]? = ws0[j]? := fun _ _ => rfl
  have hl := lv_entry ([.ref aO, .int x1, .int x2, .ref aOUT]) (n := 5) (Nat.le_of_ble_eq_true rfl)
  rw [lg_entry_eq]
  generalize (lg_sl ([.ref aO, .int x1, .int x2, .ref aOUT]) ++ List.replicate (5 - (lg_sl ([.ref aO, .int x1, .int x2, .ref aOUT])).length) Slot.unset).toArray = ls at hl ⊢
  have hl : lv_has ls 5 [(0, .ref aO), (1, .int x1), (2, .int x2), (3, .ref aOUT)] := hl
  unfold f_L_decode at hf
  refine lv_aload_n hx hb d_L_decode_0 rfl (lv_at hl 3 rfl) ?_
  refine lv_iconst (v := 0) hx hb d_L_decode_1 (by decide) ?_
  refine lv_aload_n hx hb d_L_decode_2 rfl (lv_at hl 0 rfl) ?_
  refine lv_iload_n hx hb d_L_decode_3 rfl (lv_at hl 1 rfl) ?_
  refine lv_iload_n hx hb d_L_decode_4 rfl (lv_at hl 2 rfl) ?_
  obtain ⟨q1120, hc, hf⟩ := z_b hf
  have hFc := z_free hD hS hA
  rcases q1120 with kx | r1
  · have hf := z_sl hf
    by_cases ck2 : kx = 2
    · have hf := z_t ck2 hf
      subst ck2
      refine z_callThr (As := [.int x1, .int x2]) (rest := [.int (0 : Int32), .ref aOUT]) (b := aO) (k := 2) (hpc := 13) ⟨hx, hb, hml, hown, hts⟩ (c_F_decode l hfl dC dI cI cL _ x1 x2 hN_O hN_N hN_NA hN_H hN_HA hN_V hN_K hN_KA (.inl 2) hc) (cw_L_37 hts ⟨Nat.le_of_ble_eq_true rfl, Nat.le_of_ble_eq_true rfl⟩) ⟨zbT, va_recv hK hP (ci := 0) rfl hN_O, zpT hP hK hZ hD hX (fun _ _ h _ => h)⟩ rfl hl.1 (Nat.le_of_ble_eq_true rfl) d_L_decode_5 ⟨Nat.le_of_ble_eq_true rfl, Nat.le_of_ble_eq_true rfl⟩ (fun v u h => by obtain ⟨r1, h1, -⟩ := h; cases h1) (fun j h => (Sum.inl.inj h).symm) ⟨(xW_any (List.mem_of_getElem? (i := 4) rfl) (hX.2.2.2.1 _ (List.mem_of_getElem? (i := 4) rfl))), Or.inl ⟨⟨0, 10, 13, 15⟩, _, htab, by decide, by decide, by decide, rfl, (hts _ k_401)⟩⟩ hS (fun q _ h => hFc q h) hFc (fun ax t H locs ht hvm hB hS => ?_)
      obtain ⟨hP, -, hD1⟩ := hB
      rw [ht] at hP
      have hD := hD1.weaken (fun _ _ _ h => hFc _ h)
      refine lv_astore (lv' := [(4, .ref ax), (0, .ref aO), (1, .int x1), (2, .int x2), (3, .ref aOUT)]) hx hb d_L_decode_13 hl (by decide) rfl (fun ls hl => ?_)
      refine lv_iconst (v := 1) hx hb d_L_decode_15 (by decide) ?_
      obtain rfl := Option.some.inj hf
      exact W.iret hx hb hr (fun t ht hW => ⟨⟨_, ws0, rfl, (by dsimp only; exact ⟨rfl, hN_N, hN_NA, hN_H, hN_HA, hN_V, hN_OUT, hw⟩), by rw [ht]; exact hP, va_K.moved hW.alike hK, hD⟩, hS.F ht⟩) hS.2.2 d_L_decode_16
    have hf := z_f ck2 hf
    by_cases ck3 : kx = 3
    · have hf := z_t ck3 hf
      subst ck3
      refine z_callThr (As := [.int x1, .int x2]) (rest := [.int (0 : Int32), .ref aOUT]) (b := aO) (k := 3) (hpc := 17) ⟨hx, hb, hml, hown, hts⟩ (c_F_decode l hfl dC dI cI cL _ x1 x2 hN_O hN_N hN_NA hN_H hN_HA hN_V hN_K hN_KA (.inl 3) hc) (cw_L_37 hts ⟨Nat.le_of_ble_eq_true rfl, Nat.le_of_ble_eq_true rfl⟩) ⟨zbT, va_recv hK hP (ci := 0) rfl hN_O, zpT hP hK hZ hD hX (fun _ _ h _ => h)⟩ rfl hl.1 (Nat.le_of_ble_eq_true rfl) d_L_decode_5 ⟨Nat.le_of_ble_eq_true rfl, Nat.le_of_ble_eq_true rfl⟩ (fun v u h => by obtain ⟨r1, h1, -⟩ := h; cases h1) (fun j h => (Sum.inl.inj h).symm) ⟨(xW_any (List.mem_of_getElem? (i := 5) rfl) (hX.2.2.2.1 _ (List.mem_of_getElem? (i := 5) rfl))), Or.inr ⟨⟨0, 10, 13, 15⟩, ⟨0, 10, 17, 40⟩, _, "java/lang/IllegalArgumentException", htab, by decide, by decide, by decide, by decide, by decide, by decide, rfl, (hts _ k_401), (hts _ k_675), hX.2.2.2.2 _ (List.mem_of_getElem? (i := 2) rfl)⟩⟩ hS (fun q _ h => hFc q h) hFc (fun ax t H locs ht hvm hB hS => ?_)
      obtain ⟨hP, -, hD1⟩ := hB
      rw [ht] at hP
      have hD := hD1.weaken (fun _ _ _ h => hFc _ h)
      refine lv_astore (lv' := [(4, .ref ax), (0, .ref aO), (1, .int x1), (2, .int x2), (3, .ref aOUT)]) hx hb d_L_decode_17 hl (by decide) rfl (fun ls hl => ?_)
      refine lv_iconst (v := 2) hx hb d_L_decode_19 (by decide) ?_
      obtain rfl := Option.some.inj hf
      exact W.iret hx hb hr (fun t ht hW => ⟨⟨_, ws0, rfl, (by dsimp only; exact ⟨rfl, hN_N, hN_NA, hN_H, hN_HA, hN_V, hN_OUT, hw⟩), by rw [ht]; exact hP, va_K.moved hW.alike hK, hD⟩, hS.F ht⟩) hS.2.2 d_L_decode_20
    have hf := z_f ck3 hf
    cases hf
  · have hf := z_sr hf
    refine z_callRet (As := [.int x1, .int x2]) (rest := [.int (0 : Int32), .ref aOUT]) (b := aO) ⟨hx, hb, hml, hown, hts⟩ (c_F_decode l hfl dC dI cI cL _ x1 x2 hN_O hN_N hN_NA hN_H hN_HA hN_V hN_K hN_KA (.inr r1) hc) (cw_L_37 hts ⟨Nat.le_of_ble_eq_true rfl, Nat.le_of_ble_eq_true rfl⟩) ⟨zbT, va_recv hK hP (ci := 0) rfl hN_O, zpT hP hK hZ hD hX (fun _ _ h _ => h)⟩ rfl hl.1 (Nat.le_of_ble_eq_true rfl) d_L_decode_5 ⟨Nat.le_of_ble_eq_true rfl, Nat.le_of_ble_eq_true rfl⟩ (fun k h => by cases h) hS (fun q _ h => hFc q h) hFc (fun rv ws t H locs ht hvm hu hB hS => ?_)
    obtain ⟨r2, hq2, hv, hN_N, hN_NA, hN_H, hN_HA, hN_V, hfr⟩ := hu
    obtain rfl := Sum.inr.inj hq2
    have hv := hv.symm
    subst hv
    obtain ⟨hP, -, hD1⟩ := hB
    rw [ht] at hP
    have hD := hD1.weaken (fun _ _ _ h => hFc _ h)
    have hN_N : zA ws 3 (aN, .inr (1, [.int N_mostSide, .ref aNA, .int r1.2.1])) := hN_N
    have hN_NA : zA ws 4 (aNA, .inl (cI, NA_n, .inl r1.2.2.1)) := hN_NA
    have hN_H : zA ws 5 (aH, .inr (1, [.int H_mostSide, .ref aHA, .int r1.2.2.2.1])) := hN_H
    have hN_HA : zA ws 6 (aHA, .inl (cI, HA_n, .inl r1.2.2.2.2.1)) := hN_HA
    have hN_V : zA ws 7 (aV, .inr (2, [.ref aH, .int r1.2.2.2.2.2.1, .int r1.2.2.2.2.2.2.1, .int r1.2.2.2.2.2.2.2.1, .int r1.2.2.2.2.2.2.2.2.1, .int r1.2.2.2.2.2.2.2.2.2])) := hN_V
    have hN_O := (hfr _ (by decide)).trans hN_O
    have hN_K := (hfr _ (by decide)).trans hN_K
    have hN_KA := (hfr _ (by decide)).trans hN_KA
    have hN_OUT := (hfr _ (by decide)).trans hN_OUT
    have hw := z_frC (by decide) hw hfr
    refine lv_i2l hx hb d_L_decode_8 rfl ?_
    obtain ⟨hin, hf⟩ := z_no hf
    refine z_last hx hb hK hP hD hS hN_OUT rfl hin d_L_decode_9 (fun ws H locs hP hD hS hN_OUT hfr => ?_)
    have hN_OUT : zA ws 34 (aOUT, .inl (cL, OUT_n, .inr (.inl (vp_updL OUT_f (0 : Int32).toNatClampNeg r1.1.toInt64)))) := hN_OUT
    have hN_O := (hfr _ (by decide)).trans hN_O
    have hN_N := (hfr _ (by decide)).trans hN_N
    have hN_NA := (hfr _ (by decide)).trans hN_NA
    have hN_H := (hfr _ (by decide)).trans hN_H
    have hN_HA := (hfr _ (by decide)).trans hN_HA
    have hN_V := (hfr _ (by decide)).trans hN_V
    have hN_K := (hfr _ (by decide)).trans hN_K
    have hN_KA := (hfr _ (by decide)).trans hN_KA
    have hw := z_fr (by decide) hw hfr
    refine lv_goto (tgt := 21) hx hb d_L_decode_10 (by decide) ?_
    refine lv_iconst (v := 0) hx hb d_L_decode_21 (by decide) ?_
    obtain rfl := Option.some.inj hf
    exact W.iret hx hb hr (fun t ht hW => ⟨⟨_, ws, rfl, (by dsimp only; exact ⟨rfl, hN_N, hN_NA, hN_H, hN_HA, hN_V, hN_OUT, hw⟩), by rw [ht]; exact hP, va_K.moved hW.alike hK, hD⟩, hS.F ht⟩) hS.2.2 d_L_decode_22
def f_L_at (x1 : Int32) (x2 : Int32) (N_side : Int32) (NA_n : Nat) (NA_f : Nat → Int32) (OUT_n : Nat) (OUT_f : Nat → Int64) : Option (Int32 × (Nat → Int64)) := (f_F_at x1 x2 N_side NA_n NA_f).bind (fun q1121 => Sum.elim (fun kx => if kx = 1 then (some ((1 : Int32), OUT_f)) else (none)) (fun r1 => if (0 : Int32) < 0 ∨ OUT_n ≤ (0 : Int32).toNatClampNeg then none else (some ((0 : Int32), (vp_updL OUT_f (0 : Int32).toNatClampNeg r1.toInt64)))) q1121)
set_option maxHeartbeats 4000000 in
set_option maxRecDepth 100000 in
theorem c_L_at (l : Launch) (hfl : l.flags = pinnedFlags ++ [noTraceFlag]) (dC : Nat → ClassId) (dI : Nat → Nat → Nat) (cI cL : ClassId) {ws0 : va_W} (sz : Nat) {aO aP aN aH aV aS aK aT aC aI aNA aOUT : Nat} {O_side N_mostSide N_side : Int32} {NA_n OUT_n : Nat} {NA_f : Nat → Int32} {OUT_f : Nat → Int64} (x1 : Int32) (x2 : Int32) (hN_O : zA ws0 0 (aO, .inr (0, [.int O_side, .ref aP, .ref aN, .ref aH, .ref aV, .ref aS, .ref aK, .ref aT, .ref aC, .ref aI]))) (hN_N : zA ws0 3 (aN, .inr (1, [.int N_mostSide, .ref aNA, .int N_side]))) (hN_NA : zA ws0 4 (aNA, .inl (cI, NA_n, .inl NA_f))) (hN_OUT : zA ws0 34 (aOUT, .inl (cL, OUT_n, .inr (.inl OUT_f)))) (r : Int32 × (Nat → Int64)) (hf : f_L_at x1 x2 N_side NA_n NA_f OUT_n OUT_f = some r) : Met l y_L_at w_L_at rm_L_at (va_Pc [.ref aO, .int x1, .int x2, .ref aOUT] (zMT dC dI cI cL ws0 sz)) (va_Qi (fun (v : Int32) (ws' : va_W) => v = r.1 ∧ zA ws' 34 (aOUT, .inl (cL, OUT_n, .inr (.inl r.2))) ∧ ∀ (j : Nat), j ∉ ([34] : List Nat) → ws'[j]? = ws0[j]?) (zQ dC dI cI cL (va_A ws0 sz)) (va_A ws0 sz)) 1 6 (va_A ws0 sz) := by
  refine va_MetW (cc := b_L_at) (maxL := 5) (ret := some .int) (by decide) rfl ?_
  intro p e s m args below meth c s₁ B hml hv
  obtain ⟨rfl, hsz, hP, hK, hZ, hD0, hX⟩ := hv
  have hx := B.exec
  have hb := B.bytes
  have hr := B.returns
  have hlocks := B.notSynchronized
  have hts : ∀ w ∈ BIG, w.before ([.ref aO, .int x1, .int x2, .ref aOUT] : List Value).toArray s = true := fun w h => atoms_spec (ws := w_L_at) B.pre w (List.mem_cons_of_mem _ h)
  have hown : s.vm.findClass "FractalMapsLaw" = some m.cls := findClass_of_methodNamed B.named
  have htab : c.exceptionTable.toList = [⟨0, 10, 13, 13⟩] := z_table B (atoms_spec (ws := w_L_at) B.pre _ List.mem_cons_self)
  subst hsz
  have hD := hD0.self (sz := s.heap.size)
  generalize hAe : va_A ws0 s.heap.size = A at hD ⊢
  have hA : ∀ q : Nat, s.heap.size ≤ q → A q := fun q h => by rw [← hAe]; exact Or.inr h
  have hS : va_S A s.heap s.heap [] := va_S.rf
  have hw : ∀ (j : Nat), j ∉ ([34] : List Nat) → ws0[j]? = ws0[j]? := fun _ _ => rfl
  have hl := lv_entry ([.ref aO, .int x1, .int x2, .ref aOUT]) (n := 5) (Nat.le_of_ble_eq_true rfl)
  rw [lg_entry_eq]
  generalize (lg_sl ([.ref aO, .int x1, .int x2, .ref aOUT]) ++ List.replicate (5 - (lg_sl ([.ref aO, .int x1, .int x2, .ref aOUT])).length) Slot.unset).toArray = ls at hl ⊢
  have hl : lv_has ls 5 [(0, .ref aO), (1, .int x1), (2, .int x2), (3, .ref aOUT)] := hl
  unfold f_L_at at hf
  refine lv_aload_n hx hb d_L_at_0 rfl (lv_at hl 3 rfl) ?_
  refine lv_iconst (v := 0) hx hb d_L_at_1 (by decide) ?_
  refine lv_aload_n hx hb d_L_at_2 rfl (lv_at hl 0 rfl) ?_
  refine lv_iload_n hx hb d_L_at_3 rfl (lv_at hl 1 rfl) ?_
  refine lv_iload_n hx hb d_L_at_4 rfl (lv_at hl 2 rfl) ?_
  obtain ⟨q1121, hc, hf⟩ := z_b hf
  have hFc := z_free hD hS hA
  rcases q1121 with kx | r1
  · have hf := z_sl hf
    by_cases ck1 : kx = 1
    · have hf := z_t ck1 hf
      subst ck1
      refine z_callThr (As := [.int x1, .int x2]) (rest := [.int (0 : Int32), .ref aOUT]) (b := aO) (k := 1) (hpc := 13) ⟨hx, hb, hml, hown, hts⟩ (c_F_at l hfl dC dI cI cL _ x1 x2 hN_O hN_N hN_NA (.inl 1) hc) (cw_L_42 hts ⟨Nat.le_of_ble_eq_true rfl, Nat.le_of_ble_eq_true rfl⟩) ⟨zbT, va_recv hK hP (ci := 0) rfl hN_O, zpT hP hK hZ hD hX (fun _ _ h _ => h)⟩ rfl hl.1 (Nat.le_of_ble_eq_true rfl) d_L_at_5 ⟨Nat.le_of_ble_eq_true rfl, Nat.le_of_ble_eq_true rfl⟩ (fun v u h => by obtain ⟨r1, h1, -⟩ := h; cases h1) (fun j h => (Sum.inl.inj h).symm) ⟨(xW_any (List.mem_of_getElem? (i := 3) rfl) (hX.2.2.2.1 _ (List.mem_of_getElem? (i := 3) rfl))), Or.inl ⟨⟨0, 10, 13, 13⟩, _, htab, by decide, by decide, by decide, rfl, (hts _ k_400)⟩⟩ hS (fun q _ h => hFc q h) hFc (fun ax t H locs ht hvm hB hS => ?_)
      obtain ⟨hP, -, hD1⟩ := hB
      rw [ht] at hP
      have hD := hD1.weaken (fun _ _ _ h => hFc _ h)
      refine lv_astore (lv' := [(4, .ref ax), (0, .ref aO), (1, .int x1), (2, .int x2), (3, .ref aOUT)]) hx hb d_L_at_13 hl (by decide) rfl (fun ls hl => ?_)
      refine lv_iconst (v := 1) hx hb d_L_at_15 (by decide) ?_
      obtain rfl := Option.some.inj hf
      exact W.iret hx hb hr (fun t ht hW => ⟨⟨_, ws0, rfl, ⟨rfl, hN_OUT, hw⟩, by rw [ht]; exact hP, va_K.moved hW.alike hK, hD⟩, hS.F ht⟩) hS.2.2 d_L_at_16
    have hf := z_f ck1 hf
    cases hf
  · have hf := z_sr hf
    refine z_callRet (As := [.int x1, .int x2]) (rest := [.int (0 : Int32), .ref aOUT]) (b := aO) ⟨hx, hb, hml, hown, hts⟩ (c_F_at l hfl dC dI cI cL _ x1 x2 hN_O hN_N hN_NA (.inr r1) hc) (cw_L_42 hts ⟨Nat.le_of_ble_eq_true rfl, Nat.le_of_ble_eq_true rfl⟩) ⟨zbT, va_recv hK hP (ci := 0) rfl hN_O, zpT hP hK hZ hD hX (fun _ _ h _ => h)⟩ rfl hl.1 (Nat.le_of_ble_eq_true rfl) d_L_at_5 ⟨Nat.le_of_ble_eq_true rfl, Nat.le_of_ble_eq_true rfl⟩ (fun k h => by cases h) hS (fun q _ h => hFc q h) hFc (fun rv ws t H locs ht hvm hu hB hS => ?_)
    obtain ⟨r2, hq2, hv, hfr⟩ := hu
    obtain rfl := Sum.inr.inj hq2
    have hv := hv.symm
    subst hv
    obtain ⟨hP, -, hD1⟩ := hB
    rw [ht] at hP
    have hD := hD1.weaken (fun _ _ _ h => hFc _ h)
    have hN_O := (hfr _ (by decide)).trans hN_O
    have hN_N := (hfr _ (by decide)).trans hN_N
    have hN_NA := (hfr _ (by decide)).trans hN_NA
    have hN_OUT := (hfr _ (by decide)).trans hN_OUT
    have hw := z_frC (by decide) hw hfr
    refine lv_i2l hx hb d_L_at_8 rfl ?_
    obtain ⟨hin, hf⟩ := z_no hf
    refine z_last hx hb hK hP hD hS hN_OUT rfl hin d_L_at_9 (fun ws H locs hP hD hS hN_OUT hfr => ?_)
    have hN_OUT : zA ws 34 (aOUT, .inl (cL, OUT_n, .inr (.inl (vp_updL OUT_f (0 : Int32).toNatClampNeg r1.toInt64)))) := hN_OUT
    have hN_O := (hfr _ (by decide)).trans hN_O
    have hN_N := (hfr _ (by decide)).trans hN_N
    have hN_NA := (hfr _ (by decide)).trans hN_NA
    have hw := z_fr (by decide) hw hfr
    refine lv_goto (tgt := 17) hx hb d_L_at_10 (by decide) ?_
    refine lv_iconst (v := 0) hx hb d_L_at_17 (by decide) ?_
    obtain rfl := Option.some.inj hf
    exact W.iret hx hb hr (fun t ht hW => ⟨⟨_, ws, rfl, ⟨rfl, hN_OUT, hw⟩, by rw [ht]; exact hP, va_K.moved hW.alike hK, hD⟩, hS.F ht⟩) hS.2.2 d_L_at_18
def f_L_missed (O_side : Int32) (P_side : Int32) (PA_n : Nat) (PA_f : Nat → Int32) (N_side : Int32) (NA_n : Nat) (NA_f : Nat → Int32) (OUT_n : Nat) (OUT_f : Nat → Int64) : Option (Int32 × (Nat → Int64)) := (f_F_missed O_side P_side PA_n PA_f N_side NA_n NA_f).bind (fun q1122 => Sum.elim (fun kx => if kx = 3 then (some ((1 : Int32), OUT_f)) else (none)) (fun r1 => if (0 : Int32) < 0 ∨ OUT_n ≤ (0 : Int32).toNatClampNeg then none else (some ((0 : Int32), (vp_updL OUT_f (0 : Int32).toNatClampNeg r1)))) q1122)
set_option maxHeartbeats 4000000 in
set_option maxRecDepth 100000 in
theorem c_L_missed (l : Launch) (hfl : l.flags = pinnedFlags ++ [noTraceFlag]) (dC : Nat → ClassId) (dI : Nat → Nat → Nat) (cI cL : ClassId) {ws0 : va_W} (sz : Nat) {aO aP aN aH aV aS aK aT aC aI aPA aNA aOUT : Nat} {O_side P_mostSide P_side N_mostSide N_side : Int32} {PA_n NA_n OUT_n : Nat} {PA_f NA_f : Nat → Int32} {OUT_f : Nat → Int64} (hN_O : zA ws0 0 (aO, .inr (0, [.int O_side, .ref aP, .ref aN, .ref aH, .ref aV, .ref aS, .ref aK, .ref aT, .ref aC, .ref aI]))) (hN_P : zA ws0 1 (aP, .inr (1, [.int P_mostSide, .ref aPA, .int P_side]))) (hN_PA : zA ws0 2 (aPA, .inl (cI, PA_n, .inl PA_f))) (hN_N : zA ws0 3 (aN, .inr (1, [.int N_mostSide, .ref aNA, .int N_side]))) (hN_NA : zA ws0 4 (aNA, .inl (cI, NA_n, .inl NA_f))) (hN_OUT : zA ws0 34 (aOUT, .inl (cL, OUT_n, .inr (.inl OUT_f)))) (r : Int32 × (Nat → Int64)) (hf : f_L_missed O_side P_side PA_n PA_f N_side NA_n NA_f OUT_n OUT_f = some r) : Met l y_L_missed w_L_missed rm_L_missed (va_Pc [.ref aO, .ref aOUT] (zMT dC dI cI cL ws0 sz)) (va_Qi (fun (v : Int32) (ws' : va_W) => v = r.1 ∧ zA ws' 34 (aOUT, .inl (cL, OUT_n, .inr (.inl r.2))) ∧ ∀ (j : Nat), j ∉ ([34] : List Nat) → ws'[j]? = ws0[j]?) (zQ dC dI cI cL (va_A ws0 sz)) (va_A ws0 sz)) 1 6 (va_A ws0 sz) := by
  refine va_MetW (cc := b_L_missed) (maxL := 3) (ret := some .int) (by decide) rfl ?_
  intro p e s m args below meth c s₁ B hml hv
  obtain ⟨rfl, hsz, hP, hK, hZ, hD0, hX⟩ := hv
  have hx := B.exec
  have hb := B.bytes
  have hr := B.returns
  have hlocks := B.notSynchronized
  have hts : ∀ w ∈ BIG, w.before ([.ref aO, .ref aOUT] : List Value).toArray s = true := fun w h => atoms_spec (ws := w_L_missed) B.pre w (List.mem_cons_of_mem _ h)
  have hown : s.vm.findClass "FractalMapsLaw" = some m.cls := findClass_of_methodNamed B.named
  have htab : c.exceptionTable.toList = [⟨0, 7, 10, 40⟩] := z_table B (atoms_spec (ws := w_L_missed) B.pre _ List.mem_cons_self)
  subst hsz
  have hD := hD0.self (sz := s.heap.size)
  generalize hAe : va_A ws0 s.heap.size = A at hD ⊢
  have hA : ∀ q : Nat, s.heap.size ≤ q → A q := fun q h => by rw [← hAe]; exact Or.inr h
  have hS : va_S A s.heap s.heap [] := va_S.rf
  have hw : ∀ (j : Nat), j ∉ ([34] : List Nat) → ws0[j]? = ws0[j]? := fun _ _ => rfl
  have hl := lv_entry ([.ref aO, .ref aOUT]) (n := 3) (Nat.le_of_ble_eq_true rfl)
  rw [lg_entry_eq]
  generalize (lg_sl ([.ref aO, .ref aOUT]) ++ List.replicate (3 - (lg_sl ([.ref aO, .ref aOUT])).length) Slot.unset).toArray = ls at hl ⊢
  have hl : lv_has ls 3 [(0, .ref aO), (1, .ref aOUT)] := hl
  unfold f_L_missed at hf
  refine lv_aload_n hx hb d_L_missed_0 rfl (lv_at hl 1 rfl) ?_
  refine lv_iconst (v := 0) hx hb d_L_missed_1 (by decide) ?_
  refine lv_aload_n hx hb d_L_missed_2 rfl (lv_at hl 0 rfl) ?_
  obtain ⟨q1122, hc, hf⟩ := z_b hf
  have hFc := z_free hD hS hA
  rcases q1122 with kx | r1
  · have hf := z_sl hf
    by_cases ck3 : kx = 3
    · have hf := z_t ck3 hf
      subst ck3
      refine z_callThr (As := []) (rest := [.int (0 : Int32), .ref aOUT]) (b := aO) (k := 3) (hpc := 10) ⟨hx, hb, hml, hown, hts⟩ (c_F_missed l hfl dC dI cI cL _ hN_O hN_P hN_PA hN_N hN_NA (.inl 3) hc) (cw_L_45 hts ⟨Nat.le_of_ble_eq_true rfl, Nat.le_of_ble_eq_true rfl⟩) ⟨zbT, va_recv hK hP (ci := 0) rfl hN_O, zpT hP hK hZ hD hX (fun _ _ h _ => h)⟩ rfl hl.1 (Nat.le_of_ble_eq_true rfl) d_L_missed_3 ⟨Nat.le_of_ble_eq_true rfl, Nat.le_of_ble_eq_true rfl⟩ (fun v u h => by obtain ⟨r1, h1, -⟩ := h; cases h1) (fun j h => (Sum.inl.inj h).symm) ⟨(xW_any (List.mem_of_getElem? (i := 5) rfl) (hX.2.2.2.1 _ (List.mem_of_getElem? (i := 5) rfl))), Or.inl ⟨⟨0, 7, 10, 40⟩, _, htab, by decide, by decide, by decide, rfl, (hts _ k_675)⟩⟩ hS (fun q _ h => hFc q h) hFc (fun ax t H locs ht hvm hB hS => ?_)
      obtain ⟨hP, -, hD1⟩ := hB
      rw [ht] at hP
      have hD := hD1.weaken (fun _ _ _ h => hFc _ h)
      refine lv_astore_n (lv' := [(2, .ref ax), (0, .ref aO), (1, .ref aOUT)]) hx hb d_L_missed_10 rfl hl (by decide) rfl (fun ls hl => ?_)
      refine lv_iconst (v := 1) hx hb d_L_missed_11 (by decide) ?_
      obtain rfl := Option.some.inj hf
      exact W.iret hx hb hr (fun t ht hW => ⟨⟨_, ws0, rfl, ⟨rfl, hN_OUT, hw⟩, by rw [ht]; exact hP, va_K.moved hW.alike hK, hD⟩, hS.F ht⟩) hS.2.2 d_L_missed_12
    have hf := z_f ck3 hf
    cases hf
  · have hf := z_sr hf
    refine z_callRet (As := []) (rest := [.int (0 : Int32), .ref aOUT]) (b := aO) ⟨hx, hb, hml, hown, hts⟩ (c_F_missed l hfl dC dI cI cL _ hN_O hN_P hN_PA hN_N hN_NA (.inr r1) hc) (cw_L_45 hts ⟨Nat.le_of_ble_eq_true rfl, Nat.le_of_ble_eq_true rfl⟩) ⟨zbT, va_recv hK hP (ci := 0) rfl hN_O, zpT hP hK hZ hD hX (fun _ _ h _ => h)⟩ rfl hl.1 (Nat.le_of_ble_eq_true rfl) d_L_missed_3 ⟨Nat.le_of_ble_eq_true rfl, Nat.le_of_ble_eq_true rfl⟩ (fun k h => by cases h) hS (fun q _ h => hFc q h) hFc (fun rv ws t H locs ht hvm hu hB hS => ?_)
    obtain ⟨r2, hq2, hv, hfr⟩ := hu
    obtain rfl := Sum.inr.inj hq2
    have hv := hv.symm
    subst hv
    obtain ⟨hP, -, hD1⟩ := hB
    rw [ht] at hP
    have hD := hD1.weaken (fun _ _ _ h => hFc _ h)
    have hN_O := (hfr _ (by decide)).trans hN_O
    have hN_P := (hfr _ (by decide)).trans hN_P
    have hN_PA := (hfr _ (by decide)).trans hN_PA
    have hN_N := (hfr _ (by decide)).trans hN_N
    have hN_NA := (hfr _ (by decide)).trans hN_NA
    have hN_OUT := (hfr _ (by decide)).trans hN_OUT
    have hw := z_frC (by decide) hw hfr
    obtain ⟨hin, hf⟩ := z_no hf
    refine z_last hx hb hK hP hD hS hN_OUT rfl hin d_L_missed_6 (fun ws H locs hP hD hS hN_OUT hfr => ?_)
    have hN_OUT : zA ws 34 (aOUT, .inl (cL, OUT_n, .inr (.inl (vp_updL OUT_f (0 : Int32).toNatClampNeg r1)))) := hN_OUT
    have hN_O := (hfr _ (by decide)).trans hN_O
    have hN_P := (hfr _ (by decide)).trans hN_P
    have hN_PA := (hfr _ (by decide)).trans hN_PA
    have hN_N := (hfr _ (by decide)).trans hN_N
    have hN_NA := (hfr _ (by decide)).trans hN_NA
    have hw := z_fr (by decide) hw hfr
    refine lv_goto (tgt := 13) hx hb d_L_missed_7 (by decide) ?_
    refine lv_iconst (v := 0) hx hb d_L_missed_13 (by decide) ?_
    obtain rfl := Option.some.inj hf
    exact W.iret hx hb hr (fun t ht hW => ⟨⟨_, ws, rfl, ⟨rfl, hN_OUT, hw⟩, by rw [ht]; exact hP, va_K.moved hW.alike hK, hD⟩, hS.F ht⟩) hS.2.2 d_L_missed_14
def f_L_domain (x1 : Int32) (x2 : Int32) (x3 : Int32) (x4 : Int32) (x5 : Int32) (O_side : Int32) (P_side : Int32) (PA_n : Nat) (PA_f : Nat → Int32) (H_mostSide : Int32) (H_side : Int32) (HA_n : Nat) (HA_f : Nat → Int32) (V_left : Int32) (V_top : Int32) (V_start : Int32) (V_stepAcross : Int32) (V_stepDown : Int32) (OUT_n : Nat) (OUT_f : Nat → Int64) : Option (Int32 × Int32 × (Nat → Int32) × Int32 × Int32 × Int32 × Int32 × Int32 × (Nat → Int64)) := (f_F_domain x1 x2 x3 x4 x5 O_side P_side PA_n PA_f H_mostSide H_side HA_n HA_f V_left V_top V_start V_stepAcross V_stepDown).bind (fun q1123 => Sum.elim (fun kx => if kx = 1 then (some ((2 : Int32), H_side, HA_f, V_left, V_top, V_start, V_stepAcross, V_stepDown, OUT_f)) else (if kx = 2 then (some ((1 : Int32), H_side, HA_f, V_left, V_top, V_start, V_stepAcross, V_stepDown, OUT_f)) else (none))) (fun r1 => if (0 : Int32) < 0 ∨ OUT_n ≤ (0 : Int32).toNatClampNeg then none else (some ((0 : Int32), r1.2.1, r1.2.2.1, r1.2.2.2.1, r1.2.2.2.2.1, r1.2.2.2.2.2.1, r1.2.2.2.2.2.2.1, r1.2.2.2.2.2.2.2, (vp_updL OUT_f (0 : Int32).toNatClampNeg r1.1.toInt64)))) q1123)
set_option maxHeartbeats 4000000 in
set_option maxRecDepth 100000 in
theorem c_L_domain (l : Launch) (hfl : l.flags = pinnedFlags ++ [noTraceFlag]) (dC : Nat → ClassId) (dI : Nat → Nat → Nat) (cI cL : ClassId) {ws0 : va_W} (sz : Nat) {aO aP aN aH aV aS aK aT aC aI aPA aHA aOUT : Nat} {O_side P_mostSide P_side H_mostSide H_side V_left V_top V_start V_stepAcross V_stepDown : Int32} {PA_n HA_n OUT_n : Nat} {PA_f HA_f : Nat → Int32} {OUT_f : Nat → Int64} (x1 : Int32) (x2 : Int32) (x3 : Int32) (x4 : Int32) (x5 : Int32) (hN_O : zA ws0 0 (aO, .inr (0, [.int O_side, .ref aP, .ref aN, .ref aH, .ref aV, .ref aS, .ref aK, .ref aT, .ref aC, .ref aI]))) (hN_P : zA ws0 1 (aP, .inr (1, [.int P_mostSide, .ref aPA, .int P_side]))) (hN_PA : zA ws0 2 (aPA, .inl (cI, PA_n, .inl PA_f))) (hN_H : zA ws0 5 (aH, .inr (1, [.int H_mostSide, .ref aHA, .int H_side]))) (hN_HA : zA ws0 6 (aHA, .inl (cI, HA_n, .inl HA_f))) (hN_V : zA ws0 7 (aV, .inr (2, [.ref aH, .int V_left, .int V_top, .int V_start, .int V_stepAcross, .int V_stepDown]))) (hN_OUT : zA ws0 34 (aOUT, .inl (cL, OUT_n, .inr (.inl OUT_f)))) (r : Int32 × Int32 × (Nat → Int32) × Int32 × Int32 × Int32 × Int32 × Int32 × (Nat → Int64)) (hf : f_L_domain x1 x2 x3 x4 x5 O_side P_side PA_n PA_f H_mostSide H_side HA_n HA_f V_left V_top V_start V_stepAcross V_stepDown OUT_n OUT_f = some r) : Met l y_L_domain w_L_domain rm_L_domain (va_Pc [.ref aO, .int x1, .int x2, .int x3, .int x4, .int x5, .ref aOUT] (zMT dC dI cI cL ws0 sz)) (va_Qi (fun (v : Int32) (ws' : va_W) => v = r.1 ∧ zA ws' 5 (aH, .inr (1, [.int H_mostSide, .ref aHA, .int r.2.1])) ∧ zA ws' 6 (aHA, .inl (cI, HA_n, .inl r.2.2.1)) ∧ zA ws' 7 (aV, .inr (2, [.ref aH, .int r.2.2.2.1, .int r.2.2.2.2.1, .int r.2.2.2.2.2.1, .int r.2.2.2.2.2.2.1, .int r.2.2.2.2.2.2.2.1])) ∧ zA ws' 34 (aOUT, .inl (cL, OUT_n, .inr (.inl r.2.2.2.2.2.2.2.2))) ∧ ∀ (j : Nat), j ∉ ([5, 6, 7, 34] : List Nat) → ws'[j]? = ws0[j]?) (zQ dC dI cI cL (va_A ws0 sz)) (va_A ws0 sz)) 1 6 (va_A ws0 sz) := by
  refine va_MetW (cc := b_L_domain) (maxL := 8) (ret := some .int) (by decide) rfl ?_
  intro p e s m args below meth c s₁ B hml hv
  obtain ⟨rfl, hsz, hP, hK, hZ, hD0, hX⟩ := hv
  have hx := B.exec
  have hb := B.bytes
  have hr := B.returns
  have hlocks := B.notSynchronized
  have hts : ∀ w ∈ BIG, w.before ([.ref aO, .int x1, .int x2, .int x3, .int x4, .int x5, .ref aOUT] : List Value).toArray s = true := fun w h => atoms_spec (ws := w_L_domain) B.pre w (List.mem_cons_of_mem _ h)
  have hown : s.vm.findClass "FractalMapsLaw" = some m.cls := findClass_of_methodNamed B.named
  have htab : c.exceptionTable.toList = [⟨0, 16, 19, 15⟩, ⟨0, 16, 23, 13⟩] := z_table B (atoms_spec (ws := w_L_domain) B.pre _ List.mem_cons_self)
  subst hsz
  have hD := hD0.self (sz := s.heap.size)
  generalize hAe : va_A ws0 s.heap.size = A at hD ⊢
  have hA : ∀ q : Nat, s.heap.size ≤ q → A q := fun q h => by rw [← hAe]; exact Or.inr h
  have hS : va_S A s.heap s.heap [] := va_S.rf
  have hw : ∀ (j : Nat), j ∉ ([5, 6, 7, 34] : List Nat) → ws0[j]? = ws0[j]? := fun _ _ => rfl
  have hl := lv_entry ([.ref aO, .int x1, .int x2, .int x3, .int x4, .int x5, .ref aOUT]) (n := 8) (Nat.le_of_ble_eq_true rfl)
  rw [lg_entry_eq]
  generalize (lg_sl ([.ref aO, .int x1, .int x2, .int x3, .int x4, .int x5, .ref aOUT]) ++ List.replicate (8 - (lg_sl ([.ref aO, .int x1, .int x2, .int x3, .int x4, .int x5, .ref aOUT])).length) Slot.unset).toArray = ls at hl ⊢
  have hl : lv_has ls 8 [(0, .ref aO), (1, .int x1), (2, .int x2), (3, .int x3), (4, .int x4), (5, .int x5), (6, .ref aOUT)] := hl
  unfold f_L_domain at hf
  refine lv_aload hx hb d_L_domain_0 (lv_at hl 6 rfl) ?_
  refine lv_iconst (v := 0) hx hb d_L_domain_2 (by decide) ?_
  refine lv_aload_n hx hb d_L_domain_3 rfl (lv_at hl 0 rfl) ?_
  refine lv_iload_n hx hb d_L_domain_4 rfl (lv_at hl 1 rfl) ?_
  refine lv_iload_n hx hb d_L_domain_5 rfl (lv_at hl 2 rfl) ?_
  refine lv_iload_n hx hb d_L_domain_6 rfl (lv_at hl 3 rfl) ?_
  refine lv_iload hx hb d_L_domain_7 (lv_at hl 4 rfl) ?_
  refine lv_iload hx hb d_L_domain_9 (lv_at hl 5 rfl) ?_
  obtain ⟨q1123, hc, hf⟩ := z_b hf
  have hFc := z_free hD hS hA
  rcases q1123 with kx | r1
  · have hf := z_sl hf
    by_cases ck1 : kx = 1
    · have hf := z_t ck1 hf
      subst ck1
      refine z_callThr (As := [.int x1, .int x2, .int x3, .int x4, .int x5]) (rest := [.int (0 : Int32), .ref aOUT]) (b := aO) (k := 1) (hpc := 23) ⟨hx, hb, hml, hown, hts⟩ (c_F_domain l hfl dC dI cI cL _ x1 x2 x3 x4 x5 hN_O hN_P hN_PA hN_H hN_HA hN_V (.inl 1) hc) (cw_L_49 hts ⟨Nat.le_of_ble_eq_true rfl, Nat.le_of_ble_eq_true rfl⟩) ⟨zbT, va_recv hK hP (ci := 0) rfl hN_O, zpT hP hK hZ hD hX (fun _ _ h _ => h)⟩ rfl hl.1 (Nat.le_of_ble_eq_true rfl) d_L_domain_11 ⟨Nat.le_of_ble_eq_true rfl, Nat.le_of_ble_eq_true rfl⟩ (fun v u h => by obtain ⟨r1, h1, -⟩ := h; cases h1) (fun j h => (Sum.inl.inj h).symm) ⟨(xW_any (List.mem_of_getElem? (i := 3) rfl) (hX.2.2.2.1 _ (List.mem_of_getElem? (i := 3) rfl))), Or.inr ⟨⟨0, 16, 19, 15⟩, ⟨0, 16, 23, 13⟩, _, "java/lang/IllegalArgumentException", htab, by decide, by decide, by decide, by decide, by decide, by decide, rfl, (hts _ k_401), (hts _ k_400), hX.2.2.2.2 _ (List.mem_of_getElem? (i := 3) rfl)⟩⟩ hS (fun q _ h => hFc q h) hFc (fun ax t H locs ht hvm hB hS => ?_)
      obtain ⟨hP, -, hD1⟩ := hB
      rw [ht] at hP
      have hD := hD1.weaken (fun _ _ _ h => hFc _ h)
      refine lv_astore (lv' := [(7, .ref ax), (0, .ref aO), (1, .int x1), (2, .int x2), (3, .int x3), (4, .int x4), (5, .int x5), (6, .ref aOUT)]) hx hb d_L_domain_23 hl (by decide) rfl (fun ls hl => ?_)
      refine lv_iconst (v := 2) hx hb d_L_domain_25 (by decide) ?_
      obtain rfl := Option.some.inj hf
      exact W.iret hx hb hr (fun t ht hW => ⟨⟨_, ws0, rfl, (by dsimp only; exact ⟨rfl, hN_H, hN_HA, hN_V, hN_OUT, hw⟩), by rw [ht]; exact hP, va_K.moved hW.alike hK, hD⟩, hS.F ht⟩) hS.2.2 d_L_domain_26
    have hf := z_f ck1 hf
    by_cases ck2 : kx = 2
    · have hf := z_t ck2 hf
      subst ck2
      refine z_callThr (As := [.int x1, .int x2, .int x3, .int x4, .int x5]) (rest := [.int (0 : Int32), .ref aOUT]) (b := aO) (k := 2) (hpc := 19) ⟨hx, hb, hml, hown, hts⟩ (c_F_domain l hfl dC dI cI cL _ x1 x2 x3 x4 x5 hN_O hN_P hN_PA hN_H hN_HA hN_V (.inl 2) hc) (cw_L_49 hts ⟨Nat.le_of_ble_eq_true rfl, Nat.le_of_ble_eq_true rfl⟩) ⟨zbT, va_recv hK hP (ci := 0) rfl hN_O, zpT hP hK hZ hD hX (fun _ _ h _ => h)⟩ rfl hl.1 (Nat.le_of_ble_eq_true rfl) d_L_domain_11 ⟨Nat.le_of_ble_eq_true rfl, Nat.le_of_ble_eq_true rfl⟩ (fun v u h => by obtain ⟨r1, h1, -⟩ := h; cases h1) (fun j h => (Sum.inl.inj h).symm) ⟨(xW_any (List.mem_of_getElem? (i := 4) rfl) (hX.2.2.2.1 _ (List.mem_of_getElem? (i := 4) rfl))), Or.inl ⟨⟨0, 16, 19, 15⟩, _, htab, by decide, by decide, by decide, rfl, (hts _ k_401)⟩⟩ hS (fun q _ h => hFc q h) hFc (fun ax t H locs ht hvm hB hS => ?_)
      obtain ⟨hP, -, hD1⟩ := hB
      rw [ht] at hP
      have hD := hD1.weaken (fun _ _ _ h => hFc _ h)
      refine lv_astore (lv' := [(7, .ref ax), (0, .ref aO), (1, .int x1), (2, .int x2), (3, .int x3), (4, .int x4), (5, .int x5), (6, .ref aOUT)]) hx hb d_L_domain_19 hl (by decide) rfl (fun ls hl => ?_)
      refine lv_iconst (v := 1) hx hb d_L_domain_21 (by decide) ?_
      obtain rfl := Option.some.inj hf
      exact W.iret hx hb hr (fun t ht hW => ⟨⟨_, ws0, rfl, (by dsimp only; exact ⟨rfl, hN_H, hN_HA, hN_V, hN_OUT, hw⟩), by rw [ht]; exact hP, va_K.moved hW.alike hK, hD⟩, hS.F ht⟩) hS.2.2 d_L_domain_22
    have hf := z_f ck2 hf
    cases hf
  · have hf := z_sr hf
    refine z_callRet (As := [.int x1, .int x2, .int x3, .int x4, .int x5]) (rest := [.int (0 : Int32), .ref aOUT]) (b := aO) ⟨hx, hb, hml, hown, hts⟩ (c_F_domain l hfl dC dI cI cL _ x1 x2 x3 x4 x5 hN_O hN_P hN_PA hN_H hN_HA hN_V (.inr r1) hc) (cw_L_49 hts ⟨Nat.le_of_ble_eq_true rfl, Nat.le_of_ble_eq_true rfl⟩) ⟨zbT, va_recv hK hP (ci := 0) rfl hN_O, zpT hP hK hZ hD hX (fun _ _ h _ => h)⟩ rfl hl.1 (Nat.le_of_ble_eq_true rfl) d_L_domain_11 ⟨Nat.le_of_ble_eq_true rfl, Nat.le_of_ble_eq_true rfl⟩ (fun k h => by cases h) hS (fun q _ h => hFc q h) hFc (fun rv ws t H locs ht hvm hu hB hS => ?_)
    obtain ⟨r2, hq2, hv, hN_H, hN_HA, hN_V, hfr⟩ := hu
    obtain rfl := Sum.inr.inj hq2
    have hv := hv.symm
    subst hv
    obtain ⟨hP, -, hD1⟩ := hB
    rw [ht] at hP
    have hD := hD1.weaken (fun _ _ _ h => hFc _ h)
    have hN_H : zA ws 5 (aH, .inr (1, [.int H_mostSide, .ref aHA, .int r1.2.1])) := hN_H
    have hN_HA : zA ws 6 (aHA, .inl (cI, HA_n, .inl r1.2.2.1)) := hN_HA
    have hN_V : zA ws 7 (aV, .inr (2, [.ref aH, .int r1.2.2.2.1, .int r1.2.2.2.2.1, .int r1.2.2.2.2.2.1, .int r1.2.2.2.2.2.2.1, .int r1.2.2.2.2.2.2.2])) := hN_V
    have hN_O := (hfr _ (by decide)).trans hN_O
    have hN_P := (hfr _ (by decide)).trans hN_P
    have hN_PA := (hfr _ (by decide)).trans hN_PA
    have hN_OUT := (hfr _ (by decide)).trans hN_OUT
    have hw := z_frC (by decide) hw hfr
    refine lv_i2l hx hb d_L_domain_14 rfl ?_
    obtain ⟨hin, hf⟩ := z_no hf
    refine z_last hx hb hK hP hD hS hN_OUT rfl hin d_L_domain_15 (fun ws H locs hP hD hS hN_OUT hfr => ?_)
    have hN_OUT : zA ws 34 (aOUT, .inl (cL, OUT_n, .inr (.inl (vp_updL OUT_f (0 : Int32).toNatClampNeg r1.1.toInt64)))) := hN_OUT
    have hN_O := (hfr _ (by decide)).trans hN_O
    have hN_P := (hfr _ (by decide)).trans hN_P
    have hN_PA := (hfr _ (by decide)).trans hN_PA
    have hN_H := (hfr _ (by decide)).trans hN_H
    have hN_HA := (hfr _ (by decide)).trans hN_HA
    have hN_V := (hfr _ (by decide)).trans hN_V
    have hw := z_fr (by decide) hw hfr
    refine lv_goto (tgt := 27) hx hb d_L_domain_16 (by decide) ?_
    refine lv_iconst (v := 0) hx hb d_L_domain_27 (by decide) ?_
    obtain rfl := Option.some.inj hf
    exact W.iret hx hb hr (fun t ht hW => ⟨⟨_, ws, rfl, (by dsimp only; exact ⟨rfl, hN_H, hN_HA, hN_V, hN_OUT, hw⟩), by rw [ht]; exact hP, va_K.moved hW.alike hK, hD⟩, hS.F ht⟩) hS.2.2 d_L_domain_28
def f_L_kind (x1 : Int32) (x2 : Int32) (x3 : Int32) (O_side : Int32) (P_side : Int32) (PA_n : Nat) (PA_f : Nat → Int32) (OUT_n : Nat) (OUT_f : Nat → Int64) : Option (Int32 × (Nat → Int64)) := (f_F_kind x1 x2 x3 O_side P_side PA_n PA_f).bind (fun q1124 => Sum.elim (fun kx => if kx = 1 then (some ((2 : Int32), OUT_f)) else (if kx = 2 then (some ((1 : Int32), OUT_f)) else (none))) (fun r1 => if (0 : Int32) < 0 ∨ OUT_n ≤ (0 : Int32).toNatClampNeg then none else (some ((0 : Int32), (vp_updL OUT_f (0 : Int32).toNatClampNeg r1.toInt64)))) q1124)
set_option maxHeartbeats 4000000 in
set_option maxRecDepth 100000 in
theorem c_L_kind (l : Launch) (hfl : l.flags = pinnedFlags ++ [noTraceFlag]) (dC : Nat → ClassId) (dI : Nat → Nat → Nat) (cI cL : ClassId) {ws0 : va_W} (sz : Nat) {aO aP aN aH aV aS aK aT aC aI aPA aOUT : Nat} {O_side P_mostSide P_side : Int32} {PA_n OUT_n : Nat} {PA_f : Nat → Int32} {OUT_f : Nat → Int64} (x1 : Int32) (x2 : Int32) (x3 : Int32) (hN_O : zA ws0 0 (aO, .inr (0, [.int O_side, .ref aP, .ref aN, .ref aH, .ref aV, .ref aS, .ref aK, .ref aT, .ref aC, .ref aI]))) (hN_P : zA ws0 1 (aP, .inr (1, [.int P_mostSide, .ref aPA, .int P_side]))) (hN_PA : zA ws0 2 (aPA, .inl (cI, PA_n, .inl PA_f))) (hN_OUT : zA ws0 34 (aOUT, .inl (cL, OUT_n, .inr (.inl OUT_f)))) (r : Int32 × (Nat → Int64)) (hf : f_L_kind x1 x2 x3 O_side P_side PA_n PA_f OUT_n OUT_f = some r) : Met l y_L_kind w_L_kind rm_L_kind (va_Pc [.ref aO, .int x1, .int x2, .int x3, .ref aOUT] (zMT dC dI cI cL ws0 sz)) (va_Qi (fun (v : Int32) (ws' : va_W) => v = r.1 ∧ zA ws' 34 (aOUT, .inl (cL, OUT_n, .inr (.inl r.2))) ∧ ∀ (j : Nat), j ∉ ([34] : List Nat) → ws'[j]? = ws0[j]?) (zQ dC dI cI cL (va_A ws0 sz)) (va_A ws0 sz)) 1 6 (va_A ws0 sz) := by
  refine va_MetW (cc := b_L_kind) (maxL := 6) (ret := some .int) (by decide) rfl ?_
  intro p e s m args below meth c s₁ B hml hv
  obtain ⟨rfl, hsz, hP, hK, hZ, hD0, hX⟩ := hv
  have hx := B.exec
  have hb := B.bytes
  have hr := B.returns
  have hlocks := B.notSynchronized
  have hts : ∀ w ∈ BIG, w.before ([.ref aO, .int x1, .int x2, .int x3, .ref aOUT] : List Value).toArray s = true := fun w h => atoms_spec (ws := w_L_kind) B.pre w (List.mem_cons_of_mem _ h)
  have hown : s.vm.findClass "FractalMapsLaw" = some m.cls := findClass_of_methodNamed B.named
  have htab : c.exceptionTable.toList = [⟨0, 12, 15, 15⟩, ⟨0, 12, 19, 13⟩] := z_table B (atoms_spec (ws := w_L_kind) B.pre _ List.mem_cons_self)
  subst hsz
  have hD := hD0.self (sz := s.heap.size)
  generalize hAe : va_A ws0 s.heap.size = A at hD ⊢
  have hA : ∀ q : Nat, s.heap.size ≤ q → A q := fun q h => by rw [← hAe]; exact Or.inr h
  have hS : va_S A s.heap s.heap [] := va_S.rf
  have hw : ∀ (j : Nat), j ∉ ([34] : List Nat) → ws0[j]? = ws0[j]? := fun _ _ => rfl
  have hl := lv_entry ([.ref aO, .int x1, .int x2, .int x3, .ref aOUT]) (n := 6) (Nat.le_of_ble_eq_true rfl)
  rw [lg_entry_eq]
  generalize (lg_sl ([.ref aO, .int x1, .int x2, .int x3, .ref aOUT]) ++ List.replicate (6 - (lg_sl ([.ref aO, .int x1, .int x2, .int x3, .ref aOUT])).length) Slot.unset).toArray = ls at hl ⊢
  have hl : lv_has ls 6 [(0, .ref aO), (1, .int x1), (2, .int x2), (3, .int x3), (4, .ref aOUT)] := hl
  unfold f_L_kind at hf
  refine lv_aload hx hb d_L_kind_0 (lv_at hl 4 rfl) ?_
  refine lv_iconst (v := 0) hx hb d_L_kind_2 (by decide) ?_
  refine lv_aload_n hx hb d_L_kind_3 rfl (lv_at hl 0 rfl) ?_
  refine lv_iload_n hx hb d_L_kind_4 rfl (lv_at hl 1 rfl) ?_
  refine lv_iload_n hx hb d_L_kind_5 rfl (lv_at hl 2 rfl) ?_
  refine lv_iload_n hx hb d_L_kind_6 rfl (lv_at hl 3 rfl) ?_
  obtain ⟨q1124, hc, hf⟩ := z_b hf
  have hFc := z_free hD hS hA
  rcases q1124 with kx | r1
  · have hf := z_sl hf
    by_cases ck1 : kx = 1
    · have hf := z_t ck1 hf
      subst ck1
      refine z_callThr (As := [.int x1, .int x2, .int x3]) (rest := [.int (0 : Int32), .ref aOUT]) (b := aO) (k := 1) (hpc := 19) ⟨hx, hb, hml, hown, hts⟩ (c_F_kind l hfl dC dI cI cL _ x1 x2 x3 hN_O hN_P hN_PA (.inl 1) hc) (cw_L_53 hts ⟨Nat.le_of_ble_eq_true rfl, Nat.le_of_ble_eq_true rfl⟩) ⟨zbT, va_recv hK hP (ci := 0) rfl hN_O, zpT hP hK hZ hD hX (fun _ _ h _ => h)⟩ rfl hl.1 (Nat.le_of_ble_eq_true rfl) d_L_kind_7 ⟨Nat.le_of_ble_eq_true rfl, Nat.le_of_ble_eq_true rfl⟩ (fun v u h => by obtain ⟨r1, h1, -⟩ := h; cases h1) (fun j h => (Sum.inl.inj h).symm) ⟨(xW_any (List.mem_of_getElem? (i := 3) rfl) (hX.2.2.2.1 _ (List.mem_of_getElem? (i := 3) rfl))), Or.inr ⟨⟨0, 12, 15, 15⟩, ⟨0, 12, 19, 13⟩, _, "java/lang/IllegalArgumentException", htab, by decide, by decide, by decide, by decide, by decide, by decide, rfl, (hts _ k_401), (hts _ k_400), hX.2.2.2.2 _ (List.mem_of_getElem? (i := 3) rfl)⟩⟩ hS (fun q _ h => hFc q h) hFc (fun ax t H locs ht hvm hB hS => ?_)
      obtain ⟨hP, -, hD1⟩ := hB
      rw [ht] at hP
      have hD := hD1.weaken (fun _ _ _ h => hFc _ h)
      refine lv_astore (lv' := [(5, .ref ax), (0, .ref aO), (1, .int x1), (2, .int x2), (3, .int x3), (4, .ref aOUT)]) hx hb d_L_kind_19 hl (by decide) rfl (fun ls hl => ?_)
      refine lv_iconst (v := 2) hx hb d_L_kind_21 (by decide) ?_
      obtain rfl := Option.some.inj hf
      exact W.iret hx hb hr (fun t ht hW => ⟨⟨_, ws0, rfl, ⟨rfl, hN_OUT, hw⟩, by rw [ht]; exact hP, va_K.moved hW.alike hK, hD⟩, hS.F ht⟩) hS.2.2 d_L_kind_22
    have hf := z_f ck1 hf
    by_cases ck2 : kx = 2
    · have hf := z_t ck2 hf
      subst ck2
      refine z_callThr (As := [.int x1, .int x2, .int x3]) (rest := [.int (0 : Int32), .ref aOUT]) (b := aO) (k := 2) (hpc := 15) ⟨hx, hb, hml, hown, hts⟩ (c_F_kind l hfl dC dI cI cL _ x1 x2 x3 hN_O hN_P hN_PA (.inl 2) hc) (cw_L_53 hts ⟨Nat.le_of_ble_eq_true rfl, Nat.le_of_ble_eq_true rfl⟩) ⟨zbT, va_recv hK hP (ci := 0) rfl hN_O, zpT hP hK hZ hD hX (fun _ _ h _ => h)⟩ rfl hl.1 (Nat.le_of_ble_eq_true rfl) d_L_kind_7 ⟨Nat.le_of_ble_eq_true rfl, Nat.le_of_ble_eq_true rfl⟩ (fun v u h => by obtain ⟨r1, h1, -⟩ := h; cases h1) (fun j h => (Sum.inl.inj h).symm) ⟨(xW_any (List.mem_of_getElem? (i := 4) rfl) (hX.2.2.2.1 _ (List.mem_of_getElem? (i := 4) rfl))), Or.inl ⟨⟨0, 12, 15, 15⟩, _, htab, by decide, by decide, by decide, rfl, (hts _ k_401)⟩⟩ hS (fun q _ h => hFc q h) hFc (fun ax t H locs ht hvm hB hS => ?_)
      obtain ⟨hP, -, hD1⟩ := hB
      rw [ht] at hP
      have hD := hD1.weaken (fun _ _ _ h => hFc _ h)
      refine lv_astore (lv' := [(5, .ref ax), (0, .ref aO), (1, .int x1), (2, .int x2), (3, .int x3), (4, .ref aOUT)]) hx hb d_L_kind_15 hl (by decide) rfl (fun ls hl => ?_)
      refine lv_iconst (v := 1) hx hb d_L_kind_17 (by decide) ?_
      obtain rfl := Option.some.inj hf
      exact W.iret hx hb hr (fun t ht hW => ⟨⟨_, ws0, rfl, ⟨rfl, hN_OUT, hw⟩, by rw [ht]; exact hP, va_K.moved hW.alike hK, hD⟩, hS.F ht⟩) hS.2.2 d_L_kind_18
    have hf := z_f ck2 hf
    cases hf
  · have hf := z_sr hf
    refine z_callRet (As := [.int x1, .int x2, .int x3]) (rest := [.int (0 : Int32), .ref aOUT]) (b := aO) ⟨hx, hb, hml, hown, hts⟩ (c_F_kind l hfl dC dI cI cL _ x1 x2 x3 hN_O hN_P hN_PA (.inr r1) hc) (cw_L_53 hts ⟨Nat.le_of_ble_eq_true rfl, Nat.le_of_ble_eq_true rfl⟩) ⟨zbT, va_recv hK hP (ci := 0) rfl hN_O, zpT hP hK hZ hD hX (fun _ _ h _ => h)⟩ rfl hl.1 (Nat.le_of_ble_eq_true rfl) d_L_kind_7 ⟨Nat.le_of_ble_eq_true rfl, Nat.le_of_ble_eq_true rfl⟩ (fun k h => by cases h) hS (fun q _ h => hFc q h) hFc (fun rv ws t H locs ht hvm hu hB hS => ?_)
    obtain ⟨r2, hq2, hv, hfr⟩ := hu
    obtain rfl := Sum.inr.inj hq2
    have hv := hv.symm
    subst hv
    obtain ⟨hP, -, hD1⟩ := hB
    rw [ht] at hP
    have hD := hD1.weaken (fun _ _ _ h => hFc _ h)
    have hN_O := (hfr _ (by decide)).trans hN_O
    have hN_P := (hfr _ (by decide)).trans hN_P
    have hN_PA := (hfr _ (by decide)).trans hN_PA
    have hN_OUT := (hfr _ (by decide)).trans hN_OUT
    have hw := z_frC (by decide) hw hfr
    refine lv_i2l hx hb d_L_kind_10 rfl ?_
    obtain ⟨hin, hf⟩ := z_no hf
    refine z_last hx hb hK hP hD hS hN_OUT rfl hin d_L_kind_11 (fun ws H locs hP hD hS hN_OUT hfr => ?_)
    have hN_OUT : zA ws 34 (aOUT, .inl (cL, OUT_n, .inr (.inl (vp_updL OUT_f (0 : Int32).toNatClampNeg r1.toInt64)))) := hN_OUT
    have hN_O := (hfr _ (by decide)).trans hN_O
    have hN_P := (hfr _ (by decide)).trans hN_P
    have hN_PA := (hfr _ (by decide)).trans hN_PA
    have hw := z_fr (by decide) hw hfr
    refine lv_goto (tgt := 23) hx hb d_L_kind_12 (by decide) ?_
    refine lv_iconst (v := 0) hx hb d_L_kind_23 (by decide) ?_
    obtain rfl := Option.some.inj hf
    exact W.iret hx hb hr (fun t ht hW => ⟨⟨_, ws, rfl, ⟨rfl, hN_OUT, hw⟩, by rw [ht]; exact hP, va_K.moved hW.alike hK, hD⟩, hS.F ht⟩) hS.2.2 d_L_kind_24
